def zBit (v k : Int32) : Int32 := (v >>> (k &&& 31)) &&& 1
def zWays (cr inn : Int32) (f1 : Nat → Int32) (x : Int32) : Int32 := if 0 ≤ x.toInt ∧ x.toInt < cr.toInt ∧ x.toInt < 7 ∧ zBit inn x = 0 then f1 x.toNatClampNeg else 0
def zTarget (cr : Int32) (f1 f2 : Nat → Int32) (x y : Int32) : Int32 := if 0 ≤ x.toInt ∧ x.toInt < cr.toInt ∧ x.toInt < 7 ∧ 0 ≤ y.toInt ∧ y.toInt < (f1 x.toNatClampNeg).toInt ∧ y.toInt < 4 then f2 (4 * x.toNatClampNeg + y.toNatClampNeg) else -1
def zAddA (cr : Int32) (f1 : Nat → Int32) (x : Int32) : Nat → Int32 := if 0 ≤ x.toInt ∧ x.toInt < cr.toInt ∧ x.toInt < 7 ∧ (f1 x.toNatClampNeg).toInt < 4 then upd f1 x.toNatClampNeg (f1 x.toNatClampNeg + 1) else f1
def zAddB (cr : Int32) (f1 f2 : Nat → Int32) (x to : Int32) : Nat → Int32 := if 0 ≤ x.toInt ∧ x.toInt < cr.toInt ∧ x.toInt < 7 ∧ (f1 x.toNatClampNeg).toInt < 4 then upd f2 (4 * x.toNatClampNeg + (f1 x.toNatClampNeg).toNatClampNeg) to else f2
/-- what is known of a land: as many crossings, roads as may be -/
def zLI (cr : Int32) (f1 f3 : Nat → Int32) : Prop := (0 ≤ cr.toInt ∧ cr.toInt ≤ 7) ∧ (∀ j, j < 7 → 0 ≤ (f1 j).toInt ∧ (f1 j).toInt ≤ 4) ∧ ∀ j, j < 7 → 0 ≤ (f3 j).toInt ∧ (f3 j).toInt ≤ 1000
theorem z_clI {x : Int32} (h : 0 ≤ x.toInt) : (x.toNatClampNeg : Int) = x.toInt := by
  have e : x.toNatClampNeg = x.toInt.toNat := rfl
  rw [e]
  omega
theorem zWays_in {cr inn : Int32} {f1 : Nat → Int32} {x : Int32} (h : ¬ zWays cr inn f1 x = 0) : 0 ≤ x.toInt ∧ x.toInt < cr.toInt ∧ x.toInt < 7 ∧ zBit inn x = 0 ∧ zWays cr inn f1 x = f1 x.toNatClampNeg := by
  unfold zWays at h ⊢
  by_cases q : 0 ≤ x.toInt ∧ x.toInt < cr.toInt ∧ x.toInt < 7 ∧ zBit inn x = 0
  · exact ⟨q.1, q.2.1, q.2.2.1, q.2.2.2, if_pos q⟩
  · rw [if_neg q] at h
    exact absurd rfl h
theorem zWays_le {cr inn : Int32} {f1 f3 : Nat → Int32} (hf : zLI cr f1 f3) (x : Int32) : 0 ≤ (zWays cr inn f1 x).toInt ∧ (zWays cr inn f1 x).toInt ≤ 4 := by
  unfold zWays
  split
  · rename_i q
    have e := z_clI q.1
    exact hf.2.1 _ (by omega)
  · exact ⟨by decide, by decide⟩
set_option maxHeartbeats 4000000 in
set_option maxRecDepth 100000 in
/-- c_has -/
theorem c_has (l : Launch) (T : zTy) (h : Nat) (cr : Int32) (inn : Int32) (f1 : Nat → Int32) (f2 : Nat → Int32) (f3 : Nat → Int32) (f4 : Nat → Int32) (w : va_W) (x : Int32) (hw : bLand T h cr inn f1 f2 f3 f4 w) : zMi l T yX4_has cX4_has 2 (some .boolean) 1 0 0 [.ref h, .int x] [w] (fun (r : Int32) bs => bs = [w] ∧ ((r = 1 ∧ 0 ≤ x.toInt ∧ x.toInt < cr.toInt ∧ x.toInt < 7) ∨ (r = 0 ∧ (x.toInt < 0 ∨ cr.toInt ≤ x.toInt ∨ 7 ≤ x.toInt)))) := by
  refine zMi_of (own := RX4) (by decide) rfl (Nat.le_of_ble_eq_true rfl) ?_
  intro p e s m args below meth c A ls C hr hlocks hnm hAe G hl
  refine zHide (fun Qz_ hQz_ => ?_)
  have hx := C.1
  have hb := C.2.1
  have hl : lv_has ls 2 [(0, .ref h), (1, .int x)] := hl
  refine lv_iload_n hx hb dX4_has_0 rfl (lv_at hl 1 rfl) ?_
  refine lv_if_lt (tgt := 22) hx hb dX4_has_1 (by decide) (fun c_1 => ?_) (fun c_1 => ?_)
  · have c_1n : x.toInt < (0 : Int) := (fa_lt _ _).mp c_1
    refine lv_iconst (v := 0) hx hb dX4_has_22 (by decide) ?_
    exact z_back hQz_ (z_zret C hr hlocks G (Nat.le_of_ble_eq_true rfl) (Nat.le_of_ble_eq_true rfl) dX4_has_23 rfl ⟨rfl, (Or.inr (⟨rfl, (by first | with_reducible assumption | omega | assumption)⟩))⟩)
  · have c_1n : ¬ x.toInt < (0 : Int) := fun q => c_1 ((fa_lt _ _).mpr q)
    refine lv_iload_n hx hb dX4_has_4 rfl (lv_at hl 1 rfl) ?_
    refine lv_aload_n hx hb dX4_has_5 rfl (lv_at hl 0 rfl) ?_
    refine zEx4 hw ?_
    intro a1_2 a2_3 a3_4 a4_5 hbs9
    clear hw
    subst hbs9
    have G : zS T A s.heap s [[zO4 h cr inn a1_2 a2_3 a3_4 a4_5], [zAr T 0 a1_2 7 f1], [zAr T 0 a2_3 28 f2], [zAr T 0 a3_4 7 f3], [zAr T 0 a4_5 7 f4]] _ _ := G.re rfl
    refine z_get C G clX4 0 rfl 0 (by decide) m_fl_RX4_24 rfl dX4_has_6 ?_
    refine lv_icmp_ge (tgt := 22) hx hb dX4_has_9 (by decide) (fun c_6 => ?_) (fun c_6 => ?_)
    · have c_6n : cr.toInt ≤ x.toInt := (fa_le _ _).mp c_6
      refine lv_iconst (v := 0) hx hb dX4_has_22 (by decide) ?_
      have hw_7 : bLand T h cr inn f1 f2 f3 f4 [zO4 h cr inn a1_2 a2_3 a3_4 a4_5, zAr T 0 a1_2 7 f1, zAr T 0 a2_3 28 f2, zAr T 0 a3_4 7 f3, zAr T 0 a4_5 7 f4] := ⟨a1_2, a2_3, a3_4, a4_5, rfl⟩
      have G : zS T A s.heap s [[zO4 h cr inn a1_2 a2_3 a3_4 a4_5, zAr T 0 a1_2 7 f1, zAr T 0 a2_3 28 f2, zAr T 0 a3_4 7 f3, zAr T 0 a4_5 7 f4]] _ _ := G.re rfl
      exact z_back hQz_ (z_zret C hr hlocks G (Nat.le_of_ble_eq_true rfl) (Nat.le_of_ble_eq_true rfl) dX4_has_23 rfl ⟨rfl, (Or.inr (⟨rfl, (by first | with_reducible assumption | omega | assumption)⟩))⟩)
    · have c_6n : ¬ cr.toInt ≤ x.toInt := fun q => c_6 ((fa_le _ _).mpr q)
      refine lv_iload_n hx hb dX4_has_12 rfl (lv_at hl 1 rfl) ?_
      refine lv_bipush (v := 7) hx hb dX4_has_13 (by decide) ?_
      refine lv_icmp_ge (tgt := 22) hx hb dX4_has_15 (by decide) (fun c_8 => ?_) (fun c_8 => ?_)
      · have c_8n : (7 : Int) ≤ x.toInt := (fa_le _ _).mp c_8
        refine lv_iconst (v := 0) hx hb dX4_has_22 (by decide) ?_
        have hw_9 : bLand T h cr inn f1 f2 f3 f4 [zO4 h cr inn a1_2 a2_3 a3_4 a4_5, zAr T 0 a1_2 7 f1, zAr T 0 a2_3 28 f2, zAr T 0 a3_4 7 f3, zAr T 0 a4_5 7 f4] := ⟨a1_2, a2_3, a3_4, a4_5, rfl⟩
        have G : zS T A s.heap s [[zO4 h cr inn a1_2 a2_3 a3_4 a4_5, zAr T 0 a1_2 7 f1, zAr T 0 a2_3 28 f2, zAr T 0 a3_4 7 f3, zAr T 0 a4_5 7 f4]] _ _ := G.re rfl
        exact z_back hQz_ (z_zret C hr hlocks G (Nat.le_of_ble_eq_true rfl) (Nat.le_of_ble_eq_true rfl) dX4_has_23 rfl ⟨rfl, (Or.inr (⟨rfl, (by first | with_reducible assumption | omega | assumption)⟩))⟩)
      · have c_8n : ¬ (7 : Int) ≤ x.toInt := fun q => c_8 ((fa_le _ _).mpr q)
        refine lv_iconst (v := 1) hx hb dX4_has_18 (by decide) ?_
        refine lv_goto (tgt := 23) hx hb dX4_has_19 (by decide) ?_
        have hw_10 : bLand T h cr inn f1 f2 f3 f4 [zO4 h cr inn a1_2 a2_3 a3_4 a4_5, zAr T 0 a1_2 7 f1, zAr T 0 a2_3 28 f2, zAr T 0 a3_4 7 f3, zAr T 0 a4_5 7 f4] := ⟨a1_2, a2_3, a3_4, a4_5, rfl⟩
        have G : zS T A s.heap s [[zO4 h cr inn a1_2 a2_3 a3_4 a4_5, zAr T 0 a1_2 7 f1, zAr T 0 a2_3 28 f2, zAr T 0 a3_4 7 f3, zAr T 0 a4_5 7 f4]] _ _ := G.re rfl
        exact z_back hQz_ (z_zret C hr hlocks G (Nat.le_of_ble_eq_true rfl) (Nat.le_of_ble_eq_true rfl) dX4_has_23 rfl ⟨rfl, (Or.inl (⟨rfl, (by first | with_reducible assumption | omega | assumption), (by first | with_reducible assumption | omega | assumption), (by first | with_reducible assumption | omega | assumption)⟩))⟩)
set_option maxHeartbeats 4000000 in
set_option maxRecDepth 100000 in
/-- c_isInn -/
theorem c_isInn (l : Launch) (T : zTy) (h : Nat) (cr : Int32) (inn : Int32) (f1 : Nat → Int32) (f2 : Nat → Int32) (f3 : Nat → Int32) (f4 : Nat → Int32) (w : va_W) (x : Int32) (hw : bLand T h cr inn f1 f2 f3 f4 w) : zMi l T yX4_isInn cX4_isInn 2 (some .boolean) 2 0 0 [.ref h, .int x] [w] (fun (r : Int32) bs => bs = [w] ∧ ((r = 1 ∧ 0 ≤ x.toInt ∧ x.toInt < cr.toInt ∧ x.toInt < 7 ∧ ¬ zBit inn x = 0) ∨ (r = 0 ∧ (x.toInt < 0 ∨ cr.toInt ≤ x.toInt ∨ 7 ≤ x.toInt ∨ zBit inn x = 0)))) := by
  refine zMi_of (own := RX4) (by decide) rfl (Nat.le_of_ble_eq_true rfl) ?_
  intro p e s m args below meth c A ls C hr hlocks hnm hAe G hl
  refine zHide (fun Qz_ hQz_ => ?_)
  have hx := C.1
  have hb := C.2.1
  have hl : lv_has ls 2 [(0, .ref h), (1, .int x)] := hl
  refine lv_aload_n hx hb dX4_isInn_0 rfl (lv_at hl 0 rfl) ?_
  refine lv_iload_n hx hb dX4_isInn_1 rfl (lv_at hl 1 rfl) ?_
  refine z_Vi (bc := [w]) (br := []) (As := [.int x]) (rest := []) C G (c_has l T h cr inn f1 f2 f3 f4 w x hw) (kV_RX4_31 C.2.2.2.2 (Nat.le_of_ble_eq_true rfl) (Nat.le_of_ble_eq_true rfl)) [0] [0] rfl rfl (ci := 4) (qc := (RX4, TX4, 6)) rfl rfl (List.mem_flatten.mpr ⟨_, List.mem_of_getElem? (i := 0) rfl, (bLand_mem hw).choose_spec⟩) rfl rfl hl.1 dX4_isInn_2 (Nat.le_of_ble_eq_true rfl) (Nat.le_of_ble_eq_true rfl) (fun r_2 b1 H locs hw G => ?_)
  refine zAn2 hw ?_
  intro hbs9 hc_1
  clear hw
  subst hbs9
  have G : zS T A s.heap s [w] _ _ := G
  rcases hc_1 with ⟨rfl, h_3, h_4, h_5⟩ | ⟨rfl, h_6⟩
  · have h_3 : 0 ≤ x.toInt := h_3
    have h_4 : x.toInt < cr.toInt := h_4
    have h_5 : x.toInt < 7 := h_5
    refine lv_if_eq (tgt := 23) hx hb dX4_isInn_5 (by decide) (fun q => absurd q (by decide)) (fun _ => ?_)
    refine lv_aload_n hx hb dX4_isInn_8 rfl (lv_at hl 0 rfl) ?_
    refine zEx4 hw ?_
    intro a1_7 a2_8 a3_9 a4_10 hbs9
    clear hw
    subst hbs9
    have G : zS T A s.heap s [[zO4 h cr inn a1_7 a2_8 a3_9 a4_10], [zAr T 0 a1_7 7 f1], [zAr T 0 a2_8 28 f2], [zAr T 0 a3_9 7 f3], [zAr T 0 a4_10 7 f4]] _ _ := G.re rfl
    refine z_get C G clX4 0 rfl 1 (by decide) m_fl_RX4_28 rfl dX4_isInn_9 ?_
    refine lv_iload_n hx hb dX4_isInn_12 rfl (lv_at hl 1 rfl) ?_
    refine lv_ishr hx hb dX4_isInn_13 ?_
    refine lv_iconst (v := 1) hx hb dX4_isInn_14 (by decide) ?_
    refine lv_iand hx hb dX4_isInn_15 ?_
    refine lv_if_eq (tgt := 23) hx hb dX4_isInn_16 (by decide) (fun c_11 => ?_) (fun c_11 => ?_)
    · have c_11n : ((inn >>> (x &&& 31)) &&& 1).toInt = (0 : Int) := (fa_eq _ _).mp c_11
      refine lv_iconst (v := 0) hx hb dX4_isInn_23 (by decide) ?_
      have hw_12 : bLand T h cr inn f1 f2 f3 f4 [zO4 h cr inn a1_7 a2_8 a3_9 a4_10, zAr T 0 a1_7 7 f1, zAr T 0 a2_8 28 f2, zAr T 0 a3_9 7 f3, zAr T 0 a4_10 7 f4] := ⟨a1_7, a2_8, a3_9, a4_10, rfl⟩
      have G : zS T A s.heap s [[zO4 h cr inn a1_7 a2_8 a3_9 a4_10, zAr T 0 a1_7 7 f1, zAr T 0 a2_8 28 f2, zAr T 0 a3_9 7 f3, zAr T 0 a4_10 7 f4]] _ _ := G.re rfl
      exact z_back hQz_ (z_zret C hr hlocks G (Nat.le_of_ble_eq_true rfl) (Nat.le_of_ble_eq_true rfl) dX4_isInn_24 rfl ⟨rfl, (Or.inr (⟨rfl, (by first | exact Or.inr (Or.inr (Or.inr (by first | with_reducible assumption | assumption))) | omega)⟩))⟩)
    · have c_11n : ¬ ((inn >>> (x &&& 31)) &&& 1).toInt = (0 : Int) := fun q => c_11 ((fa_eq _ _).mpr q)
      refine lv_iconst (v := 1) hx hb dX4_isInn_19 (by decide) ?_
      refine lv_goto (tgt := 24) hx hb dX4_isInn_20 (by decide) ?_
      have hw_13 : bLand T h cr inn f1 f2 f3 f4 [zO4 h cr inn a1_7 a2_8 a3_9 a4_10, zAr T 0 a1_7 7 f1, zAr T 0 a2_8 28 f2, zAr T 0 a3_9 7 f3, zAr T 0 a4_10 7 f4] := ⟨a1_7, a2_8, a3_9, a4_10, rfl⟩
      have G : zS T A s.heap s [[zO4 h cr inn a1_7 a2_8 a3_9 a4_10, zAr T 0 a1_7 7 f1, zAr T 0 a2_8 28 f2, zAr T 0 a3_9 7 f3, zAr T 0 a4_10 7 f4]] _ _ := G.re rfl
      exact z_back hQz_ (z_zret C hr hlocks G (Nat.le_of_ble_eq_true rfl) (Nat.le_of_ble_eq_true rfl) dX4_isInn_24 rfl ⟨rfl, (Or.inl (⟨rfl, (by first | with_reducible assumption | omega | assumption), (by first | with_reducible assumption | omega | assumption), (by first | with_reducible assumption | omega | assumption), (by first | with_reducible assumption | omega | assumption)⟩))⟩)
  · have h_6 : (x.toInt < 0 ∨ cr.toInt ≤ x.toInt ∨ 7 ≤ x.toInt) := h_6
    refine lv_if_eq (tgt := 23) hx hb dX4_isInn_5 (by decide) (fun _ => ?_) (fun q => absurd (by decide) q)
    refine lv_iconst (v := 0) hx hb dX4_isInn_23 (by decide) ?_
    exact z_back hQz_ (z_zret C hr hlocks G (Nat.le_of_ble_eq_true rfl) (Nat.le_of_ble_eq_true rfl) dX4_isInn_24 rfl ⟨rfl, (Or.inr (⟨rfl, (by first | exact Or.inr (Or.inr (Or.inr (by first | with_reducible assumption | assumption))) | omega)⟩))⟩)
set_option maxHeartbeats 4000000 in
set_option maxRecDepth 100000 in
/-- c_hasRoad -/
theorem c_hasRoad (l : Launch) (T : zTy) (h : Nat) (cr : Int32) (inn : Int32) (f1 : Nat → Int32) (f2 : Nat → Int32) (f3 : Nat → Int32) (f4 : Nat → Int32) (w : va_W) (x : Int32) (y : Int32) (hw : bLand T h cr inn f1 f2 f3 f4 w) : zMi l T yX4_hasRoad cX4_hasRoad 3 (some .boolean) 1 0 0 [.ref h, .int x, .int y] [w] (fun (r : Int32) bs => bs = [w] ∧ ((r = 1 ∧ 0 ≤ x.toInt ∧ x.toInt < cr.toInt ∧ x.toInt < 7 ∧ 0 ≤ y.toInt ∧ y.toInt < (f1 x.toNatClampNeg).toInt ∧ y.toInt < 4) ∨ (r = 0 ∧ (x.toInt < 0 ∨ cr.toInt ≤ x.toInt ∨ 7 ≤ x.toInt ∨ y.toInt < 0 ∨ (f1 x.toNatClampNeg).toInt ≤ y.toInt ∨ 4 ≤ y.toInt)))) := by
  refine zMi_of (own := RX4) (by decide) rfl (Nat.le_of_ble_eq_true rfl) ?_
  intro p e s m args below meth c A ls C hr hlocks hnm hAe G hl
  refine zHide (fun Qz_ hQz_ => ?_)
  have hx := C.1
  have hb := C.2.1
  have hl : lv_has ls 3 [(0, .ref h), (1, .int x), (2, .int y)] := hl
  refine lv_iload_n hx hb dX4_hasRoad_0 rfl (lv_at hl 1 rfl) ?_
  refine lv_if_lt (tgt := 41) hx hb dX4_hasRoad_1 (by decide) (fun c_1 => ?_) (fun c_1 => ?_)
  · have c_1n : x.toInt < (0 : Int) := (fa_lt _ _).mp c_1
    refine lv_iconst (v := 0) hx hb dX4_hasRoad_41 (by decide) ?_
    exact z_back hQz_ (z_zret C hr hlocks G (Nat.le_of_ble_eq_true rfl) (Nat.le_of_ble_eq_true rfl) dX4_hasRoad_42 rfl ⟨rfl, (Or.inr (⟨rfl, (by first | with_reducible assumption | omega | assumption)⟩))⟩)
  · have c_1n : ¬ x.toInt < (0 : Int) := fun q => c_1 ((fa_lt _ _).mpr q)
    refine lv_iload_n hx hb dX4_hasRoad_4 rfl (lv_at hl 1 rfl) ?_
    refine lv_aload_n hx hb dX4_hasRoad_5 rfl (lv_at hl 0 rfl) ?_
    refine zEx4 hw ?_
    intro a1_2 a2_3 a3_4 a4_5 hbs9
    clear hw
    subst hbs9
    have G : zS T A s.heap s [[zO4 h cr inn a1_2 a2_3 a3_4 a4_5], [zAr T 0 a1_2 7 f1], [zAr T 0 a2_3 28 f2], [zAr T 0 a3_4 7 f3], [zAr T 0 a4_5 7 f4]] _ _ := G.re rfl
    refine z_get C G clX4 0 rfl 0 (by decide) m_fl_RX4_24 rfl dX4_hasRoad_6 ?_
    refine lv_icmp_ge (tgt := 41) hx hb dX4_hasRoad_9 (by decide) (fun c_6 => ?_) (fun c_6 => ?_)
    · have c_6n : cr.toInt ≤ x.toInt := (fa_le _ _).mp c_6
      refine lv_iconst (v := 0) hx hb dX4_hasRoad_41 (by decide) ?_
      have hw_7 : bLand T h cr inn f1 f2 f3 f4 [zO4 h cr inn a1_2 a2_3 a3_4 a4_5, zAr T 0 a1_2 7 f1, zAr T 0 a2_3 28 f2, zAr T 0 a3_4 7 f3, zAr T 0 a4_5 7 f4] := ⟨a1_2, a2_3, a3_4, a4_5, rfl⟩
      have G : zS T A s.heap s [[zO4 h cr inn a1_2 a2_3 a3_4 a4_5, zAr T 0 a1_2 7 f1, zAr T 0 a2_3 28 f2, zAr T 0 a3_4 7 f3, zAr T 0 a4_5 7 f4]] _ _ := G.re rfl
      exact z_back hQz_ (z_zret C hr hlocks G (Nat.le_of_ble_eq_true rfl) (Nat.le_of_ble_eq_true rfl) dX4_hasRoad_42 rfl ⟨rfl, (Or.inr (⟨rfl, (by first | with_reducible assumption | omega | assumption)⟩))⟩)
    · have c_6n : ¬ cr.toInt ≤ x.toInt := fun q => c_6 ((fa_le _ _).mpr q)
      refine lv_iload_n hx hb dX4_hasRoad_12 rfl (lv_at hl 1 rfl) ?_
      refine lv_bipush (v := 7) hx hb dX4_hasRoad_13 (by decide) ?_
      refine lv_icmp_ge (tgt := 41) hx hb dX4_hasRoad_15 (by decide) (fun c_8 => ?_) (fun c_8 => ?_)
      · have c_8n : (7 : Int) ≤ x.toInt := (fa_le _ _).mp c_8
        refine lv_iconst (v := 0) hx hb dX4_hasRoad_41 (by decide) ?_
        have hw_9 : bLand T h cr inn f1 f2 f3 f4 [zO4 h cr inn a1_2 a2_3 a3_4 a4_5, zAr T 0 a1_2 7 f1, zAr T 0 a2_3 28 f2, zAr T 0 a3_4 7 f3, zAr T 0 a4_5 7 f4] := ⟨a1_2, a2_3, a3_4, a4_5, rfl⟩
        have G : zS T A s.heap s [[zO4 h cr inn a1_2 a2_3 a3_4 a4_5, zAr T 0 a1_2 7 f1, zAr T 0 a2_3 28 f2, zAr T 0 a3_4 7 f3, zAr T 0 a4_5 7 f4]] _ _ := G.re rfl
        exact z_back hQz_ (z_zret C hr hlocks G (Nat.le_of_ble_eq_true rfl) (Nat.le_of_ble_eq_true rfl) dX4_hasRoad_42 rfl ⟨rfl, (Or.inr (⟨rfl, (by first | with_reducible assumption | omega | assumption)⟩))⟩)
      · have c_8n : ¬ (7 : Int) ≤ x.toInt := fun q => c_8 ((fa_le _ _).mpr q)
        refine lv_iload_n hx hb dX4_hasRoad_18 rfl (lv_at hl 2 rfl) ?_
        refine lv_if_lt (tgt := 41) hx hb dX4_hasRoad_19 (by decide) (fun c_10 => ?_) (fun c_10 => ?_)
        · have c_10n : y.toInt < (0 : Int) := (fa_lt _ _).mp c_10
          refine lv_iconst (v := 0) hx hb dX4_hasRoad_41 (by decide) ?_
          have hw_11 : bLand T h cr inn f1 f2 f3 f4 [zO4 h cr inn a1_2 a2_3 a3_4 a4_5, zAr T 0 a1_2 7 f1, zAr T 0 a2_3 28 f2, zAr T 0 a3_4 7 f3, zAr T 0 a4_5 7 f4] := ⟨a1_2, a2_3, a3_4, a4_5, rfl⟩
          have G : zS T A s.heap s [[zO4 h cr inn a1_2 a2_3 a3_4 a4_5, zAr T 0 a1_2 7 f1, zAr T 0 a2_3 28 f2, zAr T 0 a3_4 7 f3, zAr T 0 a4_5 7 f4]] _ _ := G.re rfl
          exact z_back hQz_ (z_zret C hr hlocks G (Nat.le_of_ble_eq_true rfl) (Nat.le_of_ble_eq_true rfl) dX4_hasRoad_42 rfl ⟨rfl, (Or.inr (⟨rfl, (by first | with_reducible assumption | omega | assumption)⟩))⟩)
        · have c_10n : ¬ y.toInt < (0 : Int) := fun q => c_10 ((fa_lt _ _).mpr q)
          refine lv_iload_n hx hb dX4_hasRoad_22 rfl (lv_at hl 2 rfl) ?_
          refine lv_aload_n hx hb dX4_hasRoad_23 rfl (lv_at hl 0 rfl) ?_
          refine z_get C G clX4 0 rfl 2 (by decide) m_fl_RX4_9 rfl dX4_hasRoad_24 ?_
          refine lv_iload_n hx hb dX4_hasRoad_27 rfl (lv_at hl 1 rfl) ?_
          refine z_ild C G 1 rfl (vp_in_iff.mpr ⟨by omega, by omega⟩) dX4_hasRoad_28 ?_
          refine lv_topi (fun v_12 ev_12 => ?_)
          subst ev_12
          refine lv_icmp_ge (tgt := 41) hx hb dX4_hasRoad_29 (by decide) (fun c_13 => ?_) (fun c_13 => ?_)
          · have c_13n : (f1 x.toNatClampNeg).toInt ≤ y.toInt := (fa_le _ _).mp c_13
            refine lv_iconst (v := 0) hx hb dX4_hasRoad_41 (by decide) ?_
            have hw_14 : bLand T h cr inn f1 f2 f3 f4 [zO4 h cr inn a1_2 a2_3 a3_4 a4_5, zAr T 0 a1_2 7 f1, zAr T 0 a2_3 28 f2, zAr T 0 a3_4 7 f3, zAr T 0 a4_5 7 f4] := ⟨a1_2, a2_3, a3_4, a4_5, rfl⟩
            have G : zS T A s.heap s [[zO4 h cr inn a1_2 a2_3 a3_4 a4_5, zAr T 0 a1_2 7 f1, zAr T 0 a2_3 28 f2, zAr T 0 a3_4 7 f3, zAr T 0 a4_5 7 f4]] _ _ := G.re rfl
            exact z_back hQz_ (z_zret C hr hlocks G (Nat.le_of_ble_eq_true rfl) (Nat.le_of_ble_eq_true rfl) dX4_hasRoad_42 rfl ⟨rfl, (Or.inr (⟨rfl, (by first | with_reducible assumption | omega | assumption)⟩))⟩)
          · have c_13n : ¬ (f1 x.toNatClampNeg).toInt ≤ y.toInt := fun q => c_13 ((fa_le _ _).mpr q)
            refine lv_iload_n hx hb dX4_hasRoad_32 rfl (lv_at hl 2 rfl) ?_
            refine lv_iconst (v := 4) hx hb dX4_hasRoad_33 (by decide) ?_
            refine lv_icmp_ge (tgt := 41) hx hb dX4_hasRoad_34 (by decide) (fun c_15 => ?_) (fun c_15 => ?_)
            · have c_15n : (4 : Int) ≤ y.toInt := (fa_le _ _).mp c_15
              refine lv_iconst (v := 0) hx hb dX4_hasRoad_41 (by decide) ?_
              have hw_16 : bLand T h cr inn f1 f2 f3 f4 [zO4 h cr inn a1_2 a2_3 a3_4 a4_5, zAr T 0 a1_2 7 f1, zAr T 0 a2_3 28 f2, zAr T 0 a3_4 7 f3, zAr T 0 a4_5 7 f4] := ⟨a1_2, a2_3, a3_4, a4_5, rfl⟩
              have G : zS T A s.heap s [[zO4 h cr inn a1_2 a2_3 a3_4 a4_5, zAr T 0 a1_2 7 f1, zAr T 0 a2_3 28 f2, zAr T 0 a3_4 7 f3, zAr T 0 a4_5 7 f4]] _ _ := G.re rfl
              exact z_back hQz_ (z_zret C hr hlocks G (Nat.le_of_ble_eq_true rfl) (Nat.le_of_ble_eq_true rfl) dX4_hasRoad_42 rfl ⟨rfl, (Or.inr (⟨rfl, (by first | with_reducible assumption | omega | assumption)⟩))⟩)
            · have c_15n : ¬ (4 : Int) ≤ y.toInt := fun q => c_15 ((fa_le _ _).mpr q)
              refine lv_iconst (v := 1) hx hb dX4_hasRoad_37 (by decide) ?_
              refine lv_goto (tgt := 42) hx hb dX4_hasRoad_38 (by decide) ?_
              have hw_17 : bLand T h cr inn f1 f2 f3 f4 [zO4 h cr inn a1_2 a2_3 a3_4 a4_5, zAr T 0 a1_2 7 f1, zAr T 0 a2_3 28 f2, zAr T 0 a3_4 7 f3, zAr T 0 a4_5 7 f4] := ⟨a1_2, a2_3, a3_4, a4_5, rfl⟩
              have G : zS T A s.heap s [[zO4 h cr inn a1_2 a2_3 a3_4 a4_5, zAr T 0 a1_2 7 f1, zAr T 0 a2_3 28 f2, zAr T 0 a3_4 7 f3, zAr T 0 a4_5 7 f4]] _ _ := G.re rfl
              exact z_back hQz_ (z_zret C hr hlocks G (Nat.le_of_ble_eq_true rfl) (Nat.le_of_ble_eq_true rfl) dX4_hasRoad_42 rfl ⟨rfl, (Or.inl (⟨rfl, (by first | with_reducible assumption | omega | assumption), (by first | with_reducible assumption | omega | assumption), (by first | with_reducible assumption | omega | assumption), (by first | with_reducible assumption | omega | assumption), (by first | with_reducible assumption | omega | assumption), (by first | with_reducible assumption | omega | assumption)⟩))⟩)
set_option maxHeartbeats 4000000 in
set_option maxRecDepth 100000 in
/-- c_waysOut -/
theorem c_waysOut (l : Launch) (T : zTy) (h : Nat) (cr : Int32) (inn : Int32) (f1 : Nat → Int32) (f2 : Nat → Int32) (f3 : Nat → Int32) (f4 : Nat → Int32) (w : va_W) (x : Int32) (hw : bLand T h cr inn f1 f2 f3 f4 w) : zMi l T yX4_waysOut cX4_waysOut 2 (some .int) 1 0 0 [.ref h, .int x] [w] (fun (r : Int32) bs => bs = [w] ∧ r = zWays cr inn f1 x) := by
  refine zMi_of (own := RX4) (by decide) rfl (Nat.le_of_ble_eq_true rfl) ?_
  intro p e s m args below meth c A ls C hr hlocks hnm hAe G hl
  refine zHide (fun Qz_ hQz_ => ?_)
  have hx := C.1
  have hb := C.2.1
  have hl : lv_has ls 2 [(0, .ref h), (1, .int x)] := hl
  refine lv_iload_n hx hb dX4_waysOut_0 rfl (lv_at hl 1 rfl) ?_
  refine lv_if_lt (tgt := 38) hx hb dX4_waysOut_1 (by decide) (fun c_1 => ?_) (fun c_1 => ?_)
  · have c_1n : x.toInt < (0 : Int) := (fa_lt _ _).mp c_1
    refine lv_iconst (v := 0) hx hb dX4_waysOut_38 (by decide) ?_
    exact z_back hQz_ (z_iret C hr hlocks G (Nat.le_of_ble_eq_true rfl) (Nat.le_of_ble_eq_true rfl) dX4_waysOut_39 ⟨rfl, (by unfold zWays; rw [if_neg (fun q => by first | omega | exact absurd q.2.2.2 (by first | with_reducible assumption | assumption))])⟩)
  · have c_1n : ¬ x.toInt < (0 : Int) := fun q => c_1 ((fa_lt _ _).mpr q)
    refine lv_iload_n hx hb dX4_waysOut_4 rfl (lv_at hl 1 rfl) ?_
    refine lv_aload_n hx hb dX4_waysOut_5 rfl (lv_at hl 0 rfl) ?_
    refine zEx4 hw ?_
    intro a1_2 a2_3 a3_4 a4_5 hbs9
    clear hw
    subst hbs9
    have G : zS T A s.heap s [[zO4 h cr inn a1_2 a2_3 a3_4 a4_5], [zAr T 0 a1_2 7 f1], [zAr T 0 a2_3 28 f2], [zAr T 0 a3_4 7 f3], [zAr T 0 a4_5 7 f4]] _ _ := G.re rfl
    refine z_get C G clX4 0 rfl 0 (by decide) m_fl_RX4_24 rfl dX4_waysOut_6 ?_
    refine lv_icmp_ge (tgt := 38) hx hb dX4_waysOut_9 (by decide) (fun c_6 => ?_) (fun c_6 => ?_)
    · have c_6n : cr.toInt ≤ x.toInt := (fa_le _ _).mp c_6
      refine lv_iconst (v := 0) hx hb dX4_waysOut_38 (by decide) ?_
      have hw_7 : bLand T h cr inn f1 f2 f3 f4 [zO4 h cr inn a1_2 a2_3 a3_4 a4_5, zAr T 0 a1_2 7 f1, zAr T 0 a2_3 28 f2, zAr T 0 a3_4 7 f3, zAr T 0 a4_5 7 f4] := ⟨a1_2, a2_3, a3_4, a4_5, rfl⟩
      have G : zS T A s.heap s [[zO4 h cr inn a1_2 a2_3 a3_4 a4_5, zAr T 0 a1_2 7 f1, zAr T 0 a2_3 28 f2, zAr T 0 a3_4 7 f3, zAr T 0 a4_5 7 f4]] _ _ := G.re rfl
      exact z_back hQz_ (z_iret C hr hlocks G (Nat.le_of_ble_eq_true rfl) (Nat.le_of_ble_eq_true rfl) dX4_waysOut_39 ⟨rfl, (by unfold zWays; rw [if_neg (fun q => by first | omega | exact absurd q.2.2.2 (by first | with_reducible assumption | assumption))])⟩)
    · have c_6n : ¬ cr.toInt ≤ x.toInt := fun q => c_6 ((fa_le _ _).mpr q)
      refine lv_iload_n hx hb dX4_waysOut_12 rfl (lv_at hl 1 rfl) ?_
      refine lv_bipush (v := 7) hx hb dX4_waysOut_13 (by decide) ?_
      refine lv_icmp_ge (tgt := 38) hx hb dX4_waysOut_15 (by decide) (fun c_8 => ?_) (fun c_8 => ?_)
      · have c_8n : (7 : Int) ≤ x.toInt := (fa_le _ _).mp c_8
        refine lv_iconst (v := 0) hx hb dX4_waysOut_38 (by decide) ?_
        have hw_9 : bLand T h cr inn f1 f2 f3 f4 [zO4 h cr inn a1_2 a2_3 a3_4 a4_5, zAr T 0 a1_2 7 f1, zAr T 0 a2_3 28 f2, zAr T 0 a3_4 7 f3, zAr T 0 a4_5 7 f4] := ⟨a1_2, a2_3, a3_4, a4_5, rfl⟩
        have G : zS T A s.heap s [[zO4 h cr inn a1_2 a2_3 a3_4 a4_5, zAr T 0 a1_2 7 f1, zAr T 0 a2_3 28 f2, zAr T 0 a3_4 7 f3, zAr T 0 a4_5 7 f4]] _ _ := G.re rfl
        exact z_back hQz_ (z_iret C hr hlocks G (Nat.le_of_ble_eq_true rfl) (Nat.le_of_ble_eq_true rfl) dX4_waysOut_39 ⟨rfl, (by unfold zWays; rw [if_neg (fun q => by first | omega | exact absurd q.2.2.2 (by first | with_reducible assumption | assumption))])⟩)
      · have c_8n : ¬ (7 : Int) ≤ x.toInt := fun q => c_8 ((fa_le _ _).mpr q)
        refine lv_aload_n hx hb dX4_waysOut_18 rfl (lv_at hl 0 rfl) ?_
        refine z_get C G clX4 0 rfl 1 (by decide) m_fl_RX4_28 rfl dX4_waysOut_19 ?_
        refine lv_iload_n hx hb dX4_waysOut_22 rfl (lv_at hl 1 rfl) ?_
        refine lv_ishr hx hb dX4_waysOut_23 ?_
        refine lv_iconst (v := 1) hx hb dX4_waysOut_24 (by decide) ?_
        refine lv_iand hx hb dX4_waysOut_25 ?_
        refine lv_if_ne (tgt := 38) hx hb dX4_waysOut_26 (by decide) (fun c_10 => ?_) (fun c_10 => ?_)
        · have c_10n : ¬ ((inn >>> (x &&& 31)) &&& 1).toInt = (0 : Int) := fun q => c_10 ((fa_eq _ _).mpr q)
          refine lv_iconst (v := 0) hx hb dX4_waysOut_38 (by decide) ?_
          have hw_11 : bLand T h cr inn f1 f2 f3 f4 [zO4 h cr inn a1_2 a2_3 a3_4 a4_5, zAr T 0 a1_2 7 f1, zAr T 0 a2_3 28 f2, zAr T 0 a3_4 7 f3, zAr T 0 a4_5 7 f4] := ⟨a1_2, a2_3, a3_4, a4_5, rfl⟩
          have G : zS T A s.heap s [[zO4 h cr inn a1_2 a2_3 a3_4 a4_5, zAr T 0 a1_2 7 f1, zAr T 0 a2_3 28 f2, zAr T 0 a3_4 7 f3, zAr T 0 a4_5 7 f4]] _ _ := G.re rfl
          exact z_back hQz_ (z_iret C hr hlocks G (Nat.le_of_ble_eq_true rfl) (Nat.le_of_ble_eq_true rfl) dX4_waysOut_39 ⟨rfl, (by unfold zWays; rw [if_neg (fun q => by first | omega | exact absurd q.2.2.2 (by first | with_reducible assumption | assumption))])⟩)
        · have c_10n : ((inn >>> (x &&& 31)) &&& 1).toInt = (0 : Int) := (fa_eq _ _).mp c_10
          refine lv_aload_n hx hb dX4_waysOut_29 rfl (lv_at hl 0 rfl) ?_
          refine z_get C G clX4 0 rfl 2 (by decide) m_fl_RX4_9 rfl dX4_waysOut_30 ?_
          refine lv_iload_n hx hb dX4_waysOut_33 rfl (lv_at hl 1 rfl) ?_
          refine z_ild C G 1 rfl (vp_in_iff.mpr ⟨by omega, by omega⟩) dX4_waysOut_34 ?_
          refine lv_topi (fun v_12 ev_12 => ?_)
          subst ev_12
          refine lv_goto (tgt := 39) hx hb dX4_waysOut_35 (by decide) ?_
          have hw_13 : bLand T h cr inn f1 f2 f3 f4 [zO4 h cr inn a1_2 a2_3 a3_4 a4_5, zAr T 0 a1_2 7 f1, zAr T 0 a2_3 28 f2, zAr T 0 a3_4 7 f3, zAr T 0 a4_5 7 f4] := ⟨a1_2, a2_3, a3_4, a4_5, rfl⟩
          have G : zS T A s.heap s [[zO4 h cr inn a1_2 a2_3 a3_4 a4_5, zAr T 0 a1_2 7 f1, zAr T 0 a2_3 28 f2, zAr T 0 a3_4 7 f3, zAr T 0 a4_5 7 f4]] _ _ := G.re rfl
          exact z_back hQz_ (z_iret C hr hlocks G (Nat.le_of_ble_eq_true rfl) (Nat.le_of_ble_eq_true rfl) dX4_waysOut_39 ⟨rfl, (by unfold zWays; rw [if_pos ⟨by omega, by omega, by omega, by first | with_reducible assumption | assumption⟩])⟩)
set_option maxHeartbeats 4000000 in
set_option maxRecDepth 100000 in
/-- c_target -/
theorem c_target (l : Launch) (T : zTy) (h : Nat) (cr : Int32) (inn : Int32) (f1 : Nat → Int32) (f2 : Nat → Int32) (f3 : Nat → Int32) (f4 : Nat → Int32) (w : va_W) (x : Int32) (y : Int32) (hw : bLand T h cr inn f1 f2 f3 f4 w) : zMi l T yX4_target cX4_target 3 (some .int) 2 0 0 [.ref h, .int x, .int y] [w] (fun (r : Int32) bs => bs = [w] ∧ r = zTarget cr f1 f2 x y) := by
  refine zMi_of (own := RX4) (by decide) rfl (Nat.le_of_ble_eq_true rfl) ?_
  intro p e s m args below meth c A ls C hr hlocks hnm hAe G hl
  refine zHide (fun Qz_ hQz_ => ?_)
  have hx := C.1
  have hb := C.2.1
  have hl : lv_has ls 3 [(0, .ref h), (1, .int x), (2, .int y)] := hl
  refine lv_aload_n hx hb dX4_target_0 rfl (lv_at hl 0 rfl) ?_
  refine lv_iload_n hx hb dX4_target_1 rfl (lv_at hl 1 rfl) ?_
  refine lv_iload_n hx hb dX4_target_2 rfl (lv_at hl 2 rfl) ?_
  refine z_Vi (bc := [w]) (br := []) (As := [.int x, .int y]) (rest := []) C G (c_hasRoad l T h cr inn f1 f2 f3 f4 w x y hw) (kV_RX4_35 C.2.2.2.2 (Nat.le_of_ble_eq_true rfl) (Nat.le_of_ble_eq_true rfl)) [0] [0] rfl rfl (ci := 4) (qc := (RX4, TX4, 6)) rfl rfl (List.mem_flatten.mpr ⟨_, List.mem_of_getElem? (i := 0) rfl, (bLand_mem hw).choose_spec⟩) rfl rfl hl.1 dX4_target_3 (Nat.le_of_ble_eq_true rfl) (Nat.le_of_ble_eq_true rfl) (fun r_2 b1 H locs hw G => ?_)
  refine zAn2 hw ?_
  intro hbs9 hc_1
  clear hw
  subst hbs9
  have G : zS T A s.heap s [w] _ _ := G
  rcases hc_1 with ⟨rfl, h_3, h_4, h_5, h_6, h_7, h_8⟩ | ⟨rfl, h_9⟩
  · have h_3 : 0 ≤ x.toInt := h_3
    have h_4 : x.toInt < cr.toInt := h_4
    have h_5 : x.toInt < 7 := h_5
    have h_6 : 0 ≤ y.toInt := h_6
    have h_7 : y.toInt < (f1 x.toNatClampNeg).toInt := h_7
    have h_8 : y.toInt < 4 := h_8
    refine lv_if_eq (tgt := 22) hx hb dX4_target_6 (by decide) (fun q => absurd q (by decide)) (fun _ => ?_)
    refine lv_aload_n hx hb dX4_target_9 rfl (lv_at hl 0 rfl) ?_
    refine zEx4 hw ?_
    intro a1_10 a2_11 a3_12 a4_13 hbs9
    clear hw
    subst hbs9
    have G : zS T A s.heap s [[zO4 h cr inn a1_10 a2_11 a3_12 a4_13], [zAr T 0 a1_10 7 f1], [zAr T 0 a2_11 28 f2], [zAr T 0 a3_12 7 f3], [zAr T 0 a4_13 7 f4]] _ _ := G.re rfl
    refine z_get C G clX4 0 rfl 3 (by decide) m_fl_RX4_15 rfl dX4_target_10 ?_
    refine lv_iload_n hx hb dX4_target_13 rfl (lv_at hl 1 rfl) ?_
    refine lv_iconst (v := 4) hx hb dX4_target_14 (by decide) ?_
    refine lv_imul hx hb dX4_target_15 ?_
    refine lv_topi (fun y_14 ey_14 => ?_)
    have ey_14i : y_14.toInt = x.toInt * (4 : Int) := by rw [ey_14]; exact z_imulI (x := x) (y := (4 : Int32)) (by show -2147483648 ≤ x.toInt * (4 : Int); omega) (by show x.toInt * (4 : Int) < 2147483648; omega)
    refine lv_iload_n hx hb dX4_target_16 rfl (lv_at hl 2 rfl) ?_
    refine lv_iadd hx hb dX4_target_17 ?_
    refine lv_topi (fun y_15 ey_15 => ?_)
    have ey_15i : y_15.toInt = y_14.toInt + y.toInt := by rw [ey_15]; exact z_iaddI (x := y_14) (y := y) (by show -2147483648 ≤ y_14.toInt + y.toInt; omega) (by show y_14.toInt + y.toInt < 2147483648; omega)
    refine z_ild C G 2 rfl (vp_in_iff.mpr ⟨by omega, by omega⟩) dX4_target_18 ?_
    refine lv_topi (fun v_16 ev_16 => ?_)
    subst ev_16
    refine lv_goto (tgt := 23) hx hb dX4_target_19 (by decide) ?_
    have hw_17 : bLand T h cr inn f1 f2 f3 f4 [zO4 h cr inn a1_10 a2_11 a3_12 a4_13, zAr T 0 a1_10 7 f1, zAr T 0 a2_11 28 f2, zAr T 0 a3_12 7 f3, zAr T 0 a4_13 7 f4] := ⟨a1_10, a2_11, a3_12, a4_13, rfl⟩
    have G : zS T A s.heap s [[zO4 h cr inn a1_10 a2_11 a3_12 a4_13, zAr T 0 a1_10 7 f1, zAr T 0 a2_11 28 f2, zAr T 0 a3_12 7 f3, zAr T 0 a4_13 7 f4]] _ _ := G.re rfl
    exact z_back hQz_ (z_iret C hr hlocks G (Nat.le_of_ble_eq_true rfl) (Nat.le_of_ble_eq_true rfl) dX4_target_23 ⟨rfl, (by unfold zTarget; rw [if_pos (by omega)]; exact congrArg f2 (by have q1 := z_clI (x := x) (by omega); have q2 := z_clI (x := y) (by omega); have q3 := z_clI (x := y_15) (by omega); omega))⟩)
  · have h_9 : (x.toInt < 0 ∨ cr.toInt ≤ x.toInt ∨ 7 ≤ x.toInt ∨ y.toInt < 0 ∨ (f1 x.toNatClampNeg).toInt ≤ y.toInt ∨ 4 ≤ y.toInt) := h_9
    refine lv_if_eq (tgt := 22) hx hb dX4_target_6 (by decide) (fun _ => ?_) (fun q => absurd (by decide) q)
    refine lv_iconst (v := (-1)) hx hb dX4_target_22 (by decide) ?_
    exact z_back hQz_ (z_iret C hr hlocks G (Nat.le_of_ble_eq_true rfl) (Nat.le_of_ble_eq_true rfl) dX4_target_23 ⟨rfl, (by unfold zTarget; rw [if_neg (by omega)])⟩)
set_option maxHeartbeats 4000000 in
set_option maxRecDepth 100000 in
/-- addRoad -/
theorem c_addRoad (l : Launch) (T : zTy) (h : Nat) (cr : Int32) (inn : Int32) (f1 : Nat → Int32) (f2 : Nat → Int32) (f3 : Nat → Int32) (f4 : Nat → Int32) (w : va_W) (x : Int32) (to : Int32) (hw : bLand T h cr inn f1 f2 f3 f4 w) (hI : zLI cr f1 f3) : zMv l T yX4_addRoad cX4_addRoad 3 2 0 0 [.ref h, .int x, .int to] [w] (fun bs => ∃ (w2 : va_W) (g1 : Nat → Int32) (g2 : Nat → Int32), bs = [w2] ∧ bLand T h cr inn g1 g2 f3 f4 w2 ∧ g1 = zAddA cr f1 x ∧ g2 = zAddB cr f1 f2 x to) := by
  refine zMv_of (own := RX4) (by decide) rfl (Nat.le_of_ble_eq_true rfl) ?_
  intro p e s m args below meth c A ls C hr hlocks hnm hAe G hl
  refine zHide (fun Qz_ hQz_ => ?_)
  have hx := C.1
  have hb := C.2.1
  have hl : lv_has ls 3 [(0, .ref h), (1, .int x), (2, .int to)] := hl
  refine lv_aload_n hx hb dX4_addRoad_0 rfl (lv_at hl 0 rfl) ?_
  refine lv_iload_n hx hb dX4_addRoad_1 rfl (lv_at hl 1 rfl) ?_
  refine z_Vi (bc := [w]) (br := []) (As := [.int x]) (rest := []) C G (c_has l T h cr inn f1 f2 f3 f4 w x hw) (kV_RX4_31 C.2.2.2.2 (Nat.le_of_ble_eq_true rfl) (Nat.le_of_ble_eq_true rfl)) [0] [0] rfl rfl (ci := 4) (qc := (RX4, TX4, 6)) rfl rfl (List.mem_flatten.mpr ⟨_, List.mem_of_getElem? (i := 0) rfl, (bLand_mem hw).choose_spec⟩) rfl rfl hl.1 dX4_addRoad_2 (Nat.le_of_ble_eq_true rfl) (Nat.le_of_ble_eq_true rfl) (fun r_2 b1 H locs hw G => ?_)
  refine zAn2 hw ?_
  intro hbs9 hc_1
  clear hw
  subst hbs9
  have G : zS T A s.heap s [w] _ _ := G
  rcases hc_1 with ⟨rfl, h_3, h_4, h_5⟩ | ⟨rfl, h_6⟩
  · have h_3 : 0 ≤ x.toInt := h_3
    have h_4 : x.toInt < cr.toInt := h_4
    have h_5 : x.toInt < 7 := h_5
    refine lv_if_eq (tgt := 44) hx hb dX4_addRoad_5 (by decide) (fun q => absurd q (by decide)) (fun _ => ?_)
    refine lv_aload_n hx hb dX4_addRoad_8 rfl (lv_at hl 0 rfl) ?_
    refine zEx4 hw ?_
    intro a1_7 a2_8 a3_9 a4_10 hbs9
    clear hw
    subst hbs9
    have G : zS T A s.heap s [[zO4 h cr inn a1_7 a2_8 a3_9 a4_10], [zAr T 0 a1_7 7 f1], [zAr T 0 a2_8 28 f2], [zAr T 0 a3_9 7 f3], [zAr T 0 a4_10 7 f4]] _ _ := G.re rfl
    refine z_get C G clX4 0 rfl 2 (by decide) m_fl_RX4_9 rfl dX4_addRoad_9 ?_
    refine lv_iload_n hx hb dX4_addRoad_12 rfl (lv_at hl 1 rfl) ?_
    refine z_ild C G 1 rfl (vp_in_iff.mpr ⟨by omega, by omega⟩) dX4_addRoad_13 ?_
    refine lv_topi (fun v_11 ev_11 => ?_)
    subst ev_11
    refine lv_iconst (v := 4) hx hb dX4_addRoad_14 (by decide) ?_
    refine lv_icmp_ge (tgt := 44) hx hb dX4_addRoad_15 (by decide) (fun c_12 => ?_) (fun c_12 => ?_)
    · have c_12n : (4 : Int) ≤ (f1 x.toNatClampNeg).toInt := (fa_le _ _).mp c_12
      have hw_13 : bLand T h cr inn f1 f2 f3 f4 [zO4 h cr inn a1_7 a2_8 a3_9 a4_10, zAr T 0 a1_7 7 f1, zAr T 0 a2_8 28 f2, zAr T 0 a3_9 7 f3, zAr T 0 a4_10 7 f4] := ⟨a1_7, a2_8, a3_9, a4_10, rfl⟩
      have G : zS T A s.heap s [[zO4 h cr inn a1_7 a2_8 a3_9 a4_10, zAr T 0 a1_7 7 f1, zAr T 0 a2_8 28 f2, zAr T 0 a3_9 7 f3, zAr T 0 a4_10 7 f4]] _ _ := G.re rfl
      exact z_back hQz_ (z_vret C hr hlocks G (Nat.le_of_ble_eq_true rfl) (Nat.le_of_ble_eq_true rfl) dX4_addRoad_44 ⟨([zO4 h cr inn a1_7 a2_8 a3_9 a4_10, zAr T 0 a1_7 7 f1, zAr T 0 a2_8 28 f2, zAr T 0 a3_9 7 f3, zAr T 0 a4_10 7 f4]), f1, f2, rfl, hw_13, (by unfold zAddA; rw [if_neg (by omega)]), (by unfold zAddB; rw [if_neg (by omega)])⟩)
    · have c_12n : ¬ (4 : Int) ≤ (f1 x.toNatClampNeg).toInt := fun q => c_12 ((fa_le _ _).mpr q)
      have hI0 : 0 ≤ (f1 x.toNatClampNeg).toInt := (hI.2.1 _ (by have q1 := z_clI (x := x) (by omega); omega)).1
      refine lv_aload_n hx hb dX4_addRoad_18 rfl (lv_at hl 0 rfl) ?_
      refine z_get C G clX4 0 rfl 3 (by decide) m_fl_RX4_15 rfl dX4_addRoad_19 ?_
      refine lv_iload_n hx hb dX4_addRoad_22 rfl (lv_at hl 1 rfl) ?_
      refine lv_iconst (v := 4) hx hb dX4_addRoad_23 (by decide) ?_
      refine lv_imul hx hb dX4_addRoad_24 ?_
      refine lv_topi (fun y_14 ey_14 => ?_)
      have ey_14i : y_14.toInt = x.toInt * (4 : Int) := by rw [ey_14]; exact z_imulI (x := x) (y := (4 : Int32)) (by show -2147483648 ≤ x.toInt * (4 : Int); omega) (by show x.toInt * (4 : Int) < 2147483648; omega)
      refine lv_aload_n hx hb dX4_addRoad_25 rfl (lv_at hl 0 rfl) ?_
      refine z_get C G clX4 0 rfl 2 (by decide) m_fl_RX4_9 rfl dX4_addRoad_26 ?_
      refine lv_iload_n hx hb dX4_addRoad_29 rfl (lv_at hl 1 rfl) ?_
      refine z_ild C G 1 rfl (vp_in_iff.mpr ⟨by omega, by omega⟩) dX4_addRoad_30 ?_
      refine lv_topi (fun v_15 ev_15 => ?_)
      subst ev_15
      refine lv_iadd hx hb dX4_addRoad_31 ?_
      refine lv_topi (fun y_16 ey_16 => ?_)
      have ey_16i : y_16.toInt = y_14.toInt + (f1 x.toNatClampNeg).toInt := by rw [ey_16]; exact z_iaddI (x := y_14) (y := (f1 x.toNatClampNeg)) (by show -2147483648 ≤ y_14.toInt + (f1 x.toNatClampNeg).toInt; omega) (by show y_14.toInt + (f1 x.toNatClampNeg).toInt < 2147483648; omega)
      refine lv_iload_n hx hb dX4_addRoad_32 rfl (lv_at hl 2 rfl) ?_
      refine z_ist C G 2 rfl (vp_in_iff.mpr ⟨by omega, by omega⟩) dX4_addRoad_33 (fun H locs G => ?_)
      have G : zS T A s.heap s [[zO4 h cr inn a1_7 a2_8 a3_9 a4_10], [zAr T 0 a1_7 7 f1], [zAr T 0 a2_8 28 (upd f2 y_16.toNatClampNeg to)], [zAr T 0 a3_9 7 f3], [zAr T 0 a4_10 7 f4]] _ _ := G
      refine lv_aload_n hx hb dX4_addRoad_34 rfl (lv_at hl 0 rfl) ?_
      refine z_get C G clX4 0 rfl 2 (by decide) m_fl_RX4_9 rfl dX4_addRoad_35 ?_
      refine lv_iload_n hx hb dX4_addRoad_38 rfl (lv_at hl 1 rfl) ?_
      refine lv_dup2_11 hx hb dX4_addRoad_39 rfl rfl ?_
      refine z_ild C G 1 rfl (vp_in_iff.mpr ⟨by omega, by omega⟩) dX4_addRoad_40 ?_
      refine lv_topi (fun v_17 ev_17 => ?_)
      subst ev_17
      refine lv_iconst (v := 1) hx hb dX4_addRoad_41 (by decide) ?_
      refine lv_iadd hx hb dX4_addRoad_42 ?_
      refine z_ist C G 1 rfl (vp_in_iff.mpr ⟨by omega, by omega⟩) dX4_addRoad_43 (fun H locs G => ?_)
      have G : zS T A s.heap s [[zO4 h cr inn a1_7 a2_8 a3_9 a4_10], [zAr T 0 a1_7 7 (upd f1 x.toNatClampNeg ((f1 x.toNatClampNeg) + 1))], [zAr T 0 a2_8 28 (upd f2 y_16.toNatClampNeg to)], [zAr T 0 a3_9 7 f3], [zAr T 0 a4_10 7 f4]] _ _ := G
      have hw_18 : bLand T h cr inn (upd f1 x.toNatClampNeg ((f1 x.toNatClampNeg) + 1)) (upd f2 y_16.toNatClampNeg to) f3 f4 [zO4 h cr inn a1_7 a2_8 a3_9 a4_10, zAr T 0 a1_7 7 (upd f1 x.toNatClampNeg ((f1 x.toNatClampNeg) + 1)), zAr T 0 a2_8 28 (upd f2 y_16.toNatClampNeg to), zAr T 0 a3_9 7 f3, zAr T 0 a4_10 7 f4] := ⟨a1_7, a2_8, a3_9, a4_10, rfl⟩
      have G : zS T A s.heap s [[zO4 h cr inn a1_7 a2_8 a3_9 a4_10, zAr T 0 a1_7 7 (upd f1 x.toNatClampNeg ((f1 x.toNatClampNeg) + 1)), zAr T 0 a2_8 28 (upd f2 y_16.toNatClampNeg to), zAr T 0 a3_9 7 f3, zAr T 0 a4_10 7 f4]] _ _ := G.re rfl
      exact z_back hQz_ (z_vret C hr hlocks G (Nat.le_of_ble_eq_true rfl) (Nat.le_of_ble_eq_true rfl) dX4_addRoad_44 ⟨([zO4 h cr inn a1_7 a2_8 a3_9 a4_10, zAr T 0 a1_7 7 (upd f1 x.toNatClampNeg ((f1 x.toNatClampNeg) + 1)), zAr T 0 a2_8 28 (upd f2 y_16.toNatClampNeg to), zAr T 0 a3_9 7 f3, zAr T 0 a4_10 7 f4]), (upd f1 x.toNatClampNeg ((f1 x.toNatClampNeg) + 1)), (upd f2 y_16.toNatClampNeg to), rfl, hw_18, (by unfold zAddA; rw [if_pos (by omega)]), (by unfold zAddB; rw [if_pos (by omega)]; exact congrArg (fun k => upd f2 k to) (by have q1 := z_clI (x := x) (by omega); have q2 := z_clI (x := f1 x.toNatClampNeg) hI0; have q3 := z_clI (x := y_16) (by omega); omega))⟩)
  · have h_6 : (x.toInt < 0 ∨ cr.toInt ≤ x.toInt ∨ 7 ≤ x.toInt) := h_6
    refine lv_if_eq (tgt := 44) hx hb dX4_addRoad_5 (by decide) (fun _ => ?_) (fun q => absurd (by decide) q)
    exact z_back hQz_ (z_vret C hr hlocks G (Nat.le_of_ble_eq_true rfl) (Nat.le_of_ble_eq_true rfl) dX4_addRoad_44 ⟨w, f1, f2, rfl, hw, (by unfold zAddA; rw [if_neg (by omega)]), (by unfold zAddB; rw [if_neg (by omega)])⟩)
set_option maxHeartbeats 4000000 in
set_option maxRecDepth 100000 in
/-- c_Land_told -/
theorem c_Land_told (l : Launch) (T : zTy) (h : Nat) (cr : Int32) (inn : Int32) (f1 : Nat → Int32) (f2 : Nat → Int32) (f3 : Nat → Int32) (f4 : Nat → Int32) (w : va_W) (x : Int32) (hw : bLand T h cr inn f1 f2 f3 f4 w) : zMi l T yX4_told cX4_told 3 (some .int) 3 0 0 [.ref h, .int x] [w] (fun (r : Int32) bs => bs = [w]) := by
  refine zMi_of (own := RX4) (by decide) rfl (Nat.le_of_ble_eq_true rfl) ?_
  intro p e s m args below meth c A ls C hr hlocks hnm hAe G hl
  refine zHide (fun Qz_ hQz_ => ?_)
  have hx := C.1
  have hb := C.2.1
  have hl : lv_has ls 3 [(0, .ref h), (1, .int x)] := hl
  refine lv_iload_n hx hb dX4_told_0 rfl (lv_at hl 1 rfl) ?_
  refine lv_if_ne (tgt := 9) hx hb dX4_told_1 (by decide) (fun c_1 => ?_) (fun c_1 => ?_)
  · have c_1n : ¬ x.toInt = (0 : Int) := fun q => c_1 ((fa_eq _ _).mpr q)
    refine lv_iload_n hx hb dX4_told_9 rfl (lv_at hl 1 rfl) ?_
    refine lv_iconst (v := 1) hx hb dX4_told_10 (by decide) ?_
    refine lv_icmp_ne (tgt := 19) hx hb dX4_told_11 (by decide) (fun c_2 => ?_) (fun c_2 => ?_)
    · have c_2n : ¬ x.toInt = (1 : Int) := fun q => c_2 ((fa_eq _ _).mpr q)
      refine lv_iload_n hx hb dX4_told_19 rfl (lv_at hl 1 rfl) ?_
      refine lv_bipush (v := 100) hx hb dX4_told_20 (by decide) ?_
      refine lv_icmp_lt (tgt := 44) hx hb dX4_told_22 (by decide) (fun c_3 => ?_) (fun c_3 => ?_)
      · have c_3n : x.toInt < (100 : Int) := (fa_lt _ _).mp c_3
        refine lv_iload_n hx hb dX4_told_44 rfl (lv_at hl 1 rfl) ?_
        refine lv_bipush (v := 10) hx hb dX4_told_45 (by decide) ?_
        refine lv_irem hx hb dX4_told_47 (by decide) ?_
        refine lv_istore_n (lv' := [(2, .int (x - x / 10 * 10)), (0, .ref h), (1, .int x)]) hx hb dX4_told_48 rfl hl (by decide) (zLvf_h rfl) (fun ls hl => ?_)
        refine lv_aload_n hx hb dX4_told_49 rfl (lv_at hl 1 rfl) ?_
        refine lv_iload_n hx hb dX4_told_50 rfl (lv_at hl 0 rfl) ?_
        refine z_Vi (bc := [w]) (br := []) (As := [.int (x - x / 10 * 10)]) (rest := []) C G (c_has l T h cr inn f1 f2 f3 f4 w (x - x / 10 * 10) hw) (kV_RX4_31 C.2.2.2.2 (Nat.le_of_ble_eq_true rfl) (Nat.le_of_ble_eq_true rfl)) [0] [0] rfl rfl (ci := 4) (qc := (RX4, TX4, 6)) rfl rfl (List.mem_flatten.mpr ⟨_, List.mem_of_getElem? (i := 0) rfl, (bLand_mem hw).choose_spec⟩) rfl rfl hl.1 dX4_told_51 (Nat.le_of_ble_eq_true rfl) (Nat.le_of_ble_eq_true rfl) (fun r_5 b1 H locs hw G => ?_)
        refine zAn2 hw ?_
        intro hbs9 hc_4
        clear hw
        subst hbs9
        have G : zS T A s.heap s [w] _ _ := G
        rcases hc_4 with ⟨rfl, h_6, h_7, h_8⟩ | ⟨rfl, h_9⟩
        · have h_6 : 0 ≤ (x - x / 10 * 10).toInt := h_6
          have h_7 : (x - x / 10 * 10).toInt < cr.toInt := h_7
          have h_8 : (x - x / 10 * 10).toInt < 7 := h_8
          refine lv_if_ne (tgt := 59) hx hb dX4_told_54 (by decide) (fun _ => ?_) (fun q => absurd q (by decide))
          refine lv_iload_n hx hb dX4_told_59 rfl (lv_at hl 2 rfl) ?_
          refine lv_bipush (v := 10) hx hb dX4_told_60 (by decide) ?_
          refine lv_idiv hx hb dX4_told_62 (by decide) ?_
          by_cases c_10o : (x / 10).toInt < 1 ∨ 3 < (x / 10).toInt
          · refine lv_tableOut (tgt := 109) hx hb dX4_told_63 c_10o (by decide) ?_
            refine lv_iconst (v := (-1)) hx hb dX4_told_109 (by decide) ?_
            exact z_back hQz_ (z_iret C hr hlocks G (Nat.le_of_ble_eq_true rfl) (Nat.le_of_ble_eq_true rfl) dX4_told_110 rfl)
          · have c_10r : (x / 10).toInt = 1 ∨ (x / 10).toInt = 2 ∨ (x / 10).toInt = 3 := by omega
            rcases c_10r with c_10 | c_10 | c_10
            · refine lv_tableIn (tgt := 88) hx hb dX4_told_63 (by first | (rw [c_10]; decide) | omega) (by first | (rw [c_10]; decide) | omega) (by rw [c_10]; rfl) (by decide) ?_
              refine lv_aload_n hx hb dX4_told_88 rfl (lv_at hl 1 rfl) ?_
              refine zEx4 hw ?_
              intro a1_11 a2_12 a3_13 a4_14 hbs9
              clear hw
              subst hbs9
              have G : zS T A s.heap s [[zO4 h cr inn a1_11 a2_12 a3_13 a4_14], [zAr T 0 a1_11 7 f1], [zAr T 0 a2_12 28 f2], [zAr T 0 a3_13 7 f3], [zAr T 0 a4_14 7 f4]] _ _ := G.re rfl
              refine z_get C G clX4 0 rfl 2 (by decide) m_fl_RX4_9 rfl dX4_told_89 ?_
              refine lv_iload_n hx hb dX4_told_92 rfl (lv_at hl 0 rfl) ?_
              refine z_ild C G 1 rfl (vp_in_iff.mpr ⟨by omega, by omega⟩) dX4_told_93 ?_
              refine lv_topi (fun v_15 ev_15 => ?_)
              subst ev_15
              have hw_16 : bLand T h cr inn f1 f2 f3 f4 [zO4 h cr inn a1_11 a2_12 a3_13 a4_14, zAr T 0 a1_11 7 f1, zAr T 0 a2_12 28 f2, zAr T 0 a3_13 7 f3, zAr T 0 a4_14 7 f4] := ⟨a1_11, a2_12, a3_13, a4_14, rfl⟩
              have G : zS T A s.heap s [[zO4 h cr inn a1_11 a2_12 a3_13 a4_14, zAr T 0 a1_11 7 f1, zAr T 0 a2_12 28 f2, zAr T 0 a3_13 7 f3, zAr T 0 a4_14 7 f4]] _ _ := G.re rfl
              exact z_back hQz_ (z_iret C hr hlocks G (Nat.le_of_ble_eq_true rfl) (Nat.le_of_ble_eq_true rfl) dX4_told_94 rfl)
            · refine lv_tableIn (tgt := 95) hx hb dX4_told_63 (by first | (rw [c_10]; decide) | omega) (by first | (rw [c_10]; decide) | omega) (by rw [c_10]; rfl) (by decide) ?_
              refine lv_aload_n hx hb dX4_told_95 rfl (lv_at hl 1 rfl) ?_
              refine zEx4 hw ?_
              intro a1_17 a2_18 a3_19 a4_20 hbs9
              clear hw
              subst hbs9
              have G : zS T A s.heap s [[zO4 h cr inn a1_17 a2_18 a3_19 a4_20], [zAr T 0 a1_17 7 f1], [zAr T 0 a2_18 28 f2], [zAr T 0 a3_19 7 f3], [zAr T 0 a4_20 7 f4]] _ _ := G.re rfl
              refine z_get C G clX4 0 rfl 4 (by decide) m_fl_RX4_18 rfl dX4_told_96 ?_
              refine lv_iload_n hx hb dX4_told_99 rfl (lv_at hl 0 rfl) ?_
              refine z_ild C G 3 rfl (vp_in_iff.mpr ⟨by omega, by omega⟩) dX4_told_100 ?_
              refine lv_topi (fun v_21 ev_21 => ?_)
              subst ev_21
              have hw_22 : bLand T h cr inn f1 f2 f3 f4 [zO4 h cr inn a1_17 a2_18 a3_19 a4_20, zAr T 0 a1_17 7 f1, zAr T 0 a2_18 28 f2, zAr T 0 a3_19 7 f3, zAr T 0 a4_20 7 f4] := ⟨a1_17, a2_18, a3_19, a4_20, rfl⟩
              have G : zS T A s.heap s [[zO4 h cr inn a1_17 a2_18 a3_19 a4_20, zAr T 0 a1_17 7 f1, zAr T 0 a2_18 28 f2, zAr T 0 a3_19 7 f3, zAr T 0 a4_20 7 f4]] _ _ := G.re rfl
              exact z_back hQz_ (z_iret C hr hlocks G (Nat.le_of_ble_eq_true rfl) (Nat.le_of_ble_eq_true rfl) dX4_told_101 rfl)
            · refine lv_tableIn (tgt := 102) hx hb dX4_told_63 (by first | (rw [c_10]; decide) | omega) (by first | (rw [c_10]; decide) | omega) (by rw [c_10]; rfl) (by decide) ?_
              refine lv_aload_n hx hb dX4_told_102 rfl (lv_at hl 1 rfl) ?_
              refine zEx4 hw ?_
              intro a1_23 a2_24 a3_25 a4_26 hbs9
              clear hw
              subst hbs9
              have G : zS T A s.heap s [[zO4 h cr inn a1_23 a2_24 a3_25 a4_26], [zAr T 0 a1_23 7 f1], [zAr T 0 a2_24 28 f2], [zAr T 0 a3_25 7 f3], [zAr T 0 a4_26 7 f4]] _ _ := G.re rfl
              refine z_get C G clX4 0 rfl 5 (by decide) m_fl_RX4_21 rfl dX4_told_103 ?_
              refine lv_iload_n hx hb dX4_told_106 rfl (lv_at hl 0 rfl) ?_
              refine z_ild C G 4 rfl (vp_in_iff.mpr ⟨by omega, by omega⟩) dX4_told_107 ?_
              refine lv_topi (fun v_27 ev_27 => ?_)
              subst ev_27
              have hw_28 : bLand T h cr inn f1 f2 f3 f4 [zO4 h cr inn a1_23 a2_24 a3_25 a4_26, zAr T 0 a1_23 7 f1, zAr T 0 a2_24 28 f2, zAr T 0 a3_25 7 f3, zAr T 0 a4_26 7 f4] := ⟨a1_23, a2_24, a3_25, a4_26, rfl⟩
              have G : zS T A s.heap s [[zO4 h cr inn a1_23 a2_24 a3_25 a4_26, zAr T 0 a1_23 7 f1, zAr T 0 a2_24 28 f2, zAr T 0 a3_25 7 f3, zAr T 0 a4_26 7 f4]] _ _ := G.re rfl
              exact z_back hQz_ (z_iret C hr hlocks G (Nat.le_of_ble_eq_true rfl) (Nat.le_of_ble_eq_true rfl) dX4_told_108 rfl)
        · have h_9 : ((x - x / 10 * 10).toInt < 0 ∨ cr.toInt ≤ (x - x / 10 * 10).toInt ∨ 7 ≤ (x - x / 10 * 10).toInt) := h_9
          refine lv_if_ne (tgt := 59) hx hb dX4_told_54 (by decide) (fun q => absurd (by decide) q) (fun _ => ?_)
          refine lv_iconst (v := (-1)) hx hb dX4_told_57 (by decide) ?_
          exact z_back hQz_ (z_iret C hr hlocks G (Nat.le_of_ble_eq_true rfl) (Nat.le_of_ble_eq_true rfl) dX4_told_58 rfl)
      · have c_3n : ¬ x.toInt < (100 : Int) := fun q => c_3 ((fa_lt _ _).mpr q)
        refine lv_aload_n hx hb dX4_told_25 rfl (lv_at hl 0 rfl) ?_
        refine lv_iload_n hx hb dX4_told_26 rfl (lv_at hl 1 rfl) ?_
        refine lv_bipush (v := 100) hx hb dX4_told_27 (by decide) ?_
        refine lv_isub hx hb dX4_told_29 ?_
        refine lv_bipush (v := 10) hx hb dX4_told_30 (by decide) ?_
        refine lv_idiv hx hb dX4_told_32 (by decide) ?_
        refine lv_iload_n hx hb dX4_told_33 rfl (lv_at hl 1 rfl) ?_
        refine lv_bipush (v := 100) hx hb dX4_told_34 (by decide) ?_
        refine lv_isub hx hb dX4_told_36 ?_
        refine lv_bipush (v := 10) hx hb dX4_told_37 (by decide) ?_
        refine lv_irem hx hb dX4_told_39 (by decide) ?_
        refine z_Vi (bc := [w]) (br := []) (As := [.int ((x - 100) / 10), .int ((x - 100) - (x - 100) / 10 * 10)]) (rest := []) C G (c_target l T h cr inn f1 f2 f3 f4 w ((x - 100) / 10) ((x - 100) - (x - 100) / 10 * 10) hw) (kV_RX4_39 C.2.2.2.2 (Nat.le_of_ble_eq_true rfl) (Nat.le_of_ble_eq_true rfl)) [0] [0] rfl rfl (ci := 4) (qc := (RX4, TX4, 6)) rfl rfl (List.mem_flatten.mpr ⟨_, List.mem_of_getElem? (i := 0) rfl, (bLand_mem hw).choose_spec⟩) rfl rfl hl.1 dX4_told_40 (Nat.le_of_ble_eq_true rfl) (Nat.le_of_ble_eq_true rfl) (fun r_30 b1 H locs hw G => ?_)
        refine zAn2 hw ?_
        intro hbs9 h_29
        clear hw
        subst hbs9
        have G : zS T A s.heap s [w] _ _ := G
        subst h_29
        exact z_back hQz_ (z_iret C hr hlocks G (Nat.le_of_ble_eq_true rfl) (Nat.le_of_ble_eq_true rfl) dX4_told_43 rfl)
    · have c_2n : x.toInt = (1 : Int) := (fa_eq _ _).mp c_2
      refine lv_aload_n hx hb dX4_told_14 rfl (lv_at hl 0 rfl) ?_
      refine zEx4 hw ?_
      intro a1_31 a2_32 a3_33 a4_34 hbs9
      clear hw
      subst hbs9
      have G : zS T A s.heap s [[zO4 h cr inn a1_31 a2_32 a3_33 a4_34], [zAr T 0 a1_31 7 f1], [zAr T 0 a2_32 28 f2], [zAr T 0 a3_33 7 f3], [zAr T 0 a4_34 7 f4]] _ _ := G.re rfl
      refine z_get C G clX4 0 rfl 1 (by decide) m_fl_RX4_28 rfl dX4_told_15 ?_
      have hw_35 : bLand T h cr inn f1 f2 f3 f4 [zO4 h cr inn a1_31 a2_32 a3_33 a4_34, zAr T 0 a1_31 7 f1, zAr T 0 a2_32 28 f2, zAr T 0 a3_33 7 f3, zAr T 0 a4_34 7 f4] := ⟨a1_31, a2_32, a3_33, a4_34, rfl⟩
      have G : zS T A s.heap s [[zO4 h cr inn a1_31 a2_32 a3_33 a4_34, zAr T 0 a1_31 7 f1, zAr T 0 a2_32 28 f2, zAr T 0 a3_33 7 f3, zAr T 0 a4_34 7 f4]] _ _ := G.re rfl
      exact z_back hQz_ (z_iret C hr hlocks G (Nat.le_of_ble_eq_true rfl) (Nat.le_of_ble_eq_true rfl) dX4_told_18 rfl)
  · have c_1n : x.toInt = (0 : Int) := (fa_eq _ _).mp c_1
    refine lv_aload_n hx hb dX4_told_4 rfl (lv_at hl 0 rfl) ?_
    refine zEx4 hw ?_
    intro a1_36 a2_37 a3_38 a4_39 hbs9
    clear hw
    subst hbs9
    have G : zS T A s.heap s [[zO4 h cr inn a1_36 a2_37 a3_38 a4_39], [zAr T 0 a1_36 7 f1], [zAr T 0 a2_37 28 f2], [zAr T 0 a3_38 7 f3], [zAr T 0 a4_39 7 f4]] _ _ := G.re rfl
    refine z_get C G clX4 0 rfl 0 (by decide) m_fl_RX4_24 rfl dX4_told_5 ?_
    have hw_40 : bLand T h cr inn f1 f2 f3 f4 [zO4 h cr inn a1_36 a2_37 a3_38 a4_39, zAr T 0 a1_36 7 f1, zAr T 0 a2_37 28 f2, zAr T 0 a3_38 7 f3, zAr T 0 a4_39 7 f4] := ⟨a1_36, a2_37, a3_38, a4_39, rfl⟩
    have G : zS T A s.heap s [[zO4 h cr inn a1_36 a2_37 a3_38 a4_39, zAr T 0 a1_36 7 f1, zAr T 0 a2_37 28 f2, zAr T 0 a3_38 7 f3, zAr T 0 a4_39 7 f4]] _ _ := G.re rfl
    exact z_back hQz_ (z_iret C hr hlocks G (Nat.le_of_ble_eq_true rfl) (Nat.le_of_ble_eq_true rfl) dX4_told_8 rfl)
theorem m_fl_RX2_21 : Cond.fieldLink RX2 21 (TX2 0).1 (TX2 0).2.1 (TX2 0).2.2.1 ∈ zT := zmem1 zsub_1 88 rfl rfl
theorem m_fl_RX5_18 : Cond.fieldLink RX5 18 (TX5 0).1 (TX5 0).2.1 (TX5 0).2.2.1 ∈ zT := zmem1 zsub_1 114 rfl rfl
theorem dX2_add_0 : decode cX2_add 0 = .ok (.aload_n 0, 1) := zo_42 (by decide +kernel)
theorem dX2_add_1 : decode cX2_add 1 = .ok (.getfield 21, 3) := zo_180 (by decide +kernel)
theorem dX2_add_4 : decode cX2_add 4 = .ok (.ifCond .lt 52, 3) := zo_155 (by decide +kernel)
theorem dX2_add_7 : decode cX2_add 7 = .ok (.aload_n 0, 1) := zo_42 (by decide +kernel)
theorem dX2_add_8 : decode cX2_add 8 = .ok (.getfield 21, 3) := zo_180 (by decide +kernel)
theorem dX2_add_11 : decode cX2_add 11 = .ok (.bipush 40, 2) := zo_16 (by decide +kernel)
theorem dX2_add_13 : decode cX2_add 13 = .ok (.if_icmp .ge 43, 3) := zo_162 (by decide +kernel)
theorem dX2_add_16 : decode cX2_add 16 = .ok (.aload_n 0, 1) := zo_42 (by decide +kernel)
theorem dX2_add_17 : decode cX2_add 17 = .ok (.getfield 9, 3) := zo_180 (by decide +kernel)
theorem dX2_add_20 : decode cX2_add 20 = .ok (.aload_n 0, 1) := zo_42 (by decide +kernel)
theorem dX2_add_21 : decode cX2_add 21 = .ok (.getfield 21, 3) := zo_180 (by decide +kernel)
theorem dX2_add_24 : decode cX2_add 24 = .ok (.iload_n 1, 1) := zo_27 (by decide +kernel)
theorem dX2_add_25 : decode cX2_add 25 = .ok (.iastore, 1) := zo_79 (by decide +kernel)
theorem dX2_add_26 : decode cX2_add 26 = .ok (.aload_n 0, 1) := zo_42 (by decide +kernel)
theorem dX2_add_27 : decode cX2_add 27 = .ok (.getfield 15, 3) := zo_180 (by decide +kernel)
theorem dX2_add_30 : decode cX2_add 30 = .ok (.aload_n 0, 1) := zo_42 (by decide +kernel)
theorem dX2_add_31 : decode cX2_add 31 = .ok (.getfield 21, 3) := zo_180 (by decide +kernel)
theorem dX2_add_34 : decode cX2_add 34 = .ok (.iload_n 2, 1) := zo_28 (by decide +kernel)
theorem dX2_add_35 : decode cX2_add 35 = .ok (.iastore, 1) := zo_79 (by decide +kernel)
theorem dX2_add_36 : decode cX2_add 36 = .ok (.aload_n 0, 1) := zo_42 (by decide +kernel)
theorem dX2_add_37 : decode cX2_add 37 = .ok (.getfield 18, 3) := zo_180 (by decide +kernel)
theorem dX2_add_40 : decode cX2_add 40 = .ok (.aload_n 0, 1) := zo_42 (by decide +kernel)
theorem dX2_add_41 : decode cX2_add 41 = .ok (.getfield 21, 3) := zo_180 (by decide +kernel)
theorem dX2_add_44 : decode cX2_add 44 = .ok (.iload_n 3, 1) := zo_29 (by decide +kernel)
theorem dX2_add_45 : decode cX2_add 45 = .ok (.iastore, 1) := zo_79 (by decide +kernel)
theorem dX2_add_46 : decode cX2_add 46 = .ok (.aload_n 0, 1) := zo_42 (by decide +kernel)
theorem dX2_add_47 : decode cX2_add 47 = .ok (.dup, 1) := zo_89 (by decide +kernel)
theorem dX2_add_48 : decode cX2_add 48 = .ok (.getfield 21, 3) := zo_180 (by decide +kernel)
theorem dX2_add_51 : decode cX2_add 51 = .ok (.iconst 1, 1) := zo_4 (by decide +kernel)
theorem dX2_add_52 : decode cX2_add 52 = .ok (.iadd, 1) := zo_96 (by decide +kernel)
theorem dX2_add_53 : decode cX2_add 53 = .ok (.putfield 21, 3) := zo_181 (by decide +kernel)
theorem dX2_add_56 : decode cX2_add 56 = .ok (.return_, 1) := zo_177 (by decide +kernel)
theorem dX2_told_0 : decode cX2_told 0 = .ok (.iload_n 1, 1) := zo_27 (by decide +kernel)
theorem dX2_told_1 : decode cX2_told 1 = .ok (.iconst (-1), 1) := zo_2 (by decide +kernel)
theorem dX2_told_2 : decode cX2_told 2 = .ok (.if_icmp .ne 12, 3) := zo_160 (by decide +kernel)
theorem dX2_told_5 : decode cX2_told 5 = .ok (.iload_n 2, 1) := zo_28 (by decide +kernel)
theorem dX2_told_6 : decode cX2_told 6 = .ok (.ifCond .ne 8, 3) := zo_154 (by decide +kernel)
theorem dX2_told_9 : decode cX2_told 9 = .ok (.aload_n 0, 1) := zo_42 (by decide +kernel)
theorem dX2_told_10 : decode cX2_told 10 = .ok (.getfield 21, 3) := zo_180 (by decide +kernel)
theorem dX2_told_13 : decode cX2_told 13 = .ok (.ireturn, 1) := zo_172 (by decide +kernel)
theorem dX2_told_14 : decode cX2_told 14 = .ok (.iload_n 1, 1) := zo_27 (by decide +kernel)
theorem dX2_told_15 : decode cX2_told 15 = .ok (.ifCond .lt 17, 3) := zo_155 (by decide +kernel)
theorem dX2_told_18 : decode cX2_told 18 = .ok (.iload_n 1, 1) := zo_27 (by decide +kernel)
theorem dX2_told_19 : decode cX2_told 19 = .ok (.aload_n 0, 1) := zo_42 (by decide +kernel)
theorem dX2_told_20 : decode cX2_told 20 = .ok (.getfield 21, 3) := zo_180 (by decide +kernel)
theorem dX2_told_23 : decode cX2_told 23 = .ok (.if_icmp .ge 9, 3) := zo_162 (by decide +kernel)
theorem dX2_told_26 : decode cX2_told 26 = .ok (.iload_n 1, 1) := zo_27 (by decide +kernel)
theorem dX2_told_27 : decode cX2_told 27 = .ok (.bipush 40, 2) := zo_16 (by decide +kernel)
theorem dX2_told_29 : decode cX2_told 29 = .ok (.if_icmp .lt 6, 3) := zo_161 (by decide +kernel)
theorem dX2_told_32 : decode cX2_told 32 = .ok (.bipush (-2), 2) := zo_16 (by decide +kernel)
theorem dX2_told_34 : decode cX2_told 34 = .ok (.ireturn, 1) := zo_172 (by decide +kernel)
theorem dX2_told_35 : decode cX2_told 35 = .ok (.iload_n 2, 1) := zo_28 (by decide +kernel)
theorem dX2_told_36 : decode cX2_told 36 = .ok (.tableswitch 49 0 2 #[28, 35, 42], 28) := by decide +kernel
theorem dX2_told_64 : decode cX2_told 64 = .ok (.aload_n 0, 1) := zo_42 (by decide +kernel)
theorem dX2_told_65 : decode cX2_told 65 = .ok (.getfield 9, 3) := zo_180 (by decide +kernel)
theorem dX2_told_68 : decode cX2_told 68 = .ok (.iload_n 1, 1) := zo_27 (by decide +kernel)
theorem dX2_told_69 : decode cX2_told 69 = .ok (.iaload, 1) := zo_46 (by decide +kernel)
theorem dX2_told_70 : decode cX2_told 70 = .ok (.ireturn, 1) := zo_172 (by decide +kernel)
theorem dX2_told_71 : decode cX2_told 71 = .ok (.aload_n 0, 1) := zo_42 (by decide +kernel)
theorem dX2_told_72 : decode cX2_told 72 = .ok (.getfield 15, 3) := zo_180 (by decide +kernel)
theorem dX2_told_75 : decode cX2_told 75 = .ok (.iload_n 1, 1) := zo_27 (by decide +kernel)
theorem dX2_told_76 : decode cX2_told 76 = .ok (.iaload, 1) := zo_46 (by decide +kernel)
theorem dX2_told_77 : decode cX2_told 77 = .ok (.ireturn, 1) := zo_172 (by decide +kernel)
theorem dX2_told_78 : decode cX2_told 78 = .ok (.aload_n 0, 1) := zo_42 (by decide +kernel)
theorem dX2_told_79 : decode cX2_told 79 = .ok (.getfield 18, 3) := zo_180 (by decide +kernel)
theorem dX2_told_82 : decode cX2_told 82 = .ok (.iload_n 1, 1) := zo_27 (by decide +kernel)
theorem dX2_told_83 : decode cX2_told 83 = .ok (.iaload, 1) := zo_46 (by decide +kernel)
theorem dX2_told_84 : decode cX2_told 84 = .ok (.ireturn, 1) := zo_172 (by decide +kernel)
theorem dX2_told_85 : decode cX2_told 85 = .ok (.bipush (-2), 2) := zo_16 (by decide +kernel)
theorem dX2_told_87 : decode cX2_told 87 = .ok (.ireturn, 1) := zo_172 (by decide +kernel)
theorem dX5_add_0 : decode cX5_add 0 = .ok (.aload_n 0, 1) := zo_42 (by decide +kernel)
theorem dX5_add_1 : decode cX5_add 1 = .ok (.getfield 18, 3) := zo_180 (by decide +kernel)
theorem dX5_add_4 : decode cX5_add 4 = .ok (.ifCond .lt 42, 3) := zo_155 (by decide +kernel)
theorem dX5_add_7 : decode cX5_add 7 = .ok (.aload_n 0, 1) := zo_42 (by decide +kernel)
theorem dX5_add_8 : decode cX5_add 8 = .ok (.getfield 18, 3) := zo_180 (by decide +kernel)
theorem dX5_add_11 : decode cX5_add 11 = .ok (.bipush 8, 2) := zo_16 (by decide +kernel)
theorem dX5_add_13 : decode cX5_add 13 = .ok (.if_icmp .ge 33, 3) := zo_162 (by decide +kernel)
theorem dX5_add_16 : decode cX5_add 16 = .ok (.aload_n 0, 1) := zo_42 (by decide +kernel)
theorem dX5_add_17 : decode cX5_add 17 = .ok (.getfield 9, 3) := zo_180 (by decide +kernel)
theorem dX5_add_20 : decode cX5_add 20 = .ok (.aload_n 0, 1) := zo_42 (by decide +kernel)
theorem dX5_add_21 : decode cX5_add 21 = .ok (.getfield 18, 3) := zo_180 (by decide +kernel)
theorem dX5_add_24 : decode cX5_add 24 = .ok (.iload_n 1, 1) := zo_27 (by decide +kernel)
theorem dX5_add_25 : decode cX5_add 25 = .ok (.iastore, 1) := zo_79 (by decide +kernel)
theorem dX5_add_26 : decode cX5_add 26 = .ok (.aload_n 0, 1) := zo_42 (by decide +kernel)
theorem dX5_add_27 : decode cX5_add 27 = .ok (.getfield 15, 3) := zo_180 (by decide +kernel)
theorem dX5_add_30 : decode cX5_add 30 = .ok (.aload_n 0, 1) := zo_42 (by decide +kernel)
theorem dX5_add_31 : decode cX5_add 31 = .ok (.getfield 18, 3) := zo_180 (by decide +kernel)
theorem dX5_add_34 : decode cX5_add 34 = .ok (.iload_n 2, 1) := zo_28 (by decide +kernel)
theorem dX5_add_35 : decode cX5_add 35 = .ok (.iastore, 1) := zo_79 (by decide +kernel)
theorem dX5_add_36 : decode cX5_add 36 = .ok (.aload_n 0, 1) := zo_42 (by decide +kernel)
theorem dX5_add_37 : decode cX5_add 37 = .ok (.dup, 1) := zo_89 (by decide +kernel)
theorem dX5_add_38 : decode cX5_add 38 = .ok (.getfield 18, 3) := zo_180 (by decide +kernel)
theorem dX5_add_41 : decode cX5_add 41 = .ok (.iconst 1, 1) := zo_4 (by decide +kernel)
theorem dX5_add_42 : decode cX5_add 42 = .ok (.iadd, 1) := zo_96 (by decide +kernel)
theorem dX5_add_43 : decode cX5_add 43 = .ok (.putfield 18, 3) := zo_181 (by decide +kernel)
theorem dX5_add_46 : decode cX5_add 46 = .ok (.return_, 1) := zo_177 (by decide +kernel)
theorem dX5_told_0 : decode cX5_told 0 = .ok (.iload_n 1, 1) := zo_27 (by decide +kernel)
theorem dX5_told_1 : decode cX5_told 1 = .ok (.iconst (-1), 1) := zo_2 (by decide +kernel)
theorem dX5_told_2 : decode cX5_told 2 = .ok (.if_icmp .ne 12, 3) := zo_160 (by decide +kernel)
theorem dX5_told_5 : decode cX5_told 5 = .ok (.iload_n 2, 1) := zo_28 (by decide +kernel)
theorem dX5_told_6 : decode cX5_told 6 = .ok (.ifCond .ne 8, 3) := zo_154 (by decide +kernel)
theorem dX5_told_9 : decode cX5_told 9 = .ok (.aload_n 0, 1) := zo_42 (by decide +kernel)
theorem dX5_told_10 : decode cX5_told 10 = .ok (.getfield 18, 3) := zo_180 (by decide +kernel)
theorem dX5_told_13 : decode cX5_told 13 = .ok (.ireturn, 1) := zo_172 (by decide +kernel)
theorem dX5_told_14 : decode cX5_told 14 = .ok (.iload_n 1, 1) := zo_27 (by decide +kernel)
theorem dX5_told_15 : decode cX5_told 15 = .ok (.ifCond .lt 26, 3) := zo_155 (by decide +kernel)
theorem dX5_told_18 : decode cX5_told 18 = .ok (.iload_n 1, 1) := zo_27 (by decide +kernel)
theorem dX5_told_19 : decode cX5_told 19 = .ok (.aload_n 0, 1) := zo_42 (by decide +kernel)
theorem dX5_told_20 : decode cX5_told 20 = .ok (.getfield 18, 3) := zo_180 (by decide +kernel)
theorem dX5_told_23 : decode cX5_told 23 = .ok (.if_icmp .ge 18, 3) := zo_162 (by decide +kernel)
theorem dX5_told_26 : decode cX5_told 26 = .ok (.iload_n 1, 1) := zo_27 (by decide +kernel)
theorem dX5_told_27 : decode cX5_told 27 = .ok (.bipush 8, 2) := zo_16 (by decide +kernel)
theorem dX5_told_29 : decode cX5_told 29 = .ok (.if_icmp .ge 12, 3) := zo_162 (by decide +kernel)
theorem dX5_told_32 : decode cX5_told 32 = .ok (.iload_n 2, 1) := zo_28 (by decide +kernel)
theorem dX5_told_33 : decode cX5_told 33 = .ok (.ifCond .lt 8, 3) := zo_155 (by decide +kernel)
theorem dX5_told_36 : decode cX5_told 36 = .ok (.iload_n 2, 1) := zo_28 (by decide +kernel)
theorem dX5_told_37 : decode cX5_told 37 = .ok (.iconst 1, 1) := zo_4 (by decide +kernel)
theorem dX5_told_38 : decode cX5_told 38 = .ok (.if_icmp .le 6, 3) := zo_164 (by decide +kernel)
theorem dX5_told_41 : decode cX5_told 41 = .ok (.bipush (-2), 2) := zo_16 (by decide +kernel)
theorem dX5_told_43 : decode cX5_told 43 = .ok (.ireturn, 1) := zo_172 (by decide +kernel)
theorem dX5_told_44 : decode cX5_told 44 = .ok (.iload_n 2, 1) := zo_28 (by decide +kernel)
theorem dX5_told_45 : decode cX5_told 45 = .ok (.ifCond .ne 12, 3) := zo_154 (by decide +kernel)
theorem dX5_told_48 : decode cX5_told 48 = .ok (.aload_n 0, 1) := zo_42 (by decide +kernel)
theorem dX5_told_49 : decode cX5_told 49 = .ok (.getfield 9, 3) := zo_180 (by decide +kernel)
theorem dX5_told_52 : decode cX5_told 52 = .ok (.iload_n 1, 1) := zo_27 (by decide +kernel)
theorem dX5_told_53 : decode cX5_told 53 = .ok (.iaload, 1) := zo_46 (by decide +kernel)
theorem dX5_told_54 : decode cX5_told 54 = .ok (.goto 9, 3) := zo_167 (by decide +kernel)
theorem dX5_told_57 : decode cX5_told 57 = .ok (.aload_n 0, 1) := zo_42 (by decide +kernel)
theorem dX5_told_58 : decode cX5_told 58 = .ok (.getfield 15, 3) := zo_180 (by decide +kernel)
theorem dX5_told_61 : decode cX5_told 61 = .ok (.iload_n 1, 1) := zo_27 (by decide +kernel)
theorem dX5_told_62 : decode cX5_told 62 = .ok (.iaload, 1) := zo_46 (by decide +kernel)
theorem dX5_told_63 : decode cX5_told 63 = .ok (.ireturn, 1) := zo_172 (by decide +kernel)
theorem dX4_takeAll_0 : decode cX4_takeAll 0 = .ok (.aload_n 0, 1) := zo_42 (by decide +kernel)
theorem dX4_takeAll_1 : decode cX4_takeAll 1 = .ok (.aload_n 1, 1) := zo_43 (by decide +kernel)
theorem dX4_takeAll_2 : decode cX4_takeAll 2 = .ok (.getfield 24, 3) := zo_180 (by decide +kernel)
theorem dX4_takeAll_5 : decode cX4_takeAll 5 = .ok (.putfield 24, 3) := zo_181 (by decide +kernel)
theorem dX4_takeAll_8 : decode cX4_takeAll 8 = .ok (.aload_n 0, 1) := zo_42 (by decide +kernel)
theorem dX4_takeAll_9 : decode cX4_takeAll 9 = .ok (.aload_n 1, 1) := zo_43 (by decide +kernel)
theorem dX4_takeAll_10 : decode cX4_takeAll 10 = .ok (.getfield 28, 3) := zo_180 (by decide +kernel)
theorem dX4_takeAll_13 : decode cX4_takeAll 13 = .ok (.putfield 28, 3) := zo_181 (by decide +kernel)
theorem dX4_takeAll_16 : decode cX4_takeAll 16 = .ok (.iconst 0, 1) := zo_3 (by decide +kernel)
theorem dX4_takeAll_17 : decode cX4_takeAll 17 = .ok (.istore_n 2, 1) := zo_61 (by decide +kernel)
theorem dX4_takeAll_18 : decode cX4_takeAll 18 = .ok (.iload_n 2, 1) := zo_28 (by decide +kernel)
theorem dX4_takeAll_19 : decode cX4_takeAll 19 = .ok (.bipush 7, 2) := zo_16 (by decide +kernel)
theorem dX4_takeAll_21 : decode cX4_takeAll 21 = .ok (.if_icmp .ge 45, 3) := zo_162 (by decide +kernel)
theorem dX4_takeAll_24 : decode cX4_takeAll 24 = .ok (.aload_n 0, 1) := zo_42 (by decide +kernel)
theorem dX4_takeAll_25 : decode cX4_takeAll 25 = .ok (.getfield 9, 3) := zo_180 (by decide +kernel)
theorem dX4_takeAll_28 : decode cX4_takeAll 28 = .ok (.iload_n 2, 1) := zo_28 (by decide +kernel)
theorem dX4_takeAll_29 : decode cX4_takeAll 29 = .ok (.aload_n 1, 1) := zo_43 (by decide +kernel)
theorem dX4_takeAll_30 : decode cX4_takeAll 30 = .ok (.getfield 9, 3) := zo_180 (by decide +kernel)
theorem dX4_takeAll_33 : decode cX4_takeAll 33 = .ok (.iload_n 2, 1) := zo_28 (by decide +kernel)
theorem dX4_takeAll_34 : decode cX4_takeAll 34 = .ok (.iaload, 1) := zo_46 (by decide +kernel)
theorem dX4_takeAll_35 : decode cX4_takeAll 35 = .ok (.iastore, 1) := zo_79 (by decide +kernel)
theorem dX4_takeAll_36 : decode cX4_takeAll 36 = .ok (.aload_n 0, 1) := zo_42 (by decide +kernel)
theorem dX4_takeAll_37 : decode cX4_takeAll 37 = .ok (.getfield 18, 3) := zo_180 (by decide +kernel)
theorem dX4_takeAll_40 : decode cX4_takeAll 40 = .ok (.iload_n 2, 1) := zo_28 (by decide +kernel)
theorem dX4_takeAll_41 : decode cX4_takeAll 41 = .ok (.aload_n 1, 1) := zo_43 (by decide +kernel)
theorem dX4_takeAll_42 : decode cX4_takeAll 42 = .ok (.getfield 18, 3) := zo_180 (by decide +kernel)
theorem dX4_takeAll_45 : decode cX4_takeAll 45 = .ok (.iload_n 2, 1) := zo_28 (by decide +kernel)
theorem dX4_takeAll_46 : decode cX4_takeAll 46 = .ok (.iaload, 1) := zo_46 (by decide +kernel)
theorem dX4_takeAll_47 : decode cX4_takeAll 47 = .ok (.iastore, 1) := zo_79 (by decide +kernel)
theorem dX4_takeAll_48 : decode cX4_takeAll 48 = .ok (.aload_n 0, 1) := zo_42 (by decide +kernel)
theorem dX4_takeAll_49 : decode cX4_takeAll 49 = .ok (.getfield 21, 3) := zo_180 (by decide +kernel)
theorem dX4_takeAll_52 : decode cX4_takeAll 52 = .ok (.iload_n 2, 1) := zo_28 (by decide +kernel)
theorem dX4_takeAll_53 : decode cX4_takeAll 53 = .ok (.aload_n 1, 1) := zo_43 (by decide +kernel)
theorem dX4_takeAll_54 : decode cX4_takeAll 54 = .ok (.getfield 21, 3) := zo_180 (by decide +kernel)
theorem dX4_takeAll_57 : decode cX4_takeAll 57 = .ok (.iload_n 2, 1) := zo_28 (by decide +kernel)
theorem dX4_takeAll_58 : decode cX4_takeAll 58 = .ok (.iaload, 1) := zo_46 (by decide +kernel)
theorem dX4_takeAll_59 : decode cX4_takeAll 59 = .ok (.iastore, 1) := zo_79 (by decide +kernel)
theorem dX4_takeAll_60 : decode cX4_takeAll 60 = .ok (.iinc 2 1, 3) := zo_132 (by decide +kernel)
theorem dX4_takeAll_63 : decode cX4_takeAll 63 = .ok (.goto (-45), 3) := zo_167 (by decide +kernel)
theorem dX4_takeAll_66 : decode cX4_takeAll 66 = .ok (.iconst 0, 1) := zo_3 (by decide +kernel)
theorem dX4_takeAll_67 : decode cX4_takeAll 67 = .ok (.istore_n 2, 1) := zo_61 (by decide +kernel)
theorem dX4_takeAll_68 : decode cX4_takeAll 68 = .ok (.iload_n 2, 1) := zo_28 (by decide +kernel)
theorem dX4_takeAll_69 : decode cX4_takeAll 69 = .ok (.bipush 28, 2) := zo_16 (by decide +kernel)
theorem dX4_takeAll_71 : decode cX4_takeAll 71 = .ok (.if_icmp .ge 21, 3) := zo_162 (by decide +kernel)
theorem dX4_takeAll_74 : decode cX4_takeAll 74 = .ok (.aload_n 0, 1) := zo_42 (by decide +kernel)
theorem dX4_takeAll_75 : decode cX4_takeAll 75 = .ok (.getfield 15, 3) := zo_180 (by decide +kernel)
theorem dX4_takeAll_78 : decode cX4_takeAll 78 = .ok (.iload_n 2, 1) := zo_28 (by decide +kernel)
theorem dX4_takeAll_79 : decode cX4_takeAll 79 = .ok (.aload_n 1, 1) := zo_43 (by decide +kernel)
theorem dX4_takeAll_80 : decode cX4_takeAll 80 = .ok (.getfield 15, 3) := zo_180 (by decide +kernel)
theorem dX4_takeAll_83 : decode cX4_takeAll 83 = .ok (.iload_n 2, 1) := zo_28 (by decide +kernel)
theorem dX4_takeAll_84 : decode cX4_takeAll 84 = .ok (.iaload, 1) := zo_46 (by decide +kernel)
theorem dX4_takeAll_85 : decode cX4_takeAll 85 = .ok (.iastore, 1) := zo_79 (by decide +kernel)
theorem dX4_takeAll_86 : decode cX4_takeAll 86 = .ok (.iinc 2 1, 3) := zo_132 (by decide +kernel)
theorem dX4_takeAll_89 : decode cX4_takeAll 89 = .ok (.goto (-21), 3) := zo_167 (by decide +kernel)
theorem dX4_takeAll_92 : decode cX4_takeAll 92 = .ok (.return_, 1) := zo_177 (by decide +kernel)
theorem dX2_takeAll_0 : decode cX2_takeAll 0 = .ok (.aload_n 0, 1) := zo_42 (by decide +kernel)
theorem dX2_takeAll_1 : decode cX2_takeAll 1 = .ok (.aload_n 1, 1) := zo_43 (by decide +kernel)
theorem dX2_takeAll_2 : decode cX2_takeAll 2 = .ok (.getfield 21, 3) := zo_180 (by decide +kernel)
theorem dX2_takeAll_5 : decode cX2_takeAll 5 = .ok (.putfield 21, 3) := zo_181 (by decide +kernel)
theorem dX2_takeAll_8 : decode cX2_takeAll 8 = .ok (.iconst 0, 1) := zo_3 (by decide +kernel)
theorem dX2_takeAll_9 : decode cX2_takeAll 9 = .ok (.istore_n 2, 1) := zo_61 (by decide +kernel)
theorem dX2_takeAll_10 : decode cX2_takeAll 10 = .ok (.iload_n 2, 1) := zo_28 (by decide +kernel)
theorem dX2_takeAll_11 : decode cX2_takeAll 11 = .ok (.bipush 40, 2) := zo_16 (by decide +kernel)
theorem dX2_takeAll_13 : decode cX2_takeAll 13 = .ok (.if_icmp .ge 45, 3) := zo_162 (by decide +kernel)
theorem dX2_takeAll_16 : decode cX2_takeAll 16 = .ok (.aload_n 0, 1) := zo_42 (by decide +kernel)
theorem dX2_takeAll_17 : decode cX2_takeAll 17 = .ok (.getfield 9, 3) := zo_180 (by decide +kernel)
theorem dX2_takeAll_20 : decode cX2_takeAll 20 = .ok (.iload_n 2, 1) := zo_28 (by decide +kernel)
theorem dX2_takeAll_21 : decode cX2_takeAll 21 = .ok (.aload_n 1, 1) := zo_43 (by decide +kernel)
theorem dX2_takeAll_22 : decode cX2_takeAll 22 = .ok (.getfield 9, 3) := zo_180 (by decide +kernel)
theorem dX2_takeAll_25 : decode cX2_takeAll 25 = .ok (.iload_n 2, 1) := zo_28 (by decide +kernel)
theorem dX2_takeAll_26 : decode cX2_takeAll 26 = .ok (.iaload, 1) := zo_46 (by decide +kernel)
theorem dX2_takeAll_27 : decode cX2_takeAll 27 = .ok (.iastore, 1) := zo_79 (by decide +kernel)
theorem dX2_takeAll_28 : decode cX2_takeAll 28 = .ok (.aload_n 0, 1) := zo_42 (by decide +kernel)
theorem dX2_takeAll_29 : decode cX2_takeAll 29 = .ok (.getfield 15, 3) := zo_180 (by decide +kernel)
theorem dX2_takeAll_32 : decode cX2_takeAll 32 = .ok (.iload_n 2, 1) := zo_28 (by decide +kernel)
theorem dX2_takeAll_33 : decode cX2_takeAll 33 = .ok (.aload_n 1, 1) := zo_43 (by decide +kernel)
theorem dX2_takeAll_34 : decode cX2_takeAll 34 = .ok (.getfield 15, 3) := zo_180 (by decide +kernel)
theorem dX2_takeAll_37 : decode cX2_takeAll 37 = .ok (.iload_n 2, 1) := zo_28 (by decide +kernel)
theorem dX2_takeAll_38 : decode cX2_takeAll 38 = .ok (.iaload, 1) := zo_46 (by decide +kernel)
theorem dX2_takeAll_39 : decode cX2_takeAll 39 = .ok (.iastore, 1) := zo_79 (by decide +kernel)
theorem dX2_takeAll_40 : decode cX2_takeAll 40 = .ok (.aload_n 0, 1) := zo_42 (by decide +kernel)
theorem dX2_takeAll_41 : decode cX2_takeAll 41 = .ok (.getfield 18, 3) := zo_180 (by decide +kernel)
theorem dX2_takeAll_44 : decode cX2_takeAll 44 = .ok (.iload_n 2, 1) := zo_28 (by decide +kernel)
theorem dX2_takeAll_45 : decode cX2_takeAll 45 = .ok (.aload_n 1, 1) := zo_43 (by decide +kernel)
theorem dX2_takeAll_46 : decode cX2_takeAll 46 = .ok (.getfield 18, 3) := zo_180 (by decide +kernel)
theorem dX2_takeAll_49 : decode cX2_takeAll 49 = .ok (.iload_n 2, 1) := zo_28 (by decide +kernel)
theorem dX2_takeAll_50 : decode cX2_takeAll 50 = .ok (.iaload, 1) := zo_46 (by decide +kernel)
theorem dX2_takeAll_51 : decode cX2_takeAll 51 = .ok (.iastore, 1) := zo_79 (by decide +kernel)
theorem dX2_takeAll_52 : decode cX2_takeAll 52 = .ok (.iinc 2 1, 3) := zo_132 (by decide +kernel)
theorem dX2_takeAll_55 : decode cX2_takeAll 55 = .ok (.goto (-45), 3) := zo_167 (by decide +kernel)
theorem dX2_takeAll_58 : decode cX2_takeAll 58 = .ok (.return_, 1) := zo_177 (by decide +kernel)
theorem dX5_takeAll_0 : decode cX5_takeAll 0 = .ok (.aload_n 0, 1) := zo_42 (by decide +kernel)
theorem dX5_takeAll_1 : decode cX5_takeAll 1 = .ok (.aload_n 1, 1) := zo_43 (by decide +kernel)
theorem dX5_takeAll_2 : decode cX5_takeAll 2 = .ok (.getfield 18, 3) := zo_180 (by decide +kernel)
theorem dX5_takeAll_5 : decode cX5_takeAll 5 = .ok (.putfield 18, 3) := zo_181 (by decide +kernel)
theorem dX5_takeAll_8 : decode cX5_takeAll 8 = .ok (.iconst 0, 1) := zo_3 (by decide +kernel)
theorem dX5_takeAll_9 : decode cX5_takeAll 9 = .ok (.istore_n 2, 1) := zo_61 (by decide +kernel)
theorem dX5_takeAll_10 : decode cX5_takeAll 10 = .ok (.iload_n 2, 1) := zo_28 (by decide +kernel)
theorem dX5_takeAll_11 : decode cX5_takeAll 11 = .ok (.bipush 8, 2) := zo_16 (by decide +kernel)
theorem dX5_takeAll_13 : decode cX5_takeAll 13 = .ok (.if_icmp .ge 33, 3) := zo_162 (by decide +kernel)
theorem dX5_takeAll_16 : decode cX5_takeAll 16 = .ok (.aload_n 0, 1) := zo_42 (by decide +kernel)
theorem dX5_takeAll_17 : decode cX5_takeAll 17 = .ok (.getfield 9, 3) := zo_180 (by decide +kernel)
theorem dX5_takeAll_20 : decode cX5_takeAll 20 = .ok (.iload_n 2, 1) := zo_28 (by decide +kernel)
theorem dX5_takeAll_21 : decode cX5_takeAll 21 = .ok (.aload_n 1, 1) := zo_43 (by decide +kernel)
theorem dX5_takeAll_22 : decode cX5_takeAll 22 = .ok (.getfield 9, 3) := zo_180 (by decide +kernel)
theorem dX5_takeAll_25 : decode cX5_takeAll 25 = .ok (.iload_n 2, 1) := zo_28 (by decide +kernel)
theorem dX5_takeAll_26 : decode cX5_takeAll 26 = .ok (.iaload, 1) := zo_46 (by decide +kernel)
theorem dX5_takeAll_27 : decode cX5_takeAll 27 = .ok (.iastore, 1) := zo_79 (by decide +kernel)
theorem dX5_takeAll_28 : decode cX5_takeAll 28 = .ok (.aload_n 0, 1) := zo_42 (by decide +kernel)
theorem dX5_takeAll_29 : decode cX5_takeAll 29 = .ok (.getfield 15, 3) := zo_180 (by decide +kernel)
theorem dX5_takeAll_32 : decode cX5_takeAll 32 = .ok (.iload_n 2, 1) := zo_28 (by decide +kernel)
theorem dX5_takeAll_33 : decode cX5_takeAll 33 = .ok (.aload_n 1, 1) := zo_43 (by decide +kernel)
theorem dX5_takeAll_34 : decode cX5_takeAll 34 = .ok (.getfield 15, 3) := zo_180 (by decide +kernel)
theorem dX5_takeAll_37 : decode cX5_takeAll 37 = .ok (.iload_n 2, 1) := zo_28 (by decide +kernel)
theorem dX5_takeAll_38 : decode cX5_takeAll 38 = .ok (.iaload, 1) := zo_46 (by decide +kernel)
theorem dX5_takeAll_39 : decode cX5_takeAll 39 = .ok (.iastore, 1) := zo_79 (by decide +kernel)
theorem dX5_takeAll_40 : decode cX5_takeAll 40 = .ok (.iinc 2 1, 3) := zo_132 (by decide +kernel)
theorem dX5_takeAll_43 : decode cX5_takeAll 43 = .ok (.goto (-33), 3) := zo_167 (by decide +kernel)
theorem dX5_takeAll_46 : decode cX5_takeAll 46 = .ok (.return_, 1) := zo_177 (by decide +kernel)
theorem dX4_clear_0 : decode cX4_clear 0 = .ok (.aload_n 0, 1) := zo_42 (by decide +kernel)
theorem dX4_clear_1 : decode cX4_clear 1 = .ok (.iconst 0, 1) := zo_3 (by decide +kernel)
theorem dX4_clear_2 : decode cX4_clear 2 = .ok (.putfield 24, 3) := zo_181 (by decide +kernel)
theorem dX4_clear_5 : decode cX4_clear 5 = .ok (.aload_n 0, 1) := zo_42 (by decide +kernel)
theorem dX4_clear_6 : decode cX4_clear 6 = .ok (.iconst 0, 1) := zo_3 (by decide +kernel)
theorem dX4_clear_7 : decode cX4_clear 7 = .ok (.putfield 28, 3) := zo_181 (by decide +kernel)
theorem dX4_clear_10 : decode cX4_clear 10 = .ok (.iconst 0, 1) := zo_3 (by decide +kernel)
theorem dX4_clear_11 : decode cX4_clear 11 = .ok (.istore_n 1, 1) := zo_60 (by decide +kernel)
theorem dX4_clear_12 : decode cX4_clear 12 = .ok (.iload_n 1, 1) := zo_27 (by decide +kernel)
theorem dX4_clear_13 : decode cX4_clear 13 = .ok (.bipush 7, 2) := zo_16 (by decide +kernel)
theorem dX4_clear_15 : decode cX4_clear 15 = .ok (.if_icmp .ge 30, 3) := zo_162 (by decide +kernel)
theorem dX4_clear_18 : decode cX4_clear 18 = .ok (.aload_n 0, 1) := zo_42 (by decide +kernel)
theorem dX4_clear_19 : decode cX4_clear 19 = .ok (.getfield 9, 3) := zo_180 (by decide +kernel)
theorem dX4_clear_22 : decode cX4_clear 22 = .ok (.iload_n 1, 1) := zo_27 (by decide +kernel)
theorem dX4_clear_23 : decode cX4_clear 23 = .ok (.iconst 0, 1) := zo_3 (by decide +kernel)
theorem dX4_clear_24 : decode cX4_clear 24 = .ok (.iastore, 1) := zo_79 (by decide +kernel)
theorem dX4_clear_25 : decode cX4_clear 25 = .ok (.aload_n 0, 1) := zo_42 (by decide +kernel)
theorem dX4_clear_26 : decode cX4_clear 26 = .ok (.getfield 18, 3) := zo_180 (by decide +kernel)
theorem dX4_clear_29 : decode cX4_clear 29 = .ok (.iload_n 1, 1) := zo_27 (by decide +kernel)
theorem dX4_clear_30 : decode cX4_clear 30 = .ok (.iconst 0, 1) := zo_3 (by decide +kernel)
theorem dX4_clear_31 : decode cX4_clear 31 = .ok (.iastore, 1) := zo_79 (by decide +kernel)
theorem dX4_clear_32 : decode cX4_clear 32 = .ok (.aload_n 0, 1) := zo_42 (by decide +kernel)
theorem dX4_clear_33 : decode cX4_clear 33 = .ok (.getfield 21, 3) := zo_180 (by decide +kernel)
theorem dX4_clear_36 : decode cX4_clear 36 = .ok (.iload_n 1, 1) := zo_27 (by decide +kernel)
theorem dX4_clear_37 : decode cX4_clear 37 = .ok (.iconst 0, 1) := zo_3 (by decide +kernel)
theorem dX4_clear_38 : decode cX4_clear 38 = .ok (.iastore, 1) := zo_79 (by decide +kernel)
theorem dX4_clear_39 : decode cX4_clear 39 = .ok (.iinc 1 1, 3) := zo_132 (by decide +kernel)
theorem dX4_clear_42 : decode cX4_clear 42 = .ok (.goto (-30), 3) := zo_167 (by decide +kernel)
theorem dX4_clear_45 : decode cX4_clear 45 = .ok (.return_, 1) := zo_177 (by decide +kernel)
def zDA (dd : Int32) (f : Nat → Int32) (v : Int32) : Nat → Int32 := if 0 ≤ dd.toInt ∧ dd.toInt < 40 then upd f dd.toNatClampNeg v else f
def zDN (dd : Int32) : Int32 := if 0 ≤ dd.toInt ∧ dd.toInt < 40 then dd + 1 else dd
def zGA (dd : Int32) (f : Nat → Int32) (v : Int32) : Nat → Int32 := if 0 ≤ dd.toInt ∧ dd.toInt < 8 then upd f dd.toNatClampNeg v else f
def zGN (dd : Int32) : Int32 := if 0 ≤ dd.toInt ∧ dd.toInt < 8 then dd + 1 else dd
def zDayTold (dd : Int32) (f1 f2 f3 : Nat → Int32) (k what : Int32) : Int32 := if k.toInt = -1 ∧ what.toInt = 0 then dd else if k.toInt < 0 ∨ dd.toInt ≤ k.toInt ∨ 40 ≤ k.toInt then -2 else if what.toInt = 0 then f1 k.toNatClampNeg else if what.toInt = 1 then f2 k.toNatClampNeg else if what.toInt = 2 then f3 k.toNatClampNeg else -2
def zLogTold (dd : Int32) (f1 f2 : Nat → Int32) (k what : Int32) : Int32 := if k.toInt = -1 ∧ what.toInt = 0 then dd else if k.toInt < 0 ∨ dd.toInt ≤ k.toInt ∨ 8 ≤ k.toInt ∨ what.toInt < 0 ∨ 1 < what.toInt then -2 else if what.toInt = 0 then f1 k.toNatClampNeg else f2 k.toNatClampNeg
set_option maxHeartbeats 4000000 in
set_option maxRecDepth 100000 in
/-- Day.add -/
theorem c_Day_add (l : Launch) (T : zTy) (h : Nat) (dd : Int32) (f1 : Nat → Int32) (f2 : Nat → Int32) (f3 : Nat → Int32) (w : va_W) (x : Int32) (y : Int32) (z : Int32) (hw : bDay T h dd f1 f2 f3 w) : zMv l T yX2_add cX2_add 4 1 0 0 [.ref h, .int x, .int y, .int z] [w] (fun bs => ∃ (w2 : va_W) (u : Int32) (g1 : Nat → Int32) (g2 : Nat → Int32) (g3 : Nat → Int32), bs = [w2] ∧ bDay T h u g1 g2 g3 w2 ∧ u = zDN dd ∧ g1 = zDA dd f1 x ∧ g2 = zDA dd f2 y ∧ g3 = zDA dd f3 z) := by
  refine zMv_of (own := RX2) (by decide) rfl (Nat.le_of_ble_eq_true rfl) ?_
  intro p e s m args below meth c A ls C hr hlocks hnm hAe G hl
  refine zHide (fun Qz_ hQz_ => ?_)
  have hx := C.1
  have hb := C.2.1
  have hl : lv_has ls 4 [(0, .ref h), (1, .int x), (2, .int y), (3, .int z)] := hl
  refine lv_aload_n hx hb dX2_add_0 rfl (lv_at hl 0 rfl) ?_
  refine zEx3 hw ?_
  intro a1_1 a2_2 a3_3 hbs9
  clear hw
  subst hbs9
  have G : zS T A s.heap s [[(h, .inr (2, [.int dd, .ref a1_1, .ref a2_2, .ref a3_3]))], [zAr T 0 a1_1 40 f1], [zAr T 0 a2_2 40 f2], [zAr T 0 a3_3 40 f3]] _ _ := G.re rfl
  refine z_get C G clX2 0 rfl 0 (by decide) m_fl_RX2_21 rfl dX2_add_1 ?_
  refine lv_if_lt (tgt := 56) hx hb dX2_add_4 (by decide) (fun c_4 => ?_) (fun c_4 => ?_)
  · have c_4n : dd.toInt < (0 : Int) := (fa_lt _ _).mp c_4
    have hw_5 : bDay T h dd f1 f2 f3 [(h, .inr (2, [.int dd, .ref a1_1, .ref a2_2, .ref a3_3])), zAr T 0 a1_1 40 f1, zAr T 0 a2_2 40 f2, zAr T 0 a3_3 40 f3] := ⟨a1_1, a2_2, a3_3, rfl⟩
    have G : zS T A s.heap s [[(h, .inr (2, [.int dd, .ref a1_1, .ref a2_2, .ref a3_3])), zAr T 0 a1_1 40 f1, zAr T 0 a2_2 40 f2, zAr T 0 a3_3 40 f3]] _ _ := G.re rfl
    exact z_back hQz_ (z_vret C hr hlocks G (Nat.le_of_ble_eq_true rfl) (Nat.le_of_ble_eq_true rfl) dX2_add_56 ⟨([(h, .inr (2, [.int dd, .ref a1_1, .ref a2_2, .ref a3_3])), zAr T 0 a1_1 40 f1, zAr T 0 a2_2 40 f2, zAr T 0 a3_3 40 f3]), dd, f1, f2, f3, rfl, hw_5, (by unfold zDN; rw [if_neg (by omega)]), (by unfold zDA; rw [if_neg (by omega)]), (by unfold zDA; rw [if_neg (by omega)]), (by unfold zDA; rw [if_neg (by omega)])⟩)
  · have c_4n : ¬ dd.toInt < (0 : Int) := fun q => c_4 ((fa_lt _ _).mpr q)
    refine lv_aload_n hx hb dX2_add_7 rfl (lv_at hl 0 rfl) ?_
    refine z_get C G clX2 0 rfl 0 (by decide) m_fl_RX2_21 rfl dX2_add_8 ?_
    refine lv_bipush (v := 40) hx hb dX2_add_11 (by decide) ?_
    refine lv_icmp_ge (tgt := 56) hx hb dX2_add_13 (by decide) (fun c_6 => ?_) (fun c_6 => ?_)
    · have c_6n : (40 : Int) ≤ dd.toInt := (fa_le _ _).mp c_6
      have hw_7 : bDay T h dd f1 f2 f3 [(h, .inr (2, [.int dd, .ref a1_1, .ref a2_2, .ref a3_3])), zAr T 0 a1_1 40 f1, zAr T 0 a2_2 40 f2, zAr T 0 a3_3 40 f3] := ⟨a1_1, a2_2, a3_3, rfl⟩
      have G : zS T A s.heap s [[(h, .inr (2, [.int dd, .ref a1_1, .ref a2_2, .ref a3_3])), zAr T 0 a1_1 40 f1, zAr T 0 a2_2 40 f2, zAr T 0 a3_3 40 f3]] _ _ := G.re rfl
      exact z_back hQz_ (z_vret C hr hlocks G (Nat.le_of_ble_eq_true rfl) (Nat.le_of_ble_eq_true rfl) dX2_add_56 ⟨([(h, .inr (2, [.int dd, .ref a1_1, .ref a2_2, .ref a3_3])), zAr T 0 a1_1 40 f1, zAr T 0 a2_2 40 f2, zAr T 0 a3_3 40 f3]), dd, f1, f2, f3, rfl, hw_7, (by unfold zDN; rw [if_neg (by omega)]), (by unfold zDA; rw [if_neg (by omega)]), (by unfold zDA; rw [if_neg (by omega)]), (by unfold zDA; rw [if_neg (by omega)])⟩)
    · have c_6n : ¬ (40 : Int) ≤ dd.toInt := fun q => c_6 ((fa_le _ _).mpr q)
      refine lv_aload_n hx hb dX2_add_16 rfl (lv_at hl 0 rfl) ?_
      refine z_get C G clX2 0 rfl 1 (by decide) m_fl_RX2_9 rfl dX2_add_17 ?_
      refine lv_aload_n hx hb dX2_add_20 rfl (lv_at hl 0 rfl) ?_
      refine z_get C G clX2 0 rfl 0 (by decide) m_fl_RX2_21 rfl dX2_add_21 ?_
      refine lv_iload_n hx hb dX2_add_24 rfl (lv_at hl 1 rfl) ?_
      refine z_ist C G 1 rfl (vp_in_iff.mpr ⟨by omega, by omega⟩) dX2_add_25 (fun H locs G => ?_)
      have G : zS T A s.heap s [[(h, .inr (2, [.int dd, .ref a1_1, .ref a2_2, .ref a3_3]))], [zAr T 0 a1_1 40 (upd f1 dd.toNatClampNeg x)], [zAr T 0 a2_2 40 f2], [zAr T 0 a3_3 40 f3]] _ _ := G
      refine lv_aload_n hx hb dX2_add_26 rfl (lv_at hl 0 rfl) ?_
      refine z_get C G clX2 0 rfl 2 (by decide) m_fl_RX2_15 rfl dX2_add_27 ?_
      refine lv_aload_n hx hb dX2_add_30 rfl (lv_at hl 0 rfl) ?_
      refine z_get C G clX2 0 rfl 0 (by decide) m_fl_RX2_21 rfl dX2_add_31 ?_
      refine lv_iload_n hx hb dX2_add_34 rfl (lv_at hl 2 rfl) ?_
      refine z_ist C G 2 rfl (vp_in_iff.mpr ⟨by omega, by omega⟩) dX2_add_35 (fun H locs G => ?_)
      have G : zS T A s.heap s [[(h, .inr (2, [.int dd, .ref a1_1, .ref a2_2, .ref a3_3]))], [zAr T 0 a1_1 40 (upd f1 dd.toNatClampNeg x)], [zAr T 0 a2_2 40 (upd f2 dd.toNatClampNeg y)], [zAr T 0 a3_3 40 f3]] _ _ := G
      refine lv_aload_n hx hb dX2_add_36 rfl (lv_at hl 0 rfl) ?_
      refine z_get C G clX2 0 rfl 3 (by decide) m_fl_RX2_18 rfl dX2_add_37 ?_
      refine lv_aload_n hx hb dX2_add_40 rfl (lv_at hl 0 rfl) ?_
      refine z_get C G clX2 0 rfl 0 (by decide) m_fl_RX2_21 rfl dX2_add_41 ?_
      refine lv_iload_n hx hb dX2_add_44 rfl (lv_at hl 3 rfl) ?_
      refine z_ist C G 3 rfl (vp_in_iff.mpr ⟨by omega, by omega⟩) dX2_add_45 (fun H locs G => ?_)
      have G : zS T A s.heap s [[(h, .inr (2, [.int dd, .ref a1_1, .ref a2_2, .ref a3_3]))], [zAr T 0 a1_1 40 (upd f1 dd.toNatClampNeg x)], [zAr T 0 a2_2 40 (upd f2 dd.toNatClampNeg y)], [zAr T 0 a3_3 40 (upd f3 dd.toNatClampNeg z)]] _ _ := G
      refine lv_aload_n hx hb dX2_add_46 rfl (lv_at hl 0 rfl) ?_
      refine lv_dup hx hb dX2_add_47 rfl ?_
      refine z_get C G clX2 0 rfl 0 (by decide) m_fl_RX2_21 rfl dX2_add_48 ?_
      refine lv_iconst (v := 1) hx hb dX2_add_51 (by decide) ?_
      refine lv_iadd hx hb dX2_add_52 ?_
      refine z_put C G clX2 0 rfl 0 (by decide) m_fl_RX2_21 rfl rfl rfl (Nat.le_of_ble_eq_true rfl) dX2_add_53 (fun H locs G => ?_)
      have G : zS T A s.heap s [[(h, .inr (2, [.int (dd + 1), .ref a1_1, .ref a2_2, .ref a3_3]))], [zAr T 0 a1_1 40 (upd f1 dd.toNatClampNeg x)], [zAr T 0 a2_2 40 (upd f2 dd.toNatClampNeg y)], [zAr T 0 a3_3 40 (upd f3 dd.toNatClampNeg z)]] _ _ := G
      have hw_8 : bDay T h (dd + 1) (upd f1 dd.toNatClampNeg x) (upd f2 dd.toNatClampNeg y) (upd f3 dd.toNatClampNeg z) [(h, .inr (2, [.int (dd + 1), .ref a1_1, .ref a2_2, .ref a3_3])), zAr T 0 a1_1 40 (upd f1 dd.toNatClampNeg x), zAr T 0 a2_2 40 (upd f2 dd.toNatClampNeg y), zAr T 0 a3_3 40 (upd f3 dd.toNatClampNeg z)] := ⟨a1_1, a2_2, a3_3, rfl⟩
      have G : zS T A s.heap s [[(h, .inr (2, [.int (dd + 1), .ref a1_1, .ref a2_2, .ref a3_3])), zAr T 0 a1_1 40 (upd f1 dd.toNatClampNeg x), zAr T 0 a2_2 40 (upd f2 dd.toNatClampNeg y), zAr T 0 a3_3 40 (upd f3 dd.toNatClampNeg z)]] _ _ := G.re rfl
      exact z_back hQz_ (z_vret C hr hlocks G (Nat.le_of_ble_eq_true rfl) (Nat.le_of_ble_eq_true rfl) dX2_add_56 ⟨([(h, .inr (2, [.int (dd + 1), .ref a1_1, .ref a2_2, .ref a3_3])), zAr T 0 a1_1 40 (upd f1 dd.toNatClampNeg x), zAr T 0 a2_2 40 (upd f2 dd.toNatClampNeg y), zAr T 0 a3_3 40 (upd f3 dd.toNatClampNeg z)]), (dd + 1), (upd f1 dd.toNatClampNeg x), (upd f2 dd.toNatClampNeg y), (upd f3 dd.toNatClampNeg z), rfl, hw_8, (by unfold zDN; rw [if_pos (by omega)]), (by unfold zDA; rw [if_pos (by omega)]), (by unfold zDA; rw [if_pos (by omega)]), (by unfold zDA; rw [if_pos (by omega)])⟩)
set_option maxHeartbeats 4000000 in
set_option maxRecDepth 100000 in
/-- Day.told -/
theorem c_Day_told (l : Launch) (T : zTy) (h : Nat) (dd : Int32) (f1 : Nat → Int32) (f2 : Nat → Int32) (f3 : Nat → Int32) (w : va_W) (k : Int32) (what : Int32) (hw : bDay T h dd f1 f2 f3 w) : zMi l T yX2_told cX2_told 3 (some .int) 1 0 0 [.ref h, .int k, .int what] [w] (fun (r : Int32) bs => bs = [w] ∧ r = zDayTold dd f1 f2 f3 k what) := by
  refine zMi_of (own := RX2) (by decide) rfl (Nat.le_of_ble_eq_true rfl) ?_
  intro p e s m args below meth c A ls C hr hlocks hnm hAe G hl
  refine zHide (fun Qz_ hQz_ => ?_)
  have hx := C.1
  have hb := C.2.1
  have hl : lv_has ls 3 [(0, .ref h), (1, .int k), (2, .int what)] := hl
  refine lv_iload_n hx hb dX2_told_0 rfl (lv_at hl 1 rfl) ?_
  refine lv_iconst (v := (-1)) hx hb dX2_told_1 (by decide) ?_
  refine lv_icmp_ne (tgt := 14) hx hb dX2_told_2 (by decide) (fun c_1 => ?_) (fun c_1 => ?_)
  · have c_1n : ¬ k.toInt = (-1 : Int) := fun q => c_1 ((fa_eq _ _).mpr q)
    refine lv_iload_n hx hb dX2_told_14 rfl (lv_at hl 1 rfl) ?_
    refine lv_if_lt (tgt := 32) hx hb dX2_told_15 (by decide) (fun c_2 => ?_) (fun c_2 => ?_)
    · have c_2n : k.toInt < (0 : Int) := (fa_lt _ _).mp c_2
      refine lv_bipush (v := (-2)) hx hb dX2_told_32 (by decide) ?_
      exact z_back hQz_ (z_iret C hr hlocks G (Nat.le_of_ble_eq_true rfl) (Nat.le_of_ble_eq_true rfl) dX2_told_34 ⟨rfl, (by unfold zDayTold; (repeat' split) <;> first | rfl | omega)⟩)
    · have c_2n : ¬ k.toInt < (0 : Int) := fun q => c_2 ((fa_lt _ _).mpr q)
      refine lv_iload_n hx hb dX2_told_18 rfl (lv_at hl 1 rfl) ?_
      refine lv_aload_n hx hb dX2_told_19 rfl (lv_at hl 0 rfl) ?_
      refine zEx3 hw ?_
      intro a1_3 a2_4 a3_5 hbs9
      clear hw
      subst hbs9
      have G : zS T A s.heap s [[(h, .inr (2, [.int dd, .ref a1_3, .ref a2_4, .ref a3_5]))], [zAr T 0 a1_3 40 f1], [zAr T 0 a2_4 40 f2], [zAr T 0 a3_5 40 f3]] _ _ := G.re rfl
      refine z_get C G clX2 0 rfl 0 (by decide) m_fl_RX2_21 rfl dX2_told_20 ?_
      refine lv_icmp_ge (tgt := 32) hx hb dX2_told_23 (by decide) (fun c_6 => ?_) (fun c_6 => ?_)
      · have c_6n : dd.toInt ≤ k.toInt := (fa_le _ _).mp c_6
        refine lv_bipush (v := (-2)) hx hb dX2_told_32 (by decide) ?_
        have hw_7 : bDay T h dd f1 f2 f3 [(h, .inr (2, [.int dd, .ref a1_3, .ref a2_4, .ref a3_5])), zAr T 0 a1_3 40 f1, zAr T 0 a2_4 40 f2, zAr T 0 a3_5 40 f3] := ⟨a1_3, a2_4, a3_5, rfl⟩
        have G : zS T A s.heap s [[(h, .inr (2, [.int dd, .ref a1_3, .ref a2_4, .ref a3_5])), zAr T 0 a1_3 40 f1, zAr T 0 a2_4 40 f2, zAr T 0 a3_5 40 f3]] _ _ := G.re rfl
        exact z_back hQz_ (z_iret C hr hlocks G (Nat.le_of_ble_eq_true rfl) (Nat.le_of_ble_eq_true rfl) dX2_told_34 ⟨rfl, (by unfold zDayTold; (repeat' split) <;> first | rfl | omega)⟩)
      · have c_6n : ¬ dd.toInt ≤ k.toInt := fun q => c_6 ((fa_le _ _).mpr q)
        refine lv_iload_n hx hb dX2_told_26 rfl (lv_at hl 1 rfl) ?_
        refine lv_bipush (v := 40) hx hb dX2_told_27 (by decide) ?_
        refine lv_icmp_lt (tgt := 35) hx hb dX2_told_29 (by decide) (fun c_8 => ?_) (fun c_8 => ?_)
        · have c_8n : k.toInt < (40 : Int) := (fa_lt _ _).mp c_8
          refine lv_iload_n hx hb dX2_told_35 rfl (lv_at hl 2 rfl) ?_
          by_cases c_9o : what.toInt < 0 ∨ 2 < what.toInt
          · refine lv_tableOut (tgt := 85) hx hb dX2_told_36 c_9o (by decide) ?_
            refine lv_bipush (v := (-2)) hx hb dX2_told_85 (by decide) ?_
            have hw_10 : bDay T h dd f1 f2 f3 [(h, .inr (2, [.int dd, .ref a1_3, .ref a2_4, .ref a3_5])), zAr T 0 a1_3 40 f1, zAr T 0 a2_4 40 f2, zAr T 0 a3_5 40 f3] := ⟨a1_3, a2_4, a3_5, rfl⟩
            have G : zS T A s.heap s [[(h, .inr (2, [.int dd, .ref a1_3, .ref a2_4, .ref a3_5])), zAr T 0 a1_3 40 f1, zAr T 0 a2_4 40 f2, zAr T 0 a3_5 40 f3]] _ _ := G.re rfl
            exact z_back hQz_ (z_iret C hr hlocks G (Nat.le_of_ble_eq_true rfl) (Nat.le_of_ble_eq_true rfl) dX2_told_87 ⟨rfl, (by unfold zDayTold; (repeat' split) <;> first | rfl | omega)⟩)
          · have c_9r : what.toInt = 0 ∨ what.toInt = 1 ∨ what.toInt = 2 := by omega
            rcases c_9r with c_9 | c_9 | c_9
            · refine lv_tableIn (tgt := 64) hx hb dX2_told_36 (by first | (rw [c_9]; decide) | omega) (by first | (rw [c_9]; decide) | omega) (by rw [c_9]; rfl) (by decide) ?_
              refine lv_aload_n hx hb dX2_told_64 rfl (lv_at hl 0 rfl) ?_
              refine z_get C G clX2 0 rfl 1 (by decide) m_fl_RX2_9 rfl dX2_told_65 ?_
              refine lv_iload_n hx hb dX2_told_68 rfl (lv_at hl 1 rfl) ?_
              refine z_ild C G 1 rfl (vp_in_iff.mpr ⟨by omega, by omega⟩) dX2_told_69 ?_
              refine lv_topi (fun v_11 ev_11 => ?_)
              subst ev_11
              have hw_12 : bDay T h dd f1 f2 f3 [(h, .inr (2, [.int dd, .ref a1_3, .ref a2_4, .ref a3_5])), zAr T 0 a1_3 40 f1, zAr T 0 a2_4 40 f2, zAr T 0 a3_5 40 f3] := ⟨a1_3, a2_4, a3_5, rfl⟩
              have G : zS T A s.heap s [[(h, .inr (2, [.int dd, .ref a1_3, .ref a2_4, .ref a3_5])), zAr T 0 a1_3 40 f1, zAr T 0 a2_4 40 f2, zAr T 0 a3_5 40 f3]] _ _ := G.re rfl
              exact z_back hQz_ (z_iret C hr hlocks G (Nat.le_of_ble_eq_true rfl) (Nat.le_of_ble_eq_true rfl) dX2_told_70 ⟨rfl, (by unfold zDayTold; (repeat' split) <;> first | rfl | omega)⟩)
            · refine lv_tableIn (tgt := 71) hx hb dX2_told_36 (by first | (rw [c_9]; decide) | omega) (by first | (rw [c_9]; decide) | omega) (by rw [c_9]; rfl) (by decide) ?_
              refine lv_aload_n hx hb dX2_told_71 rfl (lv_at hl 0 rfl) ?_
              refine z_get C G clX2 0 rfl 2 (by decide) m_fl_RX2_15 rfl dX2_told_72 ?_
              refine lv_iload_n hx hb dX2_told_75 rfl (lv_at hl 1 rfl) ?_
              refine z_ild C G 2 rfl (vp_in_iff.mpr ⟨by omega, by omega⟩) dX2_told_76 ?_
              refine lv_topi (fun v_13 ev_13 => ?_)
              subst ev_13
              have hw_14 : bDay T h dd f1 f2 f3 [(h, .inr (2, [.int dd, .ref a1_3, .ref a2_4, .ref a3_5])), zAr T 0 a1_3 40 f1, zAr T 0 a2_4 40 f2, zAr T 0 a3_5 40 f3] := ⟨a1_3, a2_4, a3_5, rfl⟩
              have G : zS T A s.heap s [[(h, .inr (2, [.int dd, .ref a1_3, .ref a2_4, .ref a3_5])), zAr T 0 a1_3 40 f1, zAr T 0 a2_4 40 f2, zAr T 0 a3_5 40 f3]] _ _ := G.re rfl
              exact z_back hQz_ (z_iret C hr hlocks G (Nat.le_of_ble_eq_true rfl) (Nat.le_of_ble_eq_true rfl) dX2_told_77 ⟨rfl, (by unfold zDayTold; (repeat' split) <;> first | rfl | omega)⟩)
            · refine lv_tableIn (tgt := 78) hx hb dX2_told_36 (by first | (rw [c_9]; decide) | omega) (by first | (rw [c_9]; decide) | omega) (by rw [c_9]; rfl) (by decide) ?_
              refine lv_aload_n hx hb dX2_told_78 rfl (lv_at hl 0 rfl) ?_
              refine z_get C G clX2 0 rfl 3 (by decide) m_fl_RX2_18 rfl dX2_told_79 ?_
              refine lv_iload_n hx hb dX2_told_82 rfl (lv_at hl 1 rfl) ?_
              refine z_ild C G 3 rfl (vp_in_iff.mpr ⟨by omega, by omega⟩) dX2_told_83 ?_
              refine lv_topi (fun v_15 ev_15 => ?_)
              subst ev_15
              have hw_16 : bDay T h dd f1 f2 f3 [(h, .inr (2, [.int dd, .ref a1_3, .ref a2_4, .ref a3_5])), zAr T 0 a1_3 40 f1, zAr T 0 a2_4 40 f2, zAr T 0 a3_5 40 f3] := ⟨a1_3, a2_4, a3_5, rfl⟩
              have G : zS T A s.heap s [[(h, .inr (2, [.int dd, .ref a1_3, .ref a2_4, .ref a3_5])), zAr T 0 a1_3 40 f1, zAr T 0 a2_4 40 f2, zAr T 0 a3_5 40 f3]] _ _ := G.re rfl
              exact z_back hQz_ (z_iret C hr hlocks G (Nat.le_of_ble_eq_true rfl) (Nat.le_of_ble_eq_true rfl) dX2_told_84 ⟨rfl, (by unfold zDayTold; (repeat' split) <;> first | rfl | omega)⟩)
        · have c_8n : ¬ k.toInt < (40 : Int) := fun q => c_8 ((fa_lt _ _).mpr q)
          refine lv_bipush (v := (-2)) hx hb dX2_told_32 (by decide) ?_
          have hw_17 : bDay T h dd f1 f2 f3 [(h, .inr (2, [.int dd, .ref a1_3, .ref a2_4, .ref a3_5])), zAr T 0 a1_3 40 f1, zAr T 0 a2_4 40 f2, zAr T 0 a3_5 40 f3] := ⟨a1_3, a2_4, a3_5, rfl⟩
          have G : zS T A s.heap s [[(h, .inr (2, [.int dd, .ref a1_3, .ref a2_4, .ref a3_5])), zAr T 0 a1_3 40 f1, zAr T 0 a2_4 40 f2, zAr T 0 a3_5 40 f3]] _ _ := G.re rfl
          exact z_back hQz_ (z_iret C hr hlocks G (Nat.le_of_ble_eq_true rfl) (Nat.le_of_ble_eq_true rfl) dX2_told_34 ⟨rfl, (by unfold zDayTold; (repeat' split) <;> first | rfl | omega)⟩)
  · have c_1n : k.toInt = (-1 : Int) := (fa_eq _ _).mp c_1
    refine lv_iload_n hx hb dX2_told_5 rfl (lv_at hl 2 rfl) ?_
    refine lv_if_ne (tgt := 14) hx hb dX2_told_6 (by decide) (fun c_18 => ?_) (fun c_18 => ?_)
    · have c_18n : ¬ what.toInt = (0 : Int) := fun q => c_18 ((fa_eq _ _).mpr q)
      refine lv_iload_n hx hb dX2_told_14 rfl (lv_at hl 1 rfl) ?_
      refine lv_if_lt (tgt := 32) hx hb dX2_told_15 (by decide) (fun c_19 => ?_) (fun c_19 => ?_)
      · have c_19n : k.toInt < (0 : Int) := (fa_lt _ _).mp c_19
        refine lv_bipush (v := (-2)) hx hb dX2_told_32 (by decide) ?_
        exact z_back hQz_ (z_iret C hr hlocks G (Nat.le_of_ble_eq_true rfl) (Nat.le_of_ble_eq_true rfl) dX2_told_34 ⟨rfl, (by unfold zDayTold; (repeat' split) <;> first | rfl | omega)⟩)
      · have c_19n : ¬ k.toInt < (0 : Int) := fun q => c_19 ((fa_lt _ _).mpr q)
        refine lv_iload_n hx hb dX2_told_18 rfl (lv_at hl 1 rfl) ?_
        refine lv_aload_n hx hb dX2_told_19 rfl (lv_at hl 0 rfl) ?_
        refine zEx3 hw ?_
        intro a1_20 a2_21 a3_22 hbs9
        clear hw
        subst hbs9
        have G : zS T A s.heap s [[(h, .inr (2, [.int dd, .ref a1_20, .ref a2_21, .ref a3_22]))], [zAr T 0 a1_20 40 f1], [zAr T 0 a2_21 40 f2], [zAr T 0 a3_22 40 f3]] _ _ := G.re rfl
        refine z_get C G clX2 0 rfl 0 (by decide) m_fl_RX2_21 rfl dX2_told_20 ?_
        refine lv_icmp_ge (tgt := 32) hx hb dX2_told_23 (by decide) (fun c_23 => ?_) (fun c_23 => ?_)
        · have c_23n : dd.toInt ≤ k.toInt := (fa_le _ _).mp c_23
          refine lv_bipush (v := (-2)) hx hb dX2_told_32 (by decide) ?_
          have hw_24 : bDay T h dd f1 f2 f3 [(h, .inr (2, [.int dd, .ref a1_20, .ref a2_21, .ref a3_22])), zAr T 0 a1_20 40 f1, zAr T 0 a2_21 40 f2, zAr T 0 a3_22 40 f3] := ⟨a1_20, a2_21, a3_22, rfl⟩
          have G : zS T A s.heap s [[(h, .inr (2, [.int dd, .ref a1_20, .ref a2_21, .ref a3_22])), zAr T 0 a1_20 40 f1, zAr T 0 a2_21 40 f2, zAr T 0 a3_22 40 f3]] _ _ := G.re rfl
          exact z_back hQz_ (z_iret C hr hlocks G (Nat.le_of_ble_eq_true rfl) (Nat.le_of_ble_eq_true rfl) dX2_told_34 ⟨rfl, (by unfold zDayTold; (repeat' split) <;> first | rfl | omega)⟩)
        · have c_23n : ¬ dd.toInt ≤ k.toInt := fun q => c_23 ((fa_le _ _).mpr q)
          refine lv_iload_n hx hb dX2_told_26 rfl (lv_at hl 1 rfl) ?_
          refine lv_bipush (v := 40) hx hb dX2_told_27 (by decide) ?_
          refine lv_icmp_lt (tgt := 35) hx hb dX2_told_29 (by decide) (fun c_25 => ?_) (fun c_25 => ?_)
          · have c_25n : k.toInt < (40 : Int) := (fa_lt _ _).mp c_25
            refine lv_iload_n hx hb dX2_told_35 rfl (lv_at hl 2 rfl) ?_
            by_cases c_26o : what.toInt < 0 ∨ 2 < what.toInt
            · refine lv_tableOut (tgt := 85) hx hb dX2_told_36 c_26o (by decide) ?_
              refine lv_bipush (v := (-2)) hx hb dX2_told_85 (by decide) ?_
              have hw_27 : bDay T h dd f1 f2 f3 [(h, .inr (2, [.int dd, .ref a1_20, .ref a2_21, .ref a3_22])), zAr T 0 a1_20 40 f1, zAr T 0 a2_21 40 f2, zAr T 0 a3_22 40 f3] := ⟨a1_20, a2_21, a3_22, rfl⟩
              have G : zS T A s.heap s [[(h, .inr (2, [.int dd, .ref a1_20, .ref a2_21, .ref a3_22])), zAr T 0 a1_20 40 f1, zAr T 0 a2_21 40 f2, zAr T 0 a3_22 40 f3]] _ _ := G.re rfl
              exact z_back hQz_ (z_iret C hr hlocks G (Nat.le_of_ble_eq_true rfl) (Nat.le_of_ble_eq_true rfl) dX2_told_87 ⟨rfl, (by unfold zDayTold; (repeat' split) <;> first | rfl | omega)⟩)
            · have c_26r : what.toInt = 0 ∨ what.toInt = 1 ∨ what.toInt = 2 := by omega
              rcases c_26r with c_26 | c_26 | c_26
              · refine lv_tableIn (tgt := 64) hx hb dX2_told_36 (by first | (rw [c_26]; decide) | omega) (by first | (rw [c_26]; decide) | omega) (by rw [c_26]; rfl) (by decide) ?_
                refine lv_aload_n hx hb dX2_told_64 rfl (lv_at hl 0 rfl) ?_
                refine z_get C G clX2 0 rfl 1 (by decide) m_fl_RX2_9 rfl dX2_told_65 ?_
                refine lv_iload_n hx hb dX2_told_68 rfl (lv_at hl 1 rfl) ?_
                refine z_ild C G 1 rfl (vp_in_iff.mpr ⟨by omega, by omega⟩) dX2_told_69 ?_
                refine lv_topi (fun v_28 ev_28 => ?_)
                subst ev_28
                have hw_29 : bDay T h dd f1 f2 f3 [(h, .inr (2, [.int dd, .ref a1_20, .ref a2_21, .ref a3_22])), zAr T 0 a1_20 40 f1, zAr T 0 a2_21 40 f2, zAr T 0 a3_22 40 f3] := ⟨a1_20, a2_21, a3_22, rfl⟩
                have G : zS T A s.heap s [[(h, .inr (2, [.int dd, .ref a1_20, .ref a2_21, .ref a3_22])), zAr T 0 a1_20 40 f1, zAr T 0 a2_21 40 f2, zAr T 0 a3_22 40 f3]] _ _ := G.re rfl
                exact z_back hQz_ (z_iret C hr hlocks G (Nat.le_of_ble_eq_true rfl) (Nat.le_of_ble_eq_true rfl) dX2_told_70 ⟨rfl, (by unfold zDayTold; (repeat' split) <;> first | rfl | omega)⟩)
              · refine lv_tableIn (tgt := 71) hx hb dX2_told_36 (by first | (rw [c_26]; decide) | omega) (by first | (rw [c_26]; decide) | omega) (by rw [c_26]; rfl) (by decide) ?_
                refine lv_aload_n hx hb dX2_told_71 rfl (lv_at hl 0 rfl) ?_
                refine z_get C G clX2 0 rfl 2 (by decide) m_fl_RX2_15 rfl dX2_told_72 ?_
                refine lv_iload_n hx hb dX2_told_75 rfl (lv_at hl 1 rfl) ?_
                refine z_ild C G 2 rfl (vp_in_iff.mpr ⟨by omega, by omega⟩) dX2_told_76 ?_
                refine lv_topi (fun v_30 ev_30 => ?_)
                subst ev_30
                have hw_31 : bDay T h dd f1 f2 f3 [(h, .inr (2, [.int dd, .ref a1_20, .ref a2_21, .ref a3_22])), zAr T 0 a1_20 40 f1, zAr T 0 a2_21 40 f2, zAr T 0 a3_22 40 f3] := ⟨a1_20, a2_21, a3_22, rfl⟩
                have G : zS T A s.heap s [[(h, .inr (2, [.int dd, .ref a1_20, .ref a2_21, .ref a3_22])), zAr T 0 a1_20 40 f1, zAr T 0 a2_21 40 f2, zAr T 0 a3_22 40 f3]] _ _ := G.re rfl
                exact z_back hQz_ (z_iret C hr hlocks G (Nat.le_of_ble_eq_true rfl) (Nat.le_of_ble_eq_true rfl) dX2_told_77 ⟨rfl, (by unfold zDayTold; (repeat' split) <;> first | rfl | omega)⟩)
              · refine lv_tableIn (tgt := 78) hx hb dX2_told_36 (by first | (rw [c_26]; decide) | omega) (by first | (rw [c_26]; decide) | omega) (by rw [c_26]; rfl) (by decide) ?_
                refine lv_aload_n hx hb dX2_told_78 rfl (lv_at hl 0 rfl) ?_
                refine z_get C G clX2 0 rfl 3 (by decide) m_fl_RX2_18 rfl dX2_told_79 ?_
                refine lv_iload_n hx hb dX2_told_82 rfl (lv_at hl 1 rfl) ?_
                refine z_ild C G 3 rfl (vp_in_iff.mpr ⟨by omega, by omega⟩) dX2_told_83 ?_
                refine lv_topi (fun v_32 ev_32 => ?_)
                subst ev_32
                have hw_33 : bDay T h dd f1 f2 f3 [(h, .inr (2, [.int dd, .ref a1_20, .ref a2_21, .ref a3_22])), zAr T 0 a1_20 40 f1, zAr T 0 a2_21 40 f2, zAr T 0 a3_22 40 f3] := ⟨a1_20, a2_21, a3_22, rfl⟩
                have G : zS T A s.heap s [[(h, .inr (2, [.int dd, .ref a1_20, .ref a2_21, .ref a3_22])), zAr T 0 a1_20 40 f1, zAr T 0 a2_21 40 f2, zAr T 0 a3_22 40 f3]] _ _ := G.re rfl
                exact z_back hQz_ (z_iret C hr hlocks G (Nat.le_of_ble_eq_true rfl) (Nat.le_of_ble_eq_true rfl) dX2_told_84 ⟨rfl, (by unfold zDayTold; (repeat' split) <;> first | rfl | omega)⟩)
          · have c_25n : ¬ k.toInt < (40 : Int) := fun q => c_25 ((fa_lt _ _).mpr q)
            refine lv_bipush (v := (-2)) hx hb dX2_told_32 (by decide) ?_
            have hw_34 : bDay T h dd f1 f2 f3 [(h, .inr (2, [.int dd, .ref a1_20, .ref a2_21, .ref a3_22])), zAr T 0 a1_20 40 f1, zAr T 0 a2_21 40 f2, zAr T 0 a3_22 40 f3] := ⟨a1_20, a2_21, a3_22, rfl⟩
            have G : zS T A s.heap s [[(h, .inr (2, [.int dd, .ref a1_20, .ref a2_21, .ref a3_22])), zAr T 0 a1_20 40 f1, zAr T 0 a2_21 40 f2, zAr T 0 a3_22 40 f3]] _ _ := G.re rfl
            exact z_back hQz_ (z_iret C hr hlocks G (Nat.le_of_ble_eq_true rfl) (Nat.le_of_ble_eq_true rfl) dX2_told_34 ⟨rfl, (by unfold zDayTold; (repeat' split) <;> first | rfl | omega)⟩)
    · have c_18n : what.toInt = (0 : Int) := (fa_eq _ _).mp c_18
      refine lv_aload_n hx hb dX2_told_9 rfl (lv_at hl 0 rfl) ?_
      refine zEx3 hw ?_
      intro a1_35 a2_36 a3_37 hbs9
      clear hw
      subst hbs9
      have G : zS T A s.heap s [[(h, .inr (2, [.int dd, .ref a1_35, .ref a2_36, .ref a3_37]))], [zAr T 0 a1_35 40 f1], [zAr T 0 a2_36 40 f2], [zAr T 0 a3_37 40 f3]] _ _ := G.re rfl
      refine z_get C G clX2 0 rfl 0 (by decide) m_fl_RX2_21 rfl dX2_told_10 ?_
      have hw_38 : bDay T h dd f1 f2 f3 [(h, .inr (2, [.int dd, .ref a1_35, .ref a2_36, .ref a3_37])), zAr T 0 a1_35 40 f1, zAr T 0 a2_36 40 f2, zAr T 0 a3_37 40 f3] := ⟨a1_35, a2_36, a3_37, rfl⟩
      have G : zS T A s.heap s [[(h, .inr (2, [.int dd, .ref a1_35, .ref a2_36, .ref a3_37])), zAr T 0 a1_35 40 f1, zAr T 0 a2_36 40 f2, zAr T 0 a3_37 40 f3]] _ _ := G.re rfl
      exact z_back hQz_ (z_iret C hr hlocks G (Nat.le_of_ble_eq_true rfl) (Nat.le_of_ble_eq_true rfl) dX2_told_13 ⟨rfl, (by unfold zDayTold; (repeat' split) <;> first | rfl | omega)⟩)
set_option maxHeartbeats 4000000 in
set_option maxRecDepth 100000 in
/-- Log.add -/
theorem c_Log_add (l : Launch) (T : zTy) (h : Nat) (gg : Int32) (f1 : Nat → Int32) (f2 : Nat → Int32) (w : va_W) (x : Int32) (y : Int32) (hw : bLog T h gg f1 f2 w) : zMv l T yX5_add cX5_add 3 1 0 0 [.ref h, .int x, .int y] [w] (fun bs => ∃ (w2 : va_W) (u : Int32) (g1 : Nat → Int32) (g2 : Nat → Int32), bs = [w2] ∧ bLog T h u g1 g2 w2 ∧ u = zGN gg ∧ g1 = zGA gg f1 x ∧ g2 = zGA gg f2 y) := by
  refine zMv_of (own := RX5) (by decide) rfl (Nat.le_of_ble_eq_true rfl) ?_
  intro p e s m args below meth c A ls C hr hlocks hnm hAe G hl
  refine zHide (fun Qz_ hQz_ => ?_)
  have hx := C.1
  have hb := C.2.1
  have hl : lv_has ls 3 [(0, .ref h), (1, .int x), (2, .int y)] := hl
  refine lv_aload_n hx hb dX5_add_0 rfl (lv_at hl 0 rfl) ?_
  refine zEx2 hw ?_
  intro a1_1 a2_2 hbs9
  clear hw
  subst hbs9
  have G : zS T A s.heap s [[(h, .inr (5, [.int gg, .ref a1_1, .ref a2_2]))], [zAr T 0 a1_1 8 f1], [zAr T 0 a2_2 8 f2]] _ _ := G.re rfl
  refine z_get C G clX5 0 rfl 0 (by decide) m_fl_RX5_18 rfl dX5_add_1 ?_
  refine lv_if_lt (tgt := 46) hx hb dX5_add_4 (by decide) (fun c_3 => ?_) (fun c_3 => ?_)
  · have c_3n : gg.toInt < (0 : Int) := (fa_lt _ _).mp c_3
    have hw_4 : bLog T h gg f1 f2 [(h, .inr (5, [.int gg, .ref a1_1, .ref a2_2])), zAr T 0 a1_1 8 f1, zAr T 0 a2_2 8 f2] := ⟨a1_1, a2_2, rfl⟩
    have G : zS T A s.heap s [[(h, .inr (5, [.int gg, .ref a1_1, .ref a2_2])), zAr T 0 a1_1 8 f1, zAr T 0 a2_2 8 f2]] _ _ := G.re rfl
    exact z_back hQz_ (z_vret C hr hlocks G (Nat.le_of_ble_eq_true rfl) (Nat.le_of_ble_eq_true rfl) dX5_add_46 ⟨([(h, .inr (5, [.int gg, .ref a1_1, .ref a2_2])), zAr T 0 a1_1 8 f1, zAr T 0 a2_2 8 f2]), gg, f1, f2, rfl, hw_4, (by unfold zGN; rw [if_neg (by omega)]), (by unfold zGA; rw [if_neg (by omega)]), (by unfold zGA; rw [if_neg (by omega)])⟩)
  · have c_3n : ¬ gg.toInt < (0 : Int) := fun q => c_3 ((fa_lt _ _).mpr q)
    refine lv_aload_n hx hb dX5_add_7 rfl (lv_at hl 0 rfl) ?_
    refine z_get C G clX5 0 rfl 0 (by decide) m_fl_RX5_18 rfl dX5_add_8 ?_
    refine lv_bipush (v := 8) hx hb dX5_add_11 (by decide) ?_
    refine lv_icmp_ge (tgt := 46) hx hb dX5_add_13 (by decide) (fun c_5 => ?_) (fun c_5 => ?_)
    · have c_5n : (8 : Int) ≤ gg.toInt := (fa_le _ _).mp c_5
      have hw_6 : bLog T h gg f1 f2 [(h, .inr (5, [.int gg, .ref a1_1, .ref a2_2])), zAr T 0 a1_1 8 f1, zAr T 0 a2_2 8 f2] := ⟨a1_1, a2_2, rfl⟩
      have G : zS T A s.heap s [[(h, .inr (5, [.int gg, .ref a1_1, .ref a2_2])), zAr T 0 a1_1 8 f1, zAr T 0 a2_2 8 f2]] _ _ := G.re rfl
      exact z_back hQz_ (z_vret C hr hlocks G (Nat.le_of_ble_eq_true rfl) (Nat.le_of_ble_eq_true rfl) dX5_add_46 ⟨([(h, .inr (5, [.int gg, .ref a1_1, .ref a2_2])), zAr T 0 a1_1 8 f1, zAr T 0 a2_2 8 f2]), gg, f1, f2, rfl, hw_6, (by unfold zGN; rw [if_neg (by omega)]), (by unfold zGA; rw [if_neg (by omega)]), (by unfold zGA; rw [if_neg (by omega)])⟩)
    · have c_5n : ¬ (8 : Int) ≤ gg.toInt := fun q => c_5 ((fa_le _ _).mpr q)
      refine lv_aload_n hx hb dX5_add_16 rfl (lv_at hl 0 rfl) ?_
      refine z_get C G clX5 0 rfl 1 (by decide) m_fl_RX5_9 rfl dX5_add_17 ?_
      refine lv_aload_n hx hb dX5_add_20 rfl (lv_at hl 0 rfl) ?_
      refine z_get C G clX5 0 rfl 0 (by decide) m_fl_RX5_18 rfl dX5_add_21 ?_
      refine lv_iload_n hx hb dX5_add_24 rfl (lv_at hl 1 rfl) ?_
      refine z_ist C G 1 rfl (vp_in_iff.mpr ⟨by omega, by omega⟩) dX5_add_25 (fun H locs G => ?_)
      have G : zS T A s.heap s [[(h, .inr (5, [.int gg, .ref a1_1, .ref a2_2]))], [zAr T 0 a1_1 8 (upd f1 gg.toNatClampNeg x)], [zAr T 0 a2_2 8 f2]] _ _ := G
      refine lv_aload_n hx hb dX5_add_26 rfl (lv_at hl 0 rfl) ?_
      refine z_get C G clX5 0 rfl 2 (by decide) m_fl_RX5_15 rfl dX5_add_27 ?_
      refine lv_aload_n hx hb dX5_add_30 rfl (lv_at hl 0 rfl) ?_
      refine z_get C G clX5 0 rfl 0 (by decide) m_fl_RX5_18 rfl dX5_add_31 ?_
      refine lv_iload_n hx hb dX5_add_34 rfl (lv_at hl 2 rfl) ?_
      refine z_ist C G 2 rfl (vp_in_iff.mpr ⟨by omega, by omega⟩) dX5_add_35 (fun H locs G => ?_)
      have G : zS T A s.heap s [[(h, .inr (5, [.int gg, .ref a1_1, .ref a2_2]))], [zAr T 0 a1_1 8 (upd f1 gg.toNatClampNeg x)], [zAr T 0 a2_2 8 (upd f2 gg.toNatClampNeg y)]] _ _ := G
      refine lv_aload_n hx hb dX5_add_36 rfl (lv_at hl 0 rfl) ?_
      refine lv_dup hx hb dX5_add_37 rfl ?_
      refine z_get C G clX5 0 rfl 0 (by decide) m_fl_RX5_18 rfl dX5_add_38 ?_
      refine lv_iconst (v := 1) hx hb dX5_add_41 (by decide) ?_
      refine lv_iadd hx hb dX5_add_42 ?_
      refine z_put C G clX5 0 rfl 0 (by decide) m_fl_RX5_18 rfl rfl rfl (Nat.le_of_ble_eq_true rfl) dX5_add_43 (fun H locs G => ?_)
      have G : zS T A s.heap s [[(h, .inr (5, [.int (gg + 1), .ref a1_1, .ref a2_2]))], [zAr T 0 a1_1 8 (upd f1 gg.toNatClampNeg x)], [zAr T 0 a2_2 8 (upd f2 gg.toNatClampNeg y)]] _ _ := G
      have hw_7 : bLog T h (gg + 1) (upd f1 gg.toNatClampNeg x) (upd f2 gg.toNatClampNeg y) [(h, .inr (5, [.int (gg + 1), .ref a1_1, .ref a2_2])), zAr T 0 a1_1 8 (upd f1 gg.toNatClampNeg x), zAr T 0 a2_2 8 (upd f2 gg.toNatClampNeg y)] := ⟨a1_1, a2_2, rfl⟩
      have G : zS T A s.heap s [[(h, .inr (5, [.int (gg + 1), .ref a1_1, .ref a2_2])), zAr T 0 a1_1 8 (upd f1 gg.toNatClampNeg x), zAr T 0 a2_2 8 (upd f2 gg.toNatClampNeg y)]] _ _ := G.re rfl
      exact z_back hQz_ (z_vret C hr hlocks G (Nat.le_of_ble_eq_true rfl) (Nat.le_of_ble_eq_true rfl) dX5_add_46 ⟨([(h, .inr (5, [.int (gg + 1), .ref a1_1, .ref a2_2])), zAr T 0 a1_1 8 (upd f1 gg.toNatClampNeg x), zAr T 0 a2_2 8 (upd f2 gg.toNatClampNeg y)]), (gg + 1), (upd f1 gg.toNatClampNeg x), (upd f2 gg.toNatClampNeg y), rfl, hw_7, (by unfold zGN; rw [if_pos (by omega)]), (by unfold zGA; rw [if_pos (by omega)]), (by unfold zGA; rw [if_pos (by omega)])⟩)
set_option maxHeartbeats 4000000 in
set_option maxRecDepth 100000 in
/-- Log.told -/
theorem c_Log_told (l : Launch) (T : zTy) (h : Nat) (gg : Int32) (f1 : Nat → Int32) (f2 : Nat → Int32) (w : va_W) (k : Int32) (what : Int32) (hw : bLog T h gg f1 f2 w) : zMi l T yX5_told cX5_told 3 (some .int) 1 0 0 [.ref h, .int k, .int what] [w] (fun (r : Int32) bs => bs = [w] ∧ r = zLogTold gg f1 f2 k what) := by
  refine zMi_of (own := RX5) (by decide) rfl (Nat.le_of_ble_eq_true rfl) ?_
  intro p e s m args below meth c A ls C hr hlocks hnm hAe G hl
  refine zHide (fun Qz_ hQz_ => ?_)
  have hx := C.1
  have hb := C.2.1
  have hl : lv_has ls 3 [(0, .ref h), (1, .int k), (2, .int what)] := hl
  refine lv_iload_n hx hb dX5_told_0 rfl (lv_at hl 1 rfl) ?_
  refine lv_iconst (v := (-1)) hx hb dX5_told_1 (by decide) ?_
  refine lv_icmp_ne (tgt := 14) hx hb dX5_told_2 (by decide) (fun c_1 => ?_) (fun c_1 => ?_)
  · have c_1n : ¬ k.toInt = (-1 : Int) := fun q => c_1 ((fa_eq _ _).mpr q)
    refine lv_iload_n hx hb dX5_told_14 rfl (lv_at hl 1 rfl) ?_
    refine lv_if_lt (tgt := 41) hx hb dX5_told_15 (by decide) (fun c_2 => ?_) (fun c_2 => ?_)
    · have c_2n : k.toInt < (0 : Int) := (fa_lt _ _).mp c_2
      refine lv_bipush (v := (-2)) hx hb dX5_told_41 (by decide) ?_
      exact z_back hQz_ (z_iret C hr hlocks G (Nat.le_of_ble_eq_true rfl) (Nat.le_of_ble_eq_true rfl) dX5_told_43 ⟨rfl, (by unfold zLogTold; (repeat' split) <;> first | rfl | omega)⟩)
    · have c_2n : ¬ k.toInt < (0 : Int) := fun q => c_2 ((fa_lt _ _).mpr q)
      refine lv_iload_n hx hb dX5_told_18 rfl (lv_at hl 1 rfl) ?_
      refine lv_aload_n hx hb dX5_told_19 rfl (lv_at hl 0 rfl) ?_
      refine zEx2 hw ?_
      intro a1_3 a2_4 hbs9
      clear hw
      subst hbs9
      have G : zS T A s.heap s [[(h, .inr (5, [.int gg, .ref a1_3, .ref a2_4]))], [zAr T 0 a1_3 8 f1], [zAr T 0 a2_4 8 f2]] _ _ := G.re rfl
      refine z_get C G clX5 0 rfl 0 (by decide) m_fl_RX5_18 rfl dX5_told_20 ?_
      refine lv_icmp_ge (tgt := 41) hx hb dX5_told_23 (by decide) (fun c_5 => ?_) (fun c_5 => ?_)
      · have c_5n : gg.toInt ≤ k.toInt := (fa_le _ _).mp c_5
        refine lv_bipush (v := (-2)) hx hb dX5_told_41 (by decide) ?_
        have hw_6 : bLog T h gg f1 f2 [(h, .inr (5, [.int gg, .ref a1_3, .ref a2_4])), zAr T 0 a1_3 8 f1, zAr T 0 a2_4 8 f2] := ⟨a1_3, a2_4, rfl⟩
        have G : zS T A s.heap s [[(h, .inr (5, [.int gg, .ref a1_3, .ref a2_4])), zAr T 0 a1_3 8 f1, zAr T 0 a2_4 8 f2]] _ _ := G.re rfl
        exact z_back hQz_ (z_iret C hr hlocks G (Nat.le_of_ble_eq_true rfl) (Nat.le_of_ble_eq_true rfl) dX5_told_43 ⟨rfl, (by unfold zLogTold; (repeat' split) <;> first | rfl | omega)⟩)
      · have c_5n : ¬ gg.toInt ≤ k.toInt := fun q => c_5 ((fa_le _ _).mpr q)
        refine lv_iload_n hx hb dX5_told_26 rfl (lv_at hl 1 rfl) ?_
        refine lv_bipush (v := 8) hx hb dX5_told_27 (by decide) ?_
        refine lv_icmp_ge (tgt := 41) hx hb dX5_told_29 (by decide) (fun c_7 => ?_) (fun c_7 => ?_)
        · have c_7n : (8 : Int) ≤ k.toInt := (fa_le _ _).mp c_7
          refine lv_bipush (v := (-2)) hx hb dX5_told_41 (by decide) ?_
          have hw_8 : bLog T h gg f1 f2 [(h, .inr (5, [.int gg, .ref a1_3, .ref a2_4])), zAr T 0 a1_3 8 f1, zAr T 0 a2_4 8 f2] := ⟨a1_3, a2_4, rfl⟩
          have G : zS T A s.heap s [[(h, .inr (5, [.int gg, .ref a1_3, .ref a2_4])), zAr T 0 a1_3 8 f1, zAr T 0 a2_4 8 f2]] _ _ := G.re rfl
          exact z_back hQz_ (z_iret C hr hlocks G (Nat.le_of_ble_eq_true rfl) (Nat.le_of_ble_eq_true rfl) dX5_told_43 ⟨rfl, (by unfold zLogTold; (repeat' split) <;> first | rfl | omega)⟩)
        · have c_7n : ¬ (8 : Int) ≤ k.toInt := fun q => c_7 ((fa_le _ _).mpr q)
          refine lv_iload_n hx hb dX5_told_32 rfl (lv_at hl 2 rfl) ?_
          refine lv_if_lt (tgt := 41) hx hb dX5_told_33 (by decide) (fun c_9 => ?_) (fun c_9 => ?_)
          · have c_9n : what.toInt < (0 : Int) := (fa_lt _ _).mp c_9
            refine lv_bipush (v := (-2)) hx hb dX5_told_41 (by decide) ?_
            have hw_10 : bLog T h gg f1 f2 [(h, .inr (5, [.int gg, .ref a1_3, .ref a2_4])), zAr T 0 a1_3 8 f1, zAr T 0 a2_4 8 f2] := ⟨a1_3, a2_4, rfl⟩
            have G : zS T A s.heap s [[(h, .inr (5, [.int gg, .ref a1_3, .ref a2_4])), zAr T 0 a1_3 8 f1, zAr T 0 a2_4 8 f2]] _ _ := G.re rfl
            exact z_back hQz_ (z_iret C hr hlocks G (Nat.le_of_ble_eq_true rfl) (Nat.le_of_ble_eq_true rfl) dX5_told_43 ⟨rfl, (by unfold zLogTold; (repeat' split) <;> first | rfl | omega)⟩)
          · have c_9n : ¬ what.toInt < (0 : Int) := fun q => c_9 ((fa_lt _ _).mpr q)
            refine lv_iload_n hx hb dX5_told_36 rfl (lv_at hl 2 rfl) ?_
            refine lv_iconst (v := 1) hx hb dX5_told_37 (by decide) ?_
            refine lv_icmp_le (tgt := 44) hx hb dX5_told_38 (by decide) (fun c_11 => ?_) (fun c_11 => ?_)
            · have c_11n : what.toInt ≤ (1 : Int) := (fa_le _ _).mp c_11
              refine lv_iload_n hx hb dX5_told_44 rfl (lv_at hl 2 rfl) ?_
              refine lv_if_ne (tgt := 57) hx hb dX5_told_45 (by decide) (fun c_12 => ?_) (fun c_12 => ?_)
              · have c_12n : ¬ what.toInt = (0 : Int) := fun q => c_12 ((fa_eq _ _).mpr q)
                refine lv_aload_n hx hb dX5_told_57 rfl (lv_at hl 0 rfl) ?_
                refine z_get C G clX5 0 rfl 2 (by decide) m_fl_RX5_15 rfl dX5_told_58 ?_
                refine lv_iload_n hx hb dX5_told_61 rfl (lv_at hl 1 rfl) ?_
                refine z_ild C G 2 rfl (vp_in_iff.mpr ⟨by omega, by omega⟩) dX5_told_62 ?_
                refine lv_topi (fun v_13 ev_13 => ?_)
                subst ev_13
                have hw_14 : bLog T h gg f1 f2 [(h, .inr (5, [.int gg, .ref a1_3, .ref a2_4])), zAr T 0 a1_3 8 f1, zAr T 0 a2_4 8 f2] := ⟨a1_3, a2_4, rfl⟩
                have G : zS T A s.heap s [[(h, .inr (5, [.int gg, .ref a1_3, .ref a2_4])), zAr T 0 a1_3 8 f1, zAr T 0 a2_4 8 f2]] _ _ := G.re rfl
                exact z_back hQz_ (z_iret C hr hlocks G (Nat.le_of_ble_eq_true rfl) (Nat.le_of_ble_eq_true rfl) dX5_told_63 ⟨rfl, (by unfold zLogTold; (repeat' split) <;> first | rfl | omega)⟩)
              · have c_12n : what.toInt = (0 : Int) := (fa_eq _ _).mp c_12
                refine lv_aload_n hx hb dX5_told_48 rfl (lv_at hl 0 rfl) ?_
                refine z_get C G clX5 0 rfl 1 (by decide) m_fl_RX5_9 rfl dX5_told_49 ?_
                refine lv_iload_n hx hb dX5_told_52 rfl (lv_at hl 1 rfl) ?_
                refine z_ild C G 1 rfl (vp_in_iff.mpr ⟨by omega, by omega⟩) dX5_told_53 ?_
                refine lv_topi (fun v_15 ev_15 => ?_)
                subst ev_15
                refine lv_goto (tgt := 63) hx hb dX5_told_54 (by decide) ?_
                have hw_16 : bLog T h gg f1 f2 [(h, .inr (5, [.int gg, .ref a1_3, .ref a2_4])), zAr T 0 a1_3 8 f1, zAr T 0 a2_4 8 f2] := ⟨a1_3, a2_4, rfl⟩
                have G : zS T A s.heap s [[(h, .inr (5, [.int gg, .ref a1_3, .ref a2_4])), zAr T 0 a1_3 8 f1, zAr T 0 a2_4 8 f2]] _ _ := G.re rfl
                exact z_back hQz_ (z_iret C hr hlocks G (Nat.le_of_ble_eq_true rfl) (Nat.le_of_ble_eq_true rfl) dX5_told_63 ⟨rfl, (by unfold zLogTold; (repeat' split) <;> first | rfl | omega)⟩)
            · have c_11n : ¬ what.toInt ≤ (1 : Int) := fun q => c_11 ((fa_le _ _).mpr q)
              refine lv_bipush (v := (-2)) hx hb dX5_told_41 (by decide) ?_
              have hw_17 : bLog T h gg f1 f2 [(h, .inr (5, [.int gg, .ref a1_3, .ref a2_4])), zAr T 0 a1_3 8 f1, zAr T 0 a2_4 8 f2] := ⟨a1_3, a2_4, rfl⟩
              have G : zS T A s.heap s [[(h, .inr (5, [.int gg, .ref a1_3, .ref a2_4])), zAr T 0 a1_3 8 f1, zAr T 0 a2_4 8 f2]] _ _ := G.re rfl
              exact z_back hQz_ (z_iret C hr hlocks G (Nat.le_of_ble_eq_true rfl) (Nat.le_of_ble_eq_true rfl) dX5_told_43 ⟨rfl, (by unfold zLogTold; (repeat' split) <;> first | rfl | omega)⟩)
  · have c_1n : k.toInt = (-1 : Int) := (fa_eq _ _).mp c_1
    refine lv_iload_n hx hb dX5_told_5 rfl (lv_at hl 2 rfl) ?_
    refine lv_if_ne (tgt := 14) hx hb dX5_told_6 (by decide) (fun c_18 => ?_) (fun c_18 => ?_)
    · have c_18n : ¬ what.toInt = (0 : Int) := fun q => c_18 ((fa_eq _ _).mpr q)
      refine lv_iload_n hx hb dX5_told_14 rfl (lv_at hl 1 rfl) ?_
      refine lv_if_lt (tgt := 41) hx hb dX5_told_15 (by decide) (fun c_19 => ?_) (fun c_19 => ?_)
      · have c_19n : k.toInt < (0 : Int) := (fa_lt _ _).mp c_19
        refine lv_bipush (v := (-2)) hx hb dX5_told_41 (by decide) ?_
        exact z_back hQz_ (z_iret C hr hlocks G (Nat.le_of_ble_eq_true rfl) (Nat.le_of_ble_eq_true rfl) dX5_told_43 ⟨rfl, (by unfold zLogTold; (repeat' split) <;> first | rfl | omega)⟩)
      · have c_19n : ¬ k.toInt < (0 : Int) := fun q => c_19 ((fa_lt _ _).mpr q)
        refine lv_iload_n hx hb dX5_told_18 rfl (lv_at hl 1 rfl) ?_
        refine lv_aload_n hx hb dX5_told_19 rfl (lv_at hl 0 rfl) ?_
        refine zEx2 hw ?_
        intro a1_20 a2_21 hbs9
        clear hw
        subst hbs9
        have G : zS T A s.heap s [[(h, .inr (5, [.int gg, .ref a1_20, .ref a2_21]))], [zAr T 0 a1_20 8 f1], [zAr T 0 a2_21 8 f2]] _ _ := G.re rfl
        refine z_get C G clX5 0 rfl 0 (by decide) m_fl_RX5_18 rfl dX5_told_20 ?_
        refine lv_icmp_ge (tgt := 41) hx hb dX5_told_23 (by decide) (fun c_22 => ?_) (fun c_22 => ?_)
        · have c_22n : gg.toInt ≤ k.toInt := (fa_le _ _).mp c_22
          refine lv_bipush (v := (-2)) hx hb dX5_told_41 (by decide) ?_
          have hw_23 : bLog T h gg f1 f2 [(h, .inr (5, [.int gg, .ref a1_20, .ref a2_21])), zAr T 0 a1_20 8 f1, zAr T 0 a2_21 8 f2] := ⟨a1_20, a2_21, rfl⟩
          have G : zS T A s.heap s [[(h, .inr (5, [.int gg, .ref a1_20, .ref a2_21])), zAr T 0 a1_20 8 f1, zAr T 0 a2_21 8 f2]] _ _ := G.re rfl
          exact z_back hQz_ (z_iret C hr hlocks G (Nat.le_of_ble_eq_true rfl) (Nat.le_of_ble_eq_true rfl) dX5_told_43 ⟨rfl, (by unfold zLogTold; (repeat' split) <;> first | rfl | omega)⟩)
        · have c_22n : ¬ gg.toInt ≤ k.toInt := fun q => c_22 ((fa_le _ _).mpr q)
          refine lv_iload_n hx hb dX5_told_26 rfl (lv_at hl 1 rfl) ?_
          refine lv_bipush (v := 8) hx hb dX5_told_27 (by decide) ?_
          refine lv_icmp_ge (tgt := 41) hx hb dX5_told_29 (by decide) (fun c_24 => ?_) (fun c_24 => ?_)
          · have c_24n : (8 : Int) ≤ k.toInt := (fa_le _ _).mp c_24
            refine lv_bipush (v := (-2)) hx hb dX5_told_41 (by decide) ?_
            have hw_25 : bLog T h gg f1 f2 [(h, .inr (5, [.int gg, .ref a1_20, .ref a2_21])), zAr T 0 a1_20 8 f1, zAr T 0 a2_21 8 f2] := ⟨a1_20, a2_21, rfl⟩
            have G : zS T A s.heap s [[(h, .inr (5, [.int gg, .ref a1_20, .ref a2_21])), zAr T 0 a1_20 8 f1, zAr T 0 a2_21 8 f2]] _ _ := G.re rfl
            exact z_back hQz_ (z_iret C hr hlocks G (Nat.le_of_ble_eq_true rfl) (Nat.le_of_ble_eq_true rfl) dX5_told_43 ⟨rfl, (by unfold zLogTold; (repeat' split) <;> first | rfl | omega)⟩)
          · have c_24n : ¬ (8 : Int) ≤ k.toInt := fun q => c_24 ((fa_le _ _).mpr q)
            refine lv_iload_n hx hb dX5_told_32 rfl (lv_at hl 2 rfl) ?_
            refine lv_if_lt (tgt := 41) hx hb dX5_told_33 (by decide) (fun c_26 => ?_) (fun c_26 => ?_)
            · have c_26n : what.toInt < (0 : Int) := (fa_lt _ _).mp c_26
              refine lv_bipush (v := (-2)) hx hb dX5_told_41 (by decide) ?_
              have hw_27 : bLog T h gg f1 f2 [(h, .inr (5, [.int gg, .ref a1_20, .ref a2_21])), zAr T 0 a1_20 8 f1, zAr T 0 a2_21 8 f2] := ⟨a1_20, a2_21, rfl⟩
              have G : zS T A s.heap s [[(h, .inr (5, [.int gg, .ref a1_20, .ref a2_21])), zAr T 0 a1_20 8 f1, zAr T 0 a2_21 8 f2]] _ _ := G.re rfl
              exact z_back hQz_ (z_iret C hr hlocks G (Nat.le_of_ble_eq_true rfl) (Nat.le_of_ble_eq_true rfl) dX5_told_43 ⟨rfl, (by unfold zLogTold; (repeat' split) <;> first | rfl | omega)⟩)
            · have c_26n : ¬ what.toInt < (0 : Int) := fun q => c_26 ((fa_lt _ _).mpr q)
              refine lv_iload_n hx hb dX5_told_36 rfl (lv_at hl 2 rfl) ?_
              refine lv_iconst (v := 1) hx hb dX5_told_37 (by decide) ?_
              refine lv_icmp_le (tgt := 44) hx hb dX5_told_38 (by decide) (fun c_28 => ?_) (fun c_28 => ?_)
              · have c_28n : what.toInt ≤ (1 : Int) := (fa_le _ _).mp c_28
                refine lv_iload_n hx hb dX5_told_44 rfl (lv_at hl 2 rfl) ?_
                refine lv_if_ne (tgt := 57) hx hb dX5_told_45 (by decide) (fun _ => ?_) (fun q => absurd q c_18)
                refine lv_aload_n hx hb dX5_told_57 rfl (lv_at hl 0 rfl) ?_
                refine z_get C G clX5 0 rfl 2 (by decide) m_fl_RX5_15 rfl dX5_told_58 ?_
                refine lv_iload_n hx hb dX5_told_61 rfl (lv_at hl 1 rfl) ?_
                refine z_ild C G 2 rfl (vp_in_iff.mpr ⟨by omega, by omega⟩) dX5_told_62 ?_
                refine lv_topi (fun v_29 ev_29 => ?_)
                subst ev_29
                have hw_30 : bLog T h gg f1 f2 [(h, .inr (5, [.int gg, .ref a1_20, .ref a2_21])), zAr T 0 a1_20 8 f1, zAr T 0 a2_21 8 f2] := ⟨a1_20, a2_21, rfl⟩
                have G : zS T A s.heap s [[(h, .inr (5, [.int gg, .ref a1_20, .ref a2_21])), zAr T 0 a1_20 8 f1, zAr T 0 a2_21 8 f2]] _ _ := G.re rfl
                exact z_back hQz_ (z_iret C hr hlocks G (Nat.le_of_ble_eq_true rfl) (Nat.le_of_ble_eq_true rfl) dX5_told_63 ⟨rfl, (by unfold zLogTold; (repeat' split) <;> first | rfl | omega)⟩)
              · have c_28n : ¬ what.toInt ≤ (1 : Int) := fun q => c_28 ((fa_le _ _).mpr q)
                refine lv_bipush (v := (-2)) hx hb dX5_told_41 (by decide) ?_
                have hw_31 : bLog T h gg f1 f2 [(h, .inr (5, [.int gg, .ref a1_20, .ref a2_21])), zAr T 0 a1_20 8 f1, zAr T 0 a2_21 8 f2] := ⟨a1_20, a2_21, rfl⟩
                have G : zS T A s.heap s [[(h, .inr (5, [.int gg, .ref a1_20, .ref a2_21])), zAr T 0 a1_20 8 f1, zAr T 0 a2_21 8 f2]] _ _ := G.re rfl
                exact z_back hQz_ (z_iret C hr hlocks G (Nat.le_of_ble_eq_true rfl) (Nat.le_of_ble_eq_true rfl) dX5_told_43 ⟨rfl, (by unfold zLogTold; (repeat' split) <;> first | rfl | omega)⟩)
    · have c_18n : what.toInt = (0 : Int) := (fa_eq _ _).mp c_18
      refine lv_aload_n hx hb dX5_told_9 rfl (lv_at hl 0 rfl) ?_
      refine zEx2 hw ?_
      intro a1_32 a2_33 hbs9
      clear hw
      subst hbs9
      have G : zS T A s.heap s [[(h, .inr (5, [.int gg, .ref a1_32, .ref a2_33]))], [zAr T 0 a1_32 8 f1], [zAr T 0 a2_33 8 f2]] _ _ := G.re rfl
      refine z_get C G clX5 0 rfl 0 (by decide) m_fl_RX5_18 rfl dX5_told_10 ?_
      have hw_34 : bLog T h gg f1 f2 [(h, .inr (5, [.int gg, .ref a1_32, .ref a2_33])), zAr T 0 a1_32 8 f1, zAr T 0 a2_33 8 f2] := ⟨a1_32, a2_33, rfl⟩
      have G : zS T A s.heap s [[(h, .inr (5, [.int gg, .ref a1_32, .ref a2_33])), zAr T 0 a1_32 8 f1, zAr T 0 a2_33 8 f2]] _ _ := G.re rfl
      exact z_back hQz_ (z_iret C hr hlocks G (Nat.le_of_ble_eq_true rfl) (Nat.le_of_ble_eq_true rfl) dX5_told_13 ⟨rfl, (by unfold zLogTold; (repeat' split) <;> first | rfl | omega)⟩)
theorem z_updE {g F : Nat → Int32} {i : Nat} {v : Int32} (h : ∀ j, j < i → g j = F j) (hv : v = F i) : ∀ j, j < i + 1 → upd g i v j = F j := by
  intro j hj
  unfold upd
  split
  · rename_i e
    rw [e]
    exact hv
  · exact h j (by omega)
set_option maxHeartbeats 4000000 in
set_option maxRecDepth 100000 in
/-- c_Land_takeAll -/
theorem c_Land_takeAll (l : Launch) (T : zTy) (h : Nat) (o : Nat) (cr : Int32) (inn : Int32) (f1 : Nat → Int32) (f2 : Nat → Int32) (f3 : Nat → Int32) (f4 : Nat → Int32) (ocr : Int32) (oinn : Int32) (of1 : Nat → Int32) (of2 : Nat → Int32) (of3 : Nat → Int32) (of4 : Nat → Int32) (w : va_W) (z : va_W) (hw : bLand T h cr inn f1 f2 f3 f4 w) (hz : bLand T o ocr oinn of1 of2 of3 of4 z) : zMv l T yX4_takeAll cX4_takeAll 3 1 0 0 [.ref h, .ref o] [w, z] (fun bs => ∃ (w2 : va_W) (g1 : Nat → Int32) (g2 : Nat → Int32) (g3 : Nat → Int32) (g4 : Nat → Int32), bs = [w2, z] ∧ bLand T h ocr oinn g1 g2 g3 g4 w2 ∧ (∀ j, j < 7 → g1 j = of1 j) ∧ (∀ j, j < 28 → g2 j = of2 j) ∧ (∀ j, j < 7 → g3 j = of3 j) ∧ (∀ j, j < 7 → g4 j = of4 j)) := by
  refine zMv_of (own := RX4) (by decide) rfl (Nat.le_of_ble_eq_true rfl) ?_
  intro p e s m args below meth c A ls C hr hlocks hnm hAe G hl
  refine zHide (fun Qz_ hQz_ => ?_)
  have hx := C.1
  have hb := C.2.1
  have hl : lv_has ls 3 [(0, .ref h), (1, .ref o)] := hl
  refine lv_aload_n hx hb dX4_takeAll_0 rfl (lv_at hl 0 rfl) ?_
  refine lv_aload_n hx hb dX4_takeAll_1 rfl (lv_at hl 1 rfl) ?_
  refine zEx4 hz ?_
  intro a1_1 a2_2 a3_3 a4_4 hbs9
  clear hz
  subst hbs9
  have G : zS T A s.heap s [w, [zO4 o ocr oinn a1_1 a2_2 a3_3 a4_4], [zAr T 0 a1_1 7 of1], [zAr T 0 a2_2 28 of2], [zAr T 0 a3_3 7 of3], [zAr T 0 a4_4 7 of4]] _ _ := G.re rfl
  refine z_get C G clX4 1 rfl 0 (by decide) m_fl_RX4_24 rfl dX4_takeAll_2 ?_
  refine zEx4 hw ?_
  intro a1_5 a2_6 a3_7 a4_8 hbs9
  clear hw
  subst hbs9
  have G : zS T A s.heap s [[zO4 h cr inn a1_5 a2_6 a3_7 a4_8], [zAr T 0 a1_5 7 f1], [zAr T 0 a2_6 28 f2], [zAr T 0 a3_7 7 f3], [zAr T 0 a4_8 7 f4], [zO4 o ocr oinn a1_1 a2_2 a3_3 a4_4], [zAr T 0 a1_1 7 of1], [zAr T 0 a2_2 28 of2], [zAr T 0 a3_3 7 of3], [zAr T 0 a4_4 7 of4]] _ _ := G.re rfl
  refine z_put C G clX4 0 rfl 0 (by decide) m_fl_RX4_24 rfl rfl rfl (Nat.le_of_ble_eq_true rfl) dX4_takeAll_5 (fun H locs G => ?_)
  have G : zS T A s.heap s [[zO4 h ocr inn a1_5 a2_6 a3_7 a4_8], [zAr T 0 a1_5 7 f1], [zAr T 0 a2_6 28 f2], [zAr T 0 a3_7 7 f3], [zAr T 0 a4_8 7 f4], [zO4 o ocr oinn a1_1 a2_2 a3_3 a4_4], [zAr T 0 a1_1 7 of1], [zAr T 0 a2_2 28 of2], [zAr T 0 a3_3 7 of3], [zAr T 0 a4_4 7 of4]] _ _ := G
  refine lv_aload_n hx hb dX4_takeAll_8 rfl (lv_at hl 0 rfl) ?_
  refine lv_aload_n hx hb dX4_takeAll_9 rfl (lv_at hl 1 rfl) ?_
  refine z_get C G clX4 5 rfl 1 (by decide) m_fl_RX4_28 rfl dX4_takeAll_10 ?_
  refine z_put C G clX4 0 rfl 1 (by decide) m_fl_RX4_28 rfl rfl rfl (Nat.le_of_ble_eq_true rfl) dX4_takeAll_13 (fun H locs G => ?_)
  have G : zS T A s.heap s [[zO4 h ocr oinn a1_5 a2_6 a3_7 a4_8], [zAr T 0 a1_5 7 f1], [zAr T 0 a2_6 28 f2], [zAr T 0 a3_7 7 f3], [zAr T 0 a4_8 7 f4], [zO4 o ocr oinn a1_1 a2_2 a3_3 a4_4], [zAr T 0 a1_1 7 of1], [zAr T 0 a2_2 28 of2], [zAr T 0 a3_3 7 of3], [zAr T 0 a4_4 7 of4]] _ _ := G
  refine lv_iconst (v := 0) hx hb dX4_takeAll_16 (by decide) ?_
  refine lv_istore_n (lv' := [(2, .int 0), (0, .ref h), (1, .ref o)]) hx hb dX4_takeAll_17 rfl hl (by decide) (zLvf_h rfl) (fun ls hl => ?_)
  have hw_9 : bLand T o ocr oinn of1 of2 of3 of4 [zO4 o ocr oinn a1_1 a2_2 a3_3 a4_4, zAr T 0 a1_1 7 of1, zAr T 0 a2_2 28 of2, zAr T 0 a3_3 7 of3, zAr T 0 a4_4 7 of4] := ⟨a1_1, a2_2, a3_3, a4_4, rfl⟩
  have G : zS T A s.heap s [[zO4 h ocr oinn a1_5 a2_6 a3_7 a4_8], [zAr T 0 a1_5 7 f1], [zAr T 0 a2_6 28 f2], [zAr T 0 a3_7 7 f3], [zAr T 0 a4_8 7 f4], [zO4 o ocr oinn a1_1 a2_2 a3_3 a4_4, zAr T 0 a1_1 7 of1, zAr T 0 a2_2 28 of2, zAr T 0 a3_3 7 of3, zAr T 0 a4_4 7 of4]] _ _ := G.re rfl
  have hw_10 : bLand T h ocr oinn f1 f2 f3 f4 [zO4 h ocr oinn a1_5 a2_6 a3_7 a4_8, zAr T 0 a1_5 7 f1, zAr T 0 a2_6 28 f2, zAr T 0 a3_7 7 f3, zAr T 0 a4_8 7 f4] := ⟨a1_5, a2_6, a3_7, a4_8, rfl⟩
  have G : zS T A s.heap s [[zO4 h ocr oinn a1_5 a2_6 a3_7 a4_8, zAr T 0 a1_5 7 f1, zAr T 0 a2_6 28 f2, zAr T 0 a3_7 7 f3, zAr T 0 a4_8 7 f4], [zO4 o ocr oinn a1_1 a2_2 a3_3 a4_4, zAr T 0 a1_1 7 of1, zAr T 0 a2_2 28 of2, zAr T 0 a3_3 7 of3, zAr T 0 a4_4 7 of4]] _ _ := G.re rfl
  refine z_lp5 (T := T) 18 (fun (i18 : Nat) (w_18 : va_W) (x18_0 : Nat → Int32) (x18_2 : Nat → Int32) (x18_3 : Nat → Int32) => [w_18, [zO4 o ocr oinn a1_1 a2_2 a3_3 a4_4, zAr T 0 a1_1 7 of1, zAr T 0 a2_2 28 of2, zAr T 0 a3_3 7 of3, zAr T 0 a4_4 7 of4]]) (fun (i18 : Nat) (w_18 : va_W) (x18_0 : Nat → Int32) (x18_2 : Nat → Int32) (x18_3 : Nat → Int32) => [(2, .int (nI i18)), (0, .ref h), (1, .ref o)]) (fun (i18 : Nat) (w_18 : va_W) (x18_0 : Nat → Int32) (x18_2 : Nat → Int32) (x18_3 : Nat → Int32) => bLand T h ocr oinn x18_0 f2 x18_2 x18_3 w_18 ∧ i18 ≤ 7 ∧ (∀ j, j < i18 → x18_0 j = of1 j) ∧ (∀ j, j < i18 → x18_2 j = of3 j) ∧ (∀ j, j < i18 → x18_3 j = of4 j)) (fun (i18 : Nat) (w_18 : va_W) (x18_0 : Nat → Int32) (x18_2 : Nat → Int32) (x18_3 : Nat → Int32) => 7 - i18) ?_ 0 ([zO4 h ocr oinn a1_5 a2_6 a3_7 a4_8, zAr T 0 a1_5 7 f1, zAr T 0 a2_6 28 f2, zAr T 0 a3_7 7 f3, zAr T 0 a4_8 7 f4]) f1 f3 f4 (show bLand T h ocr oinn f1 f2 f3 f4 ([zO4 h ocr oinn a1_5 a2_6 a3_7 a4_8, zAr T 0 a1_5 7 f1, zAr T 0 a2_6 28 f2, zAr T 0 a3_7 7 f3, zAr T 0 a4_8 7 f4]) ∧ 0 ≤ 7 ∧ (∀ j, j < 0 → f1 j = of1 j) ∧ (∀ j, j < 0 → f3 j = of3 j) ∧ (∀ j, j < 0 → f4 j = of4 j) from ⟨hw_10, by omega, fun j hj => absurd hj (by omega), fun j hj => absurd hj (by omega), fun j hj => absurd hj (by omega)⟩) G (lv_sub hl [0, 1, 2] rfl)
  intro i18 w_18 x18_0 x18_2 x18_3 hI9 ih_18 H locs ls G hl
  replace hI9 : bLand T h ocr oinn x18_0 f2 x18_2 x18_3 w_18 ∧ i18 ≤ 7 ∧ (∀ j, j < i18 → x18_0 j = of1 j) ∧ (∀ j, j < i18 → x18_2 j = of3 j) ∧ (∀ j, j < i18 → x18_3 j = of4 j) := hI9
  refine zAn5 hI9 ?_
  intro hw_18 hi18 hx18_0 hx18_2 hx18_3
  clear hI9
  replace G : zS T A s.heap s [w_18, [zO4 o ocr oinn a1_1 a2_2 a3_3 a4_4, zAr T 0 a1_1 7 of1, zAr T 0 a2_2 28 of2, zAr T 0 a3_3 7 of3, zAr T 0 a4_4 7 of4]] _ _ := G
  replace hl : lv_has ls 3 [(2, .int (nI i18)), (0, .ref h), (1, .ref o)] := hl
  refine lv_iload_n hx hb dX4_takeAll_18 rfl (lv_at hl 0 rfl) ?_
  refine lv_bipush (v := 7) hx hb dX4_takeAll_19 (by decide) ?_
  refine lv_icmp_ge (tgt := 66) hx hb dX4_takeAll_21 (by decide) (fun c_11 => ?_) (fun c_11 => ?_)
  · have c_11n : 7 ≤ i18 := (nI_leI (a := 7) (b := i18) (by omega) (by omega)).mp c_11
    refine lv_iconst (v := 0) hx hb dX4_takeAll_66 (by decide) ?_
    refine lv_istore_n (lv' := [(2, .int 0), (0, .ref h), (1, .ref o)]) hx hb dX4_takeAll_67 rfl hl (by decide) (zLvf_h rfl) (fun ls hl => ?_)
    refine zEx4 hw_18 ?_
    intro a1_12 a2_13 a3_14 a4_15 hbs9
    clear hw_18
    subst hbs9
    have G : zS T A s.heap s [[zO4 h ocr oinn a1_12 a2_13 a3_14 a4_15], [zAr T 0 a1_12 7 x18_0], [zAr T 0 a2_13 28 f2], [zAr T 0 a3_14 7 x18_2], [zAr T 0 a4_15 7 x18_3], [zO4 o ocr oinn a1_1 a2_2 a3_3 a4_4, zAr T 0 a1_1 7 of1, zAr T 0 a2_2 28 of2, zAr T 0 a3_3 7 of3, zAr T 0 a4_4 7 of4]] _ _ := G.re rfl
    have G : zS T A s.heap s [[zO4 h ocr oinn a1_12 a2_13 a3_14 a4_15], [zAr T 0 a1_12 7 x18_0], [zAr T 0 a2_13 28 f2], [zAr T 0 a3_14 7 x18_2], [zAr T 0 a4_15 7 x18_3], [zO4 o ocr oinn a1_1 a2_2 a3_3 a4_4], [zAr T 0 a1_1 7 of1], [zAr T 0 a2_2 28 of2], [zAr T 0 a3_3 7 of3], [zAr T 0 a4_4 7 of4]] _ _ := G.re rfl
    have hw_16 : bLand T o ocr oinn of1 of2 of3 of4 [zO4 o ocr oinn a1_1 a2_2 a3_3 a4_4, zAr T 0 a1_1 7 of1, zAr T 0 a2_2 28 of2, zAr T 0 a3_3 7 of3, zAr T 0 a4_4 7 of4] := ⟨a1_1, a2_2, a3_3, a4_4, rfl⟩
    have G : zS T A s.heap s [[zO4 h ocr oinn a1_12 a2_13 a3_14 a4_15], [zAr T 0 a1_12 7 x18_0], [zAr T 0 a2_13 28 f2], [zAr T 0 a3_14 7 x18_2], [zAr T 0 a4_15 7 x18_3], [zO4 o ocr oinn a1_1 a2_2 a3_3 a4_4, zAr T 0 a1_1 7 of1, zAr T 0 a2_2 28 of2, zAr T 0 a3_3 7 of3, zAr T 0 a4_4 7 of4]] _ _ := G.re rfl
    have hw_17 : bLand T h ocr oinn x18_0 f2 x18_2 x18_3 [zO4 h ocr oinn a1_12 a2_13 a3_14 a4_15, zAr T 0 a1_12 7 x18_0, zAr T 0 a2_13 28 f2, zAr T 0 a3_14 7 x18_2, zAr T 0 a4_15 7 x18_3] := ⟨a1_12, a2_13, a3_14, a4_15, rfl⟩
    have G : zS T A s.heap s [[zO4 h ocr oinn a1_12 a2_13 a3_14 a4_15, zAr T 0 a1_12 7 x18_0, zAr T 0 a2_13 28 f2, zAr T 0 a3_14 7 x18_2, zAr T 0 a4_15 7 x18_3], [zO4 o ocr oinn a1_1 a2_2 a3_3 a4_4, zAr T 0 a1_1 7 of1, zAr T 0 a2_2 28 of2, zAr T 0 a3_3 7 of3, zAr T 0 a4_4 7 of4]] _ _ := G.re rfl
    refine z_lp3 (T := T) 68 (fun (i68 : Nat) (w_68 : va_W) (x68_1 : Nat → Int32) => [w_68, [zO4 o ocr oinn a1_1 a2_2 a3_3 a4_4, zAr T 0 a1_1 7 of1, zAr T 0 a2_2 28 of2, zAr T 0 a3_3 7 of3, zAr T 0 a4_4 7 of4]]) (fun (i68 : Nat) (w_68 : va_W) (x68_1 : Nat → Int32) => [(2, .int (nI i68)), (0, .ref h), (1, .ref o)]) (fun (i68 : Nat) (w_68 : va_W) (x68_1 : Nat → Int32) => bLand T h ocr oinn x18_0 x68_1 x18_2 x18_3 w_68 ∧ i68 ≤ 28 ∧ (∀ j, j < i68 → x68_1 j = of2 j)) (fun (i68 : Nat) (w_68 : va_W) (x68_1 : Nat → Int32) => 28 - i68) ?_ 0 ([zO4 h ocr oinn a1_12 a2_13 a3_14 a4_15, zAr T 0 a1_12 7 x18_0, zAr T 0 a2_13 28 f2, zAr T 0 a3_14 7 x18_2, zAr T 0 a4_15 7 x18_3]) f2 (show bLand T h ocr oinn x18_0 f2 x18_2 x18_3 ([zO4 h ocr oinn a1_12 a2_13 a3_14 a4_15, zAr T 0 a1_12 7 x18_0, zAr T 0 a2_13 28 f2, zAr T 0 a3_14 7 x18_2, zAr T 0 a4_15 7 x18_3]) ∧ 0 ≤ 28 ∧ (∀ j, j < 0 → f2 j = of2 j) from ⟨hw_17, by omega, fun j hj => absurd hj (by omega)⟩) G (lv_sub hl [0, 1, 2] rfl)
    intro i68 w_68 x68_1 hI9 ih_68 H locs ls G hl
    replace hI9 : bLand T h ocr oinn x18_0 x68_1 x18_2 x18_3 w_68 ∧ i68 ≤ 28 ∧ (∀ j, j < i68 → x68_1 j = of2 j) := hI9
    refine zAn3 hI9 ?_
    intro hw_68 hi68 hx68_1
    clear hI9
    replace G : zS T A s.heap s [w_68, [zO4 o ocr oinn a1_1 a2_2 a3_3 a4_4, zAr T 0 a1_1 7 of1, zAr T 0 a2_2 28 of2, zAr T 0 a3_3 7 of3, zAr T 0 a4_4 7 of4]] _ _ := G
    replace hl : lv_has ls 3 [(2, .int (nI i68)), (0, .ref h), (1, .ref o)] := hl
    refine lv_iload_n hx hb dX4_takeAll_68 rfl (lv_at hl 0 rfl) ?_
    refine lv_bipush (v := 28) hx hb dX4_takeAll_69 (by decide) ?_
    refine lv_icmp_ge (tgt := 92) hx hb dX4_takeAll_71 (by decide) (fun c_18 => ?_) (fun c_18 => ?_)
    · have c_18n : 28 ≤ i68 := (nI_leI (a := 28) (b := i68) (by omega) (by omega)).mp c_18
      exact z_back hQz_ (z_vret C hr hlocks G (Nat.le_of_ble_eq_true rfl) (Nat.le_of_ble_eq_true rfl) dX4_takeAll_92 ⟨w_68, x18_0, x68_1, x18_2, x18_3, rfl, hw_68, (fun j hj => hx18_0 j (by omega)), (fun j hj => hx68_1 j (by omega)), (fun j hj => hx18_2 j (by omega)), (fun j hj => hx18_3 j (by omega))⟩)
    · have c_18n : ¬ 28 ≤ i68 := fun q => c_18 ((nI_leI (a := 28) (b := i68) (by omega) (by omega)).mpr q)
      refine lv_aload_n hx hb dX4_takeAll_74 rfl (lv_at hl 1 rfl) ?_
      refine zEx4 hw_68 ?_
      intro a1_19 a2_20 a3_21 a4_22 hbs9
      clear hw_68
      subst hbs9
      have G : zS T A s.heap s [[zO4 h ocr oinn a1_19 a2_20 a3_21 a4_22], [zAr T 0 a1_19 7 x18_0], [zAr T 0 a2_20 28 x68_1], [zAr T 0 a3_21 7 x18_2], [zAr T 0 a4_22 7 x18_3], [zO4 o ocr oinn a1_1 a2_2 a3_3 a4_4, zAr T 0 a1_1 7 of1, zAr T 0 a2_2 28 of2, zAr T 0 a3_3 7 of3, zAr T 0 a4_4 7 of4]] _ _ := G.re rfl
      refine z_get C G clX4 0 rfl 3 (by decide) m_fl_RX4_15 rfl dX4_takeAll_75 ?_
      refine lv_iload_n hx hb dX4_takeAll_78 rfl (lv_at hl 0 rfl) ?_
      refine lv_aload_n hx hb dX4_takeAll_79 rfl (lv_at hl 2 rfl) ?_
      have G : zS T A s.heap s [[zO4 h ocr oinn a1_19 a2_20 a3_21 a4_22], [zAr T 0 a1_19 7 x18_0], [zAr T 0 a2_20 28 x68_1], [zAr T 0 a3_21 7 x18_2], [zAr T 0 a4_22 7 x18_3], [zO4 o ocr oinn a1_1 a2_2 a3_3 a4_4], [zAr T 0 a1_1 7 of1], [zAr T 0 a2_2 28 of2], [zAr T 0 a3_3 7 of3], [zAr T 0 a4_4 7 of4]] _ _ := G.re rfl
      refine z_get C G clX4 5 rfl 3 (by decide) m_fl_RX4_15 rfl dX4_takeAll_80 ?_
      refine lv_iload_n hx hb dX4_takeAll_83 rfl (lv_at hl 0 rfl) ?_
      refine z_ild C G 7 rfl (vp_in_nI (by omega) (by decide)) dX4_takeAll_84 ?_
      refine lv_topi (fun v_23 ev_23 => ?_)
      rw [nI_clamp (by omega)] at ev_23
      subst ev_23
      refine z_ist C G 2 rfl (vp_in_nI (by omega) (by decide)) dX4_takeAll_85 (fun H locs G => ?_)
      rw [nI_clamp (by omega)] at G
      have G : zS T A s.heap s [[zO4 h ocr oinn a1_19 a2_20 a3_21 a4_22], [zAr T 0 a1_19 7 x18_0], [zAr T 0 a2_20 28 (upd x68_1 i68 (of2 i68))], [zAr T 0 a3_21 7 x18_2], [zAr T 0 a4_22 7 x18_3], [zO4 o ocr oinn a1_1 a2_2 a3_3 a4_4], [zAr T 0 a1_1 7 of1], [zAr T 0 a2_2 28 of2], [zAr T 0 a3_3 7 of3], [zAr T 0 a4_4 7 of4]] _ _ := G
      refine lv_iinc (v := nI (i68 + 1)) (lv' := [(2, .int (nI (i68 + 1))), (0, .ref h), (1, .ref o)]) hx hb dX4_takeAll_86 hl (k := 0) rfl (z_inc i68 1) (by decide) (zLvf_h rfl) (fun ls hl => ?_)
      refine lv_goto (tgt := 68) hx hb dX4_takeAll_89 (by decide) ?_
      have hw_24 : bLand T o ocr oinn of1 of2 of3 of4 [zO4 o ocr oinn a1_1 a2_2 a3_3 a4_4, zAr T 0 a1_1 7 of1, zAr T 0 a2_2 28 of2, zAr T 0 a3_3 7 of3, zAr T 0 a4_4 7 of4] := ⟨a1_1, a2_2, a3_3, a4_4, rfl⟩
      have G : zS T A s.heap s [[zO4 h ocr oinn a1_19 a2_20 a3_21 a4_22], [zAr T 0 a1_19 7 x18_0], [zAr T 0 a2_20 28 (upd x68_1 i68 (of2 i68))], [zAr T 0 a3_21 7 x18_2], [zAr T 0 a4_22 7 x18_3], [zO4 o ocr oinn a1_1 a2_2 a3_3 a4_4, zAr T 0 a1_1 7 of1, zAr T 0 a2_2 28 of2, zAr T 0 a3_3 7 of3, zAr T 0 a4_4 7 of4]] _ _ := G.re rfl
      have hw_25 : bLand T h ocr oinn x18_0 (upd x68_1 i68 (of2 i68)) x18_2 x18_3 [zO4 h ocr oinn a1_19 a2_20 a3_21 a4_22, zAr T 0 a1_19 7 x18_0, zAr T 0 a2_20 28 (upd x68_1 i68 (of2 i68)), zAr T 0 a3_21 7 x18_2, zAr T 0 a4_22 7 x18_3] := ⟨a1_19, a2_20, a3_21, a4_22, rfl⟩
      have G : zS T A s.heap s [[zO4 h ocr oinn a1_19 a2_20 a3_21 a4_22, zAr T 0 a1_19 7 x18_0, zAr T 0 a2_20 28 (upd x68_1 i68 (of2 i68)), zAr T 0 a3_21 7 x18_2, zAr T 0 a4_22 7 x18_3], [zO4 o ocr oinn a1_1 a2_2 a3_3 a4_4, zAr T 0 a1_1 7 of1, zAr T 0 a2_2 28 of2, zAr T 0 a3_3 7 of3, zAr T 0 a4_4 7 of4]] _ _ := G.re rfl
      exact ih_68 (i68 + 1) ([zO4 h ocr oinn a1_19 a2_20 a3_21 a4_22, zAr T 0 a1_19 7 x18_0, zAr T 0 a2_20 28 (upd x68_1 i68 (of2 i68)), zAr T 0 a3_21 7 x18_2, zAr T 0 a4_22 7 x18_3]) (upd x68_1 i68 (of2 i68)) (show bLand T h ocr oinn x18_0 (upd x68_1 i68 (of2 i68)) x18_2 x18_3 ([zO4 h ocr oinn a1_19 a2_20 a3_21 a4_22, zAr T 0 a1_19 7 x18_0, zAr T 0 a2_20 28 (upd x68_1 i68 (of2 i68)), zAr T 0 a3_21 7 x18_2, zAr T 0 a4_22 7 x18_3]) ∧ (i68 + 1) ≤ 28 ∧ (∀ j, j < (i68 + 1) → (upd x68_1 i68 (of2 i68)) j = of2 j) from ⟨hw_25, by omega, z_updE hx68_1 rfl⟩) (show 28 - (i68 + 1) < 28 - i68 from by omega) _ _ ls G (lv_sub hl [0, 1, 2] rfl)
  · have c_11n : ¬ 7 ≤ i18 := fun q => c_11 ((nI_leI (a := 7) (b := i18) (by omega) (by omega)).mpr q)
    refine lv_aload_n hx hb dX4_takeAll_24 rfl (lv_at hl 1 rfl) ?_
    refine zEx4 hw_18 ?_
    intro a1_26 a2_27 a3_28 a4_29 hbs9
    clear hw_18
    subst hbs9
    have G : zS T A s.heap s [[zO4 h ocr oinn a1_26 a2_27 a3_28 a4_29], [zAr T 0 a1_26 7 x18_0], [zAr T 0 a2_27 28 f2], [zAr T 0 a3_28 7 x18_2], [zAr T 0 a4_29 7 x18_3], [zO4 o ocr oinn a1_1 a2_2 a3_3 a4_4, zAr T 0 a1_1 7 of1, zAr T 0 a2_2 28 of2, zAr T 0 a3_3 7 of3, zAr T 0 a4_4 7 of4]] _ _ := G.re rfl
    refine z_get C G clX4 0 rfl 2 (by decide) m_fl_RX4_9 rfl dX4_takeAll_25 ?_
    refine lv_iload_n hx hb dX4_takeAll_28 rfl (lv_at hl 0 rfl) ?_
    refine lv_aload_n hx hb dX4_takeAll_29 rfl (lv_at hl 2 rfl) ?_
    have G : zS T A s.heap s [[zO4 h ocr oinn a1_26 a2_27 a3_28 a4_29], [zAr T 0 a1_26 7 x18_0], [zAr T 0 a2_27 28 f2], [zAr T 0 a3_28 7 x18_2], [zAr T 0 a4_29 7 x18_3], [zO4 o ocr oinn a1_1 a2_2 a3_3 a4_4], [zAr T 0 a1_1 7 of1], [zAr T 0 a2_2 28 of2], [zAr T 0 a3_3 7 of3], [zAr T 0 a4_4 7 of4]] _ _ := G.re rfl
    refine z_get C G clX4 5 rfl 2 (by decide) m_fl_RX4_9 rfl dX4_takeAll_30 ?_
    refine lv_iload_n hx hb dX4_takeAll_33 rfl (lv_at hl 0 rfl) ?_
    refine z_ild C G 6 rfl (vp_in_nI (by omega) (by decide)) dX4_takeAll_34 ?_
    refine lv_topi (fun v_30 ev_30 => ?_)
    rw [nI_clamp (by omega)] at ev_30
    subst ev_30
    refine z_ist C G 1 rfl (vp_in_nI (by omega) (by decide)) dX4_takeAll_35 (fun H locs G => ?_)
    rw [nI_clamp (by omega)] at G
    have G : zS T A s.heap s [[zO4 h ocr oinn a1_26 a2_27 a3_28 a4_29], [zAr T 0 a1_26 7 (upd x18_0 i18 (of1 i18))], [zAr T 0 a2_27 28 f2], [zAr T 0 a3_28 7 x18_2], [zAr T 0 a4_29 7 x18_3], [zO4 o ocr oinn a1_1 a2_2 a3_3 a4_4], [zAr T 0 a1_1 7 of1], [zAr T 0 a2_2 28 of2], [zAr T 0 a3_3 7 of3], [zAr T 0 a4_4 7 of4]] _ _ := G
    refine lv_aload_n hx hb dX4_takeAll_36 rfl (lv_at hl 1 rfl) ?_
    refine z_get C G clX4 0 rfl 4 (by decide) m_fl_RX4_18 rfl dX4_takeAll_37 ?_
    refine lv_iload_n hx hb dX4_takeAll_40 rfl (lv_at hl 0 rfl) ?_
    refine lv_aload_n hx hb dX4_takeAll_41 rfl (lv_at hl 2 rfl) ?_
    refine z_get C G clX4 5 rfl 4 (by decide) m_fl_RX4_18 rfl dX4_takeAll_42 ?_
    refine lv_iload_n hx hb dX4_takeAll_45 rfl (lv_at hl 0 rfl) ?_
    refine z_ild C G 8 rfl (vp_in_nI (by omega) (by decide)) dX4_takeAll_46 ?_
    refine lv_topi (fun v_31 ev_31 => ?_)
    rw [nI_clamp (by omega)] at ev_31
    subst ev_31
    refine z_ist C G 3 rfl (vp_in_nI (by omega) (by decide)) dX4_takeAll_47 (fun H locs G => ?_)
    rw [nI_clamp (by omega)] at G
    have G : zS T A s.heap s [[zO4 h ocr oinn a1_26 a2_27 a3_28 a4_29], [zAr T 0 a1_26 7 (upd x18_0 i18 (of1 i18))], [zAr T 0 a2_27 28 f2], [zAr T 0 a3_28 7 (upd x18_2 i18 (of3 i18))], [zAr T 0 a4_29 7 x18_3], [zO4 o ocr oinn a1_1 a2_2 a3_3 a4_4], [zAr T 0 a1_1 7 of1], [zAr T 0 a2_2 28 of2], [zAr T 0 a3_3 7 of3], [zAr T 0 a4_4 7 of4]] _ _ := G
    refine lv_aload_n hx hb dX4_takeAll_48 rfl (lv_at hl 1 rfl) ?_
    refine z_get C G clX4 0 rfl 5 (by decide) m_fl_RX4_21 rfl dX4_takeAll_49 ?_
    refine lv_iload_n hx hb dX4_takeAll_52 rfl (lv_at hl 0 rfl) ?_
    refine lv_aload_n hx hb dX4_takeAll_53 rfl (lv_at hl 2 rfl) ?_
    refine z_get C G clX4 5 rfl 5 (by decide) m_fl_RX4_21 rfl dX4_takeAll_54 ?_
    refine lv_iload_n hx hb dX4_takeAll_57 rfl (lv_at hl 0 rfl) ?_
    refine z_ild C G 9 rfl (vp_in_nI (by omega) (by decide)) dX4_takeAll_58 ?_
    refine lv_topi (fun v_32 ev_32 => ?_)
    rw [nI_clamp (by omega)] at ev_32
    subst ev_32
    refine z_ist C G 4 rfl (vp_in_nI (by omega) (by decide)) dX4_takeAll_59 (fun H locs G => ?_)
    rw [nI_clamp (by omega)] at G
    have G : zS T A s.heap s [[zO4 h ocr oinn a1_26 a2_27 a3_28 a4_29], [zAr T 0 a1_26 7 (upd x18_0 i18 (of1 i18))], [zAr T 0 a2_27 28 f2], [zAr T 0 a3_28 7 (upd x18_2 i18 (of3 i18))], [zAr T 0 a4_29 7 (upd x18_3 i18 (of4 i18))], [zO4 o ocr oinn a1_1 a2_2 a3_3 a4_4], [zAr T 0 a1_1 7 of1], [zAr T 0 a2_2 28 of2], [zAr T 0 a3_3 7 of3], [zAr T 0 a4_4 7 of4]] _ _ := G
    refine lv_iinc (v := nI (i18 + 1)) (lv' := [(2, .int (nI (i18 + 1))), (0, .ref h), (1, .ref o)]) hx hb dX4_takeAll_60 hl (k := 0) rfl (z_inc i18 1) (by decide) (zLvf_h rfl) (fun ls hl => ?_)
    refine lv_goto (tgt := 18) hx hb dX4_takeAll_63 (by decide) ?_
    have hw_33 : bLand T o ocr oinn of1 of2 of3 of4 [zO4 o ocr oinn a1_1 a2_2 a3_3 a4_4, zAr T 0 a1_1 7 of1, zAr T 0 a2_2 28 of2, zAr T 0 a3_3 7 of3, zAr T 0 a4_4 7 of4] := ⟨a1_1, a2_2, a3_3, a4_4, rfl⟩
    have G : zS T A s.heap s [[zO4 h ocr oinn a1_26 a2_27 a3_28 a4_29], [zAr T 0 a1_26 7 (upd x18_0 i18 (of1 i18))], [zAr T 0 a2_27 28 f2], [zAr T 0 a3_28 7 (upd x18_2 i18 (of3 i18))], [zAr T 0 a4_29 7 (upd x18_3 i18 (of4 i18))], [zO4 o ocr oinn a1_1 a2_2 a3_3 a4_4, zAr T 0 a1_1 7 of1, zAr T 0 a2_2 28 of2, zAr T 0 a3_3 7 of3, zAr T 0 a4_4 7 of4]] _ _ := G.re rfl
    have hw_34 : bLand T h ocr oinn (upd x18_0 i18 (of1 i18)) f2 (upd x18_2 i18 (of3 i18)) (upd x18_3 i18 (of4 i18)) [zO4 h ocr oinn a1_26 a2_27 a3_28 a4_29, zAr T 0 a1_26 7 (upd x18_0 i18 (of1 i18)), zAr T 0 a2_27 28 f2, zAr T 0 a3_28 7 (upd x18_2 i18 (of3 i18)), zAr T 0 a4_29 7 (upd x18_3 i18 (of4 i18))] := ⟨a1_26, a2_27, a3_28, a4_29, rfl⟩
    have G : zS T A s.heap s [[zO4 h ocr oinn a1_26 a2_27 a3_28 a4_29, zAr T 0 a1_26 7 (upd x18_0 i18 (of1 i18)), zAr T 0 a2_27 28 f2, zAr T 0 a3_28 7 (upd x18_2 i18 (of3 i18)), zAr T 0 a4_29 7 (upd x18_3 i18 (of4 i18))], [zO4 o ocr oinn a1_1 a2_2 a3_3 a4_4, zAr T 0 a1_1 7 of1, zAr T 0 a2_2 28 of2, zAr T 0 a3_3 7 of3, zAr T 0 a4_4 7 of4]] _ _ := G.re rfl
    exact ih_18 (i18 + 1) ([zO4 h ocr oinn a1_26 a2_27 a3_28 a4_29, zAr T 0 a1_26 7 (upd x18_0 i18 (of1 i18)), zAr T 0 a2_27 28 f2, zAr T 0 a3_28 7 (upd x18_2 i18 (of3 i18)), zAr T 0 a4_29 7 (upd x18_3 i18 (of4 i18))]) (upd x18_0 i18 (of1 i18)) (upd x18_2 i18 (of3 i18)) (upd x18_3 i18 (of4 i18)) (show bLand T h ocr oinn (upd x18_0 i18 (of1 i18)) f2 (upd x18_2 i18 (of3 i18)) (upd x18_3 i18 (of4 i18)) ([zO4 h ocr oinn a1_26 a2_27 a3_28 a4_29, zAr T 0 a1_26 7 (upd x18_0 i18 (of1 i18)), zAr T 0 a2_27 28 f2, zAr T 0 a3_28 7 (upd x18_2 i18 (of3 i18)), zAr T 0 a4_29 7 (upd x18_3 i18 (of4 i18))]) ∧ (i18 + 1) ≤ 7 ∧ (∀ j, j < (i18 + 1) → (upd x18_0 i18 (of1 i18)) j = of1 j) ∧ (∀ j, j < (i18 + 1) → (upd x18_2 i18 (of3 i18)) j = of3 j) ∧ (∀ j, j < (i18 + 1) → (upd x18_3 i18 (of4 i18)) j = of4 j) from ⟨hw_34, by omega, z_updE hx18_0 rfl, z_updE hx18_2 rfl, z_updE hx18_3 rfl⟩) (show 7 - (i18 + 1) < 7 - i18 from by omega) _ _ ls G (lv_sub hl [0, 1, 2] rfl)
set_option maxHeartbeats 4000000 in
set_option maxRecDepth 100000 in
/-- c_Day_takeAll -/
theorem c_Day_takeAll (l : Launch) (T : zTy) (h : Nat) (o : Nat) (dd : Int32) (f1 : Nat → Int32) (f2 : Nat → Int32) (f3 : Nat → Int32) (odd : Int32) (of1 : Nat → Int32) (of2 : Nat → Int32) (of3 : Nat → Int32) (w : va_W) (z : va_W) (hw : bDay T h dd f1 f2 f3 w) (hz : bDay T o odd of1 of2 of3 z) : zMv l T yX2_takeAll cX2_takeAll 3 1 0 0 [.ref h, .ref o] [w, z] (fun bs => ∃ (w2 : va_W) (g1 : Nat → Int32) (g2 : Nat → Int32) (g3 : Nat → Int32), bs = [w2, z] ∧ bDay T h odd g1 g2 g3 w2 ∧ (∀ j, j < 40 → g1 j = of1 j) ∧ (∀ j, j < 40 → g2 j = of2 j) ∧ (∀ j, j < 40 → g3 j = of3 j)) := by
  refine zMv_of (own := RX2) (by decide) rfl (Nat.le_of_ble_eq_true rfl) ?_
  intro p e s m args below meth c A ls C hr hlocks hnm hAe G hl
  refine zHide (fun Qz_ hQz_ => ?_)
  have hx := C.1
  have hb := C.2.1
  have hl : lv_has ls 3 [(0, .ref h), (1, .ref o)] := hl
  refine lv_aload_n hx hb dX2_takeAll_0 rfl (lv_at hl 0 rfl) ?_
  refine lv_aload_n hx hb dX2_takeAll_1 rfl (lv_at hl 1 rfl) ?_
  refine zEx3 hz ?_
  intro a1_1 a2_2 a3_3 hbs9
  clear hz
  subst hbs9
  have G : zS T A s.heap s [w, [(o, .inr (2, [.int odd, .ref a1_1, .ref a2_2, .ref a3_3]))], [zAr T 0 a1_1 40 of1], [zAr T 0 a2_2 40 of2], [zAr T 0 a3_3 40 of3]] _ _ := G.re rfl
  refine z_get C G clX2 1 rfl 0 (by decide) m_fl_RX2_21 rfl dX2_takeAll_2 ?_
  refine zEx3 hw ?_
  intro a1_4 a2_5 a3_6 hbs9
  clear hw
  subst hbs9
  have G : zS T A s.heap s [[(h, .inr (2, [.int dd, .ref a1_4, .ref a2_5, .ref a3_6]))], [zAr T 0 a1_4 40 f1], [zAr T 0 a2_5 40 f2], [zAr T 0 a3_6 40 f3], [(o, .inr (2, [.int odd, .ref a1_1, .ref a2_2, .ref a3_3]))], [zAr T 0 a1_1 40 of1], [zAr T 0 a2_2 40 of2], [zAr T 0 a3_3 40 of3]] _ _ := G.re rfl
  refine z_put C G clX2 0 rfl 0 (by decide) m_fl_RX2_21 rfl rfl rfl (Nat.le_of_ble_eq_true rfl) dX2_takeAll_5 (fun H locs G => ?_)
  have G : zS T A s.heap s [[(h, .inr (2, [.int odd, .ref a1_4, .ref a2_5, .ref a3_6]))], [zAr T 0 a1_4 40 f1], [zAr T 0 a2_5 40 f2], [zAr T 0 a3_6 40 f3], [(o, .inr (2, [.int odd, .ref a1_1, .ref a2_2, .ref a3_3]))], [zAr T 0 a1_1 40 of1], [zAr T 0 a2_2 40 of2], [zAr T 0 a3_3 40 of3]] _ _ := G
  refine lv_iconst (v := 0) hx hb dX2_takeAll_8 (by decide) ?_
  refine lv_istore_n (lv' := [(2, .int 0), (0, .ref h), (1, .ref o)]) hx hb dX2_takeAll_9 rfl hl (by decide) (zLvf_h rfl) (fun ls hl => ?_)
  have hw_7 : bDay T o odd of1 of2 of3 [(o, .inr (2, [.int odd, .ref a1_1, .ref a2_2, .ref a3_3])), zAr T 0 a1_1 40 of1, zAr T 0 a2_2 40 of2, zAr T 0 a3_3 40 of3] := ⟨a1_1, a2_2, a3_3, rfl⟩
  have G : zS T A s.heap s [[(h, .inr (2, [.int odd, .ref a1_4, .ref a2_5, .ref a3_6]))], [zAr T 0 a1_4 40 f1], [zAr T 0 a2_5 40 f2], [zAr T 0 a3_6 40 f3], [(o, .inr (2, [.int odd, .ref a1_1, .ref a2_2, .ref a3_3])), zAr T 0 a1_1 40 of1, zAr T 0 a2_2 40 of2, zAr T 0 a3_3 40 of3]] _ _ := G.re rfl
  have hw_8 : bDay T h odd f1 f2 f3 [(h, .inr (2, [.int odd, .ref a1_4, .ref a2_5, .ref a3_6])), zAr T 0 a1_4 40 f1, zAr T 0 a2_5 40 f2, zAr T 0 a3_6 40 f3] := ⟨a1_4, a2_5, a3_6, rfl⟩
  have G : zS T A s.heap s [[(h, .inr (2, [.int odd, .ref a1_4, .ref a2_5, .ref a3_6])), zAr T 0 a1_4 40 f1, zAr T 0 a2_5 40 f2, zAr T 0 a3_6 40 f3], [(o, .inr (2, [.int odd, .ref a1_1, .ref a2_2, .ref a3_3])), zAr T 0 a1_1 40 of1, zAr T 0 a2_2 40 of2, zAr T 0 a3_3 40 of3]] _ _ := G.re rfl
  refine z_lp5 (T := T) 10 (fun (i10 : Nat) (w_10 : va_W) (x10_0 : Nat → Int32) (x10_1 : Nat → Int32) (x10_2 : Nat → Int32) => [w_10, [(o, .inr (2, [.int odd, .ref a1_1, .ref a2_2, .ref a3_3])), zAr T 0 a1_1 40 of1, zAr T 0 a2_2 40 of2, zAr T 0 a3_3 40 of3]]) (fun (i10 : Nat) (w_10 : va_W) (x10_0 : Nat → Int32) (x10_1 : Nat → Int32) (x10_2 : Nat → Int32) => [(2, .int (nI i10)), (0, .ref h), (1, .ref o)]) (fun (i10 : Nat) (w_10 : va_W) (x10_0 : Nat → Int32) (x10_1 : Nat → Int32) (x10_2 : Nat → Int32) => bDay T h odd x10_0 x10_1 x10_2 w_10 ∧ i10 ≤ 40 ∧ (∀ j, j < i10 → x10_0 j = of1 j) ∧ (∀ j, j < i10 → x10_1 j = of2 j) ∧ (∀ j, j < i10 → x10_2 j = of3 j)) (fun (i10 : Nat) (w_10 : va_W) (x10_0 : Nat → Int32) (x10_1 : Nat → Int32) (x10_2 : Nat → Int32) => 40 - i10) ?_ 0 ([(h, .inr (2, [.int odd, .ref a1_4, .ref a2_5, .ref a3_6])), zAr T 0 a1_4 40 f1, zAr T 0 a2_5 40 f2, zAr T 0 a3_6 40 f3]) f1 f2 f3 (show bDay T h odd f1 f2 f3 ([(h, .inr (2, [.int odd, .ref a1_4, .ref a2_5, .ref a3_6])), zAr T 0 a1_4 40 f1, zAr T 0 a2_5 40 f2, zAr T 0 a3_6 40 f3]) ∧ 0 ≤ 40 ∧ (∀ j, j < 0 → f1 j = of1 j) ∧ (∀ j, j < 0 → f2 j = of2 j) ∧ (∀ j, j < 0 → f3 j = of3 j) from ⟨hw_8, by omega, fun j hj => absurd hj (by omega), fun j hj => absurd hj (by omega), fun j hj => absurd hj (by omega)⟩) G (lv_sub hl [0, 1, 2] rfl)
  intro i10 w_10 x10_0 x10_1 x10_2 hI9 ih_10 H locs ls G hl
  replace hI9 : bDay T h odd x10_0 x10_1 x10_2 w_10 ∧ i10 ≤ 40 ∧ (∀ j, j < i10 → x10_0 j = of1 j) ∧ (∀ j, j < i10 → x10_1 j = of2 j) ∧ (∀ j, j < i10 → x10_2 j = of3 j) := hI9
  refine zAn5 hI9 ?_
  intro hw_10 hi10 hx10_0 hx10_1 hx10_2
  clear hI9
  replace G : zS T A s.heap s [w_10, [(o, .inr (2, [.int odd, .ref a1_1, .ref a2_2, .ref a3_3])), zAr T 0 a1_1 40 of1, zAr T 0 a2_2 40 of2, zAr T 0 a3_3 40 of3]] _ _ := G
  replace hl : lv_has ls 3 [(2, .int (nI i10)), (0, .ref h), (1, .ref o)] := hl
  refine lv_iload_n hx hb dX2_takeAll_10 rfl (lv_at hl 0 rfl) ?_
  refine lv_bipush (v := 40) hx hb dX2_takeAll_11 (by decide) ?_
  refine lv_icmp_ge (tgt := 58) hx hb dX2_takeAll_13 (by decide) (fun c_9 => ?_) (fun c_9 => ?_)
  · have c_9n : 40 ≤ i10 := (nI_leI (a := 40) (b := i10) (by omega) (by omega)).mp c_9
    exact z_back hQz_ (z_vret C hr hlocks G (Nat.le_of_ble_eq_true rfl) (Nat.le_of_ble_eq_true rfl) dX2_takeAll_58 ⟨w_10, x10_0, x10_1, x10_2, rfl, hw_10, (fun j hj => hx10_0 j (by omega)), (fun j hj => hx10_1 j (by omega)), (fun j hj => hx10_2 j (by omega))⟩)
  · have c_9n : ¬ 40 ≤ i10 := fun q => c_9 ((nI_leI (a := 40) (b := i10) (by omega) (by omega)).mpr q)
    refine lv_aload_n hx hb dX2_takeAll_16 rfl (lv_at hl 1 rfl) ?_
    refine zEx3 hw_10 ?_
    intro a1_10 a2_11 a3_12 hbs9
    clear hw_10
    subst hbs9
    have G : zS T A s.heap s [[(h, .inr (2, [.int odd, .ref a1_10, .ref a2_11, .ref a3_12]))], [zAr T 0 a1_10 40 x10_0], [zAr T 0 a2_11 40 x10_1], [zAr T 0 a3_12 40 x10_2], [(o, .inr (2, [.int odd, .ref a1_1, .ref a2_2, .ref a3_3])), zAr T 0 a1_1 40 of1, zAr T 0 a2_2 40 of2, zAr T 0 a3_3 40 of3]] _ _ := G.re rfl
    refine z_get C G clX2 0 rfl 1 (by decide) m_fl_RX2_9 rfl dX2_takeAll_17 ?_
    refine lv_iload_n hx hb dX2_takeAll_20 rfl (lv_at hl 0 rfl) ?_
    refine lv_aload_n hx hb dX2_takeAll_21 rfl (lv_at hl 2 rfl) ?_
    have G : zS T A s.heap s [[(h, .inr (2, [.int odd, .ref a1_10, .ref a2_11, .ref a3_12]))], [zAr T 0 a1_10 40 x10_0], [zAr T 0 a2_11 40 x10_1], [zAr T 0 a3_12 40 x10_2], [(o, .inr (2, [.int odd, .ref a1_1, .ref a2_2, .ref a3_3]))], [zAr T 0 a1_1 40 of1], [zAr T 0 a2_2 40 of2], [zAr T 0 a3_3 40 of3]] _ _ := G.re rfl
    refine z_get C G clX2 4 rfl 1 (by decide) m_fl_RX2_9 rfl dX2_takeAll_22 ?_
    refine lv_iload_n hx hb dX2_takeAll_25 rfl (lv_at hl 0 rfl) ?_
    refine z_ild C G 5 rfl (vp_in_nI (by omega) (by decide)) dX2_takeAll_26 ?_
    refine lv_topi (fun v_13 ev_13 => ?_)
    rw [nI_clamp (by omega)] at ev_13
    subst ev_13
    refine z_ist C G 1 rfl (vp_in_nI (by omega) (by decide)) dX2_takeAll_27 (fun H locs G => ?_)
    rw [nI_clamp (by omega)] at G
    have G : zS T A s.heap s [[(h, .inr (2, [.int odd, .ref a1_10, .ref a2_11, .ref a3_12]))], [zAr T 0 a1_10 40 (upd x10_0 i10 (of1 i10))], [zAr T 0 a2_11 40 x10_1], [zAr T 0 a3_12 40 x10_2], [(o, .inr (2, [.int odd, .ref a1_1, .ref a2_2, .ref a3_3]))], [zAr T 0 a1_1 40 of1], [zAr T 0 a2_2 40 of2], [zAr T 0 a3_3 40 of3]] _ _ := G
    refine lv_aload_n hx hb dX2_takeAll_28 rfl (lv_at hl 1 rfl) ?_
    refine z_get C G clX2 0 rfl 2 (by decide) m_fl_RX2_15 rfl dX2_takeAll_29 ?_
    refine lv_iload_n hx hb dX2_takeAll_32 rfl (lv_at hl 0 rfl) ?_
    refine lv_aload_n hx hb dX2_takeAll_33 rfl (lv_at hl 2 rfl) ?_
    refine z_get C G clX2 4 rfl 2 (by decide) m_fl_RX2_15 rfl dX2_takeAll_34 ?_
    refine lv_iload_n hx hb dX2_takeAll_37 rfl (lv_at hl 0 rfl) ?_
    refine z_ild C G 6 rfl (vp_in_nI (by omega) (by decide)) dX2_takeAll_38 ?_
    refine lv_topi (fun v_14 ev_14 => ?_)
    rw [nI_clamp (by omega)] at ev_14
    subst ev_14
    refine z_ist C G 2 rfl (vp_in_nI (by omega) (by decide)) dX2_takeAll_39 (fun H locs G => ?_)
    rw [nI_clamp (by omega)] at G
    have G : zS T A s.heap s [[(h, .inr (2, [.int odd, .ref a1_10, .ref a2_11, .ref a3_12]))], [zAr T 0 a1_10 40 (upd x10_0 i10 (of1 i10))], [zAr T 0 a2_11 40 (upd x10_1 i10 (of2 i10))], [zAr T 0 a3_12 40 x10_2], [(o, .inr (2, [.int odd, .ref a1_1, .ref a2_2, .ref a3_3]))], [zAr T 0 a1_1 40 of1], [zAr T 0 a2_2 40 of2], [zAr T 0 a3_3 40 of3]] _ _ := G
    refine lv_aload_n hx hb dX2_takeAll_40 rfl (lv_at hl 1 rfl) ?_
    refine z_get C G clX2 0 rfl 3 (by decide) m_fl_RX2_18 rfl dX2_takeAll_41 ?_
    refine lv_iload_n hx hb dX2_takeAll_44 rfl (lv_at hl 0 rfl) ?_
    refine lv_aload_n hx hb dX2_takeAll_45 rfl (lv_at hl 2 rfl) ?_
    refine z_get C G clX2 4 rfl 3 (by decide) m_fl_RX2_18 rfl dX2_takeAll_46 ?_
    refine lv_iload_n hx hb dX2_takeAll_49 rfl (lv_at hl 0 rfl) ?_
    refine z_ild C G 7 rfl (vp_in_nI (by omega) (by decide)) dX2_takeAll_50 ?_
    refine lv_topi (fun v_15 ev_15 => ?_)
    rw [nI_clamp (by omega)] at ev_15
    subst ev_15
    refine z_ist C G 3 rfl (vp_in_nI (by omega) (by decide)) dX2_takeAll_51 (fun H locs G => ?_)
    rw [nI_clamp (by omega)] at G
    have G : zS T A s.heap s [[(h, .inr (2, [.int odd, .ref a1_10, .ref a2_11, .ref a3_12]))], [zAr T 0 a1_10 40 (upd x10_0 i10 (of1 i10))], [zAr T 0 a2_11 40 (upd x10_1 i10 (of2 i10))], [zAr T 0 a3_12 40 (upd x10_2 i10 (of3 i10))], [(o, .inr (2, [.int odd, .ref a1_1, .ref a2_2, .ref a3_3]))], [zAr T 0 a1_1 40 of1], [zAr T 0 a2_2 40 of2], [zAr T 0 a3_3 40 of3]] _ _ := G
    refine lv_iinc (v := nI (i10 + 1)) (lv' := [(2, .int (nI (i10 + 1))), (0, .ref h), (1, .ref o)]) hx hb dX2_takeAll_52 hl (k := 0) rfl (z_inc i10 1) (by decide) (zLvf_h rfl) (fun ls hl => ?_)
    refine lv_goto (tgt := 10) hx hb dX2_takeAll_55 (by decide) ?_
    have hw_16 : bDay T o odd of1 of2 of3 [(o, .inr (2, [.int odd, .ref a1_1, .ref a2_2, .ref a3_3])), zAr T 0 a1_1 40 of1, zAr T 0 a2_2 40 of2, zAr T 0 a3_3 40 of3] := ⟨a1_1, a2_2, a3_3, rfl⟩
    have G : zS T A s.heap s [[(h, .inr (2, [.int odd, .ref a1_10, .ref a2_11, .ref a3_12]))], [zAr T 0 a1_10 40 (upd x10_0 i10 (of1 i10))], [zAr T 0 a2_11 40 (upd x10_1 i10 (of2 i10))], [zAr T 0 a3_12 40 (upd x10_2 i10 (of3 i10))], [(o, .inr (2, [.int odd, .ref a1_1, .ref a2_2, .ref a3_3])), zAr T 0 a1_1 40 of1, zAr T 0 a2_2 40 of2, zAr T 0 a3_3 40 of3]] _ _ := G.re rfl
    have hw_17 : bDay T h odd (upd x10_0 i10 (of1 i10)) (upd x10_1 i10 (of2 i10)) (upd x10_2 i10 (of3 i10)) [(h, .inr (2, [.int odd, .ref a1_10, .ref a2_11, .ref a3_12])), zAr T 0 a1_10 40 (upd x10_0 i10 (of1 i10)), zAr T 0 a2_11 40 (upd x10_1 i10 (of2 i10)), zAr T 0 a3_12 40 (upd x10_2 i10 (of3 i10))] := ⟨a1_10, a2_11, a3_12, rfl⟩
    have G : zS T A s.heap s [[(h, .inr (2, [.int odd, .ref a1_10, .ref a2_11, .ref a3_12])), zAr T 0 a1_10 40 (upd x10_0 i10 (of1 i10)), zAr T 0 a2_11 40 (upd x10_1 i10 (of2 i10)), zAr T 0 a3_12 40 (upd x10_2 i10 (of3 i10))], [(o, .inr (2, [.int odd, .ref a1_1, .ref a2_2, .ref a3_3])), zAr T 0 a1_1 40 of1, zAr T 0 a2_2 40 of2, zAr T 0 a3_3 40 of3]] _ _ := G.re rfl
    exact ih_10 (i10 + 1) ([(h, .inr (2, [.int odd, .ref a1_10, .ref a2_11, .ref a3_12])), zAr T 0 a1_10 40 (upd x10_0 i10 (of1 i10)), zAr T 0 a2_11 40 (upd x10_1 i10 (of2 i10)), zAr T 0 a3_12 40 (upd x10_2 i10 (of3 i10))]) (upd x10_0 i10 (of1 i10)) (upd x10_1 i10 (of2 i10)) (upd x10_2 i10 (of3 i10)) (show bDay T h odd (upd x10_0 i10 (of1 i10)) (upd x10_1 i10 (of2 i10)) (upd x10_2 i10 (of3 i10)) ([(h, .inr (2, [.int odd, .ref a1_10, .ref a2_11, .ref a3_12])), zAr T 0 a1_10 40 (upd x10_0 i10 (of1 i10)), zAr T 0 a2_11 40 (upd x10_1 i10 (of2 i10)), zAr T 0 a3_12 40 (upd x10_2 i10 (of3 i10))]) ∧ (i10 + 1) ≤ 40 ∧ (∀ j, j < (i10 + 1) → (upd x10_0 i10 (of1 i10)) j = of1 j) ∧ (∀ j, j < (i10 + 1) → (upd x10_1 i10 (of2 i10)) j = of2 j) ∧ (∀ j, j < (i10 + 1) → (upd x10_2 i10 (of3 i10)) j = of3 j) from ⟨hw_17, by omega, z_updE hx10_0 rfl, z_updE hx10_1 rfl, z_updE hx10_2 rfl⟩) (show 40 - (i10 + 1) < 40 - i10 from by omega) _ _ ls G (lv_sub hl [0, 1, 2] rfl)
set_option maxHeartbeats 4000000 in
set_option maxRecDepth 100000 in
/-- c_Log_takeAll -/
theorem c_Log_takeAll (l : Launch) (T : zTy) (h : Nat) (o : Nat) (gg : Int32) (f1 : Nat → Int32) (f2 : Nat → Int32) (ogg : Int32) (of1 : Nat → Int32) (of2 : Nat → Int32) (w : va_W) (z : va_W) (hw : bLog T h gg f1 f2 w) (hz : bLog T o ogg of1 of2 z) : zMv l T yX5_takeAll cX5_takeAll 3 1 0 0 [.ref h, .ref o] [w, z] (fun bs => ∃ (w2 : va_W) (g1 : Nat → Int32) (g2 : Nat → Int32), bs = [w2, z] ∧ bLog T h ogg g1 g2 w2 ∧ (∀ j, j < 8 → g1 j = of1 j) ∧ (∀ j, j < 8 → g2 j = of2 j)) := by
  refine zMv_of (own := RX5) (by decide) rfl (Nat.le_of_ble_eq_true rfl) ?_
  intro p e s m args below meth c A ls C hr hlocks hnm hAe G hl
  refine zHide (fun Qz_ hQz_ => ?_)
  have hx := C.1
  have hb := C.2.1
  have hl : lv_has ls 3 [(0, .ref h), (1, .ref o)] := hl
  refine lv_aload_n hx hb dX5_takeAll_0 rfl (lv_at hl 0 rfl) ?_
  refine lv_aload_n hx hb dX5_takeAll_1 rfl (lv_at hl 1 rfl) ?_
  refine zEx2 hz ?_
  intro a1_1 a2_2 hbs9
  clear hz
  subst hbs9
  have G : zS T A s.heap s [w, [(o, .inr (5, [.int ogg, .ref a1_1, .ref a2_2]))], [zAr T 0 a1_1 8 of1], [zAr T 0 a2_2 8 of2]] _ _ := G.re rfl
  refine z_get C G clX5 1 rfl 0 (by decide) m_fl_RX5_18 rfl dX5_takeAll_2 ?_
  refine zEx2 hw ?_
  intro a1_3 a2_4 hbs9
  clear hw
  subst hbs9
  have G : zS T A s.heap s [[(h, .inr (5, [.int gg, .ref a1_3, .ref a2_4]))], [zAr T 0 a1_3 8 f1], [zAr T 0 a2_4 8 f2], [(o, .inr (5, [.int ogg, .ref a1_1, .ref a2_2]))], [zAr T 0 a1_1 8 of1], [zAr T 0 a2_2 8 of2]] _ _ := G.re rfl
  refine z_put C G clX5 0 rfl 0 (by decide) m_fl_RX5_18 rfl rfl rfl (Nat.le_of_ble_eq_true rfl) dX5_takeAll_5 (fun H locs G => ?_)
  have G : zS T A s.heap s [[(h, .inr (5, [.int ogg, .ref a1_3, .ref a2_4]))], [zAr T 0 a1_3 8 f1], [zAr T 0 a2_4 8 f2], [(o, .inr (5, [.int ogg, .ref a1_1, .ref a2_2]))], [zAr T 0 a1_1 8 of1], [zAr T 0 a2_2 8 of2]] _ _ := G
  refine lv_iconst (v := 0) hx hb dX5_takeAll_8 (by decide) ?_
  refine lv_istore_n (lv' := [(2, .int 0), (0, .ref h), (1, .ref o)]) hx hb dX5_takeAll_9 rfl hl (by decide) (zLvf_h rfl) (fun ls hl => ?_)
  have hw_5 : bLog T o ogg of1 of2 [(o, .inr (5, [.int ogg, .ref a1_1, .ref a2_2])), zAr T 0 a1_1 8 of1, zAr T 0 a2_2 8 of2] := ⟨a1_1, a2_2, rfl⟩
  have G : zS T A s.heap s [[(h, .inr (5, [.int ogg, .ref a1_3, .ref a2_4]))], [zAr T 0 a1_3 8 f1], [zAr T 0 a2_4 8 f2], [(o, .inr (5, [.int ogg, .ref a1_1, .ref a2_2])), zAr T 0 a1_1 8 of1, zAr T 0 a2_2 8 of2]] _ _ := G.re rfl
  have hw_6 : bLog T h ogg f1 f2 [(h, .inr (5, [.int ogg, .ref a1_3, .ref a2_4])), zAr T 0 a1_3 8 f1, zAr T 0 a2_4 8 f2] := ⟨a1_3, a2_4, rfl⟩
  have G : zS T A s.heap s [[(h, .inr (5, [.int ogg, .ref a1_3, .ref a2_4])), zAr T 0 a1_3 8 f1, zAr T 0 a2_4 8 f2], [(o, .inr (5, [.int ogg, .ref a1_1, .ref a2_2])), zAr T 0 a1_1 8 of1, zAr T 0 a2_2 8 of2]] _ _ := G.re rfl
  refine z_lp4 (T := T) 10 (fun (i10 : Nat) (w_10 : va_W) (x10_0 : Nat → Int32) (x10_1 : Nat → Int32) => [w_10, [(o, .inr (5, [.int ogg, .ref a1_1, .ref a2_2])), zAr T 0 a1_1 8 of1, zAr T 0 a2_2 8 of2]]) (fun (i10 : Nat) (w_10 : va_W) (x10_0 : Nat → Int32) (x10_1 : Nat → Int32) => [(2, .int (nI i10)), (0, .ref h), (1, .ref o)]) (fun (i10 : Nat) (w_10 : va_W) (x10_0 : Nat → Int32) (x10_1 : Nat → Int32) => bLog T h ogg x10_0 x10_1 w_10 ∧ i10 ≤ 8 ∧ (∀ j, j < i10 → x10_0 j = of1 j) ∧ (∀ j, j < i10 → x10_1 j = of2 j)) (fun (i10 : Nat) (w_10 : va_W) (x10_0 : Nat → Int32) (x10_1 : Nat → Int32) => 8 - i10) ?_ 0 ([(h, .inr (5, [.int ogg, .ref a1_3, .ref a2_4])), zAr T 0 a1_3 8 f1, zAr T 0 a2_4 8 f2]) f1 f2 (show bLog T h ogg f1 f2 ([(h, .inr (5, [.int ogg, .ref a1_3, .ref a2_4])), zAr T 0 a1_3 8 f1, zAr T 0 a2_4 8 f2]) ∧ 0 ≤ 8 ∧ (∀ j, j < 0 → f1 j = of1 j) ∧ (∀ j, j < 0 → f2 j = of2 j) from ⟨hw_6, by omega, fun j hj => absurd hj (by omega), fun j hj => absurd hj (by omega)⟩) G (lv_sub hl [0, 1, 2] rfl)
  intro i10 w_10 x10_0 x10_1 hI9 ih_10 H locs ls G hl
  replace hI9 : bLog T h ogg x10_0 x10_1 w_10 ∧ i10 ≤ 8 ∧ (∀ j, j < i10 → x10_0 j = of1 j) ∧ (∀ j, j < i10 → x10_1 j = of2 j) := hI9
  refine zAn4 hI9 ?_
  intro hw_10 hi10 hx10_0 hx10_1
  clear hI9
  replace G : zS T A s.heap s [w_10, [(o, .inr (5, [.int ogg, .ref a1_1, .ref a2_2])), zAr T 0 a1_1 8 of1, zAr T 0 a2_2 8 of2]] _ _ := G
  replace hl : lv_has ls 3 [(2, .int (nI i10)), (0, .ref h), (1, .ref o)] := hl
  refine lv_iload_n hx hb dX5_takeAll_10 rfl (lv_at hl 0 rfl) ?_
  refine lv_bipush (v := 8) hx hb dX5_takeAll_11 (by decide) ?_
  refine lv_icmp_ge (tgt := 46) hx hb dX5_takeAll_13 (by decide) (fun c_7 => ?_) (fun c_7 => ?_)
  · have c_7n : 8 ≤ i10 := (nI_leI (a := 8) (b := i10) (by omega) (by omega)).mp c_7
    exact z_back hQz_ (z_vret C hr hlocks G (Nat.le_of_ble_eq_true rfl) (Nat.le_of_ble_eq_true rfl) dX5_takeAll_46 ⟨w_10, x10_0, x10_1, rfl, hw_10, (fun j hj => hx10_0 j (by omega)), (fun j hj => hx10_1 j (by omega))⟩)
  · have c_7n : ¬ 8 ≤ i10 := fun q => c_7 ((nI_leI (a := 8) (b := i10) (by omega) (by omega)).mpr q)
    refine lv_aload_n hx hb dX5_takeAll_16 rfl (lv_at hl 1 rfl) ?_
    refine zEx2 hw_10 ?_
    intro a1_8 a2_9 hbs9
    clear hw_10
    subst hbs9
    have G : zS T A s.heap s [[(h, .inr (5, [.int ogg, .ref a1_8, .ref a2_9]))], [zAr T 0 a1_8 8 x10_0], [zAr T 0 a2_9 8 x10_1], [(o, .inr (5, [.int ogg, .ref a1_1, .ref a2_2])), zAr T 0 a1_1 8 of1, zAr T 0 a2_2 8 of2]] _ _ := G.re rfl
    refine z_get C G clX5 0 rfl 1 (by decide) m_fl_RX5_9 rfl dX5_takeAll_17 ?_
    refine lv_iload_n hx hb dX5_takeAll_20 rfl (lv_at hl 0 rfl) ?_
    refine lv_aload_n hx hb dX5_takeAll_21 rfl (lv_at hl 2 rfl) ?_
    have G : zS T A s.heap s [[(h, .inr (5, [.int ogg, .ref a1_8, .ref a2_9]))], [zAr T 0 a1_8 8 x10_0], [zAr T 0 a2_9 8 x10_1], [(o, .inr (5, [.int ogg, .ref a1_1, .ref a2_2]))], [zAr T 0 a1_1 8 of1], [zAr T 0 a2_2 8 of2]] _ _ := G.re rfl
    refine z_get C G clX5 3 rfl 1 (by decide) m_fl_RX5_9 rfl dX5_takeAll_22 ?_
    refine lv_iload_n hx hb dX5_takeAll_25 rfl (lv_at hl 0 rfl) ?_
    refine z_ild C G 4 rfl (vp_in_nI (by omega) (by decide)) dX5_takeAll_26 ?_
    refine lv_topi (fun v_10 ev_10 => ?_)
    rw [nI_clamp (by omega)] at ev_10
    subst ev_10
    refine z_ist C G 1 rfl (vp_in_nI (by omega) (by decide)) dX5_takeAll_27 (fun H locs G => ?_)
    rw [nI_clamp (by omega)] at G
    have G : zS T A s.heap s [[(h, .inr (5, [.int ogg, .ref a1_8, .ref a2_9]))], [zAr T 0 a1_8 8 (upd x10_0 i10 (of1 i10))], [zAr T 0 a2_9 8 x10_1], [(o, .inr (5, [.int ogg, .ref a1_1, .ref a2_2]))], [zAr T 0 a1_1 8 of1], [zAr T 0 a2_2 8 of2]] _ _ := G
    refine lv_aload_n hx hb dX5_takeAll_28 rfl (lv_at hl 1 rfl) ?_
    refine z_get C G clX5 0 rfl 2 (by decide) m_fl_RX5_15 rfl dX5_takeAll_29 ?_
    refine lv_iload_n hx hb dX5_takeAll_32 rfl (lv_at hl 0 rfl) ?_
    refine lv_aload_n hx hb dX5_takeAll_33 rfl (lv_at hl 2 rfl) ?_
    refine z_get C G clX5 3 rfl 2 (by decide) m_fl_RX5_15 rfl dX5_takeAll_34 ?_
    refine lv_iload_n hx hb dX5_takeAll_37 rfl (lv_at hl 0 rfl) ?_
    refine z_ild C G 5 rfl (vp_in_nI (by omega) (by decide)) dX5_takeAll_38 ?_
    refine lv_topi (fun v_11 ev_11 => ?_)
    rw [nI_clamp (by omega)] at ev_11
    subst ev_11
    refine z_ist C G 2 rfl (vp_in_nI (by omega) (by decide)) dX5_takeAll_39 (fun H locs G => ?_)
    rw [nI_clamp (by omega)] at G
    have G : zS T A s.heap s [[(h, .inr (5, [.int ogg, .ref a1_8, .ref a2_9]))], [zAr T 0 a1_8 8 (upd x10_0 i10 (of1 i10))], [zAr T 0 a2_9 8 (upd x10_1 i10 (of2 i10))], [(o, .inr (5, [.int ogg, .ref a1_1, .ref a2_2]))], [zAr T 0 a1_1 8 of1], [zAr T 0 a2_2 8 of2]] _ _ := G
    refine lv_iinc (v := nI (i10 + 1)) (lv' := [(2, .int (nI (i10 + 1))), (0, .ref h), (1, .ref o)]) hx hb dX5_takeAll_40 hl (k := 0) rfl (z_inc i10 1) (by decide) (zLvf_h rfl) (fun ls hl => ?_)
    refine lv_goto (tgt := 10) hx hb dX5_takeAll_43 (by decide) ?_
    have hw_12 : bLog T o ogg of1 of2 [(o, .inr (5, [.int ogg, .ref a1_1, .ref a2_2])), zAr T 0 a1_1 8 of1, zAr T 0 a2_2 8 of2] := ⟨a1_1, a2_2, rfl⟩
    have G : zS T A s.heap s [[(h, .inr (5, [.int ogg, .ref a1_8, .ref a2_9]))], [zAr T 0 a1_8 8 (upd x10_0 i10 (of1 i10))], [zAr T 0 a2_9 8 (upd x10_1 i10 (of2 i10))], [(o, .inr (5, [.int ogg, .ref a1_1, .ref a2_2])), zAr T 0 a1_1 8 of1, zAr T 0 a2_2 8 of2]] _ _ := G.re rfl
    have hw_13 : bLog T h ogg (upd x10_0 i10 (of1 i10)) (upd x10_1 i10 (of2 i10)) [(h, .inr (5, [.int ogg, .ref a1_8, .ref a2_9])), zAr T 0 a1_8 8 (upd x10_0 i10 (of1 i10)), zAr T 0 a2_9 8 (upd x10_1 i10 (of2 i10))] := ⟨a1_8, a2_9, rfl⟩
    have G : zS T A s.heap s [[(h, .inr (5, [.int ogg, .ref a1_8, .ref a2_9])), zAr T 0 a1_8 8 (upd x10_0 i10 (of1 i10)), zAr T 0 a2_9 8 (upd x10_1 i10 (of2 i10))], [(o, .inr (5, [.int ogg, .ref a1_1, .ref a2_2])), zAr T 0 a1_1 8 of1, zAr T 0 a2_2 8 of2]] _ _ := G.re rfl
    exact ih_10 (i10 + 1) ([(h, .inr (5, [.int ogg, .ref a1_8, .ref a2_9])), zAr T 0 a1_8 8 (upd x10_0 i10 (of1 i10)), zAr T 0 a2_9 8 (upd x10_1 i10 (of2 i10))]) (upd x10_0 i10 (of1 i10)) (upd x10_1 i10 (of2 i10)) (show bLog T h ogg (upd x10_0 i10 (of1 i10)) (upd x10_1 i10 (of2 i10)) ([(h, .inr (5, [.int ogg, .ref a1_8, .ref a2_9])), zAr T 0 a1_8 8 (upd x10_0 i10 (of1 i10)), zAr T 0 a2_9 8 (upd x10_1 i10 (of2 i10))]) ∧ (i10 + 1) ≤ 8 ∧ (∀ j, j < (i10 + 1) → (upd x10_0 i10 (of1 i10)) j = of1 j) ∧ (∀ j, j < (i10 + 1) → (upd x10_1 i10 (of2 i10)) j = of2 j) from ⟨hw_13, by omega, z_updE hx10_0 rfl, z_updE hx10_1 rfl⟩) (show 8 - (i10 + 1) < 8 - i10 from by omega) _ _ ls G (lv_sub hl [0, 1, 2] rfl)
set_option maxHeartbeats 4000000 in
set_option maxRecDepth 100000 in
/-- clear -/
theorem c_Land_clear (l : Launch) (T : zTy) (h : Nat) (cr : Int32) (inn : Int32) (f1 : Nat → Int32) (f2 : Nat → Int32) (f3 : Nat → Int32) (f4 : Nat → Int32) (w : va_W) (hw : bLand T h cr inn f1 f2 f3 f4 w) : zMv l T yX4_clear cX4_clear 2 1 0 0 [.ref h] [w] (fun bs => ∃ (w2 : va_W) (g1 : Nat → Int32) (g3 : Nat → Int32) (g4 : Nat → Int32), bs = [w2] ∧ bLand T h 0 0 g1 f2 g3 g4 w2 ∧ (∀ j, j < 7 → g1 j = 0) ∧ (∀ j, j < 7 → g3 j = 0) ∧ (∀ j, j < 7 → g4 j = 0)) := by
  refine zMv_of (own := RX4) (by decide) rfl (Nat.le_of_ble_eq_true rfl) ?_
  intro p e s m args below meth c A ls C hr hlocks hnm hAe G hl
  refine zHide (fun Qz_ hQz_ => ?_)
  have hx := C.1
  have hb := C.2.1
  have hl : lv_has ls 2 [(0, .ref h)] := hl
  refine lv_aload_n hx hb dX4_clear_0 rfl (lv_at hl 0 rfl) ?_
  refine lv_iconst (v := 0) hx hb dX4_clear_1 (by decide) ?_
  refine zEx4 hw ?_
  intro a1_1 a2_2 a3_3 a4_4 hbs9
  clear hw
  subst hbs9
  have G : zS T A s.heap s [[zO4 h cr inn a1_1 a2_2 a3_3 a4_4], [zAr T 0 a1_1 7 f1], [zAr T 0 a2_2 28 f2], [zAr T 0 a3_3 7 f3], [zAr T 0 a4_4 7 f4]] _ _ := G.re rfl
  refine z_put C G clX4 0 rfl 0 (by decide) m_fl_RX4_24 rfl rfl rfl (Nat.le_of_ble_eq_true rfl) dX4_clear_2 (fun H locs G => ?_)
  have G : zS T A s.heap s [[zO4 h 0 inn a1_1 a2_2 a3_3 a4_4], [zAr T 0 a1_1 7 f1], [zAr T 0 a2_2 28 f2], [zAr T 0 a3_3 7 f3], [zAr T 0 a4_4 7 f4]] _ _ := G
  refine lv_aload_n hx hb dX4_clear_5 rfl (lv_at hl 0 rfl) ?_
  refine lv_iconst (v := 0) hx hb dX4_clear_6 (by decide) ?_
  refine z_put C G clX4 0 rfl 1 (by decide) m_fl_RX4_28 rfl rfl rfl (Nat.le_of_ble_eq_true rfl) dX4_clear_7 (fun H locs G => ?_)
  have G : zS T A s.heap s [[zO4 h 0 0 a1_1 a2_2 a3_3 a4_4], [zAr T 0 a1_1 7 f1], [zAr T 0 a2_2 28 f2], [zAr T 0 a3_3 7 f3], [zAr T 0 a4_4 7 f4]] _ _ := G
  refine lv_iconst (v := 0) hx hb dX4_clear_10 (by decide) ?_
  refine lv_istore_n (lv' := [(1, .int 0), (0, .ref h)]) hx hb dX4_clear_11 rfl hl (by decide) (zLvf_h rfl) (fun ls hl => ?_)
  have hw_5 : bLand T h 0 0 f1 f2 f3 f4 [zO4 h 0 0 a1_1 a2_2 a3_3 a4_4, zAr T 0 a1_1 7 f1, zAr T 0 a2_2 28 f2, zAr T 0 a3_3 7 f3, zAr T 0 a4_4 7 f4] := ⟨a1_1, a2_2, a3_3, a4_4, rfl⟩
  have G : zS T A s.heap s [[zO4 h 0 0 a1_1 a2_2 a3_3 a4_4, zAr T 0 a1_1 7 f1, zAr T 0 a2_2 28 f2, zAr T 0 a3_3 7 f3, zAr T 0 a4_4 7 f4]] _ _ := G.re rfl
  refine z_lp5 (T := T) 12 (fun (i : Nat) (wq : va_W) (x1 : Nat → Int32) (x3 : Nat → Int32) (x4 : Nat → Int32) => [wq]) (fun (i : Nat) (wq : va_W) (x1 : Nat → Int32) (x3 : Nat → Int32) (x4 : Nat → Int32) => [(1, .int (nI i)), (0, .ref h)]) (fun (i : Nat) (wq : va_W) (x1 : Nat → Int32) (x3 : Nat → Int32) (x4 : Nat → Int32) => bLand T h 0 0 x1 f2 x3 x4 wq ∧ i ≤ 7 ∧ (∀ j, j < i → x1 j = 0) ∧ (∀ j, j < i → x3 j = 0) ∧ (∀ j, j < i → x4 j = 0)) (fun (i : Nat) (wq : va_W) (x1 : Nat → Int32) (x3 : Nat → Int32) (x4 : Nat → Int32) => 7 - i) ?_ 0 ([zO4 h 0 0 a1_1 a2_2 a3_3 a4_4, zAr T 0 a1_1 7 f1, zAr T 0 a2_2 28 f2, zAr T 0 a3_3 7 f3, zAr T 0 a4_4 7 f4]) f1 f3 f4 (show bLand T h 0 0 f1 f2 f3 f4 ([zO4 h 0 0 a1_1 a2_2 a3_3 a4_4, zAr T 0 a1_1 7 f1, zAr T 0 a2_2 28 f2, zAr T 0 a3_3 7 f3, zAr T 0 a4_4 7 f4]) ∧ 0 ≤ 7 ∧ (∀ j, j < 0 → f1 j = 0) ∧ (∀ j, j < 0 → f3 j = 0) ∧ (∀ j, j < 0 → f4 j = 0) from ⟨hw_5, by omega, fun j hj => absurd hj (by omega), fun j hj => absurd hj (by omega), fun j hj => absurd hj (by omega)⟩) G (lv_sub hl [0, 1] rfl)
  intro i wq x1 x3 x4 hI9 ih_12 H locs ls G hl
  replace hI9 : bLand T h 0 0 x1 f2 x3 x4 wq ∧ i ≤ 7 ∧ (∀ j, j < i → x1 j = 0) ∧ (∀ j, j < i → x3 j = 0) ∧ (∀ j, j < i → x4 j = 0) := hI9
  refine zAn5 hI9 ?_
  intro hq hi hx1 hx3 hx4
  clear hI9
  replace G : zS T A s.heap s [wq] _ _ := G
  replace hl : lv_has ls 2 [(1, .int (nI i)), (0, .ref h)] := hl
  refine lv_iload_n hx hb dX4_clear_12 rfl (lv_at hl 0 rfl) ?_
  refine lv_bipush (v := 7) hx hb dX4_clear_13 (by decide) ?_
  refine lv_icmp_ge (tgt := 45) hx hb dX4_clear_15 (by decide) (fun c_6 => ?_) (fun c_6 => ?_)
  · have c_6n : 7 ≤ i := (nI_leI (a := 7) (b := i) (by omega) (by omega)).mp c_6
    exact z_back hQz_ (z_vret C hr hlocks G (Nat.le_of_ble_eq_true rfl) (Nat.le_of_ble_eq_true rfl) dX4_clear_45 ⟨wq, x1, x3, x4, rfl, hq, (fun j hj => hx1 j (by omega)), (fun j hj => hx3 j (by omega)), (fun j hj => hx4 j (by omega))⟩)
  · have c_6n : ¬ 7 ≤ i := fun q => c_6 ((nI_leI (a := 7) (b := i) (by omega) (by omega)).mpr q)
    refine lv_aload_n hx hb dX4_clear_18 rfl (lv_at hl 1 rfl) ?_
    refine zEx4 hq ?_
    intro a1_7 a2_8 a3_9 a4_10 hbs9
    clear hq
    subst hbs9
    have G : zS T A s.heap s [[zO4 h 0 0 a1_7 a2_8 a3_9 a4_10], [zAr T 0 a1_7 7 x1], [zAr T 0 a2_8 28 f2], [zAr T 0 a3_9 7 x3], [zAr T 0 a4_10 7 x4]] _ _ := G.re rfl
    refine z_get C G clX4 0 rfl 2 (by decide) m_fl_RX4_9 rfl dX4_clear_19 ?_
    refine lv_iload_n hx hb dX4_clear_22 rfl (lv_at hl 0 rfl) ?_
    refine lv_iconst (v := 0) hx hb dX4_clear_23 (by decide) ?_
    refine z_ist C G 1 rfl (vp_in_nI (by omega) (by decide)) dX4_clear_24 (fun H locs G => ?_)
    rw [nI_clamp (by omega)] at G
    have G : zS T A s.heap s [[zO4 h 0 0 a1_7 a2_8 a3_9 a4_10], [zAr T 0 a1_7 7 (upd x1 i 0)], [zAr T 0 a2_8 28 f2], [zAr T 0 a3_9 7 x3], [zAr T 0 a4_10 7 x4]] _ _ := G
    refine lv_aload_n hx hb dX4_clear_25 rfl (lv_at hl 1 rfl) ?_
    refine z_get C G clX4 0 rfl 4 (by decide) m_fl_RX4_18 rfl dX4_clear_26 ?_
    refine lv_iload_n hx hb dX4_clear_29 rfl (lv_at hl 0 rfl) ?_
    refine lv_iconst (v := 0) hx hb dX4_clear_30 (by decide) ?_
    refine z_ist C G 3 rfl (vp_in_nI (by omega) (by decide)) dX4_clear_31 (fun H locs G => ?_)
    rw [nI_clamp (by omega)] at G
    have G : zS T A s.heap s [[zO4 h 0 0 a1_7 a2_8 a3_9 a4_10], [zAr T 0 a1_7 7 (upd x1 i 0)], [zAr T 0 a2_8 28 f2], [zAr T 0 a3_9 7 (upd x3 i 0)], [zAr T 0 a4_10 7 x4]] _ _ := G
    refine lv_aload_n hx hb dX4_clear_32 rfl (lv_at hl 1 rfl) ?_
    refine z_get C G clX4 0 rfl 5 (by decide) m_fl_RX4_21 rfl dX4_clear_33 ?_
    refine lv_iload_n hx hb dX4_clear_36 rfl (lv_at hl 0 rfl) ?_
    refine lv_iconst (v := 0) hx hb dX4_clear_37 (by decide) ?_
    refine z_ist C G 4 rfl (vp_in_nI (by omega) (by decide)) dX4_clear_38 (fun H locs G => ?_)
    rw [nI_clamp (by omega)] at G
    have G : zS T A s.heap s [[zO4 h 0 0 a1_7 a2_8 a3_9 a4_10], [zAr T 0 a1_7 7 (upd x1 i 0)], [zAr T 0 a2_8 28 f2], [zAr T 0 a3_9 7 (upd x3 i 0)], [zAr T 0 a4_10 7 (upd x4 i 0)]] _ _ := G
    refine lv_iinc (v := nI (i + 1)) (lv' := [(1, .int (nI (i + 1))), (0, .ref h)]) hx hb dX4_clear_39 hl (k := 0) rfl (z_inc i 1) (by decide) (zLvf_h rfl) (fun ls hl => ?_)
    refine lv_goto (tgt := 12) hx hb dX4_clear_42 (by decide) ?_
    have hw_11 : bLand T h 0 0 (upd x1 i 0) f2 (upd x3 i 0) (upd x4 i 0) [zO4 h 0 0 a1_7 a2_8 a3_9 a4_10, zAr T 0 a1_7 7 (upd x1 i 0), zAr T 0 a2_8 28 f2, zAr T 0 a3_9 7 (upd x3 i 0), zAr T 0 a4_10 7 (upd x4 i 0)] := ⟨a1_7, a2_8, a3_9, a4_10, rfl⟩
    have G : zS T A s.heap s [[zO4 h 0 0 a1_7 a2_8 a3_9 a4_10, zAr T 0 a1_7 7 (upd x1 i 0), zAr T 0 a2_8 28 f2, zAr T 0 a3_9 7 (upd x3 i 0), zAr T 0 a4_10 7 (upd x4 i 0)]] _ _ := G.re rfl
    exact ih_12 (i + 1) ([zO4 h 0 0 a1_7 a2_8 a3_9 a4_10, zAr T 0 a1_7 7 (upd x1 i 0), zAr T 0 a2_8 28 f2, zAr T 0 a3_9 7 (upd x3 i 0), zAr T 0 a4_10 7 (upd x4 i 0)]) (upd x1 i 0) (upd x3 i 0) (upd x4 i 0) (show bLand T h 0 0 (upd x1 i 0) f2 (upd x3 i 0) (upd x4 i 0) ([zO4 h 0 0 a1_7 a2_8 a3_9 a4_10, zAr T 0 a1_7 7 (upd x1 i 0), zAr T 0 a2_8 28 f2, zAr T 0 a3_9 7 (upd x3 i 0), zAr T 0 a4_10 7 (upd x4 i 0)]) ∧ (i + 1) ≤ 7 ∧ (∀ j, j < (i + 1) → (upd x1 i 0) j = 0) ∧ (∀ j, j < (i + 1) → (upd x3 i 0) j = 0) ∧ (∀ j, j < (i + 1) → (upd x4 i 0) j = 0) from ⟨hw_11, by omega, z_updE (F := fun _ => 0) hx1 rfl, z_updE (F := fun _ => 0) hx3 rfl, z_updE (F := fun _ => 0) hx4 rfl⟩) (show 7 - (i + 1) < 7 - i from by omega) _ _ ls G (lv_sub hl [0, 1] rfl)
theorem m_fl_RX6_28 : Cond.fieldLink RX6 28 (TX6 3).1 (TX6 3).2.1 (TX6 3).2.2.1 ∈ zT := zmem1 zsub_1 233 rfl rfl
theorem m_fl_RX6_32 : Cond.fieldLink RX6 32 (TX6 4).1 (TX6 4).2.1 (TX6 4).2.2.1 ∈ zT := zmem1 zsub_1 235 rfl rfl
theorem m_fl_RX6_35 : Cond.fieldLink RX6 35 (TX4 4).1 (TX4 4).2.1 (TX4 4).2.2.1 ∈ zT := zmem1 zsub_1 57 rfl rfl
theorem m_co_X4_waysOut : Cond.code yX4_waysOut cX4_waysOut 2 (some .int) ∈ zT := zmem1 zsub_4 12 rfl rfl
theorem m_ml_RX6_36 : Cond.methodLink RX6 36 yX4_waysOut ∈ zT := zmem1 zsub_4 9 rfl rfl
theorem m_im_X4_waysOut : Cond.instanceMethod yX4_waysOut ∈ zT := zmem1 zsub_4 10 rfl rfl
theorem m_se_X4_waysOut : Cond.selects RX4 yX4_waysOut yX4_waysOut ∈ zT := zmem1 zsub_4 11 rfl rfl
theorem m_ml_RX6_39 : Cond.methodLink RX6 39 yX4_hasRoad ∈ zT := zmem1 zsub_4 66 rfl rfl
theorem m_co_X6_turn : Cond.code yX6_turn cX6_turn 6 (some .int) ∈ zT := zmem1 zsub_4 38 rfl rfl
theorem m_ml_RX6_43 : Cond.methodLink RX6 43 yX6_turn ∈ zT := zmem1 zsub_4 35 rfl rfl
theorem m_im_X6_turn : Cond.instanceMethod yX6_turn ∈ zT := zmem1 zsub_4 36 rfl rfl
theorem m_se_X6_turn : Cond.selects RX6 yX6_turn yX6_turn ∈ zT := zmem1 zsub_4 37 rfl rfl
theorem m_fl_RX6_46 : Cond.fieldLink RX6 46 (TX4 3).1 (TX4 3).2.1 (TX4 3).2.2.1 ∈ zT := zmem1 zsub_1 55 rfl rfl
theorem m_co_X6_step : Cond.code yX6_step cX6_step 4 (some .int) ∈ zT := zmem1 zsub_4 34 rfl rfl
theorem m_ml_RX6_49 : Cond.methodLink RX6 49 yX6_step ∈ zT := zmem1 zsub_4 51 rfl rfl
theorem m_im_X6_step : Cond.instanceMethod yX6_step ∈ zT := zmem1 zsub_4 32 rfl rfl
theorem m_se_X6_step : Cond.selects RX6 yX6_step yX6_step ∈ zT := zmem1 zsub_4 33 rfl rfl
theorem kV_RX6_36 {R : Room} {s : State} {args : Array Value} {d mc ms : Nat} (hts : ∀ w ∈ zT, w.before args s = true) (h1 : d + 1 ≤ R.frames) (h2 : 8 + (2 + 11) + 40 * d ≤ R.locals) : CallW R s args RX6 RX4 36 yX4_waysOut cX4_waysOut 2 (some .int) (zW yX4_waysOut cX4_waysOut 2 (some .int)) (zR d mc ms) mc ms 1 := z_cwV hts m_co_X4_waysOut m_ml_RX6_36 m_im_X4_waysOut m_se_X4_waysOut m_ii_RX4 (by decide +kernel) h1 h2
theorem kV_RX6_39 {R : Room} {s : State} {args : Array Value} {d mc ms : Nat} (hts : ∀ w ∈ zT, w.before args s = true) (h1 : d + 1 ≤ R.frames) (h2 : 8 + (3 + 11) + 40 * d ≤ R.locals) : CallW R s args RX6 RX4 39 yX4_hasRoad cX4_hasRoad 3 (some .boolean) (zW yX4_hasRoad cX4_hasRoad 3 (some .boolean)) (zR d mc ms) mc ms 2 := z_cwV hts m_co_X4_hasRoad m_ml_RX6_39 m_im_X4_hasRoad m_se_X4_hasRoad m_ii_RX4 (by decide +kernel) h1 h2
theorem kV_RX6_43 {R : Room} {s : State} {args : Array Value} {d mc ms : Nat} (hts : ∀ w ∈ zT, w.before args s = true) (h1 : d + 1 ≤ R.frames) (h2 : 8 + (6 + 11) + 40 * d ≤ R.locals) : CallW R s args RX6 RX6 43 yX6_turn cX6_turn 6 (some .int) (zW yX6_turn cX6_turn 6 (some .int)) (zR d mc ms) mc ms 1 := z_cwV hts m_co_X6_turn m_ml_RX6_43 m_im_X6_turn m_se_X6_turn m_ii_RX6 (by decide +kernel) h1 h2
theorem kV_RX6_49 {R : Room} {s : State} {args : Array Value} {d mc ms : Nat} (hts : ∀ w ∈ zT, w.before args s = true) (h1 : d + 1 ≤ R.frames) (h2 : 8 + (4 + 11) + 40 * d ≤ R.locals) : CallW R s args RX6 RX6 49 yX6_step cX6_step 4 (some .int) (zW yX6_step cX6_step 4 (some .int)) (zR d mc ms) mc ms 1 := z_cwV hts m_co_X6_step m_ml_RX6_49 m_im_X6_step m_se_X6_step m_ii_RX6 (by decide +kernel) h1 h2
theorem dX6_begin_0 : decode cX6_begin 0 = .ok (.aload_n 0, 1) := zo_42 (by decide +kernel)
theorem dX6_begin_1 : decode cX6_begin 1 = .ok (.aload_n 1, 1) := zo_43 (by decide +kernel)
theorem dX6_begin_2 : decode cX6_begin 2 = .ok (.putfield 12, 3) := zo_181 (by decide +kernel)
theorem dX6_begin_5 : decode cX6_begin 5 = .ok (.aload_n 0, 1) := zo_42 (by decide +kernel)
theorem dX6_begin_6 : decode cX6_begin 6 = .ok (.iconst 0, 1) := zo_3 (by decide +kernel)
theorem dX6_begin_7 : decode cX6_begin 7 = .ok (.putfield 28, 3) := zo_181 (by decide +kernel)
theorem dX6_begin_10 : decode cX6_begin 10 = .ok (.aload_n 0, 1) := zo_42 (by decide +kernel)
theorem dX6_begin_11 : decode cX6_begin 11 = .ok (.iconst 0, 1) := zo_3 (by decide +kernel)
theorem dX6_begin_12 : decode cX6_begin 12 = .ok (.putfield 32, 3) := zo_181 (by decide +kernel)
theorem dX6_begin_15 : decode cX6_begin 15 = .ok (.iconst 0, 1) := zo_3 (by decide +kernel)
theorem dX6_begin_16 : decode cX6_begin 16 = .ok (.istore_n 2, 1) := zo_61 (by decide +kernel)
theorem dX6_begin_17 : decode cX6_begin 17 = .ok (.iload_n 2, 1) := zo_28 (by decide +kernel)
theorem dX6_begin_18 : decode cX6_begin 18 = .ok (.bipush 7, 2) := zo_16 (by decide +kernel)
theorem dX6_begin_20 : decode cX6_begin 20 = .ok (.if_icmp .ge 39, 3) := zo_162 (by decide +kernel)
theorem dX6_begin_23 : decode cX6_begin 23 = .ok (.aload_n 0, 1) := zo_42 (by decide +kernel)
theorem dX6_begin_24 : decode cX6_begin 24 = .ok (.getfield 18, 3) := zo_180 (by decide +kernel)
theorem dX6_begin_27 : decode cX6_begin 27 = .ok (.iload_n 2, 1) := zo_28 (by decide +kernel)
theorem dX6_begin_28 : decode cX6_begin 28 = .ok (.aload_n 1, 1) := zo_43 (by decide +kernel)
theorem dX6_begin_29 : decode cX6_begin 29 = .ok (.getfield 35, 3) := zo_180 (by decide +kernel)
theorem dX6_begin_32 : decode cX6_begin 32 = .ok (.iload_n 2, 1) := zo_28 (by decide +kernel)
theorem dX6_begin_33 : decode cX6_begin 33 = .ok (.iaload, 1) := zo_46 (by decide +kernel)
theorem dX6_begin_34 : decode cX6_begin 34 = .ok (.iastore, 1) := zo_79 (by decide +kernel)
theorem dX6_begin_35 : decode cX6_begin 35 = .ok (.aload_n 0, 1) := zo_42 (by decide +kernel)
theorem dX6_begin_36 : decode cX6_begin 36 = .ok (.getfield 22, 3) := zo_180 (by decide +kernel)
theorem dX6_begin_39 : decode cX6_begin 39 = .ok (.iload_n 2, 1) := zo_28 (by decide +kernel)
theorem dX6_begin_40 : decode cX6_begin 40 = .ok (.iconst 0, 1) := zo_3 (by decide +kernel)
theorem dX6_begin_41 : decode cX6_begin 41 = .ok (.iastore, 1) := zo_79 (by decide +kernel)
theorem dX6_begin_42 : decode cX6_begin 42 = .ok (.aload_n 0, 1) := zo_42 (by decide +kernel)
theorem dX6_begin_43 : decode cX6_begin 43 = .ok (.getfield 25, 3) := zo_180 (by decide +kernel)
theorem dX6_begin_46 : decode cX6_begin 46 = .ok (.iload_n 2, 1) := zo_28 (by decide +kernel)
theorem dX6_begin_47 : decode cX6_begin 47 = .ok (.aload_n 1, 1) := zo_43 (by decide +kernel)
theorem dX6_begin_48 : decode cX6_begin 48 = .ok (.iload_n 2, 1) := zo_28 (by decide +kernel)
theorem dX6_begin_49 : decode cX6_begin 49 = .ok (.invokevirtual 36, 3) := zo_182 (by decide +kernel)
theorem dX6_begin_52 : decode cX6_begin 52 = .ok (.iastore, 1) := zo_79 (by decide +kernel)
theorem dX6_begin_53 : decode cX6_begin 53 = .ok (.iinc 2 1, 3) := zo_132 (by decide +kernel)
theorem dX6_begin_56 : decode cX6_begin 56 = .ok (.goto (-39), 3) := zo_167 (by decide +kernel)
theorem dX6_begin_59 : decode cX6_begin 59 = .ok (.return_, 1) := zo_177 (by decide +kernel)
theorem dX6_isShut_0 : decode cX6_isShut 0 = .ok (.aload_n 0, 1) := zo_42 (by decide +kernel)
theorem dX6_isShut_1 : decode cX6_isShut 1 = .ok (.getfield 12, 3) := zo_180 (by decide +kernel)
theorem dX6_isShut_4 : decode cX6_isShut 4 = .ok (.iload_n 1, 1) := zo_27 (by decide +kernel)
theorem dX6_isShut_5 : decode cX6_isShut 5 = .ok (.iload_n 2, 1) := zo_28 (by decide +kernel)
theorem dX6_isShut_6 : decode cX6_isShut 6 = .ok (.invokevirtual 39, 3) := zo_182 (by decide +kernel)
theorem dX6_isShut_9 : decode cX6_isShut 9 = .ok (.ifCond .eq 20, 3) := zo_153 (by decide +kernel)
theorem dX6_isShut_12 : decode cX6_isShut 12 = .ok (.aload_n 0, 1) := zo_42 (by decide +kernel)
theorem dX6_isShut_13 : decode cX6_isShut 13 = .ok (.getfield 22, 3) := zo_180 (by decide +kernel)
theorem dX6_isShut_16 : decode cX6_isShut 16 = .ok (.iload_n 1, 1) := zo_27 (by decide +kernel)
theorem dX6_isShut_17 : decode cX6_isShut 17 = .ok (.iaload, 1) := zo_46 (by decide +kernel)
theorem dX6_isShut_18 : decode cX6_isShut 18 = .ok (.iload_n 2, 1) := zo_28 (by decide +kernel)
theorem dX6_isShut_19 : decode cX6_isShut 19 = .ok (.ishr, 1) := zo_122 (by decide +kernel)
theorem dX6_isShut_20 : decode cX6_isShut 20 = .ok (.iconst 1, 1) := zo_4 (by decide +kernel)
theorem dX6_isShut_21 : decode cX6_isShut 21 = .ok (.iand, 1) := zo_126 (by decide +kernel)
theorem dX6_isShut_22 : decode cX6_isShut 22 = .ok (.ifCond .eq 7, 3) := zo_153 (by decide +kernel)
theorem dX6_isShut_25 : decode cX6_isShut 25 = .ok (.iconst 1, 1) := zo_4 (by decide +kernel)
theorem dX6_isShut_26 : decode cX6_isShut 26 = .ok (.goto 4, 3) := zo_167 (by decide +kernel)
theorem dX6_isShut_29 : decode cX6_isShut 29 = .ok (.iconst 0, 1) := zo_3 (by decide +kernel)
theorem dX6_isShut_30 : decode cX6_isShut 30 = .ok (.ireturn, 1) := zo_172 (by decide +kernel)
theorem dX6_shutRoad_0 : decode cX6_shutRoad 0 = .ok (.aload_n 0, 1) := zo_42 (by decide +kernel)
theorem dX6_shutRoad_1 : decode cX6_shutRoad 1 = .ok (.getfield 12, 3) := zo_180 (by decide +kernel)
theorem dX6_shutRoad_4 : decode cX6_shutRoad 4 = .ok (.iload_n 1, 1) := zo_27 (by decide +kernel)
theorem dX6_shutRoad_5 : decode cX6_shutRoad 5 = .ok (.iload_n 2, 1) := zo_28 (by decide +kernel)
theorem dX6_shutRoad_6 : decode cX6_shutRoad 6 = .ok (.invokevirtual 39, 3) := zo_182 (by decide +kernel)
theorem dX6_shutRoad_9 : decode cX6_shutRoad 9 = .ok (.ifCond .eq 15, 3) := zo_153 (by decide +kernel)
theorem dX6_shutRoad_12 : decode cX6_shutRoad 12 = .ok (.aload_n 0, 1) := zo_42 (by decide +kernel)
theorem dX6_shutRoad_13 : decode cX6_shutRoad 13 = .ok (.getfield 22, 3) := zo_180 (by decide +kernel)
theorem dX6_shutRoad_16 : decode cX6_shutRoad 16 = .ok (.iload_n 1, 1) := zo_27 (by decide +kernel)
theorem dX6_shutRoad_17 : decode cX6_shutRoad 17 = .ok (.dup2, 1) := zo_92 (by decide +kernel)
theorem dX6_shutRoad_18 : decode cX6_shutRoad 18 = .ok (.iaload, 1) := zo_46 (by decide +kernel)
theorem dX6_shutRoad_19 : decode cX6_shutRoad 19 = .ok (.iconst 1, 1) := zo_4 (by decide +kernel)
theorem dX6_shutRoad_20 : decode cX6_shutRoad 20 = .ok (.iload_n 2, 1) := zo_28 (by decide +kernel)
theorem dX6_shutRoad_21 : decode cX6_shutRoad 21 = .ok (.ishl, 1) := zo_120 (by decide +kernel)
theorem dX6_shutRoad_22 : decode cX6_shutRoad 22 = .ok (.ior, 1) := zo_128 (by decide +kernel)
theorem dX6_shutRoad_23 : decode cX6_shutRoad 23 = .ok (.iastore, 1) := zo_79 (by decide +kernel)
theorem dX6_shutRoad_24 : decode cX6_shutRoad 24 = .ok (.return_, 1) := zo_177 (by decide +kernel)
theorem dX6_openRoad_0 : decode cX6_openRoad 0 = .ok (.aload_n 0, 1) := zo_42 (by decide +kernel)
theorem dX6_openRoad_1 : decode cX6_openRoad 1 = .ok (.getfield 12, 3) := zo_180 (by decide +kernel)
theorem dX6_openRoad_4 : decode cX6_openRoad 4 = .ok (.iload_n 1, 1) := zo_27 (by decide +kernel)
theorem dX6_openRoad_5 : decode cX6_openRoad 5 = .ok (.iload_n 2, 1) := zo_28 (by decide +kernel)
theorem dX6_openRoad_6 : decode cX6_openRoad 6 = .ok (.invokevirtual 39, 3) := zo_182 (by decide +kernel)
theorem dX6_openRoad_9 : decode cX6_openRoad 9 = .ok (.ifCond .eq 17, 3) := zo_153 (by decide +kernel)
theorem dX6_openRoad_12 : decode cX6_openRoad 12 = .ok (.aload_n 0, 1) := zo_42 (by decide +kernel)
theorem dX6_openRoad_13 : decode cX6_openRoad 13 = .ok (.getfield 22, 3) := zo_180 (by decide +kernel)
theorem dX6_openRoad_16 : decode cX6_openRoad 16 = .ok (.iload_n 1, 1) := zo_27 (by decide +kernel)
theorem dX6_openRoad_17 : decode cX6_openRoad 17 = .ok (.dup2, 1) := zo_92 (by decide +kernel)
theorem dX6_openRoad_18 : decode cX6_openRoad 18 = .ok (.iaload, 1) := zo_46 (by decide +kernel)
theorem dX6_openRoad_19 : decode cX6_openRoad 19 = .ok (.iconst 1, 1) := zo_4 (by decide +kernel)
theorem dX6_openRoad_20 : decode cX6_openRoad 20 = .ok (.iload_n 2, 1) := zo_28 (by decide +kernel)
theorem dX6_openRoad_21 : decode cX6_openRoad 21 = .ok (.ishl, 1) := zo_120 (by decide +kernel)
theorem dX6_openRoad_22 : decode cX6_openRoad 22 = .ok (.iconst (-1), 1) := zo_2 (by decide +kernel)
theorem dX6_openRoad_23 : decode cX6_openRoad 23 = .ok (.ixor, 1) := zo_130 (by decide +kernel)
theorem dX6_openRoad_24 : decode cX6_openRoad 24 = .ok (.iand, 1) := zo_126 (by decide +kernel)
theorem dX6_openRoad_25 : decode cX6_openRoad 25 = .ok (.iastore, 1) := zo_79 (by decide +kernel)
theorem dX6_openRoad_26 : decode cX6_openRoad 26 = .ok (.return_, 1) := zo_177 (by decide +kernel)
theorem dX6_turn_0 : decode cX6_turn 0 = .ok (.iload_n 1, 1) := zo_27 (by decide +kernel)
theorem dX6_turn_1 : decode cX6_turn 1 = .ok (.ifCond .lt 9, 3) := zo_155 (by decide +kernel)
theorem dX6_turn_4 : decode cX6_turn 4 = .ok (.iload_n 1, 1) := zo_27 (by decide +kernel)
theorem dX6_turn_5 : decode cX6_turn 5 = .ok (.bipush 7, 2) := zo_16 (by decide +kernel)
theorem dX6_turn_7 : decode cX6_turn 7 = .ok (.if_icmp .lt 5, 3) := zo_161 (by decide +kernel)
theorem dX6_turn_10 : decode cX6_turn 10 = .ok (.iconst (-1), 1) := zo_2 (by decide +kernel)
theorem dX6_turn_11 : decode cX6_turn 11 = .ok (.ireturn, 1) := zo_172 (by decide +kernel)
theorem dX6_turn_12 : decode cX6_turn 12 = .ok (.aload_n 0, 1) := zo_42 (by decide +kernel)
theorem dX6_turn_13 : decode cX6_turn 13 = .ok (.getfield 25, 3) := zo_180 (by decide +kernel)
theorem dX6_turn_16 : decode cX6_turn 16 = .ok (.iload_n 1, 1) := zo_27 (by decide +kernel)
theorem dX6_turn_17 : decode cX6_turn 17 = .ok (.iaload, 1) := zo_46 (by decide +kernel)
theorem dX6_turn_18 : decode cX6_turn 18 = .ok (.istore_n 2, 1) := zo_61 (by decide +kernel)
theorem dX6_turn_19 : decode cX6_turn 19 = .ok (.aload_n 0, 1) := zo_42 (by decide +kernel)
theorem dX6_turn_20 : decode cX6_turn 20 = .ok (.getfield 22, 3) := zo_180 (by decide +kernel)
theorem dX6_turn_23 : decode cX6_turn 23 = .ok (.iload_n 1, 1) := zo_27 (by decide +kernel)
theorem dX6_turn_24 : decode cX6_turn 24 = .ok (.iaload, 1) := zo_46 (by decide +kernel)
theorem dX6_turn_25 : decode cX6_turn 25 = .ok (.istore_n 3, 1) := zo_62 (by decide +kernel)
theorem dX6_turn_26 : decode cX6_turn 26 = .ok (.aload_n 0, 1) := zo_42 (by decide +kernel)
theorem dX6_turn_27 : decode cX6_turn 27 = .ok (.getfield 18, 3) := zo_180 (by decide +kernel)
theorem dX6_turn_30 : decode cX6_turn 30 = .ok (.iload_n 1, 1) := zo_27 (by decide +kernel)
theorem dX6_turn_31 : decode cX6_turn 31 = .ok (.iaload, 1) := zo_46 (by decide +kernel)
theorem dX6_turn_32 : decode cX6_turn 32 = .ok (.istore 4, 2) := zo_54 (by decide +kernel)
theorem dX6_turn_34 : decode cX6_turn 34 = .ok (.iconst 0, 1) := zo_3 (by decide +kernel)
theorem dX6_turn_35 : decode cX6_turn 35 = .ok (.istore 5, 2) := zo_54 (by decide +kernel)
theorem dX6_turn_37 : decode cX6_turn 37 = .ok (.iload 5, 2) := zo_21 (by decide +kernel)
theorem dX6_turn_39 : decode cX6_turn 39 = .ok (.iload_n 2, 1) := zo_28 (by decide +kernel)
theorem dX6_turn_40 : decode cX6_turn 40 = .ok (.if_icmp .ge 47, 3) := zo_162 (by decide +kernel)
theorem dX6_turn_43 : decode cX6_turn 43 = .ok (.iload 4, 2) := zo_21 (by decide +kernel)
theorem dX6_turn_45 : decode cX6_turn 45 = .ok (.iconst 1, 1) := zo_4 (by decide +kernel)
theorem dX6_turn_46 : decode cX6_turn 46 = .ok (.iadd, 1) := zo_96 (by decide +kernel)
theorem dX6_turn_47 : decode cX6_turn 47 = .ok (.iload_n 2, 1) := zo_28 (by decide +kernel)
theorem dX6_turn_48 : decode cX6_turn 48 = .ok (.if_icmp .ge 10, 3) := zo_162 (by decide +kernel)
theorem dX6_turn_51 : decode cX6_turn 51 = .ok (.iload 4, 2) := zo_21 (by decide +kernel)
theorem dX6_turn_53 : decode cX6_turn 53 = .ok (.iconst 1, 1) := zo_4 (by decide +kernel)
theorem dX6_turn_54 : decode cX6_turn 54 = .ok (.iadd, 1) := zo_96 (by decide +kernel)
theorem dX6_turn_55 : decode cX6_turn 55 = .ok (.goto 4, 3) := zo_167 (by decide +kernel)
theorem dX6_turn_58 : decode cX6_turn 58 = .ok (.iconst 0, 1) := zo_3 (by decide +kernel)
theorem dX6_turn_59 : decode cX6_turn 59 = .ok (.istore 4, 2) := zo_54 (by decide +kernel)
theorem dX6_turn_61 : decode cX6_turn 61 = .ok (.iload_n 3, 1) := zo_29 (by decide +kernel)
theorem dX6_turn_62 : decode cX6_turn 62 = .ok (.iload 4, 2) := zo_21 (by decide +kernel)
theorem dX6_turn_64 : decode cX6_turn 64 = .ok (.ishr, 1) := zo_122 (by decide +kernel)
theorem dX6_turn_65 : decode cX6_turn 65 = .ok (.iconst 1, 1) := zo_4 (by decide +kernel)
theorem dX6_turn_66 : decode cX6_turn 66 = .ok (.iand, 1) := zo_126 (by decide +kernel)
theorem dX6_turn_67 : decode cX6_turn 67 = .ok (.ifCond .ne 14, 3) := zo_154 (by decide +kernel)
theorem dX6_turn_70 : decode cX6_turn 70 = .ok (.aload_n 0, 1) := zo_42 (by decide +kernel)
theorem dX6_turn_71 : decode cX6_turn 71 = .ok (.getfield 18, 3) := zo_180 (by decide +kernel)
theorem dX6_turn_74 : decode cX6_turn 74 = .ok (.iload_n 1, 1) := zo_27 (by decide +kernel)
theorem dX6_turn_75 : decode cX6_turn 75 = .ok (.iload 4, 2) := zo_21 (by decide +kernel)
theorem dX6_turn_77 : decode cX6_turn 77 = .ok (.iastore, 1) := zo_79 (by decide +kernel)
theorem dX6_turn_78 : decode cX6_turn 78 = .ok (.iload 4, 2) := zo_21 (by decide +kernel)
theorem dX6_turn_80 : decode cX6_turn 80 = .ok (.ireturn, 1) := zo_172 (by decide +kernel)
theorem dX6_turn_81 : decode cX6_turn 81 = .ok (.iinc 5 1, 3) := zo_132 (by decide +kernel)
theorem dX6_turn_84 : decode cX6_turn 84 = .ok (.goto (-47), 3) := zo_167 (by decide +kernel)
theorem dX6_turn_87 : decode cX6_turn 87 = .ok (.iconst (-1), 1) := zo_2 (by decide +kernel)
theorem dX6_turn_88 : decode cX6_turn 88 = .ok (.ireturn, 1) := zo_172 (by decide +kernel)
theorem dX6_step_0 : decode cX6_step 0 = .ok (.aload_n 0, 1) := zo_42 (by decide +kernel)
theorem dX6_step_1 : decode cX6_step 1 = .ok (.iload_n 1, 1) := zo_27 (by decide +kernel)
theorem dX6_step_2 : decode cX6_step 2 = .ok (.invokevirtual 43, 3) := zo_182 (by decide +kernel)
theorem dX6_step_5 : decode cX6_step 5 = .ok (.istore_n 2, 1) := zo_61 (by decide +kernel)
theorem dX6_step_6 : decode cX6_step 6 = .ok (.iload_n 1, 1) := zo_27 (by decide +kernel)
theorem dX6_step_7 : decode cX6_step 7 = .ok (.iconst 4, 1) := zo_7 (by decide +kernel)
theorem dX6_step_8 : decode cX6_step 8 = .ok (.imul, 1) := zo_104 (by decide +kernel)
theorem dX6_step_9 : decode cX6_step 9 = .ok (.iload_n 2, 1) := zo_28 (by decide +kernel)
theorem dX6_step_10 : decode cX6_step 10 = .ok (.iadd, 1) := zo_96 (by decide +kernel)
theorem dX6_step_11 : decode cX6_step 11 = .ok (.istore_n 3, 1) := zo_62 (by decide +kernel)
theorem dX6_step_12 : decode cX6_step 12 = .ok (.iload_n 2, 1) := zo_28 (by decide +kernel)
theorem dX6_step_13 : decode cX6_step 13 = .ok (.ifCond .lt 21, 3) := zo_155 (by decide +kernel)
theorem dX6_step_16 : decode cX6_step 16 = .ok (.iload_n 3, 1) := zo_29 (by decide +kernel)
theorem dX6_step_17 : decode cX6_step 17 = .ok (.bipush 28, 2) := zo_16 (by decide +kernel)
theorem dX6_step_19 : decode cX6_step 19 = .ok (.if_icmp .ge 15, 3) := zo_162 (by decide +kernel)
theorem dX6_step_22 : decode cX6_step 22 = .ok (.aload_n 0, 1) := zo_42 (by decide +kernel)
theorem dX6_step_23 : decode cX6_step 23 = .ok (.getfield 12, 3) := zo_180 (by decide +kernel)
theorem dX6_step_26 : decode cX6_step 26 = .ok (.getfield 46, 3) := zo_180 (by decide +kernel)
theorem dX6_step_29 : decode cX6_step 29 = .ok (.iload_n 3, 1) := zo_29 (by decide +kernel)
theorem dX6_step_30 : decode cX6_step 30 = .ok (.iaload, 1) := zo_46 (by decide +kernel)
theorem dX6_step_31 : decode cX6_step 31 = .ok (.goto 4, 3) := zo_167 (by decide +kernel)
theorem dX6_step_34 : decode cX6_step 34 = .ok (.iconst (-1), 1) := zo_2 (by decide +kernel)
theorem dX6_step_35 : decode cX6_step 35 = .ok (.ireturn, 1) := zo_172 (by decide +kernel)
theorem dX6_run_0 : decode cX6_run 0 = .ok (.aload_n 0, 1) := zo_42 (by decide +kernel)
theorem dX6_run_1 : decode cX6_run 1 = .ok (.iload_n 1, 1) := zo_27 (by decide +kernel)
theorem dX6_run_2 : decode cX6_run 2 = .ok (.putfield 32, 3) := zo_181 (by decide +kernel)
theorem dX6_run_5 : decode cX6_run 5 = .ok (.aload_n 0, 1) := zo_42 (by decide +kernel)
theorem dX6_run_6 : decode cX6_run 6 = .ok (.iconst 0, 1) := zo_3 (by decide +kernel)
theorem dX6_run_7 : decode cX6_run 7 = .ok (.putfield 28, 3) := zo_181 (by decide +kernel)
theorem dX6_run_10 : decode cX6_run 10 = .ok (.iconst 0, 1) := zo_3 (by decide +kernel)
theorem dX6_run_11 : decode cX6_run 11 = .ok (.istore_n 2, 1) := zo_61 (by decide +kernel)
theorem dX6_run_12 : decode cX6_run 12 = .ok (.iload_n 2, 1) := zo_28 (by decide +kernel)
theorem dX6_run_13 : decode cX6_run 13 = .ok (.sipush 499, 3) := zo_17 (by decide +kernel)
theorem dX6_run_16 : decode cX6_run 16 = .ok (.if_icmp .ge 39, 3) := zo_162 (by decide +kernel)
theorem dX6_run_19 : decode cX6_run 19 = .ok (.aload_n 0, 1) := zo_42 (by decide +kernel)
theorem dX6_run_20 : decode cX6_run 20 = .ok (.aload_n 0, 1) := zo_42 (by decide +kernel)
theorem dX6_run_21 : decode cX6_run 21 = .ok (.getfield 32, 3) := zo_180 (by decide +kernel)
theorem dX6_run_24 : decode cX6_run 24 = .ok (.invokevirtual 49, 3) := zo_182 (by decide +kernel)
theorem dX6_run_27 : decode cX6_run 27 = .ok (.istore_n 3, 1) := zo_62 (by decide +kernel)
theorem dX6_run_28 : decode cX6_run 28 = .ok (.iload_n 3, 1) := zo_29 (by decide +kernel)
theorem dX6_run_29 : decode cX6_run 29 = .ok (.iconst (-1), 1) := zo_2 (by decide +kernel)
theorem dX6_run_30 : decode cX6_run 30 = .ok (.if_icmp .ne 4, 3) := zo_160 (by decide +kernel)
theorem dX6_run_33 : decode cX6_run 33 = .ok (.return_, 1) := zo_177 (by decide +kernel)
theorem dX6_run_34 : decode cX6_run 34 = .ok (.aload_n 0, 1) := zo_42 (by decide +kernel)
theorem dX6_run_35 : decode cX6_run 35 = .ok (.iload_n 3, 1) := zo_29 (by decide +kernel)
theorem dX6_run_36 : decode cX6_run 36 = .ok (.putfield 32, 3) := zo_181 (by decide +kernel)
theorem dX6_run_39 : decode cX6_run 39 = .ok (.aload_n 0, 1) := zo_42 (by decide +kernel)
theorem dX6_run_40 : decode cX6_run 40 = .ok (.dup, 1) := zo_89 (by decide +kernel)
theorem dX6_run_41 : decode cX6_run 41 = .ok (.getfield 28, 3) := zo_180 (by decide +kernel)
theorem dX6_run_44 : decode cX6_run 44 = .ok (.iconst 1, 1) := zo_4 (by decide +kernel)
theorem dX6_run_45 : decode cX6_run 45 = .ok (.iadd, 1) := zo_96 (by decide +kernel)
theorem dX6_run_46 : decode cX6_run 46 = .ok (.putfield 28, 3) := zo_181 (by decide +kernel)
theorem dX6_run_49 : decode cX6_run 49 = .ok (.iinc 2 1, 3) := zo_132 (by decide +kernel)
theorem dX6_run_52 : decode cX6_run 52 = .ok (.goto (-40), 3) := zo_167 (by decide +kernel)
theorem dX6_run_55 : decode cX6_run 55 = .ok (.return_, 1) := zo_177 (by decide +kernel)
theorem dX6_code_0 : decode cX6_code 0 = .ok (.iconst 0, 1) := zo_3 (by decide +kernel)
theorem dX6_code_1 : decode cX6_code 1 = .ok (.istore_n 1, 1) := zo_60 (by decide +kernel)
theorem dX6_code_2 : decode cX6_code 2 = .ok (.iconst 0, 1) := zo_3 (by decide +kernel)
theorem dX6_code_3 : decode cX6_code 3 = .ok (.istore_n 2, 1) := zo_61 (by decide +kernel)
theorem dX6_code_4 : decode cX6_code 4 = .ok (.iload_n 2, 1) := zo_28 (by decide +kernel)
theorem dX6_code_5 : decode cX6_code 5 = .ok (.bipush 7, 2) := zo_16 (by decide +kernel)
theorem dX6_code_7 : decode cX6_code 7 = .ok (.if_icmp .ge 20, 3) := zo_162 (by decide +kernel)
theorem dX6_code_10 : decode cX6_code 10 = .ok (.iload_n 1, 1) := zo_27 (by decide +kernel)
theorem dX6_code_11 : decode cX6_code 11 = .ok (.iconst 4, 1) := zo_7 (by decide +kernel)
theorem dX6_code_12 : decode cX6_code 12 = .ok (.imul, 1) := zo_104 (by decide +kernel)
theorem dX6_code_13 : decode cX6_code 13 = .ok (.aload_n 0, 1) := zo_42 (by decide +kernel)
theorem dX6_code_14 : decode cX6_code 14 = .ok (.getfield 18, 3) := zo_180 (by decide +kernel)
theorem dX6_code_17 : decode cX6_code 17 = .ok (.iload_n 2, 1) := zo_28 (by decide +kernel)
theorem dX6_code_18 : decode cX6_code 18 = .ok (.iaload, 1) := zo_46 (by decide +kernel)
theorem dX6_code_19 : decode cX6_code 19 = .ok (.iadd, 1) := zo_96 (by decide +kernel)
theorem dX6_code_20 : decode cX6_code 20 = .ok (.istore_n 1, 1) := zo_60 (by decide +kernel)
theorem dX6_code_21 : decode cX6_code 21 = .ok (.iinc 2 1, 3) := zo_132 (by decide +kernel)
theorem dX6_code_24 : decode cX6_code 24 = .ok (.goto (-20), 3) := zo_167 (by decide +kernel)
theorem dX6_code_27 : decode cX6_code 27 = .ok (.iload_n 1, 1) := zo_27 (by decide +kernel)
theorem dX6_code_28 : decode cX6_code 28 = .ok (.ireturn, 1) := zo_172 (by decide +kernel)
def zNext (roads r : Int32) : Int32 := if r + 1 < roads then r + 1 else 0
def zTurnR (roads closed : Int32) : Nat → Int32 → Int32
  | 0, _ => -1
  | n + 1, r => if zBit closed (zNext roads r) = 0 then zNext roads r else zTurnR roads closed n (zNext roads r)
def zTurn (f1 f2 f3 : Nat → Int32) (x : Int32) : Int32 := if 0 ≤ x.toInt ∧ x.toInt < 7 then zTurnR (f3 x.toNatClampNeg) (f2 x.toNatClampNeg) (f3 x.toNatClampNeg).toNatClampNeg (f1 x.toNatClampNeg) else -1
def zPost (f1 f2 f3 : Nat → Int32) (x : Int32) : Nat → Int32 := if zTurn f1 f2 f3 x = -1 then f1 else upd f1 x.toNatClampNeg (zTurn f1 f2 f3 x)
/-- as many ways out as may be; a post points nowhere far -/
def zP3 (f1 f3 : Nat → Int32) : Prop := ∀ j, j < 7 → (0 ≤ (f3 j).toInt ∧ (f3 j).toInt ≤ 4) ∧ 0 ≤ (f1 j).toInt ∧ (f1 j).toInt ≤ 1000
theorem zTurnR_in {roads closed : Int32} (h0 : 0 ≤ roads.toInt) (h4 : roads.toInt ≤ 4) : ∀ (n : Nat) (r : Int32), (n : Int) ≤ roads.toInt → 0 ≤ r.toInt → r.toInt ≤ 1000 → zTurnR roads closed n r = -1 ∨ (0 ≤ (zTurnR roads closed n r).toInt ∧ (zTurnR roads closed n r).toInt ≤ 3)
  | 0, r, _, _, _ => Or.inl rfl
  | n + 1, r, hn, h1, h2 => by
    have e : (r + 1).toInt = r.toInt + 1 := z_iaddI (by show -2147483648 ≤ r.toInt + 1; omega) (by show r.toInt + 1 < 2147483648; omega)
    have hq : 0 ≤ (zNext roads r).toInt ∧ (zNext roads r).toInt ≤ 3 := by
      unfold zNext
      by_cases hc : r + 1 < roads
      · rw [if_pos hc]
        have hc2 := (fa_lt _ _).mp hc
        omega
      · rw [if_neg hc]
        exact ⟨by decide, by decide⟩
    rw [zTurnR]
    by_cases hb : zBit closed (zNext roads r) = 0
    · rw [if_pos hb]
      exact Or.inr hq
    · rw [if_neg hb]
      exact zTurnR_in h0 h4 n _ (by omega) hq.1 (by omega)
theorem zTurn_in {f1 f2 f3 : Nat → Int32} (hI : zP3 f1 f3) (x : Int32) : zTurn f1 f2 f3 x = -1 ∨ (0 ≤ x.toInt ∧ x.toInt < 7 ∧ 0 ≤ (zTurn f1 f2 f3 x).toInt ∧ (zTurn f1 f2 f3 x).toInt ≤ 3) := by
  unfold zTurn
  split
  · rename_i q
    have e := z_clI q.1
    have h := hI x.toNatClampNeg (by omega)
    have e2 := z_clI h.1.1
    rcases zTurnR_in (closed := f2 x.toNatClampNeg) h.1.1 h.1.2 (f3 x.toNatClampNeg).toNatClampNeg (f1 x.toNatClampNeg) (by omega) h.2.1 h.2.2 with g | g
    · exact Or.inl g
    · exact Or.inr ⟨q.1, q.2, g.1, g.2⟩
  · exact Or.inl rfl
theorem zPost_I {f1 f2 f3 : Nat → Int32} (hI : zP3 f1 f3) (x : Int32) : zP3 (zPost f1 f2 f3 x) f3 := by
  unfold zPost
  split
  · exact hI
  · rename_i q
    rcases zTurn_in (f2 := f2) hI x with g | g
    · exact absurd g q
    · intro j hj
      refine ⟨(hI j hj).1, ?_⟩
      unfold upd
      split
      · exact ⟨g.2.2.1, by omega⟩
      · exact (hI j hj).2
def zStep (f1 f2 f3 lf : Nat → Int32) (x : Int32) : Int32 := if zTurn f1 f2 f3 x = -1 then -1 else lf (4 * x.toNatClampNeg + (zTurn f1 f2 f3 x).toNatClampNeg)
theorem zStep_in {f1 f2 f3 lf : Nat → Int32} (hI : zP3 f1 f3) {x : Int32} (h : ¬ zStep f1 f2 f3 lf x = -1) : 0 ≤ x.toInt ∧ x.toInt < 7 ∧ zTurn f1 f2 f3 x ≠ -1 := by
  unfold zStep at h
  split at h
  · exact absurd rfl h
  · rename_i q
    rcases zTurn_in (f2 := f2) hI x with g | g
    · exact absurd g q
    · exact ⟨g.1, g.2.1, q⟩
/-- posts, where one is, how many steps: as many steps as may be -/
def zRunN (f2 f3 lf : Nat → Int32) : Nat → (Nat → Int32) → Int32 → Nat → (Nat → Int32) × Int32 × Nat
  | 0, f, x, k => (f, x, k)
  | n + 1, f, x, k => if zStep f f2 f3 lf x = -1 then (zPost f f2 f3 x, x, k) else zRunN f2 f3 lf n (zPost f f2 f3 x) (zStep f f2 f3 lf x) (k + 1)
theorem zRunN_I {f2 f3 lf : Nat → Int32} : ∀ (n : Nat) (f : Nat → Int32) (x : Int32) (k : Nat), zP3 f f3 → zP3 (zRunN f2 f3 lf n f x k).1 f3
  | 0, f, x, k, h => h
  | n + 1, f, x, k, h => by
    unfold zRunN
    split
    · exact zPost_I h x
    · exact zRunN_I n _ _ _ (zPost_I h x)
def zCode (f : Nat → Int32) : Nat → Int32
  | 0 => 0
  | n + 1 => zCode f n * 4 + f n
def zShut (cr : Int32) (lf1 f2 : Nat → Int32) (x y : Int32) : Nat → Int32 := if 0 ≤ x.toInt ∧ x.toInt < cr.toInt ∧ x.toInt < 7 ∧ 0 ≤ y.toInt ∧ y.toInt < (lf1 x.toNatClampNeg).toInt ∧ y.toInt < 4 then upd f2 x.toNatClampNeg (f2 x.toNatClampNeg ||| 1 <<< (y &&& 31)) else f2
def zOpen (cr : Int32) (lf1 f2 : Nat → Int32) (x y : Int32) : Nat → Int32 := if 0 ≤ x.toInt ∧ x.toInt < cr.toInt ∧ x.toInt < 7 ∧ 0 ≤ y.toInt ∧ y.toInt < (lf1 x.toNatClampNeg).toInt ∧ y.toInt < 4 then upd f2 x.toNatClampNeg (f2 x.toNatClampNeg &&& (1 <<< (y &&& 31) ^^^ (-1))) else f2
set_option maxHeartbeats 4000000 in
set_option maxRecDepth 100000 in
/-- begin -/
theorem c_Posts_begin (l : Launch) (T : zTy) (h : Nat) (la : Nat) (f1 : Nat → Int32) (f2 : Nat → Int32) (f3 : Nat → Int32) (st : Int32) (wh : Int32) (w : va_W) (o : Nat) (cr : Int32) (inn : Int32) (k1 : Nat → Int32) (k2 : Nat → Int32) (k3 : Nat → Int32) (k4 : Nat → Int32) (z : va_W) (hw : bPosts T h la f1 f2 f3 st wh w) (hz : bLand T o cr inn k1 k2 k3 k4 z) : zMv l T yX6_begin cX6_begin 3 3 0 0 [.ref h, .ref o] [w, z] (fun bs => ∃ (w2 : va_W) (g1 : Nat → Int32) (g2 : Nat → Int32) (g3 : Nat → Int32), bs = [w2, z] ∧ bPosts T h o g1 g2 g3 0 0 w2 ∧ (∀ j, j < 7 → g1 j = k3 j) ∧ (∀ j, j < 7 → g2 j = 0) ∧ (∀ j, j < 7 → g3 j = zWays cr inn k1 (nI j))) := by
  refine zMv_of (own := RX6) (by decide) rfl (Nat.le_of_ble_eq_true rfl) ?_
  intro p e s m args below meth c A ls C hr hlocks hnm hAe G hl
  refine zHide (fun Qz_ hQz_ => ?_)
  have hx := C.1
  have hb := C.2.1
  have hl : lv_has ls 3 [(0, .ref h), (1, .ref o)] := hl
  refine lv_aload_n hx hb dX6_begin_0 rfl (lv_at hl 0 rfl) ?_
  refine lv_aload_n hx hb dX6_begin_1 rfl (lv_at hl 1 rfl) ?_
  refine zEx3 hw ?_
  intro a1_1 a2_2 a3_3 hbs9
  clear hw
  subst hbs9
  have G : zS T A s.heap s [[zO6 h la a1_1 a2_2 st wh a3_3], [zAr T 0 a1_1 7 f1], [zAr T 0 a2_2 7 f2], [zAr T 0 a3_3 7 f3], z] _ _ := G.re rfl
  refine z_put C G clX6 0 rfl 0 (by decide) m_fl_RX6_12 rfl rfl rfl (Nat.le_of_ble_eq_true rfl) dX6_begin_2 (fun H locs G => ?_)
  have G : zS T A s.heap s [[zO6 h o a1_1 a2_2 st wh a3_3], [zAr T 0 a1_1 7 f1], [zAr T 0 a2_2 7 f2], [zAr T 0 a3_3 7 f3], z] _ _ := G
  refine lv_aload_n hx hb dX6_begin_5 rfl (lv_at hl 0 rfl) ?_
  refine lv_iconst (v := 0) hx hb dX6_begin_6 (by decide) ?_
  refine z_put C G clX6 0 rfl 3 (by decide) m_fl_RX6_28 rfl rfl rfl (Nat.le_of_ble_eq_true rfl) dX6_begin_7 (fun H locs G => ?_)
  have G : zS T A s.heap s [[zO6 h o a1_1 a2_2 0 wh a3_3], [zAr T 0 a1_1 7 f1], [zAr T 0 a2_2 7 f2], [zAr T 0 a3_3 7 f3], z] _ _ := G
  refine lv_aload_n hx hb dX6_begin_10 rfl (lv_at hl 0 rfl) ?_
  refine lv_iconst (v := 0) hx hb dX6_begin_11 (by decide) ?_
  refine z_put C G clX6 0 rfl 4 (by decide) m_fl_RX6_32 rfl rfl rfl (Nat.le_of_ble_eq_true rfl) dX6_begin_12 (fun H locs G => ?_)
  have G : zS T A s.heap s [[zO6 h o a1_1 a2_2 0 0 a3_3], [zAr T 0 a1_1 7 f1], [zAr T 0 a2_2 7 f2], [zAr T 0 a3_3 7 f3], z] _ _ := G
  refine lv_iconst (v := 0) hx hb dX6_begin_15 (by decide) ?_
  refine lv_istore_n (lv' := [(2, .int 0), (0, .ref h), (1, .ref o)]) hx hb dX6_begin_16 rfl hl (by decide) (zLvf_h rfl) (fun ls hl => ?_)
  refine zEx4 hz ?_
  intro a1_4 a2_5 a3_6 a4_7 hbs9
  clear hz
  subst hbs9
  have G : zS T A s.heap s [[zO6 h o a1_1 a2_2 0 0 a3_3], [zAr T 0 a1_1 7 f1], [zAr T 0 a2_2 7 f2], [zAr T 0 a3_3 7 f3], [zO4 o cr inn a1_4 a2_5 a3_6 a4_7], [zAr T 0 a1_4 7 k1], [zAr T 0 a2_5 28 k2], [zAr T 0 a3_6 7 k3], [zAr T 0 a4_7 7 k4]] _ _ := G.re rfl
  have hw_8 : bPosts T h o f1 f2 f3 0 0 [zO6 h o a1_1 a2_2 0 0 a3_3, zAr T 0 a1_1 7 f1, zAr T 0 a2_2 7 f2, zAr T 0 a3_3 7 f3] := ⟨a1_1, a2_2, a3_3, rfl⟩
  have G : zS T A s.heap s [[zO6 h o a1_1 a2_2 0 0 a3_3, zAr T 0 a1_1 7 f1, zAr T 0 a2_2 7 f2, zAr T 0 a3_3 7 f3], [zO4 o cr inn a1_4 a2_5 a3_6 a4_7], [zAr T 0 a1_4 7 k1], [zAr T 0 a2_5 28 k2], [zAr T 0 a3_6 7 k3], [zAr T 0 a4_7 7 k4]] _ _ := G.re rfl
  have hw_9 : bLand T o cr inn k1 k2 k3 k4 [zO4 o cr inn a1_4 a2_5 a3_6 a4_7, zAr T 0 a1_4 7 k1, zAr T 0 a2_5 28 k2, zAr T 0 a3_6 7 k3, zAr T 0 a4_7 7 k4] := ⟨a1_4, a2_5, a3_6, a4_7, rfl⟩
  have G : zS T A s.heap s [[zO6 h o a1_1 a2_2 0 0 a3_3, zAr T 0 a1_1 7 f1, zAr T 0 a2_2 7 f2, zAr T 0 a3_3 7 f3], [zO4 o cr inn a1_4 a2_5 a3_6 a4_7, zAr T 0 a1_4 7 k1, zAr T 0 a2_5 28 k2, zAr T 0 a3_6 7 k3, zAr T 0 a4_7 7 k4]] _ _ := G.re rfl
  refine z_lp5 (T := T) 17 (fun (i : Nat) (wq : va_W) (x1 : Nat → Int32) (x2 : Nat → Int32) (x3 : Nat → Int32) => [wq, [zO4 o cr inn a1_4 a2_5 a3_6 a4_7, zAr T 0 a1_4 7 k1, zAr T 0 a2_5 28 k2, zAr T 0 a3_6 7 k3, zAr T 0 a4_7 7 k4]]) (fun (i : Nat) (wq : va_W) (x1 : Nat → Int32) (x2 : Nat → Int32) (x3 : Nat → Int32) => [(2, .int (nI i)), (0, .ref h), (1, .ref o)]) (fun (i : Nat) (wq : va_W) (x1 : Nat → Int32) (x2 : Nat → Int32) (x3 : Nat → Int32) => bPosts T h o x1 x2 x3 0 0 wq ∧ i ≤ 7 ∧ (∀ j, j < i → x1 j = k3 j) ∧ (∀ j, j < i → x2 j = 0) ∧ (∀ j, j < i → x3 j = zWays cr inn k1 (nI j))) (fun (i : Nat) (wq : va_W) (x1 : Nat → Int32) (x2 : Nat → Int32) (x3 : Nat → Int32) => 7 - i) ?_ 0 ([zO6 h o a1_1 a2_2 0 0 a3_3, zAr T 0 a1_1 7 f1, zAr T 0 a2_2 7 f2, zAr T 0 a3_3 7 f3]) f1 f2 f3 (show bPosts T h o f1 f2 f3 0 0 ([zO6 h o a1_1 a2_2 0 0 a3_3, zAr T 0 a1_1 7 f1, zAr T 0 a2_2 7 f2, zAr T 0 a3_3 7 f3]) ∧ 0 ≤ 7 ∧ (∀ j, j < 0 → f1 j = k3 j) ∧ (∀ j, j < 0 → f2 j = 0) ∧ (∀ j, j < 0 → f3 j = zWays cr inn k1 (nI j)) from ⟨hw_8, by omega, fun j hj => absurd hj (by omega), fun j hj => absurd hj (by omega), fun j hj => absurd hj (by omega)⟩) G (lv_sub hl [0, 1, 2] rfl)
  intro i wq x1 x2 x3 hI9 ih_17 H locs ls G hl
  replace hI9 : bPosts T h o x1 x2 x3 0 0 wq ∧ i ≤ 7 ∧ (∀ j, j < i → x1 j = k3 j) ∧ (∀ j, j < i → x2 j = 0) ∧ (∀ j, j < i → x3 j = zWays cr inn k1 (nI j)) := hI9
  refine zAn5 hI9 ?_
  intro hq hi hx1 hx2 hx3
  clear hI9
  replace G : zS T A s.heap s [wq, [zO4 o cr inn a1_4 a2_5 a3_6 a4_7, zAr T 0 a1_4 7 k1, zAr T 0 a2_5 28 k2, zAr T 0 a3_6 7 k3, zAr T 0 a4_7 7 k4]] _ _ := G
  replace hl : lv_has ls 3 [(2, .int (nI i)), (0, .ref h), (1, .ref o)] := hl
  refine lv_iload_n hx hb dX6_begin_17 rfl (lv_at hl 0 rfl) ?_
  refine lv_bipush (v := 7) hx hb dX6_begin_18 (by decide) ?_
  refine lv_icmp_ge (tgt := 59) hx hb dX6_begin_20 (by decide) (fun c_10 => ?_) (fun c_10 => ?_)
  · have c_10n : 7 ≤ i := (nI_leI (a := 7) (b := i) (by omega) (by omega)).mp c_10
    exact z_back hQz_ (z_vret C hr hlocks G (Nat.le_of_ble_eq_true rfl) (Nat.le_of_ble_eq_true rfl) dX6_begin_59 ⟨wq, x1, x2, x3, rfl, hq, (fun j hj => hx1 j (by omega)), (fun j hj => hx2 j (by omega)), (fun j hj => hx3 j (by omega))⟩)
  · have c_10n : ¬ 7 ≤ i := fun q => c_10 ((nI_leI (a := 7) (b := i) (by omega) (by omega)).mpr q)
    refine lv_aload_n hx hb dX6_begin_23 rfl (lv_at hl 1 rfl) ?_
    refine zEx3 hq ?_
    intro a1_11 a2_12 a3_13 hbs9
    clear hq
    subst hbs9
    have G : zS T A s.heap s [[zO6 h o a1_11 a2_12 0 0 a3_13], [zAr T 0 a1_11 7 x1], [zAr T 0 a2_12 7 x2], [zAr T 0 a3_13 7 x3], [zO4 o cr inn a1_4 a2_5 a3_6 a4_7, zAr T 0 a1_4 7 k1, zAr T 0 a2_5 28 k2, zAr T 0 a3_6 7 k3, zAr T 0 a4_7 7 k4]] _ _ := G.re rfl
    refine z_get C G clX6 0 rfl 1 (by decide) m_fl_RX6_18 rfl dX6_begin_24 ?_
    refine lv_iload_n hx hb dX6_begin_27 rfl (lv_at hl 0 rfl) ?_
    refine lv_aload_n hx hb dX6_begin_28 rfl (lv_at hl 2 rfl) ?_
    have G : zS T A s.heap s [[zO6 h o a1_11 a2_12 0 0 a3_13], [zAr T 0 a1_11 7 x1], [zAr T 0 a2_12 7 x2], [zAr T 0 a3_13 7 x3], [zO4 o cr inn a1_4 a2_5 a3_6 a4_7], [zAr T 0 a1_4 7 k1], [zAr T 0 a2_5 28 k2], [zAr T 0 a3_6 7 k3], [zAr T 0 a4_7 7 k4]] _ _ := G.re rfl
    refine z_get C G clX4 4 rfl 4 (by decide) m_fl_RX6_35 rfl dX6_begin_29 ?_
    refine lv_iload_n hx hb dX6_begin_32 rfl (lv_at hl 0 rfl) ?_
    refine z_ild C G 7 rfl (vp_in_nI (by omega) (by decide)) dX6_begin_33 ?_
    refine lv_topi (fun v_14 ev_14 => ?_)
    rw [nI_clamp (by omega)] at ev_14
    subst ev_14
    refine z_ist C G 1 rfl (vp_in_nI (by omega) (by decide)) dX6_begin_34 (fun H locs G => ?_)
    rw [nI_clamp (by omega)] at G
    have G : zS T A s.heap s [[zO6 h o a1_11 a2_12 0 0 a3_13], [zAr T 0 a1_11 7 (upd x1 i (k3 i))], [zAr T 0 a2_12 7 x2], [zAr T 0 a3_13 7 x3], [zO4 o cr inn a1_4 a2_5 a3_6 a4_7], [zAr T 0 a1_4 7 k1], [zAr T 0 a2_5 28 k2], [zAr T 0 a3_6 7 k3], [zAr T 0 a4_7 7 k4]] _ _ := G
    refine lv_aload_n hx hb dX6_begin_35 rfl (lv_at hl 1 rfl) ?_
    refine z_get C G clX6 0 rfl 2 (by decide) m_fl_RX6_22 rfl dX6_begin_36 ?_
    refine lv_iload_n hx hb dX6_begin_39 rfl (lv_at hl 0 rfl) ?_
    refine lv_iconst (v := 0) hx hb dX6_begin_40 (by decide) ?_
    refine z_ist C G 2 rfl (vp_in_nI (by omega) (by decide)) dX6_begin_41 (fun H locs G => ?_)
    rw [nI_clamp (by omega)] at G
    have G : zS T A s.heap s [[zO6 h o a1_11 a2_12 0 0 a3_13], [zAr T 0 a1_11 7 (upd x1 i (k3 i))], [zAr T 0 a2_12 7 (upd x2 i 0)], [zAr T 0 a3_13 7 x3], [zO4 o cr inn a1_4 a2_5 a3_6 a4_7], [zAr T 0 a1_4 7 k1], [zAr T 0 a2_5 28 k2], [zAr T 0 a3_6 7 k3], [zAr T 0 a4_7 7 k4]] _ _ := G
    refine lv_aload_n hx hb dX6_begin_42 rfl (lv_at hl 1 rfl) ?_
    refine z_get C G clX6 0 rfl 5 (by decide) m_fl_RX6_25 rfl dX6_begin_43 ?_
    refine lv_iload_n hx hb dX6_begin_46 rfl (lv_at hl 0 rfl) ?_
    refine lv_aload_n hx hb dX6_begin_47 rfl (lv_at hl 2 rfl) ?_
    refine lv_iload_n hx hb dX6_begin_48 rfl (lv_at hl 0 rfl) ?_
    have hw_15 : bLand T o cr inn k1 k2 k3 k4 [zO4 o cr inn a1_4 a2_5 a3_6 a4_7, zAr T 0 a1_4 7 k1, zAr T 0 a2_5 28 k2, zAr T 0 a3_6 7 k3, zAr T 0 a4_7 7 k4] := ⟨a1_4, a2_5, a3_6, a4_7, rfl⟩
    have G : zS T A s.heap s [[zO6 h o a1_11 a2_12 0 0 a3_13], [zAr T 0 a1_11 7 (upd x1 i (k3 i))], [zAr T 0 a2_12 7 (upd x2 i 0)], [zAr T 0 a3_13 7 x3], [zO4 o cr inn a1_4 a2_5 a3_6 a4_7, zAr T 0 a1_4 7 k1, zAr T 0 a2_5 28 k2, zAr T 0 a3_6 7 k3, zAr T 0 a4_7 7 k4]] _ _ := G.re rfl
    refine z_Vi (bc := [[zO4 o cr inn a1_4 a2_5 a3_6 a4_7, zAr T 0 a1_4 7 k1, zAr T 0 a2_5 28 k2, zAr T 0 a3_6 7 k3, zAr T 0 a4_7 7 k4]]) (br := [[zO6 h o a1_11 a2_12 0 0 a3_13], [zAr T 0 a1_11 7 (upd x1 i (k3 i))], [zAr T 0 a2_12 7 (upd x2 i 0)], [zAr T 0 a3_13 7 x3]]) (As := [.int (nI i)]) (rest := [.int (nI i), .ref a3_13]) C G (c_waysOut l T o cr inn k1 k2 k3 k4 ([zO4 o cr inn a1_4 a2_5 a3_6 a4_7, zAr T 0 a1_4 7 k1, zAr T 0 a2_5 28 k2, zAr T 0 a3_6 7 k3, zAr T 0 a4_7 7 k4]) (nI i) hw_15) (kV_RX6_36 C.2.2.2.2 (Nat.le_of_ble_eq_true rfl) (Nat.le_of_ble_eq_true rfl)) [4] [4] rfl rfl (ci := 4) (qc := (RX4, TX4, 6)) rfl rfl (List.mem_flatten.mpr ⟨_, List.mem_of_getElem? (i := 0) rfl, (bLand_mem hw_15).choose_spec⟩) rfl rfl hl.1 dX6_begin_49 (Nat.le_of_ble_eq_true rfl) (Nat.le_of_ble_eq_true rfl) (fun r_17 b1 H locs hw G => ?_)
    refine zAn2 hw ?_
    intro hbs9 h_16
    clear hw
    subst hbs9
    have G : zS T A s.heap s [[zO6 h o a1_11 a2_12 0 0 a3_13], [zAr T 0 a1_11 7 (upd x1 i (k3 i))], [zAr T 0 a2_12 7 (upd x2 i 0)], [zAr T 0 a3_13 7 x3], [zO4 o cr inn a1_4 a2_5 a3_6 a4_7, zAr T 0 a1_4 7 k1, zAr T 0 a2_5 28 k2, zAr T 0 a3_6 7 k3, zAr T 0 a4_7 7 k4]] _ _ := G
    subst h_16
    refine z_ist C G 3 rfl (vp_in_nI (by omega) (by decide)) dX6_begin_52 (fun H locs G => ?_)
    rw [nI_clamp (by omega)] at G
    have G : zS T A s.heap s [[zO6 h o a1_11 a2_12 0 0 a3_13], [zAr T 0 a1_11 7 (upd x1 i (k3 i))], [zAr T 0 a2_12 7 (upd x2 i 0)], [zAr T 0 a3_13 7 (upd x3 i (zWays cr inn k1 (nI i)))], [zO4 o cr inn a1_4 a2_5 a3_6 a4_7, zAr T 0 a1_4 7 k1, zAr T 0 a2_5 28 k2, zAr T 0 a3_6 7 k3, zAr T 0 a4_7 7 k4]] _ _ := G
    refine lv_iinc (v := nI (i + 1)) (lv' := [(2, .int (nI (i + 1))), (0, .ref h), (1, .ref o)]) hx hb dX6_begin_53 hl (k := 0) rfl (z_inc i 1) (by decide) (zLvf_h rfl) (fun ls hl => ?_)
    refine lv_goto (tgt := 17) hx hb dX6_begin_56 (by decide) ?_
    have hw_18 : bPosts T h o (upd x1 i (k3 i)) (upd x2 i 0) (upd x3 i (zWays cr inn k1 (nI i))) 0 0 [zO6 h o a1_11 a2_12 0 0 a3_13, zAr T 0 a1_11 7 (upd x1 i (k3 i)), zAr T 0 a2_12 7 (upd x2 i 0), zAr T 0 a3_13 7 (upd x3 i (zWays cr inn k1 (nI i)))] := ⟨a1_11, a2_12, a3_13, rfl⟩
    have G : zS T A s.heap s [[zO6 h o a1_11 a2_12 0 0 a3_13, zAr T 0 a1_11 7 (upd x1 i (k3 i)), zAr T 0 a2_12 7 (upd x2 i 0), zAr T 0 a3_13 7 (upd x3 i (zWays cr inn k1 (nI i)))], [zO4 o cr inn a1_4 a2_5 a3_6 a4_7, zAr T 0 a1_4 7 k1, zAr T 0 a2_5 28 k2, zAr T 0 a3_6 7 k3, zAr T 0 a4_7 7 k4]] _ _ := G.re rfl
    exact ih_17 (i + 1) ([zO6 h o a1_11 a2_12 0 0 a3_13, zAr T 0 a1_11 7 (upd x1 i (k3 i)), zAr T 0 a2_12 7 (upd x2 i 0), zAr T 0 a3_13 7 (upd x3 i (zWays cr inn k1 (nI i)))]) (upd x1 i (k3 i)) (upd x2 i 0) (upd x3 i (zWays cr inn k1 (nI i))) (show bPosts T h o (upd x1 i (k3 i)) (upd x2 i 0) (upd x3 i (zWays cr inn k1 (nI i))) 0 0 ([zO6 h o a1_11 a2_12 0 0 a3_13, zAr T 0 a1_11 7 (upd x1 i (k3 i)), zAr T 0 a2_12 7 (upd x2 i 0), zAr T 0 a3_13 7 (upd x3 i (zWays cr inn k1 (nI i)))]) ∧ (i + 1) ≤ 7 ∧ (∀ j, j < (i + 1) → (upd x1 i (k3 i)) j = k3 j) ∧ (∀ j, j < (i + 1) → (upd x2 i 0) j = 0) ∧ (∀ j, j < (i + 1) → (upd x3 i (zWays cr inn k1 (nI i))) j = zWays cr inn k1 (nI j)) from ⟨hw_18, by omega, z_updE hx1 rfl, z_updE (F := fun _ => 0) hx2 rfl, z_updE (F := fun j => zWays cr inn k1 (nI j)) hx3 rfl⟩) (show 7 - (i + 1) < 7 - i from by omega) _ _ ls G (lv_sub hl [0, 1, 2] rfl)
set_option maxHeartbeats 4000000 in
set_option maxRecDepth 100000 in
/-- isShut -/
theorem c_isShut (l : Launch) (T : zTy) (h : Nat) (la : Nat) (f1 : Nat → Int32) (f2 : Nat → Int32) (f3 : Nat → Int32) (st : Int32) (wh : Int32) (w : va_W) (cr : Int32) (inn : Int32) (k1 : Nat → Int32) (k2 : Nat → Int32) (k3 : Nat → Int32) (k4 : Nat → Int32) (z : va_W) (x : Int32) (y : Int32) (hw : bPosts T h la f1 f2 f3 st wh w) (hz : bLand T la cr inn k1 k2 k3 k4 z) : zMi l T yX6_isShut cX6_isShut 3 (some .boolean) 2 0 0 [.ref h, .int x, .int y] [w, z] (fun (r : Int32) bs => bs = [w, z] ∧ ((r = 1 ∧ 0 ≤ x.toInt ∧ x.toInt < cr.toInt ∧ x.toInt < 7 ∧ 0 ≤ y.toInt ∧ y.toInt < (k1 x.toNatClampNeg).toInt ∧ y.toInt < 4 ∧ ¬ zBit (f2 x.toNatClampNeg) y = 0) ∨ (r = 0 ∧ (x.toInt < 0 ∨ cr.toInt ≤ x.toInt ∨ 7 ≤ x.toInt ∨ y.toInt < 0 ∨ (k1 x.toNatClampNeg).toInt ≤ y.toInt ∨ 4 ≤ y.toInt ∨ zBit (f2 x.toNatClampNeg) y = 0)))) := by
  refine zMi_of (own := RX6) (by decide) rfl (Nat.le_of_ble_eq_true rfl) ?_
  intro p e s m args below meth c A ls C hr hlocks hnm hAe G hl
  refine zHide (fun Qz_ hQz_ => ?_)
  have hx := C.1
  have hb := C.2.1
  have hl : lv_has ls 3 [(0, .ref h), (1, .int x), (2, .int y)] := hl
  refine lv_aload_n hx hb dX6_isShut_0 rfl (lv_at hl 0 rfl) ?_
  refine zEx3 hw ?_
  intro a1_1 a2_2 a3_3 hbs9
  clear hw
  subst hbs9
  have G : zS T A s.heap s [[zO6 h la a1_1 a2_2 st wh a3_3], [zAr T 0 a1_1 7 f1], [zAr T 0 a2_2 7 f2], [zAr T 0 a3_3 7 f3], z] _ _ := G.re rfl
  refine z_get C G clX6 0 rfl 0 (by decide) m_fl_RX6_12 rfl dX6_isShut_1 ?_
  refine lv_iload_n hx hb dX6_isShut_4 rfl (lv_at hl 1 rfl) ?_
  refine lv_iload_n hx hb dX6_isShut_5 rfl (lv_at hl 2 rfl) ?_
  refine z_Vi (bc := [z]) (br := [[zO6 h la a1_1 a2_2 st wh a3_3], [zAr T 0 a1_1 7 f1], [zAr T 0 a2_2 7 f2], [zAr T 0 a3_3 7 f3]]) (As := [.int x, .int y]) (rest := []) C G (c_hasRoad l T la cr inn k1 k2 k3 k4 z x y hz) (kV_RX6_39 C.2.2.2.2 (Nat.le_of_ble_eq_true rfl) (Nat.le_of_ble_eq_true rfl)) [4] [4] rfl rfl (ci := 4) (qc := (RX4, TX4, 6)) rfl rfl (List.mem_flatten.mpr ⟨_, List.mem_of_getElem? (i := 0) rfl, (bLand_mem hz).choose_spec⟩) rfl rfl hl.1 dX6_isShut_6 (Nat.le_of_ble_eq_true rfl) (Nat.le_of_ble_eq_true rfl) (fun r_5 b1 H locs hw G => ?_)
  refine zAn2 hw ?_
  intro hbs9 hc_4
  clear hw
  subst hbs9
  have G : zS T A s.heap s [[zO6 h la a1_1 a2_2 st wh a3_3], [zAr T 0 a1_1 7 f1], [zAr T 0 a2_2 7 f2], [zAr T 0 a3_3 7 f3], z] _ _ := G
  rcases hc_4 with ⟨rfl, h_6, h_7, h_8, h_9, h_10, h_11⟩ | ⟨rfl, h_12⟩
  · have h_6 : 0 ≤ x.toInt := h_6
    have h_7 : x.toInt < cr.toInt := h_7
    have h_8 : x.toInt < 7 := h_8
    have h_9 : 0 ≤ y.toInt := h_9
    have h_10 : y.toInt < (k1 x.toNatClampNeg).toInt := h_10
    have h_11 : y.toInt < 4 := h_11
    refine lv_if_eq (tgt := 29) hx hb dX6_isShut_9 (by decide) (fun q => absurd q (by decide)) (fun _ => ?_)
    refine lv_aload_n hx hb dX6_isShut_12 rfl (lv_at hl 0 rfl) ?_
    refine z_get C G clX6 0 rfl 2 (by decide) m_fl_RX6_22 rfl dX6_isShut_13 ?_
    refine lv_iload_n hx hb dX6_isShut_16 rfl (lv_at hl 1 rfl) ?_
    refine z_ild C G 2 rfl (vp_in_iff.mpr ⟨by omega, by omega⟩) dX6_isShut_17 ?_
    refine lv_topi (fun v_13 ev_13 => ?_)
    subst ev_13
    refine lv_iload_n hx hb dX6_isShut_18 rfl (lv_at hl 2 rfl) ?_
    refine lv_ishr hx hb dX6_isShut_19 ?_
    refine lv_iconst (v := 1) hx hb dX6_isShut_20 (by decide) ?_
    refine lv_iand hx hb dX6_isShut_21 ?_
    refine lv_if_eq (tgt := 29) hx hb dX6_isShut_22 (by decide) (fun c_14 => ?_) (fun c_14 => ?_)
    · have c_14n : (((f2 x.toNatClampNeg) >>> (y &&& 31)) &&& 1).toInt = (0 : Int) := (fa_eq _ _).mp c_14
      refine lv_iconst (v := 0) hx hb dX6_isShut_29 (by decide) ?_
      have hw_15 : bPosts T h la f1 f2 f3 st wh [zO6 h la a1_1 a2_2 st wh a3_3, zAr T 0 a1_1 7 f1, zAr T 0 a2_2 7 f2, zAr T 0 a3_3 7 f3] := ⟨a1_1, a2_2, a3_3, rfl⟩
      have G : zS T A s.heap s [[zO6 h la a1_1 a2_2 st wh a3_3, zAr T 0 a1_1 7 f1, zAr T 0 a2_2 7 f2, zAr T 0 a3_3 7 f3], z] _ _ := G.re rfl
      exact z_back hQz_ (z_zret C hr hlocks G (Nat.le_of_ble_eq_true rfl) (Nat.le_of_ble_eq_true rfl) dX6_isShut_30 rfl ⟨rfl, (Or.inr (⟨rfl, (by first | exact Or.inr (Or.inr (Or.inr (Or.inr (Or.inr (Or.inr (by first | with_reducible assumption | assumption)))))) | omega)⟩))⟩)
    · have c_14n : ¬ (((f2 x.toNatClampNeg) >>> (y &&& 31)) &&& 1).toInt = (0 : Int) := fun q => c_14 ((fa_eq _ _).mpr q)
      refine lv_iconst (v := 1) hx hb dX6_isShut_25 (by decide) ?_
      refine lv_goto (tgt := 30) hx hb dX6_isShut_26 (by decide) ?_
      have hw_16 : bPosts T h la f1 f2 f3 st wh [zO6 h la a1_1 a2_2 st wh a3_3, zAr T 0 a1_1 7 f1, zAr T 0 a2_2 7 f2, zAr T 0 a3_3 7 f3] := ⟨a1_1, a2_2, a3_3, rfl⟩
      have G : zS T A s.heap s [[zO6 h la a1_1 a2_2 st wh a3_3, zAr T 0 a1_1 7 f1, zAr T 0 a2_2 7 f2, zAr T 0 a3_3 7 f3], z] _ _ := G.re rfl
      exact z_back hQz_ (z_zret C hr hlocks G (Nat.le_of_ble_eq_true rfl) (Nat.le_of_ble_eq_true rfl) dX6_isShut_30 rfl ⟨rfl, (Or.inl (⟨rfl, (by first | with_reducible assumption | omega | assumption), (by first | with_reducible assumption | omega | assumption), (by first | with_reducible assumption | omega | assumption), (by first | with_reducible assumption | omega | assumption), (by first | with_reducible assumption | omega | assumption), (by first | with_reducible assumption | omega | assumption), (by first | with_reducible assumption | omega | assumption)⟩))⟩)
  · have h_12 : (x.toInt < 0 ∨ cr.toInt ≤ x.toInt ∨ 7 ≤ x.toInt ∨ y.toInt < 0 ∨ (k1 x.toNatClampNeg).toInt ≤ y.toInt ∨ 4 ≤ y.toInt) := h_12
    refine lv_if_eq (tgt := 29) hx hb dX6_isShut_9 (by decide) (fun _ => ?_) (fun q => absurd (by decide) q)
    refine lv_iconst (v := 0) hx hb dX6_isShut_29 (by decide) ?_
    have hw_17 : bPosts T h la f1 f2 f3 st wh [zO6 h la a1_1 a2_2 st wh a3_3, zAr T 0 a1_1 7 f1, zAr T 0 a2_2 7 f2, zAr T 0 a3_3 7 f3] := ⟨a1_1, a2_2, a3_3, rfl⟩
    have G : zS T A s.heap s [[zO6 h la a1_1 a2_2 st wh a3_3, zAr T 0 a1_1 7 f1, zAr T 0 a2_2 7 f2, zAr T 0 a3_3 7 f3], z] _ _ := G.re rfl
    exact z_back hQz_ (z_zret C hr hlocks G (Nat.le_of_ble_eq_true rfl) (Nat.le_of_ble_eq_true rfl) dX6_isShut_30 rfl ⟨rfl, (Or.inr (⟨rfl, (by first | exact Or.inr (Or.inr (Or.inr (Or.inr (Or.inr (Or.inr (by first | with_reducible assumption | assumption)))))) | omega)⟩))⟩)
set_option maxHeartbeats 4000000 in
set_option maxRecDepth 100000 in
/-- c_shutRoad -/
theorem c_shutRoad (l : Launch) (T : zTy) (h : Nat) (la : Nat) (f1 : Nat → Int32) (f2 : Nat → Int32) (f3 : Nat → Int32) (st : Int32) (wh : Int32) (w : va_W) (cr : Int32) (inn : Int32) (k1 : Nat → Int32) (k2 : Nat → Int32) (k3 : Nat → Int32) (k4 : Nat → Int32) (z : va_W) (x : Int32) (y : Int32) (hw : bPosts T h la f1 f2 f3 st wh w) (hz : bLand T la cr inn k1 k2 k3 k4 z) : zMv l T yX6_shutRoad cX6_shutRoad 3 2 0 0 [.ref h, .int x, .int y] [w, z] (fun bs => ∃ (w2 : va_W) (g2 : Nat → Int32), bs = [w2, z] ∧ bPosts T h la f1 g2 f3 st wh w2 ∧ g2 = zShut cr k1 f2 x y) := by
  refine zMv_of (own := RX6) (by decide) rfl (Nat.le_of_ble_eq_true rfl) ?_
  intro p e s m args below meth c A ls C hr hlocks hnm hAe G hl
  refine zHide (fun Qz_ hQz_ => ?_)
  have hx := C.1
  have hb := C.2.1
  have hl : lv_has ls 3 [(0, .ref h), (1, .int x), (2, .int y)] := hl
  refine lv_aload_n hx hb dX6_shutRoad_0 rfl (lv_at hl 0 rfl) ?_
  refine zEx3 hw ?_
  intro a1_1 a2_2 a3_3 hbs9
  clear hw
  subst hbs9
  have G : zS T A s.heap s [[zO6 h la a1_1 a2_2 st wh a3_3], [zAr T 0 a1_1 7 f1], [zAr T 0 a2_2 7 f2], [zAr T 0 a3_3 7 f3], z] _ _ := G.re rfl
  refine z_get C G clX6 0 rfl 0 (by decide) m_fl_RX6_12 rfl dX6_shutRoad_1 ?_
  refine lv_iload_n hx hb dX6_shutRoad_4 rfl (lv_at hl 1 rfl) ?_
  refine lv_iload_n hx hb dX6_shutRoad_5 rfl (lv_at hl 2 rfl) ?_
  refine z_Vi (bc := [z]) (br := [[zO6 h la a1_1 a2_2 st wh a3_3], [zAr T 0 a1_1 7 f1], [zAr T 0 a2_2 7 f2], [zAr T 0 a3_3 7 f3]]) (As := [.int x, .int y]) (rest := []) C G (c_hasRoad l T la cr inn k1 k2 k3 k4 z x y hz) (kV_RX6_39 C.2.2.2.2 (Nat.le_of_ble_eq_true rfl) (Nat.le_of_ble_eq_true rfl)) [4] [4] rfl rfl (ci := 4) (qc := (RX4, TX4, 6)) rfl rfl (List.mem_flatten.mpr ⟨_, List.mem_of_getElem? (i := 0) rfl, (bLand_mem hz).choose_spec⟩) rfl rfl hl.1 dX6_shutRoad_6 (Nat.le_of_ble_eq_true rfl) (Nat.le_of_ble_eq_true rfl) (fun r_5 b1 H locs hw G => ?_)
  refine zAn2 hw ?_
  intro hbs9 hc_4
  clear hw
  subst hbs9
  have G : zS T A s.heap s [[zO6 h la a1_1 a2_2 st wh a3_3], [zAr T 0 a1_1 7 f1], [zAr T 0 a2_2 7 f2], [zAr T 0 a3_3 7 f3], z] _ _ := G
  rcases hc_4 with ⟨rfl, h_6, h_7, h_8, h_9, h_10, h_11⟩ | ⟨rfl, h_12⟩
  · have h_6 : 0 ≤ x.toInt := h_6
    have h_7 : x.toInt < cr.toInt := h_7
    have h_8 : x.toInt < 7 := h_8
    have h_9 : 0 ≤ y.toInt := h_9
    have h_10 : y.toInt < (k1 x.toNatClampNeg).toInt := h_10
    have h_11 : y.toInt < 4 := h_11
    refine lv_if_eq (tgt := 24) hx hb dX6_shutRoad_9 (by decide) (fun q => absurd q (by decide)) (fun _ => ?_)
    refine lv_aload_n hx hb dX6_shutRoad_12 rfl (lv_at hl 0 rfl) ?_
    refine z_get C G clX6 0 rfl 2 (by decide) m_fl_RX6_22 rfl dX6_shutRoad_13 ?_
    refine lv_iload_n hx hb dX6_shutRoad_16 rfl (lv_at hl 1 rfl) ?_
    refine lv_dup2_11 hx hb dX6_shutRoad_17 rfl rfl ?_
    refine z_ild C G 2 rfl (vp_in_iff.mpr ⟨by omega, by omega⟩) dX6_shutRoad_18 ?_
    refine lv_topi (fun v_13 ev_13 => ?_)
    subst ev_13
    refine lv_iconst (v := 1) hx hb dX6_shutRoad_19 (by decide) ?_
    refine lv_iload_n hx hb dX6_shutRoad_20 rfl (lv_at hl 2 rfl) ?_
    refine lv_ishl hx hb dX6_shutRoad_21 ?_
    refine lv_ior hx hb dX6_shutRoad_22 ?_
    refine z_ist C G 2 rfl (vp_in_iff.mpr ⟨by omega, by omega⟩) dX6_shutRoad_23 (fun H locs G => ?_)
    have G : zS T A s.heap s [[zO6 h la a1_1 a2_2 st wh a3_3], [zAr T 0 a1_1 7 f1], [zAr T 0 a2_2 7 (upd f2 x.toNatClampNeg ((f2 x.toNatClampNeg) ||| (1 <<< (y &&& 31))))], [zAr T 0 a3_3 7 f3], z] _ _ := G
    have hw_14 : bPosts T h la f1 (upd f2 x.toNatClampNeg ((f2 x.toNatClampNeg) ||| (1 <<< (y &&& 31)))) f3 st wh [zO6 h la a1_1 a2_2 st wh a3_3, zAr T 0 a1_1 7 f1, zAr T 0 a2_2 7 (upd f2 x.toNatClampNeg ((f2 x.toNatClampNeg) ||| (1 <<< (y &&& 31)))), zAr T 0 a3_3 7 f3] := ⟨a1_1, a2_2, a3_3, rfl⟩
    have G : zS T A s.heap s [[zO6 h la a1_1 a2_2 st wh a3_3, zAr T 0 a1_1 7 f1, zAr T 0 a2_2 7 (upd f2 x.toNatClampNeg ((f2 x.toNatClampNeg) ||| (1 <<< (y &&& 31)))), zAr T 0 a3_3 7 f3], z] _ _ := G.re rfl
    exact z_back hQz_ (z_vret C hr hlocks G (Nat.le_of_ble_eq_true rfl) (Nat.le_of_ble_eq_true rfl) dX6_shutRoad_24 ⟨([zO6 h la a1_1 a2_2 st wh a3_3, zAr T 0 a1_1 7 f1, zAr T 0 a2_2 7 (upd f2 x.toNatClampNeg ((f2 x.toNatClampNeg) ||| (1 <<< (y &&& 31)))), zAr T 0 a3_3 7 f3]), (upd f2 x.toNatClampNeg ((f2 x.toNatClampNeg) ||| (1 <<< (y &&& 31)))), rfl, hw_14, (by unfold zShut; rw [if_pos (by omega)])⟩)
  · have h_12 : (x.toInt < 0 ∨ cr.toInt ≤ x.toInt ∨ 7 ≤ x.toInt ∨ y.toInt < 0 ∨ (k1 x.toNatClampNeg).toInt ≤ y.toInt ∨ 4 ≤ y.toInt) := h_12
    refine lv_if_eq (tgt := 24) hx hb dX6_shutRoad_9 (by decide) (fun _ => ?_) (fun q => absurd (by decide) q)
    have hw_15 : bPosts T h la f1 f2 f3 st wh [zO6 h la a1_1 a2_2 st wh a3_3, zAr T 0 a1_1 7 f1, zAr T 0 a2_2 7 f2, zAr T 0 a3_3 7 f3] := ⟨a1_1, a2_2, a3_3, rfl⟩
    have G : zS T A s.heap s [[zO6 h la a1_1 a2_2 st wh a3_3, zAr T 0 a1_1 7 f1, zAr T 0 a2_2 7 f2, zAr T 0 a3_3 7 f3], z] _ _ := G.re rfl
    exact z_back hQz_ (z_vret C hr hlocks G (Nat.le_of_ble_eq_true rfl) (Nat.le_of_ble_eq_true rfl) dX6_shutRoad_24 ⟨([zO6 h la a1_1 a2_2 st wh a3_3, zAr T 0 a1_1 7 f1, zAr T 0 a2_2 7 f2, zAr T 0 a3_3 7 f3]), f2, rfl, hw_15, (by unfold zShut; rw [if_neg (by omega)])⟩)
set_option maxHeartbeats 4000000 in
set_option maxRecDepth 100000 in
/-- c_openRoad -/
theorem c_openRoad (l : Launch) (T : zTy) (h : Nat) (la : Nat) (f1 : Nat → Int32) (f2 : Nat → Int32) (f3 : Nat → Int32) (st : Int32) (wh : Int32) (w : va_W) (cr : Int32) (inn : Int32) (k1 : Nat → Int32) (k2 : Nat → Int32) (k3 : Nat → Int32) (k4 : Nat → Int32) (z : va_W) (x : Int32) (y : Int32) (hw : bPosts T h la f1 f2 f3 st wh w) (hz : bLand T la cr inn k1 k2 k3 k4 z) : zMv l T yX6_openRoad cX6_openRoad 3 2 0 0 [.ref h, .int x, .int y] [w, z] (fun bs => ∃ (w2 : va_W) (g2 : Nat → Int32), bs = [w2, z] ∧ bPosts T h la f1 g2 f3 st wh w2 ∧ g2 = zOpen cr k1 f2 x y) := by
  refine zMv_of (own := RX6) (by decide) rfl (Nat.le_of_ble_eq_true rfl) ?_
  intro p e s m args below meth c A ls C hr hlocks hnm hAe G hl
  refine zHide (fun Qz_ hQz_ => ?_)
  have hx := C.1
  have hb := C.2.1
  have hl : lv_has ls 3 [(0, .ref h), (1, .int x), (2, .int y)] := hl
  refine lv_aload_n hx hb dX6_openRoad_0 rfl (lv_at hl 0 rfl) ?_
  refine zEx3 hw ?_
  intro a1_1 a2_2 a3_3 hbs9
  clear hw
  subst hbs9
  have G : zS T A s.heap s [[zO6 h la a1_1 a2_2 st wh a3_3], [zAr T 0 a1_1 7 f1], [zAr T 0 a2_2 7 f2], [zAr T 0 a3_3 7 f3], z] _ _ := G.re rfl
  refine z_get C G clX6 0 rfl 0 (by decide) m_fl_RX6_12 rfl dX6_openRoad_1 ?_
  refine lv_iload_n hx hb dX6_openRoad_4 rfl (lv_at hl 1 rfl) ?_
  refine lv_iload_n hx hb dX6_openRoad_5 rfl (lv_at hl 2 rfl) ?_
  refine z_Vi (bc := [z]) (br := [[zO6 h la a1_1 a2_2 st wh a3_3], [zAr T 0 a1_1 7 f1], [zAr T 0 a2_2 7 f2], [zAr T 0 a3_3 7 f3]]) (As := [.int x, .int y]) (rest := []) C G (c_hasRoad l T la cr inn k1 k2 k3 k4 z x y hz) (kV_RX6_39 C.2.2.2.2 (Nat.le_of_ble_eq_true rfl) (Nat.le_of_ble_eq_true rfl)) [4] [4] rfl rfl (ci := 4) (qc := (RX4, TX4, 6)) rfl rfl (List.mem_flatten.mpr ⟨_, List.mem_of_getElem? (i := 0) rfl, (bLand_mem hz).choose_spec⟩) rfl rfl hl.1 dX6_openRoad_6 (Nat.le_of_ble_eq_true rfl) (Nat.le_of_ble_eq_true rfl) (fun r_5 b1 H locs hw G => ?_)
  refine zAn2 hw ?_
  intro hbs9 hc_4
  clear hw
  subst hbs9
  have G : zS T A s.heap s [[zO6 h la a1_1 a2_2 st wh a3_3], [zAr T 0 a1_1 7 f1], [zAr T 0 a2_2 7 f2], [zAr T 0 a3_3 7 f3], z] _ _ := G
  rcases hc_4 with ⟨rfl, h_6, h_7, h_8, h_9, h_10, h_11⟩ | ⟨rfl, h_12⟩
  · have h_6 : 0 ≤ x.toInt := h_6
    have h_7 : x.toInt < cr.toInt := h_7
    have h_8 : x.toInt < 7 := h_8
    have h_9 : 0 ≤ y.toInt := h_9
    have h_10 : y.toInt < (k1 x.toNatClampNeg).toInt := h_10
    have h_11 : y.toInt < 4 := h_11
    refine lv_if_eq (tgt := 26) hx hb dX6_openRoad_9 (by decide) (fun q => absurd q (by decide)) (fun _ => ?_)
    refine lv_aload_n hx hb dX6_openRoad_12 rfl (lv_at hl 0 rfl) ?_
    refine z_get C G clX6 0 rfl 2 (by decide) m_fl_RX6_22 rfl dX6_openRoad_13 ?_
    refine lv_iload_n hx hb dX6_openRoad_16 rfl (lv_at hl 1 rfl) ?_
    refine lv_dup2_11 hx hb dX6_openRoad_17 rfl rfl ?_
    refine z_ild C G 2 rfl (vp_in_iff.mpr ⟨by omega, by omega⟩) dX6_openRoad_18 ?_
    refine lv_topi (fun v_13 ev_13 => ?_)
    subst ev_13
    refine lv_iconst (v := 1) hx hb dX6_openRoad_19 (by decide) ?_
    refine lv_iload_n hx hb dX6_openRoad_20 rfl (lv_at hl 2 rfl) ?_
    refine lv_ishl hx hb dX6_openRoad_21 ?_
    refine lv_iconst (v := (-1)) hx hb dX6_openRoad_22 (by decide) ?_
    refine lv_ixor hx hb dX6_openRoad_23 ?_
    refine lv_iand hx hb dX6_openRoad_24 ?_
    refine z_ist C G 2 rfl (vp_in_iff.mpr ⟨by omega, by omega⟩) dX6_openRoad_25 (fun H locs G => ?_)
    have G : zS T A s.heap s [[zO6 h la a1_1 a2_2 st wh a3_3], [zAr T 0 a1_1 7 f1], [zAr T 0 a2_2 7 (upd f2 x.toNatClampNeg ((f2 x.toNatClampNeg) &&& ((1 <<< (y &&& 31)) ^^^ (-1))))], [zAr T 0 a3_3 7 f3], z] _ _ := G
    have hw_14 : bPosts T h la f1 (upd f2 x.toNatClampNeg ((f2 x.toNatClampNeg) &&& ((1 <<< (y &&& 31)) ^^^ (-1)))) f3 st wh [zO6 h la a1_1 a2_2 st wh a3_3, zAr T 0 a1_1 7 f1, zAr T 0 a2_2 7 (upd f2 x.toNatClampNeg ((f2 x.toNatClampNeg) &&& ((1 <<< (y &&& 31)) ^^^ (-1)))), zAr T 0 a3_3 7 f3] := ⟨a1_1, a2_2, a3_3, rfl⟩
    have G : zS T A s.heap s [[zO6 h la a1_1 a2_2 st wh a3_3, zAr T 0 a1_1 7 f1, zAr T 0 a2_2 7 (upd f2 x.toNatClampNeg ((f2 x.toNatClampNeg) &&& ((1 <<< (y &&& 31)) ^^^ (-1)))), zAr T 0 a3_3 7 f3], z] _ _ := G.re rfl
    exact z_back hQz_ (z_vret C hr hlocks G (Nat.le_of_ble_eq_true rfl) (Nat.le_of_ble_eq_true rfl) dX6_openRoad_26 ⟨([zO6 h la a1_1 a2_2 st wh a3_3, zAr T 0 a1_1 7 f1, zAr T 0 a2_2 7 (upd f2 x.toNatClampNeg ((f2 x.toNatClampNeg) &&& ((1 <<< (y &&& 31)) ^^^ (-1)))), zAr T 0 a3_3 7 f3]), (upd f2 x.toNatClampNeg ((f2 x.toNatClampNeg) &&& ((1 <<< (y &&& 31)) ^^^ (-1)))), rfl, hw_14, (by unfold zOpen; rw [if_pos (by omega)])⟩)
  · have h_12 : (x.toInt < 0 ∨ cr.toInt ≤ x.toInt ∨ 7 ≤ x.toInt ∨ y.toInt < 0 ∨ (k1 x.toNatClampNeg).toInt ≤ y.toInt ∨ 4 ≤ y.toInt) := h_12
    refine lv_if_eq (tgt := 26) hx hb dX6_openRoad_9 (by decide) (fun _ => ?_) (fun q => absurd (by decide) q)
    have hw_15 : bPosts T h la f1 f2 f3 st wh [zO6 h la a1_1 a2_2 st wh a3_3, zAr T 0 a1_1 7 f1, zAr T 0 a2_2 7 f2, zAr T 0 a3_3 7 f3] := ⟨a1_1, a2_2, a3_3, rfl⟩
    have G : zS T A s.heap s [[zO6 h la a1_1 a2_2 st wh a3_3, zAr T 0 a1_1 7 f1, zAr T 0 a2_2 7 f2, zAr T 0 a3_3 7 f3], z] _ _ := G.re rfl
    exact z_back hQz_ (z_vret C hr hlocks G (Nat.le_of_ble_eq_true rfl) (Nat.le_of_ble_eq_true rfl) dX6_openRoad_26 ⟨([zO6 h la a1_1 a2_2 st wh a3_3, zAr T 0 a1_1 7 f1, zAr T 0 a2_2 7 f2, zAr T 0 a3_3 7 f3]), f2, rfl, hw_15, (by unfold zOpen; rw [if_neg (by omega)])⟩)
set_option maxHeartbeats 4000000 in
set_option maxRecDepth 100000 in
/-- turn -/
theorem c_turn (l : Launch) (T : zTy) (h : Nat) (la : Nat) (f1 : Nat → Int32) (f2 : Nat → Int32) (f3 : Nat → Int32) (st : Int32) (wh : Int32) (w : va_W) (x : Int32) (hw : bPosts T h la f1 f2 f3 st wh w) (hI : zP3 f1 f3) : zMi l T yX6_turn cX6_turn 6 (some .int) 1 0 0 [.ref h, .int x] [w] (fun (r : Int32) bs => ∃ (w2 : va_W) (g1 : Nat → Int32), bs = [w2] ∧ r = zTurn f1 f2 f3 x ∧ bPosts T h la g1 f2 f3 st wh w2 ∧ g1 = zPost f1 f2 f3 x) := by
  refine zMi_of (own := RX6) (by decide) rfl (Nat.le_of_ble_eq_true rfl) ?_
  intro p e s m args below meth c A ls C hr hlocks hnm hAe G hl
  refine zHide (fun Qz_ hQz_ => ?_)
  have hx := C.1
  have hb := C.2.1
  have hl : lv_has ls 6 [(0, .ref h), (1, .int x)] := hl
  refine lv_iload_n hx hb dX6_turn_0 rfl (lv_at hl 1 rfl) ?_
  refine lv_if_lt (tgt := 10) hx hb dX6_turn_1 (by decide) (fun c_1 => ?_) (fun c_1 => ?_)
  · have c_1n : x.toInt < (0 : Int) := (fa_lt _ _).mp c_1
    have hz : zTurn f1 f2 f3 x = -1 := by unfold zTurn; rw [if_neg (by omega)]
    refine lv_iconst (v := (-1)) hx hb dX6_turn_10 (by decide) ?_
    exact z_back hQz_ (z_iret C hr hlocks G (Nat.le_of_ble_eq_true rfl) (Nat.le_of_ble_eq_true rfl) dX6_turn_11 ⟨w, f1, rfl, hz.symm, hw, (by unfold zPost; rw [hz, if_pos rfl])⟩)
  · have c_1n : ¬ x.toInt < (0 : Int) := fun q => c_1 ((fa_lt _ _).mpr q)
    refine lv_iload_n hx hb dX6_turn_4 rfl (lv_at hl 1 rfl) ?_
    refine lv_bipush (v := 7) hx hb dX6_turn_5 (by decide) ?_
    refine lv_icmp_lt (tgt := 12) hx hb dX6_turn_7 (by decide) (fun c_2 => ?_) (fun c_2 => ?_)
    · have c_2n : x.toInt < (7 : Int) := (fa_lt _ _).mp c_2
      obtain ⟨n0, hn0⟩ : ∃ n0, n0 = (f3 x.toNatClampNeg).toNatClampNeg := ⟨_, rfl⟩
      have hcl := z_clI (x := x) (by omega)
      have h3 := hI x.toNatClampNeg (by omega)
      have hcn := z_clI h3.1.1
      have hn4 : (n0 : Int) = (f3 x.toNatClampNeg).toInt := by rw [hn0]; exact hcn
      have hT : zTurn f1 f2 f3 x = zTurnR (f3 x.toNatClampNeg) (f2 x.toNatClampNeg) n0 (f1 x.toNatClampNeg) := by unfold zTurn; rw [if_pos (by omega), hn0]
      refine lv_aload_n hx hb dX6_turn_12 rfl (lv_at hl 0 rfl) ?_
      refine zEx3 hw ?_
      intro a1_3 a2_4 a3_5 hbs9
      clear hw
      subst hbs9
      have G : zS T A s.heap s [[zO6 h la a1_3 a2_4 st wh a3_5], [zAr T 0 a1_3 7 f1], [zAr T 0 a2_4 7 f2], [zAr T 0 a3_5 7 f3]] _ _ := G.re rfl
      refine z_get C G clX6 0 rfl 5 (by decide) m_fl_RX6_25 rfl dX6_turn_13 ?_
      refine lv_iload_n hx hb dX6_turn_16 rfl (lv_at hl 1 rfl) ?_
      refine z_ild C G 3 rfl (vp_in_iff.mpr ⟨by omega, by omega⟩) dX6_turn_17 ?_
      refine lv_topi (fun v_6 ev_6 => ?_)
      subst ev_6
      refine lv_istore_n (lv' := [(2, .int (f3 x.toNatClampNeg)), (0, .ref h), (1, .int x)]) hx hb dX6_turn_18 rfl hl (by decide) (zLvf_h rfl) (fun ls hl => ?_)
      refine lv_aload_n hx hb dX6_turn_19 rfl (lv_at hl 1 rfl) ?_
      refine z_get C G clX6 0 rfl 2 (by decide) m_fl_RX6_22 rfl dX6_turn_20 ?_
      refine lv_iload_n hx hb dX6_turn_23 rfl (lv_at hl 2 rfl) ?_
      refine z_ild C G 2 rfl (vp_in_iff.mpr ⟨by omega, by omega⟩) dX6_turn_24 ?_
      refine lv_topi (fun v_7 ev_7 => ?_)
      subst ev_7
      refine lv_istore_n (lv' := [(3, .int (f2 x.toNatClampNeg)), (2, .int (f3 x.toNatClampNeg)), (0, .ref h), (1, .int x)]) hx hb dX6_turn_25 rfl hl (by decide) (zLvf_h rfl) (fun ls hl => ?_)
      refine lv_aload_n hx hb dX6_turn_26 rfl (lv_at hl 2 rfl) ?_
      refine z_get C G clX6 0 rfl 1 (by decide) m_fl_RX6_18 rfl dX6_turn_27 ?_
      refine lv_iload_n hx hb dX6_turn_30 rfl (lv_at hl 3 rfl) ?_
      refine z_ild C G 1 rfl (vp_in_iff.mpr ⟨by omega, by omega⟩) dX6_turn_31 ?_
      refine lv_topi (fun v_8 ev_8 => ?_)
      subst ev_8
      refine lv_istore (lv' := [(4, .int (f1 x.toNatClampNeg)), (3, .int (f2 x.toNatClampNeg)), (2, .int (f3 x.toNatClampNeg)), (0, .ref h), (1, .int x)]) hx hb dX6_turn_32 hl (by decide) (zLvf_h rfl) (fun ls hl => ?_)
      refine lv_iconst (v := 0) hx hb dX6_turn_34 (by decide) ?_
      refine lv_istore (lv' := [(5, .int 0), (4, .int (f1 x.toNatClampNeg)), (3, .int (f2 x.toNatClampNeg)), (2, .int (f3 x.toNatClampNeg)), (0, .ref h), (1, .int x)]) hx hb dX6_turn_35 hl (by decide) (zLvf_h rfl) (fun ls hl => ?_)
      have hw_9 : bPosts T h la f1 f2 f3 st wh [zO6 h la a1_3 a2_4 st wh a3_5, zAr T 0 a1_3 7 f1, zAr T 0 a2_4 7 f2, zAr T 0 a3_5 7 f3] := ⟨a1_3, a2_4, a3_5, rfl⟩
      have G : zS T A s.heap s [[zO6 h la a1_3 a2_4 st wh a3_5, zAr T 0 a1_3 7 f1, zAr T 0 a2_4 7 f2, zAr T 0 a3_5 7 f3]] _ _ := G.re rfl
      refine z_lp2 (T := T) 37 (fun (t : Nat) (q : Int32) => [[zO6 h la a1_3 a2_4 st wh a3_5, zAr T 0 a1_3 7 f1, zAr T 0 a2_4 7 f2, zAr T 0 a3_5 7 f3]]) (fun (t : Nat) (q : Int32) => [(5, .int (nI t)), (4, .int q), (3, .int (f2 x.toNatClampNeg)), (2, .int (f3 x.toNatClampNeg)), (0, .ref h), (1, .int x)]) (fun (t : Nat) (q : Int32) => t ≤ n0 ∧ zTurn f1 f2 f3 x = zTurnR (f3 x.toNatClampNeg) (f2 x.toNatClampNeg) (n0 - t) q ∧ (0 ≤ q.toInt ∧ q.toInt ≤ 1000)) (fun (t : Nat) (q : Int32) => n0 - t) ?_ 0 (f1 x.toNatClampNeg) (show 0 ≤ n0 ∧ zTurn f1 f2 f3 x = zTurnR (f3 x.toNatClampNeg) (f2 x.toNatClampNeg) (n0 - 0) (f1 x.toNatClampNeg) ∧ (0 ≤ (f1 x.toNatClampNeg).toInt ∧ (f1 x.toNatClampNeg).toInt ≤ 1000) from ⟨by omega, hT, ⟨h3.2.1, h3.2.2⟩⟩) G (lv_sub hl [0, 1, 2, 3, 4, 5] rfl)
      intro t q hI9 ih_37 H locs ls G hl
      replace hI9 : t ≤ n0 ∧ zTurn f1 f2 f3 x = zTurnR (f3 x.toNatClampNeg) (f2 x.toNatClampNeg) (n0 - t) q ∧ (0 ≤ q.toInt ∧ q.toInt ≤ 1000) := hI9
      refine zAn3 hI9 ?_
      intro ht hq hq3
      clear hI9
      replace G : zS T A s.heap s [[zO6 h la a1_3 a2_4 st wh a3_5, zAr T 0 a1_3 7 f1, zAr T 0 a2_4 7 f2, zAr T 0 a3_5 7 f3]] _ _ := G
      replace hl : lv_has ls 6 [(5, .int (nI t)), (4, .int q), (3, .int (f2 x.toNatClampNeg)), (2, .int (f3 x.toNatClampNeg)), (0, .ref h), (1, .int x)] := hl
      refine lv_iload hx hb dX6_turn_37 (lv_at hl 0 rfl) ?_
      refine lv_iload_n hx hb dX6_turn_39 rfl (lv_at hl 3 rfl) ?_
      refine lv_icmp_ge (tgt := 87) hx hb dX6_turn_40 (by decide) (fun c_10 => ?_) (fun c_10 => ?_)
      · have c_10n : (f3 x.toNatClampNeg).toInt ≤ (t : Int) := by have q := (fa_le _ _).mp c_10; rw [nI_toInt (n := t) (by omega)] at q; exact q
        have hz : zTurn f1 f2 f3 x = -1 := by rw [hq, show n0 - t = 0 by omega]; rfl
        refine lv_iconst (v := (-1)) hx hb dX6_turn_87 (by decide) ?_
        exact z_back hQz_ (z_iret C hr hlocks G (Nat.le_of_ble_eq_true rfl) (Nat.le_of_ble_eq_true rfl) dX6_turn_88 ⟨([zO6 h la a1_3 a2_4 st wh a3_5, zAr T 0 a1_3 7 f1, zAr T 0 a2_4 7 f2, zAr T 0 a3_5 7 f3]), f1, rfl, hz.symm, hw_9, (by unfold zPost; rw [hz, if_pos rfl])⟩)
      · have c_10n : ¬ (f3 x.toNatClampNeg).toInt ≤ (t : Int) := fun q => c_10 ((fa_le _ _).mpr (by rw [nI_toInt (n := t) (by omega)]; exact q))
        have e1 : (q + 1).toInt = q.toInt + 1 := z_iaddI (by show -2147483648 ≤ q.toInt + 1; omega) (by show q.toInt + 1 < 2147483648; omega)
        refine lv_iload hx hb dX6_turn_43 (lv_at hl 1 rfl) ?_
        refine lv_iconst (v := 1) hx hb dX6_turn_45 (by decide) ?_
        refine lv_iadd hx hb dX6_turn_46 ?_
        refine lv_iload_n hx hb dX6_turn_47 rfl (lv_at hl 3 rfl) ?_
        refine lv_icmp_ge (tgt := 58) hx hb dX6_turn_48 (by decide) (fun c_11 => ?_) (fun c_11 => ?_)
        · have c_11n : (f3 x.toNatClampNeg).toInt ≤ (q + 1).toInt := (fa_le _ _).mp c_11
          refine lv_iconst (v := 0) hx hb dX6_turn_58 (by decide) ?_
          refine lv_istore (lv' := [(4, .int 0), (5, .int (nI t)), (3, .int (f2 x.toNatClampNeg)), (2, .int (f3 x.toNatClampNeg)), (0, .ref h), (1, .int x)]) hx hb dX6_turn_59 hl (by decide) (zLvf_h rfl) (fun ls hl => ?_)
          refine lv_iload_n hx hb dX6_turn_61 rfl (lv_at hl 2 rfl) ?_
          refine lv_iload hx hb dX6_turn_62 (lv_at hl 0 rfl) ?_
          refine lv_ishr hx hb dX6_turn_64 ?_
          refine lv_iconst (v := 1) hx hb dX6_turn_65 (by decide) ?_
          refine lv_iand hx hb dX6_turn_66 ?_
          refine lv_if_ne (tgt := 81) hx hb dX6_turn_67 (by decide) (fun c_12 => ?_) (fun c_12 => ?_)
          · have c_12n : ¬ (((f2 x.toNatClampNeg) >>> (0 &&& 31)) &&& 1).toInt = (0 : Int) := fun q => c_12 ((fa_eq _ _).mpr q)
            refine lv_iinc (v := nI (t + 1)) (lv' := [(5, .int (nI (t + 1))), (4, .int 0), (3, .int (f2 x.toNatClampNeg)), (2, .int (f3 x.toNatClampNeg)), (0, .ref h), (1, .int x)]) hx hb dX6_turn_81 hl (k := 1) rfl (z_inc t 1) (by decide) (zLvf_h rfl) (fun ls hl => ?_)
            refine lv_goto (tgt := 37) hx hb dX6_turn_84 (by decide) ?_
            exact ih_37 (t + 1) 0 (show (t + 1) ≤ n0 ∧ zTurn f1 f2 f3 x = zTurnR (f3 x.toNatClampNeg) (f2 x.toNatClampNeg) (n0 - (t + 1)) 0 ∧ (0 ≤ (0 : Int32).toInt ∧ (0 : Int32).toInt ≤ 1000) from ⟨by omega, by rw [hq, show n0 - t = (n0 - (t + 1)) + 1 by omega, zTurnR, show zNext (f3 x.toNatClampNeg) q = 0 from if_neg (fun z => absurd ((fa_lt _ _).mp z) (by omega)), if_neg (show ¬ zBit (f2 x.toNatClampNeg) (0) = 0 by first | with_reducible assumption | assumption)], ⟨by decide, by decide⟩⟩) (show n0 - (t + 1) < n0 - t from by omega) _ _ ls G (lv_sub hl [0, 1, 2, 3, 4, 5] rfl)
          · have c_12n : (((f2 x.toNatClampNeg) >>> (0 &&& 31)) &&& 1).toInt = (0 : Int) := (fa_eq _ _).mp c_12
            have hz : zTurn f1 f2 f3 x = 0 := by rw [hq, show n0 - t = (n0 - (t + 1)) + 1 by omega, zTurnR, show zNext (f3 x.toNatClampNeg) q = 0 from if_neg (fun z => absurd ((fa_lt _ _).mp z) (by omega)), if_pos (show zBit (f2 x.toNatClampNeg) (0) = 0 by first | with_reducible assumption | assumption)]
            have hz1 : ¬ zTurn f1 f2 f3 x = -1 := by rw [hz]; exact (by decide)
            refine lv_aload_n hx hb dX6_turn_70 rfl (lv_at hl 4 rfl) ?_
            have G : zS T A s.heap s [[zO6 h la a1_3 a2_4 st wh a3_5], [zAr T 0 a1_3 7 f1], [zAr T 0 a2_4 7 f2], [zAr T 0 a3_5 7 f3]] _ _ := G.re rfl
            refine z_get C G clX6 0 rfl 1 (by decide) m_fl_RX6_18 rfl dX6_turn_71 ?_
            refine lv_iload_n hx hb dX6_turn_74 rfl (lv_at hl 5 rfl) ?_
            refine lv_iload hx hb dX6_turn_75 (lv_at hl 0 rfl) ?_
            refine z_ist C G 1 rfl (vp_in_iff.mpr ⟨by omega, by omega⟩) dX6_turn_77 (fun H locs G => ?_)
            have G : zS T A s.heap s [[zO6 h la a1_3 a2_4 st wh a3_5], [zAr T 0 a1_3 7 (upd f1 x.toNatClampNeg 0)], [zAr T 0 a2_4 7 f2], [zAr T 0 a3_5 7 f3]] _ _ := G
            refine lv_iload hx hb dX6_turn_78 (lv_at hl 0 rfl) ?_
            have hw_13 : bPosts T h la (upd f1 x.toNatClampNeg 0) f2 f3 st wh [zO6 h la a1_3 a2_4 st wh a3_5, zAr T 0 a1_3 7 (upd f1 x.toNatClampNeg 0), zAr T 0 a2_4 7 f2, zAr T 0 a3_5 7 f3] := ⟨a1_3, a2_4, a3_5, rfl⟩
            have G : zS T A s.heap s [[zO6 h la a1_3 a2_4 st wh a3_5, zAr T 0 a1_3 7 (upd f1 x.toNatClampNeg 0), zAr T 0 a2_4 7 f2, zAr T 0 a3_5 7 f3]] _ _ := G.re rfl
            exact z_back hQz_ (z_iret C hr hlocks G (Nat.le_of_ble_eq_true rfl) (Nat.le_of_ble_eq_true rfl) dX6_turn_80 ⟨([zO6 h la a1_3 a2_4 st wh a3_5, zAr T 0 a1_3 7 (upd f1 x.toNatClampNeg 0), zAr T 0 a2_4 7 f2, zAr T 0 a3_5 7 f3]), (upd f1 x.toNatClampNeg 0), rfl, hz.symm, hw_13, (by unfold zPost; rw [if_neg hz1, hz])⟩)
        · have c_11n : ¬ (f3 x.toNatClampNeg).toInt ≤ (q + 1).toInt := fun q => c_11 ((fa_le _ _).mpr q)
          refine lv_iload hx hb dX6_turn_51 (lv_at hl 1 rfl) ?_
          refine lv_iconst (v := 1) hx hb dX6_turn_53 (by decide) ?_
          refine lv_iadd hx hb dX6_turn_54 ?_
          refine lv_goto (tgt := 59) hx hb dX6_turn_55 (by decide) ?_
          refine lv_istore (lv' := [(4, .int (q + 1)), (5, .int (nI t)), (3, .int (f2 x.toNatClampNeg)), (2, .int (f3 x.toNatClampNeg)), (0, .ref h), (1, .int x)]) hx hb dX6_turn_59 hl (by decide) (zLvf_h rfl) (fun ls hl => ?_)
          refine lv_iload_n hx hb dX6_turn_61 rfl (lv_at hl 2 rfl) ?_
          refine lv_iload hx hb dX6_turn_62 (lv_at hl 0 rfl) ?_
          refine lv_ishr hx hb dX6_turn_64 ?_
          refine lv_iconst (v := 1) hx hb dX6_turn_65 (by decide) ?_
          refine lv_iand hx hb dX6_turn_66 ?_
          refine lv_if_ne (tgt := 81) hx hb dX6_turn_67 (by decide) (fun c_14 => ?_) (fun c_14 => ?_)
          · have c_14n : ¬ (((f2 x.toNatClampNeg) >>> ((q + 1) &&& 31)) &&& 1).toInt = (0 : Int) := fun q => c_14 ((fa_eq _ _).mpr q)
            refine lv_iinc (v := nI (t + 1)) (lv' := [(5, .int (nI (t + 1))), (4, .int (q + 1)), (3, .int (f2 x.toNatClampNeg)), (2, .int (f3 x.toNatClampNeg)), (0, .ref h), (1, .int x)]) hx hb dX6_turn_81 hl (k := 1) rfl (z_inc t 1) (by decide) (zLvf_h rfl) (fun ls hl => ?_)
            refine lv_goto (tgt := 37) hx hb dX6_turn_84 (by decide) ?_
            exact ih_37 (t + 1) (q + 1) (show (t + 1) ≤ n0 ∧ zTurn f1 f2 f3 x = zTurnR (f3 x.toNatClampNeg) (f2 x.toNatClampNeg) (n0 - (t + 1)) (q + 1) ∧ (0 ≤ (q + 1).toInt ∧ (q + 1).toInt ≤ 1000) from ⟨by omega, by rw [hq, show n0 - t = (n0 - (t + 1)) + 1 by omega, zTurnR, show zNext (f3 x.toNatClampNeg) q = q + 1 from if_pos ((fa_lt _ _).mpr (by omega)), if_neg (show ¬ zBit (f2 x.toNatClampNeg) (q + 1) = 0 by first | with_reducible assumption | assumption)], by omega⟩) (show n0 - (t + 1) < n0 - t from by omega) _ _ ls G (lv_sub hl [0, 1, 2, 3, 4, 5] rfl)
          · have c_14n : (((f2 x.toNatClampNeg) >>> ((q + 1) &&& 31)) &&& 1).toInt = (0 : Int) := (fa_eq _ _).mp c_14
            have hz : zTurn f1 f2 f3 x = q + 1 := by rw [hq, show n0 - t = (n0 - (t + 1)) + 1 by omega, zTurnR, show zNext (f3 x.toNatClampNeg) q = q + 1 from if_pos ((fa_lt _ _).mpr (by omega)), if_pos (show zBit (f2 x.toNatClampNeg) (q + 1) = 0 by first | with_reducible assumption | assumption)]
            have hz1 : ¬ zTurn f1 f2 f3 x = -1 := by rw [hz]; exact (fun q9 => absurd (show (q + 1).toInt = -1 from by rw [q9]; rfl) (by omega))
            refine lv_aload_n hx hb dX6_turn_70 rfl (lv_at hl 4 rfl) ?_
            have G : zS T A s.heap s [[zO6 h la a1_3 a2_4 st wh a3_5], [zAr T 0 a1_3 7 f1], [zAr T 0 a2_4 7 f2], [zAr T 0 a3_5 7 f3]] _ _ := G.re rfl
            refine z_get C G clX6 0 rfl 1 (by decide) m_fl_RX6_18 rfl dX6_turn_71 ?_
            refine lv_iload_n hx hb dX6_turn_74 rfl (lv_at hl 5 rfl) ?_
            refine lv_iload hx hb dX6_turn_75 (lv_at hl 0 rfl) ?_
            refine z_ist C G 1 rfl (vp_in_iff.mpr ⟨by omega, by omega⟩) dX6_turn_77 (fun H locs G => ?_)
            have G : zS T A s.heap s [[zO6 h la a1_3 a2_4 st wh a3_5], [zAr T 0 a1_3 7 (upd f1 x.toNatClampNeg (q + 1))], [zAr T 0 a2_4 7 f2], [zAr T 0 a3_5 7 f3]] _ _ := G
            refine lv_iload hx hb dX6_turn_78 (lv_at hl 0 rfl) ?_
            have hw_15 : bPosts T h la (upd f1 x.toNatClampNeg (q + 1)) f2 f3 st wh [zO6 h la a1_3 a2_4 st wh a3_5, zAr T 0 a1_3 7 (upd f1 x.toNatClampNeg (q + 1)), zAr T 0 a2_4 7 f2, zAr T 0 a3_5 7 f3] := ⟨a1_3, a2_4, a3_5, rfl⟩
            have G : zS T A s.heap s [[zO6 h la a1_3 a2_4 st wh a3_5, zAr T 0 a1_3 7 (upd f1 x.toNatClampNeg (q + 1)), zAr T 0 a2_4 7 f2, zAr T 0 a3_5 7 f3]] _ _ := G.re rfl
            exact z_back hQz_ (z_iret C hr hlocks G (Nat.le_of_ble_eq_true rfl) (Nat.le_of_ble_eq_true rfl) dX6_turn_80 ⟨([zO6 h la a1_3 a2_4 st wh a3_5, zAr T 0 a1_3 7 (upd f1 x.toNatClampNeg (q + 1)), zAr T 0 a2_4 7 f2, zAr T 0 a3_5 7 f3]), (upd f1 x.toNatClampNeg (q + 1)), rfl, hz.symm, hw_15, (by unfold zPost; rw [if_neg hz1, hz])⟩)
    · have c_2n : ¬ x.toInt < (7 : Int) := fun q => c_2 ((fa_lt _ _).mpr q)
      have hz : zTurn f1 f2 f3 x = -1 := by unfold zTurn; rw [if_neg (by omega)]
      refine lv_iconst (v := (-1)) hx hb dX6_turn_10 (by decide) ?_
      exact z_back hQz_ (z_iret C hr hlocks G (Nat.le_of_ble_eq_true rfl) (Nat.le_of_ble_eq_true rfl) dX6_turn_11 ⟨w, f1, rfl, hz.symm, hw, (by unfold zPost; rw [hz, if_pos rfl])⟩)
set_option maxHeartbeats 4000000 in
set_option maxRecDepth 100000 in
/-- step -/
theorem c_step (l : Launch) (T : zTy) (h : Nat) (la : Nat) (f1 : Nat → Int32) (f2 : Nat → Int32) (f3 : Nat → Int32) (st : Int32) (wh : Int32) (w : va_W) (cr : Int32) (inn : Int32) (k1 : Nat → Int32) (k2 : Nat → Int32) (k3 : Nat → Int32) (k4 : Nat → Int32) (z : va_W) (x : Int32) (hw : bPosts T h la f1 f2 f3 st wh w) (hz : bLand T la cr inn k1 k2 k3 k4 z) (hI : zP3 f1 f3) : zMi l T yX6_step cX6_step 4 (some .int) 2 0 0 [.ref h, .int x] [w, z] (fun (r : Int32) bs => ∃ (w2 : va_W) (g1 : Nat → Int32), bs = [w2, z] ∧ r = zStep f1 f2 f3 k2 x ∧ bPosts T h la g1 f2 f3 st wh w2 ∧ g1 = zPost f1 f2 f3 x) := by
  refine zMi_of (own := RX6) (by decide) rfl (Nat.le_of_ble_eq_true rfl) ?_
  intro p e s m args below meth c A ls C hr hlocks hnm hAe G hl
  refine zHide (fun Qz_ hQz_ => ?_)
  have hx := C.1
  have hb := C.2.1
  have hl : lv_has ls 4 [(0, .ref h), (1, .int x)] := hl
  refine lv_aload_n hx hb dX6_step_0 rfl (lv_at hl 0 rfl) ?_
  refine lv_iload_n hx hb dX6_step_1 rfl (lv_at hl 1 rfl) ?_
  refine z_Vi (bc := [w]) (br := [z]) (As := [.int x]) (rest := []) C G (c_turn l T h la f1 f2 f3 st wh w x hw (by first | with_reducible assumption | with_reducible rfl | omega | assumption | rfl)) (kV_RX6_43 C.2.2.2.2 (Nat.le_of_ble_eq_true rfl) (Nat.le_of_ble_eq_true rfl)) [0] [0] rfl rfl (ci := 6) (qc := (RX6, TX6, 6)) rfl rfl (List.mem_flatten.mpr ⟨_, List.mem_of_getElem? (i := 0) rfl, (bPosts_mem hw).choose_spec⟩) rfl rfl hl.1 dX6_step_2 (Nat.le_of_ble_eq_true rfl) (Nat.le_of_ble_eq_true rfl) (fun r_6 b1 H locs hw G => ?_)
  refine zEx2 hw ?_
  intro w2_1 g1_2
  refine zCu4 ?_
  intro hbs9 h_3 h_4 h_5
  clear hw
  subst hbs9
  have G : zS T A s.heap s [z, w2_1] _ _ := G
  subst h_3
  refine lv_istore_n (lv' := [(2, .int (zTurn f1 f2 f3 x)), (0, .ref h), (1, .int x)]) hx hb dX6_step_5 rfl hl (by decide) (zLvf_h rfl) (fun ls hl => ?_)
  refine lv_iload_n hx hb dX6_step_6 rfl (lv_at hl 2 rfl) ?_
  refine lv_iconst (v := 4) hx hb dX6_step_7 (by decide) ?_
  refine lv_imul hx hb dX6_step_8 ?_
  refine lv_topi (fun u_6 eu_6 => ?_)
  refine lv_iload_n hx hb dX6_step_9 rfl (lv_at hl 0 rfl) ?_
  refine lv_iadd hx hb dX6_step_10 ?_
  refine lv_topi (fun i_7 ei_7 => ?_)
  refine lv_istore_n (lv' := [(3, .int i_7), (2, .int (zTurn f1 f2 f3 x)), (0, .ref h), (1, .int x)]) hx hb dX6_step_11 rfl hl (by decide) (zLvf_h rfl) (fun ls hl => ?_)
  refine lv_iload_n hx hb dX6_step_12 rfl (lv_at hl 1 rfl) ?_
  refine lv_if_lt (tgt := 34) hx hb dX6_step_13 (by decide) (fun c_9 => ?_) (fun c_9 => ?_)
  · have c_9n : (zTurn f1 f2 f3 x).toInt < (0 : Int) := (fa_lt _ _).mp c_9
    refine lv_iconst (v := (-1)) hx hb dX6_step_34 (by decide) ?_
    have G := G.sub (bs' := [w2_1, z]) [1, 0] rfl
    exact z_back hQz_ (z_iret C hr hlocks G (Nat.le_of_ble_eq_true rfl) (Nat.le_of_ble_eq_true rfl) dX6_step_35 ⟨w2_1, g1_2, rfl, (by unfold zStep; rw [if_pos ((zTurn_in (f2 := f2) hI x).resolve_right (fun q => by omega))]), h_4, (by first | with_reducible assumption | omega | trivial | assumption)⟩)
  · have c_9n : ¬ (zTurn f1 f2 f3 x).toInt < (0 : Int) := fun q => c_9 ((fa_lt _ _).mpr q)
    have hin : 0 ≤ x.toInt ∧ x.toInt < 7 ∧ 0 ≤ (zTurn f1 f2 f3 x).toInt ∧ (zTurn f1 f2 f3 x).toInt ≤ 3 := (zTurn_in (f2 := f2) hI x).resolve_left (fun q => absurd (show (zTurn f1 f2 f3 x).toInt = -1 from by rw [q]; rfl) (by omega))
    have hu : u_6.toInt = x.toInt * 4 := by rw [eu_6]; exact z_imulI (by show -2147483648 ≤ x.toInt * 4; omega) (by show x.toInt * 4 < 2147483648; omega)
    have hii : i_7.toInt = x.toInt * 4 + (zTurn f1 f2 f3 x).toInt := by rw [ei_7, z_iaddI (by rw [hu]; omega) (by rw [hu]; omega), hu]
    refine lv_iload_n hx hb dX6_step_16 rfl (lv_at hl 0 rfl) ?_
    refine lv_bipush (v := 28) hx hb dX6_step_17 (by decide) ?_
    refine lv_icmp_ge (tgt := 34) hx hb dX6_step_19 (by decide) (fun q => absurd q (fun q2 => absurd (show (28 : Int) ≤ i_7.toInt from (fa_le (28 : Int32) i_7).mp q2) (by omega))) (fun _ => ?_)
    refine lv_aload_n hx hb dX6_step_22 rfl (lv_at hl 2 rfl) ?_
    refine zEx3 h_4 ?_
    intro a1_10 a2_11 a3_12 hbs9
    clear h_4
    subst hbs9
    have G : zS T A s.heap s [z, [zO6 h la a1_10 a2_11 st wh a3_12], [zAr T 0 a1_10 7 g1_2], [zAr T 0 a2_11 7 f2], [zAr T 0 a3_12 7 f3]] _ _ := G.re rfl
    refine z_get C G clX6 1 rfl 0 (by decide) m_fl_RX6_12 rfl dX6_step_23 ?_
    refine zEx4 hz ?_
    intro a1_13 a2_14 a3_15 a4_16 hbs9
    clear hz
    subst hbs9
    have G : zS T A s.heap s [[zO4 la cr inn a1_13 a2_14 a3_15 a4_16], [zAr T 0 a1_13 7 k1], [zAr T 0 a2_14 28 k2], [zAr T 0 a3_15 7 k3], [zAr T 0 a4_16 7 k4], [zO6 h la a1_10 a2_11 st wh a3_12], [zAr T 0 a1_10 7 g1_2], [zAr T 0 a2_11 7 f2], [zAr T 0 a3_12 7 f3]] _ _ := G.re rfl
    refine z_get C G clX4 0 rfl 3 (by decide) m_fl_RX6_46 rfl dX6_step_26 ?_
    refine lv_iload_n hx hb dX6_step_29 rfl (lv_at hl 0 rfl) ?_
    refine z_ild C G 2 rfl (vp_in_iff.mpr ⟨by omega, by omega⟩) dX6_step_30 ?_
    refine lv_topi (fun v_17 ev_17 => ?_)
    subst ev_17
    refine lv_goto (tgt := 35) hx hb dX6_step_31 (by decide) ?_
    have hw_18 : bPosts T h la g1_2 f2 f3 st wh [zO6 h la a1_10 a2_11 st wh a3_12, zAr T 0 a1_10 7 g1_2, zAr T 0 a2_11 7 f2, zAr T 0 a3_12 7 f3] := ⟨a1_10, a2_11, a3_12, rfl⟩
    have G : zS T A s.heap s [[zO4 la cr inn a1_13 a2_14 a3_15 a4_16], [zAr T 0 a1_13 7 k1], [zAr T 0 a2_14 28 k2], [zAr T 0 a3_15 7 k3], [zAr T 0 a4_16 7 k4], [zO6 h la a1_10 a2_11 st wh a3_12, zAr T 0 a1_10 7 g1_2, zAr T 0 a2_11 7 f2, zAr T 0 a3_12 7 f3]] _ _ := G.re rfl
    have hw_19 : bLand T la cr inn k1 k2 k3 k4 [zO4 la cr inn a1_13 a2_14 a3_15 a4_16, zAr T 0 a1_13 7 k1, zAr T 0 a2_14 28 k2, zAr T 0 a3_15 7 k3, zAr T 0 a4_16 7 k4] := ⟨a1_13, a2_14, a3_15, a4_16, rfl⟩
    have G : zS T A s.heap s [[zO4 la cr inn a1_13 a2_14 a3_15 a4_16, zAr T 0 a1_13 7 k1, zAr T 0 a2_14 28 k2, zAr T 0 a3_15 7 k3, zAr T 0 a4_16 7 k4], [zO6 h la a1_10 a2_11 st wh a3_12, zAr T 0 a1_10 7 g1_2, zAr T 0 a2_11 7 f2, zAr T 0 a3_12 7 f3]] _ _ := G.re rfl
    have G := G.sub (bs' := [[zO6 h la a1_10 a2_11 st wh a3_12, zAr T 0 a1_10 7 g1_2, zAr T 0 a2_11 7 f2, zAr T 0 a3_12 7 f3], [zO4 la cr inn a1_13 a2_14 a3_15 a4_16, zAr T 0 a1_13 7 k1, zAr T 0 a2_14 28 k2, zAr T 0 a3_15 7 k3, zAr T 0 a4_16 7 k4]]) [1, 0] rfl
    exact z_back hQz_ (z_iret C hr hlocks G (Nat.le_of_ble_eq_true rfl) (Nat.le_of_ble_eq_true rfl) dX6_step_35 ⟨([zO6 h la a1_10 a2_11 st wh a3_12, zAr T 0 a1_10 7 g1_2, zAr T 0 a2_11 7 f2, zAr T 0 a3_12 7 f3]), g1_2, rfl, (by unfold zStep; rw [if_neg (fun q => absurd (show (zTurn f1 f2 f3 x).toInt = -1 from by rw [q]; rfl) (by omega))]; exact congrArg k2 (by have q1 := z_clI hin.1; have q2 := z_clI hin.2.2.1; have q3 := z_clI (x := i_7) (by omega); omega)), hw_18, (by first | with_reducible assumption | omega | trivial | assumption)⟩)
set_option maxHeartbeats 4000000 in
set_option maxRecDepth 100000 in
/-- run -/
theorem c_Posts_run (l : Launch) (T : zTy) (h : Nat) (la : Nat) (f1 : Nat → Int32) (f2 : Nat → Int32) (f3 : Nat → Int32) (st : Int32) (wh : Int32) (w : va_W) (cr : Int32) (inn : Int32) (k1 : Nat → Int32) (k2 : Nat → Int32) (k3 : Nat → Int32) (k4 : Nat → Int32) (z : va_W) (x : Int32) (hw : bPosts T h la f1 f2 f3 st wh w) (hz : bLand T la cr inn k1 k2 k3 k4 z) (hI : zP3 f1 f3) : zMv l T yX6_run cX6_run 4 3 0 0 [.ref h, .int x] [w, z] (fun bs => ∃ (w2 : va_W) (g1 : Nat → Int32) (s2 : Int32) (x2 : Int32), bs = [w2, z] ∧ bPosts T h la g1 f2 f3 s2 x2 w2 ∧ g1 = (zRunN f2 f3 k2 499 f1 x 0).1 ∧ s2 = nI (zRunN f2 f3 k2 499 f1 x 0).2.2 ∧ x2 = (zRunN f2 f3 k2 499 f1 x 0).2.1) := by
  refine zMv_of (own := RX6) (by decide) rfl (Nat.le_of_ble_eq_true rfl) ?_
  intro p e s m args below meth c A ls C hr hlocks hnm hAe G hl
  refine zHide (fun Qz_ hQz_ => ?_)
  have hx := C.1
  have hb := C.2.1
  have hl : lv_has ls 4 [(0, .ref h), (1, .int x)] := hl
  refine lv_aload_n hx hb dX6_run_0 rfl (lv_at hl 0 rfl) ?_
  refine lv_iload_n hx hb dX6_run_1 rfl (lv_at hl 1 rfl) ?_
  refine zEx3 hw ?_
  intro a1_1 a2_2 a3_3 hbs9
  clear hw
  subst hbs9
  have G : zS T A s.heap s [[zO6 h la a1_1 a2_2 st wh a3_3], [zAr T 0 a1_1 7 f1], [zAr T 0 a2_2 7 f2], [zAr T 0 a3_3 7 f3], z] _ _ := G.re rfl
  refine z_put C G clX6 0 rfl 4 (by decide) m_fl_RX6_32 rfl rfl rfl (Nat.le_of_ble_eq_true rfl) dX6_run_2 (fun H locs G => ?_)
  have G : zS T A s.heap s [[zO6 h la a1_1 a2_2 st x a3_3], [zAr T 0 a1_1 7 f1], [zAr T 0 a2_2 7 f2], [zAr T 0 a3_3 7 f3], z] _ _ := G
  refine lv_aload_n hx hb dX6_run_5 rfl (lv_at hl 0 rfl) ?_
  refine lv_iconst (v := 0) hx hb dX6_run_6 (by decide) ?_
  refine z_put C G clX6 0 rfl 3 (by decide) m_fl_RX6_28 rfl rfl rfl (Nat.le_of_ble_eq_true rfl) dX6_run_7 (fun H locs G => ?_)
  have G : zS T A s.heap s [[zO6 h la a1_1 a2_2 0 x a3_3], [zAr T 0 a1_1 7 f1], [zAr T 0 a2_2 7 f2], [zAr T 0 a3_3 7 f3], z] _ _ := G
  refine lv_iconst (v := 0) hx hb dX6_run_10 (by decide) ?_
  refine lv_istore_n (lv' := [(2, .int 0), (0, .ref h), (1, .int x)]) hx hb dX6_run_11 rfl hl (by decide) (zLvf_h rfl) (fun ls hl => ?_)
  have hw_4 : bPosts T h la f1 f2 f3 0 x [zO6 h la a1_1 a2_2 0 x a3_3, zAr T 0 a1_1 7 f1, zAr T 0 a2_2 7 f2, zAr T 0 a3_3 7 f3] := ⟨a1_1, a2_2, a3_3, rfl⟩
  have G : zS T A s.heap s [[zO6 h la a1_1 a2_2 0 x a3_3, zAr T 0 a1_1 7 f1, zAr T 0 a2_2 7 f2, zAr T 0 a3_3 7 f3], z] _ _ := G.re rfl
  refine z_lp5 (T := T) 12 (fun (i : Nat) (j : Nat) (wq : va_W) (xf : Nat → Int32) (xx : Int32) => [wq, z]) (fun (i : Nat) (j : Nat) (wq : va_W) (xf : Nat → Int32) (xx : Int32) => [(2, .int (nI i)), (0, .ref h), (1, .int x)]) (fun (i : Nat) (j : Nat) (wq : va_W) (xf : Nat → Int32) (xx : Int32) => bPosts T h la xf f2 f3 (nI j) xx wq ∧ i ≤ 499 ∧ j ≤ i ∧ zP3 xf f3 ∧ zRunN f2 f3 k2 499 f1 x 0 = zRunN f2 f3 k2 (499 - i) xf xx j) (fun (i : Nat) (j : Nat) (wq : va_W) (xf : Nat → Int32) (xx : Int32) => 499 - i) ?_ 0 0 ([zO6 h la a1_1 a2_2 0 x a3_3, zAr T 0 a1_1 7 f1, zAr T 0 a2_2 7 f2, zAr T 0 a3_3 7 f3]) f1 x (show bPosts T h la f1 f2 f3 (nI 0) x ([zO6 h la a1_1 a2_2 0 x a3_3, zAr T 0 a1_1 7 f1, zAr T 0 a2_2 7 f2, zAr T 0 a3_3 7 f3]) ∧ 0 ≤ 499 ∧ 0 ≤ 0 ∧ zP3 f1 f3 ∧ zRunN f2 f3 k2 499 f1 x 0 = zRunN f2 f3 k2 (499 - 0) f1 x 0 from ⟨hw_4, by omega, by omega, hI, rfl⟩) G (lv_sub hl [0, 1, 2] rfl)
  intro i j wq xf xx hI9 ih_12 H locs ls G hl
  replace hI9 : bPosts T h la xf f2 f3 (nI j) xx wq ∧ i ≤ 499 ∧ j ≤ i ∧ zP3 xf f3 ∧ zRunN f2 f3 k2 499 f1 x 0 = zRunN f2 f3 k2 (499 - i) xf xx j := hI9
  refine zAn5 hI9 ?_
  intro hq hi hj hxf hr_
  clear hI9
  replace G : zS T A s.heap s [wq, z] _ _ := G
  replace hl : lv_has ls 4 [(2, .int (nI i)), (0, .ref h), (1, .int x)] := hl
  refine lv_iload_n hx hb dX6_run_12 rfl (lv_at hl 0 rfl) ?_
  refine lv_sipush (v := 499) hx hb dX6_run_13 (by decide) ?_
  refine lv_icmp_ge (tgt := 55) hx hb dX6_run_16 (by decide) (fun c_5 => ?_) (fun c_5 => ?_)
  · have c_5n : 499 ≤ i := (nI_leI (a := 499) (b := i) (by omega) (by omega)).mp c_5
    exact z_back hQz_ (z_vret C hr hlocks G (Nat.le_of_ble_eq_true rfl) (Nat.le_of_ble_eq_true rfl) dX6_run_55 ⟨wq, xf, (nI j), xx, rfl, hq, (by rw [hr_, show 499 - i = 0 by omega]; rfl), (by rw [hr_, show 499 - i = 0 by omega]; rfl), (by rw [hr_, show 499 - i = 0 by omega]; rfl)⟩)
  · have c_5n : ¬ 499 ≤ i := fun q => c_5 ((nI_leI (a := 499) (b := i) (by omega) (by omega)).mpr q)
    refine lv_aload_n hx hb dX6_run_19 rfl (lv_at hl 1 rfl) ?_
    refine lv_aload_n hx hb dX6_run_20 rfl (lv_at hl 1 rfl) ?_
    refine zEx3 hq ?_
    intro a1_6 a2_7 a3_8 hbs9
    clear hq
    subst hbs9
    have G : zS T A s.heap s [[zO6 h la a1_6 a2_7 (nI j) xx a3_8], [zAr T 0 a1_6 7 xf], [zAr T 0 a2_7 7 f2], [zAr T 0 a3_8 7 f3], z] _ _ := G.re rfl
    refine z_get C G clX6 0 rfl 4 (by decide) m_fl_RX6_32 rfl dX6_run_21 ?_
    have hw_9 : bPosts T h la xf f2 f3 (nI j) xx [zO6 h la a1_6 a2_7 (nI j) xx a3_8, zAr T 0 a1_6 7 xf, zAr T 0 a2_7 7 f2, zAr T 0 a3_8 7 f3] := ⟨a1_6, a2_7, a3_8, rfl⟩
    have G : zS T A s.heap s [[zO6 h la a1_6 a2_7 (nI j) xx a3_8, zAr T 0 a1_6 7 xf, zAr T 0 a2_7 7 f2, zAr T 0 a3_8 7 f3], z] _ _ := G.re rfl
    refine z_Vi (bc := [[zO6 h la a1_6 a2_7 (nI j) xx a3_8, zAr T 0 a1_6 7 xf, zAr T 0 a2_7 7 f2, zAr T 0 a3_8 7 f3], z]) (br := []) (As := [.int xx]) (rest := []) C G (c_step l T h la xf f2 f3 (nI j) xx ([zO6 h la a1_6 a2_7 (nI j) xx a3_8, zAr T 0 a1_6 7 xf, zAr T 0 a2_7 7 f2, zAr T 0 a3_8 7 f3]) cr inn k1 k2 k3 k4 z xx hw_9 hz (by first | with_reducible assumption | with_reducible rfl | omega | assumption | rfl)) (kV_RX6_49 C.2.2.2.2 (Nat.le_of_ble_eq_true rfl) (Nat.le_of_ble_eq_true rfl)) [0, 1] [0, 0] rfl rfl (ci := 6) (qc := (RX6, TX6, 6)) rfl rfl (List.mem_flatten.mpr ⟨_, List.mem_of_getElem? (i := 0) rfl, (bPosts_mem hw_9).choose_spec⟩) rfl rfl hl.1 dX6_run_24 (Nat.le_of_ble_eq_true rfl) (Nat.le_of_ble_eq_true rfl) (fun r_15 b1 H locs hw G => ?_)
    refine zEx2 hw ?_
    intro w2_10 g1_11
    refine zCu4 ?_
    intro hbs9 h_12 h_13 h_14
    clear hw
    subst hbs9
    have G : zS T A s.heap s [w2_10, z] _ _ := G
    subst h_12
    refine lv_istore_n (lv' := [(3, .int (zStep xf f2 f3 k2 xx)), (2, .int (nI i)), (0, .ref h), (1, .int x)]) hx hb dX6_run_27 rfl hl (by decide) (zLvf_h rfl) (fun ls hl => ?_)
    refine lv_iload_n hx hb dX6_run_28 rfl (lv_at hl 0 rfl) ?_
    refine lv_iconst (v := (-1)) hx hb dX6_run_29 (by decide) ?_
    refine lv_icmp_ne (tgt := 34) hx hb dX6_run_30 (by decide) (fun c_16 => ?_) (fun c_16 => ?_)
    · have c_16n : ¬ (zStep xf f2 f3 k2 xx).toInt = (-1 : Int) := fun q => c_16 ((fa_eq _ _).mpr q)
      refine lv_aload_n hx hb dX6_run_34 rfl (lv_at hl 2 rfl) ?_
      refine lv_iload_n hx hb dX6_run_35 rfl (lv_at hl 0 rfl) ?_
      refine zEx3 h_13 ?_
      intro a1_17 a2_18 a3_19 hbs9
      clear h_13
      subst hbs9
      have G : zS T A s.heap s [[zO6 h la a1_17 a2_18 (nI j) xx a3_19], [zAr T 0 a1_17 7 g1_11], [zAr T 0 a2_18 7 f2], [zAr T 0 a3_19 7 f3], z] _ _ := G.re rfl
      refine z_put C G clX6 0 rfl 4 (by decide) m_fl_RX6_32 rfl rfl rfl (Nat.le_of_ble_eq_true rfl) dX6_run_36 (fun H locs G => ?_)
      have G : zS T A s.heap s [[zO6 h la a1_17 a2_18 (nI j) (zStep xf f2 f3 k2 xx) a3_19], [zAr T 0 a1_17 7 g1_11], [zAr T 0 a2_18 7 f2], [zAr T 0 a3_19 7 f3], z] _ _ := G
      refine lv_aload_n hx hb dX6_run_39 rfl (lv_at hl 2 rfl) ?_
      refine lv_dup hx hb dX6_run_40 rfl ?_
      refine z_get C G clX6 0 rfl 3 (by decide) m_fl_RX6_28 rfl dX6_run_41 ?_
      refine lv_iconst (v := 1) hx hb dX6_run_44 (by decide) ?_
      refine lv_iadd hx hb dX6_run_45 ?_
      refine lv_topi (fun y_20 ey_20 => ?_)
      obtain rfl : y_20 = nI (j + 1) := ey_20.trans (z_iaddn j 1 rfl rfl)
      refine z_put C G clX6 0 rfl 3 (by decide) m_fl_RX6_28 rfl rfl rfl (Nat.le_of_ble_eq_true rfl) dX6_run_46 (fun H locs G => ?_)
      have G : zS T A s.heap s [[zO6 h la a1_17 a2_18 (nI (j + 1)) (zStep xf f2 f3 k2 xx) a3_19], [zAr T 0 a1_17 7 g1_11], [zAr T 0 a2_18 7 f2], [zAr T 0 a3_19 7 f3], z] _ _ := G
      refine lv_iinc (v := nI (i + 1)) (lv' := [(2, .int (nI (i + 1))), (3, .int (zStep xf f2 f3 k2 xx)), (0, .ref h), (1, .int x)]) hx hb dX6_run_49 hl (k := 1) rfl (z_inc i 1) (by decide) (zLvf_h rfl) (fun ls hl => ?_)
      refine lv_goto (tgt := 12) hx hb dX6_run_52 (by decide) ?_
      have hw_21 : bPosts T h la g1_11 f2 f3 (nI (j + 1)) (zStep xf f2 f3 k2 xx) [zO6 h la a1_17 a2_18 (nI (j + 1)) (zStep xf f2 f3 k2 xx) a3_19, zAr T 0 a1_17 7 g1_11, zAr T 0 a2_18 7 f2, zAr T 0 a3_19 7 f3] := ⟨a1_17, a2_18, a3_19, rfl⟩
      have G : zS T A s.heap s [[zO6 h la a1_17 a2_18 (nI (j + 1)) (zStep xf f2 f3 k2 xx) a3_19, zAr T 0 a1_17 7 g1_11, zAr T 0 a2_18 7 f2, zAr T 0 a3_19 7 f3], z] _ _ := G.re rfl
      exact ih_12 (i + 1) (j + 1) ([zO6 h la a1_17 a2_18 (nI (j + 1)) (zStep xf f2 f3 k2 xx) a3_19, zAr T 0 a1_17 7 g1_11, zAr T 0 a2_18 7 f2, zAr T 0 a3_19 7 f3]) g1_11 (zStep xf f2 f3 k2 xx) (show bPosts T h la g1_11 f2 f3 (nI (j + 1)) (zStep xf f2 f3 k2 xx) ([zO6 h la a1_17 a2_18 (nI (j + 1)) (zStep xf f2 f3 k2 xx) a3_19, zAr T 0 a1_17 7 g1_11, zAr T 0 a2_18 7 f2, zAr T 0 a3_19 7 f3]) ∧ (i + 1) ≤ 499 ∧ (j + 1) ≤ (i + 1) ∧ zP3 g1_11 f3 ∧ zRunN f2 f3 k2 499 f1 x 0 = zRunN f2 f3 k2 (499 - (i + 1)) g1_11 (zStep xf f2 f3 k2 xx) (j + 1) from ⟨hw_21, by omega, by omega, by rw [h_14]; exact zPost_I hxf _, by rw [hr_, show 499 - i = (499 - (i + 1)) + 1 by omega, zRunN, if_neg (by first | with_reducible assumption | assumption), h_14]⟩) (show 499 - (i + 1) < 499 - i from by omega) _ _ ls G (lv_sub hl [0, 2, 3] rfl)
    · have c_16n : (zStep xf f2 f3 k2 xx).toInt = (-1 : Int) := (fa_eq _ _).mp c_16
      exact z_back hQz_ (z_vret C hr hlocks G (Nat.le_of_ble_eq_true rfl) (Nat.le_of_ble_eq_true rfl) dX6_run_33 ⟨w2_10, g1_11, (nI j), xx, rfl, h_13, (by rw [hr_, show 499 - i = (499 - (i + 1)) + 1 by omega, zRunN, if_pos (by first | with_reducible assumption | assumption)]; exact h_14), (by rw [hr_, show 499 - i = (499 - (i + 1)) + 1 by omega, zRunN, if_pos (by first | with_reducible assumption | assumption)]), (by rw [hr_, show 499 - i = (499 - (i + 1)) + 1 by omega, zRunN, if_pos (by first | with_reducible assumption | assumption)])⟩)
set_option maxHeartbeats 4000000 in
set_option maxRecDepth 100000 in
/-- code -/
theorem c_code (l : Launch) (T : zTy) (h : Nat) (la : Nat) (f1 : Nat → Int32) (f2 : Nat → Int32) (f3 : Nat → Int32) (st : Int32) (wh : Int32) (w : va_W) (hw : bPosts T h la f1 f2 f3 st wh w) : zMi l T yX6_code cX6_code 3 (some .int) 1 0 0 [.ref h] [w] (fun (r : Int32) bs => bs = [w] ∧ r = zCode f1 7) := by
  refine zMi_of (own := RX6) (by decide) rfl (Nat.le_of_ble_eq_true rfl) ?_
  intro p e s m args below meth c A ls C hr hlocks hnm hAe G hl
  refine zHide (fun Qz_ hQz_ => ?_)
  have hx := C.1
  have hb := C.2.1
  have hl : lv_has ls 3 [(0, .ref h)] := hl
  refine lv_iconst (v := 0) hx hb dX6_code_0 (by decide) ?_
  refine lv_istore_n (lv' := [(1, .int 0), (0, .ref h)]) hx hb dX6_code_1 rfl hl (by decide) (zLvf_h rfl) (fun ls hl => ?_)
  refine lv_iconst (v := 0) hx hb dX6_code_2 (by decide) ?_
  refine lv_istore_n (lv' := [(2, .int 0), (1, .int 0), (0, .ref h)]) hx hb dX6_code_3 rfl hl (by decide) (zLvf_h rfl) (fun ls hl => ?_)
  refine zEx3 hw ?_
  intro a1_1 a2_2 a3_3 hbs9
  clear hw
  subst hbs9
  have G : zS T A s.heap s [[zO6 h la a1_1 a2_2 st wh a3_3], [zAr T 0 a1_1 7 f1], [zAr T 0 a2_2 7 f2], [zAr T 0 a3_3 7 f3]] _ _ := G.re rfl
  have hw_4 : bPosts T h la f1 f2 f3 st wh [zO6 h la a1_1 a2_2 st wh a3_3, zAr T 0 a1_1 7 f1, zAr T 0 a2_2 7 f2, zAr T 0 a3_3 7 f3] := ⟨a1_1, a2_2, a3_3, rfl⟩
  have G : zS T A s.heap s [[zO6 h la a1_1 a2_2 st wh a3_3, zAr T 0 a1_1 7 f1, zAr T 0 a2_2 7 f2, zAr T 0 a3_3 7 f3]] _ _ := G.re rfl
  refine z_lp2 (T := T) 4 (fun (i : Nat) (v : Int32) => [[zO6 h la a1_1 a2_2 st wh a3_3, zAr T 0 a1_1 7 f1, zAr T 0 a2_2 7 f2, zAr T 0 a3_3 7 f3]]) (fun (i : Nat) (v : Int32) => [(2, .int (nI i)), (1, .int v), (0, .ref h)]) (fun (i : Nat) (v : Int32) => i ≤ 7 ∧ v = zCode f1 i) (fun (i : Nat) (v : Int32) => 7 - i) ?_ 0 0 (show 0 ≤ 7 ∧ 0 = zCode f1 0 from ⟨by omega, rfl⟩) G (lv_sub hl [0, 1, 2] rfl)
  intro i v hI9 ih_4 H locs ls G hl
  replace hI9 : i ≤ 7 ∧ v = zCode f1 i := hI9
  refine zAn2 hI9 ?_
  intro hi hv
  clear hI9
  replace G : zS T A s.heap s [[zO6 h la a1_1 a2_2 st wh a3_3, zAr T 0 a1_1 7 f1, zAr T 0 a2_2 7 f2, zAr T 0 a3_3 7 f3]] _ _ := G
  replace hl : lv_has ls 3 [(2, .int (nI i)), (1, .int v), (0, .ref h)] := hl
  refine lv_iload_n hx hb dX6_code_4 rfl (lv_at hl 0 rfl) ?_
  refine lv_bipush (v := 7) hx hb dX6_code_5 (by decide) ?_
  refine lv_icmp_ge (tgt := 27) hx hb dX6_code_7 (by decide) (fun c_5 => ?_) (fun c_5 => ?_)
  · have c_5n : 7 ≤ i := (nI_leI (a := 7) (b := i) (by omega) (by omega)).mp c_5
    refine lv_iload_n hx hb dX6_code_27 rfl (lv_at hl 1 rfl) ?_
    exact z_back hQz_ (z_iret C hr hlocks G (Nat.le_of_ble_eq_true rfl) (Nat.le_of_ble_eq_true rfl) dX6_code_28 ⟨rfl, (by rw [hv, show i = 7 by omega])⟩)
  · have c_5n : ¬ 7 ≤ i := fun q => c_5 ((nI_leI (a := 7) (b := i) (by omega) (by omega)).mpr q)
    refine lv_iload_n hx hb dX6_code_10 rfl (lv_at hl 1 rfl) ?_
    refine lv_iconst (v := 4) hx hb dX6_code_11 (by decide) ?_
    refine lv_imul hx hb dX6_code_12 ?_
    refine lv_aload_n hx hb dX6_code_13 rfl (lv_at hl 2 rfl) ?_
    have G : zS T A s.heap s [[zO6 h la a1_1 a2_2 st wh a3_3], [zAr T 0 a1_1 7 f1], [zAr T 0 a2_2 7 f2], [zAr T 0 a3_3 7 f3]] _ _ := G.re rfl
    refine z_get C G clX6 0 rfl 1 (by decide) m_fl_RX6_18 rfl dX6_code_14 ?_
    refine lv_iload_n hx hb dX6_code_17 rfl (lv_at hl 0 rfl) ?_
    refine z_ild C G 1 rfl (vp_in_nI (by omega) (by decide)) dX6_code_18 ?_
    refine lv_topi (fun v_6 ev_6 => ?_)
    rw [nI_clamp (by omega)] at ev_6
    subst ev_6
    refine lv_iadd hx hb dX6_code_19 ?_
    refine lv_istore_n (lv' := [(1, .int ((v * 4) + (f1 i))), (2, .int (nI i)), (0, .ref h)]) hx hb dX6_code_20 rfl hl (by decide) (zLvf_h rfl) (fun ls hl => ?_)
    refine lv_iinc (v := nI (i + 1)) (lv' := [(2, .int (nI (i + 1))), (1, .int ((v * 4) + (f1 i))), (0, .ref h)]) hx hb dX6_code_21 hl (k := 1) rfl (z_inc i 1) (by decide) (zLvf_h rfl) (fun ls hl => ?_)
    refine lv_goto (tgt := 4) hx hb dX6_code_24 (by decide) ?_
    have hw_7 : bPosts T h la f1 f2 f3 st wh [zO6 h la a1_1 a2_2 st wh a3_3, zAr T 0 a1_1 7 f1, zAr T 0 a2_2 7 f2, zAr T 0 a3_3 7 f3] := ⟨a1_1, a2_2, a3_3, rfl⟩
    have G : zS T A s.heap s [[zO6 h la a1_1 a2_2 st wh a3_3, zAr T 0 a1_1 7 f1, zAr T 0 a2_2 7 f2, zAr T 0 a3_3 7 f3]] _ _ := G.re rfl
    exact ih_4 (i + 1) ((v * 4) + (f1 i)) (show (i + 1) ≤ 7 ∧ ((v * 4) + (f1 i)) = zCode f1 (i + 1) from ⟨by omega, by rw [hv]; rfl⟩) (show 7 - (i + 1) < 7 - i from by omega) _ _ ls G (lv_sub hl [0, 1, 2] rfl)
theorem m_fl_RX8_9 : Cond.fieldLink RX8 9 (TX4 0).1 (TX4 0).2.1 (TX4 0).2.2.1 ∈ zT := zmem1 zsub_1 42 rfl rfl
theorem m_ml_RX8_15 : Cond.methodLink RX8 15 yX4_waysOut ∈ zT := zmem1 zsub_4 134 rfl rfl
theorem m_ml_RX8_19 : Cond.methodLink RX8 19 yX4_target ∈ zT := zmem1 zsub_4 135 rfl rfl
theorem m_co_X8_spread : Cond.code yX8_spread cX8_spread 5 (some .int) ∈ zT := zmem1 zsub_4 133 rfl rfl
theorem m_ml_RX8_23 : Cond.methodLink RX8 23 yX8_spread ∈ zT := zmem1 zsub_4 131 rfl rfl
theorem m_st_X8_spread : Cond.static yX8_spread ∈ zT := zmem1 zsub_4 132 rfl rfl
theorem m_ii_RX8 : Cond.initialized RX8 ∈ zT := zmem1 zsub_1 18 rfl rfl
theorem m_fl_RX8_29 : Cond.fieldLink RX8 29 (TX4 1).1 (TX4 1).2.1 (TX4 1).2.2.1 ∈ zT := zmem1 zsub_1 50 rfl rfl
theorem m_co_X8_reached : Cond.code yX8_reached cX8_reached 4 (some .int) ∈ zT := zmem1 zsub_4 130 rfl rfl
theorem m_ml_RX8_45 : Cond.methodLink RX8 45 yX8_reached ∈ zT := zmem1 zsub_5 192 rfl rfl
theorem m_st_X8_reached : Cond.static yX8_reached ∈ zT := zmem1 zsub_4 129 rfl rfl
theorem m_co_X8_howManyLead : Cond.code yX8_howManyLead cX8_howManyLead 5 (some .int) ∈ zT := zmem1 zsub_5 207 rfl rfl
theorem m_ml_RX8_52 : Cond.methodLink RX8 52 yX8_howManyLead ∈ zT := zmem1 zsub_5 205 rfl rfl
theorem m_st_X8_howManyLead : Cond.static yX8_howManyLead ∈ zT := zmem1 zsub_5 206 rfl rfl
theorem m_co_X4_isInn : Cond.code yX4_isInn cX4_isInn 2 (some .boolean) ∈ zT := zmem1 zsub_4 20 rfl rfl
theorem m_ml_RX8_48 : Cond.methodLink RX8 48 yX4_isInn ∈ zT := zmem1 zsub_5 201 rfl rfl
theorem m_im_X4_isInn : Cond.instanceMethod yX4_isInn ∈ zT := zmem1 zsub_4 18 rfl rfl
theorem m_se_X4_isInn : Cond.selects RX4 yX4_isInn yX4_isInn ∈ zT := zmem1 zsub_4 19 rfl rfl
theorem m_co_X8_howManyLeadTo : Cond.code yX8_howManyLeadTo cX8_howManyLeadTo 4 (some .int) ∈ zT := zmem1 zsub_5 216 rfl rfl
theorem m_ml_RX8_56 : Cond.methodLink RX8 56 yX8_howManyLeadTo ∈ zT := zmem1 zsub_5 214 rfl rfl
theorem m_st_X8_howManyLeadTo : Cond.static yX8_howManyLeadTo ∈ zT := zmem1 zsub_5 215 rfl rfl
theorem m_ko_RJ6_265 : Cond.constant RJ6 265 1431655765 ∈ zT := zmem1 zsub_4 154 rfl rfl
theorem m_ko_RJ6_266 : Cond.constant RJ6 266 858993459 ∈ zT := zmem1 zsub_4 155 rfl rfl
theorem m_ko_RJ6_267 : Cond.constant RJ6 267 252645135 ∈ zT := zmem1 zsub_4 156 rfl rfl
theorem m_co_X8_inOneClass : Cond.code yX8_inOneClass cX8_inOneClass 5 (some .int) ∈ zT := zmem1 zsub_5 191 rfl rfl
theorem m_ml_RX8_32 : Cond.methodLink RX8 32 yX8_inOneClass ∈ zT := zmem1 zsub_5 189 rfl rfl
theorem m_st_X8_inOneClass : Cond.static yX8_inOneClass ∈ zT := zmem1 zsub_5 190 rfl rfl
theorem m_co_J6_bitCount_0f7a4 : Cond.code yJ6_bitCount_0f7a4 cJ6_bitCount_0f7a4 1 (some .int) ∈ zT := zmem1 zsub_4 153 rfl rfl
theorem m_ml_RX8_35 : Cond.methodLink RX8 35 yJ6_bitCount_0f7a4 ∈ zT := zmem1 zsub_5 193 rfl rfl
theorem m_st_J6_bitCount_0f7a4 : Cond.static yJ6_bitCount_0f7a4 ∈ zT := zmem1 zsub_4 152 rfl rfl
theorem m_ii_RJ6 : Cond.initialized RJ6 ∈ zT := zmem1 zsub_1 19 rfl rfl
theorem m_co_math_max : Cond.code Lib.Math.max.name Lib.Math.max.code 2 (some .int) ∈ zT := zmem1 zsub_3 164 rfl rfl
theorem m_ml_RX8_40 : Cond.methodLink RX8 40 Lib.Math.max.name ∈ zT := zmem1 zsub_5 194 rfl rfl
theorem m_st_math_max : Cond.static Lib.Math.max.name ∈ zT := zmem1 zsub_3 163 rfl rfl
theorem m_ii_math : Cond.initialized "java/lang/Math" ∈ zT := zmem1 zsub_1 13 rfl rfl
theorem m_ml_RX8_59 : Cond.methodLink RX8 59 yX4_has ∈ zT := zmem1 zsub_5 228 rfl rfl
theorem m_fl_RX8_62 : Cond.fieldLink RX8 62 (TX4 4).1 (TX4 4).2.1 (TX4 4).2.2.1 ∈ zT := zmem1 zsub_1 59 rfl rfl
theorem kV_RX8_15 {R : Room} {s : State} {args : Array Value} {d mc ms : Nat} (hts : ∀ w ∈ zT, w.before args s = true) (h1 : d + 1 ≤ R.frames) (h2 : 8 + (2 + 11) + 40 * d ≤ R.locals) : CallW R s args RX8 RX4 15 yX4_waysOut cX4_waysOut 2 (some .int) (zW yX4_waysOut cX4_waysOut 2 (some .int)) (zR d mc ms) mc ms 1 := z_cwV hts m_co_X4_waysOut m_ml_RX8_15 m_im_X4_waysOut m_se_X4_waysOut m_ii_RX4 (by decide +kernel) h1 h2
theorem kV_RX8_19 {R : Room} {s : State} {args : Array Value} {d mc ms : Nat} (hts : ∀ w ∈ zT, w.before args s = true) (h1 : d + 1 ≤ R.frames) (h2 : 8 + (3 + 11) + 40 * d ≤ R.locals) : CallW R s args RX8 RX4 19 yX4_target cX4_target 3 (some .int) (zW yX4_target cX4_target 3 (some .int)) (zR d mc ms) mc ms 2 := z_cwV hts m_co_X4_target m_ml_RX8_19 m_im_X4_target m_se_X4_target m_ii_RX4 (by decide +kernel) h1 h2
theorem kS_RX8_23 {R : Room} {s : State} {args : Array Value} {d mc ms : Nat} (hts : ∀ w ∈ zT, w.before args s = true) (h1 : d + 1 ≤ R.frames) (h2 : 8 + (5 + 11) + 40 * d ≤ R.locals) : CallB R s args RX8 23 yX8_spread cX8_spread 5 (some .int) (zW yX8_spread cX8_spread 5 (some .int)) (zR d mc ms) mc ms 2 ∧ (Cond.static yX8_spread).before args s = true := z_cwS hts m_co_X8_spread m_ml_RX8_23 m_st_X8_spread m_ii_RX8 (by decide +kernel) h1 h2
theorem kS_RX8_45 {R : Room} {s : State} {args : Array Value} {d mc ms : Nat} (hts : ∀ w ∈ zT, w.before args s = true) (h1 : d + 1 ≤ R.frames) (h2 : 8 + (4 + 11) + 40 * d ≤ R.locals) : CallB R s args RX8 45 yX8_reached cX8_reached 4 (some .int) (zW yX8_reached cX8_reached 4 (some .int)) (zR d mc ms) mc ms 2 ∧ (Cond.static yX8_reached).before args s = true := z_cwS hts m_co_X8_reached m_ml_RX8_45 m_st_X8_reached m_ii_RX8 (by decide +kernel) h1 h2
theorem kS_RX8_52 {R : Room} {s : State} {args : Array Value} {d mc ms : Nat} (hts : ∀ w ∈ zT, w.before args s = true) (h1 : d + 1 ≤ R.frames) (h2 : 8 + (5 + 11) + 40 * d ≤ R.locals) : CallB R s args RX8 52 yX8_howManyLead cX8_howManyLead 5 (some .int) (zW yX8_howManyLead cX8_howManyLead 5 (some .int)) (zR d mc ms) mc ms 3 ∧ (Cond.static yX8_howManyLead).before args s = true := z_cwS hts m_co_X8_howManyLead m_ml_RX8_52 m_st_X8_howManyLead m_ii_RX8 (by decide +kernel) h1 h2
theorem kV_RX8_48 {R : Room} {s : State} {args : Array Value} {d mc ms : Nat} (hts : ∀ w ∈ zT, w.before args s = true) (h1 : d + 1 ≤ R.frames) (h2 : 8 + (2 + 11) + 40 * d ≤ R.locals) : CallW R s args RX8 RX4 48 yX4_isInn cX4_isInn 2 (some .boolean) (zW yX4_isInn cX4_isInn 2 (some .boolean)) (zR d mc ms) mc ms 1 := z_cwV hts m_co_X4_isInn m_ml_RX8_48 m_im_X4_isInn m_se_X4_isInn m_ii_RX4 (by decide +kernel) h1 h2
theorem kS_RX8_56 {R : Room} {s : State} {args : Array Value} {d mc ms : Nat} (hts : ∀ w ∈ zT, w.before args s = true) (h1 : d + 1 ≤ R.frames) (h2 : 8 + (4 + 11) + 40 * d ≤ R.locals) : CallB R s args RX8 56 yX8_howManyLeadTo cX8_howManyLeadTo 4 (some .int) (zW yX8_howManyLeadTo cX8_howManyLeadTo 4 (some .int)) (zR d mc ms) mc ms 2 ∧ (Cond.static yX8_howManyLeadTo).before args s = true := z_cwS hts m_co_X8_howManyLeadTo m_ml_RX8_56 m_st_X8_howManyLeadTo m_ii_RX8 (by decide +kernel) h1 h2
theorem kS_RX8_32 {R : Room} {s : State} {args : Array Value} {d mc ms : Nat} (hts : ∀ w ∈ zT, w.before args s = true) (h1 : d + 1 ≤ R.frames) (h2 : 8 + (5 + 11) + 40 * d ≤ R.locals) : CallB R s args RX8 32 yX8_inOneClass cX8_inOneClass 5 (some .int) (zW yX8_inOneClass cX8_inOneClass 5 (some .int)) (zR d mc ms) mc ms 2 ∧ (Cond.static yX8_inOneClass).before args s = true := z_cwS hts m_co_X8_inOneClass m_ml_RX8_32 m_st_X8_inOneClass m_ii_RX8 (by decide +kernel) h1 h2
theorem kS_RX8_35 {R : Room} {s : State} {args : Array Value} {d mc ms : Nat} (hts : ∀ w ∈ zT, w.before args s = true) (h1 : d + 1 ≤ R.frames) (h2 : 8 + (1 + 11) + 40 * d ≤ R.locals) : CallB R s args RX8 35 yJ6_bitCount_0f7a4 cJ6_bitCount_0f7a4 1 (some .int) (zW yJ6_bitCount_0f7a4 cJ6_bitCount_0f7a4 1 (some .int)) (zR d mc ms) mc ms 1 ∧ (Cond.static yJ6_bitCount_0f7a4).before args s = true := z_cwS hts m_co_J6_bitCount_0f7a4 m_ml_RX8_35 m_st_J6_bitCount_0f7a4 m_ii_RJ6 (by decide +kernel) h1 h2
theorem kV_RX8_59 {R : Room} {s : State} {args : Array Value} {d mc ms : Nat} (hts : ∀ w ∈ zT, w.before args s = true) (h1 : d + 1 ≤ R.frames) (h2 : 8 + (2 + 11) + 40 * d ≤ R.locals) : CallW R s args RX8 RX4 59 yX4_has cX4_has 2 (some .boolean) (zW yX4_has cX4_has 2 (some .boolean)) (zR d mc ms) mc ms 1 := z_cwV hts m_co_X4_has m_ml_RX8_59 m_im_X4_has m_se_X4_has m_ii_RX4 (by decide +kernel) h1 h2
theorem dX8_spread_0 : decode cX8_spread 0 = .ok (.iload_n 1, 1) := zo_27 (by decide +kernel)
theorem dX8_spread_1 : decode cX8_spread 1 = .ok (.istore_n 2, 1) := zo_61 (by decide +kernel)
theorem dX8_spread_2 : decode cX8_spread 2 = .ok (.iconst 0, 1) := zo_3 (by decide +kernel)
theorem dX8_spread_3 : decode cX8_spread 3 = .ok (.istore_n 3, 1) := zo_62 (by decide +kernel)
theorem dX8_spread_4 : decode cX8_spread 4 = .ok (.iload_n 3, 1) := zo_29 (by decide +kernel)
theorem dX8_spread_5 : decode cX8_spread 5 = .ok (.aload_n 0, 1) := zo_42 (by decide +kernel)
theorem dX8_spread_6 : decode cX8_spread 6 = .ok (.getfield 9, 3) := zo_180 (by decide +kernel)
theorem dX8_spread_9 : decode cX8_spread 9 = .ok (.if_icmp .ge 48, 3) := zo_162 (by decide +kernel)
theorem dX8_spread_12 : decode cX8_spread 12 = .ok (.iload_n 1, 1) := zo_27 (by decide +kernel)
theorem dX8_spread_13 : decode cX8_spread 13 = .ok (.iload_n 3, 1) := zo_29 (by decide +kernel)
theorem dX8_spread_14 : decode cX8_spread 14 = .ok (.ishr, 1) := zo_122 (by decide +kernel)
theorem dX8_spread_15 : decode cX8_spread 15 = .ok (.iconst 1, 1) := zo_4 (by decide +kernel)
theorem dX8_spread_16 : decode cX8_spread 16 = .ok (.iand, 1) := zo_126 (by decide +kernel)
theorem dX8_spread_17 : decode cX8_spread 17 = .ok (.ifCond .eq 34, 3) := zo_153 (by decide +kernel)
theorem dX8_spread_20 : decode cX8_spread 20 = .ok (.iconst 0, 1) := zo_3 (by decide +kernel)
theorem dX8_spread_21 : decode cX8_spread 21 = .ok (.istore 4, 2) := zo_54 (by decide +kernel)
theorem dX8_spread_23 : decode cX8_spread 23 = .ok (.iload 4, 2) := zo_21 (by decide +kernel)
theorem dX8_spread_25 : decode cX8_spread 25 = .ok (.aload_n 0, 1) := zo_42 (by decide +kernel)
theorem dX8_spread_26 : decode cX8_spread 26 = .ok (.iload_n 3, 1) := zo_29 (by decide +kernel)
theorem dX8_spread_27 : decode cX8_spread 27 = .ok (.invokevirtual 15, 3) := zo_182 (by decide +kernel)
theorem dX8_spread_30 : decode cX8_spread 30 = .ok (.if_icmp .ge 21, 3) := zo_162 (by decide +kernel)
theorem dX8_spread_33 : decode cX8_spread 33 = .ok (.iload_n 2, 1) := zo_28 (by decide +kernel)
theorem dX8_spread_34 : decode cX8_spread 34 = .ok (.iconst 1, 1) := zo_4 (by decide +kernel)
theorem dX8_spread_35 : decode cX8_spread 35 = .ok (.aload_n 0, 1) := zo_42 (by decide +kernel)
theorem dX8_spread_36 : decode cX8_spread 36 = .ok (.iload_n 3, 1) := zo_29 (by decide +kernel)
theorem dX8_spread_37 : decode cX8_spread 37 = .ok (.iload 4, 2) := zo_21 (by decide +kernel)
theorem dX8_spread_39 : decode cX8_spread 39 = .ok (.invokevirtual 19, 3) := zo_182 (by decide +kernel)
theorem dX8_spread_42 : decode cX8_spread 42 = .ok (.ishl, 1) := zo_120 (by decide +kernel)
theorem dX8_spread_43 : decode cX8_spread 43 = .ok (.ior, 1) := zo_128 (by decide +kernel)
theorem dX8_spread_44 : decode cX8_spread 44 = .ok (.istore_n 2, 1) := zo_61 (by decide +kernel)
theorem dX8_spread_45 : decode cX8_spread 45 = .ok (.iinc 4 1, 3) := zo_132 (by decide +kernel)
theorem dX8_spread_48 : decode cX8_spread 48 = .ok (.goto (-25), 3) := zo_167 (by decide +kernel)
theorem dX8_spread_51 : decode cX8_spread 51 = .ok (.iinc 3 1, 3) := zo_132 (by decide +kernel)
theorem dX8_spread_54 : decode cX8_spread 54 = .ok (.goto (-50), 3) := zo_167 (by decide +kernel)
theorem dX8_spread_57 : decode cX8_spread 57 = .ok (.iload_n 2, 1) := zo_28 (by decide +kernel)
theorem dX8_spread_58 : decode cX8_spread 58 = .ok (.ireturn, 1) := zo_172 (by decide +kernel)
theorem dX8_distance_0 : decode cX8_distance 0 = .ok (.iconst 1, 1) := zo_4 (by decide +kernel)
theorem dX8_distance_1 : decode cX8_distance 1 = .ok (.iload_n 1, 1) := zo_27 (by decide +kernel)
theorem dX8_distance_2 : decode cX8_distance 2 = .ok (.ishl, 1) := zo_120 (by decide +kernel)
theorem dX8_distance_3 : decode cX8_distance 3 = .ok (.istore_n 3, 1) := zo_62 (by decide +kernel)
theorem dX8_distance_4 : decode cX8_distance 4 = .ok (.iconst 0, 1) := zo_3 (by decide +kernel)
theorem dX8_distance_5 : decode cX8_distance 5 = .ok (.istore 4, 2) := zo_54 (by decide +kernel)
theorem dX8_distance_7 : decode cX8_distance 7 = .ok (.iload 4, 2) := zo_21 (by decide +kernel)
theorem dX8_distance_9 : decode cX8_distance 9 = .ok (.bipush 7, 2) := zo_16 (by decide +kernel)
theorem dX8_distance_11 : decode cX8_distance 11 = .ok (.if_icmp .gt 26, 3) := zo_163 (by decide +kernel)
theorem dX8_distance_14 : decode cX8_distance 14 = .ok (.iload_n 3, 1) := zo_29 (by decide +kernel)
theorem dX8_distance_15 : decode cX8_distance 15 = .ok (.iload_n 2, 1) := zo_28 (by decide +kernel)
theorem dX8_distance_16 : decode cX8_distance 16 = .ok (.ishr, 1) := zo_122 (by decide +kernel)
theorem dX8_distance_17 : decode cX8_distance 17 = .ok (.iconst 1, 1) := zo_4 (by decide +kernel)
theorem dX8_distance_18 : decode cX8_distance 18 = .ok (.iand, 1) := zo_126 (by decide +kernel)
theorem dX8_distance_19 : decode cX8_distance 19 = .ok (.ifCond .eq 6, 3) := zo_153 (by decide +kernel)
theorem dX8_distance_22 : decode cX8_distance 22 = .ok (.iload 4, 2) := zo_21 (by decide +kernel)
theorem dX8_distance_24 : decode cX8_distance 24 = .ok (.ireturn, 1) := zo_172 (by decide +kernel)
theorem dX8_distance_25 : decode cX8_distance 25 = .ok (.aload_n 0, 1) := zo_42 (by decide +kernel)
theorem dX8_distance_26 : decode cX8_distance 26 = .ok (.iload_n 3, 1) := zo_29 (by decide +kernel)
theorem dX8_distance_27 : decode cX8_distance 27 = .ok (.invokestatic 23, 3) := zo_184 (by decide +kernel)
theorem dX8_distance_30 : decode cX8_distance 30 = .ok (.istore_n 3, 1) := zo_62 (by decide +kernel)
theorem dX8_distance_31 : decode cX8_distance 31 = .ok (.iinc 4 1, 3) := zo_132 (by decide +kernel)
theorem dX8_distance_34 : decode cX8_distance 34 = .ok (.goto (-27), 3) := zo_167 (by decide +kernel)
theorem dX8_distance_37 : decode cX8_distance 37 = .ok (.iconst (-1), 1) := zo_2 (by decide +kernel)
theorem dX8_distance_38 : decode cX8_distance 38 = .ok (.ireturn, 1) := zo_172 (by decide +kernel)
theorem dX8_reached_0 : decode cX8_reached 0 = .ok (.iconst 1, 1) := zo_4 (by decide +kernel)
theorem dX8_reached_1 : decode cX8_reached 1 = .ok (.iload_n 1, 1) := zo_27 (by decide +kernel)
theorem dX8_reached_2 : decode cX8_reached 2 = .ok (.ishl, 1) := zo_120 (by decide +kernel)
theorem dX8_reached_3 : decode cX8_reached 3 = .ok (.istore_n 2, 1) := zo_61 (by decide +kernel)
theorem dX8_reached_4 : decode cX8_reached 4 = .ok (.iconst 0, 1) := zo_3 (by decide +kernel)
theorem dX8_reached_5 : decode cX8_reached 5 = .ok (.istore_n 3, 1) := zo_62 (by decide +kernel)
theorem dX8_reached_6 : decode cX8_reached 6 = .ok (.iload_n 3, 1) := zo_29 (by decide +kernel)
theorem dX8_reached_7 : decode cX8_reached 7 = .ok (.bipush 7, 2) := zo_16 (by decide +kernel)
theorem dX8_reached_9 : decode cX8_reached 9 = .ok (.if_icmp .ge 15, 3) := zo_162 (by decide +kernel)
theorem dX8_reached_12 : decode cX8_reached 12 = .ok (.aload_n 0, 1) := zo_42 (by decide +kernel)
theorem dX8_reached_13 : decode cX8_reached 13 = .ok (.iload_n 2, 1) := zo_28 (by decide +kernel)
theorem dX8_reached_14 : decode cX8_reached 14 = .ok (.invokestatic 23, 3) := zo_184 (by decide +kernel)
theorem dX8_reached_17 : decode cX8_reached 17 = .ok (.istore_n 2, 1) := zo_61 (by decide +kernel)
theorem dX8_reached_18 : decode cX8_reached 18 = .ok (.iinc 3 1, 3) := zo_132 (by decide +kernel)
theorem dX8_reached_21 : decode cX8_reached 21 = .ok (.goto (-15), 3) := zo_167 (by decide +kernel)
theorem dX8_reached_24 : decode cX8_reached 24 = .ok (.iload_n 2, 1) := zo_28 (by decide +kernel)
theorem dX8_reached_25 : decode cX8_reached 25 = .ok (.ireturn, 1) := zo_172 (by decide +kernel)
theorem dX8_nearest_0 : decode cX8_nearest 0 = .ok (.iconst 1, 1) := zo_4 (by decide +kernel)
theorem dX8_nearest_1 : decode cX8_nearest 1 = .ok (.iload_n 1, 1) := zo_27 (by decide +kernel)
theorem dX8_nearest_2 : decode cX8_nearest 2 = .ok (.ishl, 1) := zo_120 (by decide +kernel)
theorem dX8_nearest_3 : decode cX8_nearest 3 = .ok (.istore_n 2, 1) := zo_61 (by decide +kernel)
theorem dX8_nearest_4 : decode cX8_nearest 4 = .ok (.iconst 0, 1) := zo_3 (by decide +kernel)
theorem dX8_nearest_5 : decode cX8_nearest 5 = .ok (.istore_n 3, 1) := zo_62 (by decide +kernel)
theorem dX8_nearest_6 : decode cX8_nearest 6 = .ok (.iload_n 3, 1) := zo_29 (by decide +kernel)
theorem dX8_nearest_7 : decode cX8_nearest 7 = .ok (.bipush 7, 2) := zo_16 (by decide +kernel)
theorem dX8_nearest_9 : decode cX8_nearest 9 = .ok (.if_icmp .gt 50, 3) := zo_163 (by decide +kernel)
theorem dX8_nearest_12 : decode cX8_nearest 12 = .ok (.iconst 0, 1) := zo_3 (by decide +kernel)
theorem dX8_nearest_13 : decode cX8_nearest 13 = .ok (.istore 4, 2) := zo_54 (by decide +kernel)
theorem dX8_nearest_15 : decode cX8_nearest 15 = .ok (.iload 4, 2) := zo_21 (by decide +kernel)
theorem dX8_nearest_17 : decode cX8_nearest 17 = .ok (.aload_n 0, 1) := zo_42 (by decide +kernel)
theorem dX8_nearest_18 : decode cX8_nearest 18 = .ok (.getfield 9, 3) := zo_180 (by decide +kernel)
theorem dX8_nearest_21 : decode cX8_nearest 21 = .ok (.if_icmp .ge 26, 3) := zo_162 (by decide +kernel)
theorem dX8_nearest_24 : decode cX8_nearest 24 = .ok (.iload_n 2, 1) := zo_28 (by decide +kernel)
theorem dX8_nearest_25 : decode cX8_nearest 25 = .ok (.aload_n 0, 1) := zo_42 (by decide +kernel)
theorem dX8_nearest_26 : decode cX8_nearest 26 = .ok (.getfield 29, 3) := zo_180 (by decide +kernel)
theorem dX8_nearest_29 : decode cX8_nearest 29 = .ok (.iand, 1) := zo_126 (by decide +kernel)
theorem dX8_nearest_30 : decode cX8_nearest 30 = .ok (.iload 4, 2) := zo_21 (by decide +kernel)
theorem dX8_nearest_32 : decode cX8_nearest 32 = .ok (.ishr, 1) := zo_122 (by decide +kernel)
theorem dX8_nearest_33 : decode cX8_nearest 33 = .ok (.iconst 1, 1) := zo_4 (by decide +kernel)
theorem dX8_nearest_34 : decode cX8_nearest 34 = .ok (.iand, 1) := zo_126 (by decide +kernel)
theorem dX8_nearest_35 : decode cX8_nearest 35 = .ok (.ifCond .eq 6, 3) := zo_153 (by decide +kernel)
theorem dX8_nearest_38 : decode cX8_nearest 38 = .ok (.iload 4, 2) := zo_21 (by decide +kernel)
theorem dX8_nearest_40 : decode cX8_nearest 40 = .ok (.ireturn, 1) := zo_172 (by decide +kernel)
theorem dX8_nearest_41 : decode cX8_nearest 41 = .ok (.iinc 4 1, 3) := zo_132 (by decide +kernel)
theorem dX8_nearest_44 : decode cX8_nearest 44 = .ok (.goto (-29), 3) := zo_167 (by decide +kernel)
theorem dX8_nearest_47 : decode cX8_nearest 47 = .ok (.aload_n 0, 1) := zo_42 (by decide +kernel)
theorem dX8_nearest_48 : decode cX8_nearest 48 = .ok (.iload_n 2, 1) := zo_28 (by decide +kernel)
theorem dX8_nearest_49 : decode cX8_nearest 49 = .ok (.invokestatic 23, 3) := zo_184 (by decide +kernel)
theorem dX8_nearest_52 : decode cX8_nearest 52 = .ok (.istore_n 2, 1) := zo_61 (by decide +kernel)
theorem dX8_nearest_53 : decode cX8_nearest 53 = .ok (.iinc 3 1, 3) := zo_132 (by decide +kernel)
theorem dX8_nearest_56 : decode cX8_nearest 56 = .ok (.goto (-50), 3) := zo_167 (by decide +kernel)
theorem dX8_nearest_59 : decode cX8_nearest 59 = .ok (.iconst (-1), 1) := zo_2 (by decide +kernel)
theorem dX8_nearest_60 : decode cX8_nearest 60 = .ok (.ireturn, 1) := zo_172 (by decide +kernel)
theorem dX8_inOneClass_0 : decode cX8_inOneClass 0 = .ok (.aload_n 0, 1) := zo_42 (by decide +kernel)
theorem dX8_inOneClass_1 : decode cX8_inOneClass 1 = .ok (.iload_n 1, 1) := zo_27 (by decide +kernel)
theorem dX8_inOneClass_2 : decode cX8_inOneClass 2 = .ok (.invokestatic 45, 3) := zo_184 (by decide +kernel)
theorem dX8_inOneClass_5 : decode cX8_inOneClass 5 = .ok (.istore_n 2, 1) := zo_61 (by decide +kernel)
theorem dX8_inOneClass_6 : decode cX8_inOneClass 6 = .ok (.iconst 0, 1) := zo_3 (by decide +kernel)
theorem dX8_inOneClass_7 : decode cX8_inOneClass 7 = .ok (.istore_n 3, 1) := zo_62 (by decide +kernel)
theorem dX8_inOneClass_8 : decode cX8_inOneClass 8 = .ok (.iconst 0, 1) := zo_3 (by decide +kernel)
theorem dX8_inOneClass_9 : decode cX8_inOneClass 9 = .ok (.istore 4, 2) := zo_54 (by decide +kernel)
theorem dX8_inOneClass_11 : decode cX8_inOneClass 11 = .ok (.iload 4, 2) := zo_21 (by decide +kernel)
theorem dX8_inOneClass_13 : decode cX8_inOneClass 13 = .ok (.aload_n 0, 1) := zo_42 (by decide +kernel)
theorem dX8_inOneClass_14 : decode cX8_inOneClass 14 = .ok (.getfield 9, 3) := zo_180 (by decide +kernel)
theorem dX8_inOneClass_17 : decode cX8_inOneClass 17 = .ok (.if_icmp .ge 38, 3) := zo_162 (by decide +kernel)
theorem dX8_inOneClass_20 : decode cX8_inOneClass 20 = .ok (.iload_n 2, 1) := zo_28 (by decide +kernel)
theorem dX8_inOneClass_21 : decode cX8_inOneClass 21 = .ok (.iload 4, 2) := zo_21 (by decide +kernel)
theorem dX8_inOneClass_23 : decode cX8_inOneClass 23 = .ok (.ishr, 1) := zo_122 (by decide +kernel)
theorem dX8_inOneClass_24 : decode cX8_inOneClass 24 = .ok (.iconst 1, 1) := zo_4 (by decide +kernel)
theorem dX8_inOneClass_25 : decode cX8_inOneClass 25 = .ok (.iand, 1) := zo_126 (by decide +kernel)
theorem dX8_inOneClass_26 : decode cX8_inOneClass 26 = .ok (.ifCond .eq 23, 3) := zo_153 (by decide +kernel)
theorem dX8_inOneClass_29 : decode cX8_inOneClass 29 = .ok (.aload_n 0, 1) := zo_42 (by decide +kernel)
theorem dX8_inOneClass_30 : decode cX8_inOneClass 30 = .ok (.iload 4, 2) := zo_21 (by decide +kernel)
theorem dX8_inOneClass_32 : decode cX8_inOneClass 32 = .ok (.invokestatic 45, 3) := zo_184 (by decide +kernel)
theorem dX8_inOneClass_35 : decode cX8_inOneClass 35 = .ok (.iload_n 1, 1) := zo_27 (by decide +kernel)
theorem dX8_inOneClass_36 : decode cX8_inOneClass 36 = .ok (.ishr, 1) := zo_122 (by decide +kernel)
theorem dX8_inOneClass_37 : decode cX8_inOneClass 37 = .ok (.iconst 1, 1) := zo_4 (by decide +kernel)
theorem dX8_inOneClass_38 : decode cX8_inOneClass 38 = .ok (.iand, 1) := zo_126 (by decide +kernel)
theorem dX8_inOneClass_39 : decode cX8_inOneClass 39 = .ok (.ifCond .eq 10, 3) := zo_153 (by decide +kernel)
theorem dX8_inOneClass_42 : decode cX8_inOneClass 42 = .ok (.iload_n 3, 1) := zo_29 (by decide +kernel)
theorem dX8_inOneClass_43 : decode cX8_inOneClass 43 = .ok (.iconst 1, 1) := zo_4 (by decide +kernel)
theorem dX8_inOneClass_44 : decode cX8_inOneClass 44 = .ok (.iload 4, 2) := zo_21 (by decide +kernel)
theorem dX8_inOneClass_46 : decode cX8_inOneClass 46 = .ok (.ishl, 1) := zo_120 (by decide +kernel)
theorem dX8_inOneClass_47 : decode cX8_inOneClass 47 = .ok (.ior, 1) := zo_128 (by decide +kernel)
theorem dX8_inOneClass_48 : decode cX8_inOneClass 48 = .ok (.istore_n 3, 1) := zo_62 (by decide +kernel)
theorem dX8_inOneClass_49 : decode cX8_inOneClass 49 = .ok (.iinc 4 1, 3) := zo_132 (by decide +kernel)
theorem dX8_inOneClass_52 : decode cX8_inOneClass 52 = .ok (.goto (-41), 3) := zo_167 (by decide +kernel)
theorem dX8_inOneClass_55 : decode cX8_inOneClass 55 = .ok (.iload_n 3, 1) := zo_29 (by decide +kernel)
theorem dX8_inOneClass_56 : decode cX8_inOneClass 56 = .ok (.ireturn, 1) := zo_172 (by decide +kernel)
theorem dX8_howManyLead_0 : decode cX8_howManyLead 0 = .ok (.iconst 0, 1) := zo_3 (by decide +kernel)
theorem dX8_howManyLead_1 : decode cX8_howManyLead 1 = .ok (.istore_n 3, 1) := zo_62 (by decide +kernel)
theorem dX8_howManyLead_2 : decode cX8_howManyLead 2 = .ok (.iconst 0, 1) := zo_3 (by decide +kernel)
theorem dX8_howManyLead_3 : decode cX8_howManyLead 3 = .ok (.istore 4, 2) := zo_54 (by decide +kernel)
theorem dX8_howManyLead_5 : decode cX8_howManyLead 5 = .ok (.iload 4, 2) := zo_21 (by decide +kernel)
theorem dX8_howManyLead_7 : decode cX8_howManyLead 7 = .ok (.aload_n 0, 1) := zo_42 (by decide +kernel)
theorem dX8_howManyLead_8 : decode cX8_howManyLead 8 = .ok (.iload_n 1, 1) := zo_27 (by decide +kernel)
theorem dX8_howManyLead_9 : decode cX8_howManyLead 9 = .ok (.invokevirtual 15, 3) := zo_182 (by decide +kernel)
theorem dX8_howManyLead_12 : decode cX8_howManyLead 12 = .ok (.if_icmp .ge 28, 3) := zo_162 (by decide +kernel)
theorem dX8_howManyLead_15 : decode cX8_howManyLead 15 = .ok (.iload_n 3, 1) := zo_29 (by decide +kernel)
theorem dX8_howManyLead_16 : decode cX8_howManyLead 16 = .ok (.aload_n 0, 1) := zo_42 (by decide +kernel)
theorem dX8_howManyLead_17 : decode cX8_howManyLead 17 = .ok (.iload_n 1, 1) := zo_27 (by decide +kernel)
theorem dX8_howManyLead_18 : decode cX8_howManyLead 18 = .ok (.iload 4, 2) := zo_21 (by decide +kernel)
theorem dX8_howManyLead_20 : decode cX8_howManyLead 20 = .ok (.invokevirtual 19, 3) := zo_182 (by decide +kernel)
theorem dX8_howManyLead_23 : decode cX8_howManyLead 23 = .ok (.iload_n 2, 1) := zo_28 (by decide +kernel)
theorem dX8_howManyLead_24 : decode cX8_howManyLead 24 = .ok (.if_icmp .ne 7, 3) := zo_160 (by decide +kernel)
theorem dX8_howManyLead_27 : decode cX8_howManyLead 27 = .ok (.iconst 1, 1) := zo_4 (by decide +kernel)
theorem dX8_howManyLead_28 : decode cX8_howManyLead 28 = .ok (.goto 4, 3) := zo_167 (by decide +kernel)
theorem dX8_howManyLead_31 : decode cX8_howManyLead 31 = .ok (.iconst 0, 1) := zo_3 (by decide +kernel)
theorem dX8_howManyLead_32 : decode cX8_howManyLead 32 = .ok (.iadd, 1) := zo_96 (by decide +kernel)
theorem dX8_howManyLead_33 : decode cX8_howManyLead 33 = .ok (.istore_n 3, 1) := zo_62 (by decide +kernel)
theorem dX8_howManyLead_34 : decode cX8_howManyLead 34 = .ok (.iinc 4 1, 3) := zo_132 (by decide +kernel)
theorem dX8_howManyLead_37 : decode cX8_howManyLead 37 = .ok (.goto (-32), 3) := zo_167 (by decide +kernel)
theorem dX8_howManyLead_40 : decode cX8_howManyLead 40 = .ok (.iload_n 3, 1) := zo_29 (by decide +kernel)
theorem dX8_howManyLead_41 : decode cX8_howManyLead 41 = .ok (.ireturn, 1) := zo_172 (by decide +kernel)
theorem dX8_howManyLeadTo_0 : decode cX8_howManyLeadTo 0 = .ok (.iconst 0, 1) := zo_3 (by decide +kernel)
theorem dX8_howManyLeadTo_1 : decode cX8_howManyLeadTo 1 = .ok (.istore_n 2, 1) := zo_61 (by decide +kernel)
theorem dX8_howManyLeadTo_2 : decode cX8_howManyLeadTo 2 = .ok (.iconst 0, 1) := zo_3 (by decide +kernel)
theorem dX8_howManyLeadTo_3 : decode cX8_howManyLeadTo 3 = .ok (.istore_n 3, 1) := zo_62 (by decide +kernel)
theorem dX8_howManyLeadTo_4 : decode cX8_howManyLeadTo 4 = .ok (.iload_n 3, 1) := zo_29 (by decide +kernel)
theorem dX8_howManyLeadTo_5 : decode cX8_howManyLeadTo 5 = .ok (.aload_n 0, 1) := zo_42 (by decide +kernel)
theorem dX8_howManyLeadTo_6 : decode cX8_howManyLeadTo 6 = .ok (.getfield 9, 3) := zo_180 (by decide +kernel)
theorem dX8_howManyLeadTo_9 : decode cX8_howManyLeadTo 9 = .ok (.if_icmp .ge 18, 3) := zo_162 (by decide +kernel)
theorem dX8_howManyLeadTo_12 : decode cX8_howManyLeadTo 12 = .ok (.iload_n 2, 1) := zo_28 (by decide +kernel)
theorem dX8_howManyLeadTo_13 : decode cX8_howManyLeadTo 13 = .ok (.aload_n 0, 1) := zo_42 (by decide +kernel)
theorem dX8_howManyLeadTo_14 : decode cX8_howManyLeadTo 14 = .ok (.iload_n 3, 1) := zo_29 (by decide +kernel)
theorem dX8_howManyLeadTo_15 : decode cX8_howManyLeadTo 15 = .ok (.iload_n 1, 1) := zo_27 (by decide +kernel)
theorem dX8_howManyLeadTo_16 : decode cX8_howManyLeadTo 16 = .ok (.invokestatic 52, 3) := zo_184 (by decide +kernel)
theorem dX8_howManyLeadTo_19 : decode cX8_howManyLeadTo 19 = .ok (.iadd, 1) := zo_96 (by decide +kernel)
theorem dX8_howManyLeadTo_20 : decode cX8_howManyLeadTo 20 = .ok (.istore_n 2, 1) := zo_61 (by decide +kernel)
theorem dX8_howManyLeadTo_21 : decode cX8_howManyLeadTo 21 = .ok (.iinc 3 1, 3) := zo_132 (by decide +kernel)
theorem dX8_howManyLeadTo_24 : decode cX8_howManyLeadTo 24 = .ok (.goto (-20), 3) := zo_167 (by decide +kernel)
theorem dX8_howManyLeadTo_27 : decode cX8_howManyLeadTo 27 = .ok (.iload_n 2, 1) := zo_28 (by decide +kernel)
theorem dX8_howManyLeadTo_28 : decode cX8_howManyLeadTo 28 = .ok (.ireturn, 1) := zo_172 (by decide +kernel)
theorem dX8_heads_0 : decode cX8_heads 0 = .ok (.iconst 0, 1) := zo_3 (by decide +kernel)
theorem dX8_heads_1 : decode cX8_heads 1 = .ok (.istore_n 1, 1) := zo_60 (by decide +kernel)
theorem dX8_heads_2 : decode cX8_heads 2 = .ok (.iconst 0, 1) := zo_3 (by decide +kernel)
theorem dX8_heads_3 : decode cX8_heads 3 = .ok (.istore_n 2, 1) := zo_61 (by decide +kernel)
theorem dX8_heads_4 : decode cX8_heads 4 = .ok (.iload_n 2, 1) := zo_28 (by decide +kernel)
theorem dX8_heads_5 : decode cX8_heads 5 = .ok (.aload_n 0, 1) := zo_42 (by decide +kernel)
theorem dX8_heads_6 : decode cX8_heads 6 = .ok (.getfield 9, 3) := zo_180 (by decide +kernel)
theorem dX8_heads_9 : decode cX8_heads 9 = .ok (.if_icmp .ge 25, 3) := zo_162 (by decide +kernel)
theorem dX8_heads_12 : decode cX8_heads 12 = .ok (.iload_n 1, 1) := zo_27 (by decide +kernel)
theorem dX8_heads_13 : decode cX8_heads 13 = .ok (.aload_n 0, 1) := zo_42 (by decide +kernel)
theorem dX8_heads_14 : decode cX8_heads 14 = .ok (.iconst 1, 1) := zo_4 (by decide +kernel)
theorem dX8_heads_15 : decode cX8_heads 15 = .ok (.iload_n 2, 1) := zo_28 (by decide +kernel)
theorem dX8_heads_16 : decode cX8_heads 16 = .ok (.ishl, 1) := zo_120 (by decide +kernel)
theorem dX8_heads_17 : decode cX8_heads 17 = .ok (.invokestatic 23, 3) := zo_184 (by decide +kernel)
theorem dX8_heads_20 : decode cX8_heads 20 = .ok (.iconst 1, 1) := zo_4 (by decide +kernel)
theorem dX8_heads_21 : decode cX8_heads 21 = .ok (.iload_n 2, 1) := zo_28 (by decide +kernel)
theorem dX8_heads_22 : decode cX8_heads 22 = .ok (.ishl, 1) := zo_120 (by decide +kernel)
theorem dX8_heads_23 : decode cX8_heads 23 = .ok (.iconst (-1), 1) := zo_2 (by decide +kernel)
theorem dX8_heads_24 : decode cX8_heads 24 = .ok (.ixor, 1) := zo_130 (by decide +kernel)
theorem dX8_heads_25 : decode cX8_heads 25 = .ok (.iand, 1) := zo_126 (by decide +kernel)
theorem dX8_heads_26 : decode cX8_heads 26 = .ok (.ior, 1) := zo_128 (by decide +kernel)
theorem dX8_heads_27 : decode cX8_heads 27 = .ok (.istore_n 1, 1) := zo_60 (by decide +kernel)
theorem dX8_heads_28 : decode cX8_heads 28 = .ok (.iinc 2 1, 3) := zo_132 (by decide +kernel)
theorem dX8_heads_31 : decode cX8_heads 31 = .ok (.goto (-27), 3) := zo_167 (by decide +kernel)
theorem dX8_heads_34 : decode cX8_heads 34 = .ok (.iload_n 1, 1) := zo_27 (by decide +kernel)
theorem dX8_heads_35 : decode cX8_heads 35 = .ok (.iconst (-1), 1) := zo_2 (by decide +kernel)
theorem dX8_heads_36 : decode cX8_heads 36 = .ok (.ixor, 1) := zo_130 (by decide +kernel)
theorem dX8_heads_37 : decode cX8_heads 37 = .ok (.iconst 1, 1) := zo_4 (by decide +kernel)
theorem dX8_heads_38 : decode cX8_heads 38 = .ok (.aload_n 0, 1) := zo_42 (by decide +kernel)
theorem dX8_heads_39 : decode cX8_heads 39 = .ok (.getfield 9, 3) := zo_180 (by decide +kernel)
theorem dX8_heads_42 : decode cX8_heads 42 = .ok (.ishl, 1) := zo_120 (by decide +kernel)
theorem dX8_heads_43 : decode cX8_heads 43 = .ok (.iconst 1, 1) := zo_4 (by decide +kernel)
theorem dX8_heads_44 : decode cX8_heads 44 = .ok (.isub, 1) := zo_100 (by decide +kernel)
theorem dX8_heads_45 : decode cX8_heads 45 = .ok (.iand, 1) := zo_126 (by decide +kernel)
theorem dX8_heads_46 : decode cX8_heads 46 = .ok (.ireturn, 1) := zo_172 (by decide +kernel)
theorem dX8_ends_0 : decode cX8_ends 0 = .ok (.iconst 0, 1) := zo_3 (by decide +kernel)
theorem dX8_ends_1 : decode cX8_ends 1 = .ok (.istore_n 1, 1) := zo_60 (by decide +kernel)
theorem dX8_ends_2 : decode cX8_ends 2 = .ok (.iconst 0, 1) := zo_3 (by decide +kernel)
theorem dX8_ends_3 : decode cX8_ends 3 = .ok (.istore_n 2, 1) := zo_61 (by decide +kernel)
theorem dX8_ends_4 : decode cX8_ends 4 = .ok (.iload_n 2, 1) := zo_28 (by decide +kernel)
theorem dX8_ends_5 : decode cX8_ends 5 = .ok (.aload_n 0, 1) := zo_42 (by decide +kernel)
theorem dX8_ends_6 : decode cX8_ends 6 = .ok (.getfield 9, 3) := zo_180 (by decide +kernel)
theorem dX8_ends_9 : decode cX8_ends 9 = .ok (.if_icmp .ge 35, 3) := zo_162 (by decide +kernel)
theorem dX8_ends_12 : decode cX8_ends 12 = .ok (.iload_n 1, 1) := zo_27 (by decide +kernel)
theorem dX8_ends_13 : decode cX8_ends 13 = .ok (.aload_n 0, 1) := zo_42 (by decide +kernel)
theorem dX8_ends_14 : decode cX8_ends 14 = .ok (.iload_n 2, 1) := zo_28 (by decide +kernel)
theorem dX8_ends_15 : decode cX8_ends 15 = .ok (.invokevirtual 15, 3) := zo_182 (by decide +kernel)
theorem dX8_ends_18 : decode cX8_ends 18 = .ok (.ifCond .ne 17, 3) := zo_154 (by decide +kernel)
theorem dX8_ends_21 : decode cX8_ends 21 = .ok (.aload_n 0, 1) := zo_42 (by decide +kernel)
theorem dX8_ends_22 : decode cX8_ends 22 = .ok (.iload_n 2, 1) := zo_28 (by decide +kernel)
theorem dX8_ends_23 : decode cX8_ends 23 = .ok (.invokevirtual 48, 3) := zo_182 (by decide +kernel)
theorem dX8_ends_26 : decode cX8_ends 26 = .ok (.ifCond .ne 9, 3) := zo_154 (by decide +kernel)
theorem dX8_ends_29 : decode cX8_ends 29 = .ok (.iconst 1, 1) := zo_4 (by decide +kernel)
theorem dX8_ends_30 : decode cX8_ends 30 = .ok (.iload_n 2, 1) := zo_28 (by decide +kernel)
theorem dX8_ends_31 : decode cX8_ends 31 = .ok (.ishl, 1) := zo_120 (by decide +kernel)
theorem dX8_ends_32 : decode cX8_ends 32 = .ok (.goto 4, 3) := zo_167 (by decide +kernel)
theorem dX8_ends_35 : decode cX8_ends 35 = .ok (.iconst 0, 1) := zo_3 (by decide +kernel)
theorem dX8_ends_36 : decode cX8_ends 36 = .ok (.ior, 1) := zo_128 (by decide +kernel)
theorem dX8_ends_37 : decode cX8_ends 37 = .ok (.istore_n 1, 1) := zo_60 (by decide +kernel)
theorem dX8_ends_38 : decode cX8_ends 38 = .ok (.iinc 2 1, 3) := zo_132 (by decide +kernel)
theorem dX8_ends_41 : decode cX8_ends 41 = .ok (.goto (-37), 3) := zo_167 (by decide +kernel)
theorem dX8_ends_44 : decode cX8_ends 44 = .ok (.iload_n 1, 1) := zo_27 (by decide +kernel)
theorem dX8_ends_45 : decode cX8_ends 45 = .ok (.ireturn, 1) := zo_172 (by decide +kernel)
theorem dX8_loops_0 : decode cX8_loops 0 = .ok (.iconst 0, 1) := zo_3 (by decide +kernel)
theorem dX8_loops_1 : decode cX8_loops 1 = .ok (.istore_n 1, 1) := zo_60 (by decide +kernel)
theorem dX8_loops_2 : decode cX8_loops 2 = .ok (.iconst 0, 1) := zo_3 (by decide +kernel)
theorem dX8_loops_3 : decode cX8_loops 3 = .ok (.istore_n 2, 1) := zo_61 (by decide +kernel)
theorem dX8_loops_4 : decode cX8_loops 4 = .ok (.iload_n 2, 1) := zo_28 (by decide +kernel)
theorem dX8_loops_5 : decode cX8_loops 5 = .ok (.aload_n 0, 1) := zo_42 (by decide +kernel)
theorem dX8_loops_6 : decode cX8_loops 6 = .ok (.getfield 9, 3) := zo_180 (by decide +kernel)
theorem dX8_loops_9 : decode cX8_loops 9 = .ok (.if_icmp .ge 18, 3) := zo_162 (by decide +kernel)
theorem dX8_loops_12 : decode cX8_loops 12 = .ok (.iload_n 1, 1) := zo_27 (by decide +kernel)
theorem dX8_loops_13 : decode cX8_loops 13 = .ok (.aload_n 0, 1) := zo_42 (by decide +kernel)
theorem dX8_loops_14 : decode cX8_loops 14 = .ok (.iload_n 2, 1) := zo_28 (by decide +kernel)
theorem dX8_loops_15 : decode cX8_loops 15 = .ok (.iload_n 2, 1) := zo_28 (by decide +kernel)
theorem dX8_loops_16 : decode cX8_loops 16 = .ok (.invokestatic 52, 3) := zo_184 (by decide +kernel)
theorem dX8_loops_19 : decode cX8_loops 19 = .ok (.iadd, 1) := zo_96 (by decide +kernel)
theorem dX8_loops_20 : decode cX8_loops 20 = .ok (.istore_n 1, 1) := zo_60 (by decide +kernel)
theorem dX8_loops_21 : decode cX8_loops 21 = .ok (.iinc 2 1, 3) := zo_132 (by decide +kernel)
theorem dX8_loops_24 : decode cX8_loops 24 = .ok (.goto (-20), 3) := zo_167 (by decide +kernel)
theorem dX8_loops_27 : decode cX8_loops 27 = .ok (.iload_n 1, 1) := zo_27 (by decide +kernel)
theorem dX8_loops_28 : decode cX8_loops 28 = .ok (.ireturn, 1) := zo_172 (by decide +kernel)
theorem dX8_doubles_0 : decode cX8_doubles 0 = .ok (.iconst 0, 1) := zo_3 (by decide +kernel)
theorem dX8_doubles_1 : decode cX8_doubles 1 = .ok (.istore_n 1, 1) := zo_60 (by decide +kernel)
theorem dX8_doubles_2 : decode cX8_doubles 2 = .ok (.iconst 0, 1) := zo_3 (by decide +kernel)
theorem dX8_doubles_3 : decode cX8_doubles 3 = .ok (.istore_n 2, 1) := zo_61 (by decide +kernel)
theorem dX8_doubles_4 : decode cX8_doubles 4 = .ok (.iload_n 2, 1) := zo_28 (by decide +kernel)
theorem dX8_doubles_5 : decode cX8_doubles 5 = .ok (.aload_n 0, 1) := zo_42 (by decide +kernel)
theorem dX8_doubles_6 : decode cX8_doubles 6 = .ok (.getfield 9, 3) := zo_180 (by decide +kernel)
theorem dX8_doubles_9 : decode cX8_doubles 9 = .ok (.if_icmp .ge 45, 3) := zo_162 (by decide +kernel)
theorem dX8_doubles_12 : decode cX8_doubles 12 = .ok (.iconst 0, 1) := zo_3 (by decide +kernel)
theorem dX8_doubles_13 : decode cX8_doubles 13 = .ok (.istore_n 3, 1) := zo_62 (by decide +kernel)
theorem dX8_doubles_14 : decode cX8_doubles 14 = .ok (.iload_n 3, 1) := zo_29 (by decide +kernel)
theorem dX8_doubles_15 : decode cX8_doubles 15 = .ok (.aload_n 0, 1) := zo_42 (by decide +kernel)
theorem dX8_doubles_16 : decode cX8_doubles 16 = .ok (.getfield 9, 3) := zo_180 (by decide +kernel)
theorem dX8_doubles_19 : decode cX8_doubles 19 = .ok (.if_icmp .ge 29, 3) := zo_162 (by decide +kernel)
theorem dX8_doubles_22 : decode cX8_doubles 22 = .ok (.aload_n 0, 1) := zo_42 (by decide +kernel)
theorem dX8_doubles_23 : decode cX8_doubles 23 = .ok (.iload_n 2, 1) := zo_28 (by decide +kernel)
theorem dX8_doubles_24 : decode cX8_doubles 24 = .ok (.iload_n 3, 1) := zo_29 (by decide +kernel)
theorem dX8_doubles_25 : decode cX8_doubles 25 = .ok (.invokestatic 52, 3) := zo_184 (by decide +kernel)
theorem dX8_doubles_28 : decode cX8_doubles 28 = .ok (.istore 4, 2) := zo_54 (by decide +kernel)
theorem dX8_doubles_30 : decode cX8_doubles 30 = .ok (.iload_n 1, 1) := zo_27 (by decide +kernel)
theorem dX8_doubles_31 : decode cX8_doubles 31 = .ok (.iload 4, 2) := zo_21 (by decide +kernel)
theorem dX8_doubles_33 : decode cX8_doubles 33 = .ok (.iload 4, 2) := zo_21 (by decide +kernel)
theorem dX8_doubles_35 : decode cX8_doubles 35 = .ok (.iconst 1, 1) := zo_4 (by decide +kernel)
theorem dX8_doubles_36 : decode cX8_doubles 36 = .ok (.isub, 1) := zo_100 (by decide +kernel)
theorem dX8_doubles_37 : decode cX8_doubles 37 = .ok (.imul, 1) := zo_104 (by decide +kernel)
theorem dX8_doubles_38 : decode cX8_doubles 38 = .ok (.iconst 2, 1) := zo_5 (by decide +kernel)
theorem dX8_doubles_39 : decode cX8_doubles 39 = .ok (.idiv, 1) := zo_108 (by decide +kernel)
theorem dX8_doubles_40 : decode cX8_doubles 40 = .ok (.iadd, 1) := zo_96 (by decide +kernel)
theorem dX8_doubles_41 : decode cX8_doubles 41 = .ok (.istore_n 1, 1) := zo_60 (by decide +kernel)
theorem dX8_doubles_42 : decode cX8_doubles 42 = .ok (.iinc 3 1, 3) := zo_132 (by decide +kernel)
theorem dX8_doubles_45 : decode cX8_doubles 45 = .ok (.goto (-31), 3) := zo_167 (by decide +kernel)
theorem dX8_doubles_48 : decode cX8_doubles 48 = .ok (.iinc 2 1, 3) := zo_132 (by decide +kernel)
theorem dX8_doubles_51 : decode cX8_doubles 51 = .ok (.goto (-47), 3) := zo_167 (by decide +kernel)
theorem dX8_doubles_54 : decode cX8_doubles 54 = .ok (.iload_n 1, 1) := zo_27 (by decide +kernel)
theorem dX8_doubles_55 : decode cX8_doubles 55 = .ok (.ireturn, 1) := zo_172 (by decide +kernel)
theorem dX8_even_0 : decode cX8_even 0 = .ok (.iconst 0, 1) := zo_3 (by decide +kernel)
theorem dX8_even_1 : decode cX8_even 1 = .ok (.istore_n 1, 1) := zo_60 (by decide +kernel)
theorem dX8_even_2 : decode cX8_even 2 = .ok (.iconst 0, 1) := zo_3 (by decide +kernel)
theorem dX8_even_3 : decode cX8_even 3 = .ok (.istore_n 2, 1) := zo_61 (by decide +kernel)
theorem dX8_even_4 : decode cX8_even 4 = .ok (.iload_n 2, 1) := zo_28 (by decide +kernel)
theorem dX8_even_5 : decode cX8_even 5 = .ok (.aload_n 0, 1) := zo_42 (by decide +kernel)
theorem dX8_even_6 : decode cX8_even 6 = .ok (.getfield 9, 3) := zo_180 (by decide +kernel)
theorem dX8_even_9 : decode cX8_even 9 = .ok (.if_icmp .ge 32, 3) := zo_162 (by decide +kernel)
theorem dX8_even_12 : decode cX8_even 12 = .ok (.iload_n 1, 1) := zo_27 (by decide +kernel)
theorem dX8_even_13 : decode cX8_even 13 = .ok (.aload_n 0, 1) := zo_42 (by decide +kernel)
theorem dX8_even_14 : decode cX8_even 14 = .ok (.iload_n 2, 1) := zo_28 (by decide +kernel)
theorem dX8_even_15 : decode cX8_even 15 = .ok (.invokestatic 56, 3) := zo_184 (by decide +kernel)
theorem dX8_even_18 : decode cX8_even 18 = .ok (.aload_n 0, 1) := zo_42 (by decide +kernel)
theorem dX8_even_19 : decode cX8_even 19 = .ok (.iload_n 2, 1) := zo_28 (by decide +kernel)
theorem dX8_even_20 : decode cX8_even 20 = .ok (.invokevirtual 15, 3) := zo_182 (by decide +kernel)
theorem dX8_even_23 : decode cX8_even 23 = .ok (.if_icmp .ne 9, 3) := zo_160 (by decide +kernel)
theorem dX8_even_26 : decode cX8_even 26 = .ok (.iconst 1, 1) := zo_4 (by decide +kernel)
theorem dX8_even_27 : decode cX8_even 27 = .ok (.iload_n 2, 1) := zo_28 (by decide +kernel)
theorem dX8_even_28 : decode cX8_even 28 = .ok (.ishl, 1) := zo_120 (by decide +kernel)
theorem dX8_even_29 : decode cX8_even 29 = .ok (.goto 4, 3) := zo_167 (by decide +kernel)
theorem dX8_even_32 : decode cX8_even 32 = .ok (.iconst 0, 1) := zo_3 (by decide +kernel)
theorem dX8_even_33 : decode cX8_even 33 = .ok (.ior, 1) := zo_128 (by decide +kernel)
theorem dX8_even_34 : decode cX8_even 34 = .ok (.istore_n 1, 1) := zo_60 (by decide +kernel)
theorem dX8_even_35 : decode cX8_even 35 = .ok (.iinc 2 1, 3) := zo_132 (by decide +kernel)
theorem dX8_even_38 : decode cX8_even 38 = .ok (.goto (-34), 3) := zo_167 (by decide +kernel)
theorem dX8_even_41 : decode cX8_even 41 = .ok (.iload_n 1, 1) := zo_27 (by decide +kernel)
theorem dX8_even_42 : decode cX8_even 42 = .ok (.ireturn, 1) := zo_172 (by decide +kernel)
theorem dX8_busy_0 : decode cX8_busy 0 = .ok (.iconst (-1), 1) := zo_2 (by decide +kernel)
theorem dX8_busy_1 : decode cX8_busy 1 = .ok (.istore_n 1, 1) := zo_60 (by decide +kernel)
theorem dX8_busy_2 : decode cX8_busy 2 = .ok (.iconst (-1), 1) := zo_2 (by decide +kernel)
theorem dX8_busy_3 : decode cX8_busy 3 = .ok (.istore_n 2, 1) := zo_61 (by decide +kernel)
theorem dX8_busy_4 : decode cX8_busy 4 = .ok (.iconst 0, 1) := zo_3 (by decide +kernel)
theorem dX8_busy_5 : decode cX8_busy 5 = .ok (.istore_n 3, 1) := zo_62 (by decide +kernel)
theorem dX8_busy_6 : decode cX8_busy 6 = .ok (.iload_n 3, 1) := zo_29 (by decide +kernel)
theorem dX8_busy_7 : decode cX8_busy 7 = .ok (.aload_n 0, 1) := zo_42 (by decide +kernel)
theorem dX8_busy_8 : decode cX8_busy 8 = .ok (.getfield 9, 3) := zo_180 (by decide +kernel)
theorem dX8_busy_11 : decode cX8_busy 11 = .ok (.if_icmp .ge 27, 3) := zo_162 (by decide +kernel)
theorem dX8_busy_14 : decode cX8_busy 14 = .ok (.aload_n 0, 1) := zo_42 (by decide +kernel)
theorem dX8_busy_15 : decode cX8_busy 15 = .ok (.iload_n 3, 1) := zo_29 (by decide +kernel)
theorem dX8_busy_16 : decode cX8_busy 16 = .ok (.invokestatic 56, 3) := zo_184 (by decide +kernel)
theorem dX8_busy_19 : decode cX8_busy 19 = .ok (.istore 4, 2) := zo_54 (by decide +kernel)
theorem dX8_busy_21 : decode cX8_busy 21 = .ok (.iload 4, 2) := zo_21 (by decide +kernel)
theorem dX8_busy_23 : decode cX8_busy 23 = .ok (.iload_n 2, 1) := zo_28 (by decide +kernel)
theorem dX8_busy_24 : decode cX8_busy 24 = .ok (.if_icmp .le 8, 3) := zo_164 (by decide +kernel)
theorem dX8_busy_27 : decode cX8_busy 27 = .ok (.iload 4, 2) := zo_21 (by decide +kernel)
theorem dX8_busy_29 : decode cX8_busy 29 = .ok (.istore_n 2, 1) := zo_61 (by decide +kernel)
theorem dX8_busy_30 : decode cX8_busy 30 = .ok (.iload_n 3, 1) := zo_29 (by decide +kernel)
theorem dX8_busy_31 : decode cX8_busy 31 = .ok (.istore_n 1, 1) := zo_60 (by decide +kernel)
theorem dX8_busy_32 : decode cX8_busy 32 = .ok (.iinc 3 1, 3) := zo_132 (by decide +kernel)
theorem dX8_busy_35 : decode cX8_busy 35 = .ok (.goto (-29), 3) := zo_167 (by decide +kernel)
theorem dX8_busy_38 : decode cX8_busy 38 = .ok (.iload_n 1, 1) := zo_27 (by decide +kernel)
theorem dX8_busy_39 : decode cX8_busy 39 = .ok (.ireturn, 1) := zo_172 (by decide +kernel)
theorem dJ6_bitCount_0f7a4_0 : decode cJ6_bitCount_0f7a4 0 = .ok (.iload_n 0, 1) := zo_26 (by decide +kernel)
theorem dJ6_bitCount_0f7a4_1 : decode cJ6_bitCount_0f7a4 1 = .ok (.iload_n 0, 1) := zo_26 (by decide +kernel)
theorem dJ6_bitCount_0f7a4_2 : decode cJ6_bitCount_0f7a4 2 = .ok (.iconst 1, 1) := zo_4 (by decide +kernel)
theorem dJ6_bitCount_0f7a4_3 : decode cJ6_bitCount_0f7a4 3 = .ok (.iushr, 1) := zo_124 (by decide +kernel)
theorem dJ6_bitCount_0f7a4_4 : decode cJ6_bitCount_0f7a4 4 = .ok (.ldc_w 265, 3) := zo_19 (by decide +kernel)
theorem dJ6_bitCount_0f7a4_7 : decode cJ6_bitCount_0f7a4 7 = .ok (.iand, 1) := zo_126 (by decide +kernel)
theorem dJ6_bitCount_0f7a4_8 : decode cJ6_bitCount_0f7a4 8 = .ok (.isub, 1) := zo_100 (by decide +kernel)
theorem dJ6_bitCount_0f7a4_9 : decode cJ6_bitCount_0f7a4 9 = .ok (.istore_n 0, 1) := zo_59 (by decide +kernel)
theorem dJ6_bitCount_0f7a4_10 : decode cJ6_bitCount_0f7a4 10 = .ok (.iload_n 0, 1) := zo_26 (by decide +kernel)
theorem dJ6_bitCount_0f7a4_11 : decode cJ6_bitCount_0f7a4 11 = .ok (.ldc_w 266, 3) := zo_19 (by decide +kernel)
theorem dJ6_bitCount_0f7a4_14 : decode cJ6_bitCount_0f7a4 14 = .ok (.iand, 1) := zo_126 (by decide +kernel)
theorem dJ6_bitCount_0f7a4_15 : decode cJ6_bitCount_0f7a4 15 = .ok (.iload_n 0, 1) := zo_26 (by decide +kernel)
theorem dJ6_bitCount_0f7a4_16 : decode cJ6_bitCount_0f7a4 16 = .ok (.iconst 2, 1) := zo_5 (by decide +kernel)
theorem dJ6_bitCount_0f7a4_17 : decode cJ6_bitCount_0f7a4 17 = .ok (.iushr, 1) := zo_124 (by decide +kernel)
theorem dJ6_bitCount_0f7a4_18 : decode cJ6_bitCount_0f7a4 18 = .ok (.ldc_w 266, 3) := zo_19 (by decide +kernel)
theorem dJ6_bitCount_0f7a4_21 : decode cJ6_bitCount_0f7a4 21 = .ok (.iand, 1) := zo_126 (by decide +kernel)
theorem dJ6_bitCount_0f7a4_22 : decode cJ6_bitCount_0f7a4 22 = .ok (.iadd, 1) := zo_96 (by decide +kernel)
theorem dJ6_bitCount_0f7a4_23 : decode cJ6_bitCount_0f7a4 23 = .ok (.istore_n 0, 1) := zo_59 (by decide +kernel)
theorem dJ6_bitCount_0f7a4_24 : decode cJ6_bitCount_0f7a4 24 = .ok (.iload_n 0, 1) := zo_26 (by decide +kernel)
theorem dJ6_bitCount_0f7a4_25 : decode cJ6_bitCount_0f7a4 25 = .ok (.iload_n 0, 1) := zo_26 (by decide +kernel)
theorem dJ6_bitCount_0f7a4_26 : decode cJ6_bitCount_0f7a4 26 = .ok (.iconst 4, 1) := zo_7 (by decide +kernel)
theorem dJ6_bitCount_0f7a4_27 : decode cJ6_bitCount_0f7a4 27 = .ok (.iushr, 1) := zo_124 (by decide +kernel)
theorem dJ6_bitCount_0f7a4_28 : decode cJ6_bitCount_0f7a4 28 = .ok (.iadd, 1) := zo_96 (by decide +kernel)
theorem dJ6_bitCount_0f7a4_29 : decode cJ6_bitCount_0f7a4 29 = .ok (.ldc_w 267, 3) := zo_19 (by decide +kernel)
theorem dJ6_bitCount_0f7a4_32 : decode cJ6_bitCount_0f7a4 32 = .ok (.iand, 1) := zo_126 (by decide +kernel)
theorem dJ6_bitCount_0f7a4_33 : decode cJ6_bitCount_0f7a4 33 = .ok (.istore_n 0, 1) := zo_59 (by decide +kernel)
theorem dJ6_bitCount_0f7a4_34 : decode cJ6_bitCount_0f7a4 34 = .ok (.iload_n 0, 1) := zo_26 (by decide +kernel)
theorem dJ6_bitCount_0f7a4_35 : decode cJ6_bitCount_0f7a4 35 = .ok (.iload_n 0, 1) := zo_26 (by decide +kernel)
theorem dJ6_bitCount_0f7a4_36 : decode cJ6_bitCount_0f7a4 36 = .ok (.bipush 8, 2) := zo_16 (by decide +kernel)
theorem dJ6_bitCount_0f7a4_38 : decode cJ6_bitCount_0f7a4 38 = .ok (.iushr, 1) := zo_124 (by decide +kernel)
theorem dJ6_bitCount_0f7a4_39 : decode cJ6_bitCount_0f7a4 39 = .ok (.iadd, 1) := zo_96 (by decide +kernel)
theorem dJ6_bitCount_0f7a4_40 : decode cJ6_bitCount_0f7a4 40 = .ok (.istore_n 0, 1) := zo_59 (by decide +kernel)
theorem dJ6_bitCount_0f7a4_41 : decode cJ6_bitCount_0f7a4 41 = .ok (.iload_n 0, 1) := zo_26 (by decide +kernel)
theorem dJ6_bitCount_0f7a4_42 : decode cJ6_bitCount_0f7a4 42 = .ok (.iload_n 0, 1) := zo_26 (by decide +kernel)
theorem dJ6_bitCount_0f7a4_43 : decode cJ6_bitCount_0f7a4 43 = .ok (.bipush 16, 2) := zo_16 (by decide +kernel)
theorem dJ6_bitCount_0f7a4_45 : decode cJ6_bitCount_0f7a4 45 = .ok (.iushr, 1) := zo_124 (by decide +kernel)
theorem dJ6_bitCount_0f7a4_46 : decode cJ6_bitCount_0f7a4 46 = .ok (.iadd, 1) := zo_96 (by decide +kernel)
theorem dJ6_bitCount_0f7a4_47 : decode cJ6_bitCount_0f7a4 47 = .ok (.istore_n 0, 1) := zo_59 (by decide +kernel)
theorem dJ6_bitCount_0f7a4_48 : decode cJ6_bitCount_0f7a4 48 = .ok (.iload_n 0, 1) := zo_26 (by decide +kernel)
theorem dJ6_bitCount_0f7a4_49 : decode cJ6_bitCount_0f7a4 49 = .ok (.bipush 63, 2) := zo_16 (by decide +kernel)
theorem dJ6_bitCount_0f7a4_51 : decode cJ6_bitCount_0f7a4 51 = .ok (.iand, 1) := zo_126 (by decide +kernel)
theorem dJ6_bitCount_0f7a4_52 : decode cJ6_bitCount_0f7a4 52 = .ok (.ireturn, 1) := zo_172 (by decide +kernel)
theorem dX8_parts_0 : decode cX8_parts 0 = .ok (.iconst 0, 1) := zo_3 (by decide +kernel)
theorem dX8_parts_1 : decode cX8_parts 1 = .ok (.istore_n 2, 1) := zo_61 (by decide +kernel)
theorem dX8_parts_2 : decode cX8_parts 2 = .ok (.iconst 0, 1) := zo_3 (by decide +kernel)
theorem dX8_parts_3 : decode cX8_parts 3 = .ok (.istore_n 3, 1) := zo_62 (by decide +kernel)
theorem dX8_parts_4 : decode cX8_parts 4 = .ok (.iconst 0, 1) := zo_3 (by decide +kernel)
theorem dX8_parts_5 : decode cX8_parts 5 = .ok (.istore 4, 2) := zo_54 (by decide +kernel)
theorem dX8_parts_7 : decode cX8_parts 7 = .ok (.iload 4, 2) := zo_21 (by decide +kernel)
theorem dX8_parts_9 : decode cX8_parts 9 = .ok (.aload_n 0, 1) := zo_42 (by decide +kernel)
theorem dX8_parts_10 : decode cX8_parts 10 = .ok (.getfield 9, 3) := zo_180 (by decide +kernel)
theorem dX8_parts_13 : decode cX8_parts 13 = .ok (.if_icmp .ge 42, 3) := zo_162 (by decide +kernel)
theorem dX8_parts_16 : decode cX8_parts 16 = .ok (.aload_n 0, 1) := zo_42 (by decide +kernel)
theorem dX8_parts_17 : decode cX8_parts 17 = .ok (.iload 4, 2) := zo_21 (by decide +kernel)
theorem dX8_parts_19 : decode cX8_parts 19 = .ok (.invokestatic 32, 3) := zo_184 (by decide +kernel)
theorem dX8_parts_22 : decode cX8_parts 22 = .ok (.istore 5, 2) := zo_54 (by decide +kernel)
theorem dX8_parts_24 : decode cX8_parts 24 = .ok (.iload 5, 2) := zo_21 (by decide +kernel)
theorem dX8_parts_26 : decode cX8_parts 26 = .ok (.iconst 1, 1) := zo_4 (by decide +kernel)
theorem dX8_parts_27 : decode cX8_parts 27 = .ok (.iload 4, 2) := zo_21 (by decide +kernel)
theorem dX8_parts_29 : decode cX8_parts 29 = .ok (.ishl, 1) := zo_120 (by decide +kernel)
theorem dX8_parts_30 : decode cX8_parts 30 = .ok (.iconst 1, 1) := zo_4 (by decide +kernel)
theorem dX8_parts_31 : decode cX8_parts 31 = .ok (.isub, 1) := zo_100 (by decide +kernel)
theorem dX8_parts_32 : decode cX8_parts 32 = .ok (.iand, 1) := zo_126 (by decide +kernel)
theorem dX8_parts_33 : decode cX8_parts 33 = .ok (.ifCond .ne 6, 3) := zo_154 (by decide +kernel)
theorem dX8_parts_36 : decode cX8_parts 36 = .ok (.iinc 2 1, 3) := zo_132 (by decide +kernel)
theorem dX8_parts_39 : decode cX8_parts 39 = .ok (.iload_n 3, 1) := zo_29 (by decide +kernel)
theorem dX8_parts_40 : decode cX8_parts 40 = .ok (.iload 5, 2) := zo_21 (by decide +kernel)
theorem dX8_parts_42 : decode cX8_parts 42 = .ok (.invokestatic 35, 3) := zo_184 (by decide +kernel)
theorem dX8_parts_45 : decode cX8_parts 45 = .ok (.invokestatic 40, 3) := zo_184 (by decide +kernel)
theorem dX8_parts_48 : decode cX8_parts 48 = .ok (.istore_n 3, 1) := zo_62 (by decide +kernel)
theorem dX8_parts_49 : decode cX8_parts 49 = .ok (.iinc 4 1, 3) := zo_132 (by decide +kernel)
theorem dX8_parts_52 : decode cX8_parts 52 = .ok (.goto (-45), 3) := zo_167 (by decide +kernel)
theorem dX8_parts_55 : decode cX8_parts 55 = .ok (.iload_n 1, 1) := zo_27 (by decide +kernel)
theorem dX8_parts_56 : decode cX8_parts 56 = .ok (.ifCond .eq 7, 3) := zo_153 (by decide +kernel)
theorem dX8_parts_59 : decode cX8_parts 59 = .ok (.iload_n 3, 1) := zo_29 (by decide +kernel)
theorem dX8_parts_60 : decode cX8_parts 60 = .ok (.goto 4, 3) := zo_167 (by decide +kernel)
theorem dX8_parts_63 : decode cX8_parts 63 = .ok (.iload_n 2, 1) := zo_28 (by decide +kernel)
theorem dX8_parts_64 : decode cX8_parts 64 = .ok (.ireturn, 1) := zo_172 (by decide +kernel)
theorem dX8_ring_0 : decode cX8_ring 0 = .ok (.iload_n 1, 1) := zo_27 (by decide +kernel)
theorem dX8_ring_1 : decode cX8_ring 1 = .ok (.istore_n 2, 1) := zo_61 (by decide +kernel)
theorem dX8_ring_2 : decode cX8_ring 2 = .ok (.iconst 1, 1) := zo_4 (by decide +kernel)
theorem dX8_ring_3 : decode cX8_ring 3 = .ok (.istore_n 3, 1) := zo_62 (by decide +kernel)
theorem dX8_ring_4 : decode cX8_ring 4 = .ok (.iload_n 3, 1) := zo_29 (by decide +kernel)
theorem dX8_ring_5 : decode cX8_ring 5 = .ok (.bipush 7, 2) := zo_16 (by decide +kernel)
theorem dX8_ring_7 : decode cX8_ring 7 = .ok (.if_icmp .gt 40, 3) := zo_163 (by decide +kernel)
theorem dX8_ring_10 : decode cX8_ring 10 = .ok (.aload_n 0, 1) := zo_42 (by decide +kernel)
theorem dX8_ring_11 : decode cX8_ring 11 = .ok (.iload_n 2, 1) := zo_28 (by decide +kernel)
theorem dX8_ring_12 : decode cX8_ring 12 = .ok (.invokevirtual 59, 3) := zo_182 (by decide +kernel)
theorem dX8_ring_15 : decode cX8_ring 15 = .ok (.ifCond .eq 17, 3) := zo_153 (by decide +kernel)
theorem dX8_ring_18 : decode cX8_ring 18 = .ok (.aload_n 0, 1) := zo_42 (by decide +kernel)
theorem dX8_ring_19 : decode cX8_ring 19 = .ok (.iload_n 2, 1) := zo_28 (by decide +kernel)
theorem dX8_ring_20 : decode cX8_ring 20 = .ok (.aload_n 0, 1) := zo_42 (by decide +kernel)
theorem dX8_ring_21 : decode cX8_ring 21 = .ok (.getfield 62, 3) := zo_180 (by decide +kernel)
theorem dX8_ring_24 : decode cX8_ring 24 = .ok (.iload_n 2, 1) := zo_28 (by decide +kernel)
theorem dX8_ring_25 : decode cX8_ring 25 = .ok (.iaload, 1) := zo_46 (by decide +kernel)
theorem dX8_ring_26 : decode cX8_ring 26 = .ok (.invokevirtual 19, 3) := zo_182 (by decide +kernel)
theorem dX8_ring_29 : decode cX8_ring 29 = .ok (.goto 4, 3) := zo_167 (by decide +kernel)
theorem dX8_ring_32 : decode cX8_ring 32 = .ok (.iconst (-1), 1) := zo_2 (by decide +kernel)
theorem dX8_ring_33 : decode cX8_ring 33 = .ok (.istore_n 2, 1) := zo_61 (by decide +kernel)
theorem dX8_ring_34 : decode cX8_ring 34 = .ok (.iload_n 2, 1) := zo_28 (by decide +kernel)
theorem dX8_ring_35 : decode cX8_ring 35 = .ok (.iload_n 1, 1) := zo_27 (by decide +kernel)
theorem dX8_ring_36 : decode cX8_ring 36 = .ok (.if_icmp .ne 5, 3) := zo_160 (by decide +kernel)
theorem dX8_ring_39 : decode cX8_ring 39 = .ok (.iload_n 3, 1) := zo_29 (by decide +kernel)
theorem dX8_ring_40 : decode cX8_ring 40 = .ok (.ireturn, 1) := zo_172 (by decide +kernel)
theorem dX8_ring_41 : decode cX8_ring 41 = .ok (.iinc 3 1, 3) := zo_132 (by decide +kernel)
theorem dX8_ring_44 : decode cX8_ring 44 = .ok (.goto (-40), 3) := zo_167 (by decide +kernel)
theorem dX8_ring_47 : decode cX8_ring 47 = .ok (.iconst 0, 1) := zo_3 (by decide +kernel)
theorem dX8_ring_48 : decode cX8_ring 48 = .ok (.ireturn, 1) := zo_172 (by decide +kernel)

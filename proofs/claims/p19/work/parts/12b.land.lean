def zBit (v k : Int32) : Int32 := (v >>> (k &&& 31)) &&& 1
def zWays (cr inn : Int32) (f1 : Nat → Int32) (x : Int32) : Int32 := if 0 ≤ x.toInt ∧ x.toInt < cr.toInt ∧ x.toInt < 7 ∧ zBit inn x = 0 then f1 x.toNatClampNeg else 0
def zTarget (cr : Int32) (f1 f2 : Nat → Int32) (x y : Int32) : Int32 := if 0 ≤ x.toInt ∧ x.toInt < cr.toInt ∧ x.toInt < 7 ∧ 0 ≤ y.toInt ∧ y.toInt < (f1 x.toNatClampNeg).toInt ∧ y.toInt < 4 then f2 (4 * x.toNatClampNeg + y.toNatClampNeg) else -1
def zAddA (cr : Int32) (f1 : Nat → Int32) (x : Int32) : Nat → Int32 := if 0 ≤ x.toInt ∧ x.toInt < cr.toInt ∧ x.toInt < 7 ∧ (f1 x.toNatClampNeg).toInt < 4 then upd f1 x.toNatClampNeg (f1 x.toNatClampNeg + 1) else f1
def zAddB (cr : Int32) (f1 f2 : Nat → Int32) (x to : Int32) : Nat → Int32 := if 0 ≤ x.toInt ∧ x.toInt < cr.toInt ∧ x.toInt < 7 ∧ (f1 x.toNatClampNeg).toInt < 4 then upd f2 (4 * x.toNatClampNeg + (f1 x.toNatClampNeg).toNatClampNeg) to else f2
/-- what is known of a land: as many crossings, roads as may be -/
def zLI (cr : Int32) (f1 f3 : Nat → Int32) : Prop := (0 ≤ cr.toInt ∧ cr.toInt ≤ 7) ∧ (∀ j, j < 7 → 0 ≤ (f1 j).toInt ∧ (f1 j).toInt ≤ 4) ∧ ∀ j, j < 7 → 0 ≤ (f3 j).toInt ∧ (f3 j).toInt ≤ 1000
theorem z_clI {x : Int32} (h : 0 ≤ x.toInt) : (x.toNatClampNeg : Int) = x.toInt := by
  have e : x.toNatClampNeg = x.toInt.toNat := rfl
  rw [e]
  omega
theorem zWays_in {cr inn : Int32} {f1 : Nat → Int32} {x : Int32} (h : ¬ zWays cr inn f1 x = 0) : 0 ≤ x.toInt ∧ x.toInt < cr.toInt ∧ x.toInt < 7 ∧ zBit inn x = 0 ∧ zWays cr inn f1 x = f1 x.toNatClampNeg := by
  unfold zWays at h ⊢
  by_cases q : 0 ≤ x.toInt ∧ x.toInt < cr.toInt ∧ x.toInt < 7 ∧ zBit inn x = 0
  · exact ⟨q.1, q.2.1, q.2.2.1, q.2.2.2, if_pos q⟩
  · rw [if_neg q] at h
    exact absurd rfl h
theorem zWays_le {cr inn : Int32} {f1 f3 : Nat → Int32} (hf : zLI cr f1 f3) (x : Int32) : 0 ≤ (zWays cr inn f1 x).toInt ∧ (zWays cr inn f1 x).toInt ≤ 4 := by
  unfold zWays
  split
  · rename_i q
    have e := z_clI q.1
    exact hf.2.1 _ (by omega)
  · exact ⟨by decide, by decide⟩
set_option maxHeartbeats 4000000 in
set_option maxRecDepth 100000 in
/-- c_has -/
theorem c_has (l : Launch) (T : zTy) (h : Nat) (cr : Int32) (inn : Int32) (f1 : Nat → Int32) (f2 : Nat → Int32) (f3 : Nat → Int32) (f4 : Nat → Int32) (w : va_W) (x : Int32) (hw : bLand T h cr inn f1 f2 f3 f4 w) : zMi l T yX4_has cX4_has 2 (some .boolean) 1 0 0 [.ref h, .int x] [w] (fun (r : Int32) bs => bs = [w] ∧ ((r = 1 ∧ 0 ≤ x.toInt ∧ x.toInt < cr.toInt ∧ x.toInt < 7) ∨ (r = 0 ∧ (x.toInt < 0 ∨ cr.toInt ≤ x.toInt ∨ 7 ≤ x.toInt)))) := by
  refine zMi_of (own := RX4) (by decide) rfl (Nat.le_of_ble_eq_true rfl) ?_
  intro p e s m args below meth c A ls C hr hlocks hnm hAe G hl
  refine zHide (fun Q9 hQ9 => ?_)
  have hx := C.1
  have hb := C.2.1
  have hl : lv_has ls 2 [(0, .ref h), (1, .int x)] := hl
  refine lv_iload_n hx hb dX4_has_0 rfl (lv_at hl 1 rfl) ?_
  refine lv_if_lt (tgt := 22) hx hb dX4_has_1 (by decide) (fun c_1 => ?_) (fun c_1 => ?_)
  · have c_1n : x.toInt < (0 : Int) := (fa_lt _ _).mp c_1
    refine lv_iconst (v := 0) hx hb dX4_has_22 (by decide) ?_
    exact z_back hQ9 (z_zret C hr hlocks G (Nat.le_of_ble_eq_true rfl) (Nat.le_of_ble_eq_true rfl) dX4_has_23 rfl ⟨rfl, (Or.inr (⟨rfl, (by first | with_reducible assumption | omega | assumption)⟩))⟩)
  · have c_1n : ¬ x.toInt < (0 : Int) := fun q => c_1 ((fa_lt _ _).mpr q)
    refine lv_iload_n hx hb dX4_has_4 rfl (lv_at hl 1 rfl) ?_
    refine lv_aload_n hx hb dX4_has_5 rfl (lv_at hl 0 rfl) ?_
    refine zEx4 hw ?_
    intro a1_2 a2_3 a3_4 a4_5 hbs9
    clear hw
    subst hbs9
    have G : zS T A s.heap s [[zO4 h cr inn a1_2 a2_3 a3_4 a4_5], [zAr T 0 a1_2 7 f1], [zAr T 0 a2_3 28 f2], [zAr T 0 a3_4 7 f3], [zAr T 0 a4_5 7 f4]] _ _ := G.re rfl
    refine z_get C G clX4 0 rfl 0 (by decide) m_fl_RX4_24 rfl dX4_has_6 ?_
    refine lv_icmp_ge (tgt := 22) hx hb dX4_has_9 (by decide) (fun c_6 => ?_) (fun c_6 => ?_)
    · have c_6n : cr.toInt ≤ x.toInt := (fa_le _ _).mp c_6
      refine lv_iconst (v := 0) hx hb dX4_has_22 (by decide) ?_
      have hw_7 : bLand T h cr inn f1 f2 f3 f4 [zO4 h cr inn a1_2 a2_3 a3_4 a4_5, zAr T 0 a1_2 7 f1, zAr T 0 a2_3 28 f2, zAr T 0 a3_4 7 f3, zAr T 0 a4_5 7 f4] := ⟨a1_2, a2_3, a3_4, a4_5, rfl⟩
      have G : zS T A s.heap s [[zO4 h cr inn a1_2 a2_3 a3_4 a4_5, zAr T 0 a1_2 7 f1, zAr T 0 a2_3 28 f2, zAr T 0 a3_4 7 f3, zAr T 0 a4_5 7 f4]] _ _ := G.re rfl
      exact z_back hQ9 (z_zret C hr hlocks G (Nat.le_of_ble_eq_true rfl) (Nat.le_of_ble_eq_true rfl) dX4_has_23 rfl ⟨rfl, (Or.inr (⟨rfl, (by first | with_reducible assumption | omega | assumption)⟩))⟩)
    · have c_6n : ¬ cr.toInt ≤ x.toInt := fun q => c_6 ((fa_le _ _).mpr q)
      refine lv_iload_n hx hb dX4_has_12 rfl (lv_at hl 1 rfl) ?_
      refine lv_bipush (v := 7) hx hb dX4_has_13 (by decide) ?_
      refine lv_icmp_ge (tgt := 22) hx hb dX4_has_15 (by decide) (fun c_8 => ?_) (fun c_8 => ?_)
      · have c_8n : (7 : Int) ≤ x.toInt := (fa_le _ _).mp c_8
        refine lv_iconst (v := 0) hx hb dX4_has_22 (by decide) ?_
        have hw_9 : bLand T h cr inn f1 f2 f3 f4 [zO4 h cr inn a1_2 a2_3 a3_4 a4_5, zAr T 0 a1_2 7 f1, zAr T 0 a2_3 28 f2, zAr T 0 a3_4 7 f3, zAr T 0 a4_5 7 f4] := ⟨a1_2, a2_3, a3_4, a4_5, rfl⟩
        have G : zS T A s.heap s [[zO4 h cr inn a1_2 a2_3 a3_4 a4_5, zAr T 0 a1_2 7 f1, zAr T 0 a2_3 28 f2, zAr T 0 a3_4 7 f3, zAr T 0 a4_5 7 f4]] _ _ := G.re rfl
        exact z_back hQ9 (z_zret C hr hlocks G (Nat.le_of_ble_eq_true rfl) (Nat.le_of_ble_eq_true rfl) dX4_has_23 rfl ⟨rfl, (Or.inr (⟨rfl, (by first | with_reducible assumption | omega | assumption)⟩))⟩)
      · have c_8n : ¬ (7 : Int) ≤ x.toInt := fun q => c_8 ((fa_le _ _).mpr q)
        refine lv_iconst (v := 1) hx hb dX4_has_18 (by decide) ?_
        refine lv_goto (tgt := 23) hx hb dX4_has_19 (by decide) ?_
        have hw_10 : bLand T h cr inn f1 f2 f3 f4 [zO4 h cr inn a1_2 a2_3 a3_4 a4_5, zAr T 0 a1_2 7 f1, zAr T 0 a2_3 28 f2, zAr T 0 a3_4 7 f3, zAr T 0 a4_5 7 f4] := ⟨a1_2, a2_3, a3_4, a4_5, rfl⟩
        have G : zS T A s.heap s [[zO4 h cr inn a1_2 a2_3 a3_4 a4_5, zAr T 0 a1_2 7 f1, zAr T 0 a2_3 28 f2, zAr T 0 a3_4 7 f3, zAr T 0 a4_5 7 f4]] _ _ := G.re rfl
        exact z_back hQ9 (z_zret C hr hlocks G (Nat.le_of_ble_eq_true rfl) (Nat.le_of_ble_eq_true rfl) dX4_has_23 rfl ⟨rfl, (Or.inl (⟨rfl, (by first | with_reducible assumption | omega | assumption), (by first | with_reducible assumption | omega | assumption), (by first | with_reducible assumption | omega | assumption)⟩))⟩)
set_option maxHeartbeats 4000000 in
set_option maxRecDepth 100000 in
/-- c_isInn -/
theorem c_isInn (l : Launch) (T : zTy) (h : Nat) (cr : Int32) (inn : Int32) (f1 : Nat → Int32) (f2 : Nat → Int32) (f3 : Nat → Int32) (f4 : Nat → Int32) (w : va_W) (x : Int32) (hw : bLand T h cr inn f1 f2 f3 f4 w) : zMi l T yX4_isInn cX4_isInn 2 (some .boolean) 2 0 0 [.ref h, .int x] [w] (fun (r : Int32) bs => bs = [w] ∧ ((r = 1 ∧ 0 ≤ x.toInt ∧ x.toInt < cr.toInt ∧ x.toInt < 7 ∧ ¬ zBit inn x = 0) ∨ (r = 0 ∧ (x.toInt < 0 ∨ cr.toInt ≤ x.toInt ∨ 7 ≤ x.toInt ∨ zBit inn x = 0)))) := by
  refine zMi_of (own := RX4) (by decide) rfl (Nat.le_of_ble_eq_true rfl) ?_
  intro p e s m args below meth c A ls C hr hlocks hnm hAe G hl
  refine zHide (fun Q9 hQ9 => ?_)
  have hx := C.1
  have hb := C.2.1
  have hl : lv_has ls 2 [(0, .ref h), (1, .int x)] := hl
  refine lv_aload_n hx hb dX4_isInn_0 rfl (lv_at hl 0 rfl) ?_
  refine lv_iload_n hx hb dX4_isInn_1 rfl (lv_at hl 1 rfl) ?_
  refine z_Vi (bc := [w]) (br := []) (As := [.int x]) (rest := []) C G (c_has l T h cr inn f1 f2 f3 f4 w x hw) (kV_RX4_31 C.2.2.2.2 (Nat.le_of_ble_eq_true rfl) (Nat.le_of_ble_eq_true rfl)) [0] [0] rfl rfl (ci := 4) (qc := (RX4, TX4, 6)) rfl rfl (List.mem_flatten.mpr ⟨_, List.mem_of_getElem? (i := 0) rfl, (bLand_mem hw).choose_spec⟩) rfl rfl hl.1 dX4_isInn_2 (Nat.le_of_ble_eq_true rfl) (Nat.le_of_ble_eq_true rfl) (fun r_2 b1 H locs hw G => ?_)
  refine zAn2 hw ?_
  intro hbs9 hc_1
  clear hw
  subst hbs9
  have G : zS T A s.heap s [w] _ _ := G
  rcases hc_1 with ⟨rfl, h_3, h_4, h_5⟩ | ⟨rfl, h_6⟩
  · have h_3 : 0 ≤ x.toInt := h_3
    have h_4 : x.toInt < cr.toInt := h_4
    have h_5 : x.toInt < 7 := h_5
    refine lv_if_eq (tgt := 23) hx hb dX4_isInn_5 (by decide) (fun q => absurd q (by decide)) (fun _ => ?_)
    refine lv_aload_n hx hb dX4_isInn_8 rfl (lv_at hl 0 rfl) ?_
    refine zEx4 hw ?_
    intro a1_7 a2_8 a3_9 a4_10 hbs9
    clear hw
    subst hbs9
    have G : zS T A s.heap s [[zO4 h cr inn a1_7 a2_8 a3_9 a4_10], [zAr T 0 a1_7 7 f1], [zAr T 0 a2_8 28 f2], [zAr T 0 a3_9 7 f3], [zAr T 0 a4_10 7 f4]] _ _ := G.re rfl
    refine z_get C G clX4 0 rfl 1 (by decide) m_fl_RX4_28 rfl dX4_isInn_9 ?_
    refine lv_iload_n hx hb dX4_isInn_12 rfl (lv_at hl 1 rfl) ?_
    refine lv_ishr hx hb dX4_isInn_13 ?_
    refine lv_iconst (v := 1) hx hb dX4_isInn_14 (by decide) ?_
    refine lv_iand hx hb dX4_isInn_15 ?_
    refine lv_if_eq (tgt := 23) hx hb dX4_isInn_16 (by decide) (fun c_11 => ?_) (fun c_11 => ?_)
    · have c_11n : ((inn >>> (x &&& 31)) &&& 1).toInt = (0 : Int) := (fa_eq _ _).mp c_11
      refine lv_iconst (v := 0) hx hb dX4_isInn_23 (by decide) ?_
      have hw_12 : bLand T h cr inn f1 f2 f3 f4 [zO4 h cr inn a1_7 a2_8 a3_9 a4_10, zAr T 0 a1_7 7 f1, zAr T 0 a2_8 28 f2, zAr T 0 a3_9 7 f3, zAr T 0 a4_10 7 f4] := ⟨a1_7, a2_8, a3_9, a4_10, rfl⟩
      have G : zS T A s.heap s [[zO4 h cr inn a1_7 a2_8 a3_9 a4_10, zAr T 0 a1_7 7 f1, zAr T 0 a2_8 28 f2, zAr T 0 a3_9 7 f3, zAr T 0 a4_10 7 f4]] _ _ := G.re rfl
      exact z_back hQ9 (z_zret C hr hlocks G (Nat.le_of_ble_eq_true rfl) (Nat.le_of_ble_eq_true rfl) dX4_isInn_24 rfl ⟨rfl, (Or.inr (⟨rfl, (by first | exact Or.inr (Or.inr (Or.inr (by assumption))) | omega)⟩))⟩)
    · have c_11n : ¬ ((inn >>> (x &&& 31)) &&& 1).toInt = (0 : Int) := fun q => c_11 ((fa_eq _ _).mpr q)
      refine lv_iconst (v := 1) hx hb dX4_isInn_19 (by decide) ?_
      refine lv_goto (tgt := 24) hx hb dX4_isInn_20 (by decide) ?_
      have hw_13 : bLand T h cr inn f1 f2 f3 f4 [zO4 h cr inn a1_7 a2_8 a3_9 a4_10, zAr T 0 a1_7 7 f1, zAr T 0 a2_8 28 f2, zAr T 0 a3_9 7 f3, zAr T 0 a4_10 7 f4] := ⟨a1_7, a2_8, a3_9, a4_10, rfl⟩
      have G : zS T A s.heap s [[zO4 h cr inn a1_7 a2_8 a3_9 a4_10, zAr T 0 a1_7 7 f1, zAr T 0 a2_8 28 f2, zAr T 0 a3_9 7 f3, zAr T 0 a4_10 7 f4]] _ _ := G.re rfl
      exact z_back hQ9 (z_zret C hr hlocks G (Nat.le_of_ble_eq_true rfl) (Nat.le_of_ble_eq_true rfl) dX4_isInn_24 rfl ⟨rfl, (Or.inl (⟨rfl, (by first | with_reducible assumption | omega | assumption), (by first | with_reducible assumption | omega | assumption), (by first | with_reducible assumption | omega | assumption), (by first | with_reducible assumption | omega | assumption)⟩))⟩)
  · have h_6 : (x.toInt < 0 ∨ cr.toInt ≤ x.toInt ∨ 7 ≤ x.toInt) := h_6
    refine lv_if_eq (tgt := 23) hx hb dX4_isInn_5 (by decide) (fun _ => ?_) (fun q => absurd (by decide) q)
    refine lv_iconst (v := 0) hx hb dX4_isInn_23 (by decide) ?_
    exact z_back hQ9 (z_zret C hr hlocks G (Nat.le_of_ble_eq_true rfl) (Nat.le_of_ble_eq_true rfl) dX4_isInn_24 rfl ⟨rfl, (Or.inr (⟨rfl, (by first | exact Or.inr (Or.inr (Or.inr (by assumption))) | omega)⟩))⟩)
set_option maxHeartbeats 4000000 in
set_option maxRecDepth 100000 in
/-- c_hasRoad -/
theorem c_hasRoad (l : Launch) (T : zTy) (h : Nat) (cr : Int32) (inn : Int32) (f1 : Nat → Int32) (f2 : Nat → Int32) (f3 : Nat → Int32) (f4 : Nat → Int32) (w : va_W) (x : Int32) (y : Int32) (hw : bLand T h cr inn f1 f2 f3 f4 w) : zMi l T yX4_hasRoad cX4_hasRoad 3 (some .boolean) 1 0 0 [.ref h, .int x, .int y] [w] (fun (r : Int32) bs => bs = [w] ∧ ((r = 1 ∧ 0 ≤ x.toInt ∧ x.toInt < cr.toInt ∧ x.toInt < 7 ∧ 0 ≤ y.toInt ∧ y.toInt < (f1 x.toNatClampNeg).toInt ∧ y.toInt < 4) ∨ (r = 0 ∧ (x.toInt < 0 ∨ cr.toInt ≤ x.toInt ∨ 7 ≤ x.toInt ∨ y.toInt < 0 ∨ (f1 x.toNatClampNeg).toInt ≤ y.toInt ∨ 4 ≤ y.toInt)))) := by
  refine zMi_of (own := RX4) (by decide) rfl (Nat.le_of_ble_eq_true rfl) ?_
  intro p e s m args below meth c A ls C hr hlocks hnm hAe G hl
  refine zHide (fun Q9 hQ9 => ?_)
  have hx := C.1
  have hb := C.2.1
  have hl : lv_has ls 3 [(0, .ref h), (1, .int x), (2, .int y)] := hl
  refine lv_iload_n hx hb dX4_hasRoad_0 rfl (lv_at hl 1 rfl) ?_
  refine lv_if_lt (tgt := 41) hx hb dX4_hasRoad_1 (by decide) (fun c_1 => ?_) (fun c_1 => ?_)
  · have c_1n : x.toInt < (0 : Int) := (fa_lt _ _).mp c_1
    refine lv_iconst (v := 0) hx hb dX4_hasRoad_41 (by decide) ?_
    exact z_back hQ9 (z_zret C hr hlocks G (Nat.le_of_ble_eq_true rfl) (Nat.le_of_ble_eq_true rfl) dX4_hasRoad_42 rfl ⟨rfl, (Or.inr (⟨rfl, (by first | with_reducible assumption | omega | assumption)⟩))⟩)
  · have c_1n : ¬ x.toInt < (0 : Int) := fun q => c_1 ((fa_lt _ _).mpr q)
    refine lv_iload_n hx hb dX4_hasRoad_4 rfl (lv_at hl 1 rfl) ?_
    refine lv_aload_n hx hb dX4_hasRoad_5 rfl (lv_at hl 0 rfl) ?_
    refine zEx4 hw ?_
    intro a1_2 a2_3 a3_4 a4_5 hbs9
    clear hw
    subst hbs9
    have G : zS T A s.heap s [[zO4 h cr inn a1_2 a2_3 a3_4 a4_5], [zAr T 0 a1_2 7 f1], [zAr T 0 a2_3 28 f2], [zAr T 0 a3_4 7 f3], [zAr T 0 a4_5 7 f4]] _ _ := G.re rfl
    refine z_get C G clX4 0 rfl 0 (by decide) m_fl_RX4_24 rfl dX4_hasRoad_6 ?_
    refine lv_icmp_ge (tgt := 41) hx hb dX4_hasRoad_9 (by decide) (fun c_6 => ?_) (fun c_6 => ?_)
    · have c_6n : cr.toInt ≤ x.toInt := (fa_le _ _).mp c_6
      refine lv_iconst (v := 0) hx hb dX4_hasRoad_41 (by decide) ?_
      have hw_7 : bLand T h cr inn f1 f2 f3 f4 [zO4 h cr inn a1_2 a2_3 a3_4 a4_5, zAr T 0 a1_2 7 f1, zAr T 0 a2_3 28 f2, zAr T 0 a3_4 7 f3, zAr T 0 a4_5 7 f4] := ⟨a1_2, a2_3, a3_4, a4_5, rfl⟩
      have G : zS T A s.heap s [[zO4 h cr inn a1_2 a2_3 a3_4 a4_5, zAr T 0 a1_2 7 f1, zAr T 0 a2_3 28 f2, zAr T 0 a3_4 7 f3, zAr T 0 a4_5 7 f4]] _ _ := G.re rfl
      exact z_back hQ9 (z_zret C hr hlocks G (Nat.le_of_ble_eq_true rfl) (Nat.le_of_ble_eq_true rfl) dX4_hasRoad_42 rfl ⟨rfl, (Or.inr (⟨rfl, (by first | with_reducible assumption | omega | assumption)⟩))⟩)
    · have c_6n : ¬ cr.toInt ≤ x.toInt := fun q => c_6 ((fa_le _ _).mpr q)
      refine lv_iload_n hx hb dX4_hasRoad_12 rfl (lv_at hl 1 rfl) ?_
      refine lv_bipush (v := 7) hx hb dX4_hasRoad_13 (by decide) ?_
      refine lv_icmp_ge (tgt := 41) hx hb dX4_hasRoad_15 (by decide) (fun c_8 => ?_) (fun c_8 => ?_)
      · have c_8n : (7 : Int) ≤ x.toInt := (fa_le _ _).mp c_8
        refine lv_iconst (v := 0) hx hb dX4_hasRoad_41 (by decide) ?_
        have hw_9 : bLand T h cr inn f1 f2 f3 f4 [zO4 h cr inn a1_2 a2_3 a3_4 a4_5, zAr T 0 a1_2 7 f1, zAr T 0 a2_3 28 f2, zAr T 0 a3_4 7 f3, zAr T 0 a4_5 7 f4] := ⟨a1_2, a2_3, a3_4, a4_5, rfl⟩
        have G : zS T A s.heap s [[zO4 h cr inn a1_2 a2_3 a3_4 a4_5, zAr T 0 a1_2 7 f1, zAr T 0 a2_3 28 f2, zAr T 0 a3_4 7 f3, zAr T 0 a4_5 7 f4]] _ _ := G.re rfl
        exact z_back hQ9 (z_zret C hr hlocks G (Nat.le_of_ble_eq_true rfl) (Nat.le_of_ble_eq_true rfl) dX4_hasRoad_42 rfl ⟨rfl, (Or.inr (⟨rfl, (by first | with_reducible assumption | omega | assumption)⟩))⟩)
      · have c_8n : ¬ (7 : Int) ≤ x.toInt := fun q => c_8 ((fa_le _ _).mpr q)
        refine lv_iload_n hx hb dX4_hasRoad_18 rfl (lv_at hl 2 rfl) ?_
        refine lv_if_lt (tgt := 41) hx hb dX4_hasRoad_19 (by decide) (fun c_10 => ?_) (fun c_10 => ?_)
        · have c_10n : y.toInt < (0 : Int) := (fa_lt _ _).mp c_10
          refine lv_iconst (v := 0) hx hb dX4_hasRoad_41 (by decide) ?_
          have hw_11 : bLand T h cr inn f1 f2 f3 f4 [zO4 h cr inn a1_2 a2_3 a3_4 a4_5, zAr T 0 a1_2 7 f1, zAr T 0 a2_3 28 f2, zAr T 0 a3_4 7 f3, zAr T 0 a4_5 7 f4] := ⟨a1_2, a2_3, a3_4, a4_5, rfl⟩
          have G : zS T A s.heap s [[zO4 h cr inn a1_2 a2_3 a3_4 a4_5, zAr T 0 a1_2 7 f1, zAr T 0 a2_3 28 f2, zAr T 0 a3_4 7 f3, zAr T 0 a4_5 7 f4]] _ _ := G.re rfl
          exact z_back hQ9 (z_zret C hr hlocks G (Nat.le_of_ble_eq_true rfl) (Nat.le_of_ble_eq_true rfl) dX4_hasRoad_42 rfl ⟨rfl, (Or.inr (⟨rfl, (by first | with_reducible assumption | omega | assumption)⟩))⟩)
        · have c_10n : ¬ y.toInt < (0 : Int) := fun q => c_10 ((fa_lt _ _).mpr q)
          refine lv_iload_n hx hb dX4_hasRoad_22 rfl (lv_at hl 2 rfl) ?_
          refine lv_aload_n hx hb dX4_hasRoad_23 rfl (lv_at hl 0 rfl) ?_
          refine z_get C G clX4 0 rfl 2 (by decide) m_fl_RX4_9 rfl dX4_hasRoad_24 ?_
          refine lv_iload_n hx hb dX4_hasRoad_27 rfl (lv_at hl 1 rfl) ?_
          refine z_ild C G 1 rfl (vp_in_iff.mpr ⟨by omega, by omega⟩) dX4_hasRoad_28 ?_
          refine lv_topi (fun v_12 ev_12 => ?_)
          subst ev_12
          refine lv_icmp_ge (tgt := 41) hx hb dX4_hasRoad_29 (by decide) (fun c_13 => ?_) (fun c_13 => ?_)
          · have c_13n : (f1 x.toNatClampNeg).toInt ≤ y.toInt := (fa_le _ _).mp c_13
            refine lv_iconst (v := 0) hx hb dX4_hasRoad_41 (by decide) ?_
            have hw_14 : bLand T h cr inn f1 f2 f3 f4 [zO4 h cr inn a1_2 a2_3 a3_4 a4_5, zAr T 0 a1_2 7 f1, zAr T 0 a2_3 28 f2, zAr T 0 a3_4 7 f3, zAr T 0 a4_5 7 f4] := ⟨a1_2, a2_3, a3_4, a4_5, rfl⟩
            have G : zS T A s.heap s [[zO4 h cr inn a1_2 a2_3 a3_4 a4_5, zAr T 0 a1_2 7 f1, zAr T 0 a2_3 28 f2, zAr T 0 a3_4 7 f3, zAr T 0 a4_5 7 f4]] _ _ := G.re rfl
            exact z_back hQ9 (z_zret C hr hlocks G (Nat.le_of_ble_eq_true rfl) (Nat.le_of_ble_eq_true rfl) dX4_hasRoad_42 rfl ⟨rfl, (Or.inr (⟨rfl, (by first | with_reducible assumption | omega | assumption)⟩))⟩)
          · have c_13n : ¬ (f1 x.toNatClampNeg).toInt ≤ y.toInt := fun q => c_13 ((fa_le _ _).mpr q)
            refine lv_iload_n hx hb dX4_hasRoad_32 rfl (lv_at hl 2 rfl) ?_
            refine lv_iconst (v := 4) hx hb dX4_hasRoad_33 (by decide) ?_
            refine lv_icmp_ge (tgt := 41) hx hb dX4_hasRoad_34 (by decide) (fun c_15 => ?_) (fun c_15 => ?_)
            · have c_15n : (4 : Int) ≤ y.toInt := (fa_le _ _).mp c_15
              refine lv_iconst (v := 0) hx hb dX4_hasRoad_41 (by decide) ?_
              have hw_16 : bLand T h cr inn f1 f2 f3 f4 [zO4 h cr inn a1_2 a2_3 a3_4 a4_5, zAr T 0 a1_2 7 f1, zAr T 0 a2_3 28 f2, zAr T 0 a3_4 7 f3, zAr T 0 a4_5 7 f4] := ⟨a1_2, a2_3, a3_4, a4_5, rfl⟩
              have G : zS T A s.heap s [[zO4 h cr inn a1_2 a2_3 a3_4 a4_5, zAr T 0 a1_2 7 f1, zAr T 0 a2_3 28 f2, zAr T 0 a3_4 7 f3, zAr T 0 a4_5 7 f4]] _ _ := G.re rfl
              exact z_back hQ9 (z_zret C hr hlocks G (Nat.le_of_ble_eq_true rfl) (Nat.le_of_ble_eq_true rfl) dX4_hasRoad_42 rfl ⟨rfl, (Or.inr (⟨rfl, (by first | with_reducible assumption | omega | assumption)⟩))⟩)
            · have c_15n : ¬ (4 : Int) ≤ y.toInt := fun q => c_15 ((fa_le _ _).mpr q)
              refine lv_iconst (v := 1) hx hb dX4_hasRoad_37 (by decide) ?_
              refine lv_goto (tgt := 42) hx hb dX4_hasRoad_38 (by decide) ?_
              have hw_17 : bLand T h cr inn f1 f2 f3 f4 [zO4 h cr inn a1_2 a2_3 a3_4 a4_5, zAr T 0 a1_2 7 f1, zAr T 0 a2_3 28 f2, zAr T 0 a3_4 7 f3, zAr T 0 a4_5 7 f4] := ⟨a1_2, a2_3, a3_4, a4_5, rfl⟩
              have G : zS T A s.heap s [[zO4 h cr inn a1_2 a2_3 a3_4 a4_5, zAr T 0 a1_2 7 f1, zAr T 0 a2_3 28 f2, zAr T 0 a3_4 7 f3, zAr T 0 a4_5 7 f4]] _ _ := G.re rfl
              exact z_back hQ9 (z_zret C hr hlocks G (Nat.le_of_ble_eq_true rfl) (Nat.le_of_ble_eq_true rfl) dX4_hasRoad_42 rfl ⟨rfl, (Or.inl (⟨rfl, (by first | with_reducible assumption | omega | assumption), (by first | with_reducible assumption | omega | assumption), (by first | with_reducible assumption | omega | assumption), (by first | with_reducible assumption | omega | assumption), (by first | with_reducible assumption | omega | assumption), (by first | with_reducible assumption | omega | assumption)⟩))⟩)
set_option maxHeartbeats 4000000 in
set_option maxRecDepth 100000 in
/-- c_waysOut -/
theorem c_waysOut (l : Launch) (T : zTy) (h : Nat) (cr : Int32) (inn : Int32) (f1 : Nat → Int32) (f2 : Nat → Int32) (f3 : Nat → Int32) (f4 : Nat → Int32) (w : va_W) (x : Int32) (hw : bLand T h cr inn f1 f2 f3 f4 w) : zMi l T yX4_waysOut cX4_waysOut 2 (some .int) 1 0 0 [.ref h, .int x] [w] (fun (r : Int32) bs => bs = [w] ∧ r = zWays cr inn f1 x) := by
  refine zMi_of (own := RX4) (by decide) rfl (Nat.le_of_ble_eq_true rfl) ?_
  intro p e s m args below meth c A ls C hr hlocks hnm hAe G hl
  refine zHide (fun Q9 hQ9 => ?_)
  have hx := C.1
  have hb := C.2.1
  have hl : lv_has ls 2 [(0, .ref h), (1, .int x)] := hl
  refine lv_iload_n hx hb dX4_waysOut_0 rfl (lv_at hl 1 rfl) ?_
  refine lv_if_lt (tgt := 38) hx hb dX4_waysOut_1 (by decide) (fun c_1 => ?_) (fun c_1 => ?_)
  · have c_1n : x.toInt < (0 : Int) := (fa_lt _ _).mp c_1
    refine lv_iconst (v := 0) hx hb dX4_waysOut_38 (by decide) ?_
    exact z_back hQ9 (z_iret C hr hlocks G (Nat.le_of_ble_eq_true rfl) (Nat.le_of_ble_eq_true rfl) dX4_waysOut_39 ⟨rfl, (by unfold zWays; rw [if_neg (fun q => by first | omega | exact absurd q.2.2.2 (by assumption))])⟩)
  · have c_1n : ¬ x.toInt < (0 : Int) := fun q => c_1 ((fa_lt _ _).mpr q)
    refine lv_iload_n hx hb dX4_waysOut_4 rfl (lv_at hl 1 rfl) ?_
    refine lv_aload_n hx hb dX4_waysOut_5 rfl (lv_at hl 0 rfl) ?_
    refine zEx4 hw ?_
    intro a1_2 a2_3 a3_4 a4_5 hbs9
    clear hw
    subst hbs9
    have G : zS T A s.heap s [[zO4 h cr inn a1_2 a2_3 a3_4 a4_5], [zAr T 0 a1_2 7 f1], [zAr T 0 a2_3 28 f2], [zAr T 0 a3_4 7 f3], [zAr T 0 a4_5 7 f4]] _ _ := G.re rfl
    refine z_get C G clX4 0 rfl 0 (by decide) m_fl_RX4_24 rfl dX4_waysOut_6 ?_
    refine lv_icmp_ge (tgt := 38) hx hb dX4_waysOut_9 (by decide) (fun c_6 => ?_) (fun c_6 => ?_)
    · have c_6n : cr.toInt ≤ x.toInt := (fa_le _ _).mp c_6
      refine lv_iconst (v := 0) hx hb dX4_waysOut_38 (by decide) ?_
      have hw_7 : bLand T h cr inn f1 f2 f3 f4 [zO4 h cr inn a1_2 a2_3 a3_4 a4_5, zAr T 0 a1_2 7 f1, zAr T 0 a2_3 28 f2, zAr T 0 a3_4 7 f3, zAr T 0 a4_5 7 f4] := ⟨a1_2, a2_3, a3_4, a4_5, rfl⟩
      have G : zS T A s.heap s [[zO4 h cr inn a1_2 a2_3 a3_4 a4_5, zAr T 0 a1_2 7 f1, zAr T 0 a2_3 28 f2, zAr T 0 a3_4 7 f3, zAr T 0 a4_5 7 f4]] _ _ := G.re rfl
      exact z_back hQ9 (z_iret C hr hlocks G (Nat.le_of_ble_eq_true rfl) (Nat.le_of_ble_eq_true rfl) dX4_waysOut_39 ⟨rfl, (by unfold zWays; rw [if_neg (fun q => by first | omega | exact absurd q.2.2.2 (by assumption))])⟩)
    · have c_6n : ¬ cr.toInt ≤ x.toInt := fun q => c_6 ((fa_le _ _).mpr q)
      refine lv_iload_n hx hb dX4_waysOut_12 rfl (lv_at hl 1 rfl) ?_
      refine lv_bipush (v := 7) hx hb dX4_waysOut_13 (by decide) ?_
      refine lv_icmp_ge (tgt := 38) hx hb dX4_waysOut_15 (by decide) (fun c_8 => ?_) (fun c_8 => ?_)
      · have c_8n : (7 : Int) ≤ x.toInt := (fa_le _ _).mp c_8
        refine lv_iconst (v := 0) hx hb dX4_waysOut_38 (by decide) ?_
        have hw_9 : bLand T h cr inn f1 f2 f3 f4 [zO4 h cr inn a1_2 a2_3 a3_4 a4_5, zAr T 0 a1_2 7 f1, zAr T 0 a2_3 28 f2, zAr T 0 a3_4 7 f3, zAr T 0 a4_5 7 f4] := ⟨a1_2, a2_3, a3_4, a4_5, rfl⟩
        have G : zS T A s.heap s [[zO4 h cr inn a1_2 a2_3 a3_4 a4_5, zAr T 0 a1_2 7 f1, zAr T 0 a2_3 28 f2, zAr T 0 a3_4 7 f3, zAr T 0 a4_5 7 f4]] _ _ := G.re rfl
        exact z_back hQ9 (z_iret C hr hlocks G (Nat.le_of_ble_eq_true rfl) (Nat.le_of_ble_eq_true rfl) dX4_waysOut_39 ⟨rfl, (by unfold zWays; rw [if_neg (fun q => by first | omega | exact absurd q.2.2.2 (by assumption))])⟩)
      · have c_8n : ¬ (7 : Int) ≤ x.toInt := fun q => c_8 ((fa_le _ _).mpr q)
        refine lv_aload_n hx hb dX4_waysOut_18 rfl (lv_at hl 0 rfl) ?_
        refine z_get C G clX4 0 rfl 1 (by decide) m_fl_RX4_28 rfl dX4_waysOut_19 ?_
        refine lv_iload_n hx hb dX4_waysOut_22 rfl (lv_at hl 1 rfl) ?_
        refine lv_ishr hx hb dX4_waysOut_23 ?_
        refine lv_iconst (v := 1) hx hb dX4_waysOut_24 (by decide) ?_
        refine lv_iand hx hb dX4_waysOut_25 ?_
        refine lv_if_ne (tgt := 38) hx hb dX4_waysOut_26 (by decide) (fun c_10 => ?_) (fun c_10 => ?_)
        · have c_10n : ¬ ((inn >>> (x &&& 31)) &&& 1).toInt = (0 : Int) := fun q => c_10 ((fa_eq _ _).mpr q)
          refine lv_iconst (v := 0) hx hb dX4_waysOut_38 (by decide) ?_
          have hw_11 : bLand T h cr inn f1 f2 f3 f4 [zO4 h cr inn a1_2 a2_3 a3_4 a4_5, zAr T 0 a1_2 7 f1, zAr T 0 a2_3 28 f2, zAr T 0 a3_4 7 f3, zAr T 0 a4_5 7 f4] := ⟨a1_2, a2_3, a3_4, a4_5, rfl⟩
          have G : zS T A s.heap s [[zO4 h cr inn a1_2 a2_3 a3_4 a4_5, zAr T 0 a1_2 7 f1, zAr T 0 a2_3 28 f2, zAr T 0 a3_4 7 f3, zAr T 0 a4_5 7 f4]] _ _ := G.re rfl
          exact z_back hQ9 (z_iret C hr hlocks G (Nat.le_of_ble_eq_true rfl) (Nat.le_of_ble_eq_true rfl) dX4_waysOut_39 ⟨rfl, (by unfold zWays; rw [if_neg (fun q => by first | omega | exact absurd q.2.2.2 (by assumption))])⟩)
        · have c_10n : ((inn >>> (x &&& 31)) &&& 1).toInt = (0 : Int) := (fa_eq _ _).mp c_10
          refine lv_aload_n hx hb dX4_waysOut_29 rfl (lv_at hl 0 rfl) ?_
          refine z_get C G clX4 0 rfl 2 (by decide) m_fl_RX4_9 rfl dX4_waysOut_30 ?_
          refine lv_iload_n hx hb dX4_waysOut_33 rfl (lv_at hl 1 rfl) ?_
          refine z_ild C G 1 rfl (vp_in_iff.mpr ⟨by omega, by omega⟩) dX4_waysOut_34 ?_
          refine lv_topi (fun v_12 ev_12 => ?_)
          subst ev_12
          refine lv_goto (tgt := 39) hx hb dX4_waysOut_35 (by decide) ?_
          have hw_13 : bLand T h cr inn f1 f2 f3 f4 [zO4 h cr inn a1_2 a2_3 a3_4 a4_5, zAr T 0 a1_2 7 f1, zAr T 0 a2_3 28 f2, zAr T 0 a3_4 7 f3, zAr T 0 a4_5 7 f4] := ⟨a1_2, a2_3, a3_4, a4_5, rfl⟩
          have G : zS T A s.heap s [[zO4 h cr inn a1_2 a2_3 a3_4 a4_5, zAr T 0 a1_2 7 f1, zAr T 0 a2_3 28 f2, zAr T 0 a3_4 7 f3, zAr T 0 a4_5 7 f4]] _ _ := G.re rfl
          exact z_back hQ9 (z_iret C hr hlocks G (Nat.le_of_ble_eq_true rfl) (Nat.le_of_ble_eq_true rfl) dX4_waysOut_39 ⟨rfl, (by unfold zWays; rw [if_pos ⟨by omega, by omega, by omega, by assumption⟩])⟩)
set_option maxHeartbeats 4000000 in
set_option maxRecDepth 100000 in
/-- c_target -/
theorem c_target (l : Launch) (T : zTy) (h : Nat) (cr : Int32) (inn : Int32) (f1 : Nat → Int32) (f2 : Nat → Int32) (f3 : Nat → Int32) (f4 : Nat → Int32) (w : va_W) (x : Int32) (y : Int32) (hw : bLand T h cr inn f1 f2 f3 f4 w) : zMi l T yX4_target cX4_target 3 (some .int) 2 0 0 [.ref h, .int x, .int y] [w] (fun (r : Int32) bs => bs = [w] ∧ r = zTarget cr f1 f2 x y) := by
  refine zMi_of (own := RX4) (by decide) rfl (Nat.le_of_ble_eq_true rfl) ?_
  intro p e s m args below meth c A ls C hr hlocks hnm hAe G hl
  refine zHide (fun Q9 hQ9 => ?_)
  have hx := C.1
  have hb := C.2.1
  have hl : lv_has ls 3 [(0, .ref h), (1, .int x), (2, .int y)] := hl
  refine lv_aload_n hx hb dX4_target_0 rfl (lv_at hl 0 rfl) ?_
  refine lv_iload_n hx hb dX4_target_1 rfl (lv_at hl 1 rfl) ?_
  refine lv_iload_n hx hb dX4_target_2 rfl (lv_at hl 2 rfl) ?_
  refine z_Vi (bc := [w]) (br := []) (As := [.int x, .int y]) (rest := []) C G (c_hasRoad l T h cr inn f1 f2 f3 f4 w x y hw) (kV_RX4_35 C.2.2.2.2 (Nat.le_of_ble_eq_true rfl) (Nat.le_of_ble_eq_true rfl)) [0] [0] rfl rfl (ci := 4) (qc := (RX4, TX4, 6)) rfl rfl (List.mem_flatten.mpr ⟨_, List.mem_of_getElem? (i := 0) rfl, (bLand_mem hw).choose_spec⟩) rfl rfl hl.1 dX4_target_3 (Nat.le_of_ble_eq_true rfl) (Nat.le_of_ble_eq_true rfl) (fun r_2 b1 H locs hw G => ?_)
  refine zAn2 hw ?_
  intro hbs9 hc_1
  clear hw
  subst hbs9
  have G : zS T A s.heap s [w] _ _ := G
  rcases hc_1 with ⟨rfl, h_3, h_4, h_5, h_6, h_7, h_8⟩ | ⟨rfl, h_9⟩
  · have h_3 : 0 ≤ x.toInt := h_3
    have h_4 : x.toInt < cr.toInt := h_4
    have h_5 : x.toInt < 7 := h_5
    have h_6 : 0 ≤ y.toInt := h_6
    have h_7 : y.toInt < (f1 x.toNatClampNeg).toInt := h_7
    have h_8 : y.toInt < 4 := h_8
    refine lv_if_eq (tgt := 22) hx hb dX4_target_6 (by decide) (fun q => absurd q (by decide)) (fun _ => ?_)
    refine lv_aload_n hx hb dX4_target_9 rfl (lv_at hl 0 rfl) ?_
    refine zEx4 hw ?_
    intro a1_10 a2_11 a3_12 a4_13 hbs9
    clear hw
    subst hbs9
    have G : zS T A s.heap s [[zO4 h cr inn a1_10 a2_11 a3_12 a4_13], [zAr T 0 a1_10 7 f1], [zAr T 0 a2_11 28 f2], [zAr T 0 a3_12 7 f3], [zAr T 0 a4_13 7 f4]] _ _ := G.re rfl
    refine z_get C G clX4 0 rfl 3 (by decide) m_fl_RX4_15 rfl dX4_target_10 ?_
    refine lv_iload_n hx hb dX4_target_13 rfl (lv_at hl 1 rfl) ?_
    refine lv_iconst (v := 4) hx hb dX4_target_14 (by decide) ?_
    refine lv_imul hx hb dX4_target_15 ?_
    refine lv_topi (fun y_14 ey_14 => ?_)
    have ey_14i : y_14.toInt = x.toInt * (4 : Int) := by rw [ey_14]; exact z_imulI (x := x) (y := (4 : Int32)) (by show -2147483648 ≤ x.toInt * (4 : Int); omega) (by show x.toInt * (4 : Int) < 2147483648; omega)
    refine lv_iload_n hx hb dX4_target_16 rfl (lv_at hl 2 rfl) ?_
    refine lv_iadd hx hb dX4_target_17 ?_
    refine lv_topi (fun y_15 ey_15 => ?_)
    have ey_15i : y_15.toInt = y_14.toInt + y.toInt := by rw [ey_15]; exact z_iaddI (x := y_14) (y := y) (by show -2147483648 ≤ y_14.toInt + y.toInt; omega) (by show y_14.toInt + y.toInt < 2147483648; omega)
    refine z_ild C G 2 rfl (vp_in_iff.mpr ⟨by omega, by omega⟩) dX4_target_18 ?_
    refine lv_topi (fun v_16 ev_16 => ?_)
    subst ev_16
    refine lv_goto (tgt := 23) hx hb dX4_target_19 (by decide) ?_
    have hw_17 : bLand T h cr inn f1 f2 f3 f4 [zO4 h cr inn a1_10 a2_11 a3_12 a4_13, zAr T 0 a1_10 7 f1, zAr T 0 a2_11 28 f2, zAr T 0 a3_12 7 f3, zAr T 0 a4_13 7 f4] := ⟨a1_10, a2_11, a3_12, a4_13, rfl⟩
    have G : zS T A s.heap s [[zO4 h cr inn a1_10 a2_11 a3_12 a4_13, zAr T 0 a1_10 7 f1, zAr T 0 a2_11 28 f2, zAr T 0 a3_12 7 f3, zAr T 0 a4_13 7 f4]] _ _ := G.re rfl
    exact z_back hQ9 (z_iret C hr hlocks G (Nat.le_of_ble_eq_true rfl) (Nat.le_of_ble_eq_true rfl) dX4_target_23 ⟨rfl, (by unfold zTarget; rw [if_pos (by omega)]; exact congrArg f2 (by have q1 := z_clI (x := x) (by omega); have q2 := z_clI (x := y) (by omega); have q3 := z_clI (x := y_15) (by omega); omega))⟩)
  · have h_9 : (x.toInt < 0 ∨ cr.toInt ≤ x.toInt ∨ 7 ≤ x.toInt ∨ y.toInt < 0 ∨ (f1 x.toNatClampNeg).toInt ≤ y.toInt ∨ 4 ≤ y.toInt) := h_9
    refine lv_if_eq (tgt := 22) hx hb dX4_target_6 (by decide) (fun _ => ?_) (fun q => absurd (by decide) q)
    refine lv_iconst (v := (-1)) hx hb dX4_target_22 (by decide) ?_
    exact z_back hQ9 (z_iret C hr hlocks G (Nat.le_of_ble_eq_true rfl) (Nat.le_of_ble_eq_true rfl) dX4_target_23 ⟨rfl, (by unfold zTarget; rw [if_neg (by omega)])⟩)
set_option maxHeartbeats 4000000 in
set_option maxRecDepth 100000 in
/-- addRoad -/
theorem c_addRoad (l : Launch) (T : zTy) (h : Nat) (cr : Int32) (inn : Int32) (f1 : Nat → Int32) (f2 : Nat → Int32) (f3 : Nat → Int32) (f4 : Nat → Int32) (w : va_W) (x : Int32) (to : Int32) (hw : bLand T h cr inn f1 f2 f3 f4 w) (hI : zLI cr f1 f3) : zMv l T yX4_addRoad cX4_addRoad 3 2 0 0 [.ref h, .int x, .int to] [w] (fun bs => ∃ (w2 : va_W) (g1 : Nat → Int32) (g2 : Nat → Int32), bs = [w2] ∧ bLand T h cr inn g1 g2 f3 f4 w2 ∧ g1 = zAddA cr f1 x ∧ g2 = zAddB cr f1 f2 x to) := by
  refine zMv_of (own := RX4) (by decide) rfl (Nat.le_of_ble_eq_true rfl) ?_
  intro p e s m args below meth c A ls C hr hlocks hnm hAe G hl
  refine zHide (fun Q9 hQ9 => ?_)
  have hx := C.1
  have hb := C.2.1
  have hl : lv_has ls 3 [(0, .ref h), (1, .int x), (2, .int to)] := hl
  refine lv_aload_n hx hb dX4_addRoad_0 rfl (lv_at hl 0 rfl) ?_
  refine lv_iload_n hx hb dX4_addRoad_1 rfl (lv_at hl 1 rfl) ?_
  refine z_Vi (bc := [w]) (br := []) (As := [.int x]) (rest := []) C G (c_has l T h cr inn f1 f2 f3 f4 w x hw) (kV_RX4_31 C.2.2.2.2 (Nat.le_of_ble_eq_true rfl) (Nat.le_of_ble_eq_true rfl)) [0] [0] rfl rfl (ci := 4) (qc := (RX4, TX4, 6)) rfl rfl (List.mem_flatten.mpr ⟨_, List.mem_of_getElem? (i := 0) rfl, (bLand_mem hw).choose_spec⟩) rfl rfl hl.1 dX4_addRoad_2 (Nat.le_of_ble_eq_true rfl) (Nat.le_of_ble_eq_true rfl) (fun r_2 b1 H locs hw G => ?_)
  refine zAn2 hw ?_
  intro hbs9 hc_1
  clear hw
  subst hbs9
  have G : zS T A s.heap s [w] _ _ := G
  rcases hc_1 with ⟨rfl, h_3, h_4, h_5⟩ | ⟨rfl, h_6⟩
  · have h_3 : 0 ≤ x.toInt := h_3
    have h_4 : x.toInt < cr.toInt := h_4
    have h_5 : x.toInt < 7 := h_5
    refine lv_if_eq (tgt := 44) hx hb dX4_addRoad_5 (by decide) (fun q => absurd q (by decide)) (fun _ => ?_)
    refine lv_aload_n hx hb dX4_addRoad_8 rfl (lv_at hl 0 rfl) ?_
    refine zEx4 hw ?_
    intro a1_7 a2_8 a3_9 a4_10 hbs9
    clear hw
    subst hbs9
    have G : zS T A s.heap s [[zO4 h cr inn a1_7 a2_8 a3_9 a4_10], [zAr T 0 a1_7 7 f1], [zAr T 0 a2_8 28 f2], [zAr T 0 a3_9 7 f3], [zAr T 0 a4_10 7 f4]] _ _ := G.re rfl
    refine z_get C G clX4 0 rfl 2 (by decide) m_fl_RX4_9 rfl dX4_addRoad_9 ?_
    refine lv_iload_n hx hb dX4_addRoad_12 rfl (lv_at hl 1 rfl) ?_
    refine z_ild C G 1 rfl (vp_in_iff.mpr ⟨by omega, by omega⟩) dX4_addRoad_13 ?_
    refine lv_topi (fun v_11 ev_11 => ?_)
    subst ev_11
    refine lv_iconst (v := 4) hx hb dX4_addRoad_14 (by decide) ?_
    refine lv_icmp_ge (tgt := 44) hx hb dX4_addRoad_15 (by decide) (fun c_12 => ?_) (fun c_12 => ?_)
    · have c_12n : (4 : Int) ≤ (f1 x.toNatClampNeg).toInt := (fa_le _ _).mp c_12
      have hw_13 : bLand T h cr inn f1 f2 f3 f4 [zO4 h cr inn a1_7 a2_8 a3_9 a4_10, zAr T 0 a1_7 7 f1, zAr T 0 a2_8 28 f2, zAr T 0 a3_9 7 f3, zAr T 0 a4_10 7 f4] := ⟨a1_7, a2_8, a3_9, a4_10, rfl⟩
      have G : zS T A s.heap s [[zO4 h cr inn a1_7 a2_8 a3_9 a4_10, zAr T 0 a1_7 7 f1, zAr T 0 a2_8 28 f2, zAr T 0 a3_9 7 f3, zAr T 0 a4_10 7 f4]] _ _ := G.re rfl
      exact z_back hQ9 (z_vret C hr hlocks G (Nat.le_of_ble_eq_true rfl) (Nat.le_of_ble_eq_true rfl) dX4_addRoad_44 ⟨([zO4 h cr inn a1_7 a2_8 a3_9 a4_10, zAr T 0 a1_7 7 f1, zAr T 0 a2_8 28 f2, zAr T 0 a3_9 7 f3, zAr T 0 a4_10 7 f4]), f1, f2, rfl, hw_13, (by unfold zAddA; rw [if_neg (by omega)]), (by unfold zAddB; rw [if_neg (by omega)])⟩)
    · have c_12n : ¬ (4 : Int) ≤ (f1 x.toNatClampNeg).toInt := fun q => c_12 ((fa_le _ _).mpr q)
      have hI0 : 0 ≤ (f1 x.toNatClampNeg).toInt := (hI.2.1 _ (by have q1 := z_clI (x := x) (by omega); omega)).1
      refine lv_aload_n hx hb dX4_addRoad_18 rfl (lv_at hl 0 rfl) ?_
      refine z_get C G clX4 0 rfl 3 (by decide) m_fl_RX4_15 rfl dX4_addRoad_19 ?_
      refine lv_iload_n hx hb dX4_addRoad_22 rfl (lv_at hl 1 rfl) ?_
      refine lv_iconst (v := 4) hx hb dX4_addRoad_23 (by decide) ?_
      refine lv_imul hx hb dX4_addRoad_24 ?_
      refine lv_topi (fun y_14 ey_14 => ?_)
      have ey_14i : y_14.toInt = x.toInt * (4 : Int) := by rw [ey_14]; exact z_imulI (x := x) (y := (4 : Int32)) (by show -2147483648 ≤ x.toInt * (4 : Int); omega) (by show x.toInt * (4 : Int) < 2147483648; omega)
      refine lv_aload_n hx hb dX4_addRoad_25 rfl (lv_at hl 0 rfl) ?_
      refine z_get C G clX4 0 rfl 2 (by decide) m_fl_RX4_9 rfl dX4_addRoad_26 ?_
      refine lv_iload_n hx hb dX4_addRoad_29 rfl (lv_at hl 1 rfl) ?_
      refine z_ild C G 1 rfl (vp_in_iff.mpr ⟨by omega, by omega⟩) dX4_addRoad_30 ?_
      refine lv_topi (fun v_15 ev_15 => ?_)
      subst ev_15
      refine lv_iadd hx hb dX4_addRoad_31 ?_
      refine lv_topi (fun y_16 ey_16 => ?_)
      have ey_16i : y_16.toInt = y_14.toInt + (f1 x.toNatClampNeg).toInt := by rw [ey_16]; exact z_iaddI (x := y_14) (y := (f1 x.toNatClampNeg)) (by show -2147483648 ≤ y_14.toInt + (f1 x.toNatClampNeg).toInt; omega) (by show y_14.toInt + (f1 x.toNatClampNeg).toInt < 2147483648; omega)
      refine lv_iload_n hx hb dX4_addRoad_32 rfl (lv_at hl 2 rfl) ?_
      refine z_ist C G 2 rfl (vp_in_iff.mpr ⟨by omega, by omega⟩) dX4_addRoad_33 (fun H locs G => ?_)
      have G : zS T A s.heap s [[zO4 h cr inn a1_7 a2_8 a3_9 a4_10], [zAr T 0 a1_7 7 f1], [zAr T 0 a2_8 28 (upd f2 y_16.toNatClampNeg to)], [zAr T 0 a3_9 7 f3], [zAr T 0 a4_10 7 f4]] _ _ := G
      refine lv_aload_n hx hb dX4_addRoad_34 rfl (lv_at hl 0 rfl) ?_
      refine z_get C G clX4 0 rfl 2 (by decide) m_fl_RX4_9 rfl dX4_addRoad_35 ?_
      refine lv_iload_n hx hb dX4_addRoad_38 rfl (lv_at hl 1 rfl) ?_
      refine lv_dup2_11 hx hb dX4_addRoad_39 rfl rfl ?_
      refine z_ild C G 1 rfl (vp_in_iff.mpr ⟨by omega, by omega⟩) dX4_addRoad_40 ?_
      refine lv_topi (fun v_17 ev_17 => ?_)
      subst ev_17
      refine lv_iconst (v := 1) hx hb dX4_addRoad_41 (by decide) ?_
      refine lv_iadd hx hb dX4_addRoad_42 ?_
      refine z_ist C G 1 rfl (vp_in_iff.mpr ⟨by omega, by omega⟩) dX4_addRoad_43 (fun H locs G => ?_)
      have G : zS T A s.heap s [[zO4 h cr inn a1_7 a2_8 a3_9 a4_10], [zAr T 0 a1_7 7 (upd f1 x.toNatClampNeg ((f1 x.toNatClampNeg) + 1))], [zAr T 0 a2_8 28 (upd f2 y_16.toNatClampNeg to)], [zAr T 0 a3_9 7 f3], [zAr T 0 a4_10 7 f4]] _ _ := G
      have hw_18 : bLand T h cr inn (upd f1 x.toNatClampNeg ((f1 x.toNatClampNeg) + 1)) (upd f2 y_16.toNatClampNeg to) f3 f4 [zO4 h cr inn a1_7 a2_8 a3_9 a4_10, zAr T 0 a1_7 7 (upd f1 x.toNatClampNeg ((f1 x.toNatClampNeg) + 1)), zAr T 0 a2_8 28 (upd f2 y_16.toNatClampNeg to), zAr T 0 a3_9 7 f3, zAr T 0 a4_10 7 f4] := ⟨a1_7, a2_8, a3_9, a4_10, rfl⟩
      have G : zS T A s.heap s [[zO4 h cr inn a1_7 a2_8 a3_9 a4_10, zAr T 0 a1_7 7 (upd f1 x.toNatClampNeg ((f1 x.toNatClampNeg) + 1)), zAr T 0 a2_8 28 (upd f2 y_16.toNatClampNeg to), zAr T 0 a3_9 7 f3, zAr T 0 a4_10 7 f4]] _ _ := G.re rfl
      exact z_back hQ9 (z_vret C hr hlocks G (Nat.le_of_ble_eq_true rfl) (Nat.le_of_ble_eq_true rfl) dX4_addRoad_44 ⟨([zO4 h cr inn a1_7 a2_8 a3_9 a4_10, zAr T 0 a1_7 7 (upd f1 x.toNatClampNeg ((f1 x.toNatClampNeg) + 1)), zAr T 0 a2_8 28 (upd f2 y_16.toNatClampNeg to), zAr T 0 a3_9 7 f3, zAr T 0 a4_10 7 f4]), (upd f1 x.toNatClampNeg ((f1 x.toNatClampNeg) + 1)), (upd f2 y_16.toNatClampNeg to), rfl, hw_18, (by unfold zAddA; rw [if_pos (by omega)]), (by unfold zAddB; rw [if_pos (by omega)]; exact congrArg (fun k => upd f2 k to) (by have q1 := z_clI (x := x) (by omega); have q2 := z_clI (x := f1 x.toNatClampNeg) hI0; have q3 := z_clI (x := y_16) (by omega); omega))⟩)
  · have h_6 : (x.toInt < 0 ∨ cr.toInt ≤ x.toInt ∨ 7 ≤ x.toInt) := h_6
    refine lv_if_eq (tgt := 44) hx hb dX4_addRoad_5 (by decide) (fun _ => ?_) (fun q => absurd (by decide) q)
    exact z_back hQ9 (z_vret C hr hlocks G (Nat.le_of_ble_eq_true rfl) (Nat.le_of_ble_eq_true rfl) dX4_addRoad_44 ⟨w, f1, f2, rfl, hw, (by unfold zAddA; rw [if_neg (by omega)]), (by unfold zAddB; rw [if_neg (by omega)])⟩)
set_option maxHeartbeats 4000000 in
set_option maxRecDepth 100000 in
/-- c_Land_told -/
theorem c_Land_told (l : Launch) (T : zTy) (h : Nat) (cr : Int32) (inn : Int32) (f1 : Nat → Int32) (f2 : Nat → Int32) (f3 : Nat → Int32) (f4 : Nat → Int32) (w : va_W) (x : Int32) (hw : bLand T h cr inn f1 f2 f3 f4 w) : zMi l T yX4_told cX4_told 3 (some .int) 3 0 0 [.ref h, .int x] [w] (fun (r : Int32) bs => bs = [w]) := by
  refine zMi_of (own := RX4) (by decide) rfl (Nat.le_of_ble_eq_true rfl) ?_
  intro p e s m args below meth c A ls C hr hlocks hnm hAe G hl
  refine zHide (fun Q9 hQ9 => ?_)
  have hx := C.1
  have hb := C.2.1
  have hl : lv_has ls 3 [(0, .ref h), (1, .int x)] := hl
  refine lv_iload_n hx hb dX4_told_0 rfl (lv_at hl 1 rfl) ?_
  refine lv_if_ne (tgt := 9) hx hb dX4_told_1 (by decide) (fun c_1 => ?_) (fun c_1 => ?_)
  · have c_1n : ¬ x.toInt = (0 : Int) := fun q => c_1 ((fa_eq _ _).mpr q)
    refine lv_iload_n hx hb dX4_told_9 rfl (lv_at hl 1 rfl) ?_
    refine lv_iconst (v := 1) hx hb dX4_told_10 (by decide) ?_
    refine lv_icmp_ne (tgt := 19) hx hb dX4_told_11 (by decide) (fun c_2 => ?_) (fun c_2 => ?_)
    · have c_2n : ¬ x.toInt = (1 : Int) := fun q => c_2 ((fa_eq _ _).mpr q)
      refine lv_iload_n hx hb dX4_told_19 rfl (lv_at hl 1 rfl) ?_
      refine lv_bipush (v := 100) hx hb dX4_told_20 (by decide) ?_
      refine lv_icmp_lt (tgt := 44) hx hb dX4_told_22 (by decide) (fun c_3 => ?_) (fun c_3 => ?_)
      · have c_3n : x.toInt < (100 : Int) := (fa_lt _ _).mp c_3
        refine lv_iload_n hx hb dX4_told_44 rfl (lv_at hl 1 rfl) ?_
        refine lv_bipush (v := 10) hx hb dX4_told_45 (by decide) ?_
        refine lv_irem hx hb dX4_told_47 (by decide) ?_
        refine lv_istore_n (lv' := [(2, .int (x - x / 10 * 10)), (0, .ref h), (1, .int x)]) hx hb dX4_told_48 rfl hl (by decide) rfl (fun ls hl => ?_)
        refine lv_aload_n hx hb dX4_told_49 rfl (lv_at hl 1 rfl) ?_
        refine lv_iload_n hx hb dX4_told_50 rfl (lv_at hl 0 rfl) ?_
        refine z_Vi (bc := [w]) (br := []) (As := [.int (x - x / 10 * 10)]) (rest := []) C G (c_has l T h cr inn f1 f2 f3 f4 w (x - x / 10 * 10) hw) (kV_RX4_31 C.2.2.2.2 (Nat.le_of_ble_eq_true rfl) (Nat.le_of_ble_eq_true rfl)) [0] [0] rfl rfl (ci := 4) (qc := (RX4, TX4, 6)) rfl rfl (List.mem_flatten.mpr ⟨_, List.mem_of_getElem? (i := 0) rfl, (bLand_mem hw).choose_spec⟩) rfl rfl hl.1 dX4_told_51 (Nat.le_of_ble_eq_true rfl) (Nat.le_of_ble_eq_true rfl) (fun r_5 b1 H locs hw G => ?_)
        refine zAn2 hw ?_
        intro hbs9 hc_4
        clear hw
        subst hbs9
        have G : zS T A s.heap s [w] _ _ := G
        rcases hc_4 with ⟨rfl, h_6, h_7, h_8⟩ | ⟨rfl, h_9⟩
        · have h_6 : 0 ≤ (x - x / 10 * 10).toInt := h_6
          have h_7 : (x - x / 10 * 10).toInt < cr.toInt := h_7
          have h_8 : (x - x / 10 * 10).toInt < 7 := h_8
          refine lv_if_ne (tgt := 59) hx hb dX4_told_54 (by decide) (fun _ => ?_) (fun q => absurd q (by decide))
          refine lv_iload_n hx hb dX4_told_59 rfl (lv_at hl 2 rfl) ?_
          refine lv_bipush (v := 10) hx hb dX4_told_60 (by decide) ?_
          refine lv_idiv hx hb dX4_told_62 (by decide) ?_
          by_cases c_10o : (x / 10).toInt < 1 ∨ 3 < (x / 10).toInt
          · refine lv_tableOut (tgt := 109) hx hb dX4_told_63 c_10o (by decide) ?_
            refine lv_iconst (v := (-1)) hx hb dX4_told_109 (by decide) ?_
            exact z_back hQ9 (z_iret C hr hlocks G (Nat.le_of_ble_eq_true rfl) (Nat.le_of_ble_eq_true rfl) dX4_told_110 rfl)
          · have c_10r : (x / 10).toInt = 1 ∨ (x / 10).toInt = 2 ∨ (x / 10).toInt = 3 := by omega
            rcases c_10r with c_10 | c_10 | c_10
            · refine lv_tableIn (tgt := 88) hx hb dX4_told_63 (by omega) (by omega) (by rw [c_10]; rfl) (by decide) ?_
              refine lv_aload_n hx hb dX4_told_88 rfl (lv_at hl 1 rfl) ?_
              refine zEx4 hw ?_
              intro a1_11 a2_12 a3_13 a4_14 hbs9
              clear hw
              subst hbs9
              have G : zS T A s.heap s [[zO4 h cr inn a1_11 a2_12 a3_13 a4_14], [zAr T 0 a1_11 7 f1], [zAr T 0 a2_12 28 f2], [zAr T 0 a3_13 7 f3], [zAr T 0 a4_14 7 f4]] _ _ := G.re rfl
              refine z_get C G clX4 0 rfl 2 (by decide) m_fl_RX4_9 rfl dX4_told_89 ?_
              refine lv_iload_n hx hb dX4_told_92 rfl (lv_at hl 0 rfl) ?_
              refine z_ild C G 1 rfl (vp_in_iff.mpr ⟨by omega, by omega⟩) dX4_told_93 ?_
              refine lv_topi (fun v_15 ev_15 => ?_)
              subst ev_15
              have hw_16 : bLand T h cr inn f1 f2 f3 f4 [zO4 h cr inn a1_11 a2_12 a3_13 a4_14, zAr T 0 a1_11 7 f1, zAr T 0 a2_12 28 f2, zAr T 0 a3_13 7 f3, zAr T 0 a4_14 7 f4] := ⟨a1_11, a2_12, a3_13, a4_14, rfl⟩
              have G : zS T A s.heap s [[zO4 h cr inn a1_11 a2_12 a3_13 a4_14, zAr T 0 a1_11 7 f1, zAr T 0 a2_12 28 f2, zAr T 0 a3_13 7 f3, zAr T 0 a4_14 7 f4]] _ _ := G.re rfl
              exact z_back hQ9 (z_iret C hr hlocks G (Nat.le_of_ble_eq_true rfl) (Nat.le_of_ble_eq_true rfl) dX4_told_94 rfl)
            · refine lv_tableIn (tgt := 95) hx hb dX4_told_63 (by omega) (by omega) (by rw [c_10]; rfl) (by decide) ?_
              refine lv_aload_n hx hb dX4_told_95 rfl (lv_at hl 1 rfl) ?_
              refine zEx4 hw ?_
              intro a1_17 a2_18 a3_19 a4_20 hbs9
              clear hw
              subst hbs9
              have G : zS T A s.heap s [[zO4 h cr inn a1_17 a2_18 a3_19 a4_20], [zAr T 0 a1_17 7 f1], [zAr T 0 a2_18 28 f2], [zAr T 0 a3_19 7 f3], [zAr T 0 a4_20 7 f4]] _ _ := G.re rfl
              refine z_get C G clX4 0 rfl 4 (by decide) m_fl_RX4_18 rfl dX4_told_96 ?_
              refine lv_iload_n hx hb dX4_told_99 rfl (lv_at hl 0 rfl) ?_
              refine z_ild C G 3 rfl (vp_in_iff.mpr ⟨by omega, by omega⟩) dX4_told_100 ?_
              refine lv_topi (fun v_21 ev_21 => ?_)
              subst ev_21
              have hw_22 : bLand T h cr inn f1 f2 f3 f4 [zO4 h cr inn a1_17 a2_18 a3_19 a4_20, zAr T 0 a1_17 7 f1, zAr T 0 a2_18 28 f2, zAr T 0 a3_19 7 f3, zAr T 0 a4_20 7 f4] := ⟨a1_17, a2_18, a3_19, a4_20, rfl⟩
              have G : zS T A s.heap s [[zO4 h cr inn a1_17 a2_18 a3_19 a4_20, zAr T 0 a1_17 7 f1, zAr T 0 a2_18 28 f2, zAr T 0 a3_19 7 f3, zAr T 0 a4_20 7 f4]] _ _ := G.re rfl
              exact z_back hQ9 (z_iret C hr hlocks G (Nat.le_of_ble_eq_true rfl) (Nat.le_of_ble_eq_true rfl) dX4_told_101 rfl)
            · refine lv_tableIn (tgt := 102) hx hb dX4_told_63 (by omega) (by omega) (by rw [c_10]; rfl) (by decide) ?_
              refine lv_aload_n hx hb dX4_told_102 rfl (lv_at hl 1 rfl) ?_
              refine zEx4 hw ?_
              intro a1_23 a2_24 a3_25 a4_26 hbs9
              clear hw
              subst hbs9
              have G : zS T A s.heap s [[zO4 h cr inn a1_23 a2_24 a3_25 a4_26], [zAr T 0 a1_23 7 f1], [zAr T 0 a2_24 28 f2], [zAr T 0 a3_25 7 f3], [zAr T 0 a4_26 7 f4]] _ _ := G.re rfl
              refine z_get C G clX4 0 rfl 5 (by decide) m_fl_RX4_21 rfl dX4_told_103 ?_
              refine lv_iload_n hx hb dX4_told_106 rfl (lv_at hl 0 rfl) ?_
              refine z_ild C G 4 rfl (vp_in_iff.mpr ⟨by omega, by omega⟩) dX4_told_107 ?_
              refine lv_topi (fun v_27 ev_27 => ?_)
              subst ev_27
              have hw_28 : bLand T h cr inn f1 f2 f3 f4 [zO4 h cr inn a1_23 a2_24 a3_25 a4_26, zAr T 0 a1_23 7 f1, zAr T 0 a2_24 28 f2, zAr T 0 a3_25 7 f3, zAr T 0 a4_26 7 f4] := ⟨a1_23, a2_24, a3_25, a4_26, rfl⟩
              have G : zS T A s.heap s [[zO4 h cr inn a1_23 a2_24 a3_25 a4_26, zAr T 0 a1_23 7 f1, zAr T 0 a2_24 28 f2, zAr T 0 a3_25 7 f3, zAr T 0 a4_26 7 f4]] _ _ := G.re rfl
              exact z_back hQ9 (z_iret C hr hlocks G (Nat.le_of_ble_eq_true rfl) (Nat.le_of_ble_eq_true rfl) dX4_told_108 rfl)
        · have h_9 : ((x - x / 10 * 10).toInt < 0 ∨ cr.toInt ≤ (x - x / 10 * 10).toInt ∨ 7 ≤ (x - x / 10 * 10).toInt) := h_9
          refine lv_if_ne (tgt := 59) hx hb dX4_told_54 (by decide) (fun q => absurd (by decide) q) (fun _ => ?_)
          refine lv_iconst (v := (-1)) hx hb dX4_told_57 (by decide) ?_
          exact z_back hQ9 (z_iret C hr hlocks G (Nat.le_of_ble_eq_true rfl) (Nat.le_of_ble_eq_true rfl) dX4_told_58 rfl)
      · have c_3n : ¬ x.toInt < (100 : Int) := fun q => c_3 ((fa_lt _ _).mpr q)
        refine lv_aload_n hx hb dX4_told_25 rfl (lv_at hl 0 rfl) ?_
        refine lv_iload_n hx hb dX4_told_26 rfl (lv_at hl 1 rfl) ?_
        refine lv_bipush (v := 100) hx hb dX4_told_27 (by decide) ?_
        refine lv_isub hx hb dX4_told_29 ?_
        refine lv_bipush (v := 10) hx hb dX4_told_30 (by decide) ?_
        refine lv_idiv hx hb dX4_told_32 (by decide) ?_
        refine lv_iload_n hx hb dX4_told_33 rfl (lv_at hl 1 rfl) ?_
        refine lv_bipush (v := 100) hx hb dX4_told_34 (by decide) ?_
        refine lv_isub hx hb dX4_told_36 ?_
        refine lv_bipush (v := 10) hx hb dX4_told_37 (by decide) ?_
        refine lv_irem hx hb dX4_told_39 (by decide) ?_
        refine z_Vi (bc := [w]) (br := []) (As := [.int ((x - 100) / 10), .int ((x - 100) - (x - 100) / 10 * 10)]) (rest := []) C G (c_target l T h cr inn f1 f2 f3 f4 w ((x - 100) / 10) ((x - 100) - (x - 100) / 10 * 10) hw) (kV_RX4_39 C.2.2.2.2 (Nat.le_of_ble_eq_true rfl) (Nat.le_of_ble_eq_true rfl)) [0] [0] rfl rfl (ci := 4) (qc := (RX4, TX4, 6)) rfl rfl (List.mem_flatten.mpr ⟨_, List.mem_of_getElem? (i := 0) rfl, (bLand_mem hw).choose_spec⟩) rfl rfl hl.1 dX4_told_40 (Nat.le_of_ble_eq_true rfl) (Nat.le_of_ble_eq_true rfl) (fun r_30 b1 H locs hw G => ?_)
        refine zAn2 hw ?_
        intro hbs9 h_29
        clear hw
        subst hbs9
        have G : zS T A s.heap s [w] _ _ := G
        subst h_29
        exact z_back hQ9 (z_iret C hr hlocks G (Nat.le_of_ble_eq_true rfl) (Nat.le_of_ble_eq_true rfl) dX4_told_43 rfl)
    · have c_2n : x.toInt = (1 : Int) := (fa_eq _ _).mp c_2
      refine lv_aload_n hx hb dX4_told_14 rfl (lv_at hl 0 rfl) ?_
      refine zEx4 hw ?_
      intro a1_31 a2_32 a3_33 a4_34 hbs9
      clear hw
      subst hbs9
      have G : zS T A s.heap s [[zO4 h cr inn a1_31 a2_32 a3_33 a4_34], [zAr T 0 a1_31 7 f1], [zAr T 0 a2_32 28 f2], [zAr T 0 a3_33 7 f3], [zAr T 0 a4_34 7 f4]] _ _ := G.re rfl
      refine z_get C G clX4 0 rfl 1 (by decide) m_fl_RX4_28 rfl dX4_told_15 ?_
      have hw_35 : bLand T h cr inn f1 f2 f3 f4 [zO4 h cr inn a1_31 a2_32 a3_33 a4_34, zAr T 0 a1_31 7 f1, zAr T 0 a2_32 28 f2, zAr T 0 a3_33 7 f3, zAr T 0 a4_34 7 f4] := ⟨a1_31, a2_32, a3_33, a4_34, rfl⟩
      have G : zS T A s.heap s [[zO4 h cr inn a1_31 a2_32 a3_33 a4_34, zAr T 0 a1_31 7 f1, zAr T 0 a2_32 28 f2, zAr T 0 a3_33 7 f3, zAr T 0 a4_34 7 f4]] _ _ := G.re rfl
      exact z_back hQ9 (z_iret C hr hlocks G (Nat.le_of_ble_eq_true rfl) (Nat.le_of_ble_eq_true rfl) dX4_told_18 rfl)
  · have c_1n : x.toInt = (0 : Int) := (fa_eq _ _).mp c_1
    refine lv_aload_n hx hb dX4_told_4 rfl (lv_at hl 0 rfl) ?_
    refine zEx4 hw ?_
    intro a1_36 a2_37 a3_38 a4_39 hbs9
    clear hw
    subst hbs9
    have G : zS T A s.heap s [[zO4 h cr inn a1_36 a2_37 a3_38 a4_39], [zAr T 0 a1_36 7 f1], [zAr T 0 a2_37 28 f2], [zAr T 0 a3_38 7 f3], [zAr T 0 a4_39 7 f4]] _ _ := G.re rfl
    refine z_get C G clX4 0 rfl 0 (by decide) m_fl_RX4_24 rfl dX4_told_5 ?_
    have hw_40 : bLand T h cr inn f1 f2 f3 f4 [zO4 h cr inn a1_36 a2_37 a3_38 a4_39, zAr T 0 a1_36 7 f1, zAr T 0 a2_37 28 f2, zAr T 0 a3_38 7 f3, zAr T 0 a4_39 7 f4] := ⟨a1_36, a2_37, a3_38, a4_39, rfl⟩
    have G : zS T A s.heap s [[zO4 h cr inn a1_36 a2_37 a3_38 a4_39, zAr T 0 a1_36 7 f1, zAr T 0 a2_37 28 f2, zAr T 0 a3_38 7 f3, zAr T 0 a4_39 7 f4]] _ _ := G.re rfl
    exact z_back hQ9 (z_iret C hr hlocks G (Nat.le_of_ble_eq_true rfl) (Nat.le_of_ble_eq_true rfl) dX4_told_8 rfl)
theorem m_fl_RX2_21 : Cond.fieldLink RX2 21 (TX2 0).1 (TX2 0).2.1 (TX2 0).2.2.1 ∈ zT := zmem1 zsub_1 88 rfl rfl
theorem m_fl_RX5_18 : Cond.fieldLink RX5 18 (TX5 0).1 (TX5 0).2.1 (TX5 0).2.2.1 ∈ zT := zmem1 zsub_1 114 rfl rfl
theorem dX2_add_0 : decode cX2_add 0 = .ok (.aload_n 0, 1) := zo_42 (by decide +kernel)
theorem dX2_add_1 : decode cX2_add 1 = .ok (.getfield 21, 3) := zo_180 (by decide +kernel)
theorem dX2_add_4 : decode cX2_add 4 = .ok (.ifCond .lt 52, 3) := zo_155 (by decide +kernel)
theorem dX2_add_7 : decode cX2_add 7 = .ok (.aload_n 0, 1) := zo_42 (by decide +kernel)
theorem dX2_add_8 : decode cX2_add 8 = .ok (.getfield 21, 3) := zo_180 (by decide +kernel)
theorem dX2_add_11 : decode cX2_add 11 = .ok (.bipush 40, 2) := zo_16 (by decide +kernel)
theorem dX2_add_13 : decode cX2_add 13 = .ok (.if_icmp .ge 43, 3) := zo_162 (by decide +kernel)
theorem dX2_add_16 : decode cX2_add 16 = .ok (.aload_n 0, 1) := zo_42 (by decide +kernel)
theorem dX2_add_17 : decode cX2_add 17 = .ok (.getfield 9, 3) := zo_180 (by decide +kernel)
theorem dX2_add_20 : decode cX2_add 20 = .ok (.aload_n 0, 1) := zo_42 (by decide +kernel)
theorem dX2_add_21 : decode cX2_add 21 = .ok (.getfield 21, 3) := zo_180 (by decide +kernel)
theorem dX2_add_24 : decode cX2_add 24 = .ok (.iload_n 1, 1) := zo_27 (by decide +kernel)
theorem dX2_add_25 : decode cX2_add 25 = .ok (.iastore, 1) := zo_79 (by decide +kernel)
theorem dX2_add_26 : decode cX2_add 26 = .ok (.aload_n 0, 1) := zo_42 (by decide +kernel)
theorem dX2_add_27 : decode cX2_add 27 = .ok (.getfield 15, 3) := zo_180 (by decide +kernel)
theorem dX2_add_30 : decode cX2_add 30 = .ok (.aload_n 0, 1) := zo_42 (by decide +kernel)
theorem dX2_add_31 : decode cX2_add 31 = .ok (.getfield 21, 3) := zo_180 (by decide +kernel)
theorem dX2_add_34 : decode cX2_add 34 = .ok (.iload_n 2, 1) := zo_28 (by decide +kernel)
theorem dX2_add_35 : decode cX2_add 35 = .ok (.iastore, 1) := zo_79 (by decide +kernel)
theorem dX2_add_36 : decode cX2_add 36 = .ok (.aload_n 0, 1) := zo_42 (by decide +kernel)
theorem dX2_add_37 : decode cX2_add 37 = .ok (.getfield 18, 3) := zo_180 (by decide +kernel)
theorem dX2_add_40 : decode cX2_add 40 = .ok (.aload_n 0, 1) := zo_42 (by decide +kernel)
theorem dX2_add_41 : decode cX2_add 41 = .ok (.getfield 21, 3) := zo_180 (by decide +kernel)
theorem dX2_add_44 : decode cX2_add 44 = .ok (.iload_n 3, 1) := zo_29 (by decide +kernel)
theorem dX2_add_45 : decode cX2_add 45 = .ok (.iastore, 1) := zo_79 (by decide +kernel)
theorem dX2_add_46 : decode cX2_add 46 = .ok (.aload_n 0, 1) := zo_42 (by decide +kernel)
theorem dX2_add_47 : decode cX2_add 47 = .ok (.dup, 1) := zo_89 (by decide +kernel)
theorem dX2_add_48 : decode cX2_add 48 = .ok (.getfield 21, 3) := zo_180 (by decide +kernel)
theorem dX2_add_51 : decode cX2_add 51 = .ok (.iconst 1, 1) := zo_4 (by decide +kernel)
theorem dX2_add_52 : decode cX2_add 52 = .ok (.iadd, 1) := zo_96 (by decide +kernel)
theorem dX2_add_53 : decode cX2_add 53 = .ok (.putfield 21, 3) := zo_181 (by decide +kernel)
theorem dX2_add_56 : decode cX2_add 56 = .ok (.return_, 1) := zo_177 (by decide +kernel)
theorem dX2_told_0 : decode cX2_told 0 = .ok (.iload_n 1, 1) := zo_27 (by decide +kernel)
theorem dX2_told_1 : decode cX2_told 1 = .ok (.iconst (-1), 1) := zo_2 (by decide +kernel)
theorem dX2_told_2 : decode cX2_told 2 = .ok (.if_icmp .ne 12, 3) := zo_160 (by decide +kernel)
theorem dX2_told_5 : decode cX2_told 5 = .ok (.iload_n 2, 1) := zo_28 (by decide +kernel)
theorem dX2_told_6 : decode cX2_told 6 = .ok (.ifCond .ne 8, 3) := zo_154 (by decide +kernel)
theorem dX2_told_9 : decode cX2_told 9 = .ok (.aload_n 0, 1) := zo_42 (by decide +kernel)
theorem dX2_told_10 : decode cX2_told 10 = .ok (.getfield 21, 3) := zo_180 (by decide +kernel)
theorem dX2_told_13 : decode cX2_told 13 = .ok (.ireturn, 1) := zo_172 (by decide +kernel)
theorem dX2_told_14 : decode cX2_told 14 = .ok (.iload_n 1, 1) := zo_27 (by decide +kernel)
theorem dX2_told_15 : decode cX2_told 15 = .ok (.ifCond .lt 17, 3) := zo_155 (by decide +kernel)
theorem dX2_told_18 : decode cX2_told 18 = .ok (.iload_n 1, 1) := zo_27 (by decide +kernel)
theorem dX2_told_19 : decode cX2_told 19 = .ok (.aload_n 0, 1) := zo_42 (by decide +kernel)
theorem dX2_told_20 : decode cX2_told 20 = .ok (.getfield 21, 3) := zo_180 (by decide +kernel)
theorem dX2_told_23 : decode cX2_told 23 = .ok (.if_icmp .ge 9, 3) := zo_162 (by decide +kernel)
theorem dX2_told_26 : decode cX2_told 26 = .ok (.iload_n 1, 1) := zo_27 (by decide +kernel)
theorem dX2_told_27 : decode cX2_told 27 = .ok (.bipush 40, 2) := zo_16 (by decide +kernel)
theorem dX2_told_29 : decode cX2_told 29 = .ok (.if_icmp .lt 6, 3) := zo_161 (by decide +kernel)
theorem dX2_told_32 : decode cX2_told 32 = .ok (.bipush (-2), 2) := zo_16 (by decide +kernel)
theorem dX2_told_34 : decode cX2_told 34 = .ok (.ireturn, 1) := zo_172 (by decide +kernel)
theorem dX2_told_35 : decode cX2_told 35 = .ok (.iload_n 2, 1) := zo_28 (by decide +kernel)
theorem dX2_told_36 : decode cX2_told 36 = .ok (.tableswitch 49 0 2 #[28, 35, 42], 28) := by decide +kernel
theorem dX2_told_64 : decode cX2_told 64 = .ok (.aload_n 0, 1) := zo_42 (by decide +kernel)
theorem dX2_told_65 : decode cX2_told 65 = .ok (.getfield 9, 3) := zo_180 (by decide +kernel)
theorem dX2_told_68 : decode cX2_told 68 = .ok (.iload_n 1, 1) := zo_27 (by decide +kernel)
theorem dX2_told_69 : decode cX2_told 69 = .ok (.iaload, 1) := zo_46 (by decide +kernel)
theorem dX2_told_70 : decode cX2_told 70 = .ok (.ireturn, 1) := zo_172 (by decide +kernel)
theorem dX2_told_71 : decode cX2_told 71 = .ok (.aload_n 0, 1) := zo_42 (by decide +kernel)
theorem dX2_told_72 : decode cX2_told 72 = .ok (.getfield 15, 3) := zo_180 (by decide +kernel)
theorem dX2_told_75 : decode cX2_told 75 = .ok (.iload_n 1, 1) := zo_27 (by decide +kernel)
theorem dX2_told_76 : decode cX2_told 76 = .ok (.iaload, 1) := zo_46 (by decide +kernel)
theorem dX2_told_77 : decode cX2_told 77 = .ok (.ireturn, 1) := zo_172 (by decide +kernel)
theorem dX2_told_78 : decode cX2_told 78 = .ok (.aload_n 0, 1) := zo_42 (by decide +kernel)
theorem dX2_told_79 : decode cX2_told 79 = .ok (.getfield 18, 3) := zo_180 (by decide +kernel)
theorem dX2_told_82 : decode cX2_told 82 = .ok (.iload_n 1, 1) := zo_27 (by decide +kernel)
theorem dX2_told_83 : decode cX2_told 83 = .ok (.iaload, 1) := zo_46 (by decide +kernel)
theorem dX2_told_84 : decode cX2_told 84 = .ok (.ireturn, 1) := zo_172 (by decide +kernel)
theorem dX2_told_85 : decode cX2_told 85 = .ok (.bipush (-2), 2) := zo_16 (by decide +kernel)
theorem dX2_told_87 : decode cX2_told 87 = .ok (.ireturn, 1) := zo_172 (by decide +kernel)
theorem dX5_add_0 : decode cX5_add 0 = .ok (.aload_n 0, 1) := zo_42 (by decide +kernel)
theorem dX5_add_1 : decode cX5_add 1 = .ok (.getfield 18, 3) := zo_180 (by decide +kernel)
theorem dX5_add_4 : decode cX5_add 4 = .ok (.ifCond .lt 42, 3) := zo_155 (by decide +kernel)
theorem dX5_add_7 : decode cX5_add 7 = .ok (.aload_n 0, 1) := zo_42 (by decide +kernel)
theorem dX5_add_8 : decode cX5_add 8 = .ok (.getfield 18, 3) := zo_180 (by decide +kernel)
theorem dX5_add_11 : decode cX5_add 11 = .ok (.bipush 8, 2) := zo_16 (by decide +kernel)
theorem dX5_add_13 : decode cX5_add 13 = .ok (.if_icmp .ge 33, 3) := zo_162 (by decide +kernel)
theorem dX5_add_16 : decode cX5_add 16 = .ok (.aload_n 0, 1) := zo_42 (by decide +kernel)
theorem dX5_add_17 : decode cX5_add 17 = .ok (.getfield 9, 3) := zo_180 (by decide +kernel)
theorem dX5_add_20 : decode cX5_add 20 = .ok (.aload_n 0, 1) := zo_42 (by decide +kernel)
theorem dX5_add_21 : decode cX5_add 21 = .ok (.getfield 18, 3) := zo_180 (by decide +kernel)
theorem dX5_add_24 : decode cX5_add 24 = .ok (.iload_n 1, 1) := zo_27 (by decide +kernel)
theorem dX5_add_25 : decode cX5_add 25 = .ok (.iastore, 1) := zo_79 (by decide +kernel)
theorem dX5_add_26 : decode cX5_add 26 = .ok (.aload_n 0, 1) := zo_42 (by decide +kernel)
theorem dX5_add_27 : decode cX5_add 27 = .ok (.getfield 15, 3) := zo_180 (by decide +kernel)
theorem dX5_add_30 : decode cX5_add 30 = .ok (.aload_n 0, 1) := zo_42 (by decide +kernel)
theorem dX5_add_31 : decode cX5_add 31 = .ok (.getfield 18, 3) := zo_180 (by decide +kernel)
theorem dX5_add_34 : decode cX5_add 34 = .ok (.iload_n 2, 1) := zo_28 (by decide +kernel)
theorem dX5_add_35 : decode cX5_add 35 = .ok (.iastore, 1) := zo_79 (by decide +kernel)
theorem dX5_add_36 : decode cX5_add 36 = .ok (.aload_n 0, 1) := zo_42 (by decide +kernel)
theorem dX5_add_37 : decode cX5_add 37 = .ok (.dup, 1) := zo_89 (by decide +kernel)
theorem dX5_add_38 : decode cX5_add 38 = .ok (.getfield 18, 3) := zo_180 (by decide +kernel)
theorem dX5_add_41 : decode cX5_add 41 = .ok (.iconst 1, 1) := zo_4 (by decide +kernel)
theorem dX5_add_42 : decode cX5_add 42 = .ok (.iadd, 1) := zo_96 (by decide +kernel)
theorem dX5_add_43 : decode cX5_add 43 = .ok (.putfield 18, 3) := zo_181 (by decide +kernel)
theorem dX5_add_46 : decode cX5_add 46 = .ok (.return_, 1) := zo_177 (by decide +kernel)
theorem dX5_told_0 : decode cX5_told 0 = .ok (.iload_n 1, 1) := zo_27 (by decide +kernel)
theorem dX5_told_1 : decode cX5_told 1 = .ok (.iconst (-1), 1) := zo_2 (by decide +kernel)
theorem dX5_told_2 : decode cX5_told 2 = .ok (.if_icmp .ne 12, 3) := zo_160 (by decide +kernel)
theorem dX5_told_5 : decode cX5_told 5 = .ok (.iload_n 2, 1) := zo_28 (by decide +kernel)
theorem dX5_told_6 : decode cX5_told 6 = .ok (.ifCond .ne 8, 3) := zo_154 (by decide +kernel)
theorem dX5_told_9 : decode cX5_told 9 = .ok (.aload_n 0, 1) := zo_42 (by decide +kernel)
theorem dX5_told_10 : decode cX5_told 10 = .ok (.getfield 18, 3) := zo_180 (by decide +kernel)
theorem dX5_told_13 : decode cX5_told 13 = .ok (.ireturn, 1) := zo_172 (by decide +kernel)
theorem dX5_told_14 : decode cX5_told 14 = .ok (.iload_n 1, 1) := zo_27 (by decide +kernel)
theorem dX5_told_15 : decode cX5_told 15 = .ok (.ifCond .lt 26, 3) := zo_155 (by decide +kernel)
theorem dX5_told_18 : decode cX5_told 18 = .ok (.iload_n 1, 1) := zo_27 (by decide +kernel)
theorem dX5_told_19 : decode cX5_told 19 = .ok (.aload_n 0, 1) := zo_42 (by decide +kernel)
theorem dX5_told_20 : decode cX5_told 20 = .ok (.getfield 18, 3) := zo_180 (by decide +kernel)
theorem dX5_told_23 : decode cX5_told 23 = .ok (.if_icmp .ge 18, 3) := zo_162 (by decide +kernel)
theorem dX5_told_26 : decode cX5_told 26 = .ok (.iload_n 1, 1) := zo_27 (by decide +kernel)
theorem dX5_told_27 : decode cX5_told 27 = .ok (.bipush 8, 2) := zo_16 (by decide +kernel)
theorem dX5_told_29 : decode cX5_told 29 = .ok (.if_icmp .ge 12, 3) := zo_162 (by decide +kernel)
theorem dX5_told_32 : decode cX5_told 32 = .ok (.iload_n 2, 1) := zo_28 (by decide +kernel)
theorem dX5_told_33 : decode cX5_told 33 = .ok (.ifCond .lt 8, 3) := zo_155 (by decide +kernel)
theorem dX5_told_36 : decode cX5_told 36 = .ok (.iload_n 2, 1) := zo_28 (by decide +kernel)
theorem dX5_told_37 : decode cX5_told 37 = .ok (.iconst 1, 1) := zo_4 (by decide +kernel)
theorem dX5_told_38 : decode cX5_told 38 = .ok (.if_icmp .le 6, 3) := zo_164 (by decide +kernel)
theorem dX5_told_41 : decode cX5_told 41 = .ok (.bipush (-2), 2) := zo_16 (by decide +kernel)
theorem dX5_told_43 : decode cX5_told 43 = .ok (.ireturn, 1) := zo_172 (by decide +kernel)
theorem dX5_told_44 : decode cX5_told 44 = .ok (.iload_n 2, 1) := zo_28 (by decide +kernel)
theorem dX5_told_45 : decode cX5_told 45 = .ok (.ifCond .ne 12, 3) := zo_154 (by decide +kernel)
theorem dX5_told_48 : decode cX5_told 48 = .ok (.aload_n 0, 1) := zo_42 (by decide +kernel)
theorem dX5_told_49 : decode cX5_told 49 = .ok (.getfield 9, 3) := zo_180 (by decide +kernel)
theorem dX5_told_52 : decode cX5_told 52 = .ok (.iload_n 1, 1) := zo_27 (by decide +kernel)
theorem dX5_told_53 : decode cX5_told 53 = .ok (.iaload, 1) := zo_46 (by decide +kernel)
theorem dX5_told_54 : decode cX5_told 54 = .ok (.goto 9, 3) := zo_167 (by decide +kernel)
theorem dX5_told_57 : decode cX5_told 57 = .ok (.aload_n 0, 1) := zo_42 (by decide +kernel)
theorem dX5_told_58 : decode cX5_told 58 = .ok (.getfield 15, 3) := zo_180 (by decide +kernel)
theorem dX5_told_61 : decode cX5_told 61 = .ok (.iload_n 1, 1) := zo_27 (by decide +kernel)
theorem dX5_told_62 : decode cX5_told 62 = .ok (.iaload, 1) := zo_46 (by decide +kernel)
theorem dX5_told_63 : decode cX5_told 63 = .ok (.ireturn, 1) := zo_172 (by decide +kernel)
theorem dX4_takeAll_0 : decode cX4_takeAll 0 = .ok (.aload_n 0, 1) := zo_42 (by decide +kernel)
theorem dX4_takeAll_1 : decode cX4_takeAll 1 = .ok (.aload_n 1, 1) := zo_43 (by decide +kernel)
theorem dX4_takeAll_2 : decode cX4_takeAll 2 = .ok (.getfield 24, 3) := zo_180 (by decide +kernel)
theorem dX4_takeAll_5 : decode cX4_takeAll 5 = .ok (.putfield 24, 3) := zo_181 (by decide +kernel)
theorem dX4_takeAll_8 : decode cX4_takeAll 8 = .ok (.aload_n 0, 1) := zo_42 (by decide +kernel)
theorem dX4_takeAll_9 : decode cX4_takeAll 9 = .ok (.aload_n 1, 1) := zo_43 (by decide +kernel)
theorem dX4_takeAll_10 : decode cX4_takeAll 10 = .ok (.getfield 28, 3) := zo_180 (by decide +kernel)
theorem dX4_takeAll_13 : decode cX4_takeAll 13 = .ok (.putfield 28, 3) := zo_181 (by decide +kernel)
theorem dX4_takeAll_16 : decode cX4_takeAll 16 = .ok (.iconst 0, 1) := zo_3 (by decide +kernel)
theorem dX4_takeAll_17 : decode cX4_takeAll 17 = .ok (.istore_n 2, 1) := zo_61 (by decide +kernel)
theorem dX4_takeAll_18 : decode cX4_takeAll 18 = .ok (.iload_n 2, 1) := zo_28 (by decide +kernel)
theorem dX4_takeAll_19 : decode cX4_takeAll 19 = .ok (.bipush 7, 2) := zo_16 (by decide +kernel)
theorem dX4_takeAll_21 : decode cX4_takeAll 21 = .ok (.if_icmp .ge 45, 3) := zo_162 (by decide +kernel)
theorem dX4_takeAll_24 : decode cX4_takeAll 24 = .ok (.aload_n 0, 1) := zo_42 (by decide +kernel)
theorem dX4_takeAll_25 : decode cX4_takeAll 25 = .ok (.getfield 9, 3) := zo_180 (by decide +kernel)
theorem dX4_takeAll_28 : decode cX4_takeAll 28 = .ok (.iload_n 2, 1) := zo_28 (by decide +kernel)
theorem dX4_takeAll_29 : decode cX4_takeAll 29 = .ok (.aload_n 1, 1) := zo_43 (by decide +kernel)
theorem dX4_takeAll_30 : decode cX4_takeAll 30 = .ok (.getfield 9, 3) := zo_180 (by decide +kernel)
theorem dX4_takeAll_33 : decode cX4_takeAll 33 = .ok (.iload_n 2, 1) := zo_28 (by decide +kernel)
theorem dX4_takeAll_34 : decode cX4_takeAll 34 = .ok (.iaload, 1) := zo_46 (by decide +kernel)
theorem dX4_takeAll_35 : decode cX4_takeAll 35 = .ok (.iastore, 1) := zo_79 (by decide +kernel)
theorem dX4_takeAll_36 : decode cX4_takeAll 36 = .ok (.aload_n 0, 1) := zo_42 (by decide +kernel)
theorem dX4_takeAll_37 : decode cX4_takeAll 37 = .ok (.getfield 18, 3) := zo_180 (by decide +kernel)
theorem dX4_takeAll_40 : decode cX4_takeAll 40 = .ok (.iload_n 2, 1) := zo_28 (by decide +kernel)
theorem dX4_takeAll_41 : decode cX4_takeAll 41 = .ok (.aload_n 1, 1) := zo_43 (by decide +kernel)
theorem dX4_takeAll_42 : decode cX4_takeAll 42 = .ok (.getfield 18, 3) := zo_180 (by decide +kernel)
theorem dX4_takeAll_45 : decode cX4_takeAll 45 = .ok (.iload_n 2, 1) := zo_28 (by decide +kernel)
theorem dX4_takeAll_46 : decode cX4_takeAll 46 = .ok (.iaload, 1) := zo_46 (by decide +kernel)
theorem dX4_takeAll_47 : decode cX4_takeAll 47 = .ok (.iastore, 1) := zo_79 (by decide +kernel)
theorem dX4_takeAll_48 : decode cX4_takeAll 48 = .ok (.aload_n 0, 1) := zo_42 (by decide +kernel)
theorem dX4_takeAll_49 : decode cX4_takeAll 49 = .ok (.getfield 21, 3) := zo_180 (by decide +kernel)
theorem dX4_takeAll_52 : decode cX4_takeAll 52 = .ok (.iload_n 2, 1) := zo_28 (by decide +kernel)
theorem dX4_takeAll_53 : decode cX4_takeAll 53 = .ok (.aload_n 1, 1) := zo_43 (by decide +kernel)
theorem dX4_takeAll_54 : decode cX4_takeAll 54 = .ok (.getfield 21, 3) := zo_180 (by decide +kernel)
theorem dX4_takeAll_57 : decode cX4_takeAll 57 = .ok (.iload_n 2, 1) := zo_28 (by decide +kernel)
theorem dX4_takeAll_58 : decode cX4_takeAll 58 = .ok (.iaload, 1) := zo_46 (by decide +kernel)
theorem dX4_takeAll_59 : decode cX4_takeAll 59 = .ok (.iastore, 1) := zo_79 (by decide +kernel)
theorem dX4_takeAll_60 : decode cX4_takeAll 60 = .ok (.iinc 2 1, 3) := zo_132 (by decide +kernel)
theorem dX4_takeAll_63 : decode cX4_takeAll 63 = .ok (.goto (-45), 3) := zo_167 (by decide +kernel)
theorem dX4_takeAll_66 : decode cX4_takeAll 66 = .ok (.iconst 0, 1) := zo_3 (by decide +kernel)
theorem dX4_takeAll_67 : decode cX4_takeAll 67 = .ok (.istore_n 2, 1) := zo_61 (by decide +kernel)
theorem dX4_takeAll_68 : decode cX4_takeAll 68 = .ok (.iload_n 2, 1) := zo_28 (by decide +kernel)
theorem dX4_takeAll_69 : decode cX4_takeAll 69 = .ok (.bipush 28, 2) := zo_16 (by decide +kernel)
theorem dX4_takeAll_71 : decode cX4_takeAll 71 = .ok (.if_icmp .ge 21, 3) := zo_162 (by decide +kernel)
theorem dX4_takeAll_74 : decode cX4_takeAll 74 = .ok (.aload_n 0, 1) := zo_42 (by decide +kernel)
theorem dX4_takeAll_75 : decode cX4_takeAll 75 = .ok (.getfield 15, 3) := zo_180 (by decide +kernel)
theorem dX4_takeAll_78 : decode cX4_takeAll 78 = .ok (.iload_n 2, 1) := zo_28 (by decide +kernel)
theorem dX4_takeAll_79 : decode cX4_takeAll 79 = .ok (.aload_n 1, 1) := zo_43 (by decide +kernel)
theorem dX4_takeAll_80 : decode cX4_takeAll 80 = .ok (.getfield 15, 3) := zo_180 (by decide +kernel)
theorem dX4_takeAll_83 : decode cX4_takeAll 83 = .ok (.iload_n 2, 1) := zo_28 (by decide +kernel)
theorem dX4_takeAll_84 : decode cX4_takeAll 84 = .ok (.iaload, 1) := zo_46 (by decide +kernel)
theorem dX4_takeAll_85 : decode cX4_takeAll 85 = .ok (.iastore, 1) := zo_79 (by decide +kernel)
theorem dX4_takeAll_86 : decode cX4_takeAll 86 = .ok (.iinc 2 1, 3) := zo_132 (by decide +kernel)
theorem dX4_takeAll_89 : decode cX4_takeAll 89 = .ok (.goto (-21), 3) := zo_167 (by decide +kernel)
theorem dX4_takeAll_92 : decode cX4_takeAll 92 = .ok (.return_, 1) := zo_177 (by decide +kernel)
theorem dX2_takeAll_0 : decode cX2_takeAll 0 = .ok (.aload_n 0, 1) := zo_42 (by decide +kernel)
theorem dX2_takeAll_1 : decode cX2_takeAll 1 = .ok (.aload_n 1, 1) := zo_43 (by decide +kernel)
theorem dX2_takeAll_2 : decode cX2_takeAll 2 = .ok (.getfield 21, 3) := zo_180 (by decide +kernel)
theorem dX2_takeAll_5 : decode cX2_takeAll 5 = .ok (.putfield 21, 3) := zo_181 (by decide +kernel)
theorem dX2_takeAll_8 : decode cX2_takeAll 8 = .ok (.iconst 0, 1) := zo_3 (by decide +kernel)
theorem dX2_takeAll_9 : decode cX2_takeAll 9 = .ok (.istore_n 2, 1) := zo_61 (by decide +kernel)
theorem dX2_takeAll_10 : decode cX2_takeAll 10 = .ok (.iload_n 2, 1) := zo_28 (by decide +kernel)
theorem dX2_takeAll_11 : decode cX2_takeAll 11 = .ok (.bipush 40, 2) := zo_16 (by decide +kernel)
theorem dX2_takeAll_13 : decode cX2_takeAll 13 = .ok (.if_icmp .ge 45, 3) := zo_162 (by decide +kernel)
theorem dX2_takeAll_16 : decode cX2_takeAll 16 = .ok (.aload_n 0, 1) := zo_42 (by decide +kernel)
theorem dX2_takeAll_17 : decode cX2_takeAll 17 = .ok (.getfield 9, 3) := zo_180 (by decide +kernel)
theorem dX2_takeAll_20 : decode cX2_takeAll 20 = .ok (.iload_n 2, 1) := zo_28 (by decide +kernel)
theorem dX2_takeAll_21 : decode cX2_takeAll 21 = .ok (.aload_n 1, 1) := zo_43 (by decide +kernel)
theorem dX2_takeAll_22 : decode cX2_takeAll 22 = .ok (.getfield 9, 3) := zo_180 (by decide +kernel)
theorem dX2_takeAll_25 : decode cX2_takeAll 25 = .ok (.iload_n 2, 1) := zo_28 (by decide +kernel)
theorem dX2_takeAll_26 : decode cX2_takeAll 26 = .ok (.iaload, 1) := zo_46 (by decide +kernel)
theorem dX2_takeAll_27 : decode cX2_takeAll 27 = .ok (.iastore, 1) := zo_79 (by decide +kernel)
theorem dX2_takeAll_28 : decode cX2_takeAll 28 = .ok (.aload_n 0, 1) := zo_42 (by decide +kernel)
theorem dX2_takeAll_29 : decode cX2_takeAll 29 = .ok (.getfield 15, 3) := zo_180 (by decide +kernel)
theorem dX2_takeAll_32 : decode cX2_takeAll 32 = .ok (.iload_n 2, 1) := zo_28 (by decide +kernel)
theorem dX2_takeAll_33 : decode cX2_takeAll 33 = .ok (.aload_n 1, 1) := zo_43 (by decide +kernel)
theorem dX2_takeAll_34 : decode cX2_takeAll 34 = .ok (.getfield 15, 3) := zo_180 (by decide +kernel)
theorem dX2_takeAll_37 : decode cX2_takeAll 37 = .ok (.iload_n 2, 1) := zo_28 (by decide +kernel)
theorem dX2_takeAll_38 : decode cX2_takeAll 38 = .ok (.iaload, 1) := zo_46 (by decide +kernel)
theorem dX2_takeAll_39 : decode cX2_takeAll 39 = .ok (.iastore, 1) := zo_79 (by decide +kernel)
theorem dX2_takeAll_40 : decode cX2_takeAll 40 = .ok (.aload_n 0, 1) := zo_42 (by decide +kernel)
theorem dX2_takeAll_41 : decode cX2_takeAll 41 = .ok (.getfield 18, 3) := zo_180 (by decide +kernel)
theorem dX2_takeAll_44 : decode cX2_takeAll 44 = .ok (.iload_n 2, 1) := zo_28 (by decide +kernel)
theorem dX2_takeAll_45 : decode cX2_takeAll 45 = .ok (.aload_n 1, 1) := zo_43 (by decide +kernel)
theorem dX2_takeAll_46 : decode cX2_takeAll 46 = .ok (.getfield 18, 3) := zo_180 (by decide +kernel)
theorem dX2_takeAll_49 : decode cX2_takeAll 49 = .ok (.iload_n 2, 1) := zo_28 (by decide +kernel)
theorem dX2_takeAll_50 : decode cX2_takeAll 50 = .ok (.iaload, 1) := zo_46 (by decide +kernel)
theorem dX2_takeAll_51 : decode cX2_takeAll 51 = .ok (.iastore, 1) := zo_79 (by decide +kernel)
theorem dX2_takeAll_52 : decode cX2_takeAll 52 = .ok (.iinc 2 1, 3) := zo_132 (by decide +kernel)
theorem dX2_takeAll_55 : decode cX2_takeAll 55 = .ok (.goto (-45), 3) := zo_167 (by decide +kernel)
theorem dX2_takeAll_58 : decode cX2_takeAll 58 = .ok (.return_, 1) := zo_177 (by decide +kernel)
theorem dX5_takeAll_0 : decode cX5_takeAll 0 = .ok (.aload_n 0, 1) := zo_42 (by decide +kernel)
theorem dX5_takeAll_1 : decode cX5_takeAll 1 = .ok (.aload_n 1, 1) := zo_43 (by decide +kernel)
theorem dX5_takeAll_2 : decode cX5_takeAll 2 = .ok (.getfield 18, 3) := zo_180 (by decide +kernel)
theorem dX5_takeAll_5 : decode cX5_takeAll 5 = .ok (.putfield 18, 3) := zo_181 (by decide +kernel)
theorem dX5_takeAll_8 : decode cX5_takeAll 8 = .ok (.iconst 0, 1) := zo_3 (by decide +kernel)
theorem dX5_takeAll_9 : decode cX5_takeAll 9 = .ok (.istore_n 2, 1) := zo_61 (by decide +kernel)
theorem dX5_takeAll_10 : decode cX5_takeAll 10 = .ok (.iload_n 2, 1) := zo_28 (by decide +kernel)
theorem dX5_takeAll_11 : decode cX5_takeAll 11 = .ok (.bipush 8, 2) := zo_16 (by decide +kernel)
theorem dX5_takeAll_13 : decode cX5_takeAll 13 = .ok (.if_icmp .ge 33, 3) := zo_162 (by decide +kernel)
theorem dX5_takeAll_16 : decode cX5_takeAll 16 = .ok (.aload_n 0, 1) := zo_42 (by decide +kernel)
theorem dX5_takeAll_17 : decode cX5_takeAll 17 = .ok (.getfield 9, 3) := zo_180 (by decide +kernel)
theorem dX5_takeAll_20 : decode cX5_takeAll 20 = .ok (.iload_n 2, 1) := zo_28 (by decide +kernel)
theorem dX5_takeAll_21 : decode cX5_takeAll 21 = .ok (.aload_n 1, 1) := zo_43 (by decide +kernel)
theorem dX5_takeAll_22 : decode cX5_takeAll 22 = .ok (.getfield 9, 3) := zo_180 (by decide +kernel)
theorem dX5_takeAll_25 : decode cX5_takeAll 25 = .ok (.iload_n 2, 1) := zo_28 (by decide +kernel)
theorem dX5_takeAll_26 : decode cX5_takeAll 26 = .ok (.iaload, 1) := zo_46 (by decide +kernel)
theorem dX5_takeAll_27 : decode cX5_takeAll 27 = .ok (.iastore, 1) := zo_79 (by decide +kernel)
theorem dX5_takeAll_28 : decode cX5_takeAll 28 = .ok (.aload_n 0, 1) := zo_42 (by decide +kernel)
theorem dX5_takeAll_29 : decode cX5_takeAll 29 = .ok (.getfield 15, 3) := zo_180 (by decide +kernel)
theorem dX5_takeAll_32 : decode cX5_takeAll 32 = .ok (.iload_n 2, 1) := zo_28 (by decide +kernel)
theorem dX5_takeAll_33 : decode cX5_takeAll 33 = .ok (.aload_n 1, 1) := zo_43 (by decide +kernel)
theorem dX5_takeAll_34 : decode cX5_takeAll 34 = .ok (.getfield 15, 3) := zo_180 (by decide +kernel)
theorem dX5_takeAll_37 : decode cX5_takeAll 37 = .ok (.iload_n 2, 1) := zo_28 (by decide +kernel)
theorem dX5_takeAll_38 : decode cX5_takeAll 38 = .ok (.iaload, 1) := zo_46 (by decide +kernel)
theorem dX5_takeAll_39 : decode cX5_takeAll 39 = .ok (.iastore, 1) := zo_79 (by decide +kernel)
theorem dX5_takeAll_40 : decode cX5_takeAll 40 = .ok (.iinc 2 1, 3) := zo_132 (by decide +kernel)
theorem dX5_takeAll_43 : decode cX5_takeAll 43 = .ok (.goto (-33), 3) := zo_167 (by decide +kernel)
theorem dX5_takeAll_46 : decode cX5_takeAll 46 = .ok (.return_, 1) := zo_177 (by decide +kernel)
theorem dX4_clear_0 : decode cX4_clear 0 = .ok (.aload_n 0, 1) := zo_42 (by decide +kernel)
theorem dX4_clear_1 : decode cX4_clear 1 = .ok (.iconst 0, 1) := zo_3 (by decide +kernel)
theorem dX4_clear_2 : decode cX4_clear 2 = .ok (.putfield 24, 3) := zo_181 (by decide +kernel)
theorem dX4_clear_5 : decode cX4_clear 5 = .ok (.aload_n 0, 1) := zo_42 (by decide +kernel)
theorem dX4_clear_6 : decode cX4_clear 6 = .ok (.iconst 0, 1) := zo_3 (by decide +kernel)
theorem dX4_clear_7 : decode cX4_clear 7 = .ok (.putfield 28, 3) := zo_181 (by decide +kernel)
theorem dX4_clear_10 : decode cX4_clear 10 = .ok (.iconst 0, 1) := zo_3 (by decide +kernel)
theorem dX4_clear_11 : decode cX4_clear 11 = .ok (.istore_n 1, 1) := zo_60 (by decide +kernel)
theorem dX4_clear_12 : decode cX4_clear 12 = .ok (.iload_n 1, 1) := zo_27 (by decide +kernel)
theorem dX4_clear_13 : decode cX4_clear 13 = .ok (.bipush 7, 2) := zo_16 (by decide +kernel)
theorem dX4_clear_15 : decode cX4_clear 15 = .ok (.if_icmp .ge 30, 3) := zo_162 (by decide +kernel)
theorem dX4_clear_18 : decode cX4_clear 18 = .ok (.aload_n 0, 1) := zo_42 (by decide +kernel)
theorem dX4_clear_19 : decode cX4_clear 19 = .ok (.getfield 9, 3) := zo_180 (by decide +kernel)
theorem dX4_clear_22 : decode cX4_clear 22 = .ok (.iload_n 1, 1) := zo_27 (by decide +kernel)
theorem dX4_clear_23 : decode cX4_clear 23 = .ok (.iconst 0, 1) := zo_3 (by decide +kernel)
theorem dX4_clear_24 : decode cX4_clear 24 = .ok (.iastore, 1) := zo_79 (by decide +kernel)
theorem dX4_clear_25 : decode cX4_clear 25 = .ok (.aload_n 0, 1) := zo_42 (by decide +kernel)
theorem dX4_clear_26 : decode cX4_clear 26 = .ok (.getfield 18, 3) := zo_180 (by decide +kernel)
theorem dX4_clear_29 : decode cX4_clear 29 = .ok (.iload_n 1, 1) := zo_27 (by decide +kernel)
theorem dX4_clear_30 : decode cX4_clear 30 = .ok (.iconst 0, 1) := zo_3 (by decide +kernel)
theorem dX4_clear_31 : decode cX4_clear 31 = .ok (.iastore, 1) := zo_79 (by decide +kernel)
theorem dX4_clear_32 : decode cX4_clear 32 = .ok (.aload_n 0, 1) := zo_42 (by decide +kernel)
theorem dX4_clear_33 : decode cX4_clear 33 = .ok (.getfield 21, 3) := zo_180 (by decide +kernel)
theorem dX4_clear_36 : decode cX4_clear 36 = .ok (.iload_n 1, 1) := zo_27 (by decide +kernel)
theorem dX4_clear_37 : decode cX4_clear 37 = .ok (.iconst 0, 1) := zo_3 (by decide +kernel)
theorem dX4_clear_38 : decode cX4_clear 38 = .ok (.iastore, 1) := zo_79 (by decide +kernel)
theorem dX4_clear_39 : decode cX4_clear 39 = .ok (.iinc 1 1, 3) := zo_132 (by decide +kernel)
theorem dX4_clear_42 : decode cX4_clear 42 = .ok (.goto (-30), 3) := zo_167 (by decide +kernel)
theorem dX4_clear_45 : decode cX4_clear 45 = .ok (.return_, 1) := zo_177 (by decide +kernel)

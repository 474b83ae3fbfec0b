def zBit (v k : Int32) : Int32 := (v >>> (k &&& 31)) &&& 1
def zWays (cr inn : Int32) (f1 : Nat → Int32) (x : Int32) : Int32 := if 0 ≤ x.toInt ∧ x.toInt < cr.toInt ∧ x.toInt < 7 ∧ zBit inn x = 0 then f1 x.toNatClampNeg else 0
def zTarget (cr : Int32) (f1 f2 : Nat → Int32) (x y : Int32) : Int32 := if 0 ≤ x.toInt ∧ x.toInt < cr.toInt ∧ x.toInt < 7 ∧ 0 ≤ y.toInt ∧ y.toInt < (f1 x.toNatClampNeg).toInt ∧ y.toInt < 4 then f2 (4 * x.toNatClampNeg + y.toNatClampNeg) else -1
def zAddA (cr : Int32) (f1 : Nat → Int32) (x : Int32) : Nat → Int32 := if 0 ≤ x.toInt ∧ x.toInt < cr.toInt ∧ x.toInt < 7 ∧ (f1 x.toNatClampNeg).toInt < 4 then upd f1 x.toNatClampNeg (f1 x.toNatClampNeg + 1) else f1
def zAddB (cr : Int32) (f1 f2 : Nat → Int32) (x to : Int32) : Nat → Int32 := if 0 ≤ x.toInt ∧ x.toInt < cr.toInt ∧ x.toInt < 7 ∧ (f1 x.toNatClampNeg).toInt < 4 then upd f2 (4 * x.toNatClampNeg + (f1 x.toNatClampNeg).toNatClampNeg) to else f2
/-- what is known of a land: as many crossings, roads as may be -/
def zLI (cr : Int32) (f1 f3 : Nat → Int32) : Prop := (0 ≤ cr.toInt ∧ cr.toInt ≤ 7) ∧ (∀ j, j < 7 → 0 ≤ (f1 j).toInt ∧ (f1 j).toInt ≤ 4) ∧ ∀ j, j < 7 → 0 ≤ (f3 j).toInt ∧ (f3 j).toInt ≤ 1000
theorem z_clI {x : Int32} (h : 0 ≤ x.toInt) : (x.toNatClampNeg : Int) = x.toInt := by
  have e : x.toNatClampNeg = x.toInt.toNat := rfl
  rw [e]
  omega
theorem zWays_in {cr inn : Int32} {f1 : Nat → Int32} {x : Int32} (h : ¬ zWays cr inn f1 x = 0) : 0 ≤ x.toInt ∧ x.toInt < cr.toInt ∧ x.toInt < 7 ∧ zBit inn x = 0 ∧ zWays cr inn f1 x = f1 x.toNatClampNeg := by
  unfold zWays at h ⊢
  by_cases q : 0 ≤ x.toInt ∧ x.toInt < cr.toInt ∧ x.toInt < 7 ∧ zBit inn x = 0
  · exact ⟨q.1, q.2.1, q.2.2.1, q.2.2.2, if_pos q⟩
  · rw [if_neg q] at h
    exact absurd rfl h
theorem zWays_le {cr inn : Int32} {f1 f3 : Nat → Int32} (hf : zLI cr f1 f3) (x : Int32) : 0 ≤ (zWays cr inn f1 x).toInt ∧ (zWays cr inn f1 x).toInt ≤ 4 := by
  unfold zWays
  split
  · rename_i q
    have e := z_clI q.1
    exact hf.2.1 _ (by omega)
  · exact ⟨by decide, by decide⟩
set_option maxHeartbeats 4000000 in
set_option maxRecDepth 100000 in
/-- c_has -/
theorem c_has (l : Launch) (T : zTy) (h : Nat) (cr : Int32) (inn : Int32) (f1 : Nat → Int32) (f2 : Nat → Int32) (f3 : Nat → Int32) (f4 : Nat → Int32) (w : va_W) (x : Int32) (hw : bLand T h cr inn f1 f2 f3 f4 w) : zMi l T yX4_has cX4_has 2 (some .boolean) 1 0 0 [.ref h, .int x] [w] (fun (r : Int32) bs => bs = [w] ∧ ((r = 1 ∧ 0 ≤ x.toInt ∧ x.toInt < cr.toInt ∧ x.toInt < 7) ∨ (r = 0 ∧ (x.toInt < 0 ∨ cr.toInt ≤ x.toInt ∨ 7 ≤ x.toInt)))) := by
  refine zMi_of (own := RX4) (by decide) rfl (Nat.le_of_ble_eq_true rfl) ?_
  intro p e s m args below meth c A ls C hr hlocks hnm hAe G hl
  have hx := C.1
  have hb := C.2.1
  have hl : lv_has ls 2 [(0, .ref h), (1, .int x)] := hl
  refine lv_iload_n hx hb dX4_has_0 rfl (lv_at hl 1 rfl) ?_
  refine lv_if_lt (tgt := 22) hx hb dX4_has_1 (by decide) (fun c_1 => ?_) (fun c_1 => ?_)
  · have c_1n : x.toInt < (0 : Int) := (fa_lt _ _).mp c_1
    refine lv_iconst (v := 0) hx hb dX4_has_22 (by decide) ?_
    exact z_zret C hr hlocks G (Nat.le_of_ble_eq_true rfl) (Nat.le_of_ble_eq_true rfl) dX4_has_23 rfl ⟨rfl, (Or.inr (⟨rfl, (by first | assumption | omega)⟩))⟩
  · have c_1n : ¬ x.toInt < (0 : Int) := fun q => c_1 ((fa_lt _ _).mpr q)
    refine lv_iload_n hx hb dX4_has_4 rfl (lv_at hl 1 rfl) ?_
    refine lv_aload_n hx hb dX4_has_5 rfl (lv_at hl 0 rfl) ?_
    obtain ⟨a1_2, a2_3, a3_4, a4_5, rfl⟩ := hw
    have G : zS T A s.heap s [[(h, .inr (4, [.int cr, .int inn, .ref a1_2, .ref a2_3, .ref a3_4, .ref a4_5]))], [(a1_2, .inl (T.2 0, 7, .inl f1))], [(a2_3, .inl (T.2 0, 28, .inl f2))], [(a3_4, .inl (T.2 0, 7, .inl f3))], [(a4_5, .inl (T.2 0, 7, .inl f4))]] _ _ := G.re rfl
    refine z_get C G clX4 0 rfl 0 (by decide) m_fl_RX4_24 rfl dX4_has_6 ?_
    refine lv_icmp_ge (tgt := 22) hx hb dX4_has_9 (by decide) (fun c_6 => ?_) (fun c_6 => ?_)
    · have c_6n : cr.toInt ≤ x.toInt := (fa_le _ _).mp c_6
      refine lv_iconst (v := 0) hx hb dX4_has_22 (by decide) ?_
      have hw_7 : bLand T h cr inn f1 f2 f3 f4 [(h, .inr (4, [.int cr, .int inn, .ref a1_2, .ref a2_3, .ref a3_4, .ref a4_5])), (a1_2, .inl (T.2 0, 7, .inl f1)), (a2_3, .inl (T.2 0, 28, .inl f2)), (a3_4, .inl (T.2 0, 7, .inl f3)), (a4_5, .inl (T.2 0, 7, .inl f4))] := ⟨a1_2, a2_3, a3_4, a4_5, rfl⟩
      have G : zS T A s.heap s [[(h, .inr (4, [.int cr, .int inn, .ref a1_2, .ref a2_3, .ref a3_4, .ref a4_5])), (a1_2, .inl (T.2 0, 7, .inl f1)), (a2_3, .inl (T.2 0, 28, .inl f2)), (a3_4, .inl (T.2 0, 7, .inl f3)), (a4_5, .inl (T.2 0, 7, .inl f4))]] _ _ := G.re rfl
      exact z_zret C hr hlocks G (Nat.le_of_ble_eq_true rfl) (Nat.le_of_ble_eq_true rfl) dX4_has_23 rfl ⟨rfl, (Or.inr (⟨rfl, (by first | assumption | omega)⟩))⟩
    · have c_6n : ¬ cr.toInt ≤ x.toInt := fun q => c_6 ((fa_le _ _).mpr q)
      refine lv_iload_n hx hb dX4_has_12 rfl (lv_at hl 1 rfl) ?_
      refine lv_bipush (v := 7) hx hb dX4_has_13 (by decide) ?_
      refine lv_icmp_ge (tgt := 22) hx hb dX4_has_15 (by decide) (fun c_8 => ?_) (fun c_8 => ?_)
      · have c_8n : (7 : Int) ≤ x.toInt := (fa_le _ _).mp c_8
        refine lv_iconst (v := 0) hx hb dX4_has_22 (by decide) ?_
        have hw_9 : bLand T h cr inn f1 f2 f3 f4 [(h, .inr (4, [.int cr, .int inn, .ref a1_2, .ref a2_3, .ref a3_4, .ref a4_5])), (a1_2, .inl (T.2 0, 7, .inl f1)), (a2_3, .inl (T.2 0, 28, .inl f2)), (a3_4, .inl (T.2 0, 7, .inl f3)), (a4_5, .inl (T.2 0, 7, .inl f4))] := ⟨a1_2, a2_3, a3_4, a4_5, rfl⟩
        have G : zS T A s.heap s [[(h, .inr (4, [.int cr, .int inn, .ref a1_2, .ref a2_3, .ref a3_4, .ref a4_5])), (a1_2, .inl (T.2 0, 7, .inl f1)), (a2_3, .inl (T.2 0, 28, .inl f2)), (a3_4, .inl (T.2 0, 7, .inl f3)), (a4_5, .inl (T.2 0, 7, .inl f4))]] _ _ := G.re rfl
        exact z_zret C hr hlocks G (Nat.le_of_ble_eq_true rfl) (Nat.le_of_ble_eq_true rfl) dX4_has_23 rfl ⟨rfl, (Or.inr (⟨rfl, (by first | assumption | omega)⟩))⟩
      · have c_8n : ¬ (7 : Int) ≤ x.toInt := fun q => c_8 ((fa_le _ _).mpr q)
        refine lv_iconst (v := 1) hx hb dX4_has_18 (by decide) ?_
        refine lv_goto (tgt := 23) hx hb dX4_has_19 (by decide) ?_
        have hw_10 : bLand T h cr inn f1 f2 f3 f4 [(h, .inr (4, [.int cr, .int inn, .ref a1_2, .ref a2_3, .ref a3_4, .ref a4_5])), (a1_2, .inl (T.2 0, 7, .inl f1)), (a2_3, .inl (T.2 0, 28, .inl f2)), (a3_4, .inl (T.2 0, 7, .inl f3)), (a4_5, .inl (T.2 0, 7, .inl f4))] := ⟨a1_2, a2_3, a3_4, a4_5, rfl⟩
        have G : zS T A s.heap s [[(h, .inr (4, [.int cr, .int inn, .ref a1_2, .ref a2_3, .ref a3_4, .ref a4_5])), (a1_2, .inl (T.2 0, 7, .inl f1)), (a2_3, .inl (T.2 0, 28, .inl f2)), (a3_4, .inl (T.2 0, 7, .inl f3)), (a4_5, .inl (T.2 0, 7, .inl f4))]] _ _ := G.re rfl
        exact z_zret C hr hlocks G (Nat.le_of_ble_eq_true rfl) (Nat.le_of_ble_eq_true rfl) dX4_has_23 rfl ⟨rfl, (Or.inl (⟨rfl, (by first | assumption | omega), (by first | assumption | omega), (by first | assumption | omega)⟩))⟩
set_option maxHeartbeats 4000000 in
set_option maxRecDepth 100000 in
/-- c_isInn -/
theorem c_isInn (l : Launch) (T : zTy) (h : Nat) (cr : Int32) (inn : Int32) (f1 : Nat → Int32) (f2 : Nat → Int32) (f3 : Nat → Int32) (f4 : Nat → Int32) (w : va_W) (x : Int32) (hw : bLand T h cr inn f1 f2 f3 f4 w) : zMi l T yX4_isInn cX4_isInn 2 (some .boolean) 2 0 0 [.ref h, .int x] [w] (fun (r : Int32) bs => bs = [w] ∧ ((r = 1 ∧ 0 ≤ x.toInt ∧ x.toInt < cr.toInt ∧ x.toInt < 7 ∧ ¬ zBit inn x = 0) ∨ (r = 0 ∧ (x.toInt < 0 ∨ cr.toInt ≤ x.toInt ∨ 7 ≤ x.toInt ∨ zBit inn x = 0)))) := by
  refine zMi_of (own := RX4) (by decide) rfl (Nat.le_of_ble_eq_true rfl) ?_
  intro p e s m args below meth c A ls C hr hlocks hnm hAe G hl
  have hx := C.1
  have hb := C.2.1
  have hl : lv_has ls 2 [(0, .ref h), (1, .int x)] := hl
  refine lv_aload_n hx hb dX4_isInn_0 rfl (lv_at hl 0 rfl) ?_
  refine lv_iload_n hx hb dX4_isInn_1 rfl (lv_at hl 1 rfl) ?_
  refine z_Vi (bc := [w]) (br := []) (As := [.int x]) (rest := []) C G (c_has l T h cr inn f1 f2 f3 f4 w x hw) (kV_RX4_31 C.2.2.2.2 (Nat.le_of_ble_eq_true rfl) (Nat.le_of_ble_eq_true rfl)) [0] [] rfl rfl (ci := 4) (qc := (RX4, TX4, 6)) rfl rfl (List.mem_flatten.mpr ⟨_, List.mem_of_getElem? (i := 0) rfl, (bLand_mem hw).choose_spec⟩) rfl rfl hl.1 dX4_isInn_2 (Nat.le_of_ble_eq_true rfl) (Nat.le_of_ble_eq_true rfl) (fun r_2 b1 H locs hw G => ?_)
  obtain ⟨rfl, hc_1⟩ := hw
  have G : zS T A s.heap s [w] _ _ := G
  rcases hc_1 with ⟨rfl, h_3, h_4, h_5⟩ | ⟨rfl, h_6⟩
  · have h_3 : 0 ≤ x.toInt := h_3
    have h_4 : x.toInt < cr.toInt := h_4
    have h_5 : x.toInt < 7 := h_5
    refine lv_if_eq (tgt := 23) hx hb dX4_isInn_5 (by decide) (fun q => absurd q (by decide)) (fun _ => ?_)
    refine lv_aload_n hx hb dX4_isInn_8 rfl (lv_at hl 0 rfl) ?_
    obtain ⟨a1_7, a2_8, a3_9, a4_10, rfl⟩ := hw
    have G : zS T A s.heap s [[(h, .inr (4, [.int cr, .int inn, .ref a1_7, .ref a2_8, .ref a3_9, .ref a4_10]))], [(a1_7, .inl (T.2 0, 7, .inl f1))], [(a2_8, .inl (T.2 0, 28, .inl f2))], [(a3_9, .inl (T.2 0, 7, .inl f3))], [(a4_10, .inl (T.2 0, 7, .inl f4))]] _ _ := G.re rfl
    refine z_get C G clX4 0 rfl 1 (by decide) m_fl_RX4_28 rfl dX4_isInn_9 ?_
    refine lv_iload_n hx hb dX4_isInn_12 rfl (lv_at hl 1 rfl) ?_
    refine lv_ishr hx hb dX4_isInn_13 ?_
    refine lv_iconst (v := 1) hx hb dX4_isInn_14 (by decide) ?_
    refine lv_iand hx hb dX4_isInn_15 ?_
    refine lv_if_eq (tgt := 23) hx hb dX4_isInn_16 (by decide) (fun c_11 => ?_) (fun c_11 => ?_)
    · have c_11n : ((inn >>> (x &&& 31)) &&& 1).toInt = (0 : Int) := (fa_eq _ _).mp c_11
      refine lv_iconst (v := 0) hx hb dX4_isInn_23 (by decide) ?_
      have hw_12 : bLand T h cr inn f1 f2 f3 f4 [(h, .inr (4, [.int cr, .int inn, .ref a1_7, .ref a2_8, .ref a3_9, .ref a4_10])), (a1_7, .inl (T.2 0, 7, .inl f1)), (a2_8, .inl (T.2 0, 28, .inl f2)), (a3_9, .inl (T.2 0, 7, .inl f3)), (a4_10, .inl (T.2 0, 7, .inl f4))] := ⟨a1_7, a2_8, a3_9, a4_10, rfl⟩
      have G : zS T A s.heap s [[(h, .inr (4, [.int cr, .int inn, .ref a1_7, .ref a2_8, .ref a3_9, .ref a4_10])), (a1_7, .inl (T.2 0, 7, .inl f1)), (a2_8, .inl (T.2 0, 28, .inl f2)), (a3_9, .inl (T.2 0, 7, .inl f3)), (a4_10, .inl (T.2 0, 7, .inl f4))]] _ _ := G.re rfl
      exact z_zret C hr hlocks G (Nat.le_of_ble_eq_true rfl) (Nat.le_of_ble_eq_true rfl) dX4_isInn_24 rfl ⟨rfl, (Or.inr (⟨rfl, (by first | exact Or.inr (Or.inr (Or.inr (by assumption))) | omega)⟩))⟩
    · have c_11n : ¬ ((inn >>> (x &&& 31)) &&& 1).toInt = (0 : Int) := fun q => c_11 ((fa_eq _ _).mpr q)
      refine lv_iconst (v := 1) hx hb dX4_isInn_19 (by decide) ?_
      refine lv_goto (tgt := 24) hx hb dX4_isInn_20 (by decide) ?_
      have hw_13 : bLand T h cr inn f1 f2 f3 f4 [(h, .inr (4, [.int cr, .int inn, .ref a1_7, .ref a2_8, .ref a3_9, .ref a4_10])), (a1_7, .inl (T.2 0, 7, .inl f1)), (a2_8, .inl (T.2 0, 28, .inl f2)), (a3_9, .inl (T.2 0, 7, .inl f3)), (a4_10, .inl (T.2 0, 7, .inl f4))] := ⟨a1_7, a2_8, a3_9, a4_10, rfl⟩
      have G : zS T A s.heap s [[(h, .inr (4, [.int cr, .int inn, .ref a1_7, .ref a2_8, .ref a3_9, .ref a4_10])), (a1_7, .inl (T.2 0, 7, .inl f1)), (a2_8, .inl (T.2 0, 28, .inl f2)), (a3_9, .inl (T.2 0, 7, .inl f3)), (a4_10, .inl (T.2 0, 7, .inl f4))]] _ _ := G.re rfl
      exact z_zret C hr hlocks G (Nat.le_of_ble_eq_true rfl) (Nat.le_of_ble_eq_true rfl) dX4_isInn_24 rfl ⟨rfl, (Or.inl (⟨rfl, (by first | assumption | omega), (by first | assumption | omega), (by first | assumption | omega), (by first | assumption | omega)⟩))⟩
  · have h_6 : (x.toInt < 0 ∨ cr.toInt ≤ x.toInt ∨ 7 ≤ x.toInt) := h_6
    refine lv_if_eq (tgt := 23) hx hb dX4_isInn_5 (by decide) (fun _ => ?_) (fun q => absurd (by decide) q)
    refine lv_iconst (v := 0) hx hb dX4_isInn_23 (by decide) ?_
    exact z_zret C hr hlocks G (Nat.le_of_ble_eq_true rfl) (Nat.le_of_ble_eq_true rfl) dX4_isInn_24 rfl ⟨rfl, (Or.inr (⟨rfl, (by first | exact Or.inr (Or.inr (Or.inr (by assumption))) | omega)⟩))⟩
set_option maxHeartbeats 4000000 in
set_option maxRecDepth 100000 in
/-- c_hasRoad -/
theorem c_hasRoad (l : Launch) (T : zTy) (h : Nat) (cr : Int32) (inn : Int32) (f1 : Nat → Int32) (f2 : Nat → Int32) (f3 : Nat → Int32) (f4 : Nat → Int32) (w : va_W) (x : Int32) (y : Int32) (hw : bLand T h cr inn f1 f2 f3 f4 w) : zMi l T yX4_hasRoad cX4_hasRoad 3 (some .boolean) 1 0 0 [.ref h, .int x, .int y] [w] (fun (r : Int32) bs => bs = [w] ∧ ((r = 1 ∧ 0 ≤ x.toInt ∧ x.toInt < cr.toInt ∧ x.toInt < 7 ∧ 0 ≤ y.toInt ∧ y.toInt < (f1 x.toNatClampNeg).toInt ∧ y.toInt < 4) ∨ (r = 0 ∧ (x.toInt < 0 ∨ cr.toInt ≤ x.toInt ∨ 7 ≤ x.toInt ∨ y.toInt < 0 ∨ (f1 x.toNatClampNeg).toInt ≤ y.toInt ∨ 4 ≤ y.toInt)))) := by
  refine zMi_of (own := RX4) (by decide) rfl (Nat.le_of_ble_eq_true rfl) ?_
  intro p e s m args below meth c A ls C hr hlocks hnm hAe G hl
  have hx := C.1
  have hb := C.2.1
  have hl : lv_has ls 3 [(0, .ref h), (1, .int x), (2, .int y)] := hl
  refine lv_iload_n hx hb dX4_hasRoad_0 rfl (lv_at hl 1 rfl) ?_
  refine lv_if_lt (tgt := 41) hx hb dX4_hasRoad_1 (by decide) (fun c_1 => ?_) (fun c_1 => ?_)
  · have c_1n : x.toInt < (0 : Int) := (fa_lt _ _).mp c_1
    refine lv_iconst (v := 0) hx hb dX4_hasRoad_41 (by decide) ?_
    exact z_zret C hr hlocks G (Nat.le_of_ble_eq_true rfl) (Nat.le_of_ble_eq_true rfl) dX4_hasRoad_42 rfl ⟨rfl, (Or.inr (⟨rfl, (by first | assumption | omega)⟩))⟩
  · have c_1n : ¬ x.toInt < (0 : Int) := fun q => c_1 ((fa_lt _ _).mpr q)
    refine lv_iload_n hx hb dX4_hasRoad_4 rfl (lv_at hl 1 rfl) ?_
    refine lv_aload_n hx hb dX4_hasRoad_5 rfl (lv_at hl 0 rfl) ?_
    obtain ⟨a1_2, a2_3, a3_4, a4_5, rfl⟩ := hw
    have G : zS T A s.heap s [[(h, .inr (4, [.int cr, .int inn, .ref a1_2, .ref a2_3, .ref a3_4, .ref a4_5]))], [(a1_2, .inl (T.2 0, 7, .inl f1))], [(a2_3, .inl (T.2 0, 28, .inl f2))], [(a3_4, .inl (T.2 0, 7, .inl f3))], [(a4_5, .inl (T.2 0, 7, .inl f4))]] _ _ := G.re rfl
    refine z_get C G clX4 0 rfl 0 (by decide) m_fl_RX4_24 rfl dX4_hasRoad_6 ?_
    refine lv_icmp_ge (tgt := 41) hx hb dX4_hasRoad_9 (by decide) (fun c_6 => ?_) (fun c_6 => ?_)
    · have c_6n : cr.toInt ≤ x.toInt := (fa_le _ _).mp c_6
      refine lv_iconst (v := 0) hx hb dX4_hasRoad_41 (by decide) ?_
      have hw_7 : bLand T h cr inn f1 f2 f3 f4 [(h, .inr (4, [.int cr, .int inn, .ref a1_2, .ref a2_3, .ref a3_4, .ref a4_5])), (a1_2, .inl (T.2 0, 7, .inl f1)), (a2_3, .inl (T.2 0, 28, .inl f2)), (a3_4, .inl (T.2 0, 7, .inl f3)), (a4_5, .inl (T.2 0, 7, .inl f4))] := ⟨a1_2, a2_3, a3_4, a4_5, rfl⟩
      have G : zS T A s.heap s [[(h, .inr (4, [.int cr, .int inn, .ref a1_2, .ref a2_3, .ref a3_4, .ref a4_5])), (a1_2, .inl (T.2 0, 7, .inl f1)), (a2_3, .inl (T.2 0, 28, .inl f2)), (a3_4, .inl (T.2 0, 7, .inl f3)), (a4_5, .inl (T.2 0, 7, .inl f4))]] _ _ := G.re rfl
      exact z_zret C hr hlocks G (Nat.le_of_ble_eq_true rfl) (Nat.le_of_ble_eq_true rfl) dX4_hasRoad_42 rfl ⟨rfl, (Or.inr (⟨rfl, (by first | assumption | omega)⟩))⟩
    · have c_6n : ¬ cr.toInt ≤ x.toInt := fun q => c_6 ((fa_le _ _).mpr q)
      refine lv_iload_n hx hb dX4_hasRoad_12 rfl (lv_at hl 1 rfl) ?_
      refine lv_bipush (v := 7) hx hb dX4_hasRoad_13 (by decide) ?_
      refine lv_icmp_ge (tgt := 41) hx hb dX4_hasRoad_15 (by decide) (fun c_8 => ?_) (fun c_8 => ?_)
      · have c_8n : (7 : Int) ≤ x.toInt := (fa_le _ _).mp c_8
        refine lv_iconst (v := 0) hx hb dX4_hasRoad_41 (by decide) ?_
        have hw_9 : bLand T h cr inn f1 f2 f3 f4 [(h, .inr (4, [.int cr, .int inn, .ref a1_2, .ref a2_3, .ref a3_4, .ref a4_5])), (a1_2, .inl (T.2 0, 7, .inl f1)), (a2_3, .inl (T.2 0, 28, .inl f2)), (a3_4, .inl (T.2 0, 7, .inl f3)), (a4_5, .inl (T.2 0, 7, .inl f4))] := ⟨a1_2, a2_3, a3_4, a4_5, rfl⟩
        have G : zS T A s.heap s [[(h, .inr (4, [.int cr, .int inn, .ref a1_2, .ref a2_3, .ref a3_4, .ref a4_5])), (a1_2, .inl (T.2 0, 7, .inl f1)), (a2_3, .inl (T.2 0, 28, .inl f2)), (a3_4, .inl (T.2 0, 7, .inl f3)), (a4_5, .inl (T.2 0, 7, .inl f4))]] _ _ := G.re rfl
        exact z_zret C hr hlocks G (Nat.le_of_ble_eq_true rfl) (Nat.le_of_ble_eq_true rfl) dX4_hasRoad_42 rfl ⟨rfl, (Or.inr (⟨rfl, (by first | assumption | omega)⟩))⟩
      · have c_8n : ¬ (7 : Int) ≤ x.toInt := fun q => c_8 ((fa_le _ _).mpr q)
        refine lv_iload_n hx hb dX4_hasRoad_18 rfl (lv_at hl 2 rfl) ?_
        refine lv_if_lt (tgt := 41) hx hb dX4_hasRoad_19 (by decide) (fun c_10 => ?_) (fun c_10 => ?_)
        · have c_10n : y.toInt < (0 : Int) := (fa_lt _ _).mp c_10
          refine lv_iconst (v := 0) hx hb dX4_hasRoad_41 (by decide) ?_
          have hw_11 : bLand T h cr inn f1 f2 f3 f4 [(h, .inr (4, [.int cr, .int inn, .ref a1_2, .ref a2_3, .ref a3_4, .ref a4_5])), (a1_2, .inl (T.2 0, 7, .inl f1)), (a2_3, .inl (T.2 0, 28, .inl f2)), (a3_4, .inl (T.2 0, 7, .inl f3)), (a4_5, .inl (T.2 0, 7, .inl f4))] := ⟨a1_2, a2_3, a3_4, a4_5, rfl⟩
          have G : zS T A s.heap s [[(h, .inr (4, [.int cr, .int inn, .ref a1_2, .ref a2_3, .ref a3_4, .ref a4_5])), (a1_2, .inl (T.2 0, 7, .inl f1)), (a2_3, .inl (T.2 0, 28, .inl f2)), (a3_4, .inl (T.2 0, 7, .inl f3)), (a4_5, .inl (T.2 0, 7, .inl f4))]] _ _ := G.re rfl
          exact z_zret C hr hlocks G (Nat.le_of_ble_eq_true rfl) (Nat.le_of_ble_eq_true rfl) dX4_hasRoad_42 rfl ⟨rfl, (Or.inr (⟨rfl, (by first | assumption | omega)⟩))⟩
        · have c_10n : ¬ y.toInt < (0 : Int) := fun q => c_10 ((fa_lt _ _).mpr q)
          refine lv_iload_n hx hb dX4_hasRoad_22 rfl (lv_at hl 2 rfl) ?_
          refine lv_aload_n hx hb dX4_hasRoad_23 rfl (lv_at hl 0 rfl) ?_
          refine z_get C G clX4 0 rfl 2 (by decide) m_fl_RX4_9 rfl dX4_hasRoad_24 ?_
          refine lv_iload_n hx hb dX4_hasRoad_27 rfl (lv_at hl 1 rfl) ?_
          refine z_ild C G 1 rfl (vp_in_iff.mpr ⟨by omega, by omega⟩) dX4_hasRoad_28 ?_
          refine lv_topi (fun v_12 ev_12 => ?_)
          subst ev_12
          refine lv_icmp_ge (tgt := 41) hx hb dX4_hasRoad_29 (by decide) (fun c_13 => ?_) (fun c_13 => ?_)
          · have c_13n : (f1 x.toNatClampNeg).toInt ≤ y.toInt := (fa_le _ _).mp c_13
            refine lv_iconst (v := 0) hx hb dX4_hasRoad_41 (by decide) ?_
            have hw_14 : bLand T h cr inn f1 f2 f3 f4 [(h, .inr (4, [.int cr, .int inn, .ref a1_2, .ref a2_3, .ref a3_4, .ref a4_5])), (a1_2, .inl (T.2 0, 7, .inl f1)), (a2_3, .inl (T.2 0, 28, .inl f2)), (a3_4, .inl (T.2 0, 7, .inl f3)), (a4_5, .inl (T.2 0, 7, .inl f4))] := ⟨a1_2, a2_3, a3_4, a4_5, rfl⟩
            have G : zS T A s.heap s [[(h, .inr (4, [.int cr, .int inn, .ref a1_2, .ref a2_3, .ref a3_4, .ref a4_5])), (a1_2, .inl (T.2 0, 7, .inl f1)), (a2_3, .inl (T.2 0, 28, .inl f2)), (a3_4, .inl (T.2 0, 7, .inl f3)), (a4_5, .inl (T.2 0, 7, .inl f4))]] _ _ := G.re rfl
            exact z_zret C hr hlocks G (Nat.le_of_ble_eq_true rfl) (Nat.le_of_ble_eq_true rfl) dX4_hasRoad_42 rfl ⟨rfl, (Or.inr (⟨rfl, (by first | assumption | omega)⟩))⟩
          · have c_13n : ¬ (f1 x.toNatClampNeg).toInt ≤ y.toInt := fun q => c_13 ((fa_le _ _).mpr q)
            refine lv_iload_n hx hb dX4_hasRoad_32 rfl (lv_at hl 2 rfl) ?_
            refine lv_iconst (v := 4) hx hb dX4_hasRoad_33 (by decide) ?_
            refine lv_icmp_ge (tgt := 41) hx hb dX4_hasRoad_34 (by decide) (fun c_15 => ?_) (fun c_15 => ?_)
            · have c_15n : (4 : Int) ≤ y.toInt := (fa_le _ _).mp c_15
              refine lv_iconst (v := 0) hx hb dX4_hasRoad_41 (by decide) ?_
              have hw_16 : bLand T h cr inn f1 f2 f3 f4 [(h, .inr (4, [.int cr, .int inn, .ref a1_2, .ref a2_3, .ref a3_4, .ref a4_5])), (a1_2, .inl (T.2 0, 7, .inl f1)), (a2_3, .inl (T.2 0, 28, .inl f2)), (a3_4, .inl (T.2 0, 7, .inl f3)), (a4_5, .inl (T.2 0, 7, .inl f4))] := ⟨a1_2, a2_3, a3_4, a4_5, rfl⟩
              have G : zS T A s.heap s [[(h, .inr (4, [.int cr, .int inn, .ref a1_2, .ref a2_3, .ref a3_4, .ref a4_5])), (a1_2, .inl (T.2 0, 7, .inl f1)), (a2_3, .inl (T.2 0, 28, .inl f2)), (a3_4, .inl (T.2 0, 7, .inl f3)), (a4_5, .inl (T.2 0, 7, .inl f4))]] _ _ := G.re rfl
              exact z_zret C hr hlocks G (Nat.le_of_ble_eq_true rfl) (Nat.le_of_ble_eq_true rfl) dX4_hasRoad_42 rfl ⟨rfl, (Or.inr (⟨rfl, (by first | assumption | omega)⟩))⟩
            · have c_15n : ¬ (4 : Int) ≤ y.toInt := fun q => c_15 ((fa_le _ _).mpr q)
              refine lv_iconst (v := 1) hx hb dX4_hasRoad_37 (by decide) ?_
              refine lv_goto (tgt := 42) hx hb dX4_hasRoad_38 (by decide) ?_
              have hw_17 : bLand T h cr inn f1 f2 f3 f4 [(h, .inr (4, [.int cr, .int inn, .ref a1_2, .ref a2_3, .ref a3_4, .ref a4_5])), (a1_2, .inl (T.2 0, 7, .inl f1)), (a2_3, .inl (T.2 0, 28, .inl f2)), (a3_4, .inl (T.2 0, 7, .inl f3)), (a4_5, .inl (T.2 0, 7, .inl f4))] := ⟨a1_2, a2_3, a3_4, a4_5, rfl⟩
              have G : zS T A s.heap s [[(h, .inr (4, [.int cr, .int inn, .ref a1_2, .ref a2_3, .ref a3_4, .ref a4_5])), (a1_2, .inl (T.2 0, 7, .inl f1)), (a2_3, .inl (T.2 0, 28, .inl f2)), (a3_4, .inl (T.2 0, 7, .inl f3)), (a4_5, .inl (T.2 0, 7, .inl f4))]] _ _ := G.re rfl
              exact z_zret C hr hlocks G (Nat.le_of_ble_eq_true rfl) (Nat.le_of_ble_eq_true rfl) dX4_hasRoad_42 rfl ⟨rfl, (Or.inl (⟨rfl, (by first | assumption | omega), (by first | assumption | omega), (by first | assumption | omega), (by first | assumption | omega), (by first | assumption | omega), (by first | assumption | omega)⟩))⟩
set_option maxHeartbeats 4000000 in
set_option maxRecDepth 100000 in
/-- c_waysOut -/
theorem c_waysOut (l : Launch) (T : zTy) (h : Nat) (cr : Int32) (inn : Int32) (f1 : Nat → Int32) (f2 : Nat → Int32) (f3 : Nat → Int32) (f4 : Nat → Int32) (w : va_W) (x : Int32) (hw : bLand T h cr inn f1 f2 f3 f4 w) : zMi l T yX4_waysOut cX4_waysOut 2 (some .int) 1 0 0 [.ref h, .int x] [w] (fun (r : Int32) bs => bs = [w] ∧ r = zWays cr inn f1 x) := by
  refine zMi_of (own := RX4) (by decide) rfl (Nat.le_of_ble_eq_true rfl) ?_
  intro p e s m args below meth c A ls C hr hlocks hnm hAe G hl
  have hx := C.1
  have hb := C.2.1
  have hl : lv_has ls 2 [(0, .ref h), (1, .int x)] := hl
  refine lv_iload_n hx hb dX4_waysOut_0 rfl (lv_at hl 1 rfl) ?_
  refine lv_if_lt (tgt := 38) hx hb dX4_waysOut_1 (by decide) (fun c_1 => ?_) (fun c_1 => ?_)
  · have c_1n : x.toInt < (0 : Int) := (fa_lt _ _).mp c_1
    refine lv_iconst (v := 0) hx hb dX4_waysOut_38 (by decide) ?_
    exact z_iret C hr hlocks G (Nat.le_of_ble_eq_true rfl) (Nat.le_of_ble_eq_true rfl) dX4_waysOut_39 ⟨rfl, (by unfold zWays; rw [if_neg (fun q => by first | omega | exact absurd q.2.2.2 (by assumption))])⟩
  · have c_1n : ¬ x.toInt < (0 : Int) := fun q => c_1 ((fa_lt _ _).mpr q)
    refine lv_iload_n hx hb dX4_waysOut_4 rfl (lv_at hl 1 rfl) ?_
    refine lv_aload_n hx hb dX4_waysOut_5 rfl (lv_at hl 0 rfl) ?_
    obtain ⟨a1_2, a2_3, a3_4, a4_5, rfl⟩ := hw
    have G : zS T A s.heap s [[(h, .inr (4, [.int cr, .int inn, .ref a1_2, .ref a2_3, .ref a3_4, .ref a4_5]))], [(a1_2, .inl (T.2 0, 7, .inl f1))], [(a2_3, .inl (T.2 0, 28, .inl f2))], [(a3_4, .inl (T.2 0, 7, .inl f3))], [(a4_5, .inl (T.2 0, 7, .inl f4))]] _ _ := G.re rfl
    refine z_get C G clX4 0 rfl 0 (by decide) m_fl_RX4_24 rfl dX4_waysOut_6 ?_
    refine lv_icmp_ge (tgt := 38) hx hb dX4_waysOut_9 (by decide) (fun c_6 => ?_) (fun c_6 => ?_)
    · have c_6n : cr.toInt ≤ x.toInt := (fa_le _ _).mp c_6
      refine lv_iconst (v := 0) hx hb dX4_waysOut_38 (by decide) ?_
      have hw_7 : bLand T h cr inn f1 f2 f3 f4 [(h, .inr (4, [.int cr, .int inn, .ref a1_2, .ref a2_3, .ref a3_4, .ref a4_5])), (a1_2, .inl (T.2 0, 7, .inl f1)), (a2_3, .inl (T.2 0, 28, .inl f2)), (a3_4, .inl (T.2 0, 7, .inl f3)), (a4_5, .inl (T.2 0, 7, .inl f4))] := ⟨a1_2, a2_3, a3_4, a4_5, rfl⟩
      have G : zS T A s.heap s [[(h, .inr (4, [.int cr, .int inn, .ref a1_2, .ref a2_3, .ref a3_4, .ref a4_5])), (a1_2, .inl (T.2 0, 7, .inl f1)), (a2_3, .inl (T.2 0, 28, .inl f2)), (a3_4, .inl (T.2 0, 7, .inl f3)), (a4_5, .inl (T.2 0, 7, .inl f4))]] _ _ := G.re rfl
      exact z_iret C hr hlocks G (Nat.le_of_ble_eq_true rfl) (Nat.le_of_ble_eq_true rfl) dX4_waysOut_39 ⟨rfl, (by unfold zWays; rw [if_neg (fun q => by first | omega | exact absurd q.2.2.2 (by assumption))])⟩
    · have c_6n : ¬ cr.toInt ≤ x.toInt := fun q => c_6 ((fa_le _ _).mpr q)
      refine lv_iload_n hx hb dX4_waysOut_12 rfl (lv_at hl 1 rfl) ?_
      refine lv_bipush (v := 7) hx hb dX4_waysOut_13 (by decide) ?_
      refine lv_icmp_ge (tgt := 38) hx hb dX4_waysOut_15 (by decide) (fun c_8 => ?_) (fun c_8 => ?_)
      · have c_8n : (7 : Int) ≤ x.toInt := (fa_le _ _).mp c_8
        refine lv_iconst (v := 0) hx hb dX4_waysOut_38 (by decide) ?_
        have hw_9 : bLand T h cr inn f1 f2 f3 f4 [(h, .inr (4, [.int cr, .int inn, .ref a1_2, .ref a2_3, .ref a3_4, .ref a4_5])), (a1_2, .inl (T.2 0, 7, .inl f1)), (a2_3, .inl (T.2 0, 28, .inl f2)), (a3_4, .inl (T.2 0, 7, .inl f3)), (a4_5, .inl (T.2 0, 7, .inl f4))] := ⟨a1_2, a2_3, a3_4, a4_5, rfl⟩
        have G : zS T A s.heap s [[(h, .inr (4, [.int cr, .int inn, .ref a1_2, .ref a2_3, .ref a3_4, .ref a4_5])), (a1_2, .inl (T.2 0, 7, .inl f1)), (a2_3, .inl (T.2 0, 28, .inl f2)), (a3_4, .inl (T.2 0, 7, .inl f3)), (a4_5, .inl (T.2 0, 7, .inl f4))]] _ _ := G.re rfl
        exact z_iret C hr hlocks G (Nat.le_of_ble_eq_true rfl) (Nat.le_of_ble_eq_true rfl) dX4_waysOut_39 ⟨rfl, (by unfold zWays; rw [if_neg (fun q => by first | omega | exact absurd q.2.2.2 (by assumption))])⟩
      · have c_8n : ¬ (7 : Int) ≤ x.toInt := fun q => c_8 ((fa_le _ _).mpr q)
        refine lv_aload_n hx hb dX4_waysOut_18 rfl (lv_at hl 0 rfl) ?_
        refine z_get C G clX4 0 rfl 1 (by decide) m_fl_RX4_28 rfl dX4_waysOut_19 ?_
        refine lv_iload_n hx hb dX4_waysOut_22 rfl (lv_at hl 1 rfl) ?_
        refine lv_ishr hx hb dX4_waysOut_23 ?_
        refine lv_iconst (v := 1) hx hb dX4_waysOut_24 (by decide) ?_
        refine lv_iand hx hb dX4_waysOut_25 ?_
        refine lv_if_ne (tgt := 38) hx hb dX4_waysOut_26 (by decide) (fun c_10 => ?_) (fun c_10 => ?_)
        · have c_10n : ¬ ((inn >>> (x &&& 31)) &&& 1).toInt = (0 : Int) := fun q => c_10 ((fa_eq _ _).mpr q)
          refine lv_iconst (v := 0) hx hb dX4_waysOut_38 (by decide) ?_
          have hw_11 : bLand T h cr inn f1 f2 f3 f4 [(h, .inr (4, [.int cr, .int inn, .ref a1_2, .ref a2_3, .ref a3_4, .ref a4_5])), (a1_2, .inl (T.2 0, 7, .inl f1)), (a2_3, .inl (T.2 0, 28, .inl f2)), (a3_4, .inl (T.2 0, 7, .inl f3)), (a4_5, .inl (T.2 0, 7, .inl f4))] := ⟨a1_2, a2_3, a3_4, a4_5, rfl⟩
          have G : zS T A s.heap s [[(h, .inr (4, [.int cr, .int inn, .ref a1_2, .ref a2_3, .ref a3_4, .ref a4_5])), (a1_2, .inl (T.2 0, 7, .inl f1)), (a2_3, .inl (T.2 0, 28, .inl f2)), (a3_4, .inl (T.2 0, 7, .inl f3)), (a4_5, .inl (T.2 0, 7, .inl f4))]] _ _ := G.re rfl
          exact z_iret C hr hlocks G (Nat.le_of_ble_eq_true rfl) (Nat.le_of_ble_eq_true rfl) dX4_waysOut_39 ⟨rfl, (by unfold zWays; rw [if_neg (fun q => by first | omega | exact absurd q.2.2.2 (by assumption))])⟩
        · have c_10n : ((inn >>> (x &&& 31)) &&& 1).toInt = (0 : Int) := (fa_eq _ _).mp c_10
          refine lv_aload_n hx hb dX4_waysOut_29 rfl (lv_at hl 0 rfl) ?_
          refine z_get C G clX4 0 rfl 2 (by decide) m_fl_RX4_9 rfl dX4_waysOut_30 ?_
          refine lv_iload_n hx hb dX4_waysOut_33 rfl (lv_at hl 1 rfl) ?_
          refine z_ild C G 1 rfl (vp_in_iff.mpr ⟨by omega, by omega⟩) dX4_waysOut_34 ?_
          refine lv_topi (fun v_12 ev_12 => ?_)
          subst ev_12
          refine lv_goto (tgt := 39) hx hb dX4_waysOut_35 (by decide) ?_
          have hw_13 : bLand T h cr inn f1 f2 f3 f4 [(h, .inr (4, [.int cr, .int inn, .ref a1_2, .ref a2_3, .ref a3_4, .ref a4_5])), (a1_2, .inl (T.2 0, 7, .inl f1)), (a2_3, .inl (T.2 0, 28, .inl f2)), (a3_4, .inl (T.2 0, 7, .inl f3)), (a4_5, .inl (T.2 0, 7, .inl f4))] := ⟨a1_2, a2_3, a3_4, a4_5, rfl⟩
          have G : zS T A s.heap s [[(h, .inr (4, [.int cr, .int inn, .ref a1_2, .ref a2_3, .ref a3_4, .ref a4_5])), (a1_2, .inl (T.2 0, 7, .inl f1)), (a2_3, .inl (T.2 0, 28, .inl f2)), (a3_4, .inl (T.2 0, 7, .inl f3)), (a4_5, .inl (T.2 0, 7, .inl f4))]] _ _ := G.re rfl
          exact z_iret C hr hlocks G (Nat.le_of_ble_eq_true rfl) (Nat.le_of_ble_eq_true rfl) dX4_waysOut_39 ⟨rfl, (by unfold zWays; rw [if_pos ⟨by omega, by omega, by omega, by assumption⟩])⟩
set_option maxHeartbeats 4000000 in
set_option maxRecDepth 100000 in
/-- c_target -/
theorem c_target (l : Launch) (T : zTy) (h : Nat) (cr : Int32) (inn : Int32) (f1 : Nat → Int32) (f2 : Nat → Int32) (f3 : Nat → Int32) (f4 : Nat → Int32) (w : va_W) (x : Int32) (y : Int32) (hw : bLand T h cr inn f1 f2 f3 f4 w) : zMi l T yX4_target cX4_target 3 (some .int) 2 0 0 [.ref h, .int x, .int y] [w] (fun (r : Int32) bs => bs = [w] ∧ r = zTarget cr f1 f2 x y) := by
  refine zMi_of (own := RX4) (by decide) rfl (Nat.le_of_ble_eq_true rfl) ?_
  intro p e s m args below meth c A ls C hr hlocks hnm hAe G hl
  have hx := C.1
  have hb := C.2.1
  have hl : lv_has ls 3 [(0, .ref h), (1, .int x), (2, .int y)] := hl
  refine lv_aload_n hx hb dX4_target_0 rfl (lv_at hl 0 rfl) ?_
  refine lv_iload_n hx hb dX4_target_1 rfl (lv_at hl 1 rfl) ?_
  refine lv_iload_n hx hb dX4_target_2 rfl (lv_at hl 2 rfl) ?_
  refine z_Vi (bc := [w]) (br := []) (As := [.int x, .int y]) (rest := []) C G (c_hasRoad l T h cr inn f1 f2 f3 f4 w x y hw) (kV_RX4_35 C.2.2.2.2 (Nat.le_of_ble_eq_true rfl) (Nat.le_of_ble_eq_true rfl)) [0] [] rfl rfl (ci := 4) (qc := (RX4, TX4, 6)) rfl rfl (List.mem_flatten.mpr ⟨_, List.mem_of_getElem? (i := 0) rfl, (bLand_mem hw).choose_spec⟩) rfl rfl hl.1 dX4_target_3 (Nat.le_of_ble_eq_true rfl) (Nat.le_of_ble_eq_true rfl) (fun r_2 b1 H locs hw G => ?_)
  obtain ⟨rfl, hc_1⟩ := hw
  have G : zS T A s.heap s [w] _ _ := G
  rcases hc_1 with ⟨rfl, h_3, h_4, h_5, h_6, h_7, h_8⟩ | ⟨rfl, h_9⟩
  · have h_3 : 0 ≤ x.toInt := h_3
    have h_4 : x.toInt < cr.toInt := h_4
    have h_5 : x.toInt < 7 := h_5
    have h_6 : 0 ≤ y.toInt := h_6
    have h_7 : y.toInt < (f1 x.toNatClampNeg).toInt := h_7
    have h_8 : y.toInt < 4 := h_8
    refine lv_if_eq (tgt := 22) hx hb dX4_target_6 (by decide) (fun q => absurd q (by decide)) (fun _ => ?_)
    refine lv_aload_n hx hb dX4_target_9 rfl (lv_at hl 0 rfl) ?_
    obtain ⟨a1_10, a2_11, a3_12, a4_13, rfl⟩ := hw
    have G : zS T A s.heap s [[(h, .inr (4, [.int cr, .int inn, .ref a1_10, .ref a2_11, .ref a3_12, .ref a4_13]))], [(a1_10, .inl (T.2 0, 7, .inl f1))], [(a2_11, .inl (T.2 0, 28, .inl f2))], [(a3_12, .inl (T.2 0, 7, .inl f3))], [(a4_13, .inl (T.2 0, 7, .inl f4))]] _ _ := G.re rfl
    refine z_get C G clX4 0 rfl 3 (by decide) m_fl_RX4_15 rfl dX4_target_10 ?_
    refine lv_iload_n hx hb dX4_target_13 rfl (lv_at hl 1 rfl) ?_
    refine lv_iconst (v := 4) hx hb dX4_target_14 (by decide) ?_
    refine lv_imul hx hb dX4_target_15 ?_
    refine lv_topi (fun y_14 ey_14 => ?_)
    have ey_14i : y_14.toInt = x.toInt * (4 : Int) := by rw [ey_14]; exact z_imulI (x := x) (y := (4 : Int32)) (by show -2147483648 ≤ x.toInt * (4 : Int); omega) (by show x.toInt * (4 : Int) < 2147483648; omega)
    refine lv_iload_n hx hb dX4_target_16 rfl (lv_at hl 2 rfl) ?_
    refine lv_iadd hx hb dX4_target_17 ?_
    refine lv_topi (fun y_15 ey_15 => ?_)
    have ey_15i : y_15.toInt = y_14.toInt + y.toInt := by rw [ey_15]; exact z_iaddI (x := y_14) (y := y) (by show -2147483648 ≤ y_14.toInt + y.toInt; omega) (by show y_14.toInt + y.toInt < 2147483648; omega)
    refine z_ild C G 2 rfl (vp_in_iff.mpr ⟨by omega, by omega⟩) dX4_target_18 ?_
    refine lv_topi (fun v_16 ev_16 => ?_)
    subst ev_16
    refine lv_goto (tgt := 23) hx hb dX4_target_19 (by decide) ?_
    have hw_17 : bLand T h cr inn f1 f2 f3 f4 [(h, .inr (4, [.int cr, .int inn, .ref a1_10, .ref a2_11, .ref a3_12, .ref a4_13])), (a1_10, .inl (T.2 0, 7, .inl f1)), (a2_11, .inl (T.2 0, 28, .inl f2)), (a3_12, .inl (T.2 0, 7, .inl f3)), (a4_13, .inl (T.2 0, 7, .inl f4))] := ⟨a1_10, a2_11, a3_12, a4_13, rfl⟩
    have G : zS T A s.heap s [[(h, .inr (4, [.int cr, .int inn, .ref a1_10, .ref a2_11, .ref a3_12, .ref a4_13])), (a1_10, .inl (T.2 0, 7, .inl f1)), (a2_11, .inl (T.2 0, 28, .inl f2)), (a3_12, .inl (T.2 0, 7, .inl f3)), (a4_13, .inl (T.2 0, 7, .inl f4))]] _ _ := G.re rfl
    exact z_iret C hr hlocks G (Nat.le_of_ble_eq_true rfl) (Nat.le_of_ble_eq_true rfl) dX4_target_23 ⟨rfl, (by unfold zTarget; rw [if_pos (by omega)]; exact congrArg f2 (by have q1 := z_clI (x := x) (by omega); have q2 := z_clI (x := y) (by omega); have q3 := z_clI (x := y_15) (by omega); omega))⟩
  · have h_9 : (x.toInt < 0 ∨ cr.toInt ≤ x.toInt ∨ 7 ≤ x.toInt ∨ y.toInt < 0 ∨ (f1 x.toNatClampNeg).toInt ≤ y.toInt ∨ 4 ≤ y.toInt) := h_9
    refine lv_if_eq (tgt := 22) hx hb dX4_target_6 (by decide) (fun _ => ?_) (fun q => absurd (by decide) q)
    refine lv_iconst (v := (-1)) hx hb dX4_target_22 (by decide) ?_
    exact z_iret C hr hlocks G (Nat.le_of_ble_eq_true rfl) (Nat.le_of_ble_eq_true rfl) dX4_target_23 ⟨rfl, (by unfold zTarget; rw [if_neg (by omega)])⟩
set_option maxHeartbeats 4000000 in
set_option maxRecDepth 100000 in
/-- addRoad -/
theorem c_addRoad (l : Launch) (T : zTy) (h : Nat) (cr : Int32) (inn : Int32) (f1 : Nat → Int32) (f2 : Nat → Int32) (f3 : Nat → Int32) (f4 : Nat → Int32) (w : va_W) (x : Int32) (to : Int32) (hw : bLand T h cr inn f1 f2 f3 f4 w) (hI : zLI cr f1 f3) : zMv l T yX4_addRoad cX4_addRoad 3 2 0 0 [.ref h, .int x, .int to] [w] (fun bs => ∃ (w2 : va_W) (g1 : Nat → Int32) (g2 : Nat → Int32), bs = [w2] ∧ bLand T h cr inn g1 g2 f3 f4 w2 ∧ g1 = zAddA cr f1 x ∧ g2 = zAddB cr f1 f2 x to) := by
  refine zMv_of (own := RX4) (by decide) rfl (Nat.le_of_ble_eq_true rfl) ?_
  intro p e s m args below meth c A ls C hr hlocks hnm hAe G hl
  have hx := C.1
  have hb := C.2.1
  have hl : lv_has ls 3 [(0, .ref h), (1, .int x), (2, .int to)] := hl
  refine lv_aload_n hx hb dX4_addRoad_0 rfl (lv_at hl 0 rfl) ?_
  refine lv_iload_n hx hb dX4_addRoad_1 rfl (lv_at hl 1 rfl) ?_
  refine z_Vi (bc := [w]) (br := []) (As := [.int x]) (rest := []) C G (c_has l T h cr inn f1 f2 f3 f4 w x hw) (kV_RX4_31 C.2.2.2.2 (Nat.le_of_ble_eq_true rfl) (Nat.le_of_ble_eq_true rfl)) [0] [] rfl rfl (ci := 4) (qc := (RX4, TX4, 6)) rfl rfl (List.mem_flatten.mpr ⟨_, List.mem_of_getElem? (i := 0) rfl, (bLand_mem hw).choose_spec⟩) rfl rfl hl.1 dX4_addRoad_2 (Nat.le_of_ble_eq_true rfl) (Nat.le_of_ble_eq_true rfl) (fun r_2 b1 H locs hw G => ?_)
  obtain ⟨rfl, hc_1⟩ := hw
  have G : zS T A s.heap s [w] _ _ := G
  rcases hc_1 with ⟨rfl, h_3, h_4, h_5⟩ | ⟨rfl, h_6⟩
  · have h_3 : 0 ≤ x.toInt := h_3
    have h_4 : x.toInt < cr.toInt := h_4
    have h_5 : x.toInt < 7 := h_5
    refine lv_if_eq (tgt := 44) hx hb dX4_addRoad_5 (by decide) (fun q => absurd q (by decide)) (fun _ => ?_)
    refine lv_aload_n hx hb dX4_addRoad_8 rfl (lv_at hl 0 rfl) ?_
    obtain ⟨a1_7, a2_8, a3_9, a4_10, rfl⟩ := hw
    have G : zS T A s.heap s [[(h, .inr (4, [.int cr, .int inn, .ref a1_7, .ref a2_8, .ref a3_9, .ref a4_10]))], [(a1_7, .inl (T.2 0, 7, .inl f1))], [(a2_8, .inl (T.2 0, 28, .inl f2))], [(a3_9, .inl (T.2 0, 7, .inl f3))], [(a4_10, .inl (T.2 0, 7, .inl f4))]] _ _ := G.re rfl
    refine z_get C G clX4 0 rfl 2 (by decide) m_fl_RX4_9 rfl dX4_addRoad_9 ?_
    refine lv_iload_n hx hb dX4_addRoad_12 rfl (lv_at hl 1 rfl) ?_
    refine z_ild C G 1 rfl (vp_in_iff.mpr ⟨by omega, by omega⟩) dX4_addRoad_13 ?_
    refine lv_topi (fun v_11 ev_11 => ?_)
    subst ev_11
    refine lv_iconst (v := 4) hx hb dX4_addRoad_14 (by decide) ?_
    refine lv_icmp_ge (tgt := 44) hx hb dX4_addRoad_15 (by decide) (fun c_12 => ?_) (fun c_12 => ?_)
    · have c_12n : (4 : Int) ≤ (f1 x.toNatClampNeg).toInt := (fa_le _ _).mp c_12
      have hw_13 : bLand T h cr inn f1 f2 f3 f4 [(h, .inr (4, [.int cr, .int inn, .ref a1_7, .ref a2_8, .ref a3_9, .ref a4_10])), (a1_7, .inl (T.2 0, 7, .inl f1)), (a2_8, .inl (T.2 0, 28, .inl f2)), (a3_9, .inl (T.2 0, 7, .inl f3)), (a4_10, .inl (T.2 0, 7, .inl f4))] := ⟨a1_7, a2_8, a3_9, a4_10, rfl⟩
      have G : zS T A s.heap s [[(h, .inr (4, [.int cr, .int inn, .ref a1_7, .ref a2_8, .ref a3_9, .ref a4_10])), (a1_7, .inl (T.2 0, 7, .inl f1)), (a2_8, .inl (T.2 0, 28, .inl f2)), (a3_9, .inl (T.2 0, 7, .inl f3)), (a4_10, .inl (T.2 0, 7, .inl f4))]] _ _ := G.re rfl
      exact z_vret C hr hlocks G (Nat.le_of_ble_eq_true rfl) (Nat.le_of_ble_eq_true rfl) dX4_addRoad_44 ⟨([(h, .inr (4, [.int cr, .int inn, .ref a1_7, .ref a2_8, .ref a3_9, .ref a4_10])), (a1_7, .inl (T.2 0, 7, .inl f1)), (a2_8, .inl (T.2 0, 28, .inl f2)), (a3_9, .inl (T.2 0, 7, .inl f3)), (a4_10, .inl (T.2 0, 7, .inl f4))]), f1, f2, rfl, hw_13, (by unfold zAddA; rw [if_neg (by omega)]), (by unfold zAddB; rw [if_neg (by omega)])⟩
    · have c_12n : ¬ (4 : Int) ≤ (f1 x.toNatClampNeg).toInt := fun q => c_12 ((fa_le _ _).mpr q)
      have hI0 : 0 ≤ (f1 x.toNatClampNeg).toInt := (hI.2.1 _ (by have q1 := z_clI (x := x) (by omega); omega)).1
      refine lv_aload_n hx hb dX4_addRoad_18 rfl (lv_at hl 0 rfl) ?_
      refine z_get C G clX4 0 rfl 3 (by decide) m_fl_RX4_15 rfl dX4_addRoad_19 ?_
      refine lv_iload_n hx hb dX4_addRoad_22 rfl (lv_at hl 1 rfl) ?_
      refine lv_iconst (v := 4) hx hb dX4_addRoad_23 (by decide) ?_
      refine lv_imul hx hb dX4_addRoad_24 ?_
      refine lv_topi (fun y_14 ey_14 => ?_)
      have ey_14i : y_14.toInt = x.toInt * (4 : Int) := by rw [ey_14]; exact z_imulI (x := x) (y := (4 : Int32)) (by show -2147483648 ≤ x.toInt * (4 : Int); omega) (by show x.toInt * (4 : Int) < 2147483648; omega)
      refine lv_aload_n hx hb dX4_addRoad_25 rfl (lv_at hl 0 rfl) ?_
      refine z_get C G clX4 0 rfl 2 (by decide) m_fl_RX4_9 rfl dX4_addRoad_26 ?_
      refine lv_iload_n hx hb dX4_addRoad_29 rfl (lv_at hl 1 rfl) ?_
      refine z_ild C G 1 rfl (vp_in_iff.mpr ⟨by omega, by omega⟩) dX4_addRoad_30 ?_
      refine lv_topi (fun v_15 ev_15 => ?_)
      subst ev_15
      refine lv_iadd hx hb dX4_addRoad_31 ?_
      refine lv_topi (fun y_16 ey_16 => ?_)
      have ey_16i : y_16.toInt = y_14.toInt + (f1 x.toNatClampNeg).toInt := by rw [ey_16]; exact z_iaddI (x := y_14) (y := (f1 x.toNatClampNeg)) (by show -2147483648 ≤ y_14.toInt + (f1 x.toNatClampNeg).toInt; omega) (by show y_14.toInt + (f1 x.toNatClampNeg).toInt < 2147483648; omega)
      refine lv_iload_n hx hb dX4_addRoad_32 rfl (lv_at hl 2 rfl) ?_
      refine z_ist C G 2 rfl (vp_in_iff.mpr ⟨by omega, by omega⟩) dX4_addRoad_33 (fun H locs G => ?_)
      have G : zS T A s.heap s [[(h, .inr (4, [.int cr, .int inn, .ref a1_7, .ref a2_8, .ref a3_9, .ref a4_10]))], [(a1_7, .inl (T.2 0, 7, .inl f1))], [(a2_8, .inl (T.2 0, 28, .inl (upd f2 y_16.toNatClampNeg to)))], [(a3_9, .inl (T.2 0, 7, .inl f3))], [(a4_10, .inl (T.2 0, 7, .inl f4))]] _ _ := G
      refine lv_aload_n hx hb dX4_addRoad_34 rfl (lv_at hl 0 rfl) ?_
      refine z_get C G clX4 0 rfl 2 (by decide) m_fl_RX4_9 rfl dX4_addRoad_35 ?_
      refine lv_iload_n hx hb dX4_addRoad_38 rfl (lv_at hl 1 rfl) ?_
      refine lv_dup2_11 hx hb dX4_addRoad_39 rfl rfl ?_
      refine z_ild C G 1 rfl (vp_in_iff.mpr ⟨by omega, by omega⟩) dX4_addRoad_40 ?_
      refine lv_topi (fun v_17 ev_17 => ?_)
      subst ev_17
      refine lv_iconst (v := 1) hx hb dX4_addRoad_41 (by decide) ?_
      refine lv_iadd hx hb dX4_addRoad_42 ?_
      refine z_ist C G 1 rfl (vp_in_iff.mpr ⟨by omega, by omega⟩) dX4_addRoad_43 (fun H locs G => ?_)
      have G : zS T A s.heap s [[(h, .inr (4, [.int cr, .int inn, .ref a1_7, .ref a2_8, .ref a3_9, .ref a4_10]))], [(a1_7, .inl (T.2 0, 7, .inl (upd f1 x.toNatClampNeg ((f1 x.toNatClampNeg) + 1))))], [(a2_8, .inl (T.2 0, 28, .inl (upd f2 y_16.toNatClampNeg to)))], [(a3_9, .inl (T.2 0, 7, .inl f3))], [(a4_10, .inl (T.2 0, 7, .inl f4))]] _ _ := G
      have hw_18 : bLand T h cr inn (upd f1 x.toNatClampNeg ((f1 x.toNatClampNeg) + 1)) (upd f2 y_16.toNatClampNeg to) f3 f4 [(h, .inr (4, [.int cr, .int inn, .ref a1_7, .ref a2_8, .ref a3_9, .ref a4_10])), (a1_7, .inl (T.2 0, 7, .inl (upd f1 x.toNatClampNeg ((f1 x.toNatClampNeg) + 1)))), (a2_8, .inl (T.2 0, 28, .inl (upd f2 y_16.toNatClampNeg to))), (a3_9, .inl (T.2 0, 7, .inl f3)), (a4_10, .inl (T.2 0, 7, .inl f4))] := ⟨a1_7, a2_8, a3_9, a4_10, rfl⟩
      have G : zS T A s.heap s [[(h, .inr (4, [.int cr, .int inn, .ref a1_7, .ref a2_8, .ref a3_9, .ref a4_10])), (a1_7, .inl (T.2 0, 7, .inl (upd f1 x.toNatClampNeg ((f1 x.toNatClampNeg) + 1)))), (a2_8, .inl (T.2 0, 28, .inl (upd f2 y_16.toNatClampNeg to))), (a3_9, .inl (T.2 0, 7, .inl f3)), (a4_10, .inl (T.2 0, 7, .inl f4))]] _ _ := G.re rfl
      exact z_vret C hr hlocks G (Nat.le_of_ble_eq_true rfl) (Nat.le_of_ble_eq_true rfl) dX4_addRoad_44 ⟨([(h, .inr (4, [.int cr, .int inn, .ref a1_7, .ref a2_8, .ref a3_9, .ref a4_10])), (a1_7, .inl (T.2 0, 7, .inl (upd f1 x.toNatClampNeg ((f1 x.toNatClampNeg) + 1)))), (a2_8, .inl (T.2 0, 28, .inl (upd f2 y_16.toNatClampNeg to))), (a3_9, .inl (T.2 0, 7, .inl f3)), (a4_10, .inl (T.2 0, 7, .inl f4))]), (upd f1 x.toNatClampNeg ((f1 x.toNatClampNeg) + 1)), (upd f2 y_16.toNatClampNeg to), rfl, hw_18, (by unfold zAddA; rw [if_pos (by omega)]), (by unfold zAddB; rw [if_pos (by omega)]; exact congrArg (fun k => upd f2 k to) (by have q1 := z_clI (x := x) (by omega); have q2 := z_clI (x := f1 x.toNatClampNeg) hI0; have q3 := z_clI (x := y_16) (by omega); omega))⟩
  · have h_6 : (x.toInt < 0 ∨ cr.toInt ≤ x.toInt ∨ 7 ≤ x.toInt) := h_6
    refine lv_if_eq (tgt := 44) hx hb dX4_addRoad_5 (by decide) (fun _ => ?_) (fun q => absurd (by decide) q)
    exact z_vret C hr hlocks G (Nat.le_of_ble_eq_true rfl) (Nat.le_of_ble_eq_true rfl) dX4_addRoad_44 ⟨w, f1, f2, rfl, hw, (by unfold zAddA; rw [if_neg (by omega)]), (by unfold zAddB; rw [if_neg (by omega)])⟩
set_option maxHeartbeats 4000000 in
set_option maxRecDepth 100000 in
/-- c_Land_told -/
theorem c_Land_told (l : Launch) (T : zTy) (h : Nat) (cr : Int32) (inn : Int32) (f1 : Nat → Int32) (f2 : Nat → Int32) (f3 : Nat → Int32) (f4 : Nat → Int32) (w : va_W) (x : Int32) (hw : bLand T h cr inn f1 f2 f3 f4 w) : zMi l T yX4_told cX4_told 3 (some .int) 3 0 0 [.ref h, .int x] [w] (fun (r : Int32) bs => bs = [w]) := by
  refine zMi_of (own := RX4) (by decide) rfl (Nat.le_of_ble_eq_true rfl) ?_
  intro p e s m args below meth c A ls C hr hlocks hnm hAe G hl
  have hx := C.1
  have hb := C.2.1
  have hl : lv_has ls 3 [(0, .ref h), (1, .int x)] := hl
  refine lv_iload_n hx hb dX4_told_0 rfl (lv_at hl 1 rfl) ?_
  refine lv_if_ne (tgt := 9) hx hb dX4_told_1 (by decide) (fun c_1 => ?_) (fun c_1 => ?_)
  · have c_1n : ¬ x.toInt = (0 : Int) := fun q => c_1 ((fa_eq _ _).mpr q)
    refine lv_iload_n hx hb dX4_told_9 rfl (lv_at hl 1 rfl) ?_
    refine lv_iconst (v := 1) hx hb dX4_told_10 (by decide) ?_
    refine lv_icmp_ne (tgt := 19) hx hb dX4_told_11 (by decide) (fun c_2 => ?_) (fun c_2 => ?_)
    · have c_2n : ¬ x.toInt = (1 : Int) := fun q => c_2 ((fa_eq _ _).mpr q)
      refine lv_iload_n hx hb dX4_told_19 rfl (lv_at hl 1 rfl) ?_
      refine lv_bipush (v := 100) hx hb dX4_told_20 (by decide) ?_
      refine lv_icmp_lt (tgt := 44) hx hb dX4_told_22 (by decide) (fun c_3 => ?_) (fun c_3 => ?_)
      · have c_3n : x.toInt < (100 : Int) := (fa_lt _ _).mp c_3
        refine lv_iload_n hx hb dX4_told_44 rfl (lv_at hl 1 rfl) ?_
        refine lv_bipush (v := 10) hx hb dX4_told_45 (by decide) ?_
        refine lv_irem hx hb dX4_told_47 (by decide) ?_
        refine lv_istore_n (lv' := [(2, .int (x - x / 10 * 10)), (0, .ref h), (1, .int x)]) hx hb dX4_told_48 rfl hl (by decide) rfl (fun ls hl => ?_)
        refine lv_aload_n hx hb dX4_told_49 rfl (lv_at hl 1 rfl) ?_
        refine lv_iload_n hx hb dX4_told_50 rfl (lv_at hl 0 rfl) ?_
        refine z_Vi (bc := [w]) (br := []) (As := [.int (x - x / 10 * 10)]) (rest := []) C G (c_has l T h cr inn f1 f2 f3 f4 w (x - x / 10 * 10) hw) (kV_RX4_31 C.2.2.2.2 (Nat.le_of_ble_eq_true rfl) (Nat.le_of_ble_eq_true rfl)) [0] [] rfl rfl (ci := 4) (qc := (RX4, TX4, 6)) rfl rfl (List.mem_flatten.mpr ⟨_, List.mem_of_getElem? (i := 0) rfl, (bLand_mem hw).choose_spec⟩) rfl rfl hl.1 dX4_told_51 (Nat.le_of_ble_eq_true rfl) (Nat.le_of_ble_eq_true rfl) (fun r_5 b1 H locs hw G => ?_)
        obtain ⟨rfl, hc_4⟩ := hw
        have G : zS T A s.heap s [w] _ _ := G
        rcases hc_4 with ⟨rfl, h_6, h_7, h_8⟩ | ⟨rfl, h_9⟩
        · have h_6 : 0 ≤ (x - x / 10 * 10).toInt := h_6
          have h_7 : (x - x / 10 * 10).toInt < cr.toInt := h_7
          have h_8 : (x - x / 10 * 10).toInt < 7 := h_8
          refine lv_if_ne (tgt := 59) hx hb dX4_told_54 (by decide) (fun _ => ?_) (fun q => absurd q (by decide))
          refine lv_iload_n hx hb dX4_told_59 rfl (lv_at hl 2 rfl) ?_
          refine lv_bipush (v := 10) hx hb dX4_told_60 (by decide) ?_
          refine lv_idiv hx hb dX4_told_62 (by decide) ?_
          by_cases c_10o : (x / 10).toInt < 1 ∨ 3 < (x / 10).toInt
          · refine lv_tableOut (tgt := 109) hx hb dX4_told_63 c_10o (by decide) ?_
            refine lv_iconst (v := (-1)) hx hb dX4_told_109 (by decide) ?_
            exact z_iret C hr hlocks G (Nat.le_of_ble_eq_true rfl) (Nat.le_of_ble_eq_true rfl) dX4_told_110 rfl
          · have c_10r : (x / 10).toInt = 1 ∨ (x / 10).toInt = 2 ∨ (x / 10).toInt = 3 := by omega
            rcases c_10r with c_10 | c_10 | c_10
            · refine lv_tableIn (tgt := 88) hx hb dX4_told_63 (by omega) (by omega) (by rw [c_10]; rfl) (by decide) ?_
              refine lv_aload_n hx hb dX4_told_88 rfl (lv_at hl 1 rfl) ?_
              obtain ⟨a1_11, a2_12, a3_13, a4_14, rfl⟩ := hw
              have G : zS T A s.heap s [[(h, .inr (4, [.int cr, .int inn, .ref a1_11, .ref a2_12, .ref a3_13, .ref a4_14]))], [(a1_11, .inl (T.2 0, 7, .inl f1))], [(a2_12, .inl (T.2 0, 28, .inl f2))], [(a3_13, .inl (T.2 0, 7, .inl f3))], [(a4_14, .inl (T.2 0, 7, .inl f4))]] _ _ := G.re rfl
              refine z_get C G clX4 0 rfl 2 (by decide) m_fl_RX4_9 rfl dX4_told_89 ?_
              refine lv_iload_n hx hb dX4_told_92 rfl (lv_at hl 0 rfl) ?_
              refine z_ild C G 1 rfl (vp_in_iff.mpr ⟨by omega, by omega⟩) dX4_told_93 ?_
              refine lv_topi (fun v_15 ev_15 => ?_)
              subst ev_15
              have hw_16 : bLand T h cr inn f1 f2 f3 f4 [(h, .inr (4, [.int cr, .int inn, .ref a1_11, .ref a2_12, .ref a3_13, .ref a4_14])), (a1_11, .inl (T.2 0, 7, .inl f1)), (a2_12, .inl (T.2 0, 28, .inl f2)), (a3_13, .inl (T.2 0, 7, .inl f3)), (a4_14, .inl (T.2 0, 7, .inl f4))] := ⟨a1_11, a2_12, a3_13, a4_14, rfl⟩
              have G : zS T A s.heap s [[(h, .inr (4, [.int cr, .int inn, .ref a1_11, .ref a2_12, .ref a3_13, .ref a4_14])), (a1_11, .inl (T.2 0, 7, .inl f1)), (a2_12, .inl (T.2 0, 28, .inl f2)), (a3_13, .inl (T.2 0, 7, .inl f3)), (a4_14, .inl (T.2 0, 7, .inl f4))]] _ _ := G.re rfl
              exact z_iret C hr hlocks G (Nat.le_of_ble_eq_true rfl) (Nat.le_of_ble_eq_true rfl) dX4_told_94 rfl
            · refine lv_tableIn (tgt := 95) hx hb dX4_told_63 (by omega) (by omega) (by rw [c_10]; rfl) (by decide) ?_
              refine lv_aload_n hx hb dX4_told_95 rfl (lv_at hl 1 rfl) ?_
              obtain ⟨a1_17, a2_18, a3_19, a4_20, rfl⟩ := hw
              have G : zS T A s.heap s [[(h, .inr (4, [.int cr, .int inn, .ref a1_17, .ref a2_18, .ref a3_19, .ref a4_20]))], [(a1_17, .inl (T.2 0, 7, .inl f1))], [(a2_18, .inl (T.2 0, 28, .inl f2))], [(a3_19, .inl (T.2 0, 7, .inl f3))], [(a4_20, .inl (T.2 0, 7, .inl f4))]] _ _ := G.re rfl
              refine z_get C G clX4 0 rfl 4 (by decide) m_fl_RX4_18 rfl dX4_told_96 ?_
              refine lv_iload_n hx hb dX4_told_99 rfl (lv_at hl 0 rfl) ?_
              refine z_ild C G 3 rfl (vp_in_iff.mpr ⟨by omega, by omega⟩) dX4_told_100 ?_
              refine lv_topi (fun v_21 ev_21 => ?_)
              subst ev_21
              have hw_22 : bLand T h cr inn f1 f2 f3 f4 [(h, .inr (4, [.int cr, .int inn, .ref a1_17, .ref a2_18, .ref a3_19, .ref a4_20])), (a1_17, .inl (T.2 0, 7, .inl f1)), (a2_18, .inl (T.2 0, 28, .inl f2)), (a3_19, .inl (T.2 0, 7, .inl f3)), (a4_20, .inl (T.2 0, 7, .inl f4))] := ⟨a1_17, a2_18, a3_19, a4_20, rfl⟩
              have G : zS T A s.heap s [[(h, .inr (4, [.int cr, .int inn, .ref a1_17, .ref a2_18, .ref a3_19, .ref a4_20])), (a1_17, .inl (T.2 0, 7, .inl f1)), (a2_18, .inl (T.2 0, 28, .inl f2)), (a3_19, .inl (T.2 0, 7, .inl f3)), (a4_20, .inl (T.2 0, 7, .inl f4))]] _ _ := G.re rfl
              exact z_iret C hr hlocks G (Nat.le_of_ble_eq_true rfl) (Nat.le_of_ble_eq_true rfl) dX4_told_101 rfl
            · refine lv_tableIn (tgt := 102) hx hb dX4_told_63 (by omega) (by omega) (by rw [c_10]; rfl) (by decide) ?_
              refine lv_aload_n hx hb dX4_told_102 rfl (lv_at hl 1 rfl) ?_
              obtain ⟨a1_23, a2_24, a3_25, a4_26, rfl⟩ := hw
              have G : zS T A s.heap s [[(h, .inr (4, [.int cr, .int inn, .ref a1_23, .ref a2_24, .ref a3_25, .ref a4_26]))], [(a1_23, .inl (T.2 0, 7, .inl f1))], [(a2_24, .inl (T.2 0, 28, .inl f2))], [(a3_25, .inl (T.2 0, 7, .inl f3))], [(a4_26, .inl (T.2 0, 7, .inl f4))]] _ _ := G.re rfl
              refine z_get C G clX4 0 rfl 5 (by decide) m_fl_RX4_21 rfl dX4_told_103 ?_
              refine lv_iload_n hx hb dX4_told_106 rfl (lv_at hl 0 rfl) ?_
              refine z_ild C G 4 rfl (vp_in_iff.mpr ⟨by omega, by omega⟩) dX4_told_107 ?_
              refine lv_topi (fun v_27 ev_27 => ?_)
              subst ev_27
              have hw_28 : bLand T h cr inn f1 f2 f3 f4 [(h, .inr (4, [.int cr, .int inn, .ref a1_23, .ref a2_24, .ref a3_25, .ref a4_26])), (a1_23, .inl (T.2 0, 7, .inl f1)), (a2_24, .inl (T.2 0, 28, .inl f2)), (a3_25, .inl (T.2 0, 7, .inl f3)), (a4_26, .inl (T.2 0, 7, .inl f4))] := ⟨a1_23, a2_24, a3_25, a4_26, rfl⟩
              have G : zS T A s.heap s [[(h, .inr (4, [.int cr, .int inn, .ref a1_23, .ref a2_24, .ref a3_25, .ref a4_26])), (a1_23, .inl (T.2 0, 7, .inl f1)), (a2_24, .inl (T.2 0, 28, .inl f2)), (a3_25, .inl (T.2 0, 7, .inl f3)), (a4_26, .inl (T.2 0, 7, .inl f4))]] _ _ := G.re rfl
              exact z_iret C hr hlocks G (Nat.le_of_ble_eq_true rfl) (Nat.le_of_ble_eq_true rfl) dX4_told_108 rfl
        · have h_9 : ((x - x / 10 * 10).toInt < 0 ∨ cr.toInt ≤ (x - x / 10 * 10).toInt ∨ 7 ≤ (x - x / 10 * 10).toInt) := h_9
          refine lv_if_ne (tgt := 59) hx hb dX4_told_54 (by decide) (fun q => absurd (by decide) q) (fun _ => ?_)
          refine lv_iconst (v := (-1)) hx hb dX4_told_57 (by decide) ?_
          exact z_iret C hr hlocks G (Nat.le_of_ble_eq_true rfl) (Nat.le_of_ble_eq_true rfl) dX4_told_58 rfl
      · have c_3n : ¬ x.toInt < (100 : Int) := fun q => c_3 ((fa_lt _ _).mpr q)
        refine lv_aload_n hx hb dX4_told_25 rfl (lv_at hl 0 rfl) ?_
        refine lv_iload_n hx hb dX4_told_26 rfl (lv_at hl 1 rfl) ?_
        refine lv_bipush (v := 100) hx hb dX4_told_27 (by decide) ?_
        refine lv_isub hx hb dX4_told_29 ?_
        refine lv_bipush (v := 10) hx hb dX4_told_30 (by decide) ?_
        refine lv_idiv hx hb dX4_told_32 (by decide) ?_
        refine lv_iload_n hx hb dX4_told_33 rfl (lv_at hl 1 rfl) ?_
        refine lv_bipush (v := 100) hx hb dX4_told_34 (by decide) ?_
        refine lv_isub hx hb dX4_told_36 ?_
        refine lv_bipush (v := 10) hx hb dX4_told_37 (by decide) ?_
        refine lv_irem hx hb dX4_told_39 (by decide) ?_
        refine z_Vi (bc := [w]) (br := []) (As := [.int ((x - 100) / 10), .int ((x - 100) - (x - 100) / 10 * 10)]) (rest := []) C G (c_target l T h cr inn f1 f2 f3 f4 w ((x - 100) / 10) ((x - 100) - (x - 100) / 10 * 10) hw) (kV_RX4_39 C.2.2.2.2 (Nat.le_of_ble_eq_true rfl) (Nat.le_of_ble_eq_true rfl)) [0] [] rfl rfl (ci := 4) (qc := (RX4, TX4, 6)) rfl rfl (List.mem_flatten.mpr ⟨_, List.mem_of_getElem? (i := 0) rfl, (bLand_mem hw).choose_spec⟩) rfl rfl hl.1 dX4_told_40 (Nat.le_of_ble_eq_true rfl) (Nat.le_of_ble_eq_true rfl) (fun r_30 b1 H locs hw G => ?_)
        obtain ⟨rfl, h_29⟩ := hw
        have G : zS T A s.heap s [w] _ _ := G
        subst h_29
        exact z_iret C hr hlocks G (Nat.le_of_ble_eq_true rfl) (Nat.le_of_ble_eq_true rfl) dX4_told_43 rfl
    · have c_2n : x.toInt = (1 : Int) := (fa_eq _ _).mp c_2
      refine lv_aload_n hx hb dX4_told_14 rfl (lv_at hl 0 rfl) ?_
      obtain ⟨a1_31, a2_32, a3_33, a4_34, rfl⟩ := hw
      have G : zS T A s.heap s [[(h, .inr (4, [.int cr, .int inn, .ref a1_31, .ref a2_32, .ref a3_33, .ref a4_34]))], [(a1_31, .inl (T.2 0, 7, .inl f1))], [(a2_32, .inl (T.2 0, 28, .inl f2))], [(a3_33, .inl (T.2 0, 7, .inl f3))], [(a4_34, .inl (T.2 0, 7, .inl f4))]] _ _ := G.re rfl
      refine z_get C G clX4 0 rfl 1 (by decide) m_fl_RX4_28 rfl dX4_told_15 ?_
      have hw_35 : bLand T h cr inn f1 f2 f3 f4 [(h, .inr (4, [.int cr, .int inn, .ref a1_31, .ref a2_32, .ref a3_33, .ref a4_34])), (a1_31, .inl (T.2 0, 7, .inl f1)), (a2_32, .inl (T.2 0, 28, .inl f2)), (a3_33, .inl (T.2 0, 7, .inl f3)), (a4_34, .inl (T.2 0, 7, .inl f4))] := ⟨a1_31, a2_32, a3_33, a4_34, rfl⟩
      have G : zS T A s.heap s [[(h, .inr (4, [.int cr, .int inn, .ref a1_31, .ref a2_32, .ref a3_33, .ref a4_34])), (a1_31, .inl (T.2 0, 7, .inl f1)), (a2_32, .inl (T.2 0, 28, .inl f2)), (a3_33, .inl (T.2 0, 7, .inl f3)), (a4_34, .inl (T.2 0, 7, .inl f4))]] _ _ := G.re rfl
      exact z_iret C hr hlocks G (Nat.le_of_ble_eq_true rfl) (Nat.le_of_ble_eq_true rfl) dX4_told_18 rfl
  · have c_1n : x.toInt = (0 : Int) := (fa_eq _ _).mp c_1
    refine lv_aload_n hx hb dX4_told_4 rfl (lv_at hl 0 rfl) ?_
    obtain ⟨a1_36, a2_37, a3_38, a4_39, rfl⟩ := hw
    have G : zS T A s.heap s [[(h, .inr (4, [.int cr, .int inn, .ref a1_36, .ref a2_37, .ref a3_38, .ref a4_39]))], [(a1_36, .inl (T.2 0, 7, .inl f1))], [(a2_37, .inl (T.2 0, 28, .inl f2))], [(a3_38, .inl (T.2 0, 7, .inl f3))], [(a4_39, .inl (T.2 0, 7, .inl f4))]] _ _ := G.re rfl
    refine z_get C G clX4 0 rfl 0 (by decide) m_fl_RX4_24 rfl dX4_told_5 ?_
    have hw_40 : bLand T h cr inn f1 f2 f3 f4 [(h, .inr (4, [.int cr, .int inn, .ref a1_36, .ref a2_37, .ref a3_38, .ref a4_39])), (a1_36, .inl (T.2 0, 7, .inl f1)), (a2_37, .inl (T.2 0, 28, .inl f2)), (a3_38, .inl (T.2 0, 7, .inl f3)), (a4_39, .inl (T.2 0, 7, .inl f4))] := ⟨a1_36, a2_37, a3_38, a4_39, rfl⟩
    have G : zS T A s.heap s [[(h, .inr (4, [.int cr, .int inn, .ref a1_36, .ref a2_37, .ref a3_38, .ref a4_39])), (a1_36, .inl (T.2 0, 7, .inl f1)), (a2_37, .inl (T.2 0, 28, .inl f2)), (a3_38, .inl (T.2 0, 7, .inl f3)), (a4_39, .inl (T.2 0, 7, .inl f4))]] _ _ := G.re rfl
    exact z_iret C hr hlocks G (Nat.le_of_ble_eq_true rfl) (Nat.le_of_ble_eq_true rfl) dX4_told_8 rfl


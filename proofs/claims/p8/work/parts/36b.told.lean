def zKT (f : Nat → Int32) : Prop := ∀ j, j < 3 → 0 ≤ (f j).toInt ∧ (f j).toInt ≤ 2
theorem zKT_upd {f : Nat → Int32} (h : zKT f) (k : Nat) {v : Int32} (hv : 0 ≤ v.toInt ∧ v.toInt ≤ 2) : zKT (upd f k v) := by
  intro j hj
  unfold upd
  split
  · exact hv
  · exact h j hj
theorem z_maxK {x y : Int32} (hx : 0 ≤ x.toInt ∧ x.toInt ≤ 2) (hy : 0 ≤ y.toInt ∧ y.toInt ≤ 2) : 0 ≤ (if x < y then y else x).toInt ∧ (if x < y then y else x).toInt ≤ 2 := by
  split
  · exact hy
  · exact hx
theorem zLI_eq {cr : Int32} {f1 f3 g1 g3 : Nat → Int32} (h : zLI cr f1 f3) (h1 : ∀ j, j < 7 → g1 j = f1 j) (h3 : ∀ j, j < 7 → g3 j = f3 j) : zLI cr g1 g3 := ⟨h.1, fun j hj => by rw [h1 j hj]; exact h.2.1 j hj, fun j hj => by rw [h3 j hj]; exact h.2.2 j hj⟩
set_option maxHeartbeats 4000000 in
set_option maxRecDepth 100000 in
/-- placeFor -/
theorem c_placeFor (l : Launch) (T : zTy) (t : Nat) (l0 : Nat) (l1 : Nat) (d0 : Nat) (d1 : Nat) (g0 : Nat) (g1 : Nat) (ln : Int32) (fl : Int32) (pl : Int32) (ft : Nat → Int32) (fk : Nat → Int32) (wt : va_W) (x : Int32) (y : Int32) (ht : bTold T t l0 l1 d0 d1 g0 g1 ln fl pl ft fk wt) (hK : zKT fk) : zMi l T yX9_placeFor cX9_placeFor 3 (some .int) 1 0 0 [.ref t, .int x, .int y] [wt] (fun (r : Int32) bs => bs = [wt] ∧ (r.toInt = -2 ∨ ((0 ≤ x.toInt ∧ x.toInt ≤ 2) ∧ (0 ≤ r.toInt ∧ r.toInt ≤ 1)))) := by
  refine zMi_of (own := RX9) (by decide) rfl (Nat.le_of_ble_eq_true rfl) ?_
  intro p e s m args below meth c A ls C hr hlocks hnm hAe G hl
  have hx := C.1
  have hb := C.2.1
  have hl : lv_has ls 3 [(0, .ref t), (1, .int x), (2, .int y)] := hl
  refine lv_iload_n hx hb dX9_placeFor_0 rfl (lv_at hl 1 rfl) ?_
  refine lv_if_lt (tgt := 9) hx hb dX9_placeFor_1 (by decide) (fun c_1 => ?_) (fun c_1 => ?_)
  · have c_1n : x.toInt < (0 : Int) := (fa_lt _ _).mp c_1
    refine lv_bipush (v := (-2)) hx hb dX9_placeFor_9 (by decide) ?_
    exact z_iret C hr hlocks G (Nat.le_of_ble_eq_true rfl) (Nat.le_of_ble_eq_true rfl) dX9_placeFor_11 ⟨rfl, (by first | exact Or.inl (by decide) | exact Or.inr ⟨by omega, by omega⟩)⟩
  · have c_1n : ¬ x.toInt < (0 : Int) := fun q => c_1 ((fa_lt _ _).mpr q)
    refine lv_iload_n hx hb dX9_placeFor_4 rfl (lv_at hl 1 rfl) ?_
    refine lv_iconst (v := 2) hx hb dX9_placeFor_5 (by decide) ?_
    refine lv_icmp_le (tgt := 12) hx hb dX9_placeFor_6 (by decide) (fun c_2 => ?_) (fun c_2 => ?_)
    · have c_2n : x.toInt ≤ (2 : Int) := (fa_le _ _).mp c_2
      have hKx := hK x.toNatClampNeg (by have := z_clI (x := x) (by omega); omega)
      refine lv_iload_n hx hb dX9_placeFor_12 rfl (lv_at hl 2 rfl) ?_
      refine lv_iconst (v := (-1)) hx hb dX9_placeFor_13 (by decide) ?_
      refine lv_icmp_ne (tgt := 39) hx hb dX9_placeFor_14 (by decide) (fun c_3 => ?_) (fun c_3 => ?_)
      · have c_3n : ¬ y.toInt = (-1 : Int) := fun q => c_3 ((fa_eq _ _).mpr q)
        refine lv_iload_n hx hb dX9_placeFor_39 rfl (lv_at hl 2 rfl) ?_
        refine lv_if_lt (tgt := 57) hx hb dX9_placeFor_40 (by decide) (fun c_4 => ?_) (fun c_4 => ?_)
        · have c_4n : y.toInt < (0 : Int) := (fa_lt _ _).mp c_4
          refine lv_bipush (v := (-2)) hx hb dX9_placeFor_57 (by decide) ?_
          exact z_iret C hr hlocks G (Nat.le_of_ble_eq_true rfl) (Nat.le_of_ble_eq_true rfl) dX9_placeFor_59 ⟨rfl, (by first | exact Or.inl (by decide) | exact Or.inr ⟨by omega, by omega⟩)⟩
        · have c_4n : ¬ y.toInt < (0 : Int) := fun q => c_4 ((fa_lt _ _).mpr q)
          refine lv_iload_n hx hb dX9_placeFor_43 rfl (lv_at hl 2 rfl) ?_
          refine lv_aload_n hx hb dX9_placeFor_44 rfl (lv_at hl 0 rfl) ?_
          obtain ⟨a1_5, a2_6, a3_7, a4_8, a5_9, q1_10, q2_11, q3_12, rfl, h_13, h_14, h_15, h_16, h_17, h_18⟩ := ht
          have G : zS T A s.heap s [[(t, .inr (8, [.ref a1_5, .int ln, .int fl, .int pl, .ref a2_6, .ref a3_7, .ref a4_8, .ref a5_9]))], [(a1_5, .inl (T.2 1, 600, .inl ft))], [(a2_6, .inl (T.2 0, 3, .inl fk))], [(a3_7, .inl (T.2 3, 2, .inr (.inr (.inr (.inr q1_10)))))], [(a4_8, .inl (T.2 4, 2, .inr (.inr (.inr (.inr q2_11)))))], [(a5_9, .inl (T.2 5, 2, .inr (.inr (.inr (.inr q3_12)))))]] _ _ := G.re rfl
          refine z_get C G clX9 0 rfl 4 (by decide) m_fl_RX9_19 rfl dX9_placeFor_45 ?_
          refine lv_iload_n hx hb dX9_placeFor_48 rfl (lv_at hl 1 rfl) ?_
          refine z_ild C G 2 rfl (vp_in_iff.mpr ⟨by omega, by omega⟩) dX9_placeFor_49 ?_
          refine lv_topi (fun v_19 ev_19 => ?_)
          subst ev_19
          refine lv_icmp_ge (tgt := 57) hx hb dX9_placeFor_50 (by decide) (fun c_20 => ?_) (fun c_20 => ?_)
          · have c_20n : (fk x.toNatClampNeg).toInt ≤ y.toInt := (fa_le _ _).mp c_20
            refine lv_bipush (v := (-2)) hx hb dX9_placeFor_57 (by decide) ?_
            have hw_21 : bTold T t l0 l1 d0 d1 g0 g1 ln fl pl ft fk [(t, .inr (8, [.ref a1_5, .int ln, .int fl, .int pl, .ref a2_6, .ref a3_7, .ref a4_8, .ref a5_9])), (a1_5, .inl (T.2 1, 600, .inl ft)), (a2_6, .inl (T.2 0, 3, .inl fk)), (a3_7, .inl (T.2 3, 2, .inr (.inr (.inr (.inr q1_10))))), (a4_8, .inl (T.2 4, 2, .inr (.inr (.inr (.inr q2_11))))), (a5_9, .inl (T.2 5, 2, .inr (.inr (.inr (.inr q3_12)))))] := ⟨a1_5, a2_6, a3_7, a4_8, a5_9, q1_10, q2_11, q3_12, rfl, h_13, h_14, h_15, h_16, h_17, h_18⟩
            have G : zS T A s.heap s [[(t, .inr (8, [.ref a1_5, .int ln, .int fl, .int pl, .ref a2_6, .ref a3_7, .ref a4_8, .ref a5_9])), (a1_5, .inl (T.2 1, 600, .inl ft)), (a2_6, .inl (T.2 0, 3, .inl fk)), (a3_7, .inl (T.2 3, 2, .inr (.inr (.inr (.inr q1_10))))), (a4_8, .inl (T.2 4, 2, .inr (.inr (.inr (.inr q2_11))))), (a5_9, .inl (T.2 5, 2, .inr (.inr (.inr (.inr q3_12)))))]] _ _ := G.re rfl
            exact z_iret C hr hlocks G (Nat.le_of_ble_eq_true rfl) (Nat.le_of_ble_eq_true rfl) dX9_placeFor_59 ⟨rfl, (by first | exact Or.inl (by decide) | exact Or.inr ⟨by omega, by omega⟩)⟩
          · have c_20n : ¬ (fk x.toNatClampNeg).toInt ≤ y.toInt := fun q => c_20 ((fa_le _ _).mpr q)
            refine lv_iload_n hx hb dX9_placeFor_53 rfl (lv_at hl 2 rfl) ?_
            refine lv_goto (tgt := 59) hx hb dX9_placeFor_54 (by decide) ?_
            have hw_22 : bTold T t l0 l1 d0 d1 g0 g1 ln fl pl ft fk [(t, .inr (8, [.ref a1_5, .int ln, .int fl, .int pl, .ref a2_6, .ref a3_7, .ref a4_8, .ref a5_9])), (a1_5, .inl (T.2 1, 600, .inl ft)), (a2_6, .inl (T.2 0, 3, .inl fk)), (a3_7, .inl (T.2 3, 2, .inr (.inr (.inr (.inr q1_10))))), (a4_8, .inl (T.2 4, 2, .inr (.inr (.inr (.inr q2_11))))), (a5_9, .inl (T.2 5, 2, .inr (.inr (.inr (.inr q3_12)))))] := ⟨a1_5, a2_6, a3_7, a4_8, a5_9, q1_10, q2_11, q3_12, rfl, h_13, h_14, h_15, h_16, h_17, h_18⟩
            have G : zS T A s.heap s [[(t, .inr (8, [.ref a1_5, .int ln, .int fl, .int pl, .ref a2_6, .ref a3_7, .ref a4_8, .ref a5_9])), (a1_5, .inl (T.2 1, 600, .inl ft)), (a2_6, .inl (T.2 0, 3, .inl fk)), (a3_7, .inl (T.2 3, 2, .inr (.inr (.inr (.inr q1_10))))), (a4_8, .inl (T.2 4, 2, .inr (.inr (.inr (.inr q2_11))))), (a5_9, .inl (T.2 5, 2, .inr (.inr (.inr (.inr q3_12)))))]] _ _ := G.re rfl
            exact z_iret C hr hlocks G (Nat.le_of_ble_eq_true rfl) (Nat.le_of_ble_eq_true rfl) dX9_placeFor_59 ⟨rfl, (by first | exact Or.inl (by decide) | exact Or.inr ⟨by omega, by omega⟩)⟩
      · have c_3n : y.toInt = (-1 : Int) := (fa_eq _ _).mp c_3
        refine lv_aload_n hx hb dX9_placeFor_17 rfl (lv_at hl 0 rfl) ?_
        obtain ⟨a1_23, a2_24, a3_25, a4_26, a5_27, q1_28, q2_29, q3_30, rfl, h_31, h_32, h_33, h_34, h_35, h_36⟩ := ht
        have G : zS T A s.heap s [[(t, .inr (8, [.ref a1_23, .int ln, .int fl, .int pl, .ref a2_24, .ref a3_25, .ref a4_26, .ref a5_27]))], [(a1_23, .inl (T.2 1, 600, .inl ft))], [(a2_24, .inl (T.2 0, 3, .inl fk))], [(a3_25, .inl (T.2 3, 2, .inr (.inr (.inr (.inr q1_28)))))], [(a4_26, .inl (T.2 4, 2, .inr (.inr (.inr (.inr q2_29)))))], [(a5_27, .inl (T.2 5, 2, .inr (.inr (.inr (.inr q3_30)))))]] _ _ := G.re rfl
        refine z_get C G clX9 0 rfl 4 (by decide) m_fl_RX9_19 rfl dX9_placeFor_18 ?_
        refine lv_iload_n hx hb dX9_placeFor_21 rfl (lv_at hl 1 rfl) ?_
        refine z_ild C G 2 rfl (vp_in_iff.mpr ⟨by omega, by omega⟩) dX9_placeFor_22 ?_
        refine lv_topi (fun v_37 ev_37 => ?_)
        subst ev_37
        refine lv_iconst (v := 2) hx hb dX9_placeFor_23 (by decide) ?_
        refine lv_icmp_ge (tgt := 36) hx hb dX9_placeFor_24 (by decide) (fun c_38 => ?_) (fun c_38 => ?_)
        · have c_38n : (2 : Int) ≤ (fk x.toNatClampNeg).toInt := (fa_le _ _).mp c_38
          refine lv_bipush (v := (-2)) hx hb dX9_placeFor_36 (by decide) ?_
          have hw_39 : bTold T t l0 l1 d0 d1 g0 g1 ln fl pl ft fk [(t, .inr (8, [.ref a1_23, .int ln, .int fl, .int pl, .ref a2_24, .ref a3_25, .ref a4_26, .ref a5_27])), (a1_23, .inl (T.2 1, 600, .inl ft)), (a2_24, .inl (T.2 0, 3, .inl fk)), (a3_25, .inl (T.2 3, 2, .inr (.inr (.inr (.inr q1_28))))), (a4_26, .inl (T.2 4, 2, .inr (.inr (.inr (.inr q2_29))))), (a5_27, .inl (T.2 5, 2, .inr (.inr (.inr (.inr q3_30)))))] := ⟨a1_23, a2_24, a3_25, a4_26, a5_27, q1_28, q2_29, q3_30, rfl, h_31, h_32, h_33, h_34, h_35, h_36⟩
          have G : zS T A s.heap s [[(t, .inr (8, [.ref a1_23, .int ln, .int fl, .int pl, .ref a2_24, .ref a3_25, .ref a4_26, .ref a5_27])), (a1_23, .inl (T.2 1, 600, .inl ft)), (a2_24, .inl (T.2 0, 3, .inl fk)), (a3_25, .inl (T.2 3, 2, .inr (.inr (.inr (.inr q1_28))))), (a4_26, .inl (T.2 4, 2, .inr (.inr (.inr (.inr q2_29))))), (a5_27, .inl (T.2 5, 2, .inr (.inr (.inr (.inr q3_30)))))]] _ _ := G.re rfl
          exact z_iret C hr hlocks G (Nat.le_of_ble_eq_true rfl) (Nat.le_of_ble_eq_true rfl) dX9_placeFor_38 ⟨rfl, (by first | exact Or.inl (by decide) | exact Or.inr ⟨by omega, by omega⟩)⟩
        · have c_38n : ¬ (2 : Int) ≤ (fk x.toNatClampNeg).toInt := fun q => c_38 ((fa_le _ _).mpr q)
          refine lv_aload_n hx hb dX9_placeFor_27 rfl (lv_at hl 0 rfl) ?_
          refine z_get C G clX9 0 rfl 4 (by decide) m_fl_RX9_19 rfl dX9_placeFor_28 ?_
          refine lv_iload_n hx hb dX9_placeFor_31 rfl (lv_at hl 1 rfl) ?_
          refine z_ild C G 2 rfl (vp_in_iff.mpr ⟨by omega, by omega⟩) dX9_placeFor_32 ?_
          refine lv_topi (fun v_40 ev_40 => ?_)
          subst ev_40
          refine lv_goto (tgt := 38) hx hb dX9_placeFor_33 (by decide) ?_
          have hw_41 : bTold T t l0 l1 d0 d1 g0 g1 ln fl pl ft fk [(t, .inr (8, [.ref a1_23, .int ln, .int fl, .int pl, .ref a2_24, .ref a3_25, .ref a4_26, .ref a5_27])), (a1_23, .inl (T.2 1, 600, .inl ft)), (a2_24, .inl (T.2 0, 3, .inl fk)), (a3_25, .inl (T.2 3, 2, .inr (.inr (.inr (.inr q1_28))))), (a4_26, .inl (T.2 4, 2, .inr (.inr (.inr (.inr q2_29))))), (a5_27, .inl (T.2 5, 2, .inr (.inr (.inr (.inr q3_30)))))] := ⟨a1_23, a2_24, a3_25, a4_26, a5_27, q1_28, q2_29, q3_30, rfl, h_31, h_32, h_33, h_34, h_35, h_36⟩
          have G : zS T A s.heap s [[(t, .inr (8, [.ref a1_23, .int ln, .int fl, .int pl, .ref a2_24, .ref a3_25, .ref a4_26, .ref a5_27])), (a1_23, .inl (T.2 1, 600, .inl ft)), (a2_24, .inl (T.2 0, 3, .inl fk)), (a3_25, .inl (T.2 3, 2, .inr (.inr (.inr (.inr q1_28))))), (a4_26, .inl (T.2 4, 2, .inr (.inr (.inr (.inr q2_29))))), (a5_27, .inl (T.2 5, 2, .inr (.inr (.inr (.inr q3_30)))))]] _ _ := G.re rfl
          exact z_iret C hr hlocks G (Nat.le_of_ble_eq_true rfl) (Nat.le_of_ble_eq_true rfl) dX9_placeFor_38 ⟨rfl, (by first | exact Or.inl (by decide) | exact Or.inr ⟨by omega, by omega⟩)⟩
    · have c_2n : ¬ x.toInt ≤ (2 : Int) := fun q => c_2 ((fa_le _ _).mpr q)
      refine lv_bipush (v := (-2)) hx hb dX9_placeFor_9 (by decide) ?_
      exact z_iret C hr hlocks G (Nat.le_of_ble_eq_true rfl) (Nat.le_of_ble_eq_true rfl) dX9_placeFor_11 ⟨rfl, (by first | exact Or.inl (by decide) | exact Or.inr ⟨by omega, by omega⟩)⟩
set_option maxHeartbeats 4000000 in
set_option maxRecDepth 100000 in
/-- c_landAt -/
theorem c_landAt (l : Launch) (T : zTy) (t : Nat) (l0 : Nat) (l1 : Nat) (d0 : Nat) (d1 : Nat) (g0 : Nat) (g1 : Nat) (ln : Int32) (fl : Int32) (pl : Int32) (ft : Nat → Int32) (fk : Nat → Int32) (wt : va_W) (x : Int32) (ht : bTold T t l0 l1 d0 d1 g0 g1 ln fl pl ft fk wt) : zMq l T yX9_landAt cX9_landAt 2 (some (.object "TurnedPosts$Land")) 1 0 0 [.ref t, .int x] [wt] (fun (r : Option Nat) bs => bs = [wt] ∧ ((r = none ∧ (x.toInt < 0 ∨ (fk 0).toInt ≤ x.toInt ∨ 2 ≤ x.toInt)) ∨ (r = some l0 ∧ x.toInt = 0 ∧ 0 < (fk 0).toInt) ∨ (r = some l1 ∧ x.toInt = 1 ∧ 1 < (fk 0).toInt))) := by
  refine zMq_of (own := RX9) (by decide) rfl (Nat.le_of_ble_eq_true rfl) ?_
  intro p e s m args below meth c A ls C hr hlocks hnm hAe G hl
  have hx := C.1
  have hb := C.2.1
  have hl : lv_has ls 2 [(0, .ref t), (1, .int x)] := hl
  refine lv_iload_n hx hb dX9_landAt_0 rfl (lv_at hl 1 rfl) ?_
  refine lv_if_lt (tgt := 28) hx hb dX9_landAt_1 (by decide) (fun c_1 => ?_) (fun c_1 => ?_)
  · have c_1n : x.toInt < (0 : Int) := (fa_lt _ _).mp c_1
    refine lv_null hx hb dX9_landAt_28 ?_
    exact z_aret (r := none) C hr (Or.inl ⟨_, rfl⟩) hlocks G (Nat.le_of_ble_eq_true rfl) (Nat.le_of_ble_eq_true rfl) dX9_landAt_29 ⟨rfl, (Or.inl (⟨rfl, (by first | assumption | omega)⟩))⟩
  · have c_1n : ¬ x.toInt < (0 : Int) := fun q => c_1 ((fa_lt _ _).mpr q)
    refine lv_iload_n hx hb dX9_landAt_4 rfl (lv_at hl 1 rfl) ?_
    refine lv_aload_n hx hb dX9_landAt_5 rfl (lv_at hl 0 rfl) ?_
    obtain ⟨a1_2, a2_3, a3_4, a4_5, a5_6, q1_7, q2_8, q3_9, rfl, h_10, h_11, h_12, h_13, h_14, h_15⟩ := ht
    have G : zS T A s.heap s [[(t, .inr (8, [.ref a1_2, .int ln, .int fl, .int pl, .ref a2_3, .ref a3_4, .ref a4_5, .ref a5_6]))], [(a1_2, .inl (T.2 1, 600, .inl ft))], [(a2_3, .inl (T.2 0, 3, .inl fk))], [(a3_4, .inl (T.2 3, 2, .inr (.inr (.inr (.inr q1_7)))))], [(a4_5, .inl (T.2 4, 2, .inr (.inr (.inr (.inr q2_8)))))], [(a5_6, .inl (T.2 5, 2, .inr (.inr (.inr (.inr q3_9)))))]] _ _ := G.re rfl
    refine z_get C G clX9 0 rfl 4 (by decide) m_fl_RX9_19 rfl dX9_landAt_6 ?_
    refine lv_iconst (v := 0) hx hb dX9_landAt_9 (by decide) ?_
    refine z_ild C G 2 rfl (vp_in_nI (n := 0) (by decide) (by decide)) dX9_landAt_10 ?_
    refine lv_topi (fun v_16 ev_16 => ?_)
    rw [show ((0 : Int32).toNatClampNeg) = 0 from rfl] at ev_16
    subst ev_16
    refine lv_icmp_ge (tgt := 28) hx hb dX9_landAt_11 (by decide) (fun c_17 => ?_) (fun c_17 => ?_)
    · have c_17n : (fk 0).toInt ≤ x.toInt := (fa_le _ _).mp c_17
      refine lv_null hx hb dX9_landAt_28 ?_
      have hw_18 : bTold T t l0 l1 d0 d1 g0 g1 ln fl pl ft fk [(t, .inr (8, [.ref a1_2, .int ln, .int fl, .int pl, .ref a2_3, .ref a3_4, .ref a4_5, .ref a5_6])), (a1_2, .inl (T.2 1, 600, .inl ft)), (a2_3, .inl (T.2 0, 3, .inl fk)), (a3_4, .inl (T.2 3, 2, .inr (.inr (.inr (.inr q1_7))))), (a4_5, .inl (T.2 4, 2, .inr (.inr (.inr (.inr q2_8))))), (a5_6, .inl (T.2 5, 2, .inr (.inr (.inr (.inr q3_9)))))] := ⟨a1_2, a2_3, a3_4, a4_5, a5_6, q1_7, q2_8, q3_9, rfl, h_10, h_11, h_12, h_13, h_14, h_15⟩
      have G : zS T A s.heap s [[(t, .inr (8, [.ref a1_2, .int ln, .int fl, .int pl, .ref a2_3, .ref a3_4, .ref a4_5, .ref a5_6])), (a1_2, .inl (T.2 1, 600, .inl ft)), (a2_3, .inl (T.2 0, 3, .inl fk)), (a3_4, .inl (T.2 3, 2, .inr (.inr (.inr (.inr q1_7))))), (a4_5, .inl (T.2 4, 2, .inr (.inr (.inr (.inr q2_8))))), (a5_6, .inl (T.2 5, 2, .inr (.inr (.inr (.inr q3_9)))))]] _ _ := G.re rfl
      exact z_aret (r := none) C hr (Or.inl ⟨_, rfl⟩) hlocks G (Nat.le_of_ble_eq_true rfl) (Nat.le_of_ble_eq_true rfl) dX9_landAt_29 ⟨rfl, (Or.inl (⟨rfl, (by first | assumption | omega)⟩))⟩
    · have c_17n : ¬ (fk 0).toInt ≤ x.toInt := fun q => c_17 ((fa_le _ _).mpr q)
      refine lv_iload_n hx hb dX9_landAt_14 rfl (lv_at hl 1 rfl) ?_
      refine lv_iconst (v := 2) hx hb dX9_landAt_15 (by decide) ?_
      refine lv_icmp_ge (tgt := 28) hx hb dX9_landAt_16 (by decide) (fun c_19 => ?_) (fun c_19 => ?_)
      · have c_19n : (2 : Int) ≤ x.toInt := (fa_le _ _).mp c_19
        refine lv_null hx hb dX9_landAt_28 ?_
        have hw_20 : bTold T t l0 l1 d0 d1 g0 g1 ln fl pl ft fk [(t, .inr (8, [.ref a1_2, .int ln, .int fl, .int pl, .ref a2_3, .ref a3_4, .ref a4_5, .ref a5_6])), (a1_2, .inl (T.2 1, 600, .inl ft)), (a2_3, .inl (T.2 0, 3, .inl fk)), (a3_4, .inl (T.2 3, 2, .inr (.inr (.inr (.inr q1_7))))), (a4_5, .inl (T.2 4, 2, .inr (.inr (.inr (.inr q2_8))))), (a5_6, .inl (T.2 5, 2, .inr (.inr (.inr (.inr q3_9)))))] := ⟨a1_2, a2_3, a3_4, a4_5, a5_6, q1_7, q2_8, q3_9, rfl, h_10, h_11, h_12, h_13, h_14, h_15⟩
        have G : zS T A s.heap s [[(t, .inr (8, [.ref a1_2, .int ln, .int fl, .int pl, .ref a2_3, .ref a3_4, .ref a4_5, .ref a5_6])), (a1_2, .inl (T.2 1, 600, .inl ft)), (a2_3, .inl (T.2 0, 3, .inl fk)), (a3_4, .inl (T.2 3, 2, .inr (.inr (.inr (.inr q1_7))))), (a4_5, .inl (T.2 4, 2, .inr (.inr (.inr (.inr q2_8))))), (a5_6, .inl (T.2 5, 2, .inr (.inr (.inr (.inr q3_9)))))]] _ _ := G.re rfl
        exact z_aret (r := none) C hr (Or.inl ⟨_, rfl⟩) hlocks G (Nat.le_of_ble_eq_true rfl) (Nat.le_of_ble_eq_true rfl) dX9_landAt_29 ⟨rfl, (Or.inl (⟨rfl, (by first | assumption | omega)⟩))⟩
      · have c_19n : ¬ (2 : Int) ≤ x.toInt := fun q => c_19 ((fa_le _ _).mpr q)
        refine lv_aload_n hx hb dX9_landAt_19 rfl (lv_at hl 0 rfl) ?_
        refine z_get C G clX9 0 rfl 5 (by decide) m_fl_RX9_26 rfl dX9_landAt_20 ?_
        refine lv_iload_n hx hb dX9_landAt_23 rfl (lv_at hl 1 rfl) ?_
        rcases (show x.toInt = 0 ∨ x.toInt = 1 from by omega) with hx0 | hx1
        · have hxk := hx0
          refine z_ald C G 3 3 rfl rfl (vp_in_iff.mpr ⟨by omega, by omega⟩) dX9_landAt_24 ?_
          rw [show q1_7 (x.toNatClampNeg) = some l0 from by rw [show x.toNatClampNeg = 0 from by show x.toInt.toNat = 0; omega]; exact h_10]
          refine lv_goto (tgt := 29) hx hb dX9_landAt_25 (by decide) ?_
          have hw_21 : bTold T t l0 l1 d0 d1 g0 g1 ln fl pl ft fk [(t, .inr (8, [.ref a1_2, .int ln, .int fl, .int pl, .ref a2_3, .ref a3_4, .ref a4_5, .ref a5_6])), (a1_2, .inl (T.2 1, 600, .inl ft)), (a2_3, .inl (T.2 0, 3, .inl fk)), (a3_4, .inl (T.2 3, 2, .inr (.inr (.inr (.inr q1_7))))), (a4_5, .inl (T.2 4, 2, .inr (.inr (.inr (.inr q2_8))))), (a5_6, .inl (T.2 5, 2, .inr (.inr (.inr (.inr q3_9)))))] := ⟨a1_2, a2_3, a3_4, a4_5, a5_6, q1_7, q2_8, q3_9, rfl, h_10, h_11, h_12, h_13, h_14, h_15⟩
          have G : zS T A s.heap s [[(t, .inr (8, [.ref a1_2, .int ln, .int fl, .int pl, .ref a2_3, .ref a3_4, .ref a4_5, .ref a5_6])), (a1_2, .inl (T.2 1, 600, .inl ft)), (a2_3, .inl (T.2 0, 3, .inl fk)), (a3_4, .inl (T.2 3, 2, .inr (.inr (.inr (.inr q1_7))))), (a4_5, .inl (T.2 4, 2, .inr (.inr (.inr (.inr q2_8))))), (a5_6, .inl (T.2 5, 2, .inr (.inr (.inr (.inr q3_9)))))]] _ _ := G.re rfl
          exact z_aret (r := (some l0)) C hr (Or.inl ⟨_, rfl⟩) hlocks G (Nat.le_of_ble_eq_true rfl) (Nat.le_of_ble_eq_true rfl) dX9_landAt_29 ⟨rfl, (Or.inr (Or.inl (⟨rfl, (by first | assumption | omega), (by first | assumption | omega)⟩)))⟩
        · have hxk := hx1
          refine z_ald C G 3 3 rfl rfl (vp_in_iff.mpr ⟨by omega, by omega⟩) dX9_landAt_24 ?_
          rw [show q1_7 (x.toNatClampNeg) = some l1 from by rw [show x.toNatClampNeg = 1 from by show x.toInt.toNat = 1; omega]; exact h_11]
          refine lv_goto (tgt := 29) hx hb dX9_landAt_25 (by decide) ?_
          have hw_22 : bTold T t l0 l1 d0 d1 g0 g1 ln fl pl ft fk [(t, .inr (8, [.ref a1_2, .int ln, .int fl, .int pl, .ref a2_3, .ref a3_4, .ref a4_5, .ref a5_6])), (a1_2, .inl (T.2 1, 600, .inl ft)), (a2_3, .inl (T.2 0, 3, .inl fk)), (a3_4, .inl (T.2 3, 2, .inr (.inr (.inr (.inr q1_7))))), (a4_5, .inl (T.2 4, 2, .inr (.inr (.inr (.inr q2_8))))), (a5_6, .inl (T.2 5, 2, .inr (.inr (.inr (.inr q3_9)))))] := ⟨a1_2, a2_3, a3_4, a4_5, a5_6, q1_7, q2_8, q3_9, rfl, h_10, h_11, h_12, h_13, h_14, h_15⟩
          have G : zS T A s.heap s [[(t, .inr (8, [.ref a1_2, .int ln, .int fl, .int pl, .ref a2_3, .ref a3_4, .ref a4_5, .ref a5_6])), (a1_2, .inl (T.2 1, 600, .inl ft)), (a2_3, .inl (T.2 0, 3, .inl fk)), (a3_4, .inl (T.2 3, 2, .inr (.inr (.inr (.inr q1_7))))), (a4_5, .inl (T.2 4, 2, .inr (.inr (.inr (.inr q2_8))))), (a5_6, .inl (T.2 5, 2, .inr (.inr (.inr (.inr q3_9)))))]] _ _ := G.re rfl
          exact z_aret (r := (some l1)) C hr (Or.inl ⟨_, rfl⟩) hlocks G (Nat.le_of_ble_eq_true rfl) (Nat.le_of_ble_eq_true rfl) dX9_landAt_29 ⟨rfl, (Or.inr (Or.inr (⟨rfl, (by first | assumption | omega), (by first | assumption | omega)⟩)))⟩
set_option maxHeartbeats 4000000 in
set_option maxRecDepth 100000 in
/-- c_dayAt -/
theorem c_dayAt (l : Launch) (T : zTy) (t : Nat) (l0 : Nat) (l1 : Nat) (d0 : Nat) (d1 : Nat) (g0 : Nat) (g1 : Nat) (ln : Int32) (fl : Int32) (pl : Int32) (ft : Nat → Int32) (fk : Nat → Int32) (wt : va_W) (x : Int32) (ht : bTold T t l0 l1 d0 d1 g0 g1 ln fl pl ft fk wt) : zMq l T yX9_dayAt cX9_dayAt 2 (some (.object "TurnedPosts$Day")) 1 0 0 [.ref t, .int x] [wt] (fun (r : Option Nat) bs => bs = [wt] ∧ ((r = none ∧ (x.toInt < 0 ∨ (fk 1).toInt ≤ x.toInt ∨ 2 ≤ x.toInt)) ∨ (r = some d0 ∧ x.toInt = 0 ∧ 0 < (fk 1).toInt) ∨ (r = some d1 ∧ x.toInt = 1 ∧ 1 < (fk 1).toInt))) := by
  refine zMq_of (own := RX9) (by decide) rfl (Nat.le_of_ble_eq_true rfl) ?_
  intro p e s m args below meth c A ls C hr hlocks hnm hAe G hl
  have hx := C.1
  have hb := C.2.1
  have hl : lv_has ls 2 [(0, .ref t), (1, .int x)] := hl
  refine lv_iload_n hx hb dX9_dayAt_0 rfl (lv_at hl 1 rfl) ?_
  refine lv_if_lt (tgt := 28) hx hb dX9_dayAt_1 (by decide) (fun c_1 => ?_) (fun c_1 => ?_)
  · have c_1n : x.toInt < (0 : Int) := (fa_lt _ _).mp c_1
    refine lv_null hx hb dX9_dayAt_28 ?_
    exact z_aret (r := none) C hr (Or.inl ⟨_, rfl⟩) hlocks G (Nat.le_of_ble_eq_true rfl) (Nat.le_of_ble_eq_true rfl) dX9_dayAt_29 ⟨rfl, (Or.inl (⟨rfl, (by first | assumption | omega)⟩))⟩
  · have c_1n : ¬ x.toInt < (0 : Int) := fun q => c_1 ((fa_lt _ _).mpr q)
    refine lv_iload_n hx hb dX9_dayAt_4 rfl (lv_at hl 1 rfl) ?_
    refine lv_aload_n hx hb dX9_dayAt_5 rfl (lv_at hl 0 rfl) ?_
    obtain ⟨a1_2, a2_3, a3_4, a4_5, a5_6, q1_7, q2_8, q3_9, rfl, h_10, h_11, h_12, h_13, h_14, h_15⟩ := ht
    have G : zS T A s.heap s [[(t, .inr (8, [.ref a1_2, .int ln, .int fl, .int pl, .ref a2_3, .ref a3_4, .ref a4_5, .ref a5_6]))], [(a1_2, .inl (T.2 1, 600, .inl ft))], [(a2_3, .inl (T.2 0, 3, .inl fk))], [(a3_4, .inl (T.2 3, 2, .inr (.inr (.inr (.inr q1_7)))))], [(a4_5, .inl (T.2 4, 2, .inr (.inr (.inr (.inr q2_8)))))], [(a5_6, .inl (T.2 5, 2, .inr (.inr (.inr (.inr q3_9)))))]] _ _ := G.re rfl
    refine z_get C G clX9 0 rfl 4 (by decide) m_fl_RX9_19 rfl dX9_dayAt_6 ?_
    refine lv_iconst (v := 1) hx hb dX9_dayAt_9 (by decide) ?_
    refine z_ild C G 2 rfl (vp_in_nI (n := 1) (by decide) (by decide)) dX9_dayAt_10 ?_
    refine lv_topi (fun v_16 ev_16 => ?_)
    rw [show ((1 : Int32).toNatClampNeg) = 1 from rfl] at ev_16
    subst ev_16
    refine lv_icmp_ge (tgt := 28) hx hb dX9_dayAt_11 (by decide) (fun c_17 => ?_) (fun c_17 => ?_)
    · have c_17n : (fk 1).toInt ≤ x.toInt := (fa_le _ _).mp c_17
      refine lv_null hx hb dX9_dayAt_28 ?_
      have hw_18 : bTold T t l0 l1 d0 d1 g0 g1 ln fl pl ft fk [(t, .inr (8, [.ref a1_2, .int ln, .int fl, .int pl, .ref a2_3, .ref a3_4, .ref a4_5, .ref a5_6])), (a1_2, .inl (T.2 1, 600, .inl ft)), (a2_3, .inl (T.2 0, 3, .inl fk)), (a3_4, .inl (T.2 3, 2, .inr (.inr (.inr (.inr q1_7))))), (a4_5, .inl (T.2 4, 2, .inr (.inr (.inr (.inr q2_8))))), (a5_6, .inl (T.2 5, 2, .inr (.inr (.inr (.inr q3_9)))))] := ⟨a1_2, a2_3, a3_4, a4_5, a5_6, q1_7, q2_8, q3_9, rfl, h_10, h_11, h_12, h_13, h_14, h_15⟩
      have G : zS T A s.heap s [[(t, .inr (8, [.ref a1_2, .int ln, .int fl, .int pl, .ref a2_3, .ref a3_4, .ref a4_5, .ref a5_6])), (a1_2, .inl (T.2 1, 600, .inl ft)), (a2_3, .inl (T.2 0, 3, .inl fk)), (a3_4, .inl (T.2 3, 2, .inr (.inr (.inr (.inr q1_7))))), (a4_5, .inl (T.2 4, 2, .inr (.inr (.inr (.inr q2_8))))), (a5_6, .inl (T.2 5, 2, .inr (.inr (.inr (.inr q3_9)))))]] _ _ := G.re rfl
      exact z_aret (r := none) C hr (Or.inl ⟨_, rfl⟩) hlocks G (Nat.le_of_ble_eq_true rfl) (Nat.le_of_ble_eq_true rfl) dX9_dayAt_29 ⟨rfl, (Or.inl (⟨rfl, (by first | assumption | omega)⟩))⟩
    · have c_17n : ¬ (fk 1).toInt ≤ x.toInt := fun q => c_17 ((fa_le _ _).mpr q)
      refine lv_iload_n hx hb dX9_dayAt_14 rfl (lv_at hl 1 rfl) ?_
      refine lv_iconst (v := 2) hx hb dX9_dayAt_15 (by decide) ?_
      refine lv_icmp_ge (tgt := 28) hx hb dX9_dayAt_16 (by decide) (fun c_19 => ?_) (fun c_19 => ?_)
      · have c_19n : (2 : Int) ≤ x.toInt := (fa_le _ _).mp c_19
        refine lv_null hx hb dX9_dayAt_28 ?_
        have hw_20 : bTold T t l0 l1 d0 d1 g0 g1 ln fl pl ft fk [(t, .inr (8, [.ref a1_2, .int ln, .int fl, .int pl, .ref a2_3, .ref a3_4, .ref a4_5, .ref a5_6])), (a1_2, .inl (T.2 1, 600, .inl ft)), (a2_3, .inl (T.2 0, 3, .inl fk)), (a3_4, .inl (T.2 3, 2, .inr (.inr (.inr (.inr q1_7))))), (a4_5, .inl (T.2 4, 2, .inr (.inr (.inr (.inr q2_8))))), (a5_6, .inl (T.2 5, 2, .inr (.inr (.inr (.inr q3_9)))))] := ⟨a1_2, a2_3, a3_4, a4_5, a5_6, q1_7, q2_8, q3_9, rfl, h_10, h_11, h_12, h_13, h_14, h_15⟩
        have G : zS T A s.heap s [[(t, .inr (8, [.ref a1_2, .int ln, .int fl, .int pl, .ref a2_3, .ref a3_4, .ref a4_5, .ref a5_6])), (a1_2, .inl (T.2 1, 600, .inl ft)), (a2_3, .inl (T.2 0, 3, .inl fk)), (a3_4, .inl (T.2 3, 2, .inr (.inr (.inr (.inr q1_7))))), (a4_5, .inl (T.2 4, 2, .inr (.inr (.inr (.inr q2_8))))), (a5_6, .inl (T.2 5, 2, .inr (.inr (.inr (.inr q3_9)))))]] _ _ := G.re rfl
        exact z_aret (r := none) C hr (Or.inl ⟨_, rfl⟩) hlocks G (Nat.le_of_ble_eq_true rfl) (Nat.le_of_ble_eq_true rfl) dX9_dayAt_29 ⟨rfl, (Or.inl (⟨rfl, (by first | assumption | omega)⟩))⟩
      · have c_19n : ¬ (2 : Int) ≤ x.toInt := fun q => c_19 ((fa_le _ _).mpr q)
        refine lv_aload_n hx hb dX9_dayAt_19 rfl (lv_at hl 0 rfl) ?_
        refine z_get C G clX9 0 rfl 6 (by decide) m_fl_RX9_33 rfl dX9_dayAt_20 ?_
        refine lv_iload_n hx hb dX9_dayAt_23 rfl (lv_at hl 1 rfl) ?_
        rcases (show x.toInt = 0 ∨ x.toInt = 1 from by omega) with hx0 | hx1
        · have hxk := hx0
          refine z_ald C G 4 4 rfl rfl (vp_in_iff.mpr ⟨by omega, by omega⟩) dX9_dayAt_24 ?_
          rw [show q2_8 (x.toNatClampNeg) = some d0 from by rw [show x.toNatClampNeg = 0 from by show x.toInt.toNat = 0; omega]; exact h_12]
          refine lv_goto (tgt := 29) hx hb dX9_dayAt_25 (by decide) ?_
          have hw_21 : bTold T t l0 l1 d0 d1 g0 g1 ln fl pl ft fk [(t, .inr (8, [.ref a1_2, .int ln, .int fl, .int pl, .ref a2_3, .ref a3_4, .ref a4_5, .ref a5_6])), (a1_2, .inl (T.2 1, 600, .inl ft)), (a2_3, .inl (T.2 0, 3, .inl fk)), (a3_4, .inl (T.2 3, 2, .inr (.inr (.inr (.inr q1_7))))), (a4_5, .inl (T.2 4, 2, .inr (.inr (.inr (.inr q2_8))))), (a5_6, .inl (T.2 5, 2, .inr (.inr (.inr (.inr q3_9)))))] := ⟨a1_2, a2_3, a3_4, a4_5, a5_6, q1_7, q2_8, q3_9, rfl, h_10, h_11, h_12, h_13, h_14, h_15⟩
          have G : zS T A s.heap s [[(t, .inr (8, [.ref a1_2, .int ln, .int fl, .int pl, .ref a2_3, .ref a3_4, .ref a4_5, .ref a5_6])), (a1_2, .inl (T.2 1, 600, .inl ft)), (a2_3, .inl (T.2 0, 3, .inl fk)), (a3_4, .inl (T.2 3, 2, .inr (.inr (.inr (.inr q1_7))))), (a4_5, .inl (T.2 4, 2, .inr (.inr (.inr (.inr q2_8))))), (a5_6, .inl (T.2 5, 2, .inr (.inr (.inr (.inr q3_9)))))]] _ _ := G.re rfl
          exact z_aret (r := (some d0)) C hr (Or.inl ⟨_, rfl⟩) hlocks G (Nat.le_of_ble_eq_true rfl) (Nat.le_of_ble_eq_true rfl) dX9_dayAt_29 ⟨rfl, (Or.inr (Or.inl (⟨rfl, (by first | assumption | omega), (by first | assumption | omega)⟩)))⟩
        · have hxk := hx1
          refine z_ald C G 4 4 rfl rfl (vp_in_iff.mpr ⟨by omega, by omega⟩) dX9_dayAt_24 ?_
          rw [show q2_8 (x.toNatClampNeg) = some d1 from by rw [show x.toNatClampNeg = 1 from by show x.toInt.toNat = 1; omega]; exact h_13]
          refine lv_goto (tgt := 29) hx hb dX9_dayAt_25 (by decide) ?_
          have hw_22 : bTold T t l0 l1 d0 d1 g0 g1 ln fl pl ft fk [(t, .inr (8, [.ref a1_2, .int ln, .int fl, .int pl, .ref a2_3, .ref a3_4, .ref a4_5, .ref a5_6])), (a1_2, .inl (T.2 1, 600, .inl ft)), (a2_3, .inl (T.2 0, 3, .inl fk)), (a3_4, .inl (T.2 3, 2, .inr (.inr (.inr (.inr q1_7))))), (a4_5, .inl (T.2 4, 2, .inr (.inr (.inr (.inr q2_8))))), (a5_6, .inl (T.2 5, 2, .inr (.inr (.inr (.inr q3_9)))))] := ⟨a1_2, a2_3, a3_4, a4_5, a5_6, q1_7, q2_8, q3_9, rfl, h_10, h_11, h_12, h_13, h_14, h_15⟩
          have G : zS T A s.heap s [[(t, .inr (8, [.ref a1_2, .int ln, .int fl, .int pl, .ref a2_3, .ref a3_4, .ref a4_5, .ref a5_6])), (a1_2, .inl (T.2 1, 600, .inl ft)), (a2_3, .inl (T.2 0, 3, .inl fk)), (a3_4, .inl (T.2 3, 2, .inr (.inr (.inr (.inr q1_7))))), (a4_5, .inl (T.2 4, 2, .inr (.inr (.inr (.inr q2_8))))), (a5_6, .inl (T.2 5, 2, .inr (.inr (.inr (.inr q3_9)))))]] _ _ := G.re rfl
          exact z_aret (r := (some d1)) C hr (Or.inl ⟨_, rfl⟩) hlocks G (Nat.le_of_ble_eq_true rfl) (Nat.le_of_ble_eq_true rfl) dX9_dayAt_29 ⟨rfl, (Or.inr (Or.inr (⟨rfl, (by first | assumption | omega), (by first | assumption | omega)⟩)))⟩
set_option maxHeartbeats 4000000 in
set_option maxRecDepth 100000 in
/-- c_logAt -/
theorem c_logAt (l : Launch) (T : zTy) (t : Nat) (l0 : Nat) (l1 : Nat) (d0 : Nat) (d1 : Nat) (g0 : Nat) (g1 : Nat) (ln : Int32) (fl : Int32) (pl : Int32) (ft : Nat → Int32) (fk : Nat → Int32) (wt : va_W) (x : Int32) (ht : bTold T t l0 l1 d0 d1 g0 g1 ln fl pl ft fk wt) : zMq l T yX9_logAt cX9_logAt 2 (some (.object "TurnedPosts$Log")) 1 0 0 [.ref t, .int x] [wt] (fun (r : Option Nat) bs => bs = [wt] ∧ ((r = none ∧ (x.toInt < 0 ∨ (fk 2).toInt ≤ x.toInt ∨ 2 ≤ x.toInt)) ∨ (r = some g0 ∧ x.toInt = 0 ∧ 0 < (fk 2).toInt) ∨ (r = some g1 ∧ x.toInt = 1 ∧ 1 < (fk 2).toInt))) := by
  refine zMq_of (own := RX9) (by decide) rfl (Nat.le_of_ble_eq_true rfl) ?_
  intro p e s m args below meth c A ls C hr hlocks hnm hAe G hl
  have hx := C.1
  have hb := C.2.1
  have hl : lv_has ls 2 [(0, .ref t), (1, .int x)] := hl
  refine lv_iload_n hx hb dX9_logAt_0 rfl (lv_at hl 1 rfl) ?_
  refine lv_if_lt (tgt := 28) hx hb dX9_logAt_1 (by decide) (fun c_1 => ?_) (fun c_1 => ?_)
  · have c_1n : x.toInt < (0 : Int) := (fa_lt _ _).mp c_1
    refine lv_null hx hb dX9_logAt_28 ?_
    exact z_aret (r := none) C hr (Or.inl ⟨_, rfl⟩) hlocks G (Nat.le_of_ble_eq_true rfl) (Nat.le_of_ble_eq_true rfl) dX9_logAt_29 ⟨rfl, (Or.inl (⟨rfl, (by first | assumption | omega)⟩))⟩
  · have c_1n : ¬ x.toInt < (0 : Int) := fun q => c_1 ((fa_lt _ _).mpr q)
    refine lv_iload_n hx hb dX9_logAt_4 rfl (lv_at hl 1 rfl) ?_
    refine lv_aload_n hx hb dX9_logAt_5 rfl (lv_at hl 0 rfl) ?_
    obtain ⟨a1_2, a2_3, a3_4, a4_5, a5_6, q1_7, q2_8, q3_9, rfl, h_10, h_11, h_12, h_13, h_14, h_15⟩ := ht
    have G : zS T A s.heap s [[(t, .inr (8, [.ref a1_2, .int ln, .int fl, .int pl, .ref a2_3, .ref a3_4, .ref a4_5, .ref a5_6]))], [(a1_2, .inl (T.2 1, 600, .inl ft))], [(a2_3, .inl (T.2 0, 3, .inl fk))], [(a3_4, .inl (T.2 3, 2, .inr (.inr (.inr (.inr q1_7)))))], [(a4_5, .inl (T.2 4, 2, .inr (.inr (.inr (.inr q2_8)))))], [(a5_6, .inl (T.2 5, 2, .inr (.inr (.inr (.inr q3_9)))))]] _ _ := G.re rfl
    refine z_get C G clX9 0 rfl 4 (by decide) m_fl_RX9_19 rfl dX9_logAt_6 ?_
    refine lv_iconst (v := 2) hx hb dX9_logAt_9 (by decide) ?_
    refine z_ild C G 2 rfl (vp_in_nI (n := 2) (by decide) (by decide)) dX9_logAt_10 ?_
    refine lv_topi (fun v_16 ev_16 => ?_)
    rw [show ((2 : Int32).toNatClampNeg) = 2 from rfl] at ev_16
    subst ev_16
    refine lv_icmp_ge (tgt := 28) hx hb dX9_logAt_11 (by decide) (fun c_17 => ?_) (fun c_17 => ?_)
    · have c_17n : (fk 2).toInt ≤ x.toInt := (fa_le _ _).mp c_17
      refine lv_null hx hb dX9_logAt_28 ?_
      have hw_18 : bTold T t l0 l1 d0 d1 g0 g1 ln fl pl ft fk [(t, .inr (8, [.ref a1_2, .int ln, .int fl, .int pl, .ref a2_3, .ref a3_4, .ref a4_5, .ref a5_6])), (a1_2, .inl (T.2 1, 600, .inl ft)), (a2_3, .inl (T.2 0, 3, .inl fk)), (a3_4, .inl (T.2 3, 2, .inr (.inr (.inr (.inr q1_7))))), (a4_5, .inl (T.2 4, 2, .inr (.inr (.inr (.inr q2_8))))), (a5_6, .inl (T.2 5, 2, .inr (.inr (.inr (.inr q3_9)))))] := ⟨a1_2, a2_3, a3_4, a4_5, a5_6, q1_7, q2_8, q3_9, rfl, h_10, h_11, h_12, h_13, h_14, h_15⟩
      have G : zS T A s.heap s [[(t, .inr (8, [.ref a1_2, .int ln, .int fl, .int pl, .ref a2_3, .ref a3_4, .ref a4_5, .ref a5_6])), (a1_2, .inl (T.2 1, 600, .inl ft)), (a2_3, .inl (T.2 0, 3, .inl fk)), (a3_4, .inl (T.2 3, 2, .inr (.inr (.inr (.inr q1_7))))), (a4_5, .inl (T.2 4, 2, .inr (.inr (.inr (.inr q2_8))))), (a5_6, .inl (T.2 5, 2, .inr (.inr (.inr (.inr q3_9)))))]] _ _ := G.re rfl
      exact z_aret (r := none) C hr (Or.inl ⟨_, rfl⟩) hlocks G (Nat.le_of_ble_eq_true rfl) (Nat.le_of_ble_eq_true rfl) dX9_logAt_29 ⟨rfl, (Or.inl (⟨rfl, (by first | assumption | omega)⟩))⟩
    · have c_17n : ¬ (fk 2).toInt ≤ x.toInt := fun q => c_17 ((fa_le _ _).mpr q)
      refine lv_iload_n hx hb dX9_logAt_14 rfl (lv_at hl 1 rfl) ?_
      refine lv_iconst (v := 2) hx hb dX9_logAt_15 (by decide) ?_
      refine lv_icmp_ge (tgt := 28) hx hb dX9_logAt_16 (by decide) (fun c_19 => ?_) (fun c_19 => ?_)
      · have c_19n : (2 : Int) ≤ x.toInt := (fa_le _ _).mp c_19
        refine lv_null hx hb dX9_logAt_28 ?_
        have hw_20 : bTold T t l0 l1 d0 d1 g0 g1 ln fl pl ft fk [(t, .inr (8, [.ref a1_2, .int ln, .int fl, .int pl, .ref a2_3, .ref a3_4, .ref a4_5, .ref a5_6])), (a1_2, .inl (T.2 1, 600, .inl ft)), (a2_3, .inl (T.2 0, 3, .inl fk)), (a3_4, .inl (T.2 3, 2, .inr (.inr (.inr (.inr q1_7))))), (a4_5, .inl (T.2 4, 2, .inr (.inr (.inr (.inr q2_8))))), (a5_6, .inl (T.2 5, 2, .inr (.inr (.inr (.inr q3_9)))))] := ⟨a1_2, a2_3, a3_4, a4_5, a5_6, q1_7, q2_8, q3_9, rfl, h_10, h_11, h_12, h_13, h_14, h_15⟩
        have G : zS T A s.heap s [[(t, .inr (8, [.ref a1_2, .int ln, .int fl, .int pl, .ref a2_3, .ref a3_4, .ref a4_5, .ref a5_6])), (a1_2, .inl (T.2 1, 600, .inl ft)), (a2_3, .inl (T.2 0, 3, .inl fk)), (a3_4, .inl (T.2 3, 2, .inr (.inr (.inr (.inr q1_7))))), (a4_5, .inl (T.2 4, 2, .inr (.inr (.inr (.inr q2_8))))), (a5_6, .inl (T.2 5, 2, .inr (.inr (.inr (.inr q3_9)))))]] _ _ := G.re rfl
        exact z_aret (r := none) C hr (Or.inl ⟨_, rfl⟩) hlocks G (Nat.le_of_ble_eq_true rfl) (Nat.le_of_ble_eq_true rfl) dX9_logAt_29 ⟨rfl, (Or.inl (⟨rfl, (by first | assumption | omega)⟩))⟩
      · have c_19n : ¬ (2 : Int) ≤ x.toInt := fun q => c_19 ((fa_le _ _).mpr q)
        refine lv_aload_n hx hb dX9_logAt_19 rfl (lv_at hl 0 rfl) ?_
        refine z_get C G clX9 0 rfl 7 (by decide) m_fl_RX9_40 rfl dX9_logAt_20 ?_
        refine lv_iload_n hx hb dX9_logAt_23 rfl (lv_at hl 1 rfl) ?_
        rcases (show x.toInt = 0 ∨ x.toInt = 1 from by omega) with hx0 | hx1
        · have hxk := hx0
          refine z_ald C G 5 5 rfl rfl (vp_in_iff.mpr ⟨by omega, by omega⟩) dX9_logAt_24 ?_
          rw [show q3_9 (x.toNatClampNeg) = some g0 from by rw [show x.toNatClampNeg = 0 from by show x.toInt.toNat = 0; omega]; exact h_14]
          refine lv_goto (tgt := 29) hx hb dX9_logAt_25 (by decide) ?_
          have hw_21 : bTold T t l0 l1 d0 d1 g0 g1 ln fl pl ft fk [(t, .inr (8, [.ref a1_2, .int ln, .int fl, .int pl, .ref a2_3, .ref a3_4, .ref a4_5, .ref a5_6])), (a1_2, .inl (T.2 1, 600, .inl ft)), (a2_3, .inl (T.2 0, 3, .inl fk)), (a3_4, .inl (T.2 3, 2, .inr (.inr (.inr (.inr q1_7))))), (a4_5, .inl (T.2 4, 2, .inr (.inr (.inr (.inr q2_8))))), (a5_6, .inl (T.2 5, 2, .inr (.inr (.inr (.inr q3_9)))))] := ⟨a1_2, a2_3, a3_4, a4_5, a5_6, q1_7, q2_8, q3_9, rfl, h_10, h_11, h_12, h_13, h_14, h_15⟩
          have G : zS T A s.heap s [[(t, .inr (8, [.ref a1_2, .int ln, .int fl, .int pl, .ref a2_3, .ref a3_4, .ref a4_5, .ref a5_6])), (a1_2, .inl (T.2 1, 600, .inl ft)), (a2_3, .inl (T.2 0, 3, .inl fk)), (a3_4, .inl (T.2 3, 2, .inr (.inr (.inr (.inr q1_7))))), (a4_5, .inl (T.2 4, 2, .inr (.inr (.inr (.inr q2_8))))), (a5_6, .inl (T.2 5, 2, .inr (.inr (.inr (.inr q3_9)))))]] _ _ := G.re rfl
          exact z_aret (r := (some g0)) C hr (Or.inl ⟨_, rfl⟩) hlocks G (Nat.le_of_ble_eq_true rfl) (Nat.le_of_ble_eq_true rfl) dX9_logAt_29 ⟨rfl, (Or.inr (Or.inl (⟨rfl, (by first | assumption | omega), (by first | assumption | omega)⟩)))⟩
        · have hxk := hx1
          refine z_ald C G 5 5 rfl rfl (vp_in_iff.mpr ⟨by omega, by omega⟩) dX9_logAt_24 ?_
          rw [show q3_9 (x.toNatClampNeg) = some g1 from by rw [show x.toNatClampNeg = 1 from by show x.toInt.toNat = 1; omega]; exact h_15]
          refine lv_goto (tgt := 29) hx hb dX9_logAt_25 (by decide) ?_
          have hw_22 : bTold T t l0 l1 d0 d1 g0 g1 ln fl pl ft fk [(t, .inr (8, [.ref a1_2, .int ln, .int fl, .int pl, .ref a2_3, .ref a3_4, .ref a4_5, .ref a5_6])), (a1_2, .inl (T.2 1, 600, .inl ft)), (a2_3, .inl (T.2 0, 3, .inl fk)), (a3_4, .inl (T.2 3, 2, .inr (.inr (.inr (.inr q1_7))))), (a4_5, .inl (T.2 4, 2, .inr (.inr (.inr (.inr q2_8))))), (a5_6, .inl (T.2 5, 2, .inr (.inr (.inr (.inr q3_9)))))] := ⟨a1_2, a2_3, a3_4, a4_5, a5_6, q1_7, q2_8, q3_9, rfl, h_10, h_11, h_12, h_13, h_14, h_15⟩
          have G : zS T A s.heap s [[(t, .inr (8, [.ref a1_2, .int ln, .int fl, .int pl, .ref a2_3, .ref a3_4, .ref a4_5, .ref a5_6])), (a1_2, .inl (T.2 1, 600, .inl ft)), (a2_3, .inl (T.2 0, 3, .inl fk)), (a3_4, .inl (T.2 3, 2, .inr (.inr (.inr (.inr q1_7))))), (a4_5, .inl (T.2 4, 2, .inr (.inr (.inr (.inr q2_8))))), (a5_6, .inl (T.2 5, 2, .inr (.inr (.inr (.inr q3_9)))))]] _ _ := G.re rfl
          exact z_aret (r := (some g1)) C hr (Or.inl ⟨_, rfl⟩) hlocks G (Nat.le_of_ble_eq_true rfl) (Nat.le_of_ble_eq_true rfl) dX9_logAt_29 ⟨rfl, (Or.inr (Or.inr (⟨rfl, (by first | assumption | omega), (by first | assumption | omega)⟩)))⟩


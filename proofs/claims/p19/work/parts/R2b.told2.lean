set_option maxHeartbeats 4000000 in
set_option maxRecDepth 100000 in
/-- placeFor 0 -/
theorem c_f_placeFor0 (l : Launch) (T : zTy) (t : Nat) (l0 : Nat) (l1 : Nat) (d0 : Nat) (d1 : Nat) (g0 : Nat) (g1 : Nat) (ln : Int32) (fl : Int32) (pl : Int32) (ft : Nat → Int32) (fk : Nat → Int32) (wt : va_W) (y : Int32) (ht : bTold T t l0 l1 d0 d1 g0 g1 ln fl pl ft fk wt) : zMi l T yX9_placeFor cX9_placeFor 3 (some .int) 1 0 0 [.ref t, .int 0, .int y] [wt] (fun (r : Int32) bs => bs = [wt] ∧ (¬ pOkAt 0 y fk ∧ r.toInt = -2 ∨ pOkAt 0 y fk ∧ r = pNr 0 y fk)) := by
  refine zMi_of (own := RX9) (by decide) rfl (Nat.le_of_ble_eq_true rfl) ?_
  intro p e s m args below meth c A ls C hr hlocks hnm hAe G hl
  refine zHide (fun Q9 hQ9 => ?_)
  have hx := C.1
  have hb := C.2.1
  have hl : lv_has ls 3 [(0, .ref t), (1, .int 0), (2, .int y)] := hl
  refine lv_iload_n hx hb dX9_placeFor_0 rfl (lv_at hl 1 rfl) ?_
  refine lv_if_lt (tgt := 9) hx hb dX9_placeFor_1 (by decide) (fun q => absurd q (by decide)) (fun _ => ?_)
  refine lv_iload_n hx hb dX9_placeFor_4 rfl (lv_at hl 1 rfl) ?_
  refine lv_iconst (v := 2) hx hb dX9_placeFor_5 (by decide) ?_
  refine lv_icmp_le (tgt := 12) hx hb dX9_placeFor_6 (by decide) (fun _ => ?_) (fun q => absurd (by decide) q)
  refine lv_iload_n hx hb dX9_placeFor_12 rfl (lv_at hl 2 rfl) ?_
  refine lv_iconst (v := (-1)) hx hb dX9_placeFor_13 (by decide) ?_
  refine lv_icmp_ne (tgt := 39) hx hb dX9_placeFor_14 (by decide) (fun c_1 => ?_) (fun c_1 => ?_)
  · have c_1n : ¬ y.toInt = (-1 : Int) := fun q => c_1 ((fa_eq _ _).mpr q)
    refine lv_iload_n hx hb dX9_placeFor_39 rfl (lv_at hl 2 rfl) ?_
    refine lv_if_lt (tgt := 57) hx hb dX9_placeFor_40 (by decide) (fun c_2 => ?_) (fun c_2 => ?_)
    · have c_2n : y.toInt < (0 : Int) := (fa_lt _ _).mp c_2
      refine lv_bipush (v := (-2)) hx hb dX9_placeFor_57 (by decide) ?_
      exact z_back hQ9 (z_iret C hr hlocks G (Nat.le_of_ble_eq_true rfl) (Nat.le_of_ble_eq_true rfl) dX9_placeFor_59 ⟨rfl, (by first | exact Or.inl ⟨fun z9 => by have z8 := (pOkAt_y (by omega)).mp z9; omega, by decide⟩ | exact Or.inl ⟨fun z9 => by have z8 := (pOkAt_n (by omega)).mp z9; omega, by decide⟩)⟩)
    · have c_2n : ¬ y.toInt < (0 : Int) := fun q => c_2 ((fa_lt _ _).mpr q)
      refine lv_iload_n hx hb dX9_placeFor_43 rfl (lv_at hl 2 rfl) ?_
      refine lv_aload_n hx hb dX9_placeFor_44 rfl (lv_at hl 0 rfl) ?_
      refine zEx8 ht ?_
      intro a1_3 a2_4 a3_5 a4_6 a5_7 q1_8 q2_9 q3_10
      refine zCu7 ?_
      intro hbs9 h_11 h_12 h_13 h_14 h_15 h_16
      clear ht
      subst hbs9
      have G : zS T A s.heap s [[zO8 t a1_3 ln fl pl a2_4 a3_5 a4_6 a5_7], [zAr T 1 a1_3 600 ft], [zAr T 0 a2_4 3 fk], [zArq T 3 a3_5 2 q1_8], [zArq T 4 a4_6 2 q2_9], [zArq T 5 a5_7 2 q3_10]] _ _ := G.re rfl
      refine z_get C G clX9 0 rfl 4 (by decide) m_fl_RX9_19 rfl dX9_placeFor_45 ?_
      refine lv_iload_n hx hb dX9_placeFor_48 rfl (lv_at hl 1 rfl) ?_
      refine z_ild C G 2 rfl (vp_in_nI (n := 0) (by decide) (by decide)) dX9_placeFor_49 ?_
      refine lv_topi (fun v_17 ev_17 => ?_)
      rw [show ((0 : Int32).toNatClampNeg) = 0 from rfl] at ev_17
      subst ev_17
      refine lv_icmp_ge (tgt := 57) hx hb dX9_placeFor_50 (by decide) (fun c_18 => ?_) (fun c_18 => ?_)
      · have c_18n : (fk 0).toInt ≤ y.toInt := (fa_le _ _).mp c_18
        refine lv_bipush (v := (-2)) hx hb dX9_placeFor_57 (by decide) ?_
        have hw_19 : bTold T t l0 l1 d0 d1 g0 g1 ln fl pl ft fk [zO8 t a1_3 ln fl pl a2_4 a3_5 a4_6 a5_7, zAr T 1 a1_3 600 ft, zAr T 0 a2_4 3 fk, zArq T 3 a3_5 2 q1_8, zArq T 4 a4_6 2 q2_9, zArq T 5 a5_7 2 q3_10] := ⟨a1_3, a2_4, a3_5, a4_6, a5_7, q1_8, q2_9, q3_10, rfl, h_11, h_12, h_13, h_14, h_15, h_16⟩
        have G : zS T A s.heap s [[zO8 t a1_3 ln fl pl a2_4 a3_5 a4_6 a5_7, zAr T 1 a1_3 600 ft, zAr T 0 a2_4 3 fk, zArq T 3 a3_5 2 q1_8, zArq T 4 a4_6 2 q2_9, zArq T 5 a5_7 2 q3_10]] _ _ := G.re rfl
        exact z_back hQ9 (z_iret C hr hlocks G (Nat.le_of_ble_eq_true rfl) (Nat.le_of_ble_eq_true rfl) dX9_placeFor_59 ⟨rfl, (by first | exact Or.inl ⟨fun z9 => by have z8 := (pOkAt_y (by omega)).mp z9; omega, by decide⟩ | exact Or.inl ⟨fun z9 => by have z8 := (pOkAt_n (by omega)).mp z9; omega, by decide⟩)⟩)
      · have c_18n : ¬ (fk 0).toInt ≤ y.toInt := fun q => c_18 ((fa_le _ _).mpr q)
        refine lv_iload_n hx hb dX9_placeFor_53 rfl (lv_at hl 2 rfl) ?_
        refine lv_goto (tgt := 59) hx hb dX9_placeFor_54 (by decide) ?_
        have hw_20 : bTold T t l0 l1 d0 d1 g0 g1 ln fl pl ft fk [zO8 t a1_3 ln fl pl a2_4 a3_5 a4_6 a5_7, zAr T 1 a1_3 600 ft, zAr T 0 a2_4 3 fk, zArq T 3 a3_5 2 q1_8, zArq T 4 a4_6 2 q2_9, zArq T 5 a5_7 2 q3_10] := ⟨a1_3, a2_4, a3_5, a4_6, a5_7, q1_8, q2_9, q3_10, rfl, h_11, h_12, h_13, h_14, h_15, h_16⟩
        have G : zS T A s.heap s [[zO8 t a1_3 ln fl pl a2_4 a3_5 a4_6 a5_7, zAr T 1 a1_3 600 ft, zAr T 0 a2_4 3 fk, zArq T 3 a3_5 2 q1_8, zArq T 4 a4_6 2 q2_9, zArq T 5 a5_7 2 q3_10]] _ _ := G.re rfl
        exact z_back hQ9 (z_iret C hr hlocks G (Nat.le_of_ble_eq_true rfl) (Nat.le_of_ble_eq_true rfl) dX9_placeFor_59 ⟨rfl, (Or.inr ⟨(pOkAt_n (by omega)).mpr ⟨by omega, by omega⟩, (pNr_n (by omega)).symm⟩)⟩)
  · have c_1n : y.toInt = (-1 : Int) := (fa_eq _ _).mp c_1
    refine lv_aload_n hx hb dX9_placeFor_17 rfl (lv_at hl 0 rfl) ?_
    refine zEx8 ht ?_
    intro a1_21 a2_22 a3_23 a4_24 a5_25 q1_26 q2_27 q3_28
    refine zCu7 ?_
    intro hbs9 h_29 h_30 h_31 h_32 h_33 h_34
    clear ht
    subst hbs9
    have G : zS T A s.heap s [[zO8 t a1_21 ln fl pl a2_22 a3_23 a4_24 a5_25], [zAr T 1 a1_21 600 ft], [zAr T 0 a2_22 3 fk], [zArq T 3 a3_23 2 q1_26], [zArq T 4 a4_24 2 q2_27], [zArq T 5 a5_25 2 q3_28]] _ _ := G.re rfl
    refine z_get C G clX9 0 rfl 4 (by decide) m_fl_RX9_19 rfl dX9_placeFor_18 ?_
    refine lv_iload_n hx hb dX9_placeFor_21 rfl (lv_at hl 1 rfl) ?_
    refine z_ild C G 2 rfl (vp_in_nI (n := 0) (by decide) (by decide)) dX9_placeFor_22 ?_
    refine lv_topi (fun v_35 ev_35 => ?_)
    rw [show ((0 : Int32).toNatClampNeg) = 0 from rfl] at ev_35
    subst ev_35
    refine lv_iconst (v := 2) hx hb dX9_placeFor_23 (by decide) ?_
    refine lv_icmp_ge (tgt := 36) hx hb dX9_placeFor_24 (by decide) (fun c_36 => ?_) (fun c_36 => ?_)
    · have c_36n : (2 : Int) ≤ (fk 0).toInt := (fa_le _ _).mp c_36
      refine lv_bipush (v := (-2)) hx hb dX9_placeFor_36 (by decide) ?_
      have hw_37 : bTold T t l0 l1 d0 d1 g0 g1 ln fl pl ft fk [zO8 t a1_21 ln fl pl a2_22 a3_23 a4_24 a5_25, zAr T 1 a1_21 600 ft, zAr T 0 a2_22 3 fk, zArq T 3 a3_23 2 q1_26, zArq T 4 a4_24 2 q2_27, zArq T 5 a5_25 2 q3_28] := ⟨a1_21, a2_22, a3_23, a4_24, a5_25, q1_26, q2_27, q3_28, rfl, h_29, h_30, h_31, h_32, h_33, h_34⟩
      have G : zS T A s.heap s [[zO8 t a1_21 ln fl pl a2_22 a3_23 a4_24 a5_25, zAr T 1 a1_21 600 ft, zAr T 0 a2_22 3 fk, zArq T 3 a3_23 2 q1_26, zArq T 4 a4_24 2 q2_27, zArq T 5 a5_25 2 q3_28]] _ _ := G.re rfl
      exact z_back hQ9 (z_iret C hr hlocks G (Nat.le_of_ble_eq_true rfl) (Nat.le_of_ble_eq_true rfl) dX9_placeFor_38 ⟨rfl, (by first | exact Or.inl ⟨fun z9 => by have z8 := (pOkAt_y (by omega)).mp z9; omega, by decide⟩ | exact Or.inl ⟨fun z9 => by have z8 := (pOkAt_n (by omega)).mp z9; omega, by decide⟩)⟩)
    · have c_36n : ¬ (2 : Int) ≤ (fk 0).toInt := fun q => c_36 ((fa_le _ _).mpr q)
      refine lv_aload_n hx hb dX9_placeFor_27 rfl (lv_at hl 0 rfl) ?_
      refine z_get C G clX9 0 rfl 4 (by decide) m_fl_RX9_19 rfl dX9_placeFor_28 ?_
      refine lv_iload_n hx hb dX9_placeFor_31 rfl (lv_at hl 1 rfl) ?_
      refine z_ild C G 2 rfl (vp_in_nI (n := 0) (by decide) (by decide)) dX9_placeFor_32 ?_
      refine lv_topi (fun v_38 ev_38 => ?_)
      rw [show ((0 : Int32).toNatClampNeg) = 0 from rfl] at ev_38
      subst ev_38
      refine lv_goto (tgt := 38) hx hb dX9_placeFor_33 (by decide) ?_
      have hw_39 : bTold T t l0 l1 d0 d1 g0 g1 ln fl pl ft fk [zO8 t a1_21 ln fl pl a2_22 a3_23 a4_24 a5_25, zAr T 1 a1_21 600 ft, zAr T 0 a2_22 3 fk, zArq T 3 a3_23 2 q1_26, zArq T 4 a4_24 2 q2_27, zArq T 5 a5_25 2 q3_28] := ⟨a1_21, a2_22, a3_23, a4_24, a5_25, q1_26, q2_27, q3_28, rfl, h_29, h_30, h_31, h_32, h_33, h_34⟩
      have G : zS T A s.heap s [[zO8 t a1_21 ln fl pl a2_22 a3_23 a4_24 a5_25, zAr T 1 a1_21 600 ft, zAr T 0 a2_22 3 fk, zArq T 3 a3_23 2 q1_26, zArq T 4 a4_24 2 q2_27, zArq T 5 a5_25 2 q3_28]] _ _ := G.re rfl
      exact z_back hQ9 (z_iret C hr hlocks G (Nat.le_of_ble_eq_true rfl) (Nat.le_of_ble_eq_true rfl) dX9_placeFor_38 ⟨rfl, (Or.inr ⟨(pOkAt_y (by omega)).mpr (by omega), (pNr_y (by omega)).symm⟩)⟩)
set_option maxHeartbeats 4000000 in
set_option maxRecDepth 100000 in
/-- placeFor 1 -/
theorem c_f_placeFor1 (l : Launch) (T : zTy) (t : Nat) (l0 : Nat) (l1 : Nat) (d0 : Nat) (d1 : Nat) (g0 : Nat) (g1 : Nat) (ln : Int32) (fl : Int32) (pl : Int32) (ft : Nat → Int32) (fk : Nat → Int32) (wt : va_W) (y : Int32) (ht : bTold T t l0 l1 d0 d1 g0 g1 ln fl pl ft fk wt) : zMi l T yX9_placeFor cX9_placeFor 3 (some .int) 1 0 0 [.ref t, .int 1, .int y] [wt] (fun (r : Int32) bs => bs = [wt] ∧ (¬ pOkAt 1 y fk ∧ r.toInt = -2 ∨ pOkAt 1 y fk ∧ r = pNr 1 y fk)) := by
  refine zMi_of (own := RX9) (by decide) rfl (Nat.le_of_ble_eq_true rfl) ?_
  intro p e s m args below meth c A ls C hr hlocks hnm hAe G hl
  refine zHide (fun Q9 hQ9 => ?_)
  have hx := C.1
  have hb := C.2.1
  have hl : lv_has ls 3 [(0, .ref t), (1, .int 1), (2, .int y)] := hl
  refine lv_iload_n hx hb dX9_placeFor_0 rfl (lv_at hl 1 rfl) ?_
  refine lv_if_lt (tgt := 9) hx hb dX9_placeFor_1 (by decide) (fun q => absurd q (by decide)) (fun _ => ?_)
  refine lv_iload_n hx hb dX9_placeFor_4 rfl (lv_at hl 1 rfl) ?_
  refine lv_iconst (v := 2) hx hb dX9_placeFor_5 (by decide) ?_
  refine lv_icmp_le (tgt := 12) hx hb dX9_placeFor_6 (by decide) (fun _ => ?_) (fun q => absurd (by decide) q)
  refine lv_iload_n hx hb dX9_placeFor_12 rfl (lv_at hl 2 rfl) ?_
  refine lv_iconst (v := (-1)) hx hb dX9_placeFor_13 (by decide) ?_
  refine lv_icmp_ne (tgt := 39) hx hb dX9_placeFor_14 (by decide) (fun c_1 => ?_) (fun c_1 => ?_)
  · have c_1n : ¬ y.toInt = (-1 : Int) := fun q => c_1 ((fa_eq _ _).mpr q)
    refine lv_iload_n hx hb dX9_placeFor_39 rfl (lv_at hl 2 rfl) ?_
    refine lv_if_lt (tgt := 57) hx hb dX9_placeFor_40 (by decide) (fun c_2 => ?_) (fun c_2 => ?_)
    · have c_2n : y.toInt < (0 : Int) := (fa_lt _ _).mp c_2
      refine lv_bipush (v := (-2)) hx hb dX9_placeFor_57 (by decide) ?_
      exact z_back hQ9 (z_iret C hr hlocks G (Nat.le_of_ble_eq_true rfl) (Nat.le_of_ble_eq_true rfl) dX9_placeFor_59 ⟨rfl, (by first | exact Or.inl ⟨fun z9 => by have z8 := (pOkAt_y (by omega)).mp z9; omega, by decide⟩ | exact Or.inl ⟨fun z9 => by have z8 := (pOkAt_n (by omega)).mp z9; omega, by decide⟩)⟩)
    · have c_2n : ¬ y.toInt < (0 : Int) := fun q => c_2 ((fa_lt _ _).mpr q)
      refine lv_iload_n hx hb dX9_placeFor_43 rfl (lv_at hl 2 rfl) ?_
      refine lv_aload_n hx hb dX9_placeFor_44 rfl (lv_at hl 0 rfl) ?_
      refine zEx8 ht ?_
      intro a1_3 a2_4 a3_5 a4_6 a5_7 q1_8 q2_9 q3_10
      refine zCu7 ?_
      intro hbs9 h_11 h_12 h_13 h_14 h_15 h_16
      clear ht
      subst hbs9
      have G : zS T A s.heap s [[zO8 t a1_3 ln fl pl a2_4 a3_5 a4_6 a5_7], [zAr T 1 a1_3 600 ft], [zAr T 0 a2_4 3 fk], [zArq T 3 a3_5 2 q1_8], [zArq T 4 a4_6 2 q2_9], [zArq T 5 a5_7 2 q3_10]] _ _ := G.re rfl
      refine z_get C G clX9 0 rfl 4 (by decide) m_fl_RX9_19 rfl dX9_placeFor_45 ?_
      refine lv_iload_n hx hb dX9_placeFor_48 rfl (lv_at hl 1 rfl) ?_
      refine z_ild C G 2 rfl (vp_in_nI (n := 1) (by decide) (by decide)) dX9_placeFor_49 ?_
      refine lv_topi (fun v_17 ev_17 => ?_)
      rw [show ((1 : Int32).toNatClampNeg) = 1 from rfl] at ev_17
      subst ev_17
      refine lv_icmp_ge (tgt := 57) hx hb dX9_placeFor_50 (by decide) (fun c_18 => ?_) (fun c_18 => ?_)
      · have c_18n : (fk 1).toInt ≤ y.toInt := (fa_le _ _).mp c_18
        refine lv_bipush (v := (-2)) hx hb dX9_placeFor_57 (by decide) ?_
        have hw_19 : bTold T t l0 l1 d0 d1 g0 g1 ln fl pl ft fk [zO8 t a1_3 ln fl pl a2_4 a3_5 a4_6 a5_7, zAr T 1 a1_3 600 ft, zAr T 0 a2_4 3 fk, zArq T 3 a3_5 2 q1_8, zArq T 4 a4_6 2 q2_9, zArq T 5 a5_7 2 q3_10] := ⟨a1_3, a2_4, a3_5, a4_6, a5_7, q1_8, q2_9, q3_10, rfl, h_11, h_12, h_13, h_14, h_15, h_16⟩
        have G : zS T A s.heap s [[zO8 t a1_3 ln fl pl a2_4 a3_5 a4_6 a5_7, zAr T 1 a1_3 600 ft, zAr T 0 a2_4 3 fk, zArq T 3 a3_5 2 q1_8, zArq T 4 a4_6 2 q2_9, zArq T 5 a5_7 2 q3_10]] _ _ := G.re rfl
        exact z_back hQ9 (z_iret C hr hlocks G (Nat.le_of_ble_eq_true rfl) (Nat.le_of_ble_eq_true rfl) dX9_placeFor_59 ⟨rfl, (by first | exact Or.inl ⟨fun z9 => by have z8 := (pOkAt_y (by omega)).mp z9; omega, by decide⟩ | exact Or.inl ⟨fun z9 => by have z8 := (pOkAt_n (by omega)).mp z9; omega, by decide⟩)⟩)
      · have c_18n : ¬ (fk 1).toInt ≤ y.toInt := fun q => c_18 ((fa_le _ _).mpr q)
        refine lv_iload_n hx hb dX9_placeFor_53 rfl (lv_at hl 2 rfl) ?_
        refine lv_goto (tgt := 59) hx hb dX9_placeFor_54 (by decide) ?_
        have hw_20 : bTold T t l0 l1 d0 d1 g0 g1 ln fl pl ft fk [zO8 t a1_3 ln fl pl a2_4 a3_5 a4_6 a5_7, zAr T 1 a1_3 600 ft, zAr T 0 a2_4 3 fk, zArq T 3 a3_5 2 q1_8, zArq T 4 a4_6 2 q2_9, zArq T 5 a5_7 2 q3_10] := ⟨a1_3, a2_4, a3_5, a4_6, a5_7, q1_8, q2_9, q3_10, rfl, h_11, h_12, h_13, h_14, h_15, h_16⟩
        have G : zS T A s.heap s [[zO8 t a1_3 ln fl pl a2_4 a3_5 a4_6 a5_7, zAr T 1 a1_3 600 ft, zAr T 0 a2_4 3 fk, zArq T 3 a3_5 2 q1_8, zArq T 4 a4_6 2 q2_9, zArq T 5 a5_7 2 q3_10]] _ _ := G.re rfl
        exact z_back hQ9 (z_iret C hr hlocks G (Nat.le_of_ble_eq_true rfl) (Nat.le_of_ble_eq_true rfl) dX9_placeFor_59 ⟨rfl, (Or.inr ⟨(pOkAt_n (by omega)).mpr ⟨by omega, by omega⟩, (pNr_n (by omega)).symm⟩)⟩)
  · have c_1n : y.toInt = (-1 : Int) := (fa_eq _ _).mp c_1
    refine lv_aload_n hx hb dX9_placeFor_17 rfl (lv_at hl 0 rfl) ?_
    refine zEx8 ht ?_
    intro a1_21 a2_22 a3_23 a4_24 a5_25 q1_26 q2_27 q3_28
    refine zCu7 ?_
    intro hbs9 h_29 h_30 h_31 h_32 h_33 h_34
    clear ht
    subst hbs9
    have G : zS T A s.heap s [[zO8 t a1_21 ln fl pl a2_22 a3_23 a4_24 a5_25], [zAr T 1 a1_21 600 ft], [zAr T 0 a2_22 3 fk], [zArq T 3 a3_23 2 q1_26], [zArq T 4 a4_24 2 q2_27], [zArq T 5 a5_25 2 q3_28]] _ _ := G.re rfl
    refine z_get C G clX9 0 rfl 4 (by decide) m_fl_RX9_19 rfl dX9_placeFor_18 ?_
    refine lv_iload_n hx hb dX9_placeFor_21 rfl (lv_at hl 1 rfl) ?_
    refine z_ild C G 2 rfl (vp_in_nI (n := 1) (by decide) (by decide)) dX9_placeFor_22 ?_
    refine lv_topi (fun v_35 ev_35 => ?_)
    rw [show ((1 : Int32).toNatClampNeg) = 1 from rfl] at ev_35
    subst ev_35
    refine lv_iconst (v := 2) hx hb dX9_placeFor_23 (by decide) ?_
    refine lv_icmp_ge (tgt := 36) hx hb dX9_placeFor_24 (by decide) (fun c_36 => ?_) (fun c_36 => ?_)
    · have c_36n : (2 : Int) ≤ (fk 1).toInt := (fa_le _ _).mp c_36
      refine lv_bipush (v := (-2)) hx hb dX9_placeFor_36 (by decide) ?_
      have hw_37 : bTold T t l0 l1 d0 d1 g0 g1 ln fl pl ft fk [zO8 t a1_21 ln fl pl a2_22 a3_23 a4_24 a5_25, zAr T 1 a1_21 600 ft, zAr T 0 a2_22 3 fk, zArq T 3 a3_23 2 q1_26, zArq T 4 a4_24 2 q2_27, zArq T 5 a5_25 2 q3_28] := ⟨a1_21, a2_22, a3_23, a4_24, a5_25, q1_26, q2_27, q3_28, rfl, h_29, h_30, h_31, h_32, h_33, h_34⟩
      have G : zS T A s.heap s [[zO8 t a1_21 ln fl pl a2_22 a3_23 a4_24 a5_25, zAr T 1 a1_21 600 ft, zAr T 0 a2_22 3 fk, zArq T 3 a3_23 2 q1_26, zArq T 4 a4_24 2 q2_27, zArq T 5 a5_25 2 q3_28]] _ _ := G.re rfl
      exact z_back hQ9 (z_iret C hr hlocks G (Nat.le_of_ble_eq_true rfl) (Nat.le_of_ble_eq_true rfl) dX9_placeFor_38 ⟨rfl, (by first | exact Or.inl ⟨fun z9 => by have z8 := (pOkAt_y (by omega)).mp z9; omega, by decide⟩ | exact Or.inl ⟨fun z9 => by have z8 := (pOkAt_n (by omega)).mp z9; omega, by decide⟩)⟩)
    · have c_36n : ¬ (2 : Int) ≤ (fk 1).toInt := fun q => c_36 ((fa_le _ _).mpr q)
      refine lv_aload_n hx hb dX9_placeFor_27 rfl (lv_at hl 0 rfl) ?_
      refine z_get C G clX9 0 rfl 4 (by decide) m_fl_RX9_19 rfl dX9_placeFor_28 ?_
      refine lv_iload_n hx hb dX9_placeFor_31 rfl (lv_at hl 1 rfl) ?_
      refine z_ild C G 2 rfl (vp_in_nI (n := 1) (by decide) (by decide)) dX9_placeFor_32 ?_
      refine lv_topi (fun v_38 ev_38 => ?_)
      rw [show ((1 : Int32).toNatClampNeg) = 1 from rfl] at ev_38
      subst ev_38
      refine lv_goto (tgt := 38) hx hb dX9_placeFor_33 (by decide) ?_
      have hw_39 : bTold T t l0 l1 d0 d1 g0 g1 ln fl pl ft fk [zO8 t a1_21 ln fl pl a2_22 a3_23 a4_24 a5_25, zAr T 1 a1_21 600 ft, zAr T 0 a2_22 3 fk, zArq T 3 a3_23 2 q1_26, zArq T 4 a4_24 2 q2_27, zArq T 5 a5_25 2 q3_28] := ⟨a1_21, a2_22, a3_23, a4_24, a5_25, q1_26, q2_27, q3_28, rfl, h_29, h_30, h_31, h_32, h_33, h_34⟩
      have G : zS T A s.heap s [[zO8 t a1_21 ln fl pl a2_22 a3_23 a4_24 a5_25, zAr T 1 a1_21 600 ft, zAr T 0 a2_22 3 fk, zArq T 3 a3_23 2 q1_26, zArq T 4 a4_24 2 q2_27, zArq T 5 a5_25 2 q3_28]] _ _ := G.re rfl
      exact z_back hQ9 (z_iret C hr hlocks G (Nat.le_of_ble_eq_true rfl) (Nat.le_of_ble_eq_true rfl) dX9_placeFor_38 ⟨rfl, (Or.inr ⟨(pOkAt_y (by omega)).mpr (by omega), (pNr_y (by omega)).symm⟩)⟩)
set_option maxHeartbeats 4000000 in
set_option maxRecDepth 100000 in
/-- placeFor 2 -/
theorem c_f_placeFor2 (l : Launch) (T : zTy) (t : Nat) (l0 : Nat) (l1 : Nat) (d0 : Nat) (d1 : Nat) (g0 : Nat) (g1 : Nat) (ln : Int32) (fl : Int32) (pl : Int32) (ft : Nat → Int32) (fk : Nat → Int32) (wt : va_W) (y : Int32) (ht : bTold T t l0 l1 d0 d1 g0 g1 ln fl pl ft fk wt) : zMi l T yX9_placeFor cX9_placeFor 3 (some .int) 1 0 0 [.ref t, .int 2, .int y] [wt] (fun (r : Int32) bs => bs = [wt] ∧ (¬ pOkAt 2 y fk ∧ r.toInt = -2 ∨ pOkAt 2 y fk ∧ r = pNr 2 y fk)) := by
  refine zMi_of (own := RX9) (by decide) rfl (Nat.le_of_ble_eq_true rfl) ?_
  intro p e s m args below meth c A ls C hr hlocks hnm hAe G hl
  refine zHide (fun Q9 hQ9 => ?_)
  have hx := C.1
  have hb := C.2.1
  have hl : lv_has ls 3 [(0, .ref t), (1, .int 2), (2, .int y)] := hl
  refine lv_iload_n hx hb dX9_placeFor_0 rfl (lv_at hl 1 rfl) ?_
  refine lv_if_lt (tgt := 9) hx hb dX9_placeFor_1 (by decide) (fun q => absurd q (by decide)) (fun _ => ?_)
  refine lv_iload_n hx hb dX9_placeFor_4 rfl (lv_at hl 1 rfl) ?_
  refine lv_iconst (v := 2) hx hb dX9_placeFor_5 (by decide) ?_
  refine lv_icmp_le (tgt := 12) hx hb dX9_placeFor_6 (by decide) (fun _ => ?_) (fun q => absurd (by decide) q)
  refine lv_iload_n hx hb dX9_placeFor_12 rfl (lv_at hl 2 rfl) ?_
  refine lv_iconst (v := (-1)) hx hb dX9_placeFor_13 (by decide) ?_
  refine lv_icmp_ne (tgt := 39) hx hb dX9_placeFor_14 (by decide) (fun c_1 => ?_) (fun c_1 => ?_)
  · have c_1n : ¬ y.toInt = (-1 : Int) := fun q => c_1 ((fa_eq _ _).mpr q)
    refine lv_iload_n hx hb dX9_placeFor_39 rfl (lv_at hl 2 rfl) ?_
    refine lv_if_lt (tgt := 57) hx hb dX9_placeFor_40 (by decide) (fun c_2 => ?_) (fun c_2 => ?_)
    · have c_2n : y.toInt < (0 : Int) := (fa_lt _ _).mp c_2
      refine lv_bipush (v := (-2)) hx hb dX9_placeFor_57 (by decide) ?_
      exact z_back hQ9 (z_iret C hr hlocks G (Nat.le_of_ble_eq_true rfl) (Nat.le_of_ble_eq_true rfl) dX9_placeFor_59 ⟨rfl, (by first | exact Or.inl ⟨fun z9 => by have z8 := (pOkAt_y (by omega)).mp z9; omega, by decide⟩ | exact Or.inl ⟨fun z9 => by have z8 := (pOkAt_n (by omega)).mp z9; omega, by decide⟩)⟩)
    · have c_2n : ¬ y.toInt < (0 : Int) := fun q => c_2 ((fa_lt _ _).mpr q)
      refine lv_iload_n hx hb dX9_placeFor_43 rfl (lv_at hl 2 rfl) ?_
      refine lv_aload_n hx hb dX9_placeFor_44 rfl (lv_at hl 0 rfl) ?_
      refine zEx8 ht ?_
      intro a1_3 a2_4 a3_5 a4_6 a5_7 q1_8 q2_9 q3_10
      refine zCu7 ?_
      intro hbs9 h_11 h_12 h_13 h_14 h_15 h_16
      clear ht
      subst hbs9
      have G : zS T A s.heap s [[zO8 t a1_3 ln fl pl a2_4 a3_5 a4_6 a5_7], [zAr T 1 a1_3 600 ft], [zAr T 0 a2_4 3 fk], [zArq T 3 a3_5 2 q1_8], [zArq T 4 a4_6 2 q2_9], [zArq T 5 a5_7 2 q3_10]] _ _ := G.re rfl
      refine z_get C G clX9 0 rfl 4 (by decide) m_fl_RX9_19 rfl dX9_placeFor_45 ?_
      refine lv_iload_n hx hb dX9_placeFor_48 rfl (lv_at hl 1 rfl) ?_
      refine z_ild C G 2 rfl (vp_in_nI (n := 2) (by decide) (by decide)) dX9_placeFor_49 ?_
      refine lv_topi (fun v_17 ev_17 => ?_)
      rw [show ((2 : Int32).toNatClampNeg) = 2 from rfl] at ev_17
      subst ev_17
      refine lv_icmp_ge (tgt := 57) hx hb dX9_placeFor_50 (by decide) (fun c_18 => ?_) (fun c_18 => ?_)
      · have c_18n : (fk 2).toInt ≤ y.toInt := (fa_le _ _).mp c_18
        refine lv_bipush (v := (-2)) hx hb dX9_placeFor_57 (by decide) ?_
        have hw_19 : bTold T t l0 l1 d0 d1 g0 g1 ln fl pl ft fk [zO8 t a1_3 ln fl pl a2_4 a3_5 a4_6 a5_7, zAr T 1 a1_3 600 ft, zAr T 0 a2_4 3 fk, zArq T 3 a3_5 2 q1_8, zArq T 4 a4_6 2 q2_9, zArq T 5 a5_7 2 q3_10] := ⟨a1_3, a2_4, a3_5, a4_6, a5_7, q1_8, q2_9, q3_10, rfl, h_11, h_12, h_13, h_14, h_15, h_16⟩
        have G : zS T A s.heap s [[zO8 t a1_3 ln fl pl a2_4 a3_5 a4_6 a5_7, zAr T 1 a1_3 600 ft, zAr T 0 a2_4 3 fk, zArq T 3 a3_5 2 q1_8, zArq T 4 a4_6 2 q2_9, zArq T 5 a5_7 2 q3_10]] _ _ := G.re rfl
        exact z_back hQ9 (z_iret C hr hlocks G (Nat.le_of_ble_eq_true rfl) (Nat.le_of_ble_eq_true rfl) dX9_placeFor_59 ⟨rfl, (by first | exact Or.inl ⟨fun z9 => by have z8 := (pOkAt_y (by omega)).mp z9; omega, by decide⟩ | exact Or.inl ⟨fun z9 => by have z8 := (pOkAt_n (by omega)).mp z9; omega, by decide⟩)⟩)
      · have c_18n : ¬ (fk 2).toInt ≤ y.toInt := fun q => c_18 ((fa_le _ _).mpr q)
        refine lv_iload_n hx hb dX9_placeFor_53 rfl (lv_at hl 2 rfl) ?_
        refine lv_goto (tgt := 59) hx hb dX9_placeFor_54 (by decide) ?_
        have hw_20 : bTold T t l0 l1 d0 d1 g0 g1 ln fl pl ft fk [zO8 t a1_3 ln fl pl a2_4 a3_5 a4_6 a5_7, zAr T 1 a1_3 600 ft, zAr T 0 a2_4 3 fk, zArq T 3 a3_5 2 q1_8, zArq T 4 a4_6 2 q2_9, zArq T 5 a5_7 2 q3_10] := ⟨a1_3, a2_4, a3_5, a4_6, a5_7, q1_8, q2_9, q3_10, rfl, h_11, h_12, h_13, h_14, h_15, h_16⟩
        have G : zS T A s.heap s [[zO8 t a1_3 ln fl pl a2_4 a3_5 a4_6 a5_7, zAr T 1 a1_3 600 ft, zAr T 0 a2_4 3 fk, zArq T 3 a3_5 2 q1_8, zArq T 4 a4_6 2 q2_9, zArq T 5 a5_7 2 q3_10]] _ _ := G.re rfl
        exact z_back hQ9 (z_iret C hr hlocks G (Nat.le_of_ble_eq_true rfl) (Nat.le_of_ble_eq_true rfl) dX9_placeFor_59 ⟨rfl, (Or.inr ⟨(pOkAt_n (by omega)).mpr ⟨by omega, by omega⟩, (pNr_n (by omega)).symm⟩)⟩)
  · have c_1n : y.toInt = (-1 : Int) := (fa_eq _ _).mp c_1
    refine lv_aload_n hx hb dX9_placeFor_17 rfl (lv_at hl 0 rfl) ?_
    refine zEx8 ht ?_
    intro a1_21 a2_22 a3_23 a4_24 a5_25 q1_26 q2_27 q3_28
    refine zCu7 ?_
    intro hbs9 h_29 h_30 h_31 h_32 h_33 h_34
    clear ht
    subst hbs9
    have G : zS T A s.heap s [[zO8 t a1_21 ln fl pl a2_22 a3_23 a4_24 a5_25], [zAr T 1 a1_21 600 ft], [zAr T 0 a2_22 3 fk], [zArq T 3 a3_23 2 q1_26], [zArq T 4 a4_24 2 q2_27], [zArq T 5 a5_25 2 q3_28]] _ _ := G.re rfl
    refine z_get C G clX9 0 rfl 4 (by decide) m_fl_RX9_19 rfl dX9_placeFor_18 ?_
    refine lv_iload_n hx hb dX9_placeFor_21 rfl (lv_at hl 1 rfl) ?_
    refine z_ild C G 2 rfl (vp_in_nI (n := 2) (by decide) (by decide)) dX9_placeFor_22 ?_
    refine lv_topi (fun v_35 ev_35 => ?_)
    rw [show ((2 : Int32).toNatClampNeg) = 2 from rfl] at ev_35
    subst ev_35
    refine lv_iconst (v := 2) hx hb dX9_placeFor_23 (by decide) ?_
    refine lv_icmp_ge (tgt := 36) hx hb dX9_placeFor_24 (by decide) (fun c_36 => ?_) (fun c_36 => ?_)
    · have c_36n : (2 : Int) ≤ (fk 2).toInt := (fa_le _ _).mp c_36
      refine lv_bipush (v := (-2)) hx hb dX9_placeFor_36 (by decide) ?_
      have hw_37 : bTold T t l0 l1 d0 d1 g0 g1 ln fl pl ft fk [zO8 t a1_21 ln fl pl a2_22 a3_23 a4_24 a5_25, zAr T 1 a1_21 600 ft, zAr T 0 a2_22 3 fk, zArq T 3 a3_23 2 q1_26, zArq T 4 a4_24 2 q2_27, zArq T 5 a5_25 2 q3_28] := ⟨a1_21, a2_22, a3_23, a4_24, a5_25, q1_26, q2_27, q3_28, rfl, h_29, h_30, h_31, h_32, h_33, h_34⟩
      have G : zS T A s.heap s [[zO8 t a1_21 ln fl pl a2_22 a3_23 a4_24 a5_25, zAr T 1 a1_21 600 ft, zAr T 0 a2_22 3 fk, zArq T 3 a3_23 2 q1_26, zArq T 4 a4_24 2 q2_27, zArq T 5 a5_25 2 q3_28]] _ _ := G.re rfl
      exact z_back hQ9 (z_iret C hr hlocks G (Nat.le_of_ble_eq_true rfl) (Nat.le_of_ble_eq_true rfl) dX9_placeFor_38 ⟨rfl, (by first | exact Or.inl ⟨fun z9 => by have z8 := (pOkAt_y (by omega)).mp z9; omega, by decide⟩ | exact Or.inl ⟨fun z9 => by have z8 := (pOkAt_n (by omega)).mp z9; omega, by decide⟩)⟩)
    · have c_36n : ¬ (2 : Int) ≤ (fk 2).toInt := fun q => c_36 ((fa_le _ _).mpr q)
      refine lv_aload_n hx hb dX9_placeFor_27 rfl (lv_at hl 0 rfl) ?_
      refine z_get C G clX9 0 rfl 4 (by decide) m_fl_RX9_19 rfl dX9_placeFor_28 ?_
      refine lv_iload_n hx hb dX9_placeFor_31 rfl (lv_at hl 1 rfl) ?_
      refine z_ild C G 2 rfl (vp_in_nI (n := 2) (by decide) (by decide)) dX9_placeFor_32 ?_
      refine lv_topi (fun v_38 ev_38 => ?_)
      rw [show ((2 : Int32).toNatClampNeg) = 2 from rfl] at ev_38
      subst ev_38
      refine lv_goto (tgt := 38) hx hb dX9_placeFor_33 (by decide) ?_
      have hw_39 : bTold T t l0 l1 d0 d1 g0 g1 ln fl pl ft fk [zO8 t a1_21 ln fl pl a2_22 a3_23 a4_24 a5_25, zAr T 1 a1_21 600 ft, zAr T 0 a2_22 3 fk, zArq T 3 a3_23 2 q1_26, zArq T 4 a4_24 2 q2_27, zArq T 5 a5_25 2 q3_28] := ⟨a1_21, a2_22, a3_23, a4_24, a5_25, q1_26, q2_27, q3_28, rfl, h_29, h_30, h_31, h_32, h_33, h_34⟩
      have G : zS T A s.heap s [[zO8 t a1_21 ln fl pl a2_22 a3_23 a4_24 a5_25, zAr T 1 a1_21 600 ft, zAr T 0 a2_22 3 fk, zArq T 3 a3_23 2 q1_26, zArq T 4 a4_24 2 q2_27, zArq T 5 a5_25 2 q3_28]] _ _ := G.re rfl
      exact z_back hQ9 (z_iret C hr hlocks G (Nat.le_of_ble_eq_true rfl) (Nat.le_of_ble_eq_true rfl) dX9_placeFor_38 ⟨rfl, (Or.inr ⟨(pOkAt_y (by omega)).mpr (by omega), (pNr_y (by omega)).symm⟩)⟩)
set_option maxHeartbeats 4000000 in
set_option maxRecDepth 100000 in
/-- c_f_keep_00 -/
theorem c_f_keep_00 (l : Launch) (T : zTy) (t : Nat) (l0 : Nat) (l1 : Nat) (d0 : Nat) (d1 : Nat) (g0 : Nat) (g1 : Nat) (ln : Int32) (fl : Int32) (pl : Int32) (ft : Nat → Int32) (fk : Nat → Int32) (wt : va_W) (cr0_ : Int32) (inn0_ : Int32) (k10_ : Nat → Int32) (k20_ : Nat → Int32) (k30_ : Nat → Int32) (k40_ : Nat → Int32) (z0_ : va_W) (rd : Nat) (rl : Nat) (rdd : Nat) (rg : Nat) (tp : Nat) (r0 : Int32) (r1 : Int32) (r2 : Int32) (r3 : Int32) (r4 : Int32) (r5 : Int32) (r6 : Int32) (r7 : Int32) (r8 : Int32) (cr : Int32) (inn : Int32) (k1 : Nat → Int32) (k2 : Nat → Int32) (k3 : Nat → Int32) (k4 : Nat → Int32) (z : va_W) (ht : bTold T t l0 l1 d0 d1 g0 g1 ln fl pl ft fk wt) (hK : zKT fk) (hz0_ : bLand T l0 cr0_ inn0_ k10_ k20_ k30_ k40_ z0_) (hI0_ : zLI cr0_ k10_ k30_) (hz : bLand T rl cr inn k1 k2 k3 k4 z) (hI : zLI cr k1 k3) : zMv l T yX9_keep cX9_keep 4 2 0 0 [.ref t, .int 0, .int 0, .ref rd] [wt, z0_, [zO7 rd rl rdd rg r0 r1 tp r2 r3 r4 r5 r6 r7 r8], z] (fun bs => ∃ (wt2 : va_W) (fk2 : Nat → Int32) (w2_ : va_W) (s1_ : Nat → Int32) (s2_ : Nat → Int32) (s3_ : Nat → Int32) (s4_ : Nat → Int32), bs = [wt2, w2_, [zO7 rd rl rdd rg r0 r1 tp r2 r3 r4 r5 r6 r7 r8], z] ∧ bTold T t l0 l1 d0 d1 g0 g1 ln fl pl ft fk2 wt2 ∧ bLand T l0 cr inn s1_ s2_ s3_ s4_ w2_ ∧ zKT fk2 ∧ zLI cr s1_ s3_ ∧ (∀ j, j < 7 → s1_ j = k1 j) ∧ (∀ j, j < 28 → s2_ j = k2 j) ∧ (∀ j, j < 7 → s3_ j = k3 j) ∧ (∀ j, j < 7 → s4_ j = k4 j) ∧ fk2 = upd fk 0 (if fk 0 < 1 then 1 else fk 0)) := by
  refine zMv_of (own := RX9) (by decide) rfl (Nat.le_of_ble_eq_true rfl) ?_
  intro p e s m args below meth c A ls C hr hlocks hnm hAe G hl
  refine zHide (fun Q9 hQ9 => ?_)
  have hx := C.1
  have hb := C.2.1
  have hl : lv_has ls 4 [(0, .ref t), (1, .int 0), (2, .int 0), (3, .ref rd)] := hl
  refine lv_iload_n hx hb dX9_keep_0 rfl (lv_at hl 1 rfl) ?_
  refine lv_if_lt (tgt := 18) hx hb dX9_keep_1 (by decide) (fun q => absurd q (by decide)) (fun _ => ?_)
  refine lv_iload_n hx hb dX9_keep_4 rfl (lv_at hl 1 rfl) ?_
  refine lv_iconst (v := 2) hx hb dX9_keep_5 (by decide) ?_
  refine lv_icmp_gt (tgt := 18) hx hb dX9_keep_6 (by decide) (fun q => absurd q (by decide)) (fun _ => ?_)
  refine lv_iload_n hx hb dX9_keep_9 rfl (lv_at hl 2 rfl) ?_
  refine lv_if_lt (tgt := 18) hx hb dX9_keep_10 (by decide) (fun q => absurd q (by decide)) (fun _ => ?_)
  refine lv_iload_n hx hb dX9_keep_13 rfl (lv_at hl 2 rfl) ?_
  refine lv_iconst (v := 2) hx hb dX9_keep_14 (by decide) ?_
  refine lv_icmp_lt (tgt := 19) hx hb dX9_keep_15 (by decide) (fun _ => ?_) (fun q => absurd (by decide) q)
  refine lv_iload_n hx hb dX9_keep_19 rfl (lv_at hl 1 rfl) ?_
  refine lv_if_ne (tgt := 39) hx hb dX9_keep_20 (by decide) (fun q => absurd (by decide) q) (fun _ => ?_)
  refine lv_aload_n hx hb dX9_keep_23 rfl (lv_at hl 0 rfl) ?_
  refine zEx8 ht ?_
  intro a1_1 a2_2 a3_3 a4_4 a5_5 q1_6 q2_7 q3_8
  refine zCu7 ?_
  intro hbs9 h_9 h_10 h_11 h_12 h_13 h_14
  clear ht
  subst hbs9
  have G : zS T A s.heap s [[zO8 t a1_1 ln fl pl a2_2 a3_3 a4_4 a5_5], [zAr T 1 a1_1 600 ft], [zAr T 0 a2_2 3 fk], [zArq T 3 a3_3 2 q1_6], [zArq T 4 a4_4 2 q2_7], [zArq T 5 a5_5 2 q3_8], z0_, [zO7 rd rl rdd rg r0 r1 tp r2 r3 r4 r5 r6 r7 r8], z] _ _ := G.re rfl
  refine z_get C G clX9 0 rfl 5 (by decide) m_fl_RX9_26 rfl dX9_keep_24 ?_
  refine lv_iload_n hx hb dX9_keep_27 rfl (lv_at hl 2 rfl) ?_
  refine z_ald C G 3 3 rfl rfl (vp_in_nI (n := 0) (by decide) (by decide)) dX9_keep_28 ?_
  rw [show q1_6 ((0 : Int32).toNatClampNeg) = some l0 from h_9]
  refine lv_aload_n hx hb dX9_keep_29 rfl (lv_at hl 3 rfl) ?_
  refine z_get C G clX7 7 rfl 0 (by decide) m_fl_RX9_47 rfl dX9_keep_30 ?_
  refine z_Vv (bc := [z0_, z]) (br := [[zO8 t a1_1 ln fl pl a2_2 a3_3 a4_4 a5_5], [zAr T 1 a1_1 600 ft], [zAr T 0 a2_2 3 fk], [zArq T 3 a3_3 2 q1_6], [zArq T 4 a4_4 2 q2_7], [zArq T 5 a5_5 2 q3_8], [zO7 rd rl rdd rg r0 r1 tp r2 r3 r4 r5 r6 r7 r8]]) (As := [.ref rl]) (rest := []) C G (c_Land_takeAll l T l0 rl cr0_ inn0_ k10_ k20_ k30_ k40_ cr inn k1 k2 k3 k4 z0_ z hz0_ hz) (kV_RX9_53 C.2.2.2.2 (Nat.le_of_ble_eq_true rfl) (Nat.le_of_ble_eq_true rfl)) [6, 8] [6, 1] rfl rfl (ci := 4) (qc := (RX4, TX4, 6)) rfl rfl (List.mem_flatten.mpr ⟨_, List.mem_of_getElem? (i := 0) rfl, (bLand_mem hz0_).choose_spec⟩) rfl rfl hl.1 dX9_keep_33 (Nat.le_of_ble_eq_true rfl) (Nat.le_of_ble_eq_true rfl) (fun b1 H locs hw G => ?_)
  refine zEx5 hw ?_
  intro w2_15 g1_16 g2_17 g3_18 g4_19
  refine zCu6 ?_
  intro hbs9 h_20 h_21 h_22 h_23 h_24
  clear hw
  subst hbs9
  have G : zS T A s.heap s [[zO8 t a1_1 ln fl pl a2_2 a3_3 a4_4 a5_5], [zAr T 1 a1_1 600 ft], [zAr T 0 a2_2 3 fk], [zArq T 3 a3_3 2 q1_6], [zArq T 4 a4_4 2 q2_7], [zArq T 5 a5_5 2 q3_8], [zO7 rd rl rdd rg r0 r1 tp r2 r3 r4 r5 r6 r7 r8], w2_15, z] _ _ := G
  refine lv_goto (tgt := 73) hx hb dX9_keep_36 (by decide) ?_
  refine lv_aload_n hx hb dX9_keep_73 rfl (lv_at hl 0 rfl) ?_
  refine z_get C G clX9 0 rfl 4 (by decide) m_fl_RX9_19 rfl dX9_keep_74 ?_
  refine lv_iload_n hx hb dX9_keep_77 rfl (lv_at hl 1 rfl) ?_
  refine lv_aload_n hx hb dX9_keep_78 rfl (lv_at hl 0 rfl) ?_
  refine z_get C G clX9 0 rfl 4 (by decide) m_fl_RX9_19 rfl dX9_keep_79 ?_
  refine lv_iload_n hx hb dX9_keep_82 rfl (lv_at hl 1 rfl) ?_
  refine z_ild C G 2 rfl (vp_in_nI (n := 0) (by decide) (by decide)) dX9_keep_83 ?_
  refine lv_topi (fun v_26 ev_26 => ?_)
  rw [show ((0 : Int32).toNatClampNeg) = 0 from rfl] at ev_26
  subst ev_26
  refine lv_iload_n hx hb dX9_keep_84 rfl (lv_at hl 2 rfl) ?_
  refine lv_iconst (v := 1) hx hb dX9_keep_85 (by decide) ?_
  refine lv_iadd hx hb dX9_keep_86 ?_
  refine lv_topi (fun y_27 ey_27 => ?_)
  obtain rfl : y_27 = 1 := ey_27.trans (by decide)
  refine va_mmax hx hb (C.2.2.1.trans hl.1.symm) C.2.2.2.1 (C.2.2.2.2 _ m_ml_RX9_71) (C.2.2.2.2 _ m_st_math_max) (C.2.2.2.2 _ m_ii_math) (C.2.2.2.2 _ m_co_math_max) (Nat.le_of_ble_eq_true rfl) (Nat.le_of_ble_eq_true rfl) (Nat.le_of_ble_eq_true rfl) (Nat.le_of_ble_eq_true rfl) dX9_keep_87 ?_
  refine lv_topi (fun v_28 ev_28 => ?_)
  subst ev_28
  refine z_ist C G 2 rfl (vp_in_nI (n := 0) (by decide) (by decide)) dX9_keep_90 (fun H locs G => ?_)
  have G : zS T A s.heap s [[zO8 t a1_1 ln fl pl a2_2 a3_3 a4_4 a5_5], [zAr T 1 a1_1 600 ft], [zAr T 0 a2_2 3 (upd fk 0 (if (fk 0) < 1 then 1 else (fk 0)))], [zArq T 3 a3_3 2 q1_6], [zArq T 4 a4_4 2 q2_7], [zArq T 5 a5_5 2 q3_8], [zO7 rd rl rdd rg r0 r1 tp r2 r3 r4 r5 r6 r7 r8], w2_15, z] _ _ := G
  have hw_29 : bTold T t l0 l1 d0 d1 g0 g1 ln fl pl ft (upd fk 0 (if (fk 0) < 1 then 1 else (fk 0))) [zO8 t a1_1 ln fl pl a2_2 a3_3 a4_4 a5_5, zAr T 1 a1_1 600 ft, zAr T 0 a2_2 3 (upd fk 0 (if (fk 0) < 1 then 1 else (fk 0))), zArq T 3 a3_3 2 q1_6, zArq T 4 a4_4 2 q2_7, zArq T 5 a5_5 2 q3_8] := ⟨a1_1, a2_2, a3_3, a4_4, a5_5, q1_6, q2_7, q3_8, rfl, h_9, h_10, h_11, h_12, h_13, h_14⟩
  have G : zS T A s.heap s [[zO8 t a1_1 ln fl pl a2_2 a3_3 a4_4 a5_5, zAr T 1 a1_1 600 ft, zAr T 0 a2_2 3 (upd fk 0 (if (fk 0) < 1 then 1 else (fk 0))), zArq T 3 a3_3 2 q1_6, zArq T 4 a4_4 2 q2_7, zArq T 5 a5_5 2 q3_8], [zO7 rd rl rdd rg r0 r1 tp r2 r3 r4 r5 r6 r7 r8], w2_15, z] _ _ := G.re rfl
  have G := G.sub (bs' := [[zO8 t a1_1 ln fl pl a2_2 a3_3 a4_4 a5_5, zAr T 1 a1_1 600 ft, zAr T 0 a2_2 3 (upd fk 0 (if (fk 0) < 1 then 1 else (fk 0))), zArq T 3 a3_3 2 q1_6, zArq T 4 a4_4 2 q2_7, zArq T 5 a5_5 2 q3_8], w2_15, [zO7 rd rl rdd rg r0 r1 tp r2 r3 r4 r5 r6 r7 r8], z]) [0, 2, 1, 3] rfl
  exact z_back hQ9 (z_vret C hr hlocks G (Nat.le_of_ble_eq_true rfl) (Nat.le_of_ble_eq_true rfl) dX9_keep_91 ⟨([zO8 t a1_1 ln fl pl a2_2 a3_3 a4_4 a5_5, zAr T 1 a1_1 600 ft, zAr T 0 a2_2 3 (upd fk 0 (if (fk 0) < 1 then 1 else (fk 0))), zArq T 3 a3_3 2 q1_6, zArq T 4 a4_4 2 q2_7, zArq T 5 a5_5 2 q3_8]), (upd fk 0 (if (fk 0) < 1 then 1 else (fk 0))), w2_15, g1_16, g2_17, g3_18, g4_19, rfl, hw_29, h_20, (zKT_upd hK 0 (z_maxK (hK 0 (by decide)) (by decide))), (zLI_eq hI h_21 h_23), h_21, h_22, h_23, h_24, rfl⟩)
set_option maxHeartbeats 4000000 in
set_option maxRecDepth 100000 in
/-- c_f_keep_01 -/
theorem c_f_keep_01 (l : Launch) (T : zTy) (t : Nat) (l0 : Nat) (l1 : Nat) (d0 : Nat) (d1 : Nat) (g0 : Nat) (g1 : Nat) (ln : Int32) (fl : Int32) (pl : Int32) (ft : Nat → Int32) (fk : Nat → Int32) (wt : va_W) (cr1_ : Int32) (inn1_ : Int32) (k11_ : Nat → Int32) (k21_ : Nat → Int32) (k31_ : Nat → Int32) (k41_ : Nat → Int32) (z1_ : va_W) (rd : Nat) (rl : Nat) (rdd : Nat) (rg : Nat) (tp : Nat) (r0 : Int32) (r1 : Int32) (r2 : Int32) (r3 : Int32) (r4 : Int32) (r5 : Int32) (r6 : Int32) (r7 : Int32) (r8 : Int32) (cr : Int32) (inn : Int32) (k1 : Nat → Int32) (k2 : Nat → Int32) (k3 : Nat → Int32) (k4 : Nat → Int32) (z : va_W) (ht : bTold T t l0 l1 d0 d1 g0 g1 ln fl pl ft fk wt) (hK : zKT fk) (hz1_ : bLand T l1 cr1_ inn1_ k11_ k21_ k31_ k41_ z1_) (hI1_ : zLI cr1_ k11_ k31_) (hz : bLand T rl cr inn k1 k2 k3 k4 z) (hI : zLI cr k1 k3) : zMv l T yX9_keep cX9_keep 4 2 0 0 [.ref t, .int 0, .int 1, .ref rd] [wt, z1_, [zO7 rd rl rdd rg r0 r1 tp r2 r3 r4 r5 r6 r7 r8], z] (fun bs => ∃ (wt2 : va_W) (fk2 : Nat → Int32) (w2_ : va_W) (s1_ : Nat → Int32) (s2_ : Nat → Int32) (s3_ : Nat → Int32) (s4_ : Nat → Int32), bs = [wt2, w2_, [zO7 rd rl rdd rg r0 r1 tp r2 r3 r4 r5 r6 r7 r8], z] ∧ bTold T t l0 l1 d0 d1 g0 g1 ln fl pl ft fk2 wt2 ∧ bLand T l1 cr inn s1_ s2_ s3_ s4_ w2_ ∧ zKT fk2 ∧ zLI cr s1_ s3_ ∧ (∀ j, j < 7 → s1_ j = k1 j) ∧ (∀ j, j < 28 → s2_ j = k2 j) ∧ (∀ j, j < 7 → s3_ j = k3 j) ∧ (∀ j, j < 7 → s4_ j = k4 j) ∧ fk2 = upd fk 0 (if fk 0 < 2 then 2 else fk 0)) := by
  refine zMv_of (own := RX9) (by decide) rfl (Nat.le_of_ble_eq_true rfl) ?_
  intro p e s m args below meth c A ls C hr hlocks hnm hAe G hl
  refine zHide (fun Q9 hQ9 => ?_)
  have hx := C.1
  have hb := C.2.1
  have hl : lv_has ls 4 [(0, .ref t), (1, .int 0), (2, .int 1), (3, .ref rd)] := hl
  refine lv_iload_n hx hb dX9_keep_0 rfl (lv_at hl 1 rfl) ?_
  refine lv_if_lt (tgt := 18) hx hb dX9_keep_1 (by decide) (fun q => absurd q (by decide)) (fun _ => ?_)
  refine lv_iload_n hx hb dX9_keep_4 rfl (lv_at hl 1 rfl) ?_
  refine lv_iconst (v := 2) hx hb dX9_keep_5 (by decide) ?_
  refine lv_icmp_gt (tgt := 18) hx hb dX9_keep_6 (by decide) (fun q => absurd q (by decide)) (fun _ => ?_)
  refine lv_iload_n hx hb dX9_keep_9 rfl (lv_at hl 2 rfl) ?_
  refine lv_if_lt (tgt := 18) hx hb dX9_keep_10 (by decide) (fun q => absurd q (by decide)) (fun _ => ?_)
  refine lv_iload_n hx hb dX9_keep_13 rfl (lv_at hl 2 rfl) ?_
  refine lv_iconst (v := 2) hx hb dX9_keep_14 (by decide) ?_
  refine lv_icmp_lt (tgt := 19) hx hb dX9_keep_15 (by decide) (fun _ => ?_) (fun q => absurd (by decide) q)
  refine lv_iload_n hx hb dX9_keep_19 rfl (lv_at hl 1 rfl) ?_
  refine lv_if_ne (tgt := 39) hx hb dX9_keep_20 (by decide) (fun q => absurd (by decide) q) (fun _ => ?_)
  refine lv_aload_n hx hb dX9_keep_23 rfl (lv_at hl 0 rfl) ?_
  refine zEx8 ht ?_
  intro a1_1 a2_2 a3_3 a4_4 a5_5 q1_6 q2_7 q3_8
  refine zCu7 ?_
  intro hbs9 h_9 h_10 h_11 h_12 h_13 h_14
  clear ht
  subst hbs9
  have G : zS T A s.heap s [[zO8 t a1_1 ln fl pl a2_2 a3_3 a4_4 a5_5], [zAr T 1 a1_1 600 ft], [zAr T 0 a2_2 3 fk], [zArq T 3 a3_3 2 q1_6], [zArq T 4 a4_4 2 q2_7], [zArq T 5 a5_5 2 q3_8], z1_, [zO7 rd rl rdd rg r0 r1 tp r2 r3 r4 r5 r6 r7 r8], z] _ _ := G.re rfl
  refine z_get C G clX9 0 rfl 5 (by decide) m_fl_RX9_26 rfl dX9_keep_24 ?_
  refine lv_iload_n hx hb dX9_keep_27 rfl (lv_at hl 2 rfl) ?_
  refine z_ald C G 3 3 rfl rfl (vp_in_nI (n := 1) (by decide) (by decide)) dX9_keep_28 ?_
  rw [show q1_6 ((1 : Int32).toNatClampNeg) = some l1 from h_10]
  refine lv_aload_n hx hb dX9_keep_29 rfl (lv_at hl 3 rfl) ?_
  refine z_get C G clX7 7 rfl 0 (by decide) m_fl_RX9_47 rfl dX9_keep_30 ?_
  refine z_Vv (bc := [z1_, z]) (br := [[zO8 t a1_1 ln fl pl a2_2 a3_3 a4_4 a5_5], [zAr T 1 a1_1 600 ft], [zAr T 0 a2_2 3 fk], [zArq T 3 a3_3 2 q1_6], [zArq T 4 a4_4 2 q2_7], [zArq T 5 a5_5 2 q3_8], [zO7 rd rl rdd rg r0 r1 tp r2 r3 r4 r5 r6 r7 r8]]) (As := [.ref rl]) (rest := []) C G (c_Land_takeAll l T l1 rl cr1_ inn1_ k11_ k21_ k31_ k41_ cr inn k1 k2 k3 k4 z1_ z hz1_ hz) (kV_RX9_53 C.2.2.2.2 (Nat.le_of_ble_eq_true rfl) (Nat.le_of_ble_eq_true rfl)) [6, 8] [6, 1] rfl rfl (ci := 4) (qc := (RX4, TX4, 6)) rfl rfl (List.mem_flatten.mpr ⟨_, List.mem_of_getElem? (i := 0) rfl, (bLand_mem hz1_).choose_spec⟩) rfl rfl hl.1 dX9_keep_33 (Nat.le_of_ble_eq_true rfl) (Nat.le_of_ble_eq_true rfl) (fun b1 H locs hw G => ?_)
  refine zEx5 hw ?_
  intro w2_15 g1_16 g2_17 g3_18 g4_19
  refine zCu6 ?_
  intro hbs9 h_20 h_21 h_22 h_23 h_24
  clear hw
  subst hbs9
  have G : zS T A s.heap s [[zO8 t a1_1 ln fl pl a2_2 a3_3 a4_4 a5_5], [zAr T 1 a1_1 600 ft], [zAr T 0 a2_2 3 fk], [zArq T 3 a3_3 2 q1_6], [zArq T 4 a4_4 2 q2_7], [zArq T 5 a5_5 2 q3_8], [zO7 rd rl rdd rg r0 r1 tp r2 r3 r4 r5 r6 r7 r8], w2_15, z] _ _ := G
  refine lv_goto (tgt := 73) hx hb dX9_keep_36 (by decide) ?_
  refine lv_aload_n hx hb dX9_keep_73 rfl (lv_at hl 0 rfl) ?_
  refine z_get C G clX9 0 rfl 4 (by decide) m_fl_RX9_19 rfl dX9_keep_74 ?_
  refine lv_iload_n hx hb dX9_keep_77 rfl (lv_at hl 1 rfl) ?_
  refine lv_aload_n hx hb dX9_keep_78 rfl (lv_at hl 0 rfl) ?_
  refine z_get C G clX9 0 rfl 4 (by decide) m_fl_RX9_19 rfl dX9_keep_79 ?_
  refine lv_iload_n hx hb dX9_keep_82 rfl (lv_at hl 1 rfl) ?_
  refine z_ild C G 2 rfl (vp_in_nI (n := 0) (by decide) (by decide)) dX9_keep_83 ?_
  refine lv_topi (fun v_26 ev_26 => ?_)
  rw [show ((0 : Int32).toNatClampNeg) = 0 from rfl] at ev_26
  subst ev_26
  refine lv_iload_n hx hb dX9_keep_84 rfl (lv_at hl 2 rfl) ?_
  refine lv_iconst (v := 1) hx hb dX9_keep_85 (by decide) ?_
  refine lv_iadd hx hb dX9_keep_86 ?_
  refine lv_topi (fun y_27 ey_27 => ?_)
  obtain rfl : y_27 = 2 := ey_27.trans (by decide)
  refine va_mmax hx hb (C.2.2.1.trans hl.1.symm) C.2.2.2.1 (C.2.2.2.2 _ m_ml_RX9_71) (C.2.2.2.2 _ m_st_math_max) (C.2.2.2.2 _ m_ii_math) (C.2.2.2.2 _ m_co_math_max) (Nat.le_of_ble_eq_true rfl) (Nat.le_of_ble_eq_true rfl) (Nat.le_of_ble_eq_true rfl) (Nat.le_of_ble_eq_true rfl) dX9_keep_87 ?_
  refine lv_topi (fun v_28 ev_28 => ?_)
  subst ev_28
  refine z_ist C G 2 rfl (vp_in_nI (n := 0) (by decide) (by decide)) dX9_keep_90 (fun H locs G => ?_)
  have G : zS T A s.heap s [[zO8 t a1_1 ln fl pl a2_2 a3_3 a4_4 a5_5], [zAr T 1 a1_1 600 ft], [zAr T 0 a2_2 3 (upd fk 0 (if (fk 0) < 2 then 2 else (fk 0)))], [zArq T 3 a3_3 2 q1_6], [zArq T 4 a4_4 2 q2_7], [zArq T 5 a5_5 2 q3_8], [zO7 rd rl rdd rg r0 r1 tp r2 r3 r4 r5 r6 r7 r8], w2_15, z] _ _ := G
  have hw_29 : bTold T t l0 l1 d0 d1 g0 g1 ln fl pl ft (upd fk 0 (if (fk 0) < 2 then 2 else (fk 0))) [zO8 t a1_1 ln fl pl a2_2 a3_3 a4_4 a5_5, zAr T 1 a1_1 600 ft, zAr T 0 a2_2 3 (upd fk 0 (if (fk 0) < 2 then 2 else (fk 0))), zArq T 3 a3_3 2 q1_6, zArq T 4 a4_4 2 q2_7, zArq T 5 a5_5 2 q3_8] := ⟨a1_1, a2_2, a3_3, a4_4, a5_5, q1_6, q2_7, q3_8, rfl, h_9, h_10, h_11, h_12, h_13, h_14⟩
  have G : zS T A s.heap s [[zO8 t a1_1 ln fl pl a2_2 a3_3 a4_4 a5_5, zAr T 1 a1_1 600 ft, zAr T 0 a2_2 3 (upd fk 0 (if (fk 0) < 2 then 2 else (fk 0))), zArq T 3 a3_3 2 q1_6, zArq T 4 a4_4 2 q2_7, zArq T 5 a5_5 2 q3_8], [zO7 rd rl rdd rg r0 r1 tp r2 r3 r4 r5 r6 r7 r8], w2_15, z] _ _ := G.re rfl
  have G := G.sub (bs' := [[zO8 t a1_1 ln fl pl a2_2 a3_3 a4_4 a5_5, zAr T 1 a1_1 600 ft, zAr T 0 a2_2 3 (upd fk 0 (if (fk 0) < 2 then 2 else (fk 0))), zArq T 3 a3_3 2 q1_6, zArq T 4 a4_4 2 q2_7, zArq T 5 a5_5 2 q3_8], w2_15, [zO7 rd rl rdd rg r0 r1 tp r2 r3 r4 r5 r6 r7 r8], z]) [0, 2, 1, 3] rfl
  exact z_back hQ9 (z_vret C hr hlocks G (Nat.le_of_ble_eq_true rfl) (Nat.le_of_ble_eq_true rfl) dX9_keep_91 ⟨([zO8 t a1_1 ln fl pl a2_2 a3_3 a4_4 a5_5, zAr T 1 a1_1 600 ft, zAr T 0 a2_2 3 (upd fk 0 (if (fk 0) < 2 then 2 else (fk 0))), zArq T 3 a3_3 2 q1_6, zArq T 4 a4_4 2 q2_7, zArq T 5 a5_5 2 q3_8]), (upd fk 0 (if (fk 0) < 2 then 2 else (fk 0))), w2_15, g1_16, g2_17, g3_18, g4_19, rfl, hw_29, h_20, (zKT_upd hK 0 (z_maxK (hK 0 (by decide)) (by decide))), (zLI_eq hI h_21 h_23), h_21, h_22, h_23, h_24, rfl⟩)
set_option maxHeartbeats 4000000 in
set_option maxRecDepth 100000 in
/-- c_f_keep_10 -/
theorem c_f_keep_10 (l : Launch) (T : zTy) (t : Nat) (l0 : Nat) (l1 : Nat) (d0 : Nat) (d1 : Nat) (g0 : Nat) (g1 : Nat) (ln : Int32) (fl : Int32) (pl : Int32) (ft : Nat → Int32) (fk : Nat → Int32) (wt : va_W) (dd0_ : Int32) (p10_ : Nat → Int32) (p20_ : Nat → Int32) (p30_ : Nat → Int32) (wd0_ : va_W) (rd : Nat) (rl : Nat) (rdd : Nat) (rg : Nat) (tp : Nat) (r0 : Int32) (r1 : Int32) (r2 : Int32) (r3 : Int32) (r4 : Int32) (r5 : Int32) (r6 : Int32) (r7 : Int32) (r8 : Int32) (dd : Int32) (v1 : Nat → Int32) (v2 : Nat → Int32) (v3 : Nat → Int32) (wd : va_W) (ht : bTold T t l0 l1 d0 d1 g0 g1 ln fl pl ft fk wt) (hK : zKT fk) (hd0_ : bDay T d0 dd0_ p10_ p20_ p30_ wd0_) (hd : bDay T rdd dd v1 v2 v3 wd) : zMv l T yX9_keep cX9_keep 4 2 0 0 [.ref t, .int 1, .int 0, .ref rd] [wt, wd0_, [zO7 rd rl rdd rg r0 r1 tp r2 r3 r4 r5 r6 r7 r8], wd] (fun bs => ∃ (wt2 : va_W) (fk2 : Nat → Int32) (w2_ : va_W) (s1_ : Nat → Int32) (s2_ : Nat → Int32) (s3_ : Nat → Int32), bs = [wt2, w2_, [zO7 rd rl rdd rg r0 r1 tp r2 r3 r4 r5 r6 r7 r8], wd] ∧ bTold T t l0 l1 d0 d1 g0 g1 ln fl pl ft fk2 wt2 ∧ bDay T d0 dd s1_ s2_ s3_ w2_ ∧ zKT fk2 ∧ (∀ j, j < 40 → s1_ j = v1 j) ∧ (∀ j, j < 40 → s2_ j = v2 j) ∧ (∀ j, j < 40 → s3_ j = v3 j) ∧ fk2 = upd fk 1 (if fk 1 < 1 then 1 else fk 1)) := by
  refine zMv_of (own := RX9) (by decide) rfl (Nat.le_of_ble_eq_true rfl) ?_
  intro p e s m args below meth c A ls C hr hlocks hnm hAe G hl
  refine zHide (fun Q9 hQ9 => ?_)
  have hx := C.1
  have hb := C.2.1
  have hl : lv_has ls 4 [(0, .ref t), (1, .int 1), (2, .int 0), (3, .ref rd)] := hl
  refine lv_iload_n hx hb dX9_keep_0 rfl (lv_at hl 1 rfl) ?_
  refine lv_if_lt (tgt := 18) hx hb dX9_keep_1 (by decide) (fun q => absurd q (by decide)) (fun _ => ?_)
  refine lv_iload_n hx hb dX9_keep_4 rfl (lv_at hl 1 rfl) ?_
  refine lv_iconst (v := 2) hx hb dX9_keep_5 (by decide) ?_
  refine lv_icmp_gt (tgt := 18) hx hb dX9_keep_6 (by decide) (fun q => absurd q (by decide)) (fun _ => ?_)
  refine lv_iload_n hx hb dX9_keep_9 rfl (lv_at hl 2 rfl) ?_
  refine lv_if_lt (tgt := 18) hx hb dX9_keep_10 (by decide) (fun q => absurd q (by decide)) (fun _ => ?_)
  refine lv_iload_n hx hb dX9_keep_13 rfl (lv_at hl 2 rfl) ?_
  refine lv_iconst (v := 2) hx hb dX9_keep_14 (by decide) ?_
  refine lv_icmp_lt (tgt := 19) hx hb dX9_keep_15 (by decide) (fun _ => ?_) (fun q => absurd (by decide) q)
  refine lv_iload_n hx hb dX9_keep_19 rfl (lv_at hl 1 rfl) ?_
  refine lv_if_ne (tgt := 39) hx hb dX9_keep_20 (by decide) (fun _ => ?_) (fun q => absurd q (by decide))
  refine lv_iload_n hx hb dX9_keep_39 rfl (lv_at hl 1 rfl) ?_
  refine lv_iconst (v := 1) hx hb dX9_keep_40 (by decide) ?_
  refine lv_icmp_ne (tgt := 60) hx hb dX9_keep_41 (by decide) (fun q => absurd (by decide) q) (fun _ => ?_)
  refine lv_aload_n hx hb dX9_keep_44 rfl (lv_at hl 0 rfl) ?_
  refine zEx8 ht ?_
  intro a1_1 a2_2 a3_3 a4_4 a5_5 q1_6 q2_7 q3_8
  refine zCu7 ?_
  intro hbs9 h_9 h_10 h_11 h_12 h_13 h_14
  clear ht
  subst hbs9
  have G : zS T A s.heap s [[zO8 t a1_1 ln fl pl a2_2 a3_3 a4_4 a5_5], [zAr T 1 a1_1 600 ft], [zAr T 0 a2_2 3 fk], [zArq T 3 a3_3 2 q1_6], [zArq T 4 a4_4 2 q2_7], [zArq T 5 a5_5 2 q3_8], wd0_, [zO7 rd rl rdd rg r0 r1 tp r2 r3 r4 r5 r6 r7 r8], wd] _ _ := G.re rfl
  refine z_get C G clX9 0 rfl 6 (by decide) m_fl_RX9_33 rfl dX9_keep_45 ?_
  refine lv_iload_n hx hb dX9_keep_48 rfl (lv_at hl 2 rfl) ?_
  refine z_ald C G 4 4 rfl rfl (vp_in_nI (n := 0) (by decide) (by decide)) dX9_keep_49 ?_
  rw [show q2_7 ((0 : Int32).toNatClampNeg) = some d0 from h_11]
  refine lv_aload_n hx hb dX9_keep_50 rfl (lv_at hl 3 rfl) ?_
  refine z_get C G clX7 7 rfl 1 (by decide) m_fl_RX9_57 rfl dX9_keep_51 ?_
  refine z_Vv (bc := [wd0_, wd]) (br := [[zO8 t a1_1 ln fl pl a2_2 a3_3 a4_4 a5_5], [zAr T 1 a1_1 600 ft], [zAr T 0 a2_2 3 fk], [zArq T 3 a3_3 2 q1_6], [zArq T 4 a4_4 2 q2_7], [zArq T 5 a5_5 2 q3_8], [zO7 rd rl rdd rg r0 r1 tp r2 r3 r4 r5 r6 r7 r8]]) (As := [.ref rdd]) (rest := []) C G (c_Day_takeAll l T d0 rdd dd0_ p10_ p20_ p30_ dd v1 v2 v3 wd0_ wd hd0_ hd) (kV_RX9_61 C.2.2.2.2 (Nat.le_of_ble_eq_true rfl) (Nat.le_of_ble_eq_true rfl)) [6, 8] [6, 1] rfl rfl (ci := 2) (qc := (RX2, TX2, 4)) rfl rfl (List.mem_flatten.mpr ⟨_, List.mem_of_getElem? (i := 0) rfl, (bDay_mem hd0_).choose_spec⟩) rfl rfl hl.1 dX9_keep_54 (Nat.le_of_ble_eq_true rfl) (Nat.le_of_ble_eq_true rfl) (fun b1 H locs hw G => ?_)
  refine zEx4 hw ?_
  intro w2_15 g1_16 g2_17 g3_18
  refine zCu5 ?_
  intro hbs9 h_19 h_20 h_21 h_22
  clear hw
  subst hbs9
  have G : zS T A s.heap s [[zO8 t a1_1 ln fl pl a2_2 a3_3 a4_4 a5_5], [zAr T 1 a1_1 600 ft], [zAr T 0 a2_2 3 fk], [zArq T 3 a3_3 2 q1_6], [zArq T 4 a4_4 2 q2_7], [zArq T 5 a5_5 2 q3_8], [zO7 rd rl rdd rg r0 r1 tp r2 r3 r4 r5 r6 r7 r8], w2_15, wd] _ _ := G
  refine lv_goto (tgt := 73) hx hb dX9_keep_57 (by decide) ?_
  refine lv_aload_n hx hb dX9_keep_73 rfl (lv_at hl 0 rfl) ?_
  refine z_get C G clX9 0 rfl 4 (by decide) m_fl_RX9_19 rfl dX9_keep_74 ?_
  refine lv_iload_n hx hb dX9_keep_77 rfl (lv_at hl 1 rfl) ?_
  refine lv_aload_n hx hb dX9_keep_78 rfl (lv_at hl 0 rfl) ?_
  refine z_get C G clX9 0 rfl 4 (by decide) m_fl_RX9_19 rfl dX9_keep_79 ?_
  refine lv_iload_n hx hb dX9_keep_82 rfl (lv_at hl 1 rfl) ?_
  refine z_ild C G 2 rfl (vp_in_nI (n := 1) (by decide) (by decide)) dX9_keep_83 ?_
  refine lv_topi (fun v_24 ev_24 => ?_)
  rw [show ((1 : Int32).toNatClampNeg) = 1 from rfl] at ev_24
  subst ev_24
  refine lv_iload_n hx hb dX9_keep_84 rfl (lv_at hl 2 rfl) ?_
  refine lv_iconst (v := 1) hx hb dX9_keep_85 (by decide) ?_
  refine lv_iadd hx hb dX9_keep_86 ?_
  refine lv_topi (fun y_25 ey_25 => ?_)
  obtain rfl : y_25 = 1 := ey_25.trans (by decide)
  refine va_mmax hx hb (C.2.2.1.trans hl.1.symm) C.2.2.2.1 (C.2.2.2.2 _ m_ml_RX9_71) (C.2.2.2.2 _ m_st_math_max) (C.2.2.2.2 _ m_ii_math) (C.2.2.2.2 _ m_co_math_max) (Nat.le_of_ble_eq_true rfl) (Nat.le_of_ble_eq_true rfl) (Nat.le_of_ble_eq_true rfl) (Nat.le_of_ble_eq_true rfl) dX9_keep_87 ?_
  refine lv_topi (fun v_26 ev_26 => ?_)
  subst ev_26
  refine z_ist C G 2 rfl (vp_in_nI (n := 1) (by decide) (by decide)) dX9_keep_90 (fun H locs G => ?_)
  have G : zS T A s.heap s [[zO8 t a1_1 ln fl pl a2_2 a3_3 a4_4 a5_5], [zAr T 1 a1_1 600 ft], [zAr T 0 a2_2 3 (upd fk 1 (if (fk 1) < 1 then 1 else (fk 1)))], [zArq T 3 a3_3 2 q1_6], [zArq T 4 a4_4 2 q2_7], [zArq T 5 a5_5 2 q3_8], [zO7 rd rl rdd rg r0 r1 tp r2 r3 r4 r5 r6 r7 r8], w2_15, wd] _ _ := G
  have hw_27 : bTold T t l0 l1 d0 d1 g0 g1 ln fl pl ft (upd fk 1 (if (fk 1) < 1 then 1 else (fk 1))) [zO8 t a1_1 ln fl pl a2_2 a3_3 a4_4 a5_5, zAr T 1 a1_1 600 ft, zAr T 0 a2_2 3 (upd fk 1 (if (fk 1) < 1 then 1 else (fk 1))), zArq T 3 a3_3 2 q1_6, zArq T 4 a4_4 2 q2_7, zArq T 5 a5_5 2 q3_8] := ⟨a1_1, a2_2, a3_3, a4_4, a5_5, q1_6, q2_7, q3_8, rfl, h_9, h_10, h_11, h_12, h_13, h_14⟩
  have G : zS T A s.heap s [[zO8 t a1_1 ln fl pl a2_2 a3_3 a4_4 a5_5, zAr T 1 a1_1 600 ft, zAr T 0 a2_2 3 (upd fk 1 (if (fk 1) < 1 then 1 else (fk 1))), zArq T 3 a3_3 2 q1_6, zArq T 4 a4_4 2 q2_7, zArq T 5 a5_5 2 q3_8], [zO7 rd rl rdd rg r0 r1 tp r2 r3 r4 r5 r6 r7 r8], w2_15, wd] _ _ := G.re rfl
  have G := G.sub (bs' := [[zO8 t a1_1 ln fl pl a2_2 a3_3 a4_4 a5_5, zAr T 1 a1_1 600 ft, zAr T 0 a2_2 3 (upd fk 1 (if (fk 1) < 1 then 1 else (fk 1))), zArq T 3 a3_3 2 q1_6, zArq T 4 a4_4 2 q2_7, zArq T 5 a5_5 2 q3_8], w2_15, [zO7 rd rl rdd rg r0 r1 tp r2 r3 r4 r5 r6 r7 r8], wd]) [0, 2, 1, 3] rfl
  exact z_back hQ9 (z_vret C hr hlocks G (Nat.le_of_ble_eq_true rfl) (Nat.le_of_ble_eq_true rfl) dX9_keep_91 ⟨([zO8 t a1_1 ln fl pl a2_2 a3_3 a4_4 a5_5, zAr T 1 a1_1 600 ft, zAr T 0 a2_2 3 (upd fk 1 (if (fk 1) < 1 then 1 else (fk 1))), zArq T 3 a3_3 2 q1_6, zArq T 4 a4_4 2 q2_7, zArq T 5 a5_5 2 q3_8]), (upd fk 1 (if (fk 1) < 1 then 1 else (fk 1))), w2_15, g1_16, g2_17, g3_18, rfl, hw_27, h_19, (zKT_upd hK 1 (z_maxK (hK 1 (by decide)) (by decide))), h_20, h_21, h_22, rfl⟩)
set_option maxHeartbeats 4000000 in
set_option maxRecDepth 100000 in
/-- c_f_keep_11 -/
theorem c_f_keep_11 (l : Launch) (T : zTy) (t : Nat) (l0 : Nat) (l1 : Nat) (d0 : Nat) (d1 : Nat) (g0 : Nat) (g1 : Nat) (ln : Int32) (fl : Int32) (pl : Int32) (ft : Nat → Int32) (fk : Nat → Int32) (wt : va_W) (dd1_ : Int32) (p11_ : Nat → Int32) (p21_ : Nat → Int32) (p31_ : Nat → Int32) (wd1_ : va_W) (rd : Nat) (rl : Nat) (rdd : Nat) (rg : Nat) (tp : Nat) (r0 : Int32) (r1 : Int32) (r2 : Int32) (r3 : Int32) (r4 : Int32) (r5 : Int32) (r6 : Int32) (r7 : Int32) (r8 : Int32) (dd : Int32) (v1 : Nat → Int32) (v2 : Nat → Int32) (v3 : Nat → Int32) (wd : va_W) (ht : bTold T t l0 l1 d0 d1 g0 g1 ln fl pl ft fk wt) (hK : zKT fk) (hd1_ : bDay T d1 dd1_ p11_ p21_ p31_ wd1_) (hd : bDay T rdd dd v1 v2 v3 wd) : zMv l T yX9_keep cX9_keep 4 2 0 0 [.ref t, .int 1, .int 1, .ref rd] [wt, wd1_, [zO7 rd rl rdd rg r0 r1 tp r2 r3 r4 r5 r6 r7 r8], wd] (fun bs => ∃ (wt2 : va_W) (fk2 : Nat → Int32) (w2_ : va_W) (s1_ : Nat → Int32) (s2_ : Nat → Int32) (s3_ : Nat → Int32), bs = [wt2, w2_, [zO7 rd rl rdd rg r0 r1 tp r2 r3 r4 r5 r6 r7 r8], wd] ∧ bTold T t l0 l1 d0 d1 g0 g1 ln fl pl ft fk2 wt2 ∧ bDay T d1 dd s1_ s2_ s3_ w2_ ∧ zKT fk2 ∧ (∀ j, j < 40 → s1_ j = v1 j) ∧ (∀ j, j < 40 → s2_ j = v2 j) ∧ (∀ j, j < 40 → s3_ j = v3 j) ∧ fk2 = upd fk 1 (if fk 1 < 2 then 2 else fk 1)) := by
  refine zMv_of (own := RX9) (by decide) rfl (Nat.le_of_ble_eq_true rfl) ?_
  intro p e s m args below meth c A ls C hr hlocks hnm hAe G hl
  refine zHide (fun Q9 hQ9 => ?_)
  have hx := C.1
  have hb := C.2.1
  have hl : lv_has ls 4 [(0, .ref t), (1, .int 1), (2, .int 1), (3, .ref rd)] := hl
  refine lv_iload_n hx hb dX9_keep_0 rfl (lv_at hl 1 rfl) ?_
  refine lv_if_lt (tgt := 18) hx hb dX9_keep_1 (by decide) (fun q => absurd q (by decide)) (fun _ => ?_)
  refine lv_iload_n hx hb dX9_keep_4 rfl (lv_at hl 1 rfl) ?_
  refine lv_iconst (v := 2) hx hb dX9_keep_5 (by decide) ?_
  refine lv_icmp_gt (tgt := 18) hx hb dX9_keep_6 (by decide) (fun q => absurd q (by decide)) (fun _ => ?_)
  refine lv_iload_n hx hb dX9_keep_9 rfl (lv_at hl 2 rfl) ?_
  refine lv_if_lt (tgt := 18) hx hb dX9_keep_10 (by decide) (fun q => absurd q (by decide)) (fun _ => ?_)
  refine lv_iload_n hx hb dX9_keep_13 rfl (lv_at hl 2 rfl) ?_
  refine lv_iconst (v := 2) hx hb dX9_keep_14 (by decide) ?_
  refine lv_icmp_lt (tgt := 19) hx hb dX9_keep_15 (by decide) (fun _ => ?_) (fun q => absurd (by decide) q)
  refine lv_iload_n hx hb dX9_keep_19 rfl (lv_at hl 1 rfl) ?_
  refine lv_if_ne (tgt := 39) hx hb dX9_keep_20 (by decide) (fun _ => ?_) (fun q => absurd q (by decide))
  refine lv_iload_n hx hb dX9_keep_39 rfl (lv_at hl 1 rfl) ?_
  refine lv_iconst (v := 1) hx hb dX9_keep_40 (by decide) ?_
  refine lv_icmp_ne (tgt := 60) hx hb dX9_keep_41 (by decide) (fun q => absurd (by decide) q) (fun _ => ?_)
  refine lv_aload_n hx hb dX9_keep_44 rfl (lv_at hl 0 rfl) ?_
  refine zEx8 ht ?_
  intro a1_1 a2_2 a3_3 a4_4 a5_5 q1_6 q2_7 q3_8
  refine zCu7 ?_
  intro hbs9 h_9 h_10 h_11 h_12 h_13 h_14
  clear ht
  subst hbs9
  have G : zS T A s.heap s [[zO8 t a1_1 ln fl pl a2_2 a3_3 a4_4 a5_5], [zAr T 1 a1_1 600 ft], [zAr T 0 a2_2 3 fk], [zArq T 3 a3_3 2 q1_6], [zArq T 4 a4_4 2 q2_7], [zArq T 5 a5_5 2 q3_8], wd1_, [zO7 rd rl rdd rg r0 r1 tp r2 r3 r4 r5 r6 r7 r8], wd] _ _ := G.re rfl
  refine z_get C G clX9 0 rfl 6 (by decide) m_fl_RX9_33 rfl dX9_keep_45 ?_
  refine lv_iload_n hx hb dX9_keep_48 rfl (lv_at hl 2 rfl) ?_
  refine z_ald C G 4 4 rfl rfl (vp_in_nI (n := 1) (by decide) (by decide)) dX9_keep_49 ?_
  rw [show q2_7 ((1 : Int32).toNatClampNeg) = some d1 from h_12]
  refine lv_aload_n hx hb dX9_keep_50 rfl (lv_at hl 3 rfl) ?_
  refine z_get C G clX7 7 rfl 1 (by decide) m_fl_RX9_57 rfl dX9_keep_51 ?_
  refine z_Vv (bc := [wd1_, wd]) (br := [[zO8 t a1_1 ln fl pl a2_2 a3_3 a4_4 a5_5], [zAr T 1 a1_1 600 ft], [zAr T 0 a2_2 3 fk], [zArq T 3 a3_3 2 q1_6], [zArq T 4 a4_4 2 q2_7], [zArq T 5 a5_5 2 q3_8], [zO7 rd rl rdd rg r0 r1 tp r2 r3 r4 r5 r6 r7 r8]]) (As := [.ref rdd]) (rest := []) C G (c_Day_takeAll l T d1 rdd dd1_ p11_ p21_ p31_ dd v1 v2 v3 wd1_ wd hd1_ hd) (kV_RX9_61 C.2.2.2.2 (Nat.le_of_ble_eq_true rfl) (Nat.le_of_ble_eq_true rfl)) [6, 8] [6, 1] rfl rfl (ci := 2) (qc := (RX2, TX2, 4)) rfl rfl (List.mem_flatten.mpr ⟨_, List.mem_of_getElem? (i := 0) rfl, (bDay_mem hd1_).choose_spec⟩) rfl rfl hl.1 dX9_keep_54 (Nat.le_of_ble_eq_true rfl) (Nat.le_of_ble_eq_true rfl) (fun b1 H locs hw G => ?_)
  refine zEx4 hw ?_
  intro w2_15 g1_16 g2_17 g3_18
  refine zCu5 ?_
  intro hbs9 h_19 h_20 h_21 h_22
  clear hw
  subst hbs9
  have G : zS T A s.heap s [[zO8 t a1_1 ln fl pl a2_2 a3_3 a4_4 a5_5], [zAr T 1 a1_1 600 ft], [zAr T 0 a2_2 3 fk], [zArq T 3 a3_3 2 q1_6], [zArq T 4 a4_4 2 q2_7], [zArq T 5 a5_5 2 q3_8], [zO7 rd rl rdd rg r0 r1 tp r2 r3 r4 r5 r6 r7 r8], w2_15, wd] _ _ := G
  refine lv_goto (tgt := 73) hx hb dX9_keep_57 (by decide) ?_
  refine lv_aload_n hx hb dX9_keep_73 rfl (lv_at hl 0 rfl) ?_
  refine z_get C G clX9 0 rfl 4 (by decide) m_fl_RX9_19 rfl dX9_keep_74 ?_
  refine lv_iload_n hx hb dX9_keep_77 rfl (lv_at hl 1 rfl) ?_
  refine lv_aload_n hx hb dX9_keep_78 rfl (lv_at hl 0 rfl) ?_
  refine z_get C G clX9 0 rfl 4 (by decide) m_fl_RX9_19 rfl dX9_keep_79 ?_
  refine lv_iload_n hx hb dX9_keep_82 rfl (lv_at hl 1 rfl) ?_
  refine z_ild C G 2 rfl (vp_in_nI (n := 1) (by decide) (by decide)) dX9_keep_83 ?_
  refine lv_topi (fun v_24 ev_24 => ?_)
  rw [show ((1 : Int32).toNatClampNeg) = 1 from rfl] at ev_24
  subst ev_24
  refine lv_iload_n hx hb dX9_keep_84 rfl (lv_at hl 2 rfl) ?_
  refine lv_iconst (v := 1) hx hb dX9_keep_85 (by decide) ?_
  refine lv_iadd hx hb dX9_keep_86 ?_
  refine lv_topi (fun y_25 ey_25 => ?_)
  obtain rfl : y_25 = 2 := ey_25.trans (by decide)
  refine va_mmax hx hb (C.2.2.1.trans hl.1.symm) C.2.2.2.1 (C.2.2.2.2 _ m_ml_RX9_71) (C.2.2.2.2 _ m_st_math_max) (C.2.2.2.2 _ m_ii_math) (C.2.2.2.2 _ m_co_math_max) (Nat.le_of_ble_eq_true rfl) (Nat.le_of_ble_eq_true rfl) (Nat.le_of_ble_eq_true rfl) (Nat.le_of_ble_eq_true rfl) dX9_keep_87 ?_
  refine lv_topi (fun v_26 ev_26 => ?_)
  subst ev_26
  refine z_ist C G 2 rfl (vp_in_nI (n := 1) (by decide) (by decide)) dX9_keep_90 (fun H locs G => ?_)
  have G : zS T A s.heap s [[zO8 t a1_1 ln fl pl a2_2 a3_3 a4_4 a5_5], [zAr T 1 a1_1 600 ft], [zAr T 0 a2_2 3 (upd fk 1 (if (fk 1) < 2 then 2 else (fk 1)))], [zArq T 3 a3_3 2 q1_6], [zArq T 4 a4_4 2 q2_7], [zArq T 5 a5_5 2 q3_8], [zO7 rd rl rdd rg r0 r1 tp r2 r3 r4 r5 r6 r7 r8], w2_15, wd] _ _ := G
  have hw_27 : bTold T t l0 l1 d0 d1 g0 g1 ln fl pl ft (upd fk 1 (if (fk 1) < 2 then 2 else (fk 1))) [zO8 t a1_1 ln fl pl a2_2 a3_3 a4_4 a5_5, zAr T 1 a1_1 600 ft, zAr T 0 a2_2 3 (upd fk 1 (if (fk 1) < 2 then 2 else (fk 1))), zArq T 3 a3_3 2 q1_6, zArq T 4 a4_4 2 q2_7, zArq T 5 a5_5 2 q3_8] := ⟨a1_1, a2_2, a3_3, a4_4, a5_5, q1_6, q2_7, q3_8, rfl, h_9, h_10, h_11, h_12, h_13, h_14⟩
  have G : zS T A s.heap s [[zO8 t a1_1 ln fl pl a2_2 a3_3 a4_4 a5_5, zAr T 1 a1_1 600 ft, zAr T 0 a2_2 3 (upd fk 1 (if (fk 1) < 2 then 2 else (fk 1))), zArq T 3 a3_3 2 q1_6, zArq T 4 a4_4 2 q2_7, zArq T 5 a5_5 2 q3_8], [zO7 rd rl rdd rg r0 r1 tp r2 r3 r4 r5 r6 r7 r8], w2_15, wd] _ _ := G.re rfl
  have G := G.sub (bs' := [[zO8 t a1_1 ln fl pl a2_2 a3_3 a4_4 a5_5, zAr T 1 a1_1 600 ft, zAr T 0 a2_2 3 (upd fk 1 (if (fk 1) < 2 then 2 else (fk 1))), zArq T 3 a3_3 2 q1_6, zArq T 4 a4_4 2 q2_7, zArq T 5 a5_5 2 q3_8], w2_15, [zO7 rd rl rdd rg r0 r1 tp r2 r3 r4 r5 r6 r7 r8], wd]) [0, 2, 1, 3] rfl
  exact z_back hQ9 (z_vret C hr hlocks G (Nat.le_of_ble_eq_true rfl) (Nat.le_of_ble_eq_true rfl) dX9_keep_91 ⟨([zO8 t a1_1 ln fl pl a2_2 a3_3 a4_4 a5_5, zAr T 1 a1_1 600 ft, zAr T 0 a2_2 3 (upd fk 1 (if (fk 1) < 2 then 2 else (fk 1))), zArq T 3 a3_3 2 q1_6, zArq T 4 a4_4 2 q2_7, zArq T 5 a5_5 2 q3_8]), (upd fk 1 (if (fk 1) < 2 then 2 else (fk 1))), w2_15, g1_16, g2_17, g3_18, rfl, hw_27, h_19, (zKT_upd hK 1 (z_maxK (hK 1 (by decide)) (by decide))), h_20, h_21, h_22, rfl⟩)
set_option maxHeartbeats 4000000 in
set_option maxRecDepth 100000 in
/-- c_f_keep_20 -/
theorem c_f_keep_20 (l : Launch) (T : zTy) (t : Nat) (l0 : Nat) (l1 : Nat) (d0 : Nat) (d1 : Nat) (g0 : Nat) (g1 : Nat) (ln : Int32) (fl : Int32) (pl : Int32) (ft : Nat → Int32) (fk : Nat → Int32) (wt : va_W) (gg0_ : Int32) (q10_ : Nat → Int32) (q20_ : Nat → Int32) (wg0_ : va_W) (rd : Nat) (rl : Nat) (rdd : Nat) (rg : Nat) (tp : Nat) (r0 : Int32) (r1 : Int32) (r2 : Int32) (r3 : Int32) (r4 : Int32) (r5 : Int32) (r6 : Int32) (r7 : Int32) (r8 : Int32) (gg : Int32) (e1 : Nat → Int32) (e2 : Nat → Int32) (wg : va_W) (ht : bTold T t l0 l1 d0 d1 g0 g1 ln fl pl ft fk wt) (hK : zKT fk) (hg0_ : bLog T g0 gg0_ q10_ q20_ wg0_) (hg : bLog T rg gg e1 e2 wg) : zMv l T yX9_keep cX9_keep 4 2 0 0 [.ref t, .int 2, .int 0, .ref rd] [wt, wg0_, [zO7 rd rl rdd rg r0 r1 tp r2 r3 r4 r5 r6 r7 r8], wg] (fun bs => ∃ (wt2 : va_W) (fk2 : Nat → Int32) (w2_ : va_W) (s1_ : Nat → Int32) (s2_ : Nat → Int32), bs = [wt2, w2_, [zO7 rd rl rdd rg r0 r1 tp r2 r3 r4 r5 r6 r7 r8], wg] ∧ bTold T t l0 l1 d0 d1 g0 g1 ln fl pl ft fk2 wt2 ∧ bLog T g0 gg s1_ s2_ w2_ ∧ zKT fk2 ∧ (∀ j, j < 8 → s1_ j = e1 j) ∧ (∀ j, j < 8 → s2_ j = e2 j) ∧ fk2 = upd fk 2 (if fk 2 < 1 then 1 else fk 2)) := by
  refine zMv_of (own := RX9) (by decide) rfl (Nat.le_of_ble_eq_true rfl) ?_
  intro p e s m args below meth c A ls C hr hlocks hnm hAe G hl
  refine zHide (fun Q9 hQ9 => ?_)
  have hx := C.1
  have hb := C.2.1
  have hl : lv_has ls 4 [(0, .ref t), (1, .int 2), (2, .int 0), (3, .ref rd)] := hl
  refine lv_iload_n hx hb dX9_keep_0 rfl (lv_at hl 1 rfl) ?_
  refine lv_if_lt (tgt := 18) hx hb dX9_keep_1 (by decide) (fun q => absurd q (by decide)) (fun _ => ?_)
  refine lv_iload_n hx hb dX9_keep_4 rfl (lv_at hl 1 rfl) ?_
  refine lv_iconst (v := 2) hx hb dX9_keep_5 (by decide) ?_
  refine lv_icmp_gt (tgt := 18) hx hb dX9_keep_6 (by decide) (fun q => absurd q (by decide)) (fun _ => ?_)
  refine lv_iload_n hx hb dX9_keep_9 rfl (lv_at hl 2 rfl) ?_
  refine lv_if_lt (tgt := 18) hx hb dX9_keep_10 (by decide) (fun q => absurd q (by decide)) (fun _ => ?_)
  refine lv_iload_n hx hb dX9_keep_13 rfl (lv_at hl 2 rfl) ?_
  refine lv_iconst (v := 2) hx hb dX9_keep_14 (by decide) ?_
  refine lv_icmp_lt (tgt := 19) hx hb dX9_keep_15 (by decide) (fun _ => ?_) (fun q => absurd (by decide) q)
  refine lv_iload_n hx hb dX9_keep_19 rfl (lv_at hl 1 rfl) ?_
  refine lv_if_ne (tgt := 39) hx hb dX9_keep_20 (by decide) (fun _ => ?_) (fun q => absurd q (by decide))
  refine lv_iload_n hx hb dX9_keep_39 rfl (lv_at hl 1 rfl) ?_
  refine lv_iconst (v := 1) hx hb dX9_keep_40 (by decide) ?_
  refine lv_icmp_ne (tgt := 60) hx hb dX9_keep_41 (by decide) (fun _ => ?_) (fun q => absurd q (by decide))
  refine lv_aload_n hx hb dX9_keep_60 rfl (lv_at hl 0 rfl) ?_
  refine zEx8 ht ?_
  intro a1_1 a2_2 a3_3 a4_4 a5_5 q1_6 q2_7 q3_8
  refine zCu7 ?_
  intro hbs9 h_9 h_10 h_11 h_12 h_13 h_14
  clear ht
  subst hbs9
  have G : zS T A s.heap s [[zO8 t a1_1 ln fl pl a2_2 a3_3 a4_4 a5_5], [zAr T 1 a1_1 600 ft], [zAr T 0 a2_2 3 fk], [zArq T 3 a3_3 2 q1_6], [zArq T 4 a4_4 2 q2_7], [zArq T 5 a5_5 2 q3_8], wg0_, [zO7 rd rl rdd rg r0 r1 tp r2 r3 r4 r5 r6 r7 r8], wg] _ _ := G.re rfl
  refine z_get C G clX9 0 rfl 7 (by decide) m_fl_RX9_40 rfl dX9_keep_61 ?_
  refine lv_iload_n hx hb dX9_keep_64 rfl (lv_at hl 2 rfl) ?_
  refine z_ald C G 5 5 rfl rfl (vp_in_nI (n := 0) (by decide) (by decide)) dX9_keep_65 ?_
  rw [show q3_8 ((0 : Int32).toNatClampNeg) = some g0 from h_13]
  refine lv_aload_n hx hb dX9_keep_66 rfl (lv_at hl 3 rfl) ?_
  refine z_get C G clX7 7 rfl 2 (by decide) m_fl_RX9_64 rfl dX9_keep_67 ?_
  refine z_Vv (bc := [wg0_, wg]) (br := [[zO8 t a1_1 ln fl pl a2_2 a3_3 a4_4 a5_5], [zAr T 1 a1_1 600 ft], [zAr T 0 a2_2 3 fk], [zArq T 3 a3_3 2 q1_6], [zArq T 4 a4_4 2 q2_7], [zArq T 5 a5_5 2 q3_8], [zO7 rd rl rdd rg r0 r1 tp r2 r3 r4 r5 r6 r7 r8]]) (As := [.ref rg]) (rest := []) C G (c_Log_takeAll l T g0 rg gg0_ q10_ q20_ gg e1 e2 wg0_ wg hg0_ hg) (kV_RX9_68 C.2.2.2.2 (Nat.le_of_ble_eq_true rfl) (Nat.le_of_ble_eq_true rfl)) [6, 8] [6, 1] rfl rfl (ci := 5) (qc := (RX5, TX5, 3)) rfl rfl (List.mem_flatten.mpr ⟨_, List.mem_of_getElem? (i := 0) rfl, (bLog_mem hg0_).choose_spec⟩) rfl rfl hl.1 dX9_keep_70 (Nat.le_of_ble_eq_true rfl) (Nat.le_of_ble_eq_true rfl) (fun b1 H locs hw G => ?_)
  refine zEx3 hw ?_
  intro w2_15 g1_16 g2_17
  refine zCu4 ?_
  intro hbs9 h_18 h_19 h_20
  clear hw
  subst hbs9
  have G : zS T A s.heap s [[zO8 t a1_1 ln fl pl a2_2 a3_3 a4_4 a5_5], [zAr T 1 a1_1 600 ft], [zAr T 0 a2_2 3 fk], [zArq T 3 a3_3 2 q1_6], [zArq T 4 a4_4 2 q2_7], [zArq T 5 a5_5 2 q3_8], [zO7 rd rl rdd rg r0 r1 tp r2 r3 r4 r5 r6 r7 r8], w2_15, wg] _ _ := G
  refine lv_aload_n hx hb dX9_keep_73 rfl (lv_at hl 0 rfl) ?_
  refine z_get C G clX9 0 rfl 4 (by decide) m_fl_RX9_19 rfl dX9_keep_74 ?_
  refine lv_iload_n hx hb dX9_keep_77 rfl (lv_at hl 1 rfl) ?_
  refine lv_aload_n hx hb dX9_keep_78 rfl (lv_at hl 0 rfl) ?_
  refine z_get C G clX9 0 rfl 4 (by decide) m_fl_RX9_19 rfl dX9_keep_79 ?_
  refine lv_iload_n hx hb dX9_keep_82 rfl (lv_at hl 1 rfl) ?_
  refine z_ild C G 2 rfl (vp_in_nI (n := 2) (by decide) (by decide)) dX9_keep_83 ?_
  refine lv_topi (fun v_22 ev_22 => ?_)
  rw [show ((2 : Int32).toNatClampNeg) = 2 from rfl] at ev_22
  subst ev_22
  refine lv_iload_n hx hb dX9_keep_84 rfl (lv_at hl 2 rfl) ?_
  refine lv_iconst (v := 1) hx hb dX9_keep_85 (by decide) ?_
  refine lv_iadd hx hb dX9_keep_86 ?_
  refine lv_topi (fun y_23 ey_23 => ?_)
  obtain rfl : y_23 = 1 := ey_23.trans (by decide)
  refine va_mmax hx hb (C.2.2.1.trans hl.1.symm) C.2.2.2.1 (C.2.2.2.2 _ m_ml_RX9_71) (C.2.2.2.2 _ m_st_math_max) (C.2.2.2.2 _ m_ii_math) (C.2.2.2.2 _ m_co_math_max) (Nat.le_of_ble_eq_true rfl) (Nat.le_of_ble_eq_true rfl) (Nat.le_of_ble_eq_true rfl) (Nat.le_of_ble_eq_true rfl) dX9_keep_87 ?_
  refine lv_topi (fun v_24 ev_24 => ?_)
  subst ev_24
  refine z_ist C G 2 rfl (vp_in_nI (n := 2) (by decide) (by decide)) dX9_keep_90 (fun H locs G => ?_)
  have G : zS T A s.heap s [[zO8 t a1_1 ln fl pl a2_2 a3_3 a4_4 a5_5], [zAr T 1 a1_1 600 ft], [zAr T 0 a2_2 3 (upd fk 2 (if (fk 2) < 1 then 1 else (fk 2)))], [zArq T 3 a3_3 2 q1_6], [zArq T 4 a4_4 2 q2_7], [zArq T 5 a5_5 2 q3_8], [zO7 rd rl rdd rg r0 r1 tp r2 r3 r4 r5 r6 r7 r8], w2_15, wg] _ _ := G
  have hw_25 : bTold T t l0 l1 d0 d1 g0 g1 ln fl pl ft (upd fk 2 (if (fk 2) < 1 then 1 else (fk 2))) [zO8 t a1_1 ln fl pl a2_2 a3_3 a4_4 a5_5, zAr T 1 a1_1 600 ft, zAr T 0 a2_2 3 (upd fk 2 (if (fk 2) < 1 then 1 else (fk 2))), zArq T 3 a3_3 2 q1_6, zArq T 4 a4_4 2 q2_7, zArq T 5 a5_5 2 q3_8] := ⟨a1_1, a2_2, a3_3, a4_4, a5_5, q1_6, q2_7, q3_8, rfl, h_9, h_10, h_11, h_12, h_13, h_14⟩
  have G : zS T A s.heap s [[zO8 t a1_1 ln fl pl a2_2 a3_3 a4_4 a5_5, zAr T 1 a1_1 600 ft, zAr T 0 a2_2 3 (upd fk 2 (if (fk 2) < 1 then 1 else (fk 2))), zArq T 3 a3_3 2 q1_6, zArq T 4 a4_4 2 q2_7, zArq T 5 a5_5 2 q3_8], [zO7 rd rl rdd rg r0 r1 tp r2 r3 r4 r5 r6 r7 r8], w2_15, wg] _ _ := G.re rfl
  have G := G.sub (bs' := [[zO8 t a1_1 ln fl pl a2_2 a3_3 a4_4 a5_5, zAr T 1 a1_1 600 ft, zAr T 0 a2_2 3 (upd fk 2 (if (fk 2) < 1 then 1 else (fk 2))), zArq T 3 a3_3 2 q1_6, zArq T 4 a4_4 2 q2_7, zArq T 5 a5_5 2 q3_8], w2_15, [zO7 rd rl rdd rg r0 r1 tp r2 r3 r4 r5 r6 r7 r8], wg]) [0, 2, 1, 3] rfl
  exact z_back hQ9 (z_vret C hr hlocks G (Nat.le_of_ble_eq_true rfl) (Nat.le_of_ble_eq_true rfl) dX9_keep_91 ⟨([zO8 t a1_1 ln fl pl a2_2 a3_3 a4_4 a5_5, zAr T 1 a1_1 600 ft, zAr T 0 a2_2 3 (upd fk 2 (if (fk 2) < 1 then 1 else (fk 2))), zArq T 3 a3_3 2 q1_6, zArq T 4 a4_4 2 q2_7, zArq T 5 a5_5 2 q3_8]), (upd fk 2 (if (fk 2) < 1 then 1 else (fk 2))), w2_15, g1_16, g2_17, rfl, hw_25, h_18, (zKT_upd hK 2 (z_maxK (hK 2 (by decide)) (by decide))), h_19, h_20, rfl⟩)
set_option maxHeartbeats 4000000 in
set_option maxRecDepth 100000 in
/-- c_f_keep_21 -/
theorem c_f_keep_21 (l : Launch) (T : zTy) (t : Nat) (l0 : Nat) (l1 : Nat) (d0 : Nat) (d1 : Nat) (g0 : Nat) (g1 : Nat) (ln : Int32) (fl : Int32) (pl : Int32) (ft : Nat → Int32) (fk : Nat → Int32) (wt : va_W) (gg1_ : Int32) (q11_ : Nat → Int32) (q21_ : Nat → Int32) (wg1_ : va_W) (rd : Nat) (rl : Nat) (rdd : Nat) (rg : Nat) (tp : Nat) (r0 : Int32) (r1 : Int32) (r2 : Int32) (r3 : Int32) (r4 : Int32) (r5 : Int32) (r6 : Int32) (r7 : Int32) (r8 : Int32) (gg : Int32) (e1 : Nat → Int32) (e2 : Nat → Int32) (wg : va_W) (ht : bTold T t l0 l1 d0 d1 g0 g1 ln fl pl ft fk wt) (hK : zKT fk) (hg1_ : bLog T g1 gg1_ q11_ q21_ wg1_) (hg : bLog T rg gg e1 e2 wg) : zMv l T yX9_keep cX9_keep 4 2 0 0 [.ref t, .int 2, .int 1, .ref rd] [wt, wg1_, [zO7 rd rl rdd rg r0 r1 tp r2 r3 r4 r5 r6 r7 r8], wg] (fun bs => ∃ (wt2 : va_W) (fk2 : Nat → Int32) (w2_ : va_W) (s1_ : Nat → Int32) (s2_ : Nat → Int32), bs = [wt2, w2_, [zO7 rd rl rdd rg r0 r1 tp r2 r3 r4 r5 r6 r7 r8], wg] ∧ bTold T t l0 l1 d0 d1 g0 g1 ln fl pl ft fk2 wt2 ∧ bLog T g1 gg s1_ s2_ w2_ ∧ zKT fk2 ∧ (∀ j, j < 8 → s1_ j = e1 j) ∧ (∀ j, j < 8 → s2_ j = e2 j) ∧ fk2 = upd fk 2 (if fk 2 < 2 then 2 else fk 2)) := by
  refine zMv_of (own := RX9) (by decide) rfl (Nat.le_of_ble_eq_true rfl) ?_
  intro p e s m args below meth c A ls C hr hlocks hnm hAe G hl
  refine zHide (fun Q9 hQ9 => ?_)
  have hx := C.1
  have hb := C.2.1
  have hl : lv_has ls 4 [(0, .ref t), (1, .int 2), (2, .int 1), (3, .ref rd)] := hl
  refine lv_iload_n hx hb dX9_keep_0 rfl (lv_at hl 1 rfl) ?_
  refine lv_if_lt (tgt := 18) hx hb dX9_keep_1 (by decide) (fun q => absurd q (by decide)) (fun _ => ?_)
  refine lv_iload_n hx hb dX9_keep_4 rfl (lv_at hl 1 rfl) ?_
  refine lv_iconst (v := 2) hx hb dX9_keep_5 (by decide) ?_
  refine lv_icmp_gt (tgt := 18) hx hb dX9_keep_6 (by decide) (fun q => absurd q (by decide)) (fun _ => ?_)
  refine lv_iload_n hx hb dX9_keep_9 rfl (lv_at hl 2 rfl) ?_
  refine lv_if_lt (tgt := 18) hx hb dX9_keep_10 (by decide) (fun q => absurd q (by decide)) (fun _ => ?_)
  refine lv_iload_n hx hb dX9_keep_13 rfl (lv_at hl 2 rfl) ?_
  refine lv_iconst (v := 2) hx hb dX9_keep_14 (by decide) ?_
  refine lv_icmp_lt (tgt := 19) hx hb dX9_keep_15 (by decide) (fun _ => ?_) (fun q => absurd (by decide) q)
  refine lv_iload_n hx hb dX9_keep_19 rfl (lv_at hl 1 rfl) ?_
  refine lv_if_ne (tgt := 39) hx hb dX9_keep_20 (by decide) (fun _ => ?_) (fun q => absurd q (by decide))
  refine lv_iload_n hx hb dX9_keep_39 rfl (lv_at hl 1 rfl) ?_
  refine lv_iconst (v := 1) hx hb dX9_keep_40 (by decide) ?_
  refine lv_icmp_ne (tgt := 60) hx hb dX9_keep_41 (by decide) (fun _ => ?_) (fun q => absurd q (by decide))
  refine lv_aload_n hx hb dX9_keep_60 rfl (lv_at hl 0 rfl) ?_
  refine zEx8 ht ?_
  intro a1_1 a2_2 a3_3 a4_4 a5_5 q1_6 q2_7 q3_8
  refine zCu7 ?_
  intro hbs9 h_9 h_10 h_11 h_12 h_13 h_14
  clear ht
  subst hbs9
  have G : zS T A s.heap s [[zO8 t a1_1 ln fl pl a2_2 a3_3 a4_4 a5_5], [zAr T 1 a1_1 600 ft], [zAr T 0 a2_2 3 fk], [zArq T 3 a3_3 2 q1_6], [zArq T 4 a4_4 2 q2_7], [zArq T 5 a5_5 2 q3_8], wg1_, [zO7 rd rl rdd rg r0 r1 tp r2 r3 r4 r5 r6 r7 r8], wg] _ _ := G.re rfl
  refine z_get C G clX9 0 rfl 7 (by decide) m_fl_RX9_40 rfl dX9_keep_61 ?_
  refine lv_iload_n hx hb dX9_keep_64 rfl (lv_at hl 2 rfl) ?_
  refine z_ald C G 5 5 rfl rfl (vp_in_nI (n := 1) (by decide) (by decide)) dX9_keep_65 ?_
  rw [show q3_8 ((1 : Int32).toNatClampNeg) = some g1 from h_14]
  refine lv_aload_n hx hb dX9_keep_66 rfl (lv_at hl 3 rfl) ?_
  refine z_get C G clX7 7 rfl 2 (by decide) m_fl_RX9_64 rfl dX9_keep_67 ?_
  refine z_Vv (bc := [wg1_, wg]) (br := [[zO8 t a1_1 ln fl pl a2_2 a3_3 a4_4 a5_5], [zAr T 1 a1_1 600 ft], [zAr T 0 a2_2 3 fk], [zArq T 3 a3_3 2 q1_6], [zArq T 4 a4_4 2 q2_7], [zArq T 5 a5_5 2 q3_8], [zO7 rd rl rdd rg r0 r1 tp r2 r3 r4 r5 r6 r7 r8]]) (As := [.ref rg]) (rest := []) C G (c_Log_takeAll l T g1 rg gg1_ q11_ q21_ gg e1 e2 wg1_ wg hg1_ hg) (kV_RX9_68 C.2.2.2.2 (Nat.le_of_ble_eq_true rfl) (Nat.le_of_ble_eq_true rfl)) [6, 8] [6, 1] rfl rfl (ci := 5) (qc := (RX5, TX5, 3)) rfl rfl (List.mem_flatten.mpr ⟨_, List.mem_of_getElem? (i := 0) rfl, (bLog_mem hg1_).choose_spec⟩) rfl rfl hl.1 dX9_keep_70 (Nat.le_of_ble_eq_true rfl) (Nat.le_of_ble_eq_true rfl) (fun b1 H locs hw G => ?_)
  refine zEx3 hw ?_
  intro w2_15 g1_16 g2_17
  refine zCu4 ?_
  intro hbs9 h_18 h_19 h_20
  clear hw
  subst hbs9
  have G : zS T A s.heap s [[zO8 t a1_1 ln fl pl a2_2 a3_3 a4_4 a5_5], [zAr T 1 a1_1 600 ft], [zAr T 0 a2_2 3 fk], [zArq T 3 a3_3 2 q1_6], [zArq T 4 a4_4 2 q2_7], [zArq T 5 a5_5 2 q3_8], [zO7 rd rl rdd rg r0 r1 tp r2 r3 r4 r5 r6 r7 r8], w2_15, wg] _ _ := G
  refine lv_aload_n hx hb dX9_keep_73 rfl (lv_at hl 0 rfl) ?_
  refine z_get C G clX9 0 rfl 4 (by decide) m_fl_RX9_19 rfl dX9_keep_74 ?_
  refine lv_iload_n hx hb dX9_keep_77 rfl (lv_at hl 1 rfl) ?_
  refine lv_aload_n hx hb dX9_keep_78 rfl (lv_at hl 0 rfl) ?_
  refine z_get C G clX9 0 rfl 4 (by decide) m_fl_RX9_19 rfl dX9_keep_79 ?_
  refine lv_iload_n hx hb dX9_keep_82 rfl (lv_at hl 1 rfl) ?_
  refine z_ild C G 2 rfl (vp_in_nI (n := 2) (by decide) (by decide)) dX9_keep_83 ?_
  refine lv_topi (fun v_22 ev_22 => ?_)
  rw [show ((2 : Int32).toNatClampNeg) = 2 from rfl] at ev_22
  subst ev_22
  refine lv_iload_n hx hb dX9_keep_84 rfl (lv_at hl 2 rfl) ?_
  refine lv_iconst (v := 1) hx hb dX9_keep_85 (by decide) ?_
  refine lv_iadd hx hb dX9_keep_86 ?_
  refine lv_topi (fun y_23 ey_23 => ?_)
  obtain rfl : y_23 = 2 := ey_23.trans (by decide)
  refine va_mmax hx hb (C.2.2.1.trans hl.1.symm) C.2.2.2.1 (C.2.2.2.2 _ m_ml_RX9_71) (C.2.2.2.2 _ m_st_math_max) (C.2.2.2.2 _ m_ii_math) (C.2.2.2.2 _ m_co_math_max) (Nat.le_of_ble_eq_true rfl) (Nat.le_of_ble_eq_true rfl) (Nat.le_of_ble_eq_true rfl) (Nat.le_of_ble_eq_true rfl) dX9_keep_87 ?_
  refine lv_topi (fun v_24 ev_24 => ?_)
  subst ev_24
  refine z_ist C G 2 rfl (vp_in_nI (n := 2) (by decide) (by decide)) dX9_keep_90 (fun H locs G => ?_)
  have G : zS T A s.heap s [[zO8 t a1_1 ln fl pl a2_2 a3_3 a4_4 a5_5], [zAr T 1 a1_1 600 ft], [zAr T 0 a2_2 3 (upd fk 2 (if (fk 2) < 2 then 2 else (fk 2)))], [zArq T 3 a3_3 2 q1_6], [zArq T 4 a4_4 2 q2_7], [zArq T 5 a5_5 2 q3_8], [zO7 rd rl rdd rg r0 r1 tp r2 r3 r4 r5 r6 r7 r8], w2_15, wg] _ _ := G
  have hw_25 : bTold T t l0 l1 d0 d1 g0 g1 ln fl pl ft (upd fk 2 (if (fk 2) < 2 then 2 else (fk 2))) [zO8 t a1_1 ln fl pl a2_2 a3_3 a4_4 a5_5, zAr T 1 a1_1 600 ft, zAr T 0 a2_2 3 (upd fk 2 (if (fk 2) < 2 then 2 else (fk 2))), zArq T 3 a3_3 2 q1_6, zArq T 4 a4_4 2 q2_7, zArq T 5 a5_5 2 q3_8] := ⟨a1_1, a2_2, a3_3, a4_4, a5_5, q1_6, q2_7, q3_8, rfl, h_9, h_10, h_11, h_12, h_13, h_14⟩
  have G : zS T A s.heap s [[zO8 t a1_1 ln fl pl a2_2 a3_3 a4_4 a5_5, zAr T 1 a1_1 600 ft, zAr T 0 a2_2 3 (upd fk 2 (if (fk 2) < 2 then 2 else (fk 2))), zArq T 3 a3_3 2 q1_6, zArq T 4 a4_4 2 q2_7, zArq T 5 a5_5 2 q3_8], [zO7 rd rl rdd rg r0 r1 tp r2 r3 r4 r5 r6 r7 r8], w2_15, wg] _ _ := G.re rfl
  have G := G.sub (bs' := [[zO8 t a1_1 ln fl pl a2_2 a3_3 a4_4 a5_5, zAr T 1 a1_1 600 ft, zAr T 0 a2_2 3 (upd fk 2 (if (fk 2) < 2 then 2 else (fk 2))), zArq T 3 a3_3 2 q1_6, zArq T 4 a4_4 2 q2_7, zArq T 5 a5_5 2 q3_8], w2_15, [zO7 rd rl rdd rg r0 r1 tp r2 r3 r4 r5 r6 r7 r8], wg]) [0, 2, 1, 3] rfl
  exact z_back hQ9 (z_vret C hr hlocks G (Nat.le_of_ble_eq_true rfl) (Nat.le_of_ble_eq_true rfl) dX9_keep_91 ⟨([zO8 t a1_1 ln fl pl a2_2 a3_3 a4_4 a5_5, zAr T 1 a1_1 600 ft, zAr T 0 a2_2 3 (upd fk 2 (if (fk 2) < 2 then 2 else (fk 2))), zArq T 3 a3_3 2 q1_6, zArq T 4 a4_4 2 q2_7, zArq T 5 a5_5 2 q3_8]), (upd fk 2 (if (fk 2) < 2 then 2 else (fk 2))), w2_15, g1_16, g2_17, rfl, hw_25, h_18, (zKT_upd hK 2 (z_maxK (hK 2 (by decide)) (by decide))), h_19, h_20, rfl⟩)


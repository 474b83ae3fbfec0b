set_option maxHeartbeats 4000000 in
set_option maxRecDepth 100000 in
/-- c_Land_takeAll -/
theorem c_Land_takeAll (l : Launch) (T : zTy) (h : Nat) (o : Nat) (w : va_W) (z : va_W) (hw : bLand T h w) (hz : bLand T o z) : zMv l T yX4_takeAll cX4_takeAll 3 1 0 0 [.ref h, .ref o] [w, z] (fun bs => ∃ (w2 : va_W) (z2 : va_W), bs = [w2, z2] ∧ bLand T h w2 ∧ bLand T o z2) := by
  refine zMv_of (own := RX4) (by decide) rfl (Nat.le_of_ble_eq_true rfl) ?_
  intro p e s m args below meth c A ls C hr hlocks hnm hAe G hl
  have hx := C.1
  have hb := C.2.1
  have hl : lv_has ls 3 [(0, .ref h), (1, .ref o)] := hl
  obtain ⟨a1_1, a2_2, a3_3, a4_4, v0_5, v1_6, f1_7, f2_8, f3_9, f4_10, rfl⟩ := hw
  have G : zS T A s.heap s [[(h, .inr (4, [.int v0_5, .int v1_6, .ref a1_1, .ref a2_2, .ref a3_3, .ref a4_4]))], [(a1_1, .inl (T.2 0, 7, .inl f1_7))], [(a2_2, .inl (T.2 0, 28, .inl f2_8))], [(a3_3, .inl (T.2 0, 7, .inl f3_9))], [(a4_4, .inl (T.2 0, 7, .inl f4_10))], z] _ _ := G.re rfl
  obtain ⟨a1_11, a2_12, a3_13, a4_14, v0_15, v1_16, f1_17, f2_18, f3_19, f4_20, rfl⟩ := hz
  have G : zS T A s.heap s [[(h, .inr (4, [.int v0_5, .int v1_6, .ref a1_1, .ref a2_2, .ref a3_3, .ref a4_4]))], [(a1_1, .inl (T.2 0, 7, .inl f1_7))], [(a2_2, .inl (T.2 0, 28, .inl f2_8))], [(a3_3, .inl (T.2 0, 7, .inl f3_9))], [(a4_4, .inl (T.2 0, 7, .inl f4_10))], [(o, .inr (4, [.int v0_15, .int v1_16, .ref a1_11, .ref a2_12, .ref a3_13, .ref a4_14]))], [(a1_11, .inl (T.2 0, 7, .inl f1_17))], [(a2_12, .inl (T.2 0, 28, .inl f2_18))], [(a3_13, .inl (T.2 0, 7, .inl f3_19))], [(a4_14, .inl (T.2 0, 7, .inl f4_20))]] _ _ := G.re rfl
  refine lv_aload_n hx hb dX4_takeAll_0 rfl (lv_at hl 0 rfl) ?_
  refine lv_aload_n hx hb dX4_takeAll_1 rfl (lv_at hl 1 rfl) ?_
  refine z_get C G clX4 5 rfl 0 (by decide) m_fl_RX4_24 rfl dX4_takeAll_2 ?_
  refine z_put C G clX4 0 rfl 0 (by decide) m_fl_RX4_24 rfl rfl rfl (Nat.le_of_ble_eq_true rfl) dX4_takeAll_5 (fun H locs G => ?_)
  have G : zS T A s.heap s [[(h, .inr (4, [.int v0_15, .int v1_6, .ref a1_1, .ref a2_2, .ref a3_3, .ref a4_4]))], [(a1_1, .inl (T.2 0, 7, .inl f1_7))], [(a2_2, .inl (T.2 0, 28, .inl f2_8))], [(a3_3, .inl (T.2 0, 7, .inl f3_9))], [(a4_4, .inl (T.2 0, 7, .inl f4_10))], [(o, .inr (4, [.int v0_15, .int v1_16, .ref a1_11, .ref a2_12, .ref a3_13, .ref a4_14]))], [(a1_11, .inl (T.2 0, 7, .inl f1_17))], [(a2_12, .inl (T.2 0, 28, .inl f2_18))], [(a3_13, .inl (T.2 0, 7, .inl f3_19))], [(a4_14, .inl (T.2 0, 7, .inl f4_20))]] _ _ := G
  refine lv_aload_n hx hb dX4_takeAll_8 rfl (lv_at hl 0 rfl) ?_
  refine lv_aload_n hx hb dX4_takeAll_9 rfl (lv_at hl 1 rfl) ?_
  refine z_get C G clX4 5 rfl 1 (by decide) m_fl_RX4_28 rfl dX4_takeAll_10 ?_
  refine z_put C G clX4 0 rfl 1 (by decide) m_fl_RX4_28 rfl rfl rfl (Nat.le_of_ble_eq_true rfl) dX4_takeAll_13 (fun H locs G => ?_)
  have G : zS T A s.heap s [[(h, .inr (4, [.int v0_15, .int v1_16, .ref a1_1, .ref a2_2, .ref a3_3, .ref a4_4]))], [(a1_1, .inl (T.2 0, 7, .inl f1_7))], [(a2_2, .inl (T.2 0, 28, .inl f2_8))], [(a3_3, .inl (T.2 0, 7, .inl f3_9))], [(a4_4, .inl (T.2 0, 7, .inl f4_10))], [(o, .inr (4, [.int v0_15, .int v1_16, .ref a1_11, .ref a2_12, .ref a3_13, .ref a4_14]))], [(a1_11, .inl (T.2 0, 7, .inl f1_17))], [(a2_12, .inl (T.2 0, 28, .inl f2_18))], [(a3_13, .inl (T.2 0, 7, .inl f3_19))], [(a4_14, .inl (T.2 0, 7, .inl f4_20))]] _ _ := G
  refine lv_iconst (v := 0) hx hb dX4_takeAll_16 (by decide) ?_
  refine lv_istore_n (lv' := [(2, .int 0), (0, .ref h), (1, .ref o)]) hx hb dX4_takeAll_17 rfl hl (by decide) rfl (fun ls hl => ?_)
  refine z_loop (T := T) (α := Nat × (Nat → Int32) × (Nat → Int32) × (Nat → Int32)) 18 (fun (i18, x18_0, x18_1, x18_2) => [[(h, .inr (4, [.int v0_15, .int v1_16, .ref a1_1, .ref a2_2, .ref a3_3, .ref a4_4]))], [(a1_1, .inl (T.2 0, 7, .inl x18_0))], [(a2_2, .inl (T.2 0, 28, .inl f2_8))], [(a3_3, .inl (T.2 0, 7, .inl x18_1))], [(a4_4, .inl (T.2 0, 7, .inl x18_2))], [(o, .inr (4, [.int v0_15, .int v1_16, .ref a1_11, .ref a2_12, .ref a3_13, .ref a4_14]))], [(a1_11, .inl (T.2 0, 7, .inl f1_17))], [(a2_12, .inl (T.2 0, 28, .inl f2_18))], [(a3_13, .inl (T.2 0, 7, .inl f3_19))], [(a4_14, .inl (T.2 0, 7, .inl f4_20))]]) (fun (i18, x18_0, x18_1, x18_2) => [(2, .int (nI i18)), (0, .ref h), (1, .ref o)]) (fun (i18, x18_0, x18_1, x18_2) => i18 ≤ 7) (fun (i18, x18_0, x18_1, x18_2) => 7 - i18) ?_ (0, f1_7, f3_9, f4_10) (show 0 ≤ 7 from by omega) G (lv_sub hl [0, 1, 2] rfl)
  rintro ⟨i18, x18_0, x18_1, x18_2⟩ hi18 ih H locs ls G hl
  have hi18 : i18 ≤ 7 := hi18
  have G : zS T A s.heap s [[(h, .inr (4, [.int v0_15, .int v1_16, .ref a1_1, .ref a2_2, .ref a3_3, .ref a4_4]))], [(a1_1, .inl (T.2 0, 7, .inl x18_0))], [(a2_2, .inl (T.2 0, 28, .inl f2_8))], [(a3_3, .inl (T.2 0, 7, .inl x18_1))], [(a4_4, .inl (T.2 0, 7, .inl x18_2))], [(o, .inr (4, [.int v0_15, .int v1_16, .ref a1_11, .ref a2_12, .ref a3_13, .ref a4_14]))], [(a1_11, .inl (T.2 0, 7, .inl f1_17))], [(a2_12, .inl (T.2 0, 28, .inl f2_18))], [(a3_13, .inl (T.2 0, 7, .inl f3_19))], [(a4_14, .inl (T.2 0, 7, .inl f4_20))]] _ _ := G
  have hl : lv_has ls 3 [(2, .int (nI i18)), (0, .ref h), (1, .ref o)] := hl
  refine lv_iload_n hx hb dX4_takeAll_18 rfl (lv_at hl 0 rfl) ?_
  refine lv_bipush (v := 7) hx hb dX4_takeAll_19 (by decide) ?_
  refine lv_icmp_ge (tgt := 66) hx hb dX4_takeAll_21 (by decide) (fun c_21 => ?_) (fun c_21 => ?_)
  · have c_21n : 7 ≤ i18 := (nI_leI (a := 7) (b := i18) (by omega) (by omega)).mp c_21
    refine lv_iconst (v := 0) hx hb dX4_takeAll_66 (by decide) ?_
    refine lv_istore_n (lv' := [(2, .int 0), (0, .ref h), (1, .ref o)]) hx hb dX4_takeAll_67 rfl hl (by decide) rfl (fun ls hl => ?_)
    refine z_loop (T := T) (α := Nat × (Nat → Int32)) 68 (fun (i68, x68_0) => [[(h, .inr (4, [.int v0_15, .int v1_16, .ref a1_1, .ref a2_2, .ref a3_3, .ref a4_4]))], [(a1_1, .inl (T.2 0, 7, .inl x18_0))], [(a2_2, .inl (T.2 0, 28, .inl x68_0))], [(a3_3, .inl (T.2 0, 7, .inl x18_1))], [(a4_4, .inl (T.2 0, 7, .inl x18_2))], [(o, .inr (4, [.int v0_15, .int v1_16, .ref a1_11, .ref a2_12, .ref a3_13, .ref a4_14]))], [(a1_11, .inl (T.2 0, 7, .inl f1_17))], [(a2_12, .inl (T.2 0, 28, .inl f2_18))], [(a3_13, .inl (T.2 0, 7, .inl f3_19))], [(a4_14, .inl (T.2 0, 7, .inl f4_20))]]) (fun (i68, x68_0) => [(2, .int (nI i68)), (0, .ref h), (1, .ref o)]) (fun (i68, x68_0) => i68 ≤ 28) (fun (i68, x68_0) => 28 - i68) ?_ (0, f2_8) (show 0 ≤ 28 from by omega) G (lv_sub hl [0, 1, 2] rfl)
    rintro ⟨i68, x68_0⟩ hi68 ih H locs ls G hl
    have hi68 : i68 ≤ 28 := hi68
    have G : zS T A s.heap s [[(h, .inr (4, [.int v0_15, .int v1_16, .ref a1_1, .ref a2_2, .ref a3_3, .ref a4_4]))], [(a1_1, .inl (T.2 0, 7, .inl x18_0))], [(a2_2, .inl (T.2 0, 28, .inl x68_0))], [(a3_3, .inl (T.2 0, 7, .inl x18_1))], [(a4_4, .inl (T.2 0, 7, .inl x18_2))], [(o, .inr (4, [.int v0_15, .int v1_16, .ref a1_11, .ref a2_12, .ref a3_13, .ref a4_14]))], [(a1_11, .inl (T.2 0, 7, .inl f1_17))], [(a2_12, .inl (T.2 0, 28, .inl f2_18))], [(a3_13, .inl (T.2 0, 7, .inl f3_19))], [(a4_14, .inl (T.2 0, 7, .inl f4_20))]] _ _ := G
    have hl : lv_has ls 3 [(2, .int (nI i68)), (0, .ref h), (1, .ref o)] := hl
    refine lv_iload_n hx hb dX4_takeAll_68 rfl (lv_at hl 0 rfl) ?_
    refine lv_bipush (v := 28) hx hb dX4_takeAll_69 (by decide) ?_
    refine lv_icmp_ge (tgt := 92) hx hb dX4_takeAll_71 (by decide) (fun c_22 => ?_) (fun c_22 => ?_)
    · have c_22n : 28 ≤ i68 := (nI_leI (a := 28) (b := i68) (by omega) (by omega)).mp c_22
      have G := G.sub (bs' := [[(o, .inr (4, [.int v0_15, .int v1_16, .ref a1_11, .ref a2_12, .ref a3_13, .ref a4_14]))], [(a1_11, .inl (T.2 0, 7, .inl f1_17))], [(a2_12, .inl (T.2 0, 28, .inl f2_18))], [(a3_13, .inl (T.2 0, 7, .inl f3_19))], [(a4_14, .inl (T.2 0, 7, .inl f4_20))], [(h, .inr (4, [.int v0_15, .int v1_16, .ref a1_1, .ref a2_2, .ref a3_3, .ref a4_4]))], [(a1_1, .inl (T.2 0, 7, .inl x18_0))], [(a2_2, .inl (T.2 0, 28, .inl x68_0))], [(a3_3, .inl (T.2 0, 7, .inl x18_1))], [(a4_4, .inl (T.2 0, 7, .inl x18_2))]]) [5, 6, 7, 8, 9, 0, 1, 2, 3, 4] rfl
      obtain ⟨w_23, hw_24, G⟩ : ∃ w : va_W, bLand T h w ∧ zS T A s.heap s [[(o, .inr (4, [.int v0_15, .int v1_16, .ref a1_11, .ref a2_12, .ref a3_13, .ref a4_14]))], [(a1_11, .inl (T.2 0, 7, .inl f1_17))], [(a2_12, .inl (T.2 0, 28, .inl f2_18))], [(a3_13, .inl (T.2 0, 7, .inl f3_19))], [(a4_14, .inl (T.2 0, 7, .inl f4_20))], w] _ _ := ⟨[(h, .inr (4, [.int v0_15, .int v1_16, .ref a1_1, .ref a2_2, .ref a3_3, .ref a4_4])), (a1_1, .inl (T.2 0, 7, .inl x18_0)), (a2_2, .inl (T.2 0, 28, .inl x68_0)), (a3_3, .inl (T.2 0, 7, .inl x18_1)), (a4_4, .inl (T.2 0, 7, .inl x18_2))], ⟨a1_1, a2_2, a3_3, a4_4, v0_15, v1_16, x18_0, x68_0, x18_1, x18_2, rfl⟩, G.re rfl⟩
      have G := G.sub (bs' := [w_23, [(o, .inr (4, [.int v0_15, .int v1_16, .ref a1_11, .ref a2_12, .ref a3_13, .ref a4_14]))], [(a1_11, .inl (T.2 0, 7, .inl f1_17))], [(a2_12, .inl (T.2 0, 28, .inl f2_18))], [(a3_13, .inl (T.2 0, 7, .inl f3_19))], [(a4_14, .inl (T.2 0, 7, .inl f4_20))]]) [5, 0, 1, 2, 3, 4] rfl
      obtain ⟨w_25, hw_26, G⟩ : ∃ w : va_W, bLand T o w ∧ zS T A s.heap s [w_23, w] _ _ := ⟨[(o, .inr (4, [.int v0_15, .int v1_16, .ref a1_11, .ref a2_12, .ref a3_13, .ref a4_14])), (a1_11, .inl (T.2 0, 7, .inl f1_17)), (a2_12, .inl (T.2 0, 28, .inl f2_18)), (a3_13, .inl (T.2 0, 7, .inl f3_19)), (a4_14, .inl (T.2 0, 7, .inl f4_20))], ⟨a1_11, a2_12, a3_13, a4_14, v0_15, v1_16, f1_17, f2_18, f3_19, f4_20, rfl⟩, G.re rfl⟩
      exact z_vret C hr hlocks G (Nat.le_of_ble_eq_true rfl) (Nat.le_of_ble_eq_true rfl) dX4_takeAll_92 ⟨w_23, w_25, rfl, hw_24, hw_26⟩
    · have c_22n : ¬ 28 ≤ i68 := fun q => c_22 ((nI_leI (a := 28) (b := i68) (by omega) (by omega)).mpr q)
      refine lv_aload_n hx hb dX4_takeAll_74 rfl (lv_at hl 1 rfl) ?_
      refine z_get C G clX4 0 rfl 3 (by decide) m_fl_RX4_15 rfl dX4_takeAll_75 ?_
      refine lv_iload_n hx hb dX4_takeAll_78 rfl (lv_at hl 0 rfl) ?_
      refine lv_aload_n hx hb dX4_takeAll_79 rfl (lv_at hl 2 rfl) ?_
      refine z_get C G clX4 5 rfl 3 (by decide) m_fl_RX4_15 rfl dX4_takeAll_80 ?_
      refine lv_iload_n hx hb dX4_takeAll_83 rfl (lv_at hl 0 rfl) ?_
      refine z_ild C G 7 rfl (vp_in_nI (by omega) (by omega)) dX4_takeAll_84 ?_
      refine lv_topi (fun v_27 ev_27 => ?_)
      rw [nI_clamp (by omega)] at ev_27
      subst ev_27
      refine z_ist C G 2 rfl (vp_in_nI (by omega) (by omega)) dX4_takeAll_85 (fun H locs G => ?_)
      rw [nI_clamp (by omega)] at G
      have G : zS T A s.heap s [[(h, .inr (4, [.int v0_15, .int v1_16, .ref a1_1, .ref a2_2, .ref a3_3, .ref a4_4]))], [(a1_1, .inl (T.2 0, 7, .inl x18_0))], [(a2_2, .inl (T.2 0, 28, .inl (upd x68_0 i68 (f2_18 i68))))], [(a3_3, .inl (T.2 0, 7, .inl x18_1))], [(a4_4, .inl (T.2 0, 7, .inl x18_2))], [(o, .inr (4, [.int v0_15, .int v1_16, .ref a1_11, .ref a2_12, .ref a3_13, .ref a4_14]))], [(a1_11, .inl (T.2 0, 7, .inl f1_17))], [(a2_12, .inl (T.2 0, 28, .inl f2_18))], [(a3_13, .inl (T.2 0, 7, .inl f3_19))], [(a4_14, .inl (T.2 0, 7, .inl f4_20))]] _ _ := G
      refine lv_iinc (v := nI (i68 + 1)) (lv' := [(2, .int (nI (i68 + 1))), (0, .ref h), (1, .ref o)]) hx hb dX4_takeAll_86 hl (k := 0) rfl (z_inc i68 1) (by decide) rfl (fun ls hl => ?_)
      refine lv_goto (tgt := 68) hx hb dX4_takeAll_89 (by decide) ?_
      exact ih ((i68 + 1), (upd x68_0 i68 (f2_18 i68))) (show (i68 + 1) ≤ 28 from by omega) (show 28 - (i68 + 1) < 28 - i68 from by omega) _ _ ls G (lv_sub hl [0, 1, 2] rfl)
  · have c_21n : ¬ 7 ≤ i18 := fun q => c_21 ((nI_leI (a := 7) (b := i18) (by omega) (by omega)).mpr q)
    refine lv_aload_n hx hb dX4_takeAll_24 rfl (lv_at hl 1 rfl) ?_
    refine z_get C G clX4 0 rfl 2 (by decide) m_fl_RX4_9 rfl dX4_takeAll_25 ?_
    refine lv_iload_n hx hb dX4_takeAll_28 rfl (lv_at hl 0 rfl) ?_
    refine lv_aload_n hx hb dX4_takeAll_29 rfl (lv_at hl 2 rfl) ?_
    refine z_get C G clX4 5 rfl 2 (by decide) m_fl_RX4_9 rfl dX4_takeAll_30 ?_
    refine lv_iload_n hx hb dX4_takeAll_33 rfl (lv_at hl 0 rfl) ?_
    refine z_ild C G 6 rfl (vp_in_nI (by omega) (by omega)) dX4_takeAll_34 ?_
    refine lv_topi (fun v_28 ev_28 => ?_)
    rw [nI_clamp (by omega)] at ev_28
    subst ev_28
    refine z_ist C G 1 rfl (vp_in_nI (by omega) (by omega)) dX4_takeAll_35 (fun H locs G => ?_)
    rw [nI_clamp (by omega)] at G
    have G : zS T A s.heap s [[(h, .inr (4, [.int v0_15, .int v1_16, .ref a1_1, .ref a2_2, .ref a3_3, .ref a4_4]))], [(a1_1, .inl (T.2 0, 7, .inl (upd x18_0 i18 (f1_17 i18))))], [(a2_2, .inl (T.2 0, 28, .inl f2_8))], [(a3_3, .inl (T.2 0, 7, .inl x18_1))], [(a4_4, .inl (T.2 0, 7, .inl x18_2))], [(o, .inr (4, [.int v0_15, .int v1_16, .ref a1_11, .ref a2_12, .ref a3_13, .ref a4_14]))], [(a1_11, .inl (T.2 0, 7, .inl f1_17))], [(a2_12, .inl (T.2 0, 28, .inl f2_18))], [(a3_13, .inl (T.2 0, 7, .inl f3_19))], [(a4_14, .inl (T.2 0, 7, .inl f4_20))]] _ _ := G
    refine lv_aload_n hx hb dX4_takeAll_36 rfl (lv_at hl 1 rfl) ?_
    refine z_get C G clX4 0 rfl 4 (by decide) m_fl_RX4_18 rfl dX4_takeAll_37 ?_
    refine lv_iload_n hx hb dX4_takeAll_40 rfl (lv_at hl 0 rfl) ?_
    refine lv_aload_n hx hb dX4_takeAll_41 rfl (lv_at hl 2 rfl) ?_
    refine z_get C G clX4 5 rfl 4 (by decide) m_fl_RX4_18 rfl dX4_takeAll_42 ?_
    refine lv_iload_n hx hb dX4_takeAll_45 rfl (lv_at hl 0 rfl) ?_
    refine z_ild C G 8 rfl (vp_in_nI (by omega) (by omega)) dX4_takeAll_46 ?_
    refine lv_topi (fun v_29 ev_29 => ?_)
    rw [nI_clamp (by omega)] at ev_29
    subst ev_29
    refine z_ist C G 3 rfl (vp_in_nI (by omega) (by omega)) dX4_takeAll_47 (fun H locs G => ?_)
    rw [nI_clamp (by omega)] at G
    have G : zS T A s.heap s [[(h, .inr (4, [.int v0_15, .int v1_16, .ref a1_1, .ref a2_2, .ref a3_3, .ref a4_4]))], [(a1_1, .inl (T.2 0, 7, .inl (upd x18_0 i18 (f1_17 i18))))], [(a2_2, .inl (T.2 0, 28, .inl f2_8))], [(a3_3, .inl (T.2 0, 7, .inl (upd x18_1 i18 (f3_19 i18))))], [(a4_4, .inl (T.2 0, 7, .inl x18_2))], [(o, .inr (4, [.int v0_15, .int v1_16, .ref a1_11, .ref a2_12, .ref a3_13, .ref a4_14]))], [(a1_11, .inl (T.2 0, 7, .inl f1_17))], [(a2_12, .inl (T.2 0, 28, .inl f2_18))], [(a3_13, .inl (T.2 0, 7, .inl f3_19))], [(a4_14, .inl (T.2 0, 7, .inl f4_20))]] _ _ := G
    refine lv_aload_n hx hb dX4_takeAll_48 rfl (lv_at hl 1 rfl) ?_
    refine z_get C G clX4 0 rfl 5 (by decide) m_fl_RX4_21 rfl dX4_takeAll_49 ?_
    refine lv_iload_n hx hb dX4_takeAll_52 rfl (lv_at hl 0 rfl) ?_
    refine lv_aload_n hx hb dX4_takeAll_53 rfl (lv_at hl 2 rfl) ?_
    refine z_get C G clX4 5 rfl 5 (by decide) m_fl_RX4_21 rfl dX4_takeAll_54 ?_
    refine lv_iload_n hx hb dX4_takeAll_57 rfl (lv_at hl 0 rfl) ?_
    refine z_ild C G 9 rfl (vp_in_nI (by omega) (by omega)) dX4_takeAll_58 ?_
    refine lv_topi (fun v_30 ev_30 => ?_)
    rw [nI_clamp (by omega)] at ev_30
    subst ev_30
    refine z_ist C G 4 rfl (vp_in_nI (by omega) (by omega)) dX4_takeAll_59 (fun H locs G => ?_)
    rw [nI_clamp (by omega)] at G
    have G : zS T A s.heap s [[(h, .inr (4, [.int v0_15, .int v1_16, .ref a1_1, .ref a2_2, .ref a3_3, .ref a4_4]))], [(a1_1, .inl (T.2 0, 7, .inl (upd x18_0 i18 (f1_17 i18))))], [(a2_2, .inl (T.2 0, 28, .inl f2_8))], [(a3_3, .inl (T.2 0, 7, .inl (upd x18_1 i18 (f3_19 i18))))], [(a4_4, .inl (T.2 0, 7, .inl (upd x18_2 i18 (f4_20 i18))))], [(o, .inr (4, [.int v0_15, .int v1_16, .ref a1_11, .ref a2_12, .ref a3_13, .ref a4_14]))], [(a1_11, .inl (T.2 0, 7, .inl f1_17))], [(a2_12, .inl (T.2 0, 28, .inl f2_18))], [(a3_13, .inl (T.2 0, 7, .inl f3_19))], [(a4_14, .inl (T.2 0, 7, .inl f4_20))]] _ _ := G
    refine lv_iinc (v := nI (i18 + 1)) (lv' := [(2, .int (nI (i18 + 1))), (0, .ref h), (1, .ref o)]) hx hb dX4_takeAll_60 hl (k := 0) rfl (z_inc i18 1) (by decide) rfl (fun ls hl => ?_)
    refine lv_goto (tgt := 18) hx hb dX4_takeAll_63 (by decide) ?_
    exact ih ((i18 + 1), (upd x18_0 i18 (f1_17 i18)), (upd x18_1 i18 (f3_19 i18)), (upd x18_2 i18 (f4_20 i18))) (show (i18 + 1) ≤ 7 from by omega) (show 7 - (i18 + 1) < 7 - i18 from by omega) _ _ ls G (lv_sub hl [0, 1, 2] rfl)
set_option maxHeartbeats 4000000 in
set_option maxRecDepth 100000 in
/-- c_Day_takeAll -/
theorem c_Day_takeAll (l : Launch) (T : zTy) (h : Nat) (o : Nat) (w : va_W) (z : va_W) (hw : bDay T h w) (hz : bDay T o z) : zMv l T yX2_takeAll cX2_takeAll 3 1 0 0 [.ref h, .ref o] [w, z] (fun bs => ∃ (w2 : va_W) (z2 : va_W), bs = [w2, z2] ∧ bDay T h w2 ∧ bDay T o z2) := by
  refine zMv_of (own := RX2) (by decide) rfl (Nat.le_of_ble_eq_true rfl) ?_
  intro p e s m args below meth c A ls C hr hlocks hnm hAe G hl
  have hx := C.1
  have hb := C.2.1
  have hl : lv_has ls 3 [(0, .ref h), (1, .ref o)] := hl
  obtain ⟨a1_1, a2_2, a3_3, v0_4, f1_5, f2_6, f3_7, rfl⟩ := hw
  have G : zS T A s.heap s [[(h, .inr (2, [.int v0_4, .ref a1_1, .ref a2_2, .ref a3_3]))], [(a1_1, .inl (T.2 0, 40, .inl f1_5))], [(a2_2, .inl (T.2 0, 40, .inl f2_6))], [(a3_3, .inl (T.2 0, 40, .inl f3_7))], z] _ _ := G.re rfl
  obtain ⟨a1_8, a2_9, a3_10, v0_11, f1_12, f2_13, f3_14, rfl⟩ := hz
  have G : zS T A s.heap s [[(h, .inr (2, [.int v0_4, .ref a1_1, .ref a2_2, .ref a3_3]))], [(a1_1, .inl (T.2 0, 40, .inl f1_5))], [(a2_2, .inl (T.2 0, 40, .inl f2_6))], [(a3_3, .inl (T.2 0, 40, .inl f3_7))], [(o, .inr (2, [.int v0_11, .ref a1_8, .ref a2_9, .ref a3_10]))], [(a1_8, .inl (T.2 0, 40, .inl f1_12))], [(a2_9, .inl (T.2 0, 40, .inl f2_13))], [(a3_10, .inl (T.2 0, 40, .inl f3_14))]] _ _ := G.re rfl
  refine lv_aload_n hx hb dX2_takeAll_0 rfl (lv_at hl 0 rfl) ?_
  refine lv_aload_n hx hb dX2_takeAll_1 rfl (lv_at hl 1 rfl) ?_
  refine z_get C G clX2 4 rfl 0 (by decide) m_fl_RX2_21 rfl dX2_takeAll_2 ?_
  refine z_put C G clX2 0 rfl 0 (by decide) m_fl_RX2_21 rfl rfl rfl (Nat.le_of_ble_eq_true rfl) dX2_takeAll_5 (fun H locs G => ?_)
  have G : zS T A s.heap s [[(h, .inr (2, [.int v0_11, .ref a1_1, .ref a2_2, .ref a3_3]))], [(a1_1, .inl (T.2 0, 40, .inl f1_5))], [(a2_2, .inl (T.2 0, 40, .inl f2_6))], [(a3_3, .inl (T.2 0, 40, .inl f3_7))], [(o, .inr (2, [.int v0_11, .ref a1_8, .ref a2_9, .ref a3_10]))], [(a1_8, .inl (T.2 0, 40, .inl f1_12))], [(a2_9, .inl (T.2 0, 40, .inl f2_13))], [(a3_10, .inl (T.2 0, 40, .inl f3_14))]] _ _ := G
  refine lv_iconst (v := 0) hx hb dX2_takeAll_8 (by decide) ?_
  refine lv_istore_n (lv' := [(2, .int 0), (0, .ref h), (1, .ref o)]) hx hb dX2_takeAll_9 rfl hl (by decide) rfl (fun ls hl => ?_)
  refine z_loop (T := T) (α := Nat × (Nat → Int32) × (Nat → Int32) × (Nat → Int32)) 10 (fun (i10, x10_0, x10_1, x10_2) => [[(h, .inr (2, [.int v0_11, .ref a1_1, .ref a2_2, .ref a3_3]))], [(a1_1, .inl (T.2 0, 40, .inl x10_0))], [(a2_2, .inl (T.2 0, 40, .inl x10_1))], [(a3_3, .inl (T.2 0, 40, .inl x10_2))], [(o, .inr (2, [.int v0_11, .ref a1_8, .ref a2_9, .ref a3_10]))], [(a1_8, .inl (T.2 0, 40, .inl f1_12))], [(a2_9, .inl (T.2 0, 40, .inl f2_13))], [(a3_10, .inl (T.2 0, 40, .inl f3_14))]]) (fun (i10, x10_0, x10_1, x10_2) => [(2, .int (nI i10)), (0, .ref h), (1, .ref o)]) (fun (i10, x10_0, x10_1, x10_2) => i10 ≤ 40) (fun (i10, x10_0, x10_1, x10_2) => 40 - i10) ?_ (0, f1_5, f2_6, f3_7) (show 0 ≤ 40 from by omega) G (lv_sub hl [0, 1, 2] rfl)
  rintro ⟨i10, x10_0, x10_1, x10_2⟩ hi10 ih H locs ls G hl
  have hi10 : i10 ≤ 40 := hi10
  have G : zS T A s.heap s [[(h, .inr (2, [.int v0_11, .ref a1_1, .ref a2_2, .ref a3_3]))], [(a1_1, .inl (T.2 0, 40, .inl x10_0))], [(a2_2, .inl (T.2 0, 40, .inl x10_1))], [(a3_3, .inl (T.2 0, 40, .inl x10_2))], [(o, .inr (2, [.int v0_11, .ref a1_8, .ref a2_9, .ref a3_10]))], [(a1_8, .inl (T.2 0, 40, .inl f1_12))], [(a2_9, .inl (T.2 0, 40, .inl f2_13))], [(a3_10, .inl (T.2 0, 40, .inl f3_14))]] _ _ := G
  have hl : lv_has ls 3 [(2, .int (nI i10)), (0, .ref h), (1, .ref o)] := hl
  refine lv_iload_n hx hb dX2_takeAll_10 rfl (lv_at hl 0 rfl) ?_
  refine lv_bipush (v := 40) hx hb dX2_takeAll_11 (by decide) ?_
  refine lv_icmp_ge (tgt := 58) hx hb dX2_takeAll_13 (by decide) (fun c_15 => ?_) (fun c_15 => ?_)
  · have c_15n : 40 ≤ i10 := (nI_leI (a := 40) (b := i10) (by omega) (by omega)).mp c_15
    have G := G.sub (bs' := [[(o, .inr (2, [.int v0_11, .ref a1_8, .ref a2_9, .ref a3_10]))], [(a1_8, .inl (T.2 0, 40, .inl f1_12))], [(a2_9, .inl (T.2 0, 40, .inl f2_13))], [(a3_10, .inl (T.2 0, 40, .inl f3_14))], [(h, .inr (2, [.int v0_11, .ref a1_1, .ref a2_2, .ref a3_3]))], [(a1_1, .inl (T.2 0, 40, .inl x10_0))], [(a2_2, .inl (T.2 0, 40, .inl x10_1))], [(a3_3, .inl (T.2 0, 40, .inl x10_2))]]) [4, 5, 6, 7, 0, 1, 2, 3] rfl
    obtain ⟨w_16, hw_17, G⟩ : ∃ w : va_W, bDay T h w ∧ zS T A s.heap s [[(o, .inr (2, [.int v0_11, .ref a1_8, .ref a2_9, .ref a3_10]))], [(a1_8, .inl (T.2 0, 40, .inl f1_12))], [(a2_9, .inl (T.2 0, 40, .inl f2_13))], [(a3_10, .inl (T.2 0, 40, .inl f3_14))], w] _ _ := ⟨[(h, .inr (2, [.int v0_11, .ref a1_1, .ref a2_2, .ref a3_3])), (a1_1, .inl (T.2 0, 40, .inl x10_0)), (a2_2, .inl (T.2 0, 40, .inl x10_1)), (a3_3, .inl (T.2 0, 40, .inl x10_2))], ⟨a1_1, a2_2, a3_3, v0_11, x10_0, x10_1, x10_2, rfl⟩, G.re rfl⟩
    have G := G.sub (bs' := [w_16, [(o, .inr (2, [.int v0_11, .ref a1_8, .ref a2_9, .ref a3_10]))], [(a1_8, .inl (T.2 0, 40, .inl f1_12))], [(a2_9, .inl (T.2 0, 40, .inl f2_13))], [(a3_10, .inl (T.2 0, 40, .inl f3_14))]]) [4, 0, 1, 2, 3] rfl
    obtain ⟨w_18, hw_19, G⟩ : ∃ w : va_W, bDay T o w ∧ zS T A s.heap s [w_16, w] _ _ := ⟨[(o, .inr (2, [.int v0_11, .ref a1_8, .ref a2_9, .ref a3_10])), (a1_8, .inl (T.2 0, 40, .inl f1_12)), (a2_9, .inl (T.2 0, 40, .inl f2_13)), (a3_10, .inl (T.2 0, 40, .inl f3_14))], ⟨a1_8, a2_9, a3_10, v0_11, f1_12, f2_13, f3_14, rfl⟩, G.re rfl⟩
    exact z_vret C hr hlocks G (Nat.le_of_ble_eq_true rfl) (Nat.le_of_ble_eq_true rfl) dX2_takeAll_58 ⟨w_16, w_18, rfl, hw_17, hw_19⟩
  · have c_15n : ¬ 40 ≤ i10 := fun q => c_15 ((nI_leI (a := 40) (b := i10) (by omega) (by omega)).mpr q)
    refine lv_aload_n hx hb dX2_takeAll_16 rfl (lv_at hl 1 rfl) ?_
    refine z_get C G clX2 0 rfl 1 (by decide) m_fl_RX2_9 rfl dX2_takeAll_17 ?_
    refine lv_iload_n hx hb dX2_takeAll_20 rfl (lv_at hl 0 rfl) ?_
    refine lv_aload_n hx hb dX2_takeAll_21 rfl (lv_at hl 2 rfl) ?_
    refine z_get C G clX2 4 rfl 1 (by decide) m_fl_RX2_9 rfl dX2_takeAll_22 ?_
    refine lv_iload_n hx hb dX2_takeAll_25 rfl (lv_at hl 0 rfl) ?_
    refine z_ild C G 5 rfl (vp_in_nI (by omega) (by omega)) dX2_takeAll_26 ?_
    refine lv_topi (fun v_20 ev_20 => ?_)
    rw [nI_clamp (by omega)] at ev_20
    subst ev_20
    refine z_ist C G 1 rfl (vp_in_nI (by omega) (by omega)) dX2_takeAll_27 (fun H locs G => ?_)
    rw [nI_clamp (by omega)] at G
    have G : zS T A s.heap s [[(h, .inr (2, [.int v0_11, .ref a1_1, .ref a2_2, .ref a3_3]))], [(a1_1, .inl (T.2 0, 40, .inl (upd x10_0 i10 (f1_12 i10))))], [(a2_2, .inl (T.2 0, 40, .inl x10_1))], [(a3_3, .inl (T.2 0, 40, .inl x10_2))], [(o, .inr (2, [.int v0_11, .ref a1_8, .ref a2_9, .ref a3_10]))], [(a1_8, .inl (T.2 0, 40, .inl f1_12))], [(a2_9, .inl (T.2 0, 40, .inl f2_13))], [(a3_10, .inl (T.2 0, 40, .inl f3_14))]] _ _ := G
    refine lv_aload_n hx hb dX2_takeAll_28 rfl (lv_at hl 1 rfl) ?_
    refine z_get C G clX2 0 rfl 2 (by decide) m_fl_RX2_15 rfl dX2_takeAll_29 ?_
    refine lv_iload_n hx hb dX2_takeAll_32 rfl (lv_at hl 0 rfl) ?_
    refine lv_aload_n hx hb dX2_takeAll_33 rfl (lv_at hl 2 rfl) ?_
    refine z_get C G clX2 4 rfl 2 (by decide) m_fl_RX2_15 rfl dX2_takeAll_34 ?_
    refine lv_iload_n hx hb dX2_takeAll_37 rfl (lv_at hl 0 rfl) ?_
    refine z_ild C G 6 rfl (vp_in_nI (by omega) (by omega)) dX2_takeAll_38 ?_
    refine lv_topi (fun v_21 ev_21 => ?_)
    rw [nI_clamp (by omega)] at ev_21
    subst ev_21
    refine z_ist C G 2 rfl (vp_in_nI (by omega) (by omega)) dX2_takeAll_39 (fun H locs G => ?_)
    rw [nI_clamp (by omega)] at G
    have G : zS T A s.heap s [[(h, .inr (2, [.int v0_11, .ref a1_1, .ref a2_2, .ref a3_3]))], [(a1_1, .inl (T.2 0, 40, .inl (upd x10_0 i10 (f1_12 i10))))], [(a2_2, .inl (T.2 0, 40, .inl (upd x10_1 i10 (f2_13 i10))))], [(a3_3, .inl (T.2 0, 40, .inl x10_2))], [(o, .inr (2, [.int v0_11, .ref a1_8, .ref a2_9, .ref a3_10]))], [(a1_8, .inl (T.2 0, 40, .inl f1_12))], [(a2_9, .inl (T.2 0, 40, .inl f2_13))], [(a3_10, .inl (T.2 0, 40, .inl f3_14))]] _ _ := G
    refine lv_aload_n hx hb dX2_takeAll_40 rfl (lv_at hl 1 rfl) ?_
    refine z_get C G clX2 0 rfl 3 (by decide) m_fl_RX2_18 rfl dX2_takeAll_41 ?_
    refine lv_iload_n hx hb dX2_takeAll_44 rfl (lv_at hl 0 rfl) ?_
    refine lv_aload_n hx hb dX2_takeAll_45 rfl (lv_at hl 2 rfl) ?_
    refine z_get C G clX2 4 rfl 3 (by decide) m_fl_RX2_18 rfl dX2_takeAll_46 ?_
    refine lv_iload_n hx hb dX2_takeAll_49 rfl (lv_at hl 0 rfl) ?_
    refine z_ild C G 7 rfl (vp_in_nI (by omega) (by omega)) dX2_takeAll_50 ?_
    refine lv_topi (fun v_22 ev_22 => ?_)
    rw [nI_clamp (by omega)] at ev_22
    subst ev_22
    refine z_ist C G 3 rfl (vp_in_nI (by omega) (by omega)) dX2_takeAll_51 (fun H locs G => ?_)
    rw [nI_clamp (by omega)] at G
    have G : zS T A s.heap s [[(h, .inr (2, [.int v0_11, .ref a1_1, .ref a2_2, .ref a3_3]))], [(a1_1, .inl (T.2 0, 40, .inl (upd x10_0 i10 (f1_12 i10))))], [(a2_2, .inl (T.2 0, 40, .inl (upd x10_1 i10 (f2_13 i10))))], [(a3_3, .inl (T.2 0, 40, .inl (upd x10_2 i10 (f3_14 i10))))], [(o, .inr (2, [.int v0_11, .ref a1_8, .ref a2_9, .ref a3_10]))], [(a1_8, .inl (T.2 0, 40, .inl f1_12))], [(a2_9, .inl (T.2 0, 40, .inl f2_13))], [(a3_10, .inl (T.2 0, 40, .inl f3_14))]] _ _ := G
    refine lv_iinc (v := nI (i10 + 1)) (lv' := [(2, .int (nI (i10 + 1))), (0, .ref h), (1, .ref o)]) hx hb dX2_takeAll_52 hl (k := 0) rfl (z_inc i10 1) (by decide) rfl (fun ls hl => ?_)
    refine lv_goto (tgt := 10) hx hb dX2_takeAll_55 (by decide) ?_
    exact ih ((i10 + 1), (upd x10_0 i10 (f1_12 i10)), (upd x10_1 i10 (f2_13 i10)), (upd x10_2 i10 (f3_14 i10))) (show (i10 + 1) ≤ 40 from by omega) (show 40 - (i10 + 1) < 40 - i10 from by omega) _ _ ls G (lv_sub hl [0, 1, 2] rfl)
set_option maxHeartbeats 4000000 in
set_option maxRecDepth 100000 in
/-- c_Log_takeAll -/
theorem c_Log_takeAll (l : Launch) (T : zTy) (h : Nat) (o : Nat) (w : va_W) (z : va_W) (hw : bLog T h w) (hz : bLog T o z) : zMv l T yX5_takeAll cX5_takeAll 3 1 0 0 [.ref h, .ref o] [w, z] (fun bs => ∃ (w2 : va_W) (z2 : va_W), bs = [w2, z2] ∧ bLog T h w2 ∧ bLog T o z2) := by
  refine zMv_of (own := RX5) (by decide) rfl (Nat.le_of_ble_eq_true rfl) ?_
  intro p e s m args below meth c A ls C hr hlocks hnm hAe G hl
  have hx := C.1
  have hb := C.2.1
  have hl : lv_has ls 3 [(0, .ref h), (1, .ref o)] := hl
  obtain ⟨a1_1, a2_2, v0_3, f1_4, f2_5, rfl⟩ := hw
  have G : zS T A s.heap s [[(h, .inr (5, [.int v0_3, .ref a1_1, .ref a2_2]))], [(a1_1, .inl (T.2 0, 8, .inl f1_4))], [(a2_2, .inl (T.2 0, 8, .inl f2_5))], z] _ _ := G.re rfl
  obtain ⟨a1_6, a2_7, v0_8, f1_9, f2_10, rfl⟩ := hz
  have G : zS T A s.heap s [[(h, .inr (5, [.int v0_3, .ref a1_1, .ref a2_2]))], [(a1_1, .inl (T.2 0, 8, .inl f1_4))], [(a2_2, .inl (T.2 0, 8, .inl f2_5))], [(o, .inr (5, [.int v0_8, .ref a1_6, .ref a2_7]))], [(a1_6, .inl (T.2 0, 8, .inl f1_9))], [(a2_7, .inl (T.2 0, 8, .inl f2_10))]] _ _ := G.re rfl
  refine lv_aload_n hx hb dX5_takeAll_0 rfl (lv_at hl 0 rfl) ?_
  refine lv_aload_n hx hb dX5_takeAll_1 rfl (lv_at hl 1 rfl) ?_
  refine z_get C G clX5 3 rfl 0 (by decide) m_fl_RX5_18 rfl dX5_takeAll_2 ?_
  refine z_put C G clX5 0 rfl 0 (by decide) m_fl_RX5_18 rfl rfl rfl (Nat.le_of_ble_eq_true rfl) dX5_takeAll_5 (fun H locs G => ?_)
  have G : zS T A s.heap s [[(h, .inr (5, [.int v0_8, .ref a1_1, .ref a2_2]))], [(a1_1, .inl (T.2 0, 8, .inl f1_4))], [(a2_2, .inl (T.2 0, 8, .inl f2_5))], [(o, .inr (5, [.int v0_8, .ref a1_6, .ref a2_7]))], [(a1_6, .inl (T.2 0, 8, .inl f1_9))], [(a2_7, .inl (T.2 0, 8, .inl f2_10))]] _ _ := G
  refine lv_iconst (v := 0) hx hb dX5_takeAll_8 (by decide) ?_
  refine lv_istore_n (lv' := [(2, .int 0), (0, .ref h), (1, .ref o)]) hx hb dX5_takeAll_9 rfl hl (by decide) rfl (fun ls hl => ?_)
  refine z_loop (T := T) (α := Nat × (Nat → Int32) × (Nat → Int32)) 10 (fun (i10, x10_0, x10_1) => [[(h, .inr (5, [.int v0_8, .ref a1_1, .ref a2_2]))], [(a1_1, .inl (T.2 0, 8, .inl x10_0))], [(a2_2, .inl (T.2 0, 8, .inl x10_1))], [(o, .inr (5, [.int v0_8, .ref a1_6, .ref a2_7]))], [(a1_6, .inl (T.2 0, 8, .inl f1_9))], [(a2_7, .inl (T.2 0, 8, .inl f2_10))]]) (fun (i10, x10_0, x10_1) => [(2, .int (nI i10)), (0, .ref h), (1, .ref o)]) (fun (i10, x10_0, x10_1) => i10 ≤ 8) (fun (i10, x10_0, x10_1) => 8 - i10) ?_ (0, f1_4, f2_5) (show 0 ≤ 8 from by omega) G (lv_sub hl [0, 1, 2] rfl)
  rintro ⟨i10, x10_0, x10_1⟩ hi10 ih H locs ls G hl
  have hi10 : i10 ≤ 8 := hi10
  have G : zS T A s.heap s [[(h, .inr (5, [.int v0_8, .ref a1_1, .ref a2_2]))], [(a1_1, .inl (T.2 0, 8, .inl x10_0))], [(a2_2, .inl (T.2 0, 8, .inl x10_1))], [(o, .inr (5, [.int v0_8, .ref a1_6, .ref a2_7]))], [(a1_6, .inl (T.2 0, 8, .inl f1_9))], [(a2_7, .inl (T.2 0, 8, .inl f2_10))]] _ _ := G
  have hl : lv_has ls 3 [(2, .int (nI i10)), (0, .ref h), (1, .ref o)] := hl
  refine lv_iload_n hx hb dX5_takeAll_10 rfl (lv_at hl 0 rfl) ?_
  refine lv_bipush (v := 8) hx hb dX5_takeAll_11 (by decide) ?_
  refine lv_icmp_ge (tgt := 46) hx hb dX5_takeAll_13 (by decide) (fun c_11 => ?_) (fun c_11 => ?_)
  · have c_11n : 8 ≤ i10 := (nI_leI (a := 8) (b := i10) (by omega) (by omega)).mp c_11
    have G := G.sub (bs' := [[(o, .inr (5, [.int v0_8, .ref a1_6, .ref a2_7]))], [(a1_6, .inl (T.2 0, 8, .inl f1_9))], [(a2_7, .inl (T.2 0, 8, .inl f2_10))], [(h, .inr (5, [.int v0_8, .ref a1_1, .ref a2_2]))], [(a1_1, .inl (T.2 0, 8, .inl x10_0))], [(a2_2, .inl (T.2 0, 8, .inl x10_1))]]) [3, 4, 5, 0, 1, 2] rfl
    obtain ⟨w_12, hw_13, G⟩ : ∃ w : va_W, bLog T h w ∧ zS T A s.heap s [[(o, .inr (5, [.int v0_8, .ref a1_6, .ref a2_7]))], [(a1_6, .inl (T.2 0, 8, .inl f1_9))], [(a2_7, .inl (T.2 0, 8, .inl f2_10))], w] _ _ := ⟨[(h, .inr (5, [.int v0_8, .ref a1_1, .ref a2_2])), (a1_1, .inl (T.2 0, 8, .inl x10_0)), (a2_2, .inl (T.2 0, 8, .inl x10_1))], ⟨a1_1, a2_2, v0_8, x10_0, x10_1, rfl⟩, G.re rfl⟩
    have G := G.sub (bs' := [w_12, [(o, .inr (5, [.int v0_8, .ref a1_6, .ref a2_7]))], [(a1_6, .inl (T.2 0, 8, .inl f1_9))], [(a2_7, .inl (T.2 0, 8, .inl f2_10))]]) [3, 0, 1, 2] rfl
    obtain ⟨w_14, hw_15, G⟩ : ∃ w : va_W, bLog T o w ∧ zS T A s.heap s [w_12, w] _ _ := ⟨[(o, .inr (5, [.int v0_8, .ref a1_6, .ref a2_7])), (a1_6, .inl (T.2 0, 8, .inl f1_9)), (a2_7, .inl (T.2 0, 8, .inl f2_10))], ⟨a1_6, a2_7, v0_8, f1_9, f2_10, rfl⟩, G.re rfl⟩
    exact z_vret C hr hlocks G (Nat.le_of_ble_eq_true rfl) (Nat.le_of_ble_eq_true rfl) dX5_takeAll_46 ⟨w_12, w_14, rfl, hw_13, hw_15⟩
  · have c_11n : ¬ 8 ≤ i10 := fun q => c_11 ((nI_leI (a := 8) (b := i10) (by omega) (by omega)).mpr q)
    refine lv_aload_n hx hb dX5_takeAll_16 rfl (lv_at hl 1 rfl) ?_
    refine z_get C G clX5 0 rfl 1 (by decide) m_fl_RX5_9 rfl dX5_takeAll_17 ?_
    refine lv_iload_n hx hb dX5_takeAll_20 rfl (lv_at hl 0 rfl) ?_
    refine lv_aload_n hx hb dX5_takeAll_21 rfl (lv_at hl 2 rfl) ?_
    refine z_get C G clX5 3 rfl 1 (by decide) m_fl_RX5_9 rfl dX5_takeAll_22 ?_
    refine lv_iload_n hx hb dX5_takeAll_25 rfl (lv_at hl 0 rfl) ?_
    refine z_ild C G 4 rfl (vp_in_nI (by omega) (by omega)) dX5_takeAll_26 ?_
    refine lv_topi (fun v_16 ev_16 => ?_)
    rw [nI_clamp (by omega)] at ev_16
    subst ev_16
    refine z_ist C G 1 rfl (vp_in_nI (by omega) (by omega)) dX5_takeAll_27 (fun H locs G => ?_)
    rw [nI_clamp (by omega)] at G
    have G : zS T A s.heap s [[(h, .inr (5, [.int v0_8, .ref a1_1, .ref a2_2]))], [(a1_1, .inl (T.2 0, 8, .inl (upd x10_0 i10 (f1_9 i10))))], [(a2_2, .inl (T.2 0, 8, .inl x10_1))], [(o, .inr (5, [.int v0_8, .ref a1_6, .ref a2_7]))], [(a1_6, .inl (T.2 0, 8, .inl f1_9))], [(a2_7, .inl (T.2 0, 8, .inl f2_10))]] _ _ := G
    refine lv_aload_n hx hb dX5_takeAll_28 rfl (lv_at hl 1 rfl) ?_
    refine z_get C G clX5 0 rfl 2 (by decide) m_fl_RX5_15 rfl dX5_takeAll_29 ?_
    refine lv_iload_n hx hb dX5_takeAll_32 rfl (lv_at hl 0 rfl) ?_
    refine lv_aload_n hx hb dX5_takeAll_33 rfl (lv_at hl 2 rfl) ?_
    refine z_get C G clX5 3 rfl 2 (by decide) m_fl_RX5_15 rfl dX5_takeAll_34 ?_
    refine lv_iload_n hx hb dX5_takeAll_37 rfl (lv_at hl 0 rfl) ?_
    refine z_ild C G 5 rfl (vp_in_nI (by omega) (by omega)) dX5_takeAll_38 ?_
    refine lv_topi (fun v_17 ev_17 => ?_)
    rw [nI_clamp (by omega)] at ev_17
    subst ev_17
    refine z_ist C G 2 rfl (vp_in_nI (by omega) (by omega)) dX5_takeAll_39 (fun H locs G => ?_)
    rw [nI_clamp (by omega)] at G
    have G : zS T A s.heap s [[(h, .inr (5, [.int v0_8, .ref a1_1, .ref a2_2]))], [(a1_1, .inl (T.2 0, 8, .inl (upd x10_0 i10 (f1_9 i10))))], [(a2_2, .inl (T.2 0, 8, .inl (upd x10_1 i10 (f2_10 i10))))], [(o, .inr (5, [.int v0_8, .ref a1_6, .ref a2_7]))], [(a1_6, .inl (T.2 0, 8, .inl f1_9))], [(a2_7, .inl (T.2 0, 8, .inl f2_10))]] _ _ := G
    refine lv_iinc (v := nI (i10 + 1)) (lv' := [(2, .int (nI (i10 + 1))), (0, .ref h), (1, .ref o)]) hx hb dX5_takeAll_40 hl (k := 0) rfl (z_inc i10 1) (by decide) rfl (fun ls hl => ?_)
    refine lv_goto (tgt := 10) hx hb dX5_takeAll_43 (by decide) ?_
    exact ih ((i10 + 1), (upd x10_0 i10 (f1_9 i10)), (upd x10_1 i10 (f2_10 i10))) (show (i10 + 1) ≤ 8 from by omega) (show 8 - (i10 + 1) < 8 - i10 from by omega) _ _ ls G (lv_sub hl [0, 1, 2] rfl)
set_option maxHeartbeats 4000000 in
set_option maxRecDepth 100000 in
/-- append: four bytes more -/
theorem c_append (l : Launch) (T : zTy) (h : Nat) (a1 : Nat) (a2 : Nat) (a3 : Nat) (a4 : Nat) (a5 : Nat) (k : Nat) (v1 : Int32) (v2 : Int32) (f : Nat → Int32) (x : Int32) (hk : k + 4 ≤ 600) : zMv l T yX9_append cX9_append 3 1 0 0 [.ref h, .int x] [[(h, .inr (8, [.ref a1, .int (nI k), .int v1, .int v2, .ref a2, .ref a3, .ref a4, .ref a5]))], [(a1, .inl (T.2 1, 600, .inl f))]] (fun bs => ∃ (g : Nat → Int32), bs = [[(h, .inr (8, [.ref a1, .int (nI (k + 4)), .int v1, .int v2, .ref a2, .ref a3, .ref a4, .ref a5]))], [(a1, .inl (T.2 1, 600, .inl g))]]) := by
  refine zMv_of (own := RX9) (by decide) rfl (Nat.le_of_ble_eq_true rfl) ?_
  intro p e s m args below meth c A ls C hr hlocks hnm hAe G hl
  have hx := C.1
  have hb := C.2.1
  have hl : lv_has ls 3 [(0, .ref h), (1, .int x)] := hl
  refine lv_bipush (v := 24) hx hb dX9_append_0 (by decide) ?_
  refine lv_istore_n (lv' := [(2, .int 24), (0, .ref h), (1, .int x)]) hx hb dX9_append_2 rfl hl (by decide) rfl (fun ls hl => ?_)
  refine lv_iload_n hx hb dX9_append_3 rfl (lv_at hl 0 rfl) ?_
  refine lv_if_lt (tgt := 46) hx hb dX9_append_4 (by decide) (fun q => absurd q (by decide)) (fun _ => ?_)
  refine lv_aload_n hx hb dX9_append_7 rfl (lv_at hl 1 rfl) ?_
  refine z_get C G clX9 0 rfl 1 (by decide) m_fl_RX9_44 rfl dX9_append_8 ?_
  refine lv_sipush (v := 600) hx hb dX9_append_11 (by decide) ?_
  refine lv_icmp_ge (tgt := 40) hx hb dX9_append_14 (by decide) (fun q => absurd q (fun q2 => absurd ((nI_leI (a := 600) (b := k) (by omega) (by omega)).mp q2) (by omega))) (fun _ => ?_)
  refine lv_aload_n hx hb dX9_append_17 rfl (lv_at hl 1 rfl) ?_
  refine z_get C G clX9 0 rfl 0 (by decide) m_fl_RX9_9 rfl dX9_append_18 ?_
  refine lv_aload_n hx hb dX9_append_21 rfl (lv_at hl 1 rfl) ?_
  refine z_get C G clX9 0 rfl 1 (by decide) m_fl_RX9_44 rfl dX9_append_22 ?_
  refine lv_iload_n hx hb dX9_append_25 rfl (lv_at hl 2 rfl) ?_
  refine lv_iload_n hx hb dX9_append_26 rfl (lv_at hl 0 rfl) ?_
  refine lv_ishr hx hb dX9_append_27 ?_
  refine lv_i2b hx hb dX9_append_28 rfl ?_
  refine z_bst C G 1 rfl (vp_in_nI (by omega) (by omega)) dX9_append_29 (fun H locs G => ?_)
  rw [nI_clamp (by omega)] at G
  have G : zS T A s.heap s [[(h, .inr (8, [.ref a1, .int (nI k), .int v1, .int v2, .ref a2, .ref a3, .ref a4, .ref a5]))], [(a1, .inl (T.2 1, 600, .inl (upd f k (vp_nar .byte ((x >>> (24 &&& 31)).toInt8.toInt32)))))]] _ _ := G
  refine lv_aload_n hx hb dX9_append_30 rfl (lv_at hl 1 rfl) ?_
  refine lv_dup hx hb dX9_append_31 rfl ?_
  refine z_get C G clX9 0 rfl 1 (by decide) m_fl_RX9_44 rfl dX9_append_32 ?_
  refine lv_iconst (v := 1) hx hb dX9_append_35 (by decide) ?_
  refine lv_iadd hx hb dX9_append_36 ?_
  refine lv_topi (fun y_1 ey_1 => ?_)
  obtain rfl : y_1 = nI (k + 1) := ey_1.trans (z_iaddn k 1 rfl rfl)
  refine z_put C G clX9 0 rfl 1 (by decide) m_fl_RX9_44 rfl rfl rfl (Nat.le_of_ble_eq_true rfl) dX9_append_37 (fun H locs G => ?_)
  have G : zS T A s.heap s [[(h, .inr (8, [.ref a1, .int (nI (k + 1)), .int v1, .int v2, .ref a2, .ref a3, .ref a4, .ref a5]))], [(a1, .inl (T.2 1, 600, .inl (upd f k (vp_nar .byte ((x >>> (24 &&& 31)).toInt8.toInt32)))))]] _ _ := G
  refine lv_iinc (v := 16) (lv' := [(2, .int 16), (0, .ref h), (1, .int x)]) hx hb dX9_append_40 hl (k := 0) rfl (by decide) (by decide) rfl (fun ls hl => ?_)
  refine lv_goto (tgt := 3) hx hb dX9_append_43 (by decide) ?_
  refine lv_iload_n hx hb dX9_append_3 rfl (lv_at hl 0 rfl) ?_
  refine lv_if_lt (tgt := 46) hx hb dX9_append_4 (by decide) (fun q => absurd q (by decide)) (fun _ => ?_)
  refine lv_aload_n hx hb dX9_append_7 rfl (lv_at hl 1 rfl) ?_
  refine z_get C G clX9 0 rfl 1 (by decide) m_fl_RX9_44 rfl dX9_append_8 ?_
  refine lv_sipush (v := 600) hx hb dX9_append_11 (by decide) ?_
  refine lv_icmp_ge (tgt := 40) hx hb dX9_append_14 (by decide) (fun q => absurd q (fun q2 => absurd ((nI_leI (a := 600) (b := k + 1) (by omega) (by omega)).mp q2) (by omega))) (fun _ => ?_)
  refine lv_aload_n hx hb dX9_append_17 rfl (lv_at hl 1 rfl) ?_
  refine z_get C G clX9 0 rfl 0 (by decide) m_fl_RX9_9 rfl dX9_append_18 ?_
  refine lv_aload_n hx hb dX9_append_21 rfl (lv_at hl 1 rfl) ?_
  refine z_get C G clX9 0 rfl 1 (by decide) m_fl_RX9_44 rfl dX9_append_22 ?_
  refine lv_iload_n hx hb dX9_append_25 rfl (lv_at hl 2 rfl) ?_
  refine lv_iload_n hx hb dX9_append_26 rfl (lv_at hl 0 rfl) ?_
  refine lv_ishr hx hb dX9_append_27 ?_
  refine lv_i2b hx hb dX9_append_28 rfl ?_
  refine z_bst C G 1 rfl (vp_in_nI (by omega) (by omega)) dX9_append_29 (fun H locs G => ?_)
  rw [nI_clamp (by omega)] at G
  have G : zS T A s.heap s [[(h, .inr (8, [.ref a1, .int (nI (k + 1)), .int v1, .int v2, .ref a2, .ref a3, .ref a4, .ref a5]))], [(a1, .inl (T.2 1, 600, .inl (upd (upd f k (vp_nar .byte ((x >>> (24 &&& 31)).toInt8.toInt32))) (k + 1) (vp_nar .byte ((x >>> (16 &&& 31)).toInt8.toInt32)))))]] _ _ := G
  refine lv_aload_n hx hb dX9_append_30 rfl (lv_at hl 1 rfl) ?_
  refine lv_dup hx hb dX9_append_31 rfl ?_
  refine z_get C G clX9 0 rfl 1 (by decide) m_fl_RX9_44 rfl dX9_append_32 ?_
  refine lv_iconst (v := 1) hx hb dX9_append_35 (by decide) ?_
  refine lv_iadd hx hb dX9_append_36 ?_
  refine lv_topi (fun y_2 ey_2 => ?_)
  obtain rfl : y_2 = nI ((k + 1) + 1) := ey_2.trans (z_iaddn (k + 1) 1 rfl rfl)
  refine z_put C G clX9 0 rfl 1 (by decide) m_fl_RX9_44 rfl rfl rfl (Nat.le_of_ble_eq_true rfl) dX9_append_37 (fun H locs G => ?_)
  have G : zS T A s.heap s [[(h, .inr (8, [.ref a1, .int (nI ((k + 1) + 1)), .int v1, .int v2, .ref a2, .ref a3, .ref a4, .ref a5]))], [(a1, .inl (T.2 1, 600, .inl (upd (upd f k (vp_nar .byte ((x >>> (24 &&& 31)).toInt8.toInt32))) (k + 1) (vp_nar .byte ((x >>> (16 &&& 31)).toInt8.toInt32)))))]] _ _ := G
  refine lv_iinc (v := 8) (lv' := [(2, .int 8), (0, .ref h), (1, .int x)]) hx hb dX9_append_40 hl (k := 0) rfl (by decide) (by decide) rfl (fun ls hl => ?_)
  refine lv_goto (tgt := 3) hx hb dX9_append_43 (by decide) ?_
  refine lv_iload_n hx hb dX9_append_3 rfl (lv_at hl 0 rfl) ?_
  refine lv_if_lt (tgt := 46) hx hb dX9_append_4 (by decide) (fun q => absurd q (by decide)) (fun _ => ?_)
  refine lv_aload_n hx hb dX9_append_7 rfl (lv_at hl 1 rfl) ?_
  refine z_get C G clX9 0 rfl 1 (by decide) m_fl_RX9_44 rfl dX9_append_8 ?_
  refine lv_sipush (v := 600) hx hb dX9_append_11 (by decide) ?_
  refine lv_icmp_ge (tgt := 40) hx hb dX9_append_14 (by decide) (fun q => absurd q (fun q2 => absurd ((nI_leI (a := 600) (b := (k + 1) + 1) (by omega) (by omega)).mp q2) (by omega))) (fun _ => ?_)
  refine lv_aload_n hx hb dX9_append_17 rfl (lv_at hl 1 rfl) ?_
  refine z_get C G clX9 0 rfl 0 (by decide) m_fl_RX9_9 rfl dX9_append_18 ?_
  refine lv_aload_n hx hb dX9_append_21 rfl (lv_at hl 1 rfl) ?_
  refine z_get C G clX9 0 rfl 1 (by decide) m_fl_RX9_44 rfl dX9_append_22 ?_
  refine lv_iload_n hx hb dX9_append_25 rfl (lv_at hl 2 rfl) ?_
  refine lv_iload_n hx hb dX9_append_26 rfl (lv_at hl 0 rfl) ?_
  refine lv_ishr hx hb dX9_append_27 ?_
  refine lv_i2b hx hb dX9_append_28 rfl ?_
  refine z_bst C G 1 rfl (vp_in_nI (by omega) (by omega)) dX9_append_29 (fun H locs G => ?_)
  rw [nI_clamp (by omega)] at G
  have G : zS T A s.heap s [[(h, .inr (8, [.ref a1, .int (nI ((k + 1) + 1)), .int v1, .int v2, .ref a2, .ref a3, .ref a4, .ref a5]))], [(a1, .inl (T.2 1, 600, .inl (upd (upd (upd f k (vp_nar .byte ((x >>> (24 &&& 31)).toInt8.toInt32))) (k + 1) (vp_nar .byte ((x >>> (16 &&& 31)).toInt8.toInt32))) ((k + 1) + 1) (vp_nar .byte ((x >>> (8 &&& 31)).toInt8.toInt32)))))]] _ _ := G
  refine lv_aload_n hx hb dX9_append_30 rfl (lv_at hl 1 rfl) ?_
  refine lv_dup hx hb dX9_append_31 rfl ?_
  refine z_get C G clX9 0 rfl 1 (by decide) m_fl_RX9_44 rfl dX9_append_32 ?_
  refine lv_iconst (v := 1) hx hb dX9_append_35 (by decide) ?_
  refine lv_iadd hx hb dX9_append_36 ?_
  refine lv_topi (fun y_3 ey_3 => ?_)
  obtain rfl : y_3 = nI (((k + 1) + 1) + 1) := ey_3.trans (z_iaddn ((k + 1) + 1) 1 rfl rfl)
  refine z_put C G clX9 0 rfl 1 (by decide) m_fl_RX9_44 rfl rfl rfl (Nat.le_of_ble_eq_true rfl) dX9_append_37 (fun H locs G => ?_)
  have G : zS T A s.heap s [[(h, .inr (8, [.ref a1, .int (nI (((k + 1) + 1) + 1)), .int v1, .int v2, .ref a2, .ref a3, .ref a4, .ref a5]))], [(a1, .inl (T.2 1, 600, .inl (upd (upd (upd f k (vp_nar .byte ((x >>> (24 &&& 31)).toInt8.toInt32))) (k + 1) (vp_nar .byte ((x >>> (16 &&& 31)).toInt8.toInt32))) ((k + 1) + 1) (vp_nar .byte ((x >>> (8 &&& 31)).toInt8.toInt32)))))]] _ _ := G
  refine lv_iinc (v := 0) (lv' := [(2, .int 0), (0, .ref h), (1, .int x)]) hx hb dX9_append_40 hl (k := 0) rfl (by decide) (by decide) rfl (fun ls hl => ?_)
  refine lv_goto (tgt := 3) hx hb dX9_append_43 (by decide) ?_
  refine lv_iload_n hx hb dX9_append_3 rfl (lv_at hl 0 rfl) ?_
  refine lv_if_lt (tgt := 46) hx hb dX9_append_4 (by decide) (fun q => absurd q (by decide)) (fun _ => ?_)
  refine lv_aload_n hx hb dX9_append_7 rfl (lv_at hl 1 rfl) ?_
  refine z_get C G clX9 0 rfl 1 (by decide) m_fl_RX9_44 rfl dX9_append_8 ?_
  refine lv_sipush (v := 600) hx hb dX9_append_11 (by decide) ?_
  refine lv_icmp_ge (tgt := 40) hx hb dX9_append_14 (by decide) (fun q => absurd q (fun q2 => absurd ((nI_leI (a := 600) (b := ((k + 1) + 1) + 1) (by omega) (by omega)).mp q2) (by omega))) (fun _ => ?_)
  refine lv_aload_n hx hb dX9_append_17 rfl (lv_at hl 1 rfl) ?_
  refine z_get C G clX9 0 rfl 0 (by decide) m_fl_RX9_9 rfl dX9_append_18 ?_
  refine lv_aload_n hx hb dX9_append_21 rfl (lv_at hl 1 rfl) ?_
  refine z_get C G clX9 0 rfl 1 (by decide) m_fl_RX9_44 rfl dX9_append_22 ?_
  refine lv_iload_n hx hb dX9_append_25 rfl (lv_at hl 2 rfl) ?_
  refine lv_iload_n hx hb dX9_append_26 rfl (lv_at hl 0 rfl) ?_
  refine lv_ishr hx hb dX9_append_27 ?_
  refine lv_i2b hx hb dX9_append_28 rfl ?_
  refine z_bst C G 1 rfl (vp_in_nI (by omega) (by omega)) dX9_append_29 (fun H locs G => ?_)
  rw [nI_clamp (by omega)] at G
  have G : zS T A s.heap s [[(h, .inr (8, [.ref a1, .int (nI (((k + 1) + 1) + 1)), .int v1, .int v2, .ref a2, .ref a3, .ref a4, .ref a5]))], [(a1, .inl (T.2 1, 600, .inl (upd (upd (upd (upd f k (vp_nar .byte ((x >>> (24 &&& 31)).toInt8.toInt32))) (k + 1) (vp_nar .byte ((x >>> (16 &&& 31)).toInt8.toInt32))) ((k + 1) + 1) (vp_nar .byte ((x >>> (8 &&& 31)).toInt8.toInt32))) (((k + 1) + 1) + 1) (vp_nar .byte ((x >>> (0 &&& 31)).toInt8.toInt32)))))]] _ _ := G
  refine lv_aload_n hx hb dX9_append_30 rfl (lv_at hl 1 rfl) ?_
  refine lv_dup hx hb dX9_append_31 rfl ?_
  refine z_get C G clX9 0 rfl 1 (by decide) m_fl_RX9_44 rfl dX9_append_32 ?_
  refine lv_iconst (v := 1) hx hb dX9_append_35 (by decide) ?_
  refine lv_iadd hx hb dX9_append_36 ?_
  refine lv_topi (fun y_4 ey_4 => ?_)
  obtain rfl : y_4 = nI ((((k + 1) + 1) + 1) + 1) := ey_4.trans (z_iaddn (((k + 1) + 1) + 1) 1 rfl rfl)
  refine z_put C G clX9 0 rfl 1 (by decide) m_fl_RX9_44 rfl rfl rfl (Nat.le_of_ble_eq_true rfl) dX9_append_37 (fun H locs G => ?_)
  have G : zS T A s.heap s [[(h, .inr (8, [.ref a1, .int (nI ((((k + 1) + 1) + 1) + 1)), .int v1, .int v2, .ref a2, .ref a3, .ref a4, .ref a5]))], [(a1, .inl (T.2 1, 600, .inl (upd (upd (upd (upd f k (vp_nar .byte ((x >>> (24 &&& 31)).toInt8.toInt32))) (k + 1) (vp_nar .byte ((x >>> (16 &&& 31)).toInt8.toInt32))) ((k + 1) + 1) (vp_nar .byte ((x >>> (8 &&& 31)).toInt8.toInt32))) (((k + 1) + 1) + 1) (vp_nar .byte ((x >>> (0 &&& 31)).toInt8.toInt32)))))]] _ _ := G
  refine lv_iinc (v := (-8)) (lv' := [(2, .int (-8)), (0, .ref h), (1, .int x)]) hx hb dX9_append_40 hl (k := 0) rfl (by decide) (by decide) rfl (fun ls hl => ?_)
  refine lv_goto (tgt := 3) hx hb dX9_append_43 (by decide) ?_
  refine lv_iload_n hx hb dX9_append_3 rfl (lv_at hl 0 rfl) ?_
  refine lv_if_lt (tgt := 46) hx hb dX9_append_4 (by decide) (fun _ => ?_) (fun q => absurd (by decide) q)
  exact z_vret C hr hlocks G (Nat.le_of_ble_eq_true rfl) (Nat.le_of_ble_eq_true rfl) dX9_append_46 ⟨_, rfl⟩
def zRes (so at_ : Int32) : Int32 := if 0 ≤ so.toInt ∧ so.toInt ≤ 2 ∧ at_.toInt = -1 then 0 else -2
set_option maxHeartbeats 4000000 in
set_option maxRecDepth 100000 in
/-- placeFor -/
theorem c_placeFor0 (l : Launch) (T : zTy) (h : Nat) (a1 : Nat) (a2 : Nat) (a3 : Nat) (a4 : Nat) (a5 : Nat) (n : Int32) (v1 : Int32) (v2 : Int32) (so : Int32) (at_ : Int32) : zMi l T yX9_placeFor cX9_placeFor 3 (some .int) 1 0 0 [.ref h, .int so, .int at_] [[(h, .inr (8, [.ref a1, .int n, .int v1, .int v2, .ref a2, .ref a3, .ref a4, .ref a5]))], [(a2, .inl (T.2 0, 3, .inl (fun _ => 0)))]] (fun (r : Int32) bs => bs = [[(h, .inr (8, [.ref a1, .int n, .int v1, .int v2, .ref a2, .ref a3, .ref a4, .ref a5]))], [(a2, .inl (T.2 0, 3, .inl (fun _ => 0)))]] ∧ ((r = 0 ∧ 0 ≤ so.toInt ∧ so.toInt ≤ 2 ∧ at_.toInt = -1) ∨ (r = (-2) ∧ (so.toInt < 0 ∨ 2 < so.toInt ∨ ¬ at_.toInt = -1)))) := by
  refine zMi_of (own := RX9) (by decide) rfl (Nat.le_of_ble_eq_true rfl) ?_
  intro p e s m args below meth c A ls C hr hlocks hnm hAe G hl
  have hx := C.1
  have hb := C.2.1
  have hl : lv_has ls 3 [(0, .ref h), (1, .int so), (2, .int at_)] := hl
  refine lv_iload_n hx hb dX9_placeFor_0 rfl (lv_at hl 1 rfl) ?_
  refine lv_if_lt (tgt := 9) hx hb dX9_placeFor_1 (by decide) (fun c_1 => ?_) (fun c_1 => ?_)
  · have c_1n : so.toInt < (0 : Int) := (fa_lt _ _).mp c_1
    refine lv_bipush (v := (-2)) hx hb dX9_placeFor_9 (by decide) ?_
    exact z_iret C hr hlocks G (Nat.le_of_ble_eq_true rfl) (Nat.le_of_ble_eq_true rfl) dX9_placeFor_11 ⟨rfl, (Or.inr (⟨rfl, (by first | assumption | omega)⟩))⟩
  · have c_1n : ¬ so.toInt < (0 : Int) := fun q => c_1 ((fa_lt _ _).mpr q)
    refine lv_iload_n hx hb dX9_placeFor_4 rfl (lv_at hl 1 rfl) ?_
    refine lv_iconst (v := 2) hx hb dX9_placeFor_5 (by decide) ?_
    refine lv_icmp_le (tgt := 12) hx hb dX9_placeFor_6 (by decide) (fun c_2 => ?_) (fun c_2 => ?_)
    · have c_2n : so.toInt ≤ (2 : Int) := (fa_le _ _).mp c_2
      refine lv_iload_n hx hb dX9_placeFor_12 rfl (lv_at hl 2 rfl) ?_
      refine lv_iconst (v := (-1)) hx hb dX9_placeFor_13 (by decide) ?_
      refine lv_icmp_ne (tgt := 39) hx hb dX9_placeFor_14 (by decide) (fun c_3 => ?_) (fun c_3 => ?_)
      · have c_3n : ¬ at_.toInt = (-1 : Int) := fun q => c_3 ((fa_eq _ _).mpr q)
        refine lv_iload_n hx hb dX9_placeFor_39 rfl (lv_at hl 2 rfl) ?_
        refine lv_if_lt (tgt := 57) hx hb dX9_placeFor_40 (by decide) (fun c_4 => ?_) (fun c_4 => ?_)
        · have c_4n : at_.toInt < (0 : Int) := (fa_lt _ _).mp c_4
          refine lv_bipush (v := (-2)) hx hb dX9_placeFor_57 (by decide) ?_
          exact z_iret C hr hlocks G (Nat.le_of_ble_eq_true rfl) (Nat.le_of_ble_eq_true rfl) dX9_placeFor_59 ⟨rfl, (Or.inr (⟨rfl, (by first | assumption | omega)⟩))⟩
        · have c_4n : ¬ at_.toInt < (0 : Int) := fun q => c_4 ((fa_lt _ _).mpr q)
          refine lv_iload_n hx hb dX9_placeFor_43 rfl (lv_at hl 2 rfl) ?_
          refine lv_aload_n hx hb dX9_placeFor_44 rfl (lv_at hl 0 rfl) ?_
          refine z_get C G clX9 0 rfl 4 (by decide) m_fl_RX9_19 rfl dX9_placeFor_45 ?_
          refine lv_iload_n hx hb dX9_placeFor_48 rfl (lv_at hl 1 rfl) ?_
          refine z_ild C G 1 rfl (vp_in_iff.mpr ⟨by omega, by omega⟩) dX9_placeFor_49 ?_
          refine lv_topi (fun v_5 ev_5 => ?_)
          subst ev_5
          refine lv_icmp_ge (tgt := 57) hx hb dX9_placeFor_50 (by decide) (fun _ => ?_) (fun q => absurd ((fa_le (0 : Int32) at_).mpr (by show (0 : Int) ≤ at_.toInt; omega)) q)
          refine lv_bipush (v := (-2)) hx hb dX9_placeFor_57 (by decide) ?_
          exact z_iret C hr hlocks G (Nat.le_of_ble_eq_true rfl) (Nat.le_of_ble_eq_true rfl) dX9_placeFor_59 ⟨rfl, (Or.inr (⟨rfl, (by first | assumption | omega)⟩))⟩
      · have c_3n : at_.toInt = (-1 : Int) := (fa_eq _ _).mp c_3
        refine lv_aload_n hx hb dX9_placeFor_17 rfl (lv_at hl 0 rfl) ?_
        refine z_get C G clX9 0 rfl 4 (by decide) m_fl_RX9_19 rfl dX9_placeFor_18 ?_
        refine lv_iload_n hx hb dX9_placeFor_21 rfl (lv_at hl 1 rfl) ?_
        refine z_ild C G 1 rfl (vp_in_iff.mpr ⟨by omega, by omega⟩) dX9_placeFor_22 ?_
        refine lv_topi (fun v_6 ev_6 => ?_)
        subst ev_6
        refine lv_iconst (v := 2) hx hb dX9_placeFor_23 (by decide) ?_
        refine lv_icmp_ge (tgt := 36) hx hb dX9_placeFor_24 (by decide) (fun q => absurd q (by decide)) (fun _ => ?_)
        refine lv_aload_n hx hb dX9_placeFor_27 rfl (lv_at hl 0 rfl) ?_
        refine z_get C G clX9 0 rfl 4 (by decide) m_fl_RX9_19 rfl dX9_placeFor_28 ?_
        refine lv_iload_n hx hb dX9_placeFor_31 rfl (lv_at hl 1 rfl) ?_
        refine z_ild C G 1 rfl (vp_in_iff.mpr ⟨by omega, by omega⟩) dX9_placeFor_32 ?_
        refine lv_topi (fun v_7 ev_7 => ?_)
        subst ev_7
        refine lv_goto (tgt := 38) hx hb dX9_placeFor_33 (by decide) ?_
        exact z_iret C hr hlocks G (Nat.le_of_ble_eq_true rfl) (Nat.le_of_ble_eq_true rfl) dX9_placeFor_38 ⟨rfl, (Or.inl (⟨rfl, (by first | assumption | omega), (by first | assumption | omega), (by first | assumption | omega)⟩))⟩
    · have c_2n : ¬ so.toInt ≤ (2 : Int) := fun q => c_2 ((fa_le _ _).mpr q)
      refine lv_bipush (v := (-2)) hx hb dX9_placeFor_9 (by decide) ?_
      exact z_iret C hr hlocks G (Nat.le_of_ble_eq_true rfl) (Nat.le_of_ble_eq_true rfl) dX9_placeFor_11 ⟨rfl, (Or.inr (⟨rfl, (by first | assumption | omega)⟩))⟩
set_option maxHeartbeats 4000000 in
set_option maxRecDepth 100000 in
/-- c_landAt0 -/
theorem c_landAt0 (l : Launch) (T : zTy) (h : Nat) (a1 : Nat) (a2 : Nat) (a3 : Nat) (a4 : Nat) (a5 : Nat) (n : Int32) (v1 : Int32) (v2 : Int32) (x : Int32) : zMq l T yX9_landAt cX9_landAt 2 (some (.object "TurnedPosts$Land")) 1 0 0 [.ref h, .int x] [[(h, .inr (8, [.ref a1, .int n, .int v1, .int v2, .ref a2, .ref a3, .ref a4, .ref a5]))], [(a2, .inl (T.2 0, 3, .inl (fun _ => 0)))]] (fun (r : Option Nat) bs => bs = [[(h, .inr (8, [.ref a1, .int n, .int v1, .int v2, .ref a2, .ref a3, .ref a4, .ref a5]))], [(a2, .inl (T.2 0, 3, .inl (fun _ => 0)))]] ∧ r = none) := by
  refine zMq_of (own := RX9) (by decide) rfl (Nat.le_of_ble_eq_true rfl) ?_
  intro p e s m args below meth c A ls C hr hlocks hnm hAe G hl
  have hx := C.1
  have hb := C.2.1
  have hl : lv_has ls 2 [(0, .ref h), (1, .int x)] := hl
  refine lv_iload_n hx hb dX9_landAt_0 rfl (lv_at hl 1 rfl) ?_
  refine lv_if_lt (tgt := 28) hx hb dX9_landAt_1 (by decide) (fun c_1 => ?_) (fun c_1 => ?_)
  · have c_1n : x.toInt < (0 : Int) := (fa_lt _ _).mp c_1
    refine lv_null hx hb dX9_landAt_28 ?_
    exact z_aret (r := none) C hr (Or.inl ⟨_, rfl⟩) hlocks G (Nat.le_of_ble_eq_true rfl) (Nat.le_of_ble_eq_true rfl) dX9_landAt_29 ⟨rfl, rfl⟩
  · have c_1n : ¬ x.toInt < (0 : Int) := fun q => c_1 ((fa_lt _ _).mpr q)
    refine lv_iload_n hx hb dX9_landAt_4 rfl (lv_at hl 1 rfl) ?_
    refine lv_aload_n hx hb dX9_landAt_5 rfl (lv_at hl 0 rfl) ?_
    refine z_get C G clX9 0 rfl 4 (by decide) m_fl_RX9_19 rfl dX9_landAt_6 ?_
    refine lv_iconst (v := 0) hx hb dX9_landAt_9 (by decide) ?_
    refine z_ild C G 1 rfl (vp_in_nI (n := 0) (by decide) (by decide)) dX9_landAt_10 ?_
    refine lv_topi (fun v_2 ev_2 => ?_)
    obtain rfl : v_2 = 0 := ev_2
    refine lv_icmp_ge (tgt := 28) hx hb dX9_landAt_11 (by decide) (fun _ => ?_) (fun q => absurd ((fa_le (0 : Int32) x).mpr (by show (0 : Int) ≤ x.toInt; omega)) q)
    refine lv_null hx hb dX9_landAt_28 ?_
    exact z_aret (r := none) C hr (Or.inl ⟨_, rfl⟩) hlocks G (Nat.le_of_ble_eq_true rfl) (Nat.le_of_ble_eq_true rfl) dX9_landAt_29 ⟨rfl, rfl⟩
set_option maxHeartbeats 4000000 in
set_option maxRecDepth 100000 in
/-- c_dayAt0 -/
theorem c_dayAt0 (l : Launch) (T : zTy) (h : Nat) (a1 : Nat) (a2 : Nat) (a3 : Nat) (a4 : Nat) (a5 : Nat) (n : Int32) (v1 : Int32) (v2 : Int32) (x : Int32) : zMq l T yX9_dayAt cX9_dayAt 2 (some (.object "TurnedPosts$Day")) 1 0 0 [.ref h, .int x] [[(h, .inr (8, [.ref a1, .int n, .int v1, .int v2, .ref a2, .ref a3, .ref a4, .ref a5]))], [(a2, .inl (T.2 0, 3, .inl (fun _ => 0)))]] (fun (r : Option Nat) bs => bs = [[(h, .inr (8, [.ref a1, .int n, .int v1, .int v2, .ref a2, .ref a3, .ref a4, .ref a5]))], [(a2, .inl (T.2 0, 3, .inl (fun _ => 0)))]] ∧ r = none) := by
  refine zMq_of (own := RX9) (by decide) rfl (Nat.le_of_ble_eq_true rfl) ?_
  intro p e s m args below meth c A ls C hr hlocks hnm hAe G hl
  have hx := C.1
  have hb := C.2.1
  have hl : lv_has ls 2 [(0, .ref h), (1, .int x)] := hl
  refine lv_iload_n hx hb dX9_dayAt_0 rfl (lv_at hl 1 rfl) ?_
  refine lv_if_lt (tgt := 28) hx hb dX9_dayAt_1 (by decide) (fun c_1 => ?_) (fun c_1 => ?_)
  · have c_1n : x.toInt < (0 : Int) := (fa_lt _ _).mp c_1
    refine lv_null hx hb dX9_dayAt_28 ?_
    exact z_aret (r := none) C hr (Or.inl ⟨_, rfl⟩) hlocks G (Nat.le_of_ble_eq_true rfl) (Nat.le_of_ble_eq_true rfl) dX9_dayAt_29 ⟨rfl, rfl⟩
  · have c_1n : ¬ x.toInt < (0 : Int) := fun q => c_1 ((fa_lt _ _).mpr q)
    refine lv_iload_n hx hb dX9_dayAt_4 rfl (lv_at hl 1 rfl) ?_
    refine lv_aload_n hx hb dX9_dayAt_5 rfl (lv_at hl 0 rfl) ?_
    refine z_get C G clX9 0 rfl 4 (by decide) m_fl_RX9_19 rfl dX9_dayAt_6 ?_
    refine lv_iconst (v := 1) hx hb dX9_dayAt_9 (by decide) ?_
    refine z_ild C G 1 rfl (vp_in_nI (n := 1) (by decide) (by decide)) dX9_dayAt_10 ?_
    refine lv_topi (fun v_2 ev_2 => ?_)
    obtain rfl : v_2 = 0 := ev_2
    refine lv_icmp_ge (tgt := 28) hx hb dX9_dayAt_11 (by decide) (fun _ => ?_) (fun q => absurd ((fa_le (0 : Int32) x).mpr (by show (0 : Int) ≤ x.toInt; omega)) q)
    refine lv_null hx hb dX9_dayAt_28 ?_
    exact z_aret (r := none) C hr (Or.inl ⟨_, rfl⟩) hlocks G (Nat.le_of_ble_eq_true rfl) (Nat.le_of_ble_eq_true rfl) dX9_dayAt_29 ⟨rfl, rfl⟩
set_option maxHeartbeats 4000000 in
set_option maxRecDepth 100000 in
/-- c_logAt0 -/
theorem c_logAt0 (l : Launch) (T : zTy) (h : Nat) (a1 : Nat) (a2 : Nat) (a3 : Nat) (a4 : Nat) (a5 : Nat) (n : Int32) (v1 : Int32) (v2 : Int32) (x : Int32) : zMq l T yX9_logAt cX9_logAt 2 (some (.object "TurnedPosts$Log")) 1 0 0 [.ref h, .int x] [[(h, .inr (8, [.ref a1, .int n, .int v1, .int v2, .ref a2, .ref a3, .ref a4, .ref a5]))], [(a2, .inl (T.2 0, 3, .inl (fun _ => 0)))]] (fun (r : Option Nat) bs => bs = [[(h, .inr (8, [.ref a1, .int n, .int v1, .int v2, .ref a2, .ref a3, .ref a4, .ref a5]))], [(a2, .inl (T.2 0, 3, .inl (fun _ => 0)))]] ∧ r = none) := by
  refine zMq_of (own := RX9) (by decide) rfl (Nat.le_of_ble_eq_true rfl) ?_
  intro p e s m args below meth c A ls C hr hlocks hnm hAe G hl
  have hx := C.1
  have hb := C.2.1
  have hl : lv_has ls 2 [(0, .ref h), (1, .int x)] := hl
  refine lv_iload_n hx hb dX9_logAt_0 rfl (lv_at hl 1 rfl) ?_
  refine lv_if_lt (tgt := 28) hx hb dX9_logAt_1 (by decide) (fun c_1 => ?_) (fun c_1 => ?_)
  · have c_1n : x.toInt < (0 : Int) := (fa_lt _ _).mp c_1
    refine lv_null hx hb dX9_logAt_28 ?_
    exact z_aret (r := none) C hr (Or.inl ⟨_, rfl⟩) hlocks G (Nat.le_of_ble_eq_true rfl) (Nat.le_of_ble_eq_true rfl) dX9_logAt_29 ⟨rfl, rfl⟩
  · have c_1n : ¬ x.toInt < (0 : Int) := fun q => c_1 ((fa_lt _ _).mpr q)
    refine lv_iload_n hx hb dX9_logAt_4 rfl (lv_at hl 1 rfl) ?_
    refine lv_aload_n hx hb dX9_logAt_5 rfl (lv_at hl 0 rfl) ?_
    refine z_get C G clX9 0 rfl 4 (by decide) m_fl_RX9_19 rfl dX9_logAt_6 ?_
    refine lv_iconst (v := 2) hx hb dX9_logAt_9 (by decide) ?_
    refine z_ild C G 1 rfl (vp_in_nI (n := 2) (by decide) (by decide)) dX9_logAt_10 ?_
    refine lv_topi (fun v_2 ev_2 => ?_)
    obtain rfl : v_2 = 0 := ev_2
    refine lv_icmp_ge (tgt := 28) hx hb dX9_logAt_11 (by decide) (fun _ => ?_) (fun q => absurd ((fa_le (0 : Int32) x).mpr (by show (0 : Int) ≤ x.toInt; omega)) q)
    refine lv_null hx hb dX9_logAt_28 ?_
    exact z_aret (r := none) C hr (Or.inl ⟨_, rfl⟩) hlocks G (Nat.le_of_ble_eq_true rfl) (Nat.le_of_ble_eq_true rfl) dX9_logAt_29 ⟨rfl, rfl⟩
set_option maxHeartbeats 4000000 in
set_option maxRecDepth 100000 in
/-- takeAll: its cells are not told here -/
theorem c_Told_takeAll (l : Launch) (T : zTy) (h : Nat) (o : Nat) (a1p : Nat) (a2p : Nat) (a3p : Nat) (a4p : Nat) (a5p : Nat) (v0p : Int32) (v1p : Int32) (v2p : Int32) (f1p : Nat → Int32) (f2p : Nat → Int32) (f3p : Nat → Option Nat) (f4p : Nat → Option Nat) (f5p : Nat → Option Nat) (l0p : Nat) (l1p : Nat) (d0p : Nat) (d1p : Nat) (g0p : Nat) (g1p : Nat) (w1p : va_W) (w2p : va_W) (w3p : va_W) (w4p : va_W) (w5p : va_W) (w6p : va_W) (a1o : Nat) (a2o : Nat) (a3o : Nat) (a4o : Nat) (a5o : Nat) (v0o : Int32) (v1o : Int32) (v2o : Int32) (f1o : Nat → Int32) (f2o : Nat → Int32) (f3o : Nat → Option Nat) (f4o : Nat → Option Nat) (f5o : Nat → Option Nat) (l0o : Nat) (l1o : Nat) (d0o : Nat) (d1o : Nat) (g0o : Nat) (g1o : Nat) (w1o : va_W) (w2o : va_W) (w3o : va_W) (w4o : va_W) (w5o : va_W) (w6o : va_W) (hw0p : bLand T l0p w1p) (hw1p : bLand T l1p w2p) (hw2p : bDay T d0p w3p) (hw3p : bDay T d1p w4p) (hw4p : bLog T g0p w5p) (hw5p : bLog T g1p w6p) (he0p : f3p 0 = some l0p) (he1p : f3p 1 = some l1p) (he2p : f4p 0 = some d0p) (he3p : f4p 1 = some d1p) (he4p : f5p 0 = some g0p) (he5p : f5p 1 = some g1p) (hw0o : bLand T l0o w1o) (hw1o : bLand T l1o w2o) (hw2o : bDay T d0o w3o) (hw3o : bDay T d1o w4o) (hw4o : bLog T g0o w5o) (hw5o : bLog T g1o w6o) (he0o : f3o 0 = some l0o) (he1o : f3o 1 = some l1o) (he2o : f4o 0 = some d0o) (he3o : f4o 1 = some d1o) (he4o : f5o 0 = some g0o) (he5o : f5o 1 = some g1o) : zMv l T yX9_takeAll cX9_takeAll 3 2 0 0 [.ref h, .ref o] [[(h, .inr (8, [.ref a1p, .int v0p, .int v1p, .int v2p, .ref a2p, .ref a3p, .ref a4p, .ref a5p]))], [(a1p, .inl (T.2 1, 600, .inl f1p))], [(a2p, .inl (T.2 0, 3, .inl f2p))], [(a3p, .inl (T.2 3, 2, .inr (.inr (.inr (.inr f3p)))))], [(a4p, .inl (T.2 4, 2, .inr (.inr (.inr (.inr f4p)))))], [(a5p, .inl (T.2 5, 2, .inr (.inr (.inr (.inr f5p)))))], w1p, w2p, w3p, w4p, w5p, w6p, [(o, .inr (8, [.ref a1o, .int v0o, .int v1o, .int v2o, .ref a2o, .ref a3o, .ref a4o, .ref a5o]))], [(a1o, .inl (T.2 1, 600, .inl f1o))], [(a2o, .inl (T.2 0, 3, .inl f2o))], [(a3o, .inl (T.2 3, 2, .inr (.inr (.inr (.inr f3o)))))], [(a4o, .inl (T.2 4, 2, .inr (.inr (.inr (.inr f4o)))))], [(a5o, .inl (T.2 5, 2, .inr (.inr (.inr (.inr f5o)))))], w1o, w2o, w3o, w4o, w5o, w6o] (fun bs => bs = []) := by
  refine zMv_of (own := RX9) (by decide) rfl (Nat.le_of_ble_eq_true rfl) ?_
  intro p e s m args below meth c A ls C hr hlocks hnm hAe G hl
  have hx := C.1
  have hb := C.2.1
  have hl : lv_has ls 3 [(0, .ref h), (1, .ref o)] := hl
  refine lv_iconst (v := 0) hx hb dX9_takeAll_0 (by decide) ?_
  refine lv_istore_n (lv' := [(2, .int 0), (0, .ref h), (1, .ref o)]) hx hb dX9_takeAll_1 rfl hl (by decide) rfl (fun ls hl => ?_)
  refine z_loop (T := T) (α := Nat × (Nat → Int32)) 2 (fun (i, g) => [[(h, .inr (8, [.ref a1p, .int v0p, .int v1p, .int v2p, .ref a2p, .ref a3p, .ref a4p, .ref a5p]))], [(a1p, .inl (T.2 1, 600, .inl g))], [(a2p, .inl (T.2 0, 3, .inl f2p))], [(a3p, .inl (T.2 3, 2, .inr (.inr (.inr (.inr f3p)))))], [(a4p, .inl (T.2 4, 2, .inr (.inr (.inr (.inr f4p)))))], [(a5p, .inl (T.2 5, 2, .inr (.inr (.inr (.inr f5p)))))], w1p, w2p, w3p, w4p, w5p, w6p, [(o, .inr (8, [.ref a1o, .int v0o, .int v1o, .int v2o, .ref a2o, .ref a3o, .ref a4o, .ref a5o]))], [(a1o, .inl (T.2 1, 600, .inl f1o))], [(a2o, .inl (T.2 0, 3, .inl f2o))], [(a3o, .inl (T.2 3, 2, .inr (.inr (.inr (.inr f3o)))))], [(a4o, .inl (T.2 4, 2, .inr (.inr (.inr (.inr f4o)))))], [(a5o, .inl (T.2 5, 2, .inr (.inr (.inr (.inr f5o)))))], w1o, w2o, w3o, w4o, w5o, w6o]) (fun (i, g) => [(2, .int (nI i)), (0, .ref h), (1, .ref o)]) (fun (i, g) => i ≤ 600) (fun (i, g) => 600 - i) ?_ (0, f1p) (show 0 ≤ 600 from by omega) G (lv_sub hl [0, 1, 2] rfl)
  rintro ⟨i, g⟩ hi ih H locs ls G hl
  have hi : i ≤ 600 := hi
  have G : zS T A s.heap s [[(h, .inr (8, [.ref a1p, .int v0p, .int v1p, .int v2p, .ref a2p, .ref a3p, .ref a4p, .ref a5p]))], [(a1p, .inl (T.2 1, 600, .inl g))], [(a2p, .inl (T.2 0, 3, .inl f2p))], [(a3p, .inl (T.2 3, 2, .inr (.inr (.inr (.inr f3p)))))], [(a4p, .inl (T.2 4, 2, .inr (.inr (.inr (.inr f4p)))))], [(a5p, .inl (T.2 5, 2, .inr (.inr (.inr (.inr f5p)))))], w1p, w2p, w3p, w4p, w5p, w6p, [(o, .inr (8, [.ref a1o, .int v0o, .int v1o, .int v2o, .ref a2o, .ref a3o, .ref a4o, .ref a5o]))], [(a1o, .inl (T.2 1, 600, .inl f1o))], [(a2o, .inl (T.2 0, 3, .inl f2o))], [(a3o, .inl (T.2 3, 2, .inr (.inr (.inr (.inr f3o)))))], [(a4o, .inl (T.2 4, 2, .inr (.inr (.inr (.inr f4o)))))], [(a5o, .inl (T.2 5, 2, .inr (.inr (.inr (.inr f5o)))))], w1o, w2o, w3o, w4o, w5o, w6o] _ _ := G
  have hl : lv_has ls 3 [(2, .int (nI i)), (0, .ref h), (1, .ref o)] := hl
  refine lv_iload_n hx hb dX9_takeAll_2 rfl (lv_at hl 0 rfl) ?_
  refine lv_sipush (v := 600) hx hb dX9_takeAll_3 (by decide) ?_
  refine lv_icmp_ge (tgt := 27) hx hb dX9_takeAll_6 (by decide) (fun c_1 => ?_) (fun c_1 => ?_)
  · have c_1n : 600 ≤ i := (nI_leI (a := 600) (b := i) (by omega) (by omega)).mp c_1
    refine lv_aload_n hx hb dX9_takeAll_27 rfl (lv_at hl 1 rfl) ?_
    refine lv_aload_n hx hb dX9_takeAll_28 rfl (lv_at hl 2 rfl) ?_
    refine z_get C G clX9 12 rfl 1 (by decide) m_fl_RX9_44 rfl dX9_takeAll_29 ?_
    refine z_put C G clX9 0 rfl 1 (by decide) m_fl_RX9_44 rfl rfl rfl (Nat.le_of_ble_eq_true rfl) dX9_takeAll_32 (fun H locs G => ?_)
    have G : zS T A s.heap s [[(h, .inr (8, [.ref a1p, .int v0o, .int v1p, .int v2p, .ref a2p, .ref a3p, .ref a4p, .ref a5p]))], [(a1p, .inl (T.2 1, 600, .inl g))], [(a2p, .inl (T.2 0, 3, .inl f2p))], [(a3p, .inl (T.2 3, 2, .inr (.inr (.inr (.inr f3p)))))], [(a4p, .inl (T.2 4, 2, .inr (.inr (.inr (.inr f4p)))))], [(a5p, .inl (T.2 5, 2, .inr (.inr (.inr (.inr f5p)))))], w1p, w2p, w3p, w4p, w5p, w6p, [(o, .inr (8, [.ref a1o, .int v0o, .int v1o, .int v2o, .ref a2o, .ref a3o, .ref a4o, .ref a5o]))], [(a1o, .inl (T.2 1, 600, .inl f1o))], [(a2o, .inl (T.2 0, 3, .inl f2o))], [(a3o, .inl (T.2 3, 2, .inr (.inr (.inr (.inr f3o)))))], [(a4o, .inl (T.2 4, 2, .inr (.inr (.inr (.inr f4o)))))], [(a5o, .inl (T.2 5, 2, .inr (.inr (.inr (.inr f5o)))))], w1o, w2o, w3o, w4o, w5o, w6o] _ _ := G
    refine lv_aload_n hx hb dX9_takeAll_35 rfl (lv_at hl 1 rfl) ?_
    refine lv_aload_n hx hb dX9_takeAll_36 rfl (lv_at hl 2 rfl) ?_
    refine z_get C G clX9 12 rfl 2 (by decide) m_fl_RX9_77 rfl dX9_takeAll_37 ?_
    refine z_put C G clX9 0 rfl 2 (by decide) m_fl_RX9_77 rfl rfl rfl (Nat.le_of_ble_eq_true rfl) dX9_takeAll_40 (fun H locs G => ?_)
    have G : zS T A s.heap s [[(h, .inr (8, [.ref a1p, .int v0o, .int v1o, .int v2p, .ref a2p, .ref a3p, .ref a4p, .ref a5p]))], [(a1p, .inl (T.2 1, 600, .inl g))], [(a2p, .inl (T.2 0, 3, .inl f2p))], [(a3p, .inl (T.2 3, 2, .inr (.inr (.inr (.inr f3p)))))], [(a4p, .inl (T.2 4, 2, .inr (.inr (.inr (.inr f4p)))))], [(a5p, .inl (T.2 5, 2, .inr (.inr (.inr (.inr f5p)))))], w1p, w2p, w3p, w4p, w5p, w6p, [(o, .inr (8, [.ref a1o, .int v0o, .int v1o, .int v2o, .ref a2o, .ref a3o, .ref a4o, .ref a5o]))], [(a1o, .inl (T.2 1, 600, .inl f1o))], [(a2o, .inl (T.2 0, 3, .inl f2o))], [(a3o, .inl (T.2 3, 2, .inr (.inr (.inr (.inr f3o)))))], [(a4o, .inl (T.2 4, 2, .inr (.inr (.inr (.inr f4o)))))], [(a5o, .inl (T.2 5, 2, .inr (.inr (.inr (.inr f5o)))))], w1o, w2o, w3o, w4o, w5o, w6o] _ _ := G
    refine lv_aload_n hx hb dX9_takeAll_43 rfl (lv_at hl 1 rfl) ?_
    refine lv_aload_n hx hb dX9_takeAll_44 rfl (lv_at hl 2 rfl) ?_
    refine z_get C G clX9 12 rfl 3 (by decide) m_fl_RX9_15 rfl dX9_takeAll_45 ?_
    refine z_put C G clX9 0 rfl 3 (by decide) m_fl_RX9_15 rfl rfl rfl (Nat.le_of_ble_eq_true rfl) dX9_takeAll_48 (fun H locs G => ?_)
    have G : zS T A s.heap s [[(h, .inr (8, [.ref a1p, .int v0o, .int v1o, .int v2o, .ref a2p, .ref a3p, .ref a4p, .ref a5p]))], [(a1p, .inl (T.2 1, 600, .inl g))], [(a2p, .inl (T.2 0, 3, .inl f2p))], [(a3p, .inl (T.2 3, 2, .inr (.inr (.inr (.inr f3p)))))], [(a4p, .inl (T.2 4, 2, .inr (.inr (.inr (.inr f4p)))))], [(a5p, .inl (T.2 5, 2, .inr (.inr (.inr (.inr f5p)))))], w1p, w2p, w3p, w4p, w5p, w6p, [(o, .inr (8, [.ref a1o, .int v0o, .int v1o, .int v2o, .ref a2o, .ref a3o, .ref a4o, .ref a5o]))], [(a1o, .inl (T.2 1, 600, .inl f1o))], [(a2o, .inl (T.2 0, 3, .inl f2o))], [(a3o, .inl (T.2 3, 2, .inr (.inr (.inr (.inr f3o)))))], [(a4o, .inl (T.2 4, 2, .inr (.inr (.inr (.inr f4o)))))], [(a5o, .inl (T.2 5, 2, .inr (.inr (.inr (.inr f5o)))))], w1o, w2o, w3o, w4o, w5o, w6o] _ _ := G
    refine lv_iconst (v := 0) hx hb dX9_takeAll_51 (by decide) ?_
    refine lv_istore_n (lv' := [(2, .int 0), (0, .ref h), (1, .ref o)]) hx hb dX9_takeAll_52 rfl hl (by decide) rfl (fun ls hl => ?_)
    refine lv_iload_n hx hb dX9_takeAll_53 rfl (lv_at hl 0 rfl) ?_
    refine lv_iconst (v := 2) hx hb dX9_takeAll_54 (by decide) ?_
    refine lv_icmp_gt (tgt := 76) hx hb dX9_takeAll_55 (by decide) (fun q => absurd q (by decide)) (fun _ => ?_)
    refine lv_aload_n hx hb dX9_takeAll_58 rfl (lv_at hl 1 rfl) ?_
    refine z_get C G clX9 0 rfl 4 (by decide) m_fl_RX9_19 rfl dX9_takeAll_59 ?_
    refine lv_iload_n hx hb dX9_takeAll_62 rfl (lv_at hl 0 rfl) ?_
    refine lv_aload_n hx hb dX9_takeAll_63 rfl (lv_at hl 2 rfl) ?_
    refine z_get C G clX9 12 rfl 4 (by decide) m_fl_RX9_19 rfl dX9_takeAll_64 ?_
    refine lv_iload_n hx hb dX9_takeAll_67 rfl (lv_at hl 0 rfl) ?_
    refine z_ild C G 14 rfl (vp_in_nI (n := 0) (by decide) (by decide)) dX9_takeAll_68 ?_
    refine lv_topi (fun v_2 ev_2 => ?_)
    rw [show ((0 : Int32).toNatClampNeg) = 0 from rfl] at ev_2
    subst ev_2
    refine z_ist C G 2 rfl (vp_in_nI (n := 0) (by decide) (by decide)) dX9_takeAll_69 (fun H locs G => ?_)
    have G : zS T A s.heap s [[(h, .inr (8, [.ref a1p, .int v0o, .int v1o, .int v2o, .ref a2p, .ref a3p, .ref a4p, .ref a5p]))], [(a1p, .inl (T.2 1, 600, .inl g))], [(a2p, .inl (T.2 0, 3, .inl (upd f2p 0 (f2o 0))))], [(a3p, .inl (T.2 3, 2, .inr (.inr (.inr (.inr f3p)))))], [(a4p, .inl (T.2 4, 2, .inr (.inr (.inr (.inr f4p)))))], [(a5p, .inl (T.2 5, 2, .inr (.inr (.inr (.inr f5p)))))], w1p, w2p, w3p, w4p, w5p, w6p, [(o, .inr (8, [.ref a1o, .int v0o, .int v1o, .int v2o, .ref a2o, .ref a3o, .ref a4o, .ref a5o]))], [(a1o, .inl (T.2 1, 600, .inl f1o))], [(a2o, .inl (T.2 0, 3, .inl f2o))], [(a3o, .inl (T.2 3, 2, .inr (.inr (.inr (.inr f3o)))))], [(a4o, .inl (T.2 4, 2, .inr (.inr (.inr (.inr f4o)))))], [(a5o, .inl (T.2 5, 2, .inr (.inr (.inr (.inr f5o)))))], w1o, w2o, w3o, w4o, w5o, w6o] _ _ := G
    refine lv_iinc (v := 1) (lv' := [(2, .int 1), (0, .ref h), (1, .ref o)]) hx hb dX9_takeAll_70 hl (k := 0) rfl (by decide) (by decide) rfl (fun ls hl => ?_)
    refine lv_goto (tgt := 53) hx hb dX9_takeAll_73 (by decide) ?_
    refine lv_iload_n hx hb dX9_takeAll_53 rfl (lv_at hl 0 rfl) ?_
    refine lv_iconst (v := 2) hx hb dX9_takeAll_54 (by decide) ?_
    refine lv_icmp_gt (tgt := 76) hx hb dX9_takeAll_55 (by decide) (fun q => absurd q (by decide)) (fun _ => ?_)
    refine lv_aload_n hx hb dX9_takeAll_58 rfl (lv_at hl 1 rfl) ?_
    refine z_get C G clX9 0 rfl 4 (by decide) m_fl_RX9_19 rfl dX9_takeAll_59 ?_
    refine lv_iload_n hx hb dX9_takeAll_62 rfl (lv_at hl 0 rfl) ?_
    refine lv_aload_n hx hb dX9_takeAll_63 rfl (lv_at hl 2 rfl) ?_
    refine z_get C G clX9 12 rfl 4 (by decide) m_fl_RX9_19 rfl dX9_takeAll_64 ?_
    refine lv_iload_n hx hb dX9_takeAll_67 rfl (lv_at hl 0 rfl) ?_
    refine z_ild C G 14 rfl (vp_in_nI (n := 1) (by decide) (by decide)) dX9_takeAll_68 ?_
    refine lv_topi (fun v_3 ev_3 => ?_)
    rw [show ((1 : Int32).toNatClampNeg) = 1 from rfl] at ev_3
    subst ev_3
    refine z_ist C G 2 rfl (vp_in_nI (n := 1) (by decide) (by decide)) dX9_takeAll_69 (fun H locs G => ?_)
    have G : zS T A s.heap s [[(h, .inr (8, [.ref a1p, .int v0o, .int v1o, .int v2o, .ref a2p, .ref a3p, .ref a4p, .ref a5p]))], [(a1p, .inl (T.2 1, 600, .inl g))], [(a2p, .inl (T.2 0, 3, .inl (upd (upd f2p 0 (f2o 0)) 1 (f2o 1))))], [(a3p, .inl (T.2 3, 2, .inr (.inr (.inr (.inr f3p)))))], [(a4p, .inl (T.2 4, 2, .inr (.inr (.inr (.inr f4p)))))], [(a5p, .inl (T.2 5, 2, .inr (.inr (.inr (.inr f5p)))))], w1p, w2p, w3p, w4p, w5p, w6p, [(o, .inr (8, [.ref a1o, .int v0o, .int v1o, .int v2o, .ref a2o, .ref a3o, .ref a4o, .ref a5o]))], [(a1o, .inl (T.2 1, 600, .inl f1o))], [(a2o, .inl (T.2 0, 3, .inl f2o))], [(a3o, .inl (T.2 3, 2, .inr (.inr (.inr (.inr f3o)))))], [(a4o, .inl (T.2 4, 2, .inr (.inr (.inr (.inr f4o)))))], [(a5o, .inl (T.2 5, 2, .inr (.inr (.inr (.inr f5o)))))], w1o, w2o, w3o, w4o, w5o, w6o] _ _ := G
    refine lv_iinc (v := 2) (lv' := [(2, .int 2), (0, .ref h), (1, .ref o)]) hx hb dX9_takeAll_70 hl (k := 0) rfl (by decide) (by decide) rfl (fun ls hl => ?_)
    refine lv_goto (tgt := 53) hx hb dX9_takeAll_73 (by decide) ?_
    refine lv_iload_n hx hb dX9_takeAll_53 rfl (lv_at hl 0 rfl) ?_
    refine lv_iconst (v := 2) hx hb dX9_takeAll_54 (by decide) ?_
    refine lv_icmp_gt (tgt := 76) hx hb dX9_takeAll_55 (by decide) (fun q => absurd q (by decide)) (fun _ => ?_)
    refine lv_aload_n hx hb dX9_takeAll_58 rfl (lv_at hl 1 rfl) ?_
    refine z_get C G clX9 0 rfl 4 (by decide) m_fl_RX9_19 rfl dX9_takeAll_59 ?_
    refine lv_iload_n hx hb dX9_takeAll_62 rfl (lv_at hl 0 rfl) ?_
    refine lv_aload_n hx hb dX9_takeAll_63 rfl (lv_at hl 2 rfl) ?_
    refine z_get C G clX9 12 rfl 4 (by decide) m_fl_RX9_19 rfl dX9_takeAll_64 ?_
    refine lv_iload_n hx hb dX9_takeAll_67 rfl (lv_at hl 0 rfl) ?_
    refine z_ild C G 14 rfl (vp_in_nI (n := 2) (by decide) (by decide)) dX9_takeAll_68 ?_
    refine lv_topi (fun v_4 ev_4 => ?_)
    rw [show ((2 : Int32).toNatClampNeg) = 2 from rfl] at ev_4
    subst ev_4
    refine z_ist C G 2 rfl (vp_in_nI (n := 2) (by decide) (by decide)) dX9_takeAll_69 (fun H locs G => ?_)
    have G : zS T A s.heap s [[(h, .inr (8, [.ref a1p, .int v0o, .int v1o, .int v2o, .ref a2p, .ref a3p, .ref a4p, .ref a5p]))], [(a1p, .inl (T.2 1, 600, .inl g))], [(a2p, .inl (T.2 0, 3, .inl (upd (upd (upd f2p 0 (f2o 0)) 1 (f2o 1)) 2 (f2o 2))))], [(a3p, .inl (T.2 3, 2, .inr (.inr (.inr (.inr f3p)))))], [(a4p, .inl (T.2 4, 2, .inr (.inr (.inr (.inr f4p)))))], [(a5p, .inl (T.2 5, 2, .inr (.inr (.inr (.inr f5p)))))], w1p, w2p, w3p, w4p, w5p, w6p, [(o, .inr (8, [.ref a1o, .int v0o, .int v1o, .int v2o, .ref a2o, .ref a3o, .ref a4o, .ref a5o]))], [(a1o, .inl (T.2 1, 600, .inl f1o))], [(a2o, .inl (T.2 0, 3, .inl f2o))], [(a3o, .inl (T.2 3, 2, .inr (.inr (.inr (.inr f3o)))))], [(a4o, .inl (T.2 4, 2, .inr (.inr (.inr (.inr f4o)))))], [(a5o, .inl (T.2 5, 2, .inr (.inr (.inr (.inr f5o)))))], w1o, w2o, w3o, w4o, w5o, w6o] _ _ := G
    refine lv_iinc (v := 3) (lv' := [(2, .int 3), (0, .ref h), (1, .ref o)]) hx hb dX9_takeAll_70 hl (k := 0) rfl (by decide) (by decide) rfl (fun ls hl => ?_)
    refine lv_goto (tgt := 53) hx hb dX9_takeAll_73 (by decide) ?_
    refine lv_iload_n hx hb dX9_takeAll_53 rfl (lv_at hl 0 rfl) ?_
    refine lv_iconst (v := 2) hx hb dX9_takeAll_54 (by decide) ?_
    refine lv_icmp_gt (tgt := 76) hx hb dX9_takeAll_55 (by decide) (fun _ => ?_) (fun q => absurd (by decide) q)
    refine lv_iconst (v := 0) hx hb dX9_takeAll_76 (by decide) ?_
    refine lv_istore_n (lv' := [(2, .int 0), (0, .ref h), (1, .ref o)]) hx hb dX9_takeAll_77 rfl hl (by decide) rfl (fun ls hl => ?_)
    refine lv_iload_n hx hb dX9_takeAll_78 rfl (lv_at hl 0 rfl) ?_
    refine lv_iconst (v := 2) hx hb dX9_takeAll_79 (by decide) ?_
    refine lv_icmp_ge (tgt := 134) hx hb dX9_takeAll_80 (by decide) (fun q => absurd q (by decide)) (fun _ => ?_)
    refine lv_aload_n hx hb dX9_takeAll_83 rfl (lv_at hl 1 rfl) ?_
    refine z_get C G clX9 0 rfl 5 (by decide) m_fl_RX9_26 rfl dX9_takeAll_84 ?_
    refine lv_iload_n hx hb dX9_takeAll_87 rfl (lv_at hl 0 rfl) ?_
    refine z_ald C G 3 3 rfl rfl (vp_in_nI (n := 0) (by decide) (by decide)) dX9_takeAll_88 ?_
    rw [show f3p ((0 : Int32).toNatClampNeg) = some l0p from he0p]
    refine lv_aload_n hx hb dX9_takeAll_89 rfl (lv_at hl 2 rfl) ?_
    refine z_get C G clX9 12 rfl 5 (by decide) m_fl_RX9_26 rfl dX9_takeAll_90 ?_
    refine lv_iload_n hx hb dX9_takeAll_93 rfl (lv_at hl 0 rfl) ?_
    refine z_ald C G 15 3 rfl rfl (vp_in_nI (n := 0) (by decide) (by decide)) dX9_takeAll_94 ?_
    rw [show f3o ((0 : Int32).toNatClampNeg) = some l0o from he0o]
    refine z_Vv (bc := [w1p, w1o]) (br := [[(h, .inr (8, [.ref a1p, .int v0o, .int v1o, .int v2o, .ref a2p, .ref a3p, .ref a4p, .ref a5p]))], [(a1p, .inl (T.2 1, 600, .inl g))], [(a2p, .inl (T.2 0, 3, .inl (upd (upd (upd f2p 0 (f2o 0)) 1 (f2o 1)) 2 (f2o 2))))], [(a3p, .inl (T.2 3, 2, .inr (.inr (.inr (.inr f3p)))))], [(a4p, .inl (T.2 4, 2, .inr (.inr (.inr (.inr f4p)))))], [(a5p, .inl (T.2 5, 2, .inr (.inr (.inr (.inr f5p)))))], w2p, w3p, w4p, w5p, w6p, [(o, .inr (8, [.ref a1o, .int v0o, .int v1o, .int v2o, .ref a2o, .ref a3o, .ref a4o, .ref a5o]))], [(a1o, .inl (T.2 1, 600, .inl f1o))], [(a2o, .inl (T.2 0, 3, .inl f2o))], [(a3o, .inl (T.2 3, 2, .inr (.inr (.inr (.inr f3o)))))], [(a4o, .inl (T.2 4, 2, .inr (.inr (.inr (.inr f4o)))))], [(a5o, .inl (T.2 5, 2, .inr (.inr (.inr (.inr f5o)))))], w2o, w3o, w4o, w5o, w6o]) (As := [.ref l0o]) (rest := []) C G (c_Land_takeAll l T l0p l0o w1p w1o hw0p hw0o) (kV_RX9_53 C.2.2.2.2 (Nat.le_of_ble_eq_true rfl) (Nat.le_of_ble_eq_true rfl)) [6, 18] [0, 1, 2, 3, 4, 5, 7, 8, 9, 10, 11, 12, 13, 14, 15, 16, 17, 19, 20, 21, 22, 23] rfl rfl (ci := 4) (qc := (RX4, TX4, 6)) rfl rfl (List.mem_flatten.mpr ⟨_, List.mem_of_getElem? (i := 0) rfl, (bLand_mem hw0p).choose_spec⟩) rfl rfl hl.1 dX9_takeAll_95 (Nat.le_of_ble_eq_true rfl) (Nat.le_of_ble_eq_true rfl) (fun b1 H locs hw G => ?_)
    obtain ⟨w2_5, z2_6, rfl, h_7, h_8⟩ := hw
    have G : zS T A s.heap s [[(h, .inr (8, [.ref a1p, .int v0o, .int v1o, .int v2o, .ref a2p, .ref a3p, .ref a4p, .ref a5p]))], [(a1p, .inl (T.2 1, 600, .inl g))], [(a2p, .inl (T.2 0, 3, .inl (upd (upd (upd f2p 0 (f2o 0)) 1 (f2o 1)) 2 (f2o 2))))], [(a3p, .inl (T.2 3, 2, .inr (.inr (.inr (.inr f3p)))))], [(a4p, .inl (T.2 4, 2, .inr (.inr (.inr (.inr f4p)))))], [(a5p, .inl (T.2 5, 2, .inr (.inr (.inr (.inr f5p)))))], w2p, w3p, w4p, w5p, w6p, [(o, .inr (8, [.ref a1o, .int v0o, .int v1o, .int v2o, .ref a2o, .ref a3o, .ref a4o, .ref a5o]))], [(a1o, .inl (T.2 1, 600, .inl f1o))], [(a2o, .inl (T.2 0, 3, .inl f2o))], [(a3o, .inl (T.2 3, 2, .inr (.inr (.inr (.inr f3o)))))], [(a4o, .inl (T.2 4, 2, .inr (.inr (.inr (.inr f4o)))))], [(a5o, .inl (T.2 5, 2, .inr (.inr (.inr (.inr f5o)))))], w2o, w3o, w4o, w5o, w6o, w2_5, z2_6] _ _ := G
    refine lv_aload_n hx hb dX9_takeAll_98 rfl (lv_at hl 1 rfl) ?_
    refine z_get C G clX9 0 rfl 6 (by decide) m_fl_RX9_33 rfl dX9_takeAll_99 ?_
    refine lv_iload_n hx hb dX9_takeAll_102 rfl (lv_at hl 0 rfl) ?_
    refine z_ald C G 4 4 rfl rfl (vp_in_nI (n := 0) (by decide) (by decide)) dX9_takeAll_103 ?_
    rw [show f4p ((0 : Int32).toNatClampNeg) = some d0p from he2p]
    refine lv_aload_n hx hb dX9_takeAll_104 rfl (lv_at hl 2 rfl) ?_
    refine z_get C G clX9 11 rfl 6 (by decide) m_fl_RX9_33 rfl dX9_takeAll_105 ?_
    refine lv_iload_n hx hb dX9_takeAll_108 rfl (lv_at hl 0 rfl) ?_
    refine z_ald C G 15 4 rfl rfl (vp_in_nI (n := 0) (by decide) (by decide)) dX9_takeAll_109 ?_
    rw [show f4o ((0 : Int32).toNatClampNeg) = some d0o from he2o]
    refine z_Vv (bc := [w3p, w3o]) (br := [[(h, .inr (8, [.ref a1p, .int v0o, .int v1o, .int v2o, .ref a2p, .ref a3p, .ref a4p, .ref a5p]))], [(a1p, .inl (T.2 1, 600, .inl g))], [(a2p, .inl (T.2 0, 3, .inl (upd (upd (upd f2p 0 (f2o 0)) 1 (f2o 1)) 2 (f2o 2))))], [(a3p, .inl (T.2 3, 2, .inr (.inr (.inr (.inr f3p)))))], [(a4p, .inl (T.2 4, 2, .inr (.inr (.inr (.inr f4p)))))], [(a5p, .inl (T.2 5, 2, .inr (.inr (.inr (.inr f5p)))))], w2p, w4p, w5p, w6p, [(o, .inr (8, [.ref a1o, .int v0o, .int v1o, .int v2o, .ref a2o, .ref a3o, .ref a4o, .ref a5o]))], [(a1o, .inl (T.2 1, 600, .inl f1o))], [(a2o, .inl (T.2 0, 3, .inl f2o))], [(a3o, .inl (T.2 3, 2, .inr (.inr (.inr (.inr f3o)))))], [(a4o, .inl (T.2 4, 2, .inr (.inr (.inr (.inr f4o)))))], [(a5o, .inl (T.2 5, 2, .inr (.inr (.inr (.inr f5o)))))], w2o, w4o, w5o, w6o, w2_5, z2_6]) (As := [.ref d0o]) (rest := []) C G (c_Day_takeAll l T d0p d0o w3p w3o hw2p hw2o) (kV_RX9_61 C.2.2.2.2 (Nat.le_of_ble_eq_true rfl) (Nat.le_of_ble_eq_true rfl)) [7, 18] [0, 1, 2, 3, 4, 5, 6, 8, 9, 10, 11, 12, 13, 14, 15, 16, 17, 19, 20, 21, 22, 23] rfl rfl (ci := 2) (qc := (RX2, TX2, 4)) rfl rfl (List.mem_flatten.mpr ⟨_, List.mem_of_getElem? (i := 0) rfl, (bDay_mem hw2p).choose_spec⟩) rfl rfl hl.1 dX9_takeAll_110 (Nat.le_of_ble_eq_true rfl) (Nat.le_of_ble_eq_true rfl) (fun b1 H locs hw G => ?_)
    obtain ⟨w2_10, z2_11, rfl, h_12, h_13⟩ := hw
    have G : zS T A s.heap s [[(h, .inr (8, [.ref a1p, .int v0o, .int v1o, .int v2o, .ref a2p, .ref a3p, .ref a4p, .ref a5p]))], [(a1p, .inl (T.2 1, 600, .inl g))], [(a2p, .inl (T.2 0, 3, .inl (upd (upd (upd f2p 0 (f2o 0)) 1 (f2o 1)) 2 (f2o 2))))], [(a3p, .inl (T.2 3, 2, .inr (.inr (.inr (.inr f3p)))))], [(a4p, .inl (T.2 4, 2, .inr (.inr (.inr (.inr f4p)))))], [(a5p, .inl (T.2 5, 2, .inr (.inr (.inr (.inr f5p)))))], w2p, w4p, w5p, w6p, [(o, .inr (8, [.ref a1o, .int v0o, .int v1o, .int v2o, .ref a2o, .ref a3o, .ref a4o, .ref a5o]))], [(a1o, .inl (T.2 1, 600, .inl f1o))], [(a2o, .inl (T.2 0, 3, .inl f2o))], [(a3o, .inl (T.2 3, 2, .inr (.inr (.inr (.inr f3o)))))], [(a4o, .inl (T.2 4, 2, .inr (.inr (.inr (.inr f4o)))))], [(a5o, .inl (T.2 5, 2, .inr (.inr (.inr (.inr f5o)))))], w2o, w4o, w5o, w6o, w2_5, z2_6, w2_10, z2_11] _ _ := G
    refine lv_aload_n hx hb dX9_takeAll_113 rfl (lv_at hl 1 rfl) ?_
    refine z_get C G clX9 0 rfl 7 (by decide) m_fl_RX9_40 rfl dX9_takeAll_114 ?_
    refine lv_iload_n hx hb dX9_takeAll_117 rfl (lv_at hl 0 rfl) ?_
    refine z_ald C G 5 5 rfl rfl (vp_in_nI (n := 0) (by decide) (by decide)) dX9_takeAll_118 ?_
    rw [show f5p ((0 : Int32).toNatClampNeg) = some g0p from he4p]
    refine lv_aload_n hx hb dX9_takeAll_119 rfl (lv_at hl 2 rfl) ?_
    refine z_get C G clX9 10 rfl 7 (by decide) m_fl_RX9_40 rfl dX9_takeAll_120 ?_
    refine lv_iload_n hx hb dX9_takeAll_123 rfl (lv_at hl 0 rfl) ?_
    refine z_ald C G 15 5 rfl rfl (vp_in_nI (n := 0) (by decide) (by decide)) dX9_takeAll_124 ?_
    rw [show f5o ((0 : Int32).toNatClampNeg) = some g0o from he4o]
    refine z_Vv (bc := [w5p, w5o]) (br := [[(h, .inr (8, [.ref a1p, .int v0o, .int v1o, .int v2o, .ref a2p, .ref a3p, .ref a4p, .ref a5p]))], [(a1p, .inl (T.2 1, 600, .inl g))], [(a2p, .inl (T.2 0, 3, .inl (upd (upd (upd f2p 0 (f2o 0)) 1 (f2o 1)) 2 (f2o 2))))], [(a3p, .inl (T.2 3, 2, .inr (.inr (.inr (.inr f3p)))))], [(a4p, .inl (T.2 4, 2, .inr (.inr (.inr (.inr f4p)))))], [(a5p, .inl (T.2 5, 2, .inr (.inr (.inr (.inr f5p)))))], w2p, w4p, w6p, [(o, .inr (8, [.ref a1o, .int v0o, .int v1o, .int v2o, .ref a2o, .ref a3o, .ref a4o, .ref a5o]))], [(a1o, .inl (T.2 1, 600, .inl f1o))], [(a2o, .inl (T.2 0, 3, .inl f2o))], [(a3o, .inl (T.2 3, 2, .inr (.inr (.inr (.inr f3o)))))], [(a4o, .inl (T.2 4, 2, .inr (.inr (.inr (.inr f4o)))))], [(a5o, .inl (T.2 5, 2, .inr (.inr (.inr (.inr f5o)))))], w2o, w4o, w6o, w2_5, z2_6, w2_10, z2_11]) (As := [.ref g0o]) (rest := []) C G (c_Log_takeAll l T g0p g0o w5p w5o hw4p hw4o) (kV_RX9_68 C.2.2.2.2 (Nat.le_of_ble_eq_true rfl) (Nat.le_of_ble_eq_true rfl)) [8, 18] [0, 1, 2, 3, 4, 5, 6, 7, 9, 10, 11, 12, 13, 14, 15, 16, 17, 19, 20, 21, 22, 23] rfl rfl (ci := 5) (qc := (RX5, TX5, 3)) rfl rfl (List.mem_flatten.mpr ⟨_, List.mem_of_getElem? (i := 0) rfl, (bLog_mem hw4p).choose_spec⟩) rfl rfl hl.1 dX9_takeAll_125 (Nat.le_of_ble_eq_true rfl) (Nat.le_of_ble_eq_true rfl) (fun b1 H locs hw G => ?_)
    obtain ⟨w2_15, z2_16, rfl, h_17, h_18⟩ := hw
    have G : zS T A s.heap s [[(h, .inr (8, [.ref a1p, .int v0o, .int v1o, .int v2o, .ref a2p, .ref a3p, .ref a4p, .ref a5p]))], [(a1p, .inl (T.2 1, 600, .inl g))], [(a2p, .inl (T.2 0, 3, .inl (upd (upd (upd f2p 0 (f2o 0)) 1 (f2o 1)) 2 (f2o 2))))], [(a3p, .inl (T.2 3, 2, .inr (.inr (.inr (.inr f3p)))))], [(a4p, .inl (T.2 4, 2, .inr (.inr (.inr (.inr f4p)))))], [(a5p, .inl (T.2 5, 2, .inr (.inr (.inr (.inr f5p)))))], w2p, w4p, w6p, [(o, .inr (8, [.ref a1o, .int v0o, .int v1o, .int v2o, .ref a2o, .ref a3o, .ref a4o, .ref a5o]))], [(a1o, .inl (T.2 1, 600, .inl f1o))], [(a2o, .inl (T.2 0, 3, .inl f2o))], [(a3o, .inl (T.2 3, 2, .inr (.inr (.inr (.inr f3o)))))], [(a4o, .inl (T.2 4, 2, .inr (.inr (.inr (.inr f4o)))))], [(a5o, .inl (T.2 5, 2, .inr (.inr (.inr (.inr f5o)))))], w2o, w4o, w6o, w2_5, z2_6, w2_10, z2_11, w2_15, z2_16] _ _ := G
    refine lv_iinc (v := 1) (lv' := [(2, .int 1), (0, .ref h), (1, .ref o)]) hx hb dX9_takeAll_128 hl (k := 0) rfl (by decide) (by decide) rfl (fun ls hl => ?_)
    refine lv_goto (tgt := 78) hx hb dX9_takeAll_131 (by decide) ?_
    refine lv_iload_n hx hb dX9_takeAll_78 rfl (lv_at hl 0 rfl) ?_
    refine lv_iconst (v := 2) hx hb dX9_takeAll_79 (by decide) ?_
    refine lv_icmp_ge (tgt := 134) hx hb dX9_takeAll_80 (by decide) (fun q => absurd q (by decide)) (fun _ => ?_)
    refine lv_aload_n hx hb dX9_takeAll_83 rfl (lv_at hl 1 rfl) ?_
    refine z_get C G clX9 0 rfl 5 (by decide) m_fl_RX9_26 rfl dX9_takeAll_84 ?_
    refine lv_iload_n hx hb dX9_takeAll_87 rfl (lv_at hl 0 rfl) ?_
    refine z_ald C G 3 3 rfl rfl (vp_in_nI (n := 1) (by decide) (by decide)) dX9_takeAll_88 ?_
    rw [show f3p ((1 : Int32).toNatClampNeg) = some l1p from he1p]
    refine lv_aload_n hx hb dX9_takeAll_89 rfl (lv_at hl 2 rfl) ?_
    refine z_get C G clX9 9 rfl 5 (by decide) m_fl_RX9_26 rfl dX9_takeAll_90 ?_
    refine lv_iload_n hx hb dX9_takeAll_93 rfl (lv_at hl 0 rfl) ?_
    refine z_ald C G 12 3 rfl rfl (vp_in_nI (n := 1) (by decide) (by decide)) dX9_takeAll_94 ?_
    rw [show f3o ((1 : Int32).toNatClampNeg) = some l1o from he1o]
    refine z_Vv (bc := [w2p, w2o]) (br := [[(h, .inr (8, [.ref a1p, .int v0o, .int v1o, .int v2o, .ref a2p, .ref a3p, .ref a4p, .ref a5p]))], [(a1p, .inl (T.2 1, 600, .inl g))], [(a2p, .inl (T.2 0, 3, .inl (upd (upd (upd f2p 0 (f2o 0)) 1 (f2o 1)) 2 (f2o 2))))], [(a3p, .inl (T.2 3, 2, .inr (.inr (.inr (.inr f3p)))))], [(a4p, .inl (T.2 4, 2, .inr (.inr (.inr (.inr f4p)))))], [(a5p, .inl (T.2 5, 2, .inr (.inr (.inr (.inr f5p)))))], w4p, w6p, [(o, .inr (8, [.ref a1o, .int v0o, .int v1o, .int v2o, .ref a2o, .ref a3o, .ref a4o, .ref a5o]))], [(a1o, .inl (T.2 1, 600, .inl f1o))], [(a2o, .inl (T.2 0, 3, .inl f2o))], [(a3o, .inl (T.2 3, 2, .inr (.inr (.inr (.inr f3o)))))], [(a4o, .inl (T.2 4, 2, .inr (.inr (.inr (.inr f4o)))))], [(a5o, .inl (T.2 5, 2, .inr (.inr (.inr (.inr f5o)))))], w4o, w6o, w2_5, z2_6, w2_10, z2_11, w2_15, z2_16]) (As := [.ref l1o]) (rest := []) C G (c_Land_takeAll l T l1p l1o w2p w2o hw1p hw1o) (kV_RX9_53 C.2.2.2.2 (Nat.le_of_ble_eq_true rfl) (Nat.le_of_ble_eq_true rfl)) [6, 15] [0, 1, 2, 3, 4, 5, 7, 8, 9, 10, 11, 12, 13, 14, 16, 17, 18, 19, 20, 21, 22, 23] rfl rfl (ci := 4) (qc := (RX4, TX4, 6)) rfl rfl (List.mem_flatten.mpr ⟨_, List.mem_of_getElem? (i := 0) rfl, (bLand_mem hw1p).choose_spec⟩) rfl rfl hl.1 dX9_takeAll_95 (Nat.le_of_ble_eq_true rfl) (Nat.le_of_ble_eq_true rfl) (fun b1 H locs hw G => ?_)
    obtain ⟨w2_20, z2_21, rfl, h_22, h_23⟩ := hw
    have G : zS T A s.heap s [[(h, .inr (8, [.ref a1p, .int v0o, .int v1o, .int v2o, .ref a2p, .ref a3p, .ref a4p, .ref a5p]))], [(a1p, .inl (T.2 1, 600, .inl g))], [(a2p, .inl (T.2 0, 3, .inl (upd (upd (upd f2p 0 (f2o 0)) 1 (f2o 1)) 2 (f2o 2))))], [(a3p, .inl (T.2 3, 2, .inr (.inr (.inr (.inr f3p)))))], [(a4p, .inl (T.2 4, 2, .inr (.inr (.inr (.inr f4p)))))], [(a5p, .inl (T.2 5, 2, .inr (.inr (.inr (.inr f5p)))))], w4p, w6p, [(o, .inr (8, [.ref a1o, .int v0o, .int v1o, .int v2o, .ref a2o, .ref a3o, .ref a4o, .ref a5o]))], [(a1o, .inl (T.2 1, 600, .inl f1o))], [(a2o, .inl (T.2 0, 3, .inl f2o))], [(a3o, .inl (T.2 3, 2, .inr (.inr (.inr (.inr f3o)))))], [(a4o, .inl (T.2 4, 2, .inr (.inr (.inr (.inr f4o)))))], [(a5o, .inl (T.2 5, 2, .inr (.inr (.inr (.inr f5o)))))], w4o, w6o, w2_5, z2_6, w2_10, z2_11, w2_15, z2_16, w2_20, z2_21] _ _ := G
    refine lv_aload_n hx hb dX9_takeAll_98 rfl (lv_at hl 1 rfl) ?_
    refine z_get C G clX9 0 rfl 6 (by decide) m_fl_RX9_33 rfl dX9_takeAll_99 ?_
    refine lv_iload_n hx hb dX9_takeAll_102 rfl (lv_at hl 0 rfl) ?_
    refine z_ald C G 4 4 rfl rfl (vp_in_nI (n := 1) (by decide) (by decide)) dX9_takeAll_103 ?_
    rw [show f4p ((1 : Int32).toNatClampNeg) = some d1p from he3p]
    refine lv_aload_n hx hb dX9_takeAll_104 rfl (lv_at hl 2 rfl) ?_
    refine z_get C G clX9 8 rfl 6 (by decide) m_fl_RX9_33 rfl dX9_takeAll_105 ?_
    refine lv_iload_n hx hb dX9_takeAll_108 rfl (lv_at hl 0 rfl) ?_
    refine z_ald C G 12 4 rfl rfl (vp_in_nI (n := 1) (by decide) (by decide)) dX9_takeAll_109 ?_
    rw [show f4o ((1 : Int32).toNatClampNeg) = some d1o from he3o]
    refine z_Vv (bc := [w4p, w4o]) (br := [[(h, .inr (8, [.ref a1p, .int v0o, .int v1o, .int v2o, .ref a2p, .ref a3p, .ref a4p, .ref a5p]))], [(a1p, .inl (T.2 1, 600, .inl g))], [(a2p, .inl (T.2 0, 3, .inl (upd (upd (upd f2p 0 (f2o 0)) 1 (f2o 1)) 2 (f2o 2))))], [(a3p, .inl (T.2 3, 2, .inr (.inr (.inr (.inr f3p)))))], [(a4p, .inl (T.2 4, 2, .inr (.inr (.inr (.inr f4p)))))], [(a5p, .inl (T.2 5, 2, .inr (.inr (.inr (.inr f5p)))))], w6p, [(o, .inr (8, [.ref a1o, .int v0o, .int v1o, .int v2o, .ref a2o, .ref a3o, .ref a4o, .ref a5o]))], [(a1o, .inl (T.2 1, 600, .inl f1o))], [(a2o, .inl (T.2 0, 3, .inl f2o))], [(a3o, .inl (T.2 3, 2, .inr (.inr (.inr (.inr f3o)))))], [(a4o, .inl (T.2 4, 2, .inr (.inr (.inr (.inr f4o)))))], [(a5o, .inl (T.2 5, 2, .inr (.inr (.inr (.inr f5o)))))], w6o, w2_5, z2_6, w2_10, z2_11, w2_15, z2_16, w2_20, z2_21]) (As := [.ref d1o]) (rest := []) C G (c_Day_takeAll l T d1p d1o w4p w4o hw3p hw3o) (kV_RX9_61 C.2.2.2.2 (Nat.le_of_ble_eq_true rfl) (Nat.le_of_ble_eq_true rfl)) [6, 14] [0, 1, 2, 3, 4, 5, 7, 8, 9, 10, 11, 12, 13, 15, 16, 17, 18, 19, 20, 21, 22, 23] rfl rfl (ci := 2) (qc := (RX2, TX2, 4)) rfl rfl (List.mem_flatten.mpr ⟨_, List.mem_of_getElem? (i := 0) rfl, (bDay_mem hw3p).choose_spec⟩) rfl rfl hl.1 dX9_takeAll_110 (Nat.le_of_ble_eq_true rfl) (Nat.le_of_ble_eq_true rfl) (fun b1 H locs hw G => ?_)
    obtain ⟨w2_25, z2_26, rfl, h_27, h_28⟩ := hw
    have G : zS T A s.heap s [[(h, .inr (8, [.ref a1p, .int v0o, .int v1o, .int v2o, .ref a2p, .ref a3p, .ref a4p, .ref a5p]))], [(a1p, .inl (T.2 1, 600, .inl g))], [(a2p, .inl (T.2 0, 3, .inl (upd (upd (upd f2p 0 (f2o 0)) 1 (f2o 1)) 2 (f2o 2))))], [(a3p, .inl (T.2 3, 2, .inr (.inr (.inr (.inr f3p)))))], [(a4p, .inl (T.2 4, 2, .inr (.inr (.inr (.inr f4p)))))], [(a5p, .inl (T.2 5, 2, .inr (.inr (.inr (.inr f5p)))))], w6p, [(o, .inr (8, [.ref a1o, .int v0o, .int v1o, .int v2o, .ref a2o, .ref a3o, .ref a4o, .ref a5o]))], [(a1o, .inl (T.2 1, 600, .inl f1o))], [(a2o, .inl (T.2 0, 3, .inl f2o))], [(a3o, .inl (T.2 3, 2, .inr (.inr (.inr (.inr f3o)))))], [(a4o, .inl (T.2 4, 2, .inr (.inr (.inr (.inr f4o)))))], [(a5o, .inl (T.2 5, 2, .inr (.inr (.inr (.inr f5o)))))], w6o, w2_5, z2_6, w2_10, z2_11, w2_15, z2_16, w2_20, z2_21, w2_25, z2_26] _ _ := G
    refine lv_aload_n hx hb dX9_takeAll_113 rfl (lv_at hl 1 rfl) ?_
    refine z_get C G clX9 0 rfl 7 (by decide) m_fl_RX9_40 rfl dX9_takeAll_114 ?_
    refine lv_iload_n hx hb dX9_takeAll_117 rfl (lv_at hl 0 rfl) ?_
    refine z_ald C G 5 5 rfl rfl (vp_in_nI (n := 1) (by decide) (by decide)) dX9_takeAll_118 ?_
    rw [show f5p ((1 : Int32).toNatClampNeg) = some g1p from he5p]
    refine lv_aload_n hx hb dX9_takeAll_119 rfl (lv_at hl 2 rfl) ?_
    refine z_get C G clX9 7 rfl 7 (by decide) m_fl_RX9_40 rfl dX9_takeAll_120 ?_
    refine lv_iload_n hx hb dX9_takeAll_123 rfl (lv_at hl 0 rfl) ?_
    refine z_ald C G 12 5 rfl rfl (vp_in_nI (n := 1) (by decide) (by decide)) dX9_takeAll_124 ?_
    rw [show f5o ((1 : Int32).toNatClampNeg) = some g1o from he5o]
    refine z_Vv (bc := [w6p, w6o]) (br := [[(h, .inr (8, [.ref a1p, .int v0o, .int v1o, .int v2o, .ref a2p, .ref a3p, .ref a4p, .ref a5p]))], [(a1p, .inl (T.2 1, 600, .inl g))], [(a2p, .inl (T.2 0, 3, .inl (upd (upd (upd f2p 0 (f2o 0)) 1 (f2o 1)) 2 (f2o 2))))], [(a3p, .inl (T.2 3, 2, .inr (.inr (.inr (.inr f3p)))))], [(a4p, .inl (T.2 4, 2, .inr (.inr (.inr (.inr f4p)))))], [(a5p, .inl (T.2 5, 2, .inr (.inr (.inr (.inr f5p)))))], [(o, .inr (8, [.ref a1o, .int v0o, .int v1o, .int v2o, .ref a2o, .ref a3o, .ref a4o, .ref a5o]))], [(a1o, .inl (T.2 1, 600, .inl f1o))], [(a2o, .inl (T.2 0, 3, .inl f2o))], [(a3o, .inl (T.2 3, 2, .inr (.inr (.inr (.inr f3o)))))], [(a4o, .inl (T.2 4, 2, .inr (.inr (.inr (.inr f4o)))))], [(a5o, .inl (T.2 5, 2, .inr (.inr (.inr (.inr f5o)))))], w2_5, z2_6, w2_10, z2_11, w2_15, z2_16, w2_20, z2_21, w2_25, z2_26]) (As := [.ref g1o]) (rest := []) C G (c_Log_takeAll l T g1p g1o w6p w6o hw5p hw5o) (kV_RX9_68 C.2.2.2.2 (Nat.le_of_ble_eq_true rfl) (Nat.le_of_ble_eq_true rfl)) [6, 13] [0, 1, 2, 3, 4, 5, 7, 8, 9, 10, 11, 12, 14, 15, 16, 17, 18, 19, 20, 21, 22, 23] rfl rfl (ci := 5) (qc := (RX5, TX5, 3)) rfl rfl (List.mem_flatten.mpr ⟨_, List.mem_of_getElem? (i := 0) rfl, (bLog_mem hw5p).choose_spec⟩) rfl rfl hl.1 dX9_takeAll_125 (Nat.le_of_ble_eq_true rfl) (Nat.le_of_ble_eq_true rfl) (fun b1 H locs hw G => ?_)
    obtain ⟨w2_30, z2_31, rfl, h_32, h_33⟩ := hw
    have G : zS T A s.heap s [[(h, .inr (8, [.ref a1p, .int v0o, .int v1o, .int v2o, .ref a2p, .ref a3p, .ref a4p, .ref a5p]))], [(a1p, .inl (T.2 1, 600, .inl g))], [(a2p, .inl (T.2 0, 3, .inl (upd (upd (upd f2p 0 (f2o 0)) 1 (f2o 1)) 2 (f2o 2))))], [(a3p, .inl (T.2 3, 2, .inr (.inr (.inr (.inr f3p)))))], [(a4p, .inl (T.2 4, 2, .inr (.inr (.inr (.inr f4p)))))], [(a5p, .inl (T.2 5, 2, .inr (.inr (.inr (.inr f5p)))))], [(o, .inr (8, [.ref a1o, .int v0o, .int v1o, .int v2o, .ref a2o, .ref a3o, .ref a4o, .ref a5o]))], [(a1o, .inl (T.2 1, 600, .inl f1o))], [(a2o, .inl (T.2 0, 3, .inl f2o))], [(a3o, .inl (T.2 3, 2, .inr (.inr (.inr (.inr f3o)))))], [(a4o, .inl (T.2 4, 2, .inr (.inr (.inr (.inr f4o)))))], [(a5o, .inl (T.2 5, 2, .inr (.inr (.inr (.inr f5o)))))], w2_5, z2_6, w2_10, z2_11, w2_15, z2_16, w2_20, z2_21, w2_25, z2_26, w2_30, z2_31] _ _ := G
    refine lv_iinc (v := 2) (lv' := [(2, .int 2), (0, .ref h), (1, .ref o)]) hx hb dX9_takeAll_128 hl (k := 0) rfl (by decide) (by decide) rfl (fun ls hl => ?_)
    refine lv_goto (tgt := 78) hx hb dX9_takeAll_131 (by decide) ?_
    refine lv_iload_n hx hb dX9_takeAll_78 rfl (lv_at hl 0 rfl) ?_
    refine lv_iconst (v := 2) hx hb dX9_takeAll_79 (by decide) ?_
    refine lv_icmp_ge (tgt := 134) hx hb dX9_takeAll_80 (by decide) (fun _ => ?_) (fun q => absurd (by decide) q)
    have G := G.sub (bs' := []) [] rfl
    exact z_vret C hr hlocks G (Nat.le_of_ble_eq_true rfl) (Nat.le_of_ble_eq_true rfl) dX9_takeAll_134 rfl
  · have c_1n : ¬ 600 ≤ i := fun q => c_1 ((nI_leI (a := 600) (b := i) (by omega) (by omega)).mpr q)
    refine lv_aload_n hx hb dX9_takeAll_9 rfl (lv_at hl 1 rfl) ?_
    refine z_get C G clX9 0 rfl 0 (by decide) m_fl_RX9_9 rfl dX9_takeAll_10 ?_
    refine lv_iload_n hx hb dX9_takeAll_13 rfl (lv_at hl 0 rfl) ?_
    refine lv_aload_n hx hb dX9_takeAll_14 rfl (lv_at hl 2 rfl) ?_
    refine z_get C G clX9 12 rfl 0 (by decide) m_fl_RX9_9 rfl dX9_takeAll_15 ?_
    refine lv_iload_n hx hb dX9_takeAll_18 rfl (lv_at hl 0 rfl) ?_
    refine z_bld C G 13 rfl (vp_in_nI (by omega) (by omega)) dX9_takeAll_19 ?_
    refine lv_topi (fun v_35 ev_35 => ?_)
    rw [nI_clamp (by omega)] at ev_35
    subst ev_35
    refine z_bst C G 1 rfl (vp_in_nI (by omega) (by omega)) dX9_takeAll_20 (fun H locs G => ?_)
    rw [nI_clamp (by omega)] at G
    have G : zS T A s.heap s [[(h, .inr (8, [.ref a1p, .int v0p, .int v1p, .int v2p, .ref a2p, .ref a3p, .ref a4p, .ref a5p]))], [(a1p, .inl (T.2 1, 600, .inl (upd g i (vp_nar .byte (f1o i)))))], [(a2p, .inl (T.2 0, 3, .inl f2p))], [(a3p, .inl (T.2 3, 2, .inr (.inr (.inr (.inr f3p)))))], [(a4p, .inl (T.2 4, 2, .inr (.inr (.inr (.inr f4p)))))], [(a5p, .inl (T.2 5, 2, .inr (.inr (.inr (.inr f5p)))))], w1p, w2p, w3p, w4p, w5p, w6p, [(o, .inr (8, [.ref a1o, .int v0o, .int v1o, .int v2o, .ref a2o, .ref a3o, .ref a4o, .ref a5o]))], [(a1o, .inl (T.2 1, 600, .inl f1o))], [(a2o, .inl (T.2 0, 3, .inl f2o))], [(a3o, .inl (T.2 3, 2, .inr (.inr (.inr (.inr f3o)))))], [(a4o, .inl (T.2 4, 2, .inr (.inr (.inr (.inr f4o)))))], [(a5o, .inl (T.2 5, 2, .inr (.inr (.inr (.inr f5o)))))], w1o, w2o, w3o, w4o, w5o, w6o] _ _ := G
    refine lv_iinc (v := nI (i + 1)) (lv' := [(2, .int (nI (i + 1))), (0, .ref h), (1, .ref o)]) hx hb dX9_takeAll_21 hl (k := 0) rfl (z_inc i 1) (by decide) rfl (fun ls hl => ?_)
    refine lv_goto (tgt := 2) hx hb dX9_takeAll_24 (by decide) ?_
    exact ih ((i + 1), (upd g i (vp_nar .byte (f1o i)))) (show (i + 1) ≤ 600 from by omega) (show 600 - (i + 1) < 600 - i from by omega) _ _ ls G (lv_sub hl [0, 1, 2] rfl)

theorem z_upd0 {g : Nat → Int32} {i : Nat} (h : ∀ j, j < i → g j = 0) : ∀ j, j < i + 1 → upd g i 0 j = 0 := by
  intro j hj
  unfold upd
  split
  · rfl
  · exact h j (by omega)
theorem z_three {so : Int32} (h1 : 0 ≤ so.toInt) (h2 : so.toInt ≤ 2) : so = 0 ∨ so = 1 ∨ so = 2 := by
  rcases (show so.toInt = 0 ∨ so.toInt = 1 ∨ so.toInt = 2 by omega) with h | h | h
  · exact Or.inl ((fa_eq _ _).mpr h)
  · exact Or.inr (Or.inl ((fa_eq _ _).mpr h))
  · exact Or.inr (Or.inr ((fa_eq _ _).mpr h))
set_option maxHeartbeats 4000000 in
set_option maxRecDepth 100000 in
/-- clear() -/
theorem c_Land_clear (l : Launch) (T : zTy) (h : Nat) (a1 : Nat) (a2 : Nat) (a3 : Nat) (a4 : Nat) (v0 : Int32) (v1 : Int32) (f1 : Nat → Int32) (f3 : Nat → Int32) (f4 : Nat → Int32) : zMv l T yX4_clear cX4_clear 2 1 0 0 [.ref h] [[(h, .inr (4, [.int v0, .int v1, .ref a1, .ref a2, .ref a3, .ref a4]))], [(a1, .inl (T.2 0, 7, .inl f1))], [(a3, .inl (T.2 0, 7, .inl f3))], [(a4, .inl (T.2 0, 7, .inl f4))]] (fun bs => ∃ (g1 : Nat → Int32) (g3 : Nat → Int32) (g4 : Nat → Int32), bs = [[(h, .inr (4, [.int 0, .int 0, .ref a1, .ref a2, .ref a3, .ref a4]))], [(a1, .inl (T.2 0, 7, .inl g1))], [(a3, .inl (T.2 0, 7, .inl g3))], [(a4, .inl (T.2 0, 7, .inl g4))]] ∧ (∀ j, j < 7 → g1 j = 0) ∧ (∀ j, j < 7 → g3 j = 0) ∧ (∀ j, j < 7 → g4 j = 0)) := by
  refine zMv_of (own := RX4) (by decide) rfl (Nat.le_of_ble_eq_true rfl) ?_
  intro p e s m args below meth c A ls C hr hlocks hnm hAe G hl
  have hx := C.1
  have hb := C.2.1
  have hl : lv_has ls 2 [(0, .ref h)] := hl
  refine lv_aload_n hx hb dX4_clear_0 rfl (lv_at hl 0 rfl) ?_
  refine lv_iconst (v := 0) hx hb dX4_clear_1 (by decide) ?_
  refine z_put C G clX4 0 rfl 0 (by decide) m_fl_RX4_24 rfl rfl rfl (Nat.le_of_ble_eq_true rfl) dX4_clear_2 (fun H locs G => ?_)
  have G : zS T A s.heap s [[(h, .inr (4, [.int 0, .int v1, .ref a1, .ref a2, .ref a3, .ref a4]))], [(a1, .inl (T.2 0, 7, .inl f1))], [(a3, .inl (T.2 0, 7, .inl f3))], [(a4, .inl (T.2 0, 7, .inl f4))]] _ _ := G
  refine lv_aload_n hx hb dX4_clear_5 rfl (lv_at hl 0 rfl) ?_
  refine lv_iconst (v := 0) hx hb dX4_clear_6 (by decide) ?_
  refine z_put C G clX4 0 rfl 1 (by decide) m_fl_RX4_28 rfl rfl rfl (Nat.le_of_ble_eq_true rfl) dX4_clear_7 (fun H locs G => ?_)
  have G : zS T A s.heap s [[(h, .inr (4, [.int 0, .int 0, .ref a1, .ref a2, .ref a3, .ref a4]))], [(a1, .inl (T.2 0, 7, .inl f1))], [(a3, .inl (T.2 0, 7, .inl f3))], [(a4, .inl (T.2 0, 7, .inl f4))]] _ _ := G
  refine lv_iconst (v := 0) hx hb dX4_clear_10 (by decide) ?_
  refine lv_istore_n (lv' := [(1, .int 0), (0, .ref h)]) hx hb dX4_clear_11 rfl hl (by decide) rfl (fun ls hl => ?_)
  refine z_loop (T := T) (α := Nat × (Nat → Int32) × (Nat → Int32) × (Nat → Int32)) 12 (fun (i, g1, g3, g4) => [[(h, .inr (4, [.int 0, .int 0, .ref a1, .ref a2, .ref a3, .ref a4]))], [(a1, .inl (T.2 0, 7, .inl g1))], [(a3, .inl (T.2 0, 7, .inl g3))], [(a4, .inl (T.2 0, 7, .inl g4))]]) (fun (i, g1, g3, g4) => [(1, .int (nI i)), (0, .ref h)]) (fun (i, g1, g3, g4) => i ≤ 7 ∧ (∀ j, j < i → g1 j = 0) ∧ (∀ j, j < i → g3 j = 0) ∧ (∀ j, j < i → g4 j = 0)) (fun (i, g1, g3, g4) => 7 - i) ?_ (0, f1, f3, f4) (show 0 ≤ 7 ∧ (∀ j, j < 0 → f1 j = 0) ∧ (∀ j, j < 0 → f3 j = 0) ∧ (∀ j, j < 0 → f4 j = 0) from ⟨by omega, fun j hj => absurd hj (by omega), fun j hj => absurd hj (by omega), fun j hj => absurd hj (by omega)⟩) G (lv_sub hl [0, 1] rfl)
  rintro ⟨i, g1, g3, g4⟩ ⟨hi, h1, h3, h4⟩ ih H locs ls G hl
  have hi : i ≤ 7 := hi
  have h1 : (∀ j, j < i → g1 j = 0) := h1
  have h3 : (∀ j, j < i → g3 j = 0) := h3
  have h4 : (∀ j, j < i → g4 j = 0) := h4
  have G : zS T A s.heap s [[(h, .inr (4, [.int 0, .int 0, .ref a1, .ref a2, .ref a3, .ref a4]))], [(a1, .inl (T.2 0, 7, .inl g1))], [(a3, .inl (T.2 0, 7, .inl g3))], [(a4, .inl (T.2 0, 7, .inl g4))]] _ _ := G
  have hl : lv_has ls 2 [(1, .int (nI i)), (0, .ref h)] := hl
  refine lv_iload_n hx hb dX4_clear_12 rfl (lv_at hl 0 rfl) ?_
  refine lv_bipush (v := 7) hx hb dX4_clear_13 (by decide) ?_
  refine lv_icmp_ge (tgt := 45) hx hb dX4_clear_15 (by decide) (fun c_1 => ?_) (fun c_1 => ?_)
  · have c_1n : 7 ≤ i := (nI_leI (a := 7) (b := i) (by omega) (by omega)).mp c_1
    exact z_vret C hr hlocks G (Nat.le_of_ble_eq_true rfl) (Nat.le_of_ble_eq_true rfl) dX4_clear_45 ⟨g1, g3, g4, rfl, (fun j hj => h1 j (by omega)), (fun j hj => h3 j (by omega)), (fun j hj => h4 j (by omega))⟩
  · have c_1n : ¬ 7 ≤ i := fun q => c_1 ((nI_leI (a := 7) (b := i) (by omega) (by omega)).mpr q)
    refine lv_aload_n hx hb dX4_clear_18 rfl (lv_at hl 1 rfl) ?_
    refine z_get C G clX4 0 rfl 2 (by decide) m_fl_RX4_9 rfl dX4_clear_19 ?_
    refine lv_iload_n hx hb dX4_clear_22 rfl (lv_at hl 0 rfl) ?_
    refine lv_iconst (v := 0) hx hb dX4_clear_23 (by decide) ?_
    refine z_ist C G 1 rfl (vp_in_nI (by omega) (by omega)) dX4_clear_24 (fun H locs G => ?_)
    rw [nI_clamp (by omega)] at G
    have G : zS T A s.heap s [[(h, .inr (4, [.int 0, .int 0, .ref a1, .ref a2, .ref a3, .ref a4]))], [(a1, .inl (T.2 0, 7, .inl (upd g1 i 0)))], [(a3, .inl (T.2 0, 7, .inl g3))], [(a4, .inl (T.2 0, 7, .inl g4))]] _ _ := G
    refine lv_aload_n hx hb dX4_clear_25 rfl (lv_at hl 1 rfl) ?_
    refine z_get C G clX4 0 rfl 4 (by decide) m_fl_RX4_18 rfl dX4_clear_26 ?_
    refine lv_iload_n hx hb dX4_clear_29 rfl (lv_at hl 0 rfl) ?_
    refine lv_iconst (v := 0) hx hb dX4_clear_30 (by decide) ?_
    refine z_ist C G 2 rfl (vp_in_nI (by omega) (by omega)) dX4_clear_31 (fun H locs G => ?_)
    rw [nI_clamp (by omega)] at G
    have G : zS T A s.heap s [[(h, .inr (4, [.int 0, .int 0, .ref a1, .ref a2, .ref a3, .ref a4]))], [(a1, .inl (T.2 0, 7, .inl (upd g1 i 0)))], [(a3, .inl (T.2 0, 7, .inl (upd g3 i 0)))], [(a4, .inl (T.2 0, 7, .inl g4))]] _ _ := G
    refine lv_aload_n hx hb dX4_clear_32 rfl (lv_at hl 1 rfl) ?_
    refine z_get C G clX4 0 rfl 5 (by decide) m_fl_RX4_21 rfl dX4_clear_33 ?_
    refine lv_iload_n hx hb dX4_clear_36 rfl (lv_at hl 0 rfl) ?_
    refine lv_iconst (v := 0) hx hb dX4_clear_37 (by decide) ?_
    refine z_ist C G 3 rfl (vp_in_nI (by omega) (by omega)) dX4_clear_38 (fun H locs G => ?_)
    rw [nI_clamp (by omega)] at G
    have G : zS T A s.heap s [[(h, .inr (4, [.int 0, .int 0, .ref a1, .ref a2, .ref a3, .ref a4]))], [(a1, .inl (T.2 0, 7, .inl (upd g1 i 0)))], [(a3, .inl (T.2 0, 7, .inl (upd g3 i 0)))], [(a4, .inl (T.2 0, 7, .inl (upd g4 i 0)))]] _ _ := G
    refine lv_iinc (v := nI (i + 1)) (lv' := [(1, .int (nI (i + 1))), (0, .ref h)]) hx hb dX4_clear_39 hl (k := 0) rfl (z_inc i 1) (by decide) rfl (fun ls hl => ?_)
    refine lv_goto (tgt := 12) hx hb dX4_clear_42 (by decide) ?_
    exact ih ((i + 1), (upd g1 i 0), (upd g3 i 0), (upd g4 i 0)) (show (i + 1) ≤ 7 ∧ (∀ j, j < (i + 1) → (upd g1 i 0) j = 0) ∧ (∀ j, j < (i + 1) → (upd g3 i 0) j = 0) ∧ (∀ j, j < (i + 1) → (upd g4 i 0) j = 0) from ⟨by omega, z_upd0 h1, z_upd0 h3, z_upd0 h4⟩) (show 7 - (i + 1) < 7 - i from by omega) _ _ ls G (lv_sub hl [0, 1] rfl)
set_option maxHeartbeats 4000000 in
set_option maxRecDepth 100000 in
/-- nextToken: the end of an empty tape -/
theorem c_nextToken0 (l : Launch) (T : zTy) (h : Nat) (l0 : Nat) (d0 : Nat) (g0 : Nat) (tp : Nat) (r0 : Int32) (r1 : Int32) (r4 : Int32) (r5 : Int32) (r6 : Int32) (r7 : Int32) : zMv l T yX7_nextToken cX7_nextToken 2 2 0 0 [.ref h] [[(h, .inr (7, [.ref l0, .ref d0, .ref g0, .int r0, .int r1, .ref tp, .int 0, .int 0, .int r4, .int r5, .int r6, .int 0, .int r7]))]] (fun bs => bs = [[(h, .inr (7, [.ref l0, .ref d0, .ref g0, .int r0, .int r1, .ref tp, .int 0, .int 0, .int 0, .int 0, .int r6, .int 0, .int r7]))]]) := by
  refine zMv_of (own := RX7) (by decide) rfl (Nat.le_of_ble_eq_true rfl) ?_
  intro p e s m args below meth c A ls C hr hlocks hnm hAe G hl
  have hx := C.1
  have hb := C.2.1
  have hl : lv_has ls 2 [(0, .ref h)] := hl
  refine lv_aload_n hx hb dX7_nextToken_0 rfl (lv_at hl 0 rfl) ?_
  refine z_get C G clX7 0 rfl 7 (by decide) m_fl_RX7_46 rfl dX7_nextToken_1 ?_
  refine lv_istore_n (lv' := [(1, .int 0), (0, .ref h)]) hx hb dX7_nextToken_4 rfl hl (by decide) rfl (fun ls hl => ?_)
  refine lv_iload_n hx hb dX7_nextToken_5 rfl (lv_at hl 0 rfl) ?_
  refine lv_aload_n hx hb dX7_nextToken_6 rfl (lv_at hl 1 rfl) ?_
  refine z_get C G clX7 0 rfl 6 (by decide) m_fl_RX7_42 rfl dX7_nextToken_7 ?_
  refine lv_icmp_ge (tgt := 38) hx hb dX7_nextToken_10 (by decide) (fun _ => ?_) (fun q => absurd (by decide) q)
  refine lv_aload_n hx hb dX7_nextToken_38 rfl (lv_at hl 1 rfl) ?_
  refine lv_aload_n hx hb dX7_nextToken_39 rfl (lv_at hl 1 rfl) ?_
  refine z_get C G clX7 0 rfl 7 (by decide) m_fl_RX7_46 rfl dX7_nextToken_40 ?_
  refine z_put C G clX7 0 rfl 9 (by decide) m_fl_RX7_84 rfl rfl rfl (Nat.le_of_ble_eq_true rfl) dX7_nextToken_43 (fun H locs G => ?_)
  have G : zS T A s.heap s [[(h, .inr (7, [.ref l0, .ref d0, .ref g0, .int r0, .int r1, .ref tp, .int 0, .int 0, .int r4, .int 0, .int r6, .int 0, .int r7]))]] _ _ := G
  refine lv_aload_n hx hb dX7_nextToken_46 rfl (lv_at hl 1 rfl) ?_
  refine z_get C G clX7 0 rfl 7 (by decide) m_fl_RX7_46 rfl dX7_nextToken_47 ?_
  refine lv_aload_n hx hb dX7_nextToken_50 rfl (lv_at hl 1 rfl) ?_
  refine z_get C G clX7 0 rfl 6 (by decide) m_fl_RX7_42 rfl dX7_nextToken_51 ?_
  refine lv_icmp_lt (tgt := 65) hx hb dX7_nextToken_54 (by decide) (fun q => absurd q (by decide)) (fun _ => ?_)
  refine lv_aload_n hx hb dX7_nextToken_57 rfl (lv_at hl 1 rfl) ?_
  refine lv_iconst (v := 0) hx hb dX7_nextToken_58 (by decide) ?_
  refine z_put C G clX7 0 rfl 8 (by decide) m_fl_RX7_74 rfl rfl rfl (Nat.le_of_ble_eq_true rfl) dX7_nextToken_59 (fun H locs G => ?_)
  have G : zS T A s.heap s [[(h, .inr (7, [.ref l0, .ref d0, .ref g0, .int r0, .int r1, .ref tp, .int 0, .int 0, .int 0, .int 0, .int r6, .int 0, .int r7]))]] _ _ := G
  refine lv_goto (tgt := 142) hx hb dX7_nextToken_62 (by decide) ?_
  exact z_vret C hr hlocks G (Nat.le_of_ble_eq_true rfl) (Nat.le_of_ble_eq_true rfl) dX7_nextToken_142 rfl
set_option maxHeartbeats 4000000 in
set_option maxRecDepth 100000 in
/-- lookAtWhole -/
theorem c_lookAtWhole0 (l : Launch) (T : zTy) (h : Nat) (l0 : Nat) (d0 : Nat) (g0 : Nat) (tp : Nat) (r0 : Int32) (r1 : Int32) (r2 : Int32) (r3 : Int32) (r4 : Int32) (r5 : Int32) (r6 : Int32) (a1 : Nat) (a2 : Nat) (a3 : Nat) (a4 : Nat) (v1 : Int32) (f1 : Nat → Int32) (f3 : Nat → Int32) (hz : ∀ j, j < 7 → f3 j = 0) : zMv l T yX7_lookAtWhole cX7_lookAtWhole 2 2 0 0 [.ref h] [[(h, .inr (7, [.ref l0, .ref d0, .ref g0, .int r0, .int r1, .ref tp, .int r2, .int r3, .int r4, .int r5, .int r6, .int 0, .int 0]))], [(l0, .inr (4, [.int 0, .int v1, .ref a1, .ref a2, .ref a3, .ref a4]))], [(a1, .inl (T.2 0, 7, .inl f1))], [(a3, .inl (T.2 0, 7, .inl f3))]] (fun bs => bs = [[(h, .inr (7, [.ref l0, .ref d0, .ref g0, .int r0, .int r1, .ref tp, .int r2, .int r3, .int r4, .int r5, .int r6, .int 0, .int 0]))], [(l0, .inr (4, [.int 0, .int v1, .ref a1, .ref a2, .ref a3, .ref a4]))], [(a1, .inl (T.2 0, 7, .inl f1))], [(a3, .inl (T.2 0, 7, .inl f3))]]) := by
  refine zMv_of (own := RX7) (by decide) rfl (Nat.le_of_ble_eq_true rfl) ?_
  intro p e s m args below meth c A ls C hr hlocks hnm hAe G hl
  have hx := C.1
  have hb := C.2.1
  have hl : lv_has ls 2 [(0, .ref h)] := hl
  refine lv_aload_n hx hb dX7_lookAtWhole_0 rfl (lv_at hl 0 rfl) ?_
  refine z_get C G clX7 0 rfl 12 (by decide) m_fl_RX7_59 rfl dX7_lookAtWhole_1 ?_
  refine lv_aload_n hx hb dX7_lookAtWhole_4 rfl (lv_at hl 0 rfl) ?_
  refine z_get C G clX7 0 rfl 0 (by decide) m_fl_RX7_12 rfl dX7_lookAtWhole_5 ?_
  refine z_get C G clX4 1 rfl 0 (by decide) m_fl_RX7_87 rfl dX7_lookAtWhole_8 ?_
  refine lv_ishr hx hb dX7_lookAtWhole_11 ?_
  refine lv_topi (fun y_1 ey_1 => ?_)
  obtain rfl : y_1 = 0 := ey_1.trans (by decide)
  refine lv_if_eq (tgt := 24) hx hb dX7_lookAtWhole_12 (by decide) (fun _ => ?_) (fun q => absurd (by decide) q)
  refine lv_iconst (v := 0) hx hb dX7_lookAtWhole_24 (by decide) ?_
  refine lv_istore_n (lv' := [(1, .int 0), (0, .ref h)]) hx hb dX7_lookAtWhole_25 rfl hl (by decide) rfl (fun ls hl => ?_)
  refine z_loop (T := T) (α := Nat) 26 (fun i => [[(h, .inr (7, [.ref l0, .ref d0, .ref g0, .int r0, .int r1, .ref tp, .int r2, .int r3, .int r4, .int r5, .int r6, .int 0, .int 0]))], [(l0, .inr (4, [.int 0, .int v1, .ref a1, .ref a2, .ref a3, .ref a4]))], [(a1, .inl (T.2 0, 7, .inl f1))], [(a3, .inl (T.2 0, 7, .inl f3))]]) (fun i => [(1, .int (nI i)), (0, .ref h)]) (fun i => i ≤ 7) (fun i => 7 - i) ?_ 0 (show 0 ≤ 7 from by omega) G (lv_sub hl [0, 1] rfl)
  rintro i hi ih H locs ls G hl
  have hi : i ≤ 7 := hi
  have G : zS T A s.heap s [[(h, .inr (7, [.ref l0, .ref d0, .ref g0, .int r0, .int r1, .ref tp, .int r2, .int r3, .int r4, .int r5, .int r6, .int 0, .int 0]))], [(l0, .inr (4, [.int 0, .int v1, .ref a1, .ref a2, .ref a3, .ref a4]))], [(a1, .inl (T.2 0, 7, .inl f1))], [(a3, .inl (T.2 0, 7, .inl f3))]] _ _ := G
  have hl : lv_has ls 2 [(1, .int (nI i)), (0, .ref h)] := hl
  refine lv_iload_n hx hb dX7_lookAtWhole_26 rfl (lv_at hl 0 rfl) ?_
  refine lv_bipush (v := 7) hx hb dX7_lookAtWhole_27 (by decide) ?_
  refine lv_icmp_ge (tgt := 80) hx hb dX7_lookAtWhole_29 (by decide) (fun c_2 => ?_) (fun c_2 => ?_)
  · have c_2n : 7 ≤ i := (nI_leI (a := 7) (b := i) (by omega) (by omega)).mp c_2
    exact z_vret C hr hlocks G (Nat.le_of_ble_eq_true rfl) (Nat.le_of_ble_eq_true rfl) dX7_lookAtWhole_80 rfl
  · have c_2n : ¬ 7 ≤ i := fun q => c_2 ((nI_leI (a := 7) (b := i) (by omega) (by omega)).mpr q)
    refine lv_aload_n hx hb dX7_lookAtWhole_32 rfl (lv_at hl 1 rfl) ?_
    refine z_get C G clX7 0 rfl 0 (by decide) m_fl_RX7_12 rfl dX7_lookAtWhole_33 ?_
    refine z_get C G clX4 1 rfl 4 (by decide) m_fl_RX7_94 rfl dX7_lookAtWhole_36 ?_
    refine lv_iload_n hx hb dX7_lookAtWhole_39 rfl (lv_at hl 0 rfl) ?_
    refine z_ild C G 3 rfl (vp_in_nI (by omega) (by omega)) dX7_lookAtWhole_40 ?_
    refine lv_topi (fun v_3 ev_3 => ?_)
    rw [nI_clamp (by omega)] at ev_3
    subst ev_3
    refine lv_if_eq (tgt := 74) hx hb dX7_lookAtWhole_41 (by decide) (fun _ => ?_) (fun q => absurd (hz _ (by omega)) q)
    refine lv_iinc (v := nI (i + 1)) (lv' := [(1, .int (nI (i + 1))), (0, .ref h)]) hx hb dX7_lookAtWhole_74 hl (k := 0) rfl (z_inc i 1) (by decide) rfl (fun ls hl => ?_)
    refine lv_goto (tgt := 26) hx hb dX7_lookAtWhole_77 (by decide) ?_
    exact ih (i + 1) (show (i + 1) ≤ 7 from by omega) (show 7 - (i + 1) < 7 - i from by omega) _ _ ls G (lv_sub hl [0, 1] rfl)
set_option maxHeartbeats 4000000 in
set_option maxRecDepth 100000 in
/-- read: an empty tape has no fault -/
theorem c_read0 (l : Launch) (T : zTy) (h : Nat) (w : va_W) (tp : Nat) (f : Nat → Int32) (so : Int32) (hw : bReader T h w) : zMv l T yX7_read cX7_read 5 3 0 0 [.ref h, .ref tp, .int 0, .int so] [w, [(tp, .inl (T.2 1, 600, .inl f))]] (fun bs => ∃ (l0 : Nat) (d0 : Nat) (g0 : Nat) (r6 : Int32) (w1 : va_W) (w2 : va_W) (w3 : va_W), bs = [[(h, .inr (7, [.ref l0, .ref d0, .ref g0, .int 0, .int (-1), .ref tp, .int 0, .int 0, .int 0, .int 0, .int r6, .int 0, .int 0]))], w1, w2, w3, [(tp, .inl (T.2 1, 600, .inl f))]] ∧ bLand T l0 w1 ∧ bDay T d0 w2 ∧ bLog T g0 w3) := by
  refine zMv_of (own := RX7) (by decide) rfl (Nat.le_of_ble_eq_true rfl) ?_
  intro p e s m args below meth c A ls C hr hlocks hnm hAe G hl
  have hx := C.1
  have hb := C.2.1
  have hl : lv_has ls 5 [(0, .ref h), (1, .ref tp), (2, .int 0), (3, .int so)] := hl
  obtain ⟨l0_1, d0_2, g0_3, a1_4, n1_5, f1_6, v0_7, v1_8, v2_9, v3_10, v4_11, v5_12, v6_13, v7_14, w1_15, w2_16, w3_17, rfl, h_18, h_19, h_20⟩ := hw
  have G : zS T A s.heap s [[(h, .inr (7, [.ref l0_1, .ref d0_2, .ref g0_3, .int v0_7, .int v1_8, .ref a1_4, .int v2_9, .int v3_10, .int v4_11, .int v5_12, .int v6_13, .int 0, .int v7_14]))], [(a1_4, .inl (T.2 1, n1_5, .inl f1_6))], w1_15, w2_16, w3_17, [(tp, .inl (T.2 1, 600, .inl f))]] _ _ := G.re (by simp only [List.flatten_cons, List.flatten_append, List.flatten_nil, List.append_assoc, List.cons_append, List.nil_append, List.append_nil])
  obtain ⟨a1_21, a2_22, a3_23, a4_24, v0_25, v1_26, f1_27, f2_28, f3_29, f4_30, rfl⟩ := h_18
  have G : zS T A s.heap s [[(h, .inr (7, [.ref l0_1, .ref d0_2, .ref g0_3, .int v0_7, .int v1_8, .ref a1_4, .int v2_9, .int v3_10, .int v4_11, .int v5_12, .int v6_13, .int 0, .int v7_14]))], [(a1_4, .inl (T.2 1, n1_5, .inl f1_6))], [(l0_1, .inr (4, [.int v0_25, .int v1_26, .ref a1_21, .ref a2_22, .ref a3_23, .ref a4_24]))], [(a1_21, .inl (T.2 0, 7, .inl f1_27))], [(a2_22, .inl (T.2 0, 28, .inl f2_28))], [(a3_23, .inl (T.2 0, 7, .inl f3_29))], [(a4_24, .inl (T.2 0, 7, .inl f4_30))], w2_16, w3_17, [(tp, .inl (T.2 1, 600, .inl f))]] _ _ := G.re rfl
  obtain ⟨a1_31, a2_32, a3_33, v0_34, f1_35, f2_36, f3_37, rfl⟩ := h_19
  have G : zS T A s.heap s [[(h, .inr (7, [.ref l0_1, .ref d0_2, .ref g0_3, .int v0_7, .int v1_8, .ref a1_4, .int v2_9, .int v3_10, .int v4_11, .int v5_12, .int v6_13, .int 0, .int v7_14]))], [(a1_4, .inl (T.2 1, n1_5, .inl f1_6))], [(l0_1, .inr (4, [.int v0_25, .int v1_26, .ref a1_21, .ref a2_22, .ref a3_23, .ref a4_24]))], [(a1_21, .inl (T.2 0, 7, .inl f1_27))], [(a2_22, .inl (T.2 0, 28, .inl f2_28))], [(a3_23, .inl (T.2 0, 7, .inl f3_29))], [(a4_24, .inl (T.2 0, 7, .inl f4_30))], [(d0_2, .inr (2, [.int v0_34, .ref a1_31, .ref a2_32, .ref a3_33]))], [(a1_31, .inl (T.2 0, 40, .inl f1_35))], [(a2_32, .inl (T.2 0, 40, .inl f2_36))], [(a3_33, .inl (T.2 0, 40, .inl f3_37))], w3_17, [(tp, .inl (T.2 1, 600, .inl f))]] _ _ := G.re rfl
  obtain ⟨a1_38, a2_39, v0_40, f1_41, f2_42, rfl⟩ := h_20
  have G : zS T A s.heap s [[(h, .inr (7, [.ref l0_1, .ref d0_2, .ref g0_3, .int v0_7, .int v1_8, .ref a1_4, .int v2_9, .int v3_10, .int v4_11, .int v5_12, .int v6_13, .int 0, .int v7_14]))], [(a1_4, .inl (T.2 1, n1_5, .inl f1_6))], [(l0_1, .inr (4, [.int v0_25, .int v1_26, .ref a1_21, .ref a2_22, .ref a3_23, .ref a4_24]))], [(a1_21, .inl (T.2 0, 7, .inl f1_27))], [(a2_22, .inl (T.2 0, 28, .inl f2_28))], [(a3_23, .inl (T.2 0, 7, .inl f3_29))], [(a4_24, .inl (T.2 0, 7, .inl f4_30))], [(d0_2, .inr (2, [.int v0_34, .ref a1_31, .ref a2_32, .ref a3_33]))], [(a1_31, .inl (T.2 0, 40, .inl f1_35))], [(a2_32, .inl (T.2 0, 40, .inl f2_36))], [(a3_33, .inl (T.2 0, 40, .inl f3_37))], [(g0_3, .inr (5, [.int v0_40, .ref a1_38, .ref a2_39]))], [(a1_38, .inl (T.2 0, 8, .inl f1_41))], [(a2_39, .inl (T.2 0, 8, .inl f2_42))], [(tp, .inl (T.2 1, 600, .inl f))]] _ _ := G.re rfl
  refine lv_aload_n hx hb dX7_read_0 rfl (lv_at hl 0 rfl) ?_
  refine lv_aload_n hx hb dX7_read_1 rfl (lv_at hl 1 rfl) ?_
  refine z_put C G clX7 0 rfl 5 (by decide) m_fl_RX7_32 rfl rfl rfl (Nat.le_of_ble_eq_true rfl) dX7_read_2 (fun H locs G => ?_)
  have G : zS T A s.heap s [[(h, .inr (7, [.ref l0_1, .ref d0_2, .ref g0_3, .int v0_7, .int v1_8, .ref tp, .int v2_9, .int v3_10, .int v4_11, .int v5_12, .int v6_13, .int 0, .int v7_14]))], [(a1_4, .inl (T.2 1, n1_5, .inl f1_6))], [(l0_1, .inr (4, [.int v0_25, .int v1_26, .ref a1_21, .ref a2_22, .ref a3_23, .ref a4_24]))], [(a1_21, .inl (T.2 0, 7, .inl f1_27))], [(a2_22, .inl (T.2 0, 28, .inl f2_28))], [(a3_23, .inl (T.2 0, 7, .inl f3_29))], [(a4_24, .inl (T.2 0, 7, .inl f4_30))], [(d0_2, .inr (2, [.int v0_34, .ref a1_31, .ref a2_32, .ref a3_33]))], [(a1_31, .inl (T.2 0, 40, .inl f1_35))], [(a2_32, .inl (T.2 0, 40, .inl f2_36))], [(a3_33, .inl (T.2 0, 40, .inl f3_37))], [(g0_3, .inr (5, [.int v0_40, .ref a1_38, .ref a2_39]))], [(a1_38, .inl (T.2 0, 8, .inl f1_41))], [(a2_39, .inl (T.2 0, 8, .inl f2_42))], [(tp, .inl (T.2 1, 600, .inl f))]] _ _ := G
  refine lv_aload_n hx hb dX7_read_5 rfl (lv_at hl 0 rfl) ?_
  refine lv_iload_n hx hb dX7_read_6 rfl (lv_at hl 2 rfl) ?_
  refine lv_aload_n hx hb dX7_read_7 rfl (lv_at hl 1 rfl) ?_
  refine z_alen C G 14 1 rfl (v := 600) rfl rfl dX7_read_8 ?_
  refine va_mmin hx hb (C.2.2.1.trans hl.1.symm) C.2.2.2.1 (C.2.2.2.2 _ m_ml_RX7_36) (C.2.2.2.2 _ m_st_math_min) (C.2.2.2.2 _ m_ii_math) (C.2.2.2.2 _ m_co_math_min) (Nat.le_of_ble_eq_true rfl) (Nat.le_of_ble_eq_true rfl) (Nat.le_of_ble_eq_true rfl) (Nat.le_of_ble_eq_true rfl) dX7_read_9 ?_
  refine lv_topi (fun v_43 ev_43 => ?_)
  obtain rfl : v_43 = 0 := ev_43.trans (by decide)
  refine z_put C G clX7 0 rfl 6 (by decide) m_fl_RX7_42 rfl rfl rfl (Nat.le_of_ble_eq_true rfl) dX7_read_12 (fun H locs G => ?_)
  have G : zS T A s.heap s [[(h, .inr (7, [.ref l0_1, .ref d0_2, .ref g0_3, .int v0_7, .int v1_8, .ref tp, .int 0, .int v3_10, .int v4_11, .int v5_12, .int v6_13, .int 0, .int v7_14]))], [(a1_4, .inl (T.2 1, n1_5, .inl f1_6))], [(l0_1, .inr (4, [.int v0_25, .int v1_26, .ref a1_21, .ref a2_22, .ref a3_23, .ref a4_24]))], [(a1_21, .inl (T.2 0, 7, .inl f1_27))], [(a2_22, .inl (T.2 0, 28, .inl f2_28))], [(a3_23, .inl (T.2 0, 7, .inl f3_29))], [(a4_24, .inl (T.2 0, 7, .inl f4_30))], [(d0_2, .inr (2, [.int v0_34, .ref a1_31, .ref a2_32, .ref a3_33]))], [(a1_31, .inl (T.2 0, 40, .inl f1_35))], [(a2_32, .inl (T.2 0, 40, .inl f2_36))], [(a3_33, .inl (T.2 0, 40, .inl f3_37))], [(g0_3, .inr (5, [.int v0_40, .ref a1_38, .ref a2_39]))], [(a1_38, .inl (T.2 0, 8, .inl f1_41))], [(a2_39, .inl (T.2 0, 8, .inl f2_42))], [(tp, .inl (T.2 1, 600, .inl f))]] _ _ := G
  refine lv_aload_n hx hb dX7_read_15 rfl (lv_at hl 0 rfl) ?_
  refine lv_iconst (v := 0) hx hb dX7_read_16 (by decide) ?_
  refine z_put C G clX7 0 rfl 7 (by decide) m_fl_RX7_46 rfl rfl rfl (Nat.le_of_ble_eq_true rfl) dX7_read_17 (fun H locs G => ?_)
  have G : zS T A s.heap s [[(h, .inr (7, [.ref l0_1, .ref d0_2, .ref g0_3, .int v0_7, .int v1_8, .ref tp, .int 0, .int 0, .int v4_11, .int v5_12, .int v6_13, .int 0, .int v7_14]))], [(a1_4, .inl (T.2 1, n1_5, .inl f1_6))], [(l0_1, .inr (4, [.int v0_25, .int v1_26, .ref a1_21, .ref a2_22, .ref a3_23, .ref a4_24]))], [(a1_21, .inl (T.2 0, 7, .inl f1_27))], [(a2_22, .inl (T.2 0, 28, .inl f2_28))], [(a3_23, .inl (T.2 0, 7, .inl f3_29))], [(a4_24, .inl (T.2 0, 7, .inl f4_30))], [(d0_2, .inr (2, [.int v0_34, .ref a1_31, .ref a2_32, .ref a3_33]))], [(a1_31, .inl (T.2 0, 40, .inl f1_35))], [(a2_32, .inl (T.2 0, 40, .inl f2_36))], [(a3_33, .inl (T.2 0, 40, .inl f3_37))], [(g0_3, .inr (5, [.int v0_40, .ref a1_38, .ref a2_39]))], [(a1_38, .inl (T.2 0, 8, .inl f1_41))], [(a2_39, .inl (T.2 0, 8, .inl f2_42))], [(tp, .inl (T.2 1, 600, .inl f))]] _ _ := G
  refine lv_aload_n hx hb dX7_read_20 rfl (lv_at hl 0 rfl) ?_
  refine lv_iconst (v := 0) hx hb dX7_read_21 (by decide) ?_
  refine z_put C G clX7 0 rfl 3 (by decide) m_fl_RX7_49 rfl rfl rfl (Nat.le_of_ble_eq_true rfl) dX7_read_22 (fun H locs G => ?_)
  have G : zS T A s.heap s [[(h, .inr (7, [.ref l0_1, .ref d0_2, .ref g0_3, .int 0, .int v1_8, .ref tp, .int 0, .int 0, .int v4_11, .int v5_12, .int v6_13, .int 0, .int v7_14]))], [(a1_4, .inl (T.2 1, n1_5, .inl f1_6))], [(l0_1, .inr (4, [.int v0_25, .int v1_26, .ref a1_21, .ref a2_22, .ref a3_23, .ref a4_24]))], [(a1_21, .inl (T.2 0, 7, .inl f1_27))], [(a2_22, .inl (T.2 0, 28, .inl f2_28))], [(a3_23, .inl (T.2 0, 7, .inl f3_29))], [(a4_24, .inl (T.2 0, 7, .inl f4_30))], [(d0_2, .inr (2, [.int v0_34, .ref a1_31, .ref a2_32, .ref a3_33]))], [(a1_31, .inl (T.2 0, 40, .inl f1_35))], [(a2_32, .inl (T.2 0, 40, .inl f2_36))], [(a3_33, .inl (T.2 0, 40, .inl f3_37))], [(g0_3, .inr (5, [.int v0_40, .ref a1_38, .ref a2_39]))], [(a1_38, .inl (T.2 0, 8, .inl f1_41))], [(a2_39, .inl (T.2 0, 8, .inl f2_42))], [(tp, .inl (T.2 1, 600, .inl f))]] _ _ := G
  refine lv_aload_n hx hb dX7_read_25 rfl (lv_at hl 0 rfl) ?_
  refine lv_iconst (v := (-1)) hx hb dX7_read_26 (by decide) ?_
  refine z_put C G clX7 0 rfl 4 (by decide) m_fl_RX7_52 rfl rfl rfl (Nat.le_of_ble_eq_true rfl) dX7_read_27 (fun H locs G => ?_)
  have G : zS T A s.heap s [[(h, .inr (7, [.ref l0_1, .ref d0_2, .ref g0_3, .int 0, .int (-1), .ref tp, .int 0, .int 0, .int v4_11, .int v5_12, .int v6_13, .int 0, .int v7_14]))], [(a1_4, .inl (T.2 1, n1_5, .inl f1_6))], [(l0_1, .inr (4, [.int v0_25, .int v1_26, .ref a1_21, .ref a2_22, .ref a3_23, .ref a4_24]))], [(a1_21, .inl (T.2 0, 7, .inl f1_27))], [(a2_22, .inl (T.2 0, 28, .inl f2_28))], [(a3_23, .inl (T.2 0, 7, .inl f3_29))], [(a4_24, .inl (T.2 0, 7, .inl f4_30))], [(d0_2, .inr (2, [.int v0_34, .ref a1_31, .ref a2_32, .ref a3_33]))], [(a1_31, .inl (T.2 0, 40, .inl f1_35))], [(a2_32, .inl (T.2 0, 40, .inl f2_36))], [(a3_33, .inl (T.2 0, 40, .inl f3_37))], [(g0_3, .inr (5, [.int v0_40, .ref a1_38, .ref a2_39]))], [(a1_38, .inl (T.2 0, 8, .inl f1_41))], [(a2_39, .inl (T.2 0, 8, .inl f2_42))], [(tp, .inl (T.2 1, 600, .inl f))]] _ _ := G
  refine lv_aload_n hx hb dX7_read_30 rfl (lv_at hl 0 rfl) ?_
  refine lv_iconst (v := 0) hx hb dX7_read_31 (by decide) ?_
  refine z_put C G clX7 0 rfl 11 (by decide) m_fl_RX7_55 rfl rfl rfl (Nat.le_of_ble_eq_true rfl) dX7_read_32 (fun H locs G => ?_)
  have G : zS T A s.heap s [[(h, .inr (7, [.ref l0_1, .ref d0_2, .ref g0_3, .int 0, .int (-1), .ref tp, .int 0, .int 0, .int v4_11, .int v5_12, .int v6_13, .int 0, .int v7_14]))], [(a1_4, .inl (T.2 1, n1_5, .inl f1_6))], [(l0_1, .inr (4, [.int v0_25, .int v1_26, .ref a1_21, .ref a2_22, .ref a3_23, .ref a4_24]))], [(a1_21, .inl (T.2 0, 7, .inl f1_27))], [(a2_22, .inl (T.2 0, 28, .inl f2_28))], [(a3_23, .inl (T.2 0, 7, .inl f3_29))], [(a4_24, .inl (T.2 0, 7, .inl f4_30))], [(d0_2, .inr (2, [.int v0_34, .ref a1_31, .ref a2_32, .ref a3_33]))], [(a1_31, .inl (T.2 0, 40, .inl f1_35))], [(a2_32, .inl (T.2 0, 40, .inl f2_36))], [(a3_33, .inl (T.2 0, 40, .inl f3_37))], [(g0_3, .inr (5, [.int v0_40, .ref a1_38, .ref a2_39]))], [(a1_38, .inl (T.2 0, 8, .inl f1_41))], [(a2_39, .inl (T.2 0, 8, .inl f2_42))], [(tp, .inl (T.2 1, 600, .inl f))]] _ _ := G
  refine lv_aload_n hx hb dX7_read_35 rfl (lv_at hl 0 rfl) ?_
  refine lv_iconst (v := 0) hx hb dX7_read_36 (by decide) ?_
  refine z_put C G clX7 0 rfl 12 (by decide) m_fl_RX7_59 rfl rfl rfl (Nat.le_of_ble_eq_true rfl) dX7_read_37 (fun H locs G => ?_)
  have G : zS T A s.heap s [[(h, .inr (7, [.ref l0_1, .ref d0_2, .ref g0_3, .int 0, .int (-1), .ref tp, .int 0, .int 0, .int v4_11, .int v5_12, .int v6_13, .int 0, .int 0]))], [(a1_4, .inl (T.2 1, n1_5, .inl f1_6))], [(l0_1, .inr (4, [.int v0_25, .int v1_26, .ref a1_21, .ref a2_22, .ref a3_23, .ref a4_24]))], [(a1_21, .inl (T.2 0, 7, .inl f1_27))], [(a2_22, .inl (T.2 0, 28, .inl f2_28))], [(a3_23, .inl (T.2 0, 7, .inl f3_29))], [(a4_24, .inl (T.2 0, 7, .inl f4_30))], [(d0_2, .inr (2, [.int v0_34, .ref a1_31, .ref a2_32, .ref a3_33]))], [(a1_31, .inl (T.2 0, 40, .inl f1_35))], [(a2_32, .inl (T.2 0, 40, .inl f2_36))], [(a3_33, .inl (T.2 0, 40, .inl f3_37))], [(g0_3, .inr (5, [.int v0_40, .ref a1_38, .ref a2_39]))], [(a1_38, .inl (T.2 0, 8, .inl f1_41))], [(a2_39, .inl (T.2 0, 8, .inl f2_42))], [(tp, .inl (T.2 1, 600, .inl f))]] _ _ := G
  refine lv_aload_n hx hb dX7_read_40 rfl (lv_at hl 0 rfl) ?_
  refine z_get C G clX7 0 rfl 0 (by decide) m_fl_RX7_12 rfl dX7_read_41 ?_
  refine z_Vv (bc := [[(l0_1, .inr (4, [.int v0_25, .int v1_26, .ref a1_21, .ref a2_22, .ref a3_23, .ref a4_24]))], [(a1_21, .inl (T.2 0, 7, .inl f1_27))], [(a3_23, .inl (T.2 0, 7, .inl f3_29))], [(a4_24, .inl (T.2 0, 7, .inl f4_30))]]) (br := [[(h, .inr (7, [.ref l0_1, .ref d0_2, .ref g0_3, .int 0, .int (-1), .ref tp, .int 0, .int 0, .int v4_11, .int v5_12, .int v6_13, .int 0, .int 0]))], [(a1_4, .inl (T.2 1, n1_5, .inl f1_6))], [(a2_22, .inl (T.2 0, 28, .inl f2_28))], [(d0_2, .inr (2, [.int v0_34, .ref a1_31, .ref a2_32, .ref a3_33]))], [(a1_31, .inl (T.2 0, 40, .inl f1_35))], [(a2_32, .inl (T.2 0, 40, .inl f2_36))], [(a3_33, .inl (T.2 0, 40, .inl f3_37))], [(g0_3, .inr (5, [.int v0_40, .ref a1_38, .ref a2_39]))], [(a1_38, .inl (T.2 0, 8, .inl f1_41))], [(a2_39, .inl (T.2 0, 8, .inl f2_42))], [(tp, .inl (T.2 1, 600, .inl f))]]) (As := []) (rest := []) C G (c_Land_clear l T l0_1 a1_21 a2_22 a3_23 a4_24 v0_25 v1_26 f1_27 f3_29 f4_30) (kV_RX7_62 C.2.2.2.2 (Nat.le_of_ble_eq_true rfl) (Nat.le_of_ble_eq_true rfl)) [2, 3, 5, 6] [0, 1, 4, 7, 8, 9, 10, 11, 12, 13, 14] rfl rfl (ci := 4) (qc := (RX4, TX4, 6)) rfl rfl (List.mem_flatten.mpr ⟨_, List.mem_of_getElem? (i := 0) rfl, List.mem_cons_self⟩) rfl rfl hl.1 dX7_read_44 (Nat.le_of_ble_eq_true rfl) (Nat.le_of_ble_eq_true rfl) (fun b1 H locs hw G => ?_)
  obtain ⟨g1_44, g3_45, g4_46, rfl, h_47, h_48, h_49⟩ := hw
  have G : zS T A s.heap s [[(h, .inr (7, [.ref l0_1, .ref d0_2, .ref g0_3, .int 0, .int (-1), .ref tp, .int 0, .int 0, .int v4_11, .int v5_12, .int v6_13, .int 0, .int 0]))], [(a1_4, .inl (T.2 1, n1_5, .inl f1_6))], [(a2_22, .inl (T.2 0, 28, .inl f2_28))], [(d0_2, .inr (2, [.int v0_34, .ref a1_31, .ref a2_32, .ref a3_33]))], [(a1_31, .inl (T.2 0, 40, .inl f1_35))], [(a2_32, .inl (T.2 0, 40, .inl f2_36))], [(a3_33, .inl (T.2 0, 40, .inl f3_37))], [(g0_3, .inr (5, [.int v0_40, .ref a1_38, .ref a2_39]))], [(a1_38, .inl (T.2 0, 8, .inl f1_41))], [(a2_39, .inl (T.2 0, 8, .inl f2_42))], [(tp, .inl (T.2 1, 600, .inl f))], [(l0_1, .inr (4, [.int 0, .int 0, .ref a1_21, .ref a2_22, .ref a3_23, .ref a4_24]))], [(a1_21, .inl (T.2 0, 7, .inl g1_44))], [(a3_23, .inl (T.2 0, 7, .inl g3_45))], [(a4_24, .inl (T.2 0, 7, .inl g4_46))]] _ _ := G
  refine lv_aload_n hx hb dX7_read_47 rfl (lv_at hl 0 rfl) ?_
  refine z_get C G clX7 0 rfl 1 (by decide) m_fl_RX7_21 rfl dX7_read_48 ?_
  refine lv_iconst (v := 0) hx hb dX7_read_51 (by decide) ?_
  refine z_put C G clX2 3 rfl 0 (by decide) m_fl_RX7_65 rfl rfl rfl (Nat.le_of_ble_eq_true rfl) dX7_read_52 (fun H locs G => ?_)
  have G : zS T A s.heap s [[(h, .inr (7, [.ref l0_1, .ref d0_2, .ref g0_3, .int 0, .int (-1), .ref tp, .int 0, .int 0, .int v4_11, .int v5_12, .int v6_13, .int 0, .int 0]))], [(a1_4, .inl (T.2 1, n1_5, .inl f1_6))], [(a2_22, .inl (T.2 0, 28, .inl f2_28))], [(d0_2, .inr (2, [.int 0, .ref a1_31, .ref a2_32, .ref a3_33]))], [(a1_31, .inl (T.2 0, 40, .inl f1_35))], [(a2_32, .inl (T.2 0, 40, .inl f2_36))], [(a3_33, .inl (T.2 0, 40, .inl f3_37))], [(g0_3, .inr (5, [.int v0_40, .ref a1_38, .ref a2_39]))], [(a1_38, .inl (T.2 0, 8, .inl f1_41))], [(a2_39, .inl (T.2 0, 8, .inl f2_42))], [(tp, .inl (T.2 1, 600, .inl f))], [(l0_1, .inr (4, [.int 0, .int 0, .ref a1_21, .ref a2_22, .ref a3_23, .ref a4_24]))], [(a1_21, .inl (T.2 0, 7, .inl g1_44))], [(a3_23, .inl (T.2 0, 7, .inl g3_45))], [(a4_24, .inl (T.2 0, 7, .inl g4_46))]] _ _ := G
  refine lv_aload_n hx hb dX7_read_55 rfl (lv_at hl 0 rfl) ?_
  refine z_get C G clX7 0 rfl 2 (by decide) m_fl_RX7_28 rfl dX7_read_56 ?_
  refine lv_iconst (v := 0) hx hb dX7_read_59 (by decide) ?_
  refine z_put C G clX5 7 rfl 0 (by decide) m_fl_RX7_68 rfl rfl rfl (Nat.le_of_ble_eq_true rfl) dX7_read_60 (fun H locs G => ?_)
  have G : zS T A s.heap s [[(h, .inr (7, [.ref l0_1, .ref d0_2, .ref g0_3, .int 0, .int (-1), .ref tp, .int 0, .int 0, .int v4_11, .int v5_12, .int v6_13, .int 0, .int 0]))], [(a1_4, .inl (T.2 1, n1_5, .inl f1_6))], [(a2_22, .inl (T.2 0, 28, .inl f2_28))], [(d0_2, .inr (2, [.int 0, .ref a1_31, .ref a2_32, .ref a3_33]))], [(a1_31, .inl (T.2 0, 40, .inl f1_35))], [(a2_32, .inl (T.2 0, 40, .inl f2_36))], [(a3_33, .inl (T.2 0, 40, .inl f3_37))], [(g0_3, .inr (5, [.int 0, .ref a1_38, .ref a2_39]))], [(a1_38, .inl (T.2 0, 8, .inl f1_41))], [(a2_39, .inl (T.2 0, 8, .inl f2_42))], [(tp, .inl (T.2 1, 600, .inl f))], [(l0_1, .inr (4, [.int 0, .int 0, .ref a1_21, .ref a2_22, .ref a3_23, .ref a4_24]))], [(a1_21, .inl (T.2 0, 7, .inl g1_44))], [(a3_23, .inl (T.2 0, 7, .inl g3_45))], [(a4_24, .inl (T.2 0, 7, .inl g4_46))]] _ _ := G
  refine lv_aload_n hx hb dX7_read_63 rfl (lv_at hl 0 rfl) ?_
  refine z_Vv (bc := [[(h, .inr (7, [.ref l0_1, .ref d0_2, .ref g0_3, .int 0, .int (-1), .ref tp, .int 0, .int 0, .int v4_11, .int v5_12, .int v6_13, .int 0, .int 0]))]]) (br := [[(a1_4, .inl (T.2 1, n1_5, .inl f1_6))], [(a2_22, .inl (T.2 0, 28, .inl f2_28))], [(d0_2, .inr (2, [.int 0, .ref a1_31, .ref a2_32, .ref a3_33]))], [(a1_31, .inl (T.2 0, 40, .inl f1_35))], [(a2_32, .inl (T.2 0, 40, .inl f2_36))], [(a3_33, .inl (T.2 0, 40, .inl f3_37))], [(g0_3, .inr (5, [.int 0, .ref a1_38, .ref a2_39]))], [(a1_38, .inl (T.2 0, 8, .inl f1_41))], [(a2_39, .inl (T.2 0, 8, .inl f2_42))], [(tp, .inl (T.2 1, 600, .inl f))], [(l0_1, .inr (4, [.int 0, .int 0, .ref a1_21, .ref a2_22, .ref a3_23, .ref a4_24]))], [(a1_21, .inl (T.2 0, 7, .inl g1_44))], [(a3_23, .inl (T.2 0, 7, .inl g3_45))], [(a4_24, .inl (T.2 0, 7, .inl g4_46))]]) (As := []) (rest := []) C G (c_nextToken0 l T h l0_1 d0_2 g0_3 tp 0 (-1) v4_11 v5_12 v6_13 0) (kV_RX7_71 C.2.2.2.2 (Nat.le_of_ble_eq_true rfl) (Nat.le_of_ble_eq_true rfl)) [0] [1, 2, 3, 4, 5, 6, 7, 8, 9, 10, 11, 12, 13, 14] rfl rfl (ci := 7) (qc := (RX7, TX7, 13)) rfl rfl (List.mem_flatten.mpr ⟨_, List.mem_of_getElem? (i := 0) rfl, List.mem_cons_self⟩) rfl rfl hl.1 dX7_read_64 (Nat.le_of_ble_eq_true rfl) (Nat.le_of_ble_eq_true rfl) (fun b1 H locs hw G => ?_)
  obtain rfl := hw
  have G : zS T A s.heap s [[(a1_4, .inl (T.2 1, n1_5, .inl f1_6))], [(a2_22, .inl (T.2 0, 28, .inl f2_28))], [(d0_2, .inr (2, [.int 0, .ref a1_31, .ref a2_32, .ref a3_33]))], [(a1_31, .inl (T.2 0, 40, .inl f1_35))], [(a2_32, .inl (T.2 0, 40, .inl f2_36))], [(a3_33, .inl (T.2 0, 40, .inl f3_37))], [(g0_3, .inr (5, [.int 0, .ref a1_38, .ref a2_39]))], [(a1_38, .inl (T.2 0, 8, .inl f1_41))], [(a2_39, .inl (T.2 0, 8, .inl f2_42))], [(tp, .inl (T.2 1, 600, .inl f))], [(l0_1, .inr (4, [.int 0, .int 0, .ref a1_21, .ref a2_22, .ref a3_23, .ref a4_24]))], [(a1_21, .inl (T.2 0, 7, .inl g1_44))], [(a3_23, .inl (T.2 0, 7, .inl g3_45))], [(a4_24, .inl (T.2 0, 7, .inl g4_46))], [(h, .inr (7, [.ref l0_1, .ref d0_2, .ref g0_3, .int 0, .int (-1), .ref tp, .int 0, .int 0, .int 0, .int 0, .int v6_13, .int 0, .int 0]))]] _ _ := G
  refine lv_iconst (v := 0) hx hb dX7_read_67 (by decide) ?_
  refine lv_istore (lv' := [(4, .int 0), (0, .ref h), (1, .ref tp), (2, .int 0), (3, .int so)]) hx hb dX7_read_68 hl (by decide) rfl (fun ls hl => ?_)
  refine lv_iload hx hb dX7_read_70 (lv_at hl 0 rfl) ?_
  refine lv_sipush (v := 600) hx hb dX7_read_72 (by decide) ?_
  refine lv_icmp_gt (tgt := 103) hx hb dX7_read_75 (by decide) (fun q => absurd q (by decide)) (fun _ => ?_)
  refine lv_aload_n hx hb dX7_read_78 rfl (lv_at hl 1 rfl) ?_
  refine z_get C G clX7 14 rfl 11 (by decide) m_fl_RX7_55 rfl dX7_read_79 ?_
  refine lv_if_ne (tgt := 103) hx hb dX7_read_82 (by decide) (fun q => absurd (by decide) q) (fun _ => ?_)
  refine lv_aload_n hx hb dX7_read_85 rfl (lv_at hl 1 rfl) ?_
  refine z_get C G clX7 14 rfl 8 (by decide) m_fl_RX7_74 rfl dX7_read_86 ?_
  refine lv_if_eq (tgt := 103) hx hb dX7_read_89 (by decide) (fun _ => ?_) (fun q => absurd (by decide) q)
  refine lv_iload_n hx hb dX7_read_103 rfl (lv_at hl 4 rfl) ?_
  refine lv_if_ne (tgt := 111) hx hb dX7_read_104 (by decide) (fun c_52 => ?_) (fun c_52 => ?_)
  · have c_52n : ¬ so.toInt = (0 : Int) := fun q => c_52 ((fa_eq _ _).mpr q)
    have G := G.sub (bs' := [[(a1_4, .inl (T.2 1, n1_5, .inl f1_6))], [(d0_2, .inr (2, [.int 0, .ref a1_31, .ref a2_32, .ref a3_33]))], [(a1_31, .inl (T.2 0, 40, .inl f1_35))], [(a2_32, .inl (T.2 0, 40, .inl f2_36))], [(a3_33, .inl (T.2 0, 40, .inl f3_37))], [(g0_3, .inr (5, [.int 0, .ref a1_38, .ref a2_39]))], [(a1_38, .inl (T.2 0, 8, .inl f1_41))], [(a2_39, .inl (T.2 0, 8, .inl f2_42))], [(tp, .inl (T.2 1, 600, .inl f))], [(h, .inr (7, [.ref l0_1, .ref d0_2, .ref g0_3, .int 0, .int (-1), .ref tp, .int 0, .int 0, .int 0, .int 0, .int v6_13, .int 0, .int 0]))], [(l0_1, .inr (4, [.int 0, .int 0, .ref a1_21, .ref a2_22, .ref a3_23, .ref a4_24]))], [(a1_21, .inl (T.2 0, 7, .inl g1_44))], [(a2_22, .inl (T.2 0, 28, .inl f2_28))], [(a3_23, .inl (T.2 0, 7, .inl g3_45))], [(a4_24, .inl (T.2 0, 7, .inl g4_46))]]) [0, 2, 3, 4, 5, 6, 7, 8, 9, 14, 10, 11, 1, 12, 13] rfl
    obtain ⟨w_53, hw_54, G⟩ : ∃ w : va_W, bLand T l0_1 w ∧ zS T A s.heap s [[(a1_4, .inl (T.2 1, n1_5, .inl f1_6))], [(d0_2, .inr (2, [.int 0, .ref a1_31, .ref a2_32, .ref a3_33]))], [(a1_31, .inl (T.2 0, 40, .inl f1_35))], [(a2_32, .inl (T.2 0, 40, .inl f2_36))], [(a3_33, .inl (T.2 0, 40, .inl f3_37))], [(g0_3, .inr (5, [.int 0, .ref a1_38, .ref a2_39]))], [(a1_38, .inl (T.2 0, 8, .inl f1_41))], [(a2_39, .inl (T.2 0, 8, .inl f2_42))], [(tp, .inl (T.2 1, 600, .inl f))], [(h, .inr (7, [.ref l0_1, .ref d0_2, .ref g0_3, .int 0, .int (-1), .ref tp, .int 0, .int 0, .int 0, .int 0, .int v6_13, .int 0, .int 0]))], w] _ _ := ⟨[(l0_1, .inr (4, [.int 0, .int 0, .ref a1_21, .ref a2_22, .ref a3_23, .ref a4_24])), (a1_21, .inl (T.2 0, 7, .inl g1_44)), (a2_22, .inl (T.2 0, 28, .inl f2_28)), (a3_23, .inl (T.2 0, 7, .inl g3_45)), (a4_24, .inl (T.2 0, 7, .inl g4_46))], ⟨a1_21, a2_22, a3_23, a4_24, 0, 0, g1_44, f2_28, g3_45, g4_46, rfl⟩, G.re rfl⟩
    have G := G.sub (bs' := [[(a1_4, .inl (T.2 1, n1_5, .inl f1_6))], [(g0_3, .inr (5, [.int 0, .ref a1_38, .ref a2_39]))], [(a1_38, .inl (T.2 0, 8, .inl f1_41))], [(a2_39, .inl (T.2 0, 8, .inl f2_42))], [(tp, .inl (T.2 1, 600, .inl f))], [(h, .inr (7, [.ref l0_1, .ref d0_2, .ref g0_3, .int 0, .int (-1), .ref tp, .int 0, .int 0, .int 0, .int 0, .int v6_13, .int 0, .int 0]))], w_53, [(d0_2, .inr (2, [.int 0, .ref a1_31, .ref a2_32, .ref a3_33]))], [(a1_31, .inl (T.2 0, 40, .inl f1_35))], [(a2_32, .inl (T.2 0, 40, .inl f2_36))], [(a3_33, .inl (T.2 0, 40, .inl f3_37))]]) [0, 5, 6, 7, 8, 9, 10, 1, 2, 3, 4] rfl
    obtain ⟨w_55, hw_56, G⟩ : ∃ w : va_W, bDay T d0_2 w ∧ zS T A s.heap s [[(a1_4, .inl (T.2 1, n1_5, .inl f1_6))], [(g0_3, .inr (5, [.int 0, .ref a1_38, .ref a2_39]))], [(a1_38, .inl (T.2 0, 8, .inl f1_41))], [(a2_39, .inl (T.2 0, 8, .inl f2_42))], [(tp, .inl (T.2 1, 600, .inl f))], [(h, .inr (7, [.ref l0_1, .ref d0_2, .ref g0_3, .int 0, .int (-1), .ref tp, .int 0, .int 0, .int 0, .int 0, .int v6_13, .int 0, .int 0]))], w_53, w] _ _ := ⟨[(d0_2, .inr (2, [.int 0, .ref a1_31, .ref a2_32, .ref a3_33])), (a1_31, .inl (T.2 0, 40, .inl f1_35)), (a2_32, .inl (T.2 0, 40, .inl f2_36)), (a3_33, .inl (T.2 0, 40, .inl f3_37))], ⟨a1_31, a2_32, a3_33, 0, f1_35, f2_36, f3_37, rfl⟩, G.re rfl⟩
    have G := G.sub (bs' := [[(a1_4, .inl (T.2 1, n1_5, .inl f1_6))], [(tp, .inl (T.2 1, 600, .inl f))], [(h, .inr (7, [.ref l0_1, .ref d0_2, .ref g0_3, .int 0, .int (-1), .ref tp, .int 0, .int 0, .int 0, .int 0, .int v6_13, .int 0, .int 0]))], w_53, w_55, [(g0_3, .inr (5, [.int 0, .ref a1_38, .ref a2_39]))], [(a1_38, .inl (T.2 0, 8, .inl f1_41))], [(a2_39, .inl (T.2 0, 8, .inl f2_42))]]) [0, 4, 5, 6, 7, 1, 2, 3] rfl
    obtain ⟨w_57, hw_58, G⟩ : ∃ w : va_W, bLog T g0_3 w ∧ zS T A s.heap s [[(a1_4, .inl (T.2 1, n1_5, .inl f1_6))], [(tp, .inl (T.2 1, 600, .inl f))], [(h, .inr (7, [.ref l0_1, .ref d0_2, .ref g0_3, .int 0, .int (-1), .ref tp, .int 0, .int 0, .int 0, .int 0, .int v6_13, .int 0, .int 0]))], w_53, w_55, w] _ _ := ⟨[(g0_3, .inr (5, [.int 0, .ref a1_38, .ref a2_39])), (a1_38, .inl (T.2 0, 8, .inl f1_41)), (a2_39, .inl (T.2 0, 8, .inl f2_42))], ⟨a1_38, a2_39, 0, f1_41, f2_42, rfl⟩, G.re rfl⟩
    have G := G.sub (bs' := [[(h, .inr (7, [.ref l0_1, .ref d0_2, .ref g0_3, .int 0, .int (-1), .ref tp, .int 0, .int 0, .int 0, .int 0, .int v6_13, .int 0, .int 0]))], w_53, w_55, w_57, [(tp, .inl (T.2 1, 600, .inl f))]]) [2, 3, 4, 5, 1] rfl
    exact z_vret C hr hlocks G (Nat.le_of_ble_eq_true rfl) (Nat.le_of_ble_eq_true rfl) dX7_read_111 ⟨l0_1, d0_2, g0_3, v6_13, w_53, w_55, w_57, rfl, hw_54, hw_56, hw_58⟩
  · have c_52n : so.toInt = (0 : Int) := (fa_eq _ _).mp c_52
    refine lv_aload_n hx hb dX7_read_107 rfl (lv_at hl 1 rfl) ?_
    refine z_Vv (bc := [[(h, .inr (7, [.ref l0_1, .ref d0_2, .ref g0_3, .int 0, .int (-1), .ref tp, .int 0, .int 0, .int 0, .int 0, .int v6_13, .int 0, .int 0]))], [(l0_1, .inr (4, [.int 0, .int 0, .ref a1_21, .ref a2_22, .ref a3_23, .ref a4_24]))], [(a1_21, .inl (T.2 0, 7, .inl g1_44))], [(a3_23, .inl (T.2 0, 7, .inl g3_45))]]) (br := [[(a1_4, .inl (T.2 1, n1_5, .inl f1_6))], [(a2_22, .inl (T.2 0, 28, .inl f2_28))], [(d0_2, .inr (2, [.int 0, .ref a1_31, .ref a2_32, .ref a3_33]))], [(a1_31, .inl (T.2 0, 40, .inl f1_35))], [(a2_32, .inl (T.2 0, 40, .inl f2_36))], [(a3_33, .inl (T.2 0, 40, .inl f3_37))], [(g0_3, .inr (5, [.int 0, .ref a1_38, .ref a2_39]))], [(a1_38, .inl (T.2 0, 8, .inl f1_41))], [(a2_39, .inl (T.2 0, 8, .inl f2_42))], [(tp, .inl (T.2 1, 600, .inl f))], [(a4_24, .inl (T.2 0, 7, .inl g4_46))]]) (As := []) (rest := []) C G (c_lookAtWhole0 l T h l0_1 d0_2 g0_3 tp 0 (-1) 0 0 0 0 v6_13 a1_21 a2_22 a3_23 a4_24 0 g1_44 g3_45 (by first | assumption | omega | rfl)) (kV_RX7_81 C.2.2.2.2 (Nat.le_of_ble_eq_true rfl) (Nat.le_of_ble_eq_true rfl)) [14, 10, 11, 12] [0, 1, 2, 3, 4, 5, 6, 7, 8, 9, 13] rfl rfl (ci := 7) (qc := (RX7, TX7, 13)) rfl rfl (List.mem_flatten.mpr ⟨_, List.mem_of_getElem? (i := 0) rfl, List.mem_cons_self⟩) rfl rfl hl.1 dX7_read_108 (Nat.le_of_ble_eq_true rfl) (Nat.le_of_ble_eq_true rfl) (fun b1 H locs hw G => ?_)
    obtain rfl := hw
    have G : zS T A s.heap s [[(a1_4, .inl (T.2 1, n1_5, .inl f1_6))], [(a2_22, .inl (T.2 0, 28, .inl f2_28))], [(d0_2, .inr (2, [.int 0, .ref a1_31, .ref a2_32, .ref a3_33]))], [(a1_31, .inl (T.2 0, 40, .inl f1_35))], [(a2_32, .inl (T.2 0, 40, .inl f2_36))], [(a3_33, .inl (T.2 0, 40, .inl f3_37))], [(g0_3, .inr (5, [.int 0, .ref a1_38, .ref a2_39]))], [(a1_38, .inl (T.2 0, 8, .inl f1_41))], [(a2_39, .inl (T.2 0, 8, .inl f2_42))], [(tp, .inl (T.2 1, 600, .inl f))], [(a4_24, .inl (T.2 0, 7, .inl g4_46))], [(h, .inr (7, [.ref l0_1, .ref d0_2, .ref g0_3, .int 0, .int (-1), .ref tp, .int 0, .int 0, .int 0, .int 0, .int v6_13, .int 0, .int 0]))], [(l0_1, .inr (4, [.int 0, .int 0, .ref a1_21, .ref a2_22, .ref a3_23, .ref a4_24]))], [(a1_21, .inl (T.2 0, 7, .inl g1_44))], [(a3_23, .inl (T.2 0, 7, .inl g3_45))]] _ _ := G
    have G := G.sub (bs' := [[(a1_4, .inl (T.2 1, n1_5, .inl f1_6))], [(d0_2, .inr (2, [.int 0, .ref a1_31, .ref a2_32, .ref a3_33]))], [(a1_31, .inl (T.2 0, 40, .inl f1_35))], [(a2_32, .inl (T.2 0, 40, .inl f2_36))], [(a3_33, .inl (T.2 0, 40, .inl f3_37))], [(g0_3, .inr (5, [.int 0, .ref a1_38, .ref a2_39]))], [(a1_38, .inl (T.2 0, 8, .inl f1_41))], [(a2_39, .inl (T.2 0, 8, .inl f2_42))], [(tp, .inl (T.2 1, 600, .inl f))], [(h, .inr (7, [.ref l0_1, .ref d0_2, .ref g0_3, .int 0, .int (-1), .ref tp, .int 0, .int 0, .int 0, .int 0, .int v6_13, .int 0, .int 0]))], [(l0_1, .inr (4, [.int 0, .int 0, .ref a1_21, .ref a2_22, .ref a3_23, .ref a4_24]))], [(a1_21, .inl (T.2 0, 7, .inl g1_44))], [(a2_22, .inl (T.2 0, 28, .inl f2_28))], [(a3_23, .inl (T.2 0, 7, .inl g3_45))], [(a4_24, .inl (T.2 0, 7, .inl g4_46))]]) [0, 2, 3, 4, 5, 6, 7, 8, 9, 11, 12, 13, 1, 14, 10] rfl
    obtain ⟨w_60, hw_61, G⟩ : ∃ w : va_W, bLand T l0_1 w ∧ zS T A s.heap s [[(a1_4, .inl (T.2 1, n1_5, .inl f1_6))], [(d0_2, .inr (2, [.int 0, .ref a1_31, .ref a2_32, .ref a3_33]))], [(a1_31, .inl (T.2 0, 40, .inl f1_35))], [(a2_32, .inl (T.2 0, 40, .inl f2_36))], [(a3_33, .inl (T.2 0, 40, .inl f3_37))], [(g0_3, .inr (5, [.int 0, .ref a1_38, .ref a2_39]))], [(a1_38, .inl (T.2 0, 8, .inl f1_41))], [(a2_39, .inl (T.2 0, 8, .inl f2_42))], [(tp, .inl (T.2 1, 600, .inl f))], [(h, .inr (7, [.ref l0_1, .ref d0_2, .ref g0_3, .int 0, .int (-1), .ref tp, .int 0, .int 0, .int 0, .int 0, .int v6_13, .int 0, .int 0]))], w] _ _ := ⟨[(l0_1, .inr (4, [.int 0, .int 0, .ref a1_21, .ref a2_22, .ref a3_23, .ref a4_24])), (a1_21, .inl (T.2 0, 7, .inl g1_44)), (a2_22, .inl (T.2 0, 28, .inl f2_28)), (a3_23, .inl (T.2 0, 7, .inl g3_45)), (a4_24, .inl (T.2 0, 7, .inl g4_46))], ⟨a1_21, a2_22, a3_23, a4_24, 0, 0, g1_44, f2_28, g3_45, g4_46, rfl⟩, G.re rfl⟩
    have G := G.sub (bs' := [[(a1_4, .inl (T.2 1, n1_5, .inl f1_6))], [(g0_3, .inr (5, [.int 0, .ref a1_38, .ref a2_39]))], [(a1_38, .inl (T.2 0, 8, .inl f1_41))], [(a2_39, .inl (T.2 0, 8, .inl f2_42))], [(tp, .inl (T.2 1, 600, .inl f))], [(h, .inr (7, [.ref l0_1, .ref d0_2, .ref g0_3, .int 0, .int (-1), .ref tp, .int 0, .int 0, .int 0, .int 0, .int v6_13, .int 0, .int 0]))], w_60, [(d0_2, .inr (2, [.int 0, .ref a1_31, .ref a2_32, .ref a3_33]))], [(a1_31, .inl (T.2 0, 40, .inl f1_35))], [(a2_32, .inl (T.2 0, 40, .inl f2_36))], [(a3_33, .inl (T.2 0, 40, .inl f3_37))]]) [0, 5, 6, 7, 8, 9, 10, 1, 2, 3, 4] rfl
    obtain ⟨w_62, hw_63, G⟩ : ∃ w : va_W, bDay T d0_2 w ∧ zS T A s.heap s [[(a1_4, .inl (T.2 1, n1_5, .inl f1_6))], [(g0_3, .inr (5, [.int 0, .ref a1_38, .ref a2_39]))], [(a1_38, .inl (T.2 0, 8, .inl f1_41))], [(a2_39, .inl (T.2 0, 8, .inl f2_42))], [(tp, .inl (T.2 1, 600, .inl f))], [(h, .inr (7, [.ref l0_1, .ref d0_2, .ref g0_3, .int 0, .int (-1), .ref tp, .int 0, .int 0, .int 0, .int 0, .int v6_13, .int 0, .int 0]))], w_60, w] _ _ := ⟨[(d0_2, .inr (2, [.int 0, .ref a1_31, .ref a2_32, .ref a3_33])), (a1_31, .inl (T.2 0, 40, .inl f1_35)), (a2_32, .inl (T.2 0, 40, .inl f2_36)), (a3_33, .inl (T.2 0, 40, .inl f3_37))], ⟨a1_31, a2_32, a3_33, 0, f1_35, f2_36, f3_37, rfl⟩, G.re rfl⟩
    have G := G.sub (bs' := [[(a1_4, .inl (T.2 1, n1_5, .inl f1_6))], [(tp, .inl (T.2 1, 600, .inl f))], [(h, .inr (7, [.ref l0_1, .ref d0_2, .ref g0_3, .int 0, .int (-1), .ref tp, .int 0, .int 0, .int 0, .int 0, .int v6_13, .int 0, .int 0]))], w_60, w_62, [(g0_3, .inr (5, [.int 0, .ref a1_38, .ref a2_39]))], [(a1_38, .inl (T.2 0, 8, .inl f1_41))], [(a2_39, .inl (T.2 0, 8, .inl f2_42))]]) [0, 4, 5, 6, 7, 1, 2, 3] rfl
    obtain ⟨w_64, hw_65, G⟩ : ∃ w : va_W, bLog T g0_3 w ∧ zS T A s.heap s [[(a1_4, .inl (T.2 1, n1_5, .inl f1_6))], [(tp, .inl (T.2 1, 600, .inl f))], [(h, .inr (7, [.ref l0_1, .ref d0_2, .ref g0_3, .int 0, .int (-1), .ref tp, .int 0, .int 0, .int 0, .int 0, .int v6_13, .int 0, .int 0]))], w_60, w_62, w] _ _ := ⟨[(g0_3, .inr (5, [.int 0, .ref a1_38, .ref a2_39])), (a1_38, .inl (T.2 0, 8, .inl f1_41)), (a2_39, .inl (T.2 0, 8, .inl f2_42))], ⟨a1_38, a2_39, 0, f1_41, f2_42, rfl⟩, G.re rfl⟩
    have G := G.sub (bs' := [[(h, .inr (7, [.ref l0_1, .ref d0_2, .ref g0_3, .int 0, .int (-1), .ref tp, .int 0, .int 0, .int 0, .int 0, .int v6_13, .int 0, .int 0]))], w_60, w_62, w_64, [(tp, .inl (T.2 1, 600, .inl f))]]) [2, 3, 4, 5, 1] rfl
    exact z_vret C hr hlocks G (Nat.le_of_ble_eq_true rfl) (Nat.le_of_ble_eq_true rfl) dX7_read_111 ⟨l0_1, d0_2, g0_3, v6_13, w_60, w_62, w_64, rfl, hw_61, hw_63, hw_65⟩

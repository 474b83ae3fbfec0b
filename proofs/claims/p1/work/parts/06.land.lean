theorem z_upd0 {g : Nat → Int32} {i : Nat} (h : ∀ j, j < i → g j = 0) : ∀ j, j < i + 1 → upd g i 0 j = 0 := by
  intro j hj
  unfold upd
  split
  · rfl
  · exact h j (by omega)
set_option maxHeartbeats 4000000 in
set_option maxRecDepth 100000 in
/-- Land() -/
theorem c_Land_init (l : Launch) (T : zTy) (h : Nat) : zMv l T yX4_init cX4_init 1 1 4 49 [.ref h] [[(h, .inr (4, [.int 0, .int 0, .null, .null, .null, .null]))]] (fun bs => ∃ (a1 : Nat) (a2 : Nat) (a3 : Nat) (a4 : Nat), bs = [[(h, .inr (4, [.int 0, .int 0, .ref a1, .ref a2, .ref a3, .ref a4]))], [(a1, .inl (T.2 0, 7, .inl (fun _ => 0)))], [(a2, .inl (T.2 0, 28, .inl (fun _ => 0)))], [(a3, .inl (T.2 0, 7, .inl (fun _ => 0)))], [(a4, .inl (T.2 0, 7, .inl (fun _ => 0)))]]) := by
  refine zMv_of (own := RX4) (by decide) rfl (Nat.le_of_ble_eq_true rfl) ?_
  intro p e s m args below meth c A ls C hr hlocks hnm hAe G hl
  have hx := C.1
  have hb := C.2.1
  have hl : lv_has ls 1 [(0, .ref h)] := hl
  refine lv_aload_n hx hb dX4_init_0 rfl (lv_at hl 0 rfl) ?_
  refine W.objInit hx hb C.2.2.2.1 (C.2.2.2.2 _ m_ml_RX4_3) (C.2.2.2.2 _ m_im_obj) (C.2.2.2.2 _ m_co_obj) rfl (by rw [C.2.2.1]; exact hl.1) rfl dX4_init_1 (Nat.le_of_ble_eq_true rfl) (Nat.le_of_ble_eq_true rfl) ?_
  refine W.eq (g2 := F0 m 4 ls []) rfl ?_
  refine lv_aload_n hx hb dX4_init_4 rfl (lv_at hl 0 rfl) ?_
  refine lv_bipush (v := 7) hx hb dX4_init_5 (by decide) ?_
  refine z_newa C G 0 (ty := .int) (N' := 7) (a0 := (7, .inl (fun _ => 0))) rfl z_uint m_ar_int rfl (fun _ => rfl) (by decide) (by decide) (Nat.le_of_ble_eq_true rfl) (Nat.le_of_ble_eq_true rfl) (Nat.le_of_ble_eq_true rfl) dX4_init_7 (fun q_1 H G => ?_)
  have G : zS T A s.heap s [[(h, .inr (4, [.int 0, .int 0, .null, .null, .null, .null]))], [(q_1, .inl (T.2 0, 7, .inl (fun _ => 0)))]] H _ := G
  refine z_putF C G hnm clX4 0 rfl 2 (by decide) m_fl_RX4_9 rfl rfl rfl rfl (Nat.le_of_ble_eq_true rfl) dX4_init_9 (fun H locs G => ?_)
  have G : zS T A s.heap s [[(h, .inr (4, [.int 0, .int 0, .ref q_1, .null, .null, .null]))], [(q_1, .inl (T.2 0, 7, .inl (fun _ => 0)))]] H _ := G
  refine lv_aload_n hx hb dX4_init_12 rfl (lv_at hl 0 rfl) ?_
  refine lv_bipush (v := 28) hx hb dX4_init_13 (by decide) ?_
  refine z_newa C G 0 (ty := .int) (N' := 28) (a0 := (28, .inl (fun _ => 0))) rfl z_uint m_ar_int rfl (fun _ => rfl) (by decide) (by decide) (Nat.le_of_ble_eq_true rfl) (Nat.le_of_ble_eq_true rfl) (Nat.le_of_ble_eq_true rfl) dX4_init_15 (fun q_2 H G => ?_)
  have G : zS T A s.heap s [[(h, .inr (4, [.int 0, .int 0, .ref q_1, .null, .null, .null]))], [(q_1, .inl (T.2 0, 7, .inl (fun _ => 0)))], [(q_2, .inl (T.2 0, 28, .inl (fun _ => 0)))]] H _ := G
  refine z_putF C G hnm clX4 0 rfl 3 (by decide) m_fl_RX4_15 rfl rfl rfl rfl (Nat.le_of_ble_eq_true rfl) dX4_init_17 (fun H locs G => ?_)
  have G : zS T A s.heap s [[(h, .inr (4, [.int 0, .int 0, .ref q_1, .ref q_2, .null, .null]))], [(q_1, .inl (T.2 0, 7, .inl (fun _ => 0)))], [(q_2, .inl (T.2 0, 28, .inl (fun _ => 0)))]] H _ := G
  refine lv_aload_n hx hb dX4_init_20 rfl (lv_at hl 0 rfl) ?_
  refine lv_bipush (v := 7) hx hb dX4_init_21 (by decide) ?_
  refine z_newa C G 0 (ty := .int) (N' := 7) (a0 := (7, .inl (fun _ => 0))) rfl z_uint m_ar_int rfl (fun _ => rfl) (by decide) (by decide) (Nat.le_of_ble_eq_true rfl) (Nat.le_of_ble_eq_true rfl) (Nat.le_of_ble_eq_true rfl) dX4_init_23 (fun q_3 H G => ?_)
  have G : zS T A s.heap s [[(h, .inr (4, [.int 0, .int 0, .ref q_1, .ref q_2, .null, .null]))], [(q_1, .inl (T.2 0, 7, .inl (fun _ => 0)))], [(q_2, .inl (T.2 0, 28, .inl (fun _ => 0)))], [(q_3, .inl (T.2 0, 7, .inl (fun _ => 0)))]] H _ := G
  refine z_putF C G hnm clX4 0 rfl 4 (by decide) m_fl_RX4_18 rfl rfl rfl rfl (Nat.le_of_ble_eq_true rfl) dX4_init_25 (fun H locs G => ?_)
  have G : zS T A s.heap s [[(h, .inr (4, [.int 0, .int 0, .ref q_1, .ref q_2, .ref q_3, .null]))], [(q_1, .inl (T.2 0, 7, .inl (fun _ => 0)))], [(q_2, .inl (T.2 0, 28, .inl (fun _ => 0)))], [(q_3, .inl (T.2 0, 7, .inl (fun _ => 0)))]] H _ := G
  refine lv_aload_n hx hb dX4_init_28 rfl (lv_at hl 0 rfl) ?_
  refine lv_bipush (v := 7) hx hb dX4_init_29 (by decide) ?_
  refine z_newa C G 0 (ty := .int) (N' := 7) (a0 := (7, .inl (fun _ => 0))) rfl z_uint m_ar_int rfl (fun _ => rfl) (by decide) (by decide) (Nat.le_of_ble_eq_true rfl) (Nat.le_of_ble_eq_true rfl) (Nat.le_of_ble_eq_true rfl) dX4_init_31 (fun q_4 H G => ?_)
  have G : zS T A s.heap s [[(h, .inr (4, [.int 0, .int 0, .ref q_1, .ref q_2, .ref q_3, .null]))], [(q_1, .inl (T.2 0, 7, .inl (fun _ => 0)))], [(q_2, .inl (T.2 0, 28, .inl (fun _ => 0)))], [(q_3, .inl (T.2 0, 7, .inl (fun _ => 0)))], [(q_4, .inl (T.2 0, 7, .inl (fun _ => 0)))]] H _ := G
  refine z_putF C G hnm clX4 0 rfl 5 (by decide) m_fl_RX4_21 rfl rfl rfl rfl (Nat.le_of_ble_eq_true rfl) dX4_init_33 (fun H locs G => ?_)
  have G : zS T A s.heap s [[(h, .inr (4, [.int 0, .int 0, .ref q_1, .ref q_2, .ref q_3, .ref q_4]))], [(q_1, .inl (T.2 0, 7, .inl (fun _ => 0)))], [(q_2, .inl (T.2 0, 28, .inl (fun _ => 0)))], [(q_3, .inl (T.2 0, 7, .inl (fun _ => 0)))], [(q_4, .inl (T.2 0, 7, .inl (fun _ => 0)))]] H _ := G
  exact z_vret C hr hlocks G (Nat.le_of_ble_eq_true rfl) (Nat.le_of_ble_eq_true rfl) dX4_init_36 ⟨_, _, _, _, rfl⟩
set_option maxHeartbeats 4000000 in
set_option maxRecDepth 100000 in
/-- clear() -/
theorem c_Land_clear (l : Launch) (T : zTy) (h : Nat) (a1 : Nat) (a2 : Nat) (a3 : Nat) (a4 : Nat) (v0 : Int32) (v1 : Int32) (f1 : Nat → Int32) (f3 : Nat → Int32) (f4 : Nat → Int32) : zMv l T yX4_clear cX4_clear 2 1 0 0 [.ref h] [[(h, .inr (4, [.int v0, .int v1, .ref a1, .ref a2, .ref a3, .ref a4]))], [(a1, .inl (T.2 0, 7, .inl f1))], [(a3, .inl (T.2 0, 7, .inl f3))], [(a4, .inl (T.2 0, 7, .inl f4))]] (fun bs => ∃ (g1 : Nat → Int32) (g3 : Nat → Int32) (g4 : Nat → Int32), bs = [[(h, .inr (4, [.int 0, .int 0, .ref a1, .ref a2, .ref a3, .ref a4]))], [(a1, .inl (T.2 0, 7, .inl g1))], [(a3, .inl (T.2 0, 7, .inl g3))], [(a4, .inl (T.2 0, 7, .inl g4))]] ∧ (∀ j, j < 7 → g1 j = 0) ∧ (∀ j, j < 7 → g3 j = 0) ∧ (∀ j, j < 7 → g4 j = 0)) := by
  refine zMv_of (own := RX4) (by decide) rfl (Nat.le_of_ble_eq_true rfl) ?_
  intro p e s m args below meth c A ls C hr hlocks hnm hAe G hl
  have hx := C.1
  have hb := C.2.1
  have hl : lv_has ls 2 [(0, .ref h)] := hl
  refine lv_aload_n hx hb dX4_clear_0 rfl (lv_at hl 0 rfl) ?_
  refine lv_iconst (v := 0) hx hb dX4_clear_1 (by decide) ?_
  refine z_put C G clX4 0 rfl 0 (by decide) m_fl_RX4_24 rfl rfl rfl (Nat.le_of_ble_eq_true rfl) dX4_clear_2 (fun H locs G => ?_)
  have G : zS T A s.heap s [[(h, .inr (4, [.int 0, .int v1, .ref a1, .ref a2, .ref a3, .ref a4]))], [(a1, .inl (T.2 0, 7, .inl f1))], [(a3, .inl (T.2 0, 7, .inl f3))], [(a4, .inl (T.2 0, 7, .inl f4))]] H _ := G
  refine lv_aload_n hx hb dX4_clear_5 rfl (lv_at hl 0 rfl) ?_
  refine lv_iconst (v := 0) hx hb dX4_clear_6 (by decide) ?_
  refine z_put C G clX4 0 rfl 1 (by decide) m_fl_RX4_28 rfl rfl rfl (Nat.le_of_ble_eq_true rfl) dX4_clear_7 (fun H locs G => ?_)
  have G : zS T A s.heap s [[(h, .inr (4, [.int 0, .int 0, .ref a1, .ref a2, .ref a3, .ref a4]))], [(a1, .inl (T.2 0, 7, .inl f1))], [(a3, .inl (T.2 0, 7, .inl f3))], [(a4, .inl (T.2 0, 7, .inl f4))]] H _ := G
  refine lv_iconst (v := 0) hx hb dX4_clear_10 (by decide) ?_
  refine lv_istore_n (lv' := [(1, .int 0), (0, .ref h)]) hx hb dX4_clear_11 rfl hl (by decide) rfl (fun ls hl => ?_)
  refine z_loop (T := T) (α := Nat × (Nat → Int32) × (Nat → Int32) × (Nat → Int32)) 12 (fun (i, g1, g3, g4) => [[(h, .inr (4, [.int 0, .int 0, .ref a1, .ref a2, .ref a3, .ref a4]))], [(a1, .inl (T.2 0, 7, .inl g1))], [(a3, .inl (T.2 0, 7, .inl g3))], [(a4, .inl (T.2 0, 7, .inl g4))]]) (fun (i, g1, g3, g4) => [(1, .int (nI i)), (0, .ref h)]) (fun (i, g1, g3, g4) => i ≤ 7 ∧ (∀ j, j < i → g1 j = 0) ∧ (∀ j, j < i → g3 j = 0) ∧ (∀ j, j < i → g4 j = 0)) (fun (i, g1, g3, g4) => 7 - i) ?_ (0, f1, f3, f4) ⟨by omega, fun j hj => absurd hj (by omega), fun j hj => absurd hj (by omega), fun j hj => absurd hj (by omega)⟩ G (lv_sub hl [0, 1] rfl)
  rintro ⟨i, g1, g3, g4⟩ ⟨hi, h1, h3, h4⟩ ih H locs ls G hl
  have hi : i ≤ 7 := hi
  have h1 : (∀ j, j < i → g1 j = 0) := h1
  have h3 : (∀ j, j < i → g3 j = 0) := h3
  have h4 : (∀ j, j < i → g4 j = 0) := h4
  have G : zS T A s.heap s [[(h, .inr (4, [.int 0, .int 0, .ref a1, .ref a2, .ref a3, .ref a4]))], [(a1, .inl (T.2 0, 7, .inl g1))], [(a3, .inl (T.2 0, 7, .inl g3))], [(a4, .inl (T.2 0, 7, .inl g4))]] H locs := G
  have hl : lv_has ls 2 [(1, .int (nI i)), (0, .ref h)] := hl
  refine lv_iload_n hx hb dX4_clear_12 rfl (lv_at hl 0 rfl) ?_
  refine lv_bipush (v := 7) hx hb dX4_clear_13 (by decide) ?_
  refine lv_icmp_ge (tgt := 45) hx hb dX4_clear_15 (by decide) (fun c_1 => ?_) (fun c_1 => ?_)
  · have c_1n : 7 ≤ i := (nI_leI (a := 7) (b := i) (by omega) (by omega)).mp c_1
    exact z_vret C hr hlocks G (Nat.le_of_ble_eq_true rfl) (Nat.le_of_ble_eq_true rfl) dX4_clear_45 ⟨g1, g3, g4, rfl, fun j hj => h1 j (by omega), fun j hj => h3 j (by omega), fun j hj => h4 j (by omega)⟩
  · have c_1n : ¬ 7 ≤ i := fun q => c_1 ((nI_leI (a := 7) (b := i) (by omega) (by omega)).mpr q)
    refine lv_aload_n hx hb dX4_clear_18 rfl (lv_at hl 1 rfl) ?_
    refine z_get C G clX4 0 rfl 2 (by decide) m_fl_RX4_9 rfl dX4_clear_19 ?_
    refine lv_iload_n hx hb dX4_clear_22 rfl (lv_at hl 0 rfl) ?_
    refine lv_iconst (v := 0) hx hb dX4_clear_23 (by decide) ?_
    refine z_ist C G 1 rfl (vp_in_nI (by omega) (by omega)) dX4_clear_24 (fun H locs G => ?_)
    rw [nI_clamp (by omega)] at G
    have G : zS T A s.heap s [[(h, .inr (4, [.int 0, .int 0, .ref a1, .ref a2, .ref a3, .ref a4]))], [(a1, .inl (T.2 0, 7, .inl (upd g1 i 0)))], [(a3, .inl (T.2 0, 7, .inl g3))], [(a4, .inl (T.2 0, 7, .inl g4))]] H _ := G
    refine lv_aload_n hx hb dX4_clear_25 rfl (lv_at hl 1 rfl) ?_
    refine z_get C G clX4 0 rfl 4 (by decide) m_fl_RX4_18 rfl dX4_clear_26 ?_
    refine lv_iload_n hx hb dX4_clear_29 rfl (lv_at hl 0 rfl) ?_
    refine lv_iconst (v := 0) hx hb dX4_clear_30 (by decide) ?_
    refine z_ist C G 2 rfl (vp_in_nI (by omega) (by omega)) dX4_clear_31 (fun H locs G => ?_)
    rw [nI_clamp (by omega)] at G
    have G : zS T A s.heap s [[(h, .inr (4, [.int 0, .int 0, .ref a1, .ref a2, .ref a3, .ref a4]))], [(a1, .inl (T.2 0, 7, .inl (upd g1 i 0)))], [(a3, .inl (T.2 0, 7, .inl (upd g3 i 0)))], [(a4, .inl (T.2 0, 7, .inl g4))]] H _ := G
    refine lv_aload_n hx hb dX4_clear_32 rfl (lv_at hl 1 rfl) ?_
    refine z_get C G clX4 0 rfl 5 (by decide) m_fl_RX4_21 rfl dX4_clear_33 ?_
    refine lv_iload_n hx hb dX4_clear_36 rfl (lv_at hl 0 rfl) ?_
    refine lv_iconst (v := 0) hx hb dX4_clear_37 (by decide) ?_
    refine z_ist C G 3 rfl (vp_in_nI (by omega) (by omega)) dX4_clear_38 (fun H locs G => ?_)
    rw [nI_clamp (by omega)] at G
    have G : zS T A s.heap s [[(h, .inr (4, [.int 0, .int 0, .ref a1, .ref a2, .ref a3, .ref a4]))], [(a1, .inl (T.2 0, 7, .inl (upd g1 i 0)))], [(a3, .inl (T.2 0, 7, .inl (upd g3 i 0)))], [(a4, .inl (T.2 0, 7, .inl (upd g4 i 0)))]] H _ := G
    refine lv_iinc (v := nI (i + 1)) (lv' := [(1, .int (nI (i + 1))), (0, .ref h)]) hx hb dX4_clear_39 hl (k := 0) rfl (z_inc i 1) (by decide) rfl (fun ls hl => ?_)
    refine lv_goto (tgt := 12) hx hb dX4_clear_42 (by decide) ?_
    exact ih ((i + 1), (upd g1 i 0), (upd g3 i 0), (upd g4 i 0)) ⟨by omega, z_upd0 h1, z_upd0 h3, z_upd0 h4⟩ (by show 7 - (i + 1) < 7 - i; omega) H locs ls G (lv_sub hl [0, 1] rfl)

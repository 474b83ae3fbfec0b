set_option maxHeartbeats 4000000 in
set_option maxRecDepth 100000 in
/-- c_end -/
theorem c_end (l : Launch) (T : zTy) (xo : Nat) (t : Nat) (im : Nat) (mk : Nat) (rd : Nat) (po : Nat) (co : Nat) (tr : Nat) (wa : Nat) (wb_ : Nat) (fi : Nat) (cd : Nat) (l0 : Nat) (l1 : Nat) (d0 : Nat) (d1 : Nat) (g0 : Nat) (g1 : Nat) (ln : Int32) (fl : Int32) (pl : Int32) (ft : Nat → Int32) (fk : Nat → Int32) (wt : va_W) (n : Int32) (ht : bTold T t l0 l1 d0 d1 g0 g1 ln fl pl ft fk wt) (hK : zKT fk) : zMi l T yX11_end cX11_end 2 (some .int) 1 0 0 [.ref xo, .int n] [[zO10 xo t im mk rd po co tr wa wb_ fi cd], wt] (fun (r : Int32) bs => ∃ (wt_2 : va_W) (u : Int32), bs = [[zO10 xo t im mk rd po co tr wa wb_ fi cd], wt_2] ∧ bTold T t l0 l1 d0 d1 g0 g1 u fl pl ft fk wt_2 ∧ ((n.toInt < 0 ∨ ln.toInt < n.toInt) ∧ r.toInt = -1 ∧ u = ln ∨ (0 ≤ n.toInt ∧ n.toInt ≤ ln.toInt) ∧ u = n ∧ r = n)) := by
  refine zMi_of (own := RX11) (by decide) rfl (Nat.le_of_ble_eq_true rfl) ?_
  intro p e s m args below meth c A ls C hr hlocks hnm hAe G hl
  refine zHide (fun Q9 hQ9 => ?_)
  have hx := C.1
  have hb := C.2.1
  have hl : lv_has ls 2 [(0, .ref xo), (1, .int n)] := hl
  refine lv_iload_n hx hb dX11_end_0 rfl (lv_at hl 1 rfl) ?_
  refine lv_if_lt (tgt := 15) hx hb dX11_end_1 (by decide) (fun c_1 => ?_) (fun c_1 => ?_)
  · have c_1n : n.toInt < (0 : Int) := (fa_lt _ _).mp c_1
    refine lv_iconst (v := (-1)) hx hb dX11_end_15 (by decide) ?_
    exact z_back hQ9 (z_iret C hr hlocks G (Nat.le_of_ble_eq_true rfl) (Nat.le_of_ble_eq_true rfl) dX11_end_16 ⟨wt, ln, rfl, ht, (Or.inl ⟨by omega, by decide, rfl⟩)⟩)
  · have c_1n : ¬ n.toInt < (0 : Int) := fun q => c_1 ((fa_lt _ _).mpr q)
    refine lv_iload_n hx hb dX11_end_4 rfl (lv_at hl 1 rfl) ?_
    refine lv_aload_n hx hb dX11_end_5 rfl (lv_at hl 0 rfl) ?_
    refine z_get C G clX11 0 rfl 0 (by decide) m_fl_RX11_10 rfl dX11_end_6 ?_
    refine zEx8 ht ?_
    intro a1_2 a2_3 a3_4 a4_5 a5_6 q1_7 q2_8 q3_9
    refine zCu7 ?_
    intro hbs9 h_10 h_11 h_12 h_13 h_14 h_15
    clear ht
    subst hbs9
    have G : zS T A s.heap s [[zO10 xo t im mk rd po co tr wa wb_ fi cd], [zO8 t a1_2 ln fl pl a2_3 a3_4 a4_5 a5_6], [zAr T 1 a1_2 600 ft], [zAr T 0 a2_3 3 fk], [zArq T 3 a3_4 2 q1_7], [zArq T 4 a4_5 2 q2_8], [zArq T 5 a5_6 2 q3_9]] _ _ := G.re rfl
    refine z_get C G clX9 1 rfl 1 (by decide) m_fl_RX11_73 rfl dX11_end_9 ?_
    refine lv_icmp_le (tgt := 17) hx hb dX11_end_12 (by decide) (fun c_16 => ?_) (fun c_16 => ?_)
    · have c_16n : n.toInt ≤ ln.toInt := (fa_le _ _).mp c_16
      refine lv_aload_n hx hb dX11_end_17 rfl (lv_at hl 0 rfl) ?_
      refine z_get C G clX11 0 rfl 0 (by decide) m_fl_RX11_10 rfl dX11_end_18 ?_
      refine lv_iload_n hx hb dX11_end_21 rfl (lv_at hl 1 rfl) ?_
      refine z_put C G clX9 1 rfl 1 (by decide) m_fl_RX11_73 rfl rfl rfl (Nat.le_of_ble_eq_true rfl) dX11_end_22 (fun H locs G => ?_)
      have G : zS T A s.heap s [[zO10 xo t im mk rd po co tr wa wb_ fi cd], [zO8 t a1_2 n fl pl a2_3 a3_4 a4_5 a5_6], [zAr T 1 a1_2 600 ft], [zAr T 0 a2_3 3 fk], [zArq T 3 a3_4 2 q1_7], [zArq T 4 a4_5 2 q2_8], [zArq T 5 a5_6 2 q3_9]] _ _ := G
      refine lv_iload_n hx hb dX11_end_25 rfl (lv_at hl 1 rfl) ?_
      have hw_17 : bTold T t l0 l1 d0 d1 g0 g1 n fl pl ft fk [zO8 t a1_2 n fl pl a2_3 a3_4 a4_5 a5_6, zAr T 1 a1_2 600 ft, zAr T 0 a2_3 3 fk, zArq T 3 a3_4 2 q1_7, zArq T 4 a4_5 2 q2_8, zArq T 5 a5_6 2 q3_9] := ⟨a1_2, a2_3, a3_4, a4_5, a5_6, q1_7, q2_8, q3_9, rfl, h_10, h_11, h_12, h_13, h_14, h_15⟩
      have G : zS T A s.heap s [[zO10 xo t im mk rd po co tr wa wb_ fi cd], [zO8 t a1_2 n fl pl a2_3 a3_4 a4_5 a5_6, zAr T 1 a1_2 600 ft, zAr T 0 a2_3 3 fk, zArq T 3 a3_4 2 q1_7, zArq T 4 a4_5 2 q2_8, zArq T 5 a5_6 2 q3_9]] _ _ := G.re rfl
      exact z_back hQ9 (z_iret C hr hlocks G (Nat.le_of_ble_eq_true rfl) (Nat.le_of_ble_eq_true rfl) dX11_end_26 ⟨([zO8 t a1_2 n fl pl a2_3 a3_4 a4_5 a5_6, zAr T 1 a1_2 600 ft, zAr T 0 a2_3 3 fk, zArq T 3 a3_4 2 q1_7, zArq T 4 a4_5 2 q2_8, zArq T 5 a5_6 2 q3_9]), n, rfl, hw_17, (Or.inr ⟨by omega, rfl, rfl⟩)⟩)
    · have c_16n : ¬ n.toInt ≤ ln.toInt := fun q => c_16 ((fa_le _ _).mpr q)
      refine lv_iconst (v := (-1)) hx hb dX11_end_15 (by decide) ?_
      have hw_18 : bTold T t l0 l1 d0 d1 g0 g1 ln fl pl ft fk [zO8 t a1_2 ln fl pl a2_3 a3_4 a4_5 a5_6, zAr T 1 a1_2 600 ft, zAr T 0 a2_3 3 fk, zArq T 3 a3_4 2 q1_7, zArq T 4 a4_5 2 q2_8, zArq T 5 a5_6 2 q3_9] := ⟨a1_2, a2_3, a3_4, a4_5, a5_6, q1_7, q2_8, q3_9, rfl, h_10, h_11, h_12, h_13, h_14, h_15⟩
      have G : zS T A s.heap s [[zO10 xo t im mk rd po co tr wa wb_ fi cd], [zO8 t a1_2 ln fl pl a2_3 a3_4 a4_5 a5_6, zAr T 1 a1_2 600 ft, zAr T 0 a2_3 3 fk, zArq T 3 a3_4 2 q1_7, zArq T 4 a4_5 2 q2_8, zArq T 5 a5_6 2 q3_9]] _ _ := G.re rfl
      exact z_back hQ9 (z_iret C hr hlocks G (Nat.le_of_ble_eq_true rfl) (Nat.le_of_ble_eq_true rfl) dX11_end_16 ⟨([zO8 t a1_2 ln fl pl a2_3 a3_4 a4_5 a5_6, zAr T 1 a1_2 600 ft, zAr T 0 a2_3 3 fk, zArq T 3 a3_4 2 q1_7, zArq T 4 a4_5 2 q2_8, zArq T 5 a5_6 2 q3_9]), ln, rfl, hw_18, (Or.inl ⟨by omega, by decide, rfl⟩)⟩)
set_option maxHeartbeats 4000000 in
set_option maxRecDepth 100000 in
/-- c_fault -/
theorem c_fault (l : Launch) (T : zTy) (xo : Nat) (t : Nat) (im : Nat) (mk : Nat) (rd : Nat) (po : Nat) (co : Nat) (tr : Nat) (wa : Nat) (wb_ : Nat) (fi : Nat) (cd : Nat) (l0 : Nat) (l1 : Nat) (d0 : Nat) (d1 : Nat) (g0 : Nat) (g1 : Nat) (ln : Int32) (fl : Int32) (pl : Int32) (ft : Nat → Int32) (fk : Nat → Int32) (wt : va_W) (w_ : Int32) (ht : bTold T t l0 l1 d0 d1 g0 g1 ln fl pl ft fk wt) (hK : zKT fk) : zMi l T yX11_fault cX11_fault 2 (some .int) 1 0 0 [.ref xo, .int w_] [[zO10 xo t im mk rd po co tr wa wb_ fi cd], wt] (fun (r : Int32) bs => bs = [[zO10 xo t im mk rd po co tr wa wb_ fi cd], wt] ∧ (w_.toInt = 0 ∧ r = fl ∨ w_.toInt = 1 ∧ r = pl ∨ (w_.toInt ≠ 0 ∧ w_.toInt ≠ 1) ∧ r = -1)) := by
  refine zMi_of (own := RX11) (by decide) rfl (Nat.le_of_ble_eq_true rfl) ?_
  intro p e s m args below meth c A ls C hr hlocks hnm hAe G hl
  refine zHide (fun Q9 hQ9 => ?_)
  have hx := C.1
  have hb := C.2.1
  have hl : lv_has ls 2 [(0, .ref xo), (1, .int w_)] := hl
  refine lv_iload_n hx hb dX11_fault_0 rfl (lv_at hl 1 rfl) ?_
  refine lv_if_ne (tgt := 14) hx hb dX11_fault_1 (by decide) (fun c_1 => ?_) (fun c_1 => ?_)
  · have c_1n : ¬ w_.toInt = (0 : Int) := fun q => c_1 ((fa_eq _ _).mpr q)
    refine lv_iload_n hx hb dX11_fault_14 rfl (lv_at hl 1 rfl) ?_
    refine lv_iconst (v := 1) hx hb dX11_fault_15 (by decide) ?_
    refine lv_icmp_ne (tgt := 29) hx hb dX11_fault_16 (by decide) (fun c_2 => ?_) (fun c_2 => ?_)
    · have c_2n : ¬ w_.toInt = (1 : Int) := fun q => c_2 ((fa_eq _ _).mpr q)
      refine lv_iconst (v := (-1)) hx hb dX11_fault_29 (by decide) ?_
      exact z_back hQ9 (z_iret C hr hlocks G (Nat.le_of_ble_eq_true rfl) (Nat.le_of_ble_eq_true rfl) dX11_fault_30 ⟨rfl, (Or.inr (Or.inr ⟨by omega, rfl⟩))⟩)
    · have c_2n : w_.toInt = (1 : Int) := (fa_eq _ _).mp c_2
      refine lv_aload_n hx hb dX11_fault_19 rfl (lv_at hl 0 rfl) ?_
      refine z_get C G clX11 0 rfl 0 (by decide) m_fl_RX11_10 rfl dX11_fault_20 ?_
      refine zEx8 ht ?_
      intro a1_3 a2_4 a3_5 a4_6 a5_7 q1_8 q2_9 q3_10
      refine zCu7 ?_
      intro hbs9 h_11 h_12 h_13 h_14 h_15 h_16
      clear ht
      subst hbs9
      have G : zS T A s.heap s [[zO10 xo t im mk rd po co tr wa wb_ fi cd], [zO8 t a1_3 ln fl pl a2_4 a3_5 a4_6 a5_7], [zAr T 1 a1_3 600 ft], [zAr T 0 a2_4 3 fk], [zArq T 3 a3_5 2 q1_8], [zArq T 4 a4_6 2 q2_9], [zArq T 5 a5_7 2 q3_10]] _ _ := G.re rfl
      refine z_get C G clX9 1 rfl 3 (by decide) m_fl_RX11_88 rfl dX11_fault_23 ?_
      refine lv_goto (tgt := 30) hx hb dX11_fault_26 (by decide) ?_
      have hw_17 : bTold T t l0 l1 d0 d1 g0 g1 ln fl pl ft fk [zO8 t a1_3 ln fl pl a2_4 a3_5 a4_6 a5_7, zAr T 1 a1_3 600 ft, zAr T 0 a2_4 3 fk, zArq T 3 a3_5 2 q1_8, zArq T 4 a4_6 2 q2_9, zArq T 5 a5_7 2 q3_10] := ⟨a1_3, a2_4, a3_5, a4_6, a5_7, q1_8, q2_9, q3_10, rfl, h_11, h_12, h_13, h_14, h_15, h_16⟩
      have G : zS T A s.heap s [[zO10 xo t im mk rd po co tr wa wb_ fi cd], [zO8 t a1_3 ln fl pl a2_4 a3_5 a4_6 a5_7, zAr T 1 a1_3 600 ft, zAr T 0 a2_4 3 fk, zArq T 3 a3_5 2 q1_8, zArq T 4 a4_6 2 q2_9, zArq T 5 a5_7 2 q3_10]] _ _ := G.re rfl
      exact z_back hQ9 (z_iret C hr hlocks G (Nat.le_of_ble_eq_true rfl) (Nat.le_of_ble_eq_true rfl) dX11_fault_30 ⟨rfl, (Or.inr (Or.inl ⟨by omega, rfl⟩))⟩)
  · have c_1n : w_.toInt = (0 : Int) := (fa_eq _ _).mp c_1
    refine lv_aload_n hx hb dX11_fault_4 rfl (lv_at hl 0 rfl) ?_
    refine z_get C G clX11 0 rfl 0 (by decide) m_fl_RX11_10 rfl dX11_fault_5 ?_
    refine zEx8 ht ?_
    intro a1_18 a2_19 a3_20 a4_21 a5_22 q1_23 q2_24 q3_25
    refine zCu7 ?_
    intro hbs9 h_26 h_27 h_28 h_29 h_30 h_31
    clear ht
    subst hbs9
    have G : zS T A s.heap s [[zO10 xo t im mk rd po co tr wa wb_ fi cd], [zO8 t a1_18 ln fl pl a2_19 a3_20 a4_21 a5_22], [zAr T 1 a1_18 600 ft], [zAr T 0 a2_19 3 fk], [zArq T 3 a3_20 2 q1_23], [zArq T 4 a4_21 2 q2_24], [zArq T 5 a5_22 2 q3_25]] _ _ := G.re rfl
    refine z_get C G clX9 1 rfl 2 (by decide) m_fl_RX11_85 rfl dX11_fault_8 ?_
    refine lv_goto (tgt := 30) hx hb dX11_fault_11 (by decide) ?_
    have hw_32 : bTold T t l0 l1 d0 d1 g0 g1 ln fl pl ft fk [zO8 t a1_18 ln fl pl a2_19 a3_20 a4_21 a5_22, zAr T 1 a1_18 600 ft, zAr T 0 a2_19 3 fk, zArq T 3 a3_20 2 q1_23, zArq T 4 a4_21 2 q2_24, zArq T 5 a5_22 2 q3_25] := ⟨a1_18, a2_19, a3_20, a4_21, a5_22, q1_23, q2_24, q3_25, rfl, h_26, h_27, h_28, h_29, h_30, h_31⟩
    have G : zS T A s.heap s [[zO10 xo t im mk rd po co tr wa wb_ fi cd], [zO8 t a1_18 ln fl pl a2_19 a3_20 a4_21 a5_22, zAr T 1 a1_18 600 ft, zAr T 0 a2_19 3 fk, zArq T 3 a3_20 2 q1_23, zArq T 4 a4_21 2 q2_24, zArq T 5 a5_22 2 q3_25]] _ _ := G.re rfl
    exact z_back hQ9 (z_iret C hr hlocks G (Nat.le_of_ble_eq_true rfl) (Nat.le_of_ble_eq_true rfl) dX11_fault_30 ⟨rfl, (Or.inl ⟨by omega, rfl⟩)⟩)
set_option maxHeartbeats 4000000 in
set_option maxRecDepth 100000 in
/-- c_count -/
theorem c_count (l : Launch) (T : zTy) (xo : Nat) (t : Nat) (im : Nat) (mk : Nat) (rd : Nat) (po : Nat) (co : Nat) (tr : Nat) (wa : Nat) (wb_ : Nat) (fi : Nat) (cd : Nat) (l0 : Nat) (l1 : Nat) (d0 : Nat) (d1 : Nat) (g0 : Nat) (g1 : Nat) (ln : Int32) (fl : Int32) (pl : Int32) (ft : Nat → Int32) (fk : Nat → Int32) (wt : va_W) (w_ : Int32) (ht : bTold T t l0 l1 d0 d1 g0 g1 ln fl pl ft fk wt) (hK : zKT fk) : zMi l T yX11_count cX11_count 2 (some .int) 1 0 0 [.ref xo, .int w_] [[zO10 xo t im mk rd po co tr wa wb_ fi cd], wt] (fun (r : Int32) bs => bs = [[zO10 xo t im mk rd po co tr wa wb_ fi cd], wt]) := by
  refine zMi_of (own := RX11) (by decide) rfl (Nat.le_of_ble_eq_true rfl) ?_
  intro p e s m args below meth c A ls C hr hlocks hnm hAe G hl
  refine zHide (fun Q9 hQ9 => ?_)
  have hx := C.1
  have hb := C.2.1
  have hl : lv_has ls 2 [(0, .ref xo), (1, .int w_)] := hl
  refine lv_iload_n hx hb dX11_count_0 rfl (lv_at hl 1 rfl) ?_
  refine lv_if_lt (tgt := 21) hx hb dX11_count_1 (by decide) (fun c_1 => ?_) (fun c_1 => ?_)
  · have c_1n : w_.toInt < (0 : Int) := (fa_lt _ _).mp c_1
    refine lv_bipush (v := (-2)) hx hb dX11_count_21 (by decide) ?_
    exact z_back hQ9 (z_iret C hr hlocks G (Nat.le_of_ble_eq_true rfl) (Nat.le_of_ble_eq_true rfl) dX11_count_23 rfl)
  · have c_1n : ¬ w_.toInt < (0 : Int) := fun q => c_1 ((fa_lt _ _).mpr q)
    refine lv_iload_n hx hb dX11_count_4 rfl (lv_at hl 1 rfl) ?_
    refine lv_iconst (v := 2) hx hb dX11_count_5 (by decide) ?_
    refine lv_icmp_gt (tgt := 21) hx hb dX11_count_6 (by decide) (fun c_2 => ?_) (fun c_2 => ?_)
    · have c_2n : (2 : Int) < w_.toInt := (fa_lt _ _).mp c_2
      refine lv_bipush (v := (-2)) hx hb dX11_count_21 (by decide) ?_
      exact z_back hQ9 (z_iret C hr hlocks G (Nat.le_of_ble_eq_true rfl) (Nat.le_of_ble_eq_true rfl) dX11_count_23 rfl)
    · have c_2n : ¬ (2 : Int) < w_.toInt := fun q => c_2 ((fa_lt _ _).mpr q)
      refine lv_aload_n hx hb dX11_count_9 rfl (lv_at hl 0 rfl) ?_
      refine z_get C G clX11 0 rfl 0 (by decide) m_fl_RX11_10 rfl dX11_count_10 ?_
      refine zEx8 ht ?_
      intro a1_3 a2_4 a3_5 a4_6 a5_7 q1_8 q2_9 q3_10
      refine zCu7 ?_
      intro hbs9 h_11 h_12 h_13 h_14 h_15 h_16
      clear ht
      subst hbs9
      have G : zS T A s.heap s [[zO10 xo t im mk rd po co tr wa wb_ fi cd], [zO8 t a1_3 ln fl pl a2_4 a3_5 a4_6 a5_7], [zAr T 1 a1_3 600 ft], [zAr T 0 a2_4 3 fk], [zArq T 3 a3_5 2 q1_8], [zArq T 4 a4_6 2 q2_9], [zArq T 5 a5_7 2 q3_10]] _ _ := G.re rfl
      refine z_get C G clX9 1 rfl 4 (by decide) m_fl_RX11_114 rfl dX11_count_13 ?_
      refine lv_iload_n hx hb dX11_count_16 rfl (lv_at hl 1 rfl) ?_
      refine z_ild C G 3 rfl (vp_in_iff.mpr ⟨by omega, by omega⟩) dX11_count_17 ?_
      refine lv_topi (fun v_17 ev_17 => ?_)
      subst ev_17
      refine lv_goto (tgt := 23) hx hb dX11_count_18 (by decide) ?_
      have hw_18 : bTold T t l0 l1 d0 d1 g0 g1 ln fl pl ft fk [zO8 t a1_3 ln fl pl a2_4 a3_5 a4_6 a5_7, zAr T 1 a1_3 600 ft, zAr T 0 a2_4 3 fk, zArq T 3 a3_5 2 q1_8, zArq T 4 a4_6 2 q2_9, zArq T 5 a5_7 2 q3_10] := ⟨a1_3, a2_4, a3_5, a4_6, a5_7, q1_8, q2_9, q3_10, rfl, h_11, h_12, h_13, h_14, h_15, h_16⟩
      have G : zS T A s.heap s [[zO10 xo t im mk rd po co tr wa wb_ fi cd], [zO8 t a1_3 ln fl pl a2_4 a3_5 a4_6 a5_7, zAr T 1 a1_3 600 ft, zAr T 0 a2_4 3 fk, zArq T 3 a3_5 2 q1_8, zArq T 4 a4_6 2 q2_9, zArq T 5 a5_7 2 q3_10]] _ _ := G.re rfl
      exact z_back hQ9 (z_iret C hr hlocks G (Nat.le_of_ble_eq_true rfl) (Nat.le_of_ble_eq_true rfl) dX11_count_23 rfl)
set_option maxHeartbeats 4000000 in
set_option maxRecDepth 100000 in
/-- c_land -/
theorem c_land (l : Launch) (T : zTy) (xo : Nat) (t : Nat) (im : Nat) (mk : Nat) (rd : Nat) (po : Nat) (co : Nat) (tr : Nat) (wa : Nat) (wb_ : Nat) (fi : Nat) (cd : Nat) (l0 : Nat) (l1 : Nat) (d0 : Nat) (d1 : Nat) (g0 : Nat) (g1 : Nat) (ln : Int32) (fl : Int32) (pl : Int32) (ft : Nat → Int32) (fk : Nat → Int32) (wt : va_W) (cr0_ : Int32) (inn0_ : Int32) (k10_ : Nat → Int32) (k20_ : Nat → Int32) (k30_ : Nat → Int32) (k40_ : Nat → Int32) (z0_ : va_W) (cr1_ : Int32) (inn1_ : Int32) (k11_ : Nat → Int32) (k21_ : Nat → Int32) (k31_ : Nat → Int32) (k41_ : Nat → Int32) (z1_ : va_W) (i1 : Int32) (w_ : Int32) (ht : bTold T t l0 l1 d0 d1 g0 g1 ln fl pl ft fk wt) (hK : zKT fk) (hz0_ : bLand T l0 cr0_ inn0_ k10_ k20_ k30_ k40_ z0_) (hI0_ : zLI cr0_ k10_ k30_) (hz1_ : bLand T l1 cr1_ inn1_ k11_ k21_ k31_ k41_ z1_) (hI1_ : zLI cr1_ k11_ k31_) : zMi l T yX11_land cX11_land 4 (some .int) 5 0 0 [.ref xo, .int i1, .int w_] [[zO10 xo t im mk rd po co tr wa wb_ fi cd], wt, z0_, z1_] (fun (r : Int32) bs => bs = [[zO10 xo t im mk rd po co tr wa wb_ fi cd], wt, z0_, z1_]) := by
  refine zMi_of (own := RX11) (by decide) rfl (Nat.le_of_ble_eq_true rfl) ?_
  intro p e s m args below meth c A ls C hr hlocks hnm hAe G hl
  refine zHide (fun Q9 hQ9 => ?_)
  have hx := C.1
  have hb := C.2.1
  have hl : lv_has ls 4 [(0, .ref xo), (1, .int i1), (2, .int w_)] := hl
  refine lv_aload_n hx hb dX11_land_0 rfl (lv_at hl 0 rfl) ?_
  refine z_get C G clX11 0 rfl 0 (by decide) m_fl_RX11_10 rfl dX11_land_1 ?_
  refine lv_iload_n hx hb dX11_land_4 rfl (lv_at hl 1 rfl) ?_
  refine z_Vq (bc := [wt]) (br := [[zO10 xo t im mk rd po co tr wa wb_ fi cd], z0_, z1_]) (As := [.int i1]) (rest := []) C G (c_landAt l T t l0 l1 d0 d1 g0 g1 ln fl pl ft fk wt i1 ht) (kV_RX11_121 C.2.2.2.2 (Nat.le_of_ble_eq_true rfl) (Nat.le_of_ble_eq_true rfl)) [1] [1] rfl rfl (ci := 8) (qc := (RX9, TX9, 8)) rfl rfl (List.mem_flatten.mpr ⟨_, List.mem_of_getElem? (i := 0) rfl, (bTold_mem ht).choose_spec⟩) rfl rfl hl.1 dX11_land_5 (Nat.le_of_ble_eq_true rfl) (Nat.le_of_ble_eq_true rfl) (fun r_2 b1 H locs hw G => ?_)
  refine zAn2 hw ?_
  intro hbs9 hc_1
  clear hw
  subst hbs9
  have G : zS T A s.heap s [[zO10 xo t im mk rd po co tr wa wb_ fi cd], z0_, z1_, wt] _ _ := G
  rcases hc_1 with ⟨rfl, h_3⟩ | ⟨rfl, h_4, h_5⟩ | ⟨rfl, h_6, h_7⟩
  · have h_3 : (i1.toInt < 0 ∨ (fk 0).toInt ≤ i1.toInt ∨ 2 ≤ i1.toInt) := h_3
    refine lv_astore_nN (lv' := [(3, .null), (0, .ref xo), (1, .int i1), (2, .int w_)]) hx hb dX11_land_8 rfl hl (by decide) rfl (fun ls hl => ?_)
    refine lv_aload_nN hx hb dX11_land_9 rfl (lv_at hl 0 rfl) ?_
    refine lv_ifnonnullN hx hb dX11_land_10 ?_
    refine lv_iconst (v := (-1)) hx hb dX11_land_13 (by decide) ?_
    refine lv_goto (tgt := 22) hx hb dX11_land_14 (by decide) ?_
    have G := G.sub (bs' := [[zO10 xo t im mk rd po co tr wa wb_ fi cd], wt, z0_, z1_]) [0, 3, 1, 2] rfl
    exact z_back hQ9 (z_iret C hr hlocks G (Nat.le_of_ble_eq_true rfl) (Nat.le_of_ble_eq_true rfl) dX11_land_22 rfl)
  · have h_4 : i1.toInt = 0 := h_4
    have h_5 : 0 < (fk 0).toInt := h_5
    refine lv_astore_n (lv' := [(3, .ref l0), (0, .ref xo), (1, .int i1), (2, .int w_)]) hx hb dX11_land_8 rfl hl (by decide) rfl (fun ls hl => ?_)
    refine lv_aload_n hx hb dX11_land_9 rfl (lv_at hl 0 rfl) ?_
    refine lv_ifnonnull (tgt := 17) hx hb dX11_land_10 (by decide) ?_
    refine lv_aload_n hx hb dX11_land_17 rfl (lv_at hl 0 rfl) ?_
    refine lv_iload_n hx hb dX11_land_18 rfl (lv_at hl 3 rfl) ?_
    refine z_Vi (bc := [z0_]) (br := [[zO10 xo t im mk rd po co tr wa wb_ fi cd], z1_, wt]) (As := [.int w_]) (rest := []) C G (c_Land_told l T l0 cr0_ inn0_ k10_ k20_ k30_ k40_ z0_ w_ hz0_) (kV_RX11_125 C.2.2.2.2 (Nat.le_of_ble_eq_true rfl) (Nat.le_of_ble_eq_true rfl)) [1] [1] rfl rfl (ci := 4) (qc := (RX4, TX4, 6)) rfl rfl (List.mem_flatten.mpr ⟨_, List.mem_of_getElem? (i := 0) rfl, (bLand_mem hz0_).choose_spec⟩) rfl rfl hl.1 dX11_land_19 (Nat.le_of_ble_eq_true rfl) (Nat.le_of_ble_eq_true rfl) (fun r_8 b1 H locs hw G => ?_)
    obtain rfl := hw
    have G : zS T A s.heap s [[zO10 xo t im mk rd po co tr wa wb_ fi cd], z1_, wt, z0_] _ _ := G
    have G := G.sub (bs' := [[zO10 xo t im mk rd po co tr wa wb_ fi cd], wt, z0_, z1_]) [0, 2, 3, 1] rfl
    exact z_back hQ9 (z_iret C hr hlocks G (Nat.le_of_ble_eq_true rfl) (Nat.le_of_ble_eq_true rfl) dX11_land_22 rfl)
  · have h_6 : i1.toInt = 1 := h_6
    have h_7 : 1 < (fk 0).toInt := h_7
    refine lv_astore_n (lv' := [(3, .ref l1), (0, .ref xo), (1, .int i1), (2, .int w_)]) hx hb dX11_land_8 rfl hl (by decide) rfl (fun ls hl => ?_)
    refine lv_aload_n hx hb dX11_land_9 rfl (lv_at hl 0 rfl) ?_
    refine lv_ifnonnull (tgt := 17) hx hb dX11_land_10 (by decide) ?_
    refine lv_aload_n hx hb dX11_land_17 rfl (lv_at hl 0 rfl) ?_
    refine lv_iload_n hx hb dX11_land_18 rfl (lv_at hl 3 rfl) ?_
    refine z_Vi (bc := [z1_]) (br := [[zO10 xo t im mk rd po co tr wa wb_ fi cd], z0_, wt]) (As := [.int w_]) (rest := []) C G (c_Land_told l T l1 cr1_ inn1_ k11_ k21_ k31_ k41_ z1_ w_ hz1_) (kV_RX11_125 C.2.2.2.2 (Nat.le_of_ble_eq_true rfl) (Nat.le_of_ble_eq_true rfl)) [2] [2] rfl rfl (ci := 4) (qc := (RX4, TX4, 6)) rfl rfl (List.mem_flatten.mpr ⟨_, List.mem_of_getElem? (i := 0) rfl, (bLand_mem hz1_).choose_spec⟩) rfl rfl hl.1 dX11_land_19 (Nat.le_of_ble_eq_true rfl) (Nat.le_of_ble_eq_true rfl) (fun r_9 b1 H locs hw G => ?_)
    obtain rfl := hw
    have G : zS T A s.heap s [[zO10 xo t im mk rd po co tr wa wb_ fi cd], z0_, wt, z1_] _ _ := G
    have G := G.sub (bs' := [[zO10 xo t im mk rd po co tr wa wb_ fi cd], wt, z0_, z1_]) [0, 2, 1, 3] rfl
    exact z_back hQ9 (z_iret C hr hlocks G (Nat.le_of_ble_eq_true rfl) (Nat.le_of_ble_eq_true rfl) dX11_land_22 rfl)
set_option maxHeartbeats 4000000 in
set_option maxRecDepth 100000 in
/-- c_deed -/
theorem c_deed (l : Launch) (T : zTy) (xo : Nat) (t : Nat) (im : Nat) (mk : Nat) (rd : Nat) (po : Nat) (co : Nat) (tr : Nat) (wa : Nat) (wb_ : Nat) (fi : Nat) (cd : Nat) (l0 : Nat) (l1 : Nat) (d0 : Nat) (d1 : Nat) (g0 : Nat) (g1 : Nat) (ln : Int32) (fl : Int32) (pl : Int32) (ft : Nat → Int32) (fk : Nat → Int32) (wt : va_W) (dd0_ : Int32) (p10_ : Nat → Int32) (p20_ : Nat → Int32) (p30_ : Nat → Int32) (wd0_ : va_W) (dd1_ : Int32) (p11_ : Nat → Int32) (p21_ : Nat → Int32) (p31_ : Nat → Int32) (wd1_ : va_W) (i1 : Int32) (k_ : Int32) (w_ : Int32) (ht : bTold T t l0 l1 d0 d1 g0 g1 ln fl pl ft fk wt) (hK : zKT fk) (hd0_ : bDay T d0 dd0_ p10_ p20_ p30_ wd0_) (hd1_ : bDay T d1 dd1_ p11_ p21_ p31_ wd1_) : zMi l T yX11_deed cX11_deed 5 (some .int) 3 0 0 [.ref xo, .int i1, .int k_, .int w_] [[zO10 xo t im mk rd po co tr wa wb_ fi cd], wt, wd0_, wd1_] (fun (r : Int32) bs => bs = [[zO10 xo t im mk rd po co tr wa wb_ fi cd], wt, wd0_, wd1_]) := by
  refine zMi_of (own := RX11) (by decide) rfl (Nat.le_of_ble_eq_true rfl) ?_
  intro p e s m args below meth c A ls C hr hlocks hnm hAe G hl
  refine zHide (fun Q9 hQ9 => ?_)
  have hx := C.1
  have hb := C.2.1
  have hl : lv_has ls 5 [(0, .ref xo), (1, .int i1), (2, .int k_), (3, .int w_)] := hl
  refine lv_aload_n hx hb dX11_deed_0 rfl (lv_at hl 0 rfl) ?_
  refine z_get C G clX11 0 rfl 0 (by decide) m_fl_RX11_10 rfl dX11_deed_1 ?_
  refine lv_iload_n hx hb dX11_deed_4 rfl (lv_at hl 1 rfl) ?_
  refine z_Vq (bc := [wt]) (br := [[zO10 xo t im mk rd po co tr wa wb_ fi cd], wd0_, wd1_]) (As := [.int i1]) (rest := []) C G (c_dayAt l T t l0 l1 d0 d1 g0 g1 ln fl pl ft fk wt i1 ht) (kV_RX11_130 C.2.2.2.2 (Nat.le_of_ble_eq_true rfl) (Nat.le_of_ble_eq_true rfl)) [1] [1] rfl rfl (ci := 8) (qc := (RX9, TX9, 8)) rfl rfl (List.mem_flatten.mpr ⟨_, List.mem_of_getElem? (i := 0) rfl, (bTold_mem ht).choose_spec⟩) rfl rfl hl.1 dX11_deed_5 (Nat.le_of_ble_eq_true rfl) (Nat.le_of_ble_eq_true rfl) (fun r_2 b1 H locs hw G => ?_)
  refine zAn2 hw ?_
  intro hbs9 hc_1
  clear hw
  subst hbs9
  have G : zS T A s.heap s [[zO10 xo t im mk rd po co tr wa wb_ fi cd], wd0_, wd1_, wt] _ _ := G
  rcases hc_1 with ⟨rfl, h_3⟩ | ⟨rfl, h_4, h_5⟩ | ⟨rfl, h_6, h_7⟩
  · have h_3 : (i1.toInt < 0 ∨ (fk 1).toInt ≤ i1.toInt ∨ 2 ≤ i1.toInt) := h_3
    refine lv_astoreN (lv' := [(4, .null), (0, .ref xo), (1, .int i1), (2, .int k_), (3, .int w_)]) hx hb dX11_deed_8 hl (by decide) rfl (fun ls hl => ?_)
    refine lv_aloadN hx hb dX11_deed_10 (lv_at hl 0 rfl) ?_
    refine lv_ifnonnullN hx hb dX11_deed_12 ?_
    refine lv_bipush (v := (-2)) hx hb dX11_deed_15 (by decide) ?_
    refine lv_goto (tgt := 27) hx hb dX11_deed_17 (by decide) ?_
    have G := G.sub (bs' := [[zO10 xo t im mk rd po co tr wa wb_ fi cd], wt, wd0_, wd1_]) [0, 3, 1, 2] rfl
    exact z_back hQ9 (z_iret C hr hlocks G (Nat.le_of_ble_eq_true rfl) (Nat.le_of_ble_eq_true rfl) dX11_deed_27 rfl)
  · have h_4 : i1.toInt = 0 := h_4
    have h_5 : 0 < (fk 1).toInt := h_5
    refine lv_astore (lv' := [(4, .ref d0), (0, .ref xo), (1, .int i1), (2, .int k_), (3, .int w_)]) hx hb dX11_deed_8 hl (by decide) rfl (fun ls hl => ?_)
    refine lv_aload hx hb dX11_deed_10 (lv_at hl 0 rfl) ?_
    refine lv_ifnonnull (tgt := 20) hx hb dX11_deed_12 (by decide) ?_
    refine lv_aload hx hb dX11_deed_20 (lv_at hl 0 rfl) ?_
    refine lv_iload_n hx hb dX11_deed_22 rfl (lv_at hl 3 rfl) ?_
    refine lv_iload_n hx hb dX11_deed_23 rfl (lv_at hl 4 rfl) ?_
    refine z_Vi (bc := [wd0_]) (br := [[zO10 xo t im mk rd po co tr wa wb_ fi cd], wd1_, wt]) (As := [.int k_, .int w_]) (rest := []) C G (c_Day_told l T d0 dd0_ p10_ p20_ p30_ wd0_ k_ w_ hd0_) (kV_RX11_134 C.2.2.2.2 (Nat.le_of_ble_eq_true rfl) (Nat.le_of_ble_eq_true rfl)) [1] [1] rfl rfl (ci := 2) (qc := (RX2, TX2, 4)) rfl rfl (List.mem_flatten.mpr ⟨_, List.mem_of_getElem? (i := 0) rfl, (bDay_mem hd0_).choose_spec⟩) rfl rfl hl.1 dX11_deed_24 (Nat.le_of_ble_eq_true rfl) (Nat.le_of_ble_eq_true rfl) (fun r_9 b1 H locs hw G => ?_)
    refine zAn2 hw ?_
    intro hbs9 h_8
    clear hw
    subst hbs9
    have G : zS T A s.heap s [[zO10 xo t im mk rd po co tr wa wb_ fi cd], wd1_, wt, wd0_] _ _ := G
    subst h_8
    have G := G.sub (bs' := [[zO10 xo t im mk rd po co tr wa wb_ fi cd], wt, wd0_, wd1_]) [0, 2, 3, 1] rfl
    exact z_back hQ9 (z_iret C hr hlocks G (Nat.le_of_ble_eq_true rfl) (Nat.le_of_ble_eq_true rfl) dX11_deed_27 rfl)
  · have h_6 : i1.toInt = 1 := h_6
    have h_7 : 1 < (fk 1).toInt := h_7
    refine lv_astore (lv' := [(4, .ref d1), (0, .ref xo), (1, .int i1), (2, .int k_), (3, .int w_)]) hx hb dX11_deed_8 hl (by decide) rfl (fun ls hl => ?_)
    refine lv_aload hx hb dX11_deed_10 (lv_at hl 0 rfl) ?_
    refine lv_ifnonnull (tgt := 20) hx hb dX11_deed_12 (by decide) ?_
    refine lv_aload hx hb dX11_deed_20 (lv_at hl 0 rfl) ?_
    refine lv_iload_n hx hb dX11_deed_22 rfl (lv_at hl 3 rfl) ?_
    refine lv_iload_n hx hb dX11_deed_23 rfl (lv_at hl 4 rfl) ?_
    refine z_Vi (bc := [wd1_]) (br := [[zO10 xo t im mk rd po co tr wa wb_ fi cd], wd0_, wt]) (As := [.int k_, .int w_]) (rest := []) C G (c_Day_told l T d1 dd1_ p11_ p21_ p31_ wd1_ k_ w_ hd1_) (kV_RX11_134 C.2.2.2.2 (Nat.le_of_ble_eq_true rfl) (Nat.le_of_ble_eq_true rfl)) [2] [2] rfl rfl (ci := 2) (qc := (RX2, TX2, 4)) rfl rfl (List.mem_flatten.mpr ⟨_, List.mem_of_getElem? (i := 0) rfl, (bDay_mem hd1_).choose_spec⟩) rfl rfl hl.1 dX11_deed_24 (Nat.le_of_ble_eq_true rfl) (Nat.le_of_ble_eq_true rfl) (fun r_11 b1 H locs hw G => ?_)
    refine zAn2 hw ?_
    intro hbs9 h_10
    clear hw
    subst hbs9
    have G : zS T A s.heap s [[zO10 xo t im mk rd po co tr wa wb_ fi cd], wd0_, wt, wd1_] _ _ := G
    subst h_10
    have G := G.sub (bs' := [[zO10 xo t im mk rd po co tr wa wb_ fi cd], wt, wd0_, wd1_]) [0, 2, 1, 3] rfl
    exact z_back hQ9 (z_iret C hr hlocks G (Nat.le_of_ble_eq_true rfl) (Nat.le_of_ble_eq_true rfl) dX11_deed_27 rfl)
set_option maxHeartbeats 4000000 in
set_option maxRecDepth 100000 in
/-- c_far -/
theorem c_far (l : Launch) (T : zTy) (xo : Nat) (t : Nat) (im : Nat) (mk : Nat) (rd : Nat) (po : Nat) (co : Nat) (tr : Nat) (wa : Nat) (wb_ : Nat) (fi : Nat) (cd : Nat) (l0 : Nat) (l1 : Nat) (d0 : Nat) (d1 : Nat) (g0 : Nat) (g1 : Nat) (ln : Int32) (fl : Int32) (pl : Int32) (ft : Nat → Int32) (fk : Nat → Int32) (wt : va_W) (cr0_ : Int32) (inn0_ : Int32) (k10_ : Nat → Int32) (k20_ : Nat → Int32) (k30_ : Nat → Int32) (k40_ : Nat → Int32) (z0_ : va_W) (cr1_ : Int32) (inn1_ : Int32) (k11_ : Nat → Int32) (k21_ : Nat → Int32) (k31_ : Nat → Int32) (k41_ : Nat → Int32) (z1_ : va_W) (i1 : Int32) (a_ : Int32) (b_ : Int32) (ht : bTold T t l0 l1 d0 d1 g0 g1 ln fl pl ft fk wt) (hK : zKT fk) (hz0_ : bLand T l0 cr0_ inn0_ k10_ k20_ k30_ k40_ z0_) (hI0_ : zLI cr0_ k10_ k30_) (hz1_ : bLand T l1 cr1_ inn1_ k11_ k21_ k31_ k41_ z1_) (hI1_ : zLI cr1_ k11_ k31_) : zMi l T yX11_far cX11_far 5 (some .int) 5 0 0 [.ref xo, .int i1, .int a_, .int b_] [[zO10 xo t im mk rd po co tr wa wb_ fi cd], wt, z0_, z1_] (fun (r : Int32) bs => bs = [[zO10 xo t im mk rd po co tr wa wb_ fi cd], wt, z0_, z1_]) := by
  refine zMi_of (own := RX11) (by decide) rfl (Nat.le_of_ble_eq_true rfl) ?_
  intro p e s m args below meth c A ls C hr hlocks hnm hAe G hl
  refine zHide (fun Q9 hQ9 => ?_)
  have hx := C.1
  have hb := C.2.1
  have hl : lv_has ls 5 [(0, .ref xo), (1, .int i1), (2, .int a_), (3, .int b_)] := hl
  refine lv_aload_n hx hb dX11_far_0 rfl (lv_at hl 0 rfl) ?_
  refine z_get C G clX11 0 rfl 0 (by decide) m_fl_RX11_10 rfl dX11_far_1 ?_
  refine lv_iload_n hx hb dX11_far_4 rfl (lv_at hl 1 rfl) ?_
  refine z_Vq (bc := [wt]) (br := [[zO10 xo t im mk rd po co tr wa wb_ fi cd], z0_, z1_]) (As := [.int i1]) (rest := []) C G (c_landAt l T t l0 l1 d0 d1 g0 g1 ln fl pl ft fk wt i1 ht) (kV_RX11_121 C.2.2.2.2 (Nat.le_of_ble_eq_true rfl) (Nat.le_of_ble_eq_true rfl)) [1] [1] rfl rfl (ci := 8) (qc := (RX9, TX9, 8)) rfl rfl (List.mem_flatten.mpr ⟨_, List.mem_of_getElem? (i := 0) rfl, (bTold_mem ht).choose_spec⟩) rfl rfl hl.1 dX11_far_5 (Nat.le_of_ble_eq_true rfl) (Nat.le_of_ble_eq_true rfl) (fun r_2 b1 H locs hw G => ?_)
  refine zAn2 hw ?_
  intro hbs9 hc_1
  clear hw
  subst hbs9
  have G : zS T A s.heap s [[zO10 xo t im mk rd po co tr wa wb_ fi cd], z0_, z1_, wt] _ _ := G
  rcases hc_1 with ⟨rfl, h_3⟩ | ⟨rfl, h_4, h_5⟩ | ⟨rfl, h_6, h_7⟩
  · have h_3 : (i1.toInt < 0 ∨ (fk 0).toInt ≤ i1.toInt ∨ 2 ≤ i1.toInt) := h_3
    refine lv_astoreN (lv' := [(4, .null), (0, .ref xo), (1, .int i1), (2, .int a_), (3, .int b_)]) hx hb dX11_far_8 hl (by decide) rfl (fun ls hl => ?_)
    refine lv_aloadN hx hb dX11_far_10 (lv_at hl 0 rfl) ?_
    refine lv_ifnullN (tgt := 33) hx hb dX11_far_12 (by decide) ?_
    refine lv_iconst (v := (-1)) hx hb dX11_far_33 (by decide) ?_
    refine lv_goto (tgt := 44) hx hb dX11_far_34 (by decide) ?_
    have G := G.sub (bs' := [[zO10 xo t im mk rd po co tr wa wb_ fi cd], wt, z0_, z1_]) [0, 3, 1, 2] rfl
    exact z_back hQ9 (z_iret C hr hlocks G (Nat.le_of_ble_eq_true rfl) (Nat.le_of_ble_eq_true rfl) dX11_far_44 rfl)
  · have h_4 : i1.toInt = 0 := h_4
    have h_5 : 0 < (fk 0).toInt := h_5
    refine lv_astore (lv' := [(4, .ref l0), (0, .ref xo), (1, .int i1), (2, .int a_), (3, .int b_)]) hx hb dX11_far_8 hl (by decide) rfl (fun ls hl => ?_)
    refine lv_aload hx hb dX11_far_10 (lv_at hl 0 rfl) ?_
    refine lv_ifnull hx hb dX11_far_12 ?_
    refine lv_aload hx hb dX11_far_15 (lv_at hl 0 rfl) ?_
    refine lv_iload_n hx hb dX11_far_17 rfl (lv_at hl 3 rfl) ?_
    refine z_Vi (bc := [z0_]) (br := [[zO10 xo t im mk rd po co tr wa wb_ fi cd], z1_, wt]) (As := [.int a_]) (rest := []) C G (c_has l T l0 cr0_ inn0_ k10_ k20_ k30_ k40_ z0_ a_ hz0_) (kV_RX11_160 C.2.2.2.2 (Nat.le_of_ble_eq_true rfl) (Nat.le_of_ble_eq_true rfl)) [1] [1] rfl rfl (ci := 4) (qc := (RX4, TX4, 6)) rfl rfl (List.mem_flatten.mpr ⟨_, List.mem_of_getElem? (i := 0) rfl, (bLand_mem hz0_).choose_spec⟩) rfl rfl hl.1 dX11_far_18 (Nat.le_of_ble_eq_true rfl) (Nat.le_of_ble_eq_true rfl) (fun r_9 b1 H locs hw G => ?_)
    refine zAn2 hw ?_
    intro hbs9 hc_8
    clear hw
    subst hbs9
    have G : zS T A s.heap s [[zO10 xo t im mk rd po co tr wa wb_ fi cd], z1_, wt, z0_] _ _ := G
    rcases hc_8 with ⟨rfl, h_10, h_11, h_12⟩ | ⟨rfl, h_13⟩
    · have h_10 : 0 ≤ a_.toInt := h_10
      have h_11 : a_.toInt < cr0_.toInt := h_11
      have h_12 : a_.toInt < 7 := h_12
      refine lv_if_eq (tgt := 33) hx hb dX11_far_21 (by decide) (fun q => absurd q (by decide)) (fun _ => ?_)
      refine lv_aload hx hb dX11_far_24 (lv_at hl 0 rfl) ?_
      refine lv_iload_n hx hb dX11_far_26 rfl (lv_at hl 4 rfl) ?_
      refine z_Vi (bc := [z0_]) (br := [[zO10 xo t im mk rd po co tr wa wb_ fi cd], z1_, wt]) (As := [.int b_]) (rest := []) C G (c_has l T l0 cr0_ inn0_ k10_ k20_ k30_ k40_ z0_ b_ hz0_) (kV_RX11_160 C.2.2.2.2 (Nat.le_of_ble_eq_true rfl) (Nat.le_of_ble_eq_true rfl)) [3] [3] rfl rfl (ci := 4) (qc := (RX4, TX4, 6)) rfl rfl (List.mem_flatten.mpr ⟨_, List.mem_of_getElem? (i := 0) rfl, (bLand_mem hz0_).choose_spec⟩) rfl rfl hl.1 dX11_far_27 (Nat.le_of_ble_eq_true rfl) (Nat.le_of_ble_eq_true rfl) (fun r_15 b1 H locs hw G => ?_)
      refine zAn2 hw ?_
      intro hbs9 hc_14
      clear hw
      subst hbs9
      have G : zS T A s.heap s [[zO10 xo t im mk rd po co tr wa wb_ fi cd], z1_, wt, z0_] _ _ := G
      rcases hc_14 with ⟨rfl, h_16, h_17, h_18⟩ | ⟨rfl, h_19⟩
      · have h_16 : 0 ≤ b_.toInt := h_16
        have h_17 : b_.toInt < cr0_.toInt := h_17
        have h_18 : b_.toInt < 7 := h_18
        refine lv_if_ne (tgt := 37) hx hb dX11_far_30 (by decide) (fun _ => ?_) (fun q => absurd q (by decide))
        refine lv_aload hx hb dX11_far_37 (lv_at hl 0 rfl) ?_
        refine lv_iload_n hx hb dX11_far_39 rfl (lv_at hl 3 rfl) ?_
        refine lv_iload_n hx hb dX11_far_40 rfl (lv_at hl 4 rfl) ?_
        refine z_Si (bc := [z0_]) (br := [[zO10 xo t im mk rd po co tr wa wb_ fi cd], z1_, wt]) (As := [.ref l0, .int a_, .int b_]) (rest := []) C G (c_distance l T l0 cr0_ inn0_ k10_ k20_ k30_ k40_ z0_ a_ b_ hz0_ (by first | with_reducible assumption | with_reducible rfl | omega | assumption | rfl)) (kS_RX11_330 C.2.2.2.2 (Nat.le_of_ble_eq_true rfl) (Nat.le_of_ble_eq_true rfl)) [3] [3] rfl rfl rfl rfl hl.1 dX11_far_41 (Nat.le_of_ble_eq_true rfl) (Nat.le_of_ble_eq_true rfl) (fun r_20 b1 H locs hw G => ?_)
        obtain rfl := hw
        have G : zS T A s.heap s [[zO10 xo t im mk rd po co tr wa wb_ fi cd], z1_, wt, z0_] _ _ := G
        have G := G.sub (bs' := [[zO10 xo t im mk rd po co tr wa wb_ fi cd], wt, z0_, z1_]) [0, 2, 3, 1] rfl
        exact z_back hQ9 (z_iret C hr hlocks G (Nat.le_of_ble_eq_true rfl) (Nat.le_of_ble_eq_true rfl) dX11_far_44 rfl)
      · have h_19 : (b_.toInt < 0 ∨ cr0_.toInt ≤ b_.toInt ∨ 7 ≤ b_.toInt) := h_19
        refine lv_if_ne (tgt := 37) hx hb dX11_far_30 (by decide) (fun q => absurd (by decide) q) (fun _ => ?_)
        refine lv_iconst (v := (-1)) hx hb dX11_far_33 (by decide) ?_
        refine lv_goto (tgt := 44) hx hb dX11_far_34 (by decide) ?_
        have G := G.sub (bs' := [[zO10 xo t im mk rd po co tr wa wb_ fi cd], wt, z0_, z1_]) [0, 2, 3, 1] rfl
        exact z_back hQ9 (z_iret C hr hlocks G (Nat.le_of_ble_eq_true rfl) (Nat.le_of_ble_eq_true rfl) dX11_far_44 rfl)
    · have h_13 : (a_.toInt < 0 ∨ cr0_.toInt ≤ a_.toInt ∨ 7 ≤ a_.toInt) := h_13
      refine lv_if_eq (tgt := 33) hx hb dX11_far_21 (by decide) (fun _ => ?_) (fun q => absurd (by decide) q)
      refine lv_iconst (v := (-1)) hx hb dX11_far_33 (by decide) ?_
      refine lv_goto (tgt := 44) hx hb dX11_far_34 (by decide) ?_
      have G := G.sub (bs' := [[zO10 xo t im mk rd po co tr wa wb_ fi cd], wt, z0_, z1_]) [0, 2, 3, 1] rfl
      exact z_back hQ9 (z_iret C hr hlocks G (Nat.le_of_ble_eq_true rfl) (Nat.le_of_ble_eq_true rfl) dX11_far_44 rfl)
  · have h_6 : i1.toInt = 1 := h_6
    have h_7 : 1 < (fk 0).toInt := h_7
    refine lv_astore (lv' := [(4, .ref l1), (0, .ref xo), (1, .int i1), (2, .int a_), (3, .int b_)]) hx hb dX11_far_8 hl (by decide) rfl (fun ls hl => ?_)
    refine lv_aload hx hb dX11_far_10 (lv_at hl 0 rfl) ?_
    refine lv_ifnull hx hb dX11_far_12 ?_
    refine lv_aload hx hb dX11_far_15 (lv_at hl 0 rfl) ?_
    refine lv_iload_n hx hb dX11_far_17 rfl (lv_at hl 3 rfl) ?_
    refine z_Vi (bc := [z1_]) (br := [[zO10 xo t im mk rd po co tr wa wb_ fi cd], z0_, wt]) (As := [.int a_]) (rest := []) C G (c_has l T l1 cr1_ inn1_ k11_ k21_ k31_ k41_ z1_ a_ hz1_) (kV_RX11_160 C.2.2.2.2 (Nat.le_of_ble_eq_true rfl) (Nat.le_of_ble_eq_true rfl)) [2] [2] rfl rfl (ci := 4) (qc := (RX4, TX4, 6)) rfl rfl (List.mem_flatten.mpr ⟨_, List.mem_of_getElem? (i := 0) rfl, (bLand_mem hz1_).choose_spec⟩) rfl rfl hl.1 dX11_far_18 (Nat.le_of_ble_eq_true rfl) (Nat.le_of_ble_eq_true rfl) (fun r_22 b1 H locs hw G => ?_)
    refine zAn2 hw ?_
    intro hbs9 hc_21
    clear hw
    subst hbs9
    have G : zS T A s.heap s [[zO10 xo t im mk rd po co tr wa wb_ fi cd], z0_, wt, z1_] _ _ := G
    rcases hc_21 with ⟨rfl, h_23, h_24, h_25⟩ | ⟨rfl, h_26⟩
    · have h_23 : 0 ≤ a_.toInt := h_23
      have h_24 : a_.toInt < cr1_.toInt := h_24
      have h_25 : a_.toInt < 7 := h_25
      refine lv_if_eq (tgt := 33) hx hb dX11_far_21 (by decide) (fun q => absurd q (by decide)) (fun _ => ?_)
      refine lv_aload hx hb dX11_far_24 (lv_at hl 0 rfl) ?_
      refine lv_iload_n hx hb dX11_far_26 rfl (lv_at hl 4 rfl) ?_
      refine z_Vi (bc := [z1_]) (br := [[zO10 xo t im mk rd po co tr wa wb_ fi cd], z0_, wt]) (As := [.int b_]) (rest := []) C G (c_has l T l1 cr1_ inn1_ k11_ k21_ k31_ k41_ z1_ b_ hz1_) (kV_RX11_160 C.2.2.2.2 (Nat.le_of_ble_eq_true rfl) (Nat.le_of_ble_eq_true rfl)) [3] [3] rfl rfl (ci := 4) (qc := (RX4, TX4, 6)) rfl rfl (List.mem_flatten.mpr ⟨_, List.mem_of_getElem? (i := 0) rfl, (bLand_mem hz1_).choose_spec⟩) rfl rfl hl.1 dX11_far_27 (Nat.le_of_ble_eq_true rfl) (Nat.le_of_ble_eq_true rfl) (fun r_28 b1 H locs hw G => ?_)
      refine zAn2 hw ?_
      intro hbs9 hc_27
      clear hw
      subst hbs9
      have G : zS T A s.heap s [[zO10 xo t im mk rd po co tr wa wb_ fi cd], z0_, wt, z1_] _ _ := G
      rcases hc_27 with ⟨rfl, h_29, h_30, h_31⟩ | ⟨rfl, h_32⟩
      · have h_29 : 0 ≤ b_.toInt := h_29
        have h_30 : b_.toInt < cr1_.toInt := h_30
        have h_31 : b_.toInt < 7 := h_31
        refine lv_if_ne (tgt := 37) hx hb dX11_far_30 (by decide) (fun _ => ?_) (fun q => absurd q (by decide))
        refine lv_aload hx hb dX11_far_37 (lv_at hl 0 rfl) ?_
        refine lv_iload_n hx hb dX11_far_39 rfl (lv_at hl 3 rfl) ?_
        refine lv_iload_n hx hb dX11_far_40 rfl (lv_at hl 4 rfl) ?_
        refine z_Si (bc := [z1_]) (br := [[zO10 xo t im mk rd po co tr wa wb_ fi cd], z0_, wt]) (As := [.ref l1, .int a_, .int b_]) (rest := []) C G (c_distance l T l1 cr1_ inn1_ k11_ k21_ k31_ k41_ z1_ a_ b_ hz1_ (by first | with_reducible assumption | with_reducible rfl | omega | assumption | rfl)) (kS_RX11_330 C.2.2.2.2 (Nat.le_of_ble_eq_true rfl) (Nat.le_of_ble_eq_true rfl)) [3] [3] rfl rfl rfl rfl hl.1 dX11_far_41 (Nat.le_of_ble_eq_true rfl) (Nat.le_of_ble_eq_true rfl) (fun r_33 b1 H locs hw G => ?_)
        obtain rfl := hw
        have G : zS T A s.heap s [[zO10 xo t im mk rd po co tr wa wb_ fi cd], z0_, wt, z1_] _ _ := G
        have G := G.sub (bs' := [[zO10 xo t im mk rd po co tr wa wb_ fi cd], wt, z0_, z1_]) [0, 2, 1, 3] rfl
        exact z_back hQ9 (z_iret C hr hlocks G (Nat.le_of_ble_eq_true rfl) (Nat.le_of_ble_eq_true rfl) dX11_far_44 rfl)
      · have h_32 : (b_.toInt < 0 ∨ cr1_.toInt ≤ b_.toInt ∨ 7 ≤ b_.toInt) := h_32
        refine lv_if_ne (tgt := 37) hx hb dX11_far_30 (by decide) (fun q => absurd (by decide) q) (fun _ => ?_)
        refine lv_iconst (v := (-1)) hx hb dX11_far_33 (by decide) ?_
        refine lv_goto (tgt := 44) hx hb dX11_far_34 (by decide) ?_
        have G := G.sub (bs' := [[zO10 xo t im mk rd po co tr wa wb_ fi cd], wt, z0_, z1_]) [0, 2, 1, 3] rfl
        exact z_back hQ9 (z_iret C hr hlocks G (Nat.le_of_ble_eq_true rfl) (Nat.le_of_ble_eq_true rfl) dX11_far_44 rfl)
    · have h_26 : (a_.toInt < 0 ∨ cr1_.toInt ≤ a_.toInt ∨ 7 ≤ a_.toInt) := h_26
      refine lv_if_eq (tgt := 33) hx hb dX11_far_21 (by decide) (fun _ => ?_) (fun q => absurd (by decide) q)
      refine lv_iconst (v := (-1)) hx hb dX11_far_33 (by decide) ?_
      refine lv_goto (tgt := 44) hx hb dX11_far_34 (by decide) ?_
      have G := G.sub (bs' := [[zO10 xo t im mk rd po co tr wa wb_ fi cd], wt, z0_, z1_]) [0, 2, 1, 3] rfl
      exact z_back hQ9 (z_iret C hr hlocks G (Nat.le_of_ble_eq_true rfl) (Nat.le_of_ble_eq_true rfl) dX11_far_44 rfl)
set_option maxHeartbeats 4000000 in
set_option maxRecDepth 100000 in
/-- c_reach -/
theorem c_reach (l : Launch) (T : zTy) (xo : Nat) (t : Nat) (im : Nat) (mk : Nat) (rd : Nat) (po : Nat) (co : Nat) (tr : Nat) (wa : Nat) (wb_ : Nat) (fi : Nat) (cd : Nat) (l0 : Nat) (l1 : Nat) (d0 : Nat) (d1 : Nat) (g0 : Nat) (g1 : Nat) (ln : Int32) (fl : Int32) (pl : Int32) (ft : Nat → Int32) (fk : Nat → Int32) (wt : va_W) (cr0_ : Int32) (inn0_ : Int32) (k10_ : Nat → Int32) (k20_ : Nat → Int32) (k30_ : Nat → Int32) (k40_ : Nat → Int32) (z0_ : va_W) (cr1_ : Int32) (inn1_ : Int32) (k11_ : Nat → Int32) (k21_ : Nat → Int32) (k31_ : Nat → Int32) (k41_ : Nat → Int32) (z1_ : va_W) (i1 : Int32) (a_ : Int32) (w_ : Int32) (ht : bTold T t l0 l1 d0 d1 g0 g1 ln fl pl ft fk wt) (hK : zKT fk) (hz0_ : bLand T l0 cr0_ inn0_ k10_ k20_ k30_ k40_ z0_) (hI0_ : zLI cr0_ k10_ k30_) (hz1_ : bLand T l1 cr1_ inn1_ k11_ k21_ k31_ k41_ z1_) (hI1_ : zLI cr1_ k11_ k31_) : zMi l T yX11_reach cX11_reach 5 (some .int) 5 0 0 [.ref xo, .int i1, .int a_, .int w_] [[zO10 xo t im mk rd po co tr wa wb_ fi cd], wt, z0_, z1_] (fun (r : Int32) bs => bs = [[zO10 xo t im mk rd po co tr wa wb_ fi cd], wt, z0_, z1_]) := by
  refine zMi_of (own := RX11) (by decide) rfl (Nat.le_of_ble_eq_true rfl) ?_
  intro p e s m args below meth c A ls C hr hlocks hnm hAe G hl
  refine zHide (fun Q9 hQ9 => ?_)
  have hx := C.1
  have hb := C.2.1
  have hl : lv_has ls 5 [(0, .ref xo), (1, .int i1), (2, .int a_), (3, .int w_)] := hl
  refine lv_aload_n hx hb dX11_reach_0 rfl (lv_at hl 0 rfl) ?_
  refine z_get C G clX11 0 rfl 0 (by decide) m_fl_RX11_10 rfl dX11_reach_1 ?_
  refine lv_iload_n hx hb dX11_reach_4 rfl (lv_at hl 1 rfl) ?_
  refine z_Vq (bc := [wt]) (br := [[zO10 xo t im mk rd po co tr wa wb_ fi cd], z0_, z1_]) (As := [.int i1]) (rest := []) C G (c_landAt l T t l0 l1 d0 d1 g0 g1 ln fl pl ft fk wt i1 ht) (kV_RX11_121 C.2.2.2.2 (Nat.le_of_ble_eq_true rfl) (Nat.le_of_ble_eq_true rfl)) [1] [1] rfl rfl (ci := 8) (qc := (RX9, TX9, 8)) rfl rfl (List.mem_flatten.mpr ⟨_, List.mem_of_getElem? (i := 0) rfl, (bTold_mem ht).choose_spec⟩) rfl rfl hl.1 dX11_reach_5 (Nat.le_of_ble_eq_true rfl) (Nat.le_of_ble_eq_true rfl) (fun r_2 b1 H locs hw G => ?_)
  refine zAn2 hw ?_
  intro hbs9 hc_1
  clear hw
  subst hbs9
  have G : zS T A s.heap s [[zO10 xo t im mk rd po co tr wa wb_ fi cd], z0_, z1_, wt] _ _ := G
  rcases hc_1 with ⟨rfl, h_3⟩ | ⟨rfl, h_4, h_5⟩ | ⟨rfl, h_6, h_7⟩
  · have h_3 : (i1.toInt < 0 ∨ (fk 0).toInt ≤ i1.toInt ∨ 2 ≤ i1.toInt) := h_3
    refine lv_astoreN (lv' := [(4, .null), (0, .ref xo), (1, .int i1), (2, .int a_), (3, .int w_)]) hx hb dX11_reach_8 hl (by decide) rfl (fun ls hl => ?_)
    refine lv_aloadN hx hb dX11_reach_10 (lv_at hl 0 rfl) ?_
    refine lv_ifnullN (tgt := 33) hx hb dX11_reach_12 (by decide) ?_
    refine lv_bipush (v := (-2)) hx hb dX11_reach_33 (by decide) ?_
    have G := G.sub (bs' := [[zO10 xo t im mk rd po co tr wa wb_ fi cd], wt, z0_, z1_]) [0, 3, 1, 2] rfl
    exact z_back hQ9 (z_iret C hr hlocks G (Nat.le_of_ble_eq_true rfl) (Nat.le_of_ble_eq_true rfl) dX11_reach_35 rfl)
  · have h_4 : i1.toInt = 0 := h_4
    have h_5 : 0 < (fk 0).toInt := h_5
    refine lv_astore (lv' := [(4, .ref l0), (0, .ref xo), (1, .int i1), (2, .int a_), (3, .int w_)]) hx hb dX11_reach_8 hl (by decide) rfl (fun ls hl => ?_)
    refine lv_aload hx hb dX11_reach_10 (lv_at hl 0 rfl) ?_
    refine lv_ifnull hx hb dX11_reach_12 ?_
    refine lv_aload hx hb dX11_reach_15 (lv_at hl 0 rfl) ?_
    refine lv_iload_n hx hb dX11_reach_17 rfl (lv_at hl 3 rfl) ?_
    refine z_Vi (bc := [z0_]) (br := [[zO10 xo t im mk rd po co tr wa wb_ fi cd], z1_, wt]) (As := [.int a_]) (rest := []) C G (c_has l T l0 cr0_ inn0_ k10_ k20_ k30_ k40_ z0_ a_ hz0_) (kV_RX11_160 C.2.2.2.2 (Nat.le_of_ble_eq_true rfl) (Nat.le_of_ble_eq_true rfl)) [1] [1] rfl rfl (ci := 4) (qc := (RX4, TX4, 6)) rfl rfl (List.mem_flatten.mpr ⟨_, List.mem_of_getElem? (i := 0) rfl, (bLand_mem hz0_).choose_spec⟩) rfl rfl hl.1 dX11_reach_18 (Nat.le_of_ble_eq_true rfl) (Nat.le_of_ble_eq_true rfl) (fun r_9 b1 H locs hw G => ?_)
    refine zAn2 hw ?_
    intro hbs9 hc_8
    clear hw
    subst hbs9
    have G : zS T A s.heap s [[zO10 xo t im mk rd po co tr wa wb_ fi cd], z1_, wt, z0_] _ _ := G
    rcases hc_8 with ⟨rfl, h_10, h_11, h_12⟩ | ⟨rfl, h_13⟩
    · have h_10 : 0 ≤ a_.toInt := h_10
      have h_11 : a_.toInt < cr0_.toInt := h_11
      have h_12 : a_.toInt < 7 := h_12
      refine lv_if_eq (tgt := 33) hx hb dX11_reach_21 (by decide) (fun q => absurd q (by decide)) (fun _ => ?_)
      refine lv_iload_n hx hb dX11_reach_24 rfl (lv_at hl 4 rfl) ?_
      refine lv_if_lt (tgt := 33) hx hb dX11_reach_25 (by decide) (fun c_14 => ?_) (fun c_14 => ?_)
      · have c_14n : w_.toInt < (0 : Int) := (fa_lt _ _).mp c_14
        refine lv_bipush (v := (-2)) hx hb dX11_reach_33 (by decide) ?_
        have G := G.sub (bs' := [[zO10 xo t im mk rd po co tr wa wb_ fi cd], wt, z0_, z1_]) [0, 2, 3, 1] rfl
        exact z_back hQ9 (z_iret C hr hlocks G (Nat.le_of_ble_eq_true rfl) (Nat.le_of_ble_eq_true rfl) dX11_reach_35 rfl)
      · have c_14n : ¬ w_.toInt < (0 : Int) := fun q => c_14 ((fa_lt _ _).mpr q)
        refine lv_iload_n hx hb dX11_reach_28 rfl (lv_at hl 4 rfl) ?_
        refine lv_iconst (v := 1) hx hb dX11_reach_29 (by decide) ?_
        refine lv_icmp_le (tgt := 36) hx hb dX11_reach_30 (by decide) (fun c_15 => ?_) (fun c_15 => ?_)
        · have c_15n : w_.toInt ≤ (1 : Int) := (fa_le _ _).mp c_15
          refine lv_iload_n hx hb dX11_reach_36 rfl (lv_at hl 4 rfl) ?_
          refine lv_if_ne (tgt := 49) hx hb dX11_reach_37 (by decide) (fun c_16 => ?_) (fun c_16 => ?_)
          · have c_16n : ¬ w_.toInt = (0 : Int) := fun q => c_16 ((fa_eq _ _).mpr q)
            refine lv_aload hx hb dX11_reach_49 (lv_at hl 0 rfl) ?_
            refine lv_iload_n hx hb dX11_reach_51 rfl (lv_at hl 3 rfl) ?_
            refine z_Si (bc := [z0_]) (br := [[zO10 xo t im mk rd po co tr wa wb_ fi cd], z1_, wt]) (As := [.ref l0, .int a_]) (rest := []) C G (c_nearest l T l0 cr0_ inn0_ k10_ k20_ k30_ k40_ z0_ a_ hz0_ (by first | with_reducible assumption | with_reducible rfl | omega | assumption | rfl)) (kS_RX11_340 C.2.2.2.2 (Nat.le_of_ble_eq_true rfl) (Nat.le_of_ble_eq_true rfl)) [3] [3] rfl rfl rfl rfl hl.1 dX11_reach_52 (Nat.le_of_ble_eq_true rfl) (Nat.le_of_ble_eq_true rfl) (fun r_17 b1 H locs hw G => ?_)
            obtain rfl := hw
            have G : zS T A s.heap s [[zO10 xo t im mk rd po co tr wa wb_ fi cd], z1_, wt, z0_] _ _ := G
            have G := G.sub (bs' := [[zO10 xo t im mk rd po co tr wa wb_ fi cd], wt, z0_, z1_]) [0, 2, 3, 1] rfl
            exact z_back hQ9 (z_iret C hr hlocks G (Nat.le_of_ble_eq_true rfl) (Nat.le_of_ble_eq_true rfl) dX11_reach_55 rfl)
          · have c_16n : w_.toInt = (0 : Int) := (fa_eq _ _).mp c_16
            refine lv_aload hx hb dX11_reach_40 (lv_at hl 0 rfl) ?_
            refine lv_iload_n hx hb dX11_reach_42 rfl (lv_at hl 3 rfl) ?_
            refine z_Si (bc := [z0_]) (br := [[zO10 xo t im mk rd po co tr wa wb_ fi cd], z1_, wt]) (As := [.ref l0, .int a_]) (rest := []) C G (c_reached l T l0 cr0_ inn0_ k10_ k20_ k30_ k40_ z0_ a_ hz0_ (by first | with_reducible assumption | with_reducible rfl | omega | assumption | rfl)) (kS_RX11_336 C.2.2.2.2 (Nat.le_of_ble_eq_true rfl) (Nat.le_of_ble_eq_true rfl)) [3] [3] rfl rfl rfl rfl hl.1 dX11_reach_43 (Nat.le_of_ble_eq_true rfl) (Nat.le_of_ble_eq_true rfl) (fun r_19 b1 H locs hw G => ?_)
            refine zAn2 hw ?_
            intro hbs9 h_18
            clear hw
            subst hbs9
            have G : zS T A s.heap s [[zO10 xo t im mk rd po co tr wa wb_ fi cd], z1_, wt, z0_] _ _ := G
            subst h_18
            refine lv_goto (tgt := 55) hx hb dX11_reach_46 (by decide) ?_
            have G := G.sub (bs' := [[zO10 xo t im mk rd po co tr wa wb_ fi cd], wt, z0_, z1_]) [0, 2, 3, 1] rfl
            exact z_back hQ9 (z_iret C hr hlocks G (Nat.le_of_ble_eq_true rfl) (Nat.le_of_ble_eq_true rfl) dX11_reach_55 rfl)
        · have c_15n : ¬ w_.toInt ≤ (1 : Int) := fun q => c_15 ((fa_le _ _).mpr q)
          refine lv_bipush (v := (-2)) hx hb dX11_reach_33 (by decide) ?_
          have G := G.sub (bs' := [[zO10 xo t im mk rd po co tr wa wb_ fi cd], wt, z0_, z1_]) [0, 2, 3, 1] rfl
          exact z_back hQ9 (z_iret C hr hlocks G (Nat.le_of_ble_eq_true rfl) (Nat.le_of_ble_eq_true rfl) dX11_reach_35 rfl)
    · have h_13 : (a_.toInt < 0 ∨ cr0_.toInt ≤ a_.toInt ∨ 7 ≤ a_.toInt) := h_13
      refine lv_if_eq (tgt := 33) hx hb dX11_reach_21 (by decide) (fun _ => ?_) (fun q => absurd (by decide) q)
      refine lv_bipush (v := (-2)) hx hb dX11_reach_33 (by decide) ?_
      have G := G.sub (bs' := [[zO10 xo t im mk rd po co tr wa wb_ fi cd], wt, z0_, z1_]) [0, 2, 3, 1] rfl
      exact z_back hQ9 (z_iret C hr hlocks G (Nat.le_of_ble_eq_true rfl) (Nat.le_of_ble_eq_true rfl) dX11_reach_35 rfl)
  · have h_6 : i1.toInt = 1 := h_6
    have h_7 : 1 < (fk 0).toInt := h_7
    refine lv_astore (lv' := [(4, .ref l1), (0, .ref xo), (1, .int i1), (2, .int a_), (3, .int w_)]) hx hb dX11_reach_8 hl (by decide) rfl (fun ls hl => ?_)
    refine lv_aload hx hb dX11_reach_10 (lv_at hl 0 rfl) ?_
    refine lv_ifnull hx hb dX11_reach_12 ?_
    refine lv_aload hx hb dX11_reach_15 (lv_at hl 0 rfl) ?_
    refine lv_iload_n hx hb dX11_reach_17 rfl (lv_at hl 3 rfl) ?_
    refine z_Vi (bc := [z1_]) (br := [[zO10 xo t im mk rd po co tr wa wb_ fi cd], z0_, wt]) (As := [.int a_]) (rest := []) C G (c_has l T l1 cr1_ inn1_ k11_ k21_ k31_ k41_ z1_ a_ hz1_) (kV_RX11_160 C.2.2.2.2 (Nat.le_of_ble_eq_true rfl) (Nat.le_of_ble_eq_true rfl)) [2] [2] rfl rfl (ci := 4) (qc := (RX4, TX4, 6)) rfl rfl (List.mem_flatten.mpr ⟨_, List.mem_of_getElem? (i := 0) rfl, (bLand_mem hz1_).choose_spec⟩) rfl rfl hl.1 dX11_reach_18 (Nat.le_of_ble_eq_true rfl) (Nat.le_of_ble_eq_true rfl) (fun r_21 b1 H locs hw G => ?_)
    refine zAn2 hw ?_
    intro hbs9 hc_20
    clear hw
    subst hbs9
    have G : zS T A s.heap s [[zO10 xo t im mk rd po co tr wa wb_ fi cd], z0_, wt, z1_] _ _ := G
    rcases hc_20 with ⟨rfl, h_22, h_23, h_24⟩ | ⟨rfl, h_25⟩
    · have h_22 : 0 ≤ a_.toInt := h_22
      have h_23 : a_.toInt < cr1_.toInt := h_23
      have h_24 : a_.toInt < 7 := h_24
      refine lv_if_eq (tgt := 33) hx hb dX11_reach_21 (by decide) (fun q => absurd q (by decide)) (fun _ => ?_)
      refine lv_iload_n hx hb dX11_reach_24 rfl (lv_at hl 4 rfl) ?_
      refine lv_if_lt (tgt := 33) hx hb dX11_reach_25 (by decide) (fun c_26 => ?_) (fun c_26 => ?_)
      · have c_26n : w_.toInt < (0 : Int) := (fa_lt _ _).mp c_26
        refine lv_bipush (v := (-2)) hx hb dX11_reach_33 (by decide) ?_
        have G := G.sub (bs' := [[zO10 xo t im mk rd po co tr wa wb_ fi cd], wt, z0_, z1_]) [0, 2, 1, 3] rfl
        exact z_back hQ9 (z_iret C hr hlocks G (Nat.le_of_ble_eq_true rfl) (Nat.le_of_ble_eq_true rfl) dX11_reach_35 rfl)
      · have c_26n : ¬ w_.toInt < (0 : Int) := fun q => c_26 ((fa_lt _ _).mpr q)
        refine lv_iload_n hx hb dX11_reach_28 rfl (lv_at hl 4 rfl) ?_
        refine lv_iconst (v := 1) hx hb dX11_reach_29 (by decide) ?_
        refine lv_icmp_le (tgt := 36) hx hb dX11_reach_30 (by decide) (fun c_27 => ?_) (fun c_27 => ?_)
        · have c_27n : w_.toInt ≤ (1 : Int) := (fa_le _ _).mp c_27
          refine lv_iload_n hx hb dX11_reach_36 rfl (lv_at hl 4 rfl) ?_
          refine lv_if_ne (tgt := 49) hx hb dX11_reach_37 (by decide) (fun c_28 => ?_) (fun c_28 => ?_)
          · have c_28n : ¬ w_.toInt = (0 : Int) := fun q => c_28 ((fa_eq _ _).mpr q)
            refine lv_aload hx hb dX11_reach_49 (lv_at hl 0 rfl) ?_
            refine lv_iload_n hx hb dX11_reach_51 rfl (lv_at hl 3 rfl) ?_
            refine z_Si (bc := [z1_]) (br := [[zO10 xo t im mk rd po co tr wa wb_ fi cd], z0_, wt]) (As := [.ref l1, .int a_]) (rest := []) C G (c_nearest l T l1 cr1_ inn1_ k11_ k21_ k31_ k41_ z1_ a_ hz1_ (by first | with_reducible assumption | with_reducible rfl | omega | assumption | rfl)) (kS_RX11_340 C.2.2.2.2 (Nat.le_of_ble_eq_true rfl) (Nat.le_of_ble_eq_true rfl)) [3] [3] rfl rfl rfl rfl hl.1 dX11_reach_52 (Nat.le_of_ble_eq_true rfl) (Nat.le_of_ble_eq_true rfl) (fun r_29 b1 H locs hw G => ?_)
            obtain rfl := hw
            have G : zS T A s.heap s [[zO10 xo t im mk rd po co tr wa wb_ fi cd], z0_, wt, z1_] _ _ := G
            have G := G.sub (bs' := [[zO10 xo t im mk rd po co tr wa wb_ fi cd], wt, z0_, z1_]) [0, 2, 1, 3] rfl
            exact z_back hQ9 (z_iret C hr hlocks G (Nat.le_of_ble_eq_true rfl) (Nat.le_of_ble_eq_true rfl) dX11_reach_55 rfl)
          · have c_28n : w_.toInt = (0 : Int) := (fa_eq _ _).mp c_28
            refine lv_aload hx hb dX11_reach_40 (lv_at hl 0 rfl) ?_
            refine lv_iload_n hx hb dX11_reach_42 rfl (lv_at hl 3 rfl) ?_
            refine z_Si (bc := [z1_]) (br := [[zO10 xo t im mk rd po co tr wa wb_ fi cd], z0_, wt]) (As := [.ref l1, .int a_]) (rest := []) C G (c_reached l T l1 cr1_ inn1_ k11_ k21_ k31_ k41_ z1_ a_ hz1_ (by first | with_reducible assumption | with_reducible rfl | omega | assumption | rfl)) (kS_RX11_336 C.2.2.2.2 (Nat.le_of_ble_eq_true rfl) (Nat.le_of_ble_eq_true rfl)) [3] [3] rfl rfl rfl rfl hl.1 dX11_reach_43 (Nat.le_of_ble_eq_true rfl) (Nat.le_of_ble_eq_true rfl) (fun r_31 b1 H locs hw G => ?_)
            refine zAn2 hw ?_
            intro hbs9 h_30
            clear hw
            subst hbs9
            have G : zS T A s.heap s [[zO10 xo t im mk rd po co tr wa wb_ fi cd], z0_, wt, z1_] _ _ := G
            subst h_30
            refine lv_goto (tgt := 55) hx hb dX11_reach_46 (by decide) ?_
            have G := G.sub (bs' := [[zO10 xo t im mk rd po co tr wa wb_ fi cd], wt, z0_, z1_]) [0, 2, 1, 3] rfl
            exact z_back hQ9 (z_iret C hr hlocks G (Nat.le_of_ble_eq_true rfl) (Nat.le_of_ble_eq_true rfl) dX11_reach_55 rfl)
        · have c_27n : ¬ w_.toInt ≤ (1 : Int) := fun q => c_27 ((fa_le _ _).mpr q)
          refine lv_bipush (v := (-2)) hx hb dX11_reach_33 (by decide) ?_
          have G := G.sub (bs' := [[zO10 xo t im mk rd po co tr wa wb_ fi cd], wt, z0_, z1_]) [0, 2, 1, 3] rfl
          exact z_back hQ9 (z_iret C hr hlocks G (Nat.le_of_ble_eq_true rfl) (Nat.le_of_ble_eq_true rfl) dX11_reach_35 rfl)
    · have h_25 : (a_.toInt < 0 ∨ cr1_.toInt ≤ a_.toInt ∨ 7 ≤ a_.toInt) := h_25
      refine lv_if_eq (tgt := 33) hx hb dX11_reach_21 (by decide) (fun _ => ?_) (fun q => absurd (by decide) q)
      refine lv_bipush (v := (-2)) hx hb dX11_reach_33 (by decide) ?_
      have G := G.sub (bs' := [[zO10 xo t im mk rd po co tr wa wb_ fi cd], wt, z0_, z1_]) [0, 2, 1, 3] rfl
      exact z_back hQ9 (z_iret C hr hlocks G (Nat.le_of_ble_eq_true rfl) (Nat.le_of_ble_eq_true rfl) dX11_reach_35 rfl)
set_option maxHeartbeats 4000000 in
set_option maxRecDepth 100000 in
/-- c_classes -/
theorem c_classes (l : Launch) (T : zTy) (xo : Nat) (t : Nat) (im : Nat) (mk : Nat) (rd : Nat) (po : Nat) (co : Nat) (tr : Nat) (wa : Nat) (wb_ : Nat) (fi : Nat) (cd : Nat) (l0 : Nat) (l1 : Nat) (d0 : Nat) (d1 : Nat) (g0 : Nat) (g1 : Nat) (ln : Int32) (fl : Int32) (pl : Int32) (ft : Nat → Int32) (fk : Nat → Int32) (wt : va_W) (cr0_ : Int32) (inn0_ : Int32) (k10_ : Nat → Int32) (k20_ : Nat → Int32) (k30_ : Nat → Int32) (k40_ : Nat → Int32) (z0_ : va_W) (cr1_ : Int32) (inn1_ : Int32) (k11_ : Nat → Int32) (k21_ : Nat → Int32) (k31_ : Nat → Int32) (k41_ : Nat → Int32) (z1_ : va_W) (i1 : Int32) (w_ : Int32) (ht : bTold T t l0 l1 d0 d1 g0 g1 ln fl pl ft fk wt) (hK : zKT fk) (hz0_ : bLand T l0 cr0_ inn0_ k10_ k20_ k30_ k40_ z0_) (hI0_ : zLI cr0_ k10_ k30_) (hz1_ : bLand T l1 cr1_ inn1_ k11_ k21_ k31_ k41_ z1_) (hI1_ : zLI cr1_ k11_ k31_) : zMi l T yX11_classes cX11_classes 4 (some .int) 7 0 0 [.ref xo, .int i1, .int w_] [[zO10 xo t im mk rd po co tr wa wb_ fi cd], wt, z0_, z1_] (fun (r : Int32) bs => bs = [[zO10 xo t im mk rd po co tr wa wb_ fi cd], wt, z0_, z1_]) := by
  refine zMi_of (own := RX11) (by decide) rfl (Nat.le_of_ble_eq_true rfl) ?_
  intro p e s m args below meth c A ls C hr hlocks hnm hAe G hl
  refine zHide (fun Q9 hQ9 => ?_)
  have hx := C.1
  have hb := C.2.1
  have hl : lv_has ls 4 [(0, .ref xo), (1, .int i1), (2, .int w_)] := hl
  refine lv_aload_n hx hb dX11_classes_0 rfl (lv_at hl 0 rfl) ?_
  refine z_get C G clX11 0 rfl 0 (by decide) m_fl_RX11_10 rfl dX11_classes_1 ?_
  refine lv_iload_n hx hb dX11_classes_4 rfl (lv_at hl 1 rfl) ?_
  refine z_Vq (bc := [wt]) (br := [[zO10 xo t im mk rd po co tr wa wb_ fi cd], z0_, z1_]) (As := [.int i1]) (rest := []) C G (c_landAt l T t l0 l1 d0 d1 g0 g1 ln fl pl ft fk wt i1 ht) (kV_RX11_121 C.2.2.2.2 (Nat.le_of_ble_eq_true rfl) (Nat.le_of_ble_eq_true rfl)) [1] [1] rfl rfl (ci := 8) (qc := (RX9, TX9, 8)) rfl rfl (List.mem_flatten.mpr ⟨_, List.mem_of_getElem? (i := 0) rfl, (bTold_mem ht).choose_spec⟩) rfl rfl hl.1 dX11_classes_5 (Nat.le_of_ble_eq_true rfl) (Nat.le_of_ble_eq_true rfl) (fun r_2 b1 H locs hw G => ?_)
  refine zAn2 hw ?_
  intro hbs9 hc_1
  clear hw
  subst hbs9
  have G : zS T A s.heap s [[zO10 xo t im mk rd po co tr wa wb_ fi cd], z0_, z1_, wt] _ _ := G
  rcases hc_1 with ⟨rfl, h_3⟩ | ⟨rfl, h_4, h_5⟩ | ⟨rfl, h_6, h_7⟩
  · have h_3 : (i1.toInt < 0 ∨ (fk 0).toInt ≤ i1.toInt ∨ 2 ≤ i1.toInt) := h_3
    refine lv_astore_nN (lv' := [(3, .null), (0, .ref xo), (1, .int i1), (2, .int w_)]) hx hb dX11_classes_8 rfl hl (by decide) rfl (fun ls hl => ?_)
    refine lv_aload_nN hx hb dX11_classes_9 rfl (lv_at hl 0 rfl) ?_
    refine lv_ifnonnullN hx hb dX11_classes_10 ?_
    refine lv_bipush (v := (-2)) hx hb dX11_classes_13 (by decide) ?_
    have G := G.sub (bs' := [[zO10 xo t im mk rd po co tr wa wb_ fi cd], wt, z0_, z1_]) [0, 3, 1, 2] rfl
    exact z_back hQ9 (z_iret C hr hlocks G (Nat.le_of_ble_eq_true rfl) (Nat.le_of_ble_eq_true rfl) dX11_classes_15 rfl)
  · have h_4 : i1.toInt = 0 := h_4
    have h_5 : 0 < (fk 0).toInt := h_5
    refine lv_astore_n (lv' := [(3, .ref l0), (0, .ref xo), (1, .int i1), (2, .int w_)]) hx hb dX11_classes_8 rfl hl (by decide) rfl (fun ls hl => ?_)
    refine lv_aload_n hx hb dX11_classes_9 rfl (lv_at hl 0 rfl) ?_
    refine lv_ifnonnull (tgt := 16) hx hb dX11_classes_10 (by decide) ?_
    refine lv_iload_n hx hb dX11_classes_16 rfl (lv_at hl 3 rfl) ?_
    by_cases c_8o : w_.toInt < 0 ∨ 7 < w_.toInt
    · refine lv_tableOut (tgt := 106) hx hb dX11_classes_17 c_8o (by decide) ?_
      refine lv_bipush (v := (-2)) hx hb dX11_classes_106 (by decide) ?_
      have G := G.sub (bs' := [[zO10 xo t im mk rd po co tr wa wb_ fi cd], wt, z0_, z1_]) [0, 3, 1, 2] rfl
      exact z_back hQ9 (z_iret C hr hlocks G (Nat.le_of_ble_eq_true rfl) (Nat.le_of_ble_eq_true rfl) dX11_classes_108 rfl)
    · have c_8r : w_.toInt = 0 ∨ w_.toInt = 1 ∨ w_.toInt = 2 ∨ w_.toInt = 3 ∨ w_.toInt = 4 ∨ w_.toInt = 5 ∨ w_.toInt = 6 ∨ w_.toInt = 7 := by omega
      rcases c_8r with c_8 | c_8 | c_8 | c_8 | c_8 | c_8 | c_8 | c_8
      · refine lv_tableIn (tgt := 64) hx hb dX11_classes_17 (by omega) (by omega) (by rw [c_8]; rfl) (by decide) ?_
        refine lv_aload_n hx hb dX11_classes_64 rfl (lv_at hl 0 rfl) ?_
        refine lv_iconst (v := 0) hx hb dX11_classes_65 (by decide) ?_
        refine z_Si (bc := [z0_]) (br := [[zO10 xo t im mk rd po co tr wa wb_ fi cd], z1_, wt]) (As := [.ref l0, .int 0]) (rest := []) C G (c_parts l T l0 cr0_ inn0_ k10_ k20_ k30_ k40_ z0_ 0 hz0_ (by first | with_reducible assumption | with_reducible rfl | omega | assumption | rfl)) (kS_RX11_343 C.2.2.2.2 (Nat.le_of_ble_eq_true rfl) (Nat.le_of_ble_eq_true rfl)) [1] [1] rfl rfl rfl rfl hl.1 dX11_classes_66 (Nat.le_of_ble_eq_true rfl) (Nat.le_of_ble_eq_true rfl) (fun r_9 b1 H locs hw G => ?_)
        obtain rfl := hw
        have G : zS T A s.heap s [[zO10 xo t im mk rd po co tr wa wb_ fi cd], z1_, wt, z0_] _ _ := G
        have G := G.sub (bs' := [[zO10 xo t im mk rd po co tr wa wb_ fi cd], wt, z0_, z1_]) [0, 2, 3, 1] rfl
        exact z_back hQ9 (z_iret C hr hlocks G (Nat.le_of_ble_eq_true rfl) (Nat.le_of_ble_eq_true rfl) dX11_classes_69 rfl)
      · refine lv_tableIn (tgt := 70) hx hb dX11_classes_17 (by omega) (by omega) (by rw [c_8]; rfl) (by decide) ?_
        refine lv_aload_n hx hb dX11_classes_70 rfl (lv_at hl 0 rfl) ?_
        refine lv_iconst (v := 1) hx hb dX11_classes_71 (by decide) ?_
        refine z_Si (bc := [z0_]) (br := [[zO10 xo t im mk rd po co tr wa wb_ fi cd], z1_, wt]) (As := [.ref l0, .int 1]) (rest := []) C G (c_parts l T l0 cr0_ inn0_ k10_ k20_ k30_ k40_ z0_ 1 hz0_ (by first | with_reducible assumption | with_reducible rfl | omega | assumption | rfl)) (kS_RX11_343 C.2.2.2.2 (Nat.le_of_ble_eq_true rfl) (Nat.le_of_ble_eq_true rfl)) [1] [1] rfl rfl rfl rfl hl.1 dX11_classes_72 (Nat.le_of_ble_eq_true rfl) (Nat.le_of_ble_eq_true rfl) (fun r_10 b1 H locs hw G => ?_)
        obtain rfl := hw
        have G : zS T A s.heap s [[zO10 xo t im mk rd po co tr wa wb_ fi cd], z1_, wt, z0_] _ _ := G
        have G := G.sub (bs' := [[zO10 xo t im mk rd po co tr wa wb_ fi cd], wt, z0_, z1_]) [0, 2, 3, 1] rfl
        exact z_back hQ9 (z_iret C hr hlocks G (Nat.le_of_ble_eq_true rfl) (Nat.le_of_ble_eq_true rfl) dX11_classes_75 rfl)
      · refine lv_tableIn (tgt := 76) hx hb dX11_classes_17 (by omega) (by omega) (by rw [c_8]; rfl) (by decide) ?_
        refine lv_aload_n hx hb dX11_classes_76 rfl (lv_at hl 0 rfl) ?_
        refine z_Si (bc := [z0_]) (br := [[zO10 xo t im mk rd po co tr wa wb_ fi cd], z1_, wt]) (As := [.ref l0]) (rest := []) C G (c_heads l T l0 cr0_ inn0_ k10_ k20_ k30_ k40_ z0_ hz0_ (by first | with_reducible assumption | with_reducible rfl | omega | assumption | rfl)) (kS_RX11_347 C.2.2.2.2 (Nat.le_of_ble_eq_true rfl) (Nat.le_of_ble_eq_true rfl)) [1] [1] rfl rfl rfl rfl hl.1 dX11_classes_77 (Nat.le_of_ble_eq_true rfl) (Nat.le_of_ble_eq_true rfl) (fun r_11 b1 H locs hw G => ?_)
        obtain rfl := hw
        have G : zS T A s.heap s [[zO10 xo t im mk rd po co tr wa wb_ fi cd], z1_, wt, z0_] _ _ := G
        have G := G.sub (bs' := [[zO10 xo t im mk rd po co tr wa wb_ fi cd], wt, z0_, z1_]) [0, 2, 3, 1] rfl
        exact z_back hQ9 (z_iret C hr hlocks G (Nat.le_of_ble_eq_true rfl) (Nat.le_of_ble_eq_true rfl) dX11_classes_80 rfl)
      · refine lv_tableIn (tgt := 81) hx hb dX11_classes_17 (by omega) (by omega) (by rw [c_8]; rfl) (by decide) ?_
        refine lv_aload_n hx hb dX11_classes_81 rfl (lv_at hl 0 rfl) ?_
        refine z_Si (bc := [z0_]) (br := [[zO10 xo t im mk rd po co tr wa wb_ fi cd], z1_, wt]) (As := [.ref l0]) (rest := []) C G (c_ends l T l0 cr0_ inn0_ k10_ k20_ k30_ k40_ z0_ hz0_ (by first | with_reducible assumption | with_reducible rfl | omega | assumption | rfl)) (kS_RX11_350 C.2.2.2.2 (Nat.le_of_ble_eq_true rfl) (Nat.le_of_ble_eq_true rfl)) [1] [1] rfl rfl rfl rfl hl.1 dX11_classes_82 (Nat.le_of_ble_eq_true rfl) (Nat.le_of_ble_eq_true rfl) (fun r_12 b1 H locs hw G => ?_)
        obtain rfl := hw
        have G : zS T A s.heap s [[zO10 xo t im mk rd po co tr wa wb_ fi cd], z1_, wt, z0_] _ _ := G
        have G := G.sub (bs' := [[zO10 xo t im mk rd po co tr wa wb_ fi cd], wt, z0_, z1_]) [0, 2, 3, 1] rfl
        exact z_back hQ9 (z_iret C hr hlocks G (Nat.le_of_ble_eq_true rfl) (Nat.le_of_ble_eq_true rfl) dX11_classes_85 rfl)
      · refine lv_tableIn (tgt := 86) hx hb dX11_classes_17 (by omega) (by omega) (by rw [c_8]; rfl) (by decide) ?_
        refine lv_aload_n hx hb dX11_classes_86 rfl (lv_at hl 0 rfl) ?_
        refine z_Si (bc := [z0_]) (br := [[zO10 xo t im mk rd po co tr wa wb_ fi cd], z1_, wt]) (As := [.ref l0]) (rest := []) C G (c_loops l T l0 cr0_ inn0_ k10_ k20_ k30_ k40_ z0_ hz0_ (by first | with_reducible assumption | with_reducible rfl | omega | assumption | rfl)) (kS_RX11_353 C.2.2.2.2 (Nat.le_of_ble_eq_true rfl) (Nat.le_of_ble_eq_true rfl)) [1] [1] rfl rfl rfl rfl hl.1 dX11_classes_87 (Nat.le_of_ble_eq_true rfl) (Nat.le_of_ble_eq_true rfl) (fun r_13 b1 H locs hw G => ?_)
        obtain rfl := hw
        have G : zS T A s.heap s [[zO10 xo t im mk rd po co tr wa wb_ fi cd], z1_, wt, z0_] _ _ := G
        have G := G.sub (bs' := [[zO10 xo t im mk rd po co tr wa wb_ fi cd], wt, z0_, z1_]) [0, 2, 3, 1] rfl
        exact z_back hQ9 (z_iret C hr hlocks G (Nat.le_of_ble_eq_true rfl) (Nat.le_of_ble_eq_true rfl) dX11_classes_90 rfl)
      · refine lv_tableIn (tgt := 91) hx hb dX11_classes_17 (by omega) (by omega) (by rw [c_8]; rfl) (by decide) ?_
        refine lv_aload_n hx hb dX11_classes_91 rfl (lv_at hl 0 rfl) ?_
        refine z_Si (bc := [z0_]) (br := [[zO10 xo t im mk rd po co tr wa wb_ fi cd], z1_, wt]) (As := [.ref l0]) (rest := []) C G (c_doubles l T l0 cr0_ inn0_ k10_ k20_ k30_ k40_ z0_ hz0_ (by first | with_reducible assumption | with_reducible rfl | omega | assumption | rfl)) (kS_RX11_356 C.2.2.2.2 (Nat.le_of_ble_eq_true rfl) (Nat.le_of_ble_eq_true rfl)) [1] [1] rfl rfl rfl rfl hl.1 dX11_classes_92 (Nat.le_of_ble_eq_true rfl) (Nat.le_of_ble_eq_true rfl) (fun r_14 b1 H locs hw G => ?_)
        obtain rfl := hw
        have G : zS T A s.heap s [[zO10 xo t im mk rd po co tr wa wb_ fi cd], z1_, wt, z0_] _ _ := G
        have G := G.sub (bs' := [[zO10 xo t im mk rd po co tr wa wb_ fi cd], wt, z0_, z1_]) [0, 2, 3, 1] rfl
        exact z_back hQ9 (z_iret C hr hlocks G (Nat.le_of_ble_eq_true rfl) (Nat.le_of_ble_eq_true rfl) dX11_classes_95 rfl)
      · refine lv_tableIn (tgt := 96) hx hb dX11_classes_17 (by omega) (by omega) (by rw [c_8]; rfl) (by decide) ?_
        refine lv_aload_n hx hb dX11_classes_96 rfl (lv_at hl 0 rfl) ?_
        refine z_Si (bc := [z0_]) (br := [[zO10 xo t im mk rd po co tr wa wb_ fi cd], z1_, wt]) (As := [.ref l0]) (rest := []) C G (c_even l T l0 cr0_ inn0_ k10_ k20_ k30_ k40_ z0_ hz0_ (by first | with_reducible assumption | with_reducible rfl | omega | assumption | rfl)) (kS_RX11_359 C.2.2.2.2 (Nat.le_of_ble_eq_true rfl) (Nat.le_of_ble_eq_true rfl)) [1] [1] rfl rfl rfl rfl hl.1 dX11_classes_97 (Nat.le_of_ble_eq_true rfl) (Nat.le_of_ble_eq_true rfl) (fun r_15 b1 H locs hw G => ?_)
        obtain rfl := hw
        have G : zS T A s.heap s [[zO10 xo t im mk rd po co tr wa wb_ fi cd], z1_, wt, z0_] _ _ := G
        have G := G.sub (bs' := [[zO10 xo t im mk rd po co tr wa wb_ fi cd], wt, z0_, z1_]) [0, 2, 3, 1] rfl
        exact z_back hQ9 (z_iret C hr hlocks G (Nat.le_of_ble_eq_true rfl) (Nat.le_of_ble_eq_true rfl) dX11_classes_100 rfl)
      · refine lv_tableIn (tgt := 101) hx hb dX11_classes_17 (by omega) (by omega) (by rw [c_8]; rfl) (by decide) ?_
        refine lv_aload_n hx hb dX11_classes_101 rfl (lv_at hl 0 rfl) ?_
        refine z_Si (bc := [z0_]) (br := [[zO10 xo t im mk rd po co tr wa wb_ fi cd], z1_, wt]) (As := [.ref l0]) (rest := []) C G (c_busy l T l0 cr0_ inn0_ k10_ k20_ k30_ k40_ z0_ hz0_ (by first | with_reducible assumption | with_reducible rfl | omega | assumption | rfl)) (kS_RX11_362 C.2.2.2.2 (Nat.le_of_ble_eq_true rfl) (Nat.le_of_ble_eq_true rfl)) [1] [1] rfl rfl rfl rfl hl.1 dX11_classes_102 (Nat.le_of_ble_eq_true rfl) (Nat.le_of_ble_eq_true rfl) (fun r_16 b1 H locs hw G => ?_)
        obtain rfl := hw
        have G : zS T A s.heap s [[zO10 xo t im mk rd po co tr wa wb_ fi cd], z1_, wt, z0_] _ _ := G
        have G := G.sub (bs' := [[zO10 xo t im mk rd po co tr wa wb_ fi cd], wt, z0_, z1_]) [0, 2, 3, 1] rfl
        exact z_back hQ9 (z_iret C hr hlocks G (Nat.le_of_ble_eq_true rfl) (Nat.le_of_ble_eq_true rfl) dX11_classes_105 rfl)
  · have h_6 : i1.toInt = 1 := h_6
    have h_7 : 1 < (fk 0).toInt := h_7
    refine lv_astore_n (lv' := [(3, .ref l1), (0, .ref xo), (1, .int i1), (2, .int w_)]) hx hb dX11_classes_8 rfl hl (by decide) rfl (fun ls hl => ?_)
    refine lv_aload_n hx hb dX11_classes_9 rfl (lv_at hl 0 rfl) ?_
    refine lv_ifnonnull (tgt := 16) hx hb dX11_classes_10 (by decide) ?_
    refine lv_iload_n hx hb dX11_classes_16 rfl (lv_at hl 3 rfl) ?_
    by_cases c_17o : w_.toInt < 0 ∨ 7 < w_.toInt
    · refine lv_tableOut (tgt := 106) hx hb dX11_classes_17 c_17o (by decide) ?_
      refine lv_bipush (v := (-2)) hx hb dX11_classes_106 (by decide) ?_
      have G := G.sub (bs' := [[zO10 xo t im mk rd po co tr wa wb_ fi cd], wt, z0_, z1_]) [0, 3, 1, 2] rfl
      exact z_back hQ9 (z_iret C hr hlocks G (Nat.le_of_ble_eq_true rfl) (Nat.le_of_ble_eq_true rfl) dX11_classes_108 rfl)
    · have c_17r : w_.toInt = 0 ∨ w_.toInt = 1 ∨ w_.toInt = 2 ∨ w_.toInt = 3 ∨ w_.toInt = 4 ∨ w_.toInt = 5 ∨ w_.toInt = 6 ∨ w_.toInt = 7 := by omega
      rcases c_17r with c_17 | c_17 | c_17 | c_17 | c_17 | c_17 | c_17 | c_17
      · refine lv_tableIn (tgt := 64) hx hb dX11_classes_17 (by omega) (by omega) (by rw [c_17]; rfl) (by decide) ?_
        refine lv_aload_n hx hb dX11_classes_64 rfl (lv_at hl 0 rfl) ?_
        refine lv_iconst (v := 0) hx hb dX11_classes_65 (by decide) ?_
        refine z_Si (bc := [z1_]) (br := [[zO10 xo t im mk rd po co tr wa wb_ fi cd], z0_, wt]) (As := [.ref l1, .int 0]) (rest := []) C G (c_parts l T l1 cr1_ inn1_ k11_ k21_ k31_ k41_ z1_ 0 hz1_ (by first | with_reducible assumption | with_reducible rfl | omega | assumption | rfl)) (kS_RX11_343 C.2.2.2.2 (Nat.le_of_ble_eq_true rfl) (Nat.le_of_ble_eq_true rfl)) [2] [2] rfl rfl rfl rfl hl.1 dX11_classes_66 (Nat.le_of_ble_eq_true rfl) (Nat.le_of_ble_eq_true rfl) (fun r_18 b1 H locs hw G => ?_)
        obtain rfl := hw
        have G : zS T A s.heap s [[zO10 xo t im mk rd po co tr wa wb_ fi cd], z0_, wt, z1_] _ _ := G
        have G := G.sub (bs' := [[zO10 xo t im mk rd po co tr wa wb_ fi cd], wt, z0_, z1_]) [0, 2, 1, 3] rfl
        exact z_back hQ9 (z_iret C hr hlocks G (Nat.le_of_ble_eq_true rfl) (Nat.le_of_ble_eq_true rfl) dX11_classes_69 rfl)
      · refine lv_tableIn (tgt := 70) hx hb dX11_classes_17 (by omega) (by omega) (by rw [c_17]; rfl) (by decide) ?_
        refine lv_aload_n hx hb dX11_classes_70 rfl (lv_at hl 0 rfl) ?_
        refine lv_iconst (v := 1) hx hb dX11_classes_71 (by decide) ?_
        refine z_Si (bc := [z1_]) (br := [[zO10 xo t im mk rd po co tr wa wb_ fi cd], z0_, wt]) (As := [.ref l1, .int 1]) (rest := []) C G (c_parts l T l1 cr1_ inn1_ k11_ k21_ k31_ k41_ z1_ 1 hz1_ (by first | with_reducible assumption | with_reducible rfl | omega | assumption | rfl)) (kS_RX11_343 C.2.2.2.2 (Nat.le_of_ble_eq_true rfl) (Nat.le_of_ble_eq_true rfl)) [2] [2] rfl rfl rfl rfl hl.1 dX11_classes_72 (Nat.le_of_ble_eq_true rfl) (Nat.le_of_ble_eq_true rfl) (fun r_19 b1 H locs hw G => ?_)
        obtain rfl := hw
        have G : zS T A s.heap s [[zO10 xo t im mk rd po co tr wa wb_ fi cd], z0_, wt, z1_] _ _ := G
        have G := G.sub (bs' := [[zO10 xo t im mk rd po co tr wa wb_ fi cd], wt, z0_, z1_]) [0, 2, 1, 3] rfl
        exact z_back hQ9 (z_iret C hr hlocks G (Nat.le_of_ble_eq_true rfl) (Nat.le_of_ble_eq_true rfl) dX11_classes_75 rfl)
      · refine lv_tableIn (tgt := 76) hx hb dX11_classes_17 (by omega) (by omega) (by rw [c_17]; rfl) (by decide) ?_
        refine lv_aload_n hx hb dX11_classes_76 rfl (lv_at hl 0 rfl) ?_
        refine z_Si (bc := [z1_]) (br := [[zO10 xo t im mk rd po co tr wa wb_ fi cd], z0_, wt]) (As := [.ref l1]) (rest := []) C G (c_heads l T l1 cr1_ inn1_ k11_ k21_ k31_ k41_ z1_ hz1_ (by first | with_reducible assumption | with_reducible rfl | omega | assumption | rfl)) (kS_RX11_347 C.2.2.2.2 (Nat.le_of_ble_eq_true rfl) (Nat.le_of_ble_eq_true rfl)) [2] [2] rfl rfl rfl rfl hl.1 dX11_classes_77 (Nat.le_of_ble_eq_true rfl) (Nat.le_of_ble_eq_true rfl) (fun r_20 b1 H locs hw G => ?_)
        obtain rfl := hw
        have G : zS T A s.heap s [[zO10 xo t im mk rd po co tr wa wb_ fi cd], z0_, wt, z1_] _ _ := G
        have G := G.sub (bs' := [[zO10 xo t im mk rd po co tr wa wb_ fi cd], wt, z0_, z1_]) [0, 2, 1, 3] rfl
        exact z_back hQ9 (z_iret C hr hlocks G (Nat.le_of_ble_eq_true rfl) (Nat.le_of_ble_eq_true rfl) dX11_classes_80 rfl)
      · refine lv_tableIn (tgt := 81) hx hb dX11_classes_17 (by omega) (by omega) (by rw [c_17]; rfl) (by decide) ?_
        refine lv_aload_n hx hb dX11_classes_81 rfl (lv_at hl 0 rfl) ?_
        refine z_Si (bc := [z1_]) (br := [[zO10 xo t im mk rd po co tr wa wb_ fi cd], z0_, wt]) (As := [.ref l1]) (rest := []) C G (c_ends l T l1 cr1_ inn1_ k11_ k21_ k31_ k41_ z1_ hz1_ (by first | with_reducible assumption | with_reducible rfl | omega | assumption | rfl)) (kS_RX11_350 C.2.2.2.2 (Nat.le_of_ble_eq_true rfl) (Nat.le_of_ble_eq_true rfl)) [2] [2] rfl rfl rfl rfl hl.1 dX11_classes_82 (Nat.le_of_ble_eq_true rfl) (Nat.le_of_ble_eq_true rfl) (fun r_21 b1 H locs hw G => ?_)
        obtain rfl := hw
        have G : zS T A s.heap s [[zO10 xo t im mk rd po co tr wa wb_ fi cd], z0_, wt, z1_] _ _ := G
        have G := G.sub (bs' := [[zO10 xo t im mk rd po co tr wa wb_ fi cd], wt, z0_, z1_]) [0, 2, 1, 3] rfl
        exact z_back hQ9 (z_iret C hr hlocks G (Nat.le_of_ble_eq_true rfl) (Nat.le_of_ble_eq_true rfl) dX11_classes_85 rfl)
      · refine lv_tableIn (tgt := 86) hx hb dX11_classes_17 (by omega) (by omega) (by rw [c_17]; rfl) (by decide) ?_
        refine lv_aload_n hx hb dX11_classes_86 rfl (lv_at hl 0 rfl) ?_
        refine z_Si (bc := [z1_]) (br := [[zO10 xo t im mk rd po co tr wa wb_ fi cd], z0_, wt]) (As := [.ref l1]) (rest := []) C G (c_loops l T l1 cr1_ inn1_ k11_ k21_ k31_ k41_ z1_ hz1_ (by first | with_reducible assumption | with_reducible rfl | omega | assumption | rfl)) (kS_RX11_353 C.2.2.2.2 (Nat.le_of_ble_eq_true rfl) (Nat.le_of_ble_eq_true rfl)) [2] [2] rfl rfl rfl rfl hl.1 dX11_classes_87 (Nat.le_of_ble_eq_true rfl) (Nat.le_of_ble_eq_true rfl) (fun r_22 b1 H locs hw G => ?_)
        obtain rfl := hw
        have G : zS T A s.heap s [[zO10 xo t im mk rd po co tr wa wb_ fi cd], z0_, wt, z1_] _ _ := G
        have G := G.sub (bs' := [[zO10 xo t im mk rd po co tr wa wb_ fi cd], wt, z0_, z1_]) [0, 2, 1, 3] rfl
        exact z_back hQ9 (z_iret C hr hlocks G (Nat.le_of_ble_eq_true rfl) (Nat.le_of_ble_eq_true rfl) dX11_classes_90 rfl)
      · refine lv_tableIn (tgt := 91) hx hb dX11_classes_17 (by omega) (by omega) (by rw [c_17]; rfl) (by decide) ?_
        refine lv_aload_n hx hb dX11_classes_91 rfl (lv_at hl 0 rfl) ?_
        refine z_Si (bc := [z1_]) (br := [[zO10 xo t im mk rd po co tr wa wb_ fi cd], z0_, wt]) (As := [.ref l1]) (rest := []) C G (c_doubles l T l1 cr1_ inn1_ k11_ k21_ k31_ k41_ z1_ hz1_ (by first | with_reducible assumption | with_reducible rfl | omega | assumption | rfl)) (kS_RX11_356 C.2.2.2.2 (Nat.le_of_ble_eq_true rfl) (Nat.le_of_ble_eq_true rfl)) [2] [2] rfl rfl rfl rfl hl.1 dX11_classes_92 (Nat.le_of_ble_eq_true rfl) (Nat.le_of_ble_eq_true rfl) (fun r_23 b1 H locs hw G => ?_)
        obtain rfl := hw
        have G : zS T A s.heap s [[zO10 xo t im mk rd po co tr wa wb_ fi cd], z0_, wt, z1_] _ _ := G
        have G := G.sub (bs' := [[zO10 xo t im mk rd po co tr wa wb_ fi cd], wt, z0_, z1_]) [0, 2, 1, 3] rfl
        exact z_back hQ9 (z_iret C hr hlocks G (Nat.le_of_ble_eq_true rfl) (Nat.le_of_ble_eq_true rfl) dX11_classes_95 rfl)
      · refine lv_tableIn (tgt := 96) hx hb dX11_classes_17 (by omega) (by omega) (by rw [c_17]; rfl) (by decide) ?_
        refine lv_aload_n hx hb dX11_classes_96 rfl (lv_at hl 0 rfl) ?_
        refine z_Si (bc := [z1_]) (br := [[zO10 xo t im mk rd po co tr wa wb_ fi cd], z0_, wt]) (As := [.ref l1]) (rest := []) C G (c_even l T l1 cr1_ inn1_ k11_ k21_ k31_ k41_ z1_ hz1_ (by first | with_reducible assumption | with_reducible rfl | omega | assumption | rfl)) (kS_RX11_359 C.2.2.2.2 (Nat.le_of_ble_eq_true rfl) (Nat.le_of_ble_eq_true rfl)) [2] [2] rfl rfl rfl rfl hl.1 dX11_classes_97 (Nat.le_of_ble_eq_true rfl) (Nat.le_of_ble_eq_true rfl) (fun r_24 b1 H locs hw G => ?_)
        obtain rfl := hw
        have G : zS T A s.heap s [[zO10 xo t im mk rd po co tr wa wb_ fi cd], z0_, wt, z1_] _ _ := G
        have G := G.sub (bs' := [[zO10 xo t im mk rd po co tr wa wb_ fi cd], wt, z0_, z1_]) [0, 2, 1, 3] rfl
        exact z_back hQ9 (z_iret C hr hlocks G (Nat.le_of_ble_eq_true rfl) (Nat.le_of_ble_eq_true rfl) dX11_classes_100 rfl)
      · refine lv_tableIn (tgt := 101) hx hb dX11_classes_17 (by omega) (by omega) (by rw [c_17]; rfl) (by decide) ?_
        refine lv_aload_n hx hb dX11_classes_101 rfl (lv_at hl 0 rfl) ?_
        refine z_Si (bc := [z1_]) (br := [[zO10 xo t im mk rd po co tr wa wb_ fi cd], z0_, wt]) (As := [.ref l1]) (rest := []) C G (c_busy l T l1 cr1_ inn1_ k11_ k21_ k31_ k41_ z1_ hz1_ (by first | with_reducible assumption | with_reducible rfl | omega | assumption | rfl)) (kS_RX11_362 C.2.2.2.2 (Nat.le_of_ble_eq_true rfl) (Nat.le_of_ble_eq_true rfl)) [2] [2] rfl rfl rfl rfl hl.1 dX11_classes_102 (Nat.le_of_ble_eq_true rfl) (Nat.le_of_ble_eq_true rfl) (fun r_25 b1 H locs hw G => ?_)
        obtain rfl := hw
        have G : zS T A s.heap s [[zO10 xo t im mk rd po co tr wa wb_ fi cd], z0_, wt, z1_] _ _ := G
        have G := G.sub (bs' := [[zO10 xo t im mk rd po co tr wa wb_ fi cd], wt, z0_, z1_]) [0, 2, 1, 3] rfl
        exact z_back hQ9 (z_iret C hr hlocks G (Nat.le_of_ble_eq_true rfl) (Nat.le_of_ble_eq_true rfl) dX11_classes_105 rfl)


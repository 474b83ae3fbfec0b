def zRoad (f1 f2 : Nat → Int32) (way x : Int32) : Int32 := if x.toInt < 0 ∨ 7 ≤ x.toInt ∨ (f2 x.toNatClampNeg).toInt < 1 ∨ (f1 x.toNatClampNeg).toInt < 1 then 0 else way / f2 x.toNatClampNeg - way / f2 x.toNatClampNeg / f1 x.toNatClampNeg * f1 x.toNatClampNeg
def zEntry (f5 : Nat → Int32) (n : Nat) (way x : Int32) : Int32 := if 0 ≤ ((way <<< (3 &&& 31)) + x).toInt ∧ ((way <<< (3 &&& 31)) + x).toInt < n then f5 ((way <<< (3 &&& 31)) + x).toNatClampNeg else 0
theorem z_and7 (x : Int32) : 0 ≤ (x &&& 7).toInt ∧ (x &&& 7).toInt ≤ 7 := by
  obtain ⟨j, hj, e⟩ := pk_andE x (m := 7) 3 (by decide)
  rw [e, nI_toInt (by omega)]
  omega
theorem z_andP (x : Int32) : 0 ≤ (x &&& 131071).toInt := by
  obtain ⟨j, hj, e⟩ := pk_andE x (m := 131071) 17 (by decide)
  rw [e, nI_toInt (by omega)]
  omega
set_option maxHeartbeats 4000000 in
set_option maxRecDepth 100000 in
/-- place -/
theorem c_place (l : Launch) (T : zTy) (x : Int32) (y : Int32) : zMi l T yX0_place cX0_place 2 (some .int) 1 0 0 [.int x, .int y] [] (fun (r : Int32) bs => bs = [] ∧ r = (x <<< (3 &&& 31)) + y) := by
  refine zMi_of (own := RX0) (by decide) rfl (Nat.le_of_ble_eq_true rfl) ?_
  intro p e s m args below meth c A ls C hr hlocks hnm hAe G hl
  refine zHide (fun Q9 hQ9 => ?_)
  have hx := C.1
  have hb := C.2.1
  have hl : lv_has ls 2 [(0, .int x), (1, .int y)] := hl
  refine lv_iload_n hx hb dX0_place_0 rfl (lv_at hl 0 rfl) ?_
  refine lv_iconst (v := 3) hx hb dX0_place_1 (by decide) ?_
  refine lv_ishl hx hb dX0_place_2 ?_
  refine lv_iload_n hx hb dX0_place_3 rfl (lv_at hl 1 rfl) ?_
  refine lv_iadd hx hb dX0_place_4 ?_
  exact z_back hQ9 (z_iret C hr hlocks G (Nat.le_of_ble_eq_true rfl) (Nat.le_of_ble_eq_true rfl) dX0_place_5 ⟨rfl, rfl⟩)
set_option maxHeartbeats 4000000 in
set_option maxRecDepth 100000 in
/-- c_road -/
theorem c_road (l : Launch) (T : zTy) (h : Nat) (la : Nat) (md : Int32) (wy : Int32) (pc_ : Int32) (f1 : Nat → Int32) (f2 : Nat → Int32) (f3 : Nat → Int32) (f4 : Nat → Int32) (f5 : Nat → Int32) (f6 : Nat → Int32) (n4 : Nat) (ww : va_W) (x : Int32) (y : Int32) (hww : bWays T h la md wy pc_ f1 f2 f3 f4 f5 f6 n4 ww) : zMi l T yX0_road cX0_road 3 (some .int) 1 0 0 [.ref h, .int x, .int y] [ww] (fun (r : Int32) bs => bs = [ww] ∧ r = zRoad f1 f2 x y) := by
  refine zMi_of (own := RX0) (by decide) rfl (Nat.le_of_ble_eq_true rfl) ?_
  intro p e s m args below meth c A ls C hr hlocks hnm hAe G hl
  refine zHide (fun Q9 hQ9 => ?_)
  have hx := C.1
  have hb := C.2.1
  have hl : lv_has ls 3 [(0, .ref h), (1, .int x), (2, .int y)] := hl
  refine lv_iload_n hx hb dX0_road_0 rfl (lv_at hl 2 rfl) ?_
  refine lv_if_lt (tgt := 30) hx hb dX0_road_1 (by decide) (fun c_1 => ?_) (fun c_1 => ?_)
  · have c_1n : y.toInt < (0 : Int) := (fa_lt _ _).mp c_1
    refine lv_iconst (v := 0) hx hb dX0_road_30 (by decide) ?_
    exact z_back hQ9 (z_iret C hr hlocks G (Nat.le_of_ble_eq_true rfl) (Nat.le_of_ble_eq_true rfl) dX0_road_31 ⟨rfl, (by unfold zRoad; rw [if_pos (by omega)])⟩)
  · have c_1n : ¬ y.toInt < (0 : Int) := fun q => c_1 ((fa_lt _ _).mpr q)
    refine lv_iload_n hx hb dX0_road_4 rfl (lv_at hl 2 rfl) ?_
    refine lv_bipush (v := 7) hx hb dX0_road_5 (by decide) ?_
    refine lv_icmp_ge (tgt := 30) hx hb dX0_road_7 (by decide) (fun c_2 => ?_) (fun c_2 => ?_)
    · have c_2n : (7 : Int) ≤ y.toInt := (fa_le _ _).mp c_2
      refine lv_iconst (v := 0) hx hb dX0_road_30 (by decide) ?_
      exact z_back hQ9 (z_iret C hr hlocks G (Nat.le_of_ble_eq_true rfl) (Nat.le_of_ble_eq_true rfl) dX0_road_31 ⟨rfl, (by unfold zRoad; rw [if_pos (by omega)])⟩)
    · have c_2n : ¬ (7 : Int) ≤ y.toInt := fun q => c_2 ((fa_le _ _).mpr q)
      refine lv_aload_n hx hb dX0_road_10 rfl (lv_at hl 0 rfl) ?_
      refine zEx6 hww ?_
      intro a1_3 a2_4 a3_5 a4_6 a5_7 a6_8 hbs9
      clear hww
      subst hbs9
      have G : zS T A s.heap s [[zO0 h md wy la pc_ a1_3 a2_4 a3_5 a4_6 a5_7 a6_8], [zAr T 0 a1_3 7 f1], [zAr T 0 a2_4 7 f2], [zAr T 0 a3_5 7 f3], [zAr T 0 a4_6 n4 f4], [zAr T 0 a5_7 n4 f5], [zAr T 0 a6_8 n4 f6]] _ _ := G.re rfl
      refine z_get C G clX0 0 rfl 5 (by decide) m_fl_RX0_22 rfl dX0_road_11 ?_
      refine lv_iload_n hx hb dX0_road_14 rfl (lv_at hl 2 rfl) ?_
      refine z_ild C G 2 rfl (vp_in_iff.mpr ⟨by omega, by omega⟩) dX0_road_15 ?_
      refine lv_topi (fun v_9 ev_9 => ?_)
      subst ev_9
      refine lv_iconst (v := 1) hx hb dX0_road_16 (by decide) ?_
      refine lv_icmp_lt (tgt := 30) hx hb dX0_road_17 (by decide) (fun c_10 => ?_) (fun c_10 => ?_)
      · have c_10n : (f2 y.toNatClampNeg).toInt < (1 : Int) := (fa_lt _ _).mp c_10
        refine lv_iconst (v := 0) hx hb dX0_road_30 (by decide) ?_
        have hw_11 : bWays T h la md wy pc_ f1 f2 f3 f4 f5 f6 n4 [zO0 h md wy la pc_ a1_3 a2_4 a3_5 a4_6 a5_7 a6_8, zAr T 0 a1_3 7 f1, zAr T 0 a2_4 7 f2, zAr T 0 a3_5 7 f3, zAr T 0 a4_6 n4 f4, zAr T 0 a5_7 n4 f5, zAr T 0 a6_8 n4 f6] := ⟨a1_3, a2_4, a3_5, a4_6, a5_7, a6_8, rfl⟩
        have G : zS T A s.heap s [[zO0 h md wy la pc_ a1_3 a2_4 a3_5 a4_6 a5_7 a6_8, zAr T 0 a1_3 7 f1, zAr T 0 a2_4 7 f2, zAr T 0 a3_5 7 f3, zAr T 0 a4_6 n4 f4, zAr T 0 a5_7 n4 f5, zAr T 0 a6_8 n4 f6]] _ _ := G.re rfl
        exact z_back hQ9 (z_iret C hr hlocks G (Nat.le_of_ble_eq_true rfl) (Nat.le_of_ble_eq_true rfl) dX0_road_31 ⟨rfl, (by unfold zRoad; rw [if_pos (by omega)])⟩)
      · have c_10n : ¬ (f2 y.toNatClampNeg).toInt < (1 : Int) := fun q => c_10 ((fa_lt _ _).mpr q)
        refine lv_aload_n hx hb dX0_road_20 rfl (lv_at hl 0 rfl) ?_
        refine z_get C G clX0 0 rfl 4 (by decide) m_fl_RX0_18 rfl dX0_road_21 ?_
        refine lv_iload_n hx hb dX0_road_24 rfl (lv_at hl 2 rfl) ?_
        refine z_ild C G 1 rfl (vp_in_iff.mpr ⟨by omega, by omega⟩) dX0_road_25 ?_
        refine lv_topi (fun v_12 ev_12 => ?_)
        subst ev_12
        refine lv_iconst (v := 1) hx hb dX0_road_26 (by decide) ?_
        refine lv_icmp_ge (tgt := 32) hx hb dX0_road_27 (by decide) (fun c_13 => ?_) (fun c_13 => ?_)
        · have c_13n : (1 : Int) ≤ (f1 y.toNatClampNeg).toInt := (fa_le _ _).mp c_13
          refine lv_iload_n hx hb dX0_road_32 rfl (lv_at hl 1 rfl) ?_
          refine lv_aload_n hx hb dX0_road_33 rfl (lv_at hl 0 rfl) ?_
          refine z_get C G clX0 0 rfl 5 (by decide) m_fl_RX0_22 rfl dX0_road_34 ?_
          refine lv_iload_n hx hb dX0_road_37 rfl (lv_at hl 2 rfl) ?_
          refine z_ild C G 2 rfl (vp_in_iff.mpr ⟨by omega, by omega⟩) dX0_road_38 ?_
          refine lv_topi (fun v_14 ev_14 => ?_)
          subst ev_14
          refine lv_idiv hx hb dX0_road_39 (fun q => absurd (congrArg Int32.toInt q) (by show ¬ _ = (0 : Int); omega)) ?_
          refine lv_aload_n hx hb dX0_road_40 rfl (lv_at hl 0 rfl) ?_
          refine z_get C G clX0 0 rfl 4 (by decide) m_fl_RX0_18 rfl dX0_road_41 ?_
          refine lv_iload_n hx hb dX0_road_44 rfl (lv_at hl 2 rfl) ?_
          refine z_ild C G 1 rfl (vp_in_iff.mpr ⟨by omega, by omega⟩) dX0_road_45 ?_
          refine lv_topi (fun v_15 ev_15 => ?_)
          subst ev_15
          refine lv_irem hx hb dX0_road_46 (fun q => absurd (congrArg Int32.toInt q) (by show ¬ _ = (0 : Int); omega)) ?_
          have hw_16 : bWays T h la md wy pc_ f1 f2 f3 f4 f5 f6 n4 [zO0 h md wy la pc_ a1_3 a2_4 a3_5 a4_6 a5_7 a6_8, zAr T 0 a1_3 7 f1, zAr T 0 a2_4 7 f2, zAr T 0 a3_5 7 f3, zAr T 0 a4_6 n4 f4, zAr T 0 a5_7 n4 f5, zAr T 0 a6_8 n4 f6] := ⟨a1_3, a2_4, a3_5, a4_6, a5_7, a6_8, rfl⟩
          have G : zS T A s.heap s [[zO0 h md wy la pc_ a1_3 a2_4 a3_5 a4_6 a5_7 a6_8, zAr T 0 a1_3 7 f1, zAr T 0 a2_4 7 f2, zAr T 0 a3_5 7 f3, zAr T 0 a4_6 n4 f4, zAr T 0 a5_7 n4 f5, zAr T 0 a6_8 n4 f6]] _ _ := G.re rfl
          exact z_back hQ9 (z_iret C hr hlocks G (Nat.le_of_ble_eq_true rfl) (Nat.le_of_ble_eq_true rfl) dX0_road_47 ⟨rfl, (by unfold zRoad; rw [if_neg (by omega)])⟩)
        · have c_13n : ¬ (1 : Int) ≤ (f1 y.toNatClampNeg).toInt := fun q => c_13 ((fa_le _ _).mpr q)
          refine lv_iconst (v := 0) hx hb dX0_road_30 (by decide) ?_
          have hw_17 : bWays T h la md wy pc_ f1 f2 f3 f4 f5 f6 n4 [zO0 h md wy la pc_ a1_3 a2_4 a3_5 a4_6 a5_7 a6_8, zAr T 0 a1_3 7 f1, zAr T 0 a2_4 7 f2, zAr T 0 a3_5 7 f3, zAr T 0 a4_6 n4 f4, zAr T 0 a5_7 n4 f5, zAr T 0 a6_8 n4 f6] := ⟨a1_3, a2_4, a3_5, a4_6, a5_7, a6_8, rfl⟩
          have G : zS T A s.heap s [[zO0 h md wy la pc_ a1_3 a2_4 a3_5 a4_6 a5_7 a6_8, zAr T 0 a1_3 7 f1, zAr T 0 a2_4 7 f2, zAr T 0 a3_5 7 f3, zAr T 0 a4_6 n4 f4, zAr T 0 a5_7 n4 f5, zAr T 0 a6_8 n4 f6]] _ _ := G.re rfl
          exact z_back hQ9 (z_iret C hr hlocks G (Nat.le_of_ble_eq_true rfl) (Nat.le_of_ble_eq_true rfl) dX0_road_31 ⟨rfl, (by unfold zRoad; rw [if_pos (by omega)])⟩)
set_option maxHeartbeats 4000000 in
set_option maxRecDepth 100000 in
/-- c_entry -/
theorem c_entry (l : Launch) (T : zTy) (h : Nat) (la : Nat) (md : Int32) (wy : Int32) (pc_ : Int32) (f1 : Nat → Int32) (f2 : Nat → Int32) (f3 : Nat → Int32) (f4 : Nat → Int32) (f5 : Nat → Int32) (f6 : Nat → Int32) (n4 : Nat) (ww : va_W) (x : Int32) (y : Int32) (hww : bWays T h la md wy pc_ f1 f2 f3 f4 f5 f6 n4 ww) (hn : n4 ≤ 131072) : zMi l T yX0_entry cX0_entry 4 (some .int) 1 0 0 [.ref h, .int x, .int y] [ww] (fun (r : Int32) bs => bs = [ww] ∧ r = zEntry f5 n4 x y) := by
  refine zMi_of (own := RX0) (by decide) rfl (Nat.le_of_ble_eq_true rfl) ?_
  intro p e s m args below meth c A ls C hr hlocks hnm hAe G hl
  refine zHide (fun Q9 hQ9 => ?_)
  have hx := C.1
  have hb := C.2.1
  have hl : lv_has ls 4 [(0, .ref h), (1, .int x), (2, .int y)] := hl
  refine lv_iload_n hx hb dX0_entry_0 rfl (lv_at hl 1 rfl) ?_
  refine lv_iconst (v := 3) hx hb dX0_entry_1 (by decide) ?_
  refine lv_ishl hx hb dX0_entry_2 ?_
  refine lv_iload_n hx hb dX0_entry_3 rfl (lv_at hl 2 rfl) ?_
  refine lv_iadd hx hb dX0_entry_4 ?_
  refine lv_istore_n (lv' := [(3, .int ((x <<< (3 &&& 31)) + y)), (0, .ref h), (1, .int x), (2, .int y)]) hx hb dX0_entry_5 rfl hl (by decide) rfl (fun ls hl => ?_)
  refine lv_iload_n hx hb dX0_entry_6 rfl (lv_at hl 0 rfl) ?_
  refine lv_if_lt (tgt := 28) hx hb dX0_entry_7 (by decide) (fun c_1 => ?_) (fun c_1 => ?_)
  · have c_1n : ((x <<< (3 &&& 31)) + y).toInt < (0 : Int) := (fa_lt _ _).mp c_1
    refine lv_iconst (v := 0) hx hb dX0_entry_28 (by decide) ?_
    exact z_back hQ9 (z_iret C hr hlocks G (Nat.le_of_ble_eq_true rfl) (Nat.le_of_ble_eq_true rfl) dX0_entry_29 ⟨rfl, (by unfold zEntry; rw [if_neg (by omega)])⟩)
  · have c_1n : ¬ ((x <<< (3 &&& 31)) + y).toInt < (0 : Int) := fun q => c_1 ((fa_lt _ _).mpr q)
    refine lv_iload_n hx hb dX0_entry_10 rfl (lv_at hl 0 rfl) ?_
    refine lv_aload_n hx hb dX0_entry_11 rfl (lv_at hl 1 rfl) ?_
    refine zEx6 hww ?_
    intro a1_2 a2_3 a3_4 a4_5 a5_6 a6_7 hbs9
    clear hww
    subst hbs9
    have G : zS T A s.heap s [[zO0 h md wy la pc_ a1_2 a2_3 a3_4 a4_5 a5_6 a6_7], [zAr T 0 a1_2 7 f1], [zAr T 0 a2_3 7 f2], [zAr T 0 a3_4 7 f3], [zAr T 0 a4_5 n4 f4], [zAr T 0 a5_6 n4 f5], [zAr T 0 a6_7 n4 f6]] _ _ := G.re rfl
    refine z_get C G clX0 0 rfl 8 (by decide) m_fl_RX0_31 rfl dX0_entry_12 ?_
    refine z_alen C G 5 0 rfl (v := nI n4) rfl rfl dX0_entry_15 ?_
    refine lv_icmp_ge (tgt := 28) hx hb dX0_entry_16 (by decide) (fun c_8 => ?_) (fun c_8 => ?_)
    · have c_8n : (n4 : Int) ≤ ((x <<< (3 &&& 31)) + y).toInt := by have q := (fa_le _ _).mp c_8; rw [nI_toInt (n := n4) (by omega)] at q; exact q
      refine lv_iconst (v := 0) hx hb dX0_entry_28 (by decide) ?_
      have hw_9 : bWays T h la md wy pc_ f1 f2 f3 f4 f5 f6 n4 [zO0 h md wy la pc_ a1_2 a2_3 a3_4 a4_5 a5_6 a6_7, zAr T 0 a1_2 7 f1, zAr T 0 a2_3 7 f2, zAr T 0 a3_4 7 f3, zAr T 0 a4_5 n4 f4, zAr T 0 a5_6 n4 f5, zAr T 0 a6_7 n4 f6] := ⟨a1_2, a2_3, a3_4, a4_5, a5_6, a6_7, rfl⟩
      have G : zS T A s.heap s [[zO0 h md wy la pc_ a1_2 a2_3 a3_4 a4_5 a5_6 a6_7, zAr T 0 a1_2 7 f1, zAr T 0 a2_3 7 f2, zAr T 0 a3_4 7 f3, zAr T 0 a4_5 n4 f4, zAr T 0 a5_6 n4 f5, zAr T 0 a6_7 n4 f6]] _ _ := G.re rfl
      exact z_back hQ9 (z_iret C hr hlocks G (Nat.le_of_ble_eq_true rfl) (Nat.le_of_ble_eq_true rfl) dX0_entry_29 ⟨rfl, (by unfold zEntry; rw [if_neg (by omega)])⟩)
    · have c_8n : ¬ (n4 : Int) ≤ ((x <<< (3 &&& 31)) + y).toInt := fun q => c_8 ((fa_le _ _).mpr (by rw [nI_toInt (n := n4) (by omega)]; exact q))
      refine lv_aload_n hx hb dX0_entry_19 rfl (lv_at hl 1 rfl) ?_
      refine z_get C G clX0 0 rfl 8 (by decide) m_fl_RX0_31 rfl dX0_entry_20 ?_
      refine lv_iload_n hx hb dX0_entry_23 rfl (lv_at hl 0 rfl) ?_
      refine z_ild C G 5 rfl (vp_in_iff.mpr ⟨by omega, by omega⟩) dX0_entry_24 ?_
      refine lv_topi (fun v_10 ev_10 => ?_)
      subst ev_10
      refine lv_goto (tgt := 29) hx hb dX0_entry_25 (by decide) ?_
      have hw_11 : bWays T h la md wy pc_ f1 f2 f3 f4 f5 f6 n4 [zO0 h md wy la pc_ a1_2 a2_3 a3_4 a4_5 a5_6 a6_7, zAr T 0 a1_2 7 f1, zAr T 0 a2_3 7 f2, zAr T 0 a3_4 7 f3, zAr T 0 a4_5 n4 f4, zAr T 0 a5_6 n4 f5, zAr T 0 a6_7 n4 f6] := ⟨a1_2, a2_3, a3_4, a4_5, a5_6, a6_7, rfl⟩
      have G : zS T A s.heap s [[zO0 h md wy la pc_ a1_2 a2_3 a3_4 a4_5 a5_6 a6_7, zAr T 0 a1_2 7 f1, zAr T 0 a2_3 7 f2, zAr T 0 a3_4 7 f3, zAr T 0 a4_5 n4 f4, zAr T 0 a5_6 n4 f5, zAr T 0 a6_7 n4 f6]] _ _ := G.re rfl
      exact z_back hQ9 (z_iret C hr hlocks G (Nat.le_of_ble_eq_true rfl) (Nat.le_of_ble_eq_true rfl) dX0_entry_29 ⟨rfl, (by unfold zEntry; rw [if_pos (by omega)])⟩)
set_option maxHeartbeats 4000000 in
set_option maxRecDepth 100000 in
/-- c_where -/
theorem c_where (l : Launch) (T : zTy) (h : Nat) (la : Nat) (md : Int32) (wy : Int32) (pc_ : Int32) (f1 : Nat → Int32) (f2 : Nat → Int32) (f3 : Nat → Int32) (f4 : Nat → Int32) (f5 : Nat → Int32) (f6 : Nat → Int32) (n4 : Nat) (ww : va_W) (x : Int32) (y : Int32) (hww : bWays T h la md wy pc_ f1 f2 f3 f4 f5 f6 n4 ww) (hn : n4 ≤ 131072) : zMi l T yX0_where cX0_where 3 (some .int) 2 0 0 [.ref h, .int x, .int y] [ww] (fun (r : Int32) bs => bs = [ww] ∧ r = zEntry f5 n4 x y &&& 7) := by
  refine zMi_of (own := RX0) (by decide) rfl (Nat.le_of_ble_eq_true rfl) ?_
  intro p e s m args below meth c A ls C hr hlocks hnm hAe G hl
  refine zHide (fun Q9 hQ9 => ?_)
  have hx := C.1
  have hb := C.2.1
  have hl : lv_has ls 3 [(0, .ref h), (1, .int x), (2, .int y)] := hl
  refine lv_aload_n hx hb dX0_where_0 rfl (lv_at hl 0 rfl) ?_
  refine lv_iload_n hx hb dX0_where_1 rfl (lv_at hl 1 rfl) ?_
  refine lv_iload_n hx hb dX0_where_2 rfl (lv_at hl 2 rfl) ?_
  refine z_Vi (bc := [ww]) (br := []) (As := [.int x, .int y]) (rest := []) C G (c_entry l T h la md wy pc_ f1 f2 f3 f4 f5 f6 n4 ww x y hww (by first | with_reducible assumption | with_reducible rfl | omega | assumption | rfl)) (kV_RX0_91 C.2.2.2.2 (Nat.le_of_ble_eq_true rfl) (Nat.le_of_ble_eq_true rfl)) [0] [0] rfl rfl (ci := 0) (qc := (RX0, TX0, 10)) rfl rfl (List.mem_flatten.mpr ⟨_, List.mem_of_getElem? (i := 0) rfl, (bWays_mem hww).choose_spec⟩) rfl rfl hl.1 dX0_where_3 (Nat.le_of_ble_eq_true rfl) (Nat.le_of_ble_eq_true rfl) (fun r_2 b1 H locs hw G => ?_)
  refine zAn2 hw ?_
  intro hbs9 h_1
  clear hw
  subst hbs9
  have G : zS T A s.heap s [ww] _ _ := G
  subst h_1
  refine lv_bipush (v := 7) hx hb dX0_where_6 (by decide) ?_
  refine lv_iand hx hb dX0_where_8 ?_
  exact z_back hQ9 (z_iret C hr hlocks G (Nat.le_of_ble_eq_true rfl) (Nat.le_of_ble_eq_true rfl) dX0_where_9 ⟨rfl, rfl⟩)
set_option maxHeartbeats 4000000 in
set_option maxRecDepth 100000 in
/-- c_steps -/
theorem c_steps (l : Launch) (T : zTy) (h : Nat) (la : Nat) (md : Int32) (wy : Int32) (pc_ : Int32) (f1 : Nat → Int32) (f2 : Nat → Int32) (f3 : Nat → Int32) (f4 : Nat → Int32) (f5 : Nat → Int32) (f6 : Nat → Int32) (n4 : Nat) (ww : va_W) (x : Int32) (y : Int32) (hww : bWays T h la md wy pc_ f1 f2 f3 f4 f5 f6 n4 ww) (hn : n4 ≤ 131072) : zMi l T yX0_steps cX0_steps 3 (some .int) 2 0 0 [.ref h, .int x, .int y] [ww] (fun (r : Int32) bs => bs = [ww] ∧ r = zEntry f5 n4 x y >>> (17 &&& 31)) := by
  refine zMi_of (own := RX0) (by decide) rfl (Nat.le_of_ble_eq_true rfl) ?_
  intro p e s m args below meth c A ls C hr hlocks hnm hAe G hl
  refine zHide (fun Q9 hQ9 => ?_)
  have hx := C.1
  have hb := C.2.1
  have hl : lv_has ls 3 [(0, .ref h), (1, .int x), (2, .int y)] := hl
  refine lv_aload_n hx hb dX0_steps_0 rfl (lv_at hl 0 rfl) ?_
  refine lv_iload_n hx hb dX0_steps_1 rfl (lv_at hl 1 rfl) ?_
  refine lv_iload_n hx hb dX0_steps_2 rfl (lv_at hl 2 rfl) ?_
  refine z_Vi (bc := [ww]) (br := []) (As := [.int x, .int y]) (rest := []) C G (c_entry l T h la md wy pc_ f1 f2 f3 f4 f5 f6 n4 ww x y hww (by first | with_reducible assumption | with_reducible rfl | omega | assumption | rfl)) (kV_RX0_91 C.2.2.2.2 (Nat.le_of_ble_eq_true rfl) (Nat.le_of_ble_eq_true rfl)) [0] [0] rfl rfl (ci := 0) (qc := (RX0, TX0, 10)) rfl rfl (List.mem_flatten.mpr ⟨_, List.mem_of_getElem? (i := 0) rfl, (bWays_mem hww).choose_spec⟩) rfl rfl hl.1 dX0_steps_3 (Nat.le_of_ble_eq_true rfl) (Nat.le_of_ble_eq_true rfl) (fun r_2 b1 H locs hw G => ?_)
  refine zAn2 hw ?_
  intro hbs9 h_1
  clear hw
  subst hbs9
  have G : zS T A s.heap s [ww] _ _ := G
  subst h_1
  refine lv_bipush (v := 17) hx hb dX0_steps_6 (by decide) ?_
  refine lv_ishr hx hb dX0_steps_8 ?_
  exact z_back hQ9 (z_iret C hr hlocks G (Nat.le_of_ble_eq_true rfl) (Nat.le_of_ble_eq_true rfl) dX0_steps_9 ⟨rfl, rfl⟩)
set_option maxHeartbeats 4000000 in
set_option maxRecDepth 100000 in
/-- c_wayAfter -/
theorem c_wayAfter (l : Launch) (T : zTy) (h : Nat) (la : Nat) (md : Int32) (wy : Int32) (pc_ : Int32) (f1 : Nat → Int32) (f2 : Nat → Int32) (f3 : Nat → Int32) (f4 : Nat → Int32) (f5 : Nat → Int32) (f6 : Nat → Int32) (n4 : Nat) (ww : va_W) (x : Int32) (y : Int32) (hww : bWays T h la md wy pc_ f1 f2 f3 f4 f5 f6 n4 ww) (hn : n4 ≤ 131072) : zMi l T yX0_wayAfter cX0_wayAfter 3 (some .int) 2 0 0 [.ref h, .int x, .int y] [ww] (fun (r : Int32) bs => bs = [ww] ∧ r = (zEntry f5 n4 x y &&& 131071) >>> (3 &&& 31)) := by
  refine zMi_of (own := RX0) (by decide) rfl (Nat.le_of_ble_eq_true rfl) ?_
  intro p e s m args below meth c A ls C hr hlocks hnm hAe G hl
  refine zHide (fun Q9 hQ9 => ?_)
  have hx := C.1
  have hb := C.2.1
  have hl : lv_has ls 3 [(0, .ref h), (1, .int x), (2, .int y)] := hl
  refine lv_aload_n hx hb dX0_wayAfter_0 rfl (lv_at hl 0 rfl) ?_
  refine lv_iload_n hx hb dX0_wayAfter_1 rfl (lv_at hl 1 rfl) ?_
  refine lv_iload_n hx hb dX0_wayAfter_2 rfl (lv_at hl 2 rfl) ?_
  refine z_Vi (bc := [ww]) (br := []) (As := [.int x, .int y]) (rest := []) C G (c_entry l T h la md wy pc_ f1 f2 f3 f4 f5 f6 n4 ww x y hww (by first | with_reducible assumption | with_reducible rfl | omega | assumption | rfl)) (kV_RX0_91 C.2.2.2.2 (Nat.le_of_ble_eq_true rfl) (Nat.le_of_ble_eq_true rfl)) [0] [0] rfl rfl (ci := 0) (qc := (RX0, TX0, 10)) rfl rfl (List.mem_flatten.mpr ⟨_, List.mem_of_getElem? (i := 0) rfl, (bWays_mem hww).choose_spec⟩) rfl rfl hl.1 dX0_wayAfter_3 (Nat.le_of_ble_eq_true rfl) (Nat.le_of_ble_eq_true rfl) (fun r_2 b1 H locs hw G => ?_)
  refine zAn2 hw ?_
  intro hbs9 h_1
  clear hw
  subst hbs9
  have G : zS T A s.heap s [ww] _ _ := G
  subst h_1
  refine lv_ldc (v := 131071) hx hb C.2.2.2.1 (C.2.2.2.2 _ m_ko_RX0_90) dX0_wayAfter_6 ?_
  refine lv_iand hx hb dX0_wayAfter_8 ?_
  refine lv_iconst (v := 3) hx hb dX0_wayAfter_9 (by decide) ?_
  refine lv_ishr hx hb dX0_wayAfter_10 ?_
  exact z_back hQ9 (z_iret C hr hlocks G (Nat.le_of_ble_eq_true rfl) (Nat.le_of_ble_eq_true rfl) dX0_wayAfter_11 ⟨rfl, rfl⟩)
set_option maxHeartbeats 4000000 in
set_option maxRecDepth 100000 in
/-- c_stepsOrNever -/
theorem c_stepsOrNever (l : Launch) (T : zTy) (h : Nat) (la : Nat) (md : Int32) (wy : Int32) (pc_ : Int32) (f1 : Nat → Int32) (f2 : Nat → Int32) (f3 : Nat → Int32) (f4 : Nat → Int32) (f5 : Nat → Int32) (f6 : Nat → Int32) (n4 : Nat) (ww : va_W) (cr : Int32) (inn : Int32) (k1 : Nat → Int32) (k2 : Nat → Int32) (k3 : Nat → Int32) (k4 : Nat → Int32) (z : va_W) (x : Int32) (y : Int32) (hww : bWays T h la md wy pc_ f1 f2 f3 f4 f5 f6 n4 ww) (hz : bLand T la cr inn k1 k2 k3 k4 z) (hn : n4 ≤ 131072) : zMi l T yX0_stepsOrNever cX0_stepsOrNever 3 (some .int) 3 0 0 [.ref h, .int x, .int y] [ww, z] (fun (r : Int32) bs => bs = [ww, z]) := by
  refine zMi_of (own := RX0) (by decide) rfl (Nat.le_of_ble_eq_true rfl) ?_
  intro p e s m args below meth c A ls C hr hlocks hnm hAe G hl
  refine zHide (fun Q9 hQ9 => ?_)
  have hx := C.1
  have hb := C.2.1
  have hl : lv_has ls 3 [(0, .ref h), (1, .int x), (2, .int y)] := hl
  refine lv_aload_n hx hb dX0_stepsOrNever_0 rfl (lv_at hl 0 rfl) ?_
  refine zEx6 hww ?_
  intro a1_1 a2_2 a3_3 a4_4 a5_5 a6_6 hbs9
  clear hww
  subst hbs9
  have G : zS T A s.heap s [[zO0 h md wy la pc_ a1_1 a2_2 a3_3 a4_4 a5_5 a6_6], [zAr T 0 a1_1 7 f1], [zAr T 0 a2_2 7 f2], [zAr T 0 a3_3 7 f3], [zAr T 0 a4_4 n4 f4], [zAr T 0 a5_5 n4 f5], [zAr T 0 a6_6 n4 f6], z] _ _ := G.re rfl
  refine z_get C G clX0 0 rfl 2 (by decide) m_fl_RX0_14 rfl dX0_stepsOrNever_1 ?_
  refine lv_aload_n hx hb dX0_stepsOrNever_4 rfl (lv_at hl 0 rfl) ?_
  refine lv_iload_n hx hb dX0_stepsOrNever_5 rfl (lv_at hl 1 rfl) ?_
  refine lv_iload_n hx hb dX0_stepsOrNever_6 rfl (lv_at hl 2 rfl) ?_
  have hw_7 : bWays T h la md wy pc_ f1 f2 f3 f4 f5 f6 n4 [zO0 h md wy la pc_ a1_1 a2_2 a3_3 a4_4 a5_5 a6_6, zAr T 0 a1_1 7 f1, zAr T 0 a2_2 7 f2, zAr T 0 a3_3 7 f3, zAr T 0 a4_4 n4 f4, zAr T 0 a5_5 n4 f5, zAr T 0 a6_6 n4 f6] := ⟨a1_1, a2_2, a3_3, a4_4, a5_5, a6_6, rfl⟩
  have G : zS T A s.heap s [[zO0 h md wy la pc_ a1_1 a2_2 a3_3 a4_4 a5_5 a6_6, zAr T 0 a1_1 7 f1, zAr T 0 a2_2 7 f2, zAr T 0 a3_3 7 f3, zAr T 0 a4_4 n4 f4, zAr T 0 a5_5 n4 f5, zAr T 0 a6_6 n4 f6], z] _ _ := G.re rfl
  refine z_Vi (bc := [[zO0 h md wy la pc_ a1_1 a2_2 a3_3 a4_4 a5_5 a6_6, zAr T 0 a1_1 7 f1, zAr T 0 a2_2 7 f2, zAr T 0 a3_3 7 f3, zAr T 0 a4_4 n4 f4, zAr T 0 a5_5 n4 f5, zAr T 0 a6_6 n4 f6]]) (br := [z]) (As := [.int x, .int y]) (rest := [.ref la]) C G (c_where l T h la md wy pc_ f1 f2 f3 f4 f5 f6 n4 ([zO0 h md wy la pc_ a1_1 a2_2 a3_3 a4_4 a5_5 a6_6, zAr T 0 a1_1 7 f1, zAr T 0 a2_2 7 f2, zAr T 0 a3_3 7 f3, zAr T 0 a4_4 n4 f4, zAr T 0 a5_5 n4 f5, zAr T 0 a6_6 n4 f6]) x y hw_7 (by first | with_reducible assumption | with_reducible rfl | omega | assumption | rfl)) (kV_RX0_94 C.2.2.2.2 (Nat.le_of_ble_eq_true rfl) (Nat.le_of_ble_eq_true rfl)) [0] [0] rfl rfl (ci := 0) (qc := (RX0, TX0, 10)) rfl rfl (List.mem_flatten.mpr ⟨_, List.mem_of_getElem? (i := 0) rfl, (bWays_mem hw_7).choose_spec⟩) rfl rfl hl.1 dX0_stepsOrNever_7 (Nat.le_of_ble_eq_true rfl) (Nat.le_of_ble_eq_true rfl) (fun r_9 b1 H locs hw G => ?_)
  refine zAn2 hw ?_
  intro hbs9 h_8
  clear hw
  subst hbs9
  have G : zS T A s.heap s [z, [zO0 h md wy la pc_ a1_1 a2_2 a3_3 a4_4 a5_5 a6_6, zAr T 0 a1_1 7 f1, zAr T 0 a2_2 7 f2, zAr T 0 a3_3 7 f3, zAr T 0 a4_4 n4 f4, zAr T 0 a5_5 n4 f5, zAr T 0 a6_6 n4 f6]] _ _ := G
  subst h_8
  refine z_Vi (bc := [z]) (br := [[zO0 h md wy la pc_ a1_1 a2_2 a3_3 a4_4 a5_5 a6_6, zAr T 0 a1_1 7 f1, zAr T 0 a2_2 7 f2, zAr T 0 a3_3 7 f3, zAr T 0 a4_4 n4 f4, zAr T 0 a5_5 n4 f5, zAr T 0 a6_6 n4 f6]]) (As := [.int (zEntry f5 n4 x y &&& 7)]) (rest := []) C G (c_isInn l T la cr inn k1 k2 k3 k4 z (zEntry f5 n4 x y &&& 7) hz) (kV_RX0_97 C.2.2.2.2 (Nat.le_of_ble_eq_true rfl) (Nat.le_of_ble_eq_true rfl)) [0] [0] rfl rfl (ci := 4) (qc := (RX4, TX4, 6)) rfl rfl (List.mem_flatten.mpr ⟨_, List.mem_of_getElem? (i := 0) rfl, (bLand_mem hz).choose_spec⟩) rfl rfl hl.1 dX0_stepsOrNever_10 (Nat.le_of_ble_eq_true rfl) (Nat.le_of_ble_eq_true rfl) (fun r_11 b1 H locs hw G => ?_)
  refine zAn2 hw ?_
  intro hbs9 hc_10
  clear hw
  subst hbs9
  have G : zS T A s.heap s [[zO0 h md wy la pc_ a1_1 a2_2 a3_3 a4_4 a5_5 a6_6, zAr T 0 a1_1 7 f1, zAr T 0 a2_2 7 f2, zAr T 0 a3_3 7 f3, zAr T 0 a4_4 n4 f4, zAr T 0 a5_5 n4 f5, zAr T 0 a6_6 n4 f6], z] _ _ := G
  rcases hc_10 with ⟨rfl, h_12, h_13, h_14, h_15⟩ | ⟨rfl, h_16⟩
  · have h_12 : 0 ≤ (zEntry f5 n4 x y &&& 7).toInt := h_12
    have h_13 : (zEntry f5 n4 x y &&& 7).toInt < cr.toInt := h_13
    have h_14 : (zEntry f5 n4 x y &&& 7).toInt < 7 := h_14
    have h_15 : ¬ zBit inn (zEntry f5 n4 x y &&& 7) = 0 := h_15
    refine lv_if_eq (tgt := 25) hx hb dX0_stepsOrNever_13 (by decide) (fun q => absurd q (by decide)) (fun _ => ?_)
    refine lv_aload_n hx hb dX0_stepsOrNever_16 rfl (lv_at hl 0 rfl) ?_
    refine lv_iload_n hx hb dX0_stepsOrNever_17 rfl (lv_at hl 1 rfl) ?_
    refine lv_iload_n hx hb dX0_stepsOrNever_18 rfl (lv_at hl 2 rfl) ?_
    refine z_Vi (bc := [[zO0 h md wy la pc_ a1_1 a2_2 a3_3 a4_4 a5_5 a6_6, zAr T 0 a1_1 7 f1, zAr T 0 a2_2 7 f2, zAr T 0 a3_3 7 f3, zAr T 0 a4_4 n4 f4, zAr T 0 a5_5 n4 f5, zAr T 0 a6_6 n4 f6]]) (br := [z]) (As := [.int x, .int y]) (rest := []) C G (c_steps l T h la md wy pc_ f1 f2 f3 f4 f5 f6 n4 ([zO0 h md wy la pc_ a1_1 a2_2 a3_3 a4_4 a5_5 a6_6, zAr T 0 a1_1 7 f1, zAr T 0 a2_2 7 f2, zAr T 0 a3_3 7 f3, zAr T 0 a4_4 n4 f4, zAr T 0 a5_5 n4 f5, zAr T 0 a6_6 n4 f6]) x y hw_7 (by first | with_reducible assumption | with_reducible rfl | omega | assumption | rfl)) (kV_RX0_101 C.2.2.2.2 (Nat.le_of_ble_eq_true rfl) (Nat.le_of_ble_eq_true rfl)) [0] [0] rfl rfl (ci := 0) (qc := (RX0, TX0, 10)) rfl rfl (List.mem_flatten.mpr ⟨_, List.mem_of_getElem? (i := 0) rfl, (bWays_mem hw_7).choose_spec⟩) rfl rfl hl.1 dX0_stepsOrNever_19 (Nat.le_of_ble_eq_true rfl) (Nat.le_of_ble_eq_true rfl) (fun r_18 b1 H locs hw G => ?_)
    refine zAn2 hw ?_
    intro hbs9 h_17
    clear hw
    subst hbs9
    have G : zS T A s.heap s [z, [zO0 h md wy la pc_ a1_1 a2_2 a3_3 a4_4 a5_5 a6_6, zAr T 0 a1_1 7 f1, zAr T 0 a2_2 7 f2, zAr T 0 a3_3 7 f3, zAr T 0 a4_4 n4 f4, zAr T 0 a5_5 n4 f5, zAr T 0 a6_6 n4 f6]] _ _ := G
    subst h_17
    refine lv_goto (tgt := 28) hx hb dX0_stepsOrNever_22 (by decide) ?_
    have G := G.sub (bs' := [[zO0 h md wy la pc_ a1_1 a2_2 a3_3 a4_4 a5_5 a6_6, zAr T 0 a1_1 7 f1, zAr T 0 a2_2 7 f2, zAr T 0 a3_3 7 f3, zAr T 0 a4_4 n4 f4, zAr T 0 a5_5 n4 f5, zAr T 0 a6_6 n4 f6], z]) [1, 0] rfl
    exact z_back hQ9 (z_iret C hr hlocks G (Nat.le_of_ble_eq_true rfl) (Nat.le_of_ble_eq_true rfl) dX0_stepsOrNever_28 rfl)
  · have h_16 : ((zEntry f5 n4 x y &&& 7).toInt < 0 ∨ cr.toInt ≤ (zEntry f5 n4 x y &&& 7).toInt ∨ 7 ≤ (zEntry f5 n4 x y &&& 7).toInt ∨ zBit inn (zEntry f5 n4 x y &&& 7) = 0) := h_16
    refine lv_if_eq (tgt := 25) hx hb dX0_stepsOrNever_13 (by decide) (fun _ => ?_) (fun q => absurd (by decide) q)
    refine lv_sipush (v := 500) hx hb dX0_stepsOrNever_25 (by decide) ?_
    exact z_back hQ9 (z_iret C hr hlocks G (Nat.le_of_ble_eq_true rfl) (Nat.le_of_ble_eq_true rfl) dX0_stepsOrNever_28 rfl)
set_option maxHeartbeats 4000000 in
set_option maxRecDepth 100000 in
/-- c_turned -/
theorem c_turned (l : Launch) (T : zTy) (h : Nat) (la : Nat) (md : Int32) (wy : Int32) (pc_ : Int32) (f1 : Nat → Int32) (f2 : Nat → Int32) (f3 : Nat → Int32) (f4 : Nat → Int32) (f5 : Nat → Int32) (f6 : Nat → Int32) (n4 : Nat) (ww : va_W) (cr : Int32) (inn : Int32) (k1 : Nat → Int32) (k2 : Nat → Int32) (k3 : Nat → Int32) (k4 : Nat → Int32) (z : va_W) (x : Int32) (y : Int32) (hww : bWays T h la md wy pc_ f1 f2 f3 f4 f5 f6 n4 ww) (hz : bLand T la cr inn k1 k2 k3 k4 z) (hI : zLI cr k1 k3) : zMi l T yX0_turned cX0_turned 4 (some .int) 2 0 0 [.ref h, .int x, .int y] [ww, z] (fun (r : Int32) bs => bs = [ww, z]) := by
  refine zMi_of (own := RX0) (by decide) rfl (Nat.le_of_ble_eq_true rfl) ?_
  intro p e s m args below meth c A ls C hr hlocks hnm hAe G hl
  refine zHide (fun Q9 hQ9 => ?_)
  have hx := C.1
  have hb := C.2.1
  have hl : lv_has ls 4 [(0, .ref h), (1, .int x), (2, .int y)] := hl
  refine lv_aload_n hx hb dX0_turned_0 rfl (lv_at hl 0 rfl) ?_
  refine zEx6 hww ?_
  intro a1_1 a2_2 a3_3 a4_4 a5_5 a6_6 hbs9
  clear hww
  subst hbs9
  have G : zS T A s.heap s [[zO0 h md wy la pc_ a1_1 a2_2 a3_3 a4_4 a5_5 a6_6], [zAr T 0 a1_1 7 f1], [zAr T 0 a2_2 7 f2], [zAr T 0 a3_3 7 f3], [zAr T 0 a4_4 n4 f4], [zAr T 0 a5_5 n4 f5], [zAr T 0 a6_6 n4 f6], z] _ _ := G.re rfl
  refine z_get C G clX0 0 rfl 2 (by decide) m_fl_RX0_14 rfl dX0_turned_1 ?_
  refine lv_iload_n hx hb dX0_turned_4 rfl (lv_at hl 2 rfl) ?_
  refine z_Vi (bc := [z]) (br := [[zO0 h md wy la pc_ a1_1 a2_2 a3_3 a4_4 a5_5 a6_6], [zAr T 0 a1_1 7 f1], [zAr T 0 a2_2 7 f2], [zAr T 0 a3_3 7 f3], [zAr T 0 a4_4 n4 f4], [zAr T 0 a5_5 n4 f5], [zAr T 0 a6_6 n4 f6]]) (As := [.int y]) (rest := []) C G (c_waysOut l T la cr inn k1 k2 k3 k4 z y hz) (kV_RX0_61 C.2.2.2.2 (Nat.le_of_ble_eq_true rfl) (Nat.le_of_ble_eq_true rfl)) [7] [7] rfl rfl (ci := 4) (qc := (RX4, TX4, 6)) rfl rfl (List.mem_flatten.mpr ⟨_, List.mem_of_getElem? (i := 0) rfl, (bLand_mem hz).choose_spec⟩) rfl rfl hl.1 dX0_turned_5 (Nat.le_of_ble_eq_true rfl) (Nat.le_of_ble_eq_true rfl) (fun r_8 b1 H locs hw G => ?_)
  refine zAn2 hw ?_
  intro hbs9 h_7
  clear hw
  subst hbs9
  have G : zS T A s.heap s [[zO0 h md wy la pc_ a1_1 a2_2 a3_3 a4_4 a5_5 a6_6], [zAr T 0 a1_1 7 f1], [zAr T 0 a2_2 7 f2], [zAr T 0 a3_3 7 f3], [zAr T 0 a4_4 n4 f4], [zAr T 0 a5_5 n4 f5], [zAr T 0 a6_6 n4 f6], z] _ _ := G
  subst h_7
  refine lv_istore_n (lv' := [(3, .int (zWays cr inn k1 y)), (0, .ref h), (1, .int x), (2, .int y)]) hx hb dX0_turned_8 rfl hl (by decide) rfl (fun ls hl => ?_)
  refine lv_iload_n hx hb dX0_turned_9 rfl (lv_at hl 0 rfl) ?_
  refine lv_if_ne (tgt := 15) hx hb dX0_turned_10 (by decide) (fun c_9 => ?_) (fun c_9 => ?_)
  · have c_9n : ¬ (zWays cr inn k1 y).toInt = (0 : Int) := fun q => c_9 ((fa_eq _ _).mpr q)
    have hwi := zWays_in (cr := cr) (inn := inn) (f1 := k1) (x := y) (by assumption)
    refine lv_aload_n hx hb dX0_turned_15 rfl (lv_at hl 1 rfl) ?_
    refine lv_iload_n hx hb dX0_turned_16 rfl (lv_at hl 2 rfl) ?_
    refine lv_iload_n hx hb dX0_turned_17 rfl (lv_at hl 3 rfl) ?_
    have hw_10 : bWays T h la md wy pc_ f1 f2 f3 f4 f5 f6 n4 [zO0 h md wy la pc_ a1_1 a2_2 a3_3 a4_4 a5_5 a6_6, zAr T 0 a1_1 7 f1, zAr T 0 a2_2 7 f2, zAr T 0 a3_3 7 f3, zAr T 0 a4_4 n4 f4, zAr T 0 a5_5 n4 f5, zAr T 0 a6_6 n4 f6] := ⟨a1_1, a2_2, a3_3, a4_4, a5_5, a6_6, rfl⟩
    have G : zS T A s.heap s [[zO0 h md wy la pc_ a1_1 a2_2 a3_3 a4_4 a5_5 a6_6, zAr T 0 a1_1 7 f1, zAr T 0 a2_2 7 f2, zAr T 0 a3_3 7 f3, zAr T 0 a4_4 n4 f4, zAr T 0 a5_5 n4 f5, zAr T 0 a6_6 n4 f6], z] _ _ := G.re rfl
    refine z_Vi (bc := [[zO0 h md wy la pc_ a1_1 a2_2 a3_3 a4_4 a5_5 a6_6, zAr T 0 a1_1 7 f1, zAr T 0 a2_2 7 f2, zAr T 0 a3_3 7 f3, zAr T 0 a4_4 n4 f4, zAr T 0 a5_5 n4 f5, zAr T 0 a6_6 n4 f6]]) (br := [z]) (As := [.int x, .int y]) (rest := []) C G (c_road l T h la md wy pc_ f1 f2 f3 f4 f5 f6 n4 ([zO0 h md wy la pc_ a1_1 a2_2 a3_3 a4_4 a5_5 a6_6, zAr T 0 a1_1 7 f1, zAr T 0 a2_2 7 f2, zAr T 0 a3_3 7 f3, zAr T 0 a4_4 n4 f4, zAr T 0 a5_5 n4 f5, zAr T 0 a6_6 n4 f6]) x y hw_10) (kV_RX0_81 C.2.2.2.2 (Nat.le_of_ble_eq_true rfl) (Nat.le_of_ble_eq_true rfl)) [0] [0] rfl rfl (ci := 0) (qc := (RX0, TX0, 10)) rfl rfl (List.mem_flatten.mpr ⟨_, List.mem_of_getElem? (i := 0) rfl, (bWays_mem hw_10).choose_spec⟩) rfl rfl hl.1 dX0_turned_18 (Nat.le_of_ble_eq_true rfl) (Nat.le_of_ble_eq_true rfl) (fun r_12 b1 H locs hw G => ?_)
    refine zAn2 hw ?_
    intro hbs9 h_11
    clear hw
    subst hbs9
    have G : zS T A s.heap s [z, [zO0 h md wy la pc_ a1_1 a2_2 a3_3 a4_4 a5_5 a6_6, zAr T 0 a1_1 7 f1, zAr T 0 a2_2 7 f2, zAr T 0 a3_3 7 f3, zAr T 0 a4_4 n4 f4, zAr T 0 a5_5 n4 f5, zAr T 0 a6_6 n4 f6]] _ _ := G
    subst h_11
    refine lv_iconst (v := 1) hx hb dX0_turned_21 (by decide) ?_
    refine lv_iadd hx hb dX0_turned_22 ?_
    refine lv_iload_n hx hb dX0_turned_23 rfl (lv_at hl 0 rfl) ?_
    refine lv_icmp_ge (tgt := 38) hx hb dX0_turned_24 (by decide) (fun c_13 => ?_) (fun c_13 => ?_)
    · have c_13n : (zWays cr inn k1 y).toInt ≤ ((zRoad f1 f2 x y) + 1).toInt := (fa_le _ _).mp c_13
      refine lv_iload_n hx hb dX0_turned_38 rfl (lv_at hl 2 rfl) ?_
      refine lv_iload_n hx hb dX0_turned_39 rfl (lv_at hl 0 rfl) ?_
      refine lv_iconst (v := 1) hx hb dX0_turned_40 (by decide) ?_
      refine lv_isub hx hb dX0_turned_41 ?_
      refine lv_aload_n hx hb dX0_turned_42 rfl (lv_at hl 1 rfl) ?_
      have G : zS T A s.heap s [z, [zO0 h md wy la pc_ a1_1 a2_2 a3_3 a4_4 a5_5 a6_6], [zAr T 0 a1_1 7 f1], [zAr T 0 a2_2 7 f2], [zAr T 0 a3_3 7 f3], [zAr T 0 a4_4 n4 f4], [zAr T 0 a5_5 n4 f5], [zAr T 0 a6_6 n4 f6]] _ _ := G.re rfl
      refine z_get C G clX0 1 rfl 5 (by decide) m_fl_RX0_22 rfl dX0_turned_43 ?_
      refine lv_iload_n hx hb dX0_turned_46 rfl (lv_at hl 3 rfl) ?_
      refine z_ild C G 3 rfl (vp_in_iff.mpr ⟨hwi.1, hwi.2.2.1⟩) dX0_turned_47 ?_
      refine lv_topi (fun v_14 ev_14 => ?_)
      subst ev_14
      refine lv_imul hx hb dX0_turned_48 ?_
      refine lv_isub hx hb dX0_turned_49 ?_
      have hw_15 : bWays T h la md wy pc_ f1 f2 f3 f4 f5 f6 n4 [zO0 h md wy la pc_ a1_1 a2_2 a3_3 a4_4 a5_5 a6_6, zAr T 0 a1_1 7 f1, zAr T 0 a2_2 7 f2, zAr T 0 a3_3 7 f3, zAr T 0 a4_4 n4 f4, zAr T 0 a5_5 n4 f5, zAr T 0 a6_6 n4 f6] := ⟨a1_1, a2_2, a3_3, a4_4, a5_5, a6_6, rfl⟩
      have G : zS T A s.heap s [z, [zO0 h md wy la pc_ a1_1 a2_2 a3_3 a4_4 a5_5 a6_6, zAr T 0 a1_1 7 f1, zAr T 0 a2_2 7 f2, zAr T 0 a3_3 7 f3, zAr T 0 a4_4 n4 f4, zAr T 0 a5_5 n4 f5, zAr T 0 a6_6 n4 f6]] _ _ := G.re rfl
      have G := G.sub (bs' := [[zO0 h md wy la pc_ a1_1 a2_2 a3_3 a4_4 a5_5 a6_6, zAr T 0 a1_1 7 f1, zAr T 0 a2_2 7 f2, zAr T 0 a3_3 7 f3, zAr T 0 a4_4 n4 f4, zAr T 0 a5_5 n4 f5, zAr T 0 a6_6 n4 f6], z]) [1, 0] rfl
      exact z_back hQ9 (z_iret C hr hlocks G (Nat.le_of_ble_eq_true rfl) (Nat.le_of_ble_eq_true rfl) dX0_turned_50 rfl)
    · have c_13n : ¬ (zWays cr inn k1 y).toInt ≤ ((zRoad f1 f2 x y) + 1).toInt := fun q => c_13 ((fa_le _ _).mpr q)
      refine lv_iload_n hx hb dX0_turned_27 rfl (lv_at hl 2 rfl) ?_
      refine lv_aload_n hx hb dX0_turned_28 rfl (lv_at hl 1 rfl) ?_
      have G : zS T A s.heap s [z, [zO0 h md wy la pc_ a1_1 a2_2 a3_3 a4_4 a5_5 a6_6], [zAr T 0 a1_1 7 f1], [zAr T 0 a2_2 7 f2], [zAr T 0 a3_3 7 f3], [zAr T 0 a4_4 n4 f4], [zAr T 0 a5_5 n4 f5], [zAr T 0 a6_6 n4 f6]] _ _ := G.re rfl
      refine z_get C G clX0 1 rfl 5 (by decide) m_fl_RX0_22 rfl dX0_turned_29 ?_
      refine lv_iload_n hx hb dX0_turned_32 rfl (lv_at hl 3 rfl) ?_
      refine z_ild C G 3 rfl (vp_in_iff.mpr ⟨hwi.1, hwi.2.2.1⟩) dX0_turned_33 ?_
      refine lv_topi (fun v_16 ev_16 => ?_)
      subst ev_16
      refine lv_iadd hx hb dX0_turned_34 ?_
      refine lv_goto (tgt := 50) hx hb dX0_turned_35 (by decide) ?_
      have hw_17 : bWays T h la md wy pc_ f1 f2 f3 f4 f5 f6 n4 [zO0 h md wy la pc_ a1_1 a2_2 a3_3 a4_4 a5_5 a6_6, zAr T 0 a1_1 7 f1, zAr T 0 a2_2 7 f2, zAr T 0 a3_3 7 f3, zAr T 0 a4_4 n4 f4, zAr T 0 a5_5 n4 f5, zAr T 0 a6_6 n4 f6] := ⟨a1_1, a2_2, a3_3, a4_4, a5_5, a6_6, rfl⟩
      have G : zS T A s.heap s [z, [zO0 h md wy la pc_ a1_1 a2_2 a3_3 a4_4 a5_5 a6_6, zAr T 0 a1_1 7 f1, zAr T 0 a2_2 7 f2, zAr T 0 a3_3 7 f3, zAr T 0 a4_4 n4 f4, zAr T 0 a5_5 n4 f5, zAr T 0 a6_6 n4 f6]] _ _ := G.re rfl
      have G := G.sub (bs' := [[zO0 h md wy la pc_ a1_1 a2_2 a3_3 a4_4 a5_5 a6_6, zAr T 0 a1_1 7 f1, zAr T 0 a2_2 7 f2, zAr T 0 a3_3 7 f3, zAr T 0 a4_4 n4 f4, zAr T 0 a5_5 n4 f5, zAr T 0 a6_6 n4 f6], z]) [1, 0] rfl
      exact z_back hQ9 (z_iret C hr hlocks G (Nat.le_of_ble_eq_true rfl) (Nat.le_of_ble_eq_true rfl) dX0_turned_50 rfl)
  · have c_9n : (zWays cr inn k1 y).toInt = (0 : Int) := (fa_eq _ _).mp c_9
    refine lv_iconst (v := (-1)) hx hb dX0_turned_13 (by decide) ?_
    have hw_18 : bWays T h la md wy pc_ f1 f2 f3 f4 f5 f6 n4 [zO0 h md wy la pc_ a1_1 a2_2 a3_3 a4_4 a5_5 a6_6, zAr T 0 a1_1 7 f1, zAr T 0 a2_2 7 f2, zAr T 0 a3_3 7 f3, zAr T 0 a4_4 n4 f4, zAr T 0 a5_5 n4 f5, zAr T 0 a6_6 n4 f6] := ⟨a1_1, a2_2, a3_3, a4_4, a5_5, a6_6, rfl⟩
    have G : zS T A s.heap s [[zO0 h md wy la pc_ a1_1 a2_2 a3_3 a4_4 a5_5 a6_6, zAr T 0 a1_1 7 f1, zAr T 0 a2_2 7 f2, zAr T 0 a3_3 7 f3, zAr T 0 a4_4 n4 f4, zAr T 0 a5_5 n4 f5, zAr T 0 a6_6 n4 f6], z] _ _ := G.re rfl
    exact z_back hQ9 (z_iret C hr hlocks G (Nat.le_of_ble_eq_true rfl) (Nat.le_of_ble_eq_true rfl) dX0_turned_14 rfl)
set_option maxHeartbeats 4000000 in
set_option maxRecDepth 100000 in
/-- c_wayTold -/
theorem c_wayTold (l : Launch) (T : zTy) (h : Nat) (la : Nat) (md : Int32) (wy : Int32) (pc_ : Int32) (f1 : Nat → Int32) (f2 : Nat → Int32) (f3 : Nat → Int32) (f4 : Nat → Int32) (f5 : Nat → Int32) (f6 : Nat → Int32) (n4 : Nat) (ww : va_W) (cr : Int32) (inn : Int32) (k1 : Nat → Int32) (k2 : Nat → Int32) (k3 : Nat → Int32) (k4 : Nat → Int32) (z : va_W) (hww : bWays T h la md wy pc_ f1 f2 f3 f4 f5 f6 n4 ww) (hz : bLand T la cr inn k1 k2 k3 k4 z) (hI : zLI cr k1 k3) : zMi l T yX0_wayTold cX0_wayTold 3 (some .int) 2 0 0 [.ref h] [ww, z] (fun (r : Int32) bs => bs = [ww, z]) := by
  refine zMi_of (own := RX0) (by decide) rfl (Nat.le_of_ble_eq_true rfl) ?_
  intro p e s m args below meth c A ls C hr hlocks hnm hAe G hl
  refine zHide (fun Q9 hQ9 => ?_)
  have hx := C.1
  have hb := C.2.1
  have hl : lv_has ls 3 [(0, .ref h)] := hl
  have hcr := hI.1
  refine lv_iconst (v := 0) hx hb dX0_wayTold_0 (by decide) ?_
  refine lv_istore_n (lv' := [(1, .int 0), (0, .ref h)]) hx hb dX0_wayTold_1 rfl hl (by decide) rfl (fun ls hl => ?_)
  refine lv_iconst (v := 0) hx hb dX0_wayTold_2 (by decide) ?_
  refine lv_istore_n (lv' := [(2, .int 0), (1, .int 0), (0, .ref h)]) hx hb dX0_wayTold_3 rfl hl (by decide) rfl (fun ls hl => ?_)
  refine zEx6 hww ?_
  intro a1_1 a2_2 a3_3 a4_4 a5_5 a6_6 hbs9
  clear hww
  subst hbs9
  have G : zS T A s.heap s [[zO0 h md wy la pc_ a1_1 a2_2 a3_3 a4_4 a5_5 a6_6], [zAr T 0 a1_1 7 f1], [zAr T 0 a2_2 7 f2], [zAr T 0 a3_3 7 f3], [zAr T 0 a4_4 n4 f4], [zAr T 0 a5_5 n4 f5], [zAr T 0 a6_6 n4 f6], z] _ _ := G.re rfl
  refine zEx4 hz ?_
  intro a1_7 a2_8 a3_9 a4_10 hbs9
  clear hz
  subst hbs9
  have G : zS T A s.heap s [[zO0 h md wy la pc_ a1_1 a2_2 a3_3 a4_4 a5_5 a6_6], [zAr T 0 a1_1 7 f1], [zAr T 0 a2_2 7 f2], [zAr T 0 a3_3 7 f3], [zAr T 0 a4_4 n4 f4], [zAr T 0 a5_5 n4 f5], [zAr T 0 a6_6 n4 f6], [zO4 la cr inn a1_7 a2_8 a3_9 a4_10], [zAr T 0 a1_7 7 k1], [zAr T 0 a2_8 28 k2], [zAr T 0 a3_9 7 k3], [zAr T 0 a4_10 7 k4]] _ _ := G.re rfl
  have hw_11 : bWays T h la md wy pc_ f1 f2 f3 f4 f5 f6 n4 [zO0 h md wy la pc_ a1_1 a2_2 a3_3 a4_4 a5_5 a6_6, zAr T 0 a1_1 7 f1, zAr T 0 a2_2 7 f2, zAr T 0 a3_3 7 f3, zAr T 0 a4_4 n4 f4, zAr T 0 a5_5 n4 f5, zAr T 0 a6_6 n4 f6] := ⟨a1_1, a2_2, a3_3, a4_4, a5_5, a6_6, rfl⟩
  have G : zS T A s.heap s [[zO0 h md wy la pc_ a1_1 a2_2 a3_3 a4_4 a5_5 a6_6, zAr T 0 a1_1 7 f1, zAr T 0 a2_2 7 f2, zAr T 0 a3_3 7 f3, zAr T 0 a4_4 n4 f4, zAr T 0 a5_5 n4 f5, zAr T 0 a6_6 n4 f6], [zO4 la cr inn a1_7 a2_8 a3_9 a4_10], [zAr T 0 a1_7 7 k1], [zAr T 0 a2_8 28 k2], [zAr T 0 a3_9 7 k3], [zAr T 0 a4_10 7 k4]] _ _ := G.re rfl
  have hw_12 : bLand T la cr inn k1 k2 k3 k4 [zO4 la cr inn a1_7 a2_8 a3_9 a4_10, zAr T 0 a1_7 7 k1, zAr T 0 a2_8 28 k2, zAr T 0 a3_9 7 k3, zAr T 0 a4_10 7 k4] := ⟨a1_7, a2_8, a3_9, a4_10, rfl⟩
  have G : zS T A s.heap s [[zO0 h md wy la pc_ a1_1 a2_2 a3_3 a4_4 a5_5 a6_6, zAr T 0 a1_1 7 f1, zAr T 0 a2_2 7 f2, zAr T 0 a3_3 7 f3, zAr T 0 a4_4 n4 f4, zAr T 0 a5_5 n4 f5, zAr T 0 a6_6 n4 f6], [zO4 la cr inn a1_7 a2_8 a3_9 a4_10, zAr T 0 a1_7 7 k1, zAr T 0 a2_8 28 k2, zAr T 0 a3_9 7 k3, zAr T 0 a4_10 7 k4]] _ _ := G.re rfl
  refine z_lp2 (T := T) 4 (fun (i : Nat) (u : Int32) => [[zO0 h md wy la pc_ a1_1 a2_2 a3_3 a4_4 a5_5 a6_6, zAr T 0 a1_1 7 f1, zAr T 0 a2_2 7 f2, zAr T 0 a3_3 7 f3, zAr T 0 a4_4 n4 f4, zAr T 0 a5_5 n4 f5, zAr T 0 a6_6 n4 f6], [zO4 la cr inn a1_7 a2_8 a3_9 a4_10, zAr T 0 a1_7 7 k1, zAr T 0 a2_8 28 k2, zAr T 0 a3_9 7 k3, zAr T 0 a4_10 7 k4]]) (fun (i : Nat) (u : Int32) => [(2, .int (nI i)), (1, .int u), (0, .ref h)]) (fun (i : Nat) (u : Int32) => i ≤ 7) (fun (i : Nat) (u : Int32) => 7 - i) ?_ 0 0 (show 0 ≤ 7 from by omega) G (lv_sub hl [0, 1, 2] rfl)
  intro i u hi ih_4 H locs ls G hl
  replace hi : i ≤ 7 := hi
  replace G : zS T A s.heap s [[zO0 h md wy la pc_ a1_1 a2_2 a3_3 a4_4 a5_5 a6_6, zAr T 0 a1_1 7 f1, zAr T 0 a2_2 7 f2, zAr T 0 a3_3 7 f3, zAr T 0 a4_4 n4 f4, zAr T 0 a5_5 n4 f5, zAr T 0 a6_6 n4 f6], [zO4 la cr inn a1_7 a2_8 a3_9 a4_10, zAr T 0 a1_7 7 k1, zAr T 0 a2_8 28 k2, zAr T 0 a3_9 7 k3, zAr T 0 a4_10 7 k4]] _ _ := G
  replace hl : lv_has ls 3 [(2, .int (nI i)), (1, .int u), (0, .ref h)] := hl
  refine lv_iload_n hx hb dX0_wayTold_4 rfl (lv_at hl 0 rfl) ?_
  refine lv_bipush (v := 7) hx hb dX0_wayTold_5 (by decide) ?_
  refine lv_icmp_ge (tgt := 50) hx hb dX0_wayTold_7 (by decide) (fun c_13 => ?_) (fun c_13 => ?_)
  · have c_13n : 7 ≤ i := (nI_leI (a := 7) (b := i) (by omega) (by omega)).mp c_13
    refine lv_iload_n hx hb dX0_wayTold_50 rfl (lv_at hl 1 rfl) ?_
    exact z_back hQ9 (z_iret C hr hlocks G (Nat.le_of_ble_eq_true rfl) (Nat.le_of_ble_eq_true rfl) dX0_wayTold_51 rfl)
  · have c_13n : ¬ 7 ≤ i := fun q => c_13 ((nI_leI (a := 7) (b := i) (by omega) (by omega)).mpr q)
    refine lv_iload_n hx hb dX0_wayTold_10 rfl (lv_at hl 1 rfl) ?_
    refine lv_aload_n hx hb dX0_wayTold_11 rfl (lv_at hl 2 rfl) ?_
    have G : zS T A s.heap s [[zO0 h md wy la pc_ a1_1 a2_2 a3_3 a4_4 a5_5 a6_6], [zAr T 0 a1_1 7 f1], [zAr T 0 a2_2 7 f2], [zAr T 0 a3_3 7 f3], [zAr T 0 a4_4 n4 f4], [zAr T 0 a5_5 n4 f5], [zAr T 0 a6_6 n4 f6], [zO4 la cr inn a1_7 a2_8 a3_9 a4_10, zAr T 0 a1_7 7 k1, zAr T 0 a2_8 28 k2, zAr T 0 a3_9 7 k3, zAr T 0 a4_10 7 k4]] _ _ := G.re rfl
    refine z_get C G clX0 0 rfl 2 (by decide) m_fl_RX0_14 rfl dX0_wayTold_12 ?_
    refine lv_iload_n hx hb dX0_wayTold_15 rfl (lv_at hl 0 rfl) ?_
    refine z_Vi (bc := [[zO4 la cr inn a1_7 a2_8 a3_9 a4_10, zAr T 0 a1_7 7 k1, zAr T 0 a2_8 28 k2, zAr T 0 a3_9 7 k3, zAr T 0 a4_10 7 k4]]) (br := [[zO0 h md wy la pc_ a1_1 a2_2 a3_3 a4_4 a5_5 a6_6], [zAr T 0 a1_1 7 f1], [zAr T 0 a2_2 7 f2], [zAr T 0 a3_3 7 f3], [zAr T 0 a4_4 n4 f4], [zAr T 0 a5_5 n4 f5], [zAr T 0 a6_6 n4 f6]]) (As := [.int (nI i)]) (rest := [.int u]) C G (c_waysOut l T la cr inn k1 k2 k3 k4 ([zO4 la cr inn a1_7 a2_8 a3_9 a4_10, zAr T 0 a1_7 7 k1, zAr T 0 a2_8 28 k2, zAr T 0 a3_9 7 k3, zAr T 0 a4_10 7 k4]) (nI i) hw_12) (kV_RX0_61 C.2.2.2.2 (Nat.le_of_ble_eq_true rfl) (Nat.le_of_ble_eq_true rfl)) [7] [7] rfl rfl (ci := 4) (qc := (RX4, TX4, 6)) rfl rfl (List.mem_flatten.mpr ⟨_, List.mem_of_getElem? (i := 0) rfl, (bLand_mem hw_12).choose_spec⟩) rfl rfl hl.1 dX0_wayTold_16 (Nat.le_of_ble_eq_true rfl) (Nat.le_of_ble_eq_true rfl) (fun r_15 b1 H locs hw G => ?_)
    refine zAn2 hw ?_
    intro hbs9 h_14
    clear hw
    subst hbs9
    have G : zS T A s.heap s [[zO0 h md wy la pc_ a1_1 a2_2 a3_3 a4_4 a5_5 a6_6], [zAr T 0 a1_1 7 f1], [zAr T 0 a2_2 7 f2], [zAr T 0 a3_3 7 f3], [zAr T 0 a4_4 n4 f4], [zAr T 0 a5_5 n4 f5], [zAr T 0 a6_6 n4 f6], [zO4 la cr inn a1_7 a2_8 a3_9 a4_10, zAr T 0 a1_7 7 k1, zAr T 0 a2_8 28 k2, zAr T 0 a3_9 7 k3, zAr T 0 a4_10 7 k4]] _ _ := G
    subst h_14
    refine lv_if_le (tgt := 41) hx hb dX0_wayTold_19 (by decide) (fun c_16 => ?_) (fun c_16 => ?_)
    · have c_16n : (zWays cr inn k1 (nI i)).toInt ≤ (0 : Int) := (fa_le _ _).mp c_16
      refine lv_iconst (v := 0) hx hb dX0_wayTold_41 (by decide) ?_
      refine lv_iadd hx hb dX0_wayTold_42 ?_
      refine lv_istore_n (lv' := [(1, .int (u + 0)), (2, .int (nI i)), (0, .ref h)]) hx hb dX0_wayTold_43 rfl hl (by decide) rfl (fun ls hl => ?_)
      refine lv_iinc (v := nI (i + 1)) (lv' := [(2, .int (nI (i + 1))), (1, .int (u + 0)), (0, .ref h)]) hx hb dX0_wayTold_44 hl (k := 1) rfl (z_inc i 1) (by decide) rfl (fun ls hl => ?_)
      refine lv_goto (tgt := 4) hx hb dX0_wayTold_47 (by decide) ?_
      have hw_17 : bWays T h la md wy pc_ f1 f2 f3 f4 f5 f6 n4 [zO0 h md wy la pc_ a1_1 a2_2 a3_3 a4_4 a5_5 a6_6, zAr T 0 a1_1 7 f1, zAr T 0 a2_2 7 f2, zAr T 0 a3_3 7 f3, zAr T 0 a4_4 n4 f4, zAr T 0 a5_5 n4 f5, zAr T 0 a6_6 n4 f6] := ⟨a1_1, a2_2, a3_3, a4_4, a5_5, a6_6, rfl⟩
      have G : zS T A s.heap s [[zO0 h md wy la pc_ a1_1 a2_2 a3_3 a4_4 a5_5 a6_6, zAr T 0 a1_1 7 f1, zAr T 0 a2_2 7 f2, zAr T 0 a3_3 7 f3, zAr T 0 a4_4 n4 f4, zAr T 0 a5_5 n4 f5, zAr T 0 a6_6 n4 f6], [zO4 la cr inn a1_7 a2_8 a3_9 a4_10, zAr T 0 a1_7 7 k1, zAr T 0 a2_8 28 k2, zAr T 0 a3_9 7 k3, zAr T 0 a4_10 7 k4]] _ _ := G.re rfl
      exact ih_4 (i + 1) (u + 0) (show (i + 1) ≤ 7 from by omega) (show 7 - (i + 1) < 7 - i from by omega) _ _ ls G (lv_sub hl [0, 1, 2] rfl)
    · have c_16n : ¬ (zWays cr inn k1 (nI i)).toInt ≤ (0 : Int) := fun q => c_16 ((fa_le _ _).mpr q)
      refine lv_aload_n hx hb dX0_wayTold_22 rfl (lv_at hl 2 rfl) ?_
      refine z_get C G clX0 0 rfl 2 (by decide) m_fl_RX0_14 rfl dX0_wayTold_23 ?_
      have G : zS T A s.heap s [[zO0 h md wy la pc_ a1_1 a2_2 a3_3 a4_4 a5_5 a6_6], [zAr T 0 a1_1 7 f1], [zAr T 0 a2_2 7 f2], [zAr T 0 a3_3 7 f3], [zAr T 0 a4_4 n4 f4], [zAr T 0 a5_5 n4 f5], [zAr T 0 a6_6 n4 f6], [zO4 la cr inn a1_7 a2_8 a3_9 a4_10], [zAr T 0 a1_7 7 k1], [zAr T 0 a2_8 28 k2], [zAr T 0 a3_9 7 k3], [zAr T 0 a4_10 7 k4]] _ _ := G.re rfl
      refine z_get C G clX4 7 rfl 4 (by decide) m_fl_RX0_104 rfl dX0_wayTold_26 ?_
      refine lv_iload_n hx hb dX0_wayTold_29 rfl (lv_at hl 0 rfl) ?_
      refine z_ild C G 10 rfl (vp_in_nI (by omega) (by omega)) dX0_wayTold_30 ?_
      refine lv_topi (fun v_18 ev_18 => ?_)
      rw [nI_clamp (by omega)] at ev_18
      subst ev_18
      refine lv_aload_n hx hb dX0_wayTold_31 rfl (lv_at hl 2 rfl) ?_
      refine z_get C G clX0 0 rfl 5 (by decide) m_fl_RX0_22 rfl dX0_wayTold_32 ?_
      refine lv_iload_n hx hb dX0_wayTold_35 rfl (lv_at hl 0 rfl) ?_
      refine z_ild C G 2 rfl (vp_in_nI (by omega) (by omega)) dX0_wayTold_36 ?_
      refine lv_topi (fun v_19 ev_19 => ?_)
      rw [nI_clamp (by omega)] at ev_19
      subst ev_19
      refine lv_imul hx hb dX0_wayTold_37 ?_
      refine lv_goto (tgt := 42) hx hb dX0_wayTold_38 (by decide) ?_
      refine lv_iadd hx hb dX0_wayTold_42 ?_
      refine lv_istore_n (lv' := [(1, .int (u + ((k3 i) * (f2 i)))), (2, .int (nI i)), (0, .ref h)]) hx hb dX0_wayTold_43 rfl hl (by decide) rfl (fun ls hl => ?_)
      refine lv_iinc (v := nI (i + 1)) (lv' := [(2, .int (nI (i + 1))), (1, .int (u + ((k3 i) * (f2 i)))), (0, .ref h)]) hx hb dX0_wayTold_44 hl (k := 1) rfl (z_inc i 1) (by decide) rfl (fun ls hl => ?_)
      refine lv_goto (tgt := 4) hx hb dX0_wayTold_47 (by decide) ?_
      have hw_20 : bWays T h la md wy pc_ f1 f2 f3 f4 f5 f6 n4 [zO0 h md wy la pc_ a1_1 a2_2 a3_3 a4_4 a5_5 a6_6, zAr T 0 a1_1 7 f1, zAr T 0 a2_2 7 f2, zAr T 0 a3_3 7 f3, zAr T 0 a4_4 n4 f4, zAr T 0 a5_5 n4 f5, zAr T 0 a6_6 n4 f6] := ⟨a1_1, a2_2, a3_3, a4_4, a5_5, a6_6, rfl⟩
      have G : zS T A s.heap s [[zO0 h md wy la pc_ a1_1 a2_2 a3_3 a4_4 a5_5 a6_6, zAr T 0 a1_1 7 f1, zAr T 0 a2_2 7 f2, zAr T 0 a3_3 7 f3, zAr T 0 a4_4 n4 f4, zAr T 0 a5_5 n4 f5, zAr T 0 a6_6 n4 f6], [zO4 la cr inn a1_7 a2_8 a3_9 a4_10], [zAr T 0 a1_7 7 k1], [zAr T 0 a2_8 28 k2], [zAr T 0 a3_9 7 k3], [zAr T 0 a4_10 7 k4]] _ _ := G.re rfl
      have hw_21 : bLand T la cr inn k1 k2 k3 k4 [zO4 la cr inn a1_7 a2_8 a3_9 a4_10, zAr T 0 a1_7 7 k1, zAr T 0 a2_8 28 k2, zAr T 0 a3_9 7 k3, zAr T 0 a4_10 7 k4] := ⟨a1_7, a2_8, a3_9, a4_10, rfl⟩
      have G : zS T A s.heap s [[zO0 h md wy la pc_ a1_1 a2_2 a3_3 a4_4 a5_5 a6_6, zAr T 0 a1_1 7 f1, zAr T 0 a2_2 7 f2, zAr T 0 a3_3 7 f3, zAr T 0 a4_4 n4 f4, zAr T 0 a5_5 n4 f5, zAr T 0 a6_6 n4 f6], [zO4 la cr inn a1_7 a2_8 a3_9 a4_10, zAr T 0 a1_7 7 k1, zAr T 0 a2_8 28 k2, zAr T 0 a3_9 7 k3, zAr T 0 a4_10 7 k4]] _ _ := G.re rfl
      exact ih_4 (i + 1) (u + ((k3 i) * (f2 i))) (show (i + 1) ≤ 7 from by omega) (show 7 - (i + 1) < 7 - i from by omega) _ _ ls G (lv_sub hl [0, 1, 2] rfl)
set_option maxHeartbeats 4000000 in
set_option maxRecDepth 100000 in
/-- c_number -/
theorem c_number (l : Launch) (T : zTy) (h : Nat) (la : Nat) (md : Int32) (wy : Int32) (pc_ : Int32) (f1 : Nat → Int32) (f2 : Nat → Int32) (f3 : Nat → Int32) (f4 : Nat → Int32) (f5 : Nat → Int32) (f6 : Nat → Int32) (n4 : Nat) (ww : va_W) (cr : Int32) (inn : Int32) (k1 : Nat → Int32) (k2 : Nat → Int32) (k3 : Nat → Int32) (k4 : Nat → Int32) (z : va_W) (x : Int32) (hww : bWays T h la md wy pc_ f1 f2 f3 f4 f5 f6 n4 ww) (hz : bLand T la cr inn k1 k2 k3 k4 z) (hI : zLI cr k1 k3) : zMi l T yX0_number cX0_number 4 (some .int) 2 0 0 [.ref h, .int x] [ww, z] (fun (r : Int32) bs => bs = [ww, z]) := by
  refine zMi_of (own := RX0) (by decide) rfl (Nat.le_of_ble_eq_true rfl) ?_
  intro p e s m args below meth c A ls C hr hlocks hnm hAe G hl
  refine zHide (fun Q9 hQ9 => ?_)
  have hx := C.1
  have hb := C.2.1
  have hl : lv_has ls 4 [(0, .ref h), (1, .int x)] := hl
  have hcr := hI.1
  refine lv_iconst (v := 1) hx hb dX0_number_0 (by decide) ?_
  refine lv_istore_n (lv' := [(2, .int 1), (0, .ref h), (1, .int x)]) hx hb dX0_number_1 rfl hl (by decide) rfl (fun ls hl => ?_)
  refine lv_iconst (v := 0) hx hb dX0_number_2 (by decide) ?_
  refine lv_istore_n (lv' := [(3, .int 0), (2, .int 1), (0, .ref h), (1, .int x)]) hx hb dX0_number_3 rfl hl (by decide) rfl (fun ls hl => ?_)
  refine zEx6 hww ?_
  intro a1_1 a2_2 a3_3 a4_4 a5_5 a6_6 hbs9
  clear hww
  subst hbs9
  have G : zS T A s.heap s [[zO0 h md wy la pc_ a1_1 a2_2 a3_3 a4_4 a5_5 a6_6], [zAr T 0 a1_1 7 f1], [zAr T 0 a2_2 7 f2], [zAr T 0 a3_3 7 f3], [zAr T 0 a4_4 n4 f4], [zAr T 0 a5_5 n4 f5], [zAr T 0 a6_6 n4 f6], z] _ _ := G.re rfl
  refine zEx4 hz ?_
  intro a1_7 a2_8 a3_9 a4_10 hbs9
  clear hz
  subst hbs9
  have G : zS T A s.heap s [[zO0 h md wy la pc_ a1_1 a2_2 a3_3 a4_4 a5_5 a6_6], [zAr T 0 a1_1 7 f1], [zAr T 0 a2_2 7 f2], [zAr T 0 a3_3 7 f3], [zAr T 0 a4_4 n4 f4], [zAr T 0 a5_5 n4 f5], [zAr T 0 a6_6 n4 f6], [zO4 la cr inn a1_7 a2_8 a3_9 a4_10], [zAr T 0 a1_7 7 k1], [zAr T 0 a2_8 28 k2], [zAr T 0 a3_9 7 k3], [zAr T 0 a4_10 7 k4]] _ _ := G.re rfl
  have hw_11 : bWays T h la md wy pc_ f1 f2 f3 f4 f5 f6 n4 [zO0 h md wy la pc_ a1_1 a2_2 a3_3 a4_4 a5_5 a6_6, zAr T 0 a1_1 7 f1, zAr T 0 a2_2 7 f2, zAr T 0 a3_3 7 f3, zAr T 0 a4_4 n4 f4, zAr T 0 a5_5 n4 f5, zAr T 0 a6_6 n4 f6] := ⟨a1_1, a2_2, a3_3, a4_4, a5_5, a6_6, rfl⟩
  have G : zS T A s.heap s [[zO0 h md wy la pc_ a1_1 a2_2 a3_3 a4_4 a5_5 a6_6, zAr T 0 a1_1 7 f1, zAr T 0 a2_2 7 f2, zAr T 0 a3_3 7 f3, zAr T 0 a4_4 n4 f4, zAr T 0 a5_5 n4 f5, zAr T 0 a6_6 n4 f6], [zO4 la cr inn a1_7 a2_8 a3_9 a4_10], [zAr T 0 a1_7 7 k1], [zAr T 0 a2_8 28 k2], [zAr T 0 a3_9 7 k3], [zAr T 0 a4_10 7 k4]] _ _ := G.re rfl
  have hw_12 : bLand T la cr inn k1 k2 k3 k4 [zO4 la cr inn a1_7 a2_8 a3_9 a4_10, zAr T 0 a1_7 7 k1, zAr T 0 a2_8 28 k2, zAr T 0 a3_9 7 k3, zAr T 0 a4_10 7 k4] := ⟨a1_7, a2_8, a3_9, a4_10, rfl⟩
  have G : zS T A s.heap s [[zO0 h md wy la pc_ a1_1 a2_2 a3_3 a4_4 a5_5 a6_6, zAr T 0 a1_1 7 f1, zAr T 0 a2_2 7 f2, zAr T 0 a3_3 7 f3, zAr T 0 a4_4 n4 f4, zAr T 0 a5_5 n4 f5, zAr T 0 a6_6 n4 f6], [zO4 la cr inn a1_7 a2_8 a3_9 a4_10, zAr T 0 a1_7 7 k1, zAr T 0 a2_8 28 k2, zAr T 0 a3_9 7 k3, zAr T 0 a4_10 7 k4]] _ _ := G.re rfl
  refine z_lp2 (T := T) 4 (fun (i : Nat) (u2 : Int32) => [[zO0 h md wy la pc_ a1_1 a2_2 a3_3 a4_4 a5_5 a6_6, zAr T 0 a1_1 7 f1, zAr T 0 a2_2 7 f2, zAr T 0 a3_3 7 f3, zAr T 0 a4_4 n4 f4, zAr T 0 a5_5 n4 f5, zAr T 0 a6_6 n4 f6], [zO4 la cr inn a1_7 a2_8 a3_9 a4_10, zAr T 0 a1_7 7 k1, zAr T 0 a2_8 28 k2, zAr T 0 a3_9 7 k3, zAr T 0 a4_10 7 k4]]) (fun (i : Nat) (u2 : Int32) => [(3, .int (nI i)), (2, .int u2), (0, .ref h), (1, .int x)]) (fun (i : Nat) (u2 : Int32) => i ≤ cr.toInt.toNat) (fun (i : Nat) (u2 : Int32) => cr.toInt.toNat - i) ?_ 0 1 (show 0 ≤ cr.toInt.toNat from by omega) G (lv_sub hl [0, 1, 2, 3] rfl)
  intro i u2 hi ih_4 H locs ls G hl
  replace hi : i ≤ cr.toInt.toNat := hi
  replace G : zS T A s.heap s [[zO0 h md wy la pc_ a1_1 a2_2 a3_3 a4_4 a5_5 a6_6, zAr T 0 a1_1 7 f1, zAr T 0 a2_2 7 f2, zAr T 0 a3_3 7 f3, zAr T 0 a4_4 n4 f4, zAr T 0 a5_5 n4 f5, zAr T 0 a6_6 n4 f6], [zO4 la cr inn a1_7 a2_8 a3_9 a4_10, zAr T 0 a1_7 7 k1, zAr T 0 a2_8 28 k2, zAr T 0 a3_9 7 k3, zAr T 0 a4_10 7 k4]] _ _ := G
  replace hl : lv_has ls 4 [(3, .int (nI i)), (2, .int u2), (0, .ref h), (1, .int x)] := hl
  refine lv_iload_n hx hb dX0_number_4 rfl (lv_at hl 0 rfl) ?_
  refine lv_aload_n hx hb dX0_number_5 rfl (lv_at hl 2 rfl) ?_
  have G : zS T A s.heap s [[zO0 h md wy la pc_ a1_1 a2_2 a3_3 a4_4 a5_5 a6_6], [zAr T 0 a1_1 7 f1], [zAr T 0 a2_2 7 f2], [zAr T 0 a3_3 7 f3], [zAr T 0 a4_4 n4 f4], [zAr T 0 a5_5 n4 f5], [zAr T 0 a6_6 n4 f6], [zO4 la cr inn a1_7 a2_8 a3_9 a4_10, zAr T 0 a1_7 7 k1, zAr T 0 a2_8 28 k2, zAr T 0 a3_9 7 k3, zAr T 0 a4_10 7 k4]] _ _ := G.re rfl
  refine z_get C G clX0 0 rfl 2 (by decide) m_fl_RX0_14 rfl dX0_number_6 ?_
  have G : zS T A s.heap s [[zO0 h md wy la pc_ a1_1 a2_2 a3_3 a4_4 a5_5 a6_6], [zAr T 0 a1_1 7 f1], [zAr T 0 a2_2 7 f2], [zAr T 0 a3_3 7 f3], [zAr T 0 a4_4 n4 f4], [zAr T 0 a5_5 n4 f5], [zAr T 0 a6_6 n4 f6], [zO4 la cr inn a1_7 a2_8 a3_9 a4_10], [zAr T 0 a1_7 7 k1], [zAr T 0 a2_8 28 k2], [zAr T 0 a3_9 7 k3], [zAr T 0 a4_10 7 k4]] _ _ := G.re rfl
  refine z_get C G clX4 7 rfl 0 (by decide) m_fl_RX0_107 rfl dX0_number_9 ?_
  refine lv_icmp_ge (tgt := 33) hx hb dX0_number_12 (by decide) (fun c_13 => ?_) (fun c_13 => ?_)
  · have c_13n : cr.toInt ≤ (i : Int) := by have q := (fa_le _ _).mp c_13; rw [nI_toInt (n := i) (by omega)] at q; exact q
    refine lv_iload_n hx hb dX0_number_33 rfl (lv_at hl 1 rfl) ?_
    have hw_14 : bWays T h la md wy pc_ f1 f2 f3 f4 f5 f6 n4 [zO0 h md wy la pc_ a1_1 a2_2 a3_3 a4_4 a5_5 a6_6, zAr T 0 a1_1 7 f1, zAr T 0 a2_2 7 f2, zAr T 0 a3_3 7 f3, zAr T 0 a4_4 n4 f4, zAr T 0 a5_5 n4 f5, zAr T 0 a6_6 n4 f6] := ⟨a1_1, a2_2, a3_3, a4_4, a5_5, a6_6, rfl⟩
    have G : zS T A s.heap s [[zO0 h md wy la pc_ a1_1 a2_2 a3_3 a4_4 a5_5 a6_6, zAr T 0 a1_1 7 f1, zAr T 0 a2_2 7 f2, zAr T 0 a3_3 7 f3, zAr T 0 a4_4 n4 f4, zAr T 0 a5_5 n4 f5, zAr T 0 a6_6 n4 f6], [zO4 la cr inn a1_7 a2_8 a3_9 a4_10], [zAr T 0 a1_7 7 k1], [zAr T 0 a2_8 28 k2], [zAr T 0 a3_9 7 k3], [zAr T 0 a4_10 7 k4]] _ _ := G.re rfl
    have hw_15 : bLand T la cr inn k1 k2 k3 k4 [zO4 la cr inn a1_7 a2_8 a3_9 a4_10, zAr T 0 a1_7 7 k1, zAr T 0 a2_8 28 k2, zAr T 0 a3_9 7 k3, zAr T 0 a4_10 7 k4] := ⟨a1_7, a2_8, a3_9, a4_10, rfl⟩
    have G : zS T A s.heap s [[zO0 h md wy la pc_ a1_1 a2_2 a3_3 a4_4 a5_5 a6_6, zAr T 0 a1_1 7 f1, zAr T 0 a2_2 7 f2, zAr T 0 a3_3 7 f3, zAr T 0 a4_4 n4 f4, zAr T 0 a5_5 n4 f5, zAr T 0 a6_6 n4 f6], [zO4 la cr inn a1_7 a2_8 a3_9 a4_10, zAr T 0 a1_7 7 k1, zAr T 0 a2_8 28 k2, zAr T 0 a3_9 7 k3, zAr T 0 a4_10 7 k4]] _ _ := G.re rfl
    exact z_back hQ9 (z_iret C hr hlocks G (Nat.le_of_ble_eq_true rfl) (Nat.le_of_ble_eq_true rfl) dX0_number_34 rfl)
  · have c_13n : ¬ cr.toInt ≤ (i : Int) := fun q => c_13 ((fa_le _ _).mpr (by rw [nI_toInt (n := i) (by omega)]; exact q))
    refine lv_iload_n hx hb dX0_number_15 rfl (lv_at hl 1 rfl) ?_
    refine lv_bipush (v := 10) hx hb dX0_number_16 (by decide) ?_
    refine lv_imul hx hb dX0_number_18 ?_
    refine lv_aload_n hx hb dX0_number_19 rfl (lv_at hl 2 rfl) ?_
    refine lv_iload_n hx hb dX0_number_20 rfl (lv_at hl 3 rfl) ?_
    refine lv_iload_n hx hb dX0_number_21 rfl (lv_at hl 0 rfl) ?_
    have hw_16 : bWays T h la md wy pc_ f1 f2 f3 f4 f5 f6 n4 [zO0 h md wy la pc_ a1_1 a2_2 a3_3 a4_4 a5_5 a6_6, zAr T 0 a1_1 7 f1, zAr T 0 a2_2 7 f2, zAr T 0 a3_3 7 f3, zAr T 0 a4_4 n4 f4, zAr T 0 a5_5 n4 f5, zAr T 0 a6_6 n4 f6] := ⟨a1_1, a2_2, a3_3, a4_4, a5_5, a6_6, rfl⟩
    have G : zS T A s.heap s [[zO0 h md wy la pc_ a1_1 a2_2 a3_3 a4_4 a5_5 a6_6, zAr T 0 a1_1 7 f1, zAr T 0 a2_2 7 f2, zAr T 0 a3_3 7 f3, zAr T 0 a4_4 n4 f4, zAr T 0 a5_5 n4 f5, zAr T 0 a6_6 n4 f6], [zO4 la cr inn a1_7 a2_8 a3_9 a4_10], [zAr T 0 a1_7 7 k1], [zAr T 0 a2_8 28 k2], [zAr T 0 a3_9 7 k3], [zAr T 0 a4_10 7 k4]] _ _ := G.re rfl
    refine z_Vi (bc := [[zO0 h md wy la pc_ a1_1 a2_2 a3_3 a4_4 a5_5 a6_6, zAr T 0 a1_1 7 f1, zAr T 0 a2_2 7 f2, zAr T 0 a3_3 7 f3, zAr T 0 a4_4 n4 f4, zAr T 0 a5_5 n4 f5, zAr T 0 a6_6 n4 f6]]) (br := [[zO4 la cr inn a1_7 a2_8 a3_9 a4_10], [zAr T 0 a1_7 7 k1], [zAr T 0 a2_8 28 k2], [zAr T 0 a3_9 7 k3], [zAr T 0 a4_10 7 k4]]) (As := [.int x, .int (nI i)]) (rest := [.int (u2 * 10)]) C G (c_road l T h la md wy pc_ f1 f2 f3 f4 f5 f6 n4 ([zO0 h md wy la pc_ a1_1 a2_2 a3_3 a4_4 a5_5 a6_6, zAr T 0 a1_1 7 f1, zAr T 0 a2_2 7 f2, zAr T 0 a3_3 7 f3, zAr T 0 a4_4 n4 f4, zAr T 0 a5_5 n4 f5, zAr T 0 a6_6 n4 f6]) x (nI i) hw_16) (kV_RX0_81 C.2.2.2.2 (Nat.le_of_ble_eq_true rfl) (Nat.le_of_ble_eq_true rfl)) [0] [0] rfl rfl (ci := 0) (qc := (RX0, TX0, 10)) rfl rfl (List.mem_flatten.mpr ⟨_, List.mem_of_getElem? (i := 0) rfl, (bWays_mem hw_16).choose_spec⟩) rfl rfl hl.1 dX0_number_22 (Nat.le_of_ble_eq_true rfl) (Nat.le_of_ble_eq_true rfl) (fun r_18 b1 H locs hw G => ?_)
    refine zAn2 hw ?_
    intro hbs9 h_17
    clear hw
    subst hbs9
    have G : zS T A s.heap s [[zO4 la cr inn a1_7 a2_8 a3_9 a4_10], [zAr T 0 a1_7 7 k1], [zAr T 0 a2_8 28 k2], [zAr T 0 a3_9 7 k3], [zAr T 0 a4_10 7 k4], [zO0 h md wy la pc_ a1_1 a2_2 a3_3 a4_4 a5_5 a6_6, zAr T 0 a1_1 7 f1, zAr T 0 a2_2 7 f2, zAr T 0 a3_3 7 f3, zAr T 0 a4_4 n4 f4, zAr T 0 a5_5 n4 f5, zAr T 0 a6_6 n4 f6]] _ _ := G
    subst h_17
    refine lv_iadd hx hb dX0_number_25 ?_
    refine lv_istore_n (lv' := [(2, .int ((u2 * 10) + (zRoad f1 f2 x (nI i)))), (3, .int (nI i)), (0, .ref h), (1, .int x)]) hx hb dX0_number_26 rfl hl (by decide) rfl (fun ls hl => ?_)
    refine lv_iinc (v := nI (i + 1)) (lv' := [(3, .int (nI (i + 1))), (2, .int ((u2 * 10) + (zRoad f1 f2 x (nI i)))), (0, .ref h), (1, .int x)]) hx hb dX0_number_27 hl (k := 1) rfl (z_inc i 1) (by decide) rfl (fun ls hl => ?_)
    refine lv_goto (tgt := 4) hx hb dX0_number_30 (by decide) ?_
    have hw_19 : bLand T la cr inn k1 k2 k3 k4 [zO4 la cr inn a1_7 a2_8 a3_9 a4_10, zAr T 0 a1_7 7 k1, zAr T 0 a2_8 28 k2, zAr T 0 a3_9 7 k3, zAr T 0 a4_10 7 k4] := ⟨a1_7, a2_8, a3_9, a4_10, rfl⟩
    have G : zS T A s.heap s [[zO4 la cr inn a1_7 a2_8 a3_9 a4_10, zAr T 0 a1_7 7 k1, zAr T 0 a2_8 28 k2, zAr T 0 a3_9 7 k3, zAr T 0 a4_10 7 k4], [zO0 h md wy la pc_ a1_1 a2_2 a3_3 a4_4 a5_5 a6_6, zAr T 0 a1_1 7 f1, zAr T 0 a2_2 7 f2, zAr T 0 a3_3 7 f3, zAr T 0 a4_4 n4 f4, zAr T 0 a5_5 n4 f5, zAr T 0 a6_6 n4 f6]] _ _ := G.re rfl
    have G := G.sub (bs' := [[zO0 h md wy la pc_ a1_1 a2_2 a3_3 a4_4 a5_5 a6_6, zAr T 0 a1_1 7 f1, zAr T 0 a2_2 7 f2, zAr T 0 a3_3 7 f3, zAr T 0 a4_4 n4 f4, zAr T 0 a5_5 n4 f5, zAr T 0 a6_6 n4 f6], [zO4 la cr inn a1_7 a2_8 a3_9 a4_10, zAr T 0 a1_7 7 k1, zAr T 0 a2_8 28 k2, zAr T 0 a3_9 7 k3, zAr T 0 a4_10 7 k4]]) [1, 0] rfl
    exact ih_4 (i + 1) ((u2 * 10) + (zRoad f1 f2 x (nI i))) (show (i + 1) ≤ cr.toInt.toNat from by omega) (show cr.toInt.toNat - (i + 1) < cr.toInt.toNat - i from by omega) _ _ ls G (lv_sub hl [0, 1, 2, 3] rfl)
set_option maxHeartbeats 4000000 in
set_option maxRecDepth 100000 in
/-- c_unlike -/
theorem c_unlike (l : Launch) (T : zTy) (h : Nat) (la : Nat) (md : Int32) (wy : Int32) (pc_ : Int32) (f1 : Nat → Int32) (f2 : Nat → Int32) (f3 : Nat → Int32) (f4 : Nat → Int32) (f5 : Nat → Int32) (f6 : Nat → Int32) (n4 : Nat) (ww : va_W) (cr : Int32) (inn : Int32) (k1 : Nat → Int32) (k2 : Nat → Int32) (k3 : Nat → Int32) (k4 : Nat → Int32) (z : va_W) (x : Int32) (y : Int32) (hww : bWays T h la md wy pc_ f1 f2 f3 f4 f5 f6 n4 ww) (hz : bLand T la cr inn k1 k2 k3 k4 z) (hI : zLI cr k1 k3) : zMi l T yX0_unlike cX0_unlike 5 (some .int) 2 0 0 [.ref h, .int x, .int y] [ww, z] (fun (r : Int32) bs => bs = [ww, z]) := by
  refine zMi_of (own := RX0) (by decide) rfl (Nat.le_of_ble_eq_true rfl) ?_
  intro p e s m args below meth c A ls C hr hlocks hnm hAe G hl
  refine zHide (fun Q9 hQ9 => ?_)
  have hx := C.1
  have hb := C.2.1
  have hl : lv_has ls 5 [(0, .ref h), (1, .int x), (2, .int y)] := hl
  have hcr := hI.1
  refine lv_iconst (v := 0) hx hb dX0_unlike_0 (by decide) ?_
  refine lv_istore_n (lv' := [(3, .int 0), (0, .ref h), (1, .int x), (2, .int y)]) hx hb dX0_unlike_1 rfl hl (by decide) rfl (fun ls hl => ?_)
  refine lv_iconst (v := 0) hx hb dX0_unlike_2 (by decide) ?_
  refine lv_istore (lv' := [(4, .int 0), (3, .int 0), (0, .ref h), (1, .int x), (2, .int y)]) hx hb dX0_unlike_3 hl (by decide) rfl (fun ls hl => ?_)
  refine zEx6 hww ?_
  intro a1_1 a2_2 a3_3 a4_4 a5_5 a6_6 hbs9
  clear hww
  subst hbs9
  have G : zS T A s.heap s [[zO0 h md wy la pc_ a1_1 a2_2 a3_3 a4_4 a5_5 a6_6], [zAr T 0 a1_1 7 f1], [zAr T 0 a2_2 7 f2], [zAr T 0 a3_3 7 f3], [zAr T 0 a4_4 n4 f4], [zAr T 0 a5_5 n4 f5], [zAr T 0 a6_6 n4 f6], z] _ _ := G.re rfl
  refine zEx4 hz ?_
  intro a1_7 a2_8 a3_9 a4_10 hbs9
  clear hz
  subst hbs9
  have G : zS T A s.heap s [[zO0 h md wy la pc_ a1_1 a2_2 a3_3 a4_4 a5_5 a6_6], [zAr T 0 a1_1 7 f1], [zAr T 0 a2_2 7 f2], [zAr T 0 a3_3 7 f3], [zAr T 0 a4_4 n4 f4], [zAr T 0 a5_5 n4 f5], [zAr T 0 a6_6 n4 f6], [zO4 la cr inn a1_7 a2_8 a3_9 a4_10], [zAr T 0 a1_7 7 k1], [zAr T 0 a2_8 28 k2], [zAr T 0 a3_9 7 k3], [zAr T 0 a4_10 7 k4]] _ _ := G.re rfl
  have hw_11 : bWays T h la md wy pc_ f1 f2 f3 f4 f5 f6 n4 [zO0 h md wy la pc_ a1_1 a2_2 a3_3 a4_4 a5_5 a6_6, zAr T 0 a1_1 7 f1, zAr T 0 a2_2 7 f2, zAr T 0 a3_3 7 f3, zAr T 0 a4_4 n4 f4, zAr T 0 a5_5 n4 f5, zAr T 0 a6_6 n4 f6] := ⟨a1_1, a2_2, a3_3, a4_4, a5_5, a6_6, rfl⟩
  have G : zS T A s.heap s [[zO0 h md wy la pc_ a1_1 a2_2 a3_3 a4_4 a5_5 a6_6, zAr T 0 a1_1 7 f1, zAr T 0 a2_2 7 f2, zAr T 0 a3_3 7 f3, zAr T 0 a4_4 n4 f4, zAr T 0 a5_5 n4 f5, zAr T 0 a6_6 n4 f6], [zO4 la cr inn a1_7 a2_8 a3_9 a4_10], [zAr T 0 a1_7 7 k1], [zAr T 0 a2_8 28 k2], [zAr T 0 a3_9 7 k3], [zAr T 0 a4_10 7 k4]] _ _ := G.re rfl
  have hw_12 : bLand T la cr inn k1 k2 k3 k4 [zO4 la cr inn a1_7 a2_8 a3_9 a4_10, zAr T 0 a1_7 7 k1, zAr T 0 a2_8 28 k2, zAr T 0 a3_9 7 k3, zAr T 0 a4_10 7 k4] := ⟨a1_7, a2_8, a3_9, a4_10, rfl⟩
  have G : zS T A s.heap s [[zO0 h md wy la pc_ a1_1 a2_2 a3_3 a4_4 a5_5 a6_6, zAr T 0 a1_1 7 f1, zAr T 0 a2_2 7 f2, zAr T 0 a3_3 7 f3, zAr T 0 a4_4 n4 f4, zAr T 0 a5_5 n4 f5, zAr T 0 a6_6 n4 f6], [zO4 la cr inn a1_7 a2_8 a3_9 a4_10, zAr T 0 a1_7 7 k1, zAr T 0 a2_8 28 k2, zAr T 0 a3_9 7 k3, zAr T 0 a4_10 7 k4]] _ _ := G.re rfl
  refine z_lp2 (T := T) 5 (fun (i : Nat) (u3 : Int32) => [[zO0 h md wy la pc_ a1_1 a2_2 a3_3 a4_4 a5_5 a6_6, zAr T 0 a1_1 7 f1, zAr T 0 a2_2 7 f2, zAr T 0 a3_3 7 f3, zAr T 0 a4_4 n4 f4, zAr T 0 a5_5 n4 f5, zAr T 0 a6_6 n4 f6], [zO4 la cr inn a1_7 a2_8 a3_9 a4_10, zAr T 0 a1_7 7 k1, zAr T 0 a2_8 28 k2, zAr T 0 a3_9 7 k3, zAr T 0 a4_10 7 k4]]) (fun (i : Nat) (u3 : Int32) => [(4, .int (nI i)), (3, .int u3), (0, .ref h), (1, .int x), (2, .int y)]) (fun (i : Nat) (u3 : Int32) => i ≤ cr.toInt.toNat) (fun (i : Nat) (u3 : Int32) => cr.toInt.toNat - i) ?_ 0 0 (show 0 ≤ cr.toInt.toNat from by omega) G (lv_sub hl [0, 1, 2, 3, 4] rfl)
  intro i u3 hi ih_5 H locs ls G hl
  replace hi : i ≤ cr.toInt.toNat := hi
  replace G : zS T A s.heap s [[zO0 h md wy la pc_ a1_1 a2_2 a3_3 a4_4 a5_5 a6_6, zAr T 0 a1_1 7 f1, zAr T 0 a2_2 7 f2, zAr T 0 a3_3 7 f3, zAr T 0 a4_4 n4 f4, zAr T 0 a5_5 n4 f5, zAr T 0 a6_6 n4 f6], [zO4 la cr inn a1_7 a2_8 a3_9 a4_10, zAr T 0 a1_7 7 k1, zAr T 0 a2_8 28 k2, zAr T 0 a3_9 7 k3, zAr T 0 a4_10 7 k4]] _ _ := G
  replace hl : lv_has ls 5 [(4, .int (nI i)), (3, .int u3), (0, .ref h), (1, .int x), (2, .int y)] := hl
  refine lv_iload hx hb dX0_unlike_5 (lv_at hl 0 rfl) ?_
  refine lv_aload_n hx hb dX0_unlike_7 rfl (lv_at hl 2 rfl) ?_
  have G : zS T A s.heap s [[zO0 h md wy la pc_ a1_1 a2_2 a3_3 a4_4 a5_5 a6_6], [zAr T 0 a1_1 7 f1], [zAr T 0 a2_2 7 f2], [zAr T 0 a3_3 7 f3], [zAr T 0 a4_4 n4 f4], [zAr T 0 a5_5 n4 f5], [zAr T 0 a6_6 n4 f6], [zO4 la cr inn a1_7 a2_8 a3_9 a4_10, zAr T 0 a1_7 7 k1, zAr T 0 a2_8 28 k2, zAr T 0 a3_9 7 k3, zAr T 0 a4_10 7 k4]] _ _ := G.re rfl
  refine z_get C G clX0 0 rfl 2 (by decide) m_fl_RX0_14 rfl dX0_unlike_8 ?_
  have G : zS T A s.heap s [[zO0 h md wy la pc_ a1_1 a2_2 a3_3 a4_4 a5_5 a6_6], [zAr T 0 a1_1 7 f1], [zAr T 0 a2_2 7 f2], [zAr T 0 a3_3 7 f3], [zAr T 0 a4_4 n4 f4], [zAr T 0 a5_5 n4 f5], [zAr T 0 a6_6 n4 f6], [zO4 la cr inn a1_7 a2_8 a3_9 a4_10], [zAr T 0 a1_7 7 k1], [zAr T 0 a2_8 28 k2], [zAr T 0 a3_9 7 k3], [zAr T 0 a4_10 7 k4]] _ _ := G.re rfl
  refine z_get C G clX4 7 rfl 0 (by decide) m_fl_RX0_107 rfl dX0_unlike_11 ?_
  refine lv_icmp_ge (tgt := 51) hx hb dX0_unlike_14 (by decide) (fun c_13 => ?_) (fun c_13 => ?_)
  · have c_13n : cr.toInt ≤ (i : Int) := by have q := (fa_le _ _).mp c_13; rw [nI_toInt (n := i) (by omega)] at q; exact q
    refine lv_iload_n hx hb dX0_unlike_51 rfl (lv_at hl 1 rfl) ?_
    have hw_14 : bWays T h la md wy pc_ f1 f2 f3 f4 f5 f6 n4 [zO0 h md wy la pc_ a1_1 a2_2 a3_3 a4_4 a5_5 a6_6, zAr T 0 a1_1 7 f1, zAr T 0 a2_2 7 f2, zAr T 0 a3_3 7 f3, zAr T 0 a4_4 n4 f4, zAr T 0 a5_5 n4 f5, zAr T 0 a6_6 n4 f6] := ⟨a1_1, a2_2, a3_3, a4_4, a5_5, a6_6, rfl⟩
    have G : zS T A s.heap s [[zO0 h md wy la pc_ a1_1 a2_2 a3_3 a4_4 a5_5 a6_6, zAr T 0 a1_1 7 f1, zAr T 0 a2_2 7 f2, zAr T 0 a3_3 7 f3, zAr T 0 a4_4 n4 f4, zAr T 0 a5_5 n4 f5, zAr T 0 a6_6 n4 f6], [zO4 la cr inn a1_7 a2_8 a3_9 a4_10], [zAr T 0 a1_7 7 k1], [zAr T 0 a2_8 28 k2], [zAr T 0 a3_9 7 k3], [zAr T 0 a4_10 7 k4]] _ _ := G.re rfl
    have hw_15 : bLand T la cr inn k1 k2 k3 k4 [zO4 la cr inn a1_7 a2_8 a3_9 a4_10, zAr T 0 a1_7 7 k1, zAr T 0 a2_8 28 k2, zAr T 0 a3_9 7 k3, zAr T 0 a4_10 7 k4] := ⟨a1_7, a2_8, a3_9, a4_10, rfl⟩
    have G : zS T A s.heap s [[zO0 h md wy la pc_ a1_1 a2_2 a3_3 a4_4 a5_5 a6_6, zAr T 0 a1_1 7 f1, zAr T 0 a2_2 7 f2, zAr T 0 a3_3 7 f3, zAr T 0 a4_4 n4 f4, zAr T 0 a5_5 n4 f5, zAr T 0 a6_6 n4 f6], [zO4 la cr inn a1_7 a2_8 a3_9 a4_10, zAr T 0 a1_7 7 k1, zAr T 0 a2_8 28 k2, zAr T 0 a3_9 7 k3, zAr T 0 a4_10 7 k4]] _ _ := G.re rfl
    exact z_back hQ9 (z_iret C hr hlocks G (Nat.le_of_ble_eq_true rfl) (Nat.le_of_ble_eq_true rfl) dX0_unlike_52 rfl)
  · have c_13n : ¬ cr.toInt ≤ (i : Int) := fun q => c_13 ((fa_le _ _).mpr (by rw [nI_toInt (n := i) (by omega)]; exact q))
    refine lv_iload_n hx hb dX0_unlike_17 rfl (lv_at hl 1 rfl) ?_
    refine lv_aload_n hx hb dX0_unlike_18 rfl (lv_at hl 2 rfl) ?_
    refine lv_iload_n hx hb dX0_unlike_19 rfl (lv_at hl 3 rfl) ?_
    refine lv_iload hx hb dX0_unlike_20 (lv_at hl 0 rfl) ?_
    have hw_16 : bWays T h la md wy pc_ f1 f2 f3 f4 f5 f6 n4 [zO0 h md wy la pc_ a1_1 a2_2 a3_3 a4_4 a5_5 a6_6, zAr T 0 a1_1 7 f1, zAr T 0 a2_2 7 f2, zAr T 0 a3_3 7 f3, zAr T 0 a4_4 n4 f4, zAr T 0 a5_5 n4 f5, zAr T 0 a6_6 n4 f6] := ⟨a1_1, a2_2, a3_3, a4_4, a5_5, a6_6, rfl⟩
    have G : zS T A s.heap s [[zO0 h md wy la pc_ a1_1 a2_2 a3_3 a4_4 a5_5 a6_6, zAr T 0 a1_1 7 f1, zAr T 0 a2_2 7 f2, zAr T 0 a3_3 7 f3, zAr T 0 a4_4 n4 f4, zAr T 0 a5_5 n4 f5, zAr T 0 a6_6 n4 f6], [zO4 la cr inn a1_7 a2_8 a3_9 a4_10], [zAr T 0 a1_7 7 k1], [zAr T 0 a2_8 28 k2], [zAr T 0 a3_9 7 k3], [zAr T 0 a4_10 7 k4]] _ _ := G.re rfl
    refine z_Vi (bc := [[zO0 h md wy la pc_ a1_1 a2_2 a3_3 a4_4 a5_5 a6_6, zAr T 0 a1_1 7 f1, zAr T 0 a2_2 7 f2, zAr T 0 a3_3 7 f3, zAr T 0 a4_4 n4 f4, zAr T 0 a5_5 n4 f5, zAr T 0 a6_6 n4 f6]]) (br := [[zO4 la cr inn a1_7 a2_8 a3_9 a4_10], [zAr T 0 a1_7 7 k1], [zAr T 0 a2_8 28 k2], [zAr T 0 a3_9 7 k3], [zAr T 0 a4_10 7 k4]]) (As := [.int x, .int (nI i)]) (rest := [.int u3]) C G (c_road l T h la md wy pc_ f1 f2 f3 f4 f5 f6 n4 ([zO0 h md wy la pc_ a1_1 a2_2 a3_3 a4_4 a5_5 a6_6, zAr T 0 a1_1 7 f1, zAr T 0 a2_2 7 f2, zAr T 0 a3_3 7 f3, zAr T 0 a4_4 n4 f4, zAr T 0 a5_5 n4 f5, zAr T 0 a6_6 n4 f6]) x (nI i) hw_16) (kV_RX0_81 C.2.2.2.2 (Nat.le_of_ble_eq_true rfl) (Nat.le_of_ble_eq_true rfl)) [0] [0] rfl rfl (ci := 0) (qc := (RX0, TX0, 10)) rfl rfl (List.mem_flatten.mpr ⟨_, List.mem_of_getElem? (i := 0) rfl, (bWays_mem hw_16).choose_spec⟩) rfl rfl hl.1 dX0_unlike_22 (Nat.le_of_ble_eq_true rfl) (Nat.le_of_ble_eq_true rfl) (fun r_18 b1 H locs hw G => ?_)
    refine zAn2 hw ?_
    intro hbs9 h_17
    clear hw
    subst hbs9
    have G : zS T A s.heap s [[zO4 la cr inn a1_7 a2_8 a3_9 a4_10], [zAr T 0 a1_7 7 k1], [zAr T 0 a2_8 28 k2], [zAr T 0 a3_9 7 k3], [zAr T 0 a4_10 7 k4], [zO0 h md wy la pc_ a1_1 a2_2 a3_3 a4_4 a5_5 a6_6, zAr T 0 a1_1 7 f1, zAr T 0 a2_2 7 f2, zAr T 0 a3_3 7 f3, zAr T 0 a4_4 n4 f4, zAr T 0 a5_5 n4 f5, zAr T 0 a6_6 n4 f6]] _ _ := G
    subst h_17
    refine lv_aload_n hx hb dX0_unlike_25 rfl (lv_at hl 2 rfl) ?_
    refine lv_iload_n hx hb dX0_unlike_26 rfl (lv_at hl 4 rfl) ?_
    refine lv_iload hx hb dX0_unlike_27 (lv_at hl 0 rfl) ?_
    refine z_Vi (bc := [[zO0 h md wy la pc_ a1_1 a2_2 a3_3 a4_4 a5_5 a6_6, zAr T 0 a1_1 7 f1, zAr T 0 a2_2 7 f2, zAr T 0 a3_3 7 f3, zAr T 0 a4_4 n4 f4, zAr T 0 a5_5 n4 f5, zAr T 0 a6_6 n4 f6]]) (br := [[zO4 la cr inn a1_7 a2_8 a3_9 a4_10], [zAr T 0 a1_7 7 k1], [zAr T 0 a2_8 28 k2], [zAr T 0 a3_9 7 k3], [zAr T 0 a4_10 7 k4]]) (As := [.int y, .int (nI i)]) (rest := [.int (zRoad f1 f2 x (nI i)), .int u3]) C G (c_road l T h la md wy pc_ f1 f2 f3 f4 f5 f6 n4 ([zO0 h md wy la pc_ a1_1 a2_2 a3_3 a4_4 a5_5 a6_6, zAr T 0 a1_1 7 f1, zAr T 0 a2_2 7 f2, zAr T 0 a3_3 7 f3, zAr T 0 a4_4 n4 f4, zAr T 0 a5_5 n4 f5, zAr T 0 a6_6 n4 f6]) y (nI i) hw_16) (kV_RX0_81 C.2.2.2.2 (Nat.le_of_ble_eq_true rfl) (Nat.le_of_ble_eq_true rfl)) [5] [5] rfl rfl (ci := 0) (qc := (RX0, TX0, 10)) rfl rfl (List.mem_flatten.mpr ⟨_, List.mem_of_getElem? (i := 0) rfl, (bWays_mem hw_16).choose_spec⟩) rfl rfl hl.1 dX0_unlike_29 (Nat.le_of_ble_eq_true rfl) (Nat.le_of_ble_eq_true rfl) (fun r_20 b1 H locs hw G => ?_)
    refine zAn2 hw ?_
    intro hbs9 h_19
    clear hw
    subst hbs9
    have G : zS T A s.heap s [[zO4 la cr inn a1_7 a2_8 a3_9 a4_10], [zAr T 0 a1_7 7 k1], [zAr T 0 a2_8 28 k2], [zAr T 0 a3_9 7 k3], [zAr T 0 a4_10 7 k4], [zO0 h md wy la pc_ a1_1 a2_2 a3_3 a4_4 a5_5 a6_6, zAr T 0 a1_1 7 f1, zAr T 0 a2_2 7 f2, zAr T 0 a3_3 7 f3, zAr T 0 a4_4 n4 f4, zAr T 0 a5_5 n4 f5, zAr T 0 a6_6 n4 f6]] _ _ := G
    subst h_19
    refine lv_icmp_eq (tgt := 42) hx hb dX0_unlike_32 (by decide) (fun c_21 => ?_) (fun c_21 => ?_)
    · have c_21n : (zRoad f1 f2 x (nI i)).toInt = (zRoad f1 f2 y (nI i)).toInt := (fa_eq _ _).mp c_21
      refine lv_iconst (v := 0) hx hb dX0_unlike_42 (by decide) ?_
      refine lv_ior hx hb dX0_unlike_43 ?_
      refine lv_istore_n (lv' := [(3, .int (u3 ||| 0)), (4, .int (nI i)), (0, .ref h), (1, .int x), (2, .int y)]) hx hb dX0_unlike_44 rfl hl (by decide) rfl (fun ls hl => ?_)
      refine lv_iinc (v := nI (i + 1)) (lv' := [(4, .int (nI (i + 1))), (3, .int (u3 ||| 0)), (0, .ref h), (1, .int x), (2, .int y)]) hx hb dX0_unlike_45 hl (k := 1) rfl (z_inc i 1) (by decide) rfl (fun ls hl => ?_)
      refine lv_goto (tgt := 5) hx hb dX0_unlike_48 (by decide) ?_
      have hw_22 : bLand T la cr inn k1 k2 k3 k4 [zO4 la cr inn a1_7 a2_8 a3_9 a4_10, zAr T 0 a1_7 7 k1, zAr T 0 a2_8 28 k2, zAr T 0 a3_9 7 k3, zAr T 0 a4_10 7 k4] := ⟨a1_7, a2_8, a3_9, a4_10, rfl⟩
      have G : zS T A s.heap s [[zO4 la cr inn a1_7 a2_8 a3_9 a4_10, zAr T 0 a1_7 7 k1, zAr T 0 a2_8 28 k2, zAr T 0 a3_9 7 k3, zAr T 0 a4_10 7 k4], [zO0 h md wy la pc_ a1_1 a2_2 a3_3 a4_4 a5_5 a6_6, zAr T 0 a1_1 7 f1, zAr T 0 a2_2 7 f2, zAr T 0 a3_3 7 f3, zAr T 0 a4_4 n4 f4, zAr T 0 a5_5 n4 f5, zAr T 0 a6_6 n4 f6]] _ _ := G.re rfl
      have G := G.sub (bs' := [[zO0 h md wy la pc_ a1_1 a2_2 a3_3 a4_4 a5_5 a6_6, zAr T 0 a1_1 7 f1, zAr T 0 a2_2 7 f2, zAr T 0 a3_3 7 f3, zAr T 0 a4_4 n4 f4, zAr T 0 a5_5 n4 f5, zAr T 0 a6_6 n4 f6], [zO4 la cr inn a1_7 a2_8 a3_9 a4_10, zAr T 0 a1_7 7 k1, zAr T 0 a2_8 28 k2, zAr T 0 a3_9 7 k3, zAr T 0 a4_10 7 k4]]) [1, 0] rfl
      exact ih_5 (i + 1) (u3 ||| 0) (show (i + 1) ≤ cr.toInt.toNat from by omega) (show cr.toInt.toNat - (i + 1) < cr.toInt.toNat - i from by omega) _ _ ls G (lv_sub hl [0, 1, 2, 3, 4] rfl)
    · have c_21n : ¬ (zRoad f1 f2 x (nI i)).toInt = (zRoad f1 f2 y (nI i)).toInt := fun q => c_21 ((fa_eq _ _).mpr q)
      refine lv_iconst (v := 1) hx hb dX0_unlike_35 (by decide) ?_
      refine lv_iload hx hb dX0_unlike_36 (lv_at hl 0 rfl) ?_
      refine lv_ishl hx hb dX0_unlike_38 ?_
      refine lv_goto (tgt := 43) hx hb dX0_unlike_39 (by decide) ?_
      refine lv_ior hx hb dX0_unlike_43 ?_
      refine lv_istore_n (lv' := [(3, .int (u3 ||| (1 <<< ((nI i) &&& 31)))), (4, .int (nI i)), (0, .ref h), (1, .int x), (2, .int y)]) hx hb dX0_unlike_44 rfl hl (by decide) rfl (fun ls hl => ?_)
      refine lv_iinc (v := nI (i + 1)) (lv' := [(4, .int (nI (i + 1))), (3, .int (u3 ||| (1 <<< ((nI i) &&& 31)))), (0, .ref h), (1, .int x), (2, .int y)]) hx hb dX0_unlike_45 hl (k := 1) rfl (z_inc i 1) (by decide) rfl (fun ls hl => ?_)
      refine lv_goto (tgt := 5) hx hb dX0_unlike_48 (by decide) ?_
      have hw_23 : bLand T la cr inn k1 k2 k3 k4 [zO4 la cr inn a1_7 a2_8 a3_9 a4_10, zAr T 0 a1_7 7 k1, zAr T 0 a2_8 28 k2, zAr T 0 a3_9 7 k3, zAr T 0 a4_10 7 k4] := ⟨a1_7, a2_8, a3_9, a4_10, rfl⟩
      have G : zS T A s.heap s [[zO4 la cr inn a1_7 a2_8 a3_9 a4_10, zAr T 0 a1_7 7 k1, zAr T 0 a2_8 28 k2, zAr T 0 a3_9 7 k3, zAr T 0 a4_10 7 k4], [zO0 h md wy la pc_ a1_1 a2_2 a3_3 a4_4 a5_5 a6_6, zAr T 0 a1_1 7 f1, zAr T 0 a2_2 7 f2, zAr T 0 a3_3 7 f3, zAr T 0 a4_4 n4 f4, zAr T 0 a5_5 n4 f5, zAr T 0 a6_6 n4 f6]] _ _ := G.re rfl
      have G := G.sub (bs' := [[zO0 h md wy la pc_ a1_1 a2_2 a3_3 a4_4 a5_5 a6_6, zAr T 0 a1_1 7 f1, zAr T 0 a2_2 7 f2, zAr T 0 a3_3 7 f3, zAr T 0 a4_4 n4 f4, zAr T 0 a5_5 n4 f5, zAr T 0 a6_6 n4 f6], [zO4 la cr inn a1_7 a2_8 a3_9 a4_10, zAr T 0 a1_7 7 k1, zAr T 0 a2_8 28 k2, zAr T 0 a3_9 7 k3, zAr T 0 a4_10 7 k4]]) [1, 0] rfl
      exact ih_5 (i + 1) (u3 ||| (1 <<< ((nI i) &&& 31))) (show (i + 1) ≤ cr.toInt.toNat from by omega) (show cr.toInt.toNat - (i + 1) < cr.toInt.toNat - i from by omega) _ _ ls G (lv_sub hl [0, 1, 2, 3, 4] rfl)
set_option maxHeartbeats 4000000 in
set_option maxRecDepth 100000 in
/-- c_nearestWay -/
theorem c_nearestWay (l : Launch) (T : zTy) (h : Nat) (la : Nat) (md : Int32) (wy : Int32) (pc_ : Int32) (f1 : Nat → Int32) (f2 : Nat → Int32) (f3 : Nat → Int32) (f4 : Nat → Int32) (f5 : Nat → Int32) (f6 : Nat → Int32) (n4 : Nat) (ww : va_W) (cr : Int32) (inn : Int32) (k1 : Nat → Int32) (k2 : Nat → Int32) (k3 : Nat → Int32) (k4 : Nat → Int32) (z : va_W) (x : Int32) (y : Int32) (hww : bWays T h la md wy pc_ f1 f2 f3 f4 f5 f6 n4 ww) (hz : bLand T la cr inn k1 k2 k3 k4 z) (hn : n4 ≤ 131072) (hI : zLI cr k1 k3) (hwy : 0 ≤ wy.toInt) : zMi l T yX0_nearestWay cX0_nearestWay 9 (some .int) 4 0 0 [.ref h, .int x, .int y] [ww, z] (fun (r : Int32) bs => bs = [ww, z]) := by
  refine zMi_of (own := RX0) (by decide) rfl (Nat.le_of_ble_eq_true rfl) ?_
  intro p e s m args below meth c A ls C hr hlocks hnm hAe G hl
  refine zHide (fun Q9 hQ9 => ?_)
  have hx := C.1
  have hb := C.2.1
  have hl : lv_has ls 9 [(0, .ref h), (1, .int x), (2, .int y)] := hl
  have hcr := hI.1
  have hwl := Int32.toInt_lt wy
  refine lv_aload_n hx hb dX0_nearestWay_0 rfl (lv_at hl 0 rfl) ?_
  refine z_Vi (bc := [ww, z]) (br := []) (As := []) (rest := []) C G (c_wayTold l T h la md wy pc_ f1 f2 f3 f4 f5 f6 n4 ww cr inn k1 k2 k3 k4 z hww hz (by first | with_reducible assumption | with_reducible rfl | omega | assumption | rfl)) (kV_RX0_110 C.2.2.2.2 (Nat.le_of_ble_eq_true rfl) (Nat.le_of_ble_eq_true rfl)) [0, 1] [0, 0] rfl rfl (ci := 0) (qc := (RX0, TX0, 10)) rfl rfl (List.mem_flatten.mpr ⟨_, List.mem_of_getElem? (i := 0) rfl, (bWays_mem hww).choose_spec⟩) rfl rfl hl.1 dX0_nearestWay_1 (Nat.le_of_ble_eq_true rfl) (Nat.le_of_ble_eq_true rfl) (fun r_1 b1 H locs hw G => ?_)
  obtain rfl := hw
  have G : zS T A s.heap s [ww, z] _ _ := G
  refine lv_istore_n (lv' := [(3, .int r_1), (0, .ref h), (1, .int x), (2, .int y)]) hx hb dX0_nearestWay_4 rfl hl (by decide) rfl (fun ls hl => ?_)
  refine lv_iconst (v := (-1)) hx hb dX0_nearestWay_5 (by decide) ?_
  refine lv_istore (lv' := [(4, .int (-1)), (3, .int r_1), (0, .ref h), (1, .int x), (2, .int y)]) hx hb dX0_nearestWay_6 hl (by decide) rfl (fun ls hl => ?_)
  refine lv_iconst (v := 0) hx hb dX0_nearestWay_8 (by decide) ?_
  refine lv_istore (lv' := [(5, .int 0), (4, .int (-1)), (3, .int r_1), (0, .ref h), (1, .int x), (2, .int y)]) hx hb dX0_nearestWay_9 hl (by decide) rfl (fun ls hl => ?_)
  refine lv_iconst (v := 0) hx hb dX0_nearestWay_11 (by decide) ?_
  refine lv_istore (lv' := [(6, .int 0), (5, .int 0), (4, .int (-1)), (3, .int r_1), (0, .ref h), (1, .int x), (2, .int y)]) hx hb dX0_nearestWay_12 hl (by decide) rfl (fun ls hl => ?_)
  refine zEx6 hww ?_
  intro a1_2 a2_3 a3_4 a4_5 a5_6 a6_7 hbs9
  clear hww
  subst hbs9
  have G : zS T A s.heap s [[zO0 h md wy la pc_ a1_2 a2_3 a3_4 a4_5 a5_6 a6_7], [zAr T 0 a1_2 7 f1], [zAr T 0 a2_3 7 f2], [zAr T 0 a3_4 7 f3], [zAr T 0 a4_5 n4 f4], [zAr T 0 a5_6 n4 f5], [zAr T 0 a6_7 n4 f6], z] _ _ := G.re rfl
  have hw_8 : bWays T h la md wy pc_ f1 f2 f3 f4 f5 f6 n4 [zO0 h md wy la pc_ a1_2 a2_3 a3_4 a4_5 a5_6 a6_7, zAr T 0 a1_2 7 f1, zAr T 0 a2_3 7 f2, zAr T 0 a3_4 7 f3, zAr T 0 a4_5 n4 f4, zAr T 0 a5_6 n4 f5, zAr T 0 a6_7 n4 f6] := ⟨a1_2, a2_3, a3_4, a4_5, a5_6, a6_7, rfl⟩
  have G : zS T A s.heap s [[zO0 h md wy la pc_ a1_2 a2_3 a3_4 a4_5 a5_6 a6_7, zAr T 0 a1_2 7 f1, zAr T 0 a2_3 7 f2, zAr T 0 a3_4 7 f3, zAr T 0 a4_5 n4 f4, zAr T 0 a5_6 n4 f5, zAr T 0 a6_7 n4 f6], z] _ _ := G.re rfl
  refine z_lp3 (T := T) 14 (fun (i : Nat) (ui4 : Int32) (ui5 : Int32) => [[zO0 h md wy la pc_ a1_2 a2_3 a3_4 a4_5 a5_6 a6_7, zAr T 0 a1_2 7 f1, zAr T 0 a2_3 7 f2, zAr T 0 a3_4 7 f3, zAr T 0 a4_5 n4 f4, zAr T 0 a5_6 n4 f5, zAr T 0 a6_7 n4 f6], z]) (fun (i : Nat) (ui4 : Int32) (ui5 : Int32) => [(6, .int (nI i)), (5, .int ui5), (4, .int ui4), (3, .int r_1), (0, .ref h), (1, .int x), (2, .int y)]) (fun (i : Nat) (ui4 : Int32) (ui5 : Int32) => i ≤ wy.toInt.toNat) (fun (i : Nat) (ui4 : Int32) (ui5 : Int32) => wy.toInt.toNat - i) ?_ 0 (-1) 0 (show 0 ≤ wy.toInt.toNat from by omega) G (lv_sub hl [0, 1, 2, 3, 4, 5, 6] rfl)
  intro i ui4 ui5 hi ih_14 H locs ls G hl
  replace hi : i ≤ wy.toInt.toNat := hi
  replace G : zS T A s.heap s [[zO0 h md wy la pc_ a1_2 a2_3 a3_4 a4_5 a5_6 a6_7, zAr T 0 a1_2 7 f1, zAr T 0 a2_3 7 f2, zAr T 0 a3_4 7 f3, zAr T 0 a4_5 n4 f4, zAr T 0 a5_6 n4 f5, zAr T 0 a6_7 n4 f6], z] _ _ := G
  replace hl : lv_has ls 9 [(6, .int (nI i)), (5, .int ui5), (4, .int ui4), (3, .int r_1), (0, .ref h), (1, .int x), (2, .int y)] := hl
  refine lv_iload hx hb dX0_nearestWay_14 (lv_at hl 0 rfl) ?_
  refine lv_aload_n hx hb dX0_nearestWay_16 rfl (lv_at hl 4 rfl) ?_
  have G : zS T A s.heap s [[zO0 h md wy la pc_ a1_2 a2_3 a3_4 a4_5 a5_6 a6_7], [zAr T 0 a1_2 7 f1], [zAr T 0 a2_3 7 f2], [zAr T 0 a3_4 7 f3], [zAr T 0 a4_5 n4 f4], [zAr T 0 a5_6 n4 f5], [zAr T 0 a6_7 n4 f6], z] _ _ := G.re rfl
  refine z_get C G clX0 0 rfl 1 (by decide) m_fl_RX0_57 rfl dX0_nearestWay_17 ?_
  refine lv_icmp_ge (tgt := 83) hx hb dX0_nearestWay_20 (by decide) (fun c_9 => ?_) (fun c_9 => ?_)
  · have c_9n : wy.toInt ≤ (i : Int) := by have q := (fa_le _ _).mp c_9; rw [nI_toInt (n := i) (by omega)] at q; exact q
    refine lv_iload hx hb dX0_nearestWay_83 (lv_at hl 2 rfl) ?_
    have hw_10 : bWays T h la md wy pc_ f1 f2 f3 f4 f5 f6 n4 [zO0 h md wy la pc_ a1_2 a2_3 a3_4 a4_5 a5_6 a6_7, zAr T 0 a1_2 7 f1, zAr T 0 a2_3 7 f2, zAr T 0 a3_4 7 f3, zAr T 0 a4_5 n4 f4, zAr T 0 a5_6 n4 f5, zAr T 0 a6_7 n4 f6] := ⟨a1_2, a2_3, a3_4, a4_5, a5_6, a6_7, rfl⟩
    have G : zS T A s.heap s [[zO0 h md wy la pc_ a1_2 a2_3 a3_4 a4_5 a5_6 a6_7, zAr T 0 a1_2 7 f1, zAr T 0 a2_3 7 f2, zAr T 0 a3_4 7 f3, zAr T 0 a4_5 n4 f4, zAr T 0 a5_6 n4 f5, zAr T 0 a6_7 n4 f6], z] _ _ := G.re rfl
    exact z_back hQ9 (z_iret C hr hlocks G (Nat.le_of_ble_eq_true rfl) (Nat.le_of_ble_eq_true rfl) dX0_nearestWay_85 rfl)
  · have c_9n : ¬ wy.toInt ≤ (i : Int) := fun q => c_9 ((fa_le _ _).mpr (by rw [nI_toInt (n := i) (by omega)]; exact q))
    refine lv_aload_n hx hb dX0_nearestWay_23 rfl (lv_at hl 4 rfl) ?_
    refine lv_iload hx hb dX0_nearestWay_24 (lv_at hl 0 rfl) ?_
    refine lv_iload_n hx hb dX0_nearestWay_26 rfl (lv_at hl 5 rfl) ?_
    have hw_11 : bWays T h la md wy pc_ f1 f2 f3 f4 f5 f6 n4 [zO0 h md wy la pc_ a1_2 a2_3 a3_4 a4_5 a5_6 a6_7, zAr T 0 a1_2 7 f1, zAr T 0 a2_3 7 f2, zAr T 0 a3_4 7 f3, zAr T 0 a4_5 n4 f4, zAr T 0 a5_6 n4 f5, zAr T 0 a6_7 n4 f6] := ⟨a1_2, a2_3, a3_4, a4_5, a5_6, a6_7, rfl⟩
    have G : zS T A s.heap s [[zO0 h md wy la pc_ a1_2 a2_3 a3_4 a4_5 a5_6 a6_7, zAr T 0 a1_2 7 f1, zAr T 0 a2_3 7 f2, zAr T 0 a3_4 7 f3, zAr T 0 a4_5 n4 f4, zAr T 0 a5_6 n4 f5, zAr T 0 a6_7 n4 f6], z] _ _ := G.re rfl
    refine z_Vi (bc := [[zO0 h md wy la pc_ a1_2 a2_3 a3_4 a4_5 a5_6 a6_7, zAr T 0 a1_2 7 f1, zAr T 0 a2_3 7 f2, zAr T 0 a3_4 7 f3, zAr T 0 a4_5 n4 f4, zAr T 0 a5_6 n4 f5, zAr T 0 a6_7 n4 f6]]) (br := [z]) (As := [.int (nI i), .int x]) (rest := []) C G (c_where l T h la md wy pc_ f1 f2 f3 f4 f5 f6 n4 ([zO0 h md wy la pc_ a1_2 a2_3 a3_4 a4_5 a5_6 a6_7, zAr T 0 a1_2 7 f1, zAr T 0 a2_3 7 f2, zAr T 0 a3_4 7 f3, zAr T 0 a4_5 n4 f4, zAr T 0 a5_6 n4 f5, zAr T 0 a6_7 n4 f6]) (nI i) x hw_11 (by first | with_reducible assumption | with_reducible rfl | omega | assumption | rfl)) (kV_RX0_94 C.2.2.2.2 (Nat.le_of_ble_eq_true rfl) (Nat.le_of_ble_eq_true rfl)) [0] [0] rfl rfl (ci := 0) (qc := (RX0, TX0, 10)) rfl rfl (List.mem_flatten.mpr ⟨_, List.mem_of_getElem? (i := 0) rfl, (bWays_mem hw_11).choose_spec⟩) rfl rfl hl.1 dX0_nearestWay_27 (Nat.le_of_ble_eq_true rfl) (Nat.le_of_ble_eq_true rfl) (fun r_13 b1 H locs hw G => ?_)
    refine zAn2 hw ?_
    intro hbs9 h_12
    clear hw
    subst hbs9
    have G : zS T A s.heap s [z, [zO0 h md wy la pc_ a1_2 a2_3 a3_4 a4_5 a5_6 a6_7, zAr T 0 a1_2 7 f1, zAr T 0 a2_3 7 f2, zAr T 0 a3_4 7 f3, zAr T 0 a4_5 n4 f4, zAr T 0 a5_6 n4 f5, zAr T 0 a6_7 n4 f6]] _ _ := G
    subst h_12
    refine lv_iload_n hx hb dX0_nearestWay_30 rfl (lv_at hl 6 rfl) ?_
    refine lv_icmp_ne (tgt := 77) hx hb dX0_nearestWay_31 (by decide) (fun c_14 => ?_) (fun c_14 => ?_)
    · have c_14n : ¬ (zEntry f5 n4 (nI i) x &&& 7).toInt = y.toInt := fun q => c_14 ((fa_eq _ _).mpr q)
      refine lv_iinc (v := nI (i + 1)) (lv' := [(6, .int (nI (i + 1))), (5, .int ui5), (4, .int ui4), (3, .int r_1), (0, .ref h), (1, .int x), (2, .int y)]) hx hb dX0_nearestWay_77 hl (k := 0) rfl (z_inc i 1) (by decide) rfl (fun ls hl => ?_)
      refine lv_goto (tgt := 14) hx hb dX0_nearestWay_80 (by decide) ?_
      have G := G.sub (bs' := [[zO0 h md wy la pc_ a1_2 a2_3 a3_4 a4_5 a5_6 a6_7, zAr T 0 a1_2 7 f1, zAr T 0 a2_3 7 f2, zAr T 0 a3_4 7 f3, zAr T 0 a4_5 n4 f4, zAr T 0 a5_6 n4 f5, zAr T 0 a6_7 n4 f6], z]) [1, 0] rfl
      exact ih_14 (i + 1) ui4 ui5 (show (i + 1) ≤ wy.toInt.toNat from by omega) (show wy.toInt.toNat - (i + 1) < wy.toInt.toNat - i from by omega) _ _ ls G (lv_sub hl [0, 1, 2, 3, 4, 5, 6] rfl)
    · have c_14n : (zEntry f5 n4 (nI i) x &&& 7).toInt = y.toInt := (fa_eq _ _).mp c_14
      refine lv_aload_n hx hb dX0_nearestWay_34 rfl (lv_at hl 4 rfl) ?_
      refine lv_iload hx hb dX0_nearestWay_35 (lv_at hl 0 rfl) ?_
      refine lv_iload_n hx hb dX0_nearestWay_37 rfl (lv_at hl 3 rfl) ?_
      refine z_Vi (bc := [[zO0 h md wy la pc_ a1_2 a2_3 a3_4 a4_5 a5_6 a6_7, zAr T 0 a1_2 7 f1, zAr T 0 a2_3 7 f2, zAr T 0 a3_4 7 f3, zAr T 0 a4_5 n4 f4, zAr T 0 a5_6 n4 f5, zAr T 0 a6_7 n4 f6], z]) (br := []) (As := [.int (nI i), .int r_1]) (rest := []) C G (c_unlike l T h la md wy pc_ f1 f2 f3 f4 f5 f6 n4 ([zO0 h md wy la pc_ a1_2 a2_3 a3_4 a4_5 a5_6 a6_7, zAr T 0 a1_2 7 f1, zAr T 0 a2_3 7 f2, zAr T 0 a3_4 7 f3, zAr T 0 a4_5 n4 f4, zAr T 0 a5_6 n4 f5, zAr T 0 a6_7 n4 f6]) cr inn k1 k2 k3 k4 z (nI i) r_1 hw_11 hz (by first | with_reducible assumption | with_reducible rfl | omega | assumption | rfl)) (kV_RX0_114 C.2.2.2.2 (Nat.le_of_ble_eq_true rfl) (Nat.le_of_ble_eq_true rfl)) [1, 0] [0, 0] rfl rfl (ci := 0) (qc := (RX0, TX0, 10)) rfl rfl (List.mem_flatten.mpr ⟨_, List.mem_of_getElem? (i := 0) rfl, (bWays_mem hw_11).choose_spec⟩) rfl rfl hl.1 dX0_nearestWay_38 (Nat.le_of_ble_eq_true rfl) (Nat.le_of_ble_eq_true rfl) (fun r_15 b1 H locs hw G => ?_)
      obtain rfl := hw
      have G : zS T A s.heap s [[zO0 h md wy la pc_ a1_2 a2_3 a3_4 a4_5 a5_6 a6_7, zAr T 0 a1_2 7 f1, zAr T 0 a2_3 7 f2, zAr T 0 a3_4 7 f3, zAr T 0 a4_5 n4 f4, zAr T 0 a5_6 n4 f5, zAr T 0 a6_7 n4 f6], z] _ _ := G
      refine lv_istore (lv' := [(7, .int r_15), (6, .int (nI i)), (5, .int ui5), (4, .int ui4), (3, .int r_1), (0, .ref h), (1, .int x), (2, .int y)]) hx hb dX0_nearestWay_41 hl (by decide) rfl (fun ls hl => ?_)
      refine lv_iload hx hb dX0_nearestWay_43 (lv_at hl 0 rfl) ?_
      refine z_Si (bc := []) (br := [[zO0 h md wy la pc_ a1_2 a2_3 a3_4 a4_5 a5_6 a6_7, zAr T 0 a1_2 7 f1, zAr T 0 a2_3 7 f2, zAr T 0 a3_4 7 f3, zAr T 0 a4_5 n4 f4, zAr T 0 a5_6 n4 f5, zAr T 0 a6_7 n4 f6], z]) (As := [.int r_15]) (rest := []) C G (c_bitCount l T r_15) (kS_RX0_117 C.2.2.2.2 (Nat.le_of_ble_eq_true rfl) (Nat.le_of_ble_eq_true rfl)) [] [] rfl rfl rfl rfl hl.1 dX0_nearestWay_45 (Nat.le_of_ble_eq_true rfl) (Nat.le_of_ble_eq_true rfl) (fun r_16 b1 H locs hw G => ?_)
      obtain rfl := hw
      have G : zS T A s.heap s [[zO0 h md wy la pc_ a1_2 a2_3 a3_4 a4_5 a5_6 a6_7, zAr T 0 a1_2 7 f1, zAr T 0 a2_3 7 f2, zAr T 0 a3_4 7 f3, zAr T 0 a4_5 n4 f4, zAr T 0 a5_6 n4 f5, zAr T 0 a6_7 n4 f6], z] _ _ := G
      refine lv_bipush (v := 7) hx hb dX0_nearestWay_48 (by decide) ?_
      refine lv_ishl hx hb dX0_nearestWay_50 ?_
      refine lv_iload hx hb dX0_nearestWay_51 (lv_at hl 0 rfl) ?_
      refine lv_iadd hx hb dX0_nearestWay_53 ?_
      refine lv_istore (lv' := [(8, .int ((r_16 <<< (7 &&& 31)) + r_15)), (7, .int r_15), (6, .int (nI i)), (5, .int ui5), (4, .int ui4), (3, .int r_1), (0, .ref h), (1, .int x), (2, .int y)]) hx hb dX0_nearestWay_54 hl (by decide) rfl (fun ls hl => ?_)
      refine lv_iload hx hb dX0_nearestWay_56 (lv_at hl 4 rfl) ?_
      refine lv_iconst (v := (-1)) hx hb dX0_nearestWay_58 (by decide) ?_
      refine lv_icmp_eq (tgt := 69) hx hb dX0_nearestWay_59 (by decide) (fun c_17 => ?_) (fun c_17 => ?_)
      · have c_17n : ui4.toInt = (-1 : Int) := (fa_eq _ _).mp c_17
        refine lv_iload hx hb dX0_nearestWay_69 (lv_at hl 2 rfl) ?_
        refine lv_istore (lv' := [(4, .int (nI i)), (8, .int ((r_16 <<< (7 &&& 31)) + r_15)), (7, .int r_15), (6, .int (nI i)), (5, .int ui5), (3, .int r_1), (0, .ref h), (1, .int x), (2, .int y)]) hx hb dX0_nearestWay_71 hl (by decide) rfl (fun ls hl => ?_)
        refine lv_iload hx hb dX0_nearestWay_73 (lv_at hl 1 rfl) ?_
        refine lv_istore (lv' := [(5, .int ((r_16 <<< (7 &&& 31)) + r_15)), (4, .int (nI i)), (8, .int ((r_16 <<< (7 &&& 31)) + r_15)), (7, .int r_15), (6, .int (nI i)), (3, .int r_1), (0, .ref h), (1, .int x), (2, .int y)]) hx hb dX0_nearestWay_75 hl (by decide) rfl (fun ls hl => ?_)
        refine lv_iinc (v := nI (i + 1)) (lv' := [(6, .int (nI (i + 1))), (5, .int ((r_16 <<< (7 &&& 31)) + r_15)), (4, .int (nI i)), (8, .int ((r_16 <<< (7 &&& 31)) + r_15)), (7, .int r_15), (3, .int r_1), (0, .ref h), (1, .int x), (2, .int y)]) hx hb dX0_nearestWay_77 hl (k := 4) rfl (z_inc i 1) (by decide) rfl (fun ls hl => ?_)
        refine lv_goto (tgt := 14) hx hb dX0_nearestWay_80 (by decide) ?_
        exact ih_14 (i + 1) (nI i) ((r_16 <<< (7 &&& 31)) + r_15) (show (i + 1) ≤ wy.toInt.toNat from by omega) (show wy.toInt.toNat - (i + 1) < wy.toInt.toNat - i from by omega) _ _ ls G (lv_sub hl [0, 1, 2, 5, 6, 7, 8] rfl)
      · have c_17n : ¬ ui4.toInt = (-1 : Int) := fun q => c_17 ((fa_eq _ _).mpr q)
        refine lv_iload hx hb dX0_nearestWay_62 (lv_at hl 0 rfl) ?_
        refine lv_iload hx hb dX0_nearestWay_64 (lv_at hl 3 rfl) ?_
        refine lv_icmp_ge (tgt := 77) hx hb dX0_nearestWay_66 (by decide) (fun c_18 => ?_) (fun c_18 => ?_)
        · have c_18n : ui5.toInt ≤ ((r_16 <<< (7 &&& 31)) + r_15).toInt := (fa_le _ _).mp c_18
          refine lv_iinc (v := nI (i + 1)) (lv' := [(6, .int (nI (i + 1))), (8, .int ((r_16 <<< (7 &&& 31)) + r_15)), (7, .int r_15), (5, .int ui5), (4, .int ui4), (3, .int r_1), (0, .ref h), (1, .int x), (2, .int y)]) hx hb dX0_nearestWay_77 hl (k := 2) rfl (z_inc i 1) (by decide) rfl (fun ls hl => ?_)
          refine lv_goto (tgt := 14) hx hb dX0_nearestWay_80 (by decide) ?_
          exact ih_14 (i + 1) ui4 ui5 (show (i + 1) ≤ wy.toInt.toNat from by omega) (show wy.toInt.toNat - (i + 1) < wy.toInt.toNat - i from by omega) _ _ ls G (lv_sub hl [0, 3, 4, 5, 6, 7, 8] rfl)
        · have c_18n : ¬ ui5.toInt ≤ ((r_16 <<< (7 &&& 31)) + r_15).toInt := fun q => c_18 ((fa_le _ _).mpr q)
          refine lv_iload hx hb dX0_nearestWay_69 (lv_at hl 2 rfl) ?_
          refine lv_istore (lv' := [(4, .int (nI i)), (8, .int ((r_16 <<< (7 &&& 31)) + r_15)), (7, .int r_15), (6, .int (nI i)), (5, .int ui5), (3, .int r_1), (0, .ref h), (1, .int x), (2, .int y)]) hx hb dX0_nearestWay_71 hl (by decide) rfl (fun ls hl => ?_)
          refine lv_iload hx hb dX0_nearestWay_73 (lv_at hl 1 rfl) ?_
          refine lv_istore (lv' := [(5, .int ((r_16 <<< (7 &&& 31)) + r_15)), (4, .int (nI i)), (8, .int ((r_16 <<< (7 &&& 31)) + r_15)), (7, .int r_15), (6, .int (nI i)), (3, .int r_1), (0, .ref h), (1, .int x), (2, .int y)]) hx hb dX0_nearestWay_75 hl (by decide) rfl (fun ls hl => ?_)
          refine lv_iinc (v := nI (i + 1)) (lv' := [(6, .int (nI (i + 1))), (5, .int ((r_16 <<< (7 &&& 31)) + r_15)), (4, .int (nI i)), (8, .int ((r_16 <<< (7 &&& 31)) + r_15)), (7, .int r_15), (3, .int r_1), (0, .ref h), (1, .int x), (2, .int y)]) hx hb dX0_nearestWay_77 hl (k := 4) rfl (z_inc i 1) (by decide) rfl (fun ls hl => ?_)
          refine lv_goto (tgt := 14) hx hb dX0_nearestWay_80 (by decide) ?_
          exact ih_14 (i + 1) (nI i) ((r_16 <<< (7 &&& 31)) + r_15) (show (i + 1) ≤ wy.toInt.toNat from by omega) (show wy.toInt.toNat - (i + 1) < wy.toInt.toNat - i from by omega) _ _ ls G (lv_sub hl [0, 1, 2, 5, 6, 7, 8] rfl)
set_option maxHeartbeats 4000000 in
set_option maxRecDepth 100000 in
/-- c_comesByRow -/
theorem c_comesByRow (l : Launch) (T : zTy) (h : Nat) (la : Nat) (md : Int32) (wy : Int32) (pc_ : Int32) (f1 : Nat → Int32) (f2 : Nat → Int32) (f3 : Nat → Int32) (f4 : Nat → Int32) (f5 : Nat → Int32) (f6 : Nat → Int32) (n4 : Nat) (ww : va_W) (cr : Int32) (inn : Int32) (k1 : Nat → Int32) (k2 : Nat → Int32) (k3 : Nat → Int32) (k4 : Nat → Int32) (z : va_W) (x : Int32) (hww : bWays T h la md wy pc_ f1 f2 f3 f4 f5 f6 n4 ww) (hz : bLand T la cr inn k1 k2 k3 k4 z) (hI : zLI cr k1 k3) : zMi l T yX0_comesByRow cX0_comesByRow 4 (some .boolean) 3 0 0 [.ref h, .int x] [ww, z] (fun (r : Int32) bs => bs = [ww, z] ∧ (r = 0 ∨ r = 1)) := by
  refine zMi_of (own := RX0) (by decide) rfl (Nat.le_of_ble_eq_true rfl) ?_
  intro p e s m args below meth c A ls C hr hlocks hnm hAe G hl
  refine zHide (fun Q9 hQ9 => ?_)
  have hx := C.1
  have hb := C.2.1
  have hl : lv_has ls 4 [(0, .ref h), (1, .int x)] := hl
  have hcr := hI.1
  refine lv_iload_n hx hb dX0_comesByRow_0 rfl (lv_at hl 1 rfl) ?_
  refine lv_istore_n (lv' := [(2, .int x), (0, .ref h), (1, .int x)]) hx hb dX0_comesByRow_1 rfl hl (by decide) rfl (fun ls hl => ?_)
  refine lv_iconst (v := 0) hx hb dX0_comesByRow_2 (by decide) ?_
  refine lv_istore_n (lv' := [(3, .int 0), (2, .int x), (0, .ref h), (1, .int x)]) hx hb dX0_comesByRow_3 rfl hl (by decide) rfl (fun ls hl => ?_)
  refine zEx6 hww ?_
  intro a1_1 a2_2 a3_3 a4_4 a5_5 a6_6 hbs9
  clear hww
  subst hbs9
  have G : zS T A s.heap s [[zO0 h md wy la pc_ a1_1 a2_2 a3_3 a4_4 a5_5 a6_6], [zAr T 0 a1_1 7 f1], [zAr T 0 a2_2 7 f2], [zAr T 0 a3_3 7 f3], [zAr T 0 a4_4 n4 f4], [zAr T 0 a5_5 n4 f5], [zAr T 0 a6_6 n4 f6], z] _ _ := G.re rfl
  refine zEx4 hz ?_
  intro a1_7 a2_8 a3_9 a4_10 hbs9
  clear hz
  subst hbs9
  have G : zS T A s.heap s [[zO0 h md wy la pc_ a1_1 a2_2 a3_3 a4_4 a5_5 a6_6], [zAr T 0 a1_1 7 f1], [zAr T 0 a2_2 7 f2], [zAr T 0 a3_3 7 f3], [zAr T 0 a4_4 n4 f4], [zAr T 0 a5_5 n4 f5], [zAr T 0 a6_6 n4 f6], [zO4 la cr inn a1_7 a2_8 a3_9 a4_10], [zAr T 0 a1_7 7 k1], [zAr T 0 a2_8 28 k2], [zAr T 0 a3_9 7 k3], [zAr T 0 a4_10 7 k4]] _ _ := G.re rfl
  have hw_11 : bWays T h la md wy pc_ f1 f2 f3 f4 f5 f6 n4 [zO0 h md wy la pc_ a1_1 a2_2 a3_3 a4_4 a5_5 a6_6, zAr T 0 a1_1 7 f1, zAr T 0 a2_2 7 f2, zAr T 0 a3_3 7 f3, zAr T 0 a4_4 n4 f4, zAr T 0 a5_5 n4 f5, zAr T 0 a6_6 n4 f6] := ⟨a1_1, a2_2, a3_3, a4_4, a5_5, a6_6, rfl⟩
  have G : zS T A s.heap s [[zO0 h md wy la pc_ a1_1 a2_2 a3_3 a4_4 a5_5 a6_6, zAr T 0 a1_1 7 f1, zAr T 0 a2_2 7 f2, zAr T 0 a3_3 7 f3, zAr T 0 a4_4 n4 f4, zAr T 0 a5_5 n4 f5, zAr T 0 a6_6 n4 f6], [zO4 la cr inn a1_7 a2_8 a3_9 a4_10], [zAr T 0 a1_7 7 k1], [zAr T 0 a2_8 28 k2], [zAr T 0 a3_9 7 k3], [zAr T 0 a4_10 7 k4]] _ _ := G.re rfl
  have hw_12 : bLand T la cr inn k1 k2 k3 k4 [zO4 la cr inn a1_7 a2_8 a3_9 a4_10, zAr T 0 a1_7 7 k1, zAr T 0 a2_8 28 k2, zAr T 0 a3_9 7 k3, zAr T 0 a4_10 7 k4] := ⟨a1_7, a2_8, a3_9, a4_10, rfl⟩
  have G : zS T A s.heap s [[zO0 h md wy la pc_ a1_1 a2_2 a3_3 a4_4 a5_5 a6_6, zAr T 0 a1_1 7 f1, zAr T 0 a2_2 7 f2, zAr T 0 a3_3 7 f3, zAr T 0 a4_4 n4 f4, zAr T 0 a5_5 n4 f5, zAr T 0 a6_6 n4 f6], [zO4 la cr inn a1_7 a2_8 a3_9 a4_10, zAr T 0 a1_7 7 k1, zAr T 0 a2_8 28 k2, zAr T 0 a3_9 7 k3, zAr T 0 a4_10 7 k4]] _ _ := G.re rfl
  refine z_lp2 (T := T) 4 (fun (i : Nat) (u2 : Int32) => [[zO0 h md wy la pc_ a1_1 a2_2 a3_3 a4_4 a5_5 a6_6, zAr T 0 a1_1 7 f1, zAr T 0 a2_2 7 f2, zAr T 0 a3_3 7 f3, zAr T 0 a4_4 n4 f4, zAr T 0 a5_5 n4 f5, zAr T 0 a6_6 n4 f6], [zO4 la cr inn a1_7 a2_8 a3_9 a4_10, zAr T 0 a1_7 7 k1, zAr T 0 a2_8 28 k2, zAr T 0 a3_9 7 k3, zAr T 0 a4_10 7 k4]]) (fun (i : Nat) (u2 : Int32) => [(3, .int (nI i)), (2, .int u2), (0, .ref h), (1, .int x)]) (fun (i : Nat) (u2 : Int32) => i ≤ cr.toInt.toNat) (fun (i : Nat) (u2 : Int32) => cr.toInt.toNat - i) ?_ 0 x (show 0 ≤ cr.toInt.toNat from by omega) G (lv_sub hl [0, 1, 2, 3] rfl)
  intro i u2 hi ih_4 H locs ls G hl
  replace hi : i ≤ cr.toInt.toNat := hi
  replace G : zS T A s.heap s [[zO0 h md wy la pc_ a1_1 a2_2 a3_3 a4_4 a5_5 a6_6, zAr T 0 a1_1 7 f1, zAr T 0 a2_2 7 f2, zAr T 0 a3_3 7 f3, zAr T 0 a4_4 n4 f4, zAr T 0 a5_5 n4 f5, zAr T 0 a6_6 n4 f6], [zO4 la cr inn a1_7 a2_8 a3_9 a4_10, zAr T 0 a1_7 7 k1, zAr T 0 a2_8 28 k2, zAr T 0 a3_9 7 k3, zAr T 0 a4_10 7 k4]] _ _ := G
  replace hl : lv_has ls 4 [(3, .int (nI i)), (2, .int u2), (0, .ref h), (1, .int x)] := hl
  refine lv_iload_n hx hb dX0_comesByRow_4 rfl (lv_at hl 0 rfl) ?_
  refine lv_aload_n hx hb dX0_comesByRow_5 rfl (lv_at hl 2 rfl) ?_
  have G : zS T A s.heap s [[zO0 h md wy la pc_ a1_1 a2_2 a3_3 a4_4 a5_5 a6_6], [zAr T 0 a1_1 7 f1], [zAr T 0 a2_2 7 f2], [zAr T 0 a3_3 7 f3], [zAr T 0 a4_4 n4 f4], [zAr T 0 a5_5 n4 f5], [zAr T 0 a6_6 n4 f6], [zO4 la cr inn a1_7 a2_8 a3_9 a4_10, zAr T 0 a1_7 7 k1, zAr T 0 a2_8 28 k2, zAr T 0 a3_9 7 k3, zAr T 0 a4_10 7 k4]] _ _ := G.re rfl
  refine z_get C G clX0 0 rfl 2 (by decide) m_fl_RX0_14 rfl dX0_comesByRow_6 ?_
  have G : zS T A s.heap s [[zO0 h md wy la pc_ a1_1 a2_2 a3_3 a4_4 a5_5 a6_6], [zAr T 0 a1_1 7 f1], [zAr T 0 a2_2 7 f2], [zAr T 0 a3_3 7 f3], [zAr T 0 a4_4 n4 f4], [zAr T 0 a5_5 n4 f5], [zAr T 0 a6_6 n4 f6], [zO4 la cr inn a1_7 a2_8 a3_9 a4_10], [zAr T 0 a1_7 7 k1], [zAr T 0 a2_8 28 k2], [zAr T 0 a3_9 7 k3], [zAr T 0 a4_10 7 k4]] _ _ := G.re rfl
  refine z_get C G clX4 7 rfl 0 (by decide) m_fl_RX0_107 rfl dX0_comesByRow_9 ?_
  refine lv_icmp_ge (tgt := 47) hx hb dX0_comesByRow_12 (by decide) (fun c_13 => ?_) (fun c_13 => ?_)
  · have c_13n : cr.toInt ≤ (i : Int) := by have q := (fa_le _ _).mp c_13; rw [nI_toInt (n := i) (by omega)] at q; exact q
    refine lv_aload_n hx hb dX0_comesByRow_47 rfl (lv_at hl 2 rfl) ?_
    refine z_get C G clX0 0 rfl 2 (by decide) m_fl_RX0_14 rfl dX0_comesByRow_48 ?_
    refine lv_iload_n hx hb dX0_comesByRow_51 rfl (lv_at hl 1 rfl) ?_
    have hw_14 : bLand T la cr inn k1 k2 k3 k4 [zO4 la cr inn a1_7 a2_8 a3_9 a4_10, zAr T 0 a1_7 7 k1, zAr T 0 a2_8 28 k2, zAr T 0 a3_9 7 k3, zAr T 0 a4_10 7 k4] := ⟨a1_7, a2_8, a3_9, a4_10, rfl⟩
    have G : zS T A s.heap s [[zO0 h md wy la pc_ a1_1 a2_2 a3_3 a4_4 a5_5 a6_6], [zAr T 0 a1_1 7 f1], [zAr T 0 a2_2 7 f2], [zAr T 0 a3_3 7 f3], [zAr T 0 a4_4 n4 f4], [zAr T 0 a5_5 n4 f5], [zAr T 0 a6_6 n4 f6], [zO4 la cr inn a1_7 a2_8 a3_9 a4_10, zAr T 0 a1_7 7 k1, zAr T 0 a2_8 28 k2, zAr T 0 a3_9 7 k3, zAr T 0 a4_10 7 k4]] _ _ := G.re rfl
    refine z_Vi (bc := [[zO4 la cr inn a1_7 a2_8 a3_9 a4_10, zAr T 0 a1_7 7 k1, zAr T 0 a2_8 28 k2, zAr T 0 a3_9 7 k3, zAr T 0 a4_10 7 k4]]) (br := [[zO0 h md wy la pc_ a1_1 a2_2 a3_3 a4_4 a5_5 a6_6], [zAr T 0 a1_1 7 f1], [zAr T 0 a2_2 7 f2], [zAr T 0 a3_3 7 f3], [zAr T 0 a4_4 n4 f4], [zAr T 0 a5_5 n4 f5], [zAr T 0 a6_6 n4 f6]]) (As := [.int u2]) (rest := []) C G (c_isInn l T la cr inn k1 k2 k3 k4 ([zO4 la cr inn a1_7 a2_8 a3_9 a4_10, zAr T 0 a1_7 7 k1, zAr T 0 a2_8 28 k2, zAr T 0 a3_9 7 k3, zAr T 0 a4_10 7 k4]) u2 hw_14) (kV_RX0_97 C.2.2.2.2 (Nat.le_of_ble_eq_true rfl) (Nat.le_of_ble_eq_true rfl)) [7] [7] rfl rfl (ci := 4) (qc := (RX4, TX4, 6)) rfl rfl (List.mem_flatten.mpr ⟨_, List.mem_of_getElem? (i := 0) rfl, (bLand_mem hw_14).choose_spec⟩) rfl rfl hl.1 dX0_comesByRow_52 (Nat.le_of_ble_eq_true rfl) (Nat.le_of_ble_eq_true rfl) (fun r_16 b1 H locs hw G => ?_)
    refine zAn2 hw ?_
    intro hbs9 hc_15
    clear hw
    subst hbs9
    have G : zS T A s.heap s [[zO0 h md wy la pc_ a1_1 a2_2 a3_3 a4_4 a5_5 a6_6], [zAr T 0 a1_1 7 f1], [zAr T 0 a2_2 7 f2], [zAr T 0 a3_3 7 f3], [zAr T 0 a4_4 n4 f4], [zAr T 0 a5_5 n4 f5], [zAr T 0 a6_6 n4 f6], [zO4 la cr inn a1_7 a2_8 a3_9 a4_10, zAr T 0 a1_7 7 k1, zAr T 0 a2_8 28 k2, zAr T 0 a3_9 7 k3, zAr T 0 a4_10 7 k4]] _ _ := G
    rcases hc_15 with ⟨rfl, h_17, h_18, h_19, h_20⟩ | ⟨rfl, h_21⟩
    · have h_17 : 0 ≤ u2.toInt := h_17
      have h_18 : u2.toInt < cr.toInt := h_18
      have h_19 : u2.toInt < 7 := h_19
      have h_20 : ¬ zBit inn u2 = 0 := h_20
      have hw_22 : bWays T h la md wy pc_ f1 f2 f3 f4 f5 f6 n4 [zO0 h md wy la pc_ a1_1 a2_2 a3_3 a4_4 a5_5 a6_6, zAr T 0 a1_1 7 f1, zAr T 0 a2_2 7 f2, zAr T 0 a3_3 7 f3, zAr T 0 a4_4 n4 f4, zAr T 0 a5_5 n4 f5, zAr T 0 a6_6 n4 f6] := ⟨a1_1, a2_2, a3_3, a4_4, a5_5, a6_6, rfl⟩
      have G : zS T A s.heap s [[zO0 h md wy la pc_ a1_1 a2_2 a3_3 a4_4 a5_5 a6_6, zAr T 0 a1_1 7 f1, zAr T 0 a2_2 7 f2, zAr T 0 a3_3 7 f3, zAr T 0 a4_4 n4 f4, zAr T 0 a5_5 n4 f5, zAr T 0 a6_6 n4 f6], [zO4 la cr inn a1_7 a2_8 a3_9 a4_10, zAr T 0 a1_7 7 k1, zAr T 0 a2_8 28 k2, zAr T 0 a3_9 7 k3, zAr T 0 a4_10 7 k4]] _ _ := G.re rfl
      exact z_back hQ9 (z_zret C hr hlocks G (Nat.le_of_ble_eq_true rfl) (Nat.le_of_ble_eq_true rfl) dX0_comesByRow_55 rfl ⟨rfl, (by first | exact Or.inl rfl | exact Or.inr rfl)⟩)
    · have h_21 : (u2.toInt < 0 ∨ cr.toInt ≤ u2.toInt ∨ 7 ≤ u2.toInt ∨ zBit inn u2 = 0) := h_21
      have hw_23 : bWays T h la md wy pc_ f1 f2 f3 f4 f5 f6 n4 [zO0 h md wy la pc_ a1_1 a2_2 a3_3 a4_4 a5_5 a6_6, zAr T 0 a1_1 7 f1, zAr T 0 a2_2 7 f2, zAr T 0 a3_3 7 f3, zAr T 0 a4_4 n4 f4, zAr T 0 a5_5 n4 f5, zAr T 0 a6_6 n4 f6] := ⟨a1_1, a2_2, a3_3, a4_4, a5_5, a6_6, rfl⟩
      have G : zS T A s.heap s [[zO0 h md wy la pc_ a1_1 a2_2 a3_3 a4_4 a5_5 a6_6, zAr T 0 a1_1 7 f1, zAr T 0 a2_2 7 f2, zAr T 0 a3_3 7 f3, zAr T 0 a4_4 n4 f4, zAr T 0 a5_5 n4 f5, zAr T 0 a6_6 n4 f6], [zO4 la cr inn a1_7 a2_8 a3_9 a4_10, zAr T 0 a1_7 7 k1, zAr T 0 a2_8 28 k2, zAr T 0 a3_9 7 k3, zAr T 0 a4_10 7 k4]] _ _ := G.re rfl
      exact z_back hQ9 (z_zret C hr hlocks G (Nat.le_of_ble_eq_true rfl) (Nat.le_of_ble_eq_true rfl) dX0_comesByRow_55 rfl ⟨rfl, (by first | exact Or.inl rfl | exact Or.inr rfl)⟩)
  · have c_13n : ¬ cr.toInt ≤ (i : Int) := fun q => c_13 ((fa_le _ _).mpr (by rw [nI_toInt (n := i) (by omega)]; exact q))
    refine lv_aload_n hx hb dX0_comesByRow_15 rfl (lv_at hl 2 rfl) ?_
    refine z_get C G clX0 0 rfl 2 (by decide) m_fl_RX0_14 rfl dX0_comesByRow_16 ?_
    refine lv_iload_n hx hb dX0_comesByRow_19 rfl (lv_at hl 1 rfl) ?_
    have hw_24 : bLand T la cr inn k1 k2 k3 k4 [zO4 la cr inn a1_7 a2_8 a3_9 a4_10, zAr T 0 a1_7 7 k1, zAr T 0 a2_8 28 k2, zAr T 0 a3_9 7 k3, zAr T 0 a4_10 7 k4] := ⟨a1_7, a2_8, a3_9, a4_10, rfl⟩
    have G : zS T A s.heap s [[zO0 h md wy la pc_ a1_1 a2_2 a3_3 a4_4 a5_5 a6_6], [zAr T 0 a1_1 7 f1], [zAr T 0 a2_2 7 f2], [zAr T 0 a3_3 7 f3], [zAr T 0 a4_4 n4 f4], [zAr T 0 a5_5 n4 f5], [zAr T 0 a6_6 n4 f6], [zO4 la cr inn a1_7 a2_8 a3_9 a4_10, zAr T 0 a1_7 7 k1, zAr T 0 a2_8 28 k2, zAr T 0 a3_9 7 k3, zAr T 0 a4_10 7 k4]] _ _ := G.re rfl
    refine z_Vi (bc := [[zO4 la cr inn a1_7 a2_8 a3_9 a4_10, zAr T 0 a1_7 7 k1, zAr T 0 a2_8 28 k2, zAr T 0 a3_9 7 k3, zAr T 0 a4_10 7 k4]]) (br := [[zO0 h md wy la pc_ a1_1 a2_2 a3_3 a4_4 a5_5 a6_6], [zAr T 0 a1_1 7 f1], [zAr T 0 a2_2 7 f2], [zAr T 0 a3_3 7 f3], [zAr T 0 a4_4 n4 f4], [zAr T 0 a5_5 n4 f5], [zAr T 0 a6_6 n4 f6]]) (As := [.int u2]) (rest := []) C G (c_waysOut l T la cr inn k1 k2 k3 k4 ([zO4 la cr inn a1_7 a2_8 a3_9 a4_10, zAr T 0 a1_7 7 k1, zAr T 0 a2_8 28 k2, zAr T 0 a3_9 7 k3, zAr T 0 a4_10 7 k4]) u2 hw_24) (kV_RX0_61 C.2.2.2.2 (Nat.le_of_ble_eq_true rfl) (Nat.le_of_ble_eq_true rfl)) [7] [7] rfl rfl (ci := 4) (qc := (RX4, TX4, 6)) rfl rfl (List.mem_flatten.mpr ⟨_, List.mem_of_getElem? (i := 0) rfl, (bLand_mem hw_24).choose_spec⟩) rfl rfl hl.1 dX0_comesByRow_20 (Nat.le_of_ble_eq_true rfl) (Nat.le_of_ble_eq_true rfl) (fun r_26 b1 H locs hw G => ?_)
    refine zAn2 hw ?_
    intro hbs9 h_25
    clear hw
    subst hbs9
    have G : zS T A s.heap s [[zO0 h md wy la pc_ a1_1 a2_2 a3_3 a4_4 a5_5 a6_6], [zAr T 0 a1_1 7 f1], [zAr T 0 a2_2 7 f2], [zAr T 0 a3_3 7 f3], [zAr T 0 a4_4 n4 f4], [zAr T 0 a5_5 n4 f5], [zAr T 0 a6_6 n4 f6], [zO4 la cr inn a1_7 a2_8 a3_9 a4_10, zAr T 0 a1_7 7 k1, zAr T 0 a2_8 28 k2, zAr T 0 a3_9 7 k3, zAr T 0 a4_10 7 k4]] _ _ := G
    subst h_25
    refine lv_if_le (tgt := 47) hx hb dX0_comesByRow_23 (by decide) (fun c_27 => ?_) (fun c_27 => ?_)
    · have c_27n : (zWays cr inn k1 u2).toInt ≤ (0 : Int) := (fa_le _ _).mp c_27
      refine lv_aload_n hx hb dX0_comesByRow_47 rfl (lv_at hl 2 rfl) ?_
      refine z_get C G clX0 0 rfl 2 (by decide) m_fl_RX0_14 rfl dX0_comesByRow_48 ?_
      refine lv_iload_n hx hb dX0_comesByRow_51 rfl (lv_at hl 1 rfl) ?_
      refine z_Vi (bc := [[zO4 la cr inn a1_7 a2_8 a3_9 a4_10, zAr T 0 a1_7 7 k1, zAr T 0 a2_8 28 k2, zAr T 0 a3_9 7 k3, zAr T 0 a4_10 7 k4]]) (br := [[zO0 h md wy la pc_ a1_1 a2_2 a3_3 a4_4 a5_5 a6_6], [zAr T 0 a1_1 7 f1], [zAr T 0 a2_2 7 f2], [zAr T 0 a3_3 7 f3], [zAr T 0 a4_4 n4 f4], [zAr T 0 a5_5 n4 f5], [zAr T 0 a6_6 n4 f6]]) (As := [.int u2]) (rest := []) C G (c_isInn l T la cr inn k1 k2 k3 k4 ([zO4 la cr inn a1_7 a2_8 a3_9 a4_10, zAr T 0 a1_7 7 k1, zAr T 0 a2_8 28 k2, zAr T 0 a3_9 7 k3, zAr T 0 a4_10 7 k4]) u2 hw_24) (kV_RX0_97 C.2.2.2.2 (Nat.le_of_ble_eq_true rfl) (Nat.le_of_ble_eq_true rfl)) [7] [7] rfl rfl (ci := 4) (qc := (RX4, TX4, 6)) rfl rfl (List.mem_flatten.mpr ⟨_, List.mem_of_getElem? (i := 0) rfl, (bLand_mem hw_24).choose_spec⟩) rfl rfl hl.1 dX0_comesByRow_52 (Nat.le_of_ble_eq_true rfl) (Nat.le_of_ble_eq_true rfl) (fun r_29 b1 H locs hw G => ?_)
      refine zAn2 hw ?_
      intro hbs9 hc_28
      clear hw
      subst hbs9
      have G : zS T A s.heap s [[zO0 h md wy la pc_ a1_1 a2_2 a3_3 a4_4 a5_5 a6_6], [zAr T 0 a1_1 7 f1], [zAr T 0 a2_2 7 f2], [zAr T 0 a3_3 7 f3], [zAr T 0 a4_4 n4 f4], [zAr T 0 a5_5 n4 f5], [zAr T 0 a6_6 n4 f6], [zO4 la cr inn a1_7 a2_8 a3_9 a4_10, zAr T 0 a1_7 7 k1, zAr T 0 a2_8 28 k2, zAr T 0 a3_9 7 k3, zAr T 0 a4_10 7 k4]] _ _ := G
      rcases hc_28 with ⟨rfl, h_30, h_31, h_32, h_33⟩ | ⟨rfl, h_34⟩
      · have h_30 : 0 ≤ u2.toInt := h_30
        have h_31 : u2.toInt < cr.toInt := h_31
        have h_32 : u2.toInt < 7 := h_32
        have h_33 : ¬ zBit inn u2 = 0 := h_33
        have hw_35 : bWays T h la md wy pc_ f1 f2 f3 f4 f5 f6 n4 [zO0 h md wy la pc_ a1_1 a2_2 a3_3 a4_4 a5_5 a6_6, zAr T 0 a1_1 7 f1, zAr T 0 a2_2 7 f2, zAr T 0 a3_3 7 f3, zAr T 0 a4_4 n4 f4, zAr T 0 a5_5 n4 f5, zAr T 0 a6_6 n4 f6] := ⟨a1_1, a2_2, a3_3, a4_4, a5_5, a6_6, rfl⟩
        have G : zS T A s.heap s [[zO0 h md wy la pc_ a1_1 a2_2 a3_3 a4_4 a5_5 a6_6, zAr T 0 a1_1 7 f1, zAr T 0 a2_2 7 f2, zAr T 0 a3_3 7 f3, zAr T 0 a4_4 n4 f4, zAr T 0 a5_5 n4 f5, zAr T 0 a6_6 n4 f6], [zO4 la cr inn a1_7 a2_8 a3_9 a4_10, zAr T 0 a1_7 7 k1, zAr T 0 a2_8 28 k2, zAr T 0 a3_9 7 k3, zAr T 0 a4_10 7 k4]] _ _ := G.re rfl
        exact z_back hQ9 (z_zret C hr hlocks G (Nat.le_of_ble_eq_true rfl) (Nat.le_of_ble_eq_true rfl) dX0_comesByRow_55 rfl ⟨rfl, (by first | exact Or.inl rfl | exact Or.inr rfl)⟩)
      · have h_34 : (u2.toInt < 0 ∨ cr.toInt ≤ u2.toInt ∨ 7 ≤ u2.toInt ∨ zBit inn u2 = 0) := h_34
        have hw_36 : bWays T h la md wy pc_ f1 f2 f3 f4 f5 f6 n4 [zO0 h md wy la pc_ a1_1 a2_2 a3_3 a4_4 a5_5 a6_6, zAr T 0 a1_1 7 f1, zAr T 0 a2_2 7 f2, zAr T 0 a3_3 7 f3, zAr T 0 a4_4 n4 f4, zAr T 0 a5_5 n4 f5, zAr T 0 a6_6 n4 f6] := ⟨a1_1, a2_2, a3_3, a4_4, a5_5, a6_6, rfl⟩
        have G : zS T A s.heap s [[zO0 h md wy la pc_ a1_1 a2_2 a3_3 a4_4 a5_5 a6_6, zAr T 0 a1_1 7 f1, zAr T 0 a2_2 7 f2, zAr T 0 a3_3 7 f3, zAr T 0 a4_4 n4 f4, zAr T 0 a5_5 n4 f5, zAr T 0 a6_6 n4 f6], [zO4 la cr inn a1_7 a2_8 a3_9 a4_10, zAr T 0 a1_7 7 k1, zAr T 0 a2_8 28 k2, zAr T 0 a3_9 7 k3, zAr T 0 a4_10 7 k4]] _ _ := G.re rfl
        exact z_back hQ9 (z_zret C hr hlocks G (Nat.le_of_ble_eq_true rfl) (Nat.le_of_ble_eq_true rfl) dX0_comesByRow_55 rfl ⟨rfl, (by first | exact Or.inl rfl | exact Or.inr rfl)⟩)
    · have c_27n : ¬ (zWays cr inn k1 u2).toInt ≤ (0 : Int) := fun q => c_27 ((fa_le _ _).mpr q)
      have hwi := zWays_in (cr := cr) (inn := inn) (f1 := k1) (x := u2) (fun q => absurd (congrArg Int32.toInt q) (by show ¬ _ = (0 : Int); omega))
      refine lv_aload_n hx hb dX0_comesByRow_26 rfl (lv_at hl 2 rfl) ?_
      refine z_get C G clX0 0 rfl 2 (by decide) m_fl_RX0_14 rfl dX0_comesByRow_27 ?_
      refine lv_iload_n hx hb dX0_comesByRow_30 rfl (lv_at hl 1 rfl) ?_
      refine lv_aload_n hx hb dX0_comesByRow_31 rfl (lv_at hl 2 rfl) ?_
      refine z_get C G clX0 0 rfl 6 (by decide) m_fl_RX0_25 rfl dX0_comesByRow_32 ?_
      refine lv_iload_n hx hb dX0_comesByRow_35 rfl (lv_at hl 1 rfl) ?_
      refine z_ild C G 3 rfl (vp_in_iff.mpr ⟨hwi.1, hwi.2.2.1⟩) dX0_comesByRow_36 ?_
      refine lv_topi (fun v_37 ev_37 => ?_)
      subst ev_37
      refine z_Vi (bc := [[zO4 la cr inn a1_7 a2_8 a3_9 a4_10, zAr T 0 a1_7 7 k1, zAr T 0 a2_8 28 k2, zAr T 0 a3_9 7 k3, zAr T 0 a4_10 7 k4]]) (br := [[zO0 h md wy la pc_ a1_1 a2_2 a3_3 a4_4 a5_5 a6_6], [zAr T 0 a1_1 7 f1], [zAr T 0 a2_2 7 f2], [zAr T 0 a3_3 7 f3], [zAr T 0 a4_4 n4 f4], [zAr T 0 a5_5 n4 f5], [zAr T 0 a6_6 n4 f6]]) (As := [.int u2, .int (f3 u2.toNatClampNeg)]) (rest := []) C G (c_target l T la cr inn k1 k2 k3 k4 ([zO4 la cr inn a1_7 a2_8 a3_9 a4_10, zAr T 0 a1_7 7 k1, zAr T 0 a2_8 28 k2, zAr T 0 a3_9 7 k3, zAr T 0 a4_10 7 k4]) u2 (f3 u2.toNatClampNeg) hw_24) (kV_RX0_84 C.2.2.2.2 (Nat.le_of_ble_eq_true rfl) (Nat.le_of_ble_eq_true rfl)) [7] [7] rfl rfl (ci := 4) (qc := (RX4, TX4, 6)) rfl rfl (List.mem_flatten.mpr ⟨_, List.mem_of_getElem? (i := 0) rfl, (bLand_mem hw_24).choose_spec⟩) rfl rfl hl.1 dX0_comesByRow_37 (Nat.le_of_ble_eq_true rfl) (Nat.le_of_ble_eq_true rfl) (fun r_39 b1 H locs hw G => ?_)
      refine zAn2 hw ?_
      intro hbs9 h_38
      clear hw
      subst hbs9
      have G : zS T A s.heap s [[zO0 h md wy la pc_ a1_1 a2_2 a3_3 a4_4 a5_5 a6_6], [zAr T 0 a1_1 7 f1], [zAr T 0 a2_2 7 f2], [zAr T 0 a3_3 7 f3], [zAr T 0 a4_4 n4 f4], [zAr T 0 a5_5 n4 f5], [zAr T 0 a6_6 n4 f6], [zO4 la cr inn a1_7 a2_8 a3_9 a4_10, zAr T 0 a1_7 7 k1, zAr T 0 a2_8 28 k2, zAr T 0 a3_9 7 k3, zAr T 0 a4_10 7 k4]] _ _ := G
      subst h_38
      refine lv_istore_n (lv' := [(2, .int (zTarget cr k1 k2 u2 (f3 u2.toNatClampNeg))), (3, .int (nI i)), (0, .ref h), (1, .int x)]) hx hb dX0_comesByRow_40 rfl hl (by decide) rfl (fun ls hl => ?_)
      refine lv_iinc (v := nI (i + 1)) (lv' := [(3, .int (nI (i + 1))), (2, .int (zTarget cr k1 k2 u2 (f3 u2.toNatClampNeg))), (0, .ref h), (1, .int x)]) hx hb dX0_comesByRow_41 hl (k := 1) rfl (z_inc i 1) (by decide) rfl (fun ls hl => ?_)
      refine lv_goto (tgt := 4) hx hb dX0_comesByRow_44 (by decide) ?_
      have hw_40 : bWays T h la md wy pc_ f1 f2 f3 f4 f5 f6 n4 [zO0 h md wy la pc_ a1_1 a2_2 a3_3 a4_4 a5_5 a6_6, zAr T 0 a1_1 7 f1, zAr T 0 a2_2 7 f2, zAr T 0 a3_3 7 f3, zAr T 0 a4_4 n4 f4, zAr T 0 a5_5 n4 f5, zAr T 0 a6_6 n4 f6] := ⟨a1_1, a2_2, a3_3, a4_4, a5_5, a6_6, rfl⟩
      have G : zS T A s.heap s [[zO0 h md wy la pc_ a1_1 a2_2 a3_3 a4_4 a5_5 a6_6, zAr T 0 a1_1 7 f1, zAr T 0 a2_2 7 f2, zAr T 0 a3_3 7 f3, zAr T 0 a4_4 n4 f4, zAr T 0 a5_5 n4 f5, zAr T 0 a6_6 n4 f6], [zO4 la cr inn a1_7 a2_8 a3_9 a4_10, zAr T 0 a1_7 7 k1, zAr T 0 a2_8 28 k2, zAr T 0 a3_9 7 k3, zAr T 0 a4_10 7 k4]] _ _ := G.re rfl
      exact ih_4 (i + 1) (zTarget cr k1 k2 u2 (f3 u2.toNatClampNeg)) (show (i + 1) ≤ cr.toInt.toNat from by omega) (show cr.toInt.toNat - (i + 1) < cr.toInt.toNat - i from by omega) _ _ ls G (lv_sub hl [0, 1, 2, 3] rfl)
set_option maxHeartbeats 4000000 in
set_option maxRecDepth 100000 in
/-- c_allComeByRow -/
theorem c_allComeByRow (l : Launch) (T : zTy) (h : Nat) (la : Nat) (md : Int32) (wy : Int32) (pc_ : Int32) (f1 : Nat → Int32) (f2 : Nat → Int32) (f3 : Nat → Int32) (f4 : Nat → Int32) (f5 : Nat → Int32) (f6 : Nat → Int32) (n4 : Nat) (ww : va_W) (cr : Int32) (inn : Int32) (k1 : Nat → Int32) (k2 : Nat → Int32) (k3 : Nat → Int32) (k4 : Nat → Int32) (z : va_W) (hww : bWays T h la md wy pc_ f1 f2 f3 f4 f5 f6 n4 ww) (hz : bLand T la cr inn k1 k2 k3 k4 z) (hI : zLI cr k1 k3) : zMi l T yX0_allComeByRow cX0_allComeByRow 2 (some .boolean) 4 0 0 [.ref h] [ww, z] (fun (r : Int32) bs => bs = [ww, z] ∧ (r = 0 ∨ r = 1)) := by
  refine zMi_of (own := RX0) (by decide) rfl (Nat.le_of_ble_eq_true rfl) ?_
  intro p e s m args below meth c A ls C hr hlocks hnm hAe G hl
  refine zHide (fun Q9 hQ9 => ?_)
  have hx := C.1
  have hb := C.2.1
  have hl : lv_has ls 2 [(0, .ref h)] := hl
  have hcr := hI.1
  refine lv_iconst (v := 0) hx hb dX0_allComeByRow_0 (by decide) ?_
  refine lv_istore_n (lv' := [(1, .int 0), (0, .ref h)]) hx hb dX0_allComeByRow_1 rfl hl (by decide) rfl (fun ls hl => ?_)
  refine zEx6 hww ?_
  intro a1_1 a2_2 a3_3 a4_4 a5_5 a6_6 hbs9
  clear hww
  subst hbs9
  have G : zS T A s.heap s [[zO0 h md wy la pc_ a1_1 a2_2 a3_3 a4_4 a5_5 a6_6], [zAr T 0 a1_1 7 f1], [zAr T 0 a2_2 7 f2], [zAr T 0 a3_3 7 f3], [zAr T 0 a4_4 n4 f4], [zAr T 0 a5_5 n4 f5], [zAr T 0 a6_6 n4 f6], z] _ _ := G.re rfl
  refine zEx4 hz ?_
  intro a1_7 a2_8 a3_9 a4_10 hbs9
  clear hz
  subst hbs9
  have G : zS T A s.heap s [[zO0 h md wy la pc_ a1_1 a2_2 a3_3 a4_4 a5_5 a6_6], [zAr T 0 a1_1 7 f1], [zAr T 0 a2_2 7 f2], [zAr T 0 a3_3 7 f3], [zAr T 0 a4_4 n4 f4], [zAr T 0 a5_5 n4 f5], [zAr T 0 a6_6 n4 f6], [zO4 la cr inn a1_7 a2_8 a3_9 a4_10], [zAr T 0 a1_7 7 k1], [zAr T 0 a2_8 28 k2], [zAr T 0 a3_9 7 k3], [zAr T 0 a4_10 7 k4]] _ _ := G.re rfl
  have hw_11 : bWays T h la md wy pc_ f1 f2 f3 f4 f5 f6 n4 [zO0 h md wy la pc_ a1_1 a2_2 a3_3 a4_4 a5_5 a6_6, zAr T 0 a1_1 7 f1, zAr T 0 a2_2 7 f2, zAr T 0 a3_3 7 f3, zAr T 0 a4_4 n4 f4, zAr T 0 a5_5 n4 f5, zAr T 0 a6_6 n4 f6] := ⟨a1_1, a2_2, a3_3, a4_4, a5_5, a6_6, rfl⟩
  have G : zS T A s.heap s [[zO0 h md wy la pc_ a1_1 a2_2 a3_3 a4_4 a5_5 a6_6, zAr T 0 a1_1 7 f1, zAr T 0 a2_2 7 f2, zAr T 0 a3_3 7 f3, zAr T 0 a4_4 n4 f4, zAr T 0 a5_5 n4 f5, zAr T 0 a6_6 n4 f6], [zO4 la cr inn a1_7 a2_8 a3_9 a4_10], [zAr T 0 a1_7 7 k1], [zAr T 0 a2_8 28 k2], [zAr T 0 a3_9 7 k3], [zAr T 0 a4_10 7 k4]] _ _ := G.re rfl
  have hw_12 : bLand T la cr inn k1 k2 k3 k4 [zO4 la cr inn a1_7 a2_8 a3_9 a4_10, zAr T 0 a1_7 7 k1, zAr T 0 a2_8 28 k2, zAr T 0 a3_9 7 k3, zAr T 0 a4_10 7 k4] := ⟨a1_7, a2_8, a3_9, a4_10, rfl⟩
  have G : zS T A s.heap s [[zO0 h md wy la pc_ a1_1 a2_2 a3_3 a4_4 a5_5 a6_6, zAr T 0 a1_1 7 f1, zAr T 0 a2_2 7 f2, zAr T 0 a3_3 7 f3, zAr T 0 a4_4 n4 f4, zAr T 0 a5_5 n4 f5, zAr T 0 a6_6 n4 f6], [zO4 la cr inn a1_7 a2_8 a3_9 a4_10, zAr T 0 a1_7 7 k1, zAr T 0 a2_8 28 k2, zAr T 0 a3_9 7 k3, zAr T 0 a4_10 7 k4]] _ _ := G.re rfl
  refine z_lp1 (T := T) 2 (fun (i : Nat) => [[zO0 h md wy la pc_ a1_1 a2_2 a3_3 a4_4 a5_5 a6_6, zAr T 0 a1_1 7 f1, zAr T 0 a2_2 7 f2, zAr T 0 a3_3 7 f3, zAr T 0 a4_4 n4 f4, zAr T 0 a5_5 n4 f5, zAr T 0 a6_6 n4 f6], [zO4 la cr inn a1_7 a2_8 a3_9 a4_10, zAr T 0 a1_7 7 k1, zAr T 0 a2_8 28 k2, zAr T 0 a3_9 7 k3, zAr T 0 a4_10 7 k4]]) (fun (i : Nat) => [(1, .int (nI i)), (0, .ref h)]) (fun (i : Nat) => i ≤ cr.toInt.toNat) (fun (i : Nat) => cr.toInt.toNat - i) ?_ 0 (show 0 ≤ cr.toInt.toNat from by omega) G (lv_sub hl [0, 1] rfl)
  intro i hi ih_2 H locs ls G hl
  replace hi : i ≤ cr.toInt.toNat := hi
  replace G : zS T A s.heap s [[zO0 h md wy la pc_ a1_1 a2_2 a3_3 a4_4 a5_5 a6_6, zAr T 0 a1_1 7 f1, zAr T 0 a2_2 7 f2, zAr T 0 a3_3 7 f3, zAr T 0 a4_4 n4 f4, zAr T 0 a5_5 n4 f5, zAr T 0 a6_6 n4 f6], [zO4 la cr inn a1_7 a2_8 a3_9 a4_10, zAr T 0 a1_7 7 k1, zAr T 0 a2_8 28 k2, zAr T 0 a3_9 7 k3, zAr T 0 a4_10 7 k4]] _ _ := G
  replace hl : lv_has ls 2 [(1, .int (nI i)), (0, .ref h)] := hl
  refine lv_iload_n hx hb dX0_allComeByRow_2 rfl (lv_at hl 0 rfl) ?_
  refine lv_aload_n hx hb dX0_allComeByRow_3 rfl (lv_at hl 1 rfl) ?_
  have G : zS T A s.heap s [[zO0 h md wy la pc_ a1_1 a2_2 a3_3 a4_4 a5_5 a6_6], [zAr T 0 a1_1 7 f1], [zAr T 0 a2_2 7 f2], [zAr T 0 a3_3 7 f3], [zAr T 0 a4_4 n4 f4], [zAr T 0 a5_5 n4 f5], [zAr T 0 a6_6 n4 f6], [zO4 la cr inn a1_7 a2_8 a3_9 a4_10, zAr T 0 a1_7 7 k1, zAr T 0 a2_8 28 k2, zAr T 0 a3_9 7 k3, zAr T 0 a4_10 7 k4]] _ _ := G.re rfl
  refine z_get C G clX0 0 rfl 2 (by decide) m_fl_RX0_14 rfl dX0_allComeByRow_4 ?_
  have G : zS T A s.heap s [[zO0 h md wy la pc_ a1_1 a2_2 a3_3 a4_4 a5_5 a6_6], [zAr T 0 a1_1 7 f1], [zAr T 0 a2_2 7 f2], [zAr T 0 a3_3 7 f3], [zAr T 0 a4_4 n4 f4], [zAr T 0 a5_5 n4 f5], [zAr T 0 a6_6 n4 f6], [zO4 la cr inn a1_7 a2_8 a3_9 a4_10], [zAr T 0 a1_7 7 k1], [zAr T 0 a2_8 28 k2], [zAr T 0 a3_9 7 k3], [zAr T 0 a4_10 7 k4]] _ _ := G.re rfl
  refine z_get C G clX4 7 rfl 0 (by decide) m_fl_RX0_107 rfl dX0_allComeByRow_7 ?_
  refine lv_icmp_ge (tgt := 40) hx hb dX0_allComeByRow_10 (by decide) (fun c_13 => ?_) (fun c_13 => ?_)
  · have c_13n : cr.toInt ≤ (i : Int) := by have q := (fa_le _ _).mp c_13; rw [nI_toInt (n := i) (by omega)] at q; exact q
    refine lv_iconst (v := 1) hx hb dX0_allComeByRow_40 (by decide) ?_
    have hw_14 : bWays T h la md wy pc_ f1 f2 f3 f4 f5 f6 n4 [zO0 h md wy la pc_ a1_1 a2_2 a3_3 a4_4 a5_5 a6_6, zAr T 0 a1_1 7 f1, zAr T 0 a2_2 7 f2, zAr T 0 a3_3 7 f3, zAr T 0 a4_4 n4 f4, zAr T 0 a5_5 n4 f5, zAr T 0 a6_6 n4 f6] := ⟨a1_1, a2_2, a3_3, a4_4, a5_5, a6_6, rfl⟩
    have G : zS T A s.heap s [[zO0 h md wy la pc_ a1_1 a2_2 a3_3 a4_4 a5_5 a6_6, zAr T 0 a1_1 7 f1, zAr T 0 a2_2 7 f2, zAr T 0 a3_3 7 f3, zAr T 0 a4_4 n4 f4, zAr T 0 a5_5 n4 f5, zAr T 0 a6_6 n4 f6], [zO4 la cr inn a1_7 a2_8 a3_9 a4_10], [zAr T 0 a1_7 7 k1], [zAr T 0 a2_8 28 k2], [zAr T 0 a3_9 7 k3], [zAr T 0 a4_10 7 k4]] _ _ := G.re rfl
    have hw_15 : bLand T la cr inn k1 k2 k3 k4 [zO4 la cr inn a1_7 a2_8 a3_9 a4_10, zAr T 0 a1_7 7 k1, zAr T 0 a2_8 28 k2, zAr T 0 a3_9 7 k3, zAr T 0 a4_10 7 k4] := ⟨a1_7, a2_8, a3_9, a4_10, rfl⟩
    have G : zS T A s.heap s [[zO0 h md wy la pc_ a1_1 a2_2 a3_3 a4_4 a5_5 a6_6, zAr T 0 a1_1 7 f1, zAr T 0 a2_2 7 f2, zAr T 0 a3_3 7 f3, zAr T 0 a4_4 n4 f4, zAr T 0 a5_5 n4 f5, zAr T 0 a6_6 n4 f6], [zO4 la cr inn a1_7 a2_8 a3_9 a4_10, zAr T 0 a1_7 7 k1, zAr T 0 a2_8 28 k2, zAr T 0 a3_9 7 k3, zAr T 0 a4_10 7 k4]] _ _ := G.re rfl
    exact z_back hQ9 (z_zret C hr hlocks G (Nat.le_of_ble_eq_true rfl) (Nat.le_of_ble_eq_true rfl) dX0_allComeByRow_41 rfl ⟨rfl, (by first | exact Or.inl rfl | exact Or.inr rfl)⟩)
  · have c_13n : ¬ cr.toInt ≤ (i : Int) := fun q => c_13 ((fa_le _ _).mpr (by rw [nI_toInt (n := i) (by omega)]; exact q))
    refine lv_aload_n hx hb dX0_allComeByRow_13 rfl (lv_at hl 1 rfl) ?_
    refine z_get C G clX0 0 rfl 2 (by decide) m_fl_RX0_14 rfl dX0_allComeByRow_14 ?_
    refine lv_iload_n hx hb dX0_allComeByRow_17 rfl (lv_at hl 0 rfl) ?_
    have hw_16 : bLand T la cr inn k1 k2 k3 k4 [zO4 la cr inn a1_7 a2_8 a3_9 a4_10, zAr T 0 a1_7 7 k1, zAr T 0 a2_8 28 k2, zAr T 0 a3_9 7 k3, zAr T 0 a4_10 7 k4] := ⟨a1_7, a2_8, a3_9, a4_10, rfl⟩
    have G : zS T A s.heap s [[zO0 h md wy la pc_ a1_1 a2_2 a3_3 a4_4 a5_5 a6_6], [zAr T 0 a1_1 7 f1], [zAr T 0 a2_2 7 f2], [zAr T 0 a3_3 7 f3], [zAr T 0 a4_4 n4 f4], [zAr T 0 a5_5 n4 f5], [zAr T 0 a6_6 n4 f6], [zO4 la cr inn a1_7 a2_8 a3_9 a4_10, zAr T 0 a1_7 7 k1, zAr T 0 a2_8 28 k2, zAr T 0 a3_9 7 k3, zAr T 0 a4_10 7 k4]] _ _ := G.re rfl
    refine z_Vi (bc := [[zO4 la cr inn a1_7 a2_8 a3_9 a4_10, zAr T 0 a1_7 7 k1, zAr T 0 a2_8 28 k2, zAr T 0 a3_9 7 k3, zAr T 0 a4_10 7 k4]]) (br := [[zO0 h md wy la pc_ a1_1 a2_2 a3_3 a4_4 a5_5 a6_6], [zAr T 0 a1_1 7 f1], [zAr T 0 a2_2 7 f2], [zAr T 0 a3_3 7 f3], [zAr T 0 a4_4 n4 f4], [zAr T 0 a5_5 n4 f5], [zAr T 0 a6_6 n4 f6]]) (As := [.int (nI i)]) (rest := []) C G (c_waysOut l T la cr inn k1 k2 k3 k4 ([zO4 la cr inn a1_7 a2_8 a3_9 a4_10, zAr T 0 a1_7 7 k1, zAr T 0 a2_8 28 k2, zAr T 0 a3_9 7 k3, zAr T 0 a4_10 7 k4]) (nI i) hw_16) (kV_RX0_61 C.2.2.2.2 (Nat.le_of_ble_eq_true rfl) (Nat.le_of_ble_eq_true rfl)) [7] [7] rfl rfl (ci := 4) (qc := (RX4, TX4, 6)) rfl rfl (List.mem_flatten.mpr ⟨_, List.mem_of_getElem? (i := 0) rfl, (bLand_mem hw_16).choose_spec⟩) rfl rfl hl.1 dX0_allComeByRow_18 (Nat.le_of_ble_eq_true rfl) (Nat.le_of_ble_eq_true rfl) (fun r_18 b1 H locs hw G => ?_)
    refine zAn2 hw ?_
    intro hbs9 h_17
    clear hw
    subst hbs9
    have G : zS T A s.heap s [[zO0 h md wy la pc_ a1_1 a2_2 a3_3 a4_4 a5_5 a6_6], [zAr T 0 a1_1 7 f1], [zAr T 0 a2_2 7 f2], [zAr T 0 a3_3 7 f3], [zAr T 0 a4_4 n4 f4], [zAr T 0 a5_5 n4 f5], [zAr T 0 a6_6 n4 f6], [zO4 la cr inn a1_7 a2_8 a3_9 a4_10, zAr T 0 a1_7 7 k1, zAr T 0 a2_8 28 k2, zAr T 0 a3_9 7 k3, zAr T 0 a4_10 7 k4]] _ _ := G
    subst h_17
    refine lv_if_le (tgt := 34) hx hb dX0_allComeByRow_21 (by decide) (fun c_19 => ?_) (fun c_19 => ?_)
    · have c_19n : (zWays cr inn k1 (nI i)).toInt ≤ (0 : Int) := (fa_le _ _).mp c_19
      refine lv_iinc (v := nI (i + 1)) (lv' := [(1, .int (nI (i + 1))), (0, .ref h)]) hx hb dX0_allComeByRow_34 hl (k := 0) rfl (z_inc i 1) (by decide) rfl (fun ls hl => ?_)
      refine lv_goto (tgt := 2) hx hb dX0_allComeByRow_37 (by decide) ?_
      have hw_20 : bWays T h la md wy pc_ f1 f2 f3 f4 f5 f6 n4 [zO0 h md wy la pc_ a1_1 a2_2 a3_3 a4_4 a5_5 a6_6, zAr T 0 a1_1 7 f1, zAr T 0 a2_2 7 f2, zAr T 0 a3_3 7 f3, zAr T 0 a4_4 n4 f4, zAr T 0 a5_5 n4 f5, zAr T 0 a6_6 n4 f6] := ⟨a1_1, a2_2, a3_3, a4_4, a5_5, a6_6, rfl⟩
      have G : zS T A s.heap s [[zO0 h md wy la pc_ a1_1 a2_2 a3_3 a4_4 a5_5 a6_6, zAr T 0 a1_1 7 f1, zAr T 0 a2_2 7 f2, zAr T 0 a3_3 7 f3, zAr T 0 a4_4 n4 f4, zAr T 0 a5_5 n4 f5, zAr T 0 a6_6 n4 f6], [zO4 la cr inn a1_7 a2_8 a3_9 a4_10, zAr T 0 a1_7 7 k1, zAr T 0 a2_8 28 k2, zAr T 0 a3_9 7 k3, zAr T 0 a4_10 7 k4]] _ _ := G.re rfl
      exact ih_2 (i + 1) (show (i + 1) ≤ cr.toInt.toNat from by omega) (show cr.toInt.toNat - (i + 1) < cr.toInt.toNat - i from by omega) _ _ ls G (lv_sub hl [0, 1] rfl)
    · have c_19n : ¬ (zWays cr inn k1 (nI i)).toInt ≤ (0 : Int) := fun q => c_19 ((fa_le _ _).mpr q)
      refine lv_aload_n hx hb dX0_allComeByRow_24 rfl (lv_at hl 1 rfl) ?_
      refine lv_iload_n hx hb dX0_allComeByRow_25 rfl (lv_at hl 0 rfl) ?_
      have hw_21 : bWays T h la md wy pc_ f1 f2 f3 f4 f5 f6 n4 [zO0 h md wy la pc_ a1_1 a2_2 a3_3 a4_4 a5_5 a6_6, zAr T 0 a1_1 7 f1, zAr T 0 a2_2 7 f2, zAr T 0 a3_3 7 f3, zAr T 0 a4_4 n4 f4, zAr T 0 a5_5 n4 f5, zAr T 0 a6_6 n4 f6] := ⟨a1_1, a2_2, a3_3, a4_4, a5_5, a6_6, rfl⟩
      have G : zS T A s.heap s [[zO0 h md wy la pc_ a1_1 a2_2 a3_3 a4_4 a5_5 a6_6, zAr T 0 a1_1 7 f1, zAr T 0 a2_2 7 f2, zAr T 0 a3_3 7 f3, zAr T 0 a4_4 n4 f4, zAr T 0 a5_5 n4 f5, zAr T 0 a6_6 n4 f6], [zO4 la cr inn a1_7 a2_8 a3_9 a4_10, zAr T 0 a1_7 7 k1, zAr T 0 a2_8 28 k2, zAr T 0 a3_9 7 k3, zAr T 0 a4_10 7 k4]] _ _ := G.re rfl
      refine z_Vi (bc := [[zO0 h md wy la pc_ a1_1 a2_2 a3_3 a4_4 a5_5 a6_6, zAr T 0 a1_1 7 f1, zAr T 0 a2_2 7 f2, zAr T 0 a3_3 7 f3, zAr T 0 a4_4 n4 f4, zAr T 0 a5_5 n4 f5, zAr T 0 a6_6 n4 f6], [zO4 la cr inn a1_7 a2_8 a3_9 a4_10, zAr T 0 a1_7 7 k1, zAr T 0 a2_8 28 k2, zAr T 0 a3_9 7 k3, zAr T 0 a4_10 7 k4]]) (br := []) (As := [.int (nI i)]) (rest := []) C G (c_comesByRow l T h la md wy pc_ f1 f2 f3 f4 f5 f6 n4 ([zO0 h md wy la pc_ a1_1 a2_2 a3_3 a4_4 a5_5 a6_6, zAr T 0 a1_1 7 f1, zAr T 0 a2_2 7 f2, zAr T 0 a3_3 7 f3, zAr T 0 a4_4 n4 f4, zAr T 0 a5_5 n4 f5, zAr T 0 a6_6 n4 f6]) cr inn k1 k2 k3 k4 ([zO4 la cr inn a1_7 a2_8 a3_9 a4_10, zAr T 0 a1_7 7 k1, zAr T 0 a2_8 28 k2, zAr T 0 a3_9 7 k3, zAr T 0 a4_10 7 k4]) (nI i) hw_21 hw_16 (by first | with_reducible assumption | with_reducible rfl | omega | assumption | rfl)) (kV_RX0_129 C.2.2.2.2 (Nat.le_of_ble_eq_true rfl) (Nat.le_of_ble_eq_true rfl)) [0, 1] [0, 0] rfl rfl (ci := 0) (qc := (RX0, TX0, 10)) rfl rfl (List.mem_flatten.mpr ⟨_, List.mem_of_getElem? (i := 0) rfl, (bWays_mem hw_21).choose_spec⟩) rfl rfl hl.1 dX0_allComeByRow_26 (Nat.le_of_ble_eq_true rfl) (Nat.le_of_ble_eq_true rfl) (fun r_23 b1 H locs hw G => ?_)
      refine zAn2 hw ?_
      intro hbs9 h_22
      clear hw
      subst hbs9
      have G : zS T A s.heap s [[zO0 h md wy la pc_ a1_1 a2_2 a3_3 a4_4 a5_5 a6_6, zAr T 0 a1_1 7 f1, zAr T 0 a2_2 7 f2, zAr T 0 a3_3 7 f3, zAr T 0 a4_4 n4 f4, zAr T 0 a5_5 n4 f5, zAr T 0 a6_6 n4 f6], [zO4 la cr inn a1_7 a2_8 a3_9 a4_10, zAr T 0 a1_7 7 k1, zAr T 0 a2_8 28 k2, zAr T 0 a3_9 7 k3, zAr T 0 a4_10 7 k4]] _ _ := G
      replace h_22 : zHd ((r_23 = 0 ∨ r_23 = 1)) := h_22
      refine lv_if_ne (tgt := 34) hx hb dX0_allComeByRow_29 (by decide) (fun c_24 => ?_) (fun c_24 => ?_)
      · have c_24n : ¬ r_23.toInt = (0 : Int) := fun q => c_24 ((fa_eq _ _).mpr q)
        refine lv_iinc (v := nI (i + 1)) (lv' := [(1, .int (nI (i + 1))), (0, .ref h)]) hx hb dX0_allComeByRow_34 hl (k := 0) rfl (z_inc i 1) (by decide) rfl (fun ls hl => ?_)
        refine lv_goto (tgt := 2) hx hb dX0_allComeByRow_37 (by decide) ?_
        exact ih_2 (i + 1) (show (i + 1) ≤ cr.toInt.toNat from by omega) (show cr.toInt.toNat - (i + 1) < cr.toInt.toNat - i from by omega) _ _ ls G (lv_sub hl [0, 1] rfl)
      · have c_24n : r_23.toInt = (0 : Int) := (fa_eq _ _).mp c_24
        refine lv_iconst (v := 0) hx hb dX0_allComeByRow_32 (by decide) ?_
        exact z_back hQ9 (z_zret C hr hlocks G (Nat.le_of_ble_eq_true rfl) (Nat.le_of_ble_eq_true rfl) dX0_allComeByRow_33 rfl ⟨rfl, (by first | exact Or.inl rfl | exact Or.inr rfl)⟩)


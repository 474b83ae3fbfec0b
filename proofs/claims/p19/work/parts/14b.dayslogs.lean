def zDA (dd : Int32) (f : Nat → Int32) (v : Int32) : Nat → Int32 := if 0 ≤ dd.toInt ∧ dd.toInt < 40 then upd f dd.toNatClampNeg v else f
def zDN (dd : Int32) : Int32 := if 0 ≤ dd.toInt ∧ dd.toInt < 40 then dd + 1 else dd
def zGA (dd : Int32) (f : Nat → Int32) (v : Int32) : Nat → Int32 := if 0 ≤ dd.toInt ∧ dd.toInt < 8 then upd f dd.toNatClampNeg v else f
def zGN (dd : Int32) : Int32 := if 0 ≤ dd.toInt ∧ dd.toInt < 8 then dd + 1 else dd
def zDayTold (dd : Int32) (f1 f2 f3 : Nat → Int32) (k what : Int32) : Int32 := if k.toInt = -1 ∧ what.toInt = 0 then dd else if k.toInt < 0 ∨ dd.toInt ≤ k.toInt ∨ 40 ≤ k.toInt then -2 else if what.toInt = 0 then f1 k.toNatClampNeg else if what.toInt = 1 then f2 k.toNatClampNeg else if what.toInt = 2 then f3 k.toNatClampNeg else -2
def zLogTold (dd : Int32) (f1 f2 : Nat → Int32) (k what : Int32) : Int32 := if k.toInt = -1 ∧ what.toInt = 0 then dd else if k.toInt < 0 ∨ dd.toInt ≤ k.toInt ∨ 8 ≤ k.toInt ∨ what.toInt < 0 ∨ 1 < what.toInt then -2 else if what.toInt = 0 then f1 k.toNatClampNeg else f2 k.toNatClampNeg
set_option maxHeartbeats 4000000 in
set_option maxRecDepth 100000 in
/-- Day.add -/
theorem c_Day_add (l : Launch) (T : zTy) (h : Nat) (dd : Int32) (f1 : Nat → Int32) (f2 : Nat → Int32) (f3 : Nat → Int32) (w : va_W) (x : Int32) (y : Int32) (z : Int32) (hw : bDay T h dd f1 f2 f3 w) : zMv l T yX2_add cX2_add 4 1 0 0 [.ref h, .int x, .int y, .int z] [w] (fun bs => ∃ (w2 : va_W) (u : Int32) (g1 : Nat → Int32) (g2 : Nat → Int32) (g3 : Nat → Int32), bs = [w2] ∧ bDay T h u g1 g2 g3 w2 ∧ u = zDN dd ∧ g1 = zDA dd f1 x ∧ g2 = zDA dd f2 y ∧ g3 = zDA dd f3 z) := by
  refine zMv_of (own := RX2) (by decide) rfl (Nat.le_of_ble_eq_true rfl) ?_
  intro p e s m args below meth c A ls C hr hlocks hnm hAe G hl
  refine zHide (fun Q9 hQ9 => ?_)
  have hx := C.1
  have hb := C.2.1
  have hl : lv_has ls 4 [(0, .ref h), (1, .int x), (2, .int y), (3, .int z)] := hl
  refine lv_aload_n hx hb dX2_add_0 rfl (lv_at hl 0 rfl) ?_
  refine zEx3 hw ?_
  intro a1_1 a2_2 a3_3 hbs9
  clear hw
  subst hbs9
  have G : zS T A s.heap s [[(h, .inr (2, [.int dd, .ref a1_1, .ref a2_2, .ref a3_3]))], [zAr T 0 a1_1 40 f1], [zAr T 0 a2_2 40 f2], [zAr T 0 a3_3 40 f3]] _ _ := G.re rfl
  refine z_get C G clX2 0 rfl 0 (by decide) m_fl_RX2_21 rfl dX2_add_1 ?_
  refine lv_if_lt (tgt := 56) hx hb dX2_add_4 (by decide) (fun c_4 => ?_) (fun c_4 => ?_)
  · have c_4n : dd.toInt < (0 : Int) := (fa_lt _ _).mp c_4
    have hw_5 : bDay T h dd f1 f2 f3 [(h, .inr (2, [.int dd, .ref a1_1, .ref a2_2, .ref a3_3])), zAr T 0 a1_1 40 f1, zAr T 0 a2_2 40 f2, zAr T 0 a3_3 40 f3] := ⟨a1_1, a2_2, a3_3, rfl⟩
    have G : zS T A s.heap s [[(h, .inr (2, [.int dd, .ref a1_1, .ref a2_2, .ref a3_3])), zAr T 0 a1_1 40 f1, zAr T 0 a2_2 40 f2, zAr T 0 a3_3 40 f3]] _ _ := G.re rfl
    exact z_back hQ9 (z_vret C hr hlocks G (Nat.le_of_ble_eq_true rfl) (Nat.le_of_ble_eq_true rfl) dX2_add_56 ⟨([(h, .inr (2, [.int dd, .ref a1_1, .ref a2_2, .ref a3_3])), zAr T 0 a1_1 40 f1, zAr T 0 a2_2 40 f2, zAr T 0 a3_3 40 f3]), dd, f1, f2, f3, rfl, hw_5, (by unfold zDN; rw [if_neg (by omega)]), (by unfold zDA; rw [if_neg (by omega)]), (by unfold zDA; rw [if_neg (by omega)]), (by unfold zDA; rw [if_neg (by omega)])⟩)
  · have c_4n : ¬ dd.toInt < (0 : Int) := fun q => c_4 ((fa_lt _ _).mpr q)
    refine lv_aload_n hx hb dX2_add_7 rfl (lv_at hl 0 rfl) ?_
    refine z_get C G clX2 0 rfl 0 (by decide) m_fl_RX2_21 rfl dX2_add_8 ?_
    refine lv_bipush (v := 40) hx hb dX2_add_11 (by decide) ?_
    refine lv_icmp_ge (tgt := 56) hx hb dX2_add_13 (by decide) (fun c_6 => ?_) (fun c_6 => ?_)
    · have c_6n : (40 : Int) ≤ dd.toInt := (fa_le _ _).mp c_6
      have hw_7 : bDay T h dd f1 f2 f3 [(h, .inr (2, [.int dd, .ref a1_1, .ref a2_2, .ref a3_3])), zAr T 0 a1_1 40 f1, zAr T 0 a2_2 40 f2, zAr T 0 a3_3 40 f3] := ⟨a1_1, a2_2, a3_3, rfl⟩
      have G : zS T A s.heap s [[(h, .inr (2, [.int dd, .ref a1_1, .ref a2_2, .ref a3_3])), zAr T 0 a1_1 40 f1, zAr T 0 a2_2 40 f2, zAr T 0 a3_3 40 f3]] _ _ := G.re rfl
      exact z_back hQ9 (z_vret C hr hlocks G (Nat.le_of_ble_eq_true rfl) (Nat.le_of_ble_eq_true rfl) dX2_add_56 ⟨([(h, .inr (2, [.int dd, .ref a1_1, .ref a2_2, .ref a3_3])), zAr T 0 a1_1 40 f1, zAr T 0 a2_2 40 f2, zAr T 0 a3_3 40 f3]), dd, f1, f2, f3, rfl, hw_7, (by unfold zDN; rw [if_neg (by omega)]), (by unfold zDA; rw [if_neg (by omega)]), (by unfold zDA; rw [if_neg (by omega)]), (by unfold zDA; rw [if_neg (by omega)])⟩)
    · have c_6n : ¬ (40 : Int) ≤ dd.toInt := fun q => c_6 ((fa_le _ _).mpr q)
      refine lv_aload_n hx hb dX2_add_16 rfl (lv_at hl 0 rfl) ?_
      refine z_get C G clX2 0 rfl 1 (by decide) m_fl_RX2_9 rfl dX2_add_17 ?_
      refine lv_aload_n hx hb dX2_add_20 rfl (lv_at hl 0 rfl) ?_
      refine z_get C G clX2 0 rfl 0 (by decide) m_fl_RX2_21 rfl dX2_add_21 ?_
      refine lv_iload_n hx hb dX2_add_24 rfl (lv_at hl 1 rfl) ?_
      refine z_ist C G 1 rfl (vp_in_iff.mpr ⟨by omega, by omega⟩) dX2_add_25 (fun H locs G => ?_)
      have G : zS T A s.heap s [[(h, .inr (2, [.int dd, .ref a1_1, .ref a2_2, .ref a3_3]))], [zAr T 0 a1_1 40 (upd f1 dd.toNatClampNeg x)], [zAr T 0 a2_2 40 f2], [zAr T 0 a3_3 40 f3]] _ _ := G
      refine lv_aload_n hx hb dX2_add_26 rfl (lv_at hl 0 rfl) ?_
      refine z_get C G clX2 0 rfl 2 (by decide) m_fl_RX2_15 rfl dX2_add_27 ?_
      refine lv_aload_n hx hb dX2_add_30 rfl (lv_at hl 0 rfl) ?_
      refine z_get C G clX2 0 rfl 0 (by decide) m_fl_RX2_21 rfl dX2_add_31 ?_
      refine lv_iload_n hx hb dX2_add_34 rfl (lv_at hl 2 rfl) ?_
      refine z_ist C G 2 rfl (vp_in_iff.mpr ⟨by omega, by omega⟩) dX2_add_35 (fun H locs G => ?_)
      have G : zS T A s.heap s [[(h, .inr (2, [.int dd, .ref a1_1, .ref a2_2, .ref a3_3]))], [zAr T 0 a1_1 40 (upd f1 dd.toNatClampNeg x)], [zAr T 0 a2_2 40 (upd f2 dd.toNatClampNeg y)], [zAr T 0 a3_3 40 f3]] _ _ := G
      refine lv_aload_n hx hb dX2_add_36 rfl (lv_at hl 0 rfl) ?_
      refine z_get C G clX2 0 rfl 3 (by decide) m_fl_RX2_18 rfl dX2_add_37 ?_
      refine lv_aload_n hx hb dX2_add_40 rfl (lv_at hl 0 rfl) ?_
      refine z_get C G clX2 0 rfl 0 (by decide) m_fl_RX2_21 rfl dX2_add_41 ?_
      refine lv_iload_n hx hb dX2_add_44 rfl (lv_at hl 3 rfl) ?_
      refine z_ist C G 3 rfl (vp_in_iff.mpr ⟨by omega, by omega⟩) dX2_add_45 (fun H locs G => ?_)
      have G : zS T A s.heap s [[(h, .inr (2, [.int dd, .ref a1_1, .ref a2_2, .ref a3_3]))], [zAr T 0 a1_1 40 (upd f1 dd.toNatClampNeg x)], [zAr T 0 a2_2 40 (upd f2 dd.toNatClampNeg y)], [zAr T 0 a3_3 40 (upd f3 dd.toNatClampNeg z)]] _ _ := G
      refine lv_aload_n hx hb dX2_add_46 rfl (lv_at hl 0 rfl) ?_
      refine lv_dup hx hb dX2_add_47 rfl ?_
      refine z_get C G clX2 0 rfl 0 (by decide) m_fl_RX2_21 rfl dX2_add_48 ?_
      refine lv_iconst (v := 1) hx hb dX2_add_51 (by decide) ?_
      refine lv_iadd hx hb dX2_add_52 ?_
      refine z_put C G clX2 0 rfl 0 (by decide) m_fl_RX2_21 rfl rfl rfl (Nat.le_of_ble_eq_true rfl) dX2_add_53 (fun H locs G => ?_)
      have G : zS T A s.heap s [[(h, .inr (2, [.int (dd + 1), .ref a1_1, .ref a2_2, .ref a3_3]))], [zAr T 0 a1_1 40 (upd f1 dd.toNatClampNeg x)], [zAr T 0 a2_2 40 (upd f2 dd.toNatClampNeg y)], [zAr T 0 a3_3 40 (upd f3 dd.toNatClampNeg z)]] _ _ := G
      have hw_8 : bDay T h (dd + 1) (upd f1 dd.toNatClampNeg x) (upd f2 dd.toNatClampNeg y) (upd f3 dd.toNatClampNeg z) [(h, .inr (2, [.int (dd + 1), .ref a1_1, .ref a2_2, .ref a3_3])), zAr T 0 a1_1 40 (upd f1 dd.toNatClampNeg x), zAr T 0 a2_2 40 (upd f2 dd.toNatClampNeg y), zAr T 0 a3_3 40 (upd f3 dd.toNatClampNeg z)] := ⟨a1_1, a2_2, a3_3, rfl⟩
      have G : zS T A s.heap s [[(h, .inr (2, [.int (dd + 1), .ref a1_1, .ref a2_2, .ref a3_3])), zAr T 0 a1_1 40 (upd f1 dd.toNatClampNeg x), zAr T 0 a2_2 40 (upd f2 dd.toNatClampNeg y), zAr T 0 a3_3 40 (upd f3 dd.toNatClampNeg z)]] _ _ := G.re rfl
      exact z_back hQ9 (z_vret C hr hlocks G (Nat.le_of_ble_eq_true rfl) (Nat.le_of_ble_eq_true rfl) dX2_add_56 ⟨([(h, .inr (2, [.int (dd + 1), .ref a1_1, .ref a2_2, .ref a3_3])), zAr T 0 a1_1 40 (upd f1 dd.toNatClampNeg x), zAr T 0 a2_2 40 (upd f2 dd.toNatClampNeg y), zAr T 0 a3_3 40 (upd f3 dd.toNatClampNeg z)]), (dd + 1), (upd f1 dd.toNatClampNeg x), (upd f2 dd.toNatClampNeg y), (upd f3 dd.toNatClampNeg z), rfl, hw_8, (by unfold zDN; rw [if_pos (by omega)]), (by unfold zDA; rw [if_pos (by omega)]), (by unfold zDA; rw [if_pos (by omega)]), (by unfold zDA; rw [if_pos (by omega)])⟩)
set_option maxHeartbeats 4000000 in
set_option maxRecDepth 100000 in
/-- Day.told -/
theorem c_Day_told (l : Launch) (T : zTy) (h : Nat) (dd : Int32) (f1 : Nat → Int32) (f2 : Nat → Int32) (f3 : Nat → Int32) (w : va_W) (k : Int32) (what : Int32) (hw : bDay T h dd f1 f2 f3 w) : zMi l T yX2_told cX2_told 3 (some .int) 1 0 0 [.ref h, .int k, .int what] [w] (fun (r : Int32) bs => bs = [w] ∧ r = zDayTold dd f1 f2 f3 k what) := by
  refine zMi_of (own := RX2) (by decide) rfl (Nat.le_of_ble_eq_true rfl) ?_
  intro p e s m args below meth c A ls C hr hlocks hnm hAe G hl
  refine zHide (fun Q9 hQ9 => ?_)
  have hx := C.1
  have hb := C.2.1
  have hl : lv_has ls 3 [(0, .ref h), (1, .int k), (2, .int what)] := hl
  refine lv_iload_n hx hb dX2_told_0 rfl (lv_at hl 1 rfl) ?_
  refine lv_iconst (v := (-1)) hx hb dX2_told_1 (by decide) ?_
  refine lv_icmp_ne (tgt := 14) hx hb dX2_told_2 (by decide) (fun c_1 => ?_) (fun c_1 => ?_)
  · have c_1n : ¬ k.toInt = (-1 : Int) := fun q => c_1 ((fa_eq _ _).mpr q)
    refine lv_iload_n hx hb dX2_told_14 rfl (lv_at hl 1 rfl) ?_
    refine lv_if_lt (tgt := 32) hx hb dX2_told_15 (by decide) (fun c_2 => ?_) (fun c_2 => ?_)
    · have c_2n : k.toInt < (0 : Int) := (fa_lt _ _).mp c_2
      refine lv_bipush (v := (-2)) hx hb dX2_told_32 (by decide) ?_
      exact z_back hQ9 (z_iret C hr hlocks G (Nat.le_of_ble_eq_true rfl) (Nat.le_of_ble_eq_true rfl) dX2_told_34 ⟨rfl, (by unfold zDayTold; (repeat' split) <;> first | rfl | omega)⟩)
    · have c_2n : ¬ k.toInt < (0 : Int) := fun q => c_2 ((fa_lt _ _).mpr q)
      refine lv_iload_n hx hb dX2_told_18 rfl (lv_at hl 1 rfl) ?_
      refine lv_aload_n hx hb dX2_told_19 rfl (lv_at hl 0 rfl) ?_
      refine zEx3 hw ?_
      intro a1_3 a2_4 a3_5 hbs9
      clear hw
      subst hbs9
      have G : zS T A s.heap s [[(h, .inr (2, [.int dd, .ref a1_3, .ref a2_4, .ref a3_5]))], [zAr T 0 a1_3 40 f1], [zAr T 0 a2_4 40 f2], [zAr T 0 a3_5 40 f3]] _ _ := G.re rfl
      refine z_get C G clX2 0 rfl 0 (by decide) m_fl_RX2_21 rfl dX2_told_20 ?_
      refine lv_icmp_ge (tgt := 32) hx hb dX2_told_23 (by decide) (fun c_6 => ?_) (fun c_6 => ?_)
      · have c_6n : dd.toInt ≤ k.toInt := (fa_le _ _).mp c_6
        refine lv_bipush (v := (-2)) hx hb dX2_told_32 (by decide) ?_
        have hw_7 : bDay T h dd f1 f2 f3 [(h, .inr (2, [.int dd, .ref a1_3, .ref a2_4, .ref a3_5])), zAr T 0 a1_3 40 f1, zAr T 0 a2_4 40 f2, zAr T 0 a3_5 40 f3] := ⟨a1_3, a2_4, a3_5, rfl⟩
        have G : zS T A s.heap s [[(h, .inr (2, [.int dd, .ref a1_3, .ref a2_4, .ref a3_5])), zAr T 0 a1_3 40 f1, zAr T 0 a2_4 40 f2, zAr T 0 a3_5 40 f3]] _ _ := G.re rfl
        exact z_back hQ9 (z_iret C hr hlocks G (Nat.le_of_ble_eq_true rfl) (Nat.le_of_ble_eq_true rfl) dX2_told_34 ⟨rfl, (by unfold zDayTold; (repeat' split) <;> first | rfl | omega)⟩)
      · have c_6n : ¬ dd.toInt ≤ k.toInt := fun q => c_6 ((fa_le _ _).mpr q)
        refine lv_iload_n hx hb dX2_told_26 rfl (lv_at hl 1 rfl) ?_
        refine lv_bipush (v := 40) hx hb dX2_told_27 (by decide) ?_
        refine lv_icmp_lt (tgt := 35) hx hb dX2_told_29 (by decide) (fun c_8 => ?_) (fun c_8 => ?_)
        · have c_8n : k.toInt < (40 : Int) := (fa_lt _ _).mp c_8
          refine lv_iload_n hx hb dX2_told_35 rfl (lv_at hl 2 rfl) ?_
          by_cases c_9o : what.toInt < 0 ∨ 2 < what.toInt
          · refine lv_tableOut (tgt := 85) hx hb dX2_told_36 c_9o (by decide) ?_
            refine lv_bipush (v := (-2)) hx hb dX2_told_85 (by decide) ?_
            have hw_10 : bDay T h dd f1 f2 f3 [(h, .inr (2, [.int dd, .ref a1_3, .ref a2_4, .ref a3_5])), zAr T 0 a1_3 40 f1, zAr T 0 a2_4 40 f2, zAr T 0 a3_5 40 f3] := ⟨a1_3, a2_4, a3_5, rfl⟩
            have G : zS T A s.heap s [[(h, .inr (2, [.int dd, .ref a1_3, .ref a2_4, .ref a3_5])), zAr T 0 a1_3 40 f1, zAr T 0 a2_4 40 f2, zAr T 0 a3_5 40 f3]] _ _ := G.re rfl
            exact z_back hQ9 (z_iret C hr hlocks G (Nat.le_of_ble_eq_true rfl) (Nat.le_of_ble_eq_true rfl) dX2_told_87 ⟨rfl, (by unfold zDayTold; (repeat' split) <;> first | rfl | omega)⟩)
          · have c_9r : what.toInt = 0 ∨ what.toInt = 1 ∨ what.toInt = 2 := by omega
            rcases c_9r with c_9 | c_9 | c_9
            · refine lv_tableIn (tgt := 64) hx hb dX2_told_36 (by omega) (by omega) (by rw [c_9]; rfl) (by decide) ?_
              refine lv_aload_n hx hb dX2_told_64 rfl (lv_at hl 0 rfl) ?_
              refine z_get C G clX2 0 rfl 1 (by decide) m_fl_RX2_9 rfl dX2_told_65 ?_
              refine lv_iload_n hx hb dX2_told_68 rfl (lv_at hl 1 rfl) ?_
              refine z_ild C G 1 rfl (vp_in_iff.mpr ⟨by omega, by omega⟩) dX2_told_69 ?_
              refine lv_topi (fun v_11 ev_11 => ?_)
              subst ev_11
              have hw_12 : bDay T h dd f1 f2 f3 [(h, .inr (2, [.int dd, .ref a1_3, .ref a2_4, .ref a3_5])), zAr T 0 a1_3 40 f1, zAr T 0 a2_4 40 f2, zAr T 0 a3_5 40 f3] := ⟨a1_3, a2_4, a3_5, rfl⟩
              have G : zS T A s.heap s [[(h, .inr (2, [.int dd, .ref a1_3, .ref a2_4, .ref a3_5])), zAr T 0 a1_3 40 f1, zAr T 0 a2_4 40 f2, zAr T 0 a3_5 40 f3]] _ _ := G.re rfl
              exact z_back hQ9 (z_iret C hr hlocks G (Nat.le_of_ble_eq_true rfl) (Nat.le_of_ble_eq_true rfl) dX2_told_70 ⟨rfl, (by unfold zDayTold; (repeat' split) <;> first | rfl | omega)⟩)
            · refine lv_tableIn (tgt := 71) hx hb dX2_told_36 (by omega) (by omega) (by rw [c_9]; rfl) (by decide) ?_
              refine lv_aload_n hx hb dX2_told_71 rfl (lv_at hl 0 rfl) ?_
              refine z_get C G clX2 0 rfl 2 (by decide) m_fl_RX2_15 rfl dX2_told_72 ?_
              refine lv_iload_n hx hb dX2_told_75 rfl (lv_at hl 1 rfl) ?_
              refine z_ild C G 2 rfl (vp_in_iff.mpr ⟨by omega, by omega⟩) dX2_told_76 ?_
              refine lv_topi (fun v_13 ev_13 => ?_)
              subst ev_13
              have hw_14 : bDay T h dd f1 f2 f3 [(h, .inr (2, [.int dd, .ref a1_3, .ref a2_4, .ref a3_5])), zAr T 0 a1_3 40 f1, zAr T 0 a2_4 40 f2, zAr T 0 a3_5 40 f3] := ⟨a1_3, a2_4, a3_5, rfl⟩
              have G : zS T A s.heap s [[(h, .inr (2, [.int dd, .ref a1_3, .ref a2_4, .ref a3_5])), zAr T 0 a1_3 40 f1, zAr T 0 a2_4 40 f2, zAr T 0 a3_5 40 f3]] _ _ := G.re rfl
              exact z_back hQ9 (z_iret C hr hlocks G (Nat.le_of_ble_eq_true rfl) (Nat.le_of_ble_eq_true rfl) dX2_told_77 ⟨rfl, (by unfold zDayTold; (repeat' split) <;> first | rfl | omega)⟩)
            · refine lv_tableIn (tgt := 78) hx hb dX2_told_36 (by omega) (by omega) (by rw [c_9]; rfl) (by decide) ?_
              refine lv_aload_n hx hb dX2_told_78 rfl (lv_at hl 0 rfl) ?_
              refine z_get C G clX2 0 rfl 3 (by decide) m_fl_RX2_18 rfl dX2_told_79 ?_
              refine lv_iload_n hx hb dX2_told_82 rfl (lv_at hl 1 rfl) ?_
              refine z_ild C G 3 rfl (vp_in_iff.mpr ⟨by omega, by omega⟩) dX2_told_83 ?_
              refine lv_topi (fun v_15 ev_15 => ?_)
              subst ev_15
              have hw_16 : bDay T h dd f1 f2 f3 [(h, .inr (2, [.int dd, .ref a1_3, .ref a2_4, .ref a3_5])), zAr T 0 a1_3 40 f1, zAr T 0 a2_4 40 f2, zAr T 0 a3_5 40 f3] := ⟨a1_3, a2_4, a3_5, rfl⟩
              have G : zS T A s.heap s [[(h, .inr (2, [.int dd, .ref a1_3, .ref a2_4, .ref a3_5])), zAr T 0 a1_3 40 f1, zAr T 0 a2_4 40 f2, zAr T 0 a3_5 40 f3]] _ _ := G.re rfl
              exact z_back hQ9 (z_iret C hr hlocks G (Nat.le_of_ble_eq_true rfl) (Nat.le_of_ble_eq_true rfl) dX2_told_84 ⟨rfl, (by unfold zDayTold; (repeat' split) <;> first | rfl | omega)⟩)
        · have c_8n : ¬ k.toInt < (40 : Int) := fun q => c_8 ((fa_lt _ _).mpr q)
          refine lv_bipush (v := (-2)) hx hb dX2_told_32 (by decide) ?_
          have hw_17 : bDay T h dd f1 f2 f3 [(h, .inr (2, [.int dd, .ref a1_3, .ref a2_4, .ref a3_5])), zAr T 0 a1_3 40 f1, zAr T 0 a2_4 40 f2, zAr T 0 a3_5 40 f3] := ⟨a1_3, a2_4, a3_5, rfl⟩
          have G : zS T A s.heap s [[(h, .inr (2, [.int dd, .ref a1_3, .ref a2_4, .ref a3_5])), zAr T 0 a1_3 40 f1, zAr T 0 a2_4 40 f2, zAr T 0 a3_5 40 f3]] _ _ := G.re rfl
          exact z_back hQ9 (z_iret C hr hlocks G (Nat.le_of_ble_eq_true rfl) (Nat.le_of_ble_eq_true rfl) dX2_told_34 ⟨rfl, (by unfold zDayTold; (repeat' split) <;> first | rfl | omega)⟩)
  · have c_1n : k.toInt = (-1 : Int) := (fa_eq _ _).mp c_1
    refine lv_iload_n hx hb dX2_told_5 rfl (lv_at hl 2 rfl) ?_
    refine lv_if_ne (tgt := 14) hx hb dX2_told_6 (by decide) (fun c_18 => ?_) (fun c_18 => ?_)
    · have c_18n : ¬ what.toInt = (0 : Int) := fun q => c_18 ((fa_eq _ _).mpr q)
      refine lv_iload_n hx hb dX2_told_14 rfl (lv_at hl 1 rfl) ?_
      refine lv_if_lt (tgt := 32) hx hb dX2_told_15 (by decide) (fun c_19 => ?_) (fun c_19 => ?_)
      · have c_19n : k.toInt < (0 : Int) := (fa_lt _ _).mp c_19
        refine lv_bipush (v := (-2)) hx hb dX2_told_32 (by decide) ?_
        exact z_back hQ9 (z_iret C hr hlocks G (Nat.le_of_ble_eq_true rfl) (Nat.le_of_ble_eq_true rfl) dX2_told_34 ⟨rfl, (by unfold zDayTold; (repeat' split) <;> first | rfl | omega)⟩)
      · have c_19n : ¬ k.toInt < (0 : Int) := fun q => c_19 ((fa_lt _ _).mpr q)
        refine lv_iload_n hx hb dX2_told_18 rfl (lv_at hl 1 rfl) ?_
        refine lv_aload_n hx hb dX2_told_19 rfl (lv_at hl 0 rfl) ?_
        refine zEx3 hw ?_
        intro a1_20 a2_21 a3_22 hbs9
        clear hw
        subst hbs9
        have G : zS T A s.heap s [[(h, .inr (2, [.int dd, .ref a1_20, .ref a2_21, .ref a3_22]))], [zAr T 0 a1_20 40 f1], [zAr T 0 a2_21 40 f2], [zAr T 0 a3_22 40 f3]] _ _ := G.re rfl
        refine z_get C G clX2 0 rfl 0 (by decide) m_fl_RX2_21 rfl dX2_told_20 ?_
        refine lv_icmp_ge (tgt := 32) hx hb dX2_told_23 (by decide) (fun c_23 => ?_) (fun c_23 => ?_)
        · have c_23n : dd.toInt ≤ k.toInt := (fa_le _ _).mp c_23
          refine lv_bipush (v := (-2)) hx hb dX2_told_32 (by decide) ?_
          have hw_24 : bDay T h dd f1 f2 f3 [(h, .inr (2, [.int dd, .ref a1_20, .ref a2_21, .ref a3_22])), zAr T 0 a1_20 40 f1, zAr T 0 a2_21 40 f2, zAr T 0 a3_22 40 f3] := ⟨a1_20, a2_21, a3_22, rfl⟩
          have G : zS T A s.heap s [[(h, .inr (2, [.int dd, .ref a1_20, .ref a2_21, .ref a3_22])), zAr T 0 a1_20 40 f1, zAr T 0 a2_21 40 f2, zAr T 0 a3_22 40 f3]] _ _ := G.re rfl
          exact z_back hQ9 (z_iret C hr hlocks G (Nat.le_of_ble_eq_true rfl) (Nat.le_of_ble_eq_true rfl) dX2_told_34 ⟨rfl, (by unfold zDayTold; (repeat' split) <;> first | rfl | omega)⟩)
        · have c_23n : ¬ dd.toInt ≤ k.toInt := fun q => c_23 ((fa_le _ _).mpr q)
          refine lv_iload_n hx hb dX2_told_26 rfl (lv_at hl 1 rfl) ?_
          refine lv_bipush (v := 40) hx hb dX2_told_27 (by decide) ?_
          refine lv_icmp_lt (tgt := 35) hx hb dX2_told_29 (by decide) (fun c_25 => ?_) (fun c_25 => ?_)
          · have c_25n : k.toInt < (40 : Int) := (fa_lt _ _).mp c_25
            refine lv_iload_n hx hb dX2_told_35 rfl (lv_at hl 2 rfl) ?_
            by_cases c_26o : what.toInt < 0 ∨ 2 < what.toInt
            · refine lv_tableOut (tgt := 85) hx hb dX2_told_36 c_26o (by decide) ?_
              refine lv_bipush (v := (-2)) hx hb dX2_told_85 (by decide) ?_
              have hw_27 : bDay T h dd f1 f2 f3 [(h, .inr (2, [.int dd, .ref a1_20, .ref a2_21, .ref a3_22])), zAr T 0 a1_20 40 f1, zAr T 0 a2_21 40 f2, zAr T 0 a3_22 40 f3] := ⟨a1_20, a2_21, a3_22, rfl⟩
              have G : zS T A s.heap s [[(h, .inr (2, [.int dd, .ref a1_20, .ref a2_21, .ref a3_22])), zAr T 0 a1_20 40 f1, zAr T 0 a2_21 40 f2, zAr T 0 a3_22 40 f3]] _ _ := G.re rfl
              exact z_back hQ9 (z_iret C hr hlocks G (Nat.le_of_ble_eq_true rfl) (Nat.le_of_ble_eq_true rfl) dX2_told_87 ⟨rfl, (by unfold zDayTold; (repeat' split) <;> first | rfl | omega)⟩)
            · have c_26r : what.toInt = 0 ∨ what.toInt = 1 ∨ what.toInt = 2 := by omega
              rcases c_26r with c_26 | c_26 | c_26
              · refine lv_tableIn (tgt := 64) hx hb dX2_told_36 (by omega) (by omega) (by rw [c_26]; rfl) (by decide) ?_
                refine lv_aload_n hx hb dX2_told_64 rfl (lv_at hl 0 rfl) ?_
                refine z_get C G clX2 0 rfl 1 (by decide) m_fl_RX2_9 rfl dX2_told_65 ?_
                refine lv_iload_n hx hb dX2_told_68 rfl (lv_at hl 1 rfl) ?_
                refine z_ild C G 1 rfl (vp_in_iff.mpr ⟨by omega, by omega⟩) dX2_told_69 ?_
                refine lv_topi (fun v_28 ev_28 => ?_)
                subst ev_28
                have hw_29 : bDay T h dd f1 f2 f3 [(h, .inr (2, [.int dd, .ref a1_20, .ref a2_21, .ref a3_22])), zAr T 0 a1_20 40 f1, zAr T 0 a2_21 40 f2, zAr T 0 a3_22 40 f3] := ⟨a1_20, a2_21, a3_22, rfl⟩
                have G : zS T A s.heap s [[(h, .inr (2, [.int dd, .ref a1_20, .ref a2_21, .ref a3_22])), zAr T 0 a1_20 40 f1, zAr T 0 a2_21 40 f2, zAr T 0 a3_22 40 f3]] _ _ := G.re rfl
                exact z_back hQ9 (z_iret C hr hlocks G (Nat.le_of_ble_eq_true rfl) (Nat.le_of_ble_eq_true rfl) dX2_told_70 ⟨rfl, (by unfold zDayTold; (repeat' split) <;> first | rfl | omega)⟩)
              · refine lv_tableIn (tgt := 71) hx hb dX2_told_36 (by omega) (by omega) (by rw [c_26]; rfl) (by decide) ?_
                refine lv_aload_n hx hb dX2_told_71 rfl (lv_at hl 0 rfl) ?_
                refine z_get C G clX2 0 rfl 2 (by decide) m_fl_RX2_15 rfl dX2_told_72 ?_
                refine lv_iload_n hx hb dX2_told_75 rfl (lv_at hl 1 rfl) ?_
                refine z_ild C G 2 rfl (vp_in_iff.mpr ⟨by omega, by omega⟩) dX2_told_76 ?_
                refine lv_topi (fun v_30 ev_30 => ?_)
                subst ev_30
                have hw_31 : bDay T h dd f1 f2 f3 [(h, .inr (2, [.int dd, .ref a1_20, .ref a2_21, .ref a3_22])), zAr T 0 a1_20 40 f1, zAr T 0 a2_21 40 f2, zAr T 0 a3_22 40 f3] := ⟨a1_20, a2_21, a3_22, rfl⟩
                have G : zS T A s.heap s [[(h, .inr (2, [.int dd, .ref a1_20, .ref a2_21, .ref a3_22])), zAr T 0 a1_20 40 f1, zAr T 0 a2_21 40 f2, zAr T 0 a3_22 40 f3]] _ _ := G.re rfl
                exact z_back hQ9 (z_iret C hr hlocks G (Nat.le_of_ble_eq_true rfl) (Nat.le_of_ble_eq_true rfl) dX2_told_77 ⟨rfl, (by unfold zDayTold; (repeat' split) <;> first | rfl | omega)⟩)
              · refine lv_tableIn (tgt := 78) hx hb dX2_told_36 (by omega) (by omega) (by rw [c_26]; rfl) (by decide) ?_
                refine lv_aload_n hx hb dX2_told_78 rfl (lv_at hl 0 rfl) ?_
                refine z_get C G clX2 0 rfl 3 (by decide) m_fl_RX2_18 rfl dX2_told_79 ?_
                refine lv_iload_n hx hb dX2_told_82 rfl (lv_at hl 1 rfl) ?_
                refine z_ild C G 3 rfl (vp_in_iff.mpr ⟨by omega, by omega⟩) dX2_told_83 ?_
                refine lv_topi (fun v_32 ev_32 => ?_)
                subst ev_32
                have hw_33 : bDay T h dd f1 f2 f3 [(h, .inr (2, [.int dd, .ref a1_20, .ref a2_21, .ref a3_22])), zAr T 0 a1_20 40 f1, zAr T 0 a2_21 40 f2, zAr T 0 a3_22 40 f3] := ⟨a1_20, a2_21, a3_22, rfl⟩
                have G : zS T A s.heap s [[(h, .inr (2, [.int dd, .ref a1_20, .ref a2_21, .ref a3_22])), zAr T 0 a1_20 40 f1, zAr T 0 a2_21 40 f2, zAr T 0 a3_22 40 f3]] _ _ := G.re rfl
                exact z_back hQ9 (z_iret C hr hlocks G (Nat.le_of_ble_eq_true rfl) (Nat.le_of_ble_eq_true rfl) dX2_told_84 ⟨rfl, (by unfold zDayTold; (repeat' split) <;> first | rfl | omega)⟩)
          · have c_25n : ¬ k.toInt < (40 : Int) := fun q => c_25 ((fa_lt _ _).mpr q)
            refine lv_bipush (v := (-2)) hx hb dX2_told_32 (by decide) ?_
            have hw_34 : bDay T h dd f1 f2 f3 [(h, .inr (2, [.int dd, .ref a1_20, .ref a2_21, .ref a3_22])), zAr T 0 a1_20 40 f1, zAr T 0 a2_21 40 f2, zAr T 0 a3_22 40 f3] := ⟨a1_20, a2_21, a3_22, rfl⟩
            have G : zS T A s.heap s [[(h, .inr (2, [.int dd, .ref a1_20, .ref a2_21, .ref a3_22])), zAr T 0 a1_20 40 f1, zAr T 0 a2_21 40 f2, zAr T 0 a3_22 40 f3]] _ _ := G.re rfl
            exact z_back hQ9 (z_iret C hr hlocks G (Nat.le_of_ble_eq_true rfl) (Nat.le_of_ble_eq_true rfl) dX2_told_34 ⟨rfl, (by unfold zDayTold; (repeat' split) <;> first | rfl | omega)⟩)
    · have c_18n : what.toInt = (0 : Int) := (fa_eq _ _).mp c_18
      refine lv_aload_n hx hb dX2_told_9 rfl (lv_at hl 0 rfl) ?_
      refine zEx3 hw ?_
      intro a1_35 a2_36 a3_37 hbs9
      clear hw
      subst hbs9
      have G : zS T A s.heap s [[(h, .inr (2, [.int dd, .ref a1_35, .ref a2_36, .ref a3_37]))], [zAr T 0 a1_35 40 f1], [zAr T 0 a2_36 40 f2], [zAr T 0 a3_37 40 f3]] _ _ := G.re rfl
      refine z_get C G clX2 0 rfl 0 (by decide) m_fl_RX2_21 rfl dX2_told_10 ?_
      have hw_38 : bDay T h dd f1 f2 f3 [(h, .inr (2, [.int dd, .ref a1_35, .ref a2_36, .ref a3_37])), zAr T 0 a1_35 40 f1, zAr T 0 a2_36 40 f2, zAr T 0 a3_37 40 f3] := ⟨a1_35, a2_36, a3_37, rfl⟩
      have G : zS T A s.heap s [[(h, .inr (2, [.int dd, .ref a1_35, .ref a2_36, .ref a3_37])), zAr T 0 a1_35 40 f1, zAr T 0 a2_36 40 f2, zAr T 0 a3_37 40 f3]] _ _ := G.re rfl
      exact z_back hQ9 (z_iret C hr hlocks G (Nat.le_of_ble_eq_true rfl) (Nat.le_of_ble_eq_true rfl) dX2_told_13 ⟨rfl, (by unfold zDayTold; (repeat' split) <;> first | rfl | omega)⟩)
set_option maxHeartbeats 4000000 in
set_option maxRecDepth 100000 in
/-- Log.add -/
theorem c_Log_add (l : Launch) (T : zTy) (h : Nat) (gg : Int32) (f1 : Nat → Int32) (f2 : Nat → Int32) (w : va_W) (x : Int32) (y : Int32) (hw : bLog T h gg f1 f2 w) : zMv l T yX5_add cX5_add 3 1 0 0 [.ref h, .int x, .int y] [w] (fun bs => ∃ (w2 : va_W) (u : Int32) (g1 : Nat → Int32) (g2 : Nat → Int32), bs = [w2] ∧ bLog T h u g1 g2 w2 ∧ u = zGN gg ∧ g1 = zGA gg f1 x ∧ g2 = zGA gg f2 y) := by
  refine zMv_of (own := RX5) (by decide) rfl (Nat.le_of_ble_eq_true rfl) ?_
  intro p e s m args below meth c A ls C hr hlocks hnm hAe G hl
  refine zHide (fun Q9 hQ9 => ?_)
  have hx := C.1
  have hb := C.2.1
  have hl : lv_has ls 3 [(0, .ref h), (1, .int x), (2, .int y)] := hl
  refine lv_aload_n hx hb dX5_add_0 rfl (lv_at hl 0 rfl) ?_
  refine zEx2 hw ?_
  intro a1_1 a2_2 hbs9
  clear hw
  subst hbs9
  have G : zS T A s.heap s [[(h, .inr (5, [.int gg, .ref a1_1, .ref a2_2]))], [zAr T 0 a1_1 8 f1], [zAr T 0 a2_2 8 f2]] _ _ := G.re rfl
  refine z_get C G clX5 0 rfl 0 (by decide) m_fl_RX5_18 rfl dX5_add_1 ?_
  refine lv_if_lt (tgt := 46) hx hb dX5_add_4 (by decide) (fun c_3 => ?_) (fun c_3 => ?_)
  · have c_3n : gg.toInt < (0 : Int) := (fa_lt _ _).mp c_3
    have hw_4 : bLog T h gg f1 f2 [(h, .inr (5, [.int gg, .ref a1_1, .ref a2_2])), zAr T 0 a1_1 8 f1, zAr T 0 a2_2 8 f2] := ⟨a1_1, a2_2, rfl⟩
    have G : zS T A s.heap s [[(h, .inr (5, [.int gg, .ref a1_1, .ref a2_2])), zAr T 0 a1_1 8 f1, zAr T 0 a2_2 8 f2]] _ _ := G.re rfl
    exact z_back hQ9 (z_vret C hr hlocks G (Nat.le_of_ble_eq_true rfl) (Nat.le_of_ble_eq_true rfl) dX5_add_46 ⟨([(h, .inr (5, [.int gg, .ref a1_1, .ref a2_2])), zAr T 0 a1_1 8 f1, zAr T 0 a2_2 8 f2]), gg, f1, f2, rfl, hw_4, (by unfold zGN; rw [if_neg (by omega)]), (by unfold zGA; rw [if_neg (by omega)]), (by unfold zGA; rw [if_neg (by omega)])⟩)
  · have c_3n : ¬ gg.toInt < (0 : Int) := fun q => c_3 ((fa_lt _ _).mpr q)
    refine lv_aload_n hx hb dX5_add_7 rfl (lv_at hl 0 rfl) ?_
    refine z_get C G clX5 0 rfl 0 (by decide) m_fl_RX5_18 rfl dX5_add_8 ?_
    refine lv_bipush (v := 8) hx hb dX5_add_11 (by decide) ?_
    refine lv_icmp_ge (tgt := 46) hx hb dX5_add_13 (by decide) (fun c_5 => ?_) (fun c_5 => ?_)
    · have c_5n : (8 : Int) ≤ gg.toInt := (fa_le _ _).mp c_5
      have hw_6 : bLog T h gg f1 f2 [(h, .inr (5, [.int gg, .ref a1_1, .ref a2_2])), zAr T 0 a1_1 8 f1, zAr T 0 a2_2 8 f2] := ⟨a1_1, a2_2, rfl⟩
      have G : zS T A s.heap s [[(h, .inr (5, [.int gg, .ref a1_1, .ref a2_2])), zAr T 0 a1_1 8 f1, zAr T 0 a2_2 8 f2]] _ _ := G.re rfl
      exact z_back hQ9 (z_vret C hr hlocks G (Nat.le_of_ble_eq_true rfl) (Nat.le_of_ble_eq_true rfl) dX5_add_46 ⟨([(h, .inr (5, [.int gg, .ref a1_1, .ref a2_2])), zAr T 0 a1_1 8 f1, zAr T 0 a2_2 8 f2]), gg, f1, f2, rfl, hw_6, (by unfold zGN; rw [if_neg (by omega)]), (by unfold zGA; rw [if_neg (by omega)]), (by unfold zGA; rw [if_neg (by omega)])⟩)
    · have c_5n : ¬ (8 : Int) ≤ gg.toInt := fun q => c_5 ((fa_le _ _).mpr q)
      refine lv_aload_n hx hb dX5_add_16 rfl (lv_at hl 0 rfl) ?_
      refine z_get C G clX5 0 rfl 1 (by decide) m_fl_RX5_9 rfl dX5_add_17 ?_
      refine lv_aload_n hx hb dX5_add_20 rfl (lv_at hl 0 rfl) ?_
      refine z_get C G clX5 0 rfl 0 (by decide) m_fl_RX5_18 rfl dX5_add_21 ?_
      refine lv_iload_n hx hb dX5_add_24 rfl (lv_at hl 1 rfl) ?_
      refine z_ist C G 1 rfl (vp_in_iff.mpr ⟨by omega, by omega⟩) dX5_add_25 (fun H locs G => ?_)
      have G : zS T A s.heap s [[(h, .inr (5, [.int gg, .ref a1_1, .ref a2_2]))], [zAr T 0 a1_1 8 (upd f1 gg.toNatClampNeg x)], [zAr T 0 a2_2 8 f2]] _ _ := G
      refine lv_aload_n hx hb dX5_add_26 rfl (lv_at hl 0 rfl) ?_
      refine z_get C G clX5 0 rfl 2 (by decide) m_fl_RX5_15 rfl dX5_add_27 ?_
      refine lv_aload_n hx hb dX5_add_30 rfl (lv_at hl 0 rfl) ?_
      refine z_get C G clX5 0 rfl 0 (by decide) m_fl_RX5_18 rfl dX5_add_31 ?_
      refine lv_iload_n hx hb dX5_add_34 rfl (lv_at hl 2 rfl) ?_
      refine z_ist C G 2 rfl (vp_in_iff.mpr ⟨by omega, by omega⟩) dX5_add_35 (fun H locs G => ?_)
      have G : zS T A s.heap s [[(h, .inr (5, [.int gg, .ref a1_1, .ref a2_2]))], [zAr T 0 a1_1 8 (upd f1 gg.toNatClampNeg x)], [zAr T 0 a2_2 8 (upd f2 gg.toNatClampNeg y)]] _ _ := G
      refine lv_aload_n hx hb dX5_add_36 rfl (lv_at hl 0 rfl) ?_
      refine lv_dup hx hb dX5_add_37 rfl ?_
      refine z_get C G clX5 0 rfl 0 (by decide) m_fl_RX5_18 rfl dX5_add_38 ?_
      refine lv_iconst (v := 1) hx hb dX5_add_41 (by decide) ?_
      refine lv_iadd hx hb dX5_add_42 ?_
      refine z_put C G clX5 0 rfl 0 (by decide) m_fl_RX5_18 rfl rfl rfl (Nat.le_of_ble_eq_true rfl) dX5_add_43 (fun H locs G => ?_)
      have G : zS T A s.heap s [[(h, .inr (5, [.int (gg + 1), .ref a1_1, .ref a2_2]))], [zAr T 0 a1_1 8 (upd f1 gg.toNatClampNeg x)], [zAr T 0 a2_2 8 (upd f2 gg.toNatClampNeg y)]] _ _ := G
      have hw_7 : bLog T h (gg + 1) (upd f1 gg.toNatClampNeg x) (upd f2 gg.toNatClampNeg y) [(h, .inr (5, [.int (gg + 1), .ref a1_1, .ref a2_2])), zAr T 0 a1_1 8 (upd f1 gg.toNatClampNeg x), zAr T 0 a2_2 8 (upd f2 gg.toNatClampNeg y)] := ⟨a1_1, a2_2, rfl⟩
      have G : zS T A s.heap s [[(h, .inr (5, [.int (gg + 1), .ref a1_1, .ref a2_2])), zAr T 0 a1_1 8 (upd f1 gg.toNatClampNeg x), zAr T 0 a2_2 8 (upd f2 gg.toNatClampNeg y)]] _ _ := G.re rfl
      exact z_back hQ9 (z_vret C hr hlocks G (Nat.le_of_ble_eq_true rfl) (Nat.le_of_ble_eq_true rfl) dX5_add_46 ⟨([(h, .inr (5, [.int (gg + 1), .ref a1_1, .ref a2_2])), zAr T 0 a1_1 8 (upd f1 gg.toNatClampNeg x), zAr T 0 a2_2 8 (upd f2 gg.toNatClampNeg y)]), (gg + 1), (upd f1 gg.toNatClampNeg x), (upd f2 gg.toNatClampNeg y), rfl, hw_7, (by unfold zGN; rw [if_pos (by omega)]), (by unfold zGA; rw [if_pos (by omega)]), (by unfold zGA; rw [if_pos (by omega)])⟩)
set_option maxHeartbeats 4000000 in
set_option maxRecDepth 100000 in
/-- Log.told -/
theorem c_Log_told (l : Launch) (T : zTy) (h : Nat) (gg : Int32) (f1 : Nat → Int32) (f2 : Nat → Int32) (w : va_W) (k : Int32) (what : Int32) (hw : bLog T h gg f1 f2 w) : zMi l T yX5_told cX5_told 3 (some .int) 1 0 0 [.ref h, .int k, .int what] [w] (fun (r : Int32) bs => bs = [w] ∧ r = zLogTold gg f1 f2 k what) := by
  refine zMi_of (own := RX5) (by decide) rfl (Nat.le_of_ble_eq_true rfl) ?_
  intro p e s m args below meth c A ls C hr hlocks hnm hAe G hl
  refine zHide (fun Q9 hQ9 => ?_)
  have hx := C.1
  have hb := C.2.1
  have hl : lv_has ls 3 [(0, .ref h), (1, .int k), (2, .int what)] := hl
  refine lv_iload_n hx hb dX5_told_0 rfl (lv_at hl 1 rfl) ?_
  refine lv_iconst (v := (-1)) hx hb dX5_told_1 (by decide) ?_
  refine lv_icmp_ne (tgt := 14) hx hb dX5_told_2 (by decide) (fun c_1 => ?_) (fun c_1 => ?_)
  · have c_1n : ¬ k.toInt = (-1 : Int) := fun q => c_1 ((fa_eq _ _).mpr q)
    refine lv_iload_n hx hb dX5_told_14 rfl (lv_at hl 1 rfl) ?_
    refine lv_if_lt (tgt := 41) hx hb dX5_told_15 (by decide) (fun c_2 => ?_) (fun c_2 => ?_)
    · have c_2n : k.toInt < (0 : Int) := (fa_lt _ _).mp c_2
      refine lv_bipush (v := (-2)) hx hb dX5_told_41 (by decide) ?_
      exact z_back hQ9 (z_iret C hr hlocks G (Nat.le_of_ble_eq_true rfl) (Nat.le_of_ble_eq_true rfl) dX5_told_43 ⟨rfl, (by unfold zLogTold; (repeat' split) <;> first | rfl | omega)⟩)
    · have c_2n : ¬ k.toInt < (0 : Int) := fun q => c_2 ((fa_lt _ _).mpr q)
      refine lv_iload_n hx hb dX5_told_18 rfl (lv_at hl 1 rfl) ?_
      refine lv_aload_n hx hb dX5_told_19 rfl (lv_at hl 0 rfl) ?_
      refine zEx2 hw ?_
      intro a1_3 a2_4 hbs9
      clear hw
      subst hbs9
      have G : zS T A s.heap s [[(h, .inr (5, [.int gg, .ref a1_3, .ref a2_4]))], [zAr T 0 a1_3 8 f1], [zAr T 0 a2_4 8 f2]] _ _ := G.re rfl
      refine z_get C G clX5 0 rfl 0 (by decide) m_fl_RX5_18 rfl dX5_told_20 ?_
      refine lv_icmp_ge (tgt := 41) hx hb dX5_told_23 (by decide) (fun c_5 => ?_) (fun c_5 => ?_)
      · have c_5n : gg.toInt ≤ k.toInt := (fa_le _ _).mp c_5
        refine lv_bipush (v := (-2)) hx hb dX5_told_41 (by decide) ?_
        have hw_6 : bLog T h gg f1 f2 [(h, .inr (5, [.int gg, .ref a1_3, .ref a2_4])), zAr T 0 a1_3 8 f1, zAr T 0 a2_4 8 f2] := ⟨a1_3, a2_4, rfl⟩
        have G : zS T A s.heap s [[(h, .inr (5, [.int gg, .ref a1_3, .ref a2_4])), zAr T 0 a1_3 8 f1, zAr T 0 a2_4 8 f2]] _ _ := G.re rfl
        exact z_back hQ9 (z_iret C hr hlocks G (Nat.le_of_ble_eq_true rfl) (Nat.le_of_ble_eq_true rfl) dX5_told_43 ⟨rfl, (by unfold zLogTold; (repeat' split) <;> first | rfl | omega)⟩)
      · have c_5n : ¬ gg.toInt ≤ k.toInt := fun q => c_5 ((fa_le _ _).mpr q)
        refine lv_iload_n hx hb dX5_told_26 rfl (lv_at hl 1 rfl) ?_
        refine lv_bipush (v := 8) hx hb dX5_told_27 (by decide) ?_
        refine lv_icmp_ge (tgt := 41) hx hb dX5_told_29 (by decide) (fun c_7 => ?_) (fun c_7 => ?_)
        · have c_7n : (8 : Int) ≤ k.toInt := (fa_le _ _).mp c_7
          refine lv_bipush (v := (-2)) hx hb dX5_told_41 (by decide) ?_
          have hw_8 : bLog T h gg f1 f2 [(h, .inr (5, [.int gg, .ref a1_3, .ref a2_4])), zAr T 0 a1_3 8 f1, zAr T 0 a2_4 8 f2] := ⟨a1_3, a2_4, rfl⟩
          have G : zS T A s.heap s [[(h, .inr (5, [.int gg, .ref a1_3, .ref a2_4])), zAr T 0 a1_3 8 f1, zAr T 0 a2_4 8 f2]] _ _ := G.re rfl
          exact z_back hQ9 (z_iret C hr hlocks G (Nat.le_of_ble_eq_true rfl) (Nat.le_of_ble_eq_true rfl) dX5_told_43 ⟨rfl, (by unfold zLogTold; (repeat' split) <;> first | rfl | omega)⟩)
        · have c_7n : ¬ (8 : Int) ≤ k.toInt := fun q => c_7 ((fa_le _ _).mpr q)
          refine lv_iload_n hx hb dX5_told_32 rfl (lv_at hl 2 rfl) ?_
          refine lv_if_lt (tgt := 41) hx hb dX5_told_33 (by decide) (fun c_9 => ?_) (fun c_9 => ?_)
          · have c_9n : what.toInt < (0 : Int) := (fa_lt _ _).mp c_9
            refine lv_bipush (v := (-2)) hx hb dX5_told_41 (by decide) ?_
            have hw_10 : bLog T h gg f1 f2 [(h, .inr (5, [.int gg, .ref a1_3, .ref a2_4])), zAr T 0 a1_3 8 f1, zAr T 0 a2_4 8 f2] := ⟨a1_3, a2_4, rfl⟩
            have G : zS T A s.heap s [[(h, .inr (5, [.int gg, .ref a1_3, .ref a2_4])), zAr T 0 a1_3 8 f1, zAr T 0 a2_4 8 f2]] _ _ := G.re rfl
            exact z_back hQ9 (z_iret C hr hlocks G (Nat.le_of_ble_eq_true rfl) (Nat.le_of_ble_eq_true rfl) dX5_told_43 ⟨rfl, (by unfold zLogTold; (repeat' split) <;> first | rfl | omega)⟩)
          · have c_9n : ¬ what.toInt < (0 : Int) := fun q => c_9 ((fa_lt _ _).mpr q)
            refine lv_iload_n hx hb dX5_told_36 rfl (lv_at hl 2 rfl) ?_
            refine lv_iconst (v := 1) hx hb dX5_told_37 (by decide) ?_
            refine lv_icmp_le (tgt := 44) hx hb dX5_told_38 (by decide) (fun c_11 => ?_) (fun c_11 => ?_)
            · have c_11n : what.toInt ≤ (1 : Int) := (fa_le _ _).mp c_11
              refine lv_iload_n hx hb dX5_told_44 rfl (lv_at hl 2 rfl) ?_
              refine lv_if_ne (tgt := 57) hx hb dX5_told_45 (by decide) (fun c_12 => ?_) (fun c_12 => ?_)
              · have c_12n : ¬ what.toInt = (0 : Int) := fun q => c_12 ((fa_eq _ _).mpr q)
                refine lv_aload_n hx hb dX5_told_57 rfl (lv_at hl 0 rfl) ?_
                refine z_get C G clX5 0 rfl 2 (by decide) m_fl_RX5_15 rfl dX5_told_58 ?_
                refine lv_iload_n hx hb dX5_told_61 rfl (lv_at hl 1 rfl) ?_
                refine z_ild C G 2 rfl (vp_in_iff.mpr ⟨by omega, by omega⟩) dX5_told_62 ?_
                refine lv_topi (fun v_13 ev_13 => ?_)
                subst ev_13
                have hw_14 : bLog T h gg f1 f2 [(h, .inr (5, [.int gg, .ref a1_3, .ref a2_4])), zAr T 0 a1_3 8 f1, zAr T 0 a2_4 8 f2] := ⟨a1_3, a2_4, rfl⟩
                have G : zS T A s.heap s [[(h, .inr (5, [.int gg, .ref a1_3, .ref a2_4])), zAr T 0 a1_3 8 f1, zAr T 0 a2_4 8 f2]] _ _ := G.re rfl
                exact z_back hQ9 (z_iret C hr hlocks G (Nat.le_of_ble_eq_true rfl) (Nat.le_of_ble_eq_true rfl) dX5_told_63 ⟨rfl, (by unfold zLogTold; (repeat' split) <;> first | rfl | omega)⟩)
              · have c_12n : what.toInt = (0 : Int) := (fa_eq _ _).mp c_12
                refine lv_aload_n hx hb dX5_told_48 rfl (lv_at hl 0 rfl) ?_
                refine z_get C G clX5 0 rfl 1 (by decide) m_fl_RX5_9 rfl dX5_told_49 ?_
                refine lv_iload_n hx hb dX5_told_52 rfl (lv_at hl 1 rfl) ?_
                refine z_ild C G 1 rfl (vp_in_iff.mpr ⟨by omega, by omega⟩) dX5_told_53 ?_
                refine lv_topi (fun v_15 ev_15 => ?_)
                subst ev_15
                refine lv_goto (tgt := 63) hx hb dX5_told_54 (by decide) ?_
                have hw_16 : bLog T h gg f1 f2 [(h, .inr (5, [.int gg, .ref a1_3, .ref a2_4])), zAr T 0 a1_3 8 f1, zAr T 0 a2_4 8 f2] := ⟨a1_3, a2_4, rfl⟩
                have G : zS T A s.heap s [[(h, .inr (5, [.int gg, .ref a1_3, .ref a2_4])), zAr T 0 a1_3 8 f1, zAr T 0 a2_4 8 f2]] _ _ := G.re rfl
                exact z_back hQ9 (z_iret C hr hlocks G (Nat.le_of_ble_eq_true rfl) (Nat.le_of_ble_eq_true rfl) dX5_told_63 ⟨rfl, (by unfold zLogTold; (repeat' split) <;> first | rfl | omega)⟩)
            · have c_11n : ¬ what.toInt ≤ (1 : Int) := fun q => c_11 ((fa_le _ _).mpr q)
              refine lv_bipush (v := (-2)) hx hb dX5_told_41 (by decide) ?_
              have hw_17 : bLog T h gg f1 f2 [(h, .inr (5, [.int gg, .ref a1_3, .ref a2_4])), zAr T 0 a1_3 8 f1, zAr T 0 a2_4 8 f2] := ⟨a1_3, a2_4, rfl⟩
              have G : zS T A s.heap s [[(h, .inr (5, [.int gg, .ref a1_3, .ref a2_4])), zAr T 0 a1_3 8 f1, zAr T 0 a2_4 8 f2]] _ _ := G.re rfl
              exact z_back hQ9 (z_iret C hr hlocks G (Nat.le_of_ble_eq_true rfl) (Nat.le_of_ble_eq_true rfl) dX5_told_43 ⟨rfl, (by unfold zLogTold; (repeat' split) <;> first | rfl | omega)⟩)
  · have c_1n : k.toInt = (-1 : Int) := (fa_eq _ _).mp c_1
    refine lv_iload_n hx hb dX5_told_5 rfl (lv_at hl 2 rfl) ?_
    refine lv_if_ne (tgt := 14) hx hb dX5_told_6 (by decide) (fun c_18 => ?_) (fun c_18 => ?_)
    · have c_18n : ¬ what.toInt = (0 : Int) := fun q => c_18 ((fa_eq _ _).mpr q)
      refine lv_iload_n hx hb dX5_told_14 rfl (lv_at hl 1 rfl) ?_
      refine lv_if_lt (tgt := 41) hx hb dX5_told_15 (by decide) (fun c_19 => ?_) (fun c_19 => ?_)
      · have c_19n : k.toInt < (0 : Int) := (fa_lt _ _).mp c_19
        refine lv_bipush (v := (-2)) hx hb dX5_told_41 (by decide) ?_
        exact z_back hQ9 (z_iret C hr hlocks G (Nat.le_of_ble_eq_true rfl) (Nat.le_of_ble_eq_true rfl) dX5_told_43 ⟨rfl, (by unfold zLogTold; (repeat' split) <;> first | rfl | omega)⟩)
      · have c_19n : ¬ k.toInt < (0 : Int) := fun q => c_19 ((fa_lt _ _).mpr q)
        refine lv_iload_n hx hb dX5_told_18 rfl (lv_at hl 1 rfl) ?_
        refine lv_aload_n hx hb dX5_told_19 rfl (lv_at hl 0 rfl) ?_
        refine zEx2 hw ?_
        intro a1_20 a2_21 hbs9
        clear hw
        subst hbs9
        have G : zS T A s.heap s [[(h, .inr (5, [.int gg, .ref a1_20, .ref a2_21]))], [zAr T 0 a1_20 8 f1], [zAr T 0 a2_21 8 f2]] _ _ := G.re rfl
        refine z_get C G clX5 0 rfl 0 (by decide) m_fl_RX5_18 rfl dX5_told_20 ?_
        refine lv_icmp_ge (tgt := 41) hx hb dX5_told_23 (by decide) (fun c_22 => ?_) (fun c_22 => ?_)
        · have c_22n : gg.toInt ≤ k.toInt := (fa_le _ _).mp c_22
          refine lv_bipush (v := (-2)) hx hb dX5_told_41 (by decide) ?_
          have hw_23 : bLog T h gg f1 f2 [(h, .inr (5, [.int gg, .ref a1_20, .ref a2_21])), zAr T 0 a1_20 8 f1, zAr T 0 a2_21 8 f2] := ⟨a1_20, a2_21, rfl⟩
          have G : zS T A s.heap s [[(h, .inr (5, [.int gg, .ref a1_20, .ref a2_21])), zAr T 0 a1_20 8 f1, zAr T 0 a2_21 8 f2]] _ _ := G.re rfl
          exact z_back hQ9 (z_iret C hr hlocks G (Nat.le_of_ble_eq_true rfl) (Nat.le_of_ble_eq_true rfl) dX5_told_43 ⟨rfl, (by unfold zLogTold; (repeat' split) <;> first | rfl | omega)⟩)
        · have c_22n : ¬ gg.toInt ≤ k.toInt := fun q => c_22 ((fa_le _ _).mpr q)
          refine lv_iload_n hx hb dX5_told_26 rfl (lv_at hl 1 rfl) ?_
          refine lv_bipush (v := 8) hx hb dX5_told_27 (by decide) ?_
          refine lv_icmp_ge (tgt := 41) hx hb dX5_told_29 (by decide) (fun c_24 => ?_) (fun c_24 => ?_)
          · have c_24n : (8 : Int) ≤ k.toInt := (fa_le _ _).mp c_24
            refine lv_bipush (v := (-2)) hx hb dX5_told_41 (by decide) ?_
            have hw_25 : bLog T h gg f1 f2 [(h, .inr (5, [.int gg, .ref a1_20, .ref a2_21])), zAr T 0 a1_20 8 f1, zAr T 0 a2_21 8 f2] := ⟨a1_20, a2_21, rfl⟩
            have G : zS T A s.heap s [[(h, .inr (5, [.int gg, .ref a1_20, .ref a2_21])), zAr T 0 a1_20 8 f1, zAr T 0 a2_21 8 f2]] _ _ := G.re rfl
            exact z_back hQ9 (z_iret C hr hlocks G (Nat.le_of_ble_eq_true rfl) (Nat.le_of_ble_eq_true rfl) dX5_told_43 ⟨rfl, (by unfold zLogTold; (repeat' split) <;> first | rfl | omega)⟩)
          · have c_24n : ¬ (8 : Int) ≤ k.toInt := fun q => c_24 ((fa_le _ _).mpr q)
            refine lv_iload_n hx hb dX5_told_32 rfl (lv_at hl 2 rfl) ?_
            refine lv_if_lt (tgt := 41) hx hb dX5_told_33 (by decide) (fun c_26 => ?_) (fun c_26 => ?_)
            · have c_26n : what.toInt < (0 : Int) := (fa_lt _ _).mp c_26
              refine lv_bipush (v := (-2)) hx hb dX5_told_41 (by decide) ?_
              have hw_27 : bLog T h gg f1 f2 [(h, .inr (5, [.int gg, .ref a1_20, .ref a2_21])), zAr T 0 a1_20 8 f1, zAr T 0 a2_21 8 f2] := ⟨a1_20, a2_21, rfl⟩
              have G : zS T A s.heap s [[(h, .inr (5, [.int gg, .ref a1_20, .ref a2_21])), zAr T 0 a1_20 8 f1, zAr T 0 a2_21 8 f2]] _ _ := G.re rfl
              exact z_back hQ9 (z_iret C hr hlocks G (Nat.le_of_ble_eq_true rfl) (Nat.le_of_ble_eq_true rfl) dX5_told_43 ⟨rfl, (by unfold zLogTold; (repeat' split) <;> first | rfl | omega)⟩)
            · have c_26n : ¬ what.toInt < (0 : Int) := fun q => c_26 ((fa_lt _ _).mpr q)
              refine lv_iload_n hx hb dX5_told_36 rfl (lv_at hl 2 rfl) ?_
              refine lv_iconst (v := 1) hx hb dX5_told_37 (by decide) ?_
              refine lv_icmp_le (tgt := 44) hx hb dX5_told_38 (by decide) (fun c_28 => ?_) (fun c_28 => ?_)
              · have c_28n : what.toInt ≤ (1 : Int) := (fa_le _ _).mp c_28
                refine lv_iload_n hx hb dX5_told_44 rfl (lv_at hl 2 rfl) ?_
                refine lv_if_ne (tgt := 57) hx hb dX5_told_45 (by decide) (fun _ => ?_) (fun q => absurd q c_18)
                refine lv_aload_n hx hb dX5_told_57 rfl (lv_at hl 0 rfl) ?_
                refine z_get C G clX5 0 rfl 2 (by decide) m_fl_RX5_15 rfl dX5_told_58 ?_
                refine lv_iload_n hx hb dX5_told_61 rfl (lv_at hl 1 rfl) ?_
                refine z_ild C G 2 rfl (vp_in_iff.mpr ⟨by omega, by omega⟩) dX5_told_62 ?_
                refine lv_topi (fun v_29 ev_29 => ?_)
                subst ev_29
                have hw_30 : bLog T h gg f1 f2 [(h, .inr (5, [.int gg, .ref a1_20, .ref a2_21])), zAr T 0 a1_20 8 f1, zAr T 0 a2_21 8 f2] := ⟨a1_20, a2_21, rfl⟩
                have G : zS T A s.heap s [[(h, .inr (5, [.int gg, .ref a1_20, .ref a2_21])), zAr T 0 a1_20 8 f1, zAr T 0 a2_21 8 f2]] _ _ := G.re rfl
                exact z_back hQ9 (z_iret C hr hlocks G (Nat.le_of_ble_eq_true rfl) (Nat.le_of_ble_eq_true rfl) dX5_told_63 ⟨rfl, (by unfold zLogTold; (repeat' split) <;> first | rfl | omega)⟩)
              · have c_28n : ¬ what.toInt ≤ (1 : Int) := fun q => c_28 ((fa_le _ _).mpr q)
                refine lv_bipush (v := (-2)) hx hb dX5_told_41 (by decide) ?_
                have hw_31 : bLog T h gg f1 f2 [(h, .inr (5, [.int gg, .ref a1_20, .ref a2_21])), zAr T 0 a1_20 8 f1, zAr T 0 a2_21 8 f2] := ⟨a1_20, a2_21, rfl⟩
                have G : zS T A s.heap s [[(h, .inr (5, [.int gg, .ref a1_20, .ref a2_21])), zAr T 0 a1_20 8 f1, zAr T 0 a2_21 8 f2]] _ _ := G.re rfl
                exact z_back hQ9 (z_iret C hr hlocks G (Nat.le_of_ble_eq_true rfl) (Nat.le_of_ble_eq_true rfl) dX5_told_43 ⟨rfl, (by unfold zLogTold; (repeat' split) <;> first | rfl | omega)⟩)
    · have c_18n : what.toInt = (0 : Int) := (fa_eq _ _).mp c_18
      refine lv_aload_n hx hb dX5_told_9 rfl (lv_at hl 0 rfl) ?_
      refine zEx2 hw ?_
      intro a1_32 a2_33 hbs9
      clear hw
      subst hbs9
      have G : zS T A s.heap s [[(h, .inr (5, [.int gg, .ref a1_32, .ref a2_33]))], [zAr T 0 a1_32 8 f1], [zAr T 0 a2_33 8 f2]] _ _ := G.re rfl
      refine z_get C G clX5 0 rfl 0 (by decide) m_fl_RX5_18 rfl dX5_told_10 ?_
      have hw_34 : bLog T h gg f1 f2 [(h, .inr (5, [.int gg, .ref a1_32, .ref a2_33])), zAr T 0 a1_32 8 f1, zAr T 0 a2_33 8 f2] := ⟨a1_32, a2_33, rfl⟩
      have G : zS T A s.heap s [[(h, .inr (5, [.int gg, .ref a1_32, .ref a2_33])), zAr T 0 a1_32 8 f1, zAr T 0 a2_33 8 f2]] _ _ := G.re rfl
      exact z_back hQ9 (z_iret C hr hlocks G (Nat.le_of_ble_eq_true rfl) (Nat.le_of_ble_eq_true rfl) dX5_told_13 ⟨rfl, (by unfold zLogTold; (repeat' split) <;> first | rfl | omega)⟩)
theorem z_updE {g F : Nat → Int32} {i : Nat} {v : Int32} (h : ∀ j, j < i → g j = F j) (hv : v = F i) : ∀ j, j < i + 1 → upd g i v j = F j := by
  intro j hj
  unfold upd
  split
  · rename_i e
    rw [e]
    exact hv
  · exact h j (by omega)
set_option maxHeartbeats 4000000 in
set_option maxRecDepth 100000 in
/-- c_Land_takeAll -/
theorem c_Land_takeAll (l : Launch) (T : zTy) (h : Nat) (o : Nat) (cr : Int32) (inn : Int32) (f1 : Nat → Int32) (f2 : Nat → Int32) (f3 : Nat → Int32) (f4 : Nat → Int32) (ocr : Int32) (oinn : Int32) (of1 : Nat → Int32) (of2 : Nat → Int32) (of3 : Nat → Int32) (of4 : Nat → Int32) (w : va_W) (z : va_W) (hw : bLand T h cr inn f1 f2 f3 f4 w) (hz : bLand T o ocr oinn of1 of2 of3 of4 z) : zMv l T yX4_takeAll cX4_takeAll 3 1 0 0 [.ref h, .ref o] [w, z] (fun bs => ∃ (w2 : va_W) (g1 : Nat → Int32) (g2 : Nat → Int32) (g3 : Nat → Int32) (g4 : Nat → Int32), bs = [w2, z] ∧ bLand T h ocr oinn g1 g2 g3 g4 w2 ∧ (∀ j, j < 7 → g1 j = of1 j) ∧ (∀ j, j < 28 → g2 j = of2 j) ∧ (∀ j, j < 7 → g3 j = of3 j) ∧ (∀ j, j < 7 → g4 j = of4 j)) := by
  refine zMv_of (own := RX4) (by decide) rfl (Nat.le_of_ble_eq_true rfl) ?_
  intro p e s m args below meth c A ls C hr hlocks hnm hAe G hl
  refine zHide (fun Q9 hQ9 => ?_)
  have hx := C.1
  have hb := C.2.1
  have hl : lv_has ls 3 [(0, .ref h), (1, .ref o)] := hl
  refine lv_aload_n hx hb dX4_takeAll_0 rfl (lv_at hl 0 rfl) ?_
  refine lv_aload_n hx hb dX4_takeAll_1 rfl (lv_at hl 1 rfl) ?_
  refine zEx4 hz ?_
  intro a1_1 a2_2 a3_3 a4_4 hbs9
  clear hz
  subst hbs9
  have G : zS T A s.heap s [w, [zO4 o ocr oinn a1_1 a2_2 a3_3 a4_4], [zAr T 0 a1_1 7 of1], [zAr T 0 a2_2 28 of2], [zAr T 0 a3_3 7 of3], [zAr T 0 a4_4 7 of4]] _ _ := G.re rfl
  refine z_get C G clX4 1 rfl 0 (by decide) m_fl_RX4_24 rfl dX4_takeAll_2 ?_
  refine zEx4 hw ?_
  intro a1_5 a2_6 a3_7 a4_8 hbs9
  clear hw
  subst hbs9
  have G : zS T A s.heap s [[zO4 h cr inn a1_5 a2_6 a3_7 a4_8], [zAr T 0 a1_5 7 f1], [zAr T 0 a2_6 28 f2], [zAr T 0 a3_7 7 f3], [zAr T 0 a4_8 7 f4], [zO4 o ocr oinn a1_1 a2_2 a3_3 a4_4], [zAr T 0 a1_1 7 of1], [zAr T 0 a2_2 28 of2], [zAr T 0 a3_3 7 of3], [zAr T 0 a4_4 7 of4]] _ _ := G.re rfl
  refine z_put C G clX4 0 rfl 0 (by decide) m_fl_RX4_24 rfl rfl rfl (Nat.le_of_ble_eq_true rfl) dX4_takeAll_5 (fun H locs G => ?_)
  have G : zS T A s.heap s [[zO4 h ocr inn a1_5 a2_6 a3_7 a4_8], [zAr T 0 a1_5 7 f1], [zAr T 0 a2_6 28 f2], [zAr T 0 a3_7 7 f3], [zAr T 0 a4_8 7 f4], [zO4 o ocr oinn a1_1 a2_2 a3_3 a4_4], [zAr T 0 a1_1 7 of1], [zAr T 0 a2_2 28 of2], [zAr T 0 a3_3 7 of3], [zAr T 0 a4_4 7 of4]] _ _ := G
  refine lv_aload_n hx hb dX4_takeAll_8 rfl (lv_at hl 0 rfl) ?_
  refine lv_aload_n hx hb dX4_takeAll_9 rfl (lv_at hl 1 rfl) ?_
  refine z_get C G clX4 5 rfl 1 (by decide) m_fl_RX4_28 rfl dX4_takeAll_10 ?_
  refine z_put C G clX4 0 rfl 1 (by decide) m_fl_RX4_28 rfl rfl rfl (Nat.le_of_ble_eq_true rfl) dX4_takeAll_13 (fun H locs G => ?_)
  have G : zS T A s.heap s [[zO4 h ocr oinn a1_5 a2_6 a3_7 a4_8], [zAr T 0 a1_5 7 f1], [zAr T 0 a2_6 28 f2], [zAr T 0 a3_7 7 f3], [zAr T 0 a4_8 7 f4], [zO4 o ocr oinn a1_1 a2_2 a3_3 a4_4], [zAr T 0 a1_1 7 of1], [zAr T 0 a2_2 28 of2], [zAr T 0 a3_3 7 of3], [zAr T 0 a4_4 7 of4]] _ _ := G
  refine lv_iconst (v := 0) hx hb dX4_takeAll_16 (by decide) ?_
  refine lv_istore_n (lv' := [(2, .int 0), (0, .ref h), (1, .ref o)]) hx hb dX4_takeAll_17 rfl hl (by decide) rfl (fun ls hl => ?_)
  have hw_9 : bLand T o ocr oinn of1 of2 of3 of4 [zO4 o ocr oinn a1_1 a2_2 a3_3 a4_4, zAr T 0 a1_1 7 of1, zAr T 0 a2_2 28 of2, zAr T 0 a3_3 7 of3, zAr T 0 a4_4 7 of4] := ⟨a1_1, a2_2, a3_3, a4_4, rfl⟩
  have G : zS T A s.heap s [[zO4 h ocr oinn a1_5 a2_6 a3_7 a4_8], [zAr T 0 a1_5 7 f1], [zAr T 0 a2_6 28 f2], [zAr T 0 a3_7 7 f3], [zAr T 0 a4_8 7 f4], [zO4 o ocr oinn a1_1 a2_2 a3_3 a4_4, zAr T 0 a1_1 7 of1, zAr T 0 a2_2 28 of2, zAr T 0 a3_3 7 of3, zAr T 0 a4_4 7 of4]] _ _ := G.re rfl
  have hw_10 : bLand T h ocr oinn f1 f2 f3 f4 [zO4 h ocr oinn a1_5 a2_6 a3_7 a4_8, zAr T 0 a1_5 7 f1, zAr T 0 a2_6 28 f2, zAr T 0 a3_7 7 f3, zAr T 0 a4_8 7 f4] := ⟨a1_5, a2_6, a3_7, a4_8, rfl⟩
  have G : zS T A s.heap s [[zO4 h ocr oinn a1_5 a2_6 a3_7 a4_8, zAr T 0 a1_5 7 f1, zAr T 0 a2_6 28 f2, zAr T 0 a3_7 7 f3, zAr T 0 a4_8 7 f4], [zO4 o ocr oinn a1_1 a2_2 a3_3 a4_4, zAr T 0 a1_1 7 of1, zAr T 0 a2_2 28 of2, zAr T 0 a3_3 7 of3, zAr T 0 a4_4 7 of4]] _ _ := G.re rfl
  refine z_lp5 (T := T) 18 (fun (i18 : Nat) (w_18 : va_W) (x18_0 : Nat → Int32) (x18_2 : Nat → Int32) (x18_3 : Nat → Int32) => [w_18, [zO4 o ocr oinn a1_1 a2_2 a3_3 a4_4, zAr T 0 a1_1 7 of1, zAr T 0 a2_2 28 of2, zAr T 0 a3_3 7 of3, zAr T 0 a4_4 7 of4]]) (fun (i18 : Nat) (w_18 : va_W) (x18_0 : Nat → Int32) (x18_2 : Nat → Int32) (x18_3 : Nat → Int32) => [(2, .int (nI i18)), (0, .ref h), (1, .ref o)]) (fun (i18 : Nat) (w_18 : va_W) (x18_0 : Nat → Int32) (x18_2 : Nat → Int32) (x18_3 : Nat → Int32) => bLand T h ocr oinn x18_0 f2 x18_2 x18_3 w_18 ∧ i18 ≤ 7 ∧ (∀ j, j < i18 → x18_0 j = of1 j) ∧ (∀ j, j < i18 → x18_2 j = of3 j) ∧ (∀ j, j < i18 → x18_3 j = of4 j)) (fun (i18 : Nat) (w_18 : va_W) (x18_0 : Nat → Int32) (x18_2 : Nat → Int32) (x18_3 : Nat → Int32) => 7 - i18) ?_ 0 ([zO4 h ocr oinn a1_5 a2_6 a3_7 a4_8, zAr T 0 a1_5 7 f1, zAr T 0 a2_6 28 f2, zAr T 0 a3_7 7 f3, zAr T 0 a4_8 7 f4]) f1 f3 f4 (show bLand T h ocr oinn f1 f2 f3 f4 ([zO4 h ocr oinn a1_5 a2_6 a3_7 a4_8, zAr T 0 a1_5 7 f1, zAr T 0 a2_6 28 f2, zAr T 0 a3_7 7 f3, zAr T 0 a4_8 7 f4]) ∧ 0 ≤ 7 ∧ (∀ j, j < 0 → f1 j = of1 j) ∧ (∀ j, j < 0 → f3 j = of3 j) ∧ (∀ j, j < 0 → f4 j = of4 j) from ⟨hw_10, by omega, fun j hj => absurd hj (by omega), fun j hj => absurd hj (by omega), fun j hj => absurd hj (by omega)⟩) G (lv_sub hl [0, 1, 2] rfl)
  intro i18 w_18 x18_0 x18_2 x18_3 hI9 ih_18 H locs ls G hl
  replace hI9 : bLand T h ocr oinn x18_0 f2 x18_2 x18_3 w_18 ∧ i18 ≤ 7 ∧ (∀ j, j < i18 → x18_0 j = of1 j) ∧ (∀ j, j < i18 → x18_2 j = of3 j) ∧ (∀ j, j < i18 → x18_3 j = of4 j) := hI9
  refine zAn5 hI9 ?_
  intro hw_18 hi18 hx18_0 hx18_2 hx18_3
  clear hI9
  replace G : zS T A s.heap s [w_18, [zO4 o ocr oinn a1_1 a2_2 a3_3 a4_4, zAr T 0 a1_1 7 of1, zAr T 0 a2_2 28 of2, zAr T 0 a3_3 7 of3, zAr T 0 a4_4 7 of4]] _ _ := G
  replace hl : lv_has ls 3 [(2, .int (nI i18)), (0, .ref h), (1, .ref o)] := hl
  refine lv_iload_n hx hb dX4_takeAll_18 rfl (lv_at hl 0 rfl) ?_
  refine lv_bipush (v := 7) hx hb dX4_takeAll_19 (by decide) ?_
  refine lv_icmp_ge (tgt := 66) hx hb dX4_takeAll_21 (by decide) (fun c_11 => ?_) (fun c_11 => ?_)
  · have c_11n : 7 ≤ i18 := (nI_leI (a := 7) (b := i18) (by omega) (by omega)).mp c_11
    refine lv_iconst (v := 0) hx hb dX4_takeAll_66 (by decide) ?_
    refine lv_istore_n (lv' := [(2, .int 0), (0, .ref h), (1, .ref o)]) hx hb dX4_takeAll_67 rfl hl (by decide) rfl (fun ls hl => ?_)
    refine zEx4 hw_18 ?_
    intro a1_12 a2_13 a3_14 a4_15 hbs9
    clear hw_18
    subst hbs9
    have G : zS T A s.heap s [[zO4 h ocr oinn a1_12 a2_13 a3_14 a4_15], [zAr T 0 a1_12 7 x18_0], [zAr T 0 a2_13 28 f2], [zAr T 0 a3_14 7 x18_2], [zAr T 0 a4_15 7 x18_3], [zO4 o ocr oinn a1_1 a2_2 a3_3 a4_4, zAr T 0 a1_1 7 of1, zAr T 0 a2_2 28 of2, zAr T 0 a3_3 7 of3, zAr T 0 a4_4 7 of4]] _ _ := G.re rfl
    have G : zS T A s.heap s [[zO4 h ocr oinn a1_12 a2_13 a3_14 a4_15], [zAr T 0 a1_12 7 x18_0], [zAr T 0 a2_13 28 f2], [zAr T 0 a3_14 7 x18_2], [zAr T 0 a4_15 7 x18_3], [zO4 o ocr oinn a1_1 a2_2 a3_3 a4_4], [zAr T 0 a1_1 7 of1], [zAr T 0 a2_2 28 of2], [zAr T 0 a3_3 7 of3], [zAr T 0 a4_4 7 of4]] _ _ := G.re rfl
    have hw_16 : bLand T o ocr oinn of1 of2 of3 of4 [zO4 o ocr oinn a1_1 a2_2 a3_3 a4_4, zAr T 0 a1_1 7 of1, zAr T 0 a2_2 28 of2, zAr T 0 a3_3 7 of3, zAr T 0 a4_4 7 of4] := ⟨a1_1, a2_2, a3_3, a4_4, rfl⟩
    have G : zS T A s.heap s [[zO4 h ocr oinn a1_12 a2_13 a3_14 a4_15], [zAr T 0 a1_12 7 x18_0], [zAr T 0 a2_13 28 f2], [zAr T 0 a3_14 7 x18_2], [zAr T 0 a4_15 7 x18_3], [zO4 o ocr oinn a1_1 a2_2 a3_3 a4_4, zAr T 0 a1_1 7 of1, zAr T 0 a2_2 28 of2, zAr T 0 a3_3 7 of3, zAr T 0 a4_4 7 of4]] _ _ := G.re rfl
    have hw_17 : bLand T h ocr oinn x18_0 f2 x18_2 x18_3 [zO4 h ocr oinn a1_12 a2_13 a3_14 a4_15, zAr T 0 a1_12 7 x18_0, zAr T 0 a2_13 28 f2, zAr T 0 a3_14 7 x18_2, zAr T 0 a4_15 7 x18_3] := ⟨a1_12, a2_13, a3_14, a4_15, rfl⟩
    have G : zS T A s.heap s [[zO4 h ocr oinn a1_12 a2_13 a3_14 a4_15, zAr T 0 a1_12 7 x18_0, zAr T 0 a2_13 28 f2, zAr T 0 a3_14 7 x18_2, zAr T 0 a4_15 7 x18_3], [zO4 o ocr oinn a1_1 a2_2 a3_3 a4_4, zAr T 0 a1_1 7 of1, zAr T 0 a2_2 28 of2, zAr T 0 a3_3 7 of3, zAr T 0 a4_4 7 of4]] _ _ := G.re rfl
    refine z_lp3 (T := T) 68 (fun (i68 : Nat) (w_68 : va_W) (x68_1 : Nat → Int32) => [w_68, [zO4 o ocr oinn a1_1 a2_2 a3_3 a4_4, zAr T 0 a1_1 7 of1, zAr T 0 a2_2 28 of2, zAr T 0 a3_3 7 of3, zAr T 0 a4_4 7 of4]]) (fun (i68 : Nat) (w_68 : va_W) (x68_1 : Nat → Int32) => [(2, .int (nI i68)), (0, .ref h), (1, .ref o)]) (fun (i68 : Nat) (w_68 : va_W) (x68_1 : Nat → Int32) => bLand T h ocr oinn x18_0 x68_1 x18_2 x18_3 w_68 ∧ i68 ≤ 28 ∧ (∀ j, j < i68 → x68_1 j = of2 j)) (fun (i68 : Nat) (w_68 : va_W) (x68_1 : Nat → Int32) => 28 - i68) ?_ 0 ([zO4 h ocr oinn a1_12 a2_13 a3_14 a4_15, zAr T 0 a1_12 7 x18_0, zAr T 0 a2_13 28 f2, zAr T 0 a3_14 7 x18_2, zAr T 0 a4_15 7 x18_3]) f2 (show bLand T h ocr oinn x18_0 f2 x18_2 x18_3 ([zO4 h ocr oinn a1_12 a2_13 a3_14 a4_15, zAr T 0 a1_12 7 x18_0, zAr T 0 a2_13 28 f2, zAr T 0 a3_14 7 x18_2, zAr T 0 a4_15 7 x18_3]) ∧ 0 ≤ 28 ∧ (∀ j, j < 0 → f2 j = of2 j) from ⟨hw_17, by omega, fun j hj => absurd hj (by omega)⟩) G (lv_sub hl [0, 1, 2] rfl)
    intro i68 w_68 x68_1 hI9 ih_68 H locs ls G hl
    replace hI9 : bLand T h ocr oinn x18_0 x68_1 x18_2 x18_3 w_68 ∧ i68 ≤ 28 ∧ (∀ j, j < i68 → x68_1 j = of2 j) := hI9
    refine zAn3 hI9 ?_
    intro hw_68 hi68 hx68_1
    clear hI9
    replace G : zS T A s.heap s [w_68, [zO4 o ocr oinn a1_1 a2_2 a3_3 a4_4, zAr T 0 a1_1 7 of1, zAr T 0 a2_2 28 of2, zAr T 0 a3_3 7 of3, zAr T 0 a4_4 7 of4]] _ _ := G
    replace hl : lv_has ls 3 [(2, .int (nI i68)), (0, .ref h), (1, .ref o)] := hl
    refine lv_iload_n hx hb dX4_takeAll_68 rfl (lv_at hl 0 rfl) ?_
    refine lv_bipush (v := 28) hx hb dX4_takeAll_69 (by decide) ?_
    refine lv_icmp_ge (tgt := 92) hx hb dX4_takeAll_71 (by decide) (fun c_18 => ?_) (fun c_18 => ?_)
    · have c_18n : 28 ≤ i68 := (nI_leI (a := 28) (b := i68) (by omega) (by omega)).mp c_18
      exact z_back hQ9 (z_vret C hr hlocks G (Nat.le_of_ble_eq_true rfl) (Nat.le_of_ble_eq_true rfl) dX4_takeAll_92 ⟨w_68, x18_0, x68_1, x18_2, x18_3, rfl, hw_68, (fun j hj => hx18_0 j (by omega)), (fun j hj => hx68_1 j (by omega)), (fun j hj => hx18_2 j (by omega)), (fun j hj => hx18_3 j (by omega))⟩)
    · have c_18n : ¬ 28 ≤ i68 := fun q => c_18 ((nI_leI (a := 28) (b := i68) (by omega) (by omega)).mpr q)
      refine lv_aload_n hx hb dX4_takeAll_74 rfl (lv_at hl 1 rfl) ?_
      refine zEx4 hw_68 ?_
      intro a1_19 a2_20 a3_21 a4_22 hbs9
      clear hw_68
      subst hbs9
      have G : zS T A s.heap s [[zO4 h ocr oinn a1_19 a2_20 a3_21 a4_22], [zAr T 0 a1_19 7 x18_0], [zAr T 0 a2_20 28 x68_1], [zAr T 0 a3_21 7 x18_2], [zAr T 0 a4_22 7 x18_3], [zO4 o ocr oinn a1_1 a2_2 a3_3 a4_4, zAr T 0 a1_1 7 of1, zAr T 0 a2_2 28 of2, zAr T 0 a3_3 7 of3, zAr T 0 a4_4 7 of4]] _ _ := G.re rfl
      refine z_get C G clX4 0 rfl 3 (by decide) m_fl_RX4_15 rfl dX4_takeAll_75 ?_
      refine lv_iload_n hx hb dX4_takeAll_78 rfl (lv_at hl 0 rfl) ?_
      refine lv_aload_n hx hb dX4_takeAll_79 rfl (lv_at hl 2 rfl) ?_
      have G : zS T A s.heap s [[zO4 h ocr oinn a1_19 a2_20 a3_21 a4_22], [zAr T 0 a1_19 7 x18_0], [zAr T 0 a2_20 28 x68_1], [zAr T 0 a3_21 7 x18_2], [zAr T 0 a4_22 7 x18_3], [zO4 o ocr oinn a1_1 a2_2 a3_3 a4_4], [zAr T 0 a1_1 7 of1], [zAr T 0 a2_2 28 of2], [zAr T 0 a3_3 7 of3], [zAr T 0 a4_4 7 of4]] _ _ := G.re rfl
      refine z_get C G clX4 5 rfl 3 (by decide) m_fl_RX4_15 rfl dX4_takeAll_80 ?_
      refine lv_iload_n hx hb dX4_takeAll_83 rfl (lv_at hl 0 rfl) ?_
      refine z_ild C G 7 rfl (vp_in_nI (by omega) (by omega)) dX4_takeAll_84 ?_
      refine lv_topi (fun v_23 ev_23 => ?_)
      rw [nI_clamp (by omega)] at ev_23
      subst ev_23
      refine z_ist C G 2 rfl (vp_in_nI (by omega) (by omega)) dX4_takeAll_85 (fun H locs G => ?_)
      rw [nI_clamp (by omega)] at G
      have G : zS T A s.heap s [[zO4 h ocr oinn a1_19 a2_20 a3_21 a4_22], [zAr T 0 a1_19 7 x18_0], [zAr T 0 a2_20 28 (upd x68_1 i68 (of2 i68))], [zAr T 0 a3_21 7 x18_2], [zAr T 0 a4_22 7 x18_3], [zO4 o ocr oinn a1_1 a2_2 a3_3 a4_4], [zAr T 0 a1_1 7 of1], [zAr T 0 a2_2 28 of2], [zAr T 0 a3_3 7 of3], [zAr T 0 a4_4 7 of4]] _ _ := G
      refine lv_iinc (v := nI (i68 + 1)) (lv' := [(2, .int (nI (i68 + 1))), (0, .ref h), (1, .ref o)]) hx hb dX4_takeAll_86 hl (k := 0) rfl (z_inc i68 1) (by decide) rfl (fun ls hl => ?_)
      refine lv_goto (tgt := 68) hx hb dX4_takeAll_89 (by decide) ?_
      have hw_24 : bLand T o ocr oinn of1 of2 of3 of4 [zO4 o ocr oinn a1_1 a2_2 a3_3 a4_4, zAr T 0 a1_1 7 of1, zAr T 0 a2_2 28 of2, zAr T 0 a3_3 7 of3, zAr T 0 a4_4 7 of4] := ⟨a1_1, a2_2, a3_3, a4_4, rfl⟩
      have G : zS T A s.heap s [[zO4 h ocr oinn a1_19 a2_20 a3_21 a4_22], [zAr T 0 a1_19 7 x18_0], [zAr T 0 a2_20 28 (upd x68_1 i68 (of2 i68))], [zAr T 0 a3_21 7 x18_2], [zAr T 0 a4_22 7 x18_3], [zO4 o ocr oinn a1_1 a2_2 a3_3 a4_4, zAr T 0 a1_1 7 of1, zAr T 0 a2_2 28 of2, zAr T 0 a3_3 7 of3, zAr T 0 a4_4 7 of4]] _ _ := G.re rfl
      have hw_25 : bLand T h ocr oinn x18_0 (upd x68_1 i68 (of2 i68)) x18_2 x18_3 [zO4 h ocr oinn a1_19 a2_20 a3_21 a4_22, zAr T 0 a1_19 7 x18_0, zAr T 0 a2_20 28 (upd x68_1 i68 (of2 i68)), zAr T 0 a3_21 7 x18_2, zAr T 0 a4_22 7 x18_3] := ⟨a1_19, a2_20, a3_21, a4_22, rfl⟩
      have G : zS T A s.heap s [[zO4 h ocr oinn a1_19 a2_20 a3_21 a4_22, zAr T 0 a1_19 7 x18_0, zAr T 0 a2_20 28 (upd x68_1 i68 (of2 i68)), zAr T 0 a3_21 7 x18_2, zAr T 0 a4_22 7 x18_3], [zO4 o ocr oinn a1_1 a2_2 a3_3 a4_4, zAr T 0 a1_1 7 of1, zAr T 0 a2_2 28 of2, zAr T 0 a3_3 7 of3, zAr T 0 a4_4 7 of4]] _ _ := G.re rfl
      exact ih_68 (i68 + 1) ([zO4 h ocr oinn a1_19 a2_20 a3_21 a4_22, zAr T 0 a1_19 7 x18_0, zAr T 0 a2_20 28 (upd x68_1 i68 (of2 i68)), zAr T 0 a3_21 7 x18_2, zAr T 0 a4_22 7 x18_3]) (upd x68_1 i68 (of2 i68)) (show bLand T h ocr oinn x18_0 (upd x68_1 i68 (of2 i68)) x18_2 x18_3 ([zO4 h ocr oinn a1_19 a2_20 a3_21 a4_22, zAr T 0 a1_19 7 x18_0, zAr T 0 a2_20 28 (upd x68_1 i68 (of2 i68)), zAr T 0 a3_21 7 x18_2, zAr T 0 a4_22 7 x18_3]) ∧ (i68 + 1) ≤ 28 ∧ (∀ j, j < (i68 + 1) → (upd x68_1 i68 (of2 i68)) j = of2 j) from ⟨hw_25, by omega, z_updE hx68_1 rfl⟩) (show 28 - (i68 + 1) < 28 - i68 from by omega) _ _ ls G (lv_sub hl [0, 1, 2] rfl)
  · have c_11n : ¬ 7 ≤ i18 := fun q => c_11 ((nI_leI (a := 7) (b := i18) (by omega) (by omega)).mpr q)
    refine lv_aload_n hx hb dX4_takeAll_24 rfl (lv_at hl 1 rfl) ?_
    refine zEx4 hw_18 ?_
    intro a1_26 a2_27 a3_28 a4_29 hbs9
    clear hw_18
    subst hbs9
    have G : zS T A s.heap s [[zO4 h ocr oinn a1_26 a2_27 a3_28 a4_29], [zAr T 0 a1_26 7 x18_0], [zAr T 0 a2_27 28 f2], [zAr T 0 a3_28 7 x18_2], [zAr T 0 a4_29 7 x18_3], [zO4 o ocr oinn a1_1 a2_2 a3_3 a4_4, zAr T 0 a1_1 7 of1, zAr T 0 a2_2 28 of2, zAr T 0 a3_3 7 of3, zAr T 0 a4_4 7 of4]] _ _ := G.re rfl
    refine z_get C G clX4 0 rfl 2 (by decide) m_fl_RX4_9 rfl dX4_takeAll_25 ?_
    refine lv_iload_n hx hb dX4_takeAll_28 rfl (lv_at hl 0 rfl) ?_
    refine lv_aload_n hx hb dX4_takeAll_29 rfl (lv_at hl 2 rfl) ?_
    have G : zS T A s.heap s [[zO4 h ocr oinn a1_26 a2_27 a3_28 a4_29], [zAr T 0 a1_26 7 x18_0], [zAr T 0 a2_27 28 f2], [zAr T 0 a3_28 7 x18_2], [zAr T 0 a4_29 7 x18_3], [zO4 o ocr oinn a1_1 a2_2 a3_3 a4_4], [zAr T 0 a1_1 7 of1], [zAr T 0 a2_2 28 of2], [zAr T 0 a3_3 7 of3], [zAr T 0 a4_4 7 of4]] _ _ := G.re rfl
    refine z_get C G clX4 5 rfl 2 (by decide) m_fl_RX4_9 rfl dX4_takeAll_30 ?_
    refine lv_iload_n hx hb dX4_takeAll_33 rfl (lv_at hl 0 rfl) ?_
    refine z_ild C G 6 rfl (vp_in_nI (by omega) (by omega)) dX4_takeAll_34 ?_
    refine lv_topi (fun v_30 ev_30 => ?_)
    rw [nI_clamp (by omega)] at ev_30
    subst ev_30
    refine z_ist C G 1 rfl (vp_in_nI (by omega) (by omega)) dX4_takeAll_35 (fun H locs G => ?_)
    rw [nI_clamp (by omega)] at G
    have G : zS T A s.heap s [[zO4 h ocr oinn a1_26 a2_27 a3_28 a4_29], [zAr T 0 a1_26 7 (upd x18_0 i18 (of1 i18))], [zAr T 0 a2_27 28 f2], [zAr T 0 a3_28 7 x18_2], [zAr T 0 a4_29 7 x18_3], [zO4 o ocr oinn a1_1 a2_2 a3_3 a4_4], [zAr T 0 a1_1 7 of1], [zAr T 0 a2_2 28 of2], [zAr T 0 a3_3 7 of3], [zAr T 0 a4_4 7 of4]] _ _ := G
    refine lv_aload_n hx hb dX4_takeAll_36 rfl (lv_at hl 1 rfl) ?_
    refine z_get C G clX4 0 rfl 4 (by decide) m_fl_RX4_18 rfl dX4_takeAll_37 ?_
    refine lv_iload_n hx hb dX4_takeAll_40 rfl (lv_at hl 0 rfl) ?_
    refine lv_aload_n hx hb dX4_takeAll_41 rfl (lv_at hl 2 rfl) ?_
    refine z_get C G clX4 5 rfl 4 (by decide) m_fl_RX4_18 rfl dX4_takeAll_42 ?_
    refine lv_iload_n hx hb dX4_takeAll_45 rfl (lv_at hl 0 rfl) ?_
    refine z_ild C G 8 rfl (vp_in_nI (by omega) (by omega)) dX4_takeAll_46 ?_
    refine lv_topi (fun v_31 ev_31 => ?_)
    rw [nI_clamp (by omega)] at ev_31
    subst ev_31
    refine z_ist C G 3 rfl (vp_in_nI (by omega) (by omega)) dX4_takeAll_47 (fun H locs G => ?_)
    rw [nI_clamp (by omega)] at G
    have G : zS T A s.heap s [[zO4 h ocr oinn a1_26 a2_27 a3_28 a4_29], [zAr T 0 a1_26 7 (upd x18_0 i18 (of1 i18))], [zAr T 0 a2_27 28 f2], [zAr T 0 a3_28 7 (upd x18_2 i18 (of3 i18))], [zAr T 0 a4_29 7 x18_3], [zO4 o ocr oinn a1_1 a2_2 a3_3 a4_4], [zAr T 0 a1_1 7 of1], [zAr T 0 a2_2 28 of2], [zAr T 0 a3_3 7 of3], [zAr T 0 a4_4 7 of4]] _ _ := G
    refine lv_aload_n hx hb dX4_takeAll_48 rfl (lv_at hl 1 rfl) ?_
    refine z_get C G clX4 0 rfl 5 (by decide) m_fl_RX4_21 rfl dX4_takeAll_49 ?_
    refine lv_iload_n hx hb dX4_takeAll_52 rfl (lv_at hl 0 rfl) ?_
    refine lv_aload_n hx hb dX4_takeAll_53 rfl (lv_at hl 2 rfl) ?_
    refine z_get C G clX4 5 rfl 5 (by decide) m_fl_RX4_21 rfl dX4_takeAll_54 ?_
    refine lv_iload_n hx hb dX4_takeAll_57 rfl (lv_at hl 0 rfl) ?_
    refine z_ild C G 9 rfl (vp_in_nI (by omega) (by omega)) dX4_takeAll_58 ?_
    refine lv_topi (fun v_32 ev_32 => ?_)
    rw [nI_clamp (by omega)] at ev_32
    subst ev_32
    refine z_ist C G 4 rfl (vp_in_nI (by omega) (by omega)) dX4_takeAll_59 (fun H locs G => ?_)
    rw [nI_clamp (by omega)] at G
    have G : zS T A s.heap s [[zO4 h ocr oinn a1_26 a2_27 a3_28 a4_29], [zAr T 0 a1_26 7 (upd x18_0 i18 (of1 i18))], [zAr T 0 a2_27 28 f2], [zAr T 0 a3_28 7 (upd x18_2 i18 (of3 i18))], [zAr T 0 a4_29 7 (upd x18_3 i18 (of4 i18))], [zO4 o ocr oinn a1_1 a2_2 a3_3 a4_4], [zAr T 0 a1_1 7 of1], [zAr T 0 a2_2 28 of2], [zAr T 0 a3_3 7 of3], [zAr T 0 a4_4 7 of4]] _ _ := G
    refine lv_iinc (v := nI (i18 + 1)) (lv' := [(2, .int (nI (i18 + 1))), (0, .ref h), (1, .ref o)]) hx hb dX4_takeAll_60 hl (k := 0) rfl (z_inc i18 1) (by decide) rfl (fun ls hl => ?_)
    refine lv_goto (tgt := 18) hx hb dX4_takeAll_63 (by decide) ?_
    have hw_33 : bLand T o ocr oinn of1 of2 of3 of4 [zO4 o ocr oinn a1_1 a2_2 a3_3 a4_4, zAr T 0 a1_1 7 of1, zAr T 0 a2_2 28 of2, zAr T 0 a3_3 7 of3, zAr T 0 a4_4 7 of4] := ⟨a1_1, a2_2, a3_3, a4_4, rfl⟩
    have G : zS T A s.heap s [[zO4 h ocr oinn a1_26 a2_27 a3_28 a4_29], [zAr T 0 a1_26 7 (upd x18_0 i18 (of1 i18))], [zAr T 0 a2_27 28 f2], [zAr T 0 a3_28 7 (upd x18_2 i18 (of3 i18))], [zAr T 0 a4_29 7 (upd x18_3 i18 (of4 i18))], [zO4 o ocr oinn a1_1 a2_2 a3_3 a4_4, zAr T 0 a1_1 7 of1, zAr T 0 a2_2 28 of2, zAr T 0 a3_3 7 of3, zAr T 0 a4_4 7 of4]] _ _ := G.re rfl
    have hw_34 : bLand T h ocr oinn (upd x18_0 i18 (of1 i18)) f2 (upd x18_2 i18 (of3 i18)) (upd x18_3 i18 (of4 i18)) [zO4 h ocr oinn a1_26 a2_27 a3_28 a4_29, zAr T 0 a1_26 7 (upd x18_0 i18 (of1 i18)), zAr T 0 a2_27 28 f2, zAr T 0 a3_28 7 (upd x18_2 i18 (of3 i18)), zAr T 0 a4_29 7 (upd x18_3 i18 (of4 i18))] := ⟨a1_26, a2_27, a3_28, a4_29, rfl⟩
    have G : zS T A s.heap s [[zO4 h ocr oinn a1_26 a2_27 a3_28 a4_29, zAr T 0 a1_26 7 (upd x18_0 i18 (of1 i18)), zAr T 0 a2_27 28 f2, zAr T 0 a3_28 7 (upd x18_2 i18 (of3 i18)), zAr T 0 a4_29 7 (upd x18_3 i18 (of4 i18))], [zO4 o ocr oinn a1_1 a2_2 a3_3 a4_4, zAr T 0 a1_1 7 of1, zAr T 0 a2_2 28 of2, zAr T 0 a3_3 7 of3, zAr T 0 a4_4 7 of4]] _ _ := G.re rfl
    exact ih_18 (i18 + 1) ([zO4 h ocr oinn a1_26 a2_27 a3_28 a4_29, zAr T 0 a1_26 7 (upd x18_0 i18 (of1 i18)), zAr T 0 a2_27 28 f2, zAr T 0 a3_28 7 (upd x18_2 i18 (of3 i18)), zAr T 0 a4_29 7 (upd x18_3 i18 (of4 i18))]) (upd x18_0 i18 (of1 i18)) (upd x18_2 i18 (of3 i18)) (upd x18_3 i18 (of4 i18)) (show bLand T h ocr oinn (upd x18_0 i18 (of1 i18)) f2 (upd x18_2 i18 (of3 i18)) (upd x18_3 i18 (of4 i18)) ([zO4 h ocr oinn a1_26 a2_27 a3_28 a4_29, zAr T 0 a1_26 7 (upd x18_0 i18 (of1 i18)), zAr T 0 a2_27 28 f2, zAr T 0 a3_28 7 (upd x18_2 i18 (of3 i18)), zAr T 0 a4_29 7 (upd x18_3 i18 (of4 i18))]) ∧ (i18 + 1) ≤ 7 ∧ (∀ j, j < (i18 + 1) → (upd x18_0 i18 (of1 i18)) j = of1 j) ∧ (∀ j, j < (i18 + 1) → (upd x18_2 i18 (of3 i18)) j = of3 j) ∧ (∀ j, j < (i18 + 1) → (upd x18_3 i18 (of4 i18)) j = of4 j) from ⟨hw_34, by omega, z_updE hx18_0 rfl, z_updE hx18_2 rfl, z_updE hx18_3 rfl⟩) (show 7 - (i18 + 1) < 7 - i18 from by omega) _ _ ls G (lv_sub hl [0, 1, 2] rfl)
set_option maxHeartbeats 4000000 in
set_option maxRecDepth 100000 in
/-- c_Day_takeAll -/
theorem c_Day_takeAll (l : Launch) (T : zTy) (h : Nat) (o : Nat) (dd : Int32) (f1 : Nat → Int32) (f2 : Nat → Int32) (f3 : Nat → Int32) (odd : Int32) (of1 : Nat → Int32) (of2 : Nat → Int32) (of3 : Nat → Int32) (w : va_W) (z : va_W) (hw : bDay T h dd f1 f2 f3 w) (hz : bDay T o odd of1 of2 of3 z) : zMv l T yX2_takeAll cX2_takeAll 3 1 0 0 [.ref h, .ref o] [w, z] (fun bs => ∃ (w2 : va_W) (g1 : Nat → Int32) (g2 : Nat → Int32) (g3 : Nat → Int32), bs = [w2, z] ∧ bDay T h odd g1 g2 g3 w2 ∧ (∀ j, j < 40 → g1 j = of1 j) ∧ (∀ j, j < 40 → g2 j = of2 j) ∧ (∀ j, j < 40 → g3 j = of3 j)) := by
  refine zMv_of (own := RX2) (by decide) rfl (Nat.le_of_ble_eq_true rfl) ?_
  intro p e s m args below meth c A ls C hr hlocks hnm hAe G hl
  refine zHide (fun Q9 hQ9 => ?_)
  have hx := C.1
  have hb := C.2.1
  have hl : lv_has ls 3 [(0, .ref h), (1, .ref o)] := hl
  refine lv_aload_n hx hb dX2_takeAll_0 rfl (lv_at hl 0 rfl) ?_
  refine lv_aload_n hx hb dX2_takeAll_1 rfl (lv_at hl 1 rfl) ?_
  refine zEx3 hz ?_
  intro a1_1 a2_2 a3_3 hbs9
  clear hz
  subst hbs9
  have G : zS T A s.heap s [w, [(o, .inr (2, [.int odd, .ref a1_1, .ref a2_2, .ref a3_3]))], [zAr T 0 a1_1 40 of1], [zAr T 0 a2_2 40 of2], [zAr T 0 a3_3 40 of3]] _ _ := G.re rfl
  refine z_get C G clX2 1 rfl 0 (by decide) m_fl_RX2_21 rfl dX2_takeAll_2 ?_
  refine zEx3 hw ?_
  intro a1_4 a2_5 a3_6 hbs9
  clear hw
  subst hbs9
  have G : zS T A s.heap s [[(h, .inr (2, [.int dd, .ref a1_4, .ref a2_5, .ref a3_6]))], [zAr T 0 a1_4 40 f1], [zAr T 0 a2_5 40 f2], [zAr T 0 a3_6 40 f3], [(o, .inr (2, [.int odd, .ref a1_1, .ref a2_2, .ref a3_3]))], [zAr T 0 a1_1 40 of1], [zAr T 0 a2_2 40 of2], [zAr T 0 a3_3 40 of3]] _ _ := G.re rfl
  refine z_put C G clX2 0 rfl 0 (by decide) m_fl_RX2_21 rfl rfl rfl (Nat.le_of_ble_eq_true rfl) dX2_takeAll_5 (fun H locs G => ?_)
  have G : zS T A s.heap s [[(h, .inr (2, [.int odd, .ref a1_4, .ref a2_5, .ref a3_6]))], [zAr T 0 a1_4 40 f1], [zAr T 0 a2_5 40 f2], [zAr T 0 a3_6 40 f3], [(o, .inr (2, [.int odd, .ref a1_1, .ref a2_2, .ref a3_3]))], [zAr T 0 a1_1 40 of1], [zAr T 0 a2_2 40 of2], [zAr T 0 a3_3 40 of3]] _ _ := G
  refine lv_iconst (v := 0) hx hb dX2_takeAll_8 (by decide) ?_
  refine lv_istore_n (lv' := [(2, .int 0), (0, .ref h), (1, .ref o)]) hx hb dX2_takeAll_9 rfl hl (by decide) rfl (fun ls hl => ?_)
  have hw_7 : bDay T o odd of1 of2 of3 [(o, .inr (2, [.int odd, .ref a1_1, .ref a2_2, .ref a3_3])), zAr T 0 a1_1 40 of1, zAr T 0 a2_2 40 of2, zAr T 0 a3_3 40 of3] := ⟨a1_1, a2_2, a3_3, rfl⟩
  have G : zS T A s.heap s [[(h, .inr (2, [.int odd, .ref a1_4, .ref a2_5, .ref a3_6]))], [zAr T 0 a1_4 40 f1], [zAr T 0 a2_5 40 f2], [zAr T 0 a3_6 40 f3], [(o, .inr (2, [.int odd, .ref a1_1, .ref a2_2, .ref a3_3])), zAr T 0 a1_1 40 of1, zAr T 0 a2_2 40 of2, zAr T 0 a3_3 40 of3]] _ _ := G.re rfl
  have hw_8 : bDay T h odd f1 f2 f3 [(h, .inr (2, [.int odd, .ref a1_4, .ref a2_5, .ref a3_6])), zAr T 0 a1_4 40 f1, zAr T 0 a2_5 40 f2, zAr T 0 a3_6 40 f3] := ⟨a1_4, a2_5, a3_6, rfl⟩
  have G : zS T A s.heap s [[(h, .inr (2, [.int odd, .ref a1_4, .ref a2_5, .ref a3_6])), zAr T 0 a1_4 40 f1, zAr T 0 a2_5 40 f2, zAr T 0 a3_6 40 f3], [(o, .inr (2, [.int odd, .ref a1_1, .ref a2_2, .ref a3_3])), zAr T 0 a1_1 40 of1, zAr T 0 a2_2 40 of2, zAr T 0 a3_3 40 of3]] _ _ := G.re rfl
  refine z_lp5 (T := T) 10 (fun (i10 : Nat) (w_10 : va_W) (x10_0 : Nat → Int32) (x10_1 : Nat → Int32) (x10_2 : Nat → Int32) => [w_10, [(o, .inr (2, [.int odd, .ref a1_1, .ref a2_2, .ref a3_3])), zAr T 0 a1_1 40 of1, zAr T 0 a2_2 40 of2, zAr T 0 a3_3 40 of3]]) (fun (i10 : Nat) (w_10 : va_W) (x10_0 : Nat → Int32) (x10_1 : Nat → Int32) (x10_2 : Nat → Int32) => [(2, .int (nI i10)), (0, .ref h), (1, .ref o)]) (fun (i10 : Nat) (w_10 : va_W) (x10_0 : Nat → Int32) (x10_1 : Nat → Int32) (x10_2 : Nat → Int32) => bDay T h odd x10_0 x10_1 x10_2 w_10 ∧ i10 ≤ 40 ∧ (∀ j, j < i10 → x10_0 j = of1 j) ∧ (∀ j, j < i10 → x10_1 j = of2 j) ∧ (∀ j, j < i10 → x10_2 j = of3 j)) (fun (i10 : Nat) (w_10 : va_W) (x10_0 : Nat → Int32) (x10_1 : Nat → Int32) (x10_2 : Nat → Int32) => 40 - i10) ?_ 0 ([(h, .inr (2, [.int odd, .ref a1_4, .ref a2_5, .ref a3_6])), zAr T 0 a1_4 40 f1, zAr T 0 a2_5 40 f2, zAr T 0 a3_6 40 f3]) f1 f2 f3 (show bDay T h odd f1 f2 f3 ([(h, .inr (2, [.int odd, .ref a1_4, .ref a2_5, .ref a3_6])), zAr T 0 a1_4 40 f1, zAr T 0 a2_5 40 f2, zAr T 0 a3_6 40 f3]) ∧ 0 ≤ 40 ∧ (∀ j, j < 0 → f1 j = of1 j) ∧ (∀ j, j < 0 → f2 j = of2 j) ∧ (∀ j, j < 0 → f3 j = of3 j) from ⟨hw_8, by omega, fun j hj => absurd hj (by omega), fun j hj => absurd hj (by omega), fun j hj => absurd hj (by omega)⟩) G (lv_sub hl [0, 1, 2] rfl)
  intro i10 w_10 x10_0 x10_1 x10_2 hI9 ih_10 H locs ls G hl
  replace hI9 : bDay T h odd x10_0 x10_1 x10_2 w_10 ∧ i10 ≤ 40 ∧ (∀ j, j < i10 → x10_0 j = of1 j) ∧ (∀ j, j < i10 → x10_1 j = of2 j) ∧ (∀ j, j < i10 → x10_2 j = of3 j) := hI9
  refine zAn5 hI9 ?_
  intro hw_10 hi10 hx10_0 hx10_1 hx10_2
  clear hI9
  replace G : zS T A s.heap s [w_10, [(o, .inr (2, [.int odd, .ref a1_1, .ref a2_2, .ref a3_3])), zAr T 0 a1_1 40 of1, zAr T 0 a2_2 40 of2, zAr T 0 a3_3 40 of3]] _ _ := G
  replace hl : lv_has ls 3 [(2, .int (nI i10)), (0, .ref h), (1, .ref o)] := hl
  refine lv_iload_n hx hb dX2_takeAll_10 rfl (lv_at hl 0 rfl) ?_
  refine lv_bipush (v := 40) hx hb dX2_takeAll_11 (by decide) ?_
  refine lv_icmp_ge (tgt := 58) hx hb dX2_takeAll_13 (by decide) (fun c_9 => ?_) (fun c_9 => ?_)
  · have c_9n : 40 ≤ i10 := (nI_leI (a := 40) (b := i10) (by omega) (by omega)).mp c_9
    exact z_back hQ9 (z_vret C hr hlocks G (Nat.le_of_ble_eq_true rfl) (Nat.le_of_ble_eq_true rfl) dX2_takeAll_58 ⟨w_10, x10_0, x10_1, x10_2, rfl, hw_10, (fun j hj => hx10_0 j (by omega)), (fun j hj => hx10_1 j (by omega)), (fun j hj => hx10_2 j (by omega))⟩)
  · have c_9n : ¬ 40 ≤ i10 := fun q => c_9 ((nI_leI (a := 40) (b := i10) (by omega) (by omega)).mpr q)
    refine lv_aload_n hx hb dX2_takeAll_16 rfl (lv_at hl 1 rfl) ?_
    refine zEx3 hw_10 ?_
    intro a1_10 a2_11 a3_12 hbs9
    clear hw_10
    subst hbs9
    have G : zS T A s.heap s [[(h, .inr (2, [.int odd, .ref a1_10, .ref a2_11, .ref a3_12]))], [zAr T 0 a1_10 40 x10_0], [zAr T 0 a2_11 40 x10_1], [zAr T 0 a3_12 40 x10_2], [(o, .inr (2, [.int odd, .ref a1_1, .ref a2_2, .ref a3_3])), zAr T 0 a1_1 40 of1, zAr T 0 a2_2 40 of2, zAr T 0 a3_3 40 of3]] _ _ := G.re rfl
    refine z_get C G clX2 0 rfl 1 (by decide) m_fl_RX2_9 rfl dX2_takeAll_17 ?_
    refine lv_iload_n hx hb dX2_takeAll_20 rfl (lv_at hl 0 rfl) ?_
    refine lv_aload_n hx hb dX2_takeAll_21 rfl (lv_at hl 2 rfl) ?_
    have G : zS T A s.heap s [[(h, .inr (2, [.int odd, .ref a1_10, .ref a2_11, .ref a3_12]))], [zAr T 0 a1_10 40 x10_0], [zAr T 0 a2_11 40 x10_1], [zAr T 0 a3_12 40 x10_2], [(o, .inr (2, [.int odd, .ref a1_1, .ref a2_2, .ref a3_3]))], [zAr T 0 a1_1 40 of1], [zAr T 0 a2_2 40 of2], [zAr T 0 a3_3 40 of3]] _ _ := G.re rfl
    refine z_get C G clX2 4 rfl 1 (by decide) m_fl_RX2_9 rfl dX2_takeAll_22 ?_
    refine lv_iload_n hx hb dX2_takeAll_25 rfl (lv_at hl 0 rfl) ?_
    refine z_ild C G 5 rfl (vp_in_nI (by omega) (by omega)) dX2_takeAll_26 ?_
    refine lv_topi (fun v_13 ev_13 => ?_)
    rw [nI_clamp (by omega)] at ev_13
    subst ev_13
    refine z_ist C G 1 rfl (vp_in_nI (by omega) (by omega)) dX2_takeAll_27 (fun H locs G => ?_)
    rw [nI_clamp (by omega)] at G
    have G : zS T A s.heap s [[(h, .inr (2, [.int odd, .ref a1_10, .ref a2_11, .ref a3_12]))], [zAr T 0 a1_10 40 (upd x10_0 i10 (of1 i10))], [zAr T 0 a2_11 40 x10_1], [zAr T 0 a3_12 40 x10_2], [(o, .inr (2, [.int odd, .ref a1_1, .ref a2_2, .ref a3_3]))], [zAr T 0 a1_1 40 of1], [zAr T 0 a2_2 40 of2], [zAr T 0 a3_3 40 of3]] _ _ := G
    refine lv_aload_n hx hb dX2_takeAll_28 rfl (lv_at hl 1 rfl) ?_
    refine z_get C G clX2 0 rfl 2 (by decide) m_fl_RX2_15 rfl dX2_takeAll_29 ?_
    refine lv_iload_n hx hb dX2_takeAll_32 rfl (lv_at hl 0 rfl) ?_
    refine lv_aload_n hx hb dX2_takeAll_33 rfl (lv_at hl 2 rfl) ?_
    refine z_get C G clX2 4 rfl 2 (by decide) m_fl_RX2_15 rfl dX2_takeAll_34 ?_
    refine lv_iload_n hx hb dX2_takeAll_37 rfl (lv_at hl 0 rfl) ?_
    refine z_ild C G 6 rfl (vp_in_nI (by omega) (by omega)) dX2_takeAll_38 ?_
    refine lv_topi (fun v_14 ev_14 => ?_)
    rw [nI_clamp (by omega)] at ev_14
    subst ev_14
    refine z_ist C G 2 rfl (vp_in_nI (by omega) (by omega)) dX2_takeAll_39 (fun H locs G => ?_)
    rw [nI_clamp (by omega)] at G
    have G : zS T A s.heap s [[(h, .inr (2, [.int odd, .ref a1_10, .ref a2_11, .ref a3_12]))], [zAr T 0 a1_10 40 (upd x10_0 i10 (of1 i10))], [zAr T 0 a2_11 40 (upd x10_1 i10 (of2 i10))], [zAr T 0 a3_12 40 x10_2], [(o, .inr (2, [.int odd, .ref a1_1, .ref a2_2, .ref a3_3]))], [zAr T 0 a1_1 40 of1], [zAr T 0 a2_2 40 of2], [zAr T 0 a3_3 40 of3]] _ _ := G
    refine lv_aload_n hx hb dX2_takeAll_40 rfl (lv_at hl 1 rfl) ?_
    refine z_get C G clX2 0 rfl 3 (by decide) m_fl_RX2_18 rfl dX2_takeAll_41 ?_
    refine lv_iload_n hx hb dX2_takeAll_44 rfl (lv_at hl 0 rfl) ?_
    refine lv_aload_n hx hb dX2_takeAll_45 rfl (lv_at hl 2 rfl) ?_
    refine z_get C G clX2 4 rfl 3 (by decide) m_fl_RX2_18 rfl dX2_takeAll_46 ?_
    refine lv_iload_n hx hb dX2_takeAll_49 rfl (lv_at hl 0 rfl) ?_
    refine z_ild C G 7 rfl (vp_in_nI (by omega) (by omega)) dX2_takeAll_50 ?_
    refine lv_topi (fun v_15 ev_15 => ?_)
    rw [nI_clamp (by omega)] at ev_15
    subst ev_15
    refine z_ist C G 3 rfl (vp_in_nI (by omega) (by omega)) dX2_takeAll_51 (fun H locs G => ?_)
    rw [nI_clamp (by omega)] at G
    have G : zS T A s.heap s [[(h, .inr (2, [.int odd, .ref a1_10, .ref a2_11, .ref a3_12]))], [zAr T 0 a1_10 40 (upd x10_0 i10 (of1 i10))], [zAr T 0 a2_11 40 (upd x10_1 i10 (of2 i10))], [zAr T 0 a3_12 40 (upd x10_2 i10 (of3 i10))], [(o, .inr (2, [.int odd, .ref a1_1, .ref a2_2, .ref a3_3]))], [zAr T 0 a1_1 40 of1], [zAr T 0 a2_2 40 of2], [zAr T 0 a3_3 40 of3]] _ _ := G
    refine lv_iinc (v := nI (i10 + 1)) (lv' := [(2, .int (nI (i10 + 1))), (0, .ref h), (1, .ref o)]) hx hb dX2_takeAll_52 hl (k := 0) rfl (z_inc i10 1) (by decide) rfl (fun ls hl => ?_)
    refine lv_goto (tgt := 10) hx hb dX2_takeAll_55 (by decide) ?_
    have hw_16 : bDay T o odd of1 of2 of3 [(o, .inr (2, [.int odd, .ref a1_1, .ref a2_2, .ref a3_3])), zAr T 0 a1_1 40 of1, zAr T 0 a2_2 40 of2, zAr T 0 a3_3 40 of3] := ⟨a1_1, a2_2, a3_3, rfl⟩
    have G : zS T A s.heap s [[(h, .inr (2, [.int odd, .ref a1_10, .ref a2_11, .ref a3_12]))], [zAr T 0 a1_10 40 (upd x10_0 i10 (of1 i10))], [zAr T 0 a2_11 40 (upd x10_1 i10 (of2 i10))], [zAr T 0 a3_12 40 (upd x10_2 i10 (of3 i10))], [(o, .inr (2, [.int odd, .ref a1_1, .ref a2_2, .ref a3_3])), zAr T 0 a1_1 40 of1, zAr T 0 a2_2 40 of2, zAr T 0 a3_3 40 of3]] _ _ := G.re rfl
    have hw_17 : bDay T h odd (upd x10_0 i10 (of1 i10)) (upd x10_1 i10 (of2 i10)) (upd x10_2 i10 (of3 i10)) [(h, .inr (2, [.int odd, .ref a1_10, .ref a2_11, .ref a3_12])), zAr T 0 a1_10 40 (upd x10_0 i10 (of1 i10)), zAr T 0 a2_11 40 (upd x10_1 i10 (of2 i10)), zAr T 0 a3_12 40 (upd x10_2 i10 (of3 i10))] := ⟨a1_10, a2_11, a3_12, rfl⟩
    have G : zS T A s.heap s [[(h, .inr (2, [.int odd, .ref a1_10, .ref a2_11, .ref a3_12])), zAr T 0 a1_10 40 (upd x10_0 i10 (of1 i10)), zAr T 0 a2_11 40 (upd x10_1 i10 (of2 i10)), zAr T 0 a3_12 40 (upd x10_2 i10 (of3 i10))], [(o, .inr (2, [.int odd, .ref a1_1, .ref a2_2, .ref a3_3])), zAr T 0 a1_1 40 of1, zAr T 0 a2_2 40 of2, zAr T 0 a3_3 40 of3]] _ _ := G.re rfl
    exact ih_10 (i10 + 1) ([(h, .inr (2, [.int odd, .ref a1_10, .ref a2_11, .ref a3_12])), zAr T 0 a1_10 40 (upd x10_0 i10 (of1 i10)), zAr T 0 a2_11 40 (upd x10_1 i10 (of2 i10)), zAr T 0 a3_12 40 (upd x10_2 i10 (of3 i10))]) (upd x10_0 i10 (of1 i10)) (upd x10_1 i10 (of2 i10)) (upd x10_2 i10 (of3 i10)) (show bDay T h odd (upd x10_0 i10 (of1 i10)) (upd x10_1 i10 (of2 i10)) (upd x10_2 i10 (of3 i10)) ([(h, .inr (2, [.int odd, .ref a1_10, .ref a2_11, .ref a3_12])), zAr T 0 a1_10 40 (upd x10_0 i10 (of1 i10)), zAr T 0 a2_11 40 (upd x10_1 i10 (of2 i10)), zAr T 0 a3_12 40 (upd x10_2 i10 (of3 i10))]) ∧ (i10 + 1) ≤ 40 ∧ (∀ j, j < (i10 + 1) → (upd x10_0 i10 (of1 i10)) j = of1 j) ∧ (∀ j, j < (i10 + 1) → (upd x10_1 i10 (of2 i10)) j = of2 j) ∧ (∀ j, j < (i10 + 1) → (upd x10_2 i10 (of3 i10)) j = of3 j) from ⟨hw_17, by omega, z_updE hx10_0 rfl, z_updE hx10_1 rfl, z_updE hx10_2 rfl⟩) (show 40 - (i10 + 1) < 40 - i10 from by omega) _ _ ls G (lv_sub hl [0, 1, 2] rfl)
set_option maxHeartbeats 4000000 in
set_option maxRecDepth 100000 in
/-- c_Log_takeAll -/
theorem c_Log_takeAll (l : Launch) (T : zTy) (h : Nat) (o : Nat) (gg : Int32) (f1 : Nat → Int32) (f2 : Nat → Int32) (ogg : Int32) (of1 : Nat → Int32) (of2 : Nat → Int32) (w : va_W) (z : va_W) (hw : bLog T h gg f1 f2 w) (hz : bLog T o ogg of1 of2 z) : zMv l T yX5_takeAll cX5_takeAll 3 1 0 0 [.ref h, .ref o] [w, z] (fun bs => ∃ (w2 : va_W) (g1 : Nat → Int32) (g2 : Nat → Int32), bs = [w2, z] ∧ bLog T h ogg g1 g2 w2 ∧ (∀ j, j < 8 → g1 j = of1 j) ∧ (∀ j, j < 8 → g2 j = of2 j)) := by
  refine zMv_of (own := RX5) (by decide) rfl (Nat.le_of_ble_eq_true rfl) ?_
  intro p e s m args below meth c A ls C hr hlocks hnm hAe G hl
  refine zHide (fun Q9 hQ9 => ?_)
  have hx := C.1
  have hb := C.2.1
  have hl : lv_has ls 3 [(0, .ref h), (1, .ref o)] := hl
  refine lv_aload_n hx hb dX5_takeAll_0 rfl (lv_at hl 0 rfl) ?_
  refine lv_aload_n hx hb dX5_takeAll_1 rfl (lv_at hl 1 rfl) ?_
  refine zEx2 hz ?_
  intro a1_1 a2_2 hbs9
  clear hz
  subst hbs9
  have G : zS T A s.heap s [w, [(o, .inr (5, [.int ogg, .ref a1_1, .ref a2_2]))], [zAr T 0 a1_1 8 of1], [zAr T 0 a2_2 8 of2]] _ _ := G.re rfl
  refine z_get C G clX5 1 rfl 0 (by decide) m_fl_RX5_18 rfl dX5_takeAll_2 ?_
  refine zEx2 hw ?_
  intro a1_3 a2_4 hbs9
  clear hw
  subst hbs9
  have G : zS T A s.heap s [[(h, .inr (5, [.int gg, .ref a1_3, .ref a2_4]))], [zAr T 0 a1_3 8 f1], [zAr T 0 a2_4 8 f2], [(o, .inr (5, [.int ogg, .ref a1_1, .ref a2_2]))], [zAr T 0 a1_1 8 of1], [zAr T 0 a2_2 8 of2]] _ _ := G.re rfl
  refine z_put C G clX5 0 rfl 0 (by decide) m_fl_RX5_18 rfl rfl rfl (Nat.le_of_ble_eq_true rfl) dX5_takeAll_5 (fun H locs G => ?_)
  have G : zS T A s.heap s [[(h, .inr (5, [.int ogg, .ref a1_3, .ref a2_4]))], [zAr T 0 a1_3 8 f1], [zAr T 0 a2_4 8 f2], [(o, .inr (5, [.int ogg, .ref a1_1, .ref a2_2]))], [zAr T 0 a1_1 8 of1], [zAr T 0 a2_2 8 of2]] _ _ := G
  refine lv_iconst (v := 0) hx hb dX5_takeAll_8 (by decide) ?_
  refine lv_istore_n (lv' := [(2, .int 0), (0, .ref h), (1, .ref o)]) hx hb dX5_takeAll_9 rfl hl (by decide) rfl (fun ls hl => ?_)
  have hw_5 : bLog T o ogg of1 of2 [(o, .inr (5, [.int ogg, .ref a1_1, .ref a2_2])), zAr T 0 a1_1 8 of1, zAr T 0 a2_2 8 of2] := ⟨a1_1, a2_2, rfl⟩
  have G : zS T A s.heap s [[(h, .inr (5, [.int ogg, .ref a1_3, .ref a2_4]))], [zAr T 0 a1_3 8 f1], [zAr T 0 a2_4 8 f2], [(o, .inr (5, [.int ogg, .ref a1_1, .ref a2_2])), zAr T 0 a1_1 8 of1, zAr T 0 a2_2 8 of2]] _ _ := G.re rfl
  have hw_6 : bLog T h ogg f1 f2 [(h, .inr (5, [.int ogg, .ref a1_3, .ref a2_4])), zAr T 0 a1_3 8 f1, zAr T 0 a2_4 8 f2] := ⟨a1_3, a2_4, rfl⟩
  have G : zS T A s.heap s [[(h, .inr (5, [.int ogg, .ref a1_3, .ref a2_4])), zAr T 0 a1_3 8 f1, zAr T 0 a2_4 8 f2], [(o, .inr (5, [.int ogg, .ref a1_1, .ref a2_2])), zAr T 0 a1_1 8 of1, zAr T 0 a2_2 8 of2]] _ _ := G.re rfl
  refine z_lp4 (T := T) 10 (fun (i10 : Nat) (w_10 : va_W) (x10_0 : Nat → Int32) (x10_1 : Nat → Int32) => [w_10, [(o, .inr (5, [.int ogg, .ref a1_1, .ref a2_2])), zAr T 0 a1_1 8 of1, zAr T 0 a2_2 8 of2]]) (fun (i10 : Nat) (w_10 : va_W) (x10_0 : Nat → Int32) (x10_1 : Nat → Int32) => [(2, .int (nI i10)), (0, .ref h), (1, .ref o)]) (fun (i10 : Nat) (w_10 : va_W) (x10_0 : Nat → Int32) (x10_1 : Nat → Int32) => bLog T h ogg x10_0 x10_1 w_10 ∧ i10 ≤ 8 ∧ (∀ j, j < i10 → x10_0 j = of1 j) ∧ (∀ j, j < i10 → x10_1 j = of2 j)) (fun (i10 : Nat) (w_10 : va_W) (x10_0 : Nat → Int32) (x10_1 : Nat → Int32) => 8 - i10) ?_ 0 ([(h, .inr (5, [.int ogg, .ref a1_3, .ref a2_4])), zAr T 0 a1_3 8 f1, zAr T 0 a2_4 8 f2]) f1 f2 (show bLog T h ogg f1 f2 ([(h, .inr (5, [.int ogg, .ref a1_3, .ref a2_4])), zAr T 0 a1_3 8 f1, zAr T 0 a2_4 8 f2]) ∧ 0 ≤ 8 ∧ (∀ j, j < 0 → f1 j = of1 j) ∧ (∀ j, j < 0 → f2 j = of2 j) from ⟨hw_6, by omega, fun j hj => absurd hj (by omega), fun j hj => absurd hj (by omega)⟩) G (lv_sub hl [0, 1, 2] rfl)
  intro i10 w_10 x10_0 x10_1 hI9 ih_10 H locs ls G hl
  replace hI9 : bLog T h ogg x10_0 x10_1 w_10 ∧ i10 ≤ 8 ∧ (∀ j, j < i10 → x10_0 j = of1 j) ∧ (∀ j, j < i10 → x10_1 j = of2 j) := hI9
  refine zAn4 hI9 ?_
  intro hw_10 hi10 hx10_0 hx10_1
  clear hI9
  replace G : zS T A s.heap s [w_10, [(o, .inr (5, [.int ogg, .ref a1_1, .ref a2_2])), zAr T 0 a1_1 8 of1, zAr T 0 a2_2 8 of2]] _ _ := G
  replace hl : lv_has ls 3 [(2, .int (nI i10)), (0, .ref h), (1, .ref o)] := hl
  refine lv_iload_n hx hb dX5_takeAll_10 rfl (lv_at hl 0 rfl) ?_
  refine lv_bipush (v := 8) hx hb dX5_takeAll_11 (by decide) ?_
  refine lv_icmp_ge (tgt := 46) hx hb dX5_takeAll_13 (by decide) (fun c_7 => ?_) (fun c_7 => ?_)
  · have c_7n : 8 ≤ i10 := (nI_leI (a := 8) (b := i10) (by omega) (by omega)).mp c_7
    exact z_back hQ9 (z_vret C hr hlocks G (Nat.le_of_ble_eq_true rfl) (Nat.le_of_ble_eq_true rfl) dX5_takeAll_46 ⟨w_10, x10_0, x10_1, rfl, hw_10, (fun j hj => hx10_0 j (by omega)), (fun j hj => hx10_1 j (by omega))⟩)
  · have c_7n : ¬ 8 ≤ i10 := fun q => c_7 ((nI_leI (a := 8) (b := i10) (by omega) (by omega)).mpr q)
    refine lv_aload_n hx hb dX5_takeAll_16 rfl (lv_at hl 1 rfl) ?_
    refine zEx2 hw_10 ?_
    intro a1_8 a2_9 hbs9
    clear hw_10
    subst hbs9
    have G : zS T A s.heap s [[(h, .inr (5, [.int ogg, .ref a1_8, .ref a2_9]))], [zAr T 0 a1_8 8 x10_0], [zAr T 0 a2_9 8 x10_1], [(o, .inr (5, [.int ogg, .ref a1_1, .ref a2_2])), zAr T 0 a1_1 8 of1, zAr T 0 a2_2 8 of2]] _ _ := G.re rfl
    refine z_get C G clX5 0 rfl 1 (by decide) m_fl_RX5_9 rfl dX5_takeAll_17 ?_
    refine lv_iload_n hx hb dX5_takeAll_20 rfl (lv_at hl 0 rfl) ?_
    refine lv_aload_n hx hb dX5_takeAll_21 rfl (lv_at hl 2 rfl) ?_
    have G : zS T A s.heap s [[(h, .inr (5, [.int ogg, .ref a1_8, .ref a2_9]))], [zAr T 0 a1_8 8 x10_0], [zAr T 0 a2_9 8 x10_1], [(o, .inr (5, [.int ogg, .ref a1_1, .ref a2_2]))], [zAr T 0 a1_1 8 of1], [zAr T 0 a2_2 8 of2]] _ _ := G.re rfl
    refine z_get C G clX5 3 rfl 1 (by decide) m_fl_RX5_9 rfl dX5_takeAll_22 ?_
    refine lv_iload_n hx hb dX5_takeAll_25 rfl (lv_at hl 0 rfl) ?_
    refine z_ild C G 4 rfl (vp_in_nI (by omega) (by omega)) dX5_takeAll_26 ?_
    refine lv_topi (fun v_10 ev_10 => ?_)
    rw [nI_clamp (by omega)] at ev_10
    subst ev_10
    refine z_ist C G 1 rfl (vp_in_nI (by omega) (by omega)) dX5_takeAll_27 (fun H locs G => ?_)
    rw [nI_clamp (by omega)] at G
    have G : zS T A s.heap s [[(h, .inr (5, [.int ogg, .ref a1_8, .ref a2_9]))], [zAr T 0 a1_8 8 (upd x10_0 i10 (of1 i10))], [zAr T 0 a2_9 8 x10_1], [(o, .inr (5, [.int ogg, .ref a1_1, .ref a2_2]))], [zAr T 0 a1_1 8 of1], [zAr T 0 a2_2 8 of2]] _ _ := G
    refine lv_aload_n hx hb dX5_takeAll_28 rfl (lv_at hl 1 rfl) ?_
    refine z_get C G clX5 0 rfl 2 (by decide) m_fl_RX5_15 rfl dX5_takeAll_29 ?_
    refine lv_iload_n hx hb dX5_takeAll_32 rfl (lv_at hl 0 rfl) ?_
    refine lv_aload_n hx hb dX5_takeAll_33 rfl (lv_at hl 2 rfl) ?_
    refine z_get C G clX5 3 rfl 2 (by decide) m_fl_RX5_15 rfl dX5_takeAll_34 ?_
    refine lv_iload_n hx hb dX5_takeAll_37 rfl (lv_at hl 0 rfl) ?_
    refine z_ild C G 5 rfl (vp_in_nI (by omega) (by omega)) dX5_takeAll_38 ?_
    refine lv_topi (fun v_11 ev_11 => ?_)
    rw [nI_clamp (by omega)] at ev_11
    subst ev_11
    refine z_ist C G 2 rfl (vp_in_nI (by omega) (by omega)) dX5_takeAll_39 (fun H locs G => ?_)
    rw [nI_clamp (by omega)] at G
    have G : zS T A s.heap s [[(h, .inr (5, [.int ogg, .ref a1_8, .ref a2_9]))], [zAr T 0 a1_8 8 (upd x10_0 i10 (of1 i10))], [zAr T 0 a2_9 8 (upd x10_1 i10 (of2 i10))], [(o, .inr (5, [.int ogg, .ref a1_1, .ref a2_2]))], [zAr T 0 a1_1 8 of1], [zAr T 0 a2_2 8 of2]] _ _ := G
    refine lv_iinc (v := nI (i10 + 1)) (lv' := [(2, .int (nI (i10 + 1))), (0, .ref h), (1, .ref o)]) hx hb dX5_takeAll_40 hl (k := 0) rfl (z_inc i10 1) (by decide) rfl (fun ls hl => ?_)
    refine lv_goto (tgt := 10) hx hb dX5_takeAll_43 (by decide) ?_
    have hw_12 : bLog T o ogg of1 of2 [(o, .inr (5, [.int ogg, .ref a1_1, .ref a2_2])), zAr T 0 a1_1 8 of1, zAr T 0 a2_2 8 of2] := ⟨a1_1, a2_2, rfl⟩
    have G : zS T A s.heap s [[(h, .inr (5, [.int ogg, .ref a1_8, .ref a2_9]))], [zAr T 0 a1_8 8 (upd x10_0 i10 (of1 i10))], [zAr T 0 a2_9 8 (upd x10_1 i10 (of2 i10))], [(o, .inr (5, [.int ogg, .ref a1_1, .ref a2_2])), zAr T 0 a1_1 8 of1, zAr T 0 a2_2 8 of2]] _ _ := G.re rfl
    have hw_13 : bLog T h ogg (upd x10_0 i10 (of1 i10)) (upd x10_1 i10 (of2 i10)) [(h, .inr (5, [.int ogg, .ref a1_8, .ref a2_9])), zAr T 0 a1_8 8 (upd x10_0 i10 (of1 i10)), zAr T 0 a2_9 8 (upd x10_1 i10 (of2 i10))] := ⟨a1_8, a2_9, rfl⟩
    have G : zS T A s.heap s [[(h, .inr (5, [.int ogg, .ref a1_8, .ref a2_9])), zAr T 0 a1_8 8 (upd x10_0 i10 (of1 i10)), zAr T 0 a2_9 8 (upd x10_1 i10 (of2 i10))], [(o, .inr (5, [.int ogg, .ref a1_1, .ref a2_2])), zAr T 0 a1_1 8 of1, zAr T 0 a2_2 8 of2]] _ _ := G.re rfl
    exact ih_10 (i10 + 1) ([(h, .inr (5, [.int ogg, .ref a1_8, .ref a2_9])), zAr T 0 a1_8 8 (upd x10_0 i10 (of1 i10)), zAr T 0 a2_9 8 (upd x10_1 i10 (of2 i10))]) (upd x10_0 i10 (of1 i10)) (upd x10_1 i10 (of2 i10)) (show bLog T h ogg (upd x10_0 i10 (of1 i10)) (upd x10_1 i10 (of2 i10)) ([(h, .inr (5, [.int ogg, .ref a1_8, .ref a2_9])), zAr T 0 a1_8 8 (upd x10_0 i10 (of1 i10)), zAr T 0 a2_9 8 (upd x10_1 i10 (of2 i10))]) ∧ (i10 + 1) ≤ 8 ∧ (∀ j, j < (i10 + 1) → (upd x10_0 i10 (of1 i10)) j = of1 j) ∧ (∀ j, j < (i10 + 1) → (upd x10_1 i10 (of2 i10)) j = of2 j) from ⟨hw_13, by omega, z_updE hx10_0 rfl, z_updE hx10_1 rfl⟩) (show 8 - (i10 + 1) < 8 - i10 from by omega) _ _ ls G (lv_sub hl [0, 1, 2] rfl)
set_option maxHeartbeats 4000000 in
set_option maxRecDepth 100000 in
/-- clear -/
theorem c_Land_clear (l : Launch) (T : zTy) (h : Nat) (cr : Int32) (inn : Int32) (f1 : Nat → Int32) (f2 : Nat → Int32) (f3 : Nat → Int32) (f4 : Nat → Int32) (w : va_W) (hw : bLand T h cr inn f1 f2 f3 f4 w) : zMv l T yX4_clear cX4_clear 2 1 0 0 [.ref h] [w] (fun bs => ∃ (w2 : va_W) (g1 : Nat → Int32) (g3 : Nat → Int32) (g4 : Nat → Int32), bs = [w2] ∧ bLand T h 0 0 g1 f2 g3 g4 w2 ∧ (∀ j, j < 7 → g1 j = 0) ∧ (∀ j, j < 7 → g3 j = 0) ∧ (∀ j, j < 7 → g4 j = 0)) := by
  refine zMv_of (own := RX4) (by decide) rfl (Nat.le_of_ble_eq_true rfl) ?_
  intro p e s m args below meth c A ls C hr hlocks hnm hAe G hl
  refine zHide (fun Q9 hQ9 => ?_)
  have hx := C.1
  have hb := C.2.1
  have hl : lv_has ls 2 [(0, .ref h)] := hl
  refine lv_aload_n hx hb dX4_clear_0 rfl (lv_at hl 0 rfl) ?_
  refine lv_iconst (v := 0) hx hb dX4_clear_1 (by decide) ?_
  refine zEx4 hw ?_
  intro a1_1 a2_2 a3_3 a4_4 hbs9
  clear hw
  subst hbs9
  have G : zS T A s.heap s [[zO4 h cr inn a1_1 a2_2 a3_3 a4_4], [zAr T 0 a1_1 7 f1], [zAr T 0 a2_2 28 f2], [zAr T 0 a3_3 7 f3], [zAr T 0 a4_4 7 f4]] _ _ := G.re rfl
  refine z_put C G clX4 0 rfl 0 (by decide) m_fl_RX4_24 rfl rfl rfl (Nat.le_of_ble_eq_true rfl) dX4_clear_2 (fun H locs G => ?_)
  have G : zS T A s.heap s [[zO4 h 0 inn a1_1 a2_2 a3_3 a4_4], [zAr T 0 a1_1 7 f1], [zAr T 0 a2_2 28 f2], [zAr T 0 a3_3 7 f3], [zAr T 0 a4_4 7 f4]] _ _ := G
  refine lv_aload_n hx hb dX4_clear_5 rfl (lv_at hl 0 rfl) ?_
  refine lv_iconst (v := 0) hx hb dX4_clear_6 (by decide) ?_
  refine z_put C G clX4 0 rfl 1 (by decide) m_fl_RX4_28 rfl rfl rfl (Nat.le_of_ble_eq_true rfl) dX4_clear_7 (fun H locs G => ?_)
  have G : zS T A s.heap s [[zO4 h 0 0 a1_1 a2_2 a3_3 a4_4], [zAr T 0 a1_1 7 f1], [zAr T 0 a2_2 28 f2], [zAr T 0 a3_3 7 f3], [zAr T 0 a4_4 7 f4]] _ _ := G
  refine lv_iconst (v := 0) hx hb dX4_clear_10 (by decide) ?_
  refine lv_istore_n (lv' := [(1, .int 0), (0, .ref h)]) hx hb dX4_clear_11 rfl hl (by decide) rfl (fun ls hl => ?_)
  have hw_5 : bLand T h 0 0 f1 f2 f3 f4 [zO4 h 0 0 a1_1 a2_2 a3_3 a4_4, zAr T 0 a1_1 7 f1, zAr T 0 a2_2 28 f2, zAr T 0 a3_3 7 f3, zAr T 0 a4_4 7 f4] := ⟨a1_1, a2_2, a3_3, a4_4, rfl⟩
  have G : zS T A s.heap s [[zO4 h 0 0 a1_1 a2_2 a3_3 a4_4, zAr T 0 a1_1 7 f1, zAr T 0 a2_2 28 f2, zAr T 0 a3_3 7 f3, zAr T 0 a4_4 7 f4]] _ _ := G.re rfl
  refine z_lp5 (T := T) 12 (fun (i : Nat) (wq : va_W) (x1 : Nat → Int32) (x3 : Nat → Int32) (x4 : Nat → Int32) => [wq]) (fun (i : Nat) (wq : va_W) (x1 : Nat → Int32) (x3 : Nat → Int32) (x4 : Nat → Int32) => [(1, .int (nI i)), (0, .ref h)]) (fun (i : Nat) (wq : va_W) (x1 : Nat → Int32) (x3 : Nat → Int32) (x4 : Nat → Int32) => bLand T h 0 0 x1 f2 x3 x4 wq ∧ i ≤ 7 ∧ (∀ j, j < i → x1 j = 0) ∧ (∀ j, j < i → x3 j = 0) ∧ (∀ j, j < i → x4 j = 0)) (fun (i : Nat) (wq : va_W) (x1 : Nat → Int32) (x3 : Nat → Int32) (x4 : Nat → Int32) => 7 - i) ?_ 0 ([zO4 h 0 0 a1_1 a2_2 a3_3 a4_4, zAr T 0 a1_1 7 f1, zAr T 0 a2_2 28 f2, zAr T 0 a3_3 7 f3, zAr T 0 a4_4 7 f4]) f1 f3 f4 (show bLand T h 0 0 f1 f2 f3 f4 ([zO4 h 0 0 a1_1 a2_2 a3_3 a4_4, zAr T 0 a1_1 7 f1, zAr T 0 a2_2 28 f2, zAr T 0 a3_3 7 f3, zAr T 0 a4_4 7 f4]) ∧ 0 ≤ 7 ∧ (∀ j, j < 0 → f1 j = 0) ∧ (∀ j, j < 0 → f3 j = 0) ∧ (∀ j, j < 0 → f4 j = 0) from ⟨hw_5, by omega, fun j hj => absurd hj (by omega), fun j hj => absurd hj (by omega), fun j hj => absurd hj (by omega)⟩) G (lv_sub hl [0, 1] rfl)
  intro i wq x1 x3 x4 hI9 ih_12 H locs ls G hl
  replace hI9 : bLand T h 0 0 x1 f2 x3 x4 wq ∧ i ≤ 7 ∧ (∀ j, j < i → x1 j = 0) ∧ (∀ j, j < i → x3 j = 0) ∧ (∀ j, j < i → x4 j = 0) := hI9
  refine zAn5 hI9 ?_
  intro hq hi hx1 hx3 hx4
  clear hI9
  replace G : zS T A s.heap s [wq] _ _ := G
  replace hl : lv_has ls 2 [(1, .int (nI i)), (0, .ref h)] := hl
  refine lv_iload_n hx hb dX4_clear_12 rfl (lv_at hl 0 rfl) ?_
  refine lv_bipush (v := 7) hx hb dX4_clear_13 (by decide) ?_
  refine lv_icmp_ge (tgt := 45) hx hb dX4_clear_15 (by decide) (fun c_6 => ?_) (fun c_6 => ?_)
  · have c_6n : 7 ≤ i := (nI_leI (a := 7) (b := i) (by omega) (by omega)).mp c_6
    exact z_back hQ9 (z_vret C hr hlocks G (Nat.le_of_ble_eq_true rfl) (Nat.le_of_ble_eq_true rfl) dX4_clear_45 ⟨wq, x1, x3, x4, rfl, hq, (fun j hj => hx1 j (by omega)), (fun j hj => hx3 j (by omega)), (fun j hj => hx4 j (by omega))⟩)
  · have c_6n : ¬ 7 ≤ i := fun q => c_6 ((nI_leI (a := 7) (b := i) (by omega) (by omega)).mpr q)
    refine lv_aload_n hx hb dX4_clear_18 rfl (lv_at hl 1 rfl) ?_
    refine zEx4 hq ?_
    intro a1_7 a2_8 a3_9 a4_10 hbs9
    clear hq
    subst hbs9
    have G : zS T A s.heap s [[zO4 h 0 0 a1_7 a2_8 a3_9 a4_10], [zAr T 0 a1_7 7 x1], [zAr T 0 a2_8 28 f2], [zAr T 0 a3_9 7 x3], [zAr T 0 a4_10 7 x4]] _ _ := G.re rfl
    refine z_get C G clX4 0 rfl 2 (by decide) m_fl_RX4_9 rfl dX4_clear_19 ?_
    refine lv_iload_n hx hb dX4_clear_22 rfl (lv_at hl 0 rfl) ?_
    refine lv_iconst (v := 0) hx hb dX4_clear_23 (by decide) ?_
    refine z_ist C G 1 rfl (vp_in_nI (by omega) (by omega)) dX4_clear_24 (fun H locs G => ?_)
    rw [nI_clamp (by omega)] at G
    have G : zS T A s.heap s [[zO4 h 0 0 a1_7 a2_8 a3_9 a4_10], [zAr T 0 a1_7 7 (upd x1 i 0)], [zAr T 0 a2_8 28 f2], [zAr T 0 a3_9 7 x3], [zAr T 0 a4_10 7 x4]] _ _ := G
    refine lv_aload_n hx hb dX4_clear_25 rfl (lv_at hl 1 rfl) ?_
    refine z_get C G clX4 0 rfl 4 (by decide) m_fl_RX4_18 rfl dX4_clear_26 ?_
    refine lv_iload_n hx hb dX4_clear_29 rfl (lv_at hl 0 rfl) ?_
    refine lv_iconst (v := 0) hx hb dX4_clear_30 (by decide) ?_
    refine z_ist C G 3 rfl (vp_in_nI (by omega) (by omega)) dX4_clear_31 (fun H locs G => ?_)
    rw [nI_clamp (by omega)] at G
    have G : zS T A s.heap s [[zO4 h 0 0 a1_7 a2_8 a3_9 a4_10], [zAr T 0 a1_7 7 (upd x1 i 0)], [zAr T 0 a2_8 28 f2], [zAr T 0 a3_9 7 (upd x3 i 0)], [zAr T 0 a4_10 7 x4]] _ _ := G
    refine lv_aload_n hx hb dX4_clear_32 rfl (lv_at hl 1 rfl) ?_
    refine z_get C G clX4 0 rfl 5 (by decide) m_fl_RX4_21 rfl dX4_clear_33 ?_
    refine lv_iload_n hx hb dX4_clear_36 rfl (lv_at hl 0 rfl) ?_
    refine lv_iconst (v := 0) hx hb dX4_clear_37 (by decide) ?_
    refine z_ist C G 4 rfl (vp_in_nI (by omega) (by omega)) dX4_clear_38 (fun H locs G => ?_)
    rw [nI_clamp (by omega)] at G
    have G : zS T A s.heap s [[zO4 h 0 0 a1_7 a2_8 a3_9 a4_10], [zAr T 0 a1_7 7 (upd x1 i 0)], [zAr T 0 a2_8 28 f2], [zAr T 0 a3_9 7 (upd x3 i 0)], [zAr T 0 a4_10 7 (upd x4 i 0)]] _ _ := G
    refine lv_iinc (v := nI (i + 1)) (lv' := [(1, .int (nI (i + 1))), (0, .ref h)]) hx hb dX4_clear_39 hl (k := 0) rfl (z_inc i 1) (by decide) rfl (fun ls hl => ?_)
    refine lv_goto (tgt := 12) hx hb dX4_clear_42 (by decide) ?_
    have hw_11 : bLand T h 0 0 (upd x1 i 0) f2 (upd x3 i 0) (upd x4 i 0) [zO4 h 0 0 a1_7 a2_8 a3_9 a4_10, zAr T 0 a1_7 7 (upd x1 i 0), zAr T 0 a2_8 28 f2, zAr T 0 a3_9 7 (upd x3 i 0), zAr T 0 a4_10 7 (upd x4 i 0)] := ⟨a1_7, a2_8, a3_9, a4_10, rfl⟩
    have G : zS T A s.heap s [[zO4 h 0 0 a1_7 a2_8 a3_9 a4_10, zAr T 0 a1_7 7 (upd x1 i 0), zAr T 0 a2_8 28 f2, zAr T 0 a3_9 7 (upd x3 i 0), zAr T 0 a4_10 7 (upd x4 i 0)]] _ _ := G.re rfl
    exact ih_12 (i + 1) ([zO4 h 0 0 a1_7 a2_8 a3_9 a4_10, zAr T 0 a1_7 7 (upd x1 i 0), zAr T 0 a2_8 28 f2, zAr T 0 a3_9 7 (upd x3 i 0), zAr T 0 a4_10 7 (upd x4 i 0)]) (upd x1 i 0) (upd x3 i 0) (upd x4 i 0) (show bLand T h 0 0 (upd x1 i 0) f2 (upd x3 i 0) (upd x4 i 0) ([zO4 h 0 0 a1_7 a2_8 a3_9 a4_10, zAr T 0 a1_7 7 (upd x1 i 0), zAr T 0 a2_8 28 f2, zAr T 0 a3_9 7 (upd x3 i 0), zAr T 0 a4_10 7 (upd x4 i 0)]) ∧ (i + 1) ≤ 7 ∧ (∀ j, j < (i + 1) → (upd x1 i 0) j = 0) ∧ (∀ j, j < (i + 1) → (upd x3 i 0) j = 0) ∧ (∀ j, j < (i + 1) → (upd x4 i 0) j = 0) from ⟨hw_11, by omega, z_updE (F := fun _ => 0) hx1 rfl, z_updE (F := fun _ => 0) hx3 rfl, z_updE (F := fun _ => 0) hx4 rfl⟩) (show 7 - (i + 1) < 7 - i from by omega) _ _ ls G (lv_sub hl [0, 1] rfl)
theorem m_fl_RX6_28 : Cond.fieldLink RX6 28 (TX6 3).1 (TX6 3).2.1 (TX6 3).2.2.1 ∈ zT := zmem1 zsub_1 233 rfl rfl
theorem m_fl_RX6_32 : Cond.fieldLink RX6 32 (TX6 4).1 (TX6 4).2.1 (TX6 4).2.2.1 ∈ zT := zmem1 zsub_1 235 rfl rfl
theorem m_fl_RX6_35 : Cond.fieldLink RX6 35 (TX4 4).1 (TX4 4).2.1 (TX4 4).2.2.1 ∈ zT := zmem1 zsub_1 57 rfl rfl
theorem m_co_X4_waysOut : Cond.code yX4_waysOut cX4_waysOut 2 (some .int) ∈ zT := zmem1 zsub_4 12 rfl rfl
theorem m_ml_RX6_36 : Cond.methodLink RX6 36 yX4_waysOut ∈ zT := zmem1 zsub_4 9 rfl rfl
theorem m_im_X4_waysOut : Cond.instanceMethod yX4_waysOut ∈ zT := zmem1 zsub_4 10 rfl rfl
theorem m_se_X4_waysOut : Cond.selects RX4 yX4_waysOut yX4_waysOut ∈ zT := zmem1 zsub_4 11 rfl rfl
theorem m_ml_RX6_39 : Cond.methodLink RX6 39 yX4_hasRoad ∈ zT := zmem1 zsub_4 66 rfl rfl
theorem m_co_X6_turn : Cond.code yX6_turn cX6_turn 6 (some .int) ∈ zT := zmem1 zsub_4 38 rfl rfl
theorem m_ml_RX6_43 : Cond.methodLink RX6 43 yX6_turn ∈ zT := zmem1 zsub_4 35 rfl rfl
theorem m_im_X6_turn : Cond.instanceMethod yX6_turn ∈ zT := zmem1 zsub_4 36 rfl rfl
theorem m_se_X6_turn : Cond.selects RX6 yX6_turn yX6_turn ∈ zT := zmem1 zsub_4 37 rfl rfl
theorem m_fl_RX6_46 : Cond.fieldLink RX6 46 (TX4 3).1 (TX4 3).2.1 (TX4 3).2.2.1 ∈ zT := zmem1 zsub_1 55 rfl rfl
theorem m_co_X6_step : Cond.code yX6_step cX6_step 4 (some .int) ∈ zT := zmem1 zsub_4 34 rfl rfl
theorem m_ml_RX6_49 : Cond.methodLink RX6 49 yX6_step ∈ zT := zmem1 zsub_4 51 rfl rfl
theorem m_im_X6_step : Cond.instanceMethod yX6_step ∈ zT := zmem1 zsub_4 32 rfl rfl
theorem m_se_X6_step : Cond.selects RX6 yX6_step yX6_step ∈ zT := zmem1 zsub_4 33 rfl rfl
theorem kV_RX6_36 {R : Room} {s : State} {args : Array Value} {d mc ms : Nat} (hts : ∀ w ∈ zT, w.before args s = true) (h1 : d + 1 ≤ R.frames) (h2 : 8 + (2 + 11) + 40 * d ≤ R.locals) : CallW R s args RX6 RX4 36 yX4_waysOut cX4_waysOut 2 (some .int) (zW yX4_waysOut cX4_waysOut 2 (some .int)) (zR d mc ms) mc ms 1 := z_cwV hts m_co_X4_waysOut m_ml_RX6_36 m_im_X4_waysOut m_se_X4_waysOut m_ii_RX4 (by decide +kernel) h1 h2
theorem kV_RX6_39 {R : Room} {s : State} {args : Array Value} {d mc ms : Nat} (hts : ∀ w ∈ zT, w.before args s = true) (h1 : d + 1 ≤ R.frames) (h2 : 8 + (3 + 11) + 40 * d ≤ R.locals) : CallW R s args RX6 RX4 39 yX4_hasRoad cX4_hasRoad 3 (some .boolean) (zW yX4_hasRoad cX4_hasRoad 3 (some .boolean)) (zR d mc ms) mc ms 2 := z_cwV hts m_co_X4_hasRoad m_ml_RX6_39 m_im_X4_hasRoad m_se_X4_hasRoad m_ii_RX4 (by decide +kernel) h1 h2
theorem kV_RX6_43 {R : Room} {s : State} {args : Array Value} {d mc ms : Nat} (hts : ∀ w ∈ zT, w.before args s = true) (h1 : d + 1 ≤ R.frames) (h2 : 8 + (6 + 11) + 40 * d ≤ R.locals) : CallW R s args RX6 RX6 43 yX6_turn cX6_turn 6 (some .int) (zW yX6_turn cX6_turn 6 (some .int)) (zR d mc ms) mc ms 1 := z_cwV hts m_co_X6_turn m_ml_RX6_43 m_im_X6_turn m_se_X6_turn m_ii_RX6 (by decide +kernel) h1 h2
theorem kV_RX6_49 {R : Room} {s : State} {args : Array Value} {d mc ms : Nat} (hts : ∀ w ∈ zT, w.before args s = true) (h1 : d + 1 ≤ R.frames) (h2 : 8 + (4 + 11) + 40 * d ≤ R.locals) : CallW R s args RX6 RX6 49 yX6_step cX6_step 4 (some .int) (zW yX6_step cX6_step 4 (some .int)) (zR d mc ms) mc ms 1 := z_cwV hts m_co_X6_step m_ml_RX6_49 m_im_X6_step m_se_X6_step m_ii_RX6 (by decide +kernel) h1 h2
theorem dX6_begin_0 : decode cX6_begin 0 = .ok (.aload_n 0, 1) := zo_42 (by decide +kernel)
theorem dX6_begin_1 : decode cX6_begin 1 = .ok (.aload_n 1, 1) := zo_43 (by decide +kernel)
theorem dX6_begin_2 : decode cX6_begin 2 = .ok (.putfield 12, 3) := zo_181 (by decide +kernel)
theorem dX6_begin_5 : decode cX6_begin 5 = .ok (.aload_n 0, 1) := zo_42 (by decide +kernel)
theorem dX6_begin_6 : decode cX6_begin 6 = .ok (.iconst 0, 1) := zo_3 (by decide +kernel)
theorem dX6_begin_7 : decode cX6_begin 7 = .ok (.putfield 28, 3) := zo_181 (by decide +kernel)
theorem dX6_begin_10 : decode cX6_begin 10 = .ok (.aload_n 0, 1) := zo_42 (by decide +kernel)
theorem dX6_begin_11 : decode cX6_begin 11 = .ok (.iconst 0, 1) := zo_3 (by decide +kernel)
theorem dX6_begin_12 : decode cX6_begin 12 = .ok (.putfield 32, 3) := zo_181 (by decide +kernel)
theorem dX6_begin_15 : decode cX6_begin 15 = .ok (.iconst 0, 1) := zo_3 (by decide +kernel)
theorem dX6_begin_16 : decode cX6_begin 16 = .ok (.istore_n 2, 1) := zo_61 (by decide +kernel)
theorem dX6_begin_17 : decode cX6_begin 17 = .ok (.iload_n 2, 1) := zo_28 (by decide +kernel)
theorem dX6_begin_18 : decode cX6_begin 18 = .ok (.bipush 7, 2) := zo_16 (by decide +kernel)
theorem dX6_begin_20 : decode cX6_begin 20 = .ok (.if_icmp .ge 39, 3) := zo_162 (by decide +kernel)
theorem dX6_begin_23 : decode cX6_begin 23 = .ok (.aload_n 0, 1) := zo_42 (by decide +kernel)
theorem dX6_begin_24 : decode cX6_begin 24 = .ok (.getfield 18, 3) := zo_180 (by decide +kernel)
theorem dX6_begin_27 : decode cX6_begin 27 = .ok (.iload_n 2, 1) := zo_28 (by decide +kernel)
theorem dX6_begin_28 : decode cX6_begin 28 = .ok (.aload_n 1, 1) := zo_43 (by decide +kernel)
theorem dX6_begin_29 : decode cX6_begin 29 = .ok (.getfield 35, 3) := zo_180 (by decide +kernel)
theorem dX6_begin_32 : decode cX6_begin 32 = .ok (.iload_n 2, 1) := zo_28 (by decide +kernel)
theorem dX6_begin_33 : decode cX6_begin 33 = .ok (.iaload, 1) := zo_46 (by decide +kernel)
theorem dX6_begin_34 : decode cX6_begin 34 = .ok (.iastore, 1) := zo_79 (by decide +kernel)
theorem dX6_begin_35 : decode cX6_begin 35 = .ok (.aload_n 0, 1) := zo_42 (by decide +kernel)
theorem dX6_begin_36 : decode cX6_begin 36 = .ok (.getfield 22, 3) := zo_180 (by decide +kernel)
theorem dX6_begin_39 : decode cX6_begin 39 = .ok (.iload_n 2, 1) := zo_28 (by decide +kernel)
theorem dX6_begin_40 : decode cX6_begin 40 = .ok (.iconst 0, 1) := zo_3 (by decide +kernel)
theorem dX6_begin_41 : decode cX6_begin 41 = .ok (.iastore, 1) := zo_79 (by decide +kernel)
theorem dX6_begin_42 : decode cX6_begin 42 = .ok (.aload_n 0, 1) := zo_42 (by decide +kernel)
theorem dX6_begin_43 : decode cX6_begin 43 = .ok (.getfield 25, 3) := zo_180 (by decide +kernel)
theorem dX6_begin_46 : decode cX6_begin 46 = .ok (.iload_n 2, 1) := zo_28 (by decide +kernel)
theorem dX6_begin_47 : decode cX6_begin 47 = .ok (.aload_n 1, 1) := zo_43 (by decide +kernel)
theorem dX6_begin_48 : decode cX6_begin 48 = .ok (.iload_n 2, 1) := zo_28 (by decide +kernel)
theorem dX6_begin_49 : decode cX6_begin 49 = .ok (.invokevirtual 36, 3) := zo_182 (by decide +kernel)
theorem dX6_begin_52 : decode cX6_begin 52 = .ok (.iastore, 1) := zo_79 (by decide +kernel)
theorem dX6_begin_53 : decode cX6_begin 53 = .ok (.iinc 2 1, 3) := zo_132 (by decide +kernel)
theorem dX6_begin_56 : decode cX6_begin 56 = .ok (.goto (-39), 3) := zo_167 (by decide +kernel)
theorem dX6_begin_59 : decode cX6_begin 59 = .ok (.return_, 1) := zo_177 (by decide +kernel)
theorem dX6_isShut_0 : decode cX6_isShut 0 = .ok (.aload_n 0, 1) := zo_42 (by decide +kernel)
theorem dX6_isShut_1 : decode cX6_isShut 1 = .ok (.getfield 12, 3) := zo_180 (by decide +kernel)
theorem dX6_isShut_4 : decode cX6_isShut 4 = .ok (.iload_n 1, 1) := zo_27 (by decide +kernel)
theorem dX6_isShut_5 : decode cX6_isShut 5 = .ok (.iload_n 2, 1) := zo_28 (by decide +kernel)
theorem dX6_isShut_6 : decode cX6_isShut 6 = .ok (.invokevirtual 39, 3) := zo_182 (by decide +kernel)
theorem dX6_isShut_9 : decode cX6_isShut 9 = .ok (.ifCond .eq 20, 3) := zo_153 (by decide +kernel)
theorem dX6_isShut_12 : decode cX6_isShut 12 = .ok (.aload_n 0, 1) := zo_42 (by decide +kernel)
theorem dX6_isShut_13 : decode cX6_isShut 13 = .ok (.getfield 22, 3) := zo_180 (by decide +kernel)
theorem dX6_isShut_16 : decode cX6_isShut 16 = .ok (.iload_n 1, 1) := zo_27 (by decide +kernel)
theorem dX6_isShut_17 : decode cX6_isShut 17 = .ok (.iaload, 1) := zo_46 (by decide +kernel)
theorem dX6_isShut_18 : decode cX6_isShut 18 = .ok (.iload_n 2, 1) := zo_28 (by decide +kernel)
theorem dX6_isShut_19 : decode cX6_isShut 19 = .ok (.ishr, 1) := zo_122 (by decide +kernel)
theorem dX6_isShut_20 : decode cX6_isShut 20 = .ok (.iconst 1, 1) := zo_4 (by decide +kernel)
theorem dX6_isShut_21 : decode cX6_isShut 21 = .ok (.iand, 1) := zo_126 (by decide +kernel)
theorem dX6_isShut_22 : decode cX6_isShut 22 = .ok (.ifCond .eq 7, 3) := zo_153 (by decide +kernel)
theorem dX6_isShut_25 : decode cX6_isShut 25 = .ok (.iconst 1, 1) := zo_4 (by decide +kernel)
theorem dX6_isShut_26 : decode cX6_isShut 26 = .ok (.goto 4, 3) := zo_167 (by decide +kernel)
theorem dX6_isShut_29 : decode cX6_isShut 29 = .ok (.iconst 0, 1) := zo_3 (by decide +kernel)
theorem dX6_isShut_30 : decode cX6_isShut 30 = .ok (.ireturn, 1) := zo_172 (by decide +kernel)
theorem dX6_shutRoad_0 : decode cX6_shutRoad 0 = .ok (.aload_n 0, 1) := zo_42 (by decide +kernel)
theorem dX6_shutRoad_1 : decode cX6_shutRoad 1 = .ok (.getfield 12, 3) := zo_180 (by decide +kernel)
theorem dX6_shutRoad_4 : decode cX6_shutRoad 4 = .ok (.iload_n 1, 1) := zo_27 (by decide +kernel)
theorem dX6_shutRoad_5 : decode cX6_shutRoad 5 = .ok (.iload_n 2, 1) := zo_28 (by decide +kernel)
theorem dX6_shutRoad_6 : decode cX6_shutRoad 6 = .ok (.invokevirtual 39, 3) := zo_182 (by decide +kernel)
theorem dX6_shutRoad_9 : decode cX6_shutRoad 9 = .ok (.ifCond .eq 15, 3) := zo_153 (by decide +kernel)
theorem dX6_shutRoad_12 : decode cX6_shutRoad 12 = .ok (.aload_n 0, 1) := zo_42 (by decide +kernel)
theorem dX6_shutRoad_13 : decode cX6_shutRoad 13 = .ok (.getfield 22, 3) := zo_180 (by decide +kernel)
theorem dX6_shutRoad_16 : decode cX6_shutRoad 16 = .ok (.iload_n 1, 1) := zo_27 (by decide +kernel)
theorem dX6_shutRoad_17 : decode cX6_shutRoad 17 = .ok (.dup2, 1) := zo_92 (by decide +kernel)
theorem dX6_shutRoad_18 : decode cX6_shutRoad 18 = .ok (.iaload, 1) := zo_46 (by decide +kernel)
theorem dX6_shutRoad_19 : decode cX6_shutRoad 19 = .ok (.iconst 1, 1) := zo_4 (by decide +kernel)
theorem dX6_shutRoad_20 : decode cX6_shutRoad 20 = .ok (.iload_n 2, 1) := zo_28 (by decide +kernel)
theorem dX6_shutRoad_21 : decode cX6_shutRoad 21 = .ok (.ishl, 1) := zo_120 (by decide +kernel)
theorem dX6_shutRoad_22 : decode cX6_shutRoad 22 = .ok (.ior, 1) := zo_128 (by decide +kernel)
theorem dX6_shutRoad_23 : decode cX6_shutRoad 23 = .ok (.iastore, 1) := zo_79 (by decide +kernel)
theorem dX6_shutRoad_24 : decode cX6_shutRoad 24 = .ok (.return_, 1) := zo_177 (by decide +kernel)
theorem dX6_openRoad_0 : decode cX6_openRoad 0 = .ok (.aload_n 0, 1) := zo_42 (by decide +kernel)
theorem dX6_openRoad_1 : decode cX6_openRoad 1 = .ok (.getfield 12, 3) := zo_180 (by decide +kernel)
theorem dX6_openRoad_4 : decode cX6_openRoad 4 = .ok (.iload_n 1, 1) := zo_27 (by decide +kernel)
theorem dX6_openRoad_5 : decode cX6_openRoad 5 = .ok (.iload_n 2, 1) := zo_28 (by decide +kernel)
theorem dX6_openRoad_6 : decode cX6_openRoad 6 = .ok (.invokevirtual 39, 3) := zo_182 (by decide +kernel)
theorem dX6_openRoad_9 : decode cX6_openRoad 9 = .ok (.ifCond .eq 17, 3) := zo_153 (by decide +kernel)
theorem dX6_openRoad_12 : decode cX6_openRoad 12 = .ok (.aload_n 0, 1) := zo_42 (by decide +kernel)
theorem dX6_openRoad_13 : decode cX6_openRoad 13 = .ok (.getfield 22, 3) := zo_180 (by decide +kernel)
theorem dX6_openRoad_16 : decode cX6_openRoad 16 = .ok (.iload_n 1, 1) := zo_27 (by decide +kernel)
theorem dX6_openRoad_17 : decode cX6_openRoad 17 = .ok (.dup2, 1) := zo_92 (by decide +kernel)
theorem dX6_openRoad_18 : decode cX6_openRoad 18 = .ok (.iaload, 1) := zo_46 (by decide +kernel)
theorem dX6_openRoad_19 : decode cX6_openRoad 19 = .ok (.iconst 1, 1) := zo_4 (by decide +kernel)
theorem dX6_openRoad_20 : decode cX6_openRoad 20 = .ok (.iload_n 2, 1) := zo_28 (by decide +kernel)
theorem dX6_openRoad_21 : decode cX6_openRoad 21 = .ok (.ishl, 1) := zo_120 (by decide +kernel)
theorem dX6_openRoad_22 : decode cX6_openRoad 22 = .ok (.iconst (-1), 1) := zo_2 (by decide +kernel)
theorem dX6_openRoad_23 : decode cX6_openRoad 23 = .ok (.ixor, 1) := zo_130 (by decide +kernel)
theorem dX6_openRoad_24 : decode cX6_openRoad 24 = .ok (.iand, 1) := zo_126 (by decide +kernel)
theorem dX6_openRoad_25 : decode cX6_openRoad 25 = .ok (.iastore, 1) := zo_79 (by decide +kernel)
theorem dX6_openRoad_26 : decode cX6_openRoad 26 = .ok (.return_, 1) := zo_177 (by decide +kernel)
theorem dX6_turn_0 : decode cX6_turn 0 = .ok (.iload_n 1, 1) := zo_27 (by decide +kernel)
theorem dX6_turn_1 : decode cX6_turn 1 = .ok (.ifCond .lt 9, 3) := zo_155 (by decide +kernel)
theorem dX6_turn_4 : decode cX6_turn 4 = .ok (.iload_n 1, 1) := zo_27 (by decide +kernel)
theorem dX6_turn_5 : decode cX6_turn 5 = .ok (.bipush 7, 2) := zo_16 (by decide +kernel)
theorem dX6_turn_7 : decode cX6_turn 7 = .ok (.if_icmp .lt 5, 3) := zo_161 (by decide +kernel)
theorem dX6_turn_10 : decode cX6_turn 10 = .ok (.iconst (-1), 1) := zo_2 (by decide +kernel)
theorem dX6_turn_11 : decode cX6_turn 11 = .ok (.ireturn, 1) := zo_172 (by decide +kernel)
theorem dX6_turn_12 : decode cX6_turn 12 = .ok (.aload_n 0, 1) := zo_42 (by decide +kernel)
theorem dX6_turn_13 : decode cX6_turn 13 = .ok (.getfield 25, 3) := zo_180 (by decide +kernel)
theorem dX6_turn_16 : decode cX6_turn 16 = .ok (.iload_n 1, 1) := zo_27 (by decide +kernel)
theorem dX6_turn_17 : decode cX6_turn 17 = .ok (.iaload, 1) := zo_46 (by decide +kernel)
theorem dX6_turn_18 : decode cX6_turn 18 = .ok (.istore_n 2, 1) := zo_61 (by decide +kernel)
theorem dX6_turn_19 : decode cX6_turn 19 = .ok (.aload_n 0, 1) := zo_42 (by decide +kernel)
theorem dX6_turn_20 : decode cX6_turn 20 = .ok (.getfield 22, 3) := zo_180 (by decide +kernel)
theorem dX6_turn_23 : decode cX6_turn 23 = .ok (.iload_n 1, 1) := zo_27 (by decide +kernel)
theorem dX6_turn_24 : decode cX6_turn 24 = .ok (.iaload, 1) := zo_46 (by decide +kernel)
theorem dX6_turn_25 : decode cX6_turn 25 = .ok (.istore_n 3, 1) := zo_62 (by decide +kernel)
theorem dX6_turn_26 : decode cX6_turn 26 = .ok (.aload_n 0, 1) := zo_42 (by decide +kernel)
theorem dX6_turn_27 : decode cX6_turn 27 = .ok (.getfield 18, 3) := zo_180 (by decide +kernel)
theorem dX6_turn_30 : decode cX6_turn 30 = .ok (.iload_n 1, 1) := zo_27 (by decide +kernel)
theorem dX6_turn_31 : decode cX6_turn 31 = .ok (.iaload, 1) := zo_46 (by decide +kernel)
theorem dX6_turn_32 : decode cX6_turn 32 = .ok (.istore 4, 2) := zo_54 (by decide +kernel)
theorem dX6_turn_34 : decode cX6_turn 34 = .ok (.iconst 0, 1) := zo_3 (by decide +kernel)
theorem dX6_turn_35 : decode cX6_turn 35 = .ok (.istore 5, 2) := zo_54 (by decide +kernel)
theorem dX6_turn_37 : decode cX6_turn 37 = .ok (.iload 5, 2) := zo_21 (by decide +kernel)
theorem dX6_turn_39 : decode cX6_turn 39 = .ok (.iload_n 2, 1) := zo_28 (by decide +kernel)
theorem dX6_turn_40 : decode cX6_turn 40 = .ok (.if_icmp .ge 47, 3) := zo_162 (by decide +kernel)
theorem dX6_turn_43 : decode cX6_turn 43 = .ok (.iload 4, 2) := zo_21 (by decide +kernel)
theorem dX6_turn_45 : decode cX6_turn 45 = .ok (.iconst 1, 1) := zo_4 (by decide +kernel)
theorem dX6_turn_46 : decode cX6_turn 46 = .ok (.iadd, 1) := zo_96 (by decide +kernel)
theorem dX6_turn_47 : decode cX6_turn 47 = .ok (.iload_n 2, 1) := zo_28 (by decide +kernel)
theorem dX6_turn_48 : decode cX6_turn 48 = .ok (.if_icmp .ge 10, 3) := zo_162 (by decide +kernel)
theorem dX6_turn_51 : decode cX6_turn 51 = .ok (.iload 4, 2) := zo_21 (by decide +kernel)
theorem dX6_turn_53 : decode cX6_turn 53 = .ok (.iconst 1, 1) := zo_4 (by decide +kernel)
theorem dX6_turn_54 : decode cX6_turn 54 = .ok (.iadd, 1) := zo_96 (by decide +kernel)
theorem dX6_turn_55 : decode cX6_turn 55 = .ok (.goto 4, 3) := zo_167 (by decide +kernel)
theorem dX6_turn_58 : decode cX6_turn 58 = .ok (.iconst 0, 1) := zo_3 (by decide +kernel)
theorem dX6_turn_59 : decode cX6_turn 59 = .ok (.istore 4, 2) := zo_54 (by decide +kernel)
theorem dX6_turn_61 : decode cX6_turn 61 = .ok (.iload_n 3, 1) := zo_29 (by decide +kernel)
theorem dX6_turn_62 : decode cX6_turn 62 = .ok (.iload 4, 2) := zo_21 (by decide +kernel)
theorem dX6_turn_64 : decode cX6_turn 64 = .ok (.ishr, 1) := zo_122 (by decide +kernel)
theorem dX6_turn_65 : decode cX6_turn 65 = .ok (.iconst 1, 1) := zo_4 (by decide +kernel)
theorem dX6_turn_66 : decode cX6_turn 66 = .ok (.iand, 1) := zo_126 (by decide +kernel)
theorem dX6_turn_67 : decode cX6_turn 67 = .ok (.ifCond .ne 14, 3) := zo_154 (by decide +kernel)
theorem dX6_turn_70 : decode cX6_turn 70 = .ok (.aload_n 0, 1) := zo_42 (by decide +kernel)
theorem dX6_turn_71 : decode cX6_turn 71 = .ok (.getfield 18, 3) := zo_180 (by decide +kernel)
theorem dX6_turn_74 : decode cX6_turn 74 = .ok (.iload_n 1, 1) := zo_27 (by decide +kernel)
theorem dX6_turn_75 : decode cX6_turn 75 = .ok (.iload 4, 2) := zo_21 (by decide +kernel)
theorem dX6_turn_77 : decode cX6_turn 77 = .ok (.iastore, 1) := zo_79 (by decide +kernel)
theorem dX6_turn_78 : decode cX6_turn 78 = .ok (.iload 4, 2) := zo_21 (by decide +kernel)
theorem dX6_turn_80 : decode cX6_turn 80 = .ok (.ireturn, 1) := zo_172 (by decide +kernel)
theorem dX6_turn_81 : decode cX6_turn 81 = .ok (.iinc 5 1, 3) := zo_132 (by decide +kernel)
theorem dX6_turn_84 : decode cX6_turn 84 = .ok (.goto (-47), 3) := zo_167 (by decide +kernel)
theorem dX6_turn_87 : decode cX6_turn 87 = .ok (.iconst (-1), 1) := zo_2 (by decide +kernel)
theorem dX6_turn_88 : decode cX6_turn 88 = .ok (.ireturn, 1) := zo_172 (by decide +kernel)
theorem dX6_step_0 : decode cX6_step 0 = .ok (.aload_n 0, 1) := zo_42 (by decide +kernel)
theorem dX6_step_1 : decode cX6_step 1 = .ok (.iload_n 1, 1) := zo_27 (by decide +kernel)
theorem dX6_step_2 : decode cX6_step 2 = .ok (.invokevirtual 43, 3) := zo_182 (by decide +kernel)
theorem dX6_step_5 : decode cX6_step 5 = .ok (.istore_n 2, 1) := zo_61 (by decide +kernel)
theorem dX6_step_6 : decode cX6_step 6 = .ok (.iload_n 1, 1) := zo_27 (by decide +kernel)
theorem dX6_step_7 : decode cX6_step 7 = .ok (.iconst 4, 1) := zo_7 (by decide +kernel)
theorem dX6_step_8 : decode cX6_step 8 = .ok (.imul, 1) := zo_104 (by decide +kernel)
theorem dX6_step_9 : decode cX6_step 9 = .ok (.iload_n 2, 1) := zo_28 (by decide +kernel)
theorem dX6_step_10 : decode cX6_step 10 = .ok (.iadd, 1) := zo_96 (by decide +kernel)
theorem dX6_step_11 : decode cX6_step 11 = .ok (.istore_n 3, 1) := zo_62 (by decide +kernel)
theorem dX6_step_12 : decode cX6_step 12 = .ok (.iload_n 2, 1) := zo_28 (by decide +kernel)
theorem dX6_step_13 : decode cX6_step 13 = .ok (.ifCond .lt 21, 3) := zo_155 (by decide +kernel)
theorem dX6_step_16 : decode cX6_step 16 = .ok (.iload_n 3, 1) := zo_29 (by decide +kernel)
theorem dX6_step_17 : decode cX6_step 17 = .ok (.bipush 28, 2) := zo_16 (by decide +kernel)
theorem dX6_step_19 : decode cX6_step 19 = .ok (.if_icmp .ge 15, 3) := zo_162 (by decide +kernel)
theorem dX6_step_22 : decode cX6_step 22 = .ok (.aload_n 0, 1) := zo_42 (by decide +kernel)
theorem dX6_step_23 : decode cX6_step 23 = .ok (.getfield 12, 3) := zo_180 (by decide +kernel)
theorem dX6_step_26 : decode cX6_step 26 = .ok (.getfield 46, 3) := zo_180 (by decide +kernel)
theorem dX6_step_29 : decode cX6_step 29 = .ok (.iload_n 3, 1) := zo_29 (by decide +kernel)
theorem dX6_step_30 : decode cX6_step 30 = .ok (.iaload, 1) := zo_46 (by decide +kernel)
theorem dX6_step_31 : decode cX6_step 31 = .ok (.goto 4, 3) := zo_167 (by decide +kernel)
theorem dX6_step_34 : decode cX6_step 34 = .ok (.iconst (-1), 1) := zo_2 (by decide +kernel)
theorem dX6_step_35 : decode cX6_step 35 = .ok (.ireturn, 1) := zo_172 (by decide +kernel)
theorem dX6_run_0 : decode cX6_run 0 = .ok (.aload_n 0, 1) := zo_42 (by decide +kernel)
theorem dX6_run_1 : decode cX6_run 1 = .ok (.iload_n 1, 1) := zo_27 (by decide +kernel)
theorem dX6_run_2 : decode cX6_run 2 = .ok (.putfield 32, 3) := zo_181 (by decide +kernel)
theorem dX6_run_5 : decode cX6_run 5 = .ok (.aload_n 0, 1) := zo_42 (by decide +kernel)
theorem dX6_run_6 : decode cX6_run 6 = .ok (.iconst 0, 1) := zo_3 (by decide +kernel)
theorem dX6_run_7 : decode cX6_run 7 = .ok (.putfield 28, 3) := zo_181 (by decide +kernel)
theorem dX6_run_10 : decode cX6_run 10 = .ok (.iconst 0, 1) := zo_3 (by decide +kernel)
theorem dX6_run_11 : decode cX6_run 11 = .ok (.istore_n 2, 1) := zo_61 (by decide +kernel)
theorem dX6_run_12 : decode cX6_run 12 = .ok (.iload_n 2, 1) := zo_28 (by decide +kernel)
theorem dX6_run_13 : decode cX6_run 13 = .ok (.sipush 499, 3) := zo_17 (by decide +kernel)
theorem dX6_run_16 : decode cX6_run 16 = .ok (.if_icmp .ge 39, 3) := zo_162 (by decide +kernel)
theorem dX6_run_19 : decode cX6_run 19 = .ok (.aload_n 0, 1) := zo_42 (by decide +kernel)
theorem dX6_run_20 : decode cX6_run 20 = .ok (.aload_n 0, 1) := zo_42 (by decide +kernel)
theorem dX6_run_21 : decode cX6_run 21 = .ok (.getfield 32, 3) := zo_180 (by decide +kernel)
theorem dX6_run_24 : decode cX6_run 24 = .ok (.invokevirtual 49, 3) := zo_182 (by decide +kernel)
theorem dX6_run_27 : decode cX6_run 27 = .ok (.istore_n 3, 1) := zo_62 (by decide +kernel)
theorem dX6_run_28 : decode cX6_run 28 = .ok (.iload_n 3, 1) := zo_29 (by decide +kernel)
theorem dX6_run_29 : decode cX6_run 29 = .ok (.iconst (-1), 1) := zo_2 (by decide +kernel)
theorem dX6_run_30 : decode cX6_run 30 = .ok (.if_icmp .ne 4, 3) := zo_160 (by decide +kernel)
theorem dX6_run_33 : decode cX6_run 33 = .ok (.return_, 1) := zo_177 (by decide +kernel)
theorem dX6_run_34 : decode cX6_run 34 = .ok (.aload_n 0, 1) := zo_42 (by decide +kernel)
theorem dX6_run_35 : decode cX6_run 35 = .ok (.iload_n 3, 1) := zo_29 (by decide +kernel)
theorem dX6_run_36 : decode cX6_run 36 = .ok (.putfield 32, 3) := zo_181 (by decide +kernel)
theorem dX6_run_39 : decode cX6_run 39 = .ok (.aload_n 0, 1) := zo_42 (by decide +kernel)
theorem dX6_run_40 : decode cX6_run 40 = .ok (.dup, 1) := zo_89 (by decide +kernel)
theorem dX6_run_41 : decode cX6_run 41 = .ok (.getfield 28, 3) := zo_180 (by decide +kernel)
theorem dX6_run_44 : decode cX6_run 44 = .ok (.iconst 1, 1) := zo_4 (by decide +kernel)
theorem dX6_run_45 : decode cX6_run 45 = .ok (.iadd, 1) := zo_96 (by decide +kernel)
theorem dX6_run_46 : decode cX6_run 46 = .ok (.putfield 28, 3) := zo_181 (by decide +kernel)
theorem dX6_run_49 : decode cX6_run 49 = .ok (.iinc 2 1, 3) := zo_132 (by decide +kernel)
theorem dX6_run_52 : decode cX6_run 52 = .ok (.goto (-40), 3) := zo_167 (by decide +kernel)
theorem dX6_run_55 : decode cX6_run 55 = .ok (.return_, 1) := zo_177 (by decide +kernel)
theorem dX6_code_0 : decode cX6_code 0 = .ok (.iconst 0, 1) := zo_3 (by decide +kernel)
theorem dX6_code_1 : decode cX6_code 1 = .ok (.istore_n 1, 1) := zo_60 (by decide +kernel)
theorem dX6_code_2 : decode cX6_code 2 = .ok (.iconst 0, 1) := zo_3 (by decide +kernel)
theorem dX6_code_3 : decode cX6_code 3 = .ok (.istore_n 2, 1) := zo_61 (by decide +kernel)
theorem dX6_code_4 : decode cX6_code 4 = .ok (.iload_n 2, 1) := zo_28 (by decide +kernel)
theorem dX6_code_5 : decode cX6_code 5 = .ok (.bipush 7, 2) := zo_16 (by decide +kernel)
theorem dX6_code_7 : decode cX6_code 7 = .ok (.if_icmp .ge 20, 3) := zo_162 (by decide +kernel)
theorem dX6_code_10 : decode cX6_code 10 = .ok (.iload_n 1, 1) := zo_27 (by decide +kernel)
theorem dX6_code_11 : decode cX6_code 11 = .ok (.iconst 4, 1) := zo_7 (by decide +kernel)
theorem dX6_code_12 : decode cX6_code 12 = .ok (.imul, 1) := zo_104 (by decide +kernel)
theorem dX6_code_13 : decode cX6_code 13 = .ok (.aload_n 0, 1) := zo_42 (by decide +kernel)
theorem dX6_code_14 : decode cX6_code 14 = .ok (.getfield 18, 3) := zo_180 (by decide +kernel)
theorem dX6_code_17 : decode cX6_code 17 = .ok (.iload_n 2, 1) := zo_28 (by decide +kernel)
theorem dX6_code_18 : decode cX6_code 18 = .ok (.iaload, 1) := zo_46 (by decide +kernel)
theorem dX6_code_19 : decode cX6_code 19 = .ok (.iadd, 1) := zo_96 (by decide +kernel)
theorem dX6_code_20 : decode cX6_code 20 = .ok (.istore_n 1, 1) := zo_60 (by decide +kernel)
theorem dX6_code_21 : decode cX6_code 21 = .ok (.iinc 2 1, 3) := zo_132 (by decide +kernel)
theorem dX6_code_24 : decode cX6_code 24 = .ok (.goto (-20), 3) := zo_167 (by decide +kernel)
theorem dX6_code_27 : decode cX6_code 27 = .ok (.iload_n 1, 1) := zo_27 (by decide +kernel)
theorem dX6_code_28 : decode cX6_code 28 = .ok (.ireturn, 1) := zo_172 (by decide +kernel)

set_option maxHeartbeats 4000000 in
set_option maxRecDepth 100000 in
/-- arrive -/
theorem c_arrive (l : Launch) (T : zTy) (h : Nat) (po : Nat) (t1 : Nat → Int32) (t2 : Nat → Int32) (v0 : Int32) (v1 : Int32) (v2 : Int32) (v3 : Int32) (v4 : Int32) (wt : va_W) (x : Int32) (y : Int32) (ht : bTrail T h po t1 t2 v0 v1 v2 v3 v4 wt) : zMi l T yX10_arrive cX10_arrive 4 (some .int) 1 0 0 [.ref h, .int x, .int y] [wt] (fun (r : Int32) bs => ∃ (wt2 : va_W) (s1 : Nat → Int32) (u3 : Int32), bs = [wt2] ∧ bTrail T h po s1 t2 v0 v1 x u3 v4 wt2) := by
  refine zMi_of (own := RX10) (by decide) rfl (Nat.le_of_ble_eq_true rfl) ?_
  intro p e s m args below meth c A ls C hr hlocks hnm hAe G hl
  refine zHide (fun Q9 hQ9 => ?_)
  have hx := C.1
  have hb := C.2.1
  have hl : lv_has ls 4 [(0, .ref h), (1, .int x), (2, .int y)] := hl
  refine lv_aload_n hx hb dX10_arrive_0 rfl (lv_at hl 0 rfl) ?_
  refine lv_iload_n hx hb dX10_arrive_1 rfl (lv_at hl 1 rfl) ?_
  refine zEx2 ht ?_
  intro a1_1 a2_2 hbs9
  clear ht
  subst hbs9
  have G : zS T A s.heap s [[zO9 h po a1_1 a2_2 v0 v1 v2 v3 v4], [zAr T 0 a1_1 7 t1], [zAr T 0 a2_2 7 t2]] _ _ := G.re rfl
  refine z_put C G clX10 0 rfl 5 (by decide) m_fl_RX10_51 rfl rfl rfl (Nat.le_of_ble_eq_true rfl) dX10_arrive_2 (fun H locs G => ?_)
  have G : zS T A s.heap s [[zO9 h po a1_1 a2_2 v0 v1 x v3 v4], [zAr T 0 a1_1 7 t1], [zAr T 0 a2_2 7 t2]] _ _ := G
  refine lv_iload_n hx hb dX10_arrive_5 rfl (lv_at hl 1 rfl) ?_
  refine lv_if_lt (tgt := 15) hx hb dX10_arrive_6 (by decide) (fun c_3 => ?_) (fun c_3 => ?_)
  · have c_3n : x.toInt < (0 : Int) := (fa_lt _ _).mp c_3
    refine lv_iload_n hx hb dX10_arrive_15 rfl (lv_at hl 2 rfl) ?_
    have hw_4 : bTrail T h po t1 t2 v0 v1 x v3 v4 [zO9 h po a1_1 a2_2 v0 v1 x v3 v4, zAr T 0 a1_1 7 t1, zAr T 0 a2_2 7 t2] := ⟨a1_1, a2_2, rfl⟩
    have G : zS T A s.heap s [[zO9 h po a1_1 a2_2 v0 v1 x v3 v4, zAr T 0 a1_1 7 t1, zAr T 0 a2_2 7 t2]] _ _ := G.re rfl
    exact z_back hQ9 (z_iret C hr hlocks G (Nat.le_of_ble_eq_true rfl) (Nat.le_of_ble_eq_true rfl) dX10_arrive_16 ⟨([zO9 h po a1_1 a2_2 v0 v1 x v3 v4, zAr T 0 a1_1 7 t1, zAr T 0 a2_2 7 t2]), t1, v3, rfl, hw_4⟩)
  · have c_3n : ¬ x.toInt < (0 : Int) := fun q => c_3 ((fa_lt _ _).mpr q)
    refine lv_iload_n hx hb dX10_arrive_9 rfl (lv_at hl 1 rfl) ?_
    refine lv_bipush (v := 7) hx hb dX10_arrive_10 (by decide) ?_
    refine lv_icmp_lt (tgt := 17) hx hb dX10_arrive_12 (by decide) (fun c_5 => ?_) (fun c_5 => ?_)
    · have c_5n : x.toInt < (7 : Int) := (fa_lt _ _).mp c_5
      refine lv_aload_n hx hb dX10_arrive_17 rfl (lv_at hl 0 rfl) ?_
      refine z_get C G clX10 0 rfl 1 (by decide) m_fl_RX10_18 rfl dX10_arrive_18 ?_
      refine lv_iload_n hx hb dX10_arrive_21 rfl (lv_at hl 1 rfl) ?_
      refine lv_dup2_11 hx hb dX10_arrive_22 rfl rfl ?_
      refine z_ild C G 1 rfl (vp_in_iff.mpr ⟨by omega, by omega⟩) dX10_arrive_23 ?_
      refine lv_topi (fun v_6 ev_6 => ?_)
      subst ev_6
      refine lv_iconst (v := 1) hx hb dX10_arrive_24 (by decide) ?_
      refine lv_iadd hx hb dX10_arrive_25 ?_
      refine z_ist C G 1 rfl (vp_in_iff.mpr ⟨by omega, by omega⟩) dX10_arrive_26 (fun H locs G => ?_)
      have G : zS T A s.heap s [[zO9 h po a1_1 a2_2 v0 v1 x v3 v4], [zAr T 0 a1_1 7 (upd t1 x.toNatClampNeg ((t1 x.toNatClampNeg) + 1))], [zAr T 0 a2_2 7 t2]] _ _ := G
      refine lv_iload_n hx hb dX10_arrive_27 rfl (lv_at hl 2 rfl) ?_
      refine lv_iconst (v := 1) hx hb dX10_arrive_28 (by decide) ?_
      refine lv_iload_n hx hb dX10_arrive_29 rfl (lv_at hl 1 rfl) ?_
      refine lv_ishl hx hb dX10_arrive_30 ?_
      refine lv_ior hx hb dX10_arrive_31 ?_
      refine lv_istore_n (lv' := [(3, .int (y ||| (1 <<< (x &&& 31)))), (0, .ref h), (1, .int x), (2, .int y)]) hx hb dX10_arrive_32 rfl hl (by decide) rfl (fun ls hl => ?_)
      refine lv_aload_n hx hb dX10_arrive_33 rfl (lv_at hl 1 rfl) ?_
      refine lv_aload_n hx hb dX10_arrive_34 rfl (lv_at hl 1 rfl) ?_
      refine z_get C G clX10 0 rfl 6 (by decide) m_fl_RX10_44 rfl dX10_arrive_35 ?_
      refine lv_iconst (v := (-1)) hx hb dX10_arrive_38 (by decide) ?_
      refine lv_icmp_ne (tgt := 57) hx hb dX10_arrive_39 (by decide) (fun c_7 => ?_) (fun c_7 => ?_)
      · have c_7n : ¬ v3.toInt = (-1 : Int) := fun q => c_7 ((fa_eq _ _).mpr q)
        refine lv_aload_n hx hb dX10_arrive_57 rfl (lv_at hl 1 rfl) ?_
        refine z_get C G clX10 0 rfl 6 (by decide) m_fl_RX10_44 rfl dX10_arrive_58 ?_
        refine z_put C G clX10 0 rfl 6 (by decide) m_fl_RX10_44 rfl rfl rfl (Nat.le_of_ble_eq_true rfl) dX10_arrive_61 (fun H locs G => ?_)
        have G : zS T A s.heap s [[zO9 h po a1_1 a2_2 v0 v1 x v3 v4], [zAr T 0 a1_1 7 (upd t1 x.toNatClampNeg ((t1 x.toNatClampNeg) + 1))], [zAr T 0 a2_2 7 t2]] _ _ := G
        refine lv_iload_n hx hb dX10_arrive_64 rfl (lv_at hl 0 rfl) ?_
        have hw_8 : bTrail T h po (upd t1 x.toNatClampNeg ((t1 x.toNatClampNeg) + 1)) t2 v0 v1 x v3 v4 [zO9 h po a1_1 a2_2 v0 v1 x v3 v4, zAr T 0 a1_1 7 (upd t1 x.toNatClampNeg ((t1 x.toNatClampNeg) + 1)), zAr T 0 a2_2 7 t2] := ⟨a1_1, a2_2, rfl⟩
        have G : zS T A s.heap s [[zO9 h po a1_1 a2_2 v0 v1 x v3 v4, zAr T 0 a1_1 7 (upd t1 x.toNatClampNeg ((t1 x.toNatClampNeg) + 1)), zAr T 0 a2_2 7 t2]] _ _ := G.re rfl
        exact z_back hQ9 (z_iret C hr hlocks G (Nat.le_of_ble_eq_true rfl) (Nat.le_of_ble_eq_true rfl) dX10_arrive_65 ⟨([zO9 h po a1_1 a2_2 v0 v1 x v3 v4, zAr T 0 a1_1 7 (upd t1 x.toNatClampNeg ((t1 x.toNatClampNeg) + 1)), zAr T 0 a2_2 7 t2]), (upd t1 x.toNatClampNeg ((t1 x.toNatClampNeg) + 1)), v3, rfl, hw_8⟩)
      · have c_7n : v3.toInt = (-1 : Int) := (fa_eq _ _).mp c_7
        refine lv_iload_n hx hb dX10_arrive_42 rfl (lv_at hl 0 rfl) ?_
        refine lv_aload_n hx hb dX10_arrive_43 rfl (lv_at hl 1 rfl) ?_
        refine z_get C G clX10 0 rfl 3 (by decide) m_fl_RX10_35 rfl dX10_arrive_44 ?_
        refine lv_icmp_ne (tgt := 57) hx hb dX10_arrive_47 (by decide) (fun c_9 => ?_) (fun c_9 => ?_)
        · have c_9n : ¬ (y ||| (1 <<< (x &&& 31))).toInt = v0.toInt := fun q => c_9 ((fa_eq _ _).mpr q)
          refine lv_aload_n hx hb dX10_arrive_57 rfl (lv_at hl 1 rfl) ?_
          refine z_get C G clX10 0 rfl 6 (by decide) m_fl_RX10_44 rfl dX10_arrive_58 ?_
          refine z_put C G clX10 0 rfl 6 (by decide) m_fl_RX10_44 rfl rfl rfl (Nat.le_of_ble_eq_true rfl) dX10_arrive_61 (fun H locs G => ?_)
          have G : zS T A s.heap s [[zO9 h po a1_1 a2_2 v0 v1 x v3 v4], [zAr T 0 a1_1 7 (upd t1 x.toNatClampNeg ((t1 x.toNatClampNeg) + 1))], [zAr T 0 a2_2 7 t2]] _ _ := G
          refine lv_iload_n hx hb dX10_arrive_64 rfl (lv_at hl 0 rfl) ?_
          have hw_10 : bTrail T h po (upd t1 x.toNatClampNeg ((t1 x.toNatClampNeg) + 1)) t2 v0 v1 x v3 v4 [zO9 h po a1_1 a2_2 v0 v1 x v3 v4, zAr T 0 a1_1 7 (upd t1 x.toNatClampNeg ((t1 x.toNatClampNeg) + 1)), zAr T 0 a2_2 7 t2] := ⟨a1_1, a2_2, rfl⟩
          have G : zS T A s.heap s [[zO9 h po a1_1 a2_2 v0 v1 x v3 v4, zAr T 0 a1_1 7 (upd t1 x.toNatClampNeg ((t1 x.toNatClampNeg) + 1)), zAr T 0 a2_2 7 t2]] _ _ := G.re rfl
          exact z_back hQ9 (z_iret C hr hlocks G (Nat.le_of_ble_eq_true rfl) (Nat.le_of_ble_eq_true rfl) dX10_arrive_65 ⟨([zO9 h po a1_1 a2_2 v0 v1 x v3 v4, zAr T 0 a1_1 7 (upd t1 x.toNatClampNeg ((t1 x.toNatClampNeg) + 1)), zAr T 0 a2_2 7 t2]), (upd t1 x.toNatClampNeg ((t1 x.toNatClampNeg) + 1)), v3, rfl, hw_10⟩)
        · have c_9n : (y ||| (1 <<< (x &&& 31))).toInt = v0.toInt := (fa_eq _ _).mp c_9
          refine lv_aload_n hx hb dX10_arrive_50 rfl (lv_at hl 1 rfl) ?_
          refine z_get C G clX10 0 rfl 4 (by decide) m_fl_RX10_38 rfl dX10_arrive_51 ?_
          refine lv_goto (tgt := 61) hx hb dX10_arrive_54 (by decide) ?_
          refine z_put C G clX10 0 rfl 6 (by decide) m_fl_RX10_44 rfl rfl rfl (Nat.le_of_ble_eq_true rfl) dX10_arrive_61 (fun H locs G => ?_)
          have G : zS T A s.heap s [[zO9 h po a1_1 a2_2 v0 v1 x v1 v4], [zAr T 0 a1_1 7 (upd t1 x.toNatClampNeg ((t1 x.toNatClampNeg) + 1))], [zAr T 0 a2_2 7 t2]] _ _ := G
          refine lv_iload_n hx hb dX10_arrive_64 rfl (lv_at hl 0 rfl) ?_
          have hw_11 : bTrail T h po (upd t1 x.toNatClampNeg ((t1 x.toNatClampNeg) + 1)) t2 v0 v1 x v1 v4 [zO9 h po a1_1 a2_2 v0 v1 x v1 v4, zAr T 0 a1_1 7 (upd t1 x.toNatClampNeg ((t1 x.toNatClampNeg) + 1)), zAr T 0 a2_2 7 t2] := ⟨a1_1, a2_2, rfl⟩
          have G : zS T A s.heap s [[zO9 h po a1_1 a2_2 v0 v1 x v1 v4, zAr T 0 a1_1 7 (upd t1 x.toNatClampNeg ((t1 x.toNatClampNeg) + 1)), zAr T 0 a2_2 7 t2]] _ _ := G.re rfl
          exact z_back hQ9 (z_iret C hr hlocks G (Nat.le_of_ble_eq_true rfl) (Nat.le_of_ble_eq_true rfl) dX10_arrive_65 ⟨([zO9 h po a1_1 a2_2 v0 v1 x v1 v4, zAr T 0 a1_1 7 (upd t1 x.toNatClampNeg ((t1 x.toNatClampNeg) + 1)), zAr T 0 a2_2 7 t2]), (upd t1 x.toNatClampNeg ((t1 x.toNatClampNeg) + 1)), v1, rfl, hw_11⟩)
    · have c_5n : ¬ x.toInt < (7 : Int) := fun q => c_5 ((fa_lt _ _).mpr q)
      refine lv_iload_n hx hb dX10_arrive_15 rfl (lv_at hl 2 rfl) ?_
      have hw_12 : bTrail T h po t1 t2 v0 v1 x v3 v4 [zO9 h po a1_1 a2_2 v0 v1 x v3 v4, zAr T 0 a1_1 7 t1, zAr T 0 a2_2 7 t2] := ⟨a1_1, a2_2, rfl⟩
      have G : zS T A s.heap s [[zO9 h po a1_1 a2_2 v0 v1 x v3 v4, zAr T 0 a1_1 7 t1, zAr T 0 a2_2 7 t2]] _ _ := G.re rfl
      exact z_back hQ9 (z_iret C hr hlocks G (Nat.le_of_ble_eq_true rfl) (Nat.le_of_ble_eq_true rfl) dX10_arrive_16 ⟨([zO9 h po a1_1 a2_2 v0 v1 x v3 v4, zAr T 0 a1_1 7 t1, zAr T 0 a2_2 7 t2]), t1, v3, rfl, hw_12⟩)
set_option maxHeartbeats 4000000 in
set_option maxRecDepth 100000 in
/-- follow -/
theorem c_follow (l : Launch) (T : zTy) (h : Nat) (po : Nat) (t1 : Nat → Int32) (t2 : Nat → Int32) (v0 : Int32) (v1 : Int32) (v2 : Int32) (v3 : Int32) (v4 : Int32) (wt : va_W) (la : Nat) (f1 : Nat → Int32) (f2 : Nat → Int32) (f3 : Nat → Int32) (st : Int32) (wh : Int32) (wp : va_W) (o : Nat) (cr : Int32) (inn : Int32) (k1 : Nat → Int32) (k2 : Nat → Int32) (k3 : Nat → Int32) (k4 : Nat → Int32) (z : va_W) (x : Int32) (ht : bTrail T h po t1 t2 v0 v1 v2 v3 v4 wt) (hp : bPosts T po la f1 f2 f3 st wh wp) (hz : bLand T o cr inn k1 k2 k3 k4 z) (hI : zLI cr k1 k3) : zMv l T yX10_follow cX10_follow 6 5 0 0 [.ref h, .ref o, .int x] [wt, wp, z] (fun bs => ∃ (wt2 : va_W) (s1 : Nat → Int32) (s2 : Nat → Int32) (u0 : Int32) (u1 : Int32) (u2 : Int32) (u3 : Int32) (u4 : Int32) (wp2 : va_W) (g1 : Nat → Int32) (g2 : Nat → Int32) (g3 : Nat → Int32) (sa : Int32) (wa : Int32), bs = [wt2, wp2, z] ∧ bTrail T h po s1 s2 u0 u1 u2 u3 u4 wt2 ∧ bPosts T po o g1 g2 g3 sa wa wp2 ∧ zP3 g1 g3) := by
  refine zMv_of (own := RX10) (by decide) rfl (Nat.le_of_ble_eq_true rfl) ?_
  intro p e s m args below meth c A ls C hr hlocks hnm hAe G hl
  refine zHide (fun Q9 hQ9 => ?_)
  have hx := C.1
  have hb := C.2.1
  have hl : lv_has ls 6 [(0, .ref h), (1, .ref o), (2, .int x)] := hl
  refine lv_aload_n hx hb dX10_follow_0 rfl (lv_at hl 0 rfl) ?_
  refine zEx2 ht ?_
  intro a1_1 a2_2 hbs9
  clear ht
  subst hbs9
  have G : zS T A s.heap s [[zO9 h po a1_1 a2_2 v0 v1 v2 v3 v4], [zAr T 0 a1_1 7 t1], [zAr T 0 a2_2 7 t2], wp, z] _ _ := G.re rfl
  refine z_get C G clX10 0 rfl 0 (by decide) m_fl_RX10_12 rfl dX10_follow_1 ?_
  refine lv_aload_n hx hb dX10_follow_4 rfl (lv_at hl 1 rfl) ?_
  refine z_Vv (bc := [wp, z]) (br := [[zO9 h po a1_1 a2_2 v0 v1 v2 v3 v4], [zAr T 0 a1_1 7 t1], [zAr T 0 a2_2 7 t2]]) (As := [.ref o]) (rest := []) C G (c_Posts_begin l T po la f1 f2 f3 st wh wp o cr inn k1 k2 k3 k4 z hp hz) (kV_RX10_25 C.2.2.2.2 (Nat.le_of_ble_eq_true rfl) (Nat.le_of_ble_eq_true rfl)) [3, 4] [3, 0] rfl rfl (ci := 6) (qc := (RX6, TX6, 6)) rfl rfl (List.mem_flatten.mpr ⟨_, List.mem_of_getElem? (i := 0) rfl, (bPosts_mem hp).choose_spec⟩) rfl rfl hl.1 dX10_follow_5 (Nat.le_of_ble_eq_true rfl) (Nat.le_of_ble_eq_true rfl) (fun b1 H locs hw G => ?_)
  refine zEx4 hw ?_
  intro w2_3 g1_4 g2_5 g3_6
  refine zCu5 ?_
  intro hbs9 h_7 h_8 h_9 h_10
  clear hw
  subst hbs9
  have G : zS T A s.heap s [[zO9 h po a1_1 a2_2 v0 v1 v2 v3 v4], [zAr T 0 a1_1 7 t1], [zAr T 0 a2_2 7 t2], w2_3, z] _ _ := G
  have hQ : zP3 g1_4 g3_6 := z_P3 hI h_8 h_10
  refine lv_iconst (v := 0) hx hb dX10_follow_8 (by decide) ?_
  refine lv_istore_n (lv' := [(3, .int 0), (0, .ref h), (1, .ref o), (2, .int x)]) hx hb dX10_follow_9 rfl hl (by decide) rfl (fun ls hl => ?_)
  have hw_12 : bTrail T h po t1 t2 v0 v1 v2 v3 v4 [zO9 h po a1_1 a2_2 v0 v1 v2 v3 v4, zAr T 0 a1_1 7 t1, zAr T 0 a2_2 7 t2] := ⟨a1_1, a2_2, rfl⟩
  have G : zS T A s.heap s [[zO9 h po a1_1 a2_2 v0 v1 v2 v3 v4, zAr T 0 a1_1 7 t1, zAr T 0 a2_2 7 t2], w2_3, z] _ _ := G.re rfl
  refine z_lp4 (T := T) 10 (fun (i : Nat) (wt4 : va_W) (x1 : Nat → Int32) (x2 : Nat → Int32) => [wt4, w2_3, z]) (fun (i : Nat) (wt4 : va_W) (x1 : Nat → Int32) (x2 : Nat → Int32) => [(3, .int (nI i)), (0, .ref h), (1, .ref o), (2, .int x)]) (fun (i : Nat) (wt4 : va_W) (x1 : Nat → Int32) (x2 : Nat → Int32) => bTrail T h po x1 x2 v0 v1 v2 v3 v4 wt4 ∧ i ≤ 7) (fun (i : Nat) (wt4 : va_W) (x1 : Nat → Int32) (x2 : Nat → Int32) => 7 - i) ?_ 0 ([zO9 h po a1_1 a2_2 v0 v1 v2 v3 v4, zAr T 0 a1_1 7 t1, zAr T 0 a2_2 7 t2]) t1 t2 (show bTrail T h po t1 t2 v0 v1 v2 v3 v4 ([zO9 h po a1_1 a2_2 v0 v1 v2 v3 v4, zAr T 0 a1_1 7 t1, zAr T 0 a2_2 7 t2]) ∧ 0 ≤ 7 from ⟨hw_12, by omega⟩) G (lv_sub hl [0, 1, 2, 3] rfl)
  intro i wt4 x1 x2 hI9 ih_10 H locs ls G hl
  replace hI9 : bTrail T h po x1 x2 v0 v1 v2 v3 v4 wt4 ∧ i ≤ 7 := hI9
  refine zAn2 hI9 ?_
  intro ht4 hi
  clear hI9
  replace G : zS T A s.heap s [wt4, w2_3, z] _ _ := G
  replace hl : lv_has ls 6 [(3, .int (nI i)), (0, .ref h), (1, .ref o), (2, .int x)] := hl
  refine lv_iload_n hx hb dX10_follow_10 rfl (lv_at hl 0 rfl) ?_
  refine lv_bipush (v := 7) hx hb dX10_follow_11 (by decide) ?_
  refine lv_icmp_ge (tgt := 36) hx hb dX10_follow_13 (by decide) (fun c_13 => ?_) (fun c_13 => ?_)
  · have c_13n : 7 ≤ i := (nI_leI (a := 7) (b := i) (by omega) (by omega)).mp c_13
    refine lv_aload_n hx hb dX10_follow_36 rfl (lv_at hl 1 rfl) ?_
    refine lv_aload_n hx hb dX10_follow_37 rfl (lv_at hl 2 rfl) ?_
    refine lv_iload_n hx hb dX10_follow_38 rfl (lv_at hl 3 rfl) ?_
    refine z_Si (bc := [z]) (br := [wt4, w2_3]) (As := [.ref o, .int x]) (rest := [.ref h]) C G (c_reached l T o cr inn k1 k2 k3 k4 z x hz hI) (kS_RX10_29 C.2.2.2.2 (Nat.le_of_ble_eq_true rfl) (Nat.le_of_ble_eq_true rfl)) [2] [2] rfl rfl rfl rfl hl.1 dX10_follow_39 (Nat.le_of_ble_eq_true rfl) (Nat.le_of_ble_eq_true rfl) (fun r_15 b1 H locs hw G => ?_)
    refine zAn2 hw ?_
    intro hbs9 h_14
    clear hw
    subst hbs9
    have G : zS T A s.heap s [wt4, w2_3, z] _ _ := G
    subst h_14
    refine zEx2 ht4 ?_
    intro a1_16 a2_17 hbs9
    clear ht4
    subst hbs9
    have G : zS T A s.heap s [[zO9 h po a1_16 a2_17 v0 v1 v2 v3 v4], [zAr T 0 a1_16 7 x1], [zAr T 0 a2_17 7 x2], w2_3, z] _ _ := G.re rfl
    refine z_put C G clX10 0 rfl 3 (by decide) m_fl_RX10_35 rfl rfl rfl (Nat.le_of_ble_eq_true rfl) dX10_follow_42 (fun H locs G => ?_)
    have G : zS T A s.heap s [[zO9 h po a1_16 a2_17 (zSeen cr inn k1 k2 (1 <<< (x &&& 31)) 7) v1 v2 v3 v4], [zAr T 0 a1_16 7 x1], [zAr T 0 a2_17 7 x2], w2_3, z] _ _ := G
    refine lv_aload_n hx hb dX10_follow_45 rfl (lv_at hl 1 rfl) ?_
    refine lv_iconst (v := 0) hx hb dX10_follow_46 (by decide) ?_
    refine z_put C G clX10 0 rfl 4 (by decide) m_fl_RX10_38 rfl rfl rfl (Nat.le_of_ble_eq_true rfl) dX10_follow_47 (fun H locs G => ?_)
    have G : zS T A s.heap s [[zO9 h po a1_16 a2_17 (zSeen cr inn k1 k2 (1 <<< (x &&& 31)) 7) 0 v2 v3 v4], [zAr T 0 a1_16 7 x1], [zAr T 0 a2_17 7 x2], w2_3, z] _ _ := G
    refine lv_aload_n hx hb dX10_follow_50 rfl (lv_at hl 1 rfl) ?_
    refine lv_iconst (v := (-1)) hx hb dX10_follow_51 (by decide) ?_
    refine z_put C G clX10 0 rfl 7 (by decide) m_fl_RX10_41 rfl rfl rfl (Nat.le_of_ble_eq_true rfl) dX10_follow_52 (fun H locs G => ?_)
    have G : zS T A s.heap s [[zO9 h po a1_16 a2_17 (zSeen cr inn k1 k2 (1 <<< (x &&& 31)) 7) 0 v2 v3 (-1)], [zAr T 0 a1_16 7 x1], [zAr T 0 a2_17 7 x2], w2_3, z] _ _ := G
    refine lv_aload_n hx hb dX10_follow_55 rfl (lv_at hl 1 rfl) ?_
    refine lv_iconst (v := (-1)) hx hb dX10_follow_56 (by decide) ?_
    refine z_put C G clX10 0 rfl 6 (by decide) m_fl_RX10_44 rfl rfl rfl (Nat.le_of_ble_eq_true rfl) dX10_follow_57 (fun H locs G => ?_)
    have G : zS T A s.heap s [[zO9 h po a1_16 a2_17 (zSeen cr inn k1 k2 (1 <<< (x &&& 31)) 7) 0 v2 (-1) (-1)], [zAr T 0 a1_16 7 x1], [zAr T 0 a2_17 7 x2], w2_3, z] _ _ := G
    refine lv_aload_n hx hb dX10_follow_60 rfl (lv_at hl 1 rfl) ?_
    refine lv_iload_n hx hb dX10_follow_61 rfl (lv_at hl 3 rfl) ?_
    refine lv_iconst (v := 0) hx hb dX10_follow_62 (by decide) ?_
    have hw_18 : bTrail T h po x1 x2 (zSeen cr inn k1 k2 (1 <<< (x &&& 31)) 7) 0 v2 (-1) (-1) [zO9 h po a1_16 a2_17 (zSeen cr inn k1 k2 (1 <<< (x &&& 31)) 7) 0 v2 (-1) (-1), zAr T 0 a1_16 7 x1, zAr T 0 a2_17 7 x2] := ⟨a1_16, a2_17, rfl⟩
    have G : zS T A s.heap s [[zO9 h po a1_16 a2_17 (zSeen cr inn k1 k2 (1 <<< (x &&& 31)) 7) 0 v2 (-1) (-1), zAr T 0 a1_16 7 x1, zAr T 0 a2_17 7 x2], w2_3, z] _ _ := G.re rfl
    refine z_Vi (bc := [[zO9 h po a1_16 a2_17 (zSeen cr inn k1 k2 (1 <<< (x &&& 31)) 7) 0 v2 (-1) (-1), zAr T 0 a1_16 7 x1, zAr T 0 a2_17 7 x2]]) (br := [w2_3, z]) (As := [.int x, .int 0]) (rest := []) C G (c_arrive l T h po x1 x2 (zSeen cr inn k1 k2 (1 <<< (x &&& 31)) 7) 0 v2 (-1) (-1) ([zO9 h po a1_16 a2_17 (zSeen cr inn k1 k2 (1 <<< (x &&& 31)) 7) 0 v2 (-1) (-1), zAr T 0 a1_16 7 x1, zAr T 0 a2_17 7 x2]) x 0 hw_18) (kV_RX10_47 C.2.2.2.2 (Nat.le_of_ble_eq_true rfl) (Nat.le_of_ble_eq_true rfl)) [0] [0] rfl rfl (ci := 9) (qc := (RX10, TX10, 8)) rfl rfl (List.mem_flatten.mpr ⟨_, List.mem_of_getElem? (i := 0) rfl, (bTrail_mem hw_18).choose_spec⟩) rfl rfl hl.1 dX10_follow_63 (Nat.le_of_ble_eq_true rfl) (Nat.le_of_ble_eq_true rfl) (fun r_23 b1 H locs hw G => ?_)
    refine zEx3 hw ?_
    intro wt2_19 s1_20 u3_21
    refine zCu2 ?_
    intro hbs9 h_22
    clear hw
    subst hbs9
    have G : zS T A s.heap s [w2_3, z, wt2_19] _ _ := G
    refine lv_istore_n (lv' := [(3, .int r_23), (0, .ref h), (1, .ref o), (2, .int x)]) hx hb dX10_follow_66 rfl hl (by decide) rfl (fun ls hl => ?_)
    refine lv_iconst (v := 0) hx hb dX10_follow_67 (by decide) ?_
    refine lv_istore (lv' := [(4, .int 0), (3, .int r_23), (0, .ref h), (1, .ref o), (2, .int x)]) hx hb dX10_follow_68 hl (by decide) rfl (fun ls hl => ?_)
    refine zEx2 h_22 ?_
    intro a1_24 a2_25 hbs9
    clear h_22
    subst hbs9
    have G : zS T A s.heap s [w2_3, z, [zO9 h po a1_24 a2_25 (zSeen cr inn k1 k2 (1 <<< (x &&& 31)) 7) 0 x u3_21 (-1)], [zAr T 0 a1_24 7 s1_20], [zAr T 0 a2_25 7 x2]] _ _ := G.re rfl
    refine zEx3 h_7 ?_
    intro a1_26 a2_27 a3_28 hbs9
    clear h_7
    subst hbs9
    have G : zS T A s.heap s [[zO6 po o a1_26 a2_27 0 0 a3_28], [zAr T 0 a1_26 7 g1_4], [zAr T 0 a2_27 7 g2_5], [zAr T 0 a3_28 7 g3_6], z, [zO9 h po a1_24 a2_25 (zSeen cr inn k1 k2 (1 <<< (x &&& 31)) 7) 0 x u3_21 (-1)], [zAr T 0 a1_24 7 s1_20], [zAr T 0 a2_25 7 x2]] _ _ := G.re rfl
    have hw_29 : bTrail T h po s1_20 x2 (zSeen cr inn k1 k2 (1 <<< (x &&& 31)) 7) 0 x u3_21 (-1) [zO9 h po a1_24 a2_25 (zSeen cr inn k1 k2 (1 <<< (x &&& 31)) 7) 0 x u3_21 (-1), zAr T 0 a1_24 7 s1_20, zAr T 0 a2_25 7 x2] := ⟨a1_24, a2_25, rfl⟩
    have G : zS T A s.heap s [[zO6 po o a1_26 a2_27 0 0 a3_28], [zAr T 0 a1_26 7 g1_4], [zAr T 0 a2_27 7 g2_5], [zAr T 0 a3_28 7 g3_6], z, [zO9 h po a1_24 a2_25 (zSeen cr inn k1 k2 (1 <<< (x &&& 31)) 7) 0 x u3_21 (-1), zAr T 0 a1_24 7 s1_20, zAr T 0 a2_25 7 x2]] _ _ := G.re rfl
    have hw_30 : bPosts T po o g1_4 g2_5 g3_6 0 0 [zO6 po o a1_26 a2_27 0 0 a3_28, zAr T 0 a1_26 7 g1_4, zAr T 0 a2_27 7 g2_5, zAr T 0 a3_28 7 g3_6] := ⟨a1_26, a2_27, a3_28, rfl⟩
    have G : zS T A s.heap s [[zO6 po o a1_26 a2_27 0 0 a3_28, zAr T 0 a1_26 7 g1_4, zAr T 0 a2_27 7 g2_5, zAr T 0 a3_28 7 g3_6], z, [zO9 h po a1_24 a2_25 (zSeen cr inn k1 k2 (1 <<< (x &&& 31)) 7) 0 x u3_21 (-1), zAr T 0 a1_24 7 s1_20, zAr T 0 a2_25 7 x2]] _ _ := G.re rfl
    refine z_lp12 (T := T) 70 (fun (i : Nat) (sn : Int32) (wt3 : va_W) (x1 : Nat → Int32) (x2 : Nat → Int32) (y0 : Int32) (y1 : Int32) (y2 : Int32) (y3 : Int32) (y4 : Int32) (wp3 : va_W) (xf : Nat → Int32) => [wp3, z, wt3]) (fun (i : Nat) (sn : Int32) (wt3 : va_W) (x1 : Nat → Int32) (x2 : Nat → Int32) (y0 : Int32) (y1 : Int32) (y2 : Int32) (y3 : Int32) (y4 : Int32) (wp3 : va_W) (xf : Nat → Int32) => [(4, .int (nI i)), (3, .int sn), (0, .ref h), (1, .ref o), (2, .int x)]) (fun (i : Nat) (sn : Int32) (wt3 : va_W) (x1 : Nat → Int32) (x2 : Nat → Int32) (y0 : Int32) (y1 : Int32) (y2 : Int32) (y3 : Int32) (y4 : Int32) (wp3 : va_W) (xf : Nat → Int32) => bPosts T po o xf g2_5 g3_6 0 0 wp3 ∧ bTrail T h po x1 x2 y0 y1 y2 y3 y4 wt3 ∧ i ≤ 499 ∧ zP3 xf g3_6) (fun (i : Nat) (sn : Int32) (wt3 : va_W) (x1 : Nat → Int32) (x2 : Nat → Int32) (y0 : Int32) (y1 : Int32) (y2 : Int32) (y3 : Int32) (y4 : Int32) (wp3 : va_W) (xf : Nat → Int32) => 499 - i) ?_ 0 r_23 ([zO9 h po a1_24 a2_25 (zSeen cr inn k1 k2 (1 <<< (x &&& 31)) 7) 0 x u3_21 (-1), zAr T 0 a1_24 7 s1_20, zAr T 0 a2_25 7 x2]) s1_20 x2 (zSeen cr inn k1 k2 (1 <<< (x &&& 31)) 7) 0 x u3_21 (-1) ([zO6 po o a1_26 a2_27 0 0 a3_28, zAr T 0 a1_26 7 g1_4, zAr T 0 a2_27 7 g2_5, zAr T 0 a3_28 7 g3_6]) g1_4 (show bPosts T po o g1_4 g2_5 g3_6 0 0 ([zO6 po o a1_26 a2_27 0 0 a3_28, zAr T 0 a1_26 7 g1_4, zAr T 0 a2_27 7 g2_5, zAr T 0 a3_28 7 g3_6]) ∧ bTrail T h po s1_20 x2 (zSeen cr inn k1 k2 (1 <<< (x &&& 31)) 7) 0 x u3_21 (-1) ([zO9 h po a1_24 a2_25 (zSeen cr inn k1 k2 (1 <<< (x &&& 31)) 7) 0 x u3_21 (-1), zAr T 0 a1_24 7 s1_20, zAr T 0 a2_25 7 x2]) ∧ 0 ≤ 499 ∧ zP3 g1_4 g3_6 from ⟨hw_30, hw_29, by omega, hQ⟩) G (lv_sub hl [0, 1, 2, 3, 4] rfl)
    intro i sn wt3 x1 x2 y0 y1 y2 y3 y4 wp3 xf hI9 ih_70 H locs ls G hl
    replace hI9 : bPosts T po o xf g2_5 g3_6 0 0 wp3 ∧ bTrail T h po x1 x2 y0 y1 y2 y3 y4 wt3 ∧ i ≤ 499 ∧ zP3 xf g3_6 := hI9
    refine zAn4 hI9 ?_
    intro hp3 ht3 hi hQx
    clear hI9
    replace G : zS T A s.heap s [wp3, z, wt3] _ _ := G
    replace hl : lv_has ls 6 [(4, .int (nI i)), (3, .int sn), (0, .ref h), (1, .ref o), (2, .int x)] := hl
    refine lv_iload hx hb dX10_follow_70 (lv_at hl 0 rfl) ?_
    refine lv_sipush (v := 499) hx hb dX10_follow_72 (by decide) ?_
    refine lv_icmp_ge (tgt := 177) hx hb dX10_follow_75 (by decide) (fun c_31 => ?_) (fun c_31 => ?_)
    · have c_31n : 499 ≤ i := (nI_leI (a := 499) (b := i) (by omega) (by omega)).mp c_31
      have G := G.sub (bs' := [wt3, wp3, z]) [2, 0, 1] rfl
      exact z_back hQ9 (z_vret C hr hlocks G (Nat.le_of_ble_eq_true rfl) (Nat.le_of_ble_eq_true rfl) dX10_follow_177 ⟨wt3, x1, x2, y0, y1, y2, y3, y4, wp3, xf, g2_5, g3_6, 0, 0, rfl, ht3, hp3, hQx⟩)
    · have c_31n : ¬ 499 ≤ i := fun q => c_31 ((nI_leI (a := 499) (b := i) (by omega) (by omega)).mpr q)
      refine lv_aload_n hx hb dX10_follow_78 rfl (lv_at hl 2 rfl) ?_
      refine zEx2 ht3 ?_
      intro a1_32 a2_33 hbs9
      clear ht3
      subst hbs9
      have G : zS T A s.heap s [wp3, z, [zO9 h po a1_32 a2_33 y0 y1 y2 y3 y4], [zAr T 0 a1_32 7 x1], [zAr T 0 a2_33 7 x2]] _ _ := G.re rfl
      refine z_get C G clX10 2 rfl 0 (by decide) m_fl_RX10_12 rfl dX10_follow_79 ?_
      refine lv_aload_n hx hb dX10_follow_82 rfl (lv_at hl 2 rfl) ?_
      refine z_get C G clX10 2 rfl 5 (by decide) m_fl_RX10_51 rfl dX10_follow_83 ?_
      refine z_Vi (bc := [wp3, z]) (br := [[zO9 h po a1_32 a2_33 y0 y1 y2 y3 y4], [zAr T 0 a1_32 7 x1], [zAr T 0 a2_33 7 x2]]) (As := [.int y2]) (rest := []) C G (c_step l T po o xf g2_5 g3_6 0 0 wp3 cr inn k1 k2 k3 k4 z y2 hp3 hz hQx) (kV_RX10_54 C.2.2.2.2 (Nat.le_of_ble_eq_true rfl) (Nat.le_of_ble_eq_true rfl)) [0, 1] [0, 0] rfl rfl (ci := 6) (qc := (RX6, TX6, 6)) rfl rfl (List.mem_flatten.mpr ⟨_, List.mem_of_getElem? (i := 0) rfl, (bPosts_mem hp3).choose_spec⟩) rfl rfl hl.1 dX10_follow_86 (Nat.le_of_ble_eq_true rfl) (Nat.le_of_ble_eq_true rfl) (fun r_39 b1 H locs hw G => ?_)
      refine zEx2 hw ?_
      intro w2_34 g1_35
      refine zCu4 ?_
      intro hbs9 h_36 h_37 h_38
      clear hw
      subst hbs9
      have G : zS T A s.heap s [[zO9 h po a1_32 a2_33 y0 y1 y2 y3 y4], [zAr T 0 a1_32 7 x1], [zAr T 0 a2_33 7 x2], w2_34, z] _ _ := G
      subst h_36
      have hQ2 : zP3 g1_35 g3_6 := by rw [h_38]; exact zPost_I hQx _
      refine lv_istore (lv' := [(5, .int (zStep xf g2_5 g3_6 k2 y2)), (4, .int (nI i)), (3, .int sn), (0, .ref h), (1, .ref o), (2, .int x)]) hx hb dX10_follow_89 hl (by decide) rfl (fun ls hl => ?_)
      refine lv_iload hx hb dX10_follow_91 (lv_at hl 0 rfl) ?_
      refine lv_iconst (v := (-1)) hx hb dX10_follow_93 (by decide) ?_
      refine lv_icmp_ne (tgt := 98) hx hb dX10_follow_94 (by decide) (fun c_40 => ?_) (fun c_40 => ?_)
      · have c_40n : ¬ (zStep xf g2_5 g3_6 k2 y2).toInt = (-1 : Int) := fun q => c_40 ((fa_eq _ _).mpr q)
        refine lv_aload_n hx hb dX10_follow_98 rfl (lv_at hl 3 rfl) ?_
        refine z_get C G clX10 0 rfl 2 (by decide) m_fl_RX10_22 rfl dX10_follow_99 ?_
        refine lv_aload_n hx hb dX10_follow_102 rfl (lv_at hl 3 rfl) ?_
        refine z_get C G clX10 0 rfl 5 (by decide) m_fl_RX10_51 rfl dX10_follow_103 ?_
        refine lv_dup2_11 hx hb dX10_follow_106 rfl rfl ?_
        refine z_ild C G 2 rfl (vp_in_iff.mpr ⟨(zStep_in hQx (by assumption)).1, (zStep_in hQx (by assumption)).2.1⟩) dX10_follow_107 ?_
        refine lv_topi (fun v_41 ev_41 => ?_)
        subst ev_41
        refine lv_iconst (v := 1) hx hb dX10_follow_108 (by decide) ?_
        refine lv_aload_n hx hb dX10_follow_109 rfl (lv_at hl 3 rfl) ?_
        refine z_get C G clX10 0 rfl 0 (by decide) m_fl_RX10_12 rfl dX10_follow_110 ?_
        refine zEx3 h_37 ?_
        intro a1_42 a2_43 a3_44 hbs9
        clear h_37
        subst hbs9
        have G : zS T A s.heap s [[zO9 h po a1_32 a2_33 y0 y1 y2 y3 y4], [zAr T 0 a1_32 7 x1], [zAr T 0 a2_33 7 x2], [zO6 po o a1_42 a2_43 0 0 a3_44], [zAr T 0 a1_42 7 g1_35], [zAr T 0 a2_43 7 g2_5], [zAr T 0 a3_44 7 g3_6], z] _ _ := G.re rfl
        refine z_get C G clX6 3 rfl 1 (by decide) m_fl_RX10_58 rfl dX10_follow_113 ?_
        refine lv_aload_n hx hb dX10_follow_116 rfl (lv_at hl 3 rfl) ?_
        refine z_get C G clX10 0 rfl 5 (by decide) m_fl_RX10_51 rfl dX10_follow_117 ?_
        refine z_ild C G 4 rfl (vp_in_iff.mpr ⟨(zStep_in hQx (by assumption)).1, (zStep_in hQx (by assumption)).2.1⟩) dX10_follow_120 ?_
        refine lv_topi (fun v_45 ev_45 => ?_)
        subst ev_45
        refine lv_ishl hx hb dX10_follow_121 ?_
        refine lv_ior hx hb dX10_follow_122 ?_
        refine z_ist C G 2 rfl (vp_in_iff.mpr ⟨(zStep_in hQx (by assumption)).1, (zStep_in hQx (by assumption)).2.1⟩) dX10_follow_123 (fun H locs G => ?_)
        have G : zS T A s.heap s [[zO9 h po a1_32 a2_33 y0 y1 y2 y3 y4], [zAr T 0 a1_32 7 x1], [zAr T 0 a2_33 7 (upd x2 y2.toNatClampNeg ((x2 y2.toNatClampNeg) ||| (1 <<< ((g1_35 y2.toNatClampNeg) &&& 31))))], [zO6 po o a1_42 a2_43 0 0 a3_44], [zAr T 0 a1_42 7 g1_35], [zAr T 0 a2_43 7 g2_5], [zAr T 0 a3_44 7 g3_6], z] _ _ := G
        refine lv_aload_n hx hb dX10_follow_124 rfl (lv_at hl 3 rfl) ?_
        refine lv_dup hx hb dX10_follow_125 rfl ?_
        refine z_get C G clX10 0 rfl 4 (by decide) m_fl_RX10_38 rfl dX10_follow_126 ?_
        refine lv_iconst (v := 1) hx hb dX10_follow_129 (by decide) ?_
        refine lv_iadd hx hb dX10_follow_130 ?_
        refine z_put C G clX10 0 rfl 4 (by decide) m_fl_RX10_38 rfl rfl rfl (Nat.le_of_ble_eq_true rfl) dX10_follow_131 (fun H locs G => ?_)
        have G : zS T A s.heap s [[zO9 h po a1_32 a2_33 y0 (y1 + 1) y2 y3 y4], [zAr T 0 a1_32 7 x1], [zAr T 0 a2_33 7 (upd x2 y2.toNatClampNeg ((x2 y2.toNatClampNeg) ||| (1 <<< ((g1_35 y2.toNatClampNeg) &&& 31))))], [zO6 po o a1_42 a2_43 0 0 a3_44], [zAr T 0 a1_42 7 g1_35], [zAr T 0 a2_43 7 g2_5], [zAr T 0 a3_44 7 g3_6], z] _ _ := G
        refine lv_aload_n hx hb dX10_follow_134 rfl (lv_at hl 3 rfl) ?_
        refine lv_iload hx hb dX10_follow_135 (lv_at hl 0 rfl) ?_
        refine lv_iload_n hx hb dX10_follow_137 rfl (lv_at hl 5 rfl) ?_
        refine lv_icmp_ne (tgt := 156) hx hb dX10_follow_138 (by decide) (fun c_46 => ?_) (fun c_46 => ?_)
        · have c_46n : ¬ (zStep xf g2_5 g3_6 k2 y2).toInt = x.toInt := fun q => c_46 ((fa_eq _ _).mpr q)
          refine lv_aload_n hx hb dX10_follow_156 rfl (lv_at hl 3 rfl) ?_
          refine z_get C G clX10 0 rfl 7 (by decide) m_fl_RX10_41 rfl dX10_follow_157 ?_
          refine z_put C G clX10 0 rfl 7 (by decide) m_fl_RX10_41 rfl rfl rfl (Nat.le_of_ble_eq_true rfl) dX10_follow_160 (fun H locs G => ?_)
          have G : zS T A s.heap s [[zO9 h po a1_32 a2_33 y0 (y1 + 1) y2 y3 y4], [zAr T 0 a1_32 7 x1], [zAr T 0 a2_33 7 (upd x2 y2.toNatClampNeg ((x2 y2.toNatClampNeg) ||| (1 <<< ((g1_35 y2.toNatClampNeg) &&& 31))))], [zO6 po o a1_42 a2_43 0 0 a3_44], [zAr T 0 a1_42 7 g1_35], [zAr T 0 a2_43 7 g2_5], [zAr T 0 a3_44 7 g3_6], z] _ _ := G
          refine lv_aload_n hx hb dX10_follow_163 rfl (lv_at hl 3 rfl) ?_
          refine lv_iload hx hb dX10_follow_164 (lv_at hl 0 rfl) ?_
          refine lv_iload_n hx hb dX10_follow_166 rfl (lv_at hl 2 rfl) ?_
          have hw_47 : bTrail T h po x1 (upd x2 y2.toNatClampNeg ((x2 y2.toNatClampNeg) ||| (1 <<< ((g1_35 y2.toNatClampNeg) &&& 31)))) y0 (y1 + 1) y2 y3 y4 [zO9 h po a1_32 a2_33 y0 (y1 + 1) y2 y3 y4, zAr T 0 a1_32 7 x1, zAr T 0 a2_33 7 (upd x2 y2.toNatClampNeg ((x2 y2.toNatClampNeg) ||| (1 <<< ((g1_35 y2.toNatClampNeg) &&& 31))))] := ⟨a1_32, a2_33, rfl⟩
          have G : zS T A s.heap s [[zO9 h po a1_32 a2_33 y0 (y1 + 1) y2 y3 y4, zAr T 0 a1_32 7 x1, zAr T 0 a2_33 7 (upd x2 y2.toNatClampNeg ((x2 y2.toNatClampNeg) ||| (1 <<< ((g1_35 y2.toNatClampNeg) &&& 31))))], [zO6 po o a1_42 a2_43 0 0 a3_44], [zAr T 0 a1_42 7 g1_35], [zAr T 0 a2_43 7 g2_5], [zAr T 0 a3_44 7 g3_6], z] _ _ := G.re rfl
          refine z_Vi (bc := [[zO9 h po a1_32 a2_33 y0 (y1 + 1) y2 y3 y4, zAr T 0 a1_32 7 x1, zAr T 0 a2_33 7 (upd x2 y2.toNatClampNeg ((x2 y2.toNatClampNeg) ||| (1 <<< ((g1_35 y2.toNatClampNeg) &&& 31))))]]) (br := [[zO6 po o a1_42 a2_43 0 0 a3_44], [zAr T 0 a1_42 7 g1_35], [zAr T 0 a2_43 7 g2_5], [zAr T 0 a3_44 7 g3_6], z]) (As := [.int (zStep xf g2_5 g3_6 k2 y2), .int sn]) (rest := []) C G (c_arrive l T h po x1 (upd x2 y2.toNatClampNeg ((x2 y2.toNatClampNeg) ||| (1 <<< ((g1_35 y2.toNatClampNeg) &&& 31)))) y0 (y1 + 1) y2 y3 y4 ([zO9 h po a1_32 a2_33 y0 (y1 + 1) y2 y3 y4, zAr T 0 a1_32 7 x1, zAr T 0 a2_33 7 (upd x2 y2.toNatClampNeg ((x2 y2.toNatClampNeg) ||| (1 <<< ((g1_35 y2.toNatClampNeg) &&& 31))))]) (zStep xf g2_5 g3_6 k2 y2) sn hw_47) (kV_RX10_47 C.2.2.2.2 (Nat.le_of_ble_eq_true rfl) (Nat.le_of_ble_eq_true rfl)) [0] [0] rfl rfl (ci := 9) (qc := (RX10, TX10, 8)) rfl rfl (List.mem_flatten.mpr ⟨_, List.mem_of_getElem? (i := 0) rfl, (bTrail_mem hw_47).choose_spec⟩) rfl rfl hl.1 dX10_follow_167 (Nat.le_of_ble_eq_true rfl) (Nat.le_of_ble_eq_true rfl) (fun r_52 b1 H locs hw G => ?_)
          refine zEx3 hw ?_
          intro wt2_48 s1_49 u3_50
          refine zCu2 ?_
          intro hbs9 h_51
          clear hw
          subst hbs9
          have G : zS T A s.heap s [[zO6 po o a1_42 a2_43 0 0 a3_44], [zAr T 0 a1_42 7 g1_35], [zAr T 0 a2_43 7 g2_5], [zAr T 0 a3_44 7 g3_6], z, wt2_48] _ _ := G
          refine lv_istore_n (lv' := [(3, .int r_52), (5, .int (zStep xf g2_5 g3_6 k2 y2)), (4, .int (nI i)), (0, .ref h), (1, .ref o), (2, .int x)]) hx hb dX10_follow_170 rfl hl (by decide) rfl (fun ls hl => ?_)
          refine lv_iinc (v := nI (i + 1)) (lv' := [(4, .int (nI (i + 1))), (3, .int r_52), (5, .int (zStep xf g2_5 g3_6 k2 y2)), (0, .ref h), (1, .ref o), (2, .int x)]) hx hb dX10_follow_171 hl (k := 2) rfl (z_inc i 1) (by decide) rfl (fun ls hl => ?_)
          refine lv_goto (tgt := 70) hx hb dX10_follow_174 (by decide) ?_
          have hw_53 : bPosts T po o g1_35 g2_5 g3_6 0 0 [zO6 po o a1_42 a2_43 0 0 a3_44, zAr T 0 a1_42 7 g1_35, zAr T 0 a2_43 7 g2_5, zAr T 0 a3_44 7 g3_6] := ⟨a1_42, a2_43, a3_44, rfl⟩
          have G : zS T A s.heap s [[zO6 po o a1_42 a2_43 0 0 a3_44, zAr T 0 a1_42 7 g1_35, zAr T 0 a2_43 7 g2_5, zAr T 0 a3_44 7 g3_6], z, wt2_48] _ _ := G.re rfl
          exact ih_70 (i + 1) r_52 wt2_48 s1_49 (upd x2 y2.toNatClampNeg ((x2 y2.toNatClampNeg) ||| (1 <<< ((g1_35 y2.toNatClampNeg) &&& 31)))) y0 (y1 + 1) (zStep xf g2_5 g3_6 k2 y2) u3_50 y4 ([zO6 po o a1_42 a2_43 0 0 a3_44, zAr T 0 a1_42 7 g1_35, zAr T 0 a2_43 7 g2_5, zAr T 0 a3_44 7 g3_6]) g1_35 (show bPosts T po o g1_35 g2_5 g3_6 0 0 ([zO6 po o a1_42 a2_43 0 0 a3_44, zAr T 0 a1_42 7 g1_35, zAr T 0 a2_43 7 g2_5, zAr T 0 a3_44 7 g3_6]) ∧ bTrail T h po s1_49 (upd x2 y2.toNatClampNeg ((x2 y2.toNatClampNeg) ||| (1 <<< ((g1_35 y2.toNatClampNeg) &&& 31)))) y0 (y1 + 1) (zStep xf g2_5 g3_6 k2 y2) u3_50 y4 wt2_48 ∧ (i + 1) ≤ 499 ∧ zP3 g1_35 g3_6 from ⟨hw_53, h_51, by omega, hQ2⟩) (show 499 - (i + 1) < 499 - i from by omega) _ _ ls G (lv_sub hl [0, 1, 3, 4, 5] rfl)
        · have c_46n : (zStep xf g2_5 g3_6 k2 y2).toInt = x.toInt := (fa_eq _ _).mp c_46
          refine lv_aload_n hx hb dX10_follow_141 rfl (lv_at hl 3 rfl) ?_
          refine z_get C G clX10 0 rfl 7 (by decide) m_fl_RX10_41 rfl dX10_follow_142 ?_
          refine lv_iconst (v := (-1)) hx hb dX10_follow_145 (by decide) ?_
          refine lv_icmp_ne (tgt := 156) hx hb dX10_follow_146 (by decide) (fun c_54 => ?_) (fun c_54 => ?_)
          · have c_54n : ¬ y4.toInt = (-1 : Int) := fun q => c_54 ((fa_eq _ _).mpr q)
            refine lv_aload_n hx hb dX10_follow_156 rfl (lv_at hl 3 rfl) ?_
            refine z_get C G clX10 0 rfl 7 (by decide) m_fl_RX10_41 rfl dX10_follow_157 ?_
            refine z_put C G clX10 0 rfl 7 (by decide) m_fl_RX10_41 rfl rfl rfl (Nat.le_of_ble_eq_true rfl) dX10_follow_160 (fun H locs G => ?_)
            have G : zS T A s.heap s [[zO9 h po a1_32 a2_33 y0 (y1 + 1) y2 y3 y4], [zAr T 0 a1_32 7 x1], [zAr T 0 a2_33 7 (upd x2 y2.toNatClampNeg ((x2 y2.toNatClampNeg) ||| (1 <<< ((g1_35 y2.toNatClampNeg) &&& 31))))], [zO6 po o a1_42 a2_43 0 0 a3_44], [zAr T 0 a1_42 7 g1_35], [zAr T 0 a2_43 7 g2_5], [zAr T 0 a3_44 7 g3_6], z] _ _ := G
            refine lv_aload_n hx hb dX10_follow_163 rfl (lv_at hl 3 rfl) ?_
            refine lv_iload hx hb dX10_follow_164 (lv_at hl 0 rfl) ?_
            refine lv_iload_n hx hb dX10_follow_166 rfl (lv_at hl 2 rfl) ?_
            have hw_55 : bTrail T h po x1 (upd x2 y2.toNatClampNeg ((x2 y2.toNatClampNeg) ||| (1 <<< ((g1_35 y2.toNatClampNeg) &&& 31)))) y0 (y1 + 1) y2 y3 y4 [zO9 h po a1_32 a2_33 y0 (y1 + 1) y2 y3 y4, zAr T 0 a1_32 7 x1, zAr T 0 a2_33 7 (upd x2 y2.toNatClampNeg ((x2 y2.toNatClampNeg) ||| (1 <<< ((g1_35 y2.toNatClampNeg) &&& 31))))] := ⟨a1_32, a2_33, rfl⟩
            have G : zS T A s.heap s [[zO9 h po a1_32 a2_33 y0 (y1 + 1) y2 y3 y4, zAr T 0 a1_32 7 x1, zAr T 0 a2_33 7 (upd x2 y2.toNatClampNeg ((x2 y2.toNatClampNeg) ||| (1 <<< ((g1_35 y2.toNatClampNeg) &&& 31))))], [zO6 po o a1_42 a2_43 0 0 a3_44], [zAr T 0 a1_42 7 g1_35], [zAr T 0 a2_43 7 g2_5], [zAr T 0 a3_44 7 g3_6], z] _ _ := G.re rfl
            refine z_Vi (bc := [[zO9 h po a1_32 a2_33 y0 (y1 + 1) y2 y3 y4, zAr T 0 a1_32 7 x1, zAr T 0 a2_33 7 (upd x2 y2.toNatClampNeg ((x2 y2.toNatClampNeg) ||| (1 <<< ((g1_35 y2.toNatClampNeg) &&& 31))))]]) (br := [[zO6 po o a1_42 a2_43 0 0 a3_44], [zAr T 0 a1_42 7 g1_35], [zAr T 0 a2_43 7 g2_5], [zAr T 0 a3_44 7 g3_6], z]) (As := [.int (zStep xf g2_5 g3_6 k2 y2), .int sn]) (rest := []) C G (c_arrive l T h po x1 (upd x2 y2.toNatClampNeg ((x2 y2.toNatClampNeg) ||| (1 <<< ((g1_35 y2.toNatClampNeg) &&& 31)))) y0 (y1 + 1) y2 y3 y4 ([zO9 h po a1_32 a2_33 y0 (y1 + 1) y2 y3 y4, zAr T 0 a1_32 7 x1, zAr T 0 a2_33 7 (upd x2 y2.toNatClampNeg ((x2 y2.toNatClampNeg) ||| (1 <<< ((g1_35 y2.toNatClampNeg) &&& 31))))]) (zStep xf g2_5 g3_6 k2 y2) sn hw_55) (kV_RX10_47 C.2.2.2.2 (Nat.le_of_ble_eq_true rfl) (Nat.le_of_ble_eq_true rfl)) [0] [0] rfl rfl (ci := 9) (qc := (RX10, TX10, 8)) rfl rfl (List.mem_flatten.mpr ⟨_, List.mem_of_getElem? (i := 0) rfl, (bTrail_mem hw_55).choose_spec⟩) rfl rfl hl.1 dX10_follow_167 (Nat.le_of_ble_eq_true rfl) (Nat.le_of_ble_eq_true rfl) (fun r_60 b1 H locs hw G => ?_)
            refine zEx3 hw ?_
            intro wt2_56 s1_57 u3_58
            refine zCu2 ?_
            intro hbs9 h_59
            clear hw
            subst hbs9
            have G : zS T A s.heap s [[zO6 po o a1_42 a2_43 0 0 a3_44], [zAr T 0 a1_42 7 g1_35], [zAr T 0 a2_43 7 g2_5], [zAr T 0 a3_44 7 g3_6], z, wt2_56] _ _ := G
            refine lv_istore_n (lv' := [(3, .int r_60), (5, .int (zStep xf g2_5 g3_6 k2 y2)), (4, .int (nI i)), (0, .ref h), (1, .ref o), (2, .int x)]) hx hb dX10_follow_170 rfl hl (by decide) rfl (fun ls hl => ?_)
            refine lv_iinc (v := nI (i + 1)) (lv' := [(4, .int (nI (i + 1))), (3, .int r_60), (5, .int (zStep xf g2_5 g3_6 k2 y2)), (0, .ref h), (1, .ref o), (2, .int x)]) hx hb dX10_follow_171 hl (k := 2) rfl (z_inc i 1) (by decide) rfl (fun ls hl => ?_)
            refine lv_goto (tgt := 70) hx hb dX10_follow_174 (by decide) ?_
            have hw_61 : bPosts T po o g1_35 g2_5 g3_6 0 0 [zO6 po o a1_42 a2_43 0 0 a3_44, zAr T 0 a1_42 7 g1_35, zAr T 0 a2_43 7 g2_5, zAr T 0 a3_44 7 g3_6] := ⟨a1_42, a2_43, a3_44, rfl⟩
            have G : zS T A s.heap s [[zO6 po o a1_42 a2_43 0 0 a3_44, zAr T 0 a1_42 7 g1_35, zAr T 0 a2_43 7 g2_5, zAr T 0 a3_44 7 g3_6], z, wt2_56] _ _ := G.re rfl
            exact ih_70 (i + 1) r_60 wt2_56 s1_57 (upd x2 y2.toNatClampNeg ((x2 y2.toNatClampNeg) ||| (1 <<< ((g1_35 y2.toNatClampNeg) &&& 31)))) y0 (y1 + 1) (zStep xf g2_5 g3_6 k2 y2) u3_58 y4 ([zO6 po o a1_42 a2_43 0 0 a3_44, zAr T 0 a1_42 7 g1_35, zAr T 0 a2_43 7 g2_5, zAr T 0 a3_44 7 g3_6]) g1_35 (show bPosts T po o g1_35 g2_5 g3_6 0 0 ([zO6 po o a1_42 a2_43 0 0 a3_44, zAr T 0 a1_42 7 g1_35, zAr T 0 a2_43 7 g2_5, zAr T 0 a3_44 7 g3_6]) ∧ bTrail T h po s1_57 (upd x2 y2.toNatClampNeg ((x2 y2.toNatClampNeg) ||| (1 <<< ((g1_35 y2.toNatClampNeg) &&& 31)))) y0 (y1 + 1) (zStep xf g2_5 g3_6 k2 y2) u3_58 y4 wt2_56 ∧ (i + 1) ≤ 499 ∧ zP3 g1_35 g3_6 from ⟨hw_61, h_59, by omega, hQ2⟩) (show 499 - (i + 1) < 499 - i from by omega) _ _ ls G (lv_sub hl [0, 1, 3, 4, 5] rfl)
          · have c_54n : y4.toInt = (-1 : Int) := (fa_eq _ _).mp c_54
            refine lv_aload_n hx hb dX10_follow_149 rfl (lv_at hl 3 rfl) ?_
            refine z_get C G clX10 0 rfl 4 (by decide) m_fl_RX10_38 rfl dX10_follow_150 ?_
            refine lv_goto (tgt := 160) hx hb dX10_follow_153 (by decide) ?_
            refine z_put C G clX10 0 rfl 7 (by decide) m_fl_RX10_41 rfl rfl rfl (Nat.le_of_ble_eq_true rfl) dX10_follow_160 (fun H locs G => ?_)
            have G : zS T A s.heap s [[zO9 h po a1_32 a2_33 y0 (y1 + 1) y2 y3 (y1 + 1)], [zAr T 0 a1_32 7 x1], [zAr T 0 a2_33 7 (upd x2 y2.toNatClampNeg ((x2 y2.toNatClampNeg) ||| (1 <<< ((g1_35 y2.toNatClampNeg) &&& 31))))], [zO6 po o a1_42 a2_43 0 0 a3_44], [zAr T 0 a1_42 7 g1_35], [zAr T 0 a2_43 7 g2_5], [zAr T 0 a3_44 7 g3_6], z] _ _ := G
            refine lv_aload_n hx hb dX10_follow_163 rfl (lv_at hl 3 rfl) ?_
            refine lv_iload hx hb dX10_follow_164 (lv_at hl 0 rfl) ?_
            refine lv_iload_n hx hb dX10_follow_166 rfl (lv_at hl 2 rfl) ?_
            have hw_62 : bTrail T h po x1 (upd x2 y2.toNatClampNeg ((x2 y2.toNatClampNeg) ||| (1 <<< ((g1_35 y2.toNatClampNeg) &&& 31)))) y0 (y1 + 1) y2 y3 (y1 + 1) [zO9 h po a1_32 a2_33 y0 (y1 + 1) y2 y3 (y1 + 1), zAr T 0 a1_32 7 x1, zAr T 0 a2_33 7 (upd x2 y2.toNatClampNeg ((x2 y2.toNatClampNeg) ||| (1 <<< ((g1_35 y2.toNatClampNeg) &&& 31))))] := ⟨a1_32, a2_33, rfl⟩
            have G : zS T A s.heap s [[zO9 h po a1_32 a2_33 y0 (y1 + 1) y2 y3 (y1 + 1), zAr T 0 a1_32 7 x1, zAr T 0 a2_33 7 (upd x2 y2.toNatClampNeg ((x2 y2.toNatClampNeg) ||| (1 <<< ((g1_35 y2.toNatClampNeg) &&& 31))))], [zO6 po o a1_42 a2_43 0 0 a3_44], [zAr T 0 a1_42 7 g1_35], [zAr T 0 a2_43 7 g2_5], [zAr T 0 a3_44 7 g3_6], z] _ _ := G.re rfl
            refine z_Vi (bc := [[zO9 h po a1_32 a2_33 y0 (y1 + 1) y2 y3 (y1 + 1), zAr T 0 a1_32 7 x1, zAr T 0 a2_33 7 (upd x2 y2.toNatClampNeg ((x2 y2.toNatClampNeg) ||| (1 <<< ((g1_35 y2.toNatClampNeg) &&& 31))))]]) (br := [[zO6 po o a1_42 a2_43 0 0 a3_44], [zAr T 0 a1_42 7 g1_35], [zAr T 0 a2_43 7 g2_5], [zAr T 0 a3_44 7 g3_6], z]) (As := [.int (zStep xf g2_5 g3_6 k2 y2), .int sn]) (rest := []) C G (c_arrive l T h po x1 (upd x2 y2.toNatClampNeg ((x2 y2.toNatClampNeg) ||| (1 <<< ((g1_35 y2.toNatClampNeg) &&& 31)))) y0 (y1 + 1) y2 y3 (y1 + 1) ([zO9 h po a1_32 a2_33 y0 (y1 + 1) y2 y3 (y1 + 1), zAr T 0 a1_32 7 x1, zAr T 0 a2_33 7 (upd x2 y2.toNatClampNeg ((x2 y2.toNatClampNeg) ||| (1 <<< ((g1_35 y2.toNatClampNeg) &&& 31))))]) (zStep xf g2_5 g3_6 k2 y2) sn hw_62) (kV_RX10_47 C.2.2.2.2 (Nat.le_of_ble_eq_true rfl) (Nat.le_of_ble_eq_true rfl)) [0] [0] rfl rfl (ci := 9) (qc := (RX10, TX10, 8)) rfl rfl (List.mem_flatten.mpr ⟨_, List.mem_of_getElem? (i := 0) rfl, (bTrail_mem hw_62).choose_spec⟩) rfl rfl hl.1 dX10_follow_167 (Nat.le_of_ble_eq_true rfl) (Nat.le_of_ble_eq_true rfl) (fun r_67 b1 H locs hw G => ?_)
            refine zEx3 hw ?_
            intro wt2_63 s1_64 u3_65
            refine zCu2 ?_
            intro hbs9 h_66
            clear hw
            subst hbs9
            have G : zS T A s.heap s [[zO6 po o a1_42 a2_43 0 0 a3_44], [zAr T 0 a1_42 7 g1_35], [zAr T 0 a2_43 7 g2_5], [zAr T 0 a3_44 7 g3_6], z, wt2_63] _ _ := G
            refine lv_istore_n (lv' := [(3, .int r_67), (5, .int (zStep xf g2_5 g3_6 k2 y2)), (4, .int (nI i)), (0, .ref h), (1, .ref o), (2, .int x)]) hx hb dX10_follow_170 rfl hl (by decide) rfl (fun ls hl => ?_)
            refine lv_iinc (v := nI (i + 1)) (lv' := [(4, .int (nI (i + 1))), (3, .int r_67), (5, .int (zStep xf g2_5 g3_6 k2 y2)), (0, .ref h), (1, .ref o), (2, .int x)]) hx hb dX10_follow_171 hl (k := 2) rfl (z_inc i 1) (by decide) rfl (fun ls hl => ?_)
            refine lv_goto (tgt := 70) hx hb dX10_follow_174 (by decide) ?_
            have hw_68 : bPosts T po o g1_35 g2_5 g3_6 0 0 [zO6 po o a1_42 a2_43 0 0 a3_44, zAr T 0 a1_42 7 g1_35, zAr T 0 a2_43 7 g2_5, zAr T 0 a3_44 7 g3_6] := ⟨a1_42, a2_43, a3_44, rfl⟩
            have G : zS T A s.heap s [[zO6 po o a1_42 a2_43 0 0 a3_44, zAr T 0 a1_42 7 g1_35, zAr T 0 a2_43 7 g2_5, zAr T 0 a3_44 7 g3_6], z, wt2_63] _ _ := G.re rfl
            exact ih_70 (i + 1) r_67 wt2_63 s1_64 (upd x2 y2.toNatClampNeg ((x2 y2.toNatClampNeg) ||| (1 <<< ((g1_35 y2.toNatClampNeg) &&& 31)))) y0 (y1 + 1) (zStep xf g2_5 g3_6 k2 y2) u3_65 (y1 + 1) ([zO6 po o a1_42 a2_43 0 0 a3_44, zAr T 0 a1_42 7 g1_35, zAr T 0 a2_43 7 g2_5, zAr T 0 a3_44 7 g3_6]) g1_35 (show bPosts T po o g1_35 g2_5 g3_6 0 0 ([zO6 po o a1_42 a2_43 0 0 a3_44, zAr T 0 a1_42 7 g1_35, zAr T 0 a2_43 7 g2_5, zAr T 0 a3_44 7 g3_6]) ∧ bTrail T h po s1_64 (upd x2 y2.toNatClampNeg ((x2 y2.toNatClampNeg) ||| (1 <<< ((g1_35 y2.toNatClampNeg) &&& 31)))) y0 (y1 + 1) (zStep xf g2_5 g3_6 k2 y2) u3_65 (y1 + 1) wt2_63 ∧ (i + 1) ≤ 499 ∧ zP3 g1_35 g3_6 from ⟨hw_68, h_66, by omega, hQ2⟩) (show 499 - (i + 1) < 499 - i from by omega) _ _ ls G (lv_sub hl [0, 1, 3, 4, 5] rfl)
      · have c_40n : (zStep xf g2_5 g3_6 k2 y2).toInt = (-1 : Int) := (fa_eq _ _).mp c_40
        have hw_69 : bTrail T h po x1 x2 y0 y1 y2 y3 y4 [zO9 h po a1_32 a2_33 y0 y1 y2 y3 y4, zAr T 0 a1_32 7 x1, zAr T 0 a2_33 7 x2] := ⟨a1_32, a2_33, rfl⟩
        have G : zS T A s.heap s [[zO9 h po a1_32 a2_33 y0 y1 y2 y3 y4, zAr T 0 a1_32 7 x1, zAr T 0 a2_33 7 x2], w2_34, z] _ _ := G.re rfl
        exact z_back hQ9 (z_vret C hr hlocks G (Nat.le_of_ble_eq_true rfl) (Nat.le_of_ble_eq_true rfl) dX10_follow_97 ⟨([zO9 h po a1_32 a2_33 y0 y1 y2 y3 y4, zAr T 0 a1_32 7 x1, zAr T 0 a2_33 7 x2]), x1, x2, y0, y1, y2, y3, y4, w2_34, g1_35, g2_5, g3_6, 0, 0, rfl, hw_69, h_37, hQ2⟩)
  · have c_13n : ¬ 7 ≤ i := fun q => c_13 ((nI_leI (a := 7) (b := i) (by omega) (by omega)).mpr q)
    refine lv_aload_n hx hb dX10_follow_16 rfl (lv_at hl 1 rfl) ?_
    refine zEx2 ht4 ?_
    intro a1_70 a2_71 hbs9
    clear ht4
    subst hbs9
    have G : zS T A s.heap s [[zO9 h po a1_70 a2_71 v0 v1 v2 v3 v4], [zAr T 0 a1_70 7 x1], [zAr T 0 a2_71 7 x2], w2_3, z] _ _ := G.re rfl
    refine z_get C G clX10 0 rfl 1 (by decide) m_fl_RX10_18 rfl dX10_follow_17 ?_
    refine lv_iload_n hx hb dX10_follow_20 rfl (lv_at hl 0 rfl) ?_
    refine lv_iconst (v := 0) hx hb dX10_follow_21 (by decide) ?_
    refine z_ist C G 1 rfl (vp_in_nI (by omega) (by omega)) dX10_follow_22 (fun H locs G => ?_)
    rw [nI_clamp (by omega)] at G
    have G : zS T A s.heap s [[zO9 h po a1_70 a2_71 v0 v1 v2 v3 v4], [zAr T 0 a1_70 7 (upd x1 i 0)], [zAr T 0 a2_71 7 x2], w2_3, z] _ _ := G
    refine lv_aload_n hx hb dX10_follow_23 rfl (lv_at hl 1 rfl) ?_
    refine z_get C G clX10 0 rfl 2 (by decide) m_fl_RX10_22 rfl dX10_follow_24 ?_
    refine lv_iload_n hx hb dX10_follow_27 rfl (lv_at hl 0 rfl) ?_
    refine lv_iconst (v := 0) hx hb dX10_follow_28 (by decide) ?_
    refine z_ist C G 2 rfl (vp_in_nI (by omega) (by omega)) dX10_follow_29 (fun H locs G => ?_)
    rw [nI_clamp (by omega)] at G
    have G : zS T A s.heap s [[zO9 h po a1_70 a2_71 v0 v1 v2 v3 v4], [zAr T 0 a1_70 7 (upd x1 i 0)], [zAr T 0 a2_71 7 (upd x2 i 0)], w2_3, z] _ _ := G
    refine lv_iinc (v := nI (i + 1)) (lv' := [(3, .int (nI (i + 1))), (0, .ref h), (1, .ref o), (2, .int x)]) hx hb dX10_follow_30 hl (k := 0) rfl (z_inc i 1) (by decide) rfl (fun ls hl => ?_)
    refine lv_goto (tgt := 10) hx hb dX10_follow_33 (by decide) ?_
    have hw_72 : bTrail T h po (upd x1 i 0) (upd x2 i 0) v0 v1 v2 v3 v4 [zO9 h po a1_70 a2_71 v0 v1 v2 v3 v4, zAr T 0 a1_70 7 (upd x1 i 0), zAr T 0 a2_71 7 (upd x2 i 0)] := ⟨a1_70, a2_71, rfl⟩
    have G : zS T A s.heap s [[zO9 h po a1_70 a2_71 v0 v1 v2 v3 v4, zAr T 0 a1_70 7 (upd x1 i 0), zAr T 0 a2_71 7 (upd x2 i 0)], w2_3, z] _ _ := G.re rfl
    exact ih_10 (i + 1) ([zO9 h po a1_70 a2_71 v0 v1 v2 v3 v4, zAr T 0 a1_70 7 (upd x1 i 0), zAr T 0 a2_71 7 (upd x2 i 0)]) (upd x1 i 0) (upd x2 i 0) (show bTrail T h po (upd x1 i 0) (upd x2 i 0) v0 v1 v2 v3 v4 ([zO9 h po a1_70 a2_71 v0 v1 v2 v3 v4, zAr T 0 a1_70 7 (upd x1 i 0), zAr T 0 a2_71 7 (upd x2 i 0)]) ∧ (i + 1) ≤ 7 from ⟨hw_72, by omega⟩) (show 7 - (i + 1) < 7 - i from by omega) _ _ ls G (lv_sub hl [0, 1, 2, 3] rfl)
set_option maxHeartbeats 4000000 in
set_option maxRecDepth 100000 in
/-- unused -/
theorem c_unused (l : Launch) (T : zTy) (h : Nat) (po : Nat) (t1 : Nat → Int32) (t2 : Nat → Int32) (v0 : Int32) (v1 : Int32) (v2 : Int32) (v3 : Int32) (v4 : Int32) (wt : va_W) (la : Nat) (f1 : Nat → Int32) (f2 : Nat → Int32) (f3 : Nat → Int32) (st : Int32) (wh : Int32) (wp : va_W) (cr : Int32) (inn : Int32) (k1 : Nat → Int32) (k2 : Nat → Int32) (k3 : Nat → Int32) (k4 : Nat → Int32) (z : va_W) (ht : bTrail T h po t1 t2 v0 v1 v2 v3 v4 wt) (hp : bPosts T po la f1 f2 f3 st wh wp) (hz : bLand T la cr inn k1 k2 k3 k4 z) (hI : zLI cr k1 k3) : zMi l T yX10_unused cX10_unused 3 (some .int) 3 0 0 [.ref h] [wt, wp, z] (fun (r : Int32) bs => bs = [wt, wp, z]) := by
  refine zMi_of (own := RX10) (by decide) rfl (Nat.le_of_ble_eq_true rfl) ?_
  intro p e s m args below meth c A ls C hr hlocks hnm hAe G hl
  refine zHide (fun Q9 hQ9 => ?_)
  have hx := C.1
  have hb := C.2.1
  have hl : lv_has ls 3 [(0, .ref h)] := hl
  have hcr := hI.1
  refine lv_iconst (v := 0) hx hb dX10_unused_0 (by decide) ?_
  refine lv_istore_n (lv' := [(1, .int 0), (0, .ref h)]) hx hb dX10_unused_1 rfl hl (by decide) rfl (fun ls hl => ?_)
  refine lv_iconst (v := 0) hx hb dX10_unused_2 (by decide) ?_
  refine lv_istore_n (lv' := [(2, .int 0), (1, .int 0), (0, .ref h)]) hx hb dX10_unused_3 rfl hl (by decide) rfl (fun ls hl => ?_)
  refine zEx2 ht ?_
  intro a1_1 a2_2 hbs9
  clear ht
  subst hbs9
  have G : zS T A s.heap s [[zO9 h po a1_1 a2_2 v0 v1 v2 v3 v4], [zAr T 0 a1_1 7 t1], [zAr T 0 a2_2 7 t2], wp, z] _ _ := G.re rfl
  refine zEx3 hp ?_
  intro a1_3 a2_4 a3_5 hbs9
  clear hp
  subst hbs9
  have G : zS T A s.heap s [[zO9 h po a1_1 a2_2 v0 v1 v2 v3 v4], [zAr T 0 a1_1 7 t1], [zAr T 0 a2_2 7 t2], [zO6 po la a1_3 a2_4 st wh a3_5], [zAr T 0 a1_3 7 f1], [zAr T 0 a2_4 7 f2], [zAr T 0 a3_5 7 f3], z] _ _ := G.re rfl
  refine zEx4 hz ?_
  intro a1_6 a2_7 a3_8 a4_9 hbs9
  clear hz
  subst hbs9
  have G : zS T A s.heap s [[zO9 h po a1_1 a2_2 v0 v1 v2 v3 v4], [zAr T 0 a1_1 7 t1], [zAr T 0 a2_2 7 t2], [zO6 po la a1_3 a2_4 st wh a3_5], [zAr T 0 a1_3 7 f1], [zAr T 0 a2_4 7 f2], [zAr T 0 a3_5 7 f3], [zO4 la cr inn a1_6 a2_7 a3_8 a4_9], [zAr T 0 a1_6 7 k1], [zAr T 0 a2_7 28 k2], [zAr T 0 a3_8 7 k3], [zAr T 0 a4_9 7 k4]] _ _ := G.re rfl
  have hw_10 : bTrail T h po t1 t2 v0 v1 v2 v3 v4 [zO9 h po a1_1 a2_2 v0 v1 v2 v3 v4, zAr T 0 a1_1 7 t1, zAr T 0 a2_2 7 t2] := ⟨a1_1, a2_2, rfl⟩
  have G : zS T A s.heap s [[zO9 h po a1_1 a2_2 v0 v1 v2 v3 v4, zAr T 0 a1_1 7 t1, zAr T 0 a2_2 7 t2], [zO6 po la a1_3 a2_4 st wh a3_5], [zAr T 0 a1_3 7 f1], [zAr T 0 a2_4 7 f2], [zAr T 0 a3_5 7 f3], [zO4 la cr inn a1_6 a2_7 a3_8 a4_9], [zAr T 0 a1_6 7 k1], [zAr T 0 a2_7 28 k2], [zAr T 0 a3_8 7 k3], [zAr T 0 a4_9 7 k4]] _ _ := G.re rfl
  have hw_11 : bPosts T po la f1 f2 f3 st wh [zO6 po la a1_3 a2_4 st wh a3_5, zAr T 0 a1_3 7 f1, zAr T 0 a2_4 7 f2, zAr T 0 a3_5 7 f3] := ⟨a1_3, a2_4, a3_5, rfl⟩
  have G : zS T A s.heap s [[zO9 h po a1_1 a2_2 v0 v1 v2 v3 v4, zAr T 0 a1_1 7 t1, zAr T 0 a2_2 7 t2], [zO6 po la a1_3 a2_4 st wh a3_5, zAr T 0 a1_3 7 f1, zAr T 0 a2_4 7 f2, zAr T 0 a3_5 7 f3], [zO4 la cr inn a1_6 a2_7 a3_8 a4_9], [zAr T 0 a1_6 7 k1], [zAr T 0 a2_7 28 k2], [zAr T 0 a3_8 7 k3], [zAr T 0 a4_9 7 k4]] _ _ := G.re rfl
  have hw_12 : bLand T la cr inn k1 k2 k3 k4 [zO4 la cr inn a1_6 a2_7 a3_8 a4_9, zAr T 0 a1_6 7 k1, zAr T 0 a2_7 28 k2, zAr T 0 a3_8 7 k3, zAr T 0 a4_9 7 k4] := ⟨a1_6, a2_7, a3_8, a4_9, rfl⟩
  have G : zS T A s.heap s [[zO9 h po a1_1 a2_2 v0 v1 v2 v3 v4, zAr T 0 a1_1 7 t1, zAr T 0 a2_2 7 t2], [zO6 po la a1_3 a2_4 st wh a3_5, zAr T 0 a1_3 7 f1, zAr T 0 a2_4 7 f2, zAr T 0 a3_5 7 f3], [zO4 la cr inn a1_6 a2_7 a3_8 a4_9, zAr T 0 a1_6 7 k1, zAr T 0 a2_7 28 k2, zAr T 0 a3_8 7 k3, zAr T 0 a4_9 7 k4]] _ _ := G.re rfl
  refine z_lp2 (T := T) 4 (fun (i : Nat) (u : Int32) => [[zO9 h po a1_1 a2_2 v0 v1 v2 v3 v4, zAr T 0 a1_1 7 t1, zAr T 0 a2_2 7 t2], [zO6 po la a1_3 a2_4 st wh a3_5, zAr T 0 a1_3 7 f1, zAr T 0 a2_4 7 f2, zAr T 0 a3_5 7 f3], [zO4 la cr inn a1_6 a2_7 a3_8 a4_9, zAr T 0 a1_6 7 k1, zAr T 0 a2_7 28 k2, zAr T 0 a3_8 7 k3, zAr T 0 a4_9 7 k4]]) (fun (i : Nat) (u : Int32) => [(2, .int (nI i)), (1, .int u), (0, .ref h)]) (fun (i : Nat) (u : Int32) => i ≤ cr.toInt.toNat) (fun (i : Nat) (u : Int32) => cr.toInt.toNat - i) ?_ 0 0 (show 0 ≤ cr.toInt.toNat from by omega) G (lv_sub hl [0, 1, 2] rfl)
  intro i u hi ih_4 H locs ls G hl
  replace hi : i ≤ cr.toInt.toNat := hi
  replace G : zS T A s.heap s [[zO9 h po a1_1 a2_2 v0 v1 v2 v3 v4, zAr T 0 a1_1 7 t1, zAr T 0 a2_2 7 t2], [zO6 po la a1_3 a2_4 st wh a3_5, zAr T 0 a1_3 7 f1, zAr T 0 a2_4 7 f2, zAr T 0 a3_5 7 f3], [zO4 la cr inn a1_6 a2_7 a3_8 a4_9, zAr T 0 a1_6 7 k1, zAr T 0 a2_7 28 k2, zAr T 0 a3_8 7 k3, zAr T 0 a4_9 7 k4]] _ _ := G
  replace hl : lv_has ls 3 [(2, .int (nI i)), (1, .int u), (0, .ref h)] := hl
  refine lv_iload_n hx hb dX10_unused_4 rfl (lv_at hl 0 rfl) ?_
  refine lv_aload_n hx hb dX10_unused_5 rfl (lv_at hl 2 rfl) ?_
  have G : zS T A s.heap s [[zO9 h po a1_1 a2_2 v0 v1 v2 v3 v4], [zAr T 0 a1_1 7 t1], [zAr T 0 a2_2 7 t2], [zO6 po la a1_3 a2_4 st wh a3_5, zAr T 0 a1_3 7 f1, zAr T 0 a2_4 7 f2, zAr T 0 a3_5 7 f3], [zO4 la cr inn a1_6 a2_7 a3_8 a4_9, zAr T 0 a1_6 7 k1, zAr T 0 a2_7 28 k2, zAr T 0 a3_8 7 k3, zAr T 0 a4_9 7 k4]] _ _ := G.re rfl
  refine z_get C G clX10 0 rfl 0 (by decide) m_fl_RX10_12 rfl dX10_unused_6 ?_
  have G : zS T A s.heap s [[zO9 h po a1_1 a2_2 v0 v1 v2 v3 v4], [zAr T 0 a1_1 7 t1], [zAr T 0 a2_2 7 t2], [zO6 po la a1_3 a2_4 st wh a3_5], [zAr T 0 a1_3 7 f1], [zAr T 0 a2_4 7 f2], [zAr T 0 a3_5 7 f3], [zO4 la cr inn a1_6 a2_7 a3_8 a4_9, zAr T 0 a1_6 7 k1, zAr T 0 a2_7 28 k2, zAr T 0 a3_8 7 k3, zAr T 0 a4_9 7 k4]] _ _ := G.re rfl
  refine z_get C G clX6 3 rfl 0 (by decide) m_fl_RX10_61 rfl dX10_unused_9 ?_
  have G : zS T A s.heap s [[zO9 h po a1_1 a2_2 v0 v1 v2 v3 v4], [zAr T 0 a1_1 7 t1], [zAr T 0 a2_2 7 t2], [zO6 po la a1_3 a2_4 st wh a3_5], [zAr T 0 a1_3 7 f1], [zAr T 0 a2_4 7 f2], [zAr T 0 a3_5 7 f3], [zO4 la cr inn a1_6 a2_7 a3_8 a4_9], [zAr T 0 a1_6 7 k1], [zAr T 0 a2_7 28 k2], [zAr T 0 a3_8 7 k3], [zAr T 0 a4_9 7 k4]] _ _ := G.re rfl
  refine z_get C G clX4 7 rfl 0 (by decide) m_fl_RX10_65 rfl dX10_unused_12 ?_
  refine lv_icmp_ge (tgt := 59) hx hb dX10_unused_15 (by decide) (fun c_13 => ?_) (fun c_13 => ?_)
  · have c_13n : cr.toInt ≤ (i : Int) := by have q := (fa_le _ _).mp c_13; rw [nI_toInt (n := i) (by omega)] at q; exact q
    refine lv_iload_n hx hb dX10_unused_59 rfl (lv_at hl 1 rfl) ?_
    have hw_14 : bTrail T h po t1 t2 v0 v1 v2 v3 v4 [zO9 h po a1_1 a2_2 v0 v1 v2 v3 v4, zAr T 0 a1_1 7 t1, zAr T 0 a2_2 7 t2] := ⟨a1_1, a2_2, rfl⟩
    have G : zS T A s.heap s [[zO9 h po a1_1 a2_2 v0 v1 v2 v3 v4, zAr T 0 a1_1 7 t1, zAr T 0 a2_2 7 t2], [zO6 po la a1_3 a2_4 st wh a3_5], [zAr T 0 a1_3 7 f1], [zAr T 0 a2_4 7 f2], [zAr T 0 a3_5 7 f3], [zO4 la cr inn a1_6 a2_7 a3_8 a4_9], [zAr T 0 a1_6 7 k1], [zAr T 0 a2_7 28 k2], [zAr T 0 a3_8 7 k3], [zAr T 0 a4_9 7 k4]] _ _ := G.re rfl
    have hw_15 : bPosts T po la f1 f2 f3 st wh [zO6 po la a1_3 a2_4 st wh a3_5, zAr T 0 a1_3 7 f1, zAr T 0 a2_4 7 f2, zAr T 0 a3_5 7 f3] := ⟨a1_3, a2_4, a3_5, rfl⟩
    have G : zS T A s.heap s [[zO9 h po a1_1 a2_2 v0 v1 v2 v3 v4, zAr T 0 a1_1 7 t1, zAr T 0 a2_2 7 t2], [zO6 po la a1_3 a2_4 st wh a3_5, zAr T 0 a1_3 7 f1, zAr T 0 a2_4 7 f2, zAr T 0 a3_5 7 f3], [zO4 la cr inn a1_6 a2_7 a3_8 a4_9], [zAr T 0 a1_6 7 k1], [zAr T 0 a2_7 28 k2], [zAr T 0 a3_8 7 k3], [zAr T 0 a4_9 7 k4]] _ _ := G.re rfl
    have hw_16 : bLand T la cr inn k1 k2 k3 k4 [zO4 la cr inn a1_6 a2_7 a3_8 a4_9, zAr T 0 a1_6 7 k1, zAr T 0 a2_7 28 k2, zAr T 0 a3_8 7 k3, zAr T 0 a4_9 7 k4] := ⟨a1_6, a2_7, a3_8, a4_9, rfl⟩
    have G : zS T A s.heap s [[zO9 h po a1_1 a2_2 v0 v1 v2 v3 v4, zAr T 0 a1_1 7 t1, zAr T 0 a2_2 7 t2], [zO6 po la a1_3 a2_4 st wh a3_5, zAr T 0 a1_3 7 f1, zAr T 0 a2_4 7 f2, zAr T 0 a3_5 7 f3], [zO4 la cr inn a1_6 a2_7 a3_8 a4_9, zAr T 0 a1_6 7 k1, zAr T 0 a2_7 28 k2, zAr T 0 a3_8 7 k3, zAr T 0 a4_9 7 k4]] _ _ := G.re rfl
    exact z_back hQ9 (z_iret C hr hlocks G (Nat.le_of_ble_eq_true rfl) (Nat.le_of_ble_eq_true rfl) dX10_unused_60 rfl)
  · have c_13n : ¬ cr.toInt ≤ (i : Int) := fun q => c_13 ((fa_le _ _).mpr (by rw [nI_toInt (n := i) (by omega)]; exact q))
    refine lv_aload_n hx hb dX10_unused_18 rfl (lv_at hl 2 rfl) ?_
    refine z_get C G clX10 0 rfl 3 (by decide) m_fl_RX10_35 rfl dX10_unused_19 ?_
    refine lv_iload_n hx hb dX10_unused_22 rfl (lv_at hl 0 rfl) ?_
    refine lv_ishr hx hb dX10_unused_23 ?_
    refine lv_iconst (v := 1) hx hb dX10_unused_24 (by decide) ?_
    refine lv_iand hx hb dX10_unused_25 ?_
    refine lv_if_eq (tgt := 53) hx hb dX10_unused_26 (by decide) (fun c_17 => ?_) (fun c_17 => ?_)
    · have c_17n : ((v0 >>> ((nI i) &&& 31)) &&& 1).toInt = (0 : Int) := (fa_eq _ _).mp c_17
      refine lv_iinc (v := nI (i + 1)) (lv' := [(2, .int (nI (i + 1))), (1, .int u), (0, .ref h)]) hx hb dX10_unused_53 hl (k := 0) rfl (z_inc i 1) (by decide) rfl (fun ls hl => ?_)
      refine lv_goto (tgt := 4) hx hb dX10_unused_56 (by decide) ?_
      have hw_18 : bTrail T h po t1 t2 v0 v1 v2 v3 v4 [zO9 h po a1_1 a2_2 v0 v1 v2 v3 v4, zAr T 0 a1_1 7 t1, zAr T 0 a2_2 7 t2] := ⟨a1_1, a2_2, rfl⟩
      have G : zS T A s.heap s [[zO9 h po a1_1 a2_2 v0 v1 v2 v3 v4, zAr T 0 a1_1 7 t1, zAr T 0 a2_2 7 t2], [zO6 po la a1_3 a2_4 st wh a3_5], [zAr T 0 a1_3 7 f1], [zAr T 0 a2_4 7 f2], [zAr T 0 a3_5 7 f3], [zO4 la cr inn a1_6 a2_7 a3_8 a4_9], [zAr T 0 a1_6 7 k1], [zAr T 0 a2_7 28 k2], [zAr T 0 a3_8 7 k3], [zAr T 0 a4_9 7 k4]] _ _ := G.re rfl
      have hw_19 : bPosts T po la f1 f2 f3 st wh [zO6 po la a1_3 a2_4 st wh a3_5, zAr T 0 a1_3 7 f1, zAr T 0 a2_4 7 f2, zAr T 0 a3_5 7 f3] := ⟨a1_3, a2_4, a3_5, rfl⟩
      have G : zS T A s.heap s [[zO9 h po a1_1 a2_2 v0 v1 v2 v3 v4, zAr T 0 a1_1 7 t1, zAr T 0 a2_2 7 t2], [zO6 po la a1_3 a2_4 st wh a3_5, zAr T 0 a1_3 7 f1, zAr T 0 a2_4 7 f2, zAr T 0 a3_5 7 f3], [zO4 la cr inn a1_6 a2_7 a3_8 a4_9], [zAr T 0 a1_6 7 k1], [zAr T 0 a2_7 28 k2], [zAr T 0 a3_8 7 k3], [zAr T 0 a4_9 7 k4]] _ _ := G.re rfl
      have hw_20 : bLand T la cr inn k1 k2 k3 k4 [zO4 la cr inn a1_6 a2_7 a3_8 a4_9, zAr T 0 a1_6 7 k1, zAr T 0 a2_7 28 k2, zAr T 0 a3_8 7 k3, zAr T 0 a4_9 7 k4] := ⟨a1_6, a2_7, a3_8, a4_9, rfl⟩
      have G : zS T A s.heap s [[zO9 h po a1_1 a2_2 v0 v1 v2 v3 v4, zAr T 0 a1_1 7 t1, zAr T 0 a2_2 7 t2], [zO6 po la a1_3 a2_4 st wh a3_5, zAr T 0 a1_3 7 f1, zAr T 0 a2_4 7 f2, zAr T 0 a3_5 7 f3], [zO4 la cr inn a1_6 a2_7 a3_8 a4_9, zAr T 0 a1_6 7 k1, zAr T 0 a2_7 28 k2, zAr T 0 a3_8 7 k3, zAr T 0 a4_9 7 k4]] _ _ := G.re rfl
      exact ih_4 (i + 1) u (show (i + 1) ≤ cr.toInt.toNat from by omega) (show cr.toInt.toNat - (i + 1) < cr.toInt.toNat - i from by omega) _ _ ls G (lv_sub hl [0, 1, 2] rfl)
    · have c_17n : ¬ ((v0 >>> ((nI i) &&& 31)) &&& 1).toInt = (0 : Int) := fun q => c_17 ((fa_eq _ _).mpr q)
      refine lv_iload_n hx hb dX10_unused_29 rfl (lv_at hl 1 rfl) ?_
      refine lv_aload_n hx hb dX10_unused_30 rfl (lv_at hl 2 rfl) ?_
      refine z_get C G clX10 0 rfl 0 (by decide) m_fl_RX10_12 rfl dX10_unused_31 ?_
      refine z_get C G clX6 3 rfl 0 (by decide) m_fl_RX10_61 rfl dX10_unused_34 ?_
      refine lv_iload_n hx hb dX10_unused_37 rfl (lv_at hl 0 rfl) ?_
      have hw_21 : bLand T la cr inn k1 k2 k3 k4 [zO4 la cr inn a1_6 a2_7 a3_8 a4_9, zAr T 0 a1_6 7 k1, zAr T 0 a2_7 28 k2, zAr T 0 a3_8 7 k3, zAr T 0 a4_9 7 k4] := ⟨a1_6, a2_7, a3_8, a4_9, rfl⟩
      have G : zS T A s.heap s [[zO9 h po a1_1 a2_2 v0 v1 v2 v3 v4], [zAr T 0 a1_1 7 t1], [zAr T 0 a2_2 7 t2], [zO6 po la a1_3 a2_4 st wh a3_5], [zAr T 0 a1_3 7 f1], [zAr T 0 a2_4 7 f2], [zAr T 0 a3_5 7 f3], [zO4 la cr inn a1_6 a2_7 a3_8 a4_9, zAr T 0 a1_6 7 k1, zAr T 0 a2_7 28 k2, zAr T 0 a3_8 7 k3, zAr T 0 a4_9 7 k4]] _ _ := G.re rfl
      refine z_Vi (bc := [[zO4 la cr inn a1_6 a2_7 a3_8 a4_9, zAr T 0 a1_6 7 k1, zAr T 0 a2_7 28 k2, zAr T 0 a3_8 7 k3, zAr T 0 a4_9 7 k4]]) (br := [[zO9 h po a1_1 a2_2 v0 v1 v2 v3 v4], [zAr T 0 a1_1 7 t1], [zAr T 0 a2_2 7 t2], [zO6 po la a1_3 a2_4 st wh a3_5], [zAr T 0 a1_3 7 f1], [zAr T 0 a2_4 7 f2], [zAr T 0 a3_5 7 f3]]) (As := [.int (nI i)]) (rest := [.int u]) C G (c_waysOut l T la cr inn k1 k2 k3 k4 ([zO4 la cr inn a1_6 a2_7 a3_8 a4_9, zAr T 0 a1_6 7 k1, zAr T 0 a2_7 28 k2, zAr T 0 a3_8 7 k3, zAr T 0 a4_9 7 k4]) (nI i) hw_21) (kV_RX10_70 C.2.2.2.2 (Nat.le_of_ble_eq_true rfl) (Nat.le_of_ble_eq_true rfl)) [7] [7] rfl rfl (ci := 4) (qc := (RX4, TX4, 6)) rfl rfl (List.mem_flatten.mpr ⟨_, List.mem_of_getElem? (i := 0) rfl, (bLand_mem hw_21).choose_spec⟩) rfl rfl hl.1 dX10_unused_38 (Nat.le_of_ble_eq_true rfl) (Nat.le_of_ble_eq_true rfl) (fun r_23 b1 H locs hw G => ?_)
      refine zAn2 hw ?_
      intro hbs9 h_22
      clear hw
      subst hbs9
      have G : zS T A s.heap s [[zO9 h po a1_1 a2_2 v0 v1 v2 v3 v4], [zAr T 0 a1_1 7 t1], [zAr T 0 a2_2 7 t2], [zO6 po la a1_3 a2_4 st wh a3_5], [zAr T 0 a1_3 7 f1], [zAr T 0 a2_4 7 f2], [zAr T 0 a3_5 7 f3], [zO4 la cr inn a1_6 a2_7 a3_8 a4_9, zAr T 0 a1_6 7 k1, zAr T 0 a2_7 28 k2, zAr T 0 a3_8 7 k3, zAr T 0 a4_9 7 k4]] _ _ := G
      subst h_22
      refine lv_aload_n hx hb dX10_unused_41 rfl (lv_at hl 2 rfl) ?_
      refine z_get C G clX10 0 rfl 2 (by decide) m_fl_RX10_22 rfl dX10_unused_42 ?_
      refine lv_iload_n hx hb dX10_unused_45 rfl (lv_at hl 0 rfl) ?_
      refine z_ild C G 2 rfl (vp_in_nI (by omega) (by omega)) dX10_unused_46 ?_
      refine lv_topi (fun v_24 ev_24 => ?_)
      rw [nI_clamp (by omega)] at ev_24
      subst ev_24
      refine z_Si (bc := []) (br := [[zO9 h po a1_1 a2_2 v0 v1 v2 v3 v4], [zAr T 0 a1_1 7 t1], [zAr T 0 a2_2 7 t2], [zO6 po la a1_3 a2_4 st wh a3_5], [zAr T 0 a1_3 7 f1], [zAr T 0 a2_4 7 f2], [zAr T 0 a3_5 7 f3], [zO4 la cr inn a1_6 a2_7 a3_8 a4_9, zAr T 0 a1_6 7 k1, zAr T 0 a2_7 28 k2, zAr T 0 a3_8 7 k3, zAr T 0 a4_9 7 k4]]) (As := [.int (t2 i)]) (rest := [.int (zWays cr inn k1 (nI i)), .int u]) C G (c_bitCount l T (t2 i)) (kS_RX10_73 C.2.2.2.2 (Nat.le_of_ble_eq_true rfl) (Nat.le_of_ble_eq_true rfl)) [] [] rfl rfl rfl rfl hl.1 dX10_unused_47 (Nat.le_of_ble_eq_true rfl) (Nat.le_of_ble_eq_true rfl) (fun r_25 b1 H locs hw G => ?_)
      obtain rfl := hw
      have G : zS T A s.heap s [[zO9 h po a1_1 a2_2 v0 v1 v2 v3 v4], [zAr T 0 a1_1 7 t1], [zAr T 0 a2_2 7 t2], [zO6 po la a1_3 a2_4 st wh a3_5], [zAr T 0 a1_3 7 f1], [zAr T 0 a2_4 7 f2], [zAr T 0 a3_5 7 f3], [zO4 la cr inn a1_6 a2_7 a3_8 a4_9, zAr T 0 a1_6 7 k1, zAr T 0 a2_7 28 k2, zAr T 0 a3_8 7 k3, zAr T 0 a4_9 7 k4]] _ _ := G
      refine lv_isub hx hb dX10_unused_50 ?_
      refine lv_iadd hx hb dX10_unused_51 ?_
      refine lv_istore_n (lv' := [(1, .int (u + ((zWays cr inn k1 (nI i)) - r_25))), (2, .int (nI i)), (0, .ref h)]) hx hb dX10_unused_52 rfl hl (by decide) rfl (fun ls hl => ?_)
      refine lv_iinc (v := nI (i + 1)) (lv' := [(2, .int (nI (i + 1))), (1, .int (u + ((zWays cr inn k1 (nI i)) - r_25))), (0, .ref h)]) hx hb dX10_unused_53 hl (k := 1) rfl (z_inc i 1) (by decide) rfl (fun ls hl => ?_)
      refine lv_goto (tgt := 4) hx hb dX10_unused_56 (by decide) ?_
      have hw_26 : bTrail T h po t1 t2 v0 v1 v2 v3 v4 [zO9 h po a1_1 a2_2 v0 v1 v2 v3 v4, zAr T 0 a1_1 7 t1, zAr T 0 a2_2 7 t2] := ⟨a1_1, a2_2, rfl⟩
      have G : zS T A s.heap s [[zO9 h po a1_1 a2_2 v0 v1 v2 v3 v4, zAr T 0 a1_1 7 t1, zAr T 0 a2_2 7 t2], [zO6 po la a1_3 a2_4 st wh a3_5], [zAr T 0 a1_3 7 f1], [zAr T 0 a2_4 7 f2], [zAr T 0 a3_5 7 f3], [zO4 la cr inn a1_6 a2_7 a3_8 a4_9, zAr T 0 a1_6 7 k1, zAr T 0 a2_7 28 k2, zAr T 0 a3_8 7 k3, zAr T 0 a4_9 7 k4]] _ _ := G.re rfl
      have hw_27 : bPosts T po la f1 f2 f3 st wh [zO6 po la a1_3 a2_4 st wh a3_5, zAr T 0 a1_3 7 f1, zAr T 0 a2_4 7 f2, zAr T 0 a3_5 7 f3] := ⟨a1_3, a2_4, a3_5, rfl⟩
      have G : zS T A s.heap s [[zO9 h po a1_1 a2_2 v0 v1 v2 v3 v4, zAr T 0 a1_1 7 t1, zAr T 0 a2_2 7 t2], [zO6 po la a1_3 a2_4 st wh a3_5, zAr T 0 a1_3 7 f1, zAr T 0 a2_4 7 f2, zAr T 0 a3_5 7 f3], [zO4 la cr inn a1_6 a2_7 a3_8 a4_9, zAr T 0 a1_6 7 k1, zAr T 0 a2_7 28 k2, zAr T 0 a3_8 7 k3, zAr T 0 a4_9 7 k4]] _ _ := G.re rfl
      exact ih_4 (i + 1) (u + ((zWays cr inn k1 (nI i)) - r_25)) (show (i + 1) ≤ cr.toInt.toNat from by omega) (show cr.toInt.toNat - (i + 1) < cr.toInt.toNat - i from by omega) _ _ ls G (lv_sub hl [0, 1, 2] rfl)
set_option maxHeartbeats 4000000 in
set_option maxRecDepth 100000 in
/-- round -/
theorem c_round (l : Launch) (T : zTy) (h : Nat) (po : Nat) (t1 : Nat → Int32) (t2 : Nat → Int32) (v0 : Int32) (v1 : Int32) (v2 : Int32) (v3 : Int32) (v4 : Int32) (wt : va_W) (la : Nat) (f1 : Nat → Int32) (f2 : Nat → Int32) (f3 : Nat → Int32) (st : Int32) (wh : Int32) (wp : va_W) (cr : Int32) (inn : Int32) (k1 : Nat → Int32) (k2 : Nat → Int32) (k3 : Nat → Int32) (k4 : Nat → Int32) (z : va_W) (ht : bTrail T h po t1 t2 v0 v1 v2 v3 v4 wt) (hp : bPosts T po la f1 f2 f3 st wh wp) (hz : bLand T la cr inn k1 k2 k3 k4 z) (hI : zLI cr k1 k3) (hP : zP3 f1 f3) : zMi l T yX10_round cX10_round 4 (some .int) 5 0 0 [.ref h] [wt, wp, z] (fun (r : Int32) bs => ∃ (wp2 : va_W) (g1 : Nat → Int32), bs = [wt, wp2, z] ∧ bPosts T po la g1 f2 f3 st wh wp2 ∧ zP3 g1 f3) := by
  refine zMi_of (own := RX10) (by decide) rfl (Nat.le_of_ble_eq_true rfl) ?_
  intro p e s m args below meth c A ls C hr hlocks hnm hAe G hl
  refine zHide (fun Q9 hQ9 => ?_)
  have hx := C.1
  have hb := C.2.1
  have hl : lv_has ls 4 [(0, .ref h)] := hl
  refine lv_aload_n hx hb dX10_round_0 rfl (lv_at hl 0 rfl) ?_
  refine zEx2 ht ?_
  intro a1_1 a2_2 hbs9
  clear ht
  subst hbs9
  have G : zS T A s.heap s [[zO9 h po a1_1 a2_2 v0 v1 v2 v3 v4], [zAr T 0 a1_1 7 t1], [zAr T 0 a2_2 7 t2], wp, z] _ _ := G.re rfl
  refine z_get C G clX10 0 rfl 4 (by decide) m_fl_RX10_38 rfl dX10_round_1 ?_
  refine lv_sipush (v := 499) hx hb dX10_round_4 (by decide) ?_
  refine lv_icmp_lt (tgt := 27) hx hb dX10_round_7 (by decide) (fun c_3 => ?_) (fun c_3 => ?_)
  · have c_3n : v1.toInt < (499 : Int) := (fa_lt _ _).mp c_3
    refine lv_iconst (v := (-1)) hx hb dX10_round_27 (by decide) ?_
    have hw_4 : bTrail T h po t1 t2 v0 v1 v2 v3 v4 [zO9 h po a1_1 a2_2 v0 v1 v2 v3 v4, zAr T 0 a1_1 7 t1, zAr T 0 a2_2 7 t2] := ⟨a1_1, a2_2, rfl⟩
    have G : zS T A s.heap s [[zO9 h po a1_1 a2_2 v0 v1 v2 v3 v4, zAr T 0 a1_1 7 t1, zAr T 0 a2_2 7 t2], wp, z] _ _ := G.re rfl
    exact z_back hQ9 (z_iret C hr hlocks G (Nat.le_of_ble_eq_true rfl) (Nat.le_of_ble_eq_true rfl) dX10_round_28 ⟨wp, f1, rfl, hp, hP⟩)
  · have c_3n : ¬ v1.toInt < (499 : Int) := fun q => c_3 ((fa_lt _ _).mpr q)
    refine lv_aload_n hx hb dX10_round_10 rfl (lv_at hl 0 rfl) ?_
    refine z_get C G clX10 0 rfl 0 (by decide) m_fl_RX10_12 rfl dX10_round_11 ?_
    refine zEx3 hp ?_
    intro a1_5 a2_6 a3_7 hbs9
    clear hp
    subst hbs9
    have G : zS T A s.heap s [[zO9 h po a1_1 a2_2 v0 v1 v2 v3 v4], [zAr T 0 a1_1 7 t1], [zAr T 0 a2_2 7 t2], [zO6 po la a1_5 a2_6 st wh a3_7], [zAr T 0 a1_5 7 f1], [zAr T 0 a2_6 7 f2], [zAr T 0 a3_7 7 f3], z] _ _ := G.re rfl
    refine z_get C G clX6 3 rfl 0 (by decide) m_fl_RX10_61 rfl dX10_round_14 ?_
    refine lv_aload_n hx hb dX10_round_17 rfl (lv_at hl 0 rfl) ?_
    refine z_get C G clX10 0 rfl 5 (by decide) m_fl_RX10_51 rfl dX10_round_18 ?_
    refine z_Vi (bc := [z]) (br := [[zO9 h po a1_1 a2_2 v0 v1 v2 v3 v4], [zAr T 0 a1_1 7 t1], [zAr T 0 a2_2 7 t2], [zO6 po la a1_5 a2_6 st wh a3_7], [zAr T 0 a1_5 7 f1], [zAr T 0 a2_6 7 f2], [zAr T 0 a3_7 7 f3]]) (As := [.int v2]) (rest := []) C G (c_isInn l T la cr inn k1 k2 k3 k4 z v2 hz) (kV_RX10_78 C.2.2.2.2 (Nat.le_of_ble_eq_true rfl) (Nat.le_of_ble_eq_true rfl)) [7] [7] rfl rfl (ci := 4) (qc := (RX4, TX4, 6)) rfl rfl (List.mem_flatten.mpr ⟨_, List.mem_of_getElem? (i := 0) rfl, (bLand_mem hz).choose_spec⟩) rfl rfl hl.1 dX10_round_21 (Nat.le_of_ble_eq_true rfl) (Nat.le_of_ble_eq_true rfl) (fun r_9 b1 H locs hw G => ?_)
    refine zAn2 hw ?_
    intro hbs9 hc_8
    clear hw
    subst hbs9
    have G : zS T A s.heap s [[zO9 h po a1_1 a2_2 v0 v1 v2 v3 v4], [zAr T 0 a1_1 7 t1], [zAr T 0 a2_2 7 t2], [zO6 po la a1_5 a2_6 st wh a3_7], [zAr T 0 a1_5 7 f1], [zAr T 0 a2_6 7 f2], [zAr T 0 a3_7 7 f3], z] _ _ := G
    rcases hc_8 with ⟨rfl, h_10, h_11, h_12, h_13⟩ | ⟨rfl, h_14⟩
    · have h_10 : 0 ≤ v2.toInt := h_10
      have h_11 : v2.toInt < cr.toInt := h_11
      have h_12 : v2.toInt < 7 := h_12
      have h_13 : ¬ zBit inn v2 = 0 := h_13
      refine lv_if_eq (tgt := 29) hx hb dX10_round_24 (by decide) (fun q => absurd q (by decide)) (fun _ => ?_)
      refine lv_iconst (v := (-1)) hx hb dX10_round_27 (by decide) ?_
      have hw_15 : bTrail T h po t1 t2 v0 v1 v2 v3 v4 [zO9 h po a1_1 a2_2 v0 v1 v2 v3 v4, zAr T 0 a1_1 7 t1, zAr T 0 a2_2 7 t2] := ⟨a1_1, a2_2, rfl⟩
      have G : zS T A s.heap s [[zO9 h po a1_1 a2_2 v0 v1 v2 v3 v4, zAr T 0 a1_1 7 t1, zAr T 0 a2_2 7 t2], [zO6 po la a1_5 a2_6 st wh a3_7], [zAr T 0 a1_5 7 f1], [zAr T 0 a2_6 7 f2], [zAr T 0 a3_7 7 f3], z] _ _ := G.re rfl
      have hw_16 : bPosts T po la f1 f2 f3 st wh [zO6 po la a1_5 a2_6 st wh a3_7, zAr T 0 a1_5 7 f1, zAr T 0 a2_6 7 f2, zAr T 0 a3_7 7 f3] := ⟨a1_5, a2_6, a3_7, rfl⟩
      have G : zS T A s.heap s [[zO9 h po a1_1 a2_2 v0 v1 v2 v3 v4, zAr T 0 a1_1 7 t1, zAr T 0 a2_2 7 t2], [zO6 po la a1_5 a2_6 st wh a3_7, zAr T 0 a1_5 7 f1, zAr T 0 a2_6 7 f2, zAr T 0 a3_7 7 f3], z] _ _ := G.re rfl
      exact z_back hQ9 (z_iret C hr hlocks G (Nat.le_of_ble_eq_true rfl) (Nat.le_of_ble_eq_true rfl) dX10_round_28 ⟨([zO6 po la a1_5 a2_6 st wh a3_7, zAr T 0 a1_5 7 f1, zAr T 0 a2_6 7 f2, zAr T 0 a3_7 7 f3]), f1, rfl, hw_16, hP⟩)
    · have h_14 : (v2.toInt < 0 ∨ cr.toInt ≤ v2.toInt ∨ 7 ≤ v2.toInt ∨ zBit inn v2 = 0) := h_14
      refine lv_if_eq (tgt := 29) hx hb dX10_round_24 (by decide) (fun _ => ?_) (fun q => absurd (by decide) q)
      refine lv_aload_n hx hb dX10_round_29 rfl (lv_at hl 0 rfl) ?_
      refine z_get C G clX10 0 rfl 0 (by decide) m_fl_RX10_12 rfl dX10_round_30 ?_
      have hw_17 : bPosts T po la f1 f2 f3 st wh [zO6 po la a1_5 a2_6 st wh a3_7, zAr T 0 a1_5 7 f1, zAr T 0 a2_6 7 f2, zAr T 0 a3_7 7 f3] := ⟨a1_5, a2_6, a3_7, rfl⟩
      have G : zS T A s.heap s [[zO9 h po a1_1 a2_2 v0 v1 v2 v3 v4], [zAr T 0 a1_1 7 t1], [zAr T 0 a2_2 7 t2], [zO6 po la a1_5 a2_6 st wh a3_7, zAr T 0 a1_5 7 f1, zAr T 0 a2_6 7 f2, zAr T 0 a3_7 7 f3], z] _ _ := G.re rfl
      refine z_Vi (bc := [[zO6 po la a1_5 a2_6 st wh a3_7, zAr T 0 a1_5 7 f1, zAr T 0 a2_6 7 f2, zAr T 0 a3_7 7 f3]]) (br := [[zO9 h po a1_1 a2_2 v0 v1 v2 v3 v4], [zAr T 0 a1_1 7 t1], [zAr T 0 a2_2 7 t2], z]) (As := []) (rest := []) C G (c_code l T po la f1 f2 f3 st wh ([zO6 po la a1_5 a2_6 st wh a3_7, zAr T 0 a1_5 7 f1, zAr T 0 a2_6 7 f2, zAr T 0 a3_7 7 f3]) hw_17) (kV_RX10_82 C.2.2.2.2 (Nat.le_of_ble_eq_true rfl) (Nat.le_of_ble_eq_true rfl)) [3] [3] rfl rfl (ci := 6) (qc := (RX6, TX6, 6)) rfl rfl (List.mem_flatten.mpr ⟨_, List.mem_of_getElem? (i := 0) rfl, (bPosts_mem hw_17).choose_spec⟩) rfl rfl hl.1 dX10_round_33 (Nat.le_of_ble_eq_true rfl) (Nat.le_of_ble_eq_true rfl) (fun r_19 b1 H locs hw G => ?_)
      refine zAn2 hw ?_
      intro hbs9 h_18
      clear hw
      subst hbs9
      have G : zS T A s.heap s [[zO9 h po a1_1 a2_2 v0 v1 v2 v3 v4], [zAr T 0 a1_1 7 t1], [zAr T 0 a2_2 7 t2], z, [zO6 po la a1_5 a2_6 st wh a3_7, zAr T 0 a1_5 7 f1, zAr T 0 a2_6 7 f2, zAr T 0 a3_7 7 f3]] _ _ := G
      subst h_18
      refine lv_istore_n (lv' := [(1, .int (zCode f1 7)), (0, .ref h)]) hx hb dX10_round_36 rfl hl (by decide) rfl (fun ls hl => ?_)
      refine lv_aload_n hx hb dX10_round_37 rfl (lv_at hl 1 rfl) ?_
      refine z_get C G clX10 0 rfl 5 (by decide) m_fl_RX10_51 rfl dX10_round_38 ?_
      refine lv_istore_n (lv' := [(2, .int v2), (1, .int (zCode f1 7)), (0, .ref h)]) hx hb dX10_round_41 rfl hl (by decide) rfl (fun ls hl => ?_)
      refine lv_iconst (v := 1) hx hb dX10_round_42 (by decide) ?_
      refine lv_istore_n (lv' := [(3, .int 1), (2, .int v2), (1, .int (zCode f1 7)), (0, .ref h)]) hx hb dX10_round_43 rfl hl (by decide) rfl (fun ls hl => ?_)
      have G : zS T A s.heap s [[zO9 h po a1_1 a2_2 v0 v1 v2 v3 v4], [zAr T 0 a1_1 7 t1], [zAr T 0 a2_2 7 t2], z, [zO6 po la a1_5 a2_6 st wh a3_7], [zAr T 0 a1_5 7 f1], [zAr T 0 a2_6 7 f2], [zAr T 0 a3_7 7 f3]] _ _ := G.re rfl
      refine zEx4 hz ?_
      intro a1_20 a2_21 a3_22 a4_23 hbs9
      clear hz
      subst hbs9
      have G : zS T A s.heap s [[zO9 h po a1_1 a2_2 v0 v1 v2 v3 v4], [zAr T 0 a1_1 7 t1], [zAr T 0 a2_2 7 t2], [zO4 la cr inn a1_20 a2_21 a3_22 a4_23], [zAr T 0 a1_20 7 k1], [zAr T 0 a2_21 28 k2], [zAr T 0 a3_22 7 k3], [zAr T 0 a4_23 7 k4], [zO6 po la a1_5 a2_6 st wh a3_7], [zAr T 0 a1_5 7 f1], [zAr T 0 a2_6 7 f2], [zAr T 0 a3_7 7 f3]] _ _ := G.re rfl
      have hw_24 : bTrail T h po t1 t2 v0 v1 v2 v3 v4 [zO9 h po a1_1 a2_2 v0 v1 v2 v3 v4, zAr T 0 a1_1 7 t1, zAr T 0 a2_2 7 t2] := ⟨a1_1, a2_2, rfl⟩
      have G : zS T A s.heap s [[zO9 h po a1_1 a2_2 v0 v1 v2 v3 v4, zAr T 0 a1_1 7 t1, zAr T 0 a2_2 7 t2], [zO4 la cr inn a1_20 a2_21 a3_22 a4_23], [zAr T 0 a1_20 7 k1], [zAr T 0 a2_21 28 k2], [zAr T 0 a3_22 7 k3], [zAr T 0 a4_23 7 k4], [zO6 po la a1_5 a2_6 st wh a3_7], [zAr T 0 a1_5 7 f1], [zAr T 0 a2_6 7 f2], [zAr T 0 a3_7 7 f3]] _ _ := G.re rfl
      have hw_25 : bPosts T po la f1 f2 f3 st wh [zO6 po la a1_5 a2_6 st wh a3_7, zAr T 0 a1_5 7 f1, zAr T 0 a2_6 7 f2, zAr T 0 a3_7 7 f3] := ⟨a1_5, a2_6, a3_7, rfl⟩
      have G : zS T A s.heap s [[zO9 h po a1_1 a2_2 v0 v1 v2 v3 v4, zAr T 0 a1_1 7 t1, zAr T 0 a2_2 7 t2], [zO4 la cr inn a1_20 a2_21 a3_22 a4_23], [zAr T 0 a1_20 7 k1], [zAr T 0 a2_21 28 k2], [zAr T 0 a3_22 7 k3], [zAr T 0 a4_23 7 k4], [zO6 po la a1_5 a2_6 st wh a3_7, zAr T 0 a1_5 7 f1, zAr T 0 a2_6 7 f2, zAr T 0 a3_7 7 f3]] _ _ := G.re rfl
      have hw_26 : bLand T la cr inn k1 k2 k3 k4 [zO4 la cr inn a1_20 a2_21 a3_22 a4_23, zAr T 0 a1_20 7 k1, zAr T 0 a2_21 28 k2, zAr T 0 a3_22 7 k3, zAr T 0 a4_23 7 k4] := ⟨a1_20, a2_21, a3_22, a4_23, rfl⟩
      have G : zS T A s.heap s [[zO9 h po a1_1 a2_2 v0 v1 v2 v3 v4, zAr T 0 a1_1 7 t1, zAr T 0 a2_2 7 t2], [zO4 la cr inn a1_20 a2_21 a3_22 a4_23, zAr T 0 a1_20 7 k1, zAr T 0 a2_21 28 k2, zAr T 0 a3_22 7 k3, zAr T 0 a4_23 7 k4], [zO6 po la a1_5 a2_6 st wh a3_7, zAr T 0 a1_5 7 f1, zAr T 0 a2_6 7 f2, zAr T 0 a3_7 7 f3]] _ _ := G.re rfl
      refine z_lp4 (T := T) 44 (fun (i : Nat) (u : Int32) (wp3 : va_W) (xf : Nat → Int32) => [[zO9 h po a1_1 a2_2 v0 v1 v2 v3 v4, zAr T 0 a1_1 7 t1, zAr T 0 a2_2 7 t2], [zO4 la cr inn a1_20 a2_21 a3_22 a4_23, zAr T 0 a1_20 7 k1, zAr T 0 a2_21 28 k2, zAr T 0 a3_22 7 k3, zAr T 0 a4_23 7 k4], wp3]) (fun (i : Nat) (u : Int32) (wp3 : va_W) (xf : Nat → Int32) => [(3, .int (nI i)), (2, .int u), (1, .int (zCode f1 7)), (0, .ref h)]) (fun (i : Nat) (u : Int32) (wp3 : va_W) (xf : Nat → Int32) => bPosts T po la xf f2 f3 st wh wp3 ∧ i ≤ 1000 ∧ zP3 xf f3) (fun (i : Nat) (u : Int32) (wp3 : va_W) (xf : Nat → Int32) => 1000 - i) ?_ 1 v2 ([zO6 po la a1_5 a2_6 st wh a3_7, zAr T 0 a1_5 7 f1, zAr T 0 a2_6 7 f2, zAr T 0 a3_7 7 f3]) f1 (show bPosts T po la f1 f2 f3 st wh ([zO6 po la a1_5 a2_6 st wh a3_7, zAr T 0 a1_5 7 f1, zAr T 0 a2_6 7 f2, zAr T 0 a3_7 7 f3]) ∧ 1 ≤ 1000 ∧ zP3 f1 f3 from ⟨hw_25, by omega, hP⟩) G (lv_sub hl [0, 1, 2, 3] rfl)
      intro i u wp3 xf hI9 ih_44 H locs ls G hl
      replace hI9 : bPosts T po la xf f2 f3 st wh wp3 ∧ i ≤ 1000 ∧ zP3 xf f3 := hI9
      refine zAn3 hI9 ?_
      intro hp3 hi hQx
      clear hI9
      replace G : zS T A s.heap s [[zO9 h po a1_1 a2_2 v0 v1 v2 v3 v4, zAr T 0 a1_1 7 t1, zAr T 0 a2_2 7 t2], [zO4 la cr inn a1_20 a2_21 a3_22 a4_23, zAr T 0 a1_20 7 k1, zAr T 0 a2_21 28 k2, zAr T 0 a3_22 7 k3, zAr T 0 a4_23 7 k4], wp3] _ _ := G
      replace hl : lv_has ls 4 [(3, .int (nI i)), (2, .int u), (1, .int (zCode f1 7)), (0, .ref h)] := hl
      refine lv_iload_n hx hb dX10_round_44 rfl (lv_at hl 0 rfl) ?_
      refine lv_sipush (v := 999) hx hb dX10_round_45 (by decide) ?_
      refine lv_icmp_gt (tgt := 94) hx hb dX10_round_48 (by decide) (fun c_27 => ?_) (fun c_27 => ?_)
      · have c_27n : 999 < i := (nI_ltI (a := 999) (b := i) (by omega) (by omega)).mp c_27
        refine lv_iconst (v := (-1)) hx hb dX10_round_94 (by decide) ?_
        have G := G.sub (bs' := [[zO9 h po a1_1 a2_2 v0 v1 v2 v3 v4, zAr T 0 a1_1 7 t1, zAr T 0 a2_2 7 t2], wp3, [zO4 la cr inn a1_20 a2_21 a3_22 a4_23, zAr T 0 a1_20 7 k1, zAr T 0 a2_21 28 k2, zAr T 0 a3_22 7 k3, zAr T 0 a4_23 7 k4]]) [0, 2, 1] rfl
        exact z_back hQ9 (z_iret C hr hlocks G (Nat.le_of_ble_eq_true rfl) (Nat.le_of_ble_eq_true rfl) dX10_round_95 ⟨wp3, xf, rfl, hp3, hQx⟩)
      · have c_27n : ¬ 999 < i := fun q => c_27 ((nI_ltI (a := 999) (b := i) (by omega) (by omega)).mpr q)
        refine lv_aload_n hx hb dX10_round_51 rfl (lv_at hl 3 rfl) ?_
        have G : zS T A s.heap s [[zO9 h po a1_1 a2_2 v0 v1 v2 v3 v4], [zAr T 0 a1_1 7 t1], [zAr T 0 a2_2 7 t2], [zO4 la cr inn a1_20 a2_21 a3_22 a4_23, zAr T 0 a1_20 7 k1, zAr T 0 a2_21 28 k2, zAr T 0 a3_22 7 k3, zAr T 0 a4_23 7 k4], wp3] _ _ := G.re rfl
        refine z_get C G clX10 0 rfl 0 (by decide) m_fl_RX10_12 rfl dX10_round_52 ?_
        refine lv_iload_n hx hb dX10_round_55 rfl (lv_at hl 1 rfl) ?_
        refine z_Vi (bc := [wp3, [zO4 la cr inn a1_20 a2_21 a3_22 a4_23, zAr T 0 a1_20 7 k1, zAr T 0 a2_21 28 k2, zAr T 0 a3_22 7 k3, zAr T 0 a4_23 7 k4]]) (br := [[zO9 h po a1_1 a2_2 v0 v1 v2 v3 v4], [zAr T 0 a1_1 7 t1], [zAr T 0 a2_2 7 t2]]) (As := [.int u]) (rest := []) C G (c_step l T po la xf f2 f3 st wh wp3 cr inn k1 k2 k3 k4 ([zO4 la cr inn a1_20 a2_21 a3_22 a4_23, zAr T 0 a1_20 7 k1, zAr T 0 a2_21 28 k2, zAr T 0 a3_22 7 k3, zAr T 0 a4_23 7 k4]) u hp3 hw_26 hQx) (kV_RX10_54 C.2.2.2.2 (Nat.le_of_ble_eq_true rfl) (Nat.le_of_ble_eq_true rfl)) [4, 3] [3, 0] rfl rfl (ci := 6) (qc := (RX6, TX6, 6)) rfl rfl (List.mem_flatten.mpr ⟨_, List.mem_of_getElem? (i := 0) rfl, (bPosts_mem hp3).choose_spec⟩) rfl rfl hl.1 dX10_round_56 (Nat.le_of_ble_eq_true rfl) (Nat.le_of_ble_eq_true rfl) (fun r_33 b1 H locs hw G => ?_)
        refine zEx2 hw ?_
        intro w2_28 g1_29
        refine zCu4 ?_
        intro hbs9 h_30 h_31 h_32
        clear hw
        subst hbs9
        have G : zS T A s.heap s [[zO9 h po a1_1 a2_2 v0 v1 v2 v3 v4], [zAr T 0 a1_1 7 t1], [zAr T 0 a2_2 7 t2], w2_28, [zO4 la cr inn a1_20 a2_21 a3_22 a4_23, zAr T 0 a1_20 7 k1, zAr T 0 a2_21 28 k2, zAr T 0 a3_22 7 k3, zAr T 0 a4_23 7 k4]] _ _ := G
        subst h_30
        have hQ2 : zP3 g1_29 f3 := by rw [h_32]; exact zPost_I hQx _
        refine lv_istore_n (lv' := [(2, .int (zStep xf f2 f3 k2 u)), (3, .int (nI i)), (1, .int (zCode f1 7)), (0, .ref h)]) hx hb dX10_round_59 rfl hl (by decide) rfl (fun ls hl => ?_)
        refine lv_iload_n hx hb dX10_round_60 rfl (lv_at hl 0 rfl) ?_
        refine lv_iconst (v := (-1)) hx hb dX10_round_61 (by decide) ?_
        refine lv_icmp_ne (tgt := 67) hx hb dX10_round_62 (by decide) (fun c_34 => ?_) (fun c_34 => ?_)
        · have c_34n : ¬ (zStep xf f2 f3 k2 u).toInt = (-1 : Int) := fun q => c_34 ((fa_eq _ _).mpr q)
          refine lv_iload_n hx hb dX10_round_67 rfl (lv_at hl 0 rfl) ?_
          refine lv_aload_n hx hb dX10_round_68 rfl (lv_at hl 3 rfl) ?_
          refine z_get C G clX10 0 rfl 5 (by decide) m_fl_RX10_51 rfl dX10_round_69 ?_
          refine lv_icmp_ne (tgt := 88) hx hb dX10_round_72 (by decide) (fun c_35 => ?_) (fun c_35 => ?_)
          · have c_35n : ¬ (zStep xf f2 f3 k2 u).toInt = v2.toInt := fun q => c_35 ((fa_eq _ _).mpr q)
            refine lv_iinc (v := nI (i + 1)) (lv' := [(3, .int (nI (i + 1))), (2, .int (zStep xf f2 f3 k2 u)), (1, .int (zCode f1 7)), (0, .ref h)]) hx hb dX10_round_88 hl (k := 1) rfl (z_inc i 1) (by decide) rfl (fun ls hl => ?_)
            refine lv_goto (tgt := 44) hx hb dX10_round_91 (by decide) ?_
            have hw_36 : bTrail T h po t1 t2 v0 v1 v2 v3 v4 [zO9 h po a1_1 a2_2 v0 v1 v2 v3 v4, zAr T 0 a1_1 7 t1, zAr T 0 a2_2 7 t2] := ⟨a1_1, a2_2, rfl⟩
            have G : zS T A s.heap s [[zO9 h po a1_1 a2_2 v0 v1 v2 v3 v4, zAr T 0 a1_1 7 t1, zAr T 0 a2_2 7 t2], w2_28, [zO4 la cr inn a1_20 a2_21 a3_22 a4_23, zAr T 0 a1_20 7 k1, zAr T 0 a2_21 28 k2, zAr T 0 a3_22 7 k3, zAr T 0 a4_23 7 k4]] _ _ := G.re rfl
            have G := G.sub (bs' := [[zO9 h po a1_1 a2_2 v0 v1 v2 v3 v4, zAr T 0 a1_1 7 t1, zAr T 0 a2_2 7 t2], [zO4 la cr inn a1_20 a2_21 a3_22 a4_23, zAr T 0 a1_20 7 k1, zAr T 0 a2_21 28 k2, zAr T 0 a3_22 7 k3, zAr T 0 a4_23 7 k4], w2_28]) [0, 2, 1] rfl
            exact ih_44 (i + 1) (zStep xf f2 f3 k2 u) w2_28 g1_29 (show bPosts T po la g1_29 f2 f3 st wh w2_28 ∧ (i + 1) ≤ 1000 ∧ zP3 g1_29 f3 from ⟨h_31, by omega, hQ2⟩) (show 1000 - (i + 1) < 1000 - i from by omega) _ _ ls G (lv_sub hl [0, 1, 2, 3] rfl)
          · have c_35n : (zStep xf f2 f3 k2 u).toInt = v2.toInt := (fa_eq _ _).mp c_35
            refine lv_aload_n hx hb dX10_round_75 rfl (lv_at hl 3 rfl) ?_
            refine z_get C G clX10 0 rfl 0 (by decide) m_fl_RX10_12 rfl dX10_round_76 ?_
            refine z_Vi (bc := [w2_28]) (br := [[zO9 h po a1_1 a2_2 v0 v1 v2 v3 v4], [zAr T 0 a1_1 7 t1], [zAr T 0 a2_2 7 t2], [zO4 la cr inn a1_20 a2_21 a3_22 a4_23, zAr T 0 a1_20 7 k1, zAr T 0 a2_21 28 k2, zAr T 0 a3_22 7 k3, zAr T 0 a4_23 7 k4]]) (As := []) (rest := []) C G (c_code l T po la g1_29 f2 f3 st wh w2_28 h_31) (kV_RX10_82 C.2.2.2.2 (Nat.le_of_ble_eq_true rfl) (Nat.le_of_ble_eq_true rfl)) [3] [3] rfl rfl (ci := 6) (qc := (RX6, TX6, 6)) rfl rfl (List.mem_flatten.mpr ⟨_, List.mem_of_getElem? (i := 0) rfl, (bPosts_mem h_31).choose_spec⟩) rfl rfl hl.1 dX10_round_79 (Nat.le_of_ble_eq_true rfl) (Nat.le_of_ble_eq_true rfl) (fun r_38 b1 H locs hw G => ?_)
            refine zAn2 hw ?_
            intro hbs9 h_37
            clear hw
            subst hbs9
            have G : zS T A s.heap s [[zO9 h po a1_1 a2_2 v0 v1 v2 v3 v4], [zAr T 0 a1_1 7 t1], [zAr T 0 a2_2 7 t2], [zO4 la cr inn a1_20 a2_21 a3_22 a4_23, zAr T 0 a1_20 7 k1, zAr T 0 a2_21 28 k2, zAr T 0 a3_22 7 k3, zAr T 0 a4_23 7 k4], w2_28] _ _ := G
            subst h_37
            refine lv_iload_n hx hb dX10_round_82 rfl (lv_at hl 2 rfl) ?_
            refine lv_icmp_ne (tgt := 88) hx hb dX10_round_83 (by decide) (fun c_39 => ?_) (fun c_39 => ?_)
            · have c_39n : ¬ (zCode g1_29 7).toInt = (zCode f1 7).toInt := fun q => c_39 ((fa_eq _ _).mpr q)
              refine lv_iinc (v := nI (i + 1)) (lv' := [(3, .int (nI (i + 1))), (2, .int (zStep xf f2 f3 k2 u)), (1, .int (zCode f1 7)), (0, .ref h)]) hx hb dX10_round_88 hl (k := 1) rfl (z_inc i 1) (by decide) rfl (fun ls hl => ?_)
              refine lv_goto (tgt := 44) hx hb dX10_round_91 (by decide) ?_
              have hw_40 : bTrail T h po t1 t2 v0 v1 v2 v3 v4 [zO9 h po a1_1 a2_2 v0 v1 v2 v3 v4, zAr T 0 a1_1 7 t1, zAr T 0 a2_2 7 t2] := ⟨a1_1, a2_2, rfl⟩
              have G : zS T A s.heap s [[zO9 h po a1_1 a2_2 v0 v1 v2 v3 v4, zAr T 0 a1_1 7 t1, zAr T 0 a2_2 7 t2], [zO4 la cr inn a1_20 a2_21 a3_22 a4_23, zAr T 0 a1_20 7 k1, zAr T 0 a2_21 28 k2, zAr T 0 a3_22 7 k3, zAr T 0 a4_23 7 k4], w2_28] _ _ := G.re rfl
              exact ih_44 (i + 1) (zStep xf f2 f3 k2 u) w2_28 g1_29 (show bPosts T po la g1_29 f2 f3 st wh w2_28 ∧ (i + 1) ≤ 1000 ∧ zP3 g1_29 f3 from ⟨h_31, by omega, hQ2⟩) (show 1000 - (i + 1) < 1000 - i from by omega) _ _ ls G (lv_sub hl [0, 1, 2, 3] rfl)
            · have c_39n : (zCode g1_29 7).toInt = (zCode f1 7).toInt := (fa_eq _ _).mp c_39
              refine lv_iload_n hx hb dX10_round_86 rfl (lv_at hl 1 rfl) ?_
              have hw_41 : bTrail T h po t1 t2 v0 v1 v2 v3 v4 [zO9 h po a1_1 a2_2 v0 v1 v2 v3 v4, zAr T 0 a1_1 7 t1, zAr T 0 a2_2 7 t2] := ⟨a1_1, a2_2, rfl⟩
              have G : zS T A s.heap s [[zO9 h po a1_1 a2_2 v0 v1 v2 v3 v4, zAr T 0 a1_1 7 t1, zAr T 0 a2_2 7 t2], [zO4 la cr inn a1_20 a2_21 a3_22 a4_23, zAr T 0 a1_20 7 k1, zAr T 0 a2_21 28 k2, zAr T 0 a3_22 7 k3, zAr T 0 a4_23 7 k4], w2_28] _ _ := G.re rfl
              have G := G.sub (bs' := [[zO9 h po a1_1 a2_2 v0 v1 v2 v3 v4, zAr T 0 a1_1 7 t1, zAr T 0 a2_2 7 t2], w2_28, [zO4 la cr inn a1_20 a2_21 a3_22 a4_23, zAr T 0 a1_20 7 k1, zAr T 0 a2_21 28 k2, zAr T 0 a3_22 7 k3, zAr T 0 a4_23 7 k4]]) [0, 2, 1] rfl
              exact z_back hQ9 (z_iret C hr hlocks G (Nat.le_of_ble_eq_true rfl) (Nat.le_of_ble_eq_true rfl) dX10_round_87 ⟨w2_28, g1_29, rfl, h_31, hQ2⟩)
        · have c_34n : (zStep xf f2 f3 k2 u).toInt = (-1 : Int) := (fa_eq _ _).mp c_34
          refine lv_iconst (v := (-1)) hx hb dX10_round_65 (by decide) ?_
          have hw_42 : bTrail T h po t1 t2 v0 v1 v2 v3 v4 [zO9 h po a1_1 a2_2 v0 v1 v2 v3 v4, zAr T 0 a1_1 7 t1, zAr T 0 a2_2 7 t2] := ⟨a1_1, a2_2, rfl⟩
          have G : zS T A s.heap s [[zO9 h po a1_1 a2_2 v0 v1 v2 v3 v4, zAr T 0 a1_1 7 t1, zAr T 0 a2_2 7 t2], w2_28, [zO4 la cr inn a1_20 a2_21 a3_22 a4_23, zAr T 0 a1_20 7 k1, zAr T 0 a2_21 28 k2, zAr T 0 a3_22 7 k3, zAr T 0 a4_23 7 k4]] _ _ := G.re rfl
          exact z_back hQ9 (z_iret C hr hlocks G (Nat.le_of_ble_eq_true rfl) (Nat.le_of_ble_eq_true rfl) dX10_round_66 ⟨w2_28, g1_29, rfl, h_31, hQ2⟩)
set_option maxHeartbeats 4000000 in
set_option maxRecDepth 100000 in
/-- c_lookAtCrowd -/
theorem c_lookAtCrowd (l : Launch) (T : zTy) (h : Nat) (po : Nat) (la : Nat) (fw : Nat → Int32) (v0 : Int32) (v1 : Int32) (v2 : Int32) (v3 : Int32) (v4 : Int32) (v5 : Int32) (v6 : Int32) (v7 : Int32) (wc : va_W) (cr : Int32) (inn : Int32) (k1 : Nat → Int32) (k2 : Nat → Int32) (k3 : Nat → Int32) (k4 : Nat → Int32) (z : va_W) (hc : bCourse T h po la fw v0 v1 v2 v3 v4 v5 v6 v7 wc) (hz : bLand T la cr inn k1 k2 k3 k4 z) (hI : zLI cr k1 k3) : zMv l T yX1_lookAtCrowd cX1_lookAtCrowd 2 3 0 0 [.ref h] [wc, z] (fun bs => ∃ (wc2 : va_W) (u6 : Int32), bs = [wc2, z] ∧ bCourse T h po la fw v0 v1 v2 v3 v4 v5 u6 v7 wc2) := by
  refine zMv_of (own := RX1) (by decide) rfl (Nat.le_of_ble_eq_true rfl) ?_
  intro p e s m args below meth c A ls C hr hlocks hnm hAe G hl
  refine zHide (fun Q9 hQ9 => ?_)
  have hx := C.1
  have hb := C.2.1
  have hl : lv_has ls 2 [(0, .ref h)] := hl
  have hcr := hI.1
  refine lv_iconst (v := 0) hx hb dX1_lookAtCrowd_0 (by decide) ?_
  refine lv_istore_n (lv' := [(1, .int 0), (0, .ref h)]) hx hb dX1_lookAtCrowd_1 rfl hl (by decide) rfl (fun ls hl => ?_)
  refine zEx1 hc ?_
  intro a1_1 hbs9
  clear hc
  subst hbs9
  have G : zS T A s.heap s [[zO1 h po a1_1 v0 la v1 v2 v3 v4 v5 v6 v7], [zAr T 0 a1_1 7 fw], z] _ _ := G.re rfl
  refine zEx4 hz ?_
  intro a1_2 a2_3 a3_4 a4_5 hbs9
  clear hz
  subst hbs9
  have G : zS T A s.heap s [[zO1 h po a1_1 v0 la v1 v2 v3 v4 v5 v6 v7], [zAr T 0 a1_1 7 fw], [zO4 la cr inn a1_2 a2_3 a3_4 a4_5], [zAr T 0 a1_2 7 k1], [zAr T 0 a2_3 28 k2], [zAr T 0 a3_4 7 k3], [zAr T 0 a4_5 7 k4]] _ _ := G.re rfl
  have hw_6 : bCourse T h po la fw v0 v1 v2 v3 v4 v5 v6 v7 [zO1 h po a1_1 v0 la v1 v2 v3 v4 v5 v6 v7, zAr T 0 a1_1 7 fw] := ⟨a1_1, rfl⟩
  have G : zS T A s.heap s [[zO1 h po a1_1 v0 la v1 v2 v3 v4 v5 v6 v7, zAr T 0 a1_1 7 fw], [zO4 la cr inn a1_2 a2_3 a3_4 a4_5], [zAr T 0 a1_2 7 k1], [zAr T 0 a2_3 28 k2], [zAr T 0 a3_4 7 k3], [zAr T 0 a4_5 7 k4]] _ _ := G.re rfl
  have hw_7 : bLand T la cr inn k1 k2 k3 k4 [zO4 la cr inn a1_2 a2_3 a3_4 a4_5, zAr T 0 a1_2 7 k1, zAr T 0 a2_3 28 k2, zAr T 0 a3_4 7 k3, zAr T 0 a4_5 7 k4] := ⟨a1_2, a2_3, a3_4, a4_5, rfl⟩
  have G : zS T A s.heap s [[zO1 h po a1_1 v0 la v1 v2 v3 v4 v5 v6 v7, zAr T 0 a1_1 7 fw], [zO4 la cr inn a1_2 a2_3 a3_4 a4_5, zAr T 0 a1_2 7 k1, zAr T 0 a2_3 28 k2, zAr T 0 a3_4 7 k3, zAr T 0 a4_5 7 k4]] _ _ := G.re rfl
  refine z_lp3 (T := T) 2 (fun (i : Nat) (wc3 : va_W) (y6 : Int32) => [wc3, [zO4 la cr inn a1_2 a2_3 a3_4 a4_5, zAr T 0 a1_2 7 k1, zAr T 0 a2_3 28 k2, zAr T 0 a3_4 7 k3, zAr T 0 a4_5 7 k4]]) (fun (i : Nat) (wc3 : va_W) (y6 : Int32) => [(1, .int (nI i)), (0, .ref h)]) (fun (i : Nat) (wc3 : va_W) (y6 : Int32) => bCourse T h po la fw v0 v1 v2 v3 v4 v5 y6 v7 wc3 ∧ i ≤ cr.toInt.toNat ∧ i ≤ 7) (fun (i : Nat) (wc3 : va_W) (y6 : Int32) => 7 - i) ?_ 0 ([zO1 h po a1_1 v0 la v1 v2 v3 v4 v5 v6 v7, zAr T 0 a1_1 7 fw]) v6 (show bCourse T h po la fw v0 v1 v2 v3 v4 v5 v6 v7 ([zO1 h po a1_1 v0 la v1 v2 v3 v4 v5 v6 v7, zAr T 0 a1_1 7 fw]) ∧ 0 ≤ cr.toInt.toNat ∧ 0 ≤ 7 from ⟨hw_6, by omega, by omega⟩) G (lv_sub hl [0, 1] rfl)
  intro i wc3 y6 hI9 ih_2 H locs ls G hl
  replace hI9 : bCourse T h po la fw v0 v1 v2 v3 v4 v5 y6 v7 wc3 ∧ i ≤ cr.toInt.toNat ∧ i ≤ 7 := hI9
  refine zAn3 hI9 ?_
  intro hc3 hi hi7
  clear hI9
  replace G : zS T A s.heap s [wc3, [zO4 la cr inn a1_2 a2_3 a3_4 a4_5, zAr T 0 a1_2 7 k1, zAr T 0 a2_3 28 k2, zAr T 0 a3_4 7 k3, zAr T 0 a4_5 7 k4]] _ _ := G
  replace hl : lv_has ls 2 [(1, .int (nI i)), (0, .ref h)] := hl
  refine lv_iload_n hx hb dX1_lookAtCrowd_2 rfl (lv_at hl 0 rfl) ?_
  refine lv_aload_n hx hb dX1_lookAtCrowd_3 rfl (lv_at hl 1 rfl) ?_
  refine zEx1 hc3 ?_
  intro a1_8 hbs9
  clear hc3
  subst hbs9
  have G : zS T A s.heap s [[zO1 h po a1_8 v0 la v1 v2 v3 v4 v5 y6 v7], [zAr T 0 a1_8 7 fw], [zO4 la cr inn a1_2 a2_3 a3_4 a4_5, zAr T 0 a1_2 7 k1, zAr T 0 a2_3 28 k2, zAr T 0 a3_4 7 k3, zAr T 0 a4_5 7 k4]] _ _ := G.re rfl
  refine z_get C G clX1 0 rfl 3 (by decide) m_fl_RX1_25 rfl dX1_lookAtCrowd_4 ?_
  have G : zS T A s.heap s [[zO1 h po a1_8 v0 la v1 v2 v3 v4 v5 y6 v7], [zAr T 0 a1_8 7 fw], [zO4 la cr inn a1_2 a2_3 a3_4 a4_5], [zAr T 0 a1_2 7 k1], [zAr T 0 a2_3 28 k2], [zAr T 0 a3_4 7 k3], [zAr T 0 a4_5 7 k4]] _ _ := G.re rfl
  refine z_get C G clX4 2 rfl 0 (by decide) m_fl_RX1_88 rfl dX1_lookAtCrowd_7 ?_
  refine lv_icmp_ge (tgt := 53) hx hb dX1_lookAtCrowd_10 (by decide) (fun c_9 => ?_) (fun c_9 => ?_)
  · have c_9n : cr.toInt ≤ (i : Int) := by have q := (fa_le _ _).mp c_9; rw [nI_toInt (n := i) (by omega)] at q; exact q
    have hw_10 : bCourse T h po la fw v0 v1 v2 v3 v4 v5 y6 v7 [zO1 h po a1_8 v0 la v1 v2 v3 v4 v5 y6 v7, zAr T 0 a1_8 7 fw] := ⟨a1_8, rfl⟩
    have G : zS T A s.heap s [[zO1 h po a1_8 v0 la v1 v2 v3 v4 v5 y6 v7, zAr T 0 a1_8 7 fw], [zO4 la cr inn a1_2 a2_3 a3_4 a4_5], [zAr T 0 a1_2 7 k1], [zAr T 0 a2_3 28 k2], [zAr T 0 a3_4 7 k3], [zAr T 0 a4_5 7 k4]] _ _ := G.re rfl
    have hw_11 : bLand T la cr inn k1 k2 k3 k4 [zO4 la cr inn a1_2 a2_3 a3_4 a4_5, zAr T 0 a1_2 7 k1, zAr T 0 a2_3 28 k2, zAr T 0 a3_4 7 k3, zAr T 0 a4_5 7 k4] := ⟨a1_2, a2_3, a3_4, a4_5, rfl⟩
    have G : zS T A s.heap s [[zO1 h po a1_8 v0 la v1 v2 v3 v4 v5 y6 v7, zAr T 0 a1_8 7 fw], [zO4 la cr inn a1_2 a2_3 a3_4 a4_5, zAr T 0 a1_2 7 k1, zAr T 0 a2_3 28 k2, zAr T 0 a3_4 7 k3, zAr T 0 a4_5 7 k4]] _ _ := G.re rfl
    exact z_back hQ9 (z_vret C hr hlocks G (Nat.le_of_ble_eq_true rfl) (Nat.le_of_ble_eq_true rfl) dX1_lookAtCrowd_53 ⟨([zO1 h po a1_8 v0 la v1 v2 v3 v4 v5 y6 v7, zAr T 0 a1_8 7 fw]), y6, rfl, hw_10⟩)
  · have c_9n : ¬ cr.toInt ≤ (i : Int) := fun q => c_9 ((fa_le _ _).mpr (by rw [nI_toInt (n := i) (by omega)]; exact q))
    refine lv_iload_n hx hb dX1_lookAtCrowd_13 rfl (lv_at hl 0 rfl) ?_
    refine lv_bipush (v := 7) hx hb dX1_lookAtCrowd_14 (by decide) ?_
    refine lv_icmp_ge (tgt := 53) hx hb dX1_lookAtCrowd_16 (by decide) (fun c_12 => ?_) (fun c_12 => ?_)
    · have c_12n : 7 ≤ i := (nI_leI (a := 7) (b := i) (by omega) (by omega)).mp c_12
      have hw_13 : bCourse T h po la fw v0 v1 v2 v3 v4 v5 y6 v7 [zO1 h po a1_8 v0 la v1 v2 v3 v4 v5 y6 v7, zAr T 0 a1_8 7 fw] := ⟨a1_8, rfl⟩
      have G : zS T A s.heap s [[zO1 h po a1_8 v0 la v1 v2 v3 v4 v5 y6 v7, zAr T 0 a1_8 7 fw], [zO4 la cr inn a1_2 a2_3 a3_4 a4_5], [zAr T 0 a1_2 7 k1], [zAr T 0 a2_3 28 k2], [zAr T 0 a3_4 7 k3], [zAr T 0 a4_5 7 k4]] _ _ := G.re rfl
      have hw_14 : bLand T la cr inn k1 k2 k3 k4 [zO4 la cr inn a1_2 a2_3 a3_4 a4_5, zAr T 0 a1_2 7 k1, zAr T 0 a2_3 28 k2, zAr T 0 a3_4 7 k3, zAr T 0 a4_5 7 k4] := ⟨a1_2, a2_3, a3_4, a4_5, rfl⟩
      have G : zS T A s.heap s [[zO1 h po a1_8 v0 la v1 v2 v3 v4 v5 y6 v7, zAr T 0 a1_8 7 fw], [zO4 la cr inn a1_2 a2_3 a3_4 a4_5, zAr T 0 a1_2 7 k1, zAr T 0 a2_3 28 k2, zAr T 0 a3_4 7 k3, zAr T 0 a4_5 7 k4]] _ _ := G.re rfl
      exact z_back hQ9 (z_vret C hr hlocks G (Nat.le_of_ble_eq_true rfl) (Nat.le_of_ble_eq_true rfl) dX1_lookAtCrowd_53 ⟨([zO1 h po a1_8 v0 la v1 v2 v3 v4 v5 y6 v7, zAr T 0 a1_8 7 fw]), y6, rfl, hw_13⟩)
    · have c_12n : ¬ 7 ≤ i := fun q => c_12 ((nI_leI (a := 7) (b := i) (by omega) (by omega)).mpr q)
      refine lv_aload_n hx hb dX1_lookAtCrowd_19 rfl (lv_at hl 1 rfl) ?_
      refine z_get C G clX1 0 rfl 3 (by decide) m_fl_RX1_25 rfl dX1_lookAtCrowd_20 ?_
      refine lv_iload_n hx hb dX1_lookAtCrowd_23 rfl (lv_at hl 0 rfl) ?_
      have hw_15 : bLand T la cr inn k1 k2 k3 k4 [zO4 la cr inn a1_2 a2_3 a3_4 a4_5, zAr T 0 a1_2 7 k1, zAr T 0 a2_3 28 k2, zAr T 0 a3_4 7 k3, zAr T 0 a4_5 7 k4] := ⟨a1_2, a2_3, a3_4, a4_5, rfl⟩
      have G : zS T A s.heap s [[zO1 h po a1_8 v0 la v1 v2 v3 v4 v5 y6 v7], [zAr T 0 a1_8 7 fw], [zO4 la cr inn a1_2 a2_3 a3_4 a4_5, zAr T 0 a1_2 7 k1, zAr T 0 a2_3 28 k2, zAr T 0 a3_4 7 k3, zAr T 0 a4_5 7 k4]] _ _ := G.re rfl
      refine z_Vi (bc := [[zO4 la cr inn a1_2 a2_3 a3_4 a4_5, zAr T 0 a1_2 7 k1, zAr T 0 a2_3 28 k2, zAr T 0 a3_4 7 k3, zAr T 0 a4_5 7 k4]]) (br := [[zO1 h po a1_8 v0 la v1 v2 v3 v4 v5 y6 v7], [zAr T 0 a1_8 7 fw]]) (As := [.int (nI i)]) (rest := []) C G (c_isInn l T la cr inn k1 k2 k3 k4 ([zO4 la cr inn a1_2 a2_3 a3_4 a4_5, zAr T 0 a1_2 7 k1, zAr T 0 a2_3 28 k2, zAr T 0 a3_4 7 k3, zAr T 0 a4_5 7 k4]) (nI i) hw_15) (kV_RX1_135 C.2.2.2.2 (Nat.le_of_ble_eq_true rfl) (Nat.le_of_ble_eq_true rfl)) [2] [2] rfl rfl (ci := 4) (qc := (RX4, TX4, 6)) rfl rfl (List.mem_flatten.mpr ⟨_, List.mem_of_getElem? (i := 0) rfl, (bLand_mem hw_15).choose_spec⟩) rfl rfl hl.1 dX1_lookAtCrowd_24 (Nat.le_of_ble_eq_true rfl) (Nat.le_of_ble_eq_true rfl) (fun r_17 b1 H locs hw G => ?_)
      refine zAn2 hw ?_
      intro hbs9 hc_16
      clear hw
      subst hbs9
      have G : zS T A s.heap s [[zO1 h po a1_8 v0 la v1 v2 v3 v4 v5 y6 v7], [zAr T 0 a1_8 7 fw], [zO4 la cr inn a1_2 a2_3 a3_4 a4_5, zAr T 0 a1_2 7 k1, zAr T 0 a2_3 28 k2, zAr T 0 a3_4 7 k3, zAr T 0 a4_5 7 k4]] _ _ := G
      rcases hc_16 with ⟨rfl, h_18, h_19, h_20, h_21⟩ | ⟨rfl, h_22⟩
      · have h_18 : 0 ≤ (nI i).toInt := h_18
        have h_19 : (nI i).toInt < cr.toInt := h_19
        have h_20 : (nI i).toInt < 7 := h_20
        have h_21 : ¬ zBit inn (nI i) = 0 := h_21
        refine lv_if_ne (tgt := 47) hx hb dX1_lookAtCrowd_27 (by decide) (fun _ => ?_) (fun q => absurd q (by decide))
        refine lv_iinc (v := nI (i + 1)) (lv' := [(1, .int (nI (i + 1))), (0, .ref h)]) hx hb dX1_lookAtCrowd_47 hl (k := 0) rfl (z_inc i 1) (by decide) rfl (fun ls hl => ?_)
        refine lv_goto (tgt := 2) hx hb dX1_lookAtCrowd_50 (by decide) ?_
        have hw_23 : bCourse T h po la fw v0 v1 v2 v3 v4 v5 y6 v7 [zO1 h po a1_8 v0 la v1 v2 v3 v4 v5 y6 v7, zAr T 0 a1_8 7 fw] := ⟨a1_8, rfl⟩
        have G : zS T A s.heap s [[zO1 h po a1_8 v0 la v1 v2 v3 v4 v5 y6 v7, zAr T 0 a1_8 7 fw], [zO4 la cr inn a1_2 a2_3 a3_4 a4_5, zAr T 0 a1_2 7 k1, zAr T 0 a2_3 28 k2, zAr T 0 a3_4 7 k3, zAr T 0 a4_5 7 k4]] _ _ := G.re rfl
        exact ih_2 (i + 1) ([zO1 h po a1_8 v0 la v1 v2 v3 v4 v5 y6 v7, zAr T 0 a1_8 7 fw]) y6 (show bCourse T h po la fw v0 v1 v2 v3 v4 v5 y6 v7 ([zO1 h po a1_8 v0 la v1 v2 v3 v4 v5 y6 v7, zAr T 0 a1_8 7 fw]) ∧ (i + 1) ≤ cr.toInt.toNat ∧ (i + 1) ≤ 7 from ⟨hw_23, by omega, by omega⟩) (show 7 - (i + 1) < 7 - i from by omega) _ _ ls G (lv_sub hl [0, 1] rfl)
      · have h_22 : ((nI i).toInt < 0 ∨ cr.toInt ≤ (nI i).toInt ∨ 7 ≤ (nI i).toInt ∨ zBit inn (nI i) = 0) := h_22
        refine lv_if_ne (tgt := 47) hx hb dX1_lookAtCrowd_27 (by decide) (fun q => absurd (by decide) q) (fun _ => ?_)
        refine lv_aload_n hx hb dX1_lookAtCrowd_30 rfl (lv_at hl 1 rfl) ?_
        refine lv_aload_n hx hb dX1_lookAtCrowd_31 rfl (lv_at hl 1 rfl) ?_
        refine z_get C G clX1 0 rfl 9 (by decide) m_fl_RX1_53 rfl dX1_lookAtCrowd_32 ?_
        refine lv_aload_n hx hb dX1_lookAtCrowd_35 rfl (lv_at hl 1 rfl) ?_
        refine z_get C G clX1 0 rfl 1 (by decide) m_fl_RX1_18 rfl dX1_lookAtCrowd_36 ?_
        refine lv_iload_n hx hb dX1_lookAtCrowd_39 rfl (lv_at hl 0 rfl) ?_
        refine z_ild C G 1 rfl (vp_in_nI (by omega) (by omega)) dX1_lookAtCrowd_40 ?_
        refine lv_topi (fun v_24 ev_24 => ?_)
        rw [nI_clamp (by omega)] at ev_24
        subst ev_24
        refine va_mmax hx hb (C.2.2.1.trans hl.1.symm) C.2.2.2.1 (C.2.2.2.2 _ m_ml_RX1_126) (C.2.2.2.2 _ m_st_math_max) (C.2.2.2.2 _ m_ii_math) (C.2.2.2.2 _ m_co_math_max) (Nat.le_of_ble_eq_true rfl) (Nat.le_of_ble_eq_true rfl) (Nat.le_of_ble_eq_true rfl) (Nat.le_of_ble_eq_true rfl) dX1_lookAtCrowd_41 ?_
        refine lv_topi (fun v_25 ev_25 => ?_)
        subst ev_25
        refine z_put C G clX1 0 rfl 9 (by decide) m_fl_RX1_53 rfl rfl rfl (Nat.le_of_ble_eq_true rfl) dX1_lookAtCrowd_44 (fun H locs G => ?_)
        have G : zS T A s.heap s [[zO1 h po a1_8 v0 la v1 v2 v3 v4 v5 (if y6 < (fw i) then (fw i) else y6) v7], [zAr T 0 a1_8 7 fw], [zO4 la cr inn a1_2 a2_3 a3_4 a4_5, zAr T 0 a1_2 7 k1, zAr T 0 a2_3 28 k2, zAr T 0 a3_4 7 k3, zAr T 0 a4_5 7 k4]] _ _ := G
        refine lv_iinc (v := nI (i + 1)) (lv' := [(1, .int (nI (i + 1))), (0, .ref h)]) hx hb dX1_lookAtCrowd_47 hl (k := 0) rfl (z_inc i 1) (by decide) rfl (fun ls hl => ?_)
        refine lv_goto (tgt := 2) hx hb dX1_lookAtCrowd_50 (by decide) ?_
        have hw_26 : bCourse T h po la fw v0 v1 v2 v3 v4 v5 (if y6 < (fw i) then (fw i) else y6) v7 [zO1 h po a1_8 v0 la v1 v2 v3 v4 v5 (if y6 < (fw i) then (fw i) else y6) v7, zAr T 0 a1_8 7 fw] := ⟨a1_8, rfl⟩
        have G : zS T A s.heap s [[zO1 h po a1_8 v0 la v1 v2 v3 v4 v5 (if y6 < (fw i) then (fw i) else y6) v7, zAr T 0 a1_8 7 fw], [zO4 la cr inn a1_2 a2_3 a3_4 a4_5, zAr T 0 a1_2 7 k1, zAr T 0 a2_3 28 k2, zAr T 0 a3_4 7 k3, zAr T 0 a4_5 7 k4]] _ _ := G.re rfl
        exact ih_2 (i + 1) ([zO1 h po a1_8 v0 la v1 v2 v3 v4 v5 (if y6 < (fw i) then (fw i) else y6) v7, zAr T 0 a1_8 7 fw]) (if y6 < (fw i) then (fw i) else y6) (show bCourse T h po la fw v0 v1 v2 v3 v4 v5 (if y6 < (fw i) then (fw i) else y6) v7 ([zO1 h po a1_8 v0 la v1 v2 v3 v4 v5 (if y6 < (fw i) then (fw i) else y6) v7, zAr T 0 a1_8 7 fw]) ∧ (i + 1) ≤ cr.toInt.toNat ∧ (i + 1) ≤ 7 from ⟨hw_26, by omega, by omega⟩) (show 7 - (i + 1) < 7 - i from by omega) _ _ ls G (lv_sub hl [0, 1] rfl)
set_option maxHeartbeats 4000000 in
set_option maxRecDepth 100000 in
/-- c_walkersInAll -/
theorem c_walkersInAll (l : Launch) (T : zTy) (h : Nat) (po : Nat) (la : Nat) (fw : Nat → Int32) (v0 : Int32) (v1 : Int32) (v2 : Int32) (v3 : Int32) (v4 : Int32) (v5 : Int32) (v6 : Int32) (v7 : Int32) (wc : va_W) (cr : Int32) (inn : Int32) (k1 : Nat → Int32) (k2 : Nat → Int32) (k3 : Nat → Int32) (k4 : Nat → Int32) (z : va_W) (b : Int32) (hc : bCourse T h po la fw v0 v1 v2 v3 v4 v5 v6 v7 wc) (hz : bLand T la cr inn k1 k2 k3 k4 z) (hI : zLI cr k1 k3) : zMi l T yX1_walkersInAll cX1_walkersInAll 4 (some .int) 3 0 0 [.ref h, .int b] [wc, z] (fun (r : Int32) bs => bs = [wc, z]) := by
  refine zMi_of (own := RX1) (by decide) rfl (Nat.le_of_ble_eq_true rfl) ?_
  intro p e s m args below meth c A ls C hr hlocks hnm hAe G hl
  refine zHide (fun Q9 hQ9 => ?_)
  have hx := C.1
  have hb := C.2.1
  have hl : lv_has ls 4 [(0, .ref h), (1, .int b)] := hl
  have hcr := hI.1
  refine lv_iconst (v := 0) hx hb dX1_walkersInAll_0 (by decide) ?_
  refine lv_istore_n (lv' := [(2, .int 0), (0, .ref h), (1, .int b)]) hx hb dX1_walkersInAll_1 rfl hl (by decide) rfl (fun ls hl => ?_)
  refine lv_iconst (v := 0) hx hb dX1_walkersInAll_2 (by decide) ?_
  refine lv_istore_n (lv' := [(3, .int 0), (2, .int 0), (0, .ref h), (1, .int b)]) hx hb dX1_walkersInAll_3 rfl hl (by decide) rfl (fun ls hl => ?_)
  refine zEx1 hc ?_
  intro a1_1 hbs9
  clear hc
  subst hbs9
  have G : zS T A s.heap s [[zO1 h po a1_1 v0 la v1 v2 v3 v4 v5 v6 v7], [zAr T 0 a1_1 7 fw], z] _ _ := G.re rfl
  refine zEx4 hz ?_
  intro a1_2 a2_3 a3_4 a4_5 hbs9
  clear hz
  subst hbs9
  have G : zS T A s.heap s [[zO1 h po a1_1 v0 la v1 v2 v3 v4 v5 v6 v7], [zAr T 0 a1_1 7 fw], [zO4 la cr inn a1_2 a2_3 a3_4 a4_5], [zAr T 0 a1_2 7 k1], [zAr T 0 a2_3 28 k2], [zAr T 0 a3_4 7 k3], [zAr T 0 a4_5 7 k4]] _ _ := G.re rfl
  have hw_6 : bCourse T h po la fw v0 v1 v2 v3 v4 v5 v6 v7 [zO1 h po a1_1 v0 la v1 v2 v3 v4 v5 v6 v7, zAr T 0 a1_1 7 fw] := ⟨a1_1, rfl⟩
  have G : zS T A s.heap s [[zO1 h po a1_1 v0 la v1 v2 v3 v4 v5 v6 v7, zAr T 0 a1_1 7 fw], [zO4 la cr inn a1_2 a2_3 a3_4 a4_5], [zAr T 0 a1_2 7 k1], [zAr T 0 a2_3 28 k2], [zAr T 0 a3_4 7 k3], [zAr T 0 a4_5 7 k4]] _ _ := G.re rfl
  have hw_7 : bLand T la cr inn k1 k2 k3 k4 [zO4 la cr inn a1_2 a2_3 a3_4 a4_5, zAr T 0 a1_2 7 k1, zAr T 0 a2_3 28 k2, zAr T 0 a3_4 7 k3, zAr T 0 a4_5 7 k4] := ⟨a1_2, a2_3, a3_4, a4_5, rfl⟩
  have G : zS T A s.heap s [[zO1 h po a1_1 v0 la v1 v2 v3 v4 v5 v6 v7, zAr T 0 a1_1 7 fw], [zO4 la cr inn a1_2 a2_3 a3_4 a4_5, zAr T 0 a1_2 7 k1, zAr T 0 a2_3 28 k2, zAr T 0 a3_4 7 k3, zAr T 0 a4_5 7 k4]] _ _ := G.re rfl
  refine z_lp2 (T := T) 4 (fun (i : Nat) (u : Int32) => [[zO1 h po a1_1 v0 la v1 v2 v3 v4 v5 v6 v7, zAr T 0 a1_1 7 fw], [zO4 la cr inn a1_2 a2_3 a3_4 a4_5, zAr T 0 a1_2 7 k1, zAr T 0 a2_3 28 k2, zAr T 0 a3_4 7 k3, zAr T 0 a4_5 7 k4]]) (fun (i : Nat) (u : Int32) => [(3, .int (nI i)), (2, .int u), (0, .ref h), (1, .int b)]) (fun (i : Nat) (u : Int32) => i ≤ cr.toInt.toNat ∧ i ≤ 7) (fun (i : Nat) (u : Int32) => 7 - i) ?_ 0 0 (show 0 ≤ cr.toInt.toNat ∧ 0 ≤ 7 from ⟨by omega, by omega⟩) G (lv_sub hl [0, 1, 2, 3] rfl)
  intro i u hI9 ih_4 H locs ls G hl
  replace hI9 : i ≤ cr.toInt.toNat ∧ i ≤ 7 := hI9
  refine zAn2 hI9 ?_
  intro hi hi7
  clear hI9
  replace G : zS T A s.heap s [[zO1 h po a1_1 v0 la v1 v2 v3 v4 v5 v6 v7, zAr T 0 a1_1 7 fw], [zO4 la cr inn a1_2 a2_3 a3_4 a4_5, zAr T 0 a1_2 7 k1, zAr T 0 a2_3 28 k2, zAr T 0 a3_4 7 k3, zAr T 0 a4_5 7 k4]] _ _ := G
  replace hl : lv_has ls 4 [(3, .int (nI i)), (2, .int u), (0, .ref h), (1, .int b)] := hl
  refine lv_iload_n hx hb dX1_walkersInAll_4 rfl (lv_at hl 0 rfl) ?_
  refine lv_aload_n hx hb dX1_walkersInAll_5 rfl (lv_at hl 2 rfl) ?_
  have G : zS T A s.heap s [[zO1 h po a1_1 v0 la v1 v2 v3 v4 v5 v6 v7], [zAr T 0 a1_1 7 fw], [zO4 la cr inn a1_2 a2_3 a3_4 a4_5, zAr T 0 a1_2 7 k1, zAr T 0 a2_3 28 k2, zAr T 0 a3_4 7 k3, zAr T 0 a4_5 7 k4]] _ _ := G.re rfl
  refine z_get C G clX1 0 rfl 3 (by decide) m_fl_RX1_25 rfl dX1_walkersInAll_6 ?_
  have G : zS T A s.heap s [[zO1 h po a1_1 v0 la v1 v2 v3 v4 v5 v6 v7], [zAr T 0 a1_1 7 fw], [zO4 la cr inn a1_2 a2_3 a3_4 a4_5], [zAr T 0 a1_2 7 k1], [zAr T 0 a2_3 28 k2], [zAr T 0 a3_4 7 k3], [zAr T 0 a4_5 7 k4]] _ _ := G.re rfl
  refine z_get C G clX4 2 rfl 0 (by decide) m_fl_RX1_88 rfl dX1_walkersInAll_9 ?_
  refine lv_icmp_ge (tgt := 55) hx hb dX1_walkersInAll_12 (by decide) (fun c_8 => ?_) (fun c_8 => ?_)
  · have c_8n : cr.toInt ≤ (i : Int) := by have q := (fa_le _ _).mp c_8; rw [nI_toInt (n := i) (by omega)] at q; exact q
    refine lv_iload_n hx hb dX1_walkersInAll_55 rfl (lv_at hl 1 rfl) ?_
    have hw_9 : bCourse T h po la fw v0 v1 v2 v3 v4 v5 v6 v7 [zO1 h po a1_1 v0 la v1 v2 v3 v4 v5 v6 v7, zAr T 0 a1_1 7 fw] := ⟨a1_1, rfl⟩
    have G : zS T A s.heap s [[zO1 h po a1_1 v0 la v1 v2 v3 v4 v5 v6 v7, zAr T 0 a1_1 7 fw], [zO4 la cr inn a1_2 a2_3 a3_4 a4_5], [zAr T 0 a1_2 7 k1], [zAr T 0 a2_3 28 k2], [zAr T 0 a3_4 7 k3], [zAr T 0 a4_5 7 k4]] _ _ := G.re rfl
    have hw_10 : bLand T la cr inn k1 k2 k3 k4 [zO4 la cr inn a1_2 a2_3 a3_4 a4_5, zAr T 0 a1_2 7 k1, zAr T 0 a2_3 28 k2, zAr T 0 a3_4 7 k3, zAr T 0 a4_5 7 k4] := ⟨a1_2, a2_3, a3_4, a4_5, rfl⟩
    have G : zS T A s.heap s [[zO1 h po a1_1 v0 la v1 v2 v3 v4 v5 v6 v7, zAr T 0 a1_1 7 fw], [zO4 la cr inn a1_2 a2_3 a3_4 a4_5, zAr T 0 a1_2 7 k1, zAr T 0 a2_3 28 k2, zAr T 0 a3_4 7 k3, zAr T 0 a4_5 7 k4]] _ _ := G.re rfl
    exact z_back hQ9 (z_iret C hr hlocks G (Nat.le_of_ble_eq_true rfl) (Nat.le_of_ble_eq_true rfl) dX1_walkersInAll_56 rfl)
  · have c_8n : ¬ cr.toInt ≤ (i : Int) := fun q => c_8 ((fa_le _ _).mpr (by rw [nI_toInt (n := i) (by omega)]; exact q))
    refine lv_iload_n hx hb dX1_walkersInAll_15 rfl (lv_at hl 0 rfl) ?_
    refine lv_bipush (v := 7) hx hb dX1_walkersInAll_16 (by decide) ?_
    refine lv_icmp_ge (tgt := 55) hx hb dX1_walkersInAll_18 (by decide) (fun c_11 => ?_) (fun c_11 => ?_)
    · have c_11n : 7 ≤ i := (nI_leI (a := 7) (b := i) (by omega) (by omega)).mp c_11
      refine lv_iload_n hx hb dX1_walkersInAll_55 rfl (lv_at hl 1 rfl) ?_
      have hw_12 : bCourse T h po la fw v0 v1 v2 v3 v4 v5 v6 v7 [zO1 h po a1_1 v0 la v1 v2 v3 v4 v5 v6 v7, zAr T 0 a1_1 7 fw] := ⟨a1_1, rfl⟩
      have G : zS T A s.heap s [[zO1 h po a1_1 v0 la v1 v2 v3 v4 v5 v6 v7, zAr T 0 a1_1 7 fw], [zO4 la cr inn a1_2 a2_3 a3_4 a4_5], [zAr T 0 a1_2 7 k1], [zAr T 0 a2_3 28 k2], [zAr T 0 a3_4 7 k3], [zAr T 0 a4_5 7 k4]] _ _ := G.re rfl
      have hw_13 : bLand T la cr inn k1 k2 k3 k4 [zO4 la cr inn a1_2 a2_3 a3_4 a4_5, zAr T 0 a1_2 7 k1, zAr T 0 a2_3 28 k2, zAr T 0 a3_4 7 k3, zAr T 0 a4_5 7 k4] := ⟨a1_2, a2_3, a3_4, a4_5, rfl⟩
      have G : zS T A s.heap s [[zO1 h po a1_1 v0 la v1 v2 v3 v4 v5 v6 v7, zAr T 0 a1_1 7 fw], [zO4 la cr inn a1_2 a2_3 a3_4 a4_5, zAr T 0 a1_2 7 k1, zAr T 0 a2_3 28 k2, zAr T 0 a3_4 7 k3, zAr T 0 a4_5 7 k4]] _ _ := G.re rfl
      exact z_back hQ9 (z_iret C hr hlocks G (Nat.le_of_ble_eq_true rfl) (Nat.le_of_ble_eq_true rfl) dX1_walkersInAll_56 rfl)
    · have c_11n : ¬ 7 ≤ i := fun q => c_11 ((nI_leI (a := 7) (b := i) (by omega) (by omega)).mpr q)
      refine lv_iload_n hx hb dX1_walkersInAll_21 rfl (lv_at hl 1 rfl) ?_
      refine lv_iload_n hx hb dX1_walkersInAll_22 rfl (lv_at hl 3 rfl) ?_
      refine lv_if_eq (tgt := 37) hx hb dX1_walkersInAll_23 (by decide) (fun c_14 => ?_) (fun c_14 => ?_)
      · have c_14n : b.toInt = (0 : Int) := (fa_eq _ _).mp c_14
        refine lv_aload_n hx hb dX1_walkersInAll_37 rfl (lv_at hl 2 rfl) ?_
        refine z_get C G clX1 0 rfl 1 (by decide) m_fl_RX1_18 rfl dX1_walkersInAll_38 ?_
        refine lv_iload_n hx hb dX1_walkersInAll_41 rfl (lv_at hl 0 rfl) ?_
        refine z_ild C G 1 rfl (vp_in_nI (by omega) (by omega)) dX1_walkersInAll_42 ?_
        refine lv_topi (fun v_15 ev_15 => ?_)
        rw [nI_clamp (by omega)] at ev_15
        subst ev_15
        refine lv_goto (tgt := 47) hx hb dX1_walkersInAll_43 (by decide) ?_
        refine lv_iadd hx hb dX1_walkersInAll_47 ?_
        refine lv_istore_n (lv' := [(2, .int (u + (fw i))), (3, .int (nI i)), (0, .ref h), (1, .int b)]) hx hb dX1_walkersInAll_48 rfl hl (by decide) rfl (fun ls hl => ?_)
        refine lv_iinc (v := nI (i + 1)) (lv' := [(3, .int (nI (i + 1))), (2, .int (u + (fw i))), (0, .ref h), (1, .int b)]) hx hb dX1_walkersInAll_49 hl (k := 1) rfl (z_inc i 1) (by decide) rfl (fun ls hl => ?_)
        refine lv_goto (tgt := 4) hx hb dX1_walkersInAll_52 (by decide) ?_
        have hw_16 : bCourse T h po la fw v0 v1 v2 v3 v4 v5 v6 v7 [zO1 h po a1_1 v0 la v1 v2 v3 v4 v5 v6 v7, zAr T 0 a1_1 7 fw] := ⟨a1_1, rfl⟩
        have G : zS T A s.heap s [[zO1 h po a1_1 v0 la v1 v2 v3 v4 v5 v6 v7, zAr T 0 a1_1 7 fw], [zO4 la cr inn a1_2 a2_3 a3_4 a4_5], [zAr T 0 a1_2 7 k1], [zAr T 0 a2_3 28 k2], [zAr T 0 a3_4 7 k3], [zAr T 0 a4_5 7 k4]] _ _ := G.re rfl
        have hw_17 : bLand T la cr inn k1 k2 k3 k4 [zO4 la cr inn a1_2 a2_3 a3_4 a4_5, zAr T 0 a1_2 7 k1, zAr T 0 a2_3 28 k2, zAr T 0 a3_4 7 k3, zAr T 0 a4_5 7 k4] := ⟨a1_2, a2_3, a3_4, a4_5, rfl⟩
        have G : zS T A s.heap s [[zO1 h po a1_1 v0 la v1 v2 v3 v4 v5 v6 v7, zAr T 0 a1_1 7 fw], [zO4 la cr inn a1_2 a2_3 a3_4 a4_5, zAr T 0 a1_2 7 k1, zAr T 0 a2_3 28 k2, zAr T 0 a3_4 7 k3, zAr T 0 a4_5 7 k4]] _ _ := G.re rfl
        exact ih_4 (i + 1) (u + (fw i)) (show (i + 1) ≤ cr.toInt.toNat ∧ (i + 1) ≤ 7 from ⟨by omega, by omega⟩) (show 7 - (i + 1) < 7 - i from by omega) _ _ ls G (lv_sub hl [0, 1, 2, 3] rfl)
      · have c_14n : ¬ b.toInt = (0 : Int) := fun q => c_14 ((fa_eq _ _).mpr q)
        refine lv_aload_n hx hb dX1_walkersInAll_26 rfl (lv_at hl 2 rfl) ?_
        refine z_get C G clX1 0 rfl 3 (by decide) m_fl_RX1_25 rfl dX1_walkersInAll_27 ?_
        refine lv_iload_n hx hb dX1_walkersInAll_30 rfl (lv_at hl 0 rfl) ?_
        have hw_18 : bLand T la cr inn k1 k2 k3 k4 [zO4 la cr inn a1_2 a2_3 a3_4 a4_5, zAr T 0 a1_2 7 k1, zAr T 0 a2_3 28 k2, zAr T 0 a3_4 7 k3, zAr T 0 a4_5 7 k4] := ⟨a1_2, a2_3, a3_4, a4_5, rfl⟩
        have G : zS T A s.heap s [[zO1 h po a1_1 v0 la v1 v2 v3 v4 v5 v6 v7], [zAr T 0 a1_1 7 fw], [zO4 la cr inn a1_2 a2_3 a3_4 a4_5, zAr T 0 a1_2 7 k1, zAr T 0 a2_3 28 k2, zAr T 0 a3_4 7 k3, zAr T 0 a4_5 7 k4]] _ _ := G.re rfl
        refine z_Vi (bc := [[zO4 la cr inn a1_2 a2_3 a3_4 a4_5, zAr T 0 a1_2 7 k1, zAr T 0 a2_3 28 k2, zAr T 0 a3_4 7 k3, zAr T 0 a4_5 7 k4]]) (br := [[zO1 h po a1_1 v0 la v1 v2 v3 v4 v5 v6 v7], [zAr T 0 a1_1 7 fw]]) (As := [.int (nI i)]) (rest := [.int u]) C G (c_isInn l T la cr inn k1 k2 k3 k4 ([zO4 la cr inn a1_2 a2_3 a3_4 a4_5, zAr T 0 a1_2 7 k1, zAr T 0 a2_3 28 k2, zAr T 0 a3_4 7 k3, zAr T 0 a4_5 7 k4]) (nI i) hw_18) (kV_RX1_135 C.2.2.2.2 (Nat.le_of_ble_eq_true rfl) (Nat.le_of_ble_eq_true rfl)) [2] [2] rfl rfl (ci := 4) (qc := (RX4, TX4, 6)) rfl rfl (List.mem_flatten.mpr ⟨_, List.mem_of_getElem? (i := 0) rfl, (bLand_mem hw_18).choose_spec⟩) rfl rfl hl.1 dX1_walkersInAll_31 (Nat.le_of_ble_eq_true rfl) (Nat.le_of_ble_eq_true rfl) (fun r_20 b1 H locs hw G => ?_)
        refine zAn2 hw ?_
        intro hbs9 hc_19
        clear hw
        subst hbs9
        have G : zS T A s.heap s [[zO1 h po a1_1 v0 la v1 v2 v3 v4 v5 v6 v7], [zAr T 0 a1_1 7 fw], [zO4 la cr inn a1_2 a2_3 a3_4 a4_5, zAr T 0 a1_2 7 k1, zAr T 0 a2_3 28 k2, zAr T 0 a3_4 7 k3, zAr T 0 a4_5 7 k4]] _ _ := G
        rcases hc_19 with ⟨rfl, h_21, h_22, h_23, h_24⟩ | ⟨rfl, h_25⟩
        · have h_21 : 0 ≤ (nI i).toInt := h_21
          have h_22 : (nI i).toInt < cr.toInt := h_22
          have h_23 : (nI i).toInt < 7 := h_23
          have h_24 : ¬ zBit inn (nI i) = 0 := h_24
          refine lv_if_eq (tgt := 46) hx hb dX1_walkersInAll_34 (by decide) (fun q => absurd q (by decide)) (fun _ => ?_)
          refine lv_aload_n hx hb dX1_walkersInAll_37 rfl (lv_at hl 2 rfl) ?_
          refine z_get C G clX1 0 rfl 1 (by decide) m_fl_RX1_18 rfl dX1_walkersInAll_38 ?_
          refine lv_iload_n hx hb dX1_walkersInAll_41 rfl (lv_at hl 0 rfl) ?_
          refine z_ild C G 1 rfl (vp_in_nI (by omega) (by omega)) dX1_walkersInAll_42 ?_
          refine lv_topi (fun v_26 ev_26 => ?_)
          rw [nI_clamp (by omega)] at ev_26
          subst ev_26
          refine lv_goto (tgt := 47) hx hb dX1_walkersInAll_43 (by decide) ?_
          refine lv_iadd hx hb dX1_walkersInAll_47 ?_
          refine lv_istore_n (lv' := [(2, .int (u + (fw i))), (3, .int (nI i)), (0, .ref h), (1, .int b)]) hx hb dX1_walkersInAll_48 rfl hl (by decide) rfl (fun ls hl => ?_)
          refine lv_iinc (v := nI (i + 1)) (lv' := [(3, .int (nI (i + 1))), (2, .int (u + (fw i))), (0, .ref h), (1, .int b)]) hx hb dX1_walkersInAll_49 hl (k := 1) rfl (z_inc i 1) (by decide) rfl (fun ls hl => ?_)
          refine lv_goto (tgt := 4) hx hb dX1_walkersInAll_52 (by decide) ?_
          have hw_27 : bCourse T h po la fw v0 v1 v2 v3 v4 v5 v6 v7 [zO1 h po a1_1 v0 la v1 v2 v3 v4 v5 v6 v7, zAr T 0 a1_1 7 fw] := ⟨a1_1, rfl⟩
          have G : zS T A s.heap s [[zO1 h po a1_1 v0 la v1 v2 v3 v4 v5 v6 v7, zAr T 0 a1_1 7 fw], [zO4 la cr inn a1_2 a2_3 a3_4 a4_5, zAr T 0 a1_2 7 k1, zAr T 0 a2_3 28 k2, zAr T 0 a3_4 7 k3, zAr T 0 a4_5 7 k4]] _ _ := G.re rfl
          exact ih_4 (i + 1) (u + (fw i)) (show (i + 1) ≤ cr.toInt.toNat ∧ (i + 1) ≤ 7 from ⟨by omega, by omega⟩) (show 7 - (i + 1) < 7 - i from by omega) _ _ ls G (lv_sub hl [0, 1, 2, 3] rfl)
        · have h_25 : ((nI i).toInt < 0 ∨ cr.toInt ≤ (nI i).toInt ∨ 7 ≤ (nI i).toInt ∨ zBit inn (nI i) = 0) := h_25
          refine lv_if_eq (tgt := 46) hx hb dX1_walkersInAll_34 (by decide) (fun _ => ?_) (fun q => absurd (by decide) q)
          refine lv_iconst (v := 0) hx hb dX1_walkersInAll_46 (by decide) ?_
          refine lv_iadd hx hb dX1_walkersInAll_47 ?_
          refine lv_istore_n (lv' := [(2, .int (u + 0)), (3, .int (nI i)), (0, .ref h), (1, .int b)]) hx hb dX1_walkersInAll_48 rfl hl (by decide) rfl (fun ls hl => ?_)
          refine lv_iinc (v := nI (i + 1)) (lv' := [(3, .int (nI (i + 1))), (2, .int (u + 0)), (0, .ref h), (1, .int b)]) hx hb dX1_walkersInAll_49 hl (k := 1) rfl (z_inc i 1) (by decide) rfl (fun ls hl => ?_)
          refine lv_goto (tgt := 4) hx hb dX1_walkersInAll_52 (by decide) ?_
          have hw_28 : bCourse T h po la fw v0 v1 v2 v3 v4 v5 v6 v7 [zO1 h po a1_1 v0 la v1 v2 v3 v4 v5 v6 v7, zAr T 0 a1_1 7 fw] := ⟨a1_1, rfl⟩
          have G : zS T A s.heap s [[zO1 h po a1_1 v0 la v1 v2 v3 v4 v5 v6 v7, zAr T 0 a1_1 7 fw], [zO4 la cr inn a1_2 a2_3 a3_4 a4_5, zAr T 0 a1_2 7 k1, zAr T 0 a2_3 28 k2, zAr T 0 a3_4 7 k3, zAr T 0 a4_5 7 k4]] _ _ := G.re rfl
          exact ih_4 (i + 1) (u + 0) (show (i + 1) ≤ cr.toInt.toNat ∧ (i + 1) ≤ 7 from ⟨by omega, by omega⟩) (show 7 - (i + 1) < 7 - i from by omega) _ _ ls G (lv_sub hl [0, 1, 2, 3] rfl)
set_option maxHeartbeats 4000000 in
set_option maxRecDepth 100000 in
/-- c_unlikeTold -/
theorem c_unlikeTold (l : Launch) (T : zTy) (h : Nat) (po : Nat) (la : Nat) (fw : Nat → Int32) (v0 : Int32) (v1 : Int32) (v2 : Int32) (v3 : Int32) (v4 : Int32) (v5 : Int32) (v6 : Int32) (v7 : Int32) (wc : va_W) (f1 : Nat → Int32) (f2 : Nat → Int32) (f3 : Nat → Int32) (st : Int32) (wh : Int32) (wp : va_W) (cr : Int32) (inn : Int32) (k1 : Nat → Int32) (k2 : Nat → Int32) (k3 : Nat → Int32) (k4 : Nat → Int32) (z : va_W) (hc : bCourse T h po la fw v0 v1 v2 v3 v4 v5 v6 v7 wc) (hp : bPosts T po la f1 f2 f3 st wh wp) (hz : bLand T la cr inn k1 k2 k3 k4 z) (hI : zLI cr k1 k3) : zMi l T yX1_unlikeTold cX1_unlikeTold 3 (some .int) 1 0 0 [.ref h] [wc, wp, z] (fun (r : Int32) bs => bs = [wc, wp, z]) := by
  refine zMi_of (own := RX1) (by decide) rfl (Nat.le_of_ble_eq_true rfl) ?_
  intro p e s m args below meth c A ls C hr hlocks hnm hAe G hl
  refine zHide (fun Q9 hQ9 => ?_)
  have hx := C.1
  have hb := C.2.1
  have hl : lv_has ls 3 [(0, .ref h)] := hl
  have hcr := hI.1
  refine lv_iconst (v := 0) hx hb dX1_unlikeTold_0 (by decide) ?_
  refine lv_istore_n (lv' := [(1, .int 0), (0, .ref h)]) hx hb dX1_unlikeTold_1 rfl hl (by decide) rfl (fun ls hl => ?_)
  refine lv_iconst (v := 0) hx hb dX1_unlikeTold_2 (by decide) ?_
  refine lv_istore_n (lv' := [(2, .int 0), (1, .int 0), (0, .ref h)]) hx hb dX1_unlikeTold_3 rfl hl (by decide) rfl (fun ls hl => ?_)
  refine zEx1 hc ?_
  intro a1_1 hbs9
  clear hc
  subst hbs9
  have G : zS T A s.heap s [[zO1 h po a1_1 v0 la v1 v2 v3 v4 v5 v6 v7], [zAr T 0 a1_1 7 fw], wp, z] _ _ := G.re rfl
  refine zEx3 hp ?_
  intro a1_2 a2_3 a3_4 hbs9
  clear hp
  subst hbs9
  have G : zS T A s.heap s [[zO1 h po a1_1 v0 la v1 v2 v3 v4 v5 v6 v7], [zAr T 0 a1_1 7 fw], [zO6 po la a1_2 a2_3 st wh a3_4], [zAr T 0 a1_2 7 f1], [zAr T 0 a2_3 7 f2], [zAr T 0 a3_4 7 f3], z] _ _ := G.re rfl
  refine zEx4 hz ?_
  intro a1_5 a2_6 a3_7 a4_8 hbs9
  clear hz
  subst hbs9
  have G : zS T A s.heap s [[zO1 h po a1_1 v0 la v1 v2 v3 v4 v5 v6 v7], [zAr T 0 a1_1 7 fw], [zO6 po la a1_2 a2_3 st wh a3_4], [zAr T 0 a1_2 7 f1], [zAr T 0 a2_3 7 f2], [zAr T 0 a3_4 7 f3], [zO4 la cr inn a1_5 a2_6 a3_7 a4_8], [zAr T 0 a1_5 7 k1], [zAr T 0 a2_6 28 k2], [zAr T 0 a3_7 7 k3], [zAr T 0 a4_8 7 k4]] _ _ := G.re rfl
  have hw_9 : bCourse T h po la fw v0 v1 v2 v3 v4 v5 v6 v7 [zO1 h po a1_1 v0 la v1 v2 v3 v4 v5 v6 v7, zAr T 0 a1_1 7 fw] := ⟨a1_1, rfl⟩
  have G : zS T A s.heap s [[zO1 h po a1_1 v0 la v1 v2 v3 v4 v5 v6 v7, zAr T 0 a1_1 7 fw], [zO6 po la a1_2 a2_3 st wh a3_4], [zAr T 0 a1_2 7 f1], [zAr T 0 a2_3 7 f2], [zAr T 0 a3_4 7 f3], [zO4 la cr inn a1_5 a2_6 a3_7 a4_8], [zAr T 0 a1_5 7 k1], [zAr T 0 a2_6 28 k2], [zAr T 0 a3_7 7 k3], [zAr T 0 a4_8 7 k4]] _ _ := G.re rfl
  have hw_10 : bPosts T po la f1 f2 f3 st wh [zO6 po la a1_2 a2_3 st wh a3_4, zAr T 0 a1_2 7 f1, zAr T 0 a2_3 7 f2, zAr T 0 a3_4 7 f3] := ⟨a1_2, a2_3, a3_4, rfl⟩
  have G : zS T A s.heap s [[zO1 h po a1_1 v0 la v1 v2 v3 v4 v5 v6 v7, zAr T 0 a1_1 7 fw], [zO6 po la a1_2 a2_3 st wh a3_4, zAr T 0 a1_2 7 f1, zAr T 0 a2_3 7 f2, zAr T 0 a3_4 7 f3], [zO4 la cr inn a1_5 a2_6 a3_7 a4_8], [zAr T 0 a1_5 7 k1], [zAr T 0 a2_6 28 k2], [zAr T 0 a3_7 7 k3], [zAr T 0 a4_8 7 k4]] _ _ := G.re rfl
  have hw_11 : bLand T la cr inn k1 k2 k3 k4 [zO4 la cr inn a1_5 a2_6 a3_7 a4_8, zAr T 0 a1_5 7 k1, zAr T 0 a2_6 28 k2, zAr T 0 a3_7 7 k3, zAr T 0 a4_8 7 k4] := ⟨a1_5, a2_6, a3_7, a4_8, rfl⟩
  have G : zS T A s.heap s [[zO1 h po a1_1 v0 la v1 v2 v3 v4 v5 v6 v7, zAr T 0 a1_1 7 fw], [zO6 po la a1_2 a2_3 st wh a3_4, zAr T 0 a1_2 7 f1, zAr T 0 a2_3 7 f2, zAr T 0 a3_4 7 f3], [zO4 la cr inn a1_5 a2_6 a3_7 a4_8, zAr T 0 a1_5 7 k1, zAr T 0 a2_6 28 k2, zAr T 0 a3_7 7 k3, zAr T 0 a4_8 7 k4]] _ _ := G.re rfl
  refine z_lp2 (T := T) 4 (fun (i : Nat) (u : Int32) => [[zO1 h po a1_1 v0 la v1 v2 v3 v4 v5 v6 v7, zAr T 0 a1_1 7 fw], [zO6 po la a1_2 a2_3 st wh a3_4, zAr T 0 a1_2 7 f1, zAr T 0 a2_3 7 f2, zAr T 0 a3_4 7 f3], [zO4 la cr inn a1_5 a2_6 a3_7 a4_8, zAr T 0 a1_5 7 k1, zAr T 0 a2_6 28 k2, zAr T 0 a3_7 7 k3, zAr T 0 a4_8 7 k4]]) (fun (i : Nat) (u : Int32) => [(2, .int (nI i)), (1, .int u), (0, .ref h)]) (fun (i : Nat) (u : Int32) => i ≤ cr.toInt.toNat ∧ i ≤ 7) (fun (i : Nat) (u : Int32) => 7 - i) ?_ 0 0 (show 0 ≤ cr.toInt.toNat ∧ 0 ≤ 7 from ⟨by omega, by omega⟩) G (lv_sub hl [0, 1, 2] rfl)
  intro i u hI9 ih_4 H locs ls G hl
  replace hI9 : i ≤ cr.toInt.toNat ∧ i ≤ 7 := hI9
  refine zAn2 hI9 ?_
  intro hi hi7
  clear hI9
  replace G : zS T A s.heap s [[zO1 h po a1_1 v0 la v1 v2 v3 v4 v5 v6 v7, zAr T 0 a1_1 7 fw], [zO6 po la a1_2 a2_3 st wh a3_4, zAr T 0 a1_2 7 f1, zAr T 0 a2_3 7 f2, zAr T 0 a3_4 7 f3], [zO4 la cr inn a1_5 a2_6 a3_7 a4_8, zAr T 0 a1_5 7 k1, zAr T 0 a2_6 28 k2, zAr T 0 a3_7 7 k3, zAr T 0 a4_8 7 k4]] _ _ := G
  replace hl : lv_has ls 3 [(2, .int (nI i)), (1, .int u), (0, .ref h)] := hl
  refine lv_iload_n hx hb dX1_unlikeTold_4 rfl (lv_at hl 0 rfl) ?_
  refine lv_aload_n hx hb dX1_unlikeTold_5 rfl (lv_at hl 2 rfl) ?_
  have G : zS T A s.heap s [[zO1 h po a1_1 v0 la v1 v2 v3 v4 v5 v6 v7], [zAr T 0 a1_1 7 fw], [zO6 po la a1_2 a2_3 st wh a3_4, zAr T 0 a1_2 7 f1, zAr T 0 a2_3 7 f2, zAr T 0 a3_4 7 f3], [zO4 la cr inn a1_5 a2_6 a3_7 a4_8, zAr T 0 a1_5 7 k1, zAr T 0 a2_6 28 k2, zAr T 0 a3_7 7 k3, zAr T 0 a4_8 7 k4]] _ _ := G.re rfl
  refine z_get C G clX1 0 rfl 3 (by decide) m_fl_RX1_25 rfl dX1_unlikeTold_6 ?_
  have G : zS T A s.heap s [[zO1 h po a1_1 v0 la v1 v2 v3 v4 v5 v6 v7], [zAr T 0 a1_1 7 fw], [zO6 po la a1_2 a2_3 st wh a3_4, zAr T 0 a1_2 7 f1, zAr T 0 a2_3 7 f2, zAr T 0 a3_4 7 f3], [zO4 la cr inn a1_5 a2_6 a3_7 a4_8], [zAr T 0 a1_5 7 k1], [zAr T 0 a2_6 28 k2], [zAr T 0 a3_7 7 k3], [zAr T 0 a4_8 7 k4]] _ _ := G.re rfl
  refine z_get C G clX4 3 rfl 0 (by decide) m_fl_RX1_88 rfl dX1_unlikeTold_9 ?_
  refine lv_icmp_ge (tgt := 58) hx hb dX1_unlikeTold_12 (by decide) (fun c_12 => ?_) (fun c_12 => ?_)
  · have c_12n : cr.toInt ≤ (i : Int) := by have q := (fa_le _ _).mp c_12; rw [nI_toInt (n := i) (by omega)] at q; exact q
    refine lv_iload_n hx hb dX1_unlikeTold_58 rfl (lv_at hl 1 rfl) ?_
    have hw_13 : bCourse T h po la fw v0 v1 v2 v3 v4 v5 v6 v7 [zO1 h po a1_1 v0 la v1 v2 v3 v4 v5 v6 v7, zAr T 0 a1_1 7 fw] := ⟨a1_1, rfl⟩
    have G : zS T A s.heap s [[zO1 h po a1_1 v0 la v1 v2 v3 v4 v5 v6 v7, zAr T 0 a1_1 7 fw], [zO6 po la a1_2 a2_3 st wh a3_4, zAr T 0 a1_2 7 f1, zAr T 0 a2_3 7 f2, zAr T 0 a3_4 7 f3], [zO4 la cr inn a1_5 a2_6 a3_7 a4_8], [zAr T 0 a1_5 7 k1], [zAr T 0 a2_6 28 k2], [zAr T 0 a3_7 7 k3], [zAr T 0 a4_8 7 k4]] _ _ := G.re rfl
    have hw_14 : bLand T la cr inn k1 k2 k3 k4 [zO4 la cr inn a1_5 a2_6 a3_7 a4_8, zAr T 0 a1_5 7 k1, zAr T 0 a2_6 28 k2, zAr T 0 a3_7 7 k3, zAr T 0 a4_8 7 k4] := ⟨a1_5, a2_6, a3_7, a4_8, rfl⟩
    have G : zS T A s.heap s [[zO1 h po a1_1 v0 la v1 v2 v3 v4 v5 v6 v7, zAr T 0 a1_1 7 fw], [zO6 po la a1_2 a2_3 st wh a3_4, zAr T 0 a1_2 7 f1, zAr T 0 a2_3 7 f2, zAr T 0 a3_4 7 f3], [zO4 la cr inn a1_5 a2_6 a3_7 a4_8, zAr T 0 a1_5 7 k1, zAr T 0 a2_6 28 k2, zAr T 0 a3_7 7 k3, zAr T 0 a4_8 7 k4]] _ _ := G.re rfl
    exact z_back hQ9 (z_iret C hr hlocks G (Nat.le_of_ble_eq_true rfl) (Nat.le_of_ble_eq_true rfl) dX1_unlikeTold_59 rfl)
  · have c_12n : ¬ cr.toInt ≤ (i : Int) := fun q => c_12 ((fa_le _ _).mpr (by rw [nI_toInt (n := i) (by omega)]; exact q))
    refine lv_iload_n hx hb dX1_unlikeTold_15 rfl (lv_at hl 0 rfl) ?_
    refine lv_bipush (v := 7) hx hb dX1_unlikeTold_16 (by decide) ?_
    refine lv_icmp_ge (tgt := 58) hx hb dX1_unlikeTold_18 (by decide) (fun c_15 => ?_) (fun c_15 => ?_)
    · have c_15n : 7 ≤ i := (nI_leI (a := 7) (b := i) (by omega) (by omega)).mp c_15
      refine lv_iload_n hx hb dX1_unlikeTold_58 rfl (lv_at hl 1 rfl) ?_
      have hw_16 : bCourse T h po la fw v0 v1 v2 v3 v4 v5 v6 v7 [zO1 h po a1_1 v0 la v1 v2 v3 v4 v5 v6 v7, zAr T 0 a1_1 7 fw] := ⟨a1_1, rfl⟩
      have G : zS T A s.heap s [[zO1 h po a1_1 v0 la v1 v2 v3 v4 v5 v6 v7, zAr T 0 a1_1 7 fw], [zO6 po la a1_2 a2_3 st wh a3_4, zAr T 0 a1_2 7 f1, zAr T 0 a2_3 7 f2, zAr T 0 a3_4 7 f3], [zO4 la cr inn a1_5 a2_6 a3_7 a4_8], [zAr T 0 a1_5 7 k1], [zAr T 0 a2_6 28 k2], [zAr T 0 a3_7 7 k3], [zAr T 0 a4_8 7 k4]] _ _ := G.re rfl
      have hw_17 : bLand T la cr inn k1 k2 k3 k4 [zO4 la cr inn a1_5 a2_6 a3_7 a4_8, zAr T 0 a1_5 7 k1, zAr T 0 a2_6 28 k2, zAr T 0 a3_7 7 k3, zAr T 0 a4_8 7 k4] := ⟨a1_5, a2_6, a3_7, a4_8, rfl⟩
      have G : zS T A s.heap s [[zO1 h po a1_1 v0 la v1 v2 v3 v4 v5 v6 v7, zAr T 0 a1_1 7 fw], [zO6 po la a1_2 a2_3 st wh a3_4, zAr T 0 a1_2 7 f1, zAr T 0 a2_3 7 f2, zAr T 0 a3_4 7 f3], [zO4 la cr inn a1_5 a2_6 a3_7 a4_8, zAr T 0 a1_5 7 k1, zAr T 0 a2_6 28 k2, zAr T 0 a3_7 7 k3, zAr T 0 a4_8 7 k4]] _ _ := G.re rfl
      exact z_back hQ9 (z_iret C hr hlocks G (Nat.le_of_ble_eq_true rfl) (Nat.le_of_ble_eq_true rfl) dX1_unlikeTold_59 rfl)
    · have c_15n : ¬ 7 ≤ i := fun q => c_15 ((nI_leI (a := 7) (b := i) (by omega) (by omega)).mpr q)
      refine lv_iload_n hx hb dX1_unlikeTold_21 rfl (lv_at hl 1 rfl) ?_
      refine lv_aload_n hx hb dX1_unlikeTold_22 rfl (lv_at hl 2 rfl) ?_
      refine z_get C G clX1 0 rfl 0 (by decide) m_fl_RX1_12 rfl dX1_unlikeTold_23 ?_
      have G : zS T A s.heap s [[zO1 h po a1_1 v0 la v1 v2 v3 v4 v5 v6 v7], [zAr T 0 a1_1 7 fw], [zO6 po la a1_2 a2_3 st wh a3_4], [zAr T 0 a1_2 7 f1], [zAr T 0 a2_3 7 f2], [zAr T 0 a3_4 7 f3], [zO4 la cr inn a1_5 a2_6 a3_7 a4_8], [zAr T 0 a1_5 7 k1], [zAr T 0 a2_6 28 k2], [zAr T 0 a3_7 7 k3], [zAr T 0 a4_8 7 k4]] _ _ := G.re rfl
      refine z_get C G clX6 2 rfl 1 (by decide) m_fl_RX1_154 rfl dX1_unlikeTold_26 ?_
      refine lv_iload_n hx hb dX1_unlikeTold_29 rfl (lv_at hl 0 rfl) ?_
      refine z_ild C G 3 rfl (vp_in_nI (by omega) (by omega)) dX1_unlikeTold_30 ?_
      refine lv_topi (fun v_18 ev_18 => ?_)
      rw [nI_clamp (by omega)] at ev_18
      subst ev_18
      refine lv_aload_n hx hb dX1_unlikeTold_31 rfl (lv_at hl 2 rfl) ?_
      refine z_get C G clX1 0 rfl 3 (by decide) m_fl_RX1_25 rfl dX1_unlikeTold_32 ?_
      refine z_get C G clX4 6 rfl 4 (by decide) m_fl_RX1_163 rfl dX1_unlikeTold_35 ?_
      refine lv_iload_n hx hb dX1_unlikeTold_38 rfl (lv_at hl 0 rfl) ?_
      refine z_ild C G 9 rfl (vp_in_nI (by omega) (by omega)) dX1_unlikeTold_39 ?_
      refine lv_topi (fun v_19 ev_19 => ?_)
      rw [nI_clamp (by omega)] at ev_19
      subst ev_19
      refine lv_icmp_eq (tgt := 49) hx hb dX1_unlikeTold_40 (by decide) (fun c_20 => ?_) (fun c_20 => ?_)
      · have c_20n : (f1 i).toInt = (k3 i).toInt := (fa_eq _ _).mp c_20
        refine lv_iconst (v := 0) hx hb dX1_unlikeTold_49 (by decide) ?_
        refine lv_ior hx hb dX1_unlikeTold_50 ?_
        refine lv_istore_n (lv' := [(1, .int (u ||| 0)), (2, .int (nI i)), (0, .ref h)]) hx hb dX1_unlikeTold_51 rfl hl (by decide) rfl (fun ls hl => ?_)
        refine lv_iinc (v := nI (i + 1)) (lv' := [(2, .int (nI (i + 1))), (1, .int (u ||| 0)), (0, .ref h)]) hx hb dX1_unlikeTold_52 hl (k := 1) rfl (z_inc i 1) (by decide) rfl (fun ls hl => ?_)
        refine lv_goto (tgt := 4) hx hb dX1_unlikeTold_55 (by decide) ?_
        have hw_21 : bCourse T h po la fw v0 v1 v2 v3 v4 v5 v6 v7 [zO1 h po a1_1 v0 la v1 v2 v3 v4 v5 v6 v7, zAr T 0 a1_1 7 fw] := ⟨a1_1, rfl⟩
        have G : zS T A s.heap s [[zO1 h po a1_1 v0 la v1 v2 v3 v4 v5 v6 v7, zAr T 0 a1_1 7 fw], [zO6 po la a1_2 a2_3 st wh a3_4], [zAr T 0 a1_2 7 f1], [zAr T 0 a2_3 7 f2], [zAr T 0 a3_4 7 f3], [zO4 la cr inn a1_5 a2_6 a3_7 a4_8], [zAr T 0 a1_5 7 k1], [zAr T 0 a2_6 28 k2], [zAr T 0 a3_7 7 k3], [zAr T 0 a4_8 7 k4]] _ _ := G.re rfl
        have hw_22 : bPosts T po la f1 f2 f3 st wh [zO6 po la a1_2 a2_3 st wh a3_4, zAr T 0 a1_2 7 f1, zAr T 0 a2_3 7 f2, zAr T 0 a3_4 7 f3] := ⟨a1_2, a2_3, a3_4, rfl⟩
        have G : zS T A s.heap s [[zO1 h po a1_1 v0 la v1 v2 v3 v4 v5 v6 v7, zAr T 0 a1_1 7 fw], [zO6 po la a1_2 a2_3 st wh a3_4, zAr T 0 a1_2 7 f1, zAr T 0 a2_3 7 f2, zAr T 0 a3_4 7 f3], [zO4 la cr inn a1_5 a2_6 a3_7 a4_8], [zAr T 0 a1_5 7 k1], [zAr T 0 a2_6 28 k2], [zAr T 0 a3_7 7 k3], [zAr T 0 a4_8 7 k4]] _ _ := G.re rfl
        have hw_23 : bLand T la cr inn k1 k2 k3 k4 [zO4 la cr inn a1_5 a2_6 a3_7 a4_8, zAr T 0 a1_5 7 k1, zAr T 0 a2_6 28 k2, zAr T 0 a3_7 7 k3, zAr T 0 a4_8 7 k4] := ⟨a1_5, a2_6, a3_7, a4_8, rfl⟩
        have G : zS T A s.heap s [[zO1 h po a1_1 v0 la v1 v2 v3 v4 v5 v6 v7, zAr T 0 a1_1 7 fw], [zO6 po la a1_2 a2_3 st wh a3_4, zAr T 0 a1_2 7 f1, zAr T 0 a2_3 7 f2, zAr T 0 a3_4 7 f3], [zO4 la cr inn a1_5 a2_6 a3_7 a4_8, zAr T 0 a1_5 7 k1, zAr T 0 a2_6 28 k2, zAr T 0 a3_7 7 k3, zAr T 0 a4_8 7 k4]] _ _ := G.re rfl
        exact ih_4 (i + 1) (u ||| 0) (show (i + 1) ≤ cr.toInt.toNat ∧ (i + 1) ≤ 7 from ⟨by omega, by omega⟩) (show 7 - (i + 1) < 7 - i from by omega) _ _ ls G (lv_sub hl [0, 1, 2] rfl)
      · have c_20n : ¬ (f1 i).toInt = (k3 i).toInt := fun q => c_20 ((fa_eq _ _).mpr q)
        refine lv_iconst (v := 1) hx hb dX1_unlikeTold_43 (by decide) ?_
        refine lv_iload_n hx hb dX1_unlikeTold_44 rfl (lv_at hl 0 rfl) ?_
        refine lv_ishl hx hb dX1_unlikeTold_45 ?_
        refine lv_goto (tgt := 50) hx hb dX1_unlikeTold_46 (by decide) ?_
        refine lv_ior hx hb dX1_unlikeTold_50 ?_
        refine lv_istore_n (lv' := [(1, .int (u ||| (1 <<< ((nI i) &&& 31)))), (2, .int (nI i)), (0, .ref h)]) hx hb dX1_unlikeTold_51 rfl hl (by decide) rfl (fun ls hl => ?_)
        refine lv_iinc (v := nI (i + 1)) (lv' := [(2, .int (nI (i + 1))), (1, .int (u ||| (1 <<< ((nI i) &&& 31)))), (0, .ref h)]) hx hb dX1_unlikeTold_52 hl (k := 1) rfl (z_inc i 1) (by decide) rfl (fun ls hl => ?_)
        refine lv_goto (tgt := 4) hx hb dX1_unlikeTold_55 (by decide) ?_
        have hw_24 : bCourse T h po la fw v0 v1 v2 v3 v4 v5 v6 v7 [zO1 h po a1_1 v0 la v1 v2 v3 v4 v5 v6 v7, zAr T 0 a1_1 7 fw] := ⟨a1_1, rfl⟩
        have G : zS T A s.heap s [[zO1 h po a1_1 v0 la v1 v2 v3 v4 v5 v6 v7, zAr T 0 a1_1 7 fw], [zO6 po la a1_2 a2_3 st wh a3_4], [zAr T 0 a1_2 7 f1], [zAr T 0 a2_3 7 f2], [zAr T 0 a3_4 7 f3], [zO4 la cr inn a1_5 a2_6 a3_7 a4_8], [zAr T 0 a1_5 7 k1], [zAr T 0 a2_6 28 k2], [zAr T 0 a3_7 7 k3], [zAr T 0 a4_8 7 k4]] _ _ := G.re rfl
        have hw_25 : bPosts T po la f1 f2 f3 st wh [zO6 po la a1_2 a2_3 st wh a3_4, zAr T 0 a1_2 7 f1, zAr T 0 a2_3 7 f2, zAr T 0 a3_4 7 f3] := ⟨a1_2, a2_3, a3_4, rfl⟩
        have G : zS T A s.heap s [[zO1 h po a1_1 v0 la v1 v2 v3 v4 v5 v6 v7, zAr T 0 a1_1 7 fw], [zO6 po la a1_2 a2_3 st wh a3_4, zAr T 0 a1_2 7 f1, zAr T 0 a2_3 7 f2, zAr T 0 a3_4 7 f3], [zO4 la cr inn a1_5 a2_6 a3_7 a4_8], [zAr T 0 a1_5 7 k1], [zAr T 0 a2_6 28 k2], [zAr T 0 a3_7 7 k3], [zAr T 0 a4_8 7 k4]] _ _ := G.re rfl
        have hw_26 : bLand T la cr inn k1 k2 k3 k4 [zO4 la cr inn a1_5 a2_6 a3_7 a4_8, zAr T 0 a1_5 7 k1, zAr T 0 a2_6 28 k2, zAr T 0 a3_7 7 k3, zAr T 0 a4_8 7 k4] := ⟨a1_5, a2_6, a3_7, a4_8, rfl⟩
        have G : zS T A s.heap s [[zO1 h po a1_1 v0 la v1 v2 v3 v4 v5 v6 v7, zAr T 0 a1_1 7 fw], [zO6 po la a1_2 a2_3 st wh a3_4, zAr T 0 a1_2 7 f1, zAr T 0 a2_3 7 f2, zAr T 0 a3_4 7 f3], [zO4 la cr inn a1_5 a2_6 a3_7 a4_8, zAr T 0 a1_5 7 k1, zAr T 0 a2_6 28 k2, zAr T 0 a3_7 7 k3, zAr T 0 a4_8 7 k4]] _ _ := G.re rfl
        exact ih_4 (i + 1) (u ||| (1 <<< ((nI i) &&& 31))) (show (i + 1) ≤ cr.toInt.toNat ∧ (i + 1) ≤ 7 from ⟨by omega, by omega⟩) (show 7 - (i + 1) < 7 - i from by omega) _ _ ls G (lv_sub hl [0, 1, 2] rfl)
set_option maxHeartbeats 4000000 in
set_option maxRecDepth 100000 in
/-- c_toldAfter -/
theorem c_toldAfter (l : Launch) (T : zTy) (h : Nat) (po : Nat) (la : Nat) (fw : Nat → Int32) (v0 : Int32) (v1 : Int32) (v2 : Int32) (v3 : Int32) (v4 : Int32) (v5 : Int32) (v6 : Int32) (v7 : Int32) (wc : va_W) (f1 : Nat → Int32) (f2 : Nat → Int32) (f3 : Nat → Int32) (st : Int32) (wh : Int32) (wp : va_W) (cr : Int32) (inn : Int32) (k1 : Nat → Int32) (k2 : Nat → Int32) (k3 : Nat → Int32) (k4 : Nat → Int32) (z : va_W) (x : Int32) (hc : bCourse T h po la fw v0 v1 v2 v3 v4 v5 v6 v7 wc) (hp : bPosts T po la f1 f2 f3 st wh wp) (hz : bLand T la cr inn k1 k2 k3 k4 z) (hI : zLI cr k1 k3) : zMi l T yX1_toldAfter cX1_toldAfter 2 (some .int) 2 0 0 [.ref h, .int x] [wc, wp, z] (fun (r : Int32) bs => bs = [wc, wp, z]) := by
  refine zMi_of (own := RX1) (by decide) rfl (Nat.le_of_ble_eq_true rfl) ?_
  intro p e s m args below meth c A ls C hr hlocks hnm hAe G hl
  refine zHide (fun Q9 hQ9 => ?_)
  have hx := C.1
  have hb := C.2.1
  have hl : lv_has ls 2 [(0, .ref h), (1, .int x)] := hl
  refine lv_iload_n hx hb dX1_toldAfter_0 rfl (lv_at hl 1 rfl) ?_
  by_cases c_1o : x.toInt < 0 ∨ 4 < x.toInt
  · refine lv_tableOut (tgt := 61) hx hb dX1_toldAfter_1 c_1o (by decide) ?_
    refine lv_bipush (v := (-2)) hx hb dX1_toldAfter_61 (by decide) ?_
    exact z_back hQ9 (z_iret C hr hlocks G (Nat.le_of_ble_eq_true rfl) (Nat.le_of_ble_eq_true rfl) dX1_toldAfter_63 rfl)
  · have c_1r : x.toInt = 0 ∨ x.toInt = 1 ∨ x.toInt = 2 ∨ x.toInt = 3 ∨ x.toInt = 4 := by omega
    rcases c_1r with c_1 | c_1 | c_1 | c_1 | c_1
    · refine lv_tableIn (tgt := 36) hx hb dX1_toldAfter_1 (by omega) (by omega) (by rw [c_1]; rfl) (by decide) ?_
      refine lv_aload_n hx hb dX1_toldAfter_36 rfl (lv_at hl 0 rfl) ?_
      refine zEx1 hc ?_
      intro a1_2 hbs9
      clear hc
      subst hbs9
      have G : zS T A s.heap s [[zO1 h po a1_2 v0 la v1 v2 v3 v4 v5 v6 v7], [zAr T 0 a1_2 7 fw], wp, z] _ _ := G.re rfl
      refine z_get C G clX1 0 rfl 6 (by decide) m_fl_RX1_44 rfl dX1_toldAfter_37 ?_
      have hw_3 : bCourse T h po la fw v0 v1 v2 v3 v4 v5 v6 v7 [zO1 h po a1_2 v0 la v1 v2 v3 v4 v5 v6 v7, zAr T 0 a1_2 7 fw] := ⟨a1_2, rfl⟩
      have G : zS T A s.heap s [[zO1 h po a1_2 v0 la v1 v2 v3 v4 v5 v6 v7, zAr T 0 a1_2 7 fw], wp, z] _ _ := G.re rfl
      exact z_back hQ9 (z_iret C hr hlocks G (Nat.le_of_ble_eq_true rfl) (Nat.le_of_ble_eq_true rfl) dX1_toldAfter_40 rfl)
    · refine lv_tableIn (tgt := 41) hx hb dX1_toldAfter_1 (by omega) (by omega) (by rw [c_1]; rfl) (by decide) ?_
      refine lv_aload_n hx hb dX1_toldAfter_41 rfl (lv_at hl 0 rfl) ?_
      refine zEx1 hc ?_
      intro a1_4 hbs9
      clear hc
      subst hbs9
      have G : zS T A s.heap s [[zO1 h po a1_4 v0 la v1 v2 v3 v4 v5 v6 v7], [zAr T 0 a1_4 7 fw], wp, z] _ _ := G.re rfl
      refine z_get C G clX1 0 rfl 7 (by decide) m_fl_RX1_47 rfl dX1_toldAfter_42 ?_
      have hw_5 : bCourse T h po la fw v0 v1 v2 v3 v4 v5 v6 v7 [zO1 h po a1_4 v0 la v1 v2 v3 v4 v5 v6 v7, zAr T 0 a1_4 7 fw] := ⟨a1_4, rfl⟩
      have G : zS T A s.heap s [[zO1 h po a1_4 v0 la v1 v2 v3 v4 v5 v6 v7, zAr T 0 a1_4 7 fw], wp, z] _ _ := G.re rfl
      exact z_back hQ9 (z_iret C hr hlocks G (Nat.le_of_ble_eq_true rfl) (Nat.le_of_ble_eq_true rfl) dX1_toldAfter_45 rfl)
    · refine lv_tableIn (tgt := 46) hx hb dX1_toldAfter_1 (by omega) (by omega) (by rw [c_1]; rfl) (by decide) ?_
      refine lv_aload_n hx hb dX1_toldAfter_46 rfl (lv_at hl 0 rfl) ?_
      refine zEx1 hc ?_
      intro a1_6 hbs9
      clear hc
      subst hbs9
      have G : zS T A s.heap s [[zO1 h po a1_6 v0 la v1 v2 v3 v4 v5 v6 v7], [zAr T 0 a1_6 7 fw], wp, z] _ _ := G.re rfl
      refine z_get C G clX1 0 rfl 8 (by decide) m_fl_RX1_50 rfl dX1_toldAfter_47 ?_
      have hw_7 : bCourse T h po la fw v0 v1 v2 v3 v4 v5 v6 v7 [zO1 h po a1_6 v0 la v1 v2 v3 v4 v5 v6 v7, zAr T 0 a1_6 7 fw] := ⟨a1_6, rfl⟩
      have G : zS T A s.heap s [[zO1 h po a1_6 v0 la v1 v2 v3 v4 v5 v6 v7, zAr T 0 a1_6 7 fw], wp, z] _ _ := G.re rfl
      exact z_back hQ9 (z_iret C hr hlocks G (Nat.le_of_ble_eq_true rfl) (Nat.le_of_ble_eq_true rfl) dX1_toldAfter_50 rfl)
    · refine lv_tableIn (tgt := 51) hx hb dX1_toldAfter_1 (by omega) (by omega) (by rw [c_1]; rfl) (by decide) ?_
      refine lv_aload_n hx hb dX1_toldAfter_51 rfl (lv_at hl 0 rfl) ?_
      refine zEx1 hc ?_
      intro a1_8 hbs9
      clear hc
      subst hbs9
      have G : zS T A s.heap s [[zO1 h po a1_8 v0 la v1 v2 v3 v4 v5 v6 v7], [zAr T 0 a1_8 7 fw], wp, z] _ _ := G.re rfl
      refine z_get C G clX1 0 rfl 9 (by decide) m_fl_RX1_53 rfl dX1_toldAfter_52 ?_
      have hw_9 : bCourse T h po la fw v0 v1 v2 v3 v4 v5 v6 v7 [zO1 h po a1_8 v0 la v1 v2 v3 v4 v5 v6 v7, zAr T 0 a1_8 7 fw] := ⟨a1_8, rfl⟩
      have G : zS T A s.heap s [[zO1 h po a1_8 v0 la v1 v2 v3 v4 v5 v6 v7, zAr T 0 a1_8 7 fw], wp, z] _ _ := G.re rfl
      exact z_back hQ9 (z_iret C hr hlocks G (Nat.le_of_ble_eq_true rfl) (Nat.le_of_ble_eq_true rfl) dX1_toldAfter_55 rfl)
    · refine lv_tableIn (tgt := 56) hx hb dX1_toldAfter_1 (by omega) (by omega) (by rw [c_1]; rfl) (by decide) ?_
      refine lv_aload_n hx hb dX1_toldAfter_56 rfl (lv_at hl 0 rfl) ?_
      refine z_Vi (bc := [wc, wp, z]) (br := []) (As := []) (rest := []) C G (c_unlikeTold l T h po la fw v0 v1 v2 v3 v4 v5 v6 v7 wc f1 f2 f3 st wh wp cr inn k1 k2 k3 k4 z hc hp hz (by first | with_reducible assumption | with_reducible rfl | omega | assumption | rfl)) (kV_RX1_159 C.2.2.2.2 (Nat.le_of_ble_eq_true rfl) (Nat.le_of_ble_eq_true rfl)) [0, 1, 2] [0, 0, 0] rfl rfl (ci := 1) (qc := (RX1, TX1, 11)) rfl rfl (List.mem_flatten.mpr ⟨_, List.mem_of_getElem? (i := 0) rfl, (bCourse_mem hc).choose_spec⟩) rfl rfl hl.1 dX1_toldAfter_57 (Nat.le_of_ble_eq_true rfl) (Nat.le_of_ble_eq_true rfl) (fun r_10 b1 H locs hw G => ?_)
      obtain rfl := hw
      have G : zS T A s.heap s [wc, wp, z] _ _ := G
      exact z_back hQ9 (z_iret C hr hlocks G (Nat.le_of_ble_eq_true rfl) (Nat.le_of_ble_eq_true rfl) dX1_toldAfter_60 rfl)
set_option maxHeartbeats 4000000 in
set_option maxRecDepth 100000 in
/-- c_Course_told -/
theorem c_Course_told (l : Launch) (T : zTy) (h : Nat) (po : Nat) (la : Nat) (fw : Nat → Int32) (v0 : Int32) (v1 : Int32) (v2 : Int32) (v3 : Int32) (v4 : Int32) (v5 : Int32) (v6 : Int32) (v7 : Int32) (wc : va_W) (f1 : Nat → Int32) (f2 : Nat → Int32) (f3 : Nat → Int32) (st : Int32) (wh : Int32) (wp : va_W) (cr : Int32) (inn : Int32) (k1 : Nat → Int32) (k2 : Nat → Int32) (k3 : Nat → Int32) (k4 : Nat → Int32) (z : va_W) (x : Int32) (hc : bCourse T h po la fw v0 v1 v2 v3 v4 v5 v6 v7 wc) (hp : bPosts T po la f1 f2 f3 st wh wp) (hz : bLand T la cr inn k1 k2 k3 k4 z) (hI : zLI cr k1 k3) : zMi l T yX1_told cX1_told 3 (some .int) 4 0 0 [.ref h, .int x] [wc, wp, z] (fun (r : Int32) bs => bs = [wc, wp, z]) := by
  refine zMi_of (own := RX1) (by decide) rfl (Nat.le_of_ble_eq_true rfl) ?_
  intro p e s m args below meth c A ls C hr hlocks hnm hAe G hl
  refine zHide (fun Q9 hQ9 => ?_)
  have hx := C.1
  have hb := C.2.1
  have hl : lv_has ls 3 [(0, .ref h), (1, .int x)] := hl
  refine lv_iload_n hx hb dX1_told_0 rfl (lv_at hl 1 rfl) ?_
  by_cases c_1o : x.toInt < 0 ∨ 3 < x.toInt
  · refine lv_tableOut (tgt := 54) hx hb dX1_told_1 c_1o (by decide) ?_
    refine lv_iload_n hx hb dX1_told_54 rfl (lv_at hl 1 rfl) ?_
    refine lv_bipush (v := 10) hx hb dX1_told_55 (by decide) ?_
    refine lv_irem hx hb dX1_told_57 (by decide) ?_
    refine lv_istore_n (lv' := [(2, .int (x - x / 10 * 10)), (0, .ref h), (1, .int x)]) hx hb dX1_told_58 rfl hl (by decide) rfl (fun ls hl => ?_)
    refine lv_aload_n hx hb dX1_told_59 rfl (lv_at hl 1 rfl) ?_
    refine zEx1 hc ?_
    intro a1_2 hbs9
    clear hc
    subst hbs9
    have G : zS T A s.heap s [[zO1 h po a1_2 v0 la v1 v2 v3 v4 v5 v6 v7], [zAr T 0 a1_2 7 fw], wp, z] _ _ := G.re rfl
    refine z_get C G clX1 0 rfl 3 (by decide) m_fl_RX1_25 rfl dX1_told_60 ?_
    refine lv_iload_n hx hb dX1_told_63 rfl (lv_at hl 0 rfl) ?_
    refine z_Vi (bc := [z]) (br := [[zO1 h po a1_2 v0 la v1 v2 v3 v4 v5 v6 v7], [zAr T 0 a1_2 7 fw], wp]) (As := [.int (x - x / 10 * 10)]) (rest := []) C G (c_has l T la cr inn k1 k2 k3 k4 z (x - x / 10 * 10) hz) (kV_RX1_112 C.2.2.2.2 (Nat.le_of_ble_eq_true rfl) (Nat.le_of_ble_eq_true rfl)) [3] [3] rfl rfl (ci := 4) (qc := (RX4, TX4, 6)) rfl rfl (List.mem_flatten.mpr ⟨_, List.mem_of_getElem? (i := 0) rfl, (bLand_mem hz).choose_spec⟩) rfl rfl hl.1 dX1_told_64 (Nat.le_of_ble_eq_true rfl) (Nat.le_of_ble_eq_true rfl) (fun r_4 b1 H locs hw G => ?_)
    refine zAn2 hw ?_
    intro hbs9 hc_3
    clear hw
    subst hbs9
    have G : zS T A s.heap s [[zO1 h po a1_2 v0 la v1 v2 v3 v4 v5 v6 v7], [zAr T 0 a1_2 7 fw], wp, z] _ _ := G
    rcases hc_3 with ⟨rfl, h_5, h_6, h_7⟩ | ⟨rfl, h_8⟩
    · have h_5 : 0 ≤ (x - x / 10 * 10).toInt := h_5
      have h_6 : (x - x / 10 * 10).toInt < cr.toInt := h_6
      have h_7 : (x - x / 10 * 10).toInt < 7 := h_7
      refine lv_if_ne (tgt := 73) hx hb dX1_told_67 (by decide) (fun _ => ?_) (fun q => absurd q (by decide))
      refine lv_iload_n hx hb dX1_told_73 rfl (lv_at hl 2 rfl) ?_
      refine lv_bipush (v := 10) hx hb dX1_told_74 (by decide) ?_
      refine lv_idiv hx hb dX1_told_76 (by decide) ?_
      by_cases c_9o : (x / 10).toInt < 1 ∨ 3 < (x / 10).toInt
      · refine lv_tableOut (tgt := 131) hx hb dX1_told_77 c_9o (by decide) ?_
        refine lv_bipush (v := (-2)) hx hb dX1_told_131 (by decide) ?_
        have hw_10 : bCourse T h po la fw v0 v1 v2 v3 v4 v5 v6 v7 [zO1 h po a1_2 v0 la v1 v2 v3 v4 v5 v6 v7, zAr T 0 a1_2 7 fw] := ⟨a1_2, rfl⟩
        have G : zS T A s.heap s [[zO1 h po a1_2 v0 la v1 v2 v3 v4 v5 v6 v7, zAr T 0 a1_2 7 fw], wp, z] _ _ := G.re rfl
        exact z_back hQ9 (z_iret C hr hlocks G (Nat.le_of_ble_eq_true rfl) (Nat.le_of_ble_eq_true rfl) dX1_told_133 rfl)
      · have c_9r : (x / 10).toInt = 1 ∨ (x / 10).toInt = 2 ∨ (x / 10).toInt = 3 := by omega
        rcases c_9r with c_9 | c_9 | c_9
        · refine lv_tableIn (tgt := 104) hx hb dX1_told_77 (by omega) (by omega) (by rw [c_9]; rfl) (by decide) ?_
          refine lv_aload_n hx hb dX1_told_104 rfl (lv_at hl 1 rfl) ?_
          refine z_get C G clX1 0 rfl 0 (by decide) m_fl_RX1_12 rfl dX1_told_105 ?_
          refine zEx3 hp ?_
          intro a1_11 a2_12 a3_13 hbs9
          clear hp
          subst hbs9
          have G : zS T A s.heap s [[zO1 h po a1_2 v0 la v1 v2 v3 v4 v5 v6 v7], [zAr T 0 a1_2 7 fw], [zO6 po la a1_11 a2_12 st wh a3_13], [zAr T 0 a1_11 7 f1], [zAr T 0 a2_12 7 f2], [zAr T 0 a3_13 7 f3], z] _ _ := G.re rfl
          refine z_get C G clX6 2 rfl 1 (by decide) m_fl_RX1_154 rfl dX1_told_108 ?_
          refine lv_iload_n hx hb dX1_told_111 rfl (lv_at hl 0 rfl) ?_
          refine z_ild C G 3 rfl (vp_in_iff.mpr ⟨by omega, by omega⟩) dX1_told_112 ?_
          refine lv_topi (fun v_14 ev_14 => ?_)
          subst ev_14
          have hw_15 : bCourse T h po la fw v0 v1 v2 v3 v4 v5 v6 v7 [zO1 h po a1_2 v0 la v1 v2 v3 v4 v5 v6 v7, zAr T 0 a1_2 7 fw] := ⟨a1_2, rfl⟩
          have G : zS T A s.heap s [[zO1 h po a1_2 v0 la v1 v2 v3 v4 v5 v6 v7, zAr T 0 a1_2 7 fw], [zO6 po la a1_11 a2_12 st wh a3_13], [zAr T 0 a1_11 7 f1], [zAr T 0 a2_12 7 f2], [zAr T 0 a3_13 7 f3], z] _ _ := G.re rfl
          have hw_16 : bPosts T po la f1 f2 f3 st wh [zO6 po la a1_11 a2_12 st wh a3_13, zAr T 0 a1_11 7 f1, zAr T 0 a2_12 7 f2, zAr T 0 a3_13 7 f3] := ⟨a1_11, a2_12, a3_13, rfl⟩
          have G : zS T A s.heap s [[zO1 h po a1_2 v0 la v1 v2 v3 v4 v5 v6 v7, zAr T 0 a1_2 7 fw], [zO6 po la a1_11 a2_12 st wh a3_13, zAr T 0 a1_11 7 f1, zAr T 0 a2_12 7 f2, zAr T 0 a3_13 7 f3], z] _ _ := G.re rfl
          exact z_back hQ9 (z_iret C hr hlocks G (Nat.le_of_ble_eq_true rfl) (Nat.le_of_ble_eq_true rfl) dX1_told_113 rfl)
        · refine lv_tableIn (tgt := 114) hx hb dX1_told_77 (by omega) (by omega) (by rw [c_9]; rfl) (by decide) ?_
          refine lv_aload_n hx hb dX1_told_114 rfl (lv_at hl 1 rfl) ?_
          refine z_get C G clX1 0 rfl 1 (by decide) m_fl_RX1_18 rfl dX1_told_115 ?_
          refine lv_iload_n hx hb dX1_told_118 rfl (lv_at hl 0 rfl) ?_
          refine z_ild C G 1 rfl (vp_in_iff.mpr ⟨by omega, by omega⟩) dX1_told_119 ?_
          refine lv_topi (fun v_17 ev_17 => ?_)
          subst ev_17
          have hw_18 : bCourse T h po la fw v0 v1 v2 v3 v4 v5 v6 v7 [zO1 h po a1_2 v0 la v1 v2 v3 v4 v5 v6 v7, zAr T 0 a1_2 7 fw] := ⟨a1_2, rfl⟩
          have G : zS T A s.heap s [[zO1 h po a1_2 v0 la v1 v2 v3 v4 v5 v6 v7, zAr T 0 a1_2 7 fw], wp, z] _ _ := G.re rfl
          exact z_back hQ9 (z_iret C hr hlocks G (Nat.le_of_ble_eq_true rfl) (Nat.le_of_ble_eq_true rfl) dX1_told_120 rfl)
        · refine lv_tableIn (tgt := 121) hx hb dX1_told_77 (by omega) (by omega) (by rw [c_9]; rfl) (by decide) ?_
          refine lv_aload_n hx hb dX1_told_121 rfl (lv_at hl 1 rfl) ?_
          refine z_get C G clX1 0 rfl 0 (by decide) m_fl_RX1_12 rfl dX1_told_122 ?_
          refine zEx3 hp ?_
          intro a1_19 a2_20 a3_21 hbs9
          clear hp
          subst hbs9
          have G : zS T A s.heap s [[zO1 h po a1_2 v0 la v1 v2 v3 v4 v5 v6 v7], [zAr T 0 a1_2 7 fw], [zO6 po la a1_19 a2_20 st wh a3_21], [zAr T 0 a1_19 7 f1], [zAr T 0 a2_20 7 f2], [zAr T 0 a3_21 7 f3], z] _ _ := G.re rfl
          refine z_get C G clX6 2 rfl 2 (by decide) m_fl_RX1_157 rfl dX1_told_125 ?_
          refine lv_iload_n hx hb dX1_told_128 rfl (lv_at hl 0 rfl) ?_
          refine z_ild C G 4 rfl (vp_in_iff.mpr ⟨by omega, by omega⟩) dX1_told_129 ?_
          refine lv_topi (fun v_22 ev_22 => ?_)
          subst ev_22
          have hw_23 : bCourse T h po la fw v0 v1 v2 v3 v4 v5 v6 v7 [zO1 h po a1_2 v0 la v1 v2 v3 v4 v5 v6 v7, zAr T 0 a1_2 7 fw] := ⟨a1_2, rfl⟩
          have G : zS T A s.heap s [[zO1 h po a1_2 v0 la v1 v2 v3 v4 v5 v6 v7, zAr T 0 a1_2 7 fw], [zO6 po la a1_19 a2_20 st wh a3_21], [zAr T 0 a1_19 7 f1], [zAr T 0 a2_20 7 f2], [zAr T 0 a3_21 7 f3], z] _ _ := G.re rfl
          have hw_24 : bPosts T po la f1 f2 f3 st wh [zO6 po la a1_19 a2_20 st wh a3_21, zAr T 0 a1_19 7 f1, zAr T 0 a2_20 7 f2, zAr T 0 a3_21 7 f3] := ⟨a1_19, a2_20, a3_21, rfl⟩
          have G : zS T A s.heap s [[zO1 h po a1_2 v0 la v1 v2 v3 v4 v5 v6 v7, zAr T 0 a1_2 7 fw], [zO6 po la a1_19 a2_20 st wh a3_21, zAr T 0 a1_19 7 f1, zAr T 0 a2_20 7 f2, zAr T 0 a3_21 7 f3], z] _ _ := G.re rfl
          exact z_back hQ9 (z_iret C hr hlocks G (Nat.le_of_ble_eq_true rfl) (Nat.le_of_ble_eq_true rfl) dX1_told_130 rfl)
    · have h_8 : ((x - x / 10 * 10).toInt < 0 ∨ cr.toInt ≤ (x - x / 10 * 10).toInt ∨ 7 ≤ (x - x / 10 * 10).toInt) := h_8
      refine lv_if_ne (tgt := 73) hx hb dX1_told_67 (by decide) (fun q => absurd (by decide) q) (fun _ => ?_)
      refine lv_bipush (v := (-2)) hx hb dX1_told_70 (by decide) ?_
      have hw_25 : bCourse T h po la fw v0 v1 v2 v3 v4 v5 v6 v7 [zO1 h po a1_2 v0 la v1 v2 v3 v4 v5 v6 v7, zAr T 0 a1_2 7 fw] := ⟨a1_2, rfl⟩
      have G : zS T A s.heap s [[zO1 h po a1_2 v0 la v1 v2 v3 v4 v5 v6 v7, zAr T 0 a1_2 7 fw], wp, z] _ _ := G.re rfl
      exact z_back hQ9 (z_iret C hr hlocks G (Nat.le_of_ble_eq_true rfl) (Nat.le_of_ble_eq_true rfl) dX1_told_72 rfl)
  · have c_1r : x.toInt = 0 ∨ x.toInt = 1 ∨ x.toInt = 2 ∨ x.toInt = 3 := by omega
    rcases c_1r with c_1 | c_1 | c_1 | c_1
    · refine lv_tableIn (tgt := 32) hx hb dX1_told_1 (by omega) (by omega) (by rw [c_1]; rfl) (by decide) ?_
      refine lv_aload_n hx hb dX1_told_32 rfl (lv_at hl 0 rfl) ?_
      refine zEx1 hc ?_
      intro a1_26 hbs9
      clear hc
      subst hbs9
      have G : zS T A s.heap s [[zO1 h po a1_26 v0 la v1 v2 v3 v4 v5 v6 v7], [zAr T 0 a1_26 7 fw], wp, z] _ _ := G.re rfl
      refine z_get C G clX1 0 rfl 2 (by decide) m_fl_RX1_34 rfl dX1_told_33 ?_
      have hw_27 : bCourse T h po la fw v0 v1 v2 v3 v4 v5 v6 v7 [zO1 h po a1_26 v0 la v1 v2 v3 v4 v5 v6 v7, zAr T 0 a1_26 7 fw] := ⟨a1_26, rfl⟩
      have G : zS T A s.heap s [[zO1 h po a1_26 v0 la v1 v2 v3 v4 v5 v6 v7, zAr T 0 a1_26 7 fw], wp, z] _ _ := G.re rfl
      exact z_back hQ9 (z_iret C hr hlocks G (Nat.le_of_ble_eq_true rfl) (Nat.le_of_ble_eq_true rfl) dX1_told_36 rfl)
    · refine lv_tableIn (tgt := 37) hx hb dX1_told_1 (by omega) (by omega) (by rw [c_1]; rfl) (by decide) ?_
      refine lv_aload_n hx hb dX1_told_37 rfl (lv_at hl 0 rfl) ?_
      refine lv_iconst (v := 1) hx hb dX1_told_38 (by decide) ?_
      refine z_Vi (bc := [wc, z]) (br := [wp]) (As := [.int 1]) (rest := []) C G (c_walkersInAll l T h po la fw v0 v1 v2 v3 v4 v5 v6 v7 wc cr inn k1 k2 k3 k4 z 1 hc hz (by first | with_reducible assumption | with_reducible rfl | omega | assumption | rfl)) (kV_RX1_150 C.2.2.2.2 (Nat.le_of_ble_eq_true rfl) (Nat.le_of_ble_eq_true rfl)) [0, 2] [0, 1] rfl rfl (ci := 1) (qc := (RX1, TX1, 11)) rfl rfl (List.mem_flatten.mpr ⟨_, List.mem_of_getElem? (i := 0) rfl, (bCourse_mem hc).choose_spec⟩) rfl rfl hl.1 dX1_told_39 (Nat.le_of_ble_eq_true rfl) (Nat.le_of_ble_eq_true rfl) (fun r_28 b1 H locs hw G => ?_)
      obtain rfl := hw
      have G : zS T A s.heap s [wp, wc, z] _ _ := G
      have G := G.sub (bs' := [wc, wp, z]) [1, 0, 2] rfl
      exact z_back hQ9 (z_iret C hr hlocks G (Nat.le_of_ble_eq_true rfl) (Nat.le_of_ble_eq_true rfl) dX1_told_42 rfl)
    · refine lv_tableIn (tgt := 43) hx hb dX1_told_1 (by omega) (by omega) (by rw [c_1]; rfl) (by decide) ?_
      refine lv_aload_n hx hb dX1_told_43 rfl (lv_at hl 0 rfl) ?_
      refine lv_iconst (v := 0) hx hb dX1_told_44 (by decide) ?_
      refine z_Vi (bc := [wc, z]) (br := [wp]) (As := [.int 0]) (rest := []) C G (c_walkersInAll l T h po la fw v0 v1 v2 v3 v4 v5 v6 v7 wc cr inn k1 k2 k3 k4 z 0 hc hz (by first | with_reducible assumption | with_reducible rfl | omega | assumption | rfl)) (kV_RX1_150 C.2.2.2.2 (Nat.le_of_ble_eq_true rfl) (Nat.le_of_ble_eq_true rfl)) [0, 2] [0, 1] rfl rfl (ci := 1) (qc := (RX1, TX1, 11)) rfl rfl (List.mem_flatten.mpr ⟨_, List.mem_of_getElem? (i := 0) rfl, (bCourse_mem hc).choose_spec⟩) rfl rfl hl.1 dX1_told_45 (Nat.le_of_ble_eq_true rfl) (Nat.le_of_ble_eq_true rfl) (fun r_29 b1 H locs hw G => ?_)
      obtain rfl := hw
      have G : zS T A s.heap s [wp, wc, z] _ _ := G
      have G := G.sub (bs' := [wc, wp, z]) [1, 0, 2] rfl
      exact z_back hQ9 (z_iret C hr hlocks G (Nat.le_of_ble_eq_true rfl) (Nat.le_of_ble_eq_true rfl) dX1_told_48 rfl)
    · refine lv_tableIn (tgt := 49) hx hb dX1_told_1 (by omega) (by omega) (by rw [c_1]; rfl) (by decide) ?_
      refine lv_aload_n hx hb dX1_told_49 rfl (lv_at hl 0 rfl) ?_
      refine zEx1 hc ?_
      intro a1_30 hbs9
      clear hc
      subst hbs9
      have G : zS T A s.heap s [[zO1 h po a1_30 v0 la v1 v2 v3 v4 v5 v6 v7], [zAr T 0 a1_30 7 fw], wp, z] _ _ := G.re rfl
      refine z_get C G clX1 0 rfl 4 (by decide) m_fl_RX1_38 rfl dX1_told_50 ?_
      have hw_31 : bCourse T h po la fw v0 v1 v2 v3 v4 v5 v6 v7 [zO1 h po a1_30 v0 la v1 v2 v3 v4 v5 v6 v7, zAr T 0 a1_30 7 fw] := ⟨a1_30, rfl⟩
      have G : zS T A s.heap s [[zO1 h po a1_30 v0 la v1 v2 v3 v4 v5 v6 v7, zAr T 0 a1_30 7 fw], wp, z] _ _ := G.re rfl
      exact z_back hQ9 (z_iret C hr hlocks G (Nat.le_of_ble_eq_true rfl) (Nat.le_of_ble_eq_true rfl) dX1_told_53 rfl)
set_option maxHeartbeats 4000000 in
set_option maxRecDepth 100000 in
/-- c_move -/
theorem c_move (l : Launch) (T : zTy) (h : Nat) (po : Nat) (la : Nat) (fw : Nat → Int32) (v0 : Int32) (v1 : Int32) (v2 : Int32) (v3 : Int32) (v4 : Int32) (v5 : Int32) (v6 : Int32) (v7 : Int32) (wc : va_W) (cr : Int32) (inn : Int32) (k1 : Nat → Int32) (k2 : Nat → Int32) (k3 : Nat → Int32) (k4 : Nat → Int32) (z : va_W) (x : Int32) (y : Int32) (hc : bCourse T h po la fw v0 v1 v2 v3 v4 v5 v6 v7 wc) (hz : bLand T la cr inn k1 k2 k3 k4 z) : zMv l T yX1_move cX1_move 3 3 0 0 [.ref h, .int x, .int y] [wc, z] (fun bs => ∃ (wc2 : va_W) (gw : Nat → Int32) (u0 : Int32) (u1 : Int32) (u2 : Int32) (u3 : Int32) (u4 : Int32) (u5 : Int32) (u6 : Int32) (u7 : Int32), bs = [wc2, z] ∧ bCourse T h po la gw u0 u1 u2 u3 u4 u5 u6 u7 wc2) := by
  refine zMv_of (own := RX1) (by decide) rfl (Nat.le_of_ble_eq_true rfl) ?_
  intro p e s m args below meth c A ls C hr hlocks hnm hAe G hl
  refine zHide (fun Q9 hQ9 => ?_)
  have hx := C.1
  have hb := C.2.1
  have hl : lv_has ls 3 [(0, .ref h), (1, .int x), (2, .int y)] := hl
  refine lv_aload_n hx hb dX1_move_0 rfl (lv_at hl 0 rfl) ?_
  refine zEx1 hc ?_
  intro a1_1 hbs9
  clear hc
  subst hbs9
  have G : zS T A s.heap s [[zO1 h po a1_1 v0 la v1 v2 v3 v4 v5 v6 v7], [zAr T 0 a1_1 7 fw], z] _ _ := G.re rfl
  refine z_get C G clX1 0 rfl 3 (by decide) m_fl_RX1_25 rfl dX1_move_1 ?_
  refine lv_iload_n hx hb dX1_move_4 rfl (lv_at hl 1 rfl) ?_
  refine z_Vi (bc := [z]) (br := [[zO1 h po a1_1 v0 la v1 v2 v3 v4 v5 v6 v7], [zAr T 0 a1_1 7 fw]]) (As := [.int x]) (rest := []) C G (c_has l T la cr inn k1 k2 k3 k4 z x hz) (kV_RX1_112 C.2.2.2.2 (Nat.le_of_ble_eq_true rfl) (Nat.le_of_ble_eq_true rfl)) [2] [2] rfl rfl (ci := 4) (qc := (RX4, TX4, 6)) rfl rfl (List.mem_flatten.mpr ⟨_, List.mem_of_getElem? (i := 0) rfl, (bLand_mem hz).choose_spec⟩) rfl rfl hl.1 dX1_move_5 (Nat.le_of_ble_eq_true rfl) (Nat.le_of_ble_eq_true rfl) (fun r_3 b1 H locs hw G => ?_)
  refine zAn2 hw ?_
  intro hbs9 hc_2
  clear hw
  subst hbs9
  have G : zS T A s.heap s [[zO1 h po a1_1 v0 la v1 v2 v3 v4 v5 v6 v7], [zAr T 0 a1_1 7 fw], z] _ _ := G
  rcases hc_2 with ⟨rfl, h_4, h_5, h_6⟩ | ⟨rfl, h_7⟩
  · have h_4 : 0 ≤ x.toInt := h_4
    have h_5 : x.toInt < cr.toInt := h_5
    have h_6 : x.toInt < 7 := h_6
    refine lv_if_eq (tgt := 22) hx hb dX1_move_8 (by decide) (fun q => absurd q (by decide)) (fun _ => ?_)
    refine lv_aload_n hx hb dX1_move_11 rfl (lv_at hl 0 rfl) ?_
    refine z_get C G clX1 0 rfl 3 (by decide) m_fl_RX1_25 rfl dX1_move_12 ?_
    refine lv_iload_n hx hb dX1_move_15 rfl (lv_at hl 2 rfl) ?_
    refine z_Vi (bc := [z]) (br := [[zO1 h po a1_1 v0 la v1 v2 v3 v4 v5 v6 v7], [zAr T 0 a1_1 7 fw]]) (As := [.int y]) (rest := []) C G (c_has l T la cr inn k1 k2 k3 k4 z y hz) (kV_RX1_112 C.2.2.2.2 (Nat.le_of_ble_eq_true rfl) (Nat.le_of_ble_eq_true rfl)) [2] [2] rfl rfl (ci := 4) (qc := (RX4, TX4, 6)) rfl rfl (List.mem_flatten.mpr ⟨_, List.mem_of_getElem? (i := 0) rfl, (bLand_mem hz).choose_spec⟩) rfl rfl hl.1 dX1_move_16 (Nat.le_of_ble_eq_true rfl) (Nat.le_of_ble_eq_true rfl) (fun r_9 b1 H locs hw G => ?_)
    refine zAn2 hw ?_
    intro hbs9 hc_8
    clear hw
    subst hbs9
    have G : zS T A s.heap s [[zO1 h po a1_1 v0 la v1 v2 v3 v4 v5 v6 v7], [zAr T 0 a1_1 7 fw], z] _ _ := G
    rcases hc_8 with ⟨rfl, h_10, h_11, h_12⟩ | ⟨rfl, h_13⟩
    · have h_10 : 0 ≤ y.toInt := h_10
      have h_11 : y.toInt < cr.toInt := h_11
      have h_12 : y.toInt < 7 := h_12
      refine lv_if_ne (tgt := 23) hx hb dX1_move_19 (by decide) (fun _ => ?_) (fun q => absurd q (by decide))
      refine lv_aload_n hx hb dX1_move_23 rfl (lv_at hl 0 rfl) ?_
      refine z_get C G clX1 0 rfl 1 (by decide) m_fl_RX1_18 rfl dX1_move_24 ?_
      refine lv_iload_n hx hb dX1_move_27 rfl (lv_at hl 1 rfl) ?_
      refine lv_dup2_11 hx hb dX1_move_28 rfl rfl ?_
      refine z_ild C G 1 rfl (vp_in_iff.mpr ⟨by omega, by omega⟩) dX1_move_29 ?_
      refine lv_topi (fun v_14 ev_14 => ?_)
      subst ev_14
      refine lv_iconst (v := 1) hx hb dX1_move_30 (by decide) ?_
      refine lv_isub hx hb dX1_move_31 ?_
      refine z_ist C G 1 rfl (vp_in_iff.mpr ⟨by omega, by omega⟩) dX1_move_32 (fun H locs G => ?_)
      have G : zS T A s.heap s [[zO1 h po a1_1 v0 la v1 v2 v3 v4 v5 v6 v7], [zAr T 0 a1_1 7 (upd fw x.toNatClampNeg ((fw x.toNatClampNeg) - 1))], z] _ _ := G
      refine lv_aload_n hx hb dX1_move_33 rfl (lv_at hl 0 rfl) ?_
      refine z_get C G clX1 0 rfl 1 (by decide) m_fl_RX1_18 rfl dX1_move_34 ?_
      refine lv_iload_n hx hb dX1_move_37 rfl (lv_at hl 2 rfl) ?_
      refine lv_dup2_11 hx hb dX1_move_38 rfl rfl ?_
      refine z_ild C G 1 rfl (vp_in_iff.mpr ⟨by omega, by omega⟩) dX1_move_39 ?_
      refine lv_topi (fun v_15 ev_15 => ?_)
      subst ev_15
      refine lv_iconst (v := 1) hx hb dX1_move_40 (by decide) ?_
      refine lv_iadd hx hb dX1_move_41 ?_
      refine z_ist C G 1 rfl (vp_in_iff.mpr ⟨by omega, by omega⟩) dX1_move_42 (fun H locs G => ?_)
      have G : zS T A s.heap s [[zO1 h po a1_1 v0 la v1 v2 v3 v4 v5 v6 v7], [zAr T 0 a1_1 7 (upd (upd fw x.toNatClampNeg ((fw x.toNatClampNeg) - 1)) y.toNatClampNeg (((upd fw x.toNatClampNeg ((fw x.toNatClampNeg) - 1)) y.toNatClampNeg) + 1))], z] _ _ := G
      refine lv_iload_n hx hb dX1_move_43 rfl (lv_at hl 1 rfl) ?_
      refine lv_iload_n hx hb dX1_move_44 rfl (lv_at hl 2 rfl) ?_
      refine lv_icmp_eq (tgt := 58) hx hb dX1_move_45 (by decide) (fun c_16 => ?_) (fun c_16 => ?_)
      · have c_16n : x.toInt = y.toInt := (fa_eq _ _).mp c_16
        refine lv_aload_n hx hb dX1_move_58 rfl (lv_at hl 0 rfl) ?_
        refine z_get C G clX1 0 rfl 6 (by decide) m_fl_RX1_44 rfl dX1_move_59 ?_
        refine lv_iconst (v := (-1)) hx hb dX1_move_62 (by decide) ?_
        refine lv_icmp_ne (tgt := 96) hx hb dX1_move_63 (by decide) (fun c_17 => ?_) (fun c_17 => ?_)
        · have c_17n : ¬ v3.toInt = (-1 : Int) := fun q => c_17 ((fa_eq _ _).mpr q)
          have hw_18 : bCourse T h po la (upd (upd fw x.toNatClampNeg ((fw x.toNatClampNeg) - 1)) y.toNatClampNeg (((upd fw x.toNatClampNeg ((fw x.toNatClampNeg) - 1)) y.toNatClampNeg) + 1)) v0 v1 v2 v3 v4 v5 v6 v7 [zO1 h po a1_1 v0 la v1 v2 v3 v4 v5 v6 v7, zAr T 0 a1_1 7 (upd (upd fw x.toNatClampNeg ((fw x.toNatClampNeg) - 1)) y.toNatClampNeg (((upd fw x.toNatClampNeg ((fw x.toNatClampNeg) - 1)) y.toNatClampNeg) + 1))] := ⟨a1_1, rfl⟩
          have G : zS T A s.heap s [[zO1 h po a1_1 v0 la v1 v2 v3 v4 v5 v6 v7, zAr T 0 a1_1 7 (upd (upd fw x.toNatClampNeg ((fw x.toNatClampNeg) - 1)) y.toNatClampNeg (((upd fw x.toNatClampNeg ((fw x.toNatClampNeg) - 1)) y.toNatClampNeg) + 1))], z] _ _ := G.re rfl
          exact z_back hQ9 (z_vret C hr hlocks G (Nat.le_of_ble_eq_true rfl) (Nat.le_of_ble_eq_true rfl) dX1_move_96 ⟨([zO1 h po a1_1 v0 la v1 v2 v3 v4 v5 v6 v7, zAr T 0 a1_1 7 (upd (upd fw x.toNatClampNeg ((fw x.toNatClampNeg) - 1)) y.toNatClampNeg (((upd fw x.toNatClampNeg ((fw x.toNatClampNeg) - 1)) y.toNatClampNeg) + 1))]), (upd (upd fw x.toNatClampNeg ((fw x.toNatClampNeg) - 1)) y.toNatClampNeg (((upd fw x.toNatClampNeg ((fw x.toNatClampNeg) - 1)) y.toNatClampNeg) + 1)), v0, v1, v2, v3, v4, v5, v6, v7, rfl, hw_18⟩)
        · have c_17n : v3.toInt = (-1 : Int) := (fa_eq _ _).mp c_17
          refine lv_aload_n hx hb dX1_move_66 rfl (lv_at hl 0 rfl) ?_
          refine z_get C G clX1 0 rfl 3 (by decide) m_fl_RX1_25 rfl dX1_move_67 ?_
          refine lv_iload_n hx hb dX1_move_70 rfl (lv_at hl 2 rfl) ?_
          refine z_Vi (bc := [z]) (br := [[zO1 h po a1_1 v0 la v1 v2 v3 v4 v5 v6 v7], [zAr T 0 a1_1 7 (upd (upd fw x.toNatClampNeg ((fw x.toNatClampNeg) - 1)) y.toNatClampNeg (((upd fw x.toNatClampNeg ((fw x.toNatClampNeg) - 1)) y.toNatClampNeg) + 1))]]) (As := [.int y]) (rest := []) C G (c_isInn l T la cr inn k1 k2 k3 k4 z y hz) (kV_RX1_135 C.2.2.2.2 (Nat.le_of_ble_eq_true rfl) (Nat.le_of_ble_eq_true rfl)) [2] [2] rfl rfl (ci := 4) (qc := (RX4, TX4, 6)) rfl rfl (List.mem_flatten.mpr ⟨_, List.mem_of_getElem? (i := 0) rfl, (bLand_mem hz).choose_spec⟩) rfl rfl hl.1 dX1_move_71 (Nat.le_of_ble_eq_true rfl) (Nat.le_of_ble_eq_true rfl) (fun r_20 b1 H locs hw G => ?_)
          refine zAn2 hw ?_
          intro hbs9 hc_19
          clear hw
          subst hbs9
          have G : zS T A s.heap s [[zO1 h po a1_1 v0 la v1 v2 v3 v4 v5 v6 v7], [zAr T 0 a1_1 7 (upd (upd fw x.toNatClampNeg ((fw x.toNatClampNeg) - 1)) y.toNatClampNeg (((upd fw x.toNatClampNeg ((fw x.toNatClampNeg) - 1)) y.toNatClampNeg) + 1))], z] _ _ := G
          rcases hc_19 with ⟨rfl, h_21, h_22, h_23, h_24⟩ | ⟨rfl, h_25⟩
          · have h_21 : 0 ≤ y.toInt := h_21
            have h_22 : y.toInt < cr.toInt := h_22
            have h_23 : y.toInt < 7 := h_23
            have h_24 : ¬ zBit inn y = 0 := h_24
            refine lv_if_eq (tgt := 96) hx hb dX1_move_74 (by decide) (fun q => absurd q (by decide)) (fun _ => ?_)
            refine lv_aload_n hx hb dX1_move_77 rfl (lv_at hl 0 rfl) ?_
            refine z_get C G clX1 0 rfl 3 (by decide) m_fl_RX1_25 rfl dX1_move_78 ?_
            refine lv_iload_n hx hb dX1_move_81 rfl (lv_at hl 1 rfl) ?_
            refine z_Vi (bc := [z]) (br := [[zO1 h po a1_1 v0 la v1 v2 v3 v4 v5 v6 v7], [zAr T 0 a1_1 7 (upd (upd fw x.toNatClampNeg ((fw x.toNatClampNeg) - 1)) y.toNatClampNeg (((upd fw x.toNatClampNeg ((fw x.toNatClampNeg) - 1)) y.toNatClampNeg) + 1))]]) (As := [.int x]) (rest := []) C G (c_isInn l T la cr inn k1 k2 k3 k4 z x hz) (kV_RX1_135 C.2.2.2.2 (Nat.le_of_ble_eq_true rfl) (Nat.le_of_ble_eq_true rfl)) [2] [2] rfl rfl (ci := 4) (qc := (RX4, TX4, 6)) rfl rfl (List.mem_flatten.mpr ⟨_, List.mem_of_getElem? (i := 0) rfl, (bLand_mem hz).choose_spec⟩) rfl rfl hl.1 dX1_move_82 (Nat.le_of_ble_eq_true rfl) (Nat.le_of_ble_eq_true rfl) (fun r_27 b1 H locs hw G => ?_)
            refine zAn2 hw ?_
            intro hbs9 hc_26
            clear hw
            subst hbs9
            have G : zS T A s.heap s [[zO1 h po a1_1 v0 la v1 v2 v3 v4 v5 v6 v7], [zAr T 0 a1_1 7 (upd (upd fw x.toNatClampNeg ((fw x.toNatClampNeg) - 1)) y.toNatClampNeg (((upd fw x.toNatClampNeg ((fw x.toNatClampNeg) - 1)) y.toNatClampNeg) + 1))], z] _ _ := G
            rcases hc_26 with ⟨rfl, h_28, h_29, h_30, h_31⟩ | ⟨rfl, h_32⟩
            · have h_28 : 0 ≤ x.toInt := h_28
              have h_29 : x.toInt < cr.toInt := h_29
              have h_30 : x.toInt < 7 := h_30
              have h_31 : ¬ zBit inn x = 0 := h_31
              refine lv_if_ne (tgt := 96) hx hb dX1_move_85 (by decide) (fun _ => ?_) (fun q => absurd q (by decide))
              have hw_33 : bCourse T h po la (upd (upd fw x.toNatClampNeg ((fw x.toNatClampNeg) - 1)) y.toNatClampNeg (((upd fw x.toNatClampNeg ((fw x.toNatClampNeg) - 1)) y.toNatClampNeg) + 1)) v0 v1 v2 v3 v4 v5 v6 v7 [zO1 h po a1_1 v0 la v1 v2 v3 v4 v5 v6 v7, zAr T 0 a1_1 7 (upd (upd fw x.toNatClampNeg ((fw x.toNatClampNeg) - 1)) y.toNatClampNeg (((upd fw x.toNatClampNeg ((fw x.toNatClampNeg) - 1)) y.toNatClampNeg) + 1))] := ⟨a1_1, rfl⟩
              have G : zS T A s.heap s [[zO1 h po a1_1 v0 la v1 v2 v3 v4 v5 v6 v7, zAr T 0 a1_1 7 (upd (upd fw x.toNatClampNeg ((fw x.toNatClampNeg) - 1)) y.toNatClampNeg (((upd fw x.toNatClampNeg ((fw x.toNatClampNeg) - 1)) y.toNatClampNeg) + 1))], z] _ _ := G.re rfl
              exact z_back hQ9 (z_vret C hr hlocks G (Nat.le_of_ble_eq_true rfl) (Nat.le_of_ble_eq_true rfl) dX1_move_96 ⟨([zO1 h po a1_1 v0 la v1 v2 v3 v4 v5 v6 v7, zAr T 0 a1_1 7 (upd (upd fw x.toNatClampNeg ((fw x.toNatClampNeg) - 1)) y.toNatClampNeg (((upd fw x.toNatClampNeg ((fw x.toNatClampNeg) - 1)) y.toNatClampNeg) + 1))]), (upd (upd fw x.toNatClampNeg ((fw x.toNatClampNeg) - 1)) y.toNatClampNeg (((upd fw x.toNatClampNeg ((fw x.toNatClampNeg) - 1)) y.toNatClampNeg) + 1)), v0, v1, v2, v3, v4, v5, v6, v7, rfl, hw_33⟩)
            · have h_32 : (x.toInt < 0 ∨ cr.toInt ≤ x.toInt ∨ 7 ≤ x.toInt ∨ zBit inn x = 0) := h_32
              refine lv_if_ne (tgt := 96) hx hb dX1_move_85 (by decide) (fun q => absurd (by decide) q) (fun _ => ?_)
              refine lv_aload_n hx hb dX1_move_88 rfl (lv_at hl 0 rfl) ?_
              refine lv_aload_n hx hb dX1_move_89 rfl (lv_at hl 0 rfl) ?_
              refine z_get C G clX1 0 rfl 5 (by decide) m_fl_RX1_41 rfl dX1_move_90 ?_
              refine z_put C G clX1 0 rfl 6 (by decide) m_fl_RX1_44 rfl rfl rfl (Nat.le_of_ble_eq_true rfl) dX1_move_93 (fun H locs G => ?_)
              have G : zS T A s.heap s [[zO1 h po a1_1 v0 la v1 v2 v2 v4 v5 v6 v7], [zAr T 0 a1_1 7 (upd (upd fw x.toNatClampNeg ((fw x.toNatClampNeg) - 1)) y.toNatClampNeg (((upd fw x.toNatClampNeg ((fw x.toNatClampNeg) - 1)) y.toNatClampNeg) + 1))], z] _ _ := G
              have hw_34 : bCourse T h po la (upd (upd fw x.toNatClampNeg ((fw x.toNatClampNeg) - 1)) y.toNatClampNeg (((upd fw x.toNatClampNeg ((fw x.toNatClampNeg) - 1)) y.toNatClampNeg) + 1)) v0 v1 v2 v2 v4 v5 v6 v7 [zO1 h po a1_1 v0 la v1 v2 v2 v4 v5 v6 v7, zAr T 0 a1_1 7 (upd (upd fw x.toNatClampNeg ((fw x.toNatClampNeg) - 1)) y.toNatClampNeg (((upd fw x.toNatClampNeg ((fw x.toNatClampNeg) - 1)) y.toNatClampNeg) + 1))] := ⟨a1_1, rfl⟩
              have G : zS T A s.heap s [[zO1 h po a1_1 v0 la v1 v2 v2 v4 v5 v6 v7, zAr T 0 a1_1 7 (upd (upd fw x.toNatClampNeg ((fw x.toNatClampNeg) - 1)) y.toNatClampNeg (((upd fw x.toNatClampNeg ((fw x.toNatClampNeg) - 1)) y.toNatClampNeg) + 1))], z] _ _ := G.re rfl
              exact z_back hQ9 (z_vret C hr hlocks G (Nat.le_of_ble_eq_true rfl) (Nat.le_of_ble_eq_true rfl) dX1_move_96 ⟨([zO1 h po a1_1 v0 la v1 v2 v2 v4 v5 v6 v7, zAr T 0 a1_1 7 (upd (upd fw x.toNatClampNeg ((fw x.toNatClampNeg) - 1)) y.toNatClampNeg (((upd fw x.toNatClampNeg ((fw x.toNatClampNeg) - 1)) y.toNatClampNeg) + 1))]), (upd (upd fw x.toNatClampNeg ((fw x.toNatClampNeg) - 1)) y.toNatClampNeg (((upd fw x.toNatClampNeg ((fw x.toNatClampNeg) - 1)) y.toNatClampNeg) + 1)), v0, v1, v2, v2, v4, v5, v6, v7, rfl, hw_34⟩)
          · have h_25 : (y.toInt < 0 ∨ cr.toInt ≤ y.toInt ∨ 7 ≤ y.toInt ∨ zBit inn y = 0) := h_25
            refine lv_if_eq (tgt := 96) hx hb dX1_move_74 (by decide) (fun _ => ?_) (fun q => absurd (by decide) q)
            have hw_35 : bCourse T h po la (upd (upd fw x.toNatClampNeg ((fw x.toNatClampNeg) - 1)) y.toNatClampNeg (((upd fw x.toNatClampNeg ((fw x.toNatClampNeg) - 1)) y.toNatClampNeg) + 1)) v0 v1 v2 v3 v4 v5 v6 v7 [zO1 h po a1_1 v0 la v1 v2 v3 v4 v5 v6 v7, zAr T 0 a1_1 7 (upd (upd fw x.toNatClampNeg ((fw x.toNatClampNeg) - 1)) y.toNatClampNeg (((upd fw x.toNatClampNeg ((fw x.toNatClampNeg) - 1)) y.toNatClampNeg) + 1))] := ⟨a1_1, rfl⟩
            have G : zS T A s.heap s [[zO1 h po a1_1 v0 la v1 v2 v3 v4 v5 v6 v7, zAr T 0 a1_1 7 (upd (upd fw x.toNatClampNeg ((fw x.toNatClampNeg) - 1)) y.toNatClampNeg (((upd fw x.toNatClampNeg ((fw x.toNatClampNeg) - 1)) y.toNatClampNeg) + 1))], z] _ _ := G.re rfl
            exact z_back hQ9 (z_vret C hr hlocks G (Nat.le_of_ble_eq_true rfl) (Nat.le_of_ble_eq_true rfl) dX1_move_96 ⟨([zO1 h po a1_1 v0 la v1 v2 v3 v4 v5 v6 v7, zAr T 0 a1_1 7 (upd (upd fw x.toNatClampNeg ((fw x.toNatClampNeg) - 1)) y.toNatClampNeg (((upd fw x.toNatClampNeg ((fw x.toNatClampNeg) - 1)) y.toNatClampNeg) + 1))]), (upd (upd fw x.toNatClampNeg ((fw x.toNatClampNeg) - 1)) y.toNatClampNeg (((upd fw x.toNatClampNeg ((fw x.toNatClampNeg) - 1)) y.toNatClampNeg) + 1)), v0, v1, v2, v3, v4, v5, v6, v7, rfl, hw_35⟩)
      · have c_16n : ¬ x.toInt = y.toInt := fun q => c_16 ((fa_eq _ _).mpr q)
        refine lv_aload_n hx hb dX1_move_48 rfl (lv_at hl 0 rfl) ?_
        refine lv_dup hx hb dX1_move_49 rfl ?_
        refine z_get C G clX1 0 rfl 8 (by decide) m_fl_RX1_50 rfl dX1_move_50 ?_
        refine lv_iconst (v := 1) hx hb dX1_move_53 (by decide) ?_
        refine lv_iadd hx hb dX1_move_54 ?_
        refine z_put C G clX1 0 rfl 8 (by decide) m_fl_RX1_50 rfl rfl rfl (Nat.le_of_ble_eq_true rfl) dX1_move_55 (fun H locs G => ?_)
        have G : zS T A s.heap s [[zO1 h po a1_1 v0 la v1 v2 v3 v4 (v5 + 1) v6 v7], [zAr T 0 a1_1 7 (upd (upd fw x.toNatClampNeg ((fw x.toNatClampNeg) - 1)) y.toNatClampNeg (((upd fw x.toNatClampNeg ((fw x.toNatClampNeg) - 1)) y.toNatClampNeg) + 1))], z] _ _ := G
        refine lv_aload_n hx hb dX1_move_58 rfl (lv_at hl 0 rfl) ?_
        refine z_get C G clX1 0 rfl 6 (by decide) m_fl_RX1_44 rfl dX1_move_59 ?_
        refine lv_iconst (v := (-1)) hx hb dX1_move_62 (by decide) ?_
        refine lv_icmp_ne (tgt := 96) hx hb dX1_move_63 (by decide) (fun c_36 => ?_) (fun c_36 => ?_)
        · have c_36n : ¬ v3.toInt = (-1 : Int) := fun q => c_36 ((fa_eq _ _).mpr q)
          have hw_37 : bCourse T h po la (upd (upd fw x.toNatClampNeg ((fw x.toNatClampNeg) - 1)) y.toNatClampNeg (((upd fw x.toNatClampNeg ((fw x.toNatClampNeg) - 1)) y.toNatClampNeg) + 1)) v0 v1 v2 v3 v4 (v5 + 1) v6 v7 [zO1 h po a1_1 v0 la v1 v2 v3 v4 (v5 + 1) v6 v7, zAr T 0 a1_1 7 (upd (upd fw x.toNatClampNeg ((fw x.toNatClampNeg) - 1)) y.toNatClampNeg (((upd fw x.toNatClampNeg ((fw x.toNatClampNeg) - 1)) y.toNatClampNeg) + 1))] := ⟨a1_1, rfl⟩
          have G : zS T A s.heap s [[zO1 h po a1_1 v0 la v1 v2 v3 v4 (v5 + 1) v6 v7, zAr T 0 a1_1 7 (upd (upd fw x.toNatClampNeg ((fw x.toNatClampNeg) - 1)) y.toNatClampNeg (((upd fw x.toNatClampNeg ((fw x.toNatClampNeg) - 1)) y.toNatClampNeg) + 1))], z] _ _ := G.re rfl
          exact z_back hQ9 (z_vret C hr hlocks G (Nat.le_of_ble_eq_true rfl) (Nat.le_of_ble_eq_true rfl) dX1_move_96 ⟨([zO1 h po a1_1 v0 la v1 v2 v3 v4 (v5 + 1) v6 v7, zAr T 0 a1_1 7 (upd (upd fw x.toNatClampNeg ((fw x.toNatClampNeg) - 1)) y.toNatClampNeg (((upd fw x.toNatClampNeg ((fw x.toNatClampNeg) - 1)) y.toNatClampNeg) + 1))]), (upd (upd fw x.toNatClampNeg ((fw x.toNatClampNeg) - 1)) y.toNatClampNeg (((upd fw x.toNatClampNeg ((fw x.toNatClampNeg) - 1)) y.toNatClampNeg) + 1)), v0, v1, v2, v3, v4, (v5 + 1), v6, v7, rfl, hw_37⟩)
        · have c_36n : v3.toInt = (-1 : Int) := (fa_eq _ _).mp c_36
          refine lv_aload_n hx hb dX1_move_66 rfl (lv_at hl 0 rfl) ?_
          refine z_get C G clX1 0 rfl 3 (by decide) m_fl_RX1_25 rfl dX1_move_67 ?_
          refine lv_iload_n hx hb dX1_move_70 rfl (lv_at hl 2 rfl) ?_
          refine z_Vi (bc := [z]) (br := [[zO1 h po a1_1 v0 la v1 v2 v3 v4 (v5 + 1) v6 v7], [zAr T 0 a1_1 7 (upd (upd fw x.toNatClampNeg ((fw x.toNatClampNeg) - 1)) y.toNatClampNeg (((upd fw x.toNatClampNeg ((fw x.toNatClampNeg) - 1)) y.toNatClampNeg) + 1))]]) (As := [.int y]) (rest := []) C G (c_isInn l T la cr inn k1 k2 k3 k4 z y hz) (kV_RX1_135 C.2.2.2.2 (Nat.le_of_ble_eq_true rfl) (Nat.le_of_ble_eq_true rfl)) [2] [2] rfl rfl (ci := 4) (qc := (RX4, TX4, 6)) rfl rfl (List.mem_flatten.mpr ⟨_, List.mem_of_getElem? (i := 0) rfl, (bLand_mem hz).choose_spec⟩) rfl rfl hl.1 dX1_move_71 (Nat.le_of_ble_eq_true rfl) (Nat.le_of_ble_eq_true rfl) (fun r_39 b1 H locs hw G => ?_)
          refine zAn2 hw ?_
          intro hbs9 hc_38
          clear hw
          subst hbs9
          have G : zS T A s.heap s [[zO1 h po a1_1 v0 la v1 v2 v3 v4 (v5 + 1) v6 v7], [zAr T 0 a1_1 7 (upd (upd fw x.toNatClampNeg ((fw x.toNatClampNeg) - 1)) y.toNatClampNeg (((upd fw x.toNatClampNeg ((fw x.toNatClampNeg) - 1)) y.toNatClampNeg) + 1))], z] _ _ := G
          rcases hc_38 with ⟨rfl, h_40, h_41, h_42, h_43⟩ | ⟨rfl, h_44⟩
          · have h_40 : 0 ≤ y.toInt := h_40
            have h_41 : y.toInt < cr.toInt := h_41
            have h_42 : y.toInt < 7 := h_42
            have h_43 : ¬ zBit inn y = 0 := h_43
            refine lv_if_eq (tgt := 96) hx hb dX1_move_74 (by decide) (fun q => absurd q (by decide)) (fun _ => ?_)
            refine lv_aload_n hx hb dX1_move_77 rfl (lv_at hl 0 rfl) ?_
            refine z_get C G clX1 0 rfl 3 (by decide) m_fl_RX1_25 rfl dX1_move_78 ?_
            refine lv_iload_n hx hb dX1_move_81 rfl (lv_at hl 1 rfl) ?_
            refine z_Vi (bc := [z]) (br := [[zO1 h po a1_1 v0 la v1 v2 v3 v4 (v5 + 1) v6 v7], [zAr T 0 a1_1 7 (upd (upd fw x.toNatClampNeg ((fw x.toNatClampNeg) - 1)) y.toNatClampNeg (((upd fw x.toNatClampNeg ((fw x.toNatClampNeg) - 1)) y.toNatClampNeg) + 1))]]) (As := [.int x]) (rest := []) C G (c_isInn l T la cr inn k1 k2 k3 k4 z x hz) (kV_RX1_135 C.2.2.2.2 (Nat.le_of_ble_eq_true rfl) (Nat.le_of_ble_eq_true rfl)) [2] [2] rfl rfl (ci := 4) (qc := (RX4, TX4, 6)) rfl rfl (List.mem_flatten.mpr ⟨_, List.mem_of_getElem? (i := 0) rfl, (bLand_mem hz).choose_spec⟩) rfl rfl hl.1 dX1_move_82 (Nat.le_of_ble_eq_true rfl) (Nat.le_of_ble_eq_true rfl) (fun r_46 b1 H locs hw G => ?_)
            refine zAn2 hw ?_
            intro hbs9 hc_45
            clear hw
            subst hbs9
            have G : zS T A s.heap s [[zO1 h po a1_1 v0 la v1 v2 v3 v4 (v5 + 1) v6 v7], [zAr T 0 a1_1 7 (upd (upd fw x.toNatClampNeg ((fw x.toNatClampNeg) - 1)) y.toNatClampNeg (((upd fw x.toNatClampNeg ((fw x.toNatClampNeg) - 1)) y.toNatClampNeg) + 1))], z] _ _ := G
            rcases hc_45 with ⟨rfl, h_47, h_48, h_49, h_50⟩ | ⟨rfl, h_51⟩
            · have h_47 : 0 ≤ x.toInt := h_47
              have h_48 : x.toInt < cr.toInt := h_48
              have h_49 : x.toInt < 7 := h_49
              have h_50 : ¬ zBit inn x = 0 := h_50
              refine lv_if_ne (tgt := 96) hx hb dX1_move_85 (by decide) (fun _ => ?_) (fun q => absurd q (by decide))
              have hw_52 : bCourse T h po la (upd (upd fw x.toNatClampNeg ((fw x.toNatClampNeg) - 1)) y.toNatClampNeg (((upd fw x.toNatClampNeg ((fw x.toNatClampNeg) - 1)) y.toNatClampNeg) + 1)) v0 v1 v2 v3 v4 (v5 + 1) v6 v7 [zO1 h po a1_1 v0 la v1 v2 v3 v4 (v5 + 1) v6 v7, zAr T 0 a1_1 7 (upd (upd fw x.toNatClampNeg ((fw x.toNatClampNeg) - 1)) y.toNatClampNeg (((upd fw x.toNatClampNeg ((fw x.toNatClampNeg) - 1)) y.toNatClampNeg) + 1))] := ⟨a1_1, rfl⟩
              have G : zS T A s.heap s [[zO1 h po a1_1 v0 la v1 v2 v3 v4 (v5 + 1) v6 v7, zAr T 0 a1_1 7 (upd (upd fw x.toNatClampNeg ((fw x.toNatClampNeg) - 1)) y.toNatClampNeg (((upd fw x.toNatClampNeg ((fw x.toNatClampNeg) - 1)) y.toNatClampNeg) + 1))], z] _ _ := G.re rfl
              exact z_back hQ9 (z_vret C hr hlocks G (Nat.le_of_ble_eq_true rfl) (Nat.le_of_ble_eq_true rfl) dX1_move_96 ⟨([zO1 h po a1_1 v0 la v1 v2 v3 v4 (v5 + 1) v6 v7, zAr T 0 a1_1 7 (upd (upd fw x.toNatClampNeg ((fw x.toNatClampNeg) - 1)) y.toNatClampNeg (((upd fw x.toNatClampNeg ((fw x.toNatClampNeg) - 1)) y.toNatClampNeg) + 1))]), (upd (upd fw x.toNatClampNeg ((fw x.toNatClampNeg) - 1)) y.toNatClampNeg (((upd fw x.toNatClampNeg ((fw x.toNatClampNeg) - 1)) y.toNatClampNeg) + 1)), v0, v1, v2, v3, v4, (v5 + 1), v6, v7, rfl, hw_52⟩)
            · have h_51 : (x.toInt < 0 ∨ cr.toInt ≤ x.toInt ∨ 7 ≤ x.toInt ∨ zBit inn x = 0) := h_51
              refine lv_if_ne (tgt := 96) hx hb dX1_move_85 (by decide) (fun q => absurd (by decide) q) (fun _ => ?_)
              refine lv_aload_n hx hb dX1_move_88 rfl (lv_at hl 0 rfl) ?_
              refine lv_aload_n hx hb dX1_move_89 rfl (lv_at hl 0 rfl) ?_
              refine z_get C G clX1 0 rfl 5 (by decide) m_fl_RX1_41 rfl dX1_move_90 ?_
              refine z_put C G clX1 0 rfl 6 (by decide) m_fl_RX1_44 rfl rfl rfl (Nat.le_of_ble_eq_true rfl) dX1_move_93 (fun H locs G => ?_)
              have G : zS T A s.heap s [[zO1 h po a1_1 v0 la v1 v2 v2 v4 (v5 + 1) v6 v7], [zAr T 0 a1_1 7 (upd (upd fw x.toNatClampNeg ((fw x.toNatClampNeg) - 1)) y.toNatClampNeg (((upd fw x.toNatClampNeg ((fw x.toNatClampNeg) - 1)) y.toNatClampNeg) + 1))], z] _ _ := G
              have hw_53 : bCourse T h po la (upd (upd fw x.toNatClampNeg ((fw x.toNatClampNeg) - 1)) y.toNatClampNeg (((upd fw x.toNatClampNeg ((fw x.toNatClampNeg) - 1)) y.toNatClampNeg) + 1)) v0 v1 v2 v2 v4 (v5 + 1) v6 v7 [zO1 h po a1_1 v0 la v1 v2 v2 v4 (v5 + 1) v6 v7, zAr T 0 a1_1 7 (upd (upd fw x.toNatClampNeg ((fw x.toNatClampNeg) - 1)) y.toNatClampNeg (((upd fw x.toNatClampNeg ((fw x.toNatClampNeg) - 1)) y.toNatClampNeg) + 1))] := ⟨a1_1, rfl⟩
              have G : zS T A s.heap s [[zO1 h po a1_1 v0 la v1 v2 v2 v4 (v5 + 1) v6 v7, zAr T 0 a1_1 7 (upd (upd fw x.toNatClampNeg ((fw x.toNatClampNeg) - 1)) y.toNatClampNeg (((upd fw x.toNatClampNeg ((fw x.toNatClampNeg) - 1)) y.toNatClampNeg) + 1))], z] _ _ := G.re rfl
              exact z_back hQ9 (z_vret C hr hlocks G (Nat.le_of_ble_eq_true rfl) (Nat.le_of_ble_eq_true rfl) dX1_move_96 ⟨([zO1 h po a1_1 v0 la v1 v2 v2 v4 (v5 + 1) v6 v7, zAr T 0 a1_1 7 (upd (upd fw x.toNatClampNeg ((fw x.toNatClampNeg) - 1)) y.toNatClampNeg (((upd fw x.toNatClampNeg ((fw x.toNatClampNeg) - 1)) y.toNatClampNeg) + 1))]), (upd (upd fw x.toNatClampNeg ((fw x.toNatClampNeg) - 1)) y.toNatClampNeg (((upd fw x.toNatClampNeg ((fw x.toNatClampNeg) - 1)) y.toNatClampNeg) + 1)), v0, v1, v2, v2, v4, (v5 + 1), v6, v7, rfl, hw_53⟩)
          · have h_44 : (y.toInt < 0 ∨ cr.toInt ≤ y.toInt ∨ 7 ≤ y.toInt ∨ zBit inn y = 0) := h_44
            refine lv_if_eq (tgt := 96) hx hb dX1_move_74 (by decide) (fun _ => ?_) (fun q => absurd (by decide) q)
            have hw_54 : bCourse T h po la (upd (upd fw x.toNatClampNeg ((fw x.toNatClampNeg) - 1)) y.toNatClampNeg (((upd fw x.toNatClampNeg ((fw x.toNatClampNeg) - 1)) y.toNatClampNeg) + 1)) v0 v1 v2 v3 v4 (v5 + 1) v6 v7 [zO1 h po a1_1 v0 la v1 v2 v3 v4 (v5 + 1) v6 v7, zAr T 0 a1_1 7 (upd (upd fw x.toNatClampNeg ((fw x.toNatClampNeg) - 1)) y.toNatClampNeg (((upd fw x.toNatClampNeg ((fw x.toNatClampNeg) - 1)) y.toNatClampNeg) + 1))] := ⟨a1_1, rfl⟩
            have G : zS T A s.heap s [[zO1 h po a1_1 v0 la v1 v2 v3 v4 (v5 + 1) v6 v7, zAr T 0 a1_1 7 (upd (upd fw x.toNatClampNeg ((fw x.toNatClampNeg) - 1)) y.toNatClampNeg (((upd fw x.toNatClampNeg ((fw x.toNatClampNeg) - 1)) y.toNatClampNeg) + 1))], z] _ _ := G.re rfl
            exact z_back hQ9 (z_vret C hr hlocks G (Nat.le_of_ble_eq_true rfl) (Nat.le_of_ble_eq_true rfl) dX1_move_96 ⟨([zO1 h po a1_1 v0 la v1 v2 v3 v4 (v5 + 1) v6 v7, zAr T 0 a1_1 7 (upd (upd fw x.toNatClampNeg ((fw x.toNatClampNeg) - 1)) y.toNatClampNeg (((upd fw x.toNatClampNeg ((fw x.toNatClampNeg) - 1)) y.toNatClampNeg) + 1))]), (upd (upd fw x.toNatClampNeg ((fw x.toNatClampNeg) - 1)) y.toNatClampNeg (((upd fw x.toNatClampNeg ((fw x.toNatClampNeg) - 1)) y.toNatClampNeg) + 1)), v0, v1, v2, v3, v4, (v5 + 1), v6, v7, rfl, hw_54⟩)
    · have h_13 : (y.toInt < 0 ∨ cr.toInt ≤ y.toInt ∨ 7 ≤ y.toInt) := h_13
      refine lv_if_ne (tgt := 23) hx hb dX1_move_19 (by decide) (fun q => absurd (by decide) q) (fun _ => ?_)
      have hw_55 : bCourse T h po la fw v0 v1 v2 v3 v4 v5 v6 v7 [zO1 h po a1_1 v0 la v1 v2 v3 v4 v5 v6 v7, zAr T 0 a1_1 7 fw] := ⟨a1_1, rfl⟩
      have G : zS T A s.heap s [[zO1 h po a1_1 v0 la v1 v2 v3 v4 v5 v6 v7, zAr T 0 a1_1 7 fw], z] _ _ := G.re rfl
      exact z_back hQ9 (z_vret C hr hlocks G (Nat.le_of_ble_eq_true rfl) (Nat.le_of_ble_eq_true rfl) dX1_move_22 ⟨([zO1 h po a1_1 v0 la v1 v2 v3 v4 v5 v6 v7, zAr T 0 a1_1 7 fw]), fw, v0, v1, v2, v3, v4, v5, v6, v7, rfl, hw_55⟩)
  · have h_7 : (x.toInt < 0 ∨ cr.toInt ≤ x.toInt ∨ 7 ≤ x.toInt) := h_7
    refine lv_if_eq (tgt := 22) hx hb dX1_move_8 (by decide) (fun _ => ?_) (fun q => absurd (by decide) q)
    have hw_56 : bCourse T h po la fw v0 v1 v2 v3 v4 v5 v6 v7 [zO1 h po a1_1 v0 la v1 v2 v3 v4 v5 v6 v7, zAr T 0 a1_1 7 fw] := ⟨a1_1, rfl⟩
    have G : zS T A s.heap s [[zO1 h po a1_1 v0 la v1 v2 v3 v4 v5 v6 v7, zAr T 0 a1_1 7 fw], z] _ _ := G.re rfl
    exact z_back hQ9 (z_vret C hr hlocks G (Nat.le_of_ble_eq_true rfl) (Nat.le_of_ble_eq_true rfl) dX1_move_22 ⟨([zO1 h po a1_1 v0 la v1 v2 v3 v4 v5 v6 v7, zAr T 0 a1_1 7 fw]), fw, v0, v1, v2, v3, v4, v5, v6, v7, rfl, hw_56⟩)
set_option maxHeartbeats 4000000 in
set_option maxRecDepth 100000 in
/-- c_Course_add -/
theorem c_Course_add (l : Launch) (T : zTy) (h : Nat) (po : Nat) (la : Nat) (fw : Nat → Int32) (v0 : Int32) (v1 : Int32) (v2 : Int32) (v3 : Int32) (v4 : Int32) (v5 : Int32) (v6 : Int32) (v7 : Int32) (wc : va_W) (cr : Int32) (inn : Int32) (k1 : Nat → Int32) (k2 : Nat → Int32) (k3 : Nat → Int32) (k4 : Nat → Int32) (z : va_W) (x : Int32) (hc : bCourse T h po la fw v0 v1 v2 v3 v4 v5 v6 v7 wc) (hz : bLand T la cr inn k1 k2 k3 k4 z) : zMi l T yX1_add cX1_add 2 (some .boolean) 2 0 0 [.ref h, .int x] [wc, z] (fun (r : Int32) bs => ∃ (wc2 : va_W) (gw : Nat → Int32) (u0 : Int32) (u1 : Int32) (u2 : Int32) (u3 : Int32) (u4 : Int32) (u5 : Int32) (u6 : Int32) (u7 : Int32), bs = [wc2, z] ∧ bCourse T h po la gw u0 u1 u2 u3 u4 u5 u6 u7 wc2 ∧ (r = 0 ∨ r = 1)) := by
  refine zMi_of (own := RX1) (by decide) rfl (Nat.le_of_ble_eq_true rfl) ?_
  intro p e s m args below meth c A ls C hr hlocks hnm hAe G hl
  refine zHide (fun Q9 hQ9 => ?_)
  have hx := C.1
  have hb := C.2.1
  have hl : lv_has ls 2 [(0, .ref h), (1, .int x)] := hl
  refine lv_aload_n hx hb dX1_add_0 rfl (lv_at hl 0 rfl) ?_
  refine zEx1 hc ?_
  intro a1_1 hbs9
  clear hc
  subst hbs9
  have G : zS T A s.heap s [[zO1 h po a1_1 v0 la v1 v2 v3 v4 v5 v6 v7], [zAr T 0 a1_1 7 fw], z] _ _ := G.re rfl
  refine z_get C G clX1 0 rfl 3 (by decide) m_fl_RX1_25 rfl dX1_add_1 ?_
  refine lv_iload_n hx hb dX1_add_4 rfl (lv_at hl 1 rfl) ?_
  refine z_Vi (bc := [z]) (br := [[zO1 h po a1_1 v0 la v1 v2 v3 v4 v5 v6 v7], [zAr T 0 a1_1 7 fw]]) (As := [.int x]) (rest := []) C G (c_has l T la cr inn k1 k2 k3 k4 z x hz) (kV_RX1_112 C.2.2.2.2 (Nat.le_of_ble_eq_true rfl) (Nat.le_of_ble_eq_true rfl)) [2] [2] rfl rfl (ci := 4) (qc := (RX4, TX4, 6)) rfl rfl (List.mem_flatten.mpr ⟨_, List.mem_of_getElem? (i := 0) rfl, (bLand_mem hz).choose_spec⟩) rfl rfl hl.1 dX1_add_5 (Nat.le_of_ble_eq_true rfl) (Nat.le_of_ble_eq_true rfl) (fun r_3 b1 H locs hw G => ?_)
  refine zAn2 hw ?_
  intro hbs9 hc_2
  clear hw
  subst hbs9
  have G : zS T A s.heap s [[zO1 h po a1_1 v0 la v1 v2 v3 v4 v5 v6 v7], [zAr T 0 a1_1 7 fw], z] _ _ := G
  rcases hc_2 with ⟨rfl, h_4, h_5, h_6⟩ | ⟨rfl, h_7⟩
  · have h_4 : 0 ≤ x.toInt := h_4
    have h_5 : x.toInt < cr.toInt := h_5
    have h_6 : x.toInt < 7 := h_6
    refine lv_if_eq (tgt := 22) hx hb dX1_add_8 (by decide) (fun q => absurd q (by decide)) (fun _ => ?_)
    refine lv_aload_n hx hb dX1_add_11 rfl (lv_at hl 0 rfl) ?_
    refine z_get C G clX1 0 rfl 1 (by decide) m_fl_RX1_18 rfl dX1_add_12 ?_
    refine lv_iload_n hx hb dX1_add_15 rfl (lv_at hl 1 rfl) ?_
    refine z_ild C G 1 rfl (vp_in_iff.mpr ⟨by omega, by omega⟩) dX1_add_16 ?_
    refine lv_topi (fun v_8 ev_8 => ?_)
    subst ev_8
    refine lv_bipush (v := 99) hx hb dX1_add_17 (by decide) ?_
    refine lv_icmp_lt (tgt := 24) hx hb dX1_add_19 (by decide) (fun c_9 => ?_) (fun c_9 => ?_)
    · have c_9n : (fw x.toNatClampNeg).toInt < (99 : Int) := (fa_lt _ _).mp c_9
      refine lv_aload_n hx hb dX1_add_24 rfl (lv_at hl 0 rfl) ?_
      refine z_get C G clX1 0 rfl 1 (by decide) m_fl_RX1_18 rfl dX1_add_25 ?_
      refine lv_iload_n hx hb dX1_add_28 rfl (lv_at hl 1 rfl) ?_
      refine lv_dup2_11 hx hb dX1_add_29 rfl rfl ?_
      refine z_ild C G 1 rfl (vp_in_iff.mpr ⟨by omega, by omega⟩) dX1_add_30 ?_
      refine lv_topi (fun v_10 ev_10 => ?_)
      subst ev_10
      refine lv_iconst (v := 1) hx hb dX1_add_31 (by decide) ?_
      refine lv_iadd hx hb dX1_add_32 ?_
      refine z_ist C G 1 rfl (vp_in_iff.mpr ⟨by omega, by omega⟩) dX1_add_33 (fun H locs G => ?_)
      have G : zS T A s.heap s [[zO1 h po a1_1 v0 la v1 v2 v3 v4 v5 v6 v7], [zAr T 0 a1_1 7 (upd fw x.toNatClampNeg ((fw x.toNatClampNeg) + 1))], z] _ _ := G
      refine lv_iconst (v := 1) hx hb dX1_add_34 (by decide) ?_
      have hw_11 : bCourse T h po la (upd fw x.toNatClampNeg ((fw x.toNatClampNeg) + 1)) v0 v1 v2 v3 v4 v5 v6 v7 [zO1 h po a1_1 v0 la v1 v2 v3 v4 v5 v6 v7, zAr T 0 a1_1 7 (upd fw x.toNatClampNeg ((fw x.toNatClampNeg) + 1))] := ⟨a1_1, rfl⟩
      have G : zS T A s.heap s [[zO1 h po a1_1 v0 la v1 v2 v3 v4 v5 v6 v7, zAr T 0 a1_1 7 (upd fw x.toNatClampNeg ((fw x.toNatClampNeg) + 1))], z] _ _ := G.re rfl
      exact z_back hQ9 (z_zret C hr hlocks G (Nat.le_of_ble_eq_true rfl) (Nat.le_of_ble_eq_true rfl) dX1_add_35 rfl ⟨([zO1 h po a1_1 v0 la v1 v2 v3 v4 v5 v6 v7, zAr T 0 a1_1 7 (upd fw x.toNatClampNeg ((fw x.toNatClampNeg) + 1))]), (upd fw x.toNatClampNeg ((fw x.toNatClampNeg) + 1)), v0, v1, v2, v3, v4, v5, v6, v7, rfl, hw_11, (by first | exact Or.inl rfl | exact Or.inr rfl)⟩)
    · have c_9n : ¬ (fw x.toNatClampNeg).toInt < (99 : Int) := fun q => c_9 ((fa_lt _ _).mpr q)
      refine lv_iconst (v := 0) hx hb dX1_add_22 (by decide) ?_
      have hw_12 : bCourse T h po la fw v0 v1 v2 v3 v4 v5 v6 v7 [zO1 h po a1_1 v0 la v1 v2 v3 v4 v5 v6 v7, zAr T 0 a1_1 7 fw] := ⟨a1_1, rfl⟩
      have G : zS T A s.heap s [[zO1 h po a1_1 v0 la v1 v2 v3 v4 v5 v6 v7, zAr T 0 a1_1 7 fw], z] _ _ := G.re rfl
      exact z_back hQ9 (z_zret C hr hlocks G (Nat.le_of_ble_eq_true rfl) (Nat.le_of_ble_eq_true rfl) dX1_add_23 rfl ⟨([zO1 h po a1_1 v0 la v1 v2 v3 v4 v5 v6 v7, zAr T 0 a1_1 7 fw]), fw, v0, v1, v2, v3, v4, v5, v6, v7, rfl, hw_12, (by first | exact Or.inl rfl | exact Or.inr rfl)⟩)
  · have h_7 : (x.toInt < 0 ∨ cr.toInt ≤ x.toInt ∨ 7 ≤ x.toInt) := h_7
    refine lv_if_eq (tgt := 22) hx hb dX1_add_8 (by decide) (fun _ => ?_) (fun q => absurd (by decide) q)
    refine lv_iconst (v := 0) hx hb dX1_add_22 (by decide) ?_
    have hw_13 : bCourse T h po la fw v0 v1 v2 v3 v4 v5 v6 v7 [zO1 h po a1_1 v0 la v1 v2 v3 v4 v5 v6 v7, zAr T 0 a1_1 7 fw] := ⟨a1_1, rfl⟩
    have G : zS T A s.heap s [[zO1 h po a1_1 v0 la v1 v2 v3 v4 v5 v6 v7, zAr T 0 a1_1 7 fw], z] _ _ := G.re rfl
    exact z_back hQ9 (z_zret C hr hlocks G (Nat.le_of_ble_eq_true rfl) (Nat.le_of_ble_eq_true rfl) dX1_add_23 rfl ⟨([zO1 h po a1_1 v0 la v1 v2 v3 v4 v5 v6 v7, zAr T 0 a1_1 7 fw]), fw, v0, v1, v2, v3, v4, v5, v6, v7, rfl, hw_13, (by first | exact Or.inl rfl | exact Or.inr rfl)⟩)
set_option maxHeartbeats 4000000 in
set_option maxRecDepth 100000 in
/-- c_go -/
theorem c_go (l : Launch) (T : zTy) (h : Nat) (po : Nat) (la : Nat) (fw : Nat → Int32) (v0 : Int32) (v1 : Int32) (v2 : Int32) (v3 : Int32) (v4 : Int32) (v5 : Int32) (v6 : Int32) (v7 : Int32) (wc : va_W) (f1 : Nat → Int32) (f2 : Nat → Int32) (f3 : Nat → Int32) (st : Int32) (wh : Int32) (wp : va_W) (cr : Int32) (inn : Int32) (k1 : Nat → Int32) (k2 : Nat → Int32) (k3 : Nat → Int32) (k4 : Nat → Int32) (z : va_W) (x : Int32) (hc : bCourse T h po la fw v0 v1 v2 v3 v4 v5 v6 v7 wc) (hp : bPosts T po la f1 f2 f3 st wh wp) (hz : bLand T la cr inn k1 k2 k3 k4 z) (hP : zP3 f1 f3) : zMi l T yX1_go cX1_go 3 (some .boolean) 4 0 0 [.ref h, .int x] [wc, wp, z] (fun (r : Int32) bs => ∃ (wc2 : va_W) (gw : Nat → Int32) (u0 : Int32) (u1 : Int32) (u2 : Int32) (u3 : Int32) (u4 : Int32) (u5 : Int32) (u6 : Int32) (u7 : Int32) (wp2 : va_W) (g1 : Nat → Int32) (g2 : Nat → Int32) (sa : Int32) (wa : Int32), bs = [wc2, wp2, z] ∧ bCourse T h po la gw u0 u1 u2 u3 u4 u5 u6 u7 wc2 ∧ bPosts T po la g1 g2 f3 sa wa wp2 ∧ zP3 g1 f3 ∧ (r = 0 ∨ r = 1)) := by
  refine zMi_of (own := RX1) (by decide) rfl (Nat.le_of_ble_eq_true rfl) ?_
  intro p e s m args below meth c A ls C hr hlocks hnm hAe G hl
  refine zHide (fun Q9 hQ9 => ?_)
  have hx := C.1
  have hb := C.2.1
  have hl : lv_has ls 3 [(0, .ref h), (1, .int x)] := hl
  refine lv_aload_n hx hb dX1_go_0 rfl (lv_at hl 0 rfl) ?_
  refine zEx1 hc ?_
  intro a1_1 hbs9
  clear hc
  subst hbs9
  have G : zS T A s.heap s [[zO1 h po a1_1 v0 la v1 v2 v3 v4 v5 v6 v7], [zAr T 0 a1_1 7 fw], wp, z] _ _ := G.re rfl
  refine z_get C G clX1 0 rfl 3 (by decide) m_fl_RX1_25 rfl dX1_go_1 ?_
  refine lv_iload_n hx hb dX1_go_4 rfl (lv_at hl 1 rfl) ?_
  refine z_Vi (bc := [z]) (br := [[zO1 h po a1_1 v0 la v1 v2 v3 v4 v5 v6 v7], [zAr T 0 a1_1 7 fw], wp]) (As := [.int x]) (rest := []) C G (c_has l T la cr inn k1 k2 k3 k4 z x hz) (kV_RX1_112 C.2.2.2.2 (Nat.le_of_ble_eq_true rfl) (Nat.le_of_ble_eq_true rfl)) [3] [3] rfl rfl (ci := 4) (qc := (RX4, TX4, 6)) rfl rfl (List.mem_flatten.mpr ⟨_, List.mem_of_getElem? (i := 0) rfl, (bLand_mem hz).choose_spec⟩) rfl rfl hl.1 dX1_go_5 (Nat.le_of_ble_eq_true rfl) (Nat.le_of_ble_eq_true rfl) (fun r_3 b1 H locs hw G => ?_)
  refine zAn2 hw ?_
  intro hbs9 hc_2
  clear hw
  subst hbs9
  have G : zS T A s.heap s [[zO1 h po a1_1 v0 la v1 v2 v3 v4 v5 v6 v7], [zAr T 0 a1_1 7 fw], wp, z] _ _ := G
  rcases hc_2 with ⟨rfl, h_4, h_5, h_6⟩ | ⟨rfl, h_7⟩
  · have h_4 : 0 ≤ x.toInt := h_4
    have h_5 : x.toInt < cr.toInt := h_5
    have h_6 : x.toInt < 7 := h_6
    refine lv_if_eq (tgt := 21) hx hb dX1_go_8 (by decide) (fun q => absurd q (by decide)) (fun _ => ?_)
    refine lv_aload_n hx hb dX1_go_11 rfl (lv_at hl 0 rfl) ?_
    refine z_get C G clX1 0 rfl 1 (by decide) m_fl_RX1_18 rfl dX1_go_12 ?_
    refine lv_iload_n hx hb dX1_go_15 rfl (lv_at hl 1 rfl) ?_
    refine z_ild C G 1 rfl (vp_in_iff.mpr ⟨by omega, by omega⟩) dX1_go_16 ?_
    refine lv_topi (fun v_8 ev_8 => ?_)
    subst ev_8
    refine lv_iconst (v := 1) hx hb dX1_go_17 (by decide) ?_
    refine lv_icmp_ge (tgt := 23) hx hb dX1_go_18 (by decide) (fun c_9 => ?_) (fun c_9 => ?_)
    · have c_9n : (1 : Int) ≤ (fw x.toNatClampNeg).toInt := (fa_le _ _).mp c_9
      refine lv_aload_n hx hb dX1_go_23 rfl (lv_at hl 0 rfl) ?_
      refine z_get C G clX1 0 rfl 0 (by decide) m_fl_RX1_12 rfl dX1_go_24 ?_
      refine lv_iload_n hx hb dX1_go_27 rfl (lv_at hl 1 rfl) ?_
      refine z_Vi (bc := [wp, z]) (br := [[zO1 h po a1_1 v0 la v1 v2 v3 v4 v5 v6 v7], [zAr T 0 a1_1 7 fw]]) (As := [.int x]) (rest := []) C G (c_step l T po la f1 f2 f3 st wh wp cr inn k1 k2 k3 k4 z x hp hz hP) (kV_RX1_115 C.2.2.2.2 (Nat.le_of_ble_eq_true rfl) (Nat.le_of_ble_eq_true rfl)) [2, 3] [2, 0] rfl rfl (ci := 6) (qc := (RX6, TX6, 6)) rfl rfl (List.mem_flatten.mpr ⟨_, List.mem_of_getElem? (i := 0) rfl, (bPosts_mem hp).choose_spec⟩) rfl rfl hl.1 dX1_go_28 (Nat.le_of_ble_eq_true rfl) (Nat.le_of_ble_eq_true rfl) (fun r_15 b1 H locs hw G => ?_)
      refine zEx2 hw ?_
      intro w2_10 g1_11
      refine zCu4 ?_
      intro hbs9 h_12 h_13 h_14
      clear hw
      subst hbs9
      have G : zS T A s.heap s [[zO1 h po a1_1 v0 la v1 v2 v3 v4 v5 v6 v7], [zAr T 0 a1_1 7 fw], w2_10, z] _ _ := G
      subst h_12
      have hQ2 : zP3 g1_11 f3 := by rw [h_14]; exact zPost_I hP _
      refine lv_istore_n (lv' := [(2, .int (zStep f1 f2 f3 k2 x)), (0, .ref h), (1, .int x)]) hx hb dX1_go_31 rfl hl (by decide) rfl (fun ls hl => ?_)
      refine lv_iload_n hx hb dX1_go_32 rfl (lv_at hl 0 rfl) ?_
      refine lv_iconst (v := (-1)) hx hb dX1_go_33 (by decide) ?_
      refine lv_icmp_ne (tgt := 39) hx hb dX1_go_34 (by decide) (fun c_16 => ?_) (fun c_16 => ?_)
      · have c_16n : ¬ (zStep f1 f2 f3 k2 x).toInt = (-1 : Int) := fun q => c_16 ((fa_eq _ _).mpr q)
        refine lv_aload_n hx hb dX1_go_39 rfl (lv_at hl 1 rfl) ?_
        refine lv_dup hx hb dX1_go_40 rfl ?_
        refine z_get C G clX1 0 rfl 2 (by decide) m_fl_RX1_34 rfl dX1_go_41 ?_
        refine lv_iconst (v := 1) hx hb dX1_go_44 (by decide) ?_
        refine lv_iadd hx hb dX1_go_45 ?_
        refine z_put C G clX1 0 rfl 2 (by decide) m_fl_RX1_34 rfl rfl rfl (Nat.le_of_ble_eq_true rfl) dX1_go_46 (fun H locs G => ?_)
        have G : zS T A s.heap s [[zO1 h po a1_1 (v0 + 1) la v1 v2 v3 v4 v5 v6 v7], [zAr T 0 a1_1 7 fw], w2_10, z] _ _ := G
        refine lv_aload_n hx hb dX1_go_49 rfl (lv_at hl 1 rfl) ?_
        refine lv_iload_n hx hb dX1_go_50 rfl (lv_at hl 2 rfl) ?_
        refine lv_iload_n hx hb dX1_go_51 rfl (lv_at hl 0 rfl) ?_
        have hw_17 : bCourse T h po la fw (v0 + 1) v1 v2 v3 v4 v5 v6 v7 [zO1 h po a1_1 (v0 + 1) la v1 v2 v3 v4 v5 v6 v7, zAr T 0 a1_1 7 fw] := ⟨a1_1, rfl⟩
        have G : zS T A s.heap s [[zO1 h po a1_1 (v0 + 1) la v1 v2 v3 v4 v5 v6 v7, zAr T 0 a1_1 7 fw], w2_10, z] _ _ := G.re rfl
        refine z_Vv (bc := [[zO1 h po a1_1 (v0 + 1) la v1 v2 v3 v4 v5 v6 v7, zAr T 0 a1_1 7 fw], z]) (br := [w2_10]) (As := [.int x, .int (zStep f1 f2 f3 k2 x)]) (rest := []) C G (c_move l T h po la fw (v0 + 1) v1 v2 v3 v4 v5 v6 v7 ([zO1 h po a1_1 (v0 + 1) la v1 v2 v3 v4 v5 v6 v7, zAr T 0 a1_1 7 fw]) cr inn k1 k2 k3 k4 z x (zStep f1 f2 f3 k2 x) hw_17 hz) (kV_RX1_118 C.2.2.2.2 (Nat.le_of_ble_eq_true rfl) (Nat.le_of_ble_eq_true rfl)) [0, 2] [0, 1] rfl rfl (ci := 1) (qc := (RX1, TX1, 11)) rfl rfl (List.mem_flatten.mpr ⟨_, List.mem_of_getElem? (i := 0) rfl, (bCourse_mem hw_17).choose_spec⟩) rfl rfl hl.1 dX1_go_52 (Nat.le_of_ble_eq_true rfl) (Nat.le_of_ble_eq_true rfl) (fun b1 H locs hw G => ?_)
        refine zEx10 hw ?_
        intro wc2_18 gw_19 u0_20 u1_21 u2_22 u3_23 u4_24 u5_25 u6_26 u7_27
        refine zCu2 ?_
        intro hbs9 h_28
        clear hw
        subst hbs9
        have G : zS T A s.heap s [w2_10, wc2_18, z] _ _ := G
        refine lv_iconst (v := 1) hx hb dX1_go_55 (by decide) ?_
        have G := G.sub (bs' := [wc2_18, w2_10, z]) [1, 0, 2] rfl
        exact z_back hQ9 (z_zret C hr hlocks G (Nat.le_of_ble_eq_true rfl) (Nat.le_of_ble_eq_true rfl) dX1_go_56 rfl ⟨wc2_18, gw_19, u0_20, u1_21, u2_22, u3_23, u4_24, u5_25, u6_26, u7_27, w2_10, g1_11, f2, st, wh, rfl, h_28, h_13, hQ2, (by first | exact Or.inl rfl | exact Or.inr rfl)⟩)
      · have c_16n : (zStep f1 f2 f3 k2 x).toInt = (-1 : Int) := (fa_eq _ _).mp c_16
        refine lv_iconst (v := 0) hx hb dX1_go_37 (by decide) ?_
        have hw_30 : bCourse T h po la fw v0 v1 v2 v3 v4 v5 v6 v7 [zO1 h po a1_1 v0 la v1 v2 v3 v4 v5 v6 v7, zAr T 0 a1_1 7 fw] := ⟨a1_1, rfl⟩
        have G : zS T A s.heap s [[zO1 h po a1_1 v0 la v1 v2 v3 v4 v5 v6 v7, zAr T 0 a1_1 7 fw], w2_10, z] _ _ := G.re rfl
        exact z_back hQ9 (z_zret C hr hlocks G (Nat.le_of_ble_eq_true rfl) (Nat.le_of_ble_eq_true rfl) dX1_go_38 rfl ⟨([zO1 h po a1_1 v0 la v1 v2 v3 v4 v5 v6 v7, zAr T 0 a1_1 7 fw]), fw, v0, v1, v2, v3, v4, v5, v6, v7, w2_10, g1_11, f2, st, wh, rfl, hw_30, h_13, hQ2, (by first | exact Or.inl rfl | exact Or.inr rfl)⟩)
    · have c_9n : ¬ (1 : Int) ≤ (fw x.toNatClampNeg).toInt := fun q => c_9 ((fa_le _ _).mpr q)
      refine lv_iconst (v := 0) hx hb dX1_go_21 (by decide) ?_
      have hw_31 : bCourse T h po la fw v0 v1 v2 v3 v4 v5 v6 v7 [zO1 h po a1_1 v0 la v1 v2 v3 v4 v5 v6 v7, zAr T 0 a1_1 7 fw] := ⟨a1_1, rfl⟩
      have G : zS T A s.heap s [[zO1 h po a1_1 v0 la v1 v2 v3 v4 v5 v6 v7, zAr T 0 a1_1 7 fw], wp, z] _ _ := G.re rfl
      exact z_back hQ9 (z_zret C hr hlocks G (Nat.le_of_ble_eq_true rfl) (Nat.le_of_ble_eq_true rfl) dX1_go_22 rfl ⟨([zO1 h po a1_1 v0 la v1 v2 v3 v4 v5 v6 v7, zAr T 0 a1_1 7 fw]), fw, v0, v1, v2, v3, v4, v5, v6, v7, wp, f1, f2, st, wh, rfl, hw_31, hp, hP, (by first | exact Or.inl rfl | exact Or.inr rfl)⟩)
  · have h_7 : (x.toInt < 0 ∨ cr.toInt ≤ x.toInt ∨ 7 ≤ x.toInt) := h_7
    refine lv_if_eq (tgt := 21) hx hb dX1_go_8 (by decide) (fun _ => ?_) (fun q => absurd (by decide) q)
    refine lv_iconst (v := 0) hx hb dX1_go_21 (by decide) ?_
    have hw_32 : bCourse T h po la fw v0 v1 v2 v3 v4 v5 v6 v7 [zO1 h po a1_1 v0 la v1 v2 v3 v4 v5 v6 v7, zAr T 0 a1_1 7 fw] := ⟨a1_1, rfl⟩
    have G : zS T A s.heap s [[zO1 h po a1_1 v0 la v1 v2 v3 v4 v5 v6 v7, zAr T 0 a1_1 7 fw], wp, z] _ _ := G.re rfl
    exact z_back hQ9 (z_zret C hr hlocks G (Nat.le_of_ble_eq_true rfl) (Nat.le_of_ble_eq_true rfl) dX1_go_22 rfl ⟨([zO1 h po a1_1 v0 la v1 v2 v3 v4 v5 v6 v7, zAr T 0 a1_1 7 fw]), fw, v0, v1, v2, v3, v4, v5, v6, v7, wp, f1, f2, st, wh, rfl, hw_32, hp, hP, (by first | exact Or.inl rfl | exact Or.inr rfl)⟩)
set_option maxHeartbeats 4000000 in
set_option maxRecDepth 100000 in
/-- c_Course_run -/
theorem c_Course_run (l : Launch) (T : zTy) (h : Nat) (po : Nat) (la : Nat) (fw : Nat → Int32) (v0 : Int32) (v1 : Int32) (v2 : Int32) (v3 : Int32) (v4 : Int32) (v5 : Int32) (v6 : Int32) (v7 : Int32) (wc : va_W) (f1 : Nat → Int32) (f2 : Nat → Int32) (f3 : Nat → Int32) (st : Int32) (wh : Int32) (wp : va_W) (cr : Int32) (inn : Int32) (k1 : Nat → Int32) (k2 : Nat → Int32) (k3 : Nat → Int32) (k4 : Nat → Int32) (z : va_W) (x : Int32) (hc : bCourse T h po la fw v0 v1 v2 v3 v4 v5 v6 v7 wc) (hp : bPosts T po la f1 f2 f3 st wh wp) (hz : bLand T la cr inn k1 k2 k3 k4 z) (hP : zP3 f1 f3) : zMi l T yX1_run cX1_run 2 (some .boolean) 4 0 0 [.ref h, .int x] [wc, wp, z] (fun (r : Int32) bs => ∃ (wc2 : va_W) (gw : Nat → Int32) (u0 : Int32) (u1 : Int32) (u2 : Int32) (u3 : Int32) (u4 : Int32) (u5 : Int32) (u6 : Int32) (u7 : Int32) (wp2 : va_W) (g1 : Nat → Int32) (g2 : Nat → Int32) (sa : Int32) (wa : Int32), bs = [wc2, wp2, z] ∧ bCourse T h po la gw u0 u1 u2 u3 u4 u5 u6 u7 wc2 ∧ bPosts T po la g1 g2 f3 sa wa wp2 ∧ zP3 g1 f3 ∧ (r = 0 ∨ r = 1)) := by
  refine zMi_of (own := RX1) (by decide) rfl (Nat.le_of_ble_eq_true rfl) ?_
  intro p e s m args below meth c A ls C hr hlocks hnm hAe G hl
  refine zHide (fun Q9 hQ9 => ?_)
  have hx := C.1
  have hb := C.2.1
  have hl : lv_has ls 2 [(0, .ref h), (1, .int x)] := hl
  refine lv_aload_n hx hb dX1_run_0 rfl (lv_at hl 0 rfl) ?_
  refine zEx1 hc ?_
  intro a1_1 hbs9
  clear hc
  subst hbs9
  have G : zS T A s.heap s [[zO1 h po a1_1 v0 la v1 v2 v3 v4 v5 v6 v7], [zAr T 0 a1_1 7 fw], wp, z] _ _ := G.re rfl
  refine z_get C G clX1 0 rfl 3 (by decide) m_fl_RX1_25 rfl dX1_run_1 ?_
  refine lv_iload_n hx hb dX1_run_4 rfl (lv_at hl 1 rfl) ?_
  refine z_Vi (bc := [z]) (br := [[zO1 h po a1_1 v0 la v1 v2 v3 v4 v5 v6 v7], [zAr T 0 a1_1 7 fw], wp]) (As := [.int x]) (rest := []) C G (c_has l T la cr inn k1 k2 k3 k4 z x hz) (kV_RX1_112 C.2.2.2.2 (Nat.le_of_ble_eq_true rfl) (Nat.le_of_ble_eq_true rfl)) [3] [3] rfl rfl (ci := 4) (qc := (RX4, TX4, 6)) rfl rfl (List.mem_flatten.mpr ⟨_, List.mem_of_getElem? (i := 0) rfl, (bLand_mem hz).choose_spec⟩) rfl rfl hl.1 dX1_run_5 (Nat.le_of_ble_eq_true rfl) (Nat.le_of_ble_eq_true rfl) (fun r_3 b1 H locs hw G => ?_)
  refine zAn2 hw ?_
  intro hbs9 hc_2
  clear hw
  subst hbs9
  have G : zS T A s.heap s [[zO1 h po a1_1 v0 la v1 v2 v3 v4 v5 v6 v7], [zAr T 0 a1_1 7 fw], wp, z] _ _ := G
  rcases hc_2 with ⟨rfl, h_4, h_5, h_6⟩ | ⟨rfl, h_7⟩
  · have h_4 : 0 ≤ x.toInt := h_4
    have h_5 : x.toInt < cr.toInt := h_5
    have h_6 : x.toInt < 7 := h_6
    refine lv_if_eq (tgt := 21) hx hb dX1_run_8 (by decide) (fun q => absurd q (by decide)) (fun _ => ?_)
    refine lv_aload_n hx hb dX1_run_11 rfl (lv_at hl 0 rfl) ?_
    refine z_get C G clX1 0 rfl 1 (by decide) m_fl_RX1_18 rfl dX1_run_12 ?_
    refine lv_iload_n hx hb dX1_run_15 rfl (lv_at hl 1 rfl) ?_
    refine z_ild C G 1 rfl (vp_in_iff.mpr ⟨by omega, by omega⟩) dX1_run_16 ?_
    refine lv_topi (fun v_8 ev_8 => ?_)
    subst ev_8
    refine lv_iconst (v := 1) hx hb dX1_run_17 (by decide) ?_
    refine lv_icmp_ge (tgt := 23) hx hb dX1_run_18 (by decide) (fun c_9 => ?_) (fun c_9 => ?_)
    · have c_9n : (1 : Int) ≤ (fw x.toNatClampNeg).toInt := (fa_le _ _).mp c_9
      refine lv_aload_n hx hb dX1_run_23 rfl (lv_at hl 0 rfl) ?_
      refine z_get C G clX1 0 rfl 0 (by decide) m_fl_RX1_12 rfl dX1_run_24 ?_
      refine lv_iload_n hx hb dX1_run_27 rfl (lv_at hl 1 rfl) ?_
      refine z_Vv (bc := [wp, z]) (br := [[zO1 h po a1_1 v0 la v1 v2 v3 v4 v5 v6 v7], [zAr T 0 a1_1 7 fw]]) (As := [.int x]) (rest := []) C G (c_Posts_run l T po la f1 f2 f3 st wh wp cr inn k1 k2 k3 k4 z x hp hz hP) (kV_RX1_122 C.2.2.2.2 (Nat.le_of_ble_eq_true rfl) (Nat.le_of_ble_eq_true rfl)) [2, 3] [2, 0] rfl rfl (ci := 6) (qc := (RX6, TX6, 6)) rfl rfl (List.mem_flatten.mpr ⟨_, List.mem_of_getElem? (i := 0) rfl, (bPosts_mem hp).choose_spec⟩) rfl rfl hl.1 dX1_run_28 (Nat.le_of_ble_eq_true rfl) (Nat.le_of_ble_eq_true rfl) (fun b1 H locs hw G => ?_)
      refine zEx4 hw ?_
      intro w2_10 g1_11 s2_12 x2_13
      refine zCu5 ?_
      intro hbs9 h_14 h_15 h_16 h_17
      clear hw
      subst hbs9
      have G : zS T A s.heap s [[zO1 h po a1_1 v0 la v1 v2 v3 v4 v5 v6 v7], [zAr T 0 a1_1 7 fw], w2_10, z] _ _ := G
      have hQ2 : zP3 g1_11 f3 := by rw [h_15]; exact zRunN_I _ _ _ _ hP
      refine lv_aload_n hx hb dX1_run_31 rfl (lv_at hl 0 rfl) ?_
      refine lv_dup hx hb dX1_run_32 rfl ?_
      refine z_get C G clX1 0 rfl 2 (by decide) m_fl_RX1_34 rfl dX1_run_33 ?_
      refine lv_aload_n hx hb dX1_run_36 rfl (lv_at hl 0 rfl) ?_
      refine z_get C G clX1 0 rfl 0 (by decide) m_fl_RX1_12 rfl dX1_run_37 ?_
      refine zEx3 h_14 ?_
      intro a1_19 a2_20 a3_21 hbs9
      clear h_14
      subst hbs9
      have G : zS T A s.heap s [[zO1 h po a1_1 v0 la v1 v2 v3 v4 v5 v6 v7], [zAr T 0 a1_1 7 fw], [zO6 po la a1_19 a2_20 s2_12 x2_13 a3_21], [zAr T 0 a1_19 7 g1_11], [zAr T 0 a2_20 7 f2], [zAr T 0 a3_21 7 f3], z] _ _ := G.re rfl
      refine z_get C G clX6 2 rfl 3 (by decide) m_fl_RX1_125 rfl dX1_run_40 ?_
      refine lv_iadd hx hb dX1_run_43 ?_
      refine z_put C G clX1 0 rfl 2 (by decide) m_fl_RX1_34 rfl rfl rfl (Nat.le_of_ble_eq_true rfl) dX1_run_44 (fun H locs G => ?_)
      have G : zS T A s.heap s [[zO1 h po a1_1 (v0 + s2_12) la v1 v2 v3 v4 v5 v6 v7], [zAr T 0 a1_1 7 fw], [zO6 po la a1_19 a2_20 s2_12 x2_13 a3_21], [zAr T 0 a1_19 7 g1_11], [zAr T 0 a2_20 7 f2], [zAr T 0 a3_21 7 f3], z] _ _ := G
      refine lv_aload_n hx hb dX1_run_47 rfl (lv_at hl 0 rfl) ?_
      refine lv_aload_n hx hb dX1_run_48 rfl (lv_at hl 0 rfl) ?_
      refine z_get C G clX1 0 rfl 7 (by decide) m_fl_RX1_47 rfl dX1_run_49 ?_
      refine lv_aload_n hx hb dX1_run_52 rfl (lv_at hl 0 rfl) ?_
      refine z_get C G clX1 0 rfl 0 (by decide) m_fl_RX1_12 rfl dX1_run_53 ?_
      refine z_get C G clX6 2 rfl 3 (by decide) m_fl_RX1_125 rfl dX1_run_56 ?_
      refine va_mmax hx hb (C.2.2.1.trans hl.1.symm) C.2.2.2.1 (C.2.2.2.2 _ m_ml_RX1_126) (C.2.2.2.2 _ m_st_math_max) (C.2.2.2.2 _ m_ii_math) (C.2.2.2.2 _ m_co_math_max) (Nat.le_of_ble_eq_true rfl) (Nat.le_of_ble_eq_true rfl) (Nat.le_of_ble_eq_true rfl) (Nat.le_of_ble_eq_true rfl) dX1_run_59 ?_
      refine lv_topi (fun v_22 ev_22 => ?_)
      subst ev_22
      refine z_put C G clX1 0 rfl 7 (by decide) m_fl_RX1_47 rfl rfl rfl (Nat.le_of_ble_eq_true rfl) dX1_run_62 (fun H locs G => ?_)
      have G : zS T A s.heap s [[zO1 h po a1_1 (v0 + s2_12) la v1 v2 v3 (if v4 < s2_12 then s2_12 else v4) v5 v6 v7], [zAr T 0 a1_1 7 fw], [zO6 po la a1_19 a2_20 s2_12 x2_13 a3_21], [zAr T 0 a1_19 7 g1_11], [zAr T 0 a2_20 7 f2], [zAr T 0 a3_21 7 f3], z] _ _ := G
      refine lv_aload_n hx hb dX1_run_65 rfl (lv_at hl 0 rfl) ?_
      refine z_get C G clX1 0 rfl 3 (by decide) m_fl_RX1_25 rfl dX1_run_66 ?_
      refine lv_aload_n hx hb dX1_run_69 rfl (lv_at hl 0 rfl) ?_
      refine z_get C G clX1 0 rfl 0 (by decide) m_fl_RX1_12 rfl dX1_run_70 ?_
      refine z_get C G clX6 2 rfl 4 (by decide) m_fl_RX1_132 rfl dX1_run_73 ?_
      refine z_Vi (bc := [z]) (br := [[zO1 h po a1_1 (v0 + s2_12) la v1 v2 v3 (if v4 < s2_12 then s2_12 else v4) v5 v6 v7], [zAr T 0 a1_1 7 fw], [zO6 po la a1_19 a2_20 s2_12 x2_13 a3_21], [zAr T 0 a1_19 7 g1_11], [zAr T 0 a2_20 7 f2], [zAr T 0 a3_21 7 f3]]) (As := [.int x2_13]) (rest := []) C G (c_isInn l T la cr inn k1 k2 k3 k4 z x2_13 hz) (kV_RX1_135 C.2.2.2.2 (Nat.le_of_ble_eq_true rfl) (Nat.le_of_ble_eq_true rfl)) [6] [6] rfl rfl (ci := 4) (qc := (RX4, TX4, 6)) rfl rfl (List.mem_flatten.mpr ⟨_, List.mem_of_getElem? (i := 0) rfl, (bLand_mem hz).choose_spec⟩) rfl rfl hl.1 dX1_run_76 (Nat.le_of_ble_eq_true rfl) (Nat.le_of_ble_eq_true rfl) (fun r_24 b1 H locs hw G => ?_)
      refine zAn2 hw ?_
      intro hbs9 hc_23
      clear hw
      subst hbs9
      have G : zS T A s.heap s [[zO1 h po a1_1 (v0 + s2_12) la v1 v2 v3 (if v4 < s2_12 then s2_12 else v4) v5 v6 v7], [zAr T 0 a1_1 7 fw], [zO6 po la a1_19 a2_20 s2_12 x2_13 a3_21], [zAr T 0 a1_19 7 g1_11], [zAr T 0 a2_20 7 f2], [zAr T 0 a3_21 7 f3], z] _ _ := G
      rcases hc_23 with ⟨rfl, h_25, h_26, h_27, h_28⟩ | ⟨rfl, h_29⟩
      · have h_25 : 0 ≤ x2_13.toInt := h_25
        have h_26 : x2_13.toInt < cr.toInt := h_26
        have h_27 : x2_13.toInt < 7 := h_27
        have h_28 : ¬ zBit inn x2_13 = 0 := h_28
        refine lv_if_ne (tgt := 92) hx hb dX1_run_79 (by decide) (fun _ => ?_) (fun q => absurd q (by decide))
        refine lv_aload_n hx hb dX1_run_92 rfl (lv_at hl 0 rfl) ?_
        refine lv_iload_n hx hb dX1_run_93 rfl (lv_at hl 1 rfl) ?_
        refine lv_aload_n hx hb dX1_run_94 rfl (lv_at hl 0 rfl) ?_
        refine z_get C G clX1 0 rfl 0 (by decide) m_fl_RX1_12 rfl dX1_run_95 ?_
        refine z_get C G clX6 2 rfl 4 (by decide) m_fl_RX1_132 rfl dX1_run_98 ?_
        have hw_30 : bCourse T h po la fw (v0 + s2_12) v1 v2 v3 (if v4 < s2_12 then s2_12 else v4) v5 v6 v7 [zO1 h po a1_1 (v0 + s2_12) la v1 v2 v3 (if v4 < s2_12 then s2_12 else v4) v5 v6 v7, zAr T 0 a1_1 7 fw] := ⟨a1_1, rfl⟩
        have G : zS T A s.heap s [[zO1 h po a1_1 (v0 + s2_12) la v1 v2 v3 (if v4 < s2_12 then s2_12 else v4) v5 v6 v7, zAr T 0 a1_1 7 fw], [zO6 po la a1_19 a2_20 s2_12 x2_13 a3_21], [zAr T 0 a1_19 7 g1_11], [zAr T 0 a2_20 7 f2], [zAr T 0 a3_21 7 f3], z] _ _ := G.re rfl
        refine z_Vv (bc := [[zO1 h po a1_1 (v0 + s2_12) la v1 v2 v3 (if v4 < s2_12 then s2_12 else v4) v5 v6 v7, zAr T 0 a1_1 7 fw], z]) (br := [[zO6 po la a1_19 a2_20 s2_12 x2_13 a3_21], [zAr T 0 a1_19 7 g1_11], [zAr T 0 a2_20 7 f2], [zAr T 0 a3_21 7 f3]]) (As := [.int x, .int x2_13]) (rest := []) C G (c_move l T h po la fw (v0 + s2_12) v1 v2 v3 (if v4 < s2_12 then s2_12 else v4) v5 v6 v7 ([zO1 h po a1_1 (v0 + s2_12) la v1 v2 v3 (if v4 < s2_12 then s2_12 else v4) v5 v6 v7, zAr T 0 a1_1 7 fw]) cr inn k1 k2 k3 k4 z x x2_13 hw_30 hz) (kV_RX1_118 C.2.2.2.2 (Nat.le_of_ble_eq_true rfl) (Nat.le_of_ble_eq_true rfl)) [0, 5] [0, 4] rfl rfl (ci := 1) (qc := (RX1, TX1, 11)) rfl rfl (List.mem_flatten.mpr ⟨_, List.mem_of_getElem? (i := 0) rfl, (bCourse_mem hw_30).choose_spec⟩) rfl rfl hl.1 dX1_run_101 (Nat.le_of_ble_eq_true rfl) (Nat.le_of_ble_eq_true rfl) (fun b1 H locs hw G => ?_)
        refine zEx10 hw ?_
        intro wc2_31 gw_32 u0_33 u1_34 u2_35 u3_36 u4_37 u5_38 u6_39 u7_40
        refine zCu2 ?_
        intro hbs9 h_41
        clear hw
        subst hbs9
        have G : zS T A s.heap s [[zO6 po la a1_19 a2_20 s2_12 x2_13 a3_21], [zAr T 0 a1_19 7 g1_11], [zAr T 0 a2_20 7 f2], [zAr T 0 a3_21 7 f3], wc2_31, z] _ _ := G
        refine lv_iconst (v := 1) hx hb dX1_run_104 (by decide) ?_
        have hw_43 : bPosts T po la g1_11 f2 f3 s2_12 x2_13 [zO6 po la a1_19 a2_20 s2_12 x2_13 a3_21, zAr T 0 a1_19 7 g1_11, zAr T 0 a2_20 7 f2, zAr T 0 a3_21 7 f3] := ⟨a1_19, a2_20, a3_21, rfl⟩
        have G : zS T A s.heap s [[zO6 po la a1_19 a2_20 s2_12 x2_13 a3_21, zAr T 0 a1_19 7 g1_11, zAr T 0 a2_20 7 f2, zAr T 0 a3_21 7 f3], wc2_31, z] _ _ := G.re rfl
        have G := G.sub (bs' := [wc2_31, [zO6 po la a1_19 a2_20 s2_12 x2_13 a3_21, zAr T 0 a1_19 7 g1_11, zAr T 0 a2_20 7 f2, zAr T 0 a3_21 7 f3], z]) [1, 0, 2] rfl
        exact z_back hQ9 (z_zret C hr hlocks G (Nat.le_of_ble_eq_true rfl) (Nat.le_of_ble_eq_true rfl) dX1_run_105 rfl ⟨wc2_31, gw_32, u0_33, u1_34, u2_35, u3_36, u4_37, u5_38, u6_39, u7_40, ([zO6 po la a1_19 a2_20 s2_12 x2_13 a3_21, zAr T 0 a1_19 7 g1_11, zAr T 0 a2_20 7 f2, zAr T 0 a3_21 7 f3]), g1_11, f2, s2_12, x2_13, rfl, h_41, hw_43, hQ2, (by first | exact Or.inl rfl | exact Or.inr rfl)⟩)
      · have h_29 : (x2_13.toInt < 0 ∨ cr.toInt ≤ x2_13.toInt ∨ 7 ≤ x2_13.toInt ∨ zBit inn x2_13 = 0) := h_29
        refine lv_if_ne (tgt := 92) hx hb dX1_run_79 (by decide) (fun q => absurd (by decide) q) (fun _ => ?_)
        refine lv_aload_n hx hb dX1_run_82 rfl (lv_at hl 0 rfl) ?_
        refine lv_dup hx hb dX1_run_83 rfl ?_
        refine z_get C G clX1 0 rfl 4 (by decide) m_fl_RX1_38 rfl dX1_run_84 ?_
        refine lv_iconst (v := 1) hx hb dX1_run_87 (by decide) ?_
        refine lv_iadd hx hb dX1_run_88 ?_
        refine z_put C G clX1 0 rfl 4 (by decide) m_fl_RX1_38 rfl rfl rfl (Nat.le_of_ble_eq_true rfl) dX1_run_89 (fun H locs G => ?_)
        have G : zS T A s.heap s [[zO1 h po a1_1 (v0 + s2_12) la (v1 + 1) v2 v3 (if v4 < s2_12 then s2_12 else v4) v5 v6 v7], [zAr T 0 a1_1 7 fw], [zO6 po la a1_19 a2_20 s2_12 x2_13 a3_21], [zAr T 0 a1_19 7 g1_11], [zAr T 0 a2_20 7 f2], [zAr T 0 a3_21 7 f3], z] _ _ := G
        refine lv_aload_n hx hb dX1_run_92 rfl (lv_at hl 0 rfl) ?_
        refine lv_iload_n hx hb dX1_run_93 rfl (lv_at hl 1 rfl) ?_
        refine lv_aload_n hx hb dX1_run_94 rfl (lv_at hl 0 rfl) ?_
        refine z_get C G clX1 0 rfl 0 (by decide) m_fl_RX1_12 rfl dX1_run_95 ?_
        refine z_get C G clX6 2 rfl 4 (by decide) m_fl_RX1_132 rfl dX1_run_98 ?_
        have hw_44 : bCourse T h po la fw (v0 + s2_12) (v1 + 1) v2 v3 (if v4 < s2_12 then s2_12 else v4) v5 v6 v7 [zO1 h po a1_1 (v0 + s2_12) la (v1 + 1) v2 v3 (if v4 < s2_12 then s2_12 else v4) v5 v6 v7, zAr T 0 a1_1 7 fw] := ⟨a1_1, rfl⟩
        have G : zS T A s.heap s [[zO1 h po a1_1 (v0 + s2_12) la (v1 + 1) v2 v3 (if v4 < s2_12 then s2_12 else v4) v5 v6 v7, zAr T 0 a1_1 7 fw], [zO6 po la a1_19 a2_20 s2_12 x2_13 a3_21], [zAr T 0 a1_19 7 g1_11], [zAr T 0 a2_20 7 f2], [zAr T 0 a3_21 7 f3], z] _ _ := G.re rfl
        refine z_Vv (bc := [[zO1 h po a1_1 (v0 + s2_12) la (v1 + 1) v2 v3 (if v4 < s2_12 then s2_12 else v4) v5 v6 v7, zAr T 0 a1_1 7 fw], z]) (br := [[zO6 po la a1_19 a2_20 s2_12 x2_13 a3_21], [zAr T 0 a1_19 7 g1_11], [zAr T 0 a2_20 7 f2], [zAr T 0 a3_21 7 f3]]) (As := [.int x, .int x2_13]) (rest := []) C G (c_move l T h po la fw (v0 + s2_12) (v1 + 1) v2 v3 (if v4 < s2_12 then s2_12 else v4) v5 v6 v7 ([zO1 h po a1_1 (v0 + s2_12) la (v1 + 1) v2 v3 (if v4 < s2_12 then s2_12 else v4) v5 v6 v7, zAr T 0 a1_1 7 fw]) cr inn k1 k2 k3 k4 z x x2_13 hw_44 hz) (kV_RX1_118 C.2.2.2.2 (Nat.le_of_ble_eq_true rfl) (Nat.le_of_ble_eq_true rfl)) [0, 5] [0, 4] rfl rfl (ci := 1) (qc := (RX1, TX1, 11)) rfl rfl (List.mem_flatten.mpr ⟨_, List.mem_of_getElem? (i := 0) rfl, (bCourse_mem hw_44).choose_spec⟩) rfl rfl hl.1 dX1_run_101 (Nat.le_of_ble_eq_true rfl) (Nat.le_of_ble_eq_true rfl) (fun b1 H locs hw G => ?_)
        refine zEx10 hw ?_
        intro wc2_45 gw_46 u0_47 u1_48 u2_49 u3_50 u4_51 u5_52 u6_53 u7_54
        refine zCu2 ?_
        intro hbs9 h_55
        clear hw
        subst hbs9
        have G : zS T A s.heap s [[zO6 po la a1_19 a2_20 s2_12 x2_13 a3_21], [zAr T 0 a1_19 7 g1_11], [zAr T 0 a2_20 7 f2], [zAr T 0 a3_21 7 f3], wc2_45, z] _ _ := G
        refine lv_iconst (v := 1) hx hb dX1_run_104 (by decide) ?_
        have hw_57 : bPosts T po la g1_11 f2 f3 s2_12 x2_13 [zO6 po la a1_19 a2_20 s2_12 x2_13 a3_21, zAr T 0 a1_19 7 g1_11, zAr T 0 a2_20 7 f2, zAr T 0 a3_21 7 f3] := ⟨a1_19, a2_20, a3_21, rfl⟩
        have G : zS T A s.heap s [[zO6 po la a1_19 a2_20 s2_12 x2_13 a3_21, zAr T 0 a1_19 7 g1_11, zAr T 0 a2_20 7 f2, zAr T 0 a3_21 7 f3], wc2_45, z] _ _ := G.re rfl
        have G := G.sub (bs' := [wc2_45, [zO6 po la a1_19 a2_20 s2_12 x2_13 a3_21, zAr T 0 a1_19 7 g1_11, zAr T 0 a2_20 7 f2, zAr T 0 a3_21 7 f3], z]) [1, 0, 2] rfl
        exact z_back hQ9 (z_zret C hr hlocks G (Nat.le_of_ble_eq_true rfl) (Nat.le_of_ble_eq_true rfl) dX1_run_105 rfl ⟨wc2_45, gw_46, u0_47, u1_48, u2_49, u3_50, u4_51, u5_52, u6_53, u7_54, ([zO6 po la a1_19 a2_20 s2_12 x2_13 a3_21, zAr T 0 a1_19 7 g1_11, zAr T 0 a2_20 7 f2, zAr T 0 a3_21 7 f3]), g1_11, f2, s2_12, x2_13, rfl, h_55, hw_57, hQ2, (by first | exact Or.inl rfl | exact Or.inr rfl)⟩)
    · have c_9n : ¬ (1 : Int) ≤ (fw x.toNatClampNeg).toInt := fun q => c_9 ((fa_le _ _).mpr q)
      refine lv_iconst (v := 0) hx hb dX1_run_21 (by decide) ?_
      have hw_58 : bCourse T h po la fw v0 v1 v2 v3 v4 v5 v6 v7 [zO1 h po a1_1 v0 la v1 v2 v3 v4 v5 v6 v7, zAr T 0 a1_1 7 fw] := ⟨a1_1, rfl⟩
      have G : zS T A s.heap s [[zO1 h po a1_1 v0 la v1 v2 v3 v4 v5 v6 v7, zAr T 0 a1_1 7 fw], wp, z] _ _ := G.re rfl
      exact z_back hQ9 (z_zret C hr hlocks G (Nat.le_of_ble_eq_true rfl) (Nat.le_of_ble_eq_true rfl) dX1_run_22 rfl ⟨([zO1 h po a1_1 v0 la v1 v2 v3 v4 v5 v6 v7, zAr T 0 a1_1 7 fw]), fw, v0, v1, v2, v3, v4, v5, v6, v7, wp, f1, f2, st, wh, rfl, hw_58, hp, hP, (by first | exact Or.inl rfl | exact Or.inr rfl)⟩)
  · have h_7 : (x.toInt < 0 ∨ cr.toInt ≤ x.toInt ∨ 7 ≤ x.toInt) := h_7
    refine lv_if_eq (tgt := 21) hx hb dX1_run_8 (by decide) (fun _ => ?_) (fun q => absurd (by decide) q)
    refine lv_iconst (v := 0) hx hb dX1_run_21 (by decide) ?_
    have hw_59 : bCourse T h po la fw v0 v1 v2 v3 v4 v5 v6 v7 [zO1 h po a1_1 v0 la v1 v2 v3 v4 v5 v6 v7, zAr T 0 a1_1 7 fw] := ⟨a1_1, rfl⟩
    have G : zS T A s.heap s [[zO1 h po a1_1 v0 la v1 v2 v3 v4 v5 v6 v7, zAr T 0 a1_1 7 fw], wp, z] _ _ := G.re rfl
    exact z_back hQ9 (z_zret C hr hlocks G (Nat.le_of_ble_eq_true rfl) (Nat.le_of_ble_eq_true rfl) dX1_run_22 rfl ⟨([zO1 h po a1_1 v0 la v1 v2 v3 v4 v5 v6 v7, zAr T 0 a1_1 7 fw]), fw, v0, v1, v2, v3, v4, v5, v6, v7, wp, f1, f2, st, wh, rfl, hw_59, hp, hP, (by first | exact Or.inl rfl | exact Or.inr rfl)⟩)
set_option maxHeartbeats 4000000 in
set_option maxRecDepth 100000 in
/-- c_Course_shut -/
theorem c_Course_shut (l : Launch) (T : zTy) (h : Nat) (po : Nat) (la : Nat) (fw : Nat → Int32) (v0 : Int32) (v1 : Int32) (v2 : Int32) (v3 : Int32) (v4 : Int32) (v5 : Int32) (v6 : Int32) (v7 : Int32) (wc : va_W) (f1 : Nat → Int32) (f2 : Nat → Int32) (f3 : Nat → Int32) (st : Int32) (wh : Int32) (wp : va_W) (cr : Int32) (inn : Int32) (k1 : Nat → Int32) (k2 : Nat → Int32) (k3 : Nat → Int32) (k4 : Nat → Int32) (z : va_W) (x : Int32) (y : Int32) (hc : bCourse T h po la fw v0 v1 v2 v3 v4 v5 v6 v7 wc) (hp : bPosts T po la f1 f2 f3 st wh wp) (hz : bLand T la cr inn k1 k2 k3 k4 z) (hP : zP3 f1 f3) : zMi l T yX1_shut cX1_shut 4 (some .boolean) 3 0 0 [.ref h, .int x, .int y] [wc, wp, z] (fun (r : Int32) bs => ∃ (wc2 : va_W) (gw : Nat → Int32) (u0 : Int32) (u1 : Int32) (u2 : Int32) (u3 : Int32) (u4 : Int32) (u5 : Int32) (u6 : Int32) (u7 : Int32) (wp2 : va_W) (g1 : Nat → Int32) (g2 : Nat → Int32) (sa : Int32) (wa : Int32), bs = [wc2, wp2, z] ∧ bCourse T h po la gw u0 u1 u2 u3 u4 u5 u6 u7 wc2 ∧ bPosts T po la g1 g2 f3 sa wa wp2 ∧ zP3 g1 f3 ∧ (r = 0 ∨ r = 1)) := by
  refine zMi_of (own := RX1) (by decide) rfl (Nat.le_of_ble_eq_true rfl) ?_
  intro p e s m args below meth c A ls C hr hlocks hnm hAe G hl
  refine zHide (fun Q9 hQ9 => ?_)
  have hx := C.1
  have hb := C.2.1
  have hl : lv_has ls 4 [(0, .ref h), (1, .int x), (2, .int y)] := hl
  refine lv_aload_n hx hb dX1_shut_0 rfl (lv_at hl 0 rfl) ?_
  refine zEx1 hc ?_
  intro a1_1 hbs9
  clear hc
  subst hbs9
  have G : zS T A s.heap s [[zO1 h po a1_1 v0 la v1 v2 v3 v4 v5 v6 v7], [zAr T 0 a1_1 7 fw], wp, z] _ _ := G.re rfl
  refine z_get C G clX1 0 rfl 3 (by decide) m_fl_RX1_25 rfl dX1_shut_1 ?_
  refine lv_iload_n hx hb dX1_shut_4 rfl (lv_at hl 1 rfl) ?_
  refine lv_iload_n hx hb dX1_shut_5 rfl (lv_at hl 2 rfl) ?_
  refine z_Vi (bc := [z]) (br := [[zO1 h po a1_1 v0 la v1 v2 v3 v4 v5 v6 v7], [zAr T 0 a1_1 7 fw], wp]) (As := [.int x, .int y]) (rest := []) C G (c_hasRoad l T la cr inn k1 k2 k3 k4 z x y hz) (kV_RX1_138 C.2.2.2.2 (Nat.le_of_ble_eq_true rfl) (Nat.le_of_ble_eq_true rfl)) [3] [3] rfl rfl (ci := 4) (qc := (RX4, TX4, 6)) rfl rfl (List.mem_flatten.mpr ⟨_, List.mem_of_getElem? (i := 0) rfl, (bLand_mem hz).choose_spec⟩) rfl rfl hl.1 dX1_shut_6 (Nat.le_of_ble_eq_true rfl) (Nat.le_of_ble_eq_true rfl) (fun r_3 b1 H locs hw G => ?_)
  refine zAn2 hw ?_
  intro hbs9 hc_2
  clear hw
  subst hbs9
  have G : zS T A s.heap s [[zO1 h po a1_1 v0 la v1 v2 v3 v4 v5 v6 v7], [zAr T 0 a1_1 7 fw], wp, z] _ _ := G
  rcases hc_2 with ⟨rfl, h_4, h_5, h_6, h_7, h_8, h_9⟩ | ⟨rfl, h_10⟩
  · have h_4 : 0 ≤ x.toInt := h_4
    have h_5 : x.toInt < cr.toInt := h_5
    have h_6 : x.toInt < 7 := h_6
    have h_7 : 0 ≤ y.toInt := h_7
    have h_8 : y.toInt < (k1 x.toNatClampNeg).toInt := h_8
    have h_9 : y.toInt < 4 := h_9
    refine lv_if_eq (tgt := 28) hx hb dX1_shut_9 (by decide) (fun q => absurd q (by decide)) (fun _ => ?_)
    refine lv_aload_n hx hb dX1_shut_12 rfl (lv_at hl 0 rfl) ?_
    refine z_get C G clX1 0 rfl 0 (by decide) m_fl_RX1_12 rfl dX1_shut_13 ?_
    refine lv_iload_n hx hb dX1_shut_16 rfl (lv_at hl 1 rfl) ?_
    refine lv_iload_n hx hb dX1_shut_17 rfl (lv_at hl 2 rfl) ?_
    refine z_Vi (bc := [wp, z]) (br := [[zO1 h po a1_1 v0 la v1 v2 v3 v4 v5 v6 v7], [zAr T 0 a1_1 7 fw]]) (As := [.int x, .int y]) (rest := []) C G (c_isShut l T po la f1 f2 f3 st wh wp cr inn k1 k2 k3 k4 z x y hp hz) (kV_RX1_141 C.2.2.2.2 (Nat.le_of_ble_eq_true rfl) (Nat.le_of_ble_eq_true rfl)) [2, 3] [2, 0] rfl rfl (ci := 6) (qc := (RX6, TX6, 6)) rfl rfl (List.mem_flatten.mpr ⟨_, List.mem_of_getElem? (i := 0) rfl, (bPosts_mem hp).choose_spec⟩) rfl rfl hl.1 dX1_shut_18 (Nat.le_of_ble_eq_true rfl) (Nat.le_of_ble_eq_true rfl) (fun r_12 b1 H locs hw G => ?_)
    refine zAn2 hw ?_
    intro hbs9 hc_11
    clear hw
    subst hbs9
    have G : zS T A s.heap s [[zO1 h po a1_1 v0 la v1 v2 v3 v4 v5 v6 v7], [zAr T 0 a1_1 7 fw], wp, z] _ _ := G
    rcases hc_11 with ⟨rfl, h_13, h_14, h_15, h_16, h_17, h_18, h_19⟩ | ⟨rfl, h_20⟩
    · have h_13 : 0 ≤ x.toInt := h_13
      have h_14 : x.toInt < cr.toInt := h_14
      have h_15 : x.toInt < 7 := h_15
      have h_16 : 0 ≤ y.toInt := h_16
      have h_17 : y.toInt < (k1 x.toNatClampNeg).toInt := h_17
      have h_18 : y.toInt < 4 := h_18
      have h_19 : ¬ zBit (f2 x.toNatClampNeg) y = 0 := h_19
      refine lv_if_ne (tgt := 28) hx hb dX1_shut_21 (by decide) (fun _ => ?_) (fun q => absurd q (by decide))
      refine lv_iconst (v := 0) hx hb dX1_shut_28 (by decide) ?_
      refine lv_istore_n (lv' := [(3, .int 0), (0, .ref h), (1, .int x), (2, .int y)]) hx hb dX1_shut_29 rfl hl (by decide) rfl (fun ls hl => ?_)
      refine lv_iload_n hx hb dX1_shut_30 rfl (lv_at hl 0 rfl) ?_
      refine lv_if_eq (tgt := 43) hx hb dX1_shut_31 (by decide) (fun _ => ?_) (fun q => absurd (by decide) q)
      refine lv_iload_n hx hb dX1_shut_43 rfl (lv_at hl 0 rfl) ?_
      have hw_21 : bCourse T h po la fw v0 v1 v2 v3 v4 v5 v6 v7 [zO1 h po a1_1 v0 la v1 v2 v3 v4 v5 v6 v7, zAr T 0 a1_1 7 fw] := ⟨a1_1, rfl⟩
      have G : zS T A s.heap s [[zO1 h po a1_1 v0 la v1 v2 v3 v4 v5 v6 v7, zAr T 0 a1_1 7 fw], wp, z] _ _ := G.re rfl
      exact z_back hQ9 (z_zret C hr hlocks G (Nat.le_of_ble_eq_true rfl) (Nat.le_of_ble_eq_true rfl) dX1_shut_44 rfl ⟨([zO1 h po a1_1 v0 la v1 v2 v3 v4 v5 v6 v7, zAr T 0 a1_1 7 fw]), fw, v0, v1, v2, v3, v4, v5, v6, v7, wp, f1, f2, st, wh, rfl, hw_21, hp, hP, (by first | exact Or.inl rfl | exact Or.inr rfl)⟩)
    · have h_20 : (x.toInt < 0 ∨ cr.toInt ≤ x.toInt ∨ 7 ≤ x.toInt ∨ y.toInt < 0 ∨ (k1 x.toNatClampNeg).toInt ≤ y.toInt ∨ 4 ≤ y.toInt ∨ zBit (f2 x.toNatClampNeg) y = 0) := h_20
      refine lv_if_ne (tgt := 28) hx hb dX1_shut_21 (by decide) (fun q => absurd (by decide) q) (fun _ => ?_)
      refine lv_iconst (v := 1) hx hb dX1_shut_24 (by decide) ?_
      refine lv_goto (tgt := 29) hx hb dX1_shut_25 (by decide) ?_
      refine lv_istore_n (lv' := [(3, .int 1), (0, .ref h), (1, .int x), (2, .int y)]) hx hb dX1_shut_29 rfl hl (by decide) rfl (fun ls hl => ?_)
      refine lv_iload_n hx hb dX1_shut_30 rfl (lv_at hl 0 rfl) ?_
      refine lv_if_eq (tgt := 43) hx hb dX1_shut_31 (by decide) (fun q => absurd q (by decide)) (fun _ => ?_)
      refine lv_aload_n hx hb dX1_shut_34 rfl (lv_at hl 1 rfl) ?_
      refine z_get C G clX1 0 rfl 0 (by decide) m_fl_RX1_12 rfl dX1_shut_35 ?_
      refine lv_iload_n hx hb dX1_shut_38 rfl (lv_at hl 2 rfl) ?_
      refine lv_iload_n hx hb dX1_shut_39 rfl (lv_at hl 3 rfl) ?_
      refine z_Vv (bc := [wp, z]) (br := [[zO1 h po a1_1 v0 la v1 v2 v3 v4 v5 v6 v7], [zAr T 0 a1_1 7 fw]]) (As := [.int x, .int y]) (rest := []) C G (c_shutRoad l T po la f1 f2 f3 st wh wp cr inn k1 k2 k3 k4 z x y hp hz) (kV_RX1_144 C.2.2.2.2 (Nat.le_of_ble_eq_true rfl) (Nat.le_of_ble_eq_true rfl)) [2, 3] [2, 0] rfl rfl (ci := 6) (qc := (RX6, TX6, 6)) rfl rfl (List.mem_flatten.mpr ⟨_, List.mem_of_getElem? (i := 0) rfl, (bPosts_mem hp).choose_spec⟩) rfl rfl hl.1 dX1_shut_40 (Nat.le_of_ble_eq_true rfl) (Nat.le_of_ble_eq_true rfl) (fun b1 H locs hw G => ?_)
      refine zEx2 hw ?_
      intro w2_22 g2_23
      refine zCu3 ?_
      intro hbs9 h_24 h_25
      clear hw
      subst hbs9
      have G : zS T A s.heap s [[zO1 h po a1_1 v0 la v1 v2 v3 v4 v5 v6 v7], [zAr T 0 a1_1 7 fw], w2_22, z] _ _ := G
      refine lv_iload_n hx hb dX1_shut_43 rfl (lv_at hl 0 rfl) ?_
      have hw_27 : bCourse T h po la fw v0 v1 v2 v3 v4 v5 v6 v7 [zO1 h po a1_1 v0 la v1 v2 v3 v4 v5 v6 v7, zAr T 0 a1_1 7 fw] := ⟨a1_1, rfl⟩
      have G : zS T A s.heap s [[zO1 h po a1_1 v0 la v1 v2 v3 v4 v5 v6 v7, zAr T 0 a1_1 7 fw], w2_22, z] _ _ := G.re rfl
      exact z_back hQ9 (z_zret C hr hlocks G (Nat.le_of_ble_eq_true rfl) (Nat.le_of_ble_eq_true rfl) dX1_shut_44 rfl ⟨([zO1 h po a1_1 v0 la v1 v2 v3 v4 v5 v6 v7, zAr T 0 a1_1 7 fw]), fw, v0, v1, v2, v3, v4, v5, v6, v7, w2_22, f1, g2_23, st, wh, rfl, hw_27, h_24, hP, (by first | exact Or.inl rfl | exact Or.inr rfl)⟩)
  · have h_10 : (x.toInt < 0 ∨ cr.toInt ≤ x.toInt ∨ 7 ≤ x.toInt ∨ y.toInt < 0 ∨ (k1 x.toNatClampNeg).toInt ≤ y.toInt ∨ 4 ≤ y.toInt) := h_10
    refine lv_if_eq (tgt := 28) hx hb dX1_shut_9 (by decide) (fun _ => ?_) (fun q => absurd (by decide) q)
    refine lv_iconst (v := 0) hx hb dX1_shut_28 (by decide) ?_
    refine lv_istore_n (lv' := [(3, .int 0), (0, .ref h), (1, .int x), (2, .int y)]) hx hb dX1_shut_29 rfl hl (by decide) rfl (fun ls hl => ?_)
    refine lv_iload_n hx hb dX1_shut_30 rfl (lv_at hl 0 rfl) ?_
    refine lv_if_eq (tgt := 43) hx hb dX1_shut_31 (by decide) (fun _ => ?_) (fun q => absurd (by decide) q)
    refine lv_iload_n hx hb dX1_shut_43 rfl (lv_at hl 0 rfl) ?_
    have hw_28 : bCourse T h po la fw v0 v1 v2 v3 v4 v5 v6 v7 [zO1 h po a1_1 v0 la v1 v2 v3 v4 v5 v6 v7, zAr T 0 a1_1 7 fw] := ⟨a1_1, rfl⟩
    have G : zS T A s.heap s [[zO1 h po a1_1 v0 la v1 v2 v3 v4 v5 v6 v7, zAr T 0 a1_1 7 fw], wp, z] _ _ := G.re rfl
    exact z_back hQ9 (z_zret C hr hlocks G (Nat.le_of_ble_eq_true rfl) (Nat.le_of_ble_eq_true rfl) dX1_shut_44 rfl ⟨([zO1 h po a1_1 v0 la v1 v2 v3 v4 v5 v6 v7, zAr T 0 a1_1 7 fw]), fw, v0, v1, v2, v3, v4, v5, v6, v7, wp, f1, f2, st, wh, rfl, hw_28, hp, hP, (by first | exact Or.inl rfl | exact Or.inr rfl)⟩)
set_option maxHeartbeats 4000000 in
set_option maxRecDepth 100000 in
/-- c_Course_open -/
theorem c_Course_open (l : Launch) (T : zTy) (h : Nat) (po : Nat) (la : Nat) (fw : Nat → Int32) (v0 : Int32) (v1 : Int32) (v2 : Int32) (v3 : Int32) (v4 : Int32) (v5 : Int32) (v6 : Int32) (v7 : Int32) (wc : va_W) (f1 : Nat → Int32) (f2 : Nat → Int32) (f3 : Nat → Int32) (st : Int32) (wh : Int32) (wp : va_W) (cr : Int32) (inn : Int32) (k1 : Nat → Int32) (k2 : Nat → Int32) (k3 : Nat → Int32) (k4 : Nat → Int32) (z : va_W) (x : Int32) (y : Int32) (hc : bCourse T h po la fw v0 v1 v2 v3 v4 v5 v6 v7 wc) (hp : bPosts T po la f1 f2 f3 st wh wp) (hz : bLand T la cr inn k1 k2 k3 k4 z) (hP : zP3 f1 f3) : zMi l T yX1_open cX1_open 4 (some .boolean) 3 0 0 [.ref h, .int x, .int y] [wc, wp, z] (fun (r : Int32) bs => ∃ (wc2 : va_W) (gw : Nat → Int32) (u0 : Int32) (u1 : Int32) (u2 : Int32) (u3 : Int32) (u4 : Int32) (u5 : Int32) (u6 : Int32) (u7 : Int32) (wp2 : va_W) (g1 : Nat → Int32) (g2 : Nat → Int32) (sa : Int32) (wa : Int32), bs = [wc2, wp2, z] ∧ bCourse T h po la gw u0 u1 u2 u3 u4 u5 u6 u7 wc2 ∧ bPosts T po la g1 g2 f3 sa wa wp2 ∧ zP3 g1 f3 ∧ (r = 0 ∨ r = 1)) := by
  refine zMi_of (own := RX1) (by decide) rfl (Nat.le_of_ble_eq_true rfl) ?_
  intro p e s m args below meth c A ls C hr hlocks hnm hAe G hl
  refine zHide (fun Q9 hQ9 => ?_)
  have hx := C.1
  have hb := C.2.1
  have hl : lv_has ls 4 [(0, .ref h), (1, .int x), (2, .int y)] := hl
  refine lv_aload_n hx hb dX1_open_0 rfl (lv_at hl 0 rfl) ?_
  refine zEx1 hc ?_
  intro a1_1 hbs9
  clear hc
  subst hbs9
  have G : zS T A s.heap s [[zO1 h po a1_1 v0 la v1 v2 v3 v4 v5 v6 v7], [zAr T 0 a1_1 7 fw], wp, z] _ _ := G.re rfl
  refine z_get C G clX1 0 rfl 0 (by decide) m_fl_RX1_12 rfl dX1_open_1 ?_
  refine lv_iload_n hx hb dX1_open_4 rfl (lv_at hl 1 rfl) ?_
  refine lv_iload_n hx hb dX1_open_5 rfl (lv_at hl 2 rfl) ?_
  refine z_Vi (bc := [wp, z]) (br := [[zO1 h po a1_1 v0 la v1 v2 v3 v4 v5 v6 v7], [zAr T 0 a1_1 7 fw]]) (As := [.int x, .int y]) (rest := []) C G (c_isShut l T po la f1 f2 f3 st wh wp cr inn k1 k2 k3 k4 z x y hp hz) (kV_RX1_141 C.2.2.2.2 (Nat.le_of_ble_eq_true rfl) (Nat.le_of_ble_eq_true rfl)) [2, 3] [2, 0] rfl rfl (ci := 6) (qc := (RX6, TX6, 6)) rfl rfl (List.mem_flatten.mpr ⟨_, List.mem_of_getElem? (i := 0) rfl, (bPosts_mem hp).choose_spec⟩) rfl rfl hl.1 dX1_open_6 (Nat.le_of_ble_eq_true rfl) (Nat.le_of_ble_eq_true rfl) (fun r_3 b1 H locs hw G => ?_)
  refine zAn2 hw ?_
  intro hbs9 hc_2
  clear hw
  subst hbs9
  have G : zS T A s.heap s [[zO1 h po a1_1 v0 la v1 v2 v3 v4 v5 v6 v7], [zAr T 0 a1_1 7 fw], wp, z] _ _ := G
  rcases hc_2 with ⟨rfl, h_4, h_5, h_6, h_7, h_8, h_9, h_10⟩ | ⟨rfl, h_11⟩
  · have h_4 : 0 ≤ x.toInt := h_4
    have h_5 : x.toInt < cr.toInt := h_5
    have h_6 : x.toInt < 7 := h_6
    have h_7 : 0 ≤ y.toInt := h_7
    have h_8 : y.toInt < (k1 x.toNatClampNeg).toInt := h_8
    have h_9 : y.toInt < 4 := h_9
    have h_10 : ¬ zBit (f2 x.toNatClampNeg) y = 0 := h_10
    refine lv_istore_n (lv' := [(3, .int 1), (0, .ref h), (1, .int x), (2, .int y)]) hx hb dX1_open_9 rfl hl (by decide) rfl (fun ls hl => ?_)
    refine lv_iload_n hx hb dX1_open_10 rfl (lv_at hl 0 rfl) ?_
    refine lv_if_eq (tgt := 23) hx hb dX1_open_11 (by decide) (fun q => absurd q (by decide)) (fun _ => ?_)
    refine lv_aload_n hx hb dX1_open_14 rfl (lv_at hl 1 rfl) ?_
    refine z_get C G clX1 0 rfl 0 (by decide) m_fl_RX1_12 rfl dX1_open_15 ?_
    refine lv_iload_n hx hb dX1_open_18 rfl (lv_at hl 2 rfl) ?_
    refine lv_iload_n hx hb dX1_open_19 rfl (lv_at hl 3 rfl) ?_
    refine z_Vv (bc := [wp, z]) (br := [[zO1 h po a1_1 v0 la v1 v2 v3 v4 v5 v6 v7], [zAr T 0 a1_1 7 fw]]) (As := [.int x, .int y]) (rest := []) C G (c_openRoad l T po la f1 f2 f3 st wh wp cr inn k1 k2 k3 k4 z x y hp hz) (kV_RX1_147 C.2.2.2.2 (Nat.le_of_ble_eq_true rfl) (Nat.le_of_ble_eq_true rfl)) [2, 3] [2, 0] rfl rfl (ci := 6) (qc := (RX6, TX6, 6)) rfl rfl (List.mem_flatten.mpr ⟨_, List.mem_of_getElem? (i := 0) rfl, (bPosts_mem hp).choose_spec⟩) rfl rfl hl.1 dX1_open_20 (Nat.le_of_ble_eq_true rfl) (Nat.le_of_ble_eq_true rfl) (fun b1 H locs hw G => ?_)
    refine zEx2 hw ?_
    intro w2_12 g2_13
    refine zCu3 ?_
    intro hbs9 h_14 h_15
    clear hw
    subst hbs9
    have G : zS T A s.heap s [[zO1 h po a1_1 v0 la v1 v2 v3 v4 v5 v6 v7], [zAr T 0 a1_1 7 fw], w2_12, z] _ _ := G
    refine lv_iload_n hx hb dX1_open_23 rfl (lv_at hl 0 rfl) ?_
    have hw_17 : bCourse T h po la fw v0 v1 v2 v3 v4 v5 v6 v7 [zO1 h po a1_1 v0 la v1 v2 v3 v4 v5 v6 v7, zAr T 0 a1_1 7 fw] := ⟨a1_1, rfl⟩
    have G : zS T A s.heap s [[zO1 h po a1_1 v0 la v1 v2 v3 v4 v5 v6 v7, zAr T 0 a1_1 7 fw], w2_12, z] _ _ := G.re rfl
    exact z_back hQ9 (z_zret C hr hlocks G (Nat.le_of_ble_eq_true rfl) (Nat.le_of_ble_eq_true rfl) dX1_open_24 rfl ⟨([zO1 h po a1_1 v0 la v1 v2 v3 v4 v5 v6 v7, zAr T 0 a1_1 7 fw]), fw, v0, v1, v2, v3, v4, v5, v6, v7, w2_12, f1, g2_13, st, wh, rfl, hw_17, h_14, hP, (by first | exact Or.inl rfl | exact Or.inr rfl)⟩)
  · have h_11 : (x.toInt < 0 ∨ cr.toInt ≤ x.toInt ∨ 7 ≤ x.toInt ∨ y.toInt < 0 ∨ (k1 x.toNatClampNeg).toInt ≤ y.toInt ∨ 4 ≤ y.toInt ∨ zBit (f2 x.toNatClampNeg) y = 0) := h_11
    refine lv_istore_n (lv' := [(3, .int 0), (0, .ref h), (1, .int x), (2, .int y)]) hx hb dX1_open_9 rfl hl (by decide) rfl (fun ls hl => ?_)
    refine lv_iload_n hx hb dX1_open_10 rfl (lv_at hl 0 rfl) ?_
    refine lv_if_eq (tgt := 23) hx hb dX1_open_11 (by decide) (fun _ => ?_) (fun q => absurd (by decide) q)
    refine lv_iload_n hx hb dX1_open_23 rfl (lv_at hl 0 rfl) ?_
    have hw_18 : bCourse T h po la fw v0 v1 v2 v3 v4 v5 v6 v7 [zO1 h po a1_1 v0 la v1 v2 v3 v4 v5 v6 v7, zAr T 0 a1_1 7 fw] := ⟨a1_1, rfl⟩
    have G : zS T A s.heap s [[zO1 h po a1_1 v0 la v1 v2 v3 v4 v5 v6 v7, zAr T 0 a1_1 7 fw], wp, z] _ _ := G.re rfl
    exact z_back hQ9 (z_zret C hr hlocks G (Nat.le_of_ble_eq_true rfl) (Nat.le_of_ble_eq_true rfl) dX1_open_24 rfl ⟨([zO1 h po a1_1 v0 la v1 v2 v3 v4 v5 v6 v7, zAr T 0 a1_1 7 fw]), fw, v0, v1, v2, v3, v4, v5, v6, v7, wp, f1, f2, st, wh, rfl, hw_18, hp, hP, (by first | exact Or.inl rfl | exact Or.inr rfl)⟩)


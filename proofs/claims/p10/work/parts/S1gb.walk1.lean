theorem zS10 {w : Int32} : (w - 10).toInt = w.toInt - 10 ∨ (w.toInt < 10 ∧ 2000000000 ≤ (w - 10).toInt) := by
  have e10 : (10 : Int32).toInt = 10 := rfl
  have hl := Int32.le_toInt w
  have hu := Int32.toInt_lt w
  by_cases h : -2147483648 ≤ w.toInt - 10
  · exact Or.inl ((z_isubI (x := w) (y := 10) (by rw [e10]; omega) (by rw [e10]; omega)).trans (by rw [e10]))
  · right
    refine ⟨by omega, ?_⟩
    have t : (w.toInt - 10).bmod (2 ^ 32) = (w.toInt - 10 + 4294967296).bmod (2 ^ 32) := (Int.add_bmod_right (w.toInt - 10) (2 ^ 32)).symm
    rw [Int32.toInt_sub, e10, t, z_bmod (by omega) (by omega)]
    omega
/-- what is told of a walk -/
def zWk_ (nl : Int) (bit : Int32 → Prop) (S W L P : Nat → Int32) (x : Int32) (w : Int32) (r : Int32) : Prop := (w.toInt = 0 ∧ r = nI (zRunN S W L 499 P x 0).2.2) ∨ (w.toInt = 1 ∧ r = (zRunN S W L 499 P x 0).2.1) ∨ (w.toInt = 2 ∧ (bit (zRunN S W L 499 P x 0).2.1 ∧ r = 1 ∨ ¬ bit (zRunN S W L 499 P x 0).2.1 ∧ r = 0)) ∨ ((w.toInt < 0 ∨ 2 < w.toInt) ∧ (10 ≤ w.toInt ∧ w.toInt - 10 < nl ∧ (∃ W0 : Nat → Int32, (∀ j, j < 7 → W0 j = zOne x j) ∧ r = zWasN S W L 499 P x W0 (w.toInt - 10).toNat) ∨ (w.toInt < 10 ∨ nl ≤ w.toInt - 10) ∧ r = -2))
def kWalk (cr inn : Int32) (k1 k2 k3 : Nat → Int32) (a w r : Int32) : Prop := ((0 ≤ a.toInt ∧ a.toInt < cr.toInt) ∧ (∃ G1 G2 G3 : Nat → Int32, (zP3 G1 G3 ∧ (∀ j, j < 7 → G1 j = k3 j) ∧ (∀ j, j < 7 → G2 j = 0) ∧ ∀ j, j < 7 → G3 j = zWays cr inn k1 (nI j)) ∧ zWk_ cr.toInt (fun q => 0 ≤ q.toInt ∧ q.toInt < cr.toInt ∧ q.toInt < 7 ∧ ¬ zBit inn q = 0) G2 G3 k2 G1 a w r)) ∨ ¬ (0 ≤ a.toInt ∧ a.toInt < cr.toInt) ∧ r = -2
theorem zWk_e {nl : Int} {b c : Int32 → Prop} {S W L P S' W' L' P' : Nat → Int32} {x w r r' : Int32} (hn : nl ≤ 7) (hb : b (zRunN S' W' L' 499 P' x 0).2.1 ↔ c (zRunN S' W' L' 499 P' x 0).2.1) (h2 : ∀ j, j < 7 → S j = S' j) (h3 : ∀ j, j < 7 → W j = W' j) (hl : zLs W L L') (hI : zP3 P W) (h1 : ∀ j, j < 7 → P j = P' j) (F1 : zWk_ nl b S W L P x w r) (F2 : zWk_ nl c S' W' L' P' x w r') : r = r' := by
  have e := (zRunN_cg h2 h3 hl 499 P P' x 0 hI h1).2
  have e1 : (zRunN S W L 499 P x 0).2.1 = (zRunN S' W' L' 499 P' x 0).2.1 := congrArg (fun q => q.1) e
  have e2 : (zRunN S W L 499 P x 0).2.2 = (zRunN S' W' L' 499 P' x 0).2.2 := congrArg (fun q => q.2) e
  unfold zWk_ at F1
  rw [e1, e2] at F1
  rcases F1 with ⟨a, b1⟩ | ⟨a, b1⟩ | ⟨a, b1⟩ | ⟨a, b1⟩ <;> rcases F2 with ⟨d, e9⟩ | ⟨d, e9⟩ | ⟨d, e9⟩ | ⟨d, e9⟩ <;> first | (exfalso; omega) | (rw [b1, e9]; done) | skip
  · rcases b1 with ⟨u, v⟩ | ⟨u, v⟩ <;> rcases e9 with ⟨y, z⟩ | ⟨y, z⟩
    · rw [v, z]
    · exact absurd (hb.mp u) y
    · exact absurd (hb.mpr y) u
    · rw [v, z]
  · rcases b1 with ⟨u, v, W0, hW, z⟩ | ⟨u, v⟩ <;> rcases e9 with ⟨u2, v2, W2, hW2, z2⟩ | ⟨u2, v2⟩
    · rw [z, z2]
      exact zWasN_cg h2 h3 hl 499 P P' x W0 W2 hI h1 (fun j hj => (hW j hj).trans (hW2 j hj).symm) _ (by omega)
    · exfalso; omega
    · exfalso; omega
    · rw [v, v2]
set_option maxHeartbeats 4000000 in
set_option maxRecDepth 100000 in
/-- arrive -/
theorem c_f_arrive (l : Launch) (T : zTy) (h : Nat) (po : Nat) (t1 : Nat → Int32) (t2 : Nat → Int32) (v0 : Int32) (v1 : Int32) (v2 : Int32) (v3 : Int32) (v4 : Int32) (wt : va_W) (x : Int32) (y : Int32) (ht : bTrail T h po t1 t2 v0 v1 v2 v3 v4 wt) : zMi l T yX10_arrive cX10_arrive 4 (some .int) 1 0 0 [.ref h, .int x, .int y] [wt] (fun (r : Int32) bs => ∃ (wt2 : va_W) (s1 : Nat → Int32) (u3 : Int32), bs = [wt2] ∧ bTrail T h po s1 t2 v0 v1 x u3 v4 wt2 ∧ s1 = zVi t1 x) := by
  refine zMi_of (own := RX10) (by decide) rfl (Nat.le_of_ble_eq_true rfl) ?_
  intro p e s m args below meth c A ls C hr hlocks hnm hAe G hl
  have hx := C.1
  have hb := C.2.1
  have hl : lv_has ls 4 [(0, .ref h), (1, .int x), (2, .int y)] := hl
  refine lv_aload_n hx hb dX10_arrive_0 rfl (lv_at hl 0 rfl) ?_
  refine lv_iload_n hx hb dX10_arrive_1 rfl (lv_at hl 1 rfl) ?_
  obtain ⟨a1_1, a2_2, rfl⟩ := ht
  have G : zS T A s.heap s [[(h, .inr (9, [.ref po, .ref a1_1, .ref a2_2, .int v0, .int v1, .int v2, .int v3, .int v4]))], [(a1_1, .inl (T.2 0, 7, .inl t1))], [(a2_2, .inl (T.2 0, 7, .inl t2))]] _ _ := G.re rfl
  refine z_put C G clX10 0 rfl 5 (by decide) m_fl_RX10_51 rfl rfl rfl (Nat.le_of_ble_eq_true rfl) dX10_arrive_2 (fun H locs G => ?_)
  have G : zS T A s.heap s [[(h, .inr (9, [.ref po, .ref a1_1, .ref a2_2, .int v0, .int v1, .int x, .int v3, .int v4]))], [(a1_1, .inl (T.2 0, 7, .inl t1))], [(a2_2, .inl (T.2 0, 7, .inl t2))]] _ _ := G
  refine lv_iload_n hx hb dX10_arrive_5 rfl (lv_at hl 1 rfl) ?_
  refine lv_if_lt (tgt := 15) hx hb dX10_arrive_6 (by decide) (fun c_3 => ?_) (fun c_3 => ?_)
  · have c_3n : x.toInt < (0 : Int) := (fa_lt _ _).mp c_3
    refine lv_iload_n hx hb dX10_arrive_15 rfl (lv_at hl 2 rfl) ?_
    have hw_4 : bTrail T h po t1 t2 v0 v1 x v3 v4 [(h, .inr (9, [.ref po, .ref a1_1, .ref a2_2, .int v0, .int v1, .int x, .int v3, .int v4])), (a1_1, .inl (T.2 0, 7, .inl t1)), (a2_2, .inl (T.2 0, 7, .inl t2))] := ⟨a1_1, a2_2, rfl⟩
    have G : zS T A s.heap s [[(h, .inr (9, [.ref po, .ref a1_1, .ref a2_2, .int v0, .int v1, .int x, .int v3, .int v4])), (a1_1, .inl (T.2 0, 7, .inl t1)), (a2_2, .inl (T.2 0, 7, .inl t2))]] _ _ := G.re rfl
    exact z_iret C hr hlocks G (Nat.le_of_ble_eq_true rfl) (Nat.le_of_ble_eq_true rfl) dX10_arrive_16 ⟨([(h, .inr (9, [.ref po, .ref a1_1, .ref a2_2, .int v0, .int v1, .int x, .int v3, .int v4])), (a1_1, .inl (T.2 0, 7, .inl t1)), (a2_2, .inl (T.2 0, 7, .inl t2))]), t1, v3, rfl, hw_4, (by unfold zVi; rw [if_neg (by omega)])⟩
  · have c_3n : ¬ x.toInt < (0 : Int) := fun q => c_3 ((fa_lt _ _).mpr q)
    refine lv_iload_n hx hb dX10_arrive_9 rfl (lv_at hl 1 rfl) ?_
    refine lv_bipush (v := 7) hx hb dX10_arrive_10 (by decide) ?_
    refine lv_icmp_lt (tgt := 17) hx hb dX10_arrive_12 (by decide) (fun c_5 => ?_) (fun c_5 => ?_)
    · have c_5n : x.toInt < (7 : Int) := (fa_lt _ _).mp c_5
      refine lv_aload_n hx hb dX10_arrive_17 rfl (lv_at hl 0 rfl) ?_
      refine z_get C G clX10 0 rfl 1 (by decide) m_fl_RX10_18 rfl dX10_arrive_18 ?_
      refine lv_iload_n hx hb dX10_arrive_21 rfl (lv_at hl 1 rfl) ?_
      refine lv_dup2_11 hx hb dX10_arrive_22 rfl rfl ?_
      refine z_ild C G 1 rfl (vp_in_iff.mpr ⟨by omega, by omega⟩) dX10_arrive_23 ?_
      refine lv_topi (fun v_6 ev_6 => ?_)
      subst ev_6
      refine lv_iconst (v := 1) hx hb dX10_arrive_24 (by decide) ?_
      refine lv_iadd hx hb dX10_arrive_25 ?_
      refine z_ist C G 1 rfl (vp_in_iff.mpr ⟨by omega, by omega⟩) dX10_arrive_26 (fun H locs G => ?_)
      have G : zS T A s.heap s [[(h, .inr (9, [.ref po, .ref a1_1, .ref a2_2, .int v0, .int v1, .int x, .int v3, .int v4]))], [(a1_1, .inl (T.2 0, 7, .inl (upd t1 x.toNatClampNeg ((t1 x.toNatClampNeg) + 1))))], [(a2_2, .inl (T.2 0, 7, .inl t2))]] _ _ := G
      refine lv_iload_n hx hb dX10_arrive_27 rfl (lv_at hl 2 rfl) ?_
      refine lv_iconst (v := 1) hx hb dX10_arrive_28 (by decide) ?_
      refine lv_iload_n hx hb dX10_arrive_29 rfl (lv_at hl 1 rfl) ?_
      refine lv_ishl hx hb dX10_arrive_30 ?_
      refine lv_ior hx hb dX10_arrive_31 ?_
      refine lv_istore_n (lv' := [(3, .int (y ||| (1 <<< (x &&& 31)))), (0, .ref h), (1, .int x), (2, .int y)]) hx hb dX10_arrive_32 rfl hl (by decide) rfl (fun ls hl => ?_)
      refine lv_aload_n hx hb dX10_arrive_33 rfl (lv_at hl 1 rfl) ?_
      refine lv_aload_n hx hb dX10_arrive_34 rfl (lv_at hl 1 rfl) ?_
      refine z_get C G clX10 0 rfl 6 (by decide) m_fl_RX10_44 rfl dX10_arrive_35 ?_
      refine lv_iconst (v := (-1)) hx hb dX10_arrive_38 (by decide) ?_
      refine lv_icmp_ne (tgt := 57) hx hb dX10_arrive_39 (by decide) (fun c_7 => ?_) (fun c_7 => ?_)
      · have c_7n : ¬ v3.toInt = (-1 : Int) := fun q => c_7 ((fa_eq _ _).mpr q)
        refine lv_aload_n hx hb dX10_arrive_57 rfl (lv_at hl 1 rfl) ?_
        refine z_get C G clX10 0 rfl 6 (by decide) m_fl_RX10_44 rfl dX10_arrive_58 ?_
        refine z_put C G clX10 0 rfl 6 (by decide) m_fl_RX10_44 rfl rfl rfl (Nat.le_of_ble_eq_true rfl) dX10_arrive_61 (fun H locs G => ?_)
        have G : zS T A s.heap s [[(h, .inr (9, [.ref po, .ref a1_1, .ref a2_2, .int v0, .int v1, .int x, .int v3, .int v4]))], [(a1_1, .inl (T.2 0, 7, .inl (upd t1 x.toNatClampNeg ((t1 x.toNatClampNeg) + 1))))], [(a2_2, .inl (T.2 0, 7, .inl t2))]] _ _ := G
        refine lv_iload_n hx hb dX10_arrive_64 rfl (lv_at hl 0 rfl) ?_
        have hw_8 : bTrail T h po (upd t1 x.toNatClampNeg ((t1 x.toNatClampNeg) + 1)) t2 v0 v1 x v3 v4 [(h, .inr (9, [.ref po, .ref a1_1, .ref a2_2, .int v0, .int v1, .int x, .int v3, .int v4])), (a1_1, .inl (T.2 0, 7, .inl (upd t1 x.toNatClampNeg ((t1 x.toNatClampNeg) + 1)))), (a2_2, .inl (T.2 0, 7, .inl t2))] := ⟨a1_1, a2_2, rfl⟩
        have G : zS T A s.heap s [[(h, .inr (9, [.ref po, .ref a1_1, .ref a2_2, .int v0, .int v1, .int x, .int v3, .int v4])), (a1_1, .inl (T.2 0, 7, .inl (upd t1 x.toNatClampNeg ((t1 x.toNatClampNeg) + 1)))), (a2_2, .inl (T.2 0, 7, .inl t2))]] _ _ := G.re rfl
        exact z_iret C hr hlocks G (Nat.le_of_ble_eq_true rfl) (Nat.le_of_ble_eq_true rfl) dX10_arrive_65 ⟨([(h, .inr (9, [.ref po, .ref a1_1, .ref a2_2, .int v0, .int v1, .int x, .int v3, .int v4])), (a1_1, .inl (T.2 0, 7, .inl (upd t1 x.toNatClampNeg ((t1 x.toNatClampNeg) + 1)))), (a2_2, .inl (T.2 0, 7, .inl t2))]), (upd t1 x.toNatClampNeg ((t1 x.toNatClampNeg) + 1)), v3, rfl, hw_8, (by unfold zVi; rw [if_pos ⟨by omega, by omega⟩])⟩
      · have c_7n : v3.toInt = (-1 : Int) := (fa_eq _ _).mp c_7
        refine lv_iload_n hx hb dX10_arrive_42 rfl (lv_at hl 0 rfl) ?_
        refine lv_aload_n hx hb dX10_arrive_43 rfl (lv_at hl 1 rfl) ?_
        refine z_get C G clX10 0 rfl 3 (by decide) m_fl_RX10_35 rfl dX10_arrive_44 ?_
        refine lv_icmp_ne (tgt := 57) hx hb dX10_arrive_47 (by decide) (fun c_9 => ?_) (fun c_9 => ?_)
        · have c_9n : ¬ (y ||| (1 <<< (x &&& 31))).toInt = v0.toInt := fun q => c_9 ((fa_eq _ _).mpr q)
          refine lv_aload_n hx hb dX10_arrive_57 rfl (lv_at hl 1 rfl) ?_
          refine z_get C G clX10 0 rfl 6 (by decide) m_fl_RX10_44 rfl dX10_arrive_58 ?_
          refine z_put C G clX10 0 rfl 6 (by decide) m_fl_RX10_44 rfl rfl rfl (Nat.le_of_ble_eq_true rfl) dX10_arrive_61 (fun H locs G => ?_)
          have G : zS T A s.heap s [[(h, .inr (9, [.ref po, .ref a1_1, .ref a2_2, .int v0, .int v1, .int x, .int v3, .int v4]))], [(a1_1, .inl (T.2 0, 7, .inl (upd t1 x.toNatClampNeg ((t1 x.toNatClampNeg) + 1))))], [(a2_2, .inl (T.2 0, 7, .inl t2))]] _ _ := G
          refine lv_iload_n hx hb dX10_arrive_64 rfl (lv_at hl 0 rfl) ?_
          have hw_10 : bTrail T h po (upd t1 x.toNatClampNeg ((t1 x.toNatClampNeg) + 1)) t2 v0 v1 x v3 v4 [(h, .inr (9, [.ref po, .ref a1_1, .ref a2_2, .int v0, .int v1, .int x, .int v3, .int v4])), (a1_1, .inl (T.2 0, 7, .inl (upd t1 x.toNatClampNeg ((t1 x.toNatClampNeg) + 1)))), (a2_2, .inl (T.2 0, 7, .inl t2))] := ⟨a1_1, a2_2, rfl⟩
          have G : zS T A s.heap s [[(h, .inr (9, [.ref po, .ref a1_1, .ref a2_2, .int v0, .int v1, .int x, .int v3, .int v4])), (a1_1, .inl (T.2 0, 7, .inl (upd t1 x.toNatClampNeg ((t1 x.toNatClampNeg) + 1)))), (a2_2, .inl (T.2 0, 7, .inl t2))]] _ _ := G.re rfl
          exact z_iret C hr hlocks G (Nat.le_of_ble_eq_true rfl) (Nat.le_of_ble_eq_true rfl) dX10_arrive_65 ⟨([(h, .inr (9, [.ref po, .ref a1_1, .ref a2_2, .int v0, .int v1, .int x, .int v3, .int v4])), (a1_1, .inl (T.2 0, 7, .inl (upd t1 x.toNatClampNeg ((t1 x.toNatClampNeg) + 1)))), (a2_2, .inl (T.2 0, 7, .inl t2))]), (upd t1 x.toNatClampNeg ((t1 x.toNatClampNeg) + 1)), v3, rfl, hw_10, (by unfold zVi; rw [if_pos ⟨by omega, by omega⟩])⟩
        · have c_9n : (y ||| (1 <<< (x &&& 31))).toInt = v0.toInt := (fa_eq _ _).mp c_9
          refine lv_aload_n hx hb dX10_arrive_50 rfl (lv_at hl 1 rfl) ?_
          refine z_get C G clX10 0 rfl 4 (by decide) m_fl_RX10_38 rfl dX10_arrive_51 ?_
          refine lv_goto (tgt := 61) hx hb dX10_arrive_54 (by decide) ?_
          refine z_put C G clX10 0 rfl 6 (by decide) m_fl_RX10_44 rfl rfl rfl (Nat.le_of_ble_eq_true rfl) dX10_arrive_61 (fun H locs G => ?_)
          have G : zS T A s.heap s [[(h, .inr (9, [.ref po, .ref a1_1, .ref a2_2, .int v0, .int v1, .int x, .int v1, .int v4]))], [(a1_1, .inl (T.2 0, 7, .inl (upd t1 x.toNatClampNeg ((t1 x.toNatClampNeg) + 1))))], [(a2_2, .inl (T.2 0, 7, .inl t2))]] _ _ := G
          refine lv_iload_n hx hb dX10_arrive_64 rfl (lv_at hl 0 rfl) ?_
          have hw_11 : bTrail T h po (upd t1 x.toNatClampNeg ((t1 x.toNatClampNeg) + 1)) t2 v0 v1 x v1 v4 [(h, .inr (9, [.ref po, .ref a1_1, .ref a2_2, .int v0, .int v1, .int x, .int v1, .int v4])), (a1_1, .inl (T.2 0, 7, .inl (upd t1 x.toNatClampNeg ((t1 x.toNatClampNeg) + 1)))), (a2_2, .inl (T.2 0, 7, .inl t2))] := ⟨a1_1, a2_2, rfl⟩
          have G : zS T A s.heap s [[(h, .inr (9, [.ref po, .ref a1_1, .ref a2_2, .int v0, .int v1, .int x, .int v1, .int v4])), (a1_1, .inl (T.2 0, 7, .inl (upd t1 x.toNatClampNeg ((t1 x.toNatClampNeg) + 1)))), (a2_2, .inl (T.2 0, 7, .inl t2))]] _ _ := G.re rfl
          exact z_iret C hr hlocks G (Nat.le_of_ble_eq_true rfl) (Nat.le_of_ble_eq_true rfl) dX10_arrive_65 ⟨([(h, .inr (9, [.ref po, .ref a1_1, .ref a2_2, .int v0, .int v1, .int x, .int v1, .int v4])), (a1_1, .inl (T.2 0, 7, .inl (upd t1 x.toNatClampNeg ((t1 x.toNatClampNeg) + 1)))), (a2_2, .inl (T.2 0, 7, .inl t2))]), (upd t1 x.toNatClampNeg ((t1 x.toNatClampNeg) + 1)), v1, rfl, hw_11, (by unfold zVi; rw [if_pos ⟨by omega, by omega⟩])⟩
    · have c_5n : ¬ x.toInt < (7 : Int) := fun q => c_5 ((fa_lt _ _).mpr q)
      refine lv_iload_n hx hb dX10_arrive_15 rfl (lv_at hl 2 rfl) ?_
      have hw_12 : bTrail T h po t1 t2 v0 v1 x v3 v4 [(h, .inr (9, [.ref po, .ref a1_1, .ref a2_2, .int v0, .int v1, .int x, .int v3, .int v4])), (a1_1, .inl (T.2 0, 7, .inl t1)), (a2_2, .inl (T.2 0, 7, .inl t2))] := ⟨a1_1, a2_2, rfl⟩
      have G : zS T A s.heap s [[(h, .inr (9, [.ref po, .ref a1_1, .ref a2_2, .int v0, .int v1, .int x, .int v3, .int v4])), (a1_1, .inl (T.2 0, 7, .inl t1)), (a2_2, .inl (T.2 0, 7, .inl t2))]] _ _ := G.re rfl
      exact z_iret C hr hlocks G (Nat.le_of_ble_eq_true rfl) (Nat.le_of_ble_eq_true rfl) dX10_arrive_16 ⟨([(h, .inr (9, [.ref po, .ref a1_1, .ref a2_2, .int v0, .int v1, .int x, .int v3, .int v4])), (a1_1, .inl (T.2 0, 7, .inl t1)), (a2_2, .inl (T.2 0, 7, .inl t2))]), t1, v3, rfl, hw_12, (by unfold zVi; rw [if_neg (by omega)])⟩
theorem zVi_one {w : Nat → Int32} {x : Int32} (h : ∀ j, j < 7 → w j = 0) : ∀ j, j < 7 → zVi w x j = zOne x j := by
  intro j hj
  unfold zVi zOne
  by_cases q : 0 ≤ x.toInt ∧ x.toInt < 7
  · have e := z_clI q.1
    rw [if_pos q]
    by_cases t : j = x.toNatClampNeg
    · rw [z_eq t, if_pos (by omega), h _ (by omega)]
      rfl
    · rw [z_ne t, if_neg (by omega)]
      exact h j hj
  · rw [if_neg q, if_neg (by omega)]
    exact h j hj
set_option maxHeartbeats 4000000 in
set_option maxRecDepth 100000 in
/-- follow -/
theorem c_f_follow (l : Launch) (T : zTy) (h : Nat) (po : Nat) (t1 : Nat → Int32) (t2 : Nat → Int32) (v0 : Int32) (v1 : Int32) (v2 : Int32) (v3 : Int32) (v4 : Int32) (wt : va_W) (la : Nat) (f1 : Nat → Int32) (f2 : Nat → Int32) (f3 : Nat → Int32) (st : Int32) (wh : Int32) (wp : va_W) (o : Nat) (cr : Int32) (inn : Int32) (k1 : Nat → Int32) (k2 : Nat → Int32) (k3 : Nat → Int32) (k4 : Nat → Int32) (z : va_W) (x : Int32) (ht : bTrail T h po t1 t2 v0 v1 v2 v3 v4 wt) (hp : bPosts T po la f1 f2 f3 st wh wp) (hz : bLand T o cr inn k1 k2 k3 k4 z) (hI : zLI cr k1 k3) : zMv l T yX10_follow cX10_follow 6 5 0 0 [.ref h, .ref o, .int x] [wt, wp, z] (fun bs => ∃ (wt2 : va_W) (s1 : Nat → Int32) (s2 : Nat → Int32) (u0 : Int32) (u1 : Int32) (u2 : Int32) (u3 : Int32) (u4 : Int32) (wp2 : va_W) (g1 : Nat → Int32) (g2 : Nat → Int32) (g3 : Nat → Int32) (sa : Int32) (wa : Int32), bs = [wt2, wp2, z] ∧ bTrail T h po s1 s2 u0 u1 u2 u3 u4 wt2 ∧ bPosts T po o g1 g2 g3 sa wa wp2 ∧ zP3 g1 g3 ∧ (∃ G1 : Nat → Int32, (zP3 G1 g3 ∧ (∀ j, j < 7 → G1 j = k3 j) ∧ (∀ j, j < 7 → g2 j = 0) ∧ ∀ j, j < 7 → g3 j = zWays cr inn k1 (nI j)) ∧ (u1 = nI (zRunN g2 g3 k2 499 G1 x 0).2.2 ∧ u2 = (zRunN g2 g3 k2 499 G1 x 0).2.1) ∧ ∃ W0 : Nat → Int32, (∀ j, j < 7 → W0 j = zOne x j) ∧ s1 = zWasN g2 g3 k2 499 G1 x W0)) := by
  refine zMv_of (own := RX10) (by decide) rfl (Nat.le_of_ble_eq_true rfl) ?_
  intro p e s m args below meth c A ls C hr hlocks hnm hAe G hl
  have hx := C.1
  have hb := C.2.1
  have hl : lv_has ls 6 [(0, .ref h), (1, .ref o), (2, .int x)] := hl
  refine lv_aload_n hx hb dX10_follow_0 rfl (lv_at hl 0 rfl) ?_
  obtain ⟨a1_1, a2_2, rfl⟩ := ht
  have G : zS T A s.heap s [[(h, .inr (9, [.ref po, .ref a1_1, .ref a2_2, .int v0, .int v1, .int v2, .int v3, .int v4]))], [(a1_1, .inl (T.2 0, 7, .inl t1))], [(a2_2, .inl (T.2 0, 7, .inl t2))], wp, z] _ _ := G.re rfl
  refine z_get C G clX10 0 rfl 0 (by decide) m_fl_RX10_12 rfl dX10_follow_1 ?_
  refine lv_aload_n hx hb dX10_follow_4 rfl (lv_at hl 1 rfl) ?_
  refine z_Vv (bc := [wp, z]) (br := [[(h, .inr (9, [.ref po, .ref a1_1, .ref a2_2, .int v0, .int v1, .int v2, .int v3, .int v4]))], [(a1_1, .inl (T.2 0, 7, .inl t1))], [(a2_2, .inl (T.2 0, 7, .inl t2))]]) (As := [.ref o]) (rest := []) C G (c_Posts_begin l T po la f1 f2 f3 st wh wp o cr inn k1 k2 k3 k4 z hp hz) (kV_RX10_25 C.2.2.2.2 (Nat.le_of_ble_eq_true rfl) (Nat.le_of_ble_eq_true rfl)) [3, 4] [0, 1, 2] rfl rfl (ci := 6) (qc := (RX6, TX6, 6)) rfl rfl (List.mem_flatten.mpr ⟨_, List.mem_of_getElem? (i := 0) rfl, (bPosts_mem hp).choose_spec⟩) rfl rfl hl.1 dX10_follow_5 (Nat.le_of_ble_eq_true rfl) (Nat.le_of_ble_eq_true rfl) (fun b1 H locs hw G => ?_)
  obtain ⟨w2_3, g1_4, g2_5, g3_6, rfl, h_7, h_8, h_9, h_10⟩ := hw
  have G : zS T A s.heap s [[(h, .inr (9, [.ref po, .ref a1_1, .ref a2_2, .int v0, .int v1, .int v2, .int v3, .int v4]))], [(a1_1, .inl (T.2 0, 7, .inl t1))], [(a2_2, .inl (T.2 0, 7, .inl t2))], w2_3, z] _ _ := G
  have hQ : zP3 g1_4 g3_6 := z_P3 hI h_8 h_10
  refine lv_iconst (v := 0) hx hb dX10_follow_8 (by decide) ?_
  refine lv_istore_n (lv' := [(3, .int 0), (0, .ref h), (1, .ref o), (2, .int x)]) hx hb dX10_follow_9 rfl hl (by decide) rfl (fun ls hl => ?_)
  have hw_12 : bTrail T h po t1 t2 v0 v1 v2 v3 v4 [(h, .inr (9, [.ref po, .ref a1_1, .ref a2_2, .int v0, .int v1, .int v2, .int v3, .int v4])), (a1_1, .inl (T.2 0, 7, .inl t1)), (a2_2, .inl (T.2 0, 7, .inl t2))] := ⟨a1_1, a2_2, rfl⟩
  have G : zS T A s.heap s [[(h, .inr (9, [.ref po, .ref a1_1, .ref a2_2, .int v0, .int v1, .int v2, .int v3, .int v4])), (a1_1, .inl (T.2 0, 7, .inl t1)), (a2_2, .inl (T.2 0, 7, .inl t2))], w2_3, z] _ _ := G.re rfl
  refine z_loop (T := T) (α := Nat × va_W × (Nat → Int32) × (Nat → Int32)) 10 (fun (i, wt4, x1, x2) => [wt4, w2_3, z]) (fun (i, wt4, x1, x2) => [(3, .int (nI i)), (0, .ref h), (1, .ref o), (2, .int x)]) (fun (i, wt4, x1, x2) => bTrail T h po x1 x2 v0 v1 v2 v3 v4 wt4 ∧ i ≤ 7 ∧ (∀ j, j < i → x1 j = 0)) (fun (i, wt4, x1, x2) => 7 - i) ?_ (0, ([(h, .inr (9, [.ref po, .ref a1_1, .ref a2_2, .int v0, .int v1, .int v2, .int v3, .int v4])), (a1_1, .inl (T.2 0, 7, .inl t1)), (a2_2, .inl (T.2 0, 7, .inl t2))]), t1, t2) (show bTrail T h po t1 t2 v0 v1 v2 v3 v4 ([(h, .inr (9, [.ref po, .ref a1_1, .ref a2_2, .int v0, .int v1, .int v2, .int v3, .int v4])), (a1_1, .inl (T.2 0, 7, .inl t1)), (a2_2, .inl (T.2 0, 7, .inl t2))]) ∧ 0 ≤ 7 ∧ (∀ j, j < 0 → t1 j = 0) from ⟨hw_12, by omega, fun j hj => absurd hj (by omega)⟩) G (lv_sub hl [0, 1, 2, 3] rfl)
  rintro ⟨i, wt4, x1, x2⟩ ⟨ht4, hi, hv⟩ ih_10 H locs ls G hl
  replace ht4 : bTrail T h po x1 x2 v0 v1 v2 v3 v4 wt4 := ht4
  replace hi : i ≤ 7 := hi
  replace hv : (∀ j, j < i → x1 j = 0) := hv
  replace G : zS T A s.heap s [wt4, w2_3, z] _ _ := G
  replace hl : lv_has ls 6 [(3, .int (nI i)), (0, .ref h), (1, .ref o), (2, .int x)] := hl
  refine lv_iload_n hx hb dX10_follow_10 rfl (lv_at hl 0 rfl) ?_
  refine lv_bipush (v := 7) hx hb dX10_follow_11 (by decide) ?_
  refine lv_icmp_ge (tgt := 36) hx hb dX10_follow_13 (by decide) (fun c_13 => ?_) (fun c_13 => ?_)
  · have c_13n : 7 ≤ i := (nI_leI (a := 7) (b := i) (by omega) (by omega)).mp c_13
    have hv0 : ∀ j, j < 7 → x1 j = 0 := fun j hj => hv j (by omega)
    refine lv_aload_n hx hb dX10_follow_36 rfl (lv_at hl 1 rfl) ?_
    refine lv_aload_n hx hb dX10_follow_37 rfl (lv_at hl 2 rfl) ?_
    refine lv_iload_n hx hb dX10_follow_38 rfl (lv_at hl 3 rfl) ?_
    refine z_Si (bc := [z]) (br := [wt4, w2_3]) (As := [.ref o, .int x]) (rest := [.ref h]) C G (c_reached l T o cr inn k1 k2 k3 k4 z x hz hI) (kS_RX10_29 C.2.2.2.2 (Nat.le_of_ble_eq_true rfl) (Nat.le_of_ble_eq_true rfl)) [2] [0, 1] rfl rfl rfl rfl hl.1 dX10_follow_39 (Nat.le_of_ble_eq_true rfl) (Nat.le_of_ble_eq_true rfl) (fun r_15 b1 H locs hw G => ?_)
    obtain ⟨rfl, h_14⟩ := hw
    have G : zS T A s.heap s [wt4, w2_3, z] _ _ := G
    subst h_14
    obtain ⟨a1_16, a2_17, rfl⟩ := ht4
    have G : zS T A s.heap s [[(h, .inr (9, [.ref po, .ref a1_16, .ref a2_17, .int v0, .int v1, .int v2, .int v3, .int v4]))], [(a1_16, .inl (T.2 0, 7, .inl x1))], [(a2_17, .inl (T.2 0, 7, .inl x2))], w2_3, z] _ _ := G.re rfl
    refine z_put C G clX10 0 rfl 3 (by decide) m_fl_RX10_35 rfl rfl rfl (Nat.le_of_ble_eq_true rfl) dX10_follow_42 (fun H locs G => ?_)
    have G : zS T A s.heap s [[(h, .inr (9, [.ref po, .ref a1_16, .ref a2_17, .int (zSeen cr inn k1 k2 (1 <<< (x &&& 31)) 7), .int v1, .int v2, .int v3, .int v4]))], [(a1_16, .inl (T.2 0, 7, .inl x1))], [(a2_17, .inl (T.2 0, 7, .inl x2))], w2_3, z] _ _ := G
    refine lv_aload_n hx hb dX10_follow_45 rfl (lv_at hl 1 rfl) ?_
    refine lv_iconst (v := 0) hx hb dX10_follow_46 (by decide) ?_
    refine z_put C G clX10 0 rfl 4 (by decide) m_fl_RX10_38 rfl rfl rfl (Nat.le_of_ble_eq_true rfl) dX10_follow_47 (fun H locs G => ?_)
    have G : zS T A s.heap s [[(h, .inr (9, [.ref po, .ref a1_16, .ref a2_17, .int (zSeen cr inn k1 k2 (1 <<< (x &&& 31)) 7), .int 0, .int v2, .int v3, .int v4]))], [(a1_16, .inl (T.2 0, 7, .inl x1))], [(a2_17, .inl (T.2 0, 7, .inl x2))], w2_3, z] _ _ := G
    refine lv_aload_n hx hb dX10_follow_50 rfl (lv_at hl 1 rfl) ?_
    refine lv_iconst (v := (-1)) hx hb dX10_follow_51 (by decide) ?_
    refine z_put C G clX10 0 rfl 7 (by decide) m_fl_RX10_41 rfl rfl rfl (Nat.le_of_ble_eq_true rfl) dX10_follow_52 (fun H locs G => ?_)
    have G : zS T A s.heap s [[(h, .inr (9, [.ref po, .ref a1_16, .ref a2_17, .int (zSeen cr inn k1 k2 (1 <<< (x &&& 31)) 7), .int 0, .int v2, .int v3, .int (-1)]))], [(a1_16, .inl (T.2 0, 7, .inl x1))], [(a2_17, .inl (T.2 0, 7, .inl x2))], w2_3, z] _ _ := G
    refine lv_aload_n hx hb dX10_follow_55 rfl (lv_at hl 1 rfl) ?_
    refine lv_iconst (v := (-1)) hx hb dX10_follow_56 (by decide) ?_
    refine z_put C G clX10 0 rfl 6 (by decide) m_fl_RX10_44 rfl rfl rfl (Nat.le_of_ble_eq_true rfl) dX10_follow_57 (fun H locs G => ?_)
    have G : zS T A s.heap s [[(h, .inr (9, [.ref po, .ref a1_16, .ref a2_17, .int (zSeen cr inn k1 k2 (1 <<< (x &&& 31)) 7), .int 0, .int v2, .int (-1), .int (-1)]))], [(a1_16, .inl (T.2 0, 7, .inl x1))], [(a2_17, .inl (T.2 0, 7, .inl x2))], w2_3, z] _ _ := G
    refine lv_aload_n hx hb dX10_follow_60 rfl (lv_at hl 1 rfl) ?_
    refine lv_iload_n hx hb dX10_follow_61 rfl (lv_at hl 3 rfl) ?_
    refine lv_iconst (v := 0) hx hb dX10_follow_62 (by decide) ?_
    have hw_18 : bTrail T h po x1 x2 (zSeen cr inn k1 k2 (1 <<< (x &&& 31)) 7) 0 v2 (-1) (-1) [(h, .inr (9, [.ref po, .ref a1_16, .ref a2_17, .int (zSeen cr inn k1 k2 (1 <<< (x &&& 31)) 7), .int 0, .int v2, .int (-1), .int (-1)])), (a1_16, .inl (T.2 0, 7, .inl x1)), (a2_17, .inl (T.2 0, 7, .inl x2))] := ⟨a1_16, a2_17, rfl⟩
    have G : zS T A s.heap s [[(h, .inr (9, [.ref po, .ref a1_16, .ref a2_17, .int (zSeen cr inn k1 k2 (1 <<< (x &&& 31)) 7), .int 0, .int v2, .int (-1), .int (-1)])), (a1_16, .inl (T.2 0, 7, .inl x1)), (a2_17, .inl (T.2 0, 7, .inl x2))], w2_3, z] _ _ := G.re rfl
    refine z_Vi (bc := [[(h, .inr (9, [.ref po, .ref a1_16, .ref a2_17, .int (zSeen cr inn k1 k2 (1 <<< (x &&& 31)) 7), .int 0, .int v2, .int (-1), .int (-1)])), (a1_16, .inl (T.2 0, 7, .inl x1)), (a2_17, .inl (T.2 0, 7, .inl x2))]]) (br := [w2_3, z]) (As := [.int x, .int 0]) (rest := []) C G (c_f_arrive l T h po x1 x2 (zSeen cr inn k1 k2 (1 <<< (x &&& 31)) 7) 0 v2 (-1) (-1) ([(h, .inr (9, [.ref po, .ref a1_16, .ref a2_17, .int (zSeen cr inn k1 k2 (1 <<< (x &&& 31)) 7), .int 0, .int v2, .int (-1), .int (-1)])), (a1_16, .inl (T.2 0, 7, .inl x1)), (a2_17, .inl (T.2 0, 7, .inl x2))]) x 0 hw_18) (kV_RX10_47 C.2.2.2.2 (Nat.le_of_ble_eq_true rfl) (Nat.le_of_ble_eq_true rfl)) [0] [1, 2] rfl rfl (ci := 9) (qc := (RX10, TX10, 8)) rfl rfl (List.mem_flatten.mpr ⟨_, List.mem_of_getElem? (i := 0) rfl, (bTrail_mem hw_18).choose_spec⟩) rfl rfl hl.1 dX10_follow_63 (Nat.le_of_ble_eq_true rfl) (Nat.le_of_ble_eq_true rfl) (fun r_24 b1 H locs hw G => ?_)
    obtain ⟨wt2_19, s1_20, u3_21, rfl, h_22, h_23⟩ := hw
    have G : zS T A s.heap s [w2_3, z, wt2_19] _ _ := G
    have hW0 : ∀ j, j < 7 → s1_20 j = zOne x j := by rw [h_23]; exact zVi_one hv0
    refine lv_istore_n (lv' := [(3, .int r_24), (0, .ref h), (1, .ref o), (2, .int x)]) hx hb dX10_follow_66 rfl hl (by decide) rfl (fun ls hl => ?_)
    refine lv_iconst (v := 0) hx hb dX10_follow_67 (by decide) ?_
    refine lv_istore (lv' := [(4, .int 0), (3, .int r_24), (0, .ref h), (1, .ref o), (2, .int x)]) hx hb dX10_follow_68 hl (by decide) rfl (fun ls hl => ?_)
    obtain ⟨a1_25, a2_26, rfl⟩ := h_22
    have G : zS T A s.heap s [w2_3, z, [(h, .inr (9, [.ref po, .ref a1_25, .ref a2_26, .int (zSeen cr inn k1 k2 (1 <<< (x &&& 31)) 7), .int 0, .int x, .int u3_21, .int (-1)]))], [(a1_25, .inl (T.2 0, 7, .inl s1_20))], [(a2_26, .inl (T.2 0, 7, .inl x2))]] _ _ := G.re rfl
    obtain ⟨a1_27, a2_28, a3_29, rfl⟩ := h_7
    have G : zS T A s.heap s [[(po, .inr (6, [.ref o, .ref a1_27, .ref a2_28, .int 0, .int 0, .ref a3_29]))], [(a1_27, .inl (T.2 0, 7, .inl g1_4))], [(a2_28, .inl (T.2 0, 7, .inl g2_5))], [(a3_29, .inl (T.2 0, 7, .inl g3_6))], z, [(h, .inr (9, [.ref po, .ref a1_25, .ref a2_26, .int (zSeen cr inn k1 k2 (1 <<< (x &&& 31)) 7), .int 0, .int x, .int u3_21, .int (-1)]))], [(a1_25, .inl (T.2 0, 7, .inl s1_20))], [(a2_26, .inl (T.2 0, 7, .inl x2))]] _ _ := G.re rfl
    have hw_30 : bTrail T h po s1_20 x2 (zSeen cr inn k1 k2 (1 <<< (x &&& 31)) 7) 0 x u3_21 (-1) [(h, .inr (9, [.ref po, .ref a1_25, .ref a2_26, .int (zSeen cr inn k1 k2 (1 <<< (x &&& 31)) 7), .int 0, .int x, .int u3_21, .int (-1)])), (a1_25, .inl (T.2 0, 7, .inl s1_20)), (a2_26, .inl (T.2 0, 7, .inl x2))] := ⟨a1_25, a2_26, rfl⟩
    have G : zS T A s.heap s [[(po, .inr (6, [.ref o, .ref a1_27, .ref a2_28, .int 0, .int 0, .ref a3_29]))], [(a1_27, .inl (T.2 0, 7, .inl g1_4))], [(a2_28, .inl (T.2 0, 7, .inl g2_5))], [(a3_29, .inl (T.2 0, 7, .inl g3_6))], z, [(h, .inr (9, [.ref po, .ref a1_25, .ref a2_26, .int (zSeen cr inn k1 k2 (1 <<< (x &&& 31)) 7), .int 0, .int x, .int u3_21, .int (-1)])), (a1_25, .inl (T.2 0, 7, .inl s1_20)), (a2_26, .inl (T.2 0, 7, .inl x2))]] _ _ := G.re rfl
    have hw_31 : bPosts T po o g1_4 g2_5 g3_6 0 0 [(po, .inr (6, [.ref o, .ref a1_27, .ref a2_28, .int 0, .int 0, .ref a3_29])), (a1_27, .inl (T.2 0, 7, .inl g1_4)), (a2_28, .inl (T.2 0, 7, .inl g2_5)), (a3_29, .inl (T.2 0, 7, .inl g3_6))] := ⟨a1_27, a2_28, a3_29, rfl⟩
    have G : zS T A s.heap s [[(po, .inr (6, [.ref o, .ref a1_27, .ref a2_28, .int 0, .int 0, .ref a3_29])), (a1_27, .inl (T.2 0, 7, .inl g1_4)), (a2_28, .inl (T.2 0, 7, .inl g2_5)), (a3_29, .inl (T.2 0, 7, .inl g3_6))], z, [(h, .inr (9, [.ref po, .ref a1_25, .ref a2_26, .int (zSeen cr inn k1 k2 (1 <<< (x &&& 31)) 7), .int 0, .int x, .int u3_21, .int (-1)])), (a1_25, .inl (T.2 0, 7, .inl s1_20)), (a2_26, .inl (T.2 0, 7, .inl x2))]] _ _ := G.re rfl
    refine z_loop (T := T) (α := Nat × Int32 × va_W × (Nat → Int32) × (Nat → Int32) × Int32 × Int32 × Int32 × Int32 × va_W × (Nat → Int32)) 70 (fun (i, sn, wt3, x1, x2, y0, y2, y3, y4, wp3, xf) => [wp3, z, wt3]) (fun (i, sn, wt3, x1, x2, y0, y2, y3, y4, wp3, xf) => [(4, .int (nI i)), (3, .int sn), (0, .ref h), (1, .ref o), (2, .int x)]) (fun (i, sn, wt3, x1, x2, y0, y2, y3, y4, wp3, xf) => bPosts T po o xf g2_5 g3_6 0 0 wp3 ∧ bTrail T h po x1 x2 y0 (nI i) y2 y3 y4 wt3 ∧ i ≤ 499 ∧ zP3 xf g3_6 ∧ zRunN g2_5 g3_6 k2 499 g1_4 x 0 = zRunN g2_5 g3_6 k2 (499 - i) xf y2 i ∧ zWasN g2_5 g3_6 k2 499 g1_4 x s1_20 = zWasN g2_5 g3_6 k2 (499 - i) xf y2 x1) (fun (i, sn, wt3, x1, x2, y0, y2, y3, y4, wp3, xf) => 499 - i) ?_ (0, r_24, ([(h, .inr (9, [.ref po, .ref a1_25, .ref a2_26, .int (zSeen cr inn k1 k2 (1 <<< (x &&& 31)) 7), .int 0, .int x, .int u3_21, .int (-1)])), (a1_25, .inl (T.2 0, 7, .inl s1_20)), (a2_26, .inl (T.2 0, 7, .inl x2))]), s1_20, x2, (zSeen cr inn k1 k2 (1 <<< (x &&& 31)) 7), x, u3_21, (-1), ([(po, .inr (6, [.ref o, .ref a1_27, .ref a2_28, .int 0, .int 0, .ref a3_29])), (a1_27, .inl (T.2 0, 7, .inl g1_4)), (a2_28, .inl (T.2 0, 7, .inl g2_5)), (a3_29, .inl (T.2 0, 7, .inl g3_6))]), g1_4) (show bPosts T po o g1_4 g2_5 g3_6 0 0 ([(po, .inr (6, [.ref o, .ref a1_27, .ref a2_28, .int 0, .int 0, .ref a3_29])), (a1_27, .inl (T.2 0, 7, .inl g1_4)), (a2_28, .inl (T.2 0, 7, .inl g2_5)), (a3_29, .inl (T.2 0, 7, .inl g3_6))]) ∧ bTrail T h po s1_20 x2 (zSeen cr inn k1 k2 (1 <<< (x &&& 31)) 7) (nI 0) x u3_21 (-1) ([(h, .inr (9, [.ref po, .ref a1_25, .ref a2_26, .int (zSeen cr inn k1 k2 (1 <<< (x &&& 31)) 7), .int 0, .int x, .int u3_21, .int (-1)])), (a1_25, .inl (T.2 0, 7, .inl s1_20)), (a2_26, .inl (T.2 0, 7, .inl x2))]) ∧ 0 ≤ 499 ∧ zP3 g1_4 g3_6 ∧ zRunN g2_5 g3_6 k2 499 g1_4 x 0 = zRunN g2_5 g3_6 k2 (499 - 0) g1_4 x 0 ∧ zWasN g2_5 g3_6 k2 499 g1_4 x s1_20 = zWasN g2_5 g3_6 k2 (499 - 0) g1_4 x s1_20 from ⟨hw_31, hw_30, by omega, hQ, rfl, rfl⟩) G (lv_sub hl [0, 1, 2, 3, 4] rfl)
    rintro ⟨i, sn, wt3, x1, x2, y0, y2, y3, y4, wp3, xf⟩ ⟨hp3, ht3, hi, hQx, hR, hW⟩ ih_70 H locs ls G hl
    replace hp3 : bPosts T po o xf g2_5 g3_6 0 0 wp3 := hp3
    replace ht3 : bTrail T h po x1 x2 y0 (nI i) y2 y3 y4 wt3 := ht3
    replace hi : i ≤ 499 := hi
    replace hQx : zP3 xf g3_6 := hQx
    replace hR : zRunN g2_5 g3_6 k2 499 g1_4 x 0 = zRunN g2_5 g3_6 k2 (499 - i) xf y2 i := hR
    replace hW : zWasN g2_5 g3_6 k2 499 g1_4 x s1_20 = zWasN g2_5 g3_6 k2 (499 - i) xf y2 x1 := hW
    replace G : zS T A s.heap s [wp3, z, wt3] _ _ := G
    replace hl : lv_has ls 6 [(4, .int (nI i)), (3, .int sn), (0, .ref h), (1, .ref o), (2, .int x)] := hl
    refine lv_iload hx hb dX10_follow_70 (lv_at hl 0 rfl) ?_
    refine lv_sipush (v := 499) hx hb dX10_follow_72 (by decide) ?_
    refine lv_icmp_ge (tgt := 177) hx hb dX10_follow_75 (by decide) (fun c_32 => ?_) (fun c_32 => ?_)
    · have c_32n : 499 ≤ i := (nI_leI (a := 499) (b := i) (by omega) (by omega)).mp c_32
      have G := G.sub (bs' := [wt3, wp3, z]) [2, 0, 1] rfl
      exact z_vret C hr hlocks G (Nat.le_of_ble_eq_true rfl) (Nat.le_of_ble_eq_true rfl) dX10_follow_177 ⟨wt3, x1, x2, y0, (nI i), y2, y3, y4, wp3, xf, g2_5, g3_6, 0, 0, rfl, ht3, hp3, hQx, ⟨g1_4, ⟨hQ, h_8, h_9, h_10⟩, ⟨by rw [hR, show 499 - i = 0 by omega, zRunN], by rw [hR, show 499 - i = 0 by omega, zRunN]⟩, ⟨s1_20, hW0, by rw [hW, show 499 - i = 0 by omega, zWasN]⟩⟩⟩
    · have c_32n : ¬ 499 ≤ i := fun q => c_32 ((nI_leI (a := 499) (b := i) (by omega) (by omega)).mpr q)
      refine lv_aload_n hx hb dX10_follow_78 rfl (lv_at hl 2 rfl) ?_
      obtain ⟨a1_33, a2_34, rfl⟩ := ht3
      have G : zS T A s.heap s [wp3, z, [(h, .inr (9, [.ref po, .ref a1_33, .ref a2_34, .int y0, .int (nI i), .int y2, .int y3, .int y4]))], [(a1_33, .inl (T.2 0, 7, .inl x1))], [(a2_34, .inl (T.2 0, 7, .inl x2))]] _ _ := G.re rfl
      refine z_get C G clX10 2 rfl 0 (by decide) m_fl_RX10_12 rfl dX10_follow_79 ?_
      refine lv_aload_n hx hb dX10_follow_82 rfl (lv_at hl 2 rfl) ?_
      refine z_get C G clX10 2 rfl 5 (by decide) m_fl_RX10_51 rfl dX10_follow_83 ?_
      refine z_Vi (bc := [wp3, z]) (br := [[(h, .inr (9, [.ref po, .ref a1_33, .ref a2_34, .int y0, .int (nI i), .int y2, .int y3, .int y4]))], [(a1_33, .inl (T.2 0, 7, .inl x1))], [(a2_34, .inl (T.2 0, 7, .inl x2))]]) (As := [.int y2]) (rest := []) C G (c_step l T po o xf g2_5 g3_6 0 0 wp3 cr inn k1 k2 k3 k4 z y2 hp3 hz hQx) (kV_RX10_54 C.2.2.2.2 (Nat.le_of_ble_eq_true rfl) (Nat.le_of_ble_eq_true rfl)) [0, 1] [2, 3, 4] rfl rfl (ci := 6) (qc := (RX6, TX6, 6)) rfl rfl (List.mem_flatten.mpr ⟨_, List.mem_of_getElem? (i := 0) rfl, (bPosts_mem hp3).choose_spec⟩) rfl rfl hl.1 dX10_follow_86 (Nat.le_of_ble_eq_true rfl) (Nat.le_of_ble_eq_true rfl) (fun r_40 b1 H locs hw G => ?_)
      obtain ⟨w2_35, g1_36, rfl, h_37, h_38, h_39⟩ := hw
      have G : zS T A s.heap s [[(h, .inr (9, [.ref po, .ref a1_33, .ref a2_34, .int y0, .int (nI i), .int y2, .int y3, .int y4]))], [(a1_33, .inl (T.2 0, 7, .inl x1))], [(a2_34, .inl (T.2 0, 7, .inl x2))], w2_35, z] _ _ := G
      subst h_37
      have hQ2 : zP3 g1_36 g3_6 := by rw [h_39]; exact zPost_I hQx _
      refine lv_istore (lv' := [(5, .int (zStep xf g2_5 g3_6 k2 y2)), (4, .int (nI i)), (3, .int sn), (0, .ref h), (1, .ref o), (2, .int x)]) hx hb dX10_follow_89 hl (by decide) rfl (fun ls hl => ?_)
      refine lv_iload hx hb dX10_follow_91 (lv_at hl 0 rfl) ?_
      refine lv_iconst (v := (-1)) hx hb dX10_follow_93 (by decide) ?_
      refine lv_icmp_ne (tgt := 98) hx hb dX10_follow_94 (by decide) (fun c_41 => ?_) (fun c_41 => ?_)
      · have c_41n : ¬ (zStep xf g2_5 g3_6 k2 y2).toInt = (-1 : Int) := fun q => c_41 ((fa_eq _ _).mpr q)
        refine lv_aload_n hx hb dX10_follow_98 rfl (lv_at hl 3 rfl) ?_
        refine z_get C G clX10 0 rfl 2 (by decide) m_fl_RX10_22 rfl dX10_follow_99 ?_
        refine lv_aload_n hx hb dX10_follow_102 rfl (lv_at hl 3 rfl) ?_
        refine z_get C G clX10 0 rfl 5 (by decide) m_fl_RX10_51 rfl dX10_follow_103 ?_
        refine lv_dup2_11 hx hb dX10_follow_106 rfl rfl ?_
        refine z_ild C G 2 rfl (vp_in_iff.mpr ⟨(zStep_in hQx (by assumption)).1, (zStep_in hQx (by assumption)).2.1⟩) dX10_follow_107 ?_
        refine lv_topi (fun v_42 ev_42 => ?_)
        subst ev_42
        refine lv_iconst (v := 1) hx hb dX10_follow_108 (by decide) ?_
        refine lv_aload_n hx hb dX10_follow_109 rfl (lv_at hl 3 rfl) ?_
        refine z_get C G clX10 0 rfl 0 (by decide) m_fl_RX10_12 rfl dX10_follow_110 ?_
        obtain ⟨a1_43, a2_44, a3_45, rfl⟩ := h_38
        have G : zS T A s.heap s [[(h, .inr (9, [.ref po, .ref a1_33, .ref a2_34, .int y0, .int (nI i), .int y2, .int y3, .int y4]))], [(a1_33, .inl (T.2 0, 7, .inl x1))], [(a2_34, .inl (T.2 0, 7, .inl x2))], [(po, .inr (6, [.ref o, .ref a1_43, .ref a2_44, .int 0, .int 0, .ref a3_45]))], [(a1_43, .inl (T.2 0, 7, .inl g1_36))], [(a2_44, .inl (T.2 0, 7, .inl g2_5))], [(a3_45, .inl (T.2 0, 7, .inl g3_6))], z] _ _ := G.re rfl
        refine z_get C G clX6 3 rfl 1 (by decide) m_fl_RX10_58 rfl dX10_follow_113 ?_
        refine lv_aload_n hx hb dX10_follow_116 rfl (lv_at hl 3 rfl) ?_
        refine z_get C G clX10 0 rfl 5 (by decide) m_fl_RX10_51 rfl dX10_follow_117 ?_
        refine z_ild C G 4 rfl (vp_in_iff.mpr ⟨(zStep_in hQx (by assumption)).1, (zStep_in hQx (by assumption)).2.1⟩) dX10_follow_120 ?_
        refine lv_topi (fun v_46 ev_46 => ?_)
        subst ev_46
        refine lv_ishl hx hb dX10_follow_121 ?_
        refine lv_ior hx hb dX10_follow_122 ?_
        refine z_ist C G 2 rfl (vp_in_iff.mpr ⟨(zStep_in hQx (by assumption)).1, (zStep_in hQx (by assumption)).2.1⟩) dX10_follow_123 (fun H locs G => ?_)
        have G : zS T A s.heap s [[(h, .inr (9, [.ref po, .ref a1_33, .ref a2_34, .int y0, .int (nI i), .int y2, .int y3, .int y4]))], [(a1_33, .inl (T.2 0, 7, .inl x1))], [(a2_34, .inl (T.2 0, 7, .inl (upd x2 y2.toNatClampNeg ((x2 y2.toNatClampNeg) ||| (1 <<< ((g1_36 y2.toNatClampNeg) &&& 31))))))], [(po, .inr (6, [.ref o, .ref a1_43, .ref a2_44, .int 0, .int 0, .ref a3_45]))], [(a1_43, .inl (T.2 0, 7, .inl g1_36))], [(a2_44, .inl (T.2 0, 7, .inl g2_5))], [(a3_45, .inl (T.2 0, 7, .inl g3_6))], z] _ _ := G
        refine lv_aload_n hx hb dX10_follow_124 rfl (lv_at hl 3 rfl) ?_
        refine lv_dup hx hb dX10_follow_125 rfl ?_
        refine z_get C G clX10 0 rfl 4 (by decide) m_fl_RX10_38 rfl dX10_follow_126 ?_
        refine lv_iconst (v := 1) hx hb dX10_follow_129 (by decide) ?_
        refine lv_iadd hx hb dX10_follow_130 ?_
        refine lv_topi (fun y_47 ey_47 => ?_)
        obtain rfl : y_47 = nI (i + 1) := ey_47.trans (z_iaddn i 1 rfl rfl)
        refine z_put C G clX10 0 rfl 4 (by decide) m_fl_RX10_38 rfl rfl rfl (Nat.le_of_ble_eq_true rfl) dX10_follow_131 (fun H locs G => ?_)
        have G : zS T A s.heap s [[(h, .inr (9, [.ref po, .ref a1_33, .ref a2_34, .int y0, .int (nI (i + 1)), .int y2, .int y3, .int y4]))], [(a1_33, .inl (T.2 0, 7, .inl x1))], [(a2_34, .inl (T.2 0, 7, .inl (upd x2 y2.toNatClampNeg ((x2 y2.toNatClampNeg) ||| (1 <<< ((g1_36 y2.toNatClampNeg) &&& 31))))))], [(po, .inr (6, [.ref o, .ref a1_43, .ref a2_44, .int 0, .int 0, .ref a3_45]))], [(a1_43, .inl (T.2 0, 7, .inl g1_36))], [(a2_44, .inl (T.2 0, 7, .inl g2_5))], [(a3_45, .inl (T.2 0, 7, .inl g3_6))], z] _ _ := G
        refine lv_aload_n hx hb dX10_follow_134 rfl (lv_at hl 3 rfl) ?_
        refine lv_iload hx hb dX10_follow_135 (lv_at hl 0 rfl) ?_
        refine lv_iload_n hx hb dX10_follow_137 rfl (lv_at hl 5 rfl) ?_
        refine lv_icmp_ne (tgt := 156) hx hb dX10_follow_138 (by decide) (fun c_48 => ?_) (fun c_48 => ?_)
        · have c_48n : ¬ (zStep xf g2_5 g3_6 k2 y2).toInt = x.toInt := fun q => c_48 ((fa_eq _ _).mpr q)
          refine lv_aload_n hx hb dX10_follow_156 rfl (lv_at hl 3 rfl) ?_
          refine z_get C G clX10 0 rfl 7 (by decide) m_fl_RX10_41 rfl dX10_follow_157 ?_
          refine z_put C G clX10 0 rfl 7 (by decide) m_fl_RX10_41 rfl rfl rfl (Nat.le_of_ble_eq_true rfl) dX10_follow_160 (fun H locs G => ?_)
          have G : zS T A s.heap s [[(h, .inr (9, [.ref po, .ref a1_33, .ref a2_34, .int y0, .int (nI (i + 1)), .int y2, .int y3, .int y4]))], [(a1_33, .inl (T.2 0, 7, .inl x1))], [(a2_34, .inl (T.2 0, 7, .inl (upd x2 y2.toNatClampNeg ((x2 y2.toNatClampNeg) ||| (1 <<< ((g1_36 y2.toNatClampNeg) &&& 31))))))], [(po, .inr (6, [.ref o, .ref a1_43, .ref a2_44, .int 0, .int 0, .ref a3_45]))], [(a1_43, .inl (T.2 0, 7, .inl g1_36))], [(a2_44, .inl (T.2 0, 7, .inl g2_5))], [(a3_45, .inl (T.2 0, 7, .inl g3_6))], z] _ _ := G
          refine lv_aload_n hx hb dX10_follow_163 rfl (lv_at hl 3 rfl) ?_
          refine lv_iload hx hb dX10_follow_164 (lv_at hl 0 rfl) ?_
          refine lv_iload_n hx hb dX10_follow_166 rfl (lv_at hl 2 rfl) ?_
          have hw_49 : bTrail T h po x1 (upd x2 y2.toNatClampNeg ((x2 y2.toNatClampNeg) ||| (1 <<< ((g1_36 y2.toNatClampNeg) &&& 31)))) y0 (nI (i + 1)) y2 y3 y4 [(h, .inr (9, [.ref po, .ref a1_33, .ref a2_34, .int y0, .int (nI (i + 1)), .int y2, .int y3, .int y4])), (a1_33, .inl (T.2 0, 7, .inl x1)), (a2_34, .inl (T.2 0, 7, .inl (upd x2 y2.toNatClampNeg ((x2 y2.toNatClampNeg) ||| (1 <<< ((g1_36 y2.toNatClampNeg) &&& 31))))))] := ⟨a1_33, a2_34, rfl⟩
          have G : zS T A s.heap s [[(h, .inr (9, [.ref po, .ref a1_33, .ref a2_34, .int y0, .int (nI (i + 1)), .int y2, .int y3, .int y4])), (a1_33, .inl (T.2 0, 7, .inl x1)), (a2_34, .inl (T.2 0, 7, .inl (upd x2 y2.toNatClampNeg ((x2 y2.toNatClampNeg) ||| (1 <<< ((g1_36 y2.toNatClampNeg) &&& 31))))))], [(po, .inr (6, [.ref o, .ref a1_43, .ref a2_44, .int 0, .int 0, .ref a3_45]))], [(a1_43, .inl (T.2 0, 7, .inl g1_36))], [(a2_44, .inl (T.2 0, 7, .inl g2_5))], [(a3_45, .inl (T.2 0, 7, .inl g3_6))], z] _ _ := G.re rfl
          refine z_Vi (bc := [[(h, .inr (9, [.ref po, .ref a1_33, .ref a2_34, .int y0, .int (nI (i + 1)), .int y2, .int y3, .int y4])), (a1_33, .inl (T.2 0, 7, .inl x1)), (a2_34, .inl (T.2 0, 7, .inl (upd x2 y2.toNatClampNeg ((x2 y2.toNatClampNeg) ||| (1 <<< ((g1_36 y2.toNatClampNeg) &&& 31))))))]]) (br := [[(po, .inr (6, [.ref o, .ref a1_43, .ref a2_44, .int 0, .int 0, .ref a3_45]))], [(a1_43, .inl (T.2 0, 7, .inl g1_36))], [(a2_44, .inl (T.2 0, 7, .inl g2_5))], [(a3_45, .inl (T.2 0, 7, .inl g3_6))], z]) (As := [.int (zStep xf g2_5 g3_6 k2 y2), .int sn]) (rest := []) C G (c_f_arrive l T h po x1 (upd x2 y2.toNatClampNeg ((x2 y2.toNatClampNeg) ||| (1 <<< ((g1_36 y2.toNatClampNeg) &&& 31)))) y0 (nI (i + 1)) y2 y3 y4 ([(h, .inr (9, [.ref po, .ref a1_33, .ref a2_34, .int y0, .int (nI (i + 1)), .int y2, .int y3, .int y4])), (a1_33, .inl (T.2 0, 7, .inl x1)), (a2_34, .inl (T.2 0, 7, .inl (upd x2 y2.toNatClampNeg ((x2 y2.toNatClampNeg) ||| (1 <<< ((g1_36 y2.toNatClampNeg) &&& 31))))))]) (zStep xf g2_5 g3_6 k2 y2) sn hw_49) (kV_RX10_47 C.2.2.2.2 (Nat.le_of_ble_eq_true rfl) (Nat.le_of_ble_eq_true rfl)) [0] [1, 2, 3, 4, 5] rfl rfl (ci := 9) (qc := (RX10, TX10, 8)) rfl rfl (List.mem_flatten.mpr ⟨_, List.mem_of_getElem? (i := 0) rfl, (bTrail_mem hw_49).choose_spec⟩) rfl rfl hl.1 dX10_follow_167 (Nat.le_of_ble_eq_true rfl) (Nat.le_of_ble_eq_true rfl) (fun r_55 b1 H locs hw G => ?_)
          obtain ⟨wt2_50, s1_51, u3_52, rfl, h_53, h_54⟩ := hw
          have G : zS T A s.heap s [[(po, .inr (6, [.ref o, .ref a1_43, .ref a2_44, .int 0, .int 0, .ref a3_45]))], [(a1_43, .inl (T.2 0, 7, .inl g1_36))], [(a2_44, .inl (T.2 0, 7, .inl g2_5))], [(a3_45, .inl (T.2 0, 7, .inl g3_6))], z, wt2_50] _ _ := G
          refine lv_istore_n (lv' := [(3, .int r_55), (5, .int (zStep xf g2_5 g3_6 k2 y2)), (4, .int (nI i)), (0, .ref h), (1, .ref o), (2, .int x)]) hx hb dX10_follow_170 rfl hl (by decide) rfl (fun ls hl => ?_)
          refine lv_iinc (v := nI (i + 1)) (lv' := [(4, .int (nI (i + 1))), (3, .int r_55), (5, .int (zStep xf g2_5 g3_6 k2 y2)), (0, .ref h), (1, .ref o), (2, .int x)]) hx hb dX10_follow_171 hl (k := 2) rfl (z_inc i 1) (by decide) rfl (fun ls hl => ?_)
          refine lv_goto (tgt := 70) hx hb dX10_follow_174 (by decide) ?_
          have hw_56 : bPosts T po o g1_36 g2_5 g3_6 0 0 [(po, .inr (6, [.ref o, .ref a1_43, .ref a2_44, .int 0, .int 0, .ref a3_45])), (a1_43, .inl (T.2 0, 7, .inl g1_36)), (a2_44, .inl (T.2 0, 7, .inl g2_5)), (a3_45, .inl (T.2 0, 7, .inl g3_6))] := ⟨a1_43, a2_44, a3_45, rfl⟩
          have G : zS T A s.heap s [[(po, .inr (6, [.ref o, .ref a1_43, .ref a2_44, .int 0, .int 0, .ref a3_45])), (a1_43, .inl (T.2 0, 7, .inl g1_36)), (a2_44, .inl (T.2 0, 7, .inl g2_5)), (a3_45, .inl (T.2 0, 7, .inl g3_6))], z, wt2_50] _ _ := G.re rfl
          exact ih_70 ((i + 1), r_55, wt2_50, s1_51, (upd x2 y2.toNatClampNeg ((x2 y2.toNatClampNeg) ||| (1 <<< ((g1_36 y2.toNatClampNeg) &&& 31)))), y0, (zStep xf g2_5 g3_6 k2 y2), u3_52, y4, ([(po, .inr (6, [.ref o, .ref a1_43, .ref a2_44, .int 0, .int 0, .ref a3_45])), (a1_43, .inl (T.2 0, 7, .inl g1_36)), (a2_44, .inl (T.2 0, 7, .inl g2_5)), (a3_45, .inl (T.2 0, 7, .inl g3_6))]), g1_36) (show bPosts T po o g1_36 g2_5 g3_6 0 0 ([(po, .inr (6, [.ref o, .ref a1_43, .ref a2_44, .int 0, .int 0, .ref a3_45])), (a1_43, .inl (T.2 0, 7, .inl g1_36)), (a2_44, .inl (T.2 0, 7, .inl g2_5)), (a3_45, .inl (T.2 0, 7, .inl g3_6))]) ∧ bTrail T h po s1_51 (upd x2 y2.toNatClampNeg ((x2 y2.toNatClampNeg) ||| (1 <<< ((g1_36 y2.toNatClampNeg) &&& 31)))) y0 (nI (i + 1)) (zStep xf g2_5 g3_6 k2 y2) u3_52 y4 wt2_50 ∧ (i + 1) ≤ 499 ∧ zP3 g1_36 g3_6 ∧ zRunN g2_5 g3_6 k2 499 g1_4 x 0 = zRunN g2_5 g3_6 k2 (499 - (i + 1)) g1_36 (zStep xf g2_5 g3_6 k2 y2) (i + 1) ∧ zWasN g2_5 g3_6 k2 499 g1_4 x s1_20 = zWasN g2_5 g3_6 k2 (499 - (i + 1)) g1_36 (zStep xf g2_5 g3_6 k2 y2) s1_51 from ⟨hw_56, h_53, by omega, hQ2, (by rw [hR, show 499 - i = (499 - (i + 1)) + 1 by omega, zRunN, if_neg (by assumption), ← h_39]), (by rw [hW, show 499 - i = (499 - (i + 1)) + 1 by omega, zWasN, if_neg (by assumption), ← h_39, ← h_54])⟩) (show 499 - (i + 1) < 499 - i from by omega) _ _ ls G (lv_sub hl [0, 1, 3, 4, 5] rfl)
        · have c_48n : (zStep xf g2_5 g3_6 k2 y2).toInt = x.toInt := (fa_eq _ _).mp c_48
          refine lv_aload_n hx hb dX10_follow_141 rfl (lv_at hl 3 rfl) ?_
          refine z_get C G clX10 0 rfl 7 (by decide) m_fl_RX10_41 rfl dX10_follow_142 ?_
          refine lv_iconst (v := (-1)) hx hb dX10_follow_145 (by decide) ?_
          refine lv_icmp_ne (tgt := 156) hx hb dX10_follow_146 (by decide) (fun c_57 => ?_) (fun c_57 => ?_)
          · have c_57n : ¬ y4.toInt = (-1 : Int) := fun q => c_57 ((fa_eq _ _).mpr q)
            refine lv_aload_n hx hb dX10_follow_156 rfl (lv_at hl 3 rfl) ?_
            refine z_get C G clX10 0 rfl 7 (by decide) m_fl_RX10_41 rfl dX10_follow_157 ?_
            refine z_put C G clX10 0 rfl 7 (by decide) m_fl_RX10_41 rfl rfl rfl (Nat.le_of_ble_eq_true rfl) dX10_follow_160 (fun H locs G => ?_)
            have G : zS T A s.heap s [[(h, .inr (9, [.ref po, .ref a1_33, .ref a2_34, .int y0, .int (nI (i + 1)), .int y2, .int y3, .int y4]))], [(a1_33, .inl (T.2 0, 7, .inl x1))], [(a2_34, .inl (T.2 0, 7, .inl (upd x2 y2.toNatClampNeg ((x2 y2.toNatClampNeg) ||| (1 <<< ((g1_36 y2.toNatClampNeg) &&& 31))))))], [(po, .inr (6, [.ref o, .ref a1_43, .ref a2_44, .int 0, .int 0, .ref a3_45]))], [(a1_43, .inl (T.2 0, 7, .inl g1_36))], [(a2_44, .inl (T.2 0, 7, .inl g2_5))], [(a3_45, .inl (T.2 0, 7, .inl g3_6))], z] _ _ := G
            refine lv_aload_n hx hb dX10_follow_163 rfl (lv_at hl 3 rfl) ?_
            refine lv_iload hx hb dX10_follow_164 (lv_at hl 0 rfl) ?_
            refine lv_iload_n hx hb dX10_follow_166 rfl (lv_at hl 2 rfl) ?_
            have hw_58 : bTrail T h po x1 (upd x2 y2.toNatClampNeg ((x2 y2.toNatClampNeg) ||| (1 <<< ((g1_36 y2.toNatClampNeg) &&& 31)))) y0 (nI (i + 1)) y2 y3 y4 [(h, .inr (9, [.ref po, .ref a1_33, .ref a2_34, .int y0, .int (nI (i + 1)), .int y2, .int y3, .int y4])), (a1_33, .inl (T.2 0, 7, .inl x1)), (a2_34, .inl (T.2 0, 7, .inl (upd x2 y2.toNatClampNeg ((x2 y2.toNatClampNeg) ||| (1 <<< ((g1_36 y2.toNatClampNeg) &&& 31))))))] := ⟨a1_33, a2_34, rfl⟩
            have G : zS T A s.heap s [[(h, .inr (9, [.ref po, .ref a1_33, .ref a2_34, .int y0, .int (nI (i + 1)), .int y2, .int y3, .int y4])), (a1_33, .inl (T.2 0, 7, .inl x1)), (a2_34, .inl (T.2 0, 7, .inl (upd x2 y2.toNatClampNeg ((x2 y2.toNatClampNeg) ||| (1 <<< ((g1_36 y2.toNatClampNeg) &&& 31))))))], [(po, .inr (6, [.ref o, .ref a1_43, .ref a2_44, .int 0, .int 0, .ref a3_45]))], [(a1_43, .inl (T.2 0, 7, .inl g1_36))], [(a2_44, .inl (T.2 0, 7, .inl g2_5))], [(a3_45, .inl (T.2 0, 7, .inl g3_6))], z] _ _ := G.re rfl
            refine z_Vi (bc := [[(h, .inr (9, [.ref po, .ref a1_33, .ref a2_34, .int y0, .int (nI (i + 1)), .int y2, .int y3, .int y4])), (a1_33, .inl (T.2 0, 7, .inl x1)), (a2_34, .inl (T.2 0, 7, .inl (upd x2 y2.toNatClampNeg ((x2 y2.toNatClampNeg) ||| (1 <<< ((g1_36 y2.toNatClampNeg) &&& 31))))))]]) (br := [[(po, .inr (6, [.ref o, .ref a1_43, .ref a2_44, .int 0, .int 0, .ref a3_45]))], [(a1_43, .inl (T.2 0, 7, .inl g1_36))], [(a2_44, .inl (T.2 0, 7, .inl g2_5))], [(a3_45, .inl (T.2 0, 7, .inl g3_6))], z]) (As := [.int (zStep xf g2_5 g3_6 k2 y2), .int sn]) (rest := []) C G (c_f_arrive l T h po x1 (upd x2 y2.toNatClampNeg ((x2 y2.toNatClampNeg) ||| (1 <<< ((g1_36 y2.toNatClampNeg) &&& 31)))) y0 (nI (i + 1)) y2 y3 y4 ([(h, .inr (9, [.ref po, .ref a1_33, .ref a2_34, .int y0, .int (nI (i + 1)), .int y2, .int y3, .int y4])), (a1_33, .inl (T.2 0, 7, .inl x1)), (a2_34, .inl (T.2 0, 7, .inl (upd x2 y2.toNatClampNeg ((x2 y2.toNatClampNeg) ||| (1 <<< ((g1_36 y2.toNatClampNeg) &&& 31))))))]) (zStep xf g2_5 g3_6 k2 y2) sn hw_58) (kV_RX10_47 C.2.2.2.2 (Nat.le_of_ble_eq_true rfl) (Nat.le_of_ble_eq_true rfl)) [0] [1, 2, 3, 4, 5] rfl rfl (ci := 9) (qc := (RX10, TX10, 8)) rfl rfl (List.mem_flatten.mpr ⟨_, List.mem_of_getElem? (i := 0) rfl, (bTrail_mem hw_58).choose_spec⟩) rfl rfl hl.1 dX10_follow_167 (Nat.le_of_ble_eq_true rfl) (Nat.le_of_ble_eq_true rfl) (fun r_64 b1 H locs hw G => ?_)
            obtain ⟨wt2_59, s1_60, u3_61, rfl, h_62, h_63⟩ := hw
            have G : zS T A s.heap s [[(po, .inr (6, [.ref o, .ref a1_43, .ref a2_44, .int 0, .int 0, .ref a3_45]))], [(a1_43, .inl (T.2 0, 7, .inl g1_36))], [(a2_44, .inl (T.2 0, 7, .inl g2_5))], [(a3_45, .inl (T.2 0, 7, .inl g3_6))], z, wt2_59] _ _ := G
            refine lv_istore_n (lv' := [(3, .int r_64), (5, .int (zStep xf g2_5 g3_6 k2 y2)), (4, .int (nI i)), (0, .ref h), (1, .ref o), (2, .int x)]) hx hb dX10_follow_170 rfl hl (by decide) rfl (fun ls hl => ?_)
            refine lv_iinc (v := nI (i + 1)) (lv' := [(4, .int (nI (i + 1))), (3, .int r_64), (5, .int (zStep xf g2_5 g3_6 k2 y2)), (0, .ref h), (1, .ref o), (2, .int x)]) hx hb dX10_follow_171 hl (k := 2) rfl (z_inc i 1) (by decide) rfl (fun ls hl => ?_)
            refine lv_goto (tgt := 70) hx hb dX10_follow_174 (by decide) ?_
            have hw_65 : bPosts T po o g1_36 g2_5 g3_6 0 0 [(po, .inr (6, [.ref o, .ref a1_43, .ref a2_44, .int 0, .int 0, .ref a3_45])), (a1_43, .inl (T.2 0, 7, .inl g1_36)), (a2_44, .inl (T.2 0, 7, .inl g2_5)), (a3_45, .inl (T.2 0, 7, .inl g3_6))] := ⟨a1_43, a2_44, a3_45, rfl⟩
            have G : zS T A s.heap s [[(po, .inr (6, [.ref o, .ref a1_43, .ref a2_44, .int 0, .int 0, .ref a3_45])), (a1_43, .inl (T.2 0, 7, .inl g1_36)), (a2_44, .inl (T.2 0, 7, .inl g2_5)), (a3_45, .inl (T.2 0, 7, .inl g3_6))], z, wt2_59] _ _ := G.re rfl
            exact ih_70 ((i + 1), r_64, wt2_59, s1_60, (upd x2 y2.toNatClampNeg ((x2 y2.toNatClampNeg) ||| (1 <<< ((g1_36 y2.toNatClampNeg) &&& 31)))), y0, (zStep xf g2_5 g3_6 k2 y2), u3_61, y4, ([(po, .inr (6, [.ref o, .ref a1_43, .ref a2_44, .int 0, .int 0, .ref a3_45])), (a1_43, .inl (T.2 0, 7, .inl g1_36)), (a2_44, .inl (T.2 0, 7, .inl g2_5)), (a3_45, .inl (T.2 0, 7, .inl g3_6))]), g1_36) (show bPosts T po o g1_36 g2_5 g3_6 0 0 ([(po, .inr (6, [.ref o, .ref a1_43, .ref a2_44, .int 0, .int 0, .ref a3_45])), (a1_43, .inl (T.2 0, 7, .inl g1_36)), (a2_44, .inl (T.2 0, 7, .inl g2_5)), (a3_45, .inl (T.2 0, 7, .inl g3_6))]) ∧ bTrail T h po s1_60 (upd x2 y2.toNatClampNeg ((x2 y2.toNatClampNeg) ||| (1 <<< ((g1_36 y2.toNatClampNeg) &&& 31)))) y0 (nI (i + 1)) (zStep xf g2_5 g3_6 k2 y2) u3_61 y4 wt2_59 ∧ (i + 1) ≤ 499 ∧ zP3 g1_36 g3_6 ∧ zRunN g2_5 g3_6 k2 499 g1_4 x 0 = zRunN g2_5 g3_6 k2 (499 - (i + 1)) g1_36 (zStep xf g2_5 g3_6 k2 y2) (i + 1) ∧ zWasN g2_5 g3_6 k2 499 g1_4 x s1_20 = zWasN g2_5 g3_6 k2 (499 - (i + 1)) g1_36 (zStep xf g2_5 g3_6 k2 y2) s1_60 from ⟨hw_65, h_62, by omega, hQ2, (by rw [hR, show 499 - i = (499 - (i + 1)) + 1 by omega, zRunN, if_neg (by assumption), ← h_39]), (by rw [hW, show 499 - i = (499 - (i + 1)) + 1 by omega, zWasN, if_neg (by assumption), ← h_39, ← h_63])⟩) (show 499 - (i + 1) < 499 - i from by omega) _ _ ls G (lv_sub hl [0, 1, 3, 4, 5] rfl)
          · have c_57n : y4.toInt = (-1 : Int) := (fa_eq _ _).mp c_57
            refine lv_aload_n hx hb dX10_follow_149 rfl (lv_at hl 3 rfl) ?_
            refine z_get C G clX10 0 rfl 4 (by decide) m_fl_RX10_38 rfl dX10_follow_150 ?_
            refine lv_goto (tgt := 160) hx hb dX10_follow_153 (by decide) ?_
            refine z_put C G clX10 0 rfl 7 (by decide) m_fl_RX10_41 rfl rfl rfl (Nat.le_of_ble_eq_true rfl) dX10_follow_160 (fun H locs G => ?_)
            have G : zS T A s.heap s [[(h, .inr (9, [.ref po, .ref a1_33, .ref a2_34, .int y0, .int (nI (i + 1)), .int y2, .int y3, .int (nI (i + 1))]))], [(a1_33, .inl (T.2 0, 7, .inl x1))], [(a2_34, .inl (T.2 0, 7, .inl (upd x2 y2.toNatClampNeg ((x2 y2.toNatClampNeg) ||| (1 <<< ((g1_36 y2.toNatClampNeg) &&& 31))))))], [(po, .inr (6, [.ref o, .ref a1_43, .ref a2_44, .int 0, .int 0, .ref a3_45]))], [(a1_43, .inl (T.2 0, 7, .inl g1_36))], [(a2_44, .inl (T.2 0, 7, .inl g2_5))], [(a3_45, .inl (T.2 0, 7, .inl g3_6))], z] _ _ := G
            refine lv_aload_n hx hb dX10_follow_163 rfl (lv_at hl 3 rfl) ?_
            refine lv_iload hx hb dX10_follow_164 (lv_at hl 0 rfl) ?_
            refine lv_iload_n hx hb dX10_follow_166 rfl (lv_at hl 2 rfl) ?_
            have hw_66 : bTrail T h po x1 (upd x2 y2.toNatClampNeg ((x2 y2.toNatClampNeg) ||| (1 <<< ((g1_36 y2.toNatClampNeg) &&& 31)))) y0 (nI (i + 1)) y2 y3 (nI (i + 1)) [(h, .inr (9, [.ref po, .ref a1_33, .ref a2_34, .int y0, .int (nI (i + 1)), .int y2, .int y3, .int (nI (i + 1))])), (a1_33, .inl (T.2 0, 7, .inl x1)), (a2_34, .inl (T.2 0, 7, .inl (upd x2 y2.toNatClampNeg ((x2 y2.toNatClampNeg) ||| (1 <<< ((g1_36 y2.toNatClampNeg) &&& 31))))))] := ⟨a1_33, a2_34, rfl⟩
            have G : zS T A s.heap s [[(h, .inr (9, [.ref po, .ref a1_33, .ref a2_34, .int y0, .int (nI (i + 1)), .int y2, .int y3, .int (nI (i + 1))])), (a1_33, .inl (T.2 0, 7, .inl x1)), (a2_34, .inl (T.2 0, 7, .inl (upd x2 y2.toNatClampNeg ((x2 y2.toNatClampNeg) ||| (1 <<< ((g1_36 y2.toNatClampNeg) &&& 31))))))], [(po, .inr (6, [.ref o, .ref a1_43, .ref a2_44, .int 0, .int 0, .ref a3_45]))], [(a1_43, .inl (T.2 0, 7, .inl g1_36))], [(a2_44, .inl (T.2 0, 7, .inl g2_5))], [(a3_45, .inl (T.2 0, 7, .inl g3_6))], z] _ _ := G.re rfl
            refine z_Vi (bc := [[(h, .inr (9, [.ref po, .ref a1_33, .ref a2_34, .int y0, .int (nI (i + 1)), .int y2, .int y3, .int (nI (i + 1))])), (a1_33, .inl (T.2 0, 7, .inl x1)), (a2_34, .inl (T.2 0, 7, .inl (upd x2 y2.toNatClampNeg ((x2 y2.toNatClampNeg) ||| (1 <<< ((g1_36 y2.toNatClampNeg) &&& 31))))))]]) (br := [[(po, .inr (6, [.ref o, .ref a1_43, .ref a2_44, .int 0, .int 0, .ref a3_45]))], [(a1_43, .inl (T.2 0, 7, .inl g1_36))], [(a2_44, .inl (T.2 0, 7, .inl g2_5))], [(a3_45, .inl (T.2 0, 7, .inl g3_6))], z]) (As := [.int (zStep xf g2_5 g3_6 k2 y2), .int sn]) (rest := []) C G (c_f_arrive l T h po x1 (upd x2 y2.toNatClampNeg ((x2 y2.toNatClampNeg) ||| (1 <<< ((g1_36 y2.toNatClampNeg) &&& 31)))) y0 (nI (i + 1)) y2 y3 (nI (i + 1)) ([(h, .inr (9, [.ref po, .ref a1_33, .ref a2_34, .int y0, .int (nI (i + 1)), .int y2, .int y3, .int (nI (i + 1))])), (a1_33, .inl (T.2 0, 7, .inl x1)), (a2_34, .inl (T.2 0, 7, .inl (upd x2 y2.toNatClampNeg ((x2 y2.toNatClampNeg) ||| (1 <<< ((g1_36 y2.toNatClampNeg) &&& 31))))))]) (zStep xf g2_5 g3_6 k2 y2) sn hw_66) (kV_RX10_47 C.2.2.2.2 (Nat.le_of_ble_eq_true rfl) (Nat.le_of_ble_eq_true rfl)) [0] [1, 2, 3, 4, 5] rfl rfl (ci := 9) (qc := (RX10, TX10, 8)) rfl rfl (List.mem_flatten.mpr ⟨_, List.mem_of_getElem? (i := 0) rfl, (bTrail_mem hw_66).choose_spec⟩) rfl rfl hl.1 dX10_follow_167 (Nat.le_of_ble_eq_true rfl) (Nat.le_of_ble_eq_true rfl) (fun r_72 b1 H locs hw G => ?_)
            obtain ⟨wt2_67, s1_68, u3_69, rfl, h_70, h_71⟩ := hw
            have G : zS T A s.heap s [[(po, .inr (6, [.ref o, .ref a1_43, .ref a2_44, .int 0, .int 0, .ref a3_45]))], [(a1_43, .inl (T.2 0, 7, .inl g1_36))], [(a2_44, .inl (T.2 0, 7, .inl g2_5))], [(a3_45, .inl (T.2 0, 7, .inl g3_6))], z, wt2_67] _ _ := G
            refine lv_istore_n (lv' := [(3, .int r_72), (5, .int (zStep xf g2_5 g3_6 k2 y2)), (4, .int (nI i)), (0, .ref h), (1, .ref o), (2, .int x)]) hx hb dX10_follow_170 rfl hl (by decide) rfl (fun ls hl => ?_)
            refine lv_iinc (v := nI (i + 1)) (lv' := [(4, .int (nI (i + 1))), (3, .int r_72), (5, .int (zStep xf g2_5 g3_6 k2 y2)), (0, .ref h), (1, .ref o), (2, .int x)]) hx hb dX10_follow_171 hl (k := 2) rfl (z_inc i 1) (by decide) rfl (fun ls hl => ?_)
            refine lv_goto (tgt := 70) hx hb dX10_follow_174 (by decide) ?_
            have hw_73 : bPosts T po o g1_36 g2_5 g3_6 0 0 [(po, .inr (6, [.ref o, .ref a1_43, .ref a2_44, .int 0, .int 0, .ref a3_45])), (a1_43, .inl (T.2 0, 7, .inl g1_36)), (a2_44, .inl (T.2 0, 7, .inl g2_5)), (a3_45, .inl (T.2 0, 7, .inl g3_6))] := ⟨a1_43, a2_44, a3_45, rfl⟩
            have G : zS T A s.heap s [[(po, .inr (6, [.ref o, .ref a1_43, .ref a2_44, .int 0, .int 0, .ref a3_45])), (a1_43, .inl (T.2 0, 7, .inl g1_36)), (a2_44, .inl (T.2 0, 7, .inl g2_5)), (a3_45, .inl (T.2 0, 7, .inl g3_6))], z, wt2_67] _ _ := G.re rfl
            exact ih_70 ((i + 1), r_72, wt2_67, s1_68, (upd x2 y2.toNatClampNeg ((x2 y2.toNatClampNeg) ||| (1 <<< ((g1_36 y2.toNatClampNeg) &&& 31)))), y0, (zStep xf g2_5 g3_6 k2 y2), u3_69, (nI (i + 1)), ([(po, .inr (6, [.ref o, .ref a1_43, .ref a2_44, .int 0, .int 0, .ref a3_45])), (a1_43, .inl (T.2 0, 7, .inl g1_36)), (a2_44, .inl (T.2 0, 7, .inl g2_5)), (a3_45, .inl (T.2 0, 7, .inl g3_6))]), g1_36) (show bPosts T po o g1_36 g2_5 g3_6 0 0 ([(po, .inr (6, [.ref o, .ref a1_43, .ref a2_44, .int 0, .int 0, .ref a3_45])), (a1_43, .inl (T.2 0, 7, .inl g1_36)), (a2_44, .inl (T.2 0, 7, .inl g2_5)), (a3_45, .inl (T.2 0, 7, .inl g3_6))]) ∧ bTrail T h po s1_68 (upd x2 y2.toNatClampNeg ((x2 y2.toNatClampNeg) ||| (1 <<< ((g1_36 y2.toNatClampNeg) &&& 31)))) y0 (nI (i + 1)) (zStep xf g2_5 g3_6 k2 y2) u3_69 (nI (i + 1)) wt2_67 ∧ (i + 1) ≤ 499 ∧ zP3 g1_36 g3_6 ∧ zRunN g2_5 g3_6 k2 499 g1_4 x 0 = zRunN g2_5 g3_6 k2 (499 - (i + 1)) g1_36 (zStep xf g2_5 g3_6 k2 y2) (i + 1) ∧ zWasN g2_5 g3_6 k2 499 g1_4 x s1_20 = zWasN g2_5 g3_6 k2 (499 - (i + 1)) g1_36 (zStep xf g2_5 g3_6 k2 y2) s1_68 from ⟨hw_73, h_70, by omega, hQ2, (by rw [hR, show 499 - i = (499 - (i + 1)) + 1 by omega, zRunN, if_neg (by assumption), ← h_39]), (by rw [hW, show 499 - i = (499 - (i + 1)) + 1 by omega, zWasN, if_neg (by assumption), ← h_39, ← h_71])⟩) (show 499 - (i + 1) < 499 - i from by omega) _ _ ls G (lv_sub hl [0, 1, 3, 4, 5] rfl)
      · have c_41n : (zStep xf g2_5 g3_6 k2 y2).toInt = (-1 : Int) := (fa_eq _ _).mp c_41
        have hw_74 : bTrail T h po x1 x2 y0 (nI i) y2 y3 y4 [(h, .inr (9, [.ref po, .ref a1_33, .ref a2_34, .int y0, .int (nI i), .int y2, .int y3, .int y4])), (a1_33, .inl (T.2 0, 7, .inl x1)), (a2_34, .inl (T.2 0, 7, .inl x2))] := ⟨a1_33, a2_34, rfl⟩
        have G : zS T A s.heap s [[(h, .inr (9, [.ref po, .ref a1_33, .ref a2_34, .int y0, .int (nI i), .int y2, .int y3, .int y4])), (a1_33, .inl (T.2 0, 7, .inl x1)), (a2_34, .inl (T.2 0, 7, .inl x2))], w2_35, z] _ _ := G.re rfl
        exact z_vret C hr hlocks G (Nat.le_of_ble_eq_true rfl) (Nat.le_of_ble_eq_true rfl) dX10_follow_97 ⟨([(h, .inr (9, [.ref po, .ref a1_33, .ref a2_34, .int y0, .int (nI i), .int y2, .int y3, .int y4])), (a1_33, .inl (T.2 0, 7, .inl x1)), (a2_34, .inl (T.2 0, 7, .inl x2))]), x1, x2, y0, (nI i), y2, y3, y4, w2_35, g1_36, g2_5, g3_6, 0, 0, rfl, hw_74, h_38, hQ2, ⟨g1_4, ⟨hQ, h_8, h_9, h_10⟩, ⟨by rw [hR, show 499 - i = (499 - (i + 1)) + 1 by omega, zRunN, if_pos (by assumption)], by rw [hR, show 499 - i = (499 - (i + 1)) + 1 by omega, zRunN, if_pos (by assumption)]⟩, ⟨s1_20, hW0, by rw [hW, show 499 - i = (499 - (i + 1)) + 1 by omega, zWasN, if_pos (by assumption)]⟩⟩⟩
  · have c_13n : ¬ 7 ≤ i := fun q => c_13 ((nI_leI (a := 7) (b := i) (by omega) (by omega)).mpr q)
    refine lv_aload_n hx hb dX10_follow_16 rfl (lv_at hl 1 rfl) ?_
    obtain ⟨a1_75, a2_76, rfl⟩ := ht4
    have G : zS T A s.heap s [[(h, .inr (9, [.ref po, .ref a1_75, .ref a2_76, .int v0, .int v1, .int v2, .int v3, .int v4]))], [(a1_75, .inl (T.2 0, 7, .inl x1))], [(a2_76, .inl (T.2 0, 7, .inl x2))], w2_3, z] _ _ := G.re rfl
    refine z_get C G clX10 0 rfl 1 (by decide) m_fl_RX10_18 rfl dX10_follow_17 ?_
    refine lv_iload_n hx hb dX10_follow_20 rfl (lv_at hl 0 rfl) ?_
    refine lv_iconst (v := 0) hx hb dX10_follow_21 (by decide) ?_
    refine z_ist C G 1 rfl (vp_in_nI (by omega) (by omega)) dX10_follow_22 (fun H locs G => ?_)
    rw [nI_clamp (by omega)] at G
    have G : zS T A s.heap s [[(h, .inr (9, [.ref po, .ref a1_75, .ref a2_76, .int v0, .int v1, .int v2, .int v3, .int v4]))], [(a1_75, .inl (T.2 0, 7, .inl (upd x1 i 0)))], [(a2_76, .inl (T.2 0, 7, .inl x2))], w2_3, z] _ _ := G
    refine lv_aload_n hx hb dX10_follow_23 rfl (lv_at hl 1 rfl) ?_
    refine z_get C G clX10 0 rfl 2 (by decide) m_fl_RX10_22 rfl dX10_follow_24 ?_
    refine lv_iload_n hx hb dX10_follow_27 rfl (lv_at hl 0 rfl) ?_
    refine lv_iconst (v := 0) hx hb dX10_follow_28 (by decide) ?_
    refine z_ist C G 2 rfl (vp_in_nI (by omega) (by omega)) dX10_follow_29 (fun H locs G => ?_)
    rw [nI_clamp (by omega)] at G
    have G : zS T A s.heap s [[(h, .inr (9, [.ref po, .ref a1_75, .ref a2_76, .int v0, .int v1, .int v2, .int v3, .int v4]))], [(a1_75, .inl (T.2 0, 7, .inl (upd x1 i 0)))], [(a2_76, .inl (T.2 0, 7, .inl (upd x2 i 0)))], w2_3, z] _ _ := G
    refine lv_iinc (v := nI (i + 1)) (lv' := [(3, .int (nI (i + 1))), (0, .ref h), (1, .ref o), (2, .int x)]) hx hb dX10_follow_30 hl (k := 0) rfl (z_inc i 1) (by decide) rfl (fun ls hl => ?_)
    refine lv_goto (tgt := 10) hx hb dX10_follow_33 (by decide) ?_
    have hw_77 : bTrail T h po (upd x1 i 0) (upd x2 i 0) v0 v1 v2 v3 v4 [(h, .inr (9, [.ref po, .ref a1_75, .ref a2_76, .int v0, .int v1, .int v2, .int v3, .int v4])), (a1_75, .inl (T.2 0, 7, .inl (upd x1 i 0))), (a2_76, .inl (T.2 0, 7, .inl (upd x2 i 0)))] := ⟨a1_75, a2_76, rfl⟩
    have G : zS T A s.heap s [[(h, .inr (9, [.ref po, .ref a1_75, .ref a2_76, .int v0, .int v1, .int v2, .int v3, .int v4])), (a1_75, .inl (T.2 0, 7, .inl (upd x1 i 0))), (a2_76, .inl (T.2 0, 7, .inl (upd x2 i 0)))], w2_3, z] _ _ := G.re rfl
    exact ih_10 ((i + 1), ([(h, .inr (9, [.ref po, .ref a1_75, .ref a2_76, .int v0, .int v1, .int v2, .int v3, .int v4])), (a1_75, .inl (T.2 0, 7, .inl (upd x1 i 0))), (a2_76, .inl (T.2 0, 7, .inl (upd x2 i 0)))]), (upd x1 i 0), (upd x2 i 0)) (show bTrail T h po (upd x1 i 0) (upd x2 i 0) v0 v1 v2 v3 v4 ([(h, .inr (9, [.ref po, .ref a1_75, .ref a2_76, .int v0, .int v1, .int v2, .int v3, .int v4])), (a1_75, .inl (T.2 0, 7, .inl (upd x1 i 0))), (a2_76, .inl (T.2 0, 7, .inl (upd x2 i 0)))]) ∧ (i + 1) ≤ 7 ∧ (∀ j, j < (i + 1) → (upd x1 i 0) j = 0) from ⟨hw_77, by omega, z_upS0 (f := fun _ => 0) hv rfl⟩) (show 7 - (i + 1) < 7 - i from by omega) _ _ ls G (lv_sub hl [0, 1, 2, 3] rfl)
set_option maxHeartbeats 4000000 in
set_option maxRecDepth 100000 in
/-- c_f_walk -/
theorem c_f_walk (l : Launch) (T : zTy) (xo : Nat) (t : Nat) (im : Nat) (mk : Nat) (rd : Nat) (po : Nat) (co : Nat) (tr : Nat) (wa : Nat) (wb_ : Nat) (fi : Nat) (cd : Nat) (l0 : Nat) (l1 : Nat) (d0 : Nat) (d1 : Nat) (g0 : Nat) (g1 : Nat) (ln : Int32) (fl : Int32) (pl : Int32) (ft : Nat → Int32) (fk : Nat → Int32) (wt : va_W) (cr0_ : Int32) (inn0_ : Int32) (k10_ : Nat → Int32) (k20_ : Nat → Int32) (k30_ : Nat → Int32) (k40_ : Nat → Int32) (z0_ : va_W) (cr1_ : Int32) (inn1_ : Int32) (k11_ : Nat → Int32) (k21_ : Nat → Int32) (k31_ : Nat → Int32) (k41_ : Nat → Int32) (z1_ : va_W) (tpo : Nat) (t1 : Nat → Int32) (t2 : Nat → Int32) (u0_ : Int32) (u1_ : Int32) (u2_ : Int32) (u3_ : Int32) (u4_ : Int32) (wr : va_W) (tpl : Nat) (tf1 : Nat → Int32) (tf2 : Nat → Int32) (tf3 : Nat → Int32) (tst : Int32) (twh : Int32) (wrp : va_W) (i1 : Int32) (a_ : Int32) (w_ : Int32) (ht : bTold T t l0 l1 d0 d1 g0 g1 ln fl pl ft fk wt) (hK : zKT fk) (hz0_ : bLand T l0 cr0_ inn0_ k10_ k20_ k30_ k40_ z0_) (hI0_ : zLI cr0_ k10_ k30_) (hz1_ : bLand T l1 cr1_ inn1_ k11_ k21_ k31_ k41_ z1_) (hI1_ : zLI cr1_ k11_ k31_) (hr_ : bTrail T tr tpo t1 t2 u0_ u1_ u2_ u3_ u4_ wr) (hrp : bPosts T tpo tpl tf1 tf2 tf3 tst twh wrp) : zMi l T yX11_walk cX11_walk 5 (some .int) 6 0 0 [.ref xo, .int i1, .int a_, .int w_] [[(xo, .inr (10, [.ref t, .ref im, .ref mk, .ref rd, .ref po, .ref co, .ref tr, .ref wa, .ref wb_, .ref fi, .ref cd]))], wt, z0_, z1_, wr, wrp] (fun (r : Int32) bs => ∃ (t1_2 : Nat → Int32) (t2_2 : Nat → Int32) (u0__2 : Int32) (u1__2 : Int32) (u2__2 : Int32) (u3__2 : Int32) (u4__2 : Int32) (wr_2 : va_W) (tpl_2 : Nat) (tf1_2 : Nat → Int32) (tf2_2 : Nat → Int32) (tf3_2 : Nat → Int32) (tst_2 : Int32) (twh_2 : Int32) (wrp_2 : va_W), bs = [[(xo, .inr (10, [.ref t, .ref im, .ref mk, .ref rd, .ref po, .ref co, .ref tr, .ref wa, .ref wb_, .ref fi, .ref cd]))], wt, z0_, z1_, wr_2, wrp_2] ∧ bTrail T tr tpo t1_2 t2_2 u0__2 u1__2 u2__2 u3__2 u4__2 wr_2 ∧ bPosts T tpo tpl_2 tf1_2 tf2_2 tf3_2 tst_2 twh_2 wrp_2 ∧ ((i1.toInt < 0 ∨ (fk 0).toInt ≤ i1.toInt ∨ 2 ≤ i1.toInt) ∧ r = -2 ∨ i1.toInt = 0 ∧ 0 < (fk 0).toInt ∧ kWalk cr0_ inn0_ k10_ k20_ k30_ a_ w_ r ∨ i1.toInt = 1 ∧ 1 < (fk 0).toInt ∧ kWalk cr1_ inn1_ k11_ k21_ k31_ a_ w_ r)) := by
  refine zMi_of (own := RX11) (by decide) rfl (Nat.le_of_ble_eq_true rfl) ?_
  intro p e s m args below meth c A ls C hr hlocks hnm hAe G hl
  have hx := C.1
  have hb := C.2.1
  have hl : lv_has ls 5 [(0, .ref xo), (1, .int i1), (2, .int a_), (3, .int w_)] := hl
  refine lv_aload_n hx hb dX11_walk_0 rfl (lv_at hl 0 rfl) ?_
  refine z_get C G clX11 0 rfl 0 (by decide) m_fl_RX11_10 rfl dX11_walk_1 ?_
  refine lv_iload_n hx hb dX11_walk_4 rfl (lv_at hl 1 rfl) ?_
  refine z_Vq (bc := [wt]) (br := [[(xo, .inr (10, [.ref t, .ref im, .ref mk, .ref rd, .ref po, .ref co, .ref tr, .ref wa, .ref wb_, .ref fi, .ref cd]))], z0_, z1_, wr, wrp]) (As := [.int i1]) (rest := []) C G (c_landAt l T t l0 l1 d0 d1 g0 g1 ln fl pl ft fk wt i1 ht) (kV_RX11_121 C.2.2.2.2 (Nat.le_of_ble_eq_true rfl) (Nat.le_of_ble_eq_true rfl)) [1] [0, 2, 3, 4, 5] rfl rfl (ci := 8) (qc := (RX9, TX9, 8)) rfl rfl (List.mem_flatten.mpr ⟨_, List.mem_of_getElem? (i := 0) rfl, (bTold_mem ht).choose_spec⟩) rfl rfl hl.1 dX11_walk_5 (Nat.le_of_ble_eq_true rfl) (Nat.le_of_ble_eq_true rfl) (fun r_2 b1 H locs hw G => ?_)
  obtain ⟨rfl, hc_1⟩ := hw
  have G : zS T A s.heap s [[(xo, .inr (10, [.ref t, .ref im, .ref mk, .ref rd, .ref po, .ref co, .ref tr, .ref wa, .ref wb_, .ref fi, .ref cd]))], z0_, z1_, wr, wrp, wt] _ _ := G
  rcases hc_1 with ⟨rfl, h_3⟩ | ⟨rfl, h_4, h_5⟩ | ⟨rfl, h_6, h_7⟩
  · have h_3 : (i1.toInt < 0 ∨ (fk 0).toInt ≤ i1.toInt ∨ 2 ≤ i1.toInt) := h_3
    refine lv_astoreN (lv' := [(4, .null), (0, .ref xo), (1, .int i1), (2, .int a_), (3, .int w_)]) hx hb dX11_walk_8 hl (by decide) rfl (fun ls hl => ?_)
    refine lv_aloadN hx hb dX11_walk_10 (lv_at hl 0 rfl) ?_
    refine lv_ifnullN (tgt := 24) hx hb dX11_walk_12 (by decide) ?_
    refine lv_bipush (v := (-2)) hx hb dX11_walk_24 (by decide) ?_
    have G := G.sub (bs' := [[(xo, .inr (10, [.ref t, .ref im, .ref mk, .ref rd, .ref po, .ref co, .ref tr, .ref wa, .ref wb_, .ref fi, .ref cd]))], wt, z0_, z1_, wr, wrp]) [0, 5, 1, 2, 3, 4] rfl
    exact z_iret C hr hlocks G (Nat.le_of_ble_eq_true rfl) (Nat.le_of_ble_eq_true rfl) dX11_walk_26 ⟨t1, t2, u0_, u1_, u2_, u3_, u4_, wr, tpl, tf1, tf2, tf3, tst, twh, wrp, rfl, hr_, hrp, (Or.inl ⟨by assumption, rfl⟩)⟩
  · have h_4 : i1.toInt = 0 := h_4
    have h_5 : 0 < (fk 0).toInt := h_5
    refine lv_astore (lv' := [(4, .ref l0), (0, .ref xo), (1, .int i1), (2, .int a_), (3, .int w_)]) hx hb dX11_walk_8 hl (by decide) rfl (fun ls hl => ?_)
    refine lv_aload hx hb dX11_walk_10 (lv_at hl 0 rfl) ?_
    refine lv_ifnull hx hb dX11_walk_12 ?_
    refine lv_aload hx hb dX11_walk_15 (lv_at hl 0 rfl) ?_
    refine lv_iload_n hx hb dX11_walk_17 rfl (lv_at hl 3 rfl) ?_
    refine z_Vi (bc := [z0_]) (br := [[(xo, .inr (10, [.ref t, .ref im, .ref mk, .ref rd, .ref po, .ref co, .ref tr, .ref wa, .ref wb_, .ref fi, .ref cd]))], z1_, wr, wrp, wt]) (As := [.int a_]) (rest := []) C G (c_has l T l0 cr0_ inn0_ k10_ k20_ k30_ k40_ z0_ a_ hz0_) (kV_RX11_160 C.2.2.2.2 (Nat.le_of_ble_eq_true rfl) (Nat.le_of_ble_eq_true rfl)) [1] [0, 2, 3, 4, 5] rfl rfl (ci := 4) (qc := (RX4, TX4, 6)) rfl rfl (List.mem_flatten.mpr ⟨_, List.mem_of_getElem? (i := 0) rfl, (bLand_mem hz0_).choose_spec⟩) rfl rfl hl.1 dX11_walk_18 (Nat.le_of_ble_eq_true rfl) (Nat.le_of_ble_eq_true rfl) (fun r_9 b1 H locs hw G => ?_)
    obtain ⟨rfl, hc_8⟩ := hw
    have G : zS T A s.heap s [[(xo, .inr (10, [.ref t, .ref im, .ref mk, .ref rd, .ref po, .ref co, .ref tr, .ref wa, .ref wb_, .ref fi, .ref cd]))], z1_, wr, wrp, wt, z0_] _ _ := G
    rcases hc_8 with ⟨rfl, h_10, h_11, h_12⟩ | ⟨rfl, h_13⟩
    · have h_10 : 0 ≤ a_.toInt := h_10
      have h_11 : a_.toInt < cr0_.toInt := h_11
      have h_12 : a_.toInt < 7 := h_12
      refine lv_if_ne (tgt := 27) hx hb dX11_walk_21 (by decide) (fun _ => ?_) (fun q => absurd q (by decide))
      refine lv_aload_n hx hb dX11_walk_27 rfl (lv_at hl 1 rfl) ?_
      refine z_get C G clX11 0 rfl 6 (by decide) m_fl_RX11_48 rfl dX11_walk_28 ?_
      refine lv_aload hx hb dX11_walk_31 (lv_at hl 0 rfl) ?_
      refine lv_iload_n hx hb dX11_walk_33 rfl (lv_at hl 3 rfl) ?_
      refine z_Vv (bc := [wr, wrp, z0_]) (br := [[(xo, .inr (10, [.ref t, .ref im, .ref mk, .ref rd, .ref po, .ref co, .ref tr, .ref wa, .ref wb_, .ref fi, .ref cd]))], z1_, wt]) (As := [.ref l0, .int a_]) (rest := []) C G (c_f_follow l T tr tpo t1 t2 u0_ u1_ u2_ u3_ u4_ wr tpl tf1 tf2 tf3 tst twh wrp l0 cr0_ inn0_ k10_ k20_ k30_ k40_ z0_ a_ hr_ hrp hz0_ (by first | assumption | omega | rfl)) (kV_RX11_164 C.2.2.2.2 (Nat.le_of_ble_eq_true rfl) (Nat.le_of_ble_eq_true rfl)) [2, 3, 5] [0, 1, 4] rfl rfl (ci := 9) (qc := (RX10, TX10, 8)) rfl rfl (List.mem_flatten.mpr ⟨_, List.mem_of_getElem? (i := 0) rfl, (bTrail_mem hr_).choose_spec⟩) rfl rfl hl.1 dX11_walk_34 (Nat.le_of_ble_eq_true rfl) (Nat.le_of_ble_eq_true rfl) (fun b1 H locs hw G => ?_)
      obtain ⟨wt2_14, s1_15, s2_16, u0_17, u1_18, u2_19, u3_20, u4_21, wp2_22, g1_23, g2_24, g3_25, sa_26, wa_27, rfl, h_28, h_29, h_30, h_31⟩ := hw
      have G : zS T A s.heap s [[(xo, .inr (10, [.ref t, .ref im, .ref mk, .ref rd, .ref po, .ref co, .ref tr, .ref wa, .ref wb_, .ref fi, .ref cd]))], z1_, wt, wt2_14, wp2_22, z0_] _ _ := G
      obtain ⟨G1_, ⟨hA1, hA2, hA3, hA4⟩, ⟨hA5, hA6⟩, W0_, hA7, hA8⟩ := h_31
      refine lv_iload_n hx hb dX11_walk_37 rfl (lv_at hl 4 rfl) ?_
      by_cases c_33o : w_.toInt < 0 ∨ 2 < w_.toInt
      · refine lv_tableOut (tgt := 101) hx hb dX11_walk_38 c_33o (by decide) ?_
        have hs10 := zS10 (w := w_)
        refine lv_aload hx hb dX11_walk_101 (lv_at hl 0 rfl) ?_
        refine lv_iload_n hx hb dX11_walk_103 rfl (lv_at hl 4 rfl) ?_
        refine lv_bipush (v := 10) hx hb dX11_walk_104 (by decide) ?_
        refine lv_isub hx hb dX11_walk_106 ?_
        refine z_Vi (bc := [z0_]) (br := [[(xo, .inr (10, [.ref t, .ref im, .ref mk, .ref rd, .ref po, .ref co, .ref tr, .ref wa, .ref wb_, .ref fi, .ref cd]))], z1_, wt, wt2_14, wp2_22]) (As := [.int (w_ - 10)]) (rest := []) C G (c_has l T l0 cr0_ inn0_ k10_ k20_ k30_ k40_ z0_ (w_ - 10) hz0_) (kV_RX11_160 C.2.2.2.2 (Nat.le_of_ble_eq_true rfl) (Nat.le_of_ble_eq_true rfl)) [5] [0, 1, 2, 3, 4] rfl rfl (ci := 4) (qc := (RX4, TX4, 6)) rfl rfl (List.mem_flatten.mpr ⟨_, List.mem_of_getElem? (i := 0) rfl, (bLand_mem hz0_).choose_spec⟩) rfl rfl hl.1 dX11_walk_107 (Nat.le_of_ble_eq_true rfl) (Nat.le_of_ble_eq_true rfl) (fun r_35 b1 H locs hw G => ?_)
        obtain ⟨rfl, hc_34⟩ := hw
        have G : zS T A s.heap s [[(xo, .inr (10, [.ref t, .ref im, .ref mk, .ref rd, .ref po, .ref co, .ref tr, .ref wa, .ref wb_, .ref fi, .ref cd]))], z1_, wt, wt2_14, wp2_22, z0_] _ _ := G
        rcases hc_34 with ⟨rfl, h_36, h_37, h_38⟩ | ⟨rfl, h_39⟩
        · have h_36 : 0 ≤ (w_ - 10).toInt := h_36
          have h_37 : (w_ - 10).toInt < cr0_.toInt := h_37
          have h_38 : (w_ - 10).toInt < 7 := h_38
          refine lv_if_eq (tgt := 128) hx hb dX11_walk_110 (by decide) (fun q => absurd q (by decide)) (fun _ => ?_)
          refine lv_aload_n hx hb dX11_walk_113 rfl (lv_at hl 1 rfl) ?_
          refine z_get C G clX11 0 rfl 6 (by decide) m_fl_RX11_48 rfl dX11_walk_114 ?_
          obtain ⟨a1_40, a2_41, rfl⟩ := h_28
          have G : zS T A s.heap s [[(xo, .inr (10, [.ref t, .ref im, .ref mk, .ref rd, .ref po, .ref co, .ref tr, .ref wa, .ref wb_, .ref fi, .ref cd]))], z1_, wt, [(tr, .inr (9, [.ref tpo, .ref a1_40, .ref a2_41, .int u0_17, .int u1_18, .int u2_19, .int u3_20, .int u4_21]))], [(a1_40, .inl (T.2 0, 7, .inl s1_15))], [(a2_41, .inl (T.2 0, 7, .inl s2_16))], wp2_22, z0_] _ _ := G.re rfl
          refine z_get C G clX10 3 rfl 1 (by decide) m_fl_RX11_177 rfl dX11_walk_117 ?_
          refine lv_iload_n hx hb dX11_walk_120 rfl (lv_at hl 4 rfl) ?_
          refine lv_bipush (v := 10) hx hb dX11_walk_121 (by decide) ?_
          refine lv_isub hx hb dX11_walk_123 ?_
          refine z_ild C G 4 rfl (vp_in_iff.mpr ⟨by omega, by omega⟩) dX11_walk_124 ?_
          refine lv_topi (fun v_42 ev_42 => ?_)
          subst ev_42
          refine lv_goto (tgt := 130) hx hb dX11_walk_125 (by decide) ?_
          have hw_43 : bTrail T tr tpo s1_15 s2_16 u0_17 u1_18 u2_19 u3_20 u4_21 [(tr, .inr (9, [.ref tpo, .ref a1_40, .ref a2_41, .int u0_17, .int u1_18, .int u2_19, .int u3_20, .int u4_21])), (a1_40, .inl (T.2 0, 7, .inl s1_15)), (a2_41, .inl (T.2 0, 7, .inl s2_16))] := ⟨a1_40, a2_41, rfl⟩
          have G : zS T A s.heap s [[(xo, .inr (10, [.ref t, .ref im, .ref mk, .ref rd, .ref po, .ref co, .ref tr, .ref wa, .ref wb_, .ref fi, .ref cd]))], z1_, wt, [(tr, .inr (9, [.ref tpo, .ref a1_40, .ref a2_41, .int u0_17, .int u1_18, .int u2_19, .int u3_20, .int u4_21])), (a1_40, .inl (T.2 0, 7, .inl s1_15)), (a2_41, .inl (T.2 0, 7, .inl s2_16))], wp2_22, z0_] _ _ := G.re rfl
          have G := G.sub (bs' := [[(xo, .inr (10, [.ref t, .ref im, .ref mk, .ref rd, .ref po, .ref co, .ref tr, .ref wa, .ref wb_, .ref fi, .ref cd]))], wt, z0_, z1_, [(tr, .inr (9, [.ref tpo, .ref a1_40, .ref a2_41, .int u0_17, .int u1_18, .int u2_19, .int u3_20, .int u4_21])), (a1_40, .inl (T.2 0, 7, .inl s1_15)), (a2_41, .inl (T.2 0, 7, .inl s2_16))], wp2_22]) [0, 2, 5, 1, 3, 4] rfl
          exact z_iret C hr hlocks G (Nat.le_of_ble_eq_true rfl) (Nat.le_of_ble_eq_true rfl) dX11_walk_130 ⟨s1_15, s2_16, u0_17, u1_18, u2_19, u3_20, u4_21, ([(tr, .inr (9, [.ref tpo, .ref a1_40, .ref a2_41, .int u0_17, .int u1_18, .int u2_19, .int u3_20, .int u4_21])), (a1_40, .inl (T.2 0, 7, .inl s1_15)), (a2_41, .inl (T.2 0, 7, .inl s2_16))]), l0, g1_23, g2_24, g3_25, sa_26, wa_27, wp2_22, rfl, hw_43, h_29, (Or.inr (Or.inl ⟨by assumption, by assumption, Or.inl ⟨⟨by omega, by omega⟩, G1_, g2_24, g3_25, ⟨hA1, hA2, hA3, hA4⟩, Or.inr (Or.inr (Or.inr ⟨by omega, Or.inl ⟨by omega, by omega, W0_, hA7, by rw [hA8]; exact congrArg _ (by have q8 := z_clI (x := w_ - 10) (by omega); omega)⟩⟩))⟩⟩))⟩
        · have h_39 : ((w_ - 10).toInt < 0 ∨ cr0_.toInt ≤ (w_ - 10).toInt ∨ 7 ≤ (w_ - 10).toInt) := h_39
          refine lv_if_eq (tgt := 128) hx hb dX11_walk_110 (by decide) (fun _ => ?_) (fun q => absurd (by decide) q)
          refine lv_bipush (v := (-2)) hx hb dX11_walk_128 (by decide) ?_
          have G := G.sub (bs' := [[(xo, .inr (10, [.ref t, .ref im, .ref mk, .ref rd, .ref po, .ref co, .ref tr, .ref wa, .ref wb_, .ref fi, .ref cd]))], wt, z0_, z1_, wt2_14, wp2_22]) [0, 2, 5, 1, 3, 4] rfl
          exact z_iret C hr hlocks G (Nat.le_of_ble_eq_true rfl) (Nat.le_of_ble_eq_true rfl) dX11_walk_130 ⟨s1_15, s2_16, u0_17, u1_18, u2_19, u3_20, u4_21, wt2_14, l0, g1_23, g2_24, g3_25, sa_26, wa_27, wp2_22, rfl, h_28, h_29, (Or.inr (Or.inl ⟨by assumption, by assumption, Or.inl ⟨⟨by omega, by omega⟩, G1_, g2_24, g3_25, ⟨hA1, hA2, hA3, hA4⟩, Or.inr (Or.inr (Or.inr ⟨by omega, Or.inr ⟨by have q9 := hI0_.1; omega, rfl⟩⟩))⟩⟩))⟩
      · have c_33r : w_.toInt = 0 ∨ w_.toInt = 1 ∨ w_.toInt = 2 := by omega
        rcases c_33r with c_33 | c_33 | c_33
        · refine lv_tableIn (tgt := 64) hx hb dX11_walk_38 (by omega) (by omega) (by rw [c_33]; rfl) (by decide) ?_
          refine lv_aload_n hx hb dX11_walk_64 rfl (lv_at hl 1 rfl) ?_
          refine z_get C G clX11 0 rfl 6 (by decide) m_fl_RX11_48 rfl dX11_walk_65 ?_
          obtain ⟨a1_44, a2_45, rfl⟩ := h_28
          have G : zS T A s.heap s [[(xo, .inr (10, [.ref t, .ref im, .ref mk, .ref rd, .ref po, .ref co, .ref tr, .ref wa, .ref wb_, .ref fi, .ref cd]))], z1_, wt, [(tr, .inr (9, [.ref tpo, .ref a1_44, .ref a2_45, .int u0_17, .int u1_18, .int u2_19, .int u3_20, .int u4_21]))], [(a1_44, .inl (T.2 0, 7, .inl s1_15))], [(a2_45, .inl (T.2 0, 7, .inl s2_16))], wp2_22, z0_] _ _ := G.re rfl
          refine z_get C G clX10 3 rfl 4 (by decide) m_fl_RX11_168 rfl dX11_walk_68 ?_
          have hw_46 : bTrail T tr tpo s1_15 s2_16 u0_17 u1_18 u2_19 u3_20 u4_21 [(tr, .inr (9, [.ref tpo, .ref a1_44, .ref a2_45, .int u0_17, .int u1_18, .int u2_19, .int u3_20, .int u4_21])), (a1_44, .inl (T.2 0, 7, .inl s1_15)), (a2_45, .inl (T.2 0, 7, .inl s2_16))] := ⟨a1_44, a2_45, rfl⟩
          have G : zS T A s.heap s [[(xo, .inr (10, [.ref t, .ref im, .ref mk, .ref rd, .ref po, .ref co, .ref tr, .ref wa, .ref wb_, .ref fi, .ref cd]))], z1_, wt, [(tr, .inr (9, [.ref tpo, .ref a1_44, .ref a2_45, .int u0_17, .int u1_18, .int u2_19, .int u3_20, .int u4_21])), (a1_44, .inl (T.2 0, 7, .inl s1_15)), (a2_45, .inl (T.2 0, 7, .inl s2_16))], wp2_22, z0_] _ _ := G.re rfl
          have G := G.sub (bs' := [[(xo, .inr (10, [.ref t, .ref im, .ref mk, .ref rd, .ref po, .ref co, .ref tr, .ref wa, .ref wb_, .ref fi, .ref cd]))], wt, z0_, z1_, [(tr, .inr (9, [.ref tpo, .ref a1_44, .ref a2_45, .int u0_17, .int u1_18, .int u2_19, .int u3_20, .int u4_21])), (a1_44, .inl (T.2 0, 7, .inl s1_15)), (a2_45, .inl (T.2 0, 7, .inl s2_16))], wp2_22]) [0, 2, 5, 1, 3, 4] rfl
          exact z_iret C hr hlocks G (Nat.le_of_ble_eq_true rfl) (Nat.le_of_ble_eq_true rfl) dX11_walk_71 ⟨s1_15, s2_16, u0_17, u1_18, u2_19, u3_20, u4_21, ([(tr, .inr (9, [.ref tpo, .ref a1_44, .ref a2_45, .int u0_17, .int u1_18, .int u2_19, .int u3_20, .int u4_21])), (a1_44, .inl (T.2 0, 7, .inl s1_15)), (a2_45, .inl (T.2 0, 7, .inl s2_16))]), l0, g1_23, g2_24, g3_25, sa_26, wa_27, wp2_22, rfl, hw_46, h_29, (Or.inr (Or.inl ⟨by assumption, by assumption, Or.inl ⟨⟨by omega, by omega⟩, G1_, g2_24, g3_25, ⟨hA1, hA2, hA3, hA4⟩, Or.inl ⟨by omega, hA5⟩⟩⟩))⟩
        · refine lv_tableIn (tgt := 72) hx hb dX11_walk_38 (by omega) (by omega) (by rw [c_33]; rfl) (by decide) ?_
          refine lv_aload_n hx hb dX11_walk_72 rfl (lv_at hl 1 rfl) ?_
          refine z_get C G clX11 0 rfl 6 (by decide) m_fl_RX11_48 rfl dX11_walk_73 ?_
          obtain ⟨a1_47, a2_48, rfl⟩ := h_28
          have G : zS T A s.heap s [[(xo, .inr (10, [.ref t, .ref im, .ref mk, .ref rd, .ref po, .ref co, .ref tr, .ref wa, .ref wb_, .ref fi, .ref cd]))], z1_, wt, [(tr, .inr (9, [.ref tpo, .ref a1_47, .ref a2_48, .int u0_17, .int u1_18, .int u2_19, .int u3_20, .int u4_21]))], [(a1_47, .inl (T.2 0, 7, .inl s1_15))], [(a2_48, .inl (T.2 0, 7, .inl s2_16))], wp2_22, z0_] _ _ := G.re rfl
          refine z_get C G clX10 3 rfl 5 (by decide) m_fl_RX11_171 rfl dX11_walk_76 ?_
          have hw_49 : bTrail T tr tpo s1_15 s2_16 u0_17 u1_18 u2_19 u3_20 u4_21 [(tr, .inr (9, [.ref tpo, .ref a1_47, .ref a2_48, .int u0_17, .int u1_18, .int u2_19, .int u3_20, .int u4_21])), (a1_47, .inl (T.2 0, 7, .inl s1_15)), (a2_48, .inl (T.2 0, 7, .inl s2_16))] := ⟨a1_47, a2_48, rfl⟩
          have G : zS T A s.heap s [[(xo, .inr (10, [.ref t, .ref im, .ref mk, .ref rd, .ref po, .ref co, .ref tr, .ref wa, .ref wb_, .ref fi, .ref cd]))], z1_, wt, [(tr, .inr (9, [.ref tpo, .ref a1_47, .ref a2_48, .int u0_17, .int u1_18, .int u2_19, .int u3_20, .int u4_21])), (a1_47, .inl (T.2 0, 7, .inl s1_15)), (a2_48, .inl (T.2 0, 7, .inl s2_16))], wp2_22, z0_] _ _ := G.re rfl
          have G := G.sub (bs' := [[(xo, .inr (10, [.ref t, .ref im, .ref mk, .ref rd, .ref po, .ref co, .ref tr, .ref wa, .ref wb_, .ref fi, .ref cd]))], wt, z0_, z1_, [(tr, .inr (9, [.ref tpo, .ref a1_47, .ref a2_48, .int u0_17, .int u1_18, .int u2_19, .int u3_20, .int u4_21])), (a1_47, .inl (T.2 0, 7, .inl s1_15)), (a2_48, .inl (T.2 0, 7, .inl s2_16))], wp2_22]) [0, 2, 5, 1, 3, 4] rfl
          exact z_iret C hr hlocks G (Nat.le_of_ble_eq_true rfl) (Nat.le_of_ble_eq_true rfl) dX11_walk_79 ⟨s1_15, s2_16, u0_17, u1_18, u2_19, u3_20, u4_21, ([(tr, .inr (9, [.ref tpo, .ref a1_47, .ref a2_48, .int u0_17, .int u1_18, .int u2_19, .int u3_20, .int u4_21])), (a1_47, .inl (T.2 0, 7, .inl s1_15)), (a2_48, .inl (T.2 0, 7, .inl s2_16))]), l0, g1_23, g2_24, g3_25, sa_26, wa_27, wp2_22, rfl, hw_49, h_29, (Or.inr (Or.inl ⟨by assumption, by assumption, Or.inl ⟨⟨by omega, by omega⟩, G1_, g2_24, g3_25, ⟨hA1, hA2, hA3, hA4⟩, Or.inr (Or.inl ⟨by omega, hA6⟩)⟩⟩))⟩
        · refine lv_tableIn (tgt := 80) hx hb dX11_walk_38 (by omega) (by omega) (by rw [c_33]; rfl) (by decide) ?_
          refine lv_aload hx hb dX11_walk_80 (lv_at hl 0 rfl) ?_
          refine lv_aload_n hx hb dX11_walk_82 rfl (lv_at hl 1 rfl) ?_
          refine z_get C G clX11 0 rfl 6 (by decide) m_fl_RX11_48 rfl dX11_walk_83 ?_
          obtain ⟨a1_50, a2_51, rfl⟩ := h_28
          have G : zS T A s.heap s [[(xo, .inr (10, [.ref t, .ref im, .ref mk, .ref rd, .ref po, .ref co, .ref tr, .ref wa, .ref wb_, .ref fi, .ref cd]))], z1_, wt, [(tr, .inr (9, [.ref tpo, .ref a1_50, .ref a2_51, .int u0_17, .int u1_18, .int u2_19, .int u3_20, .int u4_21]))], [(a1_50, .inl (T.2 0, 7, .inl s1_15))], [(a2_51, .inl (T.2 0, 7, .inl s2_16))], wp2_22, z0_] _ _ := G.re rfl
          refine z_get C G clX10 3 rfl 5 (by decide) m_fl_RX11_171 rfl dX11_walk_86 ?_
          refine z_Vi (bc := [z0_]) (br := [[(xo, .inr (10, [.ref t, .ref im, .ref mk, .ref rd, .ref po, .ref co, .ref tr, .ref wa, .ref wb_, .ref fi, .ref cd]))], z1_, wt, [(tr, .inr (9, [.ref tpo, .ref a1_50, .ref a2_51, .int u0_17, .int u1_18, .int u2_19, .int u3_20, .int u4_21]))], [(a1_50, .inl (T.2 0, 7, .inl s1_15))], [(a2_51, .inl (T.2 0, 7, .inl s2_16))], wp2_22]) (As := [.int u2_19]) (rest := []) C G (c_isInn l T l0 cr0_ inn0_ k10_ k20_ k30_ k40_ z0_ u2_19 hz0_) (kV_RX11_174 C.2.2.2.2 (Nat.le_of_ble_eq_true rfl) (Nat.le_of_ble_eq_true rfl)) [7] [0, 1, 2, 3, 4, 5, 6] rfl rfl (ci := 4) (qc := (RX4, TX4, 6)) rfl rfl (List.mem_flatten.mpr ⟨_, List.mem_of_getElem? (i := 0) rfl, (bLand_mem hz0_).choose_spec⟩) rfl rfl hl.1 dX11_walk_89 (Nat.le_of_ble_eq_true rfl) (Nat.le_of_ble_eq_true rfl) (fun r_53 b1 H locs hw G => ?_)
          obtain ⟨rfl, hc_52⟩ := hw
          have G : zS T A s.heap s [[(xo, .inr (10, [.ref t, .ref im, .ref mk, .ref rd, .ref po, .ref co, .ref tr, .ref wa, .ref wb_, .ref fi, .ref cd]))], z1_, wt, [(tr, .inr (9, [.ref tpo, .ref a1_50, .ref a2_51, .int u0_17, .int u1_18, .int u2_19, .int u3_20, .int u4_21]))], [(a1_50, .inl (T.2 0, 7, .inl s1_15))], [(a2_51, .inl (T.2 0, 7, .inl s2_16))], wp2_22, z0_] _ _ := G
          rcases hc_52 with ⟨rfl, h_54, h_55, h_56, h_57⟩ | ⟨rfl, h_58⟩
          · have h_54 : 0 ≤ u2_19.toInt := h_54
            have h_55 : u2_19.toInt < cr0_.toInt := h_55
            have h_56 : u2_19.toInt < 7 := h_56
            have h_57 : ¬ zBit inn0_ u2_19 = 0 := h_57
            refine lv_if_eq (tgt := 99) hx hb dX11_walk_92 (by decide) (fun q => absurd q (by decide)) (fun _ => ?_)
            refine lv_iconst (v := 1) hx hb dX11_walk_95 (by decide) ?_
            refine lv_goto (tgt := 100) hx hb dX11_walk_96 (by decide) ?_
            have hw_59 : bTrail T tr tpo s1_15 s2_16 u0_17 u1_18 u2_19 u3_20 u4_21 [(tr, .inr (9, [.ref tpo, .ref a1_50, .ref a2_51, .int u0_17, .int u1_18, .int u2_19, .int u3_20, .int u4_21])), (a1_50, .inl (T.2 0, 7, .inl s1_15)), (a2_51, .inl (T.2 0, 7, .inl s2_16))] := ⟨a1_50, a2_51, rfl⟩
            have G : zS T A s.heap s [[(xo, .inr (10, [.ref t, .ref im, .ref mk, .ref rd, .ref po, .ref co, .ref tr, .ref wa, .ref wb_, .ref fi, .ref cd]))], z1_, wt, [(tr, .inr (9, [.ref tpo, .ref a1_50, .ref a2_51, .int u0_17, .int u1_18, .int u2_19, .int u3_20, .int u4_21])), (a1_50, .inl (T.2 0, 7, .inl s1_15)), (a2_51, .inl (T.2 0, 7, .inl s2_16))], wp2_22, z0_] _ _ := G.re rfl
            have G := G.sub (bs' := [[(xo, .inr (10, [.ref t, .ref im, .ref mk, .ref rd, .ref po, .ref co, .ref tr, .ref wa, .ref wb_, .ref fi, .ref cd]))], wt, z0_, z1_, [(tr, .inr (9, [.ref tpo, .ref a1_50, .ref a2_51, .int u0_17, .int u1_18, .int u2_19, .int u3_20, .int u4_21])), (a1_50, .inl (T.2 0, 7, .inl s1_15)), (a2_51, .inl (T.2 0, 7, .inl s2_16))], wp2_22]) [0, 2, 5, 1, 3, 4] rfl
            exact z_iret C hr hlocks G (Nat.le_of_ble_eq_true rfl) (Nat.le_of_ble_eq_true rfl) dX11_walk_100 ⟨s1_15, s2_16, u0_17, u1_18, u2_19, u3_20, u4_21, ([(tr, .inr (9, [.ref tpo, .ref a1_50, .ref a2_51, .int u0_17, .int u1_18, .int u2_19, .int u3_20, .int u4_21])), (a1_50, .inl (T.2 0, 7, .inl s1_15)), (a2_51, .inl (T.2 0, 7, .inl s2_16))]), l0, g1_23, g2_24, g3_25, sa_26, wa_27, wp2_22, rfl, hw_59, h_29, (Or.inr (Or.inl ⟨by assumption, by assumption, Or.inl ⟨⟨by omega, by omega⟩, G1_, g2_24, g3_25, ⟨hA1, hA2, hA3, hA4⟩, Or.inr (Or.inr (Or.inl ⟨by omega, Or.inl ⟨by rw [← hA6]; exact ⟨by assumption, by assumption, by assumption, by assumption⟩, rfl⟩⟩))⟩⟩))⟩
          · have h_58 : (u2_19.toInt < 0 ∨ cr0_.toInt ≤ u2_19.toInt ∨ 7 ≤ u2_19.toInt ∨ zBit inn0_ u2_19 = 0) := h_58
            have hni := h_58
            refine lv_if_eq (tgt := 99) hx hb dX11_walk_92 (by decide) (fun _ => ?_) (fun q => absurd (by decide) q)
            refine lv_iconst (v := 0) hx hb dX11_walk_99 (by decide) ?_
            have hw_60 : bTrail T tr tpo s1_15 s2_16 u0_17 u1_18 u2_19 u3_20 u4_21 [(tr, .inr (9, [.ref tpo, .ref a1_50, .ref a2_51, .int u0_17, .int u1_18, .int u2_19, .int u3_20, .int u4_21])), (a1_50, .inl (T.2 0, 7, .inl s1_15)), (a2_51, .inl (T.2 0, 7, .inl s2_16))] := ⟨a1_50, a2_51, rfl⟩
            have G : zS T A s.heap s [[(xo, .inr (10, [.ref t, .ref im, .ref mk, .ref rd, .ref po, .ref co, .ref tr, .ref wa, .ref wb_, .ref fi, .ref cd]))], z1_, wt, [(tr, .inr (9, [.ref tpo, .ref a1_50, .ref a2_51, .int u0_17, .int u1_18, .int u2_19, .int u3_20, .int u4_21])), (a1_50, .inl (T.2 0, 7, .inl s1_15)), (a2_51, .inl (T.2 0, 7, .inl s2_16))], wp2_22, z0_] _ _ := G.re rfl
            have G := G.sub (bs' := [[(xo, .inr (10, [.ref t, .ref im, .ref mk, .ref rd, .ref po, .ref co, .ref tr, .ref wa, .ref wb_, .ref fi, .ref cd]))], wt, z0_, z1_, [(tr, .inr (9, [.ref tpo, .ref a1_50, .ref a2_51, .int u0_17, .int u1_18, .int u2_19, .int u3_20, .int u4_21])), (a1_50, .inl (T.2 0, 7, .inl s1_15)), (a2_51, .inl (T.2 0, 7, .inl s2_16))], wp2_22]) [0, 2, 5, 1, 3, 4] rfl
            exact z_iret C hr hlocks G (Nat.le_of_ble_eq_true rfl) (Nat.le_of_ble_eq_true rfl) dX11_walk_100 ⟨s1_15, s2_16, u0_17, u1_18, u2_19, u3_20, u4_21, ([(tr, .inr (9, [.ref tpo, .ref a1_50, .ref a2_51, .int u0_17, .int u1_18, .int u2_19, .int u3_20, .int u4_21])), (a1_50, .inl (T.2 0, 7, .inl s1_15)), (a2_51, .inl (T.2 0, 7, .inl s2_16))]), l0, g1_23, g2_24, g3_25, sa_26, wa_27, wp2_22, rfl, hw_60, h_29, (Or.inr (Or.inl ⟨by assumption, by assumption, Or.inl ⟨⟨by omega, by omega⟩, G1_, g2_24, g3_25, ⟨hA1, hA2, hA3, hA4⟩, Or.inr (Or.inr (Or.inl ⟨by omega, Or.inr ⟨by rw [← hA6]; exact fun q8 => by rcases hni with e9 | e9 | e9 | e9 <;> first | exact q8.2.2.2 e9 | omega, rfl⟩⟩))⟩⟩))⟩
    · have h_13 : (a_.toInt < 0 ∨ cr0_.toInt ≤ a_.toInt ∨ 7 ≤ a_.toInt) := h_13
      refine lv_if_ne (tgt := 27) hx hb dX11_walk_21 (by decide) (fun q => absurd (by decide) q) (fun _ => ?_)
      refine lv_bipush (v := (-2)) hx hb dX11_walk_24 (by decide) ?_
      have G := G.sub (bs' := [[(xo, .inr (10, [.ref t, .ref im, .ref mk, .ref rd, .ref po, .ref co, .ref tr, .ref wa, .ref wb_, .ref fi, .ref cd]))], wt, z0_, z1_, wr, wrp]) [0, 4, 5, 1, 2, 3] rfl
      exact z_iret C hr hlocks G (Nat.le_of_ble_eq_true rfl) (Nat.le_of_ble_eq_true rfl) dX11_walk_26 ⟨t1, t2, u0_, u1_, u2_, u3_, u4_, wr, tpl, tf1, tf2, tf3, tst, twh, wrp, rfl, hr_, hrp, (Or.inr (Or.inl ⟨by assumption, by assumption, Or.inr ⟨by have q9 := hI0_.1; omega, rfl⟩⟩))⟩
  · have h_6 : i1.toInt = 1 := h_6
    have h_7 : 1 < (fk 0).toInt := h_7
    refine lv_astore (lv' := [(4, .ref l1), (0, .ref xo), (1, .int i1), (2, .int a_), (3, .int w_)]) hx hb dX11_walk_8 hl (by decide) rfl (fun ls hl => ?_)
    refine lv_aload hx hb dX11_walk_10 (lv_at hl 0 rfl) ?_
    refine lv_ifnull hx hb dX11_walk_12 ?_
    refine lv_aload hx hb dX11_walk_15 (lv_at hl 0 rfl) ?_
    refine lv_iload_n hx hb dX11_walk_17 rfl (lv_at hl 3 rfl) ?_
    refine z_Vi (bc := [z1_]) (br := [[(xo, .inr (10, [.ref t, .ref im, .ref mk, .ref rd, .ref po, .ref co, .ref tr, .ref wa, .ref wb_, .ref fi, .ref cd]))], z0_, wr, wrp, wt]) (As := [.int a_]) (rest := []) C G (c_has l T l1 cr1_ inn1_ k11_ k21_ k31_ k41_ z1_ a_ hz1_) (kV_RX11_160 C.2.2.2.2 (Nat.le_of_ble_eq_true rfl) (Nat.le_of_ble_eq_true rfl)) [2] [0, 1, 3, 4, 5] rfl rfl (ci := 4) (qc := (RX4, TX4, 6)) rfl rfl (List.mem_flatten.mpr ⟨_, List.mem_of_getElem? (i := 0) rfl, (bLand_mem hz1_).choose_spec⟩) rfl rfl hl.1 dX11_walk_18 (Nat.le_of_ble_eq_true rfl) (Nat.le_of_ble_eq_true rfl) (fun r_62 b1 H locs hw G => ?_)
    obtain ⟨rfl, hc_61⟩ := hw
    have G : zS T A s.heap s [[(xo, .inr (10, [.ref t, .ref im, .ref mk, .ref rd, .ref po, .ref co, .ref tr, .ref wa, .ref wb_, .ref fi, .ref cd]))], z0_, wr, wrp, wt, z1_] _ _ := G
    rcases hc_61 with ⟨rfl, h_63, h_64, h_65⟩ | ⟨rfl, h_66⟩
    · have h_63 : 0 ≤ a_.toInt := h_63
      have h_64 : a_.toInt < cr1_.toInt := h_64
      have h_65 : a_.toInt < 7 := h_65
      refine lv_if_ne (tgt := 27) hx hb dX11_walk_21 (by decide) (fun _ => ?_) (fun q => absurd q (by decide))
      refine lv_aload_n hx hb dX11_walk_27 rfl (lv_at hl 1 rfl) ?_
      refine z_get C G clX11 0 rfl 6 (by decide) m_fl_RX11_48 rfl dX11_walk_28 ?_
      refine lv_aload hx hb dX11_walk_31 (lv_at hl 0 rfl) ?_
      refine lv_iload_n hx hb dX11_walk_33 rfl (lv_at hl 3 rfl) ?_
      refine z_Vv (bc := [wr, wrp, z1_]) (br := [[(xo, .inr (10, [.ref t, .ref im, .ref mk, .ref rd, .ref po, .ref co, .ref tr, .ref wa, .ref wb_, .ref fi, .ref cd]))], z0_, wt]) (As := [.ref l1, .int a_]) (rest := []) C G (c_f_follow l T tr tpo t1 t2 u0_ u1_ u2_ u3_ u4_ wr tpl tf1 tf2 tf3 tst twh wrp l1 cr1_ inn1_ k11_ k21_ k31_ k41_ z1_ a_ hr_ hrp hz1_ (by first | assumption | omega | rfl)) (kV_RX11_164 C.2.2.2.2 (Nat.le_of_ble_eq_true rfl) (Nat.le_of_ble_eq_true rfl)) [2, 3, 5] [0, 1, 4] rfl rfl (ci := 9) (qc := (RX10, TX10, 8)) rfl rfl (List.mem_flatten.mpr ⟨_, List.mem_of_getElem? (i := 0) rfl, (bTrail_mem hr_).choose_spec⟩) rfl rfl hl.1 dX11_walk_34 (Nat.le_of_ble_eq_true rfl) (Nat.le_of_ble_eq_true rfl) (fun b1 H locs hw G => ?_)
      obtain ⟨wt2_67, s1_68, s2_69, u0_70, u1_71, u2_72, u3_73, u4_74, wp2_75, g1_76, g2_77, g3_78, sa_79, wa_80, rfl, h_81, h_82, h_83, h_84⟩ := hw
      have G : zS T A s.heap s [[(xo, .inr (10, [.ref t, .ref im, .ref mk, .ref rd, .ref po, .ref co, .ref tr, .ref wa, .ref wb_, .ref fi, .ref cd]))], z0_, wt, wt2_67, wp2_75, z1_] _ _ := G
      obtain ⟨G1_, ⟨hA1, hA2, hA3, hA4⟩, ⟨hA5, hA6⟩, W0_, hA7, hA8⟩ := h_84
      refine lv_iload_n hx hb dX11_walk_37 rfl (lv_at hl 4 rfl) ?_
      by_cases c_86o : w_.toInt < 0 ∨ 2 < w_.toInt
      · refine lv_tableOut (tgt := 101) hx hb dX11_walk_38 c_86o (by decide) ?_
        have hs10 := zS10 (w := w_)
        refine lv_aload hx hb dX11_walk_101 (lv_at hl 0 rfl) ?_
        refine lv_iload_n hx hb dX11_walk_103 rfl (lv_at hl 4 rfl) ?_
        refine lv_bipush (v := 10) hx hb dX11_walk_104 (by decide) ?_
        refine lv_isub hx hb dX11_walk_106 ?_
        refine z_Vi (bc := [z1_]) (br := [[(xo, .inr (10, [.ref t, .ref im, .ref mk, .ref rd, .ref po, .ref co, .ref tr, .ref wa, .ref wb_, .ref fi, .ref cd]))], z0_, wt, wt2_67, wp2_75]) (As := [.int (w_ - 10)]) (rest := []) C G (c_has l T l1 cr1_ inn1_ k11_ k21_ k31_ k41_ z1_ (w_ - 10) hz1_) (kV_RX11_160 C.2.2.2.2 (Nat.le_of_ble_eq_true rfl) (Nat.le_of_ble_eq_true rfl)) [5] [0, 1, 2, 3, 4] rfl rfl (ci := 4) (qc := (RX4, TX4, 6)) rfl rfl (List.mem_flatten.mpr ⟨_, List.mem_of_getElem? (i := 0) rfl, (bLand_mem hz1_).choose_spec⟩) rfl rfl hl.1 dX11_walk_107 (Nat.le_of_ble_eq_true rfl) (Nat.le_of_ble_eq_true rfl) (fun r_88 b1 H locs hw G => ?_)
        obtain ⟨rfl, hc_87⟩ := hw
        have G : zS T A s.heap s [[(xo, .inr (10, [.ref t, .ref im, .ref mk, .ref rd, .ref po, .ref co, .ref tr, .ref wa, .ref wb_, .ref fi, .ref cd]))], z0_, wt, wt2_67, wp2_75, z1_] _ _ := G
        rcases hc_87 with ⟨rfl, h_89, h_90, h_91⟩ | ⟨rfl, h_92⟩
        · have h_89 : 0 ≤ (w_ - 10).toInt := h_89
          have h_90 : (w_ - 10).toInt < cr1_.toInt := h_90
          have h_91 : (w_ - 10).toInt < 7 := h_91
          refine lv_if_eq (tgt := 128) hx hb dX11_walk_110 (by decide) (fun q => absurd q (by decide)) (fun _ => ?_)
          refine lv_aload_n hx hb dX11_walk_113 rfl (lv_at hl 1 rfl) ?_
          refine z_get C G clX11 0 rfl 6 (by decide) m_fl_RX11_48 rfl dX11_walk_114 ?_
          obtain ⟨a1_93, a2_94, rfl⟩ := h_81
          have G : zS T A s.heap s [[(xo, .inr (10, [.ref t, .ref im, .ref mk, .ref rd, .ref po, .ref co, .ref tr, .ref wa, .ref wb_, .ref fi, .ref cd]))], z0_, wt, [(tr, .inr (9, [.ref tpo, .ref a1_93, .ref a2_94, .int u0_70, .int u1_71, .int u2_72, .int u3_73, .int u4_74]))], [(a1_93, .inl (T.2 0, 7, .inl s1_68))], [(a2_94, .inl (T.2 0, 7, .inl s2_69))], wp2_75, z1_] _ _ := G.re rfl
          refine z_get C G clX10 3 rfl 1 (by decide) m_fl_RX11_177 rfl dX11_walk_117 ?_
          refine lv_iload_n hx hb dX11_walk_120 rfl (lv_at hl 4 rfl) ?_
          refine lv_bipush (v := 10) hx hb dX11_walk_121 (by decide) ?_
          refine lv_isub hx hb dX11_walk_123 ?_
          refine z_ild C G 4 rfl (vp_in_iff.mpr ⟨by omega, by omega⟩) dX11_walk_124 ?_
          refine lv_topi (fun v_95 ev_95 => ?_)
          subst ev_95
          refine lv_goto (tgt := 130) hx hb dX11_walk_125 (by decide) ?_
          have hw_96 : bTrail T tr tpo s1_68 s2_69 u0_70 u1_71 u2_72 u3_73 u4_74 [(tr, .inr (9, [.ref tpo, .ref a1_93, .ref a2_94, .int u0_70, .int u1_71, .int u2_72, .int u3_73, .int u4_74])), (a1_93, .inl (T.2 0, 7, .inl s1_68)), (a2_94, .inl (T.2 0, 7, .inl s2_69))] := ⟨a1_93, a2_94, rfl⟩
          have G : zS T A s.heap s [[(xo, .inr (10, [.ref t, .ref im, .ref mk, .ref rd, .ref po, .ref co, .ref tr, .ref wa, .ref wb_, .ref fi, .ref cd]))], z0_, wt, [(tr, .inr (9, [.ref tpo, .ref a1_93, .ref a2_94, .int u0_70, .int u1_71, .int u2_72, .int u3_73, .int u4_74])), (a1_93, .inl (T.2 0, 7, .inl s1_68)), (a2_94, .inl (T.2 0, 7, .inl s2_69))], wp2_75, z1_] _ _ := G.re rfl
          have G := G.sub (bs' := [[(xo, .inr (10, [.ref t, .ref im, .ref mk, .ref rd, .ref po, .ref co, .ref tr, .ref wa, .ref wb_, .ref fi, .ref cd]))], wt, z0_, z1_, [(tr, .inr (9, [.ref tpo, .ref a1_93, .ref a2_94, .int u0_70, .int u1_71, .int u2_72, .int u3_73, .int u4_74])), (a1_93, .inl (T.2 0, 7, .inl s1_68)), (a2_94, .inl (T.2 0, 7, .inl s2_69))], wp2_75]) [0, 2, 1, 5, 3, 4] rfl
          exact z_iret C hr hlocks G (Nat.le_of_ble_eq_true rfl) (Nat.le_of_ble_eq_true rfl) dX11_walk_130 ⟨s1_68, s2_69, u0_70, u1_71, u2_72, u3_73, u4_74, ([(tr, .inr (9, [.ref tpo, .ref a1_93, .ref a2_94, .int u0_70, .int u1_71, .int u2_72, .int u3_73, .int u4_74])), (a1_93, .inl (T.2 0, 7, .inl s1_68)), (a2_94, .inl (T.2 0, 7, .inl s2_69))]), l1, g1_76, g2_77, g3_78, sa_79, wa_80, wp2_75, rfl, hw_96, h_82, (Or.inr (Or.inr ⟨by assumption, by assumption, Or.inl ⟨⟨by omega, by omega⟩, G1_, g2_77, g3_78, ⟨hA1, hA2, hA3, hA4⟩, Or.inr (Or.inr (Or.inr ⟨by omega, Or.inl ⟨by omega, by omega, W0_, hA7, by rw [hA8]; exact congrArg _ (by have q8 := z_clI (x := w_ - 10) (by omega); omega)⟩⟩))⟩⟩))⟩
        · have h_92 : ((w_ - 10).toInt < 0 ∨ cr1_.toInt ≤ (w_ - 10).toInt ∨ 7 ≤ (w_ - 10).toInt) := h_92
          refine lv_if_eq (tgt := 128) hx hb dX11_walk_110 (by decide) (fun _ => ?_) (fun q => absurd (by decide) q)
          refine lv_bipush (v := (-2)) hx hb dX11_walk_128 (by decide) ?_
          have G := G.sub (bs' := [[(xo, .inr (10, [.ref t, .ref im, .ref mk, .ref rd, .ref po, .ref co, .ref tr, .ref wa, .ref wb_, .ref fi, .ref cd]))], wt, z0_, z1_, wt2_67, wp2_75]) [0, 2, 1, 5, 3, 4] rfl
          exact z_iret C hr hlocks G (Nat.le_of_ble_eq_true rfl) (Nat.le_of_ble_eq_true rfl) dX11_walk_130 ⟨s1_68, s2_69, u0_70, u1_71, u2_72, u3_73, u4_74, wt2_67, l1, g1_76, g2_77, g3_78, sa_79, wa_80, wp2_75, rfl, h_81, h_82, (Or.inr (Or.inr ⟨by assumption, by assumption, Or.inl ⟨⟨by omega, by omega⟩, G1_, g2_77, g3_78, ⟨hA1, hA2, hA3, hA4⟩, Or.inr (Or.inr (Or.inr ⟨by omega, Or.inr ⟨by have q9 := hI1_.1; omega, rfl⟩⟩))⟩⟩))⟩
      · have c_86r : w_.toInt = 0 ∨ w_.toInt = 1 ∨ w_.toInt = 2 := by omega
        rcases c_86r with c_86 | c_86 | c_86
        · refine lv_tableIn (tgt := 64) hx hb dX11_walk_38 (by omega) (by omega) (by rw [c_86]; rfl) (by decide) ?_
          refine lv_aload_n hx hb dX11_walk_64 rfl (lv_at hl 1 rfl) ?_
          refine z_get C G clX11 0 rfl 6 (by decide) m_fl_RX11_48 rfl dX11_walk_65 ?_
          obtain ⟨a1_97, a2_98, rfl⟩ := h_81
          have G : zS T A s.heap s [[(xo, .inr (10, [.ref t, .ref im, .ref mk, .ref rd, .ref po, .ref co, .ref tr, .ref wa, .ref wb_, .ref fi, .ref cd]))], z0_, wt, [(tr, .inr (9, [.ref tpo, .ref a1_97, .ref a2_98, .int u0_70, .int u1_71, .int u2_72, .int u3_73, .int u4_74]))], [(a1_97, .inl (T.2 0, 7, .inl s1_68))], [(a2_98, .inl (T.2 0, 7, .inl s2_69))], wp2_75, z1_] _ _ := G.re rfl
          refine z_get C G clX10 3 rfl 4 (by decide) m_fl_RX11_168 rfl dX11_walk_68 ?_
          have hw_99 : bTrail T tr tpo s1_68 s2_69 u0_70 u1_71 u2_72 u3_73 u4_74 [(tr, .inr (9, [.ref tpo, .ref a1_97, .ref a2_98, .int u0_70, .int u1_71, .int u2_72, .int u3_73, .int u4_74])), (a1_97, .inl (T.2 0, 7, .inl s1_68)), (a2_98, .inl (T.2 0, 7, .inl s2_69))] := ⟨a1_97, a2_98, rfl⟩
          have G : zS T A s.heap s [[(xo, .inr (10, [.ref t, .ref im, .ref mk, .ref rd, .ref po, .ref co, .ref tr, .ref wa, .ref wb_, .ref fi, .ref cd]))], z0_, wt, [(tr, .inr (9, [.ref tpo, .ref a1_97, .ref a2_98, .int u0_70, .int u1_71, .int u2_72, .int u3_73, .int u4_74])), (a1_97, .inl (T.2 0, 7, .inl s1_68)), (a2_98, .inl (T.2 0, 7, .inl s2_69))], wp2_75, z1_] _ _ := G.re rfl
          have G := G.sub (bs' := [[(xo, .inr (10, [.ref t, .ref im, .ref mk, .ref rd, .ref po, .ref co, .ref tr, .ref wa, .ref wb_, .ref fi, .ref cd]))], wt, z0_, z1_, [(tr, .inr (9, [.ref tpo, .ref a1_97, .ref a2_98, .int u0_70, .int u1_71, .int u2_72, .int u3_73, .int u4_74])), (a1_97, .inl (T.2 0, 7, .inl s1_68)), (a2_98, .inl (T.2 0, 7, .inl s2_69))], wp2_75]) [0, 2, 1, 5, 3, 4] rfl
          exact z_iret C hr hlocks G (Nat.le_of_ble_eq_true rfl) (Nat.le_of_ble_eq_true rfl) dX11_walk_71 ⟨s1_68, s2_69, u0_70, u1_71, u2_72, u3_73, u4_74, ([(tr, .inr (9, [.ref tpo, .ref a1_97, .ref a2_98, .int u0_70, .int u1_71, .int u2_72, .int u3_73, .int u4_74])), (a1_97, .inl (T.2 0, 7, .inl s1_68)), (a2_98, .inl (T.2 0, 7, .inl s2_69))]), l1, g1_76, g2_77, g3_78, sa_79, wa_80, wp2_75, rfl, hw_99, h_82, (Or.inr (Or.inr ⟨by assumption, by assumption, Or.inl ⟨⟨by omega, by omega⟩, G1_, g2_77, g3_78, ⟨hA1, hA2, hA3, hA4⟩, Or.inl ⟨by omega, hA5⟩⟩⟩))⟩
        · refine lv_tableIn (tgt := 72) hx hb dX11_walk_38 (by omega) (by omega) (by rw [c_86]; rfl) (by decide) ?_
          refine lv_aload_n hx hb dX11_walk_72 rfl (lv_at hl 1 rfl) ?_
          refine z_get C G clX11 0 rfl 6 (by decide) m_fl_RX11_48 rfl dX11_walk_73 ?_
          obtain ⟨a1_100, a2_101, rfl⟩ := h_81
          have G : zS T A s.heap s [[(xo, .inr (10, [.ref t, .ref im, .ref mk, .ref rd, .ref po, .ref co, .ref tr, .ref wa, .ref wb_, .ref fi, .ref cd]))], z0_, wt, [(tr, .inr (9, [.ref tpo, .ref a1_100, .ref a2_101, .int u0_70, .int u1_71, .int u2_72, .int u3_73, .int u4_74]))], [(a1_100, .inl (T.2 0, 7, .inl s1_68))], [(a2_101, .inl (T.2 0, 7, .inl s2_69))], wp2_75, z1_] _ _ := G.re rfl
          refine z_get C G clX10 3 rfl 5 (by decide) m_fl_RX11_171 rfl dX11_walk_76 ?_
          have hw_102 : bTrail T tr tpo s1_68 s2_69 u0_70 u1_71 u2_72 u3_73 u4_74 [(tr, .inr (9, [.ref tpo, .ref a1_100, .ref a2_101, .int u0_70, .int u1_71, .int u2_72, .int u3_73, .int u4_74])), (a1_100, .inl (T.2 0, 7, .inl s1_68)), (a2_101, .inl (T.2 0, 7, .inl s2_69))] := ⟨a1_100, a2_101, rfl⟩
          have G : zS T A s.heap s [[(xo, .inr (10, [.ref t, .ref im, .ref mk, .ref rd, .ref po, .ref co, .ref tr, .ref wa, .ref wb_, .ref fi, .ref cd]))], z0_, wt, [(tr, .inr (9, [.ref tpo, .ref a1_100, .ref a2_101, .int u0_70, .int u1_71, .int u2_72, .int u3_73, .int u4_74])), (a1_100, .inl (T.2 0, 7, .inl s1_68)), (a2_101, .inl (T.2 0, 7, .inl s2_69))], wp2_75, z1_] _ _ := G.re rfl
          have G := G.sub (bs' := [[(xo, .inr (10, [.ref t, .ref im, .ref mk, .ref rd, .ref po, .ref co, .ref tr, .ref wa, .ref wb_, .ref fi, .ref cd]))], wt, z0_, z1_, [(tr, .inr (9, [.ref tpo, .ref a1_100, .ref a2_101, .int u0_70, .int u1_71, .int u2_72, .int u3_73, .int u4_74])), (a1_100, .inl (T.2 0, 7, .inl s1_68)), (a2_101, .inl (T.2 0, 7, .inl s2_69))], wp2_75]) [0, 2, 1, 5, 3, 4] rfl
          exact z_iret C hr hlocks G (Nat.le_of_ble_eq_true rfl) (Nat.le_of_ble_eq_true rfl) dX11_walk_79 ⟨s1_68, s2_69, u0_70, u1_71, u2_72, u3_73, u4_74, ([(tr, .inr (9, [.ref tpo, .ref a1_100, .ref a2_101, .int u0_70, .int u1_71, .int u2_72, .int u3_73, .int u4_74])), (a1_100, .inl (T.2 0, 7, .inl s1_68)), (a2_101, .inl (T.2 0, 7, .inl s2_69))]), l1, g1_76, g2_77, g3_78, sa_79, wa_80, wp2_75, rfl, hw_102, h_82, (Or.inr (Or.inr ⟨by assumption, by assumption, Or.inl ⟨⟨by omega, by omega⟩, G1_, g2_77, g3_78, ⟨hA1, hA2, hA3, hA4⟩, Or.inr (Or.inl ⟨by omega, hA6⟩)⟩⟩))⟩
        · refine lv_tableIn (tgt := 80) hx hb dX11_walk_38 (by omega) (by omega) (by rw [c_86]; rfl) (by decide) ?_
          refine lv_aload hx hb dX11_walk_80 (lv_at hl 0 rfl) ?_
          refine lv_aload_n hx hb dX11_walk_82 rfl (lv_at hl 1 rfl) ?_
          refine z_get C G clX11 0 rfl 6 (by decide) m_fl_RX11_48 rfl dX11_walk_83 ?_
          obtain ⟨a1_103, a2_104, rfl⟩ := h_81
          have G : zS T A s.heap s [[(xo, .inr (10, [.ref t, .ref im, .ref mk, .ref rd, .ref po, .ref co, .ref tr, .ref wa, .ref wb_, .ref fi, .ref cd]))], z0_, wt, [(tr, .inr (9, [.ref tpo, .ref a1_103, .ref a2_104, .int u0_70, .int u1_71, .int u2_72, .int u3_73, .int u4_74]))], [(a1_103, .inl (T.2 0, 7, .inl s1_68))], [(a2_104, .inl (T.2 0, 7, .inl s2_69))], wp2_75, z1_] _ _ := G.re rfl
          refine z_get C G clX10 3 rfl 5 (by decide) m_fl_RX11_171 rfl dX11_walk_86 ?_
          refine z_Vi (bc := [z1_]) (br := [[(xo, .inr (10, [.ref t, .ref im, .ref mk, .ref rd, .ref po, .ref co, .ref tr, .ref wa, .ref wb_, .ref fi, .ref cd]))], z0_, wt, [(tr, .inr (9, [.ref tpo, .ref a1_103, .ref a2_104, .int u0_70, .int u1_71, .int u2_72, .int u3_73, .int u4_74]))], [(a1_103, .inl (T.2 0, 7, .inl s1_68))], [(a2_104, .inl (T.2 0, 7, .inl s2_69))], wp2_75]) (As := [.int u2_72]) (rest := []) C G (c_isInn l T l1 cr1_ inn1_ k11_ k21_ k31_ k41_ z1_ u2_72 hz1_) (kV_RX11_174 C.2.2.2.2 (Nat.le_of_ble_eq_true rfl) (Nat.le_of_ble_eq_true rfl)) [7] [0, 1, 2, 3, 4, 5, 6] rfl rfl (ci := 4) (qc := (RX4, TX4, 6)) rfl rfl (List.mem_flatten.mpr ⟨_, List.mem_of_getElem? (i := 0) rfl, (bLand_mem hz1_).choose_spec⟩) rfl rfl hl.1 dX11_walk_89 (Nat.le_of_ble_eq_true rfl) (Nat.le_of_ble_eq_true rfl) (fun r_106 b1 H locs hw G => ?_)
          obtain ⟨rfl, hc_105⟩ := hw
          have G : zS T A s.heap s [[(xo, .inr (10, [.ref t, .ref im, .ref mk, .ref rd, .ref po, .ref co, .ref tr, .ref wa, .ref wb_, .ref fi, .ref cd]))], z0_, wt, [(tr, .inr (9, [.ref tpo, .ref a1_103, .ref a2_104, .int u0_70, .int u1_71, .int u2_72, .int u3_73, .int u4_74]))], [(a1_103, .inl (T.2 0, 7, .inl s1_68))], [(a2_104, .inl (T.2 0, 7, .inl s2_69))], wp2_75, z1_] _ _ := G
          rcases hc_105 with ⟨rfl, h_107, h_108, h_109, h_110⟩ | ⟨rfl, h_111⟩
          · have h_107 : 0 ≤ u2_72.toInt := h_107
            have h_108 : u2_72.toInt < cr1_.toInt := h_108
            have h_109 : u2_72.toInt < 7 := h_109
            have h_110 : ¬ zBit inn1_ u2_72 = 0 := h_110
            refine lv_if_eq (tgt := 99) hx hb dX11_walk_92 (by decide) (fun q => absurd q (by decide)) (fun _ => ?_)
            refine lv_iconst (v := 1) hx hb dX11_walk_95 (by decide) ?_
            refine lv_goto (tgt := 100) hx hb dX11_walk_96 (by decide) ?_
            have hw_112 : bTrail T tr tpo s1_68 s2_69 u0_70 u1_71 u2_72 u3_73 u4_74 [(tr, .inr (9, [.ref tpo, .ref a1_103, .ref a2_104, .int u0_70, .int u1_71, .int u2_72, .int u3_73, .int u4_74])), (a1_103, .inl (T.2 0, 7, .inl s1_68)), (a2_104, .inl (T.2 0, 7, .inl s2_69))] := ⟨a1_103, a2_104, rfl⟩
            have G : zS T A s.heap s [[(xo, .inr (10, [.ref t, .ref im, .ref mk, .ref rd, .ref po, .ref co, .ref tr, .ref wa, .ref wb_, .ref fi, .ref cd]))], z0_, wt, [(tr, .inr (9, [.ref tpo, .ref a1_103, .ref a2_104, .int u0_70, .int u1_71, .int u2_72, .int u3_73, .int u4_74])), (a1_103, .inl (T.2 0, 7, .inl s1_68)), (a2_104, .inl (T.2 0, 7, .inl s2_69))], wp2_75, z1_] _ _ := G.re rfl
            have G := G.sub (bs' := [[(xo, .inr (10, [.ref t, .ref im, .ref mk, .ref rd, .ref po, .ref co, .ref tr, .ref wa, .ref wb_, .ref fi, .ref cd]))], wt, z0_, z1_, [(tr, .inr (9, [.ref tpo, .ref a1_103, .ref a2_104, .int u0_70, .int u1_71, .int u2_72, .int u3_73, .int u4_74])), (a1_103, .inl (T.2 0, 7, .inl s1_68)), (a2_104, .inl (T.2 0, 7, .inl s2_69))], wp2_75]) [0, 2, 1, 5, 3, 4] rfl
            exact z_iret C hr hlocks G (Nat.le_of_ble_eq_true rfl) (Nat.le_of_ble_eq_true rfl) dX11_walk_100 ⟨s1_68, s2_69, u0_70, u1_71, u2_72, u3_73, u4_74, ([(tr, .inr (9, [.ref tpo, .ref a1_103, .ref a2_104, .int u0_70, .int u1_71, .int u2_72, .int u3_73, .int u4_74])), (a1_103, .inl (T.2 0, 7, .inl s1_68)), (a2_104, .inl (T.2 0, 7, .inl s2_69))]), l1, g1_76, g2_77, g3_78, sa_79, wa_80, wp2_75, rfl, hw_112, h_82, (Or.inr (Or.inr ⟨by assumption, by assumption, Or.inl ⟨⟨by omega, by omega⟩, G1_, g2_77, g3_78, ⟨hA1, hA2, hA3, hA4⟩, Or.inr (Or.inr (Or.inl ⟨by omega, Or.inl ⟨by rw [← hA6]; exact ⟨by assumption, by assumption, by assumption, by assumption⟩, rfl⟩⟩))⟩⟩))⟩
          · have h_111 : (u2_72.toInt < 0 ∨ cr1_.toInt ≤ u2_72.toInt ∨ 7 ≤ u2_72.toInt ∨ zBit inn1_ u2_72 = 0) := h_111
            have hni := h_111
            refine lv_if_eq (tgt := 99) hx hb dX11_walk_92 (by decide) (fun _ => ?_) (fun q => absurd (by decide) q)
            refine lv_iconst (v := 0) hx hb dX11_walk_99 (by decide) ?_
            have hw_113 : bTrail T tr tpo s1_68 s2_69 u0_70 u1_71 u2_72 u3_73 u4_74 [(tr, .inr (9, [.ref tpo, .ref a1_103, .ref a2_104, .int u0_70, .int u1_71, .int u2_72, .int u3_73, .int u4_74])), (a1_103, .inl (T.2 0, 7, .inl s1_68)), (a2_104, .inl (T.2 0, 7, .inl s2_69))] := ⟨a1_103, a2_104, rfl⟩
            have G : zS T A s.heap s [[(xo, .inr (10, [.ref t, .ref im, .ref mk, .ref rd, .ref po, .ref co, .ref tr, .ref wa, .ref wb_, .ref fi, .ref cd]))], z0_, wt, [(tr, .inr (9, [.ref tpo, .ref a1_103, .ref a2_104, .int u0_70, .int u1_71, .int u2_72, .int u3_73, .int u4_74])), (a1_103, .inl (T.2 0, 7, .inl s1_68)), (a2_104, .inl (T.2 0, 7, .inl s2_69))], wp2_75, z1_] _ _ := G.re rfl
            have G := G.sub (bs' := [[(xo, .inr (10, [.ref t, .ref im, .ref mk, .ref rd, .ref po, .ref co, .ref tr, .ref wa, .ref wb_, .ref fi, .ref cd]))], wt, z0_, z1_, [(tr, .inr (9, [.ref tpo, .ref a1_103, .ref a2_104, .int u0_70, .int u1_71, .int u2_72, .int u3_73, .int u4_74])), (a1_103, .inl (T.2 0, 7, .inl s1_68)), (a2_104, .inl (T.2 0, 7, .inl s2_69))], wp2_75]) [0, 2, 1, 5, 3, 4] rfl
            exact z_iret C hr hlocks G (Nat.le_of_ble_eq_true rfl) (Nat.le_of_ble_eq_true rfl) dX11_walk_100 ⟨s1_68, s2_69, u0_70, u1_71, u2_72, u3_73, u4_74, ([(tr, .inr (9, [.ref tpo, .ref a1_103, .ref a2_104, .int u0_70, .int u1_71, .int u2_72, .int u3_73, .int u4_74])), (a1_103, .inl (T.2 0, 7, .inl s1_68)), (a2_104, .inl (T.2 0, 7, .inl s2_69))]), l1, g1_76, g2_77, g3_78, sa_79, wa_80, wp2_75, rfl, hw_113, h_82, (Or.inr (Or.inr ⟨by assumption, by assumption, Or.inl ⟨⟨by omega, by omega⟩, G1_, g2_77, g3_78, ⟨hA1, hA2, hA3, hA4⟩, Or.inr (Or.inr (Or.inl ⟨by omega, Or.inr ⟨by rw [← hA6]; exact fun q8 => by rcases hni with e9 | e9 | e9 | e9 <;> first | exact q8.2.2.2 e9 | omega, rfl⟩⟩))⟩⟩))⟩
    · have h_66 : (a_.toInt < 0 ∨ cr1_.toInt ≤ a_.toInt ∨ 7 ≤ a_.toInt) := h_66
      refine lv_if_ne (tgt := 27) hx hb dX11_walk_21 (by decide) (fun q => absurd (by decide) q) (fun _ => ?_)
      refine lv_bipush (v := (-2)) hx hb dX11_walk_24 (by decide) ?_
      have G := G.sub (bs' := [[(xo, .inr (10, [.ref t, .ref im, .ref mk, .ref rd, .ref po, .ref co, .ref tr, .ref wa, .ref wb_, .ref fi, .ref cd]))], wt, z0_, z1_, wr, wrp]) [0, 4, 1, 5, 2, 3] rfl
      exact z_iret C hr hlocks G (Nat.le_of_ble_eq_true rfl) (Nat.le_of_ble_eq_true rfl) dX11_walk_26 ⟨t1, t2, u0_, u1_, u2_, u3_, u4_, wr, tpl, tf1, tf2, tf3, tst, twh, wrp, rfl, hr_, hrp, (Or.inr (Or.inr ⟨by assumption, by assumption, Or.inr ⟨by have q9 := hI1_.1; omega, rfl⟩⟩))⟩


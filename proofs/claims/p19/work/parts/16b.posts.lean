def zNext (roads r : Int32) : Int32 := if r + 1 < roads then r + 1 else 0
def zTurnR (roads closed : Int32) : Nat → Int32 → Int32
  | 0, _ => -1
  | n + 1, r => if zBit closed (zNext roads r) = 0 then zNext roads r else zTurnR roads closed n (zNext roads r)
def zTurn (f1 f2 f3 : Nat → Int32) (x : Int32) : Int32 := if 0 ≤ x.toInt ∧ x.toInt < 7 then zTurnR (f3 x.toNatClampNeg) (f2 x.toNatClampNeg) (f3 x.toNatClampNeg).toNatClampNeg (f1 x.toNatClampNeg) else -1
def zPost (f1 f2 f3 : Nat → Int32) (x : Int32) : Nat → Int32 := if zTurn f1 f2 f3 x = -1 then f1 else upd f1 x.toNatClampNeg (zTurn f1 f2 f3 x)
/-- as many ways out as may be; a post points nowhere far -/
def zP3 (f1 f3 : Nat → Int32) : Prop := ∀ j, j < 7 → (0 ≤ (f3 j).toInt ∧ (f3 j).toInt ≤ 4) ∧ 0 ≤ (f1 j).toInt ∧ (f1 j).toInt ≤ 1000
theorem zTurnR_in {roads closed : Int32} (h0 : 0 ≤ roads.toInt) (h4 : roads.toInt ≤ 4) : ∀ (n : Nat) (r : Int32), (n : Int) ≤ roads.toInt → 0 ≤ r.toInt → r.toInt ≤ 1000 → zTurnR roads closed n r = -1 ∨ (0 ≤ (zTurnR roads closed n r).toInt ∧ (zTurnR roads closed n r).toInt ≤ 3)
  | 0, r, _, _, _ => Or.inl rfl
  | n + 1, r, hn, h1, h2 => by
    have e : (r + 1).toInt = r.toInt + 1 := z_iaddI (by show -2147483648 ≤ r.toInt + 1; omega) (by show r.toInt + 1 < 2147483648; omega)
    have hq : 0 ≤ (zNext roads r).toInt ∧ (zNext roads r).toInt ≤ 3 := by
      unfold zNext
      by_cases hc : r + 1 < roads
      · rw [if_pos hc]
        have hc2 := (fa_lt _ _).mp hc
        omega
      · rw [if_neg hc]
        exact ⟨by decide, by decide⟩
    rw [zTurnR]
    by_cases hb : zBit closed (zNext roads r) = 0
    · rw [if_pos hb]
      exact Or.inr hq
    · rw [if_neg hb]
      exact zTurnR_in h0 h4 n _ (by omega) hq.1 (by omega)
theorem zTurn_in {f1 f2 f3 : Nat → Int32} (hI : zP3 f1 f3) (x : Int32) : zTurn f1 f2 f3 x = -1 ∨ (0 ≤ x.toInt ∧ x.toInt < 7 ∧ 0 ≤ (zTurn f1 f2 f3 x).toInt ∧ (zTurn f1 f2 f3 x).toInt ≤ 3) := by
  unfold zTurn
  split
  · rename_i q
    have e := z_clI q.1
    have h := hI x.toNatClampNeg (by omega)
    have e2 := z_clI h.1.1
    rcases zTurnR_in (closed := f2 x.toNatClampNeg) h.1.1 h.1.2 (f3 x.toNatClampNeg).toNatClampNeg (f1 x.toNatClampNeg) (by omega) h.2.1 h.2.2 with g | g
    · exact Or.inl g
    · exact Or.inr ⟨q.1, q.2, g.1, g.2⟩
  · exact Or.inl rfl
theorem zPost_I {f1 f2 f3 : Nat → Int32} (hI : zP3 f1 f3) (x : Int32) : zP3 (zPost f1 f2 f3 x) f3 := by
  unfold zPost
  split
  · exact hI
  · rename_i q
    rcases zTurn_in (f2 := f2) hI x with g | g
    · exact absurd g q
    · intro j hj
      refine ⟨(hI j hj).1, ?_⟩
      unfold upd
      split
      · exact ⟨g.2.2.1, by omega⟩
      · exact (hI j hj).2
def zStep (f1 f2 f3 lf : Nat → Int32) (x : Int32) : Int32 := if zTurn f1 f2 f3 x = -1 then -1 else lf (4 * x.toNatClampNeg + (zTurn f1 f2 f3 x).toNatClampNeg)
theorem zStep_in {f1 f2 f3 lf : Nat → Int32} (hI : zP3 f1 f3) {x : Int32} (h : ¬ zStep f1 f2 f3 lf x = -1) : 0 ≤ x.toInt ∧ x.toInt < 7 ∧ zTurn f1 f2 f3 x ≠ -1 := by
  unfold zStep at h
  split at h
  · exact absurd rfl h
  · rename_i q
    rcases zTurn_in (f2 := f2) hI x with g | g
    · exact absurd g q
    · exact ⟨g.1, g.2.1, q⟩
/-- posts, where one is, how many steps: as many steps as may be -/
def zRunN (f2 f3 lf : Nat → Int32) : Nat → (Nat → Int32) → Int32 → Nat → (Nat → Int32) × Int32 × Nat
  | 0, f, x, k => (f, x, k)
  | n + 1, f, x, k => if zStep f f2 f3 lf x = -1 then (zPost f f2 f3 x, x, k) else zRunN f2 f3 lf n (zPost f f2 f3 x) (zStep f f2 f3 lf x) (k + 1)
theorem zRunN_I {f2 f3 lf : Nat → Int32} : ∀ (n : Nat) (f : Nat → Int32) (x : Int32) (k : Nat), zP3 f f3 → zP3 (zRunN f2 f3 lf n f x k).1 f3
  | 0, f, x, k, h => h
  | n + 1, f, x, k, h => by
    unfold zRunN
    split
    · exact zPost_I h x
    · exact zRunN_I n _ _ _ (zPost_I h x)
def zCode (f : Nat → Int32) : Nat → Int32
  | 0 => 0
  | n + 1 => zCode f n * 4 + f n
def zShut (cr : Int32) (lf1 f2 : Nat → Int32) (x y : Int32) : Nat → Int32 := if 0 ≤ x.toInt ∧ x.toInt < cr.toInt ∧ x.toInt < 7 ∧ 0 ≤ y.toInt ∧ y.toInt < (lf1 x.toNatClampNeg).toInt ∧ y.toInt < 4 then upd f2 x.toNatClampNeg (f2 x.toNatClampNeg ||| 1 <<< (y &&& 31)) else f2
def zOpen (cr : Int32) (lf1 f2 : Nat → Int32) (x y : Int32) : Nat → Int32 := if 0 ≤ x.toInt ∧ x.toInt < cr.toInt ∧ x.toInt < 7 ∧ 0 ≤ y.toInt ∧ y.toInt < (lf1 x.toNatClampNeg).toInt ∧ y.toInt < 4 then upd f2 x.toNatClampNeg (f2 x.toNatClampNeg &&& (1 <<< (y &&& 31) ^^^ (-1))) else f2
set_option maxHeartbeats 4000000 in
set_option maxRecDepth 100000 in
/-- begin -/
theorem c_Posts_begin (l : Launch) (T : zTy) (h : Nat) (la : Nat) (f1 : Nat → Int32) (f2 : Nat → Int32) (f3 : Nat → Int32) (st : Int32) (wh : Int32) (w : va_W) (o : Nat) (cr : Int32) (inn : Int32) (k1 : Nat → Int32) (k2 : Nat → Int32) (k3 : Nat → Int32) (k4 : Nat → Int32) (z : va_W) (hw : bPosts T h la f1 f2 f3 st wh w) (hz : bLand T o cr inn k1 k2 k3 k4 z) : zMv l T yX6_begin cX6_begin 3 3 0 0 [.ref h, .ref o] [w, z] (fun bs => ∃ (w2 : va_W) (g1 : Nat → Int32) (g2 : Nat → Int32) (g3 : Nat → Int32), bs = [w2, z] ∧ bPosts T h o g1 g2 g3 0 0 w2 ∧ (∀ j, j < 7 → g1 j = k3 j) ∧ (∀ j, j < 7 → g2 j = 0) ∧ (∀ j, j < 7 → g3 j = zWays cr inn k1 (nI j))) := by
  refine zMv_of (own := RX6) (by decide) rfl (Nat.le_of_ble_eq_true rfl) ?_
  intro p e s m args below meth c A ls C hr hlocks hnm hAe G hl
  refine zHide (fun Q9 hQ9 => ?_)
  have hx := C.1
  have hb := C.2.1
  have hl : lv_has ls 3 [(0, .ref h), (1, .ref o)] := hl
  refine lv_aload_n hx hb dX6_begin_0 rfl (lv_at hl 0 rfl) ?_
  refine lv_aload_n hx hb dX6_begin_1 rfl (lv_at hl 1 rfl) ?_
  refine zEx3 hw ?_
  intro a1_1 a2_2 a3_3 hbs9
  clear hw
  subst hbs9
  have G : zS T A s.heap s [[zO6 h la a1_1 a2_2 st wh a3_3], [zAr T 0 a1_1 7 f1], [zAr T 0 a2_2 7 f2], [zAr T 0 a3_3 7 f3], z] _ _ := G.re rfl
  refine z_put C G clX6 0 rfl 0 (by decide) m_fl_RX6_12 rfl rfl rfl (Nat.le_of_ble_eq_true rfl) dX6_begin_2 (fun H locs G => ?_)
  have G : zS T A s.heap s [[zO6 h o a1_1 a2_2 st wh a3_3], [zAr T 0 a1_1 7 f1], [zAr T 0 a2_2 7 f2], [zAr T 0 a3_3 7 f3], z] _ _ := G
  refine lv_aload_n hx hb dX6_begin_5 rfl (lv_at hl 0 rfl) ?_
  refine lv_iconst (v := 0) hx hb dX6_begin_6 (by decide) ?_
  refine z_put C G clX6 0 rfl 3 (by decide) m_fl_RX6_28 rfl rfl rfl (Nat.le_of_ble_eq_true rfl) dX6_begin_7 (fun H locs G => ?_)
  have G : zS T A s.heap s [[zO6 h o a1_1 a2_2 0 wh a3_3], [zAr T 0 a1_1 7 f1], [zAr T 0 a2_2 7 f2], [zAr T 0 a3_3 7 f3], z] _ _ := G
  refine lv_aload_n hx hb dX6_begin_10 rfl (lv_at hl 0 rfl) ?_
  refine lv_iconst (v := 0) hx hb dX6_begin_11 (by decide) ?_
  refine z_put C G clX6 0 rfl 4 (by decide) m_fl_RX6_32 rfl rfl rfl (Nat.le_of_ble_eq_true rfl) dX6_begin_12 (fun H locs G => ?_)
  have G : zS T A s.heap s [[zO6 h o a1_1 a2_2 0 0 a3_3], [zAr T 0 a1_1 7 f1], [zAr T 0 a2_2 7 f2], [zAr T 0 a3_3 7 f3], z] _ _ := G
  refine lv_iconst (v := 0) hx hb dX6_begin_15 (by decide) ?_
  refine lv_istore_n (lv' := [(2, .int 0), (0, .ref h), (1, .ref o)]) hx hb dX6_begin_16 rfl hl (by decide) rfl (fun ls hl => ?_)
  refine zEx4 hz ?_
  intro a1_4 a2_5 a3_6 a4_7 hbs9
  clear hz
  subst hbs9
  have G : zS T A s.heap s [[zO6 h o a1_1 a2_2 0 0 a3_3], [zAr T 0 a1_1 7 f1], [zAr T 0 a2_2 7 f2], [zAr T 0 a3_3 7 f3], [zO4 o cr inn a1_4 a2_5 a3_6 a4_7], [zAr T 0 a1_4 7 k1], [zAr T 0 a2_5 28 k2], [zAr T 0 a3_6 7 k3], [zAr T 0 a4_7 7 k4]] _ _ := G.re rfl
  have hw_8 : bPosts T h o f1 f2 f3 0 0 [zO6 h o a1_1 a2_2 0 0 a3_3, zAr T 0 a1_1 7 f1, zAr T 0 a2_2 7 f2, zAr T 0 a3_3 7 f3] := ⟨a1_1, a2_2, a3_3, rfl⟩
  have G : zS T A s.heap s [[zO6 h o a1_1 a2_2 0 0 a3_3, zAr T 0 a1_1 7 f1, zAr T 0 a2_2 7 f2, zAr T 0 a3_3 7 f3], [zO4 o cr inn a1_4 a2_5 a3_6 a4_7], [zAr T 0 a1_4 7 k1], [zAr T 0 a2_5 28 k2], [zAr T 0 a3_6 7 k3], [zAr T 0 a4_7 7 k4]] _ _ := G.re rfl
  have hw_9 : bLand T o cr inn k1 k2 k3 k4 [zO4 o cr inn a1_4 a2_5 a3_6 a4_7, zAr T 0 a1_4 7 k1, zAr T 0 a2_5 28 k2, zAr T 0 a3_6 7 k3, zAr T 0 a4_7 7 k4] := ⟨a1_4, a2_5, a3_6, a4_7, rfl⟩
  have G : zS T A s.heap s [[zO6 h o a1_1 a2_2 0 0 a3_3, zAr T 0 a1_1 7 f1, zAr T 0 a2_2 7 f2, zAr T 0 a3_3 7 f3], [zO4 o cr inn a1_4 a2_5 a3_6 a4_7, zAr T 0 a1_4 7 k1, zAr T 0 a2_5 28 k2, zAr T 0 a3_6 7 k3, zAr T 0 a4_7 7 k4]] _ _ := G.re rfl
  refine z_lp5 (T := T) 17 (fun (i : Nat) (wq : va_W) (x1 : Nat → Int32) (x2 : Nat → Int32) (x3 : Nat → Int32) => [wq, [zO4 o cr inn a1_4 a2_5 a3_6 a4_7, zAr T 0 a1_4 7 k1, zAr T 0 a2_5 28 k2, zAr T 0 a3_6 7 k3, zAr T 0 a4_7 7 k4]]) (fun (i : Nat) (wq : va_W) (x1 : Nat → Int32) (x2 : Nat → Int32) (x3 : Nat → Int32) => [(2, .int (nI i)), (0, .ref h), (1, .ref o)]) (fun (i : Nat) (wq : va_W) (x1 : Nat → Int32) (x2 : Nat → Int32) (x3 : Nat → Int32) => bPosts T h o x1 x2 x3 0 0 wq ∧ i ≤ 7 ∧ (∀ j, j < i → x1 j = k3 j) ∧ (∀ j, j < i → x2 j = 0) ∧ (∀ j, j < i → x3 j = zWays cr inn k1 (nI j))) (fun (i : Nat) (wq : va_W) (x1 : Nat → Int32) (x2 : Nat → Int32) (x3 : Nat → Int32) => 7 - i) ?_ 0 ([zO6 h o a1_1 a2_2 0 0 a3_3, zAr T 0 a1_1 7 f1, zAr T 0 a2_2 7 f2, zAr T 0 a3_3 7 f3]) f1 f2 f3 (show bPosts T h o f1 f2 f3 0 0 ([zO6 h o a1_1 a2_2 0 0 a3_3, zAr T 0 a1_1 7 f1, zAr T 0 a2_2 7 f2, zAr T 0 a3_3 7 f3]) ∧ 0 ≤ 7 ∧ (∀ j, j < 0 → f1 j = k3 j) ∧ (∀ j, j < 0 → f2 j = 0) ∧ (∀ j, j < 0 → f3 j = zWays cr inn k1 (nI j)) from ⟨hw_8, by omega, fun j hj => absurd hj (by omega), fun j hj => absurd hj (by omega), fun j hj => absurd hj (by omega)⟩) G (lv_sub hl [0, 1, 2] rfl)
  intro i wq x1 x2 x3 hI9 ih_17 H locs ls G hl
  replace hI9 : bPosts T h o x1 x2 x3 0 0 wq ∧ i ≤ 7 ∧ (∀ j, j < i → x1 j = k3 j) ∧ (∀ j, j < i → x2 j = 0) ∧ (∀ j, j < i → x3 j = zWays cr inn k1 (nI j)) := hI9
  refine zAn5 hI9 ?_
  intro hq hi hx1 hx2 hx3
  clear hI9
  replace G : zS T A s.heap s [wq, [zO4 o cr inn a1_4 a2_5 a3_6 a4_7, zAr T 0 a1_4 7 k1, zAr T 0 a2_5 28 k2, zAr T 0 a3_6 7 k3, zAr T 0 a4_7 7 k4]] _ _ := G
  replace hl : lv_has ls 3 [(2, .int (nI i)), (0, .ref h), (1, .ref o)] := hl
  refine lv_iload_n hx hb dX6_begin_17 rfl (lv_at hl 0 rfl) ?_
  refine lv_bipush (v := 7) hx hb dX6_begin_18 (by decide) ?_
  refine lv_icmp_ge (tgt := 59) hx hb dX6_begin_20 (by decide) (fun c_10 => ?_) (fun c_10 => ?_)
  · have c_10n : 7 ≤ i := (nI_leI (a := 7) (b := i) (by omega) (by omega)).mp c_10
    exact z_back hQ9 (z_vret C hr hlocks G (Nat.le_of_ble_eq_true rfl) (Nat.le_of_ble_eq_true rfl) dX6_begin_59 ⟨wq, x1, x2, x3, rfl, hq, (fun j hj => hx1 j (by omega)), (fun j hj => hx2 j (by omega)), (fun j hj => hx3 j (by omega))⟩)
  · have c_10n : ¬ 7 ≤ i := fun q => c_10 ((nI_leI (a := 7) (b := i) (by omega) (by omega)).mpr q)
    refine lv_aload_n hx hb dX6_begin_23 rfl (lv_at hl 1 rfl) ?_
    refine zEx3 hq ?_
    intro a1_11 a2_12 a3_13 hbs9
    clear hq
    subst hbs9
    have G : zS T A s.heap s [[zO6 h o a1_11 a2_12 0 0 a3_13], [zAr T 0 a1_11 7 x1], [zAr T 0 a2_12 7 x2], [zAr T 0 a3_13 7 x3], [zO4 o cr inn a1_4 a2_5 a3_6 a4_7, zAr T 0 a1_4 7 k1, zAr T 0 a2_5 28 k2, zAr T 0 a3_6 7 k3, zAr T 0 a4_7 7 k4]] _ _ := G.re rfl
    refine z_get C G clX6 0 rfl 1 (by decide) m_fl_RX6_18 rfl dX6_begin_24 ?_
    refine lv_iload_n hx hb dX6_begin_27 rfl (lv_at hl 0 rfl) ?_
    refine lv_aload_n hx hb dX6_begin_28 rfl (lv_at hl 2 rfl) ?_
    have G : zS T A s.heap s [[zO6 h o a1_11 a2_12 0 0 a3_13], [zAr T 0 a1_11 7 x1], [zAr T 0 a2_12 7 x2], [zAr T 0 a3_13 7 x3], [zO4 o cr inn a1_4 a2_5 a3_6 a4_7], [zAr T 0 a1_4 7 k1], [zAr T 0 a2_5 28 k2], [zAr T 0 a3_6 7 k3], [zAr T 0 a4_7 7 k4]] _ _ := G.re rfl
    refine z_get C G clX4 4 rfl 4 (by decide) m_fl_RX6_35 rfl dX6_begin_29 ?_
    refine lv_iload_n hx hb dX6_begin_32 rfl (lv_at hl 0 rfl) ?_
    refine z_ild C G 7 rfl (vp_in_nI (by omega) (by omega)) dX6_begin_33 ?_
    refine lv_topi (fun v_14 ev_14 => ?_)
    rw [nI_clamp (by omega)] at ev_14
    subst ev_14
    refine z_ist C G 1 rfl (vp_in_nI (by omega) (by omega)) dX6_begin_34 (fun H locs G => ?_)
    rw [nI_clamp (by omega)] at G
    have G : zS T A s.heap s [[zO6 h o a1_11 a2_12 0 0 a3_13], [zAr T 0 a1_11 7 (upd x1 i (k3 i))], [zAr T 0 a2_12 7 x2], [zAr T 0 a3_13 7 x3], [zO4 o cr inn a1_4 a2_5 a3_6 a4_7], [zAr T 0 a1_4 7 k1], [zAr T 0 a2_5 28 k2], [zAr T 0 a3_6 7 k3], [zAr T 0 a4_7 7 k4]] _ _ := G
    refine lv_aload_n hx hb dX6_begin_35 rfl (lv_at hl 1 rfl) ?_
    refine z_get C G clX6 0 rfl 2 (by decide) m_fl_RX6_22 rfl dX6_begin_36 ?_
    refine lv_iload_n hx hb dX6_begin_39 rfl (lv_at hl 0 rfl) ?_
    refine lv_iconst (v := 0) hx hb dX6_begin_40 (by decide) ?_
    refine z_ist C G 2 rfl (vp_in_nI (by omega) (by omega)) dX6_begin_41 (fun H locs G => ?_)
    rw [nI_clamp (by omega)] at G
    have G : zS T A s.heap s [[zO6 h o a1_11 a2_12 0 0 a3_13], [zAr T 0 a1_11 7 (upd x1 i (k3 i))], [zAr T 0 a2_12 7 (upd x2 i 0)], [zAr T 0 a3_13 7 x3], [zO4 o cr inn a1_4 a2_5 a3_6 a4_7], [zAr T 0 a1_4 7 k1], [zAr T 0 a2_5 28 k2], [zAr T 0 a3_6 7 k3], [zAr T 0 a4_7 7 k4]] _ _ := G
    refine lv_aload_n hx hb dX6_begin_42 rfl (lv_at hl 1 rfl) ?_
    refine z_get C G clX6 0 rfl 5 (by decide) m_fl_RX6_25 rfl dX6_begin_43 ?_
    refine lv_iload_n hx hb dX6_begin_46 rfl (lv_at hl 0 rfl) ?_
    refine lv_aload_n hx hb dX6_begin_47 rfl (lv_at hl 2 rfl) ?_
    refine lv_iload_n hx hb dX6_begin_48 rfl (lv_at hl 0 rfl) ?_
    have hw_15 : bLand T o cr inn k1 k2 k3 k4 [zO4 o cr inn a1_4 a2_5 a3_6 a4_7, zAr T 0 a1_4 7 k1, zAr T 0 a2_5 28 k2, zAr T 0 a3_6 7 k3, zAr T 0 a4_7 7 k4] := ⟨a1_4, a2_5, a3_6, a4_7, rfl⟩
    have G : zS T A s.heap s [[zO6 h o a1_11 a2_12 0 0 a3_13], [zAr T 0 a1_11 7 (upd x1 i (k3 i))], [zAr T 0 a2_12 7 (upd x2 i 0)], [zAr T 0 a3_13 7 x3], [zO4 o cr inn a1_4 a2_5 a3_6 a4_7, zAr T 0 a1_4 7 k1, zAr T 0 a2_5 28 k2, zAr T 0 a3_6 7 k3, zAr T 0 a4_7 7 k4]] _ _ := G.re rfl
    refine z_Vi (bc := [[zO4 o cr inn a1_4 a2_5 a3_6 a4_7, zAr T 0 a1_4 7 k1, zAr T 0 a2_5 28 k2, zAr T 0 a3_6 7 k3, zAr T 0 a4_7 7 k4]]) (br := [[zO6 h o a1_11 a2_12 0 0 a3_13], [zAr T 0 a1_11 7 (upd x1 i (k3 i))], [zAr T 0 a2_12 7 (upd x2 i 0)], [zAr T 0 a3_13 7 x3]]) (As := [.int (nI i)]) (rest := [.int (nI i), .ref a3_13]) C G (c_waysOut l T o cr inn k1 k2 k3 k4 ([zO4 o cr inn a1_4 a2_5 a3_6 a4_7, zAr T 0 a1_4 7 k1, zAr T 0 a2_5 28 k2, zAr T 0 a3_6 7 k3, zAr T 0 a4_7 7 k4]) (nI i) hw_15) (kV_RX6_36 C.2.2.2.2 (Nat.le_of_ble_eq_true rfl) (Nat.le_of_ble_eq_true rfl)) [4] [4] rfl rfl (ci := 4) (qc := (RX4, TX4, 6)) rfl rfl (List.mem_flatten.mpr ⟨_, List.mem_of_getElem? (i := 0) rfl, (bLand_mem hw_15).choose_spec⟩) rfl rfl hl.1 dX6_begin_49 (Nat.le_of_ble_eq_true rfl) (Nat.le_of_ble_eq_true rfl) (fun r_17 b1 H locs hw G => ?_)
    refine zAn2 hw ?_
    intro hbs9 h_16
    clear hw
    subst hbs9
    have G : zS T A s.heap s [[zO6 h o a1_11 a2_12 0 0 a3_13], [zAr T 0 a1_11 7 (upd x1 i (k3 i))], [zAr T 0 a2_12 7 (upd x2 i 0)], [zAr T 0 a3_13 7 x3], [zO4 o cr inn a1_4 a2_5 a3_6 a4_7, zAr T 0 a1_4 7 k1, zAr T 0 a2_5 28 k2, zAr T 0 a3_6 7 k3, zAr T 0 a4_7 7 k4]] _ _ := G
    subst h_16
    refine z_ist C G 3 rfl (vp_in_nI (by omega) (by omega)) dX6_begin_52 (fun H locs G => ?_)
    rw [nI_clamp (by omega)] at G
    have G : zS T A s.heap s [[zO6 h o a1_11 a2_12 0 0 a3_13], [zAr T 0 a1_11 7 (upd x1 i (k3 i))], [zAr T 0 a2_12 7 (upd x2 i 0)], [zAr T 0 a3_13 7 (upd x3 i (zWays cr inn k1 (nI i)))], [zO4 o cr inn a1_4 a2_5 a3_6 a4_7, zAr T 0 a1_4 7 k1, zAr T 0 a2_5 28 k2, zAr T 0 a3_6 7 k3, zAr T 0 a4_7 7 k4]] _ _ := G
    refine lv_iinc (v := nI (i + 1)) (lv' := [(2, .int (nI (i + 1))), (0, .ref h), (1, .ref o)]) hx hb dX6_begin_53 hl (k := 0) rfl (z_inc i 1) (by decide) rfl (fun ls hl => ?_)
    refine lv_goto (tgt := 17) hx hb dX6_begin_56 (by decide) ?_
    have hw_18 : bPosts T h o (upd x1 i (k3 i)) (upd x2 i 0) (upd x3 i (zWays cr inn k1 (nI i))) 0 0 [zO6 h o a1_11 a2_12 0 0 a3_13, zAr T 0 a1_11 7 (upd x1 i (k3 i)), zAr T 0 a2_12 7 (upd x2 i 0), zAr T 0 a3_13 7 (upd x3 i (zWays cr inn k1 (nI i)))] := ⟨a1_11, a2_12, a3_13, rfl⟩
    have G : zS T A s.heap s [[zO6 h o a1_11 a2_12 0 0 a3_13, zAr T 0 a1_11 7 (upd x1 i (k3 i)), zAr T 0 a2_12 7 (upd x2 i 0), zAr T 0 a3_13 7 (upd x3 i (zWays cr inn k1 (nI i)))], [zO4 o cr inn a1_4 a2_5 a3_6 a4_7, zAr T 0 a1_4 7 k1, zAr T 0 a2_5 28 k2, zAr T 0 a3_6 7 k3, zAr T 0 a4_7 7 k4]] _ _ := G.re rfl
    exact ih_17 (i + 1) ([zO6 h o a1_11 a2_12 0 0 a3_13, zAr T 0 a1_11 7 (upd x1 i (k3 i)), zAr T 0 a2_12 7 (upd x2 i 0), zAr T 0 a3_13 7 (upd x3 i (zWays cr inn k1 (nI i)))]) (upd x1 i (k3 i)) (upd x2 i 0) (upd x3 i (zWays cr inn k1 (nI i))) (show bPosts T h o (upd x1 i (k3 i)) (upd x2 i 0) (upd x3 i (zWays cr inn k1 (nI i))) 0 0 ([zO6 h o a1_11 a2_12 0 0 a3_13, zAr T 0 a1_11 7 (upd x1 i (k3 i)), zAr T 0 a2_12 7 (upd x2 i 0), zAr T 0 a3_13 7 (upd x3 i (zWays cr inn k1 (nI i)))]) ∧ (i + 1) ≤ 7 ∧ (∀ j, j < (i + 1) → (upd x1 i (k3 i)) j = k3 j) ∧ (∀ j, j < (i + 1) → (upd x2 i 0) j = 0) ∧ (∀ j, j < (i + 1) → (upd x3 i (zWays cr inn k1 (nI i))) j = zWays cr inn k1 (nI j)) from ⟨hw_18, by omega, z_updE hx1 rfl, z_updE (F := fun _ => 0) hx2 rfl, z_updE (F := fun j => zWays cr inn k1 (nI j)) hx3 rfl⟩) (show 7 - (i + 1) < 7 - i from by omega) _ _ ls G (lv_sub hl [0, 1, 2] rfl)
set_option maxHeartbeats 4000000 in
set_option maxRecDepth 100000 in
/-- isShut -/
theorem c_isShut (l : Launch) (T : zTy) (h : Nat) (la : Nat) (f1 : Nat → Int32) (f2 : Nat → Int32) (f3 : Nat → Int32) (st : Int32) (wh : Int32) (w : va_W) (cr : Int32) (inn : Int32) (k1 : Nat → Int32) (k2 : Nat → Int32) (k3 : Nat → Int32) (k4 : Nat → Int32) (z : va_W) (x : Int32) (y : Int32) (hw : bPosts T h la f1 f2 f3 st wh w) (hz : bLand T la cr inn k1 k2 k3 k4 z) : zMi l T yX6_isShut cX6_isShut 3 (some .boolean) 2 0 0 [.ref h, .int x, .int y] [w, z] (fun (r : Int32) bs => bs = [w, z] ∧ ((r = 1 ∧ 0 ≤ x.toInt ∧ x.toInt < cr.toInt ∧ x.toInt < 7 ∧ 0 ≤ y.toInt ∧ y.toInt < (k1 x.toNatClampNeg).toInt ∧ y.toInt < 4 ∧ ¬ zBit (f2 x.toNatClampNeg) y = 0) ∨ (r = 0 ∧ (x.toInt < 0 ∨ cr.toInt ≤ x.toInt ∨ 7 ≤ x.toInt ∨ y.toInt < 0 ∨ (k1 x.toNatClampNeg).toInt ≤ y.toInt ∨ 4 ≤ y.toInt ∨ zBit (f2 x.toNatClampNeg) y = 0)))) := by
  refine zMi_of (own := RX6) (by decide) rfl (Nat.le_of_ble_eq_true rfl) ?_
  intro p e s m args below meth c A ls C hr hlocks hnm hAe G hl
  refine zHide (fun Q9 hQ9 => ?_)
  have hx := C.1
  have hb := C.2.1
  have hl : lv_has ls 3 [(0, .ref h), (1, .int x), (2, .int y)] := hl
  refine lv_aload_n hx hb dX6_isShut_0 rfl (lv_at hl 0 rfl) ?_
  refine zEx3 hw ?_
  intro a1_1 a2_2 a3_3 hbs9
  clear hw
  subst hbs9
  have G : zS T A s.heap s [[zO6 h la a1_1 a2_2 st wh a3_3], [zAr T 0 a1_1 7 f1], [zAr T 0 a2_2 7 f2], [zAr T 0 a3_3 7 f3], z] _ _ := G.re rfl
  refine z_get C G clX6 0 rfl 0 (by decide) m_fl_RX6_12 rfl dX6_isShut_1 ?_
  refine lv_iload_n hx hb dX6_isShut_4 rfl (lv_at hl 1 rfl) ?_
  refine lv_iload_n hx hb dX6_isShut_5 rfl (lv_at hl 2 rfl) ?_
  refine z_Vi (bc := [z]) (br := [[zO6 h la a1_1 a2_2 st wh a3_3], [zAr T 0 a1_1 7 f1], [zAr T 0 a2_2 7 f2], [zAr T 0 a3_3 7 f3]]) (As := [.int x, .int y]) (rest := []) C G (c_hasRoad l T la cr inn k1 k2 k3 k4 z x y hz) (kV_RX6_39 C.2.2.2.2 (Nat.le_of_ble_eq_true rfl) (Nat.le_of_ble_eq_true rfl)) [4] [4] rfl rfl (ci := 4) (qc := (RX4, TX4, 6)) rfl rfl (List.mem_flatten.mpr ⟨_, List.mem_of_getElem? (i := 0) rfl, (bLand_mem hz).choose_spec⟩) rfl rfl hl.1 dX6_isShut_6 (Nat.le_of_ble_eq_true rfl) (Nat.le_of_ble_eq_true rfl) (fun r_5 b1 H locs hw G => ?_)
  refine zAn2 hw ?_
  intro hbs9 hc_4
  clear hw
  subst hbs9
  have G : zS T A s.heap s [[zO6 h la a1_1 a2_2 st wh a3_3], [zAr T 0 a1_1 7 f1], [zAr T 0 a2_2 7 f2], [zAr T 0 a3_3 7 f3], z] _ _ := G
  rcases hc_4 with ⟨rfl, h_6, h_7, h_8, h_9, h_10, h_11⟩ | ⟨rfl, h_12⟩
  · have h_6 : 0 ≤ x.toInt := h_6
    have h_7 : x.toInt < cr.toInt := h_7
    have h_8 : x.toInt < 7 := h_8
    have h_9 : 0 ≤ y.toInt := h_9
    have h_10 : y.toInt < (k1 x.toNatClampNeg).toInt := h_10
    have h_11 : y.toInt < 4 := h_11
    refine lv_if_eq (tgt := 29) hx hb dX6_isShut_9 (by decide) (fun q => absurd q (by decide)) (fun _ => ?_)
    refine lv_aload_n hx hb dX6_isShut_12 rfl (lv_at hl 0 rfl) ?_
    refine z_get C G clX6 0 rfl 2 (by decide) m_fl_RX6_22 rfl dX6_isShut_13 ?_
    refine lv_iload_n hx hb dX6_isShut_16 rfl (lv_at hl 1 rfl) ?_
    refine z_ild C G 2 rfl (vp_in_iff.mpr ⟨by omega, by omega⟩) dX6_isShut_17 ?_
    refine lv_topi (fun v_13 ev_13 => ?_)
    subst ev_13
    refine lv_iload_n hx hb dX6_isShut_18 rfl (lv_at hl 2 rfl) ?_
    refine lv_ishr hx hb dX6_isShut_19 ?_
    refine lv_iconst (v := 1) hx hb dX6_isShut_20 (by decide) ?_
    refine lv_iand hx hb dX6_isShut_21 ?_
    refine lv_if_eq (tgt := 29) hx hb dX6_isShut_22 (by decide) (fun c_14 => ?_) (fun c_14 => ?_)
    · have c_14n : (((f2 x.toNatClampNeg) >>> (y &&& 31)) &&& 1).toInt = (0 : Int) := (fa_eq _ _).mp c_14
      refine lv_iconst (v := 0) hx hb dX6_isShut_29 (by decide) ?_
      have hw_15 : bPosts T h la f1 f2 f3 st wh [zO6 h la a1_1 a2_2 st wh a3_3, zAr T 0 a1_1 7 f1, zAr T 0 a2_2 7 f2, zAr T 0 a3_3 7 f3] := ⟨a1_1, a2_2, a3_3, rfl⟩
      have G : zS T A s.heap s [[zO6 h la a1_1 a2_2 st wh a3_3, zAr T 0 a1_1 7 f1, zAr T 0 a2_2 7 f2, zAr T 0 a3_3 7 f3], z] _ _ := G.re rfl
      exact z_back hQ9 (z_zret C hr hlocks G (Nat.le_of_ble_eq_true rfl) (Nat.le_of_ble_eq_true rfl) dX6_isShut_30 rfl ⟨rfl, (Or.inr (⟨rfl, (by first | exact Or.inr (Or.inr (Or.inr (Or.inr (Or.inr (Or.inr (by assumption)))))) | omega)⟩))⟩)
    · have c_14n : ¬ (((f2 x.toNatClampNeg) >>> (y &&& 31)) &&& 1).toInt = (0 : Int) := fun q => c_14 ((fa_eq _ _).mpr q)
      refine lv_iconst (v := 1) hx hb dX6_isShut_25 (by decide) ?_
      refine lv_goto (tgt := 30) hx hb dX6_isShut_26 (by decide) ?_
      have hw_16 : bPosts T h la f1 f2 f3 st wh [zO6 h la a1_1 a2_2 st wh a3_3, zAr T 0 a1_1 7 f1, zAr T 0 a2_2 7 f2, zAr T 0 a3_3 7 f3] := ⟨a1_1, a2_2, a3_3, rfl⟩
      have G : zS T A s.heap s [[zO6 h la a1_1 a2_2 st wh a3_3, zAr T 0 a1_1 7 f1, zAr T 0 a2_2 7 f2, zAr T 0 a3_3 7 f3], z] _ _ := G.re rfl
      exact z_back hQ9 (z_zret C hr hlocks G (Nat.le_of_ble_eq_true rfl) (Nat.le_of_ble_eq_true rfl) dX6_isShut_30 rfl ⟨rfl, (Or.inl (⟨rfl, (by first | with_reducible assumption | omega | assumption), (by first | with_reducible assumption | omega | assumption), (by first | with_reducible assumption | omega | assumption), (by first | with_reducible assumption | omega | assumption), (by first | with_reducible assumption | omega | assumption), (by first | with_reducible assumption | omega | assumption), (by first | with_reducible assumption | omega | assumption)⟩))⟩)
  · have h_12 : (x.toInt < 0 ∨ cr.toInt ≤ x.toInt ∨ 7 ≤ x.toInt ∨ y.toInt < 0 ∨ (k1 x.toNatClampNeg).toInt ≤ y.toInt ∨ 4 ≤ y.toInt) := h_12
    refine lv_if_eq (tgt := 29) hx hb dX6_isShut_9 (by decide) (fun _ => ?_) (fun q => absurd (by decide) q)
    refine lv_iconst (v := 0) hx hb dX6_isShut_29 (by decide) ?_
    have hw_17 : bPosts T h la f1 f2 f3 st wh [zO6 h la a1_1 a2_2 st wh a3_3, zAr T 0 a1_1 7 f1, zAr T 0 a2_2 7 f2, zAr T 0 a3_3 7 f3] := ⟨a1_1, a2_2, a3_3, rfl⟩
    have G : zS T A s.heap s [[zO6 h la a1_1 a2_2 st wh a3_3, zAr T 0 a1_1 7 f1, zAr T 0 a2_2 7 f2, zAr T 0 a3_3 7 f3], z] _ _ := G.re rfl
    exact z_back hQ9 (z_zret C hr hlocks G (Nat.le_of_ble_eq_true rfl) (Nat.le_of_ble_eq_true rfl) dX6_isShut_30 rfl ⟨rfl, (Or.inr (⟨rfl, (by first | exact Or.inr (Or.inr (Or.inr (Or.inr (Or.inr (Or.inr (by assumption)))))) | omega)⟩))⟩)
set_option maxHeartbeats 4000000 in
set_option maxRecDepth 100000 in
/-- c_shutRoad -/
theorem c_shutRoad (l : Launch) (T : zTy) (h : Nat) (la : Nat) (f1 : Nat → Int32) (f2 : Nat → Int32) (f3 : Nat → Int32) (st : Int32) (wh : Int32) (w : va_W) (cr : Int32) (inn : Int32) (k1 : Nat → Int32) (k2 : Nat → Int32) (k3 : Nat → Int32) (k4 : Nat → Int32) (z : va_W) (x : Int32) (y : Int32) (hw : bPosts T h la f1 f2 f3 st wh w) (hz : bLand T la cr inn k1 k2 k3 k4 z) : zMv l T yX6_shutRoad cX6_shutRoad 3 2 0 0 [.ref h, .int x, .int y] [w, z] (fun bs => ∃ (w2 : va_W) (g2 : Nat → Int32), bs = [w2, z] ∧ bPosts T h la f1 g2 f3 st wh w2 ∧ g2 = zShut cr k1 f2 x y) := by
  refine zMv_of (own := RX6) (by decide) rfl (Nat.le_of_ble_eq_true rfl) ?_
  intro p e s m args below meth c A ls C hr hlocks hnm hAe G hl
  refine zHide (fun Q9 hQ9 => ?_)
  have hx := C.1
  have hb := C.2.1
  have hl : lv_has ls 3 [(0, .ref h), (1, .int x), (2, .int y)] := hl
  refine lv_aload_n hx hb dX6_shutRoad_0 rfl (lv_at hl 0 rfl) ?_
  refine zEx3 hw ?_
  intro a1_1 a2_2 a3_3 hbs9
  clear hw
  subst hbs9
  have G : zS T A s.heap s [[zO6 h la a1_1 a2_2 st wh a3_3], [zAr T 0 a1_1 7 f1], [zAr T 0 a2_2 7 f2], [zAr T 0 a3_3 7 f3], z] _ _ := G.re rfl
  refine z_get C G clX6 0 rfl 0 (by decide) m_fl_RX6_12 rfl dX6_shutRoad_1 ?_
  refine lv_iload_n hx hb dX6_shutRoad_4 rfl (lv_at hl 1 rfl) ?_
  refine lv_iload_n hx hb dX6_shutRoad_5 rfl (lv_at hl 2 rfl) ?_
  refine z_Vi (bc := [z]) (br := [[zO6 h la a1_1 a2_2 st wh a3_3], [zAr T 0 a1_1 7 f1], [zAr T 0 a2_2 7 f2], [zAr T 0 a3_3 7 f3]]) (As := [.int x, .int y]) (rest := []) C G (c_hasRoad l T la cr inn k1 k2 k3 k4 z x y hz) (kV_RX6_39 C.2.2.2.2 (Nat.le_of_ble_eq_true rfl) (Nat.le_of_ble_eq_true rfl)) [4] [4] rfl rfl (ci := 4) (qc := (RX4, TX4, 6)) rfl rfl (List.mem_flatten.mpr ⟨_, List.mem_of_getElem? (i := 0) rfl, (bLand_mem hz).choose_spec⟩) rfl rfl hl.1 dX6_shutRoad_6 (Nat.le_of_ble_eq_true rfl) (Nat.le_of_ble_eq_true rfl) (fun r_5 b1 H locs hw G => ?_)
  refine zAn2 hw ?_
  intro hbs9 hc_4
  clear hw
  subst hbs9
  have G : zS T A s.heap s [[zO6 h la a1_1 a2_2 st wh a3_3], [zAr T 0 a1_1 7 f1], [zAr T 0 a2_2 7 f2], [zAr T 0 a3_3 7 f3], z] _ _ := G
  rcases hc_4 with ⟨rfl, h_6, h_7, h_8, h_9, h_10, h_11⟩ | ⟨rfl, h_12⟩
  · have h_6 : 0 ≤ x.toInt := h_6
    have h_7 : x.toInt < cr.toInt := h_7
    have h_8 : x.toInt < 7 := h_8
    have h_9 : 0 ≤ y.toInt := h_9
    have h_10 : y.toInt < (k1 x.toNatClampNeg).toInt := h_10
    have h_11 : y.toInt < 4 := h_11
    refine lv_if_eq (tgt := 24) hx hb dX6_shutRoad_9 (by decide) (fun q => absurd q (by decide)) (fun _ => ?_)
    refine lv_aload_n hx hb dX6_shutRoad_12 rfl (lv_at hl 0 rfl) ?_
    refine z_get C G clX6 0 rfl 2 (by decide) m_fl_RX6_22 rfl dX6_shutRoad_13 ?_
    refine lv_iload_n hx hb dX6_shutRoad_16 rfl (lv_at hl 1 rfl) ?_
    refine lv_dup2_11 hx hb dX6_shutRoad_17 rfl rfl ?_
    refine z_ild C G 2 rfl (vp_in_iff.mpr ⟨by omega, by omega⟩) dX6_shutRoad_18 ?_
    refine lv_topi (fun v_13 ev_13 => ?_)
    subst ev_13
    refine lv_iconst (v := 1) hx hb dX6_shutRoad_19 (by decide) ?_
    refine lv_iload_n hx hb dX6_shutRoad_20 rfl (lv_at hl 2 rfl) ?_
    refine lv_ishl hx hb dX6_shutRoad_21 ?_
    refine lv_ior hx hb dX6_shutRoad_22 ?_
    refine z_ist C G 2 rfl (vp_in_iff.mpr ⟨by omega, by omega⟩) dX6_shutRoad_23 (fun H locs G => ?_)
    have G : zS T A s.heap s [[zO6 h la a1_1 a2_2 st wh a3_3], [zAr T 0 a1_1 7 f1], [zAr T 0 a2_2 7 (upd f2 x.toNatClampNeg ((f2 x.toNatClampNeg) ||| (1 <<< (y &&& 31))))], [zAr T 0 a3_3 7 f3], z] _ _ := G
    have hw_14 : bPosts T h la f1 (upd f2 x.toNatClampNeg ((f2 x.toNatClampNeg) ||| (1 <<< (y &&& 31)))) f3 st wh [zO6 h la a1_1 a2_2 st wh a3_3, zAr T 0 a1_1 7 f1, zAr T 0 a2_2 7 (upd f2 x.toNatClampNeg ((f2 x.toNatClampNeg) ||| (1 <<< (y &&& 31)))), zAr T 0 a3_3 7 f3] := ⟨a1_1, a2_2, a3_3, rfl⟩
    have G : zS T A s.heap s [[zO6 h la a1_1 a2_2 st wh a3_3, zAr T 0 a1_1 7 f1, zAr T 0 a2_2 7 (upd f2 x.toNatClampNeg ((f2 x.toNatClampNeg) ||| (1 <<< (y &&& 31)))), zAr T 0 a3_3 7 f3], z] _ _ := G.re rfl
    exact z_back hQ9 (z_vret C hr hlocks G (Nat.le_of_ble_eq_true rfl) (Nat.le_of_ble_eq_true rfl) dX6_shutRoad_24 ⟨([zO6 h la a1_1 a2_2 st wh a3_3, zAr T 0 a1_1 7 f1, zAr T 0 a2_2 7 (upd f2 x.toNatClampNeg ((f2 x.toNatClampNeg) ||| (1 <<< (y &&& 31)))), zAr T 0 a3_3 7 f3]), (upd f2 x.toNatClampNeg ((f2 x.toNatClampNeg) ||| (1 <<< (y &&& 31)))), rfl, hw_14, (by unfold zShut; rw [if_pos (by omega)])⟩)
  · have h_12 : (x.toInt < 0 ∨ cr.toInt ≤ x.toInt ∨ 7 ≤ x.toInt ∨ y.toInt < 0 ∨ (k1 x.toNatClampNeg).toInt ≤ y.toInt ∨ 4 ≤ y.toInt) := h_12
    refine lv_if_eq (tgt := 24) hx hb dX6_shutRoad_9 (by decide) (fun _ => ?_) (fun q => absurd (by decide) q)
    have hw_15 : bPosts T h la f1 f2 f3 st wh [zO6 h la a1_1 a2_2 st wh a3_3, zAr T 0 a1_1 7 f1, zAr T 0 a2_2 7 f2, zAr T 0 a3_3 7 f3] := ⟨a1_1, a2_2, a3_3, rfl⟩
    have G : zS T A s.heap s [[zO6 h la a1_1 a2_2 st wh a3_3, zAr T 0 a1_1 7 f1, zAr T 0 a2_2 7 f2, zAr T 0 a3_3 7 f3], z] _ _ := G.re rfl
    exact z_back hQ9 (z_vret C hr hlocks G (Nat.le_of_ble_eq_true rfl) (Nat.le_of_ble_eq_true rfl) dX6_shutRoad_24 ⟨([zO6 h la a1_1 a2_2 st wh a3_3, zAr T 0 a1_1 7 f1, zAr T 0 a2_2 7 f2, zAr T 0 a3_3 7 f3]), f2, rfl, hw_15, (by unfold zShut; rw [if_neg (by omega)])⟩)
set_option maxHeartbeats 4000000 in
set_option maxRecDepth 100000 in
/-- c_openRoad -/
theorem c_openRoad (l : Launch) (T : zTy) (h : Nat) (la : Nat) (f1 : Nat → Int32) (f2 : Nat → Int32) (f3 : Nat → Int32) (st : Int32) (wh : Int32) (w : va_W) (cr : Int32) (inn : Int32) (k1 : Nat → Int32) (k2 : Nat → Int32) (k3 : Nat → Int32) (k4 : Nat → Int32) (z : va_W) (x : Int32) (y : Int32) (hw : bPosts T h la f1 f2 f3 st wh w) (hz : bLand T la cr inn k1 k2 k3 k4 z) : zMv l T yX6_openRoad cX6_openRoad 3 2 0 0 [.ref h, .int x, .int y] [w, z] (fun bs => ∃ (w2 : va_W) (g2 : Nat → Int32), bs = [w2, z] ∧ bPosts T h la f1 g2 f3 st wh w2 ∧ g2 = zOpen cr k1 f2 x y) := by
  refine zMv_of (own := RX6) (by decide) rfl (Nat.le_of_ble_eq_true rfl) ?_
  intro p e s m args below meth c A ls C hr hlocks hnm hAe G hl
  refine zHide (fun Q9 hQ9 => ?_)
  have hx := C.1
  have hb := C.2.1
  have hl : lv_has ls 3 [(0, .ref h), (1, .int x), (2, .int y)] := hl
  refine lv_aload_n hx hb dX6_openRoad_0 rfl (lv_at hl 0 rfl) ?_
  refine zEx3 hw ?_
  intro a1_1 a2_2 a3_3 hbs9
  clear hw
  subst hbs9
  have G : zS T A s.heap s [[zO6 h la a1_1 a2_2 st wh a3_3], [zAr T 0 a1_1 7 f1], [zAr T 0 a2_2 7 f2], [zAr T 0 a3_3 7 f3], z] _ _ := G.re rfl
  refine z_get C G clX6 0 rfl 0 (by decide) m_fl_RX6_12 rfl dX6_openRoad_1 ?_
  refine lv_iload_n hx hb dX6_openRoad_4 rfl (lv_at hl 1 rfl) ?_
  refine lv_iload_n hx hb dX6_openRoad_5 rfl (lv_at hl 2 rfl) ?_
  refine z_Vi (bc := [z]) (br := [[zO6 h la a1_1 a2_2 st wh a3_3], [zAr T 0 a1_1 7 f1], [zAr T 0 a2_2 7 f2], [zAr T 0 a3_3 7 f3]]) (As := [.int x, .int y]) (rest := []) C G (c_hasRoad l T la cr inn k1 k2 k3 k4 z x y hz) (kV_RX6_39 C.2.2.2.2 (Nat.le_of_ble_eq_true rfl) (Nat.le_of_ble_eq_true rfl)) [4] [4] rfl rfl (ci := 4) (qc := (RX4, TX4, 6)) rfl rfl (List.mem_flatten.mpr ⟨_, List.mem_of_getElem? (i := 0) rfl, (bLand_mem hz).choose_spec⟩) rfl rfl hl.1 dX6_openRoad_6 (Nat.le_of_ble_eq_true rfl) (Nat.le_of_ble_eq_true rfl) (fun r_5 b1 H locs hw G => ?_)
  refine zAn2 hw ?_
  intro hbs9 hc_4
  clear hw
  subst hbs9
  have G : zS T A s.heap s [[zO6 h la a1_1 a2_2 st wh a3_3], [zAr T 0 a1_1 7 f1], [zAr T 0 a2_2 7 f2], [zAr T 0 a3_3 7 f3], z] _ _ := G
  rcases hc_4 with ⟨rfl, h_6, h_7, h_8, h_9, h_10, h_11⟩ | ⟨rfl, h_12⟩
  · have h_6 : 0 ≤ x.toInt := h_6
    have h_7 : x.toInt < cr.toInt := h_7
    have h_8 : x.toInt < 7 := h_8
    have h_9 : 0 ≤ y.toInt := h_9
    have h_10 : y.toInt < (k1 x.toNatClampNeg).toInt := h_10
    have h_11 : y.toInt < 4 := h_11
    refine lv_if_eq (tgt := 26) hx hb dX6_openRoad_9 (by decide) (fun q => absurd q (by decide)) (fun _ => ?_)
    refine lv_aload_n hx hb dX6_openRoad_12 rfl (lv_at hl 0 rfl) ?_
    refine z_get C G clX6 0 rfl 2 (by decide) m_fl_RX6_22 rfl dX6_openRoad_13 ?_
    refine lv_iload_n hx hb dX6_openRoad_16 rfl (lv_at hl 1 rfl) ?_
    refine lv_dup2_11 hx hb dX6_openRoad_17 rfl rfl ?_
    refine z_ild C G 2 rfl (vp_in_iff.mpr ⟨by omega, by omega⟩) dX6_openRoad_18 ?_
    refine lv_topi (fun v_13 ev_13 => ?_)
    subst ev_13
    refine lv_iconst (v := 1) hx hb dX6_openRoad_19 (by decide) ?_
    refine lv_iload_n hx hb dX6_openRoad_20 rfl (lv_at hl 2 rfl) ?_
    refine lv_ishl hx hb dX6_openRoad_21 ?_
    refine lv_iconst (v := (-1)) hx hb dX6_openRoad_22 (by decide) ?_
    refine lv_ixor hx hb dX6_openRoad_23 ?_
    refine lv_iand hx hb dX6_openRoad_24 ?_
    refine z_ist C G 2 rfl (vp_in_iff.mpr ⟨by omega, by omega⟩) dX6_openRoad_25 (fun H locs G => ?_)
    have G : zS T A s.heap s [[zO6 h la a1_1 a2_2 st wh a3_3], [zAr T 0 a1_1 7 f1], [zAr T 0 a2_2 7 (upd f2 x.toNatClampNeg ((f2 x.toNatClampNeg) &&& ((1 <<< (y &&& 31)) ^^^ (-1))))], [zAr T 0 a3_3 7 f3], z] _ _ := G
    have hw_14 : bPosts T h la f1 (upd f2 x.toNatClampNeg ((f2 x.toNatClampNeg) &&& ((1 <<< (y &&& 31)) ^^^ (-1)))) f3 st wh [zO6 h la a1_1 a2_2 st wh a3_3, zAr T 0 a1_1 7 f1, zAr T 0 a2_2 7 (upd f2 x.toNatClampNeg ((f2 x.toNatClampNeg) &&& ((1 <<< (y &&& 31)) ^^^ (-1)))), zAr T 0 a3_3 7 f3] := ⟨a1_1, a2_2, a3_3, rfl⟩
    have G : zS T A s.heap s [[zO6 h la a1_1 a2_2 st wh a3_3, zAr T 0 a1_1 7 f1, zAr T 0 a2_2 7 (upd f2 x.toNatClampNeg ((f2 x.toNatClampNeg) &&& ((1 <<< (y &&& 31)) ^^^ (-1)))), zAr T 0 a3_3 7 f3], z] _ _ := G.re rfl
    exact z_back hQ9 (z_vret C hr hlocks G (Nat.le_of_ble_eq_true rfl) (Nat.le_of_ble_eq_true rfl) dX6_openRoad_26 ⟨([zO6 h la a1_1 a2_2 st wh a3_3, zAr T 0 a1_1 7 f1, zAr T 0 a2_2 7 (upd f2 x.toNatClampNeg ((f2 x.toNatClampNeg) &&& ((1 <<< (y &&& 31)) ^^^ (-1)))), zAr T 0 a3_3 7 f3]), (upd f2 x.toNatClampNeg ((f2 x.toNatClampNeg) &&& ((1 <<< (y &&& 31)) ^^^ (-1)))), rfl, hw_14, (by unfold zOpen; rw [if_pos (by omega)])⟩)
  · have h_12 : (x.toInt < 0 ∨ cr.toInt ≤ x.toInt ∨ 7 ≤ x.toInt ∨ y.toInt < 0 ∨ (k1 x.toNatClampNeg).toInt ≤ y.toInt ∨ 4 ≤ y.toInt) := h_12
    refine lv_if_eq (tgt := 26) hx hb dX6_openRoad_9 (by decide) (fun _ => ?_) (fun q => absurd (by decide) q)
    have hw_15 : bPosts T h la f1 f2 f3 st wh [zO6 h la a1_1 a2_2 st wh a3_3, zAr T 0 a1_1 7 f1, zAr T 0 a2_2 7 f2, zAr T 0 a3_3 7 f3] := ⟨a1_1, a2_2, a3_3, rfl⟩
    have G : zS T A s.heap s [[zO6 h la a1_1 a2_2 st wh a3_3, zAr T 0 a1_1 7 f1, zAr T 0 a2_2 7 f2, zAr T 0 a3_3 7 f3], z] _ _ := G.re rfl
    exact z_back hQ9 (z_vret C hr hlocks G (Nat.le_of_ble_eq_true rfl) (Nat.le_of_ble_eq_true rfl) dX6_openRoad_26 ⟨([zO6 h la a1_1 a2_2 st wh a3_3, zAr T 0 a1_1 7 f1, zAr T 0 a2_2 7 f2, zAr T 0 a3_3 7 f3]), f2, rfl, hw_15, (by unfold zOpen; rw [if_neg (by omega)])⟩)
set_option maxHeartbeats 4000000 in
set_option maxRecDepth 100000 in
/-- turn -/
theorem c_turn (l : Launch) (T : zTy) (h : Nat) (la : Nat) (f1 : Nat → Int32) (f2 : Nat → Int32) (f3 : Nat → Int32) (st : Int32) (wh : Int32) (w : va_W) (x : Int32) (hw : bPosts T h la f1 f2 f3 st wh w) (hI : zP3 f1 f3) : zMi l T yX6_turn cX6_turn 6 (some .int) 1 0 0 [.ref h, .int x] [w] (fun (r : Int32) bs => ∃ (w2 : va_W) (g1 : Nat → Int32), bs = [w2] ∧ r = zTurn f1 f2 f3 x ∧ bPosts T h la g1 f2 f3 st wh w2 ∧ g1 = zPost f1 f2 f3 x) := by
  refine zMi_of (own := RX6) (by decide) rfl (Nat.le_of_ble_eq_true rfl) ?_
  intro p e s m args below meth c A ls C hr hlocks hnm hAe G hl
  refine zHide (fun Q9 hQ9 => ?_)
  have hx := C.1
  have hb := C.2.1
  have hl : lv_has ls 6 [(0, .ref h), (1, .int x)] := hl
  refine lv_iload_n hx hb dX6_turn_0 rfl (lv_at hl 1 rfl) ?_
  refine lv_if_lt (tgt := 10) hx hb dX6_turn_1 (by decide) (fun c_1 => ?_) (fun c_1 => ?_)
  · have c_1n : x.toInt < (0 : Int) := (fa_lt _ _).mp c_1
    have hz : zTurn f1 f2 f3 x = -1 := by unfold zTurn; rw [if_neg (by omega)]
    refine lv_iconst (v := (-1)) hx hb dX6_turn_10 (by decide) ?_
    exact z_back hQ9 (z_iret C hr hlocks G (Nat.le_of_ble_eq_true rfl) (Nat.le_of_ble_eq_true rfl) dX6_turn_11 ⟨w, f1, rfl, hz.symm, hw, (by unfold zPost; rw [hz, if_pos rfl])⟩)
  · have c_1n : ¬ x.toInt < (0 : Int) := fun q => c_1 ((fa_lt _ _).mpr q)
    refine lv_iload_n hx hb dX6_turn_4 rfl (lv_at hl 1 rfl) ?_
    refine lv_bipush (v := 7) hx hb dX6_turn_5 (by decide) ?_
    refine lv_icmp_lt (tgt := 12) hx hb dX6_turn_7 (by decide) (fun c_2 => ?_) (fun c_2 => ?_)
    · have c_2n : x.toInt < (7 : Int) := (fa_lt _ _).mp c_2
      obtain ⟨n0, hn0⟩ : ∃ n0, n0 = (f3 x.toNatClampNeg).toNatClampNeg := ⟨_, rfl⟩
      have hcl := z_clI (x := x) (by omega)
      have h3 := hI x.toNatClampNeg (by omega)
      have hcn := z_clI h3.1.1
      have hn4 : (n0 : Int) = (f3 x.toNatClampNeg).toInt := by rw [hn0]; exact hcn
      have hT : zTurn f1 f2 f3 x = zTurnR (f3 x.toNatClampNeg) (f2 x.toNatClampNeg) n0 (f1 x.toNatClampNeg) := by unfold zTurn; rw [if_pos (by omega), hn0]
      refine lv_aload_n hx hb dX6_turn_12 rfl (lv_at hl 0 rfl) ?_
      refine zEx3 hw ?_
      intro a1_3 a2_4 a3_5 hbs9
      clear hw
      subst hbs9
      have G : zS T A s.heap s [[zO6 h la a1_3 a2_4 st wh a3_5], [zAr T 0 a1_3 7 f1], [zAr T 0 a2_4 7 f2], [zAr T 0 a3_5 7 f3]] _ _ := G.re rfl
      refine z_get C G clX6 0 rfl 5 (by decide) m_fl_RX6_25 rfl dX6_turn_13 ?_
      refine lv_iload_n hx hb dX6_turn_16 rfl (lv_at hl 1 rfl) ?_
      refine z_ild C G 3 rfl (vp_in_iff.mpr ⟨by omega, by omega⟩) dX6_turn_17 ?_
      refine lv_topi (fun v_6 ev_6 => ?_)
      subst ev_6
      refine lv_istore_n (lv' := [(2, .int (f3 x.toNatClampNeg)), (0, .ref h), (1, .int x)]) hx hb dX6_turn_18 rfl hl (by decide) rfl (fun ls hl => ?_)
      refine lv_aload_n hx hb dX6_turn_19 rfl (lv_at hl 1 rfl) ?_
      refine z_get C G clX6 0 rfl 2 (by decide) m_fl_RX6_22 rfl dX6_turn_20 ?_
      refine lv_iload_n hx hb dX6_turn_23 rfl (lv_at hl 2 rfl) ?_
      refine z_ild C G 2 rfl (vp_in_iff.mpr ⟨by omega, by omega⟩) dX6_turn_24 ?_
      refine lv_topi (fun v_7 ev_7 => ?_)
      subst ev_7
      refine lv_istore_n (lv' := [(3, .int (f2 x.toNatClampNeg)), (2, .int (f3 x.toNatClampNeg)), (0, .ref h), (1, .int x)]) hx hb dX6_turn_25 rfl hl (by decide) rfl (fun ls hl => ?_)
      refine lv_aload_n hx hb dX6_turn_26 rfl (lv_at hl 2 rfl) ?_
      refine z_get C G clX6 0 rfl 1 (by decide) m_fl_RX6_18 rfl dX6_turn_27 ?_
      refine lv_iload_n hx hb dX6_turn_30 rfl (lv_at hl 3 rfl) ?_
      refine z_ild C G 1 rfl (vp_in_iff.mpr ⟨by omega, by omega⟩) dX6_turn_31 ?_
      refine lv_topi (fun v_8 ev_8 => ?_)
      subst ev_8
      refine lv_istore (lv' := [(4, .int (f1 x.toNatClampNeg)), (3, .int (f2 x.toNatClampNeg)), (2, .int (f3 x.toNatClampNeg)), (0, .ref h), (1, .int x)]) hx hb dX6_turn_32 hl (by decide) rfl (fun ls hl => ?_)
      refine lv_iconst (v := 0) hx hb dX6_turn_34 (by decide) ?_
      refine lv_istore (lv' := [(5, .int 0), (4, .int (f1 x.toNatClampNeg)), (3, .int (f2 x.toNatClampNeg)), (2, .int (f3 x.toNatClampNeg)), (0, .ref h), (1, .int x)]) hx hb dX6_turn_35 hl (by decide) rfl (fun ls hl => ?_)
      have hw_9 : bPosts T h la f1 f2 f3 st wh [zO6 h la a1_3 a2_4 st wh a3_5, zAr T 0 a1_3 7 f1, zAr T 0 a2_4 7 f2, zAr T 0 a3_5 7 f3] := ⟨a1_3, a2_4, a3_5, rfl⟩
      have G : zS T A s.heap s [[zO6 h la a1_3 a2_4 st wh a3_5, zAr T 0 a1_3 7 f1, zAr T 0 a2_4 7 f2, zAr T 0 a3_5 7 f3]] _ _ := G.re rfl
      refine z_lp2 (T := T) 37 (fun (t : Nat) (q : Int32) => [[zO6 h la a1_3 a2_4 st wh a3_5, zAr T 0 a1_3 7 f1, zAr T 0 a2_4 7 f2, zAr T 0 a3_5 7 f3]]) (fun (t : Nat) (q : Int32) => [(5, .int (nI t)), (4, .int q), (3, .int (f2 x.toNatClampNeg)), (2, .int (f3 x.toNatClampNeg)), (0, .ref h), (1, .int x)]) (fun (t : Nat) (q : Int32) => t ≤ n0 ∧ zTurn f1 f2 f3 x = zTurnR (f3 x.toNatClampNeg) (f2 x.toNatClampNeg) (n0 - t) q ∧ (0 ≤ q.toInt ∧ q.toInt ≤ 1000)) (fun (t : Nat) (q : Int32) => n0 - t) ?_ 0 (f1 x.toNatClampNeg) (show 0 ≤ n0 ∧ zTurn f1 f2 f3 x = zTurnR (f3 x.toNatClampNeg) (f2 x.toNatClampNeg) (n0 - 0) (f1 x.toNatClampNeg) ∧ (0 ≤ (f1 x.toNatClampNeg).toInt ∧ (f1 x.toNatClampNeg).toInt ≤ 1000) from ⟨by omega, hT, ⟨h3.2.1, h3.2.2⟩⟩) G (lv_sub hl [0, 1, 2, 3, 4, 5] rfl)
      intro t q hI9 ih_37 H locs ls G hl
      replace hI9 : t ≤ n0 ∧ zTurn f1 f2 f3 x = zTurnR (f3 x.toNatClampNeg) (f2 x.toNatClampNeg) (n0 - t) q ∧ (0 ≤ q.toInt ∧ q.toInt ≤ 1000) := hI9
      refine zAn3 hI9 ?_
      intro ht hq hq3
      clear hI9
      replace G : zS T A s.heap s [[zO6 h la a1_3 a2_4 st wh a3_5, zAr T 0 a1_3 7 f1, zAr T 0 a2_4 7 f2, zAr T 0 a3_5 7 f3]] _ _ := G
      replace hl : lv_has ls 6 [(5, .int (nI t)), (4, .int q), (3, .int (f2 x.toNatClampNeg)), (2, .int (f3 x.toNatClampNeg)), (0, .ref h), (1, .int x)] := hl
      refine lv_iload hx hb dX6_turn_37 (lv_at hl 0 rfl) ?_
      refine lv_iload_n hx hb dX6_turn_39 rfl (lv_at hl 3 rfl) ?_
      refine lv_icmp_ge (tgt := 87) hx hb dX6_turn_40 (by decide) (fun c_10 => ?_) (fun c_10 => ?_)
      · have c_10n : (f3 x.toNatClampNeg).toInt ≤ (t : Int) := by have q := (fa_le _ _).mp c_10; rw [nI_toInt (n := t) (by omega)] at q; exact q
        have hz : zTurn f1 f2 f3 x = -1 := by rw [hq, show n0 - t = 0 by omega]; rfl
        refine lv_iconst (v := (-1)) hx hb dX6_turn_87 (by decide) ?_
        exact z_back hQ9 (z_iret C hr hlocks G (Nat.le_of_ble_eq_true rfl) (Nat.le_of_ble_eq_true rfl) dX6_turn_88 ⟨([zO6 h la a1_3 a2_4 st wh a3_5, zAr T 0 a1_3 7 f1, zAr T 0 a2_4 7 f2, zAr T 0 a3_5 7 f3]), f1, rfl, hz.symm, hw_9, (by unfold zPost; rw [hz, if_pos rfl])⟩)
      · have c_10n : ¬ (f3 x.toNatClampNeg).toInt ≤ (t : Int) := fun q => c_10 ((fa_le _ _).mpr (by rw [nI_toInt (n := t) (by omega)]; exact q))
        have e1 : (q + 1).toInt = q.toInt + 1 := z_iaddI (by show -2147483648 ≤ q.toInt + 1; omega) (by show q.toInt + 1 < 2147483648; omega)
        refine lv_iload hx hb dX6_turn_43 (lv_at hl 1 rfl) ?_
        refine lv_iconst (v := 1) hx hb dX6_turn_45 (by decide) ?_
        refine lv_iadd hx hb dX6_turn_46 ?_
        refine lv_iload_n hx hb dX6_turn_47 rfl (lv_at hl 3 rfl) ?_
        refine lv_icmp_ge (tgt := 58) hx hb dX6_turn_48 (by decide) (fun c_11 => ?_) (fun c_11 => ?_)
        · have c_11n : (f3 x.toNatClampNeg).toInt ≤ (q + 1).toInt := (fa_le _ _).mp c_11
          refine lv_iconst (v := 0) hx hb dX6_turn_58 (by decide) ?_
          refine lv_istore (lv' := [(4, .int 0), (5, .int (nI t)), (3, .int (f2 x.toNatClampNeg)), (2, .int (f3 x.toNatClampNeg)), (0, .ref h), (1, .int x)]) hx hb dX6_turn_59 hl (by decide) rfl (fun ls hl => ?_)
          refine lv_iload_n hx hb dX6_turn_61 rfl (lv_at hl 2 rfl) ?_
          refine lv_iload hx hb dX6_turn_62 (lv_at hl 0 rfl) ?_
          refine lv_ishr hx hb dX6_turn_64 ?_
          refine lv_iconst (v := 1) hx hb dX6_turn_65 (by decide) ?_
          refine lv_iand hx hb dX6_turn_66 ?_
          refine lv_if_ne (tgt := 81) hx hb dX6_turn_67 (by decide) (fun c_12 => ?_) (fun c_12 => ?_)
          · have c_12n : ¬ (((f2 x.toNatClampNeg) >>> (0 &&& 31)) &&& 1).toInt = (0 : Int) := fun q => c_12 ((fa_eq _ _).mpr q)
            refine lv_iinc (v := nI (t + 1)) (lv' := [(5, .int (nI (t + 1))), (4, .int 0), (3, .int (f2 x.toNatClampNeg)), (2, .int (f3 x.toNatClampNeg)), (0, .ref h), (1, .int x)]) hx hb dX6_turn_81 hl (k := 1) rfl (z_inc t 1) (by decide) rfl (fun ls hl => ?_)
            refine lv_goto (tgt := 37) hx hb dX6_turn_84 (by decide) ?_
            exact ih_37 (t + 1) 0 (show (t + 1) ≤ n0 ∧ zTurn f1 f2 f3 x = zTurnR (f3 x.toNatClampNeg) (f2 x.toNatClampNeg) (n0 - (t + 1)) 0 ∧ (0 ≤ (0 : Int32).toInt ∧ (0 : Int32).toInt ≤ 1000) from ⟨by omega, by rw [hq, show n0 - t = (n0 - (t + 1)) + 1 by omega, zTurnR, show zNext (f3 x.toNatClampNeg) q = 0 from if_neg (fun z => absurd ((fa_lt _ _).mp z) (by omega)), if_neg (show ¬ zBit (f2 x.toNatClampNeg) (0) = 0 by assumption)], ⟨by decide, by decide⟩⟩) (show n0 - (t + 1) < n0 - t from by omega) _ _ ls G (lv_sub hl [0, 1, 2, 3, 4, 5] rfl)
          · have c_12n : (((f2 x.toNatClampNeg) >>> (0 &&& 31)) &&& 1).toInt = (0 : Int) := (fa_eq _ _).mp c_12
            have hz : zTurn f1 f2 f3 x = 0 := by rw [hq, show n0 - t = (n0 - (t + 1)) + 1 by omega, zTurnR, show zNext (f3 x.toNatClampNeg) q = 0 from if_neg (fun z => absurd ((fa_lt _ _).mp z) (by omega)), if_pos (show zBit (f2 x.toNatClampNeg) (0) = 0 by assumption)]
            have hz1 : ¬ zTurn f1 f2 f3 x = -1 := by rw [hz]; exact (by decide)
            refine lv_aload_n hx hb dX6_turn_70 rfl (lv_at hl 4 rfl) ?_
            have G : zS T A s.heap s [[zO6 h la a1_3 a2_4 st wh a3_5], [zAr T 0 a1_3 7 f1], [zAr T 0 a2_4 7 f2], [zAr T 0 a3_5 7 f3]] _ _ := G.re rfl
            refine z_get C G clX6 0 rfl 1 (by decide) m_fl_RX6_18 rfl dX6_turn_71 ?_
            refine lv_iload_n hx hb dX6_turn_74 rfl (lv_at hl 5 rfl) ?_
            refine lv_iload hx hb dX6_turn_75 (lv_at hl 0 rfl) ?_
            refine z_ist C G 1 rfl (vp_in_iff.mpr ⟨by omega, by omega⟩) dX6_turn_77 (fun H locs G => ?_)
            have G : zS T A s.heap s [[zO6 h la a1_3 a2_4 st wh a3_5], [zAr T 0 a1_3 7 (upd f1 x.toNatClampNeg 0)], [zAr T 0 a2_4 7 f2], [zAr T 0 a3_5 7 f3]] _ _ := G
            refine lv_iload hx hb dX6_turn_78 (lv_at hl 0 rfl) ?_
            have hw_13 : bPosts T h la (upd f1 x.toNatClampNeg 0) f2 f3 st wh [zO6 h la a1_3 a2_4 st wh a3_5, zAr T 0 a1_3 7 (upd f1 x.toNatClampNeg 0), zAr T 0 a2_4 7 f2, zAr T 0 a3_5 7 f3] := ⟨a1_3, a2_4, a3_5, rfl⟩
            have G : zS T A s.heap s [[zO6 h la a1_3 a2_4 st wh a3_5, zAr T 0 a1_3 7 (upd f1 x.toNatClampNeg 0), zAr T 0 a2_4 7 f2, zAr T 0 a3_5 7 f3]] _ _ := G.re rfl
            exact z_back hQ9 (z_iret C hr hlocks G (Nat.le_of_ble_eq_true rfl) (Nat.le_of_ble_eq_true rfl) dX6_turn_80 ⟨([zO6 h la a1_3 a2_4 st wh a3_5, zAr T 0 a1_3 7 (upd f1 x.toNatClampNeg 0), zAr T 0 a2_4 7 f2, zAr T 0 a3_5 7 f3]), (upd f1 x.toNatClampNeg 0), rfl, hz.symm, hw_13, (by unfold zPost; rw [if_neg hz1, hz])⟩)
        · have c_11n : ¬ (f3 x.toNatClampNeg).toInt ≤ (q + 1).toInt := fun q => c_11 ((fa_le _ _).mpr q)
          refine lv_iload hx hb dX6_turn_51 (lv_at hl 1 rfl) ?_
          refine lv_iconst (v := 1) hx hb dX6_turn_53 (by decide) ?_
          refine lv_iadd hx hb dX6_turn_54 ?_
          refine lv_goto (tgt := 59) hx hb dX6_turn_55 (by decide) ?_
          refine lv_istore (lv' := [(4, .int (q + 1)), (5, .int (nI t)), (3, .int (f2 x.toNatClampNeg)), (2, .int (f3 x.toNatClampNeg)), (0, .ref h), (1, .int x)]) hx hb dX6_turn_59 hl (by decide) rfl (fun ls hl => ?_)
          refine lv_iload_n hx hb dX6_turn_61 rfl (lv_at hl 2 rfl) ?_
          refine lv_iload hx hb dX6_turn_62 (lv_at hl 0 rfl) ?_
          refine lv_ishr hx hb dX6_turn_64 ?_
          refine lv_iconst (v := 1) hx hb dX6_turn_65 (by decide) ?_
          refine lv_iand hx hb dX6_turn_66 ?_
          refine lv_if_ne (tgt := 81) hx hb dX6_turn_67 (by decide) (fun c_14 => ?_) (fun c_14 => ?_)
          · have c_14n : ¬ (((f2 x.toNatClampNeg) >>> ((q + 1) &&& 31)) &&& 1).toInt = (0 : Int) := fun q => c_14 ((fa_eq _ _).mpr q)
            refine lv_iinc (v := nI (t + 1)) (lv' := [(5, .int (nI (t + 1))), (4, .int (q + 1)), (3, .int (f2 x.toNatClampNeg)), (2, .int (f3 x.toNatClampNeg)), (0, .ref h), (1, .int x)]) hx hb dX6_turn_81 hl (k := 1) rfl (z_inc t 1) (by decide) rfl (fun ls hl => ?_)
            refine lv_goto (tgt := 37) hx hb dX6_turn_84 (by decide) ?_
            exact ih_37 (t + 1) (q + 1) (show (t + 1) ≤ n0 ∧ zTurn f1 f2 f3 x = zTurnR (f3 x.toNatClampNeg) (f2 x.toNatClampNeg) (n0 - (t + 1)) (q + 1) ∧ (0 ≤ (q + 1).toInt ∧ (q + 1).toInt ≤ 1000) from ⟨by omega, by rw [hq, show n0 - t = (n0 - (t + 1)) + 1 by omega, zTurnR, show zNext (f3 x.toNatClampNeg) q = q + 1 from if_pos ((fa_lt _ _).mpr (by omega)), if_neg (show ¬ zBit (f2 x.toNatClampNeg) (q + 1) = 0 by assumption)], by omega⟩) (show n0 - (t + 1) < n0 - t from by omega) _ _ ls G (lv_sub hl [0, 1, 2, 3, 4, 5] rfl)
          · have c_14n : (((f2 x.toNatClampNeg) >>> ((q + 1) &&& 31)) &&& 1).toInt = (0 : Int) := (fa_eq _ _).mp c_14
            have hz : zTurn f1 f2 f3 x = q + 1 := by rw [hq, show n0 - t = (n0 - (t + 1)) + 1 by omega, zTurnR, show zNext (f3 x.toNatClampNeg) q = q + 1 from if_pos ((fa_lt _ _).mpr (by omega)), if_pos (show zBit (f2 x.toNatClampNeg) (q + 1) = 0 by assumption)]
            have hz1 : ¬ zTurn f1 f2 f3 x = -1 := by rw [hz]; exact (fun q9 => absurd (show (q + 1).toInt = -1 from by rw [q9]; rfl) (by omega))
            refine lv_aload_n hx hb dX6_turn_70 rfl (lv_at hl 4 rfl) ?_
            have G : zS T A s.heap s [[zO6 h la a1_3 a2_4 st wh a3_5], [zAr T 0 a1_3 7 f1], [zAr T 0 a2_4 7 f2], [zAr T 0 a3_5 7 f3]] _ _ := G.re rfl
            refine z_get C G clX6 0 rfl 1 (by decide) m_fl_RX6_18 rfl dX6_turn_71 ?_
            refine lv_iload_n hx hb dX6_turn_74 rfl (lv_at hl 5 rfl) ?_
            refine lv_iload hx hb dX6_turn_75 (lv_at hl 0 rfl) ?_
            refine z_ist C G 1 rfl (vp_in_iff.mpr ⟨by omega, by omega⟩) dX6_turn_77 (fun H locs G => ?_)
            have G : zS T A s.heap s [[zO6 h la a1_3 a2_4 st wh a3_5], [zAr T 0 a1_3 7 (upd f1 x.toNatClampNeg (q + 1))], [zAr T 0 a2_4 7 f2], [zAr T 0 a3_5 7 f3]] _ _ := G
            refine lv_iload hx hb dX6_turn_78 (lv_at hl 0 rfl) ?_
            have hw_15 : bPosts T h la (upd f1 x.toNatClampNeg (q + 1)) f2 f3 st wh [zO6 h la a1_3 a2_4 st wh a3_5, zAr T 0 a1_3 7 (upd f1 x.toNatClampNeg (q + 1)), zAr T 0 a2_4 7 f2, zAr T 0 a3_5 7 f3] := ⟨a1_3, a2_4, a3_5, rfl⟩
            have G : zS T A s.heap s [[zO6 h la a1_3 a2_4 st wh a3_5, zAr T 0 a1_3 7 (upd f1 x.toNatClampNeg (q + 1)), zAr T 0 a2_4 7 f2, zAr T 0 a3_5 7 f3]] _ _ := G.re rfl
            exact z_back hQ9 (z_iret C hr hlocks G (Nat.le_of_ble_eq_true rfl) (Nat.le_of_ble_eq_true rfl) dX6_turn_80 ⟨([zO6 h la a1_3 a2_4 st wh a3_5, zAr T 0 a1_3 7 (upd f1 x.toNatClampNeg (q + 1)), zAr T 0 a2_4 7 f2, zAr T 0 a3_5 7 f3]), (upd f1 x.toNatClampNeg (q + 1)), rfl, hz.symm, hw_15, (by unfold zPost; rw [if_neg hz1, hz])⟩)
    · have c_2n : ¬ x.toInt < (7 : Int) := fun q => c_2 ((fa_lt _ _).mpr q)
      have hz : zTurn f1 f2 f3 x = -1 := by unfold zTurn; rw [if_neg (by omega)]
      refine lv_iconst (v := (-1)) hx hb dX6_turn_10 (by decide) ?_
      exact z_back hQ9 (z_iret C hr hlocks G (Nat.le_of_ble_eq_true rfl) (Nat.le_of_ble_eq_true rfl) dX6_turn_11 ⟨w, f1, rfl, hz.symm, hw, (by unfold zPost; rw [hz, if_pos rfl])⟩)
set_option maxHeartbeats 4000000 in
set_option maxRecDepth 100000 in
/-- step -/
theorem c_step (l : Launch) (T : zTy) (h : Nat) (la : Nat) (f1 : Nat → Int32) (f2 : Nat → Int32) (f3 : Nat → Int32) (st : Int32) (wh : Int32) (w : va_W) (cr : Int32) (inn : Int32) (k1 : Nat → Int32) (k2 : Nat → Int32) (k3 : Nat → Int32) (k4 : Nat → Int32) (z : va_W) (x : Int32) (hw : bPosts T h la f1 f2 f3 st wh w) (hz : bLand T la cr inn k1 k2 k3 k4 z) (hI : zP3 f1 f3) : zMi l T yX6_step cX6_step 4 (some .int) 2 0 0 [.ref h, .int x] [w, z] (fun (r : Int32) bs => ∃ (w2 : va_W) (g1 : Nat → Int32), bs = [w2, z] ∧ r = zStep f1 f2 f3 k2 x ∧ bPosts T h la g1 f2 f3 st wh w2 ∧ g1 = zPost f1 f2 f3 x) := by
  refine zMi_of (own := RX6) (by decide) rfl (Nat.le_of_ble_eq_true rfl) ?_
  intro p e s m args below meth c A ls C hr hlocks hnm hAe G hl
  refine zHide (fun Q9 hQ9 => ?_)
  have hx := C.1
  have hb := C.2.1
  have hl : lv_has ls 4 [(0, .ref h), (1, .int x)] := hl
  refine lv_aload_n hx hb dX6_step_0 rfl (lv_at hl 0 rfl) ?_
  refine lv_iload_n hx hb dX6_step_1 rfl (lv_at hl 1 rfl) ?_
  refine z_Vi (bc := [w]) (br := [z]) (As := [.int x]) (rest := []) C G (c_turn l T h la f1 f2 f3 st wh w x hw (by first | with_reducible assumption | with_reducible rfl | omega | assumption | rfl)) (kV_RX6_43 C.2.2.2.2 (Nat.le_of_ble_eq_true rfl) (Nat.le_of_ble_eq_true rfl)) [0] [0] rfl rfl (ci := 6) (qc := (RX6, TX6, 6)) rfl rfl (List.mem_flatten.mpr ⟨_, List.mem_of_getElem? (i := 0) rfl, (bPosts_mem hw).choose_spec⟩) rfl rfl hl.1 dX6_step_2 (Nat.le_of_ble_eq_true rfl) (Nat.le_of_ble_eq_true rfl) (fun r_6 b1 H locs hw G => ?_)
  refine zEx2 hw ?_
  intro w2_1 g1_2
  refine zCu4 ?_
  intro hbs9 h_3 h_4 h_5
  clear hw
  subst hbs9
  have G : zS T A s.heap s [z, w2_1] _ _ := G
  subst h_3
  refine lv_istore_n (lv' := [(2, .int (zTurn f1 f2 f3 x)), (0, .ref h), (1, .int x)]) hx hb dX6_step_5 rfl hl (by decide) rfl (fun ls hl => ?_)
  refine lv_iload_n hx hb dX6_step_6 rfl (lv_at hl 2 rfl) ?_
  refine lv_iconst (v := 4) hx hb dX6_step_7 (by decide) ?_
  refine lv_imul hx hb dX6_step_8 ?_
  refine lv_topi (fun u_6 eu_6 => ?_)
  refine lv_iload_n hx hb dX6_step_9 rfl (lv_at hl 0 rfl) ?_
  refine lv_iadd hx hb dX6_step_10 ?_
  refine lv_topi (fun i_7 ei_7 => ?_)
  refine lv_istore_n (lv' := [(3, .int i_7), (2, .int (zTurn f1 f2 f3 x)), (0, .ref h), (1, .int x)]) hx hb dX6_step_11 rfl hl (by decide) rfl (fun ls hl => ?_)
  refine lv_iload_n hx hb dX6_step_12 rfl (lv_at hl 1 rfl) ?_
  refine lv_if_lt (tgt := 34) hx hb dX6_step_13 (by decide) (fun c_9 => ?_) (fun c_9 => ?_)
  · have c_9n : (zTurn f1 f2 f3 x).toInt < (0 : Int) := (fa_lt _ _).mp c_9
    refine lv_iconst (v := (-1)) hx hb dX6_step_34 (by decide) ?_
    have G := G.sub (bs' := [w2_1, z]) [1, 0] rfl
    exact z_back hQ9 (z_iret C hr hlocks G (Nat.le_of_ble_eq_true rfl) (Nat.le_of_ble_eq_true rfl) dX6_step_35 ⟨w2_1, g1_2, rfl, (by unfold zStep; rw [if_pos ((zTurn_in (f2 := f2) hI x).resolve_right (fun q => by omega))]), h_4, (by first | with_reducible assumption | omega | trivial | assumption)⟩)
  · have c_9n : ¬ (zTurn f1 f2 f3 x).toInt < (0 : Int) := fun q => c_9 ((fa_lt _ _).mpr q)
    have hin : 0 ≤ x.toInt ∧ x.toInt < 7 ∧ 0 ≤ (zTurn f1 f2 f3 x).toInt ∧ (zTurn f1 f2 f3 x).toInt ≤ 3 := (zTurn_in (f2 := f2) hI x).resolve_left (fun q => absurd (show (zTurn f1 f2 f3 x).toInt = -1 from by rw [q]; rfl) (by omega))
    have hu : u_6.toInt = x.toInt * 4 := by rw [eu_6]; exact z_imulI (by show -2147483648 ≤ x.toInt * 4; omega) (by show x.toInt * 4 < 2147483648; omega)
    have hii : i_7.toInt = x.toInt * 4 + (zTurn f1 f2 f3 x).toInt := by rw [ei_7, z_iaddI (by rw [hu]; omega) (by rw [hu]; omega), hu]
    refine lv_iload_n hx hb dX6_step_16 rfl (lv_at hl 0 rfl) ?_
    refine lv_bipush (v := 28) hx hb dX6_step_17 (by decide) ?_
    refine lv_icmp_ge (tgt := 34) hx hb dX6_step_19 (by decide) (fun q => absurd q (fun q2 => absurd (show (28 : Int) ≤ i_7.toInt from (fa_le (28 : Int32) i_7).mp q2) (by omega))) (fun _ => ?_)
    refine lv_aload_n hx hb dX6_step_22 rfl (lv_at hl 2 rfl) ?_
    refine zEx3 h_4 ?_
    intro a1_10 a2_11 a3_12 hbs9
    clear h_4
    subst hbs9
    have G : zS T A s.heap s [z, [zO6 h la a1_10 a2_11 st wh a3_12], [zAr T 0 a1_10 7 g1_2], [zAr T 0 a2_11 7 f2], [zAr T 0 a3_12 7 f3]] _ _ := G.re rfl
    refine z_get C G clX6 1 rfl 0 (by decide) m_fl_RX6_12 rfl dX6_step_23 ?_
    refine zEx4 hz ?_
    intro a1_13 a2_14 a3_15 a4_16 hbs9
    clear hz
    subst hbs9
    have G : zS T A s.heap s [[zO4 la cr inn a1_13 a2_14 a3_15 a4_16], [zAr T 0 a1_13 7 k1], [zAr T 0 a2_14 28 k2], [zAr T 0 a3_15 7 k3], [zAr T 0 a4_16 7 k4], [zO6 h la a1_10 a2_11 st wh a3_12], [zAr T 0 a1_10 7 g1_2], [zAr T 0 a2_11 7 f2], [zAr T 0 a3_12 7 f3]] _ _ := G.re rfl
    refine z_get C G clX4 0 rfl 3 (by decide) m_fl_RX6_46 rfl dX6_step_26 ?_
    refine lv_iload_n hx hb dX6_step_29 rfl (lv_at hl 0 rfl) ?_
    refine z_ild C G 2 rfl (vp_in_iff.mpr ⟨by omega, by omega⟩) dX6_step_30 ?_
    refine lv_topi (fun v_17 ev_17 => ?_)
    subst ev_17
    refine lv_goto (tgt := 35) hx hb dX6_step_31 (by decide) ?_
    have hw_18 : bPosts T h la g1_2 f2 f3 st wh [zO6 h la a1_10 a2_11 st wh a3_12, zAr T 0 a1_10 7 g1_2, zAr T 0 a2_11 7 f2, zAr T 0 a3_12 7 f3] := ⟨a1_10, a2_11, a3_12, rfl⟩
    have G : zS T A s.heap s [[zO4 la cr inn a1_13 a2_14 a3_15 a4_16], [zAr T 0 a1_13 7 k1], [zAr T 0 a2_14 28 k2], [zAr T 0 a3_15 7 k3], [zAr T 0 a4_16 7 k4], [zO6 h la a1_10 a2_11 st wh a3_12, zAr T 0 a1_10 7 g1_2, zAr T 0 a2_11 7 f2, zAr T 0 a3_12 7 f3]] _ _ := G.re rfl
    have hw_19 : bLand T la cr inn k1 k2 k3 k4 [zO4 la cr inn a1_13 a2_14 a3_15 a4_16, zAr T 0 a1_13 7 k1, zAr T 0 a2_14 28 k2, zAr T 0 a3_15 7 k3, zAr T 0 a4_16 7 k4] := ⟨a1_13, a2_14, a3_15, a4_16, rfl⟩
    have G : zS T A s.heap s [[zO4 la cr inn a1_13 a2_14 a3_15 a4_16, zAr T 0 a1_13 7 k1, zAr T 0 a2_14 28 k2, zAr T 0 a3_15 7 k3, zAr T 0 a4_16 7 k4], [zO6 h la a1_10 a2_11 st wh a3_12, zAr T 0 a1_10 7 g1_2, zAr T 0 a2_11 7 f2, zAr T 0 a3_12 7 f3]] _ _ := G.re rfl
    have G := G.sub (bs' := [[zO6 h la a1_10 a2_11 st wh a3_12, zAr T 0 a1_10 7 g1_2, zAr T 0 a2_11 7 f2, zAr T 0 a3_12 7 f3], [zO4 la cr inn a1_13 a2_14 a3_15 a4_16, zAr T 0 a1_13 7 k1, zAr T 0 a2_14 28 k2, zAr T 0 a3_15 7 k3, zAr T 0 a4_16 7 k4]]) [1, 0] rfl
    exact z_back hQ9 (z_iret C hr hlocks G (Nat.le_of_ble_eq_true rfl) (Nat.le_of_ble_eq_true rfl) dX6_step_35 ⟨([zO6 h la a1_10 a2_11 st wh a3_12, zAr T 0 a1_10 7 g1_2, zAr T 0 a2_11 7 f2, zAr T 0 a3_12 7 f3]), g1_2, rfl, (by unfold zStep; rw [if_neg (fun q => absurd (show (zTurn f1 f2 f3 x).toInt = -1 from by rw [q]; rfl) (by omega))]; exact congrArg k2 (by have q1 := z_clI hin.1; have q2 := z_clI hin.2.2.1; have q3 := z_clI (x := i_7) (by omega); omega)), hw_18, (by first | with_reducible assumption | omega | trivial | assumption)⟩)
set_option maxHeartbeats 4000000 in
set_option maxRecDepth 100000 in
/-- run -/
theorem c_Posts_run (l : Launch) (T : zTy) (h : Nat) (la : Nat) (f1 : Nat → Int32) (f2 : Nat → Int32) (f3 : Nat → Int32) (st : Int32) (wh : Int32) (w : va_W) (cr : Int32) (inn : Int32) (k1 : Nat → Int32) (k2 : Nat → Int32) (k3 : Nat → Int32) (k4 : Nat → Int32) (z : va_W) (x : Int32) (hw : bPosts T h la f1 f2 f3 st wh w) (hz : bLand T la cr inn k1 k2 k3 k4 z) (hI : zP3 f1 f3) : zMv l T yX6_run cX6_run 4 3 0 0 [.ref h, .int x] [w, z] (fun bs => ∃ (w2 : va_W) (g1 : Nat → Int32) (s2 : Int32) (x2 : Int32), bs = [w2, z] ∧ bPosts T h la g1 f2 f3 s2 x2 w2 ∧ g1 = (zRunN f2 f3 k2 499 f1 x 0).1 ∧ s2 = nI (zRunN f2 f3 k2 499 f1 x 0).2.2 ∧ x2 = (zRunN f2 f3 k2 499 f1 x 0).2.1) := by
  refine zMv_of (own := RX6) (by decide) rfl (Nat.le_of_ble_eq_true rfl) ?_
  intro p e s m args below meth c A ls C hr hlocks hnm hAe G hl
  refine zHide (fun Q9 hQ9 => ?_)
  have hx := C.1
  have hb := C.2.1
  have hl : lv_has ls 4 [(0, .ref h), (1, .int x)] := hl
  refine lv_aload_n hx hb dX6_run_0 rfl (lv_at hl 0 rfl) ?_
  refine lv_iload_n hx hb dX6_run_1 rfl (lv_at hl 1 rfl) ?_
  refine zEx3 hw ?_
  intro a1_1 a2_2 a3_3 hbs9
  clear hw
  subst hbs9
  have G : zS T A s.heap s [[zO6 h la a1_1 a2_2 st wh a3_3], [zAr T 0 a1_1 7 f1], [zAr T 0 a2_2 7 f2], [zAr T 0 a3_3 7 f3], z] _ _ := G.re rfl
  refine z_put C G clX6 0 rfl 4 (by decide) m_fl_RX6_32 rfl rfl rfl (Nat.le_of_ble_eq_true rfl) dX6_run_2 (fun H locs G => ?_)
  have G : zS T A s.heap s [[zO6 h la a1_1 a2_2 st x a3_3], [zAr T 0 a1_1 7 f1], [zAr T 0 a2_2 7 f2], [zAr T 0 a3_3 7 f3], z] _ _ := G
  refine lv_aload_n hx hb dX6_run_5 rfl (lv_at hl 0 rfl) ?_
  refine lv_iconst (v := 0) hx hb dX6_run_6 (by decide) ?_
  refine z_put C G clX6 0 rfl 3 (by decide) m_fl_RX6_28 rfl rfl rfl (Nat.le_of_ble_eq_true rfl) dX6_run_7 (fun H locs G => ?_)
  have G : zS T A s.heap s [[zO6 h la a1_1 a2_2 0 x a3_3], [zAr T 0 a1_1 7 f1], [zAr T 0 a2_2 7 f2], [zAr T 0 a3_3 7 f3], z] _ _ := G
  refine lv_iconst (v := 0) hx hb dX6_run_10 (by decide) ?_
  refine lv_istore_n (lv' := [(2, .int 0), (0, .ref h), (1, .int x)]) hx hb dX6_run_11 rfl hl (by decide) rfl (fun ls hl => ?_)
  have hw_4 : bPosts T h la f1 f2 f3 0 x [zO6 h la a1_1 a2_2 0 x a3_3, zAr T 0 a1_1 7 f1, zAr T 0 a2_2 7 f2, zAr T 0 a3_3 7 f3] := ⟨a1_1, a2_2, a3_3, rfl⟩
  have G : zS T A s.heap s [[zO6 h la a1_1 a2_2 0 x a3_3, zAr T 0 a1_1 7 f1, zAr T 0 a2_2 7 f2, zAr T 0 a3_3 7 f3], z] _ _ := G.re rfl
  refine z_lp5 (T := T) 12 (fun (i : Nat) (j : Nat) (wq : va_W) (xf : Nat → Int32) (xx : Int32) => [wq, z]) (fun (i : Nat) (j : Nat) (wq : va_W) (xf : Nat → Int32) (xx : Int32) => [(2, .int (nI i)), (0, .ref h), (1, .int x)]) (fun (i : Nat) (j : Nat) (wq : va_W) (xf : Nat → Int32) (xx : Int32) => bPosts T h la xf f2 f3 (nI j) xx wq ∧ i ≤ 499 ∧ j ≤ i ∧ zP3 xf f3 ∧ zRunN f2 f3 k2 499 f1 x 0 = zRunN f2 f3 k2 (499 - i) xf xx j) (fun (i : Nat) (j : Nat) (wq : va_W) (xf : Nat → Int32) (xx : Int32) => 499 - i) ?_ 0 0 ([zO6 h la a1_1 a2_2 0 x a3_3, zAr T 0 a1_1 7 f1, zAr T 0 a2_2 7 f2, zAr T 0 a3_3 7 f3]) f1 x (show bPosts T h la f1 f2 f3 (nI 0) x ([zO6 h la a1_1 a2_2 0 x a3_3, zAr T 0 a1_1 7 f1, zAr T 0 a2_2 7 f2, zAr T 0 a3_3 7 f3]) ∧ 0 ≤ 499 ∧ 0 ≤ 0 ∧ zP3 f1 f3 ∧ zRunN f2 f3 k2 499 f1 x 0 = zRunN f2 f3 k2 (499 - 0) f1 x 0 from ⟨hw_4, by omega, by omega, hI, rfl⟩) G (lv_sub hl [0, 1, 2] rfl)
  intro i j wq xf xx hI9 ih_12 H locs ls G hl
  replace hI9 : bPosts T h la xf f2 f3 (nI j) xx wq ∧ i ≤ 499 ∧ j ≤ i ∧ zP3 xf f3 ∧ zRunN f2 f3 k2 499 f1 x 0 = zRunN f2 f3 k2 (499 - i) xf xx j := hI9
  refine zAn5 hI9 ?_
  intro hq hi hj hxf hr_
  clear hI9
  replace G : zS T A s.heap s [wq, z] _ _ := G
  replace hl : lv_has ls 4 [(2, .int (nI i)), (0, .ref h), (1, .int x)] := hl
  refine lv_iload_n hx hb dX6_run_12 rfl (lv_at hl 0 rfl) ?_
  refine lv_sipush (v := 499) hx hb dX6_run_13 (by decide) ?_
  refine lv_icmp_ge (tgt := 55) hx hb dX6_run_16 (by decide) (fun c_5 => ?_) (fun c_5 => ?_)
  · have c_5n : 499 ≤ i := (nI_leI (a := 499) (b := i) (by omega) (by omega)).mp c_5
    exact z_back hQ9 (z_vret C hr hlocks G (Nat.le_of_ble_eq_true rfl) (Nat.le_of_ble_eq_true rfl) dX6_run_55 ⟨wq, xf, (nI j), xx, rfl, hq, (by rw [hr_, show 499 - i = 0 by omega]; rfl), (by rw [hr_, show 499 - i = 0 by omega]; rfl), (by rw [hr_, show 499 - i = 0 by omega]; rfl)⟩)
  · have c_5n : ¬ 499 ≤ i := fun q => c_5 ((nI_leI (a := 499) (b := i) (by omega) (by omega)).mpr q)
    refine lv_aload_n hx hb dX6_run_19 rfl (lv_at hl 1 rfl) ?_
    refine lv_aload_n hx hb dX6_run_20 rfl (lv_at hl 1 rfl) ?_
    refine zEx3 hq ?_
    intro a1_6 a2_7 a3_8 hbs9
    clear hq
    subst hbs9
    have G : zS T A s.heap s [[zO6 h la a1_6 a2_7 (nI j) xx a3_8], [zAr T 0 a1_6 7 xf], [zAr T 0 a2_7 7 f2], [zAr T 0 a3_8 7 f3], z] _ _ := G.re rfl
    refine z_get C G clX6 0 rfl 4 (by decide) m_fl_RX6_32 rfl dX6_run_21 ?_
    have hw_9 : bPosts T h la xf f2 f3 (nI j) xx [zO6 h la a1_6 a2_7 (nI j) xx a3_8, zAr T 0 a1_6 7 xf, zAr T 0 a2_7 7 f2, zAr T 0 a3_8 7 f3] := ⟨a1_6, a2_7, a3_8, rfl⟩
    have G : zS T A s.heap s [[zO6 h la a1_6 a2_7 (nI j) xx a3_8, zAr T 0 a1_6 7 xf, zAr T 0 a2_7 7 f2, zAr T 0 a3_8 7 f3], z] _ _ := G.re rfl
    refine z_Vi (bc := [[zO6 h la a1_6 a2_7 (nI j) xx a3_8, zAr T 0 a1_6 7 xf, zAr T 0 a2_7 7 f2, zAr T 0 a3_8 7 f3], z]) (br := []) (As := [.int xx]) (rest := []) C G (c_step l T h la xf f2 f3 (nI j) xx ([zO6 h la a1_6 a2_7 (nI j) xx a3_8, zAr T 0 a1_6 7 xf, zAr T 0 a2_7 7 f2, zAr T 0 a3_8 7 f3]) cr inn k1 k2 k3 k4 z xx hw_9 hz (by first | with_reducible assumption | with_reducible rfl | omega | assumption | rfl)) (kV_RX6_49 C.2.2.2.2 (Nat.le_of_ble_eq_true rfl) (Nat.le_of_ble_eq_true rfl)) [0, 1] [0, 0] rfl rfl (ci := 6) (qc := (RX6, TX6, 6)) rfl rfl (List.mem_flatten.mpr ⟨_, List.mem_of_getElem? (i := 0) rfl, (bPosts_mem hw_9).choose_spec⟩) rfl rfl hl.1 dX6_run_24 (Nat.le_of_ble_eq_true rfl) (Nat.le_of_ble_eq_true rfl) (fun r_15 b1 H locs hw G => ?_)
    refine zEx2 hw ?_
    intro w2_10 g1_11
    refine zCu4 ?_
    intro hbs9 h_12 h_13 h_14
    clear hw
    subst hbs9
    have G : zS T A s.heap s [w2_10, z] _ _ := G
    subst h_12
    refine lv_istore_n (lv' := [(3, .int (zStep xf f2 f3 k2 xx)), (2, .int (nI i)), (0, .ref h), (1, .int x)]) hx hb dX6_run_27 rfl hl (by decide) rfl (fun ls hl => ?_)
    refine lv_iload_n hx hb dX6_run_28 rfl (lv_at hl 0 rfl) ?_
    refine lv_iconst (v := (-1)) hx hb dX6_run_29 (by decide) ?_
    refine lv_icmp_ne (tgt := 34) hx hb dX6_run_30 (by decide) (fun c_16 => ?_) (fun c_16 => ?_)
    · have c_16n : ¬ (zStep xf f2 f3 k2 xx).toInt = (-1 : Int) := fun q => c_16 ((fa_eq _ _).mpr q)
      refine lv_aload_n hx hb dX6_run_34 rfl (lv_at hl 2 rfl) ?_
      refine lv_iload_n hx hb dX6_run_35 rfl (lv_at hl 0 rfl) ?_
      refine zEx3 h_13 ?_
      intro a1_17 a2_18 a3_19 hbs9
      clear h_13
      subst hbs9
      have G : zS T A s.heap s [[zO6 h la a1_17 a2_18 (nI j) xx a3_19], [zAr T 0 a1_17 7 g1_11], [zAr T 0 a2_18 7 f2], [zAr T 0 a3_19 7 f3], z] _ _ := G.re rfl
      refine z_put C G clX6 0 rfl 4 (by decide) m_fl_RX6_32 rfl rfl rfl (Nat.le_of_ble_eq_true rfl) dX6_run_36 (fun H locs G => ?_)
      have G : zS T A s.heap s [[zO6 h la a1_17 a2_18 (nI j) (zStep xf f2 f3 k2 xx) a3_19], [zAr T 0 a1_17 7 g1_11], [zAr T 0 a2_18 7 f2], [zAr T 0 a3_19 7 f3], z] _ _ := G
      refine lv_aload_n hx hb dX6_run_39 rfl (lv_at hl 2 rfl) ?_
      refine lv_dup hx hb dX6_run_40 rfl ?_
      refine z_get C G clX6 0 rfl 3 (by decide) m_fl_RX6_28 rfl dX6_run_41 ?_
      refine lv_iconst (v := 1) hx hb dX6_run_44 (by decide) ?_
      refine lv_iadd hx hb dX6_run_45 ?_
      refine lv_topi (fun y_20 ey_20 => ?_)
      obtain rfl : y_20 = nI (j + 1) := ey_20.trans (z_iaddn j 1 rfl rfl)
      refine z_put C G clX6 0 rfl 3 (by decide) m_fl_RX6_28 rfl rfl rfl (Nat.le_of_ble_eq_true rfl) dX6_run_46 (fun H locs G => ?_)
      have G : zS T A s.heap s [[zO6 h la a1_17 a2_18 (nI (j + 1)) (zStep xf f2 f3 k2 xx) a3_19], [zAr T 0 a1_17 7 g1_11], [zAr T 0 a2_18 7 f2], [zAr T 0 a3_19 7 f3], z] _ _ := G
      refine lv_iinc (v := nI (i + 1)) (lv' := [(2, .int (nI (i + 1))), (3, .int (zStep xf f2 f3 k2 xx)), (0, .ref h), (1, .int x)]) hx hb dX6_run_49 hl (k := 1) rfl (z_inc i 1) (by decide) rfl (fun ls hl => ?_)
      refine lv_goto (tgt := 12) hx hb dX6_run_52 (by decide) ?_
      have hw_21 : bPosts T h la g1_11 f2 f3 (nI (j + 1)) (zStep xf f2 f3 k2 xx) [zO6 h la a1_17 a2_18 (nI (j + 1)) (zStep xf f2 f3 k2 xx) a3_19, zAr T 0 a1_17 7 g1_11, zAr T 0 a2_18 7 f2, zAr T 0 a3_19 7 f3] := ⟨a1_17, a2_18, a3_19, rfl⟩
      have G : zS T A s.heap s [[zO6 h la a1_17 a2_18 (nI (j + 1)) (zStep xf f2 f3 k2 xx) a3_19, zAr T 0 a1_17 7 g1_11, zAr T 0 a2_18 7 f2, zAr T 0 a3_19 7 f3], z] _ _ := G.re rfl
      exact ih_12 (i + 1) (j + 1) ([zO6 h la a1_17 a2_18 (nI (j + 1)) (zStep xf f2 f3 k2 xx) a3_19, zAr T 0 a1_17 7 g1_11, zAr T 0 a2_18 7 f2, zAr T 0 a3_19 7 f3]) g1_11 (zStep xf f2 f3 k2 xx) (show bPosts T h la g1_11 f2 f3 (nI (j + 1)) (zStep xf f2 f3 k2 xx) ([zO6 h la a1_17 a2_18 (nI (j + 1)) (zStep xf f2 f3 k2 xx) a3_19, zAr T 0 a1_17 7 g1_11, zAr T 0 a2_18 7 f2, zAr T 0 a3_19 7 f3]) ∧ (i + 1) ≤ 499 ∧ (j + 1) ≤ (i + 1) ∧ zP3 g1_11 f3 ∧ zRunN f2 f3 k2 499 f1 x 0 = zRunN f2 f3 k2 (499 - (i + 1)) g1_11 (zStep xf f2 f3 k2 xx) (j + 1) from ⟨hw_21, by omega, by omega, by rw [h_14]; exact zPost_I hxf _, by rw [hr_, show 499 - i = (499 - (i + 1)) + 1 by omega, zRunN, if_neg (by assumption), h_14]⟩) (show 499 - (i + 1) < 499 - i from by omega) _ _ ls G (lv_sub hl [0, 2, 3] rfl)
    · have c_16n : (zStep xf f2 f3 k2 xx).toInt = (-1 : Int) := (fa_eq _ _).mp c_16
      exact z_back hQ9 (z_vret C hr hlocks G (Nat.le_of_ble_eq_true rfl) (Nat.le_of_ble_eq_true rfl) dX6_run_33 ⟨w2_10, g1_11, (nI j), xx, rfl, h_13, (by rw [hr_, show 499 - i = (499 - (i + 1)) + 1 by omega, zRunN, if_pos (by assumption)]; exact h_14), (by rw [hr_, show 499 - i = (499 - (i + 1)) + 1 by omega, zRunN, if_pos (by assumption)]), (by rw [hr_, show 499 - i = (499 - (i + 1)) + 1 by omega, zRunN, if_pos (by assumption)])⟩)
set_option maxHeartbeats 4000000 in
set_option maxRecDepth 100000 in
/-- code -/
theorem c_code (l : Launch) (T : zTy) (h : Nat) (la : Nat) (f1 : Nat → Int32) (f2 : Nat → Int32) (f3 : Nat → Int32) (st : Int32) (wh : Int32) (w : va_W) (hw : bPosts T h la f1 f2 f3 st wh w) : zMi l T yX6_code cX6_code 3 (some .int) 1 0 0 [.ref h] [w] (fun (r : Int32) bs => bs = [w] ∧ r = zCode f1 7) := by
  refine zMi_of (own := RX6) (by decide) rfl (Nat.le_of_ble_eq_true rfl) ?_
  intro p e s m args below meth c A ls C hr hlocks hnm hAe G hl
  refine zHide (fun Q9 hQ9 => ?_)
  have hx := C.1
  have hb := C.2.1
  have hl : lv_has ls 3 [(0, .ref h)] := hl
  refine lv_iconst (v := 0) hx hb dX6_code_0 (by decide) ?_
  refine lv_istore_n (lv' := [(1, .int 0), (0, .ref h)]) hx hb dX6_code_1 rfl hl (by decide) rfl (fun ls hl => ?_)
  refine lv_iconst (v := 0) hx hb dX6_code_2 (by decide) ?_
  refine lv_istore_n (lv' := [(2, .int 0), (1, .int 0), (0, .ref h)]) hx hb dX6_code_3 rfl hl (by decide) rfl (fun ls hl => ?_)
  refine zEx3 hw ?_
  intro a1_1 a2_2 a3_3 hbs9
  clear hw
  subst hbs9
  have G : zS T A s.heap s [[zO6 h la a1_1 a2_2 st wh a3_3], [zAr T 0 a1_1 7 f1], [zAr T 0 a2_2 7 f2], [zAr T 0 a3_3 7 f3]] _ _ := G.re rfl
  have hw_4 : bPosts T h la f1 f2 f3 st wh [zO6 h la a1_1 a2_2 st wh a3_3, zAr T 0 a1_1 7 f1, zAr T 0 a2_2 7 f2, zAr T 0 a3_3 7 f3] := ⟨a1_1, a2_2, a3_3, rfl⟩
  have G : zS T A s.heap s [[zO6 h la a1_1 a2_2 st wh a3_3, zAr T 0 a1_1 7 f1, zAr T 0 a2_2 7 f2, zAr T 0 a3_3 7 f3]] _ _ := G.re rfl
  refine z_lp2 (T := T) 4 (fun (i : Nat) (v : Int32) => [[zO6 h la a1_1 a2_2 st wh a3_3, zAr T 0 a1_1 7 f1, zAr T 0 a2_2 7 f2, zAr T 0 a3_3 7 f3]]) (fun (i : Nat) (v : Int32) => [(2, .int (nI i)), (1, .int v), (0, .ref h)]) (fun (i : Nat) (v : Int32) => i ≤ 7 ∧ v = zCode f1 i) (fun (i : Nat) (v : Int32) => 7 - i) ?_ 0 0 (show 0 ≤ 7 ∧ 0 = zCode f1 0 from ⟨by omega, rfl⟩) G (lv_sub hl [0, 1, 2] rfl)
  intro i v hI9 ih_4 H locs ls G hl
  replace hI9 : i ≤ 7 ∧ v = zCode f1 i := hI9
  refine zAn2 hI9 ?_
  intro hi hv
  clear hI9
  replace G : zS T A s.heap s [[zO6 h la a1_1 a2_2 st wh a3_3, zAr T 0 a1_1 7 f1, zAr T 0 a2_2 7 f2, zAr T 0 a3_3 7 f3]] _ _ := G
  replace hl : lv_has ls 3 [(2, .int (nI i)), (1, .int v), (0, .ref h)] := hl
  refine lv_iload_n hx hb dX6_code_4 rfl (lv_at hl 0 rfl) ?_
  refine lv_bipush (v := 7) hx hb dX6_code_5 (by decide) ?_
  refine lv_icmp_ge (tgt := 27) hx hb dX6_code_7 (by decide) (fun c_5 => ?_) (fun c_5 => ?_)
  · have c_5n : 7 ≤ i := (nI_leI (a := 7) (b := i) (by omega) (by omega)).mp c_5
    refine lv_iload_n hx hb dX6_code_27 rfl (lv_at hl 1 rfl) ?_
    exact z_back hQ9 (z_iret C hr hlocks G (Nat.le_of_ble_eq_true rfl) (Nat.le_of_ble_eq_true rfl) dX6_code_28 ⟨rfl, (by rw [hv, show i = 7 by omega])⟩)
  · have c_5n : ¬ 7 ≤ i := fun q => c_5 ((nI_leI (a := 7) (b := i) (by omega) (by omega)).mpr q)
    refine lv_iload_n hx hb dX6_code_10 rfl (lv_at hl 1 rfl) ?_
    refine lv_iconst (v := 4) hx hb dX6_code_11 (by decide) ?_
    refine lv_imul hx hb dX6_code_12 ?_
    refine lv_aload_n hx hb dX6_code_13 rfl (lv_at hl 2 rfl) ?_
    have G : zS T A s.heap s [[zO6 h la a1_1 a2_2 st wh a3_3], [zAr T 0 a1_1 7 f1], [zAr T 0 a2_2 7 f2], [zAr T 0 a3_3 7 f3]] _ _ := G.re rfl
    refine z_get C G clX6 0 rfl 1 (by decide) m_fl_RX6_18 rfl dX6_code_14 ?_
    refine lv_iload_n hx hb dX6_code_17 rfl (lv_at hl 0 rfl) ?_
    refine z_ild C G 1 rfl (vp_in_nI (by omega) (by omega)) dX6_code_18 ?_
    refine lv_topi (fun v_6 ev_6 => ?_)
    rw [nI_clamp (by omega)] at ev_6
    subst ev_6
    refine lv_iadd hx hb dX6_code_19 ?_
    refine lv_istore_n (lv' := [(1, .int ((v * 4) + (f1 i))), (2, .int (nI i)), (0, .ref h)]) hx hb dX6_code_20 rfl hl (by decide) rfl (fun ls hl => ?_)
    refine lv_iinc (v := nI (i + 1)) (lv' := [(2, .int (nI (i + 1))), (1, .int ((v * 4) + (f1 i))), (0, .ref h)]) hx hb dX6_code_21 hl (k := 1) rfl (z_inc i 1) (by decide) rfl (fun ls hl => ?_)
    refine lv_goto (tgt := 4) hx hb dX6_code_24 (by decide) ?_
    have hw_7 : bPosts T h la f1 f2 f3 st wh [zO6 h la a1_1 a2_2 st wh a3_3, zAr T 0 a1_1 7 f1, zAr T 0 a2_2 7 f2, zAr T 0 a3_3 7 f3] := ⟨a1_1, a2_2, a3_3, rfl⟩
    have G : zS T A s.heap s [[zO6 h la a1_1 a2_2 st wh a3_3, zAr T 0 a1_1 7 f1, zAr T 0 a2_2 7 f2, zAr T 0 a3_3 7 f3]] _ _ := G.re rfl
    exact ih_4 (i + 1) ((v * 4) + (f1 i)) (show (i + 1) ≤ 7 ∧ ((v * 4) + (f1 i)) = zCode f1 (i + 1) from ⟨by omega, by rw [hv]; rfl⟩) (show 7 - (i + 1) < 7 - i from by omega) _ _ ls G (lv_sub hl [0, 1, 2] rfl)
theorem m_fl_RX8_9 : Cond.fieldLink RX8 9 (TX4 0).1 (TX4 0).2.1 (TX4 0).2.2.1 ∈ zT := zmem1 zsub_1 42 rfl rfl
theorem m_ml_RX8_15 : Cond.methodLink RX8 15 yX4_waysOut ∈ zT := zmem1 zsub_4 134 rfl rfl
theorem m_ml_RX8_19 : Cond.methodLink RX8 19 yX4_target ∈ zT := zmem1 zsub_4 135 rfl rfl
theorem m_co_X8_spread : Cond.code yX8_spread cX8_spread 5 (some .int) ∈ zT := zmem1 zsub_4 133 rfl rfl
theorem m_ml_RX8_23 : Cond.methodLink RX8 23 yX8_spread ∈ zT := zmem1 zsub_4 131 rfl rfl
theorem m_st_X8_spread : Cond.static yX8_spread ∈ zT := zmem1 zsub_4 132 rfl rfl
theorem m_ii_RX8 : Cond.initialized RX8 ∈ zT := zmem1 zsub_1 18 rfl rfl
theorem m_fl_RX8_29 : Cond.fieldLink RX8 29 (TX4 1).1 (TX4 1).2.1 (TX4 1).2.2.1 ∈ zT := zmem1 zsub_1 50 rfl rfl
theorem m_co_X8_reached : Cond.code yX8_reached cX8_reached 4 (some .int) ∈ zT := zmem1 zsub_4 130 rfl rfl
theorem m_ml_RX8_45 : Cond.methodLink RX8 45 yX8_reached ∈ zT := zmem1 zsub_5 192 rfl rfl
theorem m_st_X8_reached : Cond.static yX8_reached ∈ zT := zmem1 zsub_4 129 rfl rfl
theorem m_co_X8_howManyLead : Cond.code yX8_howManyLead cX8_howManyLead 5 (some .int) ∈ zT := zmem1 zsub_5 207 rfl rfl
theorem m_ml_RX8_52 : Cond.methodLink RX8 52 yX8_howManyLead ∈ zT := zmem1 zsub_5 205 rfl rfl
theorem m_st_X8_howManyLead : Cond.static yX8_howManyLead ∈ zT := zmem1 zsub_5 206 rfl rfl
theorem m_co_X4_isInn : Cond.code yX4_isInn cX4_isInn 2 (some .boolean) ∈ zT := zmem1 zsub_4 20 rfl rfl
theorem m_ml_RX8_48 : Cond.methodLink RX8 48 yX4_isInn ∈ zT := zmem1 zsub_5 201 rfl rfl
theorem m_im_X4_isInn : Cond.instanceMethod yX4_isInn ∈ zT := zmem1 zsub_4 18 rfl rfl
theorem m_se_X4_isInn : Cond.selects RX4 yX4_isInn yX4_isInn ∈ zT := zmem1 zsub_4 19 rfl rfl
theorem m_co_X8_howManyLeadTo : Cond.code yX8_howManyLeadTo cX8_howManyLeadTo 4 (some .int) ∈ zT := zmem1 zsub_5 216 rfl rfl
theorem m_ml_RX8_56 : Cond.methodLink RX8 56 yX8_howManyLeadTo ∈ zT := zmem1 zsub_5 214 rfl rfl
theorem m_st_X8_howManyLeadTo : Cond.static yX8_howManyLeadTo ∈ zT := zmem1 zsub_5 215 rfl rfl
theorem m_ko_RJ6_265 : Cond.constant RJ6 265 1431655765 ∈ zT := zmem1 zsub_4 154 rfl rfl
theorem m_ko_RJ6_266 : Cond.constant RJ6 266 858993459 ∈ zT := zmem1 zsub_4 155 rfl rfl
theorem m_ko_RJ6_267 : Cond.constant RJ6 267 252645135 ∈ zT := zmem1 zsub_4 156 rfl rfl
theorem m_co_X8_inOneClass : Cond.code yX8_inOneClass cX8_inOneClass 5 (some .int) ∈ zT := zmem1 zsub_5 191 rfl rfl
theorem m_ml_RX8_32 : Cond.methodLink RX8 32 yX8_inOneClass ∈ zT := zmem1 zsub_5 189 rfl rfl
theorem m_st_X8_inOneClass : Cond.static yX8_inOneClass ∈ zT := zmem1 zsub_5 190 rfl rfl
theorem m_co_J6_bitCount_0f7a4 : Cond.code yJ6_bitCount_0f7a4 cJ6_bitCount_0f7a4 1 (some .int) ∈ zT := zmem1 zsub_4 153 rfl rfl
theorem m_ml_RX8_35 : Cond.methodLink RX8 35 yJ6_bitCount_0f7a4 ∈ zT := zmem1 zsub_5 193 rfl rfl
theorem m_st_J6_bitCount_0f7a4 : Cond.static yJ6_bitCount_0f7a4 ∈ zT := zmem1 zsub_4 152 rfl rfl
theorem m_ii_RJ6 : Cond.initialized RJ6 ∈ zT := zmem1 zsub_1 19 rfl rfl
theorem m_co_math_max : Cond.code Lib.Math.max.name Lib.Math.max.code 2 (some .int) ∈ zT := zmem1 zsub_3 164 rfl rfl
theorem m_ml_RX8_40 : Cond.methodLink RX8 40 Lib.Math.max.name ∈ zT := zmem1 zsub_5 194 rfl rfl
theorem m_st_math_max : Cond.static Lib.Math.max.name ∈ zT := zmem1 zsub_3 163 rfl rfl
theorem m_ii_math : Cond.initialized "java/lang/Math" ∈ zT := zmem1 zsub_1 13 rfl rfl
theorem m_ml_RX8_59 : Cond.methodLink RX8 59 yX4_has ∈ zT := zmem1 zsub_5 228 rfl rfl
theorem m_fl_RX8_62 : Cond.fieldLink RX8 62 (TX4 4).1 (TX4 4).2.1 (TX4 4).2.2.1 ∈ zT := zmem1 zsub_1 59 rfl rfl
theorem kV_RX8_15 {R : Room} {s : State} {args : Array Value} {d mc ms : Nat} (hts : ∀ w ∈ zT, w.before args s = true) (h1 : d + 1 ≤ R.frames) (h2 : 8 + (2 + 11) + 40 * d ≤ R.locals) : CallW R s args RX8 RX4 15 yX4_waysOut cX4_waysOut 2 (some .int) (zW yX4_waysOut cX4_waysOut 2 (some .int)) (zR d mc ms) mc ms 1 := z_cwV hts m_co_X4_waysOut m_ml_RX8_15 m_im_X4_waysOut m_se_X4_waysOut m_ii_RX4 (by decide +kernel) h1 h2
theorem kV_RX8_19 {R : Room} {s : State} {args : Array Value} {d mc ms : Nat} (hts : ∀ w ∈ zT, w.before args s = true) (h1 : d + 1 ≤ R.frames) (h2 : 8 + (3 + 11) + 40 * d ≤ R.locals) : CallW R s args RX8 RX4 19 yX4_target cX4_target 3 (some .int) (zW yX4_target cX4_target 3 (some .int)) (zR d mc ms) mc ms 2 := z_cwV hts m_co_X4_target m_ml_RX8_19 m_im_X4_target m_se_X4_target m_ii_RX4 (by decide +kernel) h1 h2
theorem kS_RX8_23 {R : Room} {s : State} {args : Array Value} {d mc ms : Nat} (hts : ∀ w ∈ zT, w.before args s = true) (h1 : d + 1 ≤ R.frames) (h2 : 8 + (5 + 11) + 40 * d ≤ R.locals) : CallB R s args RX8 23 yX8_spread cX8_spread 5 (some .int) (zW yX8_spread cX8_spread 5 (some .int)) (zR d mc ms) mc ms 2 ∧ (Cond.static yX8_spread).before args s = true := z_cwS hts m_co_X8_spread m_ml_RX8_23 m_st_X8_spread m_ii_RX8 (by decide +kernel) h1 h2
theorem kS_RX8_45 {R : Room} {s : State} {args : Array Value} {d mc ms : Nat} (hts : ∀ w ∈ zT, w.before args s = true) (h1 : d + 1 ≤ R.frames) (h2 : 8 + (4 + 11) + 40 * d ≤ R.locals) : CallB R s args RX8 45 yX8_reached cX8_reached 4 (some .int) (zW yX8_reached cX8_reached 4 (some .int)) (zR d mc ms) mc ms 2 ∧ (Cond.static yX8_reached).before args s = true := z_cwS hts m_co_X8_reached m_ml_RX8_45 m_st_X8_reached m_ii_RX8 (by decide +kernel) h1 h2
theorem kS_RX8_52 {R : Room} {s : State} {args : Array Value} {d mc ms : Nat} (hts : ∀ w ∈ zT, w.before args s = true) (h1 : d + 1 ≤ R.frames) (h2 : 8 + (5 + 11) + 40 * d ≤ R.locals) : CallB R s args RX8 52 yX8_howManyLead cX8_howManyLead 5 (some .int) (zW yX8_howManyLead cX8_howManyLead 5 (some .int)) (zR d mc ms) mc ms 3 ∧ (Cond.static yX8_howManyLead).before args s = true := z_cwS hts m_co_X8_howManyLead m_ml_RX8_52 m_st_X8_howManyLead m_ii_RX8 (by decide +kernel) h1 h2
theorem kV_RX8_48 {R : Room} {s : State} {args : Array Value} {d mc ms : Nat} (hts : ∀ w ∈ zT, w.before args s = true) (h1 : d + 1 ≤ R.frames) (h2 : 8 + (2 + 11) + 40 * d ≤ R.locals) : CallW R s args RX8 RX4 48 yX4_isInn cX4_isInn 2 (some .boolean) (zW yX4_isInn cX4_isInn 2 (some .boolean)) (zR d mc ms) mc ms 1 := z_cwV hts m_co_X4_isInn m_ml_RX8_48 m_im_X4_isInn m_se_X4_isInn m_ii_RX4 (by decide +kernel) h1 h2
theorem kS_RX8_56 {R : Room} {s : State} {args : Array Value} {d mc ms : Nat} (hts : ∀ w ∈ zT, w.before args s = true) (h1 : d + 1 ≤ R.frames) (h2 : 8 + (4 + 11) + 40 * d ≤ R.locals) : CallB R s args RX8 56 yX8_howManyLeadTo cX8_howManyLeadTo 4 (some .int) (zW yX8_howManyLeadTo cX8_howManyLeadTo 4 (some .int)) (zR d mc ms) mc ms 2 ∧ (Cond.static yX8_howManyLeadTo).before args s = true := z_cwS hts m_co_X8_howManyLeadTo m_ml_RX8_56 m_st_X8_howManyLeadTo m_ii_RX8 (by decide +kernel) h1 h2
theorem kS_RX8_32 {R : Room} {s : State} {args : Array Value} {d mc ms : Nat} (hts : ∀ w ∈ zT, w.before args s = true) (h1 : d + 1 ≤ R.frames) (h2 : 8 + (5 + 11) + 40 * d ≤ R.locals) : CallB R s args RX8 32 yX8_inOneClass cX8_inOneClass 5 (some .int) (zW yX8_inOneClass cX8_inOneClass 5 (some .int)) (zR d mc ms) mc ms 2 ∧ (Cond.static yX8_inOneClass).before args s = true := z_cwS hts m_co_X8_inOneClass m_ml_RX8_32 m_st_X8_inOneClass m_ii_RX8 (by decide +kernel) h1 h2
theorem kS_RX8_35 {R : Room} {s : State} {args : Array Value} {d mc ms : Nat} (hts : ∀ w ∈ zT, w.before args s = true) (h1 : d + 1 ≤ R.frames) (h2 : 8 + (1 + 11) + 40 * d ≤ R.locals) : CallB R s args RX8 35 yJ6_bitCount_0f7a4 cJ6_bitCount_0f7a4 1 (some .int) (zW yJ6_bitCount_0f7a4 cJ6_bitCount_0f7a4 1 (some .int)) (zR d mc ms) mc ms 1 ∧ (Cond.static yJ6_bitCount_0f7a4).before args s = true := z_cwS hts m_co_J6_bitCount_0f7a4 m_ml_RX8_35 m_st_J6_bitCount_0f7a4 m_ii_RJ6 (by decide +kernel) h1 h2
theorem kV_RX8_59 {R : Room} {s : State} {args : Array Value} {d mc ms : Nat} (hts : ∀ w ∈ zT, w.before args s = true) (h1 : d + 1 ≤ R.frames) (h2 : 8 + (2 + 11) + 40 * d ≤ R.locals) : CallW R s args RX8 RX4 59 yX4_has cX4_has 2 (some .boolean) (zW yX4_has cX4_has 2 (some .boolean)) (zR d mc ms) mc ms 1 := z_cwV hts m_co_X4_has m_ml_RX8_59 m_im_X4_has m_se_X4_has m_ii_RX4 (by decide +kernel) h1 h2
theorem dX8_spread_0 : decode cX8_spread 0 = .ok (.iload_n 1, 1) := zo_27 (by decide +kernel)
theorem dX8_spread_1 : decode cX8_spread 1 = .ok (.istore_n 2, 1) := zo_61 (by decide +kernel)
theorem dX8_spread_2 : decode cX8_spread 2 = .ok (.iconst 0, 1) := zo_3 (by decide +kernel)
theorem dX8_spread_3 : decode cX8_spread 3 = .ok (.istore_n 3, 1) := zo_62 (by decide +kernel)
theorem dX8_spread_4 : decode cX8_spread 4 = .ok (.iload_n 3, 1) := zo_29 (by decide +kernel)
theorem dX8_spread_5 : decode cX8_spread 5 = .ok (.aload_n 0, 1) := zo_42 (by decide +kernel)
theorem dX8_spread_6 : decode cX8_spread 6 = .ok (.getfield 9, 3) := zo_180 (by decide +kernel)
theorem dX8_spread_9 : decode cX8_spread 9 = .ok (.if_icmp .ge 48, 3) := zo_162 (by decide +kernel)
theorem dX8_spread_12 : decode cX8_spread 12 = .ok (.iload_n 1, 1) := zo_27 (by decide +kernel)
theorem dX8_spread_13 : decode cX8_spread 13 = .ok (.iload_n 3, 1) := zo_29 (by decide +kernel)
theorem dX8_spread_14 : decode cX8_spread 14 = .ok (.ishr, 1) := zo_122 (by decide +kernel)
theorem dX8_spread_15 : decode cX8_spread 15 = .ok (.iconst 1, 1) := zo_4 (by decide +kernel)
theorem dX8_spread_16 : decode cX8_spread 16 = .ok (.iand, 1) := zo_126 (by decide +kernel)
theorem dX8_spread_17 : decode cX8_spread 17 = .ok (.ifCond .eq 34, 3) := zo_153 (by decide +kernel)
theorem dX8_spread_20 : decode cX8_spread 20 = .ok (.iconst 0, 1) := zo_3 (by decide +kernel)
theorem dX8_spread_21 : decode cX8_spread 21 = .ok (.istore 4, 2) := zo_54 (by decide +kernel)
theorem dX8_spread_23 : decode cX8_spread 23 = .ok (.iload 4, 2) := zo_21 (by decide +kernel)
theorem dX8_spread_25 : decode cX8_spread 25 = .ok (.aload_n 0, 1) := zo_42 (by decide +kernel)
theorem dX8_spread_26 : decode cX8_spread 26 = .ok (.iload_n 3, 1) := zo_29 (by decide +kernel)
theorem dX8_spread_27 : decode cX8_spread 27 = .ok (.invokevirtual 15, 3) := zo_182 (by decide +kernel)
theorem dX8_spread_30 : decode cX8_spread 30 = .ok (.if_icmp .ge 21, 3) := zo_162 (by decide +kernel)
theorem dX8_spread_33 : decode cX8_spread 33 = .ok (.iload_n 2, 1) := zo_28 (by decide +kernel)
theorem dX8_spread_34 : decode cX8_spread 34 = .ok (.iconst 1, 1) := zo_4 (by decide +kernel)
theorem dX8_spread_35 : decode cX8_spread 35 = .ok (.aload_n 0, 1) := zo_42 (by decide +kernel)
theorem dX8_spread_36 : decode cX8_spread 36 = .ok (.iload_n 3, 1) := zo_29 (by decide +kernel)
theorem dX8_spread_37 : decode cX8_spread 37 = .ok (.iload 4, 2) := zo_21 (by decide +kernel)
theorem dX8_spread_39 : decode cX8_spread 39 = .ok (.invokevirtual 19, 3) := zo_182 (by decide +kernel)
theorem dX8_spread_42 : decode cX8_spread 42 = .ok (.ishl, 1) := zo_120 (by decide +kernel)
theorem dX8_spread_43 : decode cX8_spread 43 = .ok (.ior, 1) := zo_128 (by decide +kernel)
theorem dX8_spread_44 : decode cX8_spread 44 = .ok (.istore_n 2, 1) := zo_61 (by decide +kernel)
theorem dX8_spread_45 : decode cX8_spread 45 = .ok (.iinc 4 1, 3) := zo_132 (by decide +kernel)
theorem dX8_spread_48 : decode cX8_spread 48 = .ok (.goto (-25), 3) := zo_167 (by decide +kernel)
theorem dX8_spread_51 : decode cX8_spread 51 = .ok (.iinc 3 1, 3) := zo_132 (by decide +kernel)
theorem dX8_spread_54 : decode cX8_spread 54 = .ok (.goto (-50), 3) := zo_167 (by decide +kernel)
theorem dX8_spread_57 : decode cX8_spread 57 = .ok (.iload_n 2, 1) := zo_28 (by decide +kernel)
theorem dX8_spread_58 : decode cX8_spread 58 = .ok (.ireturn, 1) := zo_172 (by decide +kernel)
theorem dX8_distance_0 : decode cX8_distance 0 = .ok (.iconst 1, 1) := zo_4 (by decide +kernel)
theorem dX8_distance_1 : decode cX8_distance 1 = .ok (.iload_n 1, 1) := zo_27 (by decide +kernel)
theorem dX8_distance_2 : decode cX8_distance 2 = .ok (.ishl, 1) := zo_120 (by decide +kernel)
theorem dX8_distance_3 : decode cX8_distance 3 = .ok (.istore_n 3, 1) := zo_62 (by decide +kernel)
theorem dX8_distance_4 : decode cX8_distance 4 = .ok (.iconst 0, 1) := zo_3 (by decide +kernel)
theorem dX8_distance_5 : decode cX8_distance 5 = .ok (.istore 4, 2) := zo_54 (by decide +kernel)
theorem dX8_distance_7 : decode cX8_distance 7 = .ok (.iload 4, 2) := zo_21 (by decide +kernel)
theorem dX8_distance_9 : decode cX8_distance 9 = .ok (.bipush 7, 2) := zo_16 (by decide +kernel)
theorem dX8_distance_11 : decode cX8_distance 11 = .ok (.if_icmp .gt 26, 3) := zo_163 (by decide +kernel)
theorem dX8_distance_14 : decode cX8_distance 14 = .ok (.iload_n 3, 1) := zo_29 (by decide +kernel)
theorem dX8_distance_15 : decode cX8_distance 15 = .ok (.iload_n 2, 1) := zo_28 (by decide +kernel)
theorem dX8_distance_16 : decode cX8_distance 16 = .ok (.ishr, 1) := zo_122 (by decide +kernel)
theorem dX8_distance_17 : decode cX8_distance 17 = .ok (.iconst 1, 1) := zo_4 (by decide +kernel)
theorem dX8_distance_18 : decode cX8_distance 18 = .ok (.iand, 1) := zo_126 (by decide +kernel)
theorem dX8_distance_19 : decode cX8_distance 19 = .ok (.ifCond .eq 6, 3) := zo_153 (by decide +kernel)
theorem dX8_distance_22 : decode cX8_distance 22 = .ok (.iload 4, 2) := zo_21 (by decide +kernel)
theorem dX8_distance_24 : decode cX8_distance 24 = .ok (.ireturn, 1) := zo_172 (by decide +kernel)
theorem dX8_distance_25 : decode cX8_distance 25 = .ok (.aload_n 0, 1) := zo_42 (by decide +kernel)
theorem dX8_distance_26 : decode cX8_distance 26 = .ok (.iload_n 3, 1) := zo_29 (by decide +kernel)
theorem dX8_distance_27 : decode cX8_distance 27 = .ok (.invokestatic 23, 3) := zo_184 (by decide +kernel)
theorem dX8_distance_30 : decode cX8_distance 30 = .ok (.istore_n 3, 1) := zo_62 (by decide +kernel)
theorem dX8_distance_31 : decode cX8_distance 31 = .ok (.iinc 4 1, 3) := zo_132 (by decide +kernel)
theorem dX8_distance_34 : decode cX8_distance 34 = .ok (.goto (-27), 3) := zo_167 (by decide +kernel)
theorem dX8_distance_37 : decode cX8_distance 37 = .ok (.iconst (-1), 1) := zo_2 (by decide +kernel)
theorem dX8_distance_38 : decode cX8_distance 38 = .ok (.ireturn, 1) := zo_172 (by decide +kernel)
theorem dX8_reached_0 : decode cX8_reached 0 = .ok (.iconst 1, 1) := zo_4 (by decide +kernel)
theorem dX8_reached_1 : decode cX8_reached 1 = .ok (.iload_n 1, 1) := zo_27 (by decide +kernel)
theorem dX8_reached_2 : decode cX8_reached 2 = .ok (.ishl, 1) := zo_120 (by decide +kernel)
theorem dX8_reached_3 : decode cX8_reached 3 = .ok (.istore_n 2, 1) := zo_61 (by decide +kernel)
theorem dX8_reached_4 : decode cX8_reached 4 = .ok (.iconst 0, 1) := zo_3 (by decide +kernel)
theorem dX8_reached_5 : decode cX8_reached 5 = .ok (.istore_n 3, 1) := zo_62 (by decide +kernel)
theorem dX8_reached_6 : decode cX8_reached 6 = .ok (.iload_n 3, 1) := zo_29 (by decide +kernel)
theorem dX8_reached_7 : decode cX8_reached 7 = .ok (.bipush 7, 2) := zo_16 (by decide +kernel)
theorem dX8_reached_9 : decode cX8_reached 9 = .ok (.if_icmp .ge 15, 3) := zo_162 (by decide +kernel)
theorem dX8_reached_12 : decode cX8_reached 12 = .ok (.aload_n 0, 1) := zo_42 (by decide +kernel)
theorem dX8_reached_13 : decode cX8_reached 13 = .ok (.iload_n 2, 1) := zo_28 (by decide +kernel)
theorem dX8_reached_14 : decode cX8_reached 14 = .ok (.invokestatic 23, 3) := zo_184 (by decide +kernel)
theorem dX8_reached_17 : decode cX8_reached 17 = .ok (.istore_n 2, 1) := zo_61 (by decide +kernel)
theorem dX8_reached_18 : decode cX8_reached 18 = .ok (.iinc 3 1, 3) := zo_132 (by decide +kernel)
theorem dX8_reached_21 : decode cX8_reached 21 = .ok (.goto (-15), 3) := zo_167 (by decide +kernel)
theorem dX8_reached_24 : decode cX8_reached 24 = .ok (.iload_n 2, 1) := zo_28 (by decide +kernel)
theorem dX8_reached_25 : decode cX8_reached 25 = .ok (.ireturn, 1) := zo_172 (by decide +kernel)
theorem dX8_nearest_0 : decode cX8_nearest 0 = .ok (.iconst 1, 1) := zo_4 (by decide +kernel)
theorem dX8_nearest_1 : decode cX8_nearest 1 = .ok (.iload_n 1, 1) := zo_27 (by decide +kernel)
theorem dX8_nearest_2 : decode cX8_nearest 2 = .ok (.ishl, 1) := zo_120 (by decide +kernel)
theorem dX8_nearest_3 : decode cX8_nearest 3 = .ok (.istore_n 2, 1) := zo_61 (by decide +kernel)
theorem dX8_nearest_4 : decode cX8_nearest 4 = .ok (.iconst 0, 1) := zo_3 (by decide +kernel)
theorem dX8_nearest_5 : decode cX8_nearest 5 = .ok (.istore_n 3, 1) := zo_62 (by decide +kernel)
theorem dX8_nearest_6 : decode cX8_nearest 6 = .ok (.iload_n 3, 1) := zo_29 (by decide +kernel)
theorem dX8_nearest_7 : decode cX8_nearest 7 = .ok (.bipush 7, 2) := zo_16 (by decide +kernel)
theorem dX8_nearest_9 : decode cX8_nearest 9 = .ok (.if_icmp .gt 50, 3) := zo_163 (by decide +kernel)
theorem dX8_nearest_12 : decode cX8_nearest 12 = .ok (.iconst 0, 1) := zo_3 (by decide +kernel)
theorem dX8_nearest_13 : decode cX8_nearest 13 = .ok (.istore 4, 2) := zo_54 (by decide +kernel)
theorem dX8_nearest_15 : decode cX8_nearest 15 = .ok (.iload 4, 2) := zo_21 (by decide +kernel)
theorem dX8_nearest_17 : decode cX8_nearest 17 = .ok (.aload_n 0, 1) := zo_42 (by decide +kernel)
theorem dX8_nearest_18 : decode cX8_nearest 18 = .ok (.getfield 9, 3) := zo_180 (by decide +kernel)
theorem dX8_nearest_21 : decode cX8_nearest 21 = .ok (.if_icmp .ge 26, 3) := zo_162 (by decide +kernel)
theorem dX8_nearest_24 : decode cX8_nearest 24 = .ok (.iload_n 2, 1) := zo_28 (by decide +kernel)
theorem dX8_nearest_25 : decode cX8_nearest 25 = .ok (.aload_n 0, 1) := zo_42 (by decide +kernel)
theorem dX8_nearest_26 : decode cX8_nearest 26 = .ok (.getfield 29, 3) := zo_180 (by decide +kernel)
theorem dX8_nearest_29 : decode cX8_nearest 29 = .ok (.iand, 1) := zo_126 (by decide +kernel)
theorem dX8_nearest_30 : decode cX8_nearest 30 = .ok (.iload 4, 2) := zo_21 (by decide +kernel)
theorem dX8_nearest_32 : decode cX8_nearest 32 = .ok (.ishr, 1) := zo_122 (by decide +kernel)
theorem dX8_nearest_33 : decode cX8_nearest 33 = .ok (.iconst 1, 1) := zo_4 (by decide +kernel)
theorem dX8_nearest_34 : decode cX8_nearest 34 = .ok (.iand, 1) := zo_126 (by decide +kernel)
theorem dX8_nearest_35 : decode cX8_nearest 35 = .ok (.ifCond .eq 6, 3) := zo_153 (by decide +kernel)
theorem dX8_nearest_38 : decode cX8_nearest 38 = .ok (.iload 4, 2) := zo_21 (by decide +kernel)
theorem dX8_nearest_40 : decode cX8_nearest 40 = .ok (.ireturn, 1) := zo_172 (by decide +kernel)
theorem dX8_nearest_41 : decode cX8_nearest 41 = .ok (.iinc 4 1, 3) := zo_132 (by decide +kernel)
theorem dX8_nearest_44 : decode cX8_nearest 44 = .ok (.goto (-29), 3) := zo_167 (by decide +kernel)
theorem dX8_nearest_47 : decode cX8_nearest 47 = .ok (.aload_n 0, 1) := zo_42 (by decide +kernel)
theorem dX8_nearest_48 : decode cX8_nearest 48 = .ok (.iload_n 2, 1) := zo_28 (by decide +kernel)
theorem dX8_nearest_49 : decode cX8_nearest 49 = .ok (.invokestatic 23, 3) := zo_184 (by decide +kernel)
theorem dX8_nearest_52 : decode cX8_nearest 52 = .ok (.istore_n 2, 1) := zo_61 (by decide +kernel)
theorem dX8_nearest_53 : decode cX8_nearest 53 = .ok (.iinc 3 1, 3) := zo_132 (by decide +kernel)
theorem dX8_nearest_56 : decode cX8_nearest 56 = .ok (.goto (-50), 3) := zo_167 (by decide +kernel)
theorem dX8_nearest_59 : decode cX8_nearest 59 = .ok (.iconst (-1), 1) := zo_2 (by decide +kernel)
theorem dX8_nearest_60 : decode cX8_nearest 60 = .ok (.ireturn, 1) := zo_172 (by decide +kernel)
theorem dX8_inOneClass_0 : decode cX8_inOneClass 0 = .ok (.aload_n 0, 1) := zo_42 (by decide +kernel)
theorem dX8_inOneClass_1 : decode cX8_inOneClass 1 = .ok (.iload_n 1, 1) := zo_27 (by decide +kernel)
theorem dX8_inOneClass_2 : decode cX8_inOneClass 2 = .ok (.invokestatic 45, 3) := zo_184 (by decide +kernel)
theorem dX8_inOneClass_5 : decode cX8_inOneClass 5 = .ok (.istore_n 2, 1) := zo_61 (by decide +kernel)
theorem dX8_inOneClass_6 : decode cX8_inOneClass 6 = .ok (.iconst 0, 1) := zo_3 (by decide +kernel)
theorem dX8_inOneClass_7 : decode cX8_inOneClass 7 = .ok (.istore_n 3, 1) := zo_62 (by decide +kernel)
theorem dX8_inOneClass_8 : decode cX8_inOneClass 8 = .ok (.iconst 0, 1) := zo_3 (by decide +kernel)
theorem dX8_inOneClass_9 : decode cX8_inOneClass 9 = .ok (.istore 4, 2) := zo_54 (by decide +kernel)
theorem dX8_inOneClass_11 : decode cX8_inOneClass 11 = .ok (.iload 4, 2) := zo_21 (by decide +kernel)
theorem dX8_inOneClass_13 : decode cX8_inOneClass 13 = .ok (.aload_n 0, 1) := zo_42 (by decide +kernel)
theorem dX8_inOneClass_14 : decode cX8_inOneClass 14 = .ok (.getfield 9, 3) := zo_180 (by decide +kernel)
theorem dX8_inOneClass_17 : decode cX8_inOneClass 17 = .ok (.if_icmp .ge 38, 3) := zo_162 (by decide +kernel)
theorem dX8_inOneClass_20 : decode cX8_inOneClass 20 = .ok (.iload_n 2, 1) := zo_28 (by decide +kernel)
theorem dX8_inOneClass_21 : decode cX8_inOneClass 21 = .ok (.iload 4, 2) := zo_21 (by decide +kernel)
theorem dX8_inOneClass_23 : decode cX8_inOneClass 23 = .ok (.ishr, 1) := zo_122 (by decide +kernel)
theorem dX8_inOneClass_24 : decode cX8_inOneClass 24 = .ok (.iconst 1, 1) := zo_4 (by decide +kernel)
theorem dX8_inOneClass_25 : decode cX8_inOneClass 25 = .ok (.iand, 1) := zo_126 (by decide +kernel)
theorem dX8_inOneClass_26 : decode cX8_inOneClass 26 = .ok (.ifCond .eq 23, 3) := zo_153 (by decide +kernel)
theorem dX8_inOneClass_29 : decode cX8_inOneClass 29 = .ok (.aload_n 0, 1) := zo_42 (by decide +kernel)
theorem dX8_inOneClass_30 : decode cX8_inOneClass 30 = .ok (.iload 4, 2) := zo_21 (by decide +kernel)
theorem dX8_inOneClass_32 : decode cX8_inOneClass 32 = .ok (.invokestatic 45, 3) := zo_184 (by decide +kernel)
theorem dX8_inOneClass_35 : decode cX8_inOneClass 35 = .ok (.iload_n 1, 1) := zo_27 (by decide +kernel)
theorem dX8_inOneClass_36 : decode cX8_inOneClass 36 = .ok (.ishr, 1) := zo_122 (by decide +kernel)
theorem dX8_inOneClass_37 : decode cX8_inOneClass 37 = .ok (.iconst 1, 1) := zo_4 (by decide +kernel)
theorem dX8_inOneClass_38 : decode cX8_inOneClass 38 = .ok (.iand, 1) := zo_126 (by decide +kernel)
theorem dX8_inOneClass_39 : decode cX8_inOneClass 39 = .ok (.ifCond .eq 10, 3) := zo_153 (by decide +kernel)
theorem dX8_inOneClass_42 : decode cX8_inOneClass 42 = .ok (.iload_n 3, 1) := zo_29 (by decide +kernel)
theorem dX8_inOneClass_43 : decode cX8_inOneClass 43 = .ok (.iconst 1, 1) := zo_4 (by decide +kernel)
theorem dX8_inOneClass_44 : decode cX8_inOneClass 44 = .ok (.iload 4, 2) := zo_21 (by decide +kernel)
theorem dX8_inOneClass_46 : decode cX8_inOneClass 46 = .ok (.ishl, 1) := zo_120 (by decide +kernel)
theorem dX8_inOneClass_47 : decode cX8_inOneClass 47 = .ok (.ior, 1) := zo_128 (by decide +kernel)
theorem dX8_inOneClass_48 : decode cX8_inOneClass 48 = .ok (.istore_n 3, 1) := zo_62 (by decide +kernel)
theorem dX8_inOneClass_49 : decode cX8_inOneClass 49 = .ok (.iinc 4 1, 3) := zo_132 (by decide +kernel)
theorem dX8_inOneClass_52 : decode cX8_inOneClass 52 = .ok (.goto (-41), 3) := zo_167 (by decide +kernel)
theorem dX8_inOneClass_55 : decode cX8_inOneClass 55 = .ok (.iload_n 3, 1) := zo_29 (by decide +kernel)
theorem dX8_inOneClass_56 : decode cX8_inOneClass 56 = .ok (.ireturn, 1) := zo_172 (by decide +kernel)
theorem dX8_howManyLead_0 : decode cX8_howManyLead 0 = .ok (.iconst 0, 1) := zo_3 (by decide +kernel)
theorem dX8_howManyLead_1 : decode cX8_howManyLead 1 = .ok (.istore_n 3, 1) := zo_62 (by decide +kernel)
theorem dX8_howManyLead_2 : decode cX8_howManyLead 2 = .ok (.iconst 0, 1) := zo_3 (by decide +kernel)
theorem dX8_howManyLead_3 : decode cX8_howManyLead 3 = .ok (.istore 4, 2) := zo_54 (by decide +kernel)
theorem dX8_howManyLead_5 : decode cX8_howManyLead 5 = .ok (.iload 4, 2) := zo_21 (by decide +kernel)
theorem dX8_howManyLead_7 : decode cX8_howManyLead 7 = .ok (.aload_n 0, 1) := zo_42 (by decide +kernel)
theorem dX8_howManyLead_8 : decode cX8_howManyLead 8 = .ok (.iload_n 1, 1) := zo_27 (by decide +kernel)
theorem dX8_howManyLead_9 : decode cX8_howManyLead 9 = .ok (.invokevirtual 15, 3) := zo_182 (by decide +kernel)
theorem dX8_howManyLead_12 : decode cX8_howManyLead 12 = .ok (.if_icmp .ge 28, 3) := zo_162 (by decide +kernel)
theorem dX8_howManyLead_15 : decode cX8_howManyLead 15 = .ok (.iload_n 3, 1) := zo_29 (by decide +kernel)
theorem dX8_howManyLead_16 : decode cX8_howManyLead 16 = .ok (.aload_n 0, 1) := zo_42 (by decide +kernel)
theorem dX8_howManyLead_17 : decode cX8_howManyLead 17 = .ok (.iload_n 1, 1) := zo_27 (by decide +kernel)
theorem dX8_howManyLead_18 : decode cX8_howManyLead 18 = .ok (.iload 4, 2) := zo_21 (by decide +kernel)
theorem dX8_howManyLead_20 : decode cX8_howManyLead 20 = .ok (.invokevirtual 19, 3) := zo_182 (by decide +kernel)
theorem dX8_howManyLead_23 : decode cX8_howManyLead 23 = .ok (.iload_n 2, 1) := zo_28 (by decide +kernel)
theorem dX8_howManyLead_24 : decode cX8_howManyLead 24 = .ok (.if_icmp .ne 7, 3) := zo_160 (by decide +kernel)
theorem dX8_howManyLead_27 : decode cX8_howManyLead 27 = .ok (.iconst 1, 1) := zo_4 (by decide +kernel)
theorem dX8_howManyLead_28 : decode cX8_howManyLead 28 = .ok (.goto 4, 3) := zo_167 (by decide +kernel)
theorem dX8_howManyLead_31 : decode cX8_howManyLead 31 = .ok (.iconst 0, 1) := zo_3 (by decide +kernel)
theorem dX8_howManyLead_32 : decode cX8_howManyLead 32 = .ok (.iadd, 1) := zo_96 (by decide +kernel)
theorem dX8_howManyLead_33 : decode cX8_howManyLead 33 = .ok (.istore_n 3, 1) := zo_62 (by decide +kernel)
theorem dX8_howManyLead_34 : decode cX8_howManyLead 34 = .ok (.iinc 4 1, 3) := zo_132 (by decide +kernel)
theorem dX8_howManyLead_37 : decode cX8_howManyLead 37 = .ok (.goto (-32), 3) := zo_167 (by decide +kernel)
theorem dX8_howManyLead_40 : decode cX8_howManyLead 40 = .ok (.iload_n 3, 1) := zo_29 (by decide +kernel)
theorem dX8_howManyLead_41 : decode cX8_howManyLead 41 = .ok (.ireturn, 1) := zo_172 (by decide +kernel)
theorem dX8_howManyLeadTo_0 : decode cX8_howManyLeadTo 0 = .ok (.iconst 0, 1) := zo_3 (by decide +kernel)
theorem dX8_howManyLeadTo_1 : decode cX8_howManyLeadTo 1 = .ok (.istore_n 2, 1) := zo_61 (by decide +kernel)
theorem dX8_howManyLeadTo_2 : decode cX8_howManyLeadTo 2 = .ok (.iconst 0, 1) := zo_3 (by decide +kernel)
theorem dX8_howManyLeadTo_3 : decode cX8_howManyLeadTo 3 = .ok (.istore_n 3, 1) := zo_62 (by decide +kernel)
theorem dX8_howManyLeadTo_4 : decode cX8_howManyLeadTo 4 = .ok (.iload_n 3, 1) := zo_29 (by decide +kernel)
theorem dX8_howManyLeadTo_5 : decode cX8_howManyLeadTo 5 = .ok (.aload_n 0, 1) := zo_42 (by decide +kernel)
theorem dX8_howManyLeadTo_6 : decode cX8_howManyLeadTo 6 = .ok (.getfield 9, 3) := zo_180 (by decide +kernel)
theorem dX8_howManyLeadTo_9 : decode cX8_howManyLeadTo 9 = .ok (.if_icmp .ge 18, 3) := zo_162 (by decide +kernel)
theorem dX8_howManyLeadTo_12 : decode cX8_howManyLeadTo 12 = .ok (.iload_n 2, 1) := zo_28 (by decide +kernel)
theorem dX8_howManyLeadTo_13 : decode cX8_howManyLeadTo 13 = .ok (.aload_n 0, 1) := zo_42 (by decide +kernel)
theorem dX8_howManyLeadTo_14 : decode cX8_howManyLeadTo 14 = .ok (.iload_n 3, 1) := zo_29 (by decide +kernel)
theorem dX8_howManyLeadTo_15 : decode cX8_howManyLeadTo 15 = .ok (.iload_n 1, 1) := zo_27 (by decide +kernel)
theorem dX8_howManyLeadTo_16 : decode cX8_howManyLeadTo 16 = .ok (.invokestatic 52, 3) := zo_184 (by decide +kernel)
theorem dX8_howManyLeadTo_19 : decode cX8_howManyLeadTo 19 = .ok (.iadd, 1) := zo_96 (by decide +kernel)
theorem dX8_howManyLeadTo_20 : decode cX8_howManyLeadTo 20 = .ok (.istore_n 2, 1) := zo_61 (by decide +kernel)
theorem dX8_howManyLeadTo_21 : decode cX8_howManyLeadTo 21 = .ok (.iinc 3 1, 3) := zo_132 (by decide +kernel)
theorem dX8_howManyLeadTo_24 : decode cX8_howManyLeadTo 24 = .ok (.goto (-20), 3) := zo_167 (by decide +kernel)
theorem dX8_howManyLeadTo_27 : decode cX8_howManyLeadTo 27 = .ok (.iload_n 2, 1) := zo_28 (by decide +kernel)
theorem dX8_howManyLeadTo_28 : decode cX8_howManyLeadTo 28 = .ok (.ireturn, 1) := zo_172 (by decide +kernel)
theorem dX8_heads_0 : decode cX8_heads 0 = .ok (.iconst 0, 1) := zo_3 (by decide +kernel)
theorem dX8_heads_1 : decode cX8_heads 1 = .ok (.istore_n 1, 1) := zo_60 (by decide +kernel)
theorem dX8_heads_2 : decode cX8_heads 2 = .ok (.iconst 0, 1) := zo_3 (by decide +kernel)
theorem dX8_heads_3 : decode cX8_heads 3 = .ok (.istore_n 2, 1) := zo_61 (by decide +kernel)
theorem dX8_heads_4 : decode cX8_heads 4 = .ok (.iload_n 2, 1) := zo_28 (by decide +kernel)
theorem dX8_heads_5 : decode cX8_heads 5 = .ok (.aload_n 0, 1) := zo_42 (by decide +kernel)
theorem dX8_heads_6 : decode cX8_heads 6 = .ok (.getfield 9, 3) := zo_180 (by decide +kernel)
theorem dX8_heads_9 : decode cX8_heads 9 = .ok (.if_icmp .ge 25, 3) := zo_162 (by decide +kernel)
theorem dX8_heads_12 : decode cX8_heads 12 = .ok (.iload_n 1, 1) := zo_27 (by decide +kernel)
theorem dX8_heads_13 : decode cX8_heads 13 = .ok (.aload_n 0, 1) := zo_42 (by decide +kernel)
theorem dX8_heads_14 : decode cX8_heads 14 = .ok (.iconst 1, 1) := zo_4 (by decide +kernel)
theorem dX8_heads_15 : decode cX8_heads 15 = .ok (.iload_n 2, 1) := zo_28 (by decide +kernel)
theorem dX8_heads_16 : decode cX8_heads 16 = .ok (.ishl, 1) := zo_120 (by decide +kernel)
theorem dX8_heads_17 : decode cX8_heads 17 = .ok (.invokestatic 23, 3) := zo_184 (by decide +kernel)
theorem dX8_heads_20 : decode cX8_heads 20 = .ok (.iconst 1, 1) := zo_4 (by decide +kernel)
theorem dX8_heads_21 : decode cX8_heads 21 = .ok (.iload_n 2, 1) := zo_28 (by decide +kernel)
theorem dX8_heads_22 : decode cX8_heads 22 = .ok (.ishl, 1) := zo_120 (by decide +kernel)
theorem dX8_heads_23 : decode cX8_heads 23 = .ok (.iconst (-1), 1) := zo_2 (by decide +kernel)
theorem dX8_heads_24 : decode cX8_heads 24 = .ok (.ixor, 1) := zo_130 (by decide +kernel)
theorem dX8_heads_25 : decode cX8_heads 25 = .ok (.iand, 1) := zo_126 (by decide +kernel)
theorem dX8_heads_26 : decode cX8_heads 26 = .ok (.ior, 1) := zo_128 (by decide +kernel)
theorem dX8_heads_27 : decode cX8_heads 27 = .ok (.istore_n 1, 1) := zo_60 (by decide +kernel)
theorem dX8_heads_28 : decode cX8_heads 28 = .ok (.iinc 2 1, 3) := zo_132 (by decide +kernel)
theorem dX8_heads_31 : decode cX8_heads 31 = .ok (.goto (-27), 3) := zo_167 (by decide +kernel)
theorem dX8_heads_34 : decode cX8_heads 34 = .ok (.iload_n 1, 1) := zo_27 (by decide +kernel)
theorem dX8_heads_35 : decode cX8_heads 35 = .ok (.iconst (-1), 1) := zo_2 (by decide +kernel)
theorem dX8_heads_36 : decode cX8_heads 36 = .ok (.ixor, 1) := zo_130 (by decide +kernel)
theorem dX8_heads_37 : decode cX8_heads 37 = .ok (.iconst 1, 1) := zo_4 (by decide +kernel)
theorem dX8_heads_38 : decode cX8_heads 38 = .ok (.aload_n 0, 1) := zo_42 (by decide +kernel)
theorem dX8_heads_39 : decode cX8_heads 39 = .ok (.getfield 9, 3) := zo_180 (by decide +kernel)
theorem dX8_heads_42 : decode cX8_heads 42 = .ok (.ishl, 1) := zo_120 (by decide +kernel)
theorem dX8_heads_43 : decode cX8_heads 43 = .ok (.iconst 1, 1) := zo_4 (by decide +kernel)
theorem dX8_heads_44 : decode cX8_heads 44 = .ok (.isub, 1) := zo_100 (by decide +kernel)
theorem dX8_heads_45 : decode cX8_heads 45 = .ok (.iand, 1) := zo_126 (by decide +kernel)
theorem dX8_heads_46 : decode cX8_heads 46 = .ok (.ireturn, 1) := zo_172 (by decide +kernel)
theorem dX8_ends_0 : decode cX8_ends 0 = .ok (.iconst 0, 1) := zo_3 (by decide +kernel)
theorem dX8_ends_1 : decode cX8_ends 1 = .ok (.istore_n 1, 1) := zo_60 (by decide +kernel)
theorem dX8_ends_2 : decode cX8_ends 2 = .ok (.iconst 0, 1) := zo_3 (by decide +kernel)
theorem dX8_ends_3 : decode cX8_ends 3 = .ok (.istore_n 2, 1) := zo_61 (by decide +kernel)
theorem dX8_ends_4 : decode cX8_ends 4 = .ok (.iload_n 2, 1) := zo_28 (by decide +kernel)
theorem dX8_ends_5 : decode cX8_ends 5 = .ok (.aload_n 0, 1) := zo_42 (by decide +kernel)
theorem dX8_ends_6 : decode cX8_ends 6 = .ok (.getfield 9, 3) := zo_180 (by decide +kernel)
theorem dX8_ends_9 : decode cX8_ends 9 = .ok (.if_icmp .ge 35, 3) := zo_162 (by decide +kernel)
theorem dX8_ends_12 : decode cX8_ends 12 = .ok (.iload_n 1, 1) := zo_27 (by decide +kernel)
theorem dX8_ends_13 : decode cX8_ends 13 = .ok (.aload_n 0, 1) := zo_42 (by decide +kernel)
theorem dX8_ends_14 : decode cX8_ends 14 = .ok (.iload_n 2, 1) := zo_28 (by decide +kernel)
theorem dX8_ends_15 : decode cX8_ends 15 = .ok (.invokevirtual 15, 3) := zo_182 (by decide +kernel)
theorem dX8_ends_18 : decode cX8_ends 18 = .ok (.ifCond .ne 17, 3) := zo_154 (by decide +kernel)
theorem dX8_ends_21 : decode cX8_ends 21 = .ok (.aload_n 0, 1) := zo_42 (by decide +kernel)
theorem dX8_ends_22 : decode cX8_ends 22 = .ok (.iload_n 2, 1) := zo_28 (by decide +kernel)
theorem dX8_ends_23 : decode cX8_ends 23 = .ok (.invokevirtual 48, 3) := zo_182 (by decide +kernel)
theorem dX8_ends_26 : decode cX8_ends 26 = .ok (.ifCond .ne 9, 3) := zo_154 (by decide +kernel)
theorem dX8_ends_29 : decode cX8_ends 29 = .ok (.iconst 1, 1) := zo_4 (by decide +kernel)
theorem dX8_ends_30 : decode cX8_ends 30 = .ok (.iload_n 2, 1) := zo_28 (by decide +kernel)
theorem dX8_ends_31 : decode cX8_ends 31 = .ok (.ishl, 1) := zo_120 (by decide +kernel)
theorem dX8_ends_32 : decode cX8_ends 32 = .ok (.goto 4, 3) := zo_167 (by decide +kernel)
theorem dX8_ends_35 : decode cX8_ends 35 = .ok (.iconst 0, 1) := zo_3 (by decide +kernel)
theorem dX8_ends_36 : decode cX8_ends 36 = .ok (.ior, 1) := zo_128 (by decide +kernel)
theorem dX8_ends_37 : decode cX8_ends 37 = .ok (.istore_n 1, 1) := zo_60 (by decide +kernel)
theorem dX8_ends_38 : decode cX8_ends 38 = .ok (.iinc 2 1, 3) := zo_132 (by decide +kernel)
theorem dX8_ends_41 : decode cX8_ends 41 = .ok (.goto (-37), 3) := zo_167 (by decide +kernel)
theorem dX8_ends_44 : decode cX8_ends 44 = .ok (.iload_n 1, 1) := zo_27 (by decide +kernel)
theorem dX8_ends_45 : decode cX8_ends 45 = .ok (.ireturn, 1) := zo_172 (by decide +kernel)
theorem dX8_loops_0 : decode cX8_loops 0 = .ok (.iconst 0, 1) := zo_3 (by decide +kernel)
theorem dX8_loops_1 : decode cX8_loops 1 = .ok (.istore_n 1, 1) := zo_60 (by decide +kernel)
theorem dX8_loops_2 : decode cX8_loops 2 = .ok (.iconst 0, 1) := zo_3 (by decide +kernel)
theorem dX8_loops_3 : decode cX8_loops 3 = .ok (.istore_n 2, 1) := zo_61 (by decide +kernel)
theorem dX8_loops_4 : decode cX8_loops 4 = .ok (.iload_n 2, 1) := zo_28 (by decide +kernel)
theorem dX8_loops_5 : decode cX8_loops 5 = .ok (.aload_n 0, 1) := zo_42 (by decide +kernel)
theorem dX8_loops_6 : decode cX8_loops 6 = .ok (.getfield 9, 3) := zo_180 (by decide +kernel)
theorem dX8_loops_9 : decode cX8_loops 9 = .ok (.if_icmp .ge 18, 3) := zo_162 (by decide +kernel)
theorem dX8_loops_12 : decode cX8_loops 12 = .ok (.iload_n 1, 1) := zo_27 (by decide +kernel)
theorem dX8_loops_13 : decode cX8_loops 13 = .ok (.aload_n 0, 1) := zo_42 (by decide +kernel)
theorem dX8_loops_14 : decode cX8_loops 14 = .ok (.iload_n 2, 1) := zo_28 (by decide +kernel)
theorem dX8_loops_15 : decode cX8_loops 15 = .ok (.iload_n 2, 1) := zo_28 (by decide +kernel)
theorem dX8_loops_16 : decode cX8_loops 16 = .ok (.invokestatic 52, 3) := zo_184 (by decide +kernel)
theorem dX8_loops_19 : decode cX8_loops 19 = .ok (.iadd, 1) := zo_96 (by decide +kernel)
theorem dX8_loops_20 : decode cX8_loops 20 = .ok (.istore_n 1, 1) := zo_60 (by decide +kernel)
theorem dX8_loops_21 : decode cX8_loops 21 = .ok (.iinc 2 1, 3) := zo_132 (by decide +kernel)
theorem dX8_loops_24 : decode cX8_loops 24 = .ok (.goto (-20), 3) := zo_167 (by decide +kernel)
theorem dX8_loops_27 : decode cX8_loops 27 = .ok (.iload_n 1, 1) := zo_27 (by decide +kernel)
theorem dX8_loops_28 : decode cX8_loops 28 = .ok (.ireturn, 1) := zo_172 (by decide +kernel)
theorem dX8_doubles_0 : decode cX8_doubles 0 = .ok (.iconst 0, 1) := zo_3 (by decide +kernel)
theorem dX8_doubles_1 : decode cX8_doubles 1 = .ok (.istore_n 1, 1) := zo_60 (by decide +kernel)
theorem dX8_doubles_2 : decode cX8_doubles 2 = .ok (.iconst 0, 1) := zo_3 (by decide +kernel)
theorem dX8_doubles_3 : decode cX8_doubles 3 = .ok (.istore_n 2, 1) := zo_61 (by decide +kernel)
theorem dX8_doubles_4 : decode cX8_doubles 4 = .ok (.iload_n 2, 1) := zo_28 (by decide +kernel)
theorem dX8_doubles_5 : decode cX8_doubles 5 = .ok (.aload_n 0, 1) := zo_42 (by decide +kernel)
theorem dX8_doubles_6 : decode cX8_doubles 6 = .ok (.getfield 9, 3) := zo_180 (by decide +kernel)
theorem dX8_doubles_9 : decode cX8_doubles 9 = .ok (.if_icmp .ge 45, 3) := zo_162 (by decide +kernel)
theorem dX8_doubles_12 : decode cX8_doubles 12 = .ok (.iconst 0, 1) := zo_3 (by decide +kernel)
theorem dX8_doubles_13 : decode cX8_doubles 13 = .ok (.istore_n 3, 1) := zo_62 (by decide +kernel)
theorem dX8_doubles_14 : decode cX8_doubles 14 = .ok (.iload_n 3, 1) := zo_29 (by decide +kernel)
theorem dX8_doubles_15 : decode cX8_doubles 15 = .ok (.aload_n 0, 1) := zo_42 (by decide +kernel)
theorem dX8_doubles_16 : decode cX8_doubles 16 = .ok (.getfield 9, 3) := zo_180 (by decide +kernel)
theorem dX8_doubles_19 : decode cX8_doubles 19 = .ok (.if_icmp .ge 29, 3) := zo_162 (by decide +kernel)
theorem dX8_doubles_22 : decode cX8_doubles 22 = .ok (.aload_n 0, 1) := zo_42 (by decide +kernel)
theorem dX8_doubles_23 : decode cX8_doubles 23 = .ok (.iload_n 2, 1) := zo_28 (by decide +kernel)
theorem dX8_doubles_24 : decode cX8_doubles 24 = .ok (.iload_n 3, 1) := zo_29 (by decide +kernel)
theorem dX8_doubles_25 : decode cX8_doubles 25 = .ok (.invokestatic 52, 3) := zo_184 (by decide +kernel)
theorem dX8_doubles_28 : decode cX8_doubles 28 = .ok (.istore 4, 2) := zo_54 (by decide +kernel)
theorem dX8_doubles_30 : decode cX8_doubles 30 = .ok (.iload_n 1, 1) := zo_27 (by decide +kernel)
theorem dX8_doubles_31 : decode cX8_doubles 31 = .ok (.iload 4, 2) := zo_21 (by decide +kernel)
theorem dX8_doubles_33 : decode cX8_doubles 33 = .ok (.iload 4, 2) := zo_21 (by decide +kernel)
theorem dX8_doubles_35 : decode cX8_doubles 35 = .ok (.iconst 1, 1) := zo_4 (by decide +kernel)
theorem dX8_doubles_36 : decode cX8_doubles 36 = .ok (.isub, 1) := zo_100 (by decide +kernel)
theorem dX8_doubles_37 : decode cX8_doubles 37 = .ok (.imul, 1) := zo_104 (by decide +kernel)
theorem dX8_doubles_38 : decode cX8_doubles 38 = .ok (.iconst 2, 1) := zo_5 (by decide +kernel)
theorem dX8_doubles_39 : decode cX8_doubles 39 = .ok (.idiv, 1) := zo_108 (by decide +kernel)
theorem dX8_doubles_40 : decode cX8_doubles 40 = .ok (.iadd, 1) := zo_96 (by decide +kernel)
theorem dX8_doubles_41 : decode cX8_doubles 41 = .ok (.istore_n 1, 1) := zo_60 (by decide +kernel)
theorem dX8_doubles_42 : decode cX8_doubles 42 = .ok (.iinc 3 1, 3) := zo_132 (by decide +kernel)
theorem dX8_doubles_45 : decode cX8_doubles 45 = .ok (.goto (-31), 3) := zo_167 (by decide +kernel)
theorem dX8_doubles_48 : decode cX8_doubles 48 = .ok (.iinc 2 1, 3) := zo_132 (by decide +kernel)
theorem dX8_doubles_51 : decode cX8_doubles 51 = .ok (.goto (-47), 3) := zo_167 (by decide +kernel)
theorem dX8_doubles_54 : decode cX8_doubles 54 = .ok (.iload_n 1, 1) := zo_27 (by decide +kernel)
theorem dX8_doubles_55 : decode cX8_doubles 55 = .ok (.ireturn, 1) := zo_172 (by decide +kernel)
theorem dX8_even_0 : decode cX8_even 0 = .ok (.iconst 0, 1) := zo_3 (by decide +kernel)
theorem dX8_even_1 : decode cX8_even 1 = .ok (.istore_n 1, 1) := zo_60 (by decide +kernel)
theorem dX8_even_2 : decode cX8_even 2 = .ok (.iconst 0, 1) := zo_3 (by decide +kernel)
theorem dX8_even_3 : decode cX8_even 3 = .ok (.istore_n 2, 1) := zo_61 (by decide +kernel)
theorem dX8_even_4 : decode cX8_even 4 = .ok (.iload_n 2, 1) := zo_28 (by decide +kernel)
theorem dX8_even_5 : decode cX8_even 5 = .ok (.aload_n 0, 1) := zo_42 (by decide +kernel)
theorem dX8_even_6 : decode cX8_even 6 = .ok (.getfield 9, 3) := zo_180 (by decide +kernel)
theorem dX8_even_9 : decode cX8_even 9 = .ok (.if_icmp .ge 32, 3) := zo_162 (by decide +kernel)
theorem dX8_even_12 : decode cX8_even 12 = .ok (.iload_n 1, 1) := zo_27 (by decide +kernel)
theorem dX8_even_13 : decode cX8_even 13 = .ok (.aload_n 0, 1) := zo_42 (by decide +kernel)
theorem dX8_even_14 : decode cX8_even 14 = .ok (.iload_n 2, 1) := zo_28 (by decide +kernel)
theorem dX8_even_15 : decode cX8_even 15 = .ok (.invokestatic 56, 3) := zo_184 (by decide +kernel)
theorem dX8_even_18 : decode cX8_even 18 = .ok (.aload_n 0, 1) := zo_42 (by decide +kernel)
theorem dX8_even_19 : decode cX8_even 19 = .ok (.iload_n 2, 1) := zo_28 (by decide +kernel)
theorem dX8_even_20 : decode cX8_even 20 = .ok (.invokevirtual 15, 3) := zo_182 (by decide +kernel)
theorem dX8_even_23 : decode cX8_even 23 = .ok (.if_icmp .ne 9, 3) := zo_160 (by decide +kernel)
theorem dX8_even_26 : decode cX8_even 26 = .ok (.iconst 1, 1) := zo_4 (by decide +kernel)
theorem dX8_even_27 : decode cX8_even 27 = .ok (.iload_n 2, 1) := zo_28 (by decide +kernel)
theorem dX8_even_28 : decode cX8_even 28 = .ok (.ishl, 1) := zo_120 (by decide +kernel)
theorem dX8_even_29 : decode cX8_even 29 = .ok (.goto 4, 3) := zo_167 (by decide +kernel)
theorem dX8_even_32 : decode cX8_even 32 = .ok (.iconst 0, 1) := zo_3 (by decide +kernel)
theorem dX8_even_33 : decode cX8_even 33 = .ok (.ior, 1) := zo_128 (by decide +kernel)
theorem dX8_even_34 : decode cX8_even 34 = .ok (.istore_n 1, 1) := zo_60 (by decide +kernel)
theorem dX8_even_35 : decode cX8_even 35 = .ok (.iinc 2 1, 3) := zo_132 (by decide +kernel)
theorem dX8_even_38 : decode cX8_even 38 = .ok (.goto (-34), 3) := zo_167 (by decide +kernel)
theorem dX8_even_41 : decode cX8_even 41 = .ok (.iload_n 1, 1) := zo_27 (by decide +kernel)
theorem dX8_even_42 : decode cX8_even 42 = .ok (.ireturn, 1) := zo_172 (by decide +kernel)
theorem dX8_busy_0 : decode cX8_busy 0 = .ok (.iconst (-1), 1) := zo_2 (by decide +kernel)
theorem dX8_busy_1 : decode cX8_busy 1 = .ok (.istore_n 1, 1) := zo_60 (by decide +kernel)
theorem dX8_busy_2 : decode cX8_busy 2 = .ok (.iconst (-1), 1) := zo_2 (by decide +kernel)
theorem dX8_busy_3 : decode cX8_busy 3 = .ok (.istore_n 2, 1) := zo_61 (by decide +kernel)
theorem dX8_busy_4 : decode cX8_busy 4 = .ok (.iconst 0, 1) := zo_3 (by decide +kernel)
theorem dX8_busy_5 : decode cX8_busy 5 = .ok (.istore_n 3, 1) := zo_62 (by decide +kernel)
theorem dX8_busy_6 : decode cX8_busy 6 = .ok (.iload_n 3, 1) := zo_29 (by decide +kernel)
theorem dX8_busy_7 : decode cX8_busy 7 = .ok (.aload_n 0, 1) := zo_42 (by decide +kernel)
theorem dX8_busy_8 : decode cX8_busy 8 = .ok (.getfield 9, 3) := zo_180 (by decide +kernel)
theorem dX8_busy_11 : decode cX8_busy 11 = .ok (.if_icmp .ge 27, 3) := zo_162 (by decide +kernel)
theorem dX8_busy_14 : decode cX8_busy 14 = .ok (.aload_n 0, 1) := zo_42 (by decide +kernel)
theorem dX8_busy_15 : decode cX8_busy 15 = .ok (.iload_n 3, 1) := zo_29 (by decide +kernel)
theorem dX8_busy_16 : decode cX8_busy 16 = .ok (.invokestatic 56, 3) := zo_184 (by decide +kernel)
theorem dX8_busy_19 : decode cX8_busy 19 = .ok (.istore 4, 2) := zo_54 (by decide +kernel)
theorem dX8_busy_21 : decode cX8_busy 21 = .ok (.iload 4, 2) := zo_21 (by decide +kernel)
theorem dX8_busy_23 : decode cX8_busy 23 = .ok (.iload_n 2, 1) := zo_28 (by decide +kernel)
theorem dX8_busy_24 : decode cX8_busy 24 = .ok (.if_icmp .le 8, 3) := zo_164 (by decide +kernel)
theorem dX8_busy_27 : decode cX8_busy 27 = .ok (.iload 4, 2) := zo_21 (by decide +kernel)
theorem dX8_busy_29 : decode cX8_busy 29 = .ok (.istore_n 2, 1) := zo_61 (by decide +kernel)
theorem dX8_busy_30 : decode cX8_busy 30 = .ok (.iload_n 3, 1) := zo_29 (by decide +kernel)
theorem dX8_busy_31 : decode cX8_busy 31 = .ok (.istore_n 1, 1) := zo_60 (by decide +kernel)
theorem dX8_busy_32 : decode cX8_busy 32 = .ok (.iinc 3 1, 3) := zo_132 (by decide +kernel)
theorem dX8_busy_35 : decode cX8_busy 35 = .ok (.goto (-29), 3) := zo_167 (by decide +kernel)
theorem dX8_busy_38 : decode cX8_busy 38 = .ok (.iload_n 1, 1) := zo_27 (by decide +kernel)
theorem dX8_busy_39 : decode cX8_busy 39 = .ok (.ireturn, 1) := zo_172 (by decide +kernel)
theorem dJ6_bitCount_0f7a4_0 : decode cJ6_bitCount_0f7a4 0 = .ok (.iload_n 0, 1) := zo_26 (by decide +kernel)
theorem dJ6_bitCount_0f7a4_1 : decode cJ6_bitCount_0f7a4 1 = .ok (.iload_n 0, 1) := zo_26 (by decide +kernel)
theorem dJ6_bitCount_0f7a4_2 : decode cJ6_bitCount_0f7a4 2 = .ok (.iconst 1, 1) := zo_4 (by decide +kernel)
theorem dJ6_bitCount_0f7a4_3 : decode cJ6_bitCount_0f7a4 3 = .ok (.iushr, 1) := zo_124 (by decide +kernel)
theorem dJ6_bitCount_0f7a4_4 : decode cJ6_bitCount_0f7a4 4 = .ok (.ldc_w 265, 3) := zo_19 (by decide +kernel)
theorem dJ6_bitCount_0f7a4_7 : decode cJ6_bitCount_0f7a4 7 = .ok (.iand, 1) := zo_126 (by decide +kernel)
theorem dJ6_bitCount_0f7a4_8 : decode cJ6_bitCount_0f7a4 8 = .ok (.isub, 1) := zo_100 (by decide +kernel)
theorem dJ6_bitCount_0f7a4_9 : decode cJ6_bitCount_0f7a4 9 = .ok (.istore_n 0, 1) := zo_59 (by decide +kernel)
theorem dJ6_bitCount_0f7a4_10 : decode cJ6_bitCount_0f7a4 10 = .ok (.iload_n 0, 1) := zo_26 (by decide +kernel)
theorem dJ6_bitCount_0f7a4_11 : decode cJ6_bitCount_0f7a4 11 = .ok (.ldc_w 266, 3) := zo_19 (by decide +kernel)
theorem dJ6_bitCount_0f7a4_14 : decode cJ6_bitCount_0f7a4 14 = .ok (.iand, 1) := zo_126 (by decide +kernel)
theorem dJ6_bitCount_0f7a4_15 : decode cJ6_bitCount_0f7a4 15 = .ok (.iload_n 0, 1) := zo_26 (by decide +kernel)
theorem dJ6_bitCount_0f7a4_16 : decode cJ6_bitCount_0f7a4 16 = .ok (.iconst 2, 1) := zo_5 (by decide +kernel)
theorem dJ6_bitCount_0f7a4_17 : decode cJ6_bitCount_0f7a4 17 = .ok (.iushr, 1) := zo_124 (by decide +kernel)
theorem dJ6_bitCount_0f7a4_18 : decode cJ6_bitCount_0f7a4 18 = .ok (.ldc_w 266, 3) := zo_19 (by decide +kernel)
theorem dJ6_bitCount_0f7a4_21 : decode cJ6_bitCount_0f7a4 21 = .ok (.iand, 1) := zo_126 (by decide +kernel)
theorem dJ6_bitCount_0f7a4_22 : decode cJ6_bitCount_0f7a4 22 = .ok (.iadd, 1) := zo_96 (by decide +kernel)
theorem dJ6_bitCount_0f7a4_23 : decode cJ6_bitCount_0f7a4 23 = .ok (.istore_n 0, 1) := zo_59 (by decide +kernel)
theorem dJ6_bitCount_0f7a4_24 : decode cJ6_bitCount_0f7a4 24 = .ok (.iload_n 0, 1) := zo_26 (by decide +kernel)
theorem dJ6_bitCount_0f7a4_25 : decode cJ6_bitCount_0f7a4 25 = .ok (.iload_n 0, 1) := zo_26 (by decide +kernel)
theorem dJ6_bitCount_0f7a4_26 : decode cJ6_bitCount_0f7a4 26 = .ok (.iconst 4, 1) := zo_7 (by decide +kernel)
theorem dJ6_bitCount_0f7a4_27 : decode cJ6_bitCount_0f7a4 27 = .ok (.iushr, 1) := zo_124 (by decide +kernel)
theorem dJ6_bitCount_0f7a4_28 : decode cJ6_bitCount_0f7a4 28 = .ok (.iadd, 1) := zo_96 (by decide +kernel)
theorem dJ6_bitCount_0f7a4_29 : decode cJ6_bitCount_0f7a4 29 = .ok (.ldc_w 267, 3) := zo_19 (by decide +kernel)
theorem dJ6_bitCount_0f7a4_32 : decode cJ6_bitCount_0f7a4 32 = .ok (.iand, 1) := zo_126 (by decide +kernel)
theorem dJ6_bitCount_0f7a4_33 : decode cJ6_bitCount_0f7a4 33 = .ok (.istore_n 0, 1) := zo_59 (by decide +kernel)
theorem dJ6_bitCount_0f7a4_34 : decode cJ6_bitCount_0f7a4 34 = .ok (.iload_n 0, 1) := zo_26 (by decide +kernel)
theorem dJ6_bitCount_0f7a4_35 : decode cJ6_bitCount_0f7a4 35 = .ok (.iload_n 0, 1) := zo_26 (by decide +kernel)
theorem dJ6_bitCount_0f7a4_36 : decode cJ6_bitCount_0f7a4 36 = .ok (.bipush 8, 2) := zo_16 (by decide +kernel)
theorem dJ6_bitCount_0f7a4_38 : decode cJ6_bitCount_0f7a4 38 = .ok (.iushr, 1) := zo_124 (by decide +kernel)
theorem dJ6_bitCount_0f7a4_39 : decode cJ6_bitCount_0f7a4 39 = .ok (.iadd, 1) := zo_96 (by decide +kernel)
theorem dJ6_bitCount_0f7a4_40 : decode cJ6_bitCount_0f7a4 40 = .ok (.istore_n 0, 1) := zo_59 (by decide +kernel)
theorem dJ6_bitCount_0f7a4_41 : decode cJ6_bitCount_0f7a4 41 = .ok (.iload_n 0, 1) := zo_26 (by decide +kernel)
theorem dJ6_bitCount_0f7a4_42 : decode cJ6_bitCount_0f7a4 42 = .ok (.iload_n 0, 1) := zo_26 (by decide +kernel)
theorem dJ6_bitCount_0f7a4_43 : decode cJ6_bitCount_0f7a4 43 = .ok (.bipush 16, 2) := zo_16 (by decide +kernel)
theorem dJ6_bitCount_0f7a4_45 : decode cJ6_bitCount_0f7a4 45 = .ok (.iushr, 1) := zo_124 (by decide +kernel)
theorem dJ6_bitCount_0f7a4_46 : decode cJ6_bitCount_0f7a4 46 = .ok (.iadd, 1) := zo_96 (by decide +kernel)
theorem dJ6_bitCount_0f7a4_47 : decode cJ6_bitCount_0f7a4 47 = .ok (.istore_n 0, 1) := zo_59 (by decide +kernel)
theorem dJ6_bitCount_0f7a4_48 : decode cJ6_bitCount_0f7a4 48 = .ok (.iload_n 0, 1) := zo_26 (by decide +kernel)
theorem dJ6_bitCount_0f7a4_49 : decode cJ6_bitCount_0f7a4 49 = .ok (.bipush 63, 2) := zo_16 (by decide +kernel)
theorem dJ6_bitCount_0f7a4_51 : decode cJ6_bitCount_0f7a4 51 = .ok (.iand, 1) := zo_126 (by decide +kernel)
theorem dJ6_bitCount_0f7a4_52 : decode cJ6_bitCount_0f7a4 52 = .ok (.ireturn, 1) := zo_172 (by decide +kernel)
theorem dX8_parts_0 : decode cX8_parts 0 = .ok (.iconst 0, 1) := zo_3 (by decide +kernel)
theorem dX8_parts_1 : decode cX8_parts 1 = .ok (.istore_n 2, 1) := zo_61 (by decide +kernel)
theorem dX8_parts_2 : decode cX8_parts 2 = .ok (.iconst 0, 1) := zo_3 (by decide +kernel)
theorem dX8_parts_3 : decode cX8_parts 3 = .ok (.istore_n 3, 1) := zo_62 (by decide +kernel)
theorem dX8_parts_4 : decode cX8_parts 4 = .ok (.iconst 0, 1) := zo_3 (by decide +kernel)
theorem dX8_parts_5 : decode cX8_parts 5 = .ok (.istore 4, 2) := zo_54 (by decide +kernel)
theorem dX8_parts_7 : decode cX8_parts 7 = .ok (.iload 4, 2) := zo_21 (by decide +kernel)
theorem dX8_parts_9 : decode cX8_parts 9 = .ok (.aload_n 0, 1) := zo_42 (by decide +kernel)
theorem dX8_parts_10 : decode cX8_parts 10 = .ok (.getfield 9, 3) := zo_180 (by decide +kernel)
theorem dX8_parts_13 : decode cX8_parts 13 = .ok (.if_icmp .ge 42, 3) := zo_162 (by decide +kernel)
theorem dX8_parts_16 : decode cX8_parts 16 = .ok (.aload_n 0, 1) := zo_42 (by decide +kernel)
theorem dX8_parts_17 : decode cX8_parts 17 = .ok (.iload 4, 2) := zo_21 (by decide +kernel)
theorem dX8_parts_19 : decode cX8_parts 19 = .ok (.invokestatic 32, 3) := zo_184 (by decide +kernel)
theorem dX8_parts_22 : decode cX8_parts 22 = .ok (.istore 5, 2) := zo_54 (by decide +kernel)
theorem dX8_parts_24 : decode cX8_parts 24 = .ok (.iload 5, 2) := zo_21 (by decide +kernel)
theorem dX8_parts_26 : decode cX8_parts 26 = .ok (.iconst 1, 1) := zo_4 (by decide +kernel)
theorem dX8_parts_27 : decode cX8_parts 27 = .ok (.iload 4, 2) := zo_21 (by decide +kernel)
theorem dX8_parts_29 : decode cX8_parts 29 = .ok (.ishl, 1) := zo_120 (by decide +kernel)
theorem dX8_parts_30 : decode cX8_parts 30 = .ok (.iconst 1, 1) := zo_4 (by decide +kernel)
theorem dX8_parts_31 : decode cX8_parts 31 = .ok (.isub, 1) := zo_100 (by decide +kernel)
theorem dX8_parts_32 : decode cX8_parts 32 = .ok (.iand, 1) := zo_126 (by decide +kernel)
theorem dX8_parts_33 : decode cX8_parts 33 = .ok (.ifCond .ne 6, 3) := zo_154 (by decide +kernel)
theorem dX8_parts_36 : decode cX8_parts 36 = .ok (.iinc 2 1, 3) := zo_132 (by decide +kernel)
theorem dX8_parts_39 : decode cX8_parts 39 = .ok (.iload_n 3, 1) := zo_29 (by decide +kernel)
theorem dX8_parts_40 : decode cX8_parts 40 = .ok (.iload 5, 2) := zo_21 (by decide +kernel)
theorem dX8_parts_42 : decode cX8_parts 42 = .ok (.invokestatic 35, 3) := zo_184 (by decide +kernel)
theorem dX8_parts_45 : decode cX8_parts 45 = .ok (.invokestatic 40, 3) := zo_184 (by decide +kernel)
theorem dX8_parts_48 : decode cX8_parts 48 = .ok (.istore_n 3, 1) := zo_62 (by decide +kernel)
theorem dX8_parts_49 : decode cX8_parts 49 = .ok (.iinc 4 1, 3) := zo_132 (by decide +kernel)
theorem dX8_parts_52 : decode cX8_parts 52 = .ok (.goto (-45), 3) := zo_167 (by decide +kernel)
theorem dX8_parts_55 : decode cX8_parts 55 = .ok (.iload_n 1, 1) := zo_27 (by decide +kernel)
theorem dX8_parts_56 : decode cX8_parts 56 = .ok (.ifCond .eq 7, 3) := zo_153 (by decide +kernel)
theorem dX8_parts_59 : decode cX8_parts 59 = .ok (.iload_n 3, 1) := zo_29 (by decide +kernel)
theorem dX8_parts_60 : decode cX8_parts 60 = .ok (.goto 4, 3) := zo_167 (by decide +kernel)
theorem dX8_parts_63 : decode cX8_parts 63 = .ok (.iload_n 2, 1) := zo_28 (by decide +kernel)
theorem dX8_parts_64 : decode cX8_parts 64 = .ok (.ireturn, 1) := zo_172 (by decide +kernel)
theorem dX8_ring_0 : decode cX8_ring 0 = .ok (.iload_n 1, 1) := zo_27 (by decide +kernel)
theorem dX8_ring_1 : decode cX8_ring 1 = .ok (.istore_n 2, 1) := zo_61 (by decide +kernel)
theorem dX8_ring_2 : decode cX8_ring 2 = .ok (.iconst 1, 1) := zo_4 (by decide +kernel)
theorem dX8_ring_3 : decode cX8_ring 3 = .ok (.istore_n 3, 1) := zo_62 (by decide +kernel)
theorem dX8_ring_4 : decode cX8_ring 4 = .ok (.iload_n 3, 1) := zo_29 (by decide +kernel)
theorem dX8_ring_5 : decode cX8_ring 5 = .ok (.bipush 7, 2) := zo_16 (by decide +kernel)
theorem dX8_ring_7 : decode cX8_ring 7 = .ok (.if_icmp .gt 40, 3) := zo_163 (by decide +kernel)
theorem dX8_ring_10 : decode cX8_ring 10 = .ok (.aload_n 0, 1) := zo_42 (by decide +kernel)
theorem dX8_ring_11 : decode cX8_ring 11 = .ok (.iload_n 2, 1) := zo_28 (by decide +kernel)
theorem dX8_ring_12 : decode cX8_ring 12 = .ok (.invokevirtual 59, 3) := zo_182 (by decide +kernel)
theorem dX8_ring_15 : decode cX8_ring 15 = .ok (.ifCond .eq 17, 3) := zo_153 (by decide +kernel)
theorem dX8_ring_18 : decode cX8_ring 18 = .ok (.aload_n 0, 1) := zo_42 (by decide +kernel)
theorem dX8_ring_19 : decode cX8_ring 19 = .ok (.iload_n 2, 1) := zo_28 (by decide +kernel)
theorem dX8_ring_20 : decode cX8_ring 20 = .ok (.aload_n 0, 1) := zo_42 (by decide +kernel)
theorem dX8_ring_21 : decode cX8_ring 21 = .ok (.getfield 62, 3) := zo_180 (by decide +kernel)
theorem dX8_ring_24 : decode cX8_ring 24 = .ok (.iload_n 2, 1) := zo_28 (by decide +kernel)
theorem dX8_ring_25 : decode cX8_ring 25 = .ok (.iaload, 1) := zo_46 (by decide +kernel)
theorem dX8_ring_26 : decode cX8_ring 26 = .ok (.invokevirtual 19, 3) := zo_182 (by decide +kernel)
theorem dX8_ring_29 : decode cX8_ring 29 = .ok (.goto 4, 3) := zo_167 (by decide +kernel)
theorem dX8_ring_32 : decode cX8_ring 32 = .ok (.iconst (-1), 1) := zo_2 (by decide +kernel)
theorem dX8_ring_33 : decode cX8_ring 33 = .ok (.istore_n 2, 1) := zo_61 (by decide +kernel)
theorem dX8_ring_34 : decode cX8_ring 34 = .ok (.iload_n 2, 1) := zo_28 (by decide +kernel)
theorem dX8_ring_35 : decode cX8_ring 35 = .ok (.iload_n 1, 1) := zo_27 (by decide +kernel)
theorem dX8_ring_36 : decode cX8_ring 36 = .ok (.if_icmp .ne 5, 3) := zo_160 (by decide +kernel)
theorem dX8_ring_39 : decode cX8_ring 39 = .ok (.iload_n 3, 1) := zo_29 (by decide +kernel)
theorem dX8_ring_40 : decode cX8_ring 40 = .ok (.ireturn, 1) := zo_172 (by decide +kernel)
theorem dX8_ring_41 : decode cX8_ring 41 = .ok (.iinc 3 1, 3) := zo_132 (by decide +kernel)
theorem dX8_ring_44 : decode cX8_ring 44 = .ok (.goto (-40), 3) := zo_167 (by decide +kernel)
theorem dX8_ring_47 : decode cX8_ring 47 = .ok (.iconst 0, 1) := zo_3 (by decide +kernel)
theorem dX8_ring_48 : decode cX8_ring 48 = .ok (.ireturn, 1) := zo_172 (by decide +kernel)

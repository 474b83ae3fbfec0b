def zNext (roads r : Int32) : Int32 := if r + 1 < roads then r + 1 else 0
def zTurnR (roads closed : Int32) : Nat → Int32 → Int32
  | 0, _ => -1
  | n + 1, r => if zBit closed (zNext roads r) = 0 then zNext roads r else zTurnR roads closed n (zNext roads r)
def zTurn (f1 f2 f3 : Nat → Int32) (x : Int32) : Int32 := if 0 ≤ x.toInt ∧ x.toInt < 7 then zTurnR (f3 x.toNatClampNeg) (f2 x.toNatClampNeg) (f3 x.toNatClampNeg).toNatClampNeg (f1 x.toNatClampNeg) else -1
def zPost (f1 f2 f3 : Nat → Int32) (x : Int32) : Nat → Int32 := if zTurn f1 f2 f3 x = -1 then f1 else upd f1 x.toNatClampNeg (zTurn f1 f2 f3 x)
/-- as many ways out as may be; a post points nowhere far -/
def zP3 (f1 f3 : Nat → Int32) : Prop := ∀ j, j < 7 → (0 ≤ (f3 j).toInt ∧ (f3 j).toInt ≤ 4) ∧ 0 ≤ (f1 j).toInt ∧ (f1 j).toInt ≤ 1000
theorem zTurnR_in {roads closed : Int32} (h0 : 0 ≤ roads.toInt) (h4 : roads.toInt ≤ 4) : ∀ (n : Nat) (r : Int32), (n : Int) ≤ roads.toInt → 0 ≤ r.toInt → r.toInt ≤ 1000 → zTurnR roads closed n r = -1 ∨ (0 ≤ (zTurnR roads closed n r).toInt ∧ (zTurnR roads closed n r).toInt ≤ 3)
  | 0, r, _, _, _ => Or.inl rfl
  | n + 1, r, hn, h1, h2 => by
    have e : (r + 1).toInt = r.toInt + 1 := z_iaddI (by show -2147483648 ≤ r.toInt + 1; omega) (by show r.toInt + 1 < 2147483648; omega)
    have hq : 0 ≤ (zNext roads r).toInt ∧ (zNext roads r).toInt ≤ 3 := by
      unfold zNext
      by_cases hc : r + 1 < roads
      · rw [if_pos hc]
        have hc2 := (fa_lt _ _).mp hc
        omega
      · rw [if_neg hc]
        exact ⟨by decide, by decide⟩
    rw [zTurnR]
    by_cases hb : zBit closed (zNext roads r) = 0
    · rw [if_pos hb]
      exact Or.inr hq
    · rw [if_neg hb]
      exact zTurnR_in h0 h4 n _ (by omega) hq.1 (by omega)
theorem zTurn_in {f1 f2 f3 : Nat → Int32} (hI : zP3 f1 f3) (x : Int32) : zTurn f1 f2 f3 x = -1 ∨ (0 ≤ x.toInt ∧ x.toInt < 7 ∧ 0 ≤ (zTurn f1 f2 f3 x).toInt ∧ (zTurn f1 f2 f3 x).toInt ≤ 3) := by
  unfold zTurn
  split
  · rename_i q
    have e := z_clI q.1
    have h := hI x.toNatClampNeg (by omega)
    have e2 := z_clI h.1.1
    rcases zTurnR_in (closed := f2 x.toNatClampNeg) h.1.1 h.1.2 (f3 x.toNatClampNeg).toNatClampNeg (f1 x.toNatClampNeg) (by omega) h.2.1 h.2.2 with g | g
    · exact Or.inl g
    · exact Or.inr ⟨q.1, q.2, g.1, g.2⟩
  · exact Or.inl rfl
theorem zPost_I {f1 f2 f3 : Nat → Int32} (hI : zP3 f1 f3) (x : Int32) : zP3 (zPost f1 f2 f3 x) f3 := by
  unfold zPost
  split
  · exact hI
  · rename_i q
    rcases zTurn_in (f2 := f2) hI x with g | g
    · exact absurd g q
    · intro j hj
      refine ⟨(hI j hj).1, ?_⟩
      unfold upd
      split
      · exact ⟨g.2.2.1, by omega⟩
      · exact (hI j hj).2
def zStep (f1 f2 f3 lf : Nat → Int32) (x : Int32) : Int32 := if zTurn f1 f2 f3 x = -1 then -1 else lf (4 * x.toNatClampNeg + (zTurn f1 f2 f3 x).toNatClampNeg)
theorem zStep_in {f1 f2 f3 lf : Nat → Int32} (hI : zP3 f1 f3) {x : Int32} (h : ¬ zStep f1 f2 f3 lf x = -1) : 0 ≤ x.toInt ∧ x.toInt < 7 ∧ zTurn f1 f2 f3 x ≠ -1 := by
  unfold zStep at h
  split at h
  · exact absurd rfl h
  · rename_i q
    rcases zTurn_in (f2 := f2) hI x with g | g
    · exact absurd g q
    · exact ⟨g.1, g.2.1, q⟩
/-- posts, where one is, how many steps: as many steps as may be -/
def zRunN (f2 f3 lf : Nat → Int32) : Nat → (Nat → Int32) → Int32 → Nat → (Nat → Int32) × Int32 × Nat
  | 0, f, x, k => (f, x, k)
  | n + 1, f, x, k => if zStep f f2 f3 lf x = -1 then (zPost f f2 f3 x, x, k) else zRunN f2 f3 lf n (zPost f f2 f3 x) (zStep f f2 f3 lf x) (k + 1)
theorem zRunN_I {f2 f3 lf : Nat → Int32} : ∀ (n : Nat) (f : Nat → Int32) (x : Int32) (k : Nat), zP3 f f3 → zP3 (zRunN f2 f3 lf n f x k).1 f3
  | 0, f, x, k, h => h
  | n + 1, f, x, k, h => by
    unfold zRunN
    split
    · exact zPost_I h x
    · exact zRunN_I n _ _ _ (zPost_I h x)
def zCode (f : Nat → Int32) : Nat → Int32
  | 0 => 0
  | n + 1 => zCode f n * 4 + f n
def zShut (cr : Int32) (lf1 f2 : Nat → Int32) (x y : Int32) : Nat → Int32 := if 0 ≤ x.toInt ∧ x.toInt < cr.toInt ∧ x.toInt < 7 ∧ 0 ≤ y.toInt ∧ y.toInt < (lf1 x.toNatClampNeg).toInt ∧ y.toInt < 4 then upd f2 x.toNatClampNeg (f2 x.toNatClampNeg ||| 1 <<< (y &&& 31)) else f2
def zOpen (cr : Int32) (lf1 f2 : Nat → Int32) (x y : Int32) : Nat → Int32 := if 0 ≤ x.toInt ∧ x.toInt < cr.toInt ∧ x.toInt < 7 ∧ 0 ≤ y.toInt ∧ y.toInt < (lf1 x.toNatClampNeg).toInt ∧ y.toInt < 4 then upd f2 x.toNatClampNeg (f2 x.toNatClampNeg &&& (1 <<< (y &&& 31) ^^^ (-1))) else f2
set_option maxHeartbeats 4000000 in
set_option maxRecDepth 100000 in
/-- begin -/
theorem c_Posts_begin (l : Launch) (T : zTy) (h : Nat) (la : Nat) (f1 : Nat → Int32) (f2 : Nat → Int32) (f3 : Nat → Int32) (st : Int32) (wh : Int32) (w : va_W) (o : Nat) (cr : Int32) (inn : Int32) (k1 : Nat → Int32) (k2 : Nat → Int32) (k3 : Nat → Int32) (k4 : Nat → Int32) (z : va_W) (hw : bPosts T h la f1 f2 f3 st wh w) (hz : bLand T o cr inn k1 k2 k3 k4 z) : zMv l T yX6_begin cX6_begin 3 3 0 0 [.ref h, .ref o] [w, z] (fun bs => ∃ (w2 : va_W) (g1 : Nat → Int32) (g2 : Nat → Int32) (g3 : Nat → Int32), bs = [w2, z] ∧ bPosts T h o g1 g2 g3 0 0 w2 ∧ (∀ j, j < 7 → g1 j = k3 j) ∧ (∀ j, j < 7 → g2 j = 0) ∧ (∀ j, j < 7 → g3 j = zWays cr inn k1 (nI j))) := by
  refine zMv_of (own := RX6) (by decide) rfl (Nat.le_of_ble_eq_true rfl) ?_
  intro p e s m args below meth c A ls C hr hlocks hnm hAe G hl
  have hx := C.1
  have hb := C.2.1
  have hl : lv_has ls 3 [(0, .ref h), (1, .ref o)] := hl
  refine lv_aload_n hx hb dX6_begin_0 rfl (lv_at hl 0 rfl) ?_
  refine lv_aload_n hx hb dX6_begin_1 rfl (lv_at hl 1 rfl) ?_
  obtain ⟨a1_1, a2_2, a3_3, rfl⟩ := hw
  have G : zS T A s.heap s [[(h, .inr (6, [.ref la, .ref a1_1, .ref a2_2, .int st, .int wh, .ref a3_3]))], [(a1_1, .inl (T.2 0, 7, .inl f1))], [(a2_2, .inl (T.2 0, 7, .inl f2))], [(a3_3, .inl (T.2 0, 7, .inl f3))], z] _ _ := G.re rfl
  refine z_put C G clX6 0 rfl 0 (by decide) m_fl_RX6_12 rfl rfl rfl (Nat.le_of_ble_eq_true rfl) dX6_begin_2 (fun H locs G => ?_)
  have G : zS T A s.heap s [[(h, .inr (6, [.ref o, .ref a1_1, .ref a2_2, .int st, .int wh, .ref a3_3]))], [(a1_1, .inl (T.2 0, 7, .inl f1))], [(a2_2, .inl (T.2 0, 7, .inl f2))], [(a3_3, .inl (T.2 0, 7, .inl f3))], z] _ _ := G
  refine lv_aload_n hx hb dX6_begin_5 rfl (lv_at hl 0 rfl) ?_
  refine lv_iconst (v := 0) hx hb dX6_begin_6 (by decide) ?_
  refine z_put C G clX6 0 rfl 3 (by decide) m_fl_RX6_28 rfl rfl rfl (Nat.le_of_ble_eq_true rfl) dX6_begin_7 (fun H locs G => ?_)
  have G : zS T A s.heap s [[(h, .inr (6, [.ref o, .ref a1_1, .ref a2_2, .int 0, .int wh, .ref a3_3]))], [(a1_1, .inl (T.2 0, 7, .inl f1))], [(a2_2, .inl (T.2 0, 7, .inl f2))], [(a3_3, .inl (T.2 0, 7, .inl f3))], z] _ _ := G
  refine lv_aload_n hx hb dX6_begin_10 rfl (lv_at hl 0 rfl) ?_
  refine lv_iconst (v := 0) hx hb dX6_begin_11 (by decide) ?_
  refine z_put C G clX6 0 rfl 4 (by decide) m_fl_RX6_32 rfl rfl rfl (Nat.le_of_ble_eq_true rfl) dX6_begin_12 (fun H locs G => ?_)
  have G : zS T A s.heap s [[(h, .inr (6, [.ref o, .ref a1_1, .ref a2_2, .int 0, .int 0, .ref a3_3]))], [(a1_1, .inl (T.2 0, 7, .inl f1))], [(a2_2, .inl (T.2 0, 7, .inl f2))], [(a3_3, .inl (T.2 0, 7, .inl f3))], z] _ _ := G
  refine lv_iconst (v := 0) hx hb dX6_begin_15 (by decide) ?_
  refine lv_istore_n (lv' := [(2, .int 0), (0, .ref h), (1, .ref o)]) hx hb dX6_begin_16 rfl hl (by decide) rfl (fun ls hl => ?_)
  obtain ⟨a1_4, a2_5, a3_6, a4_7, rfl⟩ := hz
  have G : zS T A s.heap s [[(h, .inr (6, [.ref o, .ref a1_1, .ref a2_2, .int 0, .int 0, .ref a3_3]))], [(a1_1, .inl (T.2 0, 7, .inl f1))], [(a2_2, .inl (T.2 0, 7, .inl f2))], [(a3_3, .inl (T.2 0, 7, .inl f3))], [(o, .inr (4, [.int cr, .int inn, .ref a1_4, .ref a2_5, .ref a3_6, .ref a4_7]))], [(a1_4, .inl (T.2 0, 7, .inl k1))], [(a2_5, .inl (T.2 0, 28, .inl k2))], [(a3_6, .inl (T.2 0, 7, .inl k3))], [(a4_7, .inl (T.2 0, 7, .inl k4))]] _ _ := G.re rfl
  have hw_8 : bPosts T h o f1 f2 f3 0 0 [(h, .inr (6, [.ref o, .ref a1_1, .ref a2_2, .int 0, .int 0, .ref a3_3])), (a1_1, .inl (T.2 0, 7, .inl f1)), (a2_2, .inl (T.2 0, 7, .inl f2)), (a3_3, .inl (T.2 0, 7, .inl f3))] := ⟨a1_1, a2_2, a3_3, rfl⟩
  have G : zS T A s.heap s [[(h, .inr (6, [.ref o, .ref a1_1, .ref a2_2, .int 0, .int 0, .ref a3_3])), (a1_1, .inl (T.2 0, 7, .inl f1)), (a2_2, .inl (T.2 0, 7, .inl f2)), (a3_3, .inl (T.2 0, 7, .inl f3))], [(o, .inr (4, [.int cr, .int inn, .ref a1_4, .ref a2_5, .ref a3_6, .ref a4_7]))], [(a1_4, .inl (T.2 0, 7, .inl k1))], [(a2_5, .inl (T.2 0, 28, .inl k2))], [(a3_6, .inl (T.2 0, 7, .inl k3))], [(a4_7, .inl (T.2 0, 7, .inl k4))]] _ _ := G.re rfl
  have hw_9 : bLand T o cr inn k1 k2 k3 k4 [(o, .inr (4, [.int cr, .int inn, .ref a1_4, .ref a2_5, .ref a3_6, .ref a4_7])), (a1_4, .inl (T.2 0, 7, .inl k1)), (a2_5, .inl (T.2 0, 28, .inl k2)), (a3_6, .inl (T.2 0, 7, .inl k3)), (a4_7, .inl (T.2 0, 7, .inl k4))] := ⟨a1_4, a2_5, a3_6, a4_7, rfl⟩
  have G : zS T A s.heap s [[(h, .inr (6, [.ref o, .ref a1_1, .ref a2_2, .int 0, .int 0, .ref a3_3])), (a1_1, .inl (T.2 0, 7, .inl f1)), (a2_2, .inl (T.2 0, 7, .inl f2)), (a3_3, .inl (T.2 0, 7, .inl f3))], [(o, .inr (4, [.int cr, .int inn, .ref a1_4, .ref a2_5, .ref a3_6, .ref a4_7])), (a1_4, .inl (T.2 0, 7, .inl k1)), (a2_5, .inl (T.2 0, 28, .inl k2)), (a3_6, .inl (T.2 0, 7, .inl k3)), (a4_7, .inl (T.2 0, 7, .inl k4))]] _ _ := G.re rfl
  refine z_loop (T := T) (α := Nat × va_W × (Nat → Int32) × (Nat → Int32) × (Nat → Int32)) 17 (fun (i, wq, x1, x2, x3) => [wq, [(o, .inr (4, [.int cr, .int inn, .ref a1_4, .ref a2_5, .ref a3_6, .ref a4_7])), (a1_4, .inl (T.2 0, 7, .inl k1)), (a2_5, .inl (T.2 0, 28, .inl k2)), (a3_6, .inl (T.2 0, 7, .inl k3)), (a4_7, .inl (T.2 0, 7, .inl k4))]]) (fun (i, wq, x1, x2, x3) => [(2, .int (nI i)), (0, .ref h), (1, .ref o)]) (fun (i, wq, x1, x2, x3) => bPosts T h o x1 x2 x3 0 0 wq ∧ i ≤ 7 ∧ (∀ j, j < i → x1 j = k3 j) ∧ (∀ j, j < i → x2 j = 0) ∧ (∀ j, j < i → x3 j = zWays cr inn k1 (nI j))) (fun (i, wq, x1, x2, x3) => 7 - i) ?_ (0, ([(h, .inr (6, [.ref o, .ref a1_1, .ref a2_2, .int 0, .int 0, .ref a3_3])), (a1_1, .inl (T.2 0, 7, .inl f1)), (a2_2, .inl (T.2 0, 7, .inl f2)), (a3_3, .inl (T.2 0, 7, .inl f3))]), f1, f2, f3) (show bPosts T h o f1 f2 f3 0 0 ([(h, .inr (6, [.ref o, .ref a1_1, .ref a2_2, .int 0, .int 0, .ref a3_3])), (a1_1, .inl (T.2 0, 7, .inl f1)), (a2_2, .inl (T.2 0, 7, .inl f2)), (a3_3, .inl (T.2 0, 7, .inl f3))]) ∧ 0 ≤ 7 ∧ (∀ j, j < 0 → f1 j = k3 j) ∧ (∀ j, j < 0 → f2 j = 0) ∧ (∀ j, j < 0 → f3 j = zWays cr inn k1 (nI j)) from ⟨hw_8, by omega, fun j hj => absurd hj (by omega), fun j hj => absurd hj (by omega), fun j hj => absurd hj (by omega)⟩) G (lv_sub hl [0, 1, 2] rfl)
  rintro ⟨i, wq, x1, x2, x3⟩ ⟨hq, hi, hx1, hx2, hx3⟩ ih_17 H locs ls G hl
  replace hq : bPosts T h o x1 x2 x3 0 0 wq := hq
  replace hi : i ≤ 7 := hi
  replace hx1 : (∀ j, j < i → x1 j = k3 j) := hx1
  replace hx2 : (∀ j, j < i → x2 j = 0) := hx2
  replace hx3 : (∀ j, j < i → x3 j = zWays cr inn k1 (nI j)) := hx3
  replace G : zS T A s.heap s [wq, [(o, .inr (4, [.int cr, .int inn, .ref a1_4, .ref a2_5, .ref a3_6, .ref a4_7])), (a1_4, .inl (T.2 0, 7, .inl k1)), (a2_5, .inl (T.2 0, 28, .inl k2)), (a3_6, .inl (T.2 0, 7, .inl k3)), (a4_7, .inl (T.2 0, 7, .inl k4))]] _ _ := G
  replace hl : lv_has ls 3 [(2, .int (nI i)), (0, .ref h), (1, .ref o)] := hl
  refine lv_iload_n hx hb dX6_begin_17 rfl (lv_at hl 0 rfl) ?_
  refine lv_bipush (v := 7) hx hb dX6_begin_18 (by decide) ?_
  refine lv_icmp_ge (tgt := 59) hx hb dX6_begin_20 (by decide) (fun c_10 => ?_) (fun c_10 => ?_)
  · have c_10n : 7 ≤ i := (nI_leI (a := 7) (b := i) (by omega) (by omega)).mp c_10
    exact z_vret C hr hlocks G (Nat.le_of_ble_eq_true rfl) (Nat.le_of_ble_eq_true rfl) dX6_begin_59 ⟨wq, x1, x2, x3, rfl, hq, (fun j hj => hx1 j (by omega)), (fun j hj => hx2 j (by omega)), (fun j hj => hx3 j (by omega))⟩
  · have c_10n : ¬ 7 ≤ i := fun q => c_10 ((nI_leI (a := 7) (b := i) (by omega) (by omega)).mpr q)
    refine lv_aload_n hx hb dX6_begin_23 rfl (lv_at hl 1 rfl) ?_
    obtain ⟨a1_11, a2_12, a3_13, rfl⟩ := hq
    have G : zS T A s.heap s [[(h, .inr (6, [.ref o, .ref a1_11, .ref a2_12, .int 0, .int 0, .ref a3_13]))], [(a1_11, .inl (T.2 0, 7, .inl x1))], [(a2_12, .inl (T.2 0, 7, .inl x2))], [(a3_13, .inl (T.2 0, 7, .inl x3))], [(o, .inr (4, [.int cr, .int inn, .ref a1_4, .ref a2_5, .ref a3_6, .ref a4_7])), (a1_4, .inl (T.2 0, 7, .inl k1)), (a2_5, .inl (T.2 0, 28, .inl k2)), (a3_6, .inl (T.2 0, 7, .inl k3)), (a4_7, .inl (T.2 0, 7, .inl k4))]] _ _ := G.re rfl
    refine z_get C G clX6 0 rfl 1 (by decide) m_fl_RX6_18 rfl dX6_begin_24 ?_
    refine lv_iload_n hx hb dX6_begin_27 rfl (lv_at hl 0 rfl) ?_
    refine lv_aload_n hx hb dX6_begin_28 rfl (lv_at hl 2 rfl) ?_
    have G : zS T A s.heap s [[(h, .inr (6, [.ref o, .ref a1_11, .ref a2_12, .int 0, .int 0, .ref a3_13]))], [(a1_11, .inl (T.2 0, 7, .inl x1))], [(a2_12, .inl (T.2 0, 7, .inl x2))], [(a3_13, .inl (T.2 0, 7, .inl x3))], [(o, .inr (4, [.int cr, .int inn, .ref a1_4, .ref a2_5, .ref a3_6, .ref a4_7]))], [(a1_4, .inl (T.2 0, 7, .inl k1))], [(a2_5, .inl (T.2 0, 28, .inl k2))], [(a3_6, .inl (T.2 0, 7, .inl k3))], [(a4_7, .inl (T.2 0, 7, .inl k4))]] _ _ := G.re rfl
    refine z_get C G clX4 4 rfl 4 (by decide) m_fl_RX6_35 rfl dX6_begin_29 ?_
    refine lv_iload_n hx hb dX6_begin_32 rfl (lv_at hl 0 rfl) ?_
    refine z_ild C G 7 rfl (vp_in_nI (by omega) (by omega)) dX6_begin_33 ?_
    refine lv_topi (fun v_14 ev_14 => ?_)
    rw [nI_clamp (by omega)] at ev_14
    subst ev_14
    refine z_ist C G 1 rfl (vp_in_nI (by omega) (by omega)) dX6_begin_34 (fun H locs G => ?_)
    rw [nI_clamp (by omega)] at G
    have G : zS T A s.heap s [[(h, .inr (6, [.ref o, .ref a1_11, .ref a2_12, .int 0, .int 0, .ref a3_13]))], [(a1_11, .inl (T.2 0, 7, .inl (upd x1 i (k3 i))))], [(a2_12, .inl (T.2 0, 7, .inl x2))], [(a3_13, .inl (T.2 0, 7, .inl x3))], [(o, .inr (4, [.int cr, .int inn, .ref a1_4, .ref a2_5, .ref a3_6, .ref a4_7]))], [(a1_4, .inl (T.2 0, 7, .inl k1))], [(a2_5, .inl (T.2 0, 28, .inl k2))], [(a3_6, .inl (T.2 0, 7, .inl k3))], [(a4_7, .inl (T.2 0, 7, .inl k4))]] _ _ := G
    refine lv_aload_n hx hb dX6_begin_35 rfl (lv_at hl 1 rfl) ?_
    refine z_get C G clX6 0 rfl 2 (by decide) m_fl_RX6_22 rfl dX6_begin_36 ?_
    refine lv_iload_n hx hb dX6_begin_39 rfl (lv_at hl 0 rfl) ?_
    refine lv_iconst (v := 0) hx hb dX6_begin_40 (by decide) ?_
    refine z_ist C G 2 rfl (vp_in_nI (by omega) (by omega)) dX6_begin_41 (fun H locs G => ?_)
    rw [nI_clamp (by omega)] at G
    have G : zS T A s.heap s [[(h, .inr (6, [.ref o, .ref a1_11, .ref a2_12, .int 0, .int 0, .ref a3_13]))], [(a1_11, .inl (T.2 0, 7, .inl (upd x1 i (k3 i))))], [(a2_12, .inl (T.2 0, 7, .inl (upd x2 i 0)))], [(a3_13, .inl (T.2 0, 7, .inl x3))], [(o, .inr (4, [.int cr, .int inn, .ref a1_4, .ref a2_5, .ref a3_6, .ref a4_7]))], [(a1_4, .inl (T.2 0, 7, .inl k1))], [(a2_5, .inl (T.2 0, 28, .inl k2))], [(a3_6, .inl (T.2 0, 7, .inl k3))], [(a4_7, .inl (T.2 0, 7, .inl k4))]] _ _ := G
    refine lv_aload_n hx hb dX6_begin_42 rfl (lv_at hl 1 rfl) ?_
    refine z_get C G clX6 0 rfl 5 (by decide) m_fl_RX6_25 rfl dX6_begin_43 ?_
    refine lv_iload_n hx hb dX6_begin_46 rfl (lv_at hl 0 rfl) ?_
    refine lv_aload_n hx hb dX6_begin_47 rfl (lv_at hl 2 rfl) ?_
    refine lv_iload_n hx hb dX6_begin_48 rfl (lv_at hl 0 rfl) ?_
    have hw_15 : bLand T o cr inn k1 k2 k3 k4 [(o, .inr (4, [.int cr, .int inn, .ref a1_4, .ref a2_5, .ref a3_6, .ref a4_7])), (a1_4, .inl (T.2 0, 7, .inl k1)), (a2_5, .inl (T.2 0, 28, .inl k2)), (a3_6, .inl (T.2 0, 7, .inl k3)), (a4_7, .inl (T.2 0, 7, .inl k4))] := ⟨a1_4, a2_5, a3_6, a4_7, rfl⟩
    have G : zS T A s.heap s [[(h, .inr (6, [.ref o, .ref a1_11, .ref a2_12, .int 0, .int 0, .ref a3_13]))], [(a1_11, .inl (T.2 0, 7, .inl (upd x1 i (k3 i))))], [(a2_12, .inl (T.2 0, 7, .inl (upd x2 i 0)))], [(a3_13, .inl (T.2 0, 7, .inl x3))], [(o, .inr (4, [.int cr, .int inn, .ref a1_4, .ref a2_5, .ref a3_6, .ref a4_7])), (a1_4, .inl (T.2 0, 7, .inl k1)), (a2_5, .inl (T.2 0, 28, .inl k2)), (a3_6, .inl (T.2 0, 7, .inl k3)), (a4_7, .inl (T.2 0, 7, .inl k4))]] _ _ := G.re rfl
    refine z_Vi (bc := [[(o, .inr (4, [.int cr, .int inn, .ref a1_4, .ref a2_5, .ref a3_6, .ref a4_7])), (a1_4, .inl (T.2 0, 7, .inl k1)), (a2_5, .inl (T.2 0, 28, .inl k2)), (a3_6, .inl (T.2 0, 7, .inl k3)), (a4_7, .inl (T.2 0, 7, .inl k4))]]) (br := [[(h, .inr (6, [.ref o, .ref a1_11, .ref a2_12, .int 0, .int 0, .ref a3_13]))], [(a1_11, .inl (T.2 0, 7, .inl (upd x1 i (k3 i))))], [(a2_12, .inl (T.2 0, 7, .inl (upd x2 i 0)))], [(a3_13, .inl (T.2 0, 7, .inl x3))]]) (As := [.int (nI i)]) (rest := [.int (nI i), .ref a3_13]) C G (c_waysOut l T o cr inn k1 k2 k3 k4 ([(o, .inr (4, [.int cr, .int inn, .ref a1_4, .ref a2_5, .ref a3_6, .ref a4_7])), (a1_4, .inl (T.2 0, 7, .inl k1)), (a2_5, .inl (T.2 0, 28, .inl k2)), (a3_6, .inl (T.2 0, 7, .inl k3)), (a4_7, .inl (T.2 0, 7, .inl k4))]) (nI i) hw_15) (kV_RX6_36 C.2.2.2.2 (Nat.le_of_ble_eq_true rfl) (Nat.le_of_ble_eq_true rfl)) [4] [0, 1, 2, 3] rfl rfl (ci := 4) (qc := (RX4, TX4, 6)) rfl rfl (List.mem_flatten.mpr ⟨_, List.mem_of_getElem? (i := 0) rfl, (bLand_mem hw_15).choose_spec⟩) rfl rfl hl.1 dX6_begin_49 (Nat.le_of_ble_eq_true rfl) (Nat.le_of_ble_eq_true rfl) (fun r_17 b1 H locs hw G => ?_)
    obtain ⟨rfl, h_16⟩ := hw
    have G : zS T A s.heap s [[(h, .inr (6, [.ref o, .ref a1_11, .ref a2_12, .int 0, .int 0, .ref a3_13]))], [(a1_11, .inl (T.2 0, 7, .inl (upd x1 i (k3 i))))], [(a2_12, .inl (T.2 0, 7, .inl (upd x2 i 0)))], [(a3_13, .inl (T.2 0, 7, .inl x3))], [(o, .inr (4, [.int cr, .int inn, .ref a1_4, .ref a2_5, .ref a3_6, .ref a4_7])), (a1_4, .inl (T.2 0, 7, .inl k1)), (a2_5, .inl (T.2 0, 28, .inl k2)), (a3_6, .inl (T.2 0, 7, .inl k3)), (a4_7, .inl (T.2 0, 7, .inl k4))]] _ _ := G
    subst h_16
    refine z_ist C G 3 rfl (vp_in_nI (by omega) (by omega)) dX6_begin_52 (fun H locs G => ?_)
    rw [nI_clamp (by omega)] at G
    have G : zS T A s.heap s [[(h, .inr (6, [.ref o, .ref a1_11, .ref a2_12, .int 0, .int 0, .ref a3_13]))], [(a1_11, .inl (T.2 0, 7, .inl (upd x1 i (k3 i))))], [(a2_12, .inl (T.2 0, 7, .inl (upd x2 i 0)))], [(a3_13, .inl (T.2 0, 7, .inl (upd x3 i (zWays cr inn k1 (nI i)))))], [(o, .inr (4, [.int cr, .int inn, .ref a1_4, .ref a2_5, .ref a3_6, .ref a4_7])), (a1_4, .inl (T.2 0, 7, .inl k1)), (a2_5, .inl (T.2 0, 28, .inl k2)), (a3_6, .inl (T.2 0, 7, .inl k3)), (a4_7, .inl (T.2 0, 7, .inl k4))]] _ _ := G
    refine lv_iinc (v := nI (i + 1)) (lv' := [(2, .int (nI (i + 1))), (0, .ref h), (1, .ref o)]) hx hb dX6_begin_53 hl (k := 0) rfl (z_inc i 1) (by decide) rfl (fun ls hl => ?_)
    refine lv_goto (tgt := 17) hx hb dX6_begin_56 (by decide) ?_
    have hw_18 : bPosts T h o (upd x1 i (k3 i)) (upd x2 i 0) (upd x3 i (zWays cr inn k1 (nI i))) 0 0 [(h, .inr (6, [.ref o, .ref a1_11, .ref a2_12, .int 0, .int 0, .ref a3_13])), (a1_11, .inl (T.2 0, 7, .inl (upd x1 i (k3 i)))), (a2_12, .inl (T.2 0, 7, .inl (upd x2 i 0))), (a3_13, .inl (T.2 0, 7, .inl (upd x3 i (zWays cr inn k1 (nI i)))))] := ⟨a1_11, a2_12, a3_13, rfl⟩
    have G : zS T A s.heap s [[(h, .inr (6, [.ref o, .ref a1_11, .ref a2_12, .int 0, .int 0, .ref a3_13])), (a1_11, .inl (T.2 0, 7, .inl (upd x1 i (k3 i)))), (a2_12, .inl (T.2 0, 7, .inl (upd x2 i 0))), (a3_13, .inl (T.2 0, 7, .inl (upd x3 i (zWays cr inn k1 (nI i)))))], [(o, .inr (4, [.int cr, .int inn, .ref a1_4, .ref a2_5, .ref a3_6, .ref a4_7])), (a1_4, .inl (T.2 0, 7, .inl k1)), (a2_5, .inl (T.2 0, 28, .inl k2)), (a3_6, .inl (T.2 0, 7, .inl k3)), (a4_7, .inl (T.2 0, 7, .inl k4))]] _ _ := G.re rfl
    exact ih_17 ((i + 1), ([(h, .inr (6, [.ref o, .ref a1_11, .ref a2_12, .int 0, .int 0, .ref a3_13])), (a1_11, .inl (T.2 0, 7, .inl (upd x1 i (k3 i)))), (a2_12, .inl (T.2 0, 7, .inl (upd x2 i 0))), (a3_13, .inl (T.2 0, 7, .inl (upd x3 i (zWays cr inn k1 (nI i)))))]), (upd x1 i (k3 i)), (upd x2 i 0), (upd x3 i (zWays cr inn k1 (nI i)))) (show bPosts T h o (upd x1 i (k3 i)) (upd x2 i 0) (upd x3 i (zWays cr inn k1 (nI i))) 0 0 ([(h, .inr (6, [.ref o, .ref a1_11, .ref a2_12, .int 0, .int 0, .ref a3_13])), (a1_11, .inl (T.2 0, 7, .inl (upd x1 i (k3 i)))), (a2_12, .inl (T.2 0, 7, .inl (upd x2 i 0))), (a3_13, .inl (T.2 0, 7, .inl (upd x3 i (zWays cr inn k1 (nI i)))))]) ∧ (i + 1) ≤ 7 ∧ (∀ j, j < (i + 1) → (upd x1 i (k3 i)) j = k3 j) ∧ (∀ j, j < (i + 1) → (upd x2 i 0) j = 0) ∧ (∀ j, j < (i + 1) → (upd x3 i (zWays cr inn k1 (nI i))) j = zWays cr inn k1 (nI j)) from ⟨hw_18, by omega, z_updE hx1 rfl, z_updE (F := fun _ => 0) hx2 rfl, z_updE (F := fun j => zWays cr inn k1 (nI j)) hx3 rfl⟩) (show 7 - (i + 1) < 7 - i from by omega) _ _ ls G (lv_sub hl [0, 1, 2] rfl)
set_option maxHeartbeats 4000000 in
set_option maxRecDepth 100000 in
/-- isShut -/
theorem c_isShut (l : Launch) (T : zTy) (h : Nat) (la : Nat) (f1 : Nat → Int32) (f2 : Nat → Int32) (f3 : Nat → Int32) (st : Int32) (wh : Int32) (w : va_W) (cr : Int32) (inn : Int32) (k1 : Nat → Int32) (k2 : Nat → Int32) (k3 : Nat → Int32) (k4 : Nat → Int32) (z : va_W) (x : Int32) (y : Int32) (hw : bPosts T h la f1 f2 f3 st wh w) (hz : bLand T la cr inn k1 k2 k3 k4 z) : zMi l T yX6_isShut cX6_isShut 3 (some .boolean) 2 0 0 [.ref h, .int x, .int y] [w, z] (fun (r : Int32) bs => bs = [w, z] ∧ ((r = 1 ∧ 0 ≤ x.toInt ∧ x.toInt < cr.toInt ∧ x.toInt < 7 ∧ 0 ≤ y.toInt ∧ y.toInt < (k1 x.toNatClampNeg).toInt ∧ y.toInt < 4 ∧ ¬ zBit (f2 x.toNatClampNeg) y = 0) ∨ (r = 0 ∧ (x.toInt < 0 ∨ cr.toInt ≤ x.toInt ∨ 7 ≤ x.toInt ∨ y.toInt < 0 ∨ (k1 x.toNatClampNeg).toInt ≤ y.toInt ∨ 4 ≤ y.toInt ∨ zBit (f2 x.toNatClampNeg) y = 0)))) := by
  refine zMi_of (own := RX6) (by decide) rfl (Nat.le_of_ble_eq_true rfl) ?_
  intro p e s m args below meth c A ls C hr hlocks hnm hAe G hl
  have hx := C.1
  have hb := C.2.1
  have hl : lv_has ls 3 [(0, .ref h), (1, .int x), (2, .int y)] := hl
  refine lv_aload_n hx hb dX6_isShut_0 rfl (lv_at hl 0 rfl) ?_
  obtain ⟨a1_1, a2_2, a3_3, rfl⟩ := hw
  have G : zS T A s.heap s [[(h, .inr (6, [.ref la, .ref a1_1, .ref a2_2, .int st, .int wh, .ref a3_3]))], [(a1_1, .inl (T.2 0, 7, .inl f1))], [(a2_2, .inl (T.2 0, 7, .inl f2))], [(a3_3, .inl (T.2 0, 7, .inl f3))], z] _ _ := G.re rfl
  refine z_get C G clX6 0 rfl 0 (by decide) m_fl_RX6_12 rfl dX6_isShut_1 ?_
  refine lv_iload_n hx hb dX6_isShut_4 rfl (lv_at hl 1 rfl) ?_
  refine lv_iload_n hx hb dX6_isShut_5 rfl (lv_at hl 2 rfl) ?_
  refine z_Vi (bc := [z]) (br := [[(h, .inr (6, [.ref la, .ref a1_1, .ref a2_2, .int st, .int wh, .ref a3_3]))], [(a1_1, .inl (T.2 0, 7, .inl f1))], [(a2_2, .inl (T.2 0, 7, .inl f2))], [(a3_3, .inl (T.2 0, 7, .inl f3))]]) (As := [.int x, .int y]) (rest := []) C G (c_hasRoad l T la cr inn k1 k2 k3 k4 z x y hz) (kV_RX6_39 C.2.2.2.2 (Nat.le_of_ble_eq_true rfl) (Nat.le_of_ble_eq_true rfl)) [4] [0, 1, 2, 3] rfl rfl (ci := 4) (qc := (RX4, TX4, 6)) rfl rfl (List.mem_flatten.mpr ⟨_, List.mem_of_getElem? (i := 0) rfl, (bLand_mem hz).choose_spec⟩) rfl rfl hl.1 dX6_isShut_6 (Nat.le_of_ble_eq_true rfl) (Nat.le_of_ble_eq_true rfl) (fun r_5 b1 H locs hw G => ?_)
  obtain ⟨rfl, hc_4⟩ := hw
  have G : zS T A s.heap s [[(h, .inr (6, [.ref la, .ref a1_1, .ref a2_2, .int st, .int wh, .ref a3_3]))], [(a1_1, .inl (T.2 0, 7, .inl f1))], [(a2_2, .inl (T.2 0, 7, .inl f2))], [(a3_3, .inl (T.2 0, 7, .inl f3))], z] _ _ := G
  rcases hc_4 with ⟨rfl, h_6, h_7, h_8, h_9, h_10, h_11⟩ | ⟨rfl, h_12⟩
  · have h_6 : 0 ≤ x.toInt := h_6
    have h_7 : x.toInt < cr.toInt := h_7
    have h_8 : x.toInt < 7 := h_8
    have h_9 : 0 ≤ y.toInt := h_9
    have h_10 : y.toInt < (k1 x.toNatClampNeg).toInt := h_10
    have h_11 : y.toInt < 4 := h_11
    refine lv_if_eq (tgt := 29) hx hb dX6_isShut_9 (by decide) (fun q => absurd q (by decide)) (fun _ => ?_)
    refine lv_aload_n hx hb dX6_isShut_12 rfl (lv_at hl 0 rfl) ?_
    refine z_get C G clX6 0 rfl 2 (by decide) m_fl_RX6_22 rfl dX6_isShut_13 ?_
    refine lv_iload_n hx hb dX6_isShut_16 rfl (lv_at hl 1 rfl) ?_
    refine z_ild C G 2 rfl (vp_in_iff.mpr ⟨by omega, by omega⟩) dX6_isShut_17 ?_
    refine lv_topi (fun v_13 ev_13 => ?_)
    subst ev_13
    refine lv_iload_n hx hb dX6_isShut_18 rfl (lv_at hl 2 rfl) ?_
    refine lv_ishr hx hb dX6_isShut_19 ?_
    refine lv_iconst (v := 1) hx hb dX6_isShut_20 (by decide) ?_
    refine lv_iand hx hb dX6_isShut_21 ?_
    refine lv_if_eq (tgt := 29) hx hb dX6_isShut_22 (by decide) (fun c_14 => ?_) (fun c_14 => ?_)
    · have c_14n : (((f2 x.toNatClampNeg) >>> (y &&& 31)) &&& 1).toInt = (0 : Int) := (fa_eq _ _).mp c_14
      refine lv_iconst (v := 0) hx hb dX6_isShut_29 (by decide) ?_
      have hw_15 : bPosts T h la f1 f2 f3 st wh [(h, .inr (6, [.ref la, .ref a1_1, .ref a2_2, .int st, .int wh, .ref a3_3])), (a1_1, .inl (T.2 0, 7, .inl f1)), (a2_2, .inl (T.2 0, 7, .inl f2)), (a3_3, .inl (T.2 0, 7, .inl f3))] := ⟨a1_1, a2_2, a3_3, rfl⟩
      have G : zS T A s.heap s [[(h, .inr (6, [.ref la, .ref a1_1, .ref a2_2, .int st, .int wh, .ref a3_3])), (a1_1, .inl (T.2 0, 7, .inl f1)), (a2_2, .inl (T.2 0, 7, .inl f2)), (a3_3, .inl (T.2 0, 7, .inl f3))], z] _ _ := G.re rfl
      exact z_zret C hr hlocks G (Nat.le_of_ble_eq_true rfl) (Nat.le_of_ble_eq_true rfl) dX6_isShut_30 rfl ⟨rfl, (Or.inr (⟨rfl, (by first | exact Or.inr (Or.inr (Or.inr (Or.inr (Or.inr (Or.inr (by assumption)))))) | omega)⟩))⟩
    · have c_14n : ¬ (((f2 x.toNatClampNeg) >>> (y &&& 31)) &&& 1).toInt = (0 : Int) := fun q => c_14 ((fa_eq _ _).mpr q)
      refine lv_iconst (v := 1) hx hb dX6_isShut_25 (by decide) ?_
      refine lv_goto (tgt := 30) hx hb dX6_isShut_26 (by decide) ?_
      have hw_16 : bPosts T h la f1 f2 f3 st wh [(h, .inr (6, [.ref la, .ref a1_1, .ref a2_2, .int st, .int wh, .ref a3_3])), (a1_1, .inl (T.2 0, 7, .inl f1)), (a2_2, .inl (T.2 0, 7, .inl f2)), (a3_3, .inl (T.2 0, 7, .inl f3))] := ⟨a1_1, a2_2, a3_3, rfl⟩
      have G : zS T A s.heap s [[(h, .inr (6, [.ref la, .ref a1_1, .ref a2_2, .int st, .int wh, .ref a3_3])), (a1_1, .inl (T.2 0, 7, .inl f1)), (a2_2, .inl (T.2 0, 7, .inl f2)), (a3_3, .inl (T.2 0, 7, .inl f3))], z] _ _ := G.re rfl
      exact z_zret C hr hlocks G (Nat.le_of_ble_eq_true rfl) (Nat.le_of_ble_eq_true rfl) dX6_isShut_30 rfl ⟨rfl, (Or.inl (⟨rfl, (by first | assumption | omega), (by first | assumption | omega), (by first | assumption | omega), (by first | assumption | omega), (by first | assumption | omega), (by first | assumption | omega), (by first | assumption | omega)⟩))⟩
  · have h_12 : (x.toInt < 0 ∨ cr.toInt ≤ x.toInt ∨ 7 ≤ x.toInt ∨ y.toInt < 0 ∨ (k1 x.toNatClampNeg).toInt ≤ y.toInt ∨ 4 ≤ y.toInt) := h_12
    refine lv_if_eq (tgt := 29) hx hb dX6_isShut_9 (by decide) (fun _ => ?_) (fun q => absurd (by decide) q)
    refine lv_iconst (v := 0) hx hb dX6_isShut_29 (by decide) ?_
    have hw_17 : bPosts T h la f1 f2 f3 st wh [(h, .inr (6, [.ref la, .ref a1_1, .ref a2_2, .int st, .int wh, .ref a3_3])), (a1_1, .inl (T.2 0, 7, .inl f1)), (a2_2, .inl (T.2 0, 7, .inl f2)), (a3_3, .inl (T.2 0, 7, .inl f3))] := ⟨a1_1, a2_2, a3_3, rfl⟩
    have G : zS T A s.heap s [[(h, .inr (6, [.ref la, .ref a1_1, .ref a2_2, .int st, .int wh, .ref a3_3])), (a1_1, .inl (T.2 0, 7, .inl f1)), (a2_2, .inl (T.2 0, 7, .inl f2)), (a3_3, .inl (T.2 0, 7, .inl f3))], z] _ _ := G.re rfl
    exact z_zret C hr hlocks G (Nat.le_of_ble_eq_true rfl) (Nat.le_of_ble_eq_true rfl) dX6_isShut_30 rfl ⟨rfl, (Or.inr (⟨rfl, (by first | exact Or.inr (Or.inr (Or.inr (Or.inr (Or.inr (Or.inr (by assumption)))))) | omega)⟩))⟩
set_option maxHeartbeats 4000000 in
set_option maxRecDepth 100000 in
/-- c_shutRoad -/
theorem c_shutRoad (l : Launch) (T : zTy) (h : Nat) (la : Nat) (f1 : Nat → Int32) (f2 : Nat → Int32) (f3 : Nat → Int32) (st : Int32) (wh : Int32) (w : va_W) (cr : Int32) (inn : Int32) (k1 : Nat → Int32) (k2 : Nat → Int32) (k3 : Nat → Int32) (k4 : Nat → Int32) (z : va_W) (x : Int32) (y : Int32) (hw : bPosts T h la f1 f2 f3 st wh w) (hz : bLand T la cr inn k1 k2 k3 k4 z) : zMv l T yX6_shutRoad cX6_shutRoad 3 2 0 0 [.ref h, .int x, .int y] [w, z] (fun bs => ∃ (w2 : va_W) (g2 : Nat → Int32), bs = [w2, z] ∧ bPosts T h la f1 g2 f3 st wh w2 ∧ g2 = zShut cr k1 f2 x y) := by
  refine zMv_of (own := RX6) (by decide) rfl (Nat.le_of_ble_eq_true rfl) ?_
  intro p e s m args below meth c A ls C hr hlocks hnm hAe G hl
  have hx := C.1
  have hb := C.2.1
  have hl : lv_has ls 3 [(0, .ref h), (1, .int x), (2, .int y)] := hl
  refine lv_aload_n hx hb dX6_shutRoad_0 rfl (lv_at hl 0 rfl) ?_
  obtain ⟨a1_1, a2_2, a3_3, rfl⟩ := hw
  have G : zS T A s.heap s [[(h, .inr (6, [.ref la, .ref a1_1, .ref a2_2, .int st, .int wh, .ref a3_3]))], [(a1_1, .inl (T.2 0, 7, .inl f1))], [(a2_2, .inl (T.2 0, 7, .inl f2))], [(a3_3, .inl (T.2 0, 7, .inl f3))], z] _ _ := G.re rfl
  refine z_get C G clX6 0 rfl 0 (by decide) m_fl_RX6_12 rfl dX6_shutRoad_1 ?_
  refine lv_iload_n hx hb dX6_shutRoad_4 rfl (lv_at hl 1 rfl) ?_
  refine lv_iload_n hx hb dX6_shutRoad_5 rfl (lv_at hl 2 rfl) ?_
  refine z_Vi (bc := [z]) (br := [[(h, .inr (6, [.ref la, .ref a1_1, .ref a2_2, .int st, .int wh, .ref a3_3]))], [(a1_1, .inl (T.2 0, 7, .inl f1))], [(a2_2, .inl (T.2 0, 7, .inl f2))], [(a3_3, .inl (T.2 0, 7, .inl f3))]]) (As := [.int x, .int y]) (rest := []) C G (c_hasRoad l T la cr inn k1 k2 k3 k4 z x y hz) (kV_RX6_39 C.2.2.2.2 (Nat.le_of_ble_eq_true rfl) (Nat.le_of_ble_eq_true rfl)) [4] [0, 1, 2, 3] rfl rfl (ci := 4) (qc := (RX4, TX4, 6)) rfl rfl (List.mem_flatten.mpr ⟨_, List.mem_of_getElem? (i := 0) rfl, (bLand_mem hz).choose_spec⟩) rfl rfl hl.1 dX6_shutRoad_6 (Nat.le_of_ble_eq_true rfl) (Nat.le_of_ble_eq_true rfl) (fun r_5 b1 H locs hw G => ?_)
  obtain ⟨rfl, hc_4⟩ := hw
  have G : zS T A s.heap s [[(h, .inr (6, [.ref la, .ref a1_1, .ref a2_2, .int st, .int wh, .ref a3_3]))], [(a1_1, .inl (T.2 0, 7, .inl f1))], [(a2_2, .inl (T.2 0, 7, .inl f2))], [(a3_3, .inl (T.2 0, 7, .inl f3))], z] _ _ := G
  rcases hc_4 with ⟨rfl, h_6, h_7, h_8, h_9, h_10, h_11⟩ | ⟨rfl, h_12⟩
  · have h_6 : 0 ≤ x.toInt := h_6
    have h_7 : x.toInt < cr.toInt := h_7
    have h_8 : x.toInt < 7 := h_8
    have h_9 : 0 ≤ y.toInt := h_9
    have h_10 : y.toInt < (k1 x.toNatClampNeg).toInt := h_10
    have h_11 : y.toInt < 4 := h_11
    refine lv_if_eq (tgt := 24) hx hb dX6_shutRoad_9 (by decide) (fun q => absurd q (by decide)) (fun _ => ?_)
    refine lv_aload_n hx hb dX6_shutRoad_12 rfl (lv_at hl 0 rfl) ?_
    refine z_get C G clX6 0 rfl 2 (by decide) m_fl_RX6_22 rfl dX6_shutRoad_13 ?_
    refine lv_iload_n hx hb dX6_shutRoad_16 rfl (lv_at hl 1 rfl) ?_
    refine lv_dup2_11 hx hb dX6_shutRoad_17 rfl rfl ?_
    refine z_ild C G 2 rfl (vp_in_iff.mpr ⟨by omega, by omega⟩) dX6_shutRoad_18 ?_
    refine lv_topi (fun v_13 ev_13 => ?_)
    subst ev_13
    refine lv_iconst (v := 1) hx hb dX6_shutRoad_19 (by decide) ?_
    refine lv_iload_n hx hb dX6_shutRoad_20 rfl (lv_at hl 2 rfl) ?_
    refine lv_ishl hx hb dX6_shutRoad_21 ?_
    refine lv_ior hx hb dX6_shutRoad_22 ?_
    refine z_ist C G 2 rfl (vp_in_iff.mpr ⟨by omega, by omega⟩) dX6_shutRoad_23 (fun H locs G => ?_)
    have G : zS T A s.heap s [[(h, .inr (6, [.ref la, .ref a1_1, .ref a2_2, .int st, .int wh, .ref a3_3]))], [(a1_1, .inl (T.2 0, 7, .inl f1))], [(a2_2, .inl (T.2 0, 7, .inl (upd f2 x.toNatClampNeg ((f2 x.toNatClampNeg) ||| (1 <<< (y &&& 31))))))], [(a3_3, .inl (T.2 0, 7, .inl f3))], z] _ _ := G
    have hw_14 : bPosts T h la f1 (upd f2 x.toNatClampNeg ((f2 x.toNatClampNeg) ||| (1 <<< (y &&& 31)))) f3 st wh [(h, .inr (6, [.ref la, .ref a1_1, .ref a2_2, .int st, .int wh, .ref a3_3])), (a1_1, .inl (T.2 0, 7, .inl f1)), (a2_2, .inl (T.2 0, 7, .inl (upd f2 x.toNatClampNeg ((f2 x.toNatClampNeg) ||| (1 <<< (y &&& 31)))))), (a3_3, .inl (T.2 0, 7, .inl f3))] := ⟨a1_1, a2_2, a3_3, rfl⟩
    have G : zS T A s.heap s [[(h, .inr (6, [.ref la, .ref a1_1, .ref a2_2, .int st, .int wh, .ref a3_3])), (a1_1, .inl (T.2 0, 7, .inl f1)), (a2_2, .inl (T.2 0, 7, .inl (upd f2 x.toNatClampNeg ((f2 x.toNatClampNeg) ||| (1 <<< (y &&& 31)))))), (a3_3, .inl (T.2 0, 7, .inl f3))], z] _ _ := G.re rfl
    exact z_vret C hr hlocks G (Nat.le_of_ble_eq_true rfl) (Nat.le_of_ble_eq_true rfl) dX6_shutRoad_24 ⟨([(h, .inr (6, [.ref la, .ref a1_1, .ref a2_2, .int st, .int wh, .ref a3_3])), (a1_1, .inl (T.2 0, 7, .inl f1)), (a2_2, .inl (T.2 0, 7, .inl (upd f2 x.toNatClampNeg ((f2 x.toNatClampNeg) ||| (1 <<< (y &&& 31)))))), (a3_3, .inl (T.2 0, 7, .inl f3))]), (upd f2 x.toNatClampNeg ((f2 x.toNatClampNeg) ||| (1 <<< (y &&& 31)))), rfl, hw_14, (by unfold zShut; rw [if_pos (by omega)])⟩
  · have h_12 : (x.toInt < 0 ∨ cr.toInt ≤ x.toInt ∨ 7 ≤ x.toInt ∨ y.toInt < 0 ∨ (k1 x.toNatClampNeg).toInt ≤ y.toInt ∨ 4 ≤ y.toInt) := h_12
    refine lv_if_eq (tgt := 24) hx hb dX6_shutRoad_9 (by decide) (fun _ => ?_) (fun q => absurd (by decide) q)
    have hw_15 : bPosts T h la f1 f2 f3 st wh [(h, .inr (6, [.ref la, .ref a1_1, .ref a2_2, .int st, .int wh, .ref a3_3])), (a1_1, .inl (T.2 0, 7, .inl f1)), (a2_2, .inl (T.2 0, 7, .inl f2)), (a3_3, .inl (T.2 0, 7, .inl f3))] := ⟨a1_1, a2_2, a3_3, rfl⟩
    have G : zS T A s.heap s [[(h, .inr (6, [.ref la, .ref a1_1, .ref a2_2, .int st, .int wh, .ref a3_3])), (a1_1, .inl (T.2 0, 7, .inl f1)), (a2_2, .inl (T.2 0, 7, .inl f2)), (a3_3, .inl (T.2 0, 7, .inl f3))], z] _ _ := G.re rfl
    exact z_vret C hr hlocks G (Nat.le_of_ble_eq_true rfl) (Nat.le_of_ble_eq_true rfl) dX6_shutRoad_24 ⟨([(h, .inr (6, [.ref la, .ref a1_1, .ref a2_2, .int st, .int wh, .ref a3_3])), (a1_1, .inl (T.2 0, 7, .inl f1)), (a2_2, .inl (T.2 0, 7, .inl f2)), (a3_3, .inl (T.2 0, 7, .inl f3))]), f2, rfl, hw_15, (by unfold zShut; rw [if_neg (by omega)])⟩
set_option maxHeartbeats 4000000 in
set_option maxRecDepth 100000 in
/-- c_openRoad -/
theorem c_openRoad (l : Launch) (T : zTy) (h : Nat) (la : Nat) (f1 : Nat → Int32) (f2 : Nat → Int32) (f3 : Nat → Int32) (st : Int32) (wh : Int32) (w : va_W) (cr : Int32) (inn : Int32) (k1 : Nat → Int32) (k2 : Nat → Int32) (k3 : Nat → Int32) (k4 : Nat → Int32) (z : va_W) (x : Int32) (y : Int32) (hw : bPosts T h la f1 f2 f3 st wh w) (hz : bLand T la cr inn k1 k2 k3 k4 z) : zMv l T yX6_openRoad cX6_openRoad 3 2 0 0 [.ref h, .int x, .int y] [w, z] (fun bs => ∃ (w2 : va_W) (g2 : Nat → Int32), bs = [w2, z] ∧ bPosts T h la f1 g2 f3 st wh w2 ∧ g2 = zOpen cr k1 f2 x y) := by
  refine zMv_of (own := RX6) (by decide) rfl (Nat.le_of_ble_eq_true rfl) ?_
  intro p e s m args below meth c A ls C hr hlocks hnm hAe G hl
  have hx := C.1
  have hb := C.2.1
  have hl : lv_has ls 3 [(0, .ref h), (1, .int x), (2, .int y)] := hl
  refine lv_aload_n hx hb dX6_openRoad_0 rfl (lv_at hl 0 rfl) ?_
  obtain ⟨a1_1, a2_2, a3_3, rfl⟩ := hw
  have G : zS T A s.heap s [[(h, .inr (6, [.ref la, .ref a1_1, .ref a2_2, .int st, .int wh, .ref a3_3]))], [(a1_1, .inl (T.2 0, 7, .inl f1))], [(a2_2, .inl (T.2 0, 7, .inl f2))], [(a3_3, .inl (T.2 0, 7, .inl f3))], z] _ _ := G.re rfl
  refine z_get C G clX6 0 rfl 0 (by decide) m_fl_RX6_12 rfl dX6_openRoad_1 ?_
  refine lv_iload_n hx hb dX6_openRoad_4 rfl (lv_at hl 1 rfl) ?_
  refine lv_iload_n hx hb dX6_openRoad_5 rfl (lv_at hl 2 rfl) ?_
  refine z_Vi (bc := [z]) (br := [[(h, .inr (6, [.ref la, .ref a1_1, .ref a2_2, .int st, .int wh, .ref a3_3]))], [(a1_1, .inl (T.2 0, 7, .inl f1))], [(a2_2, .inl (T.2 0, 7, .inl f2))], [(a3_3, .inl (T.2 0, 7, .inl f3))]]) (As := [.int x, .int y]) (rest := []) C G (c_hasRoad l T la cr inn k1 k2 k3 k4 z x y hz) (kV_RX6_39 C.2.2.2.2 (Nat.le_of_ble_eq_true rfl) (Nat.le_of_ble_eq_true rfl)) [4] [0, 1, 2, 3] rfl rfl (ci := 4) (qc := (RX4, TX4, 6)) rfl rfl (List.mem_flatten.mpr ⟨_, List.mem_of_getElem? (i := 0) rfl, (bLand_mem hz).choose_spec⟩) rfl rfl hl.1 dX6_openRoad_6 (Nat.le_of_ble_eq_true rfl) (Nat.le_of_ble_eq_true rfl) (fun r_5 b1 H locs hw G => ?_)
  obtain ⟨rfl, hc_4⟩ := hw
  have G : zS T A s.heap s [[(h, .inr (6, [.ref la, .ref a1_1, .ref a2_2, .int st, .int wh, .ref a3_3]))], [(a1_1, .inl (T.2 0, 7, .inl f1))], [(a2_2, .inl (T.2 0, 7, .inl f2))], [(a3_3, .inl (T.2 0, 7, .inl f3))], z] _ _ := G
  rcases hc_4 with ⟨rfl, h_6, h_7, h_8, h_9, h_10, h_11⟩ | ⟨rfl, h_12⟩
  · have h_6 : 0 ≤ x.toInt := h_6
    have h_7 : x.toInt < cr.toInt := h_7
    have h_8 : x.toInt < 7 := h_8
    have h_9 : 0 ≤ y.toInt := h_9
    have h_10 : y.toInt < (k1 x.toNatClampNeg).toInt := h_10
    have h_11 : y.toInt < 4 := h_11
    refine lv_if_eq (tgt := 26) hx hb dX6_openRoad_9 (by decide) (fun q => absurd q (by decide)) (fun _ => ?_)
    refine lv_aload_n hx hb dX6_openRoad_12 rfl (lv_at hl 0 rfl) ?_
    refine z_get C G clX6 0 rfl 2 (by decide) m_fl_RX6_22 rfl dX6_openRoad_13 ?_
    refine lv_iload_n hx hb dX6_openRoad_16 rfl (lv_at hl 1 rfl) ?_
    refine lv_dup2_11 hx hb dX6_openRoad_17 rfl rfl ?_
    refine z_ild C G 2 rfl (vp_in_iff.mpr ⟨by omega, by omega⟩) dX6_openRoad_18 ?_
    refine lv_topi (fun v_13 ev_13 => ?_)
    subst ev_13
    refine lv_iconst (v := 1) hx hb dX6_openRoad_19 (by decide) ?_
    refine lv_iload_n hx hb dX6_openRoad_20 rfl (lv_at hl 2 rfl) ?_
    refine lv_ishl hx hb dX6_openRoad_21 ?_
    refine lv_iconst (v := (-1)) hx hb dX6_openRoad_22 (by decide) ?_
    refine lv_ixor hx hb dX6_openRoad_23 ?_
    refine lv_iand hx hb dX6_openRoad_24 ?_
    refine z_ist C G 2 rfl (vp_in_iff.mpr ⟨by omega, by omega⟩) dX6_openRoad_25 (fun H locs G => ?_)
    have G : zS T A s.heap s [[(h, .inr (6, [.ref la, .ref a1_1, .ref a2_2, .int st, .int wh, .ref a3_3]))], [(a1_1, .inl (T.2 0, 7, .inl f1))], [(a2_2, .inl (T.2 0, 7, .inl (upd f2 x.toNatClampNeg ((f2 x.toNatClampNeg) &&& ((1 <<< (y &&& 31)) ^^^ (-1))))))], [(a3_3, .inl (T.2 0, 7, .inl f3))], z] _ _ := G
    have hw_14 : bPosts T h la f1 (upd f2 x.toNatClampNeg ((f2 x.toNatClampNeg) &&& ((1 <<< (y &&& 31)) ^^^ (-1)))) f3 st wh [(h, .inr (6, [.ref la, .ref a1_1, .ref a2_2, .int st, .int wh, .ref a3_3])), (a1_1, .inl (T.2 0, 7, .inl f1)), (a2_2, .inl (T.2 0, 7, .inl (upd f2 x.toNatClampNeg ((f2 x.toNatClampNeg) &&& ((1 <<< (y &&& 31)) ^^^ (-1)))))), (a3_3, .inl (T.2 0, 7, .inl f3))] := ⟨a1_1, a2_2, a3_3, rfl⟩
    have G : zS T A s.heap s [[(h, .inr (6, [.ref la, .ref a1_1, .ref a2_2, .int st, .int wh, .ref a3_3])), (a1_1, .inl (T.2 0, 7, .inl f1)), (a2_2, .inl (T.2 0, 7, .inl (upd f2 x.toNatClampNeg ((f2 x.toNatClampNeg) &&& ((1 <<< (y &&& 31)) ^^^ (-1)))))), (a3_3, .inl (T.2 0, 7, .inl f3))], z] _ _ := G.re rfl
    exact z_vret C hr hlocks G (Nat.le_of_ble_eq_true rfl) (Nat.le_of_ble_eq_true rfl) dX6_openRoad_26 ⟨([(h, .inr (6, [.ref la, .ref a1_1, .ref a2_2, .int st, .int wh, .ref a3_3])), (a1_1, .inl (T.2 0, 7, .inl f1)), (a2_2, .inl (T.2 0, 7, .inl (upd f2 x.toNatClampNeg ((f2 x.toNatClampNeg) &&& ((1 <<< (y &&& 31)) ^^^ (-1)))))), (a3_3, .inl (T.2 0, 7, .inl f3))]), (upd f2 x.toNatClampNeg ((f2 x.toNatClampNeg) &&& ((1 <<< (y &&& 31)) ^^^ (-1)))), rfl, hw_14, (by unfold zOpen; rw [if_pos (by omega)])⟩
  · have h_12 : (x.toInt < 0 ∨ cr.toInt ≤ x.toInt ∨ 7 ≤ x.toInt ∨ y.toInt < 0 ∨ (k1 x.toNatClampNeg).toInt ≤ y.toInt ∨ 4 ≤ y.toInt) := h_12
    refine lv_if_eq (tgt := 26) hx hb dX6_openRoad_9 (by decide) (fun _ => ?_) (fun q => absurd (by decide) q)
    have hw_15 : bPosts T h la f1 f2 f3 st wh [(h, .inr (6, [.ref la, .ref a1_1, .ref a2_2, .int st, .int wh, .ref a3_3])), (a1_1, .inl (T.2 0, 7, .inl f1)), (a2_2, .inl (T.2 0, 7, .inl f2)), (a3_3, .inl (T.2 0, 7, .inl f3))] := ⟨a1_1, a2_2, a3_3, rfl⟩
    have G : zS T A s.heap s [[(h, .inr (6, [.ref la, .ref a1_1, .ref a2_2, .int st, .int wh, .ref a3_3])), (a1_1, .inl (T.2 0, 7, .inl f1)), (a2_2, .inl (T.2 0, 7, .inl f2)), (a3_3, .inl (T.2 0, 7, .inl f3))], z] _ _ := G.re rfl
    exact z_vret C hr hlocks G (Nat.le_of_ble_eq_true rfl) (Nat.le_of_ble_eq_true rfl) dX6_openRoad_26 ⟨([(h, .inr (6, [.ref la, .ref a1_1, .ref a2_2, .int st, .int wh, .ref a3_3])), (a1_1, .inl (T.2 0, 7, .inl f1)), (a2_2, .inl (T.2 0, 7, .inl f2)), (a3_3, .inl (T.2 0, 7, .inl f3))]), f2, rfl, hw_15, (by unfold zOpen; rw [if_neg (by omega)])⟩
set_option maxHeartbeats 4000000 in
set_option maxRecDepth 100000 in
/-- turn -/
theorem c_turn (l : Launch) (T : zTy) (h : Nat) (la : Nat) (f1 : Nat → Int32) (f2 : Nat → Int32) (f3 : Nat → Int32) (st : Int32) (wh : Int32) (w : va_W) (x : Int32) (hw : bPosts T h la f1 f2 f3 st wh w) (hI : zP3 f1 f3) : zMi l T yX6_turn cX6_turn 6 (some .int) 1 0 0 [.ref h, .int x] [w] (fun (r : Int32) bs => ∃ (w2 : va_W) (g1 : Nat → Int32), bs = [w2] ∧ r = zTurn f1 f2 f3 x ∧ bPosts T h la g1 f2 f3 st wh w2 ∧ g1 = zPost f1 f2 f3 x) := by
  refine zMi_of (own := RX6) (by decide) rfl (Nat.le_of_ble_eq_true rfl) ?_
  intro p e s m args below meth c A ls C hr hlocks hnm hAe G hl
  have hx := C.1
  have hb := C.2.1
  have hl : lv_has ls 6 [(0, .ref h), (1, .int x)] := hl
  refine lv_iload_n hx hb dX6_turn_0 rfl (lv_at hl 1 rfl) ?_
  refine lv_if_lt (tgt := 10) hx hb dX6_turn_1 (by decide) (fun c_1 => ?_) (fun c_1 => ?_)
  · have c_1n : x.toInt < (0 : Int) := (fa_lt _ _).mp c_1
    have hz : zTurn f1 f2 f3 x = -1 := by unfold zTurn; rw [if_neg (by omega)]
    refine lv_iconst (v := (-1)) hx hb dX6_turn_10 (by decide) ?_
    exact z_iret C hr hlocks G (Nat.le_of_ble_eq_true rfl) (Nat.le_of_ble_eq_true rfl) dX6_turn_11 ⟨w, f1, rfl, hz.symm, hw, (by unfold zPost; rw [hz, if_pos rfl])⟩
  · have c_1n : ¬ x.toInt < (0 : Int) := fun q => c_1 ((fa_lt _ _).mpr q)
    refine lv_iload_n hx hb dX6_turn_4 rfl (lv_at hl 1 rfl) ?_
    refine lv_bipush (v := 7) hx hb dX6_turn_5 (by decide) ?_
    refine lv_icmp_lt (tgt := 12) hx hb dX6_turn_7 (by decide) (fun c_2 => ?_) (fun c_2 => ?_)
    · have c_2n : x.toInt < (7 : Int) := (fa_lt _ _).mp c_2
      obtain ⟨n0, hn0⟩ : ∃ n0, n0 = (f3 x.toNatClampNeg).toNatClampNeg := ⟨_, rfl⟩
      have hcl := z_clI (x := x) (by omega)
      have h3 := hI x.toNatClampNeg (by omega)
      have hcn := z_clI h3.1.1
      have hn4 : (n0 : Int) = (f3 x.toNatClampNeg).toInt := by rw [hn0]; exact hcn
      have hT : zTurn f1 f2 f3 x = zTurnR (f3 x.toNatClampNeg) (f2 x.toNatClampNeg) n0 (f1 x.toNatClampNeg) := by unfold zTurn; rw [if_pos (by omega), hn0]
      refine lv_aload_n hx hb dX6_turn_12 rfl (lv_at hl 0 rfl) ?_
      obtain ⟨a1_3, a2_4, a3_5, rfl⟩ := hw
      have G : zS T A s.heap s [[(h, .inr (6, [.ref la, .ref a1_3, .ref a2_4, .int st, .int wh, .ref a3_5]))], [(a1_3, .inl (T.2 0, 7, .inl f1))], [(a2_4, .inl (T.2 0, 7, .inl f2))], [(a3_5, .inl (T.2 0, 7, .inl f3))]] _ _ := G.re rfl
      refine z_get C G clX6 0 rfl 5 (by decide) m_fl_RX6_25 rfl dX6_turn_13 ?_
      refine lv_iload_n hx hb dX6_turn_16 rfl (lv_at hl 1 rfl) ?_
      refine z_ild C G 3 rfl (vp_in_iff.mpr ⟨by omega, by omega⟩) dX6_turn_17 ?_
      refine lv_topi (fun v_6 ev_6 => ?_)
      subst ev_6
      refine lv_istore_n (lv' := [(2, .int (f3 x.toNatClampNeg)), (0, .ref h), (1, .int x)]) hx hb dX6_turn_18 rfl hl (by decide) rfl (fun ls hl => ?_)
      refine lv_aload_n hx hb dX6_turn_19 rfl (lv_at hl 1 rfl) ?_
      refine z_get C G clX6 0 rfl 2 (by decide) m_fl_RX6_22 rfl dX6_turn_20 ?_
      refine lv_iload_n hx hb dX6_turn_23 rfl (lv_at hl 2 rfl) ?_
      refine z_ild C G 2 rfl (vp_in_iff.mpr ⟨by omega, by omega⟩) dX6_turn_24 ?_
      refine lv_topi (fun v_7 ev_7 => ?_)
      subst ev_7
      refine lv_istore_n (lv' := [(3, .int (f2 x.toNatClampNeg)), (2, .int (f3 x.toNatClampNeg)), (0, .ref h), (1, .int x)]) hx hb dX6_turn_25 rfl hl (by decide) rfl (fun ls hl => ?_)
      refine lv_aload_n hx hb dX6_turn_26 rfl (lv_at hl 2 rfl) ?_
      refine z_get C G clX6 0 rfl 1 (by decide) m_fl_RX6_18 rfl dX6_turn_27 ?_
      refine lv_iload_n hx hb dX6_turn_30 rfl (lv_at hl 3 rfl) ?_
      refine z_ild C G 1 rfl (vp_in_iff.mpr ⟨by omega, by omega⟩) dX6_turn_31 ?_
      refine lv_topi (fun v_8 ev_8 => ?_)
      subst ev_8
      refine lv_istore (lv' := [(4, .int (f1 x.toNatClampNeg)), (3, .int (f2 x.toNatClampNeg)), (2, .int (f3 x.toNatClampNeg)), (0, .ref h), (1, .int x)]) hx hb dX6_turn_32 hl (by decide) rfl (fun ls hl => ?_)
      refine lv_iconst (v := 0) hx hb dX6_turn_34 (by decide) ?_
      refine lv_istore (lv' := [(5, .int 0), (4, .int (f1 x.toNatClampNeg)), (3, .int (f2 x.toNatClampNeg)), (2, .int (f3 x.toNatClampNeg)), (0, .ref h), (1, .int x)]) hx hb dX6_turn_35 hl (by decide) rfl (fun ls hl => ?_)
      have hw_9 : bPosts T h la f1 f2 f3 st wh [(h, .inr (6, [.ref la, .ref a1_3, .ref a2_4, .int st, .int wh, .ref a3_5])), (a1_3, .inl (T.2 0, 7, .inl f1)), (a2_4, .inl (T.2 0, 7, .inl f2)), (a3_5, .inl (T.2 0, 7, .inl f3))] := ⟨a1_3, a2_4, a3_5, rfl⟩
      have G : zS T A s.heap s [[(h, .inr (6, [.ref la, .ref a1_3, .ref a2_4, .int st, .int wh, .ref a3_5])), (a1_3, .inl (T.2 0, 7, .inl f1)), (a2_4, .inl (T.2 0, 7, .inl f2)), (a3_5, .inl (T.2 0, 7, .inl f3))]] _ _ := G.re rfl
      refine z_loop (T := T) (α := Nat × Int32) 37 (fun (t, q) => [[(h, .inr (6, [.ref la, .ref a1_3, .ref a2_4, .int st, .int wh, .ref a3_5])), (a1_3, .inl (T.2 0, 7, .inl f1)), (a2_4, .inl (T.2 0, 7, .inl f2)), (a3_5, .inl (T.2 0, 7, .inl f3))]]) (fun (t, q) => [(5, .int (nI t)), (4, .int q), (3, .int (f2 x.toNatClampNeg)), (2, .int (f3 x.toNatClampNeg)), (0, .ref h), (1, .int x)]) (fun (t, q) => t ≤ n0 ∧ zTurn f1 f2 f3 x = zTurnR (f3 x.toNatClampNeg) (f2 x.toNatClampNeg) (n0 - t) q ∧ (0 ≤ q.toInt ∧ q.toInt ≤ 1000)) (fun (t, q) => n0 - t) ?_ (0, (f1 x.toNatClampNeg)) (show 0 ≤ n0 ∧ zTurn f1 f2 f3 x = zTurnR (f3 x.toNatClampNeg) (f2 x.toNatClampNeg) (n0 - 0) (f1 x.toNatClampNeg) ∧ (0 ≤ (f1 x.toNatClampNeg).toInt ∧ (f1 x.toNatClampNeg).toInt ≤ 1000) from ⟨by omega, hT, ⟨h3.2.1, h3.2.2⟩⟩) G (lv_sub hl [0, 1, 2, 3, 4, 5] rfl)
      rintro ⟨t, q⟩ ⟨ht, hq, hq3⟩ ih_37 H locs ls G hl
      replace ht : t ≤ n0 := ht
      replace hq : zTurn f1 f2 f3 x = zTurnR (f3 x.toNatClampNeg) (f2 x.toNatClampNeg) (n0 - t) q := hq
      replace hq3 : (0 ≤ q.toInt ∧ q.toInt ≤ 1000) := hq3
      replace G : zS T A s.heap s [[(h, .inr (6, [.ref la, .ref a1_3, .ref a2_4, .int st, .int wh, .ref a3_5])), (a1_3, .inl (T.2 0, 7, .inl f1)), (a2_4, .inl (T.2 0, 7, .inl f2)), (a3_5, .inl (T.2 0, 7, .inl f3))]] _ _ := G
      replace hl : lv_has ls 6 [(5, .int (nI t)), (4, .int q), (3, .int (f2 x.toNatClampNeg)), (2, .int (f3 x.toNatClampNeg)), (0, .ref h), (1, .int x)] := hl
      refine lv_iload hx hb dX6_turn_37 (lv_at hl 0 rfl) ?_
      refine lv_iload_n hx hb dX6_turn_39 rfl (lv_at hl 3 rfl) ?_
      refine lv_icmp_ge (tgt := 87) hx hb dX6_turn_40 (by decide) (fun c_10 => ?_) (fun c_10 => ?_)
      · have c_10n : (f3 x.toNatClampNeg).toInt ≤ (t : Int) := by have q := (fa_le _ _).mp c_10; rw [nI_toInt (n := t) (by omega)] at q; exact q
        have hz : zTurn f1 f2 f3 x = -1 := by rw [hq, show n0 - t = 0 by omega]; rfl
        refine lv_iconst (v := (-1)) hx hb dX6_turn_87 (by decide) ?_
        exact z_iret C hr hlocks G (Nat.le_of_ble_eq_true rfl) (Nat.le_of_ble_eq_true rfl) dX6_turn_88 ⟨([(h, .inr (6, [.ref la, .ref a1_3, .ref a2_4, .int st, .int wh, .ref a3_5])), (a1_3, .inl (T.2 0, 7, .inl f1)), (a2_4, .inl (T.2 0, 7, .inl f2)), (a3_5, .inl (T.2 0, 7, .inl f3))]), f1, rfl, hz.symm, hw_9, (by unfold zPost; rw [hz, if_pos rfl])⟩
      · have c_10n : ¬ (f3 x.toNatClampNeg).toInt ≤ (t : Int) := fun q => c_10 ((fa_le _ _).mpr (by rw [nI_toInt (n := t) (by omega)]; exact q))
        have e1 : (q + 1).toInt = q.toInt + 1 := z_iaddI (by show -2147483648 ≤ q.toInt + 1; omega) (by show q.toInt + 1 < 2147483648; omega)
        refine lv_iload hx hb dX6_turn_43 (lv_at hl 1 rfl) ?_
        refine lv_iconst (v := 1) hx hb dX6_turn_45 (by decide) ?_
        refine lv_iadd hx hb dX6_turn_46 ?_
        refine lv_iload_n hx hb dX6_turn_47 rfl (lv_at hl 3 rfl) ?_
        refine lv_icmp_ge (tgt := 58) hx hb dX6_turn_48 (by decide) (fun c_11 => ?_) (fun c_11 => ?_)
        · have c_11n : (f3 x.toNatClampNeg).toInt ≤ (q + 1).toInt := (fa_le _ _).mp c_11
          refine lv_iconst (v := 0) hx hb dX6_turn_58 (by decide) ?_
          refine lv_istore (lv' := [(4, .int 0), (5, .int (nI t)), (3, .int (f2 x.toNatClampNeg)), (2, .int (f3 x.toNatClampNeg)), (0, .ref h), (1, .int x)]) hx hb dX6_turn_59 hl (by decide) rfl (fun ls hl => ?_)
          refine lv_iload_n hx hb dX6_turn_61 rfl (lv_at hl 2 rfl) ?_
          refine lv_iload hx hb dX6_turn_62 (lv_at hl 0 rfl) ?_
          refine lv_ishr hx hb dX6_turn_64 ?_
          refine lv_iconst (v := 1) hx hb dX6_turn_65 (by decide) ?_
          refine lv_iand hx hb dX6_turn_66 ?_
          refine lv_if_ne (tgt := 81) hx hb dX6_turn_67 (by decide) (fun c_12 => ?_) (fun c_12 => ?_)
          · have c_12n : ¬ (((f2 x.toNatClampNeg) >>> (0 &&& 31)) &&& 1).toInt = (0 : Int) := fun q => c_12 ((fa_eq _ _).mpr q)
            refine lv_iinc (v := nI (t + 1)) (lv' := [(5, .int (nI (t + 1))), (4, .int 0), (3, .int (f2 x.toNatClampNeg)), (2, .int (f3 x.toNatClampNeg)), (0, .ref h), (1, .int x)]) hx hb dX6_turn_81 hl (k := 1) rfl (z_inc t 1) (by decide) rfl (fun ls hl => ?_)
            refine lv_goto (tgt := 37) hx hb dX6_turn_84 (by decide) ?_
            exact ih_37 ((t + 1), 0) (show (t + 1) ≤ n0 ∧ zTurn f1 f2 f3 x = zTurnR (f3 x.toNatClampNeg) (f2 x.toNatClampNeg) (n0 - (t + 1)) 0 ∧ (0 ≤ (0 : Int32).toInt ∧ (0 : Int32).toInt ≤ 1000) from ⟨by omega, by rw [hq, show n0 - t = (n0 - (t + 1)) + 1 by omega, zTurnR, show zNext (f3 x.toNatClampNeg) q = 0 from if_neg (fun z => absurd ((fa_lt _ _).mp z) (by omega)), if_neg (show ¬ zBit (f2 x.toNatClampNeg) (0) = 0 by assumption)], ⟨by decide, by decide⟩⟩) (show n0 - (t + 1) < n0 - t from by omega) _ _ ls G (lv_sub hl [0, 1, 2, 3, 4, 5] rfl)
          · have c_12n : (((f2 x.toNatClampNeg) >>> (0 &&& 31)) &&& 1).toInt = (0 : Int) := (fa_eq _ _).mp c_12
            have hz : zTurn f1 f2 f3 x = 0 := by rw [hq, show n0 - t = (n0 - (t + 1)) + 1 by omega, zTurnR, show zNext (f3 x.toNatClampNeg) q = 0 from if_neg (fun z => absurd ((fa_lt _ _).mp z) (by omega)), if_pos (show zBit (f2 x.toNatClampNeg) (0) = 0 by assumption)]
            have hz1 : ¬ zTurn f1 f2 f3 x = -1 := by rw [hz]; exact (by decide)
            refine lv_aload_n hx hb dX6_turn_70 rfl (lv_at hl 4 rfl) ?_
            have G : zS T A s.heap s [[(h, .inr (6, [.ref la, .ref a1_3, .ref a2_4, .int st, .int wh, .ref a3_5]))], [(a1_3, .inl (T.2 0, 7, .inl f1))], [(a2_4, .inl (T.2 0, 7, .inl f2))], [(a3_5, .inl (T.2 0, 7, .inl f3))]] _ _ := G.re rfl
            refine z_get C G clX6 0 rfl 1 (by decide) m_fl_RX6_18 rfl dX6_turn_71 ?_
            refine lv_iload_n hx hb dX6_turn_74 rfl (lv_at hl 5 rfl) ?_
            refine lv_iload hx hb dX6_turn_75 (lv_at hl 0 rfl) ?_
            refine z_ist C G 1 rfl (vp_in_iff.mpr ⟨by omega, by omega⟩) dX6_turn_77 (fun H locs G => ?_)
            have G : zS T A s.heap s [[(h, .inr (6, [.ref la, .ref a1_3, .ref a2_4, .int st, .int wh, .ref a3_5]))], [(a1_3, .inl (T.2 0, 7, .inl (upd f1 x.toNatClampNeg 0)))], [(a2_4, .inl (T.2 0, 7, .inl f2))], [(a3_5, .inl (T.2 0, 7, .inl f3))]] _ _ := G
            refine lv_iload hx hb dX6_turn_78 (lv_at hl 0 rfl) ?_
            have hw_13 : bPosts T h la (upd f1 x.toNatClampNeg 0) f2 f3 st wh [(h, .inr (6, [.ref la, .ref a1_3, .ref a2_4, .int st, .int wh, .ref a3_5])), (a1_3, .inl (T.2 0, 7, .inl (upd f1 x.toNatClampNeg 0))), (a2_4, .inl (T.2 0, 7, .inl f2)), (a3_5, .inl (T.2 0, 7, .inl f3))] := ⟨a1_3, a2_4, a3_5, rfl⟩
            have G : zS T A s.heap s [[(h, .inr (6, [.ref la, .ref a1_3, .ref a2_4, .int st, .int wh, .ref a3_5])), (a1_3, .inl (T.2 0, 7, .inl (upd f1 x.toNatClampNeg 0))), (a2_4, .inl (T.2 0, 7, .inl f2)), (a3_5, .inl (T.2 0, 7, .inl f3))]] _ _ := G.re rfl
            exact z_iret C hr hlocks G (Nat.le_of_ble_eq_true rfl) (Nat.le_of_ble_eq_true rfl) dX6_turn_80 ⟨([(h, .inr (6, [.ref la, .ref a1_3, .ref a2_4, .int st, .int wh, .ref a3_5])), (a1_3, .inl (T.2 0, 7, .inl (upd f1 x.toNatClampNeg 0))), (a2_4, .inl (T.2 0, 7, .inl f2)), (a3_5, .inl (T.2 0, 7, .inl f3))]), (upd f1 x.toNatClampNeg 0), rfl, hz.symm, hw_13, (by unfold zPost; rw [if_neg hz1, hz])⟩
        · have c_11n : ¬ (f3 x.toNatClampNeg).toInt ≤ (q + 1).toInt := fun q => c_11 ((fa_le _ _).mpr q)
          refine lv_iload hx hb dX6_turn_51 (lv_at hl 1 rfl) ?_
          refine lv_iconst (v := 1) hx hb dX6_turn_53 (by decide) ?_
          refine lv_iadd hx hb dX6_turn_54 ?_
          refine lv_goto (tgt := 59) hx hb dX6_turn_55 (by decide) ?_
          refine lv_istore (lv' := [(4, .int (q + 1)), (5, .int (nI t)), (3, .int (f2 x.toNatClampNeg)), (2, .int (f3 x.toNatClampNeg)), (0, .ref h), (1, .int x)]) hx hb dX6_turn_59 hl (by decide) rfl (fun ls hl => ?_)
          refine lv_iload_n hx hb dX6_turn_61 rfl (lv_at hl 2 rfl) ?_
          refine lv_iload hx hb dX6_turn_62 (lv_at hl 0 rfl) ?_
          refine lv_ishr hx hb dX6_turn_64 ?_
          refine lv_iconst (v := 1) hx hb dX6_turn_65 (by decide) ?_
          refine lv_iand hx hb dX6_turn_66 ?_
          refine lv_if_ne (tgt := 81) hx hb dX6_turn_67 (by decide) (fun c_14 => ?_) (fun c_14 => ?_)
          · have c_14n : ¬ (((f2 x.toNatClampNeg) >>> ((q + 1) &&& 31)) &&& 1).toInt = (0 : Int) := fun q => c_14 ((fa_eq _ _).mpr q)
            refine lv_iinc (v := nI (t + 1)) (lv' := [(5, .int (nI (t + 1))), (4, .int (q + 1)), (3, .int (f2 x.toNatClampNeg)), (2, .int (f3 x.toNatClampNeg)), (0, .ref h), (1, .int x)]) hx hb dX6_turn_81 hl (k := 1) rfl (z_inc t 1) (by decide) rfl (fun ls hl => ?_)
            refine lv_goto (tgt := 37) hx hb dX6_turn_84 (by decide) ?_
            exact ih_37 ((t + 1), (q + 1)) (show (t + 1) ≤ n0 ∧ zTurn f1 f2 f3 x = zTurnR (f3 x.toNatClampNeg) (f2 x.toNatClampNeg) (n0 - (t + 1)) (q + 1) ∧ (0 ≤ (q + 1).toInt ∧ (q + 1).toInt ≤ 1000) from ⟨by omega, by rw [hq, show n0 - t = (n0 - (t + 1)) + 1 by omega, zTurnR, show zNext (f3 x.toNatClampNeg) q = q + 1 from if_pos ((fa_lt _ _).mpr (by omega)), if_neg (show ¬ zBit (f2 x.toNatClampNeg) (q + 1) = 0 by assumption)], by omega⟩) (show n0 - (t + 1) < n0 - t from by omega) _ _ ls G (lv_sub hl [0, 1, 2, 3, 4, 5] rfl)
          · have c_14n : (((f2 x.toNatClampNeg) >>> ((q + 1) &&& 31)) &&& 1).toInt = (0 : Int) := (fa_eq _ _).mp c_14
            have hz : zTurn f1 f2 f3 x = q + 1 := by rw [hq, show n0 - t = (n0 - (t + 1)) + 1 by omega, zTurnR, show zNext (f3 x.toNatClampNeg) q = q + 1 from if_pos ((fa_lt _ _).mpr (by omega)), if_pos (show zBit (f2 x.toNatClampNeg) (q + 1) = 0 by assumption)]
            have hz1 : ¬ zTurn f1 f2 f3 x = -1 := by rw [hz]; exact (fun q9 => absurd (show (q + 1).toInt = -1 from by rw [q9]; rfl) (by omega))
            refine lv_aload_n hx hb dX6_turn_70 rfl (lv_at hl 4 rfl) ?_
            have G : zS T A s.heap s [[(h, .inr (6, [.ref la, .ref a1_3, .ref a2_4, .int st, .int wh, .ref a3_5]))], [(a1_3, .inl (T.2 0, 7, .inl f1))], [(a2_4, .inl (T.2 0, 7, .inl f2))], [(a3_5, .inl (T.2 0, 7, .inl f3))]] _ _ := G.re rfl
            refine z_get C G clX6 0 rfl 1 (by decide) m_fl_RX6_18 rfl dX6_turn_71 ?_
            refine lv_iload_n hx hb dX6_turn_74 rfl (lv_at hl 5 rfl) ?_
            refine lv_iload hx hb dX6_turn_75 (lv_at hl 0 rfl) ?_
            refine z_ist C G 1 rfl (vp_in_iff.mpr ⟨by omega, by omega⟩) dX6_turn_77 (fun H locs G => ?_)
            have G : zS T A s.heap s [[(h, .inr (6, [.ref la, .ref a1_3, .ref a2_4, .int st, .int wh, .ref a3_5]))], [(a1_3, .inl (T.2 0, 7, .inl (upd f1 x.toNatClampNeg (q + 1))))], [(a2_4, .inl (T.2 0, 7, .inl f2))], [(a3_5, .inl (T.2 0, 7, .inl f3))]] _ _ := G
            refine lv_iload hx hb dX6_turn_78 (lv_at hl 0 rfl) ?_
            have hw_15 : bPosts T h la (upd f1 x.toNatClampNeg (q + 1)) f2 f3 st wh [(h, .inr (6, [.ref la, .ref a1_3, .ref a2_4, .int st, .int wh, .ref a3_5])), (a1_3, .inl (T.2 0, 7, .inl (upd f1 x.toNatClampNeg (q + 1)))), (a2_4, .inl (T.2 0, 7, .inl f2)), (a3_5, .inl (T.2 0, 7, .inl f3))] := ⟨a1_3, a2_4, a3_5, rfl⟩
            have G : zS T A s.heap s [[(h, .inr (6, [.ref la, .ref a1_3, .ref a2_4, .int st, .int wh, .ref a3_5])), (a1_3, .inl (T.2 0, 7, .inl (upd f1 x.toNatClampNeg (q + 1)))), (a2_4, .inl (T.2 0, 7, .inl f2)), (a3_5, .inl (T.2 0, 7, .inl f3))]] _ _ := G.re rfl
            exact z_iret C hr hlocks G (Nat.le_of_ble_eq_true rfl) (Nat.le_of_ble_eq_true rfl) dX6_turn_80 ⟨([(h, .inr (6, [.ref la, .ref a1_3, .ref a2_4, .int st, .int wh, .ref a3_5])), (a1_3, .inl (T.2 0, 7, .inl (upd f1 x.toNatClampNeg (q + 1)))), (a2_4, .inl (T.2 0, 7, .inl f2)), (a3_5, .inl (T.2 0, 7, .inl f3))]), (upd f1 x.toNatClampNeg (q + 1)), rfl, hz.symm, hw_15, (by unfold zPost; rw [if_neg hz1, hz])⟩
    · have c_2n : ¬ x.toInt < (7 : Int) := fun q => c_2 ((fa_lt _ _).mpr q)
      have hz : zTurn f1 f2 f3 x = -1 := by unfold zTurn; rw [if_neg (by omega)]
      refine lv_iconst (v := (-1)) hx hb dX6_turn_10 (by decide) ?_
      exact z_iret C hr hlocks G (Nat.le_of_ble_eq_true rfl) (Nat.le_of_ble_eq_true rfl) dX6_turn_11 ⟨w, f1, rfl, hz.symm, hw, (by unfold zPost; rw [hz, if_pos rfl])⟩
set_option maxHeartbeats 4000000 in
set_option maxRecDepth 100000 in
/-- step -/
theorem c_step (l : Launch) (T : zTy) (h : Nat) (la : Nat) (f1 : Nat → Int32) (f2 : Nat → Int32) (f3 : Nat → Int32) (st : Int32) (wh : Int32) (w : va_W) (cr : Int32) (inn : Int32) (k1 : Nat → Int32) (k2 : Nat → Int32) (k3 : Nat → Int32) (k4 : Nat → Int32) (z : va_W) (x : Int32) (hw : bPosts T h la f1 f2 f3 st wh w) (hz : bLand T la cr inn k1 k2 k3 k4 z) (hI : zP3 f1 f3) : zMi l T yX6_step cX6_step 4 (some .int) 2 0 0 [.ref h, .int x] [w, z] (fun (r : Int32) bs => ∃ (w2 : va_W) (g1 : Nat → Int32), bs = [w2, z] ∧ r = zStep f1 f2 f3 k2 x ∧ bPosts T h la g1 f2 f3 st wh w2 ∧ g1 = zPost f1 f2 f3 x) := by
  refine zMi_of (own := RX6) (by decide) rfl (Nat.le_of_ble_eq_true rfl) ?_
  intro p e s m args below meth c A ls C hr hlocks hnm hAe G hl
  have hx := C.1
  have hb := C.2.1
  have hl : lv_has ls 4 [(0, .ref h), (1, .int x)] := hl
  refine lv_aload_n hx hb dX6_step_0 rfl (lv_at hl 0 rfl) ?_
  refine lv_iload_n hx hb dX6_step_1 rfl (lv_at hl 1 rfl) ?_
  refine z_Vi (bc := [w]) (br := [z]) (As := [.int x]) (rest := []) C G (c_turn l T h la f1 f2 f3 st wh w x hw (by first | assumption | omega | rfl)) (kV_RX6_43 C.2.2.2.2 (Nat.le_of_ble_eq_true rfl) (Nat.le_of_ble_eq_true rfl)) [0] [1] rfl rfl (ci := 6) (qc := (RX6, TX6, 6)) rfl rfl (List.mem_flatten.mpr ⟨_, List.mem_of_getElem? (i := 0) rfl, (bPosts_mem hw).choose_spec⟩) rfl rfl hl.1 dX6_step_2 (Nat.le_of_ble_eq_true rfl) (Nat.le_of_ble_eq_true rfl) (fun r_6 b1 H locs hw G => ?_)
  obtain ⟨w2_1, g1_2, rfl, h_3, h_4, h_5⟩ := hw
  have G : zS T A s.heap s [z, w2_1] _ _ := G
  subst h_3
  refine lv_istore_n (lv' := [(2, .int (zTurn f1 f2 f3 x)), (0, .ref h), (1, .int x)]) hx hb dX6_step_5 rfl hl (by decide) rfl (fun ls hl => ?_)
  refine lv_iload_n hx hb dX6_step_6 rfl (lv_at hl 2 rfl) ?_
  refine lv_iconst (v := 4) hx hb dX6_step_7 (by decide) ?_
  refine lv_imul hx hb dX6_step_8 ?_
  refine lv_topi (fun u_6 eu_6 => ?_)
  refine lv_iload_n hx hb dX6_step_9 rfl (lv_at hl 0 rfl) ?_
  refine lv_iadd hx hb dX6_step_10 ?_
  refine lv_topi (fun i_7 ei_7 => ?_)
  refine lv_istore_n (lv' := [(3, .int i_7), (2, .int (zTurn f1 f2 f3 x)), (0, .ref h), (1, .int x)]) hx hb dX6_step_11 rfl hl (by decide) rfl (fun ls hl => ?_)
  refine lv_iload_n hx hb dX6_step_12 rfl (lv_at hl 1 rfl) ?_
  refine lv_if_lt (tgt := 34) hx hb dX6_step_13 (by decide) (fun c_9 => ?_) (fun c_9 => ?_)
  · have c_9n : (zTurn f1 f2 f3 x).toInt < (0 : Int) := (fa_lt _ _).mp c_9
    refine lv_iconst (v := (-1)) hx hb dX6_step_34 (by decide) ?_
    have G := G.sub (bs' := [w2_1, z]) [1, 0] rfl
    exact z_iret C hr hlocks G (Nat.le_of_ble_eq_true rfl) (Nat.le_of_ble_eq_true rfl) dX6_step_35 ⟨w2_1, g1_2, rfl, (by unfold zStep; rw [if_pos ((zTurn_in (f2 := f2) hI x).resolve_right (fun q => by omega))]), h_4, (by first | trivial | assumption | omega)⟩
  · have c_9n : ¬ (zTurn f1 f2 f3 x).toInt < (0 : Int) := fun q => c_9 ((fa_lt _ _).mpr q)
    have hin : 0 ≤ x.toInt ∧ x.toInt < 7 ∧ 0 ≤ (zTurn f1 f2 f3 x).toInt ∧ (zTurn f1 f2 f3 x).toInt ≤ 3 := (zTurn_in (f2 := f2) hI x).resolve_left (fun q => absurd (show (zTurn f1 f2 f3 x).toInt = -1 from by rw [q]; rfl) (by omega))
    have hu : u_6.toInt = x.toInt * 4 := by rw [eu_6]; exact z_imulI (by show -2147483648 ≤ x.toInt * 4; omega) (by show x.toInt * 4 < 2147483648; omega)
    have hii : i_7.toInt = x.toInt * 4 + (zTurn f1 f2 f3 x).toInt := by rw [ei_7, z_iaddI (by rw [hu]; omega) (by rw [hu]; omega), hu]
    refine lv_iload_n hx hb dX6_step_16 rfl (lv_at hl 0 rfl) ?_
    refine lv_bipush (v := 28) hx hb dX6_step_17 (by decide) ?_
    refine lv_icmp_ge (tgt := 34) hx hb dX6_step_19 (by decide) (fun q => absurd q (fun q2 => absurd (show (28 : Int) ≤ i_7.toInt from (fa_le (28 : Int32) i_7).mp q2) (by omega))) (fun _ => ?_)
    refine lv_aload_n hx hb dX6_step_22 rfl (lv_at hl 2 rfl) ?_
    obtain ⟨a1_10, a2_11, a3_12, rfl⟩ := h_4
    have G : zS T A s.heap s [z, [(h, .inr (6, [.ref la, .ref a1_10, .ref a2_11, .int st, .int wh, .ref a3_12]))], [(a1_10, .inl (T.2 0, 7, .inl g1_2))], [(a2_11, .inl (T.2 0, 7, .inl f2))], [(a3_12, .inl (T.2 0, 7, .inl f3))]] _ _ := G.re rfl
    refine z_get C G clX6 1 rfl 0 (by decide) m_fl_RX6_12 rfl dX6_step_23 ?_
    obtain ⟨a1_13, a2_14, a3_15, a4_16, rfl⟩ := hz
    have G : zS T A s.heap s [[(la, .inr (4, [.int cr, .int inn, .ref a1_13, .ref a2_14, .ref a3_15, .ref a4_16]))], [(a1_13, .inl (T.2 0, 7, .inl k1))], [(a2_14, .inl (T.2 0, 28, .inl k2))], [(a3_15, .inl (T.2 0, 7, .inl k3))], [(a4_16, .inl (T.2 0, 7, .inl k4))], [(h, .inr (6, [.ref la, .ref a1_10, .ref a2_11, .int st, .int wh, .ref a3_12]))], [(a1_10, .inl (T.2 0, 7, .inl g1_2))], [(a2_11, .inl (T.2 0, 7, .inl f2))], [(a3_12, .inl (T.2 0, 7, .inl f3))]] _ _ := G.re rfl
    refine z_get C G clX4 0 rfl 3 (by decide) m_fl_RX6_46 rfl dX6_step_26 ?_
    refine lv_iload_n hx hb dX6_step_29 rfl (lv_at hl 0 rfl) ?_
    refine z_ild C G 2 rfl (vp_in_iff.mpr ⟨by omega, by omega⟩) dX6_step_30 ?_
    refine lv_topi (fun v_17 ev_17 => ?_)
    subst ev_17
    refine lv_goto (tgt := 35) hx hb dX6_step_31 (by decide) ?_
    have hw_18 : bPosts T h la g1_2 f2 f3 st wh [(h, .inr (6, [.ref la, .ref a1_10, .ref a2_11, .int st, .int wh, .ref a3_12])), (a1_10, .inl (T.2 0, 7, .inl g1_2)), (a2_11, .inl (T.2 0, 7, .inl f2)), (a3_12, .inl (T.2 0, 7, .inl f3))] := ⟨a1_10, a2_11, a3_12, rfl⟩
    have G : zS T A s.heap s [[(la, .inr (4, [.int cr, .int inn, .ref a1_13, .ref a2_14, .ref a3_15, .ref a4_16]))], [(a1_13, .inl (T.2 0, 7, .inl k1))], [(a2_14, .inl (T.2 0, 28, .inl k2))], [(a3_15, .inl (T.2 0, 7, .inl k3))], [(a4_16, .inl (T.2 0, 7, .inl k4))], [(h, .inr (6, [.ref la, .ref a1_10, .ref a2_11, .int st, .int wh, .ref a3_12])), (a1_10, .inl (T.2 0, 7, .inl g1_2)), (a2_11, .inl (T.2 0, 7, .inl f2)), (a3_12, .inl (T.2 0, 7, .inl f3))]] _ _ := G.re rfl
    have hw_19 : bLand T la cr inn k1 k2 k3 k4 [(la, .inr (4, [.int cr, .int inn, .ref a1_13, .ref a2_14, .ref a3_15, .ref a4_16])), (a1_13, .inl (T.2 0, 7, .inl k1)), (a2_14, .inl (T.2 0, 28, .inl k2)), (a3_15, .inl (T.2 0, 7, .inl k3)), (a4_16, .inl (T.2 0, 7, .inl k4))] := ⟨a1_13, a2_14, a3_15, a4_16, rfl⟩
    have G : zS T A s.heap s [[(la, .inr (4, [.int cr, .int inn, .ref a1_13, .ref a2_14, .ref a3_15, .ref a4_16])), (a1_13, .inl (T.2 0, 7, .inl k1)), (a2_14, .inl (T.2 0, 28, .inl k2)), (a3_15, .inl (T.2 0, 7, .inl k3)), (a4_16, .inl (T.2 0, 7, .inl k4))], [(h, .inr (6, [.ref la, .ref a1_10, .ref a2_11, .int st, .int wh, .ref a3_12])), (a1_10, .inl (T.2 0, 7, .inl g1_2)), (a2_11, .inl (T.2 0, 7, .inl f2)), (a3_12, .inl (T.2 0, 7, .inl f3))]] _ _ := G.re rfl
    have G := G.sub (bs' := [[(h, .inr (6, [.ref la, .ref a1_10, .ref a2_11, .int st, .int wh, .ref a3_12])), (a1_10, .inl (T.2 0, 7, .inl g1_2)), (a2_11, .inl (T.2 0, 7, .inl f2)), (a3_12, .inl (T.2 0, 7, .inl f3))], [(la, .inr (4, [.int cr, .int inn, .ref a1_13, .ref a2_14, .ref a3_15, .ref a4_16])), (a1_13, .inl (T.2 0, 7, .inl k1)), (a2_14, .inl (T.2 0, 28, .inl k2)), (a3_15, .inl (T.2 0, 7, .inl k3)), (a4_16, .inl (T.2 0, 7, .inl k4))]]) [1, 0] rfl
    exact z_iret C hr hlocks G (Nat.le_of_ble_eq_true rfl) (Nat.le_of_ble_eq_true rfl) dX6_step_35 ⟨([(h, .inr (6, [.ref la, .ref a1_10, .ref a2_11, .int st, .int wh, .ref a3_12])), (a1_10, .inl (T.2 0, 7, .inl g1_2)), (a2_11, .inl (T.2 0, 7, .inl f2)), (a3_12, .inl (T.2 0, 7, .inl f3))]), g1_2, rfl, (by unfold zStep; rw [if_neg (fun q => absurd (show (zTurn f1 f2 f3 x).toInt = -1 from by rw [q]; rfl) (by omega))]; exact congrArg k2 (by have q1 := z_clI hin.1; have q2 := z_clI hin.2.2.1; have q3 := z_clI (x := i_7) (by omega); omega)), hw_18, (by first | trivial | assumption | omega)⟩
set_option maxHeartbeats 4000000 in
set_option maxRecDepth 100000 in
/-- run -/
theorem c_Posts_run (l : Launch) (T : zTy) (h : Nat) (la : Nat) (f1 : Nat → Int32) (f2 : Nat → Int32) (f3 : Nat → Int32) (st : Int32) (wh : Int32) (w : va_W) (cr : Int32) (inn : Int32) (k1 : Nat → Int32) (k2 : Nat → Int32) (k3 : Nat → Int32) (k4 : Nat → Int32) (z : va_W) (x : Int32) (hw : bPosts T h la f1 f2 f3 st wh w) (hz : bLand T la cr inn k1 k2 k3 k4 z) (hI : zP3 f1 f3) : zMv l T yX6_run cX6_run 4 3 0 0 [.ref h, .int x] [w, z] (fun bs => ∃ (w2 : va_W) (g1 : Nat → Int32) (s2 : Int32) (x2 : Int32), bs = [w2, z] ∧ bPosts T h la g1 f2 f3 s2 x2 w2 ∧ g1 = (zRunN f2 f3 k2 499 f1 x 0).1 ∧ s2 = nI (zRunN f2 f3 k2 499 f1 x 0).2.2 ∧ x2 = (zRunN f2 f3 k2 499 f1 x 0).2.1) := by
  refine zMv_of (own := RX6) (by decide) rfl (Nat.le_of_ble_eq_true rfl) ?_
  intro p e s m args below meth c A ls C hr hlocks hnm hAe G hl
  have hx := C.1
  have hb := C.2.1
  have hl : lv_has ls 4 [(0, .ref h), (1, .int x)] := hl
  refine lv_aload_n hx hb dX6_run_0 rfl (lv_at hl 0 rfl) ?_
  refine lv_iload_n hx hb dX6_run_1 rfl (lv_at hl 1 rfl) ?_
  obtain ⟨a1_1, a2_2, a3_3, rfl⟩ := hw
  have G : zS T A s.heap s [[(h, .inr (6, [.ref la, .ref a1_1, .ref a2_2, .int st, .int wh, .ref a3_3]))], [(a1_1, .inl (T.2 0, 7, .inl f1))], [(a2_2, .inl (T.2 0, 7, .inl f2))], [(a3_3, .inl (T.2 0, 7, .inl f3))], z] _ _ := G.re rfl
  refine z_put C G clX6 0 rfl 4 (by decide) m_fl_RX6_32 rfl rfl rfl (Nat.le_of_ble_eq_true rfl) dX6_run_2 (fun H locs G => ?_)
  have G : zS T A s.heap s [[(h, .inr (6, [.ref la, .ref a1_1, .ref a2_2, .int st, .int x, .ref a3_3]))], [(a1_1, .inl (T.2 0, 7, .inl f1))], [(a2_2, .inl (T.2 0, 7, .inl f2))], [(a3_3, .inl (T.2 0, 7, .inl f3))], z] _ _ := G
  refine lv_aload_n hx hb dX6_run_5 rfl (lv_at hl 0 rfl) ?_
  refine lv_iconst (v := 0) hx hb dX6_run_6 (by decide) ?_
  refine z_put C G clX6 0 rfl 3 (by decide) m_fl_RX6_28 rfl rfl rfl (Nat.le_of_ble_eq_true rfl) dX6_run_7 (fun H locs G => ?_)
  have G : zS T A s.heap s [[(h, .inr (6, [.ref la, .ref a1_1, .ref a2_2, .int 0, .int x, .ref a3_3]))], [(a1_1, .inl (T.2 0, 7, .inl f1))], [(a2_2, .inl (T.2 0, 7, .inl f2))], [(a3_3, .inl (T.2 0, 7, .inl f3))], z] _ _ := G
  refine lv_iconst (v := 0) hx hb dX6_run_10 (by decide) ?_
  refine lv_istore_n (lv' := [(2, .int 0), (0, .ref h), (1, .int x)]) hx hb dX6_run_11 rfl hl (by decide) rfl (fun ls hl => ?_)
  have hw_4 : bPosts T h la f1 f2 f3 0 x [(h, .inr (6, [.ref la, .ref a1_1, .ref a2_2, .int 0, .int x, .ref a3_3])), (a1_1, .inl (T.2 0, 7, .inl f1)), (a2_2, .inl (T.2 0, 7, .inl f2)), (a3_3, .inl (T.2 0, 7, .inl f3))] := ⟨a1_1, a2_2, a3_3, rfl⟩
  have G : zS T A s.heap s [[(h, .inr (6, [.ref la, .ref a1_1, .ref a2_2, .int 0, .int x, .ref a3_3])), (a1_1, .inl (T.2 0, 7, .inl f1)), (a2_2, .inl (T.2 0, 7, .inl f2)), (a3_3, .inl (T.2 0, 7, .inl f3))], z] _ _ := G.re rfl
  refine z_loop (T := T) (α := Nat × Nat × va_W × (Nat → Int32) × Int32) 12 (fun (i, j, wq, xf, xx) => [wq, z]) (fun (i, j, wq, xf, xx) => [(2, .int (nI i)), (0, .ref h), (1, .int x)]) (fun (i, j, wq, xf, xx) => bPosts T h la xf f2 f3 (nI j) xx wq ∧ i ≤ 499 ∧ j ≤ i ∧ zP3 xf f3 ∧ zRunN f2 f3 k2 499 f1 x 0 = zRunN f2 f3 k2 (499 - i) xf xx j) (fun (i, j, wq, xf, xx) => 499 - i) ?_ (0, 0, ([(h, .inr (6, [.ref la, .ref a1_1, .ref a2_2, .int 0, .int x, .ref a3_3])), (a1_1, .inl (T.2 0, 7, .inl f1)), (a2_2, .inl (T.2 0, 7, .inl f2)), (a3_3, .inl (T.2 0, 7, .inl f3))]), f1, x) (show bPosts T h la f1 f2 f3 (nI 0) x ([(h, .inr (6, [.ref la, .ref a1_1, .ref a2_2, .int 0, .int x, .ref a3_3])), (a1_1, .inl (T.2 0, 7, .inl f1)), (a2_2, .inl (T.2 0, 7, .inl f2)), (a3_3, .inl (T.2 0, 7, .inl f3))]) ∧ 0 ≤ 499 ∧ 0 ≤ 0 ∧ zP3 f1 f3 ∧ zRunN f2 f3 k2 499 f1 x 0 = zRunN f2 f3 k2 (499 - 0) f1 x 0 from ⟨hw_4, by omega, by omega, hI, rfl⟩) G (lv_sub hl [0, 1, 2] rfl)
  rintro ⟨i, j, wq, xf, xx⟩ ⟨hq, hi, hj, hxf, hr_⟩ ih_12 H locs ls G hl
  replace hq : bPosts T h la xf f2 f3 (nI j) xx wq := hq
  replace hi : i ≤ 499 := hi
  replace hj : j ≤ i := hj
  replace hxf : zP3 xf f3 := hxf
  replace hr_ : zRunN f2 f3 k2 499 f1 x 0 = zRunN f2 f3 k2 (499 - i) xf xx j := hr_
  replace G : zS T A s.heap s [wq, z] _ _ := G
  replace hl : lv_has ls 4 [(2, .int (nI i)), (0, .ref h), (1, .int x)] := hl
  refine lv_iload_n hx hb dX6_run_12 rfl (lv_at hl 0 rfl) ?_
  refine lv_sipush (v := 499) hx hb dX6_run_13 (by decide) ?_
  refine lv_icmp_ge (tgt := 55) hx hb dX6_run_16 (by decide) (fun c_5 => ?_) (fun c_5 => ?_)
  · have c_5n : 499 ≤ i := (nI_leI (a := 499) (b := i) (by omega) (by omega)).mp c_5
    exact z_vret C hr hlocks G (Nat.le_of_ble_eq_true rfl) (Nat.le_of_ble_eq_true rfl) dX6_run_55 ⟨wq, xf, (nI j), xx, rfl, hq, (by rw [hr_, show 499 - i = 0 by omega]; rfl), (by rw [hr_, show 499 - i = 0 by omega]; rfl), (by rw [hr_, show 499 - i = 0 by omega]; rfl)⟩
  · have c_5n : ¬ 499 ≤ i := fun q => c_5 ((nI_leI (a := 499) (b := i) (by omega) (by omega)).mpr q)
    refine lv_aload_n hx hb dX6_run_19 rfl (lv_at hl 1 rfl) ?_
    refine lv_aload_n hx hb dX6_run_20 rfl (lv_at hl 1 rfl) ?_
    obtain ⟨a1_6, a2_7, a3_8, rfl⟩ := hq
    have G : zS T A s.heap s [[(h, .inr (6, [.ref la, .ref a1_6, .ref a2_7, .int (nI j), .int xx, .ref a3_8]))], [(a1_6, .inl (T.2 0, 7, .inl xf))], [(a2_7, .inl (T.2 0, 7, .inl f2))], [(a3_8, .inl (T.2 0, 7, .inl f3))], z] _ _ := G.re rfl
    refine z_get C G clX6 0 rfl 4 (by decide) m_fl_RX6_32 rfl dX6_run_21 ?_
    have hw_9 : bPosts T h la xf f2 f3 (nI j) xx [(h, .inr (6, [.ref la, .ref a1_6, .ref a2_7, .int (nI j), .int xx, .ref a3_8])), (a1_6, .inl (T.2 0, 7, .inl xf)), (a2_7, .inl (T.2 0, 7, .inl f2)), (a3_8, .inl (T.2 0, 7, .inl f3))] := ⟨a1_6, a2_7, a3_8, rfl⟩
    have G : zS T A s.heap s [[(h, .inr (6, [.ref la, .ref a1_6, .ref a2_7, .int (nI j), .int xx, .ref a3_8])), (a1_6, .inl (T.2 0, 7, .inl xf)), (a2_7, .inl (T.2 0, 7, .inl f2)), (a3_8, .inl (T.2 0, 7, .inl f3))], z] _ _ := G.re rfl
    refine z_Vi (bc := [[(h, .inr (6, [.ref la, .ref a1_6, .ref a2_7, .int (nI j), .int xx, .ref a3_8])), (a1_6, .inl (T.2 0, 7, .inl xf)), (a2_7, .inl (T.2 0, 7, .inl f2)), (a3_8, .inl (T.2 0, 7, .inl f3))], z]) (br := []) (As := [.int xx]) (rest := []) C G (c_step l T h la xf f2 f3 (nI j) xx ([(h, .inr (6, [.ref la, .ref a1_6, .ref a2_7, .int (nI j), .int xx, .ref a3_8])), (a1_6, .inl (T.2 0, 7, .inl xf)), (a2_7, .inl (T.2 0, 7, .inl f2)), (a3_8, .inl (T.2 0, 7, .inl f3))]) cr inn k1 k2 k3 k4 z xx hw_9 hz (by first | assumption | omega | rfl)) (kV_RX6_49 C.2.2.2.2 (Nat.le_of_ble_eq_true rfl) (Nat.le_of_ble_eq_true rfl)) [0, 1] [] rfl rfl (ci := 6) (qc := (RX6, TX6, 6)) rfl rfl (List.mem_flatten.mpr ⟨_, List.mem_of_getElem? (i := 0) rfl, (bPosts_mem hw_9).choose_spec⟩) rfl rfl hl.1 dX6_run_24 (Nat.le_of_ble_eq_true rfl) (Nat.le_of_ble_eq_true rfl) (fun r_15 b1 H locs hw G => ?_)
    obtain ⟨w2_10, g1_11, rfl, h_12, h_13, h_14⟩ := hw
    have G : zS T A s.heap s [w2_10, z] _ _ := G
    subst h_12
    refine lv_istore_n (lv' := [(3, .int (zStep xf f2 f3 k2 xx)), (2, .int (nI i)), (0, .ref h), (1, .int x)]) hx hb dX6_run_27 rfl hl (by decide) rfl (fun ls hl => ?_)
    refine lv_iload_n hx hb dX6_run_28 rfl (lv_at hl 0 rfl) ?_
    refine lv_iconst (v := (-1)) hx hb dX6_run_29 (by decide) ?_
    refine lv_icmp_ne (tgt := 34) hx hb dX6_run_30 (by decide) (fun c_16 => ?_) (fun c_16 => ?_)
    · have c_16n : ¬ (zStep xf f2 f3 k2 xx).toInt = (-1 : Int) := fun q => c_16 ((fa_eq _ _).mpr q)
      refine lv_aload_n hx hb dX6_run_34 rfl (lv_at hl 2 rfl) ?_
      refine lv_iload_n hx hb dX6_run_35 rfl (lv_at hl 0 rfl) ?_
      obtain ⟨a1_17, a2_18, a3_19, rfl⟩ := h_13
      have G : zS T A s.heap s [[(h, .inr (6, [.ref la, .ref a1_17, .ref a2_18, .int (nI j), .int xx, .ref a3_19]))], [(a1_17, .inl (T.2 0, 7, .inl g1_11))], [(a2_18, .inl (T.2 0, 7, .inl f2))], [(a3_19, .inl (T.2 0, 7, .inl f3))], z] _ _ := G.re rfl
      refine z_put C G clX6 0 rfl 4 (by decide) m_fl_RX6_32 rfl rfl rfl (Nat.le_of_ble_eq_true rfl) dX6_run_36 (fun H locs G => ?_)
      have G : zS T A s.heap s [[(h, .inr (6, [.ref la, .ref a1_17, .ref a2_18, .int (nI j), .int (zStep xf f2 f3 k2 xx), .ref a3_19]))], [(a1_17, .inl (T.2 0, 7, .inl g1_11))], [(a2_18, .inl (T.2 0, 7, .inl f2))], [(a3_19, .inl (T.2 0, 7, .inl f3))], z] _ _ := G
      refine lv_aload_n hx hb dX6_run_39 rfl (lv_at hl 2 rfl) ?_
      refine lv_dup hx hb dX6_run_40 rfl ?_
      refine z_get C G clX6 0 rfl 3 (by decide) m_fl_RX6_28 rfl dX6_run_41 ?_
      refine lv_iconst (v := 1) hx hb dX6_run_44 (by decide) ?_
      refine lv_iadd hx hb dX6_run_45 ?_
      refine lv_topi (fun y_20 ey_20 => ?_)
      obtain rfl : y_20 = nI (j + 1) := ey_20.trans (z_iaddn j 1 rfl rfl)
      refine z_put C G clX6 0 rfl 3 (by decide) m_fl_RX6_28 rfl rfl rfl (Nat.le_of_ble_eq_true rfl) dX6_run_46 (fun H locs G => ?_)
      have G : zS T A s.heap s [[(h, .inr (6, [.ref la, .ref a1_17, .ref a2_18, .int (nI (j + 1)), .int (zStep xf f2 f3 k2 xx), .ref a3_19]))], [(a1_17, .inl (T.2 0, 7, .inl g1_11))], [(a2_18, .inl (T.2 0, 7, .inl f2))], [(a3_19, .inl (T.2 0, 7, .inl f3))], z] _ _ := G
      refine lv_iinc (v := nI (i + 1)) (lv' := [(2, .int (nI (i + 1))), (3, .int (zStep xf f2 f3 k2 xx)), (0, .ref h), (1, .int x)]) hx hb dX6_run_49 hl (k := 1) rfl (z_inc i 1) (by decide) rfl (fun ls hl => ?_)
      refine lv_goto (tgt := 12) hx hb dX6_run_52 (by decide) ?_
      have hw_21 : bPosts T h la g1_11 f2 f3 (nI (j + 1)) (zStep xf f2 f3 k2 xx) [(h, .inr (6, [.ref la, .ref a1_17, .ref a2_18, .int (nI (j + 1)), .int (zStep xf f2 f3 k2 xx), .ref a3_19])), (a1_17, .inl (T.2 0, 7, .inl g1_11)), (a2_18, .inl (T.2 0, 7, .inl f2)), (a3_19, .inl (T.2 0, 7, .inl f3))] := ⟨a1_17, a2_18, a3_19, rfl⟩
      have G : zS T A s.heap s [[(h, .inr (6, [.ref la, .ref a1_17, .ref a2_18, .int (nI (j + 1)), .int (zStep xf f2 f3 k2 xx), .ref a3_19])), (a1_17, .inl (T.2 0, 7, .inl g1_11)), (a2_18, .inl (T.2 0, 7, .inl f2)), (a3_19, .inl (T.2 0, 7, .inl f3))], z] _ _ := G.re rfl
      exact ih_12 ((i + 1), (j + 1), ([(h, .inr (6, [.ref la, .ref a1_17, .ref a2_18, .int (nI (j + 1)), .int (zStep xf f2 f3 k2 xx), .ref a3_19])), (a1_17, .inl (T.2 0, 7, .inl g1_11)), (a2_18, .inl (T.2 0, 7, .inl f2)), (a3_19, .inl (T.2 0, 7, .inl f3))]), g1_11, (zStep xf f2 f3 k2 xx)) (show bPosts T h la g1_11 f2 f3 (nI (j + 1)) (zStep xf f2 f3 k2 xx) ([(h, .inr (6, [.ref la, .ref a1_17, .ref a2_18, .int (nI (j + 1)), .int (zStep xf f2 f3 k2 xx), .ref a3_19])), (a1_17, .inl (T.2 0, 7, .inl g1_11)), (a2_18, .inl (T.2 0, 7, .inl f2)), (a3_19, .inl (T.2 0, 7, .inl f3))]) ∧ (i + 1) ≤ 499 ∧ (j + 1) ≤ (i + 1) ∧ zP3 g1_11 f3 ∧ zRunN f2 f3 k2 499 f1 x 0 = zRunN f2 f3 k2 (499 - (i + 1)) g1_11 (zStep xf f2 f3 k2 xx) (j + 1) from ⟨hw_21, by omega, by omega, by rw [h_14]; exact zPost_I hxf _, by rw [hr_, show 499 - i = (499 - (i + 1)) + 1 by omega, zRunN, if_neg (by assumption), h_14]⟩) (show 499 - (i + 1) < 499 - i from by omega) _ _ ls G (lv_sub hl [0, 2, 3] rfl)
    · have c_16n : (zStep xf f2 f3 k2 xx).toInt = (-1 : Int) := (fa_eq _ _).mp c_16
      exact z_vret C hr hlocks G (Nat.le_of_ble_eq_true rfl) (Nat.le_of_ble_eq_true rfl) dX6_run_33 ⟨w2_10, g1_11, (nI j), xx, rfl, h_13, (by rw [hr_, show 499 - i = (499 - (i + 1)) + 1 by omega, zRunN, if_pos (by assumption)]; exact h_14), (by rw [hr_, show 499 - i = (499 - (i + 1)) + 1 by omega, zRunN, if_pos (by assumption)]), (by rw [hr_, show 499 - i = (499 - (i + 1)) + 1 by omega, zRunN, if_pos (by assumption)])⟩
set_option maxHeartbeats 4000000 in
set_option maxRecDepth 100000 in
/-- code -/
theorem c_code (l : Launch) (T : zTy) (h : Nat) (la : Nat) (f1 : Nat → Int32) (f2 : Nat → Int32) (f3 : Nat → Int32) (st : Int32) (wh : Int32) (w : va_W) (hw : bPosts T h la f1 f2 f3 st wh w) : zMi l T yX6_code cX6_code 3 (some .int) 1 0 0 [.ref h] [w] (fun (r : Int32) bs => bs = [w] ∧ r = zCode f1 7) := by
  refine zMi_of (own := RX6) (by decide) rfl (Nat.le_of_ble_eq_true rfl) ?_
  intro p e s m args below meth c A ls C hr hlocks hnm hAe G hl
  have hx := C.1
  have hb := C.2.1
  have hl : lv_has ls 3 [(0, .ref h)] := hl
  refine lv_iconst (v := 0) hx hb dX6_code_0 (by decide) ?_
  refine lv_istore_n (lv' := [(1, .int 0), (0, .ref h)]) hx hb dX6_code_1 rfl hl (by decide) rfl (fun ls hl => ?_)
  refine lv_iconst (v := 0) hx hb dX6_code_2 (by decide) ?_
  refine lv_istore_n (lv' := [(2, .int 0), (1, .int 0), (0, .ref h)]) hx hb dX6_code_3 rfl hl (by decide) rfl (fun ls hl => ?_)
  obtain ⟨a1_1, a2_2, a3_3, rfl⟩ := hw
  have G : zS T A s.heap s [[(h, .inr (6, [.ref la, .ref a1_1, .ref a2_2, .int st, .int wh, .ref a3_3]))], [(a1_1, .inl (T.2 0, 7, .inl f1))], [(a2_2, .inl (T.2 0, 7, .inl f2))], [(a3_3, .inl (T.2 0, 7, .inl f3))]] _ _ := G.re rfl
  have hw_4 : bPosts T h la f1 f2 f3 st wh [(h, .inr (6, [.ref la, .ref a1_1, .ref a2_2, .int st, .int wh, .ref a3_3])), (a1_1, .inl (T.2 0, 7, .inl f1)), (a2_2, .inl (T.2 0, 7, .inl f2)), (a3_3, .inl (T.2 0, 7, .inl f3))] := ⟨a1_1, a2_2, a3_3, rfl⟩
  have G : zS T A s.heap s [[(h, .inr (6, [.ref la, .ref a1_1, .ref a2_2, .int st, .int wh, .ref a3_3])), (a1_1, .inl (T.2 0, 7, .inl f1)), (a2_2, .inl (T.2 0, 7, .inl f2)), (a3_3, .inl (T.2 0, 7, .inl f3))]] _ _ := G.re rfl
  refine z_loop (T := T) (α := Nat × Int32) 4 (fun (i, v) => [[(h, .inr (6, [.ref la, .ref a1_1, .ref a2_2, .int st, .int wh, .ref a3_3])), (a1_1, .inl (T.2 0, 7, .inl f1)), (a2_2, .inl (T.2 0, 7, .inl f2)), (a3_3, .inl (T.2 0, 7, .inl f3))]]) (fun (i, v) => [(2, .int (nI i)), (1, .int v), (0, .ref h)]) (fun (i, v) => i ≤ 7 ∧ v = zCode f1 i) (fun (i, v) => 7 - i) ?_ (0, 0) (show 0 ≤ 7 ∧ 0 = zCode f1 0 from ⟨by omega, rfl⟩) G (lv_sub hl [0, 1, 2] rfl)
  rintro ⟨i, v⟩ ⟨hi, hv⟩ ih_4 H locs ls G hl
  replace hi : i ≤ 7 := hi
  replace hv : v = zCode f1 i := hv
  replace G : zS T A s.heap s [[(h, .inr (6, [.ref la, .ref a1_1, .ref a2_2, .int st, .int wh, .ref a3_3])), (a1_1, .inl (T.2 0, 7, .inl f1)), (a2_2, .inl (T.2 0, 7, .inl f2)), (a3_3, .inl (T.2 0, 7, .inl f3))]] _ _ := G
  replace hl : lv_has ls 3 [(2, .int (nI i)), (1, .int v), (0, .ref h)] := hl
  refine lv_iload_n hx hb dX6_code_4 rfl (lv_at hl 0 rfl) ?_
  refine lv_bipush (v := 7) hx hb dX6_code_5 (by decide) ?_
  refine lv_icmp_ge (tgt := 27) hx hb dX6_code_7 (by decide) (fun c_5 => ?_) (fun c_5 => ?_)
  · have c_5n : 7 ≤ i := (nI_leI (a := 7) (b := i) (by omega) (by omega)).mp c_5
    refine lv_iload_n hx hb dX6_code_27 rfl (lv_at hl 1 rfl) ?_
    exact z_iret C hr hlocks G (Nat.le_of_ble_eq_true rfl) (Nat.le_of_ble_eq_true rfl) dX6_code_28 ⟨rfl, (by rw [hv, show i = 7 by omega])⟩
  · have c_5n : ¬ 7 ≤ i := fun q => c_5 ((nI_leI (a := 7) (b := i) (by omega) (by omega)).mpr q)
    refine lv_iload_n hx hb dX6_code_10 rfl (lv_at hl 1 rfl) ?_
    refine lv_iconst (v := 4) hx hb dX6_code_11 (by decide) ?_
    refine lv_imul hx hb dX6_code_12 ?_
    refine lv_aload_n hx hb dX6_code_13 rfl (lv_at hl 2 rfl) ?_
    have G : zS T A s.heap s [[(h, .inr (6, [.ref la, .ref a1_1, .ref a2_2, .int st, .int wh, .ref a3_3]))], [(a1_1, .inl (T.2 0, 7, .inl f1))], [(a2_2, .inl (T.2 0, 7, .inl f2))], [(a3_3, .inl (T.2 0, 7, .inl f3))]] _ _ := G.re rfl
    refine z_get C G clX6 0 rfl 1 (by decide) m_fl_RX6_18 rfl dX6_code_14 ?_
    refine lv_iload_n hx hb dX6_code_17 rfl (lv_at hl 0 rfl) ?_
    refine z_ild C G 1 rfl (vp_in_nI (by omega) (by omega)) dX6_code_18 ?_
    refine lv_topi (fun v_6 ev_6 => ?_)
    rw [nI_clamp (by omega)] at ev_6
    subst ev_6
    refine lv_iadd hx hb dX6_code_19 ?_
    refine lv_istore_n (lv' := [(1, .int ((v * 4) + (f1 i))), (2, .int (nI i)), (0, .ref h)]) hx hb dX6_code_20 rfl hl (by decide) rfl (fun ls hl => ?_)
    refine lv_iinc (v := nI (i + 1)) (lv' := [(2, .int (nI (i + 1))), (1, .int ((v * 4) + (f1 i))), (0, .ref h)]) hx hb dX6_code_21 hl (k := 1) rfl (z_inc i 1) (by decide) rfl (fun ls hl => ?_)
    refine lv_goto (tgt := 4) hx hb dX6_code_24 (by decide) ?_
    have hw_7 : bPosts T h la f1 f2 f3 st wh [(h, .inr (6, [.ref la, .ref a1_1, .ref a2_2, .int st, .int wh, .ref a3_3])), (a1_1, .inl (T.2 0, 7, .inl f1)), (a2_2, .inl (T.2 0, 7, .inl f2)), (a3_3, .inl (T.2 0, 7, .inl f3))] := ⟨a1_1, a2_2, a3_3, rfl⟩
    have G : zS T A s.heap s [[(h, .inr (6, [.ref la, .ref a1_1, .ref a2_2, .int st, .int wh, .ref a3_3])), (a1_1, .inl (T.2 0, 7, .inl f1)), (a2_2, .inl (T.2 0, 7, .inl f2)), (a3_3, .inl (T.2 0, 7, .inl f3))]] _ _ := G.re rfl
    exact ih_4 ((i + 1), ((v * 4) + (f1 i))) (show (i + 1) ≤ 7 ∧ ((v * 4) + (f1 i)) = zCode f1 (i + 1) from ⟨by omega, by rw [hv]; rfl⟩) (show 7 - (i + 1) < 7 - i from by omega) _ _ ls G (lv_sub hl [0, 1, 2] rfl)


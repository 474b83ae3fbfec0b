def pDt (f : Nat → Int32) (B : Nat) (k w : Int32) : Int32 := zDayTold (f B) (fun j => f (B + (1 + 3 * j))) (fun j => f (B + (2 + 3 * j))) (fun j => f (B + (3 + 3 * j))) k w
def pGt (f : Nat → Int32) (B : Nat) (k w : Int32) : Int32 := zLogTold (f B) (fun j => f (B + (1 + 2 * j))) (fun j => f (B + (2 + 2 * j))) k w
theorem pDt_e {f : Nat → Int32} {B : Nat} {dd k w : Int32} {d1 d2 d3 : Nat → Int32} (h : zDyd dd d1 d2 d3 (fun j => f (B + j))) : zDayTold dd d1 d2 d3 k w = pDt f B k w := by
  obtain ⟨a, b, c⟩ := h
  have a : dd = f B := a
  have b : 0 ≤ (f B).toInt ∧ (f B).toInt ≤ 40 := b
  have c : ∀ j : Nat, (j : Int) < (f B).toInt → d1 j = f (B + (1 + 3 * j)) ∧ d2 j = f (B + (2 + 3 * j)) ∧ d3 j = f (B + (3 + 3 * j)) := c
  unfold pDt zDayTold
  rw [a]
  by_cases q0 : k.toInt = -1 ∧ w.toInt = 0
  · rw [if_pos q0, if_pos q0]
  rw [if_neg q0, if_neg q0]
  by_cases q1 : k.toInt < 0 ∨ (f B).toInt ≤ k.toInt ∨ 40 ≤ k.toInt
  · rw [if_pos q1, if_pos q1]
  rw [if_neg q1, if_neg q1]
  have e := z_clI (x := k) (by omega)
  have z := c k.toNatClampNeg (by omega)
  rw [z.1, z.2.1, z.2.2]
theorem pGt_e {f : Nat → Int32} {B : Nat} {dd k w : Int32} {d1 d2 : Nat → Int32} (h : zLgd dd d1 d2 (fun j => f (B + j))) : zLogTold dd d1 d2 k w = pGt f B k w := by
  obtain ⟨a, b, c⟩ := h
  have a : dd = f B := a
  have b : 0 ≤ (f B).toInt ∧ (f B).toInt ≤ 8 := b
  have c : ∀ j : Nat, (j : Int) < (f B).toInt → d1 j = f (B + (1 + 2 * j)) ∧ d2 j = f (B + (2 + 2 * j)) := c
  unfold pGt zLogTold
  rw [a]
  by_cases q0 : k.toInt = -1 ∧ w.toInt = 0
  · rw [if_pos q0, if_pos q0]
  rw [if_neg q0, if_neg q0]
  by_cases q1 : k.toInt < 0 ∨ (f B).toInt ≤ k.toInt ∨ 8 ≤ k.toInt ∨ w.toInt < 0 ∨ 1 < w.toInt
  · rw [if_pos q1, if_pos q1]
  rw [if_neg q1, if_neg q1]
  have e := z_clI (x := k) (by omega)
  have z := c k.toNatClampNeg (by omega)
  rw [z.1, z.2]
theorem pDt_0 {f : Nat → Int32} {B : Nat} {k w : Int32} (h : k.toInt = -1 ∧ w.toInt = 0) : f B = pDt f B k w := (if_pos h).symm
theorem pDt_n {f : Nat → Int32} {B : Nat} {k w : Int32} (h0 : ¬ (k.toInt = -1 ∧ w.toInt = 0)) (h : (k.toInt < 0 ∨ (f B).toInt ≤ k.toInt ∨ 40 ≤ k.toInt) ∨ w.toInt < 0 ∨ 2 < w.toInt) : (-2 : Int32) = pDt f B k w := by
  unfold pDt zDayTold
  rw [if_neg h0]
  by_cases q : k.toInt < 0 ∨ (f B).toInt ≤ k.toInt ∨ 40 ≤ k.toInt
  · rw [if_pos q]
  · rw [if_neg q, if_neg (by omega), if_neg (by omega), if_neg (by omega)]
theorem pDt_v {f : Nat → Int32} {B i : Nat} {k w : Int32} (h : 0 ≤ k.toInt ∧ k.toInt < (f B).toInt ∧ k.toInt < 40) (hw : 0 ≤ w.toInt ∧ w.toInt ≤ 2) (hi : (i : Int) = (B : Int) + 1 + 3 * k.toInt + w.toInt) : f i = pDt f B k w := by
  have e := z_clI (x := k) h.1
  unfold pDt zDayTold
  rw [if_neg (by omega), if_neg (by omega)]
  rcases (show w.toInt = 0 ∨ w.toInt = 1 ∨ w.toInt = 2 by omega) with q | q | q
  · rw [if_pos q]; exact congrArg f (by omega)
  · rw [if_neg (by omega), if_pos q]; exact congrArg f (by omega)
  · rw [if_neg (by omega), if_neg (by omega), if_pos q]; exact congrArg f (by omega)
theorem pGt_0 {f : Nat → Int32} {B : Nat} {k w : Int32} (h : k.toInt = -1 ∧ w.toInt = 0) : f B = pGt f B k w := (if_pos h).symm
theorem pGt_n {f : Nat → Int32} {B : Nat} {k w : Int32} (h0 : ¬ (k.toInt = -1 ∧ w.toInt = 0)) (h : k.toInt < 0 ∨ (f B).toInt ≤ k.toInt ∨ 8 ≤ k.toInt ∨ w.toInt < 0 ∨ 1 < w.toInt) : (-2 : Int32) = pGt f B k w := by
  unfold pGt zLogTold
  rw [if_neg h0, if_pos h]
theorem pGt_v {f : Nat → Int32} {B i : Nat} {k w : Int32} (h : 0 ≤ k.toInt ∧ k.toInt < (f B).toInt ∧ k.toInt < 8) (hw : 0 ≤ w.toInt ∧ w.toInt ≤ 1) (hi : (i : Int) = (B : Int) + 1 + 2 * k.toInt + w.toInt) : f i = pGt f B k w := by
  have e := z_clI (x := k) h.1
  unfold pGt zLogTold
  rw [if_neg (by omega), if_neg (by omega)]
  by_cases q : w.toInt = 0
  · rw [if_pos q]; exact congrArg f (by omega)
  · rw [if_neg q]; exact congrArg f (by omega)
set_option maxHeartbeats 4000000 in
set_option maxRecDepth 100000 in
/-- c_f_count -/
theorem c_f_count (l : Launch) (T : zTy) (xo : Nat) (t : Nat) (im : Nat) (mk : Nat) (rd : Nat) (po : Nat) (co : Nat) (tr : Nat) (wa : Nat) (wb_ : Nat) (fi : Nat) (cd : Nat) (l0 : Nat) (l1 : Nat) (d0 : Nat) (d1 : Nat) (g0 : Nat) (g1 : Nat) (ln : Int32) (fl : Int32) (pl : Int32) (ft : Nat → Int32) (fk : Nat → Int32) (wt : va_W) (w_ : Int32) (ht : bTold T t l0 l1 d0 d1 g0 g1 ln fl pl ft fk wt) (hK : zKT fk) : zMi l T yX11_count cX11_count 2 (some .int) 1 0 0 [.ref xo, .int w_] [[(xo, .inr (10, [.ref t, .ref im, .ref mk, .ref rd, .ref po, .ref co, .ref tr, .ref wa, .ref wb_, .ref fi, .ref cd]))], wt] (fun (r : Int32) bs => bs = [[(xo, .inr (10, [.ref t, .ref im, .ref mk, .ref rd, .ref po, .ref co, .ref tr, .ref wa, .ref wb_, .ref fi, .ref cd]))], wt] ∧ ((0 ≤ w_.toInt ∧ w_.toInt ≤ 2) ∧ r = fk w_.toNatClampNeg ∨ (w_.toInt < 0 ∨ 2 < w_.toInt) ∧ r = -2)) := by
  refine zMi_of (own := RX11) (by decide) rfl (Nat.le_of_ble_eq_true rfl) ?_
  intro p e s m args below meth c A ls C hr hlocks hnm hAe G hl
  have hx := C.1
  have hb := C.2.1
  have hl : lv_has ls 2 [(0, .ref xo), (1, .int w_)] := hl
  refine lv_iload_n hx hb dX11_count_0 rfl (lv_at hl 1 rfl) ?_
  refine lv_if_lt (tgt := 21) hx hb dX11_count_1 (by decide) (fun c_1 => ?_) (fun c_1 => ?_)
  · have c_1n : w_.toInt < (0 : Int) := (fa_lt _ _).mp c_1
    refine lv_bipush (v := (-2)) hx hb dX11_count_21 (by decide) ?_
    exact z_iret C hr hlocks G (Nat.le_of_ble_eq_true rfl) (Nat.le_of_ble_eq_true rfl) dX11_count_23 ⟨rfl, (Or.inr ⟨by omega, rfl⟩)⟩
  · have c_1n : ¬ w_.toInt < (0 : Int) := fun q => c_1 ((fa_lt _ _).mpr q)
    refine lv_iload_n hx hb dX11_count_4 rfl (lv_at hl 1 rfl) ?_
    refine lv_iconst (v := 2) hx hb dX11_count_5 (by decide) ?_
    refine lv_icmp_gt (tgt := 21) hx hb dX11_count_6 (by decide) (fun c_2 => ?_) (fun c_2 => ?_)
    · have c_2n : (2 : Int) < w_.toInt := (fa_lt _ _).mp c_2
      refine lv_bipush (v := (-2)) hx hb dX11_count_21 (by decide) ?_
      exact z_iret C hr hlocks G (Nat.le_of_ble_eq_true rfl) (Nat.le_of_ble_eq_true rfl) dX11_count_23 ⟨rfl, (Or.inr ⟨by omega, rfl⟩)⟩
    · have c_2n : ¬ (2 : Int) < w_.toInt := fun q => c_2 ((fa_lt _ _).mpr q)
      refine lv_aload_n hx hb dX11_count_9 rfl (lv_at hl 0 rfl) ?_
      refine z_get C G clX11 0 rfl 0 (by decide) m_fl_RX11_10 rfl dX11_count_10 ?_
      obtain ⟨a1_3, a2_4, a3_5, a4_6, a5_7, q1_8, q2_9, q3_10, rfl, h_11, h_12, h_13, h_14, h_15, h_16⟩ := ht
      have G : zS T A s.heap s [[(xo, .inr (10, [.ref t, .ref im, .ref mk, .ref rd, .ref po, .ref co, .ref tr, .ref wa, .ref wb_, .ref fi, .ref cd]))], [(t, .inr (8, [.ref a1_3, .int ln, .int fl, .int pl, .ref a2_4, .ref a3_5, .ref a4_6, .ref a5_7]))], [(a1_3, .inl (T.2 1, 600, .inl ft))], [(a2_4, .inl (T.2 0, 3, .inl fk))], [(a3_5, .inl (T.2 3, 2, .inr (.inr (.inr (.inr q1_8)))))], [(a4_6, .inl (T.2 4, 2, .inr (.inr (.inr (.inr q2_9)))))], [(a5_7, .inl (T.2 5, 2, .inr (.inr (.inr (.inr q3_10)))))]] _ _ := G.re rfl
      refine z_get C G clX9 1 rfl 4 (by decide) m_fl_RX11_114 rfl dX11_count_13 ?_
      refine lv_iload_n hx hb dX11_count_16 rfl (lv_at hl 1 rfl) ?_
      refine z_ild C G 3 rfl (vp_in_iff.mpr ⟨by omega, by omega⟩) dX11_count_17 ?_
      refine lv_topi (fun v_17 ev_17 => ?_)
      subst ev_17
      refine lv_goto (tgt := 23) hx hb dX11_count_18 (by decide) ?_
      have hw_18 : bTold T t l0 l1 d0 d1 g0 g1 ln fl pl ft fk [(t, .inr (8, [.ref a1_3, .int ln, .int fl, .int pl, .ref a2_4, .ref a3_5, .ref a4_6, .ref a5_7])), (a1_3, .inl (T.2 1, 600, .inl ft)), (a2_4, .inl (T.2 0, 3, .inl fk)), (a3_5, .inl (T.2 3, 2, .inr (.inr (.inr (.inr q1_8))))), (a4_6, .inl (T.2 4, 2, .inr (.inr (.inr (.inr q2_9))))), (a5_7, .inl (T.2 5, 2, .inr (.inr (.inr (.inr q3_10)))))] := ⟨a1_3, a2_4, a3_5, a4_6, a5_7, q1_8, q2_9, q3_10, rfl, h_11, h_12, h_13, h_14, h_15, h_16⟩
      have G : zS T A s.heap s [[(xo, .inr (10, [.ref t, .ref im, .ref mk, .ref rd, .ref po, .ref co, .ref tr, .ref wa, .ref wb_, .ref fi, .ref cd]))], [(t, .inr (8, [.ref a1_3, .int ln, .int fl, .int pl, .ref a2_4, .ref a3_5, .ref a4_6, .ref a5_7])), (a1_3, .inl (T.2 1, 600, .inl ft)), (a2_4, .inl (T.2 0, 3, .inl fk)), (a3_5, .inl (T.2 3, 2, .inr (.inr (.inr (.inr q1_8))))), (a4_6, .inl (T.2 4, 2, .inr (.inr (.inr (.inr q2_9))))), (a5_7, .inl (T.2 5, 2, .inr (.inr (.inr (.inr q3_10)))))]] _ _ := G.re rfl
      exact z_iret C hr hlocks G (Nat.le_of_ble_eq_true rfl) (Nat.le_of_ble_eq_true rfl) dX11_count_23 ⟨rfl, (Or.inl ⟨by omega, rfl⟩)⟩
set_option maxHeartbeats 4000000 in
set_option maxRecDepth 100000 in
/-- c_f_deed -/
theorem c_f_deed (l : Launch) (T : zTy) (xo : Nat) (t : Nat) (im : Nat) (mk : Nat) (rd : Nat) (po : Nat) (co : Nat) (tr : Nat) (wa : Nat) (wb_ : Nat) (fi : Nat) (cd : Nat) (l0 : Nat) (l1 : Nat) (d0 : Nat) (d1 : Nat) (g0 : Nat) (g1 : Nat) (ln : Int32) (fl : Int32) (pl : Int32) (ft : Nat → Int32) (fk : Nat → Int32) (wt : va_W) (dd0_ : Int32) (p10_ : Nat → Int32) (p20_ : Nat → Int32) (p30_ : Nat → Int32) (wd0_ : va_W) (dd1_ : Int32) (p11_ : Nat → Int32) (p21_ : Nat → Int32) (p31_ : Nat → Int32) (wd1_ : va_W) (i1 : Int32) (k_ : Int32) (w_ : Int32) (ht : bTold T t l0 l1 d0 d1 g0 g1 ln fl pl ft fk wt) (hK : zKT fk) (hd0_ : bDay T d0 dd0_ p10_ p20_ p30_ wd0_) (hd1_ : bDay T d1 dd1_ p11_ p21_ p31_ wd1_) : zMi l T yX11_deed cX11_deed 5 (some .int) 3 0 0 [.ref xo, .int i1, .int k_, .int w_] [[(xo, .inr (10, [.ref t, .ref im, .ref mk, .ref rd, .ref po, .ref co, .ref tr, .ref wa, .ref wb_, .ref fi, .ref cd]))], wt, wd0_, wd1_] (fun (r : Int32) bs => bs = [[(xo, .inr (10, [.ref t, .ref im, .ref mk, .ref rd, .ref po, .ref co, .ref tr, .ref wa, .ref wb_, .ref fi, .ref cd]))], wt, wd0_, wd1_] ∧ ((i1.toInt < 0 ∨ (fk 1).toInt ≤ i1.toInt ∨ 2 ≤ i1.toInt) ∧ r = -2 ∨ i1.toInt = 0 ∧ 0 < (fk 1).toInt ∧ r = zDayTold dd0_ p10_ p20_ p30_ k_ w_ ∨ i1.toInt = 1 ∧ 1 < (fk 1).toInt ∧ r = zDayTold dd1_ p11_ p21_ p31_ k_ w_)) := by
  refine zMi_of (own := RX11) (by decide) rfl (Nat.le_of_ble_eq_true rfl) ?_
  intro p e s m args below meth c A ls C hr hlocks hnm hAe G hl
  have hx := C.1
  have hb := C.2.1
  have hl : lv_has ls 5 [(0, .ref xo), (1, .int i1), (2, .int k_), (3, .int w_)] := hl
  refine lv_aload_n hx hb dX11_deed_0 rfl (lv_at hl 0 rfl) ?_
  refine z_get C G clX11 0 rfl 0 (by decide) m_fl_RX11_10 rfl dX11_deed_1 ?_
  refine lv_iload_n hx hb dX11_deed_4 rfl (lv_at hl 1 rfl) ?_
  refine z_Vq (bc := [wt]) (br := [[(xo, .inr (10, [.ref t, .ref im, .ref mk, .ref rd, .ref po, .ref co, .ref tr, .ref wa, .ref wb_, .ref fi, .ref cd]))], wd0_, wd1_]) (As := [.int i1]) (rest := []) C G (c_dayAt l T t l0 l1 d0 d1 g0 g1 ln fl pl ft fk wt i1 ht) (kV_RX11_130 C.2.2.2.2 (Nat.le_of_ble_eq_true rfl) (Nat.le_of_ble_eq_true rfl)) [1] [0, 2, 3] rfl rfl (ci := 8) (qc := (RX9, TX9, 8)) rfl rfl (List.mem_flatten.mpr ⟨_, List.mem_of_getElem? (i := 0) rfl, (bTold_mem ht).choose_spec⟩) rfl rfl hl.1 dX11_deed_5 (Nat.le_of_ble_eq_true rfl) (Nat.le_of_ble_eq_true rfl) (fun r_2 b1 H locs hw G => ?_)
  obtain ⟨rfl, hc_1⟩ := hw
  have G : zS T A s.heap s [[(xo, .inr (10, [.ref t, .ref im, .ref mk, .ref rd, .ref po, .ref co, .ref tr, .ref wa, .ref wb_, .ref fi, .ref cd]))], wd0_, wd1_, wt] _ _ := G
  rcases hc_1 with ⟨rfl, h_3⟩ | ⟨rfl, h_4, h_5⟩ | ⟨rfl, h_6, h_7⟩
  · have h_3 : (i1.toInt < 0 ∨ (fk 1).toInt ≤ i1.toInt ∨ 2 ≤ i1.toInt) := h_3
    refine lv_astoreN (lv' := [(4, .null), (0, .ref xo), (1, .int i1), (2, .int k_), (3, .int w_)]) hx hb dX11_deed_8 hl (by decide) rfl (fun ls hl => ?_)
    refine lv_aloadN hx hb dX11_deed_10 (lv_at hl 0 rfl) ?_
    refine lv_ifnonnullN hx hb dX11_deed_12 ?_
    refine lv_bipush (v := (-2)) hx hb dX11_deed_15 (by decide) ?_
    refine lv_goto (tgt := 27) hx hb dX11_deed_17 (by decide) ?_
    have G := G.sub (bs' := [[(xo, .inr (10, [.ref t, .ref im, .ref mk, .ref rd, .ref po, .ref co, .ref tr, .ref wa, .ref wb_, .ref fi, .ref cd]))], wt, wd0_, wd1_]) [0, 3, 1, 2] rfl
    exact z_iret C hr hlocks G (Nat.le_of_ble_eq_true rfl) (Nat.le_of_ble_eq_true rfl) dX11_deed_27 ⟨rfl, (Or.inl ⟨by assumption, rfl⟩)⟩
  · have h_4 : i1.toInt = 0 := h_4
    have h_5 : 0 < (fk 1).toInt := h_5
    refine lv_astore (lv' := [(4, .ref d0), (0, .ref xo), (1, .int i1), (2, .int k_), (3, .int w_)]) hx hb dX11_deed_8 hl (by decide) rfl (fun ls hl => ?_)
    refine lv_aload hx hb dX11_deed_10 (lv_at hl 0 rfl) ?_
    refine lv_ifnonnull (tgt := 20) hx hb dX11_deed_12 (by decide) ?_
    refine lv_aload hx hb dX11_deed_20 (lv_at hl 0 rfl) ?_
    refine lv_iload_n hx hb dX11_deed_22 rfl (lv_at hl 3 rfl) ?_
    refine lv_iload_n hx hb dX11_deed_23 rfl (lv_at hl 4 rfl) ?_
    refine z_Vi (bc := [wd0_]) (br := [[(xo, .inr (10, [.ref t, .ref im, .ref mk, .ref rd, .ref po, .ref co, .ref tr, .ref wa, .ref wb_, .ref fi, .ref cd]))], wd1_, wt]) (As := [.int k_, .int w_]) (rest := []) C G (c_Day_told l T d0 dd0_ p10_ p20_ p30_ wd0_ k_ w_ hd0_) (kV_RX11_134 C.2.2.2.2 (Nat.le_of_ble_eq_true rfl) (Nat.le_of_ble_eq_true rfl)) [1] [0, 2, 3] rfl rfl (ci := 2) (qc := (RX2, TX2, 4)) rfl rfl (List.mem_flatten.mpr ⟨_, List.mem_of_getElem? (i := 0) rfl, (bDay_mem hd0_).choose_spec⟩) rfl rfl hl.1 dX11_deed_24 (Nat.le_of_ble_eq_true rfl) (Nat.le_of_ble_eq_true rfl) (fun r_9 b1 H locs hw G => ?_)
    obtain ⟨rfl, h_8⟩ := hw
    have G : zS T A s.heap s [[(xo, .inr (10, [.ref t, .ref im, .ref mk, .ref rd, .ref po, .ref co, .ref tr, .ref wa, .ref wb_, .ref fi, .ref cd]))], wd1_, wt, wd0_] _ _ := G
    subst h_8
    have G := G.sub (bs' := [[(xo, .inr (10, [.ref t, .ref im, .ref mk, .ref rd, .ref po, .ref co, .ref tr, .ref wa, .ref wb_, .ref fi, .ref cd]))], wt, wd0_, wd1_]) [0, 2, 3, 1] rfl
    exact z_iret C hr hlocks G (Nat.le_of_ble_eq_true rfl) (Nat.le_of_ble_eq_true rfl) dX11_deed_27 ⟨rfl, (Or.inr (Or.inl ⟨by assumption, by assumption, rfl⟩))⟩
  · have h_6 : i1.toInt = 1 := h_6
    have h_7 : 1 < (fk 1).toInt := h_7
    refine lv_astore (lv' := [(4, .ref d1), (0, .ref xo), (1, .int i1), (2, .int k_), (3, .int w_)]) hx hb dX11_deed_8 hl (by decide) rfl (fun ls hl => ?_)
    refine lv_aload hx hb dX11_deed_10 (lv_at hl 0 rfl) ?_
    refine lv_ifnonnull (tgt := 20) hx hb dX11_deed_12 (by decide) ?_
    refine lv_aload hx hb dX11_deed_20 (lv_at hl 0 rfl) ?_
    refine lv_iload_n hx hb dX11_deed_22 rfl (lv_at hl 3 rfl) ?_
    refine lv_iload_n hx hb dX11_deed_23 rfl (lv_at hl 4 rfl) ?_
    refine z_Vi (bc := [wd1_]) (br := [[(xo, .inr (10, [.ref t, .ref im, .ref mk, .ref rd, .ref po, .ref co, .ref tr, .ref wa, .ref wb_, .ref fi, .ref cd]))], wd0_, wt]) (As := [.int k_, .int w_]) (rest := []) C G (c_Day_told l T d1 dd1_ p11_ p21_ p31_ wd1_ k_ w_ hd1_) (kV_RX11_134 C.2.2.2.2 (Nat.le_of_ble_eq_true rfl) (Nat.le_of_ble_eq_true rfl)) [2] [0, 1, 3] rfl rfl (ci := 2) (qc := (RX2, TX2, 4)) rfl rfl (List.mem_flatten.mpr ⟨_, List.mem_of_getElem? (i := 0) rfl, (bDay_mem hd1_).choose_spec⟩) rfl rfl hl.1 dX11_deed_24 (Nat.le_of_ble_eq_true rfl) (Nat.le_of_ble_eq_true rfl) (fun r_11 b1 H locs hw G => ?_)
    obtain ⟨rfl, h_10⟩ := hw
    have G : zS T A s.heap s [[(xo, .inr (10, [.ref t, .ref im, .ref mk, .ref rd, .ref po, .ref co, .ref tr, .ref wa, .ref wb_, .ref fi, .ref cd]))], wd0_, wt, wd1_] _ _ := G
    subst h_10
    have G := G.sub (bs' := [[(xo, .inr (10, [.ref t, .ref im, .ref mk, .ref rd, .ref po, .ref co, .ref tr, .ref wa, .ref wb_, .ref fi, .ref cd]))], wt, wd0_, wd1_]) [0, 2, 1, 3] rfl
    exact z_iret C hr hlocks G (Nat.le_of_ble_eq_true rfl) (Nat.le_of_ble_eq_true rfl) dX11_deed_27 ⟨rfl, (Or.inr (Or.inr ⟨by assumption, by assumption, rfl⟩))⟩
set_option maxHeartbeats 4000000 in
set_option maxRecDepth 100000 in
/-- c_f_fact -/
theorem c_f_fact (l : Launch) (T : zTy) (xo : Nat) (t : Nat) (im : Nat) (mk : Nat) (rd : Nat) (po : Nat) (co : Nat) (tr : Nat) (wa : Nat) (wb_ : Nat) (fi : Nat) (cd : Nat) (l0 : Nat) (l1 : Nat) (d0 : Nat) (d1 : Nat) (g0 : Nat) (g1 : Nat) (ln : Int32) (fl : Int32) (pl : Int32) (ft : Nat → Int32) (fk : Nat → Int32) (wt : va_W) (gg0_ : Int32) (q10_ : Nat → Int32) (q20_ : Nat → Int32) (wg0_ : va_W) (gg1_ : Int32) (q11_ : Nat → Int32) (q21_ : Nat → Int32) (wg1_ : va_W) (i1 : Int32) (k_ : Int32) (w_ : Int32) (ht : bTold T t l0 l1 d0 d1 g0 g1 ln fl pl ft fk wt) (hK : zKT fk) (hg0_ : bLog T g0 gg0_ q10_ q20_ wg0_) (hg1_ : bLog T g1 gg1_ q11_ q21_ wg1_) : zMi l T yX11_fact cX11_fact 5 (some .int) 3 0 0 [.ref xo, .int i1, .int k_, .int w_] [[(xo, .inr (10, [.ref t, .ref im, .ref mk, .ref rd, .ref po, .ref co, .ref tr, .ref wa, .ref wb_, .ref fi, .ref cd]))], wt, wg0_, wg1_] (fun (r : Int32) bs => bs = [[(xo, .inr (10, [.ref t, .ref im, .ref mk, .ref rd, .ref po, .ref co, .ref tr, .ref wa, .ref wb_, .ref fi, .ref cd]))], wt, wg0_, wg1_] ∧ ((i1.toInt < 0 ∨ (fk 2).toInt ≤ i1.toInt ∨ 2 ≤ i1.toInt) ∧ r = -2 ∨ i1.toInt = 0 ∧ 0 < (fk 2).toInt ∧ r = zLogTold gg0_ q10_ q20_ k_ w_ ∨ i1.toInt = 1 ∧ 1 < (fk 2).toInt ∧ r = zLogTold gg1_ q11_ q21_ k_ w_)) := by
  refine zMi_of (own := RX11) (by decide) rfl (Nat.le_of_ble_eq_true rfl) ?_
  intro p e s m args below meth c A ls C hr hlocks hnm hAe G hl
  have hx := C.1
  have hb := C.2.1
  have hl : lv_has ls 5 [(0, .ref xo), (1, .int i1), (2, .int k_), (3, .int w_)] := hl
  refine lv_aload_n hx hb dX11_fact_0 rfl (lv_at hl 0 rfl) ?_
  refine z_get C G clX11 0 rfl 0 (by decide) m_fl_RX11_10 rfl dX11_fact_1 ?_
  refine lv_iload_n hx hb dX11_fact_4 rfl (lv_at hl 1 rfl) ?_
  refine z_Vq (bc := [wt]) (br := [[(xo, .inr (10, [.ref t, .ref im, .ref mk, .ref rd, .ref po, .ref co, .ref tr, .ref wa, .ref wb_, .ref fi, .ref cd]))], wg0_, wg1_]) (As := [.int i1]) (rest := []) C G (c_logAt l T t l0 l1 d0 d1 g0 g1 ln fl pl ft fk wt i1 ht) (kV_RX11_138 C.2.2.2.2 (Nat.le_of_ble_eq_true rfl) (Nat.le_of_ble_eq_true rfl)) [1] [0, 2, 3] rfl rfl (ci := 8) (qc := (RX9, TX9, 8)) rfl rfl (List.mem_flatten.mpr ⟨_, List.mem_of_getElem? (i := 0) rfl, (bTold_mem ht).choose_spec⟩) rfl rfl hl.1 dX11_fact_5 (Nat.le_of_ble_eq_true rfl) (Nat.le_of_ble_eq_true rfl) (fun r_2 b1 H locs hw G => ?_)
  obtain ⟨rfl, hc_1⟩ := hw
  have G : zS T A s.heap s [[(xo, .inr (10, [.ref t, .ref im, .ref mk, .ref rd, .ref po, .ref co, .ref tr, .ref wa, .ref wb_, .ref fi, .ref cd]))], wg0_, wg1_, wt] _ _ := G
  rcases hc_1 with ⟨rfl, h_3⟩ | ⟨rfl, h_4, h_5⟩ | ⟨rfl, h_6, h_7⟩
  · have h_3 : (i1.toInt < 0 ∨ (fk 2).toInt ≤ i1.toInt ∨ 2 ≤ i1.toInt) := h_3
    refine lv_astoreN (lv' := [(4, .null), (0, .ref xo), (1, .int i1), (2, .int k_), (3, .int w_)]) hx hb dX11_fact_8 hl (by decide) rfl (fun ls hl => ?_)
    refine lv_aloadN hx hb dX11_fact_10 (lv_at hl 0 rfl) ?_
    refine lv_ifnonnullN hx hb dX11_fact_12 ?_
    refine lv_bipush (v := (-2)) hx hb dX11_fact_15 (by decide) ?_
    refine lv_goto (tgt := 27) hx hb dX11_fact_17 (by decide) ?_
    have G := G.sub (bs' := [[(xo, .inr (10, [.ref t, .ref im, .ref mk, .ref rd, .ref po, .ref co, .ref tr, .ref wa, .ref wb_, .ref fi, .ref cd]))], wt, wg0_, wg1_]) [0, 3, 1, 2] rfl
    exact z_iret C hr hlocks G (Nat.le_of_ble_eq_true rfl) (Nat.le_of_ble_eq_true rfl) dX11_fact_27 ⟨rfl, (Or.inl ⟨by assumption, rfl⟩)⟩
  · have h_4 : i1.toInt = 0 := h_4
    have h_5 : 0 < (fk 2).toInt := h_5
    refine lv_astore (lv' := [(4, .ref g0), (0, .ref xo), (1, .int i1), (2, .int k_), (3, .int w_)]) hx hb dX11_fact_8 hl (by decide) rfl (fun ls hl => ?_)
    refine lv_aload hx hb dX11_fact_10 (lv_at hl 0 rfl) ?_
    refine lv_ifnonnull (tgt := 20) hx hb dX11_fact_12 (by decide) ?_
    refine lv_aload hx hb dX11_fact_20 (lv_at hl 0 rfl) ?_
    refine lv_iload_n hx hb dX11_fact_22 rfl (lv_at hl 3 rfl) ?_
    refine lv_iload_n hx hb dX11_fact_23 rfl (lv_at hl 4 rfl) ?_
    refine z_Vi (bc := [wg0_]) (br := [[(xo, .inr (10, [.ref t, .ref im, .ref mk, .ref rd, .ref po, .ref co, .ref tr, .ref wa, .ref wb_, .ref fi, .ref cd]))], wg1_, wt]) (As := [.int k_, .int w_]) (rest := []) C G (c_Log_told l T g0 gg0_ q10_ q20_ wg0_ k_ w_ hg0_) (kV_RX11_142 C.2.2.2.2 (Nat.le_of_ble_eq_true rfl) (Nat.le_of_ble_eq_true rfl)) [1] [0, 2, 3] rfl rfl (ci := 5) (qc := (RX5, TX5, 3)) rfl rfl (List.mem_flatten.mpr ⟨_, List.mem_of_getElem? (i := 0) rfl, (bLog_mem hg0_).choose_spec⟩) rfl rfl hl.1 dX11_fact_24 (Nat.le_of_ble_eq_true rfl) (Nat.le_of_ble_eq_true rfl) (fun r_9 b1 H locs hw G => ?_)
    obtain ⟨rfl, h_8⟩ := hw
    have G : zS T A s.heap s [[(xo, .inr (10, [.ref t, .ref im, .ref mk, .ref rd, .ref po, .ref co, .ref tr, .ref wa, .ref wb_, .ref fi, .ref cd]))], wg1_, wt, wg0_] _ _ := G
    subst h_8
    have G := G.sub (bs' := [[(xo, .inr (10, [.ref t, .ref im, .ref mk, .ref rd, .ref po, .ref co, .ref tr, .ref wa, .ref wb_, .ref fi, .ref cd]))], wt, wg0_, wg1_]) [0, 2, 3, 1] rfl
    exact z_iret C hr hlocks G (Nat.le_of_ble_eq_true rfl) (Nat.le_of_ble_eq_true rfl) dX11_fact_27 ⟨rfl, (Or.inr (Or.inl ⟨by assumption, by assumption, rfl⟩))⟩
  · have h_6 : i1.toInt = 1 := h_6
    have h_7 : 1 < (fk 2).toInt := h_7
    refine lv_astore (lv' := [(4, .ref g1), (0, .ref xo), (1, .int i1), (2, .int k_), (3, .int w_)]) hx hb dX11_fact_8 hl (by decide) rfl (fun ls hl => ?_)
    refine lv_aload hx hb dX11_fact_10 (lv_at hl 0 rfl) ?_
    refine lv_ifnonnull (tgt := 20) hx hb dX11_fact_12 (by decide) ?_
    refine lv_aload hx hb dX11_fact_20 (lv_at hl 0 rfl) ?_
    refine lv_iload_n hx hb dX11_fact_22 rfl (lv_at hl 3 rfl) ?_
    refine lv_iload_n hx hb dX11_fact_23 rfl (lv_at hl 4 rfl) ?_
    refine z_Vi (bc := [wg1_]) (br := [[(xo, .inr (10, [.ref t, .ref im, .ref mk, .ref rd, .ref po, .ref co, .ref tr, .ref wa, .ref wb_, .ref fi, .ref cd]))], wg0_, wt]) (As := [.int k_, .int w_]) (rest := []) C G (c_Log_told l T g1 gg1_ q11_ q21_ wg1_ k_ w_ hg1_) (kV_RX11_142 C.2.2.2.2 (Nat.le_of_ble_eq_true rfl) (Nat.le_of_ble_eq_true rfl)) [2] [0, 1, 3] rfl rfl (ci := 5) (qc := (RX5, TX5, 3)) rfl rfl (List.mem_flatten.mpr ⟨_, List.mem_of_getElem? (i := 0) rfl, (bLog_mem hg1_).choose_spec⟩) rfl rfl hl.1 dX11_fact_24 (Nat.le_of_ble_eq_true rfl) (Nat.le_of_ble_eq_true rfl) (fun r_11 b1 H locs hw G => ?_)
    obtain ⟨rfl, h_10⟩ := hw
    have G : zS T A s.heap s [[(xo, .inr (10, [.ref t, .ref im, .ref mk, .ref rd, .ref po, .ref co, .ref tr, .ref wa, .ref wb_, .ref fi, .ref cd]))], wg0_, wt, wg1_] _ _ := G
    subst h_10
    have G := G.sub (bs' := [[(xo, .inr (10, [.ref t, .ref im, .ref mk, .ref rd, .ref po, .ref co, .ref tr, .ref wa, .ref wb_, .ref fi, .ref cd]))], wt, wg0_, wg1_]) [0, 2, 1, 3] rfl
    exact z_iret C hr hlocks G (Nat.le_of_ble_eq_true rfl) (Nat.le_of_ble_eq_true rfl) dX11_fact_27 ⟨rfl, (Or.inr (Or.inr ⟨by assumption, by assumption, rfl⟩))⟩
set_option maxHeartbeats 4000000 in
set_option maxRecDepth 100000 in
/-- c_fm_fault -/
theorem c_fm_fault (l : Launch) (T : zTy) (mo : Nat) (m_all : Nat) (m_has : Nat) (i_size : Int32) (i_next : Int32) (i_where : Int32) (i_token : Int32) (i_number : Int32) (i_word : Int32) (i_wrong : Int32) (i_farCrossing : Int32) (m_read : Nat) (i_z0 : Int32) (i_crossings : Int32) (i_inns : Int32) (m_posts : Nat) (m_shut : Nat) (m_here : Nat) (i_steps : Int32) (i_done : Int32) (i_at : Int32) (i_gone : Int32) (m_was : Nat) (m_came : Nat) (m_seenAt : Nat) (m_rowWorth : Nat) (m_farBy : Nat) (m_used : Nat) (i_everywhere : Int32) (i_again0 : Int32) (i_d0 : Int32) (i_never : Int32) (i_firstCame : Int32) (i_longRun : Int32) (i_moved : Int32) (i_crowd : Int32) (i_l0 : Int32) (i_fitMany : Int32) (i_fitLeast : Int32) (i_fitMost : Int32) (m_fitPost : Nat) (m_fitEnd : Nat) (m_keptPosts : Nat) (i_x0 : Int32) (f_all : Nat → Int32) (k_ : Int32) (hB : zBI f_all) : zMi l T yX12_fault cX12_fault 2 (some .int) 1 0 0 [.ref mo, .int k_] [[(mo, .inr (11, [.ref m_all, .ref m_has, .int i_size, .int i_next, .int i_where, .int i_token, .int i_number, .int i_word, .int i_wrong, .int i_farCrossing, .ref m_read, .int i_z0, .int i_crossings, .int i_inns, .ref m_posts, .ref m_shut, .ref m_here, .int i_steps, .int i_done, .int i_at, .int i_gone, .ref m_was, .ref m_came, .ref m_seenAt, .ref m_rowWorth, .ref m_farBy, .ref m_used, .int i_everywhere, .int i_again0, .int i_d0, .int i_never, .int i_firstCame, .int i_longRun, .int i_moved, .int i_crowd, .int i_l0, .int i_fitMany, .int i_fitLeast, .int i_fitMost, .ref m_fitPost, .ref m_fitEnd, .ref m_keptPosts, .int i_x0]))], [(m_all, .inl (T.2 0, 3952, .inl f_all))]] (fun (r : Int32) bs => bs = [[(mo, .inr (11, [.ref m_all, .ref m_has, .int i_size, .int i_next, .int i_where, .int i_token, .int i_number, .int i_word, .int i_wrong, .int i_farCrossing, .ref m_read, .int i_z0, .int i_crossings, .int i_inns, .ref m_posts, .ref m_shut, .ref m_here, .int i_steps, .int i_done, .int i_at, .int i_gone, .ref m_was, .ref m_came, .ref m_seenAt, .ref m_rowWorth, .ref m_farBy, .ref m_used, .int i_everywhere, .int i_again0, .int i_d0, .int i_never, .int i_firstCame, .int i_longRun, .int i_moved, .int i_crowd, .int i_l0, .int i_fitMany, .int i_fitLeast, .int i_fitMost, .ref m_fitPost, .ref m_fitEnd, .ref m_keptPosts, .int i_x0]))], [(m_all, .inl (T.2 0, 3952, .inl f_all))]] ∧ (k_.toInt = 0 ∧ r = f_all 5 ∨ k_.toInt = 1 ∧ r = f_all 6 ∨ (k_.toInt ≠ 0 ∧ k_.toInt ≠ 1) ∧ r = -1)) := by
  refine zMi_of (own := RX12) (by decide) rfl (Nat.le_of_ble_eq_true rfl) ?_
  intro p e s m args below meth c A ls C hr hlocks hnm hAe G hl
  have hx := C.1
  have hb := C.2.1
  have hl : lv_has ls 2 [(0, .ref mo), (1, .int k_)] := hl
  refine lv_iload_n hx hb dX12_fault_0 rfl (lv_at hl 1 rfl) ?_
  refine lv_if_ne (tgt := 13) hx hb dX12_fault_1 (by decide) (fun c_1 => ?_) (fun c_1 => ?_)
  · have c_1n : ¬ k_.toInt = (0 : Int) := fun q => c_1 ((fa_eq _ _).mpr q)
    refine lv_iload_n hx hb dX12_fault_13 rfl (lv_at hl 1 rfl) ?_
    refine lv_iconst (v := 1) hx hb dX12_fault_14 (by decide) ?_
    refine lv_icmp_ne (tgt := 28) hx hb dX12_fault_15 (by decide) (fun c_2 => ?_) (fun c_2 => ?_)
    · have c_2n : ¬ k_.toInt = (1 : Int) := fun q => c_2 ((fa_eq _ _).mpr q)
      refine lv_iconst (v := (-1)) hx hb dX12_fault_28 (by decide) ?_
      exact z_iret C hr hlocks G (Nat.le_of_ble_eq_true rfl) (Nat.le_of_ble_eq_true rfl) dX12_fault_29 ⟨rfl, (Or.inr (Or.inr ⟨by omega, rfl⟩))⟩
    · have c_2n : k_.toInt = (1 : Int) := (fa_eq _ _).mp c_2
      refine lv_aload_n hx hb dX12_fault_18 rfl (lv_at hl 0 rfl) ?_
      refine z_get C G clX12 0 rfl 0 (by decide) m_fl_RX12_7 rfl dX12_fault_19 ?_
      refine lv_bipush (v := 6) hx hb dX12_fault_22 (by decide) ?_
      refine z_ild C G 1 rfl (vp_in_nI (n := 6) (by decide) (by decide)) dX12_fault_24 ?_
      refine lv_topi (fun v_3 ev_3 => ?_)
      rw [show ((6 : Int32).toNatClampNeg) = 6 from rfl] at ev_3
      subst ev_3
      refine lv_goto (tgt := 29) hx hb dX12_fault_25 (by decide) ?_
      exact z_iret C hr hlocks G (Nat.le_of_ble_eq_true rfl) (Nat.le_of_ble_eq_true rfl) dX12_fault_29 ⟨rfl, (Or.inr (Or.inl ⟨by omega, rfl⟩))⟩
  · have c_1n : k_.toInt = (0 : Int) := (fa_eq _ _).mp c_1
    refine lv_aload_n hx hb dX12_fault_4 rfl (lv_at hl 0 rfl) ?_
    refine z_get C G clX12 0 rfl 0 (by decide) m_fl_RX12_7 rfl dX12_fault_5 ?_
    refine lv_iconst (v := 5) hx hb dX12_fault_8 (by decide) ?_
    refine z_ild C G 1 rfl (vp_in_nI (n := 5) (by decide) (by decide)) dX12_fault_9 ?_
    refine lv_topi (fun v_4 ev_4 => ?_)
    rw [show ((5 : Int32).toNatClampNeg) = 5 from rfl] at ev_4
    subst ev_4
    refine lv_goto (tgt := 29) hx hb dX12_fault_10 (by decide) ?_
    exact z_iret C hr hlocks G (Nat.le_of_ble_eq_true rfl) (Nat.le_of_ble_eq_true rfl) dX12_fault_29 ⟨rfl, (Or.inl ⟨by omega, rfl⟩)⟩
set_option maxHeartbeats 4000000 in
set_option maxRecDepth 100000 in
/-- c_fm_count -/
theorem c_fm_count (l : Launch) (T : zTy) (mo : Nat) (m_all : Nat) (m_has : Nat) (i_size : Int32) (i_next : Int32) (i_where : Int32) (i_token : Int32) (i_number : Int32) (i_word : Int32) (i_wrong : Int32) (i_farCrossing : Int32) (m_read : Nat) (i_z0 : Int32) (i_crossings : Int32) (i_inns : Int32) (m_posts : Nat) (m_shut : Nat) (m_here : Nat) (i_steps : Int32) (i_done : Int32) (i_at : Int32) (i_gone : Int32) (m_was : Nat) (m_came : Nat) (m_seenAt : Nat) (m_rowWorth : Nat) (m_farBy : Nat) (m_used : Nat) (i_everywhere : Int32) (i_again0 : Int32) (i_d0 : Int32) (i_never : Int32) (i_firstCame : Int32) (i_longRun : Int32) (i_moved : Int32) (i_crowd : Int32) (i_l0 : Int32) (i_fitMany : Int32) (i_fitLeast : Int32) (i_fitMost : Int32) (m_fitPost : Nat) (m_fitEnd : Nat) (m_keptPosts : Nat) (i_x0 : Int32) (f_all : Nat → Int32) (k_ : Int32) (hB : zBI f_all) : zMi l T yX12_count cX12_count 2 (some .int) 2 0 0 [.ref mo, .int k_] [[(mo, .inr (11, [.ref m_all, .ref m_has, .int i_size, .int i_next, .int i_where, .int i_token, .int i_number, .int i_word, .int i_wrong, .int i_farCrossing, .ref m_read, .int i_z0, .int i_crossings, .int i_inns, .ref m_posts, .ref m_shut, .ref m_here, .int i_steps, .int i_done, .int i_at, .int i_gone, .ref m_was, .ref m_came, .ref m_seenAt, .ref m_rowWorth, .ref m_farBy, .ref m_used, .int i_everywhere, .int i_again0, .int i_d0, .int i_never, .int i_firstCame, .int i_longRun, .int i_moved, .int i_crowd, .int i_l0, .int i_fitMany, .int i_fitLeast, .int i_fitMost, .ref m_fitPost, .ref m_fitEnd, .ref m_keptPosts, .int i_x0]))], [(m_all, .inl (T.2 0, 3952, .inl f_all))]] (fun (r : Int32) bs => bs = [[(mo, .inr (11, [.ref m_all, .ref m_has, .int i_size, .int i_next, .int i_where, .int i_token, .int i_number, .int i_word, .int i_wrong, .int i_farCrossing, .ref m_read, .int i_z0, .int i_crossings, .int i_inns, .ref m_posts, .ref m_shut, .ref m_here, .int i_steps, .int i_done, .int i_at, .int i_gone, .ref m_was, .ref m_came, .ref m_seenAt, .ref m_rowWorth, .ref m_farBy, .ref m_used, .int i_everywhere, .int i_again0, .int i_d0, .int i_never, .int i_firstCame, .int i_longRun, .int i_moved, .int i_crowd, .int i_l0, .int i_fitMany, .int i_fitLeast, .int i_fitMost, .ref m_fitPost, .ref m_fitEnd, .ref m_keptPosts, .int i_x0]))], [(m_all, .inl (T.2 0, 3952, .inl f_all))]] ∧ ((0 ≤ k_.toInt ∧ k_.toInt ≤ 2) ∧ r = f_all k_.toNatClampNeg ∨ (k_.toInt < 0 ∨ 2 < k_.toInt) ∧ r = -2)) := by
  refine zMi_of (own := RX12) (by decide) rfl (Nat.le_of_ble_eq_true rfl) ?_
  intro p e s m args below meth c A ls C hr hlocks hnm hAe G hl
  have hx := C.1
  have hb := C.2.1
  have hl : lv_has ls 2 [(0, .ref mo), (1, .int k_)] := hl
  refine lv_iload_n hx hb dX12_count_0 rfl (lv_at hl 1 rfl) ?_
  refine lv_iconst (v := 0) hx hb dX12_count_1 (by decide) ?_
  refine lv_iconst (v := 2) hx hb dX12_count_2 (by decide) ?_
  refine z_Si (bc := []) (br := [[(mo, .inr (11, [.ref m_all, .ref m_has, .int i_size, .int i_next, .int i_where, .int i_token, .int i_number, .int i_word, .int i_wrong, .int i_farCrossing, .ref m_read, .int i_z0, .int i_crossings, .int i_inns, .ref m_posts, .ref m_shut, .ref m_here, .int i_steps, .int i_done, .int i_at, .int i_gone, .ref m_was, .ref m_came, .ref m_seenAt, .ref m_rowWorth, .ref m_farBy, .ref m_used, .int i_everywhere, .int i_again0, .int i_d0, .int i_never, .int i_firstCame, .int i_longRun, .int i_moved, .int i_crowd, .int i_l0, .int i_fitMany, .int i_fitLeast, .int i_fitMost, .ref m_fitPost, .ref m_fitEnd, .ref m_keptPosts, .int i_x0]))], [(m_all, .inl (T.2 0, 3952, .inl f_all))]]) (As := [.int k_, .int 0, .int 2]) (rest := []) C G (c_m_isIn l T k_ 0 2) (kS_RX12_111 C.2.2.2.2 (Nat.le_of_ble_eq_true rfl) (Nat.le_of_ble_eq_true rfl)) [] [0, 1] rfl rfl rfl rfl hl.1 dX12_count_3 (Nat.le_of_ble_eq_true rfl) (Nat.le_of_ble_eq_true rfl) (fun r_2 b1 H locs hw G => ?_)
  obtain ⟨rfl, hc_1⟩ := hw
  have G : zS T A s.heap s [[(mo, .inr (11, [.ref m_all, .ref m_has, .int i_size, .int i_next, .int i_where, .int i_token, .int i_number, .int i_word, .int i_wrong, .int i_farCrossing, .ref m_read, .int i_z0, .int i_crossings, .int i_inns, .ref m_posts, .ref m_shut, .ref m_here, .int i_steps, .int i_done, .int i_at, .int i_gone, .ref m_was, .ref m_came, .ref m_seenAt, .ref m_rowWorth, .ref m_farBy, .ref m_used, .int i_everywhere, .int i_again0, .int i_d0, .int i_never, .int i_firstCame, .int i_longRun, .int i_moved, .int i_crowd, .int i_l0, .int i_fitMany, .int i_fitLeast, .int i_fitMost, .ref m_fitPost, .ref m_fitEnd, .ref m_keptPosts, .int i_x0]))], [(m_all, .inl (T.2 0, 3952, .inl f_all))]] _ _ := G
  rcases hc_1 with ⟨rfl, h_3, h_4⟩ | ⟨rfl, h_5⟩
  · have h_3 : (0 : Int) ≤ k_.toInt := h_3
    have h_4 : k_.toInt ≤ (2 : Int) := h_4
    refine lv_if_eq (tgt := 18) hx hb dX12_count_6 (by decide) (fun q => absurd q (by decide)) (fun _ => ?_)
    refine lv_aload_n hx hb dX12_count_9 rfl (lv_at hl 0 rfl) ?_
    refine z_get C G clX12 0 rfl 0 (by decide) m_fl_RX12_7 rfl dX12_count_10 ?_
    refine lv_iload_n hx hb dX12_count_13 rfl (lv_at hl 1 rfl) ?_
    refine z_ild C G 1 rfl (vp_in_iff.mpr ⟨by omega, by omega⟩) dX12_count_14 ?_
    refine lv_topi (fun v_6 ev_6 => ?_)
    subst ev_6
    refine lv_goto (tgt := 20) hx hb dX12_count_15 (by decide) ?_
    exact z_iret C hr hlocks G (Nat.le_of_ble_eq_true rfl) (Nat.le_of_ble_eq_true rfl) dX12_count_20 ⟨rfl, (Or.inl ⟨by omega, rfl⟩)⟩
  · have h_5 : (k_.toInt < (0 : Int) ∨ (2 : Int) < k_.toInt) := h_5
    refine lv_if_eq (tgt := 18) hx hb dX12_count_6 (by decide) (fun _ => ?_) (fun q => absurd (by decide) q)
    refine lv_bipush (v := (-2)) hx hb dX12_count_18 (by decide) ?_
    exact z_iret C hr hlocks G (Nat.le_of_ble_eq_true rfl) (Nat.le_of_ble_eq_true rfl) dX12_count_20 ⟨rfl, (Or.inr ⟨by omega, rfl⟩)⟩
set_option maxHeartbeats 4000000 in
set_option maxRecDepth 100000 in
/-- c_fm_deed -/
theorem c_fm_deed (l : Launch) (T : zTy) (mo : Nat) (m_all : Nat) (m_has : Nat) (i_size : Int32) (i_next : Int32) (i_where : Int32) (i_token : Int32) (i_number : Int32) (i_word : Int32) (i_wrong : Int32) (i_farCrossing : Int32) (m_read : Nat) (i_z0 : Int32) (i_crossings : Int32) (i_inns : Int32) (m_posts : Nat) (m_shut : Nat) (m_here : Nat) (i_steps : Int32) (i_done : Int32) (i_at : Int32) (i_gone : Int32) (m_was : Nat) (m_came : Nat) (m_seenAt : Nat) (m_rowWorth : Nat) (m_farBy : Nat) (m_used : Nat) (i_everywhere : Int32) (i_again0 : Int32) (i_d0 : Int32) (i_never : Int32) (i_firstCame : Int32) (i_longRun : Int32) (i_moved : Int32) (i_crowd : Int32) (i_l0 : Int32) (i_fitMany : Int32) (i_fitLeast : Int32) (i_fitMost : Int32) (m_fitPost : Nat) (m_fitEnd : Nat) (m_keptPosts : Nat) (i_x0 : Int32) (f_all : Nat → Int32) (k_ : Int32) (i_ : Int32) (w_ : Int32) (hB : zBI f_all) : zMi l T yX12_deed cX12_deed 4 (some .int) 4 0 0 [.ref mo, .int k_, .int i_, .int w_] [[(mo, .inr (11, [.ref m_all, .ref m_has, .int i_size, .int i_next, .int i_where, .int i_token, .int i_number, .int i_word, .int i_wrong, .int i_farCrossing, .ref m_read, .int i_z0, .int i_crossings, .int i_inns, .ref m_posts, .ref m_shut, .ref m_here, .int i_steps, .int i_done, .int i_at, .int i_gone, .ref m_was, .ref m_came, .ref m_seenAt, .ref m_rowWorth, .ref m_farBy, .ref m_used, .int i_everywhere, .int i_again0, .int i_d0, .int i_never, .int i_firstCame, .int i_longRun, .int i_moved, .int i_crowd, .int i_l0, .int i_fitMany, .int i_fitLeast, .int i_fitMost, .ref m_fitPost, .ref m_fitEnd, .ref m_keptPosts, .int i_x0]))], [(m_all, .inl (T.2 0, 3952, .inl f_all))]] (fun (r : Int32) bs => ∃ (j_d0 : Int32), bs = [[(mo, .inr (11, [.ref m_all, .ref m_has, .int i_size, .int i_next, .int i_where, .int i_token, .int i_number, .int i_word, .int i_wrong, .int i_farCrossing, .ref m_read, .int i_z0, .int i_crossings, .int i_inns, .ref m_posts, .ref m_shut, .ref m_here, .int i_steps, .int i_done, .int i_at, .int i_gone, .ref m_was, .ref m_came, .ref m_seenAt, .ref m_rowWorth, .ref m_farBy, .ref m_used, .int i_everywhere, .int i_again0, .int j_d0, .int i_never, .int i_firstCame, .int i_longRun, .int i_moved, .int i_crowd, .int i_l0, .int i_fitMany, .int i_fitLeast, .int i_fitMost, .ref m_fitPost, .ref m_fitEnd, .ref m_keptPosts, .int i_x0]))], [(m_all, .inl (T.2 0, 3952, .inl f_all))]] ∧ ((k_.toInt < 0 ∨ (f_all 1).toInt ≤ k_.toInt) ∧ r = -2 ∨ k_.toInt = 0 ∧ 0 < (f_all 1).toInt ∧ r = pDt f_all 712 i_ w_ ∨ k_.toInt = 1 ∧ 1 < (f_all 1).toInt ∧ r = pDt f_all 833 i_ w_)) := by
  refine zMi_of (own := RX12) (by decide) rfl (Nat.le_of_ble_eq_true rfl) ?_
  intro p e s m args below meth c A ls C hr hlocks hnm hAe G hl
  have hx := C.1
  have hb := C.2.1
  have hl : lv_has ls 4 [(0, .ref mo), (1, .int k_), (2, .int i_), (3, .int w_)] := hl
  refine lv_aload_n hx hb dX12_deed_0 rfl (lv_at hl 0 rfl) ?_
  refine lv_iload_n hx hb dX12_deed_1 rfl (lv_at hl 1 rfl) ?_
  refine z_Vi (bc := [[(mo, .inr (11, [.ref m_all, .ref m_has, .int i_size, .int i_next, .int i_where, .int i_token, .int i_number, .int i_word, .int i_wrong, .int i_farCrossing, .ref m_read, .int i_z0, .int i_crossings, .int i_inns, .ref m_posts, .ref m_shut, .ref m_here, .int i_steps, .int i_done, .int i_at, .int i_gone, .ref m_was, .ref m_came, .ref m_seenAt, .ref m_rowWorth, .ref m_farBy, .ref m_used, .int i_everywhere, .int i_again0, .int i_d0, .int i_never, .int i_firstCame, .int i_longRun, .int i_moved, .int i_crowd, .int i_l0, .int i_fitMany, .int i_fitLeast, .int i_fitMost, .ref m_fitPost, .ref m_fitEnd, .ref m_keptPosts, .int i_x0]))], [(m_all, .inl (T.2 0, 3952, .inl f_all))]]) (br := []) (As := [.int k_]) (rest := []) C G (c_m_isDay l T mo m_all m_has i_size i_next i_where i_token i_number i_word i_wrong i_farCrossing m_read i_z0 i_crossings i_inns m_posts m_shut m_here i_steps i_done i_at i_gone m_was m_came m_seenAt m_rowWorth m_farBy m_used i_everywhere i_again0 i_d0 i_never i_firstCame i_longRun i_moved i_crowd i_l0 i_fitMany i_fitLeast i_fitMost m_fitPost m_fitEnd m_keptPosts i_x0 f_all k_ (by first | assumption | omega | rfl)) (kV_RX12_305 C.2.2.2.2 (Nat.le_of_ble_eq_true rfl) (Nat.le_of_ble_eq_true rfl)) [0, 1] [] rfl rfl (ci := 11) (qc := (RX12, TX12, 43)) rfl rfl (List.mem_flatten.mpr ⟨_, List.mem_of_getElem? (i := 0) rfl, List.mem_cons_self⟩) rfl rfl hl.1 dX12_deed_2 (Nat.le_of_ble_eq_true rfl) (Nat.le_of_ble_eq_true rfl) (fun r_3 b1 H locs hw G => ?_)
  obtain ⟨j_d0_1, rfl, hc_2⟩ := hw
  have G : zS T A s.heap s [[(mo, .inr (11, [.ref m_all, .ref m_has, .int i_size, .int i_next, .int i_where, .int i_token, .int i_number, .int i_word, .int i_wrong, .int i_farCrossing, .ref m_read, .int i_z0, .int i_crossings, .int i_inns, .ref m_posts, .ref m_shut, .ref m_here, .int i_steps, .int i_done, .int i_at, .int i_gone, .ref m_was, .ref m_came, .ref m_seenAt, .ref m_rowWorth, .ref m_farBy, .ref m_used, .int i_everywhere, .int i_again0, .int j_d0_1, .int i_never, .int i_firstCame, .int i_longRun, .int i_moved, .int i_crowd, .int i_l0, .int i_fitMany, .int i_fitLeast, .int i_fitMost, .ref m_fitPost, .ref m_fitEnd, .ref m_keptPosts, .int i_x0]))], [(m_all, .inl (T.2 0, 3952, .inl f_all))]] _ _ := G
  rcases hc_2 with ⟨rfl, h_4, h_5, h_6, h_7⟩ | ⟨rfl, h_8⟩
  · have h_4 : 0 ≤ k_.toInt := h_4
    have h_5 : k_.toInt < (f_all 1).toInt := h_5
    have h_6 : j_d0_1.toInt = 712 + 121 * k_.toInt := h_6
    have h_7 : zMD f_all j_d0_1 := h_7
    have hD := h_7
    have hDa := hD.1
    have hDb := hD.2
    refine lv_if_ne (tgt := 11) hx hb dX12_deed_5 (by decide) (fun _ => ?_) (fun q => absurd q (by decide))
    rcases (show k_.toInt = 0 ∨ k_.toInt = 1 from by have hq9 := hB.2.1 1 (by decide); omega) with hkk | hkk
    · obtain rfl : j_d0_1 = 712 := Int32.toInt_inj.mp (by show j_d0_1.toInt = 712; omega)
      have hdb : 0 ≤ (f_all 712).toInt ∧ (f_all 712).toInt ≤ 40 := hDb
      refine lv_iload_n hx hb dX12_deed_11 rfl (lv_at hl 2 rfl) ?_
      refine lv_iconst (v := (-1)) hx hb dX12_deed_12 (by decide) ?_
      refine lv_icmp_ne (tgt := 35) hx hb dX12_deed_13 (by decide) (fun c_9 => ?_) (fun c_9 => ?_)
      · have c_9n : ¬ i_.toInt = (-1 : Int) := fun q => c_9 ((fa_eq _ _).mpr q)
        refine lv_iload_n hx hb dX12_deed_35 rfl (lv_at hl 2 rfl) ?_
        refine lv_iconst (v := 0) hx hb dX12_deed_36 (by decide) ?_
        refine lv_aload_n hx hb dX12_deed_37 rfl (lv_at hl 0 rfl) ?_
        refine z_get C G clX12 0 rfl 0 (by decide) m_fl_RX12_7 rfl dX12_deed_38 ?_
        refine lv_aload_n hx hb dX12_deed_41 rfl (lv_at hl 0 rfl) ?_
        refine z_get C G clX12 0 rfl 29 (by decide) m_fl_RX12_302 rfl dX12_deed_42 ?_
        refine z_ild C G 1 rfl (vp_in_nI (n := 712) (by decide) (by decide)) dX12_deed_45 ?_
        refine lv_topi (fun v_10 ev_10 => ?_)
        rw [show ((712 : Int32).toNatClampNeg) = 712 from rfl] at ev_10
        subst ev_10
        refine lv_iconst (v := 1) hx hb dX12_deed_46 (by decide) ?_
        refine lv_isub hx hb dX12_deed_47 ?_
        refine lv_topi (fun y_11 ey_11 => ?_)
        have ey_11i : y_11.toInt = (f_all 712).toInt - (1 : Int) := by rw [ey_11]; exact z_isubI (x := (f_all 712)) (y := (1 : Int32)) (by show -2147483648 ≤ (f_all 712).toInt - (1 : Int); omega) (by show (f_all 712).toInt - (1 : Int) < 2147483648; omega)
        refine z_Si (bc := []) (br := [[(mo, .inr (11, [.ref m_all, .ref m_has, .int i_size, .int i_next, .int i_where, .int i_token, .int i_number, .int i_word, .int i_wrong, .int i_farCrossing, .ref m_read, .int i_z0, .int i_crossings, .int i_inns, .ref m_posts, .ref m_shut, .ref m_here, .int i_steps, .int i_done, .int i_at, .int i_gone, .ref m_was, .ref m_came, .ref m_seenAt, .ref m_rowWorth, .ref m_farBy, .ref m_used, .int i_everywhere, .int i_again0, .int 712, .int i_never, .int i_firstCame, .int i_longRun, .int i_moved, .int i_crowd, .int i_l0, .int i_fitMany, .int i_fitLeast, .int i_fitMost, .ref m_fitPost, .ref m_fitEnd, .ref m_keptPosts, .int i_x0]))], [(m_all, .inl (T.2 0, 3952, .inl f_all))]]) (As := [.int i_, .int 0, .int y_11]) (rest := []) C G (c_m_isIn l T i_ 0 y_11) (kS_RX12_111 C.2.2.2.2 (Nat.le_of_ble_eq_true rfl) (Nat.le_of_ble_eq_true rfl)) [] [0, 1] rfl rfl rfl rfl hl.1 dX12_deed_48 (Nat.le_of_ble_eq_true rfl) (Nat.le_of_ble_eq_true rfl) (fun r_13 b1 H locs hw G => ?_)
        obtain ⟨rfl, hc_12⟩ := hw
        have G : zS T A s.heap s [[(mo, .inr (11, [.ref m_all, .ref m_has, .int i_size, .int i_next, .int i_where, .int i_token, .int i_number, .int i_word, .int i_wrong, .int i_farCrossing, .ref m_read, .int i_z0, .int i_crossings, .int i_inns, .ref m_posts, .ref m_shut, .ref m_here, .int i_steps, .int i_done, .int i_at, .int i_gone, .ref m_was, .ref m_came, .ref m_seenAt, .ref m_rowWorth, .ref m_farBy, .ref m_used, .int i_everywhere, .int i_again0, .int 712, .int i_never, .int i_firstCame, .int i_longRun, .int i_moved, .int i_crowd, .int i_l0, .int i_fitMany, .int i_fitLeast, .int i_fitMost, .ref m_fitPost, .ref m_fitEnd, .ref m_keptPosts, .int i_x0]))], [(m_all, .inl (T.2 0, 3952, .inl f_all))]] _ _ := G
        rcases hc_12 with ⟨rfl, h_14, h_15⟩ | ⟨rfl, h_16⟩
        · have h_14 : (0 : Int) ≤ i_.toInt := h_14
          have h_15 : i_.toInt ≤ y_11.toInt := h_15
          refine lv_if_eq (tgt := 83) hx hb dX12_deed_51 (by decide) (fun q => absurd q (by decide)) (fun _ => ?_)
          refine lv_iload_n hx hb dX12_deed_54 rfl (lv_at hl 3 rfl) ?_
          refine lv_iconst (v := 0) hx hb dX12_deed_55 (by decide) ?_
          refine lv_iconst (v := 2) hx hb dX12_deed_56 (by decide) ?_
          refine z_Si (bc := []) (br := [[(mo, .inr (11, [.ref m_all, .ref m_has, .int i_size, .int i_next, .int i_where, .int i_token, .int i_number, .int i_word, .int i_wrong, .int i_farCrossing, .ref m_read, .int i_z0, .int i_crossings, .int i_inns, .ref m_posts, .ref m_shut, .ref m_here, .int i_steps, .int i_done, .int i_at, .int i_gone, .ref m_was, .ref m_came, .ref m_seenAt, .ref m_rowWorth, .ref m_farBy, .ref m_used, .int i_everywhere, .int i_again0, .int 712, .int i_never, .int i_firstCame, .int i_longRun, .int i_moved, .int i_crowd, .int i_l0, .int i_fitMany, .int i_fitLeast, .int i_fitMost, .ref m_fitPost, .ref m_fitEnd, .ref m_keptPosts, .int i_x0]))], [(m_all, .inl (T.2 0, 3952, .inl f_all))]]) (As := [.int w_, .int 0, .int 2]) (rest := []) C G (c_m_isIn l T w_ 0 2) (kS_RX12_111 C.2.2.2.2 (Nat.le_of_ble_eq_true rfl) (Nat.le_of_ble_eq_true rfl)) [] [0, 1] rfl rfl rfl rfl hl.1 dX12_deed_57 (Nat.le_of_ble_eq_true rfl) (Nat.le_of_ble_eq_true rfl) (fun r_18 b1 H locs hw G => ?_)
          obtain ⟨rfl, hc_17⟩ := hw
          have G : zS T A s.heap s [[(mo, .inr (11, [.ref m_all, .ref m_has, .int i_size, .int i_next, .int i_where, .int i_token, .int i_number, .int i_word, .int i_wrong, .int i_farCrossing, .ref m_read, .int i_z0, .int i_crossings, .int i_inns, .ref m_posts, .ref m_shut, .ref m_here, .int i_steps, .int i_done, .int i_at, .int i_gone, .ref m_was, .ref m_came, .ref m_seenAt, .ref m_rowWorth, .ref m_farBy, .ref m_used, .int i_everywhere, .int i_again0, .int 712, .int i_never, .int i_firstCame, .int i_longRun, .int i_moved, .int i_crowd, .int i_l0, .int i_fitMany, .int i_fitLeast, .int i_fitMost, .ref m_fitPost, .ref m_fitEnd, .ref m_keptPosts, .int i_x0]))], [(m_all, .inl (T.2 0, 3952, .inl f_all))]] _ _ := G
          rcases hc_17 with ⟨rfl, h_19, h_20⟩ | ⟨rfl, h_21⟩
          · have h_19 : (0 : Int) ≤ w_.toInt := h_19
            have h_20 : w_.toInt ≤ (2 : Int) := h_20
            refine lv_if_eq (tgt := 83) hx hb dX12_deed_60 (by decide) (fun q => absurd q (by decide)) (fun _ => ?_)
            refine lv_aload_n hx hb dX12_deed_63 rfl (lv_at hl 0 rfl) ?_
            refine z_get C G clX12 0 rfl 0 (by decide) m_fl_RX12_7 rfl dX12_deed_64 ?_
            refine lv_aload_n hx hb dX12_deed_67 rfl (lv_at hl 0 rfl) ?_
            refine z_get C G clX12 0 rfl 29 (by decide) m_fl_RX12_302 rfl dX12_deed_68 ?_
            refine lv_iconst (v := 1) hx hb dX12_deed_71 (by decide) ?_
            refine lv_iadd hx hb dX12_deed_72 ?_
            refine lv_topi (fun y_22 ey_22 => ?_)
            obtain rfl : y_22 = 713 := ey_22.trans (by decide)
            refine lv_iconst (v := 3) hx hb dX12_deed_73 (by decide) ?_
            refine lv_iload_n hx hb dX12_deed_74 rfl (lv_at hl 2 rfl) ?_
            refine lv_imul hx hb dX12_deed_75 ?_
            refine lv_topi (fun y_23 ey_23 => ?_)
            have ey_23i : y_23.toInt = (3 : Int) * i_.toInt := by rw [ey_23]; exact z_imulI (x := (3 : Int32)) (y := i_) (by show -2147483648 ≤ (3 : Int) * i_.toInt; omega) (by show (3 : Int) * i_.toInt < 2147483648; omega)
            refine lv_iadd hx hb dX12_deed_76 ?_
            refine lv_topi (fun y_24 ey_24 => ?_)
            have ey_24i : y_24.toInt = (713 : Int) + y_23.toInt := by rw [ey_24]; exact z_iaddI (x := (713 : Int32)) (y := y_23) (by show -2147483648 ≤ (713 : Int) + y_23.toInt; omega) (by show (713 : Int) + y_23.toInt < 2147483648; omega)
            refine lv_iload_n hx hb dX12_deed_77 rfl (lv_at hl 3 rfl) ?_
            refine lv_iadd hx hb dX12_deed_78 ?_
            refine lv_topi (fun y_25 ey_25 => ?_)
            have ey_25i : y_25.toInt = y_24.toInt + w_.toInt := by rw [ey_25]; exact z_iaddI (x := y_24) (y := w_) (by show -2147483648 ≤ y_24.toInt + w_.toInt; omega) (by show y_24.toInt + w_.toInt < 2147483648; omega)
            refine z_ild C G 1 rfl (vp_in_iff.mpr ⟨by omega, by omega⟩) dX12_deed_79 ?_
            refine lv_topi (fun v_26 ev_26 => ?_)
            subst ev_26
            refine lv_goto (tgt := 85) hx hb dX12_deed_80 (by decide) ?_
            exact z_iret C hr hlocks G (Nat.le_of_ble_eq_true rfl) (Nat.le_of_ble_eq_true rfl) dX12_deed_85 ⟨712, rfl, (Or.inr (Or.inl ⟨by assumption, by omega, (pDt_v (by omega) (by omega) (by have q9 := z_clI (x := y_25) (by omega); omega))⟩))⟩
          · have h_21 : (w_.toInt < (0 : Int) ∨ (2 : Int) < w_.toInt) := h_21
            refine lv_if_eq (tgt := 83) hx hb dX12_deed_60 (by decide) (fun _ => ?_) (fun q => absurd (by decide) q)
            refine lv_bipush (v := (-2)) hx hb dX12_deed_83 (by decide) ?_
            exact z_iret C hr hlocks G (Nat.le_of_ble_eq_true rfl) (Nat.le_of_ble_eq_true rfl) dX12_deed_85 ⟨712, rfl, (Or.inr (Or.inl ⟨by assumption, by omega, (pDt_n (by omega) (by omega))⟩))⟩
        · have h_16 : (i_.toInt < (0 : Int) ∨ y_11.toInt < i_.toInt) := h_16
          refine lv_if_eq (tgt := 83) hx hb dX12_deed_51 (by decide) (fun _ => ?_) (fun q => absurd (by decide) q)
          refine lv_bipush (v := (-2)) hx hb dX12_deed_83 (by decide) ?_
          exact z_iret C hr hlocks G (Nat.le_of_ble_eq_true rfl) (Nat.le_of_ble_eq_true rfl) dX12_deed_85 ⟨712, rfl, (Or.inr (Or.inl ⟨by assumption, by omega, (pDt_n (by omega) (by omega))⟩))⟩
      · have c_9n : i_.toInt = (-1 : Int) := (fa_eq _ _).mp c_9
        refine lv_iload_n hx hb dX12_deed_16 rfl (lv_at hl 3 rfl) ?_
        refine lv_if_ne (tgt := 32) hx hb dX12_deed_17 (by decide) (fun c_27 => ?_) (fun c_27 => ?_)
        · have c_27n : ¬ w_.toInt = (0 : Int) := fun q => c_27 ((fa_eq _ _).mpr q)
          refine lv_bipush (v := (-2)) hx hb dX12_deed_32 (by decide) ?_
          exact z_iret C hr hlocks G (Nat.le_of_ble_eq_true rfl) (Nat.le_of_ble_eq_true rfl) dX12_deed_34 ⟨712, rfl, (Or.inr (Or.inl ⟨by assumption, by omega, (pDt_n (by omega) (by omega))⟩))⟩
        · have c_27n : w_.toInt = (0 : Int) := (fa_eq _ _).mp c_27
          refine lv_aload_n hx hb dX12_deed_20 rfl (lv_at hl 0 rfl) ?_
          refine z_get C G clX12 0 rfl 0 (by decide) m_fl_RX12_7 rfl dX12_deed_21 ?_
          refine lv_aload_n hx hb dX12_deed_24 rfl (lv_at hl 0 rfl) ?_
          refine z_get C G clX12 0 rfl 29 (by decide) m_fl_RX12_302 rfl dX12_deed_25 ?_
          refine z_ild C G 1 rfl (vp_in_nI (n := 712) (by decide) (by decide)) dX12_deed_28 ?_
          refine lv_topi (fun v_28 ev_28 => ?_)
          rw [show ((712 : Int32).toNatClampNeg) = 712 from rfl] at ev_28
          subst ev_28
          refine lv_goto (tgt := 34) hx hb dX12_deed_29 (by decide) ?_
          exact z_iret C hr hlocks G (Nat.le_of_ble_eq_true rfl) (Nat.le_of_ble_eq_true rfl) dX12_deed_34 ⟨712, rfl, (Or.inr (Or.inl ⟨by assumption, by omega, (pDt_0 (by omega))⟩))⟩
    · obtain rfl : j_d0_1 = 833 := Int32.toInt_inj.mp (by show j_d0_1.toInt = 833; omega)
      have hdb : 0 ≤ (f_all 833).toInt ∧ (f_all 833).toInt ≤ 40 := hDb
      refine lv_iload_n hx hb dX12_deed_11 rfl (lv_at hl 2 rfl) ?_
      refine lv_iconst (v := (-1)) hx hb dX12_deed_12 (by decide) ?_
      refine lv_icmp_ne (tgt := 35) hx hb dX12_deed_13 (by decide) (fun c_29 => ?_) (fun c_29 => ?_)
      · have c_29n : ¬ i_.toInt = (-1 : Int) := fun q => c_29 ((fa_eq _ _).mpr q)
        refine lv_iload_n hx hb dX12_deed_35 rfl (lv_at hl 2 rfl) ?_
        refine lv_iconst (v := 0) hx hb dX12_deed_36 (by decide) ?_
        refine lv_aload_n hx hb dX12_deed_37 rfl (lv_at hl 0 rfl) ?_
        refine z_get C G clX12 0 rfl 0 (by decide) m_fl_RX12_7 rfl dX12_deed_38 ?_
        refine lv_aload_n hx hb dX12_deed_41 rfl (lv_at hl 0 rfl) ?_
        refine z_get C G clX12 0 rfl 29 (by decide) m_fl_RX12_302 rfl dX12_deed_42 ?_
        refine z_ild C G 1 rfl (vp_in_nI (n := 833) (by decide) (by decide)) dX12_deed_45 ?_
        refine lv_topi (fun v_30 ev_30 => ?_)
        rw [show ((833 : Int32).toNatClampNeg) = 833 from rfl] at ev_30
        subst ev_30
        refine lv_iconst (v := 1) hx hb dX12_deed_46 (by decide) ?_
        refine lv_isub hx hb dX12_deed_47 ?_
        refine lv_topi (fun y_31 ey_31 => ?_)
        have ey_31i : y_31.toInt = (f_all 833).toInt - (1 : Int) := by rw [ey_31]; exact z_isubI (x := (f_all 833)) (y := (1 : Int32)) (by show -2147483648 ≤ (f_all 833).toInt - (1 : Int); omega) (by show (f_all 833).toInt - (1 : Int) < 2147483648; omega)
        refine z_Si (bc := []) (br := [[(mo, .inr (11, [.ref m_all, .ref m_has, .int i_size, .int i_next, .int i_where, .int i_token, .int i_number, .int i_word, .int i_wrong, .int i_farCrossing, .ref m_read, .int i_z0, .int i_crossings, .int i_inns, .ref m_posts, .ref m_shut, .ref m_here, .int i_steps, .int i_done, .int i_at, .int i_gone, .ref m_was, .ref m_came, .ref m_seenAt, .ref m_rowWorth, .ref m_farBy, .ref m_used, .int i_everywhere, .int i_again0, .int 833, .int i_never, .int i_firstCame, .int i_longRun, .int i_moved, .int i_crowd, .int i_l0, .int i_fitMany, .int i_fitLeast, .int i_fitMost, .ref m_fitPost, .ref m_fitEnd, .ref m_keptPosts, .int i_x0]))], [(m_all, .inl (T.2 0, 3952, .inl f_all))]]) (As := [.int i_, .int 0, .int y_31]) (rest := []) C G (c_m_isIn l T i_ 0 y_31) (kS_RX12_111 C.2.2.2.2 (Nat.le_of_ble_eq_true rfl) (Nat.le_of_ble_eq_true rfl)) [] [0, 1] rfl rfl rfl rfl hl.1 dX12_deed_48 (Nat.le_of_ble_eq_true rfl) (Nat.le_of_ble_eq_true rfl) (fun r_33 b1 H locs hw G => ?_)
        obtain ⟨rfl, hc_32⟩ := hw
        have G : zS T A s.heap s [[(mo, .inr (11, [.ref m_all, .ref m_has, .int i_size, .int i_next, .int i_where, .int i_token, .int i_number, .int i_word, .int i_wrong, .int i_farCrossing, .ref m_read, .int i_z0, .int i_crossings, .int i_inns, .ref m_posts, .ref m_shut, .ref m_here, .int i_steps, .int i_done, .int i_at, .int i_gone, .ref m_was, .ref m_came, .ref m_seenAt, .ref m_rowWorth, .ref m_farBy, .ref m_used, .int i_everywhere, .int i_again0, .int 833, .int i_never, .int i_firstCame, .int i_longRun, .int i_moved, .int i_crowd, .int i_l0, .int i_fitMany, .int i_fitLeast, .int i_fitMost, .ref m_fitPost, .ref m_fitEnd, .ref m_keptPosts, .int i_x0]))], [(m_all, .inl (T.2 0, 3952, .inl f_all))]] _ _ := G
        rcases hc_32 with ⟨rfl, h_34, h_35⟩ | ⟨rfl, h_36⟩
        · have h_34 : (0 : Int) ≤ i_.toInt := h_34
          have h_35 : i_.toInt ≤ y_31.toInt := h_35
          refine lv_if_eq (tgt := 83) hx hb dX12_deed_51 (by decide) (fun q => absurd q (by decide)) (fun _ => ?_)
          refine lv_iload_n hx hb dX12_deed_54 rfl (lv_at hl 3 rfl) ?_
          refine lv_iconst (v := 0) hx hb dX12_deed_55 (by decide) ?_
          refine lv_iconst (v := 2) hx hb dX12_deed_56 (by decide) ?_
          refine z_Si (bc := []) (br := [[(mo, .inr (11, [.ref m_all, .ref m_has, .int i_size, .int i_next, .int i_where, .int i_token, .int i_number, .int i_word, .int i_wrong, .int i_farCrossing, .ref m_read, .int i_z0, .int i_crossings, .int i_inns, .ref m_posts, .ref m_shut, .ref m_here, .int i_steps, .int i_done, .int i_at, .int i_gone, .ref m_was, .ref m_came, .ref m_seenAt, .ref m_rowWorth, .ref m_farBy, .ref m_used, .int i_everywhere, .int i_again0, .int 833, .int i_never, .int i_firstCame, .int i_longRun, .int i_moved, .int i_crowd, .int i_l0, .int i_fitMany, .int i_fitLeast, .int i_fitMost, .ref m_fitPost, .ref m_fitEnd, .ref m_keptPosts, .int i_x0]))], [(m_all, .inl (T.2 0, 3952, .inl f_all))]]) (As := [.int w_, .int 0, .int 2]) (rest := []) C G (c_m_isIn l T w_ 0 2) (kS_RX12_111 C.2.2.2.2 (Nat.le_of_ble_eq_true rfl) (Nat.le_of_ble_eq_true rfl)) [] [0, 1] rfl rfl rfl rfl hl.1 dX12_deed_57 (Nat.le_of_ble_eq_true rfl) (Nat.le_of_ble_eq_true rfl) (fun r_38 b1 H locs hw G => ?_)
          obtain ⟨rfl, hc_37⟩ := hw
          have G : zS T A s.heap s [[(mo, .inr (11, [.ref m_all, .ref m_has, .int i_size, .int i_next, .int i_where, .int i_token, .int i_number, .int i_word, .int i_wrong, .int i_farCrossing, .ref m_read, .int i_z0, .int i_crossings, .int i_inns, .ref m_posts, .ref m_shut, .ref m_here, .int i_steps, .int i_done, .int i_at, .int i_gone, .ref m_was, .ref m_came, .ref m_seenAt, .ref m_rowWorth, .ref m_farBy, .ref m_used, .int i_everywhere, .int i_again0, .int 833, .int i_never, .int i_firstCame, .int i_longRun, .int i_moved, .int i_crowd, .int i_l0, .int i_fitMany, .int i_fitLeast, .int i_fitMost, .ref m_fitPost, .ref m_fitEnd, .ref m_keptPosts, .int i_x0]))], [(m_all, .inl (T.2 0, 3952, .inl f_all))]] _ _ := G
          rcases hc_37 with ⟨rfl, h_39, h_40⟩ | ⟨rfl, h_41⟩
          · have h_39 : (0 : Int) ≤ w_.toInt := h_39
            have h_40 : w_.toInt ≤ (2 : Int) := h_40
            refine lv_if_eq (tgt := 83) hx hb dX12_deed_60 (by decide) (fun q => absurd q (by decide)) (fun _ => ?_)
            refine lv_aload_n hx hb dX12_deed_63 rfl (lv_at hl 0 rfl) ?_
            refine z_get C G clX12 0 rfl 0 (by decide) m_fl_RX12_7 rfl dX12_deed_64 ?_
            refine lv_aload_n hx hb dX12_deed_67 rfl (lv_at hl 0 rfl) ?_
            refine z_get C G clX12 0 rfl 29 (by decide) m_fl_RX12_302 rfl dX12_deed_68 ?_
            refine lv_iconst (v := 1) hx hb dX12_deed_71 (by decide) ?_
            refine lv_iadd hx hb dX12_deed_72 ?_
            refine lv_topi (fun y_42 ey_42 => ?_)
            obtain rfl : y_42 = 834 := ey_42.trans (by decide)
            refine lv_iconst (v := 3) hx hb dX12_deed_73 (by decide) ?_
            refine lv_iload_n hx hb dX12_deed_74 rfl (lv_at hl 2 rfl) ?_
            refine lv_imul hx hb dX12_deed_75 ?_
            refine lv_topi (fun y_43 ey_43 => ?_)
            have ey_43i : y_43.toInt = (3 : Int) * i_.toInt := by rw [ey_43]; exact z_imulI (x := (3 : Int32)) (y := i_) (by show -2147483648 ≤ (3 : Int) * i_.toInt; omega) (by show (3 : Int) * i_.toInt < 2147483648; omega)
            refine lv_iadd hx hb dX12_deed_76 ?_
            refine lv_topi (fun y_44 ey_44 => ?_)
            have ey_44i : y_44.toInt = (834 : Int) + y_43.toInt := by rw [ey_44]; exact z_iaddI (x := (834 : Int32)) (y := y_43) (by show -2147483648 ≤ (834 : Int) + y_43.toInt; omega) (by show (834 : Int) + y_43.toInt < 2147483648; omega)
            refine lv_iload_n hx hb dX12_deed_77 rfl (lv_at hl 3 rfl) ?_
            refine lv_iadd hx hb dX12_deed_78 ?_
            refine lv_topi (fun y_45 ey_45 => ?_)
            have ey_45i : y_45.toInt = y_44.toInt + w_.toInt := by rw [ey_45]; exact z_iaddI (x := y_44) (y := w_) (by show -2147483648 ≤ y_44.toInt + w_.toInt; omega) (by show y_44.toInt + w_.toInt < 2147483648; omega)
            refine z_ild C G 1 rfl (vp_in_iff.mpr ⟨by omega, by omega⟩) dX12_deed_79 ?_
            refine lv_topi (fun v_46 ev_46 => ?_)
            subst ev_46
            refine lv_goto (tgt := 85) hx hb dX12_deed_80 (by decide) ?_
            exact z_iret C hr hlocks G (Nat.le_of_ble_eq_true rfl) (Nat.le_of_ble_eq_true rfl) dX12_deed_85 ⟨833, rfl, (Or.inr (Or.inr ⟨by assumption, by omega, (pDt_v (by omega) (by omega) (by have q9 := z_clI (x := y_45) (by omega); omega))⟩))⟩
          · have h_41 : (w_.toInt < (0 : Int) ∨ (2 : Int) < w_.toInt) := h_41
            refine lv_if_eq (tgt := 83) hx hb dX12_deed_60 (by decide) (fun _ => ?_) (fun q => absurd (by decide) q)
            refine lv_bipush (v := (-2)) hx hb dX12_deed_83 (by decide) ?_
            exact z_iret C hr hlocks G (Nat.le_of_ble_eq_true rfl) (Nat.le_of_ble_eq_true rfl) dX12_deed_85 ⟨833, rfl, (Or.inr (Or.inr ⟨by assumption, by omega, (pDt_n (by omega) (by omega))⟩))⟩
        · have h_36 : (i_.toInt < (0 : Int) ∨ y_31.toInt < i_.toInt) := h_36
          refine lv_if_eq (tgt := 83) hx hb dX12_deed_51 (by decide) (fun _ => ?_) (fun q => absurd (by decide) q)
          refine lv_bipush (v := (-2)) hx hb dX12_deed_83 (by decide) ?_
          exact z_iret C hr hlocks G (Nat.le_of_ble_eq_true rfl) (Nat.le_of_ble_eq_true rfl) dX12_deed_85 ⟨833, rfl, (Or.inr (Or.inr ⟨by assumption, by omega, (pDt_n (by omega) (by omega))⟩))⟩
      · have c_29n : i_.toInt = (-1 : Int) := (fa_eq _ _).mp c_29
        refine lv_iload_n hx hb dX12_deed_16 rfl (lv_at hl 3 rfl) ?_
        refine lv_if_ne (tgt := 32) hx hb dX12_deed_17 (by decide) (fun c_47 => ?_) (fun c_47 => ?_)
        · have c_47n : ¬ w_.toInt = (0 : Int) := fun q => c_47 ((fa_eq _ _).mpr q)
          refine lv_bipush (v := (-2)) hx hb dX12_deed_32 (by decide) ?_
          exact z_iret C hr hlocks G (Nat.le_of_ble_eq_true rfl) (Nat.le_of_ble_eq_true rfl) dX12_deed_34 ⟨833, rfl, (Or.inr (Or.inr ⟨by assumption, by omega, (pDt_n (by omega) (by omega))⟩))⟩
        · have c_47n : w_.toInt = (0 : Int) := (fa_eq _ _).mp c_47
          refine lv_aload_n hx hb dX12_deed_20 rfl (lv_at hl 0 rfl) ?_
          refine z_get C G clX12 0 rfl 0 (by decide) m_fl_RX12_7 rfl dX12_deed_21 ?_
          refine lv_aload_n hx hb dX12_deed_24 rfl (lv_at hl 0 rfl) ?_
          refine z_get C G clX12 0 rfl 29 (by decide) m_fl_RX12_302 rfl dX12_deed_25 ?_
          refine z_ild C G 1 rfl (vp_in_nI (n := 833) (by decide) (by decide)) dX12_deed_28 ?_
          refine lv_topi (fun v_48 ev_48 => ?_)
          rw [show ((833 : Int32).toNatClampNeg) = 833 from rfl] at ev_48
          subst ev_48
          refine lv_goto (tgt := 34) hx hb dX12_deed_29 (by decide) ?_
          exact z_iret C hr hlocks G (Nat.le_of_ble_eq_true rfl) (Nat.le_of_ble_eq_true rfl) dX12_deed_34 ⟨833, rfl, (Or.inr (Or.inr ⟨by assumption, by omega, (pDt_0 (by omega))⟩))⟩
  · have h_8 : (k_.toInt < 0 ∨ (f_all 1).toInt ≤ k_.toInt) := h_8
    refine lv_if_ne (tgt := 11) hx hb dX12_deed_5 (by decide) (fun q => absurd (by decide) q) (fun _ => ?_)
    refine lv_bipush (v := (-2)) hx hb dX12_deed_8 (by decide) ?_
    exact z_iret C hr hlocks G (Nat.le_of_ble_eq_true rfl) (Nat.le_of_ble_eq_true rfl) dX12_deed_10 ⟨j_d0_1, rfl, (Or.inl ⟨by assumption, rfl⟩)⟩
set_option maxHeartbeats 4000000 in
set_option maxRecDepth 100000 in
/-- c_fm_fact -/
theorem c_fm_fact (l : Launch) (T : zTy) (mo : Nat) (m_all : Nat) (m_has : Nat) (i_size : Int32) (i_next : Int32) (i_where : Int32) (i_token : Int32) (i_number : Int32) (i_word : Int32) (i_wrong : Int32) (i_farCrossing : Int32) (m_read : Nat) (i_z0 : Int32) (i_crossings : Int32) (i_inns : Int32) (m_posts : Nat) (m_shut : Nat) (m_here : Nat) (i_steps : Int32) (i_done : Int32) (i_at : Int32) (i_gone : Int32) (m_was : Nat) (m_came : Nat) (m_seenAt : Nat) (m_rowWorth : Nat) (m_farBy : Nat) (m_used : Nat) (i_everywhere : Int32) (i_again0 : Int32) (i_d0 : Int32) (i_never : Int32) (i_firstCame : Int32) (i_longRun : Int32) (i_moved : Int32) (i_crowd : Int32) (i_l0 : Int32) (i_fitMany : Int32) (i_fitLeast : Int32) (i_fitMost : Int32) (m_fitPost : Nat) (m_fitEnd : Nat) (m_keptPosts : Nat) (i_x0 : Int32) (f_all : Nat → Int32) (k_ : Int32) (i_ : Int32) (w_ : Int32) (hB : zBI f_all) : zMi l T yX12_fact cX12_fact 4 (some .int) 4 0 0 [.ref mo, .int k_, .int i_, .int w_] [[(mo, .inr (11, [.ref m_all, .ref m_has, .int i_size, .int i_next, .int i_where, .int i_token, .int i_number, .int i_word, .int i_wrong, .int i_farCrossing, .ref m_read, .int i_z0, .int i_crossings, .int i_inns, .ref m_posts, .ref m_shut, .ref m_here, .int i_steps, .int i_done, .int i_at, .int i_gone, .ref m_was, .ref m_came, .ref m_seenAt, .ref m_rowWorth, .ref m_farBy, .ref m_used, .int i_everywhere, .int i_again0, .int i_d0, .int i_never, .int i_firstCame, .int i_longRun, .int i_moved, .int i_crowd, .int i_l0, .int i_fitMany, .int i_fitLeast, .int i_fitMost, .ref m_fitPost, .ref m_fitEnd, .ref m_keptPosts, .int i_x0]))], [(m_all, .inl (T.2 0, 3952, .inl f_all))]] (fun (r : Int32) bs => ∃ (j_l0 : Int32), bs = [[(mo, .inr (11, [.ref m_all, .ref m_has, .int i_size, .int i_next, .int i_where, .int i_token, .int i_number, .int i_word, .int i_wrong, .int i_farCrossing, .ref m_read, .int i_z0, .int i_crossings, .int i_inns, .ref m_posts, .ref m_shut, .ref m_here, .int i_steps, .int i_done, .int i_at, .int i_gone, .ref m_was, .ref m_came, .ref m_seenAt, .ref m_rowWorth, .ref m_farBy, .ref m_used, .int i_everywhere, .int i_again0, .int i_d0, .int i_never, .int i_firstCame, .int i_longRun, .int i_moved, .int i_crowd, .int j_l0, .int i_fitMany, .int i_fitLeast, .int i_fitMost, .ref m_fitPost, .ref m_fitEnd, .ref m_keptPosts, .int i_x0]))], [(m_all, .inl (T.2 0, 3952, .inl f_all))]] ∧ ((k_.toInt < 0 ∨ (f_all 2).toInt ≤ k_.toInt) ∧ r = -2 ∨ k_.toInt = 0 ∧ 0 < (f_all 2).toInt ∧ r = pGt f_all 954 i_ w_ ∨ k_.toInt = 1 ∧ 1 < (f_all 2).toInt ∧ r = pGt f_all 971 i_ w_)) := by
  refine zMi_of (own := RX12) (by decide) rfl (Nat.le_of_ble_eq_true rfl) ?_
  intro p e s m args below meth c A ls C hr hlocks hnm hAe G hl
  have hx := C.1
  have hb := C.2.1
  have hl : lv_has ls 4 [(0, .ref mo), (1, .int k_), (2, .int i_), (3, .int w_)] := hl
  refine lv_aload_n hx hb dX12_fact_0 rfl (lv_at hl 0 rfl) ?_
  refine lv_iload_n hx hb dX12_fact_1 rfl (lv_at hl 1 rfl) ?_
  refine z_Vi (bc := [[(mo, .inr (11, [.ref m_all, .ref m_has, .int i_size, .int i_next, .int i_where, .int i_token, .int i_number, .int i_word, .int i_wrong, .int i_farCrossing, .ref m_read, .int i_z0, .int i_crossings, .int i_inns, .ref m_posts, .ref m_shut, .ref m_here, .int i_steps, .int i_done, .int i_at, .int i_gone, .ref m_was, .ref m_came, .ref m_seenAt, .ref m_rowWorth, .ref m_farBy, .ref m_used, .int i_everywhere, .int i_again0, .int i_d0, .int i_never, .int i_firstCame, .int i_longRun, .int i_moved, .int i_crowd, .int i_l0, .int i_fitMany, .int i_fitLeast, .int i_fitMost, .ref m_fitPost, .ref m_fitEnd, .ref m_keptPosts, .int i_x0]))], [(m_all, .inl (T.2 0, 3952, .inl f_all))]]) (br := []) (As := [.int k_]) (rest := []) C G (c_m_isLog l T mo m_all m_has i_size i_next i_where i_token i_number i_word i_wrong i_farCrossing m_read i_z0 i_crossings i_inns m_posts m_shut m_here i_steps i_done i_at i_gone m_was m_came m_seenAt m_rowWorth m_farBy m_used i_everywhere i_again0 i_d0 i_never i_firstCame i_longRun i_moved i_crowd i_l0 i_fitMany i_fitLeast i_fitMost m_fitPost m_fitEnd m_keptPosts i_x0 f_all k_ (by first | assumption | omega | rfl)) (kV_RX12_363 C.2.2.2.2 (Nat.le_of_ble_eq_true rfl) (Nat.le_of_ble_eq_true rfl)) [0, 1] [] rfl rfl (ci := 11) (qc := (RX12, TX12, 43)) rfl rfl (List.mem_flatten.mpr ⟨_, List.mem_of_getElem? (i := 0) rfl, List.mem_cons_self⟩) rfl rfl hl.1 dX12_fact_2 (Nat.le_of_ble_eq_true rfl) (Nat.le_of_ble_eq_true rfl) (fun r_3 b1 H locs hw G => ?_)
  obtain ⟨j_l0_1, rfl, hc_2⟩ := hw
  have G : zS T A s.heap s [[(mo, .inr (11, [.ref m_all, .ref m_has, .int i_size, .int i_next, .int i_where, .int i_token, .int i_number, .int i_word, .int i_wrong, .int i_farCrossing, .ref m_read, .int i_z0, .int i_crossings, .int i_inns, .ref m_posts, .ref m_shut, .ref m_here, .int i_steps, .int i_done, .int i_at, .int i_gone, .ref m_was, .ref m_came, .ref m_seenAt, .ref m_rowWorth, .ref m_farBy, .ref m_used, .int i_everywhere, .int i_again0, .int i_d0, .int i_never, .int i_firstCame, .int i_longRun, .int i_moved, .int i_crowd, .int j_l0_1, .int i_fitMany, .int i_fitLeast, .int i_fitMost, .ref m_fitPost, .ref m_fitEnd, .ref m_keptPosts, .int i_x0]))], [(m_all, .inl (T.2 0, 3952, .inl f_all))]] _ _ := G
  rcases hc_2 with ⟨rfl, h_4, h_5, h_6, h_7⟩ | ⟨rfl, h_8⟩
  · have h_4 : 0 ≤ k_.toInt := h_4
    have h_5 : k_.toInt < (f_all 2).toInt := h_5
    have h_6 : j_l0_1.toInt = 954 + 17 * k_.toInt := h_6
    have h_7 : zMG f_all j_l0_1 := h_7
    have hD := h_7
    have hDa := hD.1
    have hDb := hD.2
    refine lv_if_ne (tgt := 11) hx hb dX12_fact_5 (by decide) (fun _ => ?_) (fun q => absurd q (by decide))
    rcases (show k_.toInt = 0 ∨ k_.toInt = 1 from by have hq9 := hB.2.1 2 (by decide); omega) with hkk | hkk
    · obtain rfl : j_l0_1 = 954 := Int32.toInt_inj.mp (by show j_l0_1.toInt = 954; omega)
      have hdb : 0 ≤ (f_all 954).toInt ∧ (f_all 954).toInt ≤ 8 := hDb
      refine lv_iload_n hx hb dX12_fact_11 rfl (lv_at hl 2 rfl) ?_
      refine lv_iconst (v := (-1)) hx hb dX12_fact_12 (by decide) ?_
      refine lv_icmp_ne (tgt := 35) hx hb dX12_fact_13 (by decide) (fun c_9 => ?_) (fun c_9 => ?_)
      · have c_9n : ¬ i_.toInt = (-1 : Int) := fun q => c_9 ((fa_eq _ _).mpr q)
        refine lv_iload_n hx hb dX12_fact_35 rfl (lv_at hl 2 rfl) ?_
        refine lv_iconst (v := 0) hx hb dX12_fact_36 (by decide) ?_
        refine lv_aload_n hx hb dX12_fact_37 rfl (lv_at hl 0 rfl) ?_
        refine z_get C G clX12 0 rfl 0 (by decide) m_fl_RX12_7 rfl dX12_fact_38 ?_
        refine lv_aload_n hx hb dX12_fact_41 rfl (lv_at hl 0 rfl) ?_
        refine z_get C G clX12 0 rfl 35 (by decide) m_fl_RX12_360 rfl dX12_fact_42 ?_
        refine z_ild C G 1 rfl (vp_in_nI (n := 954) (by decide) (by decide)) dX12_fact_45 ?_
        refine lv_topi (fun v_10 ev_10 => ?_)
        rw [show ((954 : Int32).toNatClampNeg) = 954 from rfl] at ev_10
        subst ev_10
        refine lv_iconst (v := 1) hx hb dX12_fact_46 (by decide) ?_
        refine lv_isub hx hb dX12_fact_47 ?_
        refine lv_topi (fun y_11 ey_11 => ?_)
        have ey_11i : y_11.toInt = (f_all 954).toInt - (1 : Int) := by rw [ey_11]; exact z_isubI (x := (f_all 954)) (y := (1 : Int32)) (by show -2147483648 ≤ (f_all 954).toInt - (1 : Int); omega) (by show (f_all 954).toInt - (1 : Int) < 2147483648; omega)
        refine z_Si (bc := []) (br := [[(mo, .inr (11, [.ref m_all, .ref m_has, .int i_size, .int i_next, .int i_where, .int i_token, .int i_number, .int i_word, .int i_wrong, .int i_farCrossing, .ref m_read, .int i_z0, .int i_crossings, .int i_inns, .ref m_posts, .ref m_shut, .ref m_here, .int i_steps, .int i_done, .int i_at, .int i_gone, .ref m_was, .ref m_came, .ref m_seenAt, .ref m_rowWorth, .ref m_farBy, .ref m_used, .int i_everywhere, .int i_again0, .int i_d0, .int i_never, .int i_firstCame, .int i_longRun, .int i_moved, .int i_crowd, .int 954, .int i_fitMany, .int i_fitLeast, .int i_fitMost, .ref m_fitPost, .ref m_fitEnd, .ref m_keptPosts, .int i_x0]))], [(m_all, .inl (T.2 0, 3952, .inl f_all))]]) (As := [.int i_, .int 0, .int y_11]) (rest := []) C G (c_m_isIn l T i_ 0 y_11) (kS_RX12_111 C.2.2.2.2 (Nat.le_of_ble_eq_true rfl) (Nat.le_of_ble_eq_true rfl)) [] [0, 1] rfl rfl rfl rfl hl.1 dX12_fact_48 (Nat.le_of_ble_eq_true rfl) (Nat.le_of_ble_eq_true rfl) (fun r_13 b1 H locs hw G => ?_)
        obtain ⟨rfl, hc_12⟩ := hw
        have G : zS T A s.heap s [[(mo, .inr (11, [.ref m_all, .ref m_has, .int i_size, .int i_next, .int i_where, .int i_token, .int i_number, .int i_word, .int i_wrong, .int i_farCrossing, .ref m_read, .int i_z0, .int i_crossings, .int i_inns, .ref m_posts, .ref m_shut, .ref m_here, .int i_steps, .int i_done, .int i_at, .int i_gone, .ref m_was, .ref m_came, .ref m_seenAt, .ref m_rowWorth, .ref m_farBy, .ref m_used, .int i_everywhere, .int i_again0, .int i_d0, .int i_never, .int i_firstCame, .int i_longRun, .int i_moved, .int i_crowd, .int 954, .int i_fitMany, .int i_fitLeast, .int i_fitMost, .ref m_fitPost, .ref m_fitEnd, .ref m_keptPosts, .int i_x0]))], [(m_all, .inl (T.2 0, 3952, .inl f_all))]] _ _ := G
        rcases hc_12 with ⟨rfl, h_14, h_15⟩ | ⟨rfl, h_16⟩
        · have h_14 : (0 : Int) ≤ i_.toInt := h_14
          have h_15 : i_.toInt ≤ y_11.toInt := h_15
          refine lv_if_eq (tgt := 83) hx hb dX12_fact_51 (by decide) (fun q => absurd q (by decide)) (fun _ => ?_)
          refine lv_iload_n hx hb dX12_fact_54 rfl (lv_at hl 3 rfl) ?_
          refine lv_iconst (v := 0) hx hb dX12_fact_55 (by decide) ?_
          refine lv_iconst (v := 1) hx hb dX12_fact_56 (by decide) ?_
          refine z_Si (bc := []) (br := [[(mo, .inr (11, [.ref m_all, .ref m_has, .int i_size, .int i_next, .int i_where, .int i_token, .int i_number, .int i_word, .int i_wrong, .int i_farCrossing, .ref m_read, .int i_z0, .int i_crossings, .int i_inns, .ref m_posts, .ref m_shut, .ref m_here, .int i_steps, .int i_done, .int i_at, .int i_gone, .ref m_was, .ref m_came, .ref m_seenAt, .ref m_rowWorth, .ref m_farBy, .ref m_used, .int i_everywhere, .int i_again0, .int i_d0, .int i_never, .int i_firstCame, .int i_longRun, .int i_moved, .int i_crowd, .int 954, .int i_fitMany, .int i_fitLeast, .int i_fitMost, .ref m_fitPost, .ref m_fitEnd, .ref m_keptPosts, .int i_x0]))], [(m_all, .inl (T.2 0, 3952, .inl f_all))]]) (As := [.int w_, .int 0, .int 1]) (rest := []) C G (c_m_isIn l T w_ 0 1) (kS_RX12_111 C.2.2.2.2 (Nat.le_of_ble_eq_true rfl) (Nat.le_of_ble_eq_true rfl)) [] [0, 1] rfl rfl rfl rfl hl.1 dX12_fact_57 (Nat.le_of_ble_eq_true rfl) (Nat.le_of_ble_eq_true rfl) (fun r_18 b1 H locs hw G => ?_)
          obtain ⟨rfl, hc_17⟩ := hw
          have G : zS T A s.heap s [[(mo, .inr (11, [.ref m_all, .ref m_has, .int i_size, .int i_next, .int i_where, .int i_token, .int i_number, .int i_word, .int i_wrong, .int i_farCrossing, .ref m_read, .int i_z0, .int i_crossings, .int i_inns, .ref m_posts, .ref m_shut, .ref m_here, .int i_steps, .int i_done, .int i_at, .int i_gone, .ref m_was, .ref m_came, .ref m_seenAt, .ref m_rowWorth, .ref m_farBy, .ref m_used, .int i_everywhere, .int i_again0, .int i_d0, .int i_never, .int i_firstCame, .int i_longRun, .int i_moved, .int i_crowd, .int 954, .int i_fitMany, .int i_fitLeast, .int i_fitMost, .ref m_fitPost, .ref m_fitEnd, .ref m_keptPosts, .int i_x0]))], [(m_all, .inl (T.2 0, 3952, .inl f_all))]] _ _ := G
          rcases hc_17 with ⟨rfl, h_19, h_20⟩ | ⟨rfl, h_21⟩
          · have h_19 : (0 : Int) ≤ w_.toInt := h_19
            have h_20 : w_.toInt ≤ (1 : Int) := h_20
            refine lv_if_eq (tgt := 83) hx hb dX12_fact_60 (by decide) (fun q => absurd q (by decide)) (fun _ => ?_)
            refine lv_aload_n hx hb dX12_fact_63 rfl (lv_at hl 0 rfl) ?_
            refine z_get C G clX12 0 rfl 0 (by decide) m_fl_RX12_7 rfl dX12_fact_64 ?_
            refine lv_aload_n hx hb dX12_fact_67 rfl (lv_at hl 0 rfl) ?_
            refine z_get C G clX12 0 rfl 35 (by decide) m_fl_RX12_360 rfl dX12_fact_68 ?_
            refine lv_iconst (v := 1) hx hb dX12_fact_71 (by decide) ?_
            refine lv_iadd hx hb dX12_fact_72 ?_
            refine lv_topi (fun y_22 ey_22 => ?_)
            obtain rfl : y_22 = 955 := ey_22.trans (by decide)
            refine lv_iconst (v := 2) hx hb dX12_fact_73 (by decide) ?_
            refine lv_iload_n hx hb dX12_fact_74 rfl (lv_at hl 2 rfl) ?_
            refine lv_imul hx hb dX12_fact_75 ?_
            refine lv_topi (fun y_23 ey_23 => ?_)
            have ey_23i : y_23.toInt = (2 : Int) * i_.toInt := by rw [ey_23]; exact z_imulI (x := (2 : Int32)) (y := i_) (by show -2147483648 ≤ (2 : Int) * i_.toInt; omega) (by show (2 : Int) * i_.toInt < 2147483648; omega)
            refine lv_iadd hx hb dX12_fact_76 ?_
            refine lv_topi (fun y_24 ey_24 => ?_)
            have ey_24i : y_24.toInt = (955 : Int) + y_23.toInt := by rw [ey_24]; exact z_iaddI (x := (955 : Int32)) (y := y_23) (by show -2147483648 ≤ (955 : Int) + y_23.toInt; omega) (by show (955 : Int) + y_23.toInt < 2147483648; omega)
            refine lv_iload_n hx hb dX12_fact_77 rfl (lv_at hl 3 rfl) ?_
            refine lv_iadd hx hb dX12_fact_78 ?_
            refine lv_topi (fun y_25 ey_25 => ?_)
            have ey_25i : y_25.toInt = y_24.toInt + w_.toInt := by rw [ey_25]; exact z_iaddI (x := y_24) (y := w_) (by show -2147483648 ≤ y_24.toInt + w_.toInt; omega) (by show y_24.toInt + w_.toInt < 2147483648; omega)
            refine z_ild C G 1 rfl (vp_in_iff.mpr ⟨by omega, by omega⟩) dX12_fact_79 ?_
            refine lv_topi (fun v_26 ev_26 => ?_)
            subst ev_26
            refine lv_goto (tgt := 85) hx hb dX12_fact_80 (by decide) ?_
            exact z_iret C hr hlocks G (Nat.le_of_ble_eq_true rfl) (Nat.le_of_ble_eq_true rfl) dX12_fact_85 ⟨954, rfl, (Or.inr (Or.inl ⟨by assumption, by omega, (pGt_v (by omega) (by omega) (by have q9 := z_clI (x := y_25) (by omega); omega))⟩))⟩
          · have h_21 : (w_.toInt < (0 : Int) ∨ (1 : Int) < w_.toInt) := h_21
            refine lv_if_eq (tgt := 83) hx hb dX12_fact_60 (by decide) (fun _ => ?_) (fun q => absurd (by decide) q)
            refine lv_bipush (v := (-2)) hx hb dX12_fact_83 (by decide) ?_
            exact z_iret C hr hlocks G (Nat.le_of_ble_eq_true rfl) (Nat.le_of_ble_eq_true rfl) dX12_fact_85 ⟨954, rfl, (Or.inr (Or.inl ⟨by assumption, by omega, (pGt_n (by omega) (by omega))⟩))⟩
        · have h_16 : (i_.toInt < (0 : Int) ∨ y_11.toInt < i_.toInt) := h_16
          refine lv_if_eq (tgt := 83) hx hb dX12_fact_51 (by decide) (fun _ => ?_) (fun q => absurd (by decide) q)
          refine lv_bipush (v := (-2)) hx hb dX12_fact_83 (by decide) ?_
          exact z_iret C hr hlocks G (Nat.le_of_ble_eq_true rfl) (Nat.le_of_ble_eq_true rfl) dX12_fact_85 ⟨954, rfl, (Or.inr (Or.inl ⟨by assumption, by omega, (pGt_n (by omega) (by omega))⟩))⟩
      · have c_9n : i_.toInt = (-1 : Int) := (fa_eq _ _).mp c_9
        refine lv_iload_n hx hb dX12_fact_16 rfl (lv_at hl 3 rfl) ?_
        refine lv_if_ne (tgt := 32) hx hb dX12_fact_17 (by decide) (fun c_27 => ?_) (fun c_27 => ?_)
        · have c_27n : ¬ w_.toInt = (0 : Int) := fun q => c_27 ((fa_eq _ _).mpr q)
          refine lv_bipush (v := (-2)) hx hb dX12_fact_32 (by decide) ?_
          exact z_iret C hr hlocks G (Nat.le_of_ble_eq_true rfl) (Nat.le_of_ble_eq_true rfl) dX12_fact_34 ⟨954, rfl, (Or.inr (Or.inl ⟨by assumption, by omega, (pGt_n (by omega) (by omega))⟩))⟩
        · have c_27n : w_.toInt = (0 : Int) := (fa_eq _ _).mp c_27
          refine lv_aload_n hx hb dX12_fact_20 rfl (lv_at hl 0 rfl) ?_
          refine z_get C G clX12 0 rfl 0 (by decide) m_fl_RX12_7 rfl dX12_fact_21 ?_
          refine lv_aload_n hx hb dX12_fact_24 rfl (lv_at hl 0 rfl) ?_
          refine z_get C G clX12 0 rfl 35 (by decide) m_fl_RX12_360 rfl dX12_fact_25 ?_
          refine z_ild C G 1 rfl (vp_in_nI (n := 954) (by decide) (by decide)) dX12_fact_28 ?_
          refine lv_topi (fun v_28 ev_28 => ?_)
          rw [show ((954 : Int32).toNatClampNeg) = 954 from rfl] at ev_28
          subst ev_28
          refine lv_goto (tgt := 34) hx hb dX12_fact_29 (by decide) ?_
          exact z_iret C hr hlocks G (Nat.le_of_ble_eq_true rfl) (Nat.le_of_ble_eq_true rfl) dX12_fact_34 ⟨954, rfl, (Or.inr (Or.inl ⟨by assumption, by omega, (pGt_0 (by omega))⟩))⟩
    · obtain rfl : j_l0_1 = 971 := Int32.toInt_inj.mp (by show j_l0_1.toInt = 971; omega)
      have hdb : 0 ≤ (f_all 971).toInt ∧ (f_all 971).toInt ≤ 8 := hDb
      refine lv_iload_n hx hb dX12_fact_11 rfl (lv_at hl 2 rfl) ?_
      refine lv_iconst (v := (-1)) hx hb dX12_fact_12 (by decide) ?_
      refine lv_icmp_ne (tgt := 35) hx hb dX12_fact_13 (by decide) (fun c_29 => ?_) (fun c_29 => ?_)
      · have c_29n : ¬ i_.toInt = (-1 : Int) := fun q => c_29 ((fa_eq _ _).mpr q)
        refine lv_iload_n hx hb dX12_fact_35 rfl (lv_at hl 2 rfl) ?_
        refine lv_iconst (v := 0) hx hb dX12_fact_36 (by decide) ?_
        refine lv_aload_n hx hb dX12_fact_37 rfl (lv_at hl 0 rfl) ?_
        refine z_get C G clX12 0 rfl 0 (by decide) m_fl_RX12_7 rfl dX12_fact_38 ?_
        refine lv_aload_n hx hb dX12_fact_41 rfl (lv_at hl 0 rfl) ?_
        refine z_get C G clX12 0 rfl 35 (by decide) m_fl_RX12_360 rfl dX12_fact_42 ?_
        refine z_ild C G 1 rfl (vp_in_nI (n := 971) (by decide) (by decide)) dX12_fact_45 ?_
        refine lv_topi (fun v_30 ev_30 => ?_)
        rw [show ((971 : Int32).toNatClampNeg) = 971 from rfl] at ev_30
        subst ev_30
        refine lv_iconst (v := 1) hx hb dX12_fact_46 (by decide) ?_
        refine lv_isub hx hb dX12_fact_47 ?_
        refine lv_topi (fun y_31 ey_31 => ?_)
        have ey_31i : y_31.toInt = (f_all 971).toInt - (1 : Int) := by rw [ey_31]; exact z_isubI (x := (f_all 971)) (y := (1 : Int32)) (by show -2147483648 ≤ (f_all 971).toInt - (1 : Int); omega) (by show (f_all 971).toInt - (1 : Int) < 2147483648; omega)
        refine z_Si (bc := []) (br := [[(mo, .inr (11, [.ref m_all, .ref m_has, .int i_size, .int i_next, .int i_where, .int i_token, .int i_number, .int i_word, .int i_wrong, .int i_farCrossing, .ref m_read, .int i_z0, .int i_crossings, .int i_inns, .ref m_posts, .ref m_shut, .ref m_here, .int i_steps, .int i_done, .int i_at, .int i_gone, .ref m_was, .ref m_came, .ref m_seenAt, .ref m_rowWorth, .ref m_farBy, .ref m_used, .int i_everywhere, .int i_again0, .int i_d0, .int i_never, .int i_firstCame, .int i_longRun, .int i_moved, .int i_crowd, .int 971, .int i_fitMany, .int i_fitLeast, .int i_fitMost, .ref m_fitPost, .ref m_fitEnd, .ref m_keptPosts, .int i_x0]))], [(m_all, .inl (T.2 0, 3952, .inl f_all))]]) (As := [.int i_, .int 0, .int y_31]) (rest := []) C G (c_m_isIn l T i_ 0 y_31) (kS_RX12_111 C.2.2.2.2 (Nat.le_of_ble_eq_true rfl) (Nat.le_of_ble_eq_true rfl)) [] [0, 1] rfl rfl rfl rfl hl.1 dX12_fact_48 (Nat.le_of_ble_eq_true rfl) (Nat.le_of_ble_eq_true rfl) (fun r_33 b1 H locs hw G => ?_)
        obtain ⟨rfl, hc_32⟩ := hw
        have G : zS T A s.heap s [[(mo, .inr (11, [.ref m_all, .ref m_has, .int i_size, .int i_next, .int i_where, .int i_token, .int i_number, .int i_word, .int i_wrong, .int i_farCrossing, .ref m_read, .int i_z0, .int i_crossings, .int i_inns, .ref m_posts, .ref m_shut, .ref m_here, .int i_steps, .int i_done, .int i_at, .int i_gone, .ref m_was, .ref m_came, .ref m_seenAt, .ref m_rowWorth, .ref m_farBy, .ref m_used, .int i_everywhere, .int i_again0, .int i_d0, .int i_never, .int i_firstCame, .int i_longRun, .int i_moved, .int i_crowd, .int 971, .int i_fitMany, .int i_fitLeast, .int i_fitMost, .ref m_fitPost, .ref m_fitEnd, .ref m_keptPosts, .int i_x0]))], [(m_all, .inl (T.2 0, 3952, .inl f_all))]] _ _ := G
        rcases hc_32 with ⟨rfl, h_34, h_35⟩ | ⟨rfl, h_36⟩
        · have h_34 : (0 : Int) ≤ i_.toInt := h_34
          have h_35 : i_.toInt ≤ y_31.toInt := h_35
          refine lv_if_eq (tgt := 83) hx hb dX12_fact_51 (by decide) (fun q => absurd q (by decide)) (fun _ => ?_)
          refine lv_iload_n hx hb dX12_fact_54 rfl (lv_at hl 3 rfl) ?_
          refine lv_iconst (v := 0) hx hb dX12_fact_55 (by decide) ?_
          refine lv_iconst (v := 1) hx hb dX12_fact_56 (by decide) ?_
          refine z_Si (bc := []) (br := [[(mo, .inr (11, [.ref m_all, .ref m_has, .int i_size, .int i_next, .int i_where, .int i_token, .int i_number, .int i_word, .int i_wrong, .int i_farCrossing, .ref m_read, .int i_z0, .int i_crossings, .int i_inns, .ref m_posts, .ref m_shut, .ref m_here, .int i_steps, .int i_done, .int i_at, .int i_gone, .ref m_was, .ref m_came, .ref m_seenAt, .ref m_rowWorth, .ref m_farBy, .ref m_used, .int i_everywhere, .int i_again0, .int i_d0, .int i_never, .int i_firstCame, .int i_longRun, .int i_moved, .int i_crowd, .int 971, .int i_fitMany, .int i_fitLeast, .int i_fitMost, .ref m_fitPost, .ref m_fitEnd, .ref m_keptPosts, .int i_x0]))], [(m_all, .inl (T.2 0, 3952, .inl f_all))]]) (As := [.int w_, .int 0, .int 1]) (rest := []) C G (c_m_isIn l T w_ 0 1) (kS_RX12_111 C.2.2.2.2 (Nat.le_of_ble_eq_true rfl) (Nat.le_of_ble_eq_true rfl)) [] [0, 1] rfl rfl rfl rfl hl.1 dX12_fact_57 (Nat.le_of_ble_eq_true rfl) (Nat.le_of_ble_eq_true rfl) (fun r_38 b1 H locs hw G => ?_)
          obtain ⟨rfl, hc_37⟩ := hw
          have G : zS T A s.heap s [[(mo, .inr (11, [.ref m_all, .ref m_has, .int i_size, .int i_next, .int i_where, .int i_token, .int i_number, .int i_word, .int i_wrong, .int i_farCrossing, .ref m_read, .int i_z0, .int i_crossings, .int i_inns, .ref m_posts, .ref m_shut, .ref m_here, .int i_steps, .int i_done, .int i_at, .int i_gone, .ref m_was, .ref m_came, .ref m_seenAt, .ref m_rowWorth, .ref m_farBy, .ref m_used, .int i_everywhere, .int i_again0, .int i_d0, .int i_never, .int i_firstCame, .int i_longRun, .int i_moved, .int i_crowd, .int 971, .int i_fitMany, .int i_fitLeast, .int i_fitMost, .ref m_fitPost, .ref m_fitEnd, .ref m_keptPosts, .int i_x0]))], [(m_all, .inl (T.2 0, 3952, .inl f_all))]] _ _ := G
          rcases hc_37 with ⟨rfl, h_39, h_40⟩ | ⟨rfl, h_41⟩
          · have h_39 : (0 : Int) ≤ w_.toInt := h_39
            have h_40 : w_.toInt ≤ (1 : Int) := h_40
            refine lv_if_eq (tgt := 83) hx hb dX12_fact_60 (by decide) (fun q => absurd q (by decide)) (fun _ => ?_)
            refine lv_aload_n hx hb dX12_fact_63 rfl (lv_at hl 0 rfl) ?_
            refine z_get C G clX12 0 rfl 0 (by decide) m_fl_RX12_7 rfl dX12_fact_64 ?_
            refine lv_aload_n hx hb dX12_fact_67 rfl (lv_at hl 0 rfl) ?_
            refine z_get C G clX12 0 rfl 35 (by decide) m_fl_RX12_360 rfl dX12_fact_68 ?_
            refine lv_iconst (v := 1) hx hb dX12_fact_71 (by decide) ?_
            refine lv_iadd hx hb dX12_fact_72 ?_
            refine lv_topi (fun y_42 ey_42 => ?_)
            obtain rfl : y_42 = 972 := ey_42.trans (by decide)
            refine lv_iconst (v := 2) hx hb dX12_fact_73 (by decide) ?_
            refine lv_iload_n hx hb dX12_fact_74 rfl (lv_at hl 2 rfl) ?_
            refine lv_imul hx hb dX12_fact_75 ?_
            refine lv_topi (fun y_43 ey_43 => ?_)
            have ey_43i : y_43.toInt = (2 : Int) * i_.toInt := by rw [ey_43]; exact z_imulI (x := (2 : Int32)) (y := i_) (by show -2147483648 ≤ (2 : Int) * i_.toInt; omega) (by show (2 : Int) * i_.toInt < 2147483648; omega)
            refine lv_iadd hx hb dX12_fact_76 ?_
            refine lv_topi (fun y_44 ey_44 => ?_)
            have ey_44i : y_44.toInt = (972 : Int) + y_43.toInt := by rw [ey_44]; exact z_iaddI (x := (972 : Int32)) (y := y_43) (by show -2147483648 ≤ (972 : Int) + y_43.toInt; omega) (by show (972 : Int) + y_43.toInt < 2147483648; omega)
            refine lv_iload_n hx hb dX12_fact_77 rfl (lv_at hl 3 rfl) ?_
            refine lv_iadd hx hb dX12_fact_78 ?_
            refine lv_topi (fun y_45 ey_45 => ?_)
            have ey_45i : y_45.toInt = y_44.toInt + w_.toInt := by rw [ey_45]; exact z_iaddI (x := y_44) (y := w_) (by show -2147483648 ≤ y_44.toInt + w_.toInt; omega) (by show y_44.toInt + w_.toInt < 2147483648; omega)
            refine z_ild C G 1 rfl (vp_in_iff.mpr ⟨by omega, by omega⟩) dX12_fact_79 ?_
            refine lv_topi (fun v_46 ev_46 => ?_)
            subst ev_46
            refine lv_goto (tgt := 85) hx hb dX12_fact_80 (by decide) ?_
            exact z_iret C hr hlocks G (Nat.le_of_ble_eq_true rfl) (Nat.le_of_ble_eq_true rfl) dX12_fact_85 ⟨971, rfl, (Or.inr (Or.inr ⟨by assumption, by omega, (pGt_v (by omega) (by omega) (by have q9 := z_clI (x := y_45) (by omega); omega))⟩))⟩
          · have h_41 : (w_.toInt < (0 : Int) ∨ (1 : Int) < w_.toInt) := h_41
            refine lv_if_eq (tgt := 83) hx hb dX12_fact_60 (by decide) (fun _ => ?_) (fun q => absurd (by decide) q)
            refine lv_bipush (v := (-2)) hx hb dX12_fact_83 (by decide) ?_
            exact z_iret C hr hlocks G (Nat.le_of_ble_eq_true rfl) (Nat.le_of_ble_eq_true rfl) dX12_fact_85 ⟨971, rfl, (Or.inr (Or.inr ⟨by assumption, by omega, (pGt_n (by omega) (by omega))⟩))⟩
        · have h_36 : (i_.toInt < (0 : Int) ∨ y_31.toInt < i_.toInt) := h_36
          refine lv_if_eq (tgt := 83) hx hb dX12_fact_51 (by decide) (fun _ => ?_) (fun q => absurd (by decide) q)
          refine lv_bipush (v := (-2)) hx hb dX12_fact_83 (by decide) ?_
          exact z_iret C hr hlocks G (Nat.le_of_ble_eq_true rfl) (Nat.le_of_ble_eq_true rfl) dX12_fact_85 ⟨971, rfl, (Or.inr (Or.inr ⟨by assumption, by omega, (pGt_n (by omega) (by omega))⟩))⟩
      · have c_29n : i_.toInt = (-1 : Int) := (fa_eq _ _).mp c_29
        refine lv_iload_n hx hb dX12_fact_16 rfl (lv_at hl 3 rfl) ?_
        refine lv_if_ne (tgt := 32) hx hb dX12_fact_17 (by decide) (fun c_47 => ?_) (fun c_47 => ?_)
        · have c_47n : ¬ w_.toInt = (0 : Int) := fun q => c_47 ((fa_eq _ _).mpr q)
          refine lv_bipush (v := (-2)) hx hb dX12_fact_32 (by decide) ?_
          exact z_iret C hr hlocks G (Nat.le_of_ble_eq_true rfl) (Nat.le_of_ble_eq_true rfl) dX12_fact_34 ⟨971, rfl, (Or.inr (Or.inr ⟨by assumption, by omega, (pGt_n (by omega) (by omega))⟩))⟩
        · have c_47n : w_.toInt = (0 : Int) := (fa_eq _ _).mp c_47
          refine lv_aload_n hx hb dX12_fact_20 rfl (lv_at hl 0 rfl) ?_
          refine z_get C G clX12 0 rfl 0 (by decide) m_fl_RX12_7 rfl dX12_fact_21 ?_
          refine lv_aload_n hx hb dX12_fact_24 rfl (lv_at hl 0 rfl) ?_
          refine z_get C G clX12 0 rfl 35 (by decide) m_fl_RX12_360 rfl dX12_fact_25 ?_
          refine z_ild C G 1 rfl (vp_in_nI (n := 971) (by decide) (by decide)) dX12_fact_28 ?_
          refine lv_topi (fun v_48 ev_48 => ?_)
          rw [show ((971 : Int32).toNatClampNeg) = 971 from rfl] at ev_48
          subst ev_48
          refine lv_goto (tgt := 34) hx hb dX12_fact_29 (by decide) ?_
          exact z_iret C hr hlocks G (Nat.le_of_ble_eq_true rfl) (Nat.le_of_ble_eq_true rfl) dX12_fact_34 ⟨971, rfl, (Or.inr (Or.inr ⟨by assumption, by omega, (pGt_0 (by omega))⟩))⟩
  · have h_8 : (k_.toInt < 0 ∨ (f_all 2).toInt ≤ k_.toInt) := h_8
    refine lv_if_ne (tgt := 11) hx hb dX12_fact_5 (by decide) (fun q => absurd (by decide) q) (fun _ => ?_)
    refine lv_bipush (v := (-2)) hx hb dX12_fact_8 (by decide) ?_
    exact z_iret C hr hlocks G (Nat.le_of_ble_eq_true rfl) (Nat.le_of_ble_eq_true rfl) dX12_fact_10 ⟨j_l0_1, rfl, (Or.inl ⟨by assumption, rfl⟩)⟩
theorem zA_fault {fl pl r r' w : Int32} {f : Nat → Int32} (h5 : fl = f 5) (h6 : pl = f 6) (F1 : w.toInt = 0 ∧ r = fl ∨ w.toInt = 1 ∧ r = pl ∨ (w.toInt ≠ 0 ∧ w.toInt ≠ 1) ∧ r = -1) (F2 : w.toInt = 0 ∧ r' = f 5 ∨ w.toInt = 1 ∧ r' = f 6 ∨ (w.toInt ≠ 0 ∧ w.toInt ≠ 1) ∧ r' = -1) : r = r' := by
  rcases F1 with ⟨a, b⟩ | ⟨a, b⟩ | ⟨a, b⟩ <;> rcases F2 with ⟨c, d⟩ | ⟨c, d⟩ | ⟨c, d⟩ <;> first | (exfalso; omega) | rw [b, d, h5] | rw [b, d, h6] | rw [b, d]
theorem zA_count {r r' w : Int32} {fk f : Nat → Int32} (h : ∀ j, j < 3 → fk j = f j) (F1 : (0 ≤ w.toInt ∧ w.toInt ≤ 2) ∧ r = fk w.toNatClampNeg ∨ (w.toInt < 0 ∨ 2 < w.toInt) ∧ r = -2) (F2 : (0 ≤ w.toInt ∧ w.toInt ≤ 2) ∧ r' = f w.toNatClampNeg ∨ (w.toInt < 0 ∨ 2 < w.toInt) ∧ r' = -2) : r = r' := by
  rcases F1 with ⟨a, b⟩ | ⟨a, b⟩ <;> rcases F2 with ⟨c, d⟩ | ⟨c, d⟩
  · have e := z_clI (x := w) a.1
    rw [b, d]; exact h _ (by omega)
  · omega
  · omega
  · rw [b, d]
theorem zA_deed {r r' x k w dd0 dd1 : Int32} {fk f a1 a2 a3 b1 b2 b3 : Nat → Int32} (hk : fk 1 = f 1) (hq : (f 1).toInt ≤ 2) (h0 : zDyd dd0 a1 a2 a3 (fun j => f (712 + j))) (h1 : zDyd dd1 b1 b2 b3 (fun j => f (833 + j))) (F1 : (x.toInt < 0 ∨ (fk 1).toInt ≤ x.toInt ∨ 2 ≤ x.toInt) ∧ r = -2 ∨ x.toInt = 0 ∧ 0 < (fk 1).toInt ∧ r = zDayTold dd0 a1 a2 a3 k w ∨ x.toInt = 1 ∧ 1 < (fk 1).toInt ∧ r = zDayTold dd1 b1 b2 b3 k w) (F2 : (x.toInt < 0 ∨ (f 1).toInt ≤ x.toInt) ∧ r' = -2 ∨ x.toInt = 0 ∧ 0 < (f 1).toInt ∧ r' = pDt f 712 k w ∨ x.toInt = 1 ∧ 1 < (f 1).toInt ∧ r' = pDt f 833 k w) : r = r' := by
  rw [hk, pDt_e h0, pDt_e h1] at F1
  rcases F1 with ⟨a, b⟩ | ⟨a, b, c⟩ | ⟨a, b, c⟩ <;> rcases F2 with ⟨d, e⟩ | ⟨d, e, g⟩ | ⟨d, e, g⟩ <;> first | (exfalso; omega) | rw [b, e] | rw [c, g]
theorem zA_fact {r r' x k w dd0 dd1 : Int32} {fk f a1 a2 b1 b2 : Nat → Int32} (hk : fk 2 = f 2) (hq : (f 2).toInt ≤ 2) (h0 : zLgd dd0 a1 a2 (fun j => f (954 + j))) (h1 : zLgd dd1 b1 b2 (fun j => f (971 + j))) (F1 : (x.toInt < 0 ∨ (fk 2).toInt ≤ x.toInt ∨ 2 ≤ x.toInt) ∧ r = -2 ∨ x.toInt = 0 ∧ 0 < (fk 2).toInt ∧ r = zLogTold dd0 a1 a2 k w ∨ x.toInt = 1 ∧ 1 < (fk 2).toInt ∧ r = zLogTold dd1 b1 b2 k w) (F2 : (x.toInt < 0 ∨ (f 2).toInt ≤ x.toInt) ∧ r' = -2 ∨ x.toInt = 0 ∧ 0 < (f 2).toInt ∧ r' = pGt f 954 k w ∨ x.toInt = 1 ∧ 1 < (f 2).toInt ∧ r' = pGt f 971 k w) : r = r' := by
  rw [hk, pGt_e h0, pGt_e h1] at F1
  rcases F1 with ⟨a, b⟩ | ⟨a, b, c⟩ | ⟨a, b, c⟩ <;> rcases F2 with ⟨d, e⟩ | ⟨d, e, g⟩ | ⟨d, e, g⟩ <;> first | (exfalso; omega) | rw [b, e] | rw [c, g]


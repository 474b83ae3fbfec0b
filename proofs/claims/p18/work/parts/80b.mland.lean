def zML (f : Nat → Int32) (z cr : Int32) : Prop := (z.toInt = 610 ∨ z.toInt = 661) ∧ cr = f z.toInt.toNat ∧ zLF (fun j => f (z.toInt.toNat + j))
theorem zML.cr {f : Nat → Int32} {z cr : Int32} (h : zML f z cr) : 0 ≤ cr.toInt ∧ cr.toInt ≤ 7 := by rw [h.2.1]; exact h.2.2.1
def zMP (f : Nat → Int32) : Prop := ∀ c, c < 7 → 0 ≤ (f c).toInt ∧ (f c).toInt ≤ 3
theorem zMP_upd {f : Nat → Int32} {k : Nat} {v : Int32} (h : zMP f) (hv : 0 ≤ v.toInt ∧ v.toInt ≤ 3) : zMP (upd f k v) := by
  intro c hc
  unfold upd
  split
  · exact hv
  · exact h c hc
def zRd (f : Nat → Int32) (z c : Int32) : Int32 := f (z.toInt.toNat + (2 + c.toInt.toNat))
def zPt (f : Nat → Int32) (z c : Int32) : Int32 := f (z.toInt.toNat + (9 + c.toInt.toNat))
def zLe (f : Nat → Int32) (z c k : Int32) : Int32 := f (z.toInt.toNat + (23 + (4 * c.toInt.toNat + k.toInt.toNat)))
abbrev zInn (n c : Int32) : Prop := n >>> (c &&& 31) &&& 1 = 1
theorem zMLr {f : Nat → Int32} {z cr : Int32} (h : zML f z cr) {c : Int32} (h0 : 0 ≤ c.toInt) (h6 : c.toInt ≤ 6) : 0 ≤ (zRd f z c).toInt ∧ (zRd f z c).toInt ≤ 4 := (h.2.2.2.1 c.toInt.toNat (by omega)).1
theorem zMLp {f : Nat → Int32} {z cr : Int32} (h : zML f z cr) {c : Int32} (h0 : 0 ≤ c.toInt) (h6 : c.toInt ≤ 6) : 0 ≤ (zPt f z c).toInt ∧ (zPt f z c).toInt ≤ 3 := (h.2.2.2.1 c.toInt.toNat (by omega)).2.1
theorem zMLl {f : Nat → Int32} {z cr : Int32} (h : zML f z cr) {c k : Int32} (h0 : 0 ≤ c.toInt) (h6 : c.toInt ≤ 6) (h1 : 0 ≤ k.toInt) (h3 : k.toInt ≤ 3) : 0 ≤ (zLe f z c k).toInt ∧ (zLe f z c k).toInt ≤ 6 := h.2.2.2.2 (4 * c.toInt.toNat + k.toInt.toNat) (by omega)
theorem zRem {x y : Int32} (hx : 0 ≤ x.toInt) (hy : 0 < y.toInt) : 0 ≤ (x - x / y * y).toInt ∧ (x - x / y * y).toInt < y.toInt := by
  rw [rem_toInt, Int.tmod_eq_emod_of_nonneg hx]
  exact ⟨Int.emod_nonneg _ (by omega), Int.emod_lt_of_pos _ hy⟩
set_option maxHeartbeats 4000000 in
set_option maxRecDepth 100000 in
/-- c_m_roadsOf -/
theorem c_m_roadsOf (l : Launch) (T : zTy) (mo : Nat) (m_all : Nat) (m_has : Nat) (i_size : Int32) (i_next : Int32) (i_where : Int32) (i_token : Int32) (i_number : Int32) (i_word : Int32) (i_wrong : Int32) (i_farCrossing : Int32) (m_read : Nat) (i_z0 : Int32) (i_crossings : Int32) (i_inns : Int32) (m_posts : Nat) (m_shut : Nat) (m_here : Nat) (i_steps : Int32) (i_done : Int32) (i_at : Int32) (i_gone : Int32) (m_was : Nat) (m_came : Nat) (m_seenAt : Nat) (m_rowWorth : Nat) (m_farBy : Nat) (m_used : Nat) (i_everywhere : Int32) (i_again0 : Int32) (i_d0 : Int32) (i_never : Int32) (i_firstCame : Int32) (i_longRun : Int32) (i_moved : Int32) (i_crowd : Int32) (i_l0 : Int32) (i_fitMany : Int32) (i_fitLeast : Int32) (i_fitMost : Int32) (m_fitPost : Nat) (m_fitEnd : Nat) (m_keptPosts : Nat) (i_x0 : Int32) (f_all : Nat → Int32) (c_ : Int32) (hL : zML f_all i_z0 i_crossings) (hc0 : 0 ≤ c_.toInt) (hc6 : c_.toInt ≤ 6) : zMi l T yX12_roadsOf cX12_roadsOf 2 (some .int) 1 0 0 [.ref mo, .int c_] [[zO11 mo m_all m_has i_size i_next i_where i_token i_number i_word i_wrong i_farCrossing m_read i_z0 i_crossings i_inns m_posts m_shut m_here i_steps i_done i_at i_gone m_was m_came m_seenAt m_rowWorth m_farBy m_used i_everywhere i_again0 i_d0 i_never i_firstCame i_longRun i_moved i_crowd i_l0 i_fitMany i_fitLeast i_fitMost m_fitPost m_fitEnd m_keptPosts i_x0], [zAr T 0 m_all 3952 f_all]] (fun (r : Int32) bs => bs = [[zO11 mo m_all m_has i_size i_next i_where i_token i_number i_word i_wrong i_farCrossing m_read i_z0 i_crossings i_inns m_posts m_shut m_here i_steps i_done i_at i_gone m_was m_came m_seenAt m_rowWorth m_farBy m_used i_everywhere i_again0 i_d0 i_never i_firstCame i_longRun i_moved i_crowd i_l0 i_fitMany i_fitLeast i_fitMost m_fitPost m_fitEnd m_keptPosts i_x0], [zAr T 0 m_all 3952 f_all]] ∧ r = zRd f_all i_z0 c_ ∧ 0 ≤ r.toInt ∧ r.toInt ≤ 4) := by
  refine zMi_of (own := RX12) (by decide) rfl (Nat.le_of_ble_eq_true rfl) ?_
  intro p e s m args below meth c A ls C hr hlocks hnm hAe G hl
  refine zHide (fun Qz_ hQz_ => ?_)
  have hx := C.1
  have hb := C.2.1
  have hl : lv_has ls 2 [(0, .ref mo), (1, .int c_)] := hl
  have hz := hL.1
  have hcr := hL.cr
  refine lv_aload_n hx hb dX12_roadsOf_0 rfl (lv_at hl 0 rfl) ?_
  refine z_get C G clX12 0 rfl 0 (by decide) m_fl_RX12_7 rfl dX12_roadsOf_1 ?_
  refine lv_aload_n hx hb dX12_roadsOf_4 rfl (lv_at hl 0 rfl) ?_
  refine z_get C G clX12 0 rfl 11 (by decide) m_fl_RX12_166 rfl dX12_roadsOf_5 ?_
  refine lv_iconst (v := 2) hx hb dX12_roadsOf_8 (by decide) ?_
  refine lv_iadd hx hb dX12_roadsOf_9 ?_
  refine lv_topi (fun y_1 ey_1 => ?_)
  have ey_1i : y_1.toInt = i_z0.toInt + (2 : Int) := by rw [ey_1]; exact z_iaddI (x := i_z0) (y := (2 : Int32)) (by show -2147483648 ≤ i_z0.toInt + (2 : Int); omega) (by show i_z0.toInt + (2 : Int) < 2147483648; omega)
  refine lv_iload_n hx hb dX12_roadsOf_10 rfl (lv_at hl 1 rfl) ?_
  refine lv_iadd hx hb dX12_roadsOf_11 ?_
  refine lv_topi (fun y_2 ey_2 => ?_)
  have ey_2i : y_2.toInt = y_1.toInt + c_.toInt := by rw [ey_2]; exact z_iaddI (x := y_1) (y := c_) (by show -2147483648 ≤ y_1.toInt + c_.toInt; omega) (by show y_1.toInt + c_.toInt < 2147483648; omega)
  refine z_ild C G 1 rfl (vp_in_iff.mpr ⟨by omega, by omega⟩) dX12_roadsOf_12 ?_
  refine lv_topi (fun v_3 ev_3 => ?_)
  subst ev_3
  exact z_back hQz_ (z_iret C hr hlocks G (Nat.le_of_ble_eq_true rfl) (Nat.le_of_ble_eq_true rfl) dX12_roadsOf_13 ⟨rfl, (congrArg f_all (by show y_2.toInt.toNat = _; omega)), (by rw [show f_all y_2.toNatClampNeg = _ from (show _ = zRd f_all i_z0 c_ from (congrArg f_all (by show y_2.toInt.toNat = _; omega)))]; exact (zMLr hL hc0 hc6).1), (by rw [show f_all y_2.toNatClampNeg = _ from (show _ = zRd f_all i_z0 c_ from (congrArg f_all (by show y_2.toInt.toNat = _; omega)))]; exact (zMLr hL hc0 hc6).2)⟩)
set_option maxHeartbeats 4000000 in
set_option maxRecDepth 100000 in
/-- c_m_postTold -/
theorem c_m_postTold (l : Launch) (T : zTy) (mo : Nat) (m_all : Nat) (m_has : Nat) (i_size : Int32) (i_next : Int32) (i_where : Int32) (i_token : Int32) (i_number : Int32) (i_word : Int32) (i_wrong : Int32) (i_farCrossing : Int32) (m_read : Nat) (i_z0 : Int32) (i_crossings : Int32) (i_inns : Int32) (m_posts : Nat) (m_shut : Nat) (m_here : Nat) (i_steps : Int32) (i_done : Int32) (i_at : Int32) (i_gone : Int32) (m_was : Nat) (m_came : Nat) (m_seenAt : Nat) (m_rowWorth : Nat) (m_farBy : Nat) (m_used : Nat) (i_everywhere : Int32) (i_again0 : Int32) (i_d0 : Int32) (i_never : Int32) (i_firstCame : Int32) (i_longRun : Int32) (i_moved : Int32) (i_crowd : Int32) (i_l0 : Int32) (i_fitMany : Int32) (i_fitLeast : Int32) (i_fitMost : Int32) (m_fitPost : Nat) (m_fitEnd : Nat) (m_keptPosts : Nat) (i_x0 : Int32) (f_all : Nat → Int32) (c_ : Int32) (hL : zML f_all i_z0 i_crossings) (hc0 : 0 ≤ c_.toInt) (hc6 : c_.toInt ≤ 6) : zMi l T yX12_postTold cX12_postTold 2 (some .int) 1 0 0 [.ref mo, .int c_] [[zO11 mo m_all m_has i_size i_next i_where i_token i_number i_word i_wrong i_farCrossing m_read i_z0 i_crossings i_inns m_posts m_shut m_here i_steps i_done i_at i_gone m_was m_came m_seenAt m_rowWorth m_farBy m_used i_everywhere i_again0 i_d0 i_never i_firstCame i_longRun i_moved i_crowd i_l0 i_fitMany i_fitLeast i_fitMost m_fitPost m_fitEnd m_keptPosts i_x0], [zAr T 0 m_all 3952 f_all]] (fun (r : Int32) bs => bs = [[zO11 mo m_all m_has i_size i_next i_where i_token i_number i_word i_wrong i_farCrossing m_read i_z0 i_crossings i_inns m_posts m_shut m_here i_steps i_done i_at i_gone m_was m_came m_seenAt m_rowWorth m_farBy m_used i_everywhere i_again0 i_d0 i_never i_firstCame i_longRun i_moved i_crowd i_l0 i_fitMany i_fitLeast i_fitMost m_fitPost m_fitEnd m_keptPosts i_x0], [zAr T 0 m_all 3952 f_all]] ∧ r = zPt f_all i_z0 c_ ∧ 0 ≤ r.toInt ∧ r.toInt ≤ 3) := by
  refine zMi_of (own := RX12) (by decide) rfl (Nat.le_of_ble_eq_true rfl) ?_
  intro p e s m args below meth c A ls C hr hlocks hnm hAe G hl
  refine zHide (fun Qz_ hQz_ => ?_)
  have hx := C.1
  have hb := C.2.1
  have hl : lv_has ls 2 [(0, .ref mo), (1, .int c_)] := hl
  have hz := hL.1
  have hcr := hL.cr
  refine lv_aload_n hx hb dX12_postTold_0 rfl (lv_at hl 0 rfl) ?_
  refine z_get C G clX12 0 rfl 0 (by decide) m_fl_RX12_7 rfl dX12_postTold_1 ?_
  refine lv_aload_n hx hb dX12_postTold_4 rfl (lv_at hl 0 rfl) ?_
  refine z_get C G clX12 0 rfl 11 (by decide) m_fl_RX12_166 rfl dX12_postTold_5 ?_
  refine lv_bipush (v := 9) hx hb dX12_postTold_8 (by decide) ?_
  refine lv_iadd hx hb dX12_postTold_10 ?_
  refine lv_topi (fun y_1 ey_1 => ?_)
  have ey_1i : y_1.toInt = i_z0.toInt + (9 : Int) := by rw [ey_1]; exact z_iaddI (x := i_z0) (y := (9 : Int32)) (by show -2147483648 ≤ i_z0.toInt + (9 : Int); omega) (by show i_z0.toInt + (9 : Int) < 2147483648; omega)
  refine lv_iload_n hx hb dX12_postTold_11 rfl (lv_at hl 1 rfl) ?_
  refine lv_iadd hx hb dX12_postTold_12 ?_
  refine lv_topi (fun y_2 ey_2 => ?_)
  have ey_2i : y_2.toInt = y_1.toInt + c_.toInt := by rw [ey_2]; exact z_iaddI (x := y_1) (y := c_) (by show -2147483648 ≤ y_1.toInt + c_.toInt; omega) (by show y_1.toInt + c_.toInt < 2147483648; omega)
  refine z_ild C G 1 rfl (vp_in_iff.mpr ⟨by omega, by omega⟩) dX12_postTold_13 ?_
  refine lv_topi (fun v_3 ev_3 => ?_)
  subst ev_3
  exact z_back hQz_ (z_iret C hr hlocks G (Nat.le_of_ble_eq_true rfl) (Nat.le_of_ble_eq_true rfl) dX12_postTold_14 ⟨rfl, (congrArg f_all (by show y_2.toInt.toNat = _; omega)), (by rw [show f_all y_2.toNatClampNeg = _ from (show _ = zPt f_all i_z0 c_ from (congrArg f_all (by show y_2.toInt.toNat = _; omega)))]; exact (zMLp hL hc0 hc6).1), (by rw [show f_all y_2.toNatClampNeg = _ from (show _ = zPt f_all i_z0 c_ from (congrArg f_all (by show y_2.toInt.toNat = _; omega)))]; exact (zMLp hL hc0 hc6).2)⟩)
set_option maxHeartbeats 4000000 in
set_option maxRecDepth 100000 in
/-- c_m_leadsTo -/
theorem c_m_leadsTo (l : Launch) (T : zTy) (mo : Nat) (m_all : Nat) (m_has : Nat) (i_size : Int32) (i_next : Int32) (i_where : Int32) (i_token : Int32) (i_number : Int32) (i_word : Int32) (i_wrong : Int32) (i_farCrossing : Int32) (m_read : Nat) (i_z0 : Int32) (i_crossings : Int32) (i_inns : Int32) (m_posts : Nat) (m_shut : Nat) (m_here : Nat) (i_steps : Int32) (i_done : Int32) (i_at : Int32) (i_gone : Int32) (m_was : Nat) (m_came : Nat) (m_seenAt : Nat) (m_rowWorth : Nat) (m_farBy : Nat) (m_used : Nat) (i_everywhere : Int32) (i_again0 : Int32) (i_d0 : Int32) (i_never : Int32) (i_firstCame : Int32) (i_longRun : Int32) (i_moved : Int32) (i_crowd : Int32) (i_l0 : Int32) (i_fitMany : Int32) (i_fitLeast : Int32) (i_fitMost : Int32) (m_fitPost : Nat) (m_fitEnd : Nat) (m_keptPosts : Nat) (i_x0 : Int32) (f_all : Nat → Int32) (c_ : Int32) (k_ : Int32) (hL : zML f_all i_z0 i_crossings) (hc0 : 0 ≤ c_.toInt) (hc6 : c_.toInt ≤ 6) (hk0 : 0 ≤ k_.toInt) (hk3 : k_.toInt ≤ 3) : zMi l T yX12_leadsTo cX12_leadsTo 3 (some .int) 1 0 0 [.ref mo, .int c_, .int k_] [[zO11 mo m_all m_has i_size i_next i_where i_token i_number i_word i_wrong i_farCrossing m_read i_z0 i_crossings i_inns m_posts m_shut m_here i_steps i_done i_at i_gone m_was m_came m_seenAt m_rowWorth m_farBy m_used i_everywhere i_again0 i_d0 i_never i_firstCame i_longRun i_moved i_crowd i_l0 i_fitMany i_fitLeast i_fitMost m_fitPost m_fitEnd m_keptPosts i_x0], [zAr T 0 m_all 3952 f_all]] (fun (r : Int32) bs => bs = [[zO11 mo m_all m_has i_size i_next i_where i_token i_number i_word i_wrong i_farCrossing m_read i_z0 i_crossings i_inns m_posts m_shut m_here i_steps i_done i_at i_gone m_was m_came m_seenAt m_rowWorth m_farBy m_used i_everywhere i_again0 i_d0 i_never i_firstCame i_longRun i_moved i_crowd i_l0 i_fitMany i_fitLeast i_fitMost m_fitPost m_fitEnd m_keptPosts i_x0], [zAr T 0 m_all 3952 f_all]] ∧ r = zLe f_all i_z0 c_ k_ ∧ 0 ≤ r.toInt ∧ r.toInt ≤ 6) := by
  refine zMi_of (own := RX12) (by decide) rfl (Nat.le_of_ble_eq_true rfl) ?_
  intro p e s m args below meth c A ls C hr hlocks hnm hAe G hl
  refine zHide (fun Qz_ hQz_ => ?_)
  have hx := C.1
  have hb := C.2.1
  have hl : lv_has ls 3 [(0, .ref mo), (1, .int c_), (2, .int k_)] := hl
  have hz := hL.1
  have hcr := hL.cr
  refine lv_aload_n hx hb dX12_leadsTo_0 rfl (lv_at hl 0 rfl) ?_
  refine z_get C G clX12 0 rfl 0 (by decide) m_fl_RX12_7 rfl dX12_leadsTo_1 ?_
  refine lv_aload_n hx hb dX12_leadsTo_4 rfl (lv_at hl 0 rfl) ?_
  refine z_get C G clX12 0 rfl 11 (by decide) m_fl_RX12_166 rfl dX12_leadsTo_5 ?_
  refine lv_bipush (v := 23) hx hb dX12_leadsTo_8 (by decide) ?_
  refine lv_iadd hx hb dX12_leadsTo_10 ?_
  refine lv_topi (fun y_1 ey_1 => ?_)
  have ey_1i : y_1.toInt = i_z0.toInt + (23 : Int) := by rw [ey_1]; exact z_iaddI (x := i_z0) (y := (23 : Int32)) (by show -2147483648 ≤ i_z0.toInt + (23 : Int); omega) (by show i_z0.toInt + (23 : Int) < 2147483648; omega)
  refine lv_iconst (v := 4) hx hb dX12_leadsTo_11 (by decide) ?_
  refine lv_iload_n hx hb dX12_leadsTo_12 rfl (lv_at hl 1 rfl) ?_
  refine lv_imul hx hb dX12_leadsTo_13 ?_
  refine lv_topi (fun y_2 ey_2 => ?_)
  have ey_2i : y_2.toInt = (4 : Int) * c_.toInt := by rw [ey_2]; exact z_imulI (x := (4 : Int32)) (y := c_) (by show -2147483648 ≤ (4 : Int) * c_.toInt; omega) (by show (4 : Int) * c_.toInt < 2147483648; omega)
  refine lv_iadd hx hb dX12_leadsTo_14 ?_
  refine lv_topi (fun y_3 ey_3 => ?_)
  have ey_3i : y_3.toInt = y_1.toInt + y_2.toInt := by rw [ey_3]; exact z_iaddI (x := y_1) (y := y_2) (by show -2147483648 ≤ y_1.toInt + y_2.toInt; omega) (by show y_1.toInt + y_2.toInt < 2147483648; omega)
  refine lv_iload_n hx hb dX12_leadsTo_15 rfl (lv_at hl 2 rfl) ?_
  refine lv_iadd hx hb dX12_leadsTo_16 ?_
  refine lv_topi (fun y_4 ey_4 => ?_)
  have ey_4i : y_4.toInt = y_3.toInt + k_.toInt := by rw [ey_4]; exact z_iaddI (x := y_3) (y := k_) (by show -2147483648 ≤ y_3.toInt + k_.toInt; omega) (by show y_3.toInt + k_.toInt < 2147483648; omega)
  refine z_ild C G 1 rfl (vp_in_iff.mpr ⟨by omega, by omega⟩) dX12_leadsTo_17 ?_
  refine lv_topi (fun v_5 ev_5 => ?_)
  subst ev_5
  exact z_back hQz_ (z_iret C hr hlocks G (Nat.le_of_ble_eq_true rfl) (Nat.le_of_ble_eq_true rfl) dX12_leadsTo_18 ⟨rfl, (congrArg f_all (by show y_4.toInt.toNat = _; omega)), (by rw [show f_all y_4.toNatClampNeg = _ from (show _ = zLe f_all i_z0 c_ k_ from (congrArg f_all (by show y_4.toInt.toNat = _; omega)))]; exact (zMLl hL hc0 hc6 hk0 hk3).1), (by rw [show f_all y_4.toNatClampNeg = _ from (show _ = zLe f_all i_z0 c_ k_ from (congrArg f_all (by show y_4.toInt.toNat = _; omega)))]; exact (zMLl hL hc0 hc6 hk0 hk3).2)⟩)
set_option maxHeartbeats 4000000 in
set_option maxRecDepth 100000 in
/-- c_m_isCrossing -/
theorem c_m_isCrossing (l : Launch) (T : zTy) (mo : Nat) (m_all : Nat) (m_has : Nat) (i_size : Int32) (i_next : Int32) (i_where : Int32) (i_token : Int32) (i_number : Int32) (i_word : Int32) (i_wrong : Int32) (i_farCrossing : Int32) (m_read : Nat) (i_z0 : Int32) (i_crossings : Int32) (i_inns : Int32) (m_posts : Nat) (m_shut : Nat) (m_here : Nat) (i_steps : Int32) (i_done : Int32) (i_at : Int32) (i_gone : Int32) (m_was : Nat) (m_came : Nat) (m_seenAt : Nat) (m_rowWorth : Nat) (m_farBy : Nat) (m_used : Nat) (i_everywhere : Int32) (i_again0 : Int32) (i_d0 : Int32) (i_never : Int32) (i_firstCame : Int32) (i_longRun : Int32) (i_moved : Int32) (i_crowd : Int32) (i_l0 : Int32) (i_fitMany : Int32) (i_fitLeast : Int32) (i_fitMost : Int32) (m_fitPost : Nat) (m_fitEnd : Nat) (m_keptPosts : Nat) (i_x0 : Int32) (c_ : Int32) (hcr : 0 ≤ i_crossings.toInt ∧ i_crossings.toInt ≤ 7) : zMi l T yX12_isCrossing cX12_isCrossing 2 (some .boolean) 2 0 0 [.ref mo, .int c_] [[zO11 mo m_all m_has i_size i_next i_where i_token i_number i_word i_wrong i_farCrossing m_read i_z0 i_crossings i_inns m_posts m_shut m_here i_steps i_done i_at i_gone m_was m_came m_seenAt m_rowWorth m_farBy m_used i_everywhere i_again0 i_d0 i_never i_firstCame i_longRun i_moved i_crowd i_l0 i_fitMany i_fitLeast i_fitMost m_fitPost m_fitEnd m_keptPosts i_x0]] (fun (r : Int32) bs => bs = [[zO11 mo m_all m_has i_size i_next i_where i_token i_number i_word i_wrong i_farCrossing m_read i_z0 i_crossings i_inns m_posts m_shut m_here i_steps i_done i_at i_gone m_was m_came m_seenAt m_rowWorth m_farBy m_used i_everywhere i_again0 i_d0 i_never i_firstCame i_longRun i_moved i_crowd i_l0 i_fitMany i_fitLeast i_fitMost m_fitPost m_fitEnd m_keptPosts i_x0]] ∧ ((r = 1 ∧ 0 ≤ c_.toInt ∧ c_.toInt < i_crossings.toInt) ∨ (r = 0 ∧ (c_.toInt < 0 ∨ i_crossings.toInt ≤ c_.toInt)))) := by
  refine zMi_of (own := RX12) (by decide) rfl (Nat.le_of_ble_eq_true rfl) ?_
  intro p e s m args below meth c A ls C hr hlocks hnm hAe G hl
  refine zHide (fun Qz_ hQz_ => ?_)
  have hx := C.1
  have hb := C.2.1
  have hl : lv_has ls 2 [(0, .ref mo), (1, .int c_)] := hl
  refine lv_iload_n hx hb dX12_isCrossing_0 rfl (lv_at hl 1 rfl) ?_
  refine lv_iconst (v := 0) hx hb dX12_isCrossing_1 (by decide) ?_
  refine lv_aload_n hx hb dX12_isCrossing_2 rfl (lv_at hl 0 rfl) ?_
  refine z_get C G clX12 0 rfl 12 (by decide) m_fl_RX12_169 rfl dX12_isCrossing_3 ?_
  refine lv_iconst (v := 1) hx hb dX12_isCrossing_6 (by decide) ?_
  refine lv_isub hx hb dX12_isCrossing_7 ?_
  refine lv_topi (fun y_1 ey_1 => ?_)
  have ey_1i : y_1.toInt = i_crossings.toInt - (1 : Int) := by rw [ey_1]; exact z_isubI (x := i_crossings) (y := (1 : Int32)) (by show -2147483648 ≤ i_crossings.toInt - (1 : Int); omega) (by show i_crossings.toInt - (1 : Int) < 2147483648; omega)
  refine z_Si (bc := []) (br := [[zO11 mo m_all m_has i_size i_next i_where i_token i_number i_word i_wrong i_farCrossing m_read i_z0 i_crossings i_inns m_posts m_shut m_here i_steps i_done i_at i_gone m_was m_came m_seenAt m_rowWorth m_farBy m_used i_everywhere i_again0 i_d0 i_never i_firstCame i_longRun i_moved i_crowd i_l0 i_fitMany i_fitLeast i_fitMost m_fitPost m_fitEnd m_keptPosts i_x0]]) (As := [.int c_, .int 0, .int y_1]) (rest := []) C G (c_m_isIn l T c_ 0 y_1) (kS_RX12_111 C.2.2.2.2 (Nat.le_of_ble_eq_true rfl) (Nat.le_of_ble_eq_true rfl)) [] [] rfl rfl rfl rfl hl.1 dX12_isCrossing_8 (Nat.le_of_ble_eq_true rfl) (Nat.le_of_ble_eq_true rfl) (fun r_3 b1 H locs hw G => ?_)
  refine zAn2 hw ?_
  intro hbs9 hc_2
  clear hw
  subst hbs9
  have G : zS T A s.heap s [[zO11 mo m_all m_has i_size i_next i_where i_token i_number i_word i_wrong i_farCrossing m_read i_z0 i_crossings i_inns m_posts m_shut m_here i_steps i_done i_at i_gone m_was m_came m_seenAt m_rowWorth m_farBy m_used i_everywhere i_again0 i_d0 i_never i_firstCame i_longRun i_moved i_crowd i_l0 i_fitMany i_fitLeast i_fitMost m_fitPost m_fitEnd m_keptPosts i_x0]] _ _ := G
  rcases hc_2 with ⟨rfl, h_4, h_5⟩ | ⟨rfl, h_6⟩
  · have h_4 : (0 : Int) ≤ c_.toInt := h_4
    have h_5 : c_.toInt ≤ y_1.toInt := h_5
    exact z_back hQz_ (z_zret C hr hlocks G (Nat.le_of_ble_eq_true rfl) (Nat.le_of_ble_eq_true rfl) dX12_isCrossing_11 rfl ⟨rfl, (Or.inl (⟨rfl, (by first | with_reducible assumption | omega | assumption), (by first | with_reducible assumption | omega | assumption)⟩))⟩)
  · have h_6 : (c_.toInt < (0 : Int) ∨ y_1.toInt < c_.toInt) := h_6
    exact z_back hQz_ (z_zret C hr hlocks G (Nat.le_of_ble_eq_true rfl) (Nat.le_of_ble_eq_true rfl) dX12_isCrossing_11 rfl ⟨rfl, (Or.inr (⟨rfl, (by first | with_reducible assumption | omega | assumption)⟩))⟩)
set_option maxHeartbeats 4000000 in
set_option maxRecDepth 100000 in
/-- c_m_isInn -/
theorem c_m_isInn (l : Launch) (T : zTy) (mo : Nat) (m_all : Nat) (m_has : Nat) (i_size : Int32) (i_next : Int32) (i_where : Int32) (i_token : Int32) (i_number : Int32) (i_word : Int32) (i_wrong : Int32) (i_farCrossing : Int32) (m_read : Nat) (i_z0 : Int32) (i_crossings : Int32) (i_inns : Int32) (m_posts : Nat) (m_shut : Nat) (m_here : Nat) (i_steps : Int32) (i_done : Int32) (i_at : Int32) (i_gone : Int32) (m_was : Nat) (m_came : Nat) (m_seenAt : Nat) (m_rowWorth : Nat) (m_farBy : Nat) (m_used : Nat) (i_everywhere : Int32) (i_again0 : Int32) (i_d0 : Int32) (i_never : Int32) (i_firstCame : Int32) (i_longRun : Int32) (i_moved : Int32) (i_crowd : Int32) (i_l0 : Int32) (i_fitMany : Int32) (i_fitLeast : Int32) (i_fitMost : Int32) (m_fitPost : Nat) (m_fitEnd : Nat) (m_keptPosts : Nat) (i_x0 : Int32) (c_ : Int32) : zMi l T yX12_isInn cX12_isInn 2 (some .boolean) 1 0 0 [.ref mo, .int c_] [[zO11 mo m_all m_has i_size i_next i_where i_token i_number i_word i_wrong i_farCrossing m_read i_z0 i_crossings i_inns m_posts m_shut m_here i_steps i_done i_at i_gone m_was m_came m_seenAt m_rowWorth m_farBy m_used i_everywhere i_again0 i_d0 i_never i_firstCame i_longRun i_moved i_crowd i_l0 i_fitMany i_fitLeast i_fitMost m_fitPost m_fitEnd m_keptPosts i_x0]] (fun (r : Int32) bs => bs = [[zO11 mo m_all m_has i_size i_next i_where i_token i_number i_word i_wrong i_farCrossing m_read i_z0 i_crossings i_inns m_posts m_shut m_here i_steps i_done i_at i_gone m_was m_came m_seenAt m_rowWorth m_farBy m_used i_everywhere i_again0 i_d0 i_never i_firstCame i_longRun i_moved i_crowd i_l0 i_fitMany i_fitLeast i_fitMost m_fitPost m_fitEnd m_keptPosts i_x0]] ∧ ((r = 1 ∧ zInn i_inns c_) ∨ (r = 0 ∧ ¬ zInn i_inns c_))) := by
  refine zMi_of (own := RX12) (by decide) rfl (Nat.le_of_ble_eq_true rfl) ?_
  intro p e s m args below meth c A ls C hr hlocks hnm hAe G hl
  refine zHide (fun Qz_ hQz_ => ?_)
  have hx := C.1
  have hb := C.2.1
  have hl : lv_has ls 2 [(0, .ref mo), (1, .int c_)] := hl
  refine lv_aload_n hx hb dX12_isInn_0 rfl (lv_at hl 0 rfl) ?_
  refine z_get C G clX12 0 rfl 13 (by decide) m_fl_RX12_172 rfl dX12_isInn_1 ?_
  refine lv_iload_n hx hb dX12_isInn_4 rfl (lv_at hl 1 rfl) ?_
  refine lv_ishr hx hb dX12_isInn_5 ?_
  refine lv_iconst (v := 1) hx hb dX12_isInn_6 (by decide) ?_
  refine lv_iand hx hb dX12_isInn_7 ?_
  refine lv_iconst (v := 1) hx hb dX12_isInn_8 (by decide) ?_
  refine lv_icmp_ne (tgt := 16) hx hb dX12_isInn_9 (by decide) (fun c_1 => ?_) (fun c_1 => ?_)
  · have c_1n : ¬ ((i_inns >>> (c_ &&& 31)) &&& 1).toInt = (1 : Int) := fun q => c_1 ((fa_eq _ _).mpr q)
    refine lv_iconst (v := 0) hx hb dX12_isInn_16 (by decide) ?_
    exact z_back hQz_ (z_zret C hr hlocks G (Nat.le_of_ble_eq_true rfl) (Nat.le_of_ble_eq_true rfl) dX12_isInn_17 rfl ⟨rfl, (Or.inr (⟨rfl, (by first | with_reducible assumption | omega | assumption)⟩))⟩)
  · have c_1n : ((i_inns >>> (c_ &&& 31)) &&& 1).toInt = (1 : Int) := (fa_eq _ _).mp c_1
    refine lv_iconst (v := 1) hx hb dX12_isInn_12 (by decide) ?_
    refine lv_goto (tgt := 17) hx hb dX12_isInn_13 (by decide) ?_
    exact z_back hQz_ (z_zret C hr hlocks G (Nat.le_of_ble_eq_true rfl) (Nat.le_of_ble_eq_true rfl) dX12_isInn_17 rfl ⟨rfl, (Or.inl (⟨rfl, (by first | with_reducible assumption | omega | assumption)⟩))⟩)
set_option maxHeartbeats 4000000 in
set_option maxRecDepth 100000 in
/-- c_m_isFree -/
theorem c_m_isFree (l : Launch) (T : zTy) (mo : Nat) (m_all : Nat) (m_has : Nat) (i_size : Int32) (i_next : Int32) (i_where : Int32) (i_token : Int32) (i_number : Int32) (i_word : Int32) (i_wrong : Int32) (i_farCrossing : Int32) (m_read : Nat) (i_z0 : Int32) (i_crossings : Int32) (i_inns : Int32) (m_posts : Nat) (m_shut : Nat) (m_here : Nat) (i_steps : Int32) (i_done : Int32) (i_at : Int32) (i_gone : Int32) (m_was : Nat) (m_came : Nat) (m_seenAt : Nat) (m_rowWorth : Nat) (m_farBy : Nat) (m_used : Nat) (i_everywhere : Int32) (i_again0 : Int32) (i_d0 : Int32) (i_never : Int32) (i_firstCame : Int32) (i_longRun : Int32) (i_moved : Int32) (i_crowd : Int32) (i_l0 : Int32) (i_fitMany : Int32) (i_fitLeast : Int32) (i_fitMost : Int32) (m_fitPost : Nat) (m_fitEnd : Nat) (m_keptPosts : Nat) (i_x0 : Int32) (f_all : Nat → Int32) (c_ : Int32) (hL : zML f_all i_z0 i_crossings) (hc0 : 0 ≤ c_.toInt) (hc6 : c_.toInt ≤ 6) : zMi l T yX12_isFree cX12_isFree 2 (some .boolean) 2 0 0 [.ref mo, .int c_] [[zO11 mo m_all m_has i_size i_next i_where i_token i_number i_word i_wrong i_farCrossing m_read i_z0 i_crossings i_inns m_posts m_shut m_here i_steps i_done i_at i_gone m_was m_came m_seenAt m_rowWorth m_farBy m_used i_everywhere i_again0 i_d0 i_never i_firstCame i_longRun i_moved i_crowd i_l0 i_fitMany i_fitLeast i_fitMost m_fitPost m_fitEnd m_keptPosts i_x0], [zAr T 0 m_all 3952 f_all]] (fun (r : Int32) bs => bs = [[zO11 mo m_all m_has i_size i_next i_where i_token i_number i_word i_wrong i_farCrossing m_read i_z0 i_crossings i_inns m_posts m_shut m_here i_steps i_done i_at i_gone m_was m_came m_seenAt m_rowWorth m_farBy m_used i_everywhere i_again0 i_d0 i_never i_firstCame i_longRun i_moved i_crowd i_l0 i_fitMany i_fitLeast i_fitMost m_fitPost m_fitEnd m_keptPosts i_x0], [zAr T 0 m_all 3952 f_all]] ∧ ((r = 1 ∧ ¬ zInn i_inns c_ ∧ 0 < (zRd f_all i_z0 c_).toInt) ∨ (r = 0 ∧ (zInn i_inns c_ ∨ (zRd f_all i_z0 c_).toInt ≤ 0)))) := by
  refine zMi_of (own := RX12) (by decide) rfl (Nat.le_of_ble_eq_true rfl) ?_
  intro p e s m args below meth c A ls C hr hlocks hnm hAe G hl
  refine zHide (fun Qz_ hQz_ => ?_)
  have hx := C.1
  have hb := C.2.1
  have hl : lv_has ls 2 [(0, .ref mo), (1, .int c_)] := hl
  refine lv_aload_n hx hb dX12_isFree_0 rfl (lv_at hl 0 rfl) ?_
  refine lv_iload_n hx hb dX12_isFree_1 rfl (lv_at hl 1 rfl) ?_
  refine z_Vi (bc := [[zO11 mo m_all m_has i_size i_next i_where i_token i_number i_word i_wrong i_farCrossing m_read i_z0 i_crossings i_inns m_posts m_shut m_here i_steps i_done i_at i_gone m_was m_came m_seenAt m_rowWorth m_farBy m_used i_everywhere i_again0 i_d0 i_never i_firstCame i_longRun i_moved i_crowd i_l0 i_fitMany i_fitLeast i_fitMost m_fitPost m_fitEnd m_keptPosts i_x0]]) (br := [[zAr T 0 m_all 3952 f_all]]) (As := [.int c_]) (rest := []) C G (c_m_isInn l T mo m_all m_has i_size i_next i_where i_token i_number i_word i_wrong i_farCrossing m_read i_z0 i_crossings i_inns m_posts m_shut m_here i_steps i_done i_at i_gone m_was m_came m_seenAt m_rowWorth m_farBy m_used i_everywhere i_again0 i_d0 i_never i_firstCame i_longRun i_moved i_crowd i_l0 i_fitMany i_fitLeast i_fitMost m_fitPost m_fitEnd m_keptPosts i_x0 c_) (kV_RX12_178 C.2.2.2.2 (Nat.le_of_ble_eq_true rfl) (Nat.le_of_ble_eq_true rfl)) [0] [0] rfl rfl (ci := 11) (qc := (RX12, TX12, 43)) rfl rfl (List.mem_flatten.mpr ⟨_, List.mem_of_getElem? (i := 0) rfl, List.mem_cons_self⟩) rfl rfl hl.1 dX12_isFree_2 (Nat.le_of_ble_eq_true rfl) (Nat.le_of_ble_eq_true rfl) (fun r_2 b1 H locs hw G => ?_)
  refine zAn2 hw ?_
  intro hbs9 hc_1
  clear hw
  subst hbs9
  have G : zS T A s.heap s [[zAr T 0 m_all 3952 f_all], [zO11 mo m_all m_has i_size i_next i_where i_token i_number i_word i_wrong i_farCrossing m_read i_z0 i_crossings i_inns m_posts m_shut m_here i_steps i_done i_at i_gone m_was m_came m_seenAt m_rowWorth m_farBy m_used i_everywhere i_again0 i_d0 i_never i_firstCame i_longRun i_moved i_crowd i_l0 i_fitMany i_fitLeast i_fitMost m_fitPost m_fitEnd m_keptPosts i_x0]] _ _ := G
  rcases hc_1 with ⟨rfl, h_3⟩ | ⟨rfl, h_4⟩
  · have h_3 : zInn i_inns c_ := h_3
    refine lv_if_ne (tgt := 20) hx hb dX12_isFree_5 (by decide) (fun _ => ?_) (fun q => absurd q (by decide))
    refine lv_iconst (v := 0) hx hb dX12_isFree_20 (by decide) ?_
    have G := G.sub (bs' := [[zO11 mo m_all m_has i_size i_next i_where i_token i_number i_word i_wrong i_farCrossing m_read i_z0 i_crossings i_inns m_posts m_shut m_here i_steps i_done i_at i_gone m_was m_came m_seenAt m_rowWorth m_farBy m_used i_everywhere i_again0 i_d0 i_never i_firstCame i_longRun i_moved i_crowd i_l0 i_fitMany i_fitLeast i_fitMost m_fitPost m_fitEnd m_keptPosts i_x0], [zAr T 0 m_all 3952 f_all]]) [1, 0] rfl
    exact z_back hQz_ (z_zret C hr hlocks G (Nat.le_of_ble_eq_true rfl) (Nat.le_of_ble_eq_true rfl) dX12_isFree_21 rfl ⟨rfl, (Or.inr (⟨rfl, (by first | exact Or.inl (by first | with_reducible assumption | assumption) | exact Or.inr (by omega))⟩))⟩)
  · have h_4 : ¬ zInn i_inns c_ := h_4
    refine lv_if_ne (tgt := 20) hx hb dX12_isFree_5 (by decide) (fun q => absurd (by decide) q) (fun _ => ?_)
    refine lv_aload_n hx hb dX12_isFree_8 rfl (lv_at hl 0 rfl) ?_
    refine lv_iload_n hx hb dX12_isFree_9 rfl (lv_at hl 1 rfl) ?_
    refine z_Vi (bc := [[zO11 mo m_all m_has i_size i_next i_where i_token i_number i_word i_wrong i_farCrossing m_read i_z0 i_crossings i_inns m_posts m_shut m_here i_steps i_done i_at i_gone m_was m_came m_seenAt m_rowWorth m_farBy m_used i_everywhere i_again0 i_d0 i_never i_firstCame i_longRun i_moved i_crowd i_l0 i_fitMany i_fitLeast i_fitMost m_fitPost m_fitEnd m_keptPosts i_x0], [zAr T 0 m_all 3952 f_all]]) (br := []) (As := [.int c_]) (rest := []) C G (c_m_roadsOf l T mo m_all m_has i_size i_next i_where i_token i_number i_word i_wrong i_farCrossing m_read i_z0 i_crossings i_inns m_posts m_shut m_here i_steps i_done i_at i_gone m_was m_came m_seenAt m_rowWorth m_farBy m_used i_everywhere i_again0 i_d0 i_never i_firstCame i_longRun i_moved i_crowd i_l0 i_fitMany i_fitLeast i_fitMost m_fitPost m_fitEnd m_keptPosts i_x0 f_all c_ (by first | with_reducible assumption | with_reducible rfl | omega | assumption | rfl | decide) (by first | with_reducible assumption | with_reducible rfl | omega | assumption | rfl | decide) (by first | with_reducible assumption | with_reducible rfl | omega | assumption | rfl | decide)) (kV_RX12_181 C.2.2.2.2 (Nat.le_of_ble_eq_true rfl) (Nat.le_of_ble_eq_true rfl)) [1, 0] [0, 0] rfl rfl (ci := 11) (qc := (RX12, TX12, 43)) rfl rfl (List.mem_flatten.mpr ⟨_, List.mem_of_getElem? (i := 0) rfl, List.mem_cons_self⟩) rfl rfl hl.1 dX12_isFree_10 (Nat.le_of_ble_eq_true rfl) (Nat.le_of_ble_eq_true rfl) (fun r_8 b1 H locs hw G => ?_)
    refine zAn4 hw ?_
    intro hbs9 h_5 h_6 h_7
    clear hw
    subst hbs9
    have G : zS T A s.heap s [[zO11 mo m_all m_has i_size i_next i_where i_token i_number i_word i_wrong i_farCrossing m_read i_z0 i_crossings i_inns m_posts m_shut m_here i_steps i_done i_at i_gone m_was m_came m_seenAt m_rowWorth m_farBy m_used i_everywhere i_again0 i_d0 i_never i_firstCame i_longRun i_moved i_crowd i_l0 i_fitMany i_fitLeast i_fitMost m_fitPost m_fitEnd m_keptPosts i_x0], [zAr T 0 m_all 3952 f_all]] _ _ := G
    subst h_5
    refine lv_if_le (tgt := 20) hx hb dX12_isFree_13 (by decide) (fun c_9 => ?_) (fun c_9 => ?_)
    · have c_9n : (zRd f_all i_z0 c_).toInt ≤ (0 : Int) := (fa_le _ _).mp c_9
      refine lv_iconst (v := 0) hx hb dX12_isFree_20 (by decide) ?_
      exact z_back hQz_ (z_zret C hr hlocks G (Nat.le_of_ble_eq_true rfl) (Nat.le_of_ble_eq_true rfl) dX12_isFree_21 rfl ⟨rfl, (Or.inr (⟨rfl, (by first | exact Or.inl (by first | with_reducible assumption | assumption) | exact Or.inr (by omega))⟩))⟩)
    · have c_9n : ¬ (zRd f_all i_z0 c_).toInt ≤ (0 : Int) := fun q => c_9 ((fa_le _ _).mpr q)
      refine lv_iconst (v := 1) hx hb dX12_isFree_16 (by decide) ?_
      refine lv_goto (tgt := 21) hx hb dX12_isFree_17 (by decide) ?_
      exact z_back hQz_ (z_zret C hr hlocks G (Nat.le_of_ble_eq_true rfl) (Nat.le_of_ble_eq_true rfl) dX12_isFree_21 rfl ⟨rfl, (Or.inl (⟨rfl, (by first | with_reducible assumption | omega | assumption), (by omega)⟩))⟩)
theorem m_fl_RX12_196 : Cond.fieldLink RX12 196 (TX12 17).1 (TX12 17).2.1 (TX12 17).2.2.1 ∈ zT := zmem1 zsub_6 12 rfl rfl
theorem m_fl_RX12_199 : Cond.fieldLink RX12 199 (TX12 18).1 (TX12 18).2.1 (TX12 18).2.2.1 ∈ zT := zmem1 zsub_6 13 rfl rfl
theorem m_co_X12_postTold : Cond.code yX12_postTold cX12_postTold 2 (some .int) ∈ zT := zmem1 zsub_6 239 rfl rfl
theorem m_ml_RX12_193 : Cond.methodLink RX12 193 yX12_postTold ∈ zT := zmem1 zsub_6 236 rfl rfl
theorem m_im_X12_postTold : Cond.instanceMethod yX12_postTold ∈ zT := zmem1 zsub_6 238 rfl rfl
theorem m_se_X12_postTold : Cond.selects RX12 yX12_postTold yX12_postTold ∈ zT := zmem 61 rfl rfl
theorem m_co_X12_begins : Cond.code yX12_begins cX12_begins 2 none ∈ zT := zmem1 zsub_6 235 rfl rfl
theorem m_ml_RX12_175 : Cond.methodLink RX12 175 yX12_begins ∈ zT := zmem1 zsub_6 232 rfl rfl
theorem m_im_X12_begins : Cond.instanceMethod yX12_begins ∈ zT := zmem1 zsub_6 234 rfl rfl
theorem m_se_X12_begins : Cond.selects RX12 yX12_begins yX12_begins ∈ zT := zmem 60 rfl rfl
theorem m_fl_RX12_202 : Cond.fieldLink RX12 202 (TX12 19).1 (TX12 19).2.1 (TX12 19).2.2.1 ∈ zT := zmem1 zsub_6 14 rfl rfl
theorem m_co_X12_turns : Cond.code yX12_turns cX12_turns 5 (some .boolean) ∈ zT := zmem1 zsub_7 35 rfl rfl
theorem m_ml_RX12_205 : Cond.methodLink RX12 205 yX12_turns ∈ zT := zmem1 zsub_7 32 rfl rfl
theorem m_im_X12_turns : Cond.instanceMethod yX12_turns ∈ zT := zmem1 zsub_7 34 rfl rfl
theorem m_se_X12_turns : Cond.selects RX12 yX12_turns yX12_turns ∈ zT := zmem 69 rfl rfl
theorem m_co_X12_leadsTo : Cond.code yX12_leadsTo cX12_leadsTo 3 (some .int) ∈ zT := zmem1 zsub_7 11 rfl rfl
theorem m_ml_RX12_190 : Cond.methodLink RX12 190 yX12_leadsTo ∈ zT := zmem1 zsub_7 8 rfl rfl
theorem m_im_X12_leadsTo : Cond.instanceMethod yX12_leadsTo ∈ zT := zmem1 zsub_7 10 rfl rfl
theorem m_se_X12_leadsTo : Cond.selects RX12 yX12_leadsTo yX12_leadsTo ∈ zT := zmem 64 rfl rfl
theorem m_fl_RX12_208 : Cond.fieldLink RX12 208 (TX12 20).1 (TX12 20).2.1 (TX12 20).2.2.1 ∈ zT := zmem1 zsub_6 15 rfl rfl
theorem kV_RX12_193 {R : Room} {s : State} {args : Array Value} {d mc ms : Nat} (hts : ∀ w ∈ zT, w.before args s = true) (h1 : d + 1 ≤ R.frames) (h2 : 8 + (2 + 11) + 40 * d ≤ R.locals) : CallW R s args RX12 RX12 193 yX12_postTold cX12_postTold 2 (some .int) (zW yX12_postTold cX12_postTold 2 (some .int)) (zR d mc ms) mc ms 1 := z_cwV hts m_co_X12_postTold m_ml_RX12_193 m_im_X12_postTold m_se_X12_postTold m_ii_RX12 (by decide +kernel) h1 h2
theorem kV_RX12_175 {R : Room} {s : State} {args : Array Value} {d mc ms : Nat} (hts : ∀ w ∈ zT, w.before args s = true) (h1 : d + 1 ≤ R.frames) (h2 : 8 + (2 + 11) + 40 * d ≤ R.locals) : CallW R s args RX12 RX12 175 yX12_begins cX12_begins 2 none (zW yX12_begins cX12_begins 2 none) (zR d mc ms) mc ms 0 := z_cwV hts m_co_X12_begins m_ml_RX12_175 m_im_X12_begins m_se_X12_begins m_ii_RX12 (by decide +kernel) h1 h2
theorem kV_RX12_205 {R : Room} {s : State} {args : Array Value} {d mc ms : Nat} (hts : ∀ w ∈ zT, w.before args s = true) (h1 : d + 1 ≤ R.frames) (h2 : 8 + (5 + 11) + 40 * d ≤ R.locals) : CallW R s args RX12 RX12 205 yX12_turns cX12_turns 5 (some .boolean) (zW yX12_turns cX12_turns 5 (some .boolean)) (zR d mc ms) mc ms 1 := z_cwV hts m_co_X12_turns m_ml_RX12_205 m_im_X12_turns m_se_X12_turns m_ii_RX12 (by decide +kernel) h1 h2
theorem kV_RX12_190 {R : Room} {s : State} {args : Array Value} {d mc ms : Nat} (hts : ∀ w ∈ zT, w.before args s = true) (h1 : d + 1 ≤ R.frames) (h2 : 8 + (3 + 11) + 40 * d ≤ R.locals) : CallW R s args RX12 RX12 190 yX12_leadsTo cX12_leadsTo 3 (some .int) (zW yX12_leadsTo cX12_leadsTo 3 (some .int)) (zR d mc ms) mc ms 2 := z_cwV hts m_co_X12_leadsTo m_ml_RX12_190 m_im_X12_leadsTo m_se_X12_leadsTo m_ii_RX12 (by decide +kernel) h1 h2
theorem dX12_begins_0 : decode cX12_begins 0 = .ok (.aload_n 0, 1) := zo_42 (by decide +kernel)
theorem dX12_begins_1 : decode cX12_begins 1 = .ok (.iconst 0, 1) := zo_3 (by decide +kernel)
theorem dX12_begins_2 : decode cX12_begins 2 = .ok (.putfield 196, 3) := zo_181 (by decide +kernel)
theorem dX12_begins_5 : decode cX12_begins 5 = .ok (.aload_n 0, 1) := zo_42 (by decide +kernel)
theorem dX12_begins_6 : decode cX12_begins 6 = .ok (.iconst 0, 1) := zo_3 (by decide +kernel)
theorem dX12_begins_7 : decode cX12_begins 7 = .ok (.putfield 199, 3) := zo_181 (by decide +kernel)
theorem dX12_begins_10 : decode cX12_begins 10 = .ok (.iconst 0, 1) := zo_3 (by decide +kernel)
theorem dX12_begins_11 : decode cX12_begins 11 = .ok (.istore_n 1, 1) := zo_60 (by decide +kernel)
theorem dX12_begins_12 : decode cX12_begins 12 = .ok (.iload_n 1, 1) := zo_27 (by decide +kernel)
theorem dX12_begins_13 : decode cX12_begins 13 = .ok (.bipush 7, 2) := zo_16 (by decide +kernel)
theorem dX12_begins_15 : decode cX12_begins 15 = .ok (.if_icmp .ge 47, 3) := zo_162 (by decide +kernel)
theorem dX12_begins_18 : decode cX12_begins 18 = .ok (.aload_n 0, 1) := zo_42 (by decide +kernel)
theorem dX12_begins_19 : decode cX12_begins 19 = .ok (.getfield 20, 3) := zo_180 (by decide +kernel)
theorem dX12_begins_22 : decode cX12_begins 22 = .ok (.iload_n 1, 1) := zo_27 (by decide +kernel)
theorem dX12_begins_23 : decode cX12_begins 23 = .ok (.aload_n 0, 1) := zo_42 (by decide +kernel)
theorem dX12_begins_24 : decode cX12_begins 24 = .ok (.iload_n 1, 1) := zo_27 (by decide +kernel)
theorem dX12_begins_25 : decode cX12_begins 25 = .ok (.invokevirtual 193, 3) := zo_182 (by decide +kernel)
theorem dX12_begins_28 : decode cX12_begins 28 = .ok (.iastore, 1) := zo_79 (by decide +kernel)
theorem dX12_begins_29 : decode cX12_begins 29 = .ok (.aload_n 0, 1) := zo_42 (by decide +kernel)
theorem dX12_begins_30 : decode cX12_begins 30 = .ok (.getfield 23, 3) := zo_180 (by decide +kernel)
theorem dX12_begins_33 : decode cX12_begins 33 = .ok (.iload_n 1, 1) := zo_27 (by decide +kernel)
theorem dX12_begins_34 : decode cX12_begins 34 = .ok (.iconst 0, 1) := zo_3 (by decide +kernel)
theorem dX12_begins_35 : decode cX12_begins 35 = .ok (.iastore, 1) := zo_79 (by decide +kernel)
theorem dX12_begins_36 : decode cX12_begins 36 = .ok (.aload_n 0, 1) := zo_42 (by decide +kernel)
theorem dX12_begins_37 : decode cX12_begins 37 = .ok (.getfield 26, 3) := zo_180 (by decide +kernel)
theorem dX12_begins_40 : decode cX12_begins 40 = .ok (.iload_n 1, 1) := zo_27 (by decide +kernel)
theorem dX12_begins_41 : decode cX12_begins 41 = .ok (.aload_n 0, 1) := zo_42 (by decide +kernel)
theorem dX12_begins_42 : decode cX12_begins 42 = .ok (.getfield 7, 3) := zo_180 (by decide +kernel)
theorem dX12_begins_45 : decode cX12_begins 45 = .ok (.aload_n 0, 1) := zo_42 (by decide +kernel)
theorem dX12_begins_46 : decode cX12_begins 46 = .ok (.getfield 166, 3) := zo_180 (by decide +kernel)
theorem dX12_begins_49 : decode cX12_begins 49 = .ok (.bipush 16, 2) := zo_16 (by decide +kernel)
theorem dX12_begins_51 : decode cX12_begins 51 = .ok (.iadd, 1) := zo_96 (by decide +kernel)
theorem dX12_begins_52 : decode cX12_begins 52 = .ok (.iload_n 1, 1) := zo_27 (by decide +kernel)
theorem dX12_begins_53 : decode cX12_begins 53 = .ok (.iadd, 1) := zo_96 (by decide +kernel)
theorem dX12_begins_54 : decode cX12_begins 54 = .ok (.iaload, 1) := zo_46 (by decide +kernel)
theorem dX12_begins_55 : decode cX12_begins 55 = .ok (.iastore, 1) := zo_79 (by decide +kernel)
theorem dX12_begins_56 : decode cX12_begins 56 = .ok (.iinc 1 1, 3) := zo_132 (by decide +kernel)
theorem dX12_begins_59 : decode cX12_begins 59 = .ok (.goto (-47), 3) := zo_167 (by decide +kernel)
theorem dX12_begins_62 : decode cX12_begins 62 = .ok (.return_, 1) := zo_177 (by decide +kernel)
theorem dX12_isLand_0 : decode cX12_isLand 0 = .ok (.aload_n 0, 1) := zo_42 (by decide +kernel)
theorem dX12_isLand_1 : decode cX12_isLand 1 = .ok (.iconst 0, 1) := zo_3 (by decide +kernel)
theorem dX12_isLand_2 : decode cX12_isLand 2 = .ok (.iload_n 1, 1) := zo_27 (by decide +kernel)
theorem dX12_isLand_3 : decode cX12_isLand 3 = .ok (.invokevirtual 143, 3) := zo_182 (by decide +kernel)
theorem dX12_isLand_6 : decode cX12_isLand 6 = .ok (.ifCond .ne 5, 3) := zo_154 (by decide +kernel)
theorem dX12_isLand_9 : decode cX12_isLand 9 = .ok (.iconst 0, 1) := zo_3 (by decide +kernel)
theorem dX12_isLand_10 : decode cX12_isLand 10 = .ok (.ireturn, 1) := zo_172 (by decide +kernel)
theorem dX12_isLand_11 : decode cX12_isLand 11 = .ok (.aload_n 0, 1) := zo_42 (by decide +kernel)
theorem dX12_isLand_12 : decode cX12_isLand 12 = .ok (.iconst 0, 1) := zo_3 (by decide +kernel)
theorem dX12_isLand_13 : decode cX12_isLand 13 = .ok (.iload_n 1, 1) := zo_27 (by decide +kernel)
theorem dX12_isLand_14 : decode cX12_isLand 14 = .ok (.invokestatic 163, 3) := zo_184 (by decide +kernel)
theorem dX12_isLand_17 : decode cX12_isLand 17 = .ok (.putfield 166, 3) := zo_181 (by decide +kernel)
theorem dX12_isLand_20 : decode cX12_isLand 20 = .ok (.aload_n 0, 1) := zo_42 (by decide +kernel)
theorem dX12_isLand_21 : decode cX12_isLand 21 = .ok (.aload_n 0, 1) := zo_42 (by decide +kernel)
theorem dX12_isLand_22 : decode cX12_isLand 22 = .ok (.getfield 7, 3) := zo_180 (by decide +kernel)
theorem dX12_isLand_25 : decode cX12_isLand 25 = .ok (.aload_n 0, 1) := zo_42 (by decide +kernel)
theorem dX12_isLand_26 : decode cX12_isLand 26 = .ok (.getfield 166, 3) := zo_180 (by decide +kernel)
theorem dX12_isLand_29 : decode cX12_isLand 29 = .ok (.iaload, 1) := zo_46 (by decide +kernel)
theorem dX12_isLand_30 : decode cX12_isLand 30 = .ok (.putfield 169, 3) := zo_181 (by decide +kernel)
theorem dX12_isLand_33 : decode cX12_isLand 33 = .ok (.aload_n 0, 1) := zo_42 (by decide +kernel)
theorem dX12_isLand_34 : decode cX12_isLand 34 = .ok (.aload_n 0, 1) := zo_42 (by decide +kernel)
theorem dX12_isLand_35 : decode cX12_isLand 35 = .ok (.getfield 7, 3) := zo_180 (by decide +kernel)
theorem dX12_isLand_38 : decode cX12_isLand 38 = .ok (.aload_n 0, 1) := zo_42 (by decide +kernel)
theorem dX12_isLand_39 : decode cX12_isLand 39 = .ok (.getfield 166, 3) := zo_180 (by decide +kernel)
theorem dX12_isLand_42 : decode cX12_isLand 42 = .ok (.iconst 1, 1) := zo_4 (by decide +kernel)
theorem dX12_isLand_43 : decode cX12_isLand 43 = .ok (.iadd, 1) := zo_96 (by decide +kernel)
theorem dX12_isLand_44 : decode cX12_isLand 44 = .ok (.iaload, 1) := zo_46 (by decide +kernel)
theorem dX12_isLand_45 : decode cX12_isLand 45 = .ok (.putfield 172, 3) := zo_181 (by decide +kernel)
theorem dX12_isLand_48 : decode cX12_isLand 48 = .ok (.aload_n 0, 1) := zo_42 (by decide +kernel)
theorem dX12_isLand_49 : decode cX12_isLand 49 = .ok (.invokevirtual 175, 3) := zo_182 (by decide +kernel)
theorem dX12_isLand_52 : decode cX12_isLand 52 = .ok (.iconst 1, 1) := zo_4 (by decide +kernel)
theorem dX12_isLand_53 : decode cX12_isLand 53 = .ok (.ireturn, 1) := zo_172 (by decide +kernel)
theorem dX12_turns_0 : decode cX12_turns 0 = .ok (.aload_n 0, 1) := zo_42 (by decide +kernel)
theorem dX12_turns_1 : decode cX12_turns 1 = .ok (.iload_n 1, 1) := zo_27 (by decide +kernel)
theorem dX12_turns_2 : decode cX12_turns 2 = .ok (.invokevirtual 181, 3) := zo_182 (by decide +kernel)
theorem dX12_turns_5 : decode cX12_turns 5 = .ok (.istore_n 2, 1) := zo_61 (by decide +kernel)
theorem dX12_turns_6 : decode cX12_turns 6 = .ok (.iconst 1, 1) := zo_4 (by decide +kernel)
theorem dX12_turns_7 : decode cX12_turns 7 = .ok (.istore_n 3, 1) := zo_62 (by decide +kernel)
theorem dX12_turns_8 : decode cX12_turns 8 = .ok (.iload_n 3, 1) := zo_29 (by decide +kernel)
theorem dX12_turns_9 : decode cX12_turns 9 = .ok (.iload_n 2, 1) := zo_28 (by decide +kernel)
theorem dX12_turns_10 : decode cX12_turns 10 = .ok (.if_icmp .gt 49, 3) := zo_163 (by decide +kernel)
theorem dX12_turns_13 : decode cX12_turns 13 = .ok (.aload_n 0, 1) := zo_42 (by decide +kernel)
theorem dX12_turns_14 : decode cX12_turns 14 = .ok (.getfield 20, 3) := zo_180 (by decide +kernel)
theorem dX12_turns_17 : decode cX12_turns 17 = .ok (.iload_n 1, 1) := zo_27 (by decide +kernel)
theorem dX12_turns_18 : decode cX12_turns 18 = .ok (.iaload, 1) := zo_46 (by decide +kernel)
theorem dX12_turns_19 : decode cX12_turns 19 = .ok (.iload_n 3, 1) := zo_29 (by decide +kernel)
theorem dX12_turns_20 : decode cX12_turns 20 = .ok (.iadd, 1) := zo_96 (by decide +kernel)
theorem dX12_turns_21 : decode cX12_turns 21 = .ok (.iload_n 2, 1) := zo_28 (by decide +kernel)
theorem dX12_turns_22 : decode cX12_turns 22 = .ok (.irem, 1) := zo_112 (by decide +kernel)
theorem dX12_turns_23 : decode cX12_turns 23 = .ok (.istore 4, 2) := zo_54 (by decide +kernel)
theorem dX12_turns_25 : decode cX12_turns 25 = .ok (.aload_n 0, 1) := zo_42 (by decide +kernel)
theorem dX12_turns_26 : decode cX12_turns 26 = .ok (.getfield 23, 3) := zo_180 (by decide +kernel)
theorem dX12_turns_29 : decode cX12_turns 29 = .ok (.iload_n 1, 1) := zo_27 (by decide +kernel)
theorem dX12_turns_30 : decode cX12_turns 30 = .ok (.iaload, 1) := zo_46 (by decide +kernel)
theorem dX12_turns_31 : decode cX12_turns 31 = .ok (.iload 4, 2) := zo_21 (by decide +kernel)
theorem dX12_turns_33 : decode cX12_turns 33 = .ok (.ishr, 1) := zo_122 (by decide +kernel)
theorem dX12_turns_34 : decode cX12_turns 34 = .ok (.iconst 1, 1) := zo_4 (by decide +kernel)
theorem dX12_turns_35 : decode cX12_turns 35 = .ok (.iand, 1) := zo_126 (by decide +kernel)
theorem dX12_turns_36 : decode cX12_turns 36 = .ok (.iconst 1, 1) := zo_4 (by decide +kernel)
theorem dX12_turns_37 : decode cX12_turns 37 = .ok (.if_icmp .ne 6, 3) := zo_160 (by decide +kernel)
theorem dX12_turns_40 : decode cX12_turns 40 = .ok (.goto 13, 3) := zo_167 (by decide +kernel)
theorem dX12_turns_43 : decode cX12_turns 43 = .ok (.aload_n 0, 1) := zo_42 (by decide +kernel)
theorem dX12_turns_44 : decode cX12_turns 44 = .ok (.getfield 20, 3) := zo_180 (by decide +kernel)
theorem dX12_turns_47 : decode cX12_turns 47 = .ok (.iload_n 1, 1) := zo_27 (by decide +kernel)
theorem dX12_turns_48 : decode cX12_turns 48 = .ok (.iload 4, 2) := zo_21 (by decide +kernel)
theorem dX12_turns_50 : decode cX12_turns 50 = .ok (.iastore, 1) := zo_79 (by decide +kernel)
theorem dX12_turns_51 : decode cX12_turns 51 = .ok (.iconst 1, 1) := zo_4 (by decide +kernel)
theorem dX12_turns_52 : decode cX12_turns 52 = .ok (.ireturn, 1) := zo_172 (by decide +kernel)
theorem dX12_turns_53 : decode cX12_turns 53 = .ok (.iinc 3 1, 3) := zo_132 (by decide +kernel)
theorem dX12_turns_56 : decode cX12_turns 56 = .ok (.goto (-48), 3) := zo_167 (by decide +kernel)
theorem dX12_turns_59 : decode cX12_turns 59 = .ok (.iconst 0, 1) := zo_3 (by decide +kernel)
theorem dX12_turns_60 : decode cX12_turns 60 = .ok (.ireturn, 1) := zo_172 (by decide +kernel)
theorem dX12_stepsOn_0 : decode cX12_stepsOn 0 = .ok (.aload_n 0, 1) := zo_42 (by decide +kernel)
theorem dX12_stepsOn_1 : decode cX12_stepsOn 1 = .ok (.aload_n 0, 1) := zo_42 (by decide +kernel)
theorem dX12_stepsOn_2 : decode cX12_stepsOn 2 = .ok (.getfield 202, 3) := zo_180 (by decide +kernel)
theorem dX12_stepsOn_5 : decode cX12_stepsOn 5 = .ok (.invokevirtual 178, 3) := zo_182 (by decide +kernel)
theorem dX12_stepsOn_8 : decode cX12_stepsOn 8 = .ok (.ifCond .ne 14, 3) := zo_154 (by decide +kernel)
theorem dX12_stepsOn_11 : decode cX12_stepsOn 11 = .ok (.aload_n 0, 1) := zo_42 (by decide +kernel)
theorem dX12_stepsOn_12 : decode cX12_stepsOn 12 = .ok (.aload_n 0, 1) := zo_42 (by decide +kernel)
theorem dX12_stepsOn_13 : decode cX12_stepsOn 13 = .ok (.getfield 202, 3) := zo_180 (by decide +kernel)
theorem dX12_stepsOn_16 : decode cX12_stepsOn 16 = .ok (.invokevirtual 205, 3) := zo_182 (by decide +kernel)
theorem dX12_stepsOn_19 : decode cX12_stepsOn 19 = .ok (.ifCond .ne 5, 3) := zo_154 (by decide +kernel)
theorem dX12_stepsOn_22 : decode cX12_stepsOn 22 = .ok (.iconst 0, 1) := zo_3 (by decide +kernel)
theorem dX12_stepsOn_23 : decode cX12_stepsOn 23 = .ok (.ireturn, 1) := zo_172 (by decide +kernel)
theorem dX12_stepsOn_24 : decode cX12_stepsOn 24 = .ok (.aload_n 0, 1) := zo_42 (by decide +kernel)
theorem dX12_stepsOn_25 : decode cX12_stepsOn 25 = .ok (.aload_n 0, 1) := zo_42 (by decide +kernel)
theorem dX12_stepsOn_26 : decode cX12_stepsOn 26 = .ok (.aload_n 0, 1) := zo_42 (by decide +kernel)
theorem dX12_stepsOn_27 : decode cX12_stepsOn 27 = .ok (.getfield 202, 3) := zo_180 (by decide +kernel)
theorem dX12_stepsOn_30 : decode cX12_stepsOn 30 = .ok (.aload_n 0, 1) := zo_42 (by decide +kernel)
theorem dX12_stepsOn_31 : decode cX12_stepsOn 31 = .ok (.getfield 20, 3) := zo_180 (by decide +kernel)
theorem dX12_stepsOn_34 : decode cX12_stepsOn 34 = .ok (.aload_n 0, 1) := zo_42 (by decide +kernel)
theorem dX12_stepsOn_35 : decode cX12_stepsOn 35 = .ok (.getfield 202, 3) := zo_180 (by decide +kernel)
theorem dX12_stepsOn_38 : decode cX12_stepsOn 38 = .ok (.iaload, 1) := zo_46 (by decide +kernel)
theorem dX12_stepsOn_39 : decode cX12_stepsOn 39 = .ok (.invokevirtual 190, 3) := zo_182 (by decide +kernel)
theorem dX12_stepsOn_42 : decode cX12_stepsOn 42 = .ok (.putfield 202, 3) := zo_181 (by decide +kernel)
theorem dX12_stepsOn_45 : decode cX12_stepsOn 45 = .ok (.aload_n 0, 1) := zo_42 (by decide +kernel)
theorem dX12_stepsOn_46 : decode cX12_stepsOn 46 = .ok (.dup, 1) := zo_89 (by decide +kernel)
theorem dX12_stepsOn_47 : decode cX12_stepsOn 47 = .ok (.getfield 208, 3) := zo_180 (by decide +kernel)
theorem dX12_stepsOn_50 : decode cX12_stepsOn 50 = .ok (.iconst 1, 1) := zo_4 (by decide +kernel)
theorem dX12_stepsOn_51 : decode cX12_stepsOn 51 = .ok (.iadd, 1) := zo_96 (by decide +kernel)
theorem dX12_stepsOn_52 : decode cX12_stepsOn 52 = .ok (.putfield 208, 3) := zo_181 (by decide +kernel)
theorem dX12_stepsOn_55 : decode cX12_stepsOn 55 = .ok (.aload_n 0, 1) := zo_42 (by decide +kernel)
theorem dX12_stepsOn_56 : decode cX12_stepsOn 56 = .ok (.getfield 29, 3) := zo_180 (by decide +kernel)
theorem dX12_stepsOn_59 : decode cX12_stepsOn 59 = .ok (.aload_n 0, 1) := zo_42 (by decide +kernel)
theorem dX12_stepsOn_60 : decode cX12_stepsOn 60 = .ok (.getfield 202, 3) := zo_180 (by decide +kernel)
theorem dX12_stepsOn_63 : decode cX12_stepsOn 63 = .ok (.dup2, 1) := zo_92 (by decide +kernel)
theorem dX12_stepsOn_64 : decode cX12_stepsOn 64 = .ok (.iaload, 1) := zo_46 (by decide +kernel)
theorem dX12_stepsOn_65 : decode cX12_stepsOn 65 = .ok (.iconst 1, 1) := zo_4 (by decide +kernel)
theorem dX12_stepsOn_66 : decode cX12_stepsOn 66 = .ok (.iadd, 1) := zo_96 (by decide +kernel)
theorem dX12_stepsOn_67 : decode cX12_stepsOn 67 = .ok (.iastore, 1) := zo_79 (by decide +kernel)
theorem dX12_stepsOn_68 : decode cX12_stepsOn 68 = .ok (.iconst 1, 1) := zo_4 (by decide +kernel)
theorem dX12_stepsOn_69 : decode cX12_stepsOn 69 = .ok (.ireturn, 1) := zo_172 (by decide +kernel)
def zWk (f : Nat → Int32) (z : Int32) (c : Nat) : Int32 := f (z.toInt.toNat + (16 + c))
theorem z_upS0 {x f : Nat → Int32} {i : Nat} {v : Int32} (h : ∀ j, j < i → x j = f j) (hv : v = f i) : ∀ j, j < i + 1 → upd x i v j = f j := by
  intro j hj
  unfold upd
  split
  · rename_i e
    rw [e]
    exact hv
  · exact h j (by omega)
set_option maxHeartbeats 4000000 in
set_option maxRecDepth 100000 in
/-- c_m_begins -/
theorem c_m_begins (l : Launch) (T : zTy) (mo : Nat) (m_all : Nat) (m_has : Nat) (i_size : Int32) (i_next : Int32) (i_where : Int32) (i_token : Int32) (i_number : Int32) (i_word : Int32) (i_wrong : Int32) (i_farCrossing : Int32) (m_read : Nat) (i_z0 : Int32) (i_crossings : Int32) (i_inns : Int32) (m_posts : Nat) (m_shut : Nat) (m_here : Nat) (i_steps : Int32) (i_done : Int32) (i_at : Int32) (i_gone : Int32) (m_was : Nat) (m_came : Nat) (m_seenAt : Nat) (m_rowWorth : Nat) (m_farBy : Nat) (m_used : Nat) (i_everywhere : Int32) (i_again0 : Int32) (i_d0 : Int32) (i_never : Int32) (i_firstCame : Int32) (i_longRun : Int32) (i_moved : Int32) (i_crowd : Int32) (i_l0 : Int32) (i_fitMany : Int32) (i_fitLeast : Int32) (i_fitMost : Int32) (m_fitPost : Nat) (m_fitEnd : Nat) (m_keptPosts : Nat) (i_x0 : Int32) (f_all : Nat → Int32) (f_posts : Nat → Int32) (f_shut : Nat → Int32) (f_here : Nat → Int32) (hL : zML f_all i_z0 i_crossings) : zMv l T yX12_begins cX12_begins 2 2 0 0 [.ref mo] [[zO11 mo m_all m_has i_size i_next i_where i_token i_number i_word i_wrong i_farCrossing m_read i_z0 i_crossings i_inns m_posts m_shut m_here i_steps i_done i_at i_gone m_was m_came m_seenAt m_rowWorth m_farBy m_used i_everywhere i_again0 i_d0 i_never i_firstCame i_longRun i_moved i_crowd i_l0 i_fitMany i_fitLeast i_fitMost m_fitPost m_fitEnd m_keptPosts i_x0], [zAr T 0 m_all 3952 f_all], [zAr T 0 m_posts 7 f_posts], [zAr T 0 m_shut 7 f_shut], [zAr T 0 m_here 7 f_here]] (fun bs => ∃ (j_steps : Int32) (j_done : Int32) (g_posts : Nat → Int32) (g_shut : Nat → Int32) (g_here : Nat → Int32), bs = [[zO11 mo m_all m_has i_size i_next i_where i_token i_number i_word i_wrong i_farCrossing m_read i_z0 i_crossings i_inns m_posts m_shut m_here j_steps j_done i_at i_gone m_was m_came m_seenAt m_rowWorth m_farBy m_used i_everywhere i_again0 i_d0 i_never i_firstCame i_longRun i_moved i_crowd i_l0 i_fitMany i_fitLeast i_fitMost m_fitPost m_fitEnd m_keptPosts i_x0], [zAr T 0 m_all 3952 f_all], [zAr T 0 m_posts 7 g_posts], [zAr T 0 m_shut 7 g_shut], [zAr T 0 m_here 7 g_here]] ∧ j_steps = 0 ∧ j_done = 0 ∧ (∀ j, j < 7 → g_posts j = zPt f_all i_z0 (nI j)) ∧ (∀ j, j < 7 → g_shut j = 0) ∧ (∀ j, j < 7 → g_here j = zWk f_all i_z0 j) ∧ zMP g_posts) := by
  refine zMv_of (own := RX12) (by decide) rfl (Nat.le_of_ble_eq_true rfl) ?_
  intro p e s m args below meth c A ls C hr hlocks hnm hAe G hl
  refine zHide (fun Qz_ hQz_ => ?_)
  have hx := C.1
  have hb := C.2.1
  have hl : lv_has ls 2 [(0, .ref mo)] := hl
  have hz := hL.1
  have hcr := hL.cr
  refine lv_aload_n hx hb dX12_begins_0 rfl (lv_at hl 0 rfl) ?_
  refine lv_iconst (v := 0) hx hb dX12_begins_1 (by decide) ?_
  refine z_put C G clX12 0 rfl 17 (by decide) m_fl_RX12_196 rfl rfl rfl (Nat.le_of_ble_eq_true rfl) dX12_begins_2 (fun H locs G => ?_)
  have G : zS T A s.heap s [[zO11 mo m_all m_has i_size i_next i_where i_token i_number i_word i_wrong i_farCrossing m_read i_z0 i_crossings i_inns m_posts m_shut m_here 0 i_done i_at i_gone m_was m_came m_seenAt m_rowWorth m_farBy m_used i_everywhere i_again0 i_d0 i_never i_firstCame i_longRun i_moved i_crowd i_l0 i_fitMany i_fitLeast i_fitMost m_fitPost m_fitEnd m_keptPosts i_x0], [zAr T 0 m_all 3952 f_all], [zAr T 0 m_posts 7 f_posts], [zAr T 0 m_shut 7 f_shut], [zAr T 0 m_here 7 f_here]] _ _ := G
  refine lv_aload_n hx hb dX12_begins_5 rfl (lv_at hl 0 rfl) ?_
  refine lv_iconst (v := 0) hx hb dX12_begins_6 (by decide) ?_
  refine z_put C G clX12 0 rfl 18 (by decide) m_fl_RX12_199 rfl rfl rfl (Nat.le_of_ble_eq_true rfl) dX12_begins_7 (fun H locs G => ?_)
  have G : zS T A s.heap s [[zO11 mo m_all m_has i_size i_next i_where i_token i_number i_word i_wrong i_farCrossing m_read i_z0 i_crossings i_inns m_posts m_shut m_here 0 0 i_at i_gone m_was m_came m_seenAt m_rowWorth m_farBy m_used i_everywhere i_again0 i_d0 i_never i_firstCame i_longRun i_moved i_crowd i_l0 i_fitMany i_fitLeast i_fitMost m_fitPost m_fitEnd m_keptPosts i_x0], [zAr T 0 m_all 3952 f_all], [zAr T 0 m_posts 7 f_posts], [zAr T 0 m_shut 7 f_shut], [zAr T 0 m_here 7 f_here]] _ _ := G
  refine lv_iconst (v := 0) hx hb dX12_begins_10 (by decide) ?_
  refine lv_istore_n (lv' := [(1, .int 0), (0, .ref mo)]) hx hb dX12_begins_11 rfl hl (by decide) (zLvf_h rfl) (fun ls hl => ?_)
  refine z_lp4 (T := T) 12 (fun (i : Nat) (xp : Nat → Int32) (xs : Nat → Int32) (xh : Nat → Int32) => [[zO11 mo m_all m_has i_size i_next i_where i_token i_number i_word i_wrong i_farCrossing m_read i_z0 i_crossings i_inns m_posts m_shut m_here 0 0 i_at i_gone m_was m_came m_seenAt m_rowWorth m_farBy m_used i_everywhere i_again0 i_d0 i_never i_firstCame i_longRun i_moved i_crowd i_l0 i_fitMany i_fitLeast i_fitMost m_fitPost m_fitEnd m_keptPosts i_x0], [zAr T 0 m_all 3952 f_all], [zAr T 0 m_posts 7 xp], [zAr T 0 m_shut 7 xs], [zAr T 0 m_here 7 xh]]) (fun (i : Nat) (xp : Nat → Int32) (xs : Nat → Int32) (xh : Nat → Int32) => [(1, .int (nI i)), (0, .ref mo)]) (fun (i : Nat) (xp : Nat → Int32) (xs : Nat → Int32) (xh : Nat → Int32) => i ≤ 7 ∧ (∀ j, j < i → xp j = zPt f_all i_z0 (nI j)) ∧ (∀ j, j < i → xs j = 0) ∧ (∀ j, j < i → xh j = zWk f_all i_z0 j)) (fun (i : Nat) (xp : Nat → Int32) (xs : Nat → Int32) (xh : Nat → Int32) => 7 - i) ?_ 0 f_posts f_shut f_here (show 0 ≤ 7 ∧ (∀ j, j < 0 → f_posts j = zPt f_all i_z0 (nI j)) ∧ (∀ j, j < 0 → f_shut j = 0) ∧ (∀ j, j < 0 → f_here j = zWk f_all i_z0 j) from ⟨by omega, fun j hj => absurd hj (by omega), fun j hj => absurd hj (by omega), fun j hj => absurd hj (by omega)⟩) G (lv_sub hl [0, 1] rfl)
  intro i xp xs xh hI9 ih_12 H locs ls G hl
  replace hI9 : i ≤ 7 ∧ (∀ j, j < i → xp j = zPt f_all i_z0 (nI j)) ∧ (∀ j, j < i → xs j = 0) ∧ (∀ j, j < i → xh j = zWk f_all i_z0 j) := hI9
  refine zAn4 hI9 ?_
  intro hi hQ hT hH
  clear hI9
  replace G : zS T A s.heap s [[zO11 mo m_all m_has i_size i_next i_where i_token i_number i_word i_wrong i_farCrossing m_read i_z0 i_crossings i_inns m_posts m_shut m_here 0 0 i_at i_gone m_was m_came m_seenAt m_rowWorth m_farBy m_used i_everywhere i_again0 i_d0 i_never i_firstCame i_longRun i_moved i_crowd i_l0 i_fitMany i_fitLeast i_fitMost m_fitPost m_fitEnd m_keptPosts i_x0], [zAr T 0 m_all 3952 f_all], [zAr T 0 m_posts 7 xp], [zAr T 0 m_shut 7 xs], [zAr T 0 m_here 7 xh]] _ _ := G
  replace hl : lv_has ls 2 [(1, .int (nI i)), (0, .ref mo)] := hl
  refine lv_iload_n hx hb dX12_begins_12 rfl (lv_at hl 0 rfl) ?_
  refine lv_bipush (v := 7) hx hb dX12_begins_13 (by decide) ?_
  refine lv_icmp_ge (tgt := 62) hx hb dX12_begins_15 (by decide) (fun c_1 => ?_) (fun c_1 => ?_)
  · have c_1n : 7 ≤ i := (nI_leI (a := 7) (b := i) (by omega) (by omega)).mp c_1
    exact z_back hQz_ (z_vret C hr hlocks G (Nat.le_of_ble_eq_true rfl) (Nat.le_of_ble_eq_true rfl) dX12_begins_62 ⟨0, 0, xp, xs, xh, rfl, (by first | with_reducible assumption | omega | trivial | assumption), (by first | with_reducible assumption | omega | trivial | assumption), (fun j hj => hQ j (by omega)), (fun j hj => hT j (by omega)), (fun j hj => hH j (by omega)), (fun c hc => by rw [hQ c (by omega)]; have t9 := nI_toInt (n := c) (by omega); exact zMLp hL (by omega) (by omega))⟩)
  · have c_1n : ¬ 7 ≤ i := fun q => c_1 ((nI_leI (a := 7) (b := i) (by omega) (by omega)).mpr q)
    refine lv_aload_n hx hb dX12_begins_18 rfl (lv_at hl 1 rfl) ?_
    refine z_get C G clX12 0 rfl 14 (by decide) m_fl_RX12_20 rfl dX12_begins_19 ?_
    refine lv_iload_n hx hb dX12_begins_22 rfl (lv_at hl 0 rfl) ?_
    refine lv_aload_n hx hb dX12_begins_23 rfl (lv_at hl 1 rfl) ?_
    refine lv_iload_n hx hb dX12_begins_24 rfl (lv_at hl 0 rfl) ?_
    have ti_2 : (nI i).toInt = ((i : Nat) : Int) := nI_toInt (by omega)
    refine z_Vi (bc := [[zO11 mo m_all m_has i_size i_next i_where i_token i_number i_word i_wrong i_farCrossing m_read i_z0 i_crossings i_inns m_posts m_shut m_here 0 0 i_at i_gone m_was m_came m_seenAt m_rowWorth m_farBy m_used i_everywhere i_again0 i_d0 i_never i_firstCame i_longRun i_moved i_crowd i_l0 i_fitMany i_fitLeast i_fitMost m_fitPost m_fitEnd m_keptPosts i_x0], [zAr T 0 m_all 3952 f_all]]) (br := [[zAr T 0 m_posts 7 xp], [zAr T 0 m_shut 7 xs], [zAr T 0 m_here 7 xh]]) (As := [.int (nI i)]) (rest := [.int (nI i), .ref m_posts]) C G (c_m_postTold l T mo m_all m_has i_size i_next i_where i_token i_number i_word i_wrong i_farCrossing m_read i_z0 i_crossings i_inns m_posts m_shut m_here 0 0 i_at i_gone m_was m_came m_seenAt m_rowWorth m_farBy m_used i_everywhere i_again0 i_d0 i_never i_firstCame i_longRun i_moved i_crowd i_l0 i_fitMany i_fitLeast i_fitMost m_fitPost m_fitEnd m_keptPosts i_x0 f_all (nI i) (by first | with_reducible assumption | with_reducible rfl | omega | assumption | rfl | decide) (by first | with_reducible assumption | with_reducible rfl | omega | assumption | rfl | decide) (by first | with_reducible assumption | with_reducible rfl | omega | assumption | rfl | decide)) (kV_RX12_193 C.2.2.2.2 (Nat.le_of_ble_eq_true rfl) (Nat.le_of_ble_eq_true rfl)) [0, 1] [0, 0] rfl rfl (ci := 11) (qc := (RX12, TX12, 43)) rfl rfl (List.mem_flatten.mpr ⟨_, List.mem_of_getElem? (i := 0) rfl, List.mem_cons_self⟩) rfl rfl hl.1 dX12_begins_25 (Nat.le_of_ble_eq_true rfl) (Nat.le_of_ble_eq_true rfl) (fun r_6 b1 H locs hw G => ?_)
    refine zAn4 hw ?_
    intro hbs9 h_3 h_4 h_5
    clear hw
    subst hbs9
    have G : zS T A s.heap s [[zAr T 0 m_posts 7 xp], [zAr T 0 m_shut 7 xs], [zAr T 0 m_here 7 xh], [zO11 mo m_all m_has i_size i_next i_where i_token i_number i_word i_wrong i_farCrossing m_read i_z0 i_crossings i_inns m_posts m_shut m_here 0 0 i_at i_gone m_was m_came m_seenAt m_rowWorth m_farBy m_used i_everywhere i_again0 i_d0 i_never i_firstCame i_longRun i_moved i_crowd i_l0 i_fitMany i_fitLeast i_fitMost m_fitPost m_fitEnd m_keptPosts i_x0], [zAr T 0 m_all 3952 f_all]] _ _ := G
    subst h_3
    refine z_ist C G 0 rfl (vp_in_nI (by omega) (by decide)) dX12_begins_28 (fun H locs G => ?_)
    rw [nI_clamp (by omega)] at G
    have G : zS T A s.heap s [[zAr T 0 m_posts 7 (upd xp i (zPt f_all i_z0 (nI i)))], [zAr T 0 m_shut 7 xs], [zAr T 0 m_here 7 xh], [zO11 mo m_all m_has i_size i_next i_where i_token i_number i_word i_wrong i_farCrossing m_read i_z0 i_crossings i_inns m_posts m_shut m_here 0 0 i_at i_gone m_was m_came m_seenAt m_rowWorth m_farBy m_used i_everywhere i_again0 i_d0 i_never i_firstCame i_longRun i_moved i_crowd i_l0 i_fitMany i_fitLeast i_fitMost m_fitPost m_fitEnd m_keptPosts i_x0], [zAr T 0 m_all 3952 f_all]] _ _ := G
    refine lv_aload_n hx hb dX12_begins_29 rfl (lv_at hl 1 rfl) ?_
    refine z_get C G clX12 3 rfl 15 (by decide) m_fl_RX12_23 rfl dX12_begins_30 ?_
    refine lv_iload_n hx hb dX12_begins_33 rfl (lv_at hl 0 rfl) ?_
    refine lv_iconst (v := 0) hx hb dX12_begins_34 (by decide) ?_
    refine z_ist C G 1 rfl (vp_in_nI (by omega) (by decide)) dX12_begins_35 (fun H locs G => ?_)
    rw [nI_clamp (by omega)] at G
    have G : zS T A s.heap s [[zAr T 0 m_posts 7 (upd xp i (zPt f_all i_z0 (nI i)))], [zAr T 0 m_shut 7 (upd xs i 0)], [zAr T 0 m_here 7 xh], [zO11 mo m_all m_has i_size i_next i_where i_token i_number i_word i_wrong i_farCrossing m_read i_z0 i_crossings i_inns m_posts m_shut m_here 0 0 i_at i_gone m_was m_came m_seenAt m_rowWorth m_farBy m_used i_everywhere i_again0 i_d0 i_never i_firstCame i_longRun i_moved i_crowd i_l0 i_fitMany i_fitLeast i_fitMost m_fitPost m_fitEnd m_keptPosts i_x0], [zAr T 0 m_all 3952 f_all]] _ _ := G
    refine lv_aload_n hx hb dX12_begins_36 rfl (lv_at hl 1 rfl) ?_
    refine z_get C G clX12 3 rfl 16 (by decide) m_fl_RX12_26 rfl dX12_begins_37 ?_
    refine lv_iload_n hx hb dX12_begins_40 rfl (lv_at hl 0 rfl) ?_
    refine lv_aload_n hx hb dX12_begins_41 rfl (lv_at hl 1 rfl) ?_
    refine z_get C G clX12 3 rfl 0 (by decide) m_fl_RX12_7 rfl dX12_begins_42 ?_
    refine lv_aload_n hx hb dX12_begins_45 rfl (lv_at hl 1 rfl) ?_
    refine z_get C G clX12 3 rfl 11 (by decide) m_fl_RX12_166 rfl dX12_begins_46 ?_
    refine lv_bipush (v := 16) hx hb dX12_begins_49 (by decide) ?_
    refine lv_iadd hx hb dX12_begins_51 ?_
    refine lv_topi (fun y_7 ey_7 => ?_)
    have ey_7i : y_7.toInt = i_z0.toInt + (16 : Int) := by rw [ey_7]; exact z_iaddI (x := i_z0) (y := (16 : Int32)) (by show -2147483648 ≤ i_z0.toInt + (16 : Int); omega) (by show i_z0.toInt + (16 : Int) < 2147483648; omega)
    refine lv_iload_n hx hb dX12_begins_52 rfl (lv_at hl 0 rfl) ?_
    refine lv_iadd hx hb dX12_begins_53 ?_
    refine lv_topi (fun y_8 ey_8 => ?_)
    have ey_8i : y_8.toInt = y_7.toInt + (i : Int) := by rw [ey_8]; exact (z_iaddI (x := y_7) (y := (nI i)) (by rw [nI_toInt (n := i) (by omega)]; show -2147483648 ≤ y_7.toInt + (i : Int); omega) (by rw [nI_toInt (n := i) (by omega)]; show y_7.toInt + (i : Int) < 2147483648; omega)).trans (by rw [nI_toInt (n := i) (by omega)] <;> rfl)
    refine z_ild C G 4 rfl (vp_in_iff.mpr ⟨by omega, by omega⟩) dX12_begins_54 ?_
    refine lv_topi (fun v_9 ev_9 => ?_)
    subst ev_9
    refine z_ist C G 2 rfl (vp_in_nI (by omega) (by decide)) dX12_begins_55 (fun H locs G => ?_)
    rw [nI_clamp (by omega)] at G
    have G : zS T A s.heap s [[zAr T 0 m_posts 7 (upd xp i (zPt f_all i_z0 (nI i)))], [zAr T 0 m_shut 7 (upd xs i 0)], [zAr T 0 m_here 7 (upd xh i (f_all y_8.toNatClampNeg))], [zO11 mo m_all m_has i_size i_next i_where i_token i_number i_word i_wrong i_farCrossing m_read i_z0 i_crossings i_inns m_posts m_shut m_here 0 0 i_at i_gone m_was m_came m_seenAt m_rowWorth m_farBy m_used i_everywhere i_again0 i_d0 i_never i_firstCame i_longRun i_moved i_crowd i_l0 i_fitMany i_fitLeast i_fitMost m_fitPost m_fitEnd m_keptPosts i_x0], [zAr T 0 m_all 3952 f_all]] _ _ := G
    refine lv_iinc (v := nI (i + 1)) (lv' := [(1, .int (nI (i + 1))), (0, .ref mo)]) hx hb dX12_begins_56 hl (k := 0) rfl (z_inc i 1) (by decide) (zLvf_h rfl) (fun ls hl => ?_)
    refine lv_goto (tgt := 12) hx hb dX12_begins_59 (by decide) ?_
    have G := G.sub (bs' := [[zO11 mo m_all m_has i_size i_next i_where i_token i_number i_word i_wrong i_farCrossing m_read i_z0 i_crossings i_inns m_posts m_shut m_here 0 0 i_at i_gone m_was m_came m_seenAt m_rowWorth m_farBy m_used i_everywhere i_again0 i_d0 i_never i_firstCame i_longRun i_moved i_crowd i_l0 i_fitMany i_fitLeast i_fitMost m_fitPost m_fitEnd m_keptPosts i_x0], [zAr T 0 m_all 3952 f_all], [zAr T 0 m_posts 7 (upd xp i (zPt f_all i_z0 (nI i)))], [zAr T 0 m_shut 7 (upd xs i 0)], [zAr T 0 m_here 7 (upd xh i (f_all y_8.toNatClampNeg))]]) [3, 4, 0, 1, 2] rfl
    exact ih_12 (i + 1) (upd xp i (zPt f_all i_z0 (nI i))) (upd xs i 0) (upd xh i (f_all y_8.toNatClampNeg)) (show (i + 1) ≤ 7 ∧ (∀ j, j < (i + 1) → (upd xp i (zPt f_all i_z0 (nI i))) j = zPt f_all i_z0 (nI j)) ∧ (∀ j, j < (i + 1) → (upd xs i 0) j = 0) ∧ (∀ j, j < (i + 1) → (upd xh i (f_all y_8.toNatClampNeg)) j = zWk f_all i_z0 j) from ⟨by omega, z_upS0 hQ rfl, z_upS0 (f := fun _ => 0) hT rfl, z_upS0 hH (congrArg f_all (by show y_8.toInt.toNat = _; omega))⟩) (show 7 - (i + 1) < 7 - i from by omega) _ _ ls G (lv_sub hl [0, 1] rfl)
theorem zBI_ld {f : Nat → Int32} (h : zBI f) (k : Nat) (hk : k < 2) : zML f (nI (610 + 51 * k)) (f (610 + 51 * k)) := by
  have e : (nI (610 + 51 * k)).toInt = ((610 + 51 * k : Nat) : Int) := nI_toInt (by omega)
  have e2 : (nI (610 + 51 * k)).toInt.toNat = 610 + 51 * k := by omega
  refine ⟨by omega, by rw [e2], ?_⟩
  rw [e2]
  exact h.2.2.1 k hk
set_option maxHeartbeats 4000000 in
set_option maxRecDepth 100000 in
/-- c_m_isLand -/
theorem c_m_isLand (l : Launch) (T : zTy) (mo : Nat) (m_all : Nat) (m_has : Nat) (i_size : Int32) (i_next : Int32) (i_where : Int32) (i_token : Int32) (i_number : Int32) (i_word : Int32) (i_wrong : Int32) (i_farCrossing : Int32) (m_read : Nat) (i_z0 : Int32) (i_crossings : Int32) (i_inns : Int32) (m_posts : Nat) (m_shut : Nat) (m_here : Nat) (i_steps : Int32) (i_done : Int32) (i_at : Int32) (i_gone : Int32) (m_was : Nat) (m_came : Nat) (m_seenAt : Nat) (m_rowWorth : Nat) (m_farBy : Nat) (m_used : Nat) (i_everywhere : Int32) (i_again0 : Int32) (i_d0 : Int32) (i_never : Int32) (i_firstCame : Int32) (i_longRun : Int32) (i_moved : Int32) (i_crowd : Int32) (i_l0 : Int32) (i_fitMany : Int32) (i_fitLeast : Int32) (i_fitMost : Int32) (m_fitPost : Nat) (m_fitEnd : Nat) (m_keptPosts : Nat) (i_x0 : Int32) (f_all : Nat → Int32) (f_posts : Nat → Int32) (f_shut : Nat → Int32) (f_here : Nat → Int32) (ld_ : Int32) (hB : zBI f_all) : zMi l T yX12_isLand cX12_isLand 2 (some .boolean) 3 0 0 [.ref mo, .int ld_] [[zO11 mo m_all m_has i_size i_next i_where i_token i_number i_word i_wrong i_farCrossing m_read i_z0 i_crossings i_inns m_posts m_shut m_here i_steps i_done i_at i_gone m_was m_came m_seenAt m_rowWorth m_farBy m_used i_everywhere i_again0 i_d0 i_never i_firstCame i_longRun i_moved i_crowd i_l0 i_fitMany i_fitLeast i_fitMost m_fitPost m_fitEnd m_keptPosts i_x0], [zAr T 0 m_all 3952 f_all], [zAr T 0 m_posts 7 f_posts], [zAr T 0 m_shut 7 f_shut], [zAr T 0 m_here 7 f_here]] (fun (r : Int32) bs => ∃ (j_z0 : Int32) (j_crossings : Int32) (j_inns : Int32) (j_steps : Int32) (j_done : Int32) (g_posts : Nat → Int32) (g_shut : Nat → Int32) (g_here : Nat → Int32), bs = [[zO11 mo m_all m_has i_size i_next i_where i_token i_number i_word i_wrong i_farCrossing m_read j_z0 j_crossings j_inns m_posts m_shut m_here j_steps j_done i_at i_gone m_was m_came m_seenAt m_rowWorth m_farBy m_used i_everywhere i_again0 i_d0 i_never i_firstCame i_longRun i_moved i_crowd i_l0 i_fitMany i_fitLeast i_fitMost m_fitPost m_fitEnd m_keptPosts i_x0], [zAr T 0 m_all 3952 f_all], [zAr T 0 m_posts 7 g_posts], [zAr T 0 m_shut 7 g_shut], [zAr T 0 m_here 7 g_here]] ∧ ((r = 1 ∧ 0 ≤ ld_.toInt ∧ ld_.toInt ≤ 1 ∧ ld_.toInt < (f_all 0).toInt ∧ j_z0.toInt = 610 + 51 * ld_.toInt ∧ zML f_all j_z0 j_crossings ∧ zMP g_posts ∧ j_inns = f_all (j_z0.toInt.toNat + 1) ∧ j_steps = 0 ∧ j_done = 0 ∧ (∀ j, j < 7 → g_posts j = zPt f_all j_z0 (nI j)) ∧ (∀ j, j < 7 → g_shut j = 0) ∧ (∀ j, j < 7 → g_here j = zWk f_all j_z0 j)) ∨ (r = 0 ∧ (ld_.toInt < 0 ∨ (f_all 0).toInt ≤ ld_.toInt)))) := by
  refine zMi_of (own := RX12) (by decide) rfl (Nat.le_of_ble_eq_true rfl) ?_
  intro p e s m args below meth c A ls C hr hlocks hnm hAe G hl
  refine zHide (fun Qz_ hQz_ => ?_)
  have hx := C.1
  have hb := C.2.1
  have hl : lv_has ls 2 [(0, .ref mo), (1, .int ld_)] := hl
  have hB0 := hB.2.1 0 (by decide)
  refine lv_aload_n hx hb dX12_isLand_0 rfl (lv_at hl 0 rfl) ?_
  refine lv_iconst (v := 0) hx hb dX12_isLand_1 (by decide) ?_
  refine lv_iload_n hx hb dX12_isLand_2 rfl (lv_at hl 1 rfl) ?_
  refine z_Vi (bc := [[zO11 mo m_all m_has i_size i_next i_where i_token i_number i_word i_wrong i_farCrossing m_read i_z0 i_crossings i_inns m_posts m_shut m_here i_steps i_done i_at i_gone m_was m_came m_seenAt m_rowWorth m_farBy m_used i_everywhere i_again0 i_d0 i_never i_firstCame i_longRun i_moved i_crowd i_l0 i_fitMany i_fitLeast i_fitMost m_fitPost m_fitEnd m_keptPosts i_x0], [zAr T 0 m_all 3952 f_all]]) (br := [[zAr T 0 m_posts 7 f_posts], [zAr T 0 m_shut 7 f_shut], [zAr T 0 m_here 7 f_here]]) (As := [.int 0, .int ld_]) (rest := []) C G (c_m_isOf0 l T mo m_all m_has i_size i_next i_where i_token i_number i_word i_wrong i_farCrossing m_read i_z0 i_crossings i_inns m_posts m_shut m_here i_steps i_done i_at i_gone m_was m_came m_seenAt m_rowWorth m_farBy m_used i_everywhere i_again0 i_d0 i_never i_firstCame i_longRun i_moved i_crowd i_l0 i_fitMany i_fitLeast i_fitMost m_fitPost m_fitEnd m_keptPosts i_x0 f_all ld_ hB0) (kV_RX12_143 C.2.2.2.2 (Nat.le_of_ble_eq_true rfl) (Nat.le_of_ble_eq_true rfl)) [0, 1] [0, 0] rfl rfl (ci := 11) (qc := (RX12, TX12, 43)) rfl rfl (List.mem_flatten.mpr ⟨_, List.mem_of_getElem? (i := 0) rfl, List.mem_cons_self⟩) rfl rfl hl.1 dX12_isLand_3 (Nat.le_of_ble_eq_true rfl) (Nat.le_of_ble_eq_true rfl) (fun r_2 b1 H locs hw G => ?_)
  refine zAn2 hw ?_
  intro hbs9 hc_1
  clear hw
  subst hbs9
  have G : zS T A s.heap s [[zAr T 0 m_posts 7 f_posts], [zAr T 0 m_shut 7 f_shut], [zAr T 0 m_here 7 f_here], [zO11 mo m_all m_has i_size i_next i_where i_token i_number i_word i_wrong i_farCrossing m_read i_z0 i_crossings i_inns m_posts m_shut m_here i_steps i_done i_at i_gone m_was m_came m_seenAt m_rowWorth m_farBy m_used i_everywhere i_again0 i_d0 i_never i_firstCame i_longRun i_moved i_crowd i_l0 i_fitMany i_fitLeast i_fitMost m_fitPost m_fitEnd m_keptPosts i_x0], [zAr T 0 m_all 3952 f_all]] _ _ := G
  rcases hc_1 with ⟨rfl, h_3, h_4⟩ | ⟨rfl, h_5⟩
  · have h_3 : 0 ≤ ld_.toInt := h_3
    have h_4 : ld_.toInt < (f_all 0).toInt := h_4
    refine lv_if_ne (tgt := 11) hx hb dX12_isLand_6 (by decide) (fun _ => ?_) (fun q => absurd q (by decide))
    rcases (show ld_.toInt = 0 ∨ ld_.toInt = 1 from by omega) with hk | hk
    · obtain rfl : ld_ = 0 := Int32.toInt_inj.mp hk
      have hLk : zML f_all 610 (f_all 610) := zBI_ld hB 0 (by decide)
      refine lv_aload_n hx hb dX12_isLand_11 rfl (lv_at hl 0 rfl) ?_
      refine lv_iconst (v := 0) hx hb dX12_isLand_12 (by decide) ?_
      refine lv_iload_n hx hb dX12_isLand_13 rfl (lv_at hl 1 rfl) ?_
      refine z_Si (bc := []) (br := [[zAr T 0 m_posts 7 f_posts], [zAr T 0 m_shut 7 f_shut], [zAr T 0 m_here 7 f_here], [zO11 mo m_all m_has i_size i_next i_where i_token i_number i_word i_wrong i_farCrossing m_read i_z0 i_crossings i_inns m_posts m_shut m_here i_steps i_done i_at i_gone m_was m_came m_seenAt m_rowWorth m_farBy m_used i_everywhere i_again0 i_d0 i_never i_firstCame i_longRun i_moved i_crowd i_l0 i_fitMany i_fitLeast i_fitMost m_fitPost m_fitEnd m_keptPosts i_x0], [zAr T 0 m_all 3952 f_all]]) (As := [.int 0, .int 0]) (rest := [.ref mo]) C G (c_m_placeOf00 l T) (kS_RX12_163 C.2.2.2.2 (Nat.le_of_ble_eq_true rfl) (Nat.le_of_ble_eq_true rfl)) [] [] rfl rfl rfl rfl hl.1 dX12_isLand_14 (Nat.le_of_ble_eq_true rfl) (Nat.le_of_ble_eq_true rfl) (fun r_7 b1 H locs hw G => ?_)
      refine zAn2 hw ?_
      intro hbs9 h_6
      clear hw
      subst hbs9
      have G : zS T A s.heap s [[zAr T 0 m_posts 7 f_posts], [zAr T 0 m_shut 7 f_shut], [zAr T 0 m_here 7 f_here], [zO11 mo m_all m_has i_size i_next i_where i_token i_number i_word i_wrong i_farCrossing m_read i_z0 i_crossings i_inns m_posts m_shut m_here i_steps i_done i_at i_gone m_was m_came m_seenAt m_rowWorth m_farBy m_used i_everywhere i_again0 i_d0 i_never i_firstCame i_longRun i_moved i_crowd i_l0 i_fitMany i_fitLeast i_fitMost m_fitPost m_fitEnd m_keptPosts i_x0], [zAr T 0 m_all 3952 f_all]] _ _ := G
      subst h_6
      refine z_put C G clX12 3 rfl 11 (by decide) m_fl_RX12_166 rfl rfl rfl (Nat.le_of_ble_eq_true rfl) dX12_isLand_17 (fun H locs G => ?_)
      have G : zS T A s.heap s [[zAr T 0 m_posts 7 f_posts], [zAr T 0 m_shut 7 f_shut], [zAr T 0 m_here 7 f_here], [zO11 mo m_all m_has i_size i_next i_where i_token i_number i_word i_wrong i_farCrossing m_read 610 i_crossings i_inns m_posts m_shut m_here i_steps i_done i_at i_gone m_was m_came m_seenAt m_rowWorth m_farBy m_used i_everywhere i_again0 i_d0 i_never i_firstCame i_longRun i_moved i_crowd i_l0 i_fitMany i_fitLeast i_fitMost m_fitPost m_fitEnd m_keptPosts i_x0], [zAr T 0 m_all 3952 f_all]] _ _ := G
      refine lv_aload_n hx hb dX12_isLand_20 rfl (lv_at hl 0 rfl) ?_
      refine lv_aload_n hx hb dX12_isLand_21 rfl (lv_at hl 0 rfl) ?_
      refine z_get C G clX12 3 rfl 0 (by decide) m_fl_RX12_7 rfl dX12_isLand_22 ?_
      refine lv_aload_n hx hb dX12_isLand_25 rfl (lv_at hl 0 rfl) ?_
      refine z_get C G clX12 3 rfl 11 (by decide) m_fl_RX12_166 rfl dX12_isLand_26 ?_
      refine z_ild C G 4 rfl (vp_in_nI (n := 610) (by decide) (by decide)) dX12_isLand_29 ?_
      refine lv_topi (fun v_8 ev_8 => ?_)
      rw [show ((610 : Int32).toNatClampNeg) = 610 from rfl] at ev_8
      subst ev_8
      refine z_put C G clX12 3 rfl 12 (by decide) m_fl_RX12_169 rfl rfl rfl (Nat.le_of_ble_eq_true rfl) dX12_isLand_30 (fun H locs G => ?_)
      have G : zS T A s.heap s [[zAr T 0 m_posts 7 f_posts], [zAr T 0 m_shut 7 f_shut], [zAr T 0 m_here 7 f_here], [zO11 mo m_all m_has i_size i_next i_where i_token i_number i_word i_wrong i_farCrossing m_read 610 (f_all 610) i_inns m_posts m_shut m_here i_steps i_done i_at i_gone m_was m_came m_seenAt m_rowWorth m_farBy m_used i_everywhere i_again0 i_d0 i_never i_firstCame i_longRun i_moved i_crowd i_l0 i_fitMany i_fitLeast i_fitMost m_fitPost m_fitEnd m_keptPosts i_x0], [zAr T 0 m_all 3952 f_all]] _ _ := G
      refine lv_aload_n hx hb dX12_isLand_33 rfl (lv_at hl 0 rfl) ?_
      refine lv_aload_n hx hb dX12_isLand_34 rfl (lv_at hl 0 rfl) ?_
      refine z_get C G clX12 3 rfl 0 (by decide) m_fl_RX12_7 rfl dX12_isLand_35 ?_
      refine lv_aload_n hx hb dX12_isLand_38 rfl (lv_at hl 0 rfl) ?_
      refine z_get C G clX12 3 rfl 11 (by decide) m_fl_RX12_166 rfl dX12_isLand_39 ?_
      refine lv_iconst (v := 1) hx hb dX12_isLand_42 (by decide) ?_
      refine lv_iadd hx hb dX12_isLand_43 ?_
      refine lv_topi (fun y_9 ey_9 => ?_)
      obtain rfl : y_9 = 611 := ey_9.trans (by decide)
      refine z_ild C G 4 rfl (vp_in_nI (n := 611) (by decide) (by decide)) dX12_isLand_44 ?_
      refine lv_topi (fun v_10 ev_10 => ?_)
      rw [show ((611 : Int32).toNatClampNeg) = 611 from rfl] at ev_10
      subst ev_10
      refine z_put C G clX12 3 rfl 13 (by decide) m_fl_RX12_172 rfl rfl rfl (Nat.le_of_ble_eq_true rfl) dX12_isLand_45 (fun H locs G => ?_)
      have G : zS T A s.heap s [[zAr T 0 m_posts 7 f_posts], [zAr T 0 m_shut 7 f_shut], [zAr T 0 m_here 7 f_here], [zO11 mo m_all m_has i_size i_next i_where i_token i_number i_word i_wrong i_farCrossing m_read 610 (f_all 610) (f_all 611) m_posts m_shut m_here i_steps i_done i_at i_gone m_was m_came m_seenAt m_rowWorth m_farBy m_used i_everywhere i_again0 i_d0 i_never i_firstCame i_longRun i_moved i_crowd i_l0 i_fitMany i_fitLeast i_fitMost m_fitPost m_fitEnd m_keptPosts i_x0], [zAr T 0 m_all 3952 f_all]] _ _ := G
      refine lv_aload_n hx hb dX12_isLand_48 rfl (lv_at hl 0 rfl) ?_
      refine z_Vv (bc := [[zO11 mo m_all m_has i_size i_next i_where i_token i_number i_word i_wrong i_farCrossing m_read 610 (f_all 610) (f_all 611) m_posts m_shut m_here i_steps i_done i_at i_gone m_was m_came m_seenAt m_rowWorth m_farBy m_used i_everywhere i_again0 i_d0 i_never i_firstCame i_longRun i_moved i_crowd i_l0 i_fitMany i_fitLeast i_fitMost m_fitPost m_fitEnd m_keptPosts i_x0], [zAr T 0 m_all 3952 f_all], [zAr T 0 m_posts 7 f_posts], [zAr T 0 m_shut 7 f_shut], [zAr T 0 m_here 7 f_here]]) (br := []) (As := []) (rest := []) C G (c_m_begins l T mo m_all m_has i_size i_next i_where i_token i_number i_word i_wrong i_farCrossing m_read 610 (f_all 610) (f_all 611) m_posts m_shut m_here i_steps i_done i_at i_gone m_was m_came m_seenAt m_rowWorth m_farBy m_used i_everywhere i_again0 i_d0 i_never i_firstCame i_longRun i_moved i_crowd i_l0 i_fitMany i_fitLeast i_fitMost m_fitPost m_fitEnd m_keptPosts i_x0 f_all f_posts f_shut f_here hLk) (kV_RX12_175 C.2.2.2.2 (Nat.le_of_ble_eq_true rfl) (Nat.le_of_ble_eq_true rfl)) [3, 4, 0, 1, 2] [0, 0, 0, 0, 0] rfl rfl (ci := 11) (qc := (RX12, TX12, 43)) rfl rfl (List.mem_flatten.mpr ⟨_, List.mem_of_getElem? (i := 0) rfl, List.mem_cons_self⟩) rfl rfl hl.1 dX12_isLand_49 (Nat.le_of_ble_eq_true rfl) (Nat.le_of_ble_eq_true rfl) (fun b1 H locs hw G => ?_)
      refine zEx5 hw ?_
      intro j_steps_11 j_done_12 g_posts_13 g_shut_14 g_here_15
      refine zCu7 ?_
      intro hbs9 h_16 h_17 h_18 h_19 h_20 h_21
      clear hw
      subst hbs9
      have G : zS T A s.heap s [[zO11 mo m_all m_has i_size i_next i_where i_token i_number i_word i_wrong i_farCrossing m_read 610 (f_all 610) (f_all 611) m_posts m_shut m_here j_steps_11 j_done_12 i_at i_gone m_was m_came m_seenAt m_rowWorth m_farBy m_used i_everywhere i_again0 i_d0 i_never i_firstCame i_longRun i_moved i_crowd i_l0 i_fitMany i_fitLeast i_fitMost m_fitPost m_fitEnd m_keptPosts i_x0], [zAr T 0 m_all 3952 f_all], [zAr T 0 m_posts 7 g_posts_13], [zAr T 0 m_shut 7 g_shut_14], [zAr T 0 m_here 7 g_here_15]] _ _ := G
      refine lv_iconst (v := 1) hx hb dX12_isLand_52 (by decide) ?_
      exact z_back hQz_ (z_zret C hr hlocks G (Nat.le_of_ble_eq_true rfl) (Nat.le_of_ble_eq_true rfl) dX12_isLand_53 rfl ⟨610, (f_all 610), (f_all 611), j_steps_11, j_done_12, g_posts_13, g_shut_14, g_here_15, rfl, (Or.inl (⟨rfl, (by decide), (by decide), (by first | with_reducible assumption | omega | assumption), (by decide), hLk, (by first | with_reducible assumption | assumption), rfl, (by first | rfl | assumption), (by first | rfl | assumption), (by first | with_reducible assumption | assumption), (by first | with_reducible assumption | assumption), (by first | with_reducible assumption | assumption)⟩))⟩)
    · obtain rfl : ld_ = 1 := Int32.toInt_inj.mp hk
      have hLk : zML f_all 661 (f_all 661) := zBI_ld hB 1 (by decide)
      refine lv_aload_n hx hb dX12_isLand_11 rfl (lv_at hl 0 rfl) ?_
      refine lv_iconst (v := 0) hx hb dX12_isLand_12 (by decide) ?_
      refine lv_iload_n hx hb dX12_isLand_13 rfl (lv_at hl 1 rfl) ?_
      refine z_Si (bc := []) (br := [[zAr T 0 m_posts 7 f_posts], [zAr T 0 m_shut 7 f_shut], [zAr T 0 m_here 7 f_here], [zO11 mo m_all m_has i_size i_next i_where i_token i_number i_word i_wrong i_farCrossing m_read i_z0 i_crossings i_inns m_posts m_shut m_here i_steps i_done i_at i_gone m_was m_came m_seenAt m_rowWorth m_farBy m_used i_everywhere i_again0 i_d0 i_never i_firstCame i_longRun i_moved i_crowd i_l0 i_fitMany i_fitLeast i_fitMost m_fitPost m_fitEnd m_keptPosts i_x0], [zAr T 0 m_all 3952 f_all]]) (As := [.int 0, .int 1]) (rest := [.ref mo]) C G (c_m_placeOf01 l T) (kS_RX12_163 C.2.2.2.2 (Nat.le_of_ble_eq_true rfl) (Nat.le_of_ble_eq_true rfl)) [] [] rfl rfl rfl rfl hl.1 dX12_isLand_14 (Nat.le_of_ble_eq_true rfl) (Nat.le_of_ble_eq_true rfl) (fun r_24 b1 H locs hw G => ?_)
      refine zAn2 hw ?_
      intro hbs9 h_23
      clear hw
      subst hbs9
      have G : zS T A s.heap s [[zAr T 0 m_posts 7 f_posts], [zAr T 0 m_shut 7 f_shut], [zAr T 0 m_here 7 f_here], [zO11 mo m_all m_has i_size i_next i_where i_token i_number i_word i_wrong i_farCrossing m_read i_z0 i_crossings i_inns m_posts m_shut m_here i_steps i_done i_at i_gone m_was m_came m_seenAt m_rowWorth m_farBy m_used i_everywhere i_again0 i_d0 i_never i_firstCame i_longRun i_moved i_crowd i_l0 i_fitMany i_fitLeast i_fitMost m_fitPost m_fitEnd m_keptPosts i_x0], [zAr T 0 m_all 3952 f_all]] _ _ := G
      subst h_23
      refine z_put C G clX12 3 rfl 11 (by decide) m_fl_RX12_166 rfl rfl rfl (Nat.le_of_ble_eq_true rfl) dX12_isLand_17 (fun H locs G => ?_)
      have G : zS T A s.heap s [[zAr T 0 m_posts 7 f_posts], [zAr T 0 m_shut 7 f_shut], [zAr T 0 m_here 7 f_here], [zO11 mo m_all m_has i_size i_next i_where i_token i_number i_word i_wrong i_farCrossing m_read 661 i_crossings i_inns m_posts m_shut m_here i_steps i_done i_at i_gone m_was m_came m_seenAt m_rowWorth m_farBy m_used i_everywhere i_again0 i_d0 i_never i_firstCame i_longRun i_moved i_crowd i_l0 i_fitMany i_fitLeast i_fitMost m_fitPost m_fitEnd m_keptPosts i_x0], [zAr T 0 m_all 3952 f_all]] _ _ := G
      refine lv_aload_n hx hb dX12_isLand_20 rfl (lv_at hl 0 rfl) ?_
      refine lv_aload_n hx hb dX12_isLand_21 rfl (lv_at hl 0 rfl) ?_
      refine z_get C G clX12 3 rfl 0 (by decide) m_fl_RX12_7 rfl dX12_isLand_22 ?_
      refine lv_aload_n hx hb dX12_isLand_25 rfl (lv_at hl 0 rfl) ?_
      refine z_get C G clX12 3 rfl 11 (by decide) m_fl_RX12_166 rfl dX12_isLand_26 ?_
      refine z_ild C G 4 rfl (vp_in_nI (n := 661) (by decide) (by decide)) dX12_isLand_29 ?_
      refine lv_topi (fun v_25 ev_25 => ?_)
      rw [show ((661 : Int32).toNatClampNeg) = 661 from rfl] at ev_25
      subst ev_25
      refine z_put C G clX12 3 rfl 12 (by decide) m_fl_RX12_169 rfl rfl rfl (Nat.le_of_ble_eq_true rfl) dX12_isLand_30 (fun H locs G => ?_)
      have G : zS T A s.heap s [[zAr T 0 m_posts 7 f_posts], [zAr T 0 m_shut 7 f_shut], [zAr T 0 m_here 7 f_here], [zO11 mo m_all m_has i_size i_next i_where i_token i_number i_word i_wrong i_farCrossing m_read 661 (f_all 661) i_inns m_posts m_shut m_here i_steps i_done i_at i_gone m_was m_came m_seenAt m_rowWorth m_farBy m_used i_everywhere i_again0 i_d0 i_never i_firstCame i_longRun i_moved i_crowd i_l0 i_fitMany i_fitLeast i_fitMost m_fitPost m_fitEnd m_keptPosts i_x0], [zAr T 0 m_all 3952 f_all]] _ _ := G
      refine lv_aload_n hx hb dX12_isLand_33 rfl (lv_at hl 0 rfl) ?_
      refine lv_aload_n hx hb dX12_isLand_34 rfl (lv_at hl 0 rfl) ?_
      refine z_get C G clX12 3 rfl 0 (by decide) m_fl_RX12_7 rfl dX12_isLand_35 ?_
      refine lv_aload_n hx hb dX12_isLand_38 rfl (lv_at hl 0 rfl) ?_
      refine z_get C G clX12 3 rfl 11 (by decide) m_fl_RX12_166 rfl dX12_isLand_39 ?_
      refine lv_iconst (v := 1) hx hb dX12_isLand_42 (by decide) ?_
      refine lv_iadd hx hb dX12_isLand_43 ?_
      refine lv_topi (fun y_26 ey_26 => ?_)
      obtain rfl : y_26 = 662 := ey_26.trans (by decide)
      refine z_ild C G 4 rfl (vp_in_nI (n := 662) (by decide) (by decide)) dX12_isLand_44 ?_
      refine lv_topi (fun v_27 ev_27 => ?_)
      rw [show ((662 : Int32).toNatClampNeg) = 662 from rfl] at ev_27
      subst ev_27
      refine z_put C G clX12 3 rfl 13 (by decide) m_fl_RX12_172 rfl rfl rfl (Nat.le_of_ble_eq_true rfl) dX12_isLand_45 (fun H locs G => ?_)
      have G : zS T A s.heap s [[zAr T 0 m_posts 7 f_posts], [zAr T 0 m_shut 7 f_shut], [zAr T 0 m_here 7 f_here], [zO11 mo m_all m_has i_size i_next i_where i_token i_number i_word i_wrong i_farCrossing m_read 661 (f_all 661) (f_all 662) m_posts m_shut m_here i_steps i_done i_at i_gone m_was m_came m_seenAt m_rowWorth m_farBy m_used i_everywhere i_again0 i_d0 i_never i_firstCame i_longRun i_moved i_crowd i_l0 i_fitMany i_fitLeast i_fitMost m_fitPost m_fitEnd m_keptPosts i_x0], [zAr T 0 m_all 3952 f_all]] _ _ := G
      refine lv_aload_n hx hb dX12_isLand_48 rfl (lv_at hl 0 rfl) ?_
      refine z_Vv (bc := [[zO11 mo m_all m_has i_size i_next i_where i_token i_number i_word i_wrong i_farCrossing m_read 661 (f_all 661) (f_all 662) m_posts m_shut m_here i_steps i_done i_at i_gone m_was m_came m_seenAt m_rowWorth m_farBy m_used i_everywhere i_again0 i_d0 i_never i_firstCame i_longRun i_moved i_crowd i_l0 i_fitMany i_fitLeast i_fitMost m_fitPost m_fitEnd m_keptPosts i_x0], [zAr T 0 m_all 3952 f_all], [zAr T 0 m_posts 7 f_posts], [zAr T 0 m_shut 7 f_shut], [zAr T 0 m_here 7 f_here]]) (br := []) (As := []) (rest := []) C G (c_m_begins l T mo m_all m_has i_size i_next i_where i_token i_number i_word i_wrong i_farCrossing m_read 661 (f_all 661) (f_all 662) m_posts m_shut m_here i_steps i_done i_at i_gone m_was m_came m_seenAt m_rowWorth m_farBy m_used i_everywhere i_again0 i_d0 i_never i_firstCame i_longRun i_moved i_crowd i_l0 i_fitMany i_fitLeast i_fitMost m_fitPost m_fitEnd m_keptPosts i_x0 f_all f_posts f_shut f_here hLk) (kV_RX12_175 C.2.2.2.2 (Nat.le_of_ble_eq_true rfl) (Nat.le_of_ble_eq_true rfl)) [3, 4, 0, 1, 2] [0, 0, 0, 0, 0] rfl rfl (ci := 11) (qc := (RX12, TX12, 43)) rfl rfl (List.mem_flatten.mpr ⟨_, List.mem_of_getElem? (i := 0) rfl, List.mem_cons_self⟩) rfl rfl hl.1 dX12_isLand_49 (Nat.le_of_ble_eq_true rfl) (Nat.le_of_ble_eq_true rfl) (fun b1 H locs hw G => ?_)
      refine zEx5 hw ?_
      intro j_steps_28 j_done_29 g_posts_30 g_shut_31 g_here_32
      refine zCu7 ?_
      intro hbs9 h_33 h_34 h_35 h_36 h_37 h_38
      clear hw
      subst hbs9
      have G : zS T A s.heap s [[zO11 mo m_all m_has i_size i_next i_where i_token i_number i_word i_wrong i_farCrossing m_read 661 (f_all 661) (f_all 662) m_posts m_shut m_here j_steps_28 j_done_29 i_at i_gone m_was m_came m_seenAt m_rowWorth m_farBy m_used i_everywhere i_again0 i_d0 i_never i_firstCame i_longRun i_moved i_crowd i_l0 i_fitMany i_fitLeast i_fitMost m_fitPost m_fitEnd m_keptPosts i_x0], [zAr T 0 m_all 3952 f_all], [zAr T 0 m_posts 7 g_posts_30], [zAr T 0 m_shut 7 g_shut_31], [zAr T 0 m_here 7 g_here_32]] _ _ := G
      refine lv_iconst (v := 1) hx hb dX12_isLand_52 (by decide) ?_
      exact z_back hQz_ (z_zret C hr hlocks G (Nat.le_of_ble_eq_true rfl) (Nat.le_of_ble_eq_true rfl) dX12_isLand_53 rfl ⟨661, (f_all 661), (f_all 662), j_steps_28, j_done_29, g_posts_30, g_shut_31, g_here_32, rfl, (Or.inl (⟨rfl, (by decide), (by decide), (by first | with_reducible assumption | omega | assumption), (by decide), hLk, (by first | with_reducible assumption | assumption), rfl, (by first | rfl | assumption), (by first | rfl | assumption), (by first | with_reducible assumption | assumption), (by first | with_reducible assumption | assumption), (by first | with_reducible assumption | assumption)⟩))⟩)
  · have h_5 : (ld_.toInt < 0 ∨ (f_all 0).toInt ≤ ld_.toInt) := h_5
    refine lv_if_ne (tgt := 11) hx hb dX12_isLand_6 (by decide) (fun q => absurd (by decide) q) (fun _ => ?_)
    refine lv_iconst (v := 0) hx hb dX12_isLand_9 (by decide) ?_
    have G := G.sub (bs' := [[zO11 mo m_all m_has i_size i_next i_where i_token i_number i_word i_wrong i_farCrossing m_read i_z0 i_crossings i_inns m_posts m_shut m_here i_steps i_done i_at i_gone m_was m_came m_seenAt m_rowWorth m_farBy m_used i_everywhere i_again0 i_d0 i_never i_firstCame i_longRun i_moved i_crowd i_l0 i_fitMany i_fitLeast i_fitMost m_fitPost m_fitEnd m_keptPosts i_x0], [zAr T 0 m_all 3952 f_all], [zAr T 0 m_posts 7 f_posts], [zAr T 0 m_shut 7 f_shut], [zAr T 0 m_here 7 f_here]]) [3, 4, 0, 1, 2] rfl
    exact z_back hQz_ (z_zret C hr hlocks G (Nat.le_of_ble_eq_true rfl) (Nat.le_of_ble_eq_true rfl) dX12_isLand_10 rfl ⟨i_z0, i_crossings, i_inns, i_steps, i_done, f_posts, f_shut, f_here, rfl, (Or.inr (⟨rfl, (by first | with_reducible assumption | omega | assumption)⟩))⟩)
set_option maxHeartbeats 4000000 in
set_option maxRecDepth 100000 in
/-- c_m_turns -/
theorem c_m_turns (l : Launch) (T : zTy) (mo : Nat) (m_all : Nat) (m_has : Nat) (i_size : Int32) (i_next : Int32) (i_where : Int32) (i_token : Int32) (i_number : Int32) (i_word : Int32) (i_wrong : Int32) (i_farCrossing : Int32) (m_read : Nat) (i_z0 : Int32) (i_crossings : Int32) (i_inns : Int32) (m_posts : Nat) (m_shut : Nat) (m_here : Nat) (i_steps : Int32) (i_done : Int32) (i_at : Int32) (i_gone : Int32) (m_was : Nat) (m_came : Nat) (m_seenAt : Nat) (m_rowWorth : Nat) (m_farBy : Nat) (m_used : Nat) (i_everywhere : Int32) (i_again0 : Int32) (i_d0 : Int32) (i_never : Int32) (i_firstCame : Int32) (i_longRun : Int32) (i_moved : Int32) (i_crowd : Int32) (i_l0 : Int32) (i_fitMany : Int32) (i_fitLeast : Int32) (i_fitMost : Int32) (m_fitPost : Nat) (m_fitEnd : Nat) (m_keptPosts : Nat) (i_x0 : Int32) (f_all : Nat → Int32) (f_posts : Nat → Int32) (f_shut : Nat → Int32) (c_ : Int32) (hL : zML f_all i_z0 i_crossings) (hc0 : 0 ≤ c_.toInt) (hc6 : c_.toInt ≤ 6) (hP : zMP f_posts) : zMi l T yX12_turns cX12_turns 5 (some .boolean) 2 0 0 [.ref mo, .int c_] [[zO11 mo m_all m_has i_size i_next i_where i_token i_number i_word i_wrong i_farCrossing m_read i_z0 i_crossings i_inns m_posts m_shut m_here i_steps i_done i_at i_gone m_was m_came m_seenAt m_rowWorth m_farBy m_used i_everywhere i_again0 i_d0 i_never i_firstCame i_longRun i_moved i_crowd i_l0 i_fitMany i_fitLeast i_fitMost m_fitPost m_fitEnd m_keptPosts i_x0], [zAr T 0 m_all 3952 f_all], [zAr T 0 m_posts 7 f_posts], [zAr T 0 m_shut 7 f_shut]] (fun (r : Int32) bs => ∃ (g_posts : Nat → Int32), bs = [[zO11 mo m_all m_has i_size i_next i_where i_token i_number i_word i_wrong i_farCrossing m_read i_z0 i_crossings i_inns m_posts m_shut m_here i_steps i_done i_at i_gone m_was m_came m_seenAt m_rowWorth m_farBy m_used i_everywhere i_again0 i_d0 i_never i_firstCame i_longRun i_moved i_crowd i_l0 i_fitMany i_fitLeast i_fitMost m_fitPost m_fitEnd m_keptPosts i_x0], [zAr T 0 m_all 3952 f_all], [zAr T 0 m_posts 7 g_posts], [zAr T 0 m_shut 7 f_shut]] ∧ zMP g_posts ∧ ((r = 1 ∧ 0 < (zRd f_all i_z0 c_).toInt) ∨ (r = 0))) := by
  refine zMi_of (own := RX12) (by decide) rfl (Nat.le_of_ble_eq_true rfl) ?_
  intro p e s m args below meth c A ls C hr hlocks hnm hAe G hl
  refine zHide (fun Qz_ hQz_ => ?_)
  have hx := C.1
  have hb := C.2.1
  have hl : lv_has ls 5 [(0, .ref mo), (1, .int c_)] := hl
  have hz := hL.1
  have hcr := hL.cr
  have hcl := z_clI (x := c_) (by omega)
  have hpc := hP c_.toNatClampNeg (by omega)
  refine lv_aload_n hx hb dX12_turns_0 rfl (lv_at hl 0 rfl) ?_
  refine lv_iload_n hx hb dX12_turns_1 rfl (lv_at hl 1 rfl) ?_
  refine z_Vi (bc := [[zO11 mo m_all m_has i_size i_next i_where i_token i_number i_word i_wrong i_farCrossing m_read i_z0 i_crossings i_inns m_posts m_shut m_here i_steps i_done i_at i_gone m_was m_came m_seenAt m_rowWorth m_farBy m_used i_everywhere i_again0 i_d0 i_never i_firstCame i_longRun i_moved i_crowd i_l0 i_fitMany i_fitLeast i_fitMost m_fitPost m_fitEnd m_keptPosts i_x0], [zAr T 0 m_all 3952 f_all]]) (br := [[zAr T 0 m_posts 7 f_posts], [zAr T 0 m_shut 7 f_shut]]) (As := [.int c_]) (rest := []) C G (c_m_roadsOf l T mo m_all m_has i_size i_next i_where i_token i_number i_word i_wrong i_farCrossing m_read i_z0 i_crossings i_inns m_posts m_shut m_here i_steps i_done i_at i_gone m_was m_came m_seenAt m_rowWorth m_farBy m_used i_everywhere i_again0 i_d0 i_never i_firstCame i_longRun i_moved i_crowd i_l0 i_fitMany i_fitLeast i_fitMost m_fitPost m_fitEnd m_keptPosts i_x0 f_all c_ (by first | with_reducible assumption | with_reducible rfl | omega | assumption | rfl | decide) (by first | with_reducible assumption | with_reducible rfl | omega | assumption | rfl | decide) (by first | with_reducible assumption | with_reducible rfl | omega | assumption | rfl | decide)) (kV_RX12_181 C.2.2.2.2 (Nat.le_of_ble_eq_true rfl) (Nat.le_of_ble_eq_true rfl)) [0, 1] [0, 0] rfl rfl (ci := 11) (qc := (RX12, TX12, 43)) rfl rfl (List.mem_flatten.mpr ⟨_, List.mem_of_getElem? (i := 0) rfl, List.mem_cons_self⟩) rfl rfl hl.1 dX12_turns_2 (Nat.le_of_ble_eq_true rfl) (Nat.le_of_ble_eq_true rfl) (fun r_4 b1 H locs hw G => ?_)
  refine zAn4 hw ?_
  intro hbs9 h_1 h_2 h_3
  clear hw
  subst hbs9
  have G : zS T A s.heap s [[zAr T 0 m_posts 7 f_posts], [zAr T 0 m_shut 7 f_shut], [zO11 mo m_all m_has i_size i_next i_where i_token i_number i_word i_wrong i_farCrossing m_read i_z0 i_crossings i_inns m_posts m_shut m_here i_steps i_done i_at i_gone m_was m_came m_seenAt m_rowWorth m_farBy m_used i_everywhere i_again0 i_d0 i_never i_firstCame i_longRun i_moved i_crowd i_l0 i_fitMany i_fitLeast i_fitMost m_fitPost m_fitEnd m_keptPosts i_x0], [zAr T 0 m_all 3952 f_all]] _ _ := G
  subst h_1
  refine lv_istore_n (lv' := [(2, .int (zRd f_all i_z0 c_)), (0, .ref mo), (1, .int c_)]) hx hb dX12_turns_5 rfl hl (by decide) (zLvf_h rfl) (fun ls hl => ?_)
  refine lv_iconst (v := 1) hx hb dX12_turns_6 (by decide) ?_
  refine lv_istore_n (lv' := [(3, .int 1), (2, .int (zRd f_all i_z0 c_)), (0, .ref mo), (1, .int c_)]) hx hb dX12_turns_7 rfl hl (by decide) (zLvf_h rfl) (fun ls hl => ?_)
  refine z_lp1 (T := T) 8 (fun (i : Nat) => [[zAr T 0 m_posts 7 f_posts], [zAr T 0 m_shut 7 f_shut], [zO11 mo m_all m_has i_size i_next i_where i_token i_number i_word i_wrong i_farCrossing m_read i_z0 i_crossings i_inns m_posts m_shut m_here i_steps i_done i_at i_gone m_was m_came m_seenAt m_rowWorth m_farBy m_used i_everywhere i_again0 i_d0 i_never i_firstCame i_longRun i_moved i_crowd i_l0 i_fitMany i_fitLeast i_fitMost m_fitPost m_fitEnd m_keptPosts i_x0], [zAr T 0 m_all 3952 f_all]]) (fun (i : Nat) => [(3, .int (nI i)), (2, .int (zRd f_all i_z0 c_)), (0, .ref mo), (1, .int c_)]) (fun (i : Nat) => 1 ≤ i ∧ i ≤ 5) (fun (i : Nat) => 6 - i) ?_ 1 (show 1 ≤ 1 ∧ 1 ≤ 5 from ⟨by omega, by omega⟩) G (lv_sub hl [0, 1, 2, 3] rfl)
  intro i hI9 ih_8 H locs ls G hl
  replace hI9 : 1 ≤ i ∧ i ≤ 5 := hI9
  refine zAn2 hI9 ?_
  intro hi hi5
  clear hI9
  replace G : zS T A s.heap s [[zAr T 0 m_posts 7 f_posts], [zAr T 0 m_shut 7 f_shut], [zO11 mo m_all m_has i_size i_next i_where i_token i_number i_word i_wrong i_farCrossing m_read i_z0 i_crossings i_inns m_posts m_shut m_here i_steps i_done i_at i_gone m_was m_came m_seenAt m_rowWorth m_farBy m_used i_everywhere i_again0 i_d0 i_never i_firstCame i_longRun i_moved i_crowd i_l0 i_fitMany i_fitLeast i_fitMost m_fitPost m_fitEnd m_keptPosts i_x0], [zAr T 0 m_all 3952 f_all]] _ _ := G
  replace hl : lv_has ls 5 [(3, .int (nI i)), (2, .int (zRd f_all i_z0 c_)), (0, .ref mo), (1, .int c_)] := hl
  refine lv_iload_n hx hb dX12_turns_8 rfl (lv_at hl 0 rfl) ?_
  refine lv_iload_n hx hb dX12_turns_9 rfl (lv_at hl 1 rfl) ?_
  refine lv_icmp_gt (tgt := 59) hx hb dX12_turns_10 (by decide) (fun c_5 => ?_) (fun c_5 => ?_)
  · have c_5n : (zRd f_all i_z0 c_).toInt < (i : Int) := by have q := (fa_lt _ _).mp c_5; rw [nI_toInt (n := i) (by omega)] at q; exact q
    refine lv_iconst (v := 0) hx hb dX12_turns_59 (by decide) ?_
    have G := G.sub (bs' := [[zO11 mo m_all m_has i_size i_next i_where i_token i_number i_word i_wrong i_farCrossing m_read i_z0 i_crossings i_inns m_posts m_shut m_here i_steps i_done i_at i_gone m_was m_came m_seenAt m_rowWorth m_farBy m_used i_everywhere i_again0 i_d0 i_never i_firstCame i_longRun i_moved i_crowd i_l0 i_fitMany i_fitLeast i_fitMost m_fitPost m_fitEnd m_keptPosts i_x0], [zAr T 0 m_all 3952 f_all], [zAr T 0 m_posts 7 f_posts], [zAr T 0 m_shut 7 f_shut]]) [2, 3, 0, 1] rfl
    exact z_back hQz_ (z_zret C hr hlocks G (Nat.le_of_ble_eq_true rfl) (Nat.le_of_ble_eq_true rfl) dX12_turns_60 rfl ⟨f_posts, rfl, (by first | with_reducible assumption | omega | trivial | assumption), (Or.inr rfl)⟩)
  · have c_5n : ¬ (zRd f_all i_z0 c_).toInt < (i : Int) := fun q => c_5 ((fa_lt _ _).mpr (by rw [nI_toInt (n := i) (by omega)]; exact q))
    refine lv_aload_n hx hb dX12_turns_13 rfl (lv_at hl 2 rfl) ?_
    refine z_get C G clX12 2 rfl 14 (by decide) m_fl_RX12_20 rfl dX12_turns_14 ?_
    refine lv_iload_n hx hb dX12_turns_17 rfl (lv_at hl 3 rfl) ?_
    refine z_ild C G 0 rfl (vp_in_iff.mpr ⟨by omega, by omega⟩) dX12_turns_18 ?_
    refine lv_topi (fun v_6 ev_6 => ?_)
    subst ev_6
    refine lv_iload_n hx hb dX12_turns_19 rfl (lv_at hl 0 rfl) ?_
    refine lv_iadd hx hb dX12_turns_20 ?_
    refine lv_topi (fun y_7 ey_7 => ?_)
    have ey_7i : y_7.toInt = (f_posts c_.toNatClampNeg).toInt + (i : Int) := by rw [ey_7]; exact (z_iaddI (x := (f_posts c_.toNatClampNeg)) (y := (nI i)) (by rw [nI_toInt (n := i) (by omega)]; show -2147483648 ≤ (f_posts c_.toNatClampNeg).toInt + (i : Int); omega) (by rw [nI_toInt (n := i) (by omega)]; show (f_posts c_.toNatClampNeg).toInt + (i : Int) < 2147483648; omega)).trans (by rw [nI_toInt (n := i) (by omega)] <;> rfl)
    refine lv_iload_n hx hb dX12_turns_21 rfl (lv_at hl 1 rfl) ?_
    refine lv_irem hx hb dX12_turns_22 (fun q => absurd (congrArg Int32.toInt q) (by show ¬ _ = (0 : Int); omega)) ?_
    have hrm := zRem (x := y_7) (y := zRd f_all i_z0 c_) (by omega) (by omega)
    refine lv_istore (lv' := [(4, .int (y_7 - y_7 / (zRd f_all i_z0 c_) * (zRd f_all i_z0 c_))), (3, .int (nI i)), (2, .int (zRd f_all i_z0 c_)), (0, .ref mo), (1, .int c_)]) hx hb dX12_turns_23 hl (by decide) (zLvf_h rfl) (fun ls hl => ?_)
    refine lv_aload_n hx hb dX12_turns_25 rfl (lv_at hl 3 rfl) ?_
    refine z_get C G clX12 2 rfl 15 (by decide) m_fl_RX12_23 rfl dX12_turns_26 ?_
    refine lv_iload_n hx hb dX12_turns_29 rfl (lv_at hl 4 rfl) ?_
    refine z_ild C G 1 rfl (vp_in_iff.mpr ⟨by omega, by omega⟩) dX12_turns_30 ?_
    refine lv_topi (fun v_8 ev_8 => ?_)
    subst ev_8
    refine lv_iload hx hb dX12_turns_31 (lv_at hl 0 rfl) ?_
    refine lv_ishr hx hb dX12_turns_33 ?_
    refine lv_iconst (v := 1) hx hb dX12_turns_34 (by decide) ?_
    refine lv_iand hx hb dX12_turns_35 ?_
    refine lv_iconst (v := 1) hx hb dX12_turns_36 (by decide) ?_
    refine lv_icmp_ne (tgt := 43) hx hb dX12_turns_37 (by decide) (fun c_9 => ?_) (fun c_9 => ?_)
    · have c_9n : ¬ (((f_shut c_.toNatClampNeg) >>> ((y_7 - y_7 / (zRd f_all i_z0 c_) * (zRd f_all i_z0 c_)) &&& 31)) &&& 1).toInt = (1 : Int) := fun q => c_9 ((fa_eq _ _).mpr q)
      refine lv_aload_n hx hb dX12_turns_43 rfl (lv_at hl 3 rfl) ?_
      refine z_get C G clX12 2 rfl 14 (by decide) m_fl_RX12_20 rfl dX12_turns_44 ?_
      refine lv_iload_n hx hb dX12_turns_47 rfl (lv_at hl 4 rfl) ?_
      refine lv_iload hx hb dX12_turns_48 (lv_at hl 0 rfl) ?_
      refine z_ist C G 0 rfl (vp_in_iff.mpr ⟨by omega, by omega⟩) dX12_turns_50 (fun H locs G => ?_)
      have G : zS T A s.heap s [[zAr T 0 m_posts 7 (upd f_posts c_.toNatClampNeg (y_7 - y_7 / (zRd f_all i_z0 c_) * (zRd f_all i_z0 c_)))], [zAr T 0 m_shut 7 f_shut], [zO11 mo m_all m_has i_size i_next i_where i_token i_number i_word i_wrong i_farCrossing m_read i_z0 i_crossings i_inns m_posts m_shut m_here i_steps i_done i_at i_gone m_was m_came m_seenAt m_rowWorth m_farBy m_used i_everywhere i_again0 i_d0 i_never i_firstCame i_longRun i_moved i_crowd i_l0 i_fitMany i_fitLeast i_fitMost m_fitPost m_fitEnd m_keptPosts i_x0], [zAr T 0 m_all 3952 f_all]] _ _ := G
      refine lv_iconst (v := 1) hx hb dX12_turns_51 (by decide) ?_
      have G := G.sub (bs' := [[zO11 mo m_all m_has i_size i_next i_where i_token i_number i_word i_wrong i_farCrossing m_read i_z0 i_crossings i_inns m_posts m_shut m_here i_steps i_done i_at i_gone m_was m_came m_seenAt m_rowWorth m_farBy m_used i_everywhere i_again0 i_d0 i_never i_firstCame i_longRun i_moved i_crowd i_l0 i_fitMany i_fitLeast i_fitMost m_fitPost m_fitEnd m_keptPosts i_x0], [zAr T 0 m_all 3952 f_all], [zAr T 0 m_posts 7 (upd f_posts c_.toNatClampNeg (y_7 - y_7 / (zRd f_all i_z0 c_) * (zRd f_all i_z0 c_)))], [zAr T 0 m_shut 7 f_shut]]) [2, 3, 0, 1] rfl
      exact z_back hQz_ (z_zret C hr hlocks G (Nat.le_of_ble_eq_true rfl) (Nat.le_of_ble_eq_true rfl) dX12_turns_52 rfl ⟨(upd f_posts c_.toNatClampNeg (y_7 - y_7 / (zRd f_all i_z0 c_) * (zRd f_all i_z0 c_))), rfl, (zMP_upd hP (by omega)), (Or.inl (⟨rfl, (by first | with_reducible assumption | omega | assumption)⟩))⟩)
    · have c_9n : (((f_shut c_.toNatClampNeg) >>> ((y_7 - y_7 / (zRd f_all i_z0 c_) * (zRd f_all i_z0 c_)) &&& 31)) &&& 1).toInt = (1 : Int) := (fa_eq _ _).mp c_9
      refine lv_goto (tgt := 53) hx hb dX12_turns_40 (by decide) ?_
      refine lv_iinc (v := nI (i + 1)) (lv' := [(3, .int (nI (i + 1))), (4, .int (y_7 - y_7 / (zRd f_all i_z0 c_) * (zRd f_all i_z0 c_))), (2, .int (zRd f_all i_z0 c_)), (0, .ref mo), (1, .int c_)]) hx hb dX12_turns_53 hl (k := 1) rfl (z_inc i 1) (by decide) (zLvf_h rfl) (fun ls hl => ?_)
      refine lv_goto (tgt := 8) hx hb dX12_turns_56 (by decide) ?_
      exact ih_8 (i + 1) (show 1 ≤ (i + 1) ∧ (i + 1) ≤ 5 from ⟨by omega, by omega⟩) (show 6 - (i + 1) < 6 - i from by omega) _ _ ls G (lv_sub hl [0, 2, 3, 4] rfl)
set_option maxHeartbeats 4000000 in
set_option maxRecDepth 100000 in
/-- c_m_stepsOn -/
theorem c_m_stepsOn (l : Launch) (T : zTy) (mo : Nat) (m_all : Nat) (m_has : Nat) (i_size : Int32) (i_next : Int32) (i_where : Int32) (i_token : Int32) (i_number : Int32) (i_word : Int32) (i_wrong : Int32) (i_farCrossing : Int32) (m_read : Nat) (i_z0 : Int32) (i_crossings : Int32) (i_inns : Int32) (m_posts : Nat) (m_shut : Nat) (m_here : Nat) (i_steps : Int32) (i_done : Int32) (i_at : Int32) (i_gone : Int32) (m_was : Nat) (m_came : Nat) (m_seenAt : Nat) (m_rowWorth : Nat) (m_farBy : Nat) (m_used : Nat) (i_everywhere : Int32) (i_again0 : Int32) (i_d0 : Int32) (i_never : Int32) (i_firstCame : Int32) (i_longRun : Int32) (i_moved : Int32) (i_crowd : Int32) (i_l0 : Int32) (i_fitMany : Int32) (i_fitLeast : Int32) (i_fitMost : Int32) (m_fitPost : Nat) (m_fitEnd : Nat) (m_keptPosts : Nat) (i_x0 : Int32) (f_all : Nat → Int32) (f_posts : Nat → Int32) (f_shut : Nat → Int32) (f_was : Nat → Int32) (hL : zML f_all i_z0 i_crossings) (ha0 : 0 ≤ i_at.toInt) (ha6 : i_at.toInt ≤ 6) (hg0 : 0 ≤ i_gone.toInt) (hg9 : i_gone.toInt ≤ 100000) (hP : zMP f_posts) : zMi l T yX12_stepsOn cX12_stepsOn 1 (some .boolean) 3 0 0 [.ref mo] [[zO11 mo m_all m_has i_size i_next i_where i_token i_number i_word i_wrong i_farCrossing m_read i_z0 i_crossings i_inns m_posts m_shut m_here i_steps i_done i_at i_gone m_was m_came m_seenAt m_rowWorth m_farBy m_used i_everywhere i_again0 i_d0 i_never i_firstCame i_longRun i_moved i_crowd i_l0 i_fitMany i_fitLeast i_fitMost m_fitPost m_fitEnd m_keptPosts i_x0], [zAr T 0 m_all 3952 f_all], [zAr T 0 m_posts 7 f_posts], [zAr T 0 m_shut 7 f_shut], [zAr T 0 m_was 7 f_was]] (fun (r : Int32) bs => ∃ (j_at : Int32) (j_gone : Int32) (g_posts : Nat → Int32) (g_was : Nat → Int32), bs = [[zO11 mo m_all m_has i_size i_next i_where i_token i_number i_word i_wrong i_farCrossing m_read i_z0 i_crossings i_inns m_posts m_shut m_here i_steps i_done j_at j_gone m_was m_came m_seenAt m_rowWorth m_farBy m_used i_everywhere i_again0 i_d0 i_never i_firstCame i_longRun i_moved i_crowd i_l0 i_fitMany i_fitLeast i_fitMost m_fitPost m_fitEnd m_keptPosts i_x0], [zAr T 0 m_all 3952 f_all], [zAr T 0 m_posts 7 g_posts], [zAr T 0 m_shut 7 f_shut], [zAr T 0 m_was 7 g_was]] ∧ zMP g_posts ∧ 0 ≤ j_at.toInt ∧ j_at.toInt ≤ 6 ∧ ((r = 1 ∧ j_gone.toInt = i_gone.toInt + 1) ∨ (r = 0 ∧ j_gone.toInt = i_gone.toInt))) := by
  refine zMi_of (own := RX12) (by decide) rfl (Nat.le_of_ble_eq_true rfl) ?_
  intro p e s m args below meth c A ls C hr hlocks hnm hAe G hl
  refine zHide (fun Qz_ hQz_ => ?_)
  have hx := C.1
  have hb := C.2.1
  have hl : lv_has ls 1 [(0, .ref mo)] := hl
  have hz := hL.1
  have hcr := hL.cr
  refine lv_aload_n hx hb dX12_stepsOn_0 rfl (lv_at hl 0 rfl) ?_
  refine lv_aload_n hx hb dX12_stepsOn_1 rfl (lv_at hl 0 rfl) ?_
  refine z_get C G clX12 0 rfl 19 (by decide) m_fl_RX12_202 rfl dX12_stepsOn_2 ?_
  refine z_Vi (bc := [[zO11 mo m_all m_has i_size i_next i_where i_token i_number i_word i_wrong i_farCrossing m_read i_z0 i_crossings i_inns m_posts m_shut m_here i_steps i_done i_at i_gone m_was m_came m_seenAt m_rowWorth m_farBy m_used i_everywhere i_again0 i_d0 i_never i_firstCame i_longRun i_moved i_crowd i_l0 i_fitMany i_fitLeast i_fitMost m_fitPost m_fitEnd m_keptPosts i_x0]]) (br := [[zAr T 0 m_all 3952 f_all], [zAr T 0 m_posts 7 f_posts], [zAr T 0 m_shut 7 f_shut], [zAr T 0 m_was 7 f_was]]) (As := [.int i_at]) (rest := []) C G (c_m_isInn l T mo m_all m_has i_size i_next i_where i_token i_number i_word i_wrong i_farCrossing m_read i_z0 i_crossings i_inns m_posts m_shut m_here i_steps i_done i_at i_gone m_was m_came m_seenAt m_rowWorth m_farBy m_used i_everywhere i_again0 i_d0 i_never i_firstCame i_longRun i_moved i_crowd i_l0 i_fitMany i_fitLeast i_fitMost m_fitPost m_fitEnd m_keptPosts i_x0 i_at) (kV_RX12_178 C.2.2.2.2 (Nat.le_of_ble_eq_true rfl) (Nat.le_of_ble_eq_true rfl)) [0] [0] rfl rfl (ci := 11) (qc := (RX12, TX12, 43)) rfl rfl (List.mem_flatten.mpr ⟨_, List.mem_of_getElem? (i := 0) rfl, List.mem_cons_self⟩) rfl rfl hl.1 dX12_stepsOn_5 (Nat.le_of_ble_eq_true rfl) (Nat.le_of_ble_eq_true rfl) (fun r_2 b1 H locs hw G => ?_)
  refine zAn2 hw ?_
  intro hbs9 hc_1
  clear hw
  subst hbs9
  have G : zS T A s.heap s [[zAr T 0 m_all 3952 f_all], [zAr T 0 m_posts 7 f_posts], [zAr T 0 m_shut 7 f_shut], [zAr T 0 m_was 7 f_was], [zO11 mo m_all m_has i_size i_next i_where i_token i_number i_word i_wrong i_farCrossing m_read i_z0 i_crossings i_inns m_posts m_shut m_here i_steps i_done i_at i_gone m_was m_came m_seenAt m_rowWorth m_farBy m_used i_everywhere i_again0 i_d0 i_never i_firstCame i_longRun i_moved i_crowd i_l0 i_fitMany i_fitLeast i_fitMost m_fitPost m_fitEnd m_keptPosts i_x0]] _ _ := G
  rcases hc_1 with ⟨rfl, h_3⟩ | ⟨rfl, h_4⟩
  · have h_3 : zInn i_inns i_at := h_3
    refine lv_if_ne (tgt := 22) hx hb dX12_stepsOn_8 (by decide) (fun _ => ?_) (fun q => absurd q (by decide))
    refine lv_iconst (v := 0) hx hb dX12_stepsOn_22 (by decide) ?_
    have G := G.sub (bs' := [[zO11 mo m_all m_has i_size i_next i_where i_token i_number i_word i_wrong i_farCrossing m_read i_z0 i_crossings i_inns m_posts m_shut m_here i_steps i_done i_at i_gone m_was m_came m_seenAt m_rowWorth m_farBy m_used i_everywhere i_again0 i_d0 i_never i_firstCame i_longRun i_moved i_crowd i_l0 i_fitMany i_fitLeast i_fitMost m_fitPost m_fitEnd m_keptPosts i_x0], [zAr T 0 m_all 3952 f_all], [zAr T 0 m_posts 7 f_posts], [zAr T 0 m_shut 7 f_shut], [zAr T 0 m_was 7 f_was]]) [4, 0, 1, 2, 3] rfl
    exact z_back hQz_ (z_zret C hr hlocks G (Nat.le_of_ble_eq_true rfl) (Nat.le_of_ble_eq_true rfl) dX12_stepsOn_23 rfl ⟨i_at, i_gone, f_posts, f_was, rfl, (by first | with_reducible assumption | omega | trivial | assumption), (by first | with_reducible assumption | omega | trivial | assumption), (by first | with_reducible assumption | omega | trivial | assumption), (Or.inr (⟨rfl, (by first | with_reducible assumption | omega | assumption)⟩))⟩)
  · have h_4 : ¬ zInn i_inns i_at := h_4
    refine lv_if_ne (tgt := 22) hx hb dX12_stepsOn_8 (by decide) (fun q => absurd (by decide) q) (fun _ => ?_)
    refine lv_aload_n hx hb dX12_stepsOn_11 rfl (lv_at hl 0 rfl) ?_
    refine lv_aload_n hx hb dX12_stepsOn_12 rfl (lv_at hl 0 rfl) ?_
    refine z_get C G clX12 4 rfl 19 (by decide) m_fl_RX12_202 rfl dX12_stepsOn_13 ?_
    refine z_Vi (bc := [[zO11 mo m_all m_has i_size i_next i_where i_token i_number i_word i_wrong i_farCrossing m_read i_z0 i_crossings i_inns m_posts m_shut m_here i_steps i_done i_at i_gone m_was m_came m_seenAt m_rowWorth m_farBy m_used i_everywhere i_again0 i_d0 i_never i_firstCame i_longRun i_moved i_crowd i_l0 i_fitMany i_fitLeast i_fitMost m_fitPost m_fitEnd m_keptPosts i_x0], [zAr T 0 m_all 3952 f_all], [zAr T 0 m_posts 7 f_posts], [zAr T 0 m_shut 7 f_shut]]) (br := [[zAr T 0 m_was 7 f_was]]) (As := [.int i_at]) (rest := []) C G (c_m_turns l T mo m_all m_has i_size i_next i_where i_token i_number i_word i_wrong i_farCrossing m_read i_z0 i_crossings i_inns m_posts m_shut m_here i_steps i_done i_at i_gone m_was m_came m_seenAt m_rowWorth m_farBy m_used i_everywhere i_again0 i_d0 i_never i_firstCame i_longRun i_moved i_crowd i_l0 i_fitMany i_fitLeast i_fitMost m_fitPost m_fitEnd m_keptPosts i_x0 f_all f_posts f_shut i_at (by first | with_reducible assumption | with_reducible rfl | omega | assumption | rfl | decide) (by first | with_reducible assumption | with_reducible rfl | omega | assumption | rfl | decide) (by first | with_reducible assumption | with_reducible rfl | omega | assumption | rfl | decide) (by first | with_reducible assumption | with_reducible rfl | omega | assumption | rfl | decide)) (kV_RX12_205 C.2.2.2.2 (Nat.le_of_ble_eq_true rfl) (Nat.le_of_ble_eq_true rfl)) [4, 0, 1, 2] [0, 0, 0, 1] rfl rfl (ci := 11) (qc := (RX12, TX12, 43)) rfl rfl (List.mem_flatten.mpr ⟨_, List.mem_of_getElem? (i := 0) rfl, List.mem_cons_self⟩) rfl rfl hl.1 dX12_stepsOn_16 (Nat.le_of_ble_eq_true rfl) (Nat.le_of_ble_eq_true rfl) (fun r_8 b1 H locs hw G => ?_)
    refine zEx1 hw ?_
    intro g_posts_5
    refine zCu3 ?_
    intro hbs9 h_6 hc_7
    clear hw
    subst hbs9
    have G : zS T A s.heap s [[zAr T 0 m_was 7 f_was], [zO11 mo m_all m_has i_size i_next i_where i_token i_number i_word i_wrong i_farCrossing m_read i_z0 i_crossings i_inns m_posts m_shut m_here i_steps i_done i_at i_gone m_was m_came m_seenAt m_rowWorth m_farBy m_used i_everywhere i_again0 i_d0 i_never i_firstCame i_longRun i_moved i_crowd i_l0 i_fitMany i_fitLeast i_fitMost m_fitPost m_fitEnd m_keptPosts i_x0], [zAr T 0 m_all 3952 f_all], [zAr T 0 m_posts 7 g_posts_5], [zAr T 0 m_shut 7 f_shut]] _ _ := G
    rcases hc_7 with ⟨rfl, h_9⟩ | rfl
    · have h_9 : 0 < (zRd f_all i_z0 i_at).toInt := h_9
      refine lv_if_ne (tgt := 24) hx hb dX12_stepsOn_19 (by decide) (fun _ => ?_) (fun q => absurd q (by decide))
      have hcl := z_clI (x := i_at) (by omega)
      have hpa : 0 ≤ (g_posts_5 i_at.toNatClampNeg).toInt ∧ (g_posts_5 i_at.toNatClampNeg).toInt ≤ 3 := (show zMP g_posts_5 by first | with_reducible assumption | assumption) i_at.toNatClampNeg (by omega)
      refine lv_aload_n hx hb dX12_stepsOn_24 rfl (lv_at hl 0 rfl) ?_
      refine lv_aload_n hx hb dX12_stepsOn_25 rfl (lv_at hl 0 rfl) ?_
      refine lv_aload_n hx hb dX12_stepsOn_26 rfl (lv_at hl 0 rfl) ?_
      refine z_get C G clX12 1 rfl 19 (by decide) m_fl_RX12_202 rfl dX12_stepsOn_27 ?_
      refine lv_aload_n hx hb dX12_stepsOn_30 rfl (lv_at hl 0 rfl) ?_
      refine z_get C G clX12 1 rfl 14 (by decide) m_fl_RX12_20 rfl dX12_stepsOn_31 ?_
      refine lv_aload_n hx hb dX12_stepsOn_34 rfl (lv_at hl 0 rfl) ?_
      refine z_get C G clX12 1 rfl 19 (by decide) m_fl_RX12_202 rfl dX12_stepsOn_35 ?_
      refine z_ild C G 3 rfl (vp_in_iff.mpr ⟨by omega, by omega⟩) dX12_stepsOn_38 ?_
      refine lv_topi (fun v_10 ev_10 => ?_)
      subst ev_10
      refine z_Vi (bc := [[zO11 mo m_all m_has i_size i_next i_where i_token i_number i_word i_wrong i_farCrossing m_read i_z0 i_crossings i_inns m_posts m_shut m_here i_steps i_done i_at i_gone m_was m_came m_seenAt m_rowWorth m_farBy m_used i_everywhere i_again0 i_d0 i_never i_firstCame i_longRun i_moved i_crowd i_l0 i_fitMany i_fitLeast i_fitMost m_fitPost m_fitEnd m_keptPosts i_x0], [zAr T 0 m_all 3952 f_all]]) (br := [[zAr T 0 m_was 7 f_was], [zAr T 0 m_posts 7 g_posts_5], [zAr T 0 m_shut 7 f_shut]]) (As := [.int i_at, .int (g_posts_5 i_at.toNatClampNeg)]) (rest := [.ref mo]) C G (c_m_leadsTo l T mo m_all m_has i_size i_next i_where i_token i_number i_word i_wrong i_farCrossing m_read i_z0 i_crossings i_inns m_posts m_shut m_here i_steps i_done i_at i_gone m_was m_came m_seenAt m_rowWorth m_farBy m_used i_everywhere i_again0 i_d0 i_never i_firstCame i_longRun i_moved i_crowd i_l0 i_fitMany i_fitLeast i_fitMost m_fitPost m_fitEnd m_keptPosts i_x0 f_all i_at (g_posts_5 i_at.toNatClampNeg) (by first | with_reducible assumption | with_reducible rfl | omega | assumption | rfl | decide) (by first | with_reducible assumption | with_reducible rfl | omega | assumption | rfl | decide) (by first | with_reducible assumption | with_reducible rfl | omega | assumption | rfl | decide) (by first | with_reducible assumption | with_reducible rfl | omega | assumption | rfl | decide) (by first | with_reducible assumption | with_reducible rfl | omega | assumption | rfl | decide)) (kV_RX12_190 C.2.2.2.2 (Nat.le_of_ble_eq_true rfl) (Nat.le_of_ble_eq_true rfl)) [1, 2] [1, 0] rfl rfl (ci := 11) (qc := (RX12, TX12, 43)) rfl rfl (List.mem_flatten.mpr ⟨_, List.mem_of_getElem? (i := 0) rfl, List.mem_cons_self⟩) rfl rfl hl.1 dX12_stepsOn_39 (Nat.le_of_ble_eq_true rfl) (Nat.le_of_ble_eq_true rfl) (fun r_14 b1 H locs hw G => ?_)
      refine zAn4 hw ?_
      intro hbs9 h_11 h_12 h_13
      clear hw
      subst hbs9
      have G : zS T A s.heap s [[zAr T 0 m_was 7 f_was], [zAr T 0 m_posts 7 g_posts_5], [zAr T 0 m_shut 7 f_shut], [zO11 mo m_all m_has i_size i_next i_where i_token i_number i_word i_wrong i_farCrossing m_read i_z0 i_crossings i_inns m_posts m_shut m_here i_steps i_done i_at i_gone m_was m_came m_seenAt m_rowWorth m_farBy m_used i_everywhere i_again0 i_d0 i_never i_firstCame i_longRun i_moved i_crowd i_l0 i_fitMany i_fitLeast i_fitMost m_fitPost m_fitEnd m_keptPosts i_x0], [zAr T 0 m_all 3952 f_all]] _ _ := G
      subst h_11
      refine z_put C G clX12 3 rfl 19 (by decide) m_fl_RX12_202 rfl rfl rfl (Nat.le_of_ble_eq_true rfl) dX12_stepsOn_42 (fun H locs G => ?_)
      have G : zS T A s.heap s [[zAr T 0 m_was 7 f_was], [zAr T 0 m_posts 7 g_posts_5], [zAr T 0 m_shut 7 f_shut], [zO11 mo m_all m_has i_size i_next i_where i_token i_number i_word i_wrong i_farCrossing m_read i_z0 i_crossings i_inns m_posts m_shut m_here i_steps i_done (zLe f_all i_z0 i_at (g_posts_5 i_at.toNatClampNeg)) i_gone m_was m_came m_seenAt m_rowWorth m_farBy m_used i_everywhere i_again0 i_d0 i_never i_firstCame i_longRun i_moved i_crowd i_l0 i_fitMany i_fitLeast i_fitMost m_fitPost m_fitEnd m_keptPosts i_x0], [zAr T 0 m_all 3952 f_all]] _ _ := G
      refine lv_aload_n hx hb dX12_stepsOn_45 rfl (lv_at hl 0 rfl) ?_
      refine lv_dup hx hb dX12_stepsOn_46 rfl ?_
      refine z_get C G clX12 3 rfl 20 (by decide) m_fl_RX12_208 rfl dX12_stepsOn_47 ?_
      refine lv_iconst (v := 1) hx hb dX12_stepsOn_50 (by decide) ?_
      refine lv_iadd hx hb dX12_stepsOn_51 ?_
      refine lv_topi (fun y_15 ey_15 => ?_)
      have ey_15i : y_15.toInt = i_gone.toInt + (1 : Int) := by rw [ey_15]; exact z_iaddI (x := i_gone) (y := (1 : Int32)) (by show -2147483648 ≤ i_gone.toInt + (1 : Int); omega) (by show i_gone.toInt + (1 : Int) < 2147483648; omega)
      refine z_put C G clX12 3 rfl 20 (by decide) m_fl_RX12_208 rfl rfl rfl (Nat.le_of_ble_eq_true rfl) dX12_stepsOn_52 (fun H locs G => ?_)
      have G : zS T A s.heap s [[zAr T 0 m_was 7 f_was], [zAr T 0 m_posts 7 g_posts_5], [zAr T 0 m_shut 7 f_shut], [zO11 mo m_all m_has i_size i_next i_where i_token i_number i_word i_wrong i_farCrossing m_read i_z0 i_crossings i_inns m_posts m_shut m_here i_steps i_done (zLe f_all i_z0 i_at (g_posts_5 i_at.toNatClampNeg)) y_15 m_was m_came m_seenAt m_rowWorth m_farBy m_used i_everywhere i_again0 i_d0 i_never i_firstCame i_longRun i_moved i_crowd i_l0 i_fitMany i_fitLeast i_fitMost m_fitPost m_fitEnd m_keptPosts i_x0], [zAr T 0 m_all 3952 f_all]] _ _ := G
      refine lv_aload_n hx hb dX12_stepsOn_55 rfl (lv_at hl 0 rfl) ?_
      refine z_get C G clX12 3 rfl 21 (by decide) m_fl_RX12_29 rfl dX12_stepsOn_56 ?_
      refine lv_aload_n hx hb dX12_stepsOn_59 rfl (lv_at hl 0 rfl) ?_
      refine z_get C G clX12 3 rfl 19 (by decide) m_fl_RX12_202 rfl dX12_stepsOn_60 ?_
      refine lv_dup2_11 hx hb dX12_stepsOn_63 rfl rfl ?_
      refine z_ild C G 0 rfl (vp_in_iff.mpr ⟨by omega, by omega⟩) dX12_stepsOn_64 ?_
      refine lv_topi (fun v_16 ev_16 => ?_)
      subst ev_16
      refine lv_iconst (v := 1) hx hb dX12_stepsOn_65 (by decide) ?_
      refine lv_iadd hx hb dX12_stepsOn_66 ?_
      refine z_ist C G 0 rfl (vp_in_iff.mpr ⟨by omega, by omega⟩) dX12_stepsOn_67 (fun H locs G => ?_)
      have G : zS T A s.heap s [[zAr T 0 m_was 7 (upd f_was (zLe f_all i_z0 i_at (g_posts_5 i_at.toNatClampNeg)).toNatClampNeg ((f_was (zLe f_all i_z0 i_at (g_posts_5 i_at.toNatClampNeg)).toNatClampNeg) + 1))], [zAr T 0 m_posts 7 g_posts_5], [zAr T 0 m_shut 7 f_shut], [zO11 mo m_all m_has i_size i_next i_where i_token i_number i_word i_wrong i_farCrossing m_read i_z0 i_crossings i_inns m_posts m_shut m_here i_steps i_done (zLe f_all i_z0 i_at (g_posts_5 i_at.toNatClampNeg)) y_15 m_was m_came m_seenAt m_rowWorth m_farBy m_used i_everywhere i_again0 i_d0 i_never i_firstCame i_longRun i_moved i_crowd i_l0 i_fitMany i_fitLeast i_fitMost m_fitPost m_fitEnd m_keptPosts i_x0], [zAr T 0 m_all 3952 f_all]] _ _ := G
      refine lv_iconst (v := 1) hx hb dX12_stepsOn_68 (by decide) ?_
      have G := G.sub (bs' := [[zO11 mo m_all m_has i_size i_next i_where i_token i_number i_word i_wrong i_farCrossing m_read i_z0 i_crossings i_inns m_posts m_shut m_here i_steps i_done (zLe f_all i_z0 i_at (g_posts_5 i_at.toNatClampNeg)) y_15 m_was m_came m_seenAt m_rowWorth m_farBy m_used i_everywhere i_again0 i_d0 i_never i_firstCame i_longRun i_moved i_crowd i_l0 i_fitMany i_fitLeast i_fitMost m_fitPost m_fitEnd m_keptPosts i_x0], [zAr T 0 m_all 3952 f_all], [zAr T 0 m_posts 7 g_posts_5], [zAr T 0 m_shut 7 f_shut], [zAr T 0 m_was 7 (upd f_was (zLe f_all i_z0 i_at (g_posts_5 i_at.toNatClampNeg)).toNatClampNeg ((f_was (zLe f_all i_z0 i_at (g_posts_5 i_at.toNatClampNeg)).toNatClampNeg) + 1))]]) [3, 4, 1, 2, 0] rfl
      exact z_back hQz_ (z_zret C hr hlocks G (Nat.le_of_ble_eq_true rfl) (Nat.le_of_ble_eq_true rfl) dX12_stepsOn_69 rfl ⟨(zLe f_all i_z0 i_at (g_posts_5 i_at.toNatClampNeg)), y_15, g_posts_5, (upd f_was (zLe f_all i_z0 i_at (g_posts_5 i_at.toNatClampNeg)).toNatClampNeg ((f_was (zLe f_all i_z0 i_at (g_posts_5 i_at.toNatClampNeg)).toNatClampNeg) + 1)), rfl, (by first | with_reducible assumption | omega | trivial | assumption), (by first | with_reducible assumption | omega | trivial | assumption), (by first | with_reducible assumption | omega | trivial | assumption), (Or.inl (⟨rfl, (by first | with_reducible assumption | omega | assumption)⟩))⟩)
    · refine lv_if_ne (tgt := 24) hx hb dX12_stepsOn_19 (by decide) (fun q => absurd (by decide) q) (fun _ => ?_)
      refine lv_iconst (v := 0) hx hb dX12_stepsOn_22 (by decide) ?_
      have G := G.sub (bs' := [[zO11 mo m_all m_has i_size i_next i_where i_token i_number i_word i_wrong i_farCrossing m_read i_z0 i_crossings i_inns m_posts m_shut m_here i_steps i_done i_at i_gone m_was m_came m_seenAt m_rowWorth m_farBy m_used i_everywhere i_again0 i_d0 i_never i_firstCame i_longRun i_moved i_crowd i_l0 i_fitMany i_fitLeast i_fitMost m_fitPost m_fitEnd m_keptPosts i_x0], [zAr T 0 m_all 3952 f_all], [zAr T 0 m_posts 7 g_posts_5], [zAr T 0 m_shut 7 f_shut], [zAr T 0 m_was 7 f_was]]) [1, 2, 3, 4, 0] rfl
      exact z_back hQz_ (z_zret C hr hlocks G (Nat.le_of_ble_eq_true rfl) (Nat.le_of_ble_eq_true rfl) dX12_stepsOn_23 rfl ⟨i_at, i_gone, g_posts_5, f_was, rfl, (by first | with_reducible assumption | omega | trivial | assumption), (by first | with_reducible assumption | omega | trivial | assumption), (by first | with_reducible assumption | omega | trivial | assumption), (Or.inr (⟨rfl, (by first | with_reducible assumption | omega | assumption)⟩))⟩)
theorem m_co_X12_puts : Cond.code yX12_puts cX12_puts 3 none ∈ zT := zmem1 zsub_7 23 rfl rfl
theorem m_ml_RX12_211 : Cond.methodLink RX12 211 yX12_puts ∈ zT := zmem1 zsub_7 20 rfl rfl
theorem m_im_X12_puts : Cond.instanceMethod yX12_puts ∈ zT := zmem1 zsub_7 22 rfl rfl
theorem m_se_X12_puts : Cond.selects RX12 yX12_puts yX12_puts ∈ zT := zmem 66 rfl rfl
theorem m_co_X12_stepsOn : Cond.code yX12_stepsOn cX12_stepsOn 1 (some .boolean) ∈ zT := zmem1 zsub_7 27 rfl rfl
theorem m_ml_RX12_214 : Cond.methodLink RX12 214 yX12_stepsOn ∈ zT := zmem1 zsub_7 24 rfl rfl
theorem m_im_X12_stepsOn : Cond.instanceMethod yX12_stepsOn ∈ zT := zmem1 zsub_7 26 rfl rfl
theorem m_se_X12_stepsOn : Cond.selects RX12 yX12_stepsOn yX12_stepsOn ∈ zT := zmem 67 rfl rfl
theorem m_co_X12_isFree : Cond.code yX12_isFree cX12_isFree 2 (some .boolean) ∈ zT := zmem1 zsub_7 71 rfl rfl
theorem m_ml_RX12_223 : Cond.methodLink RX12 223 yX12_isFree ∈ zT := zmem1 zsub_7 68 rfl rfl
theorem m_im_X12_isFree : Cond.instanceMethod yX12_isFree ∈ zT := zmem1 zsub_7 70 rfl rfl
theorem m_se_X12_isFree : Cond.selects RX12 yX12_isFree yX12_isFree ∈ zT := zmem 73 rfl rfl
theorem kV_RX12_211 {R : Room} {s : State} {args : Array Value} {d mc ms : Nat} (hts : ∀ w ∈ zT, w.before args s = true) (h1 : d + 1 ≤ R.frames) (h2 : 8 + (3 + 11) + 40 * d ≤ R.locals) : CallW R s args RX12 RX12 211 yX12_puts cX12_puts 3 none (zW yX12_puts cX12_puts 3 none) (zR d mc ms) mc ms 1 := z_cwV hts m_co_X12_puts m_ml_RX12_211 m_im_X12_puts m_se_X12_puts m_ii_RX12 (by decide +kernel) h1 h2
theorem kV_RX12_214 {R : Room} {s : State} {args : Array Value} {d mc ms : Nat} (hts : ∀ w ∈ zT, w.before args s = true) (h1 : d + 1 ≤ R.frames) (h2 : 8 + (1 + 11) + 40 * d ≤ R.locals) : CallW R s args RX12 RX12 214 yX12_stepsOn cX12_stepsOn 1 (some .boolean) (zW yX12_stepsOn cX12_stepsOn 1 (some .boolean)) (zR d mc ms) mc ms 0 := z_cwV hts m_co_X12_stepsOn m_ml_RX12_214 m_im_X12_stepsOn m_se_X12_stepsOn m_ii_RX12 (by decide +kernel) h1 h2
theorem kV_RX12_223 {R : Room} {s : State} {args : Array Value} {d mc ms : Nat} (hts : ∀ w ∈ zT, w.before args s = true) (h1 : d + 1 ≤ R.frames) (h2 : 8 + (2 + 11) + 40 * d ≤ R.locals) : CallW R s args RX12 RX12 223 yX12_isFree cX12_isFree 2 (some .boolean) (zW yX12_isFree cX12_isFree 2 (some .boolean)) (zR d mc ms) mc ms 1 := z_cwV hts m_co_X12_isFree m_ml_RX12_223 m_im_X12_isFree m_se_X12_isFree m_ii_RX12 (by decide +kernel) h1 h2
theorem dX12_puts_0 : decode cX12_puts 0 = .ok (.aload_n 0, 1) := zo_42 (by decide +kernel)
theorem dX12_puts_1 : decode cX12_puts 1 = .ok (.iload_n 1, 1) := zo_27 (by decide +kernel)
theorem dX12_puts_2 : decode cX12_puts 2 = .ok (.putfield 202, 3) := zo_181 (by decide +kernel)
theorem dX12_puts_5 : decode cX12_puts 5 = .ok (.aload_n 0, 1) := zo_42 (by decide +kernel)
theorem dX12_puts_6 : decode cX12_puts 6 = .ok (.iconst 0, 1) := zo_3 (by decide +kernel)
theorem dX12_puts_7 : decode cX12_puts 7 = .ok (.putfield 208, 3) := zo_181 (by decide +kernel)
theorem dX12_puts_10 : decode cX12_puts 10 = .ok (.iconst 0, 1) := zo_3 (by decide +kernel)
theorem dX12_puts_11 : decode cX12_puts 11 = .ok (.istore_n 2, 1) := zo_61 (by decide +kernel)
theorem dX12_puts_12 : decode cX12_puts 12 = .ok (.iload_n 2, 1) := zo_28 (by decide +kernel)
theorem dX12_puts_13 : decode cX12_puts 13 = .ok (.bipush 7, 2) := zo_16 (by decide +kernel)
theorem dX12_puts_15 : decode cX12_puts 15 = .ok (.if_icmp .ge 25, 3) := zo_162 (by decide +kernel)
theorem dX12_puts_18 : decode cX12_puts 18 = .ok (.aload_n 0, 1) := zo_42 (by decide +kernel)
theorem dX12_puts_19 : decode cX12_puts 19 = .ok (.getfield 29, 3) := zo_180 (by decide +kernel)
theorem dX12_puts_22 : decode cX12_puts 22 = .ok (.iload_n 2, 1) := zo_28 (by decide +kernel)
theorem dX12_puts_23 : decode cX12_puts 23 = .ok (.iload_n 2, 1) := zo_28 (by decide +kernel)
theorem dX12_puts_24 : decode cX12_puts 24 = .ok (.iload_n 1, 1) := zo_27 (by decide +kernel)
theorem dX12_puts_25 : decode cX12_puts 25 = .ok (.if_icmp .ne 7, 3) := zo_160 (by decide +kernel)
theorem dX12_puts_28 : decode cX12_puts 28 = .ok (.iconst 1, 1) := zo_4 (by decide +kernel)
theorem dX12_puts_29 : decode cX12_puts 29 = .ok (.goto 4, 3) := zo_167 (by decide +kernel)
theorem dX12_puts_32 : decode cX12_puts 32 = .ok (.iconst 0, 1) := zo_3 (by decide +kernel)
theorem dX12_puts_33 : decode cX12_puts 33 = .ok (.iastore, 1) := zo_79 (by decide +kernel)
theorem dX12_puts_34 : decode cX12_puts 34 = .ok (.iinc 2 1, 3) := zo_132 (by decide +kernel)
theorem dX12_puts_37 : decode cX12_puts 37 = .ok (.goto (-25), 3) := zo_167 (by decide +kernel)
theorem dX12_puts_40 : decode cX12_puts 40 = .ok (.return_, 1) := zo_177 (by decide +kernel)
theorem dX12_walks_0 : decode cX12_walks 0 = .ok (.aload_n 0, 1) := zo_42 (by decide +kernel)
theorem dX12_walks_1 : decode cX12_walks 1 = .ok (.iload_n 1, 1) := zo_27 (by decide +kernel)
theorem dX12_walks_2 : decode cX12_walks 2 = .ok (.invokevirtual 211, 3) := zo_182 (by decide +kernel)
theorem dX12_walks_5 : decode cX12_walks 5 = .ok (.iconst 1, 1) := zo_4 (by decide +kernel)
theorem dX12_walks_6 : decode cX12_walks 6 = .ok (.istore_n 2, 1) := zo_61 (by decide +kernel)
theorem dX12_walks_7 : decode cX12_walks 7 = .ok (.aload_n 0, 1) := zo_42 (by decide +kernel)
theorem dX12_walks_8 : decode cX12_walks 8 = .ok (.getfield 208, 3) := zo_180 (by decide +kernel)
theorem dX12_walks_11 : decode cX12_walks 11 = .ok (.sipush 499, 3) := zo_17 (by decide +kernel)
theorem dX12_walks_14 : decode cX12_walks 14 = .ok (.if_icmp .ge 15, 3) := zo_162 (by decide +kernel)
theorem dX12_walks_17 : decode cX12_walks 17 = .ok (.iload_n 2, 1) := zo_28 (by decide +kernel)
theorem dX12_walks_18 : decode cX12_walks 18 = .ok (.ifCond .eq 11, 3) := zo_153 (by decide +kernel)
theorem dX12_walks_21 : decode cX12_walks 21 = .ok (.aload_n 0, 1) := zo_42 (by decide +kernel)
theorem dX12_walks_22 : decode cX12_walks 22 = .ok (.invokevirtual 214, 3) := zo_182 (by decide +kernel)
theorem dX12_walks_25 : decode cX12_walks 25 = .ok (.istore_n 2, 1) := zo_61 (by decide +kernel)
theorem dX12_walks_26 : decode cX12_walks 26 = .ok (.goto (-19), 3) := zo_167 (by decide +kernel)
theorem dX12_walks_29 : decode cX12_walks 29 = .ok (.aload_n 0, 1) := zo_42 (by decide +kernel)
theorem dX12_walks_30 : decode cX12_walks 30 = .ok (.aload_n 0, 1) := zo_42 (by decide +kernel)
theorem dX12_walks_31 : decode cX12_walks 31 = .ok (.getfield 202, 3) := zo_180 (by decide +kernel)
theorem dX12_walks_34 : decode cX12_walks 34 = .ok (.invokevirtual 178, 3) := zo_182 (by decide +kernel)
theorem dX12_walks_37 : decode cX12_walks 37 = .ok (.ireturn, 1) := zo_172 (by decide +kernel)
theorem dX12_postsNow_0 : decode cX12_postsNow 0 = .ok (.iconst 0, 1) := zo_3 (by decide +kernel)
theorem dX12_postsNow_1 : decode cX12_postsNow 1 = .ok (.istore_n 1, 1) := zo_60 (by decide +kernel)
theorem dX12_postsNow_2 : decode cX12_postsNow 2 = .ok (.iconst 0, 1) := zo_3 (by decide +kernel)
theorem dX12_postsNow_3 : decode cX12_postsNow 3 = .ok (.istore_n 2, 1) := zo_61 (by decide +kernel)
theorem dX12_postsNow_4 : decode cX12_postsNow 4 = .ok (.iload_n 2, 1) := zo_28 (by decide +kernel)
theorem dX12_postsNow_5 : decode cX12_postsNow 5 = .ok (.aload_n 0, 1) := zo_42 (by decide +kernel)
theorem dX12_postsNow_6 : decode cX12_postsNow 6 = .ok (.getfield 169, 3) := zo_180 (by decide +kernel)
theorem dX12_postsNow_9 : decode cX12_postsNow 9 = .ok (.if_icmp .ge 20, 3) := zo_162 (by decide +kernel)
theorem dX12_postsNow_12 : decode cX12_postsNow 12 = .ok (.iconst 4, 1) := zo_7 (by decide +kernel)
theorem dX12_postsNow_13 : decode cX12_postsNow 13 = .ok (.iload_n 1, 1) := zo_27 (by decide +kernel)
theorem dX12_postsNow_14 : decode cX12_postsNow 14 = .ok (.imul, 1) := zo_104 (by decide +kernel)
theorem dX12_postsNow_15 : decode cX12_postsNow 15 = .ok (.aload_n 0, 1) := zo_42 (by decide +kernel)
theorem dX12_postsNow_16 : decode cX12_postsNow 16 = .ok (.getfield 20, 3) := zo_180 (by decide +kernel)
theorem dX12_postsNow_19 : decode cX12_postsNow 19 = .ok (.iload_n 2, 1) := zo_28 (by decide +kernel)
theorem dX12_postsNow_20 : decode cX12_postsNow 20 = .ok (.iaload, 1) := zo_46 (by decide +kernel)
theorem dX12_postsNow_21 : decode cX12_postsNow 21 = .ok (.iadd, 1) := zo_96 (by decide +kernel)
theorem dX12_postsNow_22 : decode cX12_postsNow 22 = .ok (.istore_n 1, 1) := zo_60 (by decide +kernel)
theorem dX12_postsNow_23 : decode cX12_postsNow 23 = .ok (.iinc 2 1, 3) := zo_132 (by decide +kernel)
theorem dX12_postsNow_26 : decode cX12_postsNow 26 = .ok (.goto (-22), 3) := zo_167 (by decide +kernel)
theorem dX12_postsNow_29 : decode cX12_postsNow 29 = .ok (.iload_n 1, 1) := zo_27 (by decide +kernel)
theorem dX12_postsNow_30 : decode cX12_postsNow 30 = .ok (.ireturn, 1) := zo_172 (by decide +kernel)
theorem dX12_waysMany_0 : decode cX12_waysMany 0 = .ok (.iconst 1, 1) := zo_4 (by decide +kernel)
theorem dX12_waysMany_1 : decode cX12_waysMany 1 = .ok (.istore_n 1, 1) := zo_60 (by decide +kernel)
theorem dX12_waysMany_2 : decode cX12_waysMany 2 = .ok (.iconst 0, 1) := zo_3 (by decide +kernel)
theorem dX12_waysMany_3 : decode cX12_waysMany 3 = .ok (.istore_n 2, 1) := zo_61 (by decide +kernel)
theorem dX12_waysMany_4 : decode cX12_waysMany 4 = .ok (.iload_n 2, 1) := zo_28 (by decide +kernel)
theorem dX12_waysMany_5 : decode cX12_waysMany 5 = .ok (.aload_n 0, 1) := zo_42 (by decide +kernel)
theorem dX12_waysMany_6 : decode cX12_waysMany 6 = .ok (.getfield 169, 3) := zo_180 (by decide +kernel)
theorem dX12_waysMany_9 : decode cX12_waysMany 9 = .ok (.if_icmp .ge 29, 3) := zo_162 (by decide +kernel)
theorem dX12_waysMany_12 : decode cX12_waysMany 12 = .ok (.iload_n 1, 1) := zo_27 (by decide +kernel)
theorem dX12_waysMany_13 : decode cX12_waysMany 13 = .ok (.aload_n 0, 1) := zo_42 (by decide +kernel)
theorem dX12_waysMany_14 : decode cX12_waysMany 14 = .ok (.iload_n 2, 1) := zo_28 (by decide +kernel)
theorem dX12_waysMany_15 : decode cX12_waysMany 15 = .ok (.invokevirtual 223, 3) := zo_182 (by decide +kernel)
theorem dX12_waysMany_18 : decode cX12_waysMany 18 = .ok (.ifCond .eq 11, 3) := zo_153 (by decide +kernel)
theorem dX12_waysMany_21 : decode cX12_waysMany 21 = .ok (.aload_n 0, 1) := zo_42 (by decide +kernel)
theorem dX12_waysMany_22 : decode cX12_waysMany 22 = .ok (.iload_n 2, 1) := zo_28 (by decide +kernel)
theorem dX12_waysMany_23 : decode cX12_waysMany 23 = .ok (.invokevirtual 181, 3) := zo_182 (by decide +kernel)
theorem dX12_waysMany_26 : decode cX12_waysMany 26 = .ok (.goto 4, 3) := zo_167 (by decide +kernel)
theorem dX12_waysMany_29 : decode cX12_waysMany 29 = .ok (.iconst 1, 1) := zo_4 (by decide +kernel)
theorem dX12_waysMany_30 : decode cX12_waysMany 30 = .ok (.imul, 1) := zo_104 (by decide +kernel)
theorem dX12_waysMany_31 : decode cX12_waysMany 31 = .ok (.istore_n 1, 1) := zo_60 (by decide +kernel)
theorem dX12_waysMany_32 : decode cX12_waysMany 32 = .ok (.iinc 2 1, 3) := zo_132 (by decide +kernel)
theorem dX12_waysMany_35 : decode cX12_waysMany 35 = .ok (.goto (-31), 3) := zo_167 (by decide +kernel)
theorem dX12_waysMany_38 : decode cX12_waysMany 38 = .ok (.iload_n 1, 1) := zo_27 (by decide +kernel)
theorem dX12_waysMany_39 : decode cX12_waysMany 39 = .ok (.ireturn, 1) := zo_172 (by decide +kernel)
theorem dX12_setsWay_0 : decode cX12_setsWay 0 = .ok (.iload_n 1, 1) := zo_27 (by decide +kernel)
theorem dX12_setsWay_1 : decode cX12_setsWay 1 = .ok (.istore_n 2, 1) := zo_61 (by decide +kernel)
theorem dX12_setsWay_2 : decode cX12_setsWay 2 = .ok (.aload_n 0, 1) := zo_42 (by decide +kernel)
theorem dX12_setsWay_3 : decode cX12_setsWay 3 = .ok (.getfield 169, 3) := zo_180 (by decide +kernel)
theorem dX12_setsWay_6 : decode cX12_setsWay 6 = .ok (.iconst 1, 1) := zo_4 (by decide +kernel)
theorem dX12_setsWay_7 : decode cX12_setsWay 7 = .ok (.isub, 1) := zo_100 (by decide +kernel)
theorem dX12_setsWay_8 : decode cX12_setsWay 8 = .ok (.istore_n 3, 1) := zo_62 (by decide +kernel)
theorem dX12_setsWay_9 : decode cX12_setsWay 9 = .ok (.iload_n 3, 1) := zo_29 (by decide +kernel)
theorem dX12_setsWay_10 : decode cX12_setsWay 10 = .ok (.ifCond .lt 54, 3) := zo_155 (by decide +kernel)
theorem dX12_setsWay_13 : decode cX12_setsWay 13 = .ok (.aload_n 0, 1) := zo_42 (by decide +kernel)
theorem dX12_setsWay_14 : decode cX12_setsWay 14 = .ok (.getfield 20, 3) := zo_180 (by decide +kernel)
theorem dX12_setsWay_17 : decode cX12_setsWay 17 = .ok (.iload_n 3, 1) := zo_29 (by decide +kernel)
theorem dX12_setsWay_18 : decode cX12_setsWay 18 = .ok (.aload_n 0, 1) := zo_42 (by decide +kernel)
theorem dX12_setsWay_19 : decode cX12_setsWay 19 = .ok (.iload_n 3, 1) := zo_29 (by decide +kernel)
theorem dX12_setsWay_20 : decode cX12_setsWay 20 = .ok (.invokevirtual 223, 3) := zo_182 (by decide +kernel)
theorem dX12_setsWay_23 : decode cX12_setsWay 23 = .ok (.ifCond .eq 13, 3) := zo_153 (by decide +kernel)
theorem dX12_setsWay_26 : decode cX12_setsWay 26 = .ok (.iload_n 2, 1) := zo_28 (by decide +kernel)
theorem dX12_setsWay_27 : decode cX12_setsWay 27 = .ok (.aload_n 0, 1) := zo_42 (by decide +kernel)
theorem dX12_setsWay_28 : decode cX12_setsWay 28 = .ok (.iload_n 3, 1) := zo_29 (by decide +kernel)
theorem dX12_setsWay_29 : decode cX12_setsWay 29 = .ok (.invokevirtual 181, 3) := zo_182 (by decide +kernel)
theorem dX12_setsWay_32 : decode cX12_setsWay 32 = .ok (.irem, 1) := zo_112 (by decide +kernel)
theorem dX12_setsWay_33 : decode cX12_setsWay 33 = .ok (.goto 4, 3) := zo_167 (by decide +kernel)
theorem dX12_setsWay_36 : decode cX12_setsWay 36 = .ok (.iconst 0, 1) := zo_3 (by decide +kernel)
theorem dX12_setsWay_37 : decode cX12_setsWay 37 = .ok (.iastore, 1) := zo_79 (by decide +kernel)
theorem dX12_setsWay_38 : decode cX12_setsWay 38 = .ok (.iload_n 2, 1) := zo_28 (by decide +kernel)
theorem dX12_setsWay_39 : decode cX12_setsWay 39 = .ok (.aload_n 0, 1) := zo_42 (by decide +kernel)
theorem dX12_setsWay_40 : decode cX12_setsWay 40 = .ok (.iload_n 3, 1) := zo_29 (by decide +kernel)
theorem dX12_setsWay_41 : decode cX12_setsWay 41 = .ok (.invokevirtual 223, 3) := zo_182 (by decide +kernel)
theorem dX12_setsWay_44 : decode cX12_setsWay 44 = .ok (.ifCond .eq 11, 3) := zo_153 (by decide +kernel)
theorem dX12_setsWay_47 : decode cX12_setsWay 47 = .ok (.aload_n 0, 1) := zo_42 (by decide +kernel)
theorem dX12_setsWay_48 : decode cX12_setsWay 48 = .ok (.iload_n 3, 1) := zo_29 (by decide +kernel)
theorem dX12_setsWay_49 : decode cX12_setsWay 49 = .ok (.invokevirtual 181, 3) := zo_182 (by decide +kernel)
theorem dX12_setsWay_52 : decode cX12_setsWay 52 = .ok (.goto 4, 3) := zo_167 (by decide +kernel)
theorem dX12_setsWay_55 : decode cX12_setsWay 55 = .ok (.iconst 1, 1) := zo_4 (by decide +kernel)
theorem dX12_setsWay_56 : decode cX12_setsWay 56 = .ok (.idiv, 1) := zo_108 (by decide +kernel)
theorem dX12_setsWay_57 : decode cX12_setsWay 57 = .ok (.istore_n 2, 1) := zo_61 (by decide +kernel)
theorem dX12_setsWay_58 : decode cX12_setsWay 58 = .ok (.iinc 3 (-1), 3) := zo_132 (by decide +kernel)
theorem dX12_setsWay_61 : decode cX12_setsWay 61 = .ok (.goto (-52), 3) := zo_167 (by decide +kernel)
theorem dX12_setsWay_64 : decode cX12_setsWay 64 = .ok (.return_, 1) := zo_177 (by decide +kernel)
set_option maxHeartbeats 4000000 in
set_option maxRecDepth 100000 in
/-- puts -/
theorem c_m_puts (l : Launch) (T : zTy) (mo : Nat) (m_all : Nat) (m_has : Nat) (i_size : Int32) (i_next : Int32) (i_where : Int32) (i_token : Int32) (i_number : Int32) (i_word : Int32) (i_wrong : Int32) (i_farCrossing : Int32) (m_read : Nat) (i_z0 : Int32) (i_crossings : Int32) (i_inns : Int32) (m_posts : Nat) (m_shut : Nat) (m_here : Nat) (i_steps : Int32) (i_done : Int32) (i_at : Int32) (i_gone : Int32) (m_was : Nat) (m_came : Nat) (m_seenAt : Nat) (m_rowWorth : Nat) (m_farBy : Nat) (m_used : Nat) (i_everywhere : Int32) (i_again0 : Int32) (i_d0 : Int32) (i_never : Int32) (i_firstCame : Int32) (i_longRun : Int32) (i_moved : Int32) (i_crowd : Int32) (i_l0 : Int32) (i_fitMany : Int32) (i_fitLeast : Int32) (i_fitMost : Int32) (m_fitPost : Nat) (m_fitEnd : Nat) (m_keptPosts : Nat) (i_x0 : Int32) (f_was : Nat → Int32) (c_ : Int32) : zMv l T yX12_puts cX12_puts 3 1 0 0 [.ref mo, .int c_] [[zO11 mo m_all m_has i_size i_next i_where i_token i_number i_word i_wrong i_farCrossing m_read i_z0 i_crossings i_inns m_posts m_shut m_here i_steps i_done i_at i_gone m_was m_came m_seenAt m_rowWorth m_farBy m_used i_everywhere i_again0 i_d0 i_never i_firstCame i_longRun i_moved i_crowd i_l0 i_fitMany i_fitLeast i_fitMost m_fitPost m_fitEnd m_keptPosts i_x0], [zAr T 0 m_was 7 f_was]] (fun bs => ∃ (g_was : Nat → Int32), bs = [[zO11 mo m_all m_has i_size i_next i_where i_token i_number i_word i_wrong i_farCrossing m_read i_z0 i_crossings i_inns m_posts m_shut m_here i_steps i_done c_ 0 m_was m_came m_seenAt m_rowWorth m_farBy m_used i_everywhere i_again0 i_d0 i_never i_firstCame i_longRun i_moved i_crowd i_l0 i_fitMany i_fitLeast i_fitMost m_fitPost m_fitEnd m_keptPosts i_x0], [zAr T 0 m_was 7 g_was]]) := by
  refine zMv_of (own := RX12) (by decide) rfl (Nat.le_of_ble_eq_true rfl) ?_
  intro p e s m args below meth c A ls C hr hlocks hnm hAe G hl
  refine zHide (fun Qz_ hQz_ => ?_)
  have hx := C.1
  have hb := C.2.1
  have hl : lv_has ls 3 [(0, .ref mo), (1, .int c_)] := hl
  refine lv_aload_n hx hb dX12_puts_0 rfl (lv_at hl 0 rfl) ?_
  refine lv_iload_n hx hb dX12_puts_1 rfl (lv_at hl 1 rfl) ?_
  refine z_put C G clX12 0 rfl 19 (by decide) m_fl_RX12_202 rfl rfl rfl (Nat.le_of_ble_eq_true rfl) dX12_puts_2 (fun H locs G => ?_)
  have G : zS T A s.heap s [[zO11 mo m_all m_has i_size i_next i_where i_token i_number i_word i_wrong i_farCrossing m_read i_z0 i_crossings i_inns m_posts m_shut m_here i_steps i_done c_ i_gone m_was m_came m_seenAt m_rowWorth m_farBy m_used i_everywhere i_again0 i_d0 i_never i_firstCame i_longRun i_moved i_crowd i_l0 i_fitMany i_fitLeast i_fitMost m_fitPost m_fitEnd m_keptPosts i_x0], [zAr T 0 m_was 7 f_was]] _ _ := G
  refine lv_aload_n hx hb dX12_puts_5 rfl (lv_at hl 0 rfl) ?_
  refine lv_iconst (v := 0) hx hb dX12_puts_6 (by decide) ?_
  refine z_put C G clX12 0 rfl 20 (by decide) m_fl_RX12_208 rfl rfl rfl (Nat.le_of_ble_eq_true rfl) dX12_puts_7 (fun H locs G => ?_)
  have G : zS T A s.heap s [[zO11 mo m_all m_has i_size i_next i_where i_token i_number i_word i_wrong i_farCrossing m_read i_z0 i_crossings i_inns m_posts m_shut m_here i_steps i_done c_ 0 m_was m_came m_seenAt m_rowWorth m_farBy m_used i_everywhere i_again0 i_d0 i_never i_firstCame i_longRun i_moved i_crowd i_l0 i_fitMany i_fitLeast i_fitMost m_fitPost m_fitEnd m_keptPosts i_x0], [zAr T 0 m_was 7 f_was]] _ _ := G
  refine lv_iconst (v := 0) hx hb dX12_puts_10 (by decide) ?_
  refine lv_istore_n (lv' := [(2, .int 0), (0, .ref mo), (1, .int c_)]) hx hb dX12_puts_11 rfl hl (by decide) (zLvf_h rfl) (fun ls hl => ?_)
  refine z_lp2 (T := T) 12 (fun (i : Nat) (x : Nat → Int32) => [[zO11 mo m_all m_has i_size i_next i_where i_token i_number i_word i_wrong i_farCrossing m_read i_z0 i_crossings i_inns m_posts m_shut m_here i_steps i_done c_ 0 m_was m_came m_seenAt m_rowWorth m_farBy m_used i_everywhere i_again0 i_d0 i_never i_firstCame i_longRun i_moved i_crowd i_l0 i_fitMany i_fitLeast i_fitMost m_fitPost m_fitEnd m_keptPosts i_x0], [zAr T 0 m_was 7 x]]) (fun (i : Nat) (x : Nat → Int32) => [(2, .int (nI i)), (0, .ref mo), (1, .int c_)]) (fun (i : Nat) (x : Nat → Int32) => i ≤ 7) (fun (i : Nat) (x : Nat → Int32) => 7 - i) ?_ 0 f_was (show 0 ≤ 7 from by omega) G (lv_sub hl [0, 1, 2] rfl)
  intro i x hi ih_12 H locs ls G hl
  replace hi : i ≤ 7 := hi
  replace G : zS T A s.heap s [[zO11 mo m_all m_has i_size i_next i_where i_token i_number i_word i_wrong i_farCrossing m_read i_z0 i_crossings i_inns m_posts m_shut m_here i_steps i_done c_ 0 m_was m_came m_seenAt m_rowWorth m_farBy m_used i_everywhere i_again0 i_d0 i_never i_firstCame i_longRun i_moved i_crowd i_l0 i_fitMany i_fitLeast i_fitMost m_fitPost m_fitEnd m_keptPosts i_x0], [zAr T 0 m_was 7 x]] _ _ := G
  replace hl : lv_has ls 3 [(2, .int (nI i)), (0, .ref mo), (1, .int c_)] := hl
  refine lv_iload_n hx hb dX12_puts_12 rfl (lv_at hl 0 rfl) ?_
  refine lv_bipush (v := 7) hx hb dX12_puts_13 (by decide) ?_
  refine lv_icmp_ge (tgt := 40) hx hb dX12_puts_15 (by decide) (fun c_1 => ?_) (fun c_1 => ?_)
  · have c_1n : 7 ≤ i := (nI_leI (a := 7) (b := i) (by omega) (by omega)).mp c_1
    exact z_back hQz_ (z_vret C hr hlocks G (Nat.le_of_ble_eq_true rfl) (Nat.le_of_ble_eq_true rfl) dX12_puts_40 ⟨x, rfl⟩)
  · have c_1n : ¬ 7 ≤ i := fun q => c_1 ((nI_leI (a := 7) (b := i) (by omega) (by omega)).mpr q)
    refine lv_aload_n hx hb dX12_puts_18 rfl (lv_at hl 1 rfl) ?_
    refine z_get C G clX12 0 rfl 21 (by decide) m_fl_RX12_29 rfl dX12_puts_19 ?_
    refine lv_iload_n hx hb dX12_puts_22 rfl (lv_at hl 0 rfl) ?_
    refine lv_iload_n hx hb dX12_puts_23 rfl (lv_at hl 0 rfl) ?_
    refine lv_iload_n hx hb dX12_puts_24 rfl (lv_at hl 2 rfl) ?_
    refine lv_icmp_ne (tgt := 32) hx hb dX12_puts_25 (by decide) (fun c_2 => ?_) (fun c_2 => ?_)
    · have c_2n : ¬ (i : Int) = c_.toInt := fun q => c_2 ((fa_eq _ _).mpr (by rw [nI_toInt (n := i) (by omega)]; exact q))
      refine lv_iconst (v := 0) hx hb dX12_puts_32 (by decide) ?_
      refine z_ist C G 1 rfl (vp_in_nI (by omega) (by decide)) dX12_puts_33 (fun H locs G => ?_)
      rw [nI_clamp (by omega)] at G
      have G : zS T A s.heap s [[zO11 mo m_all m_has i_size i_next i_where i_token i_number i_word i_wrong i_farCrossing m_read i_z0 i_crossings i_inns m_posts m_shut m_here i_steps i_done c_ 0 m_was m_came m_seenAt m_rowWorth m_farBy m_used i_everywhere i_again0 i_d0 i_never i_firstCame i_longRun i_moved i_crowd i_l0 i_fitMany i_fitLeast i_fitMost m_fitPost m_fitEnd m_keptPosts i_x0], [zAr T 0 m_was 7 (upd x i 0)]] _ _ := G
      refine lv_iinc (v := nI (i + 1)) (lv' := [(2, .int (nI (i + 1))), (0, .ref mo), (1, .int c_)]) hx hb dX12_puts_34 hl (k := 0) rfl (z_inc i 1) (by decide) (zLvf_h rfl) (fun ls hl => ?_)
      refine lv_goto (tgt := 12) hx hb dX12_puts_37 (by decide) ?_
      exact ih_12 (i + 1) (upd x i 0) (show (i + 1) ≤ 7 from by omega) (show 7 - (i + 1) < 7 - i from by omega) _ _ ls G (lv_sub hl [0, 1, 2] rfl)
    · have c_2n : (i : Int) = c_.toInt := by have q := (fa_eq _ _).mp c_2; rw [nI_toInt (n := i) (by omega)] at q; exact q
      refine lv_iconst (v := 1) hx hb dX12_puts_28 (by decide) ?_
      refine lv_goto (tgt := 33) hx hb dX12_puts_29 (by decide) ?_
      refine z_ist C G 1 rfl (vp_in_nI (by omega) (by decide)) dX12_puts_33 (fun H locs G => ?_)
      rw [nI_clamp (by omega)] at G
      have G : zS T A s.heap s [[zO11 mo m_all m_has i_size i_next i_where i_token i_number i_word i_wrong i_farCrossing m_read i_z0 i_crossings i_inns m_posts m_shut m_here i_steps i_done c_ 0 m_was m_came m_seenAt m_rowWorth m_farBy m_used i_everywhere i_again0 i_d0 i_never i_firstCame i_longRun i_moved i_crowd i_l0 i_fitMany i_fitLeast i_fitMost m_fitPost m_fitEnd m_keptPosts i_x0], [zAr T 0 m_was 7 (upd x i 1)]] _ _ := G
      refine lv_iinc (v := nI (i + 1)) (lv' := [(2, .int (nI (i + 1))), (0, .ref mo), (1, .int c_)]) hx hb dX12_puts_34 hl (k := 0) rfl (z_inc i 1) (by decide) (zLvf_h rfl) (fun ls hl => ?_)
      refine lv_goto (tgt := 12) hx hb dX12_puts_37 (by decide) ?_
      exact ih_12 (i + 1) (upd x i 1) (show (i + 1) ≤ 7 from by omega) (show 7 - (i + 1) < 7 - i from by omega) _ _ ls G (lv_sub hl [0, 1, 2] rfl)
set_option maxHeartbeats 4000000 in
set_option maxRecDepth 100000 in
/-- c_m_walks -/
theorem c_m_walks (l : Launch) (T : zTy) (mo : Nat) (m_all : Nat) (m_has : Nat) (i_size : Int32) (i_next : Int32) (i_where : Int32) (i_token : Int32) (i_number : Int32) (i_word : Int32) (i_wrong : Int32) (i_farCrossing : Int32) (m_read : Nat) (i_z0 : Int32) (i_crossings : Int32) (i_inns : Int32) (m_posts : Nat) (m_shut : Nat) (m_here : Nat) (i_steps : Int32) (i_done : Int32) (i_at : Int32) (i_gone : Int32) (m_was : Nat) (m_came : Nat) (m_seenAt : Nat) (m_rowWorth : Nat) (m_farBy : Nat) (m_used : Nat) (i_everywhere : Int32) (i_again0 : Int32) (i_d0 : Int32) (i_never : Int32) (i_firstCame : Int32) (i_longRun : Int32) (i_moved : Int32) (i_crowd : Int32) (i_l0 : Int32) (i_fitMany : Int32) (i_fitLeast : Int32) (i_fitMost : Int32) (m_fitPost : Nat) (m_fitEnd : Nat) (m_keptPosts : Nat) (i_x0 : Int32) (f_all : Nat → Int32) (f_posts : Nat → Int32) (f_shut : Nat → Int32) (f_was : Nat → Int32) (c_ : Int32) (hL : zML f_all i_z0 i_crossings) (hc0 : 0 ≤ c_.toInt) (hc6 : c_.toInt ≤ 6) (hP : zMP f_posts) : zMi l T yX12_walks cX12_walks 3 (some .boolean) 4 0 0 [.ref mo, .int c_] [[zO11 mo m_all m_has i_size i_next i_where i_token i_number i_word i_wrong i_farCrossing m_read i_z0 i_crossings i_inns m_posts m_shut m_here i_steps i_done i_at i_gone m_was m_came m_seenAt m_rowWorth m_farBy m_used i_everywhere i_again0 i_d0 i_never i_firstCame i_longRun i_moved i_crowd i_l0 i_fitMany i_fitLeast i_fitMost m_fitPost m_fitEnd m_keptPosts i_x0], [zAr T 0 m_all 3952 f_all], [zAr T 0 m_posts 7 f_posts], [zAr T 0 m_shut 7 f_shut], [zAr T 0 m_was 7 f_was]] (fun (r : Int32) bs => ∃ (j_at : Int32) (j_gone : Int32) (g_posts : Nat → Int32) (g_was : Nat → Int32), bs = [[zO11 mo m_all m_has i_size i_next i_where i_token i_number i_word i_wrong i_farCrossing m_read i_z0 i_crossings i_inns m_posts m_shut m_here i_steps i_done j_at j_gone m_was m_came m_seenAt m_rowWorth m_farBy m_used i_everywhere i_again0 i_d0 i_never i_firstCame i_longRun i_moved i_crowd i_l0 i_fitMany i_fitLeast i_fitMost m_fitPost m_fitEnd m_keptPosts i_x0], [zAr T 0 m_all 3952 f_all], [zAr T 0 m_posts 7 g_posts], [zAr T 0 m_shut 7 f_shut], [zAr T 0 m_was 7 g_was]] ∧ (r = 0 ∨ r = 1) ∧ 0 ≤ j_gone.toInt ∧ j_gone.toInt ≤ 499 ∧ zMP g_posts ∧ 0 ≤ j_at.toInt ∧ j_at.toInt ≤ 6) := by
  refine zMi_of (own := RX12) (by decide) rfl (Nat.le_of_ble_eq_true rfl) ?_
  intro p e s m args below meth c A ls C hr hlocks hnm hAe G hl
  refine zHide (fun Qz_ hQz_ => ?_)
  have hx := C.1
  have hb := C.2.1
  have hl : lv_has ls 3 [(0, .ref mo), (1, .int c_)] := hl
  have hz := hL.1
  have hcr := hL.cr
  refine lv_aload_n hx hb dX12_walks_0 rfl (lv_at hl 0 rfl) ?_
  refine lv_iload_n hx hb dX12_walks_1 rfl (lv_at hl 1 rfl) ?_
  refine z_Vv (bc := [[zO11 mo m_all m_has i_size i_next i_where i_token i_number i_word i_wrong i_farCrossing m_read i_z0 i_crossings i_inns m_posts m_shut m_here i_steps i_done i_at i_gone m_was m_came m_seenAt m_rowWorth m_farBy m_used i_everywhere i_again0 i_d0 i_never i_firstCame i_longRun i_moved i_crowd i_l0 i_fitMany i_fitLeast i_fitMost m_fitPost m_fitEnd m_keptPosts i_x0], [zAr T 0 m_was 7 f_was]]) (br := [[zAr T 0 m_all 3952 f_all], [zAr T 0 m_posts 7 f_posts], [zAr T 0 m_shut 7 f_shut]]) (As := [.int c_]) (rest := []) C G (c_m_puts l T mo m_all m_has i_size i_next i_where i_token i_number i_word i_wrong i_farCrossing m_read i_z0 i_crossings i_inns m_posts m_shut m_here i_steps i_done i_at i_gone m_was m_came m_seenAt m_rowWorth m_farBy m_used i_everywhere i_again0 i_d0 i_never i_firstCame i_longRun i_moved i_crowd i_l0 i_fitMany i_fitLeast i_fitMost m_fitPost m_fitEnd m_keptPosts i_x0 f_was c_) (kV_RX12_211 C.2.2.2.2 (Nat.le_of_ble_eq_true rfl) (Nat.le_of_ble_eq_true rfl)) [0, 4] [0, 3] rfl rfl (ci := 11) (qc := (RX12, TX12, 43)) rfl rfl (List.mem_flatten.mpr ⟨_, List.mem_of_getElem? (i := 0) rfl, List.mem_cons_self⟩) rfl rfl hl.1 dX12_walks_2 (Nat.le_of_ble_eq_true rfl) (Nat.le_of_ble_eq_true rfl) (fun b1 H locs hw G => ?_)
  refine zEx1 hw ?_
  intro g_was_1 hbs9
  clear hw
  subst hbs9
  have G : zS T A s.heap s [[zAr T 0 m_all 3952 f_all], [zAr T 0 m_posts 7 f_posts], [zAr T 0 m_shut 7 f_shut], [zO11 mo m_all m_has i_size i_next i_where i_token i_number i_word i_wrong i_farCrossing m_read i_z0 i_crossings i_inns m_posts m_shut m_here i_steps i_done c_ 0 m_was m_came m_seenAt m_rowWorth m_farBy m_used i_everywhere i_again0 i_d0 i_never i_firstCame i_longRun i_moved i_crowd i_l0 i_fitMany i_fitLeast i_fitMost m_fitPost m_fitEnd m_keptPosts i_x0], [zAr T 0 m_was 7 g_was_1]] _ _ := G
  refine lv_iconst (v := 1) hx hb dX12_walks_5 (by decide) ?_
  refine lv_istore_n (lv' := [(2, .int 1), (0, .ref mo), (1, .int c_)]) hx hb dX12_walks_6 rfl hl (by decide) (zLvf_h rfl) (fun ls hl => ?_)
  refine z_lp5 (T := T) 7 (fun (x : Int32) (y : Int32) (b : Int32) (xp : Nat → Int32) (xw : Nat → Int32) => [[zAr T 0 m_all 3952 f_all], [zAr T 0 m_posts 7 xp], [zAr T 0 m_shut 7 f_shut], [zO11 mo m_all m_has i_size i_next i_where i_token i_number i_word i_wrong i_farCrossing m_read i_z0 i_crossings i_inns m_posts m_shut m_here i_steps i_done x y m_was m_came m_seenAt m_rowWorth m_farBy m_used i_everywhere i_again0 i_d0 i_never i_firstCame i_longRun i_moved i_crowd i_l0 i_fitMany i_fitLeast i_fitMost m_fitPost m_fitEnd m_keptPosts i_x0], [zAr T 0 m_was 7 xw]]) (fun (x : Int32) (y : Int32) (b : Int32) (xp : Nat → Int32) (xw : Nat → Int32) => [(2, .int b), (0, .ref mo), (1, .int c_)]) (fun (x : Int32) (y : Int32) (b : Int32) (xp : Nat → Int32) (xw : Nat → Int32) => 0 ≤ x.toInt ∧ x.toInt ≤ 6 ∧ 0 ≤ y.toInt ∧ y.toInt ≤ 499 ∧ zMP xp ∧ 0 ≤ b.toInt ∧ b.toInt ≤ 1) (fun (x : Int32) (y : Int32) (b : Int32) (xp : Nat → Int32) (xw : Nat → Int32) => (499 - y.toInt).toNat + b.toInt.toNat) ?_ c_ 0 1 f_posts g_was_1 (show 0 ≤ c_.toInt ∧ c_.toInt ≤ 6 ∧ 0 ≤ (0 : Int32).toInt ∧ (0 : Int32).toInt ≤ 499 ∧ zMP f_posts ∧ 0 ≤ (1 : Int32).toInt ∧ (1 : Int32).toInt ≤ 1 from ⟨by omega, by omega, by decide, by decide, hP, by decide⟩) G (lv_sub hl [0, 1, 2] rfl)
  intro x y b xp xw hI9 ih_7 H locs ls G hl
  replace hI9 : 0 ≤ x.toInt ∧ x.toInt ≤ 6 ∧ 0 ≤ y.toInt ∧ y.toInt ≤ 499 ∧ zMP xp ∧ 0 ≤ b.toInt ∧ b.toInt ≤ 1 := hI9
  refine zAn6 hI9 ?_
  intro hx0 hx6 hy0 hy9 hQ hb0
  clear hI9
  replace G : zS T A s.heap s [[zAr T 0 m_all 3952 f_all], [zAr T 0 m_posts 7 xp], [zAr T 0 m_shut 7 f_shut], [zO11 mo m_all m_has i_size i_next i_where i_token i_number i_word i_wrong i_farCrossing m_read i_z0 i_crossings i_inns m_posts m_shut m_here i_steps i_done x y m_was m_came m_seenAt m_rowWorth m_farBy m_used i_everywhere i_again0 i_d0 i_never i_firstCame i_longRun i_moved i_crowd i_l0 i_fitMany i_fitLeast i_fitMost m_fitPost m_fitEnd m_keptPosts i_x0], [zAr T 0 m_was 7 xw]] _ _ := G
  replace hl : lv_has ls 3 [(2, .int b), (0, .ref mo), (1, .int c_)] := hl
  refine lv_aload_n hx hb dX12_walks_7 rfl (lv_at hl 1 rfl) ?_
  refine z_get C G clX12 3 rfl 20 (by decide) m_fl_RX12_208 rfl dX12_walks_8 ?_
  refine lv_sipush (v := 499) hx hb dX12_walks_11 (by decide) ?_
  refine lv_icmp_ge (tgt := 29) hx hb dX12_walks_14 (by decide) (fun c_3 => ?_) (fun c_3 => ?_)
  · have c_3n : (499 : Int) ≤ y.toInt := (fa_le _ _).mp c_3
    refine lv_aload_n hx hb dX12_walks_29 rfl (lv_at hl 1 rfl) ?_
    refine lv_aload_n hx hb dX12_walks_30 rfl (lv_at hl 1 rfl) ?_
    refine z_get C G clX12 3 rfl 19 (by decide) m_fl_RX12_202 rfl dX12_walks_31 ?_
    refine z_Vi (bc := [[zO11 mo m_all m_has i_size i_next i_where i_token i_number i_word i_wrong i_farCrossing m_read i_z0 i_crossings i_inns m_posts m_shut m_here i_steps i_done x y m_was m_came m_seenAt m_rowWorth m_farBy m_used i_everywhere i_again0 i_d0 i_never i_firstCame i_longRun i_moved i_crowd i_l0 i_fitMany i_fitLeast i_fitMost m_fitPost m_fitEnd m_keptPosts i_x0]]) (br := [[zAr T 0 m_all 3952 f_all], [zAr T 0 m_posts 7 xp], [zAr T 0 m_shut 7 f_shut], [zAr T 0 m_was 7 xw]]) (As := [.int x]) (rest := []) C G (c_m_isInn l T mo m_all m_has i_size i_next i_where i_token i_number i_word i_wrong i_farCrossing m_read i_z0 i_crossings i_inns m_posts m_shut m_here i_steps i_done x y m_was m_came m_seenAt m_rowWorth m_farBy m_used i_everywhere i_again0 i_d0 i_never i_firstCame i_longRun i_moved i_crowd i_l0 i_fitMany i_fitLeast i_fitMost m_fitPost m_fitEnd m_keptPosts i_x0 x) (kV_RX12_178 C.2.2.2.2 (Nat.le_of_ble_eq_true rfl) (Nat.le_of_ble_eq_true rfl)) [3] [3] rfl rfl (ci := 11) (qc := (RX12, TX12, 43)) rfl rfl (List.mem_flatten.mpr ⟨_, List.mem_of_getElem? (i := 0) rfl, List.mem_cons_self⟩) rfl rfl hl.1 dX12_walks_34 (Nat.le_of_ble_eq_true rfl) (Nat.le_of_ble_eq_true rfl) (fun r_5 b1 H locs hw G => ?_)
    refine zAn2 hw ?_
    intro hbs9 hc_4
    clear hw
    subst hbs9
    have G : zS T A s.heap s [[zAr T 0 m_all 3952 f_all], [zAr T 0 m_posts 7 xp], [zAr T 0 m_shut 7 f_shut], [zAr T 0 m_was 7 xw], [zO11 mo m_all m_has i_size i_next i_where i_token i_number i_word i_wrong i_farCrossing m_read i_z0 i_crossings i_inns m_posts m_shut m_here i_steps i_done x y m_was m_came m_seenAt m_rowWorth m_farBy m_used i_everywhere i_again0 i_d0 i_never i_firstCame i_longRun i_moved i_crowd i_l0 i_fitMany i_fitLeast i_fitMost m_fitPost m_fitEnd m_keptPosts i_x0]] _ _ := G
    rcases hc_4 with ⟨rfl, h_6⟩ | ⟨rfl, h_7⟩
    · have h_6 : zInn i_inns x := h_6
      have G := G.sub (bs' := [[zO11 mo m_all m_has i_size i_next i_where i_token i_number i_word i_wrong i_farCrossing m_read i_z0 i_crossings i_inns m_posts m_shut m_here i_steps i_done x y m_was m_came m_seenAt m_rowWorth m_farBy m_used i_everywhere i_again0 i_d0 i_never i_firstCame i_longRun i_moved i_crowd i_l0 i_fitMany i_fitLeast i_fitMost m_fitPost m_fitEnd m_keptPosts i_x0], [zAr T 0 m_all 3952 f_all], [zAr T 0 m_posts 7 xp], [zAr T 0 m_shut 7 f_shut], [zAr T 0 m_was 7 xw]]) [4, 0, 1, 2, 3] rfl
      exact z_back hQz_ (z_zret C hr hlocks G (Nat.le_of_ble_eq_true rfl) (Nat.le_of_ble_eq_true rfl) dX12_walks_37 rfl ⟨x, y, xp, xw, rfl, (Or.inr rfl), (by first | with_reducible assumption | omega | trivial | assumption), (by first | with_reducible assumption | omega | trivial | assumption), (by first | with_reducible assumption | omega | trivial | assumption), (by first | with_reducible assumption | omega | trivial | assumption), (by first | with_reducible assumption | omega | trivial | assumption)⟩)
    · have h_7 : ¬ zInn i_inns x := h_7
      have G := G.sub (bs' := [[zO11 mo m_all m_has i_size i_next i_where i_token i_number i_word i_wrong i_farCrossing m_read i_z0 i_crossings i_inns m_posts m_shut m_here i_steps i_done x y m_was m_came m_seenAt m_rowWorth m_farBy m_used i_everywhere i_again0 i_d0 i_never i_firstCame i_longRun i_moved i_crowd i_l0 i_fitMany i_fitLeast i_fitMost m_fitPost m_fitEnd m_keptPosts i_x0], [zAr T 0 m_all 3952 f_all], [zAr T 0 m_posts 7 xp], [zAr T 0 m_shut 7 f_shut], [zAr T 0 m_was 7 xw]]) [4, 0, 1, 2, 3] rfl
      exact z_back hQz_ (z_zret C hr hlocks G (Nat.le_of_ble_eq_true rfl) (Nat.le_of_ble_eq_true rfl) dX12_walks_37 rfl ⟨x, y, xp, xw, rfl, (Or.inl rfl), (by first | with_reducible assumption | omega | trivial | assumption), (by first | with_reducible assumption | omega | trivial | assumption), (by first | with_reducible assumption | omega | trivial | assumption), (by first | with_reducible assumption | omega | trivial | assumption), (by first | with_reducible assumption | omega | trivial | assumption)⟩)
  · have c_3n : ¬ (499 : Int) ≤ y.toInt := fun q => c_3 ((fa_le _ _).mpr q)
    refine lv_iload_n hx hb dX12_walks_17 rfl (lv_at hl 0 rfl) ?_
    refine lv_if_eq (tgt := 29) hx hb dX12_walks_18 (by decide) (fun c_8 => ?_) (fun c_8 => ?_)
    · have c_8n : b.toInt = (0 : Int) := (fa_eq _ _).mp c_8
      refine lv_aload_n hx hb dX12_walks_29 rfl (lv_at hl 1 rfl) ?_
      refine lv_aload_n hx hb dX12_walks_30 rfl (lv_at hl 1 rfl) ?_
      refine z_get C G clX12 3 rfl 19 (by decide) m_fl_RX12_202 rfl dX12_walks_31 ?_
      refine z_Vi (bc := [[zO11 mo m_all m_has i_size i_next i_where i_token i_number i_word i_wrong i_farCrossing m_read i_z0 i_crossings i_inns m_posts m_shut m_here i_steps i_done x y m_was m_came m_seenAt m_rowWorth m_farBy m_used i_everywhere i_again0 i_d0 i_never i_firstCame i_longRun i_moved i_crowd i_l0 i_fitMany i_fitLeast i_fitMost m_fitPost m_fitEnd m_keptPosts i_x0]]) (br := [[zAr T 0 m_all 3952 f_all], [zAr T 0 m_posts 7 xp], [zAr T 0 m_shut 7 f_shut], [zAr T 0 m_was 7 xw]]) (As := [.int x]) (rest := []) C G (c_m_isInn l T mo m_all m_has i_size i_next i_where i_token i_number i_word i_wrong i_farCrossing m_read i_z0 i_crossings i_inns m_posts m_shut m_here i_steps i_done x y m_was m_came m_seenAt m_rowWorth m_farBy m_used i_everywhere i_again0 i_d0 i_never i_firstCame i_longRun i_moved i_crowd i_l0 i_fitMany i_fitLeast i_fitMost m_fitPost m_fitEnd m_keptPosts i_x0 x) (kV_RX12_178 C.2.2.2.2 (Nat.le_of_ble_eq_true rfl) (Nat.le_of_ble_eq_true rfl)) [3] [3] rfl rfl (ci := 11) (qc := (RX12, TX12, 43)) rfl rfl (List.mem_flatten.mpr ⟨_, List.mem_of_getElem? (i := 0) rfl, List.mem_cons_self⟩) rfl rfl hl.1 dX12_walks_34 (Nat.le_of_ble_eq_true rfl) (Nat.le_of_ble_eq_true rfl) (fun r_10 b1 H locs hw G => ?_)
      refine zAn2 hw ?_
      intro hbs9 hc_9
      clear hw
      subst hbs9
      have G : zS T A s.heap s [[zAr T 0 m_all 3952 f_all], [zAr T 0 m_posts 7 xp], [zAr T 0 m_shut 7 f_shut], [zAr T 0 m_was 7 xw], [zO11 mo m_all m_has i_size i_next i_where i_token i_number i_word i_wrong i_farCrossing m_read i_z0 i_crossings i_inns m_posts m_shut m_here i_steps i_done x y m_was m_came m_seenAt m_rowWorth m_farBy m_used i_everywhere i_again0 i_d0 i_never i_firstCame i_longRun i_moved i_crowd i_l0 i_fitMany i_fitLeast i_fitMost m_fitPost m_fitEnd m_keptPosts i_x0]] _ _ := G
      rcases hc_9 with ⟨rfl, h_11⟩ | ⟨rfl, h_12⟩
      · have h_11 : zInn i_inns x := h_11
        have G := G.sub (bs' := [[zO11 mo m_all m_has i_size i_next i_where i_token i_number i_word i_wrong i_farCrossing m_read i_z0 i_crossings i_inns m_posts m_shut m_here i_steps i_done x y m_was m_came m_seenAt m_rowWorth m_farBy m_used i_everywhere i_again0 i_d0 i_never i_firstCame i_longRun i_moved i_crowd i_l0 i_fitMany i_fitLeast i_fitMost m_fitPost m_fitEnd m_keptPosts i_x0], [zAr T 0 m_all 3952 f_all], [zAr T 0 m_posts 7 xp], [zAr T 0 m_shut 7 f_shut], [zAr T 0 m_was 7 xw]]) [4, 0, 1, 2, 3] rfl
        exact z_back hQz_ (z_zret C hr hlocks G (Nat.le_of_ble_eq_true rfl) (Nat.le_of_ble_eq_true rfl) dX12_walks_37 rfl ⟨x, y, xp, xw, rfl, (Or.inr rfl), (by first | with_reducible assumption | omega | trivial | assumption), (by first | with_reducible assumption | omega | trivial | assumption), (by first | with_reducible assumption | omega | trivial | assumption), (by first | with_reducible assumption | omega | trivial | assumption), (by first | with_reducible assumption | omega | trivial | assumption)⟩)
      · have h_12 : ¬ zInn i_inns x := h_12
        have G := G.sub (bs' := [[zO11 mo m_all m_has i_size i_next i_where i_token i_number i_word i_wrong i_farCrossing m_read i_z0 i_crossings i_inns m_posts m_shut m_here i_steps i_done x y m_was m_came m_seenAt m_rowWorth m_farBy m_used i_everywhere i_again0 i_d0 i_never i_firstCame i_longRun i_moved i_crowd i_l0 i_fitMany i_fitLeast i_fitMost m_fitPost m_fitEnd m_keptPosts i_x0], [zAr T 0 m_all 3952 f_all], [zAr T 0 m_posts 7 xp], [zAr T 0 m_shut 7 f_shut], [zAr T 0 m_was 7 xw]]) [4, 0, 1, 2, 3] rfl
        exact z_back hQz_ (z_zret C hr hlocks G (Nat.le_of_ble_eq_true rfl) (Nat.le_of_ble_eq_true rfl) dX12_walks_37 rfl ⟨x, y, xp, xw, rfl, (Or.inl rfl), (by first | with_reducible assumption | omega | trivial | assumption), (by first | with_reducible assumption | omega | trivial | assumption), (by first | with_reducible assumption | omega | trivial | assumption), (by first | with_reducible assumption | omega | trivial | assumption), (by first | with_reducible assumption | omega | trivial | assumption)⟩)
    · have c_8n : ¬ b.toInt = (0 : Int) := fun q => c_8 ((fa_eq _ _).mpr q)
      refine lv_aload_n hx hb dX12_walks_21 rfl (lv_at hl 1 rfl) ?_
      refine z_Vi (bc := [[zO11 mo m_all m_has i_size i_next i_where i_token i_number i_word i_wrong i_farCrossing m_read i_z0 i_crossings i_inns m_posts m_shut m_here i_steps i_done x y m_was m_came m_seenAt m_rowWorth m_farBy m_used i_everywhere i_again0 i_d0 i_never i_firstCame i_longRun i_moved i_crowd i_l0 i_fitMany i_fitLeast i_fitMost m_fitPost m_fitEnd m_keptPosts i_x0], [zAr T 0 m_all 3952 f_all], [zAr T 0 m_posts 7 xp], [zAr T 0 m_shut 7 f_shut], [zAr T 0 m_was 7 xw]]) (br := []) (As := []) (rest := []) C G (c_m_stepsOn l T mo m_all m_has i_size i_next i_where i_token i_number i_word i_wrong i_farCrossing m_read i_z0 i_crossings i_inns m_posts m_shut m_here i_steps i_done x y m_was m_came m_seenAt m_rowWorth m_farBy m_used i_everywhere i_again0 i_d0 i_never i_firstCame i_longRun i_moved i_crowd i_l0 i_fitMany i_fitLeast i_fitMost m_fitPost m_fitEnd m_keptPosts i_x0 f_all xp f_shut xw (by first | with_reducible assumption | with_reducible rfl | omega | assumption | rfl | decide) (by first | with_reducible assumption | with_reducible rfl | omega | assumption | rfl | decide) (by first | with_reducible assumption | with_reducible rfl | omega | assumption | rfl | decide) (by first | with_reducible assumption | with_reducible rfl | omega | assumption | rfl | decide) (by first | with_reducible assumption | with_reducible rfl | omega | assumption | rfl | decide) (by first | with_reducible assumption | with_reducible rfl | omega | assumption | rfl | decide)) (kV_RX12_214 C.2.2.2.2 (Nat.le_of_ble_eq_true rfl) (Nat.le_of_ble_eq_true rfl)) [3, 0, 1, 2, 4] [0, 0, 0, 0, 0] rfl rfl (ci := 11) (qc := (RX12, TX12, 43)) rfl rfl (List.mem_flatten.mpr ⟨_, List.mem_of_getElem? (i := 0) rfl, List.mem_cons_self⟩) rfl rfl hl.1 dX12_walks_22 (Nat.le_of_ble_eq_true rfl) (Nat.le_of_ble_eq_true rfl) (fun r_21 b1 H locs hw G => ?_)
      refine zEx4 hw ?_
      intro j_at_13 j_gone_14 g_posts_15 g_was_16
      refine zCu5 ?_
      intro hbs9 h_17 h_18 h_19 hc_20
      clear hw
      subst hbs9
      have G : zS T A s.heap s [[zO11 mo m_all m_has i_size i_next i_where i_token i_number i_word i_wrong i_farCrossing m_read i_z0 i_crossings i_inns m_posts m_shut m_here i_steps i_done j_at_13 j_gone_14 m_was m_came m_seenAt m_rowWorth m_farBy m_used i_everywhere i_again0 i_d0 i_never i_firstCame i_longRun i_moved i_crowd i_l0 i_fitMany i_fitLeast i_fitMost m_fitPost m_fitEnd m_keptPosts i_x0], [zAr T 0 m_all 3952 f_all], [zAr T 0 m_posts 7 g_posts_15], [zAr T 0 m_shut 7 f_shut], [zAr T 0 m_was 7 g_was_16]] _ _ := G
      rcases hc_20 with ⟨rfl, h_22⟩ | ⟨rfl, h_23⟩
      · have h_22 : j_gone_14.toInt = y.toInt + 1 := h_22
        refine lv_istore_n (lv' := [(2, .int 1), (0, .ref mo), (1, .int c_)]) hx hb dX12_walks_25 rfl hl (by decide) (zLvf_h rfl) (fun ls hl => ?_)
        refine lv_goto (tgt := 7) hx hb dX12_walks_26 (by decide) ?_
        have G := G.sub (bs' := [[zAr T 0 m_all 3952 f_all], [zAr T 0 m_posts 7 g_posts_15], [zAr T 0 m_shut 7 f_shut], [zO11 mo m_all m_has i_size i_next i_where i_token i_number i_word i_wrong i_farCrossing m_read i_z0 i_crossings i_inns m_posts m_shut m_here i_steps i_done j_at_13 j_gone_14 m_was m_came m_seenAt m_rowWorth m_farBy m_used i_everywhere i_again0 i_d0 i_never i_firstCame i_longRun i_moved i_crowd i_l0 i_fitMany i_fitLeast i_fitMost m_fitPost m_fitEnd m_keptPosts i_x0], [zAr T 0 m_was 7 g_was_16]]) [1, 2, 3, 0, 4] rfl
        exact ih_7 j_at_13 j_gone_14 1 g_posts_15 g_was_16 (show 0 ≤ j_at_13.toInt ∧ j_at_13.toInt ≤ 6 ∧ 0 ≤ j_gone_14.toInt ∧ j_gone_14.toInt ≤ 499 ∧ zMP g_posts_15 ∧ 0 ≤ (1 : Int32).toInt ∧ (1 : Int32).toInt ≤ 1 from ⟨by omega, by omega, by omega, by omega, (by first | with_reducible assumption | assumption), by decide⟩) (show (499 - j_gone_14.toInt).toNat + (1 : Int32).toInt.toNat < (499 - y.toInt).toNat + b.toInt.toNat from by have e1 : (1 : Int32).toInt = 1 := rfl; have e0 : (0 : Int32).toInt = 0 := rfl; omega) _ _ ls G (lv_sub hl [0, 1, 2] rfl)
      · have h_23 : j_gone_14.toInt = y.toInt := h_23
        refine lv_istore_n (lv' := [(2, .int 0), (0, .ref mo), (1, .int c_)]) hx hb dX12_walks_25 rfl hl (by decide) (zLvf_h rfl) (fun ls hl => ?_)
        refine lv_goto (tgt := 7) hx hb dX12_walks_26 (by decide) ?_
        have G := G.sub (bs' := [[zAr T 0 m_all 3952 f_all], [zAr T 0 m_posts 7 g_posts_15], [zAr T 0 m_shut 7 f_shut], [zO11 mo m_all m_has i_size i_next i_where i_token i_number i_word i_wrong i_farCrossing m_read i_z0 i_crossings i_inns m_posts m_shut m_here i_steps i_done j_at_13 j_gone_14 m_was m_came m_seenAt m_rowWorth m_farBy m_used i_everywhere i_again0 i_d0 i_never i_firstCame i_longRun i_moved i_crowd i_l0 i_fitMany i_fitLeast i_fitMost m_fitPost m_fitEnd m_keptPosts i_x0], [zAr T 0 m_was 7 g_was_16]]) [1, 2, 3, 0, 4] rfl
        exact ih_7 j_at_13 j_gone_14 0 g_posts_15 g_was_16 (show 0 ≤ j_at_13.toInt ∧ j_at_13.toInt ≤ 6 ∧ 0 ≤ j_gone_14.toInt ∧ j_gone_14.toInt ≤ 499 ∧ zMP g_posts_15 ∧ 0 ≤ (0 : Int32).toInt ∧ (0 : Int32).toInt ≤ 1 from ⟨by omega, by omega, by omega, by omega, (by first | with_reducible assumption | assumption), by decide⟩) (show (499 - j_gone_14.toInt).toNat + (0 : Int32).toInt.toNat < (499 - y.toInt).toNat + b.toInt.toNat from by have e1 : (1 : Int32).toInt = 1 := rfl; have e0 : (0 : Int32).toInt = 0 := rfl; omega) _ _ ls G (lv_sub hl [0, 1, 2] rfl)
theorem zQ4 {v p : Int32} {i : Nat} (hi : i < 7) (hv : 0 ≤ v.toInt ∧ v.toInt < ((4 ^ i : Nat) : Int)) (hp : 0 ≤ p.toInt ∧ p.toInt ≤ 3) : 0 ≤ (4 * v + p).toInt ∧ (4 * v + p).toInt < ((4 ^ (i + 1) : Nat) : Int) := by
  have h1 : 4 ^ i ≤ 4 ^ 6 := Nat.pow_le_pow_right (by decide) (by omega)
  have h2 : 4 ^ (i + 1) = 4 ^ i * 4 := Nat.pow_succ ..
  have h3 : (4 : Nat) ^ 6 = 4096 := by decide
  have e4 : (4 : Int32).toInt = 4 := rfl
  have a : (4 * v).toInt = 4 * v.toInt := by
    have := z_imulI (x := 4) (y := v) (by rw [e4]; omega) (by rw [e4]; omega)
    rw [this, e4]
  have b : (4 * v + p).toInt = 4 * v.toInt + p.toInt := by
    rw [z_iaddI (x := 4 * v) (y := p) (by omega) (by omega), a]
  omega
theorem zP4 {i : Nat} (hi : i ≤ 7) : ((4 ^ i : Nat) : Int) ≤ 16384 := by
  have h1 : 4 ^ i ≤ 4 ^ 7 := Nat.pow_le_pow_right (by decide) hi
  have h3 : (4 : Nat) ^ 7 = 16384 := by decide
  omega
theorem zW4 {n r : Int32} {i : Nat} (hi : i < 7) (hn : 1 ≤ n.toInt ∧ n.toInt ≤ ((4 ^ i : Nat) : Int)) (h1 : 1 ≤ r.toInt) (h4 : r.toInt ≤ 4) : 1 ≤ (n * r).toInt ∧ (n * r).toInt ≤ ((4 ^ (i + 1) : Nat) : Int) := by
  have p1 : 4 ^ i ≤ 4 ^ 6 := Nat.pow_le_pow_right (by decide) (by omega)
  have p2 : 4 ^ (i + 1) = 4 ^ i * 4 := Nat.pow_succ ..
  have p3 : (4 : Nat) ^ 6 = 4096 := by decide
  have c : r.toInt = 1 ∨ r.toInt = 2 ∨ r.toInt = 3 ∨ r.toInt = 4 := by omega
  have e : (n * r).toInt = n.toInt * r.toInt := by
    rcases c with c | c | c | c <;> exact z_imulI (by rw [c]; omega) (by rw [c]; omega)
  rw [e]
  rcases c with c | c | c | c <;> rw [c] <;> omega
theorem zDiv0 {x y : Int32} (hx : 0 ≤ x.toInt) (hy : 0 < y.toInt) : 0 ≤ (x / y).toInt := by
  have hb := Int32.toInt_lt x
  have q : 0 ≤ x.toInt.tdiv y.toInt := Int.tdiv_nonneg hx (by omega)
  have q2 : x.toInt.tdiv y.toInt ≤ x.toInt := Int.tdiv_le_self _ hx
  rw [Int32.toInt_div, Int.bmod_eq_of_le (by omega) (by omega)]
  exact q
theorem zRemA {x y : Int32} (hy : ¬ y.toInt = 0) : (x - x / y * y).toInt.natAbs < y.toInt.natAbs := by
  rw [rem_toInt, Int.natAbs_tmod]
  exact Nat.mod_lt _ (by omega)
set_option maxHeartbeats 4000000 in
set_option maxRecDepth 100000 in
/-- c_m_postsNow -/
theorem c_m_postsNow (l : Launch) (T : zTy) (mo : Nat) (m_all : Nat) (m_has : Nat) (i_size : Int32) (i_next : Int32) (i_where : Int32) (i_token : Int32) (i_number : Int32) (i_word : Int32) (i_wrong : Int32) (i_farCrossing : Int32) (m_read : Nat) (i_z0 : Int32) (i_crossings : Int32) (i_inns : Int32) (m_posts : Nat) (m_shut : Nat) (m_here : Nat) (i_steps : Int32) (i_done : Int32) (i_at : Int32) (i_gone : Int32) (m_was : Nat) (m_came : Nat) (m_seenAt : Nat) (m_rowWorth : Nat) (m_farBy : Nat) (m_used : Nat) (i_everywhere : Int32) (i_again0 : Int32) (i_d0 : Int32) (i_never : Int32) (i_firstCame : Int32) (i_longRun : Int32) (i_moved : Int32) (i_crowd : Int32) (i_l0 : Int32) (i_fitMany : Int32) (i_fitLeast : Int32) (i_fitMost : Int32) (m_fitPost : Nat) (m_fitEnd : Nat) (m_keptPosts : Nat) (i_x0 : Int32) (f_posts : Nat → Int32) (hcr : 0 ≤ i_crossings.toInt ∧ i_crossings.toInt ≤ 7) (hP : zMP f_posts) : zMi l T yX12_postsNow cX12_postsNow 3 (some .int) 1 0 0 [.ref mo] [[zO11 mo m_all m_has i_size i_next i_where i_token i_number i_word i_wrong i_farCrossing m_read i_z0 i_crossings i_inns m_posts m_shut m_here i_steps i_done i_at i_gone m_was m_came m_seenAt m_rowWorth m_farBy m_used i_everywhere i_again0 i_d0 i_never i_firstCame i_longRun i_moved i_crowd i_l0 i_fitMany i_fitLeast i_fitMost m_fitPost m_fitEnd m_keptPosts i_x0], [zAr T 0 m_posts 7 f_posts]] (fun (r : Int32) bs => bs = [[zO11 mo m_all m_has i_size i_next i_where i_token i_number i_word i_wrong i_farCrossing m_read i_z0 i_crossings i_inns m_posts m_shut m_here i_steps i_done i_at i_gone m_was m_came m_seenAt m_rowWorth m_farBy m_used i_everywhere i_again0 i_d0 i_never i_firstCame i_longRun i_moved i_crowd i_l0 i_fitMany i_fitLeast i_fitMost m_fitPost m_fitEnd m_keptPosts i_x0], [zAr T 0 m_posts 7 f_posts]] ∧ 0 ≤ r.toInt ∧ r.toInt < 16384) := by
  refine zMi_of (own := RX12) (by decide) rfl (Nat.le_of_ble_eq_true rfl) ?_
  intro p e s m args below meth c A ls C hr hlocks hnm hAe G hl
  refine zHide (fun Qz_ hQz_ => ?_)
  have hx := C.1
  have hb := C.2.1
  have hl : lv_has ls 3 [(0, .ref mo)] := hl
  refine lv_iconst (v := 0) hx hb dX12_postsNow_0 (by decide) ?_
  refine lv_istore_n (lv' := [(1, .int 0), (0, .ref mo)]) hx hb dX12_postsNow_1 rfl hl (by decide) (zLvf_h rfl) (fun ls hl => ?_)
  refine lv_iconst (v := 0) hx hb dX12_postsNow_2 (by decide) ?_
  refine lv_istore_n (lv' := [(2, .int 0), (1, .int 0), (0, .ref mo)]) hx hb dX12_postsNow_3 rfl hl (by decide) (zLvf_h rfl) (fun ls hl => ?_)
  refine z_lp2 (T := T) 4 (fun (i : Nat) (v : Int32) => [[zO11 mo m_all m_has i_size i_next i_where i_token i_number i_word i_wrong i_farCrossing m_read i_z0 i_crossings i_inns m_posts m_shut m_here i_steps i_done i_at i_gone m_was m_came m_seenAt m_rowWorth m_farBy m_used i_everywhere i_again0 i_d0 i_never i_firstCame i_longRun i_moved i_crowd i_l0 i_fitMany i_fitLeast i_fitMost m_fitPost m_fitEnd m_keptPosts i_x0], [zAr T 0 m_posts 7 f_posts]]) (fun (i : Nat) (v : Int32) => [(2, .int (nI i)), (1, .int v), (0, .ref mo)]) (fun (i : Nat) (v : Int32) => i ≤ 7 ∧ 0 ≤ v.toInt ∧ v.toInt < ((4 ^ i : Nat) : Int)) (fun (i : Nat) (v : Int32) => 7 - i) ?_ 0 0 (show 0 ≤ 7 ∧ 0 ≤ (0 : Int32).toInt ∧ (0 : Int32).toInt < ((4 ^ 0 : Nat) : Int) from ⟨by omega, (by decide)⟩) G (lv_sub hl [0, 1, 2] rfl)
  intro i v hI9 ih_4 H locs ls G hl
  replace hI9 : i ≤ 7 ∧ 0 ≤ v.toInt ∧ v.toInt < ((4 ^ i : Nat) : Int) := hI9
  refine zAn2 hI9 ?_
  intro hi hv
  clear hI9
  replace G : zS T A s.heap s [[zO11 mo m_all m_has i_size i_next i_where i_token i_number i_word i_wrong i_farCrossing m_read i_z0 i_crossings i_inns m_posts m_shut m_here i_steps i_done i_at i_gone m_was m_came m_seenAt m_rowWorth m_farBy m_used i_everywhere i_again0 i_d0 i_never i_firstCame i_longRun i_moved i_crowd i_l0 i_fitMany i_fitLeast i_fitMost m_fitPost m_fitEnd m_keptPosts i_x0], [zAr T 0 m_posts 7 f_posts]] _ _ := G
  replace hl : lv_has ls 3 [(2, .int (nI i)), (1, .int v), (0, .ref mo)] := hl
  refine lv_iload_n hx hb dX12_postsNow_4 rfl (lv_at hl 0 rfl) ?_
  refine lv_aload_n hx hb dX12_postsNow_5 rfl (lv_at hl 2 rfl) ?_
  refine z_get C G clX12 0 rfl 12 (by decide) m_fl_RX12_169 rfl dX12_postsNow_6 ?_
  refine lv_icmp_ge (tgt := 29) hx hb dX12_postsNow_9 (by decide) (fun c_1 => ?_) (fun c_1 => ?_)
  · have c_1n : i_crossings.toInt ≤ (i : Int) := by have q := (fa_le _ _).mp c_1; rw [nI_toInt (n := i) (by omega)] at q; exact q
    refine lv_iload_n hx hb dX12_postsNow_29 rfl (lv_at hl 1 rfl) ?_
    exact z_back hQz_ (z_iret C hr hlocks G (Nat.le_of_ble_eq_true rfl) (Nat.le_of_ble_eq_true rfl) dX12_postsNow_30 ⟨rfl, hv.1, (Int.lt_of_lt_of_le hv.2 (zP4 (by omega)))⟩)
  · have c_1n : ¬ i_crossings.toInt ≤ (i : Int) := fun q => c_1 ((fa_le _ _).mpr (by rw [nI_toInt (n := i) (by omega)]; exact q))
    refine lv_iconst (v := 4) hx hb dX12_postsNow_12 (by decide) ?_
    refine lv_iload_n hx hb dX12_postsNow_13 rfl (lv_at hl 1 rfl) ?_
    refine lv_imul hx hb dX12_postsNow_14 ?_
    refine lv_aload_n hx hb dX12_postsNow_15 rfl (lv_at hl 2 rfl) ?_
    refine z_get C G clX12 0 rfl 14 (by decide) m_fl_RX12_20 rfl dX12_postsNow_16 ?_
    refine lv_iload_n hx hb dX12_postsNow_19 rfl (lv_at hl 0 rfl) ?_
    refine z_ild C G 1 rfl (vp_in_nI (by omega) (by decide)) dX12_postsNow_20 ?_
    refine lv_topi (fun v_2 ev_2 => ?_)
    rw [nI_clamp (by omega)] at ev_2
    subst ev_2
    refine lv_iadd hx hb dX12_postsNow_21 ?_
    refine lv_istore_n (lv' := [(1, .int ((4 * v) + (f_posts i))), (2, .int (nI i)), (0, .ref mo)]) hx hb dX12_postsNow_22 rfl hl (by decide) (zLvf_h rfl) (fun ls hl => ?_)
    refine lv_iinc (v := nI (i + 1)) (lv' := [(2, .int (nI (i + 1))), (1, .int ((4 * v) + (f_posts i))), (0, .ref mo)]) hx hb dX12_postsNow_23 hl (k := 1) rfl (z_inc i 1) (by decide) (zLvf_h rfl) (fun ls hl => ?_)
    refine lv_goto (tgt := 4) hx hb dX12_postsNow_26 (by decide) ?_
    exact ih_4 (i + 1) ((4 * v) + (f_posts i)) (show (i + 1) ≤ 7 ∧ 0 ≤ ((4 * v) + (f_posts i)).toInt ∧ ((4 * v) + (f_posts i)).toInt < ((4 ^ (i + 1) : Nat) : Int) from ⟨by omega, (zQ4 (by omega) hv (hP i (by omega)))⟩) (show 7 - (i + 1) < 7 - i from by omega) _ _ ls G (lv_sub hl [0, 1, 2] rfl)
set_option maxHeartbeats 4000000 in
set_option maxRecDepth 100000 in
/-- c_m_waysMany -/
theorem c_m_waysMany (l : Launch) (T : zTy) (mo : Nat) (m_all : Nat) (m_has : Nat) (i_size : Int32) (i_next : Int32) (i_where : Int32) (i_token : Int32) (i_number : Int32) (i_word : Int32) (i_wrong : Int32) (i_farCrossing : Int32) (m_read : Nat) (i_z0 : Int32) (i_crossings : Int32) (i_inns : Int32) (m_posts : Nat) (m_shut : Nat) (m_here : Nat) (i_steps : Int32) (i_done : Int32) (i_at : Int32) (i_gone : Int32) (m_was : Nat) (m_came : Nat) (m_seenAt : Nat) (m_rowWorth : Nat) (m_farBy : Nat) (m_used : Nat) (i_everywhere : Int32) (i_again0 : Int32) (i_d0 : Int32) (i_never : Int32) (i_firstCame : Int32) (i_longRun : Int32) (i_moved : Int32) (i_crowd : Int32) (i_l0 : Int32) (i_fitMany : Int32) (i_fitLeast : Int32) (i_fitMost : Int32) (m_fitPost : Nat) (m_fitEnd : Nat) (m_keptPosts : Nat) (i_x0 : Int32) (f_all : Nat → Int32) (hL : zML f_all i_z0 i_crossings) : zMi l T yX12_waysMany cX12_waysMany 3 (some .int) 3 0 0 [.ref mo] [[zO11 mo m_all m_has i_size i_next i_where i_token i_number i_word i_wrong i_farCrossing m_read i_z0 i_crossings i_inns m_posts m_shut m_here i_steps i_done i_at i_gone m_was m_came m_seenAt m_rowWorth m_farBy m_used i_everywhere i_again0 i_d0 i_never i_firstCame i_longRun i_moved i_crowd i_l0 i_fitMany i_fitLeast i_fitMost m_fitPost m_fitEnd m_keptPosts i_x0], [zAr T 0 m_all 3952 f_all]] (fun (r : Int32) bs => bs = [[zO11 mo m_all m_has i_size i_next i_where i_token i_number i_word i_wrong i_farCrossing m_read i_z0 i_crossings i_inns m_posts m_shut m_here i_steps i_done i_at i_gone m_was m_came m_seenAt m_rowWorth m_farBy m_used i_everywhere i_again0 i_d0 i_never i_firstCame i_longRun i_moved i_crowd i_l0 i_fitMany i_fitLeast i_fitMost m_fitPost m_fitEnd m_keptPosts i_x0], [zAr T 0 m_all 3952 f_all]] ∧ 1 ≤ r.toInt ∧ r.toInt ≤ 16384) := by
  refine zMi_of (own := RX12) (by decide) rfl (Nat.le_of_ble_eq_true rfl) ?_
  intro p e s m args below meth c A ls C hr hlocks hnm hAe G hl
  refine zHide (fun Qz_ hQz_ => ?_)
  have hx := C.1
  have hb := C.2.1
  have hl : lv_has ls 3 [(0, .ref mo)] := hl
  have hz := hL.1
  have hcr := hL.cr
  refine lv_iconst (v := 1) hx hb dX12_waysMany_0 (by decide) ?_
  refine lv_istore_n (lv' := [(1, .int 1), (0, .ref mo)]) hx hb dX12_waysMany_1 rfl hl (by decide) (zLvf_h rfl) (fun ls hl => ?_)
  refine lv_iconst (v := 0) hx hb dX12_waysMany_2 (by decide) ?_
  refine lv_istore_n (lv' := [(2, .int 0), (1, .int 1), (0, .ref mo)]) hx hb dX12_waysMany_3 rfl hl (by decide) (zLvf_h rfl) (fun ls hl => ?_)
  refine z_lp2 (T := T) 4 (fun (i : Nat) (v : Int32) => [[zO11 mo m_all m_has i_size i_next i_where i_token i_number i_word i_wrong i_farCrossing m_read i_z0 i_crossings i_inns m_posts m_shut m_here i_steps i_done i_at i_gone m_was m_came m_seenAt m_rowWorth m_farBy m_used i_everywhere i_again0 i_d0 i_never i_firstCame i_longRun i_moved i_crowd i_l0 i_fitMany i_fitLeast i_fitMost m_fitPost m_fitEnd m_keptPosts i_x0], [zAr T 0 m_all 3952 f_all]]) (fun (i : Nat) (v : Int32) => [(2, .int (nI i)), (1, .int v), (0, .ref mo)]) (fun (i : Nat) (v : Int32) => i ≤ 7 ∧ 1 ≤ v.toInt ∧ v.toInt ≤ ((4 ^ i : Nat) : Int)) (fun (i : Nat) (v : Int32) => 7 - i) ?_ 0 1 (show 0 ≤ 7 ∧ 1 ≤ (1 : Int32).toInt ∧ (1 : Int32).toInt ≤ ((4 ^ 0 : Nat) : Int) from ⟨by omega, (by decide)⟩) G (lv_sub hl [0, 1, 2] rfl)
  intro i v hI9 ih_4 H locs ls G hl
  replace hI9 : i ≤ 7 ∧ 1 ≤ v.toInt ∧ v.toInt ≤ ((4 ^ i : Nat) : Int) := hI9
  refine zAn2 hI9 ?_
  intro hi hv
  clear hI9
  replace G : zS T A s.heap s [[zO11 mo m_all m_has i_size i_next i_where i_token i_number i_word i_wrong i_farCrossing m_read i_z0 i_crossings i_inns m_posts m_shut m_here i_steps i_done i_at i_gone m_was m_came m_seenAt m_rowWorth m_farBy m_used i_everywhere i_again0 i_d0 i_never i_firstCame i_longRun i_moved i_crowd i_l0 i_fitMany i_fitLeast i_fitMost m_fitPost m_fitEnd m_keptPosts i_x0], [zAr T 0 m_all 3952 f_all]] _ _ := G
  replace hl : lv_has ls 3 [(2, .int (nI i)), (1, .int v), (0, .ref mo)] := hl
  refine lv_iload_n hx hb dX12_waysMany_4 rfl (lv_at hl 0 rfl) ?_
  refine lv_aload_n hx hb dX12_waysMany_5 rfl (lv_at hl 2 rfl) ?_
  refine z_get C G clX12 0 rfl 12 (by decide) m_fl_RX12_169 rfl dX12_waysMany_6 ?_
  refine lv_icmp_ge (tgt := 38) hx hb dX12_waysMany_9 (by decide) (fun c_1 => ?_) (fun c_1 => ?_)
  · have c_1n : i_crossings.toInt ≤ (i : Int) := by have q := (fa_le _ _).mp c_1; rw [nI_toInt (n := i) (by omega)] at q; exact q
    refine lv_iload_n hx hb dX12_waysMany_38 rfl (lv_at hl 1 rfl) ?_
    exact z_back hQz_ (z_iret C hr hlocks G (Nat.le_of_ble_eq_true rfl) (Nat.le_of_ble_eq_true rfl) dX12_waysMany_39 ⟨rfl, hv.1, (Int.le_trans hv.2 (zP4 (by omega)))⟩)
  · have c_1n : ¬ i_crossings.toInt ≤ (i : Int) := fun q => c_1 ((fa_le _ _).mpr (by rw [nI_toInt (n := i) (by omega)]; exact q))
    refine lv_iload_n hx hb dX12_waysMany_12 rfl (lv_at hl 1 rfl) ?_
    refine lv_aload_n hx hb dX12_waysMany_13 rfl (lv_at hl 2 rfl) ?_
    refine lv_iload_n hx hb dX12_waysMany_14 rfl (lv_at hl 0 rfl) ?_
    have ti_2 : (nI i).toInt = ((i : Nat) : Int) := nI_toInt (by omega)
    refine z_Vi (bc := [[zO11 mo m_all m_has i_size i_next i_where i_token i_number i_word i_wrong i_farCrossing m_read i_z0 i_crossings i_inns m_posts m_shut m_here i_steps i_done i_at i_gone m_was m_came m_seenAt m_rowWorth m_farBy m_used i_everywhere i_again0 i_d0 i_never i_firstCame i_longRun i_moved i_crowd i_l0 i_fitMany i_fitLeast i_fitMost m_fitPost m_fitEnd m_keptPosts i_x0], [zAr T 0 m_all 3952 f_all]]) (br := []) (As := [.int (nI i)]) (rest := [.int v]) C G (c_m_isFree l T mo m_all m_has i_size i_next i_where i_token i_number i_word i_wrong i_farCrossing m_read i_z0 i_crossings i_inns m_posts m_shut m_here i_steps i_done i_at i_gone m_was m_came m_seenAt m_rowWorth m_farBy m_used i_everywhere i_again0 i_d0 i_never i_firstCame i_longRun i_moved i_crowd i_l0 i_fitMany i_fitLeast i_fitMost m_fitPost m_fitEnd m_keptPosts i_x0 f_all (nI i) (by first | with_reducible assumption | with_reducible rfl | omega | assumption | rfl | decide) (by first | with_reducible assumption | with_reducible rfl | omega | assumption | rfl | decide) (by first | with_reducible assumption | with_reducible rfl | omega | assumption | rfl | decide)) (kV_RX12_223 C.2.2.2.2 (Nat.le_of_ble_eq_true rfl) (Nat.le_of_ble_eq_true rfl)) [0, 1] [0, 0] rfl rfl (ci := 11) (qc := (RX12, TX12, 43)) rfl rfl (List.mem_flatten.mpr ⟨_, List.mem_of_getElem? (i := 0) rfl, List.mem_cons_self⟩) rfl rfl hl.1 dX12_waysMany_15 (Nat.le_of_ble_eq_true rfl) (Nat.le_of_ble_eq_true rfl) (fun r_4 b1 H locs hw G => ?_)
    refine zAn2 hw ?_
    intro hbs9 hc_3
    clear hw
    subst hbs9
    have G : zS T A s.heap s [[zO11 mo m_all m_has i_size i_next i_where i_token i_number i_word i_wrong i_farCrossing m_read i_z0 i_crossings i_inns m_posts m_shut m_here i_steps i_done i_at i_gone m_was m_came m_seenAt m_rowWorth m_farBy m_used i_everywhere i_again0 i_d0 i_never i_firstCame i_longRun i_moved i_crowd i_l0 i_fitMany i_fitLeast i_fitMost m_fitPost m_fitEnd m_keptPosts i_x0], [zAr T 0 m_all 3952 f_all]] _ _ := G
    rcases hc_3 with ⟨rfl, h_5, h_6⟩ | ⟨rfl, h_7⟩
    · have h_5 : ¬ zInn i_inns (nI i) := h_5
      have h_6 : 0 < (zRd f_all i_z0 (nI i)).toInt := h_6
      refine lv_if_eq (tgt := 29) hx hb dX12_waysMany_18 (by decide) (fun q => absurd q (by decide)) (fun _ => ?_)
      refine lv_aload_n hx hb dX12_waysMany_21 rfl (lv_at hl 2 rfl) ?_
      refine lv_iload_n hx hb dX12_waysMany_22 rfl (lv_at hl 0 rfl) ?_
      have ti_8 : (nI i).toInt = ((i : Nat) : Int) := nI_toInt (by omega)
      refine z_Vi (bc := [[zO11 mo m_all m_has i_size i_next i_where i_token i_number i_word i_wrong i_farCrossing m_read i_z0 i_crossings i_inns m_posts m_shut m_here i_steps i_done i_at i_gone m_was m_came m_seenAt m_rowWorth m_farBy m_used i_everywhere i_again0 i_d0 i_never i_firstCame i_longRun i_moved i_crowd i_l0 i_fitMany i_fitLeast i_fitMost m_fitPost m_fitEnd m_keptPosts i_x0], [zAr T 0 m_all 3952 f_all]]) (br := []) (As := [.int (nI i)]) (rest := [.int v]) C G (c_m_roadsOf l T mo m_all m_has i_size i_next i_where i_token i_number i_word i_wrong i_farCrossing m_read i_z0 i_crossings i_inns m_posts m_shut m_here i_steps i_done i_at i_gone m_was m_came m_seenAt m_rowWorth m_farBy m_used i_everywhere i_again0 i_d0 i_never i_firstCame i_longRun i_moved i_crowd i_l0 i_fitMany i_fitLeast i_fitMost m_fitPost m_fitEnd m_keptPosts i_x0 f_all (nI i) (by first | with_reducible assumption | with_reducible rfl | omega | assumption | rfl | decide) (by first | with_reducible assumption | with_reducible rfl | omega | assumption | rfl | decide) (by first | with_reducible assumption | with_reducible rfl | omega | assumption | rfl | decide)) (kV_RX12_181 C.2.2.2.2 (Nat.le_of_ble_eq_true rfl) (Nat.le_of_ble_eq_true rfl)) [0, 1] [0, 0] rfl rfl (ci := 11) (qc := (RX12, TX12, 43)) rfl rfl (List.mem_flatten.mpr ⟨_, List.mem_of_getElem? (i := 0) rfl, List.mem_cons_self⟩) rfl rfl hl.1 dX12_waysMany_23 (Nat.le_of_ble_eq_true rfl) (Nat.le_of_ble_eq_true rfl) (fun r_12 b1 H locs hw G => ?_)
      refine zAn4 hw ?_
      intro hbs9 h_9 h_10 h_11
      clear hw
      subst hbs9
      have G : zS T A s.heap s [[zO11 mo m_all m_has i_size i_next i_where i_token i_number i_word i_wrong i_farCrossing m_read i_z0 i_crossings i_inns m_posts m_shut m_here i_steps i_done i_at i_gone m_was m_came m_seenAt m_rowWorth m_farBy m_used i_everywhere i_again0 i_d0 i_never i_firstCame i_longRun i_moved i_crowd i_l0 i_fitMany i_fitLeast i_fitMost m_fitPost m_fitEnd m_keptPosts i_x0], [zAr T 0 m_all 3952 f_all]] _ _ := G
      subst h_9
      refine lv_goto (tgt := 30) hx hb dX12_waysMany_26 (by decide) ?_
      refine lv_imul hx hb dX12_waysMany_30 ?_
      refine lv_istore_n (lv' := [(1, .int (v * (zRd f_all i_z0 (nI i)))), (2, .int (nI i)), (0, .ref mo)]) hx hb dX12_waysMany_31 rfl hl (by decide) (zLvf_h rfl) (fun ls hl => ?_)
      refine lv_iinc (v := nI (i + 1)) (lv' := [(2, .int (nI (i + 1))), (1, .int (v * (zRd f_all i_z0 (nI i)))), (0, .ref mo)]) hx hb dX12_waysMany_32 hl (k := 1) rfl (z_inc i 1) (by decide) (zLvf_h rfl) (fun ls hl => ?_)
      refine lv_goto (tgt := 4) hx hb dX12_waysMany_35 (by decide) ?_
      exact ih_4 (i + 1) (v * (zRd f_all i_z0 (nI i))) (show (i + 1) ≤ 7 ∧ 1 ≤ (v * (zRd f_all i_z0 (nI i))).toInt ∧ (v * (zRd f_all i_z0 (nI i))).toInt ≤ ((4 ^ (i + 1) : Nat) : Int) from ⟨by omega, (zW4 (r := (zRd f_all i_z0 (nI i))) (by omega) hv (by omega) (by omega))⟩) (show 7 - (i + 1) < 7 - i from by omega) _ _ ls G (lv_sub hl [0, 1, 2] rfl)
    · have h_7 : (zInn i_inns (nI i) ∨ (zRd f_all i_z0 (nI i)).toInt ≤ 0) := h_7
      refine lv_if_eq (tgt := 29) hx hb dX12_waysMany_18 (by decide) (fun _ => ?_) (fun q => absurd (by decide) q)
      refine lv_iconst (v := 1) hx hb dX12_waysMany_29 (by decide) ?_
      refine lv_imul hx hb dX12_waysMany_30 ?_
      refine lv_istore_n (lv' := [(1, .int (v * 1)), (2, .int (nI i)), (0, .ref mo)]) hx hb dX12_waysMany_31 rfl hl (by decide) (zLvf_h rfl) (fun ls hl => ?_)
      refine lv_iinc (v := nI (i + 1)) (lv' := [(2, .int (nI (i + 1))), (1, .int (v * 1)), (0, .ref mo)]) hx hb dX12_waysMany_32 hl (k := 1) rfl (z_inc i 1) (by decide) (zLvf_h rfl) (fun ls hl => ?_)
      refine lv_goto (tgt := 4) hx hb dX12_waysMany_35 (by decide) ?_
      exact ih_4 (i + 1) (v * 1) (show (i + 1) ≤ 7 ∧ 1 ≤ (v * 1).toInt ∧ (v * 1).toInt ≤ ((4 ^ (i + 1) : Nat) : Int) from ⟨by omega, (zW4 (r := 1) (by omega) hv (by decide) (by decide))⟩) (show 7 - (i + 1) < 7 - i from by omega) _ _ ls G (lv_sub hl [0, 1, 2] rfl)
set_option maxHeartbeats 4000000 in
set_option maxRecDepth 100000 in
/-- c_m_setsWay -/
theorem c_m_setsWay (l : Launch) (T : zTy) (mo : Nat) (m_all : Nat) (m_has : Nat) (i_size : Int32) (i_next : Int32) (i_where : Int32) (i_token : Int32) (i_number : Int32) (i_word : Int32) (i_wrong : Int32) (i_farCrossing : Int32) (m_read : Nat) (i_z0 : Int32) (i_crossings : Int32) (i_inns : Int32) (m_posts : Nat) (m_shut : Nat) (m_here : Nat) (i_steps : Int32) (i_done : Int32) (i_at : Int32) (i_gone : Int32) (m_was : Nat) (m_came : Nat) (m_seenAt : Nat) (m_rowWorth : Nat) (m_farBy : Nat) (m_used : Nat) (i_everywhere : Int32) (i_again0 : Int32) (i_d0 : Int32) (i_never : Int32) (i_firstCame : Int32) (i_longRun : Int32) (i_moved : Int32) (i_crowd : Int32) (i_l0 : Int32) (i_fitMany : Int32) (i_fitLeast : Int32) (i_fitMost : Int32) (m_fitPost : Nat) (m_fitEnd : Nat) (m_keptPosts : Nat) (i_x0 : Int32) (f_all : Nat → Int32) (f_posts : Nat → Int32) (w_ : Int32) (hL : zML f_all i_z0 i_crossings) (hw0 : 0 ≤ w_.toInt) (hP : zMP f_posts) : zMv l T yX12_setsWay cX12_setsWay 4 3 0 0 [.ref mo, .int w_] [[zO11 mo m_all m_has i_size i_next i_where i_token i_number i_word i_wrong i_farCrossing m_read i_z0 i_crossings i_inns m_posts m_shut m_here i_steps i_done i_at i_gone m_was m_came m_seenAt m_rowWorth m_farBy m_used i_everywhere i_again0 i_d0 i_never i_firstCame i_longRun i_moved i_crowd i_l0 i_fitMany i_fitLeast i_fitMost m_fitPost m_fitEnd m_keptPosts i_x0], [zAr T 0 m_all 3952 f_all], [zAr T 0 m_posts 7 f_posts]] (fun bs => ∃ (g_posts : Nat → Int32), bs = [[zO11 mo m_all m_has i_size i_next i_where i_token i_number i_word i_wrong i_farCrossing m_read i_z0 i_crossings i_inns m_posts m_shut m_here i_steps i_done i_at i_gone m_was m_came m_seenAt m_rowWorth m_farBy m_used i_everywhere i_again0 i_d0 i_never i_firstCame i_longRun i_moved i_crowd i_l0 i_fitMany i_fitLeast i_fitMost m_fitPost m_fitEnd m_keptPosts i_x0], [zAr T 0 m_all 3952 f_all], [zAr T 0 m_posts 7 g_posts]] ∧ zMP g_posts) := by
  refine zMv_of (own := RX12) (by decide) rfl (Nat.le_of_ble_eq_true rfl) ?_
  intro p e s m args below meth c A ls C hr hlocks hnm hAe G hl
  refine zHide (fun Qz_ hQz_ => ?_)
  have hx := C.1
  have hb := C.2.1
  have hl : lv_has ls 4 [(0, .ref mo), (1, .int w_)] := hl
  have hz := hL.1
  have hcr := hL.cr
  refine lv_iload_n hx hb dX12_setsWay_0 rfl (lv_at hl 1 rfl) ?_
  refine lv_istore_n (lv' := [(2, .int w_), (0, .ref mo), (1, .int w_)]) hx hb dX12_setsWay_1 rfl hl (by decide) (zLvf_h rfl) (fun ls hl => ?_)
  refine lv_aload_n hx hb dX12_setsWay_2 rfl (lv_at hl 1 rfl) ?_
  refine z_get C G clX12 0 rfl 12 (by decide) m_fl_RX12_169 rfl dX12_setsWay_3 ?_
  refine lv_iconst (v := 1) hx hb dX12_setsWay_6 (by decide) ?_
  refine lv_isub hx hb dX12_setsWay_7 ?_
  refine lv_topi (fun y_1 ey_1 => ?_)
  have ey_1i : y_1.toInt = i_crossings.toInt - (1 : Int) := by rw [ey_1]; exact z_isubI (x := i_crossings) (y := (1 : Int32)) (by show -2147483648 ≤ i_crossings.toInt - (1 : Int); omega) (by show i_crossings.toInt - (1 : Int) < 2147483648; omega)
  refine lv_istore_n (lv' := [(3, .int y_1), (2, .int w_), (0, .ref mo), (1, .int w_)]) hx hb dX12_setsWay_8 rfl hl (by decide) (zLvf_h rfl) (fun ls hl => ?_)
  refine z_lp3 (T := T) 9 (fun (c9 : Int32) (lf : Int32) (xp : Nat → Int32) => [[zO11 mo m_all m_has i_size i_next i_where i_token i_number i_word i_wrong i_farCrossing m_read i_z0 i_crossings i_inns m_posts m_shut m_here i_steps i_done i_at i_gone m_was m_came m_seenAt m_rowWorth m_farBy m_used i_everywhere i_again0 i_d0 i_never i_firstCame i_longRun i_moved i_crowd i_l0 i_fitMany i_fitLeast i_fitMost m_fitPost m_fitEnd m_keptPosts i_x0], [zAr T 0 m_all 3952 f_all], [zAr T 0 m_posts 7 xp]]) (fun (c9 : Int32) (lf : Int32) (xp : Nat → Int32) => [(3, .int c9), (2, .int lf), (0, .ref mo), (1, .int w_)]) (fun (c9 : Int32) (lf : Int32) (xp : Nat → Int32) => -1 ≤ c9.toInt ∧ c9.toInt ≤ 6 ∧ 0 ≤ lf.toInt ∧ zMP xp) (fun (c9 : Int32) (lf : Int32) (xp : Nat → Int32) => (c9.toInt + 1).toNat) ?_ y_1 w_ f_posts (show -1 ≤ y_1.toInt ∧ y_1.toInt ≤ 6 ∧ 0 ≤ w_.toInt ∧ zMP f_posts from ⟨by omega, by omega, by omega, hP⟩) G (lv_sub hl [0, 1, 2, 3] rfl)
  intro c9 lf xp hI9 ih_9 H locs ls G hl
  replace hI9 : -1 ≤ c9.toInt ∧ c9.toInt ≤ 6 ∧ 0 ≤ lf.toInt ∧ zMP xp := hI9
  refine zAn4 hI9 ?_
  intro hc1 hc6 hlf hQ
  clear hI9
  replace G : zS T A s.heap s [[zO11 mo m_all m_has i_size i_next i_where i_token i_number i_word i_wrong i_farCrossing m_read i_z0 i_crossings i_inns m_posts m_shut m_here i_steps i_done i_at i_gone m_was m_came m_seenAt m_rowWorth m_farBy m_used i_everywhere i_again0 i_d0 i_never i_firstCame i_longRun i_moved i_crowd i_l0 i_fitMany i_fitLeast i_fitMost m_fitPost m_fitEnd m_keptPosts i_x0], [zAr T 0 m_all 3952 f_all], [zAr T 0 m_posts 7 xp]] _ _ := G
  replace hl : lv_has ls 4 [(3, .int c9), (2, .int lf), (0, .ref mo), (1, .int w_)] := hl
  refine lv_iload_n hx hb dX12_setsWay_9 rfl (lv_at hl 0 rfl) ?_
  refine lv_if_lt (tgt := 64) hx hb dX12_setsWay_10 (by decide) (fun c_2 => ?_) (fun c_2 => ?_)
  · have c_2n : c9.toInt < (0 : Int) := (fa_lt _ _).mp c_2
    exact z_back hQz_ (z_vret C hr hlocks G (Nat.le_of_ble_eq_true rfl) (Nat.le_of_ble_eq_true rfl) dX12_setsWay_64 ⟨xp, rfl, (by first | with_reducible assumption | omega | trivial | assumption)⟩)
  · have c_2n : ¬ c9.toInt < (0 : Int) := fun q => c_2 ((fa_lt _ _).mpr q)
    refine lv_aload_n hx hb dX12_setsWay_13 rfl (lv_at hl 2 rfl) ?_
    refine z_get C G clX12 0 rfl 14 (by decide) m_fl_RX12_20 rfl dX12_setsWay_14 ?_
    refine lv_iload_n hx hb dX12_setsWay_17 rfl (lv_at hl 0 rfl) ?_
    refine lv_aload_n hx hb dX12_setsWay_18 rfl (lv_at hl 2 rfl) ?_
    refine lv_iload_n hx hb dX12_setsWay_19 rfl (lv_at hl 0 rfl) ?_
    refine z_Vi (bc := [[zO11 mo m_all m_has i_size i_next i_where i_token i_number i_word i_wrong i_farCrossing m_read i_z0 i_crossings i_inns m_posts m_shut m_here i_steps i_done i_at i_gone m_was m_came m_seenAt m_rowWorth m_farBy m_used i_everywhere i_again0 i_d0 i_never i_firstCame i_longRun i_moved i_crowd i_l0 i_fitMany i_fitLeast i_fitMost m_fitPost m_fitEnd m_keptPosts i_x0], [zAr T 0 m_all 3952 f_all]]) (br := [[zAr T 0 m_posts 7 xp]]) (As := [.int c9]) (rest := [.int c9, .ref m_posts]) C G (c_m_isFree l T mo m_all m_has i_size i_next i_where i_token i_number i_word i_wrong i_farCrossing m_read i_z0 i_crossings i_inns m_posts m_shut m_here i_steps i_done i_at i_gone m_was m_came m_seenAt m_rowWorth m_farBy m_used i_everywhere i_again0 i_d0 i_never i_firstCame i_longRun i_moved i_crowd i_l0 i_fitMany i_fitLeast i_fitMost m_fitPost m_fitEnd m_keptPosts i_x0 f_all c9 (by first | with_reducible assumption | with_reducible rfl | omega | assumption | rfl | decide) (by first | with_reducible assumption | with_reducible rfl | omega | assumption | rfl | decide) (by first | with_reducible assumption | with_reducible rfl | omega | assumption | rfl | decide)) (kV_RX12_223 C.2.2.2.2 (Nat.le_of_ble_eq_true rfl) (Nat.le_of_ble_eq_true rfl)) [0, 1] [0, 0] rfl rfl (ci := 11) (qc := (RX12, TX12, 43)) rfl rfl (List.mem_flatten.mpr ⟨_, List.mem_of_getElem? (i := 0) rfl, List.mem_cons_self⟩) rfl rfl hl.1 dX12_setsWay_20 (Nat.le_of_ble_eq_true rfl) (Nat.le_of_ble_eq_true rfl) (fun r_4 b1 H locs hw G => ?_)
    refine zAn2 hw ?_
    intro hbs9 hc_3
    clear hw
    subst hbs9
    have G : zS T A s.heap s [[zAr T 0 m_posts 7 xp], [zO11 mo m_all m_has i_size i_next i_where i_token i_number i_word i_wrong i_farCrossing m_read i_z0 i_crossings i_inns m_posts m_shut m_here i_steps i_done i_at i_gone m_was m_came m_seenAt m_rowWorth m_farBy m_used i_everywhere i_again0 i_d0 i_never i_firstCame i_longRun i_moved i_crowd i_l0 i_fitMany i_fitLeast i_fitMost m_fitPost m_fitEnd m_keptPosts i_x0], [zAr T 0 m_all 3952 f_all]] _ _ := G
    rcases hc_3 with ⟨rfl, h_5, h_6⟩ | ⟨rfl, h_7⟩
    · have h_5 : ¬ zInn i_inns c9 := h_5
      have h_6 : 0 < (zRd f_all i_z0 c9).toInt := h_6
      refine lv_if_eq (tgt := 36) hx hb dX12_setsWay_23 (by decide) (fun q => absurd q (by decide)) (fun _ => ?_)
      refine lv_iload_n hx hb dX12_setsWay_26 rfl (lv_at hl 1 rfl) ?_
      refine lv_aload_n hx hb dX12_setsWay_27 rfl (lv_at hl 2 rfl) ?_
      refine lv_iload_n hx hb dX12_setsWay_28 rfl (lv_at hl 0 rfl) ?_
      refine z_Vi (bc := [[zO11 mo m_all m_has i_size i_next i_where i_token i_number i_word i_wrong i_farCrossing m_read i_z0 i_crossings i_inns m_posts m_shut m_here i_steps i_done i_at i_gone m_was m_came m_seenAt m_rowWorth m_farBy m_used i_everywhere i_again0 i_d0 i_never i_firstCame i_longRun i_moved i_crowd i_l0 i_fitMany i_fitLeast i_fitMost m_fitPost m_fitEnd m_keptPosts i_x0], [zAr T 0 m_all 3952 f_all]]) (br := [[zAr T 0 m_posts 7 xp]]) (As := [.int c9]) (rest := [.int lf, .int c9, .ref m_posts]) C G (c_m_roadsOf l T mo m_all m_has i_size i_next i_where i_token i_number i_word i_wrong i_farCrossing m_read i_z0 i_crossings i_inns m_posts m_shut m_here i_steps i_done i_at i_gone m_was m_came m_seenAt m_rowWorth m_farBy m_used i_everywhere i_again0 i_d0 i_never i_firstCame i_longRun i_moved i_crowd i_l0 i_fitMany i_fitLeast i_fitMost m_fitPost m_fitEnd m_keptPosts i_x0 f_all c9 (by first | with_reducible assumption | with_reducible rfl | omega | assumption | rfl | decide) (by first | with_reducible assumption | with_reducible rfl | omega | assumption | rfl | decide) (by first | with_reducible assumption | with_reducible rfl | omega | assumption | rfl | decide)) (kV_RX12_181 C.2.2.2.2 (Nat.le_of_ble_eq_true rfl) (Nat.le_of_ble_eq_true rfl)) [1, 2] [1, 0] rfl rfl (ci := 11) (qc := (RX12, TX12, 43)) rfl rfl (List.mem_flatten.mpr ⟨_, List.mem_of_getElem? (i := 0) rfl, List.mem_cons_self⟩) rfl rfl hl.1 dX12_setsWay_29 (Nat.le_of_ble_eq_true rfl) (Nat.le_of_ble_eq_true rfl) (fun r_11 b1 H locs hw G => ?_)
      refine zAn4 hw ?_
      intro hbs9 h_8 h_9 h_10
      clear hw
      subst hbs9
      have G : zS T A s.heap s [[zAr T 0 m_posts 7 xp], [zO11 mo m_all m_has i_size i_next i_where i_token i_number i_word i_wrong i_farCrossing m_read i_z0 i_crossings i_inns m_posts m_shut m_here i_steps i_done i_at i_gone m_was m_came m_seenAt m_rowWorth m_farBy m_used i_everywhere i_again0 i_d0 i_never i_firstCame i_longRun i_moved i_crowd i_l0 i_fitMany i_fitLeast i_fitMost m_fitPost m_fitEnd m_keptPosts i_x0], [zAr T 0 m_all 3952 f_all]] _ _ := G
      subst h_8
      refine lv_irem hx hb dX12_setsWay_32 (fun q => absurd (congrArg Int32.toInt q) (by show ¬ _ = (0 : Int); omega)) ?_
      refine lv_goto (tgt := 37) hx hb dX12_setsWay_33 (by decide) ?_
      have hrm := zRem (x := lf) (y := zRd f_all i_z0 c9) (by omega) (by omega)
      refine z_ist C G 0 rfl (vp_in_iff.mpr ⟨by omega, by omega⟩) dX12_setsWay_37 (fun H locs G => ?_)
      have G : zS T A s.heap s [[zAr T 0 m_posts 7 (upd xp c9.toNatClampNeg (lf - lf / (zRd f_all i_z0 c9) * (zRd f_all i_z0 c9)))], [zO11 mo m_all m_has i_size i_next i_where i_token i_number i_word i_wrong i_farCrossing m_read i_z0 i_crossings i_inns m_posts m_shut m_here i_steps i_done i_at i_gone m_was m_came m_seenAt m_rowWorth m_farBy m_used i_everywhere i_again0 i_d0 i_never i_firstCame i_longRun i_moved i_crowd i_l0 i_fitMany i_fitLeast i_fitMost m_fitPost m_fitEnd m_keptPosts i_x0], [zAr T 0 m_all 3952 f_all]] _ _ := G
      refine lv_iload_n hx hb dX12_setsWay_38 rfl (lv_at hl 1 rfl) ?_
      refine lv_aload_n hx hb dX12_setsWay_39 rfl (lv_at hl 2 rfl) ?_
      refine lv_iload_n hx hb dX12_setsWay_40 rfl (lv_at hl 0 rfl) ?_
      refine z_Vi (bc := [[zO11 mo m_all m_has i_size i_next i_where i_token i_number i_word i_wrong i_farCrossing m_read i_z0 i_crossings i_inns m_posts m_shut m_here i_steps i_done i_at i_gone m_was m_came m_seenAt m_rowWorth m_farBy m_used i_everywhere i_again0 i_d0 i_never i_firstCame i_longRun i_moved i_crowd i_l0 i_fitMany i_fitLeast i_fitMost m_fitPost m_fitEnd m_keptPosts i_x0], [zAr T 0 m_all 3952 f_all]]) (br := [[zAr T 0 m_posts 7 (upd xp c9.toNatClampNeg (lf - lf / (zRd f_all i_z0 c9) * (zRd f_all i_z0 c9)))]]) (As := [.int c9]) (rest := [.int lf]) C G (c_m_isFree l T mo m_all m_has i_size i_next i_where i_token i_number i_word i_wrong i_farCrossing m_read i_z0 i_crossings i_inns m_posts m_shut m_here i_steps i_done i_at i_gone m_was m_came m_seenAt m_rowWorth m_farBy m_used i_everywhere i_again0 i_d0 i_never i_firstCame i_longRun i_moved i_crowd i_l0 i_fitMany i_fitLeast i_fitMost m_fitPost m_fitEnd m_keptPosts i_x0 f_all c9 (by first | with_reducible assumption | with_reducible rfl | omega | assumption | rfl | decide) (by first | with_reducible assumption | with_reducible rfl | omega | assumption | rfl | decide) (by first | with_reducible assumption | with_reducible rfl | omega | assumption | rfl | decide)) (kV_RX12_223 C.2.2.2.2 (Nat.le_of_ble_eq_true rfl) (Nat.le_of_ble_eq_true rfl)) [1, 2] [1, 0] rfl rfl (ci := 11) (qc := (RX12, TX12, 43)) rfl rfl (List.mem_flatten.mpr ⟨_, List.mem_of_getElem? (i := 0) rfl, List.mem_cons_self⟩) rfl rfl hl.1 dX12_setsWay_41 (Nat.le_of_ble_eq_true rfl) (Nat.le_of_ble_eq_true rfl) (fun r_13 b1 H locs hw G => ?_)
      refine zAn2 hw ?_
      intro hbs9 hc_12
      clear hw
      subst hbs9
      have G : zS T A s.heap s [[zAr T 0 m_posts 7 (upd xp c9.toNatClampNeg (lf - lf / (zRd f_all i_z0 c9) * (zRd f_all i_z0 c9)))], [zO11 mo m_all m_has i_size i_next i_where i_token i_number i_word i_wrong i_farCrossing m_read i_z0 i_crossings i_inns m_posts m_shut m_here i_steps i_done i_at i_gone m_was m_came m_seenAt m_rowWorth m_farBy m_used i_everywhere i_again0 i_d0 i_never i_firstCame i_longRun i_moved i_crowd i_l0 i_fitMany i_fitLeast i_fitMost m_fitPost m_fitEnd m_keptPosts i_x0], [zAr T 0 m_all 3952 f_all]] _ _ := G
      rcases hc_12 with ⟨rfl, h_14, h_15⟩ | ⟨rfl, h_16⟩
      · have h_14 : ¬ zInn i_inns c9 := h_14
        have h_15 : 0 < (zRd f_all i_z0 c9).toInt := h_15
        refine lv_if_eq (tgt := 55) hx hb dX12_setsWay_44 (by decide) (fun q => absurd q (by decide)) (fun _ => ?_)
        refine lv_aload_n hx hb dX12_setsWay_47 rfl (lv_at hl 2 rfl) ?_
        refine lv_iload_n hx hb dX12_setsWay_48 rfl (lv_at hl 0 rfl) ?_
        refine z_Vi (bc := [[zO11 mo m_all m_has i_size i_next i_where i_token i_number i_word i_wrong i_farCrossing m_read i_z0 i_crossings i_inns m_posts m_shut m_here i_steps i_done i_at i_gone m_was m_came m_seenAt m_rowWorth m_farBy m_used i_everywhere i_again0 i_d0 i_never i_firstCame i_longRun i_moved i_crowd i_l0 i_fitMany i_fitLeast i_fitMost m_fitPost m_fitEnd m_keptPosts i_x0], [zAr T 0 m_all 3952 f_all]]) (br := [[zAr T 0 m_posts 7 (upd xp c9.toNatClampNeg (lf - lf / (zRd f_all i_z0 c9) * (zRd f_all i_z0 c9)))]]) (As := [.int c9]) (rest := [.int lf]) C G (c_m_roadsOf l T mo m_all m_has i_size i_next i_where i_token i_number i_word i_wrong i_farCrossing m_read i_z0 i_crossings i_inns m_posts m_shut m_here i_steps i_done i_at i_gone m_was m_came m_seenAt m_rowWorth m_farBy m_used i_everywhere i_again0 i_d0 i_never i_firstCame i_longRun i_moved i_crowd i_l0 i_fitMany i_fitLeast i_fitMost m_fitPost m_fitEnd m_keptPosts i_x0 f_all c9 (by first | with_reducible assumption | with_reducible rfl | omega | assumption | rfl | decide) (by first | with_reducible assumption | with_reducible rfl | omega | assumption | rfl | decide) (by first | with_reducible assumption | with_reducible rfl | omega | assumption | rfl | decide)) (kV_RX12_181 C.2.2.2.2 (Nat.le_of_ble_eq_true rfl) (Nat.le_of_ble_eq_true rfl)) [1, 2] [1, 0] rfl rfl (ci := 11) (qc := (RX12, TX12, 43)) rfl rfl (List.mem_flatten.mpr ⟨_, List.mem_of_getElem? (i := 0) rfl, List.mem_cons_self⟩) rfl rfl hl.1 dX12_setsWay_49 (Nat.le_of_ble_eq_true rfl) (Nat.le_of_ble_eq_true rfl) (fun r_20 b1 H locs hw G => ?_)
        refine zAn4 hw ?_
        intro hbs9 h_17 h_18 h_19
        clear hw
        subst hbs9
        have G : zS T A s.heap s [[zAr T 0 m_posts 7 (upd xp c9.toNatClampNeg (lf - lf / (zRd f_all i_z0 c9) * (zRd f_all i_z0 c9)))], [zO11 mo m_all m_has i_size i_next i_where i_token i_number i_word i_wrong i_farCrossing m_read i_z0 i_crossings i_inns m_posts m_shut m_here i_steps i_done i_at i_gone m_was m_came m_seenAt m_rowWorth m_farBy m_used i_everywhere i_again0 i_d0 i_never i_firstCame i_longRun i_moved i_crowd i_l0 i_fitMany i_fitLeast i_fitMost m_fitPost m_fitEnd m_keptPosts i_x0], [zAr T 0 m_all 3952 f_all]] _ _ := G
        subst h_17
        refine lv_goto (tgt := 56) hx hb dX12_setsWay_52 (by decide) ?_
        refine lv_idiv hx hb dX12_setsWay_56 (fun q => absurd (congrArg Int32.toInt q) (by show ¬ _ = (0 : Int); omega)) ?_
        have hdv : 0 ≤ (lf / (zRd f_all i_z0 c9)).toInt := zDiv0 (by omega) (by omega)
        refine lv_istore_n (lv' := [(2, .int (lf / (zRd f_all i_z0 c9))), (3, .int c9), (0, .ref mo), (1, .int w_)]) hx hb dX12_setsWay_57 rfl hl (by decide) (zLvf_h rfl) (fun ls hl => ?_)
        obtain ⟨y_21, ey_21⟩ : ∃ q : Int32, q = c9 + (-1) := ⟨_, rfl⟩
        have ey_21i : y_21.toInt = c9.toInt - 1 := by rw [ey_21]; exact z_iaddI (x := c9) (y := (-1)) (by show -2147483648 ≤ c9.toInt + (-1 : Int); omega) (by show c9.toInt + (-1 : Int) < 2147483648; omega)
        refine lv_iinc (v := y_21) (lv' := [(3, .int y_21), (2, .int (lf / (zRd f_all i_z0 c9))), (0, .ref mo), (1, .int w_)]) hx hb dX12_setsWay_58 hl (k := 1) rfl ey_21.symm (by decide) (zLvf_h rfl) (fun ls hl => ?_)
        refine lv_goto (tgt := 9) hx hb dX12_setsWay_61 (by decide) ?_
        have G := G.sub (bs' := [[zO11 mo m_all m_has i_size i_next i_where i_token i_number i_word i_wrong i_farCrossing m_read i_z0 i_crossings i_inns m_posts m_shut m_here i_steps i_done i_at i_gone m_was m_came m_seenAt m_rowWorth m_farBy m_used i_everywhere i_again0 i_d0 i_never i_firstCame i_longRun i_moved i_crowd i_l0 i_fitMany i_fitLeast i_fitMost m_fitPost m_fitEnd m_keptPosts i_x0], [zAr T 0 m_all 3952 f_all], [zAr T 0 m_posts 7 (upd xp c9.toNatClampNeg (lf - lf / (zRd f_all i_z0 c9) * (zRd f_all i_z0 c9)))]]) [1, 2, 0] rfl
        exact ih_9 y_21 (lf / (zRd f_all i_z0 c9)) (upd xp c9.toNatClampNeg (lf - lf / (zRd f_all i_z0 c9) * (zRd f_all i_z0 c9))) (show -1 ≤ y_21.toInt ∧ y_21.toInt ≤ 6 ∧ 0 ≤ (lf / (zRd f_all i_z0 c9)).toInt ∧ zMP (upd xp c9.toNatClampNeg (lf - lf / (zRd f_all i_z0 c9) * (zRd f_all i_z0 c9))) from ⟨by omega, by omega, by omega, (zMP_upd hQ (by omega))⟩) (show (y_21.toInt + 1).toNat < (c9.toInt + 1).toNat from by omega) _ _ ls G (lv_sub hl [0, 1, 2, 3] rfl)
      · have h_16 : (zInn i_inns c9 ∨ (zRd f_all i_z0 c9).toInt ≤ 0) := h_16
        refine lv_if_eq (tgt := 55) hx hb dX12_setsWay_44 (by decide) (fun _ => ?_) (fun q => absurd (by decide) q)
        refine lv_iconst (v := 1) hx hb dX12_setsWay_55 (by decide) ?_
        refine lv_idiv hx hb dX12_setsWay_56 (by decide) ?_
        have hdv : 0 ≤ (lf / 1).toInt := zDiv0 (by omega) (by decide)
        refine lv_istore_n (lv' := [(2, .int (lf / 1)), (3, .int c9), (0, .ref mo), (1, .int w_)]) hx hb dX12_setsWay_57 rfl hl (by decide) (zLvf_h rfl) (fun ls hl => ?_)
        obtain ⟨y_22, ey_22⟩ : ∃ q : Int32, q = c9 + (-1) := ⟨_, rfl⟩
        have ey_22i : y_22.toInt = c9.toInt - 1 := by rw [ey_22]; exact z_iaddI (x := c9) (y := (-1)) (by show -2147483648 ≤ c9.toInt + (-1 : Int); omega) (by show c9.toInt + (-1 : Int) < 2147483648; omega)
        refine lv_iinc (v := y_22) (lv' := [(3, .int y_22), (2, .int (lf / 1)), (0, .ref mo), (1, .int w_)]) hx hb dX12_setsWay_58 hl (k := 1) rfl ey_22.symm (by decide) (zLvf_h rfl) (fun ls hl => ?_)
        refine lv_goto (tgt := 9) hx hb dX12_setsWay_61 (by decide) ?_
        have G := G.sub (bs' := [[zO11 mo m_all m_has i_size i_next i_where i_token i_number i_word i_wrong i_farCrossing m_read i_z0 i_crossings i_inns m_posts m_shut m_here i_steps i_done i_at i_gone m_was m_came m_seenAt m_rowWorth m_farBy m_used i_everywhere i_again0 i_d0 i_never i_firstCame i_longRun i_moved i_crowd i_l0 i_fitMany i_fitLeast i_fitMost m_fitPost m_fitEnd m_keptPosts i_x0], [zAr T 0 m_all 3952 f_all], [zAr T 0 m_posts 7 (upd xp c9.toNatClampNeg (lf - lf / (zRd f_all i_z0 c9) * (zRd f_all i_z0 c9)))]]) [1, 2, 0] rfl
        exact ih_9 y_22 (lf / 1) (upd xp c9.toNatClampNeg (lf - lf / (zRd f_all i_z0 c9) * (zRd f_all i_z0 c9))) (show -1 ≤ y_22.toInt ∧ y_22.toInt ≤ 6 ∧ 0 ≤ (lf / 1).toInt ∧ zMP (upd xp c9.toNatClampNeg (lf - lf / (zRd f_all i_z0 c9) * (zRd f_all i_z0 c9))) from ⟨by omega, by omega, by omega, (zMP_upd hQ (by omega))⟩) (show (y_22.toInt + 1).toNat < (c9.toInt + 1).toNat from by omega) _ _ ls G (lv_sub hl [0, 1, 2, 3] rfl)
    · have h_7 : (zInn i_inns c9 ∨ (zRd f_all i_z0 c9).toInt ≤ 0) := h_7
      refine lv_if_eq (tgt := 36) hx hb dX12_setsWay_23 (by decide) (fun _ => ?_) (fun q => absurd (by decide) q)
      refine lv_iconst (v := 0) hx hb dX12_setsWay_36 (by decide) ?_
      refine z_ist C G 0 rfl (vp_in_iff.mpr ⟨by omega, by omega⟩) dX12_setsWay_37 (fun H locs G => ?_)
      have G : zS T A s.heap s [[zAr T 0 m_posts 7 (upd xp c9.toNatClampNeg 0)], [zO11 mo m_all m_has i_size i_next i_where i_token i_number i_word i_wrong i_farCrossing m_read i_z0 i_crossings i_inns m_posts m_shut m_here i_steps i_done i_at i_gone m_was m_came m_seenAt m_rowWorth m_farBy m_used i_everywhere i_again0 i_d0 i_never i_firstCame i_longRun i_moved i_crowd i_l0 i_fitMany i_fitLeast i_fitMost m_fitPost m_fitEnd m_keptPosts i_x0], [zAr T 0 m_all 3952 f_all]] _ _ := G
      refine lv_iload_n hx hb dX12_setsWay_38 rfl (lv_at hl 1 rfl) ?_
      refine lv_aload_n hx hb dX12_setsWay_39 rfl (lv_at hl 2 rfl) ?_
      refine lv_iload_n hx hb dX12_setsWay_40 rfl (lv_at hl 0 rfl) ?_
      refine z_Vi (bc := [[zO11 mo m_all m_has i_size i_next i_where i_token i_number i_word i_wrong i_farCrossing m_read i_z0 i_crossings i_inns m_posts m_shut m_here i_steps i_done i_at i_gone m_was m_came m_seenAt m_rowWorth m_farBy m_used i_everywhere i_again0 i_d0 i_never i_firstCame i_longRun i_moved i_crowd i_l0 i_fitMany i_fitLeast i_fitMost m_fitPost m_fitEnd m_keptPosts i_x0], [zAr T 0 m_all 3952 f_all]]) (br := [[zAr T 0 m_posts 7 (upd xp c9.toNatClampNeg 0)]]) (As := [.int c9]) (rest := [.int lf]) C G (c_m_isFree l T mo m_all m_has i_size i_next i_where i_token i_number i_word i_wrong i_farCrossing m_read i_z0 i_crossings i_inns m_posts m_shut m_here i_steps i_done i_at i_gone m_was m_came m_seenAt m_rowWorth m_farBy m_used i_everywhere i_again0 i_d0 i_never i_firstCame i_longRun i_moved i_crowd i_l0 i_fitMany i_fitLeast i_fitMost m_fitPost m_fitEnd m_keptPosts i_x0 f_all c9 (by first | with_reducible assumption | with_reducible rfl | omega | assumption | rfl | decide) (by first | with_reducible assumption | with_reducible rfl | omega | assumption | rfl | decide) (by first | with_reducible assumption | with_reducible rfl | omega | assumption | rfl | decide)) (kV_RX12_223 C.2.2.2.2 (Nat.le_of_ble_eq_true rfl) (Nat.le_of_ble_eq_true rfl)) [1, 2] [1, 0] rfl rfl (ci := 11) (qc := (RX12, TX12, 43)) rfl rfl (List.mem_flatten.mpr ⟨_, List.mem_of_getElem? (i := 0) rfl, List.mem_cons_self⟩) rfl rfl hl.1 dX12_setsWay_41 (Nat.le_of_ble_eq_true rfl) (Nat.le_of_ble_eq_true rfl) (fun r_24 b1 H locs hw G => ?_)
      refine zAn2 hw ?_
      intro hbs9 hc_23
      clear hw
      subst hbs9
      have G : zS T A s.heap s [[zAr T 0 m_posts 7 (upd xp c9.toNatClampNeg 0)], [zO11 mo m_all m_has i_size i_next i_where i_token i_number i_word i_wrong i_farCrossing m_read i_z0 i_crossings i_inns m_posts m_shut m_here i_steps i_done i_at i_gone m_was m_came m_seenAt m_rowWorth m_farBy m_used i_everywhere i_again0 i_d0 i_never i_firstCame i_longRun i_moved i_crowd i_l0 i_fitMany i_fitLeast i_fitMost m_fitPost m_fitEnd m_keptPosts i_x0], [zAr T 0 m_all 3952 f_all]] _ _ := G
      rcases hc_23 with ⟨rfl, h_25, h_26⟩ | ⟨rfl, h_27⟩
      · have h_25 : ¬ zInn i_inns c9 := h_25
        have h_26 : 0 < (zRd f_all i_z0 c9).toInt := h_26
        refine lv_if_eq (tgt := 55) hx hb dX12_setsWay_44 (by decide) (fun q => absurd q (by decide)) (fun _ => ?_)
        refine lv_aload_n hx hb dX12_setsWay_47 rfl (lv_at hl 2 rfl) ?_
        refine lv_iload_n hx hb dX12_setsWay_48 rfl (lv_at hl 0 rfl) ?_
        refine z_Vi (bc := [[zO11 mo m_all m_has i_size i_next i_where i_token i_number i_word i_wrong i_farCrossing m_read i_z0 i_crossings i_inns m_posts m_shut m_here i_steps i_done i_at i_gone m_was m_came m_seenAt m_rowWorth m_farBy m_used i_everywhere i_again0 i_d0 i_never i_firstCame i_longRun i_moved i_crowd i_l0 i_fitMany i_fitLeast i_fitMost m_fitPost m_fitEnd m_keptPosts i_x0], [zAr T 0 m_all 3952 f_all]]) (br := [[zAr T 0 m_posts 7 (upd xp c9.toNatClampNeg 0)]]) (As := [.int c9]) (rest := [.int lf]) C G (c_m_roadsOf l T mo m_all m_has i_size i_next i_where i_token i_number i_word i_wrong i_farCrossing m_read i_z0 i_crossings i_inns m_posts m_shut m_here i_steps i_done i_at i_gone m_was m_came m_seenAt m_rowWorth m_farBy m_used i_everywhere i_again0 i_d0 i_never i_firstCame i_longRun i_moved i_crowd i_l0 i_fitMany i_fitLeast i_fitMost m_fitPost m_fitEnd m_keptPosts i_x0 f_all c9 (by first | with_reducible assumption | with_reducible rfl | omega | assumption | rfl | decide) (by first | with_reducible assumption | with_reducible rfl | omega | assumption | rfl | decide) (by first | with_reducible assumption | with_reducible rfl | omega | assumption | rfl | decide)) (kV_RX12_181 C.2.2.2.2 (Nat.le_of_ble_eq_true rfl) (Nat.le_of_ble_eq_true rfl)) [1, 2] [1, 0] rfl rfl (ci := 11) (qc := (RX12, TX12, 43)) rfl rfl (List.mem_flatten.mpr ⟨_, List.mem_of_getElem? (i := 0) rfl, List.mem_cons_self⟩) rfl rfl hl.1 dX12_setsWay_49 (Nat.le_of_ble_eq_true rfl) (Nat.le_of_ble_eq_true rfl) (fun r_31 b1 H locs hw G => ?_)
        refine zAn4 hw ?_
        intro hbs9 h_28 h_29 h_30
        clear hw
        subst hbs9
        have G : zS T A s.heap s [[zAr T 0 m_posts 7 (upd xp c9.toNatClampNeg 0)], [zO11 mo m_all m_has i_size i_next i_where i_token i_number i_word i_wrong i_farCrossing m_read i_z0 i_crossings i_inns m_posts m_shut m_here i_steps i_done i_at i_gone m_was m_came m_seenAt m_rowWorth m_farBy m_used i_everywhere i_again0 i_d0 i_never i_firstCame i_longRun i_moved i_crowd i_l0 i_fitMany i_fitLeast i_fitMost m_fitPost m_fitEnd m_keptPosts i_x0], [zAr T 0 m_all 3952 f_all]] _ _ := G
        subst h_28
        refine lv_goto (tgt := 56) hx hb dX12_setsWay_52 (by decide) ?_
        refine lv_idiv hx hb dX12_setsWay_56 (fun q => absurd (congrArg Int32.toInt q) (by show ¬ _ = (0 : Int); omega)) ?_
        have hdv : 0 ≤ (lf / (zRd f_all i_z0 c9)).toInt := zDiv0 (by omega) (by omega)
        refine lv_istore_n (lv' := [(2, .int (lf / (zRd f_all i_z0 c9))), (3, .int c9), (0, .ref mo), (1, .int w_)]) hx hb dX12_setsWay_57 rfl hl (by decide) (zLvf_h rfl) (fun ls hl => ?_)
        obtain ⟨y_32, ey_32⟩ : ∃ q : Int32, q = c9 + (-1) := ⟨_, rfl⟩
        have ey_32i : y_32.toInt = c9.toInt - 1 := by rw [ey_32]; exact z_iaddI (x := c9) (y := (-1)) (by show -2147483648 ≤ c9.toInt + (-1 : Int); omega) (by show c9.toInt + (-1 : Int) < 2147483648; omega)
        refine lv_iinc (v := y_32) (lv' := [(3, .int y_32), (2, .int (lf / (zRd f_all i_z0 c9))), (0, .ref mo), (1, .int w_)]) hx hb dX12_setsWay_58 hl (k := 1) rfl ey_32.symm (by decide) (zLvf_h rfl) (fun ls hl => ?_)
        refine lv_goto (tgt := 9) hx hb dX12_setsWay_61 (by decide) ?_
        have G := G.sub (bs' := [[zO11 mo m_all m_has i_size i_next i_where i_token i_number i_word i_wrong i_farCrossing m_read i_z0 i_crossings i_inns m_posts m_shut m_here i_steps i_done i_at i_gone m_was m_came m_seenAt m_rowWorth m_farBy m_used i_everywhere i_again0 i_d0 i_never i_firstCame i_longRun i_moved i_crowd i_l0 i_fitMany i_fitLeast i_fitMost m_fitPost m_fitEnd m_keptPosts i_x0], [zAr T 0 m_all 3952 f_all], [zAr T 0 m_posts 7 (upd xp c9.toNatClampNeg 0)]]) [1, 2, 0] rfl
        exact ih_9 y_32 (lf / (zRd f_all i_z0 c9)) (upd xp c9.toNatClampNeg 0) (show -1 ≤ y_32.toInt ∧ y_32.toInt ≤ 6 ∧ 0 ≤ (lf / (zRd f_all i_z0 c9)).toInt ∧ zMP (upd xp c9.toNatClampNeg 0) from ⟨by omega, by omega, by omega, (zMP_upd hQ (by decide))⟩) (show (y_32.toInt + 1).toNat < (c9.toInt + 1).toNat from by omega) _ _ ls G (lv_sub hl [0, 1, 2, 3] rfl)
      · have h_27 : (zInn i_inns c9 ∨ (zRd f_all i_z0 c9).toInt ≤ 0) := h_27
        refine lv_if_eq (tgt := 55) hx hb dX12_setsWay_44 (by decide) (fun _ => ?_) (fun q => absurd (by decide) q)
        refine lv_iconst (v := 1) hx hb dX12_setsWay_55 (by decide) ?_
        refine lv_idiv hx hb dX12_setsWay_56 (by decide) ?_
        have hdv : 0 ≤ (lf / 1).toInt := zDiv0 (by omega) (by decide)
        refine lv_istore_n (lv' := [(2, .int (lf / 1)), (3, .int c9), (0, .ref mo), (1, .int w_)]) hx hb dX12_setsWay_57 rfl hl (by decide) (zLvf_h rfl) (fun ls hl => ?_)
        obtain ⟨y_33, ey_33⟩ : ∃ q : Int32, q = c9 + (-1) := ⟨_, rfl⟩
        have ey_33i : y_33.toInt = c9.toInt - 1 := by rw [ey_33]; exact z_iaddI (x := c9) (y := (-1)) (by show -2147483648 ≤ c9.toInt + (-1 : Int); omega) (by show c9.toInt + (-1 : Int) < 2147483648; omega)
        refine lv_iinc (v := y_33) (lv' := [(3, .int y_33), (2, .int (lf / 1)), (0, .ref mo), (1, .int w_)]) hx hb dX12_setsWay_58 hl (k := 1) rfl ey_33.symm (by decide) (zLvf_h rfl) (fun ls hl => ?_)
        refine lv_goto (tgt := 9) hx hb dX12_setsWay_61 (by decide) ?_
        have G := G.sub (bs' := [[zO11 mo m_all m_has i_size i_next i_where i_token i_number i_word i_wrong i_farCrossing m_read i_z0 i_crossings i_inns m_posts m_shut m_here i_steps i_done i_at i_gone m_was m_came m_seenAt m_rowWorth m_farBy m_used i_everywhere i_again0 i_d0 i_never i_firstCame i_longRun i_moved i_crowd i_l0 i_fitMany i_fitLeast i_fitMost m_fitPost m_fitEnd m_keptPosts i_x0], [zAr T 0 m_all 3952 f_all], [zAr T 0 m_posts 7 (upd xp c9.toNatClampNeg 0)]]) [1, 2, 0] rfl
        exact ih_9 y_33 (lf / 1) (upd xp c9.toNatClampNeg 0) (show -1 ≤ y_33.toInt ∧ y_33.toInt ≤ 6 ∧ 0 ≤ (lf / 1).toInt ∧ zMP (upd xp c9.toNatClampNeg 0) from ⟨by omega, by omega, by omega, (zMP_upd hQ (by decide))⟩) (show (y_33.toInt + 1).toNat < (c9.toInt + 1).toNat from by omega) _ _ ls G (lv_sub hl [0, 1, 2, 3] rfl)
theorem m_co_X12_isLand : Cond.code yX12_isLand cX12_isLand 2 (some .boolean) ∈ zT := zmem1 zsub_6 231 rfl rfl
theorem m_ml_RX12_184 : Cond.methodLink RX12 184 yX12_isLand ∈ zT := zmem1 zsub_6 228 rfl rfl
theorem m_im_X12_isLand : Cond.instanceMethod yX12_isLand ∈ zT := zmem1 zsub_6 230 rfl rfl
theorem m_se_X12_isLand : Cond.selects RX12 yX12_isLand yX12_isLand ∈ zT := zmem 59 rfl rfl
theorem m_co_X12_isCrossing : Cond.code yX12_isCrossing cX12_isCrossing 2 (some .boolean) ∈ zT := zmem1 zsub_7 3 rfl rfl
theorem m_ml_RX12_187 : Cond.methodLink RX12 187 yX12_isCrossing ∈ zT := zmem1 zsub_7 0 rfl rfl
theorem m_im_X12_isCrossing : Cond.instanceMethod yX12_isCrossing ∈ zT := zmem1 zsub_7 2 rfl rfl
theorem m_se_X12_isCrossing : Cond.selects RX12 yX12_isCrossing yX12_isCrossing ∈ zT := zmem 62 rfl rfl
theorem m_co_X12_walks : Cond.code yX12_walks cX12_walks 3 (some .boolean) ∈ zT := zmem1 zsub_7 19 rfl rfl
theorem m_ml_RX12_217 : Cond.methodLink RX12 217 yX12_walks ∈ zT := zmem1 zsub_7 16 rfl rfl
theorem m_im_X12_walks : Cond.instanceMethod yX12_walks ∈ zT := zmem1 zsub_7 18 rfl rfl
theorem m_se_X12_walks : Cond.selects RX12 yX12_walks yX12_walks ∈ zT := zmem 65 rfl rfl
theorem m_co_X12_postsNow : Cond.code yX12_postsNow cX12_postsNow 3 (some .int) ∈ zT := zmem1 zsub_7 55 rfl rfl
theorem m_ml_RX12_220 : Cond.methodLink RX12 220 yX12_postsNow ∈ zT := zmem1 zsub_7 52 rfl rfl
theorem m_im_X12_postsNow : Cond.instanceMethod yX12_postsNow ∈ zT := zmem1 zsub_7 54 rfl rfl
theorem m_se_X12_postsNow : Cond.selects RX12 yX12_postsNow yX12_postsNow ∈ zT := zmem 70 rfl rfl
theorem kV_RX12_184 {R : Room} {s : State} {args : Array Value} {d mc ms : Nat} (hts : ∀ w ∈ zT, w.before args s = true) (h1 : d + 1 ≤ R.frames) (h2 : 8 + (2 + 11) + 40 * d ≤ R.locals) : CallW R s args RX12 RX12 184 yX12_isLand cX12_isLand 2 (some .boolean) (zW yX12_isLand cX12_isLand 2 (some .boolean)) (zR d mc ms) mc ms 1 := z_cwV hts m_co_X12_isLand m_ml_RX12_184 m_im_X12_isLand m_se_X12_isLand m_ii_RX12 (by decide +kernel) h1 h2
theorem kV_RX12_187 {R : Room} {s : State} {args : Array Value} {d mc ms : Nat} (hts : ∀ w ∈ zT, w.before args s = true) (h1 : d + 1 ≤ R.frames) (h2 : 8 + (2 + 11) + 40 * d ≤ R.locals) : CallW R s args RX12 RX12 187 yX12_isCrossing cX12_isCrossing 2 (some .boolean) (zW yX12_isCrossing cX12_isCrossing 2 (some .boolean)) (zR d mc ms) mc ms 1 := z_cwV hts m_co_X12_isCrossing m_ml_RX12_187 m_im_X12_isCrossing m_se_X12_isCrossing m_ii_RX12 (by decide +kernel) h1 h2
theorem kV_RX12_217 {R : Room} {s : State} {args : Array Value} {d mc ms : Nat} (hts : ∀ w ∈ zT, w.before args s = true) (h1 : d + 1 ≤ R.frames) (h2 : 8 + (3 + 11) + 40 * d ≤ R.locals) : CallW R s args RX12 RX12 217 yX12_walks cX12_walks 3 (some .boolean) (zW yX12_walks cX12_walks 3 (some .boolean)) (zR d mc ms) mc ms 1 := z_cwV hts m_co_X12_walks m_ml_RX12_217 m_im_X12_walks m_se_X12_walks m_ii_RX12 (by decide +kernel) h1 h2
theorem kV_RX12_220 {R : Room} {s : State} {args : Array Value} {d mc ms : Nat} (hts : ∀ w ∈ zT, w.before args s = true) (h1 : d + 1 ≤ R.frames) (h2 : 8 + (3 + 11) + 40 * d ≤ R.locals) : CallW R s args RX12 RX12 220 yX12_postsNow cX12_postsNow 3 (some .int) (zW yX12_postsNow cX12_postsNow 3 (some .int)) (zR d mc ms) mc ms 0 := z_cwV hts m_co_X12_postsNow m_ml_RX12_220 m_im_X12_postsNow m_se_X12_postsNow m_ii_RX12 (by decide +kernel) h1 h2
theorem dX12_land_0 : decode cX12_land 0 = .ok (.aload_n 0, 1) := zo_42 (by decide +kernel)
theorem dX12_land_1 : decode cX12_land 1 = .ok (.iload_n 1, 1) := zo_27 (by decide +kernel)
theorem dX12_land_2 : decode cX12_land 2 = .ok (.invokevirtual 184, 3) := zo_182 (by decide +kernel)
theorem dX12_land_5 : decode cX12_land 5 = .ok (.ifCond .eq 7, 3) := zo_153 (by decide +kernel)
theorem dX12_land_8 : decode cX12_land 8 = .ok (.iload_n 2, 1) := zo_28 (by decide +kernel)
theorem dX12_land_9 : decode cX12_land 9 = .ok (.ifCond .ge 5, 3) := zo_156 (by decide +kernel)
theorem dX12_land_12 : decode cX12_land 12 = .ok (.iconst (-1), 1) := zo_2 (by decide +kernel)
theorem dX12_land_13 : decode cX12_land 13 = .ok (.ireturn, 1) := zo_172 (by decide +kernel)
theorem dX12_land_14 : decode cX12_land 14 = .ok (.iload_n 2, 1) := zo_28 (by decide +kernel)
theorem dX12_land_15 : decode cX12_land 15 = .ok (.iconst 2, 1) := zo_5 (by decide +kernel)
theorem dX12_land_16 : decode cX12_land 16 = .ok (.if_icmp .ge 15, 3) := zo_162 (by decide +kernel)
theorem dX12_land_19 : decode cX12_land 19 = .ok (.aload_n 0, 1) := zo_42 (by decide +kernel)
theorem dX12_land_20 : decode cX12_land 20 = .ok (.getfield 7, 3) := zo_180 (by decide +kernel)
theorem dX12_land_23 : decode cX12_land 23 = .ok (.aload_n 0, 1) := zo_42 (by decide +kernel)
theorem dX12_land_24 : decode cX12_land 24 = .ok (.getfield 166, 3) := zo_180 (by decide +kernel)
theorem dX12_land_27 : decode cX12_land 27 = .ok (.iload_n 2, 1) := zo_28 (by decide +kernel)
theorem dX12_land_28 : decode cX12_land 28 = .ok (.iadd, 1) := zo_96 (by decide +kernel)
theorem dX12_land_29 : decode cX12_land 29 = .ok (.iaload, 1) := zo_46 (by decide +kernel)
theorem dX12_land_30 : decode cX12_land 30 = .ok (.ireturn, 1) := zo_172 (by decide +kernel)
theorem dX12_land_31 : decode cX12_land 31 = .ok (.iload_n 2, 1) := zo_28 (by decide +kernel)
theorem dX12_land_32 : decode cX12_land 32 = .ok (.bipush 10, 2) := zo_16 (by decide +kernel)
theorem dX12_land_34 : decode cX12_land 34 = .ok (.irem, 1) := zo_112 (by decide +kernel)
theorem dX12_land_35 : decode cX12_land 35 = .ok (.istore_n 3, 1) := zo_62 (by decide +kernel)
theorem dX12_land_36 : decode cX12_land 36 = .ok (.iload_n 2, 1) := zo_28 (by decide +kernel)
theorem dX12_land_37 : decode cX12_land 37 = .ok (.bipush 100, 2) := zo_16 (by decide +kernel)
theorem dX12_land_39 : decode cX12_land 39 = .ok (.if_icmp .lt 49, 3) := zo_161 (by decide +kernel)
theorem dX12_land_42 : decode cX12_land 42 = .ok (.aload_n 0, 1) := zo_42 (by decide +kernel)
theorem dX12_land_43 : decode cX12_land 43 = .ok (.iload_n 2, 1) := zo_28 (by decide +kernel)
theorem dX12_land_44 : decode cX12_land 44 = .ok (.bipush 10, 2) := zo_16 (by decide +kernel)
theorem dX12_land_46 : decode cX12_land 46 = .ok (.idiv, 1) := zo_108 (by decide +kernel)
theorem dX12_land_47 : decode cX12_land 47 = .ok (.bipush 10, 2) := zo_16 (by decide +kernel)
theorem dX12_land_49 : decode cX12_land 49 = .ok (.isub, 1) := zo_100 (by decide +kernel)
theorem dX12_land_50 : decode cX12_land 50 = .ok (.invokevirtual 187, 3) := zo_182 (by decide +kernel)
theorem dX12_land_53 : decode cX12_land 53 = .ok (.ifCond .eq 33, 3) := zo_153 (by decide +kernel)
theorem dX12_land_56 : decode cX12_land 56 = .ok (.iload_n 3, 1) := zo_29 (by decide +kernel)
theorem dX12_land_57 : decode cX12_land 57 = .ok (.aload_n 0, 1) := zo_42 (by decide +kernel)
theorem dX12_land_58 : decode cX12_land 58 = .ok (.iload_n 2, 1) := zo_28 (by decide +kernel)
theorem dX12_land_59 : decode cX12_land 59 = .ok (.bipush 10, 2) := zo_16 (by decide +kernel)
theorem dX12_land_61 : decode cX12_land 61 = .ok (.idiv, 1) := zo_108 (by decide +kernel)
theorem dX12_land_62 : decode cX12_land 62 = .ok (.bipush 10, 2) := zo_16 (by decide +kernel)
theorem dX12_land_64 : decode cX12_land 64 = .ok (.isub, 1) := zo_100 (by decide +kernel)
theorem dX12_land_65 : decode cX12_land 65 = .ok (.invokevirtual 181, 3) := zo_182 (by decide +kernel)
theorem dX12_land_68 : decode cX12_land 68 = .ok (.if_icmp .ge 18, 3) := zo_162 (by decide +kernel)
theorem dX12_land_71 : decode cX12_land 71 = .ok (.aload_n 0, 1) := zo_42 (by decide +kernel)
theorem dX12_land_72 : decode cX12_land 72 = .ok (.iload_n 2, 1) := zo_28 (by decide +kernel)
theorem dX12_land_73 : decode cX12_land 73 = .ok (.bipush 10, 2) := zo_16 (by decide +kernel)
theorem dX12_land_75 : decode cX12_land 75 = .ok (.idiv, 1) := zo_108 (by decide +kernel)
theorem dX12_land_76 : decode cX12_land 76 = .ok (.bipush 10, 2) := zo_16 (by decide +kernel)
theorem dX12_land_78 : decode cX12_land 78 = .ok (.isub, 1) := zo_100 (by decide +kernel)
theorem dX12_land_79 : decode cX12_land 79 = .ok (.iload_n 3, 1) := zo_29 (by decide +kernel)
theorem dX12_land_80 : decode cX12_land 80 = .ok (.invokevirtual 190, 3) := zo_182 (by decide +kernel)
theorem dX12_land_83 : decode cX12_land 83 = .ok (.goto 4, 3) := zo_167 (by decide +kernel)
theorem dX12_land_86 : decode cX12_land 86 = .ok (.iconst (-1), 1) := zo_2 (by decide +kernel)
theorem dX12_land_87 : decode cX12_land 87 = .ok (.ireturn, 1) := zo_172 (by decide +kernel)
theorem dX12_land_88 : decode cX12_land 88 = .ok (.iload_n 2, 1) := zo_28 (by decide +kernel)
theorem dX12_land_89 : decode cX12_land 89 = .ok (.bipush 10, 2) := zo_16 (by decide +kernel)
theorem dX12_land_91 : decode cX12_land 91 = .ok (.bipush 39, 2) := zo_16 (by decide +kernel)
theorem dX12_land_93 : decode cX12_land 93 = .ok (.invokestatic 111, 3) := zo_184 (by decide +kernel)
theorem dX12_land_96 : decode cX12_land 96 = .ok (.ifCond .eq 11, 3) := zo_153 (by decide +kernel)
theorem dX12_land_99 : decode cX12_land 99 = .ok (.aload_n 0, 1) := zo_42 (by decide +kernel)
theorem dX12_land_100 : decode cX12_land 100 = .ok (.iload_n 3, 1) := zo_29 (by decide +kernel)
theorem dX12_land_101 : decode cX12_land 101 = .ok (.invokevirtual 187, 3) := zo_182 (by decide +kernel)
theorem dX12_land_104 : decode cX12_land 104 = .ok (.ifCond .ne 5, 3) := zo_154 (by decide +kernel)
theorem dX12_land_107 : decode cX12_land 107 = .ok (.iconst (-1), 1) := zo_2 (by decide +kernel)
theorem dX12_land_108 : decode cX12_land 108 = .ok (.ireturn, 1) := zo_172 (by decide +kernel)
theorem dX12_land_109 : decode cX12_land 109 = .ok (.iload_n 2, 1) := zo_28 (by decide +kernel)
theorem dX12_land_110 : decode cX12_land 110 = .ok (.bipush 20, 2) := zo_16 (by decide +kernel)
theorem dX12_land_112 : decode cX12_land 112 = .ok (.if_icmp .ge 11, 3) := zo_162 (by decide +kernel)
theorem dX12_land_115 : decode cX12_land 115 = .ok (.aload_n 0, 1) := zo_42 (by decide +kernel)
theorem dX12_land_116 : decode cX12_land 116 = .ok (.iload_n 3, 1) := zo_29 (by decide +kernel)
theorem dX12_land_117 : decode cX12_land 117 = .ok (.invokevirtual 181, 3) := zo_182 (by decide +kernel)
theorem dX12_land_120 : decode cX12_land 120 = .ok (.goto 31, 3) := zo_167 (by decide +kernel)
theorem dX12_land_123 : decode cX12_land 123 = .ok (.iload_n 2, 1) := zo_28 (by decide +kernel)
theorem dX12_land_124 : decode cX12_land 124 = .ok (.bipush 30, 2) := zo_16 (by decide +kernel)
theorem dX12_land_126 : decode cX12_land 126 = .ok (.if_icmp .ge 11, 3) := zo_162 (by decide +kernel)
theorem dX12_land_129 : decode cX12_land 129 = .ok (.aload_n 0, 1) := zo_42 (by decide +kernel)
theorem dX12_land_130 : decode cX12_land 130 = .ok (.iload_n 3, 1) := zo_29 (by decide +kernel)
theorem dX12_land_131 : decode cX12_land 131 = .ok (.invokevirtual 193, 3) := zo_182 (by decide +kernel)
theorem dX12_land_134 : decode cX12_land 134 = .ok (.goto 17, 3) := zo_167 (by decide +kernel)
theorem dX12_land_137 : decode cX12_land 137 = .ok (.aload_n 0, 1) := zo_42 (by decide +kernel)
theorem dX12_land_138 : decode cX12_land 138 = .ok (.getfield 7, 3) := zo_180 (by decide +kernel)
theorem dX12_land_141 : decode cX12_land 141 = .ok (.aload_n 0, 1) := zo_42 (by decide +kernel)
theorem dX12_land_142 : decode cX12_land 142 = .ok (.getfield 166, 3) := zo_180 (by decide +kernel)
theorem dX12_land_145 : decode cX12_land 145 = .ok (.bipush 16, 2) := zo_16 (by decide +kernel)
theorem dX12_land_147 : decode cX12_land 147 = .ok (.iadd, 1) := zo_96 (by decide +kernel)
theorem dX12_land_148 : decode cX12_land 148 = .ok (.iload_n 3, 1) := zo_29 (by decide +kernel)
theorem dX12_land_149 : decode cX12_land 149 = .ok (.iadd, 1) := zo_96 (by decide +kernel)
theorem dX12_land_150 : decode cX12_land 150 = .ok (.iaload, 1) := zo_46 (by decide +kernel)
theorem dX12_land_151 : decode cX12_land 151 = .ok (.ireturn, 1) := zo_172 (by decide +kernel)
theorem dX12_walk_0 : decode cX12_walk 0 = .ok (.aload_n 0, 1) := zo_42 (by decide +kernel)
theorem dX12_walk_1 : decode cX12_walk 1 = .ok (.iload_n 1, 1) := zo_27 (by decide +kernel)
theorem dX12_walk_2 : decode cX12_walk 2 = .ok (.invokevirtual 184, 3) := zo_182 (by decide +kernel)
theorem dX12_walk_5 : decode cX12_walk 5 = .ok (.ifCond .eq 11, 3) := zo_153 (by decide +kernel)
theorem dX12_walk_8 : decode cX12_walk 8 = .ok (.aload_n 0, 1) := zo_42 (by decide +kernel)
theorem dX12_walk_9 : decode cX12_walk 9 = .ok (.iload_n 2, 1) := zo_28 (by decide +kernel)
theorem dX12_walk_10 : decode cX12_walk 10 = .ok (.invokevirtual 187, 3) := zo_182 (by decide +kernel)
theorem dX12_walk_13 : decode cX12_walk 13 = .ok (.ifCond .ne 6, 3) := zo_154 (by decide +kernel)
theorem dX12_walk_16 : decode cX12_walk 16 = .ok (.bipush (-2), 2) := zo_16 (by decide +kernel)
theorem dX12_walk_18 : decode cX12_walk 18 = .ok (.ireturn, 1) := zo_172 (by decide +kernel)
theorem dX12_walk_19 : decode cX12_walk 19 = .ok (.aload_n 0, 1) := zo_42 (by decide +kernel)
theorem dX12_walk_20 : decode cX12_walk 20 = .ok (.iload_n 2, 1) := zo_28 (by decide +kernel)
theorem dX12_walk_21 : decode cX12_walk 21 = .ok (.invokevirtual 217, 3) := zo_182 (by decide +kernel)
theorem dX12_walk_24 : decode cX12_walk 24 = .ok (.istore 4, 2) := zo_54 (by decide +kernel)
theorem dX12_walk_26 : decode cX12_walk 26 = .ok (.iload_n 3, 1) := zo_29 (by decide +kernel)
theorem dX12_walk_27 : decode cX12_walk 27 = .ok (.tableswitch 46 0 2 #[25, 30, 35], 25) := by decide +kernel
theorem dX12_walk_52 : decode cX12_walk 52 = .ok (.aload_n 0, 1) := zo_42 (by decide +kernel)
theorem dX12_walk_53 : decode cX12_walk 53 = .ok (.getfield 208, 3) := zo_180 (by decide +kernel)
theorem dX12_walk_56 : decode cX12_walk 56 = .ok (.ireturn, 1) := zo_172 (by decide +kernel)
theorem dX12_walk_57 : decode cX12_walk 57 = .ok (.aload_n 0, 1) := zo_42 (by decide +kernel)
theorem dX12_walk_58 : decode cX12_walk 58 = .ok (.getfield 202, 3) := zo_180 (by decide +kernel)
theorem dX12_walk_61 : decode cX12_walk 61 = .ok (.ireturn, 1) := zo_172 (by decide +kernel)
theorem dX12_walk_62 : decode cX12_walk 62 = .ok (.iload 4, 2) := zo_21 (by decide +kernel)
theorem dX12_walk_64 : decode cX12_walk 64 = .ok (.ifCond .eq 7, 3) := zo_153 (by decide +kernel)
theorem dX12_walk_67 : decode cX12_walk 67 = .ok (.iconst 1, 1) := zo_4 (by decide +kernel)
theorem dX12_walk_68 : decode cX12_walk 68 = .ok (.goto 4, 3) := zo_167 (by decide +kernel)
theorem dX12_walk_71 : decode cX12_walk 71 = .ok (.iconst 0, 1) := zo_3 (by decide +kernel)
theorem dX12_walk_72 : decode cX12_walk 72 = .ok (.ireturn, 1) := zo_172 (by decide +kernel)
theorem dX12_walk_73 : decode cX12_walk 73 = .ok (.iload_n 3, 1) := zo_29 (by decide +kernel)
theorem dX12_walk_74 : decode cX12_walk 74 = .ok (.bipush 10, 2) := zo_16 (by decide +kernel)
theorem dX12_walk_76 : decode cX12_walk 76 = .ok (.bipush 16, 2) := zo_16 (by decide +kernel)
theorem dX12_walk_78 : decode cX12_walk 78 = .ok (.invokestatic 111, 3) := zo_184 (by decide +kernel)
theorem dX12_walk_81 : decode cX12_walk 81 = .ok (.ifCond .eq 26, 3) := zo_153 (by decide +kernel)
theorem dX12_walk_84 : decode cX12_walk 84 = .ok (.aload_n 0, 1) := zo_42 (by decide +kernel)
theorem dX12_walk_85 : decode cX12_walk 85 = .ok (.iload_n 3, 1) := zo_29 (by decide +kernel)
theorem dX12_walk_86 : decode cX12_walk 86 = .ok (.bipush 10, 2) := zo_16 (by decide +kernel)
theorem dX12_walk_88 : decode cX12_walk 88 = .ok (.isub, 1) := zo_100 (by decide +kernel)
theorem dX12_walk_89 : decode cX12_walk 89 = .ok (.invokevirtual 187, 3) := zo_182 (by decide +kernel)
theorem dX12_walk_92 : decode cX12_walk 92 = .ok (.ifCond .eq 15, 3) := zo_153 (by decide +kernel)
theorem dX12_walk_95 : decode cX12_walk 95 = .ok (.aload_n 0, 1) := zo_42 (by decide +kernel)
theorem dX12_walk_96 : decode cX12_walk 96 = .ok (.getfield 29, 3) := zo_180 (by decide +kernel)
theorem dX12_walk_99 : decode cX12_walk 99 = .ok (.iload_n 3, 1) := zo_29 (by decide +kernel)
theorem dX12_walk_100 : decode cX12_walk 100 = .ok (.bipush 10, 2) := zo_16 (by decide +kernel)
theorem dX12_walk_102 : decode cX12_walk 102 = .ok (.isub, 1) := zo_100 (by decide +kernel)
theorem dX12_walk_103 : decode cX12_walk 103 = .ok (.iaload, 1) := zo_46 (by decide +kernel)
theorem dX12_walk_104 : decode cX12_walk 104 = .ok (.goto 5, 3) := zo_167 (by decide +kernel)
theorem dX12_walk_107 : decode cX12_walk 107 = .ok (.bipush (-2), 2) := zo_16 (by decide +kernel)
theorem dX12_walk_109 : decode cX12_walk 109 = .ok (.ireturn, 1) := zo_172 (by decide +kernel)
theorem dX12_come_0 : decode cX12_come 0 = .ok (.aload_n 0, 1) := zo_42 (by decide +kernel)
theorem dX12_come_1 : decode cX12_come 1 = .ok (.iload_n 1, 1) := zo_27 (by decide +kernel)
theorem dX12_come_2 : decode cX12_come 2 = .ok (.invokevirtual 184, 3) := zo_182 (by decide +kernel)
theorem dX12_come_5 : decode cX12_come 5 = .ok (.ifCond .eq 21, 3) := zo_153 (by decide +kernel)
theorem dX12_come_8 : decode cX12_come 8 = .ok (.aload_n 0, 1) := zo_42 (by decide +kernel)
theorem dX12_come_9 : decode cX12_come 9 = .ok (.iload_n 2, 1) := zo_28 (by decide +kernel)
theorem dX12_come_10 : decode cX12_come 10 = .ok (.invokevirtual 187, 3) := zo_182 (by decide +kernel)
theorem dX12_come_13 : decode cX12_come 13 = .ok (.ifCond .eq 13, 3) := zo_153 (by decide +kernel)
theorem dX12_come_16 : decode cX12_come 16 = .ok (.iload_n 3, 1) := zo_29 (by decide +kernel)
theorem dX12_come_17 : decode cX12_come 17 = .ok (.iconst 1, 1) := zo_4 (by decide +kernel)
theorem dX12_come_18 : decode cX12_come 18 = .ok (.bipush 99, 2) := zo_16 (by decide +kernel)
theorem dX12_come_20 : decode cX12_come 20 = .ok (.invokestatic 111, 3) := zo_184 (by decide +kernel)
theorem dX12_come_23 : decode cX12_come 23 = .ok (.ifCond .ne 5, 3) := zo_154 (by decide +kernel)
theorem dX12_come_26 : decode cX12_come 26 = .ok (.iconst (-1), 1) := zo_2 (by decide +kernel)
theorem dX12_come_27 : decode cX12_come 27 = .ok (.ireturn, 1) := zo_172 (by decide +kernel)
theorem dX12_come_28 : decode cX12_come 28 = .ok (.iconst 0, 1) := zo_3 (by decide +kernel)
theorem dX12_come_29 : decode cX12_come 29 = .ok (.istore 4, 2) := zo_54 (by decide +kernel)
theorem dX12_come_31 : decode cX12_come 31 = .ok (.iload 4, 2) := zo_21 (by decide +kernel)
theorem dX12_come_33 : decode cX12_come 33 = .ok (.iload_n 3, 1) := zo_29 (by decide +kernel)
theorem dX12_come_34 : decode cX12_come 34 = .ok (.if_icmp .ge 15, 3) := zo_162 (by decide +kernel)
theorem dX12_come_37 : decode cX12_come 37 = .ok (.aload_n 0, 1) := zo_42 (by decide +kernel)
theorem dX12_come_38 : decode cX12_come 38 = .ok (.iload_n 2, 1) := zo_28 (by decide +kernel)
theorem dX12_come_39 : decode cX12_come 39 = .ok (.invokevirtual 217, 3) := zo_182 (by decide +kernel)
theorem dX12_come_42 : decode cX12_come 42 = .ok (.pop, 1) := zo_87 (by decide +kernel)
theorem dX12_come_43 : decode cX12_come 43 = .ok (.iinc 4 1, 3) := zo_132 (by decide +kernel)
theorem dX12_come_46 : decode cX12_come 46 = .ok (.goto (-15), 3) := zo_167 (by decide +kernel)
theorem dX12_come_49 : decode cX12_come 49 = .ok (.aload_n 0, 1) := zo_42 (by decide +kernel)
theorem dX12_come_50 : decode cX12_come 50 = .ok (.getfield 202, 3) := zo_180 (by decide +kernel)
theorem dX12_come_53 : decode cX12_come 53 = .ok (.ireturn, 1) := zo_172 (by decide +kernel)
theorem dX12_share_0 : decode cX12_share 0 = .ok (.aload_n 0, 1) := zo_42 (by decide +kernel)
theorem dX12_share_1 : decode cX12_share 1 = .ok (.iload_n 1, 1) := zo_27 (by decide +kernel)
theorem dX12_share_2 : decode cX12_share 2 = .ok (.invokevirtual 184, 3) := zo_182 (by decide +kernel)
theorem dX12_share_5 : decode cX12_share 5 = .ok (.ifCond .eq 39, 3) := zo_153 (by decide +kernel)
theorem dX12_share_8 : decode cX12_share 8 = .ok (.aload_n 0, 1) := zo_42 (by decide +kernel)
theorem dX12_share_9 : decode cX12_share 9 = .ok (.iload_n 2, 1) := zo_28 (by decide +kernel)
theorem dX12_share_10 : decode cX12_share 10 = .ok (.invokevirtual 187, 3) := zo_182 (by decide +kernel)
theorem dX12_share_13 : decode cX12_share 13 = .ok (.ifCond .eq 31, 3) := zo_153 (by decide +kernel)
theorem dX12_share_16 : decode cX12_share 16 = .ok (.iload_n 3, 1) := zo_29 (by decide +kernel)
theorem dX12_share_17 : decode cX12_share 17 = .ok (.iconst 0, 1) := zo_3 (by decide +kernel)
theorem dX12_share_18 : decode cX12_share 18 = .ok (.bipush 99, 2) := zo_16 (by decide +kernel)
theorem dX12_share_20 : decode cX12_share 20 = .ok (.invokestatic 111, 3) := zo_184 (by decide +kernel)
theorem dX12_share_23 : decode cX12_share 23 = .ok (.ifCond .eq 21, 3) := zo_153 (by decide +kernel)
theorem dX12_share_26 : decode cX12_share 26 = .ok (.aload_n 0, 1) := zo_42 (by decide +kernel)
theorem dX12_share_27 : decode cX12_share 27 = .ok (.iload 4, 2) := zo_21 (by decide +kernel)
theorem dX12_share_29 : decode cX12_share 29 = .ok (.invokevirtual 187, 3) := zo_182 (by decide +kernel)
theorem dX12_share_32 : decode cX12_share 32 = .ok (.ifCond .eq 12, 3) := zo_153 (by decide +kernel)
theorem dX12_share_35 : decode cX12_share 35 = .ok (.aload_n 0, 1) := zo_42 (by decide +kernel)
theorem dX12_share_36 : decode cX12_share 36 = .ok (.iload 4, 2) := zo_21 (by decide +kernel)
theorem dX12_share_38 : decode cX12_share 38 = .ok (.invokevirtual 178, 3) := zo_182 (by decide +kernel)
theorem dX12_share_41 : decode cX12_share 41 = .ok (.ifCond .ne 5, 3) := zo_154 (by decide +kernel)
theorem dX12_share_44 : decode cX12_share 44 = .ok (.iconst (-1), 1) := zo_2 (by decide +kernel)
theorem dX12_share_45 : decode cX12_share 45 = .ok (.ireturn, 1) := zo_172 (by decide +kernel)
theorem dX12_share_46 : decode cX12_share 46 = .ok (.iconst 0, 1) := zo_3 (by decide +kernel)
theorem dX12_share_47 : decode cX12_share 47 = .ok (.istore 5, 2) := zo_54 (by decide +kernel)
theorem dX12_share_49 : decode cX12_share 49 = .ok (.iconst 0, 1) := zo_3 (by decide +kernel)
theorem dX12_share_50 : decode cX12_share 50 = .ok (.istore 6, 2) := zo_54 (by decide +kernel)
theorem dX12_share_52 : decode cX12_share 52 = .ok (.iload 6, 2) := zo_21 (by decide +kernel)
theorem dX12_share_54 : decode cX12_share 54 = .ok (.iload_n 3, 1) := zo_29 (by decide +kernel)
theorem dX12_share_55 : decode cX12_share 55 = .ok (.if_icmp .ge 34, 3) := zo_162 (by decide +kernel)
theorem dX12_share_58 : decode cX12_share 58 = .ok (.aload_n 0, 1) := zo_42 (by decide +kernel)
theorem dX12_share_59 : decode cX12_share 59 = .ok (.iload_n 2, 1) := zo_28 (by decide +kernel)
theorem dX12_share_60 : decode cX12_share 60 = .ok (.invokevirtual 217, 3) := zo_182 (by decide +kernel)
theorem dX12_share_63 : decode cX12_share 63 = .ok (.pop, 1) := zo_87 (by decide +kernel)
theorem dX12_share_64 : decode cX12_share 64 = .ok (.iload 5, 2) := zo_21 (by decide +kernel)
theorem dX12_share_66 : decode cX12_share 66 = .ok (.aload_n 0, 1) := zo_42 (by decide +kernel)
theorem dX12_share_67 : decode cX12_share 67 = .ok (.getfield 202, 3) := zo_180 (by decide +kernel)
theorem dX12_share_70 : decode cX12_share 70 = .ok (.iload 4, 2) := zo_21 (by decide +kernel)
theorem dX12_share_72 : decode cX12_share 72 = .ok (.if_icmp .ne 7, 3) := zo_160 (by decide +kernel)
theorem dX12_share_75 : decode cX12_share 75 = .ok (.iconst 1, 1) := zo_4 (by decide +kernel)
theorem dX12_share_76 : decode cX12_share 76 = .ok (.goto 4, 3) := zo_167 (by decide +kernel)
theorem dX12_share_79 : decode cX12_share 79 = .ok (.iconst 0, 1) := zo_3 (by decide +kernel)
theorem dX12_share_80 : decode cX12_share 80 = .ok (.iadd, 1) := zo_96 (by decide +kernel)
theorem dX12_share_81 : decode cX12_share 81 = .ok (.istore 5, 2) := zo_54 (by decide +kernel)
theorem dX12_share_83 : decode cX12_share 83 = .ok (.iinc 6 1, 3) := zo_132 (by decide +kernel)
theorem dX12_share_86 : decode cX12_share 86 = .ok (.goto (-34), 3) := zo_167 (by decide +kernel)
theorem dX12_share_89 : decode cX12_share 89 = .ok (.iload 5, 2) := zo_21 (by decide +kernel)
theorem dX12_share_91 : decode cX12_share 91 = .ok (.ireturn, 1) := zo_172 (by decide +kernel)
theorem dX12_endOf_0 : decode cX12_endOf 0 = .ok (.aload_n 0, 1) := zo_42 (by decide +kernel)
theorem dX12_endOf_1 : decode cX12_endOf 1 = .ok (.iload_n 1, 1) := zo_27 (by decide +kernel)
theorem dX12_endOf_2 : decode cX12_endOf 2 = .ok (.invokevirtual 184, 3) := zo_182 (by decide +kernel)
theorem dX12_endOf_5 : decode cX12_endOf 5 = .ok (.ifCond .ne 6, 3) := zo_154 (by decide +kernel)
theorem dX12_endOf_8 : decode cX12_endOf 8 = .ok (.bipush (-2), 2) := zo_16 (by decide +kernel)
theorem dX12_endOf_10 : decode cX12_endOf 10 = .ok (.ireturn, 1) := zo_172 (by decide +kernel)
theorem dX12_endOf_11 : decode cX12_endOf 11 = .ok (.iconst 0, 1) := zo_3 (by decide +kernel)
theorem dX12_endOf_12 : decode cX12_endOf 12 = .ok (.istore_n 3, 1) := zo_62 (by decide +kernel)
theorem dX12_endOf_13 : decode cX12_endOf 13 = .ok (.iload_n 3, 1) := zo_29 (by decide +kernel)
theorem dX12_endOf_14 : decode cX12_endOf 14 = .ok (.bipush 7, 2) := zo_16 (by decide +kernel)
theorem dX12_endOf_16 : decode cX12_endOf 16 = .ok (.if_icmp .ge 16, 3) := zo_162 (by decide +kernel)
theorem dX12_endOf_19 : decode cX12_endOf 19 = .ok (.aload_n 0, 1) := zo_42 (by decide +kernel)
theorem dX12_endOf_20 : decode cX12_endOf 20 = .ok (.getfield 32, 3) := zo_180 (by decide +kernel)
theorem dX12_endOf_23 : decode cX12_endOf 23 = .ok (.iload_n 3, 1) := zo_29 (by decide +kernel)
theorem dX12_endOf_24 : decode cX12_endOf 24 = .ok (.iconst 0, 1) := zo_3 (by decide +kernel)
theorem dX12_endOf_25 : decode cX12_endOf 25 = .ok (.iastore, 1) := zo_79 (by decide +kernel)
theorem dX12_endOf_26 : decode cX12_endOf 26 = .ok (.iinc 3 1, 3) := zo_132 (by decide +kernel)
theorem dX12_endOf_29 : decode cX12_endOf 29 = .ok (.goto (-16), 3) := zo_167 (by decide +kernel)
theorem dX12_endOf_32 : decode cX12_endOf 32 = .ok (.iconst 0, 1) := zo_3 (by decide +kernel)
theorem dX12_endOf_33 : decode cX12_endOf 33 = .ok (.istore_n 3, 1) := zo_62 (by decide +kernel)
theorem dX12_endOf_34 : decode cX12_endOf 34 = .ok (.iload_n 3, 1) := zo_29 (by decide +kernel)
theorem dX12_endOf_35 : decode cX12_endOf 35 = .ok (.aload_n 0, 1) := zo_42 (by decide +kernel)
theorem dX12_endOf_36 : decode cX12_endOf 36 = .ok (.getfield 169, 3) := zo_180 (by decide +kernel)
theorem dX12_endOf_39 : decode cX12_endOf 39 = .ok (.if_icmp .ge 61, 3) := zo_162 (by decide +kernel)
theorem dX12_endOf_42 : decode cX12_endOf 42 = .ok (.iconst 0, 1) := zo_3 (by decide +kernel)
theorem dX12_endOf_43 : decode cX12_endOf 43 = .ok (.istore 4, 2) := zo_54 (by decide +kernel)
theorem dX12_endOf_45 : decode cX12_endOf 45 = .ok (.iload 4, 2) := zo_21 (by decide +kernel)
theorem dX12_endOf_47 : decode cX12_endOf 47 = .ok (.aload_n 0, 1) := zo_42 (by decide +kernel)
theorem dX12_endOf_48 : decode cX12_endOf 48 = .ok (.getfield 26, 3) := zo_180 (by decide +kernel)
theorem dX12_endOf_51 : decode cX12_endOf 51 = .ok (.iload_n 3, 1) := zo_29 (by decide +kernel)
theorem dX12_endOf_52 : decode cX12_endOf 52 = .ok (.iaload, 1) := zo_46 (by decide +kernel)
theorem dX12_endOf_53 : decode cX12_endOf 53 = .ok (.if_icmp .ge 41, 3) := zo_162 (by decide +kernel)
theorem dX12_endOf_56 : decode cX12_endOf 56 = .ok (.aload_n 0, 1) := zo_42 (by decide +kernel)
theorem dX12_endOf_57 : decode cX12_endOf 57 = .ok (.iload_n 3, 1) := zo_29 (by decide +kernel)
theorem dX12_endOf_58 : decode cX12_endOf 58 = .ok (.invokevirtual 217, 3) := zo_182 (by decide +kernel)
theorem dX12_endOf_61 : decode cX12_endOf 61 = .ok (.pop, 1) := zo_87 (by decide +kernel)
theorem dX12_endOf_62 : decode cX12_endOf 62 = .ok (.aload_n 0, 1) := zo_42 (by decide +kernel)
theorem dX12_endOf_63 : decode cX12_endOf 63 = .ok (.dup, 1) := zo_89 (by decide +kernel)
theorem dX12_endOf_64 : decode cX12_endOf 64 = .ok (.getfield 196, 3) := zo_180 (by decide +kernel)
theorem dX12_endOf_67 : decode cX12_endOf 67 = .ok (.aload_n 0, 1) := zo_42 (by decide +kernel)
theorem dX12_endOf_68 : decode cX12_endOf 68 = .ok (.getfield 208, 3) := zo_180 (by decide +kernel)
theorem dX12_endOf_71 : decode cX12_endOf 71 = .ok (.iadd, 1) := zo_96 (by decide +kernel)
theorem dX12_endOf_72 : decode cX12_endOf 72 = .ok (.putfield 196, 3) := zo_181 (by decide +kernel)
theorem dX12_endOf_75 : decode cX12_endOf 75 = .ok (.aload_n 0, 1) := zo_42 (by decide +kernel)
theorem dX12_endOf_76 : decode cX12_endOf 76 = .ok (.getfield 32, 3) := zo_180 (by decide +kernel)
theorem dX12_endOf_79 : decode cX12_endOf 79 = .ok (.aload_n 0, 1) := zo_42 (by decide +kernel)
theorem dX12_endOf_80 : decode cX12_endOf 80 = .ok (.getfield 202, 3) := zo_180 (by decide +kernel)
theorem dX12_endOf_83 : decode cX12_endOf 83 = .ok (.dup2, 1) := zo_92 (by decide +kernel)
theorem dX12_endOf_84 : decode cX12_endOf 84 = .ok (.iaload, 1) := zo_46 (by decide +kernel)
theorem dX12_endOf_85 : decode cX12_endOf 85 = .ok (.iconst 1, 1) := zo_4 (by decide +kernel)
theorem dX12_endOf_86 : decode cX12_endOf 86 = .ok (.iadd, 1) := zo_96 (by decide +kernel)
theorem dX12_endOf_87 : decode cX12_endOf 87 = .ok (.iastore, 1) := zo_79 (by decide +kernel)
theorem dX12_endOf_88 : decode cX12_endOf 88 = .ok (.iinc 4 1, 3) := zo_132 (by decide +kernel)
theorem dX12_endOf_91 : decode cX12_endOf 91 = .ok (.goto (-46), 3) := zo_167 (by decide +kernel)
theorem dX12_endOf_94 : decode cX12_endOf 94 = .ok (.iinc 3 1, 3) := zo_132 (by decide +kernel)
theorem dX12_endOf_97 : decode cX12_endOf 97 = .ok (.goto (-63), 3) := zo_167 (by decide +kernel)
theorem dX12_endOf_100 : decode cX12_endOf 100 = .ok (.iload_n 2, 1) := zo_28 (by decide +kernel)
theorem dX12_endOf_101 : decode cX12_endOf 101 = .ok (.ifCond .ne 8, 3) := zo_154 (by decide +kernel)
theorem dX12_endOf_104 : decode cX12_endOf 104 = .ok (.aload_n 0, 1) := zo_42 (by decide +kernel)
theorem dX12_endOf_105 : decode cX12_endOf 105 = .ok (.getfield 196, 3) := zo_180 (by decide +kernel)
theorem dX12_endOf_108 : decode cX12_endOf 108 = .ok (.ireturn, 1) := zo_172 (by decide +kernel)
theorem dX12_endOf_109 : decode cX12_endOf 109 = .ok (.iload_n 2, 1) := zo_28 (by decide +kernel)
theorem dX12_endOf_110 : decode cX12_endOf 110 = .ok (.bipush 10, 2) := zo_16 (by decide +kernel)
theorem dX12_endOf_112 : decode cX12_endOf 112 = .ok (.irem, 1) := zo_112 (by decide +kernel)
theorem dX12_endOf_113 : decode cX12_endOf 113 = .ok (.istore_n 3, 1) := zo_62 (by decide +kernel)
theorem dX12_endOf_114 : decode cX12_endOf 114 = .ok (.iload_n 2, 1) := zo_28 (by decide +kernel)
theorem dX12_endOf_115 : decode cX12_endOf 115 = .ok (.bipush 10, 2) := zo_16 (by decide +kernel)
theorem dX12_endOf_117 : decode cX12_endOf 117 = .ok (.bipush 29, 2) := zo_16 (by decide +kernel)
theorem dX12_endOf_119 : decode cX12_endOf 119 = .ok (.invokestatic 111, 3) := zo_184 (by decide +kernel)
theorem dX12_endOf_122 : decode cX12_endOf 122 = .ok (.ifCond .eq 11, 3) := zo_153 (by decide +kernel)
theorem dX12_endOf_125 : decode cX12_endOf 125 = .ok (.aload_n 0, 1) := zo_42 (by decide +kernel)
theorem dX12_endOf_126 : decode cX12_endOf 126 = .ok (.iload_n 3, 1) := zo_29 (by decide +kernel)
theorem dX12_endOf_127 : decode cX12_endOf 127 = .ok (.invokevirtual 187, 3) := zo_182 (by decide +kernel)
theorem dX12_endOf_130 : decode cX12_endOf 130 = .ok (.ifCond .ne 8, 3) := zo_154 (by decide +kernel)
theorem dX12_endOf_133 : decode cX12_endOf 133 = .ok (.bipush (-2), 2) := zo_16 (by decide +kernel)
theorem dX12_endOf_135 : decode cX12_endOf 135 = .ok (.goto 24, 3) := zo_167 (by decide +kernel)
theorem dX12_endOf_138 : decode cX12_endOf 138 = .ok (.iload_n 2, 1) := zo_28 (by decide +kernel)
theorem dX12_endOf_139 : decode cX12_endOf 139 = .ok (.bipush 20, 2) := zo_16 (by decide +kernel)
theorem dX12_endOf_141 : decode cX12_endOf 141 = .ok (.if_icmp .ge 12, 3) := zo_162 (by decide +kernel)
theorem dX12_endOf_144 : decode cX12_endOf 144 = .ok (.aload_n 0, 1) := zo_42 (by decide +kernel)
theorem dX12_endOf_145 : decode cX12_endOf 145 = .ok (.getfield 32, 3) := zo_180 (by decide +kernel)
theorem dX12_endOf_148 : decode cX12_endOf 148 = .ok (.iload_n 3, 1) := zo_29 (by decide +kernel)
theorem dX12_endOf_149 : decode cX12_endOf 149 = .ok (.iaload, 1) := zo_46 (by decide +kernel)
theorem dX12_endOf_150 : decode cX12_endOf 150 = .ok (.goto 9, 3) := zo_167 (by decide +kernel)
theorem dX12_endOf_153 : decode cX12_endOf 153 = .ok (.aload_n 0, 1) := zo_42 (by decide +kernel)
theorem dX12_endOf_154 : decode cX12_endOf 154 = .ok (.getfield 20, 3) := zo_180 (by decide +kernel)
theorem dX12_endOf_157 : decode cX12_endOf 157 = .ok (.iload_n 3, 1) := zo_29 (by decide +kernel)
theorem dX12_endOf_158 : decode cX12_endOf 158 = .ok (.iaload, 1) := zo_46 (by decide +kernel)
theorem dX12_endOf_159 : decode cX12_endOf 159 = .ok (.ireturn, 1) := zo_172 (by decide +kernel)
theorem dX12_period_0 : decode cX12_period 0 = .ok (.aload_n 0, 1) := zo_42 (by decide +kernel)
theorem dX12_period_1 : decode cX12_period 1 = .ok (.iload_n 1, 1) := zo_27 (by decide +kernel)
theorem dX12_period_2 : decode cX12_period 2 = .ok (.invokevirtual 184, 3) := zo_182 (by decide +kernel)
theorem dX12_period_5 : decode cX12_period 5 = .ok (.ifCond .eq 11, 3) := zo_153 (by decide +kernel)
theorem dX12_period_8 : decode cX12_period 8 = .ok (.aload_n 0, 1) := zo_42 (by decide +kernel)
theorem dX12_period_9 : decode cX12_period 9 = .ok (.iload_n 2, 1) := zo_28 (by decide +kernel)
theorem dX12_period_10 : decode cX12_period 10 = .ok (.invokevirtual 187, 3) := zo_182 (by decide +kernel)
theorem dX12_period_13 : decode cX12_period 13 = .ok (.ifCond .ne 5, 3) := zo_154 (by decide +kernel)
theorem dX12_period_16 : decode cX12_period 16 = .ok (.iconst (-1), 1) := zo_2 (by decide +kernel)
theorem dX12_period_17 : decode cX12_period 17 = .ok (.ireturn, 1) := zo_172 (by decide +kernel)
theorem dX12_period_18 : decode cX12_period 18 = .ok (.iconst 0, 1) := zo_3 (by decide +kernel)
theorem dX12_period_19 : decode cX12_period 19 = .ok (.istore 4, 2) := zo_54 (by decide +kernel)
theorem dX12_period_21 : decode cX12_period 21 = .ok (.iload 4, 2) := zo_21 (by decide +kernel)
theorem dX12_period_23 : decode cX12_period 23 = .ok (.sipush 16384, 3) := zo_17 (by decide +kernel)
theorem dX12_period_26 : decode cX12_period 26 = .ok (.if_icmp .ge 17, 3) := zo_162 (by decide +kernel)
theorem dX12_period_29 : decode cX12_period 29 = .ok (.aload_n 0, 1) := zo_42 (by decide +kernel)
theorem dX12_period_30 : decode cX12_period 30 = .ok (.getfield 35, 3) := zo_180 (by decide +kernel)
theorem dX12_period_33 : decode cX12_period 33 = .ok (.iload 4, 2) := zo_21 (by decide +kernel)
theorem dX12_period_35 : decode cX12_period 35 = .ok (.iconst 0, 1) := zo_3 (by decide +kernel)
theorem dX12_period_36 : decode cX12_period 36 = .ok (.iastore, 1) := zo_79 (by decide +kernel)
theorem dX12_period_37 : decode cX12_period 37 = .ok (.iinc 4 1, 3) := zo_132 (by decide +kernel)
theorem dX12_period_40 : decode cX12_period 40 = .ok (.goto (-19), 3) := zo_167 (by decide +kernel)
theorem dX12_period_43 : decode cX12_period 43 = .ok (.aload_n 0, 1) := zo_42 (by decide +kernel)
theorem dX12_period_44 : decode cX12_period 44 = .ok (.getfield 35, 3) := zo_180 (by decide +kernel)
theorem dX12_period_47 : decode cX12_period 47 = .ok (.aload_n 0, 1) := zo_42 (by decide +kernel)
theorem dX12_period_48 : decode cX12_period 48 = .ok (.invokevirtual 220, 3) := zo_182 (by decide +kernel)
theorem dX12_period_51 : decode cX12_period 51 = .ok (.iconst 1, 1) := zo_4 (by decide +kernel)
theorem dX12_period_52 : decode cX12_period 52 = .ok (.iastore, 1) := zo_79 (by decide +kernel)
theorem dX12_period_53 : decode cX12_period 53 = .ok (.iconst 1, 1) := zo_4 (by decide +kernel)
theorem dX12_period_54 : decode cX12_period 54 = .ok (.istore 4, 2) := zo_54 (by decide +kernel)
theorem dX12_period_56 : decode cX12_period 56 = .ok (.iload 4, 2) := zo_21 (by decide +kernel)
theorem dX12_period_58 : decode cX12_period 58 = .ok (.sipush 1000, 3) := zo_17 (by decide +kernel)
theorem dX12_period_61 : decode cX12_period 61 = .ok (.if_icmp .ge 63, 3) := zo_162 (by decide +kernel)
theorem dX12_period_64 : decode cX12_period 64 = .ok (.aload_n 0, 1) := zo_42 (by decide +kernel)
theorem dX12_period_65 : decode cX12_period 65 = .ok (.iload_n 2, 1) := zo_28 (by decide +kernel)
theorem dX12_period_66 : decode cX12_period 66 = .ok (.invokevirtual 217, 3) := zo_182 (by decide +kernel)
theorem dX12_period_69 : decode cX12_period 69 = .ok (.pop, 1) := zo_87 (by decide +kernel)
theorem dX12_period_70 : decode cX12_period 70 = .ok (.aload_n 0, 1) := zo_42 (by decide +kernel)
theorem dX12_period_71 : decode cX12_period 71 = .ok (.getfield 35, 3) := zo_180 (by decide +kernel)
theorem dX12_period_74 : decode cX12_period 74 = .ok (.aload_n 0, 1) := zo_42 (by decide +kernel)
theorem dX12_period_75 : decode cX12_period 75 = .ok (.invokevirtual 220, 3) := zo_182 (by decide +kernel)
theorem dX12_period_78 : decode cX12_period 78 = .ok (.iaload, 1) := zo_46 (by decide +kernel)
theorem dX12_period_79 : decode cX12_period 79 = .ok (.istore 5, 2) := zo_54 (by decide +kernel)
theorem dX12_period_81 : decode cX12_period 81 = .ok (.iload 5, 2) := zo_21 (by decide +kernel)
theorem dX12_period_83 : decode cX12_period 83 = .ok (.ifCond .le 22, 3) := zo_158 (by decide +kernel)
theorem dX12_period_86 : decode cX12_period 86 = .ok (.iload_n 3, 1) := zo_29 (by decide +kernel)
theorem dX12_period_87 : decode cX12_period 87 = .ok (.ifCond .eq 10, 3) := zo_153 (by decide +kernel)
theorem dX12_period_90 : decode cX12_period 90 = .ok (.iload 5, 2) := zo_21 (by decide +kernel)
theorem dX12_period_92 : decode cX12_period 92 = .ok (.iconst 1, 1) := zo_4 (by decide +kernel)
theorem dX12_period_93 : decode cX12_period 93 = .ok (.isub, 1) := zo_100 (by decide +kernel)
theorem dX12_period_94 : decode cX12_period 94 = .ok (.goto 10, 3) := zo_167 (by decide +kernel)
theorem dX12_period_97 : decode cX12_period 97 = .ok (.iload 4, 2) := zo_21 (by decide +kernel)
theorem dX12_period_99 : decode cX12_period 99 = .ok (.iconst 1, 1) := zo_4 (by decide +kernel)
theorem dX12_period_100 : decode cX12_period 100 = .ok (.iadd, 1) := zo_96 (by decide +kernel)
theorem dX12_period_101 : decode cX12_period 101 = .ok (.iload 5, 2) := zo_21 (by decide +kernel)
theorem dX12_period_103 : decode cX12_period 103 = .ok (.isub, 1) := zo_100 (by decide +kernel)
theorem dX12_period_104 : decode cX12_period 104 = .ok (.ireturn, 1) := zo_172 (by decide +kernel)
theorem dX12_period_105 : decode cX12_period 105 = .ok (.aload_n 0, 1) := zo_42 (by decide +kernel)
theorem dX12_period_106 : decode cX12_period 106 = .ok (.getfield 35, 3) := zo_180 (by decide +kernel)
theorem dX12_period_109 : decode cX12_period 109 = .ok (.aload_n 0, 1) := zo_42 (by decide +kernel)
theorem dX12_period_110 : decode cX12_period 110 = .ok (.invokevirtual 220, 3) := zo_182 (by decide +kernel)
theorem dX12_period_113 : decode cX12_period 113 = .ok (.iload 4, 2) := zo_21 (by decide +kernel)
theorem dX12_period_115 : decode cX12_period 115 = .ok (.iconst 1, 1) := zo_4 (by decide +kernel)
theorem dX12_period_116 : decode cX12_period 116 = .ok (.iadd, 1) := zo_96 (by decide +kernel)
theorem dX12_period_117 : decode cX12_period 117 = .ok (.iastore, 1) := zo_79 (by decide +kernel)
theorem dX12_period_118 : decode cX12_period 118 = .ok (.iinc 4 1, 3) := zo_132 (by decide +kernel)
theorem dX12_period_121 : decode cX12_period 121 = .ok (.goto (-65), 3) := zo_167 (by decide +kernel)
theorem dX12_period_124 : decode cX12_period 124 = .ok (.iconst (-1), 1) := zo_2 (by decide +kernel)
theorem dX12_period_125 : decode cX12_period 125 = .ok (.ireturn, 1) := zo_172 (by decide +kernel)
set_option maxHeartbeats 4000000 in
set_option maxRecDepth 100000 in
/-- c_m_land -/
theorem c_m_land (l : Launch) (T : zTy) (mo : Nat) (m_all : Nat) (m_has : Nat) (i_size : Int32) (i_next : Int32) (i_where : Int32) (i_token : Int32) (i_number : Int32) (i_word : Int32) (i_wrong : Int32) (i_farCrossing : Int32) (m_read : Nat) (i_z0 : Int32) (i_crossings : Int32) (i_inns : Int32) (m_posts : Nat) (m_shut : Nat) (m_here : Nat) (i_steps : Int32) (i_done : Int32) (i_at : Int32) (i_gone : Int32) (m_was : Nat) (m_came : Nat) (m_seenAt : Nat) (m_rowWorth : Nat) (m_farBy : Nat) (m_used : Nat) (i_everywhere : Int32) (i_again0 : Int32) (i_d0 : Int32) (i_never : Int32) (i_firstCame : Int32) (i_longRun : Int32) (i_moved : Int32) (i_crowd : Int32) (i_l0 : Int32) (i_fitMany : Int32) (i_fitLeast : Int32) (i_fitMost : Int32) (m_fitPost : Nat) (m_fitEnd : Nat) (m_keptPosts : Nat) (i_x0 : Int32) (f_all : Nat → Int32) (f_posts : Nat → Int32) (f_shut : Nat → Int32) (f_here : Nat → Int32) (l_ : Int32) (w_ : Int32) (hB : zBI f_all) : zMi l T yX12_land cX12_land 4 (some .int) 5 0 0 [.ref mo, .int l_, .int w_] [[zO11 mo m_all m_has i_size i_next i_where i_token i_number i_word i_wrong i_farCrossing m_read i_z0 i_crossings i_inns m_posts m_shut m_here i_steps i_done i_at i_gone m_was m_came m_seenAt m_rowWorth m_farBy m_used i_everywhere i_again0 i_d0 i_never i_firstCame i_longRun i_moved i_crowd i_l0 i_fitMany i_fitLeast i_fitMost m_fitPost m_fitEnd m_keptPosts i_x0], [zAr T 0 m_all 3952 f_all], [zAr T 0 m_posts 7 f_posts], [zAr T 0 m_shut 7 f_shut], [zAr T 0 m_here 7 f_here]] (fun (r : Int32) bs => ∃ (j_z0 : Int32) (j_crossings : Int32) (j_inns : Int32) (j_steps : Int32) (j_done : Int32) (g_posts : Nat → Int32) (g_shut : Nat → Int32) (g_here : Nat → Int32), bs = [[zO11 mo m_all m_has i_size i_next i_where i_token i_number i_word i_wrong i_farCrossing m_read j_z0 j_crossings j_inns m_posts m_shut m_here j_steps j_done i_at i_gone m_was m_came m_seenAt m_rowWorth m_farBy m_used i_everywhere i_again0 i_d0 i_never i_firstCame i_longRun i_moved i_crowd i_l0 i_fitMany i_fitLeast i_fitMost m_fitPost m_fitEnd m_keptPosts i_x0], [zAr T 0 m_all 3952 f_all], [zAr T 0 m_posts 7 g_posts], [zAr T 0 m_shut 7 g_shut], [zAr T 0 m_here 7 g_here]]) := by
  refine zMi_of (own := RX12) (by decide) rfl (Nat.le_of_ble_eq_true rfl) ?_
  intro p e s m args below meth c A ls C hr hlocks hnm hAe G hl
  refine zHide (fun Qz_ hQz_ => ?_)
  have hx := C.1
  have hb := C.2.1
  have hl : lv_has ls 4 [(0, .ref mo), (1, .int l_), (2, .int w_)] := hl
  refine lv_aload_n hx hb dX12_land_0 rfl (lv_at hl 0 rfl) ?_
  refine lv_iload_n hx hb dX12_land_1 rfl (lv_at hl 1 rfl) ?_
  refine z_Vi (bc := [[zO11 mo m_all m_has i_size i_next i_where i_token i_number i_word i_wrong i_farCrossing m_read i_z0 i_crossings i_inns m_posts m_shut m_here i_steps i_done i_at i_gone m_was m_came m_seenAt m_rowWorth m_farBy m_used i_everywhere i_again0 i_d0 i_never i_firstCame i_longRun i_moved i_crowd i_l0 i_fitMany i_fitLeast i_fitMost m_fitPost m_fitEnd m_keptPosts i_x0], [zAr T 0 m_all 3952 f_all], [zAr T 0 m_posts 7 f_posts], [zAr T 0 m_shut 7 f_shut], [zAr T 0 m_here 7 f_here]]) (br := []) (As := [.int l_]) (rest := []) C G (c_m_isLand l T mo m_all m_has i_size i_next i_where i_token i_number i_word i_wrong i_farCrossing m_read i_z0 i_crossings i_inns m_posts m_shut m_here i_steps i_done i_at i_gone m_was m_came m_seenAt m_rowWorth m_farBy m_used i_everywhere i_again0 i_d0 i_never i_firstCame i_longRun i_moved i_crowd i_l0 i_fitMany i_fitLeast i_fitMost m_fitPost m_fitEnd m_keptPosts i_x0 f_all f_posts f_shut f_here l_ (by first | with_reducible assumption | with_reducible rfl | omega | assumption | rfl | decide)) (kV_RX12_184 C.2.2.2.2 (Nat.le_of_ble_eq_true rfl) (Nat.le_of_ble_eq_true rfl)) [0, 1, 2, 3, 4] [0, 0, 0, 0, 0] rfl rfl (ci := 11) (qc := (RX12, TX12, 43)) rfl rfl (List.mem_flatten.mpr ⟨_, List.mem_of_getElem? (i := 0) rfl, List.mem_cons_self⟩) rfl rfl hl.1 dX12_land_2 (Nat.le_of_ble_eq_true rfl) (Nat.le_of_ble_eq_true rfl) (fun r_10 b1 H locs hw G => ?_)
  refine zEx8 hw ?_
  intro j_z0_1 j_crossings_2 j_inns_3 j_steps_4 j_done_5 g_posts_6 g_shut_7 g_here_8
  refine zCu2 ?_
  intro hbs9 hc_9
  clear hw
  subst hbs9
  have G : zS T A s.heap s [[zO11 mo m_all m_has i_size i_next i_where i_token i_number i_word i_wrong i_farCrossing m_read j_z0_1 j_crossings_2 j_inns_3 m_posts m_shut m_here j_steps_4 j_done_5 i_at i_gone m_was m_came m_seenAt m_rowWorth m_farBy m_used i_everywhere i_again0 i_d0 i_never i_firstCame i_longRun i_moved i_crowd i_l0 i_fitMany i_fitLeast i_fitMost m_fitPost m_fitEnd m_keptPosts i_x0], [zAr T 0 m_all 3952 f_all], [zAr T 0 m_posts 7 g_posts_6], [zAr T 0 m_shut 7 g_shut_7], [zAr T 0 m_here 7 g_here_8]] _ _ := G
  rcases hc_9 with ⟨rfl, h_11, h_12, h_13, h_14, h_15, h_16, h_17, h_18, h_19, h_20, h_21, h_22⟩ | ⟨rfl, h_23⟩
  · have h_11 : 0 ≤ l_.toInt := h_11
    have h_12 : l_.toInt ≤ 1 := h_12
    have h_13 : l_.toInt < (f_all 0).toInt := h_13
    have h_14 : j_z0_1.toInt = 610 + 51 * l_.toInt := h_14
    have h_15 : zML f_all j_z0_1 j_crossings_2 := h_15
    have h_16 : zMP g_posts_6 := h_16
    have h_17 : j_inns_3 = f_all (j_z0_1.toInt.toNat + 1) := h_17
    have h_18 : j_steps_4 = 0 := h_18
    have h_19 : j_done_5 = 0 := h_19
    have h_20 : (∀ j, j < 7 → g_posts_6 j = zPt f_all j_z0_1 (nI j)) := h_20
    have h_21 : (∀ j, j < 7 → g_shut_7 j = 0) := h_21
    have h_22 : (∀ j, j < 7 → g_here_8 j = zWk f_all j_z0_1 j) := h_22
    have hLx := h_15
    have hcr := hLx.cr
    have hzx := hLx.1
    have hPx := h_16
    refine lv_if_eq (tgt := 12) hx hb dX12_land_5 (by decide) (fun q => absurd q (by decide)) (fun _ => ?_)
    refine lv_iload_n hx hb dX12_land_8 rfl (lv_at hl 2 rfl) ?_
    refine lv_if_ge (tgt := 14) hx hb dX12_land_9 (by decide) (fun c_24 => ?_) (fun c_24 => ?_)
    · have c_24n : (0 : Int) ≤ w_.toInt := (fa_le _ _).mp c_24
      refine lv_iload_n hx hb dX12_land_14 rfl (lv_at hl 2 rfl) ?_
      refine lv_iconst (v := 2) hx hb dX12_land_15 (by decide) ?_
      refine lv_icmp_ge (tgt := 31) hx hb dX12_land_16 (by decide) (fun c_25 => ?_) (fun c_25 => ?_)
      · have c_25n : (2 : Int) ≤ w_.toInt := (fa_le _ _).mp c_25
        refine lv_iload_n hx hb dX12_land_31 rfl (lv_at hl 2 rfl) ?_
        refine lv_bipush (v := 10) hx hb dX12_land_32 (by decide) ?_
        refine lv_irem hx hb dX12_land_34 (by decide) ?_
        have hrm := zRem (x := w_) (y := 10) (by omega) (by decide)
        have hdv : 0 ≤ (w_ / 10).toInt := zDiv0 (by omega) (by decide)
        have hdl := Int32.toInt_lt (w_ / 10)
        refine lv_istore_n (lv' := [(3, .int (w_ - w_ / 10 * 10)), (0, .ref mo), (1, .int l_), (2, .int w_)]) hx hb dX12_land_35 rfl hl (by decide) (zLvf_h rfl) (fun ls hl => ?_)
        refine lv_iload_n hx hb dX12_land_36 rfl (lv_at hl 3 rfl) ?_
        refine lv_bipush (v := 100) hx hb dX12_land_37 (by decide) ?_
        refine lv_icmp_lt (tgt := 88) hx hb dX12_land_39 (by decide) (fun c_26 => ?_) (fun c_26 => ?_)
        · have c_26n : w_.toInt < (100 : Int) := (fa_lt _ _).mp c_26
          refine lv_iload_n hx hb dX12_land_88 rfl (lv_at hl 3 rfl) ?_
          refine lv_bipush (v := 10) hx hb dX12_land_89 (by decide) ?_
          refine lv_bipush (v := 39) hx hb dX12_land_91 (by decide) ?_
          refine z_Si (bc := []) (br := [[zO11 mo m_all m_has i_size i_next i_where i_token i_number i_word i_wrong i_farCrossing m_read j_z0_1 j_crossings_2 j_inns_3 m_posts m_shut m_here j_steps_4 j_done_5 i_at i_gone m_was m_came m_seenAt m_rowWorth m_farBy m_used i_everywhere i_again0 i_d0 i_never i_firstCame i_longRun i_moved i_crowd i_l0 i_fitMany i_fitLeast i_fitMost m_fitPost m_fitEnd m_keptPosts i_x0], [zAr T 0 m_all 3952 f_all], [zAr T 0 m_posts 7 g_posts_6], [zAr T 0 m_shut 7 g_shut_7], [zAr T 0 m_here 7 g_here_8]]) (As := [.int w_, .int 10, .int 39]) (rest := []) C G (c_m_isIn l T w_ 10 39) (kS_RX12_111 C.2.2.2.2 (Nat.le_of_ble_eq_true rfl) (Nat.le_of_ble_eq_true rfl)) [] [] rfl rfl rfl rfl hl.1 dX12_land_93 (Nat.le_of_ble_eq_true rfl) (Nat.le_of_ble_eq_true rfl) (fun r_28 b1 H locs hw G => ?_)
          refine zAn2 hw ?_
          intro hbs9 hc_27
          clear hw
          subst hbs9
          have G : zS T A s.heap s [[zO11 mo m_all m_has i_size i_next i_where i_token i_number i_word i_wrong i_farCrossing m_read j_z0_1 j_crossings_2 j_inns_3 m_posts m_shut m_here j_steps_4 j_done_5 i_at i_gone m_was m_came m_seenAt m_rowWorth m_farBy m_used i_everywhere i_again0 i_d0 i_never i_firstCame i_longRun i_moved i_crowd i_l0 i_fitMany i_fitLeast i_fitMost m_fitPost m_fitEnd m_keptPosts i_x0], [zAr T 0 m_all 3952 f_all], [zAr T 0 m_posts 7 g_posts_6], [zAr T 0 m_shut 7 g_shut_7], [zAr T 0 m_here 7 g_here_8]] _ _ := G
          rcases hc_27 with ⟨rfl, h_29, h_30⟩ | ⟨rfl, h_31⟩
          · have h_29 : (10 : Int) ≤ w_.toInt := h_29
            have h_30 : w_.toInt ≤ (39 : Int) := h_30
            refine lv_if_eq (tgt := 107) hx hb dX12_land_96 (by decide) (fun q => absurd q (by decide)) (fun _ => ?_)
            refine lv_aload_n hx hb dX12_land_99 rfl (lv_at hl 1 rfl) ?_
            refine lv_iload_n hx hb dX12_land_100 rfl (lv_at hl 0 rfl) ?_
            refine z_Vi (bc := [[zO11 mo m_all m_has i_size i_next i_where i_token i_number i_word i_wrong i_farCrossing m_read j_z0_1 j_crossings_2 j_inns_3 m_posts m_shut m_here j_steps_4 j_done_5 i_at i_gone m_was m_came m_seenAt m_rowWorth m_farBy m_used i_everywhere i_again0 i_d0 i_never i_firstCame i_longRun i_moved i_crowd i_l0 i_fitMany i_fitLeast i_fitMost m_fitPost m_fitEnd m_keptPosts i_x0]]) (br := [[zAr T 0 m_all 3952 f_all], [zAr T 0 m_posts 7 g_posts_6], [zAr T 0 m_shut 7 g_shut_7], [zAr T 0 m_here 7 g_here_8]]) (As := [.int (w_ - w_ / 10 * 10)]) (rest := []) C G (c_m_isCrossing l T mo m_all m_has i_size i_next i_where i_token i_number i_word i_wrong i_farCrossing m_read j_z0_1 j_crossings_2 j_inns_3 m_posts m_shut m_here j_steps_4 j_done_5 i_at i_gone m_was m_came m_seenAt m_rowWorth m_farBy m_used i_everywhere i_again0 i_d0 i_never i_firstCame i_longRun i_moved i_crowd i_l0 i_fitMany i_fitLeast i_fitMost m_fitPost m_fitEnd m_keptPosts i_x0 (w_ - w_ / 10 * 10) (by first | with_reducible assumption | with_reducible rfl | omega | assumption | rfl | decide)) (kV_RX12_187 C.2.2.2.2 (Nat.le_of_ble_eq_true rfl) (Nat.le_of_ble_eq_true rfl)) [0] [0] rfl rfl (ci := 11) (qc := (RX12, TX12, 43)) rfl rfl (List.mem_flatten.mpr ⟨_, List.mem_of_getElem? (i := 0) rfl, List.mem_cons_self⟩) rfl rfl hl.1 dX12_land_101 (Nat.le_of_ble_eq_true rfl) (Nat.le_of_ble_eq_true rfl) (fun r_33 b1 H locs hw G => ?_)
            refine zAn2 hw ?_
            intro hbs9 hc_32
            clear hw
            subst hbs9
            have G : zS T A s.heap s [[zAr T 0 m_all 3952 f_all], [zAr T 0 m_posts 7 g_posts_6], [zAr T 0 m_shut 7 g_shut_7], [zAr T 0 m_here 7 g_here_8], [zO11 mo m_all m_has i_size i_next i_where i_token i_number i_word i_wrong i_farCrossing m_read j_z0_1 j_crossings_2 j_inns_3 m_posts m_shut m_here j_steps_4 j_done_5 i_at i_gone m_was m_came m_seenAt m_rowWorth m_farBy m_used i_everywhere i_again0 i_d0 i_never i_firstCame i_longRun i_moved i_crowd i_l0 i_fitMany i_fitLeast i_fitMost m_fitPost m_fitEnd m_keptPosts i_x0]] _ _ := G
            rcases hc_32 with ⟨rfl, h_34, h_35⟩ | ⟨rfl, h_36⟩
            · have h_34 : 0 ≤ (w_ - w_ / 10 * 10).toInt := h_34
              have h_35 : (w_ - w_ / 10 * 10).toInt < j_crossings_2.toInt := h_35
              refine lv_if_ne (tgt := 109) hx hb dX12_land_104 (by decide) (fun _ => ?_) (fun q => absurd q (by decide))
              refine lv_iload_n hx hb dX12_land_109 rfl (lv_at hl 3 rfl) ?_
              refine lv_bipush (v := 20) hx hb dX12_land_110 (by decide) ?_
              refine lv_icmp_ge (tgt := 123) hx hb dX12_land_112 (by decide) (fun c_37 => ?_) (fun c_37 => ?_)
              · have c_37n : (20 : Int) ≤ w_.toInt := (fa_le _ _).mp c_37
                refine lv_iload_n hx hb dX12_land_123 rfl (lv_at hl 3 rfl) ?_
                refine lv_bipush (v := 30) hx hb dX12_land_124 (by decide) ?_
                refine lv_icmp_ge (tgt := 137) hx hb dX12_land_126 (by decide) (fun c_38 => ?_) (fun c_38 => ?_)
                · have c_38n : (30 : Int) ≤ w_.toInt := (fa_le _ _).mp c_38
                  refine lv_aload_n hx hb dX12_land_137 rfl (lv_at hl 1 rfl) ?_
                  refine z_get C G clX12 4 rfl 0 (by decide) m_fl_RX12_7 rfl dX12_land_138 ?_
                  refine lv_aload_n hx hb dX12_land_141 rfl (lv_at hl 1 rfl) ?_
                  refine z_get C G clX12 4 rfl 11 (by decide) m_fl_RX12_166 rfl dX12_land_142 ?_
                  refine lv_bipush (v := 16) hx hb dX12_land_145 (by decide) ?_
                  refine lv_iadd hx hb dX12_land_147 ?_
                  refine lv_topi (fun y_39 ey_39 => ?_)
                  have ey_39i : y_39.toInt = j_z0_1.toInt + (16 : Int) := by rw [ey_39]; exact z_iaddI (x := j_z0_1) (y := (16 : Int32)) (by show -2147483648 ≤ j_z0_1.toInt + (16 : Int); omega) (by show j_z0_1.toInt + (16 : Int) < 2147483648; omega)
                  refine lv_iload_n hx hb dX12_land_148 rfl (lv_at hl 0 rfl) ?_
                  refine lv_iadd hx hb dX12_land_149 ?_
                  refine lv_topi (fun y_40 ey_40 => ?_)
                  have ey_40i : y_40.toInt = y_39.toInt + (w_ - w_ / 10 * 10).toInt := by rw [ey_40]; exact z_iaddI (x := y_39) (y := (w_ - w_ / 10 * 10)) (by show -2147483648 ≤ y_39.toInt + (w_ - w_ / 10 * 10).toInt; omega) (by show y_39.toInt + (w_ - w_ / 10 * 10).toInt < 2147483648; omega)
                  refine z_ild C G 0 rfl (vp_in_iff.mpr ⟨by omega, by omega⟩) dX12_land_150 ?_
                  refine lv_topi (fun v_41 ev_41 => ?_)
                  subst ev_41
                  have G := G.sub (bs' := [[zO11 mo m_all m_has i_size i_next i_where i_token i_number i_word i_wrong i_farCrossing m_read j_z0_1 j_crossings_2 j_inns_3 m_posts m_shut m_here j_steps_4 j_done_5 i_at i_gone m_was m_came m_seenAt m_rowWorth m_farBy m_used i_everywhere i_again0 i_d0 i_never i_firstCame i_longRun i_moved i_crowd i_l0 i_fitMany i_fitLeast i_fitMost m_fitPost m_fitEnd m_keptPosts i_x0], [zAr T 0 m_all 3952 f_all], [zAr T 0 m_posts 7 g_posts_6], [zAr T 0 m_shut 7 g_shut_7], [zAr T 0 m_here 7 g_here_8]]) [4, 0, 1, 2, 3] rfl
                  exact z_back hQz_ (z_iret C hr hlocks G (Nat.le_of_ble_eq_true rfl) (Nat.le_of_ble_eq_true rfl) dX12_land_151 ⟨j_z0_1, j_crossings_2, j_inns_3, j_steps_4, j_done_5, g_posts_6, g_shut_7, g_here_8, rfl⟩)
                · have c_38n : ¬ (30 : Int) ≤ w_.toInt := fun q => c_38 ((fa_le _ _).mpr q)
                  refine lv_aload_n hx hb dX12_land_129 rfl (lv_at hl 1 rfl) ?_
                  refine lv_iload_n hx hb dX12_land_130 rfl (lv_at hl 0 rfl) ?_
                  refine z_Vi (bc := [[zO11 mo m_all m_has i_size i_next i_where i_token i_number i_word i_wrong i_farCrossing m_read j_z0_1 j_crossings_2 j_inns_3 m_posts m_shut m_here j_steps_4 j_done_5 i_at i_gone m_was m_came m_seenAt m_rowWorth m_farBy m_used i_everywhere i_again0 i_d0 i_never i_firstCame i_longRun i_moved i_crowd i_l0 i_fitMany i_fitLeast i_fitMost m_fitPost m_fitEnd m_keptPosts i_x0], [zAr T 0 m_all 3952 f_all]]) (br := [[zAr T 0 m_posts 7 g_posts_6], [zAr T 0 m_shut 7 g_shut_7], [zAr T 0 m_here 7 g_here_8]]) (As := [.int (w_ - w_ / 10 * 10)]) (rest := []) C G (c_m_postTold l T mo m_all m_has i_size i_next i_where i_token i_number i_word i_wrong i_farCrossing m_read j_z0_1 j_crossings_2 j_inns_3 m_posts m_shut m_here j_steps_4 j_done_5 i_at i_gone m_was m_came m_seenAt m_rowWorth m_farBy m_used i_everywhere i_again0 i_d0 i_never i_firstCame i_longRun i_moved i_crowd i_l0 i_fitMany i_fitLeast i_fitMost m_fitPost m_fitEnd m_keptPosts i_x0 f_all (w_ - w_ / 10 * 10) (by first | with_reducible assumption | with_reducible rfl | omega | assumption | rfl | decide) (by first | with_reducible assumption | with_reducible rfl | omega | assumption | rfl | decide) (by first | with_reducible assumption | with_reducible rfl | omega | assumption | rfl | decide)) (kV_RX12_193 C.2.2.2.2 (Nat.le_of_ble_eq_true rfl) (Nat.le_of_ble_eq_true rfl)) [4, 0] [0, 3] rfl rfl (ci := 11) (qc := (RX12, TX12, 43)) rfl rfl (List.mem_flatten.mpr ⟨_, List.mem_of_getElem? (i := 0) rfl, List.mem_cons_self⟩) rfl rfl hl.1 dX12_land_131 (Nat.le_of_ble_eq_true rfl) (Nat.le_of_ble_eq_true rfl) (fun r_45 b1 H locs hw G => ?_)
                  refine zAn4 hw ?_
                  intro hbs9 h_42 h_43 h_44
                  clear hw
                  subst hbs9
                  have G : zS T A s.heap s [[zAr T 0 m_posts 7 g_posts_6], [zAr T 0 m_shut 7 g_shut_7], [zAr T 0 m_here 7 g_here_8], [zO11 mo m_all m_has i_size i_next i_where i_token i_number i_word i_wrong i_farCrossing m_read j_z0_1 j_crossings_2 j_inns_3 m_posts m_shut m_here j_steps_4 j_done_5 i_at i_gone m_was m_came m_seenAt m_rowWorth m_farBy m_used i_everywhere i_again0 i_d0 i_never i_firstCame i_longRun i_moved i_crowd i_l0 i_fitMany i_fitLeast i_fitMost m_fitPost m_fitEnd m_keptPosts i_x0], [zAr T 0 m_all 3952 f_all]] _ _ := G
                  subst h_42
                  refine lv_goto (tgt := 151) hx hb dX12_land_134 (by decide) ?_
                  have G := G.sub (bs' := [[zO11 mo m_all m_has i_size i_next i_where i_token i_number i_word i_wrong i_farCrossing m_read j_z0_1 j_crossings_2 j_inns_3 m_posts m_shut m_here j_steps_4 j_done_5 i_at i_gone m_was m_came m_seenAt m_rowWorth m_farBy m_used i_everywhere i_again0 i_d0 i_never i_firstCame i_longRun i_moved i_crowd i_l0 i_fitMany i_fitLeast i_fitMost m_fitPost m_fitEnd m_keptPosts i_x0], [zAr T 0 m_all 3952 f_all], [zAr T 0 m_posts 7 g_posts_6], [zAr T 0 m_shut 7 g_shut_7], [zAr T 0 m_here 7 g_here_8]]) [3, 4, 0, 1, 2] rfl
                  exact z_back hQz_ (z_iret C hr hlocks G (Nat.le_of_ble_eq_true rfl) (Nat.le_of_ble_eq_true rfl) dX12_land_151 ⟨j_z0_1, j_crossings_2, j_inns_3, j_steps_4, j_done_5, g_posts_6, g_shut_7, g_here_8, rfl⟩)
              · have c_37n : ¬ (20 : Int) ≤ w_.toInt := fun q => c_37 ((fa_le _ _).mpr q)
                refine lv_aload_n hx hb dX12_land_115 rfl (lv_at hl 1 rfl) ?_
                refine lv_iload_n hx hb dX12_land_116 rfl (lv_at hl 0 rfl) ?_
                refine z_Vi (bc := [[zO11 mo m_all m_has i_size i_next i_where i_token i_number i_word i_wrong i_farCrossing m_read j_z0_1 j_crossings_2 j_inns_3 m_posts m_shut m_here j_steps_4 j_done_5 i_at i_gone m_was m_came m_seenAt m_rowWorth m_farBy m_used i_everywhere i_again0 i_d0 i_never i_firstCame i_longRun i_moved i_crowd i_l0 i_fitMany i_fitLeast i_fitMost m_fitPost m_fitEnd m_keptPosts i_x0], [zAr T 0 m_all 3952 f_all]]) (br := [[zAr T 0 m_posts 7 g_posts_6], [zAr T 0 m_shut 7 g_shut_7], [zAr T 0 m_here 7 g_here_8]]) (As := [.int (w_ - w_ / 10 * 10)]) (rest := []) C G (c_m_roadsOf l T mo m_all m_has i_size i_next i_where i_token i_number i_word i_wrong i_farCrossing m_read j_z0_1 j_crossings_2 j_inns_3 m_posts m_shut m_here j_steps_4 j_done_5 i_at i_gone m_was m_came m_seenAt m_rowWorth m_farBy m_used i_everywhere i_again0 i_d0 i_never i_firstCame i_longRun i_moved i_crowd i_l0 i_fitMany i_fitLeast i_fitMost m_fitPost m_fitEnd m_keptPosts i_x0 f_all (w_ - w_ / 10 * 10) (by first | with_reducible assumption | with_reducible rfl | omega | assumption | rfl | decide) (by first | with_reducible assumption | with_reducible rfl | omega | assumption | rfl | decide) (by first | with_reducible assumption | with_reducible rfl | omega | assumption | rfl | decide)) (kV_RX12_181 C.2.2.2.2 (Nat.le_of_ble_eq_true rfl) (Nat.le_of_ble_eq_true rfl)) [4, 0] [0, 3] rfl rfl (ci := 11) (qc := (RX12, TX12, 43)) rfl rfl (List.mem_flatten.mpr ⟨_, List.mem_of_getElem? (i := 0) rfl, List.mem_cons_self⟩) rfl rfl hl.1 dX12_land_117 (Nat.le_of_ble_eq_true rfl) (Nat.le_of_ble_eq_true rfl) (fun r_49 b1 H locs hw G => ?_)
                refine zAn4 hw ?_
                intro hbs9 h_46 h_47 h_48
                clear hw
                subst hbs9
                have G : zS T A s.heap s [[zAr T 0 m_posts 7 g_posts_6], [zAr T 0 m_shut 7 g_shut_7], [zAr T 0 m_here 7 g_here_8], [zO11 mo m_all m_has i_size i_next i_where i_token i_number i_word i_wrong i_farCrossing m_read j_z0_1 j_crossings_2 j_inns_3 m_posts m_shut m_here j_steps_4 j_done_5 i_at i_gone m_was m_came m_seenAt m_rowWorth m_farBy m_used i_everywhere i_again0 i_d0 i_never i_firstCame i_longRun i_moved i_crowd i_l0 i_fitMany i_fitLeast i_fitMost m_fitPost m_fitEnd m_keptPosts i_x0], [zAr T 0 m_all 3952 f_all]] _ _ := G
                subst h_46
                refine lv_goto (tgt := 151) hx hb dX12_land_120 (by decide) ?_
                have G := G.sub (bs' := [[zO11 mo m_all m_has i_size i_next i_where i_token i_number i_word i_wrong i_farCrossing m_read j_z0_1 j_crossings_2 j_inns_3 m_posts m_shut m_here j_steps_4 j_done_5 i_at i_gone m_was m_came m_seenAt m_rowWorth m_farBy m_used i_everywhere i_again0 i_d0 i_never i_firstCame i_longRun i_moved i_crowd i_l0 i_fitMany i_fitLeast i_fitMost m_fitPost m_fitEnd m_keptPosts i_x0], [zAr T 0 m_all 3952 f_all], [zAr T 0 m_posts 7 g_posts_6], [zAr T 0 m_shut 7 g_shut_7], [zAr T 0 m_here 7 g_here_8]]) [3, 4, 0, 1, 2] rfl
                exact z_back hQz_ (z_iret C hr hlocks G (Nat.le_of_ble_eq_true rfl) (Nat.le_of_ble_eq_true rfl) dX12_land_151 ⟨j_z0_1, j_crossings_2, j_inns_3, j_steps_4, j_done_5, g_posts_6, g_shut_7, g_here_8, rfl⟩)
            · have h_36 : ((w_ - w_ / 10 * 10).toInt < 0 ∨ j_crossings_2.toInt ≤ (w_ - w_ / 10 * 10).toInt) := h_36
              refine lv_if_ne (tgt := 109) hx hb dX12_land_104 (by decide) (fun q => absurd (by decide) q) (fun _ => ?_)
              refine lv_iconst (v := (-1)) hx hb dX12_land_107 (by decide) ?_
              have G := G.sub (bs' := [[zO11 mo m_all m_has i_size i_next i_where i_token i_number i_word i_wrong i_farCrossing m_read j_z0_1 j_crossings_2 j_inns_3 m_posts m_shut m_here j_steps_4 j_done_5 i_at i_gone m_was m_came m_seenAt m_rowWorth m_farBy m_used i_everywhere i_again0 i_d0 i_never i_firstCame i_longRun i_moved i_crowd i_l0 i_fitMany i_fitLeast i_fitMost m_fitPost m_fitEnd m_keptPosts i_x0], [zAr T 0 m_all 3952 f_all], [zAr T 0 m_posts 7 g_posts_6], [zAr T 0 m_shut 7 g_shut_7], [zAr T 0 m_here 7 g_here_8]]) [4, 0, 1, 2, 3] rfl
              exact z_back hQz_ (z_iret C hr hlocks G (Nat.le_of_ble_eq_true rfl) (Nat.le_of_ble_eq_true rfl) dX12_land_108 ⟨j_z0_1, j_crossings_2, j_inns_3, j_steps_4, j_done_5, g_posts_6, g_shut_7, g_here_8, rfl⟩)
          · have h_31 : (w_.toInt < (10 : Int) ∨ (39 : Int) < w_.toInt) := h_31
            refine lv_if_eq (tgt := 107) hx hb dX12_land_96 (by decide) (fun _ => ?_) (fun q => absurd (by decide) q)
            refine lv_iconst (v := (-1)) hx hb dX12_land_107 (by decide) ?_
            exact z_back hQz_ (z_iret C hr hlocks G (Nat.le_of_ble_eq_true rfl) (Nat.le_of_ble_eq_true rfl) dX12_land_108 ⟨j_z0_1, j_crossings_2, j_inns_3, j_steps_4, j_done_5, g_posts_6, g_shut_7, g_here_8, rfl⟩)
        · have c_26n : ¬ w_.toInt < (100 : Int) := fun q => c_26 ((fa_lt _ _).mpr q)
          refine lv_aload_n hx hb dX12_land_42 rfl (lv_at hl 1 rfl) ?_
          refine lv_iload_n hx hb dX12_land_43 rfl (lv_at hl 3 rfl) ?_
          refine lv_bipush (v := 10) hx hb dX12_land_44 (by decide) ?_
          refine lv_idiv hx hb dX12_land_46 (by decide) ?_
          refine lv_bipush (v := 10) hx hb dX12_land_47 (by decide) ?_
          refine lv_isub hx hb dX12_land_49 ?_
          refine lv_topi (fun y_50 ey_50 => ?_)
          have ey_50i : y_50.toInt = (w_ / 10).toInt - (10 : Int) := by rw [ey_50]; exact z_isubI (x := (w_ / 10)) (y := (10 : Int32)) (by show -2147483648 ≤ (w_ / 10).toInt - (10 : Int); omega) (by show (w_ / 10).toInt - (10 : Int) < 2147483648; omega)
          refine z_Vi (bc := [[zO11 mo m_all m_has i_size i_next i_where i_token i_number i_word i_wrong i_farCrossing m_read j_z0_1 j_crossings_2 j_inns_3 m_posts m_shut m_here j_steps_4 j_done_5 i_at i_gone m_was m_came m_seenAt m_rowWorth m_farBy m_used i_everywhere i_again0 i_d0 i_never i_firstCame i_longRun i_moved i_crowd i_l0 i_fitMany i_fitLeast i_fitMost m_fitPost m_fitEnd m_keptPosts i_x0]]) (br := [[zAr T 0 m_all 3952 f_all], [zAr T 0 m_posts 7 g_posts_6], [zAr T 0 m_shut 7 g_shut_7], [zAr T 0 m_here 7 g_here_8]]) (As := [.int y_50]) (rest := []) C G (c_m_isCrossing l T mo m_all m_has i_size i_next i_where i_token i_number i_word i_wrong i_farCrossing m_read j_z0_1 j_crossings_2 j_inns_3 m_posts m_shut m_here j_steps_4 j_done_5 i_at i_gone m_was m_came m_seenAt m_rowWorth m_farBy m_used i_everywhere i_again0 i_d0 i_never i_firstCame i_longRun i_moved i_crowd i_l0 i_fitMany i_fitLeast i_fitMost m_fitPost m_fitEnd m_keptPosts i_x0 y_50 (by first | with_reducible assumption | with_reducible rfl | omega | assumption | rfl | decide)) (kV_RX12_187 C.2.2.2.2 (Nat.le_of_ble_eq_true rfl) (Nat.le_of_ble_eq_true rfl)) [0] [0] rfl rfl (ci := 11) (qc := (RX12, TX12, 43)) rfl rfl (List.mem_flatten.mpr ⟨_, List.mem_of_getElem? (i := 0) rfl, List.mem_cons_self⟩) rfl rfl hl.1 dX12_land_50 (Nat.le_of_ble_eq_true rfl) (Nat.le_of_ble_eq_true rfl) (fun r_52 b1 H locs hw G => ?_)
          refine zAn2 hw ?_
          intro hbs9 hc_51
          clear hw
          subst hbs9
          have G : zS T A s.heap s [[zAr T 0 m_all 3952 f_all], [zAr T 0 m_posts 7 g_posts_6], [zAr T 0 m_shut 7 g_shut_7], [zAr T 0 m_here 7 g_here_8], [zO11 mo m_all m_has i_size i_next i_where i_token i_number i_word i_wrong i_farCrossing m_read j_z0_1 j_crossings_2 j_inns_3 m_posts m_shut m_here j_steps_4 j_done_5 i_at i_gone m_was m_came m_seenAt m_rowWorth m_farBy m_used i_everywhere i_again0 i_d0 i_never i_firstCame i_longRun i_moved i_crowd i_l0 i_fitMany i_fitLeast i_fitMost m_fitPost m_fitEnd m_keptPosts i_x0]] _ _ := G
          rcases hc_51 with ⟨rfl, h_53, h_54⟩ | ⟨rfl, h_55⟩
          · have h_53 : 0 ≤ y_50.toInt := h_53
            have h_54 : y_50.toInt < j_crossings_2.toInt := h_54
            refine lv_if_eq (tgt := 86) hx hb dX12_land_53 (by decide) (fun q => absurd q (by decide)) (fun _ => ?_)
            refine lv_iload_n hx hb dX12_land_56 rfl (lv_at hl 0 rfl) ?_
            refine lv_aload_n hx hb dX12_land_57 rfl (lv_at hl 1 rfl) ?_
            refine lv_iload_n hx hb dX12_land_58 rfl (lv_at hl 3 rfl) ?_
            refine lv_bipush (v := 10) hx hb dX12_land_59 (by decide) ?_
            refine lv_idiv hx hb dX12_land_61 (by decide) ?_
            refine lv_bipush (v := 10) hx hb dX12_land_62 (by decide) ?_
            refine lv_isub hx hb dX12_land_64 ?_
            refine lv_topi (fun y_56 ey_56 => ?_)
            have ey_56i : y_56.toInt = (w_ / 10).toInt - (10 : Int) := by rw [ey_56]; exact z_isubI (x := (w_ / 10)) (y := (10 : Int32)) (by show -2147483648 ≤ (w_ / 10).toInt - (10 : Int); omega) (by show (w_ / 10).toInt - (10 : Int) < 2147483648; omega)
            refine z_Vi (bc := [[zO11 mo m_all m_has i_size i_next i_where i_token i_number i_word i_wrong i_farCrossing m_read j_z0_1 j_crossings_2 j_inns_3 m_posts m_shut m_here j_steps_4 j_done_5 i_at i_gone m_was m_came m_seenAt m_rowWorth m_farBy m_used i_everywhere i_again0 i_d0 i_never i_firstCame i_longRun i_moved i_crowd i_l0 i_fitMany i_fitLeast i_fitMost m_fitPost m_fitEnd m_keptPosts i_x0], [zAr T 0 m_all 3952 f_all]]) (br := [[zAr T 0 m_posts 7 g_posts_6], [zAr T 0 m_shut 7 g_shut_7], [zAr T 0 m_here 7 g_here_8]]) (As := [.int y_56]) (rest := [.int (w_ - w_ / 10 * 10)]) C G (c_m_roadsOf l T mo m_all m_has i_size i_next i_where i_token i_number i_word i_wrong i_farCrossing m_read j_z0_1 j_crossings_2 j_inns_3 m_posts m_shut m_here j_steps_4 j_done_5 i_at i_gone m_was m_came m_seenAt m_rowWorth m_farBy m_used i_everywhere i_again0 i_d0 i_never i_firstCame i_longRun i_moved i_crowd i_l0 i_fitMany i_fitLeast i_fitMost m_fitPost m_fitEnd m_keptPosts i_x0 f_all y_56 (by first | with_reducible assumption | with_reducible rfl | omega | assumption | rfl | decide) (by first | with_reducible assumption | with_reducible rfl | omega | assumption | rfl | decide) (by first | with_reducible assumption | with_reducible rfl | omega | assumption | rfl | decide)) (kV_RX12_181 C.2.2.2.2 (Nat.le_of_ble_eq_true rfl) (Nat.le_of_ble_eq_true rfl)) [4, 0] [0, 3] rfl rfl (ci := 11) (qc := (RX12, TX12, 43)) rfl rfl (List.mem_flatten.mpr ⟨_, List.mem_of_getElem? (i := 0) rfl, List.mem_cons_self⟩) rfl rfl hl.1 dX12_land_65 (Nat.le_of_ble_eq_true rfl) (Nat.le_of_ble_eq_true rfl) (fun r_60 b1 H locs hw G => ?_)
            refine zAn4 hw ?_
            intro hbs9 h_57 h_58 h_59
            clear hw
            subst hbs9
            have G : zS T A s.heap s [[zAr T 0 m_posts 7 g_posts_6], [zAr T 0 m_shut 7 g_shut_7], [zAr T 0 m_here 7 g_here_8], [zO11 mo m_all m_has i_size i_next i_where i_token i_number i_word i_wrong i_farCrossing m_read j_z0_1 j_crossings_2 j_inns_3 m_posts m_shut m_here j_steps_4 j_done_5 i_at i_gone m_was m_came m_seenAt m_rowWorth m_farBy m_used i_everywhere i_again0 i_d0 i_never i_firstCame i_longRun i_moved i_crowd i_l0 i_fitMany i_fitLeast i_fitMost m_fitPost m_fitEnd m_keptPosts i_x0], [zAr T 0 m_all 3952 f_all]] _ _ := G
            subst h_57
            refine lv_icmp_ge (tgt := 86) hx hb dX12_land_68 (by decide) (fun c_61 => ?_) (fun c_61 => ?_)
            · have c_61n : (zRd f_all j_z0_1 y_56).toInt ≤ (w_ - w_ / 10 * 10).toInt := (fa_le _ _).mp c_61
              refine lv_iconst (v := (-1)) hx hb dX12_land_86 (by decide) ?_
              have G := G.sub (bs' := [[zO11 mo m_all m_has i_size i_next i_where i_token i_number i_word i_wrong i_farCrossing m_read j_z0_1 j_crossings_2 j_inns_3 m_posts m_shut m_here j_steps_4 j_done_5 i_at i_gone m_was m_came m_seenAt m_rowWorth m_farBy m_used i_everywhere i_again0 i_d0 i_never i_firstCame i_longRun i_moved i_crowd i_l0 i_fitMany i_fitLeast i_fitMost m_fitPost m_fitEnd m_keptPosts i_x0], [zAr T 0 m_all 3952 f_all], [zAr T 0 m_posts 7 g_posts_6], [zAr T 0 m_shut 7 g_shut_7], [zAr T 0 m_here 7 g_here_8]]) [3, 4, 0, 1, 2] rfl
              exact z_back hQz_ (z_iret C hr hlocks G (Nat.le_of_ble_eq_true rfl) (Nat.le_of_ble_eq_true rfl) dX12_land_87 ⟨j_z0_1, j_crossings_2, j_inns_3, j_steps_4, j_done_5, g_posts_6, g_shut_7, g_here_8, rfl⟩)
            · have c_61n : ¬ (zRd f_all j_z0_1 y_56).toInt ≤ (w_ - w_ / 10 * 10).toInt := fun q => c_61 ((fa_le _ _).mpr q)
              refine lv_aload_n hx hb dX12_land_71 rfl (lv_at hl 1 rfl) ?_
              refine lv_iload_n hx hb dX12_land_72 rfl (lv_at hl 3 rfl) ?_
              refine lv_bipush (v := 10) hx hb dX12_land_73 (by decide) ?_
              refine lv_idiv hx hb dX12_land_75 (by decide) ?_
              refine lv_bipush (v := 10) hx hb dX12_land_76 (by decide) ?_
              refine lv_isub hx hb dX12_land_78 ?_
              refine lv_topi (fun y_62 ey_62 => ?_)
              have ey_62i : y_62.toInt = (w_ / 10).toInt - (10 : Int) := by rw [ey_62]; exact z_isubI (x := (w_ / 10)) (y := (10 : Int32)) (by show -2147483648 ≤ (w_ / 10).toInt - (10 : Int); omega) (by show (w_ / 10).toInt - (10 : Int) < 2147483648; omega)
              refine lv_iload_n hx hb dX12_land_79 rfl (lv_at hl 0 rfl) ?_
              refine z_Vi (bc := [[zO11 mo m_all m_has i_size i_next i_where i_token i_number i_word i_wrong i_farCrossing m_read j_z0_1 j_crossings_2 j_inns_3 m_posts m_shut m_here j_steps_4 j_done_5 i_at i_gone m_was m_came m_seenAt m_rowWorth m_farBy m_used i_everywhere i_again0 i_d0 i_never i_firstCame i_longRun i_moved i_crowd i_l0 i_fitMany i_fitLeast i_fitMost m_fitPost m_fitEnd m_keptPosts i_x0], [zAr T 0 m_all 3952 f_all]]) (br := [[zAr T 0 m_posts 7 g_posts_6], [zAr T 0 m_shut 7 g_shut_7], [zAr T 0 m_here 7 g_here_8]]) (As := [.int y_62, .int (w_ - w_ / 10 * 10)]) (rest := []) C G (c_m_leadsTo l T mo m_all m_has i_size i_next i_where i_token i_number i_word i_wrong i_farCrossing m_read j_z0_1 j_crossings_2 j_inns_3 m_posts m_shut m_here j_steps_4 j_done_5 i_at i_gone m_was m_came m_seenAt m_rowWorth m_farBy m_used i_everywhere i_again0 i_d0 i_never i_firstCame i_longRun i_moved i_crowd i_l0 i_fitMany i_fitLeast i_fitMost m_fitPost m_fitEnd m_keptPosts i_x0 f_all y_62 (w_ - w_ / 10 * 10) (by first | with_reducible assumption | with_reducible rfl | omega | assumption | rfl | decide) (by first | with_reducible assumption | with_reducible rfl | omega | assumption | rfl | decide) (by first | with_reducible assumption | with_reducible rfl | omega | assumption | rfl | decide) (by first | with_reducible assumption | with_reducible rfl | omega | assumption | rfl | decide) (by first | with_reducible assumption | with_reducible rfl | omega | assumption | rfl | decide)) (kV_RX12_190 C.2.2.2.2 (Nat.le_of_ble_eq_true rfl) (Nat.le_of_ble_eq_true rfl)) [3, 4] [3, 0] rfl rfl (ci := 11) (qc := (RX12, TX12, 43)) rfl rfl (List.mem_flatten.mpr ⟨_, List.mem_of_getElem? (i := 0) rfl, List.mem_cons_self⟩) rfl rfl hl.1 dX12_land_80 (Nat.le_of_ble_eq_true rfl) (Nat.le_of_ble_eq_true rfl) (fun r_66 b1 H locs hw G => ?_)
              refine zAn4 hw ?_
              intro hbs9 h_63 h_64 h_65
              clear hw
              subst hbs9
              have G : zS T A s.heap s [[zAr T 0 m_posts 7 g_posts_6], [zAr T 0 m_shut 7 g_shut_7], [zAr T 0 m_here 7 g_here_8], [zO11 mo m_all m_has i_size i_next i_where i_token i_number i_word i_wrong i_farCrossing m_read j_z0_1 j_crossings_2 j_inns_3 m_posts m_shut m_here j_steps_4 j_done_5 i_at i_gone m_was m_came m_seenAt m_rowWorth m_farBy m_used i_everywhere i_again0 i_d0 i_never i_firstCame i_longRun i_moved i_crowd i_l0 i_fitMany i_fitLeast i_fitMost m_fitPost m_fitEnd m_keptPosts i_x0], [zAr T 0 m_all 3952 f_all]] _ _ := G
              subst h_63
              refine lv_goto (tgt := 87) hx hb dX12_land_83 (by decide) ?_
              have G := G.sub (bs' := [[zO11 mo m_all m_has i_size i_next i_where i_token i_number i_word i_wrong i_farCrossing m_read j_z0_1 j_crossings_2 j_inns_3 m_posts m_shut m_here j_steps_4 j_done_5 i_at i_gone m_was m_came m_seenAt m_rowWorth m_farBy m_used i_everywhere i_again0 i_d0 i_never i_firstCame i_longRun i_moved i_crowd i_l0 i_fitMany i_fitLeast i_fitMost m_fitPost m_fitEnd m_keptPosts i_x0], [zAr T 0 m_all 3952 f_all], [zAr T 0 m_posts 7 g_posts_6], [zAr T 0 m_shut 7 g_shut_7], [zAr T 0 m_here 7 g_here_8]]) [3, 4, 0, 1, 2] rfl
              exact z_back hQz_ (z_iret C hr hlocks G (Nat.le_of_ble_eq_true rfl) (Nat.le_of_ble_eq_true rfl) dX12_land_87 ⟨j_z0_1, j_crossings_2, j_inns_3, j_steps_4, j_done_5, g_posts_6, g_shut_7, g_here_8, rfl⟩)
          · have h_55 : (y_50.toInt < 0 ∨ j_crossings_2.toInt ≤ y_50.toInt) := h_55
            refine lv_if_eq (tgt := 86) hx hb dX12_land_53 (by decide) (fun _ => ?_) (fun q => absurd (by decide) q)
            refine lv_iconst (v := (-1)) hx hb dX12_land_86 (by decide) ?_
            have G := G.sub (bs' := [[zO11 mo m_all m_has i_size i_next i_where i_token i_number i_word i_wrong i_farCrossing m_read j_z0_1 j_crossings_2 j_inns_3 m_posts m_shut m_here j_steps_4 j_done_5 i_at i_gone m_was m_came m_seenAt m_rowWorth m_farBy m_used i_everywhere i_again0 i_d0 i_never i_firstCame i_longRun i_moved i_crowd i_l0 i_fitMany i_fitLeast i_fitMost m_fitPost m_fitEnd m_keptPosts i_x0], [zAr T 0 m_all 3952 f_all], [zAr T 0 m_posts 7 g_posts_6], [zAr T 0 m_shut 7 g_shut_7], [zAr T 0 m_here 7 g_here_8]]) [4, 0, 1, 2, 3] rfl
            exact z_back hQz_ (z_iret C hr hlocks G (Nat.le_of_ble_eq_true rfl) (Nat.le_of_ble_eq_true rfl) dX12_land_87 ⟨j_z0_1, j_crossings_2, j_inns_3, j_steps_4, j_done_5, g_posts_6, g_shut_7, g_here_8, rfl⟩)
      · have c_25n : ¬ (2 : Int) ≤ w_.toInt := fun q => c_25 ((fa_le _ _).mpr q)
        refine lv_aload_n hx hb dX12_land_19 rfl (lv_at hl 0 rfl) ?_
        refine z_get C G clX12 0 rfl 0 (by decide) m_fl_RX12_7 rfl dX12_land_20 ?_
        refine lv_aload_n hx hb dX12_land_23 rfl (lv_at hl 0 rfl) ?_
        refine z_get C G clX12 0 rfl 11 (by decide) m_fl_RX12_166 rfl dX12_land_24 ?_
        refine lv_iload_n hx hb dX12_land_27 rfl (lv_at hl 2 rfl) ?_
        refine lv_iadd hx hb dX12_land_28 ?_
        refine lv_topi (fun y_67 ey_67 => ?_)
        have ey_67i : y_67.toInt = j_z0_1.toInt + w_.toInt := by rw [ey_67]; exact z_iaddI (x := j_z0_1) (y := w_) (by show -2147483648 ≤ j_z0_1.toInt + w_.toInt; omega) (by show j_z0_1.toInt + w_.toInt < 2147483648; omega)
        refine z_ild C G 1 rfl (vp_in_iff.mpr ⟨by omega, by omega⟩) dX12_land_29 ?_
        refine lv_topi (fun v_68 ev_68 => ?_)
        subst ev_68
        exact z_back hQz_ (z_iret C hr hlocks G (Nat.le_of_ble_eq_true rfl) (Nat.le_of_ble_eq_true rfl) dX12_land_30 ⟨j_z0_1, j_crossings_2, j_inns_3, j_steps_4, j_done_5, g_posts_6, g_shut_7, g_here_8, rfl⟩)
    · have c_24n : ¬ (0 : Int) ≤ w_.toInt := fun q => c_24 ((fa_le _ _).mpr q)
      refine lv_iconst (v := (-1)) hx hb dX12_land_12 (by decide) ?_
      exact z_back hQz_ (z_iret C hr hlocks G (Nat.le_of_ble_eq_true rfl) (Nat.le_of_ble_eq_true rfl) dX12_land_13 ⟨j_z0_1, j_crossings_2, j_inns_3, j_steps_4, j_done_5, g_posts_6, g_shut_7, g_here_8, rfl⟩)
  · have h_23 : (l_.toInt < 0 ∨ (f_all 0).toInt ≤ l_.toInt) := h_23
    refine lv_if_eq (tgt := 12) hx hb dX12_land_5 (by decide) (fun _ => ?_) (fun q => absurd (by decide) q)
    refine lv_iconst (v := (-1)) hx hb dX12_land_12 (by decide) ?_
    exact z_back hQz_ (z_iret C hr hlocks G (Nat.le_of_ble_eq_true rfl) (Nat.le_of_ble_eq_true rfl) dX12_land_13 ⟨j_z0_1, j_crossings_2, j_inns_3, j_steps_4, j_done_5, g_posts_6, g_shut_7, g_here_8, rfl⟩)
set_option maxHeartbeats 4000000 in
set_option maxRecDepth 100000 in
/-- c_m_walk -/
theorem c_m_walk (l : Launch) (T : zTy) (mo : Nat) (m_all : Nat) (m_has : Nat) (i_size : Int32) (i_next : Int32) (i_where : Int32) (i_token : Int32) (i_number : Int32) (i_word : Int32) (i_wrong : Int32) (i_farCrossing : Int32) (m_read : Nat) (i_z0 : Int32) (i_crossings : Int32) (i_inns : Int32) (m_posts : Nat) (m_shut : Nat) (m_here : Nat) (i_steps : Int32) (i_done : Int32) (i_at : Int32) (i_gone : Int32) (m_was : Nat) (m_came : Nat) (m_seenAt : Nat) (m_rowWorth : Nat) (m_farBy : Nat) (m_used : Nat) (i_everywhere : Int32) (i_again0 : Int32) (i_d0 : Int32) (i_never : Int32) (i_firstCame : Int32) (i_longRun : Int32) (i_moved : Int32) (i_crowd : Int32) (i_l0 : Int32) (i_fitMany : Int32) (i_fitLeast : Int32) (i_fitMost : Int32) (m_fitPost : Nat) (m_fitEnd : Nat) (m_keptPosts : Nat) (i_x0 : Int32) (f_all : Nat → Int32) (f_posts : Nat → Int32) (f_shut : Nat → Int32) (f_here : Nat → Int32) (f_was : Nat → Int32) (l_ : Int32) (c_ : Int32) (w_ : Int32) (hB : zBI f_all) : zMi l T yX12_walk cX12_walk 5 (some .int) 5 0 0 [.ref mo, .int l_, .int c_, .int w_] [[zO11 mo m_all m_has i_size i_next i_where i_token i_number i_word i_wrong i_farCrossing m_read i_z0 i_crossings i_inns m_posts m_shut m_here i_steps i_done i_at i_gone m_was m_came m_seenAt m_rowWorth m_farBy m_used i_everywhere i_again0 i_d0 i_never i_firstCame i_longRun i_moved i_crowd i_l0 i_fitMany i_fitLeast i_fitMost m_fitPost m_fitEnd m_keptPosts i_x0], [zAr T 0 m_all 3952 f_all], [zAr T 0 m_posts 7 f_posts], [zAr T 0 m_shut 7 f_shut], [zAr T 0 m_here 7 f_here], [zAr T 0 m_was 7 f_was]] (fun (r : Int32) bs => ∃ (j_z0 : Int32) (j_crossings : Int32) (j_inns : Int32) (j_steps : Int32) (j_done : Int32) (j_at : Int32) (j_gone : Int32) (g_posts : Nat → Int32) (g_shut : Nat → Int32) (g_here : Nat → Int32) (g_was : Nat → Int32), bs = [[zO11 mo m_all m_has i_size i_next i_where i_token i_number i_word i_wrong i_farCrossing m_read j_z0 j_crossings j_inns m_posts m_shut m_here j_steps j_done j_at j_gone m_was m_came m_seenAt m_rowWorth m_farBy m_used i_everywhere i_again0 i_d0 i_never i_firstCame i_longRun i_moved i_crowd i_l0 i_fitMany i_fitLeast i_fitMost m_fitPost m_fitEnd m_keptPosts i_x0], [zAr T 0 m_all 3952 f_all], [zAr T 0 m_posts 7 g_posts], [zAr T 0 m_shut 7 g_shut], [zAr T 0 m_here 7 g_here], [zAr T 0 m_was 7 g_was]]) := by
  refine zMi_of (own := RX12) (by decide) rfl (Nat.le_of_ble_eq_true rfl) ?_
  intro p e s m args below meth c A ls C hr hlocks hnm hAe G hl
  refine zHide (fun Qz_ hQz_ => ?_)
  have hx := C.1
  have hb := C.2.1
  have hl : lv_has ls 5 [(0, .ref mo), (1, .int l_), (2, .int c_), (3, .int w_)] := hl
  refine lv_aload_n hx hb dX12_walk_0 rfl (lv_at hl 0 rfl) ?_
  refine lv_iload_n hx hb dX12_walk_1 rfl (lv_at hl 1 rfl) ?_
  refine z_Vi (bc := [[zO11 mo m_all m_has i_size i_next i_where i_token i_number i_word i_wrong i_farCrossing m_read i_z0 i_crossings i_inns m_posts m_shut m_here i_steps i_done i_at i_gone m_was m_came m_seenAt m_rowWorth m_farBy m_used i_everywhere i_again0 i_d0 i_never i_firstCame i_longRun i_moved i_crowd i_l0 i_fitMany i_fitLeast i_fitMost m_fitPost m_fitEnd m_keptPosts i_x0], [zAr T 0 m_all 3952 f_all], [zAr T 0 m_posts 7 f_posts], [zAr T 0 m_shut 7 f_shut], [zAr T 0 m_here 7 f_here]]) (br := [[zAr T 0 m_was 7 f_was]]) (As := [.int l_]) (rest := []) C G (c_m_isLand l T mo m_all m_has i_size i_next i_where i_token i_number i_word i_wrong i_farCrossing m_read i_z0 i_crossings i_inns m_posts m_shut m_here i_steps i_done i_at i_gone m_was m_came m_seenAt m_rowWorth m_farBy m_used i_everywhere i_again0 i_d0 i_never i_firstCame i_longRun i_moved i_crowd i_l0 i_fitMany i_fitLeast i_fitMost m_fitPost m_fitEnd m_keptPosts i_x0 f_all f_posts f_shut f_here l_ (by first | with_reducible assumption | with_reducible rfl | omega | assumption | rfl | decide)) (kV_RX12_184 C.2.2.2.2 (Nat.le_of_ble_eq_true rfl) (Nat.le_of_ble_eq_true rfl)) [0, 1, 2, 3, 4] [0, 0, 0, 0, 0] rfl rfl (ci := 11) (qc := (RX12, TX12, 43)) rfl rfl (List.mem_flatten.mpr ⟨_, List.mem_of_getElem? (i := 0) rfl, List.mem_cons_self⟩) rfl rfl hl.1 dX12_walk_2 (Nat.le_of_ble_eq_true rfl) (Nat.le_of_ble_eq_true rfl) (fun r_10 b1 H locs hw G => ?_)
  refine zEx8 hw ?_
  intro j_z0_1 j_crossings_2 j_inns_3 j_steps_4 j_done_5 g_posts_6 g_shut_7 g_here_8
  refine zCu2 ?_
  intro hbs9 hc_9
  clear hw
  subst hbs9
  have G : zS T A s.heap s [[zAr T 0 m_was 7 f_was], [zO11 mo m_all m_has i_size i_next i_where i_token i_number i_word i_wrong i_farCrossing m_read j_z0_1 j_crossings_2 j_inns_3 m_posts m_shut m_here j_steps_4 j_done_5 i_at i_gone m_was m_came m_seenAt m_rowWorth m_farBy m_used i_everywhere i_again0 i_d0 i_never i_firstCame i_longRun i_moved i_crowd i_l0 i_fitMany i_fitLeast i_fitMost m_fitPost m_fitEnd m_keptPosts i_x0], [zAr T 0 m_all 3952 f_all], [zAr T 0 m_posts 7 g_posts_6], [zAr T 0 m_shut 7 g_shut_7], [zAr T 0 m_here 7 g_here_8]] _ _ := G
  rcases hc_9 with ⟨rfl, h_11, h_12, h_13, h_14, h_15, h_16, h_17, h_18, h_19, h_20, h_21, h_22⟩ | ⟨rfl, h_23⟩
  · have h_11 : 0 ≤ l_.toInt := h_11
    have h_12 : l_.toInt ≤ 1 := h_12
    have h_13 : l_.toInt < (f_all 0).toInt := h_13
    have h_14 : j_z0_1.toInt = 610 + 51 * l_.toInt := h_14
    have h_15 : zML f_all j_z0_1 j_crossings_2 := h_15
    have h_16 : zMP g_posts_6 := h_16
    have h_17 : j_inns_3 = f_all (j_z0_1.toInt.toNat + 1) := h_17
    have h_18 : j_steps_4 = 0 := h_18
    have h_19 : j_done_5 = 0 := h_19
    have h_20 : (∀ j, j < 7 → g_posts_6 j = zPt f_all j_z0_1 (nI j)) := h_20
    have h_21 : (∀ j, j < 7 → g_shut_7 j = 0) := h_21
    have h_22 : (∀ j, j < 7 → g_here_8 j = zWk f_all j_z0_1 j) := h_22
    have hLx := h_15
    have hcr := hLx.cr
    have hzx := hLx.1
    have hPx := h_16
    refine lv_if_eq (tgt := 16) hx hb dX12_walk_5 (by decide) (fun q => absurd q (by decide)) (fun _ => ?_)
    refine lv_aload_n hx hb dX12_walk_8 rfl (lv_at hl 0 rfl) ?_
    refine lv_iload_n hx hb dX12_walk_9 rfl (lv_at hl 2 rfl) ?_
    refine z_Vi (bc := [[zO11 mo m_all m_has i_size i_next i_where i_token i_number i_word i_wrong i_farCrossing m_read j_z0_1 j_crossings_2 j_inns_3 m_posts m_shut m_here j_steps_4 j_done_5 i_at i_gone m_was m_came m_seenAt m_rowWorth m_farBy m_used i_everywhere i_again0 i_d0 i_never i_firstCame i_longRun i_moved i_crowd i_l0 i_fitMany i_fitLeast i_fitMost m_fitPost m_fitEnd m_keptPosts i_x0]]) (br := [[zAr T 0 m_was 7 f_was], [zAr T 0 m_all 3952 f_all], [zAr T 0 m_posts 7 g_posts_6], [zAr T 0 m_shut 7 g_shut_7], [zAr T 0 m_here 7 g_here_8]]) (As := [.int c_]) (rest := []) C G (c_m_isCrossing l T mo m_all m_has i_size i_next i_where i_token i_number i_word i_wrong i_farCrossing m_read j_z0_1 j_crossings_2 j_inns_3 m_posts m_shut m_here j_steps_4 j_done_5 i_at i_gone m_was m_came m_seenAt m_rowWorth m_farBy m_used i_everywhere i_again0 i_d0 i_never i_firstCame i_longRun i_moved i_crowd i_l0 i_fitMany i_fitLeast i_fitMost m_fitPost m_fitEnd m_keptPosts i_x0 c_ (by first | with_reducible assumption | with_reducible rfl | omega | assumption | rfl | decide)) (kV_RX12_187 C.2.2.2.2 (Nat.le_of_ble_eq_true rfl) (Nat.le_of_ble_eq_true rfl)) [1] [1] rfl rfl (ci := 11) (qc := (RX12, TX12, 43)) rfl rfl (List.mem_flatten.mpr ⟨_, List.mem_of_getElem? (i := 0) rfl, List.mem_cons_self⟩) rfl rfl hl.1 dX12_walk_10 (Nat.le_of_ble_eq_true rfl) (Nat.le_of_ble_eq_true rfl) (fun r_25 b1 H locs hw G => ?_)
    refine zAn2 hw ?_
    intro hbs9 hc_24
    clear hw
    subst hbs9
    have G : zS T A s.heap s [[zAr T 0 m_was 7 f_was], [zAr T 0 m_all 3952 f_all], [zAr T 0 m_posts 7 g_posts_6], [zAr T 0 m_shut 7 g_shut_7], [zAr T 0 m_here 7 g_here_8], [zO11 mo m_all m_has i_size i_next i_where i_token i_number i_word i_wrong i_farCrossing m_read j_z0_1 j_crossings_2 j_inns_3 m_posts m_shut m_here j_steps_4 j_done_5 i_at i_gone m_was m_came m_seenAt m_rowWorth m_farBy m_used i_everywhere i_again0 i_d0 i_never i_firstCame i_longRun i_moved i_crowd i_l0 i_fitMany i_fitLeast i_fitMost m_fitPost m_fitEnd m_keptPosts i_x0]] _ _ := G
    rcases hc_24 with ⟨rfl, h_26, h_27⟩ | ⟨rfl, h_28⟩
    · have h_26 : 0 ≤ c_.toInt := h_26
      have h_27 : c_.toInt < j_crossings_2.toInt := h_27
      refine lv_if_ne (tgt := 19) hx hb dX12_walk_13 (by decide) (fun _ => ?_) (fun q => absurd q (by decide))
      refine lv_aload_n hx hb dX12_walk_19 rfl (lv_at hl 0 rfl) ?_
      refine lv_iload_n hx hb dX12_walk_20 rfl (lv_at hl 2 rfl) ?_
      refine z_Vi (bc := [[zO11 mo m_all m_has i_size i_next i_where i_token i_number i_word i_wrong i_farCrossing m_read j_z0_1 j_crossings_2 j_inns_3 m_posts m_shut m_here j_steps_4 j_done_5 i_at i_gone m_was m_came m_seenAt m_rowWorth m_farBy m_used i_everywhere i_again0 i_d0 i_never i_firstCame i_longRun i_moved i_crowd i_l0 i_fitMany i_fitLeast i_fitMost m_fitPost m_fitEnd m_keptPosts i_x0], [zAr T 0 m_all 3952 f_all], [zAr T 0 m_posts 7 g_posts_6], [zAr T 0 m_shut 7 g_shut_7], [zAr T 0 m_was 7 f_was]]) (br := [[zAr T 0 m_here 7 g_here_8]]) (As := [.int c_]) (rest := []) C G (c_m_walks l T mo m_all m_has i_size i_next i_where i_token i_number i_word i_wrong i_farCrossing m_read j_z0_1 j_crossings_2 j_inns_3 m_posts m_shut m_here j_steps_4 j_done_5 i_at i_gone m_was m_came m_seenAt m_rowWorth m_farBy m_used i_everywhere i_again0 i_d0 i_never i_firstCame i_longRun i_moved i_crowd i_l0 i_fitMany i_fitLeast i_fitMost m_fitPost m_fitEnd m_keptPosts i_x0 f_all g_posts_6 g_shut_7 f_was c_ (by first | with_reducible assumption | with_reducible rfl | omega | assumption | rfl | decide) (by first | with_reducible assumption | with_reducible rfl | omega | assumption | rfl | decide) (by first | with_reducible assumption | with_reducible rfl | omega | assumption | rfl | decide) (by first | with_reducible assumption | with_reducible rfl | omega | assumption | rfl | decide)) (kV_RX12_217 C.2.2.2.2 (Nat.le_of_ble_eq_true rfl) (Nat.le_of_ble_eq_true rfl)) [5, 1, 2, 3, 0] [0, 0, 0, 0, 1] rfl rfl (ci := 11) (qc := (RX12, TX12, 43)) rfl rfl (List.mem_flatten.mpr ⟨_, List.mem_of_getElem? (i := 0) rfl, List.mem_cons_self⟩) rfl rfl hl.1 dX12_walk_21 (Nat.le_of_ble_eq_true rfl) (Nat.le_of_ble_eq_true rfl) (fun r_39 b1 H locs hw G => ?_)
      refine zEx4 hw ?_
      intro j_at_29 j_gone_30 g_posts_31 g_was_32
      refine zCu7 ?_
      intro hbs9 h_33 h_34 h_35 h_36 h_37 h_38
      clear hw
      subst hbs9
      have G : zS T A s.heap s [[zAr T 0 m_here 7 g_here_8], [zO11 mo m_all m_has i_size i_next i_where i_token i_number i_word i_wrong i_farCrossing m_read j_z0_1 j_crossings_2 j_inns_3 m_posts m_shut m_here j_steps_4 j_done_5 j_at_29 j_gone_30 m_was m_came m_seenAt m_rowWorth m_farBy m_used i_everywhere i_again0 i_d0 i_never i_firstCame i_longRun i_moved i_crowd i_l0 i_fitMany i_fitLeast i_fitMost m_fitPost m_fitEnd m_keptPosts i_x0], [zAr T 0 m_all 3952 f_all], [zAr T 0 m_posts 7 g_posts_31], [zAr T 0 m_shut 7 g_shut_7], [zAr T 0 m_was 7 g_was_32]] _ _ := G
      replace h_33 : zHd ((r_39 = 0 ∨ r_39 = 1)) := h_33
      refine lv_istore (lv' := [(4, .int r_39), (0, .ref mo), (1, .int l_), (2, .int c_), (3, .int w_)]) hx hb dX12_walk_24 hl (by decide) (zLvf_h rfl) (fun ls hl => ?_)
      refine lv_iload_n hx hb dX12_walk_26 rfl (lv_at hl 4 rfl) ?_
      by_cases c_40o : w_.toInt < 0 ∨ 2 < w_.toInt
      · refine lv_tableOut (tgt := 73) hx hb dX12_walk_27 c_40o (by decide) ?_
        refine lv_iload_n hx hb dX12_walk_73 rfl (lv_at hl 4 rfl) ?_
        refine lv_bipush (v := 10) hx hb dX12_walk_74 (by decide) ?_
        refine lv_bipush (v := 16) hx hb dX12_walk_76 (by decide) ?_
        refine z_Si (bc := []) (br := [[zAr T 0 m_here 7 g_here_8], [zO11 mo m_all m_has i_size i_next i_where i_token i_number i_word i_wrong i_farCrossing m_read j_z0_1 j_crossings_2 j_inns_3 m_posts m_shut m_here j_steps_4 j_done_5 j_at_29 j_gone_30 m_was m_came m_seenAt m_rowWorth m_farBy m_used i_everywhere i_again0 i_d0 i_never i_firstCame i_longRun i_moved i_crowd i_l0 i_fitMany i_fitLeast i_fitMost m_fitPost m_fitEnd m_keptPosts i_x0], [zAr T 0 m_all 3952 f_all], [zAr T 0 m_posts 7 g_posts_31], [zAr T 0 m_shut 7 g_shut_7], [zAr T 0 m_was 7 g_was_32]]) (As := [.int w_, .int 10, .int 16]) (rest := []) C G (c_m_isIn l T w_ 10 16) (kS_RX12_111 C.2.2.2.2 (Nat.le_of_ble_eq_true rfl) (Nat.le_of_ble_eq_true rfl)) [] [] rfl rfl rfl rfl hl.1 dX12_walk_78 (Nat.le_of_ble_eq_true rfl) (Nat.le_of_ble_eq_true rfl) (fun r_42 b1 H locs hw G => ?_)
        refine zAn2 hw ?_
        intro hbs9 hc_41
        clear hw
        subst hbs9
        have G : zS T A s.heap s [[zAr T 0 m_here 7 g_here_8], [zO11 mo m_all m_has i_size i_next i_where i_token i_number i_word i_wrong i_farCrossing m_read j_z0_1 j_crossings_2 j_inns_3 m_posts m_shut m_here j_steps_4 j_done_5 j_at_29 j_gone_30 m_was m_came m_seenAt m_rowWorth m_farBy m_used i_everywhere i_again0 i_d0 i_never i_firstCame i_longRun i_moved i_crowd i_l0 i_fitMany i_fitLeast i_fitMost m_fitPost m_fitEnd m_keptPosts i_x0], [zAr T 0 m_all 3952 f_all], [zAr T 0 m_posts 7 g_posts_31], [zAr T 0 m_shut 7 g_shut_7], [zAr T 0 m_was 7 g_was_32]] _ _ := G
        rcases hc_41 with ⟨rfl, h_43, h_44⟩ | ⟨rfl, h_45⟩
        · have h_43 : (10 : Int) ≤ w_.toInt := h_43
          have h_44 : w_.toInt ≤ (16 : Int) := h_44
          refine lv_if_eq (tgt := 107) hx hb dX12_walk_81 (by decide) (fun q => absurd q (by decide)) (fun _ => ?_)
          refine lv_aload_n hx hb dX12_walk_84 rfl (lv_at hl 1 rfl) ?_
          refine lv_iload_n hx hb dX12_walk_85 rfl (lv_at hl 4 rfl) ?_
          refine lv_bipush (v := 10) hx hb dX12_walk_86 (by decide) ?_
          refine lv_isub hx hb dX12_walk_88 ?_
          refine lv_topi (fun y_46 ey_46 => ?_)
          have ey_46i : y_46.toInt = w_.toInt - (10 : Int) := by rw [ey_46]; exact z_isubI (x := w_) (y := (10 : Int32)) (by show -2147483648 ≤ w_.toInt - (10 : Int); omega) (by show w_.toInt - (10 : Int) < 2147483648; omega)
          refine z_Vi (bc := [[zO11 mo m_all m_has i_size i_next i_where i_token i_number i_word i_wrong i_farCrossing m_read j_z0_1 j_crossings_2 j_inns_3 m_posts m_shut m_here j_steps_4 j_done_5 j_at_29 j_gone_30 m_was m_came m_seenAt m_rowWorth m_farBy m_used i_everywhere i_again0 i_d0 i_never i_firstCame i_longRun i_moved i_crowd i_l0 i_fitMany i_fitLeast i_fitMost m_fitPost m_fitEnd m_keptPosts i_x0]]) (br := [[zAr T 0 m_here 7 g_here_8], [zAr T 0 m_all 3952 f_all], [zAr T 0 m_posts 7 g_posts_31], [zAr T 0 m_shut 7 g_shut_7], [zAr T 0 m_was 7 g_was_32]]) (As := [.int y_46]) (rest := []) C G (c_m_isCrossing l T mo m_all m_has i_size i_next i_where i_token i_number i_word i_wrong i_farCrossing m_read j_z0_1 j_crossings_2 j_inns_3 m_posts m_shut m_here j_steps_4 j_done_5 j_at_29 j_gone_30 m_was m_came m_seenAt m_rowWorth m_farBy m_used i_everywhere i_again0 i_d0 i_never i_firstCame i_longRun i_moved i_crowd i_l0 i_fitMany i_fitLeast i_fitMost m_fitPost m_fitEnd m_keptPosts i_x0 y_46 (by first | with_reducible assumption | with_reducible rfl | omega | assumption | rfl | decide)) (kV_RX12_187 C.2.2.2.2 (Nat.le_of_ble_eq_true rfl) (Nat.le_of_ble_eq_true rfl)) [1] [1] rfl rfl (ci := 11) (qc := (RX12, TX12, 43)) rfl rfl (List.mem_flatten.mpr ⟨_, List.mem_of_getElem? (i := 0) rfl, List.mem_cons_self⟩) rfl rfl hl.1 dX12_walk_89 (Nat.le_of_ble_eq_true rfl) (Nat.le_of_ble_eq_true rfl) (fun r_48 b1 H locs hw G => ?_)
          refine zAn2 hw ?_
          intro hbs9 hc_47
          clear hw
          subst hbs9
          have G : zS T A s.heap s [[zAr T 0 m_here 7 g_here_8], [zAr T 0 m_all 3952 f_all], [zAr T 0 m_posts 7 g_posts_31], [zAr T 0 m_shut 7 g_shut_7], [zAr T 0 m_was 7 g_was_32], [zO11 mo m_all m_has i_size i_next i_where i_token i_number i_word i_wrong i_farCrossing m_read j_z0_1 j_crossings_2 j_inns_3 m_posts m_shut m_here j_steps_4 j_done_5 j_at_29 j_gone_30 m_was m_came m_seenAt m_rowWorth m_farBy m_used i_everywhere i_again0 i_d0 i_never i_firstCame i_longRun i_moved i_crowd i_l0 i_fitMany i_fitLeast i_fitMost m_fitPost m_fitEnd m_keptPosts i_x0]] _ _ := G
          rcases hc_47 with ⟨rfl, h_49, h_50⟩ | ⟨rfl, h_51⟩
          · have h_49 : 0 ≤ y_46.toInt := h_49
            have h_50 : y_46.toInt < j_crossings_2.toInt := h_50
            refine lv_if_eq (tgt := 107) hx hb dX12_walk_92 (by decide) (fun q => absurd q (by decide)) (fun _ => ?_)
            refine lv_aload_n hx hb dX12_walk_95 rfl (lv_at hl 1 rfl) ?_
            refine z_get C G clX12 5 rfl 21 (by decide) m_fl_RX12_29 rfl dX12_walk_96 ?_
            refine lv_iload_n hx hb dX12_walk_99 rfl (lv_at hl 4 rfl) ?_
            refine lv_bipush (v := 10) hx hb dX12_walk_100 (by decide) ?_
            refine lv_isub hx hb dX12_walk_102 ?_
            refine lv_topi (fun y_52 ey_52 => ?_)
            have ey_52i : y_52.toInt = w_.toInt - (10 : Int) := by rw [ey_52]; exact z_isubI (x := w_) (y := (10 : Int32)) (by show -2147483648 ≤ w_.toInt - (10 : Int); omega) (by show w_.toInt - (10 : Int) < 2147483648; omega)
            refine z_ild C G 4 rfl (vp_in_iff.mpr ⟨by omega, by omega⟩) dX12_walk_103 ?_
            refine lv_topi (fun v_53 ev_53 => ?_)
            subst ev_53
            refine lv_goto (tgt := 109) hx hb dX12_walk_104 (by decide) ?_
            have G := G.sub (bs' := [[zO11 mo m_all m_has i_size i_next i_where i_token i_number i_word i_wrong i_farCrossing m_read j_z0_1 j_crossings_2 j_inns_3 m_posts m_shut m_here j_steps_4 j_done_5 j_at_29 j_gone_30 m_was m_came m_seenAt m_rowWorth m_farBy m_used i_everywhere i_again0 i_d0 i_never i_firstCame i_longRun i_moved i_crowd i_l0 i_fitMany i_fitLeast i_fitMost m_fitPost m_fitEnd m_keptPosts i_x0], [zAr T 0 m_all 3952 f_all], [zAr T 0 m_posts 7 g_posts_31], [zAr T 0 m_shut 7 g_shut_7], [zAr T 0 m_here 7 g_here_8], [zAr T 0 m_was 7 g_was_32]]) [5, 1, 2, 3, 0, 4] rfl
            exact z_back hQz_ (z_iret C hr hlocks G (Nat.le_of_ble_eq_true rfl) (Nat.le_of_ble_eq_true rfl) dX12_walk_109 ⟨j_z0_1, j_crossings_2, j_inns_3, j_steps_4, j_done_5, j_at_29, j_gone_30, g_posts_31, g_shut_7, g_here_8, g_was_32, rfl⟩)
          · have h_51 : (y_46.toInt < 0 ∨ j_crossings_2.toInt ≤ y_46.toInt) := h_51
            refine lv_if_eq (tgt := 107) hx hb dX12_walk_92 (by decide) (fun _ => ?_) (fun q => absurd (by decide) q)
            refine lv_bipush (v := (-2)) hx hb dX12_walk_107 (by decide) ?_
            have G := G.sub (bs' := [[zO11 mo m_all m_has i_size i_next i_where i_token i_number i_word i_wrong i_farCrossing m_read j_z0_1 j_crossings_2 j_inns_3 m_posts m_shut m_here j_steps_4 j_done_5 j_at_29 j_gone_30 m_was m_came m_seenAt m_rowWorth m_farBy m_used i_everywhere i_again0 i_d0 i_never i_firstCame i_longRun i_moved i_crowd i_l0 i_fitMany i_fitLeast i_fitMost m_fitPost m_fitEnd m_keptPosts i_x0], [zAr T 0 m_all 3952 f_all], [zAr T 0 m_posts 7 g_posts_31], [zAr T 0 m_shut 7 g_shut_7], [zAr T 0 m_here 7 g_here_8], [zAr T 0 m_was 7 g_was_32]]) [5, 1, 2, 3, 0, 4] rfl
            exact z_back hQz_ (z_iret C hr hlocks G (Nat.le_of_ble_eq_true rfl) (Nat.le_of_ble_eq_true rfl) dX12_walk_109 ⟨j_z0_1, j_crossings_2, j_inns_3, j_steps_4, j_done_5, j_at_29, j_gone_30, g_posts_31, g_shut_7, g_here_8, g_was_32, rfl⟩)
        · have h_45 : (w_.toInt < (10 : Int) ∨ (16 : Int) < w_.toInt) := h_45
          refine lv_if_eq (tgt := 107) hx hb dX12_walk_81 (by decide) (fun _ => ?_) (fun q => absurd (by decide) q)
          refine lv_bipush (v := (-2)) hx hb dX12_walk_107 (by decide) ?_
          have G := G.sub (bs' := [[zO11 mo m_all m_has i_size i_next i_where i_token i_number i_word i_wrong i_farCrossing m_read j_z0_1 j_crossings_2 j_inns_3 m_posts m_shut m_here j_steps_4 j_done_5 j_at_29 j_gone_30 m_was m_came m_seenAt m_rowWorth m_farBy m_used i_everywhere i_again0 i_d0 i_never i_firstCame i_longRun i_moved i_crowd i_l0 i_fitMany i_fitLeast i_fitMost m_fitPost m_fitEnd m_keptPosts i_x0], [zAr T 0 m_all 3952 f_all], [zAr T 0 m_posts 7 g_posts_31], [zAr T 0 m_shut 7 g_shut_7], [zAr T 0 m_here 7 g_here_8], [zAr T 0 m_was 7 g_was_32]]) [1, 2, 3, 4, 0, 5] rfl
          exact z_back hQz_ (z_iret C hr hlocks G (Nat.le_of_ble_eq_true rfl) (Nat.le_of_ble_eq_true rfl) dX12_walk_109 ⟨j_z0_1, j_crossings_2, j_inns_3, j_steps_4, j_done_5, j_at_29, j_gone_30, g_posts_31, g_shut_7, g_here_8, g_was_32, rfl⟩)
      · have c_40r : w_.toInt = 0 ∨ w_.toInt = 1 ∨ w_.toInt = 2 := by omega
        rcases c_40r with c_40 | c_40 | c_40
        · refine lv_tableIn (tgt := 52) hx hb dX12_walk_27 (by first | (rw [c_40]; decide) | omega) (by first | (rw [c_40]; decide) | omega) (by rw [c_40]; rfl) (by decide) ?_
          refine lv_aload_n hx hb dX12_walk_52 rfl (lv_at hl 1 rfl) ?_
          refine z_get C G clX12 1 rfl 20 (by decide) m_fl_RX12_208 rfl dX12_walk_53 ?_
          have G := G.sub (bs' := [[zO11 mo m_all m_has i_size i_next i_where i_token i_number i_word i_wrong i_farCrossing m_read j_z0_1 j_crossings_2 j_inns_3 m_posts m_shut m_here j_steps_4 j_done_5 j_at_29 j_gone_30 m_was m_came m_seenAt m_rowWorth m_farBy m_used i_everywhere i_again0 i_d0 i_never i_firstCame i_longRun i_moved i_crowd i_l0 i_fitMany i_fitLeast i_fitMost m_fitPost m_fitEnd m_keptPosts i_x0], [zAr T 0 m_all 3952 f_all], [zAr T 0 m_posts 7 g_posts_31], [zAr T 0 m_shut 7 g_shut_7], [zAr T 0 m_here 7 g_here_8], [zAr T 0 m_was 7 g_was_32]]) [1, 2, 3, 4, 0, 5] rfl
          exact z_back hQz_ (z_iret C hr hlocks G (Nat.le_of_ble_eq_true rfl) (Nat.le_of_ble_eq_true rfl) dX12_walk_56 ⟨j_z0_1, j_crossings_2, j_inns_3, j_steps_4, j_done_5, j_at_29, j_gone_30, g_posts_31, g_shut_7, g_here_8, g_was_32, rfl⟩)
        · refine lv_tableIn (tgt := 57) hx hb dX12_walk_27 (by first | (rw [c_40]; decide) | omega) (by first | (rw [c_40]; decide) | omega) (by rw [c_40]; rfl) (by decide) ?_
          refine lv_aload_n hx hb dX12_walk_57 rfl (lv_at hl 1 rfl) ?_
          refine z_get C G clX12 1 rfl 19 (by decide) m_fl_RX12_202 rfl dX12_walk_58 ?_
          have G := G.sub (bs' := [[zO11 mo m_all m_has i_size i_next i_where i_token i_number i_word i_wrong i_farCrossing m_read j_z0_1 j_crossings_2 j_inns_3 m_posts m_shut m_here j_steps_4 j_done_5 j_at_29 j_gone_30 m_was m_came m_seenAt m_rowWorth m_farBy m_used i_everywhere i_again0 i_d0 i_never i_firstCame i_longRun i_moved i_crowd i_l0 i_fitMany i_fitLeast i_fitMost m_fitPost m_fitEnd m_keptPosts i_x0], [zAr T 0 m_all 3952 f_all], [zAr T 0 m_posts 7 g_posts_31], [zAr T 0 m_shut 7 g_shut_7], [zAr T 0 m_here 7 g_here_8], [zAr T 0 m_was 7 g_was_32]]) [1, 2, 3, 4, 0, 5] rfl
          exact z_back hQz_ (z_iret C hr hlocks G (Nat.le_of_ble_eq_true rfl) (Nat.le_of_ble_eq_true rfl) dX12_walk_61 ⟨j_z0_1, j_crossings_2, j_inns_3, j_steps_4, j_done_5, j_at_29, j_gone_30, g_posts_31, g_shut_7, g_here_8, g_was_32, rfl⟩)
        · refine lv_tableIn (tgt := 62) hx hb dX12_walk_27 (by first | (rw [c_40]; decide) | omega) (by first | (rw [c_40]; decide) | omega) (by rw [c_40]; rfl) (by decide) ?_
          refine lv_iload hx hb dX12_walk_62 (lv_at hl 0 rfl) ?_
          refine lv_if_eq (tgt := 71) hx hb dX12_walk_64 (by decide) (fun c_54 => ?_) (fun c_54 => ?_)
          · have c_54n : r_39.toInt = (0 : Int) := (fa_eq _ _).mp c_54
            refine lv_iconst (v := 0) hx hb dX12_walk_71 (by decide) ?_
            have G := G.sub (bs' := [[zO11 mo m_all m_has i_size i_next i_where i_token i_number i_word i_wrong i_farCrossing m_read j_z0_1 j_crossings_2 j_inns_3 m_posts m_shut m_here j_steps_4 j_done_5 j_at_29 j_gone_30 m_was m_came m_seenAt m_rowWorth m_farBy m_used i_everywhere i_again0 i_d0 i_never i_firstCame i_longRun i_moved i_crowd i_l0 i_fitMany i_fitLeast i_fitMost m_fitPost m_fitEnd m_keptPosts i_x0], [zAr T 0 m_all 3952 f_all], [zAr T 0 m_posts 7 g_posts_31], [zAr T 0 m_shut 7 g_shut_7], [zAr T 0 m_here 7 g_here_8], [zAr T 0 m_was 7 g_was_32]]) [1, 2, 3, 4, 0, 5] rfl
            exact z_back hQz_ (z_iret C hr hlocks G (Nat.le_of_ble_eq_true rfl) (Nat.le_of_ble_eq_true rfl) dX12_walk_72 ⟨j_z0_1, j_crossings_2, j_inns_3, j_steps_4, j_done_5, j_at_29, j_gone_30, g_posts_31, g_shut_7, g_here_8, g_was_32, rfl⟩)
          · have c_54n : ¬ r_39.toInt = (0 : Int) := fun q => c_54 ((fa_eq _ _).mpr q)
            refine lv_iconst (v := 1) hx hb dX12_walk_67 (by decide) ?_
            refine lv_goto (tgt := 72) hx hb dX12_walk_68 (by decide) ?_
            have G := G.sub (bs' := [[zO11 mo m_all m_has i_size i_next i_where i_token i_number i_word i_wrong i_farCrossing m_read j_z0_1 j_crossings_2 j_inns_3 m_posts m_shut m_here j_steps_4 j_done_5 j_at_29 j_gone_30 m_was m_came m_seenAt m_rowWorth m_farBy m_used i_everywhere i_again0 i_d0 i_never i_firstCame i_longRun i_moved i_crowd i_l0 i_fitMany i_fitLeast i_fitMost m_fitPost m_fitEnd m_keptPosts i_x0], [zAr T 0 m_all 3952 f_all], [zAr T 0 m_posts 7 g_posts_31], [zAr T 0 m_shut 7 g_shut_7], [zAr T 0 m_here 7 g_here_8], [zAr T 0 m_was 7 g_was_32]]) [1, 2, 3, 4, 0, 5] rfl
            exact z_back hQz_ (z_iret C hr hlocks G (Nat.le_of_ble_eq_true rfl) (Nat.le_of_ble_eq_true rfl) dX12_walk_72 ⟨j_z0_1, j_crossings_2, j_inns_3, j_steps_4, j_done_5, j_at_29, j_gone_30, g_posts_31, g_shut_7, g_here_8, g_was_32, rfl⟩)
    · have h_28 : (c_.toInt < 0 ∨ j_crossings_2.toInt ≤ c_.toInt) := h_28
      refine lv_if_ne (tgt := 19) hx hb dX12_walk_13 (by decide) (fun q => absurd (by decide) q) (fun _ => ?_)
      refine lv_bipush (v := (-2)) hx hb dX12_walk_16 (by decide) ?_
      have G := G.sub (bs' := [[zO11 mo m_all m_has i_size i_next i_where i_token i_number i_word i_wrong i_farCrossing m_read j_z0_1 j_crossings_2 j_inns_3 m_posts m_shut m_here j_steps_4 j_done_5 i_at i_gone m_was m_came m_seenAt m_rowWorth m_farBy m_used i_everywhere i_again0 i_d0 i_never i_firstCame i_longRun i_moved i_crowd i_l0 i_fitMany i_fitLeast i_fitMost m_fitPost m_fitEnd m_keptPosts i_x0], [zAr T 0 m_all 3952 f_all], [zAr T 0 m_posts 7 g_posts_6], [zAr T 0 m_shut 7 g_shut_7], [zAr T 0 m_here 7 g_here_8], [zAr T 0 m_was 7 f_was]]) [5, 1, 2, 3, 4, 0] rfl
      exact z_back hQz_ (z_iret C hr hlocks G (Nat.le_of_ble_eq_true rfl) (Nat.le_of_ble_eq_true rfl) dX12_walk_18 ⟨j_z0_1, j_crossings_2, j_inns_3, j_steps_4, j_done_5, i_at, i_gone, g_posts_6, g_shut_7, g_here_8, f_was, rfl⟩)
  · have h_23 : (l_.toInt < 0 ∨ (f_all 0).toInt ≤ l_.toInt) := h_23
    refine lv_if_eq (tgt := 16) hx hb dX12_walk_5 (by decide) (fun _ => ?_) (fun q => absurd (by decide) q)
    refine lv_bipush (v := (-2)) hx hb dX12_walk_16 (by decide) ?_
    have G := G.sub (bs' := [[zO11 mo m_all m_has i_size i_next i_where i_token i_number i_word i_wrong i_farCrossing m_read j_z0_1 j_crossings_2 j_inns_3 m_posts m_shut m_here j_steps_4 j_done_5 i_at i_gone m_was m_came m_seenAt m_rowWorth m_farBy m_used i_everywhere i_again0 i_d0 i_never i_firstCame i_longRun i_moved i_crowd i_l0 i_fitMany i_fitLeast i_fitMost m_fitPost m_fitEnd m_keptPosts i_x0], [zAr T 0 m_all 3952 f_all], [zAr T 0 m_posts 7 g_posts_6], [zAr T 0 m_shut 7 g_shut_7], [zAr T 0 m_here 7 g_here_8], [zAr T 0 m_was 7 f_was]]) [1, 2, 3, 4, 5, 0] rfl
    exact z_back hQz_ (z_iret C hr hlocks G (Nat.le_of_ble_eq_true rfl) (Nat.le_of_ble_eq_true rfl) dX12_walk_18 ⟨j_z0_1, j_crossings_2, j_inns_3, j_steps_4, j_done_5, i_at, i_gone, g_posts_6, g_shut_7, g_here_8, f_was, rfl⟩)
set_option maxHeartbeats 4000000 in
set_option maxRecDepth 100000 in
/-- c_m_come -/
theorem c_m_come (l : Launch) (T : zTy) (mo : Nat) (m_all : Nat) (m_has : Nat) (i_size : Int32) (i_next : Int32) (i_where : Int32) (i_token : Int32) (i_number : Int32) (i_word : Int32) (i_wrong : Int32) (i_farCrossing : Int32) (m_read : Nat) (i_z0 : Int32) (i_crossings : Int32) (i_inns : Int32) (m_posts : Nat) (m_shut : Nat) (m_here : Nat) (i_steps : Int32) (i_done : Int32) (i_at : Int32) (i_gone : Int32) (m_was : Nat) (m_came : Nat) (m_seenAt : Nat) (m_rowWorth : Nat) (m_farBy : Nat) (m_used : Nat) (i_everywhere : Int32) (i_again0 : Int32) (i_d0 : Int32) (i_never : Int32) (i_firstCame : Int32) (i_longRun : Int32) (i_moved : Int32) (i_crowd : Int32) (i_l0 : Int32) (i_fitMany : Int32) (i_fitLeast : Int32) (i_fitMost : Int32) (m_fitPost : Nat) (m_fitEnd : Nat) (m_keptPosts : Nat) (i_x0 : Int32) (f_all : Nat → Int32) (f_posts : Nat → Int32) (f_shut : Nat → Int32) (f_here : Nat → Int32) (f_was : Nat → Int32) (l_ : Int32) (c_ : Int32) (k_ : Int32) (hB : zBI f_all) : zMi l T yX12_come cX12_come 5 (some .int) 5 0 0 [.ref mo, .int l_, .int c_, .int k_] [[zO11 mo m_all m_has i_size i_next i_where i_token i_number i_word i_wrong i_farCrossing m_read i_z0 i_crossings i_inns m_posts m_shut m_here i_steps i_done i_at i_gone m_was m_came m_seenAt m_rowWorth m_farBy m_used i_everywhere i_again0 i_d0 i_never i_firstCame i_longRun i_moved i_crowd i_l0 i_fitMany i_fitLeast i_fitMost m_fitPost m_fitEnd m_keptPosts i_x0], [zAr T 0 m_all 3952 f_all], [zAr T 0 m_posts 7 f_posts], [zAr T 0 m_shut 7 f_shut], [zAr T 0 m_here 7 f_here], [zAr T 0 m_was 7 f_was]] (fun (r : Int32) bs => ∃ (j_z0 : Int32) (j_crossings : Int32) (j_inns : Int32) (j_steps : Int32) (j_done : Int32) (j_at : Int32) (j_gone : Int32) (g_posts : Nat → Int32) (g_shut : Nat → Int32) (g_here : Nat → Int32) (g_was : Nat → Int32), bs = [[zO11 mo m_all m_has i_size i_next i_where i_token i_number i_word i_wrong i_farCrossing m_read j_z0 j_crossings j_inns m_posts m_shut m_here j_steps j_done j_at j_gone m_was m_came m_seenAt m_rowWorth m_farBy m_used i_everywhere i_again0 i_d0 i_never i_firstCame i_longRun i_moved i_crowd i_l0 i_fitMany i_fitLeast i_fitMost m_fitPost m_fitEnd m_keptPosts i_x0], [zAr T 0 m_all 3952 f_all], [zAr T 0 m_posts 7 g_posts], [zAr T 0 m_shut 7 g_shut], [zAr T 0 m_here 7 g_here], [zAr T 0 m_was 7 g_was]]) := by
  refine zMi_of (own := RX12) (by decide) rfl (Nat.le_of_ble_eq_true rfl) ?_
  intro p e s m args below meth c A ls C hr hlocks hnm hAe G hl
  refine zHide (fun Qz_ hQz_ => ?_)
  have hx := C.1
  have hb := C.2.1
  have hl : lv_has ls 5 [(0, .ref mo), (1, .int l_), (2, .int c_), (3, .int k_)] := hl
  refine lv_aload_n hx hb dX12_come_0 rfl (lv_at hl 0 rfl) ?_
  refine lv_iload_n hx hb dX12_come_1 rfl (lv_at hl 1 rfl) ?_
  refine z_Vi (bc := [[zO11 mo m_all m_has i_size i_next i_where i_token i_number i_word i_wrong i_farCrossing m_read i_z0 i_crossings i_inns m_posts m_shut m_here i_steps i_done i_at i_gone m_was m_came m_seenAt m_rowWorth m_farBy m_used i_everywhere i_again0 i_d0 i_never i_firstCame i_longRun i_moved i_crowd i_l0 i_fitMany i_fitLeast i_fitMost m_fitPost m_fitEnd m_keptPosts i_x0], [zAr T 0 m_all 3952 f_all], [zAr T 0 m_posts 7 f_posts], [zAr T 0 m_shut 7 f_shut], [zAr T 0 m_here 7 f_here]]) (br := [[zAr T 0 m_was 7 f_was]]) (As := [.int l_]) (rest := []) C G (c_m_isLand l T mo m_all m_has i_size i_next i_where i_token i_number i_word i_wrong i_farCrossing m_read i_z0 i_crossings i_inns m_posts m_shut m_here i_steps i_done i_at i_gone m_was m_came m_seenAt m_rowWorth m_farBy m_used i_everywhere i_again0 i_d0 i_never i_firstCame i_longRun i_moved i_crowd i_l0 i_fitMany i_fitLeast i_fitMost m_fitPost m_fitEnd m_keptPosts i_x0 f_all f_posts f_shut f_here l_ (by first | with_reducible assumption | with_reducible rfl | omega | assumption | rfl | decide)) (kV_RX12_184 C.2.2.2.2 (Nat.le_of_ble_eq_true rfl) (Nat.le_of_ble_eq_true rfl)) [0, 1, 2, 3, 4] [0, 0, 0, 0, 0] rfl rfl (ci := 11) (qc := (RX12, TX12, 43)) rfl rfl (List.mem_flatten.mpr ⟨_, List.mem_of_getElem? (i := 0) rfl, List.mem_cons_self⟩) rfl rfl hl.1 dX12_come_2 (Nat.le_of_ble_eq_true rfl) (Nat.le_of_ble_eq_true rfl) (fun r_10 b1 H locs hw G => ?_)
  refine zEx8 hw ?_
  intro j_z0_1 j_crossings_2 j_inns_3 j_steps_4 j_done_5 g_posts_6 g_shut_7 g_here_8
  refine zCu2 ?_
  intro hbs9 hc_9
  clear hw
  subst hbs9
  have G : zS T A s.heap s [[zAr T 0 m_was 7 f_was], [zO11 mo m_all m_has i_size i_next i_where i_token i_number i_word i_wrong i_farCrossing m_read j_z0_1 j_crossings_2 j_inns_3 m_posts m_shut m_here j_steps_4 j_done_5 i_at i_gone m_was m_came m_seenAt m_rowWorth m_farBy m_used i_everywhere i_again0 i_d0 i_never i_firstCame i_longRun i_moved i_crowd i_l0 i_fitMany i_fitLeast i_fitMost m_fitPost m_fitEnd m_keptPosts i_x0], [zAr T 0 m_all 3952 f_all], [zAr T 0 m_posts 7 g_posts_6], [zAr T 0 m_shut 7 g_shut_7], [zAr T 0 m_here 7 g_here_8]] _ _ := G
  rcases hc_9 with ⟨rfl, h_11, h_12, h_13, h_14, h_15, h_16, h_17, h_18, h_19, h_20, h_21, h_22⟩ | ⟨rfl, h_23⟩
  · have h_11 : 0 ≤ l_.toInt := h_11
    have h_12 : l_.toInt ≤ 1 := h_12
    have h_13 : l_.toInt < (f_all 0).toInt := h_13
    have h_14 : j_z0_1.toInt = 610 + 51 * l_.toInt := h_14
    have h_15 : zML f_all j_z0_1 j_crossings_2 := h_15
    have h_16 : zMP g_posts_6 := h_16
    have h_17 : j_inns_3 = f_all (j_z0_1.toInt.toNat + 1) := h_17
    have h_18 : j_steps_4 = 0 := h_18
    have h_19 : j_done_5 = 0 := h_19
    have h_20 : (∀ j, j < 7 → g_posts_6 j = zPt f_all j_z0_1 (nI j)) := h_20
    have h_21 : (∀ j, j < 7 → g_shut_7 j = 0) := h_21
    have h_22 : (∀ j, j < 7 → g_here_8 j = zWk f_all j_z0_1 j) := h_22
    have hLx := h_15
    have hcr := hLx.cr
    have hzx := hLx.1
    have hPx := h_16
    refine lv_if_eq (tgt := 26) hx hb dX12_come_5 (by decide) (fun q => absurd q (by decide)) (fun _ => ?_)
    refine lv_aload_n hx hb dX12_come_8 rfl (lv_at hl 0 rfl) ?_
    refine lv_iload_n hx hb dX12_come_9 rfl (lv_at hl 2 rfl) ?_
    refine z_Vi (bc := [[zO11 mo m_all m_has i_size i_next i_where i_token i_number i_word i_wrong i_farCrossing m_read j_z0_1 j_crossings_2 j_inns_3 m_posts m_shut m_here j_steps_4 j_done_5 i_at i_gone m_was m_came m_seenAt m_rowWorth m_farBy m_used i_everywhere i_again0 i_d0 i_never i_firstCame i_longRun i_moved i_crowd i_l0 i_fitMany i_fitLeast i_fitMost m_fitPost m_fitEnd m_keptPosts i_x0]]) (br := [[zAr T 0 m_was 7 f_was], [zAr T 0 m_all 3952 f_all], [zAr T 0 m_posts 7 g_posts_6], [zAr T 0 m_shut 7 g_shut_7], [zAr T 0 m_here 7 g_here_8]]) (As := [.int c_]) (rest := []) C G (c_m_isCrossing l T mo m_all m_has i_size i_next i_where i_token i_number i_word i_wrong i_farCrossing m_read j_z0_1 j_crossings_2 j_inns_3 m_posts m_shut m_here j_steps_4 j_done_5 i_at i_gone m_was m_came m_seenAt m_rowWorth m_farBy m_used i_everywhere i_again0 i_d0 i_never i_firstCame i_longRun i_moved i_crowd i_l0 i_fitMany i_fitLeast i_fitMost m_fitPost m_fitEnd m_keptPosts i_x0 c_ (by first | with_reducible assumption | with_reducible rfl | omega | assumption | rfl | decide)) (kV_RX12_187 C.2.2.2.2 (Nat.le_of_ble_eq_true rfl) (Nat.le_of_ble_eq_true rfl)) [1] [1] rfl rfl (ci := 11) (qc := (RX12, TX12, 43)) rfl rfl (List.mem_flatten.mpr ⟨_, List.mem_of_getElem? (i := 0) rfl, List.mem_cons_self⟩) rfl rfl hl.1 dX12_come_10 (Nat.le_of_ble_eq_true rfl) (Nat.le_of_ble_eq_true rfl) (fun r_25 b1 H locs hw G => ?_)
    refine zAn2 hw ?_
    intro hbs9 hc_24
    clear hw
    subst hbs9
    have G : zS T A s.heap s [[zAr T 0 m_was 7 f_was], [zAr T 0 m_all 3952 f_all], [zAr T 0 m_posts 7 g_posts_6], [zAr T 0 m_shut 7 g_shut_7], [zAr T 0 m_here 7 g_here_8], [zO11 mo m_all m_has i_size i_next i_where i_token i_number i_word i_wrong i_farCrossing m_read j_z0_1 j_crossings_2 j_inns_3 m_posts m_shut m_here j_steps_4 j_done_5 i_at i_gone m_was m_came m_seenAt m_rowWorth m_farBy m_used i_everywhere i_again0 i_d0 i_never i_firstCame i_longRun i_moved i_crowd i_l0 i_fitMany i_fitLeast i_fitMost m_fitPost m_fitEnd m_keptPosts i_x0]] _ _ := G
    rcases hc_24 with ⟨rfl, h_26, h_27⟩ | ⟨rfl, h_28⟩
    · have h_26 : 0 ≤ c_.toInt := h_26
      have h_27 : c_.toInt < j_crossings_2.toInt := h_27
      refine lv_if_eq (tgt := 26) hx hb dX12_come_13 (by decide) (fun q => absurd q (by decide)) (fun _ => ?_)
      refine lv_iload_n hx hb dX12_come_16 rfl (lv_at hl 3 rfl) ?_
      refine lv_iconst (v := 1) hx hb dX12_come_17 (by decide) ?_
      refine lv_bipush (v := 99) hx hb dX12_come_18 (by decide) ?_
      refine z_Si (bc := []) (br := [[zAr T 0 m_was 7 f_was], [zAr T 0 m_all 3952 f_all], [zAr T 0 m_posts 7 g_posts_6], [zAr T 0 m_shut 7 g_shut_7], [zAr T 0 m_here 7 g_here_8], [zO11 mo m_all m_has i_size i_next i_where i_token i_number i_word i_wrong i_farCrossing m_read j_z0_1 j_crossings_2 j_inns_3 m_posts m_shut m_here j_steps_4 j_done_5 i_at i_gone m_was m_came m_seenAt m_rowWorth m_farBy m_used i_everywhere i_again0 i_d0 i_never i_firstCame i_longRun i_moved i_crowd i_l0 i_fitMany i_fitLeast i_fitMost m_fitPost m_fitEnd m_keptPosts i_x0]]) (As := [.int k_, .int 1, .int 99]) (rest := []) C G (c_m_isIn l T k_ 1 99) (kS_RX12_111 C.2.2.2.2 (Nat.le_of_ble_eq_true rfl) (Nat.le_of_ble_eq_true rfl)) [] [] rfl rfl rfl rfl hl.1 dX12_come_20 (Nat.le_of_ble_eq_true rfl) (Nat.le_of_ble_eq_true rfl) (fun r_30 b1 H locs hw G => ?_)
      refine zAn2 hw ?_
      intro hbs9 hc_29
      clear hw
      subst hbs9
      have G : zS T A s.heap s [[zAr T 0 m_was 7 f_was], [zAr T 0 m_all 3952 f_all], [zAr T 0 m_posts 7 g_posts_6], [zAr T 0 m_shut 7 g_shut_7], [zAr T 0 m_here 7 g_here_8], [zO11 mo m_all m_has i_size i_next i_where i_token i_number i_word i_wrong i_farCrossing m_read j_z0_1 j_crossings_2 j_inns_3 m_posts m_shut m_here j_steps_4 j_done_5 i_at i_gone m_was m_came m_seenAt m_rowWorth m_farBy m_used i_everywhere i_again0 i_d0 i_never i_firstCame i_longRun i_moved i_crowd i_l0 i_fitMany i_fitLeast i_fitMost m_fitPost m_fitEnd m_keptPosts i_x0]] _ _ := G
      rcases hc_29 with ⟨rfl, h_31, h_32⟩ | ⟨rfl, h_33⟩
      · have h_31 : (1 : Int) ≤ k_.toInt := h_31
        have h_32 : k_.toInt ≤ (99 : Int) := h_32
        refine lv_if_ne (tgt := 28) hx hb dX12_come_23 (by decide) (fun _ => ?_) (fun q => absurd q (by decide))
        refine lv_iconst (v := 0) hx hb dX12_come_28 (by decide) ?_
        refine lv_istore (lv' := [(4, .int 0), (0, .ref mo), (1, .int l_), (2, .int c_), (3, .int k_)]) hx hb dX12_come_29 hl (by decide) (zLvf_h rfl) (fun ls hl => ?_)
        refine z_lp5 (T := T) 31 (fun (i : Nat) (xat : Int32) (xgone : Int32) (xposts : Nat → Int32) (xwas : Nat → Int32) => [[zAr T 0 m_was 7 xwas], [zAr T 0 m_all 3952 f_all], [zAr T 0 m_posts 7 xposts], [zAr T 0 m_shut 7 g_shut_7], [zAr T 0 m_here 7 g_here_8], [zO11 mo m_all m_has i_size i_next i_where i_token i_number i_word i_wrong i_farCrossing m_read j_z0_1 j_crossings_2 j_inns_3 m_posts m_shut m_here j_steps_4 j_done_5 xat xgone m_was m_came m_seenAt m_rowWorth m_farBy m_used i_everywhere i_again0 i_d0 i_never i_firstCame i_longRun i_moved i_crowd i_l0 i_fitMany i_fitLeast i_fitMost m_fitPost m_fitEnd m_keptPosts i_x0]]) (fun (i : Nat) (xat : Int32) (xgone : Int32) (xposts : Nat → Int32) (xwas : Nat → Int32) => [(4, .int (nI i)), (0, .ref mo), (1, .int l_), (2, .int c_), (3, .int k_)]) (fun (i : Nat) (xat : Int32) (xgone : Int32) (xposts : Nat → Int32) (xwas : Nat → Int32) => i ≤ 99 ∧ zMP xposts) (fun (i : Nat) (xat : Int32) (xgone : Int32) (xposts : Nat → Int32) (xwas : Nat → Int32) => 99 - i) ?_ 0 i_at i_gone g_posts_6 f_was (show 0 ≤ 99 ∧ zMP g_posts_6 from ⟨by omega, (by first | with_reducible assumption | assumption)⟩) G (lv_sub hl [0, 1, 2, 3, 4] rfl)
        intro i xat xgone xposts xwas hI9 ih_31 H locs ls G hl
        replace hI9 : i ≤ 99 ∧ zMP xposts := hI9
        refine zAn2 hI9 ?_
        intro hi hQ
        clear hI9
        replace G : zS T A s.heap s [[zAr T 0 m_was 7 xwas], [zAr T 0 m_all 3952 f_all], [zAr T 0 m_posts 7 xposts], [zAr T 0 m_shut 7 g_shut_7], [zAr T 0 m_here 7 g_here_8], [zO11 mo m_all m_has i_size i_next i_where i_token i_number i_word i_wrong i_farCrossing m_read j_z0_1 j_crossings_2 j_inns_3 m_posts m_shut m_here j_steps_4 j_done_5 xat xgone m_was m_came m_seenAt m_rowWorth m_farBy m_used i_everywhere i_again0 i_d0 i_never i_firstCame i_longRun i_moved i_crowd i_l0 i_fitMany i_fitLeast i_fitMost m_fitPost m_fitEnd m_keptPosts i_x0]] _ _ := G
        replace hl : lv_has ls 5 [(4, .int (nI i)), (0, .ref mo), (1, .int l_), (2, .int c_), (3, .int k_)] := hl
        refine lv_iload hx hb dX12_come_31 (lv_at hl 0 rfl) ?_
        refine lv_iload_n hx hb dX12_come_33 rfl (lv_at hl 4 rfl) ?_
        refine lv_icmp_ge (tgt := 49) hx hb dX12_come_34 (by decide) (fun c_34 => ?_) (fun c_34 => ?_)
        · have c_34n : k_.toInt ≤ (i : Int) := by have q := (fa_le _ _).mp c_34; rw [nI_toInt (n := i) (by omega)] at q; exact q
          refine lv_aload_n hx hb dX12_come_49 rfl (lv_at hl 1 rfl) ?_
          refine z_get C G clX12 5 rfl 19 (by decide) m_fl_RX12_202 rfl dX12_come_50 ?_
          have G := G.sub (bs' := [[zO11 mo m_all m_has i_size i_next i_where i_token i_number i_word i_wrong i_farCrossing m_read j_z0_1 j_crossings_2 j_inns_3 m_posts m_shut m_here j_steps_4 j_done_5 xat xgone m_was m_came m_seenAt m_rowWorth m_farBy m_used i_everywhere i_again0 i_d0 i_never i_firstCame i_longRun i_moved i_crowd i_l0 i_fitMany i_fitLeast i_fitMost m_fitPost m_fitEnd m_keptPosts i_x0], [zAr T 0 m_all 3952 f_all], [zAr T 0 m_posts 7 xposts], [zAr T 0 m_shut 7 g_shut_7], [zAr T 0 m_here 7 g_here_8], [zAr T 0 m_was 7 xwas]]) [5, 1, 2, 3, 4, 0] rfl
          exact z_back hQz_ (z_iret C hr hlocks G (Nat.le_of_ble_eq_true rfl) (Nat.le_of_ble_eq_true rfl) dX12_come_53 ⟨j_z0_1, j_crossings_2, j_inns_3, j_steps_4, j_done_5, xat, xgone, xposts, g_shut_7, g_here_8, xwas, rfl⟩)
        · have c_34n : ¬ k_.toInt ≤ (i : Int) := fun q => c_34 ((fa_le _ _).mpr (by rw [nI_toInt (n := i) (by omega)]; exact q))
          refine lv_aload_n hx hb dX12_come_37 rfl (lv_at hl 1 rfl) ?_
          refine lv_iload_n hx hb dX12_come_38 rfl (lv_at hl 3 rfl) ?_
          refine z_Vi (bc := [[zO11 mo m_all m_has i_size i_next i_where i_token i_number i_word i_wrong i_farCrossing m_read j_z0_1 j_crossings_2 j_inns_3 m_posts m_shut m_here j_steps_4 j_done_5 xat xgone m_was m_came m_seenAt m_rowWorth m_farBy m_used i_everywhere i_again0 i_d0 i_never i_firstCame i_longRun i_moved i_crowd i_l0 i_fitMany i_fitLeast i_fitMost m_fitPost m_fitEnd m_keptPosts i_x0], [zAr T 0 m_all 3952 f_all], [zAr T 0 m_posts 7 xposts], [zAr T 0 m_shut 7 g_shut_7], [zAr T 0 m_was 7 xwas]]) (br := [[zAr T 0 m_here 7 g_here_8]]) (As := [.int c_]) (rest := []) C G (c_m_walks l T mo m_all m_has i_size i_next i_where i_token i_number i_word i_wrong i_farCrossing m_read j_z0_1 j_crossings_2 j_inns_3 m_posts m_shut m_here j_steps_4 j_done_5 xat xgone m_was m_came m_seenAt m_rowWorth m_farBy m_used i_everywhere i_again0 i_d0 i_never i_firstCame i_longRun i_moved i_crowd i_l0 i_fitMany i_fitLeast i_fitMost m_fitPost m_fitEnd m_keptPosts i_x0 f_all xposts g_shut_7 xwas c_ (by first | with_reducible assumption | with_reducible rfl | omega | assumption | rfl | decide) (by first | with_reducible assumption | with_reducible rfl | omega | assumption | rfl | decide) (by first | with_reducible assumption | with_reducible rfl | omega | assumption | rfl | decide) (by first | with_reducible assumption | with_reducible rfl | omega | assumption | rfl | decide)) (kV_RX12_217 C.2.2.2.2 (Nat.le_of_ble_eq_true rfl) (Nat.le_of_ble_eq_true rfl)) [5, 1, 2, 3, 0] [0, 0, 0, 0, 1] rfl rfl (ci := 11) (qc := (RX12, TX12, 43)) rfl rfl (List.mem_flatten.mpr ⟨_, List.mem_of_getElem? (i := 0) rfl, List.mem_cons_self⟩) rfl rfl hl.1 dX12_come_39 (Nat.le_of_ble_eq_true rfl) (Nat.le_of_ble_eq_true rfl) (fun r_45 b1 H locs hw G => ?_)
          refine zEx4 hw ?_
          intro j_at_35 j_gone_36 g_posts_37 g_was_38
          refine zCu7 ?_
          intro hbs9 h_39 h_40 h_41 h_42 h_43 h_44
          clear hw
          subst hbs9
          have G : zS T A s.heap s [[zAr T 0 m_here 7 g_here_8], [zO11 mo m_all m_has i_size i_next i_where i_token i_number i_word i_wrong i_farCrossing m_read j_z0_1 j_crossings_2 j_inns_3 m_posts m_shut m_here j_steps_4 j_done_5 j_at_35 j_gone_36 m_was m_came m_seenAt m_rowWorth m_farBy m_used i_everywhere i_again0 i_d0 i_never i_firstCame i_longRun i_moved i_crowd i_l0 i_fitMany i_fitLeast i_fitMost m_fitPost m_fitEnd m_keptPosts i_x0], [zAr T 0 m_all 3952 f_all], [zAr T 0 m_posts 7 g_posts_37], [zAr T 0 m_shut 7 g_shut_7], [zAr T 0 m_was 7 g_was_38]] _ _ := G
          replace h_39 : zHd ((r_45 = 0 ∨ r_45 = 1)) := h_39
          refine lv_pop hx hb dX12_come_42 rfl ?_
          refine lv_iinc (v := nI (i + 1)) (lv' := [(4, .int (nI (i + 1))), (0, .ref mo), (1, .int l_), (2, .int c_), (3, .int k_)]) hx hb dX12_come_43 hl (k := 0) rfl (z_inc i 1) (by decide) (zLvf_h rfl) (fun ls hl => ?_)
          refine lv_goto (tgt := 31) hx hb dX12_come_46 (by decide) ?_
          have G := G.sub (bs' := [[zAr T 0 m_was 7 g_was_38], [zAr T 0 m_all 3952 f_all], [zAr T 0 m_posts 7 g_posts_37], [zAr T 0 m_shut 7 g_shut_7], [zAr T 0 m_here 7 g_here_8], [zO11 mo m_all m_has i_size i_next i_where i_token i_number i_word i_wrong i_farCrossing m_read j_z0_1 j_crossings_2 j_inns_3 m_posts m_shut m_here j_steps_4 j_done_5 j_at_35 j_gone_36 m_was m_came m_seenAt m_rowWorth m_farBy m_used i_everywhere i_again0 i_d0 i_never i_firstCame i_longRun i_moved i_crowd i_l0 i_fitMany i_fitLeast i_fitMost m_fitPost m_fitEnd m_keptPosts i_x0]]) [5, 2, 3, 4, 0, 1] rfl
          exact ih_31 (i + 1) j_at_35 j_gone_36 g_posts_37 g_was_38 (show (i + 1) ≤ 99 ∧ zMP g_posts_37 from ⟨by omega, (by first | with_reducible assumption | assumption)⟩) (show 99 - (i + 1) < 99 - i from by omega) _ _ ls G (lv_sub hl [0, 1, 2, 3, 4] rfl)
      · have h_33 : (k_.toInt < (1 : Int) ∨ (99 : Int) < k_.toInt) := h_33
        refine lv_if_ne (tgt := 28) hx hb dX12_come_23 (by decide) (fun q => absurd (by decide) q) (fun _ => ?_)
        refine lv_iconst (v := (-1)) hx hb dX12_come_26 (by decide) ?_
        have G := G.sub (bs' := [[zO11 mo m_all m_has i_size i_next i_where i_token i_number i_word i_wrong i_farCrossing m_read j_z0_1 j_crossings_2 j_inns_3 m_posts m_shut m_here j_steps_4 j_done_5 i_at i_gone m_was m_came m_seenAt m_rowWorth m_farBy m_used i_everywhere i_again0 i_d0 i_never i_firstCame i_longRun i_moved i_crowd i_l0 i_fitMany i_fitLeast i_fitMost m_fitPost m_fitEnd m_keptPosts i_x0], [zAr T 0 m_all 3952 f_all], [zAr T 0 m_posts 7 g_posts_6], [zAr T 0 m_shut 7 g_shut_7], [zAr T 0 m_here 7 g_here_8], [zAr T 0 m_was 7 f_was]]) [5, 1, 2, 3, 4, 0] rfl
        exact z_back hQz_ (z_iret C hr hlocks G (Nat.le_of_ble_eq_true rfl) (Nat.le_of_ble_eq_true rfl) dX12_come_27 ⟨j_z0_1, j_crossings_2, j_inns_3, j_steps_4, j_done_5, i_at, i_gone, g_posts_6, g_shut_7, g_here_8, f_was, rfl⟩)
    · have h_28 : (c_.toInt < 0 ∨ j_crossings_2.toInt ≤ c_.toInt) := h_28
      refine lv_if_eq (tgt := 26) hx hb dX12_come_13 (by decide) (fun _ => ?_) (fun q => absurd (by decide) q)
      refine lv_iconst (v := (-1)) hx hb dX12_come_26 (by decide) ?_
      have G := G.sub (bs' := [[zO11 mo m_all m_has i_size i_next i_where i_token i_number i_word i_wrong i_farCrossing m_read j_z0_1 j_crossings_2 j_inns_3 m_posts m_shut m_here j_steps_4 j_done_5 i_at i_gone m_was m_came m_seenAt m_rowWorth m_farBy m_used i_everywhere i_again0 i_d0 i_never i_firstCame i_longRun i_moved i_crowd i_l0 i_fitMany i_fitLeast i_fitMost m_fitPost m_fitEnd m_keptPosts i_x0], [zAr T 0 m_all 3952 f_all], [zAr T 0 m_posts 7 g_posts_6], [zAr T 0 m_shut 7 g_shut_7], [zAr T 0 m_here 7 g_here_8], [zAr T 0 m_was 7 f_was]]) [5, 1, 2, 3, 4, 0] rfl
      exact z_back hQz_ (z_iret C hr hlocks G (Nat.le_of_ble_eq_true rfl) (Nat.le_of_ble_eq_true rfl) dX12_come_27 ⟨j_z0_1, j_crossings_2, j_inns_3, j_steps_4, j_done_5, i_at, i_gone, g_posts_6, g_shut_7, g_here_8, f_was, rfl⟩)
  · have h_23 : (l_.toInt < 0 ∨ (f_all 0).toInt ≤ l_.toInt) := h_23
    refine lv_if_eq (tgt := 26) hx hb dX12_come_5 (by decide) (fun _ => ?_) (fun q => absurd (by decide) q)
    refine lv_iconst (v := (-1)) hx hb dX12_come_26 (by decide) ?_
    have G := G.sub (bs' := [[zO11 mo m_all m_has i_size i_next i_where i_token i_number i_word i_wrong i_farCrossing m_read j_z0_1 j_crossings_2 j_inns_3 m_posts m_shut m_here j_steps_4 j_done_5 i_at i_gone m_was m_came m_seenAt m_rowWorth m_farBy m_used i_everywhere i_again0 i_d0 i_never i_firstCame i_longRun i_moved i_crowd i_l0 i_fitMany i_fitLeast i_fitMost m_fitPost m_fitEnd m_keptPosts i_x0], [zAr T 0 m_all 3952 f_all], [zAr T 0 m_posts 7 g_posts_6], [zAr T 0 m_shut 7 g_shut_7], [zAr T 0 m_here 7 g_here_8], [zAr T 0 m_was 7 f_was]]) [1, 2, 3, 4, 5, 0] rfl
    exact z_back hQz_ (z_iret C hr hlocks G (Nat.le_of_ble_eq_true rfl) (Nat.le_of_ble_eq_true rfl) dX12_come_27 ⟨j_z0_1, j_crossings_2, j_inns_3, j_steps_4, j_done_5, i_at, i_gone, g_posts_6, g_shut_7, g_here_8, f_was, rfl⟩)
set_option maxHeartbeats 4000000 in
set_option maxRecDepth 100000 in
/-- c_m_share -/
theorem c_m_share (l : Launch) (T : zTy) (mo : Nat) (m_all : Nat) (m_has : Nat) (i_size : Int32) (i_next : Int32) (i_where : Int32) (i_token : Int32) (i_number : Int32) (i_word : Int32) (i_wrong : Int32) (i_farCrossing : Int32) (m_read : Nat) (i_z0 : Int32) (i_crossings : Int32) (i_inns : Int32) (m_posts : Nat) (m_shut : Nat) (m_here : Nat) (i_steps : Int32) (i_done : Int32) (i_at : Int32) (i_gone : Int32) (m_was : Nat) (m_came : Nat) (m_seenAt : Nat) (m_rowWorth : Nat) (m_farBy : Nat) (m_used : Nat) (i_everywhere : Int32) (i_again0 : Int32) (i_d0 : Int32) (i_never : Int32) (i_firstCame : Int32) (i_longRun : Int32) (i_moved : Int32) (i_crowd : Int32) (i_l0 : Int32) (i_fitMany : Int32) (i_fitLeast : Int32) (i_fitMost : Int32) (m_fitPost : Nat) (m_fitEnd : Nat) (m_keptPosts : Nat) (i_x0 : Int32) (f_all : Nat → Int32) (f_posts : Nat → Int32) (f_shut : Nat → Int32) (f_here : Nat → Int32) (f_was : Nat → Int32) (l_ : Int32) (c_ : Int32) (k_ : Int32) (n_ : Int32) (hB : zBI f_all) : zMi l T yX12_share cX12_share 7 (some .int) 5 0 0 [.ref mo, .int l_, .int c_, .int k_, .int n_] [[zO11 mo m_all m_has i_size i_next i_where i_token i_number i_word i_wrong i_farCrossing m_read i_z0 i_crossings i_inns m_posts m_shut m_here i_steps i_done i_at i_gone m_was m_came m_seenAt m_rowWorth m_farBy m_used i_everywhere i_again0 i_d0 i_never i_firstCame i_longRun i_moved i_crowd i_l0 i_fitMany i_fitLeast i_fitMost m_fitPost m_fitEnd m_keptPosts i_x0], [zAr T 0 m_all 3952 f_all], [zAr T 0 m_posts 7 f_posts], [zAr T 0 m_shut 7 f_shut], [zAr T 0 m_here 7 f_here], [zAr T 0 m_was 7 f_was]] (fun (r : Int32) bs => ∃ (j_z0 : Int32) (j_crossings : Int32) (j_inns : Int32) (j_steps : Int32) (j_done : Int32) (j_at : Int32) (j_gone : Int32) (g_posts : Nat → Int32) (g_shut : Nat → Int32) (g_here : Nat → Int32) (g_was : Nat → Int32), bs = [[zO11 mo m_all m_has i_size i_next i_where i_token i_number i_word i_wrong i_farCrossing m_read j_z0 j_crossings j_inns m_posts m_shut m_here j_steps j_done j_at j_gone m_was m_came m_seenAt m_rowWorth m_farBy m_used i_everywhere i_again0 i_d0 i_never i_firstCame i_longRun i_moved i_crowd i_l0 i_fitMany i_fitLeast i_fitMost m_fitPost m_fitEnd m_keptPosts i_x0], [zAr T 0 m_all 3952 f_all], [zAr T 0 m_posts 7 g_posts], [zAr T 0 m_shut 7 g_shut], [zAr T 0 m_here 7 g_here], [zAr T 0 m_was 7 g_was]]) := by
  refine zMi_of (own := RX12) (by decide) rfl (Nat.le_of_ble_eq_true rfl) ?_
  intro p e s m args below meth c A ls C hr hlocks hnm hAe G hl
  refine zHide (fun Qz_ hQz_ => ?_)
  have hx := C.1
  have hb := C.2.1
  have hl : lv_has ls 7 [(0, .ref mo), (1, .int l_), (2, .int c_), (3, .int k_), (4, .int n_)] := hl
  refine lv_aload_n hx hb dX12_share_0 rfl (lv_at hl 0 rfl) ?_
  refine lv_iload_n hx hb dX12_share_1 rfl (lv_at hl 1 rfl) ?_
  refine z_Vi (bc := [[zO11 mo m_all m_has i_size i_next i_where i_token i_number i_word i_wrong i_farCrossing m_read i_z0 i_crossings i_inns m_posts m_shut m_here i_steps i_done i_at i_gone m_was m_came m_seenAt m_rowWorth m_farBy m_used i_everywhere i_again0 i_d0 i_never i_firstCame i_longRun i_moved i_crowd i_l0 i_fitMany i_fitLeast i_fitMost m_fitPost m_fitEnd m_keptPosts i_x0], [zAr T 0 m_all 3952 f_all], [zAr T 0 m_posts 7 f_posts], [zAr T 0 m_shut 7 f_shut], [zAr T 0 m_here 7 f_here]]) (br := [[zAr T 0 m_was 7 f_was]]) (As := [.int l_]) (rest := []) C G (c_m_isLand l T mo m_all m_has i_size i_next i_where i_token i_number i_word i_wrong i_farCrossing m_read i_z0 i_crossings i_inns m_posts m_shut m_here i_steps i_done i_at i_gone m_was m_came m_seenAt m_rowWorth m_farBy m_used i_everywhere i_again0 i_d0 i_never i_firstCame i_longRun i_moved i_crowd i_l0 i_fitMany i_fitLeast i_fitMost m_fitPost m_fitEnd m_keptPosts i_x0 f_all f_posts f_shut f_here l_ (by first | with_reducible assumption | with_reducible rfl | omega | assumption | rfl | decide)) (kV_RX12_184 C.2.2.2.2 (Nat.le_of_ble_eq_true rfl) (Nat.le_of_ble_eq_true rfl)) [0, 1, 2, 3, 4] [0, 0, 0, 0, 0] rfl rfl (ci := 11) (qc := (RX12, TX12, 43)) rfl rfl (List.mem_flatten.mpr ⟨_, List.mem_of_getElem? (i := 0) rfl, List.mem_cons_self⟩) rfl rfl hl.1 dX12_share_2 (Nat.le_of_ble_eq_true rfl) (Nat.le_of_ble_eq_true rfl) (fun r_10 b1 H locs hw G => ?_)
  refine zEx8 hw ?_
  intro j_z0_1 j_crossings_2 j_inns_3 j_steps_4 j_done_5 g_posts_6 g_shut_7 g_here_8
  refine zCu2 ?_
  intro hbs9 hc_9
  clear hw
  subst hbs9
  have G : zS T A s.heap s [[zAr T 0 m_was 7 f_was], [zO11 mo m_all m_has i_size i_next i_where i_token i_number i_word i_wrong i_farCrossing m_read j_z0_1 j_crossings_2 j_inns_3 m_posts m_shut m_here j_steps_4 j_done_5 i_at i_gone m_was m_came m_seenAt m_rowWorth m_farBy m_used i_everywhere i_again0 i_d0 i_never i_firstCame i_longRun i_moved i_crowd i_l0 i_fitMany i_fitLeast i_fitMost m_fitPost m_fitEnd m_keptPosts i_x0], [zAr T 0 m_all 3952 f_all], [zAr T 0 m_posts 7 g_posts_6], [zAr T 0 m_shut 7 g_shut_7], [zAr T 0 m_here 7 g_here_8]] _ _ := G
  rcases hc_9 with ⟨rfl, h_11, h_12, h_13, h_14, h_15, h_16, h_17, h_18, h_19, h_20, h_21, h_22⟩ | ⟨rfl, h_23⟩
  · have h_11 : 0 ≤ l_.toInt := h_11
    have h_12 : l_.toInt ≤ 1 := h_12
    have h_13 : l_.toInt < (f_all 0).toInt := h_13
    have h_14 : j_z0_1.toInt = 610 + 51 * l_.toInt := h_14
    have h_15 : zML f_all j_z0_1 j_crossings_2 := h_15
    have h_16 : zMP g_posts_6 := h_16
    have h_17 : j_inns_3 = f_all (j_z0_1.toInt.toNat + 1) := h_17
    have h_18 : j_steps_4 = 0 := h_18
    have h_19 : j_done_5 = 0 := h_19
    have h_20 : (∀ j, j < 7 → g_posts_6 j = zPt f_all j_z0_1 (nI j)) := h_20
    have h_21 : (∀ j, j < 7 → g_shut_7 j = 0) := h_21
    have h_22 : (∀ j, j < 7 → g_here_8 j = zWk f_all j_z0_1 j) := h_22
    have hLx := h_15
    have hcr := hLx.cr
    have hzx := hLx.1
    have hPx := h_16
    refine lv_if_eq (tgt := 44) hx hb dX12_share_5 (by decide) (fun q => absurd q (by decide)) (fun _ => ?_)
    refine lv_aload_n hx hb dX12_share_8 rfl (lv_at hl 0 rfl) ?_
    refine lv_iload_n hx hb dX12_share_9 rfl (lv_at hl 2 rfl) ?_
    refine z_Vi (bc := [[zO11 mo m_all m_has i_size i_next i_where i_token i_number i_word i_wrong i_farCrossing m_read j_z0_1 j_crossings_2 j_inns_3 m_posts m_shut m_here j_steps_4 j_done_5 i_at i_gone m_was m_came m_seenAt m_rowWorth m_farBy m_used i_everywhere i_again0 i_d0 i_never i_firstCame i_longRun i_moved i_crowd i_l0 i_fitMany i_fitLeast i_fitMost m_fitPost m_fitEnd m_keptPosts i_x0]]) (br := [[zAr T 0 m_was 7 f_was], [zAr T 0 m_all 3952 f_all], [zAr T 0 m_posts 7 g_posts_6], [zAr T 0 m_shut 7 g_shut_7], [zAr T 0 m_here 7 g_here_8]]) (As := [.int c_]) (rest := []) C G (c_m_isCrossing l T mo m_all m_has i_size i_next i_where i_token i_number i_word i_wrong i_farCrossing m_read j_z0_1 j_crossings_2 j_inns_3 m_posts m_shut m_here j_steps_4 j_done_5 i_at i_gone m_was m_came m_seenAt m_rowWorth m_farBy m_used i_everywhere i_again0 i_d0 i_never i_firstCame i_longRun i_moved i_crowd i_l0 i_fitMany i_fitLeast i_fitMost m_fitPost m_fitEnd m_keptPosts i_x0 c_ (by first | with_reducible assumption | with_reducible rfl | omega | assumption | rfl | decide)) (kV_RX12_187 C.2.2.2.2 (Nat.le_of_ble_eq_true rfl) (Nat.le_of_ble_eq_true rfl)) [1] [1] rfl rfl (ci := 11) (qc := (RX12, TX12, 43)) rfl rfl (List.mem_flatten.mpr ⟨_, List.mem_of_getElem? (i := 0) rfl, List.mem_cons_self⟩) rfl rfl hl.1 dX12_share_10 (Nat.le_of_ble_eq_true rfl) (Nat.le_of_ble_eq_true rfl) (fun r_25 b1 H locs hw G => ?_)
    refine zAn2 hw ?_
    intro hbs9 hc_24
    clear hw
    subst hbs9
    have G : zS T A s.heap s [[zAr T 0 m_was 7 f_was], [zAr T 0 m_all 3952 f_all], [zAr T 0 m_posts 7 g_posts_6], [zAr T 0 m_shut 7 g_shut_7], [zAr T 0 m_here 7 g_here_8], [zO11 mo m_all m_has i_size i_next i_where i_token i_number i_word i_wrong i_farCrossing m_read j_z0_1 j_crossings_2 j_inns_3 m_posts m_shut m_here j_steps_4 j_done_5 i_at i_gone m_was m_came m_seenAt m_rowWorth m_farBy m_used i_everywhere i_again0 i_d0 i_never i_firstCame i_longRun i_moved i_crowd i_l0 i_fitMany i_fitLeast i_fitMost m_fitPost m_fitEnd m_keptPosts i_x0]] _ _ := G
    rcases hc_24 with ⟨rfl, h_26, h_27⟩ | ⟨rfl, h_28⟩
    · have h_26 : 0 ≤ c_.toInt := h_26
      have h_27 : c_.toInt < j_crossings_2.toInt := h_27
      refine lv_if_eq (tgt := 44) hx hb dX12_share_13 (by decide) (fun q => absurd q (by decide)) (fun _ => ?_)
      refine lv_iload_n hx hb dX12_share_16 rfl (lv_at hl 3 rfl) ?_
      refine lv_iconst (v := 0) hx hb dX12_share_17 (by decide) ?_
      refine lv_bipush (v := 99) hx hb dX12_share_18 (by decide) ?_
      refine z_Si (bc := []) (br := [[zAr T 0 m_was 7 f_was], [zAr T 0 m_all 3952 f_all], [zAr T 0 m_posts 7 g_posts_6], [zAr T 0 m_shut 7 g_shut_7], [zAr T 0 m_here 7 g_here_8], [zO11 mo m_all m_has i_size i_next i_where i_token i_number i_word i_wrong i_farCrossing m_read j_z0_1 j_crossings_2 j_inns_3 m_posts m_shut m_here j_steps_4 j_done_5 i_at i_gone m_was m_came m_seenAt m_rowWorth m_farBy m_used i_everywhere i_again0 i_d0 i_never i_firstCame i_longRun i_moved i_crowd i_l0 i_fitMany i_fitLeast i_fitMost m_fitPost m_fitEnd m_keptPosts i_x0]]) (As := [.int k_, .int 0, .int 99]) (rest := []) C G (c_m_isIn l T k_ 0 99) (kS_RX12_111 C.2.2.2.2 (Nat.le_of_ble_eq_true rfl) (Nat.le_of_ble_eq_true rfl)) [] [] rfl rfl rfl rfl hl.1 dX12_share_20 (Nat.le_of_ble_eq_true rfl) (Nat.le_of_ble_eq_true rfl) (fun r_30 b1 H locs hw G => ?_)
      refine zAn2 hw ?_
      intro hbs9 hc_29
      clear hw
      subst hbs9
      have G : zS T A s.heap s [[zAr T 0 m_was 7 f_was], [zAr T 0 m_all 3952 f_all], [zAr T 0 m_posts 7 g_posts_6], [zAr T 0 m_shut 7 g_shut_7], [zAr T 0 m_here 7 g_here_8], [zO11 mo m_all m_has i_size i_next i_where i_token i_number i_word i_wrong i_farCrossing m_read j_z0_1 j_crossings_2 j_inns_3 m_posts m_shut m_here j_steps_4 j_done_5 i_at i_gone m_was m_came m_seenAt m_rowWorth m_farBy m_used i_everywhere i_again0 i_d0 i_never i_firstCame i_longRun i_moved i_crowd i_l0 i_fitMany i_fitLeast i_fitMost m_fitPost m_fitEnd m_keptPosts i_x0]] _ _ := G
      rcases hc_29 with ⟨rfl, h_31, h_32⟩ | ⟨rfl, h_33⟩
      · have h_31 : (0 : Int) ≤ k_.toInt := h_31
        have h_32 : k_.toInt ≤ (99 : Int) := h_32
        refine lv_if_eq (tgt := 44) hx hb dX12_share_23 (by decide) (fun q => absurd q (by decide)) (fun _ => ?_)
        refine lv_aload_n hx hb dX12_share_26 rfl (lv_at hl 0 rfl) ?_
        refine lv_iload hx hb dX12_share_27 (lv_at hl 4 rfl) ?_
        refine z_Vi (bc := [[zO11 mo m_all m_has i_size i_next i_where i_token i_number i_word i_wrong i_farCrossing m_read j_z0_1 j_crossings_2 j_inns_3 m_posts m_shut m_here j_steps_4 j_done_5 i_at i_gone m_was m_came m_seenAt m_rowWorth m_farBy m_used i_everywhere i_again0 i_d0 i_never i_firstCame i_longRun i_moved i_crowd i_l0 i_fitMany i_fitLeast i_fitMost m_fitPost m_fitEnd m_keptPosts i_x0]]) (br := [[zAr T 0 m_was 7 f_was], [zAr T 0 m_all 3952 f_all], [zAr T 0 m_posts 7 g_posts_6], [zAr T 0 m_shut 7 g_shut_7], [zAr T 0 m_here 7 g_here_8]]) (As := [.int n_]) (rest := []) C G (c_m_isCrossing l T mo m_all m_has i_size i_next i_where i_token i_number i_word i_wrong i_farCrossing m_read j_z0_1 j_crossings_2 j_inns_3 m_posts m_shut m_here j_steps_4 j_done_5 i_at i_gone m_was m_came m_seenAt m_rowWorth m_farBy m_used i_everywhere i_again0 i_d0 i_never i_firstCame i_longRun i_moved i_crowd i_l0 i_fitMany i_fitLeast i_fitMost m_fitPost m_fitEnd m_keptPosts i_x0 n_ (by first | with_reducible assumption | with_reducible rfl | omega | assumption | rfl | decide)) (kV_RX12_187 C.2.2.2.2 (Nat.le_of_ble_eq_true rfl) (Nat.le_of_ble_eq_true rfl)) [5] [5] rfl rfl (ci := 11) (qc := (RX12, TX12, 43)) rfl rfl (List.mem_flatten.mpr ⟨_, List.mem_of_getElem? (i := 0) rfl, List.mem_cons_self⟩) rfl rfl hl.1 dX12_share_29 (Nat.le_of_ble_eq_true rfl) (Nat.le_of_ble_eq_true rfl) (fun r_35 b1 H locs hw G => ?_)
        refine zAn2 hw ?_
        intro hbs9 hc_34
        clear hw
        subst hbs9
        have G : zS T A s.heap s [[zAr T 0 m_was 7 f_was], [zAr T 0 m_all 3952 f_all], [zAr T 0 m_posts 7 g_posts_6], [zAr T 0 m_shut 7 g_shut_7], [zAr T 0 m_here 7 g_here_8], [zO11 mo m_all m_has i_size i_next i_where i_token i_number i_word i_wrong i_farCrossing m_read j_z0_1 j_crossings_2 j_inns_3 m_posts m_shut m_here j_steps_4 j_done_5 i_at i_gone m_was m_came m_seenAt m_rowWorth m_farBy m_used i_everywhere i_again0 i_d0 i_never i_firstCame i_longRun i_moved i_crowd i_l0 i_fitMany i_fitLeast i_fitMost m_fitPost m_fitEnd m_keptPosts i_x0]] _ _ := G
        rcases hc_34 with ⟨rfl, h_36, h_37⟩ | ⟨rfl, h_38⟩
        · have h_36 : 0 ≤ n_.toInt := h_36
          have h_37 : n_.toInt < j_crossings_2.toInt := h_37
          refine lv_if_eq (tgt := 44) hx hb dX12_share_32 (by decide) (fun q => absurd q (by decide)) (fun _ => ?_)
          refine lv_aload_n hx hb dX12_share_35 rfl (lv_at hl 0 rfl) ?_
          refine lv_iload hx hb dX12_share_36 (lv_at hl 4 rfl) ?_
          refine z_Vi (bc := [[zO11 mo m_all m_has i_size i_next i_where i_token i_number i_word i_wrong i_farCrossing m_read j_z0_1 j_crossings_2 j_inns_3 m_posts m_shut m_here j_steps_4 j_done_5 i_at i_gone m_was m_came m_seenAt m_rowWorth m_farBy m_used i_everywhere i_again0 i_d0 i_never i_firstCame i_longRun i_moved i_crowd i_l0 i_fitMany i_fitLeast i_fitMost m_fitPost m_fitEnd m_keptPosts i_x0]]) (br := [[zAr T 0 m_was 7 f_was], [zAr T 0 m_all 3952 f_all], [zAr T 0 m_posts 7 g_posts_6], [zAr T 0 m_shut 7 g_shut_7], [zAr T 0 m_here 7 g_here_8]]) (As := [.int n_]) (rest := []) C G (c_m_isInn l T mo m_all m_has i_size i_next i_where i_token i_number i_word i_wrong i_farCrossing m_read j_z0_1 j_crossings_2 j_inns_3 m_posts m_shut m_here j_steps_4 j_done_5 i_at i_gone m_was m_came m_seenAt m_rowWorth m_farBy m_used i_everywhere i_again0 i_d0 i_never i_firstCame i_longRun i_moved i_crowd i_l0 i_fitMany i_fitLeast i_fitMost m_fitPost m_fitEnd m_keptPosts i_x0 n_) (kV_RX12_178 C.2.2.2.2 (Nat.le_of_ble_eq_true rfl) (Nat.le_of_ble_eq_true rfl)) [5] [5] rfl rfl (ci := 11) (qc := (RX12, TX12, 43)) rfl rfl (List.mem_flatten.mpr ⟨_, List.mem_of_getElem? (i := 0) rfl, List.mem_cons_self⟩) rfl rfl hl.1 dX12_share_38 (Nat.le_of_ble_eq_true rfl) (Nat.le_of_ble_eq_true rfl) (fun r_40 b1 H locs hw G => ?_)
          refine zAn2 hw ?_
          intro hbs9 hc_39
          clear hw
          subst hbs9
          have G : zS T A s.heap s [[zAr T 0 m_was 7 f_was], [zAr T 0 m_all 3952 f_all], [zAr T 0 m_posts 7 g_posts_6], [zAr T 0 m_shut 7 g_shut_7], [zAr T 0 m_here 7 g_here_8], [zO11 mo m_all m_has i_size i_next i_where i_token i_number i_word i_wrong i_farCrossing m_read j_z0_1 j_crossings_2 j_inns_3 m_posts m_shut m_here j_steps_4 j_done_5 i_at i_gone m_was m_came m_seenAt m_rowWorth m_farBy m_used i_everywhere i_again0 i_d0 i_never i_firstCame i_longRun i_moved i_crowd i_l0 i_fitMany i_fitLeast i_fitMost m_fitPost m_fitEnd m_keptPosts i_x0]] _ _ := G
          rcases hc_39 with ⟨rfl, h_41⟩ | ⟨rfl, h_42⟩
          · have h_41 : zInn j_inns_3 n_ := h_41
            refine lv_if_ne (tgt := 46) hx hb dX12_share_41 (by decide) (fun _ => ?_) (fun q => absurd q (by decide))
            refine lv_iconst (v := 0) hx hb dX12_share_46 (by decide) ?_
            refine lv_istore (lv' := [(5, .int 0), (0, .ref mo), (1, .int l_), (2, .int c_), (3, .int k_), (4, .int n_)]) hx hb dX12_share_47 hl (by decide) (zLvf_h rfl) (fun ls hl => ?_)
            refine lv_iconst (v := 0) hx hb dX12_share_49 (by decide) ?_
            refine lv_istore (lv' := [(6, .int 0), (5, .int 0), (0, .ref mo), (1, .int l_), (2, .int c_), (3, .int k_), (4, .int n_)]) hx hb dX12_share_50 hl (by decide) (zLvf_h rfl) (fun ls hl => ?_)
            refine z_lp6 (T := T) 52 (fun (i : Nat) (u : Int32) (xat : Int32) (xgone : Int32) (xposts : Nat → Int32) (xwas : Nat → Int32) => [[zAr T 0 m_was 7 xwas], [zAr T 0 m_all 3952 f_all], [zAr T 0 m_posts 7 xposts], [zAr T 0 m_shut 7 g_shut_7], [zAr T 0 m_here 7 g_here_8], [zO11 mo m_all m_has i_size i_next i_where i_token i_number i_word i_wrong i_farCrossing m_read j_z0_1 j_crossings_2 j_inns_3 m_posts m_shut m_here j_steps_4 j_done_5 xat xgone m_was m_came m_seenAt m_rowWorth m_farBy m_used i_everywhere i_again0 i_d0 i_never i_firstCame i_longRun i_moved i_crowd i_l0 i_fitMany i_fitLeast i_fitMost m_fitPost m_fitEnd m_keptPosts i_x0]]) (fun (i : Nat) (u : Int32) (xat : Int32) (xgone : Int32) (xposts : Nat → Int32) (xwas : Nat → Int32) => [(6, .int (nI i)), (5, .int u), (0, .ref mo), (1, .int l_), (2, .int c_), (3, .int k_), (4, .int n_)]) (fun (i : Nat) (u : Int32) (xat : Int32) (xgone : Int32) (xposts : Nat → Int32) (xwas : Nat → Int32) => i ≤ 99 ∧ zMP xposts) (fun (i : Nat) (u : Int32) (xat : Int32) (xgone : Int32) (xposts : Nat → Int32) (xwas : Nat → Int32) => 99 - i) ?_ 0 0 i_at i_gone g_posts_6 f_was (show 0 ≤ 99 ∧ zMP g_posts_6 from ⟨by omega, (by first | with_reducible assumption | assumption)⟩) G (lv_sub hl [0, 1, 2, 3, 4, 5, 6] rfl)
            intro i u xat xgone xposts xwas hI9 ih_52 H locs ls G hl
            replace hI9 : i ≤ 99 ∧ zMP xposts := hI9
            refine zAn2 hI9 ?_
            intro hi hQ
            clear hI9
            replace G : zS T A s.heap s [[zAr T 0 m_was 7 xwas], [zAr T 0 m_all 3952 f_all], [zAr T 0 m_posts 7 xposts], [zAr T 0 m_shut 7 g_shut_7], [zAr T 0 m_here 7 g_here_8], [zO11 mo m_all m_has i_size i_next i_where i_token i_number i_word i_wrong i_farCrossing m_read j_z0_1 j_crossings_2 j_inns_3 m_posts m_shut m_here j_steps_4 j_done_5 xat xgone m_was m_came m_seenAt m_rowWorth m_farBy m_used i_everywhere i_again0 i_d0 i_never i_firstCame i_longRun i_moved i_crowd i_l0 i_fitMany i_fitLeast i_fitMost m_fitPost m_fitEnd m_keptPosts i_x0]] _ _ := G
            replace hl : lv_has ls 7 [(6, .int (nI i)), (5, .int u), (0, .ref mo), (1, .int l_), (2, .int c_), (3, .int k_), (4, .int n_)] := hl
            refine lv_iload hx hb dX12_share_52 (lv_at hl 0 rfl) ?_
            refine lv_iload_n hx hb dX12_share_54 rfl (lv_at hl 5 rfl) ?_
            refine lv_icmp_ge (tgt := 89) hx hb dX12_share_55 (by decide) (fun c_43 => ?_) (fun c_43 => ?_)
            · have c_43n : k_.toInt ≤ (i : Int) := by have q := (fa_le _ _).mp c_43; rw [nI_toInt (n := i) (by omega)] at q; exact q
              refine lv_iload hx hb dX12_share_89 (lv_at hl 1 rfl) ?_
              have G := G.sub (bs' := [[zO11 mo m_all m_has i_size i_next i_where i_token i_number i_word i_wrong i_farCrossing m_read j_z0_1 j_crossings_2 j_inns_3 m_posts m_shut m_here j_steps_4 j_done_5 xat xgone m_was m_came m_seenAt m_rowWorth m_farBy m_used i_everywhere i_again0 i_d0 i_never i_firstCame i_longRun i_moved i_crowd i_l0 i_fitMany i_fitLeast i_fitMost m_fitPost m_fitEnd m_keptPosts i_x0], [zAr T 0 m_all 3952 f_all], [zAr T 0 m_posts 7 xposts], [zAr T 0 m_shut 7 g_shut_7], [zAr T 0 m_here 7 g_here_8], [zAr T 0 m_was 7 xwas]]) [5, 1, 2, 3, 4, 0] rfl
              exact z_back hQz_ (z_iret C hr hlocks G (Nat.le_of_ble_eq_true rfl) (Nat.le_of_ble_eq_true rfl) dX12_share_91 ⟨j_z0_1, j_crossings_2, j_inns_3, j_steps_4, j_done_5, xat, xgone, xposts, g_shut_7, g_here_8, xwas, rfl⟩)
            · have c_43n : ¬ k_.toInt ≤ (i : Int) := fun q => c_43 ((fa_le _ _).mpr (by rw [nI_toInt (n := i) (by omega)]; exact q))
              refine lv_aload_n hx hb dX12_share_58 rfl (lv_at hl 2 rfl) ?_
              refine lv_iload_n hx hb dX12_share_59 rfl (lv_at hl 4 rfl) ?_
              refine z_Vi (bc := [[zO11 mo m_all m_has i_size i_next i_where i_token i_number i_word i_wrong i_farCrossing m_read j_z0_1 j_crossings_2 j_inns_3 m_posts m_shut m_here j_steps_4 j_done_5 xat xgone m_was m_came m_seenAt m_rowWorth m_farBy m_used i_everywhere i_again0 i_d0 i_never i_firstCame i_longRun i_moved i_crowd i_l0 i_fitMany i_fitLeast i_fitMost m_fitPost m_fitEnd m_keptPosts i_x0], [zAr T 0 m_all 3952 f_all], [zAr T 0 m_posts 7 xposts], [zAr T 0 m_shut 7 g_shut_7], [zAr T 0 m_was 7 xwas]]) (br := [[zAr T 0 m_here 7 g_here_8]]) (As := [.int c_]) (rest := []) C G (c_m_walks l T mo m_all m_has i_size i_next i_where i_token i_number i_word i_wrong i_farCrossing m_read j_z0_1 j_crossings_2 j_inns_3 m_posts m_shut m_here j_steps_4 j_done_5 xat xgone m_was m_came m_seenAt m_rowWorth m_farBy m_used i_everywhere i_again0 i_d0 i_never i_firstCame i_longRun i_moved i_crowd i_l0 i_fitMany i_fitLeast i_fitMost m_fitPost m_fitEnd m_keptPosts i_x0 f_all xposts g_shut_7 xwas c_ (by first | with_reducible assumption | with_reducible rfl | omega | assumption | rfl | decide) (by first | with_reducible assumption | with_reducible rfl | omega | assumption | rfl | decide) (by first | with_reducible assumption | with_reducible rfl | omega | assumption | rfl | decide) (by first | with_reducible assumption | with_reducible rfl | omega | assumption | rfl | decide)) (kV_RX12_217 C.2.2.2.2 (Nat.le_of_ble_eq_true rfl) (Nat.le_of_ble_eq_true rfl)) [5, 1, 2, 3, 0] [0, 0, 0, 0, 1] rfl rfl (ci := 11) (qc := (RX12, TX12, 43)) rfl rfl (List.mem_flatten.mpr ⟨_, List.mem_of_getElem? (i := 0) rfl, List.mem_cons_self⟩) rfl rfl hl.1 dX12_share_60 (Nat.le_of_ble_eq_true rfl) (Nat.le_of_ble_eq_true rfl) (fun r_54 b1 H locs hw G => ?_)
              refine zEx4 hw ?_
              intro j_at_44 j_gone_45 g_posts_46 g_was_47
              refine zCu7 ?_
              intro hbs9 h_48 h_49 h_50 h_51 h_52 h_53
              clear hw
              subst hbs9
              have G : zS T A s.heap s [[zAr T 0 m_here 7 g_here_8], [zO11 mo m_all m_has i_size i_next i_where i_token i_number i_word i_wrong i_farCrossing m_read j_z0_1 j_crossings_2 j_inns_3 m_posts m_shut m_here j_steps_4 j_done_5 j_at_44 j_gone_45 m_was m_came m_seenAt m_rowWorth m_farBy m_used i_everywhere i_again0 i_d0 i_never i_firstCame i_longRun i_moved i_crowd i_l0 i_fitMany i_fitLeast i_fitMost m_fitPost m_fitEnd m_keptPosts i_x0], [zAr T 0 m_all 3952 f_all], [zAr T 0 m_posts 7 g_posts_46], [zAr T 0 m_shut 7 g_shut_7], [zAr T 0 m_was 7 g_was_47]] _ _ := G
              replace h_48 : zHd ((r_54 = 0 ∨ r_54 = 1)) := h_48
              refine lv_pop hx hb dX12_share_63 rfl ?_
              refine lv_iload hx hb dX12_share_64 (lv_at hl 1 rfl) ?_
              refine lv_aload_n hx hb dX12_share_66 rfl (lv_at hl 2 rfl) ?_
              refine z_get C G clX12 1 rfl 19 (by decide) m_fl_RX12_202 rfl dX12_share_67 ?_
              refine lv_iload hx hb dX12_share_70 (lv_at hl 6 rfl) ?_
              refine lv_icmp_ne (tgt := 79) hx hb dX12_share_72 (by decide) (fun c_55 => ?_) (fun c_55 => ?_)
              · have c_55n : ¬ j_at_44.toInt = n_.toInt := fun q => c_55 ((fa_eq _ _).mpr q)
                refine lv_iconst (v := 0) hx hb dX12_share_79 (by decide) ?_
                refine lv_iadd hx hb dX12_share_80 ?_
                refine lv_istore (lv' := [(5, .int (u + 0)), (6, .int (nI i)), (0, .ref mo), (1, .int l_), (2, .int c_), (3, .int k_), (4, .int n_)]) hx hb dX12_share_81 hl (by decide) (zLvf_h rfl) (fun ls hl => ?_)
                refine lv_iinc (v := nI (i + 1)) (lv' := [(6, .int (nI (i + 1))), (5, .int (u + 0)), (0, .ref mo), (1, .int l_), (2, .int c_), (3, .int k_), (4, .int n_)]) hx hb dX12_share_83 hl (k := 1) rfl (z_inc i 1) (by decide) (zLvf_h rfl) (fun ls hl => ?_)
                refine lv_goto (tgt := 52) hx hb dX12_share_86 (by decide) ?_
                have G := G.sub (bs' := [[zAr T 0 m_was 7 g_was_47], [zAr T 0 m_all 3952 f_all], [zAr T 0 m_posts 7 g_posts_46], [zAr T 0 m_shut 7 g_shut_7], [zAr T 0 m_here 7 g_here_8], [zO11 mo m_all m_has i_size i_next i_where i_token i_number i_word i_wrong i_farCrossing m_read j_z0_1 j_crossings_2 j_inns_3 m_posts m_shut m_here j_steps_4 j_done_5 j_at_44 j_gone_45 m_was m_came m_seenAt m_rowWorth m_farBy m_used i_everywhere i_again0 i_d0 i_never i_firstCame i_longRun i_moved i_crowd i_l0 i_fitMany i_fitLeast i_fitMost m_fitPost m_fitEnd m_keptPosts i_x0]]) [5, 2, 3, 4, 0, 1] rfl
                exact ih_52 (i + 1) (u + 0) j_at_44 j_gone_45 g_posts_46 g_was_47 (show (i + 1) ≤ 99 ∧ zMP g_posts_46 from ⟨by omega, (by first | with_reducible assumption | assumption)⟩) (show 99 - (i + 1) < 99 - i from by omega) _ _ ls G (lv_sub hl [0, 1, 2, 3, 4, 5, 6] rfl)
              · have c_55n : j_at_44.toInt = n_.toInt := (fa_eq _ _).mp c_55
                refine lv_iconst (v := 1) hx hb dX12_share_75 (by decide) ?_
                refine lv_goto (tgt := 80) hx hb dX12_share_76 (by decide) ?_
                refine lv_iadd hx hb dX12_share_80 ?_
                refine lv_istore (lv' := [(5, .int (u + 1)), (6, .int (nI i)), (0, .ref mo), (1, .int l_), (2, .int c_), (3, .int k_), (4, .int n_)]) hx hb dX12_share_81 hl (by decide) (zLvf_h rfl) (fun ls hl => ?_)
                refine lv_iinc (v := nI (i + 1)) (lv' := [(6, .int (nI (i + 1))), (5, .int (u + 1)), (0, .ref mo), (1, .int l_), (2, .int c_), (3, .int k_), (4, .int n_)]) hx hb dX12_share_83 hl (k := 1) rfl (z_inc i 1) (by decide) (zLvf_h rfl) (fun ls hl => ?_)
                refine lv_goto (tgt := 52) hx hb dX12_share_86 (by decide) ?_
                have G := G.sub (bs' := [[zAr T 0 m_was 7 g_was_47], [zAr T 0 m_all 3952 f_all], [zAr T 0 m_posts 7 g_posts_46], [zAr T 0 m_shut 7 g_shut_7], [zAr T 0 m_here 7 g_here_8], [zO11 mo m_all m_has i_size i_next i_where i_token i_number i_word i_wrong i_farCrossing m_read j_z0_1 j_crossings_2 j_inns_3 m_posts m_shut m_here j_steps_4 j_done_5 j_at_44 j_gone_45 m_was m_came m_seenAt m_rowWorth m_farBy m_used i_everywhere i_again0 i_d0 i_never i_firstCame i_longRun i_moved i_crowd i_l0 i_fitMany i_fitLeast i_fitMost m_fitPost m_fitEnd m_keptPosts i_x0]]) [5, 2, 3, 4, 0, 1] rfl
                exact ih_52 (i + 1) (u + 1) j_at_44 j_gone_45 g_posts_46 g_was_47 (show (i + 1) ≤ 99 ∧ zMP g_posts_46 from ⟨by omega, (by first | with_reducible assumption | assumption)⟩) (show 99 - (i + 1) < 99 - i from by omega) _ _ ls G (lv_sub hl [0, 1, 2, 3, 4, 5, 6] rfl)
          · have h_42 : ¬ zInn j_inns_3 n_ := h_42
            refine lv_if_ne (tgt := 46) hx hb dX12_share_41 (by decide) (fun q => absurd (by decide) q) (fun _ => ?_)
            refine lv_iconst (v := (-1)) hx hb dX12_share_44 (by decide) ?_
            have G := G.sub (bs' := [[zO11 mo m_all m_has i_size i_next i_where i_token i_number i_word i_wrong i_farCrossing m_read j_z0_1 j_crossings_2 j_inns_3 m_posts m_shut m_here j_steps_4 j_done_5 i_at i_gone m_was m_came m_seenAt m_rowWorth m_farBy m_used i_everywhere i_again0 i_d0 i_never i_firstCame i_longRun i_moved i_crowd i_l0 i_fitMany i_fitLeast i_fitMost m_fitPost m_fitEnd m_keptPosts i_x0], [zAr T 0 m_all 3952 f_all], [zAr T 0 m_posts 7 g_posts_6], [zAr T 0 m_shut 7 g_shut_7], [zAr T 0 m_here 7 g_here_8], [zAr T 0 m_was 7 f_was]]) [5, 1, 2, 3, 4, 0] rfl
            exact z_back hQz_ (z_iret C hr hlocks G (Nat.le_of_ble_eq_true rfl) (Nat.le_of_ble_eq_true rfl) dX12_share_45 ⟨j_z0_1, j_crossings_2, j_inns_3, j_steps_4, j_done_5, i_at, i_gone, g_posts_6, g_shut_7, g_here_8, f_was, rfl⟩)
        · have h_38 : (n_.toInt < 0 ∨ j_crossings_2.toInt ≤ n_.toInt) := h_38
          refine lv_if_eq (tgt := 44) hx hb dX12_share_32 (by decide) (fun _ => ?_) (fun q => absurd (by decide) q)
          refine lv_iconst (v := (-1)) hx hb dX12_share_44 (by decide) ?_
          have G := G.sub (bs' := [[zO11 mo m_all m_has i_size i_next i_where i_token i_number i_word i_wrong i_farCrossing m_read j_z0_1 j_crossings_2 j_inns_3 m_posts m_shut m_here j_steps_4 j_done_5 i_at i_gone m_was m_came m_seenAt m_rowWorth m_farBy m_used i_everywhere i_again0 i_d0 i_never i_firstCame i_longRun i_moved i_crowd i_l0 i_fitMany i_fitLeast i_fitMost m_fitPost m_fitEnd m_keptPosts i_x0], [zAr T 0 m_all 3952 f_all], [zAr T 0 m_posts 7 g_posts_6], [zAr T 0 m_shut 7 g_shut_7], [zAr T 0 m_here 7 g_here_8], [zAr T 0 m_was 7 f_was]]) [5, 1, 2, 3, 4, 0] rfl
          exact z_back hQz_ (z_iret C hr hlocks G (Nat.le_of_ble_eq_true rfl) (Nat.le_of_ble_eq_true rfl) dX12_share_45 ⟨j_z0_1, j_crossings_2, j_inns_3, j_steps_4, j_done_5, i_at, i_gone, g_posts_6, g_shut_7, g_here_8, f_was, rfl⟩)
      · have h_33 : (k_.toInt < (0 : Int) ∨ (99 : Int) < k_.toInt) := h_33
        refine lv_if_eq (tgt := 44) hx hb dX12_share_23 (by decide) (fun _ => ?_) (fun q => absurd (by decide) q)
        refine lv_iconst (v := (-1)) hx hb dX12_share_44 (by decide) ?_
        have G := G.sub (bs' := [[zO11 mo m_all m_has i_size i_next i_where i_token i_number i_word i_wrong i_farCrossing m_read j_z0_1 j_crossings_2 j_inns_3 m_posts m_shut m_here j_steps_4 j_done_5 i_at i_gone m_was m_came m_seenAt m_rowWorth m_farBy m_used i_everywhere i_again0 i_d0 i_never i_firstCame i_longRun i_moved i_crowd i_l0 i_fitMany i_fitLeast i_fitMost m_fitPost m_fitEnd m_keptPosts i_x0], [zAr T 0 m_all 3952 f_all], [zAr T 0 m_posts 7 g_posts_6], [zAr T 0 m_shut 7 g_shut_7], [zAr T 0 m_here 7 g_here_8], [zAr T 0 m_was 7 f_was]]) [5, 1, 2, 3, 4, 0] rfl
        exact z_back hQz_ (z_iret C hr hlocks G (Nat.le_of_ble_eq_true rfl) (Nat.le_of_ble_eq_true rfl) dX12_share_45 ⟨j_z0_1, j_crossings_2, j_inns_3, j_steps_4, j_done_5, i_at, i_gone, g_posts_6, g_shut_7, g_here_8, f_was, rfl⟩)
    · have h_28 : (c_.toInt < 0 ∨ j_crossings_2.toInt ≤ c_.toInt) := h_28
      refine lv_if_eq (tgt := 44) hx hb dX12_share_13 (by decide) (fun _ => ?_) (fun q => absurd (by decide) q)
      refine lv_iconst (v := (-1)) hx hb dX12_share_44 (by decide) ?_
      have G := G.sub (bs' := [[zO11 mo m_all m_has i_size i_next i_where i_token i_number i_word i_wrong i_farCrossing m_read j_z0_1 j_crossings_2 j_inns_3 m_posts m_shut m_here j_steps_4 j_done_5 i_at i_gone m_was m_came m_seenAt m_rowWorth m_farBy m_used i_everywhere i_again0 i_d0 i_never i_firstCame i_longRun i_moved i_crowd i_l0 i_fitMany i_fitLeast i_fitMost m_fitPost m_fitEnd m_keptPosts i_x0], [zAr T 0 m_all 3952 f_all], [zAr T 0 m_posts 7 g_posts_6], [zAr T 0 m_shut 7 g_shut_7], [zAr T 0 m_here 7 g_here_8], [zAr T 0 m_was 7 f_was]]) [5, 1, 2, 3, 4, 0] rfl
      exact z_back hQz_ (z_iret C hr hlocks G (Nat.le_of_ble_eq_true rfl) (Nat.le_of_ble_eq_true rfl) dX12_share_45 ⟨j_z0_1, j_crossings_2, j_inns_3, j_steps_4, j_done_5, i_at, i_gone, g_posts_6, g_shut_7, g_here_8, f_was, rfl⟩)
  · have h_23 : (l_.toInt < 0 ∨ (f_all 0).toInt ≤ l_.toInt) := h_23
    refine lv_if_eq (tgt := 44) hx hb dX12_share_5 (by decide) (fun _ => ?_) (fun q => absurd (by decide) q)
    refine lv_iconst (v := (-1)) hx hb dX12_share_44 (by decide) ?_
    have G := G.sub (bs' := [[zO11 mo m_all m_has i_size i_next i_where i_token i_number i_word i_wrong i_farCrossing m_read j_z0_1 j_crossings_2 j_inns_3 m_posts m_shut m_here j_steps_4 j_done_5 i_at i_gone m_was m_came m_seenAt m_rowWorth m_farBy m_used i_everywhere i_again0 i_d0 i_never i_firstCame i_longRun i_moved i_crowd i_l0 i_fitMany i_fitLeast i_fitMost m_fitPost m_fitEnd m_keptPosts i_x0], [zAr T 0 m_all 3952 f_all], [zAr T 0 m_posts 7 g_posts_6], [zAr T 0 m_shut 7 g_shut_7], [zAr T 0 m_here 7 g_here_8], [zAr T 0 m_was 7 f_was]]) [1, 2, 3, 4, 5, 0] rfl
    exact z_back hQz_ (z_iret C hr hlocks G (Nat.le_of_ble_eq_true rfl) (Nat.le_of_ble_eq_true rfl) dX12_share_45 ⟨j_z0_1, j_crossings_2, j_inns_3, j_steps_4, j_done_5, i_at, i_gone, g_posts_6, g_shut_7, g_here_8, f_was, rfl⟩)
set_option maxHeartbeats 4000000 in
set_option maxRecDepth 100000 in
/-- c_m_endOf -/
theorem c_m_endOf (l : Launch) (T : zTy) (mo : Nat) (m_all : Nat) (m_has : Nat) (i_size : Int32) (i_next : Int32) (i_where : Int32) (i_token : Int32) (i_number : Int32) (i_word : Int32) (i_wrong : Int32) (i_farCrossing : Int32) (m_read : Nat) (i_z0 : Int32) (i_crossings : Int32) (i_inns : Int32) (m_posts : Nat) (m_shut : Nat) (m_here : Nat) (i_steps : Int32) (i_done : Int32) (i_at : Int32) (i_gone : Int32) (m_was : Nat) (m_came : Nat) (m_seenAt : Nat) (m_rowWorth : Nat) (m_farBy : Nat) (m_used : Nat) (i_everywhere : Int32) (i_again0 : Int32) (i_d0 : Int32) (i_never : Int32) (i_firstCame : Int32) (i_longRun : Int32) (i_moved : Int32) (i_crowd : Int32) (i_l0 : Int32) (i_fitMany : Int32) (i_fitLeast : Int32) (i_fitMost : Int32) (m_fitPost : Nat) (m_fitEnd : Nat) (m_keptPosts : Nat) (i_x0 : Int32) (f_all : Nat → Int32) (f_posts : Nat → Int32) (f_shut : Nat → Int32) (f_here : Nat → Int32) (f_was : Nat → Int32) (f_came : Nat → Int32) (l_ : Int32) (w_ : Int32) (hB : zBI f_all) : zMi l T yX12_endOf cX12_endOf 5 (some .int) 5 0 0 [.ref mo, .int l_, .int w_] [[zO11 mo m_all m_has i_size i_next i_where i_token i_number i_word i_wrong i_farCrossing m_read i_z0 i_crossings i_inns m_posts m_shut m_here i_steps i_done i_at i_gone m_was m_came m_seenAt m_rowWorth m_farBy m_used i_everywhere i_again0 i_d0 i_never i_firstCame i_longRun i_moved i_crowd i_l0 i_fitMany i_fitLeast i_fitMost m_fitPost m_fitEnd m_keptPosts i_x0], [zAr T 0 m_all 3952 f_all], [zAr T 0 m_posts 7 f_posts], [zAr T 0 m_shut 7 f_shut], [zAr T 0 m_here 7 f_here], [zAr T 0 m_was 7 f_was], [zAr T 0 m_came 7 f_came]] (fun (r : Int32) bs => ∃ (j_z0 : Int32) (j_crossings : Int32) (j_inns : Int32) (j_steps : Int32) (j_done : Int32) (j_at : Int32) (j_gone : Int32) (g_posts : Nat → Int32) (g_shut : Nat → Int32) (g_here : Nat → Int32) (g_was : Nat → Int32) (g_came : Nat → Int32), bs = [[zO11 mo m_all m_has i_size i_next i_where i_token i_number i_word i_wrong i_farCrossing m_read j_z0 j_crossings j_inns m_posts m_shut m_here j_steps j_done j_at j_gone m_was m_came m_seenAt m_rowWorth m_farBy m_used i_everywhere i_again0 i_d0 i_never i_firstCame i_longRun i_moved i_crowd i_l0 i_fitMany i_fitLeast i_fitMost m_fitPost m_fitEnd m_keptPosts i_x0], [zAr T 0 m_all 3952 f_all], [zAr T 0 m_posts 7 g_posts], [zAr T 0 m_shut 7 g_shut], [zAr T 0 m_here 7 g_here], [zAr T 0 m_was 7 g_was], [zAr T 0 m_came 7 g_came]]) := by
  refine zMi_of (own := RX12) (by decide) rfl (Nat.le_of_ble_eq_true rfl) ?_
  intro p e s m args below meth c A ls C hr hlocks hnm hAe G hl
  refine zHide (fun Qz_ hQz_ => ?_)
  have hx := C.1
  have hb := C.2.1
  have hl : lv_has ls 5 [(0, .ref mo), (1, .int l_), (2, .int w_)] := hl
  refine lv_aload_n hx hb dX12_endOf_0 rfl (lv_at hl 0 rfl) ?_
  refine lv_iload_n hx hb dX12_endOf_1 rfl (lv_at hl 1 rfl) ?_
  refine z_Vi (bc := [[zO11 mo m_all m_has i_size i_next i_where i_token i_number i_word i_wrong i_farCrossing m_read i_z0 i_crossings i_inns m_posts m_shut m_here i_steps i_done i_at i_gone m_was m_came m_seenAt m_rowWorth m_farBy m_used i_everywhere i_again0 i_d0 i_never i_firstCame i_longRun i_moved i_crowd i_l0 i_fitMany i_fitLeast i_fitMost m_fitPost m_fitEnd m_keptPosts i_x0], [zAr T 0 m_all 3952 f_all], [zAr T 0 m_posts 7 f_posts], [zAr T 0 m_shut 7 f_shut], [zAr T 0 m_here 7 f_here]]) (br := [[zAr T 0 m_was 7 f_was], [zAr T 0 m_came 7 f_came]]) (As := [.int l_]) (rest := []) C G (c_m_isLand l T mo m_all m_has i_size i_next i_where i_token i_number i_word i_wrong i_farCrossing m_read i_z0 i_crossings i_inns m_posts m_shut m_here i_steps i_done i_at i_gone m_was m_came m_seenAt m_rowWorth m_farBy m_used i_everywhere i_again0 i_d0 i_never i_firstCame i_longRun i_moved i_crowd i_l0 i_fitMany i_fitLeast i_fitMost m_fitPost m_fitEnd m_keptPosts i_x0 f_all f_posts f_shut f_here l_ (by first | with_reducible assumption | with_reducible rfl | omega | assumption | rfl | decide)) (kV_RX12_184 C.2.2.2.2 (Nat.le_of_ble_eq_true rfl) (Nat.le_of_ble_eq_true rfl)) [0, 1, 2, 3, 4] [0, 0, 0, 0, 0] rfl rfl (ci := 11) (qc := (RX12, TX12, 43)) rfl rfl (List.mem_flatten.mpr ⟨_, List.mem_of_getElem? (i := 0) rfl, List.mem_cons_self⟩) rfl rfl hl.1 dX12_endOf_2 (Nat.le_of_ble_eq_true rfl) (Nat.le_of_ble_eq_true rfl) (fun r_10 b1 H locs hw G => ?_)
  refine zEx8 hw ?_
  intro j_z0_1 j_crossings_2 j_inns_3 j_steps_4 j_done_5 g_posts_6 g_shut_7 g_here_8
  refine zCu2 ?_
  intro hbs9 hc_9
  clear hw
  subst hbs9
  have G : zS T A s.heap s [[zAr T 0 m_was 7 f_was], [zAr T 0 m_came 7 f_came], [zO11 mo m_all m_has i_size i_next i_where i_token i_number i_word i_wrong i_farCrossing m_read j_z0_1 j_crossings_2 j_inns_3 m_posts m_shut m_here j_steps_4 j_done_5 i_at i_gone m_was m_came m_seenAt m_rowWorth m_farBy m_used i_everywhere i_again0 i_d0 i_never i_firstCame i_longRun i_moved i_crowd i_l0 i_fitMany i_fitLeast i_fitMost m_fitPost m_fitEnd m_keptPosts i_x0], [zAr T 0 m_all 3952 f_all], [zAr T 0 m_posts 7 g_posts_6], [zAr T 0 m_shut 7 g_shut_7], [zAr T 0 m_here 7 g_here_8]] _ _ := G
  rcases hc_9 with ⟨rfl, h_11, h_12, h_13, h_14, h_15, h_16, h_17, h_18, h_19, h_20, h_21, h_22⟩ | ⟨rfl, h_23⟩
  · have h_11 : 0 ≤ l_.toInt := h_11
    have h_12 : l_.toInt ≤ 1 := h_12
    have h_13 : l_.toInt < (f_all 0).toInt := h_13
    have h_14 : j_z0_1.toInt = 610 + 51 * l_.toInt := h_14
    have h_15 : zML f_all j_z0_1 j_crossings_2 := h_15
    have h_16 : zMP g_posts_6 := h_16
    have h_17 : j_inns_3 = f_all (j_z0_1.toInt.toNat + 1) := h_17
    have h_18 : j_steps_4 = 0 := h_18
    have h_19 : j_done_5 = 0 := h_19
    have h_20 : (∀ j, j < 7 → g_posts_6 j = zPt f_all j_z0_1 (nI j)) := h_20
    have h_21 : (∀ j, j < 7 → g_shut_7 j = 0) := h_21
    have h_22 : (∀ j, j < 7 → g_here_8 j = zWk f_all j_z0_1 j) := h_22
    have hLx := h_15
    have hcr := hLx.cr
    have hzx := hLx.1
    have hPx := h_16
    refine lv_if_ne (tgt := 11) hx hb dX12_endOf_5 (by decide) (fun _ => ?_) (fun q => absurd q (by decide))
    refine lv_iconst (v := 0) hx hb dX12_endOf_11 (by decide) ?_
    refine lv_istore_n (lv' := [(3, .int 0), (0, .ref mo), (1, .int l_), (2, .int w_)]) hx hb dX12_endOf_12 rfl hl (by decide) (zLvf_h rfl) (fun ls hl => ?_)
    refine z_lp2 (T := T) 13 (fun (i : Nat) (xcame : Nat → Int32) => [[zAr T 0 m_was 7 f_was], [zAr T 0 m_came 7 xcame], [zO11 mo m_all m_has i_size i_next i_where i_token i_number i_word i_wrong i_farCrossing m_read j_z0_1 j_crossings_2 j_inns_3 m_posts m_shut m_here j_steps_4 j_done_5 i_at i_gone m_was m_came m_seenAt m_rowWorth m_farBy m_used i_everywhere i_again0 i_d0 i_never i_firstCame i_longRun i_moved i_crowd i_l0 i_fitMany i_fitLeast i_fitMost m_fitPost m_fitEnd m_keptPosts i_x0], [zAr T 0 m_all 3952 f_all], [zAr T 0 m_posts 7 g_posts_6], [zAr T 0 m_shut 7 g_shut_7], [zAr T 0 m_here 7 g_here_8]]) (fun (i : Nat) (xcame : Nat → Int32) => [(3, .int (nI i)), (0, .ref mo), (1, .int l_), (2, .int w_)]) (fun (i : Nat) (xcame : Nat → Int32) => i ≤ 7) (fun (i : Nat) (xcame : Nat → Int32) => 7 - i) ?_ 0 f_came (show 0 ≤ 7 from by omega) G (lv_sub hl [0, 1, 2, 3] rfl)
    intro i xcame hi ih_13 H locs ls G hl
    replace hi : i ≤ 7 := hi
    replace G : zS T A s.heap s [[zAr T 0 m_was 7 f_was], [zAr T 0 m_came 7 xcame], [zO11 mo m_all m_has i_size i_next i_where i_token i_number i_word i_wrong i_farCrossing m_read j_z0_1 j_crossings_2 j_inns_3 m_posts m_shut m_here j_steps_4 j_done_5 i_at i_gone m_was m_came m_seenAt m_rowWorth m_farBy m_used i_everywhere i_again0 i_d0 i_never i_firstCame i_longRun i_moved i_crowd i_l0 i_fitMany i_fitLeast i_fitMost m_fitPost m_fitEnd m_keptPosts i_x0], [zAr T 0 m_all 3952 f_all], [zAr T 0 m_posts 7 g_posts_6], [zAr T 0 m_shut 7 g_shut_7], [zAr T 0 m_here 7 g_here_8]] _ _ := G
    replace hl : lv_has ls 5 [(3, .int (nI i)), (0, .ref mo), (1, .int l_), (2, .int w_)] := hl
    refine lv_iload_n hx hb dX12_endOf_13 rfl (lv_at hl 0 rfl) ?_
    refine lv_bipush (v := 7) hx hb dX12_endOf_14 (by decide) ?_
    refine lv_icmp_ge (tgt := 32) hx hb dX12_endOf_16 (by decide) (fun c_24 => ?_) (fun c_24 => ?_)
    · have c_24n : 7 ≤ i := (nI_leI (a := 7) (b := i) (by omega) (by omega)).mp c_24
      refine lv_iconst (v := 0) hx hb dX12_endOf_32 (by decide) ?_
      refine lv_istore_n (lv' := [(3, .int 0), (0, .ref mo), (1, .int l_), (2, .int w_)]) hx hb dX12_endOf_33 rfl hl (by decide) (zLvf_h rfl) (fun ls hl => ?_)
      refine z_lp7 (T := T) 34 (fun (i : Nat) (xat : Int32) (xgone : Int32) (xsteps : Int32) (xposts : Nat → Int32) (xwas : Nat → Int32) (xcame : Nat → Int32) => [[zAr T 0 m_was 7 xwas], [zAr T 0 m_came 7 xcame], [zO11 mo m_all m_has i_size i_next i_where i_token i_number i_word i_wrong i_farCrossing m_read j_z0_1 j_crossings_2 j_inns_3 m_posts m_shut m_here xsteps j_done_5 xat xgone m_was m_came m_seenAt m_rowWorth m_farBy m_used i_everywhere i_again0 i_d0 i_never i_firstCame i_longRun i_moved i_crowd i_l0 i_fitMany i_fitLeast i_fitMost m_fitPost m_fitEnd m_keptPosts i_x0], [zAr T 0 m_all 3952 f_all], [zAr T 0 m_posts 7 xposts], [zAr T 0 m_shut 7 g_shut_7], [zAr T 0 m_here 7 g_here_8]]) (fun (i : Nat) (xat : Int32) (xgone : Int32) (xsteps : Int32) (xposts : Nat → Int32) (xwas : Nat → Int32) (xcame : Nat → Int32) => [(3, .int (nI i)), (0, .ref mo), (1, .int l_), (2, .int w_)]) (fun (i : Nat) (xat : Int32) (xgone : Int32) (xsteps : Int32) (xposts : Nat → Int32) (xwas : Nat → Int32) (xcame : Nat → Int32) => i ≤ 7 ∧ zMP xposts) (fun (i : Nat) (xat : Int32) (xgone : Int32) (xsteps : Int32) (xposts : Nat → Int32) (xwas : Nat → Int32) (xcame : Nat → Int32) => 7 - i) ?_ 0 i_at i_gone j_steps_4 g_posts_6 f_was xcame (show 0 ≤ 7 ∧ zMP g_posts_6 from ⟨by omega, (by first | with_reducible assumption | assumption)⟩) G (lv_sub hl [0, 1, 2, 3] rfl)
      intro i xat xgone xsteps xposts xwas xcame hI9 ih_34 H locs ls G hl
      replace hI9 : i ≤ 7 ∧ zMP xposts := hI9
      refine zAn2 hI9 ?_
      intro hi hQ
      clear hI9
      replace G : zS T A s.heap s [[zAr T 0 m_was 7 xwas], [zAr T 0 m_came 7 xcame], [zO11 mo m_all m_has i_size i_next i_where i_token i_number i_word i_wrong i_farCrossing m_read j_z0_1 j_crossings_2 j_inns_3 m_posts m_shut m_here xsteps j_done_5 xat xgone m_was m_came m_seenAt m_rowWorth m_farBy m_used i_everywhere i_again0 i_d0 i_never i_firstCame i_longRun i_moved i_crowd i_l0 i_fitMany i_fitLeast i_fitMost m_fitPost m_fitEnd m_keptPosts i_x0], [zAr T 0 m_all 3952 f_all], [zAr T 0 m_posts 7 xposts], [zAr T 0 m_shut 7 g_shut_7], [zAr T 0 m_here 7 g_here_8]] _ _ := G
      replace hl : lv_has ls 5 [(3, .int (nI i)), (0, .ref mo), (1, .int l_), (2, .int w_)] := hl
      refine lv_iload_n hx hb dX12_endOf_34 rfl (lv_at hl 0 rfl) ?_
      refine lv_aload_n hx hb dX12_endOf_35 rfl (lv_at hl 1 rfl) ?_
      refine z_get C G clX12 2 rfl 12 (by decide) m_fl_RX12_169 rfl dX12_endOf_36 ?_
      refine lv_icmp_ge (tgt := 100) hx hb dX12_endOf_39 (by decide) (fun c_25 => ?_) (fun c_25 => ?_)
      · have c_25n : j_crossings_2.toInt ≤ (i : Int) := by have q := (fa_le _ _).mp c_25; rw [nI_toInt (n := i) (by omega)] at q; exact q
        refine lv_iload_n hx hb dX12_endOf_100 rfl (lv_at hl 3 rfl) ?_
        refine lv_if_ne (tgt := 109) hx hb dX12_endOf_101 (by decide) (fun c_26 => ?_) (fun c_26 => ?_)
        · have c_26n : ¬ w_.toInt = (0 : Int) := fun q => c_26 ((fa_eq _ _).mpr q)
          refine lv_iload_n hx hb dX12_endOf_109 rfl (lv_at hl 3 rfl) ?_
          refine lv_bipush (v := 10) hx hb dX12_endOf_110 (by decide) ?_
          refine lv_irem hx hb dX12_endOf_112 (by decide) ?_
          refine lv_istore_n (lv' := [(3, .int (w_ - w_ / 10 * 10)), (0, .ref mo), (1, .int l_), (2, .int w_)]) hx hb dX12_endOf_113 rfl hl (by decide) (zLvf_h rfl) (fun ls hl => ?_)
          refine lv_iload_n hx hb dX12_endOf_114 rfl (lv_at hl 3 rfl) ?_
          refine lv_bipush (v := 10) hx hb dX12_endOf_115 (by decide) ?_
          refine lv_bipush (v := 29) hx hb dX12_endOf_117 (by decide) ?_
          refine z_Si (bc := []) (br := [[zAr T 0 m_was 7 xwas], [zAr T 0 m_came 7 xcame], [zO11 mo m_all m_has i_size i_next i_where i_token i_number i_word i_wrong i_farCrossing m_read j_z0_1 j_crossings_2 j_inns_3 m_posts m_shut m_here xsteps j_done_5 xat xgone m_was m_came m_seenAt m_rowWorth m_farBy m_used i_everywhere i_again0 i_d0 i_never i_firstCame i_longRun i_moved i_crowd i_l0 i_fitMany i_fitLeast i_fitMost m_fitPost m_fitEnd m_keptPosts i_x0], [zAr T 0 m_all 3952 f_all], [zAr T 0 m_posts 7 xposts], [zAr T 0 m_shut 7 g_shut_7], [zAr T 0 m_here 7 g_here_8]]) (As := [.int w_, .int 10, .int 29]) (rest := []) C G (c_m_isIn l T w_ 10 29) (kS_RX12_111 C.2.2.2.2 (Nat.le_of_ble_eq_true rfl) (Nat.le_of_ble_eq_true rfl)) [] [] rfl rfl rfl rfl hl.1 dX12_endOf_119 (Nat.le_of_ble_eq_true rfl) (Nat.le_of_ble_eq_true rfl) (fun r_28 b1 H locs hw G => ?_)
          refine zAn2 hw ?_
          intro hbs9 hc_27
          clear hw
          subst hbs9
          have G : zS T A s.heap s [[zAr T 0 m_was 7 xwas], [zAr T 0 m_came 7 xcame], [zO11 mo m_all m_has i_size i_next i_where i_token i_number i_word i_wrong i_farCrossing m_read j_z0_1 j_crossings_2 j_inns_3 m_posts m_shut m_here xsteps j_done_5 xat xgone m_was m_came m_seenAt m_rowWorth m_farBy m_used i_everywhere i_again0 i_d0 i_never i_firstCame i_longRun i_moved i_crowd i_l0 i_fitMany i_fitLeast i_fitMost m_fitPost m_fitEnd m_keptPosts i_x0], [zAr T 0 m_all 3952 f_all], [zAr T 0 m_posts 7 xposts], [zAr T 0 m_shut 7 g_shut_7], [zAr T 0 m_here 7 g_here_8]] _ _ := G
          rcases hc_27 with ⟨rfl, h_29, h_30⟩ | ⟨rfl, h_31⟩
          · have h_29 : (10 : Int) ≤ w_.toInt := h_29
            have h_30 : w_.toInt ≤ (29 : Int) := h_30
            refine lv_if_eq (tgt := 133) hx hb dX12_endOf_122 (by decide) (fun q => absurd q (by decide)) (fun _ => ?_)
            refine lv_aload_n hx hb dX12_endOf_125 rfl (lv_at hl 1 rfl) ?_
            refine lv_iload_n hx hb dX12_endOf_126 rfl (lv_at hl 0 rfl) ?_
            refine z_Vi (bc := [[zO11 mo m_all m_has i_size i_next i_where i_token i_number i_word i_wrong i_farCrossing m_read j_z0_1 j_crossings_2 j_inns_3 m_posts m_shut m_here xsteps j_done_5 xat xgone m_was m_came m_seenAt m_rowWorth m_farBy m_used i_everywhere i_again0 i_d0 i_never i_firstCame i_longRun i_moved i_crowd i_l0 i_fitMany i_fitLeast i_fitMost m_fitPost m_fitEnd m_keptPosts i_x0]]) (br := [[zAr T 0 m_was 7 xwas], [zAr T 0 m_came 7 xcame], [zAr T 0 m_all 3952 f_all], [zAr T 0 m_posts 7 xposts], [zAr T 0 m_shut 7 g_shut_7], [zAr T 0 m_here 7 g_here_8]]) (As := [.int (w_ - w_ / 10 * 10)]) (rest := []) C G (c_m_isCrossing l T mo m_all m_has i_size i_next i_where i_token i_number i_word i_wrong i_farCrossing m_read j_z0_1 j_crossings_2 j_inns_3 m_posts m_shut m_here xsteps j_done_5 xat xgone m_was m_came m_seenAt m_rowWorth m_farBy m_used i_everywhere i_again0 i_d0 i_never i_firstCame i_longRun i_moved i_crowd i_l0 i_fitMany i_fitLeast i_fitMost m_fitPost m_fitEnd m_keptPosts i_x0 (w_ - w_ / 10 * 10) (by first | with_reducible assumption | with_reducible rfl | omega | assumption | rfl | decide)) (kV_RX12_187 C.2.2.2.2 (Nat.le_of_ble_eq_true rfl) (Nat.le_of_ble_eq_true rfl)) [2] [2] rfl rfl (ci := 11) (qc := (RX12, TX12, 43)) rfl rfl (List.mem_flatten.mpr ⟨_, List.mem_of_getElem? (i := 0) rfl, List.mem_cons_self⟩) rfl rfl hl.1 dX12_endOf_127 (Nat.le_of_ble_eq_true rfl) (Nat.le_of_ble_eq_true rfl) (fun r_33 b1 H locs hw G => ?_)
            refine zAn2 hw ?_
            intro hbs9 hc_32
            clear hw
            subst hbs9
            have G : zS T A s.heap s [[zAr T 0 m_was 7 xwas], [zAr T 0 m_came 7 xcame], [zAr T 0 m_all 3952 f_all], [zAr T 0 m_posts 7 xposts], [zAr T 0 m_shut 7 g_shut_7], [zAr T 0 m_here 7 g_here_8], [zO11 mo m_all m_has i_size i_next i_where i_token i_number i_word i_wrong i_farCrossing m_read j_z0_1 j_crossings_2 j_inns_3 m_posts m_shut m_here xsteps j_done_5 xat xgone m_was m_came m_seenAt m_rowWorth m_farBy m_used i_everywhere i_again0 i_d0 i_never i_firstCame i_longRun i_moved i_crowd i_l0 i_fitMany i_fitLeast i_fitMost m_fitPost m_fitEnd m_keptPosts i_x0]] _ _ := G
            rcases hc_32 with ⟨rfl, h_34, h_35⟩ | ⟨rfl, h_36⟩
            · have h_34 : 0 ≤ (w_ - w_ / 10 * 10).toInt := h_34
              have h_35 : (w_ - w_ / 10 * 10).toInt < j_crossings_2.toInt := h_35
              refine lv_if_ne (tgt := 138) hx hb dX12_endOf_130 (by decide) (fun _ => ?_) (fun q => absurd q (by decide))
              refine lv_iload_n hx hb dX12_endOf_138 rfl (lv_at hl 3 rfl) ?_
              refine lv_bipush (v := 20) hx hb dX12_endOf_139 (by decide) ?_
              refine lv_icmp_ge (tgt := 153) hx hb dX12_endOf_141 (by decide) (fun c_37 => ?_) (fun c_37 => ?_)
              · have c_37n : (20 : Int) ≤ w_.toInt := (fa_le _ _).mp c_37
                refine lv_aload_n hx hb dX12_endOf_153 rfl (lv_at hl 1 rfl) ?_
                refine z_get C G clX12 6 rfl 14 (by decide) m_fl_RX12_20 rfl dX12_endOf_154 ?_
                refine lv_iload_n hx hb dX12_endOf_157 rfl (lv_at hl 0 rfl) ?_
                refine z_ild C G 3 rfl (vp_in_iff.mpr ⟨by omega, by omega⟩) dX12_endOf_158 ?_
                refine lv_topi (fun v_38 ev_38 => ?_)
                subst ev_38
                have G := G.sub (bs' := [[zO11 mo m_all m_has i_size i_next i_where i_token i_number i_word i_wrong i_farCrossing m_read j_z0_1 j_crossings_2 j_inns_3 m_posts m_shut m_here xsteps j_done_5 xat xgone m_was m_came m_seenAt m_rowWorth m_farBy m_used i_everywhere i_again0 i_d0 i_never i_firstCame i_longRun i_moved i_crowd i_l0 i_fitMany i_fitLeast i_fitMost m_fitPost m_fitEnd m_keptPosts i_x0], [zAr T 0 m_all 3952 f_all], [zAr T 0 m_posts 7 xposts], [zAr T 0 m_shut 7 g_shut_7], [zAr T 0 m_here 7 g_here_8], [zAr T 0 m_was 7 xwas], [zAr T 0 m_came 7 xcame]]) [6, 2, 3, 4, 5, 0, 1] rfl
                exact z_back hQz_ (z_iret C hr hlocks G (Nat.le_of_ble_eq_true rfl) (Nat.le_of_ble_eq_true rfl) dX12_endOf_159 ⟨j_z0_1, j_crossings_2, j_inns_3, xsteps, j_done_5, xat, xgone, xposts, g_shut_7, g_here_8, xwas, xcame, rfl⟩)
              · have c_37n : ¬ (20 : Int) ≤ w_.toInt := fun q => c_37 ((fa_le _ _).mpr q)
                refine lv_aload_n hx hb dX12_endOf_144 rfl (lv_at hl 1 rfl) ?_
                refine z_get C G clX12 6 rfl 22 (by decide) m_fl_RX12_32 rfl dX12_endOf_145 ?_
                refine lv_iload_n hx hb dX12_endOf_148 rfl (lv_at hl 0 rfl) ?_
                refine z_ild C G 1 rfl (vp_in_iff.mpr ⟨by omega, by omega⟩) dX12_endOf_149 ?_
                refine lv_topi (fun v_39 ev_39 => ?_)
                subst ev_39
                refine lv_goto (tgt := 159) hx hb dX12_endOf_150 (by decide) ?_
                have G := G.sub (bs' := [[zO11 mo m_all m_has i_size i_next i_where i_token i_number i_word i_wrong i_farCrossing m_read j_z0_1 j_crossings_2 j_inns_3 m_posts m_shut m_here xsteps j_done_5 xat xgone m_was m_came m_seenAt m_rowWorth m_farBy m_used i_everywhere i_again0 i_d0 i_never i_firstCame i_longRun i_moved i_crowd i_l0 i_fitMany i_fitLeast i_fitMost m_fitPost m_fitEnd m_keptPosts i_x0], [zAr T 0 m_all 3952 f_all], [zAr T 0 m_posts 7 xposts], [zAr T 0 m_shut 7 g_shut_7], [zAr T 0 m_here 7 g_here_8], [zAr T 0 m_was 7 xwas], [zAr T 0 m_came 7 xcame]]) [6, 2, 3, 4, 5, 0, 1] rfl
                exact z_back hQz_ (z_iret C hr hlocks G (Nat.le_of_ble_eq_true rfl) (Nat.le_of_ble_eq_true rfl) dX12_endOf_159 ⟨j_z0_1, j_crossings_2, j_inns_3, xsteps, j_done_5, xat, xgone, xposts, g_shut_7, g_here_8, xwas, xcame, rfl⟩)
            · have h_36 : ((w_ - w_ / 10 * 10).toInt < 0 ∨ j_crossings_2.toInt ≤ (w_ - w_ / 10 * 10).toInt) := h_36
              refine lv_if_ne (tgt := 138) hx hb dX12_endOf_130 (by decide) (fun q => absurd (by decide) q) (fun _ => ?_)
              refine lv_bipush (v := (-2)) hx hb dX12_endOf_133 (by decide) ?_
              refine lv_goto (tgt := 159) hx hb dX12_endOf_135 (by decide) ?_
              have G := G.sub (bs' := [[zO11 mo m_all m_has i_size i_next i_where i_token i_number i_word i_wrong i_farCrossing m_read j_z0_1 j_crossings_2 j_inns_3 m_posts m_shut m_here xsteps j_done_5 xat xgone m_was m_came m_seenAt m_rowWorth m_farBy m_used i_everywhere i_again0 i_d0 i_never i_firstCame i_longRun i_moved i_crowd i_l0 i_fitMany i_fitLeast i_fitMost m_fitPost m_fitEnd m_keptPosts i_x0], [zAr T 0 m_all 3952 f_all], [zAr T 0 m_posts 7 xposts], [zAr T 0 m_shut 7 g_shut_7], [zAr T 0 m_here 7 g_here_8], [zAr T 0 m_was 7 xwas], [zAr T 0 m_came 7 xcame]]) [6, 2, 3, 4, 5, 0, 1] rfl
              exact z_back hQz_ (z_iret C hr hlocks G (Nat.le_of_ble_eq_true rfl) (Nat.le_of_ble_eq_true rfl) dX12_endOf_159 ⟨j_z0_1, j_crossings_2, j_inns_3, xsteps, j_done_5, xat, xgone, xposts, g_shut_7, g_here_8, xwas, xcame, rfl⟩)
          · have h_31 : (w_.toInt < (10 : Int) ∨ (29 : Int) < w_.toInt) := h_31
            refine lv_if_eq (tgt := 133) hx hb dX12_endOf_122 (by decide) (fun _ => ?_) (fun q => absurd (by decide) q)
            refine lv_bipush (v := (-2)) hx hb dX12_endOf_133 (by decide) ?_
            refine lv_goto (tgt := 159) hx hb dX12_endOf_135 (by decide) ?_
            have G := G.sub (bs' := [[zO11 mo m_all m_has i_size i_next i_where i_token i_number i_word i_wrong i_farCrossing m_read j_z0_1 j_crossings_2 j_inns_3 m_posts m_shut m_here xsteps j_done_5 xat xgone m_was m_came m_seenAt m_rowWorth m_farBy m_used i_everywhere i_again0 i_d0 i_never i_firstCame i_longRun i_moved i_crowd i_l0 i_fitMany i_fitLeast i_fitMost m_fitPost m_fitEnd m_keptPosts i_x0], [zAr T 0 m_all 3952 f_all], [zAr T 0 m_posts 7 xposts], [zAr T 0 m_shut 7 g_shut_7], [zAr T 0 m_here 7 g_here_8], [zAr T 0 m_was 7 xwas], [zAr T 0 m_came 7 xcame]]) [2, 3, 4, 5, 6, 0, 1] rfl
            exact z_back hQz_ (z_iret C hr hlocks G (Nat.le_of_ble_eq_true rfl) (Nat.le_of_ble_eq_true rfl) dX12_endOf_159 ⟨j_z0_1, j_crossings_2, j_inns_3, xsteps, j_done_5, xat, xgone, xposts, g_shut_7, g_here_8, xwas, xcame, rfl⟩)
        · have c_26n : w_.toInt = (0 : Int) := (fa_eq _ _).mp c_26
          refine lv_aload_n hx hb dX12_endOf_104 rfl (lv_at hl 1 rfl) ?_
          refine z_get C G clX12 2 rfl 17 (by decide) m_fl_RX12_196 rfl dX12_endOf_105 ?_
          have G := G.sub (bs' := [[zO11 mo m_all m_has i_size i_next i_where i_token i_number i_word i_wrong i_farCrossing m_read j_z0_1 j_crossings_2 j_inns_3 m_posts m_shut m_here xsteps j_done_5 xat xgone m_was m_came m_seenAt m_rowWorth m_farBy m_used i_everywhere i_again0 i_d0 i_never i_firstCame i_longRun i_moved i_crowd i_l0 i_fitMany i_fitLeast i_fitMost m_fitPost m_fitEnd m_keptPosts i_x0], [zAr T 0 m_all 3952 f_all], [zAr T 0 m_posts 7 xposts], [zAr T 0 m_shut 7 g_shut_7], [zAr T 0 m_here 7 g_here_8], [zAr T 0 m_was 7 xwas], [zAr T 0 m_came 7 xcame]]) [2, 3, 4, 5, 6, 0, 1] rfl
          exact z_back hQz_ (z_iret C hr hlocks G (Nat.le_of_ble_eq_true rfl) (Nat.le_of_ble_eq_true rfl) dX12_endOf_108 ⟨j_z0_1, j_crossings_2, j_inns_3, xsteps, j_done_5, xat, xgone, xposts, g_shut_7, g_here_8, xwas, xcame, rfl⟩)
      · have c_25n : ¬ j_crossings_2.toInt ≤ (i : Int) := fun q => c_25 ((fa_le _ _).mpr (by rw [nI_toInt (n := i) (by omega)]; exact q))
        refine lv_iconst (v := 0) hx hb dX12_endOf_42 (by decide) ?_
        refine lv_istore (lv' := [(4, .int 0), (3, .int (nI i)), (0, .ref mo), (1, .int l_), (2, .int w_)]) hx hb dX12_endOf_43 hl (by decide) (zLvf_h rfl) (fun ls hl => ?_)
        have hxl := Int32.toInt_lt (g_here_8 i)
        refine z_lp7 (T := T) 45 (fun (k : Nat) (yat : Int32) (ygone : Int32) (ysteps : Int32) (yposts : Nat → Int32) (ywas : Nat → Int32) (ycame : Nat → Int32) => [[zAr T 0 m_was 7 ywas], [zAr T 0 m_came 7 ycame], [zO11 mo m_all m_has i_size i_next i_where i_token i_number i_word i_wrong i_farCrossing m_read j_z0_1 j_crossings_2 j_inns_3 m_posts m_shut m_here ysteps j_done_5 yat ygone m_was m_came m_seenAt m_rowWorth m_farBy m_used i_everywhere i_again0 i_d0 i_never i_firstCame i_longRun i_moved i_crowd i_l0 i_fitMany i_fitLeast i_fitMost m_fitPost m_fitEnd m_keptPosts i_x0], [zAr T 0 m_all 3952 f_all], [zAr T 0 m_posts 7 yposts], [zAr T 0 m_shut 7 g_shut_7], [zAr T 0 m_here 7 g_here_8]]) (fun (k : Nat) (yat : Int32) (ygone : Int32) (ysteps : Int32) (yposts : Nat → Int32) (ywas : Nat → Int32) (ycame : Nat → Int32) => [(4, .int (nI k)), (3, .int (nI i)), (0, .ref mo), (1, .int l_), (2, .int w_)]) (fun (k : Nat) (yat : Int32) (ygone : Int32) (ysteps : Int32) (yposts : Nat → Int32) (ywas : Nat → Int32) (ycame : Nat → Int32) => (k = 0 ∨ (k : Int) ≤ (g_here_8 i).toInt) ∧ zMP yposts) (fun (k : Nat) (yat : Int32) (ygone : Int32) (ysteps : Int32) (yposts : Nat → Int32) (ywas : Nat → Int32) (ycame : Nat → Int32) => ((g_here_8 i).toInt - k).toNat) ?_ 0 xat xgone xsteps xposts xwas xcame (show (0 = 0 ∨ (0 : Int) ≤ (g_here_8 i).toInt) ∧ zMP xposts from ⟨by omega, (by first | with_reducible assumption | assumption)⟩) G (lv_sub hl [0, 1, 2, 3, 4] rfl)
        intro k yat ygone ysteps yposts ywas ycame hI9 ih_45 H locs ls G hl
        replace hI9 : (k = 0 ∨ (k : Int) ≤ (g_here_8 i).toInt) ∧ zMP yposts := hI9
        refine zAn2 hI9 ?_
        intro hk hQ2
        clear hI9
        replace G : zS T A s.heap s [[zAr T 0 m_was 7 ywas], [zAr T 0 m_came 7 ycame], [zO11 mo m_all m_has i_size i_next i_where i_token i_number i_word i_wrong i_farCrossing m_read j_z0_1 j_crossings_2 j_inns_3 m_posts m_shut m_here ysteps j_done_5 yat ygone m_was m_came m_seenAt m_rowWorth m_farBy m_used i_everywhere i_again0 i_d0 i_never i_firstCame i_longRun i_moved i_crowd i_l0 i_fitMany i_fitLeast i_fitMost m_fitPost m_fitEnd m_keptPosts i_x0], [zAr T 0 m_all 3952 f_all], [zAr T 0 m_posts 7 yposts], [zAr T 0 m_shut 7 g_shut_7], [zAr T 0 m_here 7 g_here_8]] _ _ := G
        replace hl : lv_has ls 5 [(4, .int (nI k)), (3, .int (nI i)), (0, .ref mo), (1, .int l_), (2, .int w_)] := hl
        refine lv_iload hx hb dX12_endOf_45 (lv_at hl 0 rfl) ?_
        refine lv_aload_n hx hb dX12_endOf_47 rfl (lv_at hl 2 rfl) ?_
        refine z_get C G clX12 2 rfl 16 (by decide) m_fl_RX12_26 rfl dX12_endOf_48 ?_
        refine lv_iload_n hx hb dX12_endOf_51 rfl (lv_at hl 1 rfl) ?_
        refine z_ild C G 6 rfl (vp_in_nI (by omega) (by decide)) dX12_endOf_52 ?_
        refine lv_topi (fun v_40 ev_40 => ?_)
        rw [nI_clamp (by omega)] at ev_40
        subst ev_40
        refine lv_icmp_ge (tgt := 94) hx hb dX12_endOf_53 (by decide) (fun c_41 => ?_) (fun c_41 => ?_)
        · have c_41n : (g_here_8 i).toInt ≤ (k : Int) := by have q := (fa_le _ _).mp c_41; rw [nI_toInt (n := k) (by omega)] at q; exact q
          refine lv_iinc (v := nI (i + 1)) (lv' := [(3, .int (nI (i + 1))), (4, .int (nI k)), (0, .ref mo), (1, .int l_), (2, .int w_)]) hx hb dX12_endOf_94 hl (k := 1) rfl (z_inc i 1) (by decide) (zLvf_h rfl) (fun ls hl => ?_)
          refine lv_goto (tgt := 34) hx hb dX12_endOf_97 (by decide) ?_
          exact ih_34 (i + 1) yat ygone ysteps yposts ywas ycame (show (i + 1) ≤ 7 ∧ zMP yposts from ⟨by omega, (by first | with_reducible assumption | assumption)⟩) (show 7 - (i + 1) < 7 - i from by omega) _ _ ls G (lv_sub hl [0, 2, 3, 4] rfl)
        · have c_41n : ¬ (g_here_8 i).toInt ≤ (k : Int) := fun q => c_41 ((fa_le _ _).mpr (by rw [nI_toInt (n := k) (by omega)]; exact q))
          refine lv_aload_n hx hb dX12_endOf_56 rfl (lv_at hl 2 rfl) ?_
          refine lv_iload_n hx hb dX12_endOf_57 rfl (lv_at hl 1 rfl) ?_
          have ti_42 : (nI i).toInt = ((i : Nat) : Int) := nI_toInt (by omega)
          refine z_Vi (bc := [[zO11 mo m_all m_has i_size i_next i_where i_token i_number i_word i_wrong i_farCrossing m_read j_z0_1 j_crossings_2 j_inns_3 m_posts m_shut m_here ysteps j_done_5 yat ygone m_was m_came m_seenAt m_rowWorth m_farBy m_used i_everywhere i_again0 i_d0 i_never i_firstCame i_longRun i_moved i_crowd i_l0 i_fitMany i_fitLeast i_fitMost m_fitPost m_fitEnd m_keptPosts i_x0], [zAr T 0 m_all 3952 f_all], [zAr T 0 m_posts 7 yposts], [zAr T 0 m_shut 7 g_shut_7], [zAr T 0 m_was 7 ywas]]) (br := [[zAr T 0 m_came 7 ycame], [zAr T 0 m_here 7 g_here_8]]) (As := [.int (nI i)]) (rest := []) C G (c_m_walks l T mo m_all m_has i_size i_next i_where i_token i_number i_word i_wrong i_farCrossing m_read j_z0_1 j_crossings_2 j_inns_3 m_posts m_shut m_here ysteps j_done_5 yat ygone m_was m_came m_seenAt m_rowWorth m_farBy m_used i_everywhere i_again0 i_d0 i_never i_firstCame i_longRun i_moved i_crowd i_l0 i_fitMany i_fitLeast i_fitMost m_fitPost m_fitEnd m_keptPosts i_x0 f_all yposts g_shut_7 ywas (nI i) (by first | with_reducible assumption | with_reducible rfl | omega | assumption | rfl | decide) (by first | with_reducible assumption | with_reducible rfl | omega | assumption | rfl | decide) (by first | with_reducible assumption | with_reducible rfl | omega | assumption | rfl | decide) (by first | with_reducible assumption | with_reducible rfl | omega | assumption | rfl | decide)) (kV_RX12_217 C.2.2.2.2 (Nat.le_of_ble_eq_true rfl) (Nat.le_of_ble_eq_true rfl)) [2, 3, 4, 5, 0] [0, 1, 0, 0, 0] rfl rfl (ci := 11) (qc := (RX12, TX12, 43)) rfl rfl (List.mem_flatten.mpr ⟨_, List.mem_of_getElem? (i := 0) rfl, List.mem_cons_self⟩) rfl rfl hl.1 dX12_endOf_58 (Nat.le_of_ble_eq_true rfl) (Nat.le_of_ble_eq_true rfl) (fun r_53 b1 H locs hw G => ?_)
          refine zEx4 hw ?_
          intro j_at_43 j_gone_44 g_posts_45 g_was_46
          refine zCu7 ?_
          intro hbs9 h_47 h_48 h_49 h_50 h_51 h_52
          clear hw
          subst hbs9
          have G : zS T A s.heap s [[zAr T 0 m_came 7 ycame], [zAr T 0 m_here 7 g_here_8], [zO11 mo m_all m_has i_size i_next i_where i_token i_number i_word i_wrong i_farCrossing m_read j_z0_1 j_crossings_2 j_inns_3 m_posts m_shut m_here ysteps j_done_5 j_at_43 j_gone_44 m_was m_came m_seenAt m_rowWorth m_farBy m_used i_everywhere i_again0 i_d0 i_never i_firstCame i_longRun i_moved i_crowd i_l0 i_fitMany i_fitLeast i_fitMost m_fitPost m_fitEnd m_keptPosts i_x0], [zAr T 0 m_all 3952 f_all], [zAr T 0 m_posts 7 g_posts_45], [zAr T 0 m_shut 7 g_shut_7], [zAr T 0 m_was 7 g_was_46]] _ _ := G
          replace h_47 : zHd ((r_53 = 0 ∨ r_53 = 1)) := h_47
          refine lv_pop hx hb dX12_endOf_61 rfl ?_
          refine lv_aload_n hx hb dX12_endOf_62 rfl (lv_at hl 2 rfl) ?_
          refine lv_dup hx hb dX12_endOf_63 rfl ?_
          refine z_get C G clX12 2 rfl 17 (by decide) m_fl_RX12_196 rfl dX12_endOf_64 ?_
          refine lv_aload_n hx hb dX12_endOf_67 rfl (lv_at hl 2 rfl) ?_
          refine z_get C G clX12 2 rfl 20 (by decide) m_fl_RX12_208 rfl dX12_endOf_68 ?_
          refine lv_iadd hx hb dX12_endOf_71 ?_
          refine z_put C G clX12 2 rfl 17 (by decide) m_fl_RX12_196 rfl rfl rfl (Nat.le_of_ble_eq_true rfl) dX12_endOf_72 (fun H locs G => ?_)
          have G : zS T A s.heap s [[zAr T 0 m_came 7 ycame], [zAr T 0 m_here 7 g_here_8], [zO11 mo m_all m_has i_size i_next i_where i_token i_number i_word i_wrong i_farCrossing m_read j_z0_1 j_crossings_2 j_inns_3 m_posts m_shut m_here (ysteps + j_gone_44) j_done_5 j_at_43 j_gone_44 m_was m_came m_seenAt m_rowWorth m_farBy m_used i_everywhere i_again0 i_d0 i_never i_firstCame i_longRun i_moved i_crowd i_l0 i_fitMany i_fitLeast i_fitMost m_fitPost m_fitEnd m_keptPosts i_x0], [zAr T 0 m_all 3952 f_all], [zAr T 0 m_posts 7 g_posts_45], [zAr T 0 m_shut 7 g_shut_7], [zAr T 0 m_was 7 g_was_46]] _ _ := G
          refine lv_aload_n hx hb dX12_endOf_75 rfl (lv_at hl 2 rfl) ?_
          refine z_get C G clX12 2 rfl 22 (by decide) m_fl_RX12_32 rfl dX12_endOf_76 ?_
          refine lv_aload_n hx hb dX12_endOf_79 rfl (lv_at hl 2 rfl) ?_
          refine z_get C G clX12 2 rfl 19 (by decide) m_fl_RX12_202 rfl dX12_endOf_80 ?_
          refine lv_dup2_11 hx hb dX12_endOf_83 rfl rfl ?_
          refine z_ild C G 0 rfl (vp_in_iff.mpr ⟨by omega, by omega⟩) dX12_endOf_84 ?_
          refine lv_topi (fun v_54 ev_54 => ?_)
          subst ev_54
          refine lv_iconst (v := 1) hx hb dX12_endOf_85 (by decide) ?_
          refine lv_iadd hx hb dX12_endOf_86 ?_
          refine z_ist C G 0 rfl (vp_in_iff.mpr ⟨by omega, by omega⟩) dX12_endOf_87 (fun H locs G => ?_)
          have G : zS T A s.heap s [[zAr T 0 m_came 7 (upd ycame j_at_43.toNatClampNeg ((ycame j_at_43.toNatClampNeg) + 1))], [zAr T 0 m_here 7 g_here_8], [zO11 mo m_all m_has i_size i_next i_where i_token i_number i_word i_wrong i_farCrossing m_read j_z0_1 j_crossings_2 j_inns_3 m_posts m_shut m_here (ysteps + j_gone_44) j_done_5 j_at_43 j_gone_44 m_was m_came m_seenAt m_rowWorth m_farBy m_used i_everywhere i_again0 i_d0 i_never i_firstCame i_longRun i_moved i_crowd i_l0 i_fitMany i_fitLeast i_fitMost m_fitPost m_fitEnd m_keptPosts i_x0], [zAr T 0 m_all 3952 f_all], [zAr T 0 m_posts 7 g_posts_45], [zAr T 0 m_shut 7 g_shut_7], [zAr T 0 m_was 7 g_was_46]] _ _ := G
          refine lv_iinc (v := nI (k + 1)) (lv' := [(4, .int (nI (k + 1))), (3, .int (nI i)), (0, .ref mo), (1, .int l_), (2, .int w_)]) hx hb dX12_endOf_88 hl (k := 0) rfl (z_inc k 1) (by decide) (zLvf_h rfl) (fun ls hl => ?_)
          refine lv_goto (tgt := 45) hx hb dX12_endOf_91 (by decide) ?_
          have hxl := Int32.toInt_lt (g_here_8 i)
          have G := G.sub (bs' := [[zAr T 0 m_was 7 g_was_46], [zAr T 0 m_came 7 (upd ycame j_at_43.toNatClampNeg ((ycame j_at_43.toNatClampNeg) + 1))], [zO11 mo m_all m_has i_size i_next i_where i_token i_number i_word i_wrong i_farCrossing m_read j_z0_1 j_crossings_2 j_inns_3 m_posts m_shut m_here (ysteps + j_gone_44) j_done_5 j_at_43 j_gone_44 m_was m_came m_seenAt m_rowWorth m_farBy m_used i_everywhere i_again0 i_d0 i_never i_firstCame i_longRun i_moved i_crowd i_l0 i_fitMany i_fitLeast i_fitMost m_fitPost m_fitEnd m_keptPosts i_x0], [zAr T 0 m_all 3952 f_all], [zAr T 0 m_posts 7 g_posts_45], [zAr T 0 m_shut 7 g_shut_7], [zAr T 0 m_here 7 g_here_8]]) [6, 0, 2, 3, 4, 5, 1] rfl
          exact ih_45 (k + 1) j_at_43 j_gone_44 (ysteps + j_gone_44) g_posts_45 g_was_46 (upd ycame j_at_43.toNatClampNeg ((ycame j_at_43.toNatClampNeg) + 1)) (show ((k + 1) = 0 ∨ ((k + 1) : Int) ≤ (g_here_8 i).toInt) ∧ zMP g_posts_45 from ⟨by omega, (by first | with_reducible assumption | assumption)⟩) (show ((g_here_8 i).toInt - (k + 1)).toNat < ((g_here_8 i).toInt - k).toNat from by omega) _ _ ls G (lv_sub hl [0, 1, 2, 3, 4] rfl)
    · have c_24n : ¬ 7 ≤ i := fun q => c_24 ((nI_leI (a := 7) (b := i) (by omega) (by omega)).mpr q)
      refine lv_aload_n hx hb dX12_endOf_19 rfl (lv_at hl 1 rfl) ?_
      refine z_get C G clX12 2 rfl 22 (by decide) m_fl_RX12_32 rfl dX12_endOf_20 ?_
      refine lv_iload_n hx hb dX12_endOf_23 rfl (lv_at hl 0 rfl) ?_
      refine lv_iconst (v := 0) hx hb dX12_endOf_24 (by decide) ?_
      refine z_ist C G 1 rfl (vp_in_nI (by omega) (by decide)) dX12_endOf_25 (fun H locs G => ?_)
      rw [nI_clamp (by omega)] at G
      have G : zS T A s.heap s [[zAr T 0 m_was 7 f_was], [zAr T 0 m_came 7 (upd xcame i 0)], [zO11 mo m_all m_has i_size i_next i_where i_token i_number i_word i_wrong i_farCrossing m_read j_z0_1 j_crossings_2 j_inns_3 m_posts m_shut m_here j_steps_4 j_done_5 i_at i_gone m_was m_came m_seenAt m_rowWorth m_farBy m_used i_everywhere i_again0 i_d0 i_never i_firstCame i_longRun i_moved i_crowd i_l0 i_fitMany i_fitLeast i_fitMost m_fitPost m_fitEnd m_keptPosts i_x0], [zAr T 0 m_all 3952 f_all], [zAr T 0 m_posts 7 g_posts_6], [zAr T 0 m_shut 7 g_shut_7], [zAr T 0 m_here 7 g_here_8]] _ _ := G
      refine lv_iinc (v := nI (i + 1)) (lv' := [(3, .int (nI (i + 1))), (0, .ref mo), (1, .int l_), (2, .int w_)]) hx hb dX12_endOf_26 hl (k := 0) rfl (z_inc i 1) (by decide) (zLvf_h rfl) (fun ls hl => ?_)
      refine lv_goto (tgt := 13) hx hb dX12_endOf_29 (by decide) ?_
      exact ih_13 (i + 1) (upd xcame i 0) (show (i + 1) ≤ 7 from by omega) (show 7 - (i + 1) < 7 - i from by omega) _ _ ls G (lv_sub hl [0, 1, 2, 3] rfl)
  · have h_23 : (l_.toInt < 0 ∨ (f_all 0).toInt ≤ l_.toInt) := h_23
    refine lv_if_ne (tgt := 11) hx hb dX12_endOf_5 (by decide) (fun q => absurd (by decide) q) (fun _ => ?_)
    refine lv_bipush (v := (-2)) hx hb dX12_endOf_8 (by decide) ?_
    have G := G.sub (bs' := [[zO11 mo m_all m_has i_size i_next i_where i_token i_number i_word i_wrong i_farCrossing m_read j_z0_1 j_crossings_2 j_inns_3 m_posts m_shut m_here j_steps_4 j_done_5 i_at i_gone m_was m_came m_seenAt m_rowWorth m_farBy m_used i_everywhere i_again0 i_d0 i_never i_firstCame i_longRun i_moved i_crowd i_l0 i_fitMany i_fitLeast i_fitMost m_fitPost m_fitEnd m_keptPosts i_x0], [zAr T 0 m_all 3952 f_all], [zAr T 0 m_posts 7 g_posts_6], [zAr T 0 m_shut 7 g_shut_7], [zAr T 0 m_here 7 g_here_8], [zAr T 0 m_was 7 f_was], [zAr T 0 m_came 7 f_came]]) [2, 3, 4, 5, 6, 0, 1] rfl
    exact z_back hQz_ (z_iret C hr hlocks G (Nat.le_of_ble_eq_true rfl) (Nat.le_of_ble_eq_true rfl) dX12_endOf_10 ⟨j_z0_1, j_crossings_2, j_inns_3, j_steps_4, j_done_5, i_at, i_gone, g_posts_6, g_shut_7, g_here_8, f_was, f_came, rfl⟩)
set_option maxHeartbeats 4000000 in
set_option maxRecDepth 100000 in
/-- c_m_period -/
theorem c_m_period (l : Launch) (T : zTy) (mo : Nat) (m_all : Nat) (m_has : Nat) (i_size : Int32) (i_next : Int32) (i_where : Int32) (i_token : Int32) (i_number : Int32) (i_word : Int32) (i_wrong : Int32) (i_farCrossing : Int32) (m_read : Nat) (i_z0 : Int32) (i_crossings : Int32) (i_inns : Int32) (m_posts : Nat) (m_shut : Nat) (m_here : Nat) (i_steps : Int32) (i_done : Int32) (i_at : Int32) (i_gone : Int32) (m_was : Nat) (m_came : Nat) (m_seenAt : Nat) (m_rowWorth : Nat) (m_farBy : Nat) (m_used : Nat) (i_everywhere : Int32) (i_again0 : Int32) (i_d0 : Int32) (i_never : Int32) (i_firstCame : Int32) (i_longRun : Int32) (i_moved : Int32) (i_crowd : Int32) (i_l0 : Int32) (i_fitMany : Int32) (i_fitLeast : Int32) (i_fitMost : Int32) (m_fitPost : Nat) (m_fitEnd : Nat) (m_keptPosts : Nat) (i_x0 : Int32) (f_all : Nat → Int32) (f_posts : Nat → Int32) (f_shut : Nat → Int32) (f_here : Nat → Int32) (f_was : Nat → Int32) (f_seenAt : Nat → Int32) (l_ : Int32) (c_ : Int32) (w_ : Int32) (hB : zBI f_all) : zMi l T yX12_period cX12_period 6 (some .int) 5 0 0 [.ref mo, .int l_, .int c_, .int w_] [[zO11 mo m_all m_has i_size i_next i_where i_token i_number i_word i_wrong i_farCrossing m_read i_z0 i_crossings i_inns m_posts m_shut m_here i_steps i_done i_at i_gone m_was m_came m_seenAt m_rowWorth m_farBy m_used i_everywhere i_again0 i_d0 i_never i_firstCame i_longRun i_moved i_crowd i_l0 i_fitMany i_fitLeast i_fitMost m_fitPost m_fitEnd m_keptPosts i_x0], [zAr T 0 m_all 3952 f_all], [zAr T 0 m_posts 7 f_posts], [zAr T 0 m_shut 7 f_shut], [zAr T 0 m_here 7 f_here], [zAr T 0 m_was 7 f_was], [zAr T 0 m_seenAt 16384 f_seenAt]] (fun (r : Int32) bs => ∃ (j_z0 : Int32) (j_crossings : Int32) (j_inns : Int32) (j_steps : Int32) (j_done : Int32) (j_at : Int32) (j_gone : Int32) (g_posts : Nat → Int32) (g_shut : Nat → Int32) (g_here : Nat → Int32) (g_was : Nat → Int32) (g_seenAt : Nat → Int32), bs = [[zO11 mo m_all m_has i_size i_next i_where i_token i_number i_word i_wrong i_farCrossing m_read j_z0 j_crossings j_inns m_posts m_shut m_here j_steps j_done j_at j_gone m_was m_came m_seenAt m_rowWorth m_farBy m_used i_everywhere i_again0 i_d0 i_never i_firstCame i_longRun i_moved i_crowd i_l0 i_fitMany i_fitLeast i_fitMost m_fitPost m_fitEnd m_keptPosts i_x0], [zAr T 0 m_all 3952 f_all], [zAr T 0 m_posts 7 g_posts], [zAr T 0 m_shut 7 g_shut], [zAr T 0 m_here 7 g_here], [zAr T 0 m_was 7 g_was], [zAr T 0 m_seenAt 16384 g_seenAt]]) := by
  refine zMi_of (own := RX12) (by decide) rfl (Nat.le_of_ble_eq_true rfl) ?_
  intro p e s m args below meth c A ls C hr hlocks hnm hAe G hl
  refine zHide (fun Qz_ hQz_ => ?_)
  have hx := C.1
  have hb := C.2.1
  have hl : lv_has ls 6 [(0, .ref mo), (1, .int l_), (2, .int c_), (3, .int w_)] := hl
  refine lv_aload_n hx hb dX12_period_0 rfl (lv_at hl 0 rfl) ?_
  refine lv_iload_n hx hb dX12_period_1 rfl (lv_at hl 1 rfl) ?_
  refine z_Vi (bc := [[zO11 mo m_all m_has i_size i_next i_where i_token i_number i_word i_wrong i_farCrossing m_read i_z0 i_crossings i_inns m_posts m_shut m_here i_steps i_done i_at i_gone m_was m_came m_seenAt m_rowWorth m_farBy m_used i_everywhere i_again0 i_d0 i_never i_firstCame i_longRun i_moved i_crowd i_l0 i_fitMany i_fitLeast i_fitMost m_fitPost m_fitEnd m_keptPosts i_x0], [zAr T 0 m_all 3952 f_all], [zAr T 0 m_posts 7 f_posts], [zAr T 0 m_shut 7 f_shut], [zAr T 0 m_here 7 f_here]]) (br := [[zAr T 0 m_was 7 f_was], [zAr T 0 m_seenAt 16384 f_seenAt]]) (As := [.int l_]) (rest := []) C G (c_m_isLand l T mo m_all m_has i_size i_next i_where i_token i_number i_word i_wrong i_farCrossing m_read i_z0 i_crossings i_inns m_posts m_shut m_here i_steps i_done i_at i_gone m_was m_came m_seenAt m_rowWorth m_farBy m_used i_everywhere i_again0 i_d0 i_never i_firstCame i_longRun i_moved i_crowd i_l0 i_fitMany i_fitLeast i_fitMost m_fitPost m_fitEnd m_keptPosts i_x0 f_all f_posts f_shut f_here l_ (by first | with_reducible assumption | with_reducible rfl | omega | assumption | rfl | decide)) (kV_RX12_184 C.2.2.2.2 (Nat.le_of_ble_eq_true rfl) (Nat.le_of_ble_eq_true rfl)) [0, 1, 2, 3, 4] [0, 0, 0, 0, 0] rfl rfl (ci := 11) (qc := (RX12, TX12, 43)) rfl rfl (List.mem_flatten.mpr ⟨_, List.mem_of_getElem? (i := 0) rfl, List.mem_cons_self⟩) rfl rfl hl.1 dX12_period_2 (Nat.le_of_ble_eq_true rfl) (Nat.le_of_ble_eq_true rfl) (fun r_10 b1 H locs hw G => ?_)
  refine zEx8 hw ?_
  intro j_z0_1 j_crossings_2 j_inns_3 j_steps_4 j_done_5 g_posts_6 g_shut_7 g_here_8
  refine zCu2 ?_
  intro hbs9 hc_9
  clear hw
  subst hbs9
  have G : zS T A s.heap s [[zAr T 0 m_was 7 f_was], [zAr T 0 m_seenAt 16384 f_seenAt], [zO11 mo m_all m_has i_size i_next i_where i_token i_number i_word i_wrong i_farCrossing m_read j_z0_1 j_crossings_2 j_inns_3 m_posts m_shut m_here j_steps_4 j_done_5 i_at i_gone m_was m_came m_seenAt m_rowWorth m_farBy m_used i_everywhere i_again0 i_d0 i_never i_firstCame i_longRun i_moved i_crowd i_l0 i_fitMany i_fitLeast i_fitMost m_fitPost m_fitEnd m_keptPosts i_x0], [zAr T 0 m_all 3952 f_all], [zAr T 0 m_posts 7 g_posts_6], [zAr T 0 m_shut 7 g_shut_7], [zAr T 0 m_here 7 g_here_8]] _ _ := G
  rcases hc_9 with ⟨rfl, h_11, h_12, h_13, h_14, h_15, h_16, h_17, h_18, h_19, h_20, h_21, h_22⟩ | ⟨rfl, h_23⟩
  · have h_11 : 0 ≤ l_.toInt := h_11
    have h_12 : l_.toInt ≤ 1 := h_12
    have h_13 : l_.toInt < (f_all 0).toInt := h_13
    have h_14 : j_z0_1.toInt = 610 + 51 * l_.toInt := h_14
    have h_15 : zML f_all j_z0_1 j_crossings_2 := h_15
    have h_16 : zMP g_posts_6 := h_16
    have h_17 : j_inns_3 = f_all (j_z0_1.toInt.toNat + 1) := h_17
    have h_18 : j_steps_4 = 0 := h_18
    have h_19 : j_done_5 = 0 := h_19
    have h_20 : (∀ j, j < 7 → g_posts_6 j = zPt f_all j_z0_1 (nI j)) := h_20
    have h_21 : (∀ j, j < 7 → g_shut_7 j = 0) := h_21
    have h_22 : (∀ j, j < 7 → g_here_8 j = zWk f_all j_z0_1 j) := h_22
    have hLx := h_15
    have hcr := hLx.cr
    have hzx := hLx.1
    have hPx := h_16
    refine lv_if_eq (tgt := 16) hx hb dX12_period_5 (by decide) (fun q => absurd q (by decide)) (fun _ => ?_)
    refine lv_aload_n hx hb dX12_period_8 rfl (lv_at hl 0 rfl) ?_
    refine lv_iload_n hx hb dX12_period_9 rfl (lv_at hl 2 rfl) ?_
    refine z_Vi (bc := [[zO11 mo m_all m_has i_size i_next i_where i_token i_number i_word i_wrong i_farCrossing m_read j_z0_1 j_crossings_2 j_inns_3 m_posts m_shut m_here j_steps_4 j_done_5 i_at i_gone m_was m_came m_seenAt m_rowWorth m_farBy m_used i_everywhere i_again0 i_d0 i_never i_firstCame i_longRun i_moved i_crowd i_l0 i_fitMany i_fitLeast i_fitMost m_fitPost m_fitEnd m_keptPosts i_x0]]) (br := [[zAr T 0 m_was 7 f_was], [zAr T 0 m_seenAt 16384 f_seenAt], [zAr T 0 m_all 3952 f_all], [zAr T 0 m_posts 7 g_posts_6], [zAr T 0 m_shut 7 g_shut_7], [zAr T 0 m_here 7 g_here_8]]) (As := [.int c_]) (rest := []) C G (c_m_isCrossing l T mo m_all m_has i_size i_next i_where i_token i_number i_word i_wrong i_farCrossing m_read j_z0_1 j_crossings_2 j_inns_3 m_posts m_shut m_here j_steps_4 j_done_5 i_at i_gone m_was m_came m_seenAt m_rowWorth m_farBy m_used i_everywhere i_again0 i_d0 i_never i_firstCame i_longRun i_moved i_crowd i_l0 i_fitMany i_fitLeast i_fitMost m_fitPost m_fitEnd m_keptPosts i_x0 c_ (by first | with_reducible assumption | with_reducible rfl | omega | assumption | rfl | decide)) (kV_RX12_187 C.2.2.2.2 (Nat.le_of_ble_eq_true rfl) (Nat.le_of_ble_eq_true rfl)) [2] [2] rfl rfl (ci := 11) (qc := (RX12, TX12, 43)) rfl rfl (List.mem_flatten.mpr ⟨_, List.mem_of_getElem? (i := 0) rfl, List.mem_cons_self⟩) rfl rfl hl.1 dX12_period_10 (Nat.le_of_ble_eq_true rfl) (Nat.le_of_ble_eq_true rfl) (fun r_25 b1 H locs hw G => ?_)
    refine zAn2 hw ?_
    intro hbs9 hc_24
    clear hw
    subst hbs9
    have G : zS T A s.heap s [[zAr T 0 m_was 7 f_was], [zAr T 0 m_seenAt 16384 f_seenAt], [zAr T 0 m_all 3952 f_all], [zAr T 0 m_posts 7 g_posts_6], [zAr T 0 m_shut 7 g_shut_7], [zAr T 0 m_here 7 g_here_8], [zO11 mo m_all m_has i_size i_next i_where i_token i_number i_word i_wrong i_farCrossing m_read j_z0_1 j_crossings_2 j_inns_3 m_posts m_shut m_here j_steps_4 j_done_5 i_at i_gone m_was m_came m_seenAt m_rowWorth m_farBy m_used i_everywhere i_again0 i_d0 i_never i_firstCame i_longRun i_moved i_crowd i_l0 i_fitMany i_fitLeast i_fitMost m_fitPost m_fitEnd m_keptPosts i_x0]] _ _ := G
    rcases hc_24 with ⟨rfl, h_26, h_27⟩ | ⟨rfl, h_28⟩
    · have h_26 : 0 ≤ c_.toInt := h_26
      have h_27 : c_.toInt < j_crossings_2.toInt := h_27
      refine lv_if_ne (tgt := 18) hx hb dX12_period_13 (by decide) (fun _ => ?_) (fun q => absurd q (by decide))
      refine lv_iconst (v := 0) hx hb dX12_period_18 (by decide) ?_
      refine lv_istore (lv' := [(4, .int 0), (0, .ref mo), (1, .int l_), (2, .int c_), (3, .int w_)]) hx hb dX12_period_19 hl (by decide) (zLvf_h rfl) (fun ls hl => ?_)
      refine z_lp2 (T := T) 21 (fun (i : Nat) (xseenAt : Nat → Int32) => [[zAr T 0 m_was 7 f_was], [zAr T 0 m_seenAt 16384 xseenAt], [zAr T 0 m_all 3952 f_all], [zAr T 0 m_posts 7 g_posts_6], [zAr T 0 m_shut 7 g_shut_7], [zAr T 0 m_here 7 g_here_8], [zO11 mo m_all m_has i_size i_next i_where i_token i_number i_word i_wrong i_farCrossing m_read j_z0_1 j_crossings_2 j_inns_3 m_posts m_shut m_here j_steps_4 j_done_5 i_at i_gone m_was m_came m_seenAt m_rowWorth m_farBy m_used i_everywhere i_again0 i_d0 i_never i_firstCame i_longRun i_moved i_crowd i_l0 i_fitMany i_fitLeast i_fitMost m_fitPost m_fitEnd m_keptPosts i_x0]]) (fun (i : Nat) (xseenAt : Nat → Int32) => [(4, .int (nI i)), (0, .ref mo), (1, .int l_), (2, .int c_), (3, .int w_)]) (fun (i : Nat) (xseenAt : Nat → Int32) => i ≤ 16384) (fun (i : Nat) (xseenAt : Nat → Int32) => 16384 - i) ?_ 0 f_seenAt (show 0 ≤ 16384 from by omega) G (lv_sub hl [0, 1, 2, 3, 4] rfl)
      intro i xseenAt hi ih_21 H locs ls G hl
      replace hi : i ≤ 16384 := hi
      replace G : zS T A s.heap s [[zAr T 0 m_was 7 f_was], [zAr T 0 m_seenAt 16384 xseenAt], [zAr T 0 m_all 3952 f_all], [zAr T 0 m_posts 7 g_posts_6], [zAr T 0 m_shut 7 g_shut_7], [zAr T 0 m_here 7 g_here_8], [zO11 mo m_all m_has i_size i_next i_where i_token i_number i_word i_wrong i_farCrossing m_read j_z0_1 j_crossings_2 j_inns_3 m_posts m_shut m_here j_steps_4 j_done_5 i_at i_gone m_was m_came m_seenAt m_rowWorth m_farBy m_used i_everywhere i_again0 i_d0 i_never i_firstCame i_longRun i_moved i_crowd i_l0 i_fitMany i_fitLeast i_fitMost m_fitPost m_fitEnd m_keptPosts i_x0]] _ _ := G
      replace hl : lv_has ls 6 [(4, .int (nI i)), (0, .ref mo), (1, .int l_), (2, .int c_), (3, .int w_)] := hl
      refine lv_iload hx hb dX12_period_21 (lv_at hl 0 rfl) ?_
      refine lv_sipush (v := 16384) hx hb dX12_period_23 (by decide) ?_
      refine lv_icmp_ge (tgt := 43) hx hb dX12_period_26 (by decide) (fun c_29 => ?_) (fun c_29 => ?_)
      · have c_29n : 16384 ≤ i := (nI_leI (a := 16384) (b := i) (by omega) (by omega)).mp c_29
        refine lv_aload_n hx hb dX12_period_43 rfl (lv_at hl 1 rfl) ?_
        refine z_get C G clX12 6 rfl 23 (by decide) m_fl_RX12_35 rfl dX12_period_44 ?_
        refine lv_aload_n hx hb dX12_period_47 rfl (lv_at hl 1 rfl) ?_
        refine z_Vi (bc := [[zO11 mo m_all m_has i_size i_next i_where i_token i_number i_word i_wrong i_farCrossing m_read j_z0_1 j_crossings_2 j_inns_3 m_posts m_shut m_here j_steps_4 j_done_5 i_at i_gone m_was m_came m_seenAt m_rowWorth m_farBy m_used i_everywhere i_again0 i_d0 i_never i_firstCame i_longRun i_moved i_crowd i_l0 i_fitMany i_fitLeast i_fitMost m_fitPost m_fitEnd m_keptPosts i_x0], [zAr T 0 m_posts 7 g_posts_6]]) (br := [[zAr T 0 m_was 7 f_was], [zAr T 0 m_seenAt 16384 xseenAt], [zAr T 0 m_all 3952 f_all], [zAr T 0 m_shut 7 g_shut_7], [zAr T 0 m_here 7 g_here_8]]) (As := []) (rest := [.ref m_seenAt]) C G (c_m_postsNow l T mo m_all m_has i_size i_next i_where i_token i_number i_word i_wrong i_farCrossing m_read j_z0_1 j_crossings_2 j_inns_3 m_posts m_shut m_here j_steps_4 j_done_5 i_at i_gone m_was m_came m_seenAt m_rowWorth m_farBy m_used i_everywhere i_again0 i_d0 i_never i_firstCame i_longRun i_moved i_crowd i_l0 i_fitMany i_fitLeast i_fitMost m_fitPost m_fitEnd m_keptPosts i_x0 g_posts_6 (by first | with_reducible assumption | with_reducible rfl | omega | assumption | rfl | decide) (by first | with_reducible assumption | with_reducible rfl | omega | assumption | rfl | decide)) (kV_RX12_220 C.2.2.2.2 (Nat.le_of_ble_eq_true rfl) (Nat.le_of_ble_eq_true rfl)) [6, 3] [3, 2] rfl rfl (ci := 11) (qc := (RX12, TX12, 43)) rfl rfl (List.mem_flatten.mpr ⟨_, List.mem_of_getElem? (i := 0) rfl, List.mem_cons_self⟩) rfl rfl hl.1 dX12_period_48 (Nat.le_of_ble_eq_true rfl) (Nat.le_of_ble_eq_true rfl) (fun r_32 b1 H locs hw G => ?_)
        refine zAn3 hw ?_
        intro hbs9 h_30 h_31
        clear hw
        subst hbs9
        have G : zS T A s.heap s [[zAr T 0 m_was 7 f_was], [zAr T 0 m_seenAt 16384 xseenAt], [zAr T 0 m_all 3952 f_all], [zAr T 0 m_shut 7 g_shut_7], [zAr T 0 m_here 7 g_here_8], [zO11 mo m_all m_has i_size i_next i_where i_token i_number i_word i_wrong i_farCrossing m_read j_z0_1 j_crossings_2 j_inns_3 m_posts m_shut m_here j_steps_4 j_done_5 i_at i_gone m_was m_came m_seenAt m_rowWorth m_farBy m_used i_everywhere i_again0 i_d0 i_never i_firstCame i_longRun i_moved i_crowd i_l0 i_fitMany i_fitLeast i_fitMost m_fitPost m_fitEnd m_keptPosts i_x0], [zAr T 0 m_posts 7 g_posts_6]] _ _ := G
        refine lv_iconst (v := 1) hx hb dX12_period_51 (by decide) ?_
        refine z_ist C G 1 rfl (vp_in_iff.mpr ⟨by omega, by omega⟩) dX12_period_52 (fun H locs G => ?_)
        have G : zS T A s.heap s [[zAr T 0 m_was 7 f_was], [zAr T 0 m_seenAt 16384 (upd xseenAt r_32.toNatClampNeg 1)], [zAr T 0 m_all 3952 f_all], [zAr T 0 m_shut 7 g_shut_7], [zAr T 0 m_here 7 g_here_8], [zO11 mo m_all m_has i_size i_next i_where i_token i_number i_word i_wrong i_farCrossing m_read j_z0_1 j_crossings_2 j_inns_3 m_posts m_shut m_here j_steps_4 j_done_5 i_at i_gone m_was m_came m_seenAt m_rowWorth m_farBy m_used i_everywhere i_again0 i_d0 i_never i_firstCame i_longRun i_moved i_crowd i_l0 i_fitMany i_fitLeast i_fitMost m_fitPost m_fitEnd m_keptPosts i_x0], [zAr T 0 m_posts 7 g_posts_6]] _ _ := G
        refine lv_iconst (v := 1) hx hb dX12_period_53 (by decide) ?_
        refine lv_istore (lv' := [(4, .int 1), (0, .ref mo), (1, .int l_), (2, .int c_), (3, .int w_)]) hx hb dX12_period_54 hl (by decide) (zLvf_h rfl) (fun ls hl => ?_)
        refine z_lp6 (T := T) 56 (fun (i : Nat) (xat : Int32) (xgone : Int32) (xposts : Nat → Int32) (xwas : Nat → Int32) (xseenAt : Nat → Int32) => [[zAr T 0 m_was 7 xwas], [zAr T 0 m_seenAt 16384 xseenAt], [zAr T 0 m_all 3952 f_all], [zAr T 0 m_shut 7 g_shut_7], [zAr T 0 m_here 7 g_here_8], [zO11 mo m_all m_has i_size i_next i_where i_token i_number i_word i_wrong i_farCrossing m_read j_z0_1 j_crossings_2 j_inns_3 m_posts m_shut m_here j_steps_4 j_done_5 xat xgone m_was m_came m_seenAt m_rowWorth m_farBy m_used i_everywhere i_again0 i_d0 i_never i_firstCame i_longRun i_moved i_crowd i_l0 i_fitMany i_fitLeast i_fitMost m_fitPost m_fitEnd m_keptPosts i_x0], [zAr T 0 m_posts 7 xposts]]) (fun (i : Nat) (xat : Int32) (xgone : Int32) (xposts : Nat → Int32) (xwas : Nat → Int32) (xseenAt : Nat → Int32) => [(4, .int (nI i)), (0, .ref mo), (1, .int l_), (2, .int c_), (3, .int w_)]) (fun (i : Nat) (xat : Int32) (xgone : Int32) (xposts : Nat → Int32) (xwas : Nat → Int32) (xseenAt : Nat → Int32) => i ≤ 1000 ∧ zMP xposts) (fun (i : Nat) (xat : Int32) (xgone : Int32) (xposts : Nat → Int32) (xwas : Nat → Int32) (xseenAt : Nat → Int32) => 1000 - i) ?_ 1 i_at i_gone g_posts_6 f_was (upd xseenAt r_32.toNatClampNeg 1) (show 1 ≤ 1000 ∧ zMP g_posts_6 from ⟨by omega, (by first | with_reducible assumption | assumption)⟩) G (lv_sub hl [0, 1, 2, 3, 4] rfl)
        intro i xat xgone xposts xwas xseenAt hI9 ih_56 H locs ls G hl
        replace hI9 : i ≤ 1000 ∧ zMP xposts := hI9
        refine zAn2 hI9 ?_
        intro hi hQ
        clear hI9
        replace G : zS T A s.heap s [[zAr T 0 m_was 7 xwas], [zAr T 0 m_seenAt 16384 xseenAt], [zAr T 0 m_all 3952 f_all], [zAr T 0 m_shut 7 g_shut_7], [zAr T 0 m_here 7 g_here_8], [zO11 mo m_all m_has i_size i_next i_where i_token i_number i_word i_wrong i_farCrossing m_read j_z0_1 j_crossings_2 j_inns_3 m_posts m_shut m_here j_steps_4 j_done_5 xat xgone m_was m_came m_seenAt m_rowWorth m_farBy m_used i_everywhere i_again0 i_d0 i_never i_firstCame i_longRun i_moved i_crowd i_l0 i_fitMany i_fitLeast i_fitMost m_fitPost m_fitEnd m_keptPosts i_x0], [zAr T 0 m_posts 7 xposts]] _ _ := G
        replace hl : lv_has ls 6 [(4, .int (nI i)), (0, .ref mo), (1, .int l_), (2, .int c_), (3, .int w_)] := hl
        refine lv_iload hx hb dX12_period_56 (lv_at hl 0 rfl) ?_
        refine lv_sipush (v := 1000) hx hb dX12_period_58 (by decide) ?_
        refine lv_icmp_ge (tgt := 124) hx hb dX12_period_61 (by decide) (fun c_33 => ?_) (fun c_33 => ?_)
        · have c_33n : 1000 ≤ i := (nI_leI (a := 1000) (b := i) (by omega) (by omega)).mp c_33
          refine lv_iconst (v := (-1)) hx hb dX12_period_124 (by decide) ?_
          have G := G.sub (bs' := [[zO11 mo m_all m_has i_size i_next i_where i_token i_number i_word i_wrong i_farCrossing m_read j_z0_1 j_crossings_2 j_inns_3 m_posts m_shut m_here j_steps_4 j_done_5 xat xgone m_was m_came m_seenAt m_rowWorth m_farBy m_used i_everywhere i_again0 i_d0 i_never i_firstCame i_longRun i_moved i_crowd i_l0 i_fitMany i_fitLeast i_fitMost m_fitPost m_fitEnd m_keptPosts i_x0], [zAr T 0 m_all 3952 f_all], [zAr T 0 m_posts 7 xposts], [zAr T 0 m_shut 7 g_shut_7], [zAr T 0 m_here 7 g_here_8], [zAr T 0 m_was 7 xwas], [zAr T 0 m_seenAt 16384 xseenAt]]) [5, 2, 6, 3, 4, 0, 1] rfl
          exact z_back hQz_ (z_iret C hr hlocks G (Nat.le_of_ble_eq_true rfl) (Nat.le_of_ble_eq_true rfl) dX12_period_125 ⟨j_z0_1, j_crossings_2, j_inns_3, j_steps_4, j_done_5, xat, xgone, xposts, g_shut_7, g_here_8, xwas, xseenAt, rfl⟩)
        · have c_33n : ¬ 1000 ≤ i := fun q => c_33 ((nI_leI (a := 1000) (b := i) (by omega) (by omega)).mpr q)
          refine lv_aload_n hx hb dX12_period_64 rfl (lv_at hl 1 rfl) ?_
          refine lv_iload_n hx hb dX12_period_65 rfl (lv_at hl 3 rfl) ?_
          refine z_Vi (bc := [[zO11 mo m_all m_has i_size i_next i_where i_token i_number i_word i_wrong i_farCrossing m_read j_z0_1 j_crossings_2 j_inns_3 m_posts m_shut m_here j_steps_4 j_done_5 xat xgone m_was m_came m_seenAt m_rowWorth m_farBy m_used i_everywhere i_again0 i_d0 i_never i_firstCame i_longRun i_moved i_crowd i_l0 i_fitMany i_fitLeast i_fitMost m_fitPost m_fitEnd m_keptPosts i_x0], [zAr T 0 m_all 3952 f_all], [zAr T 0 m_posts 7 xposts], [zAr T 0 m_shut 7 g_shut_7], [zAr T 0 m_was 7 xwas]]) (br := [[zAr T 0 m_seenAt 16384 xseenAt], [zAr T 0 m_here 7 g_here_8]]) (As := [.int c_]) (rest := []) C G (c_m_walks l T mo m_all m_has i_size i_next i_where i_token i_number i_word i_wrong i_farCrossing m_read j_z0_1 j_crossings_2 j_inns_3 m_posts m_shut m_here j_steps_4 j_done_5 xat xgone m_was m_came m_seenAt m_rowWorth m_farBy m_used i_everywhere i_again0 i_d0 i_never i_firstCame i_longRun i_moved i_crowd i_l0 i_fitMany i_fitLeast i_fitMost m_fitPost m_fitEnd m_keptPosts i_x0 f_all xposts g_shut_7 xwas c_ (by first | with_reducible assumption | with_reducible rfl | omega | assumption | rfl | decide) (by first | with_reducible assumption | with_reducible rfl | omega | assumption | rfl | decide) (by first | with_reducible assumption | with_reducible rfl | omega | assumption | rfl | decide) (by first | with_reducible assumption | with_reducible rfl | omega | assumption | rfl | decide)) (kV_RX12_217 C.2.2.2.2 (Nat.le_of_ble_eq_true rfl) (Nat.le_of_ble_eq_true rfl)) [5, 2, 6, 3, 0] [0, 1, 0, 1, 0] rfl rfl (ci := 11) (qc := (RX12, TX12, 43)) rfl rfl (List.mem_flatten.mpr ⟨_, List.mem_of_getElem? (i := 0) rfl, List.mem_cons_self⟩) rfl rfl hl.1 dX12_period_66 (Nat.le_of_ble_eq_true rfl) (Nat.le_of_ble_eq_true rfl) (fun r_44 b1 H locs hw G => ?_)
          refine zEx4 hw ?_
          intro j_at_34 j_gone_35 g_posts_36 g_was_37
          refine zCu7 ?_
          intro hbs9 h_38 h_39 h_40 h_41 h_42 h_43
          clear hw
          subst hbs9
          have G : zS T A s.heap s [[zAr T 0 m_seenAt 16384 xseenAt], [zAr T 0 m_here 7 g_here_8], [zO11 mo m_all m_has i_size i_next i_where i_token i_number i_word i_wrong i_farCrossing m_read j_z0_1 j_crossings_2 j_inns_3 m_posts m_shut m_here j_steps_4 j_done_5 j_at_34 j_gone_35 m_was m_came m_seenAt m_rowWorth m_farBy m_used i_everywhere i_again0 i_d0 i_never i_firstCame i_longRun i_moved i_crowd i_l0 i_fitMany i_fitLeast i_fitMost m_fitPost m_fitEnd m_keptPosts i_x0], [zAr T 0 m_all 3952 f_all], [zAr T 0 m_posts 7 g_posts_36], [zAr T 0 m_shut 7 g_shut_7], [zAr T 0 m_was 7 g_was_37]] _ _ := G
          replace h_38 : zHd ((r_44 = 0 ∨ r_44 = 1)) := h_38
          refine lv_pop hx hb dX12_period_69 rfl ?_
          refine lv_aload_n hx hb dX12_period_70 rfl (lv_at hl 1 rfl) ?_
          refine z_get C G clX12 2 rfl 23 (by decide) m_fl_RX12_35 rfl dX12_period_71 ?_
          refine lv_aload_n hx hb dX12_period_74 rfl (lv_at hl 1 rfl) ?_
          refine z_Vi (bc := [[zO11 mo m_all m_has i_size i_next i_where i_token i_number i_word i_wrong i_farCrossing m_read j_z0_1 j_crossings_2 j_inns_3 m_posts m_shut m_here j_steps_4 j_done_5 j_at_34 j_gone_35 m_was m_came m_seenAt m_rowWorth m_farBy m_used i_everywhere i_again0 i_d0 i_never i_firstCame i_longRun i_moved i_crowd i_l0 i_fitMany i_fitLeast i_fitMost m_fitPost m_fitEnd m_keptPosts i_x0], [zAr T 0 m_posts 7 g_posts_36]]) (br := [[zAr T 0 m_seenAt 16384 xseenAt], [zAr T 0 m_here 7 g_here_8], [zAr T 0 m_all 3952 f_all], [zAr T 0 m_shut 7 g_shut_7], [zAr T 0 m_was 7 g_was_37]]) (As := []) (rest := [.ref m_seenAt]) C G (c_m_postsNow l T mo m_all m_has i_size i_next i_where i_token i_number i_word i_wrong i_farCrossing m_read j_z0_1 j_crossings_2 j_inns_3 m_posts m_shut m_here j_steps_4 j_done_5 j_at_34 j_gone_35 m_was m_came m_seenAt m_rowWorth m_farBy m_used i_everywhere i_again0 i_d0 i_never i_firstCame i_longRun i_moved i_crowd i_l0 i_fitMany i_fitLeast i_fitMost m_fitPost m_fitEnd m_keptPosts i_x0 g_posts_36 (by first | with_reducible assumption | with_reducible rfl | omega | assumption | rfl | decide) (by first | with_reducible assumption | with_reducible rfl | omega | assumption | rfl | decide)) (kV_RX12_220 C.2.2.2.2 (Nat.le_of_ble_eq_true rfl) (Nat.le_of_ble_eq_true rfl)) [2, 4] [2, 1] rfl rfl (ci := 11) (qc := (RX12, TX12, 43)) rfl rfl (List.mem_flatten.mpr ⟨_, List.mem_of_getElem? (i := 0) rfl, List.mem_cons_self⟩) rfl rfl hl.1 dX12_period_75 (Nat.le_of_ble_eq_true rfl) (Nat.le_of_ble_eq_true rfl) (fun r_47 b1 H locs hw G => ?_)
          refine zAn3 hw ?_
          intro hbs9 h_45 h_46
          clear hw
          subst hbs9
          have G : zS T A s.heap s [[zAr T 0 m_seenAt 16384 xseenAt], [zAr T 0 m_here 7 g_here_8], [zAr T 0 m_all 3952 f_all], [zAr T 0 m_shut 7 g_shut_7], [zAr T 0 m_was 7 g_was_37], [zO11 mo m_all m_has i_size i_next i_where i_token i_number i_word i_wrong i_farCrossing m_read j_z0_1 j_crossings_2 j_inns_3 m_posts m_shut m_here j_steps_4 j_done_5 j_at_34 j_gone_35 m_was m_came m_seenAt m_rowWorth m_farBy m_used i_everywhere i_again0 i_d0 i_never i_firstCame i_longRun i_moved i_crowd i_l0 i_fitMany i_fitLeast i_fitMost m_fitPost m_fitEnd m_keptPosts i_x0], [zAr T 0 m_posts 7 g_posts_36]] _ _ := G
          refine z_ild C G 0 rfl (vp_in_iff.mpr ⟨by omega, by omega⟩) dX12_period_78 ?_
          refine lv_topi (fun v_48 ev_48 => ?_)
          subst ev_48
          refine lv_istore (lv' := [(5, .int (xseenAt r_47.toNatClampNeg)), (4, .int (nI i)), (0, .ref mo), (1, .int l_), (2, .int c_), (3, .int w_)]) hx hb dX12_period_79 hl (by decide) (zLvf_h rfl) (fun ls hl => ?_)
          refine lv_iload hx hb dX12_period_81 (lv_at hl 0 rfl) ?_
          refine lv_if_le (tgt := 105) hx hb dX12_period_83 (by decide) (fun c_49 => ?_) (fun c_49 => ?_)
          · have c_49n : (xseenAt r_47.toNatClampNeg).toInt ≤ (0 : Int) := (fa_le _ _).mp c_49
            refine lv_aload_n hx hb dX12_period_105 rfl (lv_at hl 2 rfl) ?_
            refine z_get C G clX12 5 rfl 23 (by decide) m_fl_RX12_35 rfl dX12_period_106 ?_
            refine lv_aload_n hx hb dX12_period_109 rfl (lv_at hl 2 rfl) ?_
            refine z_Vi (bc := [[zO11 mo m_all m_has i_size i_next i_where i_token i_number i_word i_wrong i_farCrossing m_read j_z0_1 j_crossings_2 j_inns_3 m_posts m_shut m_here j_steps_4 j_done_5 j_at_34 j_gone_35 m_was m_came m_seenAt m_rowWorth m_farBy m_used i_everywhere i_again0 i_d0 i_never i_firstCame i_longRun i_moved i_crowd i_l0 i_fitMany i_fitLeast i_fitMost m_fitPost m_fitEnd m_keptPosts i_x0], [zAr T 0 m_posts 7 g_posts_36]]) (br := [[zAr T 0 m_seenAt 16384 xseenAt], [zAr T 0 m_here 7 g_here_8], [zAr T 0 m_all 3952 f_all], [zAr T 0 m_shut 7 g_shut_7], [zAr T 0 m_was 7 g_was_37]]) (As := []) (rest := [.ref m_seenAt]) C G (c_m_postsNow l T mo m_all m_has i_size i_next i_where i_token i_number i_word i_wrong i_farCrossing m_read j_z0_1 j_crossings_2 j_inns_3 m_posts m_shut m_here j_steps_4 j_done_5 j_at_34 j_gone_35 m_was m_came m_seenAt m_rowWorth m_farBy m_used i_everywhere i_again0 i_d0 i_never i_firstCame i_longRun i_moved i_crowd i_l0 i_fitMany i_fitLeast i_fitMost m_fitPost m_fitEnd m_keptPosts i_x0 g_posts_36 (by first | with_reducible assumption | with_reducible rfl | omega | assumption | rfl | decide) (by first | with_reducible assumption | with_reducible rfl | omega | assumption | rfl | decide)) (kV_RX12_220 C.2.2.2.2 (Nat.le_of_ble_eq_true rfl) (Nat.le_of_ble_eq_true rfl)) [5, 6] [5, 0] rfl rfl (ci := 11) (qc := (RX12, TX12, 43)) rfl rfl (List.mem_flatten.mpr ⟨_, List.mem_of_getElem? (i := 0) rfl, List.mem_cons_self⟩) rfl rfl hl.1 dX12_period_110 (Nat.le_of_ble_eq_true rfl) (Nat.le_of_ble_eq_true rfl) (fun r_52 b1 H locs hw G => ?_)
            refine zAn3 hw ?_
            intro hbs9 h_50 h_51
            clear hw
            subst hbs9
            have G : zS T A s.heap s [[zAr T 0 m_seenAt 16384 xseenAt], [zAr T 0 m_here 7 g_here_8], [zAr T 0 m_all 3952 f_all], [zAr T 0 m_shut 7 g_shut_7], [zAr T 0 m_was 7 g_was_37], [zO11 mo m_all m_has i_size i_next i_where i_token i_number i_word i_wrong i_farCrossing m_read j_z0_1 j_crossings_2 j_inns_3 m_posts m_shut m_here j_steps_4 j_done_5 j_at_34 j_gone_35 m_was m_came m_seenAt m_rowWorth m_farBy m_used i_everywhere i_again0 i_d0 i_never i_firstCame i_longRun i_moved i_crowd i_l0 i_fitMany i_fitLeast i_fitMost m_fitPost m_fitEnd m_keptPosts i_x0], [zAr T 0 m_posts 7 g_posts_36]] _ _ := G
            refine lv_iload hx hb dX12_period_113 (lv_at hl 1 rfl) ?_
            refine lv_iconst (v := 1) hx hb dX12_period_115 (by decide) ?_
            refine lv_iadd hx hb dX12_period_116 ?_
            refine lv_topi (fun y_53 ey_53 => ?_)
            obtain rfl : y_53 = nI (i + 1) := ey_53.trans (z_iaddn i 1 rfl rfl)
            refine z_ist C G 0 rfl (vp_in_iff.mpr ⟨by omega, by omega⟩) dX12_period_117 (fun H locs G => ?_)
            have G : zS T A s.heap s [[zAr T 0 m_seenAt 16384 (upd xseenAt r_52.toNatClampNeg (nI (i + 1)))], [zAr T 0 m_here 7 g_here_8], [zAr T 0 m_all 3952 f_all], [zAr T 0 m_shut 7 g_shut_7], [zAr T 0 m_was 7 g_was_37], [zO11 mo m_all m_has i_size i_next i_where i_token i_number i_word i_wrong i_farCrossing m_read j_z0_1 j_crossings_2 j_inns_3 m_posts m_shut m_here j_steps_4 j_done_5 j_at_34 j_gone_35 m_was m_came m_seenAt m_rowWorth m_farBy m_used i_everywhere i_again0 i_d0 i_never i_firstCame i_longRun i_moved i_crowd i_l0 i_fitMany i_fitLeast i_fitMost m_fitPost m_fitEnd m_keptPosts i_x0], [zAr T 0 m_posts 7 g_posts_36]] _ _ := G
            refine lv_iinc (v := nI (i + 1)) (lv' := [(4, .int (nI (i + 1))), (5, .int (xseenAt r_47.toNatClampNeg)), (0, .ref mo), (1, .int l_), (2, .int c_), (3, .int w_)]) hx hb dX12_period_118 hl (k := 1) rfl (z_inc i 1) (by decide) (zLvf_h rfl) (fun ls hl => ?_)
            refine lv_goto (tgt := 56) hx hb dX12_period_121 (by decide) ?_
            have G := G.sub (bs' := [[zAr T 0 m_was 7 g_was_37], [zAr T 0 m_seenAt 16384 (upd xseenAt r_52.toNatClampNeg (nI (i + 1)))], [zAr T 0 m_all 3952 f_all], [zAr T 0 m_shut 7 g_shut_7], [zAr T 0 m_here 7 g_here_8], [zO11 mo m_all m_has i_size i_next i_where i_token i_number i_word i_wrong i_farCrossing m_read j_z0_1 j_crossings_2 j_inns_3 m_posts m_shut m_here j_steps_4 j_done_5 j_at_34 j_gone_35 m_was m_came m_seenAt m_rowWorth m_farBy m_used i_everywhere i_again0 i_d0 i_never i_firstCame i_longRun i_moved i_crowd i_l0 i_fitMany i_fitLeast i_fitMost m_fitPost m_fitEnd m_keptPosts i_x0], [zAr T 0 m_posts 7 g_posts_36]]) [4, 0, 2, 3, 1, 5, 6] rfl
            exact ih_56 (i + 1) j_at_34 j_gone_35 g_posts_36 g_was_37 (upd xseenAt r_52.toNatClampNeg (nI (i + 1))) (show (i + 1) ≤ 1000 ∧ zMP g_posts_36 from ⟨by omega, (by first | with_reducible assumption | assumption)⟩) (show 1000 - (i + 1) < 1000 - i from by omega) _ _ ls G (lv_sub hl [0, 2, 3, 4, 5] rfl)
          · have c_49n : ¬ (xseenAt r_47.toNatClampNeg).toInt ≤ (0 : Int) := fun q => c_49 ((fa_le _ _).mpr q)
            refine lv_iload_n hx hb dX12_period_86 rfl (lv_at hl 5 rfl) ?_
            refine lv_if_eq (tgt := 97) hx hb dX12_period_87 (by decide) (fun c_54 => ?_) (fun c_54 => ?_)
            · have c_54n : w_.toInt = (0 : Int) := (fa_eq _ _).mp c_54
              refine lv_iload hx hb dX12_period_97 (lv_at hl 1 rfl) ?_
              refine lv_iconst (v := 1) hx hb dX12_period_99 (by decide) ?_
              refine lv_iadd hx hb dX12_period_100 ?_
              refine lv_topi (fun y_55 ey_55 => ?_)
              obtain rfl : y_55 = nI (i + 1) := ey_55.trans (z_iaddn i 1 rfl rfl)
              refine lv_iload hx hb dX12_period_101 (lv_at hl 0 rfl) ?_
              refine lv_isub hx hb dX12_period_103 ?_
              have G := G.sub (bs' := [[zO11 mo m_all m_has i_size i_next i_where i_token i_number i_word i_wrong i_farCrossing m_read j_z0_1 j_crossings_2 j_inns_3 m_posts m_shut m_here j_steps_4 j_done_5 j_at_34 j_gone_35 m_was m_came m_seenAt m_rowWorth m_farBy m_used i_everywhere i_again0 i_d0 i_never i_firstCame i_longRun i_moved i_crowd i_l0 i_fitMany i_fitLeast i_fitMost m_fitPost m_fitEnd m_keptPosts i_x0], [zAr T 0 m_all 3952 f_all], [zAr T 0 m_posts 7 g_posts_36], [zAr T 0 m_shut 7 g_shut_7], [zAr T 0 m_here 7 g_here_8], [zAr T 0 m_was 7 g_was_37], [zAr T 0 m_seenAt 16384 xseenAt]]) [5, 2, 6, 3, 1, 4, 0] rfl
              exact z_back hQz_ (z_iret C hr hlocks G (Nat.le_of_ble_eq_true rfl) (Nat.le_of_ble_eq_true rfl) dX12_period_104 ⟨j_z0_1, j_crossings_2, j_inns_3, j_steps_4, j_done_5, j_at_34, j_gone_35, g_posts_36, g_shut_7, g_here_8, g_was_37, xseenAt, rfl⟩)
            · have c_54n : ¬ w_.toInt = (0 : Int) := fun q => c_54 ((fa_eq _ _).mpr q)
              refine lv_iload hx hb dX12_period_90 (lv_at hl 0 rfl) ?_
              refine lv_iconst (v := 1) hx hb dX12_period_92 (by decide) ?_
              refine lv_isub hx hb dX12_period_93 ?_
              refine lv_goto (tgt := 104) hx hb dX12_period_94 (by decide) ?_
              have G := G.sub (bs' := [[zO11 mo m_all m_has i_size i_next i_where i_token i_number i_word i_wrong i_farCrossing m_read j_z0_1 j_crossings_2 j_inns_3 m_posts m_shut m_here j_steps_4 j_done_5 j_at_34 j_gone_35 m_was m_came m_seenAt m_rowWorth m_farBy m_used i_everywhere i_again0 i_d0 i_never i_firstCame i_longRun i_moved i_crowd i_l0 i_fitMany i_fitLeast i_fitMost m_fitPost m_fitEnd m_keptPosts i_x0], [zAr T 0 m_all 3952 f_all], [zAr T 0 m_posts 7 g_posts_36], [zAr T 0 m_shut 7 g_shut_7], [zAr T 0 m_here 7 g_here_8], [zAr T 0 m_was 7 g_was_37], [zAr T 0 m_seenAt 16384 xseenAt]]) [5, 2, 6, 3, 1, 4, 0] rfl
              exact z_back hQz_ (z_iret C hr hlocks G (Nat.le_of_ble_eq_true rfl) (Nat.le_of_ble_eq_true rfl) dX12_period_104 ⟨j_z0_1, j_crossings_2, j_inns_3, j_steps_4, j_done_5, j_at_34, j_gone_35, g_posts_36, g_shut_7, g_here_8, g_was_37, xseenAt, rfl⟩)
      · have c_29n : ¬ 16384 ≤ i := fun q => c_29 ((nI_leI (a := 16384) (b := i) (by omega) (by omega)).mpr q)
        refine lv_aload_n hx hb dX12_period_29 rfl (lv_at hl 1 rfl) ?_
        refine z_get C G clX12 6 rfl 23 (by decide) m_fl_RX12_35 rfl dX12_period_30 ?_
        refine lv_iload hx hb dX12_period_33 (lv_at hl 0 rfl) ?_
        refine lv_iconst (v := 0) hx hb dX12_period_35 (by decide) ?_
        refine z_ist C G 1 rfl (vp_in_nI (by omega) (by decide)) dX12_period_36 (fun H locs G => ?_)
        rw [nI_clamp (by omega)] at G
        have G : zS T A s.heap s [[zAr T 0 m_was 7 f_was], [zAr T 0 m_seenAt 16384 (upd xseenAt i 0)], [zAr T 0 m_all 3952 f_all], [zAr T 0 m_posts 7 g_posts_6], [zAr T 0 m_shut 7 g_shut_7], [zAr T 0 m_here 7 g_here_8], [zO11 mo m_all m_has i_size i_next i_where i_token i_number i_word i_wrong i_farCrossing m_read j_z0_1 j_crossings_2 j_inns_3 m_posts m_shut m_here j_steps_4 j_done_5 i_at i_gone m_was m_came m_seenAt m_rowWorth m_farBy m_used i_everywhere i_again0 i_d0 i_never i_firstCame i_longRun i_moved i_crowd i_l0 i_fitMany i_fitLeast i_fitMost m_fitPost m_fitEnd m_keptPosts i_x0]] _ _ := G
        refine lv_iinc (v := nI (i + 1)) (lv' := [(4, .int (nI (i + 1))), (0, .ref mo), (1, .int l_), (2, .int c_), (3, .int w_)]) hx hb dX12_period_37 hl (k := 0) rfl (z_inc i 1) (by decide) (zLvf_h rfl) (fun ls hl => ?_)
        refine lv_goto (tgt := 21) hx hb dX12_period_40 (by decide) ?_
        exact ih_21 (i + 1) (upd xseenAt i 0) (show (i + 1) ≤ 16384 from by omega) (show 16384 - (i + 1) < 16384 - i from by omega) _ _ ls G (lv_sub hl [0, 1, 2, 3, 4] rfl)
    · have h_28 : (c_.toInt < 0 ∨ j_crossings_2.toInt ≤ c_.toInt) := h_28
      refine lv_if_ne (tgt := 18) hx hb dX12_period_13 (by decide) (fun q => absurd (by decide) q) (fun _ => ?_)
      refine lv_iconst (v := (-1)) hx hb dX12_period_16 (by decide) ?_
      have G := G.sub (bs' := [[zO11 mo m_all m_has i_size i_next i_where i_token i_number i_word i_wrong i_farCrossing m_read j_z0_1 j_crossings_2 j_inns_3 m_posts m_shut m_here j_steps_4 j_done_5 i_at i_gone m_was m_came m_seenAt m_rowWorth m_farBy m_used i_everywhere i_again0 i_d0 i_never i_firstCame i_longRun i_moved i_crowd i_l0 i_fitMany i_fitLeast i_fitMost m_fitPost m_fitEnd m_keptPosts i_x0], [zAr T 0 m_all 3952 f_all], [zAr T 0 m_posts 7 g_posts_6], [zAr T 0 m_shut 7 g_shut_7], [zAr T 0 m_here 7 g_here_8], [zAr T 0 m_was 7 f_was], [zAr T 0 m_seenAt 16384 f_seenAt]]) [6, 2, 3, 4, 5, 0, 1] rfl
      exact z_back hQz_ (z_iret C hr hlocks G (Nat.le_of_ble_eq_true rfl) (Nat.le_of_ble_eq_true rfl) dX12_period_17 ⟨j_z0_1, j_crossings_2, j_inns_3, j_steps_4, j_done_5, i_at, i_gone, g_posts_6, g_shut_7, g_here_8, f_was, f_seenAt, rfl⟩)
  · have h_23 : (l_.toInt < 0 ∨ (f_all 0).toInt ≤ l_.toInt) := h_23
    refine lv_if_eq (tgt := 16) hx hb dX12_period_5 (by decide) (fun _ => ?_) (fun q => absurd (by decide) q)
    refine lv_iconst (v := (-1)) hx hb dX12_period_16 (by decide) ?_
    have G := G.sub (bs' := [[zO11 mo m_all m_has i_size i_next i_where i_token i_number i_word i_wrong i_farCrossing m_read j_z0_1 j_crossings_2 j_inns_3 m_posts m_shut m_here j_steps_4 j_done_5 i_at i_gone m_was m_came m_seenAt m_rowWorth m_farBy m_used i_everywhere i_again0 i_d0 i_never i_firstCame i_longRun i_moved i_crowd i_l0 i_fitMany i_fitLeast i_fitMost m_fitPost m_fitEnd m_keptPosts i_x0], [zAr T 0 m_all 3952 f_all], [zAr T 0 m_posts 7 g_posts_6], [zAr T 0 m_shut 7 g_shut_7], [zAr T 0 m_here 7 g_here_8], [zAr T 0 m_was 7 f_was], [zAr T 0 m_seenAt 16384 f_seenAt]]) [2, 3, 4, 5, 6, 0, 1] rfl
    exact z_back hQz_ (z_iret C hr hlocks G (Nat.le_of_ble_eq_true rfl) (Nat.le_of_ble_eq_true rfl) dX12_period_17 ⟨j_z0_1, j_crossings_2, j_inns_3, j_steps_4, j_done_5, i_at, i_gone, g_posts_6, g_shut_7, g_here_8, f_was, f_seenAt, rfl⟩)

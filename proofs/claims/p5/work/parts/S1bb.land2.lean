theorem zDv {x : Int32} (h : 0 ≤ x.toInt) : (x / 10).toInt = x.toInt / 10 := by
  rw [Int32.toInt_div_of_ne_right x 10 (by decide)]
  exact Int.tdiv_eq_ediv_of_nonneg h
theorem zDvN {x : Int32} (h : x.toInt < 0) : (x / 10).toInt < 1 := by
  have e0 : (-x.toInt).tdiv (10 : Int32).toInt = -x.toInt / 10 := Int.tdiv_eq_ediv_of_nonneg (by omega)
  have e1 : (-x.toInt).tdiv (10 : Int32).toInt = -(x.toInt.tdiv (10 : Int32).toInt) := Int.neg_tdiv _ _
  rw [Int32.toInt_div_of_ne_right x 10 (by decide)]
  omega
theorem zRm {x : Int32} (h : 0 ≤ x.toInt) : (x - x / 10 * 10).toInt = x.toInt % 10 := by
  rw [rem_toInt, Int.tmod_eq_emod_of_nonneg h]
  rfl
/-- what Land.told says, in the land's own rows -/
def zLt (cr inn : Int32) (f1 f2 f3 f4 : Nat → Int32) (w : Int32) : Int32 := if w.toInt = 0 then cr else if w.toInt = 1 then inn else if 100 ≤ w.toInt then zTarget cr f1 f2 ((w - 100) / 10) ((w - 100) - (w - 100) / 10 * 10) else if 0 ≤ (w - w / 10 * 10).toInt ∧ (w - w / 10 * 10).toInt < cr.toInt ∧ (w - w / 10 * 10).toInt < 7 then (if (w / 10).toInt = 1 then f1 (w - w / 10 * 10).toNatClampNeg else if (w / 10).toInt = 2 then f3 (w - w / 10 * 10).toNatClampNeg else if (w / 10).toInt = 3 then f4 (w - w / 10 * 10).toNatClampNeg else -1) else -1
section ZLT
variable {cr inn w : Int32} {f1 f2 f3 f4 : Nat → Int32}
theorem zLt_0 (h : w.toInt = 0) : cr = zLt cr inn f1 f2 f3 f4 w := (if_pos h).symm
theorem zLt_1 (h : w.toInt = 1) : inn = zLt cr inn f1 f2 f3 f4 w := by
  unfold zLt
  rw [if_neg (by omega), if_pos h]
theorem zLt_t (h : 100 ≤ w.toInt) : zTarget cr f1 f2 ((w - 100) / 10) ((w - 100) - (w - 100) / 10 * 10) = zLt cr inn f1 f2 f3 f4 w := by
  unfold zLt
  rw [if_neg (by omega), if_neg (by omega), if_pos h]
theorem zLt_n (h : ¬ w.toInt = 0 ∧ ¬ w.toInt = 1 ∧ w.toInt < 100) (q : (((w - w / 10 * 10).toInt < 0 ∨ cr.toInt ≤ (w - w / 10 * 10).toInt ∨ 7 ≤ (w - w / 10 * 10).toInt) ∨ (w / 10).toInt < 1 ∨ 3 < (w / 10).toInt)) : -1 = zLt cr inn f1 f2 f3 f4 w := by
  unfold zLt
  rw [if_neg h.1, if_neg h.2.1, if_neg (by omega)]
  split
  · rw [if_neg (by omega), if_neg (by omega), if_neg (by omega)]
  · rfl
theorem zLt_v1 (h : ¬ w.toInt = 0 ∧ ¬ w.toInt = 1 ∧ w.toInt < 100) (q : 0 ≤ (w - w / 10 * 10).toInt ∧ (w - w / 10 * 10).toInt < cr.toInt ∧ (w - w / 10 * 10).toInt < 7) (e : (w / 10).toInt = 1) : f1 (w - w / 10 * 10).toNatClampNeg = zLt cr inn f1 f2 f3 f4 w := by
  unfold zLt
  rw [if_neg h.1, if_neg h.2.1, if_neg (by omega), if_pos q, if_pos e]
theorem zLt_v2 (h : ¬ w.toInt = 0 ∧ ¬ w.toInt = 1 ∧ w.toInt < 100) (q : 0 ≤ (w - w / 10 * 10).toInt ∧ (w - w / 10 * 10).toInt < cr.toInt ∧ (w - w / 10 * 10).toInt < 7) (e : (w / 10).toInt = 2) : f3 (w - w / 10 * 10).toNatClampNeg = zLt cr inn f1 f2 f3 f4 w := by
  unfold zLt
  rw [if_neg h.1, if_neg h.2.1, if_neg (by omega), if_pos q, if_neg (by omega), if_pos e]
theorem zLt_v3 (h : ¬ w.toInt = 0 ∧ ¬ w.toInt = 1 ∧ w.toInt < 100) (q : 0 ≤ (w - w / 10 * 10).toInt ∧ (w - w / 10 * 10).toInt < cr.toInt ∧ (w - w / 10 * 10).toInt < 7) (e : (w / 10).toInt = 3) : f4 (w - w / 10 * 10).toNatClampNeg = zLt cr inn f1 f2 f3 f4 w := by
  unfold zLt
  rw [if_neg h.1, if_neg h.2.1, if_neg (by omega), if_pos q, if_neg (by omega), if_neg (by omega), if_pos e]
end ZLT
/-- the same of the record of all, from its place B -/
def pLt (f : Nat → Int32) (B : Nat) (w : Int32) : Int32 := if w.toInt < 0 then -1 else if w.toInt < 2 then f (B + w.toInt.toNat) else if 100 ≤ w.toInt then (if w.toInt / 10 - 10 < (f B).toInt ∧ w.toInt % 10 < (f (B + (2 + (w.toInt / 10 - 10).toNat))).toInt then f (B + (23 + 4 * (w.toInt / 10 - 10).toNat + (w.toInt % 10).toNat)) else -1) else if 10 ≤ w.toInt ∧ w.toInt < 40 ∧ w.toInt % 10 < (f B).toInt then (if w.toInt < 20 then f (B + (2 + (w.toInt % 10).toNat)) else if w.toInt < 30 then f (B + (9 + (w.toInt % 10).toNat)) else f (B + (16 + (w.toInt % 10).toNat))) else -1
section PLT
variable {f : Nat → Int32} {B i : Nat} {w : Int32}
theorem pLt_m (h : w.toInt < 0) : -1 = pLt f B w := (if_pos h).symm
theorem pLt_a (h : 0 ≤ w.toInt ∧ w.toInt < 2) (e : (i : Int) = (B : Int) + w.toInt) : f i = pLt f B w := by
  unfold pLt
  rw [if_neg (by omega), if_pos h.2]
  exact congrArg f (by omega)
theorem pLt_b (h : 100 ≤ w.toInt) (q : w.toInt / 10 - 10 < (f B).toInt ∧ w.toInt % 10 < (f (B + (2 + (w.toInt / 10 - 10).toNat))).toInt) (e : (i : Int) = (B : Int) + 23 + 4 * (w.toInt / 10 - 10) + w.toInt % 10) : f i = pLt f B w := by
  unfold pLt
  rw [if_neg (by omega), if_neg (by omega), if_pos h, if_pos q]
  exact congrArg f (by omega)
theorem pLt_bn (h : 100 ≤ w.toInt) (q : ¬ (w.toInt / 10 - 10 < (f B).toInt ∧ w.toInt % 10 < (f (B + (2 + (w.toInt / 10 - 10).toNat))).toInt)) : -1 = pLt f B w := by
  unfold pLt
  rw [if_neg (by omega), if_neg (by omega), if_pos h, if_neg q]
theorem pLt_c1 (h : 10 ≤ w.toInt ∧ w.toInt < 20 ∧ w.toInt % 10 < (f B).toInt) (e : (i : Int) = (B : Int) + 2 + w.toInt % 10) : f i = pLt f B w := by
  unfold pLt
  rw [if_neg (by omega), if_neg (by omega), if_neg (by omega), if_pos ⟨h.1, by omega, h.2.2⟩, if_pos h.2.1]
  exact congrArg f (by omega)
theorem pLt_c2 (h : 20 ≤ w.toInt ∧ w.toInt < 30 ∧ w.toInt % 10 < (f B).toInt) (e : (i : Int) = (B : Int) + 9 + w.toInt % 10) : f i = pLt f B w := by
  unfold pLt
  rw [if_neg (by omega), if_neg (by omega), if_neg (by omega), if_pos ⟨by omega, by omega, h.2.2⟩, if_neg (by omega), if_pos h.2.1]
  exact congrArg f (by omega)
theorem pLt_c3 (h : 30 ≤ w.toInt ∧ w.toInt < 40 ∧ w.toInt % 10 < (f B).toInt) (e : (i : Int) = (B : Int) + 16 + w.toInt % 10) : f i = pLt f B w := by
  unfold pLt
  rw [if_neg (by omega), if_neg (by omega), if_neg (by omega), if_pos ⟨by omega, by omega, h.2.2⟩, if_neg (by omega), if_neg (by omega)]
  exact congrArg f (by omega)
theorem pLt_cn (h : 2 ≤ w.toInt ∧ w.toInt < 100) (q : w.toInt < 10 ∨ 39 < w.toInt ∨ (f B).toInt ≤ w.toInt % 10) : -1 = pLt f B w := by
  unfold pLt
  rw [if_neg (by omega), if_neg (by omega), if_neg (by omega), if_neg (by omega)]
end PLT
theorem zLt_e {cr inn w : Int32} {k1 k2 k3 k4 f : Nat → Int32} {B : Nat} (h : zLnd cr inn k1 k2 k3 k4 (fun j => f (B + j))) (hb : ∀ c, c < 7 → (f (B + (2 + c))).toInt ≤ 4) : zLt cr inn k1 k2 k3 k4 w = pLt f B w := by
  obtain ⟨ha, hab, hi, hd, -, hr⟩ := h
  have ha : cr = f B := ha
  have hab : 0 ≤ (f B).toInt ∧ (f B).toInt ≤ 7 := hab
  have hi : inn = f (B + 1) := hi
  have hd : ∀ j : Nat, j < 7 → k1 j = f (B + (2 + j)) ∧ k3 j = f (B + (9 + j)) ∧ k4 j = f (B + (16 + j)) := hd
  have hr : ∀ j r : Nat, j < 7 → r < 4 → (r : Int) < (k1 j).toInt → k2 (4 * j + r) = f (B + (23 + 4 * j + r)) := hr
  by_cases q0 : w.toInt = 0
  · exact (zLt_0 q0).symm.trans (ha.trans (pLt_a (by omega) (by omega)))
  by_cases q1 : w.toInt = 1
  · exact (zLt_1 q1).symm.trans (hi.trans (pLt_a (by omega) (by omega)))
  by_cases qn : w.toInt < 0
  · exact (zLt_n ⟨q0, q1, by omega⟩ (Or.inr (Or.inl (zDvN qn)))).symm.trans (pLt_m qn)
  have hcr : cr.toInt = (f B).toInt := by rw [ha]
  by_cases q2 : 100 ≤ w.toInt
  · have e1 : (w - 100).toInt = w.toInt - 100 := z_isubI (by show -2147483648 ≤ w.toInt - 100; omega) (by have hw := Int32.toInt_lt w; show w.toInt - 100 < 2147483648; omega)
    have e2 := zDv (x := w - 100) (by omega)
    have e3 := zRm (x := w - 100) (by omega)
    refine (zLt_t q2).symm.trans ?_
    unfold zTarget
    have e4 := z_clI (x := (w - 100) / 10) (by omega)
    have e5 := z_clI (x := (w - 100) - (w - 100) / 10 * 10) (by omega)
    have e6 : ((w - 100) / 10).toNatClampNeg = (w.toInt / 10 - 10).toNat := by omega
    have e7 : ((w - 100) - (w - 100) / 10 * 10).toNatClampNeg = (w.toInt % 10).toNat := by omega
    by_cases q : w.toInt / 10 - 10 < (f B).toInt ∧ w.toInt % 10 < (f (B + (2 + (w.toInt / 10 - 10).toNat))).toInt
    · have hc : (w.toInt / 10 - 10).toNat < 7 := by omega
      have hk := (hd _ hc).1
      have hb4 := hb _ hc
      have hm : (w.toInt % 10).toNat < 4 := by omega
      rw [if_pos (by rw [e6, hk]; omega), e6, e7, hr _ _ hc hm (by rw [hk]; omega)]
      exact pLt_b q2 q (by omega)
    · rw [if_neg (fun z => by
        obtain ⟨z1, z2, z3, z4, z5, -⟩ := z
        rw [e6, (hd _ (by omega)).1] at z5
        exact q ⟨by omega, by omega⟩)]
      exact pLt_bn q2 q
  have e2 := zDv (x := w) (by omega)
  have e3 := zRm (x := w) (by omega)
  by_cases q3 : w.toInt < 10 ∨ 39 < w.toInt ∨ (f B).toInt ≤ w.toInt % 10
  · exact (zLt_n ⟨q0, q1, by omega⟩ (by omega)).symm.trans (pLt_cn (by omega) q3)
  have e4 := z_clI (x := w - w / 10 * 10) (by omega)
  have hv := hd (w - w / 10 * 10).toNatClampNeg (by omega)
  rcases (show (w / 10).toInt = 1 ∨ (w / 10).toInt = 2 ∨ (w / 10).toInt = 3 by omega) with q | q | q
  · exact (zLt_v1 ⟨q0, q1, by omega⟩ (by omega) q).symm.trans (hv.1.trans (pLt_c1 (by omega) (by omega)))
  · exact (zLt_v2 ⟨q0, q1, by omega⟩ (by omega) q).symm.trans (hv.2.1.trans (pLt_c2 (by omega) (by omega)))
  · exact (zLt_v3 ⟨q0, q1, by omega⟩ (by omega) q).symm.trans (hv.2.2.trans (pLt_c3 (by omega) (by omega)))
set_option maxHeartbeats 4000000 in
set_option maxRecDepth 100000 in
/-- Land.told -/
theorem c_f_Land_told (l : Launch) (T : zTy) (h : Nat) (cr : Int32) (inn : Int32) (f1 : Nat → Int32) (f2 : Nat → Int32) (f3 : Nat → Int32) (f4 : Nat → Int32) (w : va_W) (x : Int32) (hw : bLand T h cr inn f1 f2 f3 f4 w) : zMi l T yX4_told cX4_told 3 (some .int) 3 0 0 [.ref h, .int x] [w] (fun (r : Int32) bs => bs = [w] ∧ r = zLt cr inn f1 f2 f3 f4 x) := by
  refine zMi_of (own := RX4) (by decide) rfl (Nat.le_of_ble_eq_true rfl) ?_
  intro p e s m args below meth c A ls C hr hlocks hnm hAe G hl
  have hx := C.1
  have hb := C.2.1
  have hl : lv_has ls 3 [(0, .ref h), (1, .int x)] := hl
  refine lv_iload_n hx hb dX4_told_0 rfl (lv_at hl 1 rfl) ?_
  refine lv_if_ne (tgt := 9) hx hb dX4_told_1 (by decide) (fun c_1 => ?_) (fun c_1 => ?_)
  · have c_1n : ¬ x.toInt = (0 : Int) := fun q => c_1 ((fa_eq _ _).mpr q)
    refine lv_iload_n hx hb dX4_told_9 rfl (lv_at hl 1 rfl) ?_
    refine lv_iconst (v := 1) hx hb dX4_told_10 (by decide) ?_
    refine lv_icmp_ne (tgt := 19) hx hb dX4_told_11 (by decide) (fun c_2 => ?_) (fun c_2 => ?_)
    · have c_2n : ¬ x.toInt = (1 : Int) := fun q => c_2 ((fa_eq _ _).mpr q)
      refine lv_iload_n hx hb dX4_told_19 rfl (lv_at hl 1 rfl) ?_
      refine lv_bipush (v := 100) hx hb dX4_told_20 (by decide) ?_
      refine lv_icmp_lt (tgt := 44) hx hb dX4_told_22 (by decide) (fun c_3 => ?_) (fun c_3 => ?_)
      · have c_3n : x.toInt < (100 : Int) := (fa_lt _ _).mp c_3
        refine lv_iload_n hx hb dX4_told_44 rfl (lv_at hl 1 rfl) ?_
        refine lv_bipush (v := 10) hx hb dX4_told_45 (by decide) ?_
        refine lv_irem hx hb dX4_told_47 (by decide) ?_
        refine lv_istore_n (lv' := [(2, .int (x - x / 10 * 10)), (0, .ref h), (1, .int x)]) hx hb dX4_told_48 rfl hl (by decide) rfl (fun ls hl => ?_)
        refine lv_aload_n hx hb dX4_told_49 rfl (lv_at hl 1 rfl) ?_
        refine lv_iload_n hx hb dX4_told_50 rfl (lv_at hl 0 rfl) ?_
        refine z_Vi (bc := [w]) (br := []) (As := [.int (x - x / 10 * 10)]) (rest := []) C G (c_has l T h cr inn f1 f2 f3 f4 w (x - x / 10 * 10) hw) (kV_RX4_31 C.2.2.2.2 (Nat.le_of_ble_eq_true rfl) (Nat.le_of_ble_eq_true rfl)) [0] [] rfl rfl (ci := 4) (qc := (RX4, TX4, 6)) rfl rfl (List.mem_flatten.mpr ⟨_, List.mem_of_getElem? (i := 0) rfl, (bLand_mem hw).choose_spec⟩) rfl rfl hl.1 dX4_told_51 (Nat.le_of_ble_eq_true rfl) (Nat.le_of_ble_eq_true rfl) (fun r_5 b1 H locs hw G => ?_)
        obtain ⟨rfl, hc_4⟩ := hw
        have G : zS T A s.heap s [w] _ _ := G
        rcases hc_4 with ⟨rfl, h_6, h_7, h_8⟩ | ⟨rfl, h_9⟩
        · have h_6 : 0 ≤ (x - x / 10 * 10).toInt := h_6
          have h_7 : (x - x / 10 * 10).toInt < cr.toInt := h_7
          have h_8 : (x - x / 10 * 10).toInt < 7 := h_8
          refine lv_if_ne (tgt := 59) hx hb dX4_told_54 (by decide) (fun _ => ?_) (fun q => absurd q (by decide))
          refine lv_iload_n hx hb dX4_told_59 rfl (lv_at hl 2 rfl) ?_
          refine lv_bipush (v := 10) hx hb dX4_told_60 (by decide) ?_
          refine lv_idiv hx hb dX4_told_62 (by decide) ?_
          by_cases c_10o : (x / 10).toInt < 1 ∨ 3 < (x / 10).toInt
          · refine lv_tableOut (tgt := 109) hx hb dX4_told_63 c_10o (by decide) ?_
            refine lv_iconst (v := (-1)) hx hb dX4_told_109 (by decide) ?_
            exact z_iret C hr hlocks G (Nat.le_of_ble_eq_true rfl) (Nat.le_of_ble_eq_true rfl) dX4_told_110 ⟨rfl, (zLt_n (by omega) (by omega))⟩
          · have c_10r : (x / 10).toInt = 1 ∨ (x / 10).toInt = 2 ∨ (x / 10).toInt = 3 := by omega
            rcases c_10r with c_10 | c_10 | c_10
            · refine lv_tableIn (tgt := 88) hx hb dX4_told_63 (by omega) (by omega) (by rw [c_10]; rfl) (by decide) ?_
              refine lv_aload_n hx hb dX4_told_88 rfl (lv_at hl 1 rfl) ?_
              obtain ⟨a1_11, a2_12, a3_13, a4_14, rfl⟩ := hw
              have G : zS T A s.heap s [[(h, .inr (4, [.int cr, .int inn, .ref a1_11, .ref a2_12, .ref a3_13, .ref a4_14]))], [(a1_11, .inl (T.2 0, 7, .inl f1))], [(a2_12, .inl (T.2 0, 28, .inl f2))], [(a3_13, .inl (T.2 0, 7, .inl f3))], [(a4_14, .inl (T.2 0, 7, .inl f4))]] _ _ := G.re rfl
              refine z_get C G clX4 0 rfl 2 (by decide) m_fl_RX4_9 rfl dX4_told_89 ?_
              refine lv_iload_n hx hb dX4_told_92 rfl (lv_at hl 0 rfl) ?_
              refine z_ild C G 1 rfl (vp_in_iff.mpr ⟨by omega, by omega⟩) dX4_told_93 ?_
              refine lv_topi (fun v_15 ev_15 => ?_)
              subst ev_15
              have hw_16 : bLand T h cr inn f1 f2 f3 f4 [(h, .inr (4, [.int cr, .int inn, .ref a1_11, .ref a2_12, .ref a3_13, .ref a4_14])), (a1_11, .inl (T.2 0, 7, .inl f1)), (a2_12, .inl (T.2 0, 28, .inl f2)), (a3_13, .inl (T.2 0, 7, .inl f3)), (a4_14, .inl (T.2 0, 7, .inl f4))] := ⟨a1_11, a2_12, a3_13, a4_14, rfl⟩
              have G : zS T A s.heap s [[(h, .inr (4, [.int cr, .int inn, .ref a1_11, .ref a2_12, .ref a3_13, .ref a4_14])), (a1_11, .inl (T.2 0, 7, .inl f1)), (a2_12, .inl (T.2 0, 28, .inl f2)), (a3_13, .inl (T.2 0, 7, .inl f3)), (a4_14, .inl (T.2 0, 7, .inl f4))]] _ _ := G.re rfl
              exact z_iret C hr hlocks G (Nat.le_of_ble_eq_true rfl) (Nat.le_of_ble_eq_true rfl) dX4_told_94 ⟨rfl, (zLt_v1 (by omega) (by omega) (by assumption))⟩
            · refine lv_tableIn (tgt := 95) hx hb dX4_told_63 (by omega) (by omega) (by rw [c_10]; rfl) (by decide) ?_
              refine lv_aload_n hx hb dX4_told_95 rfl (lv_at hl 1 rfl) ?_
              obtain ⟨a1_17, a2_18, a3_19, a4_20, rfl⟩ := hw
              have G : zS T A s.heap s [[(h, .inr (4, [.int cr, .int inn, .ref a1_17, .ref a2_18, .ref a3_19, .ref a4_20]))], [(a1_17, .inl (T.2 0, 7, .inl f1))], [(a2_18, .inl (T.2 0, 28, .inl f2))], [(a3_19, .inl (T.2 0, 7, .inl f3))], [(a4_20, .inl (T.2 0, 7, .inl f4))]] _ _ := G.re rfl
              refine z_get C G clX4 0 rfl 4 (by decide) m_fl_RX4_18 rfl dX4_told_96 ?_
              refine lv_iload_n hx hb dX4_told_99 rfl (lv_at hl 0 rfl) ?_
              refine z_ild C G 3 rfl (vp_in_iff.mpr ⟨by omega, by omega⟩) dX4_told_100 ?_
              refine lv_topi (fun v_21 ev_21 => ?_)
              subst ev_21
              have hw_22 : bLand T h cr inn f1 f2 f3 f4 [(h, .inr (4, [.int cr, .int inn, .ref a1_17, .ref a2_18, .ref a3_19, .ref a4_20])), (a1_17, .inl (T.2 0, 7, .inl f1)), (a2_18, .inl (T.2 0, 28, .inl f2)), (a3_19, .inl (T.2 0, 7, .inl f3)), (a4_20, .inl (T.2 0, 7, .inl f4))] := ⟨a1_17, a2_18, a3_19, a4_20, rfl⟩
              have G : zS T A s.heap s [[(h, .inr (4, [.int cr, .int inn, .ref a1_17, .ref a2_18, .ref a3_19, .ref a4_20])), (a1_17, .inl (T.2 0, 7, .inl f1)), (a2_18, .inl (T.2 0, 28, .inl f2)), (a3_19, .inl (T.2 0, 7, .inl f3)), (a4_20, .inl (T.2 0, 7, .inl f4))]] _ _ := G.re rfl
              exact z_iret C hr hlocks G (Nat.le_of_ble_eq_true rfl) (Nat.le_of_ble_eq_true rfl) dX4_told_101 ⟨rfl, (zLt_v2 (by omega) (by omega) (by assumption))⟩
            · refine lv_tableIn (tgt := 102) hx hb dX4_told_63 (by omega) (by omega) (by rw [c_10]; rfl) (by decide) ?_
              refine lv_aload_n hx hb dX4_told_102 rfl (lv_at hl 1 rfl) ?_
              obtain ⟨a1_23, a2_24, a3_25, a4_26, rfl⟩ := hw
              have G : zS T A s.heap s [[(h, .inr (4, [.int cr, .int inn, .ref a1_23, .ref a2_24, .ref a3_25, .ref a4_26]))], [(a1_23, .inl (T.2 0, 7, .inl f1))], [(a2_24, .inl (T.2 0, 28, .inl f2))], [(a3_25, .inl (T.2 0, 7, .inl f3))], [(a4_26, .inl (T.2 0, 7, .inl f4))]] _ _ := G.re rfl
              refine z_get C G clX4 0 rfl 5 (by decide) m_fl_RX4_21 rfl dX4_told_103 ?_
              refine lv_iload_n hx hb dX4_told_106 rfl (lv_at hl 0 rfl) ?_
              refine z_ild C G 4 rfl (vp_in_iff.mpr ⟨by omega, by omega⟩) dX4_told_107 ?_
              refine lv_topi (fun v_27 ev_27 => ?_)
              subst ev_27
              have hw_28 : bLand T h cr inn f1 f2 f3 f4 [(h, .inr (4, [.int cr, .int inn, .ref a1_23, .ref a2_24, .ref a3_25, .ref a4_26])), (a1_23, .inl (T.2 0, 7, .inl f1)), (a2_24, .inl (T.2 0, 28, .inl f2)), (a3_25, .inl (T.2 0, 7, .inl f3)), (a4_26, .inl (T.2 0, 7, .inl f4))] := ⟨a1_23, a2_24, a3_25, a4_26, rfl⟩
              have G : zS T A s.heap s [[(h, .inr (4, [.int cr, .int inn, .ref a1_23, .ref a2_24, .ref a3_25, .ref a4_26])), (a1_23, .inl (T.2 0, 7, .inl f1)), (a2_24, .inl (T.2 0, 28, .inl f2)), (a3_25, .inl (T.2 0, 7, .inl f3)), (a4_26, .inl (T.2 0, 7, .inl f4))]] _ _ := G.re rfl
              exact z_iret C hr hlocks G (Nat.le_of_ble_eq_true rfl) (Nat.le_of_ble_eq_true rfl) dX4_told_108 ⟨rfl, (zLt_v3 (by omega) (by omega) (by assumption))⟩
        · have h_9 : ((x - x / 10 * 10).toInt < 0 ∨ cr.toInt ≤ (x - x / 10 * 10).toInt ∨ 7 ≤ (x - x / 10 * 10).toInt) := h_9
          refine lv_if_ne (tgt := 59) hx hb dX4_told_54 (by decide) (fun q => absurd (by decide) q) (fun _ => ?_)
          refine lv_iconst (v := (-1)) hx hb dX4_told_57 (by decide) ?_
          exact z_iret C hr hlocks G (Nat.le_of_ble_eq_true rfl) (Nat.le_of_ble_eq_true rfl) dX4_told_58 ⟨rfl, (zLt_n (by omega) (by omega))⟩
      · have c_3n : ¬ x.toInt < (100 : Int) := fun q => c_3 ((fa_lt _ _).mpr q)
        refine lv_aload_n hx hb dX4_told_25 rfl (lv_at hl 0 rfl) ?_
        refine lv_iload_n hx hb dX4_told_26 rfl (lv_at hl 1 rfl) ?_
        refine lv_bipush (v := 100) hx hb dX4_told_27 (by decide) ?_
        refine lv_isub hx hb dX4_told_29 ?_
        refine lv_bipush (v := 10) hx hb dX4_told_30 (by decide) ?_
        refine lv_idiv hx hb dX4_told_32 (by decide) ?_
        refine lv_iload_n hx hb dX4_told_33 rfl (lv_at hl 1 rfl) ?_
        refine lv_bipush (v := 100) hx hb dX4_told_34 (by decide) ?_
        refine lv_isub hx hb dX4_told_36 ?_
        refine lv_bipush (v := 10) hx hb dX4_told_37 (by decide) ?_
        refine lv_irem hx hb dX4_told_39 (by decide) ?_
        refine z_Vi (bc := [w]) (br := []) (As := [.int ((x - 100) / 10), .int ((x - 100) - (x - 100) / 10 * 10)]) (rest := []) C G (c_target l T h cr inn f1 f2 f3 f4 w ((x - 100) / 10) ((x - 100) - (x - 100) / 10 * 10) hw) (kV_RX4_39 C.2.2.2.2 (Nat.le_of_ble_eq_true rfl) (Nat.le_of_ble_eq_true rfl)) [0] [] rfl rfl (ci := 4) (qc := (RX4, TX4, 6)) rfl rfl (List.mem_flatten.mpr ⟨_, List.mem_of_getElem? (i := 0) rfl, (bLand_mem hw).choose_spec⟩) rfl rfl hl.1 dX4_told_40 (Nat.le_of_ble_eq_true rfl) (Nat.le_of_ble_eq_true rfl) (fun r_30 b1 H locs hw G => ?_)
        obtain ⟨rfl, h_29⟩ := hw
        have G : zS T A s.heap s [w] _ _ := G
        subst h_29
        exact z_iret C hr hlocks G (Nat.le_of_ble_eq_true rfl) (Nat.le_of_ble_eq_true rfl) dX4_told_43 ⟨rfl, (zLt_t (by omega))⟩
    · have c_2n : x.toInt = (1 : Int) := (fa_eq _ _).mp c_2
      refine lv_aload_n hx hb dX4_told_14 rfl (lv_at hl 0 rfl) ?_
      obtain ⟨a1_31, a2_32, a3_33, a4_34, rfl⟩ := hw
      have G : zS T A s.heap s [[(h, .inr (4, [.int cr, .int inn, .ref a1_31, .ref a2_32, .ref a3_33, .ref a4_34]))], [(a1_31, .inl (T.2 0, 7, .inl f1))], [(a2_32, .inl (T.2 0, 28, .inl f2))], [(a3_33, .inl (T.2 0, 7, .inl f3))], [(a4_34, .inl (T.2 0, 7, .inl f4))]] _ _ := G.re rfl
      refine z_get C G clX4 0 rfl 1 (by decide) m_fl_RX4_28 rfl dX4_told_15 ?_
      have hw_35 : bLand T h cr inn f1 f2 f3 f4 [(h, .inr (4, [.int cr, .int inn, .ref a1_31, .ref a2_32, .ref a3_33, .ref a4_34])), (a1_31, .inl (T.2 0, 7, .inl f1)), (a2_32, .inl (T.2 0, 28, .inl f2)), (a3_33, .inl (T.2 0, 7, .inl f3)), (a4_34, .inl (T.2 0, 7, .inl f4))] := ⟨a1_31, a2_32, a3_33, a4_34, rfl⟩
      have G : zS T A s.heap s [[(h, .inr (4, [.int cr, .int inn, .ref a1_31, .ref a2_32, .ref a3_33, .ref a4_34])), (a1_31, .inl (T.2 0, 7, .inl f1)), (a2_32, .inl (T.2 0, 28, .inl f2)), (a3_33, .inl (T.2 0, 7, .inl f3)), (a4_34, .inl (T.2 0, 7, .inl f4))]] _ _ := G.re rfl
      exact z_iret C hr hlocks G (Nat.le_of_ble_eq_true rfl) (Nat.le_of_ble_eq_true rfl) dX4_told_18 ⟨rfl, (zLt_1 (by omega))⟩
  · have c_1n : x.toInt = (0 : Int) := (fa_eq _ _).mp c_1
    refine lv_aload_n hx hb dX4_told_4 rfl (lv_at hl 0 rfl) ?_
    obtain ⟨a1_36, a2_37, a3_38, a4_39, rfl⟩ := hw
    have G : zS T A s.heap s [[(h, .inr (4, [.int cr, .int inn, .ref a1_36, .ref a2_37, .ref a3_38, .ref a4_39]))], [(a1_36, .inl (T.2 0, 7, .inl f1))], [(a2_37, .inl (T.2 0, 28, .inl f2))], [(a3_38, .inl (T.2 0, 7, .inl f3))], [(a4_39, .inl (T.2 0, 7, .inl f4))]] _ _ := G.re rfl
    refine z_get C G clX4 0 rfl 0 (by decide) m_fl_RX4_24 rfl dX4_told_5 ?_
    have hw_40 : bLand T h cr inn f1 f2 f3 f4 [(h, .inr (4, [.int cr, .int inn, .ref a1_36, .ref a2_37, .ref a3_38, .ref a4_39])), (a1_36, .inl (T.2 0, 7, .inl f1)), (a2_37, .inl (T.2 0, 28, .inl f2)), (a3_38, .inl (T.2 0, 7, .inl f3)), (a4_39, .inl (T.2 0, 7, .inl f4))] := ⟨a1_36, a2_37, a3_38, a4_39, rfl⟩
    have G : zS T A s.heap s [[(h, .inr (4, [.int cr, .int inn, .ref a1_36, .ref a2_37, .ref a3_38, .ref a4_39])), (a1_36, .inl (T.2 0, 7, .inl f1)), (a2_37, .inl (T.2 0, 28, .inl f2)), (a3_38, .inl (T.2 0, 7, .inl f3)), (a4_39, .inl (T.2 0, 7, .inl f4))]] _ _ := G.re rfl
    exact z_iret C hr hlocks G (Nat.le_of_ble_eq_true rfl) (Nat.le_of_ble_eq_true rfl) dX4_told_8 ⟨rfl, (zLt_0 (by omega))⟩
set_option maxHeartbeats 4000000 in
set_option maxRecDepth 100000 in
/-- c_f_land -/
theorem c_f_land (l : Launch) (T : zTy) (xo : Nat) (t : Nat) (im : Nat) (mk : Nat) (rd : Nat) (po : Nat) (co : Nat) (tr : Nat) (wa : Nat) (wb_ : Nat) (fi : Nat) (cd : Nat) (l0 : Nat) (l1 : Nat) (d0 : Nat) (d1 : Nat) (g0 : Nat) (g1 : Nat) (ln : Int32) (fl : Int32) (pl : Int32) (ft : Nat → Int32) (fk : Nat → Int32) (wt : va_W) (cr0_ : Int32) (inn0_ : Int32) (k10_ : Nat → Int32) (k20_ : Nat → Int32) (k30_ : Nat → Int32) (k40_ : Nat → Int32) (z0_ : va_W) (cr1_ : Int32) (inn1_ : Int32) (k11_ : Nat → Int32) (k21_ : Nat → Int32) (k31_ : Nat → Int32) (k41_ : Nat → Int32) (z1_ : va_W) (i1 : Int32) (w_ : Int32) (ht : bTold T t l0 l1 d0 d1 g0 g1 ln fl pl ft fk wt) (hK : zKT fk) (hz0_ : bLand T l0 cr0_ inn0_ k10_ k20_ k30_ k40_ z0_) (hI0_ : zLI cr0_ k10_ k30_) (hz1_ : bLand T l1 cr1_ inn1_ k11_ k21_ k31_ k41_ z1_) (hI1_ : zLI cr1_ k11_ k31_) : zMi l T yX11_land cX11_land 4 (some .int) 5 0 0 [.ref xo, .int i1, .int w_] [[(xo, .inr (10, [.ref t, .ref im, .ref mk, .ref rd, .ref po, .ref co, .ref tr, .ref wa, .ref wb_, .ref fi, .ref cd]))], wt, z0_, z1_] (fun (r : Int32) bs => bs = [[(xo, .inr (10, [.ref t, .ref im, .ref mk, .ref rd, .ref po, .ref co, .ref tr, .ref wa, .ref wb_, .ref fi, .ref cd]))], wt, z0_, z1_] ∧ ((i1.toInt < 0 ∨ (fk 0).toInt ≤ i1.toInt ∨ 2 ≤ i1.toInt) ∧ r = -1 ∨ i1.toInt = 0 ∧ 0 < (fk 0).toInt ∧ r = zLt cr0_ inn0_ k10_ k20_ k30_ k40_ w_ ∨ i1.toInt = 1 ∧ 1 < (fk 0).toInt ∧ r = zLt cr1_ inn1_ k11_ k21_ k31_ k41_ w_)) := by
  refine zMi_of (own := RX11) (by decide) rfl (Nat.le_of_ble_eq_true rfl) ?_
  intro p e s m args below meth c A ls C hr hlocks hnm hAe G hl
  have hx := C.1
  have hb := C.2.1
  have hl : lv_has ls 4 [(0, .ref xo), (1, .int i1), (2, .int w_)] := hl
  refine lv_aload_n hx hb dX11_land_0 rfl (lv_at hl 0 rfl) ?_
  refine z_get C G clX11 0 rfl 0 (by decide) m_fl_RX11_10 rfl dX11_land_1 ?_
  refine lv_iload_n hx hb dX11_land_4 rfl (lv_at hl 1 rfl) ?_
  refine z_Vq (bc := [wt]) (br := [[(xo, .inr (10, [.ref t, .ref im, .ref mk, .ref rd, .ref po, .ref co, .ref tr, .ref wa, .ref wb_, .ref fi, .ref cd]))], z0_, z1_]) (As := [.int i1]) (rest := []) C G (c_landAt l T t l0 l1 d0 d1 g0 g1 ln fl pl ft fk wt i1 ht) (kV_RX11_121 C.2.2.2.2 (Nat.le_of_ble_eq_true rfl) (Nat.le_of_ble_eq_true rfl)) [1] [0, 2, 3] rfl rfl (ci := 8) (qc := (RX9, TX9, 8)) rfl rfl (List.mem_flatten.mpr ⟨_, List.mem_of_getElem? (i := 0) rfl, (bTold_mem ht).choose_spec⟩) rfl rfl hl.1 dX11_land_5 (Nat.le_of_ble_eq_true rfl) (Nat.le_of_ble_eq_true rfl) (fun r_2 b1 H locs hw G => ?_)
  obtain ⟨rfl, hc_1⟩ := hw
  have G : zS T A s.heap s [[(xo, .inr (10, [.ref t, .ref im, .ref mk, .ref rd, .ref po, .ref co, .ref tr, .ref wa, .ref wb_, .ref fi, .ref cd]))], z0_, z1_, wt] _ _ := G
  rcases hc_1 with ⟨rfl, h_3⟩ | ⟨rfl, h_4, h_5⟩ | ⟨rfl, h_6, h_7⟩
  · have h_3 : (i1.toInt < 0 ∨ (fk 0).toInt ≤ i1.toInt ∨ 2 ≤ i1.toInt) := h_3
    refine lv_astore_nN (lv' := [(3, .null), (0, .ref xo), (1, .int i1), (2, .int w_)]) hx hb dX11_land_8 rfl hl (by decide) rfl (fun ls hl => ?_)
    refine lv_aload_nN hx hb dX11_land_9 rfl (lv_at hl 0 rfl) ?_
    refine lv_ifnonnullN hx hb dX11_land_10 ?_
    refine lv_iconst (v := (-1)) hx hb dX11_land_13 (by decide) ?_
    refine lv_goto (tgt := 22) hx hb dX11_land_14 (by decide) ?_
    have G := G.sub (bs' := [[(xo, .inr (10, [.ref t, .ref im, .ref mk, .ref rd, .ref po, .ref co, .ref tr, .ref wa, .ref wb_, .ref fi, .ref cd]))], wt, z0_, z1_]) [0, 3, 1, 2] rfl
    exact z_iret C hr hlocks G (Nat.le_of_ble_eq_true rfl) (Nat.le_of_ble_eq_true rfl) dX11_land_22 ⟨rfl, (Or.inl ⟨by assumption, rfl⟩)⟩
  · have h_4 : i1.toInt = 0 := h_4
    have h_5 : 0 < (fk 0).toInt := h_5
    refine lv_astore_n (lv' := [(3, .ref l0), (0, .ref xo), (1, .int i1), (2, .int w_)]) hx hb dX11_land_8 rfl hl (by decide) rfl (fun ls hl => ?_)
    refine lv_aload_n hx hb dX11_land_9 rfl (lv_at hl 0 rfl) ?_
    refine lv_ifnonnull (tgt := 17) hx hb dX11_land_10 (by decide) ?_
    refine lv_aload_n hx hb dX11_land_17 rfl (lv_at hl 0 rfl) ?_
    refine lv_iload_n hx hb dX11_land_18 rfl (lv_at hl 3 rfl) ?_
    refine z_Vi (bc := [z0_]) (br := [[(xo, .inr (10, [.ref t, .ref im, .ref mk, .ref rd, .ref po, .ref co, .ref tr, .ref wa, .ref wb_, .ref fi, .ref cd]))], z1_, wt]) (As := [.int w_]) (rest := []) C G (c_f_Land_told l T l0 cr0_ inn0_ k10_ k20_ k30_ k40_ z0_ w_ hz0_) (kV_RX11_125 C.2.2.2.2 (Nat.le_of_ble_eq_true rfl) (Nat.le_of_ble_eq_true rfl)) [1] [0, 2, 3] rfl rfl (ci := 4) (qc := (RX4, TX4, 6)) rfl rfl (List.mem_flatten.mpr ⟨_, List.mem_of_getElem? (i := 0) rfl, (bLand_mem hz0_).choose_spec⟩) rfl rfl hl.1 dX11_land_19 (Nat.le_of_ble_eq_true rfl) (Nat.le_of_ble_eq_true rfl) (fun r_9 b1 H locs hw G => ?_)
    obtain ⟨rfl, h_8⟩ := hw
    have G : zS T A s.heap s [[(xo, .inr (10, [.ref t, .ref im, .ref mk, .ref rd, .ref po, .ref co, .ref tr, .ref wa, .ref wb_, .ref fi, .ref cd]))], z1_, wt, z0_] _ _ := G
    subst h_8
    have G := G.sub (bs' := [[(xo, .inr (10, [.ref t, .ref im, .ref mk, .ref rd, .ref po, .ref co, .ref tr, .ref wa, .ref wb_, .ref fi, .ref cd]))], wt, z0_, z1_]) [0, 2, 3, 1] rfl
    exact z_iret C hr hlocks G (Nat.le_of_ble_eq_true rfl) (Nat.le_of_ble_eq_true rfl) dX11_land_22 ⟨rfl, (Or.inr (Or.inl ⟨by assumption, by assumption, rfl⟩))⟩
  · have h_6 : i1.toInt = 1 := h_6
    have h_7 : 1 < (fk 0).toInt := h_7
    refine lv_astore_n (lv' := [(3, .ref l1), (0, .ref xo), (1, .int i1), (2, .int w_)]) hx hb dX11_land_8 rfl hl (by decide) rfl (fun ls hl => ?_)
    refine lv_aload_n hx hb dX11_land_9 rfl (lv_at hl 0 rfl) ?_
    refine lv_ifnonnull (tgt := 17) hx hb dX11_land_10 (by decide) ?_
    refine lv_aload_n hx hb dX11_land_17 rfl (lv_at hl 0 rfl) ?_
    refine lv_iload_n hx hb dX11_land_18 rfl (lv_at hl 3 rfl) ?_
    refine z_Vi (bc := [z1_]) (br := [[(xo, .inr (10, [.ref t, .ref im, .ref mk, .ref rd, .ref po, .ref co, .ref tr, .ref wa, .ref wb_, .ref fi, .ref cd]))], z0_, wt]) (As := [.int w_]) (rest := []) C G (c_f_Land_told l T l1 cr1_ inn1_ k11_ k21_ k31_ k41_ z1_ w_ hz1_) (kV_RX11_125 C.2.2.2.2 (Nat.le_of_ble_eq_true rfl) (Nat.le_of_ble_eq_true rfl)) [2] [0, 1, 3] rfl rfl (ci := 4) (qc := (RX4, TX4, 6)) rfl rfl (List.mem_flatten.mpr ⟨_, List.mem_of_getElem? (i := 0) rfl, (bLand_mem hz1_).choose_spec⟩) rfl rfl hl.1 dX11_land_19 (Nat.le_of_ble_eq_true rfl) (Nat.le_of_ble_eq_true rfl) (fun r_11 b1 H locs hw G => ?_)
    obtain ⟨rfl, h_10⟩ := hw
    have G : zS T A s.heap s [[(xo, .inr (10, [.ref t, .ref im, .ref mk, .ref rd, .ref po, .ref co, .ref tr, .ref wa, .ref wb_, .ref fi, .ref cd]))], z0_, wt, z1_] _ _ := G
    subst h_10
    have G := G.sub (bs' := [[(xo, .inr (10, [.ref t, .ref im, .ref mk, .ref rd, .ref po, .ref co, .ref tr, .ref wa, .ref wb_, .ref fi, .ref cd]))], wt, z0_, z1_]) [0, 2, 1, 3] rfl
    exact z_iret C hr hlocks G (Nat.le_of_ble_eq_true rfl) (Nat.le_of_ble_eq_true rfl) dX11_land_22 ⟨rfl, (Or.inr (Or.inr ⟨by assumption, by assumption, rfl⟩))⟩
theorem zD10 {x : Int32} (h : 100 ≤ x.toInt) : (x / 10 - 10).toInt = x.toInt / 10 - 10 := by
  have e := zDv (x := x) (by omega)
  have hb := Int32.toInt_lt x
  have e1 : (x / 10 - 10).toInt = (x / 10).toInt - 10 := z_isubI (by show -2147483648 ≤ (x / 10).toInt - 10; omega) (by show (x / 10).toInt - 10 < 2147483648; omega)
  omega
theorem zRd_x0 {f : Nat → Int32} {w : Int32} (h : 100 ≤ w.toInt) : zRd f 610 (w / 10 - 10) = f (610 + (2 + (w.toInt / 10 - 10).toNat)) := by
  have e := zD10 h
  exact congrArg f (by show 610 + (2 + (w / 10 - 10).toInt.toNat) = _; omega)
theorem zRd_x1 {f : Nat → Int32} {w : Int32} (h : 100 ≤ w.toInt) : zRd f 661 (w / 10 - 10) = f (661 + (2 + (w.toInt / 10 - 10).toNat)) := by
  have e := zD10 h
  exact congrArg f (by show 661 + (2 + (w / 10 - 10).toInt.toNat) = _; omega)
set_option maxHeartbeats 4000000 in
set_option maxRecDepth 100000 in
/-- c_fm_land -/
theorem c_fm_land (l : Launch) (T : zTy) (mo : Nat) (m_all : Nat) (m_has : Nat) (i_size : Int32) (i_next : Int32) (i_where : Int32) (i_token : Int32) (i_number : Int32) (i_word : Int32) (i_wrong : Int32) (i_farCrossing : Int32) (m_read : Nat) (i_z0 : Int32) (i_crossings : Int32) (i_inns : Int32) (m_posts : Nat) (m_shut : Nat) (m_here : Nat) (i_steps : Int32) (i_done : Int32) (i_at : Int32) (i_gone : Int32) (m_was : Nat) (m_came : Nat) (m_seenAt : Nat) (m_rowWorth : Nat) (m_farBy : Nat) (m_used : Nat) (i_everywhere : Int32) (i_again0 : Int32) (i_d0 : Int32) (i_never : Int32) (i_firstCame : Int32) (i_longRun : Int32) (i_moved : Int32) (i_crowd : Int32) (i_l0 : Int32) (i_fitMany : Int32) (i_fitLeast : Int32) (i_fitMost : Int32) (m_fitPost : Nat) (m_fitEnd : Nat) (m_keptPosts : Nat) (i_x0 : Int32) (f_all : Nat → Int32) (f_posts : Nat → Int32) (f_shut : Nat → Int32) (f_here : Nat → Int32) (l_ : Int32) (w_ : Int32) (hB : zBI f_all) : zMi l T yX12_land cX12_land 4 (some .int) 5 0 0 [.ref mo, .int l_, .int w_] [[(mo, .inr (11, [.ref m_all, .ref m_has, .int i_size, .int i_next, .int i_where, .int i_token, .int i_number, .int i_word, .int i_wrong, .int i_farCrossing, .ref m_read, .int i_z0, .int i_crossings, .int i_inns, .ref m_posts, .ref m_shut, .ref m_here, .int i_steps, .int i_done, .int i_at, .int i_gone, .ref m_was, .ref m_came, .ref m_seenAt, .ref m_rowWorth, .ref m_farBy, .ref m_used, .int i_everywhere, .int i_again0, .int i_d0, .int i_never, .int i_firstCame, .int i_longRun, .int i_moved, .int i_crowd, .int i_l0, .int i_fitMany, .int i_fitLeast, .int i_fitMost, .ref m_fitPost, .ref m_fitEnd, .ref m_keptPosts, .int i_x0]))], [(m_all, .inl (T.2 0, 3952, .inl f_all))], [(m_posts, .inl (T.2 0, 7, .inl f_posts))], [(m_shut, .inl (T.2 0, 7, .inl f_shut))], [(m_here, .inl (T.2 0, 7, .inl f_here))]] (fun (r : Int32) bs => ∃ (j_z0 : Int32) (j_crossings : Int32) (j_inns : Int32) (j_steps : Int32) (j_done : Int32) (g_posts : Nat → Int32) (g_shut : Nat → Int32) (g_here : Nat → Int32), bs = [[(mo, .inr (11, [.ref m_all, .ref m_has, .int i_size, .int i_next, .int i_where, .int i_token, .int i_number, .int i_word, .int i_wrong, .int i_farCrossing, .ref m_read, .int j_z0, .int j_crossings, .int j_inns, .ref m_posts, .ref m_shut, .ref m_here, .int j_steps, .int j_done, .int i_at, .int i_gone, .ref m_was, .ref m_came, .ref m_seenAt, .ref m_rowWorth, .ref m_farBy, .ref m_used, .int i_everywhere, .int i_again0, .int i_d0, .int i_never, .int i_firstCame, .int i_longRun, .int i_moved, .int i_crowd, .int i_l0, .int i_fitMany, .int i_fitLeast, .int i_fitMost, .ref m_fitPost, .ref m_fitEnd, .ref m_keptPosts, .int i_x0]))], [(m_all, .inl (T.2 0, 3952, .inl f_all))], [(m_posts, .inl (T.2 0, 7, .inl g_posts))], [(m_shut, .inl (T.2 0, 7, .inl g_shut))], [(m_here, .inl (T.2 0, 7, .inl g_here))]] ∧ ((l_.toInt < 0 ∨ (f_all 0).toInt ≤ l_.toInt) ∧ r = -1 ∨ l_.toInt = 0 ∧ 0 < (f_all 0).toInt ∧ r = pLt f_all 610 w_ ∨ l_.toInt = 1 ∧ 1 < (f_all 0).toInt ∧ r = pLt f_all 661 w_)) := by
  refine zMi_of (own := RX12) (by decide) rfl (Nat.le_of_ble_eq_true rfl) ?_
  intro p e s m args below meth c A ls C hr hlocks hnm hAe G hl
  have hx := C.1
  have hb := C.2.1
  have hl : lv_has ls 4 [(0, .ref mo), (1, .int l_), (2, .int w_)] := hl
  refine lv_aload_n hx hb dX12_land_0 rfl (lv_at hl 0 rfl) ?_
  refine lv_iload_n hx hb dX12_land_1 rfl (lv_at hl 1 rfl) ?_
  refine z_Vi (bc := [[(mo, .inr (11, [.ref m_all, .ref m_has, .int i_size, .int i_next, .int i_where, .int i_token, .int i_number, .int i_word, .int i_wrong, .int i_farCrossing, .ref m_read, .int i_z0, .int i_crossings, .int i_inns, .ref m_posts, .ref m_shut, .ref m_here, .int i_steps, .int i_done, .int i_at, .int i_gone, .ref m_was, .ref m_came, .ref m_seenAt, .ref m_rowWorth, .ref m_farBy, .ref m_used, .int i_everywhere, .int i_again0, .int i_d0, .int i_never, .int i_firstCame, .int i_longRun, .int i_moved, .int i_crowd, .int i_l0, .int i_fitMany, .int i_fitLeast, .int i_fitMost, .ref m_fitPost, .ref m_fitEnd, .ref m_keptPosts, .int i_x0]))], [(m_all, .inl (T.2 0, 3952, .inl f_all))], [(m_posts, .inl (T.2 0, 7, .inl f_posts))], [(m_shut, .inl (T.2 0, 7, .inl f_shut))], [(m_here, .inl (T.2 0, 7, .inl f_here))]]) (br := []) (As := [.int l_]) (rest := []) C G (c_m_isLand l T mo m_all m_has i_size i_next i_where i_token i_number i_word i_wrong i_farCrossing m_read i_z0 i_crossings i_inns m_posts m_shut m_here i_steps i_done i_at i_gone m_was m_came m_seenAt m_rowWorth m_farBy m_used i_everywhere i_again0 i_d0 i_never i_firstCame i_longRun i_moved i_crowd i_l0 i_fitMany i_fitLeast i_fitMost m_fitPost m_fitEnd m_keptPosts i_x0 f_all f_posts f_shut f_here l_ (by first | assumption | omega | rfl)) (kV_RX12_184 C.2.2.2.2 (Nat.le_of_ble_eq_true rfl) (Nat.le_of_ble_eq_true rfl)) [0, 1, 2, 3, 4] [] rfl rfl (ci := 11) (qc := (RX12, TX12, 43)) rfl rfl (List.mem_flatten.mpr ⟨_, List.mem_of_getElem? (i := 0) rfl, List.mem_cons_self⟩) rfl rfl hl.1 dX12_land_2 (Nat.le_of_ble_eq_true rfl) (Nat.le_of_ble_eq_true rfl) (fun r_10 b1 H locs hw G => ?_)
  obtain ⟨j_z0_1, j_crossings_2, j_inns_3, j_steps_4, j_done_5, g_posts_6, g_shut_7, g_here_8, rfl, hc_9⟩ := hw
  have G : zS T A s.heap s [[(mo, .inr (11, [.ref m_all, .ref m_has, .int i_size, .int i_next, .int i_where, .int i_token, .int i_number, .int i_word, .int i_wrong, .int i_farCrossing, .ref m_read, .int j_z0_1, .int j_crossings_2, .int j_inns_3, .ref m_posts, .ref m_shut, .ref m_here, .int j_steps_4, .int j_done_5, .int i_at, .int i_gone, .ref m_was, .ref m_came, .ref m_seenAt, .ref m_rowWorth, .ref m_farBy, .ref m_used, .int i_everywhere, .int i_again0, .int i_d0, .int i_never, .int i_firstCame, .int i_longRun, .int i_moved, .int i_crowd, .int i_l0, .int i_fitMany, .int i_fitLeast, .int i_fitMost, .ref m_fitPost, .ref m_fitEnd, .ref m_keptPosts, .int i_x0]))], [(m_all, .inl (T.2 0, 3952, .inl f_all))], [(m_posts, .inl (T.2 0, 7, .inl g_posts_6))], [(m_shut, .inl (T.2 0, 7, .inl g_shut_7))], [(m_here, .inl (T.2 0, 7, .inl g_here_8))]] _ _ := G
  rcases hc_9 with ⟨rfl, h_11, h_12, h_13, h_14, h_15, h_16, h_17, h_18, h_19, h_20, h_21, h_22⟩ | ⟨rfl, h_23⟩
  · have h_11 : 0 ≤ l_.toInt := h_11
    have h_12 : l_.toInt ≤ 1 := h_12
    have h_13 : l_.toInt < (f_all 0).toInt := h_13
    have h_14 : j_z0_1.toInt = 610 + 51 * l_.toInt := h_14
    have h_15 : zML f_all j_z0_1 j_crossings_2 := h_15
    have h_16 : zMP g_posts_6 := h_16
    have h_17 : j_inns_3 = f_all (j_z0_1.toInt.toNat + 1) := h_17
    have h_18 : j_steps_4 = 0 := h_18
    have h_19 : j_done_5 = 0 := h_19
    have h_20 : (∀ j, j < 7 → g_posts_6 j = zPt f_all j_z0_1 (nI j)) := h_20
    have h_21 : (∀ j, j < 7 → g_shut_7 j = 0) := h_21
    have h_22 : (∀ j, j < 7 → g_here_8 j = zWk f_all j_z0_1 j) := h_22
    have hLx := h_15
    have hcr := hLx.cr
    have hzx := hLx.1
    have hPx := h_16
    refine lv_if_eq (tgt := 12) hx hb dX12_land_5 (by decide) (fun q => absurd q (by decide)) (fun _ => ?_)
    rcases (show l_.toInt = 0 ∨ l_.toInt = 1 from by have hq9 := hB.2.1 0 (by decide); omega) with hkk | hkk
    · obtain rfl : j_z0_1 = 610 := Int32.toInt_inj.mp (by show j_z0_1.toInt = 610; omega)
      have hcx : j_crossings_2.toInt = (f_all 610).toInt := by rw [hLx.2.1]; rfl
      refine lv_iload_n hx hb dX12_land_8 rfl (lv_at hl 2 rfl) ?_
      refine lv_if_ge (tgt := 14) hx hb dX12_land_9 (by decide) (fun c_24 => ?_) (fun c_24 => ?_)
      · have c_24n : (0 : Int) ≤ w_.toInt := (fa_le _ _).mp c_24
        refine lv_iload_n hx hb dX12_land_14 rfl (lv_at hl 2 rfl) ?_
        refine lv_iconst (v := 2) hx hb dX12_land_15 (by decide) ?_
        refine lv_icmp_ge (tgt := 31) hx hb dX12_land_16 (by decide) (fun c_25 => ?_) (fun c_25 => ?_)
        · have c_25n : (2 : Int) ≤ w_.toInt := (fa_le _ _).mp c_25
          refine lv_iload_n hx hb dX12_land_31 rfl (lv_at hl 2 rfl) ?_
          refine lv_bipush (v := 10) hx hb dX12_land_32 (by decide) ?_
          refine lv_irem hx hb dX12_land_34 (by decide) ?_
          have hrm := zRem (x := w_) (y := 10) (by omega) (by decide)
          have hdv : 0 ≤ (w_ / 10).toInt := zDiv0 (by omega) (by decide)
          have hdl := Int32.toInt_lt (w_ / 10)
          have hdx := zDv (x := w_) (by omega)
          have hrx := zRm (x := w_) (by omega)
          refine lv_istore_n (lv' := [(3, .int (w_ - w_ / 10 * 10)), (0, .ref mo), (1, .int l_), (2, .int w_)]) hx hb dX12_land_35 rfl hl (by decide) rfl (fun ls hl => ?_)
          refine lv_iload_n hx hb dX12_land_36 rfl (lv_at hl 3 rfl) ?_
          refine lv_bipush (v := 100) hx hb dX12_land_37 (by decide) ?_
          refine lv_icmp_lt (tgt := 88) hx hb dX12_land_39 (by decide) (fun c_26 => ?_) (fun c_26 => ?_)
          · have c_26n : w_.toInt < (100 : Int) := (fa_lt _ _).mp c_26
            refine lv_iload_n hx hb dX12_land_88 rfl (lv_at hl 3 rfl) ?_
            refine lv_bipush (v := 10) hx hb dX12_land_89 (by decide) ?_
            refine lv_bipush (v := 39) hx hb dX12_land_91 (by decide) ?_
            refine z_Si (bc := []) (br := [[(mo, .inr (11, [.ref m_all, .ref m_has, .int i_size, .int i_next, .int i_where, .int i_token, .int i_number, .int i_word, .int i_wrong, .int i_farCrossing, .ref m_read, .int 610, .int j_crossings_2, .int j_inns_3, .ref m_posts, .ref m_shut, .ref m_here, .int j_steps_4, .int j_done_5, .int i_at, .int i_gone, .ref m_was, .ref m_came, .ref m_seenAt, .ref m_rowWorth, .ref m_farBy, .ref m_used, .int i_everywhere, .int i_again0, .int i_d0, .int i_never, .int i_firstCame, .int i_longRun, .int i_moved, .int i_crowd, .int i_l0, .int i_fitMany, .int i_fitLeast, .int i_fitMost, .ref m_fitPost, .ref m_fitEnd, .ref m_keptPosts, .int i_x0]))], [(m_all, .inl (T.2 0, 3952, .inl f_all))], [(m_posts, .inl (T.2 0, 7, .inl g_posts_6))], [(m_shut, .inl (T.2 0, 7, .inl g_shut_7))], [(m_here, .inl (T.2 0, 7, .inl g_here_8))]]) (As := [.int w_, .int 10, .int 39]) (rest := []) C G (c_m_isIn l T w_ 10 39) (kS_RX12_111 C.2.2.2.2 (Nat.le_of_ble_eq_true rfl) (Nat.le_of_ble_eq_true rfl)) [] [0, 1, 2, 3, 4] rfl rfl rfl rfl hl.1 dX12_land_93 (Nat.le_of_ble_eq_true rfl) (Nat.le_of_ble_eq_true rfl) (fun r_28 b1 H locs hw G => ?_)
            obtain ⟨rfl, hc_27⟩ := hw
            have G : zS T A s.heap s [[(mo, .inr (11, [.ref m_all, .ref m_has, .int i_size, .int i_next, .int i_where, .int i_token, .int i_number, .int i_word, .int i_wrong, .int i_farCrossing, .ref m_read, .int 610, .int j_crossings_2, .int j_inns_3, .ref m_posts, .ref m_shut, .ref m_here, .int j_steps_4, .int j_done_5, .int i_at, .int i_gone, .ref m_was, .ref m_came, .ref m_seenAt, .ref m_rowWorth, .ref m_farBy, .ref m_used, .int i_everywhere, .int i_again0, .int i_d0, .int i_never, .int i_firstCame, .int i_longRun, .int i_moved, .int i_crowd, .int i_l0, .int i_fitMany, .int i_fitLeast, .int i_fitMost, .ref m_fitPost, .ref m_fitEnd, .ref m_keptPosts, .int i_x0]))], [(m_all, .inl (T.2 0, 3952, .inl f_all))], [(m_posts, .inl (T.2 0, 7, .inl g_posts_6))], [(m_shut, .inl (T.2 0, 7, .inl g_shut_7))], [(m_here, .inl (T.2 0, 7, .inl g_here_8))]] _ _ := G
            rcases hc_27 with ⟨rfl, h_29, h_30⟩ | ⟨rfl, h_31⟩
            · have h_29 : (10 : Int) ≤ w_.toInt := h_29
              have h_30 : w_.toInt ≤ (39 : Int) := h_30
              refine lv_if_eq (tgt := 107) hx hb dX12_land_96 (by decide) (fun q => absurd q (by decide)) (fun _ => ?_)
              refine lv_aload_n hx hb dX12_land_99 rfl (lv_at hl 1 rfl) ?_
              refine lv_iload_n hx hb dX12_land_100 rfl (lv_at hl 0 rfl) ?_
              refine z_Vi (bc := [[(mo, .inr (11, [.ref m_all, .ref m_has, .int i_size, .int i_next, .int i_where, .int i_token, .int i_number, .int i_word, .int i_wrong, .int i_farCrossing, .ref m_read, .int 610, .int j_crossings_2, .int j_inns_3, .ref m_posts, .ref m_shut, .ref m_here, .int j_steps_4, .int j_done_5, .int i_at, .int i_gone, .ref m_was, .ref m_came, .ref m_seenAt, .ref m_rowWorth, .ref m_farBy, .ref m_used, .int i_everywhere, .int i_again0, .int i_d0, .int i_never, .int i_firstCame, .int i_longRun, .int i_moved, .int i_crowd, .int i_l0, .int i_fitMany, .int i_fitLeast, .int i_fitMost, .ref m_fitPost, .ref m_fitEnd, .ref m_keptPosts, .int i_x0]))]]) (br := [[(m_all, .inl (T.2 0, 3952, .inl f_all))], [(m_posts, .inl (T.2 0, 7, .inl g_posts_6))], [(m_shut, .inl (T.2 0, 7, .inl g_shut_7))], [(m_here, .inl (T.2 0, 7, .inl g_here_8))]]) (As := [.int (w_ - w_ / 10 * 10)]) (rest := []) C G (c_m_isCrossing l T mo m_all m_has i_size i_next i_where i_token i_number i_word i_wrong i_farCrossing m_read 610 j_crossings_2 j_inns_3 m_posts m_shut m_here j_steps_4 j_done_5 i_at i_gone m_was m_came m_seenAt m_rowWorth m_farBy m_used i_everywhere i_again0 i_d0 i_never i_firstCame i_longRun i_moved i_crowd i_l0 i_fitMany i_fitLeast i_fitMost m_fitPost m_fitEnd m_keptPosts i_x0 (w_ - w_ / 10 * 10) (by first | assumption | omega | rfl)) (kV_RX12_187 C.2.2.2.2 (Nat.le_of_ble_eq_true rfl) (Nat.le_of_ble_eq_true rfl)) [0] [1, 2, 3, 4] rfl rfl (ci := 11) (qc := (RX12, TX12, 43)) rfl rfl (List.mem_flatten.mpr ⟨_, List.mem_of_getElem? (i := 0) rfl, List.mem_cons_self⟩) rfl rfl hl.1 dX12_land_101 (Nat.le_of_ble_eq_true rfl) (Nat.le_of_ble_eq_true rfl) (fun r_33 b1 H locs hw G => ?_)
              obtain ⟨rfl, hc_32⟩ := hw
              have G : zS T A s.heap s [[(m_all, .inl (T.2 0, 3952, .inl f_all))], [(m_posts, .inl (T.2 0, 7, .inl g_posts_6))], [(m_shut, .inl (T.2 0, 7, .inl g_shut_7))], [(m_here, .inl (T.2 0, 7, .inl g_here_8))], [(mo, .inr (11, [.ref m_all, .ref m_has, .int i_size, .int i_next, .int i_where, .int i_token, .int i_number, .int i_word, .int i_wrong, .int i_farCrossing, .ref m_read, .int 610, .int j_crossings_2, .int j_inns_3, .ref m_posts, .ref m_shut, .ref m_here, .int j_steps_4, .int j_done_5, .int i_at, .int i_gone, .ref m_was, .ref m_came, .ref m_seenAt, .ref m_rowWorth, .ref m_farBy, .ref m_used, .int i_everywhere, .int i_again0, .int i_d0, .int i_never, .int i_firstCame, .int i_longRun, .int i_moved, .int i_crowd, .int i_l0, .int i_fitMany, .int i_fitLeast, .int i_fitMost, .ref m_fitPost, .ref m_fitEnd, .ref m_keptPosts, .int i_x0]))]] _ _ := G
              rcases hc_32 with ⟨rfl, h_34, h_35⟩ | ⟨rfl, h_36⟩
              · have h_34 : 0 ≤ (w_ - w_ / 10 * 10).toInt := h_34
                have h_35 : (w_ - w_ / 10 * 10).toInt < j_crossings_2.toInt := h_35
                refine lv_if_ne (tgt := 109) hx hb dX12_land_104 (by decide) (fun _ => ?_) (fun q => absurd q (by decide))
                refine lv_iload_n hx hb dX12_land_109 rfl (lv_at hl 3 rfl) ?_
                refine lv_bipush (v := 20) hx hb dX12_land_110 (by decide) ?_
                refine lv_icmp_ge (tgt := 123) hx hb dX12_land_112 (by decide) (fun c_37 => ?_) (fun c_37 => ?_)
                · have c_37n : (20 : Int) ≤ w_.toInt := (fa_le _ _).mp c_37
                  refine lv_iload_n hx hb dX12_land_123 rfl (lv_at hl 3 rfl) ?_
                  refine lv_bipush (v := 30) hx hb dX12_land_124 (by decide) ?_
                  refine lv_icmp_ge (tgt := 137) hx hb dX12_land_126 (by decide) (fun c_38 => ?_) (fun c_38 => ?_)
                  · have c_38n : (30 : Int) ≤ w_.toInt := (fa_le _ _).mp c_38
                    refine lv_aload_n hx hb dX12_land_137 rfl (lv_at hl 1 rfl) ?_
                    refine z_get C G clX12 4 rfl 0 (by decide) m_fl_RX12_7 rfl dX12_land_138 ?_
                    refine lv_aload_n hx hb dX12_land_141 rfl (lv_at hl 1 rfl) ?_
                    refine z_get C G clX12 4 rfl 11 (by decide) m_fl_RX12_166 rfl dX12_land_142 ?_
                    refine lv_bipush (v := 16) hx hb dX12_land_145 (by decide) ?_
                    refine lv_iadd hx hb dX12_land_147 ?_
                    refine lv_topi (fun y_39 ey_39 => ?_)
                    obtain rfl : y_39 = 626 := ey_39.trans (by decide)
                    refine lv_iload_n hx hb dX12_land_148 rfl (lv_at hl 0 rfl) ?_
                    refine lv_iadd hx hb dX12_land_149 ?_
                    refine lv_topi (fun y_40 ey_40 => ?_)
                    have ey_40i : y_40.toInt = (626 : Int) + (w_ - w_ / 10 * 10).toInt := by rw [ey_40]; exact z_iaddI (x := (626 : Int32)) (y := (w_ - w_ / 10 * 10)) (by show -2147483648 ≤ (626 : Int) + (w_ - w_ / 10 * 10).toInt; omega) (by show (626 : Int) + (w_ - w_ / 10 * 10).toInt < 2147483648; omega)
                    refine z_ild C G 0 rfl (vp_in_iff.mpr ⟨by omega, by omega⟩) dX12_land_150 ?_
                    refine lv_topi (fun v_41 ev_41 => ?_)
                    subst ev_41
                    have G := G.sub (bs' := [[(mo, .inr (11, [.ref m_all, .ref m_has, .int i_size, .int i_next, .int i_where, .int i_token, .int i_number, .int i_word, .int i_wrong, .int i_farCrossing, .ref m_read, .int 610, .int j_crossings_2, .int j_inns_3, .ref m_posts, .ref m_shut, .ref m_here, .int j_steps_4, .int j_done_5, .int i_at, .int i_gone, .ref m_was, .ref m_came, .ref m_seenAt, .ref m_rowWorth, .ref m_farBy, .ref m_used, .int i_everywhere, .int i_again0, .int i_d0, .int i_never, .int i_firstCame, .int i_longRun, .int i_moved, .int i_crowd, .int i_l0, .int i_fitMany, .int i_fitLeast, .int i_fitMost, .ref m_fitPost, .ref m_fitEnd, .ref m_keptPosts, .int i_x0]))], [(m_all, .inl (T.2 0, 3952, .inl f_all))], [(m_posts, .inl (T.2 0, 7, .inl g_posts_6))], [(m_shut, .inl (T.2 0, 7, .inl g_shut_7))], [(m_here, .inl (T.2 0, 7, .inl g_here_8))]]) [4, 0, 1, 2, 3] rfl
                    exact z_iret C hr hlocks G (Nat.le_of_ble_eq_true rfl) (Nat.le_of_ble_eq_true rfl) dX12_land_151 ⟨610, j_crossings_2, j_inns_3, j_steps_4, j_done_5, g_posts_6, g_shut_7, g_here_8, rfl, (Or.inr (Or.inl ⟨by assumption, by omega, (by have q9 := z_clI (x := y_40) (by omega); first | exact pLt_a (by omega) (by omega) | exact pLt_c3 (by omega) (by omega))⟩))⟩
                  · have c_38n : ¬ (30 : Int) ≤ w_.toInt := fun q => c_38 ((fa_le _ _).mpr q)
                    refine lv_aload_n hx hb dX12_land_129 rfl (lv_at hl 1 rfl) ?_
                    refine lv_iload_n hx hb dX12_land_130 rfl (lv_at hl 0 rfl) ?_
                    refine z_Vi (bc := [[(mo, .inr (11, [.ref m_all, .ref m_has, .int i_size, .int i_next, .int i_where, .int i_token, .int i_number, .int i_word, .int i_wrong, .int i_farCrossing, .ref m_read, .int 610, .int j_crossings_2, .int j_inns_3, .ref m_posts, .ref m_shut, .ref m_here, .int j_steps_4, .int j_done_5, .int i_at, .int i_gone, .ref m_was, .ref m_came, .ref m_seenAt, .ref m_rowWorth, .ref m_farBy, .ref m_used, .int i_everywhere, .int i_again0, .int i_d0, .int i_never, .int i_firstCame, .int i_longRun, .int i_moved, .int i_crowd, .int i_l0, .int i_fitMany, .int i_fitLeast, .int i_fitMost, .ref m_fitPost, .ref m_fitEnd, .ref m_keptPosts, .int i_x0]))], [(m_all, .inl (T.2 0, 3952, .inl f_all))]]) (br := [[(m_posts, .inl (T.2 0, 7, .inl g_posts_6))], [(m_shut, .inl (T.2 0, 7, .inl g_shut_7))], [(m_here, .inl (T.2 0, 7, .inl g_here_8))]]) (As := [.int (w_ - w_ / 10 * 10)]) (rest := []) C G (c_m_postTold l T mo m_all m_has i_size i_next i_where i_token i_number i_word i_wrong i_farCrossing m_read 610 j_crossings_2 j_inns_3 m_posts m_shut m_here j_steps_4 j_done_5 i_at i_gone m_was m_came m_seenAt m_rowWorth m_farBy m_used i_everywhere i_again0 i_d0 i_never i_firstCame i_longRun i_moved i_crowd i_l0 i_fitMany i_fitLeast i_fitMost m_fitPost m_fitEnd m_keptPosts i_x0 f_all (w_ - w_ / 10 * 10) (by first | assumption | omega | rfl) (by first | assumption | omega | rfl) (by first | assumption | omega | rfl)) (kV_RX12_193 C.2.2.2.2 (Nat.le_of_ble_eq_true rfl) (Nat.le_of_ble_eq_true rfl)) [4, 0] [1, 2, 3] rfl rfl (ci := 11) (qc := (RX12, TX12, 43)) rfl rfl (List.mem_flatten.mpr ⟨_, List.mem_of_getElem? (i := 0) rfl, List.mem_cons_self⟩) rfl rfl hl.1 dX12_land_131 (Nat.le_of_ble_eq_true rfl) (Nat.le_of_ble_eq_true rfl) (fun r_45 b1 H locs hw G => ?_)
                    obtain ⟨rfl, h_42, h_43, h_44⟩ := hw
                    have G : zS T A s.heap s [[(m_posts, .inl (T.2 0, 7, .inl g_posts_6))], [(m_shut, .inl (T.2 0, 7, .inl g_shut_7))], [(m_here, .inl (T.2 0, 7, .inl g_here_8))], [(mo, .inr (11, [.ref m_all, .ref m_has, .int i_size, .int i_next, .int i_where, .int i_token, .int i_number, .int i_word, .int i_wrong, .int i_farCrossing, .ref m_read, .int 610, .int j_crossings_2, .int j_inns_3, .ref m_posts, .ref m_shut, .ref m_here, .int j_steps_4, .int j_done_5, .int i_at, .int i_gone, .ref m_was, .ref m_came, .ref m_seenAt, .ref m_rowWorth, .ref m_farBy, .ref m_used, .int i_everywhere, .int i_again0, .int i_d0, .int i_never, .int i_firstCame, .int i_longRun, .int i_moved, .int i_crowd, .int i_l0, .int i_fitMany, .int i_fitLeast, .int i_fitMost, .ref m_fitPost, .ref m_fitEnd, .ref m_keptPosts, .int i_x0]))], [(m_all, .inl (T.2 0, 3952, .inl f_all))]] _ _ := G
                    subst h_42
                    refine lv_goto (tgt := 151) hx hb dX12_land_134 (by decide) ?_
                    have G := G.sub (bs' := [[(mo, .inr (11, [.ref m_all, .ref m_has, .int i_size, .int i_next, .int i_where, .int i_token, .int i_number, .int i_word, .int i_wrong, .int i_farCrossing, .ref m_read, .int 610, .int j_crossings_2, .int j_inns_3, .ref m_posts, .ref m_shut, .ref m_here, .int j_steps_4, .int j_done_5, .int i_at, .int i_gone, .ref m_was, .ref m_came, .ref m_seenAt, .ref m_rowWorth, .ref m_farBy, .ref m_used, .int i_everywhere, .int i_again0, .int i_d0, .int i_never, .int i_firstCame, .int i_longRun, .int i_moved, .int i_crowd, .int i_l0, .int i_fitMany, .int i_fitLeast, .int i_fitMost, .ref m_fitPost, .ref m_fitEnd, .ref m_keptPosts, .int i_x0]))], [(m_all, .inl (T.2 0, 3952, .inl f_all))], [(m_posts, .inl (T.2 0, 7, .inl g_posts_6))], [(m_shut, .inl (T.2 0, 7, .inl g_shut_7))], [(m_here, .inl (T.2 0, 7, .inl g_here_8))]]) [3, 4, 0, 1, 2] rfl
                    exact z_iret C hr hlocks G (Nat.le_of_ble_eq_true rfl) (Nat.le_of_ble_eq_true rfl) dX12_land_151 ⟨610, j_crossings_2, j_inns_3, j_steps_4, j_done_5, g_posts_6, g_shut_7, g_here_8, rfl, (Or.inr (Or.inl ⟨by assumption, by omega, (pLt_c2 (f := f_all) (by omega) (by show ((610 + (9 + (w_ - w_ / 10 * 10).toInt.toNat) : Nat) : Int) = _; omega))⟩))⟩
                · have c_37n : ¬ (20 : Int) ≤ w_.toInt := fun q => c_37 ((fa_le _ _).mpr q)
                  refine lv_aload_n hx hb dX12_land_115 rfl (lv_at hl 1 rfl) ?_
                  refine lv_iload_n hx hb dX12_land_116 rfl (lv_at hl 0 rfl) ?_
                  refine z_Vi (bc := [[(mo, .inr (11, [.ref m_all, .ref m_has, .int i_size, .int i_next, .int i_where, .int i_token, .int i_number, .int i_word, .int i_wrong, .int i_farCrossing, .ref m_read, .int 610, .int j_crossings_2, .int j_inns_3, .ref m_posts, .ref m_shut, .ref m_here, .int j_steps_4, .int j_done_5, .int i_at, .int i_gone, .ref m_was, .ref m_came, .ref m_seenAt, .ref m_rowWorth, .ref m_farBy, .ref m_used, .int i_everywhere, .int i_again0, .int i_d0, .int i_never, .int i_firstCame, .int i_longRun, .int i_moved, .int i_crowd, .int i_l0, .int i_fitMany, .int i_fitLeast, .int i_fitMost, .ref m_fitPost, .ref m_fitEnd, .ref m_keptPosts, .int i_x0]))], [(m_all, .inl (T.2 0, 3952, .inl f_all))]]) (br := [[(m_posts, .inl (T.2 0, 7, .inl g_posts_6))], [(m_shut, .inl (T.2 0, 7, .inl g_shut_7))], [(m_here, .inl (T.2 0, 7, .inl g_here_8))]]) (As := [.int (w_ - w_ / 10 * 10)]) (rest := []) C G (c_m_roadsOf l T mo m_all m_has i_size i_next i_where i_token i_number i_word i_wrong i_farCrossing m_read 610 j_crossings_2 j_inns_3 m_posts m_shut m_here j_steps_4 j_done_5 i_at i_gone m_was m_came m_seenAt m_rowWorth m_farBy m_used i_everywhere i_again0 i_d0 i_never i_firstCame i_longRun i_moved i_crowd i_l0 i_fitMany i_fitLeast i_fitMost m_fitPost m_fitEnd m_keptPosts i_x0 f_all (w_ - w_ / 10 * 10) (by first | assumption | omega | rfl) (by first | assumption | omega | rfl) (by first | assumption | omega | rfl)) (kV_RX12_181 C.2.2.2.2 (Nat.le_of_ble_eq_true rfl) (Nat.le_of_ble_eq_true rfl)) [4, 0] [1, 2, 3] rfl rfl (ci := 11) (qc := (RX12, TX12, 43)) rfl rfl (List.mem_flatten.mpr ⟨_, List.mem_of_getElem? (i := 0) rfl, List.mem_cons_self⟩) rfl rfl hl.1 dX12_land_117 (Nat.le_of_ble_eq_true rfl) (Nat.le_of_ble_eq_true rfl) (fun r_49 b1 H locs hw G => ?_)
                  obtain ⟨rfl, h_46, h_47, h_48⟩ := hw
                  have G : zS T A s.heap s [[(m_posts, .inl (T.2 0, 7, .inl g_posts_6))], [(m_shut, .inl (T.2 0, 7, .inl g_shut_7))], [(m_here, .inl (T.2 0, 7, .inl g_here_8))], [(mo, .inr (11, [.ref m_all, .ref m_has, .int i_size, .int i_next, .int i_where, .int i_token, .int i_number, .int i_word, .int i_wrong, .int i_farCrossing, .ref m_read, .int 610, .int j_crossings_2, .int j_inns_3, .ref m_posts, .ref m_shut, .ref m_here, .int j_steps_4, .int j_done_5, .int i_at, .int i_gone, .ref m_was, .ref m_came, .ref m_seenAt, .ref m_rowWorth, .ref m_farBy, .ref m_used, .int i_everywhere, .int i_again0, .int i_d0, .int i_never, .int i_firstCame, .int i_longRun, .int i_moved, .int i_crowd, .int i_l0, .int i_fitMany, .int i_fitLeast, .int i_fitMost, .ref m_fitPost, .ref m_fitEnd, .ref m_keptPosts, .int i_x0]))], [(m_all, .inl (T.2 0, 3952, .inl f_all))]] _ _ := G
                  subst h_46
                  refine lv_goto (tgt := 151) hx hb dX12_land_120 (by decide) ?_
                  have G := G.sub (bs' := [[(mo, .inr (11, [.ref m_all, .ref m_has, .int i_size, .int i_next, .int i_where, .int i_token, .int i_number, .int i_word, .int i_wrong, .int i_farCrossing, .ref m_read, .int 610, .int j_crossings_2, .int j_inns_3, .ref m_posts, .ref m_shut, .ref m_here, .int j_steps_4, .int j_done_5, .int i_at, .int i_gone, .ref m_was, .ref m_came, .ref m_seenAt, .ref m_rowWorth, .ref m_farBy, .ref m_used, .int i_everywhere, .int i_again0, .int i_d0, .int i_never, .int i_firstCame, .int i_longRun, .int i_moved, .int i_crowd, .int i_l0, .int i_fitMany, .int i_fitLeast, .int i_fitMost, .ref m_fitPost, .ref m_fitEnd, .ref m_keptPosts, .int i_x0]))], [(m_all, .inl (T.2 0, 3952, .inl f_all))], [(m_posts, .inl (T.2 0, 7, .inl g_posts_6))], [(m_shut, .inl (T.2 0, 7, .inl g_shut_7))], [(m_here, .inl (T.2 0, 7, .inl g_here_8))]]) [3, 4, 0, 1, 2] rfl
                  exact z_iret C hr hlocks G (Nat.le_of_ble_eq_true rfl) (Nat.le_of_ble_eq_true rfl) dX12_land_151 ⟨610, j_crossings_2, j_inns_3, j_steps_4, j_done_5, g_posts_6, g_shut_7, g_here_8, rfl, (Or.inr (Or.inl ⟨by assumption, by omega, (pLt_c1 (f := f_all) (by omega) (by show ((610 + (2 + (w_ - w_ / 10 * 10).toInt.toNat) : Nat) : Int) = _; omega))⟩))⟩
              · have h_36 : ((w_ - w_ / 10 * 10).toInt < 0 ∨ j_crossings_2.toInt ≤ (w_ - w_ / 10 * 10).toInt) := h_36
                refine lv_if_ne (tgt := 109) hx hb dX12_land_104 (by decide) (fun q => absurd (by decide) q) (fun _ => ?_)
                refine lv_iconst (v := (-1)) hx hb dX12_land_107 (by decide) ?_
                have G := G.sub (bs' := [[(mo, .inr (11, [.ref m_all, .ref m_has, .int i_size, .int i_next, .int i_where, .int i_token, .int i_number, .int i_word, .int i_wrong, .int i_farCrossing, .ref m_read, .int 610, .int j_crossings_2, .int j_inns_3, .ref m_posts, .ref m_shut, .ref m_here, .int j_steps_4, .int j_done_5, .int i_at, .int i_gone, .ref m_was, .ref m_came, .ref m_seenAt, .ref m_rowWorth, .ref m_farBy, .ref m_used, .int i_everywhere, .int i_again0, .int i_d0, .int i_never, .int i_firstCame, .int i_longRun, .int i_moved, .int i_crowd, .int i_l0, .int i_fitMany, .int i_fitLeast, .int i_fitMost, .ref m_fitPost, .ref m_fitEnd, .ref m_keptPosts, .int i_x0]))], [(m_all, .inl (T.2 0, 3952, .inl f_all))], [(m_posts, .inl (T.2 0, 7, .inl g_posts_6))], [(m_shut, .inl (T.2 0, 7, .inl g_shut_7))], [(m_here, .inl (T.2 0, 7, .inl g_here_8))]]) [4, 0, 1, 2, 3] rfl
                exact z_iret C hr hlocks G (Nat.le_of_ble_eq_true rfl) (Nat.le_of_ble_eq_true rfl) dX12_land_108 ⟨610, j_crossings_2, j_inns_3, j_steps_4, j_done_5, g_posts_6, g_shut_7, g_here_8, rfl, (Or.inr (Or.inl ⟨by assumption, by omega, (by first | exact pLt_m (by omega) | exact pLt_cn (by omega) (by omega) | exact pLt_bn (by omega) (by omega) | exact pLt_bn (by omega) (fun q9 => by have q7 := q9.2; rw [← zRd_x0 (f := f_all) (w := w_) (by omega)] at q7; omega))⟩))⟩
            · have h_31 : (w_.toInt < (10 : Int) ∨ (39 : Int) < w_.toInt) := h_31
              refine lv_if_eq (tgt := 107) hx hb dX12_land_96 (by decide) (fun _ => ?_) (fun q => absurd (by decide) q)
              refine lv_iconst (v := (-1)) hx hb dX12_land_107 (by decide) ?_
              exact z_iret C hr hlocks G (Nat.le_of_ble_eq_true rfl) (Nat.le_of_ble_eq_true rfl) dX12_land_108 ⟨610, j_crossings_2, j_inns_3, j_steps_4, j_done_5, g_posts_6, g_shut_7, g_here_8, rfl, (Or.inr (Or.inl ⟨by assumption, by omega, (by first | exact pLt_m (by omega) | exact pLt_cn (by omega) (by omega) | exact pLt_bn (by omega) (by omega) | exact pLt_bn (by omega) (fun q9 => by have q7 := q9.2; rw [← zRd_x0 (f := f_all) (w := w_) (by omega)] at q7; omega))⟩))⟩
          · have c_26n : ¬ w_.toInt < (100 : Int) := fun q => c_26 ((fa_lt _ _).mpr q)
            have hsx := zD10 (x := w_) (by omega)
            refine lv_aload_n hx hb dX12_land_42 rfl (lv_at hl 1 rfl) ?_
            refine lv_iload_n hx hb dX12_land_43 rfl (lv_at hl 3 rfl) ?_
            refine lv_bipush (v := 10) hx hb dX12_land_44 (by decide) ?_
            refine lv_idiv hx hb dX12_land_46 (by decide) ?_
            refine lv_bipush (v := 10) hx hb dX12_land_47 (by decide) ?_
            refine lv_isub hx hb dX12_land_49 ?_
            refine z_Vi (bc := [[(mo, .inr (11, [.ref m_all, .ref m_has, .int i_size, .int i_next, .int i_where, .int i_token, .int i_number, .int i_word, .int i_wrong, .int i_farCrossing, .ref m_read, .int 610, .int j_crossings_2, .int j_inns_3, .ref m_posts, .ref m_shut, .ref m_here, .int j_steps_4, .int j_done_5, .int i_at, .int i_gone, .ref m_was, .ref m_came, .ref m_seenAt, .ref m_rowWorth, .ref m_farBy, .ref m_used, .int i_everywhere, .int i_again0, .int i_d0, .int i_never, .int i_firstCame, .int i_longRun, .int i_moved, .int i_crowd, .int i_l0, .int i_fitMany, .int i_fitLeast, .int i_fitMost, .ref m_fitPost, .ref m_fitEnd, .ref m_keptPosts, .int i_x0]))]]) (br := [[(m_all, .inl (T.2 0, 3952, .inl f_all))], [(m_posts, .inl (T.2 0, 7, .inl g_posts_6))], [(m_shut, .inl (T.2 0, 7, .inl g_shut_7))], [(m_here, .inl (T.2 0, 7, .inl g_here_8))]]) (As := [.int ((w_ / 10) - 10)]) (rest := []) C G (c_m_isCrossing l T mo m_all m_has i_size i_next i_where i_token i_number i_word i_wrong i_farCrossing m_read 610 j_crossings_2 j_inns_3 m_posts m_shut m_here j_steps_4 j_done_5 i_at i_gone m_was m_came m_seenAt m_rowWorth m_farBy m_used i_everywhere i_again0 i_d0 i_never i_firstCame i_longRun i_moved i_crowd i_l0 i_fitMany i_fitLeast i_fitMost m_fitPost m_fitEnd m_keptPosts i_x0 ((w_ / 10) - 10) (by first | assumption | omega | rfl)) (kV_RX12_187 C.2.2.2.2 (Nat.le_of_ble_eq_true rfl) (Nat.le_of_ble_eq_true rfl)) [0] [1, 2, 3, 4] rfl rfl (ci := 11) (qc := (RX12, TX12, 43)) rfl rfl (List.mem_flatten.mpr ⟨_, List.mem_of_getElem? (i := 0) rfl, List.mem_cons_self⟩) rfl rfl hl.1 dX12_land_50 (Nat.le_of_ble_eq_true rfl) (Nat.le_of_ble_eq_true rfl) (fun r_51 b1 H locs hw G => ?_)
            obtain ⟨rfl, hc_50⟩ := hw
            have G : zS T A s.heap s [[(m_all, .inl (T.2 0, 3952, .inl f_all))], [(m_posts, .inl (T.2 0, 7, .inl g_posts_6))], [(m_shut, .inl (T.2 0, 7, .inl g_shut_7))], [(m_here, .inl (T.2 0, 7, .inl g_here_8))], [(mo, .inr (11, [.ref m_all, .ref m_has, .int i_size, .int i_next, .int i_where, .int i_token, .int i_number, .int i_word, .int i_wrong, .int i_farCrossing, .ref m_read, .int 610, .int j_crossings_2, .int j_inns_3, .ref m_posts, .ref m_shut, .ref m_here, .int j_steps_4, .int j_done_5, .int i_at, .int i_gone, .ref m_was, .ref m_came, .ref m_seenAt, .ref m_rowWorth, .ref m_farBy, .ref m_used, .int i_everywhere, .int i_again0, .int i_d0, .int i_never, .int i_firstCame, .int i_longRun, .int i_moved, .int i_crowd, .int i_l0, .int i_fitMany, .int i_fitLeast, .int i_fitMost, .ref m_fitPost, .ref m_fitEnd, .ref m_keptPosts, .int i_x0]))]] _ _ := G
            rcases hc_50 with ⟨rfl, h_52, h_53⟩ | ⟨rfl, h_54⟩
            · have h_52 : 0 ≤ ((w_ / 10) - 10).toInt := h_52
              have h_53 : ((w_ / 10) - 10).toInt < j_crossings_2.toInt := h_53
              refine lv_if_eq (tgt := 86) hx hb dX12_land_53 (by decide) (fun q => absurd q (by decide)) (fun _ => ?_)
              refine lv_iload_n hx hb dX12_land_56 rfl (lv_at hl 0 rfl) ?_
              refine lv_aload_n hx hb dX12_land_57 rfl (lv_at hl 1 rfl) ?_
              refine lv_iload_n hx hb dX12_land_58 rfl (lv_at hl 3 rfl) ?_
              refine lv_bipush (v := 10) hx hb dX12_land_59 (by decide) ?_
              refine lv_idiv hx hb dX12_land_61 (by decide) ?_
              refine lv_bipush (v := 10) hx hb dX12_land_62 (by decide) ?_
              refine lv_isub hx hb dX12_land_64 ?_
              refine z_Vi (bc := [[(mo, .inr (11, [.ref m_all, .ref m_has, .int i_size, .int i_next, .int i_where, .int i_token, .int i_number, .int i_word, .int i_wrong, .int i_farCrossing, .ref m_read, .int 610, .int j_crossings_2, .int j_inns_3, .ref m_posts, .ref m_shut, .ref m_here, .int j_steps_4, .int j_done_5, .int i_at, .int i_gone, .ref m_was, .ref m_came, .ref m_seenAt, .ref m_rowWorth, .ref m_farBy, .ref m_used, .int i_everywhere, .int i_again0, .int i_d0, .int i_never, .int i_firstCame, .int i_longRun, .int i_moved, .int i_crowd, .int i_l0, .int i_fitMany, .int i_fitLeast, .int i_fitMost, .ref m_fitPost, .ref m_fitEnd, .ref m_keptPosts, .int i_x0]))], [(m_all, .inl (T.2 0, 3952, .inl f_all))]]) (br := [[(m_posts, .inl (T.2 0, 7, .inl g_posts_6))], [(m_shut, .inl (T.2 0, 7, .inl g_shut_7))], [(m_here, .inl (T.2 0, 7, .inl g_here_8))]]) (As := [.int ((w_ / 10) - 10)]) (rest := [.int (w_ - w_ / 10 * 10)]) C G (c_m_roadsOf l T mo m_all m_has i_size i_next i_where i_token i_number i_word i_wrong i_farCrossing m_read 610 j_crossings_2 j_inns_3 m_posts m_shut m_here j_steps_4 j_done_5 i_at i_gone m_was m_came m_seenAt m_rowWorth m_farBy m_used i_everywhere i_again0 i_d0 i_never i_firstCame i_longRun i_moved i_crowd i_l0 i_fitMany i_fitLeast i_fitMost m_fitPost m_fitEnd m_keptPosts i_x0 f_all ((w_ / 10) - 10) (by first | assumption | omega | rfl) (by first | assumption | omega | rfl) (by first | assumption | omega | rfl)) (kV_RX12_181 C.2.2.2.2 (Nat.le_of_ble_eq_true rfl) (Nat.le_of_ble_eq_true rfl)) [4, 0] [1, 2, 3] rfl rfl (ci := 11) (qc := (RX12, TX12, 43)) rfl rfl (List.mem_flatten.mpr ⟨_, List.mem_of_getElem? (i := 0) rfl, List.mem_cons_self⟩) rfl rfl hl.1 dX12_land_65 (Nat.le_of_ble_eq_true rfl) (Nat.le_of_ble_eq_true rfl) (fun r_58 b1 H locs hw G => ?_)
              obtain ⟨rfl, h_55, h_56, h_57⟩ := hw
              have G : zS T A s.heap s [[(m_posts, .inl (T.2 0, 7, .inl g_posts_6))], [(m_shut, .inl (T.2 0, 7, .inl g_shut_7))], [(m_here, .inl (T.2 0, 7, .inl g_here_8))], [(mo, .inr (11, [.ref m_all, .ref m_has, .int i_size, .int i_next, .int i_where, .int i_token, .int i_number, .int i_word, .int i_wrong, .int i_farCrossing, .ref m_read, .int 610, .int j_crossings_2, .int j_inns_3, .ref m_posts, .ref m_shut, .ref m_here, .int j_steps_4, .int j_done_5, .int i_at, .int i_gone, .ref m_was, .ref m_came, .ref m_seenAt, .ref m_rowWorth, .ref m_farBy, .ref m_used, .int i_everywhere, .int i_again0, .int i_d0, .int i_never, .int i_firstCame, .int i_longRun, .int i_moved, .int i_crowd, .int i_l0, .int i_fitMany, .int i_fitLeast, .int i_fitMost, .ref m_fitPost, .ref m_fitEnd, .ref m_keptPosts, .int i_x0]))], [(m_all, .inl (T.2 0, 3952, .inl f_all))]] _ _ := G
              subst h_55
              refine lv_icmp_ge (tgt := 86) hx hb dX12_land_68 (by decide) (fun c_59 => ?_) (fun c_59 => ?_)
              · have c_59n : (zRd f_all 610 ((w_ / 10) - 10)).toInt ≤ (w_ - w_ / 10 * 10).toInt := (fa_le _ _).mp c_59
                refine lv_iconst (v := (-1)) hx hb dX12_land_86 (by decide) ?_
                have G := G.sub (bs' := [[(mo, .inr (11, [.ref m_all, .ref m_has, .int i_size, .int i_next, .int i_where, .int i_token, .int i_number, .int i_word, .int i_wrong, .int i_farCrossing, .ref m_read, .int 610, .int j_crossings_2, .int j_inns_3, .ref m_posts, .ref m_shut, .ref m_here, .int j_steps_4, .int j_done_5, .int i_at, .int i_gone, .ref m_was, .ref m_came, .ref m_seenAt, .ref m_rowWorth, .ref m_farBy, .ref m_used, .int i_everywhere, .int i_again0, .int i_d0, .int i_never, .int i_firstCame, .int i_longRun, .int i_moved, .int i_crowd, .int i_l0, .int i_fitMany, .int i_fitLeast, .int i_fitMost, .ref m_fitPost, .ref m_fitEnd, .ref m_keptPosts, .int i_x0]))], [(m_all, .inl (T.2 0, 3952, .inl f_all))], [(m_posts, .inl (T.2 0, 7, .inl g_posts_6))], [(m_shut, .inl (T.2 0, 7, .inl g_shut_7))], [(m_here, .inl (T.2 0, 7, .inl g_here_8))]]) [3, 4, 0, 1, 2] rfl
                exact z_iret C hr hlocks G (Nat.le_of_ble_eq_true rfl) (Nat.le_of_ble_eq_true rfl) dX12_land_87 ⟨610, j_crossings_2, j_inns_3, j_steps_4, j_done_5, g_posts_6, g_shut_7, g_here_8, rfl, (Or.inr (Or.inl ⟨by assumption, by omega, (by first | exact pLt_m (by omega) | exact pLt_cn (by omega) (by omega) | exact pLt_bn (by omega) (by omega) | exact pLt_bn (by omega) (fun q9 => by have q7 := q9.2; rw [← zRd_x0 (f := f_all) (w := w_) (by omega)] at q7; omega))⟩))⟩
              · have c_59n : ¬ (zRd f_all 610 ((w_ / 10) - 10)).toInt ≤ (w_ - w_ / 10 * 10).toInt := fun q => c_59 ((fa_le _ _).mpr q)
                refine lv_aload_n hx hb dX12_land_71 rfl (lv_at hl 1 rfl) ?_
                refine lv_iload_n hx hb dX12_land_72 rfl (lv_at hl 3 rfl) ?_
                refine lv_bipush (v := 10) hx hb dX12_land_73 (by decide) ?_
                refine lv_idiv hx hb dX12_land_75 (by decide) ?_
                refine lv_bipush (v := 10) hx hb dX12_land_76 (by decide) ?_
                refine lv_isub hx hb dX12_land_78 ?_
                refine lv_iload_n hx hb dX12_land_79 rfl (lv_at hl 0 rfl) ?_
                refine z_Vi (bc := [[(mo, .inr (11, [.ref m_all, .ref m_has, .int i_size, .int i_next, .int i_where, .int i_token, .int i_number, .int i_word, .int i_wrong, .int i_farCrossing, .ref m_read, .int 610, .int j_crossings_2, .int j_inns_3, .ref m_posts, .ref m_shut, .ref m_here, .int j_steps_4, .int j_done_5, .int i_at, .int i_gone, .ref m_was, .ref m_came, .ref m_seenAt, .ref m_rowWorth, .ref m_farBy, .ref m_used, .int i_everywhere, .int i_again0, .int i_d0, .int i_never, .int i_firstCame, .int i_longRun, .int i_moved, .int i_crowd, .int i_l0, .int i_fitMany, .int i_fitLeast, .int i_fitMost, .ref m_fitPost, .ref m_fitEnd, .ref m_keptPosts, .int i_x0]))], [(m_all, .inl (T.2 0, 3952, .inl f_all))]]) (br := [[(m_posts, .inl (T.2 0, 7, .inl g_posts_6))], [(m_shut, .inl (T.2 0, 7, .inl g_shut_7))], [(m_here, .inl (T.2 0, 7, .inl g_here_8))]]) (As := [.int ((w_ / 10) - 10), .int (w_ - w_ / 10 * 10)]) (rest := []) C G (c_m_leadsTo l T mo m_all m_has i_size i_next i_where i_token i_number i_word i_wrong i_farCrossing m_read 610 j_crossings_2 j_inns_3 m_posts m_shut m_here j_steps_4 j_done_5 i_at i_gone m_was m_came m_seenAt m_rowWorth m_farBy m_used i_everywhere i_again0 i_d0 i_never i_firstCame i_longRun i_moved i_crowd i_l0 i_fitMany i_fitLeast i_fitMost m_fitPost m_fitEnd m_keptPosts i_x0 f_all ((w_ / 10) - 10) (w_ - w_ / 10 * 10) (by first | assumption | omega | rfl) (by first | assumption | omega | rfl) (by first | assumption | omega | rfl) (by first | assumption | omega | rfl) (by first | assumption | omega | rfl)) (kV_RX12_190 C.2.2.2.2 (Nat.le_of_ble_eq_true rfl) (Nat.le_of_ble_eq_true rfl)) [3, 4] [0, 1, 2] rfl rfl (ci := 11) (qc := (RX12, TX12, 43)) rfl rfl (List.mem_flatten.mpr ⟨_, List.mem_of_getElem? (i := 0) rfl, List.mem_cons_self⟩) rfl rfl hl.1 dX12_land_80 (Nat.le_of_ble_eq_true rfl) (Nat.le_of_ble_eq_true rfl) (fun r_63 b1 H locs hw G => ?_)
                obtain ⟨rfl, h_60, h_61, h_62⟩ := hw
                have G : zS T A s.heap s [[(m_posts, .inl (T.2 0, 7, .inl g_posts_6))], [(m_shut, .inl (T.2 0, 7, .inl g_shut_7))], [(m_here, .inl (T.2 0, 7, .inl g_here_8))], [(mo, .inr (11, [.ref m_all, .ref m_has, .int i_size, .int i_next, .int i_where, .int i_token, .int i_number, .int i_word, .int i_wrong, .int i_farCrossing, .ref m_read, .int 610, .int j_crossings_2, .int j_inns_3, .ref m_posts, .ref m_shut, .ref m_here, .int j_steps_4, .int j_done_5, .int i_at, .int i_gone, .ref m_was, .ref m_came, .ref m_seenAt, .ref m_rowWorth, .ref m_farBy, .ref m_used, .int i_everywhere, .int i_again0, .int i_d0, .int i_never, .int i_firstCame, .int i_longRun, .int i_moved, .int i_crowd, .int i_l0, .int i_fitMany, .int i_fitLeast, .int i_fitMost, .ref m_fitPost, .ref m_fitEnd, .ref m_keptPosts, .int i_x0]))], [(m_all, .inl (T.2 0, 3952, .inl f_all))]] _ _ := G
                subst h_60
                refine lv_goto (tgt := 87) hx hb dX12_land_83 (by decide) ?_
                have G := G.sub (bs' := [[(mo, .inr (11, [.ref m_all, .ref m_has, .int i_size, .int i_next, .int i_where, .int i_token, .int i_number, .int i_word, .int i_wrong, .int i_farCrossing, .ref m_read, .int 610, .int j_crossings_2, .int j_inns_3, .ref m_posts, .ref m_shut, .ref m_here, .int j_steps_4, .int j_done_5, .int i_at, .int i_gone, .ref m_was, .ref m_came, .ref m_seenAt, .ref m_rowWorth, .ref m_farBy, .ref m_used, .int i_everywhere, .int i_again0, .int i_d0, .int i_never, .int i_firstCame, .int i_longRun, .int i_moved, .int i_crowd, .int i_l0, .int i_fitMany, .int i_fitLeast, .int i_fitMost, .ref m_fitPost, .ref m_fitEnd, .ref m_keptPosts, .int i_x0]))], [(m_all, .inl (T.2 0, 3952, .inl f_all))], [(m_posts, .inl (T.2 0, 7, .inl g_posts_6))], [(m_shut, .inl (T.2 0, 7, .inl g_shut_7))], [(m_here, .inl (T.2 0, 7, .inl g_here_8))]]) [3, 4, 0, 1, 2] rfl
                exact z_iret C hr hlocks G (Nat.le_of_ble_eq_true rfl) (Nat.le_of_ble_eq_true rfl) dX12_land_87 ⟨610, j_crossings_2, j_inns_3, j_steps_4, j_done_5, g_posts_6, g_shut_7, g_here_8, rfl, (Or.inr (Or.inl ⟨by assumption, by omega, (pLt_b (f := f_all) (by omega) ⟨by omega, by rw [← zRd_x0 (f := f_all) (w := w_) (by omega)]; omega⟩ (by show ((610 + (23 + (4 * ((w_ / 10) - 10).toInt.toNat + (w_ - w_ / 10 * 10).toInt.toNat)) : Nat) : Int) = _; omega))⟩))⟩
            · have h_54 : (((w_ / 10) - 10).toInt < 0 ∨ j_crossings_2.toInt ≤ ((w_ / 10) - 10).toInt) := h_54
              refine lv_if_eq (tgt := 86) hx hb dX12_land_53 (by decide) (fun _ => ?_) (fun q => absurd (by decide) q)
              refine lv_iconst (v := (-1)) hx hb dX12_land_86 (by decide) ?_
              have G := G.sub (bs' := [[(mo, .inr (11, [.ref m_all, .ref m_has, .int i_size, .int i_next, .int i_where, .int i_token, .int i_number, .int i_word, .int i_wrong, .int i_farCrossing, .ref m_read, .int 610, .int j_crossings_2, .int j_inns_3, .ref m_posts, .ref m_shut, .ref m_here, .int j_steps_4, .int j_done_5, .int i_at, .int i_gone, .ref m_was, .ref m_came, .ref m_seenAt, .ref m_rowWorth, .ref m_farBy, .ref m_used, .int i_everywhere, .int i_again0, .int i_d0, .int i_never, .int i_firstCame, .int i_longRun, .int i_moved, .int i_crowd, .int i_l0, .int i_fitMany, .int i_fitLeast, .int i_fitMost, .ref m_fitPost, .ref m_fitEnd, .ref m_keptPosts, .int i_x0]))], [(m_all, .inl (T.2 0, 3952, .inl f_all))], [(m_posts, .inl (T.2 0, 7, .inl g_posts_6))], [(m_shut, .inl (T.2 0, 7, .inl g_shut_7))], [(m_here, .inl (T.2 0, 7, .inl g_here_8))]]) [4, 0, 1, 2, 3] rfl
              exact z_iret C hr hlocks G (Nat.le_of_ble_eq_true rfl) (Nat.le_of_ble_eq_true rfl) dX12_land_87 ⟨610, j_crossings_2, j_inns_3, j_steps_4, j_done_5, g_posts_6, g_shut_7, g_here_8, rfl, (Or.inr (Or.inl ⟨by assumption, by omega, (by first | exact pLt_m (by omega) | exact pLt_cn (by omega) (by omega) | exact pLt_bn (by omega) (by omega) | exact pLt_bn (by omega) (fun q9 => by have q7 := q9.2; rw [← zRd_x0 (f := f_all) (w := w_) (by omega)] at q7; omega))⟩))⟩
        · have c_25n : ¬ (2 : Int) ≤ w_.toInt := fun q => c_25 ((fa_le _ _).mpr q)
          refine lv_aload_n hx hb dX12_land_19 rfl (lv_at hl 0 rfl) ?_
          refine z_get C G clX12 0 rfl 0 (by decide) m_fl_RX12_7 rfl dX12_land_20 ?_
          refine lv_aload_n hx hb dX12_land_23 rfl (lv_at hl 0 rfl) ?_
          refine z_get C G clX12 0 rfl 11 (by decide) m_fl_RX12_166 rfl dX12_land_24 ?_
          refine lv_iload_n hx hb dX12_land_27 rfl (lv_at hl 2 rfl) ?_
          refine lv_iadd hx hb dX12_land_28 ?_
          refine lv_topi (fun y_64 ey_64 => ?_)
          have ey_64i : y_64.toInt = (610 : Int) + w_.toInt := by rw [ey_64]; exact z_iaddI (x := (610 : Int32)) (y := w_) (by show -2147483648 ≤ (610 : Int) + w_.toInt; omega) (by show (610 : Int) + w_.toInt < 2147483648; omega)
          refine z_ild C G 1 rfl (vp_in_iff.mpr ⟨by omega, by omega⟩) dX12_land_29 ?_
          refine lv_topi (fun v_65 ev_65 => ?_)
          subst ev_65
          exact z_iret C hr hlocks G (Nat.le_of_ble_eq_true rfl) (Nat.le_of_ble_eq_true rfl) dX12_land_30 ⟨610, j_crossings_2, j_inns_3, j_steps_4, j_done_5, g_posts_6, g_shut_7, g_here_8, rfl, (Or.inr (Or.inl ⟨by assumption, by omega, (by have q9 := z_clI (x := y_64) (by omega); first | exact pLt_a (by omega) (by omega) | exact pLt_c3 (by omega) (by omega))⟩))⟩
      · have c_24n : ¬ (0 : Int) ≤ w_.toInt := fun q => c_24 ((fa_le _ _).mpr q)
        refine lv_iconst (v := (-1)) hx hb dX12_land_12 (by decide) ?_
        exact z_iret C hr hlocks G (Nat.le_of_ble_eq_true rfl) (Nat.le_of_ble_eq_true rfl) dX12_land_13 ⟨610, j_crossings_2, j_inns_3, j_steps_4, j_done_5, g_posts_6, g_shut_7, g_here_8, rfl, (Or.inr (Or.inl ⟨by assumption, by omega, (by first | exact pLt_m (by omega) | exact pLt_cn (by omega) (by omega) | exact pLt_bn (by omega) (by omega) | exact pLt_bn (by omega) (fun q9 => by have q7 := q9.2; rw [← zRd_x0 (f := f_all) (w := w_) (by omega)] at q7; omega))⟩))⟩
    · obtain rfl : j_z0_1 = 661 := Int32.toInt_inj.mp (by show j_z0_1.toInt = 661; omega)
      have hcx : j_crossings_2.toInt = (f_all 661).toInt := by rw [hLx.2.1]; rfl
      refine lv_iload_n hx hb dX12_land_8 rfl (lv_at hl 2 rfl) ?_
      refine lv_if_ge (tgt := 14) hx hb dX12_land_9 (by decide) (fun c_66 => ?_) (fun c_66 => ?_)
      · have c_66n : (0 : Int) ≤ w_.toInt := (fa_le _ _).mp c_66
        refine lv_iload_n hx hb dX12_land_14 rfl (lv_at hl 2 rfl) ?_
        refine lv_iconst (v := 2) hx hb dX12_land_15 (by decide) ?_
        refine lv_icmp_ge (tgt := 31) hx hb dX12_land_16 (by decide) (fun c_67 => ?_) (fun c_67 => ?_)
        · have c_67n : (2 : Int) ≤ w_.toInt := (fa_le _ _).mp c_67
          refine lv_iload_n hx hb dX12_land_31 rfl (lv_at hl 2 rfl) ?_
          refine lv_bipush (v := 10) hx hb dX12_land_32 (by decide) ?_
          refine lv_irem hx hb dX12_land_34 (by decide) ?_
          have hrm := zRem (x := w_) (y := 10) (by omega) (by decide)
          have hdv : 0 ≤ (w_ / 10).toInt := zDiv0 (by omega) (by decide)
          have hdl := Int32.toInt_lt (w_ / 10)
          have hdx := zDv (x := w_) (by omega)
          have hrx := zRm (x := w_) (by omega)
          refine lv_istore_n (lv' := [(3, .int (w_ - w_ / 10 * 10)), (0, .ref mo), (1, .int l_), (2, .int w_)]) hx hb dX12_land_35 rfl hl (by decide) rfl (fun ls hl => ?_)
          refine lv_iload_n hx hb dX12_land_36 rfl (lv_at hl 3 rfl) ?_
          refine lv_bipush (v := 100) hx hb dX12_land_37 (by decide) ?_
          refine lv_icmp_lt (tgt := 88) hx hb dX12_land_39 (by decide) (fun c_68 => ?_) (fun c_68 => ?_)
          · have c_68n : w_.toInt < (100 : Int) := (fa_lt _ _).mp c_68
            refine lv_iload_n hx hb dX12_land_88 rfl (lv_at hl 3 rfl) ?_
            refine lv_bipush (v := 10) hx hb dX12_land_89 (by decide) ?_
            refine lv_bipush (v := 39) hx hb dX12_land_91 (by decide) ?_
            refine z_Si (bc := []) (br := [[(mo, .inr (11, [.ref m_all, .ref m_has, .int i_size, .int i_next, .int i_where, .int i_token, .int i_number, .int i_word, .int i_wrong, .int i_farCrossing, .ref m_read, .int 661, .int j_crossings_2, .int j_inns_3, .ref m_posts, .ref m_shut, .ref m_here, .int j_steps_4, .int j_done_5, .int i_at, .int i_gone, .ref m_was, .ref m_came, .ref m_seenAt, .ref m_rowWorth, .ref m_farBy, .ref m_used, .int i_everywhere, .int i_again0, .int i_d0, .int i_never, .int i_firstCame, .int i_longRun, .int i_moved, .int i_crowd, .int i_l0, .int i_fitMany, .int i_fitLeast, .int i_fitMost, .ref m_fitPost, .ref m_fitEnd, .ref m_keptPosts, .int i_x0]))], [(m_all, .inl (T.2 0, 3952, .inl f_all))], [(m_posts, .inl (T.2 0, 7, .inl g_posts_6))], [(m_shut, .inl (T.2 0, 7, .inl g_shut_7))], [(m_here, .inl (T.2 0, 7, .inl g_here_8))]]) (As := [.int w_, .int 10, .int 39]) (rest := []) C G (c_m_isIn l T w_ 10 39) (kS_RX12_111 C.2.2.2.2 (Nat.le_of_ble_eq_true rfl) (Nat.le_of_ble_eq_true rfl)) [] [0, 1, 2, 3, 4] rfl rfl rfl rfl hl.1 dX12_land_93 (Nat.le_of_ble_eq_true rfl) (Nat.le_of_ble_eq_true rfl) (fun r_70 b1 H locs hw G => ?_)
            obtain ⟨rfl, hc_69⟩ := hw
            have G : zS T A s.heap s [[(mo, .inr (11, [.ref m_all, .ref m_has, .int i_size, .int i_next, .int i_where, .int i_token, .int i_number, .int i_word, .int i_wrong, .int i_farCrossing, .ref m_read, .int 661, .int j_crossings_2, .int j_inns_3, .ref m_posts, .ref m_shut, .ref m_here, .int j_steps_4, .int j_done_5, .int i_at, .int i_gone, .ref m_was, .ref m_came, .ref m_seenAt, .ref m_rowWorth, .ref m_farBy, .ref m_used, .int i_everywhere, .int i_again0, .int i_d0, .int i_never, .int i_firstCame, .int i_longRun, .int i_moved, .int i_crowd, .int i_l0, .int i_fitMany, .int i_fitLeast, .int i_fitMost, .ref m_fitPost, .ref m_fitEnd, .ref m_keptPosts, .int i_x0]))], [(m_all, .inl (T.2 0, 3952, .inl f_all))], [(m_posts, .inl (T.2 0, 7, .inl g_posts_6))], [(m_shut, .inl (T.2 0, 7, .inl g_shut_7))], [(m_here, .inl (T.2 0, 7, .inl g_here_8))]] _ _ := G
            rcases hc_69 with ⟨rfl, h_71, h_72⟩ | ⟨rfl, h_73⟩
            · have h_71 : (10 : Int) ≤ w_.toInt := h_71
              have h_72 : w_.toInt ≤ (39 : Int) := h_72
              refine lv_if_eq (tgt := 107) hx hb dX12_land_96 (by decide) (fun q => absurd q (by decide)) (fun _ => ?_)
              refine lv_aload_n hx hb dX12_land_99 rfl (lv_at hl 1 rfl) ?_
              refine lv_iload_n hx hb dX12_land_100 rfl (lv_at hl 0 rfl) ?_
              refine z_Vi (bc := [[(mo, .inr (11, [.ref m_all, .ref m_has, .int i_size, .int i_next, .int i_where, .int i_token, .int i_number, .int i_word, .int i_wrong, .int i_farCrossing, .ref m_read, .int 661, .int j_crossings_2, .int j_inns_3, .ref m_posts, .ref m_shut, .ref m_here, .int j_steps_4, .int j_done_5, .int i_at, .int i_gone, .ref m_was, .ref m_came, .ref m_seenAt, .ref m_rowWorth, .ref m_farBy, .ref m_used, .int i_everywhere, .int i_again0, .int i_d0, .int i_never, .int i_firstCame, .int i_longRun, .int i_moved, .int i_crowd, .int i_l0, .int i_fitMany, .int i_fitLeast, .int i_fitMost, .ref m_fitPost, .ref m_fitEnd, .ref m_keptPosts, .int i_x0]))]]) (br := [[(m_all, .inl (T.2 0, 3952, .inl f_all))], [(m_posts, .inl (T.2 0, 7, .inl g_posts_6))], [(m_shut, .inl (T.2 0, 7, .inl g_shut_7))], [(m_here, .inl (T.2 0, 7, .inl g_here_8))]]) (As := [.int (w_ - w_ / 10 * 10)]) (rest := []) C G (c_m_isCrossing l T mo m_all m_has i_size i_next i_where i_token i_number i_word i_wrong i_farCrossing m_read 661 j_crossings_2 j_inns_3 m_posts m_shut m_here j_steps_4 j_done_5 i_at i_gone m_was m_came m_seenAt m_rowWorth m_farBy m_used i_everywhere i_again0 i_d0 i_never i_firstCame i_longRun i_moved i_crowd i_l0 i_fitMany i_fitLeast i_fitMost m_fitPost m_fitEnd m_keptPosts i_x0 (w_ - w_ / 10 * 10) (by first | assumption | omega | rfl)) (kV_RX12_187 C.2.2.2.2 (Nat.le_of_ble_eq_true rfl) (Nat.le_of_ble_eq_true rfl)) [0] [1, 2, 3, 4] rfl rfl (ci := 11) (qc := (RX12, TX12, 43)) rfl rfl (List.mem_flatten.mpr ⟨_, List.mem_of_getElem? (i := 0) rfl, List.mem_cons_self⟩) rfl rfl hl.1 dX12_land_101 (Nat.le_of_ble_eq_true rfl) (Nat.le_of_ble_eq_true rfl) (fun r_75 b1 H locs hw G => ?_)
              obtain ⟨rfl, hc_74⟩ := hw
              have G : zS T A s.heap s [[(m_all, .inl (T.2 0, 3952, .inl f_all))], [(m_posts, .inl (T.2 0, 7, .inl g_posts_6))], [(m_shut, .inl (T.2 0, 7, .inl g_shut_7))], [(m_here, .inl (T.2 0, 7, .inl g_here_8))], [(mo, .inr (11, [.ref m_all, .ref m_has, .int i_size, .int i_next, .int i_where, .int i_token, .int i_number, .int i_word, .int i_wrong, .int i_farCrossing, .ref m_read, .int 661, .int j_crossings_2, .int j_inns_3, .ref m_posts, .ref m_shut, .ref m_here, .int j_steps_4, .int j_done_5, .int i_at, .int i_gone, .ref m_was, .ref m_came, .ref m_seenAt, .ref m_rowWorth, .ref m_farBy, .ref m_used, .int i_everywhere, .int i_again0, .int i_d0, .int i_never, .int i_firstCame, .int i_longRun, .int i_moved, .int i_crowd, .int i_l0, .int i_fitMany, .int i_fitLeast, .int i_fitMost, .ref m_fitPost, .ref m_fitEnd, .ref m_keptPosts, .int i_x0]))]] _ _ := G
              rcases hc_74 with ⟨rfl, h_76, h_77⟩ | ⟨rfl, h_78⟩
              · have h_76 : 0 ≤ (w_ - w_ / 10 * 10).toInt := h_76
                have h_77 : (w_ - w_ / 10 * 10).toInt < j_crossings_2.toInt := h_77
                refine lv_if_ne (tgt := 109) hx hb dX12_land_104 (by decide) (fun _ => ?_) (fun q => absurd q (by decide))
                refine lv_iload_n hx hb dX12_land_109 rfl (lv_at hl 3 rfl) ?_
                refine lv_bipush (v := 20) hx hb dX12_land_110 (by decide) ?_
                refine lv_icmp_ge (tgt := 123) hx hb dX12_land_112 (by decide) (fun c_79 => ?_) (fun c_79 => ?_)
                · have c_79n : (20 : Int) ≤ w_.toInt := (fa_le _ _).mp c_79
                  refine lv_iload_n hx hb dX12_land_123 rfl (lv_at hl 3 rfl) ?_
                  refine lv_bipush (v := 30) hx hb dX12_land_124 (by decide) ?_
                  refine lv_icmp_ge (tgt := 137) hx hb dX12_land_126 (by decide) (fun c_80 => ?_) (fun c_80 => ?_)
                  · have c_80n : (30 : Int) ≤ w_.toInt := (fa_le _ _).mp c_80
                    refine lv_aload_n hx hb dX12_land_137 rfl (lv_at hl 1 rfl) ?_
                    refine z_get C G clX12 4 rfl 0 (by decide) m_fl_RX12_7 rfl dX12_land_138 ?_
                    refine lv_aload_n hx hb dX12_land_141 rfl (lv_at hl 1 rfl) ?_
                    refine z_get C G clX12 4 rfl 11 (by decide) m_fl_RX12_166 rfl dX12_land_142 ?_
                    refine lv_bipush (v := 16) hx hb dX12_land_145 (by decide) ?_
                    refine lv_iadd hx hb dX12_land_147 ?_
                    refine lv_topi (fun y_81 ey_81 => ?_)
                    obtain rfl : y_81 = 677 := ey_81.trans (by decide)
                    refine lv_iload_n hx hb dX12_land_148 rfl (lv_at hl 0 rfl) ?_
                    refine lv_iadd hx hb dX12_land_149 ?_
                    refine lv_topi (fun y_82 ey_82 => ?_)
                    have ey_82i : y_82.toInt = (677 : Int) + (w_ - w_ / 10 * 10).toInt := by rw [ey_82]; exact z_iaddI (x := (677 : Int32)) (y := (w_ - w_ / 10 * 10)) (by show -2147483648 ≤ (677 : Int) + (w_ - w_ / 10 * 10).toInt; omega) (by show (677 : Int) + (w_ - w_ / 10 * 10).toInt < 2147483648; omega)
                    refine z_ild C G 0 rfl (vp_in_iff.mpr ⟨by omega, by omega⟩) dX12_land_150 ?_
                    refine lv_topi (fun v_83 ev_83 => ?_)
                    subst ev_83
                    have G := G.sub (bs' := [[(mo, .inr (11, [.ref m_all, .ref m_has, .int i_size, .int i_next, .int i_where, .int i_token, .int i_number, .int i_word, .int i_wrong, .int i_farCrossing, .ref m_read, .int 661, .int j_crossings_2, .int j_inns_3, .ref m_posts, .ref m_shut, .ref m_here, .int j_steps_4, .int j_done_5, .int i_at, .int i_gone, .ref m_was, .ref m_came, .ref m_seenAt, .ref m_rowWorth, .ref m_farBy, .ref m_used, .int i_everywhere, .int i_again0, .int i_d0, .int i_never, .int i_firstCame, .int i_longRun, .int i_moved, .int i_crowd, .int i_l0, .int i_fitMany, .int i_fitLeast, .int i_fitMost, .ref m_fitPost, .ref m_fitEnd, .ref m_keptPosts, .int i_x0]))], [(m_all, .inl (T.2 0, 3952, .inl f_all))], [(m_posts, .inl (T.2 0, 7, .inl g_posts_6))], [(m_shut, .inl (T.2 0, 7, .inl g_shut_7))], [(m_here, .inl (T.2 0, 7, .inl g_here_8))]]) [4, 0, 1, 2, 3] rfl
                    exact z_iret C hr hlocks G (Nat.le_of_ble_eq_true rfl) (Nat.le_of_ble_eq_true rfl) dX12_land_151 ⟨661, j_crossings_2, j_inns_3, j_steps_4, j_done_5, g_posts_6, g_shut_7, g_here_8, rfl, (Or.inr (Or.inr ⟨by assumption, by omega, (by have q9 := z_clI (x := y_82) (by omega); first | exact pLt_a (by omega) (by omega) | exact pLt_c3 (by omega) (by omega))⟩))⟩
                  · have c_80n : ¬ (30 : Int) ≤ w_.toInt := fun q => c_80 ((fa_le _ _).mpr q)
                    refine lv_aload_n hx hb dX12_land_129 rfl (lv_at hl 1 rfl) ?_
                    refine lv_iload_n hx hb dX12_land_130 rfl (lv_at hl 0 rfl) ?_
                    refine z_Vi (bc := [[(mo, .inr (11, [.ref m_all, .ref m_has, .int i_size, .int i_next, .int i_where, .int i_token, .int i_number, .int i_word, .int i_wrong, .int i_farCrossing, .ref m_read, .int 661, .int j_crossings_2, .int j_inns_3, .ref m_posts, .ref m_shut, .ref m_here, .int j_steps_4, .int j_done_5, .int i_at, .int i_gone, .ref m_was, .ref m_came, .ref m_seenAt, .ref m_rowWorth, .ref m_farBy, .ref m_used, .int i_everywhere, .int i_again0, .int i_d0, .int i_never, .int i_firstCame, .int i_longRun, .int i_moved, .int i_crowd, .int i_l0, .int i_fitMany, .int i_fitLeast, .int i_fitMost, .ref m_fitPost, .ref m_fitEnd, .ref m_keptPosts, .int i_x0]))], [(m_all, .inl (T.2 0, 3952, .inl f_all))]]) (br := [[(m_posts, .inl (T.2 0, 7, .inl g_posts_6))], [(m_shut, .inl (T.2 0, 7, .inl g_shut_7))], [(m_here, .inl (T.2 0, 7, .inl g_here_8))]]) (As := [.int (w_ - w_ / 10 * 10)]) (rest := []) C G (c_m_postTold l T mo m_all m_has i_size i_next i_where i_token i_number i_word i_wrong i_farCrossing m_read 661 j_crossings_2 j_inns_3 m_posts m_shut m_here j_steps_4 j_done_5 i_at i_gone m_was m_came m_seenAt m_rowWorth m_farBy m_used i_everywhere i_again0 i_d0 i_never i_firstCame i_longRun i_moved i_crowd i_l0 i_fitMany i_fitLeast i_fitMost m_fitPost m_fitEnd m_keptPosts i_x0 f_all (w_ - w_ / 10 * 10) (by first | assumption | omega | rfl) (by first | assumption | omega | rfl) (by first | assumption | omega | rfl)) (kV_RX12_193 C.2.2.2.2 (Nat.le_of_ble_eq_true rfl) (Nat.le_of_ble_eq_true rfl)) [4, 0] [1, 2, 3] rfl rfl (ci := 11) (qc := (RX12, TX12, 43)) rfl rfl (List.mem_flatten.mpr ⟨_, List.mem_of_getElem? (i := 0) rfl, List.mem_cons_self⟩) rfl rfl hl.1 dX12_land_131 (Nat.le_of_ble_eq_true rfl) (Nat.le_of_ble_eq_true rfl) (fun r_87 b1 H locs hw G => ?_)
                    obtain ⟨rfl, h_84, h_85, h_86⟩ := hw
                    have G : zS T A s.heap s [[(m_posts, .inl (T.2 0, 7, .inl g_posts_6))], [(m_shut, .inl (T.2 0, 7, .inl g_shut_7))], [(m_here, .inl (T.2 0, 7, .inl g_here_8))], [(mo, .inr (11, [.ref m_all, .ref m_has, .int i_size, .int i_next, .int i_where, .int i_token, .int i_number, .int i_word, .int i_wrong, .int i_farCrossing, .ref m_read, .int 661, .int j_crossings_2, .int j_inns_3, .ref m_posts, .ref m_shut, .ref m_here, .int j_steps_4, .int j_done_5, .int i_at, .int i_gone, .ref m_was, .ref m_came, .ref m_seenAt, .ref m_rowWorth, .ref m_farBy, .ref m_used, .int i_everywhere, .int i_again0, .int i_d0, .int i_never, .int i_firstCame, .int i_longRun, .int i_moved, .int i_crowd, .int i_l0, .int i_fitMany, .int i_fitLeast, .int i_fitMost, .ref m_fitPost, .ref m_fitEnd, .ref m_keptPosts, .int i_x0]))], [(m_all, .inl (T.2 0, 3952, .inl f_all))]] _ _ := G
                    subst h_84
                    refine lv_goto (tgt := 151) hx hb dX12_land_134 (by decide) ?_
                    have G := G.sub (bs' := [[(mo, .inr (11, [.ref m_all, .ref m_has, .int i_size, .int i_next, .int i_where, .int i_token, .int i_number, .int i_word, .int i_wrong, .int i_farCrossing, .ref m_read, .int 661, .int j_crossings_2, .int j_inns_3, .ref m_posts, .ref m_shut, .ref m_here, .int j_steps_4, .int j_done_5, .int i_at, .int i_gone, .ref m_was, .ref m_came, .ref m_seenAt, .ref m_rowWorth, .ref m_farBy, .ref m_used, .int i_everywhere, .int i_again0, .int i_d0, .int i_never, .int i_firstCame, .int i_longRun, .int i_moved, .int i_crowd, .int i_l0, .int i_fitMany, .int i_fitLeast, .int i_fitMost, .ref m_fitPost, .ref m_fitEnd, .ref m_keptPosts, .int i_x0]))], [(m_all, .inl (T.2 0, 3952, .inl f_all))], [(m_posts, .inl (T.2 0, 7, .inl g_posts_6))], [(m_shut, .inl (T.2 0, 7, .inl g_shut_7))], [(m_here, .inl (T.2 0, 7, .inl g_here_8))]]) [3, 4, 0, 1, 2] rfl
                    exact z_iret C hr hlocks G (Nat.le_of_ble_eq_true rfl) (Nat.le_of_ble_eq_true rfl) dX12_land_151 ⟨661, j_crossings_2, j_inns_3, j_steps_4, j_done_5, g_posts_6, g_shut_7, g_here_8, rfl, (Or.inr (Or.inr ⟨by assumption, by omega, (pLt_c2 (f := f_all) (by omega) (by show ((661 + (9 + (w_ - w_ / 10 * 10).toInt.toNat) : Nat) : Int) = _; omega))⟩))⟩
                · have c_79n : ¬ (20 : Int) ≤ w_.toInt := fun q => c_79 ((fa_le _ _).mpr q)
                  refine lv_aload_n hx hb dX12_land_115 rfl (lv_at hl 1 rfl) ?_
                  refine lv_iload_n hx hb dX12_land_116 rfl (lv_at hl 0 rfl) ?_
                  refine z_Vi (bc := [[(mo, .inr (11, [.ref m_all, .ref m_has, .int i_size, .int i_next, .int i_where, .int i_token, .int i_number, .int i_word, .int i_wrong, .int i_farCrossing, .ref m_read, .int 661, .int j_crossings_2, .int j_inns_3, .ref m_posts, .ref m_shut, .ref m_here, .int j_steps_4, .int j_done_5, .int i_at, .int i_gone, .ref m_was, .ref m_came, .ref m_seenAt, .ref m_rowWorth, .ref m_farBy, .ref m_used, .int i_everywhere, .int i_again0, .int i_d0, .int i_never, .int i_firstCame, .int i_longRun, .int i_moved, .int i_crowd, .int i_l0, .int i_fitMany, .int i_fitLeast, .int i_fitMost, .ref m_fitPost, .ref m_fitEnd, .ref m_keptPosts, .int i_x0]))], [(m_all, .inl (T.2 0, 3952, .inl f_all))]]) (br := [[(m_posts, .inl (T.2 0, 7, .inl g_posts_6))], [(m_shut, .inl (T.2 0, 7, .inl g_shut_7))], [(m_here, .inl (T.2 0, 7, .inl g_here_8))]]) (As := [.int (w_ - w_ / 10 * 10)]) (rest := []) C G (c_m_roadsOf l T mo m_all m_has i_size i_next i_where i_token i_number i_word i_wrong i_farCrossing m_read 661 j_crossings_2 j_inns_3 m_posts m_shut m_here j_steps_4 j_done_5 i_at i_gone m_was m_came m_seenAt m_rowWorth m_farBy m_used i_everywhere i_again0 i_d0 i_never i_firstCame i_longRun i_moved i_crowd i_l0 i_fitMany i_fitLeast i_fitMost m_fitPost m_fitEnd m_keptPosts i_x0 f_all (w_ - w_ / 10 * 10) (by first | assumption | omega | rfl) (by first | assumption | omega | rfl) (by first | assumption | omega | rfl)) (kV_RX12_181 C.2.2.2.2 (Nat.le_of_ble_eq_true rfl) (Nat.le_of_ble_eq_true rfl)) [4, 0] [1, 2, 3] rfl rfl (ci := 11) (qc := (RX12, TX12, 43)) rfl rfl (List.mem_flatten.mpr ⟨_, List.mem_of_getElem? (i := 0) rfl, List.mem_cons_self⟩) rfl rfl hl.1 dX12_land_117 (Nat.le_of_ble_eq_true rfl) (Nat.le_of_ble_eq_true rfl) (fun r_91 b1 H locs hw G => ?_)
                  obtain ⟨rfl, h_88, h_89, h_90⟩ := hw
                  have G : zS T A s.heap s [[(m_posts, .inl (T.2 0, 7, .inl g_posts_6))], [(m_shut, .inl (T.2 0, 7, .inl g_shut_7))], [(m_here, .inl (T.2 0, 7, .inl g_here_8))], [(mo, .inr (11, [.ref m_all, .ref m_has, .int i_size, .int i_next, .int i_where, .int i_token, .int i_number, .int i_word, .int i_wrong, .int i_farCrossing, .ref m_read, .int 661, .int j_crossings_2, .int j_inns_3, .ref m_posts, .ref m_shut, .ref m_here, .int j_steps_4, .int j_done_5, .int i_at, .int i_gone, .ref m_was, .ref m_came, .ref m_seenAt, .ref m_rowWorth, .ref m_farBy, .ref m_used, .int i_everywhere, .int i_again0, .int i_d0, .int i_never, .int i_firstCame, .int i_longRun, .int i_moved, .int i_crowd, .int i_l0, .int i_fitMany, .int i_fitLeast, .int i_fitMost, .ref m_fitPost, .ref m_fitEnd, .ref m_keptPosts, .int i_x0]))], [(m_all, .inl (T.2 0, 3952, .inl f_all))]] _ _ := G
                  subst h_88
                  refine lv_goto (tgt := 151) hx hb dX12_land_120 (by decide) ?_
                  have G := G.sub (bs' := [[(mo, .inr (11, [.ref m_all, .ref m_has, .int i_size, .int i_next, .int i_where, .int i_token, .int i_number, .int i_word, .int i_wrong, .int i_farCrossing, .ref m_read, .int 661, .int j_crossings_2, .int j_inns_3, .ref m_posts, .ref m_shut, .ref m_here, .int j_steps_4, .int j_done_5, .int i_at, .int i_gone, .ref m_was, .ref m_came, .ref m_seenAt, .ref m_rowWorth, .ref m_farBy, .ref m_used, .int i_everywhere, .int i_again0, .int i_d0, .int i_never, .int i_firstCame, .int i_longRun, .int i_moved, .int i_crowd, .int i_l0, .int i_fitMany, .int i_fitLeast, .int i_fitMost, .ref m_fitPost, .ref m_fitEnd, .ref m_keptPosts, .int i_x0]))], [(m_all, .inl (T.2 0, 3952, .inl f_all))], [(m_posts, .inl (T.2 0, 7, .inl g_posts_6))], [(m_shut, .inl (T.2 0, 7, .inl g_shut_7))], [(m_here, .inl (T.2 0, 7, .inl g_here_8))]]) [3, 4, 0, 1, 2] rfl
                  exact z_iret C hr hlocks G (Nat.le_of_ble_eq_true rfl) (Nat.le_of_ble_eq_true rfl) dX12_land_151 ⟨661, j_crossings_2, j_inns_3, j_steps_4, j_done_5, g_posts_6, g_shut_7, g_here_8, rfl, (Or.inr (Or.inr ⟨by assumption, by omega, (pLt_c1 (f := f_all) (by omega) (by show ((661 + (2 + (w_ - w_ / 10 * 10).toInt.toNat) : Nat) : Int) = _; omega))⟩))⟩
              · have h_78 : ((w_ - w_ / 10 * 10).toInt < 0 ∨ j_crossings_2.toInt ≤ (w_ - w_ / 10 * 10).toInt) := h_78
                refine lv_if_ne (tgt := 109) hx hb dX12_land_104 (by decide) (fun q => absurd (by decide) q) (fun _ => ?_)
                refine lv_iconst (v := (-1)) hx hb dX12_land_107 (by decide) ?_
                have G := G.sub (bs' := [[(mo, .inr (11, [.ref m_all, .ref m_has, .int i_size, .int i_next, .int i_where, .int i_token, .int i_number, .int i_word, .int i_wrong, .int i_farCrossing, .ref m_read, .int 661, .int j_crossings_2, .int j_inns_3, .ref m_posts, .ref m_shut, .ref m_here, .int j_steps_4, .int j_done_5, .int i_at, .int i_gone, .ref m_was, .ref m_came, .ref m_seenAt, .ref m_rowWorth, .ref m_farBy, .ref m_used, .int i_everywhere, .int i_again0, .int i_d0, .int i_never, .int i_firstCame, .int i_longRun, .int i_moved, .int i_crowd, .int i_l0, .int i_fitMany, .int i_fitLeast, .int i_fitMost, .ref m_fitPost, .ref m_fitEnd, .ref m_keptPosts, .int i_x0]))], [(m_all, .inl (T.2 0, 3952, .inl f_all))], [(m_posts, .inl (T.2 0, 7, .inl g_posts_6))], [(m_shut, .inl (T.2 0, 7, .inl g_shut_7))], [(m_here, .inl (T.2 0, 7, .inl g_here_8))]]) [4, 0, 1, 2, 3] rfl
                exact z_iret C hr hlocks G (Nat.le_of_ble_eq_true rfl) (Nat.le_of_ble_eq_true rfl) dX12_land_108 ⟨661, j_crossings_2, j_inns_3, j_steps_4, j_done_5, g_posts_6, g_shut_7, g_here_8, rfl, (Or.inr (Or.inr ⟨by assumption, by omega, (by first | exact pLt_m (by omega) | exact pLt_cn (by omega) (by omega) | exact pLt_bn (by omega) (by omega) | exact pLt_bn (by omega) (fun q9 => by have q7 := q9.2; rw [← zRd_x1 (f := f_all) (w := w_) (by omega)] at q7; omega))⟩))⟩
            · have h_73 : (w_.toInt < (10 : Int) ∨ (39 : Int) < w_.toInt) := h_73
              refine lv_if_eq (tgt := 107) hx hb dX12_land_96 (by decide) (fun _ => ?_) (fun q => absurd (by decide) q)
              refine lv_iconst (v := (-1)) hx hb dX12_land_107 (by decide) ?_
              exact z_iret C hr hlocks G (Nat.le_of_ble_eq_true rfl) (Nat.le_of_ble_eq_true rfl) dX12_land_108 ⟨661, j_crossings_2, j_inns_3, j_steps_4, j_done_5, g_posts_6, g_shut_7, g_here_8, rfl, (Or.inr (Or.inr ⟨by assumption, by omega, (by first | exact pLt_m (by omega) | exact pLt_cn (by omega) (by omega) | exact pLt_bn (by omega) (by omega) | exact pLt_bn (by omega) (fun q9 => by have q7 := q9.2; rw [← zRd_x1 (f := f_all) (w := w_) (by omega)] at q7; omega))⟩))⟩
          · have c_68n : ¬ w_.toInt < (100 : Int) := fun q => c_68 ((fa_lt _ _).mpr q)
            have hsx := zD10 (x := w_) (by omega)
            refine lv_aload_n hx hb dX12_land_42 rfl (lv_at hl 1 rfl) ?_
            refine lv_iload_n hx hb dX12_land_43 rfl (lv_at hl 3 rfl) ?_
            refine lv_bipush (v := 10) hx hb dX12_land_44 (by decide) ?_
            refine lv_idiv hx hb dX12_land_46 (by decide) ?_
            refine lv_bipush (v := 10) hx hb dX12_land_47 (by decide) ?_
            refine lv_isub hx hb dX12_land_49 ?_
            refine z_Vi (bc := [[(mo, .inr (11, [.ref m_all, .ref m_has, .int i_size, .int i_next, .int i_where, .int i_token, .int i_number, .int i_word, .int i_wrong, .int i_farCrossing, .ref m_read, .int 661, .int j_crossings_2, .int j_inns_3, .ref m_posts, .ref m_shut, .ref m_here, .int j_steps_4, .int j_done_5, .int i_at, .int i_gone, .ref m_was, .ref m_came, .ref m_seenAt, .ref m_rowWorth, .ref m_farBy, .ref m_used, .int i_everywhere, .int i_again0, .int i_d0, .int i_never, .int i_firstCame, .int i_longRun, .int i_moved, .int i_crowd, .int i_l0, .int i_fitMany, .int i_fitLeast, .int i_fitMost, .ref m_fitPost, .ref m_fitEnd, .ref m_keptPosts, .int i_x0]))]]) (br := [[(m_all, .inl (T.2 0, 3952, .inl f_all))], [(m_posts, .inl (T.2 0, 7, .inl g_posts_6))], [(m_shut, .inl (T.2 0, 7, .inl g_shut_7))], [(m_here, .inl (T.2 0, 7, .inl g_here_8))]]) (As := [.int ((w_ / 10) - 10)]) (rest := []) C G (c_m_isCrossing l T mo m_all m_has i_size i_next i_where i_token i_number i_word i_wrong i_farCrossing m_read 661 j_crossings_2 j_inns_3 m_posts m_shut m_here j_steps_4 j_done_5 i_at i_gone m_was m_came m_seenAt m_rowWorth m_farBy m_used i_everywhere i_again0 i_d0 i_never i_firstCame i_longRun i_moved i_crowd i_l0 i_fitMany i_fitLeast i_fitMost m_fitPost m_fitEnd m_keptPosts i_x0 ((w_ / 10) - 10) (by first | assumption | omega | rfl)) (kV_RX12_187 C.2.2.2.2 (Nat.le_of_ble_eq_true rfl) (Nat.le_of_ble_eq_true rfl)) [0] [1, 2, 3, 4] rfl rfl (ci := 11) (qc := (RX12, TX12, 43)) rfl rfl (List.mem_flatten.mpr ⟨_, List.mem_of_getElem? (i := 0) rfl, List.mem_cons_self⟩) rfl rfl hl.1 dX12_land_50 (Nat.le_of_ble_eq_true rfl) (Nat.le_of_ble_eq_true rfl) (fun r_93 b1 H locs hw G => ?_)
            obtain ⟨rfl, hc_92⟩ := hw
            have G : zS T A s.heap s [[(m_all, .inl (T.2 0, 3952, .inl f_all))], [(m_posts, .inl (T.2 0, 7, .inl g_posts_6))], [(m_shut, .inl (T.2 0, 7, .inl g_shut_7))], [(m_here, .inl (T.2 0, 7, .inl g_here_8))], [(mo, .inr (11, [.ref m_all, .ref m_has, .int i_size, .int i_next, .int i_where, .int i_token, .int i_number, .int i_word, .int i_wrong, .int i_farCrossing, .ref m_read, .int 661, .int j_crossings_2, .int j_inns_3, .ref m_posts, .ref m_shut, .ref m_here, .int j_steps_4, .int j_done_5, .int i_at, .int i_gone, .ref m_was, .ref m_came, .ref m_seenAt, .ref m_rowWorth, .ref m_farBy, .ref m_used, .int i_everywhere, .int i_again0, .int i_d0, .int i_never, .int i_firstCame, .int i_longRun, .int i_moved, .int i_crowd, .int i_l0, .int i_fitMany, .int i_fitLeast, .int i_fitMost, .ref m_fitPost, .ref m_fitEnd, .ref m_keptPosts, .int i_x0]))]] _ _ := G
            rcases hc_92 with ⟨rfl, h_94, h_95⟩ | ⟨rfl, h_96⟩
            · have h_94 : 0 ≤ ((w_ / 10) - 10).toInt := h_94
              have h_95 : ((w_ / 10) - 10).toInt < j_crossings_2.toInt := h_95
              refine lv_if_eq (tgt := 86) hx hb dX12_land_53 (by decide) (fun q => absurd q (by decide)) (fun _ => ?_)
              refine lv_iload_n hx hb dX12_land_56 rfl (lv_at hl 0 rfl) ?_
              refine lv_aload_n hx hb dX12_land_57 rfl (lv_at hl 1 rfl) ?_
              refine lv_iload_n hx hb dX12_land_58 rfl (lv_at hl 3 rfl) ?_
              refine lv_bipush (v := 10) hx hb dX12_land_59 (by decide) ?_
              refine lv_idiv hx hb dX12_land_61 (by decide) ?_
              refine lv_bipush (v := 10) hx hb dX12_land_62 (by decide) ?_
              refine lv_isub hx hb dX12_land_64 ?_
              refine z_Vi (bc := [[(mo, .inr (11, [.ref m_all, .ref m_has, .int i_size, .int i_next, .int i_where, .int i_token, .int i_number, .int i_word, .int i_wrong, .int i_farCrossing, .ref m_read, .int 661, .int j_crossings_2, .int j_inns_3, .ref m_posts, .ref m_shut, .ref m_here, .int j_steps_4, .int j_done_5, .int i_at, .int i_gone, .ref m_was, .ref m_came, .ref m_seenAt, .ref m_rowWorth, .ref m_farBy, .ref m_used, .int i_everywhere, .int i_again0, .int i_d0, .int i_never, .int i_firstCame, .int i_longRun, .int i_moved, .int i_crowd, .int i_l0, .int i_fitMany, .int i_fitLeast, .int i_fitMost, .ref m_fitPost, .ref m_fitEnd, .ref m_keptPosts, .int i_x0]))], [(m_all, .inl (T.2 0, 3952, .inl f_all))]]) (br := [[(m_posts, .inl (T.2 0, 7, .inl g_posts_6))], [(m_shut, .inl (T.2 0, 7, .inl g_shut_7))], [(m_here, .inl (T.2 0, 7, .inl g_here_8))]]) (As := [.int ((w_ / 10) - 10)]) (rest := [.int (w_ - w_ / 10 * 10)]) C G (c_m_roadsOf l T mo m_all m_has i_size i_next i_where i_token i_number i_word i_wrong i_farCrossing m_read 661 j_crossings_2 j_inns_3 m_posts m_shut m_here j_steps_4 j_done_5 i_at i_gone m_was m_came m_seenAt m_rowWorth m_farBy m_used i_everywhere i_again0 i_d0 i_never i_firstCame i_longRun i_moved i_crowd i_l0 i_fitMany i_fitLeast i_fitMost m_fitPost m_fitEnd m_keptPosts i_x0 f_all ((w_ / 10) - 10) (by first | assumption | omega | rfl) (by first | assumption | omega | rfl) (by first | assumption | omega | rfl)) (kV_RX12_181 C.2.2.2.2 (Nat.le_of_ble_eq_true rfl) (Nat.le_of_ble_eq_true rfl)) [4, 0] [1, 2, 3] rfl rfl (ci := 11) (qc := (RX12, TX12, 43)) rfl rfl (List.mem_flatten.mpr ⟨_, List.mem_of_getElem? (i := 0) rfl, List.mem_cons_self⟩) rfl rfl hl.1 dX12_land_65 (Nat.le_of_ble_eq_true rfl) (Nat.le_of_ble_eq_true rfl) (fun r_100 b1 H locs hw G => ?_)
              obtain ⟨rfl, h_97, h_98, h_99⟩ := hw
              have G : zS T A s.heap s [[(m_posts, .inl (T.2 0, 7, .inl g_posts_6))], [(m_shut, .inl (T.2 0, 7, .inl g_shut_7))], [(m_here, .inl (T.2 0, 7, .inl g_here_8))], [(mo, .inr (11, [.ref m_all, .ref m_has, .int i_size, .int i_next, .int i_where, .int i_token, .int i_number, .int i_word, .int i_wrong, .int i_farCrossing, .ref m_read, .int 661, .int j_crossings_2, .int j_inns_3, .ref m_posts, .ref m_shut, .ref m_here, .int j_steps_4, .int j_done_5, .int i_at, .int i_gone, .ref m_was, .ref m_came, .ref m_seenAt, .ref m_rowWorth, .ref m_farBy, .ref m_used, .int i_everywhere, .int i_again0, .int i_d0, .int i_never, .int i_firstCame, .int i_longRun, .int i_moved, .int i_crowd, .int i_l0, .int i_fitMany, .int i_fitLeast, .int i_fitMost, .ref m_fitPost, .ref m_fitEnd, .ref m_keptPosts, .int i_x0]))], [(m_all, .inl (T.2 0, 3952, .inl f_all))]] _ _ := G
              subst h_97
              refine lv_icmp_ge (tgt := 86) hx hb dX12_land_68 (by decide) (fun c_101 => ?_) (fun c_101 => ?_)
              · have c_101n : (zRd f_all 661 ((w_ / 10) - 10)).toInt ≤ (w_ - w_ / 10 * 10).toInt := (fa_le _ _).mp c_101
                refine lv_iconst (v := (-1)) hx hb dX12_land_86 (by decide) ?_
                have G := G.sub (bs' := [[(mo, .inr (11, [.ref m_all, .ref m_has, .int i_size, .int i_next, .int i_where, .int i_token, .int i_number, .int i_word, .int i_wrong, .int i_farCrossing, .ref m_read, .int 661, .int j_crossings_2, .int j_inns_3, .ref m_posts, .ref m_shut, .ref m_here, .int j_steps_4, .int j_done_5, .int i_at, .int i_gone, .ref m_was, .ref m_came, .ref m_seenAt, .ref m_rowWorth, .ref m_farBy, .ref m_used, .int i_everywhere, .int i_again0, .int i_d0, .int i_never, .int i_firstCame, .int i_longRun, .int i_moved, .int i_crowd, .int i_l0, .int i_fitMany, .int i_fitLeast, .int i_fitMost, .ref m_fitPost, .ref m_fitEnd, .ref m_keptPosts, .int i_x0]))], [(m_all, .inl (T.2 0, 3952, .inl f_all))], [(m_posts, .inl (T.2 0, 7, .inl g_posts_6))], [(m_shut, .inl (T.2 0, 7, .inl g_shut_7))], [(m_here, .inl (T.2 0, 7, .inl g_here_8))]]) [3, 4, 0, 1, 2] rfl
                exact z_iret C hr hlocks G (Nat.le_of_ble_eq_true rfl) (Nat.le_of_ble_eq_true rfl) dX12_land_87 ⟨661, j_crossings_2, j_inns_3, j_steps_4, j_done_5, g_posts_6, g_shut_7, g_here_8, rfl, (Or.inr (Or.inr ⟨by assumption, by omega, (by first | exact pLt_m (by omega) | exact pLt_cn (by omega) (by omega) | exact pLt_bn (by omega) (by omega) | exact pLt_bn (by omega) (fun q9 => by have q7 := q9.2; rw [← zRd_x1 (f := f_all) (w := w_) (by omega)] at q7; omega))⟩))⟩
              · have c_101n : ¬ (zRd f_all 661 ((w_ / 10) - 10)).toInt ≤ (w_ - w_ / 10 * 10).toInt := fun q => c_101 ((fa_le _ _).mpr q)
                refine lv_aload_n hx hb dX12_land_71 rfl (lv_at hl 1 rfl) ?_
                refine lv_iload_n hx hb dX12_land_72 rfl (lv_at hl 3 rfl) ?_
                refine lv_bipush (v := 10) hx hb dX12_land_73 (by decide) ?_
                refine lv_idiv hx hb dX12_land_75 (by decide) ?_
                refine lv_bipush (v := 10) hx hb dX12_land_76 (by decide) ?_
                refine lv_isub hx hb dX12_land_78 ?_
                refine lv_iload_n hx hb dX12_land_79 rfl (lv_at hl 0 rfl) ?_
                refine z_Vi (bc := [[(mo, .inr (11, [.ref m_all, .ref m_has, .int i_size, .int i_next, .int i_where, .int i_token, .int i_number, .int i_word, .int i_wrong, .int i_farCrossing, .ref m_read, .int 661, .int j_crossings_2, .int j_inns_3, .ref m_posts, .ref m_shut, .ref m_here, .int j_steps_4, .int j_done_5, .int i_at, .int i_gone, .ref m_was, .ref m_came, .ref m_seenAt, .ref m_rowWorth, .ref m_farBy, .ref m_used, .int i_everywhere, .int i_again0, .int i_d0, .int i_never, .int i_firstCame, .int i_longRun, .int i_moved, .int i_crowd, .int i_l0, .int i_fitMany, .int i_fitLeast, .int i_fitMost, .ref m_fitPost, .ref m_fitEnd, .ref m_keptPosts, .int i_x0]))], [(m_all, .inl (T.2 0, 3952, .inl f_all))]]) (br := [[(m_posts, .inl (T.2 0, 7, .inl g_posts_6))], [(m_shut, .inl (T.2 0, 7, .inl g_shut_7))], [(m_here, .inl (T.2 0, 7, .inl g_here_8))]]) (As := [.int ((w_ / 10) - 10), .int (w_ - w_ / 10 * 10)]) (rest := []) C G (c_m_leadsTo l T mo m_all m_has i_size i_next i_where i_token i_number i_word i_wrong i_farCrossing m_read 661 j_crossings_2 j_inns_3 m_posts m_shut m_here j_steps_4 j_done_5 i_at i_gone m_was m_came m_seenAt m_rowWorth m_farBy m_used i_everywhere i_again0 i_d0 i_never i_firstCame i_longRun i_moved i_crowd i_l0 i_fitMany i_fitLeast i_fitMost m_fitPost m_fitEnd m_keptPosts i_x0 f_all ((w_ / 10) - 10) (w_ - w_ / 10 * 10) (by first | assumption | omega | rfl) (by first | assumption | omega | rfl) (by first | assumption | omega | rfl) (by first | assumption | omega | rfl) (by first | assumption | omega | rfl)) (kV_RX12_190 C.2.2.2.2 (Nat.le_of_ble_eq_true rfl) (Nat.le_of_ble_eq_true rfl)) [3, 4] [0, 1, 2] rfl rfl (ci := 11) (qc := (RX12, TX12, 43)) rfl rfl (List.mem_flatten.mpr ⟨_, List.mem_of_getElem? (i := 0) rfl, List.mem_cons_self⟩) rfl rfl hl.1 dX12_land_80 (Nat.le_of_ble_eq_true rfl) (Nat.le_of_ble_eq_true rfl) (fun r_105 b1 H locs hw G => ?_)
                obtain ⟨rfl, h_102, h_103, h_104⟩ := hw
                have G : zS T A s.heap s [[(m_posts, .inl (T.2 0, 7, .inl g_posts_6))], [(m_shut, .inl (T.2 0, 7, .inl g_shut_7))], [(m_here, .inl (T.2 0, 7, .inl g_here_8))], [(mo, .inr (11, [.ref m_all, .ref m_has, .int i_size, .int i_next, .int i_where, .int i_token, .int i_number, .int i_word, .int i_wrong, .int i_farCrossing, .ref m_read, .int 661, .int j_crossings_2, .int j_inns_3, .ref m_posts, .ref m_shut, .ref m_here, .int j_steps_4, .int j_done_5, .int i_at, .int i_gone, .ref m_was, .ref m_came, .ref m_seenAt, .ref m_rowWorth, .ref m_farBy, .ref m_used, .int i_everywhere, .int i_again0, .int i_d0, .int i_never, .int i_firstCame, .int i_longRun, .int i_moved, .int i_crowd, .int i_l0, .int i_fitMany, .int i_fitLeast, .int i_fitMost, .ref m_fitPost, .ref m_fitEnd, .ref m_keptPosts, .int i_x0]))], [(m_all, .inl (T.2 0, 3952, .inl f_all))]] _ _ := G
                subst h_102
                refine lv_goto (tgt := 87) hx hb dX12_land_83 (by decide) ?_
                have G := G.sub (bs' := [[(mo, .inr (11, [.ref m_all, .ref m_has, .int i_size, .int i_next, .int i_where, .int i_token, .int i_number, .int i_word, .int i_wrong, .int i_farCrossing, .ref m_read, .int 661, .int j_crossings_2, .int j_inns_3, .ref m_posts, .ref m_shut, .ref m_here, .int j_steps_4, .int j_done_5, .int i_at, .int i_gone, .ref m_was, .ref m_came, .ref m_seenAt, .ref m_rowWorth, .ref m_farBy, .ref m_used, .int i_everywhere, .int i_again0, .int i_d0, .int i_never, .int i_firstCame, .int i_longRun, .int i_moved, .int i_crowd, .int i_l0, .int i_fitMany, .int i_fitLeast, .int i_fitMost, .ref m_fitPost, .ref m_fitEnd, .ref m_keptPosts, .int i_x0]))], [(m_all, .inl (T.2 0, 3952, .inl f_all))], [(m_posts, .inl (T.2 0, 7, .inl g_posts_6))], [(m_shut, .inl (T.2 0, 7, .inl g_shut_7))], [(m_here, .inl (T.2 0, 7, .inl g_here_8))]]) [3, 4, 0, 1, 2] rfl
                exact z_iret C hr hlocks G (Nat.le_of_ble_eq_true rfl) (Nat.le_of_ble_eq_true rfl) dX12_land_87 ⟨661, j_crossings_2, j_inns_3, j_steps_4, j_done_5, g_posts_6, g_shut_7, g_here_8, rfl, (Or.inr (Or.inr ⟨by assumption, by omega, (pLt_b (f := f_all) (by omega) ⟨by omega, by rw [← zRd_x1 (f := f_all) (w := w_) (by omega)]; omega⟩ (by show ((661 + (23 + (4 * ((w_ / 10) - 10).toInt.toNat + (w_ - w_ / 10 * 10).toInt.toNat)) : Nat) : Int) = _; omega))⟩))⟩
            · have h_96 : (((w_ / 10) - 10).toInt < 0 ∨ j_crossings_2.toInt ≤ ((w_ / 10) - 10).toInt) := h_96
              refine lv_if_eq (tgt := 86) hx hb dX12_land_53 (by decide) (fun _ => ?_) (fun q => absurd (by decide) q)
              refine lv_iconst (v := (-1)) hx hb dX12_land_86 (by decide) ?_
              have G := G.sub (bs' := [[(mo, .inr (11, [.ref m_all, .ref m_has, .int i_size, .int i_next, .int i_where, .int i_token, .int i_number, .int i_word, .int i_wrong, .int i_farCrossing, .ref m_read, .int 661, .int j_crossings_2, .int j_inns_3, .ref m_posts, .ref m_shut, .ref m_here, .int j_steps_4, .int j_done_5, .int i_at, .int i_gone, .ref m_was, .ref m_came, .ref m_seenAt, .ref m_rowWorth, .ref m_farBy, .ref m_used, .int i_everywhere, .int i_again0, .int i_d0, .int i_never, .int i_firstCame, .int i_longRun, .int i_moved, .int i_crowd, .int i_l0, .int i_fitMany, .int i_fitLeast, .int i_fitMost, .ref m_fitPost, .ref m_fitEnd, .ref m_keptPosts, .int i_x0]))], [(m_all, .inl (T.2 0, 3952, .inl f_all))], [(m_posts, .inl (T.2 0, 7, .inl g_posts_6))], [(m_shut, .inl (T.2 0, 7, .inl g_shut_7))], [(m_here, .inl (T.2 0, 7, .inl g_here_8))]]) [4, 0, 1, 2, 3] rfl
              exact z_iret C hr hlocks G (Nat.le_of_ble_eq_true rfl) (Nat.le_of_ble_eq_true rfl) dX12_land_87 ⟨661, j_crossings_2, j_inns_3, j_steps_4, j_done_5, g_posts_6, g_shut_7, g_here_8, rfl, (Or.inr (Or.inr ⟨by assumption, by omega, (by first | exact pLt_m (by omega) | exact pLt_cn (by omega) (by omega) | exact pLt_bn (by omega) (by omega) | exact pLt_bn (by omega) (fun q9 => by have q7 := q9.2; rw [← zRd_x1 (f := f_all) (w := w_) (by omega)] at q7; omega))⟩))⟩
        · have c_67n : ¬ (2 : Int) ≤ w_.toInt := fun q => c_67 ((fa_le _ _).mpr q)
          refine lv_aload_n hx hb dX12_land_19 rfl (lv_at hl 0 rfl) ?_
          refine z_get C G clX12 0 rfl 0 (by decide) m_fl_RX12_7 rfl dX12_land_20 ?_
          refine lv_aload_n hx hb dX12_land_23 rfl (lv_at hl 0 rfl) ?_
          refine z_get C G clX12 0 rfl 11 (by decide) m_fl_RX12_166 rfl dX12_land_24 ?_
          refine lv_iload_n hx hb dX12_land_27 rfl (lv_at hl 2 rfl) ?_
          refine lv_iadd hx hb dX12_land_28 ?_
          refine lv_topi (fun y_106 ey_106 => ?_)
          have ey_106i : y_106.toInt = (661 : Int) + w_.toInt := by rw [ey_106]; exact z_iaddI (x := (661 : Int32)) (y := w_) (by show -2147483648 ≤ (661 : Int) + w_.toInt; omega) (by show (661 : Int) + w_.toInt < 2147483648; omega)
          refine z_ild C G 1 rfl (vp_in_iff.mpr ⟨by omega, by omega⟩) dX12_land_29 ?_
          refine lv_topi (fun v_107 ev_107 => ?_)
          subst ev_107
          exact z_iret C hr hlocks G (Nat.le_of_ble_eq_true rfl) (Nat.le_of_ble_eq_true rfl) dX12_land_30 ⟨661, j_crossings_2, j_inns_3, j_steps_4, j_done_5, g_posts_6, g_shut_7, g_here_8, rfl, (Or.inr (Or.inr ⟨by assumption, by omega, (by have q9 := z_clI (x := y_106) (by omega); first | exact pLt_a (by omega) (by omega) | exact pLt_c3 (by omega) (by omega))⟩))⟩
      · have c_66n : ¬ (0 : Int) ≤ w_.toInt := fun q => c_66 ((fa_le _ _).mpr q)
        refine lv_iconst (v := (-1)) hx hb dX12_land_12 (by decide) ?_
        exact z_iret C hr hlocks G (Nat.le_of_ble_eq_true rfl) (Nat.le_of_ble_eq_true rfl) dX12_land_13 ⟨661, j_crossings_2, j_inns_3, j_steps_4, j_done_5, g_posts_6, g_shut_7, g_here_8, rfl, (Or.inr (Or.inr ⟨by assumption, by omega, (by first | exact pLt_m (by omega) | exact pLt_cn (by omega) (by omega) | exact pLt_bn (by omega) (by omega) | exact pLt_bn (by omega) (fun q9 => by have q7 := q9.2; rw [← zRd_x1 (f := f_all) (w := w_) (by omega)] at q7; omega))⟩))⟩
  · have h_23 : (l_.toInt < 0 ∨ (f_all 0).toInt ≤ l_.toInt) := h_23
    refine lv_if_eq (tgt := 12) hx hb dX12_land_5 (by decide) (fun _ => ?_) (fun q => absurd (by decide) q)
    refine lv_iconst (v := (-1)) hx hb dX12_land_12 (by decide) ?_
    exact z_iret C hr hlocks G (Nat.le_of_ble_eq_true rfl) (Nat.le_of_ble_eq_true rfl) dX12_land_13 ⟨j_z0_1, j_crossings_2, j_inns_3, j_steps_4, j_done_5, g_posts_6, g_shut_7, g_here_8, rfl, (Or.inl ⟨by assumption, rfl⟩)⟩
theorem zA_land {r r' x w c0 i0 c1 i1 : Int32} {fk f a1 a2 a3 a4 b1 b2 b3 b4 : Nat → Int32} (hk : fk 0 = f 0) (hq : (f 0).toInt ≤ 2) (hB : zBI f) (h0 : zLnd c0 i0 a1 a2 a3 a4 (fun j => f (610 + j))) (h1 : zLnd c1 i1 b1 b2 b3 b4 (fun j => f (661 + j))) (F1 : (x.toInt < 0 ∨ (fk 0).toInt ≤ x.toInt ∨ 2 ≤ x.toInt) ∧ r = -1 ∨ x.toInt = 0 ∧ 0 < (fk 0).toInt ∧ r = zLt c0 i0 a1 a2 a3 a4 w ∨ x.toInt = 1 ∧ 1 < (fk 0).toInt ∧ r = zLt c1 i1 b1 b2 b3 b4 w) (F2 : (x.toInt < 0 ∨ (f 0).toInt ≤ x.toInt) ∧ r' = -1 ∨ x.toInt = 0 ∧ 0 < (f 0).toInt ∧ r' = pLt f 610 w ∨ x.toInt = 1 ∧ 1 < (f 0).toInt ∧ r' = pLt f 661 w) : r = r' := by
  have g0 : ∀ c, c < 7 → (f (610 + (2 + c))).toInt ≤ 4 := fun c hc => ((hB.2.2.1 0 (by decide)).2.1 c hc).1.2
  have g1 : ∀ c, c < 7 → (f (661 + (2 + c))).toInt ≤ 4 := fun c hc => ((hB.2.2.1 1 (by decide)).2.1 c hc).1.2
  rw [hk, zLt_e h0 g0, zLt_e h1 g1] at F1
  rcases F1 with ⟨a, b⟩ | ⟨a, b, c⟩ | ⟨a, b, c⟩ <;> rcases F2 with ⟨d, e⟩ | ⟨d, e, g⟩ | ⟨d, e, g⟩ <;> first | (exfalso; omega) | rw [b, e] | rw [c, g]


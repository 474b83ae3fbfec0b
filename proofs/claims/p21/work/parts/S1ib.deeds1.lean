abbrev zHas (cr x : Int32) : Prop := 0 ≤ x.toInt ∧ x.toInt < cr.toInt ∧ x.toInt < 7
/-- roads lead to crossings that are there -/
def zLq (cr : Int32) (k1 k2 : Nat → Int32) : Prop := ∀ j r : Nat, j < 7 → r < 4 → (r : Int) < (k1 j).toInt → 0 ≤ (k2 (4 * j + r)).toInt ∧ (k2 (4 * j + r)).toInt < cr.toInt
theorem zLq_e {cr inn z : Int32} {k1 k2 k3 k4 f : Nat → Int32} {B : Nat} (h : zLnd cr inn k1 k2 k3 k4 (fun j => f (B + j))) (hF : zLF (fun j => f (B + j))) (hz : z.toInt.toNat = B) (hV : zVR (fun j => f (z.toInt.toNat + j))) : zLq cr k1 k2 := by
  obtain ⟨ha, -, -, hd, -, hr⟩ := h
  rw [hz] at hV
  intro j r hj hr4 hq
  have e := hr j r hj hr4 hq
  have e : k2 (4 * j + r) = f (B + (23 + 4 * j + r)) := e
  have b : 0 ≤ (f (B + (23 + (4 * j + r)))).toInt := (hF.2.2 (4 * j + r) (by omega)).1
  have d : k1 j = f (B + (2 + j)) := (hd j hj).1
  have v : (r : Int) < (f (B + (2 + j))).toInt → (f (B + (23 + 4 * j + r))).toInt < (f (B + 0)).toInt := (hV j hj).2.2 r hr4
  have ha : cr = f (B + 0) := ha
  rw [e, ha]
  rw [show B + (23 + (4 * j + r)) = B + (23 + 4 * j + r) by omega] at b
  exact ⟨b, v (by rw [← d]; exact hq)⟩
theorem zStep_h {cr inn x : Int32} {f1 f2 f3 k1 k2 : Nat → Int32} (hI : zP3 f1 f3) (hW : ∀ j, j < 7 → f3 j = zWays cr inn k1 (nI j)) (hr : ∀ j, j < 7 → (f3 j).toInt ≤ (k1 j).toInt) (hL : zLq cr k1 k2) (h7 : cr.toInt ≤ 7) (h : ¬ zStep f1 f2 f3 k2 x = -1) : zHas cr (zStep f1 f2 f3 k2 x) := by
  unfold zStep at h ⊢
  by_cases t : zTurn f1 f2 f3 x = -1
  · rw [if_pos t] at h
    exact absurd rfl h
  · rw [if_neg t]
    have g := (zTurn_lt (f2 := f2) hI x).resolve_left t
    have e1 := z_clI g.1
    have e2 := z_clI g.2.2.1
    have q := hI x.toNatClampNeg (by omega)
    have q2 := hr x.toNatClampNeg (by omega)
    have y := hL x.toNatClampNeg (zTurn f1 f2 f3 x).toNatClampNeg (by omega) (by omega) (by omega)
    exact ⟨y.1, y.2, by omega⟩
theorem zWays_r {cr inn : Int32} {k1 k3 f3 : Nat → Int32} (hI : zLI cr k1 k3) (hW : ∀ j, j < 7 → f3 j = zWays cr inn k1 (nI j)) : ∀ j, j < 7 → (f3 j).toInt ≤ (k1 j).toInt := by
  intro j hj
  rw [hW j hj]
  have t2 := nI_clamp (n := j) (by omega)
  have b := (hI.2.1 j hj).1
  unfold zWays
  split
  · rw [t2]; exact Int.le_refl _
  · exact b
theorem zRunN_h {cr inn : Int32} {f2 f3 k1 k2 : Nat → Int32} (hW : ∀ j, j < 7 → f3 j = zWays cr inn k1 (nI j)) (hr : ∀ j, j < 7 → (f3 j).toInt ≤ (k1 j).toInt) (hL : zLq cr k1 k2) (h7 : cr.toInt ≤ 7) : ∀ (n : Nat) (f : Nat → Int32) (x : Int32) (k : Nat), zP3 f f3 → zHas cr x → zHas cr (zRunN f2 f3 k2 n f x k).2.1
  | 0, f, x, k, _, h => h
  | n + 1, f, x, k, hI, h => by
    unfold zRunN
    by_cases q : zStep f f2 f3 k2 x = -1
    · rw [if_pos q]; exact h
    · rw [if_neg q]
      exact zRunN_h hW hr hL h7 n _ _ _ (zPost_I hI x) (zStep_h hI hW hr hL h7 q)
/-- posts, roads shut, walkers; steps; how many came to no inn -/
abbrev zK : Type := (Nat → Int32) × (Nat → Int32) × (Nat → Int32) × Int32 × Int32
def zMvH (H : Nat → Int32) (x y : Int32) : Nat → Int32 := upd (upd H x.toNatClampNeg (H x.toNatClampNeg - 1)) y.toNatClampNeg (upd H x.toNatClampNeg (H x.toNatClampNeg - 1) y.toNatClampNeg + 1)
def zGoF (cr : Int32) (W L : Nat → Int32) (x : Int32) (D : zK) : Option zK := if (zHas cr x ∧ 1 ≤ (D.2.2.1 x.toNatClampNeg).toInt) ∧ ¬ zStep D.1 D.2.1 W L x = -1 then some (zPost D.1 D.2.1 W x, D.2.1, zMvH D.2.2.1 x (zStep D.1 D.2.1 W L x), D.2.2.2.1 + 1, D.2.2.2.2) else none
def zRuF (cr inn : Int32) (W L : Nat → Int32) (x : Int32) (D : zK) : Option zK := if zHas cr x ∧ 1 ≤ (D.2.2.1 x.toNatClampNeg).toInt then some ((zRunN D.2.1 W L 499 D.1 x 0).1, D.2.1, zMvH D.2.2.1 x (zRunN D.2.1 W L 499 D.1 x 0).2.1, D.2.2.2.1 + nI (zRunN D.2.1 W L 499 D.1 x 0).2.2, if zBit inn (zRunN D.2.1 W L 499 D.1 x 0).2.1 = 1 then D.2.2.2.2 else D.2.2.2.2 + 1) else none
def zTuF (cr : Int32) (W : Nat → Int32) (x : Int32) (D : zK) : Option zK := if zHas cr x ∧ ¬ zTurn D.1 D.2.1 W x = -1 then some (zPost D.1 D.2.1 W x, D.2) else none
def zAdF (cr x : Int32) (D : zK) : Option zK := if zHas cr x ∧ (D.2.2.1 x.toNatClampNeg).toInt < 99 then some (D.1, D.2.1, upd D.2.2.1 x.toNatClampNeg (D.2.2.1 x.toNatClampNeg + 1), D.2.2.2) else none
def zShF (cr : Int32) (Ro : Nat → Int32) (x y : Int32) (D : zK) : Option zK := if zHas cr x ∧ (0 ≤ y.toInt ∧ y.toInt < (Ro x.toNatClampNeg).toInt ∧ y.toInt < 4) ∧ zBit (D.2.1 x.toNatClampNeg) y = 0 then some (D.1, upd D.2.1 x.toNatClampNeg (D.2.1 x.toNatClampNeg ||| 1 <<< (y &&& 31)), D.2.2) else none
def zOpF (cr : Int32) (Ro : Nat → Int32) (x y : Int32) (D : zK) : Option zK := if zHas cr x ∧ (0 ≤ y.toInt ∧ y.toInt < (Ro x.toNatClampNeg).toInt ∧ y.toInt < 4) ∧ ¬ zBit (D.2.1 x.toNatClampNeg) y = 0 then some (D.1, upd D.2.1 x.toNatClampNeg (D.2.1 x.toNatClampNeg &&& (1 <<< (y &&& 31) ^^^ (-1))), D.2.2) else none
/-- a deed -/
def zDe (cr inn : Int32) (W Ro L : Nat → Int32) (d x y : Int32) (D : zK) : Option zK := if d.toInt = 0 then zGoF cr W L x D else if d.toInt = 1 then zRuF cr inn W L x D else if d.toInt = 2 then zTuF cr W x D else if d.toInt = 3 then zAdF cr x D else if d.toInt = 4 then zShF cr Ro x y D else if d.toInt = 5 then zOpF cr Ro x y D else none
set_option maxHeartbeats 4000000 in
set_option maxRecDepth 100000 in
/-- c_f_move -/
theorem c_f_move (l : Launch) (T : zTy) (h : Nat) (po : Nat) (la : Nat) (fw : Nat → Int32) (v0 : Int32) (v1 : Int32) (v2 : Int32) (v3 : Int32) (v4 : Int32) (v5 : Int32) (v6 : Int32) (v7 : Int32) (wc : va_W) (cr : Int32) (inn : Int32) (k1 : Nat → Int32) (k2 : Nat → Int32) (k3 : Nat → Int32) (k4 : Nat → Int32) (z : va_W) (x : Int32) (y : Int32) (hc : bCourse T h po la fw v0 v1 v2 v3 v4 v5 v6 v7 wc) (hz : bLand T la cr inn k1 k2 k3 k4 z) (hhx : zHas cr x) (hhy : zHas cr y) : zMv l T yX1_move cX1_move 3 3 0 0 [.ref h, .int x, .int y] [wc, z] (fun bs => ∃ (wc2 : va_W) (gw : Nat → Int32) (u3 : Int32) (u5 : Int32), bs = [wc2, z] ∧ bCourse T h po la gw v0 v1 v2 u3 v4 u5 v6 v7 wc2 ∧ gw = zMvH fw x y) := by
  refine zMv_of (own := RX1) (by decide) rfl (Nat.le_of_ble_eq_true rfl) ?_
  intro p e s m args below meth c A ls C hr hlocks hnm hAe G hl
  have hx := C.1
  have hb := C.2.1
  have hl : lv_has ls 3 [(0, .ref h), (1, .int x), (2, .int y)] := hl
  refine lv_aload_n hx hb dX1_move_0 rfl (lv_at hl 0 rfl) ?_
  refine hc.elim fun a1_1 hbs9 => ?_
  clear hc
  subst hbs9
  have G : zS T A s.heap s [[(h, .inr (1, [.ref po, .ref a1_1, .int v0, .ref la, .int v1, .int v2, .int v3, .int v4, .int v5, .int v6, .int v7]))], [(a1_1, .inl (T.2 0, 7, .inl fw))], z] _ _ := G.re rfl
  refine z_get C G clX1 0 rfl 3 (by decide) m_fl_RX1_25 rfl dX1_move_1 ?_
  refine lv_iload_n hx hb dX1_move_4 rfl (lv_at hl 1 rfl) ?_
  refine z_Vi (bc := [z]) (br := [[(h, .inr (1, [.ref po, .ref a1_1, .int v0, .ref la, .int v1, .int v2, .int v3, .int v4, .int v5, .int v6, .int v7]))], [(a1_1, .inl (T.2 0, 7, .inl fw))]]) (As := [.int x]) (rest := []) C G (c_has l T la cr inn k1 k2 k3 k4 z x hz) (kV_RX1_112 C.2.2.2.2 (Nat.le_of_ble_eq_true rfl) (Nat.le_of_ble_eq_true rfl)) [2] [0, 1] rfl rfl (ci := 4) (qc := (RX4, TX4, 6)) rfl rfl (List.mem_flatten.mpr ⟨_, List.mem_of_getElem? (i := 0) rfl, (bLand_mem hz).choose_spec⟩) rfl rfl hl.1 dX1_move_5 (Nat.le_of_ble_eq_true rfl) (Nat.le_of_ble_eq_true rfl) (fun r_3 b1 H locs hw G => ?_)
  refine hw.elim fun hbs9 hc_2 => ?_
  clear hw
  subst hbs9
  have G : zS T A s.heap s [[(h, .inr (1, [.ref po, .ref a1_1, .int v0, .ref la, .int v1, .int v2, .int v3, .int v4, .int v5, .int v6, .int v7]))], [(a1_1, .inl (T.2 0, 7, .inl fw))], z] _ _ := G
  rcases hc_2 with ⟨rfl, h_4, h_5, h_6⟩ | ⟨rfl, h_7⟩
  · have h_4 : 0 ≤ x.toInt := h_4
    have h_5 : x.toInt < cr.toInt := h_5
    have h_6 : x.toInt < 7 := h_6
    refine lv_if_eq (tgt := 22) hx hb dX1_move_8 (by decide) (fun q => absurd q (by decide)) (fun _ => ?_)
    refine lv_aload_n hx hb dX1_move_11 rfl (lv_at hl 0 rfl) ?_
    refine z_get C G clX1 0 rfl 3 (by decide) m_fl_RX1_25 rfl dX1_move_12 ?_
    refine lv_iload_n hx hb dX1_move_15 rfl (lv_at hl 2 rfl) ?_
    refine z_Vi (bc := [z]) (br := [[(h, .inr (1, [.ref po, .ref a1_1, .int v0, .ref la, .int v1, .int v2, .int v3, .int v4, .int v5, .int v6, .int v7]))], [(a1_1, .inl (T.2 0, 7, .inl fw))]]) (As := [.int y]) (rest := []) C G (c_has l T la cr inn k1 k2 k3 k4 z y hz) (kV_RX1_112 C.2.2.2.2 (Nat.le_of_ble_eq_true rfl) (Nat.le_of_ble_eq_true rfl)) [2] [0, 1] rfl rfl (ci := 4) (qc := (RX4, TX4, 6)) rfl rfl (List.mem_flatten.mpr ⟨_, List.mem_of_getElem? (i := 0) rfl, (bLand_mem hz).choose_spec⟩) rfl rfl hl.1 dX1_move_16 (Nat.le_of_ble_eq_true rfl) (Nat.le_of_ble_eq_true rfl) (fun r_9 b1 H locs hw G => ?_)
    refine hw.elim fun hbs9 hc_8 => ?_
    clear hw
    subst hbs9
    have G : zS T A s.heap s [[(h, .inr (1, [.ref po, .ref a1_1, .int v0, .ref la, .int v1, .int v2, .int v3, .int v4, .int v5, .int v6, .int v7]))], [(a1_1, .inl (T.2 0, 7, .inl fw))], z] _ _ := G
    rcases hc_8 with ⟨rfl, h_10, h_11, h_12⟩ | ⟨rfl, h_13⟩
    · have h_10 : 0 ≤ y.toInt := h_10
      have h_11 : y.toInt < cr.toInt := h_11
      have h_12 : y.toInt < 7 := h_12
      refine lv_if_ne (tgt := 23) hx hb dX1_move_19 (by decide) (fun _ => ?_) (fun q => absurd q (by decide))
      refine lv_aload_n hx hb dX1_move_23 rfl (lv_at hl 0 rfl) ?_
      refine z_get C G clX1 0 rfl 1 (by decide) m_fl_RX1_18 rfl dX1_move_24 ?_
      refine lv_iload_n hx hb dX1_move_27 rfl (lv_at hl 1 rfl) ?_
      refine lv_dup2_11 hx hb dX1_move_28 rfl rfl ?_
      refine z_ild C G 1 rfl (vp_in_iff.mpr ⟨by omega, by omega⟩) dX1_move_29 ?_
      refine lv_topi (fun v_14 ev_14 => ?_)
      subst ev_14
      refine lv_iconst (v := 1) hx hb dX1_move_30 (by decide) ?_
      refine lv_isub hx hb dX1_move_31 ?_
      refine z_ist C G 1 rfl (vp_in_iff.mpr ⟨by omega, by omega⟩) dX1_move_32 (fun H locs G => ?_)
      have G : zS T A s.heap s [[(h, .inr (1, [.ref po, .ref a1_1, .int v0, .ref la, .int v1, .int v2, .int v3, .int v4, .int v5, .int v6, .int v7]))], [(a1_1, .inl (T.2 0, 7, .inl (upd fw x.toNatClampNeg ((fw x.toNatClampNeg) - 1))))], z] _ _ := G
      refine lv_aload_n hx hb dX1_move_33 rfl (lv_at hl 0 rfl) ?_
      refine z_get C G clX1 0 rfl 1 (by decide) m_fl_RX1_18 rfl dX1_move_34 ?_
      refine lv_iload_n hx hb dX1_move_37 rfl (lv_at hl 2 rfl) ?_
      refine lv_dup2_11 hx hb dX1_move_38 rfl rfl ?_
      refine z_ild C G 1 rfl (vp_in_iff.mpr ⟨by omega, by omega⟩) dX1_move_39 ?_
      refine lv_topi (fun v_15 ev_15 => ?_)
      subst ev_15
      refine lv_iconst (v := 1) hx hb dX1_move_40 (by decide) ?_
      refine lv_iadd hx hb dX1_move_41 ?_
      refine z_ist C G 1 rfl (vp_in_iff.mpr ⟨by omega, by omega⟩) dX1_move_42 (fun H locs G => ?_)
      have G : zS T A s.heap s [[(h, .inr (1, [.ref po, .ref a1_1, .int v0, .ref la, .int v1, .int v2, .int v3, .int v4, .int v5, .int v6, .int v7]))], [(a1_1, .inl (T.2 0, 7, .inl (upd (upd fw x.toNatClampNeg ((fw x.toNatClampNeg) - 1)) y.toNatClampNeg (((upd fw x.toNatClampNeg ((fw x.toNatClampNeg) - 1)) y.toNatClampNeg) + 1))))], z] _ _ := G
      refine lv_iload_n hx hb dX1_move_43 rfl (lv_at hl 1 rfl) ?_
      refine lv_iload_n hx hb dX1_move_44 rfl (lv_at hl 2 rfl) ?_
      refine lv_icmp_eq (tgt := 58) hx hb dX1_move_45 (by decide) (fun c_16 => ?_) (fun c_16 => ?_)
      · have c_16n : x.toInt = y.toInt := (fa_eq _ _).mp c_16
        refine lv_aload_n hx hb dX1_move_58 rfl (lv_at hl 0 rfl) ?_
        refine z_get C G clX1 0 rfl 6 (by decide) m_fl_RX1_44 rfl dX1_move_59 ?_
        refine lv_iconst (v := (-1)) hx hb dX1_move_62 (by decide) ?_
        refine lv_icmp_ne (tgt := 96) hx hb dX1_move_63 (by decide) (fun c_17 => ?_) (fun c_17 => ?_)
        · have c_17n : ¬ v3.toInt = (-1 : Int) := fun q => c_17 ((fa_eq _ _).mpr q)
          have hw_18 : bCourse T h po la (upd (upd fw x.toNatClampNeg ((fw x.toNatClampNeg) - 1)) y.toNatClampNeg (((upd fw x.toNatClampNeg ((fw x.toNatClampNeg) - 1)) y.toNatClampNeg) + 1)) v0 v1 v2 v3 v4 v5 v6 v7 [(h, .inr (1, [.ref po, .ref a1_1, .int v0, .ref la, .int v1, .int v2, .int v3, .int v4, .int v5, .int v6, .int v7])), (a1_1, .inl (T.2 0, 7, .inl (upd (upd fw x.toNatClampNeg ((fw x.toNatClampNeg) - 1)) y.toNatClampNeg (((upd fw x.toNatClampNeg ((fw x.toNatClampNeg) - 1)) y.toNatClampNeg) + 1))))] := ⟨a1_1, rfl⟩
          have G : zS T A s.heap s [[(h, .inr (1, [.ref po, .ref a1_1, .int v0, .ref la, .int v1, .int v2, .int v3, .int v4, .int v5, .int v6, .int v7])), (a1_1, .inl (T.2 0, 7, .inl (upd (upd fw x.toNatClampNeg ((fw x.toNatClampNeg) - 1)) y.toNatClampNeg (((upd fw x.toNatClampNeg ((fw x.toNatClampNeg) - 1)) y.toNatClampNeg) + 1))))], z] _ _ := G.re rfl
          exact z_vret C hr hlocks G (Nat.le_of_ble_eq_true rfl) (Nat.le_of_ble_eq_true rfl) dX1_move_96 ⟨([(h, .inr (1, [.ref po, .ref a1_1, .int v0, .ref la, .int v1, .int v2, .int v3, .int v4, .int v5, .int v6, .int v7])), (a1_1, .inl (T.2 0, 7, .inl (upd (upd fw x.toNatClampNeg ((fw x.toNatClampNeg) - 1)) y.toNatClampNeg (((upd fw x.toNatClampNeg ((fw x.toNatClampNeg) - 1)) y.toNatClampNeg) + 1))))]), (upd (upd fw x.toNatClampNeg ((fw x.toNatClampNeg) - 1)) y.toNatClampNeg (((upd fw x.toNatClampNeg ((fw x.toNatClampNeg) - 1)) y.toNatClampNeg) + 1)), v3, v5, rfl, hw_18, rfl⟩
        · have c_17n : v3.toInt = (-1 : Int) := (fa_eq _ _).mp c_17
          refine lv_aload_n hx hb dX1_move_66 rfl (lv_at hl 0 rfl) ?_
          refine z_get C G clX1 0 rfl 3 (by decide) m_fl_RX1_25 rfl dX1_move_67 ?_
          refine lv_iload_n hx hb dX1_move_70 rfl (lv_at hl 2 rfl) ?_
          refine z_Vi (bc := [z]) (br := [[(h, .inr (1, [.ref po, .ref a1_1, .int v0, .ref la, .int v1, .int v2, .int v3, .int v4, .int v5, .int v6, .int v7]))], [(a1_1, .inl (T.2 0, 7, .inl (upd (upd fw x.toNatClampNeg ((fw x.toNatClampNeg) - 1)) y.toNatClampNeg (((upd fw x.toNatClampNeg ((fw x.toNatClampNeg) - 1)) y.toNatClampNeg) + 1))))]]) (As := [.int y]) (rest := []) C G (c_isInn l T la cr inn k1 k2 k3 k4 z y hz) (kV_RX1_135 C.2.2.2.2 (Nat.le_of_ble_eq_true rfl) (Nat.le_of_ble_eq_true rfl)) [2] [0, 1] rfl rfl (ci := 4) (qc := (RX4, TX4, 6)) rfl rfl (List.mem_flatten.mpr ⟨_, List.mem_of_getElem? (i := 0) rfl, (bLand_mem hz).choose_spec⟩) rfl rfl hl.1 dX1_move_71 (Nat.le_of_ble_eq_true rfl) (Nat.le_of_ble_eq_true rfl) (fun r_20 b1 H locs hw G => ?_)
          refine hw.elim fun hbs9 hc_19 => ?_
          clear hw
          subst hbs9
          have G : zS T A s.heap s [[(h, .inr (1, [.ref po, .ref a1_1, .int v0, .ref la, .int v1, .int v2, .int v3, .int v4, .int v5, .int v6, .int v7]))], [(a1_1, .inl (T.2 0, 7, .inl (upd (upd fw x.toNatClampNeg ((fw x.toNatClampNeg) - 1)) y.toNatClampNeg (((upd fw x.toNatClampNeg ((fw x.toNatClampNeg) - 1)) y.toNatClampNeg) + 1))))], z] _ _ := G
          rcases hc_19 with ⟨rfl, h_21, h_22, h_23, h_24⟩ | ⟨rfl, h_25⟩
          · have h_21 : 0 ≤ y.toInt := h_21
            have h_22 : y.toInt < cr.toInt := h_22
            have h_23 : y.toInt < 7 := h_23
            have h_24 : ¬ zBit inn y = 0 := h_24
            refine lv_if_eq (tgt := 96) hx hb dX1_move_74 (by decide) (fun q => absurd q (by decide)) (fun _ => ?_)
            refine lv_aload_n hx hb dX1_move_77 rfl (lv_at hl 0 rfl) ?_
            refine z_get C G clX1 0 rfl 3 (by decide) m_fl_RX1_25 rfl dX1_move_78 ?_
            refine lv_iload_n hx hb dX1_move_81 rfl (lv_at hl 1 rfl) ?_
            refine z_Vi (bc := [z]) (br := [[(h, .inr (1, [.ref po, .ref a1_1, .int v0, .ref la, .int v1, .int v2, .int v3, .int v4, .int v5, .int v6, .int v7]))], [(a1_1, .inl (T.2 0, 7, .inl (upd (upd fw x.toNatClampNeg ((fw x.toNatClampNeg) - 1)) y.toNatClampNeg (((upd fw x.toNatClampNeg ((fw x.toNatClampNeg) - 1)) y.toNatClampNeg) + 1))))]]) (As := [.int x]) (rest := []) C G (c_isInn l T la cr inn k1 k2 k3 k4 z x hz) (kV_RX1_135 C.2.2.2.2 (Nat.le_of_ble_eq_true rfl) (Nat.le_of_ble_eq_true rfl)) [2] [0, 1] rfl rfl (ci := 4) (qc := (RX4, TX4, 6)) rfl rfl (List.mem_flatten.mpr ⟨_, List.mem_of_getElem? (i := 0) rfl, (bLand_mem hz).choose_spec⟩) rfl rfl hl.1 dX1_move_82 (Nat.le_of_ble_eq_true rfl) (Nat.le_of_ble_eq_true rfl) (fun r_27 b1 H locs hw G => ?_)
            refine hw.elim fun hbs9 hc_26 => ?_
            clear hw
            subst hbs9
            have G : zS T A s.heap s [[(h, .inr (1, [.ref po, .ref a1_1, .int v0, .ref la, .int v1, .int v2, .int v3, .int v4, .int v5, .int v6, .int v7]))], [(a1_1, .inl (T.2 0, 7, .inl (upd (upd fw x.toNatClampNeg ((fw x.toNatClampNeg) - 1)) y.toNatClampNeg (((upd fw x.toNatClampNeg ((fw x.toNatClampNeg) - 1)) y.toNatClampNeg) + 1))))], z] _ _ := G
            rcases hc_26 with ⟨rfl, h_28, h_29, h_30, h_31⟩ | ⟨rfl, h_32⟩
            · have h_28 : 0 ≤ x.toInt := h_28
              have h_29 : x.toInt < cr.toInt := h_29
              have h_30 : x.toInt < 7 := h_30
              have h_31 : ¬ zBit inn x = 0 := h_31
              refine lv_if_ne (tgt := 96) hx hb dX1_move_85 (by decide) (fun _ => ?_) (fun q => absurd q (by decide))
              have hw_33 : bCourse T h po la (upd (upd fw x.toNatClampNeg ((fw x.toNatClampNeg) - 1)) y.toNatClampNeg (((upd fw x.toNatClampNeg ((fw x.toNatClampNeg) - 1)) y.toNatClampNeg) + 1)) v0 v1 v2 v3 v4 v5 v6 v7 [(h, .inr (1, [.ref po, .ref a1_1, .int v0, .ref la, .int v1, .int v2, .int v3, .int v4, .int v5, .int v6, .int v7])), (a1_1, .inl (T.2 0, 7, .inl (upd (upd fw x.toNatClampNeg ((fw x.toNatClampNeg) - 1)) y.toNatClampNeg (((upd fw x.toNatClampNeg ((fw x.toNatClampNeg) - 1)) y.toNatClampNeg) + 1))))] := ⟨a1_1, rfl⟩
              have G : zS T A s.heap s [[(h, .inr (1, [.ref po, .ref a1_1, .int v0, .ref la, .int v1, .int v2, .int v3, .int v4, .int v5, .int v6, .int v7])), (a1_1, .inl (T.2 0, 7, .inl (upd (upd fw x.toNatClampNeg ((fw x.toNatClampNeg) - 1)) y.toNatClampNeg (((upd fw x.toNatClampNeg ((fw x.toNatClampNeg) - 1)) y.toNatClampNeg) + 1))))], z] _ _ := G.re rfl
              exact z_vret C hr hlocks G (Nat.le_of_ble_eq_true rfl) (Nat.le_of_ble_eq_true rfl) dX1_move_96 ⟨([(h, .inr (1, [.ref po, .ref a1_1, .int v0, .ref la, .int v1, .int v2, .int v3, .int v4, .int v5, .int v6, .int v7])), (a1_1, .inl (T.2 0, 7, .inl (upd (upd fw x.toNatClampNeg ((fw x.toNatClampNeg) - 1)) y.toNatClampNeg (((upd fw x.toNatClampNeg ((fw x.toNatClampNeg) - 1)) y.toNatClampNeg) + 1))))]), (upd (upd fw x.toNatClampNeg ((fw x.toNatClampNeg) - 1)) y.toNatClampNeg (((upd fw x.toNatClampNeg ((fw x.toNatClampNeg) - 1)) y.toNatClampNeg) + 1)), v3, v5, rfl, hw_33, rfl⟩
            · have h_32 : (x.toInt < 0 ∨ cr.toInt ≤ x.toInt ∨ 7 ≤ x.toInt ∨ zBit inn x = 0) := h_32
              refine lv_if_ne (tgt := 96) hx hb dX1_move_85 (by decide) (fun q => absurd (by decide) q) (fun _ => ?_)
              refine lv_aload_n hx hb dX1_move_88 rfl (lv_at hl 0 rfl) ?_
              refine lv_aload_n hx hb dX1_move_89 rfl (lv_at hl 0 rfl) ?_
              refine z_get C G clX1 0 rfl 5 (by decide) m_fl_RX1_41 rfl dX1_move_90 ?_
              refine z_put C G clX1 0 rfl 6 (by decide) m_fl_RX1_44 rfl rfl rfl (Nat.le_of_ble_eq_true rfl) dX1_move_93 (fun H locs G => ?_)
              have G : zS T A s.heap s [[(h, .inr (1, [.ref po, .ref a1_1, .int v0, .ref la, .int v1, .int v2, .int v2, .int v4, .int v5, .int v6, .int v7]))], [(a1_1, .inl (T.2 0, 7, .inl (upd (upd fw x.toNatClampNeg ((fw x.toNatClampNeg) - 1)) y.toNatClampNeg (((upd fw x.toNatClampNeg ((fw x.toNatClampNeg) - 1)) y.toNatClampNeg) + 1))))], z] _ _ := G
              have hw_34 : bCourse T h po la (upd (upd fw x.toNatClampNeg ((fw x.toNatClampNeg) - 1)) y.toNatClampNeg (((upd fw x.toNatClampNeg ((fw x.toNatClampNeg) - 1)) y.toNatClampNeg) + 1)) v0 v1 v2 v2 v4 v5 v6 v7 [(h, .inr (1, [.ref po, .ref a1_1, .int v0, .ref la, .int v1, .int v2, .int v2, .int v4, .int v5, .int v6, .int v7])), (a1_1, .inl (T.2 0, 7, .inl (upd (upd fw x.toNatClampNeg ((fw x.toNatClampNeg) - 1)) y.toNatClampNeg (((upd fw x.toNatClampNeg ((fw x.toNatClampNeg) - 1)) y.toNatClampNeg) + 1))))] := ⟨a1_1, rfl⟩
              have G : zS T A s.heap s [[(h, .inr (1, [.ref po, .ref a1_1, .int v0, .ref la, .int v1, .int v2, .int v2, .int v4, .int v5, .int v6, .int v7])), (a1_1, .inl (T.2 0, 7, .inl (upd (upd fw x.toNatClampNeg ((fw x.toNatClampNeg) - 1)) y.toNatClampNeg (((upd fw x.toNatClampNeg ((fw x.toNatClampNeg) - 1)) y.toNatClampNeg) + 1))))], z] _ _ := G.re rfl
              exact z_vret C hr hlocks G (Nat.le_of_ble_eq_true rfl) (Nat.le_of_ble_eq_true rfl) dX1_move_96 ⟨([(h, .inr (1, [.ref po, .ref a1_1, .int v0, .ref la, .int v1, .int v2, .int v2, .int v4, .int v5, .int v6, .int v7])), (a1_1, .inl (T.2 0, 7, .inl (upd (upd fw x.toNatClampNeg ((fw x.toNatClampNeg) - 1)) y.toNatClampNeg (((upd fw x.toNatClampNeg ((fw x.toNatClampNeg) - 1)) y.toNatClampNeg) + 1))))]), (upd (upd fw x.toNatClampNeg ((fw x.toNatClampNeg) - 1)) y.toNatClampNeg (((upd fw x.toNatClampNeg ((fw x.toNatClampNeg) - 1)) y.toNatClampNeg) + 1)), v2, v5, rfl, hw_34, rfl⟩
          · have h_25 : (y.toInt < 0 ∨ cr.toInt ≤ y.toInt ∨ 7 ≤ y.toInt ∨ zBit inn y = 0) := h_25
            refine lv_if_eq (tgt := 96) hx hb dX1_move_74 (by decide) (fun _ => ?_) (fun q => absurd (by decide) q)
            have hw_35 : bCourse T h po la (upd (upd fw x.toNatClampNeg ((fw x.toNatClampNeg) - 1)) y.toNatClampNeg (((upd fw x.toNatClampNeg ((fw x.toNatClampNeg) - 1)) y.toNatClampNeg) + 1)) v0 v1 v2 v3 v4 v5 v6 v7 [(h, .inr (1, [.ref po, .ref a1_1, .int v0, .ref la, .int v1, .int v2, .int v3, .int v4, .int v5, .int v6, .int v7])), (a1_1, .inl (T.2 0, 7, .inl (upd (upd fw x.toNatClampNeg ((fw x.toNatClampNeg) - 1)) y.toNatClampNeg (((upd fw x.toNatClampNeg ((fw x.toNatClampNeg) - 1)) y.toNatClampNeg) + 1))))] := ⟨a1_1, rfl⟩
            have G : zS T A s.heap s [[(h, .inr (1, [.ref po, .ref a1_1, .int v0, .ref la, .int v1, .int v2, .int v3, .int v4, .int v5, .int v6, .int v7])), (a1_1, .inl (T.2 0, 7, .inl (upd (upd fw x.toNatClampNeg ((fw x.toNatClampNeg) - 1)) y.toNatClampNeg (((upd fw x.toNatClampNeg ((fw x.toNatClampNeg) - 1)) y.toNatClampNeg) + 1))))], z] _ _ := G.re rfl
            exact z_vret C hr hlocks G (Nat.le_of_ble_eq_true rfl) (Nat.le_of_ble_eq_true rfl) dX1_move_96 ⟨([(h, .inr (1, [.ref po, .ref a1_1, .int v0, .ref la, .int v1, .int v2, .int v3, .int v4, .int v5, .int v6, .int v7])), (a1_1, .inl (T.2 0, 7, .inl (upd (upd fw x.toNatClampNeg ((fw x.toNatClampNeg) - 1)) y.toNatClampNeg (((upd fw x.toNatClampNeg ((fw x.toNatClampNeg) - 1)) y.toNatClampNeg) + 1))))]), (upd (upd fw x.toNatClampNeg ((fw x.toNatClampNeg) - 1)) y.toNatClampNeg (((upd fw x.toNatClampNeg ((fw x.toNatClampNeg) - 1)) y.toNatClampNeg) + 1)), v3, v5, rfl, hw_35, rfl⟩
      · have c_16n : ¬ x.toInt = y.toInt := fun q => c_16 ((fa_eq _ _).mpr q)
        refine lv_aload_n hx hb dX1_move_48 rfl (lv_at hl 0 rfl) ?_
        refine lv_dup hx hb dX1_move_49 rfl ?_
        refine z_get C G clX1 0 rfl 8 (by decide) m_fl_RX1_50 rfl dX1_move_50 ?_
        refine lv_iconst (v := 1) hx hb dX1_move_53 (by decide) ?_
        refine lv_iadd hx hb dX1_move_54 ?_
        refine z_put C G clX1 0 rfl 8 (by decide) m_fl_RX1_50 rfl rfl rfl (Nat.le_of_ble_eq_true rfl) dX1_move_55 (fun H locs G => ?_)
        have G : zS T A s.heap s [[(h, .inr (1, [.ref po, .ref a1_1, .int v0, .ref la, .int v1, .int v2, .int v3, .int v4, .int (v5 + 1), .int v6, .int v7]))], [(a1_1, .inl (T.2 0, 7, .inl (upd (upd fw x.toNatClampNeg ((fw x.toNatClampNeg) - 1)) y.toNatClampNeg (((upd fw x.toNatClampNeg ((fw x.toNatClampNeg) - 1)) y.toNatClampNeg) + 1))))], z] _ _ := G
        refine lv_aload_n hx hb dX1_move_58 rfl (lv_at hl 0 rfl) ?_
        refine z_get C G clX1 0 rfl 6 (by decide) m_fl_RX1_44 rfl dX1_move_59 ?_
        refine lv_iconst (v := (-1)) hx hb dX1_move_62 (by decide) ?_
        refine lv_icmp_ne (tgt := 96) hx hb dX1_move_63 (by decide) (fun c_36 => ?_) (fun c_36 => ?_)
        · have c_36n : ¬ v3.toInt = (-1 : Int) := fun q => c_36 ((fa_eq _ _).mpr q)
          have hw_37 : bCourse T h po la (upd (upd fw x.toNatClampNeg ((fw x.toNatClampNeg) - 1)) y.toNatClampNeg (((upd fw x.toNatClampNeg ((fw x.toNatClampNeg) - 1)) y.toNatClampNeg) + 1)) v0 v1 v2 v3 v4 (v5 + 1) v6 v7 [(h, .inr (1, [.ref po, .ref a1_1, .int v0, .ref la, .int v1, .int v2, .int v3, .int v4, .int (v5 + 1), .int v6, .int v7])), (a1_1, .inl (T.2 0, 7, .inl (upd (upd fw x.toNatClampNeg ((fw x.toNatClampNeg) - 1)) y.toNatClampNeg (((upd fw x.toNatClampNeg ((fw x.toNatClampNeg) - 1)) y.toNatClampNeg) + 1))))] := ⟨a1_1, rfl⟩
          have G : zS T A s.heap s [[(h, .inr (1, [.ref po, .ref a1_1, .int v0, .ref la, .int v1, .int v2, .int v3, .int v4, .int (v5 + 1), .int v6, .int v7])), (a1_1, .inl (T.2 0, 7, .inl (upd (upd fw x.toNatClampNeg ((fw x.toNatClampNeg) - 1)) y.toNatClampNeg (((upd fw x.toNatClampNeg ((fw x.toNatClampNeg) - 1)) y.toNatClampNeg) + 1))))], z] _ _ := G.re rfl
          exact z_vret C hr hlocks G (Nat.le_of_ble_eq_true rfl) (Nat.le_of_ble_eq_true rfl) dX1_move_96 ⟨([(h, .inr (1, [.ref po, .ref a1_1, .int v0, .ref la, .int v1, .int v2, .int v3, .int v4, .int (v5 + 1), .int v6, .int v7])), (a1_1, .inl (T.2 0, 7, .inl (upd (upd fw x.toNatClampNeg ((fw x.toNatClampNeg) - 1)) y.toNatClampNeg (((upd fw x.toNatClampNeg ((fw x.toNatClampNeg) - 1)) y.toNatClampNeg) + 1))))]), (upd (upd fw x.toNatClampNeg ((fw x.toNatClampNeg) - 1)) y.toNatClampNeg (((upd fw x.toNatClampNeg ((fw x.toNatClampNeg) - 1)) y.toNatClampNeg) + 1)), v3, (v5 + 1), rfl, hw_37, rfl⟩
        · have c_36n : v3.toInt = (-1 : Int) := (fa_eq _ _).mp c_36
          refine lv_aload_n hx hb dX1_move_66 rfl (lv_at hl 0 rfl) ?_
          refine z_get C G clX1 0 rfl 3 (by decide) m_fl_RX1_25 rfl dX1_move_67 ?_
          refine lv_iload_n hx hb dX1_move_70 rfl (lv_at hl 2 rfl) ?_
          refine z_Vi (bc := [z]) (br := [[(h, .inr (1, [.ref po, .ref a1_1, .int v0, .ref la, .int v1, .int v2, .int v3, .int v4, .int (v5 + 1), .int v6, .int v7]))], [(a1_1, .inl (T.2 0, 7, .inl (upd (upd fw x.toNatClampNeg ((fw x.toNatClampNeg) - 1)) y.toNatClampNeg (((upd fw x.toNatClampNeg ((fw x.toNatClampNeg) - 1)) y.toNatClampNeg) + 1))))]]) (As := [.int y]) (rest := []) C G (c_isInn l T la cr inn k1 k2 k3 k4 z y hz) (kV_RX1_135 C.2.2.2.2 (Nat.le_of_ble_eq_true rfl) (Nat.le_of_ble_eq_true rfl)) [2] [0, 1] rfl rfl (ci := 4) (qc := (RX4, TX4, 6)) rfl rfl (List.mem_flatten.mpr ⟨_, List.mem_of_getElem? (i := 0) rfl, (bLand_mem hz).choose_spec⟩) rfl rfl hl.1 dX1_move_71 (Nat.le_of_ble_eq_true rfl) (Nat.le_of_ble_eq_true rfl) (fun r_39 b1 H locs hw G => ?_)
          refine hw.elim fun hbs9 hc_38 => ?_
          clear hw
          subst hbs9
          have G : zS T A s.heap s [[(h, .inr (1, [.ref po, .ref a1_1, .int v0, .ref la, .int v1, .int v2, .int v3, .int v4, .int (v5 + 1), .int v6, .int v7]))], [(a1_1, .inl (T.2 0, 7, .inl (upd (upd fw x.toNatClampNeg ((fw x.toNatClampNeg) - 1)) y.toNatClampNeg (((upd fw x.toNatClampNeg ((fw x.toNatClampNeg) - 1)) y.toNatClampNeg) + 1))))], z] _ _ := G
          rcases hc_38 with ⟨rfl, h_40, h_41, h_42, h_43⟩ | ⟨rfl, h_44⟩
          · have h_40 : 0 ≤ y.toInt := h_40
            have h_41 : y.toInt < cr.toInt := h_41
            have h_42 : y.toInt < 7 := h_42
            have h_43 : ¬ zBit inn y = 0 := h_43
            refine lv_if_eq (tgt := 96) hx hb dX1_move_74 (by decide) (fun q => absurd q (by decide)) (fun _ => ?_)
            refine lv_aload_n hx hb dX1_move_77 rfl (lv_at hl 0 rfl) ?_
            refine z_get C G clX1 0 rfl 3 (by decide) m_fl_RX1_25 rfl dX1_move_78 ?_
            refine lv_iload_n hx hb dX1_move_81 rfl (lv_at hl 1 rfl) ?_
            refine z_Vi (bc := [z]) (br := [[(h, .inr (1, [.ref po, .ref a1_1, .int v0, .ref la, .int v1, .int v2, .int v3, .int v4, .int (v5 + 1), .int v6, .int v7]))], [(a1_1, .inl (T.2 0, 7, .inl (upd (upd fw x.toNatClampNeg ((fw x.toNatClampNeg) - 1)) y.toNatClampNeg (((upd fw x.toNatClampNeg ((fw x.toNatClampNeg) - 1)) y.toNatClampNeg) + 1))))]]) (As := [.int x]) (rest := []) C G (c_isInn l T la cr inn k1 k2 k3 k4 z x hz) (kV_RX1_135 C.2.2.2.2 (Nat.le_of_ble_eq_true rfl) (Nat.le_of_ble_eq_true rfl)) [2] [0, 1] rfl rfl (ci := 4) (qc := (RX4, TX4, 6)) rfl rfl (List.mem_flatten.mpr ⟨_, List.mem_of_getElem? (i := 0) rfl, (bLand_mem hz).choose_spec⟩) rfl rfl hl.1 dX1_move_82 (Nat.le_of_ble_eq_true rfl) (Nat.le_of_ble_eq_true rfl) (fun r_46 b1 H locs hw G => ?_)
            refine hw.elim fun hbs9 hc_45 => ?_
            clear hw
            subst hbs9
            have G : zS T A s.heap s [[(h, .inr (1, [.ref po, .ref a1_1, .int v0, .ref la, .int v1, .int v2, .int v3, .int v4, .int (v5 + 1), .int v6, .int v7]))], [(a1_1, .inl (T.2 0, 7, .inl (upd (upd fw x.toNatClampNeg ((fw x.toNatClampNeg) - 1)) y.toNatClampNeg (((upd fw x.toNatClampNeg ((fw x.toNatClampNeg) - 1)) y.toNatClampNeg) + 1))))], z] _ _ := G
            rcases hc_45 with ⟨rfl, h_47, h_48, h_49, h_50⟩ | ⟨rfl, h_51⟩
            · have h_47 : 0 ≤ x.toInt := h_47
              have h_48 : x.toInt < cr.toInt := h_48
              have h_49 : x.toInt < 7 := h_49
              have h_50 : ¬ zBit inn x = 0 := h_50
              refine lv_if_ne (tgt := 96) hx hb dX1_move_85 (by decide) (fun _ => ?_) (fun q => absurd q (by decide))
              have hw_52 : bCourse T h po la (upd (upd fw x.toNatClampNeg ((fw x.toNatClampNeg) - 1)) y.toNatClampNeg (((upd fw x.toNatClampNeg ((fw x.toNatClampNeg) - 1)) y.toNatClampNeg) + 1)) v0 v1 v2 v3 v4 (v5 + 1) v6 v7 [(h, .inr (1, [.ref po, .ref a1_1, .int v0, .ref la, .int v1, .int v2, .int v3, .int v4, .int (v5 + 1), .int v6, .int v7])), (a1_1, .inl (T.2 0, 7, .inl (upd (upd fw x.toNatClampNeg ((fw x.toNatClampNeg) - 1)) y.toNatClampNeg (((upd fw x.toNatClampNeg ((fw x.toNatClampNeg) - 1)) y.toNatClampNeg) + 1))))] := ⟨a1_1, rfl⟩
              have G : zS T A s.heap s [[(h, .inr (1, [.ref po, .ref a1_1, .int v0, .ref la, .int v1, .int v2, .int v3, .int v4, .int (v5 + 1), .int v6, .int v7])), (a1_1, .inl (T.2 0, 7, .inl (upd (upd fw x.toNatClampNeg ((fw x.toNatClampNeg) - 1)) y.toNatClampNeg (((upd fw x.toNatClampNeg ((fw x.toNatClampNeg) - 1)) y.toNatClampNeg) + 1))))], z] _ _ := G.re rfl
              exact z_vret C hr hlocks G (Nat.le_of_ble_eq_true rfl) (Nat.le_of_ble_eq_true rfl) dX1_move_96 ⟨([(h, .inr (1, [.ref po, .ref a1_1, .int v0, .ref la, .int v1, .int v2, .int v3, .int v4, .int (v5 + 1), .int v6, .int v7])), (a1_1, .inl (T.2 0, 7, .inl (upd (upd fw x.toNatClampNeg ((fw x.toNatClampNeg) - 1)) y.toNatClampNeg (((upd fw x.toNatClampNeg ((fw x.toNatClampNeg) - 1)) y.toNatClampNeg) + 1))))]), (upd (upd fw x.toNatClampNeg ((fw x.toNatClampNeg) - 1)) y.toNatClampNeg (((upd fw x.toNatClampNeg ((fw x.toNatClampNeg) - 1)) y.toNatClampNeg) + 1)), v3, (v5 + 1), rfl, hw_52, rfl⟩
            · have h_51 : (x.toInt < 0 ∨ cr.toInt ≤ x.toInt ∨ 7 ≤ x.toInt ∨ zBit inn x = 0) := h_51
              refine lv_if_ne (tgt := 96) hx hb dX1_move_85 (by decide) (fun q => absurd (by decide) q) (fun _ => ?_)
              refine lv_aload_n hx hb dX1_move_88 rfl (lv_at hl 0 rfl) ?_
              refine lv_aload_n hx hb dX1_move_89 rfl (lv_at hl 0 rfl) ?_
              refine z_get C G clX1 0 rfl 5 (by decide) m_fl_RX1_41 rfl dX1_move_90 ?_
              refine z_put C G clX1 0 rfl 6 (by decide) m_fl_RX1_44 rfl rfl rfl (Nat.le_of_ble_eq_true rfl) dX1_move_93 (fun H locs G => ?_)
              have G : zS T A s.heap s [[(h, .inr (1, [.ref po, .ref a1_1, .int v0, .ref la, .int v1, .int v2, .int v2, .int v4, .int (v5 + 1), .int v6, .int v7]))], [(a1_1, .inl (T.2 0, 7, .inl (upd (upd fw x.toNatClampNeg ((fw x.toNatClampNeg) - 1)) y.toNatClampNeg (((upd fw x.toNatClampNeg ((fw x.toNatClampNeg) - 1)) y.toNatClampNeg) + 1))))], z] _ _ := G
              have hw_53 : bCourse T h po la (upd (upd fw x.toNatClampNeg ((fw x.toNatClampNeg) - 1)) y.toNatClampNeg (((upd fw x.toNatClampNeg ((fw x.toNatClampNeg) - 1)) y.toNatClampNeg) + 1)) v0 v1 v2 v2 v4 (v5 + 1) v6 v7 [(h, .inr (1, [.ref po, .ref a1_1, .int v0, .ref la, .int v1, .int v2, .int v2, .int v4, .int (v5 + 1), .int v6, .int v7])), (a1_1, .inl (T.2 0, 7, .inl (upd (upd fw x.toNatClampNeg ((fw x.toNatClampNeg) - 1)) y.toNatClampNeg (((upd fw x.toNatClampNeg ((fw x.toNatClampNeg) - 1)) y.toNatClampNeg) + 1))))] := ⟨a1_1, rfl⟩
              have G : zS T A s.heap s [[(h, .inr (1, [.ref po, .ref a1_1, .int v0, .ref la, .int v1, .int v2, .int v2, .int v4, .int (v5 + 1), .int v6, .int v7])), (a1_1, .inl (T.2 0, 7, .inl (upd (upd fw x.toNatClampNeg ((fw x.toNatClampNeg) - 1)) y.toNatClampNeg (((upd fw x.toNatClampNeg ((fw x.toNatClampNeg) - 1)) y.toNatClampNeg) + 1))))], z] _ _ := G.re rfl
              exact z_vret C hr hlocks G (Nat.le_of_ble_eq_true rfl) (Nat.le_of_ble_eq_true rfl) dX1_move_96 ⟨([(h, .inr (1, [.ref po, .ref a1_1, .int v0, .ref la, .int v1, .int v2, .int v2, .int v4, .int (v5 + 1), .int v6, .int v7])), (a1_1, .inl (T.2 0, 7, .inl (upd (upd fw x.toNatClampNeg ((fw x.toNatClampNeg) - 1)) y.toNatClampNeg (((upd fw x.toNatClampNeg ((fw x.toNatClampNeg) - 1)) y.toNatClampNeg) + 1))))]), (upd (upd fw x.toNatClampNeg ((fw x.toNatClampNeg) - 1)) y.toNatClampNeg (((upd fw x.toNatClampNeg ((fw x.toNatClampNeg) - 1)) y.toNatClampNeg) + 1)), v2, (v5 + 1), rfl, hw_53, rfl⟩
          · have h_44 : (y.toInt < 0 ∨ cr.toInt ≤ y.toInt ∨ 7 ≤ y.toInt ∨ zBit inn y = 0) := h_44
            refine lv_if_eq (tgt := 96) hx hb dX1_move_74 (by decide) (fun _ => ?_) (fun q => absurd (by decide) q)
            have hw_54 : bCourse T h po la (upd (upd fw x.toNatClampNeg ((fw x.toNatClampNeg) - 1)) y.toNatClampNeg (((upd fw x.toNatClampNeg ((fw x.toNatClampNeg) - 1)) y.toNatClampNeg) + 1)) v0 v1 v2 v3 v4 (v5 + 1) v6 v7 [(h, .inr (1, [.ref po, .ref a1_1, .int v0, .ref la, .int v1, .int v2, .int v3, .int v4, .int (v5 + 1), .int v6, .int v7])), (a1_1, .inl (T.2 0, 7, .inl (upd (upd fw x.toNatClampNeg ((fw x.toNatClampNeg) - 1)) y.toNatClampNeg (((upd fw x.toNatClampNeg ((fw x.toNatClampNeg) - 1)) y.toNatClampNeg) + 1))))] := ⟨a1_1, rfl⟩
            have G : zS T A s.heap s [[(h, .inr (1, [.ref po, .ref a1_1, .int v0, .ref la, .int v1, .int v2, .int v3, .int v4, .int (v5 + 1), .int v6, .int v7])), (a1_1, .inl (T.2 0, 7, .inl (upd (upd fw x.toNatClampNeg ((fw x.toNatClampNeg) - 1)) y.toNatClampNeg (((upd fw x.toNatClampNeg ((fw x.toNatClampNeg) - 1)) y.toNatClampNeg) + 1))))], z] _ _ := G.re rfl
            exact z_vret C hr hlocks G (Nat.le_of_ble_eq_true rfl) (Nat.le_of_ble_eq_true rfl) dX1_move_96 ⟨([(h, .inr (1, [.ref po, .ref a1_1, .int v0, .ref la, .int v1, .int v2, .int v3, .int v4, .int (v5 + 1), .int v6, .int v7])), (a1_1, .inl (T.2 0, 7, .inl (upd (upd fw x.toNatClampNeg ((fw x.toNatClampNeg) - 1)) y.toNatClampNeg (((upd fw x.toNatClampNeg ((fw x.toNatClampNeg) - 1)) y.toNatClampNeg) + 1))))]), (upd (upd fw x.toNatClampNeg ((fw x.toNatClampNeg) - 1)) y.toNatClampNeg (((upd fw x.toNatClampNeg ((fw x.toNatClampNeg) - 1)) y.toNatClampNeg) + 1)), v3, (v5 + 1), rfl, hw_54, rfl⟩
    · have h_13 : (y.toInt < 0 ∨ cr.toInt ≤ y.toInt ∨ 7 ≤ y.toInt) := h_13
      refine lv_if_ne (tgt := 23) hx hb dX1_move_19 (by decide) (fun q => absurd (by decide) q) (fun _ => ?_)
      have hw_55 : bCourse T h po la fw v0 v1 v2 v3 v4 v5 v6 v7 [(h, .inr (1, [.ref po, .ref a1_1, .int v0, .ref la, .int v1, .int v2, .int v3, .int v4, .int v5, .int v6, .int v7])), (a1_1, .inl (T.2 0, 7, .inl fw))] := ⟨a1_1, rfl⟩
      have G : zS T A s.heap s [[(h, .inr (1, [.ref po, .ref a1_1, .int v0, .ref la, .int v1, .int v2, .int v3, .int v4, .int v5, .int v6, .int v7])), (a1_1, .inl (T.2 0, 7, .inl fw))], z] _ _ := G.re rfl
      exact z_vret C hr hlocks G (Nat.le_of_ble_eq_true rfl) (Nat.le_of_ble_eq_true rfl) dX1_move_22 ⟨([(h, .inr (1, [.ref po, .ref a1_1, .int v0, .ref la, .int v1, .int v2, .int v3, .int v4, .int v5, .int v6, .int v7])), (a1_1, .inl (T.2 0, 7, .inl fw))]), fw, v3, v5, rfl, hw_55, (by exfalso; omega)⟩
  · have h_7 : (x.toInt < 0 ∨ cr.toInt ≤ x.toInt ∨ 7 ≤ x.toInt) := h_7
    refine lv_if_eq (tgt := 22) hx hb dX1_move_8 (by decide) (fun _ => ?_) (fun q => absurd (by decide) q)
    have hw_56 : bCourse T h po la fw v0 v1 v2 v3 v4 v5 v6 v7 [(h, .inr (1, [.ref po, .ref a1_1, .int v0, .ref la, .int v1, .int v2, .int v3, .int v4, .int v5, .int v6, .int v7])), (a1_1, .inl (T.2 0, 7, .inl fw))] := ⟨a1_1, rfl⟩
    have G : zS T A s.heap s [[(h, .inr (1, [.ref po, .ref a1_1, .int v0, .ref la, .int v1, .int v2, .int v3, .int v4, .int v5, .int v6, .int v7])), (a1_1, .inl (T.2 0, 7, .inl fw))], z] _ _ := G.re rfl
    exact z_vret C hr hlocks G (Nat.le_of_ble_eq_true rfl) (Nat.le_of_ble_eq_true rfl) dX1_move_22 ⟨([(h, .inr (1, [.ref po, .ref a1_1, .int v0, .ref la, .int v1, .int v2, .int v3, .int v4, .int v5, .int v6, .int v7])), (a1_1, .inl (T.2 0, 7, .inl fw))]), fw, v3, v5, rfl, hw_56, (by exfalso; omega)⟩
theorem zStep_t {f1 f2 f3 lf : Nat → Int32} {x : Int32} (h : zStep f1 f2 f3 lf x = -1) (hI : zP3 f1 f3) (hb : ∀ j r : Nat, j < 7 → r < 4 → (r : Int) < (f3 j).toInt → 0 ≤ (lf (4 * j + r)).toInt) : zTurn f1 f2 f3 x = -1 := by
  by_cases t : zTurn f1 f2 f3 x = -1
  · exact t
  · exfalso
    unfold zStep at h
    rw [if_neg t] at h
    have g := (zTurn_lt (f2 := f2) hI x).resolve_left t
    have e1 := z_clI g.1
    have e2 := z_clI g.2.2.1
    have q := (hI x.toNatClampNeg (by omega)).1
    have b := hb x.toNatClampNeg (zTurn f1 f2 f3 x).toNatClampNeg (by omega) (by omega) (by omega)
    rw [h] at b
    exact absurd b (by decide)
theorem zLq_b {cr inn : Int32} {f3 k1 k2 : Nat → Int32} (hr : ∀ j, j < 7 → (f3 j).toInt ≤ (k1 j).toInt) (hL : zLq cr k1 k2) : ∀ j r : Nat, j < 7 → r < 4 → (r : Int) < (f3 j).toInt → 0 ≤ (k2 (4 * j + r)).toInt := fun j r hj hr4 hq => (hL j r hj hr4 (Int.lt_of_lt_of_le hq (hr j hj))).1
set_option maxHeartbeats 4000000 in
set_option maxRecDepth 100000 in
/-- c_f_go -/
theorem c_f_go (l : Launch) (T : zTy) (h : Nat) (po : Nat) (la : Nat) (fw : Nat → Int32) (v0 : Int32) (v1 : Int32) (v2 : Int32) (v3 : Int32) (v4 : Int32) (v5 : Int32) (v6 : Int32) (v7 : Int32) (wc : va_W) (f1 : Nat → Int32) (f2 : Nat → Int32) (f3 : Nat → Int32) (st : Int32) (wh : Int32) (wp : va_W) (cr : Int32) (inn : Int32) (k1 : Nat → Int32) (k2 : Nat → Int32) (k3 : Nat → Int32) (k4 : Nat → Int32) (z : va_W) (x : Int32) (hc : bCourse T h po la fw v0 v1 v2 v3 v4 v5 v6 v7 wc) (hp : bPosts T po la f1 f2 f3 st wh wp) (hz : bLand T la cr inn k1 k2 k3 k4 z) (hP : zP3 f1 f3) (hI : zLI cr k1 k3) (hW : ∀ j, j < 7 → f3 j = zWays cr inn k1 (nI j)) (hLq : zLq cr k1 k2) : zMi l T yX1_go cX1_go 3 (some .boolean) 4 0 0 [.ref h, .int x] [wc, wp, z] (fun (r : Int32) bs => ∃ (wc2 : va_W) (gw : Nat → Int32) (u0 : Int32) (u1 : Int32) (u2 : Int32) (u3 : Int32) (u4 : Int32) (u5 : Int32) (u6 : Int32) (u7 : Int32) (wp2 : va_W) (g1 : Nat → Int32) (g2 : Nat → Int32) (sa : Int32) (wa : Int32), bs = [wc2, wp2, z] ∧ bCourse T h po la gw u0 u1 u2 u3 u4 u5 u6 u7 wc2 ∧ bPosts T po la g1 g2 f3 sa wa wp2 ∧ zP3 g1 f3 ∧ (r = 1 ∧ zGoF cr f3 k2 x (f1, f2, fw, v0, v1) = some (g1, g2, gw, u0, u1) ∨ r = 0 ∧ zGoF cr f3 k2 x (f1, f2, fw, v0, v1) = none ∧ g1 = f1 ∧ g2 = f2 ∧ gw = fw ∧ u0 = v0 ∧ u1 = v1) ∧ (u2 = v2 ∧ u7 = v7)) := by
  refine zMi_of (own := RX1) (by decide) rfl (Nat.le_of_ble_eq_true rfl) ?_
  intro p e s m args below meth c A ls C hr hlocks hnm hAe G hl
  have hx := C.1
  have hb := C.2.1
  have hl : lv_has ls 3 [(0, .ref h), (1, .int x)] := hl
  have h7 := hI.1.2
  have hWr := zWays_r hI hW
  have hLb := zLq_b (inn := inn) hWr hLq
  refine lv_aload_n hx hb dX1_go_0 rfl (lv_at hl 0 rfl) ?_
  refine hc.elim fun a1_1 hbs9 => ?_
  clear hc
  subst hbs9
  have G : zS T A s.heap s [[(h, .inr (1, [.ref po, .ref a1_1, .int v0, .ref la, .int v1, .int v2, .int v3, .int v4, .int v5, .int v6, .int v7]))], [(a1_1, .inl (T.2 0, 7, .inl fw))], wp, z] _ _ := G.re rfl
  refine z_get C G clX1 0 rfl 3 (by decide) m_fl_RX1_25 rfl dX1_go_1 ?_
  refine lv_iload_n hx hb dX1_go_4 rfl (lv_at hl 1 rfl) ?_
  refine z_Vi (bc := [z]) (br := [[(h, .inr (1, [.ref po, .ref a1_1, .int v0, .ref la, .int v1, .int v2, .int v3, .int v4, .int v5, .int v6, .int v7]))], [(a1_1, .inl (T.2 0, 7, .inl fw))], wp]) (As := [.int x]) (rest := []) C G (c_has l T la cr inn k1 k2 k3 k4 z x hz) (kV_RX1_112 C.2.2.2.2 (Nat.le_of_ble_eq_true rfl) (Nat.le_of_ble_eq_true rfl)) [3] [0, 1, 2] rfl rfl (ci := 4) (qc := (RX4, TX4, 6)) rfl rfl (List.mem_flatten.mpr ⟨_, List.mem_of_getElem? (i := 0) rfl, (bLand_mem hz).choose_spec⟩) rfl rfl hl.1 dX1_go_5 (Nat.le_of_ble_eq_true rfl) (Nat.le_of_ble_eq_true rfl) (fun r_3 b1 H locs hw G => ?_)
  refine hw.elim fun hbs9 hc_2 => ?_
  clear hw
  subst hbs9
  have G : zS T A s.heap s [[(h, .inr (1, [.ref po, .ref a1_1, .int v0, .ref la, .int v1, .int v2, .int v3, .int v4, .int v5, .int v6, .int v7]))], [(a1_1, .inl (T.2 0, 7, .inl fw))], wp, z] _ _ := G
  rcases hc_2 with ⟨rfl, h_4, h_5, h_6⟩ | ⟨rfl, h_7⟩
  · have h_4 : 0 ≤ x.toInt := h_4
    have h_5 : x.toInt < cr.toInt := h_5
    have h_6 : x.toInt < 7 := h_6
    refine lv_if_eq (tgt := 21) hx hb dX1_go_8 (by decide) (fun q => absurd q (by decide)) (fun _ => ?_)
    refine lv_aload_n hx hb dX1_go_11 rfl (lv_at hl 0 rfl) ?_
    refine z_get C G clX1 0 rfl 1 (by decide) m_fl_RX1_18 rfl dX1_go_12 ?_
    refine lv_iload_n hx hb dX1_go_15 rfl (lv_at hl 1 rfl) ?_
    refine z_ild C G 1 rfl (vp_in_iff.mpr ⟨by omega, by omega⟩) dX1_go_16 ?_
    refine lv_topi (fun v_8 ev_8 => ?_)
    subst ev_8
    refine lv_iconst (v := 1) hx hb dX1_go_17 (by decide) ?_
    refine lv_icmp_ge (tgt := 23) hx hb dX1_go_18 (by decide) (fun c_9 => ?_) (fun c_9 => ?_)
    · have c_9n : (1 : Int) ≤ (fw x.toNatClampNeg).toInt := (fa_le _ _).mp c_9
      refine lv_aload_n hx hb dX1_go_23 rfl (lv_at hl 0 rfl) ?_
      refine z_get C G clX1 0 rfl 0 (by decide) m_fl_RX1_12 rfl dX1_go_24 ?_
      refine lv_iload_n hx hb dX1_go_27 rfl (lv_at hl 1 rfl) ?_
      refine z_Vi (bc := [wp, z]) (br := [[(h, .inr (1, [.ref po, .ref a1_1, .int v0, .ref la, .int v1, .int v2, .int v3, .int v4, .int v5, .int v6, .int v7]))], [(a1_1, .inl (T.2 0, 7, .inl fw))]]) (As := [.int x]) (rest := []) C G (c_step l T po la f1 f2 f3 st wh wp cr inn k1 k2 k3 k4 z x hp hz hP) (kV_RX1_115 C.2.2.2.2 (Nat.le_of_ble_eq_true rfl) (Nat.le_of_ble_eq_true rfl)) [2, 3] [0, 1] rfl rfl (ci := 6) (qc := (RX6, TX6, 6)) rfl rfl (List.mem_flatten.mpr ⟨_, List.mem_of_getElem? (i := 0) rfl, (bPosts_mem hp).choose_spec⟩) rfl rfl hl.1 dX1_go_28 (Nat.le_of_ble_eq_true rfl) (Nat.le_of_ble_eq_true rfl) (fun r_15 b1 H locs hw G => ?_)
      refine hw.elim fun w2_10 w90 => w90.elim fun g1_11 w91 => w91.elim fun hbs9 w92 => w92.elim fun h_12 w93 => w93.elim fun h_13 h_14 => ?_
      clear hw w90 w91 w92 w93
      subst hbs9
      have G : zS T A s.heap s [[(h, .inr (1, [.ref po, .ref a1_1, .int v0, .ref la, .int v1, .int v2, .int v3, .int v4, .int v5, .int v6, .int v7]))], [(a1_1, .inl (T.2 0, 7, .inl fw))], w2_10, z] _ _ := G
      subst h_12
      have hQ2 : zP3 g1_11 f3 := by rw [h_14]; exact zPost_I hP _
      refine lv_istore_n (lv' := [(2, .int (zStep f1 f2 f3 k2 x)), (0, .ref h), (1, .int x)]) hx hb dX1_go_31 rfl hl (by decide) rfl (fun ls hl => ?_)
      refine lv_iload_n hx hb dX1_go_32 rfl (lv_at hl 0 rfl) ?_
      refine lv_iconst (v := (-1)) hx hb dX1_go_33 (by decide) ?_
      refine lv_icmp_ne (tgt := 39) hx hb dX1_go_34 (by decide) (fun c_16 => ?_) (fun c_16 => ?_)
      · have c_16n : ¬ (zStep f1 f2 f3 k2 x).toInt = (-1 : Int) := fun q => c_16 ((fa_eq _ _).mpr q)
        have hhs : zHas cr (zStep f1 f2 f3 k2 x) := zStep_h hP hW hWr hLq h7 (by assumption)
        refine lv_aload_n hx hb dX1_go_39 rfl (lv_at hl 1 rfl) ?_
        refine lv_dup hx hb dX1_go_40 rfl ?_
        refine z_get C G clX1 0 rfl 2 (by decide) m_fl_RX1_34 rfl dX1_go_41 ?_
        refine lv_iconst (v := 1) hx hb dX1_go_44 (by decide) ?_
        refine lv_iadd hx hb dX1_go_45 ?_
        refine z_put C G clX1 0 rfl 2 (by decide) m_fl_RX1_34 rfl rfl rfl (Nat.le_of_ble_eq_true rfl) dX1_go_46 (fun H locs G => ?_)
        have G : zS T A s.heap s [[(h, .inr (1, [.ref po, .ref a1_1, .int (v0 + 1), .ref la, .int v1, .int v2, .int v3, .int v4, .int v5, .int v6, .int v7]))], [(a1_1, .inl (T.2 0, 7, .inl fw))], w2_10, z] _ _ := G
        refine lv_aload_n hx hb dX1_go_49 rfl (lv_at hl 1 rfl) ?_
        refine lv_iload_n hx hb dX1_go_50 rfl (lv_at hl 2 rfl) ?_
        refine lv_iload_n hx hb dX1_go_51 rfl (lv_at hl 0 rfl) ?_
        have hw_17 : bCourse T h po la fw (v0 + 1) v1 v2 v3 v4 v5 v6 v7 [(h, .inr (1, [.ref po, .ref a1_1, .int (v0 + 1), .ref la, .int v1, .int v2, .int v3, .int v4, .int v5, .int v6, .int v7])), (a1_1, .inl (T.2 0, 7, .inl fw))] := ⟨a1_1, rfl⟩
        have G : zS T A s.heap s [[(h, .inr (1, [.ref po, .ref a1_1, .int (v0 + 1), .ref la, .int v1, .int v2, .int v3, .int v4, .int v5, .int v6, .int v7])), (a1_1, .inl (T.2 0, 7, .inl fw))], w2_10, z] _ _ := G.re rfl
        refine z_Vv (bc := [[(h, .inr (1, [.ref po, .ref a1_1, .int (v0 + 1), .ref la, .int v1, .int v2, .int v3, .int v4, .int v5, .int v6, .int v7])), (a1_1, .inl (T.2 0, 7, .inl fw))], z]) (br := [w2_10]) (As := [.int x, .int (zStep f1 f2 f3 k2 x)]) (rest := []) C G (c_f_move l T h po la fw (v0 + 1) v1 v2 v3 v4 v5 v6 v7 ([(h, .inr (1, [.ref po, .ref a1_1, .int (v0 + 1), .ref la, .int v1, .int v2, .int v3, .int v4, .int v5, .int v6, .int v7])), (a1_1, .inl (T.2 0, 7, .inl fw))]) cr inn k1 k2 k3 k4 z x (zStep f1 f2 f3 k2 x) hw_17 hz ⟨by omega, by omega, by omega⟩ hhs) (kV_RX1_118 C.2.2.2.2 (Nat.le_of_ble_eq_true rfl) (Nat.le_of_ble_eq_true rfl)) [0, 2] [1] rfl rfl (ci := 1) (qc := (RX1, TX1, 11)) rfl rfl (List.mem_flatten.mpr ⟨_, List.mem_of_getElem? (i := 0) rfl, (bCourse_mem hw_17).choose_spec⟩) rfl rfl hl.1 dX1_go_52 (Nat.le_of_ble_eq_true rfl) (Nat.le_of_ble_eq_true rfl) (fun b1 H locs hw G => ?_)
        refine hw.elim fun wc2_18 w90 => w90.elim fun gw_19 w91 => w91.elim fun u3_20 w92 => w92.elim fun u5_21 w93 => w93.elim fun hbs9 w94 => w94.elim fun h_22 h_23 => ?_
        clear hw w90 w91 w92 w93 w94
        subst hbs9
        have G : zS T A s.heap s [w2_10, wc2_18, z] _ _ := G
        refine lv_iconst (v := 1) hx hb dX1_go_55 (by decide) ?_
        have G := G.sub (bs' := [wc2_18, w2_10, z]) [1, 0, 2] rfl
        exact z_zret C hr hlocks G (Nat.le_of_ble_eq_true rfl) (Nat.le_of_ble_eq_true rfl) dX1_go_56 rfl ⟨wc2_18, gw_19, (v0 + 1), v1, v2, u3_20, v4, u5_21, v6, v7, w2_10, g1_11, f2, st, wh, rfl, h_22, h_13, hQ2, (Or.inl ⟨rfl, by unfold zGoF; rw [if_pos ⟨⟨⟨by omega, by omega, by omega⟩, by omega⟩, by assumption⟩, h_23, h_14]⟩), ⟨rfl, rfl⟩⟩
      · have c_16n : (zStep f1 f2 f3 k2 x).toInt = (-1 : Int) := (fa_eq _ _).mp c_16
        refine lv_iconst (v := 0) hx hb dX1_go_37 (by decide) ?_
        have hw_25 : bCourse T h po la fw v0 v1 v2 v3 v4 v5 v6 v7 [(h, .inr (1, [.ref po, .ref a1_1, .int v0, .ref la, .int v1, .int v2, .int v3, .int v4, .int v5, .int v6, .int v7])), (a1_1, .inl (T.2 0, 7, .inl fw))] := ⟨a1_1, rfl⟩
        have G : zS T A s.heap s [[(h, .inr (1, [.ref po, .ref a1_1, .int v0, .ref la, .int v1, .int v2, .int v3, .int v4, .int v5, .int v6, .int v7])), (a1_1, .inl (T.2 0, 7, .inl fw))], w2_10, z] _ _ := G.re rfl
        exact z_zret C hr hlocks G (Nat.le_of_ble_eq_true rfl) (Nat.le_of_ble_eq_true rfl) dX1_go_38 rfl ⟨([(h, .inr (1, [.ref po, .ref a1_1, .int v0, .ref la, .int v1, .int v2, .int v3, .int v4, .int v5, .int v6, .int v7])), (a1_1, .inl (T.2 0, 7, .inl fw))]), fw, v0, v1, v2, v3, v4, v5, v6, v7, w2_10, g1_11, f2, st, wh, rfl, hw_25, h_13, hQ2, (Or.inr ⟨rfl, by unfold zGoF; rw [if_neg (fun q8 => q8.2 (by assumption))], by rw [h_14]; unfold zPost; rw [if_pos (zStep_t (by assumption) hP hLb)], rfl, rfl, rfl, rfl⟩), ⟨rfl, rfl⟩⟩
    · have c_9n : ¬ (1 : Int) ≤ (fw x.toNatClampNeg).toInt := fun q => c_9 ((fa_le _ _).mpr q)
      refine lv_iconst (v := 0) hx hb dX1_go_21 (by decide) ?_
      have hw_26 : bCourse T h po la fw v0 v1 v2 v3 v4 v5 v6 v7 [(h, .inr (1, [.ref po, .ref a1_1, .int v0, .ref la, .int v1, .int v2, .int v3, .int v4, .int v5, .int v6, .int v7])), (a1_1, .inl (T.2 0, 7, .inl fw))] := ⟨a1_1, rfl⟩
      have G : zS T A s.heap s [[(h, .inr (1, [.ref po, .ref a1_1, .int v0, .ref la, .int v1, .int v2, .int v3, .int v4, .int v5, .int v6, .int v7])), (a1_1, .inl (T.2 0, 7, .inl fw))], wp, z] _ _ := G.re rfl
      exact z_zret C hr hlocks G (Nat.le_of_ble_eq_true rfl) (Nat.le_of_ble_eq_true rfl) dX1_go_22 rfl ⟨([(h, .inr (1, [.ref po, .ref a1_1, .int v0, .ref la, .int v1, .int v2, .int v3, .int v4, .int v5, .int v6, .int v7])), (a1_1, .inl (T.2 0, 7, .inl fw))]), fw, v0, v1, v2, v3, v4, v5, v6, v7, wp, f1, f2, st, wh, rfl, hw_26, hp, hP, (Or.inr ⟨rfl, by unfold zGoF; rw [if_neg (fun q8 => by dsimp only at q8; omega)], rfl, rfl, rfl, rfl, rfl⟩), ⟨rfl, rfl⟩⟩
  · have h_7 : (x.toInt < 0 ∨ cr.toInt ≤ x.toInt ∨ 7 ≤ x.toInt) := h_7
    refine lv_if_eq (tgt := 21) hx hb dX1_go_8 (by decide) (fun _ => ?_) (fun q => absurd (by decide) q)
    refine lv_iconst (v := 0) hx hb dX1_go_21 (by decide) ?_
    have hw_27 : bCourse T h po la fw v0 v1 v2 v3 v4 v5 v6 v7 [(h, .inr (1, [.ref po, .ref a1_1, .int v0, .ref la, .int v1, .int v2, .int v3, .int v4, .int v5, .int v6, .int v7])), (a1_1, .inl (T.2 0, 7, .inl fw))] := ⟨a1_1, rfl⟩
    have G : zS T A s.heap s [[(h, .inr (1, [.ref po, .ref a1_1, .int v0, .ref la, .int v1, .int v2, .int v3, .int v4, .int v5, .int v6, .int v7])), (a1_1, .inl (T.2 0, 7, .inl fw))], wp, z] _ _ := G.re rfl
    exact z_zret C hr hlocks G (Nat.le_of_ble_eq_true rfl) (Nat.le_of_ble_eq_true rfl) dX1_go_22 rfl ⟨([(h, .inr (1, [.ref po, .ref a1_1, .int v0, .ref la, .int v1, .int v2, .int v3, .int v4, .int v5, .int v6, .int v7])), (a1_1, .inl (T.2 0, 7, .inl fw))]), fw, v0, v1, v2, v3, v4, v5, v6, v7, wp, f1, f2, st, wh, rfl, hw_27, hp, hP, (Or.inr ⟨rfl, by unfold zGoF; rw [if_neg (fun q8 => by dsimp only at q8; omega)], rfl, rfl, rfl, rfl, rfl⟩), ⟨rfl, rfl⟩⟩
theorem zRuF_i {cr inn x w s2 : Int32} {W L P S H g1 gw : Nat → Int32} {st nv n2 : Int32} (h : zHas cr x ∧ 1 ≤ (H x.toNatClampNeg).toInt) (e1 : g1 = (zRunN S W L 499 P x 0).1) (e2 : s2 = nI (zRunN S W L 499 P x 0).2.2) (e3 : w = (zRunN S W L 499 P x 0).2.1) (e4 : gw = zMvH H x w) (e5 : (if zBit inn w = 1 then nv else nv + 1) = n2) : zRuF cr inn W L x (P, S, H, st, nv) = some (g1, S, gw, st + s2, n2) := by
  unfold zRuF
  rw [if_pos h, e1, e4, e2, ← e5, e3]
set_option maxHeartbeats 4000000 in
set_option maxRecDepth 100000 in
/-- c_f_Course_run -/
theorem c_f_Course_run (l : Launch) (T : zTy) (h : Nat) (po : Nat) (la : Nat) (fw : Nat → Int32) (v0 : Int32) (v1 : Int32) (v2 : Int32) (v3 : Int32) (v4 : Int32) (v5 : Int32) (v6 : Int32) (v7 : Int32) (wc : va_W) (f1 : Nat → Int32) (f2 : Nat → Int32) (f3 : Nat → Int32) (st : Int32) (wh : Int32) (wp : va_W) (cr : Int32) (inn : Int32) (k1 : Nat → Int32) (k2 : Nat → Int32) (k3 : Nat → Int32) (k4 : Nat → Int32) (z : va_W) (x : Int32) (hc : bCourse T h po la fw v0 v1 v2 v3 v4 v5 v6 v7 wc) (hp : bPosts T po la f1 f2 f3 st wh wp) (hz : bLand T la cr inn k1 k2 k3 k4 z) (hP : zP3 f1 f3) (hI : zLI cr k1 k3) (hW : ∀ j, j < 7 → f3 j = zWays cr inn k1 (nI j)) (hLq : zLq cr k1 k2) : zMi l T yX1_run cX1_run 2 (some .boolean) 4 0 0 [.ref h, .int x] [wc, wp, z] (fun (r : Int32) bs => ∃ (wc2 : va_W) (gw : Nat → Int32) (u0 : Int32) (u1 : Int32) (u2 : Int32) (u3 : Int32) (u4 : Int32) (u5 : Int32) (u6 : Int32) (u7 : Int32) (wp2 : va_W) (g1 : Nat → Int32) (g2 : Nat → Int32) (sa : Int32) (wa : Int32), bs = [wc2, wp2, z] ∧ bCourse T h po la gw u0 u1 u2 u3 u4 u5 u6 u7 wc2 ∧ bPosts T po la g1 g2 f3 sa wa wp2 ∧ zP3 g1 f3 ∧ (r = 1 ∧ zRuF cr inn f3 k2 x (f1, f2, fw, v0, v1) = some (g1, g2, gw, u0, u1) ∨ r = 0 ∧ zRuF cr inn f3 k2 x (f1, f2, fw, v0, v1) = none ∧ g1 = f1 ∧ g2 = f2 ∧ gw = fw ∧ u0 = v0 ∧ u1 = v1) ∧ (u2 = v2 ∧ u7 = v7)) := by
  refine zMi_of (own := RX1) (by decide) rfl (Nat.le_of_ble_eq_true rfl) ?_
  intro p e s m args below meth c A ls C hr hlocks hnm hAe G hl
  have hx := C.1
  have hb := C.2.1
  have hl : lv_has ls 2 [(0, .ref h), (1, .int x)] := hl
  have h7 := hI.1.2
  have hWr := zWays_r hI hW
  have hLb := zLq_b (inn := inn) hWr hLq
  refine lv_aload_n hx hb dX1_run_0 rfl (lv_at hl 0 rfl) ?_
  refine hc.elim fun a1_1 hbs9 => ?_
  clear hc
  subst hbs9
  have G : zS T A s.heap s [[(h, .inr (1, [.ref po, .ref a1_1, .int v0, .ref la, .int v1, .int v2, .int v3, .int v4, .int v5, .int v6, .int v7]))], [(a1_1, .inl (T.2 0, 7, .inl fw))], wp, z] _ _ := G.re rfl
  refine z_get C G clX1 0 rfl 3 (by decide) m_fl_RX1_25 rfl dX1_run_1 ?_
  refine lv_iload_n hx hb dX1_run_4 rfl (lv_at hl 1 rfl) ?_
  refine z_Vi (bc := [z]) (br := [[(h, .inr (1, [.ref po, .ref a1_1, .int v0, .ref la, .int v1, .int v2, .int v3, .int v4, .int v5, .int v6, .int v7]))], [(a1_1, .inl (T.2 0, 7, .inl fw))], wp]) (As := [.int x]) (rest := []) C G (c_has l T la cr inn k1 k2 k3 k4 z x hz) (kV_RX1_112 C.2.2.2.2 (Nat.le_of_ble_eq_true rfl) (Nat.le_of_ble_eq_true rfl)) [3] [0, 1, 2] rfl rfl (ci := 4) (qc := (RX4, TX4, 6)) rfl rfl (List.mem_flatten.mpr ⟨_, List.mem_of_getElem? (i := 0) rfl, (bLand_mem hz).choose_spec⟩) rfl rfl hl.1 dX1_run_5 (Nat.le_of_ble_eq_true rfl) (Nat.le_of_ble_eq_true rfl) (fun r_3 b1 H locs hw G => ?_)
  refine hw.elim fun hbs9 hc_2 => ?_
  clear hw
  subst hbs9
  have G : zS T A s.heap s [[(h, .inr (1, [.ref po, .ref a1_1, .int v0, .ref la, .int v1, .int v2, .int v3, .int v4, .int v5, .int v6, .int v7]))], [(a1_1, .inl (T.2 0, 7, .inl fw))], wp, z] _ _ := G
  rcases hc_2 with ⟨rfl, h_4, h_5, h_6⟩ | ⟨rfl, h_7⟩
  · have h_4 : 0 ≤ x.toInt := h_4
    have h_5 : x.toInt < cr.toInt := h_5
    have h_6 : x.toInt < 7 := h_6
    refine lv_if_eq (tgt := 21) hx hb dX1_run_8 (by decide) (fun q => absurd q (by decide)) (fun _ => ?_)
    refine lv_aload_n hx hb dX1_run_11 rfl (lv_at hl 0 rfl) ?_
    refine z_get C G clX1 0 rfl 1 (by decide) m_fl_RX1_18 rfl dX1_run_12 ?_
    refine lv_iload_n hx hb dX1_run_15 rfl (lv_at hl 1 rfl) ?_
    refine z_ild C G 1 rfl (vp_in_iff.mpr ⟨by omega, by omega⟩) dX1_run_16 ?_
    refine lv_topi (fun v_8 ev_8 => ?_)
    subst ev_8
    refine lv_iconst (v := 1) hx hb dX1_run_17 (by decide) ?_
    refine lv_icmp_ge (tgt := 23) hx hb dX1_run_18 (by decide) (fun c_9 => ?_) (fun c_9 => ?_)
    · have c_9n : (1 : Int) ≤ (fw x.toNatClampNeg).toInt := (fa_le _ _).mp c_9
      refine lv_aload_n hx hb dX1_run_23 rfl (lv_at hl 0 rfl) ?_
      refine z_get C G clX1 0 rfl 0 (by decide) m_fl_RX1_12 rfl dX1_run_24 ?_
      refine lv_iload_n hx hb dX1_run_27 rfl (lv_at hl 1 rfl) ?_
      refine z_Vv (bc := [wp, z]) (br := [[(h, .inr (1, [.ref po, .ref a1_1, .int v0, .ref la, .int v1, .int v2, .int v3, .int v4, .int v5, .int v6, .int v7]))], [(a1_1, .inl (T.2 0, 7, .inl fw))]]) (As := [.int x]) (rest := []) C G (c_Posts_run l T po la f1 f2 f3 st wh wp cr inn k1 k2 k3 k4 z x hp hz hP) (kV_RX1_122 C.2.2.2.2 (Nat.le_of_ble_eq_true rfl) (Nat.le_of_ble_eq_true rfl)) [2, 3] [0, 1] rfl rfl (ci := 6) (qc := (RX6, TX6, 6)) rfl rfl (List.mem_flatten.mpr ⟨_, List.mem_of_getElem? (i := 0) rfl, (bPosts_mem hp).choose_spec⟩) rfl rfl hl.1 dX1_run_28 (Nat.le_of_ble_eq_true rfl) (Nat.le_of_ble_eq_true rfl) (fun b1 H locs hw G => ?_)
      refine hw.elim fun w2_10 w90 => w90.elim fun g1_11 w91 => w91.elim fun s2_12 w92 => w92.elim fun x2_13 w93 => w93.elim fun hbs9 w94 => w94.elim fun h_14 w95 => w95.elim fun h_15 w96 => w96.elim fun h_16 h_17 => ?_
      clear hw w90 w91 w92 w93 w94 w95 w96
      subst hbs9
      have G : zS T A s.heap s [[(h, .inr (1, [.ref po, .ref a1_1, .int v0, .ref la, .int v1, .int v2, .int v3, .int v4, .int v5, .int v6, .int v7]))], [(a1_1, .inl (T.2 0, 7, .inl fw))], w2_10, z] _ _ := G
      have hQ2 : zP3 g1_11 f3 := by rw [h_15]; exact zRunN_I _ _ _ _ hP
      have hhs : zHas cr x2_13 := by rw [h_17]; exact zRunN_h hW hWr hLq h7 499 _ _ _ hP ⟨by omega, by omega, by omega⟩
      refine lv_aload_n hx hb dX1_run_31 rfl (lv_at hl 0 rfl) ?_
      refine lv_dup hx hb dX1_run_32 rfl ?_
      refine z_get C G clX1 0 rfl 2 (by decide) m_fl_RX1_34 rfl dX1_run_33 ?_
      refine lv_aload_n hx hb dX1_run_36 rfl (lv_at hl 0 rfl) ?_
      refine z_get C G clX1 0 rfl 0 (by decide) m_fl_RX1_12 rfl dX1_run_37 ?_
      refine h_14.elim fun a1_19 w90 => w90.elim fun a2_20 w91 => w91.elim fun a3_21 hbs9 => ?_
      clear h_14 w90 w91
      subst hbs9
      have G : zS T A s.heap s [[(h, .inr (1, [.ref po, .ref a1_1, .int v0, .ref la, .int v1, .int v2, .int v3, .int v4, .int v5, .int v6, .int v7]))], [(a1_1, .inl (T.2 0, 7, .inl fw))], [(po, .inr (6, [.ref la, .ref a1_19, .ref a2_20, .int s2_12, .int x2_13, .ref a3_21]))], [(a1_19, .inl (T.2 0, 7, .inl g1_11))], [(a2_20, .inl (T.2 0, 7, .inl f2))], [(a3_21, .inl (T.2 0, 7, .inl f3))], z] _ _ := G.re rfl
      refine z_get C G clX6 2 rfl 3 (by decide) m_fl_RX1_125 rfl dX1_run_40 ?_
      refine lv_iadd hx hb dX1_run_43 ?_
      refine z_put C G clX1 0 rfl 2 (by decide) m_fl_RX1_34 rfl rfl rfl (Nat.le_of_ble_eq_true rfl) dX1_run_44 (fun H locs G => ?_)
      have G : zS T A s.heap s [[(h, .inr (1, [.ref po, .ref a1_1, .int (v0 + s2_12), .ref la, .int v1, .int v2, .int v3, .int v4, .int v5, .int v6, .int v7]))], [(a1_1, .inl (T.2 0, 7, .inl fw))], [(po, .inr (6, [.ref la, .ref a1_19, .ref a2_20, .int s2_12, .int x2_13, .ref a3_21]))], [(a1_19, .inl (T.2 0, 7, .inl g1_11))], [(a2_20, .inl (T.2 0, 7, .inl f2))], [(a3_21, .inl (T.2 0, 7, .inl f3))], z] _ _ := G
      refine lv_aload_n hx hb dX1_run_47 rfl (lv_at hl 0 rfl) ?_
      refine lv_aload_n hx hb dX1_run_48 rfl (lv_at hl 0 rfl) ?_
      refine z_get C G clX1 0 rfl 7 (by decide) m_fl_RX1_47 rfl dX1_run_49 ?_
      refine lv_aload_n hx hb dX1_run_52 rfl (lv_at hl 0 rfl) ?_
      refine z_get C G clX1 0 rfl 0 (by decide) m_fl_RX1_12 rfl dX1_run_53 ?_
      refine z_get C G clX6 2 rfl 3 (by decide) m_fl_RX1_125 rfl dX1_run_56 ?_
      refine va_mmax hx hb (C.2.2.1.trans hl.1.symm) C.2.2.2.1 (C.2.2.2.2 _ m_ml_RX1_126) (C.2.2.2.2 _ m_st_math_max) (C.2.2.2.2 _ m_ii_math) (C.2.2.2.2 _ m_co_math_max) (Nat.le_of_ble_eq_true rfl) (Nat.le_of_ble_eq_true rfl) (Nat.le_of_ble_eq_true rfl) (Nat.le_of_ble_eq_true rfl) dX1_run_59 ?_
      refine lv_topi (fun v_22 ev_22 => ?_)
      subst ev_22
      refine z_put C G clX1 0 rfl 7 (by decide) m_fl_RX1_47 rfl rfl rfl (Nat.le_of_ble_eq_true rfl) dX1_run_62 (fun H locs G => ?_)
      have G : zS T A s.heap s [[(h, .inr (1, [.ref po, .ref a1_1, .int (v0 + s2_12), .ref la, .int v1, .int v2, .int v3, .int (if v4 < s2_12 then s2_12 else v4), .int v5, .int v6, .int v7]))], [(a1_1, .inl (T.2 0, 7, .inl fw))], [(po, .inr (6, [.ref la, .ref a1_19, .ref a2_20, .int s2_12, .int x2_13, .ref a3_21]))], [(a1_19, .inl (T.2 0, 7, .inl g1_11))], [(a2_20, .inl (T.2 0, 7, .inl f2))], [(a3_21, .inl (T.2 0, 7, .inl f3))], z] _ _ := G
      refine lv_aload_n hx hb dX1_run_65 rfl (lv_at hl 0 rfl) ?_
      refine z_get C G clX1 0 rfl 3 (by decide) m_fl_RX1_25 rfl dX1_run_66 ?_
      refine lv_aload_n hx hb dX1_run_69 rfl (lv_at hl 0 rfl) ?_
      refine z_get C G clX1 0 rfl 0 (by decide) m_fl_RX1_12 rfl dX1_run_70 ?_
      refine z_get C G clX6 2 rfl 4 (by decide) m_fl_RX1_132 rfl dX1_run_73 ?_
      refine z_Vi (bc := [z]) (br := [[(h, .inr (1, [.ref po, .ref a1_1, .int (v0 + s2_12), .ref la, .int v1, .int v2, .int v3, .int (if v4 < s2_12 then s2_12 else v4), .int v5, .int v6, .int v7]))], [(a1_1, .inl (T.2 0, 7, .inl fw))], [(po, .inr (6, [.ref la, .ref a1_19, .ref a2_20, .int s2_12, .int x2_13, .ref a3_21]))], [(a1_19, .inl (T.2 0, 7, .inl g1_11))], [(a2_20, .inl (T.2 0, 7, .inl f2))], [(a3_21, .inl (T.2 0, 7, .inl f3))]]) (As := [.int x2_13]) (rest := []) C G (c_isInn l T la cr inn k1 k2 k3 k4 z x2_13 hz) (kV_RX1_135 C.2.2.2.2 (Nat.le_of_ble_eq_true rfl) (Nat.le_of_ble_eq_true rfl)) [6] [0, 1, 2, 3, 4, 5] rfl rfl (ci := 4) (qc := (RX4, TX4, 6)) rfl rfl (List.mem_flatten.mpr ⟨_, List.mem_of_getElem? (i := 0) rfl, (bLand_mem hz).choose_spec⟩) rfl rfl hl.1 dX1_run_76 (Nat.le_of_ble_eq_true rfl) (Nat.le_of_ble_eq_true rfl) (fun r_24 b1 H locs hw G => ?_)
      refine hw.elim fun hbs9 hc_23 => ?_
      clear hw
      subst hbs9
      have G : zS T A s.heap s [[(h, .inr (1, [.ref po, .ref a1_1, .int (v0 + s2_12), .ref la, .int v1, .int v2, .int v3, .int (if v4 < s2_12 then s2_12 else v4), .int v5, .int v6, .int v7]))], [(a1_1, .inl (T.2 0, 7, .inl fw))], [(po, .inr (6, [.ref la, .ref a1_19, .ref a2_20, .int s2_12, .int x2_13, .ref a3_21]))], [(a1_19, .inl (T.2 0, 7, .inl g1_11))], [(a2_20, .inl (T.2 0, 7, .inl f2))], [(a3_21, .inl (T.2 0, 7, .inl f3))], z] _ _ := G
      rcases hc_23 with ⟨rfl, h_25, h_26, h_27, h_28⟩ | ⟨rfl, h_29⟩
      · have h_25 : 0 ≤ x2_13.toInt := h_25
        have h_26 : x2_13.toInt < cr.toInt := h_26
        have h_27 : x2_13.toInt < 7 := h_27
        have h_28 : ¬ zBit inn x2_13 = 0 := h_28
        refine lv_if_ne (tgt := 92) hx hb dX1_run_79 (by decide) (fun _ => ?_) (fun q => absurd q (by decide))
        refine lv_aload_n hx hb dX1_run_92 rfl (lv_at hl 0 rfl) ?_
        refine lv_iload_n hx hb dX1_run_93 rfl (lv_at hl 1 rfl) ?_
        refine lv_aload_n hx hb dX1_run_94 rfl (lv_at hl 0 rfl) ?_
        refine z_get C G clX1 0 rfl 0 (by decide) m_fl_RX1_12 rfl dX1_run_95 ?_
        refine z_get C G clX6 2 rfl 4 (by decide) m_fl_RX1_132 rfl dX1_run_98 ?_
        have hw_30 : bCourse T h po la fw (v0 + s2_12) v1 v2 v3 (if v4 < s2_12 then s2_12 else v4) v5 v6 v7 [(h, .inr (1, [.ref po, .ref a1_1, .int (v0 + s2_12), .ref la, .int v1, .int v2, .int v3, .int (if v4 < s2_12 then s2_12 else v4), .int v5, .int v6, .int v7])), (a1_1, .inl (T.2 0, 7, .inl fw))] := ⟨a1_1, rfl⟩
        have G : zS T A s.heap s [[(h, .inr (1, [.ref po, .ref a1_1, .int (v0 + s2_12), .ref la, .int v1, .int v2, .int v3, .int (if v4 < s2_12 then s2_12 else v4), .int v5, .int v6, .int v7])), (a1_1, .inl (T.2 0, 7, .inl fw))], [(po, .inr (6, [.ref la, .ref a1_19, .ref a2_20, .int s2_12, .int x2_13, .ref a3_21]))], [(a1_19, .inl (T.2 0, 7, .inl g1_11))], [(a2_20, .inl (T.2 0, 7, .inl f2))], [(a3_21, .inl (T.2 0, 7, .inl f3))], z] _ _ := G.re rfl
        refine z_Vv (bc := [[(h, .inr (1, [.ref po, .ref a1_1, .int (v0 + s2_12), .ref la, .int v1, .int v2, .int v3, .int (if v4 < s2_12 then s2_12 else v4), .int v5, .int v6, .int v7])), (a1_1, .inl (T.2 0, 7, .inl fw))], z]) (br := [[(po, .inr (6, [.ref la, .ref a1_19, .ref a2_20, .int s2_12, .int x2_13, .ref a3_21]))], [(a1_19, .inl (T.2 0, 7, .inl g1_11))], [(a2_20, .inl (T.2 0, 7, .inl f2))], [(a3_21, .inl (T.2 0, 7, .inl f3))]]) (As := [.int x, .int x2_13]) (rest := []) C G (c_f_move l T h po la fw (v0 + s2_12) v1 v2 v3 (if v4 < s2_12 then s2_12 else v4) v5 v6 v7 ([(h, .inr (1, [.ref po, .ref a1_1, .int (v0 + s2_12), .ref la, .int v1, .int v2, .int v3, .int (if v4 < s2_12 then s2_12 else v4), .int v5, .int v6, .int v7])), (a1_1, .inl (T.2 0, 7, .inl fw))]) cr inn k1 k2 k3 k4 z x x2_13 hw_30 hz ⟨by omega, by omega, by omega⟩ hhs) (kV_RX1_118 C.2.2.2.2 (Nat.le_of_ble_eq_true rfl) (Nat.le_of_ble_eq_true rfl)) [0, 5] [1, 2, 3, 4] rfl rfl (ci := 1) (qc := (RX1, TX1, 11)) rfl rfl (List.mem_flatten.mpr ⟨_, List.mem_of_getElem? (i := 0) rfl, (bCourse_mem hw_30).choose_spec⟩) rfl rfl hl.1 dX1_run_101 (Nat.le_of_ble_eq_true rfl) (Nat.le_of_ble_eq_true rfl) (fun b1 H locs hw G => ?_)
        refine hw.elim fun wc2_31 w90 => w90.elim fun gw_32 w91 => w91.elim fun u3_33 w92 => w92.elim fun u5_34 w93 => w93.elim fun hbs9 w94 => w94.elim fun h_35 h_36 => ?_
        clear hw w90 w91 w92 w93 w94
        subst hbs9
        have G : zS T A s.heap s [[(po, .inr (6, [.ref la, .ref a1_19, .ref a2_20, .int s2_12, .int x2_13, .ref a3_21]))], [(a1_19, .inl (T.2 0, 7, .inl g1_11))], [(a2_20, .inl (T.2 0, 7, .inl f2))], [(a3_21, .inl (T.2 0, 7, .inl f3))], wc2_31, z] _ _ := G
        refine lv_iconst (v := 1) hx hb dX1_run_104 (by decide) ?_
        have hw_38 : bPosts T po la g1_11 f2 f3 s2_12 x2_13 [(po, .inr (6, [.ref la, .ref a1_19, .ref a2_20, .int s2_12, .int x2_13, .ref a3_21])), (a1_19, .inl (T.2 0, 7, .inl g1_11)), (a2_20, .inl (T.2 0, 7, .inl f2)), (a3_21, .inl (T.2 0, 7, .inl f3))] := ⟨a1_19, a2_20, a3_21, rfl⟩
        have G : zS T A s.heap s [[(po, .inr (6, [.ref la, .ref a1_19, .ref a2_20, .int s2_12, .int x2_13, .ref a3_21])), (a1_19, .inl (T.2 0, 7, .inl g1_11)), (a2_20, .inl (T.2 0, 7, .inl f2)), (a3_21, .inl (T.2 0, 7, .inl f3))], wc2_31, z] _ _ := G.re rfl
        have G := G.sub (bs' := [wc2_31, [(po, .inr (6, [.ref la, .ref a1_19, .ref a2_20, .int s2_12, .int x2_13, .ref a3_21])), (a1_19, .inl (T.2 0, 7, .inl g1_11)), (a2_20, .inl (T.2 0, 7, .inl f2)), (a3_21, .inl (T.2 0, 7, .inl f3))], z]) [1, 0, 2] rfl
        exact z_zret C hr hlocks G (Nat.le_of_ble_eq_true rfl) (Nat.le_of_ble_eq_true rfl) dX1_run_105 rfl ⟨wc2_31, gw_32, (v0 + s2_12), v1, v2, u3_33, (if v4 < s2_12 then s2_12 else v4), u5_34, v6, v7, ([(po, .inr (6, [.ref la, .ref a1_19, .ref a2_20, .int s2_12, .int x2_13, .ref a3_21])), (a1_19, .inl (T.2 0, 7, .inl g1_11)), (a2_20, .inl (T.2 0, 7, .inl f2)), (a3_21, .inl (T.2 0, 7, .inl f3))]), g1_11, f2, s2_12, x2_13, rfl, h_35, hw_38, hQ2, (Or.inl ⟨rfl, zRuF_i ⟨⟨by omega, by omega, by omega⟩, by omega⟩ h_15 h_16 h_17 h_36 (if_pos (zBit_p h_28))⟩), ⟨rfl, rfl⟩⟩
      · have h_29 : (x2_13.toInt < 0 ∨ cr.toInt ≤ x2_13.toInt ∨ 7 ≤ x2_13.toInt ∨ zBit inn x2_13 = 0) := h_29
        refine lv_if_ne (tgt := 92) hx hb dX1_run_79 (by decide) (fun q => absurd (by decide) q) (fun _ => ?_)
        refine lv_aload_n hx hb dX1_run_82 rfl (lv_at hl 0 rfl) ?_
        refine lv_dup hx hb dX1_run_83 rfl ?_
        refine z_get C G clX1 0 rfl 4 (by decide) m_fl_RX1_38 rfl dX1_run_84 ?_
        refine lv_iconst (v := 1) hx hb dX1_run_87 (by decide) ?_
        refine lv_iadd hx hb dX1_run_88 ?_
        refine z_put C G clX1 0 rfl 4 (by decide) m_fl_RX1_38 rfl rfl rfl (Nat.le_of_ble_eq_true rfl) dX1_run_89 (fun H locs G => ?_)
        have G : zS T A s.heap s [[(h, .inr (1, [.ref po, .ref a1_1, .int (v0 + s2_12), .ref la, .int (v1 + 1), .int v2, .int v3, .int (if v4 < s2_12 then s2_12 else v4), .int v5, .int v6, .int v7]))], [(a1_1, .inl (T.2 0, 7, .inl fw))], [(po, .inr (6, [.ref la, .ref a1_19, .ref a2_20, .int s2_12, .int x2_13, .ref a3_21]))], [(a1_19, .inl (T.2 0, 7, .inl g1_11))], [(a2_20, .inl (T.2 0, 7, .inl f2))], [(a3_21, .inl (T.2 0, 7, .inl f3))], z] _ _ := G
        refine lv_aload_n hx hb dX1_run_92 rfl (lv_at hl 0 rfl) ?_
        refine lv_iload_n hx hb dX1_run_93 rfl (lv_at hl 1 rfl) ?_
        refine lv_aload_n hx hb dX1_run_94 rfl (lv_at hl 0 rfl) ?_
        refine z_get C G clX1 0 rfl 0 (by decide) m_fl_RX1_12 rfl dX1_run_95 ?_
        refine z_get C G clX6 2 rfl 4 (by decide) m_fl_RX1_132 rfl dX1_run_98 ?_
        have hw_39 : bCourse T h po la fw (v0 + s2_12) (v1 + 1) v2 v3 (if v4 < s2_12 then s2_12 else v4) v5 v6 v7 [(h, .inr (1, [.ref po, .ref a1_1, .int (v0 + s2_12), .ref la, .int (v1 + 1), .int v2, .int v3, .int (if v4 < s2_12 then s2_12 else v4), .int v5, .int v6, .int v7])), (a1_1, .inl (T.2 0, 7, .inl fw))] := ⟨a1_1, rfl⟩
        have G : zS T A s.heap s [[(h, .inr (1, [.ref po, .ref a1_1, .int (v0 + s2_12), .ref la, .int (v1 + 1), .int v2, .int v3, .int (if v4 < s2_12 then s2_12 else v4), .int v5, .int v6, .int v7])), (a1_1, .inl (T.2 0, 7, .inl fw))], [(po, .inr (6, [.ref la, .ref a1_19, .ref a2_20, .int s2_12, .int x2_13, .ref a3_21]))], [(a1_19, .inl (T.2 0, 7, .inl g1_11))], [(a2_20, .inl (T.2 0, 7, .inl f2))], [(a3_21, .inl (T.2 0, 7, .inl f3))], z] _ _ := G.re rfl
        refine z_Vv (bc := [[(h, .inr (1, [.ref po, .ref a1_1, .int (v0 + s2_12), .ref la, .int (v1 + 1), .int v2, .int v3, .int (if v4 < s2_12 then s2_12 else v4), .int v5, .int v6, .int v7])), (a1_1, .inl (T.2 0, 7, .inl fw))], z]) (br := [[(po, .inr (6, [.ref la, .ref a1_19, .ref a2_20, .int s2_12, .int x2_13, .ref a3_21]))], [(a1_19, .inl (T.2 0, 7, .inl g1_11))], [(a2_20, .inl (T.2 0, 7, .inl f2))], [(a3_21, .inl (T.2 0, 7, .inl f3))]]) (As := [.int x, .int x2_13]) (rest := []) C G (c_f_move l T h po la fw (v0 + s2_12) (v1 + 1) v2 v3 (if v4 < s2_12 then s2_12 else v4) v5 v6 v7 ([(h, .inr (1, [.ref po, .ref a1_1, .int (v0 + s2_12), .ref la, .int (v1 + 1), .int v2, .int v3, .int (if v4 < s2_12 then s2_12 else v4), .int v5, .int v6, .int v7])), (a1_1, .inl (T.2 0, 7, .inl fw))]) cr inn k1 k2 k3 k4 z x x2_13 hw_39 hz ⟨by omega, by omega, by omega⟩ hhs) (kV_RX1_118 C.2.2.2.2 (Nat.le_of_ble_eq_true rfl) (Nat.le_of_ble_eq_true rfl)) [0, 5] [1, 2, 3, 4] rfl rfl (ci := 1) (qc := (RX1, TX1, 11)) rfl rfl (List.mem_flatten.mpr ⟨_, List.mem_of_getElem? (i := 0) rfl, (bCourse_mem hw_39).choose_spec⟩) rfl rfl hl.1 dX1_run_101 (Nat.le_of_ble_eq_true rfl) (Nat.le_of_ble_eq_true rfl) (fun b1 H locs hw G => ?_)
        refine hw.elim fun wc2_40 w90 => w90.elim fun gw_41 w91 => w91.elim fun u3_42 w92 => w92.elim fun u5_43 w93 => w93.elim fun hbs9 w94 => w94.elim fun h_44 h_45 => ?_
        clear hw w90 w91 w92 w93 w94
        subst hbs9
        have G : zS T A s.heap s [[(po, .inr (6, [.ref la, .ref a1_19, .ref a2_20, .int s2_12, .int x2_13, .ref a3_21]))], [(a1_19, .inl (T.2 0, 7, .inl g1_11))], [(a2_20, .inl (T.2 0, 7, .inl f2))], [(a3_21, .inl (T.2 0, 7, .inl f3))], wc2_40, z] _ _ := G
        refine lv_iconst (v := 1) hx hb dX1_run_104 (by decide) ?_
        have hw_47 : bPosts T po la g1_11 f2 f3 s2_12 x2_13 [(po, .inr (6, [.ref la, .ref a1_19, .ref a2_20, .int s2_12, .int x2_13, .ref a3_21])), (a1_19, .inl (T.2 0, 7, .inl g1_11)), (a2_20, .inl (T.2 0, 7, .inl f2)), (a3_21, .inl (T.2 0, 7, .inl f3))] := ⟨a1_19, a2_20, a3_21, rfl⟩
        have G : zS T A s.heap s [[(po, .inr (6, [.ref la, .ref a1_19, .ref a2_20, .int s2_12, .int x2_13, .ref a3_21])), (a1_19, .inl (T.2 0, 7, .inl g1_11)), (a2_20, .inl (T.2 0, 7, .inl f2)), (a3_21, .inl (T.2 0, 7, .inl f3))], wc2_40, z] _ _ := G.re rfl
        have G := G.sub (bs' := [wc2_40, [(po, .inr (6, [.ref la, .ref a1_19, .ref a2_20, .int s2_12, .int x2_13, .ref a3_21])), (a1_19, .inl (T.2 0, 7, .inl g1_11)), (a2_20, .inl (T.2 0, 7, .inl f2)), (a3_21, .inl (T.2 0, 7, .inl f3))], z]) [1, 0, 2] rfl
        exact z_zret C hr hlocks G (Nat.le_of_ble_eq_true rfl) (Nat.le_of_ble_eq_true rfl) dX1_run_105 rfl ⟨wc2_40, gw_41, (v0 + s2_12), (v1 + 1), v2, u3_42, (if v4 < s2_12 then s2_12 else v4), u5_43, v6, v7, ([(po, .inr (6, [.ref la, .ref a1_19, .ref a2_20, .int s2_12, .int x2_13, .ref a3_21])), (a1_19, .inl (T.2 0, 7, .inl g1_11)), (a2_20, .inl (T.2 0, 7, .inl f2)), (a3_21, .inl (T.2 0, 7, .inl f3))]), g1_11, f2, s2_12, x2_13, rfl, h_44, hw_47, hQ2, (Or.inl ⟨rfl, zRuF_i ⟨⟨by omega, by omega, by omega⟩, by omega⟩ h_15 h_16 h_17 h_45 (if_neg (fun q8 => by rcases h_29 with e9 | e9 | e9 | e9 <;> first | omega | exact zBit_o q8 e9))⟩), ⟨rfl, rfl⟩⟩
    · have c_9n : ¬ (1 : Int) ≤ (fw x.toNatClampNeg).toInt := fun q => c_9 ((fa_le _ _).mpr q)
      refine lv_iconst (v := 0) hx hb dX1_run_21 (by decide) ?_
      have hw_48 : bCourse T h po la fw v0 v1 v2 v3 v4 v5 v6 v7 [(h, .inr (1, [.ref po, .ref a1_1, .int v0, .ref la, .int v1, .int v2, .int v3, .int v4, .int v5, .int v6, .int v7])), (a1_1, .inl (T.2 0, 7, .inl fw))] := ⟨a1_1, rfl⟩
      have G : zS T A s.heap s [[(h, .inr (1, [.ref po, .ref a1_1, .int v0, .ref la, .int v1, .int v2, .int v3, .int v4, .int v5, .int v6, .int v7])), (a1_1, .inl (T.2 0, 7, .inl fw))], wp, z] _ _ := G.re rfl
      exact z_zret C hr hlocks G (Nat.le_of_ble_eq_true rfl) (Nat.le_of_ble_eq_true rfl) dX1_run_22 rfl ⟨([(h, .inr (1, [.ref po, .ref a1_1, .int v0, .ref la, .int v1, .int v2, .int v3, .int v4, .int v5, .int v6, .int v7])), (a1_1, .inl (T.2 0, 7, .inl fw))]), fw, v0, v1, v2, v3, v4, v5, v6, v7, wp, f1, f2, st, wh, rfl, hw_48, hp, hP, (Or.inr ⟨rfl, by unfold zRuF; rw [if_neg (fun q8 => by dsimp only at q8; omega)], rfl, rfl, rfl, rfl, rfl⟩), ⟨rfl, rfl⟩⟩
  · have h_7 : (x.toInt < 0 ∨ cr.toInt ≤ x.toInt ∨ 7 ≤ x.toInt) := h_7
    refine lv_if_eq (tgt := 21) hx hb dX1_run_8 (by decide) (fun _ => ?_) (fun q => absurd (by decide) q)
    refine lv_iconst (v := 0) hx hb dX1_run_21 (by decide) ?_
    have hw_49 : bCourse T h po la fw v0 v1 v2 v3 v4 v5 v6 v7 [(h, .inr (1, [.ref po, .ref a1_1, .int v0, .ref la, .int v1, .int v2, .int v3, .int v4, .int v5, .int v6, .int v7])), (a1_1, .inl (T.2 0, 7, .inl fw))] := ⟨a1_1, rfl⟩
    have G : zS T A s.heap s [[(h, .inr (1, [.ref po, .ref a1_1, .int v0, .ref la, .int v1, .int v2, .int v3, .int v4, .int v5, .int v6, .int v7])), (a1_1, .inl (T.2 0, 7, .inl fw))], wp, z] _ _ := G.re rfl
    exact z_zret C hr hlocks G (Nat.le_of_ble_eq_true rfl) (Nat.le_of_ble_eq_true rfl) dX1_run_22 rfl ⟨([(h, .inr (1, [.ref po, .ref a1_1, .int v0, .ref la, .int v1, .int v2, .int v3, .int v4, .int v5, .int v6, .int v7])), (a1_1, .inl (T.2 0, 7, .inl fw))]), fw, v0, v1, v2, v3, v4, v5, v6, v7, wp, f1, f2, st, wh, rfl, hw_49, hp, hP, (Or.inr ⟨rfl, by unfold zRuF; rw [if_neg (fun q8 => by dsimp only at q8; omega)], rfl, rfl, rfl, rfl, rfl⟩), ⟨rfl, rfl⟩⟩
set_option maxHeartbeats 4000000 in
set_option maxRecDepth 100000 in
/-- c_f_Course_add -/
theorem c_f_Course_add (l : Launch) (T : zTy) (h : Nat) (po : Nat) (la : Nat) (fw : Nat → Int32) (v0 : Int32) (v1 : Int32) (v2 : Int32) (v3 : Int32) (v4 : Int32) (v5 : Int32) (v6 : Int32) (v7 : Int32) (wc : va_W) (cr : Int32) (inn : Int32) (k1 : Nat → Int32) (k2 : Nat → Int32) (k3 : Nat → Int32) (k4 : Nat → Int32) (z : va_W) (x : Int32) (hc : bCourse T h po la fw v0 v1 v2 v3 v4 v5 v6 v7 wc) (hz : bLand T la cr inn k1 k2 k3 k4 z) : zMi l T yX1_add cX1_add 2 (some .boolean) 2 0 0 [.ref h, .int x] [wc, z] (fun (r : Int32) bs => ∃ (wc2 : va_W) (gw : Nat → Int32), bs = [wc2, z] ∧ bCourse T h po la gw v0 v1 v2 v3 v4 v5 v6 v7 wc2 ∧ (∀ f1 f2 : Nat → Int32, r = 1 ∧ zAdF cr x (f1, f2, fw, v0, v1) = some (f1, f2, gw, v0, v1) ∨ r = 0 ∧ zAdF cr x (f1, f2, fw, v0, v1) = none ∧ gw = fw)) := by
  refine zMi_of (own := RX1) (by decide) rfl (Nat.le_of_ble_eq_true rfl) ?_
  intro p e s m args below meth c A ls C hr hlocks hnm hAe G hl
  have hx := C.1
  have hb := C.2.1
  have hl : lv_has ls 2 [(0, .ref h), (1, .int x)] := hl
  refine lv_aload_n hx hb dX1_add_0 rfl (lv_at hl 0 rfl) ?_
  refine hc.elim fun a1_1 hbs9 => ?_
  clear hc
  subst hbs9
  have G : zS T A s.heap s [[(h, .inr (1, [.ref po, .ref a1_1, .int v0, .ref la, .int v1, .int v2, .int v3, .int v4, .int v5, .int v6, .int v7]))], [(a1_1, .inl (T.2 0, 7, .inl fw))], z] _ _ := G.re rfl
  refine z_get C G clX1 0 rfl 3 (by decide) m_fl_RX1_25 rfl dX1_add_1 ?_
  refine lv_iload_n hx hb dX1_add_4 rfl (lv_at hl 1 rfl) ?_
  refine z_Vi (bc := [z]) (br := [[(h, .inr (1, [.ref po, .ref a1_1, .int v0, .ref la, .int v1, .int v2, .int v3, .int v4, .int v5, .int v6, .int v7]))], [(a1_1, .inl (T.2 0, 7, .inl fw))]]) (As := [.int x]) (rest := []) C G (c_has l T la cr inn k1 k2 k3 k4 z x hz) (kV_RX1_112 C.2.2.2.2 (Nat.le_of_ble_eq_true rfl) (Nat.le_of_ble_eq_true rfl)) [2] [0, 1] rfl rfl (ci := 4) (qc := (RX4, TX4, 6)) rfl rfl (List.mem_flatten.mpr ⟨_, List.mem_of_getElem? (i := 0) rfl, (bLand_mem hz).choose_spec⟩) rfl rfl hl.1 dX1_add_5 (Nat.le_of_ble_eq_true rfl) (Nat.le_of_ble_eq_true rfl) (fun r_3 b1 H locs hw G => ?_)
  refine hw.elim fun hbs9 hc_2 => ?_
  clear hw
  subst hbs9
  have G : zS T A s.heap s [[(h, .inr (1, [.ref po, .ref a1_1, .int v0, .ref la, .int v1, .int v2, .int v3, .int v4, .int v5, .int v6, .int v7]))], [(a1_1, .inl (T.2 0, 7, .inl fw))], z] _ _ := G
  rcases hc_2 with ⟨rfl, h_4, h_5, h_6⟩ | ⟨rfl, h_7⟩
  · have h_4 : 0 ≤ x.toInt := h_4
    have h_5 : x.toInt < cr.toInt := h_5
    have h_6 : x.toInt < 7 := h_6
    refine lv_if_eq (tgt := 22) hx hb dX1_add_8 (by decide) (fun q => absurd q (by decide)) (fun _ => ?_)
    refine lv_aload_n hx hb dX1_add_11 rfl (lv_at hl 0 rfl) ?_
    refine z_get C G clX1 0 rfl 1 (by decide) m_fl_RX1_18 rfl dX1_add_12 ?_
    refine lv_iload_n hx hb dX1_add_15 rfl (lv_at hl 1 rfl) ?_
    refine z_ild C G 1 rfl (vp_in_iff.mpr ⟨by omega, by omega⟩) dX1_add_16 ?_
    refine lv_topi (fun v_8 ev_8 => ?_)
    subst ev_8
    refine lv_bipush (v := 99) hx hb dX1_add_17 (by decide) ?_
    refine lv_icmp_lt (tgt := 24) hx hb dX1_add_19 (by decide) (fun c_9 => ?_) (fun c_9 => ?_)
    · have c_9n : (fw x.toNatClampNeg).toInt < (99 : Int) := (fa_lt _ _).mp c_9
      refine lv_aload_n hx hb dX1_add_24 rfl (lv_at hl 0 rfl) ?_
      refine z_get C G clX1 0 rfl 1 (by decide) m_fl_RX1_18 rfl dX1_add_25 ?_
      refine lv_iload_n hx hb dX1_add_28 rfl (lv_at hl 1 rfl) ?_
      refine lv_dup2_11 hx hb dX1_add_29 rfl rfl ?_
      refine z_ild C G 1 rfl (vp_in_iff.mpr ⟨by omega, by omega⟩) dX1_add_30 ?_
      refine lv_topi (fun v_10 ev_10 => ?_)
      subst ev_10
      refine lv_iconst (v := 1) hx hb dX1_add_31 (by decide) ?_
      refine lv_iadd hx hb dX1_add_32 ?_
      refine z_ist C G 1 rfl (vp_in_iff.mpr ⟨by omega, by omega⟩) dX1_add_33 (fun H locs G => ?_)
      have G : zS T A s.heap s [[(h, .inr (1, [.ref po, .ref a1_1, .int v0, .ref la, .int v1, .int v2, .int v3, .int v4, .int v5, .int v6, .int v7]))], [(a1_1, .inl (T.2 0, 7, .inl (upd fw x.toNatClampNeg ((fw x.toNatClampNeg) + 1))))], z] _ _ := G
      refine lv_iconst (v := 1) hx hb dX1_add_34 (by decide) ?_
      have hw_11 : bCourse T h po la (upd fw x.toNatClampNeg ((fw x.toNatClampNeg) + 1)) v0 v1 v2 v3 v4 v5 v6 v7 [(h, .inr (1, [.ref po, .ref a1_1, .int v0, .ref la, .int v1, .int v2, .int v3, .int v4, .int v5, .int v6, .int v7])), (a1_1, .inl (T.2 0, 7, .inl (upd fw x.toNatClampNeg ((fw x.toNatClampNeg) + 1))))] := ⟨a1_1, rfl⟩
      have G : zS T A s.heap s [[(h, .inr (1, [.ref po, .ref a1_1, .int v0, .ref la, .int v1, .int v2, .int v3, .int v4, .int v5, .int v6, .int v7])), (a1_1, .inl (T.2 0, 7, .inl (upd fw x.toNatClampNeg ((fw x.toNatClampNeg) + 1))))], z] _ _ := G.re rfl
      exact z_zret C hr hlocks G (Nat.le_of_ble_eq_true rfl) (Nat.le_of_ble_eq_true rfl) dX1_add_35 rfl ⟨([(h, .inr (1, [.ref po, .ref a1_1, .int v0, .ref la, .int v1, .int v2, .int v3, .int v4, .int v5, .int v6, .int v7])), (a1_1, .inl (T.2 0, 7, .inl (upd fw x.toNatClampNeg ((fw x.toNatClampNeg) + 1))))]), (upd fw x.toNatClampNeg ((fw x.toNatClampNeg) + 1)), rfl, hw_11, (fun f1 f2 => Or.inl ⟨rfl, by unfold zAdF; rw [if_pos ⟨⟨by omega, by omega, by omega⟩, by assumption⟩]⟩)⟩
    · have c_9n : ¬ (fw x.toNatClampNeg).toInt < (99 : Int) := fun q => c_9 ((fa_lt _ _).mpr q)
      refine lv_iconst (v := 0) hx hb dX1_add_22 (by decide) ?_
      have hw_12 : bCourse T h po la fw v0 v1 v2 v3 v4 v5 v6 v7 [(h, .inr (1, [.ref po, .ref a1_1, .int v0, .ref la, .int v1, .int v2, .int v3, .int v4, .int v5, .int v6, .int v7])), (a1_1, .inl (T.2 0, 7, .inl fw))] := ⟨a1_1, rfl⟩
      have G : zS T A s.heap s [[(h, .inr (1, [.ref po, .ref a1_1, .int v0, .ref la, .int v1, .int v2, .int v3, .int v4, .int v5, .int v6, .int v7])), (a1_1, .inl (T.2 0, 7, .inl fw))], z] _ _ := G.re rfl
      exact z_zret C hr hlocks G (Nat.le_of_ble_eq_true rfl) (Nat.le_of_ble_eq_true rfl) dX1_add_23 rfl ⟨([(h, .inr (1, [.ref po, .ref a1_1, .int v0, .ref la, .int v1, .int v2, .int v3, .int v4, .int v5, .int v6, .int v7])), (a1_1, .inl (T.2 0, 7, .inl fw))]), fw, rfl, hw_12, (fun f1 f2 => Or.inr ⟨rfl, by unfold zAdF; rw [if_neg (fun q8 => by have q7 := q8.2; have q7 : (fw x.toNatClampNeg).toInt < 99 := q7; omega)], rfl⟩)⟩
  · have h_7 : (x.toInt < 0 ∨ cr.toInt ≤ x.toInt ∨ 7 ≤ x.toInt) := h_7
    refine lv_if_eq (tgt := 22) hx hb dX1_add_8 (by decide) (fun _ => ?_) (fun q => absurd (by decide) q)
    refine lv_iconst (v := 0) hx hb dX1_add_22 (by decide) ?_
    have hw_13 : bCourse T h po la fw v0 v1 v2 v3 v4 v5 v6 v7 [(h, .inr (1, [.ref po, .ref a1_1, .int v0, .ref la, .int v1, .int v2, .int v3, .int v4, .int v5, .int v6, .int v7])), (a1_1, .inl (T.2 0, 7, .inl fw))] := ⟨a1_1, rfl⟩
    have G : zS T A s.heap s [[(h, .inr (1, [.ref po, .ref a1_1, .int v0, .ref la, .int v1, .int v2, .int v3, .int v4, .int v5, .int v6, .int v7])), (a1_1, .inl (T.2 0, 7, .inl fw))], z] _ _ := G.re rfl
    exact z_zret C hr hlocks G (Nat.le_of_ble_eq_true rfl) (Nat.le_of_ble_eq_true rfl) dX1_add_23 rfl ⟨([(h, .inr (1, [.ref po, .ref a1_1, .int v0, .ref la, .int v1, .int v2, .int v3, .int v4, .int v5, .int v6, .int v7])), (a1_1, .inl (T.2 0, 7, .inl fw))]), fw, rfl, hw_13, (fun f1 f2 => Or.inr ⟨rfl, by unfold zAdF; rw [if_neg (fun q8 => by have q7 := q8.2; have q7 : (fw x.toNatClampNeg).toInt < 99 := q7; omega)], rfl⟩)⟩
set_option maxHeartbeats 4000000 in
set_option maxRecDepth 100000 in
/-- c_f_Course_shut -/
theorem c_f_Course_shut (l : Launch) (T : zTy) (h : Nat) (po : Nat) (la : Nat) (fw : Nat → Int32) (v0 : Int32) (v1 : Int32) (v2 : Int32) (v3 : Int32) (v4 : Int32) (v5 : Int32) (v6 : Int32) (v7 : Int32) (wc : va_W) (f1 : Nat → Int32) (f2 : Nat → Int32) (f3 : Nat → Int32) (st : Int32) (wh : Int32) (wp : va_W) (cr : Int32) (inn : Int32) (k1 : Nat → Int32) (k2 : Nat → Int32) (k3 : Nat → Int32) (k4 : Nat → Int32) (z : va_W) (x : Int32) (y : Int32) (hc : bCourse T h po la fw v0 v1 v2 v3 v4 v5 v6 v7 wc) (hp : bPosts T po la f1 f2 f3 st wh wp) (hz : bLand T la cr inn k1 k2 k3 k4 z) : zMi l T yX1_shut cX1_shut 4 (some .boolean) 3 0 0 [.ref h, .int x, .int y] [wc, wp, z] (fun (r : Int32) bs => ∃ (wp2 : va_W) (g2 : Nat → Int32), bs = [wc, wp2, z] ∧ bPosts T po la f1 g2 f3 st wh wp2 ∧ (∀ (fw : Nat → Int32) (v0 v1 : Int32), r = 1 ∧ zShF cr k1 x y (f1, f2, fw, v0, v1) = some (f1, g2, fw, v0, v1) ∨ r = 0 ∧ zShF cr k1 x y (f1, f2, fw, v0, v1) = none ∧ g2 = f2)) := by
  refine zMi_of (own := RX1) (by decide) rfl (Nat.le_of_ble_eq_true rfl) ?_
  intro p e s m args below meth c A ls C hr hlocks hnm hAe G hl
  have hx := C.1
  have hb := C.2.1
  have hl : lv_has ls 4 [(0, .ref h), (1, .int x), (2, .int y)] := hl
  refine lv_aload_n hx hb dX1_shut_0 rfl (lv_at hl 0 rfl) ?_
  refine hc.elim fun a1_1 hbs9 => ?_
  clear hc
  subst hbs9
  have G : zS T A s.heap s [[(h, .inr (1, [.ref po, .ref a1_1, .int v0, .ref la, .int v1, .int v2, .int v3, .int v4, .int v5, .int v6, .int v7]))], [(a1_1, .inl (T.2 0, 7, .inl fw))], wp, z] _ _ := G.re rfl
  refine z_get C G clX1 0 rfl 3 (by decide) m_fl_RX1_25 rfl dX1_shut_1 ?_
  refine lv_iload_n hx hb dX1_shut_4 rfl (lv_at hl 1 rfl) ?_
  refine lv_iload_n hx hb dX1_shut_5 rfl (lv_at hl 2 rfl) ?_
  refine z_Vi (bc := [z]) (br := [[(h, .inr (1, [.ref po, .ref a1_1, .int v0, .ref la, .int v1, .int v2, .int v3, .int v4, .int v5, .int v6, .int v7]))], [(a1_1, .inl (T.2 0, 7, .inl fw))], wp]) (As := [.int x, .int y]) (rest := []) C G (c_hasRoad l T la cr inn k1 k2 k3 k4 z x y hz) (kV_RX1_138 C.2.2.2.2 (Nat.le_of_ble_eq_true rfl) (Nat.le_of_ble_eq_true rfl)) [3] [0, 1, 2] rfl rfl (ci := 4) (qc := (RX4, TX4, 6)) rfl rfl (List.mem_flatten.mpr ⟨_, List.mem_of_getElem? (i := 0) rfl, (bLand_mem hz).choose_spec⟩) rfl rfl hl.1 dX1_shut_6 (Nat.le_of_ble_eq_true rfl) (Nat.le_of_ble_eq_true rfl) (fun r_3 b1 H locs hw G => ?_)
  refine hw.elim fun hbs9 hc_2 => ?_
  clear hw
  subst hbs9
  have G : zS T A s.heap s [[(h, .inr (1, [.ref po, .ref a1_1, .int v0, .ref la, .int v1, .int v2, .int v3, .int v4, .int v5, .int v6, .int v7]))], [(a1_1, .inl (T.2 0, 7, .inl fw))], wp, z] _ _ := G
  rcases hc_2 with ⟨rfl, h_4, h_5, h_6, h_7, h_8, h_9⟩ | ⟨rfl, h_10⟩
  · have h_4 : 0 ≤ x.toInt := h_4
    have h_5 : x.toInt < cr.toInt := h_5
    have h_6 : x.toInt < 7 := h_6
    have h_7 : 0 ≤ y.toInt := h_7
    have h_8 : y.toInt < (k1 x.toNatClampNeg).toInt := h_8
    have h_9 : y.toInt < 4 := h_9
    refine lv_if_eq (tgt := 28) hx hb dX1_shut_9 (by decide) (fun q => absurd q (by decide)) (fun _ => ?_)
    refine lv_aload_n hx hb dX1_shut_12 rfl (lv_at hl 0 rfl) ?_
    refine z_get C G clX1 0 rfl 0 (by decide) m_fl_RX1_12 rfl dX1_shut_13 ?_
    refine lv_iload_n hx hb dX1_shut_16 rfl (lv_at hl 1 rfl) ?_
    refine lv_iload_n hx hb dX1_shut_17 rfl (lv_at hl 2 rfl) ?_
    refine z_Vi (bc := [wp, z]) (br := [[(h, .inr (1, [.ref po, .ref a1_1, .int v0, .ref la, .int v1, .int v2, .int v3, .int v4, .int v5, .int v6, .int v7]))], [(a1_1, .inl (T.2 0, 7, .inl fw))]]) (As := [.int x, .int y]) (rest := []) C G (c_isShut l T po la f1 f2 f3 st wh wp cr inn k1 k2 k3 k4 z x y hp hz) (kV_RX1_141 C.2.2.2.2 (Nat.le_of_ble_eq_true rfl) (Nat.le_of_ble_eq_true rfl)) [2, 3] [0, 1] rfl rfl (ci := 6) (qc := (RX6, TX6, 6)) rfl rfl (List.mem_flatten.mpr ⟨_, List.mem_of_getElem? (i := 0) rfl, (bPosts_mem hp).choose_spec⟩) rfl rfl hl.1 dX1_shut_18 (Nat.le_of_ble_eq_true rfl) (Nat.le_of_ble_eq_true rfl) (fun r_12 b1 H locs hw G => ?_)
    refine hw.elim fun hbs9 hc_11 => ?_
    clear hw
    subst hbs9
    have G : zS T A s.heap s [[(h, .inr (1, [.ref po, .ref a1_1, .int v0, .ref la, .int v1, .int v2, .int v3, .int v4, .int v5, .int v6, .int v7]))], [(a1_1, .inl (T.2 0, 7, .inl fw))], wp, z] _ _ := G
    rcases hc_11 with ⟨rfl, h_13, h_14, h_15, h_16, h_17, h_18, h_19⟩ | ⟨rfl, h_20⟩
    · have h_13 : 0 ≤ x.toInt := h_13
      have h_14 : x.toInt < cr.toInt := h_14
      have h_15 : x.toInt < 7 := h_15
      have h_16 : 0 ≤ y.toInt := h_16
      have h_17 : y.toInt < (k1 x.toNatClampNeg).toInt := h_17
      have h_18 : y.toInt < 4 := h_18
      have h_19 : ¬ zBit (f2 x.toNatClampNeg) y = 0 := h_19
      refine lv_if_ne (tgt := 28) hx hb dX1_shut_21 (by decide) (fun _ => ?_) (fun q => absurd q (by decide))
      refine lv_iconst (v := 0) hx hb dX1_shut_28 (by decide) ?_
      refine lv_istore_n (lv' := [(3, .int 0), (0, .ref h), (1, .int x), (2, .int y)]) hx hb dX1_shut_29 rfl hl (by decide) rfl (fun ls hl => ?_)
      refine lv_iload_n hx hb dX1_shut_30 rfl (lv_at hl 0 rfl) ?_
      refine lv_if_eq (tgt := 43) hx hb dX1_shut_31 (by decide) (fun _ => ?_) (fun q => absurd (by decide) q)
      refine lv_iload_n hx hb dX1_shut_43 rfl (lv_at hl 0 rfl) ?_
      have hw_21 : bCourse T h po la fw v0 v1 v2 v3 v4 v5 v6 v7 [(h, .inr (1, [.ref po, .ref a1_1, .int v0, .ref la, .int v1, .int v2, .int v3, .int v4, .int v5, .int v6, .int v7])), (a1_1, .inl (T.2 0, 7, .inl fw))] := ⟨a1_1, rfl⟩
      have G : zS T A s.heap s [[(h, .inr (1, [.ref po, .ref a1_1, .int v0, .ref la, .int v1, .int v2, .int v3, .int v4, .int v5, .int v6, .int v7])), (a1_1, .inl (T.2 0, 7, .inl fw))], wp, z] _ _ := G.re rfl
      exact z_zret C hr hlocks G (Nat.le_of_ble_eq_true rfl) (Nat.le_of_ble_eq_true rfl) dX1_shut_44 rfl ⟨wp, f2, rfl, hp, (fun fw v0 v1 => Or.inr ⟨rfl, by unfold zShF; rw [if_neg (fun q8 => by obtain ⟨⟨a1, a2, a3⟩, ⟨b1, b2, b3⟩, b4⟩ := q8; have b4 : zBit (f2 x.toNatClampNeg) y = 0 := b4; first | omega | (rcases hns with e9 | e9 | e9 | e9 | e9 | e9 | e9 <;> first | omega | exact absurd e9 b4 | exact absurd b4 e9) | exact absurd b4 (by assumption))], rfl⟩)⟩
    · have h_20 : (x.toInt < 0 ∨ cr.toInt ≤ x.toInt ∨ 7 ≤ x.toInt ∨ y.toInt < 0 ∨ (k1 x.toNatClampNeg).toInt ≤ y.toInt ∨ 4 ≤ y.toInt ∨ zBit (f2 x.toNatClampNeg) y = 0) := h_20
      have hns := h_20
      refine lv_if_ne (tgt := 28) hx hb dX1_shut_21 (by decide) (fun q => absurd (by decide) q) (fun _ => ?_)
      refine lv_iconst (v := 1) hx hb dX1_shut_24 (by decide) ?_
      refine lv_goto (tgt := 29) hx hb dX1_shut_25 (by decide) ?_
      refine lv_istore_n (lv' := [(3, .int 1), (0, .ref h), (1, .int x), (2, .int y)]) hx hb dX1_shut_29 rfl hl (by decide) rfl (fun ls hl => ?_)
      refine lv_iload_n hx hb dX1_shut_30 rfl (lv_at hl 0 rfl) ?_
      refine lv_if_eq (tgt := 43) hx hb dX1_shut_31 (by decide) (fun q => absurd q (by decide)) (fun _ => ?_)
      refine lv_aload_n hx hb dX1_shut_34 rfl (lv_at hl 1 rfl) ?_
      refine z_get C G clX1 0 rfl 0 (by decide) m_fl_RX1_12 rfl dX1_shut_35 ?_
      refine lv_iload_n hx hb dX1_shut_38 rfl (lv_at hl 2 rfl) ?_
      refine lv_iload_n hx hb dX1_shut_39 rfl (lv_at hl 3 rfl) ?_
      refine z_Vv (bc := [wp, z]) (br := [[(h, .inr (1, [.ref po, .ref a1_1, .int v0, .ref la, .int v1, .int v2, .int v3, .int v4, .int v5, .int v6, .int v7]))], [(a1_1, .inl (T.2 0, 7, .inl fw))]]) (As := [.int x, .int y]) (rest := []) C G (c_shutRoad l T po la f1 f2 f3 st wh wp cr inn k1 k2 k3 k4 z x y hp hz) (kV_RX1_144 C.2.2.2.2 (Nat.le_of_ble_eq_true rfl) (Nat.le_of_ble_eq_true rfl)) [2, 3] [0, 1] rfl rfl (ci := 6) (qc := (RX6, TX6, 6)) rfl rfl (List.mem_flatten.mpr ⟨_, List.mem_of_getElem? (i := 0) rfl, (bPosts_mem hp).choose_spec⟩) rfl rfl hl.1 dX1_shut_40 (Nat.le_of_ble_eq_true rfl) (Nat.le_of_ble_eq_true rfl) (fun b1 H locs hw G => ?_)
      refine hw.elim fun w2_22 w90 => w90.elim fun g2_23 w91 => w91.elim fun hbs9 w92 => w92.elim fun h_24 h_25 => ?_
      clear hw w90 w91 w92
      subst hbs9
      have G : zS T A s.heap s [[(h, .inr (1, [.ref po, .ref a1_1, .int v0, .ref la, .int v1, .int v2, .int v3, .int v4, .int v5, .int v6, .int v7]))], [(a1_1, .inl (T.2 0, 7, .inl fw))], w2_22, z] _ _ := G
      refine lv_iload_n hx hb dX1_shut_43 rfl (lv_at hl 0 rfl) ?_
      have hw_27 : bCourse T h po la fw v0 v1 v2 v3 v4 v5 v6 v7 [(h, .inr (1, [.ref po, .ref a1_1, .int v0, .ref la, .int v1, .int v2, .int v3, .int v4, .int v5, .int v6, .int v7])), (a1_1, .inl (T.2 0, 7, .inl fw))] := ⟨a1_1, rfl⟩
      have G : zS T A s.heap s [[(h, .inr (1, [.ref po, .ref a1_1, .int v0, .ref la, .int v1, .int v2, .int v3, .int v4, .int v5, .int v6, .int v7])), (a1_1, .inl (T.2 0, 7, .inl fw))], w2_22, z] _ _ := G.re rfl
      exact z_zret C hr hlocks G (Nat.le_of_ble_eq_true rfl) (Nat.le_of_ble_eq_true rfl) dX1_shut_44 rfl ⟨w2_22, g2_23, rfl, h_24, (fun fw v0 v1 => Or.inl ⟨rfl, by unfold zShF; rw [if_pos ⟨⟨by omega, by omega, by omega⟩, ⟨by omega, by omega, by omega⟩, (show zBit (f2 x.toNatClampNeg) y = 0 from by first | assumption | (rcases hns with e9 | e9 | e9 | e9 | e9 | e9 | e9 <;> first | exact e9 | (exfalso; omega)))⟩, h_25]; unfold zShut; rw [if_pos ⟨by omega, by omega, by omega, by omega, by omega, by omega⟩]⟩)⟩
  · have h_10 : (x.toInt < 0 ∨ cr.toInt ≤ x.toInt ∨ 7 ≤ x.toInt ∨ y.toInt < 0 ∨ (k1 x.toNatClampNeg).toInt ≤ y.toInt ∨ 4 ≤ y.toInt) := h_10
    refine lv_if_eq (tgt := 28) hx hb dX1_shut_9 (by decide) (fun _ => ?_) (fun q => absurd (by decide) q)
    refine lv_iconst (v := 0) hx hb dX1_shut_28 (by decide) ?_
    refine lv_istore_n (lv' := [(3, .int 0), (0, .ref h), (1, .int x), (2, .int y)]) hx hb dX1_shut_29 rfl hl (by decide) rfl (fun ls hl => ?_)
    refine lv_iload_n hx hb dX1_shut_30 rfl (lv_at hl 0 rfl) ?_
    refine lv_if_eq (tgt := 43) hx hb dX1_shut_31 (by decide) (fun _ => ?_) (fun q => absurd (by decide) q)
    refine lv_iload_n hx hb dX1_shut_43 rfl (lv_at hl 0 rfl) ?_
    have hw_28 : bCourse T h po la fw v0 v1 v2 v3 v4 v5 v6 v7 [(h, .inr (1, [.ref po, .ref a1_1, .int v0, .ref la, .int v1, .int v2, .int v3, .int v4, .int v5, .int v6, .int v7])), (a1_1, .inl (T.2 0, 7, .inl fw))] := ⟨a1_1, rfl⟩
    have G : zS T A s.heap s [[(h, .inr (1, [.ref po, .ref a1_1, .int v0, .ref la, .int v1, .int v2, .int v3, .int v4, .int v5, .int v6, .int v7])), (a1_1, .inl (T.2 0, 7, .inl fw))], wp, z] _ _ := G.re rfl
    exact z_zret C hr hlocks G (Nat.le_of_ble_eq_true rfl) (Nat.le_of_ble_eq_true rfl) dX1_shut_44 rfl ⟨wp, f2, rfl, hp, (fun fw v0 v1 => Or.inr ⟨rfl, by unfold zShF; rw [if_neg (fun q8 => by obtain ⟨⟨a1, a2, a3⟩, ⟨b1, b2, b3⟩, b4⟩ := q8; have b4 : zBit (f2 x.toNatClampNeg) y = 0 := b4; first | omega | (rcases hns with e9 | e9 | e9 | e9 | e9 | e9 | e9 <;> first | omega | exact absurd e9 b4 | exact absurd b4 e9) | exact absurd b4 (by assumption))], rfl⟩)⟩
set_option maxHeartbeats 4000000 in
set_option maxRecDepth 100000 in
/-- c_f_Course_open -/
theorem c_f_Course_open (l : Launch) (T : zTy) (h : Nat) (po : Nat) (la : Nat) (fw : Nat → Int32) (v0 : Int32) (v1 : Int32) (v2 : Int32) (v3 : Int32) (v4 : Int32) (v5 : Int32) (v6 : Int32) (v7 : Int32) (wc : va_W) (f1 : Nat → Int32) (f2 : Nat → Int32) (f3 : Nat → Int32) (st : Int32) (wh : Int32) (wp : va_W) (cr : Int32) (inn : Int32) (k1 : Nat → Int32) (k2 : Nat → Int32) (k3 : Nat → Int32) (k4 : Nat → Int32) (z : va_W) (x : Int32) (y : Int32) (hc : bCourse T h po la fw v0 v1 v2 v3 v4 v5 v6 v7 wc) (hp : bPosts T po la f1 f2 f3 st wh wp) (hz : bLand T la cr inn k1 k2 k3 k4 z) : zMi l T yX1_open cX1_open 4 (some .boolean) 3 0 0 [.ref h, .int x, .int y] [wc, wp, z] (fun (r : Int32) bs => ∃ (wp2 : va_W) (g2 : Nat → Int32), bs = [wc, wp2, z] ∧ bPosts T po la f1 g2 f3 st wh wp2 ∧ (∀ (fw : Nat → Int32) (v0 v1 : Int32), r = 1 ∧ zOpF cr k1 x y (f1, f2, fw, v0, v1) = some (f1, g2, fw, v0, v1) ∨ r = 0 ∧ zOpF cr k1 x y (f1, f2, fw, v0, v1) = none ∧ g2 = f2)) := by
  refine zMi_of (own := RX1) (by decide) rfl (Nat.le_of_ble_eq_true rfl) ?_
  intro p e s m args below meth c A ls C hr hlocks hnm hAe G hl
  have hx := C.1
  have hb := C.2.1
  have hl : lv_has ls 4 [(0, .ref h), (1, .int x), (2, .int y)] := hl
  refine lv_aload_n hx hb dX1_open_0 rfl (lv_at hl 0 rfl) ?_
  refine hc.elim fun a1_1 hbs9 => ?_
  clear hc
  subst hbs9
  have G : zS T A s.heap s [[(h, .inr (1, [.ref po, .ref a1_1, .int v0, .ref la, .int v1, .int v2, .int v3, .int v4, .int v5, .int v6, .int v7]))], [(a1_1, .inl (T.2 0, 7, .inl fw))], wp, z] _ _ := G.re rfl
  refine z_get C G clX1 0 rfl 0 (by decide) m_fl_RX1_12 rfl dX1_open_1 ?_
  refine lv_iload_n hx hb dX1_open_4 rfl (lv_at hl 1 rfl) ?_
  refine lv_iload_n hx hb dX1_open_5 rfl (lv_at hl 2 rfl) ?_
  refine z_Vi (bc := [wp, z]) (br := [[(h, .inr (1, [.ref po, .ref a1_1, .int v0, .ref la, .int v1, .int v2, .int v3, .int v4, .int v5, .int v6, .int v7]))], [(a1_1, .inl (T.2 0, 7, .inl fw))]]) (As := [.int x, .int y]) (rest := []) C G (c_isShut l T po la f1 f2 f3 st wh wp cr inn k1 k2 k3 k4 z x y hp hz) (kV_RX1_141 C.2.2.2.2 (Nat.le_of_ble_eq_true rfl) (Nat.le_of_ble_eq_true rfl)) [2, 3] [0, 1] rfl rfl (ci := 6) (qc := (RX6, TX6, 6)) rfl rfl (List.mem_flatten.mpr ⟨_, List.mem_of_getElem? (i := 0) rfl, (bPosts_mem hp).choose_spec⟩) rfl rfl hl.1 dX1_open_6 (Nat.le_of_ble_eq_true rfl) (Nat.le_of_ble_eq_true rfl) (fun r_3 b1 H locs hw G => ?_)
  refine hw.elim fun hbs9 hc_2 => ?_
  clear hw
  subst hbs9
  have G : zS T A s.heap s [[(h, .inr (1, [.ref po, .ref a1_1, .int v0, .ref la, .int v1, .int v2, .int v3, .int v4, .int v5, .int v6, .int v7]))], [(a1_1, .inl (T.2 0, 7, .inl fw))], wp, z] _ _ := G
  rcases hc_2 with ⟨rfl, h_4, h_5, h_6, h_7, h_8, h_9, h_10⟩ | ⟨rfl, h_11⟩
  · have h_4 : 0 ≤ x.toInt := h_4
    have h_5 : x.toInt < cr.toInt := h_5
    have h_6 : x.toInt < 7 := h_6
    have h_7 : 0 ≤ y.toInt := h_7
    have h_8 : y.toInt < (k1 x.toNatClampNeg).toInt := h_8
    have h_9 : y.toInt < 4 := h_9
    have h_10 : ¬ zBit (f2 x.toNatClampNeg) y = 0 := h_10
    refine lv_istore_n (lv' := [(3, .int 1), (0, .ref h), (1, .int x), (2, .int y)]) hx hb dX1_open_9 rfl hl (by decide) rfl (fun ls hl => ?_)
    refine lv_iload_n hx hb dX1_open_10 rfl (lv_at hl 0 rfl) ?_
    refine lv_if_eq (tgt := 23) hx hb dX1_open_11 (by decide) (fun q => absurd q (by decide)) (fun _ => ?_)
    refine lv_aload_n hx hb dX1_open_14 rfl (lv_at hl 1 rfl) ?_
    refine z_get C G clX1 0 rfl 0 (by decide) m_fl_RX1_12 rfl dX1_open_15 ?_
    refine lv_iload_n hx hb dX1_open_18 rfl (lv_at hl 2 rfl) ?_
    refine lv_iload_n hx hb dX1_open_19 rfl (lv_at hl 3 rfl) ?_
    refine z_Vv (bc := [wp, z]) (br := [[(h, .inr (1, [.ref po, .ref a1_1, .int v0, .ref la, .int v1, .int v2, .int v3, .int v4, .int v5, .int v6, .int v7]))], [(a1_1, .inl (T.2 0, 7, .inl fw))]]) (As := [.int x, .int y]) (rest := []) C G (c_openRoad l T po la f1 f2 f3 st wh wp cr inn k1 k2 k3 k4 z x y hp hz) (kV_RX1_147 C.2.2.2.2 (Nat.le_of_ble_eq_true rfl) (Nat.le_of_ble_eq_true rfl)) [2, 3] [0, 1] rfl rfl (ci := 6) (qc := (RX6, TX6, 6)) rfl rfl (List.mem_flatten.mpr ⟨_, List.mem_of_getElem? (i := 0) rfl, (bPosts_mem hp).choose_spec⟩) rfl rfl hl.1 dX1_open_20 (Nat.le_of_ble_eq_true rfl) (Nat.le_of_ble_eq_true rfl) (fun b1 H locs hw G => ?_)
    refine hw.elim fun w2_12 w90 => w90.elim fun g2_13 w91 => w91.elim fun hbs9 w92 => w92.elim fun h_14 h_15 => ?_
    clear hw w90 w91 w92
    subst hbs9
    have G : zS T A s.heap s [[(h, .inr (1, [.ref po, .ref a1_1, .int v0, .ref la, .int v1, .int v2, .int v3, .int v4, .int v5, .int v6, .int v7]))], [(a1_1, .inl (T.2 0, 7, .inl fw))], w2_12, z] _ _ := G
    refine lv_iload_n hx hb dX1_open_23 rfl (lv_at hl 0 rfl) ?_
    have hw_17 : bCourse T h po la fw v0 v1 v2 v3 v4 v5 v6 v7 [(h, .inr (1, [.ref po, .ref a1_1, .int v0, .ref la, .int v1, .int v2, .int v3, .int v4, .int v5, .int v6, .int v7])), (a1_1, .inl (T.2 0, 7, .inl fw))] := ⟨a1_1, rfl⟩
    have G : zS T A s.heap s [[(h, .inr (1, [.ref po, .ref a1_1, .int v0, .ref la, .int v1, .int v2, .int v3, .int v4, .int v5, .int v6, .int v7])), (a1_1, .inl (T.2 0, 7, .inl fw))], w2_12, z] _ _ := G.re rfl
    exact z_zret C hr hlocks G (Nat.le_of_ble_eq_true rfl) (Nat.le_of_ble_eq_true rfl) dX1_open_24 rfl ⟨w2_12, g2_13, rfl, h_14, (fun fw v0 v1 => Or.inl ⟨rfl, by unfold zOpF; rw [if_pos ⟨⟨by omega, by omega, by omega⟩, ⟨by omega, by omega, by omega⟩, (show ¬ zBit (f2 x.toNatClampNeg) y = 0 from by first | assumption | (rcases hns with e9 | e9 | e9 | e9 | e9 | e9 | e9 <;> first | exact e9 | (exfalso; omega)))⟩, h_15]; unfold zOpen; rw [if_pos ⟨by omega, by omega, by omega, by omega, by omega, by omega⟩]⟩)⟩
  · have h_11 : (x.toInt < 0 ∨ cr.toInt ≤ x.toInt ∨ 7 ≤ x.toInt ∨ y.toInt < 0 ∨ (k1 x.toNatClampNeg).toInt ≤ y.toInt ∨ 4 ≤ y.toInt ∨ zBit (f2 x.toNatClampNeg) y = 0) := h_11
    have hns := h_11
    refine lv_istore_n (lv' := [(3, .int 0), (0, .ref h), (1, .int x), (2, .int y)]) hx hb dX1_open_9 rfl hl (by decide) rfl (fun ls hl => ?_)
    refine lv_iload_n hx hb dX1_open_10 rfl (lv_at hl 0 rfl) ?_
    refine lv_if_eq (tgt := 23) hx hb dX1_open_11 (by decide) (fun _ => ?_) (fun q => absurd (by decide) q)
    refine lv_iload_n hx hb dX1_open_23 rfl (lv_at hl 0 rfl) ?_
    have hw_18 : bCourse T h po la fw v0 v1 v2 v3 v4 v5 v6 v7 [(h, .inr (1, [.ref po, .ref a1_1, .int v0, .ref la, .int v1, .int v2, .int v3, .int v4, .int v5, .int v6, .int v7])), (a1_1, .inl (T.2 0, 7, .inl fw))] := ⟨a1_1, rfl⟩
    have G : zS T A s.heap s [[(h, .inr (1, [.ref po, .ref a1_1, .int v0, .ref la, .int v1, .int v2, .int v3, .int v4, .int v5, .int v6, .int v7])), (a1_1, .inl (T.2 0, 7, .inl fw))], wp, z] _ _ := G.re rfl
    exact z_zret C hr hlocks G (Nat.le_of_ble_eq_true rfl) (Nat.le_of_ble_eq_true rfl) dX1_open_24 rfl ⟨wp, f2, rfl, hp, (fun fw v0 v1 => Or.inr ⟨rfl, by unfold zOpF; rw [if_neg (fun q8 => by obtain ⟨⟨a1, a2, a3⟩, ⟨b1, b2, b3⟩, b4⟩ := q8; have b4 : ¬ zBit (f2 x.toNatClampNeg) y = 0 := b4; first | omega | (rcases hns with e9 | e9 | e9 | e9 | e9 | e9 | e9 <;> first | omega | exact absurd e9 b4 | exact absurd b4 e9) | exact absurd b4 (by assumption))], rfl⟩)⟩
section ZDE
variable {cr inn d x y : Int32} {W Ro L : Nat → Int32} {D : zK}
theorem zDe_k0 (h : d.toInt = 0) : zDe cr inn W Ro L d x y D = zGoF cr W L x D := if_pos h
theorem zDe_k1 (h : d.toInt = 1) : zDe cr inn W Ro L d x y D = zRuF cr inn W L x D := by
  unfold zDe
  rw [if_neg (by omega), if_pos h]
theorem zDe_k2 (h : d.toInt = 2) : zDe cr inn W Ro L d x y D = zTuF cr W x D := by
  unfold zDe
  rw [if_neg (by omega), if_neg (by omega), if_pos h]
theorem zDe_k3 (h : d.toInt = 3) : zDe cr inn W Ro L d x y D = zAdF cr x D := by
  unfold zDe
  rw [if_neg (by omega), if_neg (by omega), if_neg (by omega), if_pos h]
theorem zDe_k4 (h : d.toInt = 4) : zDe cr inn W Ro L d x y D = zShF cr Ro x y D := by
  unfold zDe
  rw [if_neg (by omega), if_neg (by omega), if_neg (by omega), if_neg (by omega), if_pos h]
theorem zDe_k5 (h : d.toInt = 5) : zDe cr inn W Ro L d x y D = zOpF cr Ro x y D := by
  unfold zDe
  rw [if_neg (by omega), if_neg (by omega), if_neg (by omega), if_neg (by omega), if_neg (by omega), if_pos h]
theorem zDe_kn (h : d.toInt < 0 ∨ 5 < d.toInt) : zDe cr inn W Ro L d x y D = none := by
  unfold zDe
  rw [if_neg (by omega), if_neg (by omega), if_neg (by omega), if_neg (by omega), if_neg (by omega), if_neg (by omega)]
end ZDE
theorem zTurn_has {cr inn x : Int32} {f1 f2 f3 k1 : Nat → Int32} (hI : zP3 f1 f3) (hW : ∀ j, j < 7 → f3 j = zWays cr inn k1 (nI j)) (h : ¬ zTurn f1 f2 f3 x = -1) : zHas cr x := by
  have g := (zTurn_lt (f2 := f2) hI x).resolve_left h
  have e := z_clI g.1
  have t := nI_toInt (n := x.toNatClampNeg) (by omega)
  have w := hW x.toNatClampNeg (by omega)
  have q := zWays_in (cr := cr) (inn := inn) (f1 := k1) (x := nI x.toNatClampNeg) (fun q => by
    rw [w, q] at g
    have z0 : (0 : Int32).toInt = 0 := rfl
    omega)
  exact ⟨g.1, by omega, g.2.1⟩
theorem zTuF_i {cr x : Int32} {W P S H g1 : Nat → Int32} {st nv : Int32} (h : zHas cr x ∧ ¬ zTurn P S W x = -1) (e : g1 = zPost P S W x) : zTuF cr W x (P, S, H, st, nv) = some (g1, S, H, st, nv) := by
  unfold zTuF
  rw [if_pos h, e]
theorem zTuF_n {cr x : Int32} {W P S H g1 : Nat → Int32} {st nv : Int32} (h : zTurn P S W x = -1) (e : g1 = zPost P S W x) : zTuF cr W x (P, S, H, st, nv) = none ∧ g1 = P := by
  unfold zTuF
  refine ⟨if_neg (fun q => q.2 h), ?_⟩
  rw [e]
  unfold zPost
  rw [if_pos h]
set_option maxHeartbeats 4000000 in
set_option maxRecDepth 100000 in
/-- c_f_does -/
theorem c_f_does (l : Launch) (T : zTy) (h : Nat) (po : Nat) (la : Nat) (fw : Nat → Int32) (v0 : Int32) (v1 : Int32) (v2 : Int32) (v3 : Int32) (v4 : Int32) (v5 : Int32) (v6 : Int32) (v7 : Int32) (wc : va_W) (f1 : Nat → Int32) (f2 : Nat → Int32) (f3 : Nat → Int32) (st : Int32) (wh : Int32) (wp : va_W) (cr : Int32) (inn : Int32) (k1 : Nat → Int32) (k2 : Nat → Int32) (k3 : Nat → Int32) (k4 : Nat → Int32) (z : va_W) (d : Int32) (x : Int32) (y : Int32) (hc : bCourse T h po la fw v0 v1 v2 v3 v4 v5 v6 v7 wc) (hp : bPosts T po la f1 f2 f3 st wh wp) (hz : bLand T la cr inn k1 k2 k3 k4 z) (hP : zP3 f1 f3) (hI : zLI cr k1 k3) (hW : ∀ j, j < 7 → f3 j = zWays cr inn k1 (nI j)) (hLq : zLq cr k1 k2) : zMi l T yX1_does cX1_does 5 (some .boolean) 6 0 0 [.ref h, .int d, .int x, .int y] [wc, wp, z] (fun (r : Int32) bs => ∃ (wc2 : va_W) (gw : Nat → Int32) (u0 : Int32) (u1 : Int32) (u2 : Int32) (u3 : Int32) (u4 : Int32) (u5 : Int32) (u6 : Int32) (u7 : Int32) (wp2 : va_W) (g1 : Nat → Int32) (g2 : Nat → Int32) (sa : Int32) (wa : Int32), bs = [wc2, wp2, z] ∧ bCourse T h po la gw u0 u1 u2 u3 u4 u5 u6 u7 wc2 ∧ bPosts T po la g1 g2 f3 sa wa wp2 ∧ zP3 g1 f3 ∧ (r = 1 ∧ zDe cr inn f3 k1 k2 d x y (f1, f2, fw, v0, v1) = some (g1, g2, gw, u0, u1) ∧ u2 = v2 + 1 ∨ r = 0 ∧ zDe cr inn f3 k1 k2 d x y (f1, f2, fw, v0, v1) = none ∧ g1 = f1 ∧ g2 = f2 ∧ gw = fw ∧ u0 = v0 ∧ u1 = v1 ∧ u2 = v2) ∧ u7 = v7) := by
  refine zMi_of (own := RX1) (by decide) rfl (Nat.le_of_ble_eq_true rfl) ?_
  intro p e s m args below meth c A ls C hr hlocks hnm hAe G hl
  have hx := C.1
  have hb := C.2.1
  have hl : lv_has ls 5 [(0, .ref h), (1, .int d), (2, .int x), (3, .int y)] := hl
  refine lv_iload_n hx hb dX1_does_0 rfl (lv_at hl 1 rfl) ?_
  by_cases c_1o : d.toInt < 0 ∨ 5 < d.toInt
  · refine lv_tableOut (tgt := 114) hx hb dX1_does_1 c_1o (by decide) ?_
    refine lv_iconst (v := 0) hx hb dX1_does_114 (by decide) ?_
    refine lv_istore (lv' := [(4, .int 0), (0, .ref h), (1, .int d), (2, .int x), (3, .int y)]) hx hb dX1_does_115 hl (by decide) rfl (fun ls hl => ?_)
    refine lv_iload hx hb dX1_does_117 (lv_at hl 0 rfl) ?_
    refine lv_if_eq (tgt := 136) hx hb dX1_does_119 (by decide) (fun _ => ?_) (fun q => absurd (by decide) q)
    refine lv_iload hx hb dX1_does_136 (lv_at hl 0 rfl) ?_
    exact z_zret C hr hlocks G (Nat.le_of_ble_eq_true rfl) (Nat.le_of_ble_eq_true rfl) dX1_does_138 rfl ⟨wc, fw, v0, v1, v2, v3, v4, v5, v6, v7, wp, f1, f2, st, wh, rfl, hc, hp, hP, (Or.inr ⟨rfl, zDe_kn (by omega), rfl, rfl, rfl, rfl, rfl, rfl⟩), rfl⟩
  · have c_1r : d.toInt = 0 ∨ d.toInt = 1 ∨ d.toInt = 2 ∨ d.toInt = 3 ∨ d.toInt = 4 ∨ d.toInt = 5 := by omega
    rcases c_1r with c_1 | c_1 | c_1 | c_1 | c_1 | c_1
    · refine lv_tableIn (tgt := 40) hx hb dX1_does_1 (by omega) (by omega) (by rw [c_1]; rfl) (by decide) ?_
      refine lv_aload_n hx hb dX1_does_40 rfl (lv_at hl 0 rfl) ?_
      refine lv_iload_n hx hb dX1_does_41 rfl (lv_at hl 2 rfl) ?_
      refine z_Vi (bc := [wc, wp, z]) (br := []) (As := [.int x]) (rest := []) C G (c_f_go l T h po la fw v0 v1 v2 v3 v4 v5 v6 v7 wc f1 f2 f3 st wh wp cr inn k1 k2 k3 k4 z x hc hp hz hP hI hW hLq) (kV_RX1_96 C.2.2.2.2 (Nat.le_of_ble_eq_true rfl) (Nat.le_of_ble_eq_true rfl)) [0, 1, 2] [] rfl rfl (ci := 1) (qc := (RX1, TX1, 11)) rfl rfl (List.mem_flatten.mpr ⟨_, List.mem_of_getElem? (i := 0) rfl, (bCourse_mem hc).choose_spec⟩) rfl rfl hl.1 dX1_does_42 (Nat.le_of_ble_eq_true rfl) (Nat.le_of_ble_eq_true rfl) (fun r_22 b1 H locs hw G => ?_)
      refine hw.elim fun wc2_2 w90 => w90.elim fun gw_3 w91 => w91.elim fun u0_4 w92 => w92.elim fun u1_5 w93 => w93.elim fun u2_6 w94 => w94.elim fun u3_7 w95 => w95.elim fun u4_8 w96 => w96.elim fun u5_9 w97 => w97.elim fun u6_10 w98 => w98.elim fun u7_11 w99 => w99.elim fun wp2_12 w910 => w910.elim fun g1_13 w911 => w911.elim fun g2_14 w912 => w912.elim fun sa_15 w913 => w913.elim fun wa_16 w914 => w914.elim fun hbs9 w915 => w915.elim fun h_17 w916 => w916.elim fun h_18 w917 => w917.elim fun h_19 w918 => w918.elim fun h_20 h_21 => ?_
      clear hw w90 w91 w92 w93 w94 w95 w96 w97 w98 w99 w910 w911 w912 w913 w914 w915 w916 w917 w918
      subst hbs9
      have G : zS T A s.heap s [wc2_2, wp2_12, z] _ _ := G
      refine lv_istore (lv' := [(4, .int r_22), (0, .ref h), (1, .int d), (2, .int x), (3, .int y)]) hx hb dX1_does_45 hl (by decide) rfl (fun ls hl => ?_)
      refine lv_goto (tgt := 117) hx hb dX1_does_47 (by decide) ?_
      refine lv_iload hx hb dX1_does_117 (lv_at hl 0 rfl) ?_
      refine lv_if_eq (tgt := 136) hx hb dX1_does_119 (by decide) (fun c_23 => ?_) (fun c_23 => ?_)
      · have c_23n : r_22.toInt = (0 : Int) := (fa_eq _ _).mp c_23
        have hs := (h_20).resolve_left (fun q8 => by have e8 : r_22.toInt = 1 := (by rw [q8.1]; rfl); omega)
        refine lv_iload hx hb dX1_does_136 (lv_at hl 0 rfl) ?_
        exact z_zret C hr hlocks G (Nat.le_of_ble_eq_true rfl) (Nat.le_of_ble_eq_true rfl) dX1_does_138 (by rcases h_20 with q | q <;> rw [q.1] <;> rfl) ⟨wc2_2, gw_3, u0_4, u1_5, u2_6, u3_7, u4_8, u5_9, u6_10, u7_11, wp2_12, g1_13, g2_14, sa_15, wa_16, rfl, h_17, h_18, (show zP3 g1_13 f3 from h_19), (Or.inr ⟨hs.1, (zDe_k0 (by omega)).trans hs.2.1, hs.2.2.1, hs.2.2.2.1, hs.2.2.2.2.1, hs.2.2.2.2.2.1, hs.2.2.2.2.2.2, h_21.1⟩), h_21.2⟩
      · have c_23n : ¬ r_22.toInt = (0 : Int) := fun q => c_23 ((fa_eq _ _).mpr q)
        have hs := (h_20).resolve_right (fun q8 => by have e8 : r_22.toInt = 0 := (by rw [q8.1]; rfl); omega)
        refine lv_aload_n hx hb dX1_does_122 rfl (lv_at hl 1 rfl) ?_
        refine lv_dup hx hb dX1_does_123 rfl ?_
        refine h_17.elim fun a1_24 hbs9 => ?_
        clear h_17
        subst hbs9
        have G : zS T A s.heap s [[(h, .inr (1, [.ref po, .ref a1_24, .int u0_4, .ref la, .int u1_5, .int u2_6, .int u3_7, .int u4_8, .int u5_9, .int u6_10, .int u7_11]))], [(a1_24, .inl (T.2 0, 7, .inl gw_3))], wp2_12, z] _ _ := G.re rfl
        refine z_get C G clX1 0 rfl 5 (by decide) m_fl_RX1_41 rfl dX1_does_124 ?_
        refine lv_iconst (v := 1) hx hb dX1_does_127 (by decide) ?_
        refine lv_iadd hx hb dX1_does_128 ?_
        refine z_put C G clX1 0 rfl 5 (by decide) m_fl_RX1_41 rfl rfl rfl (Nat.le_of_ble_eq_true rfl) dX1_does_129 (fun H locs G => ?_)
        have G : zS T A s.heap s [[(h, .inr (1, [.ref po, .ref a1_24, .int u0_4, .ref la, .int u1_5, .int (u2_6 + 1), .int u3_7, .int u4_8, .int u5_9, .int u6_10, .int u7_11]))], [(a1_24, .inl (T.2 0, 7, .inl gw_3))], wp2_12, z] _ _ := G
        refine lv_aload_n hx hb dX1_does_132 rfl (lv_at hl 1 rfl) ?_
        have hw_25 : bCourse T h po la gw_3 u0_4 u1_5 (u2_6 + 1) u3_7 u4_8 u5_9 u6_10 u7_11 [(h, .inr (1, [.ref po, .ref a1_24, .int u0_4, .ref la, .int u1_5, .int (u2_6 + 1), .int u3_7, .int u4_8, .int u5_9, .int u6_10, .int u7_11])), (a1_24, .inl (T.2 0, 7, .inl gw_3))] := ⟨a1_24, rfl⟩
        have G : zS T A s.heap s [[(h, .inr (1, [.ref po, .ref a1_24, .int u0_4, .ref la, .int u1_5, .int (u2_6 + 1), .int u3_7, .int u4_8, .int u5_9, .int u6_10, .int u7_11])), (a1_24, .inl (T.2 0, 7, .inl gw_3))], wp2_12, z] _ _ := G.re rfl
        refine z_Vv (bc := [[(h, .inr (1, [.ref po, .ref a1_24, .int u0_4, .ref la, .int u1_5, .int (u2_6 + 1), .int u3_7, .int u4_8, .int u5_9, .int u6_10, .int u7_11])), (a1_24, .inl (T.2 0, 7, .inl gw_3))], z]) (br := [wp2_12]) (As := []) (rest := []) C G (c_lookAtCrowd l T h po la gw_3 u0_4 u1_5 (u2_6 + 1) u3_7 u4_8 u5_9 u6_10 u7_11 ([(h, .inr (1, [.ref po, .ref a1_24, .int u0_4, .ref la, .int u1_5, .int (u2_6 + 1), .int u3_7, .int u4_8, .int u5_9, .int u6_10, .int u7_11])), (a1_24, .inl (T.2 0, 7, .inl gw_3))]) cr inn k1 k2 k3 k4 z hw_25 hz (by first | with_reducible assumption | with_reducible rfl | omega | assumption | rfl)) (kV_RX1_56 C.2.2.2.2 (Nat.le_of_ble_eq_true rfl) (Nat.le_of_ble_eq_true rfl)) [0, 2] [1] rfl rfl (ci := 1) (qc := (RX1, TX1, 11)) rfl rfl (List.mem_flatten.mpr ⟨_, List.mem_of_getElem? (i := 0) rfl, (bCourse_mem hw_25).choose_spec⟩) rfl rfl hl.1 dX1_does_133 (Nat.le_of_ble_eq_true rfl) (Nat.le_of_ble_eq_true rfl) (fun b1 H locs hw G => ?_)
        refine hw.elim fun wc2_26 w90 => w90.elim fun u6_27 w91 => w91.elim fun hbs9 h_28 => ?_
        clear hw w90 w91
        subst hbs9
        have G : zS T A s.heap s [wp2_12, wc2_26, z] _ _ := G
        refine lv_iload hx hb dX1_does_136 (lv_at hl 0 rfl) ?_
        have G := G.sub (bs' := [wc2_26, wp2_12, z]) [1, 0, 2] rfl
        exact z_zret C hr hlocks G (Nat.le_of_ble_eq_true rfl) (Nat.le_of_ble_eq_true rfl) dX1_does_138 (by rcases h_20 with q | q <;> rw [q.1] <;> rfl) ⟨wc2_26, gw_3, u0_4, u1_5, (u2_6 + 1), u3_7, u4_8, u5_9, u6_27, u7_11, wp2_12, g1_13, g2_14, sa_15, wa_16, rfl, h_28, h_18, (show zP3 g1_13 f3 from h_19), (Or.inl ⟨hs.1, (zDe_k0 (by omega)).trans hs.2, by rw [h_21.1]⟩), h_21.2⟩
    · refine lv_tableIn (tgt := 50) hx hb dX1_does_1 (by omega) (by omega) (by rw [c_1]; rfl) (by decide) ?_
      refine lv_aload_n hx hb dX1_does_50 rfl (lv_at hl 0 rfl) ?_
      refine lv_iload_n hx hb dX1_does_51 rfl (lv_at hl 2 rfl) ?_
      refine z_Vi (bc := [wc, wp, z]) (br := []) (As := [.int x]) (rest := []) C G (c_f_Course_run l T h po la fw v0 v1 v2 v3 v4 v5 v6 v7 wc f1 f2 f3 st wh wp cr inn k1 k2 k3 k4 z x hc hp hz hP hI hW hLq) (kV_RX1_92 C.2.2.2.2 (Nat.le_of_ble_eq_true rfl) (Nat.le_of_ble_eq_true rfl)) [0, 1, 2] [] rfl rfl (ci := 1) (qc := (RX1, TX1, 11)) rfl rfl (List.mem_flatten.mpr ⟨_, List.mem_of_getElem? (i := 0) rfl, (bCourse_mem hc).choose_spec⟩) rfl rfl hl.1 dX1_does_52 (Nat.le_of_ble_eq_true rfl) (Nat.le_of_ble_eq_true rfl) (fun r_50 b1 H locs hw G => ?_)
      refine hw.elim fun wc2_30 w90 => w90.elim fun gw_31 w91 => w91.elim fun u0_32 w92 => w92.elim fun u1_33 w93 => w93.elim fun u2_34 w94 => w94.elim fun u3_35 w95 => w95.elim fun u4_36 w96 => w96.elim fun u5_37 w97 => w97.elim fun u6_38 w98 => w98.elim fun u7_39 w99 => w99.elim fun wp2_40 w910 => w910.elim fun g1_41 w911 => w911.elim fun g2_42 w912 => w912.elim fun sa_43 w913 => w913.elim fun wa_44 w914 => w914.elim fun hbs9 w915 => w915.elim fun h_45 w916 => w916.elim fun h_46 w917 => w917.elim fun h_47 w918 => w918.elim fun h_48 h_49 => ?_
      clear hw w90 w91 w92 w93 w94 w95 w96 w97 w98 w99 w910 w911 w912 w913 w914 w915 w916 w917 w918
      subst hbs9
      have G : zS T A s.heap s [wc2_30, wp2_40, z] _ _ := G
      refine lv_istore (lv' := [(4, .int r_50), (0, .ref h), (1, .int d), (2, .int x), (3, .int y)]) hx hb dX1_does_55 hl (by decide) rfl (fun ls hl => ?_)
      refine lv_goto (tgt := 117) hx hb dX1_does_57 (by decide) ?_
      refine lv_iload hx hb dX1_does_117 (lv_at hl 0 rfl) ?_
      refine lv_if_eq (tgt := 136) hx hb dX1_does_119 (by decide) (fun c_51 => ?_) (fun c_51 => ?_)
      · have c_51n : r_50.toInt = (0 : Int) := (fa_eq _ _).mp c_51
        have hs := (h_48).resolve_left (fun q8 => by have e8 : r_50.toInt = 1 := (by rw [q8.1]; rfl); omega)
        refine lv_iload hx hb dX1_does_136 (lv_at hl 0 rfl) ?_
        exact z_zret C hr hlocks G (Nat.le_of_ble_eq_true rfl) (Nat.le_of_ble_eq_true rfl) dX1_does_138 (by rcases h_48 with q | q <;> rw [q.1] <;> rfl) ⟨wc2_30, gw_31, u0_32, u1_33, u2_34, u3_35, u4_36, u5_37, u6_38, u7_39, wp2_40, g1_41, g2_42, sa_43, wa_44, rfl, h_45, h_46, (show zP3 g1_41 f3 from h_47), (Or.inr ⟨hs.1, (zDe_k1 (by omega)).trans hs.2.1, hs.2.2.1, hs.2.2.2.1, hs.2.2.2.2.1, hs.2.2.2.2.2.1, hs.2.2.2.2.2.2, h_49.1⟩), h_49.2⟩
      · have c_51n : ¬ r_50.toInt = (0 : Int) := fun q => c_51 ((fa_eq _ _).mpr q)
        have hs := (h_48).resolve_right (fun q8 => by have e8 : r_50.toInt = 0 := (by rw [q8.1]; rfl); omega)
        refine lv_aload_n hx hb dX1_does_122 rfl (lv_at hl 1 rfl) ?_
        refine lv_dup hx hb dX1_does_123 rfl ?_
        refine h_45.elim fun a1_52 hbs9 => ?_
        clear h_45
        subst hbs9
        have G : zS T A s.heap s [[(h, .inr (1, [.ref po, .ref a1_52, .int u0_32, .ref la, .int u1_33, .int u2_34, .int u3_35, .int u4_36, .int u5_37, .int u6_38, .int u7_39]))], [(a1_52, .inl (T.2 0, 7, .inl gw_31))], wp2_40, z] _ _ := G.re rfl
        refine z_get C G clX1 0 rfl 5 (by decide) m_fl_RX1_41 rfl dX1_does_124 ?_
        refine lv_iconst (v := 1) hx hb dX1_does_127 (by decide) ?_
        refine lv_iadd hx hb dX1_does_128 ?_
        refine z_put C G clX1 0 rfl 5 (by decide) m_fl_RX1_41 rfl rfl rfl (Nat.le_of_ble_eq_true rfl) dX1_does_129 (fun H locs G => ?_)
        have G : zS T A s.heap s [[(h, .inr (1, [.ref po, .ref a1_52, .int u0_32, .ref la, .int u1_33, .int (u2_34 + 1), .int u3_35, .int u4_36, .int u5_37, .int u6_38, .int u7_39]))], [(a1_52, .inl (T.2 0, 7, .inl gw_31))], wp2_40, z] _ _ := G
        refine lv_aload_n hx hb dX1_does_132 rfl (lv_at hl 1 rfl) ?_
        have hw_53 : bCourse T h po la gw_31 u0_32 u1_33 (u2_34 + 1) u3_35 u4_36 u5_37 u6_38 u7_39 [(h, .inr (1, [.ref po, .ref a1_52, .int u0_32, .ref la, .int u1_33, .int (u2_34 + 1), .int u3_35, .int u4_36, .int u5_37, .int u6_38, .int u7_39])), (a1_52, .inl (T.2 0, 7, .inl gw_31))] := ⟨a1_52, rfl⟩
        have G : zS T A s.heap s [[(h, .inr (1, [.ref po, .ref a1_52, .int u0_32, .ref la, .int u1_33, .int (u2_34 + 1), .int u3_35, .int u4_36, .int u5_37, .int u6_38, .int u7_39])), (a1_52, .inl (T.2 0, 7, .inl gw_31))], wp2_40, z] _ _ := G.re rfl
        refine z_Vv (bc := [[(h, .inr (1, [.ref po, .ref a1_52, .int u0_32, .ref la, .int u1_33, .int (u2_34 + 1), .int u3_35, .int u4_36, .int u5_37, .int u6_38, .int u7_39])), (a1_52, .inl (T.2 0, 7, .inl gw_31))], z]) (br := [wp2_40]) (As := []) (rest := []) C G (c_lookAtCrowd l T h po la gw_31 u0_32 u1_33 (u2_34 + 1) u3_35 u4_36 u5_37 u6_38 u7_39 ([(h, .inr (1, [.ref po, .ref a1_52, .int u0_32, .ref la, .int u1_33, .int (u2_34 + 1), .int u3_35, .int u4_36, .int u5_37, .int u6_38, .int u7_39])), (a1_52, .inl (T.2 0, 7, .inl gw_31))]) cr inn k1 k2 k3 k4 z hw_53 hz (by first | with_reducible assumption | with_reducible rfl | omega | assumption | rfl)) (kV_RX1_56 C.2.2.2.2 (Nat.le_of_ble_eq_true rfl) (Nat.le_of_ble_eq_true rfl)) [0, 2] [1] rfl rfl (ci := 1) (qc := (RX1, TX1, 11)) rfl rfl (List.mem_flatten.mpr ⟨_, List.mem_of_getElem? (i := 0) rfl, (bCourse_mem hw_53).choose_spec⟩) rfl rfl hl.1 dX1_does_133 (Nat.le_of_ble_eq_true rfl) (Nat.le_of_ble_eq_true rfl) (fun b1 H locs hw G => ?_)
        refine hw.elim fun wc2_54 w90 => w90.elim fun u6_55 w91 => w91.elim fun hbs9 h_56 => ?_
        clear hw w90 w91
        subst hbs9
        have G : zS T A s.heap s [wp2_40, wc2_54, z] _ _ := G
        refine lv_iload hx hb dX1_does_136 (lv_at hl 0 rfl) ?_
        have G := G.sub (bs' := [wc2_54, wp2_40, z]) [1, 0, 2] rfl
        exact z_zret C hr hlocks G (Nat.le_of_ble_eq_true rfl) (Nat.le_of_ble_eq_true rfl) dX1_does_138 (by rcases h_48 with q | q <;> rw [q.1] <;> rfl) ⟨wc2_54, gw_31, u0_32, u1_33, (u2_34 + 1), u3_35, u4_36, u5_37, u6_55, u7_39, wp2_40, g1_41, g2_42, sa_43, wa_44, rfl, h_56, h_46, (show zP3 g1_41 f3 from h_47), (Or.inl ⟨hs.1, (zDe_k1 (by omega)).trans hs.2, by rw [h_49.1]⟩), h_49.2⟩
    · refine lv_tableIn (tgt := 60) hx hb dX1_does_1 (by omega) (by omega) (by rw [c_1]; rfl) (by decide) ?_
      refine lv_aload_n hx hb dX1_does_60 rfl (lv_at hl 0 rfl) ?_
      refine hc.elim fun a1_58 hbs9 => ?_
      clear hc
      subst hbs9
      have G : zS T A s.heap s [[(h, .inr (1, [.ref po, .ref a1_58, .int v0, .ref la, .int v1, .int v2, .int v3, .int v4, .int v5, .int v6, .int v7]))], [(a1_58, .inl (T.2 0, 7, .inl fw))], wp, z] _ _ := G.re rfl
      refine z_get C G clX1 0 rfl 0 (by decide) m_fl_RX1_12 rfl dX1_does_61 ?_
      refine lv_iload_n hx hb dX1_does_64 rfl (lv_at hl 2 rfl) ?_
      refine z_Vi (bc := [wp]) (br := [[(h, .inr (1, [.ref po, .ref a1_58, .int v0, .ref la, .int v1, .int v2, .int v3, .int v4, .int v5, .int v6, .int v7]))], [(a1_58, .inl (T.2 0, 7, .inl fw))], z]) (As := [.int x]) (rest := []) C G (c_turn l T po la f1 f2 f3 st wh wp x hp hP) (kV_RX1_99 C.2.2.2.2 (Nat.le_of_ble_eq_true rfl) (Nat.le_of_ble_eq_true rfl)) [2] [0, 1, 3] rfl rfl (ci := 6) (qc := (RX6, TX6, 6)) rfl rfl (List.mem_flatten.mpr ⟨_, List.mem_of_getElem? (i := 0) rfl, (bPosts_mem hp).choose_spec⟩) rfl rfl hl.1 dX1_does_65 (Nat.le_of_ble_eq_true rfl) (Nat.le_of_ble_eq_true rfl) (fun r_64 b1 H locs hw G => ?_)
      refine hw.elim fun w2_59 w90 => w90.elim fun g1_60 w91 => w91.elim fun hbs9 w92 => w92.elim fun h_61 w93 => w93.elim fun h_62 h_63 => ?_
      clear hw w90 w91 w92 w93
      subst hbs9
      have G : zS T A s.heap s [[(h, .inr (1, [.ref po, .ref a1_58, .int v0, .ref la, .int v1, .int v2, .int v3, .int v4, .int v5, .int v6, .int v7]))], [(a1_58, .inl (T.2 0, 7, .inl fw))], z, w2_59] _ _ := G
      subst h_61
      have hQt : zP3 g1_60 f3 := by rw [h_63]; exact zPost_I hP _
      refine lv_iconst (v := (-1)) hx hb dX1_does_68 (by decide) ?_
      refine lv_icmp_eq (tgt := 76) hx hb dX1_does_69 (by decide) (fun c_65 => ?_) (fun c_65 => ?_)
      · have c_65n : (zTurn f1 f2 f3 x).toInt = (-1 : Int) := (fa_eq _ _).mp c_65
        refine lv_iconst (v := 0) hx hb dX1_does_76 (by decide) ?_
        refine lv_istore (lv' := [(4, .int 0), (0, .ref h), (1, .int d), (2, .int x), (3, .int y)]) hx hb dX1_does_77 hl (by decide) rfl (fun ls hl => ?_)
        refine lv_goto (tgt := 117) hx hb dX1_does_79 (by decide) ?_
        refine lv_iload hx hb dX1_does_117 (lv_at hl 0 rfl) ?_
        refine lv_if_eq (tgt := 136) hx hb dX1_does_119 (by decide) (fun _ => ?_) (fun q => absurd (by decide) q)
        refine lv_iload hx hb dX1_does_136 (lv_at hl 0 rfl) ?_
        have hw_66 : bCourse T h po la fw v0 v1 v2 v3 v4 v5 v6 v7 [(h, .inr (1, [.ref po, .ref a1_58, .int v0, .ref la, .int v1, .int v2, .int v3, .int v4, .int v5, .int v6, .int v7])), (a1_58, .inl (T.2 0, 7, .inl fw))] := ⟨a1_58, rfl⟩
        have G : zS T A s.heap s [[(h, .inr (1, [.ref po, .ref a1_58, .int v0, .ref la, .int v1, .int v2, .int v3, .int v4, .int v5, .int v6, .int v7])), (a1_58, .inl (T.2 0, 7, .inl fw))], z, w2_59] _ _ := G.re rfl
        have G := G.sub (bs' := [[(h, .inr (1, [.ref po, .ref a1_58, .int v0, .ref la, .int v1, .int v2, .int v3, .int v4, .int v5, .int v6, .int v7])), (a1_58, .inl (T.2 0, 7, .inl fw))], w2_59, z]) [0, 2, 1] rfl
        exact z_zret C hr hlocks G (Nat.le_of_ble_eq_true rfl) (Nat.le_of_ble_eq_true rfl) dX1_does_138 rfl ⟨([(h, .inr (1, [.ref po, .ref a1_58, .int v0, .ref la, .int v1, .int v2, .int v3, .int v4, .int v5, .int v6, .int v7])), (a1_58, .inl (T.2 0, 7, .inl fw))]), fw, v0, v1, v2, v3, v4, v5, v6, v7, w2_59, g1_60, f2, st, wh, rfl, hw_66, h_62, hQt, (Or.inr ⟨rfl, (zDe_k2 (by omega)).trans (zTuF_n (by assumption) h_63).1, (zTuF_n (cr := cr) (H := fw) (st := v0) (nv := v1) (by assumption) h_63).2, rfl, rfl, rfl, rfl, rfl⟩), rfl⟩
      · have c_65n : ¬ (zTurn f1 f2 f3 x).toInt = (-1 : Int) := fun q => c_65 ((fa_eq _ _).mpr q)
        refine lv_iconst (v := 1) hx hb dX1_does_72 (by decide) ?_
        refine lv_goto (tgt := 77) hx hb dX1_does_73 (by decide) ?_
        refine lv_istore (lv' := [(4, .int 1), (0, .ref h), (1, .int d), (2, .int x), (3, .int y)]) hx hb dX1_does_77 hl (by decide) rfl (fun ls hl => ?_)
        refine lv_goto (tgt := 117) hx hb dX1_does_79 (by decide) ?_
        refine lv_iload hx hb dX1_does_117 (lv_at hl 0 rfl) ?_
        refine lv_if_eq (tgt := 136) hx hb dX1_does_119 (by decide) (fun q => absurd q (by decide)) (fun _ => ?_)
        refine lv_aload_n hx hb dX1_does_122 rfl (lv_at hl 1 rfl) ?_
        refine lv_dup hx hb dX1_does_123 rfl ?_
        refine z_get C G clX1 0 rfl 5 (by decide) m_fl_RX1_41 rfl dX1_does_124 ?_
        refine lv_iconst (v := 1) hx hb dX1_does_127 (by decide) ?_
        refine lv_iadd hx hb dX1_does_128 ?_
        refine z_put C G clX1 0 rfl 5 (by decide) m_fl_RX1_41 rfl rfl rfl (Nat.le_of_ble_eq_true rfl) dX1_does_129 (fun H locs G => ?_)
        have G : zS T A s.heap s [[(h, .inr (1, [.ref po, .ref a1_58, .int v0, .ref la, .int v1, .int (v2 + 1), .int v3, .int v4, .int v5, .int v6, .int v7]))], [(a1_58, .inl (T.2 0, 7, .inl fw))], z, w2_59] _ _ := G
        refine lv_aload_n hx hb dX1_does_132 rfl (lv_at hl 1 rfl) ?_
        have hw_67 : bCourse T h po la fw v0 v1 (v2 + 1) v3 v4 v5 v6 v7 [(h, .inr (1, [.ref po, .ref a1_58, .int v0, .ref la, .int v1, .int (v2 + 1), .int v3, .int v4, .int v5, .int v6, .int v7])), (a1_58, .inl (T.2 0, 7, .inl fw))] := ⟨a1_58, rfl⟩
        have G : zS T A s.heap s [[(h, .inr (1, [.ref po, .ref a1_58, .int v0, .ref la, .int v1, .int (v2 + 1), .int v3, .int v4, .int v5, .int v6, .int v7])), (a1_58, .inl (T.2 0, 7, .inl fw))], z, w2_59] _ _ := G.re rfl
        refine z_Vv (bc := [[(h, .inr (1, [.ref po, .ref a1_58, .int v0, .ref la, .int v1, .int (v2 + 1), .int v3, .int v4, .int v5, .int v6, .int v7])), (a1_58, .inl (T.2 0, 7, .inl fw))], z]) (br := [w2_59]) (As := []) (rest := []) C G (c_lookAtCrowd l T h po la fw v0 v1 (v2 + 1) v3 v4 v5 v6 v7 ([(h, .inr (1, [.ref po, .ref a1_58, .int v0, .ref la, .int v1, .int (v2 + 1), .int v3, .int v4, .int v5, .int v6, .int v7])), (a1_58, .inl (T.2 0, 7, .inl fw))]) cr inn k1 k2 k3 k4 z hw_67 hz (by first | with_reducible assumption | with_reducible rfl | omega | assumption | rfl)) (kV_RX1_56 C.2.2.2.2 (Nat.le_of_ble_eq_true rfl) (Nat.le_of_ble_eq_true rfl)) [0, 1] [2] rfl rfl (ci := 1) (qc := (RX1, TX1, 11)) rfl rfl (List.mem_flatten.mpr ⟨_, List.mem_of_getElem? (i := 0) rfl, (bCourse_mem hw_67).choose_spec⟩) rfl rfl hl.1 dX1_does_133 (Nat.le_of_ble_eq_true rfl) (Nat.le_of_ble_eq_true rfl) (fun b1 H locs hw G => ?_)
        refine hw.elim fun wc2_68 w90 => w90.elim fun u6_69 w91 => w91.elim fun hbs9 h_70 => ?_
        clear hw w90 w91
        subst hbs9
        have G : zS T A s.heap s [w2_59, wc2_68, z] _ _ := G
        refine lv_iload hx hb dX1_does_136 (lv_at hl 0 rfl) ?_
        have G := G.sub (bs' := [wc2_68, w2_59, z]) [1, 0, 2] rfl
        exact z_zret C hr hlocks G (Nat.le_of_ble_eq_true rfl) (Nat.le_of_ble_eq_true rfl) dX1_does_138 rfl ⟨wc2_68, fw, v0, v1, (v2 + 1), v3, v4, v5, u6_69, v7, w2_59, g1_60, f2, st, wh, rfl, h_70, h_62, hQt, (Or.inl ⟨rfl, (zDe_k2 (by omega)).trans (zTuF_i ⟨zTurn_has hP hW (by assumption), by assumption⟩ h_63), rfl⟩), rfl⟩
    · refine lv_tableIn (tgt := 82) hx hb dX1_does_1 (by omega) (by omega) (by rw [c_1]; rfl) (by decide) ?_
      refine lv_aload_n hx hb dX1_does_82 rfl (lv_at hl 0 rfl) ?_
      refine lv_iload_n hx hb dX1_does_83 rfl (lv_at hl 2 rfl) ?_
      refine z_Vi (bc := [wc, z]) (br := [wp]) (As := [.int x]) (rest := []) C G (c_f_Course_add l T h po la fw v0 v1 v2 v3 v4 v5 v6 v7 wc cr inn k1 k2 k3 k4 z x hc hz) (kV_RX1_102 C.2.2.2.2 (Nat.le_of_ble_eq_true rfl) (Nat.le_of_ble_eq_true rfl)) [0, 2] [1] rfl rfl (ci := 1) (qc := (RX1, TX1, 11)) rfl rfl (List.mem_flatten.mpr ⟨_, List.mem_of_getElem? (i := 0) rfl, (bCourse_mem hc).choose_spec⟩) rfl rfl hl.1 dX1_does_84 (Nat.le_of_ble_eq_true rfl) (Nat.le_of_ble_eq_true rfl) (fun r_76 b1 H locs hw G => ?_)
      refine hw.elim fun wc2_72 w90 => w90.elim fun gw_73 w91 => w91.elim fun hbs9 w92 => w92.elim fun h_74 h_75 => ?_
      clear hw w90 w91 w92
      subst hbs9
      have G : zS T A s.heap s [wp, wc2_72, z] _ _ := G
      refine lv_istore (lv' := [(4, .int r_76), (0, .ref h), (1, .int d), (2, .int x), (3, .int y)]) hx hb dX1_does_87 hl (by decide) rfl (fun ls hl => ?_)
      refine lv_goto (tgt := 117) hx hb dX1_does_89 (by decide) ?_
      refine lv_iload hx hb dX1_does_117 (lv_at hl 0 rfl) ?_
      refine lv_if_eq (tgt := 136) hx hb dX1_does_119 (by decide) (fun c_77 => ?_) (fun c_77 => ?_)
      · have c_77n : r_76.toInt = (0 : Int) := (fa_eq _ _).mp c_77
        have hs := (h_75 f1 f2).resolve_left (fun q8 => by have e8 : r_76.toInt = 1 := (by rw [q8.1]; rfl); omega)
        refine lv_iload hx hb dX1_does_136 (lv_at hl 0 rfl) ?_
        have G := G.sub (bs' := [wc2_72, wp, z]) [1, 0, 2] rfl
        exact z_zret C hr hlocks G (Nat.le_of_ble_eq_true rfl) (Nat.le_of_ble_eq_true rfl) dX1_does_138 (by rcases h_75 f1 f2 with q | q <;> rw [q.1] <;> rfl) ⟨wc2_72, gw_73, v0, v1, v2, v3, v4, v5, v6, v7, wp, f1, f2, st, wh, rfl, h_74, hp, hP, (Or.inr ⟨hs.1, (zDe_k3 (by omega)).trans hs.2.1, rfl, rfl, hs.2.2, rfl, rfl, rfl⟩), rfl⟩
      · have c_77n : ¬ r_76.toInt = (0 : Int) := fun q => c_77 ((fa_eq _ _).mpr q)
        have hs := (h_75 f1 f2).resolve_right (fun q8 => by have e8 : r_76.toInt = 0 := (by rw [q8.1]; rfl); omega)
        refine lv_aload_n hx hb dX1_does_122 rfl (lv_at hl 1 rfl) ?_
        refine lv_dup hx hb dX1_does_123 rfl ?_
        refine h_74.elim fun a1_78 hbs9 => ?_
        clear h_74
        subst hbs9
        have G : zS T A s.heap s [wp, [(h, .inr (1, [.ref po, .ref a1_78, .int v0, .ref la, .int v1, .int v2, .int v3, .int v4, .int v5, .int v6, .int v7]))], [(a1_78, .inl (T.2 0, 7, .inl gw_73))], z] _ _ := G.re rfl
        refine z_get C G clX1 1 rfl 5 (by decide) m_fl_RX1_41 rfl dX1_does_124 ?_
        refine lv_iconst (v := 1) hx hb dX1_does_127 (by decide) ?_
        refine lv_iadd hx hb dX1_does_128 ?_
        refine z_put C G clX1 1 rfl 5 (by decide) m_fl_RX1_41 rfl rfl rfl (Nat.le_of_ble_eq_true rfl) dX1_does_129 (fun H locs G => ?_)
        have G : zS T A s.heap s [wp, [(h, .inr (1, [.ref po, .ref a1_78, .int v0, .ref la, .int v1, .int (v2 + 1), .int v3, .int v4, .int v5, .int v6, .int v7]))], [(a1_78, .inl (T.2 0, 7, .inl gw_73))], z] _ _ := G
        refine lv_aload_n hx hb dX1_does_132 rfl (lv_at hl 1 rfl) ?_
        have hw_79 : bCourse T h po la gw_73 v0 v1 (v2 + 1) v3 v4 v5 v6 v7 [(h, .inr (1, [.ref po, .ref a1_78, .int v0, .ref la, .int v1, .int (v2 + 1), .int v3, .int v4, .int v5, .int v6, .int v7])), (a1_78, .inl (T.2 0, 7, .inl gw_73))] := ⟨a1_78, rfl⟩
        have G : zS T A s.heap s [wp, [(h, .inr (1, [.ref po, .ref a1_78, .int v0, .ref la, .int v1, .int (v2 + 1), .int v3, .int v4, .int v5, .int v6, .int v7])), (a1_78, .inl (T.2 0, 7, .inl gw_73))], z] _ _ := G.re rfl
        refine z_Vv (bc := [[(h, .inr (1, [.ref po, .ref a1_78, .int v0, .ref la, .int v1, .int (v2 + 1), .int v3, .int v4, .int v5, .int v6, .int v7])), (a1_78, .inl (T.2 0, 7, .inl gw_73))], z]) (br := [wp]) (As := []) (rest := []) C G (c_lookAtCrowd l T h po la gw_73 v0 v1 (v2 + 1) v3 v4 v5 v6 v7 ([(h, .inr (1, [.ref po, .ref a1_78, .int v0, .ref la, .int v1, .int (v2 + 1), .int v3, .int v4, .int v5, .int v6, .int v7])), (a1_78, .inl (T.2 0, 7, .inl gw_73))]) cr inn k1 k2 k3 k4 z hw_79 hz (by first | with_reducible assumption | with_reducible rfl | omega | assumption | rfl)) (kV_RX1_56 C.2.2.2.2 (Nat.le_of_ble_eq_true rfl) (Nat.le_of_ble_eq_true rfl)) [1, 2] [0] rfl rfl (ci := 1) (qc := (RX1, TX1, 11)) rfl rfl (List.mem_flatten.mpr ⟨_, List.mem_of_getElem? (i := 0) rfl, (bCourse_mem hw_79).choose_spec⟩) rfl rfl hl.1 dX1_does_133 (Nat.le_of_ble_eq_true rfl) (Nat.le_of_ble_eq_true rfl) (fun b1 H locs hw G => ?_)
        refine hw.elim fun wc2_80 w90 => w90.elim fun u6_81 w91 => w91.elim fun hbs9 h_82 => ?_
        clear hw w90 w91
        subst hbs9
        have G : zS T A s.heap s [wp, wc2_80, z] _ _ := G
        refine lv_iload hx hb dX1_does_136 (lv_at hl 0 rfl) ?_
        have G := G.sub (bs' := [wc2_80, wp, z]) [1, 0, 2] rfl
        exact z_zret C hr hlocks G (Nat.le_of_ble_eq_true rfl) (Nat.le_of_ble_eq_true rfl) dX1_does_138 (by rcases h_75 f1 f2 with q | q <;> rw [q.1] <;> rfl) ⟨wc2_80, gw_73, v0, v1, (v2 + 1), v3, v4, v5, u6_81, v7, wp, f1, f2, st, wh, rfl, h_82, hp, hP, (Or.inl ⟨hs.1, (zDe_k3 (by omega)).trans hs.2, rfl⟩), rfl⟩
    · refine lv_tableIn (tgt := 92) hx hb dX1_does_1 (by omega) (by omega) (by rw [c_1]; rfl) (by decide) ?_
      refine lv_aload_n hx hb dX1_does_92 rfl (lv_at hl 0 rfl) ?_
      refine lv_iload_n hx hb dX1_does_93 rfl (lv_at hl 2 rfl) ?_
      refine lv_iload_n hx hb dX1_does_94 rfl (lv_at hl 3 rfl) ?_
      refine z_Vi (bc := [wc, wp, z]) (br := []) (As := [.int x, .int y]) (rest := []) C G (c_f_Course_shut l T h po la fw v0 v1 v2 v3 v4 v5 v6 v7 wc f1 f2 f3 st wh wp cr inn k1 k2 k3 k4 z x y hc hp hz) (kV_RX1_105 C.2.2.2.2 (Nat.le_of_ble_eq_true rfl) (Nat.le_of_ble_eq_true rfl)) [0, 1, 2] [] rfl rfl (ci := 1) (qc := (RX1, TX1, 11)) rfl rfl (List.mem_flatten.mpr ⟨_, List.mem_of_getElem? (i := 0) rfl, (bCourse_mem hc).choose_spec⟩) rfl rfl hl.1 dX1_does_95 (Nat.le_of_ble_eq_true rfl) (Nat.le_of_ble_eq_true rfl) (fun r_88 b1 H locs hw G => ?_)
      refine hw.elim fun wp2_84 w90 => w90.elim fun g2_85 w91 => w91.elim fun hbs9 w92 => w92.elim fun h_86 h_87 => ?_
      clear hw w90 w91 w92
      subst hbs9
      have G : zS T A s.heap s [wc, wp2_84, z] _ _ := G
      refine lv_istore (lv' := [(4, .int r_88), (0, .ref h), (1, .int d), (2, .int x), (3, .int y)]) hx hb dX1_does_98 hl (by decide) rfl (fun ls hl => ?_)
      refine lv_goto (tgt := 117) hx hb dX1_does_100 (by decide) ?_
      refine lv_iload hx hb dX1_does_117 (lv_at hl 0 rfl) ?_
      refine lv_if_eq (tgt := 136) hx hb dX1_does_119 (by decide) (fun c_89 => ?_) (fun c_89 => ?_)
      · have c_89n : r_88.toInt = (0 : Int) := (fa_eq _ _).mp c_89
        have hs := (h_87 fw v0 v1).resolve_left (fun q8 => by have e8 : r_88.toInt = 1 := (by rw [q8.1]; rfl); omega)
        refine lv_iload hx hb dX1_does_136 (lv_at hl 0 rfl) ?_
        exact z_zret C hr hlocks G (Nat.le_of_ble_eq_true rfl) (Nat.le_of_ble_eq_true rfl) dX1_does_138 (by rcases h_87 fw v0 v1 with q | q <;> rw [q.1] <;> rfl) ⟨wc, fw, v0, v1, v2, v3, v4, v5, v6, v7, wp2_84, f1, g2_85, st, wh, rfl, hc, h_86, hP, (Or.inr ⟨hs.1, (zDe_k4 (by omega)).trans hs.2.1, rfl, hs.2.2, rfl, rfl, rfl, rfl⟩), rfl⟩
      · have c_89n : ¬ r_88.toInt = (0 : Int) := fun q => c_89 ((fa_eq _ _).mpr q)
        have hs := (h_87 fw v0 v1).resolve_right (fun q8 => by have e8 : r_88.toInt = 0 := (by rw [q8.1]; rfl); omega)
        refine lv_aload_n hx hb dX1_does_122 rfl (lv_at hl 1 rfl) ?_
        refine lv_dup hx hb dX1_does_123 rfl ?_
        refine hc.elim fun a1_90 hbs9 => ?_
        clear hc
        subst hbs9
        have G : zS T A s.heap s [[(h, .inr (1, [.ref po, .ref a1_90, .int v0, .ref la, .int v1, .int v2, .int v3, .int v4, .int v5, .int v6, .int v7]))], [(a1_90, .inl (T.2 0, 7, .inl fw))], wp2_84, z] _ _ := G.re rfl
        refine z_get C G clX1 0 rfl 5 (by decide) m_fl_RX1_41 rfl dX1_does_124 ?_
        refine lv_iconst (v := 1) hx hb dX1_does_127 (by decide) ?_
        refine lv_iadd hx hb dX1_does_128 ?_
        refine z_put C G clX1 0 rfl 5 (by decide) m_fl_RX1_41 rfl rfl rfl (Nat.le_of_ble_eq_true rfl) dX1_does_129 (fun H locs G => ?_)
        have G : zS T A s.heap s [[(h, .inr (1, [.ref po, .ref a1_90, .int v0, .ref la, .int v1, .int (v2 + 1), .int v3, .int v4, .int v5, .int v6, .int v7]))], [(a1_90, .inl (T.2 0, 7, .inl fw))], wp2_84, z] _ _ := G
        refine lv_aload_n hx hb dX1_does_132 rfl (lv_at hl 1 rfl) ?_
        have hw_91 : bCourse T h po la fw v0 v1 (v2 + 1) v3 v4 v5 v6 v7 [(h, .inr (1, [.ref po, .ref a1_90, .int v0, .ref la, .int v1, .int (v2 + 1), .int v3, .int v4, .int v5, .int v6, .int v7])), (a1_90, .inl (T.2 0, 7, .inl fw))] := ⟨a1_90, rfl⟩
        have G : zS T A s.heap s [[(h, .inr (1, [.ref po, .ref a1_90, .int v0, .ref la, .int v1, .int (v2 + 1), .int v3, .int v4, .int v5, .int v6, .int v7])), (a1_90, .inl (T.2 0, 7, .inl fw))], wp2_84, z] _ _ := G.re rfl
        refine z_Vv (bc := [[(h, .inr (1, [.ref po, .ref a1_90, .int v0, .ref la, .int v1, .int (v2 + 1), .int v3, .int v4, .int v5, .int v6, .int v7])), (a1_90, .inl (T.2 0, 7, .inl fw))], z]) (br := [wp2_84]) (As := []) (rest := []) C G (c_lookAtCrowd l T h po la fw v0 v1 (v2 + 1) v3 v4 v5 v6 v7 ([(h, .inr (1, [.ref po, .ref a1_90, .int v0, .ref la, .int v1, .int (v2 + 1), .int v3, .int v4, .int v5, .int v6, .int v7])), (a1_90, .inl (T.2 0, 7, .inl fw))]) cr inn k1 k2 k3 k4 z hw_91 hz (by first | with_reducible assumption | with_reducible rfl | omega | assumption | rfl)) (kV_RX1_56 C.2.2.2.2 (Nat.le_of_ble_eq_true rfl) (Nat.le_of_ble_eq_true rfl)) [0, 2] [1] rfl rfl (ci := 1) (qc := (RX1, TX1, 11)) rfl rfl (List.mem_flatten.mpr ⟨_, List.mem_of_getElem? (i := 0) rfl, (bCourse_mem hw_91).choose_spec⟩) rfl rfl hl.1 dX1_does_133 (Nat.le_of_ble_eq_true rfl) (Nat.le_of_ble_eq_true rfl) (fun b1 H locs hw G => ?_)
        refine hw.elim fun wc2_92 w90 => w90.elim fun u6_93 w91 => w91.elim fun hbs9 h_94 => ?_
        clear hw w90 w91
        subst hbs9
        have G : zS T A s.heap s [wp2_84, wc2_92, z] _ _ := G
        refine lv_iload hx hb dX1_does_136 (lv_at hl 0 rfl) ?_
        have G := G.sub (bs' := [wc2_92, wp2_84, z]) [1, 0, 2] rfl
        exact z_zret C hr hlocks G (Nat.le_of_ble_eq_true rfl) (Nat.le_of_ble_eq_true rfl) dX1_does_138 (by rcases h_87 fw v0 v1 with q | q <;> rw [q.1] <;> rfl) ⟨wc2_92, fw, v0, v1, (v2 + 1), v3, v4, v5, u6_93, v7, wp2_84, f1, g2_85, st, wh, rfl, h_94, h_86, hP, (Or.inl ⟨hs.1, (zDe_k4 (by omega)).trans hs.2, rfl⟩), rfl⟩
    · refine lv_tableIn (tgt := 103) hx hb dX1_does_1 (by omega) (by omega) (by rw [c_1]; rfl) (by decide) ?_
      refine lv_aload_n hx hb dX1_does_103 rfl (lv_at hl 0 rfl) ?_
      refine lv_iload_n hx hb dX1_does_104 rfl (lv_at hl 2 rfl) ?_
      refine lv_iload_n hx hb dX1_does_105 rfl (lv_at hl 3 rfl) ?_
      refine z_Vi (bc := [wc, wp, z]) (br := []) (As := [.int x, .int y]) (rest := []) C G (c_f_Course_open l T h po la fw v0 v1 v2 v3 v4 v5 v6 v7 wc f1 f2 f3 st wh wp cr inn k1 k2 k3 k4 z x y hc hp hz) (kV_RX1_109 C.2.2.2.2 (Nat.le_of_ble_eq_true rfl) (Nat.le_of_ble_eq_true rfl)) [0, 1, 2] [] rfl rfl (ci := 1) (qc := (RX1, TX1, 11)) rfl rfl (List.mem_flatten.mpr ⟨_, List.mem_of_getElem? (i := 0) rfl, (bCourse_mem hc).choose_spec⟩) rfl rfl hl.1 dX1_does_106 (Nat.le_of_ble_eq_true rfl) (Nat.le_of_ble_eq_true rfl) (fun r_100 b1 H locs hw G => ?_)
      refine hw.elim fun wp2_96 w90 => w90.elim fun g2_97 w91 => w91.elim fun hbs9 w92 => w92.elim fun h_98 h_99 => ?_
      clear hw w90 w91 w92
      subst hbs9
      have G : zS T A s.heap s [wc, wp2_96, z] _ _ := G
      refine lv_istore (lv' := [(4, .int r_100), (0, .ref h), (1, .int d), (2, .int x), (3, .int y)]) hx hb dX1_does_109 hl (by decide) rfl (fun ls hl => ?_)
      refine lv_goto (tgt := 117) hx hb dX1_does_111 (by decide) ?_
      refine lv_iload hx hb dX1_does_117 (lv_at hl 0 rfl) ?_
      refine lv_if_eq (tgt := 136) hx hb dX1_does_119 (by decide) (fun c_101 => ?_) (fun c_101 => ?_)
      · have c_101n : r_100.toInt = (0 : Int) := (fa_eq _ _).mp c_101
        have hs := (h_99 fw v0 v1).resolve_left (fun q8 => by have e8 : r_100.toInt = 1 := (by rw [q8.1]; rfl); omega)
        refine lv_iload hx hb dX1_does_136 (lv_at hl 0 rfl) ?_
        exact z_zret C hr hlocks G (Nat.le_of_ble_eq_true rfl) (Nat.le_of_ble_eq_true rfl) dX1_does_138 (by rcases h_99 fw v0 v1 with q | q <;> rw [q.1] <;> rfl) ⟨wc, fw, v0, v1, v2, v3, v4, v5, v6, v7, wp2_96, f1, g2_97, st, wh, rfl, hc, h_98, hP, (Or.inr ⟨hs.1, (zDe_k5 (by omega)).trans hs.2.1, rfl, hs.2.2, rfl, rfl, rfl, rfl⟩), rfl⟩
      · have c_101n : ¬ r_100.toInt = (0 : Int) := fun q => c_101 ((fa_eq _ _).mpr q)
        have hs := (h_99 fw v0 v1).resolve_right (fun q8 => by have e8 : r_100.toInt = 0 := (by rw [q8.1]; rfl); omega)
        refine lv_aload_n hx hb dX1_does_122 rfl (lv_at hl 1 rfl) ?_
        refine lv_dup hx hb dX1_does_123 rfl ?_
        refine hc.elim fun a1_102 hbs9 => ?_
        clear hc
        subst hbs9
        have G : zS T A s.heap s [[(h, .inr (1, [.ref po, .ref a1_102, .int v0, .ref la, .int v1, .int v2, .int v3, .int v4, .int v5, .int v6, .int v7]))], [(a1_102, .inl (T.2 0, 7, .inl fw))], wp2_96, z] _ _ := G.re rfl
        refine z_get C G clX1 0 rfl 5 (by decide) m_fl_RX1_41 rfl dX1_does_124 ?_
        refine lv_iconst (v := 1) hx hb dX1_does_127 (by decide) ?_
        refine lv_iadd hx hb dX1_does_128 ?_
        refine z_put C G clX1 0 rfl 5 (by decide) m_fl_RX1_41 rfl rfl rfl (Nat.le_of_ble_eq_true rfl) dX1_does_129 (fun H locs G => ?_)
        have G : zS T A s.heap s [[(h, .inr (1, [.ref po, .ref a1_102, .int v0, .ref la, .int v1, .int (v2 + 1), .int v3, .int v4, .int v5, .int v6, .int v7]))], [(a1_102, .inl (T.2 0, 7, .inl fw))], wp2_96, z] _ _ := G
        refine lv_aload_n hx hb dX1_does_132 rfl (lv_at hl 1 rfl) ?_
        have hw_103 : bCourse T h po la fw v0 v1 (v2 + 1) v3 v4 v5 v6 v7 [(h, .inr (1, [.ref po, .ref a1_102, .int v0, .ref la, .int v1, .int (v2 + 1), .int v3, .int v4, .int v5, .int v6, .int v7])), (a1_102, .inl (T.2 0, 7, .inl fw))] := ⟨a1_102, rfl⟩
        have G : zS T A s.heap s [[(h, .inr (1, [.ref po, .ref a1_102, .int v0, .ref la, .int v1, .int (v2 + 1), .int v3, .int v4, .int v5, .int v6, .int v7])), (a1_102, .inl (T.2 0, 7, .inl fw))], wp2_96, z] _ _ := G.re rfl
        refine z_Vv (bc := [[(h, .inr (1, [.ref po, .ref a1_102, .int v0, .ref la, .int v1, .int (v2 + 1), .int v3, .int v4, .int v5, .int v6, .int v7])), (a1_102, .inl (T.2 0, 7, .inl fw))], z]) (br := [wp2_96]) (As := []) (rest := []) C G (c_lookAtCrowd l T h po la fw v0 v1 (v2 + 1) v3 v4 v5 v6 v7 ([(h, .inr (1, [.ref po, .ref a1_102, .int v0, .ref la, .int v1, .int (v2 + 1), .int v3, .int v4, .int v5, .int v6, .int v7])), (a1_102, .inl (T.2 0, 7, .inl fw))]) cr inn k1 k2 k3 k4 z hw_103 hz (by first | with_reducible assumption | with_reducible rfl | omega | assumption | rfl)) (kV_RX1_56 C.2.2.2.2 (Nat.le_of_ble_eq_true rfl) (Nat.le_of_ble_eq_true rfl)) [0, 2] [1] rfl rfl (ci := 1) (qc := (RX1, TX1, 11)) rfl rfl (List.mem_flatten.mpr ⟨_, List.mem_of_getElem? (i := 0) rfl, (bCourse_mem hw_103).choose_spec⟩) rfl rfl hl.1 dX1_does_133 (Nat.le_of_ble_eq_true rfl) (Nat.le_of_ble_eq_true rfl) (fun b1 H locs hw G => ?_)
        refine hw.elim fun wc2_104 w90 => w90.elim fun u6_105 w91 => w91.elim fun hbs9 h_106 => ?_
        clear hw w90 w91
        subst hbs9
        have G : zS T A s.heap s [wp2_96, wc2_104, z] _ _ := G
        refine lv_iload hx hb dX1_does_136 (lv_at hl 0 rfl) ?_
        have G := G.sub (bs' := [wc2_104, wp2_96, z]) [1, 0, 2] rfl
        exact z_zret C hr hlocks G (Nat.le_of_ble_eq_true rfl) (Nat.le_of_ble_eq_true rfl) dX1_does_138 (by rcases h_99 fw v0 v1 with q | q <;> rw [q.1] <;> rfl) ⟨wc2_104, fw, v0, v1, (v2 + 1), v3, v4, v5, u6_105, v7, wp2_96, f1, g2_97, st, wh, rfl, h_106, h_98, hP, (Or.inl ⟨hs.1, (zDe_k5 (by omega)).trans hs.2, rfl⟩), rfl⟩
/-- walkers: none below nothing, never many -/
def zHB (m : Int) (H : Nat → Int32) : Prop := ∀ j, j < 7 → 0 ≤ (H j).toInt ∧ (H j).toInt ≤ m
theorem zMvH_b {m : Int} {H : Nat → Int32} {x y : Int32} (hm : m ≤ 100000) (h : zHB m H) (hx : 0 ≤ x.toInt ∧ x.toInt < 7) (hy : 0 ≤ y.toInt ∧ y.toInt < 7) (h1 : 1 ≤ (H x.toNatClampNeg).toInt) : zHB (m + 1) (zMvH H x y) := by
  have ex := z_clI hx.1
  have ey := z_clI hy.1
  have bx := h x.toNatClampNeg (by omega)
  have e1 : (1 : Int32).toInt = 1 := rfl
  have d : (H x.toNatClampNeg - 1).toInt = (H x.toNatClampNeg).toInt - 1 := (z_isubI (x := H x.toNatClampNeg) (y := 1) (by rw [e1]; omega) (by rw [e1]; omega)).trans (by rw [e1])
  have g : zHB m (upd H x.toNatClampNeg (H x.toNatClampNeg - 1)) := by
    intro j hj
    unfold upd
    split
    · omega
    · exact h j hj
  have by_ := g y.toNatClampNeg (by omega)
  intro j hj
  unfold zMvH
  by_cases q : j = y.toNatClampNeg
  · rw [z_eq q, z_iaddI (by rw [e1]; omega) (by rw [e1]; omega), e1]
    omega
  · rw [z_ne q]
    have := g j hj
    omega
theorem zAdd_b {m : Int} {H : Nat → Int32} {k : Nat} (hm : m ≤ 100000) (h : zHB m H) (hk : k < 7) : zHB (m + 1) (upd H k (H k + 1)) := by
  have e1 : (1 : Int32).toInt = 1 := rfl
  have b := h k hk
  intro j hj
  by_cases q : j = k
  · rw [z_eq q, z_iaddI (by rw [e1]; omega) (by rw [e1]; omega), e1]
    omega
  · rw [z_ne q]
    have := h j hj
    omega
theorem zHB_m {m n : Int} {H : Nat → Int32} (h : zHB m H) (q : m ≤ n) : zHB n H := fun j hj => ⟨(h j hj).1, Int.le_trans (h j hj).2 q⟩
/-- roads shut: of four -/
def zS15 (S : Nat → Int32) : Prop := ∀ j, j < 7 → 0 ≤ (S j).toInt ∧ (S j).toInt ≤ 15
theorem zSx1 : ∀ t, t < 16 → ∀ c, c < 4 → (zBit (nI t) (nI c) = 0 → nI t ^^^ ((1 : Int32) <<< (nI c &&& 31)) = nI t ||| ((1 : Int32) <<< (nI c &&& 31)) ∧ 0 ≤ (nI t ||| ((1 : Int32) <<< (nI c &&& 31))).toInt ∧ (nI t ||| ((1 : Int32) <<< (nI c &&& 31))).toInt ≤ 15) ∧ (¬ zBit (nI t) (nI c) = 0 → nI t ^^^ ((1 : Int32) <<< (nI c &&& 31)) = nI t &&& ((1 : Int32) <<< (nI c &&& 31) ^^^ (-1)) ∧ 0 ≤ (nI t &&& ((1 : Int32) <<< (nI c &&& 31) ^^^ (-1))).toInt ∧ (nI t &&& ((1 : Int32) <<< (nI c &&& 31) ^^^ (-1))).toInt ≤ 15) := by decide +kernel
theorem zSx {s k : Int32} (hs : 0 ≤ s.toInt ∧ s.toInt ≤ 15) (hk : 0 ≤ k.toInt ∧ k.toInt ≤ 3) : (zBit s k = 0 → s ^^^ ((1 : Int32) <<< (k &&& 31)) = s ||| ((1 : Int32) <<< (k &&& 31)) ∧ 0 ≤ (s ||| ((1 : Int32) <<< (k &&& 31))).toInt ∧ (s ||| ((1 : Int32) <<< (k &&& 31))).toInt ≤ 15) ∧ (¬ zBit s k = 0 → s ^^^ ((1 : Int32) <<< (k &&& 31)) = s &&& ((1 : Int32) <<< (k &&& 31) ^^^ (-1)) ∧ 0 ≤ (s &&& ((1 : Int32) <<< (k &&& 31) ^^^ (-1))).toInt ∧ (s &&& ((1 : Int32) <<< (k &&& 31) ^^^ (-1))).toInt ≤ 15) := by
  have e1 : s = nI s.toInt.toNat := z_nI (by omega) (by omega)
  have e2 : k = nI k.toInt.toNat := z_nI (by omega) (by omega)
  rw [e1, e2]
  exact zSx1 _ (by omega) _ (by omega)
theorem zS15_u {S : Nat → Int32} {k : Nat} {v : Int32} (h : zS15 S) (hv : 0 ≤ v.toInt ∧ v.toInt ≤ 15) : zS15 (upd S k v) := by
  intro j hj
  unfold upd
  split
  · exact hv
  · exact h j hj
set_option maxHeartbeats 4000000 in
set_option maxRecDepth 100000 in
/-- c_fm_goesFrom -/
theorem c_fm_goesFrom (l : Launch) (T : zTy) (mo : Nat) (m_all : Nat) (m_has : Nat) (i_size : Int32) (i_next : Int32) (i_where : Int32) (i_token : Int32) (i_number : Int32) (i_word : Int32) (i_wrong : Int32) (i_farCrossing : Int32) (m_read : Nat) (i_z0 : Int32) (i_crossings : Int32) (i_inns : Int32) (m_posts : Nat) (m_shut : Nat) (m_here : Nat) (i_steps : Int32) (i_done : Int32) (i_at : Int32) (i_gone : Int32) (m_was : Nat) (m_came : Nat) (m_seenAt : Nat) (m_rowWorth : Nat) (m_farBy : Nat) (m_used : Nat) (i_everywhere : Int32) (i_again0 : Int32) (i_d0 : Int32) (i_never : Int32) (i_firstCame : Int32) (i_longRun : Int32) (i_moved : Int32) (i_crowd : Int32) (i_l0 : Int32) (i_fitMany : Int32) (i_fitLeast : Int32) (i_fitMost : Int32) (m_fitPost : Nat) (m_fitEnd : Nat) (m_keptPosts : Nat) (i_x0 : Int32) (f_here : Nat → Int32) (c_ : Int32) (hc0 : 0 ≤ c_.toInt) (hc6 : c_.toInt ≤ 6) (ha0 : 0 ≤ i_at.toInt) (ha6 : i_at.toInt ≤ 6) : zMv l T yX12_goesFrom cX12_goesFrom 2 2 0 0 [.ref mo, .int c_] [[(mo, .inr (11, [.ref m_all, .ref m_has, .int i_size, .int i_next, .int i_where, .int i_token, .int i_number, .int i_word, .int i_wrong, .int i_farCrossing, .ref m_read, .int i_z0, .int i_crossings, .int i_inns, .ref m_posts, .ref m_shut, .ref m_here, .int i_steps, .int i_done, .int i_at, .int i_gone, .ref m_was, .ref m_came, .ref m_seenAt, .ref m_rowWorth, .ref m_farBy, .ref m_used, .int i_everywhere, .int i_again0, .int i_d0, .int i_never, .int i_firstCame, .int i_longRun, .int i_moved, .int i_crowd, .int i_l0, .int i_fitMany, .int i_fitLeast, .int i_fitMost, .ref m_fitPost, .ref m_fitEnd, .ref m_keptPosts, .int i_x0]))], [(m_here, .inl (T.2 0, 7, .inl f_here))]] (fun bs => ∃ (j_steps : Int32) (j_moved : Int32) (j_firstCame : Int32) (g_here : Nat → Int32), bs = [[(mo, .inr (11, [.ref m_all, .ref m_has, .int i_size, .int i_next, .int i_where, .int i_token, .int i_number, .int i_word, .int i_wrong, .int i_farCrossing, .ref m_read, .int i_z0, .int i_crossings, .int i_inns, .ref m_posts, .ref m_shut, .ref m_here, .int j_steps, .int i_done, .int i_at, .int i_gone, .ref m_was, .ref m_came, .ref m_seenAt, .ref m_rowWorth, .ref m_farBy, .ref m_used, .int i_everywhere, .int i_again0, .int i_d0, .int i_never, .int j_firstCame, .int i_longRun, .int j_moved, .int i_crowd, .int i_l0, .int i_fitMany, .int i_fitLeast, .int i_fitMost, .ref m_fitPost, .ref m_fitEnd, .ref m_keptPosts, .int i_x0]))], [(m_here, .inl (T.2 0, 7, .inl g_here))]] ∧ g_here = zMvH f_here c_ i_at ∧ j_steps = i_steps + i_gone) := by
  refine zMv_of (own := RX12) (by decide) rfl (Nat.le_of_ble_eq_true rfl) ?_
  intro p e s m args below meth c A ls C hr hlocks hnm hAe G hl
  have hx := C.1
  have hb := C.2.1
  have hl : lv_has ls 2 [(0, .ref mo), (1, .int c_)] := hl
  refine lv_aload_n hx hb dX12_goesFrom_0 rfl (lv_at hl 0 rfl) ?_
  refine z_get C G clX12 0 rfl 16 (by decide) m_fl_RX12_26 rfl dX12_goesFrom_1 ?_
  refine lv_iload_n hx hb dX12_goesFrom_4 rfl (lv_at hl 1 rfl) ?_
  refine lv_dup2_11 hx hb dX12_goesFrom_5 rfl rfl ?_
  refine z_ild C G 1 rfl (vp_in_iff.mpr ⟨by omega, by omega⟩) dX12_goesFrom_6 ?_
  refine lv_topi (fun v_1 ev_1 => ?_)
  subst ev_1
  refine lv_iconst (v := 1) hx hb dX12_goesFrom_7 (by decide) ?_
  refine lv_isub hx hb dX12_goesFrom_8 ?_
  refine z_ist C G 1 rfl (vp_in_iff.mpr ⟨by omega, by omega⟩) dX12_goesFrom_9 (fun H locs G => ?_)
  have G : zS T A s.heap s [[(mo, .inr (11, [.ref m_all, .ref m_has, .int i_size, .int i_next, .int i_where, .int i_token, .int i_number, .int i_word, .int i_wrong, .int i_farCrossing, .ref m_read, .int i_z0, .int i_crossings, .int i_inns, .ref m_posts, .ref m_shut, .ref m_here, .int i_steps, .int i_done, .int i_at, .int i_gone, .ref m_was, .ref m_came, .ref m_seenAt, .ref m_rowWorth, .ref m_farBy, .ref m_used, .int i_everywhere, .int i_again0, .int i_d0, .int i_never, .int i_firstCame, .int i_longRun, .int i_moved, .int i_crowd, .int i_l0, .int i_fitMany, .int i_fitLeast, .int i_fitMost, .ref m_fitPost, .ref m_fitEnd, .ref m_keptPosts, .int i_x0]))], [(m_here, .inl (T.2 0, 7, .inl (upd f_here c_.toNatClampNeg ((f_here c_.toNatClampNeg) - 1))))]] _ _ := G
  refine lv_aload_n hx hb dX12_goesFrom_10 rfl (lv_at hl 0 rfl) ?_
  refine z_get C G clX12 0 rfl 16 (by decide) m_fl_RX12_26 rfl dX12_goesFrom_11 ?_
  refine lv_aload_n hx hb dX12_goesFrom_14 rfl (lv_at hl 0 rfl) ?_
  refine z_get C G clX12 0 rfl 19 (by decide) m_fl_RX12_202 rfl dX12_goesFrom_15 ?_
  refine lv_dup2_11 hx hb dX12_goesFrom_18 rfl rfl ?_
  refine z_ild C G 1 rfl (vp_in_iff.mpr ⟨by omega, by omega⟩) dX12_goesFrom_19 ?_
  refine lv_topi (fun v_2 ev_2 => ?_)
  subst ev_2
  refine lv_iconst (v := 1) hx hb dX12_goesFrom_20 (by decide) ?_
  refine lv_iadd hx hb dX12_goesFrom_21 ?_
  refine z_ist C G 1 rfl (vp_in_iff.mpr ⟨by omega, by omega⟩) dX12_goesFrom_22 (fun H locs G => ?_)
  have G : zS T A s.heap s [[(mo, .inr (11, [.ref m_all, .ref m_has, .int i_size, .int i_next, .int i_where, .int i_token, .int i_number, .int i_word, .int i_wrong, .int i_farCrossing, .ref m_read, .int i_z0, .int i_crossings, .int i_inns, .ref m_posts, .ref m_shut, .ref m_here, .int i_steps, .int i_done, .int i_at, .int i_gone, .ref m_was, .ref m_came, .ref m_seenAt, .ref m_rowWorth, .ref m_farBy, .ref m_used, .int i_everywhere, .int i_again0, .int i_d0, .int i_never, .int i_firstCame, .int i_longRun, .int i_moved, .int i_crowd, .int i_l0, .int i_fitMany, .int i_fitLeast, .int i_fitMost, .ref m_fitPost, .ref m_fitEnd, .ref m_keptPosts, .int i_x0]))], [(m_here, .inl (T.2 0, 7, .inl (upd (upd f_here c_.toNatClampNeg ((f_here c_.toNatClampNeg) - 1)) i_at.toNatClampNeg (((upd f_here c_.toNatClampNeg ((f_here c_.toNatClampNeg) - 1)) i_at.toNatClampNeg) + 1))))]] _ _ := G
  refine lv_aload_n hx hb dX12_goesFrom_23 rfl (lv_at hl 0 rfl) ?_
  refine lv_dup hx hb dX12_goesFrom_24 rfl ?_
  refine z_get C G clX12 0 rfl 17 (by decide) m_fl_RX12_196 rfl dX12_goesFrom_25 ?_
  refine lv_aload_n hx hb dX12_goesFrom_28 rfl (lv_at hl 0 rfl) ?_
  refine z_get C G clX12 0 rfl 20 (by decide) m_fl_RX12_208 rfl dX12_goesFrom_29 ?_
  refine lv_iadd hx hb dX12_goesFrom_32 ?_
  refine z_put C G clX12 0 rfl 17 (by decide) m_fl_RX12_196 rfl rfl rfl (Nat.le_of_ble_eq_true rfl) dX12_goesFrom_33 (fun H locs G => ?_)
  have G : zS T A s.heap s [[(mo, .inr (11, [.ref m_all, .ref m_has, .int i_size, .int i_next, .int i_where, .int i_token, .int i_number, .int i_word, .int i_wrong, .int i_farCrossing, .ref m_read, .int i_z0, .int i_crossings, .int i_inns, .ref m_posts, .ref m_shut, .ref m_here, .int (i_steps + i_gone), .int i_done, .int i_at, .int i_gone, .ref m_was, .ref m_came, .ref m_seenAt, .ref m_rowWorth, .ref m_farBy, .ref m_used, .int i_everywhere, .int i_again0, .int i_d0, .int i_never, .int i_firstCame, .int i_longRun, .int i_moved, .int i_crowd, .int i_l0, .int i_fitMany, .int i_fitLeast, .int i_fitMost, .ref m_fitPost, .ref m_fitEnd, .ref m_keptPosts, .int i_x0]))], [(m_here, .inl (T.2 0, 7, .inl (upd (upd f_here c_.toNatClampNeg ((f_here c_.toNatClampNeg) - 1)) i_at.toNatClampNeg (((upd f_here c_.toNatClampNeg ((f_here c_.toNatClampNeg) - 1)) i_at.toNatClampNeg) + 1))))]] _ _ := G
  refine lv_aload_n hx hb dX12_goesFrom_36 rfl (lv_at hl 0 rfl) ?_
  refine lv_dup hx hb dX12_goesFrom_37 rfl ?_
  refine z_get C G clX12 0 rfl 33 (by decide) m_fl_RX12_311 rfl dX12_goesFrom_38 ?_
  refine lv_aload_n hx hb dX12_goesFrom_41 rfl (lv_at hl 0 rfl) ?_
  refine z_get C G clX12 0 rfl 19 (by decide) m_fl_RX12_202 rfl dX12_goesFrom_42 ?_
  refine lv_iload_n hx hb dX12_goesFrom_45 rfl (lv_at hl 1 rfl) ?_
  refine lv_icmp_ne (tgt := 53) hx hb dX12_goesFrom_46 (by decide) (fun c_3 => ?_) (fun c_3 => ?_)
  · have c_3n : ¬ i_at.toInt = c_.toInt := fun q => c_3 ((fa_eq _ _).mpr q)
    refine lv_iconst (v := 1) hx hb dX12_goesFrom_53 (by decide) ?_
    refine lv_iadd hx hb dX12_goesFrom_54 ?_
    refine z_put C G clX12 0 rfl 33 (by decide) m_fl_RX12_311 rfl rfl rfl (Nat.le_of_ble_eq_true rfl) dX12_goesFrom_55 (fun H locs G => ?_)
    have G : zS T A s.heap s [[(mo, .inr (11, [.ref m_all, .ref m_has, .int i_size, .int i_next, .int i_where, .int i_token, .int i_number, .int i_word, .int i_wrong, .int i_farCrossing, .ref m_read, .int i_z0, .int i_crossings, .int i_inns, .ref m_posts, .ref m_shut, .ref m_here, .int (i_steps + i_gone), .int i_done, .int i_at, .int i_gone, .ref m_was, .ref m_came, .ref m_seenAt, .ref m_rowWorth, .ref m_farBy, .ref m_used, .int i_everywhere, .int i_again0, .int i_d0, .int i_never, .int i_firstCame, .int i_longRun, .int (i_moved + 1), .int i_crowd, .int i_l0, .int i_fitMany, .int i_fitLeast, .int i_fitMost, .ref m_fitPost, .ref m_fitEnd, .ref m_keptPosts, .int i_x0]))], [(m_here, .inl (T.2 0, 7, .inl (upd (upd f_here c_.toNatClampNeg ((f_here c_.toNatClampNeg) - 1)) i_at.toNatClampNeg (((upd f_here c_.toNatClampNeg ((f_here c_.toNatClampNeg) - 1)) i_at.toNatClampNeg) + 1))))]] _ _ := G
    refine lv_aload_n hx hb dX12_goesFrom_58 rfl (lv_at hl 0 rfl) ?_
    refine z_get C G clX12 0 rfl 31 (by decide) m_fl_RX12_314 rfl dX12_goesFrom_59 ?_
    refine lv_iconst (v := (-1)) hx hb dX12_goesFrom_62 (by decide) ?_
    refine lv_icmp_ne (tgt := 92) hx hb dX12_goesFrom_63 (by decide) (fun c_4 => ?_) (fun c_4 => ?_)
    · have c_4n : ¬ i_firstCame.toInt = (-1 : Int) := fun q => c_4 ((fa_eq _ _).mpr q)
      exact z_vret C hr hlocks G (Nat.le_of_ble_eq_true rfl) (Nat.le_of_ble_eq_true rfl) dX12_goesFrom_92 ⟨(i_steps + i_gone), (i_moved + 1), i_firstCame, (upd (upd f_here c_.toNatClampNeg ((f_here c_.toNatClampNeg) - 1)) i_at.toNatClampNeg (((upd f_here c_.toNatClampNeg ((f_here c_.toNatClampNeg) - 1)) i_at.toNatClampNeg) + 1)), rfl, rfl, rfl⟩
    · have c_4n : i_firstCame.toInt = (-1 : Int) := (fa_eq _ _).mp c_4
      refine lv_aload_n hx hb dX12_goesFrom_66 rfl (lv_at hl 0 rfl) ?_
      refine z_get C G clX12 0 rfl 20 (by decide) m_fl_RX12_208 rfl dX12_goesFrom_67 ?_
      refine lv_if_le (tgt := 92) hx hb dX12_goesFrom_70 (by decide) (fun c_5 => ?_) (fun c_5 => ?_)
      · have c_5n : i_gone.toInt ≤ (0 : Int) := (fa_le _ _).mp c_5
        exact z_vret C hr hlocks G (Nat.le_of_ble_eq_true rfl) (Nat.le_of_ble_eq_true rfl) dX12_goesFrom_92 ⟨(i_steps + i_gone), (i_moved + 1), i_firstCame, (upd (upd f_here c_.toNatClampNeg ((f_here c_.toNatClampNeg) - 1)) i_at.toNatClampNeg (((upd f_here c_.toNatClampNeg ((f_here c_.toNatClampNeg) - 1)) i_at.toNatClampNeg) + 1)), rfl, rfl, rfl⟩
      · have c_5n : ¬ i_gone.toInt ≤ (0 : Int) := fun q => c_5 ((fa_le _ _).mpr q)
        refine lv_aload_n hx hb dX12_goesFrom_73 rfl (lv_at hl 0 rfl) ?_
        refine lv_aload_n hx hb dX12_goesFrom_74 rfl (lv_at hl 0 rfl) ?_
        refine z_get C G clX12 0 rfl 19 (by decide) m_fl_RX12_202 rfl dX12_goesFrom_75 ?_
        refine z_Vi (bc := [[(mo, .inr (11, [.ref m_all, .ref m_has, .int i_size, .int i_next, .int i_where, .int i_token, .int i_number, .int i_word, .int i_wrong, .int i_farCrossing, .ref m_read, .int i_z0, .int i_crossings, .int i_inns, .ref m_posts, .ref m_shut, .ref m_here, .int (i_steps + i_gone), .int i_done, .int i_at, .int i_gone, .ref m_was, .ref m_came, .ref m_seenAt, .ref m_rowWorth, .ref m_farBy, .ref m_used, .int i_everywhere, .int i_again0, .int i_d0, .int i_never, .int i_firstCame, .int i_longRun, .int (i_moved + 1), .int i_crowd, .int i_l0, .int i_fitMany, .int i_fitLeast, .int i_fitMost, .ref m_fitPost, .ref m_fitEnd, .ref m_keptPosts, .int i_x0]))]]) (br := [[(m_here, .inl (T.2 0, 7, .inl (upd (upd f_here c_.toNatClampNeg ((f_here c_.toNatClampNeg) - 1)) i_at.toNatClampNeg (((upd f_here c_.toNatClampNeg ((f_here c_.toNatClampNeg) - 1)) i_at.toNatClampNeg) + 1))))]]) (As := [.int i_at]) (rest := []) C G (c_m_isInn l T mo m_all m_has i_size i_next i_where i_token i_number i_word i_wrong i_farCrossing m_read i_z0 i_crossings i_inns m_posts m_shut m_here (i_steps + i_gone) i_done i_at i_gone m_was m_came m_seenAt m_rowWorth m_farBy m_used i_everywhere i_again0 i_d0 i_never i_firstCame i_longRun (i_moved + 1) i_crowd i_l0 i_fitMany i_fitLeast i_fitMost m_fitPost m_fitEnd m_keptPosts i_x0 i_at) (kV_RX12_178 C.2.2.2.2 (Nat.le_of_ble_eq_true rfl) (Nat.le_of_ble_eq_true rfl)) [0] [1] rfl rfl (ci := 11) (qc := (RX12, TX12, 43)) rfl rfl (List.mem_flatten.mpr ⟨_, List.mem_of_getElem? (i := 0) rfl, List.mem_cons_self⟩) rfl rfl hl.1 dX12_goesFrom_78 (Nat.le_of_ble_eq_true rfl) (Nat.le_of_ble_eq_true rfl) (fun r_7 b1 H locs hw G => ?_)
        refine hw.elim fun hbs9 hc_6 => ?_
        clear hw
        subst hbs9
        have G : zS T A s.heap s [[(m_here, .inl (T.2 0, 7, .inl (upd (upd f_here c_.toNatClampNeg ((f_here c_.toNatClampNeg) - 1)) i_at.toNatClampNeg (((upd f_here c_.toNatClampNeg ((f_here c_.toNatClampNeg) - 1)) i_at.toNatClampNeg) + 1))))], [(mo, .inr (11, [.ref m_all, .ref m_has, .int i_size, .int i_next, .int i_where, .int i_token, .int i_number, .int i_word, .int i_wrong, .int i_farCrossing, .ref m_read, .int i_z0, .int i_crossings, .int i_inns, .ref m_posts, .ref m_shut, .ref m_here, .int (i_steps + i_gone), .int i_done, .int i_at, .int i_gone, .ref m_was, .ref m_came, .ref m_seenAt, .ref m_rowWorth, .ref m_farBy, .ref m_used, .int i_everywhere, .int i_again0, .int i_d0, .int i_never, .int i_firstCame, .int i_longRun, .int (i_moved + 1), .int i_crowd, .int i_l0, .int i_fitMany, .int i_fitLeast, .int i_fitMost, .ref m_fitPost, .ref m_fitEnd, .ref m_keptPosts, .int i_x0]))]] _ _ := G
        rcases hc_6 with ⟨rfl, h_8⟩ | ⟨rfl, h_9⟩
        · have h_8 : zInn i_inns i_at := h_8
          refine lv_if_eq (tgt := 92) hx hb dX12_goesFrom_81 (by decide) (fun q => absurd q (by decide)) (fun _ => ?_)
          refine lv_aload_n hx hb dX12_goesFrom_84 rfl (lv_at hl 0 rfl) ?_
          refine lv_aload_n hx hb dX12_goesFrom_85 rfl (lv_at hl 0 rfl) ?_
          refine z_get C G clX12 1 rfl 18 (by decide) m_fl_RX12_199 rfl dX12_goesFrom_86 ?_
          refine z_put C G clX12 1 rfl 31 (by decide) m_fl_RX12_314 rfl rfl rfl (Nat.le_of_ble_eq_true rfl) dX12_goesFrom_89 (fun H locs G => ?_)
          have G : zS T A s.heap s [[(m_here, .inl (T.2 0, 7, .inl (upd (upd f_here c_.toNatClampNeg ((f_here c_.toNatClampNeg) - 1)) i_at.toNatClampNeg (((upd f_here c_.toNatClampNeg ((f_here c_.toNatClampNeg) - 1)) i_at.toNatClampNeg) + 1))))], [(mo, .inr (11, [.ref m_all, .ref m_has, .int i_size, .int i_next, .int i_where, .int i_token, .int i_number, .int i_word, .int i_wrong, .int i_farCrossing, .ref m_read, .int i_z0, .int i_crossings, .int i_inns, .ref m_posts, .ref m_shut, .ref m_here, .int (i_steps + i_gone), .int i_done, .int i_at, .int i_gone, .ref m_was, .ref m_came, .ref m_seenAt, .ref m_rowWorth, .ref m_farBy, .ref m_used, .int i_everywhere, .int i_again0, .int i_d0, .int i_never, .int i_done, .int i_longRun, .int (i_moved + 1), .int i_crowd, .int i_l0, .int i_fitMany, .int i_fitLeast, .int i_fitMost, .ref m_fitPost, .ref m_fitEnd, .ref m_keptPosts, .int i_x0]))]] _ _ := G
          have G := G.sub (bs' := [[(mo, .inr (11, [.ref m_all, .ref m_has, .int i_size, .int i_next, .int i_where, .int i_token, .int i_number, .int i_word, .int i_wrong, .int i_farCrossing, .ref m_read, .int i_z0, .int i_crossings, .int i_inns, .ref m_posts, .ref m_shut, .ref m_here, .int (i_steps + i_gone), .int i_done, .int i_at, .int i_gone, .ref m_was, .ref m_came, .ref m_seenAt, .ref m_rowWorth, .ref m_farBy, .ref m_used, .int i_everywhere, .int i_again0, .int i_d0, .int i_never, .int i_done, .int i_longRun, .int (i_moved + 1), .int i_crowd, .int i_l0, .int i_fitMany, .int i_fitLeast, .int i_fitMost, .ref m_fitPost, .ref m_fitEnd, .ref m_keptPosts, .int i_x0]))], [(m_here, .inl (T.2 0, 7, .inl (upd (upd f_here c_.toNatClampNeg ((f_here c_.toNatClampNeg) - 1)) i_at.toNatClampNeg (((upd f_here c_.toNatClampNeg ((f_here c_.toNatClampNeg) - 1)) i_at.toNatClampNeg) + 1))))]]) [1, 0] rfl
          exact z_vret C hr hlocks G (Nat.le_of_ble_eq_true rfl) (Nat.le_of_ble_eq_true rfl) dX12_goesFrom_92 ⟨(i_steps + i_gone), (i_moved + 1), i_done, (upd (upd f_here c_.toNatClampNeg ((f_here c_.toNatClampNeg) - 1)) i_at.toNatClampNeg (((upd f_here c_.toNatClampNeg ((f_here c_.toNatClampNeg) - 1)) i_at.toNatClampNeg) + 1)), rfl, rfl, rfl⟩
        · have h_9 : ¬ zInn i_inns i_at := h_9
          refine lv_if_eq (tgt := 92) hx hb dX12_goesFrom_81 (by decide) (fun _ => ?_) (fun q => absurd (by decide) q)
          have G := G.sub (bs' := [[(mo, .inr (11, [.ref m_all, .ref m_has, .int i_size, .int i_next, .int i_where, .int i_token, .int i_number, .int i_word, .int i_wrong, .int i_farCrossing, .ref m_read, .int i_z0, .int i_crossings, .int i_inns, .ref m_posts, .ref m_shut, .ref m_here, .int (i_steps + i_gone), .int i_done, .int i_at, .int i_gone, .ref m_was, .ref m_came, .ref m_seenAt, .ref m_rowWorth, .ref m_farBy, .ref m_used, .int i_everywhere, .int i_again0, .int i_d0, .int i_never, .int i_firstCame, .int i_longRun, .int (i_moved + 1), .int i_crowd, .int i_l0, .int i_fitMany, .int i_fitLeast, .int i_fitMost, .ref m_fitPost, .ref m_fitEnd, .ref m_keptPosts, .int i_x0]))], [(m_here, .inl (T.2 0, 7, .inl (upd (upd f_here c_.toNatClampNeg ((f_here c_.toNatClampNeg) - 1)) i_at.toNatClampNeg (((upd f_here c_.toNatClampNeg ((f_here c_.toNatClampNeg) - 1)) i_at.toNatClampNeg) + 1))))]]) [1, 0] rfl
          exact z_vret C hr hlocks G (Nat.le_of_ble_eq_true rfl) (Nat.le_of_ble_eq_true rfl) dX12_goesFrom_92 ⟨(i_steps + i_gone), (i_moved + 1), i_firstCame, (upd (upd f_here c_.toNatClampNeg ((f_here c_.toNatClampNeg) - 1)) i_at.toNatClampNeg (((upd f_here c_.toNatClampNeg ((f_here c_.toNatClampNeg) - 1)) i_at.toNatClampNeg) + 1)), rfl, rfl, rfl⟩
  · have c_3n : i_at.toInt = c_.toInt := (fa_eq _ _).mp c_3
    refine lv_iconst (v := 0) hx hb dX12_goesFrom_49 (by decide) ?_
    refine lv_goto (tgt := 54) hx hb dX12_goesFrom_50 (by decide) ?_
    refine lv_iadd hx hb dX12_goesFrom_54 ?_
    refine z_put C G clX12 0 rfl 33 (by decide) m_fl_RX12_311 rfl rfl rfl (Nat.le_of_ble_eq_true rfl) dX12_goesFrom_55 (fun H locs G => ?_)
    have G : zS T A s.heap s [[(mo, .inr (11, [.ref m_all, .ref m_has, .int i_size, .int i_next, .int i_where, .int i_token, .int i_number, .int i_word, .int i_wrong, .int i_farCrossing, .ref m_read, .int i_z0, .int i_crossings, .int i_inns, .ref m_posts, .ref m_shut, .ref m_here, .int (i_steps + i_gone), .int i_done, .int i_at, .int i_gone, .ref m_was, .ref m_came, .ref m_seenAt, .ref m_rowWorth, .ref m_farBy, .ref m_used, .int i_everywhere, .int i_again0, .int i_d0, .int i_never, .int i_firstCame, .int i_longRun, .int (i_moved + 0), .int i_crowd, .int i_l0, .int i_fitMany, .int i_fitLeast, .int i_fitMost, .ref m_fitPost, .ref m_fitEnd, .ref m_keptPosts, .int i_x0]))], [(m_here, .inl (T.2 0, 7, .inl (upd (upd f_here c_.toNatClampNeg ((f_here c_.toNatClampNeg) - 1)) i_at.toNatClampNeg (((upd f_here c_.toNatClampNeg ((f_here c_.toNatClampNeg) - 1)) i_at.toNatClampNeg) + 1))))]] _ _ := G
    refine lv_aload_n hx hb dX12_goesFrom_58 rfl (lv_at hl 0 rfl) ?_
    refine z_get C G clX12 0 rfl 31 (by decide) m_fl_RX12_314 rfl dX12_goesFrom_59 ?_
    refine lv_iconst (v := (-1)) hx hb dX12_goesFrom_62 (by decide) ?_
    refine lv_icmp_ne (tgt := 92) hx hb dX12_goesFrom_63 (by decide) (fun c_10 => ?_) (fun c_10 => ?_)
    · have c_10n : ¬ i_firstCame.toInt = (-1 : Int) := fun q => c_10 ((fa_eq _ _).mpr q)
      exact z_vret C hr hlocks G (Nat.le_of_ble_eq_true rfl) (Nat.le_of_ble_eq_true rfl) dX12_goesFrom_92 ⟨(i_steps + i_gone), (i_moved + 0), i_firstCame, (upd (upd f_here c_.toNatClampNeg ((f_here c_.toNatClampNeg) - 1)) i_at.toNatClampNeg (((upd f_here c_.toNatClampNeg ((f_here c_.toNatClampNeg) - 1)) i_at.toNatClampNeg) + 1)), rfl, rfl, rfl⟩
    · have c_10n : i_firstCame.toInt = (-1 : Int) := (fa_eq _ _).mp c_10
      refine lv_aload_n hx hb dX12_goesFrom_66 rfl (lv_at hl 0 rfl) ?_
      refine z_get C G clX12 0 rfl 20 (by decide) m_fl_RX12_208 rfl dX12_goesFrom_67 ?_
      refine lv_if_le (tgt := 92) hx hb dX12_goesFrom_70 (by decide) (fun c_11 => ?_) (fun c_11 => ?_)
      · have c_11n : i_gone.toInt ≤ (0 : Int) := (fa_le _ _).mp c_11
        exact z_vret C hr hlocks G (Nat.le_of_ble_eq_true rfl) (Nat.le_of_ble_eq_true rfl) dX12_goesFrom_92 ⟨(i_steps + i_gone), (i_moved + 0), i_firstCame, (upd (upd f_here c_.toNatClampNeg ((f_here c_.toNatClampNeg) - 1)) i_at.toNatClampNeg (((upd f_here c_.toNatClampNeg ((f_here c_.toNatClampNeg) - 1)) i_at.toNatClampNeg) + 1)), rfl, rfl, rfl⟩
      · have c_11n : ¬ i_gone.toInt ≤ (0 : Int) := fun q => c_11 ((fa_le _ _).mpr q)
        refine lv_aload_n hx hb dX12_goesFrom_73 rfl (lv_at hl 0 rfl) ?_
        refine lv_aload_n hx hb dX12_goesFrom_74 rfl (lv_at hl 0 rfl) ?_
        refine z_get C G clX12 0 rfl 19 (by decide) m_fl_RX12_202 rfl dX12_goesFrom_75 ?_
        refine z_Vi (bc := [[(mo, .inr (11, [.ref m_all, .ref m_has, .int i_size, .int i_next, .int i_where, .int i_token, .int i_number, .int i_word, .int i_wrong, .int i_farCrossing, .ref m_read, .int i_z0, .int i_crossings, .int i_inns, .ref m_posts, .ref m_shut, .ref m_here, .int (i_steps + i_gone), .int i_done, .int i_at, .int i_gone, .ref m_was, .ref m_came, .ref m_seenAt, .ref m_rowWorth, .ref m_farBy, .ref m_used, .int i_everywhere, .int i_again0, .int i_d0, .int i_never, .int i_firstCame, .int i_longRun, .int (i_moved + 0), .int i_crowd, .int i_l0, .int i_fitMany, .int i_fitLeast, .int i_fitMost, .ref m_fitPost, .ref m_fitEnd, .ref m_keptPosts, .int i_x0]))]]) (br := [[(m_here, .inl (T.2 0, 7, .inl (upd (upd f_here c_.toNatClampNeg ((f_here c_.toNatClampNeg) - 1)) i_at.toNatClampNeg (((upd f_here c_.toNatClampNeg ((f_here c_.toNatClampNeg) - 1)) i_at.toNatClampNeg) + 1))))]]) (As := [.int i_at]) (rest := []) C G (c_m_isInn l T mo m_all m_has i_size i_next i_where i_token i_number i_word i_wrong i_farCrossing m_read i_z0 i_crossings i_inns m_posts m_shut m_here (i_steps + i_gone) i_done i_at i_gone m_was m_came m_seenAt m_rowWorth m_farBy m_used i_everywhere i_again0 i_d0 i_never i_firstCame i_longRun (i_moved + 0) i_crowd i_l0 i_fitMany i_fitLeast i_fitMost m_fitPost m_fitEnd m_keptPosts i_x0 i_at) (kV_RX12_178 C.2.2.2.2 (Nat.le_of_ble_eq_true rfl) (Nat.le_of_ble_eq_true rfl)) [0] [1] rfl rfl (ci := 11) (qc := (RX12, TX12, 43)) rfl rfl (List.mem_flatten.mpr ⟨_, List.mem_of_getElem? (i := 0) rfl, List.mem_cons_self⟩) rfl rfl hl.1 dX12_goesFrom_78 (Nat.le_of_ble_eq_true rfl) (Nat.le_of_ble_eq_true rfl) (fun r_13 b1 H locs hw G => ?_)
        refine hw.elim fun hbs9 hc_12 => ?_
        clear hw
        subst hbs9
        have G : zS T A s.heap s [[(m_here, .inl (T.2 0, 7, .inl (upd (upd f_here c_.toNatClampNeg ((f_here c_.toNatClampNeg) - 1)) i_at.toNatClampNeg (((upd f_here c_.toNatClampNeg ((f_here c_.toNatClampNeg) - 1)) i_at.toNatClampNeg) + 1))))], [(mo, .inr (11, [.ref m_all, .ref m_has, .int i_size, .int i_next, .int i_where, .int i_token, .int i_number, .int i_word, .int i_wrong, .int i_farCrossing, .ref m_read, .int i_z0, .int i_crossings, .int i_inns, .ref m_posts, .ref m_shut, .ref m_here, .int (i_steps + i_gone), .int i_done, .int i_at, .int i_gone, .ref m_was, .ref m_came, .ref m_seenAt, .ref m_rowWorth, .ref m_farBy, .ref m_used, .int i_everywhere, .int i_again0, .int i_d0, .int i_never, .int i_firstCame, .int i_longRun, .int (i_moved + 0), .int i_crowd, .int i_l0, .int i_fitMany, .int i_fitLeast, .int i_fitMost, .ref m_fitPost, .ref m_fitEnd, .ref m_keptPosts, .int i_x0]))]] _ _ := G
        rcases hc_12 with ⟨rfl, h_14⟩ | ⟨rfl, h_15⟩
        · have h_14 : zInn i_inns i_at := h_14
          refine lv_if_eq (tgt := 92) hx hb dX12_goesFrom_81 (by decide) (fun q => absurd q (by decide)) (fun _ => ?_)
          refine lv_aload_n hx hb dX12_goesFrom_84 rfl (lv_at hl 0 rfl) ?_
          refine lv_aload_n hx hb dX12_goesFrom_85 rfl (lv_at hl 0 rfl) ?_
          refine z_get C G clX12 1 rfl 18 (by decide) m_fl_RX12_199 rfl dX12_goesFrom_86 ?_
          refine z_put C G clX12 1 rfl 31 (by decide) m_fl_RX12_314 rfl rfl rfl (Nat.le_of_ble_eq_true rfl) dX12_goesFrom_89 (fun H locs G => ?_)
          have G : zS T A s.heap s [[(m_here, .inl (T.2 0, 7, .inl (upd (upd f_here c_.toNatClampNeg ((f_here c_.toNatClampNeg) - 1)) i_at.toNatClampNeg (((upd f_here c_.toNatClampNeg ((f_here c_.toNatClampNeg) - 1)) i_at.toNatClampNeg) + 1))))], [(mo, .inr (11, [.ref m_all, .ref m_has, .int i_size, .int i_next, .int i_where, .int i_token, .int i_number, .int i_word, .int i_wrong, .int i_farCrossing, .ref m_read, .int i_z0, .int i_crossings, .int i_inns, .ref m_posts, .ref m_shut, .ref m_here, .int (i_steps + i_gone), .int i_done, .int i_at, .int i_gone, .ref m_was, .ref m_came, .ref m_seenAt, .ref m_rowWorth, .ref m_farBy, .ref m_used, .int i_everywhere, .int i_again0, .int i_d0, .int i_never, .int i_done, .int i_longRun, .int (i_moved + 0), .int i_crowd, .int i_l0, .int i_fitMany, .int i_fitLeast, .int i_fitMost, .ref m_fitPost, .ref m_fitEnd, .ref m_keptPosts, .int i_x0]))]] _ _ := G
          have G := G.sub (bs' := [[(mo, .inr (11, [.ref m_all, .ref m_has, .int i_size, .int i_next, .int i_where, .int i_token, .int i_number, .int i_word, .int i_wrong, .int i_farCrossing, .ref m_read, .int i_z0, .int i_crossings, .int i_inns, .ref m_posts, .ref m_shut, .ref m_here, .int (i_steps + i_gone), .int i_done, .int i_at, .int i_gone, .ref m_was, .ref m_came, .ref m_seenAt, .ref m_rowWorth, .ref m_farBy, .ref m_used, .int i_everywhere, .int i_again0, .int i_d0, .int i_never, .int i_done, .int i_longRun, .int (i_moved + 0), .int i_crowd, .int i_l0, .int i_fitMany, .int i_fitLeast, .int i_fitMost, .ref m_fitPost, .ref m_fitEnd, .ref m_keptPosts, .int i_x0]))], [(m_here, .inl (T.2 0, 7, .inl (upd (upd f_here c_.toNatClampNeg ((f_here c_.toNatClampNeg) - 1)) i_at.toNatClampNeg (((upd f_here c_.toNatClampNeg ((f_here c_.toNatClampNeg) - 1)) i_at.toNatClampNeg) + 1))))]]) [1, 0] rfl
          exact z_vret C hr hlocks G (Nat.le_of_ble_eq_true rfl) (Nat.le_of_ble_eq_true rfl) dX12_goesFrom_92 ⟨(i_steps + i_gone), (i_moved + 0), i_done, (upd (upd f_here c_.toNatClampNeg ((f_here c_.toNatClampNeg) - 1)) i_at.toNatClampNeg (((upd f_here c_.toNatClampNeg ((f_here c_.toNatClampNeg) - 1)) i_at.toNatClampNeg) + 1)), rfl, rfl, rfl⟩
        · have h_15 : ¬ zInn i_inns i_at := h_15
          refine lv_if_eq (tgt := 92) hx hb dX12_goesFrom_81 (by decide) (fun _ => ?_) (fun q => absurd (by decide) q)
          have G := G.sub (bs' := [[(mo, .inr (11, [.ref m_all, .ref m_has, .int i_size, .int i_next, .int i_where, .int i_token, .int i_number, .int i_word, .int i_wrong, .int i_farCrossing, .ref m_read, .int i_z0, .int i_crossings, .int i_inns, .ref m_posts, .ref m_shut, .ref m_here, .int (i_steps + i_gone), .int i_done, .int i_at, .int i_gone, .ref m_was, .ref m_came, .ref m_seenAt, .ref m_rowWorth, .ref m_farBy, .ref m_used, .int i_everywhere, .int i_again0, .int i_d0, .int i_never, .int i_firstCame, .int i_longRun, .int (i_moved + 0), .int i_crowd, .int i_l0, .int i_fitMany, .int i_fitLeast, .int i_fitMost, .ref m_fitPost, .ref m_fitEnd, .ref m_keptPosts, .int i_x0]))], [(m_here, .inl (T.2 0, 7, .inl (upd (upd f_here c_.toNatClampNeg ((f_here c_.toNatClampNeg) - 1)) i_at.toNatClampNeg (((upd f_here c_.toNatClampNeg ((f_here c_.toNatClampNeg) - 1)) i_at.toNatClampNeg) + 1))))]]) [1, 0] rfl
          exact z_vret C hr hlocks G (Nat.le_of_ble_eq_true rfl) (Nat.le_of_ble_eq_true rfl) dX12_goesFrom_92 ⟨(i_steps + i_gone), (i_moved + 0), i_firstCame, (upd (upd f_here c_.toNatClampNeg ((f_here c_.toNatClampNeg) - 1)) i_at.toNatClampNeg (((upd f_here c_.toNatClampNeg ((f_here c_.toNatClampNeg) - 1)) i_at.toNatClampNeg) + 1)), rfl, rfl, rfl⟩
theorem zGoF_i {cr x t : Int32} {W L P S H g1 gw : Nat → Int32} {st nv s2 : Int32} (h : zHas cr x ∧ 1 ≤ (H x.toNatClampNeg).toInt) (h2 : ¬ zStep P S W L x = -1) (e1 : g1 = zPost P S W x) (e3 : t = zStep P S W L x) (e4 : gw = zMvH H x t) (e5 : s2 = st + 1) : zGoF cr W L x (P, S, H, st, nv) = some (g1, S, gw, s2, nv) := by
  unfold zGoF
  rw [if_pos ⟨h, h2⟩, e1, e4, e5, e3]
theorem zRuF_m {cr inn x w s2 : Int32} {W L P S H g1 gw : Nat → Int32} {st nv n2 s3 : Int32} (h : zHas cr x ∧ 1 ≤ (H x.toNatClampNeg).toInt) (e1 : g1 = (zRunN S W L 499 P x 0).1) (e2 : s2 = nI (zRunN S W L 499 P x 0).2.2) (e3 : w = (zRunN S W L 499 P x 0).2.1) (e4 : gw = zMvH H x w) (e6 : s3 = st + s2) (e5 : (if zBit inn w = 1 then nv else nv + 1) = n2) : zRuF cr inn W L x (P, S, H, st, nv) = some (g1, S, gw, s3, n2) := by
  rw [e6]
  exact zRuF_i h e1 e2 e3 e4 e5
theorem zPost_no {f1 f2 f3 lf : Nat → Int32} {x : Int32} (h : zStep f1 f2 f3 lf x = -1) (hI : zP3 f1 f3) (hb : ∀ j r : Nat, j < 7 → r < 4 → (r : Int) < (f3 j).toInt → 0 ≤ (lf (4 * j + r)).toInt) : zPost f1 f2 f3 x = f1 := by
  unfold zPost
  rw [if_pos (zStep_t h hI hb)]
theorem zLo_m {f : Nat → Int32} {z cr n : Int32} (h : zML f z cr) : ∀ j r : Nat, j < 7 → r < 4 → (r : Int) < (zWo f z n j).toInt → 0 ≤ (zLo f z (4 * j + r)).toInt := fun j r hj hr _ => (h.2.2.2.2 (4 * j + r) (by omega)).1
theorem zStep_inn {P S f L : Nat → Int32} {z n x : Int32} (h : zBit n x = 1) (h0 : 0 ≤ x.toInt) (h6 : x.toInt ≤ 6) : zStep P S (zWo f z n) L x = -1 := by
  unfold zStep
  rw [if_pos (zTurn_inn h h0 h6)]
set_option maxHeartbeats 4000000 in
set_option maxRecDepth 100000 in
/-- c_fm_goes -/
theorem c_fm_goes (l : Launch) (T : zTy) (mo : Nat) (m_all : Nat) (m_has : Nat) (i_size : Int32) (i_next : Int32) (i_where : Int32) (i_token : Int32) (i_number : Int32) (i_word : Int32) (i_wrong : Int32) (i_farCrossing : Int32) (m_read : Nat) (i_z0 : Int32) (i_crossings : Int32) (i_inns : Int32) (m_posts : Nat) (m_shut : Nat) (m_here : Nat) (i_steps : Int32) (i_done : Int32) (i_at : Int32) (i_gone : Int32) (m_was : Nat) (m_came : Nat) (m_seenAt : Nat) (m_rowWorth : Nat) (m_farBy : Nat) (m_used : Nat) (i_everywhere : Int32) (i_again0 : Int32) (i_d0 : Int32) (i_never : Int32) (i_firstCame : Int32) (i_longRun : Int32) (i_moved : Int32) (i_crowd : Int32) (i_l0 : Int32) (i_fitMany : Int32) (i_fitLeast : Int32) (i_fitMost : Int32) (m_fitPost : Nat) (m_fitEnd : Nat) (m_keptPosts : Nat) (i_x0 : Int32) (f_all : Nat → Int32) (f_posts : Nat → Int32) (f_shut : Nat → Int32) (f_here : Nat → Int32) (f_was : Nat → Int32) (c_ : Int32) (hL : zML f_all i_z0 i_crossings) (hP : zMP f_posts) (hV : zMV (zRo f_all i_z0) f_posts) (hc0 : 0 ≤ c_.toInt) (hc6 : c_.toInt ≤ 6) (hcx : c_.toInt < i_crossings.toInt) (hH : zHB 100000 f_here) : zMi l T yX12_goes cX12_goes 2 (some .boolean) 4 0 0 [.ref mo, .int c_] [[(mo, .inr (11, [.ref m_all, .ref m_has, .int i_size, .int i_next, .int i_where, .int i_token, .int i_number, .int i_word, .int i_wrong, .int i_farCrossing, .ref m_read, .int i_z0, .int i_crossings, .int i_inns, .ref m_posts, .ref m_shut, .ref m_here, .int i_steps, .int i_done, .int i_at, .int i_gone, .ref m_was, .ref m_came, .ref m_seenAt, .ref m_rowWorth, .ref m_farBy, .ref m_used, .int i_everywhere, .int i_again0, .int i_d0, .int i_never, .int i_firstCame, .int i_longRun, .int i_moved, .int i_crowd, .int i_l0, .int i_fitMany, .int i_fitLeast, .int i_fitMost, .ref m_fitPost, .ref m_fitEnd, .ref m_keptPosts, .int i_x0]))], [(m_all, .inl (T.2 0, 3952, .inl f_all))], [(m_posts, .inl (T.2 0, 7, .inl f_posts))], [(m_shut, .inl (T.2 0, 7, .inl f_shut))], [(m_here, .inl (T.2 0, 7, .inl f_here))], [(m_was, .inl (T.2 0, 7, .inl f_was))]] (fun (r : Int32) bs => ∃ (j_at : Int32) (j_gone : Int32) (j_steps : Int32) (j_moved : Int32) (j_firstCame : Int32) (g_posts : Nat → Int32) (g_here : Nat → Int32) (g_was : Nat → Int32), bs = [[(mo, .inr (11, [.ref m_all, .ref m_has, .int i_size, .int i_next, .int i_where, .int i_token, .int i_number, .int i_word, .int i_wrong, .int i_farCrossing, .ref m_read, .int i_z0, .int i_crossings, .int i_inns, .ref m_posts, .ref m_shut, .ref m_here, .int j_steps, .int i_done, .int j_at, .int j_gone, .ref m_was, .ref m_came, .ref m_seenAt, .ref m_rowWorth, .ref m_farBy, .ref m_used, .int i_everywhere, .int i_again0, .int i_d0, .int i_never, .int j_firstCame, .int i_longRun, .int j_moved, .int i_crowd, .int i_l0, .int i_fitMany, .int i_fitLeast, .int i_fitMost, .ref m_fitPost, .ref m_fitEnd, .ref m_keptPosts, .int i_x0]))], [(m_all, .inl (T.2 0, 3952, .inl f_all))], [(m_posts, .inl (T.2 0, 7, .inl g_posts))], [(m_shut, .inl (T.2 0, 7, .inl f_shut))], [(m_here, .inl (T.2 0, 7, .inl g_here))], [(m_was, .inl (T.2 0, 7, .inl g_was))]] ∧ (r = 1 ∧ zGoF i_crossings (zWo f_all i_z0 i_inns) (zLo f_all i_z0) c_ (f_posts, f_shut, f_here, i_steps, i_never) = some (g_posts, f_shut, g_here, j_steps, i_never) ∨ r = 0 ∧ zGoF i_crossings (zWo f_all i_z0 i_inns) (zLo f_all i_z0) c_ (f_posts, f_shut, f_here, i_steps, i_never) = none ∧ g_posts = f_posts ∧ g_here = f_here ∧ j_steps = i_steps) ∧ zMV (zRo f_all i_z0) g_posts ∧ zMP g_posts ∧ (∀ m : Int, m ≤ 100000 → zHB m f_here → zHB (m + 1) g_here)) := by
  refine zMi_of (own := RX12) (by decide) rfl (Nat.le_of_ble_eq_true rfl) ?_
  intro p e s m args below meth c A ls C hr hlocks hnm hAe G hl
  have hx := C.1
  have hb := C.2.1
  have hl : lv_has ls 2 [(0, .ref mo), (1, .int c_)] := hl
  have hz := hL.1
  have hcr := hL.cr
  have hPl := zP3_m (n := i_inns) hL hP
  have hLb2 := zLo_m (n := i_inns) hL
  have hHc := hH c_.toNatClampNeg (by have q9 := z_clI (x := c_) (by omega); omega)
  have hS1 : zBit i_inns c_ = 1 → zStep f_posts f_shut (zWo f_all i_z0 i_inns) (zLo f_all i_z0) c_ = -1 := fun q8 => zStep_inn q8 hc0 (by omega)
  refine lv_aload_n hx hb dX12_goes_0 rfl (lv_at hl 0 rfl) ?_
  refine lv_iload_n hx hb dX12_goes_1 rfl (lv_at hl 1 rfl) ?_
  refine z_Vi (bc := [[(mo, .inr (11, [.ref m_all, .ref m_has, .int i_size, .int i_next, .int i_where, .int i_token, .int i_number, .int i_word, .int i_wrong, .int i_farCrossing, .ref m_read, .int i_z0, .int i_crossings, .int i_inns, .ref m_posts, .ref m_shut, .ref m_here, .int i_steps, .int i_done, .int i_at, .int i_gone, .ref m_was, .ref m_came, .ref m_seenAt, .ref m_rowWorth, .ref m_farBy, .ref m_used, .int i_everywhere, .int i_again0, .int i_d0, .int i_never, .int i_firstCame, .int i_longRun, .int i_moved, .int i_crowd, .int i_l0, .int i_fitMany, .int i_fitLeast, .int i_fitMost, .ref m_fitPost, .ref m_fitEnd, .ref m_keptPosts, .int i_x0]))]]) (br := [[(m_all, .inl (T.2 0, 3952, .inl f_all))], [(m_posts, .inl (T.2 0, 7, .inl f_posts))], [(m_shut, .inl (T.2 0, 7, .inl f_shut))], [(m_here, .inl (T.2 0, 7, .inl f_here))], [(m_was, .inl (T.2 0, 7, .inl f_was))]]) (As := [.int c_]) (rest := []) C G (c_m_isInn l T mo m_all m_has i_size i_next i_where i_token i_number i_word i_wrong i_farCrossing m_read i_z0 i_crossings i_inns m_posts m_shut m_here i_steps i_done i_at i_gone m_was m_came m_seenAt m_rowWorth m_farBy m_used i_everywhere i_again0 i_d0 i_never i_firstCame i_longRun i_moved i_crowd i_l0 i_fitMany i_fitLeast i_fitMost m_fitPost m_fitEnd m_keptPosts i_x0 c_) (kV_RX12_178 C.2.2.2.2 (Nat.le_of_ble_eq_true rfl) (Nat.le_of_ble_eq_true rfl)) [0] [1, 2, 3, 4, 5] rfl rfl (ci := 11) (qc := (RX12, TX12, 43)) rfl rfl (List.mem_flatten.mpr ⟨_, List.mem_of_getElem? (i := 0) rfl, List.mem_cons_self⟩) rfl rfl hl.1 dX12_goes_2 (Nat.le_of_ble_eq_true rfl) (Nat.le_of_ble_eq_true rfl) (fun r_2 b1 H locs hw G => ?_)
  refine hw.elim fun hbs9 hc_1 => ?_
  clear hw
  subst hbs9
  have G : zS T A s.heap s [[(m_all, .inl (T.2 0, 3952, .inl f_all))], [(m_posts, .inl (T.2 0, 7, .inl f_posts))], [(m_shut, .inl (T.2 0, 7, .inl f_shut))], [(m_here, .inl (T.2 0, 7, .inl f_here))], [(m_was, .inl (T.2 0, 7, .inl f_was))], [(mo, .inr (11, [.ref m_all, .ref m_has, .int i_size, .int i_next, .int i_where, .int i_token, .int i_number, .int i_word, .int i_wrong, .int i_farCrossing, .ref m_read, .int i_z0, .int i_crossings, .int i_inns, .ref m_posts, .ref m_shut, .ref m_here, .int i_steps, .int i_done, .int i_at, .int i_gone, .ref m_was, .ref m_came, .ref m_seenAt, .ref m_rowWorth, .ref m_farBy, .ref m_used, .int i_everywhere, .int i_again0, .int i_d0, .int i_never, .int i_firstCame, .int i_longRun, .int i_moved, .int i_crowd, .int i_l0, .int i_fitMany, .int i_fitLeast, .int i_fitMost, .ref m_fitPost, .ref m_fitEnd, .ref m_keptPosts, .int i_x0]))]] _ _ := G
  rcases hc_1 with ⟨rfl, h_3⟩ | ⟨rfl, h_4⟩
  · have h_3 : zInn i_inns c_ := h_3
    refine lv_if_ne (tgt := 17) hx hb dX12_goes_5 (by decide) (fun _ => ?_) (fun q => absurd q (by decide))
    refine lv_iconst (v := 0) hx hb dX12_goes_17 (by decide) ?_
    have G := G.sub (bs' := [[(mo, .inr (11, [.ref m_all, .ref m_has, .int i_size, .int i_next, .int i_where, .int i_token, .int i_number, .int i_word, .int i_wrong, .int i_farCrossing, .ref m_read, .int i_z0, .int i_crossings, .int i_inns, .ref m_posts, .ref m_shut, .ref m_here, .int i_steps, .int i_done, .int i_at, .int i_gone, .ref m_was, .ref m_came, .ref m_seenAt, .ref m_rowWorth, .ref m_farBy, .ref m_used, .int i_everywhere, .int i_again0, .int i_d0, .int i_never, .int i_firstCame, .int i_longRun, .int i_moved, .int i_crowd, .int i_l0, .int i_fitMany, .int i_fitLeast, .int i_fitMost, .ref m_fitPost, .ref m_fitEnd, .ref m_keptPosts, .int i_x0]))], [(m_all, .inl (T.2 0, 3952, .inl f_all))], [(m_posts, .inl (T.2 0, 7, .inl f_posts))], [(m_shut, .inl (T.2 0, 7, .inl f_shut))], [(m_here, .inl (T.2 0, 7, .inl f_here))], [(m_was, .inl (T.2 0, 7, .inl f_was))]]) [5, 0, 1, 2, 3, 4] rfl
    exact z_zret C hr hlocks G (Nat.le_of_ble_eq_true rfl) (Nat.le_of_ble_eq_true rfl) dX12_goes_18 rfl ⟨i_at, i_gone, i_steps, i_moved, i_firstCame, f_posts, f_here, f_was, rfl, (Or.inr ⟨rfl, by unfold zGoF; rw [if_neg (fun q8 => by first | (have q7 := q8.1.2; have q7 : 1 ≤ (f_here c_.toNatClampNeg).toInt := q7; omega) | exact q8.2 (hS1 (by assumption)))], rfl, rfl, rfl⟩), hV, hP, (fun m hm hx => zHB_m hx (by omega))⟩
  · have h_4 : ¬ zInn i_inns c_ := h_4
    refine lv_if_ne (tgt := 17) hx hb dX12_goes_5 (by decide) (fun q => absurd (by decide) q) (fun _ => ?_)
    refine lv_aload_n hx hb dX12_goes_8 rfl (lv_at hl 0 rfl) ?_
    refine z_get C G clX12 5 rfl 16 (by decide) m_fl_RX12_26 rfl dX12_goes_9 ?_
    refine lv_iload_n hx hb dX12_goes_12 rfl (lv_at hl 1 rfl) ?_
    refine z_ild C G 3 rfl (vp_in_iff.mpr ⟨by omega, by omega⟩) dX12_goes_13 ?_
    refine lv_topi (fun v_5 ev_5 => ?_)
    subst ev_5
    refine lv_if_ne (tgt := 19) hx hb dX12_goes_14 (by decide) (fun c_6 => ?_) (fun c_6 => ?_)
    · have c_6n : ¬ (f_here c_.toNatClampNeg).toInt = (0 : Int) := fun q => c_6 ((fa_eq _ _).mpr q)
      refine lv_aload_n hx hb dX12_goes_19 rfl (lv_at hl 0 rfl) ?_
      refine lv_iload_n hx hb dX12_goes_20 rfl (lv_at hl 1 rfl) ?_
      refine z_Vv (bc := [[(mo, .inr (11, [.ref m_all, .ref m_has, .int i_size, .int i_next, .int i_where, .int i_token, .int i_number, .int i_word, .int i_wrong, .int i_farCrossing, .ref m_read, .int i_z0, .int i_crossings, .int i_inns, .ref m_posts, .ref m_shut, .ref m_here, .int i_steps, .int i_done, .int i_at, .int i_gone, .ref m_was, .ref m_came, .ref m_seenAt, .ref m_rowWorth, .ref m_farBy, .ref m_used, .int i_everywhere, .int i_again0, .int i_d0, .int i_never, .int i_firstCame, .int i_longRun, .int i_moved, .int i_crowd, .int i_l0, .int i_fitMany, .int i_fitLeast, .int i_fitMost, .ref m_fitPost, .ref m_fitEnd, .ref m_keptPosts, .int i_x0]))], [(m_was, .inl (T.2 0, 7, .inl f_was))]]) (br := [[(m_all, .inl (T.2 0, 3952, .inl f_all))], [(m_posts, .inl (T.2 0, 7, .inl f_posts))], [(m_shut, .inl (T.2 0, 7, .inl f_shut))], [(m_here, .inl (T.2 0, 7, .inl f_here))]]) (As := [.int c_]) (rest := []) C G (c_fm_puts l T mo m_all m_has i_size i_next i_where i_token i_number i_word i_wrong i_farCrossing m_read i_z0 i_crossings i_inns m_posts m_shut m_here i_steps i_done i_at i_gone m_was m_came m_seenAt m_rowWorth m_farBy m_used i_everywhere i_again0 i_d0 i_never i_firstCame i_longRun i_moved i_crowd i_l0 i_fitMany i_fitLeast i_fitMost m_fitPost m_fitEnd m_keptPosts i_x0 f_was c_) (kV_RX12_211 C.2.2.2.2 (Nat.le_of_ble_eq_true rfl) (Nat.le_of_ble_eq_true rfl)) [5, 4] [0, 1, 2, 3] rfl rfl (ci := 11) (qc := (RX12, TX12, 43)) rfl rfl (List.mem_flatten.mpr ⟨_, List.mem_of_getElem? (i := 0) rfl, List.mem_cons_self⟩) rfl rfl hl.1 dX12_goes_21 (Nat.le_of_ble_eq_true rfl) (Nat.le_of_ble_eq_true rfl) (fun b1 H locs hw G => ?_)
      refine hw.elim fun g_was_7 w90 => w90.elim fun hbs9 h_8 => ?_
      clear hw w90
      subst hbs9
      have G : zS T A s.heap s [[(m_all, .inl (T.2 0, 3952, .inl f_all))], [(m_posts, .inl (T.2 0, 7, .inl f_posts))], [(m_shut, .inl (T.2 0, 7, .inl f_shut))], [(m_here, .inl (T.2 0, 7, .inl f_here))], [(mo, .inr (11, [.ref m_all, .ref m_has, .int i_size, .int i_next, .int i_where, .int i_token, .int i_number, .int i_word, .int i_wrong, .int i_farCrossing, .ref m_read, .int i_z0, .int i_crossings, .int i_inns, .ref m_posts, .ref m_shut, .ref m_here, .int i_steps, .int i_done, .int c_, .int 0, .ref m_was, .ref m_came, .ref m_seenAt, .ref m_rowWorth, .ref m_farBy, .ref m_used, .int i_everywhere, .int i_again0, .int i_d0, .int i_never, .int i_firstCame, .int i_longRun, .int i_moved, .int i_crowd, .int i_l0, .int i_fitMany, .int i_fitLeast, .int i_fitMost, .ref m_fitPost, .ref m_fitEnd, .ref m_keptPosts, .int i_x0]))], [(m_was, .inl (T.2 0, 7, .inl g_was_7))]] _ _ := G
      refine lv_aload_n hx hb dX12_goes_24 rfl (lv_at hl 0 rfl) ?_
      refine z_Vi (bc := [[(mo, .inr (11, [.ref m_all, .ref m_has, .int i_size, .int i_next, .int i_where, .int i_token, .int i_number, .int i_word, .int i_wrong, .int i_farCrossing, .ref m_read, .int i_z0, .int i_crossings, .int i_inns, .ref m_posts, .ref m_shut, .ref m_here, .int i_steps, .int i_done, .int c_, .int 0, .ref m_was, .ref m_came, .ref m_seenAt, .ref m_rowWorth, .ref m_farBy, .ref m_used, .int i_everywhere, .int i_again0, .int i_d0, .int i_never, .int i_firstCame, .int i_longRun, .int i_moved, .int i_crowd, .int i_l0, .int i_fitMany, .int i_fitLeast, .int i_fitMost, .ref m_fitPost, .ref m_fitEnd, .ref m_keptPosts, .int i_x0]))], [(m_all, .inl (T.2 0, 3952, .inl f_all))], [(m_posts, .inl (T.2 0, 7, .inl f_posts))], [(m_shut, .inl (T.2 0, 7, .inl f_shut))], [(m_was, .inl (T.2 0, 7, .inl g_was_7))]]) (br := [[(m_here, .inl (T.2 0, 7, .inl f_here))]]) (As := []) (rest := []) C G (c_fm_stepsOn l T mo m_all m_has i_size i_next i_where i_token i_number i_word i_wrong i_farCrossing m_read i_z0 i_crossings i_inns m_posts m_shut m_here i_steps i_done c_ 0 m_was m_came m_seenAt m_rowWorth m_farBy m_used i_everywhere i_again0 i_d0 i_never i_firstCame i_longRun i_moved i_crowd i_l0 i_fitMany i_fitLeast i_fitMost m_fitPost m_fitEnd m_keptPosts i_x0 f_all f_posts f_shut g_was_7 (by first | with_reducible assumption | with_reducible rfl | omega | assumption | rfl) (by first | with_reducible assumption | with_reducible rfl | omega | assumption | rfl) (by first | with_reducible assumption | with_reducible rfl | omega | assumption | rfl) (by decide) (by decide) (by first | with_reducible assumption | with_reducible rfl | omega | assumption | rfl) (by first | with_reducible assumption | with_reducible rfl | omega | assumption | rfl)) (kV_RX12_214 C.2.2.2.2 (Nat.le_of_ble_eq_true rfl) (Nat.le_of_ble_eq_true rfl)) [4, 0, 1, 2, 5] [3] rfl rfl (ci := 11) (qc := (RX12, TX12, 43)) rfl rfl (List.mem_flatten.mpr ⟨_, List.mem_of_getElem? (i := 0) rfl, List.mem_cons_self⟩) rfl rfl hl.1 dX12_goes_25 (Nat.le_of_ble_eq_true rfl) (Nat.le_of_ble_eq_true rfl) (fun r_20 b1 H locs hw G => ?_)
      refine hw.elim fun j_at_10 w90 => w90.elim fun j_gone_11 w91 => w91.elim fun g_posts_12 w92 => w92.elim fun g_was_13 w93 => w93.elim fun hbs9 w94 => w94.elim fun h_14 w95 => w95.elim fun h_15 w96 => w96.elim fun h_16 w97 => w97.elim fun h_17 w98 => w98.elim fun h_18 hc_19 => ?_
      clear hw w90 w91 w92 w93 w94 w95 w96 w97 w98
      subst hbs9
      have G : zS T A s.heap s [[(m_here, .inl (T.2 0, 7, .inl f_here))], [(mo, .inr (11, [.ref m_all, .ref m_has, .int i_size, .int i_next, .int i_where, .int i_token, .int i_number, .int i_word, .int i_wrong, .int i_farCrossing, .ref m_read, .int i_z0, .int i_crossings, .int i_inns, .ref m_posts, .ref m_shut, .ref m_here, .int i_steps, .int i_done, .int j_at_10, .int j_gone_11, .ref m_was, .ref m_came, .ref m_seenAt, .ref m_rowWorth, .ref m_farBy, .ref m_used, .int i_everywhere, .int i_again0, .int i_d0, .int i_never, .int i_firstCame, .int i_longRun, .int i_moved, .int i_crowd, .int i_l0, .int i_fitMany, .int i_fitLeast, .int i_fitMost, .ref m_fitPost, .ref m_fitEnd, .ref m_keptPosts, .int i_x0]))], [(m_all, .inl (T.2 0, 3952, .inl f_all))], [(m_posts, .inl (T.2 0, 7, .inl g_posts_12))], [(m_shut, .inl (T.2 0, 7, .inl f_shut))], [(m_was, .inl (T.2 0, 7, .inl g_was_13))]] _ _ := G
      rcases hc_19 with ⟨rfl, h_21, h_22, h_23, h_24⟩ | ⟨rfl, h_25, h_26, h_27, h_28⟩
      · have h_21 : ¬ zStep f_posts f_shut (zWo f_all i_z0 i_inns) (zLo f_all i_z0) c_ = -1 := h_21
        have h_22 : j_at_10 = zStep f_posts f_shut (zWo f_all i_z0 i_inns) (zLo f_all i_z0) c_ := h_22
        have h_23 : j_gone_11.toInt = (0 : Int) + 1 := h_23
        have h_24 : g_was_13 = upd g_was_7 j_at_10.toNatClampNeg (g_was_7 j_at_10.toNatClampNeg + 1) := h_24
        refine lv_if_ne (tgt := 33) hx hb dX12_goes_28 (by decide) (fun _ => ?_) (fun q => absurd q (by decide))
        refine lv_aload_n hx hb dX12_goes_33 rfl (lv_at hl 0 rfl) ?_
        refine lv_iload_n hx hb dX12_goes_34 rfl (lv_at hl 1 rfl) ?_
        refine z_Vv (bc := [[(mo, .inr (11, [.ref m_all, .ref m_has, .int i_size, .int i_next, .int i_where, .int i_token, .int i_number, .int i_word, .int i_wrong, .int i_farCrossing, .ref m_read, .int i_z0, .int i_crossings, .int i_inns, .ref m_posts, .ref m_shut, .ref m_here, .int i_steps, .int i_done, .int j_at_10, .int j_gone_11, .ref m_was, .ref m_came, .ref m_seenAt, .ref m_rowWorth, .ref m_farBy, .ref m_used, .int i_everywhere, .int i_again0, .int i_d0, .int i_never, .int i_firstCame, .int i_longRun, .int i_moved, .int i_crowd, .int i_l0, .int i_fitMany, .int i_fitLeast, .int i_fitMost, .ref m_fitPost, .ref m_fitEnd, .ref m_keptPosts, .int i_x0]))], [(m_here, .inl (T.2 0, 7, .inl f_here))]]) (br := [[(m_all, .inl (T.2 0, 3952, .inl f_all))], [(m_posts, .inl (T.2 0, 7, .inl g_posts_12))], [(m_shut, .inl (T.2 0, 7, .inl f_shut))], [(m_was, .inl (T.2 0, 7, .inl g_was_13))]]) (As := [.int c_]) (rest := []) C G (c_fm_goesFrom l T mo m_all m_has i_size i_next i_where i_token i_number i_word i_wrong i_farCrossing m_read i_z0 i_crossings i_inns m_posts m_shut m_here i_steps i_done j_at_10 j_gone_11 m_was m_came m_seenAt m_rowWorth m_farBy m_used i_everywhere i_again0 i_d0 i_never i_firstCame i_longRun i_moved i_crowd i_l0 i_fitMany i_fitLeast i_fitMost m_fitPost m_fitEnd m_keptPosts i_x0 f_here c_ (by first | with_reducible assumption | with_reducible rfl | omega | assumption | rfl) (by first | with_reducible assumption | with_reducible rfl | omega | assumption | rfl) (by first | with_reducible assumption | with_reducible rfl | omega | assumption | rfl) (by first | with_reducible assumption | with_reducible rfl | omega | assumption | rfl)) (kV_RX12_317 C.2.2.2.2 (Nat.le_of_ble_eq_true rfl) (Nat.le_of_ble_eq_true rfl)) [1, 0] [2, 3, 4, 5] rfl rfl (ci := 11) (qc := (RX12, TX12, 43)) rfl rfl (List.mem_flatten.mpr ⟨_, List.mem_of_getElem? (i := 0) rfl, List.mem_cons_self⟩) rfl rfl hl.1 dX12_goes_35 (Nat.le_of_ble_eq_true rfl) (Nat.le_of_ble_eq_true rfl) (fun b1 H locs hw G => ?_)
        refine hw.elim fun j_steps_29 w90 => w90.elim fun j_moved_30 w91 => w91.elim fun j_firstCame_31 w92 => w92.elim fun g_here_32 w93 => w93.elim fun hbs9 w94 => w94.elim fun h_33 h_34 => ?_
        clear hw w90 w91 w92 w93 w94
        subst hbs9
        have G : zS T A s.heap s [[(m_all, .inl (T.2 0, 3952, .inl f_all))], [(m_posts, .inl (T.2 0, 7, .inl g_posts_12))], [(m_shut, .inl (T.2 0, 7, .inl f_shut))], [(m_was, .inl (T.2 0, 7, .inl g_was_13))], [(mo, .inr (11, [.ref m_all, .ref m_has, .int i_size, .int i_next, .int i_where, .int i_token, .int i_number, .int i_word, .int i_wrong, .int i_farCrossing, .ref m_read, .int i_z0, .int i_crossings, .int i_inns, .ref m_posts, .ref m_shut, .ref m_here, .int j_steps_29, .int i_done, .int j_at_10, .int j_gone_11, .ref m_was, .ref m_came, .ref m_seenAt, .ref m_rowWorth, .ref m_farBy, .ref m_used, .int i_everywhere, .int i_again0, .int i_d0, .int i_never, .int j_firstCame_31, .int i_longRun, .int j_moved_30, .int i_crowd, .int i_l0, .int i_fitMany, .int i_fitLeast, .int i_fitMost, .ref m_fitPost, .ref m_fitEnd, .ref m_keptPosts, .int i_x0]))], [(m_here, .inl (T.2 0, 7, .inl g_here_32))]] _ _ := G
        refine lv_iconst (v := 1) hx hb dX12_goes_38 (by decide) ?_
        have G := G.sub (bs' := [[(mo, .inr (11, [.ref m_all, .ref m_has, .int i_size, .int i_next, .int i_where, .int i_token, .int i_number, .int i_word, .int i_wrong, .int i_farCrossing, .ref m_read, .int i_z0, .int i_crossings, .int i_inns, .ref m_posts, .ref m_shut, .ref m_here, .int j_steps_29, .int i_done, .int j_at_10, .int j_gone_11, .ref m_was, .ref m_came, .ref m_seenAt, .ref m_rowWorth, .ref m_farBy, .ref m_used, .int i_everywhere, .int i_again0, .int i_d0, .int i_never, .int j_firstCame_31, .int i_longRun, .int j_moved_30, .int i_crowd, .int i_l0, .int i_fitMany, .int i_fitLeast, .int i_fitMost, .ref m_fitPost, .ref m_fitEnd, .ref m_keptPosts, .int i_x0]))], [(m_all, .inl (T.2 0, 3952, .inl f_all))], [(m_posts, .inl (T.2 0, 7, .inl g_posts_12))], [(m_shut, .inl (T.2 0, 7, .inl f_shut))], [(m_here, .inl (T.2 0, 7, .inl g_here_32))], [(m_was, .inl (T.2 0, 7, .inl g_was_13))]]) [4, 0, 1, 2, 5, 3] rfl
        exact z_zret C hr hlocks G (Nat.le_of_ble_eq_true rfl) (Nat.le_of_ble_eq_true rfl) dX12_goes_39 rfl ⟨j_at_10, j_gone_11, j_steps_29, j_moved_30, j_firstCame_31, g_posts_12, g_here_32, g_was_13, rfl, (Or.inl ⟨rfl, zGoF_i ⟨⟨by omega, by omega, by omega⟩, by omega⟩ h_21 h_18 h_22 h_33 (by rw [h_34, (show j_gone_11 = 1 from Int32.toInt_inj.mp (by have q9 : (0 : Int32).toInt = 0 := rfl; have q8 := h_23; show _ = (1 : Int); omega))])⟩), h_17, h_14, (fun m hm hx => by rw [h_33]; exact zMvH_b hm hx ⟨by omega, by omega⟩ ⟨by omega, by omega⟩ (by omega))⟩
      · have h_25 : zStep f_posts f_shut (zWo f_all i_z0 i_inns) (zLo f_all i_z0) c_ = -1 := h_25
        have h_26 : j_at_10 = c_ := h_26
        have h_27 : j_gone_11 = 0 := h_27
        have h_28 : g_was_13 = g_was_7 := h_28
        refine lv_if_ne (tgt := 33) hx hb dX12_goes_28 (by decide) (fun q => absurd (by decide) q) (fun _ => ?_)
        refine lv_iconst (v := 0) hx hb dX12_goes_31 (by decide) ?_
        have G := G.sub (bs' := [[(mo, .inr (11, [.ref m_all, .ref m_has, .int i_size, .int i_next, .int i_where, .int i_token, .int i_number, .int i_word, .int i_wrong, .int i_farCrossing, .ref m_read, .int i_z0, .int i_crossings, .int i_inns, .ref m_posts, .ref m_shut, .ref m_here, .int i_steps, .int i_done, .int j_at_10, .int j_gone_11, .ref m_was, .ref m_came, .ref m_seenAt, .ref m_rowWorth, .ref m_farBy, .ref m_used, .int i_everywhere, .int i_again0, .int i_d0, .int i_never, .int i_firstCame, .int i_longRun, .int i_moved, .int i_crowd, .int i_l0, .int i_fitMany, .int i_fitLeast, .int i_fitMost, .ref m_fitPost, .ref m_fitEnd, .ref m_keptPosts, .int i_x0]))], [(m_all, .inl (T.2 0, 3952, .inl f_all))], [(m_posts, .inl (T.2 0, 7, .inl g_posts_12))], [(m_shut, .inl (T.2 0, 7, .inl f_shut))], [(m_here, .inl (T.2 0, 7, .inl f_here))], [(m_was, .inl (T.2 0, 7, .inl g_was_13))]]) [1, 2, 3, 4, 0, 5] rfl
        exact z_zret C hr hlocks G (Nat.le_of_ble_eq_true rfl) (Nat.le_of_ble_eq_true rfl) dX12_goes_32 rfl ⟨j_at_10, j_gone_11, i_steps, i_moved, i_firstCame, g_posts_12, f_here, g_was_13, rfl, (Or.inr ⟨rfl, by unfold zGoF; rw [if_neg (fun q8 => q8.2 h_25)], by rw [h_18]; exact zPost_no h_25 hPl hLb2, rfl, rfl⟩), h_17, h_14, (fun m hm hx => zHB_m hx (by omega))⟩
    · have c_6n : (f_here c_.toNatClampNeg).toInt = (0 : Int) := (fa_eq _ _).mp c_6
      refine lv_iconst (v := 0) hx hb dX12_goes_17 (by decide) ?_
      have G := G.sub (bs' := [[(mo, .inr (11, [.ref m_all, .ref m_has, .int i_size, .int i_next, .int i_where, .int i_token, .int i_number, .int i_word, .int i_wrong, .int i_farCrossing, .ref m_read, .int i_z0, .int i_crossings, .int i_inns, .ref m_posts, .ref m_shut, .ref m_here, .int i_steps, .int i_done, .int i_at, .int i_gone, .ref m_was, .ref m_came, .ref m_seenAt, .ref m_rowWorth, .ref m_farBy, .ref m_used, .int i_everywhere, .int i_again0, .int i_d0, .int i_never, .int i_firstCame, .int i_longRun, .int i_moved, .int i_crowd, .int i_l0, .int i_fitMany, .int i_fitLeast, .int i_fitMost, .ref m_fitPost, .ref m_fitEnd, .ref m_keptPosts, .int i_x0]))], [(m_all, .inl (T.2 0, 3952, .inl f_all))], [(m_posts, .inl (T.2 0, 7, .inl f_posts))], [(m_shut, .inl (T.2 0, 7, .inl f_shut))], [(m_here, .inl (T.2 0, 7, .inl f_here))], [(m_was, .inl (T.2 0, 7, .inl f_was))]]) [5, 0, 1, 2, 3, 4] rfl
      exact z_zret C hr hlocks G (Nat.le_of_ble_eq_true rfl) (Nat.le_of_ble_eq_true rfl) dX12_goes_18 rfl ⟨i_at, i_gone, i_steps, i_moved, i_firstCame, f_posts, f_here, f_was, rfl, (Or.inr ⟨rfl, by unfold zGoF; rw [if_neg (fun q8 => by first | (have q7 := q8.1.2; have q7 : 1 ≤ (f_here c_.toNatClampNeg).toInt := q7; omega) | exact q8.2 (hS1 (by assumption)))], rfl, rfl, rfl⟩), hV, hP, (fun m hm hx => zHB_m hx (by omega))⟩
set_option maxHeartbeats 4000000 in
set_option maxRecDepth 100000 in
/-- c_fm_runs0 -/
theorem c_fm_runs0 (l : Launch) (T : zTy) (mo : Nat) (m_all : Nat) (m_has : Nat) (i_size : Int32) (i_next : Int32) (i_where : Int32) (i_token : Int32) (i_number : Int32) (i_word : Int32) (i_wrong : Int32) (i_farCrossing : Int32) (m_read : Nat) (i_z0 : Int32) (i_crossings : Int32) (i_inns : Int32) (m_posts : Nat) (m_shut : Nat) (m_here : Nat) (i_steps : Int32) (i_done : Int32) (i_at : Int32) (i_gone : Int32) (m_was : Nat) (m_came : Nat) (m_seenAt : Nat) (m_rowWorth : Nat) (m_farBy : Nat) (m_used : Nat) (i_everywhere : Int32) (i_again0 : Int32) (i_d0 : Int32) (i_never : Int32) (i_firstCame : Int32) (i_longRun : Int32) (i_moved : Int32) (i_crowd : Int32) (i_l0 : Int32) (i_fitMany : Int32) (i_fitLeast : Int32) (i_fitMost : Int32) (m_fitPost : Nat) (m_fitEnd : Nat) (m_keptPosts : Nat) (i_x0 : Int32) (f_all : Nat → Int32) (f_posts : Nat → Int32) (f_shut : Nat → Int32) (f_here : Nat → Int32) (f_was : Nat → Int32) (c_ : Int32) (hL : zML f_all i_z0 i_crossings) (hP : zMP f_posts) (hV : zMV (zRo f_all i_z0) f_posts) (hc0 : 0 ≤ c_.toInt) (hc6 : c_.toInt ≤ 6) (hcx : c_.toInt < i_crossings.toInt) (hH : zHB 100000 f_here) : zMi l T yX12_runs0 cX12_runs0 2 (some .boolean) 5 0 0 [.ref mo, .int c_] [[(mo, .inr (11, [.ref m_all, .ref m_has, .int i_size, .int i_next, .int i_where, .int i_token, .int i_number, .int i_word, .int i_wrong, .int i_farCrossing, .ref m_read, .int i_z0, .int i_crossings, .int i_inns, .ref m_posts, .ref m_shut, .ref m_here, .int i_steps, .int i_done, .int i_at, .int i_gone, .ref m_was, .ref m_came, .ref m_seenAt, .ref m_rowWorth, .ref m_farBy, .ref m_used, .int i_everywhere, .int i_again0, .int i_d0, .int i_never, .int i_firstCame, .int i_longRun, .int i_moved, .int i_crowd, .int i_l0, .int i_fitMany, .int i_fitLeast, .int i_fitMost, .ref m_fitPost, .ref m_fitEnd, .ref m_keptPosts, .int i_x0]))], [(m_all, .inl (T.2 0, 3952, .inl f_all))], [(m_posts, .inl (T.2 0, 7, .inl f_posts))], [(m_shut, .inl (T.2 0, 7, .inl f_shut))], [(m_here, .inl (T.2 0, 7, .inl f_here))], [(m_was, .inl (T.2 0, 7, .inl f_was))]] (fun (r : Int32) bs => ∃ (j_at : Int32) (j_gone : Int32) (j_steps : Int32) (j_moved : Int32) (j_firstCame : Int32) (j_never : Int32) (j_longRun : Int32) (g_posts : Nat → Int32) (g_here : Nat → Int32) (g_was : Nat → Int32), bs = [[(mo, .inr (11, [.ref m_all, .ref m_has, .int i_size, .int i_next, .int i_where, .int i_token, .int i_number, .int i_word, .int i_wrong, .int i_farCrossing, .ref m_read, .int i_z0, .int i_crossings, .int i_inns, .ref m_posts, .ref m_shut, .ref m_here, .int j_steps, .int i_done, .int j_at, .int j_gone, .ref m_was, .ref m_came, .ref m_seenAt, .ref m_rowWorth, .ref m_farBy, .ref m_used, .int i_everywhere, .int i_again0, .int i_d0, .int j_never, .int j_firstCame, .int j_longRun, .int j_moved, .int i_crowd, .int i_l0, .int i_fitMany, .int i_fitLeast, .int i_fitMost, .ref m_fitPost, .ref m_fitEnd, .ref m_keptPosts, .int i_x0]))], [(m_all, .inl (T.2 0, 3952, .inl f_all))], [(m_posts, .inl (T.2 0, 7, .inl g_posts))], [(m_shut, .inl (T.2 0, 7, .inl f_shut))], [(m_here, .inl (T.2 0, 7, .inl g_here))], [(m_was, .inl (T.2 0, 7, .inl g_was))]] ∧ (r = 1 ∧ zRuF i_crossings i_inns (zWo f_all i_z0 i_inns) (zLo f_all i_z0) c_ (f_posts, f_shut, f_here, i_steps, i_never) = some (g_posts, f_shut, g_here, j_steps, j_never) ∨ r = 0 ∧ zRuF i_crossings i_inns (zWo f_all i_z0 i_inns) (zLo f_all i_z0) c_ (f_posts, f_shut, f_here, i_steps, i_never) = none ∧ g_posts = f_posts ∧ g_here = f_here ∧ j_steps = i_steps ∧ j_never = i_never) ∧ zMV (zRo f_all i_z0) g_posts ∧ zMP g_posts ∧ (∀ m : Int, m ≤ 100000 → zHB m f_here → zHB (m + 1) g_here)) := by
  refine zMi_of (own := RX12) (by decide) rfl (Nat.le_of_ble_eq_true rfl) ?_
  intro p e s m args below meth c A ls C hr hlocks hnm hAe G hl
  have hx := C.1
  have hb := C.2.1
  have hl : lv_has ls 2 [(0, .ref mo), (1, .int c_)] := hl
  have hz := hL.1
  have hcr := hL.cr
  have hPl := zP3_m (n := i_inns) hL hP
  have hLb2 := zLo_m (n := i_inns) hL
  have hHc := hH c_.toNatClampNeg (by have q9 := z_clI (x := c_) (by omega); omega)
  have hS1 : zBit i_inns c_ = 1 → zStep f_posts f_shut (zWo f_all i_z0 i_inns) (zLo f_all i_z0) c_ = -1 := fun q8 => zStep_inn q8 hc0 (by omega)
  refine lv_aload_n hx hb dX12_runs0_0 rfl (lv_at hl 0 rfl) ?_
  refine z_get C G clX12 0 rfl 16 (by decide) m_fl_RX12_26 rfl dX12_runs0_1 ?_
  refine lv_iload_n hx hb dX12_runs0_4 rfl (lv_at hl 1 rfl) ?_
  refine z_ild C G 4 rfl (vp_in_iff.mpr ⟨by omega, by omega⟩) dX12_runs0_5 ?_
  refine lv_topi (fun v_1 ev_1 => ?_)
  subst ev_1
  refine lv_if_ne (tgt := 11) hx hb dX12_runs0_6 (by decide) (fun c_2 => ?_) (fun c_2 => ?_)
  · have c_2n : ¬ (f_here c_.toNatClampNeg).toInt = (0 : Int) := fun q => c_2 ((fa_eq _ _).mpr q)
    refine lv_aload_n hx hb dX12_runs0_11 rfl (lv_at hl 0 rfl) ?_
    refine lv_dup hx hb dX12_runs0_12 rfl ?_
    refine z_get C G clX12 0 rfl 30 (by decide) m_fl_RX12_320 rfl dX12_runs0_13 ?_
    refine lv_aload_n hx hb dX12_runs0_16 rfl (lv_at hl 0 rfl) ?_
    refine lv_iload_n hx hb dX12_runs0_17 rfl (lv_at hl 1 rfl) ?_
    refine z_Vi (bc := [[(mo, .inr (11, [.ref m_all, .ref m_has, .int i_size, .int i_next, .int i_where, .int i_token, .int i_number, .int i_word, .int i_wrong, .int i_farCrossing, .ref m_read, .int i_z0, .int i_crossings, .int i_inns, .ref m_posts, .ref m_shut, .ref m_here, .int i_steps, .int i_done, .int i_at, .int i_gone, .ref m_was, .ref m_came, .ref m_seenAt, .ref m_rowWorth, .ref m_farBy, .ref m_used, .int i_everywhere, .int i_again0, .int i_d0, .int i_never, .int i_firstCame, .int i_longRun, .int i_moved, .int i_crowd, .int i_l0, .int i_fitMany, .int i_fitLeast, .int i_fitMost, .ref m_fitPost, .ref m_fitEnd, .ref m_keptPosts, .int i_x0]))], [(m_all, .inl (T.2 0, 3952, .inl f_all))], [(m_posts, .inl (T.2 0, 7, .inl f_posts))], [(m_shut, .inl (T.2 0, 7, .inl f_shut))], [(m_was, .inl (T.2 0, 7, .inl f_was))]]) (br := [[(m_here, .inl (T.2 0, 7, .inl f_here))]]) (As := [.int c_]) (rest := [.int i_never, .ref mo]) C G (c_fm_walks l T mo m_all m_has i_size i_next i_where i_token i_number i_word i_wrong i_farCrossing m_read i_z0 i_crossings i_inns m_posts m_shut m_here i_steps i_done i_at i_gone m_was m_came m_seenAt m_rowWorth m_farBy m_used i_everywhere i_again0 i_d0 i_never i_firstCame i_longRun i_moved i_crowd i_l0 i_fitMany i_fitLeast i_fitMost m_fitPost m_fitEnd m_keptPosts i_x0 f_all f_posts f_shut f_was c_ (by first | with_reducible assumption | with_reducible rfl | omega | assumption | rfl) (by first | with_reducible assumption | with_reducible rfl | omega | assumption | rfl) (by first | with_reducible assumption | with_reducible rfl | omega | assumption | rfl) (by first | with_reducible assumption | with_reducible rfl | omega | assumption | rfl) (by first | with_reducible assumption | with_reducible rfl | omega | assumption | rfl)) (kV_RX12_217 C.2.2.2.2 (Nat.le_of_ble_eq_true rfl) (Nat.le_of_ble_eq_true rfl)) [0, 1, 2, 3, 5] [4] rfl rfl (ci := 11) (qc := (RX12, TX12, 43)) rfl rfl (List.mem_flatten.mpr ⟨_, List.mem_of_getElem? (i := 0) rfl, List.mem_cons_self⟩) rfl rfl hl.1 dX12_runs0_18 (Nat.le_of_ble_eq_true rfl) (Nat.le_of_ble_eq_true rfl) (fun r_17 b1 H locs hw G => ?_)
    refine hw.elim fun j_at_3 w90 => w90.elim fun j_gone_4 w91 => w91.elim fun g_posts_5 w92 => w92.elim fun g_was_6 w93 => w93.elim fun hbs9 w94 => w94.elim fun h_7 w95 => w95.elim fun h_8 w96 => w96.elim fun h_9 w97 => w97.elim fun h_10 w98 => w98.elim fun h_11 w99 => w99.elim fun h_12 w910 => w910.elim fun h_13 w911 => w911.elim fun h_14 w912 => w912.elim fun h_15 h_16 => ?_
    clear hw w90 w91 w92 w93 w94 w95 w96 w97 w98 w99 w910 w911 w912
    subst hbs9
    have G : zS T A s.heap s [[(m_here, .inl (T.2 0, 7, .inl f_here))], [(mo, .inr (11, [.ref m_all, .ref m_has, .int i_size, .int i_next, .int i_where, .int i_token, .int i_number, .int i_word, .int i_wrong, .int i_farCrossing, .ref m_read, .int i_z0, .int i_crossings, .int i_inns, .ref m_posts, .ref m_shut, .ref m_here, .int i_steps, .int i_done, .int j_at_3, .int j_gone_4, .ref m_was, .ref m_came, .ref m_seenAt, .ref m_rowWorth, .ref m_farBy, .ref m_used, .int i_everywhere, .int i_again0, .int i_d0, .int i_never, .int i_firstCame, .int i_longRun, .int i_moved, .int i_crowd, .int i_l0, .int i_fitMany, .int i_fitLeast, .int i_fitMost, .ref m_fitPost, .ref m_fitEnd, .ref m_keptPosts, .int i_x0]))], [(m_all, .inl (T.2 0, 3952, .inl f_all))], [(m_posts, .inl (T.2 0, 7, .inl g_posts_5))], [(m_shut, .inl (T.2 0, 7, .inl f_shut))], [(m_was, .inl (T.2 0, 7, .inl g_was_6))]] _ _ := G
    have hr1 : r_17.toInt = 1 ∧ zBit i_inns j_at_3 = 1 ∨ r_17.toInt = 0 ∧ ¬ zBit i_inns j_at_3 = 1 := by rcases h_12 with ⟨e9, b9⟩ | ⟨e9, b9⟩ <;> first | exact Or.inl ⟨by rw [e9]; rfl, b9⟩ | exact Or.inr ⟨by rw [e9]; rfl, b9⟩
    refine lv_if_eq (tgt := 28) hx hb dX12_runs0_21 (by decide) (fun c_18 => ?_) (fun c_18 => ?_)
    · have c_18n : r_17.toInt = (0 : Int) := (fa_eq _ _).mp c_18
      refine lv_iconst (v := 1) hx hb dX12_runs0_28 (by decide) ?_
      refine lv_iadd hx hb dX12_runs0_29 ?_
      refine z_put C G clX12 1 rfl 30 (by decide) m_fl_RX12_320 rfl rfl rfl (Nat.le_of_ble_eq_true rfl) dX12_runs0_30 (fun H locs G => ?_)
      have G : zS T A s.heap s [[(m_here, .inl (T.2 0, 7, .inl f_here))], [(mo, .inr (11, [.ref m_all, .ref m_has, .int i_size, .int i_next, .int i_where, .int i_token, .int i_number, .int i_word, .int i_wrong, .int i_farCrossing, .ref m_read, .int i_z0, .int i_crossings, .int i_inns, .ref m_posts, .ref m_shut, .ref m_here, .int i_steps, .int i_done, .int j_at_3, .int j_gone_4, .ref m_was, .ref m_came, .ref m_seenAt, .ref m_rowWorth, .ref m_farBy, .ref m_used, .int i_everywhere, .int i_again0, .int i_d0, .int (i_never + 1), .int i_firstCame, .int i_longRun, .int i_moved, .int i_crowd, .int i_l0, .int i_fitMany, .int i_fitLeast, .int i_fitMost, .ref m_fitPost, .ref m_fitEnd, .ref m_keptPosts, .int i_x0]))], [(m_all, .inl (T.2 0, 3952, .inl f_all))], [(m_posts, .inl (T.2 0, 7, .inl g_posts_5))], [(m_shut, .inl (T.2 0, 7, .inl f_shut))], [(m_was, .inl (T.2 0, 7, .inl g_was_6))]] _ _ := G
      refine lv_aload_n hx hb dX12_runs0_33 rfl (lv_at hl 0 rfl) ?_
      refine lv_aload_n hx hb dX12_runs0_34 rfl (lv_at hl 0 rfl) ?_
      refine z_get C G clX12 1 rfl 20 (by decide) m_fl_RX12_208 rfl dX12_runs0_35 ?_
      refine lv_aload_n hx hb dX12_runs0_38 rfl (lv_at hl 0 rfl) ?_
      refine z_get C G clX12 1 rfl 32 (by decide) m_fl_RX12_323 rfl dX12_runs0_39 ?_
      refine lv_icmp_le (tgt := 52) hx hb dX12_runs0_42 (by decide) (fun c_19 => ?_) (fun c_19 => ?_)
      · have c_19n : j_gone_4.toInt ≤ i_longRun.toInt := (fa_le _ _).mp c_19
        refine lv_aload_n hx hb dX12_runs0_52 rfl (lv_at hl 0 rfl) ?_
        refine z_get C G clX12 1 rfl 32 (by decide) m_fl_RX12_323 rfl dX12_runs0_53 ?_
        refine z_put C G clX12 1 rfl 32 (by decide) m_fl_RX12_323 rfl rfl rfl (Nat.le_of_ble_eq_true rfl) dX12_runs0_56 (fun H locs G => ?_)
        have G : zS T A s.heap s [[(m_here, .inl (T.2 0, 7, .inl f_here))], [(mo, .inr (11, [.ref m_all, .ref m_has, .int i_size, .int i_next, .int i_where, .int i_token, .int i_number, .int i_word, .int i_wrong, .int i_farCrossing, .ref m_read, .int i_z0, .int i_crossings, .int i_inns, .ref m_posts, .ref m_shut, .ref m_here, .int i_steps, .int i_done, .int j_at_3, .int j_gone_4, .ref m_was, .ref m_came, .ref m_seenAt, .ref m_rowWorth, .ref m_farBy, .ref m_used, .int i_everywhere, .int i_again0, .int i_d0, .int (i_never + 1), .int i_firstCame, .int i_longRun, .int i_moved, .int i_crowd, .int i_l0, .int i_fitMany, .int i_fitLeast, .int i_fitMost, .ref m_fitPost, .ref m_fitEnd, .ref m_keptPosts, .int i_x0]))], [(m_all, .inl (T.2 0, 3952, .inl f_all))], [(m_posts, .inl (T.2 0, 7, .inl g_posts_5))], [(m_shut, .inl (T.2 0, 7, .inl f_shut))], [(m_was, .inl (T.2 0, 7, .inl g_was_6))]] _ _ := G
        refine lv_aload_n hx hb dX12_runs0_59 rfl (lv_at hl 0 rfl) ?_
        refine lv_iload_n hx hb dX12_runs0_60 rfl (lv_at hl 1 rfl) ?_
        refine z_Vv (bc := [[(mo, .inr (11, [.ref m_all, .ref m_has, .int i_size, .int i_next, .int i_where, .int i_token, .int i_number, .int i_word, .int i_wrong, .int i_farCrossing, .ref m_read, .int i_z0, .int i_crossings, .int i_inns, .ref m_posts, .ref m_shut, .ref m_here, .int i_steps, .int i_done, .int j_at_3, .int j_gone_4, .ref m_was, .ref m_came, .ref m_seenAt, .ref m_rowWorth, .ref m_farBy, .ref m_used, .int i_everywhere, .int i_again0, .int i_d0, .int (i_never + 1), .int i_firstCame, .int i_longRun, .int i_moved, .int i_crowd, .int i_l0, .int i_fitMany, .int i_fitLeast, .int i_fitMost, .ref m_fitPost, .ref m_fitEnd, .ref m_keptPosts, .int i_x0]))], [(m_here, .inl (T.2 0, 7, .inl f_here))]]) (br := [[(m_all, .inl (T.2 0, 3952, .inl f_all))], [(m_posts, .inl (T.2 0, 7, .inl g_posts_5))], [(m_shut, .inl (T.2 0, 7, .inl f_shut))], [(m_was, .inl (T.2 0, 7, .inl g_was_6))]]) (As := [.int c_]) (rest := []) C G (c_fm_goesFrom l T mo m_all m_has i_size i_next i_where i_token i_number i_word i_wrong i_farCrossing m_read i_z0 i_crossings i_inns m_posts m_shut m_here i_steps i_done j_at_3 j_gone_4 m_was m_came m_seenAt m_rowWorth m_farBy m_used i_everywhere i_again0 i_d0 (i_never + 1) i_firstCame i_longRun i_moved i_crowd i_l0 i_fitMany i_fitLeast i_fitMost m_fitPost m_fitEnd m_keptPosts i_x0 f_here c_ (by first | with_reducible assumption | with_reducible rfl | omega | assumption | rfl) (by first | with_reducible assumption | with_reducible rfl | omega | assumption | rfl) (by first | with_reducible assumption | with_reducible rfl | omega | assumption | rfl) (by first | with_reducible assumption | with_reducible rfl | omega | assumption | rfl)) (kV_RX12_317 C.2.2.2.2 (Nat.le_of_ble_eq_true rfl) (Nat.le_of_ble_eq_true rfl)) [1, 0] [2, 3, 4, 5] rfl rfl (ci := 11) (qc := (RX12, TX12, 43)) rfl rfl (List.mem_flatten.mpr ⟨_, List.mem_of_getElem? (i := 0) rfl, List.mem_cons_self⟩) rfl rfl hl.1 dX12_runs0_61 (Nat.le_of_ble_eq_true rfl) (Nat.le_of_ble_eq_true rfl) (fun b1 H locs hw G => ?_)
        refine hw.elim fun j_steps_20 w90 => w90.elim fun j_moved_21 w91 => w91.elim fun j_firstCame_22 w92 => w92.elim fun g_here_23 w93 => w93.elim fun hbs9 w94 => w94.elim fun h_24 h_25 => ?_
        clear hw w90 w91 w92 w93 w94
        subst hbs9
        have G : zS T A s.heap s [[(m_all, .inl (T.2 0, 3952, .inl f_all))], [(m_posts, .inl (T.2 0, 7, .inl g_posts_5))], [(m_shut, .inl (T.2 0, 7, .inl f_shut))], [(m_was, .inl (T.2 0, 7, .inl g_was_6))], [(mo, .inr (11, [.ref m_all, .ref m_has, .int i_size, .int i_next, .int i_where, .int i_token, .int i_number, .int i_word, .int i_wrong, .int i_farCrossing, .ref m_read, .int i_z0, .int i_crossings, .int i_inns, .ref m_posts, .ref m_shut, .ref m_here, .int j_steps_20, .int i_done, .int j_at_3, .int j_gone_4, .ref m_was, .ref m_came, .ref m_seenAt, .ref m_rowWorth, .ref m_farBy, .ref m_used, .int i_everywhere, .int i_again0, .int i_d0, .int (i_never + 1), .int j_firstCame_22, .int i_longRun, .int j_moved_21, .int i_crowd, .int i_l0, .int i_fitMany, .int i_fitLeast, .int i_fitMost, .ref m_fitPost, .ref m_fitEnd, .ref m_keptPosts, .int i_x0]))], [(m_here, .inl (T.2 0, 7, .inl g_here_23))]] _ _ := G
        refine lv_iconst (v := 1) hx hb dX12_runs0_64 (by decide) ?_
        have G := G.sub (bs' := [[(mo, .inr (11, [.ref m_all, .ref m_has, .int i_size, .int i_next, .int i_where, .int i_token, .int i_number, .int i_word, .int i_wrong, .int i_farCrossing, .ref m_read, .int i_z0, .int i_crossings, .int i_inns, .ref m_posts, .ref m_shut, .ref m_here, .int j_steps_20, .int i_done, .int j_at_3, .int j_gone_4, .ref m_was, .ref m_came, .ref m_seenAt, .ref m_rowWorth, .ref m_farBy, .ref m_used, .int i_everywhere, .int i_again0, .int i_d0, .int (i_never + 1), .int j_firstCame_22, .int i_longRun, .int j_moved_21, .int i_crowd, .int i_l0, .int i_fitMany, .int i_fitLeast, .int i_fitMost, .ref m_fitPost, .ref m_fitEnd, .ref m_keptPosts, .int i_x0]))], [(m_all, .inl (T.2 0, 3952, .inl f_all))], [(m_posts, .inl (T.2 0, 7, .inl g_posts_5))], [(m_shut, .inl (T.2 0, 7, .inl f_shut))], [(m_here, .inl (T.2 0, 7, .inl g_here_23))], [(m_was, .inl (T.2 0, 7, .inl g_was_6))]]) [4, 0, 1, 2, 5, 3] rfl
        exact z_zret C hr hlocks G (Nat.le_of_ble_eq_true rfl) (Nat.le_of_ble_eq_true rfl) dX12_runs0_65 rfl ⟨j_at_3, j_gone_4, j_steps_20, j_moved_21, j_firstCame_22, (i_never + 1), i_longRun, g_posts_5, g_here_23, g_was_6, rfl, (Or.inl ⟨rfl, zRuF_m ⟨⟨by omega, by omega, by omega⟩, by omega⟩ h_13 h_15 h_14 h_24 h_25 (if_neg (fun q8 => by rcases hr1 with ⟨e9, b9⟩ | ⟨e9, b9⟩ <;> first | (exfalso; omega) | exact b9 q8))⟩), h_8, h_7, (fun m hm hx => by rw [h_24]; exact zMvH_b hm hx ⟨by omega, by omega⟩ ⟨by omega, by omega⟩ (by omega))⟩
      · have c_19n : ¬ j_gone_4.toInt ≤ i_longRun.toInt := fun q => c_19 ((fa_le _ _).mpr q)
        refine lv_aload_n hx hb dX12_runs0_45 rfl (lv_at hl 0 rfl) ?_
        refine z_get C G clX12 1 rfl 20 (by decide) m_fl_RX12_208 rfl dX12_runs0_46 ?_
        refine lv_goto (tgt := 56) hx hb dX12_runs0_49 (by decide) ?_
        refine z_put C G clX12 1 rfl 32 (by decide) m_fl_RX12_323 rfl rfl rfl (Nat.le_of_ble_eq_true rfl) dX12_runs0_56 (fun H locs G => ?_)
        have G : zS T A s.heap s [[(m_here, .inl (T.2 0, 7, .inl f_here))], [(mo, .inr (11, [.ref m_all, .ref m_has, .int i_size, .int i_next, .int i_where, .int i_token, .int i_number, .int i_word, .int i_wrong, .int i_farCrossing, .ref m_read, .int i_z0, .int i_crossings, .int i_inns, .ref m_posts, .ref m_shut, .ref m_here, .int i_steps, .int i_done, .int j_at_3, .int j_gone_4, .ref m_was, .ref m_came, .ref m_seenAt, .ref m_rowWorth, .ref m_farBy, .ref m_used, .int i_everywhere, .int i_again0, .int i_d0, .int (i_never + 1), .int i_firstCame, .int j_gone_4, .int i_moved, .int i_crowd, .int i_l0, .int i_fitMany, .int i_fitLeast, .int i_fitMost, .ref m_fitPost, .ref m_fitEnd, .ref m_keptPosts, .int i_x0]))], [(m_all, .inl (T.2 0, 3952, .inl f_all))], [(m_posts, .inl (T.2 0, 7, .inl g_posts_5))], [(m_shut, .inl (T.2 0, 7, .inl f_shut))], [(m_was, .inl (T.2 0, 7, .inl g_was_6))]] _ _ := G
        refine lv_aload_n hx hb dX12_runs0_59 rfl (lv_at hl 0 rfl) ?_
        refine lv_iload_n hx hb dX12_runs0_60 rfl (lv_at hl 1 rfl) ?_
        refine z_Vv (bc := [[(mo, .inr (11, [.ref m_all, .ref m_has, .int i_size, .int i_next, .int i_where, .int i_token, .int i_number, .int i_word, .int i_wrong, .int i_farCrossing, .ref m_read, .int i_z0, .int i_crossings, .int i_inns, .ref m_posts, .ref m_shut, .ref m_here, .int i_steps, .int i_done, .int j_at_3, .int j_gone_4, .ref m_was, .ref m_came, .ref m_seenAt, .ref m_rowWorth, .ref m_farBy, .ref m_used, .int i_everywhere, .int i_again0, .int i_d0, .int (i_never + 1), .int i_firstCame, .int j_gone_4, .int i_moved, .int i_crowd, .int i_l0, .int i_fitMany, .int i_fitLeast, .int i_fitMost, .ref m_fitPost, .ref m_fitEnd, .ref m_keptPosts, .int i_x0]))], [(m_here, .inl (T.2 0, 7, .inl f_here))]]) (br := [[(m_all, .inl (T.2 0, 3952, .inl f_all))], [(m_posts, .inl (T.2 0, 7, .inl g_posts_5))], [(m_shut, .inl (T.2 0, 7, .inl f_shut))], [(m_was, .inl (T.2 0, 7, .inl g_was_6))]]) (As := [.int c_]) (rest := []) C G (c_fm_goesFrom l T mo m_all m_has i_size i_next i_where i_token i_number i_word i_wrong i_farCrossing m_read i_z0 i_crossings i_inns m_posts m_shut m_here i_steps i_done j_at_3 j_gone_4 m_was m_came m_seenAt m_rowWorth m_farBy m_used i_everywhere i_again0 i_d0 (i_never + 1) i_firstCame j_gone_4 i_moved i_crowd i_l0 i_fitMany i_fitLeast i_fitMost m_fitPost m_fitEnd m_keptPosts i_x0 f_here c_ (by first | with_reducible assumption | with_reducible rfl | omega | assumption | rfl) (by first | with_reducible assumption | with_reducible rfl | omega | assumption | rfl) (by first | with_reducible assumption | with_reducible rfl | omega | assumption | rfl) (by first | with_reducible assumption | with_reducible rfl | omega | assumption | rfl)) (kV_RX12_317 C.2.2.2.2 (Nat.le_of_ble_eq_true rfl) (Nat.le_of_ble_eq_true rfl)) [1, 0] [2, 3, 4, 5] rfl rfl (ci := 11) (qc := (RX12, TX12, 43)) rfl rfl (List.mem_flatten.mpr ⟨_, List.mem_of_getElem? (i := 0) rfl, List.mem_cons_self⟩) rfl rfl hl.1 dX12_runs0_61 (Nat.le_of_ble_eq_true rfl) (Nat.le_of_ble_eq_true rfl) (fun b1 H locs hw G => ?_)
        refine hw.elim fun j_steps_27 w90 => w90.elim fun j_moved_28 w91 => w91.elim fun j_firstCame_29 w92 => w92.elim fun g_here_30 w93 => w93.elim fun hbs9 w94 => w94.elim fun h_31 h_32 => ?_
        clear hw w90 w91 w92 w93 w94
        subst hbs9
        have G : zS T A s.heap s [[(m_all, .inl (T.2 0, 3952, .inl f_all))], [(m_posts, .inl (T.2 0, 7, .inl g_posts_5))], [(m_shut, .inl (T.2 0, 7, .inl f_shut))], [(m_was, .inl (T.2 0, 7, .inl g_was_6))], [(mo, .inr (11, [.ref m_all, .ref m_has, .int i_size, .int i_next, .int i_where, .int i_token, .int i_number, .int i_word, .int i_wrong, .int i_farCrossing, .ref m_read, .int i_z0, .int i_crossings, .int i_inns, .ref m_posts, .ref m_shut, .ref m_here, .int j_steps_27, .int i_done, .int j_at_3, .int j_gone_4, .ref m_was, .ref m_came, .ref m_seenAt, .ref m_rowWorth, .ref m_farBy, .ref m_used, .int i_everywhere, .int i_again0, .int i_d0, .int (i_never + 1), .int j_firstCame_29, .int j_gone_4, .int j_moved_28, .int i_crowd, .int i_l0, .int i_fitMany, .int i_fitLeast, .int i_fitMost, .ref m_fitPost, .ref m_fitEnd, .ref m_keptPosts, .int i_x0]))], [(m_here, .inl (T.2 0, 7, .inl g_here_30))]] _ _ := G
        refine lv_iconst (v := 1) hx hb dX12_runs0_64 (by decide) ?_
        have G := G.sub (bs' := [[(mo, .inr (11, [.ref m_all, .ref m_has, .int i_size, .int i_next, .int i_where, .int i_token, .int i_number, .int i_word, .int i_wrong, .int i_farCrossing, .ref m_read, .int i_z0, .int i_crossings, .int i_inns, .ref m_posts, .ref m_shut, .ref m_here, .int j_steps_27, .int i_done, .int j_at_3, .int j_gone_4, .ref m_was, .ref m_came, .ref m_seenAt, .ref m_rowWorth, .ref m_farBy, .ref m_used, .int i_everywhere, .int i_again0, .int i_d0, .int (i_never + 1), .int j_firstCame_29, .int j_gone_4, .int j_moved_28, .int i_crowd, .int i_l0, .int i_fitMany, .int i_fitLeast, .int i_fitMost, .ref m_fitPost, .ref m_fitEnd, .ref m_keptPosts, .int i_x0]))], [(m_all, .inl (T.2 0, 3952, .inl f_all))], [(m_posts, .inl (T.2 0, 7, .inl g_posts_5))], [(m_shut, .inl (T.2 0, 7, .inl f_shut))], [(m_here, .inl (T.2 0, 7, .inl g_here_30))], [(m_was, .inl (T.2 0, 7, .inl g_was_6))]]) [4, 0, 1, 2, 5, 3] rfl
        exact z_zret C hr hlocks G (Nat.le_of_ble_eq_true rfl) (Nat.le_of_ble_eq_true rfl) dX12_runs0_65 rfl ⟨j_at_3, j_gone_4, j_steps_27, j_moved_28, j_firstCame_29, (i_never + 1), j_gone_4, g_posts_5, g_here_30, g_was_6, rfl, (Or.inl ⟨rfl, zRuF_m ⟨⟨by omega, by omega, by omega⟩, by omega⟩ h_13 h_15 h_14 h_31 h_32 (if_neg (fun q8 => by rcases hr1 with ⟨e9, b9⟩ | ⟨e9, b9⟩ <;> first | (exfalso; omega) | exact b9 q8))⟩), h_8, h_7, (fun m hm hx => by rw [h_31]; exact zMvH_b hm hx ⟨by omega, by omega⟩ ⟨by omega, by omega⟩ (by omega))⟩
    · have c_18n : ¬ r_17.toInt = (0 : Int) := fun q => c_18 ((fa_eq _ _).mpr q)
      refine lv_iconst (v := 0) hx hb dX12_runs0_24 (by decide) ?_
      refine lv_goto (tgt := 29) hx hb dX12_runs0_25 (by decide) ?_
      refine lv_iadd hx hb dX12_runs0_29 ?_
      refine z_put C G clX12 1 rfl 30 (by decide) m_fl_RX12_320 rfl rfl rfl (Nat.le_of_ble_eq_true rfl) dX12_runs0_30 (fun H locs G => ?_)
      have G : zS T A s.heap s [[(m_here, .inl (T.2 0, 7, .inl f_here))], [(mo, .inr (11, [.ref m_all, .ref m_has, .int i_size, .int i_next, .int i_where, .int i_token, .int i_number, .int i_word, .int i_wrong, .int i_farCrossing, .ref m_read, .int i_z0, .int i_crossings, .int i_inns, .ref m_posts, .ref m_shut, .ref m_here, .int i_steps, .int i_done, .int j_at_3, .int j_gone_4, .ref m_was, .ref m_came, .ref m_seenAt, .ref m_rowWorth, .ref m_farBy, .ref m_used, .int i_everywhere, .int i_again0, .int i_d0, .int (i_never + 0), .int i_firstCame, .int i_longRun, .int i_moved, .int i_crowd, .int i_l0, .int i_fitMany, .int i_fitLeast, .int i_fitMost, .ref m_fitPost, .ref m_fitEnd, .ref m_keptPosts, .int i_x0]))], [(m_all, .inl (T.2 0, 3952, .inl f_all))], [(m_posts, .inl (T.2 0, 7, .inl g_posts_5))], [(m_shut, .inl (T.2 0, 7, .inl f_shut))], [(m_was, .inl (T.2 0, 7, .inl g_was_6))]] _ _ := G
      refine lv_aload_n hx hb dX12_runs0_33 rfl (lv_at hl 0 rfl) ?_
      refine lv_aload_n hx hb dX12_runs0_34 rfl (lv_at hl 0 rfl) ?_
      refine z_get C G clX12 1 rfl 20 (by decide) m_fl_RX12_208 rfl dX12_runs0_35 ?_
      refine lv_aload_n hx hb dX12_runs0_38 rfl (lv_at hl 0 rfl) ?_
      refine z_get C G clX12 1 rfl 32 (by decide) m_fl_RX12_323 rfl dX12_runs0_39 ?_
      refine lv_icmp_le (tgt := 52) hx hb dX12_runs0_42 (by decide) (fun c_34 => ?_) (fun c_34 => ?_)
      · have c_34n : j_gone_4.toInt ≤ i_longRun.toInt := (fa_le _ _).mp c_34
        refine lv_aload_n hx hb dX12_runs0_52 rfl (lv_at hl 0 rfl) ?_
        refine z_get C G clX12 1 rfl 32 (by decide) m_fl_RX12_323 rfl dX12_runs0_53 ?_
        refine z_put C G clX12 1 rfl 32 (by decide) m_fl_RX12_323 rfl rfl rfl (Nat.le_of_ble_eq_true rfl) dX12_runs0_56 (fun H locs G => ?_)
        have G : zS T A s.heap s [[(m_here, .inl (T.2 0, 7, .inl f_here))], [(mo, .inr (11, [.ref m_all, .ref m_has, .int i_size, .int i_next, .int i_where, .int i_token, .int i_number, .int i_word, .int i_wrong, .int i_farCrossing, .ref m_read, .int i_z0, .int i_crossings, .int i_inns, .ref m_posts, .ref m_shut, .ref m_here, .int i_steps, .int i_done, .int j_at_3, .int j_gone_4, .ref m_was, .ref m_came, .ref m_seenAt, .ref m_rowWorth, .ref m_farBy, .ref m_used, .int i_everywhere, .int i_again0, .int i_d0, .int (i_never + 0), .int i_firstCame, .int i_longRun, .int i_moved, .int i_crowd, .int i_l0, .int i_fitMany, .int i_fitLeast, .int i_fitMost, .ref m_fitPost, .ref m_fitEnd, .ref m_keptPosts, .int i_x0]))], [(m_all, .inl (T.2 0, 3952, .inl f_all))], [(m_posts, .inl (T.2 0, 7, .inl g_posts_5))], [(m_shut, .inl (T.2 0, 7, .inl f_shut))], [(m_was, .inl (T.2 0, 7, .inl g_was_6))]] _ _ := G
        refine lv_aload_n hx hb dX12_runs0_59 rfl (lv_at hl 0 rfl) ?_
        refine lv_iload_n hx hb dX12_runs0_60 rfl (lv_at hl 1 rfl) ?_
        refine z_Vv (bc := [[(mo, .inr (11, [.ref m_all, .ref m_has, .int i_size, .int i_next, .int i_where, .int i_token, .int i_number, .int i_word, .int i_wrong, .int i_farCrossing, .ref m_read, .int i_z0, .int i_crossings, .int i_inns, .ref m_posts, .ref m_shut, .ref m_here, .int i_steps, .int i_done, .int j_at_3, .int j_gone_4, .ref m_was, .ref m_came, .ref m_seenAt, .ref m_rowWorth, .ref m_farBy, .ref m_used, .int i_everywhere, .int i_again0, .int i_d0, .int (i_never + 0), .int i_firstCame, .int i_longRun, .int i_moved, .int i_crowd, .int i_l0, .int i_fitMany, .int i_fitLeast, .int i_fitMost, .ref m_fitPost, .ref m_fitEnd, .ref m_keptPosts, .int i_x0]))], [(m_here, .inl (T.2 0, 7, .inl f_here))]]) (br := [[(m_all, .inl (T.2 0, 3952, .inl f_all))], [(m_posts, .inl (T.2 0, 7, .inl g_posts_5))], [(m_shut, .inl (T.2 0, 7, .inl f_shut))], [(m_was, .inl (T.2 0, 7, .inl g_was_6))]]) (As := [.int c_]) (rest := []) C G (c_fm_goesFrom l T mo m_all m_has i_size i_next i_where i_token i_number i_word i_wrong i_farCrossing m_read i_z0 i_crossings i_inns m_posts m_shut m_here i_steps i_done j_at_3 j_gone_4 m_was m_came m_seenAt m_rowWorth m_farBy m_used i_everywhere i_again0 i_d0 (i_never + 0) i_firstCame i_longRun i_moved i_crowd i_l0 i_fitMany i_fitLeast i_fitMost m_fitPost m_fitEnd m_keptPosts i_x0 f_here c_ (by first | with_reducible assumption | with_reducible rfl | omega | assumption | rfl) (by first | with_reducible assumption | with_reducible rfl | omega | assumption | rfl) (by first | with_reducible assumption | with_reducible rfl | omega | assumption | rfl) (by first | with_reducible assumption | with_reducible rfl | omega | assumption | rfl)) (kV_RX12_317 C.2.2.2.2 (Nat.le_of_ble_eq_true rfl) (Nat.le_of_ble_eq_true rfl)) [1, 0] [2, 3, 4, 5] rfl rfl (ci := 11) (qc := (RX12, TX12, 43)) rfl rfl (List.mem_flatten.mpr ⟨_, List.mem_of_getElem? (i := 0) rfl, List.mem_cons_self⟩) rfl rfl hl.1 dX12_runs0_61 (Nat.le_of_ble_eq_true rfl) (Nat.le_of_ble_eq_true rfl) (fun b1 H locs hw G => ?_)
        refine hw.elim fun j_steps_35 w90 => w90.elim fun j_moved_36 w91 => w91.elim fun j_firstCame_37 w92 => w92.elim fun g_here_38 w93 => w93.elim fun hbs9 w94 => w94.elim fun h_39 h_40 => ?_
        clear hw w90 w91 w92 w93 w94
        subst hbs9
        have G : zS T A s.heap s [[(m_all, .inl (T.2 0, 3952, .inl f_all))], [(m_posts, .inl (T.2 0, 7, .inl g_posts_5))], [(m_shut, .inl (T.2 0, 7, .inl f_shut))], [(m_was, .inl (T.2 0, 7, .inl g_was_6))], [(mo, .inr (11, [.ref m_all, .ref m_has, .int i_size, .int i_next, .int i_where, .int i_token, .int i_number, .int i_word, .int i_wrong, .int i_farCrossing, .ref m_read, .int i_z0, .int i_crossings, .int i_inns, .ref m_posts, .ref m_shut, .ref m_here, .int j_steps_35, .int i_done, .int j_at_3, .int j_gone_4, .ref m_was, .ref m_came, .ref m_seenAt, .ref m_rowWorth, .ref m_farBy, .ref m_used, .int i_everywhere, .int i_again0, .int i_d0, .int (i_never + 0), .int j_firstCame_37, .int i_longRun, .int j_moved_36, .int i_crowd, .int i_l0, .int i_fitMany, .int i_fitLeast, .int i_fitMost, .ref m_fitPost, .ref m_fitEnd, .ref m_keptPosts, .int i_x0]))], [(m_here, .inl (T.2 0, 7, .inl g_here_38))]] _ _ := G
        refine lv_iconst (v := 1) hx hb dX12_runs0_64 (by decide) ?_
        have G := G.sub (bs' := [[(mo, .inr (11, [.ref m_all, .ref m_has, .int i_size, .int i_next, .int i_where, .int i_token, .int i_number, .int i_word, .int i_wrong, .int i_farCrossing, .ref m_read, .int i_z0, .int i_crossings, .int i_inns, .ref m_posts, .ref m_shut, .ref m_here, .int j_steps_35, .int i_done, .int j_at_3, .int j_gone_4, .ref m_was, .ref m_came, .ref m_seenAt, .ref m_rowWorth, .ref m_farBy, .ref m_used, .int i_everywhere, .int i_again0, .int i_d0, .int (i_never + 0), .int j_firstCame_37, .int i_longRun, .int j_moved_36, .int i_crowd, .int i_l0, .int i_fitMany, .int i_fitLeast, .int i_fitMost, .ref m_fitPost, .ref m_fitEnd, .ref m_keptPosts, .int i_x0]))], [(m_all, .inl (T.2 0, 3952, .inl f_all))], [(m_posts, .inl (T.2 0, 7, .inl g_posts_5))], [(m_shut, .inl (T.2 0, 7, .inl f_shut))], [(m_here, .inl (T.2 0, 7, .inl g_here_38))], [(m_was, .inl (T.2 0, 7, .inl g_was_6))]]) [4, 0, 1, 2, 5, 3] rfl
        exact z_zret C hr hlocks G (Nat.le_of_ble_eq_true rfl) (Nat.le_of_ble_eq_true rfl) dX12_runs0_65 rfl ⟨j_at_3, j_gone_4, j_steps_35, j_moved_36, j_firstCame_37, (i_never + 0), i_longRun, g_posts_5, g_here_38, g_was_6, rfl, (Or.inl ⟨rfl, zRuF_m ⟨⟨by omega, by omega, by omega⟩, by omega⟩ h_13 h_15 h_14 h_39 h_40 ((if_pos (by rcases hr1 with ⟨e9, b9⟩ | ⟨e9, b9⟩ <;> first | (exfalso; omega) | exact b9)).trans (Int32.add_zero i_never).symm)⟩), h_8, h_7, (fun m hm hx => by rw [h_39]; exact zMvH_b hm hx ⟨by omega, by omega⟩ ⟨by omega, by omega⟩ (by omega))⟩
      · have c_34n : ¬ j_gone_4.toInt ≤ i_longRun.toInt := fun q => c_34 ((fa_le _ _).mpr q)
        refine lv_aload_n hx hb dX12_runs0_45 rfl (lv_at hl 0 rfl) ?_
        refine z_get C G clX12 1 rfl 20 (by decide) m_fl_RX12_208 rfl dX12_runs0_46 ?_
        refine lv_goto (tgt := 56) hx hb dX12_runs0_49 (by decide) ?_
        refine z_put C G clX12 1 rfl 32 (by decide) m_fl_RX12_323 rfl rfl rfl (Nat.le_of_ble_eq_true rfl) dX12_runs0_56 (fun H locs G => ?_)
        have G : zS T A s.heap s [[(m_here, .inl (T.2 0, 7, .inl f_here))], [(mo, .inr (11, [.ref m_all, .ref m_has, .int i_size, .int i_next, .int i_where, .int i_token, .int i_number, .int i_word, .int i_wrong, .int i_farCrossing, .ref m_read, .int i_z0, .int i_crossings, .int i_inns, .ref m_posts, .ref m_shut, .ref m_here, .int i_steps, .int i_done, .int j_at_3, .int j_gone_4, .ref m_was, .ref m_came, .ref m_seenAt, .ref m_rowWorth, .ref m_farBy, .ref m_used, .int i_everywhere, .int i_again0, .int i_d0, .int (i_never + 0), .int i_firstCame, .int j_gone_4, .int i_moved, .int i_crowd, .int i_l0, .int i_fitMany, .int i_fitLeast, .int i_fitMost, .ref m_fitPost, .ref m_fitEnd, .ref m_keptPosts, .int i_x0]))], [(m_all, .inl (T.2 0, 3952, .inl f_all))], [(m_posts, .inl (T.2 0, 7, .inl g_posts_5))], [(m_shut, .inl (T.2 0, 7, .inl f_shut))], [(m_was, .inl (T.2 0, 7, .inl g_was_6))]] _ _ := G
        refine lv_aload_n hx hb dX12_runs0_59 rfl (lv_at hl 0 rfl) ?_
        refine lv_iload_n hx hb dX12_runs0_60 rfl (lv_at hl 1 rfl) ?_
        refine z_Vv (bc := [[(mo, .inr (11, [.ref m_all, .ref m_has, .int i_size, .int i_next, .int i_where, .int i_token, .int i_number, .int i_word, .int i_wrong, .int i_farCrossing, .ref m_read, .int i_z0, .int i_crossings, .int i_inns, .ref m_posts, .ref m_shut, .ref m_here, .int i_steps, .int i_done, .int j_at_3, .int j_gone_4, .ref m_was, .ref m_came, .ref m_seenAt, .ref m_rowWorth, .ref m_farBy, .ref m_used, .int i_everywhere, .int i_again0, .int i_d0, .int (i_never + 0), .int i_firstCame, .int j_gone_4, .int i_moved, .int i_crowd, .int i_l0, .int i_fitMany, .int i_fitLeast, .int i_fitMost, .ref m_fitPost, .ref m_fitEnd, .ref m_keptPosts, .int i_x0]))], [(m_here, .inl (T.2 0, 7, .inl f_here))]]) (br := [[(m_all, .inl (T.2 0, 3952, .inl f_all))], [(m_posts, .inl (T.2 0, 7, .inl g_posts_5))], [(m_shut, .inl (T.2 0, 7, .inl f_shut))], [(m_was, .inl (T.2 0, 7, .inl g_was_6))]]) (As := [.int c_]) (rest := []) C G (c_fm_goesFrom l T mo m_all m_has i_size i_next i_where i_token i_number i_word i_wrong i_farCrossing m_read i_z0 i_crossings i_inns m_posts m_shut m_here i_steps i_done j_at_3 j_gone_4 m_was m_came m_seenAt m_rowWorth m_farBy m_used i_everywhere i_again0 i_d0 (i_never + 0) i_firstCame j_gone_4 i_moved i_crowd i_l0 i_fitMany i_fitLeast i_fitMost m_fitPost m_fitEnd m_keptPosts i_x0 f_here c_ (by first | with_reducible assumption | with_reducible rfl | omega | assumption | rfl) (by first | with_reducible assumption | with_reducible rfl | omega | assumption | rfl) (by first | with_reducible assumption | with_reducible rfl | omega | assumption | rfl) (by first | with_reducible assumption | with_reducible rfl | omega | assumption | rfl)) (kV_RX12_317 C.2.2.2.2 (Nat.le_of_ble_eq_true rfl) (Nat.le_of_ble_eq_true rfl)) [1, 0] [2, 3, 4, 5] rfl rfl (ci := 11) (qc := (RX12, TX12, 43)) rfl rfl (List.mem_flatten.mpr ⟨_, List.mem_of_getElem? (i := 0) rfl, List.mem_cons_self⟩) rfl rfl hl.1 dX12_runs0_61 (Nat.le_of_ble_eq_true rfl) (Nat.le_of_ble_eq_true rfl) (fun b1 H locs hw G => ?_)
        refine hw.elim fun j_steps_42 w90 => w90.elim fun j_moved_43 w91 => w91.elim fun j_firstCame_44 w92 => w92.elim fun g_here_45 w93 => w93.elim fun hbs9 w94 => w94.elim fun h_46 h_47 => ?_
        clear hw w90 w91 w92 w93 w94
        subst hbs9
        have G : zS T A s.heap s [[(m_all, .inl (T.2 0, 3952, .inl f_all))], [(m_posts, .inl (T.2 0, 7, .inl g_posts_5))], [(m_shut, .inl (T.2 0, 7, .inl f_shut))], [(m_was, .inl (T.2 0, 7, .inl g_was_6))], [(mo, .inr (11, [.ref m_all, .ref m_has, .int i_size, .int i_next, .int i_where, .int i_token, .int i_number, .int i_word, .int i_wrong, .int i_farCrossing, .ref m_read, .int i_z0, .int i_crossings, .int i_inns, .ref m_posts, .ref m_shut, .ref m_here, .int j_steps_42, .int i_done, .int j_at_3, .int j_gone_4, .ref m_was, .ref m_came, .ref m_seenAt, .ref m_rowWorth, .ref m_farBy, .ref m_used, .int i_everywhere, .int i_again0, .int i_d0, .int (i_never + 0), .int j_firstCame_44, .int j_gone_4, .int j_moved_43, .int i_crowd, .int i_l0, .int i_fitMany, .int i_fitLeast, .int i_fitMost, .ref m_fitPost, .ref m_fitEnd, .ref m_keptPosts, .int i_x0]))], [(m_here, .inl (T.2 0, 7, .inl g_here_45))]] _ _ := G
        refine lv_iconst (v := 1) hx hb dX12_runs0_64 (by decide) ?_
        have G := G.sub (bs' := [[(mo, .inr (11, [.ref m_all, .ref m_has, .int i_size, .int i_next, .int i_where, .int i_token, .int i_number, .int i_word, .int i_wrong, .int i_farCrossing, .ref m_read, .int i_z0, .int i_crossings, .int i_inns, .ref m_posts, .ref m_shut, .ref m_here, .int j_steps_42, .int i_done, .int j_at_3, .int j_gone_4, .ref m_was, .ref m_came, .ref m_seenAt, .ref m_rowWorth, .ref m_farBy, .ref m_used, .int i_everywhere, .int i_again0, .int i_d0, .int (i_never + 0), .int j_firstCame_44, .int j_gone_4, .int j_moved_43, .int i_crowd, .int i_l0, .int i_fitMany, .int i_fitLeast, .int i_fitMost, .ref m_fitPost, .ref m_fitEnd, .ref m_keptPosts, .int i_x0]))], [(m_all, .inl (T.2 0, 3952, .inl f_all))], [(m_posts, .inl (T.2 0, 7, .inl g_posts_5))], [(m_shut, .inl (T.2 0, 7, .inl f_shut))], [(m_here, .inl (T.2 0, 7, .inl g_here_45))], [(m_was, .inl (T.2 0, 7, .inl g_was_6))]]) [4, 0, 1, 2, 5, 3] rfl
        exact z_zret C hr hlocks G (Nat.le_of_ble_eq_true rfl) (Nat.le_of_ble_eq_true rfl) dX12_runs0_65 rfl ⟨j_at_3, j_gone_4, j_steps_42, j_moved_43, j_firstCame_44, (i_never + 0), j_gone_4, g_posts_5, g_here_45, g_was_6, rfl, (Or.inl ⟨rfl, zRuF_m ⟨⟨by omega, by omega, by omega⟩, by omega⟩ h_13 h_15 h_14 h_46 h_47 ((if_pos (by rcases hr1 with ⟨e9, b9⟩ | ⟨e9, b9⟩ <;> first | (exfalso; omega) | exact b9)).trans (Int32.add_zero i_never).symm)⟩), h_8, h_7, (fun m hm hx => by rw [h_46]; exact zMvH_b hm hx ⟨by omega, by omega⟩ ⟨by omega, by omega⟩ (by omega))⟩
  · have c_2n : (f_here c_.toNatClampNeg).toInt = (0 : Int) := (fa_eq _ _).mp c_2
    refine lv_iconst (v := 0) hx hb dX12_runs0_9 (by decide) ?_
    exact z_zret C hr hlocks G (Nat.le_of_ble_eq_true rfl) (Nat.le_of_ble_eq_true rfl) dX12_runs0_10 rfl ⟨i_at, i_gone, i_steps, i_moved, i_firstCame, i_never, i_longRun, f_posts, f_here, f_was, rfl, (Or.inr ⟨rfl, by unfold zRuF; rw [if_neg (fun q8 => by have q7 := q8.2; have q7 : 1 ≤ (f_here c_.toNatClampNeg).toInt := q7; omega)], rfl, rfl, rfl, rfl⟩), hV, hP, (fun m hm hx => zHB_m hx (by omega))⟩
set_option maxHeartbeats 4000000 in
set_option maxRecDepth 100000 in
/-- c_fm_adds -/
theorem c_fm_adds (l : Launch) (T : zTy) (mo : Nat) (m_all : Nat) (m_has : Nat) (i_size : Int32) (i_next : Int32) (i_where : Int32) (i_token : Int32) (i_number : Int32) (i_word : Int32) (i_wrong : Int32) (i_farCrossing : Int32) (m_read : Nat) (i_z0 : Int32) (i_crossings : Int32) (i_inns : Int32) (m_posts : Nat) (m_shut : Nat) (m_here : Nat) (i_steps : Int32) (i_done : Int32) (i_at : Int32) (i_gone : Int32) (m_was : Nat) (m_came : Nat) (m_seenAt : Nat) (m_rowWorth : Nat) (m_farBy : Nat) (m_used : Nat) (i_everywhere : Int32) (i_again0 : Int32) (i_d0 : Int32) (i_never : Int32) (i_firstCame : Int32) (i_longRun : Int32) (i_moved : Int32) (i_crowd : Int32) (i_l0 : Int32) (i_fitMany : Int32) (i_fitLeast : Int32) (i_fitMost : Int32) (m_fitPost : Nat) (m_fitEnd : Nat) (m_keptPosts : Nat) (i_x0 : Int32) (f_here : Nat → Int32) (c_ : Int32) (hc0 : 0 ≤ c_.toInt) (hc6 : c_.toInt ≤ 6) (hcx : c_.toInt < i_crossings.toInt) (hH : zHB 100000 f_here) : zMi l T yX12_adds cX12_adds 2 (some .boolean) 1 0 0 [.ref mo, .int c_] [[(mo, .inr (11, [.ref m_all, .ref m_has, .int i_size, .int i_next, .int i_where, .int i_token, .int i_number, .int i_word, .int i_wrong, .int i_farCrossing, .ref m_read, .int i_z0, .int i_crossings, .int i_inns, .ref m_posts, .ref m_shut, .ref m_here, .int i_steps, .int i_done, .int i_at, .int i_gone, .ref m_was, .ref m_came, .ref m_seenAt, .ref m_rowWorth, .ref m_farBy, .ref m_used, .int i_everywhere, .int i_again0, .int i_d0, .int i_never, .int i_firstCame, .int i_longRun, .int i_moved, .int i_crowd, .int i_l0, .int i_fitMany, .int i_fitLeast, .int i_fitMost, .ref m_fitPost, .ref m_fitEnd, .ref m_keptPosts, .int i_x0]))], [(m_here, .inl (T.2 0, 7, .inl f_here))]] (fun (r : Int32) bs => ∃ (g_here : Nat → Int32), bs = [[(mo, .inr (11, [.ref m_all, .ref m_has, .int i_size, .int i_next, .int i_where, .int i_token, .int i_number, .int i_word, .int i_wrong, .int i_farCrossing, .ref m_read, .int i_z0, .int i_crossings, .int i_inns, .ref m_posts, .ref m_shut, .ref m_here, .int i_steps, .int i_done, .int i_at, .int i_gone, .ref m_was, .ref m_came, .ref m_seenAt, .ref m_rowWorth, .ref m_farBy, .ref m_used, .int i_everywhere, .int i_again0, .int i_d0, .int i_never, .int i_firstCame, .int i_longRun, .int i_moved, .int i_crowd, .int i_l0, .int i_fitMany, .int i_fitLeast, .int i_fitMost, .ref m_fitPost, .ref m_fitEnd, .ref m_keptPosts, .int i_x0]))], [(m_here, .inl (T.2 0, 7, .inl g_here))]] ∧ (∀ (P S : Nat → Int32) (st nv : Int32), r = 1 ∧ zAdF i_crossings c_ (P, S, f_here, st, nv) = some (P, S, g_here, st, nv) ∨ r = 0 ∧ zAdF i_crossings c_ (P, S, f_here, st, nv) = none ∧ g_here = f_here) ∧ (∀ m : Int, m ≤ 100000 → zHB m f_here → zHB (m + 1) g_here)) := by
  refine zMi_of (own := RX12) (by decide) rfl (Nat.le_of_ble_eq_true rfl) ?_
  intro p e s m args below meth c A ls C hr hlocks hnm hAe G hl
  have hx := C.1
  have hb := C.2.1
  have hl : lv_has ls 2 [(0, .ref mo), (1, .int c_)] := hl
  refine lv_aload_n hx hb dX12_adds_0 rfl (lv_at hl 0 rfl) ?_
  refine z_get C G clX12 0 rfl 16 (by decide) m_fl_RX12_26 rfl dX12_adds_1 ?_
  refine lv_iload_n hx hb dX12_adds_4 rfl (lv_at hl 1 rfl) ?_
  refine z_ild C G 1 rfl (vp_in_iff.mpr ⟨by omega, by omega⟩) dX12_adds_5 ?_
  refine lv_topi (fun v_1 ev_1 => ?_)
  subst ev_1
  refine lv_bipush (v := 99) hx hb dX12_adds_6 (by decide) ?_
  refine lv_icmp_lt (tgt := 13) hx hb dX12_adds_8 (by decide) (fun c_2 => ?_) (fun c_2 => ?_)
  · have c_2n : (f_here c_.toNatClampNeg).toInt < (99 : Int) := (fa_lt _ _).mp c_2
    refine lv_aload_n hx hb dX12_adds_13 rfl (lv_at hl 0 rfl) ?_
    refine z_get C G clX12 0 rfl 16 (by decide) m_fl_RX12_26 rfl dX12_adds_14 ?_
    refine lv_iload_n hx hb dX12_adds_17 rfl (lv_at hl 1 rfl) ?_
    refine lv_dup2_11 hx hb dX12_adds_18 rfl rfl ?_
    refine z_ild C G 1 rfl (vp_in_iff.mpr ⟨by omega, by omega⟩) dX12_adds_19 ?_
    refine lv_topi (fun v_3 ev_3 => ?_)
    subst ev_3
    refine lv_iconst (v := 1) hx hb dX12_adds_20 (by decide) ?_
    refine lv_iadd hx hb dX12_adds_21 ?_
    refine z_ist C G 1 rfl (vp_in_iff.mpr ⟨by omega, by omega⟩) dX12_adds_22 (fun H locs G => ?_)
    have G : zS T A s.heap s [[(mo, .inr (11, [.ref m_all, .ref m_has, .int i_size, .int i_next, .int i_where, .int i_token, .int i_number, .int i_word, .int i_wrong, .int i_farCrossing, .ref m_read, .int i_z0, .int i_crossings, .int i_inns, .ref m_posts, .ref m_shut, .ref m_here, .int i_steps, .int i_done, .int i_at, .int i_gone, .ref m_was, .ref m_came, .ref m_seenAt, .ref m_rowWorth, .ref m_farBy, .ref m_used, .int i_everywhere, .int i_again0, .int i_d0, .int i_never, .int i_firstCame, .int i_longRun, .int i_moved, .int i_crowd, .int i_l0, .int i_fitMany, .int i_fitLeast, .int i_fitMost, .ref m_fitPost, .ref m_fitEnd, .ref m_keptPosts, .int i_x0]))], [(m_here, .inl (T.2 0, 7, .inl (upd f_here c_.toNatClampNeg ((f_here c_.toNatClampNeg) + 1))))]] _ _ := G
    refine lv_iconst (v := 1) hx hb dX12_adds_23 (by decide) ?_
    exact z_zret C hr hlocks G (Nat.le_of_ble_eq_true rfl) (Nat.le_of_ble_eq_true rfl) dX12_adds_24 rfl ⟨(upd f_here c_.toNatClampNeg ((f_here c_.toNatClampNeg) + 1)), rfl, (fun P S st nv => Or.inl ⟨rfl, by unfold zAdF; rw [if_pos ⟨⟨by omega, by omega, by omega⟩, by assumption⟩]⟩), (fun m hm hx => zAdd_b hm hx (by have q9 := z_clI (x := c_) (by omega); omega))⟩
  · have c_2n : ¬ (f_here c_.toNatClampNeg).toInt < (99 : Int) := fun q => c_2 ((fa_lt _ _).mpr q)
    refine lv_iconst (v := 0) hx hb dX12_adds_11 (by decide) ?_
    exact z_zret C hr hlocks G (Nat.le_of_ble_eq_true rfl) (Nat.le_of_ble_eq_true rfl) dX12_adds_12 rfl ⟨f_here, rfl, (fun P S st nv => Or.inr ⟨rfl, by unfold zAdF; rw [if_neg (fun q8 => by have q7 := q8.2; have q7 : (f_here c_.toNatClampNeg).toInt < 99 := q7; omega)], rfl⟩), (fun m hm hx => zHB_m hx (by omega))⟩
set_option maxHeartbeats 4000000 in
set_option maxRecDepth 100000 in
/-- c_fm_shuts1 -/
theorem c_fm_shuts1 (l : Launch) (T : zTy) (mo : Nat) (m_all : Nat) (m_has : Nat) (i_size : Int32) (i_next : Int32) (i_where : Int32) (i_token : Int32) (i_number : Int32) (i_word : Int32) (i_wrong : Int32) (i_farCrossing : Int32) (m_read : Nat) (i_z0 : Int32) (i_crossings : Int32) (i_inns : Int32) (m_posts : Nat) (m_shut : Nat) (m_here : Nat) (i_steps : Int32) (i_done : Int32) (i_at : Int32) (i_gone : Int32) (m_was : Nat) (m_came : Nat) (m_seenAt : Nat) (m_rowWorth : Nat) (m_farBy : Nat) (m_used : Nat) (i_everywhere : Int32) (i_again0 : Int32) (i_d0 : Int32) (i_never : Int32) (i_firstCame : Int32) (i_longRun : Int32) (i_moved : Int32) (i_crowd : Int32) (i_l0 : Int32) (i_fitMany : Int32) (i_fitLeast : Int32) (i_fitMost : Int32) (m_fitPost : Nat) (m_fitEnd : Nat) (m_keptPosts : Nat) (i_x0 : Int32) (f_all : Nat → Int32) (f_shut : Nat → Int32) (c_ : Int32) (k_ : Int32) (hL : zML f_all i_z0 i_crossings) (hc0 : 0 ≤ c_.toInt) (hc6 : c_.toInt ≤ 6) (hcx : c_.toInt < i_crossings.toInt) (hk0 : 0 ≤ k_.toInt) (hk3 : k_.toInt ≤ 3) (hS5 : zS15 f_shut) : zMi l T yX12_shuts cX12_shuts 4 (some .boolean) 2 0 0 [.ref mo, .int c_, .int k_, .int 1] [[(mo, .inr (11, [.ref m_all, .ref m_has, .int i_size, .int i_next, .int i_where, .int i_token, .int i_number, .int i_word, .int i_wrong, .int i_farCrossing, .ref m_read, .int i_z0, .int i_crossings, .int i_inns, .ref m_posts, .ref m_shut, .ref m_here, .int i_steps, .int i_done, .int i_at, .int i_gone, .ref m_was, .ref m_came, .ref m_seenAt, .ref m_rowWorth, .ref m_farBy, .ref m_used, .int i_everywhere, .int i_again0, .int i_d0, .int i_never, .int i_firstCame, .int i_longRun, .int i_moved, .int i_crowd, .int i_l0, .int i_fitMany, .int i_fitLeast, .int i_fitMost, .ref m_fitPost, .ref m_fitEnd, .ref m_keptPosts, .int i_x0]))], [(m_all, .inl (T.2 0, 3952, .inl f_all))], [(m_shut, .inl (T.2 0, 7, .inl f_shut))]] (fun (r : Int32) bs => ∃ (g_shut : Nat → Int32), bs = [[(mo, .inr (11, [.ref m_all, .ref m_has, .int i_size, .int i_next, .int i_where, .int i_token, .int i_number, .int i_word, .int i_wrong, .int i_farCrossing, .ref m_read, .int i_z0, .int i_crossings, .int i_inns, .ref m_posts, .ref m_shut, .ref m_here, .int i_steps, .int i_done, .int i_at, .int i_gone, .ref m_was, .ref m_came, .ref m_seenAt, .ref m_rowWorth, .ref m_farBy, .ref m_used, .int i_everywhere, .int i_again0, .int i_d0, .int i_never, .int i_firstCame, .int i_longRun, .int i_moved, .int i_crowd, .int i_l0, .int i_fitMany, .int i_fitLeast, .int i_fitMost, .ref m_fitPost, .ref m_fitEnd, .ref m_keptPosts, .int i_x0]))], [(m_all, .inl (T.2 0, 3952, .inl f_all))], [(m_shut, .inl (T.2 0, 7, .inl g_shut))]] ∧ (∀ (P H : Nat → Int32) (st nv : Int32), r = 1 ∧ zShF i_crossings (zRo f_all i_z0) c_ k_ (P, f_shut, H, st, nv) = some (P, g_shut, H, st, nv) ∨ r = 0 ∧ zShF i_crossings (zRo f_all i_z0) c_ k_ (P, f_shut, H, st, nv) = none ∧ g_shut = f_shut) ∧ zS15 g_shut) := by
  refine zMi_of (own := RX12) (by decide) rfl (Nat.le_of_ble_eq_true rfl) ?_
  intro p e s m args below meth c A ls C hr hlocks hnm hAe G hl
  have hx := C.1
  have hb := C.2.1
  have hl : lv_has ls 4 [(0, .ref mo), (1, .int c_), (2, .int k_), (3, .int 1)] := hl
  have hz := hL.1
  have hcr := hL.cr
  refine lv_iload_n hx hb dX12_shuts_0 rfl (lv_at hl 2 rfl) ?_
  refine lv_aload_n hx hb dX12_shuts_1 rfl (lv_at hl 0 rfl) ?_
  refine lv_iload_n hx hb dX12_shuts_2 rfl (lv_at hl 1 rfl) ?_
  refine z_Vi (bc := [[(mo, .inr (11, [.ref m_all, .ref m_has, .int i_size, .int i_next, .int i_where, .int i_token, .int i_number, .int i_word, .int i_wrong, .int i_farCrossing, .ref m_read, .int i_z0, .int i_crossings, .int i_inns, .ref m_posts, .ref m_shut, .ref m_here, .int i_steps, .int i_done, .int i_at, .int i_gone, .ref m_was, .ref m_came, .ref m_seenAt, .ref m_rowWorth, .ref m_farBy, .ref m_used, .int i_everywhere, .int i_again0, .int i_d0, .int i_never, .int i_firstCame, .int i_longRun, .int i_moved, .int i_crowd, .int i_l0, .int i_fitMany, .int i_fitLeast, .int i_fitMost, .ref m_fitPost, .ref m_fitEnd, .ref m_keptPosts, .int i_x0]))], [(m_all, .inl (T.2 0, 3952, .inl f_all))]]) (br := [[(m_shut, .inl (T.2 0, 7, .inl f_shut))]]) (As := [.int c_]) (rest := [.int k_]) C G (c_m_roadsOf l T mo m_all m_has i_size i_next i_where i_token i_number i_word i_wrong i_farCrossing m_read i_z0 i_crossings i_inns m_posts m_shut m_here i_steps i_done i_at i_gone m_was m_came m_seenAt m_rowWorth m_farBy m_used i_everywhere i_again0 i_d0 i_never i_firstCame i_longRun i_moved i_crowd i_l0 i_fitMany i_fitLeast i_fitMost m_fitPost m_fitEnd m_keptPosts i_x0 f_all c_ (by first | with_reducible assumption | with_reducible rfl | omega | assumption | rfl) (by first | with_reducible assumption | with_reducible rfl | omega | assumption | rfl) (by first | with_reducible assumption | with_reducible rfl | omega | assumption | rfl)) (kV_RX12_181 C.2.2.2.2 (Nat.le_of_ble_eq_true rfl) (Nat.le_of_ble_eq_true rfl)) [0, 1] [2] rfl rfl (ci := 11) (qc := (RX12, TX12, 43)) rfl rfl (List.mem_flatten.mpr ⟨_, List.mem_of_getElem? (i := 0) rfl, List.mem_cons_self⟩) rfl rfl hl.1 dX12_shuts_3 (Nat.le_of_ble_eq_true rfl) (Nat.le_of_ble_eq_true rfl) (fun r_4 b1 H locs hw G => ?_)
  refine hw.elim fun hbs9 w90 => w90.elim fun h_1 w91 => w91.elim fun h_2 h_3 => ?_
  clear hw w90 w91
  subst hbs9
  have G : zS T A s.heap s [[(m_shut, .inl (T.2 0, 7, .inl f_shut))], [(mo, .inr (11, [.ref m_all, .ref m_has, .int i_size, .int i_next, .int i_where, .int i_token, .int i_number, .int i_word, .int i_wrong, .int i_farCrossing, .ref m_read, .int i_z0, .int i_crossings, .int i_inns, .ref m_posts, .ref m_shut, .ref m_here, .int i_steps, .int i_done, .int i_at, .int i_gone, .ref m_was, .ref m_came, .ref m_seenAt, .ref m_rowWorth, .ref m_farBy, .ref m_used, .int i_everywhere, .int i_again0, .int i_d0, .int i_never, .int i_firstCame, .int i_longRun, .int i_moved, .int i_crowd, .int i_l0, .int i_fitMany, .int i_fitLeast, .int i_fitMost, .ref m_fitPost, .ref m_fitEnd, .ref m_keptPosts, .int i_x0]))], [(m_all, .inl (T.2 0, 3952, .inl f_all))]] _ _ := G
  subst h_1
  refine lv_icmp_ge (tgt := 32) hx hb dX12_shuts_6 (by decide) (fun c_5 => ?_) (fun c_5 => ?_)
  · have c_5n : (zRd f_all i_z0 c_).toInt ≤ k_.toInt := (fa_le _ _).mp c_5
    refine lv_iconst (v := 0) hx hb dX12_shuts_32 (by decide) ?_
    have G := G.sub (bs' := [[(mo, .inr (11, [.ref m_all, .ref m_has, .int i_size, .int i_next, .int i_where, .int i_token, .int i_number, .int i_word, .int i_wrong, .int i_farCrossing, .ref m_read, .int i_z0, .int i_crossings, .int i_inns, .ref m_posts, .ref m_shut, .ref m_here, .int i_steps, .int i_done, .int i_at, .int i_gone, .ref m_was, .ref m_came, .ref m_seenAt, .ref m_rowWorth, .ref m_farBy, .ref m_used, .int i_everywhere, .int i_again0, .int i_d0, .int i_never, .int i_firstCame, .int i_longRun, .int i_moved, .int i_crowd, .int i_l0, .int i_fitMany, .int i_fitLeast, .int i_fitMost, .ref m_fitPost, .ref m_fitEnd, .ref m_keptPosts, .int i_x0]))], [(m_all, .inl (T.2 0, 3952, .inl f_all))], [(m_shut, .inl (T.2 0, 7, .inl f_shut))]]) [1, 2, 0] rfl
    exact z_zret C hr hlocks G (Nat.le_of_ble_eq_true rfl) (Nat.le_of_ble_eq_true rfl) dX12_shuts_33 rfl ⟨f_shut, rfl, (fun P H st nv => Or.inr ⟨rfl, by unfold zShF; rw [if_neg (fun q8 => by obtain ⟨⟨a1, a2, a3⟩, ⟨b1, b2, b3⟩, b4⟩ := q8; first | (have b2 : k_.toInt < (zRd f_all i_z0 c_).toInt := b2; omega) | exact absurd b4 (zBit_o (by assumption)))], rfl⟩), hS5⟩
  · have c_5n : ¬ (zRd f_all i_z0 c_).toInt ≤ k_.toInt := fun q => c_5 ((fa_le _ _).mpr q)
    refine lv_aload_n hx hb dX12_shuts_9 rfl (lv_at hl 0 rfl) ?_
    refine z_get C G clX12 1 rfl 15 (by decide) m_fl_RX12_23 rfl dX12_shuts_10 ?_
    refine lv_iload_n hx hb dX12_shuts_13 rfl (lv_at hl 1 rfl) ?_
    refine z_ild C G 0 rfl (vp_in_iff.mpr ⟨by omega, by omega⟩) dX12_shuts_14 ?_
    refine lv_topi (fun v_6 ev_6 => ?_)
    subst ev_6
    refine lv_iload_n hx hb dX12_shuts_15 rfl (lv_at hl 2 rfl) ?_
    refine lv_ishr hx hb dX12_shuts_16 ?_
    refine lv_iconst (v := 1) hx hb dX12_shuts_17 (by decide) ?_
    refine lv_iand hx hb dX12_shuts_18 ?_
    refine lv_iconst (v := 1) hx hb dX12_shuts_19 (by decide) ?_
    refine lv_icmp_ne (tgt := 27) hx hb dX12_shuts_20 (by decide) (fun c_7 => ?_) (fun c_7 => ?_)
    · have c_7n : ¬ (((f_shut c_.toNatClampNeg) >>> (k_ &&& 31)) &&& 1).toInt = (1 : Int) := fun q => c_7 ((fa_eq _ _).mpr q)
      refine lv_iconst (v := 0) hx hb dX12_shuts_27 (by decide) ?_
      refine lv_iload_n hx hb dX12_shuts_28 rfl (lv_at hl 3 rfl) ?_
      refine lv_icmp_ne (tgt := 34) hx hb dX12_shuts_29 (by decide) (fun _ => ?_) (fun q => absurd q (by decide))
      refine lv_aload_n hx hb dX12_shuts_34 rfl (lv_at hl 0 rfl) ?_
      refine z_get C G clX12 1 rfl 15 (by decide) m_fl_RX12_23 rfl dX12_shuts_35 ?_
      refine lv_iload_n hx hb dX12_shuts_38 rfl (lv_at hl 1 rfl) ?_
      refine lv_dup2_11 hx hb dX12_shuts_39 rfl rfl ?_
      refine z_ild C G 0 rfl (vp_in_iff.mpr ⟨by omega, by omega⟩) dX12_shuts_40 ?_
      refine lv_topi (fun v_8 ev_8 => ?_)
      subst ev_8
      refine lv_iconst (v := 1) hx hb dX12_shuts_41 (by decide) ?_
      refine lv_iload_n hx hb dX12_shuts_42 rfl (lv_at hl 2 rfl) ?_
      refine lv_ishl hx hb dX12_shuts_43 ?_
      refine lv_ixor hx hb dX12_shuts_44 ?_
      refine z_ist C G 0 rfl (vp_in_iff.mpr ⟨by omega, by omega⟩) dX12_shuts_45 (fun H locs G => ?_)
      have G : zS T A s.heap s [[(m_shut, .inl (T.2 0, 7, .inl (upd f_shut c_.toNatClampNeg ((f_shut c_.toNatClampNeg) ^^^ (1 <<< (k_ &&& 31))))))], [(mo, .inr (11, [.ref m_all, .ref m_has, .int i_size, .int i_next, .int i_where, .int i_token, .int i_number, .int i_word, .int i_wrong, .int i_farCrossing, .ref m_read, .int i_z0, .int i_crossings, .int i_inns, .ref m_posts, .ref m_shut, .ref m_here, .int i_steps, .int i_done, .int i_at, .int i_gone, .ref m_was, .ref m_came, .ref m_seenAt, .ref m_rowWorth, .ref m_farBy, .ref m_used, .int i_everywhere, .int i_again0, .int i_d0, .int i_never, .int i_firstCame, .int i_longRun, .int i_moved, .int i_crowd, .int i_l0, .int i_fitMany, .int i_fitLeast, .int i_fitMost, .ref m_fitPost, .ref m_fitEnd, .ref m_keptPosts, .int i_x0]))], [(m_all, .inl (T.2 0, 3952, .inl f_all))]] _ _ := G
      refine lv_iconst (v := 1) hx hb dX12_shuts_46 (by decide) ?_
      have G := G.sub (bs' := [[(mo, .inr (11, [.ref m_all, .ref m_has, .int i_size, .int i_next, .int i_where, .int i_token, .int i_number, .int i_word, .int i_wrong, .int i_farCrossing, .ref m_read, .int i_z0, .int i_crossings, .int i_inns, .ref m_posts, .ref m_shut, .ref m_here, .int i_steps, .int i_done, .int i_at, .int i_gone, .ref m_was, .ref m_came, .ref m_seenAt, .ref m_rowWorth, .ref m_farBy, .ref m_used, .int i_everywhere, .int i_again0, .int i_d0, .int i_never, .int i_firstCame, .int i_longRun, .int i_moved, .int i_crowd, .int i_l0, .int i_fitMany, .int i_fitLeast, .int i_fitMost, .ref m_fitPost, .ref m_fitEnd, .ref m_keptPosts, .int i_x0]))], [(m_all, .inl (T.2 0, 3952, .inl f_all))], [(m_shut, .inl (T.2 0, 7, .inl (upd f_shut c_.toNatClampNeg ((f_shut c_.toNatClampNeg) ^^^ (1 <<< (k_ &&& 31))))))]]) [1, 2, 0] rfl
      exact z_zret C hr hlocks G (Nat.le_of_ble_eq_true rfl) (Nat.le_of_ble_eq_true rfl) dX12_shuts_47 rfl ⟨(upd f_shut c_.toNatClampNeg ((f_shut c_.toNatClampNeg) ^^^ (1 <<< (k_ &&& 31)))), rfl, (fun P H st nv => Or.inl ⟨rfl, by unfold zShF; rw [if_pos ⟨⟨by omega, by omega, by omega⟩, ⟨by omega, by show k_.toInt < (zRd f_all i_z0 c_).toInt; omega, by omega⟩, zBit_n (by assumption)⟩, ((zSx (hS5 c_.toNatClampNeg (by have q9 := z_clI (x := c_) (by omega); omega)) ⟨hk0, hk3⟩).1 (zBit_n (by assumption))).1]⟩), (zS15_u hS5 (by rw [((zSx (hS5 c_.toNatClampNeg (by have q9 := z_clI (x := c_) (by omega); omega)) ⟨hk0, hk3⟩).1 (zBit_n (by assumption))).1]; exact ((zSx (hS5 c_.toNatClampNeg (by have q9 := z_clI (x := c_) (by omega); omega)) ⟨hk0, hk3⟩).1 (zBit_n (by assumption))).2))⟩
    · have c_7n : (((f_shut c_.toNatClampNeg) >>> (k_ &&& 31)) &&& 1).toInt = (1 : Int) := (fa_eq _ _).mp c_7
      refine lv_iconst (v := 1) hx hb dX12_shuts_23 (by decide) ?_
      refine lv_goto (tgt := 28) hx hb dX12_shuts_24 (by decide) ?_
      refine lv_iload_n hx hb dX12_shuts_28 rfl (lv_at hl 3 rfl) ?_
      refine lv_icmp_ne (tgt := 34) hx hb dX12_shuts_29 (by decide) (fun q => absurd (by decide) q) (fun _ => ?_)
      refine lv_iconst (v := 0) hx hb dX12_shuts_32 (by decide) ?_
      have G := G.sub (bs' := [[(mo, .inr (11, [.ref m_all, .ref m_has, .int i_size, .int i_next, .int i_where, .int i_token, .int i_number, .int i_word, .int i_wrong, .int i_farCrossing, .ref m_read, .int i_z0, .int i_crossings, .int i_inns, .ref m_posts, .ref m_shut, .ref m_here, .int i_steps, .int i_done, .int i_at, .int i_gone, .ref m_was, .ref m_came, .ref m_seenAt, .ref m_rowWorth, .ref m_farBy, .ref m_used, .int i_everywhere, .int i_again0, .int i_d0, .int i_never, .int i_firstCame, .int i_longRun, .int i_moved, .int i_crowd, .int i_l0, .int i_fitMany, .int i_fitLeast, .int i_fitMost, .ref m_fitPost, .ref m_fitEnd, .ref m_keptPosts, .int i_x0]))], [(m_all, .inl (T.2 0, 3952, .inl f_all))], [(m_shut, .inl (T.2 0, 7, .inl f_shut))]]) [1, 2, 0] rfl
      exact z_zret C hr hlocks G (Nat.le_of_ble_eq_true rfl) (Nat.le_of_ble_eq_true rfl) dX12_shuts_33 rfl ⟨f_shut, rfl, (fun P H st nv => Or.inr ⟨rfl, by unfold zShF; rw [if_neg (fun q8 => by obtain ⟨⟨a1, a2, a3⟩, ⟨b1, b2, b3⟩, b4⟩ := q8; first | (have b2 : k_.toInt < (zRd f_all i_z0 c_).toInt := b2; omega) | exact absurd b4 (zBit_o (by assumption)))], rfl⟩), hS5⟩
set_option maxHeartbeats 4000000 in
set_option maxRecDepth 100000 in
/-- c_fm_shuts0 -/
theorem c_fm_shuts0 (l : Launch) (T : zTy) (mo : Nat) (m_all : Nat) (m_has : Nat) (i_size : Int32) (i_next : Int32) (i_where : Int32) (i_token : Int32) (i_number : Int32) (i_word : Int32) (i_wrong : Int32) (i_farCrossing : Int32) (m_read : Nat) (i_z0 : Int32) (i_crossings : Int32) (i_inns : Int32) (m_posts : Nat) (m_shut : Nat) (m_here : Nat) (i_steps : Int32) (i_done : Int32) (i_at : Int32) (i_gone : Int32) (m_was : Nat) (m_came : Nat) (m_seenAt : Nat) (m_rowWorth : Nat) (m_farBy : Nat) (m_used : Nat) (i_everywhere : Int32) (i_again0 : Int32) (i_d0 : Int32) (i_never : Int32) (i_firstCame : Int32) (i_longRun : Int32) (i_moved : Int32) (i_crowd : Int32) (i_l0 : Int32) (i_fitMany : Int32) (i_fitLeast : Int32) (i_fitMost : Int32) (m_fitPost : Nat) (m_fitEnd : Nat) (m_keptPosts : Nat) (i_x0 : Int32) (f_all : Nat → Int32) (f_shut : Nat → Int32) (c_ : Int32) (k_ : Int32) (hL : zML f_all i_z0 i_crossings) (hc0 : 0 ≤ c_.toInt) (hc6 : c_.toInt ≤ 6) (hcx : c_.toInt < i_crossings.toInt) (hk0 : 0 ≤ k_.toInt) (hk3 : k_.toInt ≤ 3) (hS5 : zS15 f_shut) : zMi l T yX12_shuts cX12_shuts 4 (some .boolean) 2 0 0 [.ref mo, .int c_, .int k_, .int 0] [[(mo, .inr (11, [.ref m_all, .ref m_has, .int i_size, .int i_next, .int i_where, .int i_token, .int i_number, .int i_word, .int i_wrong, .int i_farCrossing, .ref m_read, .int i_z0, .int i_crossings, .int i_inns, .ref m_posts, .ref m_shut, .ref m_here, .int i_steps, .int i_done, .int i_at, .int i_gone, .ref m_was, .ref m_came, .ref m_seenAt, .ref m_rowWorth, .ref m_farBy, .ref m_used, .int i_everywhere, .int i_again0, .int i_d0, .int i_never, .int i_firstCame, .int i_longRun, .int i_moved, .int i_crowd, .int i_l0, .int i_fitMany, .int i_fitLeast, .int i_fitMost, .ref m_fitPost, .ref m_fitEnd, .ref m_keptPosts, .int i_x0]))], [(m_all, .inl (T.2 0, 3952, .inl f_all))], [(m_shut, .inl (T.2 0, 7, .inl f_shut))]] (fun (r : Int32) bs => ∃ (g_shut : Nat → Int32), bs = [[(mo, .inr (11, [.ref m_all, .ref m_has, .int i_size, .int i_next, .int i_where, .int i_token, .int i_number, .int i_word, .int i_wrong, .int i_farCrossing, .ref m_read, .int i_z0, .int i_crossings, .int i_inns, .ref m_posts, .ref m_shut, .ref m_here, .int i_steps, .int i_done, .int i_at, .int i_gone, .ref m_was, .ref m_came, .ref m_seenAt, .ref m_rowWorth, .ref m_farBy, .ref m_used, .int i_everywhere, .int i_again0, .int i_d0, .int i_never, .int i_firstCame, .int i_longRun, .int i_moved, .int i_crowd, .int i_l0, .int i_fitMany, .int i_fitLeast, .int i_fitMost, .ref m_fitPost, .ref m_fitEnd, .ref m_keptPosts, .int i_x0]))], [(m_all, .inl (T.2 0, 3952, .inl f_all))], [(m_shut, .inl (T.2 0, 7, .inl g_shut))]] ∧ (∀ (P H : Nat → Int32) (st nv : Int32), r = 1 ∧ zOpF i_crossings (zRo f_all i_z0) c_ k_ (P, f_shut, H, st, nv) = some (P, g_shut, H, st, nv) ∨ r = 0 ∧ zOpF i_crossings (zRo f_all i_z0) c_ k_ (P, f_shut, H, st, nv) = none ∧ g_shut = f_shut) ∧ zS15 g_shut) := by
  refine zMi_of (own := RX12) (by decide) rfl (Nat.le_of_ble_eq_true rfl) ?_
  intro p e s m args below meth c A ls C hr hlocks hnm hAe G hl
  have hx := C.1
  have hb := C.2.1
  have hl : lv_has ls 4 [(0, .ref mo), (1, .int c_), (2, .int k_), (3, .int 0)] := hl
  have hz := hL.1
  have hcr := hL.cr
  refine lv_iload_n hx hb dX12_shuts_0 rfl (lv_at hl 2 rfl) ?_
  refine lv_aload_n hx hb dX12_shuts_1 rfl (lv_at hl 0 rfl) ?_
  refine lv_iload_n hx hb dX12_shuts_2 rfl (lv_at hl 1 rfl) ?_
  refine z_Vi (bc := [[(mo, .inr (11, [.ref m_all, .ref m_has, .int i_size, .int i_next, .int i_where, .int i_token, .int i_number, .int i_word, .int i_wrong, .int i_farCrossing, .ref m_read, .int i_z0, .int i_crossings, .int i_inns, .ref m_posts, .ref m_shut, .ref m_here, .int i_steps, .int i_done, .int i_at, .int i_gone, .ref m_was, .ref m_came, .ref m_seenAt, .ref m_rowWorth, .ref m_farBy, .ref m_used, .int i_everywhere, .int i_again0, .int i_d0, .int i_never, .int i_firstCame, .int i_longRun, .int i_moved, .int i_crowd, .int i_l0, .int i_fitMany, .int i_fitLeast, .int i_fitMost, .ref m_fitPost, .ref m_fitEnd, .ref m_keptPosts, .int i_x0]))], [(m_all, .inl (T.2 0, 3952, .inl f_all))]]) (br := [[(m_shut, .inl (T.2 0, 7, .inl f_shut))]]) (As := [.int c_]) (rest := [.int k_]) C G (c_m_roadsOf l T mo m_all m_has i_size i_next i_where i_token i_number i_word i_wrong i_farCrossing m_read i_z0 i_crossings i_inns m_posts m_shut m_here i_steps i_done i_at i_gone m_was m_came m_seenAt m_rowWorth m_farBy m_used i_everywhere i_again0 i_d0 i_never i_firstCame i_longRun i_moved i_crowd i_l0 i_fitMany i_fitLeast i_fitMost m_fitPost m_fitEnd m_keptPosts i_x0 f_all c_ (by first | with_reducible assumption | with_reducible rfl | omega | assumption | rfl) (by first | with_reducible assumption | with_reducible rfl | omega | assumption | rfl) (by first | with_reducible assumption | with_reducible rfl | omega | assumption | rfl)) (kV_RX12_181 C.2.2.2.2 (Nat.le_of_ble_eq_true rfl) (Nat.le_of_ble_eq_true rfl)) [0, 1] [2] rfl rfl (ci := 11) (qc := (RX12, TX12, 43)) rfl rfl (List.mem_flatten.mpr ⟨_, List.mem_of_getElem? (i := 0) rfl, List.mem_cons_self⟩) rfl rfl hl.1 dX12_shuts_3 (Nat.le_of_ble_eq_true rfl) (Nat.le_of_ble_eq_true rfl) (fun r_4 b1 H locs hw G => ?_)
  refine hw.elim fun hbs9 w90 => w90.elim fun h_1 w91 => w91.elim fun h_2 h_3 => ?_
  clear hw w90 w91
  subst hbs9
  have G : zS T A s.heap s [[(m_shut, .inl (T.2 0, 7, .inl f_shut))], [(mo, .inr (11, [.ref m_all, .ref m_has, .int i_size, .int i_next, .int i_where, .int i_token, .int i_number, .int i_word, .int i_wrong, .int i_farCrossing, .ref m_read, .int i_z0, .int i_crossings, .int i_inns, .ref m_posts, .ref m_shut, .ref m_here, .int i_steps, .int i_done, .int i_at, .int i_gone, .ref m_was, .ref m_came, .ref m_seenAt, .ref m_rowWorth, .ref m_farBy, .ref m_used, .int i_everywhere, .int i_again0, .int i_d0, .int i_never, .int i_firstCame, .int i_longRun, .int i_moved, .int i_crowd, .int i_l0, .int i_fitMany, .int i_fitLeast, .int i_fitMost, .ref m_fitPost, .ref m_fitEnd, .ref m_keptPosts, .int i_x0]))], [(m_all, .inl (T.2 0, 3952, .inl f_all))]] _ _ := G
  subst h_1
  refine lv_icmp_ge (tgt := 32) hx hb dX12_shuts_6 (by decide) (fun c_5 => ?_) (fun c_5 => ?_)
  · have c_5n : (zRd f_all i_z0 c_).toInt ≤ k_.toInt := (fa_le _ _).mp c_5
    refine lv_iconst (v := 0) hx hb dX12_shuts_32 (by decide) ?_
    have G := G.sub (bs' := [[(mo, .inr (11, [.ref m_all, .ref m_has, .int i_size, .int i_next, .int i_where, .int i_token, .int i_number, .int i_word, .int i_wrong, .int i_farCrossing, .ref m_read, .int i_z0, .int i_crossings, .int i_inns, .ref m_posts, .ref m_shut, .ref m_here, .int i_steps, .int i_done, .int i_at, .int i_gone, .ref m_was, .ref m_came, .ref m_seenAt, .ref m_rowWorth, .ref m_farBy, .ref m_used, .int i_everywhere, .int i_again0, .int i_d0, .int i_never, .int i_firstCame, .int i_longRun, .int i_moved, .int i_crowd, .int i_l0, .int i_fitMany, .int i_fitLeast, .int i_fitMost, .ref m_fitPost, .ref m_fitEnd, .ref m_keptPosts, .int i_x0]))], [(m_all, .inl (T.2 0, 3952, .inl f_all))], [(m_shut, .inl (T.2 0, 7, .inl f_shut))]]) [1, 2, 0] rfl
    exact z_zret C hr hlocks G (Nat.le_of_ble_eq_true rfl) (Nat.le_of_ble_eq_true rfl) dX12_shuts_33 rfl ⟨f_shut, rfl, (fun P H st nv => Or.inr ⟨rfl, by unfold zOpF; rw [if_neg (fun q8 => by obtain ⟨⟨a1, a2, a3⟩, ⟨b1, b2, b3⟩, b4⟩ := q8; first | (have b2 : k_.toInt < (zRd f_all i_z0 c_).toInt := b2; omega) | exact absurd b4 (fun q7 => q7 (zBit_n (by assumption))))], rfl⟩), hS5⟩
  · have c_5n : ¬ (zRd f_all i_z0 c_).toInt ≤ k_.toInt := fun q => c_5 ((fa_le _ _).mpr q)
    refine lv_aload_n hx hb dX12_shuts_9 rfl (lv_at hl 0 rfl) ?_
    refine z_get C G clX12 1 rfl 15 (by decide) m_fl_RX12_23 rfl dX12_shuts_10 ?_
    refine lv_iload_n hx hb dX12_shuts_13 rfl (lv_at hl 1 rfl) ?_
    refine z_ild C G 0 rfl (vp_in_iff.mpr ⟨by omega, by omega⟩) dX12_shuts_14 ?_
    refine lv_topi (fun v_6 ev_6 => ?_)
    subst ev_6
    refine lv_iload_n hx hb dX12_shuts_15 rfl (lv_at hl 2 rfl) ?_
    refine lv_ishr hx hb dX12_shuts_16 ?_
    refine lv_iconst (v := 1) hx hb dX12_shuts_17 (by decide) ?_
    refine lv_iand hx hb dX12_shuts_18 ?_
    refine lv_iconst (v := 1) hx hb dX12_shuts_19 (by decide) ?_
    refine lv_icmp_ne (tgt := 27) hx hb dX12_shuts_20 (by decide) (fun c_7 => ?_) (fun c_7 => ?_)
    · have c_7n : ¬ (((f_shut c_.toNatClampNeg) >>> (k_ &&& 31)) &&& 1).toInt = (1 : Int) := fun q => c_7 ((fa_eq _ _).mpr q)
      refine lv_iconst (v := 0) hx hb dX12_shuts_27 (by decide) ?_
      refine lv_iload_n hx hb dX12_shuts_28 rfl (lv_at hl 3 rfl) ?_
      refine lv_icmp_ne (tgt := 34) hx hb dX12_shuts_29 (by decide) (fun q => absurd (by decide) q) (fun _ => ?_)
      refine lv_iconst (v := 0) hx hb dX12_shuts_32 (by decide) ?_
      have G := G.sub (bs' := [[(mo, .inr (11, [.ref m_all, .ref m_has, .int i_size, .int i_next, .int i_where, .int i_token, .int i_number, .int i_word, .int i_wrong, .int i_farCrossing, .ref m_read, .int i_z0, .int i_crossings, .int i_inns, .ref m_posts, .ref m_shut, .ref m_here, .int i_steps, .int i_done, .int i_at, .int i_gone, .ref m_was, .ref m_came, .ref m_seenAt, .ref m_rowWorth, .ref m_farBy, .ref m_used, .int i_everywhere, .int i_again0, .int i_d0, .int i_never, .int i_firstCame, .int i_longRun, .int i_moved, .int i_crowd, .int i_l0, .int i_fitMany, .int i_fitLeast, .int i_fitMost, .ref m_fitPost, .ref m_fitEnd, .ref m_keptPosts, .int i_x0]))], [(m_all, .inl (T.2 0, 3952, .inl f_all))], [(m_shut, .inl (T.2 0, 7, .inl f_shut))]]) [1, 2, 0] rfl
      exact z_zret C hr hlocks G (Nat.le_of_ble_eq_true rfl) (Nat.le_of_ble_eq_true rfl) dX12_shuts_33 rfl ⟨f_shut, rfl, (fun P H st nv => Or.inr ⟨rfl, by unfold zOpF; rw [if_neg (fun q8 => by obtain ⟨⟨a1, a2, a3⟩, ⟨b1, b2, b3⟩, b4⟩ := q8; first | (have b2 : k_.toInt < (zRd f_all i_z0 c_).toInt := b2; omega) | exact absurd b4 (fun q7 => q7 (zBit_n (by assumption))))], rfl⟩), hS5⟩
    · have c_7n : (((f_shut c_.toNatClampNeg) >>> (k_ &&& 31)) &&& 1).toInt = (1 : Int) := (fa_eq _ _).mp c_7
      refine lv_iconst (v := 1) hx hb dX12_shuts_23 (by decide) ?_
      refine lv_goto (tgt := 28) hx hb dX12_shuts_24 (by decide) ?_
      refine lv_iload_n hx hb dX12_shuts_28 rfl (lv_at hl 3 rfl) ?_
      refine lv_icmp_ne (tgt := 34) hx hb dX12_shuts_29 (by decide) (fun _ => ?_) (fun q => absurd q (by decide))
      refine lv_aload_n hx hb dX12_shuts_34 rfl (lv_at hl 0 rfl) ?_
      refine z_get C G clX12 1 rfl 15 (by decide) m_fl_RX12_23 rfl dX12_shuts_35 ?_
      refine lv_iload_n hx hb dX12_shuts_38 rfl (lv_at hl 1 rfl) ?_
      refine lv_dup2_11 hx hb dX12_shuts_39 rfl rfl ?_
      refine z_ild C G 0 rfl (vp_in_iff.mpr ⟨by omega, by omega⟩) dX12_shuts_40 ?_
      refine lv_topi (fun v_8 ev_8 => ?_)
      subst ev_8
      refine lv_iconst (v := 1) hx hb dX12_shuts_41 (by decide) ?_
      refine lv_iload_n hx hb dX12_shuts_42 rfl (lv_at hl 2 rfl) ?_
      refine lv_ishl hx hb dX12_shuts_43 ?_
      refine lv_ixor hx hb dX12_shuts_44 ?_
      refine z_ist C G 0 rfl (vp_in_iff.mpr ⟨by omega, by omega⟩) dX12_shuts_45 (fun H locs G => ?_)
      have G : zS T A s.heap s [[(m_shut, .inl (T.2 0, 7, .inl (upd f_shut c_.toNatClampNeg ((f_shut c_.toNatClampNeg) ^^^ (1 <<< (k_ &&& 31))))))], [(mo, .inr (11, [.ref m_all, .ref m_has, .int i_size, .int i_next, .int i_where, .int i_token, .int i_number, .int i_word, .int i_wrong, .int i_farCrossing, .ref m_read, .int i_z0, .int i_crossings, .int i_inns, .ref m_posts, .ref m_shut, .ref m_here, .int i_steps, .int i_done, .int i_at, .int i_gone, .ref m_was, .ref m_came, .ref m_seenAt, .ref m_rowWorth, .ref m_farBy, .ref m_used, .int i_everywhere, .int i_again0, .int i_d0, .int i_never, .int i_firstCame, .int i_longRun, .int i_moved, .int i_crowd, .int i_l0, .int i_fitMany, .int i_fitLeast, .int i_fitMost, .ref m_fitPost, .ref m_fitEnd, .ref m_keptPosts, .int i_x0]))], [(m_all, .inl (T.2 0, 3952, .inl f_all))]] _ _ := G
      refine lv_iconst (v := 1) hx hb dX12_shuts_46 (by decide) ?_
      have G := G.sub (bs' := [[(mo, .inr (11, [.ref m_all, .ref m_has, .int i_size, .int i_next, .int i_where, .int i_token, .int i_number, .int i_word, .int i_wrong, .int i_farCrossing, .ref m_read, .int i_z0, .int i_crossings, .int i_inns, .ref m_posts, .ref m_shut, .ref m_here, .int i_steps, .int i_done, .int i_at, .int i_gone, .ref m_was, .ref m_came, .ref m_seenAt, .ref m_rowWorth, .ref m_farBy, .ref m_used, .int i_everywhere, .int i_again0, .int i_d0, .int i_never, .int i_firstCame, .int i_longRun, .int i_moved, .int i_crowd, .int i_l0, .int i_fitMany, .int i_fitLeast, .int i_fitMost, .ref m_fitPost, .ref m_fitEnd, .ref m_keptPosts, .int i_x0]))], [(m_all, .inl (T.2 0, 3952, .inl f_all))], [(m_shut, .inl (T.2 0, 7, .inl (upd f_shut c_.toNatClampNeg ((f_shut c_.toNatClampNeg) ^^^ (1 <<< (k_ &&& 31))))))]]) [1, 2, 0] rfl
      exact z_zret C hr hlocks G (Nat.le_of_ble_eq_true rfl) (Nat.le_of_ble_eq_true rfl) dX12_shuts_47 rfl ⟨(upd f_shut c_.toNatClampNeg ((f_shut c_.toNatClampNeg) ^^^ (1 <<< (k_ &&& 31)))), rfl, (fun P H st nv => Or.inl ⟨rfl, by unfold zOpF; rw [if_pos ⟨⟨by omega, by omega, by omega⟩, ⟨by omega, by show k_.toInt < (zRd f_all i_z0 c_).toInt; omega, by omega⟩, zBit_o (by assumption)⟩, ((zSx (hS5 c_.toNatClampNeg (by have q9 := z_clI (x := c_) (by omega); omega)) ⟨hk0, hk3⟩).2 (zBit_o (by assumption))).1]⟩), (zS15_u hS5 (by rw [((zSx (hS5 c_.toNatClampNeg (by have q9 := z_clI (x := c_) (by omega); omega)) ⟨hk0, hk3⟩).2 (zBit_o (by assumption))).1]; exact ((zSx (hS5 c_.toNatClampNeg (by have q9 := z_clI (x := c_) (by omega); omega)) ⟨hk0, hk3⟩).2 (zBit_o (by assumption))).2))⟩
theorem zDe_nh {cr inn d x y : Int32} {W Ro L : Nat → Int32} {D : zK} (h : ¬ zHas cr x) : zDe cr inn W Ro L d x y D = none := by
  unfold zDe
  by_cases h0 : d.toInt = 0
  · rw [if_pos h0]
    exact if_neg (fun q => h q.1.1)
  rw [if_neg h0]
  by_cases h1 : d.toInt = 1
  · rw [if_pos h1]
    exact if_neg (fun q => h q.1)
  rw [if_neg h1]
  by_cases h2 : d.toInt = 2
  · rw [if_pos h2]
    exact if_neg (fun q => h q.1)
  rw [if_neg h2]
  by_cases h3 : d.toInt = 3
  · rw [if_pos h3]
    exact if_neg (fun q => h q.1)
  rw [if_neg h3]
  by_cases h4 : d.toInt = 4
  · rw [if_pos h4]
    exact if_neg (fun q => h q.1)
  rw [if_neg h4]
  by_cases h5 : d.toInt = 5
  · rw [if_pos h5]
    exact if_neg (fun q => h q.1)
  rw [if_neg h5]
theorem zPost_inn {P S f : Nat → Int32} {z n x : Int32} (h : zBit n x = 1) (h0 : 0 ≤ x.toInt) (h6 : x.toInt ≤ 6) : P = zPost P S (zWo f z n) x := by
  unfold zPost
  rw [if_pos (zTurn_inn h h0 h6)]
set_option maxHeartbeats 4000000 in
set_option maxRecDepth 100000 in
/-- c_fm_does -/
theorem c_fm_does (l : Launch) (T : zTy) (mo : Nat) (m_all : Nat) (m_has : Nat) (i_size : Int32) (i_next : Int32) (i_where : Int32) (i_token : Int32) (i_number : Int32) (i_word : Int32) (i_wrong : Int32) (i_farCrossing : Int32) (m_read : Nat) (i_z0 : Int32) (i_crossings : Int32) (i_inns : Int32) (m_posts : Nat) (m_shut : Nat) (m_here : Nat) (i_steps : Int32) (i_done : Int32) (i_at : Int32) (i_gone : Int32) (m_was : Nat) (m_came : Nat) (m_seenAt : Nat) (m_rowWorth : Nat) (m_farBy : Nat) (m_used : Nat) (i_everywhere : Int32) (i_again0 : Int32) (i_d0 : Int32) (i_never : Int32) (i_firstCame : Int32) (i_longRun : Int32) (i_moved : Int32) (i_crowd : Int32) (i_l0 : Int32) (i_fitMany : Int32) (i_fitLeast : Int32) (i_fitMost : Int32) (m_fitPost : Nat) (m_fitEnd : Nat) (m_keptPosts : Nat) (i_x0 : Int32) (f_all : Nat → Int32) (f_posts : Nat → Int32) (f_shut : Nat → Int32) (f_here : Nat → Int32) (f_was : Nat → Int32) (d_ : Int32) (a_ : Int32) (b_ : Int32) (hL : zML f_all i_z0 i_crossings) (hP : zMP f_posts) (hV : zMV (zRo f_all i_z0) f_posts) (hH : zHB 100000 f_here) (hd0 : 0 ≤ d_.toInt) (hd5 : d_.toInt ≤ 5) (hb3 : 4 ≤ d_.toInt → 0 ≤ b_.toInt ∧ b_.toInt ≤ 3) (hS5 : zS15 f_shut) : zMi l T yX12_does cX12_does 4 (some .boolean) 6 0 0 [.ref mo, .int d_, .int a_, .int b_] [[(mo, .inr (11, [.ref m_all, .ref m_has, .int i_size, .int i_next, .int i_where, .int i_token, .int i_number, .int i_word, .int i_wrong, .int i_farCrossing, .ref m_read, .int i_z0, .int i_crossings, .int i_inns, .ref m_posts, .ref m_shut, .ref m_here, .int i_steps, .int i_done, .int i_at, .int i_gone, .ref m_was, .ref m_came, .ref m_seenAt, .ref m_rowWorth, .ref m_farBy, .ref m_used, .int i_everywhere, .int i_again0, .int i_d0, .int i_never, .int i_firstCame, .int i_longRun, .int i_moved, .int i_crowd, .int i_l0, .int i_fitMany, .int i_fitLeast, .int i_fitMost, .ref m_fitPost, .ref m_fitEnd, .ref m_keptPosts, .int i_x0]))], [(m_all, .inl (T.2 0, 3952, .inl f_all))], [(m_posts, .inl (T.2 0, 7, .inl f_posts))], [(m_shut, .inl (T.2 0, 7, .inl f_shut))], [(m_here, .inl (T.2 0, 7, .inl f_here))], [(m_was, .inl (T.2 0, 7, .inl f_was))]] (fun (r : Int32) bs => ∃ (j_at : Int32) (j_gone : Int32) (j_steps : Int32) (j_moved : Int32) (j_firstCame : Int32) (j_never : Int32) (j_longRun : Int32) (g_posts : Nat → Int32) (g_shut : Nat → Int32) (g_here : Nat → Int32) (g_was : Nat → Int32), bs = [[(mo, .inr (11, [.ref m_all, .ref m_has, .int i_size, .int i_next, .int i_where, .int i_token, .int i_number, .int i_word, .int i_wrong, .int i_farCrossing, .ref m_read, .int i_z0, .int i_crossings, .int i_inns, .ref m_posts, .ref m_shut, .ref m_here, .int j_steps, .int i_done, .int j_at, .int j_gone, .ref m_was, .ref m_came, .ref m_seenAt, .ref m_rowWorth, .ref m_farBy, .ref m_used, .int i_everywhere, .int i_again0, .int i_d0, .int j_never, .int j_firstCame, .int j_longRun, .int j_moved, .int i_crowd, .int i_l0, .int i_fitMany, .int i_fitLeast, .int i_fitMost, .ref m_fitPost, .ref m_fitEnd, .ref m_keptPosts, .int i_x0]))], [(m_all, .inl (T.2 0, 3952, .inl f_all))], [(m_posts, .inl (T.2 0, 7, .inl g_posts))], [(m_shut, .inl (T.2 0, 7, .inl g_shut))], [(m_here, .inl (T.2 0, 7, .inl g_here))], [(m_was, .inl (T.2 0, 7, .inl g_was))]] ∧ (r = 1 ∧ zDe i_crossings i_inns (zWo f_all i_z0 i_inns) (zRo f_all i_z0) (zLo f_all i_z0) d_ a_ b_ (f_posts, f_shut, f_here, i_steps, i_never) = some (g_posts, g_shut, g_here, j_steps, j_never) ∨ r = 0 ∧ zDe i_crossings i_inns (zWo f_all i_z0 i_inns) (zRo f_all i_z0) (zLo f_all i_z0) d_ a_ b_ (f_posts, f_shut, f_here, i_steps, i_never) = none ∧ g_posts = f_posts ∧ g_shut = f_shut ∧ g_here = f_here ∧ j_steps = i_steps ∧ j_never = i_never) ∧ zMV (zRo f_all i_z0) g_posts ∧ zMP g_posts ∧ (∀ m : Int, m ≤ 100000 → zHB m f_here → zHB (m + 1) g_here) ∧ zS15 g_shut) := by
  refine zMi_of (own := RX12) (by decide) rfl (Nat.le_of_ble_eq_true rfl) ?_
  intro p e s m args below meth c A ls C hr hlocks hnm hAe G hl
  have hx := C.1
  have hb := C.2.1
  have hl : lv_has ls 4 [(0, .ref mo), (1, .int d_), (2, .int a_), (3, .int b_)] := hl
  have hz := hL.1
  have hcr := hL.cr
  refine lv_aload_n hx hb dX12_does_0 rfl (lv_at hl 0 rfl) ?_
  refine lv_iload_n hx hb dX12_does_1 rfl (lv_at hl 2 rfl) ?_
  refine z_Vi (bc := [[(mo, .inr (11, [.ref m_all, .ref m_has, .int i_size, .int i_next, .int i_where, .int i_token, .int i_number, .int i_word, .int i_wrong, .int i_farCrossing, .ref m_read, .int i_z0, .int i_crossings, .int i_inns, .ref m_posts, .ref m_shut, .ref m_here, .int i_steps, .int i_done, .int i_at, .int i_gone, .ref m_was, .ref m_came, .ref m_seenAt, .ref m_rowWorth, .ref m_farBy, .ref m_used, .int i_everywhere, .int i_again0, .int i_d0, .int i_never, .int i_firstCame, .int i_longRun, .int i_moved, .int i_crowd, .int i_l0, .int i_fitMany, .int i_fitLeast, .int i_fitMost, .ref m_fitPost, .ref m_fitEnd, .ref m_keptPosts, .int i_x0]))]]) (br := [[(m_all, .inl (T.2 0, 3952, .inl f_all))], [(m_posts, .inl (T.2 0, 7, .inl f_posts))], [(m_shut, .inl (T.2 0, 7, .inl f_shut))], [(m_here, .inl (T.2 0, 7, .inl f_here))], [(m_was, .inl (T.2 0, 7, .inl f_was))]]) (As := [.int a_]) (rest := []) C G (c_m_isCrossing l T mo m_all m_has i_size i_next i_where i_token i_number i_word i_wrong i_farCrossing m_read i_z0 i_crossings i_inns m_posts m_shut m_here i_steps i_done i_at i_gone m_was m_came m_seenAt m_rowWorth m_farBy m_used i_everywhere i_again0 i_d0 i_never i_firstCame i_longRun i_moved i_crowd i_l0 i_fitMany i_fitLeast i_fitMost m_fitPost m_fitEnd m_keptPosts i_x0 a_ (by first | with_reducible assumption | with_reducible rfl | omega | assumption | rfl)) (kV_RX12_187 C.2.2.2.2 (Nat.le_of_ble_eq_true rfl) (Nat.le_of_ble_eq_true rfl)) [0] [1, 2, 3, 4, 5] rfl rfl (ci := 11) (qc := (RX12, TX12, 43)) rfl rfl (List.mem_flatten.mpr ⟨_, List.mem_of_getElem? (i := 0) rfl, List.mem_cons_self⟩) rfl rfl hl.1 dX12_does_2 (Nat.le_of_ble_eq_true rfl) (Nat.le_of_ble_eq_true rfl) (fun r_2 b1 H locs hw G => ?_)
  refine hw.elim fun hbs9 hc_1 => ?_
  clear hw
  subst hbs9
  have G : zS T A s.heap s [[(m_all, .inl (T.2 0, 3952, .inl f_all))], [(m_posts, .inl (T.2 0, 7, .inl f_posts))], [(m_shut, .inl (T.2 0, 7, .inl f_shut))], [(m_here, .inl (T.2 0, 7, .inl f_here))], [(m_was, .inl (T.2 0, 7, .inl f_was))], [(mo, .inr (11, [.ref m_all, .ref m_has, .int i_size, .int i_next, .int i_where, .int i_token, .int i_number, .int i_word, .int i_wrong, .int i_farCrossing, .ref m_read, .int i_z0, .int i_crossings, .int i_inns, .ref m_posts, .ref m_shut, .ref m_here, .int i_steps, .int i_done, .int i_at, .int i_gone, .ref m_was, .ref m_came, .ref m_seenAt, .ref m_rowWorth, .ref m_farBy, .ref m_used, .int i_everywhere, .int i_again0, .int i_d0, .int i_never, .int i_firstCame, .int i_longRun, .int i_moved, .int i_crowd, .int i_l0, .int i_fitMany, .int i_fitLeast, .int i_fitMost, .ref m_fitPost, .ref m_fitEnd, .ref m_keptPosts, .int i_x0]))]] _ _ := G
  rcases hc_1 with ⟨rfl, h_3, h_4⟩ | ⟨rfl, h_5⟩
  · have h_3 : 0 ≤ a_.toInt := h_3
    have h_4 : a_.toInt < i_crossings.toInt := h_4
    refine lv_if_ne (tgt := 10) hx hb dX12_does_5 (by decide) (fun _ => ?_) (fun q => absurd q (by decide))
    refine lv_iload_n hx hb dX12_does_10 rfl (lv_at hl 1 rfl) ?_
    by_cases c_6o : d_.toInt < 0 ∨ 3 < d_.toInt
    · refine lv_tableOut (tgt := 80) hx hb dX12_does_11 c_6o (by decide) ?_
      refine lv_aload_n hx hb dX12_does_80 rfl (lv_at hl 0 rfl) ?_
      refine lv_iload_n hx hb dX12_does_81 rfl (lv_at hl 2 rfl) ?_
      refine lv_iload_n hx hb dX12_does_82 rfl (lv_at hl 3 rfl) ?_
      refine lv_iload_n hx hb dX12_does_83 rfl (lv_at hl 1 rfl) ?_
      refine lv_iconst (v := 4) hx hb dX12_does_84 (by decide) ?_
      refine lv_icmp_ne (tgt := 92) hx hb dX12_does_85 (by decide) (fun c_7 => ?_) (fun c_7 => ?_)
      · have c_7n : ¬ d_.toInt = (4 : Int) := fun q => c_7 ((fa_eq _ _).mpr q)
        refine lv_iconst (v := 0) hx hb dX12_does_92 (by decide) ?_
        refine z_Vi (bc := [[(mo, .inr (11, [.ref m_all, .ref m_has, .int i_size, .int i_next, .int i_where, .int i_token, .int i_number, .int i_word, .int i_wrong, .int i_farCrossing, .ref m_read, .int i_z0, .int i_crossings, .int i_inns, .ref m_posts, .ref m_shut, .ref m_here, .int i_steps, .int i_done, .int i_at, .int i_gone, .ref m_was, .ref m_came, .ref m_seenAt, .ref m_rowWorth, .ref m_farBy, .ref m_used, .int i_everywhere, .int i_again0, .int i_d0, .int i_never, .int i_firstCame, .int i_longRun, .int i_moved, .int i_crowd, .int i_l0, .int i_fitMany, .int i_fitLeast, .int i_fitMost, .ref m_fitPost, .ref m_fitEnd, .ref m_keptPosts, .int i_x0]))], [(m_all, .inl (T.2 0, 3952, .inl f_all))], [(m_shut, .inl (T.2 0, 7, .inl f_shut))]]) (br := [[(m_posts, .inl (T.2 0, 7, .inl f_posts))], [(m_here, .inl (T.2 0, 7, .inl f_here))], [(m_was, .inl (T.2 0, 7, .inl f_was))]]) (As := [.int a_, .int b_, .int 0]) (rest := []) C G (c_fm_shuts0 l T mo m_all m_has i_size i_next i_where i_token i_number i_word i_wrong i_farCrossing m_read i_z0 i_crossings i_inns m_posts m_shut m_here i_steps i_done i_at i_gone m_was m_came m_seenAt m_rowWorth m_farBy m_used i_everywhere i_again0 i_d0 i_never i_firstCame i_longRun i_moved i_crowd i_l0 i_fitMany i_fitLeast i_fitMost m_fitPost m_fitEnd m_keptPosts i_x0 f_all f_shut a_ b_ (by first | with_reducible assumption | with_reducible rfl | omega | assumption | rfl) (by first | with_reducible assumption | with_reducible rfl | omega | assumption | rfl) (by first | with_reducible assumption | with_reducible rfl | omega | assumption | rfl) (by first | with_reducible assumption | with_reducible rfl | omega | assumption | rfl) (hb3 (by omega)).1 (hb3 (by omega)).2 (by first | with_reducible assumption | with_reducible rfl | omega | assumption | rfl)) (kV_RX12_335 C.2.2.2.2 (Nat.le_of_ble_eq_true rfl) (Nat.le_of_ble_eq_true rfl)) [5, 0, 2] [1, 3, 4] rfl rfl (ci := 11) (qc := (RX12, TX12, 43)) rfl rfl (List.mem_flatten.mpr ⟨_, List.mem_of_getElem? (i := 0) rfl, List.mem_cons_self⟩) rfl rfl hl.1 dX12_does_93 (Nat.le_of_ble_eq_true rfl) (Nat.le_of_ble_eq_true rfl) (fun r_11 b1 H locs hw G => ?_)
        refine hw.elim fun g_shut_8 w90 => w90.elim fun hbs9 w91 => w91.elim fun h_9 h_10 => ?_
        clear hw w90 w91
        subst hbs9
        have G : zS T A s.heap s [[(m_posts, .inl (T.2 0, 7, .inl f_posts))], [(m_here, .inl (T.2 0, 7, .inl f_here))], [(m_was, .inl (T.2 0, 7, .inl f_was))], [(mo, .inr (11, [.ref m_all, .ref m_has, .int i_size, .int i_next, .int i_where, .int i_token, .int i_number, .int i_word, .int i_wrong, .int i_farCrossing, .ref m_read, .int i_z0, .int i_crossings, .int i_inns, .ref m_posts, .ref m_shut, .ref m_here, .int i_steps, .int i_done, .int i_at, .int i_gone, .ref m_was, .ref m_came, .ref m_seenAt, .ref m_rowWorth, .ref m_farBy, .ref m_used, .int i_everywhere, .int i_again0, .int i_d0, .int i_never, .int i_firstCame, .int i_longRun, .int i_moved, .int i_crowd, .int i_l0, .int i_fitMany, .int i_fitLeast, .int i_fitMost, .ref m_fitPost, .ref m_fitEnd, .ref m_keptPosts, .int i_x0]))], [(m_all, .inl (T.2 0, 3952, .inl f_all))], [(m_shut, .inl (T.2 0, 7, .inl g_shut_8))]] _ _ := G
        have G := G.sub (bs' := [[(mo, .inr (11, [.ref m_all, .ref m_has, .int i_size, .int i_next, .int i_where, .int i_token, .int i_number, .int i_word, .int i_wrong, .int i_farCrossing, .ref m_read, .int i_z0, .int i_crossings, .int i_inns, .ref m_posts, .ref m_shut, .ref m_here, .int i_steps, .int i_done, .int i_at, .int i_gone, .ref m_was, .ref m_came, .ref m_seenAt, .ref m_rowWorth, .ref m_farBy, .ref m_used, .int i_everywhere, .int i_again0, .int i_d0, .int i_never, .int i_firstCame, .int i_longRun, .int i_moved, .int i_crowd, .int i_l0, .int i_fitMany, .int i_fitLeast, .int i_fitMost, .ref m_fitPost, .ref m_fitEnd, .ref m_keptPosts, .int i_x0]))], [(m_all, .inl (T.2 0, 3952, .inl f_all))], [(m_posts, .inl (T.2 0, 7, .inl f_posts))], [(m_shut, .inl (T.2 0, 7, .inl g_shut_8))], [(m_here, .inl (T.2 0, 7, .inl f_here))], [(m_was, .inl (T.2 0, 7, .inl f_was))]]) [3, 4, 0, 5, 1, 2] rfl
        exact z_zret C hr hlocks G (Nat.le_of_ble_eq_true rfl) (Nat.le_of_ble_eq_true rfl) dX12_does_96 (by rcases h_9 f_posts f_here i_steps i_never with q | q <;> rw [q.1] <;> rfl) ⟨i_at, i_gone, i_steps, i_moved, i_firstCame, i_never, i_longRun, f_posts, g_shut_8, f_here, f_was, rfl, ((h_9 f_posts f_here i_steps i_never).elim (fun q8 => Or.inl ⟨q8.1, (zDe_k5 (by omega)).trans q8.2⟩) (fun q8 => Or.inr ⟨q8.1, (zDe_k5 (by omega)).trans q8.2.1, rfl, q8.2.2, rfl, rfl, rfl⟩)), hV, hP, (fun m hm hx => zHB_m hx (by omega)), h_10⟩
      · have c_7n : d_.toInt = (4 : Int) := (fa_eq _ _).mp c_7
        refine lv_iconst (v := 1) hx hb dX12_does_88 (by decide) ?_
        refine lv_goto (tgt := 93) hx hb dX12_does_89 (by decide) ?_
        refine z_Vi (bc := [[(mo, .inr (11, [.ref m_all, .ref m_has, .int i_size, .int i_next, .int i_where, .int i_token, .int i_number, .int i_word, .int i_wrong, .int i_farCrossing, .ref m_read, .int i_z0, .int i_crossings, .int i_inns, .ref m_posts, .ref m_shut, .ref m_here, .int i_steps, .int i_done, .int i_at, .int i_gone, .ref m_was, .ref m_came, .ref m_seenAt, .ref m_rowWorth, .ref m_farBy, .ref m_used, .int i_everywhere, .int i_again0, .int i_d0, .int i_never, .int i_firstCame, .int i_longRun, .int i_moved, .int i_crowd, .int i_l0, .int i_fitMany, .int i_fitLeast, .int i_fitMost, .ref m_fitPost, .ref m_fitEnd, .ref m_keptPosts, .int i_x0]))], [(m_all, .inl (T.2 0, 3952, .inl f_all))], [(m_shut, .inl (T.2 0, 7, .inl f_shut))]]) (br := [[(m_posts, .inl (T.2 0, 7, .inl f_posts))], [(m_here, .inl (T.2 0, 7, .inl f_here))], [(m_was, .inl (T.2 0, 7, .inl f_was))]]) (As := [.int a_, .int b_, .int 1]) (rest := []) C G (c_fm_shuts1 l T mo m_all m_has i_size i_next i_where i_token i_number i_word i_wrong i_farCrossing m_read i_z0 i_crossings i_inns m_posts m_shut m_here i_steps i_done i_at i_gone m_was m_came m_seenAt m_rowWorth m_farBy m_used i_everywhere i_again0 i_d0 i_never i_firstCame i_longRun i_moved i_crowd i_l0 i_fitMany i_fitLeast i_fitMost m_fitPost m_fitEnd m_keptPosts i_x0 f_all f_shut a_ b_ (by first | with_reducible assumption | with_reducible rfl | omega | assumption | rfl) (by first | with_reducible assumption | with_reducible rfl | omega | assumption | rfl) (by first | with_reducible assumption | with_reducible rfl | omega | assumption | rfl) (by first | with_reducible assumption | with_reducible rfl | omega | assumption | rfl) (hb3 (by omega)).1 (hb3 (by omega)).2 (by first | with_reducible assumption | with_reducible rfl | omega | assumption | rfl)) (kV_RX12_335 C.2.2.2.2 (Nat.le_of_ble_eq_true rfl) (Nat.le_of_ble_eq_true rfl)) [5, 0, 2] [1, 3, 4] rfl rfl (ci := 11) (qc := (RX12, TX12, 43)) rfl rfl (List.mem_flatten.mpr ⟨_, List.mem_of_getElem? (i := 0) rfl, List.mem_cons_self⟩) rfl rfl hl.1 dX12_does_93 (Nat.le_of_ble_eq_true rfl) (Nat.le_of_ble_eq_true rfl) (fun r_15 b1 H locs hw G => ?_)
        refine hw.elim fun g_shut_12 w90 => w90.elim fun hbs9 w91 => w91.elim fun h_13 h_14 => ?_
        clear hw w90 w91
        subst hbs9
        have G : zS T A s.heap s [[(m_posts, .inl (T.2 0, 7, .inl f_posts))], [(m_here, .inl (T.2 0, 7, .inl f_here))], [(m_was, .inl (T.2 0, 7, .inl f_was))], [(mo, .inr (11, [.ref m_all, .ref m_has, .int i_size, .int i_next, .int i_where, .int i_token, .int i_number, .int i_word, .int i_wrong, .int i_farCrossing, .ref m_read, .int i_z0, .int i_crossings, .int i_inns, .ref m_posts, .ref m_shut, .ref m_here, .int i_steps, .int i_done, .int i_at, .int i_gone, .ref m_was, .ref m_came, .ref m_seenAt, .ref m_rowWorth, .ref m_farBy, .ref m_used, .int i_everywhere, .int i_again0, .int i_d0, .int i_never, .int i_firstCame, .int i_longRun, .int i_moved, .int i_crowd, .int i_l0, .int i_fitMany, .int i_fitLeast, .int i_fitMost, .ref m_fitPost, .ref m_fitEnd, .ref m_keptPosts, .int i_x0]))], [(m_all, .inl (T.2 0, 3952, .inl f_all))], [(m_shut, .inl (T.2 0, 7, .inl g_shut_12))]] _ _ := G
        have G := G.sub (bs' := [[(mo, .inr (11, [.ref m_all, .ref m_has, .int i_size, .int i_next, .int i_where, .int i_token, .int i_number, .int i_word, .int i_wrong, .int i_farCrossing, .ref m_read, .int i_z0, .int i_crossings, .int i_inns, .ref m_posts, .ref m_shut, .ref m_here, .int i_steps, .int i_done, .int i_at, .int i_gone, .ref m_was, .ref m_came, .ref m_seenAt, .ref m_rowWorth, .ref m_farBy, .ref m_used, .int i_everywhere, .int i_again0, .int i_d0, .int i_never, .int i_firstCame, .int i_longRun, .int i_moved, .int i_crowd, .int i_l0, .int i_fitMany, .int i_fitLeast, .int i_fitMost, .ref m_fitPost, .ref m_fitEnd, .ref m_keptPosts, .int i_x0]))], [(m_all, .inl (T.2 0, 3952, .inl f_all))], [(m_posts, .inl (T.2 0, 7, .inl f_posts))], [(m_shut, .inl (T.2 0, 7, .inl g_shut_12))], [(m_here, .inl (T.2 0, 7, .inl f_here))], [(m_was, .inl (T.2 0, 7, .inl f_was))]]) [3, 4, 0, 5, 1, 2] rfl
        exact z_zret C hr hlocks G (Nat.le_of_ble_eq_true rfl) (Nat.le_of_ble_eq_true rfl) dX12_does_96 (by rcases h_13 f_posts f_here i_steps i_never with q | q <;> rw [q.1] <;> rfl) ⟨i_at, i_gone, i_steps, i_moved, i_firstCame, i_never, i_longRun, f_posts, g_shut_12, f_here, f_was, rfl, ((h_13 f_posts f_here i_steps i_never).elim (fun q8 => Or.inl ⟨q8.1, (zDe_k4 (by omega)).trans q8.2⟩) (fun q8 => Or.inr ⟨q8.1, (zDe_k4 (by omega)).trans q8.2.1, rfl, q8.2.2, rfl, rfl, rfl⟩)), hV, hP, (fun m hm hx => zHB_m hx (by omega)), h_14⟩
    · have c_6r : d_.toInt = 0 ∨ d_.toInt = 1 ∨ d_.toInt = 2 ∨ d_.toInt = 3 := by omega
      rcases c_6r with c_6 | c_6 | c_6 | c_6
      · refine lv_tableIn (tgt := 40) hx hb dX12_does_11 (by omega) (by omega) (by rw [c_6]; rfl) (by decide) ?_
        refine lv_aload_n hx hb dX12_does_40 rfl (lv_at hl 0 rfl) ?_
        refine lv_iload_n hx hb dX12_does_41 rfl (lv_at hl 2 rfl) ?_
        refine z_Vi (bc := [[(mo, .inr (11, [.ref m_all, .ref m_has, .int i_size, .int i_next, .int i_where, .int i_token, .int i_number, .int i_word, .int i_wrong, .int i_farCrossing, .ref m_read, .int i_z0, .int i_crossings, .int i_inns, .ref m_posts, .ref m_shut, .ref m_here, .int i_steps, .int i_done, .int i_at, .int i_gone, .ref m_was, .ref m_came, .ref m_seenAt, .ref m_rowWorth, .ref m_farBy, .ref m_used, .int i_everywhere, .int i_again0, .int i_d0, .int i_never, .int i_firstCame, .int i_longRun, .int i_moved, .int i_crowd, .int i_l0, .int i_fitMany, .int i_fitLeast, .int i_fitMost, .ref m_fitPost, .ref m_fitEnd, .ref m_keptPosts, .int i_x0]))], [(m_all, .inl (T.2 0, 3952, .inl f_all))], [(m_posts, .inl (T.2 0, 7, .inl f_posts))], [(m_shut, .inl (T.2 0, 7, .inl f_shut))], [(m_here, .inl (T.2 0, 7, .inl f_here))], [(m_was, .inl (T.2 0, 7, .inl f_was))]]) (br := []) (As := [.int a_]) (rest := []) C G (c_fm_goes l T mo m_all m_has i_size i_next i_where i_token i_number i_word i_wrong i_farCrossing m_read i_z0 i_crossings i_inns m_posts m_shut m_here i_steps i_done i_at i_gone m_was m_came m_seenAt m_rowWorth m_farBy m_used i_everywhere i_again0 i_d0 i_never i_firstCame i_longRun i_moved i_crowd i_l0 i_fitMany i_fitLeast i_fitMost m_fitPost m_fitEnd m_keptPosts i_x0 f_all f_posts f_shut f_here f_was a_ (by first | with_reducible assumption | with_reducible rfl | omega | assumption | rfl) (by first | with_reducible assumption | with_reducible rfl | omega | assumption | rfl) (by first | with_reducible assumption | with_reducible rfl | omega | assumption | rfl) (by first | with_reducible assumption | with_reducible rfl | omega | assumption | rfl) (by first | with_reducible assumption | with_reducible rfl | omega | assumption | rfl) (by first | with_reducible assumption | with_reducible rfl | omega | assumption | rfl) (by first | with_reducible assumption | with_reducible rfl | omega | assumption | rfl)) (kV_RX12_326 C.2.2.2.2 (Nat.le_of_ble_eq_true rfl) (Nat.le_of_ble_eq_true rfl)) [5, 0, 1, 2, 3, 4] [] rfl rfl (ci := 11) (qc := (RX12, TX12, 43)) rfl rfl (List.mem_flatten.mpr ⟨_, List.mem_of_getElem? (i := 0) rfl, List.mem_cons_self⟩) rfl rfl hl.1 dX12_does_42 (Nat.le_of_ble_eq_true rfl) (Nat.le_of_ble_eq_true rfl) (fun r_28 b1 H locs hw G => ?_)
        refine hw.elim fun j_at_16 w90 => w90.elim fun j_gone_17 w91 => w91.elim fun j_steps_18 w92 => w92.elim fun j_moved_19 w93 => w93.elim fun j_firstCame_20 w94 => w94.elim fun g_posts_21 w95 => w95.elim fun g_here_22 w96 => w96.elim fun g_was_23 w97 => w97.elim fun hbs9 w98 => w98.elim fun h_24 w99 => w99.elim fun h_25 w910 => w910.elim fun h_26 h_27 => ?_
        clear hw w90 w91 w92 w93 w94 w95 w96 w97 w98 w99 w910
        subst hbs9
        have G : zS T A s.heap s [[(mo, .inr (11, [.ref m_all, .ref m_has, .int i_size, .int i_next, .int i_where, .int i_token, .int i_number, .int i_word, .int i_wrong, .int i_farCrossing, .ref m_read, .int i_z0, .int i_crossings, .int i_inns, .ref m_posts, .ref m_shut, .ref m_here, .int j_steps_18, .int i_done, .int j_at_16, .int j_gone_17, .ref m_was, .ref m_came, .ref m_seenAt, .ref m_rowWorth, .ref m_farBy, .ref m_used, .int i_everywhere, .int i_again0, .int i_d0, .int i_never, .int j_firstCame_20, .int i_longRun, .int j_moved_19, .int i_crowd, .int i_l0, .int i_fitMany, .int i_fitLeast, .int i_fitMost, .ref m_fitPost, .ref m_fitEnd, .ref m_keptPosts, .int i_x0]))], [(m_all, .inl (T.2 0, 3952, .inl f_all))], [(m_posts, .inl (T.2 0, 7, .inl g_posts_21))], [(m_shut, .inl (T.2 0, 7, .inl f_shut))], [(m_here, .inl (T.2 0, 7, .inl g_here_22))], [(m_was, .inl (T.2 0, 7, .inl g_was_23))]] _ _ := G
        exact z_zret C hr hlocks G (Nat.le_of_ble_eq_true rfl) (Nat.le_of_ble_eq_true rfl) dX12_does_45 (by rcases h_24 with q | q <;> rw [q.1] <;> rfl) ⟨j_at_16, j_gone_17, j_steps_18, j_moved_19, j_firstCame_20, i_never, i_longRun, g_posts_21, f_shut, g_here_22, g_was_23, rfl, ((h_24).elim (fun q8 => Or.inl ⟨q8.1, (zDe_k0 (by omega)).trans q8.2⟩) (fun q8 => Or.inr ⟨q8.1, (zDe_k0 (by omega)).trans q8.2.1, q8.2.2.1, rfl, q8.2.2.2.1, q8.2.2.2.2, rfl⟩)), h_25, h_26, h_27, hS5⟩
      · refine lv_tableIn (tgt := 46) hx hb dX12_does_11 (by omega) (by omega) (by rw [c_6]; rfl) (by decide) ?_
        refine lv_aload_n hx hb dX12_does_46 rfl (lv_at hl 0 rfl) ?_
        refine lv_iload_n hx hb dX12_does_47 rfl (lv_at hl 2 rfl) ?_
        refine z_Vi (bc := [[(mo, .inr (11, [.ref m_all, .ref m_has, .int i_size, .int i_next, .int i_where, .int i_token, .int i_number, .int i_word, .int i_wrong, .int i_farCrossing, .ref m_read, .int i_z0, .int i_crossings, .int i_inns, .ref m_posts, .ref m_shut, .ref m_here, .int i_steps, .int i_done, .int i_at, .int i_gone, .ref m_was, .ref m_came, .ref m_seenAt, .ref m_rowWorth, .ref m_farBy, .ref m_used, .int i_everywhere, .int i_again0, .int i_d0, .int i_never, .int i_firstCame, .int i_longRun, .int i_moved, .int i_crowd, .int i_l0, .int i_fitMany, .int i_fitLeast, .int i_fitMost, .ref m_fitPost, .ref m_fitEnd, .ref m_keptPosts, .int i_x0]))], [(m_all, .inl (T.2 0, 3952, .inl f_all))], [(m_posts, .inl (T.2 0, 7, .inl f_posts))], [(m_shut, .inl (T.2 0, 7, .inl f_shut))], [(m_here, .inl (T.2 0, 7, .inl f_here))], [(m_was, .inl (T.2 0, 7, .inl f_was))]]) (br := []) (As := [.int a_]) (rest := []) C G (c_fm_runs0 l T mo m_all m_has i_size i_next i_where i_token i_number i_word i_wrong i_farCrossing m_read i_z0 i_crossings i_inns m_posts m_shut m_here i_steps i_done i_at i_gone m_was m_came m_seenAt m_rowWorth m_farBy m_used i_everywhere i_again0 i_d0 i_never i_firstCame i_longRun i_moved i_crowd i_l0 i_fitMany i_fitLeast i_fitMost m_fitPost m_fitEnd m_keptPosts i_x0 f_all f_posts f_shut f_here f_was a_ (by first | with_reducible assumption | with_reducible rfl | omega | assumption | rfl) (by first | with_reducible assumption | with_reducible rfl | omega | assumption | rfl) (by first | with_reducible assumption | with_reducible rfl | omega | assumption | rfl) (by first | with_reducible assumption | with_reducible rfl | omega | assumption | rfl) (by first | with_reducible assumption | with_reducible rfl | omega | assumption | rfl) (by first | with_reducible assumption | with_reducible rfl | omega | assumption | rfl) (by first | with_reducible assumption | with_reducible rfl | omega | assumption | rfl)) (kV_RX12_329 C.2.2.2.2 (Nat.le_of_ble_eq_true rfl) (Nat.le_of_ble_eq_true rfl)) [5, 0, 1, 2, 3, 4] [] rfl rfl (ci := 11) (qc := (RX12, TX12, 43)) rfl rfl (List.mem_flatten.mpr ⟨_, List.mem_of_getElem? (i := 0) rfl, List.mem_cons_self⟩) rfl rfl hl.1 dX12_does_48 (Nat.le_of_ble_eq_true rfl) (Nat.le_of_ble_eq_true rfl) (fun r_43 b1 H locs hw G => ?_)
        refine hw.elim fun j_at_29 w90 => w90.elim fun j_gone_30 w91 => w91.elim fun j_steps_31 w92 => w92.elim fun j_moved_32 w93 => w93.elim fun j_firstCame_33 w94 => w94.elim fun j_never_34 w95 => w95.elim fun j_longRun_35 w96 => w96.elim fun g_posts_36 w97 => w97.elim fun g_here_37 w98 => w98.elim fun g_was_38 w99 => w99.elim fun hbs9 w910 => w910.elim fun h_39 w911 => w911.elim fun h_40 w912 => w912.elim fun h_41 h_42 => ?_
        clear hw w90 w91 w92 w93 w94 w95 w96 w97 w98 w99 w910 w911 w912
        subst hbs9
        have G : zS T A s.heap s [[(mo, .inr (11, [.ref m_all, .ref m_has, .int i_size, .int i_next, .int i_where, .int i_token, .int i_number, .int i_word, .int i_wrong, .int i_farCrossing, .ref m_read, .int i_z0, .int i_crossings, .int i_inns, .ref m_posts, .ref m_shut, .ref m_here, .int j_steps_31, .int i_done, .int j_at_29, .int j_gone_30, .ref m_was, .ref m_came, .ref m_seenAt, .ref m_rowWorth, .ref m_farBy, .ref m_used, .int i_everywhere, .int i_again0, .int i_d0, .int j_never_34, .int j_firstCame_33, .int j_longRun_35, .int j_moved_32, .int i_crowd, .int i_l0, .int i_fitMany, .int i_fitLeast, .int i_fitMost, .ref m_fitPost, .ref m_fitEnd, .ref m_keptPosts, .int i_x0]))], [(m_all, .inl (T.2 0, 3952, .inl f_all))], [(m_posts, .inl (T.2 0, 7, .inl g_posts_36))], [(m_shut, .inl (T.2 0, 7, .inl f_shut))], [(m_here, .inl (T.2 0, 7, .inl g_here_37))], [(m_was, .inl (T.2 0, 7, .inl g_was_38))]] _ _ := G
        exact z_zret C hr hlocks G (Nat.le_of_ble_eq_true rfl) (Nat.le_of_ble_eq_true rfl) dX12_does_51 (by rcases h_39 with q | q <;> rw [q.1] <;> rfl) ⟨j_at_29, j_gone_30, j_steps_31, j_moved_32, j_firstCame_33, j_never_34, j_longRun_35, g_posts_36, f_shut, g_here_37, g_was_38, rfl, ((h_39).elim (fun q8 => Or.inl ⟨q8.1, (zDe_k1 (by omega)).trans q8.2⟩) (fun q8 => Or.inr ⟨q8.1, (zDe_k1 (by omega)).trans q8.2.1, q8.2.2.1, rfl, q8.2.2.2.1, q8.2.2.2.2.1, q8.2.2.2.2.2⟩)), h_40, h_41, h_42, hS5⟩
      · refine lv_tableIn (tgt := 52) hx hb dX12_does_11 (by omega) (by omega) (by rw [c_6]; rfl) (by decide) ?_
        refine lv_aload_n hx hb dX12_does_52 rfl (lv_at hl 0 rfl) ?_
        refine lv_iload_n hx hb dX12_does_53 rfl (lv_at hl 2 rfl) ?_
        refine z_Vi (bc := [[(mo, .inr (11, [.ref m_all, .ref m_has, .int i_size, .int i_next, .int i_where, .int i_token, .int i_number, .int i_word, .int i_wrong, .int i_farCrossing, .ref m_read, .int i_z0, .int i_crossings, .int i_inns, .ref m_posts, .ref m_shut, .ref m_here, .int i_steps, .int i_done, .int i_at, .int i_gone, .ref m_was, .ref m_came, .ref m_seenAt, .ref m_rowWorth, .ref m_farBy, .ref m_used, .int i_everywhere, .int i_again0, .int i_d0, .int i_never, .int i_firstCame, .int i_longRun, .int i_moved, .int i_crowd, .int i_l0, .int i_fitMany, .int i_fitLeast, .int i_fitMost, .ref m_fitPost, .ref m_fitEnd, .ref m_keptPosts, .int i_x0]))]]) (br := [[(m_all, .inl (T.2 0, 3952, .inl f_all))], [(m_posts, .inl (T.2 0, 7, .inl f_posts))], [(m_shut, .inl (T.2 0, 7, .inl f_shut))], [(m_here, .inl (T.2 0, 7, .inl f_here))], [(m_was, .inl (T.2 0, 7, .inl f_was))]]) (As := [.int a_]) (rest := []) C G (c_m_isInn l T mo m_all m_has i_size i_next i_where i_token i_number i_word i_wrong i_farCrossing m_read i_z0 i_crossings i_inns m_posts m_shut m_here i_steps i_done i_at i_gone m_was m_came m_seenAt m_rowWorth m_farBy m_used i_everywhere i_again0 i_d0 i_never i_firstCame i_longRun i_moved i_crowd i_l0 i_fitMany i_fitLeast i_fitMost m_fitPost m_fitEnd m_keptPosts i_x0 a_) (kV_RX12_178 C.2.2.2.2 (Nat.le_of_ble_eq_true rfl) (Nat.le_of_ble_eq_true rfl)) [5] [0, 1, 2, 3, 4] rfl rfl (ci := 11) (qc := (RX12, TX12, 43)) rfl rfl (List.mem_flatten.mpr ⟨_, List.mem_of_getElem? (i := 0) rfl, List.mem_cons_self⟩) rfl rfl hl.1 dX12_does_54 (Nat.le_of_ble_eq_true rfl) (Nat.le_of_ble_eq_true rfl) (fun r_45 b1 H locs hw G => ?_)
        refine hw.elim fun hbs9 hc_44 => ?_
        clear hw
        subst hbs9
        have G : zS T A s.heap s [[(m_all, .inl (T.2 0, 3952, .inl f_all))], [(m_posts, .inl (T.2 0, 7, .inl f_posts))], [(m_shut, .inl (T.2 0, 7, .inl f_shut))], [(m_here, .inl (T.2 0, 7, .inl f_here))], [(m_was, .inl (T.2 0, 7, .inl f_was))], [(mo, .inr (11, [.ref m_all, .ref m_has, .int i_size, .int i_next, .int i_where, .int i_token, .int i_number, .int i_word, .int i_wrong, .int i_farCrossing, .ref m_read, .int i_z0, .int i_crossings, .int i_inns, .ref m_posts, .ref m_shut, .ref m_here, .int i_steps, .int i_done, .int i_at, .int i_gone, .ref m_was, .ref m_came, .ref m_seenAt, .ref m_rowWorth, .ref m_farBy, .ref m_used, .int i_everywhere, .int i_again0, .int i_d0, .int i_never, .int i_firstCame, .int i_longRun, .int i_moved, .int i_crowd, .int i_l0, .int i_fitMany, .int i_fitLeast, .int i_fitMost, .ref m_fitPost, .ref m_fitEnd, .ref m_keptPosts, .int i_x0]))]] _ _ := G
        rcases hc_44 with ⟨rfl, h_46⟩ | ⟨rfl, h_47⟩
        · have h_46 : zInn i_inns a_ := h_46
          refine lv_if_ne (tgt := 72) hx hb dX12_does_57 (by decide) (fun _ => ?_) (fun q => absurd q (by decide))
          refine lv_iconst (v := 0) hx hb dX12_does_72 (by decide) ?_
          have G := G.sub (bs' := [[(mo, .inr (11, [.ref m_all, .ref m_has, .int i_size, .int i_next, .int i_where, .int i_token, .int i_number, .int i_word, .int i_wrong, .int i_farCrossing, .ref m_read, .int i_z0, .int i_crossings, .int i_inns, .ref m_posts, .ref m_shut, .ref m_here, .int i_steps, .int i_done, .int i_at, .int i_gone, .ref m_was, .ref m_came, .ref m_seenAt, .ref m_rowWorth, .ref m_farBy, .ref m_used, .int i_everywhere, .int i_again0, .int i_d0, .int i_never, .int i_firstCame, .int i_longRun, .int i_moved, .int i_crowd, .int i_l0, .int i_fitMany, .int i_fitLeast, .int i_fitMost, .ref m_fitPost, .ref m_fitEnd, .ref m_keptPosts, .int i_x0]))], [(m_all, .inl (T.2 0, 3952, .inl f_all))], [(m_posts, .inl (T.2 0, 7, .inl f_posts))], [(m_shut, .inl (T.2 0, 7, .inl f_shut))], [(m_here, .inl (T.2 0, 7, .inl f_here))], [(m_was, .inl (T.2 0, 7, .inl f_was))]]) [5, 0, 1, 2, 3, 4] rfl
          exact z_zret C hr hlocks G (Nat.le_of_ble_eq_true rfl) (Nat.le_of_ble_eq_true rfl) dX12_does_73 rfl ⟨i_at, i_gone, i_steps, i_moved, i_firstCame, i_never, i_longRun, f_posts, f_shut, f_here, f_was, rfl, (Or.inr ⟨rfl, (zDe_k2 (by omega)).trans (zTuF_n (zTurn_inn (by assumption) (by omega) (by omega)) (zPost_inn (by assumption) (by omega) (by omega))).1, rfl, rfl, rfl, rfl, rfl⟩), hV, hP, (fun m hm hx => zHB_m hx (by omega)), hS5⟩
        · have h_47 : ¬ zInn i_inns a_ := h_47
          refine lv_if_ne (tgt := 72) hx hb dX12_does_57 (by decide) (fun q => absurd (by decide) q) (fun _ => ?_)
          refine lv_aload_n hx hb dX12_does_60 rfl (lv_at hl 0 rfl) ?_
          refine lv_iload_n hx hb dX12_does_61 rfl (lv_at hl 2 rfl) ?_
          refine z_Vi (bc := [[(mo, .inr (11, [.ref m_all, .ref m_has, .int i_size, .int i_next, .int i_where, .int i_token, .int i_number, .int i_word, .int i_wrong, .int i_farCrossing, .ref m_read, .int i_z0, .int i_crossings, .int i_inns, .ref m_posts, .ref m_shut, .ref m_here, .int i_steps, .int i_done, .int i_at, .int i_gone, .ref m_was, .ref m_came, .ref m_seenAt, .ref m_rowWorth, .ref m_farBy, .ref m_used, .int i_everywhere, .int i_again0, .int i_d0, .int i_never, .int i_firstCame, .int i_longRun, .int i_moved, .int i_crowd, .int i_l0, .int i_fitMany, .int i_fitLeast, .int i_fitMost, .ref m_fitPost, .ref m_fitEnd, .ref m_keptPosts, .int i_x0]))], [(m_all, .inl (T.2 0, 3952, .inl f_all))], [(m_posts, .inl (T.2 0, 7, .inl f_posts))], [(m_shut, .inl (T.2 0, 7, .inl f_shut))]]) (br := [[(m_here, .inl (T.2 0, 7, .inl f_here))], [(m_was, .inl (T.2 0, 7, .inl f_was))]]) (As := [.int a_]) (rest := []) C G (c_fm_turns l T mo m_all m_has i_size i_next i_where i_token i_number i_word i_wrong i_farCrossing m_read i_z0 i_crossings i_inns m_posts m_shut m_here i_steps i_done i_at i_gone m_was m_came m_seenAt m_rowWorth m_farBy m_used i_everywhere i_again0 i_d0 i_never i_firstCame i_longRun i_moved i_crowd i_l0 i_fitMany i_fitLeast i_fitMost m_fitPost m_fitEnd m_keptPosts i_x0 f_all f_posts f_shut a_ (by first | with_reducible assumption | with_reducible rfl | omega | assumption | rfl) (by first | with_reducible assumption | with_reducible rfl | omega | assumption | rfl) (by first | with_reducible assumption | with_reducible rfl | omega | assumption | rfl) (by first | with_reducible assumption | with_reducible rfl | omega | assumption | rfl) (by first | with_reducible assumption | with_reducible rfl | omega | assumption | rfl)) (kV_RX12_205 C.2.2.2.2 (Nat.le_of_ble_eq_true rfl) (Nat.le_of_ble_eq_true rfl)) [5, 0, 1, 2] [3, 4] rfl rfl (ci := 11) (qc := (RX12, TX12, 43)) rfl rfl (List.mem_flatten.mpr ⟨_, List.mem_of_getElem? (i := 0) rfl, List.mem_cons_self⟩) rfl rfl hl.1 dX12_does_62 (Nat.le_of_ble_eq_true rfl) (Nat.le_of_ble_eq_true rfl) (fun r_53 b1 H locs hw G => ?_)
          refine hw.elim fun g_posts_48 w90 => w90.elim fun hbs9 w91 => w91.elim fun h_49 w92 => w92.elim fun h_50 w93 => w93.elim fun h_51 hc_52 => ?_
          clear hw w90 w91 w92 w93
          subst hbs9
          have G : zS T A s.heap s [[(m_here, .inl (T.2 0, 7, .inl f_here))], [(m_was, .inl (T.2 0, 7, .inl f_was))], [(mo, .inr (11, [.ref m_all, .ref m_has, .int i_size, .int i_next, .int i_where, .int i_token, .int i_number, .int i_word, .int i_wrong, .int i_farCrossing, .ref m_read, .int i_z0, .int i_crossings, .int i_inns, .ref m_posts, .ref m_shut, .ref m_here, .int i_steps, .int i_done, .int i_at, .int i_gone, .ref m_was, .ref m_came, .ref m_seenAt, .ref m_rowWorth, .ref m_farBy, .ref m_used, .int i_everywhere, .int i_again0, .int i_d0, .int i_never, .int i_firstCame, .int i_longRun, .int i_moved, .int i_crowd, .int i_l0, .int i_fitMany, .int i_fitLeast, .int i_fitMost, .ref m_fitPost, .ref m_fitEnd, .ref m_keptPosts, .int i_x0]))], [(m_all, .inl (T.2 0, 3952, .inl f_all))], [(m_posts, .inl (T.2 0, 7, .inl g_posts_48))], [(m_shut, .inl (T.2 0, 7, .inl f_shut))]] _ _ := G
          rcases hc_52 with ⟨rfl, h_54, h_55⟩ | ⟨rfl, h_56⟩
          · have h_54 : ¬ zTurn f_posts f_shut (zRo f_all i_z0) a_ = -1 := h_54
            have h_55 : 0 < (zRd f_all i_z0 a_).toInt := h_55
            refine lv_if_eq (tgt := 72) hx hb dX12_does_65 (by decide) (fun q => absurd q (by decide)) (fun _ => ?_)
            refine lv_iconst (v := 1) hx hb dX12_does_68 (by decide) ?_
            refine lv_goto (tgt := 73) hx hb dX12_does_69 (by decide) ?_
            have G := G.sub (bs' := [[(mo, .inr (11, [.ref m_all, .ref m_has, .int i_size, .int i_next, .int i_where, .int i_token, .int i_number, .int i_word, .int i_wrong, .int i_farCrossing, .ref m_read, .int i_z0, .int i_crossings, .int i_inns, .ref m_posts, .ref m_shut, .ref m_here, .int i_steps, .int i_done, .int i_at, .int i_gone, .ref m_was, .ref m_came, .ref m_seenAt, .ref m_rowWorth, .ref m_farBy, .ref m_used, .int i_everywhere, .int i_again0, .int i_d0, .int i_never, .int i_firstCame, .int i_longRun, .int i_moved, .int i_crowd, .int i_l0, .int i_fitMany, .int i_fitLeast, .int i_fitMost, .ref m_fitPost, .ref m_fitEnd, .ref m_keptPosts, .int i_x0]))], [(m_all, .inl (T.2 0, 3952, .inl f_all))], [(m_posts, .inl (T.2 0, 7, .inl g_posts_48))], [(m_shut, .inl (T.2 0, 7, .inl f_shut))], [(m_here, .inl (T.2 0, 7, .inl f_here))], [(m_was, .inl (T.2 0, 7, .inl f_was))]]) [2, 3, 4, 5, 0, 1] rfl
            exact z_zret C hr hlocks G (Nat.le_of_ble_eq_true rfl) (Nat.le_of_ble_eq_true rfl) dX12_does_73 rfl ⟨i_at, i_gone, i_steps, i_moved, i_firstCame, i_never, i_longRun, g_posts_48, f_shut, f_here, f_was, rfl, (Or.inl ⟨rfl, (zDe_k2 (by omega)).trans (zTuF_i ⟨⟨by omega, by omega, by omega⟩, fun q8 => h_54 ((zTurn_wo (show ¬ zBit i_inns a_ = 1 by assumption) (by omega) (by omega)).symm.trans q8)⟩ (h_51.trans (zPost_wo (show ¬ zBit i_inns a_ = 1 by assumption) (by omega) (by omega)).symm))⟩), h_50, h_49, (fun m hm hx => zHB_m hx (by omega)), hS5⟩
          · have h_56 : zTurn f_posts f_shut (zRo f_all i_z0) a_ = -1 := h_56
            refine lv_if_eq (tgt := 72) hx hb dX12_does_65 (by decide) (fun _ => ?_) (fun q => absurd (by decide) q)
            refine lv_iconst (v := 0) hx hb dX12_does_72 (by decide) ?_
            have G := G.sub (bs' := [[(mo, .inr (11, [.ref m_all, .ref m_has, .int i_size, .int i_next, .int i_where, .int i_token, .int i_number, .int i_word, .int i_wrong, .int i_farCrossing, .ref m_read, .int i_z0, .int i_crossings, .int i_inns, .ref m_posts, .ref m_shut, .ref m_here, .int i_steps, .int i_done, .int i_at, .int i_gone, .ref m_was, .ref m_came, .ref m_seenAt, .ref m_rowWorth, .ref m_farBy, .ref m_used, .int i_everywhere, .int i_again0, .int i_d0, .int i_never, .int i_firstCame, .int i_longRun, .int i_moved, .int i_crowd, .int i_l0, .int i_fitMany, .int i_fitLeast, .int i_fitMost, .ref m_fitPost, .ref m_fitEnd, .ref m_keptPosts, .int i_x0]))], [(m_all, .inl (T.2 0, 3952, .inl f_all))], [(m_posts, .inl (T.2 0, 7, .inl g_posts_48))], [(m_shut, .inl (T.2 0, 7, .inl f_shut))], [(m_here, .inl (T.2 0, 7, .inl f_here))], [(m_was, .inl (T.2 0, 7, .inl f_was))]]) [2, 3, 4, 5, 0, 1] rfl
            exact z_zret C hr hlocks G (Nat.le_of_ble_eq_true rfl) (Nat.le_of_ble_eq_true rfl) dX12_does_73 rfl ⟨i_at, i_gone, i_steps, i_moved, i_firstCame, i_never, i_longRun, g_posts_48, f_shut, f_here, f_was, rfl, (Or.inr ⟨rfl, (zDe_k2 (by omega)).trans (zTuF_n (cr := i_crossings) (H := f_here) (st := i_steps) (nv := i_never) ((zTurn_wo (show ¬ zBit i_inns a_ = 1 by assumption) (by omega) (by omega)).trans h_56) (h_51.trans (zPost_wo (show ¬ zBit i_inns a_ = 1 by assumption) (by omega) (by omega)).symm)).1, (zTuF_n (cr := i_crossings) (H := f_here) (st := i_steps) (nv := i_never) ((zTurn_wo (show ¬ zBit i_inns a_ = 1 by assumption) (by omega) (by omega)).trans h_56) (h_51.trans (zPost_wo (show ¬ zBit i_inns a_ = 1 by assumption) (by omega) (by omega)).symm)).2, rfl, rfl, rfl, rfl⟩), h_50, h_49, (fun m hm hx => zHB_m hx (by omega)), hS5⟩
      · refine lv_tableIn (tgt := 74) hx hb dX12_does_11 (by omega) (by omega) (by rw [c_6]; rfl) (by decide) ?_
        refine lv_aload_n hx hb dX12_does_74 rfl (lv_at hl 0 rfl) ?_
        refine lv_iload_n hx hb dX12_does_75 rfl (lv_at hl 2 rfl) ?_
        refine z_Vi (bc := [[(mo, .inr (11, [.ref m_all, .ref m_has, .int i_size, .int i_next, .int i_where, .int i_token, .int i_number, .int i_word, .int i_wrong, .int i_farCrossing, .ref m_read, .int i_z0, .int i_crossings, .int i_inns, .ref m_posts, .ref m_shut, .ref m_here, .int i_steps, .int i_done, .int i_at, .int i_gone, .ref m_was, .ref m_came, .ref m_seenAt, .ref m_rowWorth, .ref m_farBy, .ref m_used, .int i_everywhere, .int i_again0, .int i_d0, .int i_never, .int i_firstCame, .int i_longRun, .int i_moved, .int i_crowd, .int i_l0, .int i_fitMany, .int i_fitLeast, .int i_fitMost, .ref m_fitPost, .ref m_fitEnd, .ref m_keptPosts, .int i_x0]))], [(m_here, .inl (T.2 0, 7, .inl f_here))]]) (br := [[(m_all, .inl (T.2 0, 3952, .inl f_all))], [(m_posts, .inl (T.2 0, 7, .inl f_posts))], [(m_shut, .inl (T.2 0, 7, .inl f_shut))], [(m_was, .inl (T.2 0, 7, .inl f_was))]]) (As := [.int a_]) (rest := []) C G (c_fm_adds l T mo m_all m_has i_size i_next i_where i_token i_number i_word i_wrong i_farCrossing m_read i_z0 i_crossings i_inns m_posts m_shut m_here i_steps i_done i_at i_gone m_was m_came m_seenAt m_rowWorth m_farBy m_used i_everywhere i_again0 i_d0 i_never i_firstCame i_longRun i_moved i_crowd i_l0 i_fitMany i_fitLeast i_fitMost m_fitPost m_fitEnd m_keptPosts i_x0 f_here a_ (by first | with_reducible assumption | with_reducible rfl | omega | assumption | rfl) (by first | with_reducible assumption | with_reducible rfl | omega | assumption | rfl) (by first | with_reducible assumption | with_reducible rfl | omega | assumption | rfl) (by first | with_reducible assumption | with_reducible rfl | omega | assumption | rfl)) (kV_RX12_332 C.2.2.2.2 (Nat.le_of_ble_eq_true rfl) (Nat.le_of_ble_eq_true rfl)) [5, 3] [0, 1, 2, 4] rfl rfl (ci := 11) (qc := (RX12, TX12, 43)) rfl rfl (List.mem_flatten.mpr ⟨_, List.mem_of_getElem? (i := 0) rfl, List.mem_cons_self⟩) rfl rfl hl.1 dX12_does_76 (Nat.le_of_ble_eq_true rfl) (Nat.le_of_ble_eq_true rfl) (fun r_60 b1 H locs hw G => ?_)
        refine hw.elim fun g_here_57 w90 => w90.elim fun hbs9 w91 => w91.elim fun h_58 h_59 => ?_
        clear hw w90 w91
        subst hbs9
        have G : zS T A s.heap s [[(m_all, .inl (T.2 0, 3952, .inl f_all))], [(m_posts, .inl (T.2 0, 7, .inl f_posts))], [(m_shut, .inl (T.2 0, 7, .inl f_shut))], [(m_was, .inl (T.2 0, 7, .inl f_was))], [(mo, .inr (11, [.ref m_all, .ref m_has, .int i_size, .int i_next, .int i_where, .int i_token, .int i_number, .int i_word, .int i_wrong, .int i_farCrossing, .ref m_read, .int i_z0, .int i_crossings, .int i_inns, .ref m_posts, .ref m_shut, .ref m_here, .int i_steps, .int i_done, .int i_at, .int i_gone, .ref m_was, .ref m_came, .ref m_seenAt, .ref m_rowWorth, .ref m_farBy, .ref m_used, .int i_everywhere, .int i_again0, .int i_d0, .int i_never, .int i_firstCame, .int i_longRun, .int i_moved, .int i_crowd, .int i_l0, .int i_fitMany, .int i_fitLeast, .int i_fitMost, .ref m_fitPost, .ref m_fitEnd, .ref m_keptPosts, .int i_x0]))], [(m_here, .inl (T.2 0, 7, .inl g_here_57))]] _ _ := G
        have G := G.sub (bs' := [[(mo, .inr (11, [.ref m_all, .ref m_has, .int i_size, .int i_next, .int i_where, .int i_token, .int i_number, .int i_word, .int i_wrong, .int i_farCrossing, .ref m_read, .int i_z0, .int i_crossings, .int i_inns, .ref m_posts, .ref m_shut, .ref m_here, .int i_steps, .int i_done, .int i_at, .int i_gone, .ref m_was, .ref m_came, .ref m_seenAt, .ref m_rowWorth, .ref m_farBy, .ref m_used, .int i_everywhere, .int i_again0, .int i_d0, .int i_never, .int i_firstCame, .int i_longRun, .int i_moved, .int i_crowd, .int i_l0, .int i_fitMany, .int i_fitLeast, .int i_fitMost, .ref m_fitPost, .ref m_fitEnd, .ref m_keptPosts, .int i_x0]))], [(m_all, .inl (T.2 0, 3952, .inl f_all))], [(m_posts, .inl (T.2 0, 7, .inl f_posts))], [(m_shut, .inl (T.2 0, 7, .inl f_shut))], [(m_here, .inl (T.2 0, 7, .inl g_here_57))], [(m_was, .inl (T.2 0, 7, .inl f_was))]]) [4, 0, 1, 2, 5, 3] rfl
        exact z_zret C hr hlocks G (Nat.le_of_ble_eq_true rfl) (Nat.le_of_ble_eq_true rfl) dX12_does_79 (by rcases h_58 f_posts f_shut i_steps i_never with q | q <;> rw [q.1] <;> rfl) ⟨i_at, i_gone, i_steps, i_moved, i_firstCame, i_never, i_longRun, f_posts, f_shut, g_here_57, f_was, rfl, ((h_58 f_posts f_shut i_steps i_never).elim (fun q8 => Or.inl ⟨q8.1, (zDe_k3 (by omega)).trans q8.2⟩) (fun q8 => Or.inr ⟨q8.1, (zDe_k3 (by omega)).trans q8.2.1, rfl, rfl, q8.2.2, rfl, rfl⟩)), hV, hP, h_59, hS5⟩
  · have h_5 : (a_.toInt < 0 ∨ i_crossings.toInt ≤ a_.toInt) := h_5
    refine lv_if_ne (tgt := 10) hx hb dX12_does_5 (by decide) (fun q => absurd (by decide) q) (fun _ => ?_)
    refine lv_iconst (v := 0) hx hb dX12_does_8 (by decide) ?_
    have G := G.sub (bs' := [[(mo, .inr (11, [.ref m_all, .ref m_has, .int i_size, .int i_next, .int i_where, .int i_token, .int i_number, .int i_word, .int i_wrong, .int i_farCrossing, .ref m_read, .int i_z0, .int i_crossings, .int i_inns, .ref m_posts, .ref m_shut, .ref m_here, .int i_steps, .int i_done, .int i_at, .int i_gone, .ref m_was, .ref m_came, .ref m_seenAt, .ref m_rowWorth, .ref m_farBy, .ref m_used, .int i_everywhere, .int i_again0, .int i_d0, .int i_never, .int i_firstCame, .int i_longRun, .int i_moved, .int i_crowd, .int i_l0, .int i_fitMany, .int i_fitLeast, .int i_fitMost, .ref m_fitPost, .ref m_fitEnd, .ref m_keptPosts, .int i_x0]))], [(m_all, .inl (T.2 0, 3952, .inl f_all))], [(m_posts, .inl (T.2 0, 7, .inl f_posts))], [(m_shut, .inl (T.2 0, 7, .inl f_shut))], [(m_here, .inl (T.2 0, 7, .inl f_here))], [(m_was, .inl (T.2 0, 7, .inl f_was))]]) [5, 0, 1, 2, 3, 4] rfl
    exact z_zret C hr hlocks G (Nat.le_of_ble_eq_true rfl) (Nat.le_of_ble_eq_true rfl) dX12_does_9 rfl ⟨i_at, i_gone, i_steps, i_moved, i_firstCame, i_never, i_longRun, f_posts, f_shut, f_here, f_was, rfl, (Or.inr ⟨rfl, zDe_nh (fun q8 => by have q7 := q8.2.1; have q6 := q8.1; omega), rfl, rfl, rfl, rfl, rfl⟩), hV, hP, (fun m hm hx => zHB_m hx (by omega)), hS5⟩
set_option maxHeartbeats 4000000 in
set_option maxRecDepth 100000 in
/-- c_fm_beginsDay -/
theorem c_fm_beginsDay (l : Launch) (T : zTy) (mo : Nat) (m_all : Nat) (m_has : Nat) (i_size : Int32) (i_next : Int32) (i_where : Int32) (i_token : Int32) (i_number : Int32) (i_word : Int32) (i_wrong : Int32) (i_farCrossing : Int32) (m_read : Nat) (i_z0 : Int32) (i_crossings : Int32) (i_inns : Int32) (m_posts : Nat) (m_shut : Nat) (m_here : Nat) (i_steps : Int32) (i_done : Int32) (i_at : Int32) (i_gone : Int32) (m_was : Nat) (m_came : Nat) (m_seenAt : Nat) (m_rowWorth : Nat) (m_farBy : Nat) (m_used : Nat) (i_everywhere : Int32) (i_again0 : Int32) (i_d0 : Int32) (i_never : Int32) (i_firstCame : Int32) (i_longRun : Int32) (i_moved : Int32) (i_crowd : Int32) (i_l0 : Int32) (i_fitMany : Int32) (i_fitLeast : Int32) (i_fitMost : Int32) (m_fitPost : Nat) (m_fitEnd : Nat) (m_keptPosts : Nat) (i_x0 : Int32) (f_here : Nat → Int32) (hcr : 0 ≤ i_crossings.toInt ∧ i_crossings.toInt ≤ 7) : zMv l T yX12_beginsDay cX12_beginsDay 1 3 0 0 [.ref mo] [[(mo, .inr (11, [.ref m_all, .ref m_has, .int i_size, .int i_next, .int i_where, .int i_token, .int i_number, .int i_word, .int i_wrong, .int i_farCrossing, .ref m_read, .int i_z0, .int i_crossings, .int i_inns, .ref m_posts, .ref m_shut, .ref m_here, .int i_steps, .int i_done, .int i_at, .int i_gone, .ref m_was, .ref m_came, .ref m_seenAt, .ref m_rowWorth, .ref m_farBy, .ref m_used, .int i_everywhere, .int i_again0, .int i_d0, .int i_never, .int i_firstCame, .int i_longRun, .int i_moved, .int i_crowd, .int i_l0, .int i_fitMany, .int i_fitLeast, .int i_fitMost, .ref m_fitPost, .ref m_fitEnd, .ref m_keptPosts, .int i_x0]))], [(m_here, .inl (T.2 0, 7, .inl f_here))]] (fun bs => ∃ (j_never : Int32) (j_firstCame : Int32) (j_longRun : Int32) (j_moved : Int32) (j_crowd : Int32), bs = [[(mo, .inr (11, [.ref m_all, .ref m_has, .int i_size, .int i_next, .int i_where, .int i_token, .int i_number, .int i_word, .int i_wrong, .int i_farCrossing, .ref m_read, .int i_z0, .int i_crossings, .int i_inns, .ref m_posts, .ref m_shut, .ref m_here, .int i_steps, .int i_done, .int i_at, .int i_gone, .ref m_was, .ref m_came, .ref m_seenAt, .ref m_rowWorth, .ref m_farBy, .ref m_used, .int i_everywhere, .int i_again0, .int i_d0, .int j_never, .int j_firstCame, .int j_longRun, .int j_moved, .int j_crowd, .int i_l0, .int i_fitMany, .int i_fitLeast, .int i_fitMost, .ref m_fitPost, .ref m_fitEnd, .ref m_keptPosts, .int i_x0]))], [(m_here, .inl (T.2 0, 7, .inl f_here))]] ∧ j_never = 0 ∧ j_firstCame = -1) := by
  refine zMv_of (own := RX12) (by decide) rfl (Nat.le_of_ble_eq_true rfl) ?_
  intro p e s m args below meth c A ls C hr hlocks hnm hAe G hl
  have hx := C.1
  have hb := C.2.1
  have hl : lv_has ls 1 [(0, .ref mo)] := hl
  refine lv_aload_n hx hb dX12_beginsDay_0 rfl (lv_at hl 0 rfl) ?_
  refine lv_iconst (v := 0) hx hb dX12_beginsDay_1 (by decide) ?_
  refine z_put C G clX12 0 rfl 30 (by decide) m_fl_RX12_320 rfl rfl rfl (Nat.le_of_ble_eq_true rfl) dX12_beginsDay_2 (fun H locs G => ?_)
  have G : zS T A s.heap s [[(mo, .inr (11, [.ref m_all, .ref m_has, .int i_size, .int i_next, .int i_where, .int i_token, .int i_number, .int i_word, .int i_wrong, .int i_farCrossing, .ref m_read, .int i_z0, .int i_crossings, .int i_inns, .ref m_posts, .ref m_shut, .ref m_here, .int i_steps, .int i_done, .int i_at, .int i_gone, .ref m_was, .ref m_came, .ref m_seenAt, .ref m_rowWorth, .ref m_farBy, .ref m_used, .int i_everywhere, .int i_again0, .int i_d0, .int 0, .int i_firstCame, .int i_longRun, .int i_moved, .int i_crowd, .int i_l0, .int i_fitMany, .int i_fitLeast, .int i_fitMost, .ref m_fitPost, .ref m_fitEnd, .ref m_keptPosts, .int i_x0]))], [(m_here, .inl (T.2 0, 7, .inl f_here))]] _ _ := G
  refine lv_aload_n hx hb dX12_beginsDay_5 rfl (lv_at hl 0 rfl) ?_
  refine lv_iconst (v := (-1)) hx hb dX12_beginsDay_6 (by decide) ?_
  refine z_put C G clX12 0 rfl 31 (by decide) m_fl_RX12_314 rfl rfl rfl (Nat.le_of_ble_eq_true rfl) dX12_beginsDay_7 (fun H locs G => ?_)
  have G : zS T A s.heap s [[(mo, .inr (11, [.ref m_all, .ref m_has, .int i_size, .int i_next, .int i_where, .int i_token, .int i_number, .int i_word, .int i_wrong, .int i_farCrossing, .ref m_read, .int i_z0, .int i_crossings, .int i_inns, .ref m_posts, .ref m_shut, .ref m_here, .int i_steps, .int i_done, .int i_at, .int i_gone, .ref m_was, .ref m_came, .ref m_seenAt, .ref m_rowWorth, .ref m_farBy, .ref m_used, .int i_everywhere, .int i_again0, .int i_d0, .int 0, .int (-1), .int i_longRun, .int i_moved, .int i_crowd, .int i_l0, .int i_fitMany, .int i_fitLeast, .int i_fitMost, .ref m_fitPost, .ref m_fitEnd, .ref m_keptPosts, .int i_x0]))], [(m_here, .inl (T.2 0, 7, .inl f_here))]] _ _ := G
  refine lv_aload_n hx hb dX12_beginsDay_10 rfl (lv_at hl 0 rfl) ?_
  refine lv_iconst (v := 0) hx hb dX12_beginsDay_11 (by decide) ?_
  refine z_put C G clX12 0 rfl 32 (by decide) m_fl_RX12_323 rfl rfl rfl (Nat.le_of_ble_eq_true rfl) dX12_beginsDay_12 (fun H locs G => ?_)
  have G : zS T A s.heap s [[(mo, .inr (11, [.ref m_all, .ref m_has, .int i_size, .int i_next, .int i_where, .int i_token, .int i_number, .int i_word, .int i_wrong, .int i_farCrossing, .ref m_read, .int i_z0, .int i_crossings, .int i_inns, .ref m_posts, .ref m_shut, .ref m_here, .int i_steps, .int i_done, .int i_at, .int i_gone, .ref m_was, .ref m_came, .ref m_seenAt, .ref m_rowWorth, .ref m_farBy, .ref m_used, .int i_everywhere, .int i_again0, .int i_d0, .int 0, .int (-1), .int 0, .int i_moved, .int i_crowd, .int i_l0, .int i_fitMany, .int i_fitLeast, .int i_fitMost, .ref m_fitPost, .ref m_fitEnd, .ref m_keptPosts, .int i_x0]))], [(m_here, .inl (T.2 0, 7, .inl f_here))]] _ _ := G
  refine lv_aload_n hx hb dX12_beginsDay_15 rfl (lv_at hl 0 rfl) ?_
  refine lv_iconst (v := 0) hx hb dX12_beginsDay_16 (by decide) ?_
  refine z_put C G clX12 0 rfl 33 (by decide) m_fl_RX12_311 rfl rfl rfl (Nat.le_of_ble_eq_true rfl) dX12_beginsDay_17 (fun H locs G => ?_)
  have G : zS T A s.heap s [[(mo, .inr (11, [.ref m_all, .ref m_has, .int i_size, .int i_next, .int i_where, .int i_token, .int i_number, .int i_word, .int i_wrong, .int i_farCrossing, .ref m_read, .int i_z0, .int i_crossings, .int i_inns, .ref m_posts, .ref m_shut, .ref m_here, .int i_steps, .int i_done, .int i_at, .int i_gone, .ref m_was, .ref m_came, .ref m_seenAt, .ref m_rowWorth, .ref m_farBy, .ref m_used, .int i_everywhere, .int i_again0, .int i_d0, .int 0, .int (-1), .int 0, .int 0, .int i_crowd, .int i_l0, .int i_fitMany, .int i_fitLeast, .int i_fitMost, .ref m_fitPost, .ref m_fitEnd, .ref m_keptPosts, .int i_x0]))], [(m_here, .inl (T.2 0, 7, .inl f_here))]] _ _ := G
  refine lv_aload_n hx hb dX12_beginsDay_20 rfl (lv_at hl 0 rfl) ?_
  refine lv_iconst (v := 0) hx hb dX12_beginsDay_21 (by decide) ?_
  refine z_put C G clX12 0 rfl 34 (by decide) m_fl_RX12_308 rfl rfl rfl (Nat.le_of_ble_eq_true rfl) dX12_beginsDay_22 (fun H locs G => ?_)
  have G : zS T A s.heap s [[(mo, .inr (11, [.ref m_all, .ref m_has, .int i_size, .int i_next, .int i_where, .int i_token, .int i_number, .int i_word, .int i_wrong, .int i_farCrossing, .ref m_read, .int i_z0, .int i_crossings, .int i_inns, .ref m_posts, .ref m_shut, .ref m_here, .int i_steps, .int i_done, .int i_at, .int i_gone, .ref m_was, .ref m_came, .ref m_seenAt, .ref m_rowWorth, .ref m_farBy, .ref m_used, .int i_everywhere, .int i_again0, .int i_d0, .int 0, .int (-1), .int 0, .int 0, .int 0, .int i_l0, .int i_fitMany, .int i_fitLeast, .int i_fitMost, .ref m_fitPost, .ref m_fitEnd, .ref m_keptPosts, .int i_x0]))], [(m_here, .inl (T.2 0, 7, .inl f_here))]] _ _ := G
  refine lv_aload_n hx hb dX12_beginsDay_25 rfl (lv_at hl 0 rfl) ?_
  refine z_Vv (bc := [[(mo, .inr (11, [.ref m_all, .ref m_has, .int i_size, .int i_next, .int i_where, .int i_token, .int i_number, .int i_word, .int i_wrong, .int i_farCrossing, .ref m_read, .int i_z0, .int i_crossings, .int i_inns, .ref m_posts, .ref m_shut, .ref m_here, .int i_steps, .int i_done, .int i_at, .int i_gone, .ref m_was, .ref m_came, .ref m_seenAt, .ref m_rowWorth, .ref m_farBy, .ref m_used, .int i_everywhere, .int i_again0, .int i_d0, .int 0, .int (-1), .int 0, .int 0, .int 0, .int i_l0, .int i_fitMany, .int i_fitLeast, .int i_fitMost, .ref m_fitPost, .ref m_fitEnd, .ref m_keptPosts, .int i_x0]))], [(m_here, .inl (T.2 0, 7, .inl f_here))]]) (br := []) (As := []) (rest := []) C G (c_m_looks l T mo m_all m_has i_size i_next i_where i_token i_number i_word i_wrong i_farCrossing m_read i_z0 i_crossings i_inns m_posts m_shut m_here i_steps i_done i_at i_gone m_was m_came m_seenAt m_rowWorth m_farBy m_used i_everywhere i_again0 i_d0 0 (-1) 0 0 0 i_l0 i_fitMany i_fitLeast i_fitMost m_fitPost m_fitEnd m_keptPosts i_x0 f_here (by first | with_reducible assumption | with_reducible rfl | omega | assumption | rfl)) (kV_RX12_339 C.2.2.2.2 (Nat.le_of_ble_eq_true rfl) (Nat.le_of_ble_eq_true rfl)) [0, 1] [] rfl rfl (ci := 11) (qc := (RX12, TX12, 43)) rfl rfl (List.mem_flatten.mpr ⟨_, List.mem_of_getElem? (i := 0) rfl, List.mem_cons_self⟩) rfl rfl hl.1 dX12_beginsDay_26 (Nat.le_of_ble_eq_true rfl) (Nat.le_of_ble_eq_true rfl) (fun b1 H locs hw G => ?_)
  refine hw.elim fun j_crowd_1 hbs9 => ?_
  clear hw
  subst hbs9
  have G : zS T A s.heap s [[(mo, .inr (11, [.ref m_all, .ref m_has, .int i_size, .int i_next, .int i_where, .int i_token, .int i_number, .int i_word, .int i_wrong, .int i_farCrossing, .ref m_read, .int i_z0, .int i_crossings, .int i_inns, .ref m_posts, .ref m_shut, .ref m_here, .int i_steps, .int i_done, .int i_at, .int i_gone, .ref m_was, .ref m_came, .ref m_seenAt, .ref m_rowWorth, .ref m_farBy, .ref m_used, .int i_everywhere, .int i_again0, .int i_d0, .int 0, .int (-1), .int 0, .int 0, .int j_crowd_1, .int i_l0, .int i_fitMany, .int i_fitLeast, .int i_fitMost, .ref m_fitPost, .ref m_fitEnd, .ref m_keptPosts, .int i_x0]))], [(m_here, .inl (T.2 0, 7, .inl f_here))]] _ _ := G
  exact z_vret C hr hlocks G (Nat.le_of_ble_eq_true rfl) (Nat.le_of_ble_eq_true rfl) dX12_beginsDay_29 ⟨0, (-1), 0, 0, j_crowd_1, rfl, rfl, rfl⟩
def zDR (R : Nat → Int32) : Prop := ∀ j : Nat, (j : Int) < (R 0).toInt → (0 ≤ (R (1 + 3 * j)).toInt ∧ (R (1 + 3 * j)).toInt ≤ 5) ∧ (4 ≤ (R (1 + 3 * j)).toInt → 0 ≤ (R (3 + 3 * j)).toInt ∧ (R (3 + 3 * j)).toInt ≤ 3)
theorem zDR_cg {R R' : Nat → Int32} (e : ∀ j, j < 121 → R' j = R j) (h0 : (R 0).toInt ≤ 40) (h : zDR R) : zDR R' := by
  intro j hj
  rw [e 0 (by decide)] at hj
  rw [e _ (by omega), e _ (by omega)]
  exact h j hj
section PZ
variable {k : pT} {a : pS}
theorem pEnds_z (h : pBk a) : ¬ (pEnds k a).2.2.1.toInt = 0 := by
  unfold pEnds
  split
  · show ¬ (1 : Int32).toInt = 0
    decide
  · rename_i q
    exact h q
theorem pAlso_zz {kd w : Int32} (h : pBk a) (hk : ¬ kd.toInt = 0) : ¬ (pAlso kd w a).2.2.1.toInt = 0 := by
  unfold pAlso
  split
  · rename_i q
    intro z
    rcases q with q | q
    · exact h q z
    · exact q.1 z
  · exact hk
theorem pNum_z {lo hi : Int32} (h : pBk a) (q : (pNum k lo hi a).2.2.2.1.toInt = 0) : a.2.2.1.toInt = 0 ∧ lo.toInt ≤ (pNum k lo hi a).1.toInt ∧ (pNum k lo hi a).1.toInt ≤ hi.toInt := by
  unfold pNum at q ⊢
  split at q
  · exact absurd q (pEnds_z h)
  · split at q
    · rename_i c1 c2
      rw [if_neg c1, if_pos c2]
      exact ⟨q, c2.1, c2.2⟩
    · exact absurd q (pAlso_zz (kd := 2) (w := nI (pWh k a.1)) h (by decide))
theorem pWord_z {lo hi : Nat} (h : pBk a) (q : (pWord k lo hi a).2.2.2.1.toInt = 0) : a.2.2.1.toInt = 0 ∧ lo ≤ (pWord k lo hi a).1 ∧ (pWord k lo hi a).1 ≤ hi := by
  unfold pWord at q ⊢
  split at q
  · exact absurd q (pEnds_z h)
  · rename_i c1
    rw [if_neg c1]
    exact ⟨q, by omega⟩
theorem pEndL_z (h : pBk a) (q : (pEndL k a).2.2.1.toInt = 0) : a.2.2.1.toInt = 0 := by
  unfold pEndL at q
  split at q
  · exact q
  · exact absurd q (pEnds_z h)
theorem pDB_z {m : Int} {w : Int32} {f : Nat → Int32} (h : pBk a) (q : (pDB m w f a).2.2.1.toInt = 0) : a.2.2.1.toInt = 0 ∧ (f 0).toInt < m := by
  unfold pDB at q
  split at q
  · exact absurd q (pAlso_zz h (by decide))
  · exact ⟨q, by omega⟩
theorem pBk_dy {d : Nat} (h : pBk a) : pBk (pDY k d a).2 := by
  unfold pDY
  split
  · exact pBk_num h
  · exact h
theorem pBk_day {f : Nat → Int32} (h : pBk a) : pBk (pDay k a f).1 := pBk_endL (pBk_dy (pBk_num (pBk_db (pBk_word h))))
/-- what holds of a day's row while there is no fault -/
def zDJ (a : pS) (f : Nat → Int32) : Prop := a.2.2.1.toInt = 0 → zDR f ∧ 0 ≤ (f 0).toInt ∧ (f 0).toInt ≤ 40
theorem zDJ_day {f : Nat → Int32} (h : pBk a) (hJ : zDJ a f) : zDJ (pDay k a f).1 (pDay k a f).2 := by
  intro q
  have b1 := pBk_word (k := k) (lo := 5) (hi := 10) h
  have b2 := pBk_db (m := 40) (w := nI (pWh k a.1)) (f := f) b1
  have b3 := pBk_num (k := k) (lo := 0) (hi := 6) b2
  have q1 : (pDY k (pWord k 5 10 a).1 (pNum k 0 6 (pDB 40 (nI (pWh k a.1)) f (pWord k 5 10 a).2)).2).2.2.2.1.toInt = 0 := pEndL_z (pBk_dy b3) q
  have q2 : (pNum k 0 6 (pDB 40 (nI (pWh k a.1)) f (pWord k 5 10 a).2)).2.2.2.1.toInt = 0 ∧ (8 < (pWord k 5 10 a).1 → 0 ≤ (pDY k (pWord k 5 10 a).1 (pNum k 0 6 (pDB 40 (nI (pWh k a.1)) f (pWord k 5 10 a).2)).2).1.toInt ∧ (pDY k (pWord k 5 10 a).1 (pNum k 0 6 (pDB 40 (nI (pWh k a.1)) f (pWord k 5 10 a).2)).2).1.toInt ≤ 3) := by
    unfold pDY at q1 ⊢
    by_cases c : 8 < (pWord k 5 10 a).1
    · rw [if_pos c] at q1 ⊢
      have t := pNum_z b3 q1
      exact ⟨t.1, fun _ => ⟨t.2.1, t.2.2⟩⟩
    · rw [if_neg c] at q1
      exact ⟨q1, fun z => absurd z c⟩
  have q3 := pNum_z b2 q2.1
  have q4 := pDB_z b1 q3.1
  have q5 := pWord_z h q4.1
  have hf := hJ q5.1
  have e : (pDay k a f).2 = if (f 0).toInt < 40 then upd (upd (upd (upd f (1 + 3 * (f 0).toInt.toNat) (nI (pWord k 5 10 a).1 - 5)) (2 + 3 * (f 0).toInt.toNat) (pNum k 0 6 (pDB 40 (nI (pWh k a.1)) f (pWord k 5 10 a).2)).1) (3 + 3 * (f 0).toInt.toNat) (pDY k (pWord k 5 10 a).1 (pNum k 0 6 (pDB 40 (nI (pWh k a.1)) f (pWord k 5 10 a).2)).2).1) 0 (f 0 + 1) else f := rfl
  rw [e, if_pos q4.2]
  have e1 : (f 0 + 1).toInt = (f 0).toInt + 1 := (z_iaddI (x := f 0) (y := 1) (by show -2147483648 ≤ (f 0).toInt + 1; omega) (by show (f 0).toInt + 1 < 2147483648; omega))
  have e2 := nI_toInt (n := (pWord k 5 10 a).1) (by omega)
  have e5 : (5 : Int32).toInt = 5 := rfl
  have e3 : (nI (pWord k 5 10 a).1 - 5).toInt = ((pWord k 5 10 a).1 : Int) - 5 := (z_isubI (x := nI (pWord k 5 10 a).1) (y := 5) (by rw [e5, e2]; omega) (by rw [e5, e2]; omega)).trans (by rw [e5, e2])
  refine ⟨fun j hj => ?_, by rw [z_eq rfl, e1]; omega⟩
  rw [z_eq rfl, e1] at hj
  rw [z_ne (show ¬ 1 + 3 * j = 0 by omega), z_ne (show ¬ 1 + 3 * j = 3 + 3 * (f 0).toInt.toNat by omega), z_ne (show ¬ 1 + 3 * j = 2 + 3 * (f 0).toInt.toNat by omega), z_ne (show ¬ 3 + 3 * j = 0 by omega)]
  by_cases t : j = (f 0).toInt.toNat
  · rw [z_eq (show 1 + 3 * j = 1 + 3 * (f 0).toInt.toNat by omega), z_eq (show 3 + 3 * j = 3 + 3 * (f 0).toInt.toNat by omega), e3]
    exact ⟨⟨by omega, by omega⟩, fun z => q2.2 (by omega)⟩
  · rw [z_ne (show ¬ 1 + 3 * j = 1 + 3 * (f 0).toInt.toNat by omega), z_ne (show ¬ 3 + 3 * j = 3 + 3 * (f 0).toInt.toNat by omega), z_ne (show ¬ 3 + 3 * j = 2 + 3 * (f 0).toInt.toNat by omega), z_ne (show ¬ 3 + 3 * j = 1 + 3 * (f 0).toInt.toNat by omega)]
    exact hf.1 j (by omega)
theorem zDJ_lines : ∀ (i : Nat) (a : pS) (f : Nat → Int32), pBk a → zDJ a f → zDJ (pLines k 1 i a f).1 (pLines k 1 i a f).2
  | 0, a, f, _, h => h
  | i + 1, a, f, hb, h => by
    unfold pLines
    split
    · have e : pLine k 1 a f = pDay k a f := by
        unfold pLine
        rw [if_neg (by decide), if_pos rfl]
      refine zDJ_lines i _ _ ?_ ?_
      · rw [e]; exact pBk_day hb
      · rw [e]; exact zDJ_day hb h
    · exact h
end PZ
theorem pRead_D {k : pT} {n : Nat} (h : (pRead k n 1).1.2.2.1.toInt = 0) : zDR (pRead k n 1).2 ∧ (((pRead k n 1).2 0).toInt ≤ 40) := by
  have hJ : zDJ (pLines k 1 601 (0, 0, 0, -1, -1) (fun _ => 0)).1 (pLines k 1 601 (0, 0, 0, -1, -1) (fun _ => 0)).2 := zDJ_lines 601 _ _ (fun q => absurd rfl q) (fun _ => ⟨fun j hj => absurd hj (by show ¬ (j : Int) < (0 : Int32).toInt; have : (0 : Int32).toInt = 0 := rfl; omega), by decide⟩)
  have e4 : ∀ (a : pS) (f : Nat → Int32), pF4 n 1 a f = a := fun a f => by
    unfold pF4
    rw [if_neg (fun z => absurd z.1 (by decide))]
  have e5 : ∀ (a : pS) (f : Nat → Int32), pF5 n 1 a f = a := fun a f => by
    unfold pF5
    rw [if_neg (fun z => absurd z.1 (by decide))]
  have h : (pF5 n 1 (pF4 n 1 (pLines k 1 601 (0, 0, 0, -1, -1) (fun _ => 0)).1 (pLines k 1 601 (0, 0, 0, -1, -1) (fun _ => 0)).2) (pLines k 1 601 (0, 0, 0, -1, -1) (fun _ => 0)).2).2.2.1.toInt = 0 := h
  rw [e4, e5] at h
  exact ⟨(hJ h).1, (hJ h).2.2⟩
/-- so of each day that is kept -/
def zVD (f : Nat → Int32) : Prop := ∀ i k, i < 4 → k < 2 → zDR (fun j => f (988 * i + (712 + 121 * k + j))) ∧ (f (988 * i + (712 + 121 * k))).toInt ≤ 40
theorem zVD_c {f g : Nat → Int32} {a b : Nat} (e : ∀ j, j < 121 → g (b + j) = f (a + j)) (h : zDR (fun j => f (a + j)) ∧ (f a).toInt ≤ 40) : zDR (fun j => g (b + j)) ∧ (g b).toInt ≤ 40 := by
  have e0 := e 0 (by decide)
  refine ⟨zDR_cg (R := fun j => f (a + j)) e h.2 h.1, ?_⟩
  have e0 : g b = f a := e0
  rw [e0]
  exact h.2
theorem zVD_low {f g : Nat → Int32} (hV : zVD f) (e : ∀ j, 610 ≤ j → g j = f j) : zVD g := fun i q hi hq => by
  have h := hV i q hi hq
  have a : ∀ (G : Nat → Int32), (zDR (fun j => G (988 * i + (712 + 121 * q + j))) ∧ (G (988 * i + (712 + 121 * q))).toInt ≤ 40) = (zDR (fun j => G (988 * i + (712 + 121 * q) + j)) ∧ (G (988 * i + (712 + 121 * q))).toInt ≤ 40) := fun G => by
    rw [show (fun j => G (988 * i + (712 + 121 * q + j))) = (fun j => G (988 * i + (712 + 121 * q) + j)) from funext fun j => congrArg G (by omega)]
  rw [a] at h ⊢
  exact zVD_c (fun j _ => e _ (by omega)) h
theorem zVD_a {f : Nat → Int32} (b q : Nat) : (zDR (fun j => f (b + (712 + 121 * q + j))) ∧ (f (b + (712 + 121 * q))).toInt ≤ 40) = (zDR (fun j => f (b + (712 + 121 * q) + j)) ∧ (f (b + (712 + 121 * q))).toInt ≤ 40) := by
  rw [show (fun j => f (b + (712 + 121 * q + j))) = (fun j => f (b + (712 + 121 * q) + j)) from funext fun j => congrArg f (by omega)]
theorem zVD_to {f g : Nat → Int32} {a b q : Nat} (e : ∀ j, j < 121 → g (b + (712 + 121 * q) + j) = f (a + (712 + 121 * q) + j)) (h : zDR (fun j => f (a + (712 + 121 * q + j))) ∧ (f (a + (712 + 121 * q))).toInt ≤ 40) : zDR (fun j => g (b + (712 + 121 * q + j))) ∧ (g (b + (712 + 121 * q))).toInt ≤ 40 := by
  rw [zVD_a] at h ⊢
  exact zVD_c e h
theorem pNr_lt {s : Nat} {at_ : Int32} {f : Nat → Int32} (h : pOkAt s at_ f) (h2 : (f s).toInt ≤ 2) : (pNr s at_ f).toInt.toNat < 2 := by
  unfold pOkAt at h
  unfold pNr
  by_cases q : at_.toInt = -1
  · rw [if_pos q] at h ⊢
    omega
  · rw [if_neg q] at h ⊢
    omega
theorem zVD_text {k : pT} {n s : Nat} {at_ r : Int32} {f g : Nat → Int32} (hV : zVD f) (hs : s < 3) (h2 : ∀ q, q < 3 → (f q).toInt ≤ 2) (F2 : zText (pRead k n s) s at_ f g r) (T2 : ∀ j, 988 ≤ j → g j = f j) : zVD g := by
  have ho : ∀ (a b : Int32) (j : Nat), 7 ≤ j → pHd f a b j = f j := fun a b j hj => by
    unfold pHd
    rw [z_ne (by omega), z_ne (by omega), z_ne (by omega)]
  rcases F2 with ⟨-, -, z⟩ | ⟨-, -, -, z⟩ | ⟨w, y, -, z⟩
  · refine zVD_low hV (fun j hj => ?_)
    by_cases q : j < 988
    · rw [z j q, ho _ _ _ (by omega)]
    · exact T2 j (by omega)
  · refine zVD_low hV (fun j hj => ?_)
    by_cases q : j < 988
    · rw [z j q, ho _ _ _ (by omega)]
    · exact T2 j (by omega)
  · have hc2 : ∀ (G : Nat → Int32) (j : Nat), 7 ≤ j → pCnt s at_ G j = G j := fun G j hj => by
      unfold pCnt
      split
      · exact z_ne (by omega)
      · rfl
    intro i q hi hq
    by_cases e : i = 0
    · by_cases hs0 : s = 1 ∧ (pNr 1 at_ f).toInt.toNat = q
      · obtain ⟨hs0, hn⟩ := hs0
        subst hs0
        have t := pRead_D y
        have hg : ∀ j, j < 121 → g (988 * i + (712 + 121 * q) + j) = (pRead k n 1).2 j := fun j hj => by
          rw [z _ (by omega), hn]
          unfold pPut
          have hp : pBase 1 q = 712 + 121 * q := rfl
          have hz : pSize 1 = 121 := rfl
          rw [hp, hz, if_pos (by omega)]
          exact congrArg _ (by omega)
        rw [zVD_a]
        refine ⟨zDR_cg hg t.2 t.1, ?_⟩
        have h0 : g (988 * i + (712 + 121 * q)) = (pRead k n 1).2 0 := hg 0 (by decide)
        rw [h0]
        exact t.2
      · refine zVD_to (fun j hj => ?_) (hV i q hi hq)
        rw [z _ (by omega)]
        have hx : ¬ (pBase s (pNr s at_ f).toInt.toNat ≤ 988 * i + (712 + 121 * q) + j ∧ 988 * i + (712 + 121 * q) + j < pBase s (pNr s at_ f).toInt.toNat + pSize s) := by
          rcases (show s = 0 ∨ s = 1 ∨ s = 2 by omega) with t | t | t
          · subst t
            have hp : pBase 0 (pNr 0 at_ f).toInt.toNat = 610 + 51 * (pNr 0 at_ f).toInt.toNat := rfl
            have hz : pSize 0 = 51 := rfl
            have hb := pNr_lt w (h2 0 (by decide))
            rw [hp, hz]
            omega
          · subst t
            have hp : pBase 1 (pNr 1 at_ f).toInt.toNat = 712 + 121 * (pNr 1 at_ f).toInt.toNat := rfl
            have hz : pSize 1 = 121 := rfl
            rw [hp, hz]
            have hn : ¬ (pNr 1 at_ f).toInt.toNat = q := fun w => hs0 ⟨rfl, w⟩
            omega
          · subst t
            have hp : pBase 2 (pNr 2 at_ f).toInt.toNat = 954 + 17 * (pNr 2 at_ f).toInt.toNat := rfl
            rw [hp]
            omega
        unfold pPut
        rw [if_neg hx, hc2 _ _ (by omega), ho _ _ _ (by omega)]
    · exact zVD_to (fun j _ => T2 _ (by omega)) (hV i q hi hq)
theorem zVD_feed {p : Nat} {a b c d e r : Int32} {f g : Nat → Int32} (hV : zVD f) (hp6 : p ≤ 600) (F2 : 580 < p ∧ r = -1 ∧ g = f ∨ p ≤ 580 ∧ r = nI (p + 20) ∧ zFeedR p a b c d e f g) : zVD g := by
  rcases F2 with ⟨-, -, y⟩ | ⟨hp5, -, y⟩
  · rw [y]; exact hV
  · obtain ⟨-, -, z3⟩ := y
    exact zVD_low hV (fun j hj => z3 j (by omega) (by omega))
theorem zVD_end {n r : Int32} {f g : Nat → Int32} (hV : zVD f) (F2 : (n.toInt < 0 ∨ (f 4).toInt < n.toInt) ∧ r.toInt = -1 ∧ g = f ∨ (0 ≤ n.toInt ∧ n.toInt ≤ (f 4).toInt) ∧ g = upd f 4 n ∧ r = n) : zVD g := by
  rcases F2 with ⟨-, -, y⟩ | ⟨-, y, -⟩
  · rw [y]; exact hV
  · rw [y]; exact zVD_low hV (fun j hj => z_ne (by omega))
theorem zVD_hd {f g : Nat → Int32} (hV : zVD f) (hg : g = upd (upd (upd f 4 0) 5 0) 6 (-1)) : zVD g := by
  rw [hg]
  exact zVD_low hV (fun j hj => by rw [z_ne (by omega), z_ne (by omega), z_ne (by omega)])
theorem zVD_img {f g : Nat → Int32} {k : Nat} (hk : k < 3) (hV : zVD f) (c1 : ∀ j, j < 988 → g (988 * (k + 1) + j) = f j) (c2 : ∀ j, (j < 988 * (k + 1) ∨ 988 * (k + 1) + 988 ≤ j) → g j = f j) : zVD g := by
  intro i q hi hq
  by_cases e : i = k + 1
  · subst e
    refine zVD_to (a := 988 * 0) (fun j hj => ?_) (hV 0 q (by decide) hq)
    rw [show 988 * (k + 1) + (712 + 121 * q) + j = 988 * (k + 1) + (712 + 121 * q + j) by omega, c1 _ (by omega)]
    exact congrArg f (by omega)
  · have : i < k + 1 ∨ k + 1 < i := by omega
    exact zVD_to (fun j _ => c2 _ (by omega)) (hV i q hi hq)
theorem zVD_ag {K : Nat} {x r' : Int32} {fh f g : Nat → Int32} (hV : zVD f) (hx : x.toInt = (K : Int)) (hK : K < 3) (F2 : r' = 0 ∧ (x.toInt < 0 ∨ 3 ≤ x.toInt ∨ fh x.toNatClampNeg = 0) ∧ g = f ∨ r' = 1 ∧ (0 ≤ x.toInt ∧ x.toInt < 3) ∧ ¬ fh x.toNatClampNeg = 0 ∧ (∀ j, j < 988 → g j = f (988 * (x.toNatClampNeg + 1) + j)) ∧ ∀ j, 988 ≤ j → g j = f j) : zVD g := by
  have e : x.toNatClampNeg = K := by have := z_clI (x := x) (by omega); omega
  rw [e] at F2
  rcases F2 with ⟨-, -, z⟩ | ⟨-, -, -, z, z2⟩
  · rw [z]; exact hV
  · intro i q hi hq
    by_cases e : i = 0
    · refine zVD_to (a := 988 * (K + 1)) (fun j hj => ?_) (hV (K + 1) q (by omega) hq)
      rw [z _ (by omega)]
      exact congrArg f (by omega)
    · exact zVD_to (fun j _ => z2 _ (by omega)) (hV i q hi hq)
theorem zVD_st : zVD (upd (fun _ => 0) 6 (-1)) := fun i q _ _ => by
  have o : ∀ j, ¬ j = 6 → upd (fun _ => (0 : Int32)) 6 (-1) j = 0 := fun j h => if_neg h
  have z0 : (0 : Int32).toInt = 0 := rfl
  refine ⟨fun j hj => ?_, by rw [o _ (by omega), z0]; decide⟩
  have hj : (j : Int) < (upd (fun _ => (0 : Int32)) 6 (-1) (988 * i + (712 + 121 * q + 0))).toInt := hj
  rw [o _ (by omega), z0] at hj
  omega
def zKe (D E : zK) : Prop := (∀ j, j < 7 → D.1 j = E.1 j) ∧ (∀ j, j < 7 → D.2.1 j = E.2.1 j) ∧ (∀ j, j < 7 → D.2.2.1 j = E.2.2.1 j) ∧ D.2.2.2 = E.2.2.2
def zOe (W : Nat → Int32) (a b : Option zK) : Prop := (a = none ∧ b = none) ∨ ∃ D E : zK, a = some D ∧ b = some E ∧ zKe D E ∧ zP3 D.1 W
theorem zMvH_cg {H H' : Nat → Int32} (h : ∀ j, j < 7 → H j = H' j) (x y : Int32) : ∀ j, j < 7 → zMvH H x y j = zMvH H' x y j := by
  have g : ∀ j, j < 7 → upd H x.toNatClampNeg (H x.toNatClampNeg - 1) j = upd H' x.toNatClampNeg (H' x.toNatClampNeg - 1) j := by
    intro j hj
    by_cases e : j = x.toNatClampNeg
    · rw [z_eq e, z_eq e, ← e, h j hj]
    · rw [z_ne e, z_ne e, h j hj]
  intro j hj
  unfold zMvH
  by_cases e : j = y.toNatClampNeg
  · rw [z_eq e, z_eq e, ← e, g j hj]
  · rw [z_ne e, z_ne e, g j hj]
theorem zUp_cg {H H' : Nat → Int32} {k : Nat} {v v' : Int32} (h : ∀ j, j < 7 → H j = H' j) (hv : v = v') : ∀ j, j < 7 → upd H k v j = upd H' k v' j := by
  intro j hj
  by_cases e : j = k
  · rw [z_eq e, z_eq e, hv]
  · rw [z_ne e, z_ne e, h j hj]
theorem zKe_i {P P' S S' H H' : Nat → Int32} {a a' b b' : Int32} (p : ∀ j, j < 7 → P j = P' j) (s : ∀ j, j < 7 → S j = S' j) (w : ∀ j, j < 7 → H j = H' j) (e1 : a = a') (e2 : b = b') : zKe (P, S, H, a, b) (P', S', H', a', b') := by
  subst e1
  subst e2
  exact ⟨p, s, w, rfl⟩
theorem zOe_i {W : Nat → Int32} {D E : zK} (h : zKe D E) (h2 : zP3 D.1 W) : zOe W (some D) (some E) := Or.inr ⟨D, E, rfl, rfl, h, h2⟩
section ZCG
variable {cr inn x y : Int32} {W W' L L' Ro Ro' : Nat → Int32} {D E : zK}
theorem zGoF_cg (h3 : ∀ j, j < 7 → W j = W' j) (hl : zLs W L L') (hI : zP3 D.1 W) (h : zKe D E) : zOe W (zGoF cr W L x D) (zGoF cr W' L' x E) := by
  obtain ⟨p, s, w, e⟩ := h
  have eS := zStep_cg hI p s h3 hl x
  unfold zGoF
  by_cases q : (zHas cr x ∧ 1 ≤ (D.2.2.1 x.toNatClampNeg).toInt) ∧ ¬ zStep D.1 D.2.1 W L x = -1
  · have ex := z_clI q.1.1.1
    have eH := w x.toNatClampNeg (by have := q.1.1.2.2; omega)
    rw [if_pos q, if_pos ⟨⟨q.1.1, by rw [← eH]; exact q.1.2⟩, by rw [← eS]; exact q.2⟩]
    exact zOe_i (zKe_i (zPost_cg p s h3 x) s (by rw [← eS]; exact zMvH_cg w x _) (congrArg (fun q => q.1 + 1) e) (congrArg (fun q => q.2) e)) (zPost_I hI x)
  · refine Or.inl ⟨if_neg q, if_neg (fun z => q ?_)⟩
    have ex := z_clI z.1.1.1
    have eH := w x.toNatClampNeg (by have := z.1.1.2.2; omega)
    exact ⟨⟨z.1.1, by rw [eH]; exact z.1.2⟩, by rw [eS]; exact z.2⟩
theorem zRuF_cg (h3 : ∀ j, j < 7 → W j = W' j) (hl : zLs W L L') (hI : zP3 D.1 W) (h : zKe D E) : zOe W (zRuF cr inn W L x D) (zRuF cr inn W' L' x E) := by
  obtain ⟨p, s, w, e⟩ := h
  have eR := zRunN_cg s h3 hl 499 D.1 E.1 x 0 hI p
  by_cases q : zHas cr x ∧ 1 ≤ (D.2.2.1 x.toNatClampNeg).toInt
  · have ex := z_clI q.1.1
    have eH := w x.toNatClampNeg (by have := q.1.2.2; omega)
    have a1 : zRuF cr inn W L x D = some ((zRunN D.2.1 W L 499 D.1 x 0).1, D.2.1, zMvH D.2.2.1 x (zRunN D.2.1 W L 499 D.1 x 0).2.1, D.2.2.2.1 + nI (zRunN D.2.1 W L 499 D.1 x 0).2.2, if zBit inn (zRunN D.2.1 W L 499 D.1 x 0).2.1 = 1 then D.2.2.2.2 else D.2.2.2.2 + 1) := if_pos q
    have a2 : zRuF cr inn W' L' x E = some ((zRunN E.2.1 W' L' 499 E.1 x 0).1, E.2.1, zMvH E.2.2.1 x (zRunN E.2.1 W' L' 499 E.1 x 0).2.1, E.2.2.2.1 + nI (zRunN E.2.1 W' L' 499 E.1 x 0).2.2, if zBit inn (zRunN E.2.1 W' L' 499 E.1 x 0).2.1 = 1 then E.2.2.2.2 else E.2.2.2.2 + 1) := if_pos ⟨q.1, by rw [← eH]; exact q.2⟩
    rw [a1, a2, ← eR.2]
    exact zOe_i (zKe_i eR.1 s (zMvH_cg w x _) (congrArg (fun q => q.1 + nI (zRunN D.2.1 W L 499 D.1 x 0).2.2) e) (congrArg (fun q => if zBit inn (zRunN D.2.1 W L 499 D.1 x 0).2.1 = 1 then q.2 else q.2 + 1) e)) (zRunN_I _ _ _ _ hI)
  · refine Or.inl ⟨if_neg q, if_neg (fun z => q ?_)⟩
    have ex := z_clI z.1.1
    have eH := w x.toNatClampNeg (by have := z.1.2.2; omega)
    exact ⟨z.1, by rw [eH]; exact z.2⟩
theorem zTuF_cg (h3 : ∀ j, j < 7 → W j = W' j) (hI : zP3 D.1 W) (h : zKe D E) : zOe W (zTuF cr W x D) (zTuF cr W' x E) := by
  obtain ⟨p, s, w, e⟩ := h
  have eT := zTurn_cg p s h3 x
  unfold zTuF
  by_cases q : zHas cr x ∧ ¬ zTurn D.1 D.2.1 W x = -1
  · rw [if_pos q, if_pos ⟨q.1, by rw [← eT]; exact q.2⟩]
    exact Or.inr ⟨_, _, rfl, rfl, ⟨zPost_cg p s h3 x, s, w, e⟩, zPost_I hI x⟩
  · refine Or.inl ⟨if_neg q, if_neg (fun z => q ⟨z.1, by rw [eT]; exact z.2⟩)⟩
theorem zAdF_cg (hI : zP3 D.1 W) (h : zKe D E) : zOe W (zAdF cr x D) (zAdF cr x E) := by
  obtain ⟨p, s, w, e⟩ := h
  unfold zAdF
  by_cases q : zHas cr x ∧ (D.2.2.1 x.toNatClampNeg).toInt < 99
  · have ex := z_clI q.1.1
    have eH := w x.toNatClampNeg (by have := q.1.2.2; omega)
    rw [if_pos q, if_pos ⟨q.1, by rw [← eH]; exact q.2⟩]
    exact Or.inr ⟨_, _, rfl, rfl, ⟨p, s, zUp_cg w (by rw [eH]), e⟩, hI⟩
  · refine Or.inl ⟨if_neg q, if_neg (fun z => q ?_)⟩
    have ex := z_clI z.1.1
    have eH := w x.toNatClampNeg (by have := z.1.2.2; omega)
    exact ⟨z.1, by rw [eH]; exact z.2⟩
theorem zShF_cg (hr : ∀ j, j < 7 → Ro j = Ro' j) (hI : zP3 D.1 W) (h : zKe D E) : zOe W (zShF cr Ro x y D) (zShF cr Ro' x y E) := by
  obtain ⟨p, s, w, e⟩ := h
  unfold zShF
  by_cases q : zHas cr x ∧ (0 ≤ y.toInt ∧ y.toInt < (Ro x.toNatClampNeg).toInt ∧ y.toInt < 4) ∧ zBit (D.2.1 x.toNatClampNeg) y = 0
  · have ex := z_clI q.1.1
    have eS := s x.toNatClampNeg (by have := q.1.2.2; omega)
    have eR := hr x.toNatClampNeg (by have := q.1.2.2; omega)
    rw [if_pos q, if_pos ⟨q.1, by rw [← eR]; exact q.2.1, by rw [← eS]; exact q.2.2⟩]
    exact Or.inr ⟨_, _, rfl, rfl, ⟨p, zUp_cg s (by rw [eS]), w, e⟩, hI⟩
  · refine Or.inl ⟨if_neg q, if_neg (fun z => q ?_)⟩
    have ex := z_clI z.1.1
    have eS := s x.toNatClampNeg (by have := z.1.2.2; omega)
    have eR := hr x.toNatClampNeg (by have := z.1.2.2; omega)
    exact ⟨z.1, by rw [eR]; exact z.2.1, by rw [eS]; exact z.2.2⟩
theorem zOpF_cg (hr : ∀ j, j < 7 → Ro j = Ro' j) (hI : zP3 D.1 W) (h : zKe D E) : zOe W (zOpF cr Ro x y D) (zOpF cr Ro' x y E) := by
  obtain ⟨p, s, w, e⟩ := h
  unfold zOpF
  by_cases q : zHas cr x ∧ (0 ≤ y.toInt ∧ y.toInt < (Ro x.toNatClampNeg).toInt ∧ y.toInt < 4) ∧ ¬ zBit (D.2.1 x.toNatClampNeg) y = 0
  · have ex := z_clI q.1.1
    have eS := s x.toNatClampNeg (by have := q.1.2.2; omega)
    have eR := hr x.toNatClampNeg (by have := q.1.2.2; omega)
    rw [if_pos q, if_pos ⟨q.1, by rw [← eR]; exact q.2.1, by rw [← eS]; exact q.2.2⟩]
    exact Or.inr ⟨_, _, rfl, rfl, ⟨p, zUp_cg s (by rw [eS]), w, e⟩, hI⟩
  · refine Or.inl ⟨if_neg q, if_neg (fun z => q ?_)⟩
    have ex := z_clI z.1.1
    have eS := s x.toNatClampNeg (by have := z.1.2.2; omega)
    have eR := hr x.toNatClampNeg (by have := z.1.2.2; omega)
    exact ⟨z.1, by rw [eR]; exact z.2.1, by rw [eS]; exact z.2.2⟩
theorem zDe_cg (h3 : ∀ j, j < 7 → W j = W' j) (hr : ∀ j, j < 7 → Ro j = Ro' j) (hl : zLs W L L') (d : Int32) (hI : zP3 D.1 W) (h : zKe D E) : zOe W (zDe cr inn W Ro L d x y D) (zDe cr inn W' Ro' L' d x y E) := by
  by_cases d0 : d.toInt = 0
  · rw [zDe_k0 d0, zDe_k0 d0]; exact zGoF_cg h3 hl hI h
  by_cases d1 : d.toInt = 1
  · rw [zDe_k1 d1, zDe_k1 d1]; exact zRuF_cg h3 hl hI h
  by_cases d2 : d.toInt = 2
  · rw [zDe_k2 d2, zDe_k2 d2]; exact zTuF_cg h3 hI h
  by_cases d3 : d.toInt = 3
  · rw [zDe_k3 d3, zDe_k3 d3]; exact zAdF_cg hI h
  by_cases d4 : d.toInt = 4
  · rw [zDe_k4 d4, zDe_k4 d4]; exact zShF_cg hr hI h
  by_cases d5 : d.toInt = 5
  · rw [zDe_k5 d5, zDe_k5 d5]; exact zOpF_cg hr hI h
  rw [zDe_kn (by omega), zDe_kn (by omega)]
  exact Or.inl ⟨rfl, rfl⟩
end ZCG
theorem zWk_b {f H : Nat → Int32} {z cr : Int32} (h : zML f z cr) (e : ∀ j, j < 7 → H j = zWk f z j) : zHB 9 H := fun j hj => by
  rw [e j hj]
  exact (h.2.2.2.1 j hj).2.2
theorem zS0_b {S : Nat → Int32} (e : ∀ j, j < 7 → S j = 0) : zS15 S := fun j hj => by
  rw [e j hj]
  decide
/-- walkers of the first crossings, of inns alone (b) or of all -/
def zSumW (inn b : Int32) (H : Nat → Int32) : Nat → Int32
  | 0 => 0
  | i + 1 => zSumW inn b H i + (if b = 0 ∨ zBit inn (nI i) = 1 then H i else 0)
theorem zSumW_y {inn b u : Int32} {H : Nat → Int32} {i : Nat} (h : u = zSumW inn b H i) (q : b = 0 ∨ zBit inn (nI i) = 1) : u + H i = zSumW inn b H (i + 1) := by
  rw [zSumW, if_pos q, h]
theorem zSumW_n {inn b u : Int32} {H : Nat → Int32} {i : Nat} (h : u = zSumW inn b H i) (q : ¬ b = 0) (q2 : ¬ zBit inn (nI i) = 1) : u + 0 = zSumW inn b H (i + 1) := by
  rw [zSumW, if_neg (fun z => z.elim q q2), h]
theorem zSumW_cg {inn b : Int32} {H H' : Nat → Int32} (h : ∀ j, j < 7 → H j = H' j) : ∀ i, i ≤ 7 → zSumW inn b H i = zSumW inn b H' i
  | 0, _ => rfl
  | i + 1, hi => by rw [zSumW, zSumW, zSumW_cg h i (by omega), h i (by omega)]
/-- what is told of a day's state -/
def zNow (cr inn : Int32) (D : zK) (w : Int32) : Int32 := if w.toInt = 0 then D.2.2.2.1 else if w.toInt = 1 then zSumW inn 1 D.2.2.1 cr.toInt.toNat else if w.toInt = 2 then zSumW inn 0 D.2.2.1 cr.toInt.toNat else if w.toInt = 3 then D.2.2.2.2 else if 10 ≤ w.toInt ∧ w.toInt < 40 ∧ w.toInt % 10 < cr.toInt then (if w.toInt < 20 then D.1 (w.toInt % 10).toNat else if w.toInt < 30 then D.2.2.1 (w.toInt % 10).toNat else D.2.1 (w.toInt % 10).toNat) else -2
section ZNOW
variable {cr inn w st nv : Int32} {P S H : Nat → Int32} {i : Nat}
theorem zNow_0 (h : w.toInt = 0) : st = zNow cr inn (P, S, H, st, nv) w := (if_pos h).symm
theorem zNow_1 (h : w.toInt = 1) : zSumW inn 1 H cr.toInt.toNat = zNow cr inn (P, S, H, st, nv) w := by
  unfold zNow
  rw [if_neg (by omega), if_pos h]
theorem zNow_2 (h : w.toInt = 2) : zSumW inn 0 H cr.toInt.toNat = zNow cr inn (P, S, H, st, nv) w := by
  unfold zNow
  rw [if_neg (by omega), if_neg (by omega), if_pos h]
theorem zNow_3 (h : w.toInt = 3) : nv = zNow cr inn (P, S, H, st, nv) w := by
  unfold zNow
  rw [if_neg (by omega), if_neg (by omega), if_neg (by omega), if_pos h]
theorem zNow_p (h : 10 ≤ w.toInt ∧ w.toInt < 20 ∧ w.toInt % 10 < cr.toInt) (e : (i : Int) = w.toInt % 10) : P i = zNow cr inn (P, S, H, st, nv) w := by
  unfold zNow
  rw [if_neg (by omega), if_neg (by omega), if_neg (by omega), if_neg (by omega), if_pos ⟨h.1, by omega, h.2.2⟩, if_pos h.2.1]
  exact congrArg P (by omega)
theorem zNow_h (h : 20 ≤ w.toInt ∧ w.toInt < 30 ∧ w.toInt % 10 < cr.toInt) (e : (i : Int) = w.toInt % 10) : H i = zNow cr inn (P, S, H, st, nv) w := by
  unfold zNow
  rw [if_neg (by omega), if_neg (by omega), if_neg (by omega), if_neg (by omega), if_pos ⟨by omega, by omega, h.2.2⟩, if_neg (by omega), if_pos h.2.1]
  exact congrArg H (by omega)
theorem zNow_s (h : 30 ≤ w.toInt ∧ w.toInt < 40 ∧ w.toInt % 10 < cr.toInt) (e : (i : Int) = w.toInt % 10) : S i = zNow cr inn (P, S, H, st, nv) w := by
  unfold zNow
  rw [if_neg (by omega), if_neg (by omega), if_neg (by omega), if_neg (by omega), if_pos ⟨by omega, by omega, h.2.2⟩, if_neg (by omega), if_neg (by omega)]
  exact congrArg S (by omega)
theorem zNow_n (h : w.toInt < 0 ∨ 3 < w.toInt) (q : w.toInt < 10 ∨ 39 < w.toInt ∨ cr.toInt ≤ w.toInt % 10) : -2 = zNow cr inn (P, S, H, st, nv) w := by
  unfold zNow
  rw [if_neg (by omega), if_neg (by omega), if_neg (by omega), if_neg (by omega), if_neg (by omega)]
end ZNOW
theorem zNow_cg {cr inn w : Int32} {D E : zK} (hc : 0 ≤ cr.toInt ∧ cr.toInt ≤ 7) (h : zKe D E) : zNow cr inn D w = zNow cr inn E w := by
  obtain ⟨p, s, H, e⟩ := h
  unfold zNow
  rw [zSumW_cg H _ (by omega), zSumW_cg H _ (by omega), e]
  by_cases q : 10 ≤ w.toInt ∧ w.toInt < 40 ∧ w.toInt % 10 < cr.toInt
  · rw [p _ (by omega), s _ (by omega), H _ (by omega)]
  · rw [if_neg q, if_neg q]
set_option maxHeartbeats 4000000 in
set_option maxRecDepth 100000 in
/-- c_f_walkersInAll -/
theorem c_f_walkersInAll (l : Launch) (T : zTy) (h : Nat) (po : Nat) (la : Nat) (fw : Nat → Int32) (v0 : Int32) (v1 : Int32) (v2 : Int32) (v3 : Int32) (v4 : Int32) (v5 : Int32) (v6 : Int32) (v7 : Int32) (wc : va_W) (cr : Int32) (inn : Int32) (k1 : Nat → Int32) (k2 : Nat → Int32) (k3 : Nat → Int32) (k4 : Nat → Int32) (z : va_W) (b : Int32) (hc : bCourse T h po la fw v0 v1 v2 v3 v4 v5 v6 v7 wc) (hz : bLand T la cr inn k1 k2 k3 k4 z) (hI : zLI cr k1 k3) : zMi l T yX1_walkersInAll cX1_walkersInAll 4 (some .int) 3 0 0 [.ref h, .int b] [wc, z] (fun (r : Int32) bs => bs = [wc, z] ∧ r = zSumW inn b fw cr.toInt.toNat) := by
  refine zMi_of (own := RX1) (by decide) rfl (Nat.le_of_ble_eq_true rfl) ?_
  intro p e s m args below meth c A ls C hr hlocks hnm hAe G hl
  have hx := C.1
  have hb := C.2.1
  have hl : lv_has ls 4 [(0, .ref h), (1, .int b)] := hl
  have hcr := hI.1
  refine lv_iconst (v := 0) hx hb dX1_walkersInAll_0 (by decide) ?_
  refine lv_istore_n (lv' := [(2, .int 0), (0, .ref h), (1, .int b)]) hx hb dX1_walkersInAll_1 rfl hl (by decide) rfl (fun ls hl => ?_)
  refine lv_iconst (v := 0) hx hb dX1_walkersInAll_2 (by decide) ?_
  refine lv_istore_n (lv' := [(3, .int 0), (2, .int 0), (0, .ref h), (1, .int b)]) hx hb dX1_walkersInAll_3 rfl hl (by decide) rfl (fun ls hl => ?_)
  refine hc.elim fun a1_1 hbs9 => ?_
  clear hc
  subst hbs9
  have G : zS T A s.heap s [[(h, .inr (1, [.ref po, .ref a1_1, .int v0, .ref la, .int v1, .int v2, .int v3, .int v4, .int v5, .int v6, .int v7]))], [(a1_1, .inl (T.2 0, 7, .inl fw))], z] _ _ := G.re rfl
  refine hz.elim fun a1_2 w90 => w90.elim fun a2_3 w91 => w91.elim fun a3_4 w92 => w92.elim fun a4_5 hbs9 => ?_
  clear hz w90 w91 w92
  subst hbs9
  have G : zS T A s.heap s [[(h, .inr (1, [.ref po, .ref a1_1, .int v0, .ref la, .int v1, .int v2, .int v3, .int v4, .int v5, .int v6, .int v7]))], [(a1_1, .inl (T.2 0, 7, .inl fw))], [(la, .inr (4, [.int cr, .int inn, .ref a1_2, .ref a2_3, .ref a3_4, .ref a4_5]))], [(a1_2, .inl (T.2 0, 7, .inl k1))], [(a2_3, .inl (T.2 0, 28, .inl k2))], [(a3_4, .inl (T.2 0, 7, .inl k3))], [(a4_5, .inl (T.2 0, 7, .inl k4))]] _ _ := G.re rfl
  have hw_6 : bCourse T h po la fw v0 v1 v2 v3 v4 v5 v6 v7 [(h, .inr (1, [.ref po, .ref a1_1, .int v0, .ref la, .int v1, .int v2, .int v3, .int v4, .int v5, .int v6, .int v7])), (a1_1, .inl (T.2 0, 7, .inl fw))] := ⟨a1_1, rfl⟩
  have G : zS T A s.heap s [[(h, .inr (1, [.ref po, .ref a1_1, .int v0, .ref la, .int v1, .int v2, .int v3, .int v4, .int v5, .int v6, .int v7])), (a1_1, .inl (T.2 0, 7, .inl fw))], [(la, .inr (4, [.int cr, .int inn, .ref a1_2, .ref a2_3, .ref a3_4, .ref a4_5]))], [(a1_2, .inl (T.2 0, 7, .inl k1))], [(a2_3, .inl (T.2 0, 28, .inl k2))], [(a3_4, .inl (T.2 0, 7, .inl k3))], [(a4_5, .inl (T.2 0, 7, .inl k4))]] _ _ := G.re rfl
  have hw_7 : bLand T la cr inn k1 k2 k3 k4 [(la, .inr (4, [.int cr, .int inn, .ref a1_2, .ref a2_3, .ref a3_4, .ref a4_5])), (a1_2, .inl (T.2 0, 7, .inl k1)), (a2_3, .inl (T.2 0, 28, .inl k2)), (a3_4, .inl (T.2 0, 7, .inl k3)), (a4_5, .inl (T.2 0, 7, .inl k4))] := ⟨a1_2, a2_3, a3_4, a4_5, rfl⟩
  have G : zS T A s.heap s [[(h, .inr (1, [.ref po, .ref a1_1, .int v0, .ref la, .int v1, .int v2, .int v3, .int v4, .int v5, .int v6, .int v7])), (a1_1, .inl (T.2 0, 7, .inl fw))], [(la, .inr (4, [.int cr, .int inn, .ref a1_2, .ref a2_3, .ref a3_4, .ref a4_5])), (a1_2, .inl (T.2 0, 7, .inl k1)), (a2_3, .inl (T.2 0, 28, .inl k2)), (a3_4, .inl (T.2 0, 7, .inl k3)), (a4_5, .inl (T.2 0, 7, .inl k4))]] _ _ := G.re rfl
  refine z_lp2 (T := T) 4 (fun (i : Nat) (u : Int32) => [[(h, .inr (1, [.ref po, .ref a1_1, .int v0, .ref la, .int v1, .int v2, .int v3, .int v4, .int v5, .int v6, .int v7])), (a1_1, .inl (T.2 0, 7, .inl fw))], [(la, .inr (4, [.int cr, .int inn, .ref a1_2, .ref a2_3, .ref a3_4, .ref a4_5])), (a1_2, .inl (T.2 0, 7, .inl k1)), (a2_3, .inl (T.2 0, 28, .inl k2)), (a3_4, .inl (T.2 0, 7, .inl k3)), (a4_5, .inl (T.2 0, 7, .inl k4))]]) (fun (i : Nat) (u : Int32) => [(3, .int (nI i)), (2, .int u), (0, .ref h), (1, .int b)]) (fun (i : Nat) (u : Int32) => i ≤ cr.toInt.toNat ∧ i ≤ 7 ∧ u = zSumW inn b fw i) (fun (i : Nat) (u : Int32) => 7 - i) ?_ 0 0 (show 0 ≤ cr.toInt.toNat ∧ 0 ≤ 7 ∧ 0 = zSumW inn b fw 0 from ⟨by omega, by omega, rfl⟩) G (lv_sub hl [0, 1, 2, 3] rfl)
  intro i u hI9 ih_4 H locs ls G hl
  replace hI9 : i ≤ cr.toInt.toNat ∧ i ≤ 7 ∧ u = zSumW inn b fw i := hI9
  refine hI9.elim fun hi w90 => w90.elim fun hi7 hU => ?_
  clear hI9 w90
  replace G : zS T A s.heap s [[(h, .inr (1, [.ref po, .ref a1_1, .int v0, .ref la, .int v1, .int v2, .int v3, .int v4, .int v5, .int v6, .int v7])), (a1_1, .inl (T.2 0, 7, .inl fw))], [(la, .inr (4, [.int cr, .int inn, .ref a1_2, .ref a2_3, .ref a3_4, .ref a4_5])), (a1_2, .inl (T.2 0, 7, .inl k1)), (a2_3, .inl (T.2 0, 28, .inl k2)), (a3_4, .inl (T.2 0, 7, .inl k3)), (a4_5, .inl (T.2 0, 7, .inl k4))]] _ _ := G
  replace hl : lv_has ls 4 [(3, .int (nI i)), (2, .int u), (0, .ref h), (1, .int b)] := hl
  refine lv_iload_n hx hb dX1_walkersInAll_4 rfl (lv_at hl 0 rfl) ?_
  refine lv_aload_n hx hb dX1_walkersInAll_5 rfl (lv_at hl 2 rfl) ?_
  have G : zS T A s.heap s [[(h, .inr (1, [.ref po, .ref a1_1, .int v0, .ref la, .int v1, .int v2, .int v3, .int v4, .int v5, .int v6, .int v7]))], [(a1_1, .inl (T.2 0, 7, .inl fw))], [(la, .inr (4, [.int cr, .int inn, .ref a1_2, .ref a2_3, .ref a3_4, .ref a4_5])), (a1_2, .inl (T.2 0, 7, .inl k1)), (a2_3, .inl (T.2 0, 28, .inl k2)), (a3_4, .inl (T.2 0, 7, .inl k3)), (a4_5, .inl (T.2 0, 7, .inl k4))]] _ _ := G.re rfl
  refine z_get C G clX1 0 rfl 3 (by decide) m_fl_RX1_25 rfl dX1_walkersInAll_6 ?_
  have G : zS T A s.heap s [[(h, .inr (1, [.ref po, .ref a1_1, .int v0, .ref la, .int v1, .int v2, .int v3, .int v4, .int v5, .int v6, .int v7]))], [(a1_1, .inl (T.2 0, 7, .inl fw))], [(la, .inr (4, [.int cr, .int inn, .ref a1_2, .ref a2_3, .ref a3_4, .ref a4_5]))], [(a1_2, .inl (T.2 0, 7, .inl k1))], [(a2_3, .inl (T.2 0, 28, .inl k2))], [(a3_4, .inl (T.2 0, 7, .inl k3))], [(a4_5, .inl (T.2 0, 7, .inl k4))]] _ _ := G.re rfl
  refine z_get C G clX4 2 rfl 0 (by decide) m_fl_RX1_88 rfl dX1_walkersInAll_9 ?_
  refine lv_icmp_ge (tgt := 55) hx hb dX1_walkersInAll_12 (by decide) (fun c_8 => ?_) (fun c_8 => ?_)
  · have c_8n : cr.toInt ≤ (i : Int) := by have q := (fa_le _ _).mp c_8; rw [nI_toInt (n := i) (by omega)] at q; exact q
    refine lv_iload_n hx hb dX1_walkersInAll_55 rfl (lv_at hl 1 rfl) ?_
    have hw_9 : bCourse T h po la fw v0 v1 v2 v3 v4 v5 v6 v7 [(h, .inr (1, [.ref po, .ref a1_1, .int v0, .ref la, .int v1, .int v2, .int v3, .int v4, .int v5, .int v6, .int v7])), (a1_1, .inl (T.2 0, 7, .inl fw))] := ⟨a1_1, rfl⟩
    have G : zS T A s.heap s [[(h, .inr (1, [.ref po, .ref a1_1, .int v0, .ref la, .int v1, .int v2, .int v3, .int v4, .int v5, .int v6, .int v7])), (a1_1, .inl (T.2 0, 7, .inl fw))], [(la, .inr (4, [.int cr, .int inn, .ref a1_2, .ref a2_3, .ref a3_4, .ref a4_5]))], [(a1_2, .inl (T.2 0, 7, .inl k1))], [(a2_3, .inl (T.2 0, 28, .inl k2))], [(a3_4, .inl (T.2 0, 7, .inl k3))], [(a4_5, .inl (T.2 0, 7, .inl k4))]] _ _ := G.re rfl
    have hw_10 : bLand T la cr inn k1 k2 k3 k4 [(la, .inr (4, [.int cr, .int inn, .ref a1_2, .ref a2_3, .ref a3_4, .ref a4_5])), (a1_2, .inl (T.2 0, 7, .inl k1)), (a2_3, .inl (T.2 0, 28, .inl k2)), (a3_4, .inl (T.2 0, 7, .inl k3)), (a4_5, .inl (T.2 0, 7, .inl k4))] := ⟨a1_2, a2_3, a3_4, a4_5, rfl⟩
    have G : zS T A s.heap s [[(h, .inr (1, [.ref po, .ref a1_1, .int v0, .ref la, .int v1, .int v2, .int v3, .int v4, .int v5, .int v6, .int v7])), (a1_1, .inl (T.2 0, 7, .inl fw))], [(la, .inr (4, [.int cr, .int inn, .ref a1_2, .ref a2_3, .ref a3_4, .ref a4_5])), (a1_2, .inl (T.2 0, 7, .inl k1)), (a2_3, .inl (T.2 0, 28, .inl k2)), (a3_4, .inl (T.2 0, 7, .inl k3)), (a4_5, .inl (T.2 0, 7, .inl k4))]] _ _ := G.re rfl
    exact z_iret C hr hlocks G (Nat.le_of_ble_eq_true rfl) (Nat.le_of_ble_eq_true rfl) dX1_walkersInAll_56 ⟨rfl, (by rw [hU, show i = cr.toInt.toNat by omega])⟩
  · have c_8n : ¬ cr.toInt ≤ (i : Int) := fun q => c_8 ((fa_le _ _).mpr (by rw [nI_toInt (n := i) (by omega)]; exact q))
    refine lv_iload_n hx hb dX1_walkersInAll_15 rfl (lv_at hl 0 rfl) ?_
    refine lv_bipush (v := 7) hx hb dX1_walkersInAll_16 (by decide) ?_
    refine lv_icmp_ge (tgt := 55) hx hb dX1_walkersInAll_18 (by decide) (fun c_11 => ?_) (fun c_11 => ?_)
    · have c_11n : 7 ≤ i := (nI_leI (a := 7) (b := i) (by omega) (by omega)).mp c_11
      refine lv_iload_n hx hb dX1_walkersInAll_55 rfl (lv_at hl 1 rfl) ?_
      have hw_12 : bCourse T h po la fw v0 v1 v2 v3 v4 v5 v6 v7 [(h, .inr (1, [.ref po, .ref a1_1, .int v0, .ref la, .int v1, .int v2, .int v3, .int v4, .int v5, .int v6, .int v7])), (a1_1, .inl (T.2 0, 7, .inl fw))] := ⟨a1_1, rfl⟩
      have G : zS T A s.heap s [[(h, .inr (1, [.ref po, .ref a1_1, .int v0, .ref la, .int v1, .int v2, .int v3, .int v4, .int v5, .int v6, .int v7])), (a1_1, .inl (T.2 0, 7, .inl fw))], [(la, .inr (4, [.int cr, .int inn, .ref a1_2, .ref a2_3, .ref a3_4, .ref a4_5]))], [(a1_2, .inl (T.2 0, 7, .inl k1))], [(a2_3, .inl (T.2 0, 28, .inl k2))], [(a3_4, .inl (T.2 0, 7, .inl k3))], [(a4_5, .inl (T.2 0, 7, .inl k4))]] _ _ := G.re rfl
      have hw_13 : bLand T la cr inn k1 k2 k3 k4 [(la, .inr (4, [.int cr, .int inn, .ref a1_2, .ref a2_3, .ref a3_4, .ref a4_5])), (a1_2, .inl (T.2 0, 7, .inl k1)), (a2_3, .inl (T.2 0, 28, .inl k2)), (a3_4, .inl (T.2 0, 7, .inl k3)), (a4_5, .inl (T.2 0, 7, .inl k4))] := ⟨a1_2, a2_3, a3_4, a4_5, rfl⟩
      have G : zS T A s.heap s [[(h, .inr (1, [.ref po, .ref a1_1, .int v0, .ref la, .int v1, .int v2, .int v3, .int v4, .int v5, .int v6, .int v7])), (a1_1, .inl (T.2 0, 7, .inl fw))], [(la, .inr (4, [.int cr, .int inn, .ref a1_2, .ref a2_3, .ref a3_4, .ref a4_5])), (a1_2, .inl (T.2 0, 7, .inl k1)), (a2_3, .inl (T.2 0, 28, .inl k2)), (a3_4, .inl (T.2 0, 7, .inl k3)), (a4_5, .inl (T.2 0, 7, .inl k4))]] _ _ := G.re rfl
      exact z_iret C hr hlocks G (Nat.le_of_ble_eq_true rfl) (Nat.le_of_ble_eq_true rfl) dX1_walkersInAll_56 ⟨rfl, (by rw [hU, show i = cr.toInt.toNat by omega])⟩
    · have c_11n : ¬ 7 ≤ i := fun q => c_11 ((nI_leI (a := 7) (b := i) (by omega) (by omega)).mpr q)
      refine lv_iload_n hx hb dX1_walkersInAll_21 rfl (lv_at hl 1 rfl) ?_
      refine lv_iload_n hx hb dX1_walkersInAll_22 rfl (lv_at hl 3 rfl) ?_
      refine lv_if_eq (tgt := 37) hx hb dX1_walkersInAll_23 (by decide) (fun c_14 => ?_) (fun c_14 => ?_)
      · have c_14n : b.toInt = (0 : Int) := (fa_eq _ _).mp c_14
        refine lv_aload_n hx hb dX1_walkersInAll_37 rfl (lv_at hl 2 rfl) ?_
        refine z_get C G clX1 0 rfl 1 (by decide) m_fl_RX1_18 rfl dX1_walkersInAll_38 ?_
        refine lv_iload_n hx hb dX1_walkersInAll_41 rfl (lv_at hl 0 rfl) ?_
        refine z_ild C G 1 rfl (vp_in_nI (by omega) (by omega)) dX1_walkersInAll_42 ?_
        refine lv_topi (fun v_15 ev_15 => ?_)
        rw [nI_clamp (by omega)] at ev_15
        subst ev_15
        refine lv_goto (tgt := 47) hx hb dX1_walkersInAll_43 (by decide) ?_
        refine lv_iadd hx hb dX1_walkersInAll_47 ?_
        refine lv_istore_n (lv' := [(2, .int (u + (fw i))), (3, .int (nI i)), (0, .ref h), (1, .int b)]) hx hb dX1_walkersInAll_48 rfl hl (by decide) rfl (fun ls hl => ?_)
        refine lv_iinc (v := nI (i + 1)) (lv' := [(3, .int (nI (i + 1))), (2, .int (u + (fw i))), (0, .ref h), (1, .int b)]) hx hb dX1_walkersInAll_49 hl (k := 1) rfl (z_inc i 1) (by decide) rfl (fun ls hl => ?_)
        refine lv_goto (tgt := 4) hx hb dX1_walkersInAll_52 (by decide) ?_
        have hw_16 : bCourse T h po la fw v0 v1 v2 v3 v4 v5 v6 v7 [(h, .inr (1, [.ref po, .ref a1_1, .int v0, .ref la, .int v1, .int v2, .int v3, .int v4, .int v5, .int v6, .int v7])), (a1_1, .inl (T.2 0, 7, .inl fw))] := ⟨a1_1, rfl⟩
        have G : zS T A s.heap s [[(h, .inr (1, [.ref po, .ref a1_1, .int v0, .ref la, .int v1, .int v2, .int v3, .int v4, .int v5, .int v6, .int v7])), (a1_1, .inl (T.2 0, 7, .inl fw))], [(la, .inr (4, [.int cr, .int inn, .ref a1_2, .ref a2_3, .ref a3_4, .ref a4_5]))], [(a1_2, .inl (T.2 0, 7, .inl k1))], [(a2_3, .inl (T.2 0, 28, .inl k2))], [(a3_4, .inl (T.2 0, 7, .inl k3))], [(a4_5, .inl (T.2 0, 7, .inl k4))]] _ _ := G.re rfl
        have hw_17 : bLand T la cr inn k1 k2 k3 k4 [(la, .inr (4, [.int cr, .int inn, .ref a1_2, .ref a2_3, .ref a3_4, .ref a4_5])), (a1_2, .inl (T.2 0, 7, .inl k1)), (a2_3, .inl (T.2 0, 28, .inl k2)), (a3_4, .inl (T.2 0, 7, .inl k3)), (a4_5, .inl (T.2 0, 7, .inl k4))] := ⟨a1_2, a2_3, a3_4, a4_5, rfl⟩
        have G : zS T A s.heap s [[(h, .inr (1, [.ref po, .ref a1_1, .int v0, .ref la, .int v1, .int v2, .int v3, .int v4, .int v5, .int v6, .int v7])), (a1_1, .inl (T.2 0, 7, .inl fw))], [(la, .inr (4, [.int cr, .int inn, .ref a1_2, .ref a2_3, .ref a3_4, .ref a4_5])), (a1_2, .inl (T.2 0, 7, .inl k1)), (a2_3, .inl (T.2 0, 28, .inl k2)), (a3_4, .inl (T.2 0, 7, .inl k3)), (a4_5, .inl (T.2 0, 7, .inl k4))]] _ _ := G.re rfl
        exact ih_4 (i + 1) (u + (fw i)) (show (i + 1) ≤ cr.toInt.toNat ∧ (i + 1) ≤ 7 ∧ (u + (fw i)) = zSumW inn b fw (i + 1) from ⟨by omega, by omega, (zSumW_y hU (by first | exact Or.inl (by assumption) | exact Or.inr (by assumption) | exact Or.inr (zBit_p (by assumption))))⟩) (show 7 - (i + 1) < 7 - i from by omega) _ _ ls G (lv_sub hl [0, 1, 2, 3] rfl)
      · have c_14n : ¬ b.toInt = (0 : Int) := fun q => c_14 ((fa_eq _ _).mpr q)
        refine lv_aload_n hx hb dX1_walkersInAll_26 rfl (lv_at hl 2 rfl) ?_
        refine z_get C G clX1 0 rfl 3 (by decide) m_fl_RX1_25 rfl dX1_walkersInAll_27 ?_
        refine lv_iload_n hx hb dX1_walkersInAll_30 rfl (lv_at hl 0 rfl) ?_
        have hw_18 : bLand T la cr inn k1 k2 k3 k4 [(la, .inr (4, [.int cr, .int inn, .ref a1_2, .ref a2_3, .ref a3_4, .ref a4_5])), (a1_2, .inl (T.2 0, 7, .inl k1)), (a2_3, .inl (T.2 0, 28, .inl k2)), (a3_4, .inl (T.2 0, 7, .inl k3)), (a4_5, .inl (T.2 0, 7, .inl k4))] := ⟨a1_2, a2_3, a3_4, a4_5, rfl⟩
        have G : zS T A s.heap s [[(h, .inr (1, [.ref po, .ref a1_1, .int v0, .ref la, .int v1, .int v2, .int v3, .int v4, .int v5, .int v6, .int v7]))], [(a1_1, .inl (T.2 0, 7, .inl fw))], [(la, .inr (4, [.int cr, .int inn, .ref a1_2, .ref a2_3, .ref a3_4, .ref a4_5])), (a1_2, .inl (T.2 0, 7, .inl k1)), (a2_3, .inl (T.2 0, 28, .inl k2)), (a3_4, .inl (T.2 0, 7, .inl k3)), (a4_5, .inl (T.2 0, 7, .inl k4))]] _ _ := G.re rfl
        refine z_Vi (bc := [[(la, .inr (4, [.int cr, .int inn, .ref a1_2, .ref a2_3, .ref a3_4, .ref a4_5])), (a1_2, .inl (T.2 0, 7, .inl k1)), (a2_3, .inl (T.2 0, 28, .inl k2)), (a3_4, .inl (T.2 0, 7, .inl k3)), (a4_5, .inl (T.2 0, 7, .inl k4))]]) (br := [[(h, .inr (1, [.ref po, .ref a1_1, .int v0, .ref la, .int v1, .int v2, .int v3, .int v4, .int v5, .int v6, .int v7]))], [(a1_1, .inl (T.2 0, 7, .inl fw))]]) (As := [.int (nI i)]) (rest := [.int u]) C G (c_isInn l T la cr inn k1 k2 k3 k4 ([(la, .inr (4, [.int cr, .int inn, .ref a1_2, .ref a2_3, .ref a3_4, .ref a4_5])), (a1_2, .inl (T.2 0, 7, .inl k1)), (a2_3, .inl (T.2 0, 28, .inl k2)), (a3_4, .inl (T.2 0, 7, .inl k3)), (a4_5, .inl (T.2 0, 7, .inl k4))]) (nI i) hw_18) (kV_RX1_135 C.2.2.2.2 (Nat.le_of_ble_eq_true rfl) (Nat.le_of_ble_eq_true rfl)) [2] [0, 1] rfl rfl (ci := 4) (qc := (RX4, TX4, 6)) rfl rfl (List.mem_flatten.mpr ⟨_, List.mem_of_getElem? (i := 0) rfl, (bLand_mem hw_18).choose_spec⟩) rfl rfl hl.1 dX1_walkersInAll_31 (Nat.le_of_ble_eq_true rfl) (Nat.le_of_ble_eq_true rfl) (fun r_20 b1 H locs hw G => ?_)
        refine hw.elim fun hbs9 hc_19 => ?_
        clear hw
        subst hbs9
        have G : zS T A s.heap s [[(h, .inr (1, [.ref po, .ref a1_1, .int v0, .ref la, .int v1, .int v2, .int v3, .int v4, .int v5, .int v6, .int v7]))], [(a1_1, .inl (T.2 0, 7, .inl fw))], [(la, .inr (4, [.int cr, .int inn, .ref a1_2, .ref a2_3, .ref a3_4, .ref a4_5])), (a1_2, .inl (T.2 0, 7, .inl k1)), (a2_3, .inl (T.2 0, 28, .inl k2)), (a3_4, .inl (T.2 0, 7, .inl k3)), (a4_5, .inl (T.2 0, 7, .inl k4))]] _ _ := G
        rcases hc_19 with ⟨rfl, h_21, h_22, h_23, h_24⟩ | ⟨rfl, h_25⟩
        · have h_21 : 0 ≤ (nI i).toInt := h_21
          have h_22 : (nI i).toInt < cr.toInt := h_22
          have h_23 : (nI i).toInt < 7 := h_23
          have h_24 : ¬ zBit inn (nI i) = 0 := h_24
          refine lv_if_eq (tgt := 46) hx hb dX1_walkersInAll_34 (by decide) (fun q => absurd q (by decide)) (fun _ => ?_)
          refine lv_aload_n hx hb dX1_walkersInAll_37 rfl (lv_at hl 2 rfl) ?_
          refine z_get C G clX1 0 rfl 1 (by decide) m_fl_RX1_18 rfl dX1_walkersInAll_38 ?_
          refine lv_iload_n hx hb dX1_walkersInAll_41 rfl (lv_at hl 0 rfl) ?_
          refine z_ild C G 1 rfl (vp_in_nI (by omega) (by omega)) dX1_walkersInAll_42 ?_
          refine lv_topi (fun v_26 ev_26 => ?_)
          rw [nI_clamp (by omega)] at ev_26
          subst ev_26
          refine lv_goto (tgt := 47) hx hb dX1_walkersInAll_43 (by decide) ?_
          refine lv_iadd hx hb dX1_walkersInAll_47 ?_
          refine lv_istore_n (lv' := [(2, .int (u + (fw i))), (3, .int (nI i)), (0, .ref h), (1, .int b)]) hx hb dX1_walkersInAll_48 rfl hl (by decide) rfl (fun ls hl => ?_)
          refine lv_iinc (v := nI (i + 1)) (lv' := [(3, .int (nI (i + 1))), (2, .int (u + (fw i))), (0, .ref h), (1, .int b)]) hx hb dX1_walkersInAll_49 hl (k := 1) rfl (z_inc i 1) (by decide) rfl (fun ls hl => ?_)
          refine lv_goto (tgt := 4) hx hb dX1_walkersInAll_52 (by decide) ?_
          have hw_27 : bCourse T h po la fw v0 v1 v2 v3 v4 v5 v6 v7 [(h, .inr (1, [.ref po, .ref a1_1, .int v0, .ref la, .int v1, .int v2, .int v3, .int v4, .int v5, .int v6, .int v7])), (a1_1, .inl (T.2 0, 7, .inl fw))] := ⟨a1_1, rfl⟩
          have G : zS T A s.heap s [[(h, .inr (1, [.ref po, .ref a1_1, .int v0, .ref la, .int v1, .int v2, .int v3, .int v4, .int v5, .int v6, .int v7])), (a1_1, .inl (T.2 0, 7, .inl fw))], [(la, .inr (4, [.int cr, .int inn, .ref a1_2, .ref a2_3, .ref a3_4, .ref a4_5])), (a1_2, .inl (T.2 0, 7, .inl k1)), (a2_3, .inl (T.2 0, 28, .inl k2)), (a3_4, .inl (T.2 0, 7, .inl k3)), (a4_5, .inl (T.2 0, 7, .inl k4))]] _ _ := G.re rfl
          exact ih_4 (i + 1) (u + (fw i)) (show (i + 1) ≤ cr.toInt.toNat ∧ (i + 1) ≤ 7 ∧ (u + (fw i)) = zSumW inn b fw (i + 1) from ⟨by omega, by omega, (zSumW_y hU (by first | exact Or.inl (by assumption) | exact Or.inr (by assumption) | exact Or.inr (zBit_p (by assumption))))⟩) (show 7 - (i + 1) < 7 - i from by omega) _ _ ls G (lv_sub hl [0, 1, 2, 3] rfl)
        · have h_25 : ((nI i).toInt < 0 ∨ cr.toInt ≤ (nI i).toInt ∨ 7 ≤ (nI i).toInt ∨ zBit inn (nI i) = 0) := h_25
          have ti9 := nI_toInt (n := i) (by omega)
          have hni := h_25
          refine lv_if_eq (tgt := 46) hx hb dX1_walkersInAll_34 (by decide) (fun _ => ?_) (fun q => absurd (by decide) q)
          refine lv_iconst (v := 0) hx hb dX1_walkersInAll_46 (by decide) ?_
          refine lv_iadd hx hb dX1_walkersInAll_47 ?_
          refine lv_istore_n (lv' := [(2, .int (u + 0)), (3, .int (nI i)), (0, .ref h), (1, .int b)]) hx hb dX1_walkersInAll_48 rfl hl (by decide) rfl (fun ls hl => ?_)
          refine lv_iinc (v := nI (i + 1)) (lv' := [(3, .int (nI (i + 1))), (2, .int (u + 0)), (0, .ref h), (1, .int b)]) hx hb dX1_walkersInAll_49 hl (k := 1) rfl (z_inc i 1) (by decide) rfl (fun ls hl => ?_)
          refine lv_goto (tgt := 4) hx hb dX1_walkersInAll_52 (by decide) ?_
          have hw_28 : bCourse T h po la fw v0 v1 v2 v3 v4 v5 v6 v7 [(h, .inr (1, [.ref po, .ref a1_1, .int v0, .ref la, .int v1, .int v2, .int v3, .int v4, .int v5, .int v6, .int v7])), (a1_1, .inl (T.2 0, 7, .inl fw))] := ⟨a1_1, rfl⟩
          have G : zS T A s.heap s [[(h, .inr (1, [.ref po, .ref a1_1, .int v0, .ref la, .int v1, .int v2, .int v3, .int v4, .int v5, .int v6, .int v7])), (a1_1, .inl (T.2 0, 7, .inl fw))], [(la, .inr (4, [.int cr, .int inn, .ref a1_2, .ref a2_3, .ref a3_4, .ref a4_5])), (a1_2, .inl (T.2 0, 7, .inl k1)), (a2_3, .inl (T.2 0, 28, .inl k2)), (a3_4, .inl (T.2 0, 7, .inl k3)), (a4_5, .inl (T.2 0, 7, .inl k4))]] _ _ := G.re rfl
          exact ih_4 (i + 1) (u + 0) (show (i + 1) ≤ cr.toInt.toNat ∧ (i + 1) ≤ 7 ∧ (u + 0) = zSumW inn b fw (i + 1) from ⟨by omega, by omega, (zSumW_n hU (by assumption) (by first | assumption | exact fun q8 => zBit_o q8 (by first | assumption | (rcases hni with e9 | e9 | e9 | e9 <;> first | (exfalso; omega) | exact e9))))⟩) (show 7 - (i + 1) < 7 - i from by omega) _ _ ls G (lv_sub hl [0, 1, 2, 3] rfl)
set_option maxHeartbeats 4000000 in
set_option maxRecDepth 100000 in
/-- c_f_Course_told -/
theorem c_f_Course_told (l : Launch) (T : zTy) (h : Nat) (po : Nat) (la : Nat) (fw : Nat → Int32) (v0 : Int32) (v1 : Int32) (v2 : Int32) (v3 : Int32) (v4 : Int32) (v5 : Int32) (v6 : Int32) (v7 : Int32) (wc : va_W) (f1 : Nat → Int32) (f2 : Nat → Int32) (f3 : Nat → Int32) (st : Int32) (wh : Int32) (wp : va_W) (cr : Int32) (inn : Int32) (k1 : Nat → Int32) (k2 : Nat → Int32) (k3 : Nat → Int32) (k4 : Nat → Int32) (z : va_W) (x : Int32) (hc : bCourse T h po la fw v0 v1 v2 v3 v4 v5 v6 v7 wc) (hp : bPosts T po la f1 f2 f3 st wh wp) (hz : bLand T la cr inn k1 k2 k3 k4 z) (hI : zLI cr k1 k3) : zMi l T yX1_told cX1_told 3 (some .int) 4 0 0 [.ref h, .int x] [wc, wp, z] (fun (r : Int32) bs => bs = [wc, wp, z] ∧ r = zNow cr inn (f1, f2, fw, v0, v1) x) := by
  refine zMi_of (own := RX1) (by decide) rfl (Nat.le_of_ble_eq_true rfl) ?_
  intro p e s m args below meth c A ls C hr hlocks hnm hAe G hl
  have hx := C.1
  have hb := C.2.1
  have hl : lv_has ls 3 [(0, .ref h), (1, .int x)] := hl
  have hcr := hI.1
  refine lv_iload_n hx hb dX1_told_0 rfl (lv_at hl 1 rfl) ?_
  by_cases c_1o : x.toInt < 0 ∨ 3 < x.toInt
  · refine lv_tableOut (tgt := 54) hx hb dX1_told_1 c_1o (by decide) ?_
    rcases (show x.toInt < 0 ∨ 0 ≤ x.toInt by omega) with hxs | hxs
    · have hdx := zDvN hxs
      refine lv_iload_n hx hb dX1_told_54 rfl (lv_at hl 1 rfl) ?_
      refine lv_bipush (v := 10) hx hb dX1_told_55 (by decide) ?_
      refine lv_irem hx hb dX1_told_57 (by decide) ?_
      refine lv_istore_n (lv' := [(2, .int (x - x / 10 * 10)), (0, .ref h), (1, .int x)]) hx hb dX1_told_58 rfl hl (by decide) rfl (fun ls hl => ?_)
      refine lv_aload_n hx hb dX1_told_59 rfl (lv_at hl 1 rfl) ?_
      refine hc.elim fun a1_2 hbs9 => ?_
      clear hc
      subst hbs9
      have G : zS T A s.heap s [[(h, .inr (1, [.ref po, .ref a1_2, .int v0, .ref la, .int v1, .int v2, .int v3, .int v4, .int v5, .int v6, .int v7]))], [(a1_2, .inl (T.2 0, 7, .inl fw))], wp, z] _ _ := G.re rfl
      refine z_get C G clX1 0 rfl 3 (by decide) m_fl_RX1_25 rfl dX1_told_60 ?_
      refine lv_iload_n hx hb dX1_told_63 rfl (lv_at hl 0 rfl) ?_
      refine z_Vi (bc := [z]) (br := [[(h, .inr (1, [.ref po, .ref a1_2, .int v0, .ref la, .int v1, .int v2, .int v3, .int v4, .int v5, .int v6, .int v7]))], [(a1_2, .inl (T.2 0, 7, .inl fw))], wp]) (As := [.int (x - x / 10 * 10)]) (rest := []) C G (c_has l T la cr inn k1 k2 k3 k4 z (x - x / 10 * 10) hz) (kV_RX1_112 C.2.2.2.2 (Nat.le_of_ble_eq_true rfl) (Nat.le_of_ble_eq_true rfl)) [3] [0, 1, 2] rfl rfl (ci := 4) (qc := (RX4, TX4, 6)) rfl rfl (List.mem_flatten.mpr ⟨_, List.mem_of_getElem? (i := 0) rfl, (bLand_mem hz).choose_spec⟩) rfl rfl hl.1 dX1_told_64 (Nat.le_of_ble_eq_true rfl) (Nat.le_of_ble_eq_true rfl) (fun r_4 b1 H locs hw G => ?_)
      refine hw.elim fun hbs9 hc_3 => ?_
      clear hw
      subst hbs9
      have G : zS T A s.heap s [[(h, .inr (1, [.ref po, .ref a1_2, .int v0, .ref la, .int v1, .int v2, .int v3, .int v4, .int v5, .int v6, .int v7]))], [(a1_2, .inl (T.2 0, 7, .inl fw))], wp, z] _ _ := G
      rcases hc_3 with ⟨rfl, h_5, h_6, h_7⟩ | ⟨rfl, h_8⟩
      · have h_5 : 0 ≤ (x - x / 10 * 10).toInt := h_5
        have h_6 : (x - x / 10 * 10).toInt < cr.toInt := h_6
        have h_7 : (x - x / 10 * 10).toInt < 7 := h_7
        refine lv_if_ne (tgt := 73) hx hb dX1_told_67 (by decide) (fun _ => ?_) (fun q => absurd q (by decide))
        refine lv_iload_n hx hb dX1_told_73 rfl (lv_at hl 2 rfl) ?_
        refine lv_bipush (v := 10) hx hb dX1_told_74 (by decide) ?_
        refine lv_idiv hx hb dX1_told_76 (by decide) ?_
        by_cases c_9o : (x / 10).toInt < 1 ∨ 3 < (x / 10).toInt
        · refine lv_tableOut (tgt := 131) hx hb dX1_told_77 c_9o (by decide) ?_
          refine lv_bipush (v := (-2)) hx hb dX1_told_131 (by decide) ?_
          have hw_10 : bCourse T h po la fw v0 v1 v2 v3 v4 v5 v6 v7 [(h, .inr (1, [.ref po, .ref a1_2, .int v0, .ref la, .int v1, .int v2, .int v3, .int v4, .int v5, .int v6, .int v7])), (a1_2, .inl (T.2 0, 7, .inl fw))] := ⟨a1_2, rfl⟩
          have G : zS T A s.heap s [[(h, .inr (1, [.ref po, .ref a1_2, .int v0, .ref la, .int v1, .int v2, .int v3, .int v4, .int v5, .int v6, .int v7])), (a1_2, .inl (T.2 0, 7, .inl fw))], wp, z] _ _ := G.re rfl
          exact z_iret C hr hlocks G (Nat.le_of_ble_eq_true rfl) (Nat.le_of_ble_eq_true rfl) dX1_told_133 ⟨rfl, (zNow_n (by omega) (by omega))⟩
        · have c_9r : (x / 10).toInt = 1 ∨ (x / 10).toInt = 2 ∨ (x / 10).toInt = 3 := by omega
          rcases c_9r with c_9 | c_9 | c_9
          · refine lv_tableIn (tgt := 104) hx hb dX1_told_77 (by omega) (by omega) (by rw [c_9]; rfl) (by decide) ?_
            refine lv_aload_n hx hb dX1_told_104 rfl (lv_at hl 1 rfl) ?_
            refine z_get C G clX1 0 rfl 0 (by decide) m_fl_RX1_12 rfl dX1_told_105 ?_
            refine hp.elim fun a1_11 w90 => w90.elim fun a2_12 w91 => w91.elim fun a3_13 hbs9 => ?_
            clear hp w90 w91
            subst hbs9
            have G : zS T A s.heap s [[(h, .inr (1, [.ref po, .ref a1_2, .int v0, .ref la, .int v1, .int v2, .int v3, .int v4, .int v5, .int v6, .int v7]))], [(a1_2, .inl (T.2 0, 7, .inl fw))], [(po, .inr (6, [.ref la, .ref a1_11, .ref a2_12, .int st, .int wh, .ref a3_13]))], [(a1_11, .inl (T.2 0, 7, .inl f1))], [(a2_12, .inl (T.2 0, 7, .inl f2))], [(a3_13, .inl (T.2 0, 7, .inl f3))], z] _ _ := G.re rfl
            refine z_get C G clX6 2 rfl 1 (by decide) m_fl_RX1_154 rfl dX1_told_108 ?_
            refine lv_iload_n hx hb dX1_told_111 rfl (lv_at hl 0 rfl) ?_
            refine z_ild C G 3 rfl (vp_in_iff.mpr ⟨by omega, by omega⟩) dX1_told_112 ?_
            refine lv_topi (fun v_14 ev_14 => ?_)
            subst ev_14
            have hw_15 : bCourse T h po la fw v0 v1 v2 v3 v4 v5 v6 v7 [(h, .inr (1, [.ref po, .ref a1_2, .int v0, .ref la, .int v1, .int v2, .int v3, .int v4, .int v5, .int v6, .int v7])), (a1_2, .inl (T.2 0, 7, .inl fw))] := ⟨a1_2, rfl⟩
            have G : zS T A s.heap s [[(h, .inr (1, [.ref po, .ref a1_2, .int v0, .ref la, .int v1, .int v2, .int v3, .int v4, .int v5, .int v6, .int v7])), (a1_2, .inl (T.2 0, 7, .inl fw))], [(po, .inr (6, [.ref la, .ref a1_11, .ref a2_12, .int st, .int wh, .ref a3_13]))], [(a1_11, .inl (T.2 0, 7, .inl f1))], [(a2_12, .inl (T.2 0, 7, .inl f2))], [(a3_13, .inl (T.2 0, 7, .inl f3))], z] _ _ := G.re rfl
            have hw_16 : bPosts T po la f1 f2 f3 st wh [(po, .inr (6, [.ref la, .ref a1_11, .ref a2_12, .int st, .int wh, .ref a3_13])), (a1_11, .inl (T.2 0, 7, .inl f1)), (a2_12, .inl (T.2 0, 7, .inl f2)), (a3_13, .inl (T.2 0, 7, .inl f3))] := ⟨a1_11, a2_12, a3_13, rfl⟩
            have G : zS T A s.heap s [[(h, .inr (1, [.ref po, .ref a1_2, .int v0, .ref la, .int v1, .int v2, .int v3, .int v4, .int v5, .int v6, .int v7])), (a1_2, .inl (T.2 0, 7, .inl fw))], [(po, .inr (6, [.ref la, .ref a1_11, .ref a2_12, .int st, .int wh, .ref a3_13])), (a1_11, .inl (T.2 0, 7, .inl f1)), (a2_12, .inl (T.2 0, 7, .inl f2)), (a3_13, .inl (T.2 0, 7, .inl f3))], z] _ _ := G.re rfl
            exact z_iret C hr hlocks G (Nat.le_of_ble_eq_true rfl) (Nat.le_of_ble_eq_true rfl) dX1_told_113 ⟨rfl, (by exfalso; omega)⟩
          · refine lv_tableIn (tgt := 114) hx hb dX1_told_77 (by omega) (by omega) (by rw [c_9]; rfl) (by decide) ?_
            refine lv_aload_n hx hb dX1_told_114 rfl (lv_at hl 1 rfl) ?_
            refine z_get C G clX1 0 rfl 1 (by decide) m_fl_RX1_18 rfl dX1_told_115 ?_
            refine lv_iload_n hx hb dX1_told_118 rfl (lv_at hl 0 rfl) ?_
            refine z_ild C G 1 rfl (vp_in_iff.mpr ⟨by omega, by omega⟩) dX1_told_119 ?_
            refine lv_topi (fun v_17 ev_17 => ?_)
            subst ev_17
            have hw_18 : bCourse T h po la fw v0 v1 v2 v3 v4 v5 v6 v7 [(h, .inr (1, [.ref po, .ref a1_2, .int v0, .ref la, .int v1, .int v2, .int v3, .int v4, .int v5, .int v6, .int v7])), (a1_2, .inl (T.2 0, 7, .inl fw))] := ⟨a1_2, rfl⟩
            have G : zS T A s.heap s [[(h, .inr (1, [.ref po, .ref a1_2, .int v0, .ref la, .int v1, .int v2, .int v3, .int v4, .int v5, .int v6, .int v7])), (a1_2, .inl (T.2 0, 7, .inl fw))], wp, z] _ _ := G.re rfl
            exact z_iret C hr hlocks G (Nat.le_of_ble_eq_true rfl) (Nat.le_of_ble_eq_true rfl) dX1_told_120 ⟨rfl, (by exfalso; omega)⟩
          · refine lv_tableIn (tgt := 121) hx hb dX1_told_77 (by omega) (by omega) (by rw [c_9]; rfl) (by decide) ?_
            refine lv_aload_n hx hb dX1_told_121 rfl (lv_at hl 1 rfl) ?_
            refine z_get C G clX1 0 rfl 0 (by decide) m_fl_RX1_12 rfl dX1_told_122 ?_
            refine hp.elim fun a1_19 w90 => w90.elim fun a2_20 w91 => w91.elim fun a3_21 hbs9 => ?_
            clear hp w90 w91
            subst hbs9
            have G : zS T A s.heap s [[(h, .inr (1, [.ref po, .ref a1_2, .int v0, .ref la, .int v1, .int v2, .int v3, .int v4, .int v5, .int v6, .int v7]))], [(a1_2, .inl (T.2 0, 7, .inl fw))], [(po, .inr (6, [.ref la, .ref a1_19, .ref a2_20, .int st, .int wh, .ref a3_21]))], [(a1_19, .inl (T.2 0, 7, .inl f1))], [(a2_20, .inl (T.2 0, 7, .inl f2))], [(a3_21, .inl (T.2 0, 7, .inl f3))], z] _ _ := G.re rfl
            refine z_get C G clX6 2 rfl 2 (by decide) m_fl_RX1_157 rfl dX1_told_125 ?_
            refine lv_iload_n hx hb dX1_told_128 rfl (lv_at hl 0 rfl) ?_
            refine z_ild C G 4 rfl (vp_in_iff.mpr ⟨by omega, by omega⟩) dX1_told_129 ?_
            refine lv_topi (fun v_22 ev_22 => ?_)
            subst ev_22
            have hw_23 : bCourse T h po la fw v0 v1 v2 v3 v4 v5 v6 v7 [(h, .inr (1, [.ref po, .ref a1_2, .int v0, .ref la, .int v1, .int v2, .int v3, .int v4, .int v5, .int v6, .int v7])), (a1_2, .inl (T.2 0, 7, .inl fw))] := ⟨a1_2, rfl⟩
            have G : zS T A s.heap s [[(h, .inr (1, [.ref po, .ref a1_2, .int v0, .ref la, .int v1, .int v2, .int v3, .int v4, .int v5, .int v6, .int v7])), (a1_2, .inl (T.2 0, 7, .inl fw))], [(po, .inr (6, [.ref la, .ref a1_19, .ref a2_20, .int st, .int wh, .ref a3_21]))], [(a1_19, .inl (T.2 0, 7, .inl f1))], [(a2_20, .inl (T.2 0, 7, .inl f2))], [(a3_21, .inl (T.2 0, 7, .inl f3))], z] _ _ := G.re rfl
            have hw_24 : bPosts T po la f1 f2 f3 st wh [(po, .inr (6, [.ref la, .ref a1_19, .ref a2_20, .int st, .int wh, .ref a3_21])), (a1_19, .inl (T.2 0, 7, .inl f1)), (a2_20, .inl (T.2 0, 7, .inl f2)), (a3_21, .inl (T.2 0, 7, .inl f3))] := ⟨a1_19, a2_20, a3_21, rfl⟩
            have G : zS T A s.heap s [[(h, .inr (1, [.ref po, .ref a1_2, .int v0, .ref la, .int v1, .int v2, .int v3, .int v4, .int v5, .int v6, .int v7])), (a1_2, .inl (T.2 0, 7, .inl fw))], [(po, .inr (6, [.ref la, .ref a1_19, .ref a2_20, .int st, .int wh, .ref a3_21])), (a1_19, .inl (T.2 0, 7, .inl f1)), (a2_20, .inl (T.2 0, 7, .inl f2)), (a3_21, .inl (T.2 0, 7, .inl f3))], z] _ _ := G.re rfl
            exact z_iret C hr hlocks G (Nat.le_of_ble_eq_true rfl) (Nat.le_of_ble_eq_true rfl) dX1_told_130 ⟨rfl, (by exfalso; omega)⟩
      · have h_8 : ((x - x / 10 * 10).toInt < 0 ∨ cr.toInt ≤ (x - x / 10 * 10).toInt ∨ 7 ≤ (x - x / 10 * 10).toInt) := h_8
        refine lv_if_ne (tgt := 73) hx hb dX1_told_67 (by decide) (fun q => absurd (by decide) q) (fun _ => ?_)
        refine lv_bipush (v := (-2)) hx hb dX1_told_70 (by decide) ?_
        have hw_25 : bCourse T h po la fw v0 v1 v2 v3 v4 v5 v6 v7 [(h, .inr (1, [.ref po, .ref a1_2, .int v0, .ref la, .int v1, .int v2, .int v3, .int v4, .int v5, .int v6, .int v7])), (a1_2, .inl (T.2 0, 7, .inl fw))] := ⟨a1_2, rfl⟩
        have G : zS T A s.heap s [[(h, .inr (1, [.ref po, .ref a1_2, .int v0, .ref la, .int v1, .int v2, .int v3, .int v4, .int v5, .int v6, .int v7])), (a1_2, .inl (T.2 0, 7, .inl fw))], wp, z] _ _ := G.re rfl
        exact z_iret C hr hlocks G (Nat.le_of_ble_eq_true rfl) (Nat.le_of_ble_eq_true rfl) dX1_told_72 ⟨rfl, (zNow_n (by omega) (by omega))⟩
    · have hdx := zDv hxs
      have hrx := zRm hxs
      refine lv_iload_n hx hb dX1_told_54 rfl (lv_at hl 1 rfl) ?_
      refine lv_bipush (v := 10) hx hb dX1_told_55 (by decide) ?_
      refine lv_irem hx hb dX1_told_57 (by decide) ?_
      refine lv_istore_n (lv' := [(2, .int (x - x / 10 * 10)), (0, .ref h), (1, .int x)]) hx hb dX1_told_58 rfl hl (by decide) rfl (fun ls hl => ?_)
      refine lv_aload_n hx hb dX1_told_59 rfl (lv_at hl 1 rfl) ?_
      refine hc.elim fun a1_26 hbs9 => ?_
      clear hc
      subst hbs9
      have G : zS T A s.heap s [[(h, .inr (1, [.ref po, .ref a1_26, .int v0, .ref la, .int v1, .int v2, .int v3, .int v4, .int v5, .int v6, .int v7]))], [(a1_26, .inl (T.2 0, 7, .inl fw))], wp, z] _ _ := G.re rfl
      refine z_get C G clX1 0 rfl 3 (by decide) m_fl_RX1_25 rfl dX1_told_60 ?_
      refine lv_iload_n hx hb dX1_told_63 rfl (lv_at hl 0 rfl) ?_
      refine z_Vi (bc := [z]) (br := [[(h, .inr (1, [.ref po, .ref a1_26, .int v0, .ref la, .int v1, .int v2, .int v3, .int v4, .int v5, .int v6, .int v7]))], [(a1_26, .inl (T.2 0, 7, .inl fw))], wp]) (As := [.int (x - x / 10 * 10)]) (rest := []) C G (c_has l T la cr inn k1 k2 k3 k4 z (x - x / 10 * 10) hz) (kV_RX1_112 C.2.2.2.2 (Nat.le_of_ble_eq_true rfl) (Nat.le_of_ble_eq_true rfl)) [3] [0, 1, 2] rfl rfl (ci := 4) (qc := (RX4, TX4, 6)) rfl rfl (List.mem_flatten.mpr ⟨_, List.mem_of_getElem? (i := 0) rfl, (bLand_mem hz).choose_spec⟩) rfl rfl hl.1 dX1_told_64 (Nat.le_of_ble_eq_true rfl) (Nat.le_of_ble_eq_true rfl) (fun r_28 b1 H locs hw G => ?_)
      refine hw.elim fun hbs9 hc_27 => ?_
      clear hw
      subst hbs9
      have G : zS T A s.heap s [[(h, .inr (1, [.ref po, .ref a1_26, .int v0, .ref la, .int v1, .int v2, .int v3, .int v4, .int v5, .int v6, .int v7]))], [(a1_26, .inl (T.2 0, 7, .inl fw))], wp, z] _ _ := G
      rcases hc_27 with ⟨rfl, h_29, h_30, h_31⟩ | ⟨rfl, h_32⟩
      · have h_29 : 0 ≤ (x - x / 10 * 10).toInt := h_29
        have h_30 : (x - x / 10 * 10).toInt < cr.toInt := h_30
        have h_31 : (x - x / 10 * 10).toInt < 7 := h_31
        refine lv_if_ne (tgt := 73) hx hb dX1_told_67 (by decide) (fun _ => ?_) (fun q => absurd q (by decide))
        refine lv_iload_n hx hb dX1_told_73 rfl (lv_at hl 2 rfl) ?_
        refine lv_bipush (v := 10) hx hb dX1_told_74 (by decide) ?_
        refine lv_idiv hx hb dX1_told_76 (by decide) ?_
        by_cases c_33o : (x / 10).toInt < 1 ∨ 3 < (x / 10).toInt
        · refine lv_tableOut (tgt := 131) hx hb dX1_told_77 c_33o (by decide) ?_
          refine lv_bipush (v := (-2)) hx hb dX1_told_131 (by decide) ?_
          have hw_34 : bCourse T h po la fw v0 v1 v2 v3 v4 v5 v6 v7 [(h, .inr (1, [.ref po, .ref a1_26, .int v0, .ref la, .int v1, .int v2, .int v3, .int v4, .int v5, .int v6, .int v7])), (a1_26, .inl (T.2 0, 7, .inl fw))] := ⟨a1_26, rfl⟩
          have G : zS T A s.heap s [[(h, .inr (1, [.ref po, .ref a1_26, .int v0, .ref la, .int v1, .int v2, .int v3, .int v4, .int v5, .int v6, .int v7])), (a1_26, .inl (T.2 0, 7, .inl fw))], wp, z] _ _ := G.re rfl
          exact z_iret C hr hlocks G (Nat.le_of_ble_eq_true rfl) (Nat.le_of_ble_eq_true rfl) dX1_told_133 ⟨rfl, (zNow_n (by omega) (by omega))⟩
        · have c_33r : (x / 10).toInt = 1 ∨ (x / 10).toInt = 2 ∨ (x / 10).toInt = 3 := by omega
          rcases c_33r with c_33 | c_33 | c_33
          · refine lv_tableIn (tgt := 104) hx hb dX1_told_77 (by omega) (by omega) (by rw [c_33]; rfl) (by decide) ?_
            refine lv_aload_n hx hb dX1_told_104 rfl (lv_at hl 1 rfl) ?_
            refine z_get C G clX1 0 rfl 0 (by decide) m_fl_RX1_12 rfl dX1_told_105 ?_
            refine hp.elim fun a1_35 w90 => w90.elim fun a2_36 w91 => w91.elim fun a3_37 hbs9 => ?_
            clear hp w90 w91
            subst hbs9
            have G : zS T A s.heap s [[(h, .inr (1, [.ref po, .ref a1_26, .int v0, .ref la, .int v1, .int v2, .int v3, .int v4, .int v5, .int v6, .int v7]))], [(a1_26, .inl (T.2 0, 7, .inl fw))], [(po, .inr (6, [.ref la, .ref a1_35, .ref a2_36, .int st, .int wh, .ref a3_37]))], [(a1_35, .inl (T.2 0, 7, .inl f1))], [(a2_36, .inl (T.2 0, 7, .inl f2))], [(a3_37, .inl (T.2 0, 7, .inl f3))], z] _ _ := G.re rfl
            refine z_get C G clX6 2 rfl 1 (by decide) m_fl_RX1_154 rfl dX1_told_108 ?_
            refine lv_iload_n hx hb dX1_told_111 rfl (lv_at hl 0 rfl) ?_
            refine z_ild C G 3 rfl (vp_in_iff.mpr ⟨by omega, by omega⟩) dX1_told_112 ?_
            refine lv_topi (fun v_38 ev_38 => ?_)
            subst ev_38
            have hw_39 : bCourse T h po la fw v0 v1 v2 v3 v4 v5 v6 v7 [(h, .inr (1, [.ref po, .ref a1_26, .int v0, .ref la, .int v1, .int v2, .int v3, .int v4, .int v5, .int v6, .int v7])), (a1_26, .inl (T.2 0, 7, .inl fw))] := ⟨a1_26, rfl⟩
            have G : zS T A s.heap s [[(h, .inr (1, [.ref po, .ref a1_26, .int v0, .ref la, .int v1, .int v2, .int v3, .int v4, .int v5, .int v6, .int v7])), (a1_26, .inl (T.2 0, 7, .inl fw))], [(po, .inr (6, [.ref la, .ref a1_35, .ref a2_36, .int st, .int wh, .ref a3_37]))], [(a1_35, .inl (T.2 0, 7, .inl f1))], [(a2_36, .inl (T.2 0, 7, .inl f2))], [(a3_37, .inl (T.2 0, 7, .inl f3))], z] _ _ := G.re rfl
            have hw_40 : bPosts T po la f1 f2 f3 st wh [(po, .inr (6, [.ref la, .ref a1_35, .ref a2_36, .int st, .int wh, .ref a3_37])), (a1_35, .inl (T.2 0, 7, .inl f1)), (a2_36, .inl (T.2 0, 7, .inl f2)), (a3_37, .inl (T.2 0, 7, .inl f3))] := ⟨a1_35, a2_36, a3_37, rfl⟩
            have G : zS T A s.heap s [[(h, .inr (1, [.ref po, .ref a1_26, .int v0, .ref la, .int v1, .int v2, .int v3, .int v4, .int v5, .int v6, .int v7])), (a1_26, .inl (T.2 0, 7, .inl fw))], [(po, .inr (6, [.ref la, .ref a1_35, .ref a2_36, .int st, .int wh, .ref a3_37])), (a1_35, .inl (T.2 0, 7, .inl f1)), (a2_36, .inl (T.2 0, 7, .inl f2)), (a3_37, .inl (T.2 0, 7, .inl f3))], z] _ _ := G.re rfl
            exact z_iret C hr hlocks G (Nat.le_of_ble_eq_true rfl) (Nat.le_of_ble_eq_true rfl) dX1_told_113 ⟨rfl, (zNow_p (by omega) (by have q8 := z_clI (x := x - x / 10 * 10) (by omega); omega))⟩
          · refine lv_tableIn (tgt := 114) hx hb dX1_told_77 (by omega) (by omega) (by rw [c_33]; rfl) (by decide) ?_
            refine lv_aload_n hx hb dX1_told_114 rfl (lv_at hl 1 rfl) ?_
            refine z_get C G clX1 0 rfl 1 (by decide) m_fl_RX1_18 rfl dX1_told_115 ?_
            refine lv_iload_n hx hb dX1_told_118 rfl (lv_at hl 0 rfl) ?_
            refine z_ild C G 1 rfl (vp_in_iff.mpr ⟨by omega, by omega⟩) dX1_told_119 ?_
            refine lv_topi (fun v_41 ev_41 => ?_)
            subst ev_41
            have hw_42 : bCourse T h po la fw v0 v1 v2 v3 v4 v5 v6 v7 [(h, .inr (1, [.ref po, .ref a1_26, .int v0, .ref la, .int v1, .int v2, .int v3, .int v4, .int v5, .int v6, .int v7])), (a1_26, .inl (T.2 0, 7, .inl fw))] := ⟨a1_26, rfl⟩
            have G : zS T A s.heap s [[(h, .inr (1, [.ref po, .ref a1_26, .int v0, .ref la, .int v1, .int v2, .int v3, .int v4, .int v5, .int v6, .int v7])), (a1_26, .inl (T.2 0, 7, .inl fw))], wp, z] _ _ := G.re rfl
            exact z_iret C hr hlocks G (Nat.le_of_ble_eq_true rfl) (Nat.le_of_ble_eq_true rfl) dX1_told_120 ⟨rfl, (zNow_h (by omega) (by have q8 := z_clI (x := x - x / 10 * 10) (by omega); omega))⟩
          · refine lv_tableIn (tgt := 121) hx hb dX1_told_77 (by omega) (by omega) (by rw [c_33]; rfl) (by decide) ?_
            refine lv_aload_n hx hb dX1_told_121 rfl (lv_at hl 1 rfl) ?_
            refine z_get C G clX1 0 rfl 0 (by decide) m_fl_RX1_12 rfl dX1_told_122 ?_
            refine hp.elim fun a1_43 w90 => w90.elim fun a2_44 w91 => w91.elim fun a3_45 hbs9 => ?_
            clear hp w90 w91
            subst hbs9
            have G : zS T A s.heap s [[(h, .inr (1, [.ref po, .ref a1_26, .int v0, .ref la, .int v1, .int v2, .int v3, .int v4, .int v5, .int v6, .int v7]))], [(a1_26, .inl (T.2 0, 7, .inl fw))], [(po, .inr (6, [.ref la, .ref a1_43, .ref a2_44, .int st, .int wh, .ref a3_45]))], [(a1_43, .inl (T.2 0, 7, .inl f1))], [(a2_44, .inl (T.2 0, 7, .inl f2))], [(a3_45, .inl (T.2 0, 7, .inl f3))], z] _ _ := G.re rfl
            refine z_get C G clX6 2 rfl 2 (by decide) m_fl_RX1_157 rfl dX1_told_125 ?_
            refine lv_iload_n hx hb dX1_told_128 rfl (lv_at hl 0 rfl) ?_
            refine z_ild C G 4 rfl (vp_in_iff.mpr ⟨by omega, by omega⟩) dX1_told_129 ?_
            refine lv_topi (fun v_46 ev_46 => ?_)
            subst ev_46
            have hw_47 : bCourse T h po la fw v0 v1 v2 v3 v4 v5 v6 v7 [(h, .inr (1, [.ref po, .ref a1_26, .int v0, .ref la, .int v1, .int v2, .int v3, .int v4, .int v5, .int v6, .int v7])), (a1_26, .inl (T.2 0, 7, .inl fw))] := ⟨a1_26, rfl⟩
            have G : zS T A s.heap s [[(h, .inr (1, [.ref po, .ref a1_26, .int v0, .ref la, .int v1, .int v2, .int v3, .int v4, .int v5, .int v6, .int v7])), (a1_26, .inl (T.2 0, 7, .inl fw))], [(po, .inr (6, [.ref la, .ref a1_43, .ref a2_44, .int st, .int wh, .ref a3_45]))], [(a1_43, .inl (T.2 0, 7, .inl f1))], [(a2_44, .inl (T.2 0, 7, .inl f2))], [(a3_45, .inl (T.2 0, 7, .inl f3))], z] _ _ := G.re rfl
            have hw_48 : bPosts T po la f1 f2 f3 st wh [(po, .inr (6, [.ref la, .ref a1_43, .ref a2_44, .int st, .int wh, .ref a3_45])), (a1_43, .inl (T.2 0, 7, .inl f1)), (a2_44, .inl (T.2 0, 7, .inl f2)), (a3_45, .inl (T.2 0, 7, .inl f3))] := ⟨a1_43, a2_44, a3_45, rfl⟩
            have G : zS T A s.heap s [[(h, .inr (1, [.ref po, .ref a1_26, .int v0, .ref la, .int v1, .int v2, .int v3, .int v4, .int v5, .int v6, .int v7])), (a1_26, .inl (T.2 0, 7, .inl fw))], [(po, .inr (6, [.ref la, .ref a1_43, .ref a2_44, .int st, .int wh, .ref a3_45])), (a1_43, .inl (T.2 0, 7, .inl f1)), (a2_44, .inl (T.2 0, 7, .inl f2)), (a3_45, .inl (T.2 0, 7, .inl f3))], z] _ _ := G.re rfl
            exact z_iret C hr hlocks G (Nat.le_of_ble_eq_true rfl) (Nat.le_of_ble_eq_true rfl) dX1_told_130 ⟨rfl, (zNow_s (by omega) (by have q8 := z_clI (x := x - x / 10 * 10) (by omega); omega))⟩
      · have h_32 : ((x - x / 10 * 10).toInt < 0 ∨ cr.toInt ≤ (x - x / 10 * 10).toInt ∨ 7 ≤ (x - x / 10 * 10).toInt) := h_32
        refine lv_if_ne (tgt := 73) hx hb dX1_told_67 (by decide) (fun q => absurd (by decide) q) (fun _ => ?_)
        refine lv_bipush (v := (-2)) hx hb dX1_told_70 (by decide) ?_
        have hw_49 : bCourse T h po la fw v0 v1 v2 v3 v4 v5 v6 v7 [(h, .inr (1, [.ref po, .ref a1_26, .int v0, .ref la, .int v1, .int v2, .int v3, .int v4, .int v5, .int v6, .int v7])), (a1_26, .inl (T.2 0, 7, .inl fw))] := ⟨a1_26, rfl⟩
        have G : zS T A s.heap s [[(h, .inr (1, [.ref po, .ref a1_26, .int v0, .ref la, .int v1, .int v2, .int v3, .int v4, .int v5, .int v6, .int v7])), (a1_26, .inl (T.2 0, 7, .inl fw))], wp, z] _ _ := G.re rfl
        exact z_iret C hr hlocks G (Nat.le_of_ble_eq_true rfl) (Nat.le_of_ble_eq_true rfl) dX1_told_72 ⟨rfl, (zNow_n (by omega) (by omega))⟩
  · have c_1r : x.toInt = 0 ∨ x.toInt = 1 ∨ x.toInt = 2 ∨ x.toInt = 3 := by omega
    rcases c_1r with c_1 | c_1 | c_1 | c_1
    · refine lv_tableIn (tgt := 32) hx hb dX1_told_1 (by omega) (by omega) (by rw [c_1]; rfl) (by decide) ?_
      refine lv_aload_n hx hb dX1_told_32 rfl (lv_at hl 0 rfl) ?_
      refine hc.elim fun a1_50 hbs9 => ?_
      clear hc
      subst hbs9
      have G : zS T A s.heap s [[(h, .inr (1, [.ref po, .ref a1_50, .int v0, .ref la, .int v1, .int v2, .int v3, .int v4, .int v5, .int v6, .int v7]))], [(a1_50, .inl (T.2 0, 7, .inl fw))], wp, z] _ _ := G.re rfl
      refine z_get C G clX1 0 rfl 2 (by decide) m_fl_RX1_34 rfl dX1_told_33 ?_
      have hw_51 : bCourse T h po la fw v0 v1 v2 v3 v4 v5 v6 v7 [(h, .inr (1, [.ref po, .ref a1_50, .int v0, .ref la, .int v1, .int v2, .int v3, .int v4, .int v5, .int v6, .int v7])), (a1_50, .inl (T.2 0, 7, .inl fw))] := ⟨a1_50, rfl⟩
      have G : zS T A s.heap s [[(h, .inr (1, [.ref po, .ref a1_50, .int v0, .ref la, .int v1, .int v2, .int v3, .int v4, .int v5, .int v6, .int v7])), (a1_50, .inl (T.2 0, 7, .inl fw))], wp, z] _ _ := G.re rfl
      exact z_iret C hr hlocks G (Nat.le_of_ble_eq_true rfl) (Nat.le_of_ble_eq_true rfl) dX1_told_36 ⟨rfl, (zNow_0 (by omega))⟩
    · refine lv_tableIn (tgt := 37) hx hb dX1_told_1 (by omega) (by omega) (by rw [c_1]; rfl) (by decide) ?_
      refine lv_aload_n hx hb dX1_told_37 rfl (lv_at hl 0 rfl) ?_
      refine lv_iconst (v := 1) hx hb dX1_told_38 (by decide) ?_
      refine z_Vi (bc := [wc, z]) (br := [wp]) (As := [.int 1]) (rest := []) C G (c_f_walkersInAll l T h po la fw v0 v1 v2 v3 v4 v5 v6 v7 wc cr inn k1 k2 k3 k4 z 1 hc hz (by first | with_reducible assumption | with_reducible rfl | omega | assumption | rfl)) (kV_RX1_150 C.2.2.2.2 (Nat.le_of_ble_eq_true rfl) (Nat.le_of_ble_eq_true rfl)) [0, 2] [1] rfl rfl (ci := 1) (qc := (RX1, TX1, 11)) rfl rfl (List.mem_flatten.mpr ⟨_, List.mem_of_getElem? (i := 0) rfl, (bCourse_mem hc).choose_spec⟩) rfl rfl hl.1 dX1_told_39 (Nat.le_of_ble_eq_true rfl) (Nat.le_of_ble_eq_true rfl) (fun r_53 b1 H locs hw G => ?_)
      refine hw.elim fun hbs9 h_52 => ?_
      clear hw
      subst hbs9
      have G : zS T A s.heap s [wp, wc, z] _ _ := G
      subst h_52
      have G := G.sub (bs' := [wc, wp, z]) [1, 0, 2] rfl
      exact z_iret C hr hlocks G (Nat.le_of_ble_eq_true rfl) (Nat.le_of_ble_eq_true rfl) dX1_told_42 ⟨rfl, (zNow_1 (by omega))⟩
    · refine lv_tableIn (tgt := 43) hx hb dX1_told_1 (by omega) (by omega) (by rw [c_1]; rfl) (by decide) ?_
      refine lv_aload_n hx hb dX1_told_43 rfl (lv_at hl 0 rfl) ?_
      refine lv_iconst (v := 0) hx hb dX1_told_44 (by decide) ?_
      refine z_Vi (bc := [wc, z]) (br := [wp]) (As := [.int 0]) (rest := []) C G (c_f_walkersInAll l T h po la fw v0 v1 v2 v3 v4 v5 v6 v7 wc cr inn k1 k2 k3 k4 z 0 hc hz (by first | with_reducible assumption | with_reducible rfl | omega | assumption | rfl)) (kV_RX1_150 C.2.2.2.2 (Nat.le_of_ble_eq_true rfl) (Nat.le_of_ble_eq_true rfl)) [0, 2] [1] rfl rfl (ci := 1) (qc := (RX1, TX1, 11)) rfl rfl (List.mem_flatten.mpr ⟨_, List.mem_of_getElem? (i := 0) rfl, (bCourse_mem hc).choose_spec⟩) rfl rfl hl.1 dX1_told_45 (Nat.le_of_ble_eq_true rfl) (Nat.le_of_ble_eq_true rfl) (fun r_55 b1 H locs hw G => ?_)
      refine hw.elim fun hbs9 h_54 => ?_
      clear hw
      subst hbs9
      have G : zS T A s.heap s [wp, wc, z] _ _ := G
      subst h_54
      have G := G.sub (bs' := [wc, wp, z]) [1, 0, 2] rfl
      exact z_iret C hr hlocks G (Nat.le_of_ble_eq_true rfl) (Nat.le_of_ble_eq_true rfl) dX1_told_48 ⟨rfl, (zNow_2 (by omega))⟩
    · refine lv_tableIn (tgt := 49) hx hb dX1_told_1 (by omega) (by omega) (by rw [c_1]; rfl) (by decide) ?_
      refine lv_aload_n hx hb dX1_told_49 rfl (lv_at hl 0 rfl) ?_
      refine hc.elim fun a1_56 hbs9 => ?_
      clear hc
      subst hbs9
      have G : zS T A s.heap s [[(h, .inr (1, [.ref po, .ref a1_56, .int v0, .ref la, .int v1, .int v2, .int v3, .int v4, .int v5, .int v6, .int v7]))], [(a1_56, .inl (T.2 0, 7, .inl fw))], wp, z] _ _ := G.re rfl
      refine z_get C G clX1 0 rfl 4 (by decide) m_fl_RX1_38 rfl dX1_told_50 ?_
      have hw_57 : bCourse T h po la fw v0 v1 v2 v3 v4 v5 v6 v7 [(h, .inr (1, [.ref po, .ref a1_56, .int v0, .ref la, .int v1, .int v2, .int v3, .int v4, .int v5, .int v6, .int v7])), (a1_56, .inl (T.2 0, 7, .inl fw))] := ⟨a1_56, rfl⟩
      have G : zS T A s.heap s [[(h, .inr (1, [.ref po, .ref a1_56, .int v0, .ref la, .int v1, .int v2, .int v3, .int v4, .int v5, .int v6, .int v7])), (a1_56, .inl (T.2 0, 7, .inl fw))], wp, z] _ _ := G.re rfl
      exact z_iret C hr hlocks G (Nat.le_of_ble_eq_true rfl) (Nat.le_of_ble_eq_true rfl) dX1_told_53 ⟨rfl, (zNow_3 (by omega))⟩
set_option maxHeartbeats 4000000 in
set_option maxRecDepth 100000 in
/-- c_fm_walkersOf -/
theorem c_fm_walkersOf (l : Launch) (T : zTy) (mo : Nat) (m_all : Nat) (m_has : Nat) (i_size : Int32) (i_next : Int32) (i_where : Int32) (i_token : Int32) (i_number : Int32) (i_word : Int32) (i_wrong : Int32) (i_farCrossing : Int32) (m_read : Nat) (i_z0 : Int32) (i_crossings : Int32) (i_inns : Int32) (m_posts : Nat) (m_shut : Nat) (m_here : Nat) (i_steps : Int32) (i_done : Int32) (i_at : Int32) (i_gone : Int32) (m_was : Nat) (m_came : Nat) (m_seenAt : Nat) (m_rowWorth : Nat) (m_farBy : Nat) (m_used : Nat) (i_everywhere : Int32) (i_again0 : Int32) (i_d0 : Int32) (i_never : Int32) (i_firstCame : Int32) (i_longRun : Int32) (i_moved : Int32) (i_crowd : Int32) (i_l0 : Int32) (i_fitMany : Int32) (i_fitLeast : Int32) (i_fitMost : Int32) (m_fitPost : Nat) (m_fitEnd : Nat) (m_keptPosts : Nat) (i_x0 : Int32) (f_here : Nat → Int32) (w_ : Int32) (hcr : 0 ≤ i_crossings.toInt ∧ i_crossings.toInt ≤ 7) : zMi l T yX12_walkersOf cX12_walkersOf 4 (some .int) 2 0 0 [.ref mo, .int w_] [[(mo, .inr (11, [.ref m_all, .ref m_has, .int i_size, .int i_next, .int i_where, .int i_token, .int i_number, .int i_word, .int i_wrong, .int i_farCrossing, .ref m_read, .int i_z0, .int i_crossings, .int i_inns, .ref m_posts, .ref m_shut, .ref m_here, .int i_steps, .int i_done, .int i_at, .int i_gone, .ref m_was, .ref m_came, .ref m_seenAt, .ref m_rowWorth, .ref m_farBy, .ref m_used, .int i_everywhere, .int i_again0, .int i_d0, .int i_never, .int i_firstCame, .int i_longRun, .int i_moved, .int i_crowd, .int i_l0, .int i_fitMany, .int i_fitLeast, .int i_fitMost, .ref m_fitPost, .ref m_fitEnd, .ref m_keptPosts, .int i_x0]))], [(m_here, .inl (T.2 0, 7, .inl f_here))]] (fun (r : Int32) bs => bs = [[(mo, .inr (11, [.ref m_all, .ref m_has, .int i_size, .int i_next, .int i_where, .int i_token, .int i_number, .int i_word, .int i_wrong, .int i_farCrossing, .ref m_read, .int i_z0, .int i_crossings, .int i_inns, .ref m_posts, .ref m_shut, .ref m_here, .int i_steps, .int i_done, .int i_at, .int i_gone, .ref m_was, .ref m_came, .ref m_seenAt, .ref m_rowWorth, .ref m_farBy, .ref m_used, .int i_everywhere, .int i_again0, .int i_d0, .int i_never, .int i_firstCame, .int i_longRun, .int i_moved, .int i_crowd, .int i_l0, .int i_fitMany, .int i_fitLeast, .int i_fitMost, .ref m_fitPost, .ref m_fitEnd, .ref m_keptPosts, .int i_x0]))], [(m_here, .inl (T.2 0, 7, .inl f_here))]] ∧ r = zSumW i_inns w_ f_here i_crossings.toInt.toNat) := by
  refine zMi_of (own := RX12) (by decide) rfl (Nat.le_of_ble_eq_true rfl) ?_
  intro p e s m args below meth c A ls C hr hlocks hnm hAe G hl
  have hx := C.1
  have hb := C.2.1
  have hl : lv_has ls 4 [(0, .ref mo), (1, .int w_)] := hl
  refine lv_iconst (v := 0) hx hb dX12_walkersOf_0 (by decide) ?_
  refine lv_istore_n (lv' := [(2, .int 0), (0, .ref mo), (1, .int w_)]) hx hb dX12_walkersOf_1 rfl hl (by decide) rfl (fun ls hl => ?_)
  refine lv_iconst (v := 0) hx hb dX12_walkersOf_2 (by decide) ?_
  refine lv_istore_n (lv' := [(3, .int 0), (2, .int 0), (0, .ref mo), (1, .int w_)]) hx hb dX12_walkersOf_3 rfl hl (by decide) rfl (fun ls hl => ?_)
  refine z_lp2 (T := T) 4 (fun (i : Nat) (u : Int32) => [[(mo, .inr (11, [.ref m_all, .ref m_has, .int i_size, .int i_next, .int i_where, .int i_token, .int i_number, .int i_word, .int i_wrong, .int i_farCrossing, .ref m_read, .int i_z0, .int i_crossings, .int i_inns, .ref m_posts, .ref m_shut, .ref m_here, .int i_steps, .int i_done, .int i_at, .int i_gone, .ref m_was, .ref m_came, .ref m_seenAt, .ref m_rowWorth, .ref m_farBy, .ref m_used, .int i_everywhere, .int i_again0, .int i_d0, .int i_never, .int i_firstCame, .int i_longRun, .int i_moved, .int i_crowd, .int i_l0, .int i_fitMany, .int i_fitLeast, .int i_fitMost, .ref m_fitPost, .ref m_fitEnd, .ref m_keptPosts, .int i_x0]))], [(m_here, .inl (T.2 0, 7, .inl f_here))]]) (fun (i : Nat) (u : Int32) => [(3, .int (nI i)), (2, .int u), (0, .ref mo), (1, .int w_)]) (fun (i : Nat) (u : Int32) => i ≤ 7 ∧ (i : Int) ≤ i_crossings.toInt ∧ u = zSumW i_inns w_ f_here i) (fun (i : Nat) (u : Int32) => 7 - i) ?_ 0 0 (show 0 ≤ 7 ∧ (0 : Int) ≤ i_crossings.toInt ∧ 0 = zSumW i_inns w_ f_here 0 from ⟨by omega, by omega, rfl⟩) G (lv_sub hl [0, 1, 2, 3] rfl)
  intro i u hI9 ih_4 H locs ls G hl
  replace hI9 : i ≤ 7 ∧ (i : Int) ≤ i_crossings.toInt ∧ u = zSumW i_inns w_ f_here i := hI9
  refine hI9.elim fun hi w90 => w90.elim fun hic hU => ?_
  clear hI9 w90
  replace G : zS T A s.heap s [[(mo, .inr (11, [.ref m_all, .ref m_has, .int i_size, .int i_next, .int i_where, .int i_token, .int i_number, .int i_word, .int i_wrong, .int i_farCrossing, .ref m_read, .int i_z0, .int i_crossings, .int i_inns, .ref m_posts, .ref m_shut, .ref m_here, .int i_steps, .int i_done, .int i_at, .int i_gone, .ref m_was, .ref m_came, .ref m_seenAt, .ref m_rowWorth, .ref m_farBy, .ref m_used, .int i_everywhere, .int i_again0, .int i_d0, .int i_never, .int i_firstCame, .int i_longRun, .int i_moved, .int i_crowd, .int i_l0, .int i_fitMany, .int i_fitLeast, .int i_fitMost, .ref m_fitPost, .ref m_fitEnd, .ref m_keptPosts, .int i_x0]))], [(m_here, .inl (T.2 0, 7, .inl f_here))]] _ _ := G
  replace hl : lv_has ls 4 [(3, .int (nI i)), (2, .int u), (0, .ref mo), (1, .int w_)] := hl
  refine lv_iload_n hx hb dX12_walkersOf_4 rfl (lv_at hl 0 rfl) ?_
  refine lv_aload_n hx hb dX12_walkersOf_5 rfl (lv_at hl 2 rfl) ?_
  refine z_get C G clX12 0 rfl 12 (by decide) m_fl_RX12_169 rfl dX12_walkersOf_6 ?_
  refine lv_icmp_ge (tgt := 43) hx hb dX12_walkersOf_9 (by decide) (fun c_1 => ?_) (fun c_1 => ?_)
  · have c_1n : i_crossings.toInt ≤ (i : Int) := by have q := (fa_le _ _).mp c_1; rw [nI_toInt (n := i) (by omega)] at q; exact q
    refine lv_iload_n hx hb dX12_walkersOf_43 rfl (lv_at hl 1 rfl) ?_
    exact z_iret C hr hlocks G (Nat.le_of_ble_eq_true rfl) (Nat.le_of_ble_eq_true rfl) dX12_walkersOf_44 ⟨rfl, (by rw [hU, show i = i_crossings.toInt.toNat by omega])⟩
  · have c_1n : ¬ i_crossings.toInt ≤ (i : Int) := fun q => c_1 ((fa_le _ _).mpr (by rw [nI_toInt (n := i) (by omega)]; exact q))
    refine lv_iload_n hx hb dX12_walkersOf_12 rfl (lv_at hl 1 rfl) ?_
    refine lv_iload_n hx hb dX12_walkersOf_13 rfl (lv_at hl 3 rfl) ?_
    refine lv_if_eq (tgt := 25) hx hb dX12_walkersOf_14 (by decide) (fun c_2 => ?_) (fun c_2 => ?_)
    · have c_2n : w_.toInt = (0 : Int) := (fa_eq _ _).mp c_2
      refine lv_aload_n hx hb dX12_walkersOf_25 rfl (lv_at hl 2 rfl) ?_
      refine z_get C G clX12 0 rfl 16 (by decide) m_fl_RX12_26 rfl dX12_walkersOf_26 ?_
      refine lv_iload_n hx hb dX12_walkersOf_29 rfl (lv_at hl 0 rfl) ?_
      refine z_ild C G 1 rfl (vp_in_nI (by omega) (by omega)) dX12_walkersOf_30 ?_
      refine lv_topi (fun v_3 ev_3 => ?_)
      rw [nI_clamp (by omega)] at ev_3
      subst ev_3
      refine lv_goto (tgt := 35) hx hb dX12_walkersOf_31 (by decide) ?_
      refine lv_iadd hx hb dX12_walkersOf_35 ?_
      refine lv_istore_n (lv' := [(2, .int (u + (f_here i))), (3, .int (nI i)), (0, .ref mo), (1, .int w_)]) hx hb dX12_walkersOf_36 rfl hl (by decide) rfl (fun ls hl => ?_)
      refine lv_iinc (v := nI (i + 1)) (lv' := [(3, .int (nI (i + 1))), (2, .int (u + (f_here i))), (0, .ref mo), (1, .int w_)]) hx hb dX12_walkersOf_37 hl (k := 1) rfl (z_inc i 1) (by decide) rfl (fun ls hl => ?_)
      refine lv_goto (tgt := 4) hx hb dX12_walkersOf_40 (by decide) ?_
      exact ih_4 (i + 1) (u + (f_here i)) (show (i + 1) ≤ 7 ∧ ((i + 1) : Int) ≤ i_crossings.toInt ∧ (u + (f_here i)) = zSumW i_inns w_ f_here (i + 1) from ⟨by omega, by omega, (zSumW_y hU (by first | exact Or.inl (by assumption) | exact Or.inr (by assumption)))⟩) (show 7 - (i + 1) < 7 - i from by omega) _ _ ls G (lv_sub hl [0, 1, 2, 3] rfl)
    · have c_2n : ¬ w_.toInt = (0 : Int) := fun q => c_2 ((fa_eq _ _).mpr q)
      refine lv_aload_n hx hb dX12_walkersOf_17 rfl (lv_at hl 2 rfl) ?_
      refine lv_iload_n hx hb dX12_walkersOf_18 rfl (lv_at hl 0 rfl) ?_
      refine z_Vi (bc := [[(mo, .inr (11, [.ref m_all, .ref m_has, .int i_size, .int i_next, .int i_where, .int i_token, .int i_number, .int i_word, .int i_wrong, .int i_farCrossing, .ref m_read, .int i_z0, .int i_crossings, .int i_inns, .ref m_posts, .ref m_shut, .ref m_here, .int i_steps, .int i_done, .int i_at, .int i_gone, .ref m_was, .ref m_came, .ref m_seenAt, .ref m_rowWorth, .ref m_farBy, .ref m_used, .int i_everywhere, .int i_again0, .int i_d0, .int i_never, .int i_firstCame, .int i_longRun, .int i_moved, .int i_crowd, .int i_l0, .int i_fitMany, .int i_fitLeast, .int i_fitMost, .ref m_fitPost, .ref m_fitEnd, .ref m_keptPosts, .int i_x0]))]]) (br := [[(m_here, .inl (T.2 0, 7, .inl f_here))]]) (As := [.int (nI i)]) (rest := [.int u]) C G (c_m_isInn l T mo m_all m_has i_size i_next i_where i_token i_number i_word i_wrong i_farCrossing m_read i_z0 i_crossings i_inns m_posts m_shut m_here i_steps i_done i_at i_gone m_was m_came m_seenAt m_rowWorth m_farBy m_used i_everywhere i_again0 i_d0 i_never i_firstCame i_longRun i_moved i_crowd i_l0 i_fitMany i_fitLeast i_fitMost m_fitPost m_fitEnd m_keptPosts i_x0 (nI i)) (kV_RX12_178 C.2.2.2.2 (Nat.le_of_ble_eq_true rfl) (Nat.le_of_ble_eq_true rfl)) [0] [1] rfl rfl (ci := 11) (qc := (RX12, TX12, 43)) rfl rfl (List.mem_flatten.mpr ⟨_, List.mem_of_getElem? (i := 0) rfl, List.mem_cons_self⟩) rfl rfl hl.1 dX12_walkersOf_19 (Nat.le_of_ble_eq_true rfl) (Nat.le_of_ble_eq_true rfl) (fun r_5 b1 H locs hw G => ?_)
      refine hw.elim fun hbs9 hc_4 => ?_
      clear hw
      subst hbs9
      have G : zS T A s.heap s [[(m_here, .inl (T.2 0, 7, .inl f_here))], [(mo, .inr (11, [.ref m_all, .ref m_has, .int i_size, .int i_next, .int i_where, .int i_token, .int i_number, .int i_word, .int i_wrong, .int i_farCrossing, .ref m_read, .int i_z0, .int i_crossings, .int i_inns, .ref m_posts, .ref m_shut, .ref m_here, .int i_steps, .int i_done, .int i_at, .int i_gone, .ref m_was, .ref m_came, .ref m_seenAt, .ref m_rowWorth, .ref m_farBy, .ref m_used, .int i_everywhere, .int i_again0, .int i_d0, .int i_never, .int i_firstCame, .int i_longRun, .int i_moved, .int i_crowd, .int i_l0, .int i_fitMany, .int i_fitLeast, .int i_fitMost, .ref m_fitPost, .ref m_fitEnd, .ref m_keptPosts, .int i_x0]))]] _ _ := G
      rcases hc_4 with ⟨rfl, h_6⟩ | ⟨rfl, h_7⟩
      · have h_6 : zInn i_inns (nI i) := h_6
        refine lv_if_eq (tgt := 34) hx hb dX12_walkersOf_22 (by decide) (fun q => absurd q (by decide)) (fun _ => ?_)
        refine lv_aload_n hx hb dX12_walkersOf_25 rfl (lv_at hl 2 rfl) ?_
        refine z_get C G clX12 1 rfl 16 (by decide) m_fl_RX12_26 rfl dX12_walkersOf_26 ?_
        refine lv_iload_n hx hb dX12_walkersOf_29 rfl (lv_at hl 0 rfl) ?_
        refine z_ild C G 0 rfl (vp_in_nI (by omega) (by omega)) dX12_walkersOf_30 ?_
        refine lv_topi (fun v_8 ev_8 => ?_)
        rw [nI_clamp (by omega)] at ev_8
        subst ev_8
        refine lv_goto (tgt := 35) hx hb dX12_walkersOf_31 (by decide) ?_
        refine lv_iadd hx hb dX12_walkersOf_35 ?_
        refine lv_istore_n (lv' := [(2, .int (u + (f_here i))), (3, .int (nI i)), (0, .ref mo), (1, .int w_)]) hx hb dX12_walkersOf_36 rfl hl (by decide) rfl (fun ls hl => ?_)
        refine lv_iinc (v := nI (i + 1)) (lv' := [(3, .int (nI (i + 1))), (2, .int (u + (f_here i))), (0, .ref mo), (1, .int w_)]) hx hb dX12_walkersOf_37 hl (k := 1) rfl (z_inc i 1) (by decide) rfl (fun ls hl => ?_)
        refine lv_goto (tgt := 4) hx hb dX12_walkersOf_40 (by decide) ?_
        have G := G.sub (bs' := [[(mo, .inr (11, [.ref m_all, .ref m_has, .int i_size, .int i_next, .int i_where, .int i_token, .int i_number, .int i_word, .int i_wrong, .int i_farCrossing, .ref m_read, .int i_z0, .int i_crossings, .int i_inns, .ref m_posts, .ref m_shut, .ref m_here, .int i_steps, .int i_done, .int i_at, .int i_gone, .ref m_was, .ref m_came, .ref m_seenAt, .ref m_rowWorth, .ref m_farBy, .ref m_used, .int i_everywhere, .int i_again0, .int i_d0, .int i_never, .int i_firstCame, .int i_longRun, .int i_moved, .int i_crowd, .int i_l0, .int i_fitMany, .int i_fitLeast, .int i_fitMost, .ref m_fitPost, .ref m_fitEnd, .ref m_keptPosts, .int i_x0]))], [(m_here, .inl (T.2 0, 7, .inl f_here))]]) [1, 0] rfl
        exact ih_4 (i + 1) (u + (f_here i)) (show (i + 1) ≤ 7 ∧ ((i + 1) : Int) ≤ i_crossings.toInt ∧ (u + (f_here i)) = zSumW i_inns w_ f_here (i + 1) from ⟨by omega, by omega, (zSumW_y hU (by first | exact Or.inl (by assumption) | exact Or.inr (by assumption)))⟩) (show 7 - (i + 1) < 7 - i from by omega) _ _ ls G (lv_sub hl [0, 1, 2, 3] rfl)
      · have h_7 : ¬ zInn i_inns (nI i) := h_7
        refine lv_if_eq (tgt := 34) hx hb dX12_walkersOf_22 (by decide) (fun _ => ?_) (fun q => absurd (by decide) q)
        refine lv_iconst (v := 0) hx hb dX12_walkersOf_34 (by decide) ?_
        refine lv_iadd hx hb dX12_walkersOf_35 ?_
        refine lv_istore_n (lv' := [(2, .int (u + 0)), (3, .int (nI i)), (0, .ref mo), (1, .int w_)]) hx hb dX12_walkersOf_36 rfl hl (by decide) rfl (fun ls hl => ?_)
        refine lv_iinc (v := nI (i + 1)) (lv' := [(3, .int (nI (i + 1))), (2, .int (u + 0)), (0, .ref mo), (1, .int w_)]) hx hb dX12_walkersOf_37 hl (k := 1) rfl (z_inc i 1) (by decide) rfl (fun ls hl => ?_)
        refine lv_goto (tgt := 4) hx hb dX12_walkersOf_40 (by decide) ?_
        have G := G.sub (bs' := [[(mo, .inr (11, [.ref m_all, .ref m_has, .int i_size, .int i_next, .int i_where, .int i_token, .int i_number, .int i_word, .int i_wrong, .int i_farCrossing, .ref m_read, .int i_z0, .int i_crossings, .int i_inns, .ref m_posts, .ref m_shut, .ref m_here, .int i_steps, .int i_done, .int i_at, .int i_gone, .ref m_was, .ref m_came, .ref m_seenAt, .ref m_rowWorth, .ref m_farBy, .ref m_used, .int i_everywhere, .int i_again0, .int i_d0, .int i_never, .int i_firstCame, .int i_longRun, .int i_moved, .int i_crowd, .int i_l0, .int i_fitMany, .int i_fitLeast, .int i_fitMost, .ref m_fitPost, .ref m_fitEnd, .ref m_keptPosts, .int i_x0]))], [(m_here, .inl (T.2 0, 7, .inl f_here))]]) [1, 0] rfl
        exact ih_4 (i + 1) (u + 0) (show (i + 1) ≤ 7 ∧ ((i + 1) : Int) ≤ i_crossings.toInt ∧ (u + 0) = zSumW i_inns w_ f_here (i + 1) from ⟨by omega, by omega, (zSumW_n hU (by assumption) (by assumption))⟩) (show 7 - (i + 1) < 7 - i from by omega) _ _ ls G (lv_sub hl [0, 1, 2, 3] rfl)
set_option maxHeartbeats 4000000 in
set_option maxRecDepth 100000 in
/-- c_fm_nowOf -/
theorem c_fm_nowOf (l : Launch) (T : zTy) (mo : Nat) (m_all : Nat) (m_has : Nat) (i_size : Int32) (i_next : Int32) (i_where : Int32) (i_token : Int32) (i_number : Int32) (i_word : Int32) (i_wrong : Int32) (i_farCrossing : Int32) (m_read : Nat) (i_z0 : Int32) (i_crossings : Int32) (i_inns : Int32) (m_posts : Nat) (m_shut : Nat) (m_here : Nat) (i_steps : Int32) (i_done : Int32) (i_at : Int32) (i_gone : Int32) (m_was : Nat) (m_came : Nat) (m_seenAt : Nat) (m_rowWorth : Nat) (m_farBy : Nat) (m_used : Nat) (i_everywhere : Int32) (i_again0 : Int32) (i_d0 : Int32) (i_never : Int32) (i_firstCame : Int32) (i_longRun : Int32) (i_moved : Int32) (i_crowd : Int32) (i_l0 : Int32) (i_fitMany : Int32) (i_fitLeast : Int32) (i_fitMost : Int32) (m_fitPost : Nat) (m_fitEnd : Nat) (m_keptPosts : Nat) (i_x0 : Int32) (f_posts : Nat → Int32) (f_here : Nat → Int32) (f_shut : Nat → Int32) (w_ : Int32) (hcr : 0 ≤ i_crossings.toInt ∧ i_crossings.toInt ≤ 7) : zMi l T yX12_nowOf cX12_nowOf 3 (some .int) 3 0 0 [.ref mo, .int w_] [[(mo, .inr (11, [.ref m_all, .ref m_has, .int i_size, .int i_next, .int i_where, .int i_token, .int i_number, .int i_word, .int i_wrong, .int i_farCrossing, .ref m_read, .int i_z0, .int i_crossings, .int i_inns, .ref m_posts, .ref m_shut, .ref m_here, .int i_steps, .int i_done, .int i_at, .int i_gone, .ref m_was, .ref m_came, .ref m_seenAt, .ref m_rowWorth, .ref m_farBy, .ref m_used, .int i_everywhere, .int i_again0, .int i_d0, .int i_never, .int i_firstCame, .int i_longRun, .int i_moved, .int i_crowd, .int i_l0, .int i_fitMany, .int i_fitLeast, .int i_fitMost, .ref m_fitPost, .ref m_fitEnd, .ref m_keptPosts, .int i_x0]))], [(m_posts, .inl (T.2 0, 7, .inl f_posts))], [(m_here, .inl (T.2 0, 7, .inl f_here))], [(m_shut, .inl (T.2 0, 7, .inl f_shut))]] (fun (r : Int32) bs => bs = [[(mo, .inr (11, [.ref m_all, .ref m_has, .int i_size, .int i_next, .int i_where, .int i_token, .int i_number, .int i_word, .int i_wrong, .int i_farCrossing, .ref m_read, .int i_z0, .int i_crossings, .int i_inns, .ref m_posts, .ref m_shut, .ref m_here, .int i_steps, .int i_done, .int i_at, .int i_gone, .ref m_was, .ref m_came, .ref m_seenAt, .ref m_rowWorth, .ref m_farBy, .ref m_used, .int i_everywhere, .int i_again0, .int i_d0, .int i_never, .int i_firstCame, .int i_longRun, .int i_moved, .int i_crowd, .int i_l0, .int i_fitMany, .int i_fitLeast, .int i_fitMost, .ref m_fitPost, .ref m_fitEnd, .ref m_keptPosts, .int i_x0]))], [(m_posts, .inl (T.2 0, 7, .inl f_posts))], [(m_here, .inl (T.2 0, 7, .inl f_here))], [(m_shut, .inl (T.2 0, 7, .inl f_shut))]] ∧ r = zNow i_crossings i_inns (f_posts, f_shut, f_here, i_steps, i_never) w_) := by
  refine zMi_of (own := RX12) (by decide) rfl (Nat.le_of_ble_eq_true rfl) ?_
  intro p e s m args below meth c A ls C hr hlocks hnm hAe G hl
  have hx := C.1
  have hb := C.2.1
  have hl : lv_has ls 3 [(0, .ref mo), (1, .int w_)] := hl
  refine lv_iload_n hx hb dX12_nowOf_0 rfl (lv_at hl 1 rfl) ?_
  by_cases c_1o : w_.toInt < 0 ∨ 3 < w_.toInt
  · refine lv_tableOut (tgt := 57) hx hb dX12_nowOf_1 c_1o (by decide) ?_
    have hdl := Int32.toInt_lt w_
    have hdg := Int32.le_toInt w_
    refine lv_iload_n hx hb dX12_nowOf_57 rfl (lv_at hl 1 rfl) ?_
    refine lv_bipush (v := 10) hx hb dX12_nowOf_58 (by decide) ?_
    refine lv_irem hx hb dX12_nowOf_60 (by decide) ?_
    refine lv_istore_n (lv' := [(2, .int (w_ - w_ / 10 * 10)), (0, .ref mo), (1, .int w_)]) hx hb dX12_nowOf_61 rfl hl (by decide) rfl (fun ls hl => ?_)
    refine lv_iload_n hx hb dX12_nowOf_62 rfl (lv_at hl 2 rfl) ?_
    refine lv_bipush (v := 10) hx hb dX12_nowOf_63 (by decide) ?_
    refine lv_bipush (v := 39) hx hb dX12_nowOf_65 (by decide) ?_
    refine z_Si (bc := []) (br := [[(mo, .inr (11, [.ref m_all, .ref m_has, .int i_size, .int i_next, .int i_where, .int i_token, .int i_number, .int i_word, .int i_wrong, .int i_farCrossing, .ref m_read, .int i_z0, .int i_crossings, .int i_inns, .ref m_posts, .ref m_shut, .ref m_here, .int i_steps, .int i_done, .int i_at, .int i_gone, .ref m_was, .ref m_came, .ref m_seenAt, .ref m_rowWorth, .ref m_farBy, .ref m_used, .int i_everywhere, .int i_again0, .int i_d0, .int i_never, .int i_firstCame, .int i_longRun, .int i_moved, .int i_crowd, .int i_l0, .int i_fitMany, .int i_fitLeast, .int i_fitMost, .ref m_fitPost, .ref m_fitEnd, .ref m_keptPosts, .int i_x0]))], [(m_posts, .inl (T.2 0, 7, .inl f_posts))], [(m_here, .inl (T.2 0, 7, .inl f_here))], [(m_shut, .inl (T.2 0, 7, .inl f_shut))]]) (As := [.int w_, .int 10, .int 39]) (rest := []) C G (c_m_isIn l T w_ 10 39) (kS_RX12_111 C.2.2.2.2 (Nat.le_of_ble_eq_true rfl) (Nat.le_of_ble_eq_true rfl)) [] [0, 1, 2, 3] rfl rfl rfl rfl hl.1 dX12_nowOf_67 (Nat.le_of_ble_eq_true rfl) (Nat.le_of_ble_eq_true rfl) (fun r_3 b1 H locs hw G => ?_)
    refine hw.elim fun hbs9 hc_2 => ?_
    clear hw
    subst hbs9
    have G : zS T A s.heap s [[(mo, .inr (11, [.ref m_all, .ref m_has, .int i_size, .int i_next, .int i_where, .int i_token, .int i_number, .int i_word, .int i_wrong, .int i_farCrossing, .ref m_read, .int i_z0, .int i_crossings, .int i_inns, .ref m_posts, .ref m_shut, .ref m_here, .int i_steps, .int i_done, .int i_at, .int i_gone, .ref m_was, .ref m_came, .ref m_seenAt, .ref m_rowWorth, .ref m_farBy, .ref m_used, .int i_everywhere, .int i_again0, .int i_d0, .int i_never, .int i_firstCame, .int i_longRun, .int i_moved, .int i_crowd, .int i_l0, .int i_fitMany, .int i_fitLeast, .int i_fitMost, .ref m_fitPost, .ref m_fitEnd, .ref m_keptPosts, .int i_x0]))], [(m_posts, .inl (T.2 0, 7, .inl f_posts))], [(m_here, .inl (T.2 0, 7, .inl f_here))], [(m_shut, .inl (T.2 0, 7, .inl f_shut))]] _ _ := G
    rcases hc_2 with ⟨rfl, h_4, h_5⟩ | ⟨rfl, h_6⟩
    · have h_4 : (10 : Int) ≤ w_.toInt := h_4
      have h_5 : w_.toInt ≤ (39 : Int) := h_5
      refine lv_if_eq (tgt := 81) hx hb dX12_nowOf_70 (by decide) (fun q => absurd q (by decide)) (fun _ => ?_)
      refine lv_aload_n hx hb dX12_nowOf_73 rfl (lv_at hl 1 rfl) ?_
      refine lv_iload_n hx hb dX12_nowOf_74 rfl (lv_at hl 0 rfl) ?_
      refine z_Vi (bc := [[(mo, .inr (11, [.ref m_all, .ref m_has, .int i_size, .int i_next, .int i_where, .int i_token, .int i_number, .int i_word, .int i_wrong, .int i_farCrossing, .ref m_read, .int i_z0, .int i_crossings, .int i_inns, .ref m_posts, .ref m_shut, .ref m_here, .int i_steps, .int i_done, .int i_at, .int i_gone, .ref m_was, .ref m_came, .ref m_seenAt, .ref m_rowWorth, .ref m_farBy, .ref m_used, .int i_everywhere, .int i_again0, .int i_d0, .int i_never, .int i_firstCame, .int i_longRun, .int i_moved, .int i_crowd, .int i_l0, .int i_fitMany, .int i_fitLeast, .int i_fitMost, .ref m_fitPost, .ref m_fitEnd, .ref m_keptPosts, .int i_x0]))]]) (br := [[(m_posts, .inl (T.2 0, 7, .inl f_posts))], [(m_here, .inl (T.2 0, 7, .inl f_here))], [(m_shut, .inl (T.2 0, 7, .inl f_shut))]]) (As := [.int (w_ - w_ / 10 * 10)]) (rest := []) C G (c_m_isCrossing l T mo m_all m_has i_size i_next i_where i_token i_number i_word i_wrong i_farCrossing m_read i_z0 i_crossings i_inns m_posts m_shut m_here i_steps i_done i_at i_gone m_was m_came m_seenAt m_rowWorth m_farBy m_used i_everywhere i_again0 i_d0 i_never i_firstCame i_longRun i_moved i_crowd i_l0 i_fitMany i_fitLeast i_fitMost m_fitPost m_fitEnd m_keptPosts i_x0 (w_ - w_ / 10 * 10) (by first | with_reducible assumption | with_reducible rfl | omega | assumption | rfl)) (kV_RX12_187 C.2.2.2.2 (Nat.le_of_ble_eq_true rfl) (Nat.le_of_ble_eq_true rfl)) [0] [1, 2, 3] rfl rfl (ci := 11) (qc := (RX12, TX12, 43)) rfl rfl (List.mem_flatten.mpr ⟨_, List.mem_of_getElem? (i := 0) rfl, List.mem_cons_self⟩) rfl rfl hl.1 dX12_nowOf_75 (Nat.le_of_ble_eq_true rfl) (Nat.le_of_ble_eq_true rfl) (fun r_8 b1 H locs hw G => ?_)
      refine hw.elim fun hbs9 hc_7 => ?_
      clear hw
      subst hbs9
      have G : zS T A s.heap s [[(m_posts, .inl (T.2 0, 7, .inl f_posts))], [(m_here, .inl (T.2 0, 7, .inl f_here))], [(m_shut, .inl (T.2 0, 7, .inl f_shut))], [(mo, .inr (11, [.ref m_all, .ref m_has, .int i_size, .int i_next, .int i_where, .int i_token, .int i_number, .int i_word, .int i_wrong, .int i_farCrossing, .ref m_read, .int i_z0, .int i_crossings, .int i_inns, .ref m_posts, .ref m_shut, .ref m_here, .int i_steps, .int i_done, .int i_at, .int i_gone, .ref m_was, .ref m_came, .ref m_seenAt, .ref m_rowWorth, .ref m_farBy, .ref m_used, .int i_everywhere, .int i_again0, .int i_d0, .int i_never, .int i_firstCame, .int i_longRun, .int i_moved, .int i_crowd, .int i_l0, .int i_fitMany, .int i_fitLeast, .int i_fitMost, .ref m_fitPost, .ref m_fitEnd, .ref m_keptPosts, .int i_x0]))]] _ _ := G
      rcases hc_7 with ⟨rfl, h_9, h_10⟩ | ⟨rfl, h_11⟩
      · have h_9 : 0 ≤ (w_ - w_ / 10 * 10).toInt := h_9
        have h_10 : (w_ - w_ / 10 * 10).toInt < i_crossings.toInt := h_10
        refine lv_if_ne (tgt := 84) hx hb dX12_nowOf_78 (by decide) (fun _ => ?_) (fun q => absurd q (by decide))
        have hrx := zRm (x := w_) (by omega)
        refine lv_iload_n hx hb dX12_nowOf_84 rfl (lv_at hl 2 rfl) ?_
        refine lv_bipush (v := 20) hx hb dX12_nowOf_85 (by decide) ?_
        refine lv_icmp_ge (tgt := 99) hx hb dX12_nowOf_87 (by decide) (fun c_12 => ?_) (fun c_12 => ?_)
        · have c_12n : (20 : Int) ≤ w_.toInt := (fa_le _ _).mp c_12
          refine lv_iload_n hx hb dX12_nowOf_99 rfl (lv_at hl 2 rfl) ?_
          refine lv_bipush (v := 30) hx hb dX12_nowOf_100 (by decide) ?_
          refine lv_icmp_ge (tgt := 114) hx hb dX12_nowOf_102 (by decide) (fun c_13 => ?_) (fun c_13 => ?_)
          · have c_13n : (30 : Int) ≤ w_.toInt := (fa_le _ _).mp c_13
            refine lv_aload_n hx hb dX12_nowOf_114 rfl (lv_at hl 1 rfl) ?_
            refine z_get C G clX12 3 rfl 15 (by decide) m_fl_RX12_23 rfl dX12_nowOf_115 ?_
            refine lv_iload_n hx hb dX12_nowOf_118 rfl (lv_at hl 0 rfl) ?_
            refine z_ild C G 2 rfl (vp_in_iff.mpr ⟨by omega, by omega⟩) dX12_nowOf_119 ?_
            refine lv_topi (fun v_14 ev_14 => ?_)
            subst ev_14
            have G := G.sub (bs' := [[(mo, .inr (11, [.ref m_all, .ref m_has, .int i_size, .int i_next, .int i_where, .int i_token, .int i_number, .int i_word, .int i_wrong, .int i_farCrossing, .ref m_read, .int i_z0, .int i_crossings, .int i_inns, .ref m_posts, .ref m_shut, .ref m_here, .int i_steps, .int i_done, .int i_at, .int i_gone, .ref m_was, .ref m_came, .ref m_seenAt, .ref m_rowWorth, .ref m_farBy, .ref m_used, .int i_everywhere, .int i_again0, .int i_d0, .int i_never, .int i_firstCame, .int i_longRun, .int i_moved, .int i_crowd, .int i_l0, .int i_fitMany, .int i_fitLeast, .int i_fitMost, .ref m_fitPost, .ref m_fitEnd, .ref m_keptPosts, .int i_x0]))], [(m_posts, .inl (T.2 0, 7, .inl f_posts))], [(m_here, .inl (T.2 0, 7, .inl f_here))], [(m_shut, .inl (T.2 0, 7, .inl f_shut))]]) [3, 0, 1, 2] rfl
            exact z_iret C hr hlocks G (Nat.le_of_ble_eq_true rfl) (Nat.le_of_ble_eq_true rfl) dX12_nowOf_120 ⟨rfl, (zNow_s (by omega) (by have q8 := z_clI (x := w_ - w_ / 10 * 10) (by omega); omega))⟩
          · have c_13n : ¬ (30 : Int) ≤ w_.toInt := fun q => c_13 ((fa_le _ _).mpr q)
            refine lv_aload_n hx hb dX12_nowOf_105 rfl (lv_at hl 1 rfl) ?_
            refine z_get C G clX12 3 rfl 16 (by decide) m_fl_RX12_26 rfl dX12_nowOf_106 ?_
            refine lv_iload_n hx hb dX12_nowOf_109 rfl (lv_at hl 0 rfl) ?_
            refine z_ild C G 1 rfl (vp_in_iff.mpr ⟨by omega, by omega⟩) dX12_nowOf_110 ?_
            refine lv_topi (fun v_15 ev_15 => ?_)
            subst ev_15
            refine lv_goto (tgt := 120) hx hb dX12_nowOf_111 (by decide) ?_
            have G := G.sub (bs' := [[(mo, .inr (11, [.ref m_all, .ref m_has, .int i_size, .int i_next, .int i_where, .int i_token, .int i_number, .int i_word, .int i_wrong, .int i_farCrossing, .ref m_read, .int i_z0, .int i_crossings, .int i_inns, .ref m_posts, .ref m_shut, .ref m_here, .int i_steps, .int i_done, .int i_at, .int i_gone, .ref m_was, .ref m_came, .ref m_seenAt, .ref m_rowWorth, .ref m_farBy, .ref m_used, .int i_everywhere, .int i_again0, .int i_d0, .int i_never, .int i_firstCame, .int i_longRun, .int i_moved, .int i_crowd, .int i_l0, .int i_fitMany, .int i_fitLeast, .int i_fitMost, .ref m_fitPost, .ref m_fitEnd, .ref m_keptPosts, .int i_x0]))], [(m_posts, .inl (T.2 0, 7, .inl f_posts))], [(m_here, .inl (T.2 0, 7, .inl f_here))], [(m_shut, .inl (T.2 0, 7, .inl f_shut))]]) [3, 0, 1, 2] rfl
            exact z_iret C hr hlocks G (Nat.le_of_ble_eq_true rfl) (Nat.le_of_ble_eq_true rfl) dX12_nowOf_120 ⟨rfl, (zNow_h (by omega) (by have q8 := z_clI (x := w_ - w_ / 10 * 10) (by omega); omega))⟩
        · have c_12n : ¬ (20 : Int) ≤ w_.toInt := fun q => c_12 ((fa_le _ _).mpr q)
          refine lv_aload_n hx hb dX12_nowOf_90 rfl (lv_at hl 1 rfl) ?_
          refine z_get C G clX12 3 rfl 14 (by decide) m_fl_RX12_20 rfl dX12_nowOf_91 ?_
          refine lv_iload_n hx hb dX12_nowOf_94 rfl (lv_at hl 0 rfl) ?_
          refine z_ild C G 0 rfl (vp_in_iff.mpr ⟨by omega, by omega⟩) dX12_nowOf_95 ?_
          refine lv_topi (fun v_16 ev_16 => ?_)
          subst ev_16
          refine lv_goto (tgt := 120) hx hb dX12_nowOf_96 (by decide) ?_
          have G := G.sub (bs' := [[(mo, .inr (11, [.ref m_all, .ref m_has, .int i_size, .int i_next, .int i_where, .int i_token, .int i_number, .int i_word, .int i_wrong, .int i_farCrossing, .ref m_read, .int i_z0, .int i_crossings, .int i_inns, .ref m_posts, .ref m_shut, .ref m_here, .int i_steps, .int i_done, .int i_at, .int i_gone, .ref m_was, .ref m_came, .ref m_seenAt, .ref m_rowWorth, .ref m_farBy, .ref m_used, .int i_everywhere, .int i_again0, .int i_d0, .int i_never, .int i_firstCame, .int i_longRun, .int i_moved, .int i_crowd, .int i_l0, .int i_fitMany, .int i_fitLeast, .int i_fitMost, .ref m_fitPost, .ref m_fitEnd, .ref m_keptPosts, .int i_x0]))], [(m_posts, .inl (T.2 0, 7, .inl f_posts))], [(m_here, .inl (T.2 0, 7, .inl f_here))], [(m_shut, .inl (T.2 0, 7, .inl f_shut))]]) [3, 0, 1, 2] rfl
          exact z_iret C hr hlocks G (Nat.le_of_ble_eq_true rfl) (Nat.le_of_ble_eq_true rfl) dX12_nowOf_120 ⟨rfl, (zNow_p (by omega) (by have q8 := z_clI (x := w_ - w_ / 10 * 10) (by omega); omega))⟩
      · have h_11 : ((w_ - w_ / 10 * 10).toInt < 0 ∨ i_crossings.toInt ≤ (w_ - w_ / 10 * 10).toInt) := h_11
        refine lv_if_ne (tgt := 84) hx hb dX12_nowOf_78 (by decide) (fun q => absurd (by decide) q) (fun _ => ?_)
        refine lv_bipush (v := (-2)) hx hb dX12_nowOf_81 (by decide) ?_
        have G := G.sub (bs' := [[(mo, .inr (11, [.ref m_all, .ref m_has, .int i_size, .int i_next, .int i_where, .int i_token, .int i_number, .int i_word, .int i_wrong, .int i_farCrossing, .ref m_read, .int i_z0, .int i_crossings, .int i_inns, .ref m_posts, .ref m_shut, .ref m_here, .int i_steps, .int i_done, .int i_at, .int i_gone, .ref m_was, .ref m_came, .ref m_seenAt, .ref m_rowWorth, .ref m_farBy, .ref m_used, .int i_everywhere, .int i_again0, .int i_d0, .int i_never, .int i_firstCame, .int i_longRun, .int i_moved, .int i_crowd, .int i_l0, .int i_fitMany, .int i_fitLeast, .int i_fitMost, .ref m_fitPost, .ref m_fitEnd, .ref m_keptPosts, .int i_x0]))], [(m_posts, .inl (T.2 0, 7, .inl f_posts))], [(m_here, .inl (T.2 0, 7, .inl f_here))], [(m_shut, .inl (T.2 0, 7, .inl f_shut))]]) [3, 0, 1, 2] rfl
        exact z_iret C hr hlocks G (Nat.le_of_ble_eq_true rfl) (Nat.le_of_ble_eq_true rfl) dX12_nowOf_83 ⟨rfl, (zNow_n (by omega) (by first | omega | (by_cases q7 : w_.toInt < 10 <;> first | omega | (have hrx := zRm (x := w_) (by omega); omega))))⟩
    · have h_6 : (w_.toInt < (10 : Int) ∨ (39 : Int) < w_.toInt) := h_6
      refine lv_if_eq (tgt := 81) hx hb dX12_nowOf_70 (by decide) (fun _ => ?_) (fun q => absurd (by decide) q)
      refine lv_bipush (v := (-2)) hx hb dX12_nowOf_81 (by decide) ?_
      exact z_iret C hr hlocks G (Nat.le_of_ble_eq_true rfl) (Nat.le_of_ble_eq_true rfl) dX12_nowOf_83 ⟨rfl, (zNow_n (by omega) (by first | omega | (by_cases q7 : w_.toInt < 10 <;> first | omega | (have hrx := zRm (x := w_) (by omega); omega))))⟩
  · have c_1r : w_.toInt = 0 ∨ w_.toInt = 1 ∨ w_.toInt = 2 ∨ w_.toInt = 3 := by omega
    rcases c_1r with c_1 | c_1 | c_1 | c_1
    · refine lv_tableIn (tgt := 32) hx hb dX12_nowOf_1 (by omega) (by omega) (by rw [c_1]; rfl) (by decide) ?_
      refine lv_aload_n hx hb dX12_nowOf_32 rfl (lv_at hl 0 rfl) ?_
      refine z_get C G clX12 0 rfl 17 (by decide) m_fl_RX12_196 rfl dX12_nowOf_33 ?_
      exact z_iret C hr hlocks G (Nat.le_of_ble_eq_true rfl) (Nat.le_of_ble_eq_true rfl) dX12_nowOf_36 ⟨rfl, (zNow_0 (by omega))⟩
    · refine lv_tableIn (tgt := 37) hx hb dX12_nowOf_1 (by omega) (by omega) (by rw [c_1]; rfl) (by decide) ?_
      refine lv_aload_n hx hb dX12_nowOf_37 rfl (lv_at hl 0 rfl) ?_
      refine lv_iload_n hx hb dX12_nowOf_38 rfl (lv_at hl 1 rfl) ?_
      refine lv_iconst (v := 1) hx hb dX12_nowOf_39 (by decide) ?_
      refine lv_icmp_ne (tgt := 47) hx hb dX12_nowOf_40 (by decide) (fun c_17 => ?_) (fun c_17 => ?_)
      · have c_17n : ¬ w_.toInt = (1 : Int) := fun q => c_17 ((fa_eq _ _).mpr q)
        refine lv_iconst (v := 0) hx hb dX12_nowOf_47 (by decide) ?_
        refine z_Vi (bc := [[(mo, .inr (11, [.ref m_all, .ref m_has, .int i_size, .int i_next, .int i_where, .int i_token, .int i_number, .int i_word, .int i_wrong, .int i_farCrossing, .ref m_read, .int i_z0, .int i_crossings, .int i_inns, .ref m_posts, .ref m_shut, .ref m_here, .int i_steps, .int i_done, .int i_at, .int i_gone, .ref m_was, .ref m_came, .ref m_seenAt, .ref m_rowWorth, .ref m_farBy, .ref m_used, .int i_everywhere, .int i_again0, .int i_d0, .int i_never, .int i_firstCame, .int i_longRun, .int i_moved, .int i_crowd, .int i_l0, .int i_fitMany, .int i_fitLeast, .int i_fitMost, .ref m_fitPost, .ref m_fitEnd, .ref m_keptPosts, .int i_x0]))], [(m_here, .inl (T.2 0, 7, .inl f_here))]]) (br := [[(m_posts, .inl (T.2 0, 7, .inl f_posts))], [(m_shut, .inl (T.2 0, 7, .inl f_shut))]]) (As := [.int 0]) (rest := []) C G (c_fm_walkersOf l T mo m_all m_has i_size i_next i_where i_token i_number i_word i_wrong i_farCrossing m_read i_z0 i_crossings i_inns m_posts m_shut m_here i_steps i_done i_at i_gone m_was m_came m_seenAt m_rowWorth m_farBy m_used i_everywhere i_again0 i_d0 i_never i_firstCame i_longRun i_moved i_crowd i_l0 i_fitMany i_fitLeast i_fitMost m_fitPost m_fitEnd m_keptPosts i_x0 f_here 0 (by first | with_reducible assumption | with_reducible rfl | omega | assumption | rfl)) (kV_RX12_351 C.2.2.2.2 (Nat.le_of_ble_eq_true rfl) (Nat.le_of_ble_eq_true rfl)) [0, 2] [1, 3] rfl rfl (ci := 11) (qc := (RX12, TX12, 43)) rfl rfl (List.mem_flatten.mpr ⟨_, List.mem_of_getElem? (i := 0) rfl, List.mem_cons_self⟩) rfl rfl hl.1 dX12_nowOf_48 (Nat.le_of_ble_eq_true rfl) (Nat.le_of_ble_eq_true rfl) (fun r_19 b1 H locs hw G => ?_)
        refine hw.elim fun hbs9 h_18 => ?_
        clear hw
        subst hbs9
        have G : zS T A s.heap s [[(m_posts, .inl (T.2 0, 7, .inl f_posts))], [(m_shut, .inl (T.2 0, 7, .inl f_shut))], [(mo, .inr (11, [.ref m_all, .ref m_has, .int i_size, .int i_next, .int i_where, .int i_token, .int i_number, .int i_word, .int i_wrong, .int i_farCrossing, .ref m_read, .int i_z0, .int i_crossings, .int i_inns, .ref m_posts, .ref m_shut, .ref m_here, .int i_steps, .int i_done, .int i_at, .int i_gone, .ref m_was, .ref m_came, .ref m_seenAt, .ref m_rowWorth, .ref m_farBy, .ref m_used, .int i_everywhere, .int i_again0, .int i_d0, .int i_never, .int i_firstCame, .int i_longRun, .int i_moved, .int i_crowd, .int i_l0, .int i_fitMany, .int i_fitLeast, .int i_fitMost, .ref m_fitPost, .ref m_fitEnd, .ref m_keptPosts, .int i_x0]))], [(m_here, .inl (T.2 0, 7, .inl f_here))]] _ _ := G
        have G := G.sub (bs' := [[(mo, .inr (11, [.ref m_all, .ref m_has, .int i_size, .int i_next, .int i_where, .int i_token, .int i_number, .int i_word, .int i_wrong, .int i_farCrossing, .ref m_read, .int i_z0, .int i_crossings, .int i_inns, .ref m_posts, .ref m_shut, .ref m_here, .int i_steps, .int i_done, .int i_at, .int i_gone, .ref m_was, .ref m_came, .ref m_seenAt, .ref m_rowWorth, .ref m_farBy, .ref m_used, .int i_everywhere, .int i_again0, .int i_d0, .int i_never, .int i_firstCame, .int i_longRun, .int i_moved, .int i_crowd, .int i_l0, .int i_fitMany, .int i_fitLeast, .int i_fitMost, .ref m_fitPost, .ref m_fitEnd, .ref m_keptPosts, .int i_x0]))], [(m_posts, .inl (T.2 0, 7, .inl f_posts))], [(m_here, .inl (T.2 0, 7, .inl f_here))], [(m_shut, .inl (T.2 0, 7, .inl f_shut))]]) [2, 0, 3, 1] rfl
        exact z_iret C hr hlocks G (Nat.le_of_ble_eq_true rfl) (Nat.le_of_ble_eq_true rfl) dX12_nowOf_51 ⟨rfl, (by rw [h_18]; first | exact zNow_1 (by omega) | exact zNow_2 (by omega))⟩
      · have c_17n : w_.toInt = (1 : Int) := (fa_eq _ _).mp c_17
        refine lv_iconst (v := 1) hx hb dX12_nowOf_43 (by decide) ?_
        refine lv_goto (tgt := 48) hx hb dX12_nowOf_44 (by decide) ?_
        refine z_Vi (bc := [[(mo, .inr (11, [.ref m_all, .ref m_has, .int i_size, .int i_next, .int i_where, .int i_token, .int i_number, .int i_word, .int i_wrong, .int i_farCrossing, .ref m_read, .int i_z0, .int i_crossings, .int i_inns, .ref m_posts, .ref m_shut, .ref m_here, .int i_steps, .int i_done, .int i_at, .int i_gone, .ref m_was, .ref m_came, .ref m_seenAt, .ref m_rowWorth, .ref m_farBy, .ref m_used, .int i_everywhere, .int i_again0, .int i_d0, .int i_never, .int i_firstCame, .int i_longRun, .int i_moved, .int i_crowd, .int i_l0, .int i_fitMany, .int i_fitLeast, .int i_fitMost, .ref m_fitPost, .ref m_fitEnd, .ref m_keptPosts, .int i_x0]))], [(m_here, .inl (T.2 0, 7, .inl f_here))]]) (br := [[(m_posts, .inl (T.2 0, 7, .inl f_posts))], [(m_shut, .inl (T.2 0, 7, .inl f_shut))]]) (As := [.int 1]) (rest := []) C G (c_fm_walkersOf l T mo m_all m_has i_size i_next i_where i_token i_number i_word i_wrong i_farCrossing m_read i_z0 i_crossings i_inns m_posts m_shut m_here i_steps i_done i_at i_gone m_was m_came m_seenAt m_rowWorth m_farBy m_used i_everywhere i_again0 i_d0 i_never i_firstCame i_longRun i_moved i_crowd i_l0 i_fitMany i_fitLeast i_fitMost m_fitPost m_fitEnd m_keptPosts i_x0 f_here 1 (by first | with_reducible assumption | with_reducible rfl | omega | assumption | rfl)) (kV_RX12_351 C.2.2.2.2 (Nat.le_of_ble_eq_true rfl) (Nat.le_of_ble_eq_true rfl)) [0, 2] [1, 3] rfl rfl (ci := 11) (qc := (RX12, TX12, 43)) rfl rfl (List.mem_flatten.mpr ⟨_, List.mem_of_getElem? (i := 0) rfl, List.mem_cons_self⟩) rfl rfl hl.1 dX12_nowOf_48 (Nat.le_of_ble_eq_true rfl) (Nat.le_of_ble_eq_true rfl) (fun r_21 b1 H locs hw G => ?_)
        refine hw.elim fun hbs9 h_20 => ?_
        clear hw
        subst hbs9
        have G : zS T A s.heap s [[(m_posts, .inl (T.2 0, 7, .inl f_posts))], [(m_shut, .inl (T.2 0, 7, .inl f_shut))], [(mo, .inr (11, [.ref m_all, .ref m_has, .int i_size, .int i_next, .int i_where, .int i_token, .int i_number, .int i_word, .int i_wrong, .int i_farCrossing, .ref m_read, .int i_z0, .int i_crossings, .int i_inns, .ref m_posts, .ref m_shut, .ref m_here, .int i_steps, .int i_done, .int i_at, .int i_gone, .ref m_was, .ref m_came, .ref m_seenAt, .ref m_rowWorth, .ref m_farBy, .ref m_used, .int i_everywhere, .int i_again0, .int i_d0, .int i_never, .int i_firstCame, .int i_longRun, .int i_moved, .int i_crowd, .int i_l0, .int i_fitMany, .int i_fitLeast, .int i_fitMost, .ref m_fitPost, .ref m_fitEnd, .ref m_keptPosts, .int i_x0]))], [(m_here, .inl (T.2 0, 7, .inl f_here))]] _ _ := G
        have G := G.sub (bs' := [[(mo, .inr (11, [.ref m_all, .ref m_has, .int i_size, .int i_next, .int i_where, .int i_token, .int i_number, .int i_word, .int i_wrong, .int i_farCrossing, .ref m_read, .int i_z0, .int i_crossings, .int i_inns, .ref m_posts, .ref m_shut, .ref m_here, .int i_steps, .int i_done, .int i_at, .int i_gone, .ref m_was, .ref m_came, .ref m_seenAt, .ref m_rowWorth, .ref m_farBy, .ref m_used, .int i_everywhere, .int i_again0, .int i_d0, .int i_never, .int i_firstCame, .int i_longRun, .int i_moved, .int i_crowd, .int i_l0, .int i_fitMany, .int i_fitLeast, .int i_fitMost, .ref m_fitPost, .ref m_fitEnd, .ref m_keptPosts, .int i_x0]))], [(m_posts, .inl (T.2 0, 7, .inl f_posts))], [(m_here, .inl (T.2 0, 7, .inl f_here))], [(m_shut, .inl (T.2 0, 7, .inl f_shut))]]) [2, 0, 3, 1] rfl
        exact z_iret C hr hlocks G (Nat.le_of_ble_eq_true rfl) (Nat.le_of_ble_eq_true rfl) dX12_nowOf_51 ⟨rfl, (by rw [h_20]; first | exact zNow_1 (by omega) | exact zNow_2 (by omega))⟩
    · refine lv_tableIn (tgt := 37) hx hb dX12_nowOf_1 (by omega) (by omega) (by rw [c_1]; rfl) (by decide) ?_
      refine lv_aload_n hx hb dX12_nowOf_37 rfl (lv_at hl 0 rfl) ?_
      refine lv_iload_n hx hb dX12_nowOf_38 rfl (lv_at hl 1 rfl) ?_
      refine lv_iconst (v := 1) hx hb dX12_nowOf_39 (by decide) ?_
      refine lv_icmp_ne (tgt := 47) hx hb dX12_nowOf_40 (by decide) (fun c_22 => ?_) (fun c_22 => ?_)
      · have c_22n : ¬ w_.toInt = (1 : Int) := fun q => c_22 ((fa_eq _ _).mpr q)
        refine lv_iconst (v := 0) hx hb dX12_nowOf_47 (by decide) ?_
        refine z_Vi (bc := [[(mo, .inr (11, [.ref m_all, .ref m_has, .int i_size, .int i_next, .int i_where, .int i_token, .int i_number, .int i_word, .int i_wrong, .int i_farCrossing, .ref m_read, .int i_z0, .int i_crossings, .int i_inns, .ref m_posts, .ref m_shut, .ref m_here, .int i_steps, .int i_done, .int i_at, .int i_gone, .ref m_was, .ref m_came, .ref m_seenAt, .ref m_rowWorth, .ref m_farBy, .ref m_used, .int i_everywhere, .int i_again0, .int i_d0, .int i_never, .int i_firstCame, .int i_longRun, .int i_moved, .int i_crowd, .int i_l0, .int i_fitMany, .int i_fitLeast, .int i_fitMost, .ref m_fitPost, .ref m_fitEnd, .ref m_keptPosts, .int i_x0]))], [(m_here, .inl (T.2 0, 7, .inl f_here))]]) (br := [[(m_posts, .inl (T.2 0, 7, .inl f_posts))], [(m_shut, .inl (T.2 0, 7, .inl f_shut))]]) (As := [.int 0]) (rest := []) C G (c_fm_walkersOf l T mo m_all m_has i_size i_next i_where i_token i_number i_word i_wrong i_farCrossing m_read i_z0 i_crossings i_inns m_posts m_shut m_here i_steps i_done i_at i_gone m_was m_came m_seenAt m_rowWorth m_farBy m_used i_everywhere i_again0 i_d0 i_never i_firstCame i_longRun i_moved i_crowd i_l0 i_fitMany i_fitLeast i_fitMost m_fitPost m_fitEnd m_keptPosts i_x0 f_here 0 (by first | with_reducible assumption | with_reducible rfl | omega | assumption | rfl)) (kV_RX12_351 C.2.2.2.2 (Nat.le_of_ble_eq_true rfl) (Nat.le_of_ble_eq_true rfl)) [0, 2] [1, 3] rfl rfl (ci := 11) (qc := (RX12, TX12, 43)) rfl rfl (List.mem_flatten.mpr ⟨_, List.mem_of_getElem? (i := 0) rfl, List.mem_cons_self⟩) rfl rfl hl.1 dX12_nowOf_48 (Nat.le_of_ble_eq_true rfl) (Nat.le_of_ble_eq_true rfl) (fun r_24 b1 H locs hw G => ?_)
        refine hw.elim fun hbs9 h_23 => ?_
        clear hw
        subst hbs9
        have G : zS T A s.heap s [[(m_posts, .inl (T.2 0, 7, .inl f_posts))], [(m_shut, .inl (T.2 0, 7, .inl f_shut))], [(mo, .inr (11, [.ref m_all, .ref m_has, .int i_size, .int i_next, .int i_where, .int i_token, .int i_number, .int i_word, .int i_wrong, .int i_farCrossing, .ref m_read, .int i_z0, .int i_crossings, .int i_inns, .ref m_posts, .ref m_shut, .ref m_here, .int i_steps, .int i_done, .int i_at, .int i_gone, .ref m_was, .ref m_came, .ref m_seenAt, .ref m_rowWorth, .ref m_farBy, .ref m_used, .int i_everywhere, .int i_again0, .int i_d0, .int i_never, .int i_firstCame, .int i_longRun, .int i_moved, .int i_crowd, .int i_l0, .int i_fitMany, .int i_fitLeast, .int i_fitMost, .ref m_fitPost, .ref m_fitEnd, .ref m_keptPosts, .int i_x0]))], [(m_here, .inl (T.2 0, 7, .inl f_here))]] _ _ := G
        have G := G.sub (bs' := [[(mo, .inr (11, [.ref m_all, .ref m_has, .int i_size, .int i_next, .int i_where, .int i_token, .int i_number, .int i_word, .int i_wrong, .int i_farCrossing, .ref m_read, .int i_z0, .int i_crossings, .int i_inns, .ref m_posts, .ref m_shut, .ref m_here, .int i_steps, .int i_done, .int i_at, .int i_gone, .ref m_was, .ref m_came, .ref m_seenAt, .ref m_rowWorth, .ref m_farBy, .ref m_used, .int i_everywhere, .int i_again0, .int i_d0, .int i_never, .int i_firstCame, .int i_longRun, .int i_moved, .int i_crowd, .int i_l0, .int i_fitMany, .int i_fitLeast, .int i_fitMost, .ref m_fitPost, .ref m_fitEnd, .ref m_keptPosts, .int i_x0]))], [(m_posts, .inl (T.2 0, 7, .inl f_posts))], [(m_here, .inl (T.2 0, 7, .inl f_here))], [(m_shut, .inl (T.2 0, 7, .inl f_shut))]]) [2, 0, 3, 1] rfl
        exact z_iret C hr hlocks G (Nat.le_of_ble_eq_true rfl) (Nat.le_of_ble_eq_true rfl) dX12_nowOf_51 ⟨rfl, (by rw [h_23]; first | exact zNow_1 (by omega) | exact zNow_2 (by omega))⟩
      · have c_22n : w_.toInt = (1 : Int) := (fa_eq _ _).mp c_22
        refine lv_iconst (v := 1) hx hb dX12_nowOf_43 (by decide) ?_
        refine lv_goto (tgt := 48) hx hb dX12_nowOf_44 (by decide) ?_
        refine z_Vi (bc := [[(mo, .inr (11, [.ref m_all, .ref m_has, .int i_size, .int i_next, .int i_where, .int i_token, .int i_number, .int i_word, .int i_wrong, .int i_farCrossing, .ref m_read, .int i_z0, .int i_crossings, .int i_inns, .ref m_posts, .ref m_shut, .ref m_here, .int i_steps, .int i_done, .int i_at, .int i_gone, .ref m_was, .ref m_came, .ref m_seenAt, .ref m_rowWorth, .ref m_farBy, .ref m_used, .int i_everywhere, .int i_again0, .int i_d0, .int i_never, .int i_firstCame, .int i_longRun, .int i_moved, .int i_crowd, .int i_l0, .int i_fitMany, .int i_fitLeast, .int i_fitMost, .ref m_fitPost, .ref m_fitEnd, .ref m_keptPosts, .int i_x0]))], [(m_here, .inl (T.2 0, 7, .inl f_here))]]) (br := [[(m_posts, .inl (T.2 0, 7, .inl f_posts))], [(m_shut, .inl (T.2 0, 7, .inl f_shut))]]) (As := [.int 1]) (rest := []) C G (c_fm_walkersOf l T mo m_all m_has i_size i_next i_where i_token i_number i_word i_wrong i_farCrossing m_read i_z0 i_crossings i_inns m_posts m_shut m_here i_steps i_done i_at i_gone m_was m_came m_seenAt m_rowWorth m_farBy m_used i_everywhere i_again0 i_d0 i_never i_firstCame i_longRun i_moved i_crowd i_l0 i_fitMany i_fitLeast i_fitMost m_fitPost m_fitEnd m_keptPosts i_x0 f_here 1 (by first | with_reducible assumption | with_reducible rfl | omega | assumption | rfl)) (kV_RX12_351 C.2.2.2.2 (Nat.le_of_ble_eq_true rfl) (Nat.le_of_ble_eq_true rfl)) [0, 2] [1, 3] rfl rfl (ci := 11) (qc := (RX12, TX12, 43)) rfl rfl (List.mem_flatten.mpr ⟨_, List.mem_of_getElem? (i := 0) rfl, List.mem_cons_self⟩) rfl rfl hl.1 dX12_nowOf_48 (Nat.le_of_ble_eq_true rfl) (Nat.le_of_ble_eq_true rfl) (fun r_26 b1 H locs hw G => ?_)
        refine hw.elim fun hbs9 h_25 => ?_
        clear hw
        subst hbs9
        have G : zS T A s.heap s [[(m_posts, .inl (T.2 0, 7, .inl f_posts))], [(m_shut, .inl (T.2 0, 7, .inl f_shut))], [(mo, .inr (11, [.ref m_all, .ref m_has, .int i_size, .int i_next, .int i_where, .int i_token, .int i_number, .int i_word, .int i_wrong, .int i_farCrossing, .ref m_read, .int i_z0, .int i_crossings, .int i_inns, .ref m_posts, .ref m_shut, .ref m_here, .int i_steps, .int i_done, .int i_at, .int i_gone, .ref m_was, .ref m_came, .ref m_seenAt, .ref m_rowWorth, .ref m_farBy, .ref m_used, .int i_everywhere, .int i_again0, .int i_d0, .int i_never, .int i_firstCame, .int i_longRun, .int i_moved, .int i_crowd, .int i_l0, .int i_fitMany, .int i_fitLeast, .int i_fitMost, .ref m_fitPost, .ref m_fitEnd, .ref m_keptPosts, .int i_x0]))], [(m_here, .inl (T.2 0, 7, .inl f_here))]] _ _ := G
        have G := G.sub (bs' := [[(mo, .inr (11, [.ref m_all, .ref m_has, .int i_size, .int i_next, .int i_where, .int i_token, .int i_number, .int i_word, .int i_wrong, .int i_farCrossing, .ref m_read, .int i_z0, .int i_crossings, .int i_inns, .ref m_posts, .ref m_shut, .ref m_here, .int i_steps, .int i_done, .int i_at, .int i_gone, .ref m_was, .ref m_came, .ref m_seenAt, .ref m_rowWorth, .ref m_farBy, .ref m_used, .int i_everywhere, .int i_again0, .int i_d0, .int i_never, .int i_firstCame, .int i_longRun, .int i_moved, .int i_crowd, .int i_l0, .int i_fitMany, .int i_fitLeast, .int i_fitMost, .ref m_fitPost, .ref m_fitEnd, .ref m_keptPosts, .int i_x0]))], [(m_posts, .inl (T.2 0, 7, .inl f_posts))], [(m_here, .inl (T.2 0, 7, .inl f_here))], [(m_shut, .inl (T.2 0, 7, .inl f_shut))]]) [2, 0, 3, 1] rfl
        exact z_iret C hr hlocks G (Nat.le_of_ble_eq_true rfl) (Nat.le_of_ble_eq_true rfl) dX12_nowOf_51 ⟨rfl, (by rw [h_25]; first | exact zNow_1 (by omega) | exact zNow_2 (by omega))⟩
    · refine lv_tableIn (tgt := 52) hx hb dX12_nowOf_1 (by omega) (by omega) (by rw [c_1]; rfl) (by decide) ?_
      refine lv_aload_n hx hb dX12_nowOf_52 rfl (lv_at hl 0 rfl) ?_
      refine z_get C G clX12 0 rfl 30 (by decide) m_fl_RX12_320 rfl dX12_nowOf_53 ?_
      exact z_iret C hr hlocks G (Nat.le_of_ble_eq_true rfl) (Nat.le_of_ble_eq_true rfl) dX12_nowOf_56 ⟨rfl, (zNow_3 (by omega))⟩

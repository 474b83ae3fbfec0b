abbrev zHas (cr x : Int32) : Prop := 0 ≤ x.toInt ∧ x.toInt < cr.toInt ∧ x.toInt < 7
/-- roads lead to crossings that are there -/
def zLq (cr : Int32) (k1 k2 : Nat → Int32) : Prop := ∀ j r : Nat, j < 7 → r < 4 → (r : Int) < (k1 j).toInt → 0 ≤ (k2 (4 * j + r)).toInt ∧ (k2 (4 * j + r)).toInt < cr.toInt
theorem zLq_e {cr inn z : Int32} {k1 k2 k3 k4 f : Nat → Int32} {B : Nat} (h : zLnd cr inn k1 k2 k3 k4 (fun j => f (B + j))) (hF : zLF (fun j => f (B + j))) (hz : z.toInt.toNat = B) (hV : zVR (fun j => f (z.toInt.toNat + j))) : zLq cr k1 k2 := by
  obtain ⟨ha, -, -, hd, -, hr⟩ := h
  rw [hz] at hV
  intro j r hj hr4 hq
  have e := hr j r hj hr4 hq
  have e : k2 (4 * j + r) = f (B + (23 + 4 * j + r)) := e
  have b : 0 ≤ (f (B + (23 + (4 * j + r)))).toInt := (hF.2.2 (4 * j + r) (by omega)).1
  have d : k1 j = f (B + (2 + j)) := (hd j hj).1
  have v : (r : Int) < (f (B + (2 + j))).toInt → (f (B + (23 + 4 * j + r))).toInt < (f (B + 0)).toInt := (hV j hj).2.2 r hr4
  have ha : cr = f (B + 0) := ha
  rw [e, ha]
  rw [show B + (23 + (4 * j + r)) = B + (23 + 4 * j + r) by omega] at b
  exact ⟨b, v (by rw [← d]; exact hq)⟩
theorem zStep_h {cr inn x : Int32} {f1 f2 f3 k1 k2 : Nat → Int32} (hI : zP3 f1 f3) (hW : ∀ j, j < 7 → f3 j = zWays cr inn k1 (nI j)) (hr : ∀ j, j < 7 → (f3 j).toInt ≤ (k1 j).toInt) (hL : zLq cr k1 k2) (h7 : cr.toInt ≤ 7) (h : ¬ zStep f1 f2 f3 k2 x = -1) : zHas cr (zStep f1 f2 f3 k2 x) := by
  unfold zStep at h ⊢
  by_cases t : zTurn f1 f2 f3 x = -1
  · rw [if_pos t] at h
    exact absurd rfl h
  · rw [if_neg t]
    have g := (zTurn_lt (f2 := f2) hI x).resolve_left t
    have e1 := z_clI g.1
    have e2 := z_clI g.2.2.1
    have q := hI x.toNatClampNeg (by omega)
    have q2 := hr x.toNatClampNeg (by omega)
    have y := hL x.toNatClampNeg (zTurn f1 f2 f3 x).toNatClampNeg (by omega) (by omega) (by omega)
    exact ⟨y.1, y.2, by omega⟩
theorem zWays_r {cr inn : Int32} {k1 k3 f3 : Nat → Int32} (hI : zLI cr k1 k3) (hW : ∀ j, j < 7 → f3 j = zWays cr inn k1 (nI j)) : ∀ j, j < 7 → (f3 j).toInt ≤ (k1 j).toInt := by
  intro j hj
  rw [hW j hj]
  have t2 := nI_clamp (n := j) (by omega)
  have b := (hI.2.1 j hj).1
  unfold zWays
  split
  · rw [t2]; exact Int.le_refl _
  · exact b
theorem zRunN_h {cr inn : Int32} {f2 f3 k1 k2 : Nat → Int32} (hW : ∀ j, j < 7 → f3 j = zWays cr inn k1 (nI j)) (hr : ∀ j, j < 7 → (f3 j).toInt ≤ (k1 j).toInt) (hL : zLq cr k1 k2) (h7 : cr.toInt ≤ 7) : ∀ (n : Nat) (f : Nat → Int32) (x : Int32) (k : Nat), zP3 f f3 → zHas cr x → zHas cr (zRunN f2 f3 k2 n f x k).2.1
  | 0, f, x, k, _, h => h
  | n + 1, f, x, k, hI, h => by
    unfold zRunN
    by_cases q : zStep f f2 f3 k2 x = -1
    · rw [if_pos q]; exact h
    · rw [if_neg q]
      exact zRunN_h hW hr hL h7 n _ _ _ (zPost_I hI x) (zStep_h hI hW hr hL h7 q)
/-- posts, roads shut, walkers; steps; how many came to no inn -/
abbrev zK : Type := (Nat → Int32) × (Nat → Int32) × (Nat → Int32) × Int32 × Int32
def zMvH (H : Nat → Int32) (x y : Int32) : Nat → Int32 := upd (upd H x.toNatClampNeg (H x.toNatClampNeg - 1)) y.toNatClampNeg (upd H x.toNatClampNeg (H x.toNatClampNeg - 1) y.toNatClampNeg + 1)
def zGoF (cr : Int32) (W L : Nat → Int32) (x : Int32) (D : zK) : Option zK := if (zHas cr x ∧ 1 ≤ (D.2.2.1 x.toNatClampNeg).toInt) ∧ ¬ zStep D.1 D.2.1 W L x = -1 then some (zPost D.1 D.2.1 W x, D.2.1, zMvH D.2.2.1 x (zStep D.1 D.2.1 W L x), D.2.2.2.1 + 1, D.2.2.2.2) else none
def zRuF (cr inn : Int32) (W L : Nat → Int32) (x : Int32) (D : zK) : Option zK := if zHas cr x ∧ 1 ≤ (D.2.2.1 x.toNatClampNeg).toInt then some ((zRunN D.2.1 W L 499 D.1 x 0).1, D.2.1, zMvH D.2.2.1 x (zRunN D.2.1 W L 499 D.1 x 0).2.1, D.2.2.2.1 + nI (zRunN D.2.1 W L 499 D.1 x 0).2.2, if zBit inn (zRunN D.2.1 W L 499 D.1 x 0).2.1 = 1 then D.2.2.2.2 else D.2.2.2.2 + 1) else none
def zTuF (cr : Int32) (W : Nat → Int32) (x : Int32) (D : zK) : Option zK := if zHas cr x ∧ ¬ zTurn D.1 D.2.1 W x = -1 then some (zPost D.1 D.2.1 W x, D.2) else none
def zAdF (cr x : Int32) (D : zK) : Option zK := if zHas cr x ∧ (D.2.2.1 x.toNatClampNeg).toInt < 99 then some (D.1, D.2.1, upd D.2.2.1 x.toNatClampNeg (D.2.2.1 x.toNatClampNeg + 1), D.2.2.2) else none
def zShF (cr : Int32) (Ro : Nat → Int32) (x y : Int32) (D : zK) : Option zK := if zHas cr x ∧ (0 ≤ y.toInt ∧ y.toInt < (Ro x.toNatClampNeg).toInt ∧ y.toInt < 4) ∧ zBit (D.2.1 x.toNatClampNeg) y = 0 then some (D.1, upd D.2.1 x.toNatClampNeg (D.2.1 x.toNatClampNeg ||| 1 <<< (y &&& 31)), D.2.2) else none
def zOpF (cr : Int32) (Ro : Nat → Int32) (x y : Int32) (D : zK) : Option zK := if zHas cr x ∧ (0 ≤ y.toInt ∧ y.toInt < (Ro x.toNatClampNeg).toInt ∧ y.toInt < 4) ∧ ¬ zBit (D.2.1 x.toNatClampNeg) y = 0 then some (D.1, upd D.2.1 x.toNatClampNeg (D.2.1 x.toNatClampNeg &&& (1 <<< (y &&& 31) ^^^ (-1))), D.2.2) else none
/-- a deed -/
def zDe (cr inn : Int32) (W Ro L : Nat → Int32) (d x y : Int32) (D : zK) : Option zK := if d.toInt = 0 then zGoF cr W L x D else if d.toInt = 1 then zRuF cr inn W L x D else if d.toInt = 2 then zTuF cr W x D else if d.toInt = 3 then zAdF cr x D else if d.toInt = 4 then zShF cr Ro x y D else if d.toInt = 5 then zOpF cr Ro x y D else none
set_option maxHeartbeats 4000000 in
set_option maxRecDepth 100000 in
/-- c_f_move -/
theorem c_f_move (l : Launch) (T : zTy) (h : Nat) (po : Nat) (la : Nat) (fw : Nat → Int32) (v0 : Int32) (v1 : Int32) (v2 : Int32) (v3 : Int32) (v4 : Int32) (v5 : Int32) (v6 : Int32) (v7 : Int32) (wc : va_W) (cr : Int32) (inn : Int32) (k1 : Nat → Int32) (k2 : Nat → Int32) (k3 : Nat → Int32) (k4 : Nat → Int32) (z : va_W) (x : Int32) (y : Int32) (hc : bCourse T h po la fw v0 v1 v2 v3 v4 v5 v6 v7 wc) (hz : bLand T la cr inn k1 k2 k3 k4 z) (hhx : zHas cr x) (hhy : zHas cr y) : zMv l T yX1_move cX1_move 3 3 0 0 [.ref h, .int x, .int y] [wc, z] (fun bs => ∃ (wc2 : va_W) (gw : Nat → Int32) (u3 : Int32) (u5 : Int32), bs = [wc2, z] ∧ bCourse T h po la gw v0 v1 v2 u3 v4 u5 v6 v7 wc2 ∧ gw = zMvH fw x y) := by
  refine zMv_of (own := RX1) (by decide) rfl (Nat.le_of_ble_eq_true rfl) ?_
  intro p e s m args below meth c A ls C hr hlocks hnm hAe G hl
  have hx := C.1
  have hb := C.2.1
  have hl : lv_has ls 3 [(0, .ref h), (1, .int x), (2, .int y)] := hl
  refine lv_aload_n hx hb dX1_move_0 rfl (lv_at hl 0 rfl) ?_
  obtain ⟨a1_1, rfl⟩ := hc
  have G : zS T A s.heap s [[(h, .inr (1, [.ref po, .ref a1_1, .int v0, .ref la, .int v1, .int v2, .int v3, .int v4, .int v5, .int v6, .int v7]))], [(a1_1, .inl (T.2 0, 7, .inl fw))], z] _ _ := G.re rfl
  refine z_get C G clX1 0 rfl 3 (by decide) m_fl_RX1_25 rfl dX1_move_1 ?_
  refine lv_iload_n hx hb dX1_move_4 rfl (lv_at hl 1 rfl) ?_
  refine z_Vi (bc := [z]) (br := [[(h, .inr (1, [.ref po, .ref a1_1, .int v0, .ref la, .int v1, .int v2, .int v3, .int v4, .int v5, .int v6, .int v7]))], [(a1_1, .inl (T.2 0, 7, .inl fw))]]) (As := [.int x]) (rest := []) C G (c_has l T la cr inn k1 k2 k3 k4 z x hz) (kV_RX1_112 C.2.2.2.2 (Nat.le_of_ble_eq_true rfl) (Nat.le_of_ble_eq_true rfl)) [2] [0, 1] rfl rfl (ci := 4) (qc := (RX4, TX4, 6)) rfl rfl (List.mem_flatten.mpr ⟨_, List.mem_of_getElem? (i := 0) rfl, (bLand_mem hz).choose_spec⟩) rfl rfl hl.1 dX1_move_5 (Nat.le_of_ble_eq_true rfl) (Nat.le_of_ble_eq_true rfl) (fun r_3 b1 H locs hw G => ?_)
  obtain ⟨rfl, hc_2⟩ := hw
  have G : zS T A s.heap s [[(h, .inr (1, [.ref po, .ref a1_1, .int v0, .ref la, .int v1, .int v2, .int v3, .int v4, .int v5, .int v6, .int v7]))], [(a1_1, .inl (T.2 0, 7, .inl fw))], z] _ _ := G
  rcases hc_2 with ⟨rfl, h_4, h_5, h_6⟩ | ⟨rfl, h_7⟩
  · have h_4 : 0 ≤ x.toInt := h_4
    have h_5 : x.toInt < cr.toInt := h_5
    have h_6 : x.toInt < 7 := h_6
    refine lv_if_eq (tgt := 22) hx hb dX1_move_8 (by decide) (fun q => absurd q (by decide)) (fun _ => ?_)
    refine lv_aload_n hx hb dX1_move_11 rfl (lv_at hl 0 rfl) ?_
    refine z_get C G clX1 0 rfl 3 (by decide) m_fl_RX1_25 rfl dX1_move_12 ?_
    refine lv_iload_n hx hb dX1_move_15 rfl (lv_at hl 2 rfl) ?_
    refine z_Vi (bc := [z]) (br := [[(h, .inr (1, [.ref po, .ref a1_1, .int v0, .ref la, .int v1, .int v2, .int v3, .int v4, .int v5, .int v6, .int v7]))], [(a1_1, .inl (T.2 0, 7, .inl fw))]]) (As := [.int y]) (rest := []) C G (c_has l T la cr inn k1 k2 k3 k4 z y hz) (kV_RX1_112 C.2.2.2.2 (Nat.le_of_ble_eq_true rfl) (Nat.le_of_ble_eq_true rfl)) [2] [0, 1] rfl rfl (ci := 4) (qc := (RX4, TX4, 6)) rfl rfl (List.mem_flatten.mpr ⟨_, List.mem_of_getElem? (i := 0) rfl, (bLand_mem hz).choose_spec⟩) rfl rfl hl.1 dX1_move_16 (Nat.le_of_ble_eq_true rfl) (Nat.le_of_ble_eq_true rfl) (fun r_9 b1 H locs hw G => ?_)
    obtain ⟨rfl, hc_8⟩ := hw
    have G : zS T A s.heap s [[(h, .inr (1, [.ref po, .ref a1_1, .int v0, .ref la, .int v1, .int v2, .int v3, .int v4, .int v5, .int v6, .int v7]))], [(a1_1, .inl (T.2 0, 7, .inl fw))], z] _ _ := G
    rcases hc_8 with ⟨rfl, h_10, h_11, h_12⟩ | ⟨rfl, h_13⟩
    · have h_10 : 0 ≤ y.toInt := h_10
      have h_11 : y.toInt < cr.toInt := h_11
      have h_12 : y.toInt < 7 := h_12
      refine lv_if_ne (tgt := 23) hx hb dX1_move_19 (by decide) (fun _ => ?_) (fun q => absurd q (by decide))
      refine lv_aload_n hx hb dX1_move_23 rfl (lv_at hl 0 rfl) ?_
      refine z_get C G clX1 0 rfl 1 (by decide) m_fl_RX1_18 rfl dX1_move_24 ?_
      refine lv_iload_n hx hb dX1_move_27 rfl (lv_at hl 1 rfl) ?_
      refine lv_dup2_11 hx hb dX1_move_28 rfl rfl ?_
      refine z_ild C G 1 rfl (vp_in_iff.mpr ⟨by omega, by omega⟩) dX1_move_29 ?_
      refine lv_topi (fun v_14 ev_14 => ?_)
      subst ev_14
      refine lv_iconst (v := 1) hx hb dX1_move_30 (by decide) ?_
      refine lv_isub hx hb dX1_move_31 ?_
      refine z_ist C G 1 rfl (vp_in_iff.mpr ⟨by omega, by omega⟩) dX1_move_32 (fun H locs G => ?_)
      have G : zS T A s.heap s [[(h, .inr (1, [.ref po, .ref a1_1, .int v0, .ref la, .int v1, .int v2, .int v3, .int v4, .int v5, .int v6, .int v7]))], [(a1_1, .inl (T.2 0, 7, .inl (upd fw x.toNatClampNeg ((fw x.toNatClampNeg) - 1))))], z] _ _ := G
      refine lv_aload_n hx hb dX1_move_33 rfl (lv_at hl 0 rfl) ?_
      refine z_get C G clX1 0 rfl 1 (by decide) m_fl_RX1_18 rfl dX1_move_34 ?_
      refine lv_iload_n hx hb dX1_move_37 rfl (lv_at hl 2 rfl) ?_
      refine lv_dup2_11 hx hb dX1_move_38 rfl rfl ?_
      refine z_ild C G 1 rfl (vp_in_iff.mpr ⟨by omega, by omega⟩) dX1_move_39 ?_
      refine lv_topi (fun v_15 ev_15 => ?_)
      subst ev_15
      refine lv_iconst (v := 1) hx hb dX1_move_40 (by decide) ?_
      refine lv_iadd hx hb dX1_move_41 ?_
      refine z_ist C G 1 rfl (vp_in_iff.mpr ⟨by omega, by omega⟩) dX1_move_42 (fun H locs G => ?_)
      have G : zS T A s.heap s [[(h, .inr (1, [.ref po, .ref a1_1, .int v0, .ref la, .int v1, .int v2, .int v3, .int v4, .int v5, .int v6, .int v7]))], [(a1_1, .inl (T.2 0, 7, .inl (upd (upd fw x.toNatClampNeg ((fw x.toNatClampNeg) - 1)) y.toNatClampNeg (((upd fw x.toNatClampNeg ((fw x.toNatClampNeg) - 1)) y.toNatClampNeg) + 1))))], z] _ _ := G
      refine lv_iload_n hx hb dX1_move_43 rfl (lv_at hl 1 rfl) ?_
      refine lv_iload_n hx hb dX1_move_44 rfl (lv_at hl 2 rfl) ?_
      refine lv_icmp_eq (tgt := 58) hx hb dX1_move_45 (by decide) (fun c_16 => ?_) (fun c_16 => ?_)
      · have c_16n : x.toInt = y.toInt := (fa_eq _ _).mp c_16
        refine lv_aload_n hx hb dX1_move_58 rfl (lv_at hl 0 rfl) ?_
        refine z_get C G clX1 0 rfl 6 (by decide) m_fl_RX1_44 rfl dX1_move_59 ?_
        refine lv_iconst (v := (-1)) hx hb dX1_move_62 (by decide) ?_
        refine lv_icmp_ne (tgt := 96) hx hb dX1_move_63 (by decide) (fun c_17 => ?_) (fun c_17 => ?_)
        · have c_17n : ¬ v3.toInt = (-1 : Int) := fun q => c_17 ((fa_eq _ _).mpr q)
          have hw_18 : bCourse T h po la (upd (upd fw x.toNatClampNeg ((fw x.toNatClampNeg) - 1)) y.toNatClampNeg (((upd fw x.toNatClampNeg ((fw x.toNatClampNeg) - 1)) y.toNatClampNeg) + 1)) v0 v1 v2 v3 v4 v5 v6 v7 [(h, .inr (1, [.ref po, .ref a1_1, .int v0, .ref la, .int v1, .int v2, .int v3, .int v4, .int v5, .int v6, .int v7])), (a1_1, .inl (T.2 0, 7, .inl (upd (upd fw x.toNatClampNeg ((fw x.toNatClampNeg) - 1)) y.toNatClampNeg (((upd fw x.toNatClampNeg ((fw x.toNatClampNeg) - 1)) y.toNatClampNeg) + 1))))] := ⟨a1_1, rfl⟩
          have G : zS T A s.heap s [[(h, .inr (1, [.ref po, .ref a1_1, .int v0, .ref la, .int v1, .int v2, .int v3, .int v4, .int v5, .int v6, .int v7])), (a1_1, .inl (T.2 0, 7, .inl (upd (upd fw x.toNatClampNeg ((fw x.toNatClampNeg) - 1)) y.toNatClampNeg (((upd fw x.toNatClampNeg ((fw x.toNatClampNeg) - 1)) y.toNatClampNeg) + 1))))], z] _ _ := G.re rfl
          exact z_vret C hr hlocks G (Nat.le_of_ble_eq_true rfl) (Nat.le_of_ble_eq_true rfl) dX1_move_96 ⟨([(h, .inr (1, [.ref po, .ref a1_1, .int v0, .ref la, .int v1, .int v2, .int v3, .int v4, .int v5, .int v6, .int v7])), (a1_1, .inl (T.2 0, 7, .inl (upd (upd fw x.toNatClampNeg ((fw x.toNatClampNeg) - 1)) y.toNatClampNeg (((upd fw x.toNatClampNeg ((fw x.toNatClampNeg) - 1)) y.toNatClampNeg) + 1))))]), (upd (upd fw x.toNatClampNeg ((fw x.toNatClampNeg) - 1)) y.toNatClampNeg (((upd fw x.toNatClampNeg ((fw x.toNatClampNeg) - 1)) y.toNatClampNeg) + 1)), v3, v5, rfl, hw_18, rfl⟩
        · have c_17n : v3.toInt = (-1 : Int) := (fa_eq _ _).mp c_17
          refine lv_aload_n hx hb dX1_move_66 rfl (lv_at hl 0 rfl) ?_
          refine z_get C G clX1 0 rfl 3 (by decide) m_fl_RX1_25 rfl dX1_move_67 ?_
          refine lv_iload_n hx hb dX1_move_70 rfl (lv_at hl 2 rfl) ?_
          refine z_Vi (bc := [z]) (br := [[(h, .inr (1, [.ref po, .ref a1_1, .int v0, .ref la, .int v1, .int v2, .int v3, .int v4, .int v5, .int v6, .int v7]))], [(a1_1, .inl (T.2 0, 7, .inl (upd (upd fw x.toNatClampNeg ((fw x.toNatClampNeg) - 1)) y.toNatClampNeg (((upd fw x.toNatClampNeg ((fw x.toNatClampNeg) - 1)) y.toNatClampNeg) + 1))))]]) (As := [.int y]) (rest := []) C G (c_isInn l T la cr inn k1 k2 k3 k4 z y hz) (kV_RX1_135 C.2.2.2.2 (Nat.le_of_ble_eq_true rfl) (Nat.le_of_ble_eq_true rfl)) [2] [0, 1] rfl rfl (ci := 4) (qc := (RX4, TX4, 6)) rfl rfl (List.mem_flatten.mpr ⟨_, List.mem_of_getElem? (i := 0) rfl, (bLand_mem hz).choose_spec⟩) rfl rfl hl.1 dX1_move_71 (Nat.le_of_ble_eq_true rfl) (Nat.le_of_ble_eq_true rfl) (fun r_20 b1 H locs hw G => ?_)
          obtain ⟨rfl, hc_19⟩ := hw
          have G : zS T A s.heap s [[(h, .inr (1, [.ref po, .ref a1_1, .int v0, .ref la, .int v1, .int v2, .int v3, .int v4, .int v5, .int v6, .int v7]))], [(a1_1, .inl (T.2 0, 7, .inl (upd (upd fw x.toNatClampNeg ((fw x.toNatClampNeg) - 1)) y.toNatClampNeg (((upd fw x.toNatClampNeg ((fw x.toNatClampNeg) - 1)) y.toNatClampNeg) + 1))))], z] _ _ := G
          rcases hc_19 with ⟨rfl, h_21, h_22, h_23, h_24⟩ | ⟨rfl, h_25⟩
          · have h_21 : 0 ≤ y.toInt := h_21
            have h_22 : y.toInt < cr.toInt := h_22
            have h_23 : y.toInt < 7 := h_23
            have h_24 : ¬ zBit inn y = 0 := h_24
            refine lv_if_eq (tgt := 96) hx hb dX1_move_74 (by decide) (fun q => absurd q (by decide)) (fun _ => ?_)
            refine lv_aload_n hx hb dX1_move_77 rfl (lv_at hl 0 rfl) ?_
            refine z_get C G clX1 0 rfl 3 (by decide) m_fl_RX1_25 rfl dX1_move_78 ?_
            refine lv_iload_n hx hb dX1_move_81 rfl (lv_at hl 1 rfl) ?_
            refine z_Vi (bc := [z]) (br := [[(h, .inr (1, [.ref po, .ref a1_1, .int v0, .ref la, .int v1, .int v2, .int v3, .int v4, .int v5, .int v6, .int v7]))], [(a1_1, .inl (T.2 0, 7, .inl (upd (upd fw x.toNatClampNeg ((fw x.toNatClampNeg) - 1)) y.toNatClampNeg (((upd fw x.toNatClampNeg ((fw x.toNatClampNeg) - 1)) y.toNatClampNeg) + 1))))]]) (As := [.int x]) (rest := []) C G (c_isInn l T la cr inn k1 k2 k3 k4 z x hz) (kV_RX1_135 C.2.2.2.2 (Nat.le_of_ble_eq_true rfl) (Nat.le_of_ble_eq_true rfl)) [2] [0, 1] rfl rfl (ci := 4) (qc := (RX4, TX4, 6)) rfl rfl (List.mem_flatten.mpr ⟨_, List.mem_of_getElem? (i := 0) rfl, (bLand_mem hz).choose_spec⟩) rfl rfl hl.1 dX1_move_82 (Nat.le_of_ble_eq_true rfl) (Nat.le_of_ble_eq_true rfl) (fun r_27 b1 H locs hw G => ?_)
            obtain ⟨rfl, hc_26⟩ := hw
            have G : zS T A s.heap s [[(h, .inr (1, [.ref po, .ref a1_1, .int v0, .ref la, .int v1, .int v2, .int v3, .int v4, .int v5, .int v6, .int v7]))], [(a1_1, .inl (T.2 0, 7, .inl (upd (upd fw x.toNatClampNeg ((fw x.toNatClampNeg) - 1)) y.toNatClampNeg (((upd fw x.toNatClampNeg ((fw x.toNatClampNeg) - 1)) y.toNatClampNeg) + 1))))], z] _ _ := G
            rcases hc_26 with ⟨rfl, h_28, h_29, h_30, h_31⟩ | ⟨rfl, h_32⟩
            · have h_28 : 0 ≤ x.toInt := h_28
              have h_29 : x.toInt < cr.toInt := h_29
              have h_30 : x.toInt < 7 := h_30
              have h_31 : ¬ zBit inn x = 0 := h_31
              refine lv_if_ne (tgt := 96) hx hb dX1_move_85 (by decide) (fun _ => ?_) (fun q => absurd q (by decide))
              have hw_33 : bCourse T h po la (upd (upd fw x.toNatClampNeg ((fw x.toNatClampNeg) - 1)) y.toNatClampNeg (((upd fw x.toNatClampNeg ((fw x.toNatClampNeg) - 1)) y.toNatClampNeg) + 1)) v0 v1 v2 v3 v4 v5 v6 v7 [(h, .inr (1, [.ref po, .ref a1_1, .int v0, .ref la, .int v1, .int v2, .int v3, .int v4, .int v5, .int v6, .int v7])), (a1_1, .inl (T.2 0, 7, .inl (upd (upd fw x.toNatClampNeg ((fw x.toNatClampNeg) - 1)) y.toNatClampNeg (((upd fw x.toNatClampNeg ((fw x.toNatClampNeg) - 1)) y.toNatClampNeg) + 1))))] := ⟨a1_1, rfl⟩
              have G : zS T A s.heap s [[(h, .inr (1, [.ref po, .ref a1_1, .int v0, .ref la, .int v1, .int v2, .int v3, .int v4, .int v5, .int v6, .int v7])), (a1_1, .inl (T.2 0, 7, .inl (upd (upd fw x.toNatClampNeg ((fw x.toNatClampNeg) - 1)) y.toNatClampNeg (((upd fw x.toNatClampNeg ((fw x.toNatClampNeg) - 1)) y.toNatClampNeg) + 1))))], z] _ _ := G.re rfl
              exact z_vret C hr hlocks G (Nat.le_of_ble_eq_true rfl) (Nat.le_of_ble_eq_true rfl) dX1_move_96 ⟨([(h, .inr (1, [.ref po, .ref a1_1, .int v0, .ref la, .int v1, .int v2, .int v3, .int v4, .int v5, .int v6, .int v7])), (a1_1, .inl (T.2 0, 7, .inl (upd (upd fw x.toNatClampNeg ((fw x.toNatClampNeg) - 1)) y.toNatClampNeg (((upd fw x.toNatClampNeg ((fw x.toNatClampNeg) - 1)) y.toNatClampNeg) + 1))))]), (upd (upd fw x.toNatClampNeg ((fw x.toNatClampNeg) - 1)) y.toNatClampNeg (((upd fw x.toNatClampNeg ((fw x.toNatClampNeg) - 1)) y.toNatClampNeg) + 1)), v3, v5, rfl, hw_33, rfl⟩
            · have h_32 : (x.toInt < 0 ∨ cr.toInt ≤ x.toInt ∨ 7 ≤ x.toInt ∨ zBit inn x = 0) := h_32
              refine lv_if_ne (tgt := 96) hx hb dX1_move_85 (by decide) (fun q => absurd (by decide) q) (fun _ => ?_)
              refine lv_aload_n hx hb dX1_move_88 rfl (lv_at hl 0 rfl) ?_
              refine lv_aload_n hx hb dX1_move_89 rfl (lv_at hl 0 rfl) ?_
              refine z_get C G clX1 0 rfl 5 (by decide) m_fl_RX1_41 rfl dX1_move_90 ?_
              refine z_put C G clX1 0 rfl 6 (by decide) m_fl_RX1_44 rfl rfl rfl (Nat.le_of_ble_eq_true rfl) dX1_move_93 (fun H locs G => ?_)
              have G : zS T A s.heap s [[(h, .inr (1, [.ref po, .ref a1_1, .int v0, .ref la, .int v1, .int v2, .int v2, .int v4, .int v5, .int v6, .int v7]))], [(a1_1, .inl (T.2 0, 7, .inl (upd (upd fw x.toNatClampNeg ((fw x.toNatClampNeg) - 1)) y.toNatClampNeg (((upd fw x.toNatClampNeg ((fw x.toNatClampNeg) - 1)) y.toNatClampNeg) + 1))))], z] _ _ := G
              have hw_34 : bCourse T h po la (upd (upd fw x.toNatClampNeg ((fw x.toNatClampNeg) - 1)) y.toNatClampNeg (((upd fw x.toNatClampNeg ((fw x.toNatClampNeg) - 1)) y.toNatClampNeg) + 1)) v0 v1 v2 v2 v4 v5 v6 v7 [(h, .inr (1, [.ref po, .ref a1_1, .int v0, .ref la, .int v1, .int v2, .int v2, .int v4, .int v5, .int v6, .int v7])), (a1_1, .inl (T.2 0, 7, .inl (upd (upd fw x.toNatClampNeg ((fw x.toNatClampNeg) - 1)) y.toNatClampNeg (((upd fw x.toNatClampNeg ((fw x.toNatClampNeg) - 1)) y.toNatClampNeg) + 1))))] := ⟨a1_1, rfl⟩
              have G : zS T A s.heap s [[(h, .inr (1, [.ref po, .ref a1_1, .int v0, .ref la, .int v1, .int v2, .int v2, .int v4, .int v5, .int v6, .int v7])), (a1_1, .inl (T.2 0, 7, .inl (upd (upd fw x.toNatClampNeg ((fw x.toNatClampNeg) - 1)) y.toNatClampNeg (((upd fw x.toNatClampNeg ((fw x.toNatClampNeg) - 1)) y.toNatClampNeg) + 1))))], z] _ _ := G.re rfl
              exact z_vret C hr hlocks G (Nat.le_of_ble_eq_true rfl) (Nat.le_of_ble_eq_true rfl) dX1_move_96 ⟨([(h, .inr (1, [.ref po, .ref a1_1, .int v0, .ref la, .int v1, .int v2, .int v2, .int v4, .int v5, .int v6, .int v7])), (a1_1, .inl (T.2 0, 7, .inl (upd (upd fw x.toNatClampNeg ((fw x.toNatClampNeg) - 1)) y.toNatClampNeg (((upd fw x.toNatClampNeg ((fw x.toNatClampNeg) - 1)) y.toNatClampNeg) + 1))))]), (upd (upd fw x.toNatClampNeg ((fw x.toNatClampNeg) - 1)) y.toNatClampNeg (((upd fw x.toNatClampNeg ((fw x.toNatClampNeg) - 1)) y.toNatClampNeg) + 1)), v2, v5, rfl, hw_34, rfl⟩
          · have h_25 : (y.toInt < 0 ∨ cr.toInt ≤ y.toInt ∨ 7 ≤ y.toInt ∨ zBit inn y = 0) := h_25
            refine lv_if_eq (tgt := 96) hx hb dX1_move_74 (by decide) (fun _ => ?_) (fun q => absurd (by decide) q)
            have hw_35 : bCourse T h po la (upd (upd fw x.toNatClampNeg ((fw x.toNatClampNeg) - 1)) y.toNatClampNeg (((upd fw x.toNatClampNeg ((fw x.toNatClampNeg) - 1)) y.toNatClampNeg) + 1)) v0 v1 v2 v3 v4 v5 v6 v7 [(h, .inr (1, [.ref po, .ref a1_1, .int v0, .ref la, .int v1, .int v2, .int v3, .int v4, .int v5, .int v6, .int v7])), (a1_1, .inl (T.2 0, 7, .inl (upd (upd fw x.toNatClampNeg ((fw x.toNatClampNeg) - 1)) y.toNatClampNeg (((upd fw x.toNatClampNeg ((fw x.toNatClampNeg) - 1)) y.toNatClampNeg) + 1))))] := ⟨a1_1, rfl⟩
            have G : zS T A s.heap s [[(h, .inr (1, [.ref po, .ref a1_1, .int v0, .ref la, .int v1, .int v2, .int v3, .int v4, .int v5, .int v6, .int v7])), (a1_1, .inl (T.2 0, 7, .inl (upd (upd fw x.toNatClampNeg ((fw x.toNatClampNeg) - 1)) y.toNatClampNeg (((upd fw x.toNatClampNeg ((fw x.toNatClampNeg) - 1)) y.toNatClampNeg) + 1))))], z] _ _ := G.re rfl
            exact z_vret C hr hlocks G (Nat.le_of_ble_eq_true rfl) (Nat.le_of_ble_eq_true rfl) dX1_move_96 ⟨([(h, .inr (1, [.ref po, .ref a1_1, .int v0, .ref la, .int v1, .int v2, .int v3, .int v4, .int v5, .int v6, .int v7])), (a1_1, .inl (T.2 0, 7, .inl (upd (upd fw x.toNatClampNeg ((fw x.toNatClampNeg) - 1)) y.toNatClampNeg (((upd fw x.toNatClampNeg ((fw x.toNatClampNeg) - 1)) y.toNatClampNeg) + 1))))]), (upd (upd fw x.toNatClampNeg ((fw x.toNatClampNeg) - 1)) y.toNatClampNeg (((upd fw x.toNatClampNeg ((fw x.toNatClampNeg) - 1)) y.toNatClampNeg) + 1)), v3, v5, rfl, hw_35, rfl⟩
      · have c_16n : ¬ x.toInt = y.toInt := fun q => c_16 ((fa_eq _ _).mpr q)
        refine lv_aload_n hx hb dX1_move_48 rfl (lv_at hl 0 rfl) ?_
        refine lv_dup hx hb dX1_move_49 rfl ?_
        refine z_get C G clX1 0 rfl 8 (by decide) m_fl_RX1_50 rfl dX1_move_50 ?_
        refine lv_iconst (v := 1) hx hb dX1_move_53 (by decide) ?_
        refine lv_iadd hx hb dX1_move_54 ?_
        refine z_put C G clX1 0 rfl 8 (by decide) m_fl_RX1_50 rfl rfl rfl (Nat.le_of_ble_eq_true rfl) dX1_move_55 (fun H locs G => ?_)
        have G : zS T A s.heap s [[(h, .inr (1, [.ref po, .ref a1_1, .int v0, .ref la, .int v1, .int v2, .int v3, .int v4, .int (v5 + 1), .int v6, .int v7]))], [(a1_1, .inl (T.2 0, 7, .inl (upd (upd fw x.toNatClampNeg ((fw x.toNatClampNeg) - 1)) y.toNatClampNeg (((upd fw x.toNatClampNeg ((fw x.toNatClampNeg) - 1)) y.toNatClampNeg) + 1))))], z] _ _ := G
        refine lv_aload_n hx hb dX1_move_58 rfl (lv_at hl 0 rfl) ?_
        refine z_get C G clX1 0 rfl 6 (by decide) m_fl_RX1_44 rfl dX1_move_59 ?_
        refine lv_iconst (v := (-1)) hx hb dX1_move_62 (by decide) ?_
        refine lv_icmp_ne (tgt := 96) hx hb dX1_move_63 (by decide) (fun c_36 => ?_) (fun c_36 => ?_)
        · have c_36n : ¬ v3.toInt = (-1 : Int) := fun q => c_36 ((fa_eq _ _).mpr q)
          have hw_37 : bCourse T h po la (upd (upd fw x.toNatClampNeg ((fw x.toNatClampNeg) - 1)) y.toNatClampNeg (((upd fw x.toNatClampNeg ((fw x.toNatClampNeg) - 1)) y.toNatClampNeg) + 1)) v0 v1 v2 v3 v4 (v5 + 1) v6 v7 [(h, .inr (1, [.ref po, .ref a1_1, .int v0, .ref la, .int v1, .int v2, .int v3, .int v4, .int (v5 + 1), .int v6, .int v7])), (a1_1, .inl (T.2 0, 7, .inl (upd (upd fw x.toNatClampNeg ((fw x.toNatClampNeg) - 1)) y.toNatClampNeg (((upd fw x.toNatClampNeg ((fw x.toNatClampNeg) - 1)) y.toNatClampNeg) + 1))))] := ⟨a1_1, rfl⟩
          have G : zS T A s.heap s [[(h, .inr (1, [.ref po, .ref a1_1, .int v0, .ref la, .int v1, .int v2, .int v3, .int v4, .int (v5 + 1), .int v6, .int v7])), (a1_1, .inl (T.2 0, 7, .inl (upd (upd fw x.toNatClampNeg ((fw x.toNatClampNeg) - 1)) y.toNatClampNeg (((upd fw x.toNatClampNeg ((fw x.toNatClampNeg) - 1)) y.toNatClampNeg) + 1))))], z] _ _ := G.re rfl
          exact z_vret C hr hlocks G (Nat.le_of_ble_eq_true rfl) (Nat.le_of_ble_eq_true rfl) dX1_move_96 ⟨([(h, .inr (1, [.ref po, .ref a1_1, .int v0, .ref la, .int v1, .int v2, .int v3, .int v4, .int (v5 + 1), .int v6, .int v7])), (a1_1, .inl (T.2 0, 7, .inl (upd (upd fw x.toNatClampNeg ((fw x.toNatClampNeg) - 1)) y.toNatClampNeg (((upd fw x.toNatClampNeg ((fw x.toNatClampNeg) - 1)) y.toNatClampNeg) + 1))))]), (upd (upd fw x.toNatClampNeg ((fw x.toNatClampNeg) - 1)) y.toNatClampNeg (((upd fw x.toNatClampNeg ((fw x.toNatClampNeg) - 1)) y.toNatClampNeg) + 1)), v3, (v5 + 1), rfl, hw_37, rfl⟩
        · have c_36n : v3.toInt = (-1 : Int) := (fa_eq _ _).mp c_36
          refine lv_aload_n hx hb dX1_move_66 rfl (lv_at hl 0 rfl) ?_
          refine z_get C G clX1 0 rfl 3 (by decide) m_fl_RX1_25 rfl dX1_move_67 ?_
          refine lv_iload_n hx hb dX1_move_70 rfl (lv_at hl 2 rfl) ?_
          refine z_Vi (bc := [z]) (br := [[(h, .inr (1, [.ref po, .ref a1_1, .int v0, .ref la, .int v1, .int v2, .int v3, .int v4, .int (v5 + 1), .int v6, .int v7]))], [(a1_1, .inl (T.2 0, 7, .inl (upd (upd fw x.toNatClampNeg ((fw x.toNatClampNeg) - 1)) y.toNatClampNeg (((upd fw x.toNatClampNeg ((fw x.toNatClampNeg) - 1)) y.toNatClampNeg) + 1))))]]) (As := [.int y]) (rest := []) C G (c_isInn l T la cr inn k1 k2 k3 k4 z y hz) (kV_RX1_135 C.2.2.2.2 (Nat.le_of_ble_eq_true rfl) (Nat.le_of_ble_eq_true rfl)) [2] [0, 1] rfl rfl (ci := 4) (qc := (RX4, TX4, 6)) rfl rfl (List.mem_flatten.mpr ⟨_, List.mem_of_getElem? (i := 0) rfl, (bLand_mem hz).choose_spec⟩) rfl rfl hl.1 dX1_move_71 (Nat.le_of_ble_eq_true rfl) (Nat.le_of_ble_eq_true rfl) (fun r_39 b1 H locs hw G => ?_)
          obtain ⟨rfl, hc_38⟩ := hw
          have G : zS T A s.heap s [[(h, .inr (1, [.ref po, .ref a1_1, .int v0, .ref la, .int v1, .int v2, .int v3, .int v4, .int (v5 + 1), .int v6, .int v7]))], [(a1_1, .inl (T.2 0, 7, .inl (upd (upd fw x.toNatClampNeg ((fw x.toNatClampNeg) - 1)) y.toNatClampNeg (((upd fw x.toNatClampNeg ((fw x.toNatClampNeg) - 1)) y.toNatClampNeg) + 1))))], z] _ _ := G
          rcases hc_38 with ⟨rfl, h_40, h_41, h_42, h_43⟩ | ⟨rfl, h_44⟩
          · have h_40 : 0 ≤ y.toInt := h_40
            have h_41 : y.toInt < cr.toInt := h_41
            have h_42 : y.toInt < 7 := h_42
            have h_43 : ¬ zBit inn y = 0 := h_43
            refine lv_if_eq (tgt := 96) hx hb dX1_move_74 (by decide) (fun q => absurd q (by decide)) (fun _ => ?_)
            refine lv_aload_n hx hb dX1_move_77 rfl (lv_at hl 0 rfl) ?_
            refine z_get C G clX1 0 rfl 3 (by decide) m_fl_RX1_25 rfl dX1_move_78 ?_
            refine lv_iload_n hx hb dX1_move_81 rfl (lv_at hl 1 rfl) ?_
            refine z_Vi (bc := [z]) (br := [[(h, .inr (1, [.ref po, .ref a1_1, .int v0, .ref la, .int v1, .int v2, .int v3, .int v4, .int (v5 + 1), .int v6, .int v7]))], [(a1_1, .inl (T.2 0, 7, .inl (upd (upd fw x.toNatClampNeg ((fw x.toNatClampNeg) - 1)) y.toNatClampNeg (((upd fw x.toNatClampNeg ((fw x.toNatClampNeg) - 1)) y.toNatClampNeg) + 1))))]]) (As := [.int x]) (rest := []) C G (c_isInn l T la cr inn k1 k2 k3 k4 z x hz) (kV_RX1_135 C.2.2.2.2 (Nat.le_of_ble_eq_true rfl) (Nat.le_of_ble_eq_true rfl)) [2] [0, 1] rfl rfl (ci := 4) (qc := (RX4, TX4, 6)) rfl rfl (List.mem_flatten.mpr ⟨_, List.mem_of_getElem? (i := 0) rfl, (bLand_mem hz).choose_spec⟩) rfl rfl hl.1 dX1_move_82 (Nat.le_of_ble_eq_true rfl) (Nat.le_of_ble_eq_true rfl) (fun r_46 b1 H locs hw G => ?_)
            obtain ⟨rfl, hc_45⟩ := hw
            have G : zS T A s.heap s [[(h, .inr (1, [.ref po, .ref a1_1, .int v0, .ref la, .int v1, .int v2, .int v3, .int v4, .int (v5 + 1), .int v6, .int v7]))], [(a1_1, .inl (T.2 0, 7, .inl (upd (upd fw x.toNatClampNeg ((fw x.toNatClampNeg) - 1)) y.toNatClampNeg (((upd fw x.toNatClampNeg ((fw x.toNatClampNeg) - 1)) y.toNatClampNeg) + 1))))], z] _ _ := G
            rcases hc_45 with ⟨rfl, h_47, h_48, h_49, h_50⟩ | ⟨rfl, h_51⟩
            · have h_47 : 0 ≤ x.toInt := h_47
              have h_48 : x.toInt < cr.toInt := h_48
              have h_49 : x.toInt < 7 := h_49
              have h_50 : ¬ zBit inn x = 0 := h_50
              refine lv_if_ne (tgt := 96) hx hb dX1_move_85 (by decide) (fun _ => ?_) (fun q => absurd q (by decide))
              have hw_52 : bCourse T h po la (upd (upd fw x.toNatClampNeg ((fw x.toNatClampNeg) - 1)) y.toNatClampNeg (((upd fw x.toNatClampNeg ((fw x.toNatClampNeg) - 1)) y.toNatClampNeg) + 1)) v0 v1 v2 v3 v4 (v5 + 1) v6 v7 [(h, .inr (1, [.ref po, .ref a1_1, .int v0, .ref la, .int v1, .int v2, .int v3, .int v4, .int (v5 + 1), .int v6, .int v7])), (a1_1, .inl (T.2 0, 7, .inl (upd (upd fw x.toNatClampNeg ((fw x.toNatClampNeg) - 1)) y.toNatClampNeg (((upd fw x.toNatClampNeg ((fw x.toNatClampNeg) - 1)) y.toNatClampNeg) + 1))))] := ⟨a1_1, rfl⟩
              have G : zS T A s.heap s [[(h, .inr (1, [.ref po, .ref a1_1, .int v0, .ref la, .int v1, .int v2, .int v3, .int v4, .int (v5 + 1), .int v6, .int v7])), (a1_1, .inl (T.2 0, 7, .inl (upd (upd fw x.toNatClampNeg ((fw x.toNatClampNeg) - 1)) y.toNatClampNeg (((upd fw x.toNatClampNeg ((fw x.toNatClampNeg) - 1)) y.toNatClampNeg) + 1))))], z] _ _ := G.re rfl
              exact z_vret C hr hlocks G (Nat.le_of_ble_eq_true rfl) (Nat.le_of_ble_eq_true rfl) dX1_move_96 ⟨([(h, .inr (1, [.ref po, .ref a1_1, .int v0, .ref la, .int v1, .int v2, .int v3, .int v4, .int (v5 + 1), .int v6, .int v7])), (a1_1, .inl (T.2 0, 7, .inl (upd (upd fw x.toNatClampNeg ((fw x.toNatClampNeg) - 1)) y.toNatClampNeg (((upd fw x.toNatClampNeg ((fw x.toNatClampNeg) - 1)) y.toNatClampNeg) + 1))))]), (upd (upd fw x.toNatClampNeg ((fw x.toNatClampNeg) - 1)) y.toNatClampNeg (((upd fw x.toNatClampNeg ((fw x.toNatClampNeg) - 1)) y.toNatClampNeg) + 1)), v3, (v5 + 1), rfl, hw_52, rfl⟩
            · have h_51 : (x.toInt < 0 ∨ cr.toInt ≤ x.toInt ∨ 7 ≤ x.toInt ∨ zBit inn x = 0) := h_51
              refine lv_if_ne (tgt := 96) hx hb dX1_move_85 (by decide) (fun q => absurd (by decide) q) (fun _ => ?_)
              refine lv_aload_n hx hb dX1_move_88 rfl (lv_at hl 0 rfl) ?_
              refine lv_aload_n hx hb dX1_move_89 rfl (lv_at hl 0 rfl) ?_
              refine z_get C G clX1 0 rfl 5 (by decide) m_fl_RX1_41 rfl dX1_move_90 ?_
              refine z_put C G clX1 0 rfl 6 (by decide) m_fl_RX1_44 rfl rfl rfl (Nat.le_of_ble_eq_true rfl) dX1_move_93 (fun H locs G => ?_)
              have G : zS T A s.heap s [[(h, .inr (1, [.ref po, .ref a1_1, .int v0, .ref la, .int v1, .int v2, .int v2, .int v4, .int (v5 + 1), .int v6, .int v7]))], [(a1_1, .inl (T.2 0, 7, .inl (upd (upd fw x.toNatClampNeg ((fw x.toNatClampNeg) - 1)) y.toNatClampNeg (((upd fw x.toNatClampNeg ((fw x.toNatClampNeg) - 1)) y.toNatClampNeg) + 1))))], z] _ _ := G
              have hw_53 : bCourse T h po la (upd (upd fw x.toNatClampNeg ((fw x.toNatClampNeg) - 1)) y.toNatClampNeg (((upd fw x.toNatClampNeg ((fw x.toNatClampNeg) - 1)) y.toNatClampNeg) + 1)) v0 v1 v2 v2 v4 (v5 + 1) v6 v7 [(h, .inr (1, [.ref po, .ref a1_1, .int v0, .ref la, .int v1, .int v2, .int v2, .int v4, .int (v5 + 1), .int v6, .int v7])), (a1_1, .inl (T.2 0, 7, .inl (upd (upd fw x.toNatClampNeg ((fw x.toNatClampNeg) - 1)) y.toNatClampNeg (((upd fw x.toNatClampNeg ((fw x.toNatClampNeg) - 1)) y.toNatClampNeg) + 1))))] := ⟨a1_1, rfl⟩
              have G : zS T A s.heap s [[(h, .inr (1, [.ref po, .ref a1_1, .int v0, .ref la, .int v1, .int v2, .int v2, .int v4, .int (v5 + 1), .int v6, .int v7])), (a1_1, .inl (T.2 0, 7, .inl (upd (upd fw x.toNatClampNeg ((fw x.toNatClampNeg) - 1)) y.toNatClampNeg (((upd fw x.toNatClampNeg ((fw x.toNatClampNeg) - 1)) y.toNatClampNeg) + 1))))], z] _ _ := G.re rfl
              exact z_vret C hr hlocks G (Nat.le_of_ble_eq_true rfl) (Nat.le_of_ble_eq_true rfl) dX1_move_96 ⟨([(h, .inr (1, [.ref po, .ref a1_1, .int v0, .ref la, .int v1, .int v2, .int v2, .int v4, .int (v5 + 1), .int v6, .int v7])), (a1_1, .inl (T.2 0, 7, .inl (upd (upd fw x.toNatClampNeg ((fw x.toNatClampNeg) - 1)) y.toNatClampNeg (((upd fw x.toNatClampNeg ((fw x.toNatClampNeg) - 1)) y.toNatClampNeg) + 1))))]), (upd (upd fw x.toNatClampNeg ((fw x.toNatClampNeg) - 1)) y.toNatClampNeg (((upd fw x.toNatClampNeg ((fw x.toNatClampNeg) - 1)) y.toNatClampNeg) + 1)), v2, (v5 + 1), rfl, hw_53, rfl⟩
          · have h_44 : (y.toInt < 0 ∨ cr.toInt ≤ y.toInt ∨ 7 ≤ y.toInt ∨ zBit inn y = 0) := h_44
            refine lv_if_eq (tgt := 96) hx hb dX1_move_74 (by decide) (fun _ => ?_) (fun q => absurd (by decide) q)
            have hw_54 : bCourse T h po la (upd (upd fw x.toNatClampNeg ((fw x.toNatClampNeg) - 1)) y.toNatClampNeg (((upd fw x.toNatClampNeg ((fw x.toNatClampNeg) - 1)) y.toNatClampNeg) + 1)) v0 v1 v2 v3 v4 (v5 + 1) v6 v7 [(h, .inr (1, [.ref po, .ref a1_1, .int v0, .ref la, .int v1, .int v2, .int v3, .int v4, .int (v5 + 1), .int v6, .int v7])), (a1_1, .inl (T.2 0, 7, .inl (upd (upd fw x.toNatClampNeg ((fw x.toNatClampNeg) - 1)) y.toNatClampNeg (((upd fw x.toNatClampNeg ((fw x.toNatClampNeg) - 1)) y.toNatClampNeg) + 1))))] := ⟨a1_1, rfl⟩
            have G : zS T A s.heap s [[(h, .inr (1, [.ref po, .ref a1_1, .int v0, .ref la, .int v1, .int v2, .int v3, .int v4, .int (v5 + 1), .int v6, .int v7])), (a1_1, .inl (T.2 0, 7, .inl (upd (upd fw x.toNatClampNeg ((fw x.toNatClampNeg) - 1)) y.toNatClampNeg (((upd fw x.toNatClampNeg ((fw x.toNatClampNeg) - 1)) y.toNatClampNeg) + 1))))], z] _ _ := G.re rfl
            exact z_vret C hr hlocks G (Nat.le_of_ble_eq_true rfl) (Nat.le_of_ble_eq_true rfl) dX1_move_96 ⟨([(h, .inr (1, [.ref po, .ref a1_1, .int v0, .ref la, .int v1, .int v2, .int v3, .int v4, .int (v5 + 1), .int v6, .int v7])), (a1_1, .inl (T.2 0, 7, .inl (upd (upd fw x.toNatClampNeg ((fw x.toNatClampNeg) - 1)) y.toNatClampNeg (((upd fw x.toNatClampNeg ((fw x.toNatClampNeg) - 1)) y.toNatClampNeg) + 1))))]), (upd (upd fw x.toNatClampNeg ((fw x.toNatClampNeg) - 1)) y.toNatClampNeg (((upd fw x.toNatClampNeg ((fw x.toNatClampNeg) - 1)) y.toNatClampNeg) + 1)), v3, (v5 + 1), rfl, hw_54, rfl⟩
    · have h_13 : (y.toInt < 0 ∨ cr.toInt ≤ y.toInt ∨ 7 ≤ y.toInt) := h_13
      refine lv_if_ne (tgt := 23) hx hb dX1_move_19 (by decide) (fun q => absurd (by decide) q) (fun _ => ?_)
      have hw_55 : bCourse T h po la fw v0 v1 v2 v3 v4 v5 v6 v7 [(h, .inr (1, [.ref po, .ref a1_1, .int v0, .ref la, .int v1, .int v2, .int v3, .int v4, .int v5, .int v6, .int v7])), (a1_1, .inl (T.2 0, 7, .inl fw))] := ⟨a1_1, rfl⟩
      have G : zS T A s.heap s [[(h, .inr (1, [.ref po, .ref a1_1, .int v0, .ref la, .int v1, .int v2, .int v3, .int v4, .int v5, .int v6, .int v7])), (a1_1, .inl (T.2 0, 7, .inl fw))], z] _ _ := G.re rfl
      exact z_vret C hr hlocks G (Nat.le_of_ble_eq_true rfl) (Nat.le_of_ble_eq_true rfl) dX1_move_22 ⟨([(h, .inr (1, [.ref po, .ref a1_1, .int v0, .ref la, .int v1, .int v2, .int v3, .int v4, .int v5, .int v6, .int v7])), (a1_1, .inl (T.2 0, 7, .inl fw))]), fw, v3, v5, rfl, hw_55, (by exfalso; omega)⟩
  · have h_7 : (x.toInt < 0 ∨ cr.toInt ≤ x.toInt ∨ 7 ≤ x.toInt) := h_7
    refine lv_if_eq (tgt := 22) hx hb dX1_move_8 (by decide) (fun _ => ?_) (fun q => absurd (by decide) q)
    have hw_56 : bCourse T h po la fw v0 v1 v2 v3 v4 v5 v6 v7 [(h, .inr (1, [.ref po, .ref a1_1, .int v0, .ref la, .int v1, .int v2, .int v3, .int v4, .int v5, .int v6, .int v7])), (a1_1, .inl (T.2 0, 7, .inl fw))] := ⟨a1_1, rfl⟩
    have G : zS T A s.heap s [[(h, .inr (1, [.ref po, .ref a1_1, .int v0, .ref la, .int v1, .int v2, .int v3, .int v4, .int v5, .int v6, .int v7])), (a1_1, .inl (T.2 0, 7, .inl fw))], z] _ _ := G.re rfl
    exact z_vret C hr hlocks G (Nat.le_of_ble_eq_true rfl) (Nat.le_of_ble_eq_true rfl) dX1_move_22 ⟨([(h, .inr (1, [.ref po, .ref a1_1, .int v0, .ref la, .int v1, .int v2, .int v3, .int v4, .int v5, .int v6, .int v7])), (a1_1, .inl (T.2 0, 7, .inl fw))]), fw, v3, v5, rfl, hw_56, (by exfalso; omega)⟩
theorem zStep_t {f1 f2 f3 lf : Nat → Int32} {x : Int32} (h : zStep f1 f2 f3 lf x = -1) (hI : zP3 f1 f3) (hb : ∀ j r : Nat, j < 7 → r < 4 → (r : Int) < (f3 j).toInt → 0 ≤ (lf (4 * j + r)).toInt) : zTurn f1 f2 f3 x = -1 := by
  by_cases t : zTurn f1 f2 f3 x = -1
  · exact t
  · exfalso
    unfold zStep at h
    rw [if_neg t] at h
    have g := (zTurn_lt (f2 := f2) hI x).resolve_left t
    have e1 := z_clI g.1
    have e2 := z_clI g.2.2.1
    have q := (hI x.toNatClampNeg (by omega)).1
    have b := hb x.toNatClampNeg (zTurn f1 f2 f3 x).toNatClampNeg (by omega) (by omega) (by omega)
    rw [h] at b
    exact absurd b (by decide)
theorem zLq_b {cr inn : Int32} {f3 k1 k2 : Nat → Int32} (hr : ∀ j, j < 7 → (f3 j).toInt ≤ (k1 j).toInt) (hL : zLq cr k1 k2) : ∀ j r : Nat, j < 7 → r < 4 → (r : Int) < (f3 j).toInt → 0 ≤ (k2 (4 * j + r)).toInt := fun j r hj hr4 hq => (hL j r hj hr4 (Int.lt_of_lt_of_le hq (hr j hj))).1
set_option maxHeartbeats 4000000 in
set_option maxRecDepth 100000 in
/-- c_f_go -/
theorem c_f_go (l : Launch) (T : zTy) (h : Nat) (po : Nat) (la : Nat) (fw : Nat → Int32) (v0 : Int32) (v1 : Int32) (v2 : Int32) (v3 : Int32) (v4 : Int32) (v5 : Int32) (v6 : Int32) (v7 : Int32) (wc : va_W) (f1 : Nat → Int32) (f2 : Nat → Int32) (f3 : Nat → Int32) (st : Int32) (wh : Int32) (wp : va_W) (cr : Int32) (inn : Int32) (k1 : Nat → Int32) (k2 : Nat → Int32) (k3 : Nat → Int32) (k4 : Nat → Int32) (z : va_W) (x : Int32) (hc : bCourse T h po la fw v0 v1 v2 v3 v4 v5 v6 v7 wc) (hp : bPosts T po la f1 f2 f3 st wh wp) (hz : bLand T la cr inn k1 k2 k3 k4 z) (hP : zP3 f1 f3) (hI : zLI cr k1 k3) (hW : ∀ j, j < 7 → f3 j = zWays cr inn k1 (nI j)) (hLq : zLq cr k1 k2) : zMi l T yX1_go cX1_go 3 (some .boolean) 4 0 0 [.ref h, .int x] [wc, wp, z] (fun (r : Int32) bs => ∃ (wc2 : va_W) (gw : Nat → Int32) (u0 : Int32) (u1 : Int32) (u2 : Int32) (u3 : Int32) (u4 : Int32) (u5 : Int32) (u6 : Int32) (u7 : Int32) (wp2 : va_W) (g1 : Nat → Int32) (g2 : Nat → Int32) (sa : Int32) (wa : Int32), bs = [wc2, wp2, z] ∧ bCourse T h po la gw u0 u1 u2 u3 u4 u5 u6 u7 wc2 ∧ bPosts T po la g1 g2 f3 sa wa wp2 ∧ zP3 g1 f3 ∧ (r = 1 ∧ zGoF cr f3 k2 x (f1, f2, fw, v0, v1) = some (g1, g2, gw, u0, u1) ∨ r = 0 ∧ zGoF cr f3 k2 x (f1, f2, fw, v0, v1) = none ∧ g1 = f1 ∧ g2 = f2 ∧ gw = fw ∧ u0 = v0 ∧ u1 = v1) ∧ (u2 = v2 ∧ u7 = v7)) := by
  refine zMi_of (own := RX1) (by decide) rfl (Nat.le_of_ble_eq_true rfl) ?_
  intro p e s m args below meth c A ls C hr hlocks hnm hAe G hl
  have hx := C.1
  have hb := C.2.1
  have hl : lv_has ls 3 [(0, .ref h), (1, .int x)] := hl
  have h7 := hI.1.2
  have hWr := zWays_r hI hW
  have hLb := zLq_b (inn := inn) hWr hLq
  refine lv_aload_n hx hb dX1_go_0 rfl (lv_at hl 0 rfl) ?_
  obtain ⟨a1_1, rfl⟩ := hc
  have G : zS T A s.heap s [[(h, .inr (1, [.ref po, .ref a1_1, .int v0, .ref la, .int v1, .int v2, .int v3, .int v4, .int v5, .int v6, .int v7]))], [(a1_1, .inl (T.2 0, 7, .inl fw))], wp, z] _ _ := G.re rfl
  refine z_get C G clX1 0 rfl 3 (by decide) m_fl_RX1_25 rfl dX1_go_1 ?_
  refine lv_iload_n hx hb dX1_go_4 rfl (lv_at hl 1 rfl) ?_
  refine z_Vi (bc := [z]) (br := [[(h, .inr (1, [.ref po, .ref a1_1, .int v0, .ref la, .int v1, .int v2, .int v3, .int v4, .int v5, .int v6, .int v7]))], [(a1_1, .inl (T.2 0, 7, .inl fw))], wp]) (As := [.int x]) (rest := []) C G (c_has l T la cr inn k1 k2 k3 k4 z x hz) (kV_RX1_112 C.2.2.2.2 (Nat.le_of_ble_eq_true rfl) (Nat.le_of_ble_eq_true rfl)) [3] [0, 1, 2] rfl rfl (ci := 4) (qc := (RX4, TX4, 6)) rfl rfl (List.mem_flatten.mpr ⟨_, List.mem_of_getElem? (i := 0) rfl, (bLand_mem hz).choose_spec⟩) rfl rfl hl.1 dX1_go_5 (Nat.le_of_ble_eq_true rfl) (Nat.le_of_ble_eq_true rfl) (fun r_3 b1 H locs hw G => ?_)
  obtain ⟨rfl, hc_2⟩ := hw
  have G : zS T A s.heap s [[(h, .inr (1, [.ref po, .ref a1_1, .int v0, .ref la, .int v1, .int v2, .int v3, .int v4, .int v5, .int v6, .int v7]))], [(a1_1, .inl (T.2 0, 7, .inl fw))], wp, z] _ _ := G
  rcases hc_2 with ⟨rfl, h_4, h_5, h_6⟩ | ⟨rfl, h_7⟩
  · have h_4 : 0 ≤ x.toInt := h_4
    have h_5 : x.toInt < cr.toInt := h_5
    have h_6 : x.toInt < 7 := h_6
    refine lv_if_eq (tgt := 21) hx hb dX1_go_8 (by decide) (fun q => absurd q (by decide)) (fun _ => ?_)
    refine lv_aload_n hx hb dX1_go_11 rfl (lv_at hl 0 rfl) ?_
    refine z_get C G clX1 0 rfl 1 (by decide) m_fl_RX1_18 rfl dX1_go_12 ?_
    refine lv_iload_n hx hb dX1_go_15 rfl (lv_at hl 1 rfl) ?_
    refine z_ild C G 1 rfl (vp_in_iff.mpr ⟨by omega, by omega⟩) dX1_go_16 ?_
    refine lv_topi (fun v_8 ev_8 => ?_)
    subst ev_8
    refine lv_iconst (v := 1) hx hb dX1_go_17 (by decide) ?_
    refine lv_icmp_ge (tgt := 23) hx hb dX1_go_18 (by decide) (fun c_9 => ?_) (fun c_9 => ?_)
    · have c_9n : (1 : Int) ≤ (fw x.toNatClampNeg).toInt := (fa_le _ _).mp c_9
      refine lv_aload_n hx hb dX1_go_23 rfl (lv_at hl 0 rfl) ?_
      refine z_get C G clX1 0 rfl 0 (by decide) m_fl_RX1_12 rfl dX1_go_24 ?_
      refine lv_iload_n hx hb dX1_go_27 rfl (lv_at hl 1 rfl) ?_
      refine z_Vi (bc := [wp, z]) (br := [[(h, .inr (1, [.ref po, .ref a1_1, .int v0, .ref la, .int v1, .int v2, .int v3, .int v4, .int v5, .int v6, .int v7]))], [(a1_1, .inl (T.2 0, 7, .inl fw))]]) (As := [.int x]) (rest := []) C G (c_step l T po la f1 f2 f3 st wh wp cr inn k1 k2 k3 k4 z x hp hz hP) (kV_RX1_115 C.2.2.2.2 (Nat.le_of_ble_eq_true rfl) (Nat.le_of_ble_eq_true rfl)) [2, 3] [0, 1] rfl rfl (ci := 6) (qc := (RX6, TX6, 6)) rfl rfl (List.mem_flatten.mpr ⟨_, List.mem_of_getElem? (i := 0) rfl, (bPosts_mem hp).choose_spec⟩) rfl rfl hl.1 dX1_go_28 (Nat.le_of_ble_eq_true rfl) (Nat.le_of_ble_eq_true rfl) (fun r_15 b1 H locs hw G => ?_)
      obtain ⟨w2_10, g1_11, rfl, h_12, h_13, h_14⟩ := hw
      have G : zS T A s.heap s [[(h, .inr (1, [.ref po, .ref a1_1, .int v0, .ref la, .int v1, .int v2, .int v3, .int v4, .int v5, .int v6, .int v7]))], [(a1_1, .inl (T.2 0, 7, .inl fw))], w2_10, z] _ _ := G
      subst h_12
      have hQ2 : zP3 g1_11 f3 := by rw [h_14]; exact zPost_I hP _
      refine lv_istore_n (lv' := [(2, .int (zStep f1 f2 f3 k2 x)), (0, .ref h), (1, .int x)]) hx hb dX1_go_31 rfl hl (by decide) rfl (fun ls hl => ?_)
      refine lv_iload_n hx hb dX1_go_32 rfl (lv_at hl 0 rfl) ?_
      refine lv_iconst (v := (-1)) hx hb dX1_go_33 (by decide) ?_
      refine lv_icmp_ne (tgt := 39) hx hb dX1_go_34 (by decide) (fun c_16 => ?_) (fun c_16 => ?_)
      · have c_16n : ¬ (zStep f1 f2 f3 k2 x).toInt = (-1 : Int) := fun q => c_16 ((fa_eq _ _).mpr q)
        have hhs : zHas cr (zStep f1 f2 f3 k2 x) := zStep_h hP hW hWr hLq h7 (by assumption)
        refine lv_aload_n hx hb dX1_go_39 rfl (lv_at hl 1 rfl) ?_
        refine lv_dup hx hb dX1_go_40 rfl ?_
        refine z_get C G clX1 0 rfl 2 (by decide) m_fl_RX1_34 rfl dX1_go_41 ?_
        refine lv_iconst (v := 1) hx hb dX1_go_44 (by decide) ?_
        refine lv_iadd hx hb dX1_go_45 ?_
        refine z_put C G clX1 0 rfl 2 (by decide) m_fl_RX1_34 rfl rfl rfl (Nat.le_of_ble_eq_true rfl) dX1_go_46 (fun H locs G => ?_)
        have G : zS T A s.heap s [[(h, .inr (1, [.ref po, .ref a1_1, .int (v0 + 1), .ref la, .int v1, .int v2, .int v3, .int v4, .int v5, .int v6, .int v7]))], [(a1_1, .inl (T.2 0, 7, .inl fw))], w2_10, z] _ _ := G
        refine lv_aload_n hx hb dX1_go_49 rfl (lv_at hl 1 rfl) ?_
        refine lv_iload_n hx hb dX1_go_50 rfl (lv_at hl 2 rfl) ?_
        refine lv_iload_n hx hb dX1_go_51 rfl (lv_at hl 0 rfl) ?_
        have hw_17 : bCourse T h po la fw (v0 + 1) v1 v2 v3 v4 v5 v6 v7 [(h, .inr (1, [.ref po, .ref a1_1, .int (v0 + 1), .ref la, .int v1, .int v2, .int v3, .int v4, .int v5, .int v6, .int v7])), (a1_1, .inl (T.2 0, 7, .inl fw))] := ⟨a1_1, rfl⟩
        have G : zS T A s.heap s [[(h, .inr (1, [.ref po, .ref a1_1, .int (v0 + 1), .ref la, .int v1, .int v2, .int v3, .int v4, .int v5, .int v6, .int v7])), (a1_1, .inl (T.2 0, 7, .inl fw))], w2_10, z] _ _ := G.re rfl
        refine z_Vv (bc := [[(h, .inr (1, [.ref po, .ref a1_1, .int (v0 + 1), .ref la, .int v1, .int v2, .int v3, .int v4, .int v5, .int v6, .int v7])), (a1_1, .inl (T.2 0, 7, .inl fw))], z]) (br := [w2_10]) (As := [.int x, .int (zStep f1 f2 f3 k2 x)]) (rest := []) C G (c_f_move l T h po la fw (v0 + 1) v1 v2 v3 v4 v5 v6 v7 ([(h, .inr (1, [.ref po, .ref a1_1, .int (v0 + 1), .ref la, .int v1, .int v2, .int v3, .int v4, .int v5, .int v6, .int v7])), (a1_1, .inl (T.2 0, 7, .inl fw))]) cr inn k1 k2 k3 k4 z x (zStep f1 f2 f3 k2 x) hw_17 hz ⟨by omega, by omega, by omega⟩ hhs) (kV_RX1_118 C.2.2.2.2 (Nat.le_of_ble_eq_true rfl) (Nat.le_of_ble_eq_true rfl)) [0, 2] [1] rfl rfl (ci := 1) (qc := (RX1, TX1, 11)) rfl rfl (List.mem_flatten.mpr ⟨_, List.mem_of_getElem? (i := 0) rfl, (bCourse_mem hw_17).choose_spec⟩) rfl rfl hl.1 dX1_go_52 (Nat.le_of_ble_eq_true rfl) (Nat.le_of_ble_eq_true rfl) (fun b1 H locs hw G => ?_)
        obtain ⟨wc2_18, gw_19, u3_20, u5_21, rfl, h_22, h_23⟩ := hw
        have G : zS T A s.heap s [w2_10, wc2_18, z] _ _ := G
        refine lv_iconst (v := 1) hx hb dX1_go_55 (by decide) ?_
        have G := G.sub (bs' := [wc2_18, w2_10, z]) [1, 0, 2] rfl
        exact z_zret C hr hlocks G (Nat.le_of_ble_eq_true rfl) (Nat.le_of_ble_eq_true rfl) dX1_go_56 rfl ⟨wc2_18, gw_19, (v0 + 1), v1, v2, u3_20, v4, u5_21, v6, v7, w2_10, g1_11, f2, st, wh, rfl, h_22, h_13, hQ2, (Or.inl ⟨rfl, by unfold zGoF; rw [if_pos ⟨⟨⟨by omega, by omega, by omega⟩, by omega⟩, by assumption⟩, h_23, h_14]⟩), ⟨rfl, rfl⟩⟩
      · have c_16n : (zStep f1 f2 f3 k2 x).toInt = (-1 : Int) := (fa_eq _ _).mp c_16
        refine lv_iconst (v := 0) hx hb dX1_go_37 (by decide) ?_
        have hw_25 : bCourse T h po la fw v0 v1 v2 v3 v4 v5 v6 v7 [(h, .inr (1, [.ref po, .ref a1_1, .int v0, .ref la, .int v1, .int v2, .int v3, .int v4, .int v5, .int v6, .int v7])), (a1_1, .inl (T.2 0, 7, .inl fw))] := ⟨a1_1, rfl⟩
        have G : zS T A s.heap s [[(h, .inr (1, [.ref po, .ref a1_1, .int v0, .ref la, .int v1, .int v2, .int v3, .int v4, .int v5, .int v6, .int v7])), (a1_1, .inl (T.2 0, 7, .inl fw))], w2_10, z] _ _ := G.re rfl
        exact z_zret C hr hlocks G (Nat.le_of_ble_eq_true rfl) (Nat.le_of_ble_eq_true rfl) dX1_go_38 rfl ⟨([(h, .inr (1, [.ref po, .ref a1_1, .int v0, .ref la, .int v1, .int v2, .int v3, .int v4, .int v5, .int v6, .int v7])), (a1_1, .inl (T.2 0, 7, .inl fw))]), fw, v0, v1, v2, v3, v4, v5, v6, v7, w2_10, g1_11, f2, st, wh, rfl, hw_25, h_13, hQ2, (Or.inr ⟨rfl, by unfold zGoF; rw [if_neg (fun q8 => q8.2 (by assumption))], by rw [h_14]; unfold zPost; rw [if_pos (zStep_t (by assumption) hP hLb)], rfl, rfl, rfl, rfl⟩), ⟨rfl, rfl⟩⟩
    · have c_9n : ¬ (1 : Int) ≤ (fw x.toNatClampNeg).toInt := fun q => c_9 ((fa_le _ _).mpr q)
      refine lv_iconst (v := 0) hx hb dX1_go_21 (by decide) ?_
      have hw_26 : bCourse T h po la fw v0 v1 v2 v3 v4 v5 v6 v7 [(h, .inr (1, [.ref po, .ref a1_1, .int v0, .ref la, .int v1, .int v2, .int v3, .int v4, .int v5, .int v6, .int v7])), (a1_1, .inl (T.2 0, 7, .inl fw))] := ⟨a1_1, rfl⟩
      have G : zS T A s.heap s [[(h, .inr (1, [.ref po, .ref a1_1, .int v0, .ref la, .int v1, .int v2, .int v3, .int v4, .int v5, .int v6, .int v7])), (a1_1, .inl (T.2 0, 7, .inl fw))], wp, z] _ _ := G.re rfl
      exact z_zret C hr hlocks G (Nat.le_of_ble_eq_true rfl) (Nat.le_of_ble_eq_true rfl) dX1_go_22 rfl ⟨([(h, .inr (1, [.ref po, .ref a1_1, .int v0, .ref la, .int v1, .int v2, .int v3, .int v4, .int v5, .int v6, .int v7])), (a1_1, .inl (T.2 0, 7, .inl fw))]), fw, v0, v1, v2, v3, v4, v5, v6, v7, wp, f1, f2, st, wh, rfl, hw_26, hp, hP, (Or.inr ⟨rfl, by unfold zGoF; rw [if_neg (fun q8 => by dsimp only at q8; omega)], rfl, rfl, rfl, rfl, rfl⟩), ⟨rfl, rfl⟩⟩
  · have h_7 : (x.toInt < 0 ∨ cr.toInt ≤ x.toInt ∨ 7 ≤ x.toInt) := h_7
    refine lv_if_eq (tgt := 21) hx hb dX1_go_8 (by decide) (fun _ => ?_) (fun q => absurd (by decide) q)
    refine lv_iconst (v := 0) hx hb dX1_go_21 (by decide) ?_
    have hw_27 : bCourse T h po la fw v0 v1 v2 v3 v4 v5 v6 v7 [(h, .inr (1, [.ref po, .ref a1_1, .int v0, .ref la, .int v1, .int v2, .int v3, .int v4, .int v5, .int v6, .int v7])), (a1_1, .inl (T.2 0, 7, .inl fw))] := ⟨a1_1, rfl⟩
    have G : zS T A s.heap s [[(h, .inr (1, [.ref po, .ref a1_1, .int v0, .ref la, .int v1, .int v2, .int v3, .int v4, .int v5, .int v6, .int v7])), (a1_1, .inl (T.2 0, 7, .inl fw))], wp, z] _ _ := G.re rfl
    exact z_zret C hr hlocks G (Nat.le_of_ble_eq_true rfl) (Nat.le_of_ble_eq_true rfl) dX1_go_22 rfl ⟨([(h, .inr (1, [.ref po, .ref a1_1, .int v0, .ref la, .int v1, .int v2, .int v3, .int v4, .int v5, .int v6, .int v7])), (a1_1, .inl (T.2 0, 7, .inl fw))]), fw, v0, v1, v2, v3, v4, v5, v6, v7, wp, f1, f2, st, wh, rfl, hw_27, hp, hP, (Or.inr ⟨rfl, by unfold zGoF; rw [if_neg (fun q8 => by dsimp only at q8; omega)], rfl, rfl, rfl, rfl, rfl⟩), ⟨rfl, rfl⟩⟩
theorem zRuF_i {cr inn x w s2 : Int32} {W L P S H g1 gw : Nat → Int32} {st nv n2 : Int32} (h : zHas cr x ∧ 1 ≤ (H x.toNatClampNeg).toInt) (e1 : g1 = (zRunN S W L 499 P x 0).1) (e2 : s2 = nI (zRunN S W L 499 P x 0).2.2) (e3 : w = (zRunN S W L 499 P x 0).2.1) (e4 : gw = zMvH H x w) (e5 : (if zBit inn w = 1 then nv else nv + 1) = n2) : zRuF cr inn W L x (P, S, H, st, nv) = some (g1, S, gw, st + s2, n2) := by
  unfold zRuF
  rw [if_pos h, e1, e4, e2, ← e5, e3]
set_option maxHeartbeats 4000000 in
set_option maxRecDepth 100000 in
/-- c_f_Course_run -/
theorem c_f_Course_run (l : Launch) (T : zTy) (h : Nat) (po : Nat) (la : Nat) (fw : Nat → Int32) (v0 : Int32) (v1 : Int32) (v2 : Int32) (v3 : Int32) (v4 : Int32) (v5 : Int32) (v6 : Int32) (v7 : Int32) (wc : va_W) (f1 : Nat → Int32) (f2 : Nat → Int32) (f3 : Nat → Int32) (st : Int32) (wh : Int32) (wp : va_W) (cr : Int32) (inn : Int32) (k1 : Nat → Int32) (k2 : Nat → Int32) (k3 : Nat → Int32) (k4 : Nat → Int32) (z : va_W) (x : Int32) (hc : bCourse T h po la fw v0 v1 v2 v3 v4 v5 v6 v7 wc) (hp : bPosts T po la f1 f2 f3 st wh wp) (hz : bLand T la cr inn k1 k2 k3 k4 z) (hP : zP3 f1 f3) (hI : zLI cr k1 k3) (hW : ∀ j, j < 7 → f3 j = zWays cr inn k1 (nI j)) (hLq : zLq cr k1 k2) : zMi l T yX1_run cX1_run 2 (some .boolean) 4 0 0 [.ref h, .int x] [wc, wp, z] (fun (r : Int32) bs => ∃ (wc2 : va_W) (gw : Nat → Int32) (u0 : Int32) (u1 : Int32) (u2 : Int32) (u3 : Int32) (u4 : Int32) (u5 : Int32) (u6 : Int32) (u7 : Int32) (wp2 : va_W) (g1 : Nat → Int32) (g2 : Nat → Int32) (sa : Int32) (wa : Int32), bs = [wc2, wp2, z] ∧ bCourse T h po la gw u0 u1 u2 u3 u4 u5 u6 u7 wc2 ∧ bPosts T po la g1 g2 f3 sa wa wp2 ∧ zP3 g1 f3 ∧ (r = 1 ∧ zRuF cr inn f3 k2 x (f1, f2, fw, v0, v1) = some (g1, g2, gw, u0, u1) ∨ r = 0 ∧ zRuF cr inn f3 k2 x (f1, f2, fw, v0, v1) = none ∧ g1 = f1 ∧ g2 = f2 ∧ gw = fw ∧ u0 = v0 ∧ u1 = v1) ∧ (u2 = v2 ∧ u7 = v7)) := by
  refine zMi_of (own := RX1) (by decide) rfl (Nat.le_of_ble_eq_true rfl) ?_
  intro p e s m args below meth c A ls C hr hlocks hnm hAe G hl
  have hx := C.1
  have hb := C.2.1
  have hl : lv_has ls 2 [(0, .ref h), (1, .int x)] := hl
  have h7 := hI.1.2
  have hWr := zWays_r hI hW
  have hLb := zLq_b (inn := inn) hWr hLq
  refine lv_aload_n hx hb dX1_run_0 rfl (lv_at hl 0 rfl) ?_
  obtain ⟨a1_1, rfl⟩ := hc
  have G : zS T A s.heap s [[(h, .inr (1, [.ref po, .ref a1_1, .int v0, .ref la, .int v1, .int v2, .int v3, .int v4, .int v5, .int v6, .int v7]))], [(a1_1, .inl (T.2 0, 7, .inl fw))], wp, z] _ _ := G.re rfl
  refine z_get C G clX1 0 rfl 3 (by decide) m_fl_RX1_25 rfl dX1_run_1 ?_
  refine lv_iload_n hx hb dX1_run_4 rfl (lv_at hl 1 rfl) ?_
  refine z_Vi (bc := [z]) (br := [[(h, .inr (1, [.ref po, .ref a1_1, .int v0, .ref la, .int v1, .int v2, .int v3, .int v4, .int v5, .int v6, .int v7]))], [(a1_1, .inl (T.2 0, 7, .inl fw))], wp]) (As := [.int x]) (rest := []) C G (c_has l T la cr inn k1 k2 k3 k4 z x hz) (kV_RX1_112 C.2.2.2.2 (Nat.le_of_ble_eq_true rfl) (Nat.le_of_ble_eq_true rfl)) [3] [0, 1, 2] rfl rfl (ci := 4) (qc := (RX4, TX4, 6)) rfl rfl (List.mem_flatten.mpr ⟨_, List.mem_of_getElem? (i := 0) rfl, (bLand_mem hz).choose_spec⟩) rfl rfl hl.1 dX1_run_5 (Nat.le_of_ble_eq_true rfl) (Nat.le_of_ble_eq_true rfl) (fun r_3 b1 H locs hw G => ?_)
  obtain ⟨rfl, hc_2⟩ := hw
  have G : zS T A s.heap s [[(h, .inr (1, [.ref po, .ref a1_1, .int v0, .ref la, .int v1, .int v2, .int v3, .int v4, .int v5, .int v6, .int v7]))], [(a1_1, .inl (T.2 0, 7, .inl fw))], wp, z] _ _ := G
  rcases hc_2 with ⟨rfl, h_4, h_5, h_6⟩ | ⟨rfl, h_7⟩
  · have h_4 : 0 ≤ x.toInt := h_4
    have h_5 : x.toInt < cr.toInt := h_5
    have h_6 : x.toInt < 7 := h_6
    refine lv_if_eq (tgt := 21) hx hb dX1_run_8 (by decide) (fun q => absurd q (by decide)) (fun _ => ?_)
    refine lv_aload_n hx hb dX1_run_11 rfl (lv_at hl 0 rfl) ?_
    refine z_get C G clX1 0 rfl 1 (by decide) m_fl_RX1_18 rfl dX1_run_12 ?_
    refine lv_iload_n hx hb dX1_run_15 rfl (lv_at hl 1 rfl) ?_
    refine z_ild C G 1 rfl (vp_in_iff.mpr ⟨by omega, by omega⟩) dX1_run_16 ?_
    refine lv_topi (fun v_8 ev_8 => ?_)
    subst ev_8
    refine lv_iconst (v := 1) hx hb dX1_run_17 (by decide) ?_
    refine lv_icmp_ge (tgt := 23) hx hb dX1_run_18 (by decide) (fun c_9 => ?_) (fun c_9 => ?_)
    · have c_9n : (1 : Int) ≤ (fw x.toNatClampNeg).toInt := (fa_le _ _).mp c_9
      refine lv_aload_n hx hb dX1_run_23 rfl (lv_at hl 0 rfl) ?_
      refine z_get C G clX1 0 rfl 0 (by decide) m_fl_RX1_12 rfl dX1_run_24 ?_
      refine lv_iload_n hx hb dX1_run_27 rfl (lv_at hl 1 rfl) ?_
      refine z_Vv (bc := [wp, z]) (br := [[(h, .inr (1, [.ref po, .ref a1_1, .int v0, .ref la, .int v1, .int v2, .int v3, .int v4, .int v5, .int v6, .int v7]))], [(a1_1, .inl (T.2 0, 7, .inl fw))]]) (As := [.int x]) (rest := []) C G (c_Posts_run l T po la f1 f2 f3 st wh wp cr inn k1 k2 k3 k4 z x hp hz hP) (kV_RX1_122 C.2.2.2.2 (Nat.le_of_ble_eq_true rfl) (Nat.le_of_ble_eq_true rfl)) [2, 3] [0, 1] rfl rfl (ci := 6) (qc := (RX6, TX6, 6)) rfl rfl (List.mem_flatten.mpr ⟨_, List.mem_of_getElem? (i := 0) rfl, (bPosts_mem hp).choose_spec⟩) rfl rfl hl.1 dX1_run_28 (Nat.le_of_ble_eq_true rfl) (Nat.le_of_ble_eq_true rfl) (fun b1 H locs hw G => ?_)
      obtain ⟨w2_10, g1_11, s2_12, x2_13, rfl, h_14, h_15, h_16, h_17⟩ := hw
      have G : zS T A s.heap s [[(h, .inr (1, [.ref po, .ref a1_1, .int v0, .ref la, .int v1, .int v2, .int v3, .int v4, .int v5, .int v6, .int v7]))], [(a1_1, .inl (T.2 0, 7, .inl fw))], w2_10, z] _ _ := G
      have hQ2 : zP3 g1_11 f3 := by rw [h_15]; exact zRunN_I _ _ _ _ hP
      have hhs : zHas cr x2_13 := by rw [h_17]; exact zRunN_h hW hWr hLq h7 499 _ _ _ hP ⟨by omega, by omega, by omega⟩
      refine lv_aload_n hx hb dX1_run_31 rfl (lv_at hl 0 rfl) ?_
      refine lv_dup hx hb dX1_run_32 rfl ?_
      refine z_get C G clX1 0 rfl 2 (by decide) m_fl_RX1_34 rfl dX1_run_33 ?_
      refine lv_aload_n hx hb dX1_run_36 rfl (lv_at hl 0 rfl) ?_
      refine z_get C G clX1 0 rfl 0 (by decide) m_fl_RX1_12 rfl dX1_run_37 ?_
      obtain ⟨a1_19, a2_20, a3_21, rfl⟩ := h_14
      have G : zS T A s.heap s [[(h, .inr (1, [.ref po, .ref a1_1, .int v0, .ref la, .int v1, .int v2, .int v3, .int v4, .int v5, .int v6, .int v7]))], [(a1_1, .inl (T.2 0, 7, .inl fw))], [(po, .inr (6, [.ref la, .ref a1_19, .ref a2_20, .int s2_12, .int x2_13, .ref a3_21]))], [(a1_19, .inl (T.2 0, 7, .inl g1_11))], [(a2_20, .inl (T.2 0, 7, .inl f2))], [(a3_21, .inl (T.2 0, 7, .inl f3))], z] _ _ := G.re rfl
      refine z_get C G clX6 2 rfl 3 (by decide) m_fl_RX1_125 rfl dX1_run_40 ?_
      refine lv_iadd hx hb dX1_run_43 ?_
      refine z_put C G clX1 0 rfl 2 (by decide) m_fl_RX1_34 rfl rfl rfl (Nat.le_of_ble_eq_true rfl) dX1_run_44 (fun H locs G => ?_)
      have G : zS T A s.heap s [[(h, .inr (1, [.ref po, .ref a1_1, .int (v0 + s2_12), .ref la, .int v1, .int v2, .int v3, .int v4, .int v5, .int v6, .int v7]))], [(a1_1, .inl (T.2 0, 7, .inl fw))], [(po, .inr (6, [.ref la, .ref a1_19, .ref a2_20, .int s2_12, .int x2_13, .ref a3_21]))], [(a1_19, .inl (T.2 0, 7, .inl g1_11))], [(a2_20, .inl (T.2 0, 7, .inl f2))], [(a3_21, .inl (T.2 0, 7, .inl f3))], z] _ _ := G
      refine lv_aload_n hx hb dX1_run_47 rfl (lv_at hl 0 rfl) ?_
      refine lv_aload_n hx hb dX1_run_48 rfl (lv_at hl 0 rfl) ?_
      refine z_get C G clX1 0 rfl 7 (by decide) m_fl_RX1_47 rfl dX1_run_49 ?_
      refine lv_aload_n hx hb dX1_run_52 rfl (lv_at hl 0 rfl) ?_
      refine z_get C G clX1 0 rfl 0 (by decide) m_fl_RX1_12 rfl dX1_run_53 ?_
      refine z_get C G clX6 2 rfl 3 (by decide) m_fl_RX1_125 rfl dX1_run_56 ?_
      refine va_mmax hx hb (C.2.2.1.trans hl.1.symm) C.2.2.2.1 (C.2.2.2.2 _ m_ml_RX1_126) (C.2.2.2.2 _ m_st_math_max) (C.2.2.2.2 _ m_ii_math) (C.2.2.2.2 _ m_co_math_max) (Nat.le_of_ble_eq_true rfl) (Nat.le_of_ble_eq_true rfl) (Nat.le_of_ble_eq_true rfl) (Nat.le_of_ble_eq_true rfl) dX1_run_59 ?_
      refine lv_topi (fun v_22 ev_22 => ?_)
      subst ev_22
      refine z_put C G clX1 0 rfl 7 (by decide) m_fl_RX1_47 rfl rfl rfl (Nat.le_of_ble_eq_true rfl) dX1_run_62 (fun H locs G => ?_)
      have G : zS T A s.heap s [[(h, .inr (1, [.ref po, .ref a1_1, .int (v0 + s2_12), .ref la, .int v1, .int v2, .int v3, .int (if v4 < s2_12 then s2_12 else v4), .int v5, .int v6, .int v7]))], [(a1_1, .inl (T.2 0, 7, .inl fw))], [(po, .inr (6, [.ref la, .ref a1_19, .ref a2_20, .int s2_12, .int x2_13, .ref a3_21]))], [(a1_19, .inl (T.2 0, 7, .inl g1_11))], [(a2_20, .inl (T.2 0, 7, .inl f2))], [(a3_21, .inl (T.2 0, 7, .inl f3))], z] _ _ := G
      refine lv_aload_n hx hb dX1_run_65 rfl (lv_at hl 0 rfl) ?_
      refine z_get C G clX1 0 rfl 3 (by decide) m_fl_RX1_25 rfl dX1_run_66 ?_
      refine lv_aload_n hx hb dX1_run_69 rfl (lv_at hl 0 rfl) ?_
      refine z_get C G clX1 0 rfl 0 (by decide) m_fl_RX1_12 rfl dX1_run_70 ?_
      refine z_get C G clX6 2 rfl 4 (by decide) m_fl_RX1_132 rfl dX1_run_73 ?_
      refine z_Vi (bc := [z]) (br := [[(h, .inr (1, [.ref po, .ref a1_1, .int (v0 + s2_12), .ref la, .int v1, .int v2, .int v3, .int (if v4 < s2_12 then s2_12 else v4), .int v5, .int v6, .int v7]))], [(a1_1, .inl (T.2 0, 7, .inl fw))], [(po, .inr (6, [.ref la, .ref a1_19, .ref a2_20, .int s2_12, .int x2_13, .ref a3_21]))], [(a1_19, .inl (T.2 0, 7, .inl g1_11))], [(a2_20, .inl (T.2 0, 7, .inl f2))], [(a3_21, .inl (T.2 0, 7, .inl f3))]]) (As := [.int x2_13]) (rest := []) C G (c_isInn l T la cr inn k1 k2 k3 k4 z x2_13 hz) (kV_RX1_135 C.2.2.2.2 (Nat.le_of_ble_eq_true rfl) (Nat.le_of_ble_eq_true rfl)) [6] [0, 1, 2, 3, 4, 5] rfl rfl (ci := 4) (qc := (RX4, TX4, 6)) rfl rfl (List.mem_flatten.mpr ⟨_, List.mem_of_getElem? (i := 0) rfl, (bLand_mem hz).choose_spec⟩) rfl rfl hl.1 dX1_run_76 (Nat.le_of_ble_eq_true rfl) (Nat.le_of_ble_eq_true rfl) (fun r_24 b1 H locs hw G => ?_)
      obtain ⟨rfl, hc_23⟩ := hw
      have G : zS T A s.heap s [[(h, .inr (1, [.ref po, .ref a1_1, .int (v0 + s2_12), .ref la, .int v1, .int v2, .int v3, .int (if v4 < s2_12 then s2_12 else v4), .int v5, .int v6, .int v7]))], [(a1_1, .inl (T.2 0, 7, .inl fw))], [(po, .inr (6, [.ref la, .ref a1_19, .ref a2_20, .int s2_12, .int x2_13, .ref a3_21]))], [(a1_19, .inl (T.2 0, 7, .inl g1_11))], [(a2_20, .inl (T.2 0, 7, .inl f2))], [(a3_21, .inl (T.2 0, 7, .inl f3))], z] _ _ := G
      rcases hc_23 with ⟨rfl, h_25, h_26, h_27, h_28⟩ | ⟨rfl, h_29⟩
      · have h_25 : 0 ≤ x2_13.toInt := h_25
        have h_26 : x2_13.toInt < cr.toInt := h_26
        have h_27 : x2_13.toInt < 7 := h_27
        have h_28 : ¬ zBit inn x2_13 = 0 := h_28
        refine lv_if_ne (tgt := 92) hx hb dX1_run_79 (by decide) (fun _ => ?_) (fun q => absurd q (by decide))
        refine lv_aload_n hx hb dX1_run_92 rfl (lv_at hl 0 rfl) ?_
        refine lv_iload_n hx hb dX1_run_93 rfl (lv_at hl 1 rfl) ?_
        refine lv_aload_n hx hb dX1_run_94 rfl (lv_at hl 0 rfl) ?_
        refine z_get C G clX1 0 rfl 0 (by decide) m_fl_RX1_12 rfl dX1_run_95 ?_
        refine z_get C G clX6 2 rfl 4 (by decide) m_fl_RX1_132 rfl dX1_run_98 ?_
        have hw_30 : bCourse T h po la fw (v0 + s2_12) v1 v2 v3 (if v4 < s2_12 then s2_12 else v4) v5 v6 v7 [(h, .inr (1, [.ref po, .ref a1_1, .int (v0 + s2_12), .ref la, .int v1, .int v2, .int v3, .int (if v4 < s2_12 then s2_12 else v4), .int v5, .int v6, .int v7])), (a1_1, .inl (T.2 0, 7, .inl fw))] := ⟨a1_1, rfl⟩
        have G : zS T A s.heap s [[(h, .inr (1, [.ref po, .ref a1_1, .int (v0 + s2_12), .ref la, .int v1, .int v2, .int v3, .int (if v4 < s2_12 then s2_12 else v4), .int v5, .int v6, .int v7])), (a1_1, .inl (T.2 0, 7, .inl fw))], [(po, .inr (6, [.ref la, .ref a1_19, .ref a2_20, .int s2_12, .int x2_13, .ref a3_21]))], [(a1_19, .inl (T.2 0, 7, .inl g1_11))], [(a2_20, .inl (T.2 0, 7, .inl f2))], [(a3_21, .inl (T.2 0, 7, .inl f3))], z] _ _ := G.re rfl
        refine z_Vv (bc := [[(h, .inr (1, [.ref po, .ref a1_1, .int (v0 + s2_12), .ref la, .int v1, .int v2, .int v3, .int (if v4 < s2_12 then s2_12 else v4), .int v5, .int v6, .int v7])), (a1_1, .inl (T.2 0, 7, .inl fw))], z]) (br := [[(po, .inr (6, [.ref la, .ref a1_19, .ref a2_20, .int s2_12, .int x2_13, .ref a3_21]))], [(a1_19, .inl (T.2 0, 7, .inl g1_11))], [(a2_20, .inl (T.2 0, 7, .inl f2))], [(a3_21, .inl (T.2 0, 7, .inl f3))]]) (As := [.int x, .int x2_13]) (rest := []) C G (c_f_move l T h po la fw (v0 + s2_12) v1 v2 v3 (if v4 < s2_12 then s2_12 else v4) v5 v6 v7 ([(h, .inr (1, [.ref po, .ref a1_1, .int (v0 + s2_12), .ref la, .int v1, .int v2, .int v3, .int (if v4 < s2_12 then s2_12 else v4), .int v5, .int v6, .int v7])), (a1_1, .inl (T.2 0, 7, .inl fw))]) cr inn k1 k2 k3 k4 z x x2_13 hw_30 hz ⟨by omega, by omega, by omega⟩ hhs) (kV_RX1_118 C.2.2.2.2 (Nat.le_of_ble_eq_true rfl) (Nat.le_of_ble_eq_true rfl)) [0, 5] [1, 2, 3, 4] rfl rfl (ci := 1) (qc := (RX1, TX1, 11)) rfl rfl (List.mem_flatten.mpr ⟨_, List.mem_of_getElem? (i := 0) rfl, (bCourse_mem hw_30).choose_spec⟩) rfl rfl hl.1 dX1_run_101 (Nat.le_of_ble_eq_true rfl) (Nat.le_of_ble_eq_true rfl) (fun b1 H locs hw G => ?_)
        obtain ⟨wc2_31, gw_32, u3_33, u5_34, rfl, h_35, h_36⟩ := hw
        have G : zS T A s.heap s [[(po, .inr (6, [.ref la, .ref a1_19, .ref a2_20, .int s2_12, .int x2_13, .ref a3_21]))], [(a1_19, .inl (T.2 0, 7, .inl g1_11))], [(a2_20, .inl (T.2 0, 7, .inl f2))], [(a3_21, .inl (T.2 0, 7, .inl f3))], wc2_31, z] _ _ := G
        refine lv_iconst (v := 1) hx hb dX1_run_104 (by decide) ?_
        have hw_38 : bPosts T po la g1_11 f2 f3 s2_12 x2_13 [(po, .inr (6, [.ref la, .ref a1_19, .ref a2_20, .int s2_12, .int x2_13, .ref a3_21])), (a1_19, .inl (T.2 0, 7, .inl g1_11)), (a2_20, .inl (T.2 0, 7, .inl f2)), (a3_21, .inl (T.2 0, 7, .inl f3))] := ⟨a1_19, a2_20, a3_21, rfl⟩
        have G : zS T A s.heap s [[(po, .inr (6, [.ref la, .ref a1_19, .ref a2_20, .int s2_12, .int x2_13, .ref a3_21])), (a1_19, .inl (T.2 0, 7, .inl g1_11)), (a2_20, .inl (T.2 0, 7, .inl f2)), (a3_21, .inl (T.2 0, 7, .inl f3))], wc2_31, z] _ _ := G.re rfl
        have G := G.sub (bs' := [wc2_31, [(po, .inr (6, [.ref la, .ref a1_19, .ref a2_20, .int s2_12, .int x2_13, .ref a3_21])), (a1_19, .inl (T.2 0, 7, .inl g1_11)), (a2_20, .inl (T.2 0, 7, .inl f2)), (a3_21, .inl (T.2 0, 7, .inl f3))], z]) [1, 0, 2] rfl
        exact z_zret C hr hlocks G (Nat.le_of_ble_eq_true rfl) (Nat.le_of_ble_eq_true rfl) dX1_run_105 rfl ⟨wc2_31, gw_32, (v0 + s2_12), v1, v2, u3_33, (if v4 < s2_12 then s2_12 else v4), u5_34, v6, v7, ([(po, .inr (6, [.ref la, .ref a1_19, .ref a2_20, .int s2_12, .int x2_13, .ref a3_21])), (a1_19, .inl (T.2 0, 7, .inl g1_11)), (a2_20, .inl (T.2 0, 7, .inl f2)), (a3_21, .inl (T.2 0, 7, .inl f3))]), g1_11, f2, s2_12, x2_13, rfl, h_35, hw_38, hQ2, (Or.inl ⟨rfl, zRuF_i ⟨⟨by omega, by omega, by omega⟩, by omega⟩ h_15 h_16 h_17 h_36 (if_pos (zBit_p h_28))⟩), ⟨rfl, rfl⟩⟩
      · have h_29 : (x2_13.toInt < 0 ∨ cr.toInt ≤ x2_13.toInt ∨ 7 ≤ x2_13.toInt ∨ zBit inn x2_13 = 0) := h_29
        refine lv_if_ne (tgt := 92) hx hb dX1_run_79 (by decide) (fun q => absurd (by decide) q) (fun _ => ?_)
        refine lv_aload_n hx hb dX1_run_82 rfl (lv_at hl 0 rfl) ?_
        refine lv_dup hx hb dX1_run_83 rfl ?_
        refine z_get C G clX1 0 rfl 4 (by decide) m_fl_RX1_38 rfl dX1_run_84 ?_
        refine lv_iconst (v := 1) hx hb dX1_run_87 (by decide) ?_
        refine lv_iadd hx hb dX1_run_88 ?_
        refine z_put C G clX1 0 rfl 4 (by decide) m_fl_RX1_38 rfl rfl rfl (Nat.le_of_ble_eq_true rfl) dX1_run_89 (fun H locs G => ?_)
        have G : zS T A s.heap s [[(h, .inr (1, [.ref po, .ref a1_1, .int (v0 + s2_12), .ref la, .int (v1 + 1), .int v2, .int v3, .int (if v4 < s2_12 then s2_12 else v4), .int v5, .int v6, .int v7]))], [(a1_1, .inl (T.2 0, 7, .inl fw))], [(po, .inr (6, [.ref la, .ref a1_19, .ref a2_20, .int s2_12, .int x2_13, .ref a3_21]))], [(a1_19, .inl (T.2 0, 7, .inl g1_11))], [(a2_20, .inl (T.2 0, 7, .inl f2))], [(a3_21, .inl (T.2 0, 7, .inl f3))], z] _ _ := G
        refine lv_aload_n hx hb dX1_run_92 rfl (lv_at hl 0 rfl) ?_
        refine lv_iload_n hx hb dX1_run_93 rfl (lv_at hl 1 rfl) ?_
        refine lv_aload_n hx hb dX1_run_94 rfl (lv_at hl 0 rfl) ?_
        refine z_get C G clX1 0 rfl 0 (by decide) m_fl_RX1_12 rfl dX1_run_95 ?_
        refine z_get C G clX6 2 rfl 4 (by decide) m_fl_RX1_132 rfl dX1_run_98 ?_
        have hw_39 : bCourse T h po la fw (v0 + s2_12) (v1 + 1) v2 v3 (if v4 < s2_12 then s2_12 else v4) v5 v6 v7 [(h, .inr (1, [.ref po, .ref a1_1, .int (v0 + s2_12), .ref la, .int (v1 + 1), .int v2, .int v3, .int (if v4 < s2_12 then s2_12 else v4), .int v5, .int v6, .int v7])), (a1_1, .inl (T.2 0, 7, .inl fw))] := ⟨a1_1, rfl⟩
        have G : zS T A s.heap s [[(h, .inr (1, [.ref po, .ref a1_1, .int (v0 + s2_12), .ref la, .int (v1 + 1), .int v2, .int v3, .int (if v4 < s2_12 then s2_12 else v4), .int v5, .int v6, .int v7])), (a1_1, .inl (T.2 0, 7, .inl fw))], [(po, .inr (6, [.ref la, .ref a1_19, .ref a2_20, .int s2_12, .int x2_13, .ref a3_21]))], [(a1_19, .inl (T.2 0, 7, .inl g1_11))], [(a2_20, .inl (T.2 0, 7, .inl f2))], [(a3_21, .inl (T.2 0, 7, .inl f3))], z] _ _ := G.re rfl
        refine z_Vv (bc := [[(h, .inr (1, [.ref po, .ref a1_1, .int (v0 + s2_12), .ref la, .int (v1 + 1), .int v2, .int v3, .int (if v4 < s2_12 then s2_12 else v4), .int v5, .int v6, .int v7])), (a1_1, .inl (T.2 0, 7, .inl fw))], z]) (br := [[(po, .inr (6, [.ref la, .ref a1_19, .ref a2_20, .int s2_12, .int x2_13, .ref a3_21]))], [(a1_19, .inl (T.2 0, 7, .inl g1_11))], [(a2_20, .inl (T.2 0, 7, .inl f2))], [(a3_21, .inl (T.2 0, 7, .inl f3))]]) (As := [.int x, .int x2_13]) (rest := []) C G (c_f_move l T h po la fw (v0 + s2_12) (v1 + 1) v2 v3 (if v4 < s2_12 then s2_12 else v4) v5 v6 v7 ([(h, .inr (1, [.ref po, .ref a1_1, .int (v0 + s2_12), .ref la, .int (v1 + 1), .int v2, .int v3, .int (if v4 < s2_12 then s2_12 else v4), .int v5, .int v6, .int v7])), (a1_1, .inl (T.2 0, 7, .inl fw))]) cr inn k1 k2 k3 k4 z x x2_13 hw_39 hz ⟨by omega, by omega, by omega⟩ hhs) (kV_RX1_118 C.2.2.2.2 (Nat.le_of_ble_eq_true rfl) (Nat.le_of_ble_eq_true rfl)) [0, 5] [1, 2, 3, 4] rfl rfl (ci := 1) (qc := (RX1, TX1, 11)) rfl rfl (List.mem_flatten.mpr ⟨_, List.mem_of_getElem? (i := 0) rfl, (bCourse_mem hw_39).choose_spec⟩) rfl rfl hl.1 dX1_run_101 (Nat.le_of_ble_eq_true rfl) (Nat.le_of_ble_eq_true rfl) (fun b1 H locs hw G => ?_)
        obtain ⟨wc2_40, gw_41, u3_42, u5_43, rfl, h_44, h_45⟩ := hw
        have G : zS T A s.heap s [[(po, .inr (6, [.ref la, .ref a1_19, .ref a2_20, .int s2_12, .int x2_13, .ref a3_21]))], [(a1_19, .inl (T.2 0, 7, .inl g1_11))], [(a2_20, .inl (T.2 0, 7, .inl f2))], [(a3_21, .inl (T.2 0, 7, .inl f3))], wc2_40, z] _ _ := G
        refine lv_iconst (v := 1) hx hb dX1_run_104 (by decide) ?_
        have hw_47 : bPosts T po la g1_11 f2 f3 s2_12 x2_13 [(po, .inr (6, [.ref la, .ref a1_19, .ref a2_20, .int s2_12, .int x2_13, .ref a3_21])), (a1_19, .inl (T.2 0, 7, .inl g1_11)), (a2_20, .inl (T.2 0, 7, .inl f2)), (a3_21, .inl (T.2 0, 7, .inl f3))] := ⟨a1_19, a2_20, a3_21, rfl⟩
        have G : zS T A s.heap s [[(po, .inr (6, [.ref la, .ref a1_19, .ref a2_20, .int s2_12, .int x2_13, .ref a3_21])), (a1_19, .inl (T.2 0, 7, .inl g1_11)), (a2_20, .inl (T.2 0, 7, .inl f2)), (a3_21, .inl (T.2 0, 7, .inl f3))], wc2_40, z] _ _ := G.re rfl
        have G := G.sub (bs' := [wc2_40, [(po, .inr (6, [.ref la, .ref a1_19, .ref a2_20, .int s2_12, .int x2_13, .ref a3_21])), (a1_19, .inl (T.2 0, 7, .inl g1_11)), (a2_20, .inl (T.2 0, 7, .inl f2)), (a3_21, .inl (T.2 0, 7, .inl f3))], z]) [1, 0, 2] rfl
        exact z_zret C hr hlocks G (Nat.le_of_ble_eq_true rfl) (Nat.le_of_ble_eq_true rfl) dX1_run_105 rfl ⟨wc2_40, gw_41, (v0 + s2_12), (v1 + 1), v2, u3_42, (if v4 < s2_12 then s2_12 else v4), u5_43, v6, v7, ([(po, .inr (6, [.ref la, .ref a1_19, .ref a2_20, .int s2_12, .int x2_13, .ref a3_21])), (a1_19, .inl (T.2 0, 7, .inl g1_11)), (a2_20, .inl (T.2 0, 7, .inl f2)), (a3_21, .inl (T.2 0, 7, .inl f3))]), g1_11, f2, s2_12, x2_13, rfl, h_44, hw_47, hQ2, (Or.inl ⟨rfl, zRuF_i ⟨⟨by omega, by omega, by omega⟩, by omega⟩ h_15 h_16 h_17 h_45 (if_neg (fun q8 => by rcases h_29 with e9 | e9 | e9 | e9 <;> first | omega | exact zBit_o q8 e9))⟩), ⟨rfl, rfl⟩⟩
    · have c_9n : ¬ (1 : Int) ≤ (fw x.toNatClampNeg).toInt := fun q => c_9 ((fa_le _ _).mpr q)
      refine lv_iconst (v := 0) hx hb dX1_run_21 (by decide) ?_
      have hw_48 : bCourse T h po la fw v0 v1 v2 v3 v4 v5 v6 v7 [(h, .inr (1, [.ref po, .ref a1_1, .int v0, .ref la, .int v1, .int v2, .int v3, .int v4, .int v5, .int v6, .int v7])), (a1_1, .inl (T.2 0, 7, .inl fw))] := ⟨a1_1, rfl⟩
      have G : zS T A s.heap s [[(h, .inr (1, [.ref po, .ref a1_1, .int v0, .ref la, .int v1, .int v2, .int v3, .int v4, .int v5, .int v6, .int v7])), (a1_1, .inl (T.2 0, 7, .inl fw))], wp, z] _ _ := G.re rfl
      exact z_zret C hr hlocks G (Nat.le_of_ble_eq_true rfl) (Nat.le_of_ble_eq_true rfl) dX1_run_22 rfl ⟨([(h, .inr (1, [.ref po, .ref a1_1, .int v0, .ref la, .int v1, .int v2, .int v3, .int v4, .int v5, .int v6, .int v7])), (a1_1, .inl (T.2 0, 7, .inl fw))]), fw, v0, v1, v2, v3, v4, v5, v6, v7, wp, f1, f2, st, wh, rfl, hw_48, hp, hP, (Or.inr ⟨rfl, by unfold zRuF; rw [if_neg (fun q8 => by dsimp only at q8; omega)], rfl, rfl, rfl, rfl, rfl⟩), ⟨rfl, rfl⟩⟩
  · have h_7 : (x.toInt < 0 ∨ cr.toInt ≤ x.toInt ∨ 7 ≤ x.toInt) := h_7
    refine lv_if_eq (tgt := 21) hx hb dX1_run_8 (by decide) (fun _ => ?_) (fun q => absurd (by decide) q)
    refine lv_iconst (v := 0) hx hb dX1_run_21 (by decide) ?_
    have hw_49 : bCourse T h po la fw v0 v1 v2 v3 v4 v5 v6 v7 [(h, .inr (1, [.ref po, .ref a1_1, .int v0, .ref la, .int v1, .int v2, .int v3, .int v4, .int v5, .int v6, .int v7])), (a1_1, .inl (T.2 0, 7, .inl fw))] := ⟨a1_1, rfl⟩
    have G : zS T A s.heap s [[(h, .inr (1, [.ref po, .ref a1_1, .int v0, .ref la, .int v1, .int v2, .int v3, .int v4, .int v5, .int v6, .int v7])), (a1_1, .inl (T.2 0, 7, .inl fw))], wp, z] _ _ := G.re rfl
    exact z_zret C hr hlocks G (Nat.le_of_ble_eq_true rfl) (Nat.le_of_ble_eq_true rfl) dX1_run_22 rfl ⟨([(h, .inr (1, [.ref po, .ref a1_1, .int v0, .ref la, .int v1, .int v2, .int v3, .int v4, .int v5, .int v6, .int v7])), (a1_1, .inl (T.2 0, 7, .inl fw))]), fw, v0, v1, v2, v3, v4, v5, v6, v7, wp, f1, f2, st, wh, rfl, hw_49, hp, hP, (Or.inr ⟨rfl, by unfold zRuF; rw [if_neg (fun q8 => by dsimp only at q8; omega)], rfl, rfl, rfl, rfl, rfl⟩), ⟨rfl, rfl⟩⟩
set_option maxHeartbeats 4000000 in
set_option maxRecDepth 100000 in
/-- c_f_Course_add -/
theorem c_f_Course_add (l : Launch) (T : zTy) (h : Nat) (po : Nat) (la : Nat) (fw : Nat → Int32) (v0 : Int32) (v1 : Int32) (v2 : Int32) (v3 : Int32) (v4 : Int32) (v5 : Int32) (v6 : Int32) (v7 : Int32) (wc : va_W) (cr : Int32) (inn : Int32) (k1 : Nat → Int32) (k2 : Nat → Int32) (k3 : Nat → Int32) (k4 : Nat → Int32) (z : va_W) (x : Int32) (hc : bCourse T h po la fw v0 v1 v2 v3 v4 v5 v6 v7 wc) (hz : bLand T la cr inn k1 k2 k3 k4 z) : zMi l T yX1_add cX1_add 2 (some .boolean) 2 0 0 [.ref h, .int x] [wc, z] (fun (r : Int32) bs => ∃ (wc2 : va_W) (gw : Nat → Int32), bs = [wc2, z] ∧ bCourse T h po la gw v0 v1 v2 v3 v4 v5 v6 v7 wc2 ∧ (∀ f1 f2 : Nat → Int32, r = 1 ∧ zAdF cr x (f1, f2, fw, v0, v1) = some (f1, f2, gw, v0, v1) ∨ r = 0 ∧ zAdF cr x (f1, f2, fw, v0, v1) = none ∧ gw = fw)) := by
  refine zMi_of (own := RX1) (by decide) rfl (Nat.le_of_ble_eq_true rfl) ?_
  intro p e s m args below meth c A ls C hr hlocks hnm hAe G hl
  have hx := C.1
  have hb := C.2.1
  have hl : lv_has ls 2 [(0, .ref h), (1, .int x)] := hl
  refine lv_aload_n hx hb dX1_add_0 rfl (lv_at hl 0 rfl) ?_
  obtain ⟨a1_1, rfl⟩ := hc
  have G : zS T A s.heap s [[(h, .inr (1, [.ref po, .ref a1_1, .int v0, .ref la, .int v1, .int v2, .int v3, .int v4, .int v5, .int v6, .int v7]))], [(a1_1, .inl (T.2 0, 7, .inl fw))], z] _ _ := G.re rfl
  refine z_get C G clX1 0 rfl 3 (by decide) m_fl_RX1_25 rfl dX1_add_1 ?_
  refine lv_iload_n hx hb dX1_add_4 rfl (lv_at hl 1 rfl) ?_
  refine z_Vi (bc := [z]) (br := [[(h, .inr (1, [.ref po, .ref a1_1, .int v0, .ref la, .int v1, .int v2, .int v3, .int v4, .int v5, .int v6, .int v7]))], [(a1_1, .inl (T.2 0, 7, .inl fw))]]) (As := [.int x]) (rest := []) C G (c_has l T la cr inn k1 k2 k3 k4 z x hz) (kV_RX1_112 C.2.2.2.2 (Nat.le_of_ble_eq_true rfl) (Nat.le_of_ble_eq_true rfl)) [2] [0, 1] rfl rfl (ci := 4) (qc := (RX4, TX4, 6)) rfl rfl (List.mem_flatten.mpr ⟨_, List.mem_of_getElem? (i := 0) rfl, (bLand_mem hz).choose_spec⟩) rfl rfl hl.1 dX1_add_5 (Nat.le_of_ble_eq_true rfl) (Nat.le_of_ble_eq_true rfl) (fun r_3 b1 H locs hw G => ?_)
  obtain ⟨rfl, hc_2⟩ := hw
  have G : zS T A s.heap s [[(h, .inr (1, [.ref po, .ref a1_1, .int v0, .ref la, .int v1, .int v2, .int v3, .int v4, .int v5, .int v6, .int v7]))], [(a1_1, .inl (T.2 0, 7, .inl fw))], z] _ _ := G
  rcases hc_2 with ⟨rfl, h_4, h_5, h_6⟩ | ⟨rfl, h_7⟩
  · have h_4 : 0 ≤ x.toInt := h_4
    have h_5 : x.toInt < cr.toInt := h_5
    have h_6 : x.toInt < 7 := h_6
    refine lv_if_eq (tgt := 22) hx hb dX1_add_8 (by decide) (fun q => absurd q (by decide)) (fun _ => ?_)
    refine lv_aload_n hx hb dX1_add_11 rfl (lv_at hl 0 rfl) ?_
    refine z_get C G clX1 0 rfl 1 (by decide) m_fl_RX1_18 rfl dX1_add_12 ?_
    refine lv_iload_n hx hb dX1_add_15 rfl (lv_at hl 1 rfl) ?_
    refine z_ild C G 1 rfl (vp_in_iff.mpr ⟨by omega, by omega⟩) dX1_add_16 ?_
    refine lv_topi (fun v_8 ev_8 => ?_)
    subst ev_8
    refine lv_bipush (v := 99) hx hb dX1_add_17 (by decide) ?_
    refine lv_icmp_lt (tgt := 24) hx hb dX1_add_19 (by decide) (fun c_9 => ?_) (fun c_9 => ?_)
    · have c_9n : (fw x.toNatClampNeg).toInt < (99 : Int) := (fa_lt _ _).mp c_9
      refine lv_aload_n hx hb dX1_add_24 rfl (lv_at hl 0 rfl) ?_
      refine z_get C G clX1 0 rfl 1 (by decide) m_fl_RX1_18 rfl dX1_add_25 ?_
      refine lv_iload_n hx hb dX1_add_28 rfl (lv_at hl 1 rfl) ?_
      refine lv_dup2_11 hx hb dX1_add_29 rfl rfl ?_
      refine z_ild C G 1 rfl (vp_in_iff.mpr ⟨by omega, by omega⟩) dX1_add_30 ?_
      refine lv_topi (fun v_10 ev_10 => ?_)
      subst ev_10
      refine lv_iconst (v := 1) hx hb dX1_add_31 (by decide) ?_
      refine lv_iadd hx hb dX1_add_32 ?_
      refine z_ist C G 1 rfl (vp_in_iff.mpr ⟨by omega, by omega⟩) dX1_add_33 (fun H locs G => ?_)
      have G : zS T A s.heap s [[(h, .inr (1, [.ref po, .ref a1_1, .int v0, .ref la, .int v1, .int v2, .int v3, .int v4, .int v5, .int v6, .int v7]))], [(a1_1, .inl (T.2 0, 7, .inl (upd fw x.toNatClampNeg ((fw x.toNatClampNeg) + 1))))], z] _ _ := G
      refine lv_iconst (v := 1) hx hb dX1_add_34 (by decide) ?_
      have hw_11 : bCourse T h po la (upd fw x.toNatClampNeg ((fw x.toNatClampNeg) + 1)) v0 v1 v2 v3 v4 v5 v6 v7 [(h, .inr (1, [.ref po, .ref a1_1, .int v0, .ref la, .int v1, .int v2, .int v3, .int v4, .int v5, .int v6, .int v7])), (a1_1, .inl (T.2 0, 7, .inl (upd fw x.toNatClampNeg ((fw x.toNatClampNeg) + 1))))] := ⟨a1_1, rfl⟩
      have G : zS T A s.heap s [[(h, .inr (1, [.ref po, .ref a1_1, .int v0, .ref la, .int v1, .int v2, .int v3, .int v4, .int v5, .int v6, .int v7])), (a1_1, .inl (T.2 0, 7, .inl (upd fw x.toNatClampNeg ((fw x.toNatClampNeg) + 1))))], z] _ _ := G.re rfl
      exact z_zret C hr hlocks G (Nat.le_of_ble_eq_true rfl) (Nat.le_of_ble_eq_true rfl) dX1_add_35 rfl ⟨([(h, .inr (1, [.ref po, .ref a1_1, .int v0, .ref la, .int v1, .int v2, .int v3, .int v4, .int v5, .int v6, .int v7])), (a1_1, .inl (T.2 0, 7, .inl (upd fw x.toNatClampNeg ((fw x.toNatClampNeg) + 1))))]), (upd fw x.toNatClampNeg ((fw x.toNatClampNeg) + 1)), rfl, hw_11, (fun f1 f2 => Or.inl ⟨rfl, by unfold zAdF; rw [if_pos ⟨⟨by omega, by omega, by omega⟩, by assumption⟩]⟩)⟩
    · have c_9n : ¬ (fw x.toNatClampNeg).toInt < (99 : Int) := fun q => c_9 ((fa_lt _ _).mpr q)
      refine lv_iconst (v := 0) hx hb dX1_add_22 (by decide) ?_
      have hw_12 : bCourse T h po la fw v0 v1 v2 v3 v4 v5 v6 v7 [(h, .inr (1, [.ref po, .ref a1_1, .int v0, .ref la, .int v1, .int v2, .int v3, .int v4, .int v5, .int v6, .int v7])), (a1_1, .inl (T.2 0, 7, .inl fw))] := ⟨a1_1, rfl⟩
      have G : zS T A s.heap s [[(h, .inr (1, [.ref po, .ref a1_1, .int v0, .ref la, .int v1, .int v2, .int v3, .int v4, .int v5, .int v6, .int v7])), (a1_1, .inl (T.2 0, 7, .inl fw))], z] _ _ := G.re rfl
      exact z_zret C hr hlocks G (Nat.le_of_ble_eq_true rfl) (Nat.le_of_ble_eq_true rfl) dX1_add_23 rfl ⟨([(h, .inr (1, [.ref po, .ref a1_1, .int v0, .ref la, .int v1, .int v2, .int v3, .int v4, .int v5, .int v6, .int v7])), (a1_1, .inl (T.2 0, 7, .inl fw))]), fw, rfl, hw_12, (fun f1 f2 => Or.inr ⟨rfl, by unfold zAdF; rw [if_neg (fun q8 => by have q7 := q8.2; have q7 : (fw x.toNatClampNeg).toInt < 99 := q7; omega)], rfl⟩)⟩
  · have h_7 : (x.toInt < 0 ∨ cr.toInt ≤ x.toInt ∨ 7 ≤ x.toInt) := h_7
    refine lv_if_eq (tgt := 22) hx hb dX1_add_8 (by decide) (fun _ => ?_) (fun q => absurd (by decide) q)
    refine lv_iconst (v := 0) hx hb dX1_add_22 (by decide) ?_
    have hw_13 : bCourse T h po la fw v0 v1 v2 v3 v4 v5 v6 v7 [(h, .inr (1, [.ref po, .ref a1_1, .int v0, .ref la, .int v1, .int v2, .int v3, .int v4, .int v5, .int v6, .int v7])), (a1_1, .inl (T.2 0, 7, .inl fw))] := ⟨a1_1, rfl⟩
    have G : zS T A s.heap s [[(h, .inr (1, [.ref po, .ref a1_1, .int v0, .ref la, .int v1, .int v2, .int v3, .int v4, .int v5, .int v6, .int v7])), (a1_1, .inl (T.2 0, 7, .inl fw))], z] _ _ := G.re rfl
    exact z_zret C hr hlocks G (Nat.le_of_ble_eq_true rfl) (Nat.le_of_ble_eq_true rfl) dX1_add_23 rfl ⟨([(h, .inr (1, [.ref po, .ref a1_1, .int v0, .ref la, .int v1, .int v2, .int v3, .int v4, .int v5, .int v6, .int v7])), (a1_1, .inl (T.2 0, 7, .inl fw))]), fw, rfl, hw_13, (fun f1 f2 => Or.inr ⟨rfl, by unfold zAdF; rw [if_neg (fun q8 => by have q7 := q8.2; have q7 : (fw x.toNatClampNeg).toInt < 99 := q7; omega)], rfl⟩)⟩
set_option maxHeartbeats 4000000 in
set_option maxRecDepth 100000 in
/-- c_f_Course_shut -/
theorem c_f_Course_shut (l : Launch) (T : zTy) (h : Nat) (po : Nat) (la : Nat) (fw : Nat → Int32) (v0 : Int32) (v1 : Int32) (v2 : Int32) (v3 : Int32) (v4 : Int32) (v5 : Int32) (v6 : Int32) (v7 : Int32) (wc : va_W) (f1 : Nat → Int32) (f2 : Nat → Int32) (f3 : Nat → Int32) (st : Int32) (wh : Int32) (wp : va_W) (cr : Int32) (inn : Int32) (k1 : Nat → Int32) (k2 : Nat → Int32) (k3 : Nat → Int32) (k4 : Nat → Int32) (z : va_W) (x : Int32) (y : Int32) (hc : bCourse T h po la fw v0 v1 v2 v3 v4 v5 v6 v7 wc) (hp : bPosts T po la f1 f2 f3 st wh wp) (hz : bLand T la cr inn k1 k2 k3 k4 z) : zMi l T yX1_shut cX1_shut 4 (some .boolean) 3 0 0 [.ref h, .int x, .int y] [wc, wp, z] (fun (r : Int32) bs => ∃ (wp2 : va_W) (g2 : Nat → Int32), bs = [wc, wp2, z] ∧ bPosts T po la f1 g2 f3 st wh wp2 ∧ (∀ (fw : Nat → Int32) (v0 v1 : Int32), r = 1 ∧ zShF cr k1 x y (f1, f2, fw, v0, v1) = some (f1, g2, fw, v0, v1) ∨ r = 0 ∧ zShF cr k1 x y (f1, f2, fw, v0, v1) = none ∧ g2 = f2)) := by
  refine zMi_of (own := RX1) (by decide) rfl (Nat.le_of_ble_eq_true rfl) ?_
  intro p e s m args below meth c A ls C hr hlocks hnm hAe G hl
  have hx := C.1
  have hb := C.2.1
  have hl : lv_has ls 4 [(0, .ref h), (1, .int x), (2, .int y)] := hl
  refine lv_aload_n hx hb dX1_shut_0 rfl (lv_at hl 0 rfl) ?_
  obtain ⟨a1_1, rfl⟩ := hc
  have G : zS T A s.heap s [[(h, .inr (1, [.ref po, .ref a1_1, .int v0, .ref la, .int v1, .int v2, .int v3, .int v4, .int v5, .int v6, .int v7]))], [(a1_1, .inl (T.2 0, 7, .inl fw))], wp, z] _ _ := G.re rfl
  refine z_get C G clX1 0 rfl 3 (by decide) m_fl_RX1_25 rfl dX1_shut_1 ?_
  refine lv_iload_n hx hb dX1_shut_4 rfl (lv_at hl 1 rfl) ?_
  refine lv_iload_n hx hb dX1_shut_5 rfl (lv_at hl 2 rfl) ?_
  refine z_Vi (bc := [z]) (br := [[(h, .inr (1, [.ref po, .ref a1_1, .int v0, .ref la, .int v1, .int v2, .int v3, .int v4, .int v5, .int v6, .int v7]))], [(a1_1, .inl (T.2 0, 7, .inl fw))], wp]) (As := [.int x, .int y]) (rest := []) C G (c_hasRoad l T la cr inn k1 k2 k3 k4 z x y hz) (kV_RX1_138 C.2.2.2.2 (Nat.le_of_ble_eq_true rfl) (Nat.le_of_ble_eq_true rfl)) [3] [0, 1, 2] rfl rfl (ci := 4) (qc := (RX4, TX4, 6)) rfl rfl (List.mem_flatten.mpr ⟨_, List.mem_of_getElem? (i := 0) rfl, (bLand_mem hz).choose_spec⟩) rfl rfl hl.1 dX1_shut_6 (Nat.le_of_ble_eq_true rfl) (Nat.le_of_ble_eq_true rfl) (fun r_3 b1 H locs hw G => ?_)
  obtain ⟨rfl, hc_2⟩ := hw
  have G : zS T A s.heap s [[(h, .inr (1, [.ref po, .ref a1_1, .int v0, .ref la, .int v1, .int v2, .int v3, .int v4, .int v5, .int v6, .int v7]))], [(a1_1, .inl (T.2 0, 7, .inl fw))], wp, z] _ _ := G
  rcases hc_2 with ⟨rfl, h_4, h_5, h_6, h_7, h_8, h_9⟩ | ⟨rfl, h_10⟩
  · have h_4 : 0 ≤ x.toInt := h_4
    have h_5 : x.toInt < cr.toInt := h_5
    have h_6 : x.toInt < 7 := h_6
    have h_7 : 0 ≤ y.toInt := h_7
    have h_8 : y.toInt < (k1 x.toNatClampNeg).toInt := h_8
    have h_9 : y.toInt < 4 := h_9
    refine lv_if_eq (tgt := 28) hx hb dX1_shut_9 (by decide) (fun q => absurd q (by decide)) (fun _ => ?_)
    refine lv_aload_n hx hb dX1_shut_12 rfl (lv_at hl 0 rfl) ?_
    refine z_get C G clX1 0 rfl 0 (by decide) m_fl_RX1_12 rfl dX1_shut_13 ?_
    refine lv_iload_n hx hb dX1_shut_16 rfl (lv_at hl 1 rfl) ?_
    refine lv_iload_n hx hb dX1_shut_17 rfl (lv_at hl 2 rfl) ?_
    refine z_Vi (bc := [wp, z]) (br := [[(h, .inr (1, [.ref po, .ref a1_1, .int v0, .ref la, .int v1, .int v2, .int v3, .int v4, .int v5, .int v6, .int v7]))], [(a1_1, .inl (T.2 0, 7, .inl fw))]]) (As := [.int x, .int y]) (rest := []) C G (c_isShut l T po la f1 f2 f3 st wh wp cr inn k1 k2 k3 k4 z x y hp hz) (kV_RX1_141 C.2.2.2.2 (Nat.le_of_ble_eq_true rfl) (Nat.le_of_ble_eq_true rfl)) [2, 3] [0, 1] rfl rfl (ci := 6) (qc := (RX6, TX6, 6)) rfl rfl (List.mem_flatten.mpr ⟨_, List.mem_of_getElem? (i := 0) rfl, (bPosts_mem hp).choose_spec⟩) rfl rfl hl.1 dX1_shut_18 (Nat.le_of_ble_eq_true rfl) (Nat.le_of_ble_eq_true rfl) (fun r_12 b1 H locs hw G => ?_)
    obtain ⟨rfl, hc_11⟩ := hw
    have G : zS T A s.heap s [[(h, .inr (1, [.ref po, .ref a1_1, .int v0, .ref la, .int v1, .int v2, .int v3, .int v4, .int v5, .int v6, .int v7]))], [(a1_1, .inl (T.2 0, 7, .inl fw))], wp, z] _ _ := G
    rcases hc_11 with ⟨rfl, h_13, h_14, h_15, h_16, h_17, h_18, h_19⟩ | ⟨rfl, h_20⟩
    · have h_13 : 0 ≤ x.toInt := h_13
      have h_14 : x.toInt < cr.toInt := h_14
      have h_15 : x.toInt < 7 := h_15
      have h_16 : 0 ≤ y.toInt := h_16
      have h_17 : y.toInt < (k1 x.toNatClampNeg).toInt := h_17
      have h_18 : y.toInt < 4 := h_18
      have h_19 : ¬ zBit (f2 x.toNatClampNeg) y = 0 := h_19
      refine lv_if_ne (tgt := 28) hx hb dX1_shut_21 (by decide) (fun _ => ?_) (fun q => absurd q (by decide))
      refine lv_iconst (v := 0) hx hb dX1_shut_28 (by decide) ?_
      refine lv_istore_n (lv' := [(3, .int 0), (0, .ref h), (1, .int x), (2, .int y)]) hx hb dX1_shut_29 rfl hl (by decide) rfl (fun ls hl => ?_)
      refine lv_iload_n hx hb dX1_shut_30 rfl (lv_at hl 0 rfl) ?_
      refine lv_if_eq (tgt := 43) hx hb dX1_shut_31 (by decide) (fun _ => ?_) (fun q => absurd (by decide) q)
      refine lv_iload_n hx hb dX1_shut_43 rfl (lv_at hl 0 rfl) ?_
      have hw_21 : bCourse T h po la fw v0 v1 v2 v3 v4 v5 v6 v7 [(h, .inr (1, [.ref po, .ref a1_1, .int v0, .ref la, .int v1, .int v2, .int v3, .int v4, .int v5, .int v6, .int v7])), (a1_1, .inl (T.2 0, 7, .inl fw))] := ⟨a1_1, rfl⟩
      have G : zS T A s.heap s [[(h, .inr (1, [.ref po, .ref a1_1, .int v0, .ref la, .int v1, .int v2, .int v3, .int v4, .int v5, .int v6, .int v7])), (a1_1, .inl (T.2 0, 7, .inl fw))], wp, z] _ _ := G.re rfl
      exact z_zret C hr hlocks G (Nat.le_of_ble_eq_true rfl) (Nat.le_of_ble_eq_true rfl) dX1_shut_44 rfl ⟨wp, f2, rfl, hp, (fun fw v0 v1 => Or.inr ⟨rfl, by unfold zShF; rw [if_neg (fun q8 => by obtain ⟨⟨a1, a2, a3⟩, ⟨b1, b2, b3⟩, b4⟩ := q8; have b4 : zBit (f2 x.toNatClampNeg) y = 0 := b4; first | omega | (rcases hns with e9 | e9 | e9 | e9 | e9 | e9 | e9 <;> first | omega | exact absurd e9 b4 | exact absurd b4 e9) | exact absurd b4 (by assumption))], rfl⟩)⟩
    · have h_20 : (x.toInt < 0 ∨ cr.toInt ≤ x.toInt ∨ 7 ≤ x.toInt ∨ y.toInt < 0 ∨ (k1 x.toNatClampNeg).toInt ≤ y.toInt ∨ 4 ≤ y.toInt ∨ zBit (f2 x.toNatClampNeg) y = 0) := h_20
      have hns := h_20
      refine lv_if_ne (tgt := 28) hx hb dX1_shut_21 (by decide) (fun q => absurd (by decide) q) (fun _ => ?_)
      refine lv_iconst (v := 1) hx hb dX1_shut_24 (by decide) ?_
      refine lv_goto (tgt := 29) hx hb dX1_shut_25 (by decide) ?_
      refine lv_istore_n (lv' := [(3, .int 1), (0, .ref h), (1, .int x), (2, .int y)]) hx hb dX1_shut_29 rfl hl (by decide) rfl (fun ls hl => ?_)
      refine lv_iload_n hx hb dX1_shut_30 rfl (lv_at hl 0 rfl) ?_
      refine lv_if_eq (tgt := 43) hx hb dX1_shut_31 (by decide) (fun q => absurd q (by decide)) (fun _ => ?_)
      refine lv_aload_n hx hb dX1_shut_34 rfl (lv_at hl 1 rfl) ?_
      refine z_get C G clX1 0 rfl 0 (by decide) m_fl_RX1_12 rfl dX1_shut_35 ?_
      refine lv_iload_n hx hb dX1_shut_38 rfl (lv_at hl 2 rfl) ?_
      refine lv_iload_n hx hb dX1_shut_39 rfl (lv_at hl 3 rfl) ?_
      refine z_Vv (bc := [wp, z]) (br := [[(h, .inr (1, [.ref po, .ref a1_1, .int v0, .ref la, .int v1, .int v2, .int v3, .int v4, .int v5, .int v6, .int v7]))], [(a1_1, .inl (T.2 0, 7, .inl fw))]]) (As := [.int x, .int y]) (rest := []) C G (c_shutRoad l T po la f1 f2 f3 st wh wp cr inn k1 k2 k3 k4 z x y hp hz) (kV_RX1_144 C.2.2.2.2 (Nat.le_of_ble_eq_true rfl) (Nat.le_of_ble_eq_true rfl)) [2, 3] [0, 1] rfl rfl (ci := 6) (qc := (RX6, TX6, 6)) rfl rfl (List.mem_flatten.mpr ⟨_, List.mem_of_getElem? (i := 0) rfl, (bPosts_mem hp).choose_spec⟩) rfl rfl hl.1 dX1_shut_40 (Nat.le_of_ble_eq_true rfl) (Nat.le_of_ble_eq_true rfl) (fun b1 H locs hw G => ?_)
      obtain ⟨w2_22, g2_23, rfl, h_24, h_25⟩ := hw
      have G : zS T A s.heap s [[(h, .inr (1, [.ref po, .ref a1_1, .int v0, .ref la, .int v1, .int v2, .int v3, .int v4, .int v5, .int v6, .int v7]))], [(a1_1, .inl (T.2 0, 7, .inl fw))], w2_22, z] _ _ := G
      refine lv_iload_n hx hb dX1_shut_43 rfl (lv_at hl 0 rfl) ?_
      have hw_27 : bCourse T h po la fw v0 v1 v2 v3 v4 v5 v6 v7 [(h, .inr (1, [.ref po, .ref a1_1, .int v0, .ref la, .int v1, .int v2, .int v3, .int v4, .int v5, .int v6, .int v7])), (a1_1, .inl (T.2 0, 7, .inl fw))] := ⟨a1_1, rfl⟩
      have G : zS T A s.heap s [[(h, .inr (1, [.ref po, .ref a1_1, .int v0, .ref la, .int v1, .int v2, .int v3, .int v4, .int v5, .int v6, .int v7])), (a1_1, .inl (T.2 0, 7, .inl fw))], w2_22, z] _ _ := G.re rfl
      exact z_zret C hr hlocks G (Nat.le_of_ble_eq_true rfl) (Nat.le_of_ble_eq_true rfl) dX1_shut_44 rfl ⟨w2_22, g2_23, rfl, h_24, (fun fw v0 v1 => Or.inl ⟨rfl, by unfold zShF; rw [if_pos ⟨⟨by omega, by omega, by omega⟩, ⟨by omega, by omega, by omega⟩, (show zBit (f2 x.toNatClampNeg) y = 0 from by first | assumption | (rcases hns with e9 | e9 | e9 | e9 | e9 | e9 | e9 <;> first | exact e9 | (exfalso; omega)))⟩, h_25]; unfold zShut; rw [if_pos ⟨by omega, by omega, by omega, by omega, by omega, by omega⟩]⟩)⟩
  · have h_10 : (x.toInt < 0 ∨ cr.toInt ≤ x.toInt ∨ 7 ≤ x.toInt ∨ y.toInt < 0 ∨ (k1 x.toNatClampNeg).toInt ≤ y.toInt ∨ 4 ≤ y.toInt) := h_10
    refine lv_if_eq (tgt := 28) hx hb dX1_shut_9 (by decide) (fun _ => ?_) (fun q => absurd (by decide) q)
    refine lv_iconst (v := 0) hx hb dX1_shut_28 (by decide) ?_
    refine lv_istore_n (lv' := [(3, .int 0), (0, .ref h), (1, .int x), (2, .int y)]) hx hb dX1_shut_29 rfl hl (by decide) rfl (fun ls hl => ?_)
    refine lv_iload_n hx hb dX1_shut_30 rfl (lv_at hl 0 rfl) ?_
    refine lv_if_eq (tgt := 43) hx hb dX1_shut_31 (by decide) (fun _ => ?_) (fun q => absurd (by decide) q)
    refine lv_iload_n hx hb dX1_shut_43 rfl (lv_at hl 0 rfl) ?_
    have hw_28 : bCourse T h po la fw v0 v1 v2 v3 v4 v5 v6 v7 [(h, .inr (1, [.ref po, .ref a1_1, .int v0, .ref la, .int v1, .int v2, .int v3, .int v4, .int v5, .int v6, .int v7])), (a1_1, .inl (T.2 0, 7, .inl fw))] := ⟨a1_1, rfl⟩
    have G : zS T A s.heap s [[(h, .inr (1, [.ref po, .ref a1_1, .int v0, .ref la, .int v1, .int v2, .int v3, .int v4, .int v5, .int v6, .int v7])), (a1_1, .inl (T.2 0, 7, .inl fw))], wp, z] _ _ := G.re rfl
    exact z_zret C hr hlocks G (Nat.le_of_ble_eq_true rfl) (Nat.le_of_ble_eq_true rfl) dX1_shut_44 rfl ⟨wp, f2, rfl, hp, (fun fw v0 v1 => Or.inr ⟨rfl, by unfold zShF; rw [if_neg (fun q8 => by obtain ⟨⟨a1, a2, a3⟩, ⟨b1, b2, b3⟩, b4⟩ := q8; have b4 : zBit (f2 x.toNatClampNeg) y = 0 := b4; first | omega | (rcases hns with e9 | e9 | e9 | e9 | e9 | e9 | e9 <;> first | omega | exact absurd e9 b4 | exact absurd b4 e9) | exact absurd b4 (by assumption))], rfl⟩)⟩
set_option maxHeartbeats 4000000 in
set_option maxRecDepth 100000 in
/-- c_f_Course_open -/
theorem c_f_Course_open (l : Launch) (T : zTy) (h : Nat) (po : Nat) (la : Nat) (fw : Nat → Int32) (v0 : Int32) (v1 : Int32) (v2 : Int32) (v3 : Int32) (v4 : Int32) (v5 : Int32) (v6 : Int32) (v7 : Int32) (wc : va_W) (f1 : Nat → Int32) (f2 : Nat → Int32) (f3 : Nat → Int32) (st : Int32) (wh : Int32) (wp : va_W) (cr : Int32) (inn : Int32) (k1 : Nat → Int32) (k2 : Nat → Int32) (k3 : Nat → Int32) (k4 : Nat → Int32) (z : va_W) (x : Int32) (y : Int32) (hc : bCourse T h po la fw v0 v1 v2 v3 v4 v5 v6 v7 wc) (hp : bPosts T po la f1 f2 f3 st wh wp) (hz : bLand T la cr inn k1 k2 k3 k4 z) : zMi l T yX1_open cX1_open 4 (some .boolean) 3 0 0 [.ref h, .int x, .int y] [wc, wp, z] (fun (r : Int32) bs => ∃ (wp2 : va_W) (g2 : Nat → Int32), bs = [wc, wp2, z] ∧ bPosts T po la f1 g2 f3 st wh wp2 ∧ (∀ (fw : Nat → Int32) (v0 v1 : Int32), r = 1 ∧ zOpF cr k1 x y (f1, f2, fw, v0, v1) = some (f1, g2, fw, v0, v1) ∨ r = 0 ∧ zOpF cr k1 x y (f1, f2, fw, v0, v1) = none ∧ g2 = f2)) := by
  refine zMi_of (own := RX1) (by decide) rfl (Nat.le_of_ble_eq_true rfl) ?_
  intro p e s m args below meth c A ls C hr hlocks hnm hAe G hl
  have hx := C.1
  have hb := C.2.1
  have hl : lv_has ls 4 [(0, .ref h), (1, .int x), (2, .int y)] := hl
  refine lv_aload_n hx hb dX1_open_0 rfl (lv_at hl 0 rfl) ?_
  obtain ⟨a1_1, rfl⟩ := hc
  have G : zS T A s.heap s [[(h, .inr (1, [.ref po, .ref a1_1, .int v0, .ref la, .int v1, .int v2, .int v3, .int v4, .int v5, .int v6, .int v7]))], [(a1_1, .inl (T.2 0, 7, .inl fw))], wp, z] _ _ := G.re rfl
  refine z_get C G clX1 0 rfl 0 (by decide) m_fl_RX1_12 rfl dX1_open_1 ?_
  refine lv_iload_n hx hb dX1_open_4 rfl (lv_at hl 1 rfl) ?_
  refine lv_iload_n hx hb dX1_open_5 rfl (lv_at hl 2 rfl) ?_
  refine z_Vi (bc := [wp, z]) (br := [[(h, .inr (1, [.ref po, .ref a1_1, .int v0, .ref la, .int v1, .int v2, .int v3, .int v4, .int v5, .int v6, .int v7]))], [(a1_1, .inl (T.2 0, 7, .inl fw))]]) (As := [.int x, .int y]) (rest := []) C G (c_isShut l T po la f1 f2 f3 st wh wp cr inn k1 k2 k3 k4 z x y hp hz) (kV_RX1_141 C.2.2.2.2 (Nat.le_of_ble_eq_true rfl) (Nat.le_of_ble_eq_true rfl)) [2, 3] [0, 1] rfl rfl (ci := 6) (qc := (RX6, TX6, 6)) rfl rfl (List.mem_flatten.mpr ⟨_, List.mem_of_getElem? (i := 0) rfl, (bPosts_mem hp).choose_spec⟩) rfl rfl hl.1 dX1_open_6 (Nat.le_of_ble_eq_true rfl) (Nat.le_of_ble_eq_true rfl) (fun r_3 b1 H locs hw G => ?_)
  obtain ⟨rfl, hc_2⟩ := hw
  have G : zS T A s.heap s [[(h, .inr (1, [.ref po, .ref a1_1, .int v0, .ref la, .int v1, .int v2, .int v3, .int v4, .int v5, .int v6, .int v7]))], [(a1_1, .inl (T.2 0, 7, .inl fw))], wp, z] _ _ := G
  rcases hc_2 with ⟨rfl, h_4, h_5, h_6, h_7, h_8, h_9, h_10⟩ | ⟨rfl, h_11⟩
  · have h_4 : 0 ≤ x.toInt := h_4
    have h_5 : x.toInt < cr.toInt := h_5
    have h_6 : x.toInt < 7 := h_6
    have h_7 : 0 ≤ y.toInt := h_7
    have h_8 : y.toInt < (k1 x.toNatClampNeg).toInt := h_8
    have h_9 : y.toInt < 4 := h_9
    have h_10 : ¬ zBit (f2 x.toNatClampNeg) y = 0 := h_10
    refine lv_istore_n (lv' := [(3, .int 1), (0, .ref h), (1, .int x), (2, .int y)]) hx hb dX1_open_9 rfl hl (by decide) rfl (fun ls hl => ?_)
    refine lv_iload_n hx hb dX1_open_10 rfl (lv_at hl 0 rfl) ?_
    refine lv_if_eq (tgt := 23) hx hb dX1_open_11 (by decide) (fun q => absurd q (by decide)) (fun _ => ?_)
    refine lv_aload_n hx hb dX1_open_14 rfl (lv_at hl 1 rfl) ?_
    refine z_get C G clX1 0 rfl 0 (by decide) m_fl_RX1_12 rfl dX1_open_15 ?_
    refine lv_iload_n hx hb dX1_open_18 rfl (lv_at hl 2 rfl) ?_
    refine lv_iload_n hx hb dX1_open_19 rfl (lv_at hl 3 rfl) ?_
    refine z_Vv (bc := [wp, z]) (br := [[(h, .inr (1, [.ref po, .ref a1_1, .int v0, .ref la, .int v1, .int v2, .int v3, .int v4, .int v5, .int v6, .int v7]))], [(a1_1, .inl (T.2 0, 7, .inl fw))]]) (As := [.int x, .int y]) (rest := []) C G (c_openRoad l T po la f1 f2 f3 st wh wp cr inn k1 k2 k3 k4 z x y hp hz) (kV_RX1_147 C.2.2.2.2 (Nat.le_of_ble_eq_true rfl) (Nat.le_of_ble_eq_true rfl)) [2, 3] [0, 1] rfl rfl (ci := 6) (qc := (RX6, TX6, 6)) rfl rfl (List.mem_flatten.mpr ⟨_, List.mem_of_getElem? (i := 0) rfl, (bPosts_mem hp).choose_spec⟩) rfl rfl hl.1 dX1_open_20 (Nat.le_of_ble_eq_true rfl) (Nat.le_of_ble_eq_true rfl) (fun b1 H locs hw G => ?_)
    obtain ⟨w2_12, g2_13, rfl, h_14, h_15⟩ := hw
    have G : zS T A s.heap s [[(h, .inr (1, [.ref po, .ref a1_1, .int v0, .ref la, .int v1, .int v2, .int v3, .int v4, .int v5, .int v6, .int v7]))], [(a1_1, .inl (T.2 0, 7, .inl fw))], w2_12, z] _ _ := G
    refine lv_iload_n hx hb dX1_open_23 rfl (lv_at hl 0 rfl) ?_
    have hw_17 : bCourse T h po la fw v0 v1 v2 v3 v4 v5 v6 v7 [(h, .inr (1, [.ref po, .ref a1_1, .int v0, .ref la, .int v1, .int v2, .int v3, .int v4, .int v5, .int v6, .int v7])), (a1_1, .inl (T.2 0, 7, .inl fw))] := ⟨a1_1, rfl⟩
    have G : zS T A s.heap s [[(h, .inr (1, [.ref po, .ref a1_1, .int v0, .ref la, .int v1, .int v2, .int v3, .int v4, .int v5, .int v6, .int v7])), (a1_1, .inl (T.2 0, 7, .inl fw))], w2_12, z] _ _ := G.re rfl
    exact z_zret C hr hlocks G (Nat.le_of_ble_eq_true rfl) (Nat.le_of_ble_eq_true rfl) dX1_open_24 rfl ⟨w2_12, g2_13, rfl, h_14, (fun fw v0 v1 => Or.inl ⟨rfl, by unfold zOpF; rw [if_pos ⟨⟨by omega, by omega, by omega⟩, ⟨by omega, by omega, by omega⟩, (show ¬ zBit (f2 x.toNatClampNeg) y = 0 from by first | assumption | (rcases hns with e9 | e9 | e9 | e9 | e9 | e9 | e9 <;> first | exact e9 | (exfalso; omega)))⟩, h_15]; unfold zOpen; rw [if_pos ⟨by omega, by omega, by omega, by omega, by omega, by omega⟩]⟩)⟩
  · have h_11 : (x.toInt < 0 ∨ cr.toInt ≤ x.toInt ∨ 7 ≤ x.toInt ∨ y.toInt < 0 ∨ (k1 x.toNatClampNeg).toInt ≤ y.toInt ∨ 4 ≤ y.toInt ∨ zBit (f2 x.toNatClampNeg) y = 0) := h_11
    have hns := h_11
    refine lv_istore_n (lv' := [(3, .int 0), (0, .ref h), (1, .int x), (2, .int y)]) hx hb dX1_open_9 rfl hl (by decide) rfl (fun ls hl => ?_)
    refine lv_iload_n hx hb dX1_open_10 rfl (lv_at hl 0 rfl) ?_
    refine lv_if_eq (tgt := 23) hx hb dX1_open_11 (by decide) (fun _ => ?_) (fun q => absurd (by decide) q)
    refine lv_iload_n hx hb dX1_open_23 rfl (lv_at hl 0 rfl) ?_
    have hw_18 : bCourse T h po la fw v0 v1 v2 v3 v4 v5 v6 v7 [(h, .inr (1, [.ref po, .ref a1_1, .int v0, .ref la, .int v1, .int v2, .int v3, .int v4, .int v5, .int v6, .int v7])), (a1_1, .inl (T.2 0, 7, .inl fw))] := ⟨a1_1, rfl⟩
    have G : zS T A s.heap s [[(h, .inr (1, [.ref po, .ref a1_1, .int v0, .ref la, .int v1, .int v2, .int v3, .int v4, .int v5, .int v6, .int v7])), (a1_1, .inl (T.2 0, 7, .inl fw))], wp, z] _ _ := G.re rfl
    exact z_zret C hr hlocks G (Nat.le_of_ble_eq_true rfl) (Nat.le_of_ble_eq_true rfl) dX1_open_24 rfl ⟨wp, f2, rfl, hp, (fun fw v0 v1 => Or.inr ⟨rfl, by unfold zOpF; rw [if_neg (fun q8 => by obtain ⟨⟨a1, a2, a3⟩, ⟨b1, b2, b3⟩, b4⟩ := q8; have b4 : ¬ zBit (f2 x.toNatClampNeg) y = 0 := b4; first | omega | (rcases hns with e9 | e9 | e9 | e9 | e9 | e9 | e9 <;> first | omega | exact absurd e9 b4 | exact absurd b4 e9) | exact absurd b4 (by assumption))], rfl⟩)⟩


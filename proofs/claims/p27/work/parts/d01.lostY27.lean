theorem zRunN_k {f2 f3 lf : Nat → Int32} : ∀ (n : Nat) (f : Nat → Int32) (x : Int32) (k : Nat), (zRunN f2 f3 lf n f x k).2.2 ≤ k + n
  | 0, f, x, k => Nat.le_refl _
  | n + 1, f, x, k => by
    unfold zRunN
    split
    · show k ≤ k + (n + 1)
      omega
    · have h := zRunN_k (f2 := f2) (f3 := f3) (lf := lf) n (zPost f f2 f3 x) (zStep f f2 f3 lf x) (k + 1)
      omega
theorem zRunN_n {f2 f3 lf : Nat → Int32} : ∀ (n : Nat) (f : Nat → Int32) (x : Int32) (k : Nat), k ≤ (zRunN f2 f3 lf n f x k).2.2
  | 0, f, x, k => Nat.le_refl _
  | n + 1, f, x, k => by
    unfold zRunN
    split
    · exact Nat.le_refl _
    · exact Nat.le_trans (Nat.le_succ k) (zRunN_n n _ _ _)
theorem zLs_c {W W' L L' : Nat → Int32} (h : zLs W L L') (e : ∀ j, j < 7 → W' j = W j) : zLs W' L L' := fun j r hj hr hq => h j r hj hr (by rw [← e j hj]; exact hq)
abbrev zHas (cr x : Int32) : Prop := 0 ≤ x.toInt ∧ x.toInt < cr.toInt ∧ x.toInt < 7
/-- roads lead to crossings that are there -/
def zLq (cr : Int32) (k1 k2 : Nat → Int32) : Prop := ∀ j r : Nat, j < 7 → r < 4 → (r : Int) < (k1 j).toInt → 0 ≤ (k2 (4 * j + r)).toInt ∧ (k2 (4 * j + r)).toInt < cr.toInt
theorem zStep_h {cr inn x : Int32} {f1 f2 f3 k1 k2 : Nat → Int32} (hI : zP3 f1 f3) (hW : ∀ j, j < 7 → f3 j = zWays cr inn k1 (nI j)) (hr : ∀ j, j < 7 → (f3 j).toInt ≤ (k1 j).toInt) (hL : zLq cr k1 k2) (h7 : cr.toInt ≤ 7) (h : ¬ zStep f1 f2 f3 k2 x = -1) : zHas cr (zStep f1 f2 f3 k2 x) := by
  unfold zStep at h ⊢
  by_cases t : zTurn f1 f2 f3 x = -1
  · rw [if_pos t] at h
    exact absurd rfl h
  · rw [if_neg t]
    have g := (zTurn_lt (f2 := f2) hI x).resolve_left t
    have e1 := z_clI g.1
    have e2 := z_clI g.2.2.1
    have q := hI x.toNatClampNeg (by omega)
    have q2 := hr x.toNatClampNeg (by omega)
    have y := hL x.toNatClampNeg (zTurn f1 f2 f3 x).toNatClampNeg (by omega) (by omega) (by omega)
    exact ⟨y.1, y.2, by omega⟩
theorem zWays_r {cr inn : Int32} {k1 k3 f3 : Nat → Int32} (hI : zLI cr k1 k3) (hW : ∀ j, j < 7 → f3 j = zWays cr inn k1 (nI j)) : ∀ j, j < 7 → (f3 j).toInt ≤ (k1 j).toInt := by
  intro j hj
  rw [hW j hj]
  have t2 := nI_clamp (n := j) (by omega)
  have b := (hI.2.1 j hj).1
  unfold zWays
  split
  · rw [t2]; exact Int.le_refl _
  · exact b
theorem zRunN_h {cr inn : Int32} {f2 f3 k1 k2 : Nat → Int32} (hW : ∀ j, j < 7 → f3 j = zWays cr inn k1 (nI j)) (hr : ∀ j, j < 7 → (f3 j).toInt ≤ (k1 j).toInt) (hL : zLq cr k1 k2) (h7 : cr.toInt ≤ 7) : ∀ (n : Nat) (f : Nat → Int32) (x : Int32) (k : Nat), zP3 f f3 → zHas cr x → zHas cr (zRunN f2 f3 k2 n f x k).2.1
  | 0, f, x, k, _, h => h
  | n + 1, f, x, k, hI, h => by
    unfold zRunN
    by_cases q : zStep f f2 f3 k2 x = -1
    · rw [if_pos q]; exact h
    · rw [if_neg q]
      exact zRunN_h hW hr hL h7 n _ _ _ (zPost_I hI x) (zStep_h hI hW hr hL h7 q)
/-- posts, roads shut, walkers; steps; how many came to no inn -/
abbrev zK : Type := (Nat → Int32) × (Nat → Int32) × (Nat → Int32) × Int32 × Int32
def zMvH (H : Nat → Int32) (x y : Int32) : Nat → Int32 := upd (upd H x.toNatClampNeg (H x.toNatClampNeg - 1)) y.toNatClampNeg (upd H x.toNatClampNeg (H x.toNatClampNeg - 1) y.toNatClampNeg + 1)
def zGoF (cr : Int32) (W L : Nat → Int32) (x : Int32) (D : zK) : Option zK := if (zHas cr x ∧ 1 ≤ (D.2.2.1 x.toNatClampNeg).toInt) ∧ ¬ zStep D.1 D.2.1 W L x = -1 then some (zPost D.1 D.2.1 W x, D.2.1, zMvH D.2.2.1 x (zStep D.1 D.2.1 W L x), D.2.2.2.1 + 1, D.2.2.2.2) else none
def zRuF (cr inn : Int32) (W L : Nat → Int32) (x : Int32) (D : zK) : Option zK := if zHas cr x ∧ 1 ≤ (D.2.2.1 x.toNatClampNeg).toInt then some ((zRunN D.2.1 W L 499 D.1 x 0).1, D.2.1, zMvH D.2.2.1 x (zRunN D.2.1 W L 499 D.1 x 0).2.1, D.2.2.2.1 + nI (zRunN D.2.1 W L 499 D.1 x 0).2.2, if zBit inn (zRunN D.2.1 W L 499 D.1 x 0).2.1 = 1 then D.2.2.2.2 else D.2.2.2.2 + 1) else none
def zTuF (cr : Int32) (W : Nat → Int32) (x : Int32) (D : zK) : Option zK := if zHas cr x ∧ ¬ zTurn D.1 D.2.1 W x = -1 then some (zPost D.1 D.2.1 W x, D.2) else none
def zAdF (cr x : Int32) (D : zK) : Option zK := if zHas cr x ∧ (D.2.2.1 x.toNatClampNeg).toInt < 99 then some (D.1, D.2.1, upd D.2.2.1 x.toNatClampNeg (D.2.2.1 x.toNatClampNeg + 1), D.2.2.2) else none
def zShF (cr : Int32) (Ro : Nat → Int32) (x y : Int32) (D : zK) : Option zK := if zHas cr x ∧ (0 ≤ y.toInt ∧ y.toInt < (Ro x.toNatClampNeg).toInt ∧ y.toInt < 4) ∧ zBit (D.2.1 x.toNatClampNeg) y = 0 then some (D.1, upd D.2.1 x.toNatClampNeg (D.2.1 x.toNatClampNeg ||| 1 <<< (y &&& 31)), D.2.2) else none
def zOpF (cr : Int32) (Ro : Nat → Int32) (x y : Int32) (D : zK) : Option zK := if zHas cr x ∧ (0 ≤ y.toInt ∧ y.toInt < (Ro x.toNatClampNeg).toInt ∧ y.toInt < 4) ∧ ¬ zBit (D.2.1 x.toNatClampNeg) y = 0 then some (D.1, upd D.2.1 x.toNatClampNeg (D.2.1 x.toNatClampNeg &&& (1 <<< (y &&& 31) ^^^ (-1))), D.2.2) else none
/-- a deed -/
def zDe (cr inn : Int32) (W Ro L : Nat → Int32) (d x y : Int32) (D : zK) : Option zK := if d.toInt = 0 then zGoF cr W L x D else if d.toInt = 1 then zRuF cr inn W L x D else if d.toInt = 2 then zTuF cr W x D else if d.toInt = 3 then zAdF cr x D else if d.toInt = 4 then zShF cr Ro x y D else if d.toInt = 5 then zOpF cr Ro x y D else none
theorem zStep_t {f1 f2 f3 lf : Nat → Int32} {x : Int32} (h : zStep f1 f2 f3 lf x = -1) (hI : zP3 f1 f3) (hb : ∀ j r : Nat, j < 7 → r < 4 → (r : Int) < (f3 j).toInt → 0 ≤ (lf (4 * j + r)).toInt) : zTurn f1 f2 f3 x = -1 := by
  by_cases t : zTurn f1 f2 f3 x = -1
  · exact t
  · exfalso
    unfold zStep at h
    rw [if_neg t] at h
    have g := (zTurn_lt (f2 := f2) hI x).resolve_left t
    have e1 := z_clI g.1
    have e2 := z_clI g.2.2.1
    have q := (hI x.toNatClampNeg (by omega)).1
    have b := hb x.toNatClampNeg (zTurn f1 f2 f3 x).toNatClampNeg (by omega) (by omega) (by omega)
    rw [h] at b
    exact absurd b (by decide)
theorem zLq_b {cr inn : Int32} {f3 k1 k2 : Nat → Int32} (hr : ∀ j, j < 7 → (f3 j).toInt ≤ (k1 j).toInt) (hL : zLq cr k1 k2) : ∀ j r : Nat, j < 7 → r < 4 → (r : Int) < (f3 j).toInt → 0 ≤ (k2 (4 * j + r)).toInt := fun j r hj hr4 hq => (hL j r hj hr4 (Int.lt_of_lt_of_le hq (hr j hj))).1
theorem zRuF_i {cr inn x w s2 : Int32} {W L P S H g1 gw : Nat → Int32} {st nv n2 : Int32} (h : zHas cr x ∧ 1 ≤ (H x.toNatClampNeg).toInt) (e1 : g1 = (zRunN S W L 499 P x 0).1) (e2 : s2 = nI (zRunN S W L 499 P x 0).2.2) (e3 : w = (zRunN S W L 499 P x 0).2.1) (e4 : gw = zMvH H x w) (e5 : (if zBit inn w = 1 then nv else nv + 1) = n2) : zRuF cr inn W L x (P, S, H, st, nv) = some (g1, S, gw, st + s2, n2) := by
  unfold zRuF
  rw [if_pos h, e1, e4, e2, ← e5, e3]
set_option maxHeartbeats 4000000 in
set_option maxRecDepth 100000 in
/-- c_f_Course_add -/
theorem c_f_Course_add (l : Launch) (T : zTy) (h : Nat) (po : Nat) (la : Nat) (fw : Nat → Int32) (v0 : Int32) (v1 : Int32) (v2 : Int32) (v3 : Int32) (v4 : Int32) (v5 : Int32) (v6 : Int32) (v7 : Int32) (wc : va_W) (cr : Int32) (inn : Int32) (k1 : Nat → Int32) (k2 : Nat → Int32) (k3 : Nat → Int32) (k4 : Nat → Int32) (z : va_W) (x : Int32) (hc : bCourse T h po la fw v0 v1 v2 v3 v4 v5 v6 v7 wc) (hz : bLand T la cr inn k1 k2 k3 k4 z) : zMi l T yX1_add cX1_add 2 (some .boolean) 2 0 0 [.ref h, .int x] [wc, z] (fun (r : Int32) bs => ∃ (wc2 : va_W) (gw : Nat → Int32), bs = [wc2, z] ∧ bCourse T h po la gw v0 v1 v2 v3 v4 v5 v6 v7 wc2 ∧ (∀ f1 f2 : Nat → Int32, r = 1 ∧ zAdF cr x (f1, f2, fw, v0, v1) = some (f1, f2, gw, v0, v1) ∨ r = 0 ∧ zAdF cr x (f1, f2, fw, v0, v1) = none ∧ gw = fw)) := by
  refine zMi_of (own := RX1) (by decide) rfl (Nat.le_of_ble_eq_true rfl) ?_
  intro p e s m args below meth c A ls C hr hlocks hnm hAe G hl
  have hx := C.1
  have hb := C.2.1
  have hl : lv_has ls 2 [(0, .ref h), (1, .int x)] := hl
  refine lv_aload_n hx hb dX1_add_0 rfl (lv_at hl 0 rfl) ?_
  obtain ⟨a1_1, rfl⟩ := hc
  have G : zS T A s.heap s [[(h, .inr (1, [.ref po, .ref a1_1, .int v0, .ref la, .int v1, .int v2, .int v3, .int v4, .int v5, .int v6, .int v7]))], [(a1_1, .inl (T.2 0, 7, .inl fw))], z] _ _ := G.re rfl
  refine z_get C G clX1 0 rfl 3 (by decide) m_fl_RX1_25 rfl dX1_add_1 ?_
  refine lv_iload_n hx hb dX1_add_4 rfl (lv_at hl 1 rfl) ?_
  refine z_Vi (bc := [z]) (br := [[(h, .inr (1, [.ref po, .ref a1_1, .int v0, .ref la, .int v1, .int v2, .int v3, .int v4, .int v5, .int v6, .int v7]))], [(a1_1, .inl (T.2 0, 7, .inl fw))]]) (As := [.int x]) (rest := []) C G (c_has l T la cr inn k1 k2 k3 k4 z x hz) (kV_RX1_112 C.2.2.2.2 (Nat.le_of_ble_eq_true rfl) (Nat.le_of_ble_eq_true rfl)) [2] [0, 1] rfl rfl (ci := 4) (qc := (RX4, TX4, 6)) rfl rfl (List.mem_flatten.mpr ⟨_, List.mem_of_getElem? (i := 0) rfl, (bLand_mem hz).choose_spec⟩) rfl rfl hl.1 dX1_add_5 (Nat.le_of_ble_eq_true rfl) (Nat.le_of_ble_eq_true rfl) (fun r_3 b1 H locs hw G => ?_)
  obtain ⟨rfl, hc_2⟩ := hw
  have G : zS T A s.heap s [[(h, .inr (1, [.ref po, .ref a1_1, .int v0, .ref la, .int v1, .int v2, .int v3, .int v4, .int v5, .int v6, .int v7]))], [(a1_1, .inl (T.2 0, 7, .inl fw))], z] _ _ := G
  rcases hc_2 with ⟨rfl, h_4, h_5, h_6⟩ | ⟨rfl, h_7⟩
  · have h_4 : 0 ≤ x.toInt := h_4
    have h_5 : x.toInt < cr.toInt := h_5
    have h_6 : x.toInt < 7 := h_6
    refine lv_if_eq (tgt := 22) hx hb dX1_add_8 (by decide) (fun q => absurd q (by decide)) (fun _ => ?_)
    refine lv_aload_n hx hb dX1_add_11 rfl (lv_at hl 0 rfl) ?_
    refine z_get C G clX1 0 rfl 1 (by decide) m_fl_RX1_18 rfl dX1_add_12 ?_
    refine lv_iload_n hx hb dX1_add_15 rfl (lv_at hl 1 rfl) ?_
    refine z_ild C G 1 rfl (vp_in_iff.mpr ⟨by omega, by omega⟩) dX1_add_16 ?_
    refine lv_topi (fun v_8 ev_8 => ?_)
    subst ev_8
    refine lv_bipush (v := 99) hx hb dX1_add_17 (by decide) ?_
    refine lv_icmp_lt (tgt := 24) hx hb dX1_add_19 (by decide) (fun c_9 => ?_) (fun c_9 => ?_)
    · have c_9n : (fw x.toNatClampNeg).toInt < (99 : Int) := (fa_lt _ _).mp c_9
      refine lv_aload_n hx hb dX1_add_24 rfl (lv_at hl 0 rfl) ?_
      refine z_get C G clX1 0 rfl 1 (by decide) m_fl_RX1_18 rfl dX1_add_25 ?_
      refine lv_iload_n hx hb dX1_add_28 rfl (lv_at hl 1 rfl) ?_
      refine lv_dup2_11 hx hb dX1_add_29 rfl rfl ?_
      refine z_ild C G 1 rfl (vp_in_iff.mpr ⟨by omega, by omega⟩) dX1_add_30 ?_
      refine lv_topi (fun v_10 ev_10 => ?_)
      subst ev_10
      refine lv_iconst (v := 1) hx hb dX1_add_31 (by decide) ?_
      refine lv_iadd hx hb dX1_add_32 ?_
      refine z_ist C G 1 rfl (vp_in_iff.mpr ⟨by omega, by omega⟩) dX1_add_33 (fun H locs G => ?_)
      have G : zS T A s.heap s [[(h, .inr (1, [.ref po, .ref a1_1, .int v0, .ref la, .int v1, .int v2, .int v3, .int v4, .int v5, .int v6, .int v7]))], [(a1_1, .inl (T.2 0, 7, .inl (upd fw x.toNatClampNeg ((fw x.toNatClampNeg) + 1))))], z] _ _ := G
      refine lv_iconst (v := 1) hx hb dX1_add_34 (by decide) ?_
      have hw_11 : bCourse T h po la (upd fw x.toNatClampNeg ((fw x.toNatClampNeg) + 1)) v0 v1 v2 v3 v4 v5 v6 v7 [(h, .inr (1, [.ref po, .ref a1_1, .int v0, .ref la, .int v1, .int v2, .int v3, .int v4, .int v5, .int v6, .int v7])), (a1_1, .inl (T.2 0, 7, .inl (upd fw x.toNatClampNeg ((fw x.toNatClampNeg) + 1))))] := ⟨a1_1, rfl⟩
      have G : zS T A s.heap s [[(h, .inr (1, [.ref po, .ref a1_1, .int v0, .ref la, .int v1, .int v2, .int v3, .int v4, .int v5, .int v6, .int v7])), (a1_1, .inl (T.2 0, 7, .inl (upd fw x.toNatClampNeg ((fw x.toNatClampNeg) + 1))))], z] _ _ := G.re rfl
      exact z_zret C hr hlocks G (Nat.le_of_ble_eq_true rfl) (Nat.le_of_ble_eq_true rfl) dX1_add_35 rfl ⟨([(h, .inr (1, [.ref po, .ref a1_1, .int v0, .ref la, .int v1, .int v2, .int v3, .int v4, .int v5, .int v6, .int v7])), (a1_1, .inl (T.2 0, 7, .inl (upd fw x.toNatClampNeg ((fw x.toNatClampNeg) + 1))))]), (upd fw x.toNatClampNeg ((fw x.toNatClampNeg) + 1)), rfl, hw_11, (fun f1 f2 => Or.inl ⟨rfl, by unfold zAdF; rw [if_pos ⟨⟨by omega, by omega, by omega⟩, by assumption⟩]⟩)⟩
    · have c_9n : ¬ (fw x.toNatClampNeg).toInt < (99 : Int) := fun q => c_9 ((fa_lt _ _).mpr q)
      refine lv_iconst (v := 0) hx hb dX1_add_22 (by decide) ?_
      have hw_12 : bCourse T h po la fw v0 v1 v2 v3 v4 v5 v6 v7 [(h, .inr (1, [.ref po, .ref a1_1, .int v0, .ref la, .int v1, .int v2, .int v3, .int v4, .int v5, .int v6, .int v7])), (a1_1, .inl (T.2 0, 7, .inl fw))] := ⟨a1_1, rfl⟩
      have G : zS T A s.heap s [[(h, .inr (1, [.ref po, .ref a1_1, .int v0, .ref la, .int v1, .int v2, .int v3, .int v4, .int v5, .int v6, .int v7])), (a1_1, .inl (T.2 0, 7, .inl fw))], z] _ _ := G.re rfl
      exact z_zret C hr hlocks G (Nat.le_of_ble_eq_true rfl) (Nat.le_of_ble_eq_true rfl) dX1_add_23 rfl ⟨([(h, .inr (1, [.ref po, .ref a1_1, .int v0, .ref la, .int v1, .int v2, .int v3, .int v4, .int v5, .int v6, .int v7])), (a1_1, .inl (T.2 0, 7, .inl fw))]), fw, rfl, hw_12, (fun f1 f2 => Or.inr ⟨rfl, by unfold zAdF; rw [if_neg (fun q8 => by have q7 := q8.2; have q7 : (fw x.toNatClampNeg).toInt < 99 := q7; omega)], rfl⟩)⟩
  · have h_7 : (x.toInt < 0 ∨ cr.toInt ≤ x.toInt ∨ 7 ≤ x.toInt) := h_7
    refine lv_if_eq (tgt := 22) hx hb dX1_add_8 (by decide) (fun _ => ?_) (fun q => absurd (by decide) q)
    refine lv_iconst (v := 0) hx hb dX1_add_22 (by decide) ?_
    have hw_13 : bCourse T h po la fw v0 v1 v2 v3 v4 v5 v6 v7 [(h, .inr (1, [.ref po, .ref a1_1, .int v0, .ref la, .int v1, .int v2, .int v3, .int v4, .int v5, .int v6, .int v7])), (a1_1, .inl (T.2 0, 7, .inl fw))] := ⟨a1_1, rfl⟩
    have G : zS T A s.heap s [[(h, .inr (1, [.ref po, .ref a1_1, .int v0, .ref la, .int v1, .int v2, .int v3, .int v4, .int v5, .int v6, .int v7])), (a1_1, .inl (T.2 0, 7, .inl fw))], z] _ _ := G.re rfl
    exact z_zret C hr hlocks G (Nat.le_of_ble_eq_true rfl) (Nat.le_of_ble_eq_true rfl) dX1_add_23 rfl ⟨([(h, .inr (1, [.ref po, .ref a1_1, .int v0, .ref la, .int v1, .int v2, .int v3, .int v4, .int v5, .int v6, .int v7])), (a1_1, .inl (T.2 0, 7, .inl fw))]), fw, rfl, hw_13, (fun f1 f2 => Or.inr ⟨rfl, by unfold zAdF; rw [if_neg (fun q8 => by have q7 := q8.2; have q7 : (fw x.toNatClampNeg).toInt < 99 := q7; omega)], rfl⟩)⟩
set_option maxHeartbeats 4000000 in
set_option maxRecDepth 100000 in
/-- c_f_Course_shut -/
theorem c_f_Course_shut (l : Launch) (T : zTy) (h : Nat) (po : Nat) (la : Nat) (fw : Nat → Int32) (v0 : Int32) (v1 : Int32) (v2 : Int32) (v3 : Int32) (v4 : Int32) (v5 : Int32) (v6 : Int32) (v7 : Int32) (wc : va_W) (f1 : Nat → Int32) (f2 : Nat → Int32) (f3 : Nat → Int32) (st : Int32) (wh : Int32) (wp : va_W) (cr : Int32) (inn : Int32) (k1 : Nat → Int32) (k2 : Nat → Int32) (k3 : Nat → Int32) (k4 : Nat → Int32) (z : va_W) (x : Int32) (y : Int32) (hc : bCourse T h po la fw v0 v1 v2 v3 v4 v5 v6 v7 wc) (hp : bPosts T po la f1 f2 f3 st wh wp) (hz : bLand T la cr inn k1 k2 k3 k4 z) : zMi l T yX1_shut cX1_shut 4 (some .boolean) 3 0 0 [.ref h, .int x, .int y] [wc, wp, z] (fun (r : Int32) bs => ∃ (wp2 : va_W) (g2 : Nat → Int32), bs = [wc, wp2, z] ∧ bPosts T po la f1 g2 f3 st wh wp2 ∧ (∀ (fw : Nat → Int32) (v0 v1 : Int32), r = 1 ∧ zShF cr k1 x y (f1, f2, fw, v0, v1) = some (f1, g2, fw, v0, v1) ∨ r = 0 ∧ zShF cr k1 x y (f1, f2, fw, v0, v1) = none ∧ g2 = f2)) := by
  refine zMi_of (own := RX1) (by decide) rfl (Nat.le_of_ble_eq_true rfl) ?_
  intro p e s m args below meth c A ls C hr hlocks hnm hAe G hl
  have hx := C.1
  have hb := C.2.1
  have hl : lv_has ls 4 [(0, .ref h), (1, .int x), (2, .int y)] := hl
  refine lv_aload_n hx hb dX1_shut_0 rfl (lv_at hl 0 rfl) ?_
  obtain ⟨a1_1, rfl⟩ := hc
  have G : zS T A s.heap s [[(h, .inr (1, [.ref po, .ref a1_1, .int v0, .ref la, .int v1, .int v2, .int v3, .int v4, .int v5, .int v6, .int v7]))], [(a1_1, .inl (T.2 0, 7, .inl fw))], wp, z] _ _ := G.re rfl
  refine z_get C G clX1 0 rfl 3 (by decide) m_fl_RX1_25 rfl dX1_shut_1 ?_
  refine lv_iload_n hx hb dX1_shut_4 rfl (lv_at hl 1 rfl) ?_
  refine lv_iload_n hx hb dX1_shut_5 rfl (lv_at hl 2 rfl) ?_
  refine z_Vi (bc := [z]) (br := [[(h, .inr (1, [.ref po, .ref a1_1, .int v0, .ref la, .int v1, .int v2, .int v3, .int v4, .int v5, .int v6, .int v7]))], [(a1_1, .inl (T.2 0, 7, .inl fw))], wp]) (As := [.int x, .int y]) (rest := []) C G (c_hasRoad l T la cr inn k1 k2 k3 k4 z x y hz) (kV_RX1_138 C.2.2.2.2 (Nat.le_of_ble_eq_true rfl) (Nat.le_of_ble_eq_true rfl)) [3] [0, 1, 2] rfl rfl (ci := 4) (qc := (RX4, TX4, 6)) rfl rfl (List.mem_flatten.mpr ⟨_, List.mem_of_getElem? (i := 0) rfl, (bLand_mem hz).choose_spec⟩) rfl rfl hl.1 dX1_shut_6 (Nat.le_of_ble_eq_true rfl) (Nat.le_of_ble_eq_true rfl) (fun r_3 b1 H locs hw G => ?_)
  obtain ⟨rfl, hc_2⟩ := hw
  have G : zS T A s.heap s [[(h, .inr (1, [.ref po, .ref a1_1, .int v0, .ref la, .int v1, .int v2, .int v3, .int v4, .int v5, .int v6, .int v7]))], [(a1_1, .inl (T.2 0, 7, .inl fw))], wp, z] _ _ := G
  rcases hc_2 with ⟨rfl, h_4, h_5, h_6, h_7, h_8, h_9⟩ | ⟨rfl, h_10⟩
  · have h_4 : 0 ≤ x.toInt := h_4
    have h_5 : x.toInt < cr.toInt := h_5
    have h_6 : x.toInt < 7 := h_6
    have h_7 : 0 ≤ y.toInt := h_7
    have h_8 : y.toInt < (k1 x.toNatClampNeg).toInt := h_8
    have h_9 : y.toInt < 4 := h_9
    refine lv_if_eq (tgt := 28) hx hb dX1_shut_9 (by decide) (fun q => absurd q (by decide)) (fun _ => ?_)
    refine lv_aload_n hx hb dX1_shut_12 rfl (lv_at hl 0 rfl) ?_
    refine z_get C G clX1 0 rfl 0 (by decide) m_fl_RX1_12 rfl dX1_shut_13 ?_
    refine lv_iload_n hx hb dX1_shut_16 rfl (lv_at hl 1 rfl) ?_
    refine lv_iload_n hx hb dX1_shut_17 rfl (lv_at hl 2 rfl) ?_
    refine z_Vi (bc := [wp, z]) (br := [[(h, .inr (1, [.ref po, .ref a1_1, .int v0, .ref la, .int v1, .int v2, .int v3, .int v4, .int v5, .int v6, .int v7]))], [(a1_1, .inl (T.2 0, 7, .inl fw))]]) (As := [.int x, .int y]) (rest := []) C G (c_isShut l T po la f1 f2 f3 st wh wp cr inn k1 k2 k3 k4 z x y hp hz) (kV_RX1_141 C.2.2.2.2 (Nat.le_of_ble_eq_true rfl) (Nat.le_of_ble_eq_true rfl)) [2, 3] [0, 1] rfl rfl (ci := 6) (qc := (RX6, TX6, 6)) rfl rfl (List.mem_flatten.mpr ⟨_, List.mem_of_getElem? (i := 0) rfl, (bPosts_mem hp).choose_spec⟩) rfl rfl hl.1 dX1_shut_18 (Nat.le_of_ble_eq_true rfl) (Nat.le_of_ble_eq_true rfl) (fun r_12 b1 H locs hw G => ?_)
    obtain ⟨rfl, hc_11⟩ := hw
    have G : zS T A s.heap s [[(h, .inr (1, [.ref po, .ref a1_1, .int v0, .ref la, .int v1, .int v2, .int v3, .int v4, .int v5, .int v6, .int v7]))], [(a1_1, .inl (T.2 0, 7, .inl fw))], wp, z] _ _ := G
    rcases hc_11 with ⟨rfl, h_13, h_14, h_15, h_16, h_17, h_18, h_19⟩ | ⟨rfl, h_20⟩
    · have h_13 : 0 ≤ x.toInt := h_13
      have h_14 : x.toInt < cr.toInt := h_14
      have h_15 : x.toInt < 7 := h_15
      have h_16 : 0 ≤ y.toInt := h_16
      have h_17 : y.toInt < (k1 x.toNatClampNeg).toInt := h_17
      have h_18 : y.toInt < 4 := h_18
      have h_19 : ¬ zBit (f2 x.toNatClampNeg) y = 0 := h_19
      refine lv_if_ne (tgt := 28) hx hb dX1_shut_21 (by decide) (fun _ => ?_) (fun q => absurd q (by decide))
      refine lv_iconst (v := 0) hx hb dX1_shut_28 (by decide) ?_
      refine lv_istore_n (lv' := [(3, .int 0), (0, .ref h), (1, .int x), (2, .int y)]) hx hb dX1_shut_29 rfl hl (by decide) rfl (fun ls hl => ?_)
      refine lv_iload_n hx hb dX1_shut_30 rfl (lv_at hl 0 rfl) ?_
      refine lv_if_eq (tgt := 43) hx hb dX1_shut_31 (by decide) (fun _ => ?_) (fun q => absurd (by decide) q)
      refine lv_iload_n hx hb dX1_shut_43 rfl (lv_at hl 0 rfl) ?_
      have hw_21 : bCourse T h po la fw v0 v1 v2 v3 v4 v5 v6 v7 [(h, .inr (1, [.ref po, .ref a1_1, .int v0, .ref la, .int v1, .int v2, .int v3, .int v4, .int v5, .int v6, .int v7])), (a1_1, .inl (T.2 0, 7, .inl fw))] := ⟨a1_1, rfl⟩
      have G : zS T A s.heap s [[(h, .inr (1, [.ref po, .ref a1_1, .int v0, .ref la, .int v1, .int v2, .int v3, .int v4, .int v5, .int v6, .int v7])), (a1_1, .inl (T.2 0, 7, .inl fw))], wp, z] _ _ := G.re rfl
      exact z_zret C hr hlocks G (Nat.le_of_ble_eq_true rfl) (Nat.le_of_ble_eq_true rfl) dX1_shut_44 rfl ⟨wp, f2, rfl, hp, (fun fw v0 v1 => Or.inr ⟨rfl, by unfold zShF; rw [if_neg (fun q8 => by obtain ⟨⟨a1, a2, a3⟩, ⟨b1, b2, b3⟩, b4⟩ := q8; have b4 : zBit (f2 x.toNatClampNeg) y = 0 := b4; first | omega | (rcases hns with e9 | e9 | e9 | e9 | e9 | e9 | e9 <;> first | omega | exact absurd e9 b4 | exact absurd b4 e9) | exact absurd b4 (by assumption))], rfl⟩)⟩
    · have h_20 : (x.toInt < 0 ∨ cr.toInt ≤ x.toInt ∨ 7 ≤ x.toInt ∨ y.toInt < 0 ∨ (k1 x.toNatClampNeg).toInt ≤ y.toInt ∨ 4 ≤ y.toInt ∨ zBit (f2 x.toNatClampNeg) y = 0) := h_20
      have hns := h_20
      refine lv_if_ne (tgt := 28) hx hb dX1_shut_21 (by decide) (fun q => absurd (by decide) q) (fun _ => ?_)
      refine lv_iconst (v := 1) hx hb dX1_shut_24 (by decide) ?_
      refine lv_goto (tgt := 29) hx hb dX1_shut_25 (by decide) ?_
      refine lv_istore_n (lv' := [(3, .int 1), (0, .ref h), (1, .int x), (2, .int y)]) hx hb dX1_shut_29 rfl hl (by decide) rfl (fun ls hl => ?_)
      refine lv_iload_n hx hb dX1_shut_30 rfl (lv_at hl 0 rfl) ?_
      refine lv_if_eq (tgt := 43) hx hb dX1_shut_31 (by decide) (fun q => absurd q (by decide)) (fun _ => ?_)
      refine lv_aload_n hx hb dX1_shut_34 rfl (lv_at hl 1 rfl) ?_
      refine z_get C G clX1 0 rfl 0 (by decide) m_fl_RX1_12 rfl dX1_shut_35 ?_
      refine lv_iload_n hx hb dX1_shut_38 rfl (lv_at hl 2 rfl) ?_
      refine lv_iload_n hx hb dX1_shut_39 rfl (lv_at hl 3 rfl) ?_
      refine z_Vv (bc := [wp, z]) (br := [[(h, .inr (1, [.ref po, .ref a1_1, .int v0, .ref la, .int v1, .int v2, .int v3, .int v4, .int v5, .int v6, .int v7]))], [(a1_1, .inl (T.2 0, 7, .inl fw))]]) (As := [.int x, .int y]) (rest := []) C G (c_shutRoad l T po la f1 f2 f3 st wh wp cr inn k1 k2 k3 k4 z x y hp hz) (kV_RX1_144 C.2.2.2.2 (Nat.le_of_ble_eq_true rfl) (Nat.le_of_ble_eq_true rfl)) [2, 3] [0, 1] rfl rfl (ci := 6) (qc := (RX6, TX6, 6)) rfl rfl (List.mem_flatten.mpr ⟨_, List.mem_of_getElem? (i := 0) rfl, (bPosts_mem hp).choose_spec⟩) rfl rfl hl.1 dX1_shut_40 (Nat.le_of_ble_eq_true rfl) (Nat.le_of_ble_eq_true rfl) (fun b1 H locs hw G => ?_)
      obtain ⟨w2_22, g2_23, rfl, h_24, h_25⟩ := hw
      have G : zS T A s.heap s [[(h, .inr (1, [.ref po, .ref a1_1, .int v0, .ref la, .int v1, .int v2, .int v3, .int v4, .int v5, .int v6, .int v7]))], [(a1_1, .inl (T.2 0, 7, .inl fw))], w2_22, z] _ _ := G
      refine lv_iload_n hx hb dX1_shut_43 rfl (lv_at hl 0 rfl) ?_
      have hw_27 : bCourse T h po la fw v0 v1 v2 v3 v4 v5 v6 v7 [(h, .inr (1, [.ref po, .ref a1_1, .int v0, .ref la, .int v1, .int v2, .int v3, .int v4, .int v5, .int v6, .int v7])), (a1_1, .inl (T.2 0, 7, .inl fw))] := ⟨a1_1, rfl⟩
      have G : zS T A s.heap s [[(h, .inr (1, [.ref po, .ref a1_1, .int v0, .ref la, .int v1, .int v2, .int v3, .int v4, .int v5, .int v6, .int v7])), (a1_1, .inl (T.2 0, 7, .inl fw))], w2_22, z] _ _ := G.re rfl
      exact z_zret C hr hlocks G (Nat.le_of_ble_eq_true rfl) (Nat.le_of_ble_eq_true rfl) dX1_shut_44 rfl ⟨w2_22, g2_23, rfl, h_24, (fun fw v0 v1 => Or.inl ⟨rfl, by unfold zShF; rw [if_pos ⟨⟨by omega, by omega, by omega⟩, ⟨by omega, by omega, by omega⟩, (show zBit (f2 x.toNatClampNeg) y = 0 from by first | assumption | (rcases hns with e9 | e9 | e9 | e9 | e9 | e9 | e9 <;> first | exact e9 | (exfalso; omega)))⟩, h_25]; unfold zShut; rw [if_pos ⟨by omega, by omega, by omega, by omega, by omega, by omega⟩]⟩)⟩
  · have h_10 : (x.toInt < 0 ∨ cr.toInt ≤ x.toInt ∨ 7 ≤ x.toInt ∨ y.toInt < 0 ∨ (k1 x.toNatClampNeg).toInt ≤ y.toInt ∨ 4 ≤ y.toInt) := h_10
    refine lv_if_eq (tgt := 28) hx hb dX1_shut_9 (by decide) (fun _ => ?_) (fun q => absurd (by decide) q)
    refine lv_iconst (v := 0) hx hb dX1_shut_28 (by decide) ?_
    refine lv_istore_n (lv' := [(3, .int 0), (0, .ref h), (1, .int x), (2, .int y)]) hx hb dX1_shut_29 rfl hl (by decide) rfl (fun ls hl => ?_)
    refine lv_iload_n hx hb dX1_shut_30 rfl (lv_at hl 0 rfl) ?_
    refine lv_if_eq (tgt := 43) hx hb dX1_shut_31 (by decide) (fun _ => ?_) (fun q => absurd (by decide) q)
    refine lv_iload_n hx hb dX1_shut_43 rfl (lv_at hl 0 rfl) ?_
    have hw_28 : bCourse T h po la fw v0 v1 v2 v3 v4 v5 v6 v7 [(h, .inr (1, [.ref po, .ref a1_1, .int v0, .ref la, .int v1, .int v2, .int v3, .int v4, .int v5, .int v6, .int v7])), (a1_1, .inl (T.2 0, 7, .inl fw))] := ⟨a1_1, rfl⟩
    have G : zS T A s.heap s [[(h, .inr (1, [.ref po, .ref a1_1, .int v0, .ref la, .int v1, .int v2, .int v3, .int v4, .int v5, .int v6, .int v7])), (a1_1, .inl (T.2 0, 7, .inl fw))], wp, z] _ _ := G.re rfl
    exact z_zret C hr hlocks G (Nat.le_of_ble_eq_true rfl) (Nat.le_of_ble_eq_true rfl) dX1_shut_44 rfl ⟨wp, f2, rfl, hp, (fun fw v0 v1 => Or.inr ⟨rfl, by unfold zShF; rw [if_neg (fun q8 => by obtain ⟨⟨a1, a2, a3⟩, ⟨b1, b2, b3⟩, b4⟩ := q8; have b4 : zBit (f2 x.toNatClampNeg) y = 0 := b4; first | omega | (rcases hns with e9 | e9 | e9 | e9 | e9 | e9 | e9 <;> first | omega | exact absurd e9 b4 | exact absurd b4 e9) | exact absurd b4 (by assumption))], rfl⟩)⟩
set_option maxHeartbeats 4000000 in
set_option maxRecDepth 100000 in
/-- c_f_Course_open -/
theorem c_f_Course_open (l : Launch) (T : zTy) (h : Nat) (po : Nat) (la : Nat) (fw : Nat → Int32) (v0 : Int32) (v1 : Int32) (v2 : Int32) (v3 : Int32) (v4 : Int32) (v5 : Int32) (v6 : Int32) (v7 : Int32) (wc : va_W) (f1 : Nat → Int32) (f2 : Nat → Int32) (f3 : Nat → Int32) (st : Int32) (wh : Int32) (wp : va_W) (cr : Int32) (inn : Int32) (k1 : Nat → Int32) (k2 : Nat → Int32) (k3 : Nat → Int32) (k4 : Nat → Int32) (z : va_W) (x : Int32) (y : Int32) (hc : bCourse T h po la fw v0 v1 v2 v3 v4 v5 v6 v7 wc) (hp : bPosts T po la f1 f2 f3 st wh wp) (hz : bLand T la cr inn k1 k2 k3 k4 z) : zMi l T yX1_open cX1_open 4 (some .boolean) 3 0 0 [.ref h, .int x, .int y] [wc, wp, z] (fun (r : Int32) bs => ∃ (wp2 : va_W) (g2 : Nat → Int32), bs = [wc, wp2, z] ∧ bPosts T po la f1 g2 f3 st wh wp2 ∧ (∀ (fw : Nat → Int32) (v0 v1 : Int32), r = 1 ∧ zOpF cr k1 x y (f1, f2, fw, v0, v1) = some (f1, g2, fw, v0, v1) ∨ r = 0 ∧ zOpF cr k1 x y (f1, f2, fw, v0, v1) = none ∧ g2 = f2)) := by
  refine zMi_of (own := RX1) (by decide) rfl (Nat.le_of_ble_eq_true rfl) ?_
  intro p e s m args below meth c A ls C hr hlocks hnm hAe G hl
  have hx := C.1
  have hb := C.2.1
  have hl : lv_has ls 4 [(0, .ref h), (1, .int x), (2, .int y)] := hl
  refine lv_aload_n hx hb dX1_open_0 rfl (lv_at hl 0 rfl) ?_
  obtain ⟨a1_1, rfl⟩ := hc
  have G : zS T A s.heap s [[(h, .inr (1, [.ref po, .ref a1_1, .int v0, .ref la, .int v1, .int v2, .int v3, .int v4, .int v5, .int v6, .int v7]))], [(a1_1, .inl (T.2 0, 7, .inl fw))], wp, z] _ _ := G.re rfl
  refine z_get C G clX1 0 rfl 0 (by decide) m_fl_RX1_12 rfl dX1_open_1 ?_
  refine lv_iload_n hx hb dX1_open_4 rfl (lv_at hl 1 rfl) ?_
  refine lv_iload_n hx hb dX1_open_5 rfl (lv_at hl 2 rfl) ?_
  refine z_Vi (bc := [wp, z]) (br := [[(h, .inr (1, [.ref po, .ref a1_1, .int v0, .ref la, .int v1, .int v2, .int v3, .int v4, .int v5, .int v6, .int v7]))], [(a1_1, .inl (T.2 0, 7, .inl fw))]]) (As := [.int x, .int y]) (rest := []) C G (c_isShut l T po la f1 f2 f3 st wh wp cr inn k1 k2 k3 k4 z x y hp hz) (kV_RX1_141 C.2.2.2.2 (Nat.le_of_ble_eq_true rfl) (Nat.le_of_ble_eq_true rfl)) [2, 3] [0, 1] rfl rfl (ci := 6) (qc := (RX6, TX6, 6)) rfl rfl (List.mem_flatten.mpr ⟨_, List.mem_of_getElem? (i := 0) rfl, (bPosts_mem hp).choose_spec⟩) rfl rfl hl.1 dX1_open_6 (Nat.le_of_ble_eq_true rfl) (Nat.le_of_ble_eq_true rfl) (fun r_3 b1 H locs hw G => ?_)
  obtain ⟨rfl, hc_2⟩ := hw
  have G : zS T A s.heap s [[(h, .inr (1, [.ref po, .ref a1_1, .int v0, .ref la, .int v1, .int v2, .int v3, .int v4, .int v5, .int v6, .int v7]))], [(a1_1, .inl (T.2 0, 7, .inl fw))], wp, z] _ _ := G
  rcases hc_2 with ⟨rfl, h_4, h_5, h_6, h_7, h_8, h_9, h_10⟩ | ⟨rfl, h_11⟩
  · have h_4 : 0 ≤ x.toInt := h_4
    have h_5 : x.toInt < cr.toInt := h_5
    have h_6 : x.toInt < 7 := h_6
    have h_7 : 0 ≤ y.toInt := h_7
    have h_8 : y.toInt < (k1 x.toNatClampNeg).toInt := h_8
    have h_9 : y.toInt < 4 := h_9
    have h_10 : ¬ zBit (f2 x.toNatClampNeg) y = 0 := h_10
    refine lv_istore_n (lv' := [(3, .int 1), (0, .ref h), (1, .int x), (2, .int y)]) hx hb dX1_open_9 rfl hl (by decide) rfl (fun ls hl => ?_)
    refine lv_iload_n hx hb dX1_open_10 rfl (lv_at hl 0 rfl) ?_
    refine lv_if_eq (tgt := 23) hx hb dX1_open_11 (by decide) (fun q => absurd q (by decide)) (fun _ => ?_)
    refine lv_aload_n hx hb dX1_open_14 rfl (lv_at hl 1 rfl) ?_
    refine z_get C G clX1 0 rfl 0 (by decide) m_fl_RX1_12 rfl dX1_open_15 ?_
    refine lv_iload_n hx hb dX1_open_18 rfl (lv_at hl 2 rfl) ?_
    refine lv_iload_n hx hb dX1_open_19 rfl (lv_at hl 3 rfl) ?_
    refine z_Vv (bc := [wp, z]) (br := [[(h, .inr (1, [.ref po, .ref a1_1, .int v0, .ref la, .int v1, .int v2, .int v3, .int v4, .int v5, .int v6, .int v7]))], [(a1_1, .inl (T.2 0, 7, .inl fw))]]) (As := [.int x, .int y]) (rest := []) C G (c_openRoad l T po la f1 f2 f3 st wh wp cr inn k1 k2 k3 k4 z x y hp hz) (kV_RX1_147 C.2.2.2.2 (Nat.le_of_ble_eq_true rfl) (Nat.le_of_ble_eq_true rfl)) [2, 3] [0, 1] rfl rfl (ci := 6) (qc := (RX6, TX6, 6)) rfl rfl (List.mem_flatten.mpr ⟨_, List.mem_of_getElem? (i := 0) rfl, (bPosts_mem hp).choose_spec⟩) rfl rfl hl.1 dX1_open_20 (Nat.le_of_ble_eq_true rfl) (Nat.le_of_ble_eq_true rfl) (fun b1 H locs hw G => ?_)
    obtain ⟨w2_12, g2_13, rfl, h_14, h_15⟩ := hw
    have G : zS T A s.heap s [[(h, .inr (1, [.ref po, .ref a1_1, .int v0, .ref la, .int v1, .int v2, .int v3, .int v4, .int v5, .int v6, .int v7]))], [(a1_1, .inl (T.2 0, 7, .inl fw))], w2_12, z] _ _ := G
    refine lv_iload_n hx hb dX1_open_23 rfl (lv_at hl 0 rfl) ?_
    have hw_17 : bCourse T h po la fw v0 v1 v2 v3 v4 v5 v6 v7 [(h, .inr (1, [.ref po, .ref a1_1, .int v0, .ref la, .int v1, .int v2, .int v3, .int v4, .int v5, .int v6, .int v7])), (a1_1, .inl (T.2 0, 7, .inl fw))] := ⟨a1_1, rfl⟩
    have G : zS T A s.heap s [[(h, .inr (1, [.ref po, .ref a1_1, .int v0, .ref la, .int v1, .int v2, .int v3, .int v4, .int v5, .int v6, .int v7])), (a1_1, .inl (T.2 0, 7, .inl fw))], w2_12, z] _ _ := G.re rfl
    exact z_zret C hr hlocks G (Nat.le_of_ble_eq_true rfl) (Nat.le_of_ble_eq_true rfl) dX1_open_24 rfl ⟨w2_12, g2_13, rfl, h_14, (fun fw v0 v1 => Or.inl ⟨rfl, by unfold zOpF; rw [if_pos ⟨⟨by omega, by omega, by omega⟩, ⟨by omega, by omega, by omega⟩, (show ¬ zBit (f2 x.toNatClampNeg) y = 0 from by first | assumption | (rcases hns with e9 | e9 | e9 | e9 | e9 | e9 | e9 <;> first | exact e9 | (exfalso; omega)))⟩, h_15]; unfold zOpen; rw [if_pos ⟨by omega, by omega, by omega, by omega, by omega, by omega⟩]⟩)⟩
  · have h_11 : (x.toInt < 0 ∨ cr.toInt ≤ x.toInt ∨ 7 ≤ x.toInt ∨ y.toInt < 0 ∨ (k1 x.toNatClampNeg).toInt ≤ y.toInt ∨ 4 ≤ y.toInt ∨ zBit (f2 x.toNatClampNeg) y = 0) := h_11
    have hns := h_11
    refine lv_istore_n (lv' := [(3, .int 0), (0, .ref h), (1, .int x), (2, .int y)]) hx hb dX1_open_9 rfl hl (by decide) rfl (fun ls hl => ?_)
    refine lv_iload_n hx hb dX1_open_10 rfl (lv_at hl 0 rfl) ?_
    refine lv_if_eq (tgt := 23) hx hb dX1_open_11 (by decide) (fun _ => ?_) (fun q => absurd (by decide) q)
    refine lv_iload_n hx hb dX1_open_23 rfl (lv_at hl 0 rfl) ?_
    have hw_18 : bCourse T h po la fw v0 v1 v2 v3 v4 v5 v6 v7 [(h, .inr (1, [.ref po, .ref a1_1, .int v0, .ref la, .int v1, .int v2, .int v3, .int v4, .int v5, .int v6, .int v7])), (a1_1, .inl (T.2 0, 7, .inl fw))] := ⟨a1_1, rfl⟩
    have G : zS T A s.heap s [[(h, .inr (1, [.ref po, .ref a1_1, .int v0, .ref la, .int v1, .int v2, .int v3, .int v4, .int v5, .int v6, .int v7])), (a1_1, .inl (T.2 0, 7, .inl fw))], wp, z] _ _ := G.re rfl
    exact z_zret C hr hlocks G (Nat.le_of_ble_eq_true rfl) (Nat.le_of_ble_eq_true rfl) dX1_open_24 rfl ⟨wp, f2, rfl, hp, (fun fw v0 v1 => Or.inr ⟨rfl, by unfold zOpF; rw [if_neg (fun q8 => by obtain ⟨⟨a1, a2, a3⟩, ⟨b1, b2, b3⟩, b4⟩ := q8; have b4 : ¬ zBit (f2 x.toNatClampNeg) y = 0 := b4; first | omega | (rcases hns with e9 | e9 | e9 | e9 | e9 | e9 | e9 <;> first | omega | exact absurd e9 b4 | exact absurd b4 e9) | exact absurd b4 (by assumption))], rfl⟩)⟩

section ZDE
variable {cr inn d x y : Int32} {W Ro L : Nat → Int32} {D : zK}
theorem zDe_k0 (h : d.toInt = 0) : zDe cr inn W Ro L d x y D = zGoF cr W L x D := if_pos h
theorem zDe_k1 (h : d.toInt = 1) : zDe cr inn W Ro L d x y D = zRuF cr inn W L x D := by
  unfold zDe
  rw [if_neg (by omega), if_pos h]
theorem zDe_k2 (h : d.toInt = 2) : zDe cr inn W Ro L d x y D = zTuF cr W x D := by
  unfold zDe
  rw [if_neg (by omega), if_neg (by omega), if_pos h]
theorem zDe_k3 (h : d.toInt = 3) : zDe cr inn W Ro L d x y D = zAdF cr x D := by
  unfold zDe
  rw [if_neg (by omega), if_neg (by omega), if_neg (by omega), if_pos h]
theorem zDe_k4 (h : d.toInt = 4) : zDe cr inn W Ro L d x y D = zShF cr Ro x y D := by
  unfold zDe
  rw [if_neg (by omega), if_neg (by omega), if_neg (by omega), if_neg (by omega), if_pos h]
theorem zDe_k5 (h : d.toInt = 5) : zDe cr inn W Ro L d x y D = zOpF cr Ro x y D := by
  unfold zDe
  rw [if_neg (by omega), if_neg (by omega), if_neg (by omega), if_neg (by omega), if_neg (by omega), if_pos h]
theorem zDe_kn (h : d.toInt < 0 ∨ 5 < d.toInt) : zDe cr inn W Ro L d x y D = none := by
  unfold zDe
  rw [if_neg (by omega), if_neg (by omega), if_neg (by omega), if_neg (by omega), if_neg (by omega), if_neg (by omega)]
end ZDE
theorem zTurn_has {cr inn x : Int32} {f1 f2 f3 k1 : Nat → Int32} (hI : zP3 f1 f3) (hW : ∀ j, j < 7 → f3 j = zWays cr inn k1 (nI j)) (h : ¬ zTurn f1 f2 f3 x = -1) : zHas cr x := by
  have g := (zTurn_lt (f2 := f2) hI x).resolve_left h
  have e := z_clI g.1
  have t := nI_toInt (n := x.toNatClampNeg) (by omega)
  have w := hW x.toNatClampNeg (by omega)
  have q := zWays_in (cr := cr) (inn := inn) (f1 := k1) (x := nI x.toNatClampNeg) (fun q => by
    rw [w, q] at g
    have z0 : (0 : Int32).toInt = 0 := rfl
    omega)
  exact ⟨g.1, by omega, g.2.1⟩
theorem zTuF_i {cr x : Int32} {W P S H g1 : Nat → Int32} {st nv : Int32} (h : zHas cr x ∧ ¬ zTurn P S W x = -1) (e : g1 = zPost P S W x) : zTuF cr W x (P, S, H, st, nv) = some (g1, S, H, st, nv) := by
  unfold zTuF
  rw [if_pos h, e]
theorem zTuF_n {cr x : Int32} {W P S H g1 : Nat → Int32} {st nv : Int32} (h : zTurn P S W x = -1) (e : g1 = zPost P S W x) : zTuF cr W x (P, S, H, st, nv) = none ∧ g1 = P := by
  unfold zTuF
  refine ⟨if_neg (fun q => q.2 h), ?_⟩
  rw [e]
  unfold zPost
  rw [if_pos h]
/-- deeds one behind the other, from the k-th, n of them at most: which can't be done, and what is then -/
def zDayN (F : Nat → zK → Option zK) : Nat → Nat → zK → Nat × zK
  | 0, k, D => (k, D)
  | n + 1, k, D => match F k D with
    | none => (k, D)
    | some E => zDayN F n (k + 1) E
theorem zInc1 (i : Nat) : nI i + 1 = nI (i + 1) := z_inc i 1
theorem zDayN_z {F : Nat → zK → Option zK} {n k : Nat} {D : zK} (h : n = 0) : zDayN F n k D = (k, D) := by
  subst h
  rfl
theorem zDayN_s {F : Nat → zK → Option zK} {n k : Nat} {D E : zK} (h : F k D = some E) : zDayN F (n + 1) k D = zDayN F n (k + 1) E := by
  rw [zDayN, h]
theorem zDayN_n {F : Nat → zK → Option zK} {n k : Nat} {D : zK} (h : F k D = none) : zDayN F n k D = (k, D) := by
  cases n with
  | zero => rfl
  | succ n => rw [zDayN, h]
/-- walkers: none below nothing, never many -/
def zHB (m : Int) (H : Nat → Int32) : Prop := ∀ j, j < 7 → 0 ≤ (H j).toInt ∧ (H j).toInt ≤ m
theorem zMvH_b {m : Int} {H : Nat → Int32} {x y : Int32} (hm : m ≤ 100000) (h : zHB m H) (hx : 0 ≤ x.toInt ∧ x.toInt < 7) (hy : 0 ≤ y.toInt ∧ y.toInt < 7) (h1 : 1 ≤ (H x.toNatClampNeg).toInt) : zHB (m + 1) (zMvH H x y) := by
  have ex := z_clI hx.1
  have ey := z_clI hy.1
  have bx := h x.toNatClampNeg (by omega)
  have e1 : (1 : Int32).toInt = 1 := rfl
  have d : (H x.toNatClampNeg - 1).toInt = (H x.toNatClampNeg).toInt - 1 := (z_isubI (x := H x.toNatClampNeg) (y := 1) (by rw [e1]; omega) (by rw [e1]; omega)).trans (by rw [e1])
  have g : zHB m (upd H x.toNatClampNeg (H x.toNatClampNeg - 1)) := by
    intro j hj
    unfold upd
    split
    · omega
    · exact h j hj
  have by_ := g y.toNatClampNeg (by omega)
  intro j hj
  unfold zMvH
  by_cases q : j = y.toNatClampNeg
  · rw [z_eq q, z_iaddI (by rw [e1]; omega) (by rw [e1]; omega), e1]
    omega
  · rw [z_ne q]
    have := g j hj
    omega
theorem zAdd_b {m : Int} {H : Nat → Int32} {k : Nat} (hm : m ≤ 100000) (h : zHB m H) (hk : k < 7) : zHB (m + 1) (upd H k (H k + 1)) := by
  have e1 : (1 : Int32).toInt = 1 := rfl
  have b := h k hk
  intro j hj
  by_cases q : j = k
  · rw [z_eq q, z_iaddI (by rw [e1]; omega) (by rw [e1]; omega), e1]
    omega
  · rw [z_ne q]
    have := h j hj
    omega
theorem zHB_m {m n : Int} {H : Nat → Int32} (h : zHB m H) (q : m ≤ n) : zHB n H := fun j hj => ⟨(h j hj).1, Int.le_trans (h j hj).2 q⟩
/-- roads shut: of four -/
def zS15 (S : Nat → Int32) : Prop := ∀ j, j < 7 → 0 ≤ (S j).toInt ∧ (S j).toInt ≤ 15
theorem zSx1 : ∀ t, t < 16 → ∀ c, c < 4 → (zBit (nI t) (nI c) = 0 → nI t ^^^ ((1 : Int32) <<< (nI c &&& 31)) = nI t ||| ((1 : Int32) <<< (nI c &&& 31)) ∧ 0 ≤ (nI t ||| ((1 : Int32) <<< (nI c &&& 31))).toInt ∧ (nI t ||| ((1 : Int32) <<< (nI c &&& 31))).toInt ≤ 15) ∧ (¬ zBit (nI t) (nI c) = 0 → nI t ^^^ ((1 : Int32) <<< (nI c &&& 31)) = nI t &&& ((1 : Int32) <<< (nI c &&& 31) ^^^ (-1)) ∧ 0 ≤ (nI t &&& ((1 : Int32) <<< (nI c &&& 31) ^^^ (-1))).toInt ∧ (nI t &&& ((1 : Int32) <<< (nI c &&& 31) ^^^ (-1))).toInt ≤ 15) := by decide +kernel
theorem zSx {s k : Int32} (hs : 0 ≤ s.toInt ∧ s.toInt ≤ 15) (hk : 0 ≤ k.toInt ∧ k.toInt ≤ 3) : (zBit s k = 0 → s ^^^ ((1 : Int32) <<< (k &&& 31)) = s ||| ((1 : Int32) <<< (k &&& 31)) ∧ 0 ≤ (s ||| ((1 : Int32) <<< (k &&& 31))).toInt ∧ (s ||| ((1 : Int32) <<< (k &&& 31))).toInt ≤ 15) ∧ (¬ zBit s k = 0 → s ^^^ ((1 : Int32) <<< (k &&& 31)) = s &&& ((1 : Int32) <<< (k &&& 31) ^^^ (-1)) ∧ 0 ≤ (s &&& ((1 : Int32) <<< (k &&& 31) ^^^ (-1))).toInt ∧ (s &&& ((1 : Int32) <<< (k &&& 31) ^^^ (-1))).toInt ≤ 15) := by
  have e1 : s = nI s.toInt.toNat := z_nI (by omega) (by omega)
  have e2 : k = nI k.toInt.toNat := z_nI (by omega) (by omega)
  rw [e1, e2]
  exact zSx1 _ (by omega) _ (by omega)
theorem zS15_u {S : Nat → Int32} {k : Nat} {v : Int32} (h : zS15 S) (hv : 0 ≤ v.toInt ∧ v.toInt ≤ 15) : zS15 (upd S k v) := by
  intro j hj
  unfold upd
  split
  · exact hv
  · exact h j hj
theorem zGoF_i {cr x t : Int32} {W L P S H g1 gw : Nat → Int32} {st nv s2 : Int32} (h : zHas cr x ∧ 1 ≤ (H x.toNatClampNeg).toInt) (h2 : ¬ zStep P S W L x = -1) (e1 : g1 = zPost P S W x) (e3 : t = zStep P S W L x) (e4 : gw = zMvH H x t) (e5 : s2 = st + 1) : zGoF cr W L x (P, S, H, st, nv) = some (g1, S, gw, s2, nv) := by
  unfold zGoF
  rw [if_pos ⟨h, h2⟩, e1, e4, e5, e3]
theorem zRuF_m {cr inn x w s2 : Int32} {W L P S H g1 gw : Nat → Int32} {st nv n2 s3 : Int32} (h : zHas cr x ∧ 1 ≤ (H x.toNatClampNeg).toInt) (e1 : g1 = (zRunN S W L 499 P x 0).1) (e2 : s2 = nI (zRunN S W L 499 P x 0).2.2) (e3 : w = (zRunN S W L 499 P x 0).2.1) (e4 : gw = zMvH H x w) (e6 : s3 = st + s2) (e5 : (if zBit inn w = 1 then nv else nv + 1) = n2) : zRuF cr inn W L x (P, S, H, st, nv) = some (g1, S, gw, s3, n2) := by
  rw [e6]
  exact zRuF_i h e1 e2 e3 e4 e5
theorem zPost_no {f1 f2 f3 lf : Nat → Int32} {x : Int32} (h : zStep f1 f2 f3 lf x = -1) (hI : zP3 f1 f3) (hb : ∀ j r : Nat, j < 7 → r < 4 → (r : Int) < (f3 j).toInt → 0 ≤ (lf (4 * j + r)).toInt) : zPost f1 f2 f3 x = f1 := by
  unfold zPost
  rw [if_pos (zStep_t h hI hb)]
theorem zLo_m {f : Nat → Int32} {z cr n : Int32} (h : zML f z cr) : ∀ j r : Nat, j < 7 → r < 4 → (r : Int) < (zWo f z n j).toInt → 0 ≤ (zLo f z (4 * j + r)).toInt := fun j r hj hr _ => (h.2.2.2.2 (4 * j + r) (by omega)).1
theorem zStep_inn {P S f L : Nat → Int32} {z n x : Int32} (h : zBit n x = 1) (h0 : 0 ≤ x.toInt) (h6 : x.toInt ≤ 6) : zStep P S (zWo f z n) L x = -1 := by
  unfold zStep
  rw [if_pos (zTurn_inn h h0 h6)]
set_option maxHeartbeats 4000000 in
set_option maxRecDepth 100000 in
/-- c_fm_adds -/
theorem c_fm_adds (l : Launch) (T : zTy) (mo : Nat) (m_all : Nat) (m_has : Nat) (i_size : Int32) (i_next : Int32) (i_where : Int32) (i_token : Int32) (i_number : Int32) (i_word : Int32) (i_wrong : Int32) (i_farCrossing : Int32) (m_read : Nat) (i_z0 : Int32) (i_crossings : Int32) (i_inns : Int32) (m_posts : Nat) (m_shut : Nat) (m_here : Nat) (i_steps : Int32) (i_done : Int32) (i_at : Int32) (i_gone : Int32) (m_was : Nat) (m_came : Nat) (m_seenAt : Nat) (m_rowWorth : Nat) (m_farBy : Nat) (m_used : Nat) (i_everywhere : Int32) (i_again0 : Int32) (i_d0 : Int32) (i_never : Int32) (i_firstCame : Int32) (i_longRun : Int32) (i_moved : Int32) (i_crowd : Int32) (i_l0 : Int32) (i_fitMany : Int32) (i_fitLeast : Int32) (i_fitMost : Int32) (m_fitPost : Nat) (m_fitEnd : Nat) (m_keptPosts : Nat) (i_x0 : Int32) (f_here : Nat → Int32) (c_ : Int32) (hc0 : 0 ≤ c_.toInt) (hc6 : c_.toInt ≤ 6) (hcx : c_.toInt < i_crossings.toInt) (hH : zHB 100000 f_here) : zMi l T yX12_adds cX12_adds 2 (some .boolean) 1 0 0 [.ref mo, .int c_] [[(mo, .inr (11, [.ref m_all, .ref m_has, .int i_size, .int i_next, .int i_where, .int i_token, .int i_number, .int i_word, .int i_wrong, .int i_farCrossing, .ref m_read, .int i_z0, .int i_crossings, .int i_inns, .ref m_posts, .ref m_shut, .ref m_here, .int i_steps, .int i_done, .int i_at, .int i_gone, .ref m_was, .ref m_came, .ref m_seenAt, .ref m_rowWorth, .ref m_farBy, .ref m_used, .int i_everywhere, .int i_again0, .int i_d0, .int i_never, .int i_firstCame, .int i_longRun, .int i_moved, .int i_crowd, .int i_l0, .int i_fitMany, .int i_fitLeast, .int i_fitMost, .ref m_fitPost, .ref m_fitEnd, .ref m_keptPosts, .int i_x0]))], [(m_here, .inl (T.2 0, 7, .inl f_here))]] (fun (r : Int32) bs => ∃ (g_here : Nat → Int32), bs = [[(mo, .inr (11, [.ref m_all, .ref m_has, .int i_size, .int i_next, .int i_where, .int i_token, .int i_number, .int i_word, .int i_wrong, .int i_farCrossing, .ref m_read, .int i_z0, .int i_crossings, .int i_inns, .ref m_posts, .ref m_shut, .ref m_here, .int i_steps, .int i_done, .int i_at, .int i_gone, .ref m_was, .ref m_came, .ref m_seenAt, .ref m_rowWorth, .ref m_farBy, .ref m_used, .int i_everywhere, .int i_again0, .int i_d0, .int i_never, .int i_firstCame, .int i_longRun, .int i_moved, .int i_crowd, .int i_l0, .int i_fitMany, .int i_fitLeast, .int i_fitMost, .ref m_fitPost, .ref m_fitEnd, .ref m_keptPosts, .int i_x0]))], [(m_here, .inl (T.2 0, 7, .inl g_here))]] ∧ (∀ (P S : Nat → Int32) (st nv : Int32), r = 1 ∧ zAdF i_crossings c_ (P, S, f_here, st, nv) = some (P, S, g_here, st, nv) ∨ r = 0 ∧ zAdF i_crossings c_ (P, S, f_here, st, nv) = none ∧ g_here = f_here) ∧ (∀ m : Int, m ≤ 100000 → zHB m f_here → zHB (m + 1) g_here)) := by
  refine zMi_of (own := RX12) (by decide) rfl (Nat.le_of_ble_eq_true rfl) ?_
  intro p e s m args below meth c A ls C hr hlocks hnm hAe G hl
  have hx := C.1
  have hb := C.2.1
  have hl : lv_has ls 2 [(0, .ref mo), (1, .int c_)] := hl
  refine lv_aload_n hx hb dX12_adds_0 rfl (lv_at hl 0 rfl) ?_
  refine z_get C G clX12 0 rfl 16 (by decide) m_fl_RX12_26 rfl dX12_adds_1 ?_
  refine lv_iload_n hx hb dX12_adds_4 rfl (lv_at hl 1 rfl) ?_
  refine z_ild C G 1 rfl (vp_in_iff.mpr ⟨by omega, by omega⟩) dX12_adds_5 ?_
  refine lv_topi (fun v_1 ev_1 => ?_)
  subst ev_1
  refine lv_bipush (v := 99) hx hb dX12_adds_6 (by decide) ?_
  refine lv_icmp_lt (tgt := 13) hx hb dX12_adds_8 (by decide) (fun c_2 => ?_) (fun c_2 => ?_)
  · have c_2n : (f_here c_.toNatClampNeg).toInt < (99 : Int) := (fa_lt _ _).mp c_2
    refine lv_aload_n hx hb dX12_adds_13 rfl (lv_at hl 0 rfl) ?_
    refine z_get C G clX12 0 rfl 16 (by decide) m_fl_RX12_26 rfl dX12_adds_14 ?_
    refine lv_iload_n hx hb dX12_adds_17 rfl (lv_at hl 1 rfl) ?_
    refine lv_dup2_11 hx hb dX12_adds_18 rfl rfl ?_
    refine z_ild C G 1 rfl (vp_in_iff.mpr ⟨by omega, by omega⟩) dX12_adds_19 ?_
    refine lv_topi (fun v_3 ev_3 => ?_)
    subst ev_3
    refine lv_iconst (v := 1) hx hb dX12_adds_20 (by decide) ?_
    refine lv_iadd hx hb dX12_adds_21 ?_
    refine z_ist C G 1 rfl (vp_in_iff.mpr ⟨by omega, by omega⟩) dX12_adds_22 (fun H locs G => ?_)
    have G : zS T A s.heap s [[(mo, .inr (11, [.ref m_all, .ref m_has, .int i_size, .int i_next, .int i_where, .int i_token, .int i_number, .int i_word, .int i_wrong, .int i_farCrossing, .ref m_read, .int i_z0, .int i_crossings, .int i_inns, .ref m_posts, .ref m_shut, .ref m_here, .int i_steps, .int i_done, .int i_at, .int i_gone, .ref m_was, .ref m_came, .ref m_seenAt, .ref m_rowWorth, .ref m_farBy, .ref m_used, .int i_everywhere, .int i_again0, .int i_d0, .int i_never, .int i_firstCame, .int i_longRun, .int i_moved, .int i_crowd, .int i_l0, .int i_fitMany, .int i_fitLeast, .int i_fitMost, .ref m_fitPost, .ref m_fitEnd, .ref m_keptPosts, .int i_x0]))], [(m_here, .inl (T.2 0, 7, .inl (upd f_here c_.toNatClampNeg ((f_here c_.toNatClampNeg) + 1))))]] _ _ := G
    refine lv_iconst (v := 1) hx hb dX12_adds_23 (by decide) ?_
    exact z_zret C hr hlocks G (Nat.le_of_ble_eq_true rfl) (Nat.le_of_ble_eq_true rfl) dX12_adds_24 rfl ⟨(upd f_here c_.toNatClampNeg ((f_here c_.toNatClampNeg) + 1)), rfl, (fun P S st nv => Or.inl ⟨rfl, by unfold zAdF; rw [if_pos ⟨⟨by omega, by omega, by omega⟩, by assumption⟩]⟩), (fun m hm hx => zAdd_b hm hx (by have q9 := z_clI (x := c_) (by omega); omega))⟩
  · have c_2n : ¬ (f_here c_.toNatClampNeg).toInt < (99 : Int) := fun q => c_2 ((fa_lt _ _).mpr q)
    refine lv_iconst (v := 0) hx hb dX12_adds_11 (by decide) ?_
    exact z_zret C hr hlocks G (Nat.le_of_ble_eq_true rfl) (Nat.le_of_ble_eq_true rfl) dX12_adds_12 rfl ⟨f_here, rfl, (fun P S st nv => Or.inr ⟨rfl, by unfold zAdF; rw [if_neg (fun q8 => by have q7 := q8.2; have q7 : (f_here c_.toNatClampNeg).toInt < 99 := q7; omega)], rfl⟩), (fun m hm hx => zHB_m hx (by omega))⟩
set_option maxHeartbeats 4000000 in
set_option maxRecDepth 100000 in
/-- c_fm_shuts1 -/
theorem c_fm_shuts1 (l : Launch) (T : zTy) (mo : Nat) (m_all : Nat) (m_has : Nat) (i_size : Int32) (i_next : Int32) (i_where : Int32) (i_token : Int32) (i_number : Int32) (i_word : Int32) (i_wrong : Int32) (i_farCrossing : Int32) (m_read : Nat) (i_z0 : Int32) (i_crossings : Int32) (i_inns : Int32) (m_posts : Nat) (m_shut : Nat) (m_here : Nat) (i_steps : Int32) (i_done : Int32) (i_at : Int32) (i_gone : Int32) (m_was : Nat) (m_came : Nat) (m_seenAt : Nat) (m_rowWorth : Nat) (m_farBy : Nat) (m_used : Nat) (i_everywhere : Int32) (i_again0 : Int32) (i_d0 : Int32) (i_never : Int32) (i_firstCame : Int32) (i_longRun : Int32) (i_moved : Int32) (i_crowd : Int32) (i_l0 : Int32) (i_fitMany : Int32) (i_fitLeast : Int32) (i_fitMost : Int32) (m_fitPost : Nat) (m_fitEnd : Nat) (m_keptPosts : Nat) (i_x0 : Int32) (f_all : Nat → Int32) (f_shut : Nat → Int32) (c_ : Int32) (k_ : Int32) (hL : zML f_all i_z0 i_crossings) (hc0 : 0 ≤ c_.toInt) (hc6 : c_.toInt ≤ 6) (hcx : c_.toInt < i_crossings.toInt) (hk0 : 0 ≤ k_.toInt) (hk3 : k_.toInt ≤ 3) (hS5 : zS15 f_shut) : zMi l T yX12_shuts cX12_shuts 4 (some .boolean) 2 0 0 [.ref mo, .int c_, .int k_, .int 1] [[(mo, .inr (11, [.ref m_all, .ref m_has, .int i_size, .int i_next, .int i_where, .int i_token, .int i_number, .int i_word, .int i_wrong, .int i_farCrossing, .ref m_read, .int i_z0, .int i_crossings, .int i_inns, .ref m_posts, .ref m_shut, .ref m_here, .int i_steps, .int i_done, .int i_at, .int i_gone, .ref m_was, .ref m_came, .ref m_seenAt, .ref m_rowWorth, .ref m_farBy, .ref m_used, .int i_everywhere, .int i_again0, .int i_d0, .int i_never, .int i_firstCame, .int i_longRun, .int i_moved, .int i_crowd, .int i_l0, .int i_fitMany, .int i_fitLeast, .int i_fitMost, .ref m_fitPost, .ref m_fitEnd, .ref m_keptPosts, .int i_x0]))], [(m_all, .inl (T.2 0, 3952, .inl f_all))], [(m_shut, .inl (T.2 0, 7, .inl f_shut))]] (fun (r : Int32) bs => ∃ (g_shut : Nat → Int32), bs = [[(mo, .inr (11, [.ref m_all, .ref m_has, .int i_size, .int i_next, .int i_where, .int i_token, .int i_number, .int i_word, .int i_wrong, .int i_farCrossing, .ref m_read, .int i_z0, .int i_crossings, .int i_inns, .ref m_posts, .ref m_shut, .ref m_here, .int i_steps, .int i_done, .int i_at, .int i_gone, .ref m_was, .ref m_came, .ref m_seenAt, .ref m_rowWorth, .ref m_farBy, .ref m_used, .int i_everywhere, .int i_again0, .int i_d0, .int i_never, .int i_firstCame, .int i_longRun, .int i_moved, .int i_crowd, .int i_l0, .int i_fitMany, .int i_fitLeast, .int i_fitMost, .ref m_fitPost, .ref m_fitEnd, .ref m_keptPosts, .int i_x0]))], [(m_all, .inl (T.2 0, 3952, .inl f_all))], [(m_shut, .inl (T.2 0, 7, .inl g_shut))]] ∧ (∀ (P H : Nat → Int32) (st nv : Int32), r = 1 ∧ zShF i_crossings (zRo f_all i_z0) c_ k_ (P, f_shut, H, st, nv) = some (P, g_shut, H, st, nv) ∨ r = 0 ∧ zShF i_crossings (zRo f_all i_z0) c_ k_ (P, f_shut, H, st, nv) = none ∧ g_shut = f_shut) ∧ zS15 g_shut) := by
  refine zMi_of (own := RX12) (by decide) rfl (Nat.le_of_ble_eq_true rfl) ?_
  intro p e s m args below meth c A ls C hr hlocks hnm hAe G hl
  have hx := C.1
  have hb := C.2.1
  have hl : lv_has ls 4 [(0, .ref mo), (1, .int c_), (2, .int k_), (3, .int 1)] := hl
  have hz := hL.1
  have hcr := hL.cr
  refine lv_iload_n hx hb dX12_shuts_0 rfl (lv_at hl 2 rfl) ?_
  refine lv_aload_n hx hb dX12_shuts_1 rfl (lv_at hl 0 rfl) ?_
  refine lv_iload_n hx hb dX12_shuts_2 rfl (lv_at hl 1 rfl) ?_
  refine z_Vi (bc := [[(mo, .inr (11, [.ref m_all, .ref m_has, .int i_size, .int i_next, .int i_where, .int i_token, .int i_number, .int i_word, .int i_wrong, .int i_farCrossing, .ref m_read, .int i_z0, .int i_crossings, .int i_inns, .ref m_posts, .ref m_shut, .ref m_here, .int i_steps, .int i_done, .int i_at, .int i_gone, .ref m_was, .ref m_came, .ref m_seenAt, .ref m_rowWorth, .ref m_farBy, .ref m_used, .int i_everywhere, .int i_again0, .int i_d0, .int i_never, .int i_firstCame, .int i_longRun, .int i_moved, .int i_crowd, .int i_l0, .int i_fitMany, .int i_fitLeast, .int i_fitMost, .ref m_fitPost, .ref m_fitEnd, .ref m_keptPosts, .int i_x0]))], [(m_all, .inl (T.2 0, 3952, .inl f_all))]]) (br := [[(m_shut, .inl (T.2 0, 7, .inl f_shut))]]) (As := [.int c_]) (rest := [.int k_]) C G (c_m_roadsOf l T mo m_all m_has i_size i_next i_where i_token i_number i_word i_wrong i_farCrossing m_read i_z0 i_crossings i_inns m_posts m_shut m_here i_steps i_done i_at i_gone m_was m_came m_seenAt m_rowWorth m_farBy m_used i_everywhere i_again0 i_d0 i_never i_firstCame i_longRun i_moved i_crowd i_l0 i_fitMany i_fitLeast i_fitMost m_fitPost m_fitEnd m_keptPosts i_x0 f_all c_ (by first | assumption | omega | rfl) (by first | assumption | omega | rfl) (by first | assumption | omega | rfl)) (kV_RX12_181 C.2.2.2.2 (Nat.le_of_ble_eq_true rfl) (Nat.le_of_ble_eq_true rfl)) [0, 1] [2] rfl rfl (ci := 11) (qc := (RX12, TX12, 43)) rfl rfl (List.mem_flatten.mpr ⟨_, List.mem_of_getElem? (i := 0) rfl, List.mem_cons_self⟩) rfl rfl hl.1 dX12_shuts_3 (Nat.le_of_ble_eq_true rfl) (Nat.le_of_ble_eq_true rfl) (fun r_4 b1 H locs hw G => ?_)
  obtain ⟨rfl, h_1, h_2, h_3⟩ := hw
  have G : zS T A s.heap s [[(m_shut, .inl (T.2 0, 7, .inl f_shut))], [(mo, .inr (11, [.ref m_all, .ref m_has, .int i_size, .int i_next, .int i_where, .int i_token, .int i_number, .int i_word, .int i_wrong, .int i_farCrossing, .ref m_read, .int i_z0, .int i_crossings, .int i_inns, .ref m_posts, .ref m_shut, .ref m_here, .int i_steps, .int i_done, .int i_at, .int i_gone, .ref m_was, .ref m_came, .ref m_seenAt, .ref m_rowWorth, .ref m_farBy, .ref m_used, .int i_everywhere, .int i_again0, .int i_d0, .int i_never, .int i_firstCame, .int i_longRun, .int i_moved, .int i_crowd, .int i_l0, .int i_fitMany, .int i_fitLeast, .int i_fitMost, .ref m_fitPost, .ref m_fitEnd, .ref m_keptPosts, .int i_x0]))], [(m_all, .inl (T.2 0, 3952, .inl f_all))]] _ _ := G
  subst h_1
  refine lv_icmp_ge (tgt := 32) hx hb dX12_shuts_6 (by decide) (fun c_5 => ?_) (fun c_5 => ?_)
  · have c_5n : (zRd f_all i_z0 c_).toInt ≤ k_.toInt := (fa_le _ _).mp c_5
    refine lv_iconst (v := 0) hx hb dX12_shuts_32 (by decide) ?_
    have G := G.sub (bs' := [[(mo, .inr (11, [.ref m_all, .ref m_has, .int i_size, .int i_next, .int i_where, .int i_token, .int i_number, .int i_word, .int i_wrong, .int i_farCrossing, .ref m_read, .int i_z0, .int i_crossings, .int i_inns, .ref m_posts, .ref m_shut, .ref m_here, .int i_steps, .int i_done, .int i_at, .int i_gone, .ref m_was, .ref m_came, .ref m_seenAt, .ref m_rowWorth, .ref m_farBy, .ref m_used, .int i_everywhere, .int i_again0, .int i_d0, .int i_never, .int i_firstCame, .int i_longRun, .int i_moved, .int i_crowd, .int i_l0, .int i_fitMany, .int i_fitLeast, .int i_fitMost, .ref m_fitPost, .ref m_fitEnd, .ref m_keptPosts, .int i_x0]))], [(m_all, .inl (T.2 0, 3952, .inl f_all))], [(m_shut, .inl (T.2 0, 7, .inl f_shut))]]) [1, 2, 0] rfl
    exact z_zret C hr hlocks G (Nat.le_of_ble_eq_true rfl) (Nat.le_of_ble_eq_true rfl) dX12_shuts_33 rfl ⟨f_shut, rfl, (fun P H st nv => Or.inr ⟨rfl, by unfold zShF; rw [if_neg (fun q8 => by obtain ⟨⟨a1, a2, a3⟩, ⟨b1, b2, b3⟩, b4⟩ := q8; first | (have b2 : k_.toInt < (zRd f_all i_z0 c_).toInt := b2; omega) | exact absurd b4 (zBit_o (by assumption)))], rfl⟩), hS5⟩
  · have c_5n : ¬ (zRd f_all i_z0 c_).toInt ≤ k_.toInt := fun q => c_5 ((fa_le _ _).mpr q)
    refine lv_aload_n hx hb dX12_shuts_9 rfl (lv_at hl 0 rfl) ?_
    refine z_get C G clX12 1 rfl 15 (by decide) m_fl_RX12_23 rfl dX12_shuts_10 ?_
    refine lv_iload_n hx hb dX12_shuts_13 rfl (lv_at hl 1 rfl) ?_
    refine z_ild C G 0 rfl (vp_in_iff.mpr ⟨by omega, by omega⟩) dX12_shuts_14 ?_
    refine lv_topi (fun v_6 ev_6 => ?_)
    subst ev_6
    refine lv_iload_n hx hb dX12_shuts_15 rfl (lv_at hl 2 rfl) ?_
    refine lv_ishr hx hb dX12_shuts_16 ?_
    refine lv_iconst (v := 1) hx hb dX12_shuts_17 (by decide) ?_
    refine lv_iand hx hb dX12_shuts_18 ?_
    refine lv_iconst (v := 1) hx hb dX12_shuts_19 (by decide) ?_
    refine lv_icmp_ne (tgt := 27) hx hb dX12_shuts_20 (by decide) (fun c_7 => ?_) (fun c_7 => ?_)
    · have c_7n : ¬ (((f_shut c_.toNatClampNeg) >>> (k_ &&& 31)) &&& 1).toInt = (1 : Int) := fun q => c_7 ((fa_eq _ _).mpr q)
      refine lv_iconst (v := 0) hx hb dX12_shuts_27 (by decide) ?_
      refine lv_iload_n hx hb dX12_shuts_28 rfl (lv_at hl 3 rfl) ?_
      refine lv_icmp_ne (tgt := 34) hx hb dX12_shuts_29 (by decide) (fun _ => ?_) (fun q => absurd q (by decide))
      refine lv_aload_n hx hb dX12_shuts_34 rfl (lv_at hl 0 rfl) ?_
      refine z_get C G clX12 1 rfl 15 (by decide) m_fl_RX12_23 rfl dX12_shuts_35 ?_
      refine lv_iload_n hx hb dX12_shuts_38 rfl (lv_at hl 1 rfl) ?_
      refine lv_dup2_11 hx hb dX12_shuts_39 rfl rfl ?_
      refine z_ild C G 0 rfl (vp_in_iff.mpr ⟨by omega, by omega⟩) dX12_shuts_40 ?_
      refine lv_topi (fun v_8 ev_8 => ?_)
      subst ev_8
      refine lv_iconst (v := 1) hx hb dX12_shuts_41 (by decide) ?_
      refine lv_iload_n hx hb dX12_shuts_42 rfl (lv_at hl 2 rfl) ?_
      refine lv_ishl hx hb dX12_shuts_43 ?_
      refine lv_ixor hx hb dX12_shuts_44 ?_
      refine z_ist C G 0 rfl (vp_in_iff.mpr ⟨by omega, by omega⟩) dX12_shuts_45 (fun H locs G => ?_)
      have G : zS T A s.heap s [[(m_shut, .inl (T.2 0, 7, .inl (upd f_shut c_.toNatClampNeg ((f_shut c_.toNatClampNeg) ^^^ (1 <<< (k_ &&& 31))))))], [(mo, .inr (11, [.ref m_all, .ref m_has, .int i_size, .int i_next, .int i_where, .int i_token, .int i_number, .int i_word, .int i_wrong, .int i_farCrossing, .ref m_read, .int i_z0, .int i_crossings, .int i_inns, .ref m_posts, .ref m_shut, .ref m_here, .int i_steps, .int i_done, .int i_at, .int i_gone, .ref m_was, .ref m_came, .ref m_seenAt, .ref m_rowWorth, .ref m_farBy, .ref m_used, .int i_everywhere, .int i_again0, .int i_d0, .int i_never, .int i_firstCame, .int i_longRun, .int i_moved, .int i_crowd, .int i_l0, .int i_fitMany, .int i_fitLeast, .int i_fitMost, .ref m_fitPost, .ref m_fitEnd, .ref m_keptPosts, .int i_x0]))], [(m_all, .inl (T.2 0, 3952, .inl f_all))]] _ _ := G
      refine lv_iconst (v := 1) hx hb dX12_shuts_46 (by decide) ?_
      have G := G.sub (bs' := [[(mo, .inr (11, [.ref m_all, .ref m_has, .int i_size, .int i_next, .int i_where, .int i_token, .int i_number, .int i_word, .int i_wrong, .int i_farCrossing, .ref m_read, .int i_z0, .int i_crossings, .int i_inns, .ref m_posts, .ref m_shut, .ref m_here, .int i_steps, .int i_done, .int i_at, .int i_gone, .ref m_was, .ref m_came, .ref m_seenAt, .ref m_rowWorth, .ref m_farBy, .ref m_used, .int i_everywhere, .int i_again0, .int i_d0, .int i_never, .int i_firstCame, .int i_longRun, .int i_moved, .int i_crowd, .int i_l0, .int i_fitMany, .int i_fitLeast, .int i_fitMost, .ref m_fitPost, .ref m_fitEnd, .ref m_keptPosts, .int i_x0]))], [(m_all, .inl (T.2 0, 3952, .inl f_all))], [(m_shut, .inl (T.2 0, 7, .inl (upd f_shut c_.toNatClampNeg ((f_shut c_.toNatClampNeg) ^^^ (1 <<< (k_ &&& 31))))))]]) [1, 2, 0] rfl
      exact z_zret C hr hlocks G (Nat.le_of_ble_eq_true rfl) (Nat.le_of_ble_eq_true rfl) dX12_shuts_47 rfl ⟨(upd f_shut c_.toNatClampNeg ((f_shut c_.toNatClampNeg) ^^^ (1 <<< (k_ &&& 31)))), rfl, (fun P H st nv => Or.inl ⟨rfl, by unfold zShF; rw [if_pos ⟨⟨by omega, by omega, by omega⟩, ⟨by omega, by show k_.toInt < (zRd f_all i_z0 c_).toInt; omega, by omega⟩, zBit_n (by assumption)⟩, ((zSx (hS5 c_.toNatClampNeg (by have q9 := z_clI (x := c_) (by omega); omega)) ⟨hk0, hk3⟩).1 (zBit_n (by assumption))).1]⟩), (zS15_u hS5 (by rw [((zSx (hS5 c_.toNatClampNeg (by have q9 := z_clI (x := c_) (by omega); omega)) ⟨hk0, hk3⟩).1 (zBit_n (by assumption))).1]; exact ((zSx (hS5 c_.toNatClampNeg (by have q9 := z_clI (x := c_) (by omega); omega)) ⟨hk0, hk3⟩).1 (zBit_n (by assumption))).2))⟩
    · have c_7n : (((f_shut c_.toNatClampNeg) >>> (k_ &&& 31)) &&& 1).toInt = (1 : Int) := (fa_eq _ _).mp c_7
      refine lv_iconst (v := 1) hx hb dX12_shuts_23 (by decide) ?_
      refine lv_goto (tgt := 28) hx hb dX12_shuts_24 (by decide) ?_
      refine lv_iload_n hx hb dX12_shuts_28 rfl (lv_at hl 3 rfl) ?_
      refine lv_icmp_ne (tgt := 34) hx hb dX12_shuts_29 (by decide) (fun q => absurd (by decide) q) (fun _ => ?_)
      refine lv_iconst (v := 0) hx hb dX12_shuts_32 (by decide) ?_
      have G := G.sub (bs' := [[(mo, .inr (11, [.ref m_all, .ref m_has, .int i_size, .int i_next, .int i_where, .int i_token, .int i_number, .int i_word, .int i_wrong, .int i_farCrossing, .ref m_read, .int i_z0, .int i_crossings, .int i_inns, .ref m_posts, .ref m_shut, .ref m_here, .int i_steps, .int i_done, .int i_at, .int i_gone, .ref m_was, .ref m_came, .ref m_seenAt, .ref m_rowWorth, .ref m_farBy, .ref m_used, .int i_everywhere, .int i_again0, .int i_d0, .int i_never, .int i_firstCame, .int i_longRun, .int i_moved, .int i_crowd, .int i_l0, .int i_fitMany, .int i_fitLeast, .int i_fitMost, .ref m_fitPost, .ref m_fitEnd, .ref m_keptPosts, .int i_x0]))], [(m_all, .inl (T.2 0, 3952, .inl f_all))], [(m_shut, .inl (T.2 0, 7, .inl f_shut))]]) [1, 2, 0] rfl
      exact z_zret C hr hlocks G (Nat.le_of_ble_eq_true rfl) (Nat.le_of_ble_eq_true rfl) dX12_shuts_33 rfl ⟨f_shut, rfl, (fun P H st nv => Or.inr ⟨rfl, by unfold zShF; rw [if_neg (fun q8 => by obtain ⟨⟨a1, a2, a3⟩, ⟨b1, b2, b3⟩, b4⟩ := q8; first | (have b2 : k_.toInt < (zRd f_all i_z0 c_).toInt := b2; omega) | exact absurd b4 (zBit_o (by assumption)))], rfl⟩), hS5⟩
set_option maxHeartbeats 4000000 in
set_option maxRecDepth 100000 in
/-- c_fm_shuts0 -/
theorem c_fm_shuts0 (l : Launch) (T : zTy) (mo : Nat) (m_all : Nat) (m_has : Nat) (i_size : Int32) (i_next : Int32) (i_where : Int32) (i_token : Int32) (i_number : Int32) (i_word : Int32) (i_wrong : Int32) (i_farCrossing : Int32) (m_read : Nat) (i_z0 : Int32) (i_crossings : Int32) (i_inns : Int32) (m_posts : Nat) (m_shut : Nat) (m_here : Nat) (i_steps : Int32) (i_done : Int32) (i_at : Int32) (i_gone : Int32) (m_was : Nat) (m_came : Nat) (m_seenAt : Nat) (m_rowWorth : Nat) (m_farBy : Nat) (m_used : Nat) (i_everywhere : Int32) (i_again0 : Int32) (i_d0 : Int32) (i_never : Int32) (i_firstCame : Int32) (i_longRun : Int32) (i_moved : Int32) (i_crowd : Int32) (i_l0 : Int32) (i_fitMany : Int32) (i_fitLeast : Int32) (i_fitMost : Int32) (m_fitPost : Nat) (m_fitEnd : Nat) (m_keptPosts : Nat) (i_x0 : Int32) (f_all : Nat → Int32) (f_shut : Nat → Int32) (c_ : Int32) (k_ : Int32) (hL : zML f_all i_z0 i_crossings) (hc0 : 0 ≤ c_.toInt) (hc6 : c_.toInt ≤ 6) (hcx : c_.toInt < i_crossings.toInt) (hk0 : 0 ≤ k_.toInt) (hk3 : k_.toInt ≤ 3) (hS5 : zS15 f_shut) : zMi l T yX12_shuts cX12_shuts 4 (some .boolean) 2 0 0 [.ref mo, .int c_, .int k_, .int 0] [[(mo, .inr (11, [.ref m_all, .ref m_has, .int i_size, .int i_next, .int i_where, .int i_token, .int i_number, .int i_word, .int i_wrong, .int i_farCrossing, .ref m_read, .int i_z0, .int i_crossings, .int i_inns, .ref m_posts, .ref m_shut, .ref m_here, .int i_steps, .int i_done, .int i_at, .int i_gone, .ref m_was, .ref m_came, .ref m_seenAt, .ref m_rowWorth, .ref m_farBy, .ref m_used, .int i_everywhere, .int i_again0, .int i_d0, .int i_never, .int i_firstCame, .int i_longRun, .int i_moved, .int i_crowd, .int i_l0, .int i_fitMany, .int i_fitLeast, .int i_fitMost, .ref m_fitPost, .ref m_fitEnd, .ref m_keptPosts, .int i_x0]))], [(m_all, .inl (T.2 0, 3952, .inl f_all))], [(m_shut, .inl (T.2 0, 7, .inl f_shut))]] (fun (r : Int32) bs => ∃ (g_shut : Nat → Int32), bs = [[(mo, .inr (11, [.ref m_all, .ref m_has, .int i_size, .int i_next, .int i_where, .int i_token, .int i_number, .int i_word, .int i_wrong, .int i_farCrossing, .ref m_read, .int i_z0, .int i_crossings, .int i_inns, .ref m_posts, .ref m_shut, .ref m_here, .int i_steps, .int i_done, .int i_at, .int i_gone, .ref m_was, .ref m_came, .ref m_seenAt, .ref m_rowWorth, .ref m_farBy, .ref m_used, .int i_everywhere, .int i_again0, .int i_d0, .int i_never, .int i_firstCame, .int i_longRun, .int i_moved, .int i_crowd, .int i_l0, .int i_fitMany, .int i_fitLeast, .int i_fitMost, .ref m_fitPost, .ref m_fitEnd, .ref m_keptPosts, .int i_x0]))], [(m_all, .inl (T.2 0, 3952, .inl f_all))], [(m_shut, .inl (T.2 0, 7, .inl g_shut))]] ∧ (∀ (P H : Nat → Int32) (st nv : Int32), r = 1 ∧ zOpF i_crossings (zRo f_all i_z0) c_ k_ (P, f_shut, H, st, nv) = some (P, g_shut, H, st, nv) ∨ r = 0 ∧ zOpF i_crossings (zRo f_all i_z0) c_ k_ (P, f_shut, H, st, nv) = none ∧ g_shut = f_shut) ∧ zS15 g_shut) := by
  refine zMi_of (own := RX12) (by decide) rfl (Nat.le_of_ble_eq_true rfl) ?_
  intro p e s m args below meth c A ls C hr hlocks hnm hAe G hl
  have hx := C.1
  have hb := C.2.1
  have hl : lv_has ls 4 [(0, .ref mo), (1, .int c_), (2, .int k_), (3, .int 0)] := hl
  have hz := hL.1
  have hcr := hL.cr
  refine lv_iload_n hx hb dX12_shuts_0 rfl (lv_at hl 2 rfl) ?_
  refine lv_aload_n hx hb dX12_shuts_1 rfl (lv_at hl 0 rfl) ?_
  refine lv_iload_n hx hb dX12_shuts_2 rfl (lv_at hl 1 rfl) ?_
  refine z_Vi (bc := [[(mo, .inr (11, [.ref m_all, .ref m_has, .int i_size, .int i_next, .int i_where, .int i_token, .int i_number, .int i_word, .int i_wrong, .int i_farCrossing, .ref m_read, .int i_z0, .int i_crossings, .int i_inns, .ref m_posts, .ref m_shut, .ref m_here, .int i_steps, .int i_done, .int i_at, .int i_gone, .ref m_was, .ref m_came, .ref m_seenAt, .ref m_rowWorth, .ref m_farBy, .ref m_used, .int i_everywhere, .int i_again0, .int i_d0, .int i_never, .int i_firstCame, .int i_longRun, .int i_moved, .int i_crowd, .int i_l0, .int i_fitMany, .int i_fitLeast, .int i_fitMost, .ref m_fitPost, .ref m_fitEnd, .ref m_keptPosts, .int i_x0]))], [(m_all, .inl (T.2 0, 3952, .inl f_all))]]) (br := [[(m_shut, .inl (T.2 0, 7, .inl f_shut))]]) (As := [.int c_]) (rest := [.int k_]) C G (c_m_roadsOf l T mo m_all m_has i_size i_next i_where i_token i_number i_word i_wrong i_farCrossing m_read i_z0 i_crossings i_inns m_posts m_shut m_here i_steps i_done i_at i_gone m_was m_came m_seenAt m_rowWorth m_farBy m_used i_everywhere i_again0 i_d0 i_never i_firstCame i_longRun i_moved i_crowd i_l0 i_fitMany i_fitLeast i_fitMost m_fitPost m_fitEnd m_keptPosts i_x0 f_all c_ (by first | assumption | omega | rfl) (by first | assumption | omega | rfl) (by first | assumption | omega | rfl)) (kV_RX12_181 C.2.2.2.2 (Nat.le_of_ble_eq_true rfl) (Nat.le_of_ble_eq_true rfl)) [0, 1] [2] rfl rfl (ci := 11) (qc := (RX12, TX12, 43)) rfl rfl (List.mem_flatten.mpr ⟨_, List.mem_of_getElem? (i := 0) rfl, List.mem_cons_self⟩) rfl rfl hl.1 dX12_shuts_3 (Nat.le_of_ble_eq_true rfl) (Nat.le_of_ble_eq_true rfl) (fun r_4 b1 H locs hw G => ?_)
  obtain ⟨rfl, h_1, h_2, h_3⟩ := hw
  have G : zS T A s.heap s [[(m_shut, .inl (T.2 0, 7, .inl f_shut))], [(mo, .inr (11, [.ref m_all, .ref m_has, .int i_size, .int i_next, .int i_where, .int i_token, .int i_number, .int i_word, .int i_wrong, .int i_farCrossing, .ref m_read, .int i_z0, .int i_crossings, .int i_inns, .ref m_posts, .ref m_shut, .ref m_here, .int i_steps, .int i_done, .int i_at, .int i_gone, .ref m_was, .ref m_came, .ref m_seenAt, .ref m_rowWorth, .ref m_farBy, .ref m_used, .int i_everywhere, .int i_again0, .int i_d0, .int i_never, .int i_firstCame, .int i_longRun, .int i_moved, .int i_crowd, .int i_l0, .int i_fitMany, .int i_fitLeast, .int i_fitMost, .ref m_fitPost, .ref m_fitEnd, .ref m_keptPosts, .int i_x0]))], [(m_all, .inl (T.2 0, 3952, .inl f_all))]] _ _ := G
  subst h_1
  refine lv_icmp_ge (tgt := 32) hx hb dX12_shuts_6 (by decide) (fun c_5 => ?_) (fun c_5 => ?_)
  · have c_5n : (zRd f_all i_z0 c_).toInt ≤ k_.toInt := (fa_le _ _).mp c_5
    refine lv_iconst (v := 0) hx hb dX12_shuts_32 (by decide) ?_
    have G := G.sub (bs' := [[(mo, .inr (11, [.ref m_all, .ref m_has, .int i_size, .int i_next, .int i_where, .int i_token, .int i_number, .int i_word, .int i_wrong, .int i_farCrossing, .ref m_read, .int i_z0, .int i_crossings, .int i_inns, .ref m_posts, .ref m_shut, .ref m_here, .int i_steps, .int i_done, .int i_at, .int i_gone, .ref m_was, .ref m_came, .ref m_seenAt, .ref m_rowWorth, .ref m_farBy, .ref m_used, .int i_everywhere, .int i_again0, .int i_d0, .int i_never, .int i_firstCame, .int i_longRun, .int i_moved, .int i_crowd, .int i_l0, .int i_fitMany, .int i_fitLeast, .int i_fitMost, .ref m_fitPost, .ref m_fitEnd, .ref m_keptPosts, .int i_x0]))], [(m_all, .inl (T.2 0, 3952, .inl f_all))], [(m_shut, .inl (T.2 0, 7, .inl f_shut))]]) [1, 2, 0] rfl
    exact z_zret C hr hlocks G (Nat.le_of_ble_eq_true rfl) (Nat.le_of_ble_eq_true rfl) dX12_shuts_33 rfl ⟨f_shut, rfl, (fun P H st nv => Or.inr ⟨rfl, by unfold zOpF; rw [if_neg (fun q8 => by obtain ⟨⟨a1, a2, a3⟩, ⟨b1, b2, b3⟩, b4⟩ := q8; first | (have b2 : k_.toInt < (zRd f_all i_z0 c_).toInt := b2; omega) | exact absurd b4 (fun q7 => q7 (zBit_n (by assumption))))], rfl⟩), hS5⟩
  · have c_5n : ¬ (zRd f_all i_z0 c_).toInt ≤ k_.toInt := fun q => c_5 ((fa_le _ _).mpr q)
    refine lv_aload_n hx hb dX12_shuts_9 rfl (lv_at hl 0 rfl) ?_
    refine z_get C G clX12 1 rfl 15 (by decide) m_fl_RX12_23 rfl dX12_shuts_10 ?_
    refine lv_iload_n hx hb dX12_shuts_13 rfl (lv_at hl 1 rfl) ?_
    refine z_ild C G 0 rfl (vp_in_iff.mpr ⟨by omega, by omega⟩) dX12_shuts_14 ?_
    refine lv_topi (fun v_6 ev_6 => ?_)
    subst ev_6
    refine lv_iload_n hx hb dX12_shuts_15 rfl (lv_at hl 2 rfl) ?_
    refine lv_ishr hx hb dX12_shuts_16 ?_
    refine lv_iconst (v := 1) hx hb dX12_shuts_17 (by decide) ?_
    refine lv_iand hx hb dX12_shuts_18 ?_
    refine lv_iconst (v := 1) hx hb dX12_shuts_19 (by decide) ?_
    refine lv_icmp_ne (tgt := 27) hx hb dX12_shuts_20 (by decide) (fun c_7 => ?_) (fun c_7 => ?_)
    · have c_7n : ¬ (((f_shut c_.toNatClampNeg) >>> (k_ &&& 31)) &&& 1).toInt = (1 : Int) := fun q => c_7 ((fa_eq _ _).mpr q)
      refine lv_iconst (v := 0) hx hb dX12_shuts_27 (by decide) ?_
      refine lv_iload_n hx hb dX12_shuts_28 rfl (lv_at hl 3 rfl) ?_
      refine lv_icmp_ne (tgt := 34) hx hb dX12_shuts_29 (by decide) (fun q => absurd (by decide) q) (fun _ => ?_)
      refine lv_iconst (v := 0) hx hb dX12_shuts_32 (by decide) ?_
      have G := G.sub (bs' := [[(mo, .inr (11, [.ref m_all, .ref m_has, .int i_size, .int i_next, .int i_where, .int i_token, .int i_number, .int i_word, .int i_wrong, .int i_farCrossing, .ref m_read, .int i_z0, .int i_crossings, .int i_inns, .ref m_posts, .ref m_shut, .ref m_here, .int i_steps, .int i_done, .int i_at, .int i_gone, .ref m_was, .ref m_came, .ref m_seenAt, .ref m_rowWorth, .ref m_farBy, .ref m_used, .int i_everywhere, .int i_again0, .int i_d0, .int i_never, .int i_firstCame, .int i_longRun, .int i_moved, .int i_crowd, .int i_l0, .int i_fitMany, .int i_fitLeast, .int i_fitMost, .ref m_fitPost, .ref m_fitEnd, .ref m_keptPosts, .int i_x0]))], [(m_all, .inl (T.2 0, 3952, .inl f_all))], [(m_shut, .inl (T.2 0, 7, .inl f_shut))]]) [1, 2, 0] rfl
      exact z_zret C hr hlocks G (Nat.le_of_ble_eq_true rfl) (Nat.le_of_ble_eq_true rfl) dX12_shuts_33 rfl ⟨f_shut, rfl, (fun P H st nv => Or.inr ⟨rfl, by unfold zOpF; rw [if_neg (fun q8 => by obtain ⟨⟨a1, a2, a3⟩, ⟨b1, b2, b3⟩, b4⟩ := q8; first | (have b2 : k_.toInt < (zRd f_all i_z0 c_).toInt := b2; omega) | exact absurd b4 (fun q7 => q7 (zBit_n (by assumption))))], rfl⟩), hS5⟩
    · have c_7n : (((f_shut c_.toNatClampNeg) >>> (k_ &&& 31)) &&& 1).toInt = (1 : Int) := (fa_eq _ _).mp c_7
      refine lv_iconst (v := 1) hx hb dX12_shuts_23 (by decide) ?_
      refine lv_goto (tgt := 28) hx hb dX12_shuts_24 (by decide) ?_
      refine lv_iload_n hx hb dX12_shuts_28 rfl (lv_at hl 3 rfl) ?_
      refine lv_icmp_ne (tgt := 34) hx hb dX12_shuts_29 (by decide) (fun _ => ?_) (fun q => absurd q (by decide))
      refine lv_aload_n hx hb dX12_shuts_34 rfl (lv_at hl 0 rfl) ?_
      refine z_get C G clX12 1 rfl 15 (by decide) m_fl_RX12_23 rfl dX12_shuts_35 ?_
      refine lv_iload_n hx hb dX12_shuts_38 rfl (lv_at hl 1 rfl) ?_
      refine lv_dup2_11 hx hb dX12_shuts_39 rfl rfl ?_
      refine z_ild C G 0 rfl (vp_in_iff.mpr ⟨by omega, by omega⟩) dX12_shuts_40 ?_
      refine lv_topi (fun v_8 ev_8 => ?_)
      subst ev_8
      refine lv_iconst (v := 1) hx hb dX12_shuts_41 (by decide) ?_
      refine lv_iload_n hx hb dX12_shuts_42 rfl (lv_at hl 2 rfl) ?_
      refine lv_ishl hx hb dX12_shuts_43 ?_
      refine lv_ixor hx hb dX12_shuts_44 ?_
      refine z_ist C G 0 rfl (vp_in_iff.mpr ⟨by omega, by omega⟩) dX12_shuts_45 (fun H locs G => ?_)
      have G : zS T A s.heap s [[(m_shut, .inl (T.2 0, 7, .inl (upd f_shut c_.toNatClampNeg ((f_shut c_.toNatClampNeg) ^^^ (1 <<< (k_ &&& 31))))))], [(mo, .inr (11, [.ref m_all, .ref m_has, .int i_size, .int i_next, .int i_where, .int i_token, .int i_number, .int i_word, .int i_wrong, .int i_farCrossing, .ref m_read, .int i_z0, .int i_crossings, .int i_inns, .ref m_posts, .ref m_shut, .ref m_here, .int i_steps, .int i_done, .int i_at, .int i_gone, .ref m_was, .ref m_came, .ref m_seenAt, .ref m_rowWorth, .ref m_farBy, .ref m_used, .int i_everywhere, .int i_again0, .int i_d0, .int i_never, .int i_firstCame, .int i_longRun, .int i_moved, .int i_crowd, .int i_l0, .int i_fitMany, .int i_fitLeast, .int i_fitMost, .ref m_fitPost, .ref m_fitEnd, .ref m_keptPosts, .int i_x0]))], [(m_all, .inl (T.2 0, 3952, .inl f_all))]] _ _ := G
      refine lv_iconst (v := 1) hx hb dX12_shuts_46 (by decide) ?_
      have G := G.sub (bs' := [[(mo, .inr (11, [.ref m_all, .ref m_has, .int i_size, .int i_next, .int i_where, .int i_token, .int i_number, .int i_word, .int i_wrong, .int i_farCrossing, .ref m_read, .int i_z0, .int i_crossings, .int i_inns, .ref m_posts, .ref m_shut, .ref m_here, .int i_steps, .int i_done, .int i_at, .int i_gone, .ref m_was, .ref m_came, .ref m_seenAt, .ref m_rowWorth, .ref m_farBy, .ref m_used, .int i_everywhere, .int i_again0, .int i_d0, .int i_never, .int i_firstCame, .int i_longRun, .int i_moved, .int i_crowd, .int i_l0, .int i_fitMany, .int i_fitLeast, .int i_fitMost, .ref m_fitPost, .ref m_fitEnd, .ref m_keptPosts, .int i_x0]))], [(m_all, .inl (T.2 0, 3952, .inl f_all))], [(m_shut, .inl (T.2 0, 7, .inl (upd f_shut c_.toNatClampNeg ((f_shut c_.toNatClampNeg) ^^^ (1 <<< (k_ &&& 31))))))]]) [1, 2, 0] rfl
      exact z_zret C hr hlocks G (Nat.le_of_ble_eq_true rfl) (Nat.le_of_ble_eq_true rfl) dX12_shuts_47 rfl ⟨(upd f_shut c_.toNatClampNeg ((f_shut c_.toNatClampNeg) ^^^ (1 <<< (k_ &&& 31)))), rfl, (fun P H st nv => Or.inl ⟨rfl, by unfold zOpF; rw [if_pos ⟨⟨by omega, by omega, by omega⟩, ⟨by omega, by show k_.toInt < (zRd f_all i_z0 c_).toInt; omega, by omega⟩, zBit_o (by assumption)⟩, ((zSx (hS5 c_.toNatClampNeg (by have q9 := z_clI (x := c_) (by omega); omega)) ⟨hk0, hk3⟩).2 (zBit_o (by assumption))).1]⟩), (zS15_u hS5 (by rw [((zSx (hS5 c_.toNatClampNeg (by have q9 := z_clI (x := c_) (by omega); omega)) ⟨hk0, hk3⟩).2 (zBit_o (by assumption))).1]; exact ((zSx (hS5 c_.toNatClampNeg (by have q9 := z_clI (x := c_) (by omega); omega)) ⟨hk0, hk3⟩).2 (zBit_o (by assumption))).2))⟩

theorem zDe_nh {cr inn d x y : Int32} {W Ro L : Nat → Int32} {D : zK} (h : ¬ zHas cr x) : zDe cr inn W Ro L d x y D = none := by
  unfold zDe
  by_cases h0 : d.toInt = 0
  · rw [if_pos h0]
    exact if_neg (fun q => h q.1.1)
  rw [if_neg h0]
  by_cases h1 : d.toInt = 1
  · rw [if_pos h1]
    exact if_neg (fun q => h q.1)
  rw [if_neg h1]
  by_cases h2 : d.toInt = 2
  · rw [if_pos h2]
    exact if_neg (fun q => h q.1)
  rw [if_neg h2]
  by_cases h3 : d.toInt = 3
  · rw [if_pos h3]
    exact if_neg (fun q => h q.1)
  rw [if_neg h3]
  by_cases h4 : d.toInt = 4
  · rw [if_pos h4]
    exact if_neg (fun q => h q.1)
  rw [if_neg h4]
  by_cases h5 : d.toInt = 5
  · rw [if_pos h5]
    exact if_neg (fun q => h q.1)
  rw [if_neg h5]
theorem zPost_inn {P S f : Nat → Int32} {z n x : Int32} (h : zBit n x = 1) (h0 : 0 ≤ x.toInt) (h6 : x.toInt ≤ 6) : P = zPost P S (zWo f z n) x := by
  unfold zPost
  rw [if_pos (zTurn_inn h h0 h6)]
/-- a day's deeds as they can be told -/
def zDyv (f : Nat → Int32) (d : Nat) : Prop := ∀ j : Nat, (j : Int) < (f d).toInt → (0 ≤ (f (d + (1 + 3 * j))).toInt ∧ (f (d + (1 + 3 * j))).toInt ≤ 5) ∧ (4 ≤ (f (d + (1 + 3 * j))).toInt → 0 ≤ (f (d + (3 + 3 * j))).toInt ∧ (f (d + (3 + 3 * j))).toInt ≤ 3)
def zKe (D E : zK) : Prop := (∀ j, j < 7 → D.1 j = E.1 j) ∧ (∀ j, j < 7 → D.2.1 j = E.2.1 j) ∧ (∀ j, j < 7 → D.2.2.1 j = E.2.2.1 j) ∧ D.2.2.2 = E.2.2.2
def zOe (W : Nat → Int32) (a b : Option zK) : Prop := (a = none ∧ b = none) ∨ ∃ D E : zK, a = some D ∧ b = some E ∧ zKe D E ∧ zP3 D.1 W
theorem zMvH_cg {H H' : Nat → Int32} (h : ∀ j, j < 7 → H j = H' j) (x y : Int32) : ∀ j, j < 7 → zMvH H x y j = zMvH H' x y j := by
  have g : ∀ j, j < 7 → upd H x.toNatClampNeg (H x.toNatClampNeg - 1) j = upd H' x.toNatClampNeg (H' x.toNatClampNeg - 1) j := by
    intro j hj
    by_cases e : j = x.toNatClampNeg
    · rw [z_eq e, z_eq e, ← e, h j hj]
    · rw [z_ne e, z_ne e, h j hj]
  intro j hj
  unfold zMvH
  by_cases e : j = y.toNatClampNeg
  · rw [z_eq e, z_eq e, ← e, g j hj]
  · rw [z_ne e, z_ne e, g j hj]
theorem zUp_cg {H H' : Nat → Int32} {k : Nat} {v v' : Int32} (h : ∀ j, j < 7 → H j = H' j) (hv : v = v') : ∀ j, j < 7 → upd H k v j = upd H' k v' j := by
  intro j hj
  by_cases e : j = k
  · rw [z_eq e, z_eq e, hv]
  · rw [z_ne e, z_ne e, h j hj]
theorem zKe_i {P P' S S' H H' : Nat → Int32} {a a' b b' : Int32} (p : ∀ j, j < 7 → P j = P' j) (s : ∀ j, j < 7 → S j = S' j) (w : ∀ j, j < 7 → H j = H' j) (e1 : a = a') (e2 : b = b') : zKe (P, S, H, a, b) (P', S', H', a', b') := by
  subst e1
  subst e2
  exact ⟨p, s, w, rfl⟩
theorem zOe_i {W : Nat → Int32} {D E : zK} (h : zKe D E) (h2 : zP3 D.1 W) : zOe W (some D) (some E) := Or.inr ⟨D, E, rfl, rfl, h, h2⟩
section ZCG
variable {cr inn x y : Int32} {W W' L L' Ro Ro' : Nat → Int32} {D E : zK}
theorem zGoF_cg (h3 : ∀ j, j < 7 → W j = W' j) (hl : zLs W L L') (hI : zP3 D.1 W) (h : zKe D E) : zOe W (zGoF cr W L x D) (zGoF cr W' L' x E) := by
  obtain ⟨p, s, w, e⟩ := h
  have eS := zStep_cg hI p s h3 hl x
  unfold zGoF
  by_cases q : (zHas cr x ∧ 1 ≤ (D.2.2.1 x.toNatClampNeg).toInt) ∧ ¬ zStep D.1 D.2.1 W L x = -1
  · have ex := z_clI q.1.1.1
    have eH := w x.toNatClampNeg (by have := q.1.1.2.2; omega)
    rw [if_pos q, if_pos ⟨⟨q.1.1, by rw [← eH]; exact q.1.2⟩, by rw [← eS]; exact q.2⟩]
    exact zOe_i (zKe_i (zPost_cg p s h3 x) s (by rw [← eS]; exact zMvH_cg w x _) (congrArg (fun q => q.1 + 1) e) (congrArg (fun q => q.2) e)) (zPost_I hI x)
  · refine Or.inl ⟨if_neg q, if_neg (fun z => q ?_)⟩
    have ex := z_clI z.1.1.1
    have eH := w x.toNatClampNeg (by have := z.1.1.2.2; omega)
    exact ⟨⟨z.1.1, by rw [eH]; exact z.1.2⟩, by rw [eS]; exact z.2⟩
theorem zRuF_cg (h3 : ∀ j, j < 7 → W j = W' j) (hl : zLs W L L') (hI : zP3 D.1 W) (h : zKe D E) : zOe W (zRuF cr inn W L x D) (zRuF cr inn W' L' x E) := by
  obtain ⟨p, s, w, e⟩ := h
  have eR := zRunN_cg s h3 hl 499 D.1 E.1 x 0 hI p
  by_cases q : zHas cr x ∧ 1 ≤ (D.2.2.1 x.toNatClampNeg).toInt
  · have ex := z_clI q.1.1
    have eH := w x.toNatClampNeg (by have := q.1.2.2; omega)
    have a1 : zRuF cr inn W L x D = some ((zRunN D.2.1 W L 499 D.1 x 0).1, D.2.1, zMvH D.2.2.1 x (zRunN D.2.1 W L 499 D.1 x 0).2.1, D.2.2.2.1 + nI (zRunN D.2.1 W L 499 D.1 x 0).2.2, if zBit inn (zRunN D.2.1 W L 499 D.1 x 0).2.1 = 1 then D.2.2.2.2 else D.2.2.2.2 + 1) := if_pos q
    have a2 : zRuF cr inn W' L' x E = some ((zRunN E.2.1 W' L' 499 E.1 x 0).1, E.2.1, zMvH E.2.2.1 x (zRunN E.2.1 W' L' 499 E.1 x 0).2.1, E.2.2.2.1 + nI (zRunN E.2.1 W' L' 499 E.1 x 0).2.2, if zBit inn (zRunN E.2.1 W' L' 499 E.1 x 0).2.1 = 1 then E.2.2.2.2 else E.2.2.2.2 + 1) := if_pos ⟨q.1, by rw [← eH]; exact q.2⟩
    rw [a1, a2, ← eR.2]
    exact zOe_i (zKe_i eR.1 s (zMvH_cg w x _) (congrArg (fun q => q.1 + nI (zRunN D.2.1 W L 499 D.1 x 0).2.2) e) (congrArg (fun q => if zBit inn (zRunN D.2.1 W L 499 D.1 x 0).2.1 = 1 then q.2 else q.2 + 1) e)) (zRunN_I _ _ _ _ hI)
  · refine Or.inl ⟨if_neg q, if_neg (fun z => q ?_)⟩
    have ex := z_clI z.1.1
    have eH := w x.toNatClampNeg (by have := z.1.2.2; omega)
    exact ⟨z.1, by rw [eH]; exact z.2⟩
theorem zTuF_cg (h3 : ∀ j, j < 7 → W j = W' j) (hI : zP3 D.1 W) (h : zKe D E) : zOe W (zTuF cr W x D) (zTuF cr W' x E) := by
  obtain ⟨p, s, w, e⟩ := h
  have eT := zTurn_cg p s h3 x
  unfold zTuF
  by_cases q : zHas cr x ∧ ¬ zTurn D.1 D.2.1 W x = -1
  · rw [if_pos q, if_pos ⟨q.1, by rw [← eT]; exact q.2⟩]
    exact Or.inr ⟨_, _, rfl, rfl, ⟨zPost_cg p s h3 x, s, w, e⟩, zPost_I hI x⟩
  · refine Or.inl ⟨if_neg q, if_neg (fun z => q ⟨z.1, by rw [eT]; exact z.2⟩)⟩
theorem zAdF_cg (hI : zP3 D.1 W) (h : zKe D E) : zOe W (zAdF cr x D) (zAdF cr x E) := by
  obtain ⟨p, s, w, e⟩ := h
  unfold zAdF
  by_cases q : zHas cr x ∧ (D.2.2.1 x.toNatClampNeg).toInt < 99
  · have ex := z_clI q.1.1
    have eH := w x.toNatClampNeg (by have := q.1.2.2; omega)
    rw [if_pos q, if_pos ⟨q.1, by rw [← eH]; exact q.2⟩]
    exact Or.inr ⟨_, _, rfl, rfl, ⟨p, s, zUp_cg w (by rw [eH]), e⟩, hI⟩
  · refine Or.inl ⟨if_neg q, if_neg (fun z => q ?_)⟩
    have ex := z_clI z.1.1
    have eH := w x.toNatClampNeg (by have := z.1.2.2; omega)
    exact ⟨z.1, by rw [eH]; exact z.2⟩
theorem zShF_cg (hr : ∀ j, j < 7 → Ro j = Ro' j) (hI : zP3 D.1 W) (h : zKe D E) : zOe W (zShF cr Ro x y D) (zShF cr Ro' x y E) := by
  obtain ⟨p, s, w, e⟩ := h
  unfold zShF
  by_cases q : zHas cr x ∧ (0 ≤ y.toInt ∧ y.toInt < (Ro x.toNatClampNeg).toInt ∧ y.toInt < 4) ∧ zBit (D.2.1 x.toNatClampNeg) y = 0
  · have ex := z_clI q.1.1
    have eS := s x.toNatClampNeg (by have := q.1.2.2; omega)
    have eR := hr x.toNatClampNeg (by have := q.1.2.2; omega)
    rw [if_pos q, if_pos ⟨q.1, by rw [← eR]; exact q.2.1, by rw [← eS]; exact q.2.2⟩]
    exact Or.inr ⟨_, _, rfl, rfl, ⟨p, zUp_cg s (by rw [eS]), w, e⟩, hI⟩
  · refine Or.inl ⟨if_neg q, if_neg (fun z => q ?_)⟩
    have ex := z_clI z.1.1
    have eS := s x.toNatClampNeg (by have := z.1.2.2; omega)
    have eR := hr x.toNatClampNeg (by have := z.1.2.2; omega)
    exact ⟨z.1, by rw [eR]; exact z.2.1, by rw [eS]; exact z.2.2⟩
theorem zOpF_cg (hr : ∀ j, j < 7 → Ro j = Ro' j) (hI : zP3 D.1 W) (h : zKe D E) : zOe W (zOpF cr Ro x y D) (zOpF cr Ro' x y E) := by
  obtain ⟨p, s, w, e⟩ := h
  unfold zOpF
  by_cases q : zHas cr x ∧ (0 ≤ y.toInt ∧ y.toInt < (Ro x.toNatClampNeg).toInt ∧ y.toInt < 4) ∧ ¬ zBit (D.2.1 x.toNatClampNeg) y = 0
  · have ex := z_clI q.1.1
    have eS := s x.toNatClampNeg (by have := q.1.2.2; omega)
    have eR := hr x.toNatClampNeg (by have := q.1.2.2; omega)
    rw [if_pos q, if_pos ⟨q.1, by rw [← eR]; exact q.2.1, by rw [← eS]; exact q.2.2⟩]
    exact Or.inr ⟨_, _, rfl, rfl, ⟨p, zUp_cg s (by rw [eS]), w, e⟩, hI⟩
  · refine Or.inl ⟨if_neg q, if_neg (fun z => q ?_)⟩
    have ex := z_clI z.1.1
    have eS := s x.toNatClampNeg (by have := z.1.2.2; omega)
    have eR := hr x.toNatClampNeg (by have := z.1.2.2; omega)
    exact ⟨z.1, by rw [eR]; exact z.2.1, by rw [eS]; exact z.2.2⟩
theorem zDe_cg (h3 : ∀ j, j < 7 → W j = W' j) (hr : ∀ j, j < 7 → Ro j = Ro' j) (hl : zLs W L L') (d : Int32) (hI : zP3 D.1 W) (h : zKe D E) : zOe W (zDe cr inn W Ro L d x y D) (zDe cr inn W' Ro' L' d x y E) := by
  by_cases d0 : d.toInt = 0
  · rw [zDe_k0 d0, zDe_k0 d0]; exact zGoF_cg h3 hl hI h
  by_cases d1 : d.toInt = 1
  · rw [zDe_k1 d1, zDe_k1 d1]; exact zRuF_cg h3 hl hI h
  by_cases d2 : d.toInt = 2
  · rw [zDe_k2 d2, zDe_k2 d2]; exact zTuF_cg h3 hI h
  by_cases d3 : d.toInt = 3
  · rw [zDe_k3 d3, zDe_k3 d3]; exact zAdF_cg hI h
  by_cases d4 : d.toInt = 4
  · rw [zDe_k4 d4, zDe_k4 d4]; exact zShF_cg hr hI h
  by_cases d5 : d.toInt = 5
  · rw [zDe_k5 d5, zDe_k5 d5]; exact zOpF_cg hr hI h
  rw [zDe_kn (by omega), zDe_kn (by omega)]
  exact Or.inl ⟨rfl, rfl⟩
end ZCG
theorem zDayN_cg {W : Nat → Int32} {F F' : Nat → zK → Option zK} : ∀ (n k : Nat) (D E : zK), zP3 D.1 W → zKe D E → (∀ j, k ≤ j → j < k + n → ∀ D E, zP3 D.1 W → zKe D E → zOe W (F j D) (F' j E)) → (zDayN F n k D).1 = (zDayN F' n k E).1 ∧ zKe (zDayN F n k D).2 (zDayN F' n k E).2
  | 0, k, D, E, _, h, _ => ⟨rfl, h⟩
  | n + 1, k, D, E, hI, h, hF => by
    rcases hF k (Nat.le_refl k) (by omega) D E hI h with ⟨a, b⟩ | ⟨D2, E2, a, b, h2, hI2⟩
    · rw [zDayN_n a, zDayN_n b]
      exact ⟨rfl, h⟩
    · rw [zDayN_s a, zDayN_s b]
      exact zDayN_cg n (k + 1) D2 E2 hI2 h2 (fun j h1 h3 => hF j (by omega) (by omega))
theorem zVD_0 {f : Nat → Int32} (h : zVD f) (q : Nat) (hq : q < 2) : zDyv f (712 + 121 * q) := by
  have t := (h 0 q (by decide) hq).1
  intro j hj
  have a := t j
  have e0 : f (988 * 0 + (712 + 121 * q + 0)) = f (712 + 121 * q) := congrArg f (by omega)
  have e1 : f (988 * 0 + (712 + 121 * q + (1 + 3 * j))) = f (712 + 121 * q + (1 + 3 * j)) := congrArg f (by omega)
  have e3 : f (988 * 0 + (712 + 121 * q + (3 + 3 * j))) = f (712 + 121 * q + (3 + 3 * j)) := congrArg f (by omega)
  have a : (j : Int) < (f (988 * 0 + (712 + 121 * q + 0))).toInt → (0 ≤ (f (988 * 0 + (712 + 121 * q + (1 + 3 * j)))).toInt ∧ (f (988 * 0 + (712 + 121 * q + (1 + 3 * j)))).toInt ≤ 5) ∧ (4 ≤ (f (988 * 0 + (712 + 121 * q + (1 + 3 * j)))).toInt → 0 ≤ (f (988 * 0 + (712 + 121 * q + (3 + 3 * j)))).toInt ∧ (f (988 * 0 + (712 + 121 * q + (3 + 3 * j)))).toInt ≤ 3) := a
  rw [e0, e1, e3] at a
  exact a hj
theorem zWk_b {f H : Nat → Int32} {z cr : Int32} (h : zML f z cr) (e : ∀ j, j < 7 → H j = zWk f z j) : zHB 9 H := fun j hj => by
  rw [e j hj]
  exact (h.2.2.2.1 j hj).2.2
theorem zS0_b {S : Nat → Int32} (e : ∀ j, j < 7 → S j = 0) : zS15 S := fun j hj => by
  rw [e j hj]
  decide

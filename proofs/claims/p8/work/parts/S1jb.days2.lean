section ZDE
variable {cr inn d x y : Int32} {W Ro L : Nat → Int32} {D : zK}
theorem zDe_k0 (h : d.toInt = 0) : zDe cr inn W Ro L d x y D = zGoF cr W L x D := if_pos h
theorem zDe_k1 (h : d.toInt = 1) : zDe cr inn W Ro L d x y D = zRuF cr inn W L x D := by
  unfold zDe
  rw [if_neg (by omega), if_pos h]
theorem zDe_k2 (h : d.toInt = 2) : zDe cr inn W Ro L d x y D = zTuF cr W x D := by
  unfold zDe
  rw [if_neg (by omega), if_neg (by omega), if_pos h]
theorem zDe_k3 (h : d.toInt = 3) : zDe cr inn W Ro L d x y D = zAdF cr x D := by
  unfold zDe
  rw [if_neg (by omega), if_neg (by omega), if_neg (by omega), if_pos h]
theorem zDe_k4 (h : d.toInt = 4) : zDe cr inn W Ro L d x y D = zShF cr Ro x y D := by
  unfold zDe
  rw [if_neg (by omega), if_neg (by omega), if_neg (by omega), if_neg (by omega), if_pos h]
theorem zDe_k5 (h : d.toInt = 5) : zDe cr inn W Ro L d x y D = zOpF cr Ro x y D := by
  unfold zDe
  rw [if_neg (by omega), if_neg (by omega), if_neg (by omega), if_neg (by omega), if_neg (by omega), if_pos h]
theorem zDe_kn (h : d.toInt < 0 ∨ 5 < d.toInt) : zDe cr inn W Ro L d x y D = none := by
  unfold zDe
  rw [if_neg (by omega), if_neg (by omega), if_neg (by omega), if_neg (by omega), if_neg (by omega), if_neg (by omega)]
end ZDE
theorem zTurn_has {cr inn x : Int32} {f1 f2 f3 k1 : Nat → Int32} (hI : zP3 f1 f3) (hW : ∀ j, j < 7 → f3 j = zWays cr inn k1 (nI j)) (h : ¬ zTurn f1 f2 f3 x = -1) : zHas cr x := by
  have g := (zTurn_lt (f2 := f2) hI x).resolve_left h
  have e := z_clI g.1
  have t := nI_toInt (n := x.toNatClampNeg) (by omega)
  have w := hW x.toNatClampNeg (by omega)
  have q := zWays_in (cr := cr) (inn := inn) (f1 := k1) (x := nI x.toNatClampNeg) (fun q => by
    rw [w, q] at g
    have z0 : (0 : Int32).toInt = 0 := rfl
    omega)
  exact ⟨g.1, by omega, g.2.1⟩
theorem zTuF_i {cr x : Int32} {W P S H g1 : Nat → Int32} {st nv : Int32} (h : zHas cr x ∧ ¬ zTurn P S W x = -1) (e : g1 = zPost P S W x) : zTuF cr W x (P, S, H, st, nv) = some (g1, S, H, st, nv) := by
  unfold zTuF
  rw [if_pos h, e]
theorem zTuF_n {cr x : Int32} {W P S H g1 : Nat → Int32} {st nv : Int32} (h : zTurn P S W x = -1) (e : g1 = zPost P S W x) : zTuF cr W x (P, S, H, st, nv) = none ∧ g1 = P := by
  unfold zTuF
  refine ⟨if_neg (fun q => q.2 h), ?_⟩
  rw [e]
  unfold zPost
  rw [if_pos h]
/-- deeds one behind the other, from the k-th, n of them at most: which can't be done, and what is then -/
def zDayN (F : Nat → zK → Option zK) : Nat → Nat → zK → Nat × zK
  | 0, k, D => (k, D)
  | n + 1, k, D => match F k D with
    | none => (k, D)
    | some E => zDayN F n (k + 1) E
theorem zInc1 (i : Nat) : nI i + 1 = nI (i + 1) := z_inc i 1
theorem zDayN_z {F : Nat → zK → Option zK} {n k : Nat} {D : zK} (h : n = 0) : zDayN F n k D = (k, D) := by
  subst h
  rfl
theorem zDayN_s {F : Nat → zK → Option zK} {n k : Nat} {D E : zK} (h : F k D = some E) : zDayN F (n + 1) k D = zDayN F n (k + 1) E := by
  rw [zDayN, h]
theorem zDayN_n {F : Nat → zK → Option zK} {n k : Nat} {D : zK} (h : F k D = none) : zDayN F n k D = (k, D) := by
  cases n with
  | zero => rfl
  | succ n => rw [zDayN, h]
set_option maxHeartbeats 4000000 in
set_option maxRecDepth 100000 in
/-- c_f_does -/
theorem c_f_does (l : Launch) (T : zTy) (h : Nat) (po : Nat) (la : Nat) (fw : Nat → Int32) (v0 : Int32) (v1 : Int32) (v2 : Int32) (v3 : Int32) (v4 : Int32) (v5 : Int32) (v6 : Int32) (v7 : Int32) (wc : va_W) (f1 : Nat → Int32) (f2 : Nat → Int32) (f3 : Nat → Int32) (st : Int32) (wh : Int32) (wp : va_W) (cr : Int32) (inn : Int32) (k1 : Nat → Int32) (k2 : Nat → Int32) (k3 : Nat → Int32) (k4 : Nat → Int32) (z : va_W) (d : Int32) (x : Int32) (y : Int32) (hc : bCourse T h po la fw v0 v1 v2 v3 v4 v5 v6 v7 wc) (hp : bPosts T po la f1 f2 f3 st wh wp) (hz : bLand T la cr inn k1 k2 k3 k4 z) (hP : zP3 f1 f3) (hI : zLI cr k1 k3) (hW : ∀ j, j < 7 → f3 j = zWays cr inn k1 (nI j)) (hLq : zLq cr k1 k2) : zMi l T yX1_does cX1_does 5 (some .boolean) 6 0 0 [.ref h, .int d, .int x, .int y] [wc, wp, z] (fun (r : Int32) bs => ∃ (wc2 : va_W) (gw : Nat → Int32) (u0 : Int32) (u1 : Int32) (u2 : Int32) (u3 : Int32) (u4 : Int32) (u5 : Int32) (u6 : Int32) (u7 : Int32) (wp2 : va_W) (g1 : Nat → Int32) (g2 : Nat → Int32) (sa : Int32) (wa : Int32), bs = [wc2, wp2, z] ∧ bCourse T h po la gw u0 u1 u2 u3 u4 u5 u6 u7 wc2 ∧ bPosts T po la g1 g2 f3 sa wa wp2 ∧ zP3 g1 f3 ∧ (r = 1 ∧ zDe cr inn f3 k1 k2 d x y (f1, f2, fw, v0, v1) = some (g1, g2, gw, u0, u1) ∧ u2 = v2 + 1 ∨ r = 0 ∧ zDe cr inn f3 k1 k2 d x y (f1, f2, fw, v0, v1) = none ∧ g1 = f1 ∧ g2 = f2 ∧ gw = fw ∧ u0 = v0 ∧ u1 = v1 ∧ u2 = v2) ∧ u7 = v7) := by
  refine zMi_of (own := RX1) (by decide) rfl (Nat.le_of_ble_eq_true rfl) ?_
  intro p e s m args below meth c A ls C hr hlocks hnm hAe G hl
  have hx := C.1
  have hb := C.2.1
  have hl : lv_has ls 5 [(0, .ref h), (1, .int d), (2, .int x), (3, .int y)] := hl
  refine lv_iload_n hx hb dX1_does_0 rfl (lv_at hl 1 rfl) ?_
  by_cases c_1o : d.toInt < 0 ∨ 5 < d.toInt
  · refine lv_tableOut (tgt := 114) hx hb dX1_does_1 c_1o (by decide) ?_
    refine lv_iconst (v := 0) hx hb dX1_does_114 (by decide) ?_
    refine lv_istore (lv' := [(4, .int 0), (0, .ref h), (1, .int d), (2, .int x), (3, .int y)]) hx hb dX1_does_115 hl (by decide) rfl (fun ls hl => ?_)
    refine lv_iload hx hb dX1_does_117 (lv_at hl 0 rfl) ?_
    refine lv_if_eq (tgt := 136) hx hb dX1_does_119 (by decide) (fun _ => ?_) (fun q => absurd (by decide) q)
    refine lv_iload hx hb dX1_does_136 (lv_at hl 0 rfl) ?_
    exact z_zret C hr hlocks G (Nat.le_of_ble_eq_true rfl) (Nat.le_of_ble_eq_true rfl) dX1_does_138 rfl ⟨wc, fw, v0, v1, v2, v3, v4, v5, v6, v7, wp, f1, f2, st, wh, rfl, hc, hp, hP, (Or.inr ⟨rfl, zDe_kn (by omega), rfl, rfl, rfl, rfl, rfl, rfl⟩), rfl⟩
  · have c_1r : d.toInt = 0 ∨ d.toInt = 1 ∨ d.toInt = 2 ∨ d.toInt = 3 ∨ d.toInt = 4 ∨ d.toInt = 5 := by omega
    rcases c_1r with c_1 | c_1 | c_1 | c_1 | c_1 | c_1
    · refine lv_tableIn (tgt := 40) hx hb dX1_does_1 (by omega) (by omega) (by rw [c_1]; rfl) (by decide) ?_
      refine lv_aload_n hx hb dX1_does_40 rfl (lv_at hl 0 rfl) ?_
      refine lv_iload_n hx hb dX1_does_41 rfl (lv_at hl 2 rfl) ?_
      refine z_Vi (bc := [wc, wp, z]) (br := []) (As := [.int x]) (rest := []) C G (c_f_go l T h po la fw v0 v1 v2 v3 v4 v5 v6 v7 wc f1 f2 f3 st wh wp cr inn k1 k2 k3 k4 z x hc hp hz hP hI hW hLq) (kV_RX1_96 C.2.2.2.2 (Nat.le_of_ble_eq_true rfl) (Nat.le_of_ble_eq_true rfl)) [0, 1, 2] [] rfl rfl (ci := 1) (qc := (RX1, TX1, 11)) rfl rfl (List.mem_flatten.mpr ⟨_, List.mem_of_getElem? (i := 0) rfl, (bCourse_mem hc).choose_spec⟩) rfl rfl hl.1 dX1_does_42 (Nat.le_of_ble_eq_true rfl) (Nat.le_of_ble_eq_true rfl) (fun r_22 b1 H locs hw G => ?_)
      obtain ⟨wc2_2, gw_3, u0_4, u1_5, u2_6, u3_7, u4_8, u5_9, u6_10, u7_11, wp2_12, g1_13, g2_14, sa_15, wa_16, rfl, h_17, h_18, h_19, h_20, h_21⟩ := hw
      have G : zS T A s.heap s [wc2_2, wp2_12, z] _ _ := G
      refine lv_istore (lv' := [(4, .int r_22), (0, .ref h), (1, .int d), (2, .int x), (3, .int y)]) hx hb dX1_does_45 hl (by decide) rfl (fun ls hl => ?_)
      refine lv_goto (tgt := 117) hx hb dX1_does_47 (by decide) ?_
      refine lv_iload hx hb dX1_does_117 (lv_at hl 0 rfl) ?_
      refine lv_if_eq (tgt := 136) hx hb dX1_does_119 (by decide) (fun c_23 => ?_) (fun c_23 => ?_)
      · have c_23n : r_22.toInt = (0 : Int) := (fa_eq _ _).mp c_23
        have hs := (h_20).resolve_left (fun q8 => by have e8 : r_22.toInt = 1 := (by rw [q8.1]; rfl); omega)
        refine lv_iload hx hb dX1_does_136 (lv_at hl 0 rfl) ?_
        exact z_zret C hr hlocks G (Nat.le_of_ble_eq_true rfl) (Nat.le_of_ble_eq_true rfl) dX1_does_138 (by rcases h_20 with q | q <;> rw [q.1] <;> rfl) ⟨wc2_2, gw_3, u0_4, u1_5, u2_6, u3_7, u4_8, u5_9, u6_10, u7_11, wp2_12, g1_13, g2_14, sa_15, wa_16, rfl, h_17, h_18, (show zP3 g1_13 f3 from h_19), (Or.inr ⟨hs.1, (zDe_k0 (by omega)).trans hs.2.1, hs.2.2.1, hs.2.2.2.1, hs.2.2.2.2.1, hs.2.2.2.2.2.1, hs.2.2.2.2.2.2, h_21.1⟩), h_21.2⟩
      · have c_23n : ¬ r_22.toInt = (0 : Int) := fun q => c_23 ((fa_eq _ _).mpr q)
        have hs := (h_20).resolve_right (fun q8 => by have e8 : r_22.toInt = 0 := (by rw [q8.1]; rfl); omega)
        refine lv_aload_n hx hb dX1_does_122 rfl (lv_at hl 1 rfl) ?_
        refine lv_dup hx hb dX1_does_123 rfl ?_
        obtain ⟨a1_24, rfl⟩ := h_17
        have G : zS T A s.heap s [[(h, .inr (1, [.ref po, .ref a1_24, .int u0_4, .ref la, .int u1_5, .int u2_6, .int u3_7, .int u4_8, .int u5_9, .int u6_10, .int u7_11]))], [(a1_24, .inl (T.2 0, 7, .inl gw_3))], wp2_12, z] _ _ := G.re rfl
        refine z_get C G clX1 0 rfl 5 (by decide) m_fl_RX1_41 rfl dX1_does_124 ?_
        refine lv_iconst (v := 1) hx hb dX1_does_127 (by decide) ?_
        refine lv_iadd hx hb dX1_does_128 ?_
        refine z_put C G clX1 0 rfl 5 (by decide) m_fl_RX1_41 rfl rfl rfl (Nat.le_of_ble_eq_true rfl) dX1_does_129 (fun H locs G => ?_)
        have G : zS T A s.heap s [[(h, .inr (1, [.ref po, .ref a1_24, .int u0_4, .ref la, .int u1_5, .int (u2_6 + 1), .int u3_7, .int u4_8, .int u5_9, .int u6_10, .int u7_11]))], [(a1_24, .inl (T.2 0, 7, .inl gw_3))], wp2_12, z] _ _ := G
        refine lv_aload_n hx hb dX1_does_132 rfl (lv_at hl 1 rfl) ?_
        have hw_25 : bCourse T h po la gw_3 u0_4 u1_5 (u2_6 + 1) u3_7 u4_8 u5_9 u6_10 u7_11 [(h, .inr (1, [.ref po, .ref a1_24, .int u0_4, .ref la, .int u1_5, .int (u2_6 + 1), .int u3_7, .int u4_8, .int u5_9, .int u6_10, .int u7_11])), (a1_24, .inl (T.2 0, 7, .inl gw_3))] := ⟨a1_24, rfl⟩
        have G : zS T A s.heap s [[(h, .inr (1, [.ref po, .ref a1_24, .int u0_4, .ref la, .int u1_5, .int (u2_6 + 1), .int u3_7, .int u4_8, .int u5_9, .int u6_10, .int u7_11])), (a1_24, .inl (T.2 0, 7, .inl gw_3))], wp2_12, z] _ _ := G.re rfl
        refine z_Vv (bc := [[(h, .inr (1, [.ref po, .ref a1_24, .int u0_4, .ref la, .int u1_5, .int (u2_6 + 1), .int u3_7, .int u4_8, .int u5_9, .int u6_10, .int u7_11])), (a1_24, .inl (T.2 0, 7, .inl gw_3))], z]) (br := [wp2_12]) (As := []) (rest := []) C G (c_lookAtCrowd l T h po la gw_3 u0_4 u1_5 (u2_6 + 1) u3_7 u4_8 u5_9 u6_10 u7_11 ([(h, .inr (1, [.ref po, .ref a1_24, .int u0_4, .ref la, .int u1_5, .int (u2_6 + 1), .int u3_7, .int u4_8, .int u5_9, .int u6_10, .int u7_11])), (a1_24, .inl (T.2 0, 7, .inl gw_3))]) cr inn k1 k2 k3 k4 z hw_25 hz (by first | assumption | omega | rfl)) (kV_RX1_56 C.2.2.2.2 (Nat.le_of_ble_eq_true rfl) (Nat.le_of_ble_eq_true rfl)) [0, 2] [1] rfl rfl (ci := 1) (qc := (RX1, TX1, 11)) rfl rfl (List.mem_flatten.mpr ⟨_, List.mem_of_getElem? (i := 0) rfl, (bCourse_mem hw_25).choose_spec⟩) rfl rfl hl.1 dX1_does_133 (Nat.le_of_ble_eq_true rfl) (Nat.le_of_ble_eq_true rfl) (fun b1 H locs hw G => ?_)
        obtain ⟨wc2_26, u6_27, rfl, h_28⟩ := hw
        have G : zS T A s.heap s [wp2_12, wc2_26, z] _ _ := G
        refine lv_iload hx hb dX1_does_136 (lv_at hl 0 rfl) ?_
        have G := G.sub (bs' := [wc2_26, wp2_12, z]) [1, 0, 2] rfl
        exact z_zret C hr hlocks G (Nat.le_of_ble_eq_true rfl) (Nat.le_of_ble_eq_true rfl) dX1_does_138 (by rcases h_20 with q | q <;> rw [q.1] <;> rfl) ⟨wc2_26, gw_3, u0_4, u1_5, (u2_6 + 1), u3_7, u4_8, u5_9, u6_27, u7_11, wp2_12, g1_13, g2_14, sa_15, wa_16, rfl, h_28, h_18, (show zP3 g1_13 f3 from h_19), (Or.inl ⟨hs.1, (zDe_k0 (by omega)).trans hs.2, by rw [h_21.1]⟩), h_21.2⟩
    · refine lv_tableIn (tgt := 50) hx hb dX1_does_1 (by omega) (by omega) (by rw [c_1]; rfl) (by decide) ?_
      refine lv_aload_n hx hb dX1_does_50 rfl (lv_at hl 0 rfl) ?_
      refine lv_iload_n hx hb dX1_does_51 rfl (lv_at hl 2 rfl) ?_
      refine z_Vi (bc := [wc, wp, z]) (br := []) (As := [.int x]) (rest := []) C G (c_f_Course_run l T h po la fw v0 v1 v2 v3 v4 v5 v6 v7 wc f1 f2 f3 st wh wp cr inn k1 k2 k3 k4 z x hc hp hz hP hI hW hLq) (kV_RX1_92 C.2.2.2.2 (Nat.le_of_ble_eq_true rfl) (Nat.le_of_ble_eq_true rfl)) [0, 1, 2] [] rfl rfl (ci := 1) (qc := (RX1, TX1, 11)) rfl rfl (List.mem_flatten.mpr ⟨_, List.mem_of_getElem? (i := 0) rfl, (bCourse_mem hc).choose_spec⟩) rfl rfl hl.1 dX1_does_52 (Nat.le_of_ble_eq_true rfl) (Nat.le_of_ble_eq_true rfl) (fun r_50 b1 H locs hw G => ?_)
      obtain ⟨wc2_30, gw_31, u0_32, u1_33, u2_34, u3_35, u4_36, u5_37, u6_38, u7_39, wp2_40, g1_41, g2_42, sa_43, wa_44, rfl, h_45, h_46, h_47, h_48, h_49⟩ := hw
      have G : zS T A s.heap s [wc2_30, wp2_40, z] _ _ := G
      refine lv_istore (lv' := [(4, .int r_50), (0, .ref h), (1, .int d), (2, .int x), (3, .int y)]) hx hb dX1_does_55 hl (by decide) rfl (fun ls hl => ?_)
      refine lv_goto (tgt := 117) hx hb dX1_does_57 (by decide) ?_
      refine lv_iload hx hb dX1_does_117 (lv_at hl 0 rfl) ?_
      refine lv_if_eq (tgt := 136) hx hb dX1_does_119 (by decide) (fun c_51 => ?_) (fun c_51 => ?_)
      · have c_51n : r_50.toInt = (0 : Int) := (fa_eq _ _).mp c_51
        have hs := (h_48).resolve_left (fun q8 => by have e8 : r_50.toInt = 1 := (by rw [q8.1]; rfl); omega)
        refine lv_iload hx hb dX1_does_136 (lv_at hl 0 rfl) ?_
        exact z_zret C hr hlocks G (Nat.le_of_ble_eq_true rfl) (Nat.le_of_ble_eq_true rfl) dX1_does_138 (by rcases h_48 with q | q <;> rw [q.1] <;> rfl) ⟨wc2_30, gw_31, u0_32, u1_33, u2_34, u3_35, u4_36, u5_37, u6_38, u7_39, wp2_40, g1_41, g2_42, sa_43, wa_44, rfl, h_45, h_46, (show zP3 g1_41 f3 from h_47), (Or.inr ⟨hs.1, (zDe_k1 (by omega)).trans hs.2.1, hs.2.2.1, hs.2.2.2.1, hs.2.2.2.2.1, hs.2.2.2.2.2.1, hs.2.2.2.2.2.2, h_49.1⟩), h_49.2⟩
      · have c_51n : ¬ r_50.toInt = (0 : Int) := fun q => c_51 ((fa_eq _ _).mpr q)
        have hs := (h_48).resolve_right (fun q8 => by have e8 : r_50.toInt = 0 := (by rw [q8.1]; rfl); omega)
        refine lv_aload_n hx hb dX1_does_122 rfl (lv_at hl 1 rfl) ?_
        refine lv_dup hx hb dX1_does_123 rfl ?_
        obtain ⟨a1_52, rfl⟩ := h_45
        have G : zS T A s.heap s [[(h, .inr (1, [.ref po, .ref a1_52, .int u0_32, .ref la, .int u1_33, .int u2_34, .int u3_35, .int u4_36, .int u5_37, .int u6_38, .int u7_39]))], [(a1_52, .inl (T.2 0, 7, .inl gw_31))], wp2_40, z] _ _ := G.re rfl
        refine z_get C G clX1 0 rfl 5 (by decide) m_fl_RX1_41 rfl dX1_does_124 ?_
        refine lv_iconst (v := 1) hx hb dX1_does_127 (by decide) ?_
        refine lv_iadd hx hb dX1_does_128 ?_
        refine z_put C G clX1 0 rfl 5 (by decide) m_fl_RX1_41 rfl rfl rfl (Nat.le_of_ble_eq_true rfl) dX1_does_129 (fun H locs G => ?_)
        have G : zS T A s.heap s [[(h, .inr (1, [.ref po, .ref a1_52, .int u0_32, .ref la, .int u1_33, .int (u2_34 + 1), .int u3_35, .int u4_36, .int u5_37, .int u6_38, .int u7_39]))], [(a1_52, .inl (T.2 0, 7, .inl gw_31))], wp2_40, z] _ _ := G
        refine lv_aload_n hx hb dX1_does_132 rfl (lv_at hl 1 rfl) ?_
        have hw_53 : bCourse T h po la gw_31 u0_32 u1_33 (u2_34 + 1) u3_35 u4_36 u5_37 u6_38 u7_39 [(h, .inr (1, [.ref po, .ref a1_52, .int u0_32, .ref la, .int u1_33, .int (u2_34 + 1), .int u3_35, .int u4_36, .int u5_37, .int u6_38, .int u7_39])), (a1_52, .inl (T.2 0, 7, .inl gw_31))] := ⟨a1_52, rfl⟩
        have G : zS T A s.heap s [[(h, .inr (1, [.ref po, .ref a1_52, .int u0_32, .ref la, .int u1_33, .int (u2_34 + 1), .int u3_35, .int u4_36, .int u5_37, .int u6_38, .int u7_39])), (a1_52, .inl (T.2 0, 7, .inl gw_31))], wp2_40, z] _ _ := G.re rfl
        refine z_Vv (bc := [[(h, .inr (1, [.ref po, .ref a1_52, .int u0_32, .ref la, .int u1_33, .int (u2_34 + 1), .int u3_35, .int u4_36, .int u5_37, .int u6_38, .int u7_39])), (a1_52, .inl (T.2 0, 7, .inl gw_31))], z]) (br := [wp2_40]) (As := []) (rest := []) C G (c_lookAtCrowd l T h po la gw_31 u0_32 u1_33 (u2_34 + 1) u3_35 u4_36 u5_37 u6_38 u7_39 ([(h, .inr (1, [.ref po, .ref a1_52, .int u0_32, .ref la, .int u1_33, .int (u2_34 + 1), .int u3_35, .int u4_36, .int u5_37, .int u6_38, .int u7_39])), (a1_52, .inl (T.2 0, 7, .inl gw_31))]) cr inn k1 k2 k3 k4 z hw_53 hz (by first | assumption | omega | rfl)) (kV_RX1_56 C.2.2.2.2 (Nat.le_of_ble_eq_true rfl) (Nat.le_of_ble_eq_true rfl)) [0, 2] [1] rfl rfl (ci := 1) (qc := (RX1, TX1, 11)) rfl rfl (List.mem_flatten.mpr ⟨_, List.mem_of_getElem? (i := 0) rfl, (bCourse_mem hw_53).choose_spec⟩) rfl rfl hl.1 dX1_does_133 (Nat.le_of_ble_eq_true rfl) (Nat.le_of_ble_eq_true rfl) (fun b1 H locs hw G => ?_)
        obtain ⟨wc2_54, u6_55, rfl, h_56⟩ := hw
        have G : zS T A s.heap s [wp2_40, wc2_54, z] _ _ := G
        refine lv_iload hx hb dX1_does_136 (lv_at hl 0 rfl) ?_
        have G := G.sub (bs' := [wc2_54, wp2_40, z]) [1, 0, 2] rfl
        exact z_zret C hr hlocks G (Nat.le_of_ble_eq_true rfl) (Nat.le_of_ble_eq_true rfl) dX1_does_138 (by rcases h_48 with q | q <;> rw [q.1] <;> rfl) ⟨wc2_54, gw_31, u0_32, u1_33, (u2_34 + 1), u3_35, u4_36, u5_37, u6_55, u7_39, wp2_40, g1_41, g2_42, sa_43, wa_44, rfl, h_56, h_46, (show zP3 g1_41 f3 from h_47), (Or.inl ⟨hs.1, (zDe_k1 (by omega)).trans hs.2, by rw [h_49.1]⟩), h_49.2⟩
    · refine lv_tableIn (tgt := 60) hx hb dX1_does_1 (by omega) (by omega) (by rw [c_1]; rfl) (by decide) ?_
      refine lv_aload_n hx hb dX1_does_60 rfl (lv_at hl 0 rfl) ?_
      obtain ⟨a1_58, rfl⟩ := hc
      have G : zS T A s.heap s [[(h, .inr (1, [.ref po, .ref a1_58, .int v0, .ref la, .int v1, .int v2, .int v3, .int v4, .int v5, .int v6, .int v7]))], [(a1_58, .inl (T.2 0, 7, .inl fw))], wp, z] _ _ := G.re rfl
      refine z_get C G clX1 0 rfl 0 (by decide) m_fl_RX1_12 rfl dX1_does_61 ?_
      refine lv_iload_n hx hb dX1_does_64 rfl (lv_at hl 2 rfl) ?_
      refine z_Vi (bc := [wp]) (br := [[(h, .inr (1, [.ref po, .ref a1_58, .int v0, .ref la, .int v1, .int v2, .int v3, .int v4, .int v5, .int v6, .int v7]))], [(a1_58, .inl (T.2 0, 7, .inl fw))], z]) (As := [.int x]) (rest := []) C G (c_turn l T po la f1 f2 f3 st wh wp x hp hP) (kV_RX1_99 C.2.2.2.2 (Nat.le_of_ble_eq_true rfl) (Nat.le_of_ble_eq_true rfl)) [2] [0, 1, 3] rfl rfl (ci := 6) (qc := (RX6, TX6, 6)) rfl rfl (List.mem_flatten.mpr ⟨_, List.mem_of_getElem? (i := 0) rfl, (bPosts_mem hp).choose_spec⟩) rfl rfl hl.1 dX1_does_65 (Nat.le_of_ble_eq_true rfl) (Nat.le_of_ble_eq_true rfl) (fun r_64 b1 H locs hw G => ?_)
      obtain ⟨w2_59, g1_60, rfl, h_61, h_62, h_63⟩ := hw
      have G : zS T A s.heap s [[(h, .inr (1, [.ref po, .ref a1_58, .int v0, .ref la, .int v1, .int v2, .int v3, .int v4, .int v5, .int v6, .int v7]))], [(a1_58, .inl (T.2 0, 7, .inl fw))], z, w2_59] _ _ := G
      subst h_61
      have hQt : zP3 g1_60 f3 := by rw [h_63]; exact zPost_I hP _
      refine lv_iconst (v := (-1)) hx hb dX1_does_68 (by decide) ?_
      refine lv_icmp_eq (tgt := 76) hx hb dX1_does_69 (by decide) (fun c_65 => ?_) (fun c_65 => ?_)
      · have c_65n : (zTurn f1 f2 f3 x).toInt = (-1 : Int) := (fa_eq _ _).mp c_65
        refine lv_iconst (v := 0) hx hb dX1_does_76 (by decide) ?_
        refine lv_istore (lv' := [(4, .int 0), (0, .ref h), (1, .int d), (2, .int x), (3, .int y)]) hx hb dX1_does_77 hl (by decide) rfl (fun ls hl => ?_)
        refine lv_goto (tgt := 117) hx hb dX1_does_79 (by decide) ?_
        refine lv_iload hx hb dX1_does_117 (lv_at hl 0 rfl) ?_
        refine lv_if_eq (tgt := 136) hx hb dX1_does_119 (by decide) (fun _ => ?_) (fun q => absurd (by decide) q)
        refine lv_iload hx hb dX1_does_136 (lv_at hl 0 rfl) ?_
        have hw_66 : bCourse T h po la fw v0 v1 v2 v3 v4 v5 v6 v7 [(h, .inr (1, [.ref po, .ref a1_58, .int v0, .ref la, .int v1, .int v2, .int v3, .int v4, .int v5, .int v6, .int v7])), (a1_58, .inl (T.2 0, 7, .inl fw))] := ⟨a1_58, rfl⟩
        have G : zS T A s.heap s [[(h, .inr (1, [.ref po, .ref a1_58, .int v0, .ref la, .int v1, .int v2, .int v3, .int v4, .int v5, .int v6, .int v7])), (a1_58, .inl (T.2 0, 7, .inl fw))], z, w2_59] _ _ := G.re rfl
        have G := G.sub (bs' := [[(h, .inr (1, [.ref po, .ref a1_58, .int v0, .ref la, .int v1, .int v2, .int v3, .int v4, .int v5, .int v6, .int v7])), (a1_58, .inl (T.2 0, 7, .inl fw))], w2_59, z]) [0, 2, 1] rfl
        exact z_zret C hr hlocks G (Nat.le_of_ble_eq_true rfl) (Nat.le_of_ble_eq_true rfl) dX1_does_138 rfl ⟨([(h, .inr (1, [.ref po, .ref a1_58, .int v0, .ref la, .int v1, .int v2, .int v3, .int v4, .int v5, .int v6, .int v7])), (a1_58, .inl (T.2 0, 7, .inl fw))]), fw, v0, v1, v2, v3, v4, v5, v6, v7, w2_59, g1_60, f2, st, wh, rfl, hw_66, h_62, hQt, (Or.inr ⟨rfl, (zDe_k2 (by omega)).trans (zTuF_n (by assumption) h_63).1, (zTuF_n (cr := cr) (H := fw) (st := v0) (nv := v1) (by assumption) h_63).2, rfl, rfl, rfl, rfl, rfl⟩), rfl⟩
      · have c_65n : ¬ (zTurn f1 f2 f3 x).toInt = (-1 : Int) := fun q => c_65 ((fa_eq _ _).mpr q)
        refine lv_iconst (v := 1) hx hb dX1_does_72 (by decide) ?_
        refine lv_goto (tgt := 77) hx hb dX1_does_73 (by decide) ?_
        refine lv_istore (lv' := [(4, .int 1), (0, .ref h), (1, .int d), (2, .int x), (3, .int y)]) hx hb dX1_does_77 hl (by decide) rfl (fun ls hl => ?_)
        refine lv_goto (tgt := 117) hx hb dX1_does_79 (by decide) ?_
        refine lv_iload hx hb dX1_does_117 (lv_at hl 0 rfl) ?_
        refine lv_if_eq (tgt := 136) hx hb dX1_does_119 (by decide) (fun q => absurd q (by decide)) (fun _ => ?_)
        refine lv_aload_n hx hb dX1_does_122 rfl (lv_at hl 1 rfl) ?_
        refine lv_dup hx hb dX1_does_123 rfl ?_
        refine z_get C G clX1 0 rfl 5 (by decide) m_fl_RX1_41 rfl dX1_does_124 ?_
        refine lv_iconst (v := 1) hx hb dX1_does_127 (by decide) ?_
        refine lv_iadd hx hb dX1_does_128 ?_
        refine z_put C G clX1 0 rfl 5 (by decide) m_fl_RX1_41 rfl rfl rfl (Nat.le_of_ble_eq_true rfl) dX1_does_129 (fun H locs G => ?_)
        have G : zS T A s.heap s [[(h, .inr (1, [.ref po, .ref a1_58, .int v0, .ref la, .int v1, .int (v2 + 1), .int v3, .int v4, .int v5, .int v6, .int v7]))], [(a1_58, .inl (T.2 0, 7, .inl fw))], z, w2_59] _ _ := G
        refine lv_aload_n hx hb dX1_does_132 rfl (lv_at hl 1 rfl) ?_
        have hw_67 : bCourse T h po la fw v0 v1 (v2 + 1) v3 v4 v5 v6 v7 [(h, .inr (1, [.ref po, .ref a1_58, .int v0, .ref la, .int v1, .int (v2 + 1), .int v3, .int v4, .int v5, .int v6, .int v7])), (a1_58, .inl (T.2 0, 7, .inl fw))] := ⟨a1_58, rfl⟩
        have G : zS T A s.heap s [[(h, .inr (1, [.ref po, .ref a1_58, .int v0, .ref la, .int v1, .int (v2 + 1), .int v3, .int v4, .int v5, .int v6, .int v7])), (a1_58, .inl (T.2 0, 7, .inl fw))], z, w2_59] _ _ := G.re rfl
        refine z_Vv (bc := [[(h, .inr (1, [.ref po, .ref a1_58, .int v0, .ref la, .int v1, .int (v2 + 1), .int v3, .int v4, .int v5, .int v6, .int v7])), (a1_58, .inl (T.2 0, 7, .inl fw))], z]) (br := [w2_59]) (As := []) (rest := []) C G (c_lookAtCrowd l T h po la fw v0 v1 (v2 + 1) v3 v4 v5 v6 v7 ([(h, .inr (1, [.ref po, .ref a1_58, .int v0, .ref la, .int v1, .int (v2 + 1), .int v3, .int v4, .int v5, .int v6, .int v7])), (a1_58, .inl (T.2 0, 7, .inl fw))]) cr inn k1 k2 k3 k4 z hw_67 hz (by first | assumption | omega | rfl)) (kV_RX1_56 C.2.2.2.2 (Nat.le_of_ble_eq_true rfl) (Nat.le_of_ble_eq_true rfl)) [0, 1] [2] rfl rfl (ci := 1) (qc := (RX1, TX1, 11)) rfl rfl (List.mem_flatten.mpr ⟨_, List.mem_of_getElem? (i := 0) rfl, (bCourse_mem hw_67).choose_spec⟩) rfl rfl hl.1 dX1_does_133 (Nat.le_of_ble_eq_true rfl) (Nat.le_of_ble_eq_true rfl) (fun b1 H locs hw G => ?_)
        obtain ⟨wc2_68, u6_69, rfl, h_70⟩ := hw
        have G : zS T A s.heap s [w2_59, wc2_68, z] _ _ := G
        refine lv_iload hx hb dX1_does_136 (lv_at hl 0 rfl) ?_
        have G := G.sub (bs' := [wc2_68, w2_59, z]) [1, 0, 2] rfl
        exact z_zret C hr hlocks G (Nat.le_of_ble_eq_true rfl) (Nat.le_of_ble_eq_true rfl) dX1_does_138 rfl ⟨wc2_68, fw, v0, v1, (v2 + 1), v3, v4, v5, u6_69, v7, w2_59, g1_60, f2, st, wh, rfl, h_70, h_62, hQt, (Or.inl ⟨rfl, (zDe_k2 (by omega)).trans (zTuF_i ⟨zTurn_has hP hW (by assumption), by assumption⟩ h_63), rfl⟩), rfl⟩
    · refine lv_tableIn (tgt := 82) hx hb dX1_does_1 (by omega) (by omega) (by rw [c_1]; rfl) (by decide) ?_
      refine lv_aload_n hx hb dX1_does_82 rfl (lv_at hl 0 rfl) ?_
      refine lv_iload_n hx hb dX1_does_83 rfl (lv_at hl 2 rfl) ?_
      refine z_Vi (bc := [wc, z]) (br := [wp]) (As := [.int x]) (rest := []) C G (c_f_Course_add l T h po la fw v0 v1 v2 v3 v4 v5 v6 v7 wc cr inn k1 k2 k3 k4 z x hc hz) (kV_RX1_102 C.2.2.2.2 (Nat.le_of_ble_eq_true rfl) (Nat.le_of_ble_eq_true rfl)) [0, 2] [1] rfl rfl (ci := 1) (qc := (RX1, TX1, 11)) rfl rfl (List.mem_flatten.mpr ⟨_, List.mem_of_getElem? (i := 0) rfl, (bCourse_mem hc).choose_spec⟩) rfl rfl hl.1 dX1_does_84 (Nat.le_of_ble_eq_true rfl) (Nat.le_of_ble_eq_true rfl) (fun r_76 b1 H locs hw G => ?_)
      obtain ⟨wc2_72, gw_73, rfl, h_74, h_75⟩ := hw
      have G : zS T A s.heap s [wp, wc2_72, z] _ _ := G
      refine lv_istore (lv' := [(4, .int r_76), (0, .ref h), (1, .int d), (2, .int x), (3, .int y)]) hx hb dX1_does_87 hl (by decide) rfl (fun ls hl => ?_)
      refine lv_goto (tgt := 117) hx hb dX1_does_89 (by decide) ?_
      refine lv_iload hx hb dX1_does_117 (lv_at hl 0 rfl) ?_
      refine lv_if_eq (tgt := 136) hx hb dX1_does_119 (by decide) (fun c_77 => ?_) (fun c_77 => ?_)
      · have c_77n : r_76.toInt = (0 : Int) := (fa_eq _ _).mp c_77
        have hs := (h_75 f1 f2).resolve_left (fun q8 => by have e8 : r_76.toInt = 1 := (by rw [q8.1]; rfl); omega)
        refine lv_iload hx hb dX1_does_136 (lv_at hl 0 rfl) ?_
        have G := G.sub (bs' := [wc2_72, wp, z]) [1, 0, 2] rfl
        exact z_zret C hr hlocks G (Nat.le_of_ble_eq_true rfl) (Nat.le_of_ble_eq_true rfl) dX1_does_138 (by rcases h_75 f1 f2 with q | q <;> rw [q.1] <;> rfl) ⟨wc2_72, gw_73, v0, v1, v2, v3, v4, v5, v6, v7, wp, f1, f2, st, wh, rfl, h_74, hp, hP, (Or.inr ⟨hs.1, (zDe_k3 (by omega)).trans hs.2.1, rfl, rfl, hs.2.2, rfl, rfl, rfl⟩), rfl⟩
      · have c_77n : ¬ r_76.toInt = (0 : Int) := fun q => c_77 ((fa_eq _ _).mpr q)
        have hs := (h_75 f1 f2).resolve_right (fun q8 => by have e8 : r_76.toInt = 0 := (by rw [q8.1]; rfl); omega)
        refine lv_aload_n hx hb dX1_does_122 rfl (lv_at hl 1 rfl) ?_
        refine lv_dup hx hb dX1_does_123 rfl ?_
        obtain ⟨a1_78, rfl⟩ := h_74
        have G : zS T A s.heap s [wp, [(h, .inr (1, [.ref po, .ref a1_78, .int v0, .ref la, .int v1, .int v2, .int v3, .int v4, .int v5, .int v6, .int v7]))], [(a1_78, .inl (T.2 0, 7, .inl gw_73))], z] _ _ := G.re rfl
        refine z_get C G clX1 1 rfl 5 (by decide) m_fl_RX1_41 rfl dX1_does_124 ?_
        refine lv_iconst (v := 1) hx hb dX1_does_127 (by decide) ?_
        refine lv_iadd hx hb dX1_does_128 ?_
        refine z_put C G clX1 1 rfl 5 (by decide) m_fl_RX1_41 rfl rfl rfl (Nat.le_of_ble_eq_true rfl) dX1_does_129 (fun H locs G => ?_)
        have G : zS T A s.heap s [wp, [(h, .inr (1, [.ref po, .ref a1_78, .int v0, .ref la, .int v1, .int (v2 + 1), .int v3, .int v4, .int v5, .int v6, .int v7]))], [(a1_78, .inl (T.2 0, 7, .inl gw_73))], z] _ _ := G
        refine lv_aload_n hx hb dX1_does_132 rfl (lv_at hl 1 rfl) ?_
        have hw_79 : bCourse T h po la gw_73 v0 v1 (v2 + 1) v3 v4 v5 v6 v7 [(h, .inr (1, [.ref po, .ref a1_78, .int v0, .ref la, .int v1, .int (v2 + 1), .int v3, .int v4, .int v5, .int v6, .int v7])), (a1_78, .inl (T.2 0, 7, .inl gw_73))] := ⟨a1_78, rfl⟩
        have G : zS T A s.heap s [wp, [(h, .inr (1, [.ref po, .ref a1_78, .int v0, .ref la, .int v1, .int (v2 + 1), .int v3, .int v4, .int v5, .int v6, .int v7])), (a1_78, .inl (T.2 0, 7, .inl gw_73))], z] _ _ := G.re rfl
        refine z_Vv (bc := [[(h, .inr (1, [.ref po, .ref a1_78, .int v0, .ref la, .int v1, .int (v2 + 1), .int v3, .int v4, .int v5, .int v6, .int v7])), (a1_78, .inl (T.2 0, 7, .inl gw_73))], z]) (br := [wp]) (As := []) (rest := []) C G (c_lookAtCrowd l T h po la gw_73 v0 v1 (v2 + 1) v3 v4 v5 v6 v7 ([(h, .inr (1, [.ref po, .ref a1_78, .int v0, .ref la, .int v1, .int (v2 + 1), .int v3, .int v4, .int v5, .int v6, .int v7])), (a1_78, .inl (T.2 0, 7, .inl gw_73))]) cr inn k1 k2 k3 k4 z hw_79 hz (by first | assumption | omega | rfl)) (kV_RX1_56 C.2.2.2.2 (Nat.le_of_ble_eq_true rfl) (Nat.le_of_ble_eq_true rfl)) [1, 2] [0] rfl rfl (ci := 1) (qc := (RX1, TX1, 11)) rfl rfl (List.mem_flatten.mpr ⟨_, List.mem_of_getElem? (i := 0) rfl, (bCourse_mem hw_79).choose_spec⟩) rfl rfl hl.1 dX1_does_133 (Nat.le_of_ble_eq_true rfl) (Nat.le_of_ble_eq_true rfl) (fun b1 H locs hw G => ?_)
        obtain ⟨wc2_80, u6_81, rfl, h_82⟩ := hw
        have G : zS T A s.heap s [wp, wc2_80, z] _ _ := G
        refine lv_iload hx hb dX1_does_136 (lv_at hl 0 rfl) ?_
        have G := G.sub (bs' := [wc2_80, wp, z]) [1, 0, 2] rfl
        exact z_zret C hr hlocks G (Nat.le_of_ble_eq_true rfl) (Nat.le_of_ble_eq_true rfl) dX1_does_138 (by rcases h_75 f1 f2 with q | q <;> rw [q.1] <;> rfl) ⟨wc2_80, gw_73, v0, v1, (v2 + 1), v3, v4, v5, u6_81, v7, wp, f1, f2, st, wh, rfl, h_82, hp, hP, (Or.inl ⟨hs.1, (zDe_k3 (by omega)).trans hs.2, rfl⟩), rfl⟩
    · refine lv_tableIn (tgt := 92) hx hb dX1_does_1 (by omega) (by omega) (by rw [c_1]; rfl) (by decide) ?_
      refine lv_aload_n hx hb dX1_does_92 rfl (lv_at hl 0 rfl) ?_
      refine lv_iload_n hx hb dX1_does_93 rfl (lv_at hl 2 rfl) ?_
      refine lv_iload_n hx hb dX1_does_94 rfl (lv_at hl 3 rfl) ?_
      refine z_Vi (bc := [wc, wp, z]) (br := []) (As := [.int x, .int y]) (rest := []) C G (c_f_Course_shut l T h po la fw v0 v1 v2 v3 v4 v5 v6 v7 wc f1 f2 f3 st wh wp cr inn k1 k2 k3 k4 z x y hc hp hz) (kV_RX1_105 C.2.2.2.2 (Nat.le_of_ble_eq_true rfl) (Nat.le_of_ble_eq_true rfl)) [0, 1, 2] [] rfl rfl (ci := 1) (qc := (RX1, TX1, 11)) rfl rfl (List.mem_flatten.mpr ⟨_, List.mem_of_getElem? (i := 0) rfl, (bCourse_mem hc).choose_spec⟩) rfl rfl hl.1 dX1_does_95 (Nat.le_of_ble_eq_true rfl) (Nat.le_of_ble_eq_true rfl) (fun r_88 b1 H locs hw G => ?_)
      obtain ⟨wp2_84, g2_85, rfl, h_86, h_87⟩ := hw
      have G : zS T A s.heap s [wc, wp2_84, z] _ _ := G
      refine lv_istore (lv' := [(4, .int r_88), (0, .ref h), (1, .int d), (2, .int x), (3, .int y)]) hx hb dX1_does_98 hl (by decide) rfl (fun ls hl => ?_)
      refine lv_goto (tgt := 117) hx hb dX1_does_100 (by decide) ?_
      refine lv_iload hx hb dX1_does_117 (lv_at hl 0 rfl) ?_
      refine lv_if_eq (tgt := 136) hx hb dX1_does_119 (by decide) (fun c_89 => ?_) (fun c_89 => ?_)
      · have c_89n : r_88.toInt = (0 : Int) := (fa_eq _ _).mp c_89
        have hs := (h_87 fw v0 v1).resolve_left (fun q8 => by have e8 : r_88.toInt = 1 := (by rw [q8.1]; rfl); omega)
        refine lv_iload hx hb dX1_does_136 (lv_at hl 0 rfl) ?_
        exact z_zret C hr hlocks G (Nat.le_of_ble_eq_true rfl) (Nat.le_of_ble_eq_true rfl) dX1_does_138 (by rcases h_87 fw v0 v1 with q | q <;> rw [q.1] <;> rfl) ⟨wc, fw, v0, v1, v2, v3, v4, v5, v6, v7, wp2_84, f1, g2_85, st, wh, rfl, hc, h_86, hP, (Or.inr ⟨hs.1, (zDe_k4 (by omega)).trans hs.2.1, rfl, hs.2.2, rfl, rfl, rfl, rfl⟩), rfl⟩
      · have c_89n : ¬ r_88.toInt = (0 : Int) := fun q => c_89 ((fa_eq _ _).mpr q)
        have hs := (h_87 fw v0 v1).resolve_right (fun q8 => by have e8 : r_88.toInt = 0 := (by rw [q8.1]; rfl); omega)
        refine lv_aload_n hx hb dX1_does_122 rfl (lv_at hl 1 rfl) ?_
        refine lv_dup hx hb dX1_does_123 rfl ?_
        obtain ⟨a1_90, rfl⟩ := hc
        have G : zS T A s.heap s [[(h, .inr (1, [.ref po, .ref a1_90, .int v0, .ref la, .int v1, .int v2, .int v3, .int v4, .int v5, .int v6, .int v7]))], [(a1_90, .inl (T.2 0, 7, .inl fw))], wp2_84, z] _ _ := G.re rfl
        refine z_get C G clX1 0 rfl 5 (by decide) m_fl_RX1_41 rfl dX1_does_124 ?_
        refine lv_iconst (v := 1) hx hb dX1_does_127 (by decide) ?_
        refine lv_iadd hx hb dX1_does_128 ?_
        refine z_put C G clX1 0 rfl 5 (by decide) m_fl_RX1_41 rfl rfl rfl (Nat.le_of_ble_eq_true rfl) dX1_does_129 (fun H locs G => ?_)
        have G : zS T A s.heap s [[(h, .inr (1, [.ref po, .ref a1_90, .int v0, .ref la, .int v1, .int (v2 + 1), .int v3, .int v4, .int v5, .int v6, .int v7]))], [(a1_90, .inl (T.2 0, 7, .inl fw))], wp2_84, z] _ _ := G
        refine lv_aload_n hx hb dX1_does_132 rfl (lv_at hl 1 rfl) ?_
        have hw_91 : bCourse T h po la fw v0 v1 (v2 + 1) v3 v4 v5 v6 v7 [(h, .inr (1, [.ref po, .ref a1_90, .int v0, .ref la, .int v1, .int (v2 + 1), .int v3, .int v4, .int v5, .int v6, .int v7])), (a1_90, .inl (T.2 0, 7, .inl fw))] := ⟨a1_90, rfl⟩
        have G : zS T A s.heap s [[(h, .inr (1, [.ref po, .ref a1_90, .int v0, .ref la, .int v1, .int (v2 + 1), .int v3, .int v4, .int v5, .int v6, .int v7])), (a1_90, .inl (T.2 0, 7, .inl fw))], wp2_84, z] _ _ := G.re rfl
        refine z_Vv (bc := [[(h, .inr (1, [.ref po, .ref a1_90, .int v0, .ref la, .int v1, .int (v2 + 1), .int v3, .int v4, .int v5, .int v6, .int v7])), (a1_90, .inl (T.2 0, 7, .inl fw))], z]) (br := [wp2_84]) (As := []) (rest := []) C G (c_lookAtCrowd l T h po la fw v0 v1 (v2 + 1) v3 v4 v5 v6 v7 ([(h, .inr (1, [.ref po, .ref a1_90, .int v0, .ref la, .int v1, .int (v2 + 1), .int v3, .int v4, .int v5, .int v6, .int v7])), (a1_90, .inl (T.2 0, 7, .inl fw))]) cr inn k1 k2 k3 k4 z hw_91 hz (by first | assumption | omega | rfl)) (kV_RX1_56 C.2.2.2.2 (Nat.le_of_ble_eq_true rfl) (Nat.le_of_ble_eq_true rfl)) [0, 2] [1] rfl rfl (ci := 1) (qc := (RX1, TX1, 11)) rfl rfl (List.mem_flatten.mpr ⟨_, List.mem_of_getElem? (i := 0) rfl, (bCourse_mem hw_91).choose_spec⟩) rfl rfl hl.1 dX1_does_133 (Nat.le_of_ble_eq_true rfl) (Nat.le_of_ble_eq_true rfl) (fun b1 H locs hw G => ?_)
        obtain ⟨wc2_92, u6_93, rfl, h_94⟩ := hw
        have G : zS T A s.heap s [wp2_84, wc2_92, z] _ _ := G
        refine lv_iload hx hb dX1_does_136 (lv_at hl 0 rfl) ?_
        have G := G.sub (bs' := [wc2_92, wp2_84, z]) [1, 0, 2] rfl
        exact z_zret C hr hlocks G (Nat.le_of_ble_eq_true rfl) (Nat.le_of_ble_eq_true rfl) dX1_does_138 (by rcases h_87 fw v0 v1 with q | q <;> rw [q.1] <;> rfl) ⟨wc2_92, fw, v0, v1, (v2 + 1), v3, v4, v5, u6_93, v7, wp2_84, f1, g2_85, st, wh, rfl, h_94, h_86, hP, (Or.inl ⟨hs.1, (zDe_k4 (by omega)).trans hs.2, rfl⟩), rfl⟩
    · refine lv_tableIn (tgt := 103) hx hb dX1_does_1 (by omega) (by omega) (by rw [c_1]; rfl) (by decide) ?_
      refine lv_aload_n hx hb dX1_does_103 rfl (lv_at hl 0 rfl) ?_
      refine lv_iload_n hx hb dX1_does_104 rfl (lv_at hl 2 rfl) ?_
      refine lv_iload_n hx hb dX1_does_105 rfl (lv_at hl 3 rfl) ?_
      refine z_Vi (bc := [wc, wp, z]) (br := []) (As := [.int x, .int y]) (rest := []) C G (c_f_Course_open l T h po la fw v0 v1 v2 v3 v4 v5 v6 v7 wc f1 f2 f3 st wh wp cr inn k1 k2 k3 k4 z x y hc hp hz) (kV_RX1_109 C.2.2.2.2 (Nat.le_of_ble_eq_true rfl) (Nat.le_of_ble_eq_true rfl)) [0, 1, 2] [] rfl rfl (ci := 1) (qc := (RX1, TX1, 11)) rfl rfl (List.mem_flatten.mpr ⟨_, List.mem_of_getElem? (i := 0) rfl, (bCourse_mem hc).choose_spec⟩) rfl rfl hl.1 dX1_does_106 (Nat.le_of_ble_eq_true rfl) (Nat.le_of_ble_eq_true rfl) (fun r_100 b1 H locs hw G => ?_)
      obtain ⟨wp2_96, g2_97, rfl, h_98, h_99⟩ := hw
      have G : zS T A s.heap s [wc, wp2_96, z] _ _ := G
      refine lv_istore (lv' := [(4, .int r_100), (0, .ref h), (1, .int d), (2, .int x), (3, .int y)]) hx hb dX1_does_109 hl (by decide) rfl (fun ls hl => ?_)
      refine lv_goto (tgt := 117) hx hb dX1_does_111 (by decide) ?_
      refine lv_iload hx hb dX1_does_117 (lv_at hl 0 rfl) ?_
      refine lv_if_eq (tgt := 136) hx hb dX1_does_119 (by decide) (fun c_101 => ?_) (fun c_101 => ?_)
      · have c_101n : r_100.toInt = (0 : Int) := (fa_eq _ _).mp c_101
        have hs := (h_99 fw v0 v1).resolve_left (fun q8 => by have e8 : r_100.toInt = 1 := (by rw [q8.1]; rfl); omega)
        refine lv_iload hx hb dX1_does_136 (lv_at hl 0 rfl) ?_
        exact z_zret C hr hlocks G (Nat.le_of_ble_eq_true rfl) (Nat.le_of_ble_eq_true rfl) dX1_does_138 (by rcases h_99 fw v0 v1 with q | q <;> rw [q.1] <;> rfl) ⟨wc, fw, v0, v1, v2, v3, v4, v5, v6, v7, wp2_96, f1, g2_97, st, wh, rfl, hc, h_98, hP, (Or.inr ⟨hs.1, (zDe_k5 (by omega)).trans hs.2.1, rfl, hs.2.2, rfl, rfl, rfl, rfl⟩), rfl⟩
      · have c_101n : ¬ r_100.toInt = (0 : Int) := fun q => c_101 ((fa_eq _ _).mpr q)
        have hs := (h_99 fw v0 v1).resolve_right (fun q8 => by have e8 : r_100.toInt = 0 := (by rw [q8.1]; rfl); omega)
        refine lv_aload_n hx hb dX1_does_122 rfl (lv_at hl 1 rfl) ?_
        refine lv_dup hx hb dX1_does_123 rfl ?_
        obtain ⟨a1_102, rfl⟩ := hc
        have G : zS T A s.heap s [[(h, .inr (1, [.ref po, .ref a1_102, .int v0, .ref la, .int v1, .int v2, .int v3, .int v4, .int v5, .int v6, .int v7]))], [(a1_102, .inl (T.2 0, 7, .inl fw))], wp2_96, z] _ _ := G.re rfl
        refine z_get C G clX1 0 rfl 5 (by decide) m_fl_RX1_41 rfl dX1_does_124 ?_
        refine lv_iconst (v := 1) hx hb dX1_does_127 (by decide) ?_
        refine lv_iadd hx hb dX1_does_128 ?_
        refine z_put C G clX1 0 rfl 5 (by decide) m_fl_RX1_41 rfl rfl rfl (Nat.le_of_ble_eq_true rfl) dX1_does_129 (fun H locs G => ?_)
        have G : zS T A s.heap s [[(h, .inr (1, [.ref po, .ref a1_102, .int v0, .ref la, .int v1, .int (v2 + 1), .int v3, .int v4, .int v5, .int v6, .int v7]))], [(a1_102, .inl (T.2 0, 7, .inl fw))], wp2_96, z] _ _ := G
        refine lv_aload_n hx hb dX1_does_132 rfl (lv_at hl 1 rfl) ?_
        have hw_103 : bCourse T h po la fw v0 v1 (v2 + 1) v3 v4 v5 v6 v7 [(h, .inr (1, [.ref po, .ref a1_102, .int v0, .ref la, .int v1, .int (v2 + 1), .int v3, .int v4, .int v5, .int v6, .int v7])), (a1_102, .inl (T.2 0, 7, .inl fw))] := ⟨a1_102, rfl⟩
        have G : zS T A s.heap s [[(h, .inr (1, [.ref po, .ref a1_102, .int v0, .ref la, .int v1, .int (v2 + 1), .int v3, .int v4, .int v5, .int v6, .int v7])), (a1_102, .inl (T.2 0, 7, .inl fw))], wp2_96, z] _ _ := G.re rfl
        refine z_Vv (bc := [[(h, .inr (1, [.ref po, .ref a1_102, .int v0, .ref la, .int v1, .int (v2 + 1), .int v3, .int v4, .int v5, .int v6, .int v7])), (a1_102, .inl (T.2 0, 7, .inl fw))], z]) (br := [wp2_96]) (As := []) (rest := []) C G (c_lookAtCrowd l T h po la fw v0 v1 (v2 + 1) v3 v4 v5 v6 v7 ([(h, .inr (1, [.ref po, .ref a1_102, .int v0, .ref la, .int v1, .int (v2 + 1), .int v3, .int v4, .int v5, .int v6, .int v7])), (a1_102, .inl (T.2 0, 7, .inl fw))]) cr inn k1 k2 k3 k4 z hw_103 hz (by first | assumption | omega | rfl)) (kV_RX1_56 C.2.2.2.2 (Nat.le_of_ble_eq_true rfl) (Nat.le_of_ble_eq_true rfl)) [0, 2] [1] rfl rfl (ci := 1) (qc := (RX1, TX1, 11)) rfl rfl (List.mem_flatten.mpr ⟨_, List.mem_of_getElem? (i := 0) rfl, (bCourse_mem hw_103).choose_spec⟩) rfl rfl hl.1 dX1_does_133 (Nat.le_of_ble_eq_true rfl) (Nat.le_of_ble_eq_true rfl) (fun b1 H locs hw G => ?_)
        obtain ⟨wc2_104, u6_105, rfl, h_106⟩ := hw
        have G : zS T A s.heap s [wp2_96, wc2_104, z] _ _ := G
        refine lv_iload hx hb dX1_does_136 (lv_at hl 0 rfl) ?_
        have G := G.sub (bs' := [wc2_104, wp2_96, z]) [1, 0, 2] rfl
        exact z_zret C hr hlocks G (Nat.le_of_ble_eq_true rfl) (Nat.le_of_ble_eq_true rfl) dX1_does_138 (by rcases h_99 fw v0 v1 with q | q <;> rw [q.1] <;> rfl) ⟨wc2_104, fw, v0, v1, (v2 + 1), v3, v4, v5, u6_105, v7, wp2_96, f1, g2_97, st, wh, rfl, h_106, h_98, hP, (Or.inl ⟨hs.1, (zDe_k5 (by omega)).trans hs.2, rfl⟩), rfl⟩
set_option maxHeartbeats 4000000 in
set_option maxRecDepth 100000 in
/-- c_f_goThrough -/
theorem c_f_goThrough (l : Launch) (T : zTy) (h : Nat) (po : Nat) (la : Nat) (fw : Nat → Int32) (v0 : Int32) (v1 : Int32) (v2 : Int32) (v3 : Int32) (v4 : Int32) (v5 : Int32) (v6 : Int32) (v7 : Int32) (wc : va_W) (lp : Nat) (f1 : Nat → Int32) (f2 : Nat → Int32) (f3 : Nat → Int32) (st : Int32) (wh : Int32) (wp : va_W) (o : Nat) (cr : Int32) (inn : Int32) (k1 : Nat → Int32) (k2 : Nat → Int32) (k3 : Nat → Int32) (k4 : Nat → Int32) (z : va_W) (dy : Nat) (dd : Int32) (d1 : Nat → Int32) (d2 : Nat → Int32) (d3 : Nat → Int32) (wd : va_W) (n : Int32) (hc : bCourse T h po la fw v0 v1 v2 v3 v4 v5 v6 v7 wc) (hp : bPosts T po lp f1 f2 f3 st wh wp) (hz : bLand T o cr inn k1 k2 k3 k4 z) (hI : zLI cr k1 k3) (hd : bDay T dy dd d1 d2 d3 wd) (hLq : zLq cr k1 k2) : zMi l T yX1_goThrough cX1_goThrough 5 (some .int) 7 0 0 [.ref h, .ref o, .ref dy, .int n] [wc, wp, z, wd] (fun (r : Int32) bs => ∃ (wc2 : va_W) (gw : Nat → Int32) (u0 : Int32) (u1 : Int32) (u2 : Int32) (u3 : Int32) (u4 : Int32) (u5 : Int32) (u6 : Int32) (u7 : Int32) (wp2 : va_W) (g1 : Nat → Int32) (g2 : Nat → Int32) (g3 : Nat → Int32) (sa : Int32) (wa : Int32), bs = [wc2, wp2, z, wd] ∧ bCourse T h po o gw u0 u1 u2 u3 u4 u5 u6 u7 wc2 ∧ bPosts T po o g1 g2 g3 sa wa wp2 ∧ zP3 g1 g3 ∧ (∃ P0 S0 W0 H0 : Nat → Int32, (zP3 P0 W0 ∧ (∀ j, j < 7 → P0 j = k3 j) ∧ (∀ j, j < 7 → S0 j = 0) ∧ (∀ j, j < 7 → W0 j = zWays cr inn k1 (nI j)) ∧ ∀ j, j < 7 → H0 j = k4 j) ∧ r = nI (zDayN (fun k D => zDe cr inn W0 k1 k2 (d1 k) (d2 k) (d3 k) D) (min (min n.toInt dd.toInt) 40).toNat 0 (P0, S0, H0, 0, 0)).1 ∧ (g1, g2, gw, u0, u1) = (zDayN (fun k D => zDe cr inn W0 k1 k2 (d1 k) (d2 k) (d3 k) D) (min (min n.toInt dd.toInt) 40).toNat 0 (P0, S0, H0, 0, 0)).2)) := by
  refine zMi_of (own := RX1) (by decide) rfl (Nat.le_of_ble_eq_true rfl) ?_
  intro p e s m args below meth c A ls C hr hlocks hnm hAe G hl
  have hx := C.1
  have hb := C.2.1
  have hl : lv_has ls 5 [(0, .ref h), (1, .ref o), (2, .ref dy), (3, .int n)] := hl
  refine lv_aload_n hx hb dX1_goThrough_0 rfl (lv_at hl 0 rfl) ?_
  refine lv_aload_n hx hb dX1_goThrough_1 rfl (lv_at hl 1 rfl) ?_
  refine z_Vv (bc := [wc, wp, z]) (br := [wd]) (As := [.ref o]) (rest := []) C G (c_Course_begin l T h po la fw v0 v1 v2 v3 v4 v5 v6 v7 wc lp f1 f2 f3 st wh wp o cr inn k1 k2 k3 k4 z hc hp hz (by first | assumption | omega | rfl)) (kV_RX1_59 C.2.2.2.2 (Nat.le_of_ble_eq_true rfl) (Nat.le_of_ble_eq_true rfl)) [0, 1, 2] [3] rfl rfl (ci := 1) (qc := (RX1, TX1, 11)) rfl rfl (List.mem_flatten.mpr ⟨_, List.mem_of_getElem? (i := 0) rfl, (bCourse_mem hc).choose_spec⟩) rfl rfl hl.1 dX1_goThrough_2 (Nat.le_of_ble_eq_true rfl) (Nat.le_of_ble_eq_true rfl) (fun b1 H locs hw G => ?_)
  obtain ⟨wc2_1, gw_2, u6_3, wp2_4, g1_5, g2_6, g3_7, rfl, h_8, h_9, h_10, h_11, h_12, h_13, h_14⟩ := hw
  have G : zS T A s.heap s [wd, wc2_1, wp2_4, z] _ _ := G
  have hQ : zP3 g1_5 g3_7 := h_11
  have hW : ∀ j, j < 7 → g3_7 j = zWays cr inn k1 (nI j) := h_14
  obtain ⟨R9, hR9⟩ : ∃ R9, R9 = zDayN (fun k D => zDe cr inn g3_7 k1 k2 (d1 k) (d2 k) (d3 k) D) (min (min n.toInt dd.toInt) 40).toNat 0 (g1_5, g2_6, gw_2, 0, 0) := ⟨_, rfl⟩
  refine lv_iconst (v := 0) hx hb dX1_goThrough_5 (by decide) ?_
  refine lv_istore (lv' := [(4, .int 0), (0, .ref h), (1, .ref o), (2, .ref dy), (3, .int n)]) hx hb dX1_goThrough_6 hl (by decide) rfl (fun ls hl => ?_)
  obtain ⟨a1_16, rfl⟩ := h_8
  have G : zS T A s.heap s [wd, [(h, .inr (1, [.ref po, .ref a1_16, .int 0, .ref o, .int 0, .int 0, .int (-1), .int 0, .int 0, .int u6_3, .int v7]))], [(a1_16, .inl (T.2 0, 7, .inl gw_2))], wp2_4, z] _ _ := G.re rfl
  obtain ⟨a1_17, a2_18, a3_19, rfl⟩ := h_9
  have G : zS T A s.heap s [wd, [(h, .inr (1, [.ref po, .ref a1_16, .int 0, .ref o, .int 0, .int 0, .int (-1), .int 0, .int 0, .int u6_3, .int v7]))], [(a1_16, .inl (T.2 0, 7, .inl gw_2))], [(po, .inr (6, [.ref o, .ref a1_17, .ref a2_18, .int 0, .int 0, .ref a3_19]))], [(a1_17, .inl (T.2 0, 7, .inl g1_5))], [(a2_18, .inl (T.2 0, 7, .inl g2_6))], [(a3_19, .inl (T.2 0, 7, .inl g3_7))], z] _ _ := G.re rfl
  obtain ⟨a1_20, a2_21, a3_22, a4_23, rfl⟩ := hz
  have G : zS T A s.heap s [wd, [(h, .inr (1, [.ref po, .ref a1_16, .int 0, .ref o, .int 0, .int 0, .int (-1), .int 0, .int 0, .int u6_3, .int v7]))], [(a1_16, .inl (T.2 0, 7, .inl gw_2))], [(po, .inr (6, [.ref o, .ref a1_17, .ref a2_18, .int 0, .int 0, .ref a3_19]))], [(a1_17, .inl (T.2 0, 7, .inl g1_5))], [(a2_18, .inl (T.2 0, 7, .inl g2_6))], [(a3_19, .inl (T.2 0, 7, .inl g3_7))], [(o, .inr (4, [.int cr, .int inn, .ref a1_20, .ref a2_21, .ref a3_22, .ref a4_23]))], [(a1_20, .inl (T.2 0, 7, .inl k1))], [(a2_21, .inl (T.2 0, 28, .inl k2))], [(a3_22, .inl (T.2 0, 7, .inl k3))], [(a4_23, .inl (T.2 0, 7, .inl k4))]] _ _ := G.re rfl
  obtain ⟨a1_24, a2_25, a3_26, rfl⟩ := hd
  have G : zS T A s.heap s [[(dy, .inr (2, [.int dd, .ref a1_24, .ref a2_25, .ref a3_26]))], [(a1_24, .inl (T.2 0, 40, .inl d1))], [(a2_25, .inl (T.2 0, 40, .inl d2))], [(a3_26, .inl (T.2 0, 40, .inl d3))], [(h, .inr (1, [.ref po, .ref a1_16, .int 0, .ref o, .int 0, .int 0, .int (-1), .int 0, .int 0, .int u6_3, .int v7]))], [(a1_16, .inl (T.2 0, 7, .inl gw_2))], [(po, .inr (6, [.ref o, .ref a1_17, .ref a2_18, .int 0, .int 0, .ref a3_19]))], [(a1_17, .inl (T.2 0, 7, .inl g1_5))], [(a2_18, .inl (T.2 0, 7, .inl g2_6))], [(a3_19, .inl (T.2 0, 7, .inl g3_7))], [(o, .inr (4, [.int cr, .int inn, .ref a1_20, .ref a2_21, .ref a3_22, .ref a4_23]))], [(a1_20, .inl (T.2 0, 7, .inl k1))], [(a2_21, .inl (T.2 0, 28, .inl k2))], [(a3_22, .inl (T.2 0, 7, .inl k3))], [(a4_23, .inl (T.2 0, 7, .inl k4))]] _ _ := G.re rfl
  have hw_27 : bCourse T h po o gw_2 0 0 0 (-1) 0 0 u6_3 v7 [(h, .inr (1, [.ref po, .ref a1_16, .int 0, .ref o, .int 0, .int 0, .int (-1), .int 0, .int 0, .int u6_3, .int v7])), (a1_16, .inl (T.2 0, 7, .inl gw_2))] := ⟨a1_16, rfl⟩
  have G : zS T A s.heap s [[(dy, .inr (2, [.int dd, .ref a1_24, .ref a2_25, .ref a3_26]))], [(a1_24, .inl (T.2 0, 40, .inl d1))], [(a2_25, .inl (T.2 0, 40, .inl d2))], [(a3_26, .inl (T.2 0, 40, .inl d3))], [(h, .inr (1, [.ref po, .ref a1_16, .int 0, .ref o, .int 0, .int 0, .int (-1), .int 0, .int 0, .int u6_3, .int v7])), (a1_16, .inl (T.2 0, 7, .inl gw_2))], [(po, .inr (6, [.ref o, .ref a1_17, .ref a2_18, .int 0, .int 0, .ref a3_19]))], [(a1_17, .inl (T.2 0, 7, .inl g1_5))], [(a2_18, .inl (T.2 0, 7, .inl g2_6))], [(a3_19, .inl (T.2 0, 7, .inl g3_7))], [(o, .inr (4, [.int cr, .int inn, .ref a1_20, .ref a2_21, .ref a3_22, .ref a4_23]))], [(a1_20, .inl (T.2 0, 7, .inl k1))], [(a2_21, .inl (T.2 0, 28, .inl k2))], [(a3_22, .inl (T.2 0, 7, .inl k3))], [(a4_23, .inl (T.2 0, 7, .inl k4))]] _ _ := G.re rfl
  have hw_28 : bPosts T po o g1_5 g2_6 g3_7 0 0 [(po, .inr (6, [.ref o, .ref a1_17, .ref a2_18, .int 0, .int 0, .ref a3_19])), (a1_17, .inl (T.2 0, 7, .inl g1_5)), (a2_18, .inl (T.2 0, 7, .inl g2_6)), (a3_19, .inl (T.2 0, 7, .inl g3_7))] := ⟨a1_17, a2_18, a3_19, rfl⟩
  have G : zS T A s.heap s [[(dy, .inr (2, [.int dd, .ref a1_24, .ref a2_25, .ref a3_26]))], [(a1_24, .inl (T.2 0, 40, .inl d1))], [(a2_25, .inl (T.2 0, 40, .inl d2))], [(a3_26, .inl (T.2 0, 40, .inl d3))], [(h, .inr (1, [.ref po, .ref a1_16, .int 0, .ref o, .int 0, .int 0, .int (-1), .int 0, .int 0, .int u6_3, .int v7])), (a1_16, .inl (T.2 0, 7, .inl gw_2))], [(po, .inr (6, [.ref o, .ref a1_17, .ref a2_18, .int 0, .int 0, .ref a3_19])), (a1_17, .inl (T.2 0, 7, .inl g1_5)), (a2_18, .inl (T.2 0, 7, .inl g2_6)), (a3_19, .inl (T.2 0, 7, .inl g3_7))], [(o, .inr (4, [.int cr, .int inn, .ref a1_20, .ref a2_21, .ref a3_22, .ref a4_23]))], [(a1_20, .inl (T.2 0, 7, .inl k1))], [(a2_21, .inl (T.2 0, 28, .inl k2))], [(a3_22, .inl (T.2 0, 7, .inl k3))], [(a4_23, .inl (T.2 0, 7, .inl k4))]] _ _ := G.re rfl
  have hw_29 : bLand T o cr inn k1 k2 k3 k4 [(o, .inr (4, [.int cr, .int inn, .ref a1_20, .ref a2_21, .ref a3_22, .ref a4_23])), (a1_20, .inl (T.2 0, 7, .inl k1)), (a2_21, .inl (T.2 0, 28, .inl k2)), (a3_22, .inl (T.2 0, 7, .inl k3)), (a4_23, .inl (T.2 0, 7, .inl k4))] := ⟨a1_20, a2_21, a3_22, a4_23, rfl⟩
  have G : zS T A s.heap s [[(dy, .inr (2, [.int dd, .ref a1_24, .ref a2_25, .ref a3_26]))], [(a1_24, .inl (T.2 0, 40, .inl d1))], [(a2_25, .inl (T.2 0, 40, .inl d2))], [(a3_26, .inl (T.2 0, 40, .inl d3))], [(h, .inr (1, [.ref po, .ref a1_16, .int 0, .ref o, .int 0, .int 0, .int (-1), .int 0, .int 0, .int u6_3, .int v7])), (a1_16, .inl (T.2 0, 7, .inl gw_2))], [(po, .inr (6, [.ref o, .ref a1_17, .ref a2_18, .int 0, .int 0, .ref a3_19])), (a1_17, .inl (T.2 0, 7, .inl g1_5)), (a2_18, .inl (T.2 0, 7, .inl g2_6)), (a3_19, .inl (T.2 0, 7, .inl g3_7))], [(o, .inr (4, [.int cr, .int inn, .ref a1_20, .ref a2_21, .ref a3_22, .ref a4_23])), (a1_20, .inl (T.2 0, 7, .inl k1)), (a2_21, .inl (T.2 0, 28, .inl k2)), (a3_22, .inl (T.2 0, 7, .inl k3)), (a4_23, .inl (T.2 0, 7, .inl k4))]] _ _ := G.re rfl
  have hw_30 : bDay T dy dd d1 d2 d3 [(dy, .inr (2, [.int dd, .ref a1_24, .ref a2_25, .ref a3_26])), (a1_24, .inl (T.2 0, 40, .inl d1)), (a2_25, .inl (T.2 0, 40, .inl d2)), (a3_26, .inl (T.2 0, 40, .inl d3))] := ⟨a1_24, a2_25, a3_26, rfl⟩
  have G : zS T A s.heap s [[(dy, .inr (2, [.int dd, .ref a1_24, .ref a2_25, .ref a3_26])), (a1_24, .inl (T.2 0, 40, .inl d1)), (a2_25, .inl (T.2 0, 40, .inl d2)), (a3_26, .inl (T.2 0, 40, .inl d3))], [(h, .inr (1, [.ref po, .ref a1_16, .int 0, .ref o, .int 0, .int 0, .int (-1), .int 0, .int 0, .int u6_3, .int v7])), (a1_16, .inl (T.2 0, 7, .inl gw_2))], [(po, .inr (6, [.ref o, .ref a1_17, .ref a2_18, .int 0, .int 0, .ref a3_19])), (a1_17, .inl (T.2 0, 7, .inl g1_5)), (a2_18, .inl (T.2 0, 7, .inl g2_6)), (a3_19, .inl (T.2 0, 7, .inl g3_7))], [(o, .inr (4, [.int cr, .int inn, .ref a1_20, .ref a2_21, .ref a3_22, .ref a4_23])), (a1_20, .inl (T.2 0, 7, .inl k1)), (a2_21, .inl (T.2 0, 28, .inl k2)), (a3_22, .inl (T.2 0, 7, .inl k3)), (a4_23, .inl (T.2 0, 7, .inl k4))]] _ _ := G.re rfl
  refine z_loop (T := T) (α := Nat × va_W × (Nat → Int32) × Int32 × Int32 × Int32 × Int32 × Int32 × Int32 × Int32 × Int32 × va_W × (Nat → Int32) × (Nat → Int32) × Int32 × Int32) 8 (fun (i, wc3, xw, y0, y1, y2, y3, y4, y5, y6, y7, wp3, x1, x2, sb, wb) => [[(dy, .inr (2, [.int dd, .ref a1_24, .ref a2_25, .ref a3_26])), (a1_24, .inl (T.2 0, 40, .inl d1)), (a2_25, .inl (T.2 0, 40, .inl d2)), (a3_26, .inl (T.2 0, 40, .inl d3))], wc3, wp3, [(o, .inr (4, [.int cr, .int inn, .ref a1_20, .ref a2_21, .ref a3_22, .ref a4_23])), (a1_20, .inl (T.2 0, 7, .inl k1)), (a2_21, .inl (T.2 0, 28, .inl k2)), (a3_22, .inl (T.2 0, 7, .inl k3)), (a4_23, .inl (T.2 0, 7, .inl k4))]]) (fun (i, wc3, xw, y0, y1, y2, y3, y4, y5, y6, y7, wp3, x1, x2, sb, wb) => [(4, .int (nI i)), (0, .ref h), (1, .ref o), (2, .ref dy), (3, .int n)]) (fun (i, wc3, xw, y0, y1, y2, y3, y4, y5, y6, y7, wp3, x1, x2, sb, wb) => bCourse T h po o xw y0 y1 y2 y3 y4 y5 y6 y7 wc3 ∧ bPosts T po o x1 x2 g3_7 sb wb wp3 ∧ i ≤ 40 ∧ zP3 x1 g3_7 ∧ y2 = nI i ∧ R9 = zDayN (fun k D => zDe cr inn g3_7 k1 k2 (d1 k) (d2 k) (d3 k) D) ((min (min n.toInt dd.toInt) 40).toNat - i) i (x1, x2, xw, y0, y1)) (fun (i, wc3, xw, y0, y1, y2, y3, y4, y5, y6, y7, wp3, x1, x2, sb, wb) => 40 - i) ?_ (0, ([(h, .inr (1, [.ref po, .ref a1_16, .int 0, .ref o, .int 0, .int 0, .int (-1), .int 0, .int 0, .int u6_3, .int v7])), (a1_16, .inl (T.2 0, 7, .inl gw_2))]), gw_2, 0, 0, 0, (-1), 0, 0, u6_3, v7, ([(po, .inr (6, [.ref o, .ref a1_17, .ref a2_18, .int 0, .int 0, .ref a3_19])), (a1_17, .inl (T.2 0, 7, .inl g1_5)), (a2_18, .inl (T.2 0, 7, .inl g2_6)), (a3_19, .inl (T.2 0, 7, .inl g3_7))]), g1_5, g2_6, 0, 0) (show bCourse T h po o gw_2 0 0 0 (-1) 0 0 u6_3 v7 ([(h, .inr (1, [.ref po, .ref a1_16, .int 0, .ref o, .int 0, .int 0, .int (-1), .int 0, .int 0, .int u6_3, .int v7])), (a1_16, .inl (T.2 0, 7, .inl gw_2))]) ∧ bPosts T po o g1_5 g2_6 g3_7 0 0 ([(po, .inr (6, [.ref o, .ref a1_17, .ref a2_18, .int 0, .int 0, .ref a3_19])), (a1_17, .inl (T.2 0, 7, .inl g1_5)), (a2_18, .inl (T.2 0, 7, .inl g2_6)), (a3_19, .inl (T.2 0, 7, .inl g3_7))]) ∧ 0 ≤ 40 ∧ zP3 g1_5 g3_7 ∧ 0 = nI 0 ∧ R9 = zDayN (fun k D => zDe cr inn g3_7 k1 k2 (d1 k) (d2 k) (d3 k) D) ((min (min n.toInt dd.toInt) 40).toNat - 0) 0 (g1_5, g2_6, gw_2, 0, 0) from ⟨hw_27, hw_28, by omega, hQ, rfl, hR9⟩) G (lv_sub hl [0, 1, 2, 3, 4] rfl)
  rintro ⟨i, wc3, xw, y0, y1, y2, y3, y4, y5, y6, y7, wp3, x1, x2, sb, wb⟩ ⟨hc3, hp3, hi, hQx, hy2, hR⟩ ih_8 H locs ls G hl
  replace hc3 : bCourse T h po o xw y0 y1 y2 y3 y4 y5 y6 y7 wc3 := hc3
  replace hp3 : bPosts T po o x1 x2 g3_7 sb wb wp3 := hp3
  replace hi : i ≤ 40 := hi
  replace hQx : zP3 x1 g3_7 := hQx
  replace hy2 : y2 = nI i := hy2
  replace hR : R9 = zDayN (fun k D => zDe cr inn g3_7 k1 k2 (d1 k) (d2 k) (d3 k) D) ((min (min n.toInt dd.toInt) 40).toNat - i) i (x1, x2, xw, y0, y1) := hR
  replace G : zS T A s.heap s [[(dy, .inr (2, [.int dd, .ref a1_24, .ref a2_25, .ref a3_26])), (a1_24, .inl (T.2 0, 40, .inl d1)), (a2_25, .inl (T.2 0, 40, .inl d2)), (a3_26, .inl (T.2 0, 40, .inl d3))], wc3, wp3, [(o, .inr (4, [.int cr, .int inn, .ref a1_20, .ref a2_21, .ref a3_22, .ref a4_23])), (a1_20, .inl (T.2 0, 7, .inl k1)), (a2_21, .inl (T.2 0, 28, .inl k2)), (a3_22, .inl (T.2 0, 7, .inl k3)), (a4_23, .inl (T.2 0, 7, .inl k4))]] _ _ := G
  replace hl : lv_has ls 5 [(4, .int (nI i)), (0, .ref h), (1, .ref o), (2, .ref dy), (3, .int n)] := hl
  refine lv_iload hx hb dX1_goThrough_8 (lv_at hl 0 rfl) ?_
  refine lv_iload_n hx hb dX1_goThrough_10 rfl (lv_at hl 4 rfl) ?_
  refine lv_icmp_ge (tgt := 69) hx hb dX1_goThrough_11 (by decide) (fun c_31 => ?_) (fun c_31 => ?_)
  · have c_31n : n.toInt ≤ (i : Int) := by have q := (fa_le _ _).mp c_31; rw [nI_toInt (n := i) (by omega)] at q; exact q
    refine lv_aload_n hx hb dX1_goThrough_69 rfl (lv_at hl 1 rfl) ?_
    obtain ⟨a1_32, rfl⟩ := hc3
    have G : zS T A s.heap s [[(dy, .inr (2, [.int dd, .ref a1_24, .ref a2_25, .ref a3_26])), (a1_24, .inl (T.2 0, 40, .inl d1)), (a2_25, .inl (T.2 0, 40, .inl d2)), (a3_26, .inl (T.2 0, 40, .inl d3))], [(h, .inr (1, [.ref po, .ref a1_32, .int y0, .ref o, .int y1, .int y2, .int y3, .int y4, .int y5, .int y6, .int y7]))], [(a1_32, .inl (T.2 0, 7, .inl xw))], wp3, [(o, .inr (4, [.int cr, .int inn, .ref a1_20, .ref a2_21, .ref a3_22, .ref a4_23])), (a1_20, .inl (T.2 0, 7, .inl k1)), (a2_21, .inl (T.2 0, 28, .inl k2)), (a3_22, .inl (T.2 0, 7, .inl k3)), (a4_23, .inl (T.2 0, 7, .inl k4))]] _ _ := G.re rfl
    refine z_get C G clX1 1 rfl 5 (by decide) m_fl_RX1_41 rfl dX1_goThrough_70 ?_
    have hw_33 : bCourse T h po o xw y0 y1 y2 y3 y4 y5 y6 y7 [(h, .inr (1, [.ref po, .ref a1_32, .int y0, .ref o, .int y1, .int y2, .int y3, .int y4, .int y5, .int y6, .int y7])), (a1_32, .inl (T.2 0, 7, .inl xw))] := ⟨a1_32, rfl⟩
    have G : zS T A s.heap s [[(dy, .inr (2, [.int dd, .ref a1_24, .ref a2_25, .ref a3_26])), (a1_24, .inl (T.2 0, 40, .inl d1)), (a2_25, .inl (T.2 0, 40, .inl d2)), (a3_26, .inl (T.2 0, 40, .inl d3))], [(h, .inr (1, [.ref po, .ref a1_32, .int y0, .ref o, .int y1, .int y2, .int y3, .int y4, .int y5, .int y6, .int y7])), (a1_32, .inl (T.2 0, 7, .inl xw))], wp3, [(o, .inr (4, [.int cr, .int inn, .ref a1_20, .ref a2_21, .ref a3_22, .ref a4_23])), (a1_20, .inl (T.2 0, 7, .inl k1)), (a2_21, .inl (T.2 0, 28, .inl k2)), (a3_22, .inl (T.2 0, 7, .inl k3)), (a4_23, .inl (T.2 0, 7, .inl k4))]] _ _ := G.re rfl
    have G := G.sub (bs' := [[(h, .inr (1, [.ref po, .ref a1_32, .int y0, .ref o, .int y1, .int y2, .int y3, .int y4, .int y5, .int y6, .int y7])), (a1_32, .inl (T.2 0, 7, .inl xw))], wp3, [(o, .inr (4, [.int cr, .int inn, .ref a1_20, .ref a2_21, .ref a3_22, .ref a4_23])), (a1_20, .inl (T.2 0, 7, .inl k1)), (a2_21, .inl (T.2 0, 28, .inl k2)), (a3_22, .inl (T.2 0, 7, .inl k3)), (a4_23, .inl (T.2 0, 7, .inl k4))], [(dy, .inr (2, [.int dd, .ref a1_24, .ref a2_25, .ref a3_26])), (a1_24, .inl (T.2 0, 40, .inl d1)), (a2_25, .inl (T.2 0, 40, .inl d2)), (a3_26, .inl (T.2 0, 40, .inl d3))]]) [1, 2, 3, 0] rfl
    exact z_iret C hr hlocks G (Nat.le_of_ble_eq_true rfl) (Nat.le_of_ble_eq_true rfl) dX1_goThrough_73 ⟨([(h, .inr (1, [.ref po, .ref a1_32, .int y0, .ref o, .int y1, .int y2, .int y3, .int y4, .int y5, .int y6, .int y7])), (a1_32, .inl (T.2 0, 7, .inl xw))]), xw, y0, y1, y2, y3, y4, y5, y6, y7, wp3, x1, x2, g3_7, sb, wb, rfl, hw_33, hp3, hQx, ⟨g1_5, g2_6, g3_7, gw_2, ⟨hQ, h_12, h_13, h_14, h_10⟩, (hy2.trans (congrArg (fun q => nI q.1) (hR9.symm.trans (hR.trans (zDayN_z (by omega))))).symm), ((congrArg (fun q => q.2) (hR9.symm.trans (hR.trans (zDayN_z (by omega))))).symm)⟩⟩
  · have c_31n : ¬ n.toInt ≤ (i : Int) := fun q => c_31 ((fa_le _ _).mpr (by rw [nI_toInt (n := i) (by omega)]; exact q))
    refine lv_iload hx hb dX1_goThrough_14 (lv_at hl 0 rfl) ?_
    refine lv_aload_n hx hb dX1_goThrough_16 rfl (lv_at hl 3 rfl) ?_
    have G : zS T A s.heap s [[(dy, .inr (2, [.int dd, .ref a1_24, .ref a2_25, .ref a3_26]))], [(a1_24, .inl (T.2 0, 40, .inl d1))], [(a2_25, .inl (T.2 0, 40, .inl d2))], [(a3_26, .inl (T.2 0, 40, .inl d3))], wc3, wp3, [(o, .inr (4, [.int cr, .int inn, .ref a1_20, .ref a2_21, .ref a3_22, .ref a4_23])), (a1_20, .inl (T.2 0, 7, .inl k1)), (a2_21, .inl (T.2 0, 28, .inl k2)), (a3_22, .inl (T.2 0, 7, .inl k3)), (a4_23, .inl (T.2 0, 7, .inl k4))]] _ _ := G.re rfl
    refine z_get C G clX2 0 rfl 0 (by decide) m_fl_RX1_60 rfl dX1_goThrough_17 ?_
    refine lv_icmp_ge (tgt := 69) hx hb dX1_goThrough_20 (by decide) (fun c_34 => ?_) (fun c_34 => ?_)
    · have c_34n : dd.toInt ≤ (i : Int) := by have q := (fa_le _ _).mp c_34; rw [nI_toInt (n := i) (by omega)] at q; exact q
      refine lv_aload_n hx hb dX1_goThrough_69 rfl (lv_at hl 1 rfl) ?_
      obtain ⟨a1_35, rfl⟩ := hc3
      have G : zS T A s.heap s [[(dy, .inr (2, [.int dd, .ref a1_24, .ref a2_25, .ref a3_26]))], [(a1_24, .inl (T.2 0, 40, .inl d1))], [(a2_25, .inl (T.2 0, 40, .inl d2))], [(a3_26, .inl (T.2 0, 40, .inl d3))], [(h, .inr (1, [.ref po, .ref a1_35, .int y0, .ref o, .int y1, .int y2, .int y3, .int y4, .int y5, .int y6, .int y7]))], [(a1_35, .inl (T.2 0, 7, .inl xw))], wp3, [(o, .inr (4, [.int cr, .int inn, .ref a1_20, .ref a2_21, .ref a3_22, .ref a4_23])), (a1_20, .inl (T.2 0, 7, .inl k1)), (a2_21, .inl (T.2 0, 28, .inl k2)), (a3_22, .inl (T.2 0, 7, .inl k3)), (a4_23, .inl (T.2 0, 7, .inl k4))]] _ _ := G.re rfl
      refine z_get C G clX1 4 rfl 5 (by decide) m_fl_RX1_41 rfl dX1_goThrough_70 ?_
      have hw_36 : bCourse T h po o xw y0 y1 y2 y3 y4 y5 y6 y7 [(h, .inr (1, [.ref po, .ref a1_35, .int y0, .ref o, .int y1, .int y2, .int y3, .int y4, .int y5, .int y6, .int y7])), (a1_35, .inl (T.2 0, 7, .inl xw))] := ⟨a1_35, rfl⟩
      have G : zS T A s.heap s [[(dy, .inr (2, [.int dd, .ref a1_24, .ref a2_25, .ref a3_26]))], [(a1_24, .inl (T.2 0, 40, .inl d1))], [(a2_25, .inl (T.2 0, 40, .inl d2))], [(a3_26, .inl (T.2 0, 40, .inl d3))], [(h, .inr (1, [.ref po, .ref a1_35, .int y0, .ref o, .int y1, .int y2, .int y3, .int y4, .int y5, .int y6, .int y7])), (a1_35, .inl (T.2 0, 7, .inl xw))], wp3, [(o, .inr (4, [.int cr, .int inn, .ref a1_20, .ref a2_21, .ref a3_22, .ref a4_23])), (a1_20, .inl (T.2 0, 7, .inl k1)), (a2_21, .inl (T.2 0, 28, .inl k2)), (a3_22, .inl (T.2 0, 7, .inl k3)), (a4_23, .inl (T.2 0, 7, .inl k4))]] _ _ := G.re rfl
      have hw_37 : bDay T dy dd d1 d2 d3 [(dy, .inr (2, [.int dd, .ref a1_24, .ref a2_25, .ref a3_26])), (a1_24, .inl (T.2 0, 40, .inl d1)), (a2_25, .inl (T.2 0, 40, .inl d2)), (a3_26, .inl (T.2 0, 40, .inl d3))] := ⟨a1_24, a2_25, a3_26, rfl⟩
      have G : zS T A s.heap s [[(dy, .inr (2, [.int dd, .ref a1_24, .ref a2_25, .ref a3_26])), (a1_24, .inl (T.2 0, 40, .inl d1)), (a2_25, .inl (T.2 0, 40, .inl d2)), (a3_26, .inl (T.2 0, 40, .inl d3))], [(h, .inr (1, [.ref po, .ref a1_35, .int y0, .ref o, .int y1, .int y2, .int y3, .int y4, .int y5, .int y6, .int y7])), (a1_35, .inl (T.2 0, 7, .inl xw))], wp3, [(o, .inr (4, [.int cr, .int inn, .ref a1_20, .ref a2_21, .ref a3_22, .ref a4_23])), (a1_20, .inl (T.2 0, 7, .inl k1)), (a2_21, .inl (T.2 0, 28, .inl k2)), (a3_22, .inl (T.2 0, 7, .inl k3)), (a4_23, .inl (T.2 0, 7, .inl k4))]] _ _ := G.re rfl
      have G := G.sub (bs' := [[(h, .inr (1, [.ref po, .ref a1_35, .int y0, .ref o, .int y1, .int y2, .int y3, .int y4, .int y5, .int y6, .int y7])), (a1_35, .inl (T.2 0, 7, .inl xw))], wp3, [(o, .inr (4, [.int cr, .int inn, .ref a1_20, .ref a2_21, .ref a3_22, .ref a4_23])), (a1_20, .inl (T.2 0, 7, .inl k1)), (a2_21, .inl (T.2 0, 28, .inl k2)), (a3_22, .inl (T.2 0, 7, .inl k3)), (a4_23, .inl (T.2 0, 7, .inl k4))], [(dy, .inr (2, [.int dd, .ref a1_24, .ref a2_25, .ref a3_26])), (a1_24, .inl (T.2 0, 40, .inl d1)), (a2_25, .inl (T.2 0, 40, .inl d2)), (a3_26, .inl (T.2 0, 40, .inl d3))]]) [1, 2, 3, 0] rfl
      exact z_iret C hr hlocks G (Nat.le_of_ble_eq_true rfl) (Nat.le_of_ble_eq_true rfl) dX1_goThrough_73 ⟨([(h, .inr (1, [.ref po, .ref a1_35, .int y0, .ref o, .int y1, .int y2, .int y3, .int y4, .int y5, .int y6, .int y7])), (a1_35, .inl (T.2 0, 7, .inl xw))]), xw, y0, y1, y2, y3, y4, y5, y6, y7, wp3, x1, x2, g3_7, sb, wb, rfl, hw_36, hp3, hQx, ⟨g1_5, g2_6, g3_7, gw_2, ⟨hQ, h_12, h_13, h_14, h_10⟩, (hy2.trans (congrArg (fun q => nI q.1) (hR9.symm.trans (hR.trans (zDayN_z (by omega))))).symm), ((congrArg (fun q => q.2) (hR9.symm.trans (hR.trans (zDayN_z (by omega))))).symm)⟩⟩
    · have c_34n : ¬ dd.toInt ≤ (i : Int) := fun q => c_34 ((fa_le _ _).mpr (by rw [nI_toInt (n := i) (by omega)]; exact q))
      refine lv_iload hx hb dX1_goThrough_23 (lv_at hl 0 rfl) ?_
      refine lv_bipush (v := 40) hx hb dX1_goThrough_25 (by decide) ?_
      refine lv_icmp_ge (tgt := 69) hx hb dX1_goThrough_27 (by decide) (fun c_38 => ?_) (fun c_38 => ?_)
      · have c_38n : 40 ≤ i := (nI_leI (a := 40) (b := i) (by omega) (by omega)).mp c_38
        refine lv_aload_n hx hb dX1_goThrough_69 rfl (lv_at hl 1 rfl) ?_
        obtain ⟨a1_39, rfl⟩ := hc3
        have G : zS T A s.heap s [[(dy, .inr (2, [.int dd, .ref a1_24, .ref a2_25, .ref a3_26]))], [(a1_24, .inl (T.2 0, 40, .inl d1))], [(a2_25, .inl (T.2 0, 40, .inl d2))], [(a3_26, .inl (T.2 0, 40, .inl d3))], [(h, .inr (1, [.ref po, .ref a1_39, .int y0, .ref o, .int y1, .int y2, .int y3, .int y4, .int y5, .int y6, .int y7]))], [(a1_39, .inl (T.2 0, 7, .inl xw))], wp3, [(o, .inr (4, [.int cr, .int inn, .ref a1_20, .ref a2_21, .ref a3_22, .ref a4_23])), (a1_20, .inl (T.2 0, 7, .inl k1)), (a2_21, .inl (T.2 0, 28, .inl k2)), (a3_22, .inl (T.2 0, 7, .inl k3)), (a4_23, .inl (T.2 0, 7, .inl k4))]] _ _ := G.re rfl
        refine z_get C G clX1 4 rfl 5 (by decide) m_fl_RX1_41 rfl dX1_goThrough_70 ?_
        have hw_40 : bCourse T h po o xw y0 y1 y2 y3 y4 y5 y6 y7 [(h, .inr (1, [.ref po, .ref a1_39, .int y0, .ref o, .int y1, .int y2, .int y3, .int y4, .int y5, .int y6, .int y7])), (a1_39, .inl (T.2 0, 7, .inl xw))] := ⟨a1_39, rfl⟩
        have G : zS T A s.heap s [[(dy, .inr (2, [.int dd, .ref a1_24, .ref a2_25, .ref a3_26]))], [(a1_24, .inl (T.2 0, 40, .inl d1))], [(a2_25, .inl (T.2 0, 40, .inl d2))], [(a3_26, .inl (T.2 0, 40, .inl d3))], [(h, .inr (1, [.ref po, .ref a1_39, .int y0, .ref o, .int y1, .int y2, .int y3, .int y4, .int y5, .int y6, .int y7])), (a1_39, .inl (T.2 0, 7, .inl xw))], wp3, [(o, .inr (4, [.int cr, .int inn, .ref a1_20, .ref a2_21, .ref a3_22, .ref a4_23])), (a1_20, .inl (T.2 0, 7, .inl k1)), (a2_21, .inl (T.2 0, 28, .inl k2)), (a3_22, .inl (T.2 0, 7, .inl k3)), (a4_23, .inl (T.2 0, 7, .inl k4))]] _ _ := G.re rfl
        have hw_41 : bDay T dy dd d1 d2 d3 [(dy, .inr (2, [.int dd, .ref a1_24, .ref a2_25, .ref a3_26])), (a1_24, .inl (T.2 0, 40, .inl d1)), (a2_25, .inl (T.2 0, 40, .inl d2)), (a3_26, .inl (T.2 0, 40, .inl d3))] := ⟨a1_24, a2_25, a3_26, rfl⟩
        have G : zS T A s.heap s [[(dy, .inr (2, [.int dd, .ref a1_24, .ref a2_25, .ref a3_26])), (a1_24, .inl (T.2 0, 40, .inl d1)), (a2_25, .inl (T.2 0, 40, .inl d2)), (a3_26, .inl (T.2 0, 40, .inl d3))], [(h, .inr (1, [.ref po, .ref a1_39, .int y0, .ref o, .int y1, .int y2, .int y3, .int y4, .int y5, .int y6, .int y7])), (a1_39, .inl (T.2 0, 7, .inl xw))], wp3, [(o, .inr (4, [.int cr, .int inn, .ref a1_20, .ref a2_21, .ref a3_22, .ref a4_23])), (a1_20, .inl (T.2 0, 7, .inl k1)), (a2_21, .inl (T.2 0, 28, .inl k2)), (a3_22, .inl (T.2 0, 7, .inl k3)), (a4_23, .inl (T.2 0, 7, .inl k4))]] _ _ := G.re rfl
        have G := G.sub (bs' := [[(h, .inr (1, [.ref po, .ref a1_39, .int y0, .ref o, .int y1, .int y2, .int y3, .int y4, .int y5, .int y6, .int y7])), (a1_39, .inl (T.2 0, 7, .inl xw))], wp3, [(o, .inr (4, [.int cr, .int inn, .ref a1_20, .ref a2_21, .ref a3_22, .ref a4_23])), (a1_20, .inl (T.2 0, 7, .inl k1)), (a2_21, .inl (T.2 0, 28, .inl k2)), (a3_22, .inl (T.2 0, 7, .inl k3)), (a4_23, .inl (T.2 0, 7, .inl k4))], [(dy, .inr (2, [.int dd, .ref a1_24, .ref a2_25, .ref a3_26])), (a1_24, .inl (T.2 0, 40, .inl d1)), (a2_25, .inl (T.2 0, 40, .inl d2)), (a3_26, .inl (T.2 0, 40, .inl d3))]]) [1, 2, 3, 0] rfl
        exact z_iret C hr hlocks G (Nat.le_of_ble_eq_true rfl) (Nat.le_of_ble_eq_true rfl) dX1_goThrough_73 ⟨([(h, .inr (1, [.ref po, .ref a1_39, .int y0, .ref o, .int y1, .int y2, .int y3, .int y4, .int y5, .int y6, .int y7])), (a1_39, .inl (T.2 0, 7, .inl xw))]), xw, y0, y1, y2, y3, y4, y5, y6, y7, wp3, x1, x2, g3_7, sb, wb, rfl, hw_40, hp3, hQx, ⟨g1_5, g2_6, g3_7, gw_2, ⟨hQ, h_12, h_13, h_14, h_10⟩, (hy2.trans (congrArg (fun q => nI q.1) (hR9.symm.trans (hR.trans (zDayN_z (by omega))))).symm), ((congrArg (fun q => q.2) (hR9.symm.trans (hR.trans (zDayN_z (by omega))))).symm)⟩⟩
      · have c_38n : ¬ 40 ≤ i := fun q => c_38 ((nI_leI (a := 40) (b := i) (by omega) (by omega)).mpr q)
        refine lv_aload_n hx hb dX1_goThrough_30 rfl (lv_at hl 1 rfl) ?_
        refine lv_aload_n hx hb dX1_goThrough_31 rfl (lv_at hl 3 rfl) ?_
        refine z_get C G clX2 0 rfl 1 (by decide) m_fl_RX1_65 rfl dX1_goThrough_32 ?_
        refine lv_iload hx hb dX1_goThrough_35 (lv_at hl 0 rfl) ?_
        refine z_ild C G 1 rfl (vp_in_nI (by omega) (by omega)) dX1_goThrough_37 ?_
        refine lv_topi (fun v_42 ev_42 => ?_)
        rw [nI_clamp (by omega)] at ev_42
        subst ev_42
        refine lv_aload_n hx hb dX1_goThrough_38 rfl (lv_at hl 3 rfl) ?_
        refine z_get C G clX2 0 rfl 2 (by decide) m_fl_RX1_68 rfl dX1_goThrough_39 ?_
        refine lv_iload hx hb dX1_goThrough_42 (lv_at hl 0 rfl) ?_
        refine z_ild C G 2 rfl (vp_in_nI (by omega) (by omega)) dX1_goThrough_44 ?_
        refine lv_topi (fun v_43 ev_43 => ?_)
        rw [nI_clamp (by omega)] at ev_43
        subst ev_43
        refine lv_aload_n hx hb dX1_goThrough_45 rfl (lv_at hl 3 rfl) ?_
        refine z_get C G clX2 0 rfl 3 (by decide) m_fl_RX1_71 rfl dX1_goThrough_46 ?_
        refine lv_iload hx hb dX1_goThrough_49 (lv_at hl 0 rfl) ?_
        refine z_ild C G 3 rfl (vp_in_nI (by omega) (by omega)) dX1_goThrough_51 ?_
        refine lv_topi (fun v_44 ev_44 => ?_)
        rw [nI_clamp (by omega)] at ev_44
        subst ev_44
        refine z_Vi (bc := [wc3, wp3, [(o, .inr (4, [.int cr, .int inn, .ref a1_20, .ref a2_21, .ref a3_22, .ref a4_23])), (a1_20, .inl (T.2 0, 7, .inl k1)), (a2_21, .inl (T.2 0, 28, .inl k2)), (a3_22, .inl (T.2 0, 7, .inl k3)), (a4_23, .inl (T.2 0, 7, .inl k4))]]) (br := [[(dy, .inr (2, [.int dd, .ref a1_24, .ref a2_25, .ref a3_26]))], [(a1_24, .inl (T.2 0, 40, .inl d1))], [(a2_25, .inl (T.2 0, 40, .inl d2))], [(a3_26, .inl (T.2 0, 40, .inl d3))]]) (As := [.int (d1 i), .int (d2 i), .int (d3 i)]) (rest := []) C G (c_f_does l T h po o xw y0 y1 y2 y3 y4 y5 y6 y7 wc3 x1 x2 g3_7 sb wb wp3 cr inn k1 k2 k3 k4 ([(o, .inr (4, [.int cr, .int inn, .ref a1_20, .ref a2_21, .ref a3_22, .ref a4_23])), (a1_20, .inl (T.2 0, 7, .inl k1)), (a2_21, .inl (T.2 0, 28, .inl k2)), (a3_22, .inl (T.2 0, 7, .inl k3)), (a4_23, .inl (T.2 0, 7, .inl k4))]) (d1 i) (d2 i) (d3 i) hc3 hp3 hw_29 hQx hI hW hLq) (kV_RX1_74 C.2.2.2.2 (Nat.le_of_ble_eq_true rfl) (Nat.le_of_ble_eq_true rfl)) [4, 5, 6] [0, 1, 2, 3] rfl rfl (ci := 1) (qc := (RX1, TX1, 11)) rfl rfl (List.mem_flatten.mpr ⟨_, List.mem_of_getElem? (i := 0) rfl, (bCourse_mem hc3).choose_spec⟩) rfl rfl hl.1 dX1_goThrough_52 (Nat.le_of_ble_eq_true rfl) (Nat.le_of_ble_eq_true rfl) (fun r_65 b1 H locs hw G => ?_)
        obtain ⟨wc2_45, gw_46, u0_47, u1_48, u2_49, u3_50, u4_51, u5_52, u6_53, u7_54, wp2_55, g1_56, g2_57, sa_58, wa_59, rfl, h_60, h_61, h_62, h_63, h_64⟩ := hw
        have G : zS T A s.heap s [[(dy, .inr (2, [.int dd, .ref a1_24, .ref a2_25, .ref a3_26]))], [(a1_24, .inl (T.2 0, 40, .inl d1))], [(a2_25, .inl (T.2 0, 40, .inl d2))], [(a3_26, .inl (T.2 0, 40, .inl d3))], wc2_45, wp2_55, [(o, .inr (4, [.int cr, .int inn, .ref a1_20, .ref a2_21, .ref a3_22, .ref a4_23])), (a1_20, .inl (T.2 0, 7, .inl k1)), (a2_21, .inl (T.2 0, 28, .inl k2)), (a3_22, .inl (T.2 0, 7, .inl k3)), (a4_23, .inl (T.2 0, 7, .inl k4))]] _ _ := G
        have hQ2 : zP3 g1_56 g3_7 := h_62
        refine lv_if_ne (tgt := 63) hx hb dX1_goThrough_55 (by decide) (fun c_66 => ?_) (fun c_66 => ?_)
        · have c_66n : ¬ r_65.toInt = (0 : Int) := fun q => c_66 ((fa_eq _ _).mpr q)
          have hs := (h_63).resolve_right (fun q8 => by have e8 : r_65.toInt = 0 := (by rw [q8.1]; rfl); omega)
          refine lv_iinc (v := nI (i + 1)) (lv' := [(4, .int (nI (i + 1))), (0, .ref h), (1, .ref o), (2, .ref dy), (3, .int n)]) hx hb dX1_goThrough_63 hl (k := 0) rfl (z_inc i 1) (by decide) rfl (fun ls hl => ?_)
          refine lv_goto (tgt := 8) hx hb dX1_goThrough_66 (by decide) ?_
          have hw_67 : bDay T dy dd d1 d2 d3 [(dy, .inr (2, [.int dd, .ref a1_24, .ref a2_25, .ref a3_26])), (a1_24, .inl (T.2 0, 40, .inl d1)), (a2_25, .inl (T.2 0, 40, .inl d2)), (a3_26, .inl (T.2 0, 40, .inl d3))] := ⟨a1_24, a2_25, a3_26, rfl⟩
          have G : zS T A s.heap s [[(dy, .inr (2, [.int dd, .ref a1_24, .ref a2_25, .ref a3_26])), (a1_24, .inl (T.2 0, 40, .inl d1)), (a2_25, .inl (T.2 0, 40, .inl d2)), (a3_26, .inl (T.2 0, 40, .inl d3))], wc2_45, wp2_55, [(o, .inr (4, [.int cr, .int inn, .ref a1_20, .ref a2_21, .ref a3_22, .ref a4_23])), (a1_20, .inl (T.2 0, 7, .inl k1)), (a2_21, .inl (T.2 0, 28, .inl k2)), (a3_22, .inl (T.2 0, 7, .inl k3)), (a4_23, .inl (T.2 0, 7, .inl k4))]] _ _ := G.re rfl
          exact ih_8 ((i + 1), wc2_45, gw_46, u0_47, u1_48, u2_49, u3_50, u4_51, u5_52, u6_53, u7_54, wp2_55, g1_56, g2_57, sa_58, wa_59) (show bCourse T h po o gw_46 u0_47 u1_48 u2_49 u3_50 u4_51 u5_52 u6_53 u7_54 wc2_45 ∧ bPosts T po o g1_56 g2_57 g3_7 sa_58 wa_59 wp2_55 ∧ (i + 1) ≤ 40 ∧ zP3 g1_56 g3_7 ∧ u2_49 = nI (i + 1) ∧ R9 = zDayN (fun k D => zDe cr inn g3_7 k1 k2 (d1 k) (d2 k) (d3 k) D) ((min (min n.toInt dd.toInt) 40).toNat - (i + 1)) (i + 1) (g1_56, g2_57, gw_46, u0_47, u1_48) from ⟨h_60, h_61, by omega, hQ2, hs.2.2.trans ((congrArg (fun q => q + 1) hy2).trans (zInc1 i)), (hR.trans (by rw [show (min (min n.toInt dd.toInt) 40).toNat - i = ((min (min n.toInt dd.toInt) 40).toNat - (i + 1)) + 1 by omega]; exact zDayN_s hs.2.1))⟩) (show 40 - (i + 1) < 40 - i from by omega) _ _ ls G (lv_sub hl [0, 1, 2, 3, 4] rfl)
        · have c_66n : r_65.toInt = (0 : Int) := (fa_eq _ _).mp c_66
          have hs := (h_63).resolve_left (fun q8 => by have e8 : r_65.toInt = 1 := (by rw [q8.1]; rfl); omega)
          refine lv_aload_n hx hb dX1_goThrough_58 rfl (lv_at hl 1 rfl) ?_
          obtain ⟨a1_68, rfl⟩ := h_60
          have G : zS T A s.heap s [[(dy, .inr (2, [.int dd, .ref a1_24, .ref a2_25, .ref a3_26]))], [(a1_24, .inl (T.2 0, 40, .inl d1))], [(a2_25, .inl (T.2 0, 40, .inl d2))], [(a3_26, .inl (T.2 0, 40, .inl d3))], [(h, .inr (1, [.ref po, .ref a1_68, .int u0_47, .ref o, .int u1_48, .int u2_49, .int u3_50, .int u4_51, .int u5_52, .int u6_53, .int u7_54]))], [(a1_68, .inl (T.2 0, 7, .inl gw_46))], wp2_55, [(o, .inr (4, [.int cr, .int inn, .ref a1_20, .ref a2_21, .ref a3_22, .ref a4_23])), (a1_20, .inl (T.2 0, 7, .inl k1)), (a2_21, .inl (T.2 0, 28, .inl k2)), (a3_22, .inl (T.2 0, 7, .inl k3)), (a4_23, .inl (T.2 0, 7, .inl k4))]] _ _ := G.re rfl
          refine z_get C G clX1 4 rfl 5 (by decide) m_fl_RX1_41 rfl dX1_goThrough_59 ?_
          have hw_69 : bDay T dy dd d1 d2 d3 [(dy, .inr (2, [.int dd, .ref a1_24, .ref a2_25, .ref a3_26])), (a1_24, .inl (T.2 0, 40, .inl d1)), (a2_25, .inl (T.2 0, 40, .inl d2)), (a3_26, .inl (T.2 0, 40, .inl d3))] := ⟨a1_24, a2_25, a3_26, rfl⟩
          have G : zS T A s.heap s [[(dy, .inr (2, [.int dd, .ref a1_24, .ref a2_25, .ref a3_26])), (a1_24, .inl (T.2 0, 40, .inl d1)), (a2_25, .inl (T.2 0, 40, .inl d2)), (a3_26, .inl (T.2 0, 40, .inl d3))], [(h, .inr (1, [.ref po, .ref a1_68, .int u0_47, .ref o, .int u1_48, .int u2_49, .int u3_50, .int u4_51, .int u5_52, .int u6_53, .int u7_54]))], [(a1_68, .inl (T.2 0, 7, .inl gw_46))], wp2_55, [(o, .inr (4, [.int cr, .int inn, .ref a1_20, .ref a2_21, .ref a3_22, .ref a4_23])), (a1_20, .inl (T.2 0, 7, .inl k1)), (a2_21, .inl (T.2 0, 28, .inl k2)), (a3_22, .inl (T.2 0, 7, .inl k3)), (a4_23, .inl (T.2 0, 7, .inl k4))]] _ _ := G.re rfl
          have hw_70 : bCourse T h po o gw_46 u0_47 u1_48 u2_49 u3_50 u4_51 u5_52 u6_53 u7_54 [(h, .inr (1, [.ref po, .ref a1_68, .int u0_47, .ref o, .int u1_48, .int u2_49, .int u3_50, .int u4_51, .int u5_52, .int u6_53, .int u7_54])), (a1_68, .inl (T.2 0, 7, .inl gw_46))] := ⟨a1_68, rfl⟩
          have G : zS T A s.heap s [[(dy, .inr (2, [.int dd, .ref a1_24, .ref a2_25, .ref a3_26])), (a1_24, .inl (T.2 0, 40, .inl d1)), (a2_25, .inl (T.2 0, 40, .inl d2)), (a3_26, .inl (T.2 0, 40, .inl d3))], [(h, .inr (1, [.ref po, .ref a1_68, .int u0_47, .ref o, .int u1_48, .int u2_49, .int u3_50, .int u4_51, .int u5_52, .int u6_53, .int u7_54])), (a1_68, .inl (T.2 0, 7, .inl gw_46))], wp2_55, [(o, .inr (4, [.int cr, .int inn, .ref a1_20, .ref a2_21, .ref a3_22, .ref a4_23])), (a1_20, .inl (T.2 0, 7, .inl k1)), (a2_21, .inl (T.2 0, 28, .inl k2)), (a3_22, .inl (T.2 0, 7, .inl k3)), (a4_23, .inl (T.2 0, 7, .inl k4))]] _ _ := G.re rfl
          have G := G.sub (bs' := [[(h, .inr (1, [.ref po, .ref a1_68, .int u0_47, .ref o, .int u1_48, .int u2_49, .int u3_50, .int u4_51, .int u5_52, .int u6_53, .int u7_54])), (a1_68, .inl (T.2 0, 7, .inl gw_46))], wp2_55, [(o, .inr (4, [.int cr, .int inn, .ref a1_20, .ref a2_21, .ref a3_22, .ref a4_23])), (a1_20, .inl (T.2 0, 7, .inl k1)), (a2_21, .inl (T.2 0, 28, .inl k2)), (a3_22, .inl (T.2 0, 7, .inl k3)), (a4_23, .inl (T.2 0, 7, .inl k4))], [(dy, .inr (2, [.int dd, .ref a1_24, .ref a2_25, .ref a3_26])), (a1_24, .inl (T.2 0, 40, .inl d1)), (a2_25, .inl (T.2 0, 40, .inl d2)), (a3_26, .inl (T.2 0, 40, .inl d3))]]) [1, 2, 3, 0] rfl
          exact z_iret C hr hlocks G (Nat.le_of_ble_eq_true rfl) (Nat.le_of_ble_eq_true rfl) dX1_goThrough_62 ⟨([(h, .inr (1, [.ref po, .ref a1_68, .int u0_47, .ref o, .int u1_48, .int u2_49, .int u3_50, .int u4_51, .int u5_52, .int u6_53, .int u7_54])), (a1_68, .inl (T.2 0, 7, .inl gw_46))]), gw_46, u0_47, u1_48, u2_49, u3_50, u4_51, u5_52, u6_53, u7_54, wp2_55, g1_56, g2_57, g3_7, sa_58, wa_59, rfl, hw_70, h_61, hQ2, ⟨g1_5, g2_6, g3_7, gw_2, ⟨hQ, h_12, h_13, h_14, h_10⟩, (by rw [← hR9, hR.trans (zDayN_n hs.2.1)]; exact hs.2.2.2.2.2.2.2.trans hy2), (by rw [← hR9, hR.trans (zDayN_n hs.2.1)]; rw [hs.2.2.1, hs.2.2.2.1, hs.2.2.2.2.1, hs.2.2.2.2.2.1, hs.2.2.2.2.2.2.1])⟩⟩


def zMw (md wy cr inn : Int32) (k1 : Nat → Int32) : Int32 := if md = 0 then zWy cr inn k1 else wy
def zMk (md : Int32) (n : Nat) (pl : Int32) : Nat := if md = 0 then zNl n pl else n
theorem zMk_pw {md : Int32} {n : Nat} {pl : Int32} (h : zPw n) : zPw (zMk md n pl) := by
  unfold zMk
  split
  · exact zNl_pw h
  · exact h
theorem z_mul4 {x y : Int32} {M : Int} (hx : 1 ≤ x.toInt ∧ x.toInt ≤ M) (hy : 1 ≤ y.toInt ∧ y.toInt ≤ 4) (hM : M * 4 < 2147483648) : 1 ≤ (x * y).toInt ∧ (x * y).toInt ≤ M * 4 := by
  have h1 : x.toInt * y.toInt ≤ M * 4 := Int.mul_le_mul hx.2 hy.2 (by omega) (by omega)
  have h0 : 1 * 1 ≤ x.toInt * y.toInt := Int.mul_le_mul hx.1 hy.1 (by omega) (by omega)
  rw [z_imulI (by omega) (by omega)]
  omega
theorem zCh_in {cr inn : Int32} {k1 k3 : Nat → Int32} (hI : zLI cr k1 k3) (x : Int32) : 1 ≤ (zCh cr inn k1 x).toInt ∧ (zCh cr inn k1 x).toInt ≤ 4 := by
  have h := zWays_le (inn := inn) hI x
  unfold zCh
  split
  · decide
  · rename_i q
    have h1 : ¬ (zWays cr inn k1 x).toInt < 1 := fun z => q ((fa_lt _ _).mpr z)
    omega
theorem zWy_in {cr inn : Int32} {k1 k3 : Nat → Int32} (hI : zLI cr k1 k3) : 1 ≤ (zWy cr inn k1).toInt ∧ (zWy cr inn k1).toInt ≤ 16384 := by
  have c := fun x => zCh_in (inn := inn) hI x
  have h1 := z_mul4 (x := 1) (M := 1) (by decide) (c 6) (by decide)
  have h2 := z_mul4 h1 (c 5) (by decide)
  have h3 := z_mul4 h2 (c 4) (by decide)
  have h4 := z_mul4 h3 (c 3) (by decide)
  have h5 := z_mul4 h4 (c 2) (by decide)
  have h6 := z_mul4 h5 (c 1) (by decide)
  have h7 := z_mul4 h6 (c 0) (by decide)
  exact ⟨h7.1, Int.le_trans h7.2 (by decide)⟩
/-- how long the rows of what fits are made -/
def zFnN (wy : Int32) : Nat → Nat → Nat
  | 0, L => L
  | k + 1, L => if (L : Int) < wy.toInt ∧ L ≤ 16383 then zFnN wy k (2 * L) else L
def zFl (n : Nat) (wy : Int32) : Nat := if wy.toInt ≤ n then n else zFnN wy 11 16
def zFw (n : Nat) : Prop := n = 0 ∨ ∃ k, k ≤ 10 ∧ n = 16 * 2 ^ k
theorem zFnN_pw {wy : Int32} : ∀ (f k : Nat), k ≤ 10 → 10 ≤ f + k → ∃ j, k ≤ j ∧ j ≤ 10 ∧ zFnN wy f (16 * 2 ^ k) = 16 * 2 ^ j
  | 0, k, h, h2 => ⟨k, Nat.le_refl _, h, rfl⟩
  | f + 1, k, h, h2 => by
    rw [zFnN]
    split
    · rename_i q
      have hk : k < 10 := by
        rcases Nat.lt_or_ge k 10 with z | z
        · exact z
        · have e : k = 10 := by omega
          subst e
          exact absurd q.2 (by decide)
      rw [show 2 * (16 * 2 ^ k) = 16 * 2 ^ (k + 1) by rw [Nat.pow_succ]; omega]
      obtain ⟨j, h3, h4, h5⟩ := zFnN_pw f (k + 1) (by omega) (by omega)
      exact ⟨j, by omega, h4, h5⟩
    · exact ⟨k, Nat.le_refl _, h, rfl⟩
theorem zFnN_ge {wy : Int32} (hp : wy.toInt ≤ 16384) : ∀ (f k : Nat), k ≤ 10 → 11 ≤ f + k → wy.toInt ≤ (zFnN wy f (16 * 2 ^ k) : Nat)
  | 0, k, h, h2 => by omega
  | f + 1, k, h, h2 => by
    rw [zFnN]
    split
    · rename_i q
      have hk : k < 10 := by
        rcases Nat.lt_or_ge k 10 with z | z
        · exact z
        · have e : k = 10 := by omega
          subst e
          exact absurd q.2 (by decide)
      rw [show 2 * (16 * 2 ^ k) = 16 * 2 ^ (k + 1) by rw [Nat.pow_succ]; omega]
      exact zFnN_ge hp f (k + 1) (by omega) (by omega)
    · rename_i q
      by_cases z : (16 * 2 ^ k : Nat) ≤ 16383
      · by_cases y : ((16 * 2 ^ k : Nat) : Int) < wy.toInt
        · exact absurd ⟨y, z⟩ q
        · omega
      · omega
theorem zFw_le {n : Nat} (h : zFw n) : n ≤ 16384 := by
  rcases h with h | ⟨k, h1, h2⟩
  · omega
  · have h3 : 2 ^ k ≤ 2 ^ 10 := Nat.pow_le_pow_right (by decide) h1
    rw [h2]
    omega
theorem zFl_pw {n : Nat} {wy : Int32} (h : zFw n) : zFw (zFl n wy) := by
  unfold zFl
  split
  · exact h
  · obtain ⟨j, h1, h2, h3⟩ := zFnN_pw (wy := wy) 11 0 (by decide) (by decide)
    exact Or.inr ⟨j, h2, h3⟩
theorem zFl_room {n : Nat} {wy : Int32} (h : zFw n) (hp : wy.toInt ≤ 16384) (hg : ¬ wy.toInt ≤ n) : 2 * n ≤ zFnN wy 11 16 := by
  have h0 := zFnN_ge hp 11 0 (by decide) (by decide)
  obtain ⟨j, h1, h2, h3⟩ := zFnN_pw (wy := wy) 11 0 (by decide) (by decide)
  have e : (16 * 2 ^ 0 : Nat) = 16 := by decide
  rw [e] at h0 h3
  rcases h with h | ⟨k, k1, k2⟩
  · omega
  · rw [h3] at h0 ⊢
    rw [k2] at hg ⊢
    have hlt : 16 * 2 ^ k < 16 * 2 ^ j := by omega
    have hkj : k < j := by
      rcases Nat.lt_or_ge k j with z | z
      · exact z
      · have := Nat.pow_le_pow_right (n := 2) (by decide) z
        omega
    have h5 : 2 ^ (k + 1) ≤ 2 ^ j := Nat.pow_le_pow_right (by decide) hkj
    rw [Nat.pow_succ] at h5
    omega
theorem z_k10 {k L : Nat} (hk : k ≤ 10) (hL : L = 16 * 2 ^ k) (h : L ≤ 16383) : k + 1 ≤ 10 := by
  rcases Nat.lt_or_ge k 10 with z | z
  · omega
  · have e : k = 10 := by omega
    subst e
    omega
theorem z_k10b {k L : Nat} (hk : k ≤ 10) (hL : L = 16 * 2 ^ k) (h : L ≤ 16383) : L * 2 ≤ 16384 := by
  have h1 := z_k10 hk hL h
  have h2 : 2 ^ (k + 1) ≤ 2 ^ 10 := Nat.pow_le_pow_right (by decide) h1
  rw [Nat.pow_succ] at h2
  omega
set_option maxHeartbeats 4000000 in
set_option maxRecDepth 100000 in
/-- make -/
theorem c_make (l : Launch) (T : zTy) (h : Nat) (la : Nat) (md : Int32) (wy : Int32) (pc_ : Int32) (f1 : Nat → Int32) (f2 : Nat → Int32) (f3 : Nat → Int32) (f4 : Nat → Int32) (f5 : Nat → Int32) (f6 : Nat → Int32) (n4 : Nat) (ww : va_W) (o : Nat) (cr : Int32) (inn : Int32) (k1 : Nat → Int32) (k2 : Nat → Int32) (k3 : Nat → Int32) (k4 : Nat → Int32) (z : va_W) (hww : bWays T h la md wy pc_ f1 f2 f3 f4 f5 f6 n4 ww) (hz : bLand T o cr inn k1 k2 k3 k4 z) (hI : zLI cr k1 k3) (hpw : zPw n4) (hmd : md = 0 ∨ la = o) (hwm : 0 ≤ wy.toInt ∧ wy.toInt ≤ 16384) : zMv l T yX0_make cX0_make 3 5 3 (6 * (zMk md n4 (zPl cr inn k1) - n4)) [.ref h, .ref o] [ww, z] (fun bs => ∃ (w2 : va_W) (m2 : Int32) (wy2 : Int32) (pc2 : Int32) (g1 : Nat → Int32) (g2 : Nat → Int32) (g4 : Nat → Int32) (g5 : Nat → Int32) (g6 : Nat → Int32), bs = [w2, z] ∧ bWays T h o m2 wy2 pc2 g1 g2 f3 g4 g5 g6 (zMk md n4 (zPl cr inn k1)) w2 ∧ ¬ m2 = 0 ∧ (0 ≤ wy2.toInt ∧ wy2.toInt ≤ 16384) ∧ wy2 = zMw md wy cr inn k1) := by
  refine zMv_of (own := RX0) (by decide) rfl (Nat.le_of_ble_eq_true rfl) ?_
  intro p e s m args below meth c A ls C hr hlocks hnm hAe G hl
  refine zHide (fun Q9 hQ9 => ?_)
  have hx := C.1
  have hb := C.2.1
  replace hmd : zHd (md = 0 ∨ la = o) := hmd
  have hl : lv_has ls 3 [(0, .ref h), (1, .ref o)] := hl
  refine lv_aload_n hx hb dX0_make_0 rfl (lv_at hl 0 rfl) ?_
  refine zEx6 hww ?_
  intro a1_1 a2_2 a3_3 a4_4 a5_5 a6_6 hbs9
  clear hww
  subst hbs9
  have G : zS T A s.heap s [[zO0 h md wy la pc_ a1_1 a2_2 a3_3 a4_4 a5_5 a6_6], [zAr T 0 a1_1 7 f1], [zAr T 0 a2_2 7 f2], [zAr T 0 a3_3 7 f3], [zAr T 0 a4_4 n4 f4], [zAr T 0 a5_5 n4 f5], [zAr T 0 a6_6 n4 f6], z] _ _ := G.re rfl
  refine z_get C G clX0 0 rfl 0 (by decide) m_fl_RX0_37 rfl dX0_make_1 ?_
  refine lv_if_eq (tgt := 8) hx hb dX0_make_4 (by decide) (fun c_7 => ?_) (fun c_7 => ?_)
  · have c_7n : md.toInt = (0 : Int) := (fa_eq _ _).mp c_7
    have hM : zMk md n4 (zPl cr inn k1) = zNl n4 (zPl cr inn k1) := by unfold zMk; rw [if_pos (by assumption)]
    have hpl := zPl_le cr inn k1
    have hpw2 := zNl_pw (pl := zPl cr inn k1) hpw
    have hn2 := zPw_le hpw2
    have hwi := zWy_in (inn := inn) hI
    refine lv_aload_n hx hb dX0_make_8 rfl (lv_at hl 0 rfl) ?_
    refine lv_aload_n hx hb dX0_make_9 rfl (lv_at hl 1 rfl) ?_
    have hw_8 : bWays T h la md wy pc_ f1 f2 f3 f4 f5 f6 n4 [zO0 h md wy la pc_ a1_1 a2_2 a3_3 a4_4 a5_5 a6_6, zAr T 0 a1_1 7 f1, zAr T 0 a2_2 7 f2, zAr T 0 a3_3 7 f3, zAr T 0 a4_4 n4 f4, zAr T 0 a5_5 n4 f5, zAr T 0 a6_6 n4 f6] := ⟨a1_1, a2_2, a3_3, a4_4, a5_5, a6_6, rfl⟩
    have G : zS T A s.heap s [[zO0 h md wy la pc_ a1_1 a2_2 a3_3 a4_4 a5_5 a6_6, zAr T 0 a1_1 7 f1, zAr T 0 a2_2 7 f2, zAr T 0 a3_3 7 f3, zAr T 0 a4_4 n4 f4, zAr T 0 a5_5 n4 f5, zAr T 0 a6_6 n4 f6], z] _ _ := G.re rfl
    refine z_Vv (bc := [[zO0 h md wy la pc_ a1_1 a2_2 a3_3 a4_4 a5_5 a6_6, zAr T 0 a1_1 7 f1, zAr T 0 a2_2 7 f2, zAr T 0 a3_3 7 f3, zAr T 0 a4_4 n4 f4, zAr T 0 a5_5 n4 f5, zAr T 0 a6_6 n4 f6], z]) (br := []) (As := [.ref o]) (rest := []) C G (c_countWays l T h la md wy pc_ f1 f2 f3 f4 f5 f6 n4 ([zO0 h md wy la pc_ a1_1 a2_2 a3_3 a4_4 a5_5 a6_6, zAr T 0 a1_1 7 f1, zAr T 0 a2_2 7 f2, zAr T 0 a3_3 7 f3, zAr T 0 a4_4 n4 f4, zAr T 0 a5_5 n4 f5, zAr T 0 a6_6 n4 f6]) o cr inn k1 k2 k3 k4 z hw_8 hz) (kV_RX0_41 C.2.2.2.2 (Nat.le_of_ble_eq_true rfl) (Nat.le_of_ble_eq_true rfl)) [0, 1] [0, 0] rfl rfl (ci := 0) (qc := (RX0, TX0, 10)) rfl rfl (List.mem_flatten.mpr ⟨_, List.mem_of_getElem? (i := 0) rfl, (bWays_mem hw_8).choose_spec⟩) rfl rfl hl.1 dX0_make_10 (by show _ + 0 ≤ 3; omega) (by show _ + 0 ≤ 6 * (zMk md n4 (zPl cr inn k1) - n4); omega) (fun b1 H locs hw G => ?_)
    refine zEx3 hw ?_
    intro w2_9 g1_10 g2_11
    refine zCu2 ?_
    intro hbs9 h_12
    clear hw
    subst hbs9
    have G : zS T A s.heap s [w2_9, z] _ _ := G
    refine lv_aload_n hx hb dX0_make_13 rfl (lv_at hl 0 rfl) ?_
    refine z_Vv (bc := [w2_9]) (br := [z]) (As := []) (rest := []) C G (c_Ways_grow l T h o md (zWy cr inn k1) (zPl cr inn k1) g1_10 g2_11 f3 f4 f5 f6 n4 w2_9 h_12 (by first | with_reducible assumption | with_reducible rfl | omega | assumption | rfl) (by first | with_reducible assumption | with_reducible rfl | omega | assumption | rfl)) (kV_RX0_45 C.2.2.2.2 (Nat.le_of_ble_eq_true rfl) (Nat.le_of_ble_eq_true rfl)) [0] [0] rfl rfl (ci := 0) (qc := (RX0, TX0, 10)) rfl rfl (List.mem_flatten.mpr ⟨_, List.mem_of_getElem? (i := 0) rfl, (bWays_mem h_12).choose_spec⟩) rfl rfl hl.1 dX0_make_14 (by show _ + 3 ≤ 3; omega) (by show _ + (6 * (zNl n4 (zPl cr inn k1) - n4)) ≤ 6 * (zMk md n4 (zPl cr inn k1) - n4); omega) (fun b1 H locs hw G => ?_)
    refine zEx4 hw ?_
    intro w2_14 g4_15 g5_16 g6_17
    refine zCu2 ?_
    intro hbs9 h_18
    clear hw
    subst hbs9
    have G : zS T A s.heap s [z, w2_14] _ _ := G
    refine lv_aload_n hx hb dX0_make_17 rfl (lv_at hl 0 rfl) ?_
    refine z_Vv (bc := [w2_14, z]) (br := []) (As := []) (rest := []) C G (c_stepOnce l T h o md (zWy cr inn k1) (zPl cr inn k1) g1_10 g2_11 f3 g4_15 g5_16 g6_17 (zNl n4 (zPl cr inn k1)) w2_14 cr inn k1 k2 k3 k4 z h_18 hz (by first | with_reducible assumption | with_reducible rfl | omega | assumption | rfl) (by first | with_reducible assumption | with_reducible rfl | omega | assumption | rfl) (by first | with_reducible assumption | with_reducible rfl | omega | assumption | rfl)) (kV_RX0_48 C.2.2.2.2 (Nat.le_of_ble_eq_true rfl) (Nat.le_of_ble_eq_true rfl)) [1, 0] [0, 0] rfl rfl (ci := 0) (qc := (RX0, TX0, 10)) rfl rfl (List.mem_flatten.mpr ⟨_, List.mem_of_getElem? (i := 0) rfl, (bWays_mem h_18).choose_spec⟩) rfl rfl hl.1 dX0_make_18 (by show _ + 0 ≤ 3; omega) (by show _ + 0 ≤ 6 * (zMk md n4 (zPl cr inn k1) - n4); omega) (fun b1 H locs hw G => ?_)
    refine zEx3 hw ?_
    intro w2_20 g4_21 g5_22
    refine zCu2 ?_
    intro hbs9 h_23
    clear hw
    subst hbs9
    have G : zS T A s.heap s [w2_20, z] _ _ := G
    refine lv_sipush (v := 128) hx hb dX0_make_21 (by decide) ?_
    refine lv_istore_n (lv' := [(2, .int 128), (0, .ref h), (1, .ref o)]) hx hb dX0_make_24 rfl hl (by decide) rfl (fun ls hl => ?_)
    refine lv_iload_n hx hb dX0_make_25 rfl (lv_at hl 0 rfl) ?_
    refine lv_if_le (tgt := 52) hx hb dX0_make_26 (by decide) (fun q => absurd q (by decide)) (fun _ => ?_)
    refine lv_aload_n hx hb dX0_make_29 rfl (lv_at hl 1 rfl) ?_
    refine z_Vv (bc := [w2_20]) (br := [z]) (As := []) (rest := []) C G (c_doubleAll l T h o md (zWy cr inn k1) (zPl cr inn k1) g1_10 g2_11 f3 g4_21 g5_22 g6_17 (zNl n4 (zPl cr inn k1)) w2_20 h_23 (by first | with_reducible assumption | with_reducible rfl | omega | assumption | rfl) (by first | with_reducible assumption | with_reducible rfl | omega | assumption | rfl)) (kV_RX0_51 C.2.2.2.2 (Nat.le_of_ble_eq_true rfl) (Nat.le_of_ble_eq_true rfl)) [0] [0] rfl rfl (ci := 0) (qc := (RX0, TX0, 10)) rfl rfl (List.mem_flatten.mpr ⟨_, List.mem_of_getElem? (i := 0) rfl, (bWays_mem h_23).choose_spec⟩) rfl rfl hl.1 dX0_make_30 (by show _ + 0 ≤ 3; omega) (by show _ + 0 ≤ 6 * (zMk md n4 (zPl cr inn k1) - n4); omega) (fun b1 H locs hw G => ?_)
    refine zEx3 hw ?_
    intro w2_25 g5_26 g6_27
    refine zCu2 ?_
    intro hbs9 h_28
    clear hw
    subst hbs9
    have G : zS T A s.heap s [z, w2_25] _ _ := G
    refine lv_sipush (v := 499) hx hb dX0_make_33 (by decide) ?_
    refine lv_iload_n hx hb dX0_make_36 rfl (lv_at hl 0 rfl) ?_
    refine lv_iand hx hb dX0_make_37 ?_
    refine lv_topi (fun y_30 ey_30 => ?_)
    obtain rfl : y_30 = 128 := ey_30.trans (by decide)
    refine lv_if_eq (tgt := 45) hx hb dX0_make_38 (by decide) (fun q => absurd q (by decide)) (fun _ => ?_)
    refine lv_aload_n hx hb dX0_make_41 rfl (lv_at hl 1 rfl) ?_
    refine z_Vv (bc := [w2_25]) (br := [z]) (As := []) (rest := []) C G (c_oneMore l T h o md (zWy cr inn k1) (zPl cr inn k1) g1_10 g2_11 f3 g4_21 g5_26 g6_27 (zNl n4 (zPl cr inn k1)) w2_25 h_28 (by first | with_reducible assumption | with_reducible rfl | omega | assumption | rfl) (by first | with_reducible assumption | with_reducible rfl | omega | assumption | rfl)) (kV_RX0_54 C.2.2.2.2 (Nat.le_of_ble_eq_true rfl) (Nat.le_of_ble_eq_true rfl)) [1] [1] rfl rfl (ci := 0) (qc := (RX0, TX0, 10)) rfl rfl (List.mem_flatten.mpr ⟨_, List.mem_of_getElem? (i := 0) rfl, (bWays_mem h_28).choose_spec⟩) rfl rfl hl.1 dX0_make_42 (by show _ + 0 ≤ 3; omega) (by show _ + 0 ≤ 6 * (zMk md n4 (zPl cr inn k1) - n4); omega) (fun b1 H locs hw G => ?_)
    refine zEx3 hw ?_
    intro w2_31 g5_32 g6_33
    refine zCu2 ?_
    intro hbs9 h_34
    clear hw
    subst hbs9
    have G : zS T A s.heap s [z, w2_31] _ _ := G
    refine lv_iload_n hx hb dX0_make_45 rfl (lv_at hl 0 rfl) ?_
    refine lv_iconst (v := 1) hx hb dX0_make_46 (by decide) ?_
    refine lv_ishr hx hb dX0_make_47 ?_
    refine lv_topi (fun y_36 ey_36 => ?_)
    obtain rfl : y_36 = 64 := ey_36.trans (by decide)
    refine lv_istore_n (lv' := [(2, .int 64), (0, .ref h), (1, .ref o)]) hx hb dX0_make_48 rfl hl (by decide) rfl (fun ls hl => ?_)
    refine lv_goto (tgt := 25) hx hb dX0_make_49 (by decide) ?_
    refine lv_iload_n hx hb dX0_make_25 rfl (lv_at hl 0 rfl) ?_
    refine lv_if_le (tgt := 52) hx hb dX0_make_26 (by decide) (fun q => absurd q (by decide)) (fun _ => ?_)
    refine lv_aload_n hx hb dX0_make_29 rfl (lv_at hl 1 rfl) ?_
    refine z_Vv (bc := [w2_31]) (br := [z]) (As := []) (rest := []) C G (c_doubleAll l T h o md (zWy cr inn k1) (zPl cr inn k1) g1_10 g2_11 f3 g4_21 g5_32 g6_33 (zNl n4 (zPl cr inn k1)) w2_31 h_34 (by first | with_reducible assumption | with_reducible rfl | omega | assumption | rfl) (by first | with_reducible assumption | with_reducible rfl | omega | assumption | rfl)) (kV_RX0_51 C.2.2.2.2 (Nat.le_of_ble_eq_true rfl) (Nat.le_of_ble_eq_true rfl)) [1] [1] rfl rfl (ci := 0) (qc := (RX0, TX0, 10)) rfl rfl (List.mem_flatten.mpr ⟨_, List.mem_of_getElem? (i := 0) rfl, (bWays_mem h_34).choose_spec⟩) rfl rfl hl.1 dX0_make_30 (by show _ + 0 ≤ 3; omega) (by show _ + 0 ≤ 6 * (zMk md n4 (zPl cr inn k1) - n4); omega) (fun b1 H locs hw G => ?_)
    refine zEx3 hw ?_
    intro w2_37 g5_38 g6_39
    refine zCu2 ?_
    intro hbs9 h_40
    clear hw
    subst hbs9
    have G : zS T A s.heap s [z, w2_37] _ _ := G
    refine lv_sipush (v := 499) hx hb dX0_make_33 (by decide) ?_
    refine lv_iload_n hx hb dX0_make_36 rfl (lv_at hl 0 rfl) ?_
    refine lv_iand hx hb dX0_make_37 ?_
    refine lv_topi (fun y_42 ey_42 => ?_)
    obtain rfl : y_42 = 64 := ey_42.trans (by decide)
    refine lv_if_eq (tgt := 45) hx hb dX0_make_38 (by decide) (fun q => absurd q (by decide)) (fun _ => ?_)
    refine lv_aload_n hx hb dX0_make_41 rfl (lv_at hl 1 rfl) ?_
    refine z_Vv (bc := [w2_37]) (br := [z]) (As := []) (rest := []) C G (c_oneMore l T h o md (zWy cr inn k1) (zPl cr inn k1) g1_10 g2_11 f3 g4_21 g5_38 g6_39 (zNl n4 (zPl cr inn k1)) w2_37 h_40 (by first | with_reducible assumption | with_reducible rfl | omega | assumption | rfl) (by first | with_reducible assumption | with_reducible rfl | omega | assumption | rfl)) (kV_RX0_54 C.2.2.2.2 (Nat.le_of_ble_eq_true rfl) (Nat.le_of_ble_eq_true rfl)) [1] [1] rfl rfl (ci := 0) (qc := (RX0, TX0, 10)) rfl rfl (List.mem_flatten.mpr ⟨_, List.mem_of_getElem? (i := 0) rfl, (bWays_mem h_40).choose_spec⟩) rfl rfl hl.1 dX0_make_42 (by show _ + 0 ≤ 3; omega) (by show _ + 0 ≤ 6 * (zMk md n4 (zPl cr inn k1) - n4); omega) (fun b1 H locs hw G => ?_)
    refine zEx3 hw ?_
    intro w2_43 g5_44 g6_45
    refine zCu2 ?_
    intro hbs9 h_46
    clear hw
    subst hbs9
    have G : zS T A s.heap s [z, w2_43] _ _ := G
    refine lv_iload_n hx hb dX0_make_45 rfl (lv_at hl 0 rfl) ?_
    refine lv_iconst (v := 1) hx hb dX0_make_46 (by decide) ?_
    refine lv_ishr hx hb dX0_make_47 ?_
    refine lv_topi (fun y_48 ey_48 => ?_)
    obtain rfl : y_48 = 32 := ey_48.trans (by decide)
    refine lv_istore_n (lv' := [(2, .int 32), (0, .ref h), (1, .ref o)]) hx hb dX0_make_48 rfl hl (by decide) rfl (fun ls hl => ?_)
    refine lv_goto (tgt := 25) hx hb dX0_make_49 (by decide) ?_
    refine lv_iload_n hx hb dX0_make_25 rfl (lv_at hl 0 rfl) ?_
    refine lv_if_le (tgt := 52) hx hb dX0_make_26 (by decide) (fun q => absurd q (by decide)) (fun _ => ?_)
    refine lv_aload_n hx hb dX0_make_29 rfl (lv_at hl 1 rfl) ?_
    refine z_Vv (bc := [w2_43]) (br := [z]) (As := []) (rest := []) C G (c_doubleAll l T h o md (zWy cr inn k1) (zPl cr inn k1) g1_10 g2_11 f3 g4_21 g5_44 g6_45 (zNl n4 (zPl cr inn k1)) w2_43 h_46 (by first | with_reducible assumption | with_reducible rfl | omega | assumption | rfl) (by first | with_reducible assumption | with_reducible rfl | omega | assumption | rfl)) (kV_RX0_51 C.2.2.2.2 (Nat.le_of_ble_eq_true rfl) (Nat.le_of_ble_eq_true rfl)) [1] [1] rfl rfl (ci := 0) (qc := (RX0, TX0, 10)) rfl rfl (List.mem_flatten.mpr ⟨_, List.mem_of_getElem? (i := 0) rfl, (bWays_mem h_46).choose_spec⟩) rfl rfl hl.1 dX0_make_30 (by show _ + 0 ≤ 3; omega) (by show _ + 0 ≤ 6 * (zMk md n4 (zPl cr inn k1) - n4); omega) (fun b1 H locs hw G => ?_)
    refine zEx3 hw ?_
    intro w2_49 g5_50 g6_51
    refine zCu2 ?_
    intro hbs9 h_52
    clear hw
    subst hbs9
    have G : zS T A s.heap s [z, w2_49] _ _ := G
    refine lv_sipush (v := 499) hx hb dX0_make_33 (by decide) ?_
    refine lv_iload_n hx hb dX0_make_36 rfl (lv_at hl 0 rfl) ?_
    refine lv_iand hx hb dX0_make_37 ?_
    refine lv_topi (fun y_54 ey_54 => ?_)
    obtain rfl : y_54 = 32 := ey_54.trans (by decide)
    refine lv_if_eq (tgt := 45) hx hb dX0_make_38 (by decide) (fun q => absurd q (by decide)) (fun _ => ?_)
    refine lv_aload_n hx hb dX0_make_41 rfl (lv_at hl 1 rfl) ?_
    refine z_Vv (bc := [w2_49]) (br := [z]) (As := []) (rest := []) C G (c_oneMore l T h o md (zWy cr inn k1) (zPl cr inn k1) g1_10 g2_11 f3 g4_21 g5_50 g6_51 (zNl n4 (zPl cr inn k1)) w2_49 h_52 (by first | with_reducible assumption | with_reducible rfl | omega | assumption | rfl) (by first | with_reducible assumption | with_reducible rfl | omega | assumption | rfl)) (kV_RX0_54 C.2.2.2.2 (Nat.le_of_ble_eq_true rfl) (Nat.le_of_ble_eq_true rfl)) [1] [1] rfl rfl (ci := 0) (qc := (RX0, TX0, 10)) rfl rfl (List.mem_flatten.mpr ⟨_, List.mem_of_getElem? (i := 0) rfl, (bWays_mem h_52).choose_spec⟩) rfl rfl hl.1 dX0_make_42 (by show _ + 0 ≤ 3; omega) (by show _ + 0 ≤ 6 * (zMk md n4 (zPl cr inn k1) - n4); omega) (fun b1 H locs hw G => ?_)
    refine zEx3 hw ?_
    intro w2_55 g5_56 g6_57
    refine zCu2 ?_
    intro hbs9 h_58
    clear hw
    subst hbs9
    have G : zS T A s.heap s [z, w2_55] _ _ := G
    refine lv_iload_n hx hb dX0_make_45 rfl (lv_at hl 0 rfl) ?_
    refine lv_iconst (v := 1) hx hb dX0_make_46 (by decide) ?_
    refine lv_ishr hx hb dX0_make_47 ?_
    refine lv_topi (fun y_60 ey_60 => ?_)
    obtain rfl : y_60 = 16 := ey_60.trans (by decide)
    refine lv_istore_n (lv' := [(2, .int 16), (0, .ref h), (1, .ref o)]) hx hb dX0_make_48 rfl hl (by decide) rfl (fun ls hl => ?_)
    refine lv_goto (tgt := 25) hx hb dX0_make_49 (by decide) ?_
    refine lv_iload_n hx hb dX0_make_25 rfl (lv_at hl 0 rfl) ?_
    refine lv_if_le (tgt := 52) hx hb dX0_make_26 (by decide) (fun q => absurd q (by decide)) (fun _ => ?_)
    refine lv_aload_n hx hb dX0_make_29 rfl (lv_at hl 1 rfl) ?_
    refine z_Vv (bc := [w2_55]) (br := [z]) (As := []) (rest := []) C G (c_doubleAll l T h o md (zWy cr inn k1) (zPl cr inn k1) g1_10 g2_11 f3 g4_21 g5_56 g6_57 (zNl n4 (zPl cr inn k1)) w2_55 h_58 (by first | with_reducible assumption | with_reducible rfl | omega | assumption | rfl) (by first | with_reducible assumption | with_reducible rfl | omega | assumption | rfl)) (kV_RX0_51 C.2.2.2.2 (Nat.le_of_ble_eq_true rfl) (Nat.le_of_ble_eq_true rfl)) [1] [1] rfl rfl (ci := 0) (qc := (RX0, TX0, 10)) rfl rfl (List.mem_flatten.mpr ⟨_, List.mem_of_getElem? (i := 0) rfl, (bWays_mem h_58).choose_spec⟩) rfl rfl hl.1 dX0_make_30 (by show _ + 0 ≤ 3; omega) (by show _ + 0 ≤ 6 * (zMk md n4 (zPl cr inn k1) - n4); omega) (fun b1 H locs hw G => ?_)
    refine zEx3 hw ?_
    intro w2_61 g5_62 g6_63
    refine zCu2 ?_
    intro hbs9 h_64
    clear hw
    subst hbs9
    have G : zS T A s.heap s [z, w2_61] _ _ := G
    refine lv_sipush (v := 499) hx hb dX0_make_33 (by decide) ?_
    refine lv_iload_n hx hb dX0_make_36 rfl (lv_at hl 0 rfl) ?_
    refine lv_iand hx hb dX0_make_37 ?_
    refine lv_topi (fun y_66 ey_66 => ?_)
    obtain rfl : y_66 = 16 := ey_66.trans (by decide)
    refine lv_if_eq (tgt := 45) hx hb dX0_make_38 (by decide) (fun q => absurd q (by decide)) (fun _ => ?_)
    refine lv_aload_n hx hb dX0_make_41 rfl (lv_at hl 1 rfl) ?_
    refine z_Vv (bc := [w2_61]) (br := [z]) (As := []) (rest := []) C G (c_oneMore l T h o md (zWy cr inn k1) (zPl cr inn k1) g1_10 g2_11 f3 g4_21 g5_62 g6_63 (zNl n4 (zPl cr inn k1)) w2_61 h_64 (by first | with_reducible assumption | with_reducible rfl | omega | assumption | rfl) (by first | with_reducible assumption | with_reducible rfl | omega | assumption | rfl)) (kV_RX0_54 C.2.2.2.2 (Nat.le_of_ble_eq_true rfl) (Nat.le_of_ble_eq_true rfl)) [1] [1] rfl rfl (ci := 0) (qc := (RX0, TX0, 10)) rfl rfl (List.mem_flatten.mpr ⟨_, List.mem_of_getElem? (i := 0) rfl, (bWays_mem h_64).choose_spec⟩) rfl rfl hl.1 dX0_make_42 (by show _ + 0 ≤ 3; omega) (by show _ + 0 ≤ 6 * (zMk md n4 (zPl cr inn k1) - n4); omega) (fun b1 H locs hw G => ?_)
    refine zEx3 hw ?_
    intro w2_67 g5_68 g6_69
    refine zCu2 ?_
    intro hbs9 h_70
    clear hw
    subst hbs9
    have G : zS T A s.heap s [z, w2_67] _ _ := G
    refine lv_iload_n hx hb dX0_make_45 rfl (lv_at hl 0 rfl) ?_
    refine lv_iconst (v := 1) hx hb dX0_make_46 (by decide) ?_
    refine lv_ishr hx hb dX0_make_47 ?_
    refine lv_topi (fun y_72 ey_72 => ?_)
    obtain rfl : y_72 = 8 := ey_72.trans (by decide)
    refine lv_istore_n (lv' := [(2, .int 8), (0, .ref h), (1, .ref o)]) hx hb dX0_make_48 rfl hl (by decide) rfl (fun ls hl => ?_)
    refine lv_goto (tgt := 25) hx hb dX0_make_49 (by decide) ?_
    refine lv_iload_n hx hb dX0_make_25 rfl (lv_at hl 0 rfl) ?_
    refine lv_if_le (tgt := 52) hx hb dX0_make_26 (by decide) (fun q => absurd q (by decide)) (fun _ => ?_)
    refine lv_aload_n hx hb dX0_make_29 rfl (lv_at hl 1 rfl) ?_
    refine z_Vv (bc := [w2_67]) (br := [z]) (As := []) (rest := []) C G (c_doubleAll l T h o md (zWy cr inn k1) (zPl cr inn k1) g1_10 g2_11 f3 g4_21 g5_68 g6_69 (zNl n4 (zPl cr inn k1)) w2_67 h_70 (by first | with_reducible assumption | with_reducible rfl | omega | assumption | rfl) (by first | with_reducible assumption | with_reducible rfl | omega | assumption | rfl)) (kV_RX0_51 C.2.2.2.2 (Nat.le_of_ble_eq_true rfl) (Nat.le_of_ble_eq_true rfl)) [1] [1] rfl rfl (ci := 0) (qc := (RX0, TX0, 10)) rfl rfl (List.mem_flatten.mpr ⟨_, List.mem_of_getElem? (i := 0) rfl, (bWays_mem h_70).choose_spec⟩) rfl rfl hl.1 dX0_make_30 (by show _ + 0 ≤ 3; omega) (by show _ + 0 ≤ 6 * (zMk md n4 (zPl cr inn k1) - n4); omega) (fun b1 H locs hw G => ?_)
    refine zEx3 hw ?_
    intro w2_73 g5_74 g6_75
    refine zCu2 ?_
    intro hbs9 h_76
    clear hw
    subst hbs9
    have G : zS T A s.heap s [z, w2_73] _ _ := G
    refine lv_sipush (v := 499) hx hb dX0_make_33 (by decide) ?_
    refine lv_iload_n hx hb dX0_make_36 rfl (lv_at hl 0 rfl) ?_
    refine lv_iand hx hb dX0_make_37 ?_
    refine lv_topi (fun y_78 ey_78 => ?_)
    obtain rfl : y_78 = 0 := ey_78.trans (by decide)
    refine lv_if_eq (tgt := 45) hx hb dX0_make_38 (by decide) (fun _ => ?_) (fun q => absurd (by decide) q)
    refine lv_iload_n hx hb dX0_make_45 rfl (lv_at hl 0 rfl) ?_
    refine lv_iconst (v := 1) hx hb dX0_make_46 (by decide) ?_
    refine lv_ishr hx hb dX0_make_47 ?_
    refine lv_topi (fun y_79 ey_79 => ?_)
    obtain rfl : y_79 = 4 := ey_79.trans (by decide)
    refine lv_istore_n (lv' := [(2, .int 4), (0, .ref h), (1, .ref o)]) hx hb dX0_make_48 rfl hl (by decide) rfl (fun ls hl => ?_)
    refine lv_goto (tgt := 25) hx hb dX0_make_49 (by decide) ?_
    refine lv_iload_n hx hb dX0_make_25 rfl (lv_at hl 0 rfl) ?_
    refine lv_if_le (tgt := 52) hx hb dX0_make_26 (by decide) (fun q => absurd q (by decide)) (fun _ => ?_)
    refine lv_aload_n hx hb dX0_make_29 rfl (lv_at hl 1 rfl) ?_
    refine z_Vv (bc := [w2_73]) (br := [z]) (As := []) (rest := []) C G (c_doubleAll l T h o md (zWy cr inn k1) (zPl cr inn k1) g1_10 g2_11 f3 g4_21 g5_74 g6_75 (zNl n4 (zPl cr inn k1)) w2_73 h_76 (by first | with_reducible assumption | with_reducible rfl | omega | assumption | rfl) (by first | with_reducible assumption | with_reducible rfl | omega | assumption | rfl)) (kV_RX0_51 C.2.2.2.2 (Nat.le_of_ble_eq_true rfl) (Nat.le_of_ble_eq_true rfl)) [1] [1] rfl rfl (ci := 0) (qc := (RX0, TX0, 10)) rfl rfl (List.mem_flatten.mpr ⟨_, List.mem_of_getElem? (i := 0) rfl, (bWays_mem h_76).choose_spec⟩) rfl rfl hl.1 dX0_make_30 (by show _ + 0 ≤ 3; omega) (by show _ + 0 ≤ 6 * (zMk md n4 (zPl cr inn k1) - n4); omega) (fun b1 H locs hw G => ?_)
    refine zEx3 hw ?_
    intro w2_80 g5_81 g6_82
    refine zCu2 ?_
    intro hbs9 h_83
    clear hw
    subst hbs9
    have G : zS T A s.heap s [z, w2_80] _ _ := G
    refine lv_sipush (v := 499) hx hb dX0_make_33 (by decide) ?_
    refine lv_iload_n hx hb dX0_make_36 rfl (lv_at hl 0 rfl) ?_
    refine lv_iand hx hb dX0_make_37 ?_
    refine lv_topi (fun y_85 ey_85 => ?_)
    obtain rfl : y_85 = 0 := ey_85.trans (by decide)
    refine lv_if_eq (tgt := 45) hx hb dX0_make_38 (by decide) (fun _ => ?_) (fun q => absurd (by decide) q)
    refine lv_iload_n hx hb dX0_make_45 rfl (lv_at hl 0 rfl) ?_
    refine lv_iconst (v := 1) hx hb dX0_make_46 (by decide) ?_
    refine lv_ishr hx hb dX0_make_47 ?_
    refine lv_topi (fun y_86 ey_86 => ?_)
    obtain rfl : y_86 = 2 := ey_86.trans (by decide)
    refine lv_istore_n (lv' := [(2, .int 2), (0, .ref h), (1, .ref o)]) hx hb dX0_make_48 rfl hl (by decide) rfl (fun ls hl => ?_)
    refine lv_goto (tgt := 25) hx hb dX0_make_49 (by decide) ?_
    refine lv_iload_n hx hb dX0_make_25 rfl (lv_at hl 0 rfl) ?_
    refine lv_if_le (tgt := 52) hx hb dX0_make_26 (by decide) (fun q => absurd q (by decide)) (fun _ => ?_)
    refine lv_aload_n hx hb dX0_make_29 rfl (lv_at hl 1 rfl) ?_
    refine z_Vv (bc := [w2_80]) (br := [z]) (As := []) (rest := []) C G (c_doubleAll l T h o md (zWy cr inn k1) (zPl cr inn k1) g1_10 g2_11 f3 g4_21 g5_81 g6_82 (zNl n4 (zPl cr inn k1)) w2_80 h_83 (by first | with_reducible assumption | with_reducible rfl | omega | assumption | rfl) (by first | with_reducible assumption | with_reducible rfl | omega | assumption | rfl)) (kV_RX0_51 C.2.2.2.2 (Nat.le_of_ble_eq_true rfl) (Nat.le_of_ble_eq_true rfl)) [1] [1] rfl rfl (ci := 0) (qc := (RX0, TX0, 10)) rfl rfl (List.mem_flatten.mpr ⟨_, List.mem_of_getElem? (i := 0) rfl, (bWays_mem h_83).choose_spec⟩) rfl rfl hl.1 dX0_make_30 (by show _ + 0 ≤ 3; omega) (by show _ + 0 ≤ 6 * (zMk md n4 (zPl cr inn k1) - n4); omega) (fun b1 H locs hw G => ?_)
    refine zEx3 hw ?_
    intro w2_87 g5_88 g6_89
    refine zCu2 ?_
    intro hbs9 h_90
    clear hw
    subst hbs9
    have G : zS T A s.heap s [z, w2_87] _ _ := G
    refine lv_sipush (v := 499) hx hb dX0_make_33 (by decide) ?_
    refine lv_iload_n hx hb dX0_make_36 rfl (lv_at hl 0 rfl) ?_
    refine lv_iand hx hb dX0_make_37 ?_
    refine lv_topi (fun y_92 ey_92 => ?_)
    obtain rfl : y_92 = 2 := ey_92.trans (by decide)
    refine lv_if_eq (tgt := 45) hx hb dX0_make_38 (by decide) (fun q => absurd q (by decide)) (fun _ => ?_)
    refine lv_aload_n hx hb dX0_make_41 rfl (lv_at hl 1 rfl) ?_
    refine z_Vv (bc := [w2_87]) (br := [z]) (As := []) (rest := []) C G (c_oneMore l T h o md (zWy cr inn k1) (zPl cr inn k1) g1_10 g2_11 f3 g4_21 g5_88 g6_89 (zNl n4 (zPl cr inn k1)) w2_87 h_90 (by first | with_reducible assumption | with_reducible rfl | omega | assumption | rfl) (by first | with_reducible assumption | with_reducible rfl | omega | assumption | rfl)) (kV_RX0_54 C.2.2.2.2 (Nat.le_of_ble_eq_true rfl) (Nat.le_of_ble_eq_true rfl)) [1] [1] rfl rfl (ci := 0) (qc := (RX0, TX0, 10)) rfl rfl (List.mem_flatten.mpr ⟨_, List.mem_of_getElem? (i := 0) rfl, (bWays_mem h_90).choose_spec⟩) rfl rfl hl.1 dX0_make_42 (by show _ + 0 ≤ 3; omega) (by show _ + 0 ≤ 6 * (zMk md n4 (zPl cr inn k1) - n4); omega) (fun b1 H locs hw G => ?_)
    refine zEx3 hw ?_
    intro w2_93 g5_94 g6_95
    refine zCu2 ?_
    intro hbs9 h_96
    clear hw
    subst hbs9
    have G : zS T A s.heap s [z, w2_93] _ _ := G
    refine lv_iload_n hx hb dX0_make_45 rfl (lv_at hl 0 rfl) ?_
    refine lv_iconst (v := 1) hx hb dX0_make_46 (by decide) ?_
    refine lv_ishr hx hb dX0_make_47 ?_
    refine lv_topi (fun y_98 ey_98 => ?_)
    obtain rfl : y_98 = 1 := ey_98.trans (by decide)
    refine lv_istore_n (lv' := [(2, .int 1), (0, .ref h), (1, .ref o)]) hx hb dX0_make_48 rfl hl (by decide) rfl (fun ls hl => ?_)
    refine lv_goto (tgt := 25) hx hb dX0_make_49 (by decide) ?_
    refine lv_iload_n hx hb dX0_make_25 rfl (lv_at hl 0 rfl) ?_
    refine lv_if_le (tgt := 52) hx hb dX0_make_26 (by decide) (fun q => absurd q (by decide)) (fun _ => ?_)
    refine lv_aload_n hx hb dX0_make_29 rfl (lv_at hl 1 rfl) ?_
    refine z_Vv (bc := [w2_93]) (br := [z]) (As := []) (rest := []) C G (c_doubleAll l T h o md (zWy cr inn k1) (zPl cr inn k1) g1_10 g2_11 f3 g4_21 g5_94 g6_95 (zNl n4 (zPl cr inn k1)) w2_93 h_96 (by first | with_reducible assumption | with_reducible rfl | omega | assumption | rfl) (by first | with_reducible assumption | with_reducible rfl | omega | assumption | rfl)) (kV_RX0_51 C.2.2.2.2 (Nat.le_of_ble_eq_true rfl) (Nat.le_of_ble_eq_true rfl)) [1] [1] rfl rfl (ci := 0) (qc := (RX0, TX0, 10)) rfl rfl (List.mem_flatten.mpr ⟨_, List.mem_of_getElem? (i := 0) rfl, (bWays_mem h_96).choose_spec⟩) rfl rfl hl.1 dX0_make_30 (by show _ + 0 ≤ 3; omega) (by show _ + 0 ≤ 6 * (zMk md n4 (zPl cr inn k1) - n4); omega) (fun b1 H locs hw G => ?_)
    refine zEx3 hw ?_
    intro w2_99 g5_100 g6_101
    refine zCu2 ?_
    intro hbs9 h_102
    clear hw
    subst hbs9
    have G : zS T A s.heap s [z, w2_99] _ _ := G
    refine lv_sipush (v := 499) hx hb dX0_make_33 (by decide) ?_
    refine lv_iload_n hx hb dX0_make_36 rfl (lv_at hl 0 rfl) ?_
    refine lv_iand hx hb dX0_make_37 ?_
    refine lv_topi (fun y_104 ey_104 => ?_)
    obtain rfl : y_104 = 1 := ey_104.trans (by decide)
    refine lv_if_eq (tgt := 45) hx hb dX0_make_38 (by decide) (fun q => absurd q (by decide)) (fun _ => ?_)
    refine lv_aload_n hx hb dX0_make_41 rfl (lv_at hl 1 rfl) ?_
    refine z_Vv (bc := [w2_99]) (br := [z]) (As := []) (rest := []) C G (c_oneMore l T h o md (zWy cr inn k1) (zPl cr inn k1) g1_10 g2_11 f3 g4_21 g5_100 g6_101 (zNl n4 (zPl cr inn k1)) w2_99 h_102 (by first | with_reducible assumption | with_reducible rfl | omega | assumption | rfl) (by first | with_reducible assumption | with_reducible rfl | omega | assumption | rfl)) (kV_RX0_54 C.2.2.2.2 (Nat.le_of_ble_eq_true rfl) (Nat.le_of_ble_eq_true rfl)) [1] [1] rfl rfl (ci := 0) (qc := (RX0, TX0, 10)) rfl rfl (List.mem_flatten.mpr ⟨_, List.mem_of_getElem? (i := 0) rfl, (bWays_mem h_102).choose_spec⟩) rfl rfl hl.1 dX0_make_42 (by show _ + 0 ≤ 3; omega) (by show _ + 0 ≤ 6 * (zMk md n4 (zPl cr inn k1) - n4); omega) (fun b1 H locs hw G => ?_)
    refine zEx3 hw ?_
    intro w2_105 g5_106 g6_107
    refine zCu2 ?_
    intro hbs9 h_108
    clear hw
    subst hbs9
    have G : zS T A s.heap s [z, w2_105] _ _ := G
    refine lv_iload_n hx hb dX0_make_45 rfl (lv_at hl 0 rfl) ?_
    refine lv_iconst (v := 1) hx hb dX0_make_46 (by decide) ?_
    refine lv_ishr hx hb dX0_make_47 ?_
    refine lv_topi (fun y_110 ey_110 => ?_)
    obtain rfl : y_110 = 0 := ey_110.trans (by decide)
    refine lv_istore_n (lv' := [(2, .int 0), (0, .ref h), (1, .ref o)]) hx hb dX0_make_48 rfl hl (by decide) rfl (fun ls hl => ?_)
    refine lv_goto (tgt := 25) hx hb dX0_make_49 (by decide) ?_
    refine lv_iload_n hx hb dX0_make_25 rfl (lv_at hl 0 rfl) ?_
    refine lv_if_le (tgt := 52) hx hb dX0_make_26 (by decide) (fun _ => ?_) (fun q => absurd (by decide) q)
    refine lv_aload_n hx hb dX0_make_52 rfl (lv_at hl 1 rfl) ?_
    refine lv_iconst (v := 1) hx hb dX0_make_53 (by decide) ?_
    refine zEx6 h_108 ?_
    intro a1_111 a2_112 a3_113 a4_114 a5_115 a6_116 hbs9
    clear h_108
    subst hbs9
    have G : zS T A s.heap s [z, [zO0 h md (zWy cr inn k1) o (zPl cr inn k1) a1_111 a2_112 a3_113 a4_114 a5_115 a6_116], [zAr T 0 a1_111 7 g1_10], [zAr T 0 a2_112 7 g2_11], [zAr T 0 a3_113 7 f3], [zAr T 0 a4_114 (zNl n4 (zPl cr inn k1)) g4_21], [zAr T 0 a5_115 (zNl n4 (zPl cr inn k1)) g5_106], [zAr T 0 a6_116 (zNl n4 (zPl cr inn k1)) g6_107]] _ _ := G.re rfl
    refine z_put C G clX0 1 rfl 0 (by decide) m_fl_RX0_37 rfl rfl rfl (Nat.le_of_ble_eq_true rfl) dX0_make_54 (fun H locs G => ?_)
    have G : zS T A s.heap s [z, [zO0 h 1 (zWy cr inn k1) o (zPl cr inn k1) a1_111 a2_112 a3_113 a4_114 a5_115 a6_116], [zAr T 0 a1_111 7 g1_10], [zAr T 0 a2_112 7 g2_11], [zAr T 0 a3_113 7 f3], [zAr T 0 a4_114 (zNl n4 (zPl cr inn k1)) g4_21], [zAr T 0 a5_115 (zNl n4 (zPl cr inn k1)) g5_106], [zAr T 0 a6_116 (zNl n4 (zPl cr inn k1)) g6_107]] _ _ := G
    have hw_117 : bWays T h o 1 (zWy cr inn k1) (zPl cr inn k1) g1_10 g2_11 f3 g4_21 g5_106 g6_107 (zNl n4 (zPl cr inn k1)) [zO0 h 1 (zWy cr inn k1) o (zPl cr inn k1) a1_111 a2_112 a3_113 a4_114 a5_115 a6_116, zAr T 0 a1_111 7 g1_10, zAr T 0 a2_112 7 g2_11, zAr T 0 a3_113 7 f3, zAr T 0 a4_114 (zNl n4 (zPl cr inn k1)) g4_21, zAr T 0 a5_115 (zNl n4 (zPl cr inn k1)) g5_106, zAr T 0 a6_116 (zNl n4 (zPl cr inn k1)) g6_107] := ⟨a1_111, a2_112, a3_113, a4_114, a5_115, a6_116, rfl⟩
    have G : zS T A s.heap s [z, [zO0 h 1 (zWy cr inn k1) o (zPl cr inn k1) a1_111 a2_112 a3_113 a4_114 a5_115 a6_116, zAr T 0 a1_111 7 g1_10, zAr T 0 a2_112 7 g2_11, zAr T 0 a3_113 7 f3, zAr T 0 a4_114 (zNl n4 (zPl cr inn k1)) g4_21, zAr T 0 a5_115 (zNl n4 (zPl cr inn k1)) g5_106, zAr T 0 a6_116 (zNl n4 (zPl cr inn k1)) g6_107]] _ _ := G.re rfl
    have G := G.sub (bs' := [[zO0 h 1 (zWy cr inn k1) o (zPl cr inn k1) a1_111 a2_112 a3_113 a4_114 a5_115 a6_116, zAr T 0 a1_111 7 g1_10, zAr T 0 a2_112 7 g2_11, zAr T 0 a3_113 7 f3, zAr T 0 a4_114 (zNl n4 (zPl cr inn k1)) g4_21, zAr T 0 a5_115 (zNl n4 (zPl cr inn k1)) g5_106, zAr T 0 a6_116 (zNl n4 (zPl cr inn k1)) g6_107], z]) [1, 0] rfl
    exact z_back hQ9 (z_vret C hr hlocks G (by omega) (by omega) dX0_make_57 ⟨([zO0 h 1 (zWy cr inn k1) o (zPl cr inn k1) a1_111 a2_112 a3_113 a4_114 a5_115 a6_116, zAr T 0 a1_111 7 g1_10, zAr T 0 a2_112 7 g2_11, zAr T 0 a3_113 7 f3, zAr T 0 a4_114 (zNl n4 (zPl cr inn k1)) g4_21, zAr T 0 a5_115 (zNl n4 (zPl cr inn k1)) g5_106, zAr T 0 a6_116 (zNl n4 (zPl cr inn k1)) g6_107]), 1, (zWy cr inn k1), (zPl cr inn k1), g1_10, g2_11, g4_21, g5_106, g6_107, rfl, (hM.symm ▸ hw_117), (by decide), ⟨by omega, hwi.2⟩, (by unfold zMw; rw [if_pos (by assumption)])⟩)
  · have c_7n : ¬ md.toInt = (0 : Int) := fun q => c_7 ((fa_eq _ _).mpr q)
    obtain rfl : la = o := hmd.resolve_left (by assumption)
    have hM : n4 = zMk md n4 (zPl cr inn k1) := by unfold zMk; rw [if_neg (by assumption)]
    have hw_118 : bWays T h la md wy pc_ f1 f2 f3 f4 f5 f6 n4 [zO0 h md wy la pc_ a1_1 a2_2 a3_3 a4_4 a5_5 a6_6, zAr T 0 a1_1 7 f1, zAr T 0 a2_2 7 f2, zAr T 0 a3_3 7 f3, zAr T 0 a4_4 n4 f4, zAr T 0 a5_5 n4 f5, zAr T 0 a6_6 n4 f6] := ⟨a1_1, a2_2, a3_3, a4_4, a5_5, a6_6, rfl⟩
    have G : zS T A s.heap s [[zO0 h md wy la pc_ a1_1 a2_2 a3_3 a4_4 a5_5 a6_6, zAr T 0 a1_1 7 f1, zAr T 0 a2_2 7 f2, zAr T 0 a3_3 7 f3, zAr T 0 a4_4 n4 f4, zAr T 0 a5_5 n4 f5, zAr T 0 a6_6 n4 f6], z] _ _ := G.re rfl
    exact z_back hQ9 (z_vret C hr hlocks G (by omega) (by omega) dX0_make_7 ⟨([zO0 h md wy la pc_ a1_1 a2_2 a3_3 a4_4 a5_5 a6_6, zAr T 0 a1_1 7 f1, zAr T 0 a2_2 7 f2, zAr T 0 a3_3 7 f3, zAr T 0 a4_4 n4 f4, zAr T 0 a5_5 n4 f5, zAr T 0 a6_6 n4 f6]), md, wy, pc_, f1, f2, f4, f5, f6, rfl, (hM ▸ hw_118), (by assumption), hwm, (by unfold zMw; rw [if_neg (by assumption)])⟩)
def zFway (r1 : Nat → Int32) (m1 : Nat) (k : Int32) : Int32 := if 0 ≤ k.toInt ∧ k.toInt < m1 then r1 k.toNatClampNeg &&& 16383 else 0
set_option maxHeartbeats 4000000 in
set_option maxRecDepth 100000 in
/-- c_way -/
theorem c_way (l : Launch) (T : zTy) (t : Nat) (e0 : Int32) (e1 : Int32) (e2 : Int32) (e3 : Int32) (e4 : Int32) (e5 : Int32) (r1 : Nat → Int32) (m1 : Nat) (r2 : Nat → Int32) (wf : va_W) (k : Int32) (hwf : bFit T t e0 e1 e2 e3 e4 e5 r1 m1 r2 wf) (hm : m1 ≤ 16384) : zMi l T yX3_way cX3_way 2 (some .int) 1 0 0 [.ref t, .int k] [wf] (fun (r : Int32) bs => bs = [wf] ∧ r = zFway r1 m1 k) := by
  refine zMi_of (own := RX3) (by decide) rfl (Nat.le_of_ble_eq_true rfl) ?_
  intro p e s m args below meth c A ls C hr hlocks hnm hAe G hl
  refine zHide (fun Q9 hQ9 => ?_)
  have hx := C.1
  have hb := C.2.1
  have hl : lv_has ls 2 [(0, .ref t), (1, .int k)] := hl
  refine lv_iload_n hx hb dX3_way_0 rfl (lv_at hl 1 rfl) ?_
  refine lv_if_lt (tgt := 26) hx hb dX3_way_1 (by decide) (fun c_1 => ?_) (fun c_1 => ?_)
  · have c_1n : k.toInt < (0 : Int) := (fa_lt _ _).mp c_1
    refine lv_iconst (v := 0) hx hb dX3_way_26 (by decide) ?_
    exact z_back hQ9 (z_iret C hr hlocks G (Nat.le_of_ble_eq_true rfl) (Nat.le_of_ble_eq_true rfl) dX3_way_27 ⟨rfl, (by unfold zFway; rw [if_neg (by omega)])⟩)
  · have c_1n : ¬ k.toInt < (0 : Int) := fun q => c_1 ((fa_lt _ _).mpr q)
    refine lv_iload_n hx hb dX3_way_4 rfl (lv_at hl 1 rfl) ?_
    refine lv_aload_n hx hb dX3_way_5 rfl (lv_at hl 0 rfl) ?_
    refine zEx2 hwf ?_
    intro a1_2 a2_3 hbs9
    clear hwf
    subst hbs9
    have G : zS T A s.heap s [[zO3 t e0 e1 e2 e3 e4 e5 a1_2 a2_3], [zAr T 0 a1_2 m1 r1], [zAr T 0 a2_3 7 r2]] _ _ := G.re rfl
    refine z_get C G clX3 0 rfl 6 (by decide) m_fl_RX3_18 rfl dX3_way_6 ?_
    refine z_alen C G 1 0 rfl (v := nI m1) rfl rfl dX3_way_9 ?_
    refine lv_icmp_ge (tgt := 26) hx hb dX3_way_10 (by decide) (fun c_4 => ?_) (fun c_4 => ?_)
    · have c_4n : (m1 : Int) ≤ k.toInt := by have q := (fa_le _ _).mp c_4; rw [nI_toInt (n := m1) (by omega)] at q; exact q
      refine lv_iconst (v := 0) hx hb dX3_way_26 (by decide) ?_
      have hw_5 : bFit T t e0 e1 e2 e3 e4 e5 r1 m1 r2 [zO3 t e0 e1 e2 e3 e4 e5 a1_2 a2_3, zAr T 0 a1_2 m1 r1, zAr T 0 a2_3 7 r2] := ⟨a1_2, a2_3, rfl⟩
      have G : zS T A s.heap s [[zO3 t e0 e1 e2 e3 e4 e5 a1_2 a2_3, zAr T 0 a1_2 m1 r1, zAr T 0 a2_3 7 r2]] _ _ := G.re rfl
      exact z_back hQ9 (z_iret C hr hlocks G (Nat.le_of_ble_eq_true rfl) (Nat.le_of_ble_eq_true rfl) dX3_way_27 ⟨rfl, (by unfold zFway; rw [if_neg (by omega)])⟩)
    · have c_4n : ¬ (m1 : Int) ≤ k.toInt := fun q => c_4 ((fa_le _ _).mpr (by rw [nI_toInt (n := m1) (by omega)]; exact q))
      refine lv_aload_n hx hb dX3_way_13 rfl (lv_at hl 0 rfl) ?_
      refine z_get C G clX3 0 rfl 6 (by decide) m_fl_RX3_18 rfl dX3_way_14 ?_
      refine lv_iload_n hx hb dX3_way_17 rfl (lv_at hl 1 rfl) ?_
      refine z_ild C G 1 rfl (vp_in_iff.mpr ⟨by omega, by omega⟩) dX3_way_18 ?_
      refine lv_topi (fun v_6 ev_6 => ?_)
      subst ev_6
      refine lv_sipush (v := 16383) hx hb dX3_way_19 (by decide) ?_
      refine lv_iand hx hb dX3_way_22 ?_
      refine lv_goto (tgt := 27) hx hb dX3_way_23 (by decide) ?_
      have hw_7 : bFit T t e0 e1 e2 e3 e4 e5 r1 m1 r2 [zO3 t e0 e1 e2 e3 e4 e5 a1_2 a2_3, zAr T 0 a1_2 m1 r1, zAr T 0 a2_3 7 r2] := ⟨a1_2, a2_3, rfl⟩
      have G : zS T A s.heap s [[zO3 t e0 e1 e2 e3 e4 e5 a1_2 a2_3, zAr T 0 a1_2 m1 r1, zAr T 0 a2_3 7 r2]] _ _ := G.re rfl
      exact z_back hQ9 (z_iret C hr hlocks G (Nat.le_of_ble_eq_true rfl) (Nat.le_of_ble_eq_true rfl) dX3_way_27 ⟨rfl, (by unfold zFway; rw [if_pos (by omega)])⟩)
set_option maxHeartbeats 4000000 in
set_option maxRecDepth 100000 in
/-- c_pointing -/
theorem c_pointing (l : Launch) (T : zTy) (t : Nat) (e0 : Int32) (e1 : Int32) (e2 : Int32) (e3 : Int32) (e4 : Int32) (e5 : Int32) (r1 : Nat → Int32) (m1 : Nat) (r2 : Nat → Int32) (wf : va_W) (h : Nat) (la : Nat) (md : Int32) (wy : Int32) (pc_ : Int32) (f1 : Nat → Int32) (f2 : Nat → Int32) (f3 : Nat → Int32) (f4 : Nat → Int32) (f5 : Nat → Int32) (f6 : Nat → Int32) (n4 : Nat) (ww : va_W) (x : Int32) (y : Int32) (hwf : bFit T t e0 e1 e2 e3 e4 e5 r1 m1 r2 wf) (hww : bWays T h la md wy pc_ f1 f2 f3 f4 f5 f6 n4 ww) (hm : m1 ≤ 16384) : zMi l T yX3_pointing cX3_pointing 6 (some .int) 3 0 0 [.ref t, .ref h, .int x, .int y] [wf, ww] (fun (r : Int32) bs => bs = [wf, ww]) := by
  refine zMi_of (own := RX3) (by decide) rfl (Nat.le_of_ble_eq_true rfl) ?_
  intro p e s m args below meth c A ls C hr hlocks hnm hAe G hl
  refine zHide (fun Q9 hQ9 => ?_)
  have hx := C.1
  have hb := C.2.1
  have hl : lv_has ls 6 [(0, .ref t), (1, .ref h), (2, .int x), (3, .int y)] := hl
  have hge := Int32.toInt_lt e3
  refine lv_iconst (v := 0) hx hb dX3_pointing_0 (by decide) ?_
  refine lv_istore (lv' := [(4, .int 0), (0, .ref t), (1, .ref h), (2, .int x), (3, .int y)]) hx hb dX3_pointing_1 hl (by decide) rfl (fun ls hl => ?_)
  refine lv_iconst (v := 0) hx hb dX3_pointing_3 (by decide) ?_
  refine lv_istore (lv' := [(5, .int 0), (4, .int 0), (0, .ref t), (1, .ref h), (2, .int x), (3, .int y)]) hx hb dX3_pointing_4 hl (by decide) rfl (fun ls hl => ?_)
  refine zEx2 hwf ?_
  intro a1_1 a2_2 hbs9
  clear hwf
  subst hbs9
  have G : zS T A s.heap s [[zO3 t e0 e1 e2 e3 e4 e5 a1_1 a2_2], [zAr T 0 a1_1 m1 r1], [zAr T 0 a2_2 7 r2], ww] _ _ := G.re rfl
  have hw_3 : bFit T t e0 e1 e2 e3 e4 e5 r1 m1 r2 [zO3 t e0 e1 e2 e3 e4 e5 a1_1 a2_2, zAr T 0 a1_1 m1 r1, zAr T 0 a2_2 7 r2] := ⟨a1_1, a2_2, rfl⟩
  have G : zS T A s.heap s [[zO3 t e0 e1 e2 e3 e4 e5 a1_1 a2_2, zAr T 0 a1_1 m1 r1, zAr T 0 a2_2 7 r2], ww] _ _ := G.re rfl
  refine z_lp2 (T := T) 6 (fun (i : Nat) (ui4 : Int32) => [[zO3 t e0 e1 e2 e3 e4 e5 a1_1 a2_2, zAr T 0 a1_1 m1 r1, zAr T 0 a2_2 7 r2], ww]) (fun (i : Nat) (ui4 : Int32) => [(5, .int (nI i)), (4, .int ui4), (0, .ref t), (1, .ref h), (2, .int x), (3, .int y)]) (fun (i : Nat) (ui4 : Int32) => i ≤ e3.toInt.toNat) (fun (i : Nat) (ui4 : Int32) => e3.toInt.toNat - i) ?_ 0 0 (show 0 ≤ e3.toInt.toNat from by omega) G (lv_sub hl [0, 1, 2, 3, 4, 5] rfl)
  intro i ui4 hi ih_6 H locs ls G hl
  replace hi : i ≤ e3.toInt.toNat := hi
  replace G : zS T A s.heap s [[zO3 t e0 e1 e2 e3 e4 e5 a1_1 a2_2, zAr T 0 a1_1 m1 r1, zAr T 0 a2_2 7 r2], ww] _ _ := G
  replace hl : lv_has ls 6 [(5, .int (nI i)), (4, .int ui4), (0, .ref t), (1, .ref h), (2, .int x), (3, .int y)] := hl
  refine lv_iload hx hb dX3_pointing_6 (lv_at hl 0 rfl) ?_
  refine lv_aload_n hx hb dX3_pointing_8 rfl (lv_at hl 2 rfl) ?_
  have G : zS T A s.heap s [[zO3 t e0 e1 e2 e3 e4 e5 a1_1 a2_2], [zAr T 0 a1_1 m1 r1], [zAr T 0 a2_2 7 r2], ww] _ _ := G.re rfl
  refine z_get C G clX3 0 rfl 3 (by decide) m_fl_RX3_34 rfl dX3_pointing_9 ?_
  refine lv_icmp_ge (tgt := 39) hx hb dX3_pointing_12 (by decide) (fun c_4 => ?_) (fun c_4 => ?_)
  · have c_4n : e3.toInt ≤ (i : Int) := by have q := (fa_le _ _).mp c_4; rw [nI_toInt (n := i) (by omega)] at q; exact q
    refine lv_iload hx hb dX3_pointing_39 (lv_at hl 1 rfl) ?_
    have hw_5 : bFit T t e0 e1 e2 e3 e4 e5 r1 m1 r2 [zO3 t e0 e1 e2 e3 e4 e5 a1_1 a2_2, zAr T 0 a1_1 m1 r1, zAr T 0 a2_2 7 r2] := ⟨a1_1, a2_2, rfl⟩
    have G : zS T A s.heap s [[zO3 t e0 e1 e2 e3 e4 e5 a1_1 a2_2, zAr T 0 a1_1 m1 r1, zAr T 0 a2_2 7 r2], ww] _ _ := G.re rfl
    exact z_back hQ9 (z_iret C hr hlocks G (Nat.le_of_ble_eq_true rfl) (Nat.le_of_ble_eq_true rfl) dX3_pointing_41 rfl)
  · have c_4n : ¬ e3.toInt ≤ (i : Int) := fun q => c_4 ((fa_le _ _).mpr (by rw [nI_toInt (n := i) (by omega)]; exact q))
    refine lv_aload_n hx hb dX3_pointing_15 rfl (lv_at hl 3 rfl) ?_
    refine lv_aload_n hx hb dX3_pointing_16 rfl (lv_at hl 2 rfl) ?_
    refine lv_iload hx hb dX3_pointing_17 (lv_at hl 0 rfl) ?_
    have hw_6 : bFit T t e0 e1 e2 e3 e4 e5 r1 m1 r2 [zO3 t e0 e1 e2 e3 e4 e5 a1_1 a2_2, zAr T 0 a1_1 m1 r1, zAr T 0 a2_2 7 r2] := ⟨a1_1, a2_2, rfl⟩
    have G : zS T A s.heap s [[zO3 t e0 e1 e2 e3 e4 e5 a1_1 a2_2, zAr T 0 a1_1 m1 r1, zAr T 0 a2_2 7 r2], ww] _ _ := G.re rfl
    refine z_Vi (bc := [[zO3 t e0 e1 e2 e3 e4 e5 a1_1 a2_2, zAr T 0 a1_1 m1 r1, zAr T 0 a2_2 7 r2]]) (br := [ww]) (As := [.int (nI i)]) (rest := [.ref h]) C G (c_way l T t e0 e1 e2 e3 e4 e5 r1 m1 r2 ([zO3 t e0 e1 e2 e3 e4 e5 a1_1 a2_2, zAr T 0 a1_1 m1 r1, zAr T 0 a2_2 7 r2]) (nI i) hw_6 (by first | with_reducible assumption | with_reducible rfl | omega | assumption | rfl)) (kV_RX3_92 C.2.2.2.2 (Nat.le_of_ble_eq_true rfl) (Nat.le_of_ble_eq_true rfl)) [0] [0] rfl rfl (ci := 3) (qc := (RX3, TX3, 8)) rfl rfl (List.mem_flatten.mpr ⟨_, List.mem_of_getElem? (i := 0) rfl, (bFit_mem hw_6).choose_spec⟩) rfl rfl hl.1 dX3_pointing_19 (Nat.le_of_ble_eq_true rfl) (Nat.le_of_ble_eq_true rfl) (fun r_8 b1 H locs hw G => ?_)
    refine zAn2 hw ?_
    intro hbs9 h_7
    clear hw
    subst hbs9
    have G : zS T A s.heap s [ww, [zO3 t e0 e1 e2 e3 e4 e5 a1_1 a2_2, zAr T 0 a1_1 m1 r1, zAr T 0 a2_2 7 r2]] _ _ := G
    subst h_7
    refine lv_iload_n hx hb dX3_pointing_22 rfl (lv_at hl 4 rfl) ?_
    refine z_Vi (bc := [ww]) (br := [[zO3 t e0 e1 e2 e3 e4 e5 a1_1 a2_2, zAr T 0 a1_1 m1 r1, zAr T 0 a2_2 7 r2]]) (As := [.int (zFway r1 m1 (nI i)), .int x]) (rest := []) C G (c_road l T h la md wy pc_ f1 f2 f3 f4 f5 f6 n4 ww (zFway r1 m1 (nI i)) x hww) (kV_RX3_96 C.2.2.2.2 (Nat.le_of_ble_eq_true rfl) (Nat.le_of_ble_eq_true rfl)) [0] [0] rfl rfl (ci := 0) (qc := (RX0, TX0, 10)) rfl rfl (List.mem_flatten.mpr ⟨_, List.mem_of_getElem? (i := 0) rfl, (bWays_mem hww).choose_spec⟩) rfl rfl hl.1 dX3_pointing_23 (Nat.le_of_ble_eq_true rfl) (Nat.le_of_ble_eq_true rfl) (fun r_10 b1 H locs hw G => ?_)
    refine zAn2 hw ?_
    intro hbs9 h_9
    clear hw
    subst hbs9
    have G : zS T A s.heap s [[zO3 t e0 e1 e2 e3 e4 e5 a1_1 a2_2, zAr T 0 a1_1 m1 r1, zAr T 0 a2_2 7 r2], ww] _ _ := G
    subst h_9
    refine lv_iload_n hx hb dX3_pointing_26 rfl (lv_at hl 5 rfl) ?_
    refine lv_icmp_ne (tgt := 33) hx hb dX3_pointing_27 (by decide) (fun c_11 => ?_) (fun c_11 => ?_)
    · have c_11n : ¬ (zRoad f1 f2 (zFway r1 m1 (nI i)) x).toInt = y.toInt := fun q => c_11 ((fa_eq _ _).mpr q)
      refine lv_iinc (v := nI (i + 1)) (lv' := [(5, .int (nI (i + 1))), (4, .int ui4), (0, .ref t), (1, .ref h), (2, .int x), (3, .int y)]) hx hb dX3_pointing_33 hl (k := 0) rfl (z_inc i 1) (by decide) rfl (fun ls hl => ?_)
      refine lv_goto (tgt := 6) hx hb dX3_pointing_36 (by decide) ?_
      exact ih_6 (i + 1) ui4 (show (i + 1) ≤ e3.toInt.toNat from by omega) (show e3.toInt.toNat - (i + 1) < e3.toInt.toNat - i from by omega) _ _ ls G (lv_sub hl [0, 1, 2, 3, 4, 5] rfl)
    · have c_11n : (zRoad f1 f2 (zFway r1 m1 (nI i)) x).toInt = y.toInt := (fa_eq _ _).mp c_11
      refine lv_iinc (v := ui4 + 1) (lv' := [(4, .int (ui4 + 1)), (5, .int (nI i)), (0, .ref t), (1, .ref h), (2, .int x), (3, .int y)]) hx hb dX3_pointing_30 hl (k := 1) rfl rfl (by decide) rfl (fun ls hl => ?_)
      refine lv_iinc (v := nI (i + 1)) (lv' := [(5, .int (nI (i + 1))), (4, .int (ui4 + 1)), (0, .ref t), (1, .ref h), (2, .int x), (3, .int y)]) hx hb dX3_pointing_33 hl (k := 1) rfl (z_inc i 1) (by decide) rfl (fun ls hl => ?_)
      refine lv_goto (tgt := 6) hx hb dX3_pointing_36 (by decide) ?_
      exact ih_6 (i + 1) (ui4 + 1) (show (i + 1) ≤ e3.toInt.toNat from by omega) (show e3.toInt.toNat - (i + 1) < e3.toInt.toNat - i from by omega) _ _ ls G (lv_sub hl [0, 1, 2, 3, 4, 5] rfl)
set_option maxHeartbeats 4000000 in
set_option maxRecDepth 100000 in
/-- c_sure -/
theorem c_sure (l : Launch) (T : zTy) (t : Nat) (e0 : Int32) (e1 : Int32) (e2 : Int32) (e3 : Int32) (e4 : Int32) (e5 : Int32) (r1 : Nat → Int32) (m1 : Nat) (r2 : Nat → Int32) (wf : va_W) (h : Nat) (la : Nat) (md : Int32) (wy : Int32) (pc_ : Int32) (f1 : Nat → Int32) (f2 : Nat → Int32) (f3 : Nat → Int32) (f4 : Nat → Int32) (f5 : Nat → Int32) (f6 : Nat → Int32) (n4 : Nat) (ww : va_W) (cr : Int32) (inn : Int32) (k1 : Nat → Int32) (k2 : Nat → Int32) (k3 : Nat → Int32) (k4 : Nat → Int32) (z : va_W) (x : Int32) (hwf : bFit T t e0 e1 e2 e3 e4 e5 r1 m1 r2 wf) (hww : bWays T h la md wy pc_ f1 f2 f3 f4 f5 f6 n4 ww) (hz : bLand T la cr inn k1 k2 k3 k4 z) (hm : m1 ≤ 16384) : zMi l T yX3_sure cX3_sure 4 (some .int) 4 0 0 [.ref t, .ref h, .int x] [wf, ww, z] (fun (r : Int32) bs => bs = [wf, ww, z]) := by
  refine zMi_of (own := RX3) (by decide) rfl (Nat.le_of_ble_eq_true rfl) ?_
  intro p e s m args below meth c A ls C hr hlocks hnm hAe G hl
  refine zHide (fun Q9 hQ9 => ?_)
  have hx := C.1
  have hb := C.2.1
  have hl : lv_has ls 4 [(0, .ref t), (1, .ref h), (2, .int x)] := hl
  refine lv_aload_n hx hb dX3_sure_0 rfl (lv_at hl 0 rfl) ?_
  refine zEx2 hwf ?_
  intro a1_1 a2_2 hbs9
  clear hwf
  subst hbs9
  have G : zS T A s.heap s [[zO3 t e0 e1 e2 e3 e4 e5 a1_1 a2_2], [zAr T 0 a1_1 m1 r1], [zAr T 0 a2_2 7 r2], ww, z] _ _ := G.re rfl
  refine z_get C G clX3 0 rfl 3 (by decide) m_fl_RX3_34 rfl dX3_sure_1 ?_
  refine lv_if_eq (tgt := 18) hx hb dX3_sure_4 (by decide) (fun c_3 => ?_) (fun c_3 => ?_)
  · have c_3n : e3.toInt = (0 : Int) := (fa_eq _ _).mp c_3
    refine lv_iconst (v := (-1)) hx hb dX3_sure_18 (by decide) ?_
    have hw_4 : bFit T t e0 e1 e2 e3 e4 e5 r1 m1 r2 [zO3 t e0 e1 e2 e3 e4 e5 a1_1 a2_2, zAr T 0 a1_1 m1 r1, zAr T 0 a2_2 7 r2] := ⟨a1_1, a2_2, rfl⟩
    have G : zS T A s.heap s [[zO3 t e0 e1 e2 e3 e4 e5 a1_1 a2_2, zAr T 0 a1_1 m1 r1, zAr T 0 a2_2 7 r2], ww, z] _ _ := G.re rfl
    exact z_back hQ9 (z_iret C hr hlocks G (Nat.le_of_ble_eq_true rfl) (Nat.le_of_ble_eq_true rfl) dX3_sure_19 rfl)
  · have c_3n : ¬ e3.toInt = (0 : Int) := fun q => c_3 ((fa_eq _ _).mpr q)
    refine lv_aload_n hx hb dX3_sure_7 rfl (lv_at hl 1 rfl) ?_
    refine zEx6 hww ?_
    intro a1_5 a2_6 a3_7 a4_8 a5_9 a6_10 hbs9
    clear hww
    subst hbs9
    have G : zS T A s.heap s [[zO3 t e0 e1 e2 e3 e4 e5 a1_1 a2_2], [zAr T 0 a1_1 m1 r1], [zAr T 0 a2_2 7 r2], [zO0 h md wy la pc_ a1_5 a2_6 a3_7 a4_8 a5_9 a6_10], [zAr T 0 a1_5 7 f1], [zAr T 0 a2_6 7 f2], [zAr T 0 a3_7 7 f3], [zAr T 0 a4_8 n4 f4], [zAr T 0 a5_9 n4 f5], [zAr T 0 a6_10 n4 f6], z] _ _ := G.re rfl
    refine z_get C G clX0 3 rfl 2 (by decide) m_fl_RX3_55 rfl dX3_sure_8 ?_
    refine lv_iload_n hx hb dX3_sure_11 rfl (lv_at hl 2 rfl) ?_
    refine z_Vi (bc := [z]) (br := [[zO3 t e0 e1 e2 e3 e4 e5 a1_1 a2_2], [zAr T 0 a1_1 m1 r1], [zAr T 0 a2_2 7 r2], [zO0 h md wy la pc_ a1_5 a2_6 a3_7 a4_8 a5_9 a6_10], [zAr T 0 a1_5 7 f1], [zAr T 0 a2_6 7 f2], [zAr T 0 a3_7 7 f3], [zAr T 0 a4_8 n4 f4], [zAr T 0 a5_9 n4 f5], [zAr T 0 a6_10 n4 f6]]) (As := [.int x]) (rest := []) C G (c_has l T la cr inn k1 k2 k3 k4 z x hz) (kV_RX3_58 C.2.2.2.2 (Nat.le_of_ble_eq_true rfl) (Nat.le_of_ble_eq_true rfl)) [10] [10] rfl rfl (ci := 4) (qc := (RX4, TX4, 6)) rfl rfl (List.mem_flatten.mpr ⟨_, List.mem_of_getElem? (i := 0) rfl, (bLand_mem hz).choose_spec⟩) rfl rfl hl.1 dX3_sure_12 (Nat.le_of_ble_eq_true rfl) (Nat.le_of_ble_eq_true rfl) (fun r_12 b1 H locs hw G => ?_)
    refine zAn2 hw ?_
    intro hbs9 hc_11
    clear hw
    subst hbs9
    have G : zS T A s.heap s [[zO3 t e0 e1 e2 e3 e4 e5 a1_1 a2_2], [zAr T 0 a1_1 m1 r1], [zAr T 0 a2_2 7 r2], [zO0 h md wy la pc_ a1_5 a2_6 a3_7 a4_8 a5_9 a6_10], [zAr T 0 a1_5 7 f1], [zAr T 0 a2_6 7 f2], [zAr T 0 a3_7 7 f3], [zAr T 0 a4_8 n4 f4], [zAr T 0 a5_9 n4 f5], [zAr T 0 a6_10 n4 f6], z] _ _ := G
    rcases hc_11 with ⟨rfl, h_13, h_14, h_15⟩ | ⟨rfl, h_16⟩
    · have h_13 : 0 ≤ x.toInt := h_13
      have h_14 : x.toInt < cr.toInt := h_14
      have h_15 : x.toInt < 7 := h_15
      refine lv_if_ne (tgt := 20) hx hb dX3_sure_15 (by decide) (fun _ => ?_) (fun q => absurd q (by decide))
      refine lv_aload_n hx hb dX3_sure_20 rfl (lv_at hl 1 rfl) ?_
      refine lv_aload_n hx hb dX3_sure_21 rfl (lv_at hl 0 rfl) ?_
      refine lv_iconst (v := 0) hx hb dX3_sure_22 (by decide) ?_
      have hw_17 : bFit T t e0 e1 e2 e3 e4 e5 r1 m1 r2 [zO3 t e0 e1 e2 e3 e4 e5 a1_1 a2_2, zAr T 0 a1_1 m1 r1, zAr T 0 a2_2 7 r2] := ⟨a1_1, a2_2, rfl⟩
      have G : zS T A s.heap s [[zO3 t e0 e1 e2 e3 e4 e5 a1_1 a2_2, zAr T 0 a1_1 m1 r1, zAr T 0 a2_2 7 r2], [zO0 h md wy la pc_ a1_5 a2_6 a3_7 a4_8 a5_9 a6_10], [zAr T 0 a1_5 7 f1], [zAr T 0 a2_6 7 f2], [zAr T 0 a3_7 7 f3], [zAr T 0 a4_8 n4 f4], [zAr T 0 a5_9 n4 f5], [zAr T 0 a6_10 n4 f6], z] _ _ := G.re rfl
      refine z_Vi (bc := [[zO3 t e0 e1 e2 e3 e4 e5 a1_1 a2_2, zAr T 0 a1_1 m1 r1, zAr T 0 a2_2 7 r2]]) (br := [[zO0 h md wy la pc_ a1_5 a2_6 a3_7 a4_8 a5_9 a6_10], [zAr T 0 a1_5 7 f1], [zAr T 0 a2_6 7 f2], [zAr T 0 a3_7 7 f3], [zAr T 0 a4_8 n4 f4], [zAr T 0 a5_9 n4 f5], [zAr T 0 a6_10 n4 f6], z]) (As := [.int 0]) (rest := [.ref h]) C G (c_way l T t e0 e1 e2 e3 e4 e5 r1 m1 r2 ([zO3 t e0 e1 e2 e3 e4 e5 a1_1 a2_2, zAr T 0 a1_1 m1 r1, zAr T 0 a2_2 7 r2]) 0 hw_17 (by first | with_reducible assumption | with_reducible rfl | omega | assumption | rfl)) (kV_RX3_92 C.2.2.2.2 (Nat.le_of_ble_eq_true rfl) (Nat.le_of_ble_eq_true rfl)) [0] [0] rfl rfl (ci := 3) (qc := (RX3, TX3, 8)) rfl rfl (List.mem_flatten.mpr ⟨_, List.mem_of_getElem? (i := 0) rfl, (bFit_mem hw_17).choose_spec⟩) rfl rfl hl.1 dX3_sure_23 (Nat.le_of_ble_eq_true rfl) (Nat.le_of_ble_eq_true rfl) (fun r_19 b1 H locs hw G => ?_)
      refine zAn2 hw ?_
      intro hbs9 h_18
      clear hw
      subst hbs9
      have G : zS T A s.heap s [[zO0 h md wy la pc_ a1_5 a2_6 a3_7 a4_8 a5_9 a6_10], [zAr T 0 a1_5 7 f1], [zAr T 0 a2_6 7 f2], [zAr T 0 a3_7 7 f3], [zAr T 0 a4_8 n4 f4], [zAr T 0 a5_9 n4 f5], [zAr T 0 a6_10 n4 f6], z, [zO3 t e0 e1 e2 e3 e4 e5 a1_1 a2_2, zAr T 0 a1_1 m1 r1, zAr T 0 a2_2 7 r2]] _ _ := G
      subst h_18
      refine lv_iload_n hx hb dX3_sure_26 rfl (lv_at hl 2 rfl) ?_
      have hw_20 : bWays T h la md wy pc_ f1 f2 f3 f4 f5 f6 n4 [zO0 h md wy la pc_ a1_5 a2_6 a3_7 a4_8 a5_9 a6_10, zAr T 0 a1_5 7 f1, zAr T 0 a2_6 7 f2, zAr T 0 a3_7 7 f3, zAr T 0 a4_8 n4 f4, zAr T 0 a5_9 n4 f5, zAr T 0 a6_10 n4 f6] := ⟨a1_5, a2_6, a3_7, a4_8, a5_9, a6_10, rfl⟩
      have G : zS T A s.heap s [[zO0 h md wy la pc_ a1_5 a2_6 a3_7 a4_8 a5_9 a6_10, zAr T 0 a1_5 7 f1, zAr T 0 a2_6 7 f2, zAr T 0 a3_7 7 f3, zAr T 0 a4_8 n4 f4, zAr T 0 a5_9 n4 f5, zAr T 0 a6_10 n4 f6], z, [zO3 t e0 e1 e2 e3 e4 e5 a1_1 a2_2, zAr T 0 a1_1 m1 r1, zAr T 0 a2_2 7 r2]] _ _ := G.re rfl
      refine z_Vi (bc := [[zO0 h md wy la pc_ a1_5 a2_6 a3_7 a4_8 a5_9 a6_10, zAr T 0 a1_5 7 f1, zAr T 0 a2_6 7 f2, zAr T 0 a3_7 7 f3, zAr T 0 a4_8 n4 f4, zAr T 0 a5_9 n4 f5, zAr T 0 a6_10 n4 f6]]) (br := [z, [zO3 t e0 e1 e2 e3 e4 e5 a1_1 a2_2, zAr T 0 a1_1 m1 r1, zAr T 0 a2_2 7 r2]]) (As := [.int (zFway r1 m1 0), .int x]) (rest := []) C G (c_road l T h la md wy pc_ f1 f2 f3 f4 f5 f6 n4 ([zO0 h md wy la pc_ a1_5 a2_6 a3_7 a4_8 a5_9 a6_10, zAr T 0 a1_5 7 f1, zAr T 0 a2_6 7 f2, zAr T 0 a3_7 7 f3, zAr T 0 a4_8 n4 f4, zAr T 0 a5_9 n4 f5, zAr T 0 a6_10 n4 f6]) (zFway r1 m1 0) x hw_20) (kV_RX3_96 C.2.2.2.2 (Nat.le_of_ble_eq_true rfl) (Nat.le_of_ble_eq_true rfl)) [0] [0] rfl rfl (ci := 0) (qc := (RX0, TX0, 10)) rfl rfl (List.mem_flatten.mpr ⟨_, List.mem_of_getElem? (i := 0) rfl, (bWays_mem hw_20).choose_spec⟩) rfl rfl hl.1 dX3_sure_27 (Nat.le_of_ble_eq_true rfl) (Nat.le_of_ble_eq_true rfl) (fun r_22 b1 H locs hw G => ?_)
      refine zAn2 hw ?_
      intro hbs9 h_21
      clear hw
      subst hbs9
      have G : zS T A s.heap s [z, [zO3 t e0 e1 e2 e3 e4 e5 a1_1 a2_2, zAr T 0 a1_1 m1 r1, zAr T 0 a2_2 7 r2], [zO0 h md wy la pc_ a1_5 a2_6 a3_7 a4_8 a5_9 a6_10, zAr T 0 a1_5 7 f1, zAr T 0 a2_6 7 f2, zAr T 0 a3_7 7 f3, zAr T 0 a4_8 n4 f4, zAr T 0 a5_9 n4 f5, zAr T 0 a6_10 n4 f6]] _ _ := G
      subst h_21
      refine lv_istore_n (lv' := [(3, .int (zRoad f1 f2 (zFway r1 m1 0) x)), (0, .ref t), (1, .ref h), (2, .int x)]) hx hb dX3_sure_30 rfl hl (by decide) rfl (fun ls hl => ?_)
      refine lv_aload_n hx hb dX3_sure_31 rfl (lv_at hl 1 rfl) ?_
      refine lv_aload_n hx hb dX3_sure_32 rfl (lv_at hl 2 rfl) ?_
      refine lv_iload_n hx hb dX3_sure_33 rfl (lv_at hl 3 rfl) ?_
      refine lv_iload_n hx hb dX3_sure_34 rfl (lv_at hl 0 rfl) ?_
      refine z_Vi (bc := [[zO3 t e0 e1 e2 e3 e4 e5 a1_1 a2_2, zAr T 0 a1_1 m1 r1, zAr T 0 a2_2 7 r2], [zO0 h md wy la pc_ a1_5 a2_6 a3_7 a4_8 a5_9 a6_10, zAr T 0 a1_5 7 f1, zAr T 0 a2_6 7 f2, zAr T 0 a3_7 7 f3, zAr T 0 a4_8 n4 f4, zAr T 0 a5_9 n4 f5, zAr T 0 a6_10 n4 f6]]) (br := [z]) (As := [.ref h, .int x, .int (zRoad f1 f2 (zFway r1 m1 0) x)]) (rest := []) C G (c_pointing l T t e0 e1 e2 e3 e4 e5 r1 m1 r2 ([zO3 t e0 e1 e2 e3 e4 e5 a1_1 a2_2, zAr T 0 a1_1 m1 r1, zAr T 0 a2_2 7 r2]) h la md wy pc_ f1 f2 f3 f4 f5 f6 n4 ([zO0 h md wy la pc_ a1_5 a2_6 a3_7 a4_8 a5_9 a6_10, zAr T 0 a1_5 7 f1, zAr T 0 a2_6 7 f2, zAr T 0 a3_7 7 f3, zAr T 0 a4_8 n4 f4, zAr T 0 a5_9 n4 f5, zAr T 0 a6_10 n4 f6]) x (zRoad f1 f2 (zFway r1 m1 0) x) hw_17 hw_20 (by first | with_reducible assumption | with_reducible rfl | omega | assumption | rfl)) (kV_RX3_99 C.2.2.2.2 (Nat.le_of_ble_eq_true rfl) (Nat.le_of_ble_eq_true rfl)) [1, 2] [1, 0] rfl rfl (ci := 3) (qc := (RX3, TX3, 8)) rfl rfl (List.mem_flatten.mpr ⟨_, List.mem_of_getElem? (i := 0) rfl, (bFit_mem hw_17).choose_spec⟩) rfl rfl hl.1 dX3_sure_35 (Nat.le_of_ble_eq_true rfl) (Nat.le_of_ble_eq_true rfl) (fun r_23 b1 H locs hw G => ?_)
      obtain rfl := hw
      have G : zS T A s.heap s [z, [zO3 t e0 e1 e2 e3 e4 e5 a1_1 a2_2, zAr T 0 a1_1 m1 r1, zAr T 0 a2_2 7 r2], [zO0 h md wy la pc_ a1_5 a2_6 a3_7 a4_8 a5_9 a6_10, zAr T 0 a1_5 7 f1, zAr T 0 a2_6 7 f2, zAr T 0 a3_7 7 f3, zAr T 0 a4_8 n4 f4, zAr T 0 a5_9 n4 f5, zAr T 0 a6_10 n4 f6]] _ _ := G
      refine lv_aload_n hx hb dX3_sure_38 rfl (lv_at hl 1 rfl) ?_
      have G : zS T A s.heap s [z, [zO3 t e0 e1 e2 e3 e4 e5 a1_1 a2_2], [zAr T 0 a1_1 m1 r1], [zAr T 0 a2_2 7 r2], [zO0 h md wy la pc_ a1_5 a2_6 a3_7 a4_8 a5_9 a6_10, zAr T 0 a1_5 7 f1, zAr T 0 a2_6 7 f2, zAr T 0 a3_7 7 f3, zAr T 0 a4_8 n4 f4, zAr T 0 a5_9 n4 f5, zAr T 0 a6_10 n4 f6]] _ _ := G.re rfl
      refine z_get C G clX3 1 rfl 3 (by decide) m_fl_RX3_34 rfl dX3_sure_39 ?_
      refine lv_icmp_ne (tgt := 49) hx hb dX3_sure_42 (by decide) (fun c_24 => ?_) (fun c_24 => ?_)
      · have c_24n : ¬ r_23.toInt = e3.toInt := fun q => c_24 ((fa_eq _ _).mpr q)
        refine lv_iconst (v := (-1)) hx hb dX3_sure_49 (by decide) ?_
        have hw_25 : bFit T t e0 e1 e2 e3 e4 e5 r1 m1 r2 [zO3 t e0 e1 e2 e3 e4 e5 a1_1 a2_2, zAr T 0 a1_1 m1 r1, zAr T 0 a2_2 7 r2] := ⟨a1_1, a2_2, rfl⟩
        have G : zS T A s.heap s [z, [zO3 t e0 e1 e2 e3 e4 e5 a1_1 a2_2, zAr T 0 a1_1 m1 r1, zAr T 0 a2_2 7 r2], [zO0 h md wy la pc_ a1_5 a2_6 a3_7 a4_8 a5_9 a6_10, zAr T 0 a1_5 7 f1, zAr T 0 a2_6 7 f2, zAr T 0 a3_7 7 f3, zAr T 0 a4_8 n4 f4, zAr T 0 a5_9 n4 f5, zAr T 0 a6_10 n4 f6]] _ _ := G.re rfl
        have G := G.sub (bs' := [[zO3 t e0 e1 e2 e3 e4 e5 a1_1 a2_2, zAr T 0 a1_1 m1 r1, zAr T 0 a2_2 7 r2], [zO0 h md wy la pc_ a1_5 a2_6 a3_7 a4_8 a5_9 a6_10, zAr T 0 a1_5 7 f1, zAr T 0 a2_6 7 f2, zAr T 0 a3_7 7 f3, zAr T 0 a4_8 n4 f4, zAr T 0 a5_9 n4 f5, zAr T 0 a6_10 n4 f6], z]) [1, 2, 0] rfl
        exact z_back hQ9 (z_iret C hr hlocks G (Nat.le_of_ble_eq_true rfl) (Nat.le_of_ble_eq_true rfl) dX3_sure_50 rfl)
      · have c_24n : r_23.toInt = e3.toInt := (fa_eq _ _).mp c_24
        refine lv_iload_n hx hb dX3_sure_45 rfl (lv_at hl 0 rfl) ?_
        refine lv_goto (tgt := 50) hx hb dX3_sure_46 (by decide) ?_
        have hw_26 : bFit T t e0 e1 e2 e3 e4 e5 r1 m1 r2 [zO3 t e0 e1 e2 e3 e4 e5 a1_1 a2_2, zAr T 0 a1_1 m1 r1, zAr T 0 a2_2 7 r2] := ⟨a1_1, a2_2, rfl⟩
        have G : zS T A s.heap s [z, [zO3 t e0 e1 e2 e3 e4 e5 a1_1 a2_2, zAr T 0 a1_1 m1 r1, zAr T 0 a2_2 7 r2], [zO0 h md wy la pc_ a1_5 a2_6 a3_7 a4_8 a5_9 a6_10, zAr T 0 a1_5 7 f1, zAr T 0 a2_6 7 f2, zAr T 0 a3_7 7 f3, zAr T 0 a4_8 n4 f4, zAr T 0 a5_9 n4 f5, zAr T 0 a6_10 n4 f6]] _ _ := G.re rfl
        have G := G.sub (bs' := [[zO3 t e0 e1 e2 e3 e4 e5 a1_1 a2_2, zAr T 0 a1_1 m1 r1, zAr T 0 a2_2 7 r2], [zO0 h md wy la pc_ a1_5 a2_6 a3_7 a4_8 a5_9 a6_10, zAr T 0 a1_5 7 f1, zAr T 0 a2_6 7 f2, zAr T 0 a3_7 7 f3, zAr T 0 a4_8 n4 f4, zAr T 0 a5_9 n4 f5, zAr T 0 a6_10 n4 f6], z]) [1, 2, 0] rfl
        exact z_back hQ9 (z_iret C hr hlocks G (Nat.le_of_ble_eq_true rfl) (Nat.le_of_ble_eq_true rfl) dX3_sure_50 rfl)
    · have h_16 : (x.toInt < 0 ∨ cr.toInt ≤ x.toInt ∨ 7 ≤ x.toInt) := h_16
      refine lv_if_ne (tgt := 20) hx hb dX3_sure_15 (by decide) (fun q => absurd (by decide) q) (fun _ => ?_)
      refine lv_iconst (v := (-1)) hx hb dX3_sure_18 (by decide) ?_
      have hw_27 : bFit T t e0 e1 e2 e3 e4 e5 r1 m1 r2 [zO3 t e0 e1 e2 e3 e4 e5 a1_1 a2_2, zAr T 0 a1_1 m1 r1, zAr T 0 a2_2 7 r2] := ⟨a1_1, a2_2, rfl⟩
      have G : zS T A s.heap s [[zO3 t e0 e1 e2 e3 e4 e5 a1_1 a2_2, zAr T 0 a1_1 m1 r1, zAr T 0 a2_2 7 r2], [zO0 h md wy la pc_ a1_5 a2_6 a3_7 a4_8 a5_9 a6_10], [zAr T 0 a1_5 7 f1], [zAr T 0 a2_6 7 f2], [zAr T 0 a3_7 7 f3], [zAr T 0 a4_8 n4 f4], [zAr T 0 a5_9 n4 f5], [zAr T 0 a6_10 n4 f6], z] _ _ := G.re rfl
      have hw_28 : bWays T h la md wy pc_ f1 f2 f3 f4 f5 f6 n4 [zO0 h md wy la pc_ a1_5 a2_6 a3_7 a4_8 a5_9 a6_10, zAr T 0 a1_5 7 f1, zAr T 0 a2_6 7 f2, zAr T 0 a3_7 7 f3, zAr T 0 a4_8 n4 f4, zAr T 0 a5_9 n4 f5, zAr T 0 a6_10 n4 f6] := ⟨a1_5, a2_6, a3_7, a4_8, a5_9, a6_10, rfl⟩
      have G : zS T A s.heap s [[zO3 t e0 e1 e2 e3 e4 e5 a1_1 a2_2, zAr T 0 a1_1 m1 r1, zAr T 0 a2_2 7 r2], [zO0 h md wy la pc_ a1_5 a2_6 a3_7 a4_8 a5_9 a6_10, zAr T 0 a1_5 7 f1, zAr T 0 a2_6 7 f2, zAr T 0 a3_7 7 f3, zAr T 0 a4_8 n4 f4, zAr T 0 a5_9 n4 f5, zAr T 0 a6_10 n4 f6], z] _ _ := G.re rfl
      exact z_back hQ9 (z_iret C hr hlocks G (Nat.le_of_ble_eq_true rfl) (Nat.le_of_ble_eq_true rfl) dX3_sure_19 rfl)
set_option maxHeartbeats 4000000 in
set_option maxRecDepth 100000 in
/-- isSo -/
theorem c_isSo_x (l : Launch) (T : zTy) (h : Nat) (la : Nat) (md : Int32) (wy : Int32) (pc_ : Int32) (f1 : Nat → Int32) (f2 : Nat → Int32) (f3 : Nat → Int32) (f4 : Nat → Int32) (f5 : Nat → Int32) (f6 : Nat → Int32) (n4 : Nat) (ww : va_W) (cr : Int32) (inn : Int32) (k1 : Nat → Int32) (k2 : Nat → Int32) (k3 : Nat → Int32) (k4 : Nat → Int32) (z : va_W) (x : Int32) (y : Int32) (q : Int32) (hww : bWays T h la md wy pc_ f1 f2 f3 f4 f5 f6 n4 ww) (hz : bLand T la cr inn k1 k2 k3 k4 z) (hn : n4 ≤ 131072) : zMi l T yX3_isSo cX3_isSo 5 (some .boolean) 3 0 0 [.ref h, .int x, .int y, .int q] [ww, z] (fun (r : Int32) bs => bs = [ww, z] ∧ (r = 0 ∨ r = 1)) := by
  refine zMi_of (own := RX3) (by decide) rfl (Nat.le_of_ble_eq_true rfl) ?_
  intro p e s m args below meth c A ls C hr hlocks hnm hAe G hl
  refine zHide (fun Q9 hQ9 => ?_)
  have hx := C.1
  have hb := C.2.1
  have hl : lv_has ls 5 [(0, .ref h), (1, .int x), (2, .int y), (3, .int q)] := hl
  refine lv_aload_n hx hb dX3_isSo_0 rfl (lv_at hl 0 rfl) ?_
  refine lv_iload_n hx hb dX3_isSo_1 rfl (lv_at hl 1 rfl) ?_
  refine lv_iload_n hx hb dX3_isSo_2 rfl (lv_at hl 2 rfl) ?_
  refine z_Vi (bc := [ww]) (br := [z]) (As := [.int x, .int y]) (rest := []) C G (c_where l T h la md wy pc_ f1 f2 f3 f4 f5 f6 n4 ww x y hww (by first | with_reducible assumption | with_reducible rfl | omega | assumption | rfl)) (kV_RX3_86 C.2.2.2.2 (Nat.le_of_ble_eq_true rfl) (Nat.le_of_ble_eq_true rfl)) [0] [0] rfl rfl (ci := 0) (qc := (RX0, TX0, 10)) rfl rfl (List.mem_flatten.mpr ⟨_, List.mem_of_getElem? (i := 0) rfl, (bWays_mem hww).choose_spec⟩) rfl rfl hl.1 dX3_isSo_3 (Nat.le_of_ble_eq_true rfl) (Nat.le_of_ble_eq_true rfl) (fun r_2 b1 H locs hw G => ?_)
  refine zAn2 hw ?_
  intro hbs9 h_1
  clear hw
  subst hbs9
  have G : zS T A s.heap s [z, ww] _ _ := G
  subst h_1
  refine lv_istore (lv' := [(4, .int (zEntry f5 n4 x y &&& 7)), (0, .ref h), (1, .int x), (2, .int y), (3, .int q)]) hx hb dX3_isSo_6 hl (by decide) rfl (fun ls hl => ?_)
  refine lv_aload_n hx hb dX3_isSo_8 rfl (lv_at hl 1 rfl) ?_
  refine zEx6 hww ?_
  intro a1_3 a2_4 a3_5 a4_6 a5_7 a6_8 hbs9
  clear hww
  subst hbs9
  have G : zS T A s.heap s [z, [zO0 h md wy la pc_ a1_3 a2_4 a3_5 a4_6 a5_7 a6_8], [zAr T 0 a1_3 7 f1], [zAr T 0 a2_4 7 f2], [zAr T 0 a3_5 7 f3], [zAr T 0 a4_6 n4 f4], [zAr T 0 a5_7 n4 f5], [zAr T 0 a6_8 n4 f6]] _ _ := G.re rfl
  refine z_get C G clX0 1 rfl 2 (by decide) m_fl_RX3_55 rfl dX3_isSo_9 ?_
  refine lv_iload hx hb dX3_isSo_12 (lv_at hl 0 rfl) ?_
  refine z_Vi (bc := [z]) (br := [[zO0 h md wy la pc_ a1_3 a2_4 a3_5 a4_6 a5_7 a6_8], [zAr T 0 a1_3 7 f1], [zAr T 0 a2_4 7 f2], [zAr T 0 a3_5 7 f3], [zAr T 0 a4_6 n4 f4], [zAr T 0 a5_7 n4 f5], [zAr T 0 a6_8 n4 f6]]) (As := [.int (zEntry f5 n4 x y &&& 7)]) (rest := []) C G (c_isInn l T la cr inn k1 k2 k3 k4 z (zEntry f5 n4 x y &&& 7) hz) (kV_RX3_89 C.2.2.2.2 (Nat.le_of_ble_eq_true rfl) (Nat.le_of_ble_eq_true rfl)) [0] [0] rfl rfl (ci := 4) (qc := (RX4, TX4, 6)) rfl rfl (List.mem_flatten.mpr ⟨_, List.mem_of_getElem? (i := 0) rfl, (bLand_mem hz).choose_spec⟩) rfl rfl hl.1 dX3_isSo_14 (Nat.le_of_ble_eq_true rfl) (Nat.le_of_ble_eq_true rfl) (fun r_10 b1 H locs hw G => ?_)
  refine zAn2 hw ?_
  intro hbs9 hc_9
  clear hw
  subst hbs9
  have G : zS T A s.heap s [[zO0 h md wy la pc_ a1_3 a2_4 a3_5 a4_6 a5_7 a6_8], [zAr T 0 a1_3 7 f1], [zAr T 0 a2_4 7 f2], [zAr T 0 a3_5 7 f3], [zAr T 0 a4_6 n4 f4], [zAr T 0 a5_7 n4 f5], [zAr T 0 a6_8 n4 f6], z] _ _ := G
  rcases hc_9 with ⟨rfl, h_11, h_12, h_13, h_14⟩ | ⟨rfl, h_15⟩
  · have h_11 : 0 ≤ (zEntry f5 n4 x y &&& 7).toInt := h_11
    have h_12 : (zEntry f5 n4 x y &&& 7).toInt < cr.toInt := h_12
    have h_13 : (zEntry f5 n4 x y &&& 7).toInt < 7 := h_13
    have h_14 : ¬ zBit inn (zEntry f5 n4 x y &&& 7) = 0 := h_14
    refine lv_if_eq (tgt := 34) hx hb dX3_isSo_17 (by decide) (fun q => absurd q (by decide)) (fun _ => ?_)
    refine lv_iload hx hb dX3_isSo_20 (lv_at hl 0 rfl) ?_
    refine lv_iload_n hx hb dX3_isSo_22 rfl (lv_at hl 4 rfl) ?_
    refine lv_icmp_ne (tgt := 30) hx hb dX3_isSo_23 (by decide) (fun c_16 => ?_) (fun c_16 => ?_)
    · have c_16n : ¬ (zEntry f5 n4 x y &&& 7).toInt = q.toInt := fun q => c_16 ((fa_eq _ _).mpr q)
      refine lv_iconst (v := 0) hx hb dX3_isSo_30 (by decide) ?_
      refine lv_goto (tgt := 44) hx hb dX3_isSo_31 (by decide) ?_
      have hw_17 : bWays T h la md wy pc_ f1 f2 f3 f4 f5 f6 n4 [zO0 h md wy la pc_ a1_3 a2_4 a3_5 a4_6 a5_7 a6_8, zAr T 0 a1_3 7 f1, zAr T 0 a2_4 7 f2, zAr T 0 a3_5 7 f3, zAr T 0 a4_6 n4 f4, zAr T 0 a5_7 n4 f5, zAr T 0 a6_8 n4 f6] := ⟨a1_3, a2_4, a3_5, a4_6, a5_7, a6_8, rfl⟩
      have G : zS T A s.heap s [[zO0 h md wy la pc_ a1_3 a2_4 a3_5 a4_6 a5_7 a6_8, zAr T 0 a1_3 7 f1, zAr T 0 a2_4 7 f2, zAr T 0 a3_5 7 f3, zAr T 0 a4_6 n4 f4, zAr T 0 a5_7 n4 f5, zAr T 0 a6_8 n4 f6], z] _ _ := G.re rfl
      exact z_back hQ9 (z_zret C hr hlocks G (Nat.le_of_ble_eq_true rfl) (Nat.le_of_ble_eq_true rfl) dX3_isSo_44 rfl ⟨rfl, (by first | exact Or.inl rfl | exact Or.inr rfl)⟩)
    · have c_16n : (zEntry f5 n4 x y &&& 7).toInt = q.toInt := (fa_eq _ _).mp c_16
      refine lv_iconst (v := 1) hx hb dX3_isSo_26 (by decide) ?_
      refine lv_goto (tgt := 44) hx hb dX3_isSo_27 (by decide) ?_
      have hw_18 : bWays T h la md wy pc_ f1 f2 f3 f4 f5 f6 n4 [zO0 h md wy la pc_ a1_3 a2_4 a3_5 a4_6 a5_7 a6_8, zAr T 0 a1_3 7 f1, zAr T 0 a2_4 7 f2, zAr T 0 a3_5 7 f3, zAr T 0 a4_6 n4 f4, zAr T 0 a5_7 n4 f5, zAr T 0 a6_8 n4 f6] := ⟨a1_3, a2_4, a3_5, a4_6, a5_7, a6_8, rfl⟩
      have G : zS T A s.heap s [[zO0 h md wy la pc_ a1_3 a2_4 a3_5 a4_6 a5_7 a6_8, zAr T 0 a1_3 7 f1, zAr T 0 a2_4 7 f2, zAr T 0 a3_5 7 f3, zAr T 0 a4_6 n4 f4, zAr T 0 a5_7 n4 f5, zAr T 0 a6_8 n4 f6], z] _ _ := G.re rfl
      exact z_back hQ9 (z_zret C hr hlocks G (Nat.le_of_ble_eq_true rfl) (Nat.le_of_ble_eq_true rfl) dX3_isSo_44 rfl ⟨rfl, (by first | exact Or.inl rfl | exact Or.inr rfl)⟩)
  · have h_15 : ((zEntry f5 n4 x y &&& 7).toInt < 0 ∨ cr.toInt ≤ (zEntry f5 n4 x y &&& 7).toInt ∨ 7 ≤ (zEntry f5 n4 x y &&& 7).toInt ∨ zBit inn (zEntry f5 n4 x y &&& 7) = 0) := h_15
    refine lv_if_eq (tgt := 34) hx hb dX3_isSo_17 (by decide) (fun _ => ?_) (fun q => absurd (by decide) q)
    refine lv_iload_n hx hb dX3_isSo_34 rfl (lv_at hl 4 rfl) ?_
    refine lv_iconst (v := (-1)) hx hb dX3_isSo_35 (by decide) ?_
    refine lv_icmp_ne (tgt := 43) hx hb dX3_isSo_36 (by decide) (fun c_19 => ?_) (fun c_19 => ?_)
    · have c_19n : ¬ q.toInt = (-1 : Int) := fun q => c_19 ((fa_eq _ _).mpr q)
      refine lv_iconst (v := 0) hx hb dX3_isSo_43 (by decide) ?_
      have hw_20 : bWays T h la md wy pc_ f1 f2 f3 f4 f5 f6 n4 [zO0 h md wy la pc_ a1_3 a2_4 a3_5 a4_6 a5_7 a6_8, zAr T 0 a1_3 7 f1, zAr T 0 a2_4 7 f2, zAr T 0 a3_5 7 f3, zAr T 0 a4_6 n4 f4, zAr T 0 a5_7 n4 f5, zAr T 0 a6_8 n4 f6] := ⟨a1_3, a2_4, a3_5, a4_6, a5_7, a6_8, rfl⟩
      have G : zS T A s.heap s [[zO0 h md wy la pc_ a1_3 a2_4 a3_5 a4_6 a5_7 a6_8, zAr T 0 a1_3 7 f1, zAr T 0 a2_4 7 f2, zAr T 0 a3_5 7 f3, zAr T 0 a4_6 n4 f4, zAr T 0 a5_7 n4 f5, zAr T 0 a6_8 n4 f6], z] _ _ := G.re rfl
      exact z_back hQ9 (z_zret C hr hlocks G (Nat.le_of_ble_eq_true rfl) (Nat.le_of_ble_eq_true rfl) dX3_isSo_44 rfl ⟨rfl, (by first | exact Or.inl rfl | exact Or.inr rfl)⟩)
    · have c_19n : q.toInt = (-1 : Int) := (fa_eq _ _).mp c_19
      refine lv_iconst (v := 1) hx hb dX3_isSo_39 (by decide) ?_
      refine lv_goto (tgt := 44) hx hb dX3_isSo_40 (by decide) ?_
      have hw_21 : bWays T h la md wy pc_ f1 f2 f3 f4 f5 f6 n4 [zO0 h md wy la pc_ a1_3 a2_4 a3_5 a4_6 a5_7 a6_8, zAr T 0 a1_3 7 f1, zAr T 0 a2_4 7 f2, zAr T 0 a3_5 7 f3, zAr T 0 a4_6 n4 f4, zAr T 0 a5_7 n4 f5, zAr T 0 a6_8 n4 f6] := ⟨a1_3, a2_4, a3_5, a4_6, a5_7, a6_8, rfl⟩
      have G : zS T A s.heap s [[zO0 h md wy la pc_ a1_3 a2_4 a3_5 a4_6 a5_7 a6_8, zAr T 0 a1_3 7 f1, zAr T 0 a2_4 7 f2, zAr T 0 a3_5 7 f3, zAr T 0 a4_6 n4 f4, zAr T 0 a5_7 n4 f5, zAr T 0 a6_8 n4 f6], z] _ _ := G.re rfl
      exact z_back hQ9 (z_zret C hr hlocks G (Nat.le_of_ble_eq_true rfl) (Nat.le_of_ble_eq_true rfl) dX3_isSo_44 rfl ⟨rfl, (by first | exact Or.inl rfl | exact Or.inr rfl)⟩)
set_option maxHeartbeats 4000000 in
set_option maxRecDepth 100000 in
/-- c_mostTogether -/
theorem c_mostTogether (l : Launch) (T : zTy) (t : Nat) (e0 : Int32) (e1 : Int32) (e2 : Int32) (e3 : Int32) (e4 : Int32) (e5 : Int32) (r1 : Nat → Int32) (m1 : Nat) (r2 : Nat → Int32) (wf : va_W) (h : Nat) (la : Nat) (md : Int32) (wy : Int32) (pc_ : Int32) (f1 : Nat → Int32) (f2 : Nat → Int32) (f3 : Nat → Int32) (f4 : Nat → Int32) (f5 : Nat → Int32) (f6 : Nat → Int32) (n4 : Nat) (ww : va_W) (x : Int32) (hwf : bFit T t e0 e1 e2 e3 e4 e5 r1 m1 r2 wf) (hww : bWays T h la md wy pc_ f1 f2 f3 f4 f5 f6 n4 ww) (hn : n4 ≤ 131072) (hm : m1 ≤ 16384) : zMi l T yX3_mostTogether cX3_mostTogether 6 (some .int) 3 0 0 [.ref t, .ref h, .int x] [wf, ww] (fun (r : Int32) bs => ∃ (w2 : va_W) (g2 : Nat → Int32), bs = [w2, ww] ∧ bFit T t e0 e1 e2 e3 e4 e5 r1 m1 g2 w2) := by
  refine zMi_of (own := RX3) (by decide) rfl (Nat.le_of_ble_eq_true rfl) ?_
  intro p e s m args below meth c A ls C hr hlocks hnm hAe G hl
  refine zHide (fun Q9 hQ9 => ?_)
  have hx := C.1
  have hb := C.2.1
  have hl : lv_has ls 6 [(0, .ref t), (1, .ref h), (2, .int x)] := hl
  have hge := Int32.toInt_lt e3
  refine lv_iconst (v := 0) hx hb dX3_mostTogether_0 (by decide) ?_
  refine lv_istore_n (lv' := [(3, .int 0), (0, .ref t), (1, .ref h), (2, .int x)]) hx hb dX3_mostTogether_1 rfl hl (by decide) rfl (fun ls hl => ?_)
  refine zEx2 hwf ?_
  intro a1_1 a2_2 hbs9
  clear hwf
  subst hbs9
  have G : zS T A s.heap s [[zO3 t e0 e1 e2 e3 e4 e5 a1_1 a2_2], [zAr T 0 a1_1 m1 r1], [zAr T 0 a2_2 7 r2], ww] _ _ := G.re rfl
  have hw_3 : bFit T t e0 e1 e2 e3 e4 e5 r1 m1 r2 [zO3 t e0 e1 e2 e3 e4 e5 a1_1 a2_2, zAr T 0 a1_1 m1 r1, zAr T 0 a2_2 7 r2] := ⟨a1_1, a2_2, rfl⟩
  have G : zS T A s.heap s [[zO3 t e0 e1 e2 e3 e4 e5 a1_1 a2_2, zAr T 0 a1_1 m1 r1, zAr T 0 a2_2 7 r2], ww] _ _ := G.re rfl
  refine z_lp3 (T := T) 2 (fun (i : Nat) (wt : va_W) (x2 : Nat → Int32) => [wt, ww]) (fun (i : Nat) (wt : va_W) (x2 : Nat → Int32) => [(3, .int (nI i)), (0, .ref t), (1, .ref h), (2, .int x)]) (fun (i : Nat) (wt : va_W) (x2 : Nat → Int32) => bFit T t e0 e1 e2 e3 e4 e5 r1 m1 x2 wt ∧ i ≤ 7) (fun (i : Nat) (wt : va_W) (x2 : Nat → Int32) => 7 - i) ?_ 0 ([zO3 t e0 e1 e2 e3 e4 e5 a1_1 a2_2, zAr T 0 a1_1 m1 r1, zAr T 0 a2_2 7 r2]) r2 (show bFit T t e0 e1 e2 e3 e4 e5 r1 m1 r2 ([zO3 t e0 e1 e2 e3 e4 e5 a1_1 a2_2, zAr T 0 a1_1 m1 r1, zAr T 0 a2_2 7 r2]) ∧ 0 ≤ 7 from ⟨hw_3, by omega⟩) G (lv_sub hl [0, 1, 2, 3] rfl)
  intro i wt x2 hI9 ih_2 H locs ls G hl
  replace hI9 : bFit T t e0 e1 e2 e3 e4 e5 r1 m1 x2 wt ∧ i ≤ 7 := hI9
  refine zAn2 hI9 ?_
  intro hwt hi
  clear hI9
  replace G : zS T A s.heap s [wt, ww] _ _ := G
  replace hl : lv_has ls 6 [(3, .int (nI i)), (0, .ref t), (1, .ref h), (2, .int x)] := hl
  refine lv_iload_n hx hb dX3_mostTogether_2 rfl (lv_at hl 0 rfl) ?_
  refine lv_bipush (v := 7) hx hb dX3_mostTogether_3 (by decide) ?_
  refine lv_icmp_ge (tgt := 21) hx hb dX3_mostTogether_5 (by decide) (fun c_4 => ?_) (fun c_4 => ?_)
  · have c_4n : 7 ≤ i := (nI_leI (a := 7) (b := i) (by omega) (by omega)).mp c_4
    refine lv_iconst (v := 0) hx hb dX3_mostTogether_21 (by decide) ?_
    refine lv_istore_n (lv' := [(3, .int 0), (0, .ref t), (1, .ref h), (2, .int x)]) hx hb dX3_mostTogether_22 rfl hl (by decide) rfl (fun ls hl => ?_)
    refine lv_iconst (v := 0) hx hb dX3_mostTogether_23 (by decide) ?_
    refine lv_istore (lv' := [(4, .int 0), (3, .int 0), (0, .ref t), (1, .ref h), (2, .int x)]) hx hb dX3_mostTogether_24 hl (by decide) rfl (fun ls hl => ?_)
    refine zEx2 hwt ?_
    intro a1_5 a2_6 hbs9
    clear hwt
    subst hbs9
    have G : zS T A s.heap s [[zO3 t e0 e1 e2 e3 e4 e5 a1_5 a2_6], [zAr T 0 a1_5 m1 r1], [zAr T 0 a2_6 7 x2], ww] _ _ := G.re rfl
    have hw_7 : bFit T t e0 e1 e2 e3 e4 e5 r1 m1 x2 [zO3 t e0 e1 e2 e3 e4 e5 a1_5 a2_6, zAr T 0 a1_5 m1 r1, zAr T 0 a2_6 7 x2] := ⟨a1_5, a2_6, rfl⟩
    have G : zS T A s.heap s [[zO3 t e0 e1 e2 e3 e4 e5 a1_5 a2_6, zAr T 0 a1_5 m1 r1, zAr T 0 a2_6 7 x2], ww] _ _ := G.re rfl
    refine z_lp4 (T := T) 26 (fun (i : Nat) (ui3 : Int32) (wt2 : va_W) (y2 : Nat → Int32) => [wt2, ww]) (fun (i : Nat) (ui3 : Int32) (wt2 : va_W) (y2 : Nat → Int32) => [(4, .int (nI i)), (3, .int ui3), (0, .ref t), (1, .ref h), (2, .int x)]) (fun (i : Nat) (ui3 : Int32) (wt2 : va_W) (y2 : Nat → Int32) => bFit T t e0 e1 e2 e3 e4 e5 r1 m1 y2 wt2 ∧ i ≤ e3.toInt.toNat) (fun (i : Nat) (ui3 : Int32) (wt2 : va_W) (y2 : Nat → Int32) => e3.toInt.toNat - i) ?_ 0 0 ([zO3 t e0 e1 e2 e3 e4 e5 a1_5 a2_6, zAr T 0 a1_5 m1 r1, zAr T 0 a2_6 7 x2]) x2 (show bFit T t e0 e1 e2 e3 e4 e5 r1 m1 x2 ([zO3 t e0 e1 e2 e3 e4 e5 a1_5 a2_6, zAr T 0 a1_5 m1 r1, zAr T 0 a2_6 7 x2]) ∧ 0 ≤ e3.toInt.toNat from ⟨hw_7, by omega⟩) G (lv_sub hl [0, 1, 2, 3, 4] rfl)
    intro i ui3 wt2 y2 hI9 ih_26 H locs ls G hl
    replace hI9 : bFit T t e0 e1 e2 e3 e4 e5 r1 m1 y2 wt2 ∧ i ≤ e3.toInt.toNat := hI9
    refine zAn2 hI9 ?_
    intro hwt2 hi
    clear hI9
    replace G : zS T A s.heap s [wt2, ww] _ _ := G
    replace hl : lv_has ls 6 [(4, .int (nI i)), (3, .int ui3), (0, .ref t), (1, .ref h), (2, .int x)] := hl
    refine lv_iload hx hb dX3_mostTogether_26 (lv_at hl 0 rfl) ?_
    refine lv_aload_n hx hb dX3_mostTogether_28 rfl (lv_at hl 2 rfl) ?_
    refine zEx2 hwt2 ?_
    intro a1_8 a2_9 hbs9
    clear hwt2
    subst hbs9
    have G : zS T A s.heap s [[zO3 t e0 e1 e2 e3 e4 e5 a1_8 a2_9], [zAr T 0 a1_8 m1 r1], [zAr T 0 a2_9 7 y2], ww] _ _ := G.re rfl
    refine z_get C G clX3 0 rfl 3 (by decide) m_fl_RX3_34 rfl dX3_mostTogether_29 ?_
    refine lv_icmp_ge (tgt := 98) hx hb dX3_mostTogether_32 (by decide) (fun c_10 => ?_) (fun c_10 => ?_)
    · have c_10n : e3.toInt ≤ (i : Int) := by have q := (fa_le _ _).mp c_10; rw [nI_toInt (n := i) (by omega)] at q; exact q
      refine lv_iload_n hx hb dX3_mostTogether_98 rfl (lv_at hl 1 rfl) ?_
      have hw_11 : bFit T t e0 e1 e2 e3 e4 e5 r1 m1 y2 [zO3 t e0 e1 e2 e3 e4 e5 a1_8 a2_9, zAr T 0 a1_8 m1 r1, zAr T 0 a2_9 7 y2] := ⟨a1_8, a2_9, rfl⟩
      have G : zS T A s.heap s [[zO3 t e0 e1 e2 e3 e4 e5 a1_8 a2_9, zAr T 0 a1_8 m1 r1, zAr T 0 a2_9 7 y2], ww] _ _ := G.re rfl
      exact z_back hQ9 (z_iret C hr hlocks G (Nat.le_of_ble_eq_true rfl) (Nat.le_of_ble_eq_true rfl) dX3_mostTogether_99 ⟨([zO3 t e0 e1 e2 e3 e4 e5 a1_8 a2_9, zAr T 0 a1_8 m1 r1, zAr T 0 a2_9 7 y2]), y2, rfl, hw_11⟩)
    · have c_10n : ¬ e3.toInt ≤ (i : Int) := fun q => c_10 ((fa_le _ _).mpr (by rw [nI_toInt (n := i) (by omega)]; exact q))
      refine lv_iload hx hb dX3_mostTogether_35 (lv_at hl 0 rfl) ?_
      refine lv_aload_n hx hb dX3_mostTogether_37 rfl (lv_at hl 2 rfl) ?_
      refine z_get C G clX3 0 rfl 6 (by decide) m_fl_RX3_18 rfl dX3_mostTogether_38 ?_
      refine z_alen C G 1 0 rfl (v := nI m1) rfl rfl dX3_mostTogether_41 ?_
      refine lv_icmp_ge (tgt := 98) hx hb dX3_mostTogether_42 (by decide) (fun c_12 => ?_) (fun c_12 => ?_)
      · have c_12n : m1 ≤ i := (nI_leI (a := m1) (b := i) (by omega) (by omega)).mp c_12
        refine lv_iload_n hx hb dX3_mostTogether_98 rfl (lv_at hl 1 rfl) ?_
        have hw_13 : bFit T t e0 e1 e2 e3 e4 e5 r1 m1 y2 [zO3 t e0 e1 e2 e3 e4 e5 a1_8 a2_9, zAr T 0 a1_8 m1 r1, zAr T 0 a2_9 7 y2] := ⟨a1_8, a2_9, rfl⟩
        have G : zS T A s.heap s [[zO3 t e0 e1 e2 e3 e4 e5 a1_8 a2_9, zAr T 0 a1_8 m1 r1, zAr T 0 a2_9 7 y2], ww] _ _ := G.re rfl
        exact z_back hQ9 (z_iret C hr hlocks G (Nat.le_of_ble_eq_true rfl) (Nat.le_of_ble_eq_true rfl) dX3_mostTogether_99 ⟨([zO3 t e0 e1 e2 e3 e4 e5 a1_8 a2_9, zAr T 0 a1_8 m1 r1, zAr T 0 a2_9 7 y2]), y2, rfl, hw_13⟩)
      · have c_12n : ¬ m1 ≤ i := fun q => c_12 ((nI_leI (a := m1) (b := i) (by omega) (by omega)).mpr q)
        refine lv_aload_n hx hb dX3_mostTogether_45 rfl (lv_at hl 3 rfl) ?_
        refine lv_aload_n hx hb dX3_mostTogether_46 rfl (lv_at hl 2 rfl) ?_
        refine z_get C G clX3 0 rfl 6 (by decide) m_fl_RX3_18 rfl dX3_mostTogether_47 ?_
        refine lv_iload hx hb dX3_mostTogether_50 (lv_at hl 0 rfl) ?_
        refine z_ild C G 1 rfl (vp_in_nI (by omega) (by omega)) dX3_mostTogether_52 ?_
        refine lv_topi (fun v_14 ev_14 => ?_)
        rw [nI_clamp (by omega)] at ev_14
        subst ev_14
        refine lv_bipush (v := 14) hx hb dX3_mostTogether_53 (by decide) ?_
        refine lv_ishr hx hb dX3_mostTogether_55 ?_
        refine lv_iload_n hx hb dX3_mostTogether_56 rfl (lv_at hl 4 rfl) ?_
        refine z_Vi (bc := [ww]) (br := [[zO3 t e0 e1 e2 e3 e4 e5 a1_8 a2_9], [zAr T 0 a1_8 m1 r1], [zAr T 0 a2_9 7 y2]]) (As := [.int ((r1 i) >>> (14 &&& 31)), .int x]) (rest := []) C G (c_where l T h la md wy pc_ f1 f2 f3 f4 f5 f6 n4 ww ((r1 i) >>> (14 &&& 31)) x hww (by first | with_reducible assumption | with_reducible rfl | omega | assumption | rfl)) (kV_RX3_86 C.2.2.2.2 (Nat.le_of_ble_eq_true rfl) (Nat.le_of_ble_eq_true rfl)) [3] [3] rfl rfl (ci := 0) (qc := (RX0, TX0, 10)) rfl rfl (List.mem_flatten.mpr ⟨_, List.mem_of_getElem? (i := 0) rfl, (bWays_mem hww).choose_spec⟩) rfl rfl hl.1 dX3_mostTogether_57 (Nat.le_of_ble_eq_true rfl) (Nat.le_of_ble_eq_true rfl) (fun r_16 b1 H locs hw G => ?_)
        refine zAn2 hw ?_
        intro hbs9 h_15
        clear hw
        subst hbs9
        have G : zS T A s.heap s [[zO3 t e0 e1 e2 e3 e4 e5 a1_8 a2_9], [zAr T 0 a1_8 m1 r1], [zAr T 0 a2_9 7 y2], ww] _ _ := G
        subst h_15
        refine lv_istore (lv' := [(5, .int (zEntry f5 n4 ((r1 i) >>> (14 &&& 31)) x &&& 7)), (4, .int (nI i)), (3, .int ui3), (0, .ref t), (1, .ref h), (2, .int x)]) hx hb dX3_mostTogether_60 hl (by decide) rfl (fun ls hl => ?_)
        refine lv_iload hx hb dX3_mostTogether_62 (lv_at hl 0 rfl) ?_
        refine lv_bipush (v := 7) hx hb dX3_mostTogether_64 (by decide) ?_
        refine lv_icmp_ge (tgt := 92) hx hb dX3_mostTogether_66 (by decide) (fun c_17 => ?_) (fun c_17 => ?_)
        · have c_17n : (7 : Int) ≤ (zEntry f5 n4 ((r1 i) >>> (14 &&& 31)) x &&& 7).toInt := (fa_le _ _).mp c_17
          refine lv_iinc (v := nI (i + 1)) (lv' := [(4, .int (nI (i + 1))), (5, .int (zEntry f5 n4 ((r1 i) >>> (14 &&& 31)) x &&& 7)), (3, .int ui3), (0, .ref t), (1, .ref h), (2, .int x)]) hx hb dX3_mostTogether_92 hl (k := 1) rfl (z_inc i 1) (by decide) rfl (fun ls hl => ?_)
          refine lv_goto (tgt := 26) hx hb dX3_mostTogether_95 (by decide) ?_
          have hw_18 : bFit T t e0 e1 e2 e3 e4 e5 r1 m1 y2 [zO3 t e0 e1 e2 e3 e4 e5 a1_8 a2_9, zAr T 0 a1_8 m1 r1, zAr T 0 a2_9 7 y2] := ⟨a1_8, a2_9, rfl⟩
          have G : zS T A s.heap s [[zO3 t e0 e1 e2 e3 e4 e5 a1_8 a2_9, zAr T 0 a1_8 m1 r1, zAr T 0 a2_9 7 y2], ww] _ _ := G.re rfl
          exact ih_26 (i + 1) ui3 ([zO3 t e0 e1 e2 e3 e4 e5 a1_8 a2_9, zAr T 0 a1_8 m1 r1, zAr T 0 a2_9 7 y2]) y2 (show bFit T t e0 e1 e2 e3 e4 e5 r1 m1 y2 ([zO3 t e0 e1 e2 e3 e4 e5 a1_8 a2_9, zAr T 0 a1_8 m1 r1, zAr T 0 a2_9 7 y2]) ∧ (i + 1) ≤ e3.toInt.toNat from ⟨hw_18, by omega⟩) (show e3.toInt.toNat - (i + 1) < e3.toInt.toNat - i from by omega) _ _ ls G (lv_sub hl [0, 2, 3, 4, 5] rfl)
        · have c_17n : ¬ (7 : Int) ≤ (zEntry f5 n4 ((r1 i) >>> (14 &&& 31)) x &&& 7).toInt := fun q => c_17 ((fa_le _ _).mpr q)
          refine lv_aload_n hx hb dX3_mostTogether_69 rfl (lv_at hl 3 rfl) ?_
          refine z_get C G clX3 0 rfl 7 (by decide) m_fl_RX3_22 rfl dX3_mostTogether_70 ?_
          refine lv_iload hx hb dX3_mostTogether_73 (lv_at hl 0 rfl) ?_
          refine lv_dup2_11 hx hb dX3_mostTogether_75 rfl rfl ?_
          refine z_ild C G 2 rfl (vp_in_iff.mpr ⟨(z_and7 _).1, by omega⟩) dX3_mostTogether_76 ?_
          refine lv_topi (fun v_19 ev_19 => ?_)
          subst ev_19
          refine lv_iconst (v := 1) hx hb dX3_mostTogether_77 (by decide) ?_
          refine lv_iadd hx hb dX3_mostTogether_78 ?_
          refine z_ist C G 2 rfl (vp_in_iff.mpr ⟨(z_and7 _).1, by omega⟩) dX3_mostTogether_79 (fun H locs G => ?_)
          have G : zS T A s.heap s [[zO3 t e0 e1 e2 e3 e4 e5 a1_8 a2_9], [zAr T 0 a1_8 m1 r1], [zAr T 0 a2_9 7 (upd y2 (zEntry f5 n4 ((r1 i) >>> (14 &&& 31)) x &&& 7).toNatClampNeg ((y2 (zEntry f5 n4 ((r1 i) >>> (14 &&& 31)) x &&& 7).toNatClampNeg) + 1))], ww] _ _ := G
          refine lv_iload_n hx hb dX3_mostTogether_80 rfl (lv_at hl 2 rfl) ?_
          refine lv_aload_n hx hb dX3_mostTogether_81 rfl (lv_at hl 3 rfl) ?_
          refine z_get C G clX3 0 rfl 7 (by decide) m_fl_RX3_22 rfl dX3_mostTogether_82 ?_
          refine lv_iload hx hb dX3_mostTogether_85 (lv_at hl 0 rfl) ?_
          refine z_ild C G 2 rfl (vp_in_iff.mpr ⟨(z_and7 _).1, by omega⟩) dX3_mostTogether_87 ?_
          refine lv_topi (fun v_20 ev_20 => ?_)
          subst ev_20
          refine va_mmax hx hb (C.2.2.1.trans hl.1.symm) C.2.2.2.1 (C.2.2.2.2 _ m_ml_RX3_83) (C.2.2.2.2 _ m_st_math_max) (C.2.2.2.2 _ m_ii_math) (C.2.2.2.2 _ m_co_math_max) (Nat.le_of_ble_eq_true rfl) (Nat.le_of_ble_eq_true rfl) (Nat.le_of_ble_eq_true rfl) (Nat.le_of_ble_eq_true rfl) dX3_mostTogether_88 ?_
          refine lv_topi (fun v_21 ev_21 => ?_)
          subst ev_21
          refine lv_istore_n (lv' := [(3, .int (if ui3 < ((upd y2 (zEntry f5 n4 ((r1 i) >>> (14 &&& 31)) x &&& 7).toNatClampNeg ((y2 (zEntry f5 n4 ((r1 i) >>> (14 &&& 31)) x &&& 7).toNatClampNeg) + 1)) (zEntry f5 n4 ((r1 i) >>> (14 &&& 31)) x &&& 7).toNatClampNeg) then ((upd y2 (zEntry f5 n4 ((r1 i) >>> (14 &&& 31)) x &&& 7).toNatClampNeg ((y2 (zEntry f5 n4 ((r1 i) >>> (14 &&& 31)) x &&& 7).toNatClampNeg) + 1)) (zEntry f5 n4 ((r1 i) >>> (14 &&& 31)) x &&& 7).toNatClampNeg) else ui3)), (5, .int (zEntry f5 n4 ((r1 i) >>> (14 &&& 31)) x &&& 7)), (4, .int (nI i)), (0, .ref t), (1, .ref h), (2, .int x)]) hx hb dX3_mostTogether_91 rfl hl (by decide) rfl (fun ls hl => ?_)
          refine lv_iinc (v := nI (i + 1)) (lv' := [(4, .int (nI (i + 1))), (3, .int (if ui3 < ((upd y2 (zEntry f5 n4 ((r1 i) >>> (14 &&& 31)) x &&& 7).toNatClampNeg ((y2 (zEntry f5 n4 ((r1 i) >>> (14 &&& 31)) x &&& 7).toNatClampNeg) + 1)) (zEntry f5 n4 ((r1 i) >>> (14 &&& 31)) x &&& 7).toNatClampNeg) then ((upd y2 (zEntry f5 n4 ((r1 i) >>> (14 &&& 31)) x &&& 7).toNatClampNeg ((y2 (zEntry f5 n4 ((r1 i) >>> (14 &&& 31)) x &&& 7).toNatClampNeg) + 1)) (zEntry f5 n4 ((r1 i) >>> (14 &&& 31)) x &&& 7).toNatClampNeg) else ui3)), (5, .int (zEntry f5 n4 ((r1 i) >>> (14 &&& 31)) x &&& 7)), (0, .ref t), (1, .ref h), (2, .int x)]) hx hb dX3_mostTogether_92 hl (k := 2) rfl (z_inc i 1) (by decide) rfl (fun ls hl => ?_)
          refine lv_goto (tgt := 26) hx hb dX3_mostTogether_95 (by decide) ?_
          have hw_22 : bFit T t e0 e1 e2 e3 e4 e5 r1 m1 (upd y2 (zEntry f5 n4 ((r1 i) >>> (14 &&& 31)) x &&& 7).toNatClampNeg ((y2 (zEntry f5 n4 ((r1 i) >>> (14 &&& 31)) x &&& 7).toNatClampNeg) + 1)) [zO3 t e0 e1 e2 e3 e4 e5 a1_8 a2_9, zAr T 0 a1_8 m1 r1, zAr T 0 a2_9 7 (upd y2 (zEntry f5 n4 ((r1 i) >>> (14 &&& 31)) x &&& 7).toNatClampNeg ((y2 (zEntry f5 n4 ((r1 i) >>> (14 &&& 31)) x &&& 7).toNatClampNeg) + 1))] := ⟨a1_8, a2_9, rfl⟩
          have G : zS T A s.heap s [[zO3 t e0 e1 e2 e3 e4 e5 a1_8 a2_9, zAr T 0 a1_8 m1 r1, zAr T 0 a2_9 7 (upd y2 (zEntry f5 n4 ((r1 i) >>> (14 &&& 31)) x &&& 7).toNatClampNeg ((y2 (zEntry f5 n4 ((r1 i) >>> (14 &&& 31)) x &&& 7).toNatClampNeg) + 1))], ww] _ _ := G.re rfl
          exact ih_26 (i + 1) (if ui3 < ((upd y2 (zEntry f5 n4 ((r1 i) >>> (14 &&& 31)) x &&& 7).toNatClampNeg ((y2 (zEntry f5 n4 ((r1 i) >>> (14 &&& 31)) x &&& 7).toNatClampNeg) + 1)) (zEntry f5 n4 ((r1 i) >>> (14 &&& 31)) x &&& 7).toNatClampNeg) then ((upd y2 (zEntry f5 n4 ((r1 i) >>> (14 &&& 31)) x &&& 7).toNatClampNeg ((y2 (zEntry f5 n4 ((r1 i) >>> (14 &&& 31)) x &&& 7).toNatClampNeg) + 1)) (zEntry f5 n4 ((r1 i) >>> (14 &&& 31)) x &&& 7).toNatClampNeg) else ui3) ([zO3 t e0 e1 e2 e3 e4 e5 a1_8 a2_9, zAr T 0 a1_8 m1 r1, zAr T 0 a2_9 7 (upd y2 (zEntry f5 n4 ((r1 i) >>> (14 &&& 31)) x &&& 7).toNatClampNeg ((y2 (zEntry f5 n4 ((r1 i) >>> (14 &&& 31)) x &&& 7).toNatClampNeg) + 1))]) (upd y2 (zEntry f5 n4 ((r1 i) >>> (14 &&& 31)) x &&& 7).toNatClampNeg ((y2 (zEntry f5 n4 ((r1 i) >>> (14 &&& 31)) x &&& 7).toNatClampNeg) + 1)) (show bFit T t e0 e1 e2 e3 e4 e5 r1 m1 (upd y2 (zEntry f5 n4 ((r1 i) >>> (14 &&& 31)) x &&& 7).toNatClampNeg ((y2 (zEntry f5 n4 ((r1 i) >>> (14 &&& 31)) x &&& 7).toNatClampNeg) + 1)) ([zO3 t e0 e1 e2 e3 e4 e5 a1_8 a2_9, zAr T 0 a1_8 m1 r1, zAr T 0 a2_9 7 (upd y2 (zEntry f5 n4 ((r1 i) >>> (14 &&& 31)) x &&& 7).toNatClampNeg ((y2 (zEntry f5 n4 ((r1 i) >>> (14 &&& 31)) x &&& 7).toNatClampNeg) + 1))]) ∧ (i + 1) ≤ e3.toInt.toNat from ⟨hw_22, by omega⟩) (show e3.toInt.toNat - (i + 1) < e3.toInt.toNat - i from by omega) _ _ ls G (lv_sub hl [0, 1, 3, 4, 5] rfl)
  · have c_4n : ¬ 7 ≤ i := fun q => c_4 ((nI_leI (a := 7) (b := i) (by omega) (by omega)).mpr q)
    refine lv_aload_n hx hb dX3_mostTogether_8 rfl (lv_at hl 1 rfl) ?_
    refine zEx2 hwt ?_
    intro a1_23 a2_24 hbs9
    clear hwt
    subst hbs9
    have G : zS T A s.heap s [[zO3 t e0 e1 e2 e3 e4 e5 a1_23 a2_24], [zAr T 0 a1_23 m1 r1], [zAr T 0 a2_24 7 x2], ww] _ _ := G.re rfl
    refine z_get C G clX3 0 rfl 7 (by decide) m_fl_RX3_22 rfl dX3_mostTogether_9 ?_
    refine lv_iload_n hx hb dX3_mostTogether_12 rfl (lv_at hl 0 rfl) ?_
    refine lv_iconst (v := 0) hx hb dX3_mostTogether_13 (by decide) ?_
    refine z_ist C G 2 rfl (vp_in_nI (by omega) (by omega)) dX3_mostTogether_14 (fun H locs G => ?_)
    rw [nI_clamp (by omega)] at G
    have G : zS T A s.heap s [[zO3 t e0 e1 e2 e3 e4 e5 a1_23 a2_24], [zAr T 0 a1_23 m1 r1], [zAr T 0 a2_24 7 (upd x2 i 0)], ww] _ _ := G
    refine lv_iinc (v := nI (i + 1)) (lv' := [(3, .int (nI (i + 1))), (0, .ref t), (1, .ref h), (2, .int x)]) hx hb dX3_mostTogether_15 hl (k := 0) rfl (z_inc i 1) (by decide) rfl (fun ls hl => ?_)
    refine lv_goto (tgt := 2) hx hb dX3_mostTogether_18 (by decide) ?_
    have hw_25 : bFit T t e0 e1 e2 e3 e4 e5 r1 m1 (upd x2 i 0) [zO3 t e0 e1 e2 e3 e4 e5 a1_23 a2_24, zAr T 0 a1_23 m1 r1, zAr T 0 a2_24 7 (upd x2 i 0)] := ⟨a1_23, a2_24, rfl⟩
    have G : zS T A s.heap s [[zO3 t e0 e1 e2 e3 e4 e5 a1_23 a2_24, zAr T 0 a1_23 m1 r1, zAr T 0 a2_24 7 (upd x2 i 0)], ww] _ _ := G.re rfl
    exact ih_2 (i + 1) ([zO3 t e0 e1 e2 e3 e4 e5 a1_23 a2_24, zAr T 0 a1_23 m1 r1, zAr T 0 a2_24 7 (upd x2 i 0)]) (upd x2 i 0) (show bFit T t e0 e1 e2 e3 e4 e5 r1 m1 (upd x2 i 0) ([zO3 t e0 e1 e2 e3 e4 e5 a1_23 a2_24, zAr T 0 a1_23 m1 r1, zAr T 0 a2_24 7 (upd x2 i 0)]) ∧ (i + 1) ≤ 7 from ⟨hw_25, by omega⟩) (show 7 - (i + 1) < 7 - i from by omega) _ _ ls G (lv_sub hl [0, 1, 2, 3] rfl)
set_option maxHeartbeats 4000000 in
set_option maxRecDepth 100000 in
/-- c_ask -/
theorem c_ask (l : Launch) (T : zTy) (t : Nat) (e0 : Int32) (e1 : Int32) (e2 : Int32) (e3 : Int32) (e4 : Int32) (e5 : Int32) (r1 : Nat → Int32) (m1 : Nat) (r2 : Nat → Int32) (wf : va_W) (h : Nat) (la : Nat) (md : Int32) (wy : Int32) (pc_ : Int32) (f1 : Nat → Int32) (f2 : Nat → Int32) (f3 : Nat → Int32) (f4 : Nat → Int32) (f5 : Nat → Int32) (f6 : Nat → Int32) (n4 : Nat) (ww : va_W) (cr : Int32) (inn : Int32) (k1 : Nat → Int32) (k2 : Nat → Int32) (k3 : Nat → Int32) (k4 : Nat → Int32) (z : va_W) (hwf : bFit T t e0 e1 e2 e3 e4 e5 r1 m1 r2 wf) (hww : bWays T h la md wy pc_ f1 f2 f3 f4 f5 f6 n4 ww) (hz : bLand T la cr inn k1 k2 k3 k4 z) (hn : n4 ≤ 131072) (hm : m1 ≤ 16384) (hI : zLI cr k1 k3) : zMi l T yX3_ask cX3_ask 6 (some .int) 4 0 0 [.ref t, .ref h] [wf, ww, z] (fun (r : Int32) bs => ∃ (w2 : va_W) (g2 : Nat → Int32), bs = [w2, ww, z] ∧ bFit T t e0 e1 e2 e3 e4 e5 r1 m1 g2 w2) := by
  refine zMi_of (own := RX3) (by decide) rfl (Nat.le_of_ble_eq_true rfl) ?_
  intro p e s m args below meth c A ls C hr hlocks hnm hAe G hl
  refine zHide (fun Q9 hQ9 => ?_)
  have hx := C.1
  have hb := C.2.1
  have hl : lv_has ls 6 [(0, .ref t), (1, .ref h)] := hl
  have hcr := hI.1
  refine lv_iconst (v := (-1)) hx hb dX3_ask_0 (by decide) ?_
  refine lv_istore_n (lv' := [(2, .int (-1)), (0, .ref t), (1, .ref h)]) hx hb dX3_ask_1 rfl hl (by decide) rfl (fun ls hl => ?_)
  refine lv_iconst (v := 0) hx hb dX3_ask_2 (by decide) ?_
  refine lv_istore_n (lv' := [(3, .int 0), (2, .int (-1)), (0, .ref t), (1, .ref h)]) hx hb dX3_ask_3 rfl hl (by decide) rfl (fun ls hl => ?_)
  refine lv_iconst (v := 0) hx hb dX3_ask_4 (by decide) ?_
  refine lv_istore (lv' := [(4, .int 0), (3, .int 0), (2, .int (-1)), (0, .ref t), (1, .ref h)]) hx hb dX3_ask_5 hl (by decide) rfl (fun ls hl => ?_)
  refine zEx2 hwf ?_
  intro a1_1 a2_2 hbs9
  clear hwf
  subst hbs9
  have G : zS T A s.heap s [[zO3 t e0 e1 e2 e3 e4 e5 a1_1 a2_2], [zAr T 0 a1_1 m1 r1], [zAr T 0 a2_2 7 r2], ww, z] _ _ := G.re rfl
  refine zEx6 hww ?_
  intro a1_3 a2_4 a3_5 a4_6 a5_7 a6_8 hbs9
  clear hww
  subst hbs9
  have G : zS T A s.heap s [[zO3 t e0 e1 e2 e3 e4 e5 a1_1 a2_2], [zAr T 0 a1_1 m1 r1], [zAr T 0 a2_2 7 r2], [zO0 h md wy la pc_ a1_3 a2_4 a3_5 a4_6 a5_7 a6_8], [zAr T 0 a1_3 7 f1], [zAr T 0 a2_4 7 f2], [zAr T 0 a3_5 7 f3], [zAr T 0 a4_6 n4 f4], [zAr T 0 a5_7 n4 f5], [zAr T 0 a6_8 n4 f6], z] _ _ := G.re rfl
  refine zEx4 hz ?_
  intro a1_9 a2_10 a3_11 a4_12 hbs9
  clear hz
  subst hbs9
  have G : zS T A s.heap s [[zO3 t e0 e1 e2 e3 e4 e5 a1_1 a2_2], [zAr T 0 a1_1 m1 r1], [zAr T 0 a2_2 7 r2], [zO0 h md wy la pc_ a1_3 a2_4 a3_5 a4_6 a5_7 a6_8], [zAr T 0 a1_3 7 f1], [zAr T 0 a2_4 7 f2], [zAr T 0 a3_5 7 f3], [zAr T 0 a4_6 n4 f4], [zAr T 0 a5_7 n4 f5], [zAr T 0 a6_8 n4 f6], [zO4 la cr inn a1_9 a2_10 a3_11 a4_12], [zAr T 0 a1_9 7 k1], [zAr T 0 a2_10 28 k2], [zAr T 0 a3_11 7 k3], [zAr T 0 a4_12 7 k4]] _ _ := G.re rfl
  have hw_13 : bFit T t e0 e1 e2 e3 e4 e5 r1 m1 r2 [zO3 t e0 e1 e2 e3 e4 e5 a1_1 a2_2, zAr T 0 a1_1 m1 r1, zAr T 0 a2_2 7 r2] := ⟨a1_1, a2_2, rfl⟩
  have G : zS T A s.heap s [[zO3 t e0 e1 e2 e3 e4 e5 a1_1 a2_2, zAr T 0 a1_1 m1 r1, zAr T 0 a2_2 7 r2], [zO0 h md wy la pc_ a1_3 a2_4 a3_5 a4_6 a5_7 a6_8], [zAr T 0 a1_3 7 f1], [zAr T 0 a2_4 7 f2], [zAr T 0 a3_5 7 f3], [zAr T 0 a4_6 n4 f4], [zAr T 0 a5_7 n4 f5], [zAr T 0 a6_8 n4 f6], [zO4 la cr inn a1_9 a2_10 a3_11 a4_12], [zAr T 0 a1_9 7 k1], [zAr T 0 a2_10 28 k2], [zAr T 0 a3_11 7 k3], [zAr T 0 a4_12 7 k4]] _ _ := G.re rfl
  have hw_14 : bWays T h la md wy pc_ f1 f2 f3 f4 f5 f6 n4 [zO0 h md wy la pc_ a1_3 a2_4 a3_5 a4_6 a5_7 a6_8, zAr T 0 a1_3 7 f1, zAr T 0 a2_4 7 f2, zAr T 0 a3_5 7 f3, zAr T 0 a4_6 n4 f4, zAr T 0 a5_7 n4 f5, zAr T 0 a6_8 n4 f6] := ⟨a1_3, a2_4, a3_5, a4_6, a5_7, a6_8, rfl⟩
  have G : zS T A s.heap s [[zO3 t e0 e1 e2 e3 e4 e5 a1_1 a2_2, zAr T 0 a1_1 m1 r1, zAr T 0 a2_2 7 r2], [zO0 h md wy la pc_ a1_3 a2_4 a3_5 a4_6 a5_7 a6_8, zAr T 0 a1_3 7 f1, zAr T 0 a2_4 7 f2, zAr T 0 a3_5 7 f3, zAr T 0 a4_6 n4 f4, zAr T 0 a5_7 n4 f5, zAr T 0 a6_8 n4 f6], [zO4 la cr inn a1_9 a2_10 a3_11 a4_12], [zAr T 0 a1_9 7 k1], [zAr T 0 a2_10 28 k2], [zAr T 0 a3_11 7 k3], [zAr T 0 a4_12 7 k4]] _ _ := G.re rfl
  have hw_15 : bLand T la cr inn k1 k2 k3 k4 [zO4 la cr inn a1_9 a2_10 a3_11 a4_12, zAr T 0 a1_9 7 k1, zAr T 0 a2_10 28 k2, zAr T 0 a3_11 7 k3, zAr T 0 a4_12 7 k4] := ⟨a1_9, a2_10, a3_11, a4_12, rfl⟩
  have G : zS T A s.heap s [[zO3 t e0 e1 e2 e3 e4 e5 a1_1 a2_2, zAr T 0 a1_1 m1 r1, zAr T 0 a2_2 7 r2], [zO0 h md wy la pc_ a1_3 a2_4 a3_5 a4_6 a5_7 a6_8, zAr T 0 a1_3 7 f1, zAr T 0 a2_4 7 f2, zAr T 0 a3_5 7 f3, zAr T 0 a4_6 n4 f4, zAr T 0 a5_7 n4 f5, zAr T 0 a6_8 n4 f6], [zO4 la cr inn a1_9 a2_10 a3_11 a4_12, zAr T 0 a1_9 7 k1, zAr T 0 a2_10 28 k2, zAr T 0 a3_11 7 k3, zAr T 0 a4_12 7 k4]] _ _ := G.re rfl
  refine z_lp5 (T := T) 7 (fun (i : Nat) (u2 : Int32) (u3 : Int32) (wt2 : va_W) (y2 : Nat → Int32) => [wt2, [zO0 h md wy la pc_ a1_3 a2_4 a3_5 a4_6 a5_7 a6_8, zAr T 0 a1_3 7 f1, zAr T 0 a2_4 7 f2, zAr T 0 a3_5 7 f3, zAr T 0 a4_6 n4 f4, zAr T 0 a5_7 n4 f5, zAr T 0 a6_8 n4 f6], [zO4 la cr inn a1_9 a2_10 a3_11 a4_12, zAr T 0 a1_9 7 k1, zAr T 0 a2_10 28 k2, zAr T 0 a3_11 7 k3, zAr T 0 a4_12 7 k4]]) (fun (i : Nat) (u2 : Int32) (u3 : Int32) (wt2 : va_W) (y2 : Nat → Int32) => [(4, .int (nI i)), (3, .int u3), (2, .int u2), (0, .ref t), (1, .ref h)]) (fun (i : Nat) (u2 : Int32) (u3 : Int32) (wt2 : va_W) (y2 : Nat → Int32) => bFit T t e0 e1 e2 e3 e4 e5 r1 m1 y2 wt2 ∧ i ≤ cr.toInt.toNat) (fun (i : Nat) (u2 : Int32) (u3 : Int32) (wt2 : va_W) (y2 : Nat → Int32) => cr.toInt.toNat - i) ?_ 0 (-1) 0 ([zO3 t e0 e1 e2 e3 e4 e5 a1_1 a2_2, zAr T 0 a1_1 m1 r1, zAr T 0 a2_2 7 r2]) r2 (show bFit T t e0 e1 e2 e3 e4 e5 r1 m1 r2 ([zO3 t e0 e1 e2 e3 e4 e5 a1_1 a2_2, zAr T 0 a1_1 m1 r1, zAr T 0 a2_2 7 r2]) ∧ 0 ≤ cr.toInt.toNat from ⟨hw_13, by omega⟩) G (lv_sub hl [0, 1, 2, 3, 4] rfl)
  intro i u2 u3 wt2 y2 hI9 ih_7 H locs ls G hl
  replace hI9 : bFit T t e0 e1 e2 e3 e4 e5 r1 m1 y2 wt2 ∧ i ≤ cr.toInt.toNat := hI9
  refine zAn2 hI9 ?_
  intro hwt2 hi
  clear hI9
  replace G : zS T A s.heap s [wt2, [zO0 h md wy la pc_ a1_3 a2_4 a3_5 a4_6 a5_7 a6_8, zAr T 0 a1_3 7 f1, zAr T 0 a2_4 7 f2, zAr T 0 a3_5 7 f3, zAr T 0 a4_6 n4 f4, zAr T 0 a5_7 n4 f5, zAr T 0 a6_8 n4 f6], [zO4 la cr inn a1_9 a2_10 a3_11 a4_12, zAr T 0 a1_9 7 k1, zAr T 0 a2_10 28 k2, zAr T 0 a3_11 7 k3, zAr T 0 a4_12 7 k4]] _ _ := G
  replace hl : lv_has ls 6 [(4, .int (nI i)), (3, .int u3), (2, .int u2), (0, .ref t), (1, .ref h)] := hl
  refine lv_iload hx hb dX3_ask_7 (lv_at hl 0 rfl) ?_
  refine lv_aload_n hx hb dX3_ask_9 rfl (lv_at hl 4 rfl) ?_
  have G : zS T A s.heap s [wt2, [zO0 h md wy la pc_ a1_3 a2_4 a3_5 a4_6 a5_7 a6_8], [zAr T 0 a1_3 7 f1], [zAr T 0 a2_4 7 f2], [zAr T 0 a3_5 7 f3], [zAr T 0 a4_6 n4 f4], [zAr T 0 a5_7 n4 f5], [zAr T 0 a6_8 n4 f6], [zO4 la cr inn a1_9 a2_10 a3_11 a4_12, zAr T 0 a1_9 7 k1, zAr T 0 a2_10 28 k2, zAr T 0 a3_11 7 k3, zAr T 0 a4_12 7 k4]] _ _ := G.re rfl
  refine z_get C G clX0 1 rfl 2 (by decide) m_fl_RX3_55 rfl dX3_ask_10 ?_
  have G : zS T A s.heap s [wt2, [zO0 h md wy la pc_ a1_3 a2_4 a3_5 a4_6 a5_7 a6_8], [zAr T 0 a1_3 7 f1], [zAr T 0 a2_4 7 f2], [zAr T 0 a3_5 7 f3], [zAr T 0 a4_6 n4 f4], [zAr T 0 a5_7 n4 f5], [zAr T 0 a6_8 n4 f6], [zO4 la cr inn a1_9 a2_10 a3_11 a4_12], [zAr T 0 a1_9 7 k1], [zAr T 0 a2_10 28 k2], [zAr T 0 a3_11 7 k3], [zAr T 0 a4_12 7 k4]] _ _ := G.re rfl
  refine z_get C G clX4 8 rfl 0 (by decide) m_fl_RX3_103 rfl dX3_ask_13 ?_
  refine lv_icmp_ge (tgt := 70) hx hb dX3_ask_16 (by decide) (fun c_16 => ?_) (fun c_16 => ?_)
  · have c_16n : cr.toInt ≤ (i : Int) := by have q := (fa_le _ _).mp c_16; rw [nI_toInt (n := i) (by omega)] at q; exact q
    refine lv_iload_n hx hb dX3_ask_70 rfl (lv_at hl 2 rfl) ?_
    have hw_17 : bWays T h la md wy pc_ f1 f2 f3 f4 f5 f6 n4 [zO0 h md wy la pc_ a1_3 a2_4 a3_5 a4_6 a5_7 a6_8, zAr T 0 a1_3 7 f1, zAr T 0 a2_4 7 f2, zAr T 0 a3_5 7 f3, zAr T 0 a4_6 n4 f4, zAr T 0 a5_7 n4 f5, zAr T 0 a6_8 n4 f6] := ⟨a1_3, a2_4, a3_5, a4_6, a5_7, a6_8, rfl⟩
    have G : zS T A s.heap s [wt2, [zO0 h md wy la pc_ a1_3 a2_4 a3_5 a4_6 a5_7 a6_8, zAr T 0 a1_3 7 f1, zAr T 0 a2_4 7 f2, zAr T 0 a3_5 7 f3, zAr T 0 a4_6 n4 f4, zAr T 0 a5_7 n4 f5, zAr T 0 a6_8 n4 f6], [zO4 la cr inn a1_9 a2_10 a3_11 a4_12], [zAr T 0 a1_9 7 k1], [zAr T 0 a2_10 28 k2], [zAr T 0 a3_11 7 k3], [zAr T 0 a4_12 7 k4]] _ _ := G.re rfl
    have hw_18 : bLand T la cr inn k1 k2 k3 k4 [zO4 la cr inn a1_9 a2_10 a3_11 a4_12, zAr T 0 a1_9 7 k1, zAr T 0 a2_10 28 k2, zAr T 0 a3_11 7 k3, zAr T 0 a4_12 7 k4] := ⟨a1_9, a2_10, a3_11, a4_12, rfl⟩
    have G : zS T A s.heap s [wt2, [zO0 h md wy la pc_ a1_3 a2_4 a3_5 a4_6 a5_7 a6_8, zAr T 0 a1_3 7 f1, zAr T 0 a2_4 7 f2, zAr T 0 a3_5 7 f3, zAr T 0 a4_6 n4 f4, zAr T 0 a5_7 n4 f5, zAr T 0 a6_8 n4 f6], [zO4 la cr inn a1_9 a2_10 a3_11 a4_12, zAr T 0 a1_9 7 k1, zAr T 0 a2_10 28 k2, zAr T 0 a3_11 7 k3, zAr T 0 a4_12 7 k4]] _ _ := G.re rfl
    exact z_back hQ9 (z_iret C hr hlocks G (Nat.le_of_ble_eq_true rfl) (Nat.le_of_ble_eq_true rfl) dX3_ask_71 ⟨wt2, y2, rfl, hwt2⟩)
  · have c_16n : ¬ cr.toInt ≤ (i : Int) := fun q => c_16 ((fa_le _ _).mpr (by rw [nI_toInt (n := i) (by omega)]; exact q))
    refine lv_aload_n hx hb dX3_ask_19 rfl (lv_at hl 3 rfl) ?_
    refine zEx2 hwt2 ?_
    intro a1_19 a2_20 hbs9
    clear hwt2
    subst hbs9
    have G : zS T A s.heap s [[zO3 t e0 e1 e2 e3 e4 e5 a1_19 a2_20], [zAr T 0 a1_19 m1 r1], [zAr T 0 a2_20 7 y2], [zO0 h md wy la pc_ a1_3 a2_4 a3_5 a4_6 a5_7 a6_8], [zAr T 0 a1_3 7 f1], [zAr T 0 a2_4 7 f2], [zAr T 0 a3_5 7 f3], [zAr T 0 a4_6 n4 f4], [zAr T 0 a5_7 n4 f5], [zAr T 0 a6_8 n4 f6], [zO4 la cr inn a1_9 a2_10 a3_11 a4_12], [zAr T 0 a1_9 7 k1], [zAr T 0 a2_10 28 k2], [zAr T 0 a3_11 7 k3], [zAr T 0 a4_12 7 k4]] _ _ := G.re rfl
    refine z_get C G clX3 0 rfl 3 (by decide) m_fl_RX3_34 rfl dX3_ask_20 ?_
    refine lv_if_le (tgt := 70) hx hb dX3_ask_23 (by decide) (fun c_21 => ?_) (fun c_21 => ?_)
    · have c_21n : e3.toInt ≤ (0 : Int) := (fa_le _ _).mp c_21
      refine lv_iload_n hx hb dX3_ask_70 rfl (lv_at hl 2 rfl) ?_
      have hw_22 : bFit T t e0 e1 e2 e3 e4 e5 r1 m1 y2 [zO3 t e0 e1 e2 e3 e4 e5 a1_19 a2_20, zAr T 0 a1_19 m1 r1, zAr T 0 a2_20 7 y2] := ⟨a1_19, a2_20, rfl⟩
      have G : zS T A s.heap s [[zO3 t e0 e1 e2 e3 e4 e5 a1_19 a2_20, zAr T 0 a1_19 m1 r1, zAr T 0 a2_20 7 y2], [zO0 h md wy la pc_ a1_3 a2_4 a3_5 a4_6 a5_7 a6_8], [zAr T 0 a1_3 7 f1], [zAr T 0 a2_4 7 f2], [zAr T 0 a3_5 7 f3], [zAr T 0 a4_6 n4 f4], [zAr T 0 a5_7 n4 f5], [zAr T 0 a6_8 n4 f6], [zO4 la cr inn a1_9 a2_10 a3_11 a4_12], [zAr T 0 a1_9 7 k1], [zAr T 0 a2_10 28 k2], [zAr T 0 a3_11 7 k3], [zAr T 0 a4_12 7 k4]] _ _ := G.re rfl
      have hw_23 : bWays T h la md wy pc_ f1 f2 f3 f4 f5 f6 n4 [zO0 h md wy la pc_ a1_3 a2_4 a3_5 a4_6 a5_7 a6_8, zAr T 0 a1_3 7 f1, zAr T 0 a2_4 7 f2, zAr T 0 a3_5 7 f3, zAr T 0 a4_6 n4 f4, zAr T 0 a5_7 n4 f5, zAr T 0 a6_8 n4 f6] := ⟨a1_3, a2_4, a3_5, a4_6, a5_7, a6_8, rfl⟩
      have G : zS T A s.heap s [[zO3 t e0 e1 e2 e3 e4 e5 a1_19 a2_20, zAr T 0 a1_19 m1 r1, zAr T 0 a2_20 7 y2], [zO0 h md wy la pc_ a1_3 a2_4 a3_5 a4_6 a5_7 a6_8, zAr T 0 a1_3 7 f1, zAr T 0 a2_4 7 f2, zAr T 0 a3_5 7 f3, zAr T 0 a4_6 n4 f4, zAr T 0 a5_7 n4 f5, zAr T 0 a6_8 n4 f6], [zO4 la cr inn a1_9 a2_10 a3_11 a4_12], [zAr T 0 a1_9 7 k1], [zAr T 0 a2_10 28 k2], [zAr T 0 a3_11 7 k3], [zAr T 0 a4_12 7 k4]] _ _ := G.re rfl
      have hw_24 : bLand T la cr inn k1 k2 k3 k4 [zO4 la cr inn a1_9 a2_10 a3_11 a4_12, zAr T 0 a1_9 7 k1, zAr T 0 a2_10 28 k2, zAr T 0 a3_11 7 k3, zAr T 0 a4_12 7 k4] := ⟨a1_9, a2_10, a3_11, a4_12, rfl⟩
      have G : zS T A s.heap s [[zO3 t e0 e1 e2 e3 e4 e5 a1_19 a2_20, zAr T 0 a1_19 m1 r1, zAr T 0 a2_20 7 y2], [zO0 h md wy la pc_ a1_3 a2_4 a3_5 a4_6 a5_7 a6_8, zAr T 0 a1_3 7 f1, zAr T 0 a2_4 7 f2, zAr T 0 a3_5 7 f3, zAr T 0 a4_6 n4 f4, zAr T 0 a5_7 n4 f5, zAr T 0 a6_8 n4 f6], [zO4 la cr inn a1_9 a2_10 a3_11 a4_12, zAr T 0 a1_9 7 k1, zAr T 0 a2_10 28 k2, zAr T 0 a3_11 7 k3, zAr T 0 a4_12 7 k4]] _ _ := G.re rfl
      exact z_back hQ9 (z_iret C hr hlocks G (Nat.le_of_ble_eq_true rfl) (Nat.le_of_ble_eq_true rfl) dX3_ask_71 ⟨([zO3 t e0 e1 e2 e3 e4 e5 a1_19 a2_20, zAr T 0 a1_19 m1 r1, zAr T 0 a2_20 7 y2]), y2, rfl, hw_22⟩)
    · have c_21n : ¬ e3.toInt ≤ (0 : Int) := fun q => c_21 ((fa_le _ _).mpr q)
      refine lv_aload_n hx hb dX3_ask_26 rfl (lv_at hl 4 rfl) ?_
      refine z_get C G clX0 3 rfl 2 (by decide) m_fl_RX3_55 rfl dX3_ask_27 ?_
      refine lv_iload hx hb dX3_ask_30 (lv_at hl 0 rfl) ?_
      have hw_25 : bLand T la cr inn k1 k2 k3 k4 [zO4 la cr inn a1_9 a2_10 a3_11 a4_12, zAr T 0 a1_9 7 k1, zAr T 0 a2_10 28 k2, zAr T 0 a3_11 7 k3, zAr T 0 a4_12 7 k4] := ⟨a1_9, a2_10, a3_11, a4_12, rfl⟩
      have G : zS T A s.heap s [[zO3 t e0 e1 e2 e3 e4 e5 a1_19 a2_20], [zAr T 0 a1_19 m1 r1], [zAr T 0 a2_20 7 y2], [zO0 h md wy la pc_ a1_3 a2_4 a3_5 a4_6 a5_7 a6_8], [zAr T 0 a1_3 7 f1], [zAr T 0 a2_4 7 f2], [zAr T 0 a3_5 7 f3], [zAr T 0 a4_6 n4 f4], [zAr T 0 a5_7 n4 f5], [zAr T 0 a6_8 n4 f6], [zO4 la cr inn a1_9 a2_10 a3_11 a4_12, zAr T 0 a1_9 7 k1, zAr T 0 a2_10 28 k2, zAr T 0 a3_11 7 k3, zAr T 0 a4_12 7 k4]] _ _ := G.re rfl
      refine z_Vi (bc := [[zO4 la cr inn a1_9 a2_10 a3_11 a4_12, zAr T 0 a1_9 7 k1, zAr T 0 a2_10 28 k2, zAr T 0 a3_11 7 k3, zAr T 0 a4_12 7 k4]]) (br := [[zO3 t e0 e1 e2 e3 e4 e5 a1_19 a2_20], [zAr T 0 a1_19 m1 r1], [zAr T 0 a2_20 7 y2], [zO0 h md wy la pc_ a1_3 a2_4 a3_5 a4_6 a5_7 a6_8], [zAr T 0 a1_3 7 f1], [zAr T 0 a2_4 7 f2], [zAr T 0 a3_5 7 f3], [zAr T 0 a4_6 n4 f4], [zAr T 0 a5_7 n4 f5], [zAr T 0 a6_8 n4 f6]]) (As := [.int (nI i)]) (rest := []) C G (c_isInn l T la cr inn k1 k2 k3 k4 ([zO4 la cr inn a1_9 a2_10 a3_11 a4_12, zAr T 0 a1_9 7 k1, zAr T 0 a2_10 28 k2, zAr T 0 a3_11 7 k3, zAr T 0 a4_12 7 k4]) (nI i) hw_25) (kV_RX3_89 C.2.2.2.2 (Nat.le_of_ble_eq_true rfl) (Nat.le_of_ble_eq_true rfl)) [10] [10] rfl rfl (ci := 4) (qc := (RX4, TX4, 6)) rfl rfl (List.mem_flatten.mpr ⟨_, List.mem_of_getElem? (i := 0) rfl, (bLand_mem hw_25).choose_spec⟩) rfl rfl hl.1 dX3_ask_32 (Nat.le_of_ble_eq_true rfl) (Nat.le_of_ble_eq_true rfl) (fun r_27 b1 H locs hw G => ?_)
      refine zAn2 hw ?_
      intro hbs9 hc_26
      clear hw
      subst hbs9
      have G : zS T A s.heap s [[zO3 t e0 e1 e2 e3 e4 e5 a1_19 a2_20], [zAr T 0 a1_19 m1 r1], [zAr T 0 a2_20 7 y2], [zO0 h md wy la pc_ a1_3 a2_4 a3_5 a4_6 a5_7 a6_8], [zAr T 0 a1_3 7 f1], [zAr T 0 a2_4 7 f2], [zAr T 0 a3_5 7 f3], [zAr T 0 a4_6 n4 f4], [zAr T 0 a5_7 n4 f5], [zAr T 0 a6_8 n4 f6], [zO4 la cr inn a1_9 a2_10 a3_11 a4_12, zAr T 0 a1_9 7 k1, zAr T 0 a2_10 28 k2, zAr T 0 a3_11 7 k3, zAr T 0 a4_12 7 k4]] _ _ := G
      rcases hc_26 with ⟨rfl, h_28, h_29, h_30, h_31⟩ | ⟨rfl, h_32⟩
      · have h_28 : 0 ≤ (nI i).toInt := h_28
        have h_29 : (nI i).toInt < cr.toInt := h_29
        have h_30 : (nI i).toInt < 7 := h_30
        have h_31 : ¬ zBit inn (nI i) = 0 := h_31
        refine lv_if_ne (tgt := 64) hx hb dX3_ask_35 (by decide) (fun _ => ?_) (fun q => absurd q (by decide))
        refine lv_iinc (v := nI (i + 1)) (lv' := [(4, .int (nI (i + 1))), (3, .int u3), (2, .int u2), (0, .ref t), (1, .ref h)]) hx hb dX3_ask_64 hl (k := 0) rfl (z_inc i 1) (by decide) rfl (fun ls hl => ?_)
        refine lv_goto (tgt := 7) hx hb dX3_ask_67 (by decide) ?_
        have hw_33 : bFit T t e0 e1 e2 e3 e4 e5 r1 m1 y2 [zO3 t e0 e1 e2 e3 e4 e5 a1_19 a2_20, zAr T 0 a1_19 m1 r1, zAr T 0 a2_20 7 y2] := ⟨a1_19, a2_20, rfl⟩
        have G : zS T A s.heap s [[zO3 t e0 e1 e2 e3 e4 e5 a1_19 a2_20, zAr T 0 a1_19 m1 r1, zAr T 0 a2_20 7 y2], [zO0 h md wy la pc_ a1_3 a2_4 a3_5 a4_6 a5_7 a6_8], [zAr T 0 a1_3 7 f1], [zAr T 0 a2_4 7 f2], [zAr T 0 a3_5 7 f3], [zAr T 0 a4_6 n4 f4], [zAr T 0 a5_7 n4 f5], [zAr T 0 a6_8 n4 f6], [zO4 la cr inn a1_9 a2_10 a3_11 a4_12, zAr T 0 a1_9 7 k1, zAr T 0 a2_10 28 k2, zAr T 0 a3_11 7 k3, zAr T 0 a4_12 7 k4]] _ _ := G.re rfl
        have hw_34 : bWays T h la md wy pc_ f1 f2 f3 f4 f5 f6 n4 [zO0 h md wy la pc_ a1_3 a2_4 a3_5 a4_6 a5_7 a6_8, zAr T 0 a1_3 7 f1, zAr T 0 a2_4 7 f2, zAr T 0 a3_5 7 f3, zAr T 0 a4_6 n4 f4, zAr T 0 a5_7 n4 f5, zAr T 0 a6_8 n4 f6] := ⟨a1_3, a2_4, a3_5, a4_6, a5_7, a6_8, rfl⟩
        have G : zS T A s.heap s [[zO3 t e0 e1 e2 e3 e4 e5 a1_19 a2_20, zAr T 0 a1_19 m1 r1, zAr T 0 a2_20 7 y2], [zO0 h md wy la pc_ a1_3 a2_4 a3_5 a4_6 a5_7 a6_8, zAr T 0 a1_3 7 f1, zAr T 0 a2_4 7 f2, zAr T 0 a3_5 7 f3, zAr T 0 a4_6 n4 f4, zAr T 0 a5_7 n4 f5, zAr T 0 a6_8 n4 f6], [zO4 la cr inn a1_9 a2_10 a3_11 a4_12, zAr T 0 a1_9 7 k1, zAr T 0 a2_10 28 k2, zAr T 0 a3_11 7 k3, zAr T 0 a4_12 7 k4]] _ _ := G.re rfl
        exact ih_7 (i + 1) u2 u3 ([zO3 t e0 e1 e2 e3 e4 e5 a1_19 a2_20, zAr T 0 a1_19 m1 r1, zAr T 0 a2_20 7 y2]) y2 (show bFit T t e0 e1 e2 e3 e4 e5 r1 m1 y2 ([zO3 t e0 e1 e2 e3 e4 e5 a1_19 a2_20, zAr T 0 a1_19 m1 r1, zAr T 0 a2_20 7 y2]) ∧ (i + 1) ≤ cr.toInt.toNat from ⟨hw_33, by omega⟩) (show cr.toInt.toNat - (i + 1) < cr.toInt.toNat - i from by omega) _ _ ls G (lv_sub hl [0, 1, 2, 3, 4] rfl)
      · have h_32 : ((nI i).toInt < 0 ∨ cr.toInt ≤ (nI i).toInt ∨ 7 ≤ (nI i).toInt ∨ zBit inn (nI i) = 0) := h_32
        refine lv_if_ne (tgt := 64) hx hb dX3_ask_35 (by decide) (fun q => absurd (by decide) q) (fun _ => ?_)
        refine lv_aload_n hx hb dX3_ask_38 rfl (lv_at hl 3 rfl) ?_
        refine lv_aload_n hx hb dX3_ask_39 rfl (lv_at hl 4 rfl) ?_
        refine lv_iload hx hb dX3_ask_40 (lv_at hl 0 rfl) ?_
        have hw_35 : bFit T t e0 e1 e2 e3 e4 e5 r1 m1 y2 [zO3 t e0 e1 e2 e3 e4 e5 a1_19 a2_20, zAr T 0 a1_19 m1 r1, zAr T 0 a2_20 7 y2] := ⟨a1_19, a2_20, rfl⟩
        have G : zS T A s.heap s [[zO3 t e0 e1 e2 e3 e4 e5 a1_19 a2_20, zAr T 0 a1_19 m1 r1, zAr T 0 a2_20 7 y2], [zO0 h md wy la pc_ a1_3 a2_4 a3_5 a4_6 a5_7 a6_8], [zAr T 0 a1_3 7 f1], [zAr T 0 a2_4 7 f2], [zAr T 0 a3_5 7 f3], [zAr T 0 a4_6 n4 f4], [zAr T 0 a5_7 n4 f5], [zAr T 0 a6_8 n4 f6], [zO4 la cr inn a1_9 a2_10 a3_11 a4_12, zAr T 0 a1_9 7 k1, zAr T 0 a2_10 28 k2, zAr T 0 a3_11 7 k3, zAr T 0 a4_12 7 k4]] _ _ := G.re rfl
        have hw_36 : bWays T h la md wy pc_ f1 f2 f3 f4 f5 f6 n4 [zO0 h md wy la pc_ a1_3 a2_4 a3_5 a4_6 a5_7 a6_8, zAr T 0 a1_3 7 f1, zAr T 0 a2_4 7 f2, zAr T 0 a3_5 7 f3, zAr T 0 a4_6 n4 f4, zAr T 0 a5_7 n4 f5, zAr T 0 a6_8 n4 f6] := ⟨a1_3, a2_4, a3_5, a4_6, a5_7, a6_8, rfl⟩
        have G : zS T A s.heap s [[zO3 t e0 e1 e2 e3 e4 e5 a1_19 a2_20, zAr T 0 a1_19 m1 r1, zAr T 0 a2_20 7 y2], [zO0 h md wy la pc_ a1_3 a2_4 a3_5 a4_6 a5_7 a6_8, zAr T 0 a1_3 7 f1, zAr T 0 a2_4 7 f2, zAr T 0 a3_5 7 f3, zAr T 0 a4_6 n4 f4, zAr T 0 a5_7 n4 f5, zAr T 0 a6_8 n4 f6], [zO4 la cr inn a1_9 a2_10 a3_11 a4_12, zAr T 0 a1_9 7 k1, zAr T 0 a2_10 28 k2, zAr T 0 a3_11 7 k3, zAr T 0 a4_12 7 k4]] _ _ := G.re rfl
        refine z_Vi (bc := [[zO3 t e0 e1 e2 e3 e4 e5 a1_19 a2_20, zAr T 0 a1_19 m1 r1, zAr T 0 a2_20 7 y2], [zO0 h md wy la pc_ a1_3 a2_4 a3_5 a4_6 a5_7 a6_8, zAr T 0 a1_3 7 f1, zAr T 0 a2_4 7 f2, zAr T 0 a3_5 7 f3, zAr T 0 a4_6 n4 f4, zAr T 0 a5_7 n4 f5, zAr T 0 a6_8 n4 f6]]) (br := [[zO4 la cr inn a1_9 a2_10 a3_11 a4_12, zAr T 0 a1_9 7 k1, zAr T 0 a2_10 28 k2, zAr T 0 a3_11 7 k3, zAr T 0 a4_12 7 k4]]) (As := [.ref h, .int (nI i)]) (rest := []) C G (c_mostTogether l T t e0 e1 e2 e3 e4 e5 r1 m1 y2 ([zO3 t e0 e1 e2 e3 e4 e5 a1_19 a2_20, zAr T 0 a1_19 m1 r1, zAr T 0 a2_20 7 y2]) h la md wy pc_ f1 f2 f3 f4 f5 f6 n4 ([zO0 h md wy la pc_ a1_3 a2_4 a3_5 a4_6 a5_7 a6_8, zAr T 0 a1_3 7 f1, zAr T 0 a2_4 7 f2, zAr T 0 a3_5 7 f3, zAr T 0 a4_6 n4 f4, zAr T 0 a5_7 n4 f5, zAr T 0 a6_8 n4 f6]) (nI i) hw_35 hw_36 (by first | with_reducible assumption | with_reducible rfl | omega | assumption | rfl) (by first | with_reducible assumption | with_reducible rfl | omega | assumption | rfl)) (kV_RX3_106 C.2.2.2.2 (Nat.le_of_ble_eq_true rfl) (Nat.le_of_ble_eq_true rfl)) [0, 1] [0, 0] rfl rfl (ci := 3) (qc := (RX3, TX3, 8)) rfl rfl (List.mem_flatten.mpr ⟨_, List.mem_of_getElem? (i := 0) rfl, (bFit_mem hw_35).choose_spec⟩) rfl rfl hl.1 dX3_ask_42 (Nat.le_of_ble_eq_true rfl) (Nat.le_of_ble_eq_true rfl) (fun r_40 b1 H locs hw G => ?_)
        refine zEx2 hw ?_
        intro w2_37 g2_38
        refine zCu2 ?_
        intro hbs9 h_39
        clear hw
        subst hbs9
        have G : zS T A s.heap s [[zO4 la cr inn a1_9 a2_10 a3_11 a4_12, zAr T 0 a1_9 7 k1, zAr T 0 a2_10 28 k2, zAr T 0 a3_11 7 k3, zAr T 0 a4_12 7 k4], w2_37, [zO0 h md wy la pc_ a1_3 a2_4 a3_5 a4_6 a5_7 a6_8, zAr T 0 a1_3 7 f1, zAr T 0 a2_4 7 f2, zAr T 0 a3_5 7 f3, zAr T 0 a4_6 n4 f4, zAr T 0 a5_7 n4 f5, zAr T 0 a6_8 n4 f6]] _ _ := G
        refine lv_istore (lv' := [(5, .int r_40), (4, .int (nI i)), (3, .int u3), (2, .int u2), (0, .ref t), (1, .ref h)]) hx hb dX3_ask_45 hl (by decide) rfl (fun ls hl => ?_)
        refine lv_iload_n hx hb dX3_ask_47 rfl (lv_at hl 3 rfl) ?_
        refine lv_iconst (v := (-1)) hx hb dX3_ask_48 (by decide) ?_
        refine lv_icmp_eq (tgt := 58) hx hb dX3_ask_49 (by decide) (fun c_41 => ?_) (fun c_41 => ?_)
        · have c_41n : u2.toInt = (-1 : Int) := (fa_eq _ _).mp c_41
          refine lv_iload hx hb dX3_ask_58 (lv_at hl 1 rfl) ?_
          refine lv_istore_n (lv' := [(2, .int (nI i)), (5, .int r_40), (4, .int (nI i)), (3, .int u3), (0, .ref t), (1, .ref h)]) hx hb dX3_ask_60 rfl hl (by decide) rfl (fun ls hl => ?_)
          refine lv_iload hx hb dX3_ask_61 (lv_at hl 1 rfl) ?_
          refine lv_istore_n (lv' := [(3, .int r_40), (2, .int (nI i)), (5, .int r_40), (4, .int (nI i)), (0, .ref t), (1, .ref h)]) hx hb dX3_ask_63 rfl hl (by decide) rfl (fun ls hl => ?_)
          refine lv_iinc (v := nI (i + 1)) (lv' := [(4, .int (nI (i + 1))), (3, .int r_40), (2, .int (nI i)), (5, .int r_40), (0, .ref t), (1, .ref h)]) hx hb dX3_ask_64 hl (k := 3) rfl (z_inc i 1) (by decide) rfl (fun ls hl => ?_)
          refine lv_goto (tgt := 7) hx hb dX3_ask_67 (by decide) ?_
          have G := G.sub (bs' := [w2_37, [zO0 h md wy la pc_ a1_3 a2_4 a3_5 a4_6 a5_7 a6_8, zAr T 0 a1_3 7 f1, zAr T 0 a2_4 7 f2, zAr T 0 a3_5 7 f3, zAr T 0 a4_6 n4 f4, zAr T 0 a5_7 n4 f5, zAr T 0 a6_8 n4 f6], [zO4 la cr inn a1_9 a2_10 a3_11 a4_12, zAr T 0 a1_9 7 k1, zAr T 0 a2_10 28 k2, zAr T 0 a3_11 7 k3, zAr T 0 a4_12 7 k4]]) [1, 2, 0] rfl
          exact ih_7 (i + 1) (nI i) r_40 w2_37 g2_38 (show bFit T t e0 e1 e2 e3 e4 e5 r1 m1 g2_38 w2_37 ∧ (i + 1) ≤ cr.toInt.toNat from ⟨h_39, by omega⟩) (show cr.toInt.toNat - (i + 1) < cr.toInt.toNat - i from by omega) _ _ ls G (lv_sub hl [0, 1, 2, 4, 5] rfl)
        · have c_41n : ¬ u2.toInt = (-1 : Int) := fun q => c_41 ((fa_eq _ _).mpr q)
          refine lv_iload hx hb dX3_ask_52 (lv_at hl 0 rfl) ?_
          refine lv_iload_n hx hb dX3_ask_54 rfl (lv_at hl 2 rfl) ?_
          refine lv_icmp_ge (tgt := 64) hx hb dX3_ask_55 (by decide) (fun c_42 => ?_) (fun c_42 => ?_)
          · have c_42n : u3.toInt ≤ r_40.toInt := (fa_le _ _).mp c_42
            refine lv_iinc (v := nI (i + 1)) (lv' := [(4, .int (nI (i + 1))), (5, .int r_40), (3, .int u3), (2, .int u2), (0, .ref t), (1, .ref h)]) hx hb dX3_ask_64 hl (k := 1) rfl (z_inc i 1) (by decide) rfl (fun ls hl => ?_)
            refine lv_goto (tgt := 7) hx hb dX3_ask_67 (by decide) ?_
            have G := G.sub (bs' := [w2_37, [zO0 h md wy la pc_ a1_3 a2_4 a3_5 a4_6 a5_7 a6_8, zAr T 0 a1_3 7 f1, zAr T 0 a2_4 7 f2, zAr T 0 a3_5 7 f3, zAr T 0 a4_6 n4 f4, zAr T 0 a5_7 n4 f5, zAr T 0 a6_8 n4 f6], [zO4 la cr inn a1_9 a2_10 a3_11 a4_12, zAr T 0 a1_9 7 k1, zAr T 0 a2_10 28 k2, zAr T 0 a3_11 7 k3, zAr T 0 a4_12 7 k4]]) [1, 2, 0] rfl
            exact ih_7 (i + 1) u2 u3 w2_37 g2_38 (show bFit T t e0 e1 e2 e3 e4 e5 r1 m1 g2_38 w2_37 ∧ (i + 1) ≤ cr.toInt.toNat from ⟨h_39, by omega⟩) (show cr.toInt.toNat - (i + 1) < cr.toInt.toNat - i from by omega) _ _ ls G (lv_sub hl [0, 2, 3, 4, 5] rfl)
          · have c_42n : ¬ u3.toInt ≤ r_40.toInt := fun q => c_42 ((fa_le _ _).mpr q)
            refine lv_iload hx hb dX3_ask_58 (lv_at hl 1 rfl) ?_
            refine lv_istore_n (lv' := [(2, .int (nI i)), (5, .int r_40), (4, .int (nI i)), (3, .int u3), (0, .ref t), (1, .ref h)]) hx hb dX3_ask_60 rfl hl (by decide) rfl (fun ls hl => ?_)
            refine lv_iload hx hb dX3_ask_61 (lv_at hl 1 rfl) ?_
            refine lv_istore_n (lv' := [(3, .int r_40), (2, .int (nI i)), (5, .int r_40), (4, .int (nI i)), (0, .ref t), (1, .ref h)]) hx hb dX3_ask_63 rfl hl (by decide) rfl (fun ls hl => ?_)
            refine lv_iinc (v := nI (i + 1)) (lv' := [(4, .int (nI (i + 1))), (3, .int r_40), (2, .int (nI i)), (5, .int r_40), (0, .ref t), (1, .ref h)]) hx hb dX3_ask_64 hl (k := 3) rfl (z_inc i 1) (by decide) rfl (fun ls hl => ?_)
            refine lv_goto (tgt := 7) hx hb dX3_ask_67 (by decide) ?_
            have G := G.sub (bs' := [w2_37, [zO0 h md wy la pc_ a1_3 a2_4 a3_5 a4_6 a5_7 a6_8, zAr T 0 a1_3 7 f1, zAr T 0 a2_4 7 f2, zAr T 0 a3_5 7 f3, zAr T 0 a4_6 n4 f4, zAr T 0 a5_7 n4 f5, zAr T 0 a6_8 n4 f6], [zO4 la cr inn a1_9 a2_10 a3_11 a4_12, zAr T 0 a1_9 7 k1, zAr T 0 a2_10 28 k2, zAr T 0 a3_11 7 k3, zAr T 0 a4_12 7 k4]]) [1, 2, 0] rfl
            exact ih_7 (i + 1) (nI i) r_40 w2_37 g2_38 (show bFit T t e0 e1 e2 e3 e4 e5 r1 m1 g2_38 w2_37 ∧ (i + 1) ≤ cr.toInt.toNat from ⟨h_39, by omega⟩) (show cr.toInt.toNat - (i + 1) < cr.toInt.toNat - i from by omega) _ _ ls G (lv_sub hl [0, 1, 2, 4, 5] rfl)
set_option maxHeartbeats 4000000 in
set_option maxRecDepth 100000 in
/-- grow -/
theorem c_Fit_grow (l : Launch) (T : zTy) (t : Nat) (e0 : Int32) (e1 : Int32) (e2 : Int32) (e3 : Int32) (e4 : Int32) (e5 : Int32) (r1 : Nat → Int32) (m1 : Nat) (r2 : Nat → Int32) (wf : va_W) (x : Int32) (hwf : bFit T t e0 e1 e2 e3 e4 e5 r1 m1 r2 wf) (hfw : zFw m1) (hxx : x.toInt ≤ 16384) : zMv l T yX3_grow cX3_grow 3 1 1 (2 * (zFl m1 x - m1)) [.ref t, .int x] [wf] (fun bs => ∃ (w2 : va_W) (g1 : Nat → Int32), bs = [w2] ∧ bFit T t e0 e1 e2 e3 e4 e5 g1 (zFl m1 x) r2 w2) := by
  refine zMv_of (own := RX3) (by decide) rfl (Nat.le_of_ble_eq_true rfl) ?_
  intro p e s m args below meth c A ls C hr hlocks hnm hAe G hl
  refine zHide (fun Q9 hQ9 => ?_)
  have hx := C.1
  have hb := C.2.1
  have hl : lv_has ls 3 [(0, .ref t), (1, .int x)] := hl
  have hm1 := zFw_le hfw
  refine lv_aload_n hx hb dX3_grow_0 rfl (lv_at hl 0 rfl) ?_
  refine zEx2 hwf ?_
  intro a1_1 a2_2 hbs9
  clear hwf
  subst hbs9
  have G : zS T A s.heap s [[zO3 t e0 e1 e2 e3 e4 e5 a1_1 a2_2], [zAr T 0 a1_1 m1 r1], [zAr T 0 a2_2 7 r2]] _ _ := G.re rfl
  refine z_get C G clX3 0 rfl 6 (by decide) m_fl_RX3_18 rfl dX3_grow_1 ?_
  refine z_alen C G 1 0 rfl (v := nI m1) rfl rfl dX3_grow_4 ?_
  refine lv_iload_n hx hb dX3_grow_5 rfl (lv_at hl 1 rfl) ?_
  refine lv_icmp_lt (tgt := 10) hx hb dX3_grow_6 (by decide) (fun c_3 => ?_) (fun c_3 => ?_)
  · have c_3n : (m1 : Int) < x.toInt := by have q := (fa_lt _ _).mp c_3; rw [nI_toInt (n := m1) (by omega)] at q; exact q
    have hng : ¬ x.toInt ≤ (m1 : Int) := by omega
    have hE : zFl m1 x = zFnN x 11 16 := by unfold zFl; rw [if_neg hng]
    have hR := zFl_room hfw hxx hng
    refine lv_bipush (v := 16) hx hb dX3_grow_10 (by decide) ?_
    refine lv_istore_n (lv' := [(2, .int 16), (0, .ref t), (1, .int x)]) hx hb dX3_grow_12 rfl hl (by decide) rfl (fun ls hl => ?_)
    have hw_4 : bFit T t e0 e1 e2 e3 e4 e5 r1 m1 r2 [zO3 t e0 e1 e2 e3 e4 e5 a1_1 a2_2, zAr T 0 a1_1 m1 r1, zAr T 0 a2_2 7 r2] := ⟨a1_1, a2_2, rfl⟩
    have G : zS T A s.heap s [[zO3 t e0 e1 e2 e3 e4 e5 a1_1 a2_2, zAr T 0 a1_1 m1 r1, zAr T 0 a2_2 7 r2]] _ _ := G.re rfl
    refine z_lp2 (T := T) 13 (fun (k : Nat) (L : Nat) => [[zO3 t e0 e1 e2 e3 e4 e5 a1_1 a2_2, zAr T 0 a1_1 m1 r1, zAr T 0 a2_2 7 r2]]) (fun (k : Nat) (L : Nat) => [(2, .int (nI L)), (0, .ref t), (1, .int x)]) (fun (k : Nat) (L : Nat) => k ≤ 10 ∧ L = 16 * 2 ^ k ∧ zFnN x 11 16 = zFnN x (11 - k) L ∧ L ≤ 16384) (fun (k : Nat) (L : Nat) => 11 - k) ?_ 0 16 (show 0 ≤ 10 ∧ 16 = 16 * 2 ^ 0 ∧ zFnN x 11 16 = zFnN x (11 - 0) 16 ∧ 16 ≤ 16384 from ⟨by omega, rfl, rfl, by omega⟩) G (lv_sub hl [0, 1, 2] rfl)
    intro k L hI9 ih_13 H locs ls G hl
    replace hI9 : k ≤ 10 ∧ L = 16 * 2 ^ k ∧ zFnN x 11 16 = zFnN x (11 - k) L ∧ L ≤ 16384 := hI9
    refine zAn4 hI9 ?_
    intro hk hL hG hL2
    clear hI9
    replace G : zS T A s.heap s [[zO3 t e0 e1 e2 e3 e4 e5 a1_1 a2_2, zAr T 0 a1_1 m1 r1, zAr T 0 a2_2 7 r2]] _ _ := G
    replace hl : lv_has ls 3 [(2, .int (nI L)), (0, .ref t), (1, .int x)] := hl
    refine lv_iload_n hx hb dX3_grow_13 rfl (lv_at hl 0 rfl) ?_
    refine lv_iload_n hx hb dX3_grow_14 rfl (lv_at hl 2 rfl) ?_
    refine lv_icmp_ge (tgt := 32) hx hb dX3_grow_15 (by decide) (fun c_5 => ?_) (fun c_5 => ?_)
    · have c_5n : x.toInt ≤ (L : Int) := by have q := (fa_le _ _).mp c_5; rw [nI_toInt (n := L) (by omega)] at q; exact q
      have hF : zFnN x 11 16 = L := by rw [hG, show 11 - k = (10 - k) + 1 by omega, zFnN, if_neg (by omega)]
      have hF2 : zFl m1 x = L := hE.trans hF
      refine lv_aload_n hx hb dX3_grow_32 rfl (lv_at hl 1 rfl) ?_
      refine lv_iload_n hx hb dX3_grow_33 rfl (lv_at hl 0 rfl) ?_
      refine z_newa C G 0 (ty := .int) (N' := L) (a0 := (L, .inl (fun _ => 0))) rfl z_uint m_ar_int rfl (fun _ => rfl) (nI_pos (by omega)) (nI_clamp (by omega)) (by show L * 4 ≤ 536870912; omega) (by show _ ≤ 1; omega) (by show _ ≤ 2 * (zFl m1 x - m1); omega) dX3_grow_34 (fun q_6 H G => ?_)
      have G : zS T A s.heap s [[zO3 t e0 e1 e2 e3 e4 e5 a1_1 a2_2, zAr T 0 a1_1 m1 r1, zAr T 0 a2_2 7 r2], [zAr T 0 q_6 L (fun _ => 0)]] _ _ := G
      have G : zS T A s.heap s [[zO3 t e0 e1 e2 e3 e4 e5 a1_1 a2_2], [zAr T 0 a1_1 m1 r1], [zAr T 0 a2_2 7 r2], [zAr T 0 q_6 L (fun _ => 0)]] _ _ := G.re rfl
      refine z_put C G clX3 0 rfl 6 (by decide) m_fl_RX3_18 rfl rfl rfl (Nat.le_of_ble_eq_true rfl) dX3_grow_36 (fun H locs G => ?_)
      have G : zS T A s.heap s [[zO3 t e0 e1 e2 e3 e4 e5 q_6 a2_2], [zAr T 0 a1_1 m1 r1], [zAr T 0 a2_2 7 r2], [zAr T 0 q_6 L (fun _ => 0)]] _ _ := G
      have G := G.sub (bs' := [[zO3 t e0 e1 e2 e3 e4 e5 q_6 a2_2], [zAr T 0 q_6 L (fun _ => 0)], [zAr T 0 a2_2 7 r2], [zAr T 0 a1_1 m1 r1]]) [0, 3, 2, 1] rfl
      have hw_7 : bFit T t e0 e1 e2 e3 e4 e5 (fun _ => 0) L r2 [zO3 t e0 e1 e2 e3 e4 e5 q_6 a2_2, zAr T 0 q_6 L (fun _ => 0), zAr T 0 a2_2 7 r2] := ⟨q_6, a2_2, rfl⟩
      have G : zS T A s.heap s [[zO3 t e0 e1 e2 e3 e4 e5 q_6 a2_2, zAr T 0 q_6 L (fun _ => 0), zAr T 0 a2_2 7 r2], [zAr T 0 a1_1 m1 r1]] _ _ := G.re rfl
      have G := G.sub (bs' := [[zO3 t e0 e1 e2 e3 e4 e5 q_6 a2_2, zAr T 0 q_6 L (fun _ => 0), zAr T 0 a2_2 7 r2]]) [0] rfl
      exact z_back hQ9 (z_vret C hr hlocks G (by omega) (by omega) dX3_grow_39 ⟨([zO3 t e0 e1 e2 e3 e4 e5 q_6 a2_2, zAr T 0 q_6 L (fun _ => 0), zAr T 0 a2_2 7 r2]), (fun _ => 0), rfl, (hF2.symm ▸ hw_7)⟩)
    · have c_5n : ¬ x.toInt ≤ (L : Int) := fun q => c_5 ((fa_le _ _).mpr (by rw [nI_toInt (n := L) (by omega)]; exact q))
      refine lv_iload_n hx hb dX3_grow_18 rfl (lv_at hl 0 rfl) ?_
      refine lv_sipush (v := 16383) hx hb dX3_grow_19 (by decide) ?_
      refine lv_icmp_gt (tgt := 32) hx hb dX3_grow_22 (by decide) (fun c_8 => ?_) (fun c_8 => ?_)
      · have c_8n : 16383 < L := (nI_ltI (a := 16383) (b := L) (by omega) (by omega)).mp c_8
        have hF : zFnN x 11 16 = L := by rw [hG, show 11 - k = (10 - k) + 1 by omega, zFnN, if_neg (by omega)]
        have hF2 : zFl m1 x = L := hE.trans hF
        refine lv_aload_n hx hb dX3_grow_32 rfl (lv_at hl 1 rfl) ?_
        refine lv_iload_n hx hb dX3_grow_33 rfl (lv_at hl 0 rfl) ?_
        refine z_newa C G 0 (ty := .int) (N' := L) (a0 := (L, .inl (fun _ => 0))) rfl z_uint m_ar_int rfl (fun _ => rfl) (nI_pos (by omega)) (nI_clamp (by omega)) (by show L * 4 ≤ 536870912; omega) (by show _ ≤ 1; omega) (by show _ ≤ 2 * (zFl m1 x - m1); omega) dX3_grow_34 (fun q_9 H G => ?_)
        have G : zS T A s.heap s [[zO3 t e0 e1 e2 e3 e4 e5 a1_1 a2_2, zAr T 0 a1_1 m1 r1, zAr T 0 a2_2 7 r2], [zAr T 0 q_9 L (fun _ => 0)]] _ _ := G
        have G : zS T A s.heap s [[zO3 t e0 e1 e2 e3 e4 e5 a1_1 a2_2], [zAr T 0 a1_1 m1 r1], [zAr T 0 a2_2 7 r2], [zAr T 0 q_9 L (fun _ => 0)]] _ _ := G.re rfl
        refine z_put C G clX3 0 rfl 6 (by decide) m_fl_RX3_18 rfl rfl rfl (Nat.le_of_ble_eq_true rfl) dX3_grow_36 (fun H locs G => ?_)
        have G : zS T A s.heap s [[zO3 t e0 e1 e2 e3 e4 e5 q_9 a2_2], [zAr T 0 a1_1 m1 r1], [zAr T 0 a2_2 7 r2], [zAr T 0 q_9 L (fun _ => 0)]] _ _ := G
        have G := G.sub (bs' := [[zO3 t e0 e1 e2 e3 e4 e5 q_9 a2_2], [zAr T 0 q_9 L (fun _ => 0)], [zAr T 0 a2_2 7 r2], [zAr T 0 a1_1 m1 r1]]) [0, 3, 2, 1] rfl
        have hw_10 : bFit T t e0 e1 e2 e3 e4 e5 (fun _ => 0) L r2 [zO3 t e0 e1 e2 e3 e4 e5 q_9 a2_2, zAr T 0 q_9 L (fun _ => 0), zAr T 0 a2_2 7 r2] := ⟨q_9, a2_2, rfl⟩
        have G : zS T A s.heap s [[zO3 t e0 e1 e2 e3 e4 e5 q_9 a2_2, zAr T 0 q_9 L (fun _ => 0), zAr T 0 a2_2 7 r2], [zAr T 0 a1_1 m1 r1]] _ _ := G.re rfl
        have G := G.sub (bs' := [[zO3 t e0 e1 e2 e3 e4 e5 q_9 a2_2, zAr T 0 q_9 L (fun _ => 0), zAr T 0 a2_2 7 r2]]) [0] rfl
        exact z_back hQ9 (z_vret C hr hlocks G (by omega) (by omega) dX3_grow_39 ⟨([zO3 t e0 e1 e2 e3 e4 e5 q_9 a2_2, zAr T 0 q_9 L (fun _ => 0), zAr T 0 a2_2 7 r2]), (fun _ => 0), rfl, (hF2.symm ▸ hw_10)⟩)
      · have c_8n : ¬ 16383 < L := fun q => c_8 ((nI_ltI (a := 16383) (b := L) (by omega) (by omega)).mpr q)
        refine lv_iload_n hx hb dX3_grow_25 rfl (lv_at hl 0 rfl) ?_
        refine lv_iconst (v := 2) hx hb dX3_grow_26 (by decide) ?_
        refine lv_imul hx hb dX3_grow_27 ?_
        refine lv_topi (fun y_11 ey_11 => ?_)
        obtain rfl : y_11 = nI (L * 2) := ey_11.trans (z_imuln L 2 rfl rfl)
        refine lv_istore_n (lv' := [(2, .int (nI (L * 2))), (0, .ref t), (1, .int x)]) hx hb dX3_grow_28 rfl hl (by decide) rfl (fun ls hl => ?_)
        refine lv_goto (tgt := 13) hx hb dX3_grow_29 (by decide) ?_
        exact ih_13 (k + 1) (L * 2) (show (k + 1) ≤ 10 ∧ (L * 2) = 16 * 2 ^ (k + 1) ∧ zFnN x 11 16 = zFnN x (11 - (k + 1)) (L * 2) ∧ (L * 2) ≤ 16384 from ⟨z_k10 hk hL (by omega), by rw [hL, Nat.pow_succ]; omega, by rw [hG, show 11 - k = (11 - (k + 1)) + 1 by omega, zFnN, if_pos ⟨by omega, by omega⟩, Nat.mul_comm], z_k10b hk hL (by omega)⟩) (show 11 - (k + 1) < 11 - k from by omega) _ _ ls G (lv_sub hl [0, 1, 2] rfl)
  · have c_3n : ¬ (m1 : Int) < x.toInt := fun q => c_3 ((fa_lt _ _).mpr (by rw [nI_toInt (n := m1) (by omega)]; exact q))
    have hw_12 : bFit T t e0 e1 e2 e3 e4 e5 r1 m1 r2 [zO3 t e0 e1 e2 e3 e4 e5 a1_1 a2_2, zAr T 0 a1_1 m1 r1, zAr T 0 a2_2 7 r2] := ⟨a1_1, a2_2, rfl⟩
    have G : zS T A s.heap s [[zO3 t e0 e1 e2 e3 e4 e5 a1_1 a2_2, zAr T 0 a1_1 m1 r1, zAr T 0 a2_2 7 r2]] _ _ := G.re rfl
    exact z_back hQ9 (z_vret C hr hlocks G (by omega) (by omega) dX3_grow_9 ⟨([zO3 t e0 e1 e2 e3 e4 e5 a1_1 a2_2, zAr T 0 a1_1 m1 r1, zAr T 0 a2_2 7 r2]), r1, rfl, ((show m1 = zFl m1 x from by unfold zFl; rw [if_pos (by omega)]) ▸ hw_12)⟩)
set_option maxHeartbeats 4000000 in
set_option maxRecDepth 100000 in
/-- c_tryWay -/
theorem c_tryWay (l : Launch) (T : zTy) (t : Nat) (e0 : Int32) (e1 : Int32) (e2 : Int32) (e3 : Int32) (e4 : Int32) (e5 : Int32) (r1 : Nat → Int32) (m1 : Nat) (r2 : Nat → Int32) (wf : va_W) (h : Nat) (la : Nat) (md : Int32) (wy : Int32) (pc_ : Int32) (f1 : Nat → Int32) (f2 : Nat → Int32) (f3 : Nat → Int32) (f4 : Nat → Int32) (f5 : Nat → Int32) (f6 : Nat → Int32) (n4 : Nat) (ww : va_W) (cr : Int32) (inn : Int32) (k1 : Nat → Int32) (k2 : Nat → Int32) (k3 : Nat → Int32) (k4 : Nat → Int32) (z : va_W) (lg : Nat) (gg : Int32) (d1 : Nat → Int32) (d2 : Nat → Int32) (wg : va_W) (x : Int32) (hwf : bFit T t e0 e1 e2 e3 e4 e5 r1 m1 r2 wf) (hww : bWays T h la md wy pc_ f1 f2 f3 f4 f5 f6 n4 ww) (hz : bLand T la cr inn k1 k2 k3 k4 z) (hg : bLog T lg gg d1 d2 wg) (hn : n4 ≤ 131072) (hm : m1 ≤ 16384) (h3 : 0 ≤ e3.toInt) : zMv l T yX3_tryWay cX3_tryWay 8 4 0 0 [.ref t, .ref h, .ref lg, .int x] [wf, ww, z, wg] (fun bs => ∃ (w2 : va_W) (s3 : Int32) (s4 : Int32) (s5 : Int32) (g1 : Nat → Int32), bs = [w2, ww, z, wg] ∧ bFit T t e0 e1 e2 s3 s4 s5 g1 m1 r2 w2 ∧ 0 ≤ s3.toInt) := by
  refine zMv_of (own := RX3) (by decide) rfl (Nat.le_of_ble_eq_true rfl) ?_
  intro p e s m args below meth c A ls C hr hlocks hnm hAe G hl
  refine zHide (fun Q9 hQ9 => ?_)
  have hx := C.1
  have hb := C.2.1
  have hl : lv_has ls 8 [(0, .ref t), (1, .ref h), (2, .ref lg), (3, .int x)] := hl
  refine lv_iload_n hx hb dX3_tryWay_0 rfl (lv_at hl 3 rfl) ?_
  refine lv_istore (lv' := [(4, .int x), (0, .ref t), (1, .ref h), (2, .ref lg), (3, .int x)]) hx hb dX3_tryWay_1 hl (by decide) rfl (fun ls hl => ?_)
  refine lv_iconst (v := 0) hx hb dX3_tryWay_3 (by decide) ?_
  refine lv_istore (lv' := [(5, .int 0), (4, .int x), (0, .ref t), (1, .ref h), (2, .ref lg), (3, .int x)]) hx hb dX3_tryWay_4 hl (by decide) rfl (fun ls hl => ?_)
  refine lv_iconst (v := 0) hx hb dX3_tryWay_6 (by decide) ?_
  refine lv_istore (lv' := [(6, .int 0), (5, .int 0), (4, .int x), (0, .ref t), (1, .ref h), (2, .ref lg), (3, .int x)]) hx hb dX3_tryWay_7 hl (by decide) rfl (fun ls hl => ?_)
  refine zEx2 hwf ?_
  intro a1_1 a2_2 hbs9
  clear hwf
  subst hbs9
  have G : zS T A s.heap s [[zO3 t e0 e1 e2 e3 e4 e5 a1_1 a2_2], [zAr T 0 a1_1 m1 r1], [zAr T 0 a2_2 7 r2], ww, z, wg] _ _ := G.re rfl
  refine zEx6 hww ?_
  intro a1_3 a2_4 a3_5 a4_6 a5_7 a6_8 hbs9
  clear hww
  subst hbs9
  have G : zS T A s.heap s [[zO3 t e0 e1 e2 e3 e4 e5 a1_1 a2_2], [zAr T 0 a1_1 m1 r1], [zAr T 0 a2_2 7 r2], [zO0 h md wy la pc_ a1_3 a2_4 a3_5 a4_6 a5_7 a6_8], [zAr T 0 a1_3 7 f1], [zAr T 0 a2_4 7 f2], [zAr T 0 a3_5 7 f3], [zAr T 0 a4_6 n4 f4], [zAr T 0 a5_7 n4 f5], [zAr T 0 a6_8 n4 f6], z, wg] _ _ := G.re rfl
  refine zEx4 hz ?_
  intro a1_9 a2_10 a3_11 a4_12 hbs9
  clear hz
  subst hbs9
  have G : zS T A s.heap s [[zO3 t e0 e1 e2 e3 e4 e5 a1_1 a2_2], [zAr T 0 a1_1 m1 r1], [zAr T 0 a2_2 7 r2], [zO0 h md wy la pc_ a1_3 a2_4 a3_5 a4_6 a5_7 a6_8], [zAr T 0 a1_3 7 f1], [zAr T 0 a2_4 7 f2], [zAr T 0 a3_5 7 f3], [zAr T 0 a4_6 n4 f4], [zAr T 0 a5_7 n4 f5], [zAr T 0 a6_8 n4 f6], [zO4 la cr inn a1_9 a2_10 a3_11 a4_12], [zAr T 0 a1_9 7 k1], [zAr T 0 a2_10 28 k2], [zAr T 0 a3_11 7 k3], [zAr T 0 a4_12 7 k4], wg] _ _ := G.re rfl
  refine zEx2 hg ?_
  intro a1_13 a2_14 hbs9
  clear hg
  subst hbs9
  have G : zS T A s.heap s [[zO3 t e0 e1 e2 e3 e4 e5 a1_1 a2_2], [zAr T 0 a1_1 m1 r1], [zAr T 0 a2_2 7 r2], [zO0 h md wy la pc_ a1_3 a2_4 a3_5 a4_6 a5_7 a6_8], [zAr T 0 a1_3 7 f1], [zAr T 0 a2_4 7 f2], [zAr T 0 a3_5 7 f3], [zAr T 0 a4_6 n4 f4], [zAr T 0 a5_7 n4 f5], [zAr T 0 a6_8 n4 f6], [zO4 la cr inn a1_9 a2_10 a3_11 a4_12], [zAr T 0 a1_9 7 k1], [zAr T 0 a2_10 28 k2], [zAr T 0 a3_11 7 k3], [zAr T 0 a4_12 7 k4], [(lg, .inr (5, [.int gg, .ref a1_13, .ref a2_14]))], [zAr T 0 a1_13 8 d1], [zAr T 0 a2_14 8 d2]] _ _ := G.re rfl
  have hw_15 : bFit T t e0 e1 e2 e3 e4 e5 r1 m1 r2 [zO3 t e0 e1 e2 e3 e4 e5 a1_1 a2_2, zAr T 0 a1_1 m1 r1, zAr T 0 a2_2 7 r2] := ⟨a1_1, a2_2, rfl⟩
  have G : zS T A s.heap s [[zO3 t e0 e1 e2 e3 e4 e5 a1_1 a2_2, zAr T 0 a1_1 m1 r1, zAr T 0 a2_2 7 r2], [zO0 h md wy la pc_ a1_3 a2_4 a3_5 a4_6 a5_7 a6_8], [zAr T 0 a1_3 7 f1], [zAr T 0 a2_4 7 f2], [zAr T 0 a3_5 7 f3], [zAr T 0 a4_6 n4 f4], [zAr T 0 a5_7 n4 f5], [zAr T 0 a6_8 n4 f6], [zO4 la cr inn a1_9 a2_10 a3_11 a4_12], [zAr T 0 a1_9 7 k1], [zAr T 0 a2_10 28 k2], [zAr T 0 a3_11 7 k3], [zAr T 0 a4_12 7 k4], [(lg, .inr (5, [.int gg, .ref a1_13, .ref a2_14]))], [zAr T 0 a1_13 8 d1], [zAr T 0 a2_14 8 d2]] _ _ := G.re rfl
  have hw_16 : bWays T h la md wy pc_ f1 f2 f3 f4 f5 f6 n4 [zO0 h md wy la pc_ a1_3 a2_4 a3_5 a4_6 a5_7 a6_8, zAr T 0 a1_3 7 f1, zAr T 0 a2_4 7 f2, zAr T 0 a3_5 7 f3, zAr T 0 a4_6 n4 f4, zAr T 0 a5_7 n4 f5, zAr T 0 a6_8 n4 f6] := ⟨a1_3, a2_4, a3_5, a4_6, a5_7, a6_8, rfl⟩
  have G : zS T A s.heap s [[zO3 t e0 e1 e2 e3 e4 e5 a1_1 a2_2, zAr T 0 a1_1 m1 r1, zAr T 0 a2_2 7 r2], [zO0 h md wy la pc_ a1_3 a2_4 a3_5 a4_6 a5_7 a6_8, zAr T 0 a1_3 7 f1, zAr T 0 a2_4 7 f2, zAr T 0 a3_5 7 f3, zAr T 0 a4_6 n4 f4, zAr T 0 a5_7 n4 f5, zAr T 0 a6_8 n4 f6], [zO4 la cr inn a1_9 a2_10 a3_11 a4_12], [zAr T 0 a1_9 7 k1], [zAr T 0 a2_10 28 k2], [zAr T 0 a3_11 7 k3], [zAr T 0 a4_12 7 k4], [(lg, .inr (5, [.int gg, .ref a1_13, .ref a2_14]))], [zAr T 0 a1_13 8 d1], [zAr T 0 a2_14 8 d2]] _ _ := G.re rfl
  have hw_17 : bLand T la cr inn k1 k2 k3 k4 [zO4 la cr inn a1_9 a2_10 a3_11 a4_12, zAr T 0 a1_9 7 k1, zAr T 0 a2_10 28 k2, zAr T 0 a3_11 7 k3, zAr T 0 a4_12 7 k4] := ⟨a1_9, a2_10, a3_11, a4_12, rfl⟩
  have G : zS T A s.heap s [[zO3 t e0 e1 e2 e3 e4 e5 a1_1 a2_2, zAr T 0 a1_1 m1 r1, zAr T 0 a2_2 7 r2], [zO0 h md wy la pc_ a1_3 a2_4 a3_5 a4_6 a5_7 a6_8, zAr T 0 a1_3 7 f1, zAr T 0 a2_4 7 f2, zAr T 0 a3_5 7 f3, zAr T 0 a4_6 n4 f4, zAr T 0 a5_7 n4 f5, zAr T 0 a6_8 n4 f6], [zO4 la cr inn a1_9 a2_10 a3_11 a4_12, zAr T 0 a1_9 7 k1, zAr T 0 a2_10 28 k2, zAr T 0 a3_11 7 k3, zAr T 0 a4_12 7 k4], [(lg, .inr (5, [.int gg, .ref a1_13, .ref a2_14]))], [zAr T 0 a1_13 8 d1], [zAr T 0 a2_14 8 d2]] _ _ := G.re rfl
  have hw_18 : bLog T lg gg d1 d2 [(lg, .inr (5, [.int gg, .ref a1_13, .ref a2_14])), zAr T 0 a1_13 8 d1, zAr T 0 a2_14 8 d2] := ⟨a1_13, a2_14, rfl⟩
  have G : zS T A s.heap s [[zO3 t e0 e1 e2 e3 e4 e5 a1_1 a2_2, zAr T 0 a1_1 m1 r1, zAr T 0 a2_2 7 r2], [zO0 h md wy la pc_ a1_3 a2_4 a3_5 a4_6 a5_7 a6_8, zAr T 0 a1_3 7 f1, zAr T 0 a2_4 7 f2, zAr T 0 a3_5 7 f3, zAr T 0 a4_6 n4 f4, zAr T 0 a5_7 n4 f5, zAr T 0 a6_8 n4 f6], [zO4 la cr inn a1_9 a2_10 a3_11 a4_12, zAr T 0 a1_9 7 k1, zAr T 0 a2_10 28 k2, zAr T 0 a3_11 7 k3, zAr T 0 a4_12 7 k4], [(lg, .inr (5, [.int gg, .ref a1_13, .ref a2_14])), zAr T 0 a1_13 8 d1, zAr T 0 a2_14 8 d2]] _ _ := G.re rfl
  refine z_lp3 (T := T) 9 (fun (i : Nat) (u4 : Int32) (u5 : Int32) => [[zO3 t e0 e1 e2 e3 e4 e5 a1_1 a2_2, zAr T 0 a1_1 m1 r1, zAr T 0 a2_2 7 r2], [zO0 h md wy la pc_ a1_3 a2_4 a3_5 a4_6 a5_7 a6_8, zAr T 0 a1_3 7 f1, zAr T 0 a2_4 7 f2, zAr T 0 a3_5 7 f3, zAr T 0 a4_6 n4 f4, zAr T 0 a5_7 n4 f5, zAr T 0 a6_8 n4 f6], [zO4 la cr inn a1_9 a2_10 a3_11 a4_12, zAr T 0 a1_9 7 k1, zAr T 0 a2_10 28 k2, zAr T 0 a3_11 7 k3, zAr T 0 a4_12 7 k4], [(lg, .inr (5, [.int gg, .ref a1_13, .ref a2_14])), zAr T 0 a1_13 8 d1, zAr T 0 a2_14 8 d2]]) (fun (i : Nat) (u4 : Int32) (u5 : Int32) => [(6, .int (nI i)), (5, .int u5), (4, .int u4), (0, .ref t), (1, .ref h), (2, .ref lg), (3, .int x)]) (fun (i : Nat) (u4 : Int32) (u5 : Int32) => i ≤ 8) (fun (i : Nat) (u4 : Int32) (u5 : Int32) => 8 - i) ?_ 0 x 0 (show 0 ≤ 8 from by omega) G (lv_sub hl [0, 1, 2, 3, 4, 5, 6] rfl)
  intro i u4 u5 hi ih_9 H locs ls G hl
  replace hi : i ≤ 8 := hi
  replace G : zS T A s.heap s [[zO3 t e0 e1 e2 e3 e4 e5 a1_1 a2_2, zAr T 0 a1_1 m1 r1, zAr T 0 a2_2 7 r2], [zO0 h md wy la pc_ a1_3 a2_4 a3_5 a4_6 a5_7 a6_8, zAr T 0 a1_3 7 f1, zAr T 0 a2_4 7 f2, zAr T 0 a3_5 7 f3, zAr T 0 a4_6 n4 f4, zAr T 0 a5_7 n4 f5, zAr T 0 a6_8 n4 f6], [zO4 la cr inn a1_9 a2_10 a3_11 a4_12, zAr T 0 a1_9 7 k1, zAr T 0 a2_10 28 k2, zAr T 0 a3_11 7 k3, zAr T 0 a4_12 7 k4], [(lg, .inr (5, [.int gg, .ref a1_13, .ref a2_14])), zAr T 0 a1_13 8 d1, zAr T 0 a2_14 8 d2]] _ _ := G
  replace hl : lv_has ls 8 [(6, .int (nI i)), (5, .int u5), (4, .int u4), (0, .ref t), (1, .ref h), (2, .ref lg), (3, .int x)] := hl
  refine lv_iload hx hb dX3_tryWay_9 (lv_at hl 0 rfl) ?_
  refine lv_aload_n hx hb dX3_tryWay_11 rfl (lv_at hl 5 rfl) ?_
  have G : zS T A s.heap s [[zO3 t e0 e1 e2 e3 e4 e5 a1_1 a2_2, zAr T 0 a1_1 m1 r1, zAr T 0 a2_2 7 r2], [zO0 h md wy la pc_ a1_3 a2_4 a3_5 a4_6 a5_7 a6_8, zAr T 0 a1_3 7 f1, zAr T 0 a2_4 7 f2, zAr T 0 a3_5 7 f3, zAr T 0 a4_6 n4 f4, zAr T 0 a5_7 n4 f5, zAr T 0 a6_8 n4 f6], [zO4 la cr inn a1_9 a2_10 a3_11 a4_12, zAr T 0 a1_9 7 k1, zAr T 0 a2_10 28 k2, zAr T 0 a3_11 7 k3, zAr T 0 a4_12 7 k4], [(lg, .inr (5, [.int gg, .ref a1_13, .ref a2_14]))], [zAr T 0 a1_13 8 d1], [zAr T 0 a2_14 8 d2]] _ _ := G.re rfl
  refine z_get C G clX5 3 rfl 0 (by decide) m_fl_RX3_47 rfl dX3_tryWay_12 ?_
  refine lv_icmp_ge (tgt := 94) hx hb dX3_tryWay_15 (by decide) (fun c_19 => ?_) (fun c_19 => ?_)
  · have c_19n : gg.toInt ≤ (i : Int) := by have q := (fa_le _ _).mp c_19; rw [nI_toInt (n := i) (by omega)] at q; exact q
    refine lv_aload_n hx hb dX3_tryWay_94 rfl (lv_at hl 3 rfl) ?_
    have G : zS T A s.heap s [[zO3 t e0 e1 e2 e3 e4 e5 a1_1 a2_2], [zAr T 0 a1_1 m1 r1], [zAr T 0 a2_2 7 r2], [zO0 h md wy la pc_ a1_3 a2_4 a3_5 a4_6 a5_7 a6_8, zAr T 0 a1_3 7 f1, zAr T 0 a2_4 7 f2, zAr T 0 a3_5 7 f3, zAr T 0 a4_6 n4 f4, zAr T 0 a5_7 n4 f5, zAr T 0 a6_8 n4 f6], [zO4 la cr inn a1_9 a2_10 a3_11 a4_12, zAr T 0 a1_9 7 k1, zAr T 0 a2_10 28 k2, zAr T 0 a3_11 7 k3, zAr T 0 a4_12 7 k4], [(lg, .inr (5, [.int gg, .ref a1_13, .ref a2_14]))], [zAr T 0 a1_13 8 d1], [zAr T 0 a2_14 8 d2]] _ _ := G.re rfl
    refine z_get C G clX3 0 rfl 3 (by decide) m_fl_RX3_34 rfl dX3_tryWay_95 ?_
    refine lv_aload_n hx hb dX3_tryWay_98 rfl (lv_at hl 3 rfl) ?_
    refine z_get C G clX3 0 rfl 6 (by decide) m_fl_RX3_18 rfl dX3_tryWay_99 ?_
    refine z_alen C G 1 0 rfl (v := nI m1) rfl rfl dX3_tryWay_102 ?_
    refine lv_icmp_ge (tgt := 170) hx hb dX3_tryWay_103 (by decide) (fun c_20 => ?_) (fun c_20 => ?_)
    · have c_20n : (m1 : Int) ≤ e3.toInt := by have q := (fa_le _ _).mp c_20; rw [nI_toInt (n := m1) (by omega)] at q; exact q
      have hw_21 : bFit T t e0 e1 e2 e3 e4 e5 r1 m1 r2 [zO3 t e0 e1 e2 e3 e4 e5 a1_1 a2_2, zAr T 0 a1_1 m1 r1, zAr T 0 a2_2 7 r2] := ⟨a1_1, a2_2, rfl⟩
      have G : zS T A s.heap s [[zO3 t e0 e1 e2 e3 e4 e5 a1_1 a2_2, zAr T 0 a1_1 m1 r1, zAr T 0 a2_2 7 r2], [zO0 h md wy la pc_ a1_3 a2_4 a3_5 a4_6 a5_7 a6_8, zAr T 0 a1_3 7 f1, zAr T 0 a2_4 7 f2, zAr T 0 a3_5 7 f3, zAr T 0 a4_6 n4 f4, zAr T 0 a5_7 n4 f5, zAr T 0 a6_8 n4 f6], [zO4 la cr inn a1_9 a2_10 a3_11 a4_12, zAr T 0 a1_9 7 k1, zAr T 0 a2_10 28 k2, zAr T 0 a3_11 7 k3, zAr T 0 a4_12 7 k4], [(lg, .inr (5, [.int gg, .ref a1_13, .ref a2_14]))], [zAr T 0 a1_13 8 d1], [zAr T 0 a2_14 8 d2]] _ _ := G.re rfl
      have hw_22 : bLog T lg gg d1 d2 [(lg, .inr (5, [.int gg, .ref a1_13, .ref a2_14])), zAr T 0 a1_13 8 d1, zAr T 0 a2_14 8 d2] := ⟨a1_13, a2_14, rfl⟩
      have G : zS T A s.heap s [[zO3 t e0 e1 e2 e3 e4 e5 a1_1 a2_2, zAr T 0 a1_1 m1 r1, zAr T 0 a2_2 7 r2], [zO0 h md wy la pc_ a1_3 a2_4 a3_5 a4_6 a5_7 a6_8, zAr T 0 a1_3 7 f1, zAr T 0 a2_4 7 f2, zAr T 0 a3_5 7 f3, zAr T 0 a4_6 n4 f4, zAr T 0 a5_7 n4 f5, zAr T 0 a6_8 n4 f6], [zO4 la cr inn a1_9 a2_10 a3_11 a4_12, zAr T 0 a1_9 7 k1, zAr T 0 a2_10 28 k2, zAr T 0 a3_11 7 k3, zAr T 0 a4_12 7 k4], [(lg, .inr (5, [.int gg, .ref a1_13, .ref a2_14])), zAr T 0 a1_13 8 d1, zAr T 0 a2_14 8 d2]] _ _ := G.re rfl
      exact z_back hQ9 (z_vret C hr hlocks G (Nat.le_of_ble_eq_true rfl) (Nat.le_of_ble_eq_true rfl) dX3_tryWay_170 ⟨([zO3 t e0 e1 e2 e3 e4 e5 a1_1 a2_2, zAr T 0 a1_1 m1 r1, zAr T 0 a2_2 7 r2]), e3, e4, e5, r1, rfl, hw_21, h3⟩)
    · have c_20n : ¬ (m1 : Int) ≤ e3.toInt := fun q => c_20 ((fa_le _ _).mpr (by rw [nI_toInt (n := m1) (by omega)]; exact q))
      refine lv_aload_n hx hb dX3_tryWay_106 rfl (lv_at hl 3 rfl) ?_
      refine lv_aload_n hx hb dX3_tryWay_107 rfl (lv_at hl 3 rfl) ?_
      refine z_get C G clX3 0 rfl 3 (by decide) m_fl_RX3_34 rfl dX3_tryWay_108 ?_
      refine lv_if_ne (tgt := 119) hx hb dX3_tryWay_111 (by decide) (fun c_23 => ?_) (fun c_23 => ?_)
      · have c_23n : ¬ e3.toInt = (0 : Int) := fun q => c_23 ((fa_eq _ _).mpr q)
        refine lv_aload_n hx hb dX3_tryWay_119 rfl (lv_at hl 3 rfl) ?_
        refine z_get C G clX3 0 rfl 4 (by decide) m_fl_RX3_37 rfl dX3_tryWay_120 ?_
        refine lv_iload hx hb dX3_tryWay_123 (lv_at hl 1 rfl) ?_
        refine va_mmin hx hb (C.2.2.1.trans hl.1.symm) C.2.2.2.1 (C.2.2.2.2 _ m_ml_RX3_78) (C.2.2.2.2 _ m_st_math_min) (C.2.2.2.2 _ m_ii_math) (C.2.2.2.2 _ m_co_math_min) (Nat.le_of_ble_eq_true rfl) (Nat.le_of_ble_eq_true rfl) (Nat.le_of_ble_eq_true rfl) (Nat.le_of_ble_eq_true rfl) dX3_tryWay_125 ?_
        refine lv_topi (fun v_24 ev_24 => ?_)
        subst ev_24
        refine z_put C G clX3 0 rfl 4 (by decide) m_fl_RX3_37 rfl rfl rfl (Nat.le_of_ble_eq_true rfl) dX3_tryWay_128 (fun H locs G => ?_)
        have G : zS T A s.heap s [[zO3 t e0 e1 e2 e3 (if u5 < e4 then u5 else e4) e5 a1_1 a2_2], [zAr T 0 a1_1 m1 r1], [zAr T 0 a2_2 7 r2], [zO0 h md wy la pc_ a1_3 a2_4 a3_5 a4_6 a5_7 a6_8, zAr T 0 a1_3 7 f1, zAr T 0 a2_4 7 f2, zAr T 0 a3_5 7 f3, zAr T 0 a4_6 n4 f4, zAr T 0 a5_7 n4 f5, zAr T 0 a6_8 n4 f6], [zO4 la cr inn a1_9 a2_10 a3_11 a4_12, zAr T 0 a1_9 7 k1, zAr T 0 a2_10 28 k2, zAr T 0 a3_11 7 k3, zAr T 0 a4_12 7 k4], [(lg, .inr (5, [.int gg, .ref a1_13, .ref a2_14]))], [zAr T 0 a1_13 8 d1], [zAr T 0 a2_14 8 d2]] _ _ := G
        refine lv_aload_n hx hb dX3_tryWay_131 rfl (lv_at hl 3 rfl) ?_
        refine lv_aload_n hx hb dX3_tryWay_132 rfl (lv_at hl 3 rfl) ?_
        refine z_get C G clX3 0 rfl 5 (by decide) m_fl_RX3_40 rfl dX3_tryWay_133 ?_
        refine lv_iload hx hb dX3_tryWay_136 (lv_at hl 1 rfl) ?_
        refine va_mmax hx hb (C.2.2.1.trans hl.1.symm) C.2.2.2.1 (C.2.2.2.2 _ m_ml_RX3_83) (C.2.2.2.2 _ m_st_math_max) (C.2.2.2.2 _ m_ii_math) (C.2.2.2.2 _ m_co_math_max) (Nat.le_of_ble_eq_true rfl) (Nat.le_of_ble_eq_true rfl) (Nat.le_of_ble_eq_true rfl) (Nat.le_of_ble_eq_true rfl) dX3_tryWay_138 ?_
        refine lv_topi (fun v_25 ev_25 => ?_)
        subst ev_25
        refine z_put C G clX3 0 rfl 5 (by decide) m_fl_RX3_40 rfl rfl rfl (Nat.le_of_ble_eq_true rfl) dX3_tryWay_141 (fun H locs G => ?_)
        have G : zS T A s.heap s [[zO3 t e0 e1 e2 e3 (if u5 < e4 then u5 else e4) (if e5 < u5 then u5 else e5) a1_1 a2_2], [zAr T 0 a1_1 m1 r1], [zAr T 0 a2_2 7 r2], [zO0 h md wy la pc_ a1_3 a2_4 a3_5 a4_6 a5_7 a6_8, zAr T 0 a1_3 7 f1, zAr T 0 a2_4 7 f2, zAr T 0 a3_5 7 f3, zAr T 0 a4_6 n4 f4, zAr T 0 a5_7 n4 f5, zAr T 0 a6_8 n4 f6], [zO4 la cr inn a1_9 a2_10 a3_11 a4_12, zAr T 0 a1_9 7 k1, zAr T 0 a2_10 28 k2, zAr T 0 a3_11 7 k3, zAr T 0 a4_12 7 k4], [(lg, .inr (5, [.int gg, .ref a1_13, .ref a2_14]))], [zAr T 0 a1_13 8 d1], [zAr T 0 a2_14 8 d2]] _ _ := G
        refine lv_aload_n hx hb dX3_tryWay_144 rfl (lv_at hl 3 rfl) ?_
        refine z_get C G clX3 0 rfl 6 (by decide) m_fl_RX3_18 rfl dX3_tryWay_145 ?_
        refine lv_aload_n hx hb dX3_tryWay_148 rfl (lv_at hl 3 rfl) ?_
        refine z_get C G clX3 0 rfl 3 (by decide) m_fl_RX3_34 rfl dX3_tryWay_149 ?_
        refine lv_iload hx hb dX3_tryWay_152 (lv_at hl 2 rfl) ?_
        refine lv_bipush (v := 14) hx hb dX3_tryWay_154 (by decide) ?_
        refine lv_ishl hx hb dX3_tryWay_156 ?_
        refine lv_iload_n hx hb dX3_tryWay_157 rfl (lv_at hl 6 rfl) ?_
        refine lv_iadd hx hb dX3_tryWay_158 ?_
        refine z_ist C G 1 rfl (vp_in_iff.mpr ⟨by omega, by omega⟩) dX3_tryWay_159 (fun H locs G => ?_)
        have G : zS T A s.heap s [[zO3 t e0 e1 e2 e3 (if u5 < e4 then u5 else e4) (if e5 < u5 then u5 else e5) a1_1 a2_2], [zAr T 0 a1_1 m1 (upd r1 e3.toNatClampNeg ((u4 <<< (14 &&& 31)) + x))], [zAr T 0 a2_2 7 r2], [zO0 h md wy la pc_ a1_3 a2_4 a3_5 a4_6 a5_7 a6_8, zAr T 0 a1_3 7 f1, zAr T 0 a2_4 7 f2, zAr T 0 a3_5 7 f3, zAr T 0 a4_6 n4 f4, zAr T 0 a5_7 n4 f5, zAr T 0 a6_8 n4 f6], [zO4 la cr inn a1_9 a2_10 a3_11 a4_12, zAr T 0 a1_9 7 k1, zAr T 0 a2_10 28 k2, zAr T 0 a3_11 7 k3, zAr T 0 a4_12 7 k4], [(lg, .inr (5, [.int gg, .ref a1_13, .ref a2_14]))], [zAr T 0 a1_13 8 d1], [zAr T 0 a2_14 8 d2]] _ _ := G
        refine lv_aload_n hx hb dX3_tryWay_160 rfl (lv_at hl 3 rfl) ?_
        refine lv_dup hx hb dX3_tryWay_161 rfl ?_
        refine z_get C G clX3 0 rfl 3 (by decide) m_fl_RX3_34 rfl dX3_tryWay_162 ?_
        refine lv_iconst (v := 1) hx hb dX3_tryWay_165 (by decide) ?_
        refine lv_iadd hx hb dX3_tryWay_166 ?_
        refine lv_topi (fun y_26 ey_26 => ?_)
        have ey_26i : y_26.toInt = e3.toInt + (1 : Int) := by rw [ey_26]; exact z_iaddI (x := e3) (y := (1 : Int32)) (by show -2147483648 ≤ e3.toInt + (1 : Int); omega) (by show e3.toInt + (1 : Int) < 2147483648; omega)
        refine z_put C G clX3 0 rfl 3 (by decide) m_fl_RX3_34 rfl rfl rfl (Nat.le_of_ble_eq_true rfl) dX3_tryWay_167 (fun H locs G => ?_)
        have G : zS T A s.heap s [[zO3 t e0 e1 e2 y_26 (if u5 < e4 then u5 else e4) (if e5 < u5 then u5 else e5) a1_1 a2_2], [zAr T 0 a1_1 m1 (upd r1 e3.toNatClampNeg ((u4 <<< (14 &&& 31)) + x))], [zAr T 0 a2_2 7 r2], [zO0 h md wy la pc_ a1_3 a2_4 a3_5 a4_6 a5_7 a6_8, zAr T 0 a1_3 7 f1, zAr T 0 a2_4 7 f2, zAr T 0 a3_5 7 f3, zAr T 0 a4_6 n4 f4, zAr T 0 a5_7 n4 f5, zAr T 0 a6_8 n4 f6], [zO4 la cr inn a1_9 a2_10 a3_11 a4_12, zAr T 0 a1_9 7 k1, zAr T 0 a2_10 28 k2, zAr T 0 a3_11 7 k3, zAr T 0 a4_12 7 k4], [(lg, .inr (5, [.int gg, .ref a1_13, .ref a2_14]))], [zAr T 0 a1_13 8 d1], [zAr T 0 a2_14 8 d2]] _ _ := G
        have hw_27 : bFit T t e0 e1 e2 y_26 (if u5 < e4 then u5 else e4) (if e5 < u5 then u5 else e5) (upd r1 e3.toNatClampNeg ((u4 <<< (14 &&& 31)) + x)) m1 r2 [zO3 t e0 e1 e2 y_26 (if u5 < e4 then u5 else e4) (if e5 < u5 then u5 else e5) a1_1 a2_2, zAr T 0 a1_1 m1 (upd r1 e3.toNatClampNeg ((u4 <<< (14 &&& 31)) + x)), zAr T 0 a2_2 7 r2] := ⟨a1_1, a2_2, rfl⟩
        have G : zS T A s.heap s [[zO3 t e0 e1 e2 y_26 (if u5 < e4 then u5 else e4) (if e5 < u5 then u5 else e5) a1_1 a2_2, zAr T 0 a1_1 m1 (upd r1 e3.toNatClampNeg ((u4 <<< (14 &&& 31)) + x)), zAr T 0 a2_2 7 r2], [zO0 h md wy la pc_ a1_3 a2_4 a3_5 a4_6 a5_7 a6_8, zAr T 0 a1_3 7 f1, zAr T 0 a2_4 7 f2, zAr T 0 a3_5 7 f3, zAr T 0 a4_6 n4 f4, zAr T 0 a5_7 n4 f5, zAr T 0 a6_8 n4 f6], [zO4 la cr inn a1_9 a2_10 a3_11 a4_12, zAr T 0 a1_9 7 k1, zAr T 0 a2_10 28 k2, zAr T 0 a3_11 7 k3, zAr T 0 a4_12 7 k4], [(lg, .inr (5, [.int gg, .ref a1_13, .ref a2_14]))], [zAr T 0 a1_13 8 d1], [zAr T 0 a2_14 8 d2]] _ _ := G.re rfl
        have hw_28 : bLog T lg gg d1 d2 [(lg, .inr (5, [.int gg, .ref a1_13, .ref a2_14])), zAr T 0 a1_13 8 d1, zAr T 0 a2_14 8 d2] := ⟨a1_13, a2_14, rfl⟩
        have G : zS T A s.heap s [[zO3 t e0 e1 e2 y_26 (if u5 < e4 then u5 else e4) (if e5 < u5 then u5 else e5) a1_1 a2_2, zAr T 0 a1_1 m1 (upd r1 e3.toNatClampNeg ((u4 <<< (14 &&& 31)) + x)), zAr T 0 a2_2 7 r2], [zO0 h md wy la pc_ a1_3 a2_4 a3_5 a4_6 a5_7 a6_8, zAr T 0 a1_3 7 f1, zAr T 0 a2_4 7 f2, zAr T 0 a3_5 7 f3, zAr T 0 a4_6 n4 f4, zAr T 0 a5_7 n4 f5, zAr T 0 a6_8 n4 f6], [zO4 la cr inn a1_9 a2_10 a3_11 a4_12, zAr T 0 a1_9 7 k1, zAr T 0 a2_10 28 k2, zAr T 0 a3_11 7 k3, zAr T 0 a4_12 7 k4], [(lg, .inr (5, [.int gg, .ref a1_13, .ref a2_14])), zAr T 0 a1_13 8 d1, zAr T 0 a2_14 8 d2]] _ _ := G.re rfl
        exact z_back hQ9 (z_vret C hr hlocks G (Nat.le_of_ble_eq_true rfl) (Nat.le_of_ble_eq_true rfl) dX3_tryWay_170 ⟨([zO3 t e0 e1 e2 y_26 (if u5 < e4 then u5 else e4) (if e5 < u5 then u5 else e5) a1_1 a2_2, zAr T 0 a1_1 m1 (upd r1 e3.toNatClampNeg ((u4 <<< (14 &&& 31)) + x)), zAr T 0 a2_2 7 r2]), y_26, (if u5 < e4 then u5 else e4), (if e5 < u5 then u5 else e5), (upd r1 e3.toNatClampNeg ((u4 <<< (14 &&& 31)) + x)), rfl, hw_27, (by omega)⟩)
      · have c_23n : e3.toInt = (0 : Int) := (fa_eq _ _).mp c_23
        refine lv_iload hx hb dX3_tryWay_114 (lv_at hl 1 rfl) ?_
        refine lv_goto (tgt := 128) hx hb dX3_tryWay_116 (by decide) ?_
        refine z_put C G clX3 0 rfl 4 (by decide) m_fl_RX3_37 rfl rfl rfl (Nat.le_of_ble_eq_true rfl) dX3_tryWay_128 (fun H locs G => ?_)
        have G : zS T A s.heap s [[zO3 t e0 e1 e2 e3 u5 e5 a1_1 a2_2], [zAr T 0 a1_1 m1 r1], [zAr T 0 a2_2 7 r2], [zO0 h md wy la pc_ a1_3 a2_4 a3_5 a4_6 a5_7 a6_8, zAr T 0 a1_3 7 f1, zAr T 0 a2_4 7 f2, zAr T 0 a3_5 7 f3, zAr T 0 a4_6 n4 f4, zAr T 0 a5_7 n4 f5, zAr T 0 a6_8 n4 f6], [zO4 la cr inn a1_9 a2_10 a3_11 a4_12, zAr T 0 a1_9 7 k1, zAr T 0 a2_10 28 k2, zAr T 0 a3_11 7 k3, zAr T 0 a4_12 7 k4], [(lg, .inr (5, [.int gg, .ref a1_13, .ref a2_14]))], [zAr T 0 a1_13 8 d1], [zAr T 0 a2_14 8 d2]] _ _ := G
        refine lv_aload_n hx hb dX3_tryWay_131 rfl (lv_at hl 3 rfl) ?_
        refine lv_aload_n hx hb dX3_tryWay_132 rfl (lv_at hl 3 rfl) ?_
        refine z_get C G clX3 0 rfl 5 (by decide) m_fl_RX3_40 rfl dX3_tryWay_133 ?_
        refine lv_iload hx hb dX3_tryWay_136 (lv_at hl 1 rfl) ?_
        refine va_mmax hx hb (C.2.2.1.trans hl.1.symm) C.2.2.2.1 (C.2.2.2.2 _ m_ml_RX3_83) (C.2.2.2.2 _ m_st_math_max) (C.2.2.2.2 _ m_ii_math) (C.2.2.2.2 _ m_co_math_max) (Nat.le_of_ble_eq_true rfl) (Nat.le_of_ble_eq_true rfl) (Nat.le_of_ble_eq_true rfl) (Nat.le_of_ble_eq_true rfl) dX3_tryWay_138 ?_
        refine lv_topi (fun v_29 ev_29 => ?_)
        subst ev_29
        refine z_put C G clX3 0 rfl 5 (by decide) m_fl_RX3_40 rfl rfl rfl (Nat.le_of_ble_eq_true rfl) dX3_tryWay_141 (fun H locs G => ?_)
        have G : zS T A s.heap s [[zO3 t e0 e1 e2 e3 u5 (if e5 < u5 then u5 else e5) a1_1 a2_2], [zAr T 0 a1_1 m1 r1], [zAr T 0 a2_2 7 r2], [zO0 h md wy la pc_ a1_3 a2_4 a3_5 a4_6 a5_7 a6_8, zAr T 0 a1_3 7 f1, zAr T 0 a2_4 7 f2, zAr T 0 a3_5 7 f3, zAr T 0 a4_6 n4 f4, zAr T 0 a5_7 n4 f5, zAr T 0 a6_8 n4 f6], [zO4 la cr inn a1_9 a2_10 a3_11 a4_12, zAr T 0 a1_9 7 k1, zAr T 0 a2_10 28 k2, zAr T 0 a3_11 7 k3, zAr T 0 a4_12 7 k4], [(lg, .inr (5, [.int gg, .ref a1_13, .ref a2_14]))], [zAr T 0 a1_13 8 d1], [zAr T 0 a2_14 8 d2]] _ _ := G
        refine lv_aload_n hx hb dX3_tryWay_144 rfl (lv_at hl 3 rfl) ?_
        refine z_get C G clX3 0 rfl 6 (by decide) m_fl_RX3_18 rfl dX3_tryWay_145 ?_
        refine lv_aload_n hx hb dX3_tryWay_148 rfl (lv_at hl 3 rfl) ?_
        refine z_get C G clX3 0 rfl 3 (by decide) m_fl_RX3_34 rfl dX3_tryWay_149 ?_
        refine lv_iload hx hb dX3_tryWay_152 (lv_at hl 2 rfl) ?_
        refine lv_bipush (v := 14) hx hb dX3_tryWay_154 (by decide) ?_
        refine lv_ishl hx hb dX3_tryWay_156 ?_
        refine lv_iload_n hx hb dX3_tryWay_157 rfl (lv_at hl 6 rfl) ?_
        refine lv_iadd hx hb dX3_tryWay_158 ?_
        refine z_ist C G 1 rfl (vp_in_iff.mpr ⟨by omega, by omega⟩) dX3_tryWay_159 (fun H locs G => ?_)
        have G : zS T A s.heap s [[zO3 t e0 e1 e2 e3 u5 (if e5 < u5 then u5 else e5) a1_1 a2_2], [zAr T 0 a1_1 m1 (upd r1 e3.toNatClampNeg ((u4 <<< (14 &&& 31)) + x))], [zAr T 0 a2_2 7 r2], [zO0 h md wy la pc_ a1_3 a2_4 a3_5 a4_6 a5_7 a6_8, zAr T 0 a1_3 7 f1, zAr T 0 a2_4 7 f2, zAr T 0 a3_5 7 f3, zAr T 0 a4_6 n4 f4, zAr T 0 a5_7 n4 f5, zAr T 0 a6_8 n4 f6], [zO4 la cr inn a1_9 a2_10 a3_11 a4_12, zAr T 0 a1_9 7 k1, zAr T 0 a2_10 28 k2, zAr T 0 a3_11 7 k3, zAr T 0 a4_12 7 k4], [(lg, .inr (5, [.int gg, .ref a1_13, .ref a2_14]))], [zAr T 0 a1_13 8 d1], [zAr T 0 a2_14 8 d2]] _ _ := G
        refine lv_aload_n hx hb dX3_tryWay_160 rfl (lv_at hl 3 rfl) ?_
        refine lv_dup hx hb dX3_tryWay_161 rfl ?_
        refine z_get C G clX3 0 rfl 3 (by decide) m_fl_RX3_34 rfl dX3_tryWay_162 ?_
        refine lv_iconst (v := 1) hx hb dX3_tryWay_165 (by decide) ?_
        refine lv_iadd hx hb dX3_tryWay_166 ?_
        refine lv_topi (fun y_30 ey_30 => ?_)
        have ey_30i : y_30.toInt = e3.toInt + (1 : Int) := by rw [ey_30]; exact z_iaddI (x := e3) (y := (1 : Int32)) (by show -2147483648 ≤ e3.toInt + (1 : Int); omega) (by show e3.toInt + (1 : Int) < 2147483648; omega)
        refine z_put C G clX3 0 rfl 3 (by decide) m_fl_RX3_34 rfl rfl rfl (Nat.le_of_ble_eq_true rfl) dX3_tryWay_167 (fun H locs G => ?_)
        have G : zS T A s.heap s [[zO3 t e0 e1 e2 y_30 u5 (if e5 < u5 then u5 else e5) a1_1 a2_2], [zAr T 0 a1_1 m1 (upd r1 e3.toNatClampNeg ((u4 <<< (14 &&& 31)) + x))], [zAr T 0 a2_2 7 r2], [zO0 h md wy la pc_ a1_3 a2_4 a3_5 a4_6 a5_7 a6_8, zAr T 0 a1_3 7 f1, zAr T 0 a2_4 7 f2, zAr T 0 a3_5 7 f3, zAr T 0 a4_6 n4 f4, zAr T 0 a5_7 n4 f5, zAr T 0 a6_8 n4 f6], [zO4 la cr inn a1_9 a2_10 a3_11 a4_12, zAr T 0 a1_9 7 k1, zAr T 0 a2_10 28 k2, zAr T 0 a3_11 7 k3, zAr T 0 a4_12 7 k4], [(lg, .inr (5, [.int gg, .ref a1_13, .ref a2_14]))], [zAr T 0 a1_13 8 d1], [zAr T 0 a2_14 8 d2]] _ _ := G
        have hw_31 : bFit T t e0 e1 e2 y_30 u5 (if e5 < u5 then u5 else e5) (upd r1 e3.toNatClampNeg ((u4 <<< (14 &&& 31)) + x)) m1 r2 [zO3 t e0 e1 e2 y_30 u5 (if e5 < u5 then u5 else e5) a1_1 a2_2, zAr T 0 a1_1 m1 (upd r1 e3.toNatClampNeg ((u4 <<< (14 &&& 31)) + x)), zAr T 0 a2_2 7 r2] := ⟨a1_1, a2_2, rfl⟩
        have G : zS T A s.heap s [[zO3 t e0 e1 e2 y_30 u5 (if e5 < u5 then u5 else e5) a1_1 a2_2, zAr T 0 a1_1 m1 (upd r1 e3.toNatClampNeg ((u4 <<< (14 &&& 31)) + x)), zAr T 0 a2_2 7 r2], [zO0 h md wy la pc_ a1_3 a2_4 a3_5 a4_6 a5_7 a6_8, zAr T 0 a1_3 7 f1, zAr T 0 a2_4 7 f2, zAr T 0 a3_5 7 f3, zAr T 0 a4_6 n4 f4, zAr T 0 a5_7 n4 f5, zAr T 0 a6_8 n4 f6], [zO4 la cr inn a1_9 a2_10 a3_11 a4_12, zAr T 0 a1_9 7 k1, zAr T 0 a2_10 28 k2, zAr T 0 a3_11 7 k3, zAr T 0 a4_12 7 k4], [(lg, .inr (5, [.int gg, .ref a1_13, .ref a2_14]))], [zAr T 0 a1_13 8 d1], [zAr T 0 a2_14 8 d2]] _ _ := G.re rfl
        have hw_32 : bLog T lg gg d1 d2 [(lg, .inr (5, [.int gg, .ref a1_13, .ref a2_14])), zAr T 0 a1_13 8 d1, zAr T 0 a2_14 8 d2] := ⟨a1_13, a2_14, rfl⟩
        have G : zS T A s.heap s [[zO3 t e0 e1 e2 y_30 u5 (if e5 < u5 then u5 else e5) a1_1 a2_2, zAr T 0 a1_1 m1 (upd r1 e3.toNatClampNeg ((u4 <<< (14 &&& 31)) + x)), zAr T 0 a2_2 7 r2], [zO0 h md wy la pc_ a1_3 a2_4 a3_5 a4_6 a5_7 a6_8, zAr T 0 a1_3 7 f1, zAr T 0 a2_4 7 f2, zAr T 0 a3_5 7 f3, zAr T 0 a4_6 n4 f4, zAr T 0 a5_7 n4 f5, zAr T 0 a6_8 n4 f6], [zO4 la cr inn a1_9 a2_10 a3_11 a4_12, zAr T 0 a1_9 7 k1, zAr T 0 a2_10 28 k2, zAr T 0 a3_11 7 k3, zAr T 0 a4_12 7 k4], [(lg, .inr (5, [.int gg, .ref a1_13, .ref a2_14])), zAr T 0 a1_13 8 d1, zAr T 0 a2_14 8 d2]] _ _ := G.re rfl
        exact z_back hQ9 (z_vret C hr hlocks G (Nat.le_of_ble_eq_true rfl) (Nat.le_of_ble_eq_true rfl) dX3_tryWay_170 ⟨([zO3 t e0 e1 e2 y_30 u5 (if e5 < u5 then u5 else e5) a1_1 a2_2, zAr T 0 a1_1 m1 (upd r1 e3.toNatClampNeg ((u4 <<< (14 &&& 31)) + x)), zAr T 0 a2_2 7 r2]), y_30, u5, (if e5 < u5 then u5 else e5), (upd r1 e3.toNatClampNeg ((u4 <<< (14 &&& 31)) + x)), rfl, hw_31, (by omega)⟩)
  · have c_19n : ¬ gg.toInt ≤ (i : Int) := fun q => c_19 ((fa_le _ _).mpr (by rw [nI_toInt (n := i) (by omega)]; exact q))
    refine lv_iload hx hb dX3_tryWay_18 (lv_at hl 0 rfl) ?_
    refine lv_bipush (v := 8) hx hb dX3_tryWay_20 (by decide) ?_
    refine lv_icmp_ge (tgt := 94) hx hb dX3_tryWay_22 (by decide) (fun c_33 => ?_) (fun c_33 => ?_)
    · have c_33n : 8 ≤ i := (nI_leI (a := 8) (b := i) (by omega) (by omega)).mp c_33
      refine lv_aload_n hx hb dX3_tryWay_94 rfl (lv_at hl 3 rfl) ?_
      have G : zS T A s.heap s [[zO3 t e0 e1 e2 e3 e4 e5 a1_1 a2_2], [zAr T 0 a1_1 m1 r1], [zAr T 0 a2_2 7 r2], [zO0 h md wy la pc_ a1_3 a2_4 a3_5 a4_6 a5_7 a6_8, zAr T 0 a1_3 7 f1, zAr T 0 a2_4 7 f2, zAr T 0 a3_5 7 f3, zAr T 0 a4_6 n4 f4, zAr T 0 a5_7 n4 f5, zAr T 0 a6_8 n4 f6], [zO4 la cr inn a1_9 a2_10 a3_11 a4_12, zAr T 0 a1_9 7 k1, zAr T 0 a2_10 28 k2, zAr T 0 a3_11 7 k3, zAr T 0 a4_12 7 k4], [(lg, .inr (5, [.int gg, .ref a1_13, .ref a2_14]))], [zAr T 0 a1_13 8 d1], [zAr T 0 a2_14 8 d2]] _ _ := G.re rfl
      refine z_get C G clX3 0 rfl 3 (by decide) m_fl_RX3_34 rfl dX3_tryWay_95 ?_
      refine lv_aload_n hx hb dX3_tryWay_98 rfl (lv_at hl 3 rfl) ?_
      refine z_get C G clX3 0 rfl 6 (by decide) m_fl_RX3_18 rfl dX3_tryWay_99 ?_
      refine z_alen C G 1 0 rfl (v := nI m1) rfl rfl dX3_tryWay_102 ?_
      refine lv_icmp_ge (tgt := 170) hx hb dX3_tryWay_103 (by decide) (fun c_34 => ?_) (fun c_34 => ?_)
      · have c_34n : (m1 : Int) ≤ e3.toInt := by have q := (fa_le _ _).mp c_34; rw [nI_toInt (n := m1) (by omega)] at q; exact q
        have hw_35 : bFit T t e0 e1 e2 e3 e4 e5 r1 m1 r2 [zO3 t e0 e1 e2 e3 e4 e5 a1_1 a2_2, zAr T 0 a1_1 m1 r1, zAr T 0 a2_2 7 r2] := ⟨a1_1, a2_2, rfl⟩
        have G : zS T A s.heap s [[zO3 t e0 e1 e2 e3 e4 e5 a1_1 a2_2, zAr T 0 a1_1 m1 r1, zAr T 0 a2_2 7 r2], [zO0 h md wy la pc_ a1_3 a2_4 a3_5 a4_6 a5_7 a6_8, zAr T 0 a1_3 7 f1, zAr T 0 a2_4 7 f2, zAr T 0 a3_5 7 f3, zAr T 0 a4_6 n4 f4, zAr T 0 a5_7 n4 f5, zAr T 0 a6_8 n4 f6], [zO4 la cr inn a1_9 a2_10 a3_11 a4_12, zAr T 0 a1_9 7 k1, zAr T 0 a2_10 28 k2, zAr T 0 a3_11 7 k3, zAr T 0 a4_12 7 k4], [(lg, .inr (5, [.int gg, .ref a1_13, .ref a2_14]))], [zAr T 0 a1_13 8 d1], [zAr T 0 a2_14 8 d2]] _ _ := G.re rfl
        have hw_36 : bLog T lg gg d1 d2 [(lg, .inr (5, [.int gg, .ref a1_13, .ref a2_14])), zAr T 0 a1_13 8 d1, zAr T 0 a2_14 8 d2] := ⟨a1_13, a2_14, rfl⟩
        have G : zS T A s.heap s [[zO3 t e0 e1 e2 e3 e4 e5 a1_1 a2_2, zAr T 0 a1_1 m1 r1, zAr T 0 a2_2 7 r2], [zO0 h md wy la pc_ a1_3 a2_4 a3_5 a4_6 a5_7 a6_8, zAr T 0 a1_3 7 f1, zAr T 0 a2_4 7 f2, zAr T 0 a3_5 7 f3, zAr T 0 a4_6 n4 f4, zAr T 0 a5_7 n4 f5, zAr T 0 a6_8 n4 f6], [zO4 la cr inn a1_9 a2_10 a3_11 a4_12, zAr T 0 a1_9 7 k1, zAr T 0 a2_10 28 k2, zAr T 0 a3_11 7 k3, zAr T 0 a4_12 7 k4], [(lg, .inr (5, [.int gg, .ref a1_13, .ref a2_14])), zAr T 0 a1_13 8 d1, zAr T 0 a2_14 8 d2]] _ _ := G.re rfl
        exact z_back hQ9 (z_vret C hr hlocks G (Nat.le_of_ble_eq_true rfl) (Nat.le_of_ble_eq_true rfl) dX3_tryWay_170 ⟨([zO3 t e0 e1 e2 e3 e4 e5 a1_1 a2_2, zAr T 0 a1_1 m1 r1, zAr T 0 a2_2 7 r2]), e3, e4, e5, r1, rfl, hw_35, h3⟩)
      · have c_34n : ¬ (m1 : Int) ≤ e3.toInt := fun q => c_34 ((fa_le _ _).mpr (by rw [nI_toInt (n := m1) (by omega)]; exact q))
        refine lv_aload_n hx hb dX3_tryWay_106 rfl (lv_at hl 3 rfl) ?_
        refine lv_aload_n hx hb dX3_tryWay_107 rfl (lv_at hl 3 rfl) ?_
        refine z_get C G clX3 0 rfl 3 (by decide) m_fl_RX3_34 rfl dX3_tryWay_108 ?_
        refine lv_if_ne (tgt := 119) hx hb dX3_tryWay_111 (by decide) (fun c_37 => ?_) (fun c_37 => ?_)
        · have c_37n : ¬ e3.toInt = (0 : Int) := fun q => c_37 ((fa_eq _ _).mpr q)
          refine lv_aload_n hx hb dX3_tryWay_119 rfl (lv_at hl 3 rfl) ?_
          refine z_get C G clX3 0 rfl 4 (by decide) m_fl_RX3_37 rfl dX3_tryWay_120 ?_
          refine lv_iload hx hb dX3_tryWay_123 (lv_at hl 1 rfl) ?_
          refine va_mmin hx hb (C.2.2.1.trans hl.1.symm) C.2.2.2.1 (C.2.2.2.2 _ m_ml_RX3_78) (C.2.2.2.2 _ m_st_math_min) (C.2.2.2.2 _ m_ii_math) (C.2.2.2.2 _ m_co_math_min) (Nat.le_of_ble_eq_true rfl) (Nat.le_of_ble_eq_true rfl) (Nat.le_of_ble_eq_true rfl) (Nat.le_of_ble_eq_true rfl) dX3_tryWay_125 ?_
          refine lv_topi (fun v_38 ev_38 => ?_)
          subst ev_38
          refine z_put C G clX3 0 rfl 4 (by decide) m_fl_RX3_37 rfl rfl rfl (Nat.le_of_ble_eq_true rfl) dX3_tryWay_128 (fun H locs G => ?_)
          have G : zS T A s.heap s [[zO3 t e0 e1 e2 e3 (if u5 < e4 then u5 else e4) e5 a1_1 a2_2], [zAr T 0 a1_1 m1 r1], [zAr T 0 a2_2 7 r2], [zO0 h md wy la pc_ a1_3 a2_4 a3_5 a4_6 a5_7 a6_8, zAr T 0 a1_3 7 f1, zAr T 0 a2_4 7 f2, zAr T 0 a3_5 7 f3, zAr T 0 a4_6 n4 f4, zAr T 0 a5_7 n4 f5, zAr T 0 a6_8 n4 f6], [zO4 la cr inn a1_9 a2_10 a3_11 a4_12, zAr T 0 a1_9 7 k1, zAr T 0 a2_10 28 k2, zAr T 0 a3_11 7 k3, zAr T 0 a4_12 7 k4], [(lg, .inr (5, [.int gg, .ref a1_13, .ref a2_14]))], [zAr T 0 a1_13 8 d1], [zAr T 0 a2_14 8 d2]] _ _ := G
          refine lv_aload_n hx hb dX3_tryWay_131 rfl (lv_at hl 3 rfl) ?_
          refine lv_aload_n hx hb dX3_tryWay_132 rfl (lv_at hl 3 rfl) ?_
          refine z_get C G clX3 0 rfl 5 (by decide) m_fl_RX3_40 rfl dX3_tryWay_133 ?_
          refine lv_iload hx hb dX3_tryWay_136 (lv_at hl 1 rfl) ?_
          refine va_mmax hx hb (C.2.2.1.trans hl.1.symm) C.2.2.2.1 (C.2.2.2.2 _ m_ml_RX3_83) (C.2.2.2.2 _ m_st_math_max) (C.2.2.2.2 _ m_ii_math) (C.2.2.2.2 _ m_co_math_max) (Nat.le_of_ble_eq_true rfl) (Nat.le_of_ble_eq_true rfl) (Nat.le_of_ble_eq_true rfl) (Nat.le_of_ble_eq_true rfl) dX3_tryWay_138 ?_
          refine lv_topi (fun v_39 ev_39 => ?_)
          subst ev_39
          refine z_put C G clX3 0 rfl 5 (by decide) m_fl_RX3_40 rfl rfl rfl (Nat.le_of_ble_eq_true rfl) dX3_tryWay_141 (fun H locs G => ?_)
          have G : zS T A s.heap s [[zO3 t e0 e1 e2 e3 (if u5 < e4 then u5 else e4) (if e5 < u5 then u5 else e5) a1_1 a2_2], [zAr T 0 a1_1 m1 r1], [zAr T 0 a2_2 7 r2], [zO0 h md wy la pc_ a1_3 a2_4 a3_5 a4_6 a5_7 a6_8, zAr T 0 a1_3 7 f1, zAr T 0 a2_4 7 f2, zAr T 0 a3_5 7 f3, zAr T 0 a4_6 n4 f4, zAr T 0 a5_7 n4 f5, zAr T 0 a6_8 n4 f6], [zO4 la cr inn a1_9 a2_10 a3_11 a4_12, zAr T 0 a1_9 7 k1, zAr T 0 a2_10 28 k2, zAr T 0 a3_11 7 k3, zAr T 0 a4_12 7 k4], [(lg, .inr (5, [.int gg, .ref a1_13, .ref a2_14]))], [zAr T 0 a1_13 8 d1], [zAr T 0 a2_14 8 d2]] _ _ := G
          refine lv_aload_n hx hb dX3_tryWay_144 rfl (lv_at hl 3 rfl) ?_
          refine z_get C G clX3 0 rfl 6 (by decide) m_fl_RX3_18 rfl dX3_tryWay_145 ?_
          refine lv_aload_n hx hb dX3_tryWay_148 rfl (lv_at hl 3 rfl) ?_
          refine z_get C G clX3 0 rfl 3 (by decide) m_fl_RX3_34 rfl dX3_tryWay_149 ?_
          refine lv_iload hx hb dX3_tryWay_152 (lv_at hl 2 rfl) ?_
          refine lv_bipush (v := 14) hx hb dX3_tryWay_154 (by decide) ?_
          refine lv_ishl hx hb dX3_tryWay_156 ?_
          refine lv_iload_n hx hb dX3_tryWay_157 rfl (lv_at hl 6 rfl) ?_
          refine lv_iadd hx hb dX3_tryWay_158 ?_
          refine z_ist C G 1 rfl (vp_in_iff.mpr ⟨by omega, by omega⟩) dX3_tryWay_159 (fun H locs G => ?_)
          have G : zS T A s.heap s [[zO3 t e0 e1 e2 e3 (if u5 < e4 then u5 else e4) (if e5 < u5 then u5 else e5) a1_1 a2_2], [zAr T 0 a1_1 m1 (upd r1 e3.toNatClampNeg ((u4 <<< (14 &&& 31)) + x))], [zAr T 0 a2_2 7 r2], [zO0 h md wy la pc_ a1_3 a2_4 a3_5 a4_6 a5_7 a6_8, zAr T 0 a1_3 7 f1, zAr T 0 a2_4 7 f2, zAr T 0 a3_5 7 f3, zAr T 0 a4_6 n4 f4, zAr T 0 a5_7 n4 f5, zAr T 0 a6_8 n4 f6], [zO4 la cr inn a1_9 a2_10 a3_11 a4_12, zAr T 0 a1_9 7 k1, zAr T 0 a2_10 28 k2, zAr T 0 a3_11 7 k3, zAr T 0 a4_12 7 k4], [(lg, .inr (5, [.int gg, .ref a1_13, .ref a2_14]))], [zAr T 0 a1_13 8 d1], [zAr T 0 a2_14 8 d2]] _ _ := G
          refine lv_aload_n hx hb dX3_tryWay_160 rfl (lv_at hl 3 rfl) ?_
          refine lv_dup hx hb dX3_tryWay_161 rfl ?_
          refine z_get C G clX3 0 rfl 3 (by decide) m_fl_RX3_34 rfl dX3_tryWay_162 ?_
          refine lv_iconst (v := 1) hx hb dX3_tryWay_165 (by decide) ?_
          refine lv_iadd hx hb dX3_tryWay_166 ?_
          refine lv_topi (fun y_40 ey_40 => ?_)
          have ey_40i : y_40.toInt = e3.toInt + (1 : Int) := by rw [ey_40]; exact z_iaddI (x := e3) (y := (1 : Int32)) (by show -2147483648 ≤ e3.toInt + (1 : Int); omega) (by show e3.toInt + (1 : Int) < 2147483648; omega)
          refine z_put C G clX3 0 rfl 3 (by decide) m_fl_RX3_34 rfl rfl rfl (Nat.le_of_ble_eq_true rfl) dX3_tryWay_167 (fun H locs G => ?_)
          have G : zS T A s.heap s [[zO3 t e0 e1 e2 y_40 (if u5 < e4 then u5 else e4) (if e5 < u5 then u5 else e5) a1_1 a2_2], [zAr T 0 a1_1 m1 (upd r1 e3.toNatClampNeg ((u4 <<< (14 &&& 31)) + x))], [zAr T 0 a2_2 7 r2], [zO0 h md wy la pc_ a1_3 a2_4 a3_5 a4_6 a5_7 a6_8, zAr T 0 a1_3 7 f1, zAr T 0 a2_4 7 f2, zAr T 0 a3_5 7 f3, zAr T 0 a4_6 n4 f4, zAr T 0 a5_7 n4 f5, zAr T 0 a6_8 n4 f6], [zO4 la cr inn a1_9 a2_10 a3_11 a4_12, zAr T 0 a1_9 7 k1, zAr T 0 a2_10 28 k2, zAr T 0 a3_11 7 k3, zAr T 0 a4_12 7 k4], [(lg, .inr (5, [.int gg, .ref a1_13, .ref a2_14]))], [zAr T 0 a1_13 8 d1], [zAr T 0 a2_14 8 d2]] _ _ := G
          have hw_41 : bFit T t e0 e1 e2 y_40 (if u5 < e4 then u5 else e4) (if e5 < u5 then u5 else e5) (upd r1 e3.toNatClampNeg ((u4 <<< (14 &&& 31)) + x)) m1 r2 [zO3 t e0 e1 e2 y_40 (if u5 < e4 then u5 else e4) (if e5 < u5 then u5 else e5) a1_1 a2_2, zAr T 0 a1_1 m1 (upd r1 e3.toNatClampNeg ((u4 <<< (14 &&& 31)) + x)), zAr T 0 a2_2 7 r2] := ⟨a1_1, a2_2, rfl⟩
          have G : zS T A s.heap s [[zO3 t e0 e1 e2 y_40 (if u5 < e4 then u5 else e4) (if e5 < u5 then u5 else e5) a1_1 a2_2, zAr T 0 a1_1 m1 (upd r1 e3.toNatClampNeg ((u4 <<< (14 &&& 31)) + x)), zAr T 0 a2_2 7 r2], [zO0 h md wy la pc_ a1_3 a2_4 a3_5 a4_6 a5_7 a6_8, zAr T 0 a1_3 7 f1, zAr T 0 a2_4 7 f2, zAr T 0 a3_5 7 f3, zAr T 0 a4_6 n4 f4, zAr T 0 a5_7 n4 f5, zAr T 0 a6_8 n4 f6], [zO4 la cr inn a1_9 a2_10 a3_11 a4_12, zAr T 0 a1_9 7 k1, zAr T 0 a2_10 28 k2, zAr T 0 a3_11 7 k3, zAr T 0 a4_12 7 k4], [(lg, .inr (5, [.int gg, .ref a1_13, .ref a2_14]))], [zAr T 0 a1_13 8 d1], [zAr T 0 a2_14 8 d2]] _ _ := G.re rfl
          have hw_42 : bLog T lg gg d1 d2 [(lg, .inr (5, [.int gg, .ref a1_13, .ref a2_14])), zAr T 0 a1_13 8 d1, zAr T 0 a2_14 8 d2] := ⟨a1_13, a2_14, rfl⟩
          have G : zS T A s.heap s [[zO3 t e0 e1 e2 y_40 (if u5 < e4 then u5 else e4) (if e5 < u5 then u5 else e5) a1_1 a2_2, zAr T 0 a1_1 m1 (upd r1 e3.toNatClampNeg ((u4 <<< (14 &&& 31)) + x)), zAr T 0 a2_2 7 r2], [zO0 h md wy la pc_ a1_3 a2_4 a3_5 a4_6 a5_7 a6_8, zAr T 0 a1_3 7 f1, zAr T 0 a2_4 7 f2, zAr T 0 a3_5 7 f3, zAr T 0 a4_6 n4 f4, zAr T 0 a5_7 n4 f5, zAr T 0 a6_8 n4 f6], [zO4 la cr inn a1_9 a2_10 a3_11 a4_12, zAr T 0 a1_9 7 k1, zAr T 0 a2_10 28 k2, zAr T 0 a3_11 7 k3, zAr T 0 a4_12 7 k4], [(lg, .inr (5, [.int gg, .ref a1_13, .ref a2_14])), zAr T 0 a1_13 8 d1, zAr T 0 a2_14 8 d2]] _ _ := G.re rfl
          exact z_back hQ9 (z_vret C hr hlocks G (Nat.le_of_ble_eq_true rfl) (Nat.le_of_ble_eq_true rfl) dX3_tryWay_170 ⟨([zO3 t e0 e1 e2 y_40 (if u5 < e4 then u5 else e4) (if e5 < u5 then u5 else e5) a1_1 a2_2, zAr T 0 a1_1 m1 (upd r1 e3.toNatClampNeg ((u4 <<< (14 &&& 31)) + x)), zAr T 0 a2_2 7 r2]), y_40, (if u5 < e4 then u5 else e4), (if e5 < u5 then u5 else e5), (upd r1 e3.toNatClampNeg ((u4 <<< (14 &&& 31)) + x)), rfl, hw_41, (by omega)⟩)
        · have c_37n : e3.toInt = (0 : Int) := (fa_eq _ _).mp c_37
          refine lv_iload hx hb dX3_tryWay_114 (lv_at hl 1 rfl) ?_
          refine lv_goto (tgt := 128) hx hb dX3_tryWay_116 (by decide) ?_
          refine z_put C G clX3 0 rfl 4 (by decide) m_fl_RX3_37 rfl rfl rfl (Nat.le_of_ble_eq_true rfl) dX3_tryWay_128 (fun H locs G => ?_)
          have G : zS T A s.heap s [[zO3 t e0 e1 e2 e3 u5 e5 a1_1 a2_2], [zAr T 0 a1_1 m1 r1], [zAr T 0 a2_2 7 r2], [zO0 h md wy la pc_ a1_3 a2_4 a3_5 a4_6 a5_7 a6_8, zAr T 0 a1_3 7 f1, zAr T 0 a2_4 7 f2, zAr T 0 a3_5 7 f3, zAr T 0 a4_6 n4 f4, zAr T 0 a5_7 n4 f5, zAr T 0 a6_8 n4 f6], [zO4 la cr inn a1_9 a2_10 a3_11 a4_12, zAr T 0 a1_9 7 k1, zAr T 0 a2_10 28 k2, zAr T 0 a3_11 7 k3, zAr T 0 a4_12 7 k4], [(lg, .inr (5, [.int gg, .ref a1_13, .ref a2_14]))], [zAr T 0 a1_13 8 d1], [zAr T 0 a2_14 8 d2]] _ _ := G
          refine lv_aload_n hx hb dX3_tryWay_131 rfl (lv_at hl 3 rfl) ?_
          refine lv_aload_n hx hb dX3_tryWay_132 rfl (lv_at hl 3 rfl) ?_
          refine z_get C G clX3 0 rfl 5 (by decide) m_fl_RX3_40 rfl dX3_tryWay_133 ?_
          refine lv_iload hx hb dX3_tryWay_136 (lv_at hl 1 rfl) ?_
          refine va_mmax hx hb (C.2.2.1.trans hl.1.symm) C.2.2.2.1 (C.2.2.2.2 _ m_ml_RX3_83) (C.2.2.2.2 _ m_st_math_max) (C.2.2.2.2 _ m_ii_math) (C.2.2.2.2 _ m_co_math_max) (Nat.le_of_ble_eq_true rfl) (Nat.le_of_ble_eq_true rfl) (Nat.le_of_ble_eq_true rfl) (Nat.le_of_ble_eq_true rfl) dX3_tryWay_138 ?_
          refine lv_topi (fun v_43 ev_43 => ?_)
          subst ev_43
          refine z_put C G clX3 0 rfl 5 (by decide) m_fl_RX3_40 rfl rfl rfl (Nat.le_of_ble_eq_true rfl) dX3_tryWay_141 (fun H locs G => ?_)
          have G : zS T A s.heap s [[zO3 t e0 e1 e2 e3 u5 (if e5 < u5 then u5 else e5) a1_1 a2_2], [zAr T 0 a1_1 m1 r1], [zAr T 0 a2_2 7 r2], [zO0 h md wy la pc_ a1_3 a2_4 a3_5 a4_6 a5_7 a6_8, zAr T 0 a1_3 7 f1, zAr T 0 a2_4 7 f2, zAr T 0 a3_5 7 f3, zAr T 0 a4_6 n4 f4, zAr T 0 a5_7 n4 f5, zAr T 0 a6_8 n4 f6], [zO4 la cr inn a1_9 a2_10 a3_11 a4_12, zAr T 0 a1_9 7 k1, zAr T 0 a2_10 28 k2, zAr T 0 a3_11 7 k3, zAr T 0 a4_12 7 k4], [(lg, .inr (5, [.int gg, .ref a1_13, .ref a2_14]))], [zAr T 0 a1_13 8 d1], [zAr T 0 a2_14 8 d2]] _ _ := G
          refine lv_aload_n hx hb dX3_tryWay_144 rfl (lv_at hl 3 rfl) ?_
          refine z_get C G clX3 0 rfl 6 (by decide) m_fl_RX3_18 rfl dX3_tryWay_145 ?_
          refine lv_aload_n hx hb dX3_tryWay_148 rfl (lv_at hl 3 rfl) ?_
          refine z_get C G clX3 0 rfl 3 (by decide) m_fl_RX3_34 rfl dX3_tryWay_149 ?_
          refine lv_iload hx hb dX3_tryWay_152 (lv_at hl 2 rfl) ?_
          refine lv_bipush (v := 14) hx hb dX3_tryWay_154 (by decide) ?_
          refine lv_ishl hx hb dX3_tryWay_156 ?_
          refine lv_iload_n hx hb dX3_tryWay_157 rfl (lv_at hl 6 rfl) ?_
          refine lv_iadd hx hb dX3_tryWay_158 ?_
          refine z_ist C G 1 rfl (vp_in_iff.mpr ⟨by omega, by omega⟩) dX3_tryWay_159 (fun H locs G => ?_)
          have G : zS T A s.heap s [[zO3 t e0 e1 e2 e3 u5 (if e5 < u5 then u5 else e5) a1_1 a2_2], [zAr T 0 a1_1 m1 (upd r1 e3.toNatClampNeg ((u4 <<< (14 &&& 31)) + x))], [zAr T 0 a2_2 7 r2], [zO0 h md wy la pc_ a1_3 a2_4 a3_5 a4_6 a5_7 a6_8, zAr T 0 a1_3 7 f1, zAr T 0 a2_4 7 f2, zAr T 0 a3_5 7 f3, zAr T 0 a4_6 n4 f4, zAr T 0 a5_7 n4 f5, zAr T 0 a6_8 n4 f6], [zO4 la cr inn a1_9 a2_10 a3_11 a4_12, zAr T 0 a1_9 7 k1, zAr T 0 a2_10 28 k2, zAr T 0 a3_11 7 k3, zAr T 0 a4_12 7 k4], [(lg, .inr (5, [.int gg, .ref a1_13, .ref a2_14]))], [zAr T 0 a1_13 8 d1], [zAr T 0 a2_14 8 d2]] _ _ := G
          refine lv_aload_n hx hb dX3_tryWay_160 rfl (lv_at hl 3 rfl) ?_
          refine lv_dup hx hb dX3_tryWay_161 rfl ?_
          refine z_get C G clX3 0 rfl 3 (by decide) m_fl_RX3_34 rfl dX3_tryWay_162 ?_
          refine lv_iconst (v := 1) hx hb dX3_tryWay_165 (by decide) ?_
          refine lv_iadd hx hb dX3_tryWay_166 ?_
          refine lv_topi (fun y_44 ey_44 => ?_)
          have ey_44i : y_44.toInt = e3.toInt + (1 : Int) := by rw [ey_44]; exact z_iaddI (x := e3) (y := (1 : Int32)) (by show -2147483648 ≤ e3.toInt + (1 : Int); omega) (by show e3.toInt + (1 : Int) < 2147483648; omega)
          refine z_put C G clX3 0 rfl 3 (by decide) m_fl_RX3_34 rfl rfl rfl (Nat.le_of_ble_eq_true rfl) dX3_tryWay_167 (fun H locs G => ?_)
          have G : zS T A s.heap s [[zO3 t e0 e1 e2 y_44 u5 (if e5 < u5 then u5 else e5) a1_1 a2_2], [zAr T 0 a1_1 m1 (upd r1 e3.toNatClampNeg ((u4 <<< (14 &&& 31)) + x))], [zAr T 0 a2_2 7 r2], [zO0 h md wy la pc_ a1_3 a2_4 a3_5 a4_6 a5_7 a6_8, zAr T 0 a1_3 7 f1, zAr T 0 a2_4 7 f2, zAr T 0 a3_5 7 f3, zAr T 0 a4_6 n4 f4, zAr T 0 a5_7 n4 f5, zAr T 0 a6_8 n4 f6], [zO4 la cr inn a1_9 a2_10 a3_11 a4_12, zAr T 0 a1_9 7 k1, zAr T 0 a2_10 28 k2, zAr T 0 a3_11 7 k3, zAr T 0 a4_12 7 k4], [(lg, .inr (5, [.int gg, .ref a1_13, .ref a2_14]))], [zAr T 0 a1_13 8 d1], [zAr T 0 a2_14 8 d2]] _ _ := G
          have hw_45 : bFit T t e0 e1 e2 y_44 u5 (if e5 < u5 then u5 else e5) (upd r1 e3.toNatClampNeg ((u4 <<< (14 &&& 31)) + x)) m1 r2 [zO3 t e0 e1 e2 y_44 u5 (if e5 < u5 then u5 else e5) a1_1 a2_2, zAr T 0 a1_1 m1 (upd r1 e3.toNatClampNeg ((u4 <<< (14 &&& 31)) + x)), zAr T 0 a2_2 7 r2] := ⟨a1_1, a2_2, rfl⟩
          have G : zS T A s.heap s [[zO3 t e0 e1 e2 y_44 u5 (if e5 < u5 then u5 else e5) a1_1 a2_2, zAr T 0 a1_1 m1 (upd r1 e3.toNatClampNeg ((u4 <<< (14 &&& 31)) + x)), zAr T 0 a2_2 7 r2], [zO0 h md wy la pc_ a1_3 a2_4 a3_5 a4_6 a5_7 a6_8, zAr T 0 a1_3 7 f1, zAr T 0 a2_4 7 f2, zAr T 0 a3_5 7 f3, zAr T 0 a4_6 n4 f4, zAr T 0 a5_7 n4 f5, zAr T 0 a6_8 n4 f6], [zO4 la cr inn a1_9 a2_10 a3_11 a4_12, zAr T 0 a1_9 7 k1, zAr T 0 a2_10 28 k2, zAr T 0 a3_11 7 k3, zAr T 0 a4_12 7 k4], [(lg, .inr (5, [.int gg, .ref a1_13, .ref a2_14]))], [zAr T 0 a1_13 8 d1], [zAr T 0 a2_14 8 d2]] _ _ := G.re rfl
          have hw_46 : bLog T lg gg d1 d2 [(lg, .inr (5, [.int gg, .ref a1_13, .ref a2_14])), zAr T 0 a1_13 8 d1, zAr T 0 a2_14 8 d2] := ⟨a1_13, a2_14, rfl⟩
          have G : zS T A s.heap s [[zO3 t e0 e1 e2 y_44 u5 (if e5 < u5 then u5 else e5) a1_1 a2_2, zAr T 0 a1_1 m1 (upd r1 e3.toNatClampNeg ((u4 <<< (14 &&& 31)) + x)), zAr T 0 a2_2 7 r2], [zO0 h md wy la pc_ a1_3 a2_4 a3_5 a4_6 a5_7 a6_8, zAr T 0 a1_3 7 f1, zAr T 0 a2_4 7 f2, zAr T 0 a3_5 7 f3, zAr T 0 a4_6 n4 f4, zAr T 0 a5_7 n4 f5, zAr T 0 a6_8 n4 f6], [zO4 la cr inn a1_9 a2_10 a3_11 a4_12, zAr T 0 a1_9 7 k1, zAr T 0 a2_10 28 k2, zAr T 0 a3_11 7 k3, zAr T 0 a4_12 7 k4], [(lg, .inr (5, [.int gg, .ref a1_13, .ref a2_14])), zAr T 0 a1_13 8 d1, zAr T 0 a2_14 8 d2]] _ _ := G.re rfl
          exact z_back hQ9 (z_vret C hr hlocks G (Nat.le_of_ble_eq_true rfl) (Nat.le_of_ble_eq_true rfl) dX3_tryWay_170 ⟨([zO3 t e0 e1 e2 y_44 u5 (if e5 < u5 then u5 else e5) a1_1 a2_2, zAr T 0 a1_1 m1 (upd r1 e3.toNatClampNeg ((u4 <<< (14 &&& 31)) + x)), zAr T 0 a2_2 7 r2]), y_44, u5, (if e5 < u5 then u5 else e5), (upd r1 e3.toNatClampNeg ((u4 <<< (14 &&& 31)) + x)), rfl, hw_45, (by omega)⟩)
    · have c_33n : ¬ 8 ≤ i := fun q => c_33 ((nI_leI (a := 8) (b := i) (by omega) (by omega)).mpr q)
      refine lv_aload_n hx hb dX3_tryWay_25 rfl (lv_at hl 5 rfl) ?_
      refine z_get C G clX5 3 rfl 1 (by decide) m_fl_RX3_52 rfl dX3_tryWay_26 ?_
      refine lv_iload hx hb dX3_tryWay_29 (lv_at hl 0 rfl) ?_
      refine z_ild C G 4 rfl (vp_in_nI (by omega) (by omega)) dX3_tryWay_31 ?_
      refine lv_topi (fun v_47 ev_47 => ?_)
      rw [nI_clamp (by omega)] at ev_47
      subst ev_47
      refine lv_istore (lv' := [(7, .int (d1 i)), (6, .int (nI i)), (5, .int u5), (4, .int u4), (0, .ref t), (1, .ref h), (2, .ref lg), (3, .int x)]) hx hb dX3_tryWay_32 hl (by decide) rfl (fun ls hl => ?_)
      refine lv_aload_n hx hb dX3_tryWay_34 rfl (lv_at hl 5 rfl) ?_
      have G : zS T A s.heap s [[zO3 t e0 e1 e2 e3 e4 e5 a1_1 a2_2, zAr T 0 a1_1 m1 r1, zAr T 0 a2_2 7 r2], [zO0 h md wy la pc_ a1_3 a2_4 a3_5 a4_6 a5_7 a6_8], [zAr T 0 a1_3 7 f1], [zAr T 0 a2_4 7 f2], [zAr T 0 a3_5 7 f3], [zAr T 0 a4_6 n4 f4], [zAr T 0 a5_7 n4 f5], [zAr T 0 a6_8 n4 f6], [zO4 la cr inn a1_9 a2_10 a3_11 a4_12, zAr T 0 a1_9 7 k1, zAr T 0 a2_10 28 k2, zAr T 0 a3_11 7 k3, zAr T 0 a4_12 7 k4], [(lg, .inr (5, [.int gg, .ref a1_13, .ref a2_14]))], [zAr T 0 a1_13 8 d1], [zAr T 0 a2_14 8 d2]] _ _ := G.re rfl
      refine z_get C G clX0 1 rfl 2 (by decide) m_fl_RX3_55 rfl dX3_tryWay_35 ?_
      refine lv_iload hx hb dX3_tryWay_38 (lv_at hl 0 rfl) ?_
      refine z_Vi (bc := [[zO4 la cr inn a1_9 a2_10 a3_11 a4_12, zAr T 0 a1_9 7 k1, zAr T 0 a2_10 28 k2, zAr T 0 a3_11 7 k3, zAr T 0 a4_12 7 k4]]) (br := [[zO3 t e0 e1 e2 e3 e4 e5 a1_1 a2_2, zAr T 0 a1_1 m1 r1, zAr T 0 a2_2 7 r2], [zO0 h md wy la pc_ a1_3 a2_4 a3_5 a4_6 a5_7 a6_8], [zAr T 0 a1_3 7 f1], [zAr T 0 a2_4 7 f2], [zAr T 0 a3_5 7 f3], [zAr T 0 a4_6 n4 f4], [zAr T 0 a5_7 n4 f5], [zAr T 0 a6_8 n4 f6], [(lg, .inr (5, [.int gg, .ref a1_13, .ref a2_14]))], [zAr T 0 a1_13 8 d1], [zAr T 0 a2_14 8 d2]]) (As := [.int (d1 i)]) (rest := []) C G (c_has l T la cr inn k1 k2 k3 k4 ([zO4 la cr inn a1_9 a2_10 a3_11 a4_12, zAr T 0 a1_9 7 k1, zAr T 0 a2_10 28 k2, zAr T 0 a3_11 7 k3, zAr T 0 a4_12 7 k4]) (d1 i) hw_17) (kV_RX3_58 C.2.2.2.2 (Nat.le_of_ble_eq_true rfl) (Nat.le_of_ble_eq_true rfl)) [8] [8] rfl rfl (ci := 4) (qc := (RX4, TX4, 6)) rfl rfl (List.mem_flatten.mpr ⟨_, List.mem_of_getElem? (i := 0) rfl, (bLand_mem hw_17).choose_spec⟩) rfl rfl hl.1 dX3_tryWay_40 (Nat.le_of_ble_eq_true rfl) (Nat.le_of_ble_eq_true rfl) (fun r_49 b1 H locs hw G => ?_)
      refine zAn2 hw ?_
      intro hbs9 hc_48
      clear hw
      subst hbs9
      have G : zS T A s.heap s [[zO3 t e0 e1 e2 e3 e4 e5 a1_1 a2_2, zAr T 0 a1_1 m1 r1, zAr T 0 a2_2 7 r2], [zO0 h md wy la pc_ a1_3 a2_4 a3_5 a4_6 a5_7 a6_8], [zAr T 0 a1_3 7 f1], [zAr T 0 a2_4 7 f2], [zAr T 0 a3_5 7 f3], [zAr T 0 a4_6 n4 f4], [zAr T 0 a5_7 n4 f5], [zAr T 0 a6_8 n4 f6], [(lg, .inr (5, [.int gg, .ref a1_13, .ref a2_14]))], [zAr T 0 a1_13 8 d1], [zAr T 0 a2_14 8 d2], [zO4 la cr inn a1_9 a2_10 a3_11 a4_12, zAr T 0 a1_9 7 k1, zAr T 0 a2_10 28 k2, zAr T 0 a3_11 7 k3, zAr T 0 a4_12 7 k4]] _ _ := G
      rcases hc_48 with ⟨rfl, h_50, h_51, h_52⟩ | ⟨rfl, h_53⟩
      · have h_50 : 0 ≤ (d1 i).toInt := h_50
        have h_51 : (d1 i).toInt < cr.toInt := h_51
        have h_52 : (d1 i).toInt < 7 := h_52
        refine lv_if_eq (tgt := 64) hx hb dX3_tryWay_43 (by decide) (fun q => absurd q (by decide)) (fun _ => ?_)
        refine lv_aload_n hx hb dX3_tryWay_46 rfl (lv_at hl 5 rfl) ?_
        refine lv_iload hx hb dX3_tryWay_47 (lv_at hl 3 rfl) ?_
        refine lv_iload hx hb dX3_tryWay_49 (lv_at hl 0 rfl) ?_
        refine lv_aload_n hx hb dX3_tryWay_51 rfl (lv_at hl 6 rfl) ?_
        refine z_get C G clX5 8 rfl 2 (by decide) m_fl_RX3_64 rfl dX3_tryWay_52 ?_
        refine lv_iload hx hb dX3_tryWay_55 (lv_at hl 1 rfl) ?_
        refine z_ild C G 10 rfl (vp_in_nI (by omega) (by omega)) dX3_tryWay_57 ?_
        refine lv_topi (fun v_54 ev_54 => ?_)
        rw [nI_clamp (by omega)] at ev_54
        subst ev_54
        have hw_55 : bWays T h la md wy pc_ f1 f2 f3 f4 f5 f6 n4 [zO0 h md wy la pc_ a1_3 a2_4 a3_5 a4_6 a5_7 a6_8, zAr T 0 a1_3 7 f1, zAr T 0 a2_4 7 f2, zAr T 0 a3_5 7 f3, zAr T 0 a4_6 n4 f4, zAr T 0 a5_7 n4 f5, zAr T 0 a6_8 n4 f6] := ⟨a1_3, a2_4, a3_5, a4_6, a5_7, a6_8, rfl⟩
        have G : zS T A s.heap s [[zO3 t e0 e1 e2 e3 e4 e5 a1_1 a2_2, zAr T 0 a1_1 m1 r1, zAr T 0 a2_2 7 r2], [zO0 h md wy la pc_ a1_3 a2_4 a3_5 a4_6 a5_7 a6_8, zAr T 0 a1_3 7 f1, zAr T 0 a2_4 7 f2, zAr T 0 a3_5 7 f3, zAr T 0 a4_6 n4 f4, zAr T 0 a5_7 n4 f5, zAr T 0 a6_8 n4 f6], [(lg, .inr (5, [.int gg, .ref a1_13, .ref a2_14]))], [zAr T 0 a1_13 8 d1], [zAr T 0 a2_14 8 d2], [zO4 la cr inn a1_9 a2_10 a3_11 a4_12, zAr T 0 a1_9 7 k1, zAr T 0 a2_10 28 k2, zAr T 0 a3_11 7 k3, zAr T 0 a4_12 7 k4]] _ _ := G.re rfl
        refine z_Si (bc := [[zO0 h md wy la pc_ a1_3 a2_4 a3_5 a4_6 a5_7 a6_8, zAr T 0 a1_3 7 f1, zAr T 0 a2_4 7 f2, zAr T 0 a3_5 7 f3, zAr T 0 a4_6 n4 f4, zAr T 0 a5_7 n4 f5, zAr T 0 a6_8 n4 f6], [zO4 la cr inn a1_9 a2_10 a3_11 a4_12, zAr T 0 a1_9 7 k1, zAr T 0 a2_10 28 k2, zAr T 0 a3_11 7 k3, zAr T 0 a4_12 7 k4]]) (br := [[zO3 t e0 e1 e2 e3 e4 e5 a1_1 a2_2, zAr T 0 a1_1 m1 r1, zAr T 0 a2_2 7 r2], [(lg, .inr (5, [.int gg, .ref a1_13, .ref a2_14]))], [zAr T 0 a1_13 8 d1], [zAr T 0 a2_14 8 d2]]) (As := [.ref h, .int u4, .int (d1 i), .int (d2 i)]) (rest := []) C G (c_isSo_x l T h la md wy pc_ f1 f2 f3 f4 f5 f6 n4 ([zO0 h md wy la pc_ a1_3 a2_4 a3_5 a4_6 a5_7 a6_8, zAr T 0 a1_3 7 f1, zAr T 0 a2_4 7 f2, zAr T 0 a3_5 7 f3, zAr T 0 a4_6 n4 f4, zAr T 0 a5_7 n4 f5, zAr T 0 a6_8 n4 f6]) cr inn k1 k2 k3 k4 ([zO4 la cr inn a1_9 a2_10 a3_11 a4_12, zAr T 0 a1_9 7 k1, zAr T 0 a2_10 28 k2, zAr T 0 a3_11 7 k3, zAr T 0 a4_12 7 k4]) u4 (d1 i) (d2 i) hw_55 hw_17 (by first | with_reducible assumption | with_reducible rfl | omega | assumption | rfl)) (kS_RX3_67 C.2.2.2.2 (Nat.le_of_ble_eq_true rfl) (Nat.le_of_ble_eq_true rfl)) [1, 5] [1, 3] rfl rfl rfl rfl hl.1 dX3_tryWay_58 (Nat.le_of_ble_eq_true rfl) (Nat.le_of_ble_eq_true rfl) (fun r_57 b1 H locs hw G => ?_)
        refine zAn2 hw ?_
        intro hbs9 h_56
        clear hw
        subst hbs9
        have G : zS T A s.heap s [[zO3 t e0 e1 e2 e3 e4 e5 a1_1 a2_2, zAr T 0 a1_1 m1 r1, zAr T 0 a2_2 7 r2], [(lg, .inr (5, [.int gg, .ref a1_13, .ref a2_14]))], [zAr T 0 a1_13 8 d1], [zAr T 0 a2_14 8 d2], [zO0 h md wy la pc_ a1_3 a2_4 a3_5 a4_6 a5_7 a6_8, zAr T 0 a1_3 7 f1, zAr T 0 a2_4 7 f2, zAr T 0 a3_5 7 f3, zAr T 0 a4_6 n4 f4, zAr T 0 a5_7 n4 f5, zAr T 0 a6_8 n4 f6], [zO4 la cr inn a1_9 a2_10 a3_11 a4_12, zAr T 0 a1_9 7 k1, zAr T 0 a2_10 28 k2, zAr T 0 a3_11 7 k3, zAr T 0 a4_12 7 k4]] _ _ := G
        replace h_56 : zHd ((r_57 = 0 ∨ r_57 = 1)) := h_56
        refine lv_if_ne (tgt := 65) hx hb dX3_tryWay_61 (by decide) (fun c_58 => ?_) (fun c_58 => ?_)
        · have c_58n : ¬ r_57.toInt = (0 : Int) := fun q => c_58 ((fa_eq _ _).mpr q)
          refine lv_iload hx hb dX3_tryWay_65 (lv_at hl 2 rfl) ?_
          refine lv_aload_n hx hb dX3_tryWay_67 rfl (lv_at hl 5 rfl) ?_
          refine lv_iload hx hb dX3_tryWay_68 (lv_at hl 3 rfl) ?_
          refine lv_iload hx hb dX3_tryWay_70 (lv_at hl 0 rfl) ?_
          refine z_Vi (bc := [[zO0 h md wy la pc_ a1_3 a2_4 a3_5 a4_6 a5_7 a6_8, zAr T 0 a1_3 7 f1, zAr T 0 a2_4 7 f2, zAr T 0 a3_5 7 f3, zAr T 0 a4_6 n4 f4, zAr T 0 a5_7 n4 f5, zAr T 0 a6_8 n4 f6]]) (br := [[zO3 t e0 e1 e2 e3 e4 e5 a1_1 a2_2, zAr T 0 a1_1 m1 r1, zAr T 0 a2_2 7 r2], [(lg, .inr (5, [.int gg, .ref a1_13, .ref a2_14]))], [zAr T 0 a1_13 8 d1], [zAr T 0 a2_14 8 d2], [zO4 la cr inn a1_9 a2_10 a3_11 a4_12, zAr T 0 a1_9 7 k1, zAr T 0 a2_10 28 k2, zAr T 0 a3_11 7 k3, zAr T 0 a4_12 7 k4]]) (As := [.int u4, .int (d1 i)]) (rest := [.int u5]) C G (c_steps l T h la md wy pc_ f1 f2 f3 f4 f5 f6 n4 ([zO0 h md wy la pc_ a1_3 a2_4 a3_5 a4_6 a5_7 a6_8, zAr T 0 a1_3 7 f1, zAr T 0 a2_4 7 f2, zAr T 0 a3_5 7 f3, zAr T 0 a4_6 n4 f4, zAr T 0 a5_7 n4 f5, zAr T 0 a6_8 n4 f6]) u4 (d1 i) hw_55 (by first | with_reducible assumption | with_reducible rfl | omega | assumption | rfl)) (kV_RX3_71 C.2.2.2.2 (Nat.le_of_ble_eq_true rfl) (Nat.le_of_ble_eq_true rfl)) [4] [4] rfl rfl (ci := 0) (qc := (RX0, TX0, 10)) rfl rfl (List.mem_flatten.mpr ⟨_, List.mem_of_getElem? (i := 0) rfl, (bWays_mem hw_55).choose_spec⟩) rfl rfl hl.1 dX3_tryWay_72 (Nat.le_of_ble_eq_true rfl) (Nat.le_of_ble_eq_true rfl) (fun r_60 b1 H locs hw G => ?_)
          refine zAn2 hw ?_
          intro hbs9 h_59
          clear hw
          subst hbs9
          have G : zS T A s.heap s [[zO3 t e0 e1 e2 e3 e4 e5 a1_1 a2_2, zAr T 0 a1_1 m1 r1, zAr T 0 a2_2 7 r2], [(lg, .inr (5, [.int gg, .ref a1_13, .ref a2_14]))], [zAr T 0 a1_13 8 d1], [zAr T 0 a2_14 8 d2], [zO4 la cr inn a1_9 a2_10 a3_11 a4_12, zAr T 0 a1_9 7 k1, zAr T 0 a2_10 28 k2, zAr T 0 a3_11 7 k3, zAr T 0 a4_12 7 k4], [zO0 h md wy la pc_ a1_3 a2_4 a3_5 a4_6 a5_7 a6_8, zAr T 0 a1_3 7 f1, zAr T 0 a2_4 7 f2, zAr T 0 a3_5 7 f3, zAr T 0 a4_6 n4 f4, zAr T 0 a5_7 n4 f5, zAr T 0 a6_8 n4 f6]] _ _ := G
          subst h_59
          refine lv_iadd hx hb dX3_tryWay_75 ?_
          refine lv_istore (lv' := [(5, .int (u5 + (zEntry f5 n4 u4 (d1 i) >>> (17 &&& 31)))), (7, .int (d1 i)), (6, .int (nI i)), (4, .int u4), (0, .ref t), (1, .ref h), (2, .ref lg), (3, .int x)]) hx hb dX3_tryWay_76 hl (by decide) rfl (fun ls hl => ?_)
          refine lv_aload_n hx hb dX3_tryWay_78 rfl (lv_at hl 5 rfl) ?_
          refine lv_iload hx hb dX3_tryWay_79 (lv_at hl 3 rfl) ?_
          refine lv_iload hx hb dX3_tryWay_81 (lv_at hl 1 rfl) ?_
          refine z_Vi (bc := [[zO0 h md wy la pc_ a1_3 a2_4 a3_5 a4_6 a5_7 a6_8, zAr T 0 a1_3 7 f1, zAr T 0 a2_4 7 f2, zAr T 0 a3_5 7 f3, zAr T 0 a4_6 n4 f4, zAr T 0 a5_7 n4 f5, zAr T 0 a6_8 n4 f6]]) (br := [[zO3 t e0 e1 e2 e3 e4 e5 a1_1 a2_2, zAr T 0 a1_1 m1 r1, zAr T 0 a2_2 7 r2], [(lg, .inr (5, [.int gg, .ref a1_13, .ref a2_14]))], [zAr T 0 a1_13 8 d1], [zAr T 0 a2_14 8 d2], [zO4 la cr inn a1_9 a2_10 a3_11 a4_12, zAr T 0 a1_9 7 k1, zAr T 0 a2_10 28 k2, zAr T 0 a3_11 7 k3, zAr T 0 a4_12 7 k4]]) (As := [.int u4, .int (d1 i)]) (rest := []) C G (c_wayAfter l T h la md wy pc_ f1 f2 f3 f4 f5 f6 n4 ([zO0 h md wy la pc_ a1_3 a2_4 a3_5 a4_6 a5_7 a6_8, zAr T 0 a1_3 7 f1, zAr T 0 a2_4 7 f2, zAr T 0 a3_5 7 f3, zAr T 0 a4_6 n4 f4, zAr T 0 a5_7 n4 f5, zAr T 0 a6_8 n4 f6]) u4 (d1 i) hw_55 (by first | with_reducible assumption | with_reducible rfl | omega | assumption | rfl)) (kV_RX3_75 C.2.2.2.2 (Nat.le_of_ble_eq_true rfl) (Nat.le_of_ble_eq_true rfl)) [5] [5] rfl rfl (ci := 0) (qc := (RX0, TX0, 10)) rfl rfl (List.mem_flatten.mpr ⟨_, List.mem_of_getElem? (i := 0) rfl, (bWays_mem hw_55).choose_spec⟩) rfl rfl hl.1 dX3_tryWay_83 (Nat.le_of_ble_eq_true rfl) (Nat.le_of_ble_eq_true rfl) (fun r_62 b1 H locs hw G => ?_)
          refine zAn2 hw ?_
          intro hbs9 h_61
          clear hw
          subst hbs9
          have G : zS T A s.heap s [[zO3 t e0 e1 e2 e3 e4 e5 a1_1 a2_2, zAr T 0 a1_1 m1 r1, zAr T 0 a2_2 7 r2], [(lg, .inr (5, [.int gg, .ref a1_13, .ref a2_14]))], [zAr T 0 a1_13 8 d1], [zAr T 0 a2_14 8 d2], [zO4 la cr inn a1_9 a2_10 a3_11 a4_12, zAr T 0 a1_9 7 k1, zAr T 0 a2_10 28 k2, zAr T 0 a3_11 7 k3, zAr T 0 a4_12 7 k4], [zO0 h md wy la pc_ a1_3 a2_4 a3_5 a4_6 a5_7 a6_8, zAr T 0 a1_3 7 f1, zAr T 0 a2_4 7 f2, zAr T 0 a3_5 7 f3, zAr T 0 a4_6 n4 f4, zAr T 0 a5_7 n4 f5, zAr T 0 a6_8 n4 f6]] _ _ := G
          subst h_61
          refine lv_istore (lv' := [(4, .int ((zEntry f5 n4 u4 (d1 i) &&& 131071) >>> (3 &&& 31))), (5, .int (u5 + (zEntry f5 n4 u4 (d1 i) >>> (17 &&& 31)))), (7, .int (d1 i)), (6, .int (nI i)), (0, .ref t), (1, .ref h), (2, .ref lg), (3, .int x)]) hx hb dX3_tryWay_86 hl (by decide) rfl (fun ls hl => ?_)
          refine lv_iinc (v := nI (i + 1)) (lv' := [(6, .int (nI (i + 1))), (4, .int ((zEntry f5 n4 u4 (d1 i) &&& 131071) >>> (3 &&& 31))), (5, .int (u5 + (zEntry f5 n4 u4 (d1 i) >>> (17 &&& 31)))), (7, .int (d1 i)), (0, .ref t), (1, .ref h), (2, .ref lg), (3, .int x)]) hx hb dX3_tryWay_88 hl (k := 3) rfl (z_inc i 1) (by decide) rfl (fun ls hl => ?_)
          refine lv_goto (tgt := 9) hx hb dX3_tryWay_91 (by decide) ?_
          have hw_63 : bLog T lg gg d1 d2 [(lg, .inr (5, [.int gg, .ref a1_13, .ref a2_14])), zAr T 0 a1_13 8 d1, zAr T 0 a2_14 8 d2] := ⟨a1_13, a2_14, rfl⟩
          have G : zS T A s.heap s [[zO3 t e0 e1 e2 e3 e4 e5 a1_1 a2_2, zAr T 0 a1_1 m1 r1, zAr T 0 a2_2 7 r2], [(lg, .inr (5, [.int gg, .ref a1_13, .ref a2_14])), zAr T 0 a1_13 8 d1, zAr T 0 a2_14 8 d2], [zO4 la cr inn a1_9 a2_10 a3_11 a4_12, zAr T 0 a1_9 7 k1, zAr T 0 a2_10 28 k2, zAr T 0 a3_11 7 k3, zAr T 0 a4_12 7 k4], [zO0 h md wy la pc_ a1_3 a2_4 a3_5 a4_6 a5_7 a6_8, zAr T 0 a1_3 7 f1, zAr T 0 a2_4 7 f2, zAr T 0 a3_5 7 f3, zAr T 0 a4_6 n4 f4, zAr T 0 a5_7 n4 f5, zAr T 0 a6_8 n4 f6]] _ _ := G.re rfl
          have G := G.sub (bs' := [[zO3 t e0 e1 e2 e3 e4 e5 a1_1 a2_2, zAr T 0 a1_1 m1 r1, zAr T 0 a2_2 7 r2], [zO0 h md wy la pc_ a1_3 a2_4 a3_5 a4_6 a5_7 a6_8, zAr T 0 a1_3 7 f1, zAr T 0 a2_4 7 f2, zAr T 0 a3_5 7 f3, zAr T 0 a4_6 n4 f4, zAr T 0 a5_7 n4 f5, zAr T 0 a6_8 n4 f6], [zO4 la cr inn a1_9 a2_10 a3_11 a4_12, zAr T 0 a1_9 7 k1, zAr T 0 a2_10 28 k2, zAr T 0 a3_11 7 k3, zAr T 0 a4_12 7 k4], [(lg, .inr (5, [.int gg, .ref a1_13, .ref a2_14])), zAr T 0 a1_13 8 d1, zAr T 0 a2_14 8 d2]]) [0, 3, 2, 1] rfl
          exact ih_9 (i + 1) ((zEntry f5 n4 u4 (d1 i) &&& 131071) >>> (3 &&& 31)) (u5 + (zEntry f5 n4 u4 (d1 i) >>> (17 &&& 31))) (show (i + 1) ≤ 8 from by omega) (show 8 - (i + 1) < 8 - i from by omega) _ _ ls G (lv_sub hl [0, 2, 1, 4, 5, 6, 7] rfl)
        · have c_58n : r_57.toInt = (0 : Int) := (fa_eq _ _).mp c_58
          have hw_64 : bLog T lg gg d1 d2 [(lg, .inr (5, [.int gg, .ref a1_13, .ref a2_14])), zAr T 0 a1_13 8 d1, zAr T 0 a2_14 8 d2] := ⟨a1_13, a2_14, rfl⟩
          have G : zS T A s.heap s [[zO3 t e0 e1 e2 e3 e4 e5 a1_1 a2_2, zAr T 0 a1_1 m1 r1, zAr T 0 a2_2 7 r2], [(lg, .inr (5, [.int gg, .ref a1_13, .ref a2_14])), zAr T 0 a1_13 8 d1, zAr T 0 a2_14 8 d2], [zO0 h md wy la pc_ a1_3 a2_4 a3_5 a4_6 a5_7 a6_8, zAr T 0 a1_3 7 f1, zAr T 0 a2_4 7 f2, zAr T 0 a3_5 7 f3, zAr T 0 a4_6 n4 f4, zAr T 0 a5_7 n4 f5, zAr T 0 a6_8 n4 f6], [zO4 la cr inn a1_9 a2_10 a3_11 a4_12, zAr T 0 a1_9 7 k1, zAr T 0 a2_10 28 k2, zAr T 0 a3_11 7 k3, zAr T 0 a4_12 7 k4]] _ _ := G.re rfl
          have G := G.sub (bs' := [[zO3 t e0 e1 e2 e3 e4 e5 a1_1 a2_2, zAr T 0 a1_1 m1 r1, zAr T 0 a2_2 7 r2], [zO0 h md wy la pc_ a1_3 a2_4 a3_5 a4_6 a5_7 a6_8, zAr T 0 a1_3 7 f1, zAr T 0 a2_4 7 f2, zAr T 0 a3_5 7 f3, zAr T 0 a4_6 n4 f4, zAr T 0 a5_7 n4 f5, zAr T 0 a6_8 n4 f6], [zO4 la cr inn a1_9 a2_10 a3_11 a4_12, zAr T 0 a1_9 7 k1, zAr T 0 a2_10 28 k2, zAr T 0 a3_11 7 k3, zAr T 0 a4_12 7 k4], [(lg, .inr (5, [.int gg, .ref a1_13, .ref a2_14])), zAr T 0 a1_13 8 d1, zAr T 0 a2_14 8 d2]]) [0, 2, 3, 1] rfl
          exact z_back hQ9 (z_vret C hr hlocks G (Nat.le_of_ble_eq_true rfl) (Nat.le_of_ble_eq_true rfl) dX3_tryWay_64 ⟨([zO3 t e0 e1 e2 e3 e4 e5 a1_1 a2_2, zAr T 0 a1_1 m1 r1, zAr T 0 a2_2 7 r2]), e3, e4, e5, r1, rfl, hw_15, h3⟩)
      · have h_53 : ((d1 i).toInt < 0 ∨ cr.toInt ≤ (d1 i).toInt ∨ 7 ≤ (d1 i).toInt) := h_53
        refine lv_if_eq (tgt := 64) hx hb dX3_tryWay_43 (by decide) (fun _ => ?_) (fun q => absurd (by decide) q)
        have hw_65 : bWays T h la md wy pc_ f1 f2 f3 f4 f5 f6 n4 [zO0 h md wy la pc_ a1_3 a2_4 a3_5 a4_6 a5_7 a6_8, zAr T 0 a1_3 7 f1, zAr T 0 a2_4 7 f2, zAr T 0 a3_5 7 f3, zAr T 0 a4_6 n4 f4, zAr T 0 a5_7 n4 f5, zAr T 0 a6_8 n4 f6] := ⟨a1_3, a2_4, a3_5, a4_6, a5_7, a6_8, rfl⟩
        have G : zS T A s.heap s [[zO3 t e0 e1 e2 e3 e4 e5 a1_1 a2_2, zAr T 0 a1_1 m1 r1, zAr T 0 a2_2 7 r2], [zO0 h md wy la pc_ a1_3 a2_4 a3_5 a4_6 a5_7 a6_8, zAr T 0 a1_3 7 f1, zAr T 0 a2_4 7 f2, zAr T 0 a3_5 7 f3, zAr T 0 a4_6 n4 f4, zAr T 0 a5_7 n4 f5, zAr T 0 a6_8 n4 f6], [(lg, .inr (5, [.int gg, .ref a1_13, .ref a2_14]))], [zAr T 0 a1_13 8 d1], [zAr T 0 a2_14 8 d2], [zO4 la cr inn a1_9 a2_10 a3_11 a4_12, zAr T 0 a1_9 7 k1, zAr T 0 a2_10 28 k2, zAr T 0 a3_11 7 k3, zAr T 0 a4_12 7 k4]] _ _ := G.re rfl
        have hw_66 : bLog T lg gg d1 d2 [(lg, .inr (5, [.int gg, .ref a1_13, .ref a2_14])), zAr T 0 a1_13 8 d1, zAr T 0 a2_14 8 d2] := ⟨a1_13, a2_14, rfl⟩
        have G : zS T A s.heap s [[zO3 t e0 e1 e2 e3 e4 e5 a1_1 a2_2, zAr T 0 a1_1 m1 r1, zAr T 0 a2_2 7 r2], [zO0 h md wy la pc_ a1_3 a2_4 a3_5 a4_6 a5_7 a6_8, zAr T 0 a1_3 7 f1, zAr T 0 a2_4 7 f2, zAr T 0 a3_5 7 f3, zAr T 0 a4_6 n4 f4, zAr T 0 a5_7 n4 f5, zAr T 0 a6_8 n4 f6], [(lg, .inr (5, [.int gg, .ref a1_13, .ref a2_14])), zAr T 0 a1_13 8 d1, zAr T 0 a2_14 8 d2], [zO4 la cr inn a1_9 a2_10 a3_11 a4_12, zAr T 0 a1_9 7 k1, zAr T 0 a2_10 28 k2, zAr T 0 a3_11 7 k3, zAr T 0 a4_12 7 k4]] _ _ := G.re rfl
        have G := G.sub (bs' := [[zO3 t e0 e1 e2 e3 e4 e5 a1_1 a2_2, zAr T 0 a1_1 m1 r1, zAr T 0 a2_2 7 r2], [zO0 h md wy la pc_ a1_3 a2_4 a3_5 a4_6 a5_7 a6_8, zAr T 0 a1_3 7 f1, zAr T 0 a2_4 7 f2, zAr T 0 a3_5 7 f3, zAr T 0 a4_6 n4 f4, zAr T 0 a5_7 n4 f5, zAr T 0 a6_8 n4 f6], [zO4 la cr inn a1_9 a2_10 a3_11 a4_12, zAr T 0 a1_9 7 k1, zAr T 0 a2_10 28 k2, zAr T 0 a3_11 7 k3, zAr T 0 a4_12 7 k4], [(lg, .inr (5, [.int gg, .ref a1_13, .ref a2_14])), zAr T 0 a1_13 8 d1, zAr T 0 a2_14 8 d2]]) [0, 1, 3, 2] rfl
        exact z_back hQ9 (z_vret C hr hlocks G (Nat.le_of_ble_eq_true rfl) (Nat.le_of_ble_eq_true rfl) dX3_tryWay_64 ⟨([zO3 t e0 e1 e2 e3 e4 e5 a1_1 a2_2, zAr T 0 a1_1 m1 r1, zAr T 0 a2_2 7 r2]), e3, e4, e5, r1, rfl, hw_15, h3⟩)
set_option maxHeartbeats 4000000 in
set_option maxRecDepth 100000 in
/-- c_find -/
theorem c_find (l : Launch) (T : zTy) (t : Nat) (e0 : Int32) (e1 : Int32) (e2 : Int32) (e3 : Int32) (e4 : Int32) (e5 : Int32) (r1 : Nat → Int32) (m1 : Nat) (r2 : Nat → Int32) (wf : va_W) (h : Nat) (la : Nat) (md : Int32) (wy : Int32) (pc_ : Int32) (f1 : Nat → Int32) (f2 : Nat → Int32) (f3 : Nat → Int32) (f4 : Nat → Int32) (f5 : Nat → Int32) (f6 : Nat → Int32) (n4 : Nat) (ww : va_W) (cr : Int32) (inn : Int32) (k1 : Nat → Int32) (k2 : Nat → Int32) (k3 : Nat → Int32) (k4 : Nat → Int32) (z : va_W) (lg : Nat) (gg : Int32) (d1 : Nat → Int32) (d2 : Nat → Int32) (wg : va_W) (hwf : bFit T t e0 e1 e2 e3 e4 e5 r1 m1 r2 wf) (hww : bWays T h la md wy pc_ f1 f2 f3 f4 f5 f6 n4 ww) (hz : bLand T la cr inn k1 k2 k3 k4 z) (hg : bLog T lg gg d1 d2 wg) (hn : n4 ≤ 131072) (hfw : zFw m1) (hwm : 0 ≤ wy.toInt ∧ wy.toInt ≤ 16384) : zMv l T yX3_find cX3_find 4 5 1 (2 * (zFl m1 wy - m1)) [.ref t, .ref h, .ref lg] [wf, ww, z, wg] (fun bs => ∃ (w2 : va_W) (s3 : Int32) (s4 : Int32) (s5 : Int32) (g1 : Nat → Int32), bs = [w2, ww, z, wg] ∧ bFit T t e0 e1 e2 s3 s4 s5 g1 (zFl m1 wy) r2 w2 ∧ 0 ≤ s3.toInt) := by
  refine zMv_of (own := RX3) (by decide) rfl (Nat.le_of_ble_eq_true rfl) ?_
  intro p e s m args below meth c A ls C hr hlocks hnm hAe G hl
  refine zHide (fun Q9 hQ9 => ?_)
  have hx := C.1
  have hb := C.2.1
  have hl : lv_has ls 4 [(0, .ref t), (1, .ref h), (2, .ref lg)] := hl
  refine lv_aload_n hx hb dX3_find_0 rfl (lv_at hl 0 rfl) ?_
  refine lv_aload_n hx hb dX3_find_1 rfl (lv_at hl 1 rfl) ?_
  refine zEx6 hww ?_
  intro a1_1 a2_2 a3_3 a4_4 a5_5 a6_6 hbs9
  clear hww
  subst hbs9
  have G : zS T A s.heap s [wf, [zO0 h md wy la pc_ a1_1 a2_2 a3_3 a4_4 a5_5 a6_6], [zAr T 0 a1_1 7 f1], [zAr T 0 a2_2 7 f2], [zAr T 0 a3_3 7 f3], [zAr T 0 a4_4 n4 f4], [zAr T 0 a5_5 n4 f5], [zAr T 0 a6_6 n4 f6], z, wg] _ _ := G.re rfl
  refine z_get C G clX0 1 rfl 1 (by decide) m_fl_RX3_25 rfl dX3_find_2 ?_
  have hfw2 := zFl_pw (wy := wy) hfw
  have hm2 := zFw_le hfw2
  refine z_Vv (bc := [wf]) (br := [[zO0 h md wy la pc_ a1_1 a2_2 a3_3 a4_4 a5_5 a6_6], [zAr T 0 a1_1 7 f1], [zAr T 0 a2_2 7 f2], [zAr T 0 a3_3 7 f3], [zAr T 0 a4_4 n4 f4], [zAr T 0 a5_5 n4 f5], [zAr T 0 a6_6 n4 f6], z, wg]) (As := [.int wy]) (rest := []) C G (c_Fit_grow l T t e0 e1 e2 e3 e4 e5 r1 m1 r2 wf wy hwf (by first | with_reducible assumption | with_reducible rfl | omega | assumption | rfl) hwm.2) (kV_RX3_30 C.2.2.2.2 (Nat.le_of_ble_eq_true rfl) (Nat.le_of_ble_eq_true rfl)) [0] [0] rfl rfl (ci := 3) (qc := (RX3, TX3, 8)) rfl rfl (List.mem_flatten.mpr ⟨_, List.mem_of_getElem? (i := 0) rfl, (bFit_mem hwf).choose_spec⟩) rfl rfl hl.1 dX3_find_5 (by show _ + 1 ≤ 1; omega) (by show _ + (2 * (zFl m1 wy - m1)) ≤ 2 * (zFl m1 wy - m1); omega) (fun b1 H locs hw G => ?_)
  refine zEx2 hw ?_
  intro w2_7 g1_8
  refine zCu2 ?_
  intro hbs9 h_9
  clear hw
  subst hbs9
  have G : zS T A s.heap s [[zO0 h md wy la pc_ a1_1 a2_2 a3_3 a4_4 a5_5 a6_6], [zAr T 0 a1_1 7 f1], [zAr T 0 a2_2 7 f2], [zAr T 0 a3_3 7 f3], [zAr T 0 a4_4 n4 f4], [zAr T 0 a5_5 n4 f5], [zAr T 0 a6_6 n4 f6], z, wg, w2_7] _ _ := G
  refine lv_aload_n hx hb dX3_find_8 rfl (lv_at hl 0 rfl) ?_
  refine lv_iconst (v := 0) hx hb dX3_find_9 (by decide) ?_
  refine zEx2 h_9 ?_
  intro a1_11 a2_12 hbs9
  clear h_9
  subst hbs9
  have G : zS T A s.heap s [[zO0 h md wy la pc_ a1_1 a2_2 a3_3 a4_4 a5_5 a6_6], [zAr T 0 a1_1 7 f1], [zAr T 0 a2_2 7 f2], [zAr T 0 a3_3 7 f3], [zAr T 0 a4_4 n4 f4], [zAr T 0 a5_5 n4 f5], [zAr T 0 a6_6 n4 f6], z, wg, [zO3 t e0 e1 e2 e3 e4 e5 a1_11 a2_12], [zAr T 0 a1_11 (zFl m1 wy) g1_8], [zAr T 0 a2_12 7 r2]] _ _ := G.re rfl
  refine z_put C G clX3 9 rfl 3 (by decide) m_fl_RX3_34 rfl rfl rfl (Nat.le_of_ble_eq_true rfl) dX3_find_10 (fun H locs G => ?_)
  have G : zS T A s.heap s [[zO0 h md wy la pc_ a1_1 a2_2 a3_3 a4_4 a5_5 a6_6], [zAr T 0 a1_1 7 f1], [zAr T 0 a2_2 7 f2], [zAr T 0 a3_3 7 f3], [zAr T 0 a4_4 n4 f4], [zAr T 0 a5_5 n4 f5], [zAr T 0 a6_6 n4 f6], z, wg, [zO3 t e0 e1 e2 0 e4 e5 a1_11 a2_12], [zAr T 0 a1_11 (zFl m1 wy) g1_8], [zAr T 0 a2_12 7 r2]] _ _ := G
  refine lv_aload_n hx hb dX3_find_13 rfl (lv_at hl 0 rfl) ?_
  refine lv_iconst (v := 0) hx hb dX3_find_14 (by decide) ?_
  refine z_put C G clX3 9 rfl 4 (by decide) m_fl_RX3_37 rfl rfl rfl (Nat.le_of_ble_eq_true rfl) dX3_find_15 (fun H locs G => ?_)
  have G : zS T A s.heap s [[zO0 h md wy la pc_ a1_1 a2_2 a3_3 a4_4 a5_5 a6_6], [zAr T 0 a1_1 7 f1], [zAr T 0 a2_2 7 f2], [zAr T 0 a3_3 7 f3], [zAr T 0 a4_4 n4 f4], [zAr T 0 a5_5 n4 f5], [zAr T 0 a6_6 n4 f6], z, wg, [zO3 t e0 e1 e2 0 0 e5 a1_11 a2_12], [zAr T 0 a1_11 (zFl m1 wy) g1_8], [zAr T 0 a2_12 7 r2]] _ _ := G
  refine lv_aload_n hx hb dX3_find_18 rfl (lv_at hl 0 rfl) ?_
  refine lv_iconst (v := 0) hx hb dX3_find_19 (by decide) ?_
  refine z_put C G clX3 9 rfl 5 (by decide) m_fl_RX3_40 rfl rfl rfl (Nat.le_of_ble_eq_true rfl) dX3_find_20 (fun H locs G => ?_)
  have G : zS T A s.heap s [[zO0 h md wy la pc_ a1_1 a2_2 a3_3 a4_4 a5_5 a6_6], [zAr T 0 a1_1 7 f1], [zAr T 0 a2_2 7 f2], [zAr T 0 a3_3 7 f3], [zAr T 0 a4_4 n4 f4], [zAr T 0 a5_5 n4 f5], [zAr T 0 a6_6 n4 f6], z, wg, [zO3 t e0 e1 e2 0 0 0 a1_11 a2_12], [zAr T 0 a1_11 (zFl m1 wy) g1_8], [zAr T 0 a2_12 7 r2]] _ _ := G
  refine lv_iconst (v := 0) hx hb dX3_find_23 (by decide) ?_
  refine lv_istore_n (lv' := [(3, .int 0), (0, .ref t), (1, .ref h), (2, .ref lg)]) hx hb dX3_find_24 rfl hl (by decide) rfl (fun ls hl => ?_)
  refine zEx4 hz ?_
  intro a1_13 a2_14 a3_15 a4_16 hbs9
  clear hz
  subst hbs9
  have G : zS T A s.heap s [[zO0 h md wy la pc_ a1_1 a2_2 a3_3 a4_4 a5_5 a6_6], [zAr T 0 a1_1 7 f1], [zAr T 0 a2_2 7 f2], [zAr T 0 a3_3 7 f3], [zAr T 0 a4_4 n4 f4], [zAr T 0 a5_5 n4 f5], [zAr T 0 a6_6 n4 f6], [zO4 la cr inn a1_13 a2_14 a3_15 a4_16], [zAr T 0 a1_13 7 k1], [zAr T 0 a2_14 28 k2], [zAr T 0 a3_15 7 k3], [zAr T 0 a4_16 7 k4], wg, [zO3 t e0 e1 e2 0 0 0 a1_11 a2_12], [zAr T 0 a1_11 (zFl m1 wy) g1_8], [zAr T 0 a2_12 7 r2]] _ _ := G.re rfl
  refine zEx2 hg ?_
  intro a1_17 a2_18 hbs9
  clear hg
  subst hbs9
  have G : zS T A s.heap s [[zO0 h md wy la pc_ a1_1 a2_2 a3_3 a4_4 a5_5 a6_6], [zAr T 0 a1_1 7 f1], [zAr T 0 a2_2 7 f2], [zAr T 0 a3_3 7 f3], [zAr T 0 a4_4 n4 f4], [zAr T 0 a5_5 n4 f5], [zAr T 0 a6_6 n4 f6], [zO4 la cr inn a1_13 a2_14 a3_15 a4_16], [zAr T 0 a1_13 7 k1], [zAr T 0 a2_14 28 k2], [zAr T 0 a3_15 7 k3], [zAr T 0 a4_16 7 k4], [(lg, .inr (5, [.int gg, .ref a1_17, .ref a2_18]))], [zAr T 0 a1_17 8 d1], [zAr T 0 a2_18 8 d2], [zO3 t e0 e1 e2 0 0 0 a1_11 a2_12], [zAr T 0 a1_11 (zFl m1 wy) g1_8], [zAr T 0 a2_12 7 r2]] _ _ := G.re rfl
  have hw_19 : bWays T h la md wy pc_ f1 f2 f3 f4 f5 f6 n4 [zO0 h md wy la pc_ a1_1 a2_2 a3_3 a4_4 a5_5 a6_6, zAr T 0 a1_1 7 f1, zAr T 0 a2_2 7 f2, zAr T 0 a3_3 7 f3, zAr T 0 a4_4 n4 f4, zAr T 0 a5_5 n4 f5, zAr T 0 a6_6 n4 f6] := ⟨a1_1, a2_2, a3_3, a4_4, a5_5, a6_6, rfl⟩
  have G : zS T A s.heap s [[zO0 h md wy la pc_ a1_1 a2_2 a3_3 a4_4 a5_5 a6_6, zAr T 0 a1_1 7 f1, zAr T 0 a2_2 7 f2, zAr T 0 a3_3 7 f3, zAr T 0 a4_4 n4 f4, zAr T 0 a5_5 n4 f5, zAr T 0 a6_6 n4 f6], [zO4 la cr inn a1_13 a2_14 a3_15 a4_16], [zAr T 0 a1_13 7 k1], [zAr T 0 a2_14 28 k2], [zAr T 0 a3_15 7 k3], [zAr T 0 a4_16 7 k4], [(lg, .inr (5, [.int gg, .ref a1_17, .ref a2_18]))], [zAr T 0 a1_17 8 d1], [zAr T 0 a2_18 8 d2], [zO3 t e0 e1 e2 0 0 0 a1_11 a2_12], [zAr T 0 a1_11 (zFl m1 wy) g1_8], [zAr T 0 a2_12 7 r2]] _ _ := G.re rfl
  have hw_20 : bFit T t e0 e1 e2 0 0 0 g1_8 (zFl m1 wy) r2 [zO3 t e0 e1 e2 0 0 0 a1_11 a2_12, zAr T 0 a1_11 (zFl m1 wy) g1_8, zAr T 0 a2_12 7 r2] := ⟨a1_11, a2_12, rfl⟩
  have G : zS T A s.heap s [[zO0 h md wy la pc_ a1_1 a2_2 a3_3 a4_4 a5_5 a6_6, zAr T 0 a1_1 7 f1, zAr T 0 a2_2 7 f2, zAr T 0 a3_3 7 f3, zAr T 0 a4_4 n4 f4, zAr T 0 a5_5 n4 f5, zAr T 0 a6_6 n4 f6], [zO4 la cr inn a1_13 a2_14 a3_15 a4_16], [zAr T 0 a1_13 7 k1], [zAr T 0 a2_14 28 k2], [zAr T 0 a3_15 7 k3], [zAr T 0 a4_16 7 k4], [(lg, .inr (5, [.int gg, .ref a1_17, .ref a2_18]))], [zAr T 0 a1_17 8 d1], [zAr T 0 a2_18 8 d2], [zO3 t e0 e1 e2 0 0 0 a1_11 a2_12, zAr T 0 a1_11 (zFl m1 wy) g1_8, zAr T 0 a2_12 7 r2]] _ _ := G.re rfl
  have hw_21 : bLand T la cr inn k1 k2 k3 k4 [zO4 la cr inn a1_13 a2_14 a3_15 a4_16, zAr T 0 a1_13 7 k1, zAr T 0 a2_14 28 k2, zAr T 0 a3_15 7 k3, zAr T 0 a4_16 7 k4] := ⟨a1_13, a2_14, a3_15, a4_16, rfl⟩
  have G : zS T A s.heap s [[zO0 h md wy la pc_ a1_1 a2_2 a3_3 a4_4 a5_5 a6_6, zAr T 0 a1_1 7 f1, zAr T 0 a2_2 7 f2, zAr T 0 a3_3 7 f3, zAr T 0 a4_4 n4 f4, zAr T 0 a5_5 n4 f5, zAr T 0 a6_6 n4 f6], [zO4 la cr inn a1_13 a2_14 a3_15 a4_16, zAr T 0 a1_13 7 k1, zAr T 0 a2_14 28 k2, zAr T 0 a3_15 7 k3, zAr T 0 a4_16 7 k4], [(lg, .inr (5, [.int gg, .ref a1_17, .ref a2_18]))], [zAr T 0 a1_17 8 d1], [zAr T 0 a2_18 8 d2], [zO3 t e0 e1 e2 0 0 0 a1_11 a2_12, zAr T 0 a1_11 (zFl m1 wy) g1_8, zAr T 0 a2_12 7 r2]] _ _ := G.re rfl
  have hw_22 : bLog T lg gg d1 d2 [(lg, .inr (5, [.int gg, .ref a1_17, .ref a2_18])), zAr T 0 a1_17 8 d1, zAr T 0 a2_18 8 d2] := ⟨a1_17, a2_18, rfl⟩
  have G : zS T A s.heap s [[zO0 h md wy la pc_ a1_1 a2_2 a3_3 a4_4 a5_5 a6_6, zAr T 0 a1_1 7 f1, zAr T 0 a2_2 7 f2, zAr T 0 a3_3 7 f3, zAr T 0 a4_4 n4 f4, zAr T 0 a5_5 n4 f5, zAr T 0 a6_6 n4 f6], [zO4 la cr inn a1_13 a2_14 a3_15 a4_16, zAr T 0 a1_13 7 k1, zAr T 0 a2_14 28 k2, zAr T 0 a3_15 7 k3, zAr T 0 a4_16 7 k4], [(lg, .inr (5, [.int gg, .ref a1_17, .ref a2_18])), zAr T 0 a1_17 8 d1, zAr T 0 a2_18 8 d2], [zO3 t e0 e1 e2 0 0 0 a1_11 a2_12, zAr T 0 a1_11 (zFl m1 wy) g1_8, zAr T 0 a2_12 7 r2]] _ _ := G.re rfl
  refine z_lp6 (T := T) 25 (fun (i : Nat) (wt : va_W) (y3 : Int32) (y4 : Int32) (y5 : Int32) (x1 : Nat → Int32) => [[zO0 h md wy la pc_ a1_1 a2_2 a3_3 a4_4 a5_5 a6_6, zAr T 0 a1_1 7 f1, zAr T 0 a2_2 7 f2, zAr T 0 a3_3 7 f3, zAr T 0 a4_4 n4 f4, zAr T 0 a5_5 n4 f5, zAr T 0 a6_6 n4 f6], [zO4 la cr inn a1_13 a2_14 a3_15 a4_16, zAr T 0 a1_13 7 k1, zAr T 0 a2_14 28 k2, zAr T 0 a3_15 7 k3, zAr T 0 a4_16 7 k4], [(lg, .inr (5, [.int gg, .ref a1_17, .ref a2_18])), zAr T 0 a1_17 8 d1, zAr T 0 a2_18 8 d2], wt]) (fun (i : Nat) (wt : va_W) (y3 : Int32) (y4 : Int32) (y5 : Int32) (x1 : Nat → Int32) => [(3, .int (nI i)), (0, .ref t), (1, .ref h), (2, .ref lg)]) (fun (i : Nat) (wt : va_W) (y3 : Int32) (y4 : Int32) (y5 : Int32) (x1 : Nat → Int32) => bFit T t e0 e1 e2 y3 y4 y5 x1 (zFl m1 wy) r2 wt ∧ i ≤ 16384 ∧ 0 ≤ y3.toInt) (fun (i : Nat) (wt : va_W) (y3 : Int32) (y4 : Int32) (y5 : Int32) (x1 : Nat → Int32) => 16384 - i) ?_ 0 ([zO3 t e0 e1 e2 0 0 0 a1_11 a2_12, zAr T 0 a1_11 (zFl m1 wy) g1_8, zAr T 0 a2_12 7 r2]) 0 0 0 g1_8 (show bFit T t e0 e1 e2 0 0 0 g1_8 (zFl m1 wy) r2 ([zO3 t e0 e1 e2 0 0 0 a1_11 a2_12, zAr T 0 a1_11 (zFl m1 wy) g1_8, zAr T 0 a2_12 7 r2]) ∧ 0 ≤ 16384 ∧ 0 ≤ (0 : Int32).toInt from ⟨hw_20, by omega, by decide⟩) G (lv_sub hl [0, 1, 2, 3] rfl)
  intro i wt y3 y4 y5 x1 hI9 ih_25 H locs ls G hl
  replace hI9 : bFit T t e0 e1 e2 y3 y4 y5 x1 (zFl m1 wy) r2 wt ∧ i ≤ 16384 ∧ 0 ≤ y3.toInt := hI9
  refine zAn3 hI9 ?_
  intro hwt hi h3
  clear hI9
  replace G : zS T A s.heap s [[zO0 h md wy la pc_ a1_1 a2_2 a3_3 a4_4 a5_5 a6_6, zAr T 0 a1_1 7 f1, zAr T 0 a2_2 7 f2, zAr T 0 a3_3 7 f3, zAr T 0 a4_4 n4 f4, zAr T 0 a5_5 n4 f5, zAr T 0 a6_6 n4 f6], [zO4 la cr inn a1_13 a2_14 a3_15 a4_16, zAr T 0 a1_13 7 k1, zAr T 0 a2_14 28 k2, zAr T 0 a3_15 7 k3, zAr T 0 a4_16 7 k4], [(lg, .inr (5, [.int gg, .ref a1_17, .ref a2_18])), zAr T 0 a1_17 8 d1, zAr T 0 a2_18 8 d2], wt] _ _ := G
  replace hl : lv_has ls 4 [(3, .int (nI i)), (0, .ref t), (1, .ref h), (2, .ref lg)] := hl
  refine lv_iload_n hx hb dX3_find_25 rfl (lv_at hl 0 rfl) ?_
  refine lv_aload_n hx hb dX3_find_26 rfl (lv_at hl 2 rfl) ?_
  have G : zS T A s.heap s [[zO0 h md wy la pc_ a1_1 a2_2 a3_3 a4_4 a5_5 a6_6], [zAr T 0 a1_1 7 f1], [zAr T 0 a2_2 7 f2], [zAr T 0 a3_3 7 f3], [zAr T 0 a4_4 n4 f4], [zAr T 0 a5_5 n4 f5], [zAr T 0 a6_6 n4 f6], [zO4 la cr inn a1_13 a2_14 a3_15 a4_16, zAr T 0 a1_13 7 k1, zAr T 0 a2_14 28 k2, zAr T 0 a3_15 7 k3, zAr T 0 a4_16 7 k4], [(lg, .inr (5, [.int gg, .ref a1_17, .ref a2_18])), zAr T 0 a1_17 8 d1, zAr T 0 a2_18 8 d2], wt] _ _ := G.re rfl
  refine z_get C G clX0 0 rfl 1 (by decide) m_fl_RX3_25 rfl dX3_find_27 ?_
  refine lv_icmp_ge (tgt := 53) hx hb dX3_find_30 (by decide) (fun c_23 => ?_) (fun c_23 => ?_)
  · have c_23n : wy.toInt ≤ (i : Int) := by have q := (fa_le _ _).mp c_23; rw [nI_toInt (n := i) (by omega)] at q; exact q
    have hw_24 : bWays T h la md wy pc_ f1 f2 f3 f4 f5 f6 n4 [zO0 h md wy la pc_ a1_1 a2_2 a3_3 a4_4 a5_5 a6_6, zAr T 0 a1_1 7 f1, zAr T 0 a2_2 7 f2, zAr T 0 a3_3 7 f3, zAr T 0 a4_4 n4 f4, zAr T 0 a5_5 n4 f5, zAr T 0 a6_6 n4 f6] := ⟨a1_1, a2_2, a3_3, a4_4, a5_5, a6_6, rfl⟩
    have G : zS T A s.heap s [[zO0 h md wy la pc_ a1_1 a2_2 a3_3 a4_4 a5_5 a6_6, zAr T 0 a1_1 7 f1, zAr T 0 a2_2 7 f2, zAr T 0 a3_3 7 f3, zAr T 0 a4_4 n4 f4, zAr T 0 a5_5 n4 f5, zAr T 0 a6_6 n4 f6], [zO4 la cr inn a1_13 a2_14 a3_15 a4_16, zAr T 0 a1_13 7 k1, zAr T 0 a2_14 28 k2, zAr T 0 a3_15 7 k3, zAr T 0 a4_16 7 k4], [(lg, .inr (5, [.int gg, .ref a1_17, .ref a2_18])), zAr T 0 a1_17 8 d1, zAr T 0 a2_18 8 d2], wt] _ _ := G.re rfl
    have G := G.sub (bs' := [wt, [zO0 h md wy la pc_ a1_1 a2_2 a3_3 a4_4 a5_5 a6_6, zAr T 0 a1_1 7 f1, zAr T 0 a2_2 7 f2, zAr T 0 a3_3 7 f3, zAr T 0 a4_4 n4 f4, zAr T 0 a5_5 n4 f5, zAr T 0 a6_6 n4 f6], [zO4 la cr inn a1_13 a2_14 a3_15 a4_16, zAr T 0 a1_13 7 k1, zAr T 0 a2_14 28 k2, zAr T 0 a3_15 7 k3, zAr T 0 a4_16 7 k4], [(lg, .inr (5, [.int gg, .ref a1_17, .ref a2_18])), zAr T 0 a1_17 8 d1, zAr T 0 a2_18 8 d2]]) [3, 0, 1, 2] rfl
    exact z_back hQ9 (z_vret C hr hlocks G (by omega) (by omega) dX3_find_53 ⟨wt, y3, y4, y5, x1, rfl, hwt, (by first | with_reducible assumption | omega | trivial | assumption)⟩)
  · have c_23n : ¬ wy.toInt ≤ (i : Int) := fun q => c_23 ((fa_le _ _).mpr (by rw [nI_toInt (n := i) (by omega)]; exact q))
    refine lv_iload_n hx hb dX3_find_33 rfl (lv_at hl 0 rfl) ?_
    refine lv_sipush (v := 16383) hx hb dX3_find_34 (by decide) ?_
    refine lv_icmp_gt (tgt := 53) hx hb dX3_find_37 (by decide) (fun c_25 => ?_) (fun c_25 => ?_)
    · have c_25n : 16383 < i := (nI_ltI (a := 16383) (b := i) (by omega) (by omega)).mp c_25
      have hw_26 : bWays T h la md wy pc_ f1 f2 f3 f4 f5 f6 n4 [zO0 h md wy la pc_ a1_1 a2_2 a3_3 a4_4 a5_5 a6_6, zAr T 0 a1_1 7 f1, zAr T 0 a2_2 7 f2, zAr T 0 a3_3 7 f3, zAr T 0 a4_4 n4 f4, zAr T 0 a5_5 n4 f5, zAr T 0 a6_6 n4 f6] := ⟨a1_1, a2_2, a3_3, a4_4, a5_5, a6_6, rfl⟩
      have G : zS T A s.heap s [[zO0 h md wy la pc_ a1_1 a2_2 a3_3 a4_4 a5_5 a6_6, zAr T 0 a1_1 7 f1, zAr T 0 a2_2 7 f2, zAr T 0 a3_3 7 f3, zAr T 0 a4_4 n4 f4, zAr T 0 a5_5 n4 f5, zAr T 0 a6_6 n4 f6], [zO4 la cr inn a1_13 a2_14 a3_15 a4_16, zAr T 0 a1_13 7 k1, zAr T 0 a2_14 28 k2, zAr T 0 a3_15 7 k3, zAr T 0 a4_16 7 k4], [(lg, .inr (5, [.int gg, .ref a1_17, .ref a2_18])), zAr T 0 a1_17 8 d1, zAr T 0 a2_18 8 d2], wt] _ _ := G.re rfl
      have G := G.sub (bs' := [wt, [zO0 h md wy la pc_ a1_1 a2_2 a3_3 a4_4 a5_5 a6_6, zAr T 0 a1_1 7 f1, zAr T 0 a2_2 7 f2, zAr T 0 a3_3 7 f3, zAr T 0 a4_4 n4 f4, zAr T 0 a5_5 n4 f5, zAr T 0 a6_6 n4 f6], [zO4 la cr inn a1_13 a2_14 a3_15 a4_16, zAr T 0 a1_13 7 k1, zAr T 0 a2_14 28 k2, zAr T 0 a3_15 7 k3, zAr T 0 a4_16 7 k4], [(lg, .inr (5, [.int gg, .ref a1_17, .ref a2_18])), zAr T 0 a1_17 8 d1, zAr T 0 a2_18 8 d2]]) [3, 0, 1, 2] rfl
      exact z_back hQ9 (z_vret C hr hlocks G (by omega) (by omega) dX3_find_53 ⟨wt, y3, y4, y5, x1, rfl, hwt, (by first | with_reducible assumption | omega | trivial | assumption)⟩)
    · have c_25n : ¬ 16383 < i := fun q => c_25 ((nI_ltI (a := 16383) (b := i) (by omega) (by omega)).mpr q)
      refine lv_aload_n hx hb dX3_find_40 rfl (lv_at hl 1 rfl) ?_
      refine lv_aload_n hx hb dX3_find_41 rfl (lv_at hl 2 rfl) ?_
      refine lv_aload_n hx hb dX3_find_42 rfl (lv_at hl 3 rfl) ?_
      refine lv_iload_n hx hb dX3_find_43 rfl (lv_at hl 0 rfl) ?_
      have hw_27 : bWays T h la md wy pc_ f1 f2 f3 f4 f5 f6 n4 [zO0 h md wy la pc_ a1_1 a2_2 a3_3 a4_4 a5_5 a6_6, zAr T 0 a1_1 7 f1, zAr T 0 a2_2 7 f2, zAr T 0 a3_3 7 f3, zAr T 0 a4_4 n4 f4, zAr T 0 a5_5 n4 f5, zAr T 0 a6_6 n4 f6] := ⟨a1_1, a2_2, a3_3, a4_4, a5_5, a6_6, rfl⟩
      have G : zS T A s.heap s [[zO0 h md wy la pc_ a1_1 a2_2 a3_3 a4_4 a5_5 a6_6, zAr T 0 a1_1 7 f1, zAr T 0 a2_2 7 f2, zAr T 0 a3_3 7 f3, zAr T 0 a4_4 n4 f4, zAr T 0 a5_5 n4 f5, zAr T 0 a6_6 n4 f6], [zO4 la cr inn a1_13 a2_14 a3_15 a4_16, zAr T 0 a1_13 7 k1, zAr T 0 a2_14 28 k2, zAr T 0 a3_15 7 k3, zAr T 0 a4_16 7 k4], [(lg, .inr (5, [.int gg, .ref a1_17, .ref a2_18])), zAr T 0 a1_17 8 d1, zAr T 0 a2_18 8 d2], wt] _ _ := G.re rfl
      refine z_Vv (bc := [wt, [zO0 h md wy la pc_ a1_1 a2_2 a3_3 a4_4 a5_5 a6_6, zAr T 0 a1_1 7 f1, zAr T 0 a2_2 7 f2, zAr T 0 a3_3 7 f3, zAr T 0 a4_4 n4 f4, zAr T 0 a5_5 n4 f5, zAr T 0 a6_6 n4 f6], [zO4 la cr inn a1_13 a2_14 a3_15 a4_16, zAr T 0 a1_13 7 k1, zAr T 0 a2_14 28 k2, zAr T 0 a3_15 7 k3, zAr T 0 a4_16 7 k4], [(lg, .inr (5, [.int gg, .ref a1_17, .ref a2_18])), zAr T 0 a1_17 8 d1, zAr T 0 a2_18 8 d2]]) (br := []) (As := [.ref h, .ref lg, .int (nI i)]) (rest := []) C G (c_tryWay l T t e0 e1 e2 y3 y4 y5 x1 (zFl m1 wy) r2 wt h la md wy pc_ f1 f2 f3 f4 f5 f6 n4 ([zO0 h md wy la pc_ a1_1 a2_2 a3_3 a4_4 a5_5 a6_6, zAr T 0 a1_1 7 f1, zAr T 0 a2_2 7 f2, zAr T 0 a3_3 7 f3, zAr T 0 a4_4 n4 f4, zAr T 0 a5_5 n4 f5, zAr T 0 a6_6 n4 f6]) cr inn k1 k2 k3 k4 ([zO4 la cr inn a1_13 a2_14 a3_15 a4_16, zAr T 0 a1_13 7 k1, zAr T 0 a2_14 28 k2, zAr T 0 a3_15 7 k3, zAr T 0 a4_16 7 k4]) lg gg d1 d2 ([(lg, .inr (5, [.int gg, .ref a1_17, .ref a2_18])), zAr T 0 a1_17 8 d1, zAr T 0 a2_18 8 d2]) (nI i) hwt hw_27 hw_21 hw_22 (by first | with_reducible assumption | with_reducible rfl | omega | assumption | rfl) (by first | with_reducible assumption | with_reducible rfl | omega | assumption | rfl) h3) (kV_RX3_43 C.2.2.2.2 (Nat.le_of_ble_eq_true rfl) (Nat.le_of_ble_eq_true rfl)) [3, 0, 1, 2] [0, 0, 0, 0] rfl rfl (ci := 3) (qc := (RX3, TX3, 8)) rfl rfl (List.mem_flatten.mpr ⟨_, List.mem_of_getElem? (i := 0) rfl, (bFit_mem hwt).choose_spec⟩) rfl rfl hl.1 dX3_find_44 (by show _ + 0 ≤ 1; omega) (by show _ + 0 ≤ 2 * (zFl m1 wy - m1); omega) (fun b1 H locs hw G => ?_)
      refine zEx5 hw ?_
      intro w2_28 s3_29 s4_30 s5_31 g1_32
      refine zCu3 ?_
      intro hbs9 h_33 h_34
      clear hw
      subst hbs9
      have G : zS T A s.heap s [w2_28, [zO0 h md wy la pc_ a1_1 a2_2 a3_3 a4_4 a5_5 a6_6, zAr T 0 a1_1 7 f1, zAr T 0 a2_2 7 f2, zAr T 0 a3_3 7 f3, zAr T 0 a4_4 n4 f4, zAr T 0 a5_5 n4 f5, zAr T 0 a6_6 n4 f6], [zO4 la cr inn a1_13 a2_14 a3_15 a4_16, zAr T 0 a1_13 7 k1, zAr T 0 a2_14 28 k2, zAr T 0 a3_15 7 k3, zAr T 0 a4_16 7 k4], [(lg, .inr (5, [.int gg, .ref a1_17, .ref a2_18])), zAr T 0 a1_17 8 d1, zAr T 0 a2_18 8 d2]] _ _ := G
      refine lv_iinc (v := nI (i + 1)) (lv' := [(3, .int (nI (i + 1))), (0, .ref t), (1, .ref h), (2, .ref lg)]) hx hb dX3_find_47 hl (k := 0) rfl (z_inc i 1) (by decide) rfl (fun ls hl => ?_)
      refine lv_goto (tgt := 25) hx hb dX3_find_50 (by decide) ?_
      have G := G.sub (bs' := [[zO0 h md wy la pc_ a1_1 a2_2 a3_3 a4_4 a5_5 a6_6, zAr T 0 a1_1 7 f1, zAr T 0 a2_2 7 f2, zAr T 0 a3_3 7 f3, zAr T 0 a4_4 n4 f4, zAr T 0 a5_5 n4 f5, zAr T 0 a6_6 n4 f6], [zO4 la cr inn a1_13 a2_14 a3_15 a4_16, zAr T 0 a1_13 7 k1, zAr T 0 a2_14 28 k2, zAr T 0 a3_15 7 k3, zAr T 0 a4_16 7 k4], [(lg, .inr (5, [.int gg, .ref a1_17, .ref a2_18])), zAr T 0 a1_17 8 d1, zAr T 0 a2_18 8 d2], w2_28]) [1, 2, 3, 0] rfl
      exact ih_25 (i + 1) w2_28 s3_29 s4_30 s5_31 g1_32 (show bFit T t e0 e1 e2 s3_29 s4_30 s5_31 g1_32 (zFl m1 wy) r2 w2_28 ∧ (i + 1) ≤ 16384 ∧ 0 ≤ s3_29.toInt from ⟨h_33, by omega, h_34⟩) (show 16384 - (i + 1) < 16384 - i from by omega) _ _ ls G (lv_sub hl [0, 1, 2, 3] rfl)


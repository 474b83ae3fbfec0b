def zCh (cr inn : Int32) (k1 : Nat → Int32) (x : Int32) : Int32 := if zWays cr inn k1 x < 1 then 1 else zWays cr inn k1 x
def zWyN (cr inn : Int32) (k1 : Nat → Int32) : Nat → Int32
  | 0 => 1
  | 1 => 1 * zCh cr inn k1 6
  | 2 => 1 * zCh cr inn k1 6 * zCh cr inn k1 5
  | 3 => 1 * zCh cr inn k1 6 * zCh cr inn k1 5 * zCh cr inn k1 4
  | 4 => 1 * zCh cr inn k1 6 * zCh cr inn k1 5 * zCh cr inn k1 4 * zCh cr inn k1 3
  | 5 => 1 * zCh cr inn k1 6 * zCh cr inn k1 5 * zCh cr inn k1 4 * zCh cr inn k1 3 * zCh cr inn k1 2
  | 6 => 1 * zCh cr inn k1 6 * zCh cr inn k1 5 * zCh cr inn k1 4 * zCh cr inn k1 3 * zCh cr inn k1 2 * zCh cr inn k1 1
  | _ => 1 * zCh cr inn k1 6 * zCh cr inn k1 5 * zCh cr inn k1 4 * zCh cr inn k1 3 * zCh cr inn k1 2 * zCh cr inn k1 1 * zCh cr inn k1 0
def zWy (cr inn : Int32) (k1 : Nat → Int32) : Int32 := zWyN cr inn k1 7
def zPl (cr inn : Int32) (k1 : Nat → Int32) : Int32 := if (131072 : Int32) < zWy cr inn k1 <<< (3 &&& 31) then 131072 else zWy cr inn k1 <<< (3 &&& 31)
theorem zPl_le (cr inn : Int32) (k1 : Nat → Int32) : (zPl cr inn k1).toInt ≤ 131072 := by
  unfold zPl
  split
  · decide
  · rename_i q
    exact Int.not_lt.mp (fun z => q ((fa_lt _ _).mpr z))
/-- how long the rows are made -/
def zLenN (pl : Int32) : Nat → Nat → Nat
  | 0, L => L
  | k + 1, L => if (L : Int) < pl.toInt ∧ L < 131072 then zLenN pl k (2 * L) else L
def zNl (n : Nat) (pl : Int32) : Nat := if pl.toInt ≤ n then n else zLenN pl 12 64
def zPw (n : Nat) : Prop := n = 0 ∨ ∃ k, k ≤ 11 ∧ n = 64 * 2 ^ k
theorem zLenN_pw {pl : Int32} : ∀ (f k : Nat), k ≤ 11 → 11 ≤ f + k → ∃ j, k ≤ j ∧ j ≤ 11 ∧ zLenN pl f (64 * 2 ^ k) = 64 * 2 ^ j
  | 0, k, h, h2 => ⟨k, Nat.le_refl _, h, rfl⟩
  | f + 1, k, h, h2 => by
    rw [zLenN]
    split
    · rename_i q
      have hk : k < 11 := by
        rcases Nat.lt_or_ge k 11 with z | z
        · exact z
        · have e : k = 11 := by omega
          subst e
          exact absurd q.2 (by decide)
      rw [show 2 * (64 * 2 ^ k) = 64 * 2 ^ (k + 1) by rw [Nat.pow_succ]; omega]
      obtain ⟨j, h3, h4, h5⟩ := zLenN_pw f (k + 1) (by omega) (by omega)
      exact ⟨j, by omega, h4, h5⟩
    · exact ⟨k, Nat.le_refl _, h, rfl⟩
theorem zLenN_ge {pl : Int32} (hp : pl.toInt ≤ 131072) : ∀ (f k : Nat), k ≤ 11 → 12 ≤ f + k → pl.toInt ≤ (zLenN pl f (64 * 2 ^ k) : Nat)
  | 0, k, h, h2 => by omega
  | f + 1, k, h, h2 => by
    rw [zLenN]
    split
    · rename_i q
      have hk : k < 11 := by
        rcases Nat.lt_or_ge k 11 with z | z
        · exact z
        · have e : k = 11 := by omega
          subst e
          exact absurd q.2 (by decide)
      rw [show 2 * (64 * 2 ^ k) = 64 * 2 ^ (k + 1) by rw [Nat.pow_succ]; omega]
      exact zLenN_ge hp f (k + 1) (by omega) (by omega)
    · rename_i q
      by_cases z : (64 * 2 ^ k : Nat) < 131072
      · by_cases y : ((64 * 2 ^ k : Nat) : Int) < pl.toInt
        · exact absurd ⟨y, z⟩ q
        · omega
      · omega
theorem zPw_le {n : Nat} (h : zPw n) : n ≤ 131072 := by
  rcases h with h | ⟨k, h1, h2⟩
  · omega
  · have h3 : 2 ^ k ≤ 2 ^ 11 := Nat.pow_le_pow_right (by decide) h1
    rw [h2]
    omega
theorem zNl_pw {n : Nat} {pl : Int32} (h : zPw n) : zPw (zNl n pl) := by
  unfold zNl
  split
  · exact h
  · obtain ⟨j, h1, h2, h3⟩ := zLenN_pw (pl := pl) 12 0 (by decide) (by decide)
    exact Or.inr ⟨j, h2, h3⟩
theorem zNl_room {n : Nat} {pl : Int32} (h : zPw n) (hp : pl.toInt ≤ 131072) (hg : ¬ pl.toInt ≤ n) : 2 * n ≤ zLenN pl 12 64 := by
  have h0 := zLenN_ge hp 12 0 (by decide) (by decide)
  obtain ⟨j, h1, h2, h3⟩ := zLenN_pw (pl := pl) 12 0 (by decide) (by decide)
  have e : (64 * 2 ^ 0 : Nat) = 64 := by decide
  rw [e] at h0 h3
  rcases h with h | ⟨k, k1, k2⟩
  · omega
  · rw [h3] at h0 ⊢
    rw [k2] at hg ⊢
    have hlt : 64 * 2 ^ k < 64 * 2 ^ j := by omega
    have hkj : k < j := by
      rcases Nat.lt_or_ge k j with z | z
      · exact z
      · have := Nat.pow_le_pow_right (n := 2) (by decide) z
        omega
    have h5 : 2 ^ (k + 1) ≤ 2 ^ j := Nat.pow_le_pow_right (by decide) hkj
    rw [Nat.pow_succ] at h5
    omega
theorem z_k11 {k L : Nat} (hk : k ≤ 11) (hL : L = 64 * 2 ^ k) (h : L < 131072) : k + 1 ≤ 11 := by
  rcases Nat.lt_or_ge k 11 with z | z
  · omega
  · have e : k = 11 := by omega
    subst e
    omega
theorem z_k11b {k L : Nat} (hk : k ≤ 11) (hL : L = 64 * 2 ^ k) (h : L < 131072) : L * 2 ≤ 131072 := by
  have h1 := z_k11 hk hL h
  have h2 : 2 ^ (k + 1) ≤ 2 ^ 11 := Nat.pow_le_pow_right (by decide) h1
  rw [Nat.pow_succ] at h2
  omega
set_option maxHeartbeats 4000000 in
set_option maxRecDepth 100000 in
/-- countWays -/
theorem c_countWays (l : Launch) (T : zTy) (h : Nat) (la : Nat) (md : Int32) (wy : Int32) (pc_ : Int32) (f1 : Nat → Int32) (f2 : Nat → Int32) (f3 : Nat → Int32) (f4 : Nat → Int32) (f5 : Nat → Int32) (f6 : Nat → Int32) (n4 : Nat) (ww : va_W) (o : Nat) (cr : Int32) (inn : Int32) (k1 : Nat → Int32) (k2 : Nat → Int32) (k3 : Nat → Int32) (k4 : Nat → Int32) (z : va_W) (hww : bWays T h la md wy pc_ f1 f2 f3 f4 f5 f6 n4 ww) (hz : bLand T o cr inn k1 k2 k3 k4 z) : zMv l T yX0_countWays cX0_countWays 3 2 0 0 [.ref h, .ref o] [ww, z] (fun bs => ∃ (w2 : va_W) (g1 : Nat → Int32) (g2 : Nat → Int32), bs = [w2, z] ∧ bWays T h o md (zWy cr inn k1) (zPl cr inn k1) g1 g2 f3 f4 f5 f6 n4 w2) := by
  refine zMv_of (own := RX0) (by decide) rfl (Nat.le_of_ble_eq_true rfl) ?_
  intro p e s m args below meth c A ls C hr hlocks hnm hAe G hl
  refine zHide (fun Q9 hQ9 => ?_)
  have hx := C.1
  have hb := C.2.1
  have hl : lv_has ls 3 [(0, .ref h), (1, .ref o)] := hl
  have hz0 : (1 : Int32) = zWyN cr inn k1 0 := rfl
  refine lv_aload_n hx hb dX0_countWays_0 rfl (lv_at hl 0 rfl) ?_
  refine lv_aload_n hx hb dX0_countWays_1 rfl (lv_at hl 1 rfl) ?_
  refine zEx6 hww ?_
  intro a1_1 a2_2 a3_3 a4_4 a5_5 a6_6 hbs9
  clear hww
  subst hbs9
  have G : zS T A s.heap s [[zO0 h md wy la pc_ a1_1 a2_2 a3_3 a4_4 a5_5 a6_6], [zAr T 0 a1_1 7 f1], [zAr T 0 a2_2 7 f2], [zAr T 0 a3_3 7 f3], [zAr T 0 a4_4 n4 f4], [zAr T 0 a5_5 n4 f5], [zAr T 0 a6_6 n4 f6], z] _ _ := G.re rfl
  refine z_put C G clX0 0 rfl 2 (by decide) m_fl_RX0_14 rfl rfl rfl (Nat.le_of_ble_eq_true rfl) dX0_countWays_2 (fun H locs G => ?_)
  have G : zS T A s.heap s [[zO0 h md wy o pc_ a1_1 a2_2 a3_3 a4_4 a5_5 a6_6], [zAr T 0 a1_1 7 f1], [zAr T 0 a2_2 7 f2], [zAr T 0 a3_3 7 f3], [zAr T 0 a4_4 n4 f4], [zAr T 0 a5_5 n4 f5], [zAr T 0 a6_6 n4 f6], z] _ _ := G
  refine lv_aload_n hx hb dX0_countWays_5 rfl (lv_at hl 0 rfl) ?_
  refine lv_iconst (v := 1) hx hb dX0_countWays_6 (by decide) ?_
  refine z_put C G clX0 0 rfl 1 (by decide) m_fl_RX0_57 rfl rfl rfl (Nat.le_of_ble_eq_true rfl) dX0_countWays_7 (fun H locs G => ?_)
  have G : zS T A s.heap s [[zO0 h md 1 o pc_ a1_1 a2_2 a3_3 a4_4 a5_5 a6_6], [zAr T 0 a1_1 7 f1], [zAr T 0 a2_2 7 f2], [zAr T 0 a3_3 7 f3], [zAr T 0 a4_4 n4 f4], [zAr T 0 a5_5 n4 f5], [zAr T 0 a6_6 n4 f6], z] _ _ := G
  refine lv_bipush (v := 6) hx hb dX0_countWays_10 (by decide) ?_
  refine lv_istore_n (lv' := [(2, .int 6), (0, .ref h), (1, .ref o)]) hx hb dX0_countWays_12 rfl hl (by decide) rfl (fun ls hl => ?_)
  refine lv_iload_n hx hb dX0_countWays_13 rfl (lv_at hl 0 rfl) ?_
  refine lv_if_lt (tgt := 63) hx hb dX0_countWays_14 (by decide) (fun q => absurd q (by decide)) (fun _ => ?_)
  refine lv_aload_n hx hb dX0_countWays_17 rfl (lv_at hl 1 rfl) ?_
  refine z_get C G clX0 0 rfl 4 (by decide) m_fl_RX0_18 rfl dX0_countWays_18 ?_
  refine lv_iload_n hx hb dX0_countWays_21 rfl (lv_at hl 0 rfl) ?_
  refine lv_aload_n hx hb dX0_countWays_22 rfl (lv_at hl 2 rfl) ?_
  refine lv_iload_n hx hb dX0_countWays_23 rfl (lv_at hl 0 rfl) ?_
  refine z_Vi (bc := [z]) (br := [[zO0 h md 1 o pc_ a1_1 a2_2 a3_3 a4_4 a5_5 a6_6], [zAr T 0 a1_1 7 f1], [zAr T 0 a2_2 7 f2], [zAr T 0 a3_3 7 f3], [zAr T 0 a4_4 n4 f4], [zAr T 0 a5_5 n4 f5], [zAr T 0 a6_6 n4 f6]]) (As := [.int 6]) (rest := [.int 6, .ref a1_1]) C G (c_waysOut l T o cr inn k1 k2 k3 k4 z 6 hz) (kV_RX0_61 C.2.2.2.2 (Nat.le_of_ble_eq_true rfl) (Nat.le_of_ble_eq_true rfl)) [7] [7] rfl rfl (ci := 4) (qc := (RX4, TX4, 6)) rfl rfl (List.mem_flatten.mpr ⟨_, List.mem_of_getElem? (i := 0) rfl, (bLand_mem hz).choose_spec⟩) rfl rfl hl.1 dX0_countWays_24 (Nat.le_of_ble_eq_true rfl) (Nat.le_of_ble_eq_true rfl) (fun r_8 b1 H locs hw G => ?_)
  refine zAn2 hw ?_
  intro hbs9 h_7
  clear hw
  subst hbs9
  have G : zS T A s.heap s [[zO0 h md 1 o pc_ a1_1 a2_2 a3_3 a4_4 a5_5 a6_6], [zAr T 0 a1_1 7 f1], [zAr T 0 a2_2 7 f2], [zAr T 0 a3_3 7 f3], [zAr T 0 a4_4 n4 f4], [zAr T 0 a5_5 n4 f5], [zAr T 0 a6_6 n4 f6], z] _ _ := G
  subst h_7
  refine lv_iconst (v := 1) hx hb dX0_countWays_27 (by decide) ?_
  refine va_mmax hx hb (C.2.2.1.trans hl.1.symm) C.2.2.2.1 (C.2.2.2.2 _ m_ml_RX0_65) (C.2.2.2.2 _ m_st_math_max) (C.2.2.2.2 _ m_ii_math) (C.2.2.2.2 _ m_co_math_max) (Nat.le_of_ble_eq_true rfl) (Nat.le_of_ble_eq_true rfl) (Nat.le_of_ble_eq_true rfl) (Nat.le_of_ble_eq_true rfl) dX0_countWays_28 ?_
  refine lv_topi (fun v_9 ev_9 => ?_)
  subst ev_9
  refine lv_topi (fun y_10 ey_10 => ?_)
  obtain rfl : y_10 = zCh cr inn k1 6 := ey_10
  refine z_ist C G 1 rfl (vp_in_nI (n := 6) (by decide) (by decide)) dX0_countWays_31 (fun H locs G => ?_)
  have G : zS T A s.heap s [[zO0 h md 1 o pc_ a1_1 a2_2 a3_3 a4_4 a5_5 a6_6], [zAr T 0 a1_1 7 (upd f1 6 (zCh cr inn k1 6))], [zAr T 0 a2_2 7 f2], [zAr T 0 a3_3 7 f3], [zAr T 0 a4_4 n4 f4], [zAr T 0 a5_5 n4 f5], [zAr T 0 a6_6 n4 f6], z] _ _ := G
  refine lv_aload_n hx hb dX0_countWays_32 rfl (lv_at hl 1 rfl) ?_
  refine z_get C G clX0 0 rfl 5 (by decide) m_fl_RX0_22 rfl dX0_countWays_33 ?_
  refine lv_iload_n hx hb dX0_countWays_36 rfl (lv_at hl 0 rfl) ?_
  refine lv_aload_n hx hb dX0_countWays_37 rfl (lv_at hl 1 rfl) ?_
  refine z_get C G clX0 0 rfl 1 (by decide) m_fl_RX0_57 rfl dX0_countWays_38 ?_
  refine z_ist C G 2 rfl (vp_in_nI (n := 6) (by decide) (by decide)) dX0_countWays_41 (fun H locs G => ?_)
  have G : zS T A s.heap s [[zO0 h md 1 o pc_ a1_1 a2_2 a3_3 a4_4 a5_5 a6_6], [zAr T 0 a1_1 7 (upd f1 6 (zCh cr inn k1 6))], [zAr T 0 a2_2 7 (upd f2 6 1)], [zAr T 0 a3_3 7 f3], [zAr T 0 a4_4 n4 f4], [zAr T 0 a5_5 n4 f5], [zAr T 0 a6_6 n4 f6], z] _ _ := G
  refine lv_aload_n hx hb dX0_countWays_42 rfl (lv_at hl 1 rfl) ?_
  refine lv_dup hx hb dX0_countWays_43 rfl ?_
  refine z_get C G clX0 0 rfl 1 (by decide) m_fl_RX0_57 rfl dX0_countWays_44 ?_
  refine lv_aload_n hx hb dX0_countWays_47 rfl (lv_at hl 1 rfl) ?_
  refine z_get C G clX0 0 rfl 4 (by decide) m_fl_RX0_18 rfl dX0_countWays_48 ?_
  refine lv_iload_n hx hb dX0_countWays_51 rfl (lv_at hl 0 rfl) ?_
  refine z_ild C G 1 rfl (vp_in_nI (n := 6) (by decide) (by decide)) dX0_countWays_52 ?_
  refine lv_topi (fun v_11 ev_11 => ?_)
  have ev_11 : v_11 = zCh cr inn k1 6 := ev_11
  subst ev_11
  refine lv_imul hx hb dX0_countWays_53 ?_
  refine lv_topi (fun y_12 ey_12 => ?_)
  obtain rfl : y_12 = zWyN cr inn k1 1 := ey_12
  refine z_put C G clX0 0 rfl 1 (by decide) m_fl_RX0_57 rfl rfl rfl (Nat.le_of_ble_eq_true rfl) dX0_countWays_54 (fun H locs G => ?_)
  have G : zS T A s.heap s [[zO0 h md (zWyN cr inn k1 1) o pc_ a1_1 a2_2 a3_3 a4_4 a5_5 a6_6], [zAr T 0 a1_1 7 (upd f1 6 (zCh cr inn k1 6))], [zAr T 0 a2_2 7 (upd f2 6 1)], [zAr T 0 a3_3 7 f3], [zAr T 0 a4_4 n4 f4], [zAr T 0 a5_5 n4 f5], [zAr T 0 a6_6 n4 f6], z] _ _ := G
  refine lv_iinc (v := 5) (lv' := [(2, .int 5), (0, .ref h), (1, .ref o)]) hx hb dX0_countWays_57 hl (k := 0) rfl (by decide) (by decide) rfl (fun ls hl => ?_)
  refine lv_goto (tgt := 13) hx hb dX0_countWays_60 (by decide) ?_
  refine lv_iload_n hx hb dX0_countWays_13 rfl (lv_at hl 0 rfl) ?_
  refine lv_if_lt (tgt := 63) hx hb dX0_countWays_14 (by decide) (fun q => absurd q (by decide)) (fun _ => ?_)
  refine lv_aload_n hx hb dX0_countWays_17 rfl (lv_at hl 1 rfl) ?_
  refine z_get C G clX0 0 rfl 4 (by decide) m_fl_RX0_18 rfl dX0_countWays_18 ?_
  refine lv_iload_n hx hb dX0_countWays_21 rfl (lv_at hl 0 rfl) ?_
  refine lv_aload_n hx hb dX0_countWays_22 rfl (lv_at hl 2 rfl) ?_
  refine lv_iload_n hx hb dX0_countWays_23 rfl (lv_at hl 0 rfl) ?_
  refine z_Vi (bc := [z]) (br := [[zO0 h md (zWyN cr inn k1 1) o pc_ a1_1 a2_2 a3_3 a4_4 a5_5 a6_6], [zAr T 0 a1_1 7 (upd f1 6 (zCh cr inn k1 6))], [zAr T 0 a2_2 7 (upd f2 6 1)], [zAr T 0 a3_3 7 f3], [zAr T 0 a4_4 n4 f4], [zAr T 0 a5_5 n4 f5], [zAr T 0 a6_6 n4 f6]]) (As := [.int 5]) (rest := [.int 5, .ref a1_1]) C G (c_waysOut l T o cr inn k1 k2 k3 k4 z 5 hz) (kV_RX0_61 C.2.2.2.2 (Nat.le_of_ble_eq_true rfl) (Nat.le_of_ble_eq_true rfl)) [7] [7] rfl rfl (ci := 4) (qc := (RX4, TX4, 6)) rfl rfl (List.mem_flatten.mpr ⟨_, List.mem_of_getElem? (i := 0) rfl, (bLand_mem hz).choose_spec⟩) rfl rfl hl.1 dX0_countWays_24 (Nat.le_of_ble_eq_true rfl) (Nat.le_of_ble_eq_true rfl) (fun r_14 b1 H locs hw G => ?_)
  refine zAn2 hw ?_
  intro hbs9 h_13
  clear hw
  subst hbs9
  have G : zS T A s.heap s [[zO0 h md (zWyN cr inn k1 1) o pc_ a1_1 a2_2 a3_3 a4_4 a5_5 a6_6], [zAr T 0 a1_1 7 (upd f1 6 (zCh cr inn k1 6))], [zAr T 0 a2_2 7 (upd f2 6 1)], [zAr T 0 a3_3 7 f3], [zAr T 0 a4_4 n4 f4], [zAr T 0 a5_5 n4 f5], [zAr T 0 a6_6 n4 f6], z] _ _ := G
  subst h_13
  refine lv_iconst (v := 1) hx hb dX0_countWays_27 (by decide) ?_
  refine va_mmax hx hb (C.2.2.1.trans hl.1.symm) C.2.2.2.1 (C.2.2.2.2 _ m_ml_RX0_65) (C.2.2.2.2 _ m_st_math_max) (C.2.2.2.2 _ m_ii_math) (C.2.2.2.2 _ m_co_math_max) (Nat.le_of_ble_eq_true rfl) (Nat.le_of_ble_eq_true rfl) (Nat.le_of_ble_eq_true rfl) (Nat.le_of_ble_eq_true rfl) dX0_countWays_28 ?_
  refine lv_topi (fun v_15 ev_15 => ?_)
  subst ev_15
  refine lv_topi (fun y_16 ey_16 => ?_)
  obtain rfl : y_16 = zCh cr inn k1 5 := ey_16
  refine z_ist C G 1 rfl (vp_in_nI (n := 5) (by decide) (by decide)) dX0_countWays_31 (fun H locs G => ?_)
  have G : zS T A s.heap s [[zO0 h md (zWyN cr inn k1 1) o pc_ a1_1 a2_2 a3_3 a4_4 a5_5 a6_6], [zAr T 0 a1_1 7 (upd (upd f1 6 (zCh cr inn k1 6)) 5 (zCh cr inn k1 5))], [zAr T 0 a2_2 7 (upd f2 6 1)], [zAr T 0 a3_3 7 f3], [zAr T 0 a4_4 n4 f4], [zAr T 0 a5_5 n4 f5], [zAr T 0 a6_6 n4 f6], z] _ _ := G
  refine lv_aload_n hx hb dX0_countWays_32 rfl (lv_at hl 1 rfl) ?_
  refine z_get C G clX0 0 rfl 5 (by decide) m_fl_RX0_22 rfl dX0_countWays_33 ?_
  refine lv_iload_n hx hb dX0_countWays_36 rfl (lv_at hl 0 rfl) ?_
  refine lv_aload_n hx hb dX0_countWays_37 rfl (lv_at hl 1 rfl) ?_
  refine z_get C G clX0 0 rfl 1 (by decide) m_fl_RX0_57 rfl dX0_countWays_38 ?_
  refine z_ist C G 2 rfl (vp_in_nI (n := 5) (by decide) (by decide)) dX0_countWays_41 (fun H locs G => ?_)
  have G : zS T A s.heap s [[zO0 h md (zWyN cr inn k1 1) o pc_ a1_1 a2_2 a3_3 a4_4 a5_5 a6_6], [zAr T 0 a1_1 7 (upd (upd f1 6 (zCh cr inn k1 6)) 5 (zCh cr inn k1 5))], [zAr T 0 a2_2 7 (upd (upd f2 6 1) 5 (zWyN cr inn k1 1))], [zAr T 0 a3_3 7 f3], [zAr T 0 a4_4 n4 f4], [zAr T 0 a5_5 n4 f5], [zAr T 0 a6_6 n4 f6], z] _ _ := G
  refine lv_aload_n hx hb dX0_countWays_42 rfl (lv_at hl 1 rfl) ?_
  refine lv_dup hx hb dX0_countWays_43 rfl ?_
  refine z_get C G clX0 0 rfl 1 (by decide) m_fl_RX0_57 rfl dX0_countWays_44 ?_
  refine lv_aload_n hx hb dX0_countWays_47 rfl (lv_at hl 1 rfl) ?_
  refine z_get C G clX0 0 rfl 4 (by decide) m_fl_RX0_18 rfl dX0_countWays_48 ?_
  refine lv_iload_n hx hb dX0_countWays_51 rfl (lv_at hl 0 rfl) ?_
  refine z_ild C G 1 rfl (vp_in_nI (n := 5) (by decide) (by decide)) dX0_countWays_52 ?_
  refine lv_topi (fun v_17 ev_17 => ?_)
  have ev_17 : v_17 = zCh cr inn k1 5 := ev_17
  subst ev_17
  refine lv_imul hx hb dX0_countWays_53 ?_
  refine lv_topi (fun y_18 ey_18 => ?_)
  obtain rfl : y_18 = zWyN cr inn k1 2 := ey_18
  refine z_put C G clX0 0 rfl 1 (by decide) m_fl_RX0_57 rfl rfl rfl (Nat.le_of_ble_eq_true rfl) dX0_countWays_54 (fun H locs G => ?_)
  have G : zS T A s.heap s [[zO0 h md (zWyN cr inn k1 2) o pc_ a1_1 a2_2 a3_3 a4_4 a5_5 a6_6], [zAr T 0 a1_1 7 (upd (upd f1 6 (zCh cr inn k1 6)) 5 (zCh cr inn k1 5))], [zAr T 0 a2_2 7 (upd (upd f2 6 1) 5 (zWyN cr inn k1 1))], [zAr T 0 a3_3 7 f3], [zAr T 0 a4_4 n4 f4], [zAr T 0 a5_5 n4 f5], [zAr T 0 a6_6 n4 f6], z] _ _ := G
  refine lv_iinc (v := 4) (lv' := [(2, .int 4), (0, .ref h), (1, .ref o)]) hx hb dX0_countWays_57 hl (k := 0) rfl (by decide) (by decide) rfl (fun ls hl => ?_)
  refine lv_goto (tgt := 13) hx hb dX0_countWays_60 (by decide) ?_
  refine lv_iload_n hx hb dX0_countWays_13 rfl (lv_at hl 0 rfl) ?_
  refine lv_if_lt (tgt := 63) hx hb dX0_countWays_14 (by decide) (fun q => absurd q (by decide)) (fun _ => ?_)
  refine lv_aload_n hx hb dX0_countWays_17 rfl (lv_at hl 1 rfl) ?_
  refine z_get C G clX0 0 rfl 4 (by decide) m_fl_RX0_18 rfl dX0_countWays_18 ?_
  refine lv_iload_n hx hb dX0_countWays_21 rfl (lv_at hl 0 rfl) ?_
  refine lv_aload_n hx hb dX0_countWays_22 rfl (lv_at hl 2 rfl) ?_
  refine lv_iload_n hx hb dX0_countWays_23 rfl (lv_at hl 0 rfl) ?_
  refine z_Vi (bc := [z]) (br := [[zO0 h md (zWyN cr inn k1 2) o pc_ a1_1 a2_2 a3_3 a4_4 a5_5 a6_6], [zAr T 0 a1_1 7 (upd (upd f1 6 (zCh cr inn k1 6)) 5 (zCh cr inn k1 5))], [zAr T 0 a2_2 7 (upd (upd f2 6 1) 5 (zWyN cr inn k1 1))], [zAr T 0 a3_3 7 f3], [zAr T 0 a4_4 n4 f4], [zAr T 0 a5_5 n4 f5], [zAr T 0 a6_6 n4 f6]]) (As := [.int 4]) (rest := [.int 4, .ref a1_1]) C G (c_waysOut l T o cr inn k1 k2 k3 k4 z 4 hz) (kV_RX0_61 C.2.2.2.2 (Nat.le_of_ble_eq_true rfl) (Nat.le_of_ble_eq_true rfl)) [7] [7] rfl rfl (ci := 4) (qc := (RX4, TX4, 6)) rfl rfl (List.mem_flatten.mpr ⟨_, List.mem_of_getElem? (i := 0) rfl, (bLand_mem hz).choose_spec⟩) rfl rfl hl.1 dX0_countWays_24 (Nat.le_of_ble_eq_true rfl) (Nat.le_of_ble_eq_true rfl) (fun r_20 b1 H locs hw G => ?_)
  refine zAn2 hw ?_
  intro hbs9 h_19
  clear hw
  subst hbs9
  have G : zS T A s.heap s [[zO0 h md (zWyN cr inn k1 2) o pc_ a1_1 a2_2 a3_3 a4_4 a5_5 a6_6], [zAr T 0 a1_1 7 (upd (upd f1 6 (zCh cr inn k1 6)) 5 (zCh cr inn k1 5))], [zAr T 0 a2_2 7 (upd (upd f2 6 1) 5 (zWyN cr inn k1 1))], [zAr T 0 a3_3 7 f3], [zAr T 0 a4_4 n4 f4], [zAr T 0 a5_5 n4 f5], [zAr T 0 a6_6 n4 f6], z] _ _ := G
  subst h_19
  refine lv_iconst (v := 1) hx hb dX0_countWays_27 (by decide) ?_
  refine va_mmax hx hb (C.2.2.1.trans hl.1.symm) C.2.2.2.1 (C.2.2.2.2 _ m_ml_RX0_65) (C.2.2.2.2 _ m_st_math_max) (C.2.2.2.2 _ m_ii_math) (C.2.2.2.2 _ m_co_math_max) (Nat.le_of_ble_eq_true rfl) (Nat.le_of_ble_eq_true rfl) (Nat.le_of_ble_eq_true rfl) (Nat.le_of_ble_eq_true rfl) dX0_countWays_28 ?_
  refine lv_topi (fun v_21 ev_21 => ?_)
  subst ev_21
  refine lv_topi (fun y_22 ey_22 => ?_)
  obtain rfl : y_22 = zCh cr inn k1 4 := ey_22
  refine z_ist C G 1 rfl (vp_in_nI (n := 4) (by decide) (by decide)) dX0_countWays_31 (fun H locs G => ?_)
  have G : zS T A s.heap s [[zO0 h md (zWyN cr inn k1 2) o pc_ a1_1 a2_2 a3_3 a4_4 a5_5 a6_6], [zAr T 0 a1_1 7 (upd (upd (upd f1 6 (zCh cr inn k1 6)) 5 (zCh cr inn k1 5)) 4 (zCh cr inn k1 4))], [zAr T 0 a2_2 7 (upd (upd f2 6 1) 5 (zWyN cr inn k1 1))], [zAr T 0 a3_3 7 f3], [zAr T 0 a4_4 n4 f4], [zAr T 0 a5_5 n4 f5], [zAr T 0 a6_6 n4 f6], z] _ _ := G
  refine lv_aload_n hx hb dX0_countWays_32 rfl (lv_at hl 1 rfl) ?_
  refine z_get C G clX0 0 rfl 5 (by decide) m_fl_RX0_22 rfl dX0_countWays_33 ?_
  refine lv_iload_n hx hb dX0_countWays_36 rfl (lv_at hl 0 rfl) ?_
  refine lv_aload_n hx hb dX0_countWays_37 rfl (lv_at hl 1 rfl) ?_
  refine z_get C G clX0 0 rfl 1 (by decide) m_fl_RX0_57 rfl dX0_countWays_38 ?_
  refine z_ist C G 2 rfl (vp_in_nI (n := 4) (by decide) (by decide)) dX0_countWays_41 (fun H locs G => ?_)
  have G : zS T A s.heap s [[zO0 h md (zWyN cr inn k1 2) o pc_ a1_1 a2_2 a3_3 a4_4 a5_5 a6_6], [zAr T 0 a1_1 7 (upd (upd (upd f1 6 (zCh cr inn k1 6)) 5 (zCh cr inn k1 5)) 4 (zCh cr inn k1 4))], [zAr T 0 a2_2 7 (upd (upd (upd f2 6 1) 5 (zWyN cr inn k1 1)) 4 (zWyN cr inn k1 2))], [zAr T 0 a3_3 7 f3], [zAr T 0 a4_4 n4 f4], [zAr T 0 a5_5 n4 f5], [zAr T 0 a6_6 n4 f6], z] _ _ := G
  refine lv_aload_n hx hb dX0_countWays_42 rfl (lv_at hl 1 rfl) ?_
  refine lv_dup hx hb dX0_countWays_43 rfl ?_
  refine z_get C G clX0 0 rfl 1 (by decide) m_fl_RX0_57 rfl dX0_countWays_44 ?_
  refine lv_aload_n hx hb dX0_countWays_47 rfl (lv_at hl 1 rfl) ?_
  refine z_get C G clX0 0 rfl 4 (by decide) m_fl_RX0_18 rfl dX0_countWays_48 ?_
  refine lv_iload_n hx hb dX0_countWays_51 rfl (lv_at hl 0 rfl) ?_
  refine z_ild C G 1 rfl (vp_in_nI (n := 4) (by decide) (by decide)) dX0_countWays_52 ?_
  refine lv_topi (fun v_23 ev_23 => ?_)
  have ev_23 : v_23 = zCh cr inn k1 4 := ev_23
  subst ev_23
  refine lv_imul hx hb dX0_countWays_53 ?_
  refine lv_topi (fun y_24 ey_24 => ?_)
  obtain rfl : y_24 = zWyN cr inn k1 3 := ey_24
  refine z_put C G clX0 0 rfl 1 (by decide) m_fl_RX0_57 rfl rfl rfl (Nat.le_of_ble_eq_true rfl) dX0_countWays_54 (fun H locs G => ?_)
  have G : zS T A s.heap s [[zO0 h md (zWyN cr inn k1 3) o pc_ a1_1 a2_2 a3_3 a4_4 a5_5 a6_6], [zAr T 0 a1_1 7 (upd (upd (upd f1 6 (zCh cr inn k1 6)) 5 (zCh cr inn k1 5)) 4 (zCh cr inn k1 4))], [zAr T 0 a2_2 7 (upd (upd (upd f2 6 1) 5 (zWyN cr inn k1 1)) 4 (zWyN cr inn k1 2))], [zAr T 0 a3_3 7 f3], [zAr T 0 a4_4 n4 f4], [zAr T 0 a5_5 n4 f5], [zAr T 0 a6_6 n4 f6], z] _ _ := G
  refine lv_iinc (v := 3) (lv' := [(2, .int 3), (0, .ref h), (1, .ref o)]) hx hb dX0_countWays_57 hl (k := 0) rfl (by decide) (by decide) rfl (fun ls hl => ?_)
  refine lv_goto (tgt := 13) hx hb dX0_countWays_60 (by decide) ?_
  refine lv_iload_n hx hb dX0_countWays_13 rfl (lv_at hl 0 rfl) ?_
  refine lv_if_lt (tgt := 63) hx hb dX0_countWays_14 (by decide) (fun q => absurd q (by decide)) (fun _ => ?_)
  refine lv_aload_n hx hb dX0_countWays_17 rfl (lv_at hl 1 rfl) ?_
  refine z_get C G clX0 0 rfl 4 (by decide) m_fl_RX0_18 rfl dX0_countWays_18 ?_
  refine lv_iload_n hx hb dX0_countWays_21 rfl (lv_at hl 0 rfl) ?_
  refine lv_aload_n hx hb dX0_countWays_22 rfl (lv_at hl 2 rfl) ?_
  refine lv_iload_n hx hb dX0_countWays_23 rfl (lv_at hl 0 rfl) ?_
  refine z_Vi (bc := [z]) (br := [[zO0 h md (zWyN cr inn k1 3) o pc_ a1_1 a2_2 a3_3 a4_4 a5_5 a6_6], [zAr T 0 a1_1 7 (upd (upd (upd f1 6 (zCh cr inn k1 6)) 5 (zCh cr inn k1 5)) 4 (zCh cr inn k1 4))], [zAr T 0 a2_2 7 (upd (upd (upd f2 6 1) 5 (zWyN cr inn k1 1)) 4 (zWyN cr inn k1 2))], [zAr T 0 a3_3 7 f3], [zAr T 0 a4_4 n4 f4], [zAr T 0 a5_5 n4 f5], [zAr T 0 a6_6 n4 f6]]) (As := [.int 3]) (rest := [.int 3, .ref a1_1]) C G (c_waysOut l T o cr inn k1 k2 k3 k4 z 3 hz) (kV_RX0_61 C.2.2.2.2 (Nat.le_of_ble_eq_true rfl) (Nat.le_of_ble_eq_true rfl)) [7] [7] rfl rfl (ci := 4) (qc := (RX4, TX4, 6)) rfl rfl (List.mem_flatten.mpr ⟨_, List.mem_of_getElem? (i := 0) rfl, (bLand_mem hz).choose_spec⟩) rfl rfl hl.1 dX0_countWays_24 (Nat.le_of_ble_eq_true rfl) (Nat.le_of_ble_eq_true rfl) (fun r_26 b1 H locs hw G => ?_)
  refine zAn2 hw ?_
  intro hbs9 h_25
  clear hw
  subst hbs9
  have G : zS T A s.heap s [[zO0 h md (zWyN cr inn k1 3) o pc_ a1_1 a2_2 a3_3 a4_4 a5_5 a6_6], [zAr T 0 a1_1 7 (upd (upd (upd f1 6 (zCh cr inn k1 6)) 5 (zCh cr inn k1 5)) 4 (zCh cr inn k1 4))], [zAr T 0 a2_2 7 (upd (upd (upd f2 6 1) 5 (zWyN cr inn k1 1)) 4 (zWyN cr inn k1 2))], [zAr T 0 a3_3 7 f3], [zAr T 0 a4_4 n4 f4], [zAr T 0 a5_5 n4 f5], [zAr T 0 a6_6 n4 f6], z] _ _ := G
  subst h_25
  refine lv_iconst (v := 1) hx hb dX0_countWays_27 (by decide) ?_
  refine va_mmax hx hb (C.2.2.1.trans hl.1.symm) C.2.2.2.1 (C.2.2.2.2 _ m_ml_RX0_65) (C.2.2.2.2 _ m_st_math_max) (C.2.2.2.2 _ m_ii_math) (C.2.2.2.2 _ m_co_math_max) (Nat.le_of_ble_eq_true rfl) (Nat.le_of_ble_eq_true rfl) (Nat.le_of_ble_eq_true rfl) (Nat.le_of_ble_eq_true rfl) dX0_countWays_28 ?_
  refine lv_topi (fun v_27 ev_27 => ?_)
  subst ev_27
  refine lv_topi (fun y_28 ey_28 => ?_)
  obtain rfl : y_28 = zCh cr inn k1 3 := ey_28
  refine z_ist C G 1 rfl (vp_in_nI (n := 3) (by decide) (by decide)) dX0_countWays_31 (fun H locs G => ?_)
  have G : zS T A s.heap s [[zO0 h md (zWyN cr inn k1 3) o pc_ a1_1 a2_2 a3_3 a4_4 a5_5 a6_6], [zAr T 0 a1_1 7 (upd (upd (upd (upd f1 6 (zCh cr inn k1 6)) 5 (zCh cr inn k1 5)) 4 (zCh cr inn k1 4)) 3 (zCh cr inn k1 3))], [zAr T 0 a2_2 7 (upd (upd (upd f2 6 1) 5 (zWyN cr inn k1 1)) 4 (zWyN cr inn k1 2))], [zAr T 0 a3_3 7 f3], [zAr T 0 a4_4 n4 f4], [zAr T 0 a5_5 n4 f5], [zAr T 0 a6_6 n4 f6], z] _ _ := G
  refine lv_aload_n hx hb dX0_countWays_32 rfl (lv_at hl 1 rfl) ?_
  refine z_get C G clX0 0 rfl 5 (by decide) m_fl_RX0_22 rfl dX0_countWays_33 ?_
  refine lv_iload_n hx hb dX0_countWays_36 rfl (lv_at hl 0 rfl) ?_
  refine lv_aload_n hx hb dX0_countWays_37 rfl (lv_at hl 1 rfl) ?_
  refine z_get C G clX0 0 rfl 1 (by decide) m_fl_RX0_57 rfl dX0_countWays_38 ?_
  refine z_ist C G 2 rfl (vp_in_nI (n := 3) (by decide) (by decide)) dX0_countWays_41 (fun H locs G => ?_)
  have G : zS T A s.heap s [[zO0 h md (zWyN cr inn k1 3) o pc_ a1_1 a2_2 a3_3 a4_4 a5_5 a6_6], [zAr T 0 a1_1 7 (upd (upd (upd (upd f1 6 (zCh cr inn k1 6)) 5 (zCh cr inn k1 5)) 4 (zCh cr inn k1 4)) 3 (zCh cr inn k1 3))], [zAr T 0 a2_2 7 (upd (upd (upd (upd f2 6 1) 5 (zWyN cr inn k1 1)) 4 (zWyN cr inn k1 2)) 3 (zWyN cr inn k1 3))], [zAr T 0 a3_3 7 f3], [zAr T 0 a4_4 n4 f4], [zAr T 0 a5_5 n4 f5], [zAr T 0 a6_6 n4 f6], z] _ _ := G
  refine lv_aload_n hx hb dX0_countWays_42 rfl (lv_at hl 1 rfl) ?_
  refine lv_dup hx hb dX0_countWays_43 rfl ?_
  refine z_get C G clX0 0 rfl 1 (by decide) m_fl_RX0_57 rfl dX0_countWays_44 ?_
  refine lv_aload_n hx hb dX0_countWays_47 rfl (lv_at hl 1 rfl) ?_
  refine z_get C G clX0 0 rfl 4 (by decide) m_fl_RX0_18 rfl dX0_countWays_48 ?_
  refine lv_iload_n hx hb dX0_countWays_51 rfl (lv_at hl 0 rfl) ?_
  refine z_ild C G 1 rfl (vp_in_nI (n := 3) (by decide) (by decide)) dX0_countWays_52 ?_
  refine lv_topi (fun v_29 ev_29 => ?_)
  have ev_29 : v_29 = zCh cr inn k1 3 := ev_29
  subst ev_29
  refine lv_imul hx hb dX0_countWays_53 ?_
  refine lv_topi (fun y_30 ey_30 => ?_)
  obtain rfl : y_30 = zWyN cr inn k1 4 := ey_30
  refine z_put C G clX0 0 rfl 1 (by decide) m_fl_RX0_57 rfl rfl rfl (Nat.le_of_ble_eq_true rfl) dX0_countWays_54 (fun H locs G => ?_)
  have G : zS T A s.heap s [[zO0 h md (zWyN cr inn k1 4) o pc_ a1_1 a2_2 a3_3 a4_4 a5_5 a6_6], [zAr T 0 a1_1 7 (upd (upd (upd (upd f1 6 (zCh cr inn k1 6)) 5 (zCh cr inn k1 5)) 4 (zCh cr inn k1 4)) 3 (zCh cr inn k1 3))], [zAr T 0 a2_2 7 (upd (upd (upd (upd f2 6 1) 5 (zWyN cr inn k1 1)) 4 (zWyN cr inn k1 2)) 3 (zWyN cr inn k1 3))], [zAr T 0 a3_3 7 f3], [zAr T 0 a4_4 n4 f4], [zAr T 0 a5_5 n4 f5], [zAr T 0 a6_6 n4 f6], z] _ _ := G
  refine lv_iinc (v := 2) (lv' := [(2, .int 2), (0, .ref h), (1, .ref o)]) hx hb dX0_countWays_57 hl (k := 0) rfl (by decide) (by decide) rfl (fun ls hl => ?_)
  refine lv_goto (tgt := 13) hx hb dX0_countWays_60 (by decide) ?_
  refine lv_iload_n hx hb dX0_countWays_13 rfl (lv_at hl 0 rfl) ?_
  refine lv_if_lt (tgt := 63) hx hb dX0_countWays_14 (by decide) (fun q => absurd q (by decide)) (fun _ => ?_)
  refine lv_aload_n hx hb dX0_countWays_17 rfl (lv_at hl 1 rfl) ?_
  refine z_get C G clX0 0 rfl 4 (by decide) m_fl_RX0_18 rfl dX0_countWays_18 ?_
  refine lv_iload_n hx hb dX0_countWays_21 rfl (lv_at hl 0 rfl) ?_
  refine lv_aload_n hx hb dX0_countWays_22 rfl (lv_at hl 2 rfl) ?_
  refine lv_iload_n hx hb dX0_countWays_23 rfl (lv_at hl 0 rfl) ?_
  refine z_Vi (bc := [z]) (br := [[zO0 h md (zWyN cr inn k1 4) o pc_ a1_1 a2_2 a3_3 a4_4 a5_5 a6_6], [zAr T 0 a1_1 7 (upd (upd (upd (upd f1 6 (zCh cr inn k1 6)) 5 (zCh cr inn k1 5)) 4 (zCh cr inn k1 4)) 3 (zCh cr inn k1 3))], [zAr T 0 a2_2 7 (upd (upd (upd (upd f2 6 1) 5 (zWyN cr inn k1 1)) 4 (zWyN cr inn k1 2)) 3 (zWyN cr inn k1 3))], [zAr T 0 a3_3 7 f3], [zAr T 0 a4_4 n4 f4], [zAr T 0 a5_5 n4 f5], [zAr T 0 a6_6 n4 f6]]) (As := [.int 2]) (rest := [.int 2, .ref a1_1]) C G (c_waysOut l T o cr inn k1 k2 k3 k4 z 2 hz) (kV_RX0_61 C.2.2.2.2 (Nat.le_of_ble_eq_true rfl) (Nat.le_of_ble_eq_true rfl)) [7] [7] rfl rfl (ci := 4) (qc := (RX4, TX4, 6)) rfl rfl (List.mem_flatten.mpr ⟨_, List.mem_of_getElem? (i := 0) rfl, (bLand_mem hz).choose_spec⟩) rfl rfl hl.1 dX0_countWays_24 (Nat.le_of_ble_eq_true rfl) (Nat.le_of_ble_eq_true rfl) (fun r_32 b1 H locs hw G => ?_)
  refine zAn2 hw ?_
  intro hbs9 h_31
  clear hw
  subst hbs9
  have G : zS T A s.heap s [[zO0 h md (zWyN cr inn k1 4) o pc_ a1_1 a2_2 a3_3 a4_4 a5_5 a6_6], [zAr T 0 a1_1 7 (upd (upd (upd (upd f1 6 (zCh cr inn k1 6)) 5 (zCh cr inn k1 5)) 4 (zCh cr inn k1 4)) 3 (zCh cr inn k1 3))], [zAr T 0 a2_2 7 (upd (upd (upd (upd f2 6 1) 5 (zWyN cr inn k1 1)) 4 (zWyN cr inn k1 2)) 3 (zWyN cr inn k1 3))], [zAr T 0 a3_3 7 f3], [zAr T 0 a4_4 n4 f4], [zAr T 0 a5_5 n4 f5], [zAr T 0 a6_6 n4 f6], z] _ _ := G
  subst h_31
  refine lv_iconst (v := 1) hx hb dX0_countWays_27 (by decide) ?_
  refine va_mmax hx hb (C.2.2.1.trans hl.1.symm) C.2.2.2.1 (C.2.2.2.2 _ m_ml_RX0_65) (C.2.2.2.2 _ m_st_math_max) (C.2.2.2.2 _ m_ii_math) (C.2.2.2.2 _ m_co_math_max) (Nat.le_of_ble_eq_true rfl) (Nat.le_of_ble_eq_true rfl) (Nat.le_of_ble_eq_true rfl) (Nat.le_of_ble_eq_true rfl) dX0_countWays_28 ?_
  refine lv_topi (fun v_33 ev_33 => ?_)
  subst ev_33
  refine lv_topi (fun y_34 ey_34 => ?_)
  obtain rfl : y_34 = zCh cr inn k1 2 := ey_34
  refine z_ist C G 1 rfl (vp_in_nI (n := 2) (by decide) (by decide)) dX0_countWays_31 (fun H locs G => ?_)
  have G : zS T A s.heap s [[zO0 h md (zWyN cr inn k1 4) o pc_ a1_1 a2_2 a3_3 a4_4 a5_5 a6_6], [zAr T 0 a1_1 7 (upd (upd (upd (upd (upd f1 6 (zCh cr inn k1 6)) 5 (zCh cr inn k1 5)) 4 (zCh cr inn k1 4)) 3 (zCh cr inn k1 3)) 2 (zCh cr inn k1 2))], [zAr T 0 a2_2 7 (upd (upd (upd (upd f2 6 1) 5 (zWyN cr inn k1 1)) 4 (zWyN cr inn k1 2)) 3 (zWyN cr inn k1 3))], [zAr T 0 a3_3 7 f3], [zAr T 0 a4_4 n4 f4], [zAr T 0 a5_5 n4 f5], [zAr T 0 a6_6 n4 f6], z] _ _ := G
  refine lv_aload_n hx hb dX0_countWays_32 rfl (lv_at hl 1 rfl) ?_
  refine z_get C G clX0 0 rfl 5 (by decide) m_fl_RX0_22 rfl dX0_countWays_33 ?_
  refine lv_iload_n hx hb dX0_countWays_36 rfl (lv_at hl 0 rfl) ?_
  refine lv_aload_n hx hb dX0_countWays_37 rfl (lv_at hl 1 rfl) ?_
  refine z_get C G clX0 0 rfl 1 (by decide) m_fl_RX0_57 rfl dX0_countWays_38 ?_
  refine z_ist C G 2 rfl (vp_in_nI (n := 2) (by decide) (by decide)) dX0_countWays_41 (fun H locs G => ?_)
  have G : zS T A s.heap s [[zO0 h md (zWyN cr inn k1 4) o pc_ a1_1 a2_2 a3_3 a4_4 a5_5 a6_6], [zAr T 0 a1_1 7 (upd (upd (upd (upd (upd f1 6 (zCh cr inn k1 6)) 5 (zCh cr inn k1 5)) 4 (zCh cr inn k1 4)) 3 (zCh cr inn k1 3)) 2 (zCh cr inn k1 2))], [zAr T 0 a2_2 7 (upd (upd (upd (upd (upd f2 6 1) 5 (zWyN cr inn k1 1)) 4 (zWyN cr inn k1 2)) 3 (zWyN cr inn k1 3)) 2 (zWyN cr inn k1 4))], [zAr T 0 a3_3 7 f3], [zAr T 0 a4_4 n4 f4], [zAr T 0 a5_5 n4 f5], [zAr T 0 a6_6 n4 f6], z] _ _ := G
  refine lv_aload_n hx hb dX0_countWays_42 rfl (lv_at hl 1 rfl) ?_
  refine lv_dup hx hb dX0_countWays_43 rfl ?_
  refine z_get C G clX0 0 rfl 1 (by decide) m_fl_RX0_57 rfl dX0_countWays_44 ?_
  refine lv_aload_n hx hb dX0_countWays_47 rfl (lv_at hl 1 rfl) ?_
  refine z_get C G clX0 0 rfl 4 (by decide) m_fl_RX0_18 rfl dX0_countWays_48 ?_
  refine lv_iload_n hx hb dX0_countWays_51 rfl (lv_at hl 0 rfl) ?_
  refine z_ild C G 1 rfl (vp_in_nI (n := 2) (by decide) (by decide)) dX0_countWays_52 ?_
  refine lv_topi (fun v_35 ev_35 => ?_)
  have ev_35 : v_35 = zCh cr inn k1 2 := ev_35
  subst ev_35
  refine lv_imul hx hb dX0_countWays_53 ?_
  refine lv_topi (fun y_36 ey_36 => ?_)
  obtain rfl : y_36 = zWyN cr inn k1 5 := ey_36
  refine z_put C G clX0 0 rfl 1 (by decide) m_fl_RX0_57 rfl rfl rfl (Nat.le_of_ble_eq_true rfl) dX0_countWays_54 (fun H locs G => ?_)
  have G : zS T A s.heap s [[zO0 h md (zWyN cr inn k1 5) o pc_ a1_1 a2_2 a3_3 a4_4 a5_5 a6_6], [zAr T 0 a1_1 7 (upd (upd (upd (upd (upd f1 6 (zCh cr inn k1 6)) 5 (zCh cr inn k1 5)) 4 (zCh cr inn k1 4)) 3 (zCh cr inn k1 3)) 2 (zCh cr inn k1 2))], [zAr T 0 a2_2 7 (upd (upd (upd (upd (upd f2 6 1) 5 (zWyN cr inn k1 1)) 4 (zWyN cr inn k1 2)) 3 (zWyN cr inn k1 3)) 2 (zWyN cr inn k1 4))], [zAr T 0 a3_3 7 f3], [zAr T 0 a4_4 n4 f4], [zAr T 0 a5_5 n4 f5], [zAr T 0 a6_6 n4 f6], z] _ _ := G
  refine lv_iinc (v := 1) (lv' := [(2, .int 1), (0, .ref h), (1, .ref o)]) hx hb dX0_countWays_57 hl (k := 0) rfl (by decide) (by decide) rfl (fun ls hl => ?_)
  refine lv_goto (tgt := 13) hx hb dX0_countWays_60 (by decide) ?_
  refine lv_iload_n hx hb dX0_countWays_13 rfl (lv_at hl 0 rfl) ?_
  refine lv_if_lt (tgt := 63) hx hb dX0_countWays_14 (by decide) (fun q => absurd q (by decide)) (fun _ => ?_)
  refine lv_aload_n hx hb dX0_countWays_17 rfl (lv_at hl 1 rfl) ?_
  refine z_get C G clX0 0 rfl 4 (by decide) m_fl_RX0_18 rfl dX0_countWays_18 ?_
  refine lv_iload_n hx hb dX0_countWays_21 rfl (lv_at hl 0 rfl) ?_
  refine lv_aload_n hx hb dX0_countWays_22 rfl (lv_at hl 2 rfl) ?_
  refine lv_iload_n hx hb dX0_countWays_23 rfl (lv_at hl 0 rfl) ?_
  refine z_Vi (bc := [z]) (br := [[zO0 h md (zWyN cr inn k1 5) o pc_ a1_1 a2_2 a3_3 a4_4 a5_5 a6_6], [zAr T 0 a1_1 7 (upd (upd (upd (upd (upd f1 6 (zCh cr inn k1 6)) 5 (zCh cr inn k1 5)) 4 (zCh cr inn k1 4)) 3 (zCh cr inn k1 3)) 2 (zCh cr inn k1 2))], [zAr T 0 a2_2 7 (upd (upd (upd (upd (upd f2 6 1) 5 (zWyN cr inn k1 1)) 4 (zWyN cr inn k1 2)) 3 (zWyN cr inn k1 3)) 2 (zWyN cr inn k1 4))], [zAr T 0 a3_3 7 f3], [zAr T 0 a4_4 n4 f4], [zAr T 0 a5_5 n4 f5], [zAr T 0 a6_6 n4 f6]]) (As := [.int 1]) (rest := [.int 1, .ref a1_1]) C G (c_waysOut l T o cr inn k1 k2 k3 k4 z 1 hz) (kV_RX0_61 C.2.2.2.2 (Nat.le_of_ble_eq_true rfl) (Nat.le_of_ble_eq_true rfl)) [7] [7] rfl rfl (ci := 4) (qc := (RX4, TX4, 6)) rfl rfl (List.mem_flatten.mpr ⟨_, List.mem_of_getElem? (i := 0) rfl, (bLand_mem hz).choose_spec⟩) rfl rfl hl.1 dX0_countWays_24 (Nat.le_of_ble_eq_true rfl) (Nat.le_of_ble_eq_true rfl) (fun r_38 b1 H locs hw G => ?_)
  refine zAn2 hw ?_
  intro hbs9 h_37
  clear hw
  subst hbs9
  have G : zS T A s.heap s [[zO0 h md (zWyN cr inn k1 5) o pc_ a1_1 a2_2 a3_3 a4_4 a5_5 a6_6], [zAr T 0 a1_1 7 (upd (upd (upd (upd (upd f1 6 (zCh cr inn k1 6)) 5 (zCh cr inn k1 5)) 4 (zCh cr inn k1 4)) 3 (zCh cr inn k1 3)) 2 (zCh cr inn k1 2))], [zAr T 0 a2_2 7 (upd (upd (upd (upd (upd f2 6 1) 5 (zWyN cr inn k1 1)) 4 (zWyN cr inn k1 2)) 3 (zWyN cr inn k1 3)) 2 (zWyN cr inn k1 4))], [zAr T 0 a3_3 7 f3], [zAr T 0 a4_4 n4 f4], [zAr T 0 a5_5 n4 f5], [zAr T 0 a6_6 n4 f6], z] _ _ := G
  subst h_37
  refine lv_iconst (v := 1) hx hb dX0_countWays_27 (by decide) ?_
  refine va_mmax hx hb (C.2.2.1.trans hl.1.symm) C.2.2.2.1 (C.2.2.2.2 _ m_ml_RX0_65) (C.2.2.2.2 _ m_st_math_max) (C.2.2.2.2 _ m_ii_math) (C.2.2.2.2 _ m_co_math_max) (Nat.le_of_ble_eq_true rfl) (Nat.le_of_ble_eq_true rfl) (Nat.le_of_ble_eq_true rfl) (Nat.le_of_ble_eq_true rfl) dX0_countWays_28 ?_
  refine lv_topi (fun v_39 ev_39 => ?_)
  subst ev_39
  refine lv_topi (fun y_40 ey_40 => ?_)
  obtain rfl : y_40 = zCh cr inn k1 1 := ey_40
  refine z_ist C G 1 rfl (vp_in_nI (n := 1) (by decide) (by decide)) dX0_countWays_31 (fun H locs G => ?_)
  have G : zS T A s.heap s [[zO0 h md (zWyN cr inn k1 5) o pc_ a1_1 a2_2 a3_3 a4_4 a5_5 a6_6], [zAr T 0 a1_1 7 (upd (upd (upd (upd (upd (upd f1 6 (zCh cr inn k1 6)) 5 (zCh cr inn k1 5)) 4 (zCh cr inn k1 4)) 3 (zCh cr inn k1 3)) 2 (zCh cr inn k1 2)) 1 (zCh cr inn k1 1))], [zAr T 0 a2_2 7 (upd (upd (upd (upd (upd f2 6 1) 5 (zWyN cr inn k1 1)) 4 (zWyN cr inn k1 2)) 3 (zWyN cr inn k1 3)) 2 (zWyN cr inn k1 4))], [zAr T 0 a3_3 7 f3], [zAr T 0 a4_4 n4 f4], [zAr T 0 a5_5 n4 f5], [zAr T 0 a6_6 n4 f6], z] _ _ := G
  refine lv_aload_n hx hb dX0_countWays_32 rfl (lv_at hl 1 rfl) ?_
  refine z_get C G clX0 0 rfl 5 (by decide) m_fl_RX0_22 rfl dX0_countWays_33 ?_
  refine lv_iload_n hx hb dX0_countWays_36 rfl (lv_at hl 0 rfl) ?_
  refine lv_aload_n hx hb dX0_countWays_37 rfl (lv_at hl 1 rfl) ?_
  refine z_get C G clX0 0 rfl 1 (by decide) m_fl_RX0_57 rfl dX0_countWays_38 ?_
  refine z_ist C G 2 rfl (vp_in_nI (n := 1) (by decide) (by decide)) dX0_countWays_41 (fun H locs G => ?_)
  have G : zS T A s.heap s [[zO0 h md (zWyN cr inn k1 5) o pc_ a1_1 a2_2 a3_3 a4_4 a5_5 a6_6], [zAr T 0 a1_1 7 (upd (upd (upd (upd (upd (upd f1 6 (zCh cr inn k1 6)) 5 (zCh cr inn k1 5)) 4 (zCh cr inn k1 4)) 3 (zCh cr inn k1 3)) 2 (zCh cr inn k1 2)) 1 (zCh cr inn k1 1))], [zAr T 0 a2_2 7 (upd (upd (upd (upd (upd (upd f2 6 1) 5 (zWyN cr inn k1 1)) 4 (zWyN cr inn k1 2)) 3 (zWyN cr inn k1 3)) 2 (zWyN cr inn k1 4)) 1 (zWyN cr inn k1 5))], [zAr T 0 a3_3 7 f3], [zAr T 0 a4_4 n4 f4], [zAr T 0 a5_5 n4 f5], [zAr T 0 a6_6 n4 f6], z] _ _ := G
  refine lv_aload_n hx hb dX0_countWays_42 rfl (lv_at hl 1 rfl) ?_
  refine lv_dup hx hb dX0_countWays_43 rfl ?_
  refine z_get C G clX0 0 rfl 1 (by decide) m_fl_RX0_57 rfl dX0_countWays_44 ?_
  refine lv_aload_n hx hb dX0_countWays_47 rfl (lv_at hl 1 rfl) ?_
  refine z_get C G clX0 0 rfl 4 (by decide) m_fl_RX0_18 rfl dX0_countWays_48 ?_
  refine lv_iload_n hx hb dX0_countWays_51 rfl (lv_at hl 0 rfl) ?_
  refine z_ild C G 1 rfl (vp_in_nI (n := 1) (by decide) (by decide)) dX0_countWays_52 ?_
  refine lv_topi (fun v_41 ev_41 => ?_)
  have ev_41 : v_41 = zCh cr inn k1 1 := ev_41
  subst ev_41
  refine lv_imul hx hb dX0_countWays_53 ?_
  refine lv_topi (fun y_42 ey_42 => ?_)
  obtain rfl : y_42 = zWyN cr inn k1 6 := ey_42
  refine z_put C G clX0 0 rfl 1 (by decide) m_fl_RX0_57 rfl rfl rfl (Nat.le_of_ble_eq_true rfl) dX0_countWays_54 (fun H locs G => ?_)
  have G : zS T A s.heap s [[zO0 h md (zWyN cr inn k1 6) o pc_ a1_1 a2_2 a3_3 a4_4 a5_5 a6_6], [zAr T 0 a1_1 7 (upd (upd (upd (upd (upd (upd f1 6 (zCh cr inn k1 6)) 5 (zCh cr inn k1 5)) 4 (zCh cr inn k1 4)) 3 (zCh cr inn k1 3)) 2 (zCh cr inn k1 2)) 1 (zCh cr inn k1 1))], [zAr T 0 a2_2 7 (upd (upd (upd (upd (upd (upd f2 6 1) 5 (zWyN cr inn k1 1)) 4 (zWyN cr inn k1 2)) 3 (zWyN cr inn k1 3)) 2 (zWyN cr inn k1 4)) 1 (zWyN cr inn k1 5))], [zAr T 0 a3_3 7 f3], [zAr T 0 a4_4 n4 f4], [zAr T 0 a5_5 n4 f5], [zAr T 0 a6_6 n4 f6], z] _ _ := G
  refine lv_iinc (v := 0) (lv' := [(2, .int 0), (0, .ref h), (1, .ref o)]) hx hb dX0_countWays_57 hl (k := 0) rfl (by decide) (by decide) rfl (fun ls hl => ?_)
  refine lv_goto (tgt := 13) hx hb dX0_countWays_60 (by decide) ?_
  refine lv_iload_n hx hb dX0_countWays_13 rfl (lv_at hl 0 rfl) ?_
  refine lv_if_lt (tgt := 63) hx hb dX0_countWays_14 (by decide) (fun q => absurd q (by decide)) (fun _ => ?_)
  refine lv_aload_n hx hb dX0_countWays_17 rfl (lv_at hl 1 rfl) ?_
  refine z_get C G clX0 0 rfl 4 (by decide) m_fl_RX0_18 rfl dX0_countWays_18 ?_
  refine lv_iload_n hx hb dX0_countWays_21 rfl (lv_at hl 0 rfl) ?_
  refine lv_aload_n hx hb dX0_countWays_22 rfl (lv_at hl 2 rfl) ?_
  refine lv_iload_n hx hb dX0_countWays_23 rfl (lv_at hl 0 rfl) ?_
  refine z_Vi (bc := [z]) (br := [[zO0 h md (zWyN cr inn k1 6) o pc_ a1_1 a2_2 a3_3 a4_4 a5_5 a6_6], [zAr T 0 a1_1 7 (upd (upd (upd (upd (upd (upd f1 6 (zCh cr inn k1 6)) 5 (zCh cr inn k1 5)) 4 (zCh cr inn k1 4)) 3 (zCh cr inn k1 3)) 2 (zCh cr inn k1 2)) 1 (zCh cr inn k1 1))], [zAr T 0 a2_2 7 (upd (upd (upd (upd (upd (upd f2 6 1) 5 (zWyN cr inn k1 1)) 4 (zWyN cr inn k1 2)) 3 (zWyN cr inn k1 3)) 2 (zWyN cr inn k1 4)) 1 (zWyN cr inn k1 5))], [zAr T 0 a3_3 7 f3], [zAr T 0 a4_4 n4 f4], [zAr T 0 a5_5 n4 f5], [zAr T 0 a6_6 n4 f6]]) (As := [.int 0]) (rest := [.int 0, .ref a1_1]) C G (c_waysOut l T o cr inn k1 k2 k3 k4 z 0 hz) (kV_RX0_61 C.2.2.2.2 (Nat.le_of_ble_eq_true rfl) (Nat.le_of_ble_eq_true rfl)) [7] [7] rfl rfl (ci := 4) (qc := (RX4, TX4, 6)) rfl rfl (List.mem_flatten.mpr ⟨_, List.mem_of_getElem? (i := 0) rfl, (bLand_mem hz).choose_spec⟩) rfl rfl hl.1 dX0_countWays_24 (Nat.le_of_ble_eq_true rfl) (Nat.le_of_ble_eq_true rfl) (fun r_44 b1 H locs hw G => ?_)
  refine zAn2 hw ?_
  intro hbs9 h_43
  clear hw
  subst hbs9
  have G : zS T A s.heap s [[zO0 h md (zWyN cr inn k1 6) o pc_ a1_1 a2_2 a3_3 a4_4 a5_5 a6_6], [zAr T 0 a1_1 7 (upd (upd (upd (upd (upd (upd f1 6 (zCh cr inn k1 6)) 5 (zCh cr inn k1 5)) 4 (zCh cr inn k1 4)) 3 (zCh cr inn k1 3)) 2 (zCh cr inn k1 2)) 1 (zCh cr inn k1 1))], [zAr T 0 a2_2 7 (upd (upd (upd (upd (upd (upd f2 6 1) 5 (zWyN cr inn k1 1)) 4 (zWyN cr inn k1 2)) 3 (zWyN cr inn k1 3)) 2 (zWyN cr inn k1 4)) 1 (zWyN cr inn k1 5))], [zAr T 0 a3_3 7 f3], [zAr T 0 a4_4 n4 f4], [zAr T 0 a5_5 n4 f5], [zAr T 0 a6_6 n4 f6], z] _ _ := G
  subst h_43
  refine lv_iconst (v := 1) hx hb dX0_countWays_27 (by decide) ?_
  refine va_mmax hx hb (C.2.2.1.trans hl.1.symm) C.2.2.2.1 (C.2.2.2.2 _ m_ml_RX0_65) (C.2.2.2.2 _ m_st_math_max) (C.2.2.2.2 _ m_ii_math) (C.2.2.2.2 _ m_co_math_max) (Nat.le_of_ble_eq_true rfl) (Nat.le_of_ble_eq_true rfl) (Nat.le_of_ble_eq_true rfl) (Nat.le_of_ble_eq_true rfl) dX0_countWays_28 ?_
  refine lv_topi (fun v_45 ev_45 => ?_)
  subst ev_45
  refine lv_topi (fun y_46 ey_46 => ?_)
  obtain rfl : y_46 = zCh cr inn k1 0 := ey_46
  refine z_ist C G 1 rfl (vp_in_nI (n := 0) (by decide) (by decide)) dX0_countWays_31 (fun H locs G => ?_)
  have G : zS T A s.heap s [[zO0 h md (zWyN cr inn k1 6) o pc_ a1_1 a2_2 a3_3 a4_4 a5_5 a6_6], [zAr T 0 a1_1 7 (upd (upd (upd (upd (upd (upd (upd f1 6 (zCh cr inn k1 6)) 5 (zCh cr inn k1 5)) 4 (zCh cr inn k1 4)) 3 (zCh cr inn k1 3)) 2 (zCh cr inn k1 2)) 1 (zCh cr inn k1 1)) 0 (zCh cr inn k1 0))], [zAr T 0 a2_2 7 (upd (upd (upd (upd (upd (upd f2 6 1) 5 (zWyN cr inn k1 1)) 4 (zWyN cr inn k1 2)) 3 (zWyN cr inn k1 3)) 2 (zWyN cr inn k1 4)) 1 (zWyN cr inn k1 5))], [zAr T 0 a3_3 7 f3], [zAr T 0 a4_4 n4 f4], [zAr T 0 a5_5 n4 f5], [zAr T 0 a6_6 n4 f6], z] _ _ := G
  refine lv_aload_n hx hb dX0_countWays_32 rfl (lv_at hl 1 rfl) ?_
  refine z_get C G clX0 0 rfl 5 (by decide) m_fl_RX0_22 rfl dX0_countWays_33 ?_
  refine lv_iload_n hx hb dX0_countWays_36 rfl (lv_at hl 0 rfl) ?_
  refine lv_aload_n hx hb dX0_countWays_37 rfl (lv_at hl 1 rfl) ?_
  refine z_get C G clX0 0 rfl 1 (by decide) m_fl_RX0_57 rfl dX0_countWays_38 ?_
  refine z_ist C G 2 rfl (vp_in_nI (n := 0) (by decide) (by decide)) dX0_countWays_41 (fun H locs G => ?_)
  have G : zS T A s.heap s [[zO0 h md (zWyN cr inn k1 6) o pc_ a1_1 a2_2 a3_3 a4_4 a5_5 a6_6], [zAr T 0 a1_1 7 (upd (upd (upd (upd (upd (upd (upd f1 6 (zCh cr inn k1 6)) 5 (zCh cr inn k1 5)) 4 (zCh cr inn k1 4)) 3 (zCh cr inn k1 3)) 2 (zCh cr inn k1 2)) 1 (zCh cr inn k1 1)) 0 (zCh cr inn k1 0))], [zAr T 0 a2_2 7 (upd (upd (upd (upd (upd (upd (upd f2 6 1) 5 (zWyN cr inn k1 1)) 4 (zWyN cr inn k1 2)) 3 (zWyN cr inn k1 3)) 2 (zWyN cr inn k1 4)) 1 (zWyN cr inn k1 5)) 0 (zWyN cr inn k1 6))], [zAr T 0 a3_3 7 f3], [zAr T 0 a4_4 n4 f4], [zAr T 0 a5_5 n4 f5], [zAr T 0 a6_6 n4 f6], z] _ _ := G
  refine lv_aload_n hx hb dX0_countWays_42 rfl (lv_at hl 1 rfl) ?_
  refine lv_dup hx hb dX0_countWays_43 rfl ?_
  refine z_get C G clX0 0 rfl 1 (by decide) m_fl_RX0_57 rfl dX0_countWays_44 ?_
  refine lv_aload_n hx hb dX0_countWays_47 rfl (lv_at hl 1 rfl) ?_
  refine z_get C G clX0 0 rfl 4 (by decide) m_fl_RX0_18 rfl dX0_countWays_48 ?_
  refine lv_iload_n hx hb dX0_countWays_51 rfl (lv_at hl 0 rfl) ?_
  refine z_ild C G 1 rfl (vp_in_nI (n := 0) (by decide) (by decide)) dX0_countWays_52 ?_
  refine lv_topi (fun v_47 ev_47 => ?_)
  have ev_47 : v_47 = zCh cr inn k1 0 := ev_47
  subst ev_47
  refine lv_imul hx hb dX0_countWays_53 ?_
  refine lv_topi (fun y_48 ey_48 => ?_)
  obtain rfl : y_48 = zWyN cr inn k1 7 := ey_48
  refine z_put C G clX0 0 rfl 1 (by decide) m_fl_RX0_57 rfl rfl rfl (Nat.le_of_ble_eq_true rfl) dX0_countWays_54 (fun H locs G => ?_)
  have G : zS T A s.heap s [[zO0 h md (zWyN cr inn k1 7) o pc_ a1_1 a2_2 a3_3 a4_4 a5_5 a6_6], [zAr T 0 a1_1 7 (upd (upd (upd (upd (upd (upd (upd f1 6 (zCh cr inn k1 6)) 5 (zCh cr inn k1 5)) 4 (zCh cr inn k1 4)) 3 (zCh cr inn k1 3)) 2 (zCh cr inn k1 2)) 1 (zCh cr inn k1 1)) 0 (zCh cr inn k1 0))], [zAr T 0 a2_2 7 (upd (upd (upd (upd (upd (upd (upd f2 6 1) 5 (zWyN cr inn k1 1)) 4 (zWyN cr inn k1 2)) 3 (zWyN cr inn k1 3)) 2 (zWyN cr inn k1 4)) 1 (zWyN cr inn k1 5)) 0 (zWyN cr inn k1 6))], [zAr T 0 a3_3 7 f3], [zAr T 0 a4_4 n4 f4], [zAr T 0 a5_5 n4 f5], [zAr T 0 a6_6 n4 f6], z] _ _ := G
  refine lv_iinc (v := (-1)) (lv' := [(2, .int (-1)), (0, .ref h), (1, .ref o)]) hx hb dX0_countWays_57 hl (k := 0) rfl (by decide) (by decide) rfl (fun ls hl => ?_)
  refine lv_goto (tgt := 13) hx hb dX0_countWays_60 (by decide) ?_
  refine lv_iload_n hx hb dX0_countWays_13 rfl (lv_at hl 0 rfl) ?_
  refine lv_if_lt (tgt := 63) hx hb dX0_countWays_14 (by decide) (fun _ => ?_) (fun q => absurd (by decide) q)
  refine lv_aload_n hx hb dX0_countWays_63 rfl (lv_at hl 1 rfl) ?_
  refine lv_aload_n hx hb dX0_countWays_64 rfl (lv_at hl 1 rfl) ?_
  refine z_get C G clX0 0 rfl 1 (by decide) m_fl_RX0_57 rfl dX0_countWays_65 ?_
  refine lv_iconst (v := 3) hx hb dX0_countWays_68 (by decide) ?_
  refine lv_ishl hx hb dX0_countWays_69 ?_
  refine lv_ldc (v := 131072) hx hb C.2.2.2.1 (C.2.2.2.2 _ m_ko_RX0_71) dX0_countWays_70 ?_
  refine va_mmin hx hb (C.2.2.1.trans hl.1.symm) C.2.2.2.1 (C.2.2.2.2 _ m_ml_RX0_72) (C.2.2.2.2 _ m_st_math_min) (C.2.2.2.2 _ m_ii_math) (C.2.2.2.2 _ m_co_math_min) (Nat.le_of_ble_eq_true rfl) (Nat.le_of_ble_eq_true rfl) (Nat.le_of_ble_eq_true rfl) (Nat.le_of_ble_eq_true rfl) dX0_countWays_72 ?_
  refine lv_topi (fun v_49 ev_49 => ?_)
  subst ev_49
  refine lv_topi (fun y_50 ey_50 => ?_)
  obtain rfl : y_50 = zPl cr inn k1 := ey_50
  refine z_put C G clX0 0 rfl 3 (by decide) m_fl_RX0_75 rfl rfl rfl (Nat.le_of_ble_eq_true rfl) dX0_countWays_75 (fun H locs G => ?_)
  have G : zS T A s.heap s [[zO0 h md (zWyN cr inn k1 7) o (zPl cr inn k1) a1_1 a2_2 a3_3 a4_4 a5_5 a6_6], [zAr T 0 a1_1 7 (upd (upd (upd (upd (upd (upd (upd f1 6 (zCh cr inn k1 6)) 5 (zCh cr inn k1 5)) 4 (zCh cr inn k1 4)) 3 (zCh cr inn k1 3)) 2 (zCh cr inn k1 2)) 1 (zCh cr inn k1 1)) 0 (zCh cr inn k1 0))], [zAr T 0 a2_2 7 (upd (upd (upd (upd (upd (upd (upd f2 6 1) 5 (zWyN cr inn k1 1)) 4 (zWyN cr inn k1 2)) 3 (zWyN cr inn k1 3)) 2 (zWyN cr inn k1 4)) 1 (zWyN cr inn k1 5)) 0 (zWyN cr inn k1 6))], [zAr T 0 a3_3 7 f3], [zAr T 0 a4_4 n4 f4], [zAr T 0 a5_5 n4 f5], [zAr T 0 a6_6 n4 f6], z] _ _ := G
  have hw_51 : bWays T h o md (zWyN cr inn k1 7) (zPl cr inn k1) (upd (upd (upd (upd (upd (upd (upd f1 6 (zCh cr inn k1 6)) 5 (zCh cr inn k1 5)) 4 (zCh cr inn k1 4)) 3 (zCh cr inn k1 3)) 2 (zCh cr inn k1 2)) 1 (zCh cr inn k1 1)) 0 (zCh cr inn k1 0)) (upd (upd (upd (upd (upd (upd (upd f2 6 1) 5 (zWyN cr inn k1 1)) 4 (zWyN cr inn k1 2)) 3 (zWyN cr inn k1 3)) 2 (zWyN cr inn k1 4)) 1 (zWyN cr inn k1 5)) 0 (zWyN cr inn k1 6)) f3 f4 f5 f6 n4 [zO0 h md (zWyN cr inn k1 7) o (zPl cr inn k1) a1_1 a2_2 a3_3 a4_4 a5_5 a6_6, zAr T 0 a1_1 7 (upd (upd (upd (upd (upd (upd (upd f1 6 (zCh cr inn k1 6)) 5 (zCh cr inn k1 5)) 4 (zCh cr inn k1 4)) 3 (zCh cr inn k1 3)) 2 (zCh cr inn k1 2)) 1 (zCh cr inn k1 1)) 0 (zCh cr inn k1 0)), zAr T 0 a2_2 7 (upd (upd (upd (upd (upd (upd (upd f2 6 1) 5 (zWyN cr inn k1 1)) 4 (zWyN cr inn k1 2)) 3 (zWyN cr inn k1 3)) 2 (zWyN cr inn k1 4)) 1 (zWyN cr inn k1 5)) 0 (zWyN cr inn k1 6)), zAr T 0 a3_3 7 f3, zAr T 0 a4_4 n4 f4, zAr T 0 a5_5 n4 f5, zAr T 0 a6_6 n4 f6] := ⟨a1_1, a2_2, a3_3, a4_4, a5_5, a6_6, rfl⟩
  have G : zS T A s.heap s [[zO0 h md (zWyN cr inn k1 7) o (zPl cr inn k1) a1_1 a2_2 a3_3 a4_4 a5_5 a6_6, zAr T 0 a1_1 7 (upd (upd (upd (upd (upd (upd (upd f1 6 (zCh cr inn k1 6)) 5 (zCh cr inn k1 5)) 4 (zCh cr inn k1 4)) 3 (zCh cr inn k1 3)) 2 (zCh cr inn k1 2)) 1 (zCh cr inn k1 1)) 0 (zCh cr inn k1 0)), zAr T 0 a2_2 7 (upd (upd (upd (upd (upd (upd (upd f2 6 1) 5 (zWyN cr inn k1 1)) 4 (zWyN cr inn k1 2)) 3 (zWyN cr inn k1 3)) 2 (zWyN cr inn k1 4)) 1 (zWyN cr inn k1 5)) 0 (zWyN cr inn k1 6)), zAr T 0 a3_3 7 f3, zAr T 0 a4_4 n4 f4, zAr T 0 a5_5 n4 f5, zAr T 0 a6_6 n4 f6], z] _ _ := G.re rfl
  exact z_back hQ9 (z_vret C hr hlocks G (Nat.le_of_ble_eq_true rfl) (Nat.le_of_ble_eq_true rfl) dX0_countWays_78 ⟨([zO0 h md (zWyN cr inn k1 7) o (zPl cr inn k1) a1_1 a2_2 a3_3 a4_4 a5_5 a6_6, zAr T 0 a1_1 7 (upd (upd (upd (upd (upd (upd (upd f1 6 (zCh cr inn k1 6)) 5 (zCh cr inn k1 5)) 4 (zCh cr inn k1 4)) 3 (zCh cr inn k1 3)) 2 (zCh cr inn k1 2)) 1 (zCh cr inn k1 1)) 0 (zCh cr inn k1 0)), zAr T 0 a2_2 7 (upd (upd (upd (upd (upd (upd (upd f2 6 1) 5 (zWyN cr inn k1 1)) 4 (zWyN cr inn k1 2)) 3 (zWyN cr inn k1 3)) 2 (zWyN cr inn k1 4)) 1 (zWyN cr inn k1 5)) 0 (zWyN cr inn k1 6)), zAr T 0 a3_3 7 f3, zAr T 0 a4_4 n4 f4, zAr T 0 a5_5 n4 f5, zAr T 0 a6_6 n4 f6]), (upd (upd (upd (upd (upd (upd (upd f1 6 (zCh cr inn k1 6)) 5 (zCh cr inn k1 5)) 4 (zCh cr inn k1 4)) 3 (zCh cr inn k1 3)) 2 (zCh cr inn k1 2)) 1 (zCh cr inn k1 1)) 0 (zCh cr inn k1 0)), (upd (upd (upd (upd (upd (upd (upd f2 6 1) 5 (zWyN cr inn k1 1)) 4 (zWyN cr inn k1 2)) 3 (zWyN cr inn k1 3)) 2 (zWyN cr inn k1 4)) 1 (zWyN cr inn k1 5)) 0 (zWyN cr inn k1 6)), rfl, hw_51⟩)
set_option maxHeartbeats 4000000 in
set_option maxRecDepth 100000 in
/-- grow -/
theorem c_Ways_grow (l : Launch) (T : zTy) (h : Nat) (la : Nat) (md : Int32) (wy : Int32) (pc_ : Int32) (f1 : Nat → Int32) (f2 : Nat → Int32) (f3 : Nat → Int32) (f4 : Nat → Int32) (f5 : Nat → Int32) (f6 : Nat → Int32) (n4 : Nat) (ww : va_W) (hww : bWays T h la md wy pc_ f1 f2 f3 f4 f5 f6 n4 ww) (hpw : zPw n4) (hpl : pc_.toInt ≤ 131072) : zMv l T yX0_grow cX0_grow 2 1 3 (6 * (zNl n4 pc_ - n4)) [.ref h] [ww] (fun bs => ∃ (w2 : va_W) (g4 : Nat → Int32) (g5 : Nat → Int32) (g6 : Nat → Int32), bs = [w2] ∧ bWays T h la md wy pc_ f1 f2 f3 g4 g5 g6 (zNl n4 pc_) w2) := by
  refine zMv_of (own := RX0) (by decide) rfl (Nat.le_of_ble_eq_true rfl) ?_
  intro p e s m args below meth c A ls C hr hlocks hnm hAe G hl
  refine zHide (fun Q9 hQ9 => ?_)
  have hx := C.1
  have hb := C.2.1
  have hl : lv_has ls 2 [(0, .ref h)] := hl
  have hn4 := zPw_le hpw
  refine lv_aload_n hx hb dX0_grow_0 rfl (lv_at hl 0 rfl) ?_
  refine zEx6 hww ?_
  intro a1_1 a2_2 a3_3 a4_4 a5_5 a6_6 hbs9
  clear hww
  subst hbs9
  have G : zS T A s.heap s [[zO0 h md wy la pc_ a1_1 a2_2 a3_3 a4_4 a5_5 a6_6], [zAr T 0 a1_1 7 f1], [zAr T 0 a2_2 7 f2], [zAr T 0 a3_3 7 f3], [zAr T 0 a4_4 n4 f4], [zAr T 0 a5_5 n4 f5], [zAr T 0 a6_6 n4 f6]] _ _ := G.re rfl
  refine z_get C G clX0 0 rfl 8 (by decide) m_fl_RX0_31 rfl dX0_grow_1 ?_
  refine z_alen C G 5 0 rfl (v := nI n4) rfl rfl dX0_grow_4 ?_
  refine lv_aload_n hx hb dX0_grow_5 rfl (lv_at hl 0 rfl) ?_
  refine z_get C G clX0 0 rfl 3 (by decide) m_fl_RX0_75 rfl dX0_grow_6 ?_
  refine lv_icmp_lt (tgt := 13) hx hb dX0_grow_9 (by decide) (fun c_7 => ?_) (fun c_7 => ?_)
  · have c_7n : (n4 : Int) < pc_.toInt := by have q := (fa_lt _ _).mp c_7; rw [nI_toInt (n := n4) (by omega)] at q; exact q
    have hng : ¬ pc_.toInt ≤ (n4 : Int) := by omega
    have hE : zNl n4 pc_ = zLenN pc_ 12 64 := by unfold zNl; rw [if_neg hng]
    have hR := zNl_room hpw hpl hng
    refine lv_bipush (v := 64) hx hb dX0_grow_13 (by decide) ?_
    refine lv_istore_n (lv' := [(1, .int 64), (0, .ref h)]) hx hb dX0_grow_15 rfl hl (by decide) rfl (fun ls hl => ?_)
    have hw_8 : bWays T h la md wy pc_ f1 f2 f3 f4 f5 f6 n4 [zO0 h md wy la pc_ a1_1 a2_2 a3_3 a4_4 a5_5 a6_6, zAr T 0 a1_1 7 f1, zAr T 0 a2_2 7 f2, zAr T 0 a3_3 7 f3, zAr T 0 a4_4 n4 f4, zAr T 0 a5_5 n4 f5, zAr T 0 a6_6 n4 f6] := ⟨a1_1, a2_2, a3_3, a4_4, a5_5, a6_6, rfl⟩
    have G : zS T A s.heap s [[zO0 h md wy la pc_ a1_1 a2_2 a3_3 a4_4 a5_5 a6_6, zAr T 0 a1_1 7 f1, zAr T 0 a2_2 7 f2, zAr T 0 a3_3 7 f3, zAr T 0 a4_4 n4 f4, zAr T 0 a5_5 n4 f5, zAr T 0 a6_6 n4 f6]] _ _ := G.re rfl
    refine z_lp2 (T := T) 16 (fun (k : Nat) (L : Nat) => [[zO0 h md wy la pc_ a1_1 a2_2 a3_3 a4_4 a5_5 a6_6, zAr T 0 a1_1 7 f1, zAr T 0 a2_2 7 f2, zAr T 0 a3_3 7 f3, zAr T 0 a4_4 n4 f4, zAr T 0 a5_5 n4 f5, zAr T 0 a6_6 n4 f6]]) (fun (k : Nat) (L : Nat) => [(1, .int (nI L)), (0, .ref h)]) (fun (k : Nat) (L : Nat) => k ≤ 11 ∧ L = 64 * 2 ^ k ∧ zLenN pc_ 12 64 = zLenN pc_ (12 - k) L ∧ L ≤ 131072) (fun (k : Nat) (L : Nat) => 12 - k) ?_ 0 64 (show 0 ≤ 11 ∧ 64 = 64 * 2 ^ 0 ∧ zLenN pc_ 12 64 = zLenN pc_ (12 - 0) 64 ∧ 64 ≤ 131072 from ⟨by omega, rfl, rfl, by omega⟩) G (lv_sub hl [0, 1] rfl)
    intro k L hI9 ih_16 H locs ls G hl
    replace hI9 : k ≤ 11 ∧ L = 64 * 2 ^ k ∧ zLenN pc_ 12 64 = zLenN pc_ (12 - k) L ∧ L ≤ 131072 := hI9
    refine zAn4 hI9 ?_
    intro hk hL hG hL2
    clear hI9
    replace G : zS T A s.heap s [[zO0 h md wy la pc_ a1_1 a2_2 a3_3 a4_4 a5_5 a6_6, zAr T 0 a1_1 7 f1, zAr T 0 a2_2 7 f2, zAr T 0 a3_3 7 f3, zAr T 0 a4_4 n4 f4, zAr T 0 a5_5 n4 f5, zAr T 0 a6_6 n4 f6]] _ _ := G
    replace hl : lv_has ls 2 [(1, .int (nI L)), (0, .ref h)] := hl
    refine lv_iload_n hx hb dX0_grow_16 rfl (lv_at hl 0 rfl) ?_
    refine lv_aload_n hx hb dX0_grow_17 rfl (lv_at hl 1 rfl) ?_
    have G : zS T A s.heap s [[zO0 h md wy la pc_ a1_1 a2_2 a3_3 a4_4 a5_5 a6_6], [zAr T 0 a1_1 7 f1], [zAr T 0 a2_2 7 f2], [zAr T 0 a3_3 7 f3], [zAr T 0 a4_4 n4 f4], [zAr T 0 a5_5 n4 f5], [zAr T 0 a6_6 n4 f6]] _ _ := G.re rfl
    refine z_get C G clX0 0 rfl 3 (by decide) m_fl_RX0_75 rfl dX0_grow_18 ?_
    refine lv_icmp_ge (tgt := 37) hx hb dX0_grow_21 (by decide) (fun c_9 => ?_) (fun c_9 => ?_)
    · have c_9n : pc_.toInt ≤ (L : Int) := by have q := (fa_le _ _).mp c_9; rw [nI_toInt (n := L) (by omega)] at q; exact q
      have hF : zLenN pc_ 12 64 = L := by rw [hG, show 12 - k = (11 - k) + 1 by omega, zLenN, if_neg (by omega)]
      have hF2 : zNl n4 pc_ = L := hE.trans hF
      refine lv_aload_n hx hb dX0_grow_37 rfl (lv_at hl 1 rfl) ?_
      refine lv_iload_n hx hb dX0_grow_38 rfl (lv_at hl 0 rfl) ?_
      refine z_newa C G 0 (ty := .int) (N' := L) (a0 := (L, .inl (fun _ => 0))) rfl z_uint m_ar_int rfl (fun _ => rfl) (nI_pos (by omega)) (nI_clamp (by omega)) (by show L * 4 ≤ 536870912; omega) (by show _ ≤ 3; omega) (by show _ ≤ 6 * (zNl n4 pc_ - n4); omega) dX0_grow_39 (fun q_10 H G => ?_)
      have G : zS T A s.heap s [[zO0 h md wy la pc_ a1_1 a2_2 a3_3 a4_4 a5_5 a6_6], [zAr T 0 a1_1 7 f1], [zAr T 0 a2_2 7 f2], [zAr T 0 a3_3 7 f3], [zAr T 0 a4_4 n4 f4], [zAr T 0 a5_5 n4 f5], [zAr T 0 a6_6 n4 f6], [zAr T 0 q_10 L (fun _ => 0)]] _ _ := G
      refine z_put C G clX0 0 rfl 7 (by decide) m_fl_RX0_28 rfl rfl rfl (Nat.le_of_ble_eq_true rfl) dX0_grow_41 (fun H locs G => ?_)
      have G : zS T A s.heap s [[zO0 h md wy la pc_ a1_1 a2_2 a3_3 q_10 a5_5 a6_6], [zAr T 0 a1_1 7 f1], [zAr T 0 a2_2 7 f2], [zAr T 0 a3_3 7 f3], [zAr T 0 a4_4 n4 f4], [zAr T 0 a5_5 n4 f5], [zAr T 0 a6_6 n4 f6], [zAr T 0 q_10 L (fun _ => 0)]] _ _ := G
      refine lv_aload_n hx hb dX0_grow_44 rfl (lv_at hl 1 rfl) ?_
      refine lv_iload_n hx hb dX0_grow_45 rfl (lv_at hl 0 rfl) ?_
      refine z_newa C G 0 (ty := .int) (N' := L) (a0 := (L, .inl (fun _ => 0))) rfl z_uint m_ar_int rfl (fun _ => rfl) (nI_pos (by omega)) (nI_clamp (by omega)) (by show L * 4 ≤ 536870912; omega) (by show _ ≤ 3; omega) (by show _ ≤ 6 * (zNl n4 pc_ - n4); omega) dX0_grow_46 (fun q_11 H G => ?_)
      have G : zS T A s.heap s [[zO0 h md wy la pc_ a1_1 a2_2 a3_3 q_10 a5_5 a6_6], [zAr T 0 a1_1 7 f1], [zAr T 0 a2_2 7 f2], [zAr T 0 a3_3 7 f3], [zAr T 0 a4_4 n4 f4], [zAr T 0 a5_5 n4 f5], [zAr T 0 a6_6 n4 f6], [zAr T 0 q_10 L (fun _ => 0)], [zAr T 0 q_11 L (fun _ => 0)]] _ _ := G
      refine z_put C G clX0 0 rfl 8 (by decide) m_fl_RX0_31 rfl rfl rfl (Nat.le_of_ble_eq_true rfl) dX0_grow_48 (fun H locs G => ?_)
      have G : zS T A s.heap s [[zO0 h md wy la pc_ a1_1 a2_2 a3_3 q_10 q_11 a6_6], [zAr T 0 a1_1 7 f1], [zAr T 0 a2_2 7 f2], [zAr T 0 a3_3 7 f3], [zAr T 0 a4_4 n4 f4], [zAr T 0 a5_5 n4 f5], [zAr T 0 a6_6 n4 f6], [zAr T 0 q_10 L (fun _ => 0)], [zAr T 0 q_11 L (fun _ => 0)]] _ _ := G
      refine lv_aload_n hx hb dX0_grow_51 rfl (lv_at hl 1 rfl) ?_
      refine lv_iload_n hx hb dX0_grow_52 rfl (lv_at hl 0 rfl) ?_
      refine z_newa C G 0 (ty := .int) (N' := L) (a0 := (L, .inl (fun _ => 0))) rfl z_uint m_ar_int rfl (fun _ => rfl) (nI_pos (by omega)) (nI_clamp (by omega)) (by show L * 4 ≤ 536870912; omega) (by show _ ≤ 3; omega) (by show _ ≤ 6 * (zNl n4 pc_ - n4); omega) dX0_grow_53 (fun q_12 H G => ?_)
      have G : zS T A s.heap s [[zO0 h md wy la pc_ a1_1 a2_2 a3_3 q_10 q_11 a6_6], [zAr T 0 a1_1 7 f1], [zAr T 0 a2_2 7 f2], [zAr T 0 a3_3 7 f3], [zAr T 0 a4_4 n4 f4], [zAr T 0 a5_5 n4 f5], [zAr T 0 a6_6 n4 f6], [zAr T 0 q_10 L (fun _ => 0)], [zAr T 0 q_11 L (fun _ => 0)], [zAr T 0 q_12 L (fun _ => 0)]] _ _ := G
      refine z_put C G clX0 0 rfl 9 (by decide) m_fl_RX0_34 rfl rfl rfl (Nat.le_of_ble_eq_true rfl) dX0_grow_55 (fun H locs G => ?_)
      have G : zS T A s.heap s [[zO0 h md wy la pc_ a1_1 a2_2 a3_3 q_10 q_11 q_12], [zAr T 0 a1_1 7 f1], [zAr T 0 a2_2 7 f2], [zAr T 0 a3_3 7 f3], [zAr T 0 a4_4 n4 f4], [zAr T 0 a5_5 n4 f5], [zAr T 0 a6_6 n4 f6], [zAr T 0 q_10 L (fun _ => 0)], [zAr T 0 q_11 L (fun _ => 0)], [zAr T 0 q_12 L (fun _ => 0)]] _ _ := G
      have G := G.sub (bs' := [[zO0 h md wy la pc_ a1_1 a2_2 a3_3 q_10 q_11 q_12], [zAr T 0 a1_1 7 f1], [zAr T 0 a2_2 7 f2], [zAr T 0 a3_3 7 f3], [zAr T 0 q_10 L (fun _ => 0)], [zAr T 0 q_11 L (fun _ => 0)], [zAr T 0 q_12 L (fun _ => 0)], [zAr T 0 a4_4 n4 f4], [zAr T 0 a5_5 n4 f5], [zAr T 0 a6_6 n4 f6]]) [0, 1, 2, 3, 7, 8, 9, 4, 5, 6] rfl
      have hw_13 : bWays T h la md wy pc_ f1 f2 f3 (fun _ => 0) (fun _ => 0) (fun _ => 0) L [zO0 h md wy la pc_ a1_1 a2_2 a3_3 q_10 q_11 q_12, zAr T 0 a1_1 7 f1, zAr T 0 a2_2 7 f2, zAr T 0 a3_3 7 f3, zAr T 0 q_10 L (fun _ => 0), zAr T 0 q_11 L (fun _ => 0), zAr T 0 q_12 L (fun _ => 0)] := ⟨a1_1, a2_2, a3_3, q_10, q_11, q_12, rfl⟩
      have G : zS T A s.heap s [[zO0 h md wy la pc_ a1_1 a2_2 a3_3 q_10 q_11 q_12, zAr T 0 a1_1 7 f1, zAr T 0 a2_2 7 f2, zAr T 0 a3_3 7 f3, zAr T 0 q_10 L (fun _ => 0), zAr T 0 q_11 L (fun _ => 0), zAr T 0 q_12 L (fun _ => 0)], [zAr T 0 a4_4 n4 f4], [zAr T 0 a5_5 n4 f5], [zAr T 0 a6_6 n4 f6]] _ _ := G.re rfl
      have G := G.sub (bs' := [[zO0 h md wy la pc_ a1_1 a2_2 a3_3 q_10 q_11 q_12, zAr T 0 a1_1 7 f1, zAr T 0 a2_2 7 f2, zAr T 0 a3_3 7 f3, zAr T 0 q_10 L (fun _ => 0), zAr T 0 q_11 L (fun _ => 0), zAr T 0 q_12 L (fun _ => 0)]]) [0] rfl
      exact z_back hQ9 (z_vret C hr hlocks G (by omega) (by omega) dX0_grow_58 ⟨([zO0 h md wy la pc_ a1_1 a2_2 a3_3 q_10 q_11 q_12, zAr T 0 a1_1 7 f1, zAr T 0 a2_2 7 f2, zAr T 0 a3_3 7 f3, zAr T 0 q_10 L (fun _ => 0), zAr T 0 q_11 L (fun _ => 0), zAr T 0 q_12 L (fun _ => 0)]), (fun _ => 0), (fun _ => 0), (fun _ => 0), rfl, (hF2.symm ▸ hw_13)⟩)
    · have c_9n : ¬ pc_.toInt ≤ (L : Int) := fun q => c_9 ((fa_le _ _).mpr (by rw [nI_toInt (n := L) (by omega)]; exact q))
      refine lv_iload_n hx hb dX0_grow_24 rfl (lv_at hl 0 rfl) ?_
      refine lv_ldc (v := 131072) hx hb C.2.2.2.1 (C.2.2.2.2 _ m_ko_RX0_71) dX0_grow_25 ?_
      refine lv_icmp_ge (tgt := 37) hx hb dX0_grow_27 (by decide) (fun c_14 => ?_) (fun c_14 => ?_)
      · have c_14n : 131072 ≤ L := (nI_leI (a := 131072) (b := L) (by omega) (by omega)).mp c_14
        have hF : zLenN pc_ 12 64 = L := by rw [hG, show 12 - k = (11 - k) + 1 by omega, zLenN, if_neg (by omega)]
        have hF2 : zNl n4 pc_ = L := hE.trans hF
        refine lv_aload_n hx hb dX0_grow_37 rfl (lv_at hl 1 rfl) ?_
        refine lv_iload_n hx hb dX0_grow_38 rfl (lv_at hl 0 rfl) ?_
        refine z_newa C G 0 (ty := .int) (N' := L) (a0 := (L, .inl (fun _ => 0))) rfl z_uint m_ar_int rfl (fun _ => rfl) (nI_pos (by omega)) (nI_clamp (by omega)) (by show L * 4 ≤ 536870912; omega) (by show _ ≤ 3; omega) (by show _ ≤ 6 * (zNl n4 pc_ - n4); omega) dX0_grow_39 (fun q_15 H G => ?_)
        have G : zS T A s.heap s [[zO0 h md wy la pc_ a1_1 a2_2 a3_3 a4_4 a5_5 a6_6], [zAr T 0 a1_1 7 f1], [zAr T 0 a2_2 7 f2], [zAr T 0 a3_3 7 f3], [zAr T 0 a4_4 n4 f4], [zAr T 0 a5_5 n4 f5], [zAr T 0 a6_6 n4 f6], [zAr T 0 q_15 L (fun _ => 0)]] _ _ := G
        refine z_put C G clX0 0 rfl 7 (by decide) m_fl_RX0_28 rfl rfl rfl (Nat.le_of_ble_eq_true rfl) dX0_grow_41 (fun H locs G => ?_)
        have G : zS T A s.heap s [[zO0 h md wy la pc_ a1_1 a2_2 a3_3 q_15 a5_5 a6_6], [zAr T 0 a1_1 7 f1], [zAr T 0 a2_2 7 f2], [zAr T 0 a3_3 7 f3], [zAr T 0 a4_4 n4 f4], [zAr T 0 a5_5 n4 f5], [zAr T 0 a6_6 n4 f6], [zAr T 0 q_15 L (fun _ => 0)]] _ _ := G
        refine lv_aload_n hx hb dX0_grow_44 rfl (lv_at hl 1 rfl) ?_
        refine lv_iload_n hx hb dX0_grow_45 rfl (lv_at hl 0 rfl) ?_
        refine z_newa C G 0 (ty := .int) (N' := L) (a0 := (L, .inl (fun _ => 0))) rfl z_uint m_ar_int rfl (fun _ => rfl) (nI_pos (by omega)) (nI_clamp (by omega)) (by show L * 4 ≤ 536870912; omega) (by show _ ≤ 3; omega) (by show _ ≤ 6 * (zNl n4 pc_ - n4); omega) dX0_grow_46 (fun q_16 H G => ?_)
        have G : zS T A s.heap s [[zO0 h md wy la pc_ a1_1 a2_2 a3_3 q_15 a5_5 a6_6], [zAr T 0 a1_1 7 f1], [zAr T 0 a2_2 7 f2], [zAr T 0 a3_3 7 f3], [zAr T 0 a4_4 n4 f4], [zAr T 0 a5_5 n4 f5], [zAr T 0 a6_6 n4 f6], [zAr T 0 q_15 L (fun _ => 0)], [zAr T 0 q_16 L (fun _ => 0)]] _ _ := G
        refine z_put C G clX0 0 rfl 8 (by decide) m_fl_RX0_31 rfl rfl rfl (Nat.le_of_ble_eq_true rfl) dX0_grow_48 (fun H locs G => ?_)
        have G : zS T A s.heap s [[zO0 h md wy la pc_ a1_1 a2_2 a3_3 q_15 q_16 a6_6], [zAr T 0 a1_1 7 f1], [zAr T 0 a2_2 7 f2], [zAr T 0 a3_3 7 f3], [zAr T 0 a4_4 n4 f4], [zAr T 0 a5_5 n4 f5], [zAr T 0 a6_6 n4 f6], [zAr T 0 q_15 L (fun _ => 0)], [zAr T 0 q_16 L (fun _ => 0)]] _ _ := G
        refine lv_aload_n hx hb dX0_grow_51 rfl (lv_at hl 1 rfl) ?_
        refine lv_iload_n hx hb dX0_grow_52 rfl (lv_at hl 0 rfl) ?_
        refine z_newa C G 0 (ty := .int) (N' := L) (a0 := (L, .inl (fun _ => 0))) rfl z_uint m_ar_int rfl (fun _ => rfl) (nI_pos (by omega)) (nI_clamp (by omega)) (by show L * 4 ≤ 536870912; omega) (by show _ ≤ 3; omega) (by show _ ≤ 6 * (zNl n4 pc_ - n4); omega) dX0_grow_53 (fun q_17 H G => ?_)
        have G : zS T A s.heap s [[zO0 h md wy la pc_ a1_1 a2_2 a3_3 q_15 q_16 a6_6], [zAr T 0 a1_1 7 f1], [zAr T 0 a2_2 7 f2], [zAr T 0 a3_3 7 f3], [zAr T 0 a4_4 n4 f4], [zAr T 0 a5_5 n4 f5], [zAr T 0 a6_6 n4 f6], [zAr T 0 q_15 L (fun _ => 0)], [zAr T 0 q_16 L (fun _ => 0)], [zAr T 0 q_17 L (fun _ => 0)]] _ _ := G
        refine z_put C G clX0 0 rfl 9 (by decide) m_fl_RX0_34 rfl rfl rfl (Nat.le_of_ble_eq_true rfl) dX0_grow_55 (fun H locs G => ?_)
        have G : zS T A s.heap s [[zO0 h md wy la pc_ a1_1 a2_2 a3_3 q_15 q_16 q_17], [zAr T 0 a1_1 7 f1], [zAr T 0 a2_2 7 f2], [zAr T 0 a3_3 7 f3], [zAr T 0 a4_4 n4 f4], [zAr T 0 a5_5 n4 f5], [zAr T 0 a6_6 n4 f6], [zAr T 0 q_15 L (fun _ => 0)], [zAr T 0 q_16 L (fun _ => 0)], [zAr T 0 q_17 L (fun _ => 0)]] _ _ := G
        have G := G.sub (bs' := [[zO0 h md wy la pc_ a1_1 a2_2 a3_3 q_15 q_16 q_17], [zAr T 0 a1_1 7 f1], [zAr T 0 a2_2 7 f2], [zAr T 0 a3_3 7 f3], [zAr T 0 q_15 L (fun _ => 0)], [zAr T 0 q_16 L (fun _ => 0)], [zAr T 0 q_17 L (fun _ => 0)], [zAr T 0 a4_4 n4 f4], [zAr T 0 a5_5 n4 f5], [zAr T 0 a6_6 n4 f6]]) [0, 1, 2, 3, 7, 8, 9, 4, 5, 6] rfl
        have hw_18 : bWays T h la md wy pc_ f1 f2 f3 (fun _ => 0) (fun _ => 0) (fun _ => 0) L [zO0 h md wy la pc_ a1_1 a2_2 a3_3 q_15 q_16 q_17, zAr T 0 a1_1 7 f1, zAr T 0 a2_2 7 f2, zAr T 0 a3_3 7 f3, zAr T 0 q_15 L (fun _ => 0), zAr T 0 q_16 L (fun _ => 0), zAr T 0 q_17 L (fun _ => 0)] := ⟨a1_1, a2_2, a3_3, q_15, q_16, q_17, rfl⟩
        have G : zS T A s.heap s [[zO0 h md wy la pc_ a1_1 a2_2 a3_3 q_15 q_16 q_17, zAr T 0 a1_1 7 f1, zAr T 0 a2_2 7 f2, zAr T 0 a3_3 7 f3, zAr T 0 q_15 L (fun _ => 0), zAr T 0 q_16 L (fun _ => 0), zAr T 0 q_17 L (fun _ => 0)], [zAr T 0 a4_4 n4 f4], [zAr T 0 a5_5 n4 f5], [zAr T 0 a6_6 n4 f6]] _ _ := G.re rfl
        have G := G.sub (bs' := [[zO0 h md wy la pc_ a1_1 a2_2 a3_3 q_15 q_16 q_17, zAr T 0 a1_1 7 f1, zAr T 0 a2_2 7 f2, zAr T 0 a3_3 7 f3, zAr T 0 q_15 L (fun _ => 0), zAr T 0 q_16 L (fun _ => 0), zAr T 0 q_17 L (fun _ => 0)]]) [0] rfl
        exact z_back hQ9 (z_vret C hr hlocks G (by omega) (by omega) dX0_grow_58 ⟨([zO0 h md wy la pc_ a1_1 a2_2 a3_3 q_15 q_16 q_17, zAr T 0 a1_1 7 f1, zAr T 0 a2_2 7 f2, zAr T 0 a3_3 7 f3, zAr T 0 q_15 L (fun _ => 0), zAr T 0 q_16 L (fun _ => 0), zAr T 0 q_17 L (fun _ => 0)]), (fun _ => 0), (fun _ => 0), (fun _ => 0), rfl, (hF2.symm ▸ hw_18)⟩)
      · have c_14n : ¬ 131072 ≤ L := fun q => c_14 ((nI_leI (a := 131072) (b := L) (by omega) (by omega)).mpr q)
        refine lv_iload_n hx hb dX0_grow_30 rfl (lv_at hl 0 rfl) ?_
        refine lv_iconst (v := 2) hx hb dX0_grow_31 (by decide) ?_
        refine lv_imul hx hb dX0_grow_32 ?_
        refine lv_topi (fun y_19 ey_19 => ?_)
        obtain rfl : y_19 = nI (L * 2) := ey_19.trans (z_imuln L 2 rfl rfl)
        refine lv_istore_n (lv' := [(1, .int (nI (L * 2))), (0, .ref h)]) hx hb dX0_grow_33 rfl hl (by decide) rfl (fun ls hl => ?_)
        refine lv_goto (tgt := 16) hx hb dX0_grow_34 (by decide) ?_
        have hw_20 : bWays T h la md wy pc_ f1 f2 f3 f4 f5 f6 n4 [zO0 h md wy la pc_ a1_1 a2_2 a3_3 a4_4 a5_5 a6_6, zAr T 0 a1_1 7 f1, zAr T 0 a2_2 7 f2, zAr T 0 a3_3 7 f3, zAr T 0 a4_4 n4 f4, zAr T 0 a5_5 n4 f5, zAr T 0 a6_6 n4 f6] := ⟨a1_1, a2_2, a3_3, a4_4, a5_5, a6_6, rfl⟩
        have G : zS T A s.heap s [[zO0 h md wy la pc_ a1_1 a2_2 a3_3 a4_4 a5_5 a6_6, zAr T 0 a1_1 7 f1, zAr T 0 a2_2 7 f2, zAr T 0 a3_3 7 f3, zAr T 0 a4_4 n4 f4, zAr T 0 a5_5 n4 f5, zAr T 0 a6_6 n4 f6]] _ _ := G.re rfl
        exact ih_16 (k + 1) (L * 2) (show (k + 1) ≤ 11 ∧ (L * 2) = 64 * 2 ^ (k + 1) ∧ zLenN pc_ 12 64 = zLenN pc_ (12 - (k + 1)) (L * 2) ∧ (L * 2) ≤ 131072 from ⟨z_k11 hk hL (by omega), by rw [hL, Nat.pow_succ]; omega, by rw [hG, show 12 - k = (12 - (k + 1)) + 1 by omega, zLenN, if_pos ⟨by omega, by omega⟩, Nat.mul_comm], z_k11b hk hL (by omega)⟩) (show 12 - (k + 1) < 12 - k from by omega) _ _ ls G (lv_sub hl [0, 1] rfl)
  · have c_7n : ¬ (n4 : Int) < pc_.toInt := fun q => c_7 ((fa_lt _ _).mpr (by rw [nI_toInt (n := n4) (by omega)]; exact q))
    have hw_21 : bWays T h la md wy pc_ f1 f2 f3 f4 f5 f6 n4 [zO0 h md wy la pc_ a1_1 a2_2 a3_3 a4_4 a5_5 a6_6, zAr T 0 a1_1 7 f1, zAr T 0 a2_2 7 f2, zAr T 0 a3_3 7 f3, zAr T 0 a4_4 n4 f4, zAr T 0 a5_5 n4 f5, zAr T 0 a6_6 n4 f6] := ⟨a1_1, a2_2, a3_3, a4_4, a5_5, a6_6, rfl⟩
    have G : zS T A s.heap s [[zO0 h md wy la pc_ a1_1 a2_2 a3_3 a4_4 a5_5 a6_6, zAr T 0 a1_1 7 f1, zAr T 0 a2_2 7 f2, zAr T 0 a3_3 7 f3, zAr T 0 a4_4 n4 f4, zAr T 0 a5_5 n4 f5, zAr T 0 a6_6 n4 f6]] _ _ := G.re rfl
    exact z_back hQ9 (z_vret C hr hlocks G (by omega) (by omega) dX0_grow_12 ⟨([zO0 h md wy la pc_ a1_1 a2_2 a3_3 a4_4 a5_5 a6_6, zAr T 0 a1_1 7 f1, zAr T 0 a2_2 7 f2, zAr T 0 a3_3 7 f3, zAr T 0 a4_4 n4 f4, zAr T 0 a5_5 n4 f5, zAr T 0 a6_6 n4 f6]), f4, f5, f6, rfl, ((show n4 = zNl n4 pc_ from by unfold zNl; rw [if_pos (by omega)]) ▸ hw_21)⟩)
set_option maxHeartbeats 4000000 in
set_option maxRecDepth 100000 in
/-- nextRow -/
theorem c_nextRow (l : Launch) (T : zTy) (h : Nat) (la : Nat) (md : Int32) (wy : Int32) (pc_ : Int32) (f1 : Nat → Int32) (f2 : Nat → Int32) (f3 : Nat → Int32) (f4 : Nat → Int32) (f5 : Nat → Int32) (f6 : Nat → Int32) (n4 : Nat) (ww : va_W) (hww : bWays T h la md wy pc_ f1 f2 f3 f4 f5 f6 n4 ww) : zMv l T yX0_nextRow cX0_nextRow 2 1 0 0 [.ref h] [ww] (fun bs => ∃ (w2 : va_W) (g3 : Nat → Int32), bs = [w2] ∧ bWays T h la md wy pc_ f1 f2 g3 f4 f5 f6 n4 w2) := by
  refine zMv_of (own := RX0) (by decide) rfl (Nat.le_of_ble_eq_true rfl) ?_
  intro p e s m args below meth c A ls C hr hlocks hnm hAe G hl
  refine zHide (fun Q9 hQ9 => ?_)
  have hx := C.1
  have hb := C.2.1
  have hl : lv_has ls 2 [(0, .ref h)] := hl
  refine lv_bipush (v := 6) hx hb dX0_nextRow_0 (by decide) ?_
  refine lv_istore_n (lv' := [(1, .int 6), (0, .ref h)]) hx hb dX0_nextRow_2 rfl hl (by decide) rfl (fun ls hl => ?_)
  refine lv_iload_n hx hb dX0_nextRow_3 rfl (lv_at hl 0 rfl) ?_
  refine lv_if_lt (tgt := 46) hx hb dX0_nextRow_4 (by decide) (fun q => absurd q (by decide)) (fun _ => ?_)
  refine lv_aload_n hx hb dX0_nextRow_7 rfl (lv_at hl 1 rfl) ?_
  refine zEx6 hww ?_
  intro a1_1 a2_2 a3_3 a4_4 a5_5 a6_6 hbs9
  clear hww
  subst hbs9
  have G : zS T A s.heap s [[zO0 h md wy la pc_ a1_1 a2_2 a3_3 a4_4 a5_5 a6_6], [zAr T 0 a1_1 7 f1], [zAr T 0 a2_2 7 f2], [zAr T 0 a3_3 7 f3], [zAr T 0 a4_4 n4 f4], [zAr T 0 a5_5 n4 f5], [zAr T 0 a6_6 n4 f6]] _ _ := G.re rfl
  refine z_get C G clX0 0 rfl 6 (by decide) m_fl_RX0_25 rfl dX0_nextRow_8 ?_
  refine lv_iload_n hx hb dX0_nextRow_11 rfl (lv_at hl 0 rfl) ?_
  refine lv_dup2_11 hx hb dX0_nextRow_12 rfl rfl ?_
  refine z_ild C G 3 rfl (vp_in_nI (n := 6) (by decide) (by decide)) dX0_nextRow_13 ?_
  refine lv_topi (fun v_7 ev_7 => ?_)
  rw [show ((6 : Int32).toNatClampNeg) = 6 from rfl] at ev_7
  subst ev_7
  refine lv_iconst (v := 1) hx hb dX0_nextRow_14 (by decide) ?_
  refine lv_iadd hx hb dX0_nextRow_15 ?_
  refine z_ist C G 3 rfl (vp_in_nI (n := 6) (by decide) (by decide)) dX0_nextRow_16 (fun H locs G => ?_)
  have G : zS T A s.heap s [[zO0 h md wy la pc_ a1_1 a2_2 a3_3 a4_4 a5_5 a6_6], [zAr T 0 a1_1 7 f1], [zAr T 0 a2_2 7 f2], [zAr T 0 a3_3 7 (upd f3 6 ((f3 6) + 1))], [zAr T 0 a4_4 n4 f4], [zAr T 0 a5_5 n4 f5], [zAr T 0 a6_6 n4 f6]] _ _ := G
  refine lv_aload_n hx hb dX0_nextRow_17 rfl (lv_at hl 1 rfl) ?_
  refine z_get C G clX0 0 rfl 6 (by decide) m_fl_RX0_25 rfl dX0_nextRow_18 ?_
  refine lv_iload_n hx hb dX0_nextRow_21 rfl (lv_at hl 0 rfl) ?_
  refine z_ild C G 3 rfl (vp_in_nI (n := 6) (by decide) (by decide)) dX0_nextRow_22 ?_
  refine lv_topi (fun v_8 ev_8 => ?_)
  have ev_8 : v_8 = (f3 6) + 1 := ev_8
  subst ev_8
  refine lv_aload_n hx hb dX0_nextRow_23 rfl (lv_at hl 1 rfl) ?_
  refine z_get C G clX0 0 rfl 4 (by decide) m_fl_RX0_18 rfl dX0_nextRow_24 ?_
  refine lv_iload_n hx hb dX0_nextRow_27 rfl (lv_at hl 0 rfl) ?_
  refine z_ild C G 1 rfl (vp_in_nI (n := 6) (by decide) (by decide)) dX0_nextRow_28 ?_
  refine lv_topi (fun v_9 ev_9 => ?_)
  rw [show ((6 : Int32).toNatClampNeg) = 6 from rfl] at ev_9
  subst ev_9
  refine lv_icmp_ge (tgt := 33) hx hb dX0_nextRow_29 (by decide) (fun c_10 => ?_) (fun c_10 => ?_)
  · have c_10n : (f1 6).toInt ≤ ((f3 6) + 1).toInt := (fa_le _ _).mp c_10
    refine lv_aload_n hx hb dX0_nextRow_33 rfl (lv_at hl 1 rfl) ?_
    refine z_get C G clX0 0 rfl 6 (by decide) m_fl_RX0_25 rfl dX0_nextRow_34 ?_
    refine lv_iload_n hx hb dX0_nextRow_37 rfl (lv_at hl 0 rfl) ?_
    refine lv_iconst (v := 0) hx hb dX0_nextRow_38 (by decide) ?_
    refine z_ist C G 3 rfl (vp_in_nI (n := 6) (by decide) (by decide)) dX0_nextRow_39 (fun H locs G => ?_)
    have G : zS T A s.heap s [[zO0 h md wy la pc_ a1_1 a2_2 a3_3 a4_4 a5_5 a6_6], [zAr T 0 a1_1 7 f1], [zAr T 0 a2_2 7 f2], [zAr T 0 a3_3 7 (upd (upd f3 6 ((f3 6) + 1)) 6 0)], [zAr T 0 a4_4 n4 f4], [zAr T 0 a5_5 n4 f5], [zAr T 0 a6_6 n4 f6]] _ _ := G
    refine lv_iinc (v := 5) (lv' := [(1, .int 5), (0, .ref h)]) hx hb dX0_nextRow_40 hl (k := 0) rfl (by decide) (by decide) rfl (fun ls hl => ?_)
    refine lv_goto (tgt := 3) hx hb dX0_nextRow_43 (by decide) ?_
    refine lv_iload_n hx hb dX0_nextRow_3 rfl (lv_at hl 0 rfl) ?_
    refine lv_if_lt (tgt := 46) hx hb dX0_nextRow_4 (by decide) (fun q => absurd q (by decide)) (fun _ => ?_)
    refine lv_aload_n hx hb dX0_nextRow_7 rfl (lv_at hl 1 rfl) ?_
    refine z_get C G clX0 0 rfl 6 (by decide) m_fl_RX0_25 rfl dX0_nextRow_8 ?_
    refine lv_iload_n hx hb dX0_nextRow_11 rfl (lv_at hl 0 rfl) ?_
    refine lv_dup2_11 hx hb dX0_nextRow_12 rfl rfl ?_
    refine z_ild C G 3 rfl (vp_in_nI (n := 5) (by decide) (by decide)) dX0_nextRow_13 ?_
    refine lv_topi (fun v_11 ev_11 => ?_)
    rw [show ((5 : Int32).toNatClampNeg) = 5 from rfl] at ev_11
    subst ev_11
    refine lv_iconst (v := 1) hx hb dX0_nextRow_14 (by decide) ?_
    refine lv_iadd hx hb dX0_nextRow_15 ?_
    refine z_ist C G 3 rfl (vp_in_nI (n := 5) (by decide) (by decide)) dX0_nextRow_16 (fun H locs G => ?_)
    have G : zS T A s.heap s [[zO0 h md wy la pc_ a1_1 a2_2 a3_3 a4_4 a5_5 a6_6], [zAr T 0 a1_1 7 f1], [zAr T 0 a2_2 7 f2], [zAr T 0 a3_3 7 (upd (upd (upd f3 6 ((f3 6) + 1)) 6 0) 5 (((upd (upd f3 6 ((f3 6) + 1)) 6 0) 5) + 1))], [zAr T 0 a4_4 n4 f4], [zAr T 0 a5_5 n4 f5], [zAr T 0 a6_6 n4 f6]] _ _ := G
    refine lv_aload_n hx hb dX0_nextRow_17 rfl (lv_at hl 1 rfl) ?_
    refine z_get C G clX0 0 rfl 6 (by decide) m_fl_RX0_25 rfl dX0_nextRow_18 ?_
    refine lv_iload_n hx hb dX0_nextRow_21 rfl (lv_at hl 0 rfl) ?_
    refine z_ild C G 3 rfl (vp_in_nI (n := 5) (by decide) (by decide)) dX0_nextRow_22 ?_
    refine lv_topi (fun v_12 ev_12 => ?_)
    have ev_12 : v_12 = ((upd (upd f3 6 ((f3 6) + 1)) 6 0) 5) + 1 := ev_12
    subst ev_12
    refine lv_aload_n hx hb dX0_nextRow_23 rfl (lv_at hl 1 rfl) ?_
    refine z_get C G clX0 0 rfl 4 (by decide) m_fl_RX0_18 rfl dX0_nextRow_24 ?_
    refine lv_iload_n hx hb dX0_nextRow_27 rfl (lv_at hl 0 rfl) ?_
    refine z_ild C G 1 rfl (vp_in_nI (n := 5) (by decide) (by decide)) dX0_nextRow_28 ?_
    refine lv_topi (fun v_13 ev_13 => ?_)
    rw [show ((5 : Int32).toNatClampNeg) = 5 from rfl] at ev_13
    subst ev_13
    refine lv_icmp_ge (tgt := 33) hx hb dX0_nextRow_29 (by decide) (fun c_14 => ?_) (fun c_14 => ?_)
    · have c_14n : (f1 5).toInt ≤ (((upd (upd f3 6 ((f3 6) + 1)) 6 0) 5) + 1).toInt := (fa_le _ _).mp c_14
      refine lv_aload_n hx hb dX0_nextRow_33 rfl (lv_at hl 1 rfl) ?_
      refine z_get C G clX0 0 rfl 6 (by decide) m_fl_RX0_25 rfl dX0_nextRow_34 ?_
      refine lv_iload_n hx hb dX0_nextRow_37 rfl (lv_at hl 0 rfl) ?_
      refine lv_iconst (v := 0) hx hb dX0_nextRow_38 (by decide) ?_
      refine z_ist C G 3 rfl (vp_in_nI (n := 5) (by decide) (by decide)) dX0_nextRow_39 (fun H locs G => ?_)
      have G : zS T A s.heap s [[zO0 h md wy la pc_ a1_1 a2_2 a3_3 a4_4 a5_5 a6_6], [zAr T 0 a1_1 7 f1], [zAr T 0 a2_2 7 f2], [zAr T 0 a3_3 7 (upd (upd (upd (upd f3 6 ((f3 6) + 1)) 6 0) 5 (((upd (upd f3 6 ((f3 6) + 1)) 6 0) 5) + 1)) 5 0)], [zAr T 0 a4_4 n4 f4], [zAr T 0 a5_5 n4 f5], [zAr T 0 a6_6 n4 f6]] _ _ := G
      refine lv_iinc (v := 4) (lv' := [(1, .int 4), (0, .ref h)]) hx hb dX0_nextRow_40 hl (k := 0) rfl (by decide) (by decide) rfl (fun ls hl => ?_)
      refine lv_goto (tgt := 3) hx hb dX0_nextRow_43 (by decide) ?_
      refine lv_iload_n hx hb dX0_nextRow_3 rfl (lv_at hl 0 rfl) ?_
      refine lv_if_lt (tgt := 46) hx hb dX0_nextRow_4 (by decide) (fun q => absurd q (by decide)) (fun _ => ?_)
      refine lv_aload_n hx hb dX0_nextRow_7 rfl (lv_at hl 1 rfl) ?_
      refine z_get C G clX0 0 rfl 6 (by decide) m_fl_RX0_25 rfl dX0_nextRow_8 ?_
      refine lv_iload_n hx hb dX0_nextRow_11 rfl (lv_at hl 0 rfl) ?_
      refine lv_dup2_11 hx hb dX0_nextRow_12 rfl rfl ?_
      refine z_ild C G 3 rfl (vp_in_nI (n := 4) (by decide) (by decide)) dX0_nextRow_13 ?_
      refine lv_topi (fun v_15 ev_15 => ?_)
      rw [show ((4 : Int32).toNatClampNeg) = 4 from rfl] at ev_15
      subst ev_15
      refine lv_iconst (v := 1) hx hb dX0_nextRow_14 (by decide) ?_
      refine lv_iadd hx hb dX0_nextRow_15 ?_
      refine z_ist C G 3 rfl (vp_in_nI (n := 4) (by decide) (by decide)) dX0_nextRow_16 (fun H locs G => ?_)
      have G : zS T A s.heap s [[zO0 h md wy la pc_ a1_1 a2_2 a3_3 a4_4 a5_5 a6_6], [zAr T 0 a1_1 7 f1], [zAr T 0 a2_2 7 f2], [zAr T 0 a3_3 7 (upd (upd (upd (upd (upd f3 6 ((f3 6) + 1)) 6 0) 5 (((upd (upd f3 6 ((f3 6) + 1)) 6 0) 5) + 1)) 5 0) 4 (((upd (upd (upd (upd f3 6 ((f3 6) + 1)) 6 0) 5 (((upd (upd f3 6 ((f3 6) + 1)) 6 0) 5) + 1)) 5 0) 4) + 1))], [zAr T 0 a4_4 n4 f4], [zAr T 0 a5_5 n4 f5], [zAr T 0 a6_6 n4 f6]] _ _ := G
      refine lv_aload_n hx hb dX0_nextRow_17 rfl (lv_at hl 1 rfl) ?_
      refine z_get C G clX0 0 rfl 6 (by decide) m_fl_RX0_25 rfl dX0_nextRow_18 ?_
      refine lv_iload_n hx hb dX0_nextRow_21 rfl (lv_at hl 0 rfl) ?_
      refine z_ild C G 3 rfl (vp_in_nI (n := 4) (by decide) (by decide)) dX0_nextRow_22 ?_
      refine lv_topi (fun v_16 ev_16 => ?_)
      have ev_16 : v_16 = ((upd (upd (upd (upd f3 6 ((f3 6) + 1)) 6 0) 5 (((upd (upd f3 6 ((f3 6) + 1)) 6 0) 5) + 1)) 5 0) 4) + 1 := ev_16
      subst ev_16
      refine lv_aload_n hx hb dX0_nextRow_23 rfl (lv_at hl 1 rfl) ?_
      refine z_get C G clX0 0 rfl 4 (by decide) m_fl_RX0_18 rfl dX0_nextRow_24 ?_
      refine lv_iload_n hx hb dX0_nextRow_27 rfl (lv_at hl 0 rfl) ?_
      refine z_ild C G 1 rfl (vp_in_nI (n := 4) (by decide) (by decide)) dX0_nextRow_28 ?_
      refine lv_topi (fun v_17 ev_17 => ?_)
      rw [show ((4 : Int32).toNatClampNeg) = 4 from rfl] at ev_17
      subst ev_17
      refine lv_icmp_ge (tgt := 33) hx hb dX0_nextRow_29 (by decide) (fun c_18 => ?_) (fun c_18 => ?_)
      · have c_18n : (f1 4).toInt ≤ (((upd (upd (upd (upd f3 6 ((f3 6) + 1)) 6 0) 5 (((upd (upd f3 6 ((f3 6) + 1)) 6 0) 5) + 1)) 5 0) 4) + 1).toInt := (fa_le _ _).mp c_18
        refine lv_aload_n hx hb dX0_nextRow_33 rfl (lv_at hl 1 rfl) ?_
        refine z_get C G clX0 0 rfl 6 (by decide) m_fl_RX0_25 rfl dX0_nextRow_34 ?_
        refine lv_iload_n hx hb dX0_nextRow_37 rfl (lv_at hl 0 rfl) ?_
        refine lv_iconst (v := 0) hx hb dX0_nextRow_38 (by decide) ?_
        refine z_ist C G 3 rfl (vp_in_nI (n := 4) (by decide) (by decide)) dX0_nextRow_39 (fun H locs G => ?_)
        have G : zS T A s.heap s [[zO0 h md wy la pc_ a1_1 a2_2 a3_3 a4_4 a5_5 a6_6], [zAr T 0 a1_1 7 f1], [zAr T 0 a2_2 7 f2], [zAr T 0 a3_3 7 (upd (upd (upd (upd (upd (upd f3 6 ((f3 6) + 1)) 6 0) 5 (((upd (upd f3 6 ((f3 6) + 1)) 6 0) 5) + 1)) 5 0) 4 (((upd (upd (upd (upd f3 6 ((f3 6) + 1)) 6 0) 5 (((upd (upd f3 6 ((f3 6) + 1)) 6 0) 5) + 1)) 5 0) 4) + 1)) 4 0)], [zAr T 0 a4_4 n4 f4], [zAr T 0 a5_5 n4 f5], [zAr T 0 a6_6 n4 f6]] _ _ := G
        refine lv_iinc (v := 3) (lv' := [(1, .int 3), (0, .ref h)]) hx hb dX0_nextRow_40 hl (k := 0) rfl (by decide) (by decide) rfl (fun ls hl => ?_)
        refine lv_goto (tgt := 3) hx hb dX0_nextRow_43 (by decide) ?_
        refine lv_iload_n hx hb dX0_nextRow_3 rfl (lv_at hl 0 rfl) ?_
        refine lv_if_lt (tgt := 46) hx hb dX0_nextRow_4 (by decide) (fun q => absurd q (by decide)) (fun _ => ?_)
        refine lv_aload_n hx hb dX0_nextRow_7 rfl (lv_at hl 1 rfl) ?_
        refine z_get C G clX0 0 rfl 6 (by decide) m_fl_RX0_25 rfl dX0_nextRow_8 ?_
        refine lv_iload_n hx hb dX0_nextRow_11 rfl (lv_at hl 0 rfl) ?_
        refine lv_dup2_11 hx hb dX0_nextRow_12 rfl rfl ?_
        refine z_ild C G 3 rfl (vp_in_nI (n := 3) (by decide) (by decide)) dX0_nextRow_13 ?_
        refine lv_topi (fun v_19 ev_19 => ?_)
        rw [show ((3 : Int32).toNatClampNeg) = 3 from rfl] at ev_19
        subst ev_19
        refine lv_iconst (v := 1) hx hb dX0_nextRow_14 (by decide) ?_
        refine lv_iadd hx hb dX0_nextRow_15 ?_
        refine z_ist C G 3 rfl (vp_in_nI (n := 3) (by decide) (by decide)) dX0_nextRow_16 (fun H locs G => ?_)
        have G : zS T A s.heap s [[zO0 h md wy la pc_ a1_1 a2_2 a3_3 a4_4 a5_5 a6_6], [zAr T 0 a1_1 7 f1], [zAr T 0 a2_2 7 f2], [zAr T 0 a3_3 7 (upd (upd (upd (upd (upd (upd (upd f3 6 ((f3 6) + 1)) 6 0) 5 (((upd (upd f3 6 ((f3 6) + 1)) 6 0) 5) + 1)) 5 0) 4 (((upd (upd (upd (upd f3 6 ((f3 6) + 1)) 6 0) 5 (((upd (upd f3 6 ((f3 6) + 1)) 6 0) 5) + 1)) 5 0) 4) + 1)) 4 0) 3 (((upd (upd (upd (upd (upd (upd f3 6 ((f3 6) + 1)) 6 0) 5 (((upd (upd f3 6 ((f3 6) + 1)) 6 0) 5) + 1)) 5 0) 4 (((upd (upd (upd (upd f3 6 ((f3 6) + 1)) 6 0) 5 (((upd (upd f3 6 ((f3 6) + 1)) 6 0) 5) + 1)) 5 0) 4) + 1)) 4 0) 3) + 1))], [zAr T 0 a4_4 n4 f4], [zAr T 0 a5_5 n4 f5], [zAr T 0 a6_6 n4 f6]] _ _ := G
        refine lv_aload_n hx hb dX0_nextRow_17 rfl (lv_at hl 1 rfl) ?_
        refine z_get C G clX0 0 rfl 6 (by decide) m_fl_RX0_25 rfl dX0_nextRow_18 ?_
        refine lv_iload_n hx hb dX0_nextRow_21 rfl (lv_at hl 0 rfl) ?_
        refine z_ild C G 3 rfl (vp_in_nI (n := 3) (by decide) (by decide)) dX0_nextRow_22 ?_
        refine lv_topi (fun v_20 ev_20 => ?_)
        have ev_20 : v_20 = ((upd (upd (upd (upd (upd (upd f3 6 ((f3 6) + 1)) 6 0) 5 (((upd (upd f3 6 ((f3 6) + 1)) 6 0) 5) + 1)) 5 0) 4 (((upd (upd (upd (upd f3 6 ((f3 6) + 1)) 6 0) 5 (((upd (upd f3 6 ((f3 6) + 1)) 6 0) 5) + 1)) 5 0) 4) + 1)) 4 0) 3) + 1 := ev_20
        subst ev_20
        refine lv_aload_n hx hb dX0_nextRow_23 rfl (lv_at hl 1 rfl) ?_
        refine z_get C G clX0 0 rfl 4 (by decide) m_fl_RX0_18 rfl dX0_nextRow_24 ?_
        refine lv_iload_n hx hb dX0_nextRow_27 rfl (lv_at hl 0 rfl) ?_
        refine z_ild C G 1 rfl (vp_in_nI (n := 3) (by decide) (by decide)) dX0_nextRow_28 ?_
        refine lv_topi (fun v_21 ev_21 => ?_)
        rw [show ((3 : Int32).toNatClampNeg) = 3 from rfl] at ev_21
        subst ev_21
        refine lv_icmp_ge (tgt := 33) hx hb dX0_nextRow_29 (by decide) (fun c_22 => ?_) (fun c_22 => ?_)
        · have c_22n : (f1 3).toInt ≤ (((upd (upd (upd (upd (upd (upd f3 6 ((f3 6) + 1)) 6 0) 5 (((upd (upd f3 6 ((f3 6) + 1)) 6 0) 5) + 1)) 5 0) 4 (((upd (upd (upd (upd f3 6 ((f3 6) + 1)) 6 0) 5 (((upd (upd f3 6 ((f3 6) + 1)) 6 0) 5) + 1)) 5 0) 4) + 1)) 4 0) 3) + 1).toInt := (fa_le _ _).mp c_22
          refine lv_aload_n hx hb dX0_nextRow_33 rfl (lv_at hl 1 rfl) ?_
          refine z_get C G clX0 0 rfl 6 (by decide) m_fl_RX0_25 rfl dX0_nextRow_34 ?_
          refine lv_iload_n hx hb dX0_nextRow_37 rfl (lv_at hl 0 rfl) ?_
          refine lv_iconst (v := 0) hx hb dX0_nextRow_38 (by decide) ?_
          refine z_ist C G 3 rfl (vp_in_nI (n := 3) (by decide) (by decide)) dX0_nextRow_39 (fun H locs G => ?_)
          have G : zS T A s.heap s [[zO0 h md wy la pc_ a1_1 a2_2 a3_3 a4_4 a5_5 a6_6], [zAr T 0 a1_1 7 f1], [zAr T 0 a2_2 7 f2], [zAr T 0 a3_3 7 (upd (upd (upd (upd (upd (upd (upd (upd f3 6 ((f3 6) + 1)) 6 0) 5 (((upd (upd f3 6 ((f3 6) + 1)) 6 0) 5) + 1)) 5 0) 4 (((upd (upd (upd (upd f3 6 ((f3 6) + 1)) 6 0) 5 (((upd (upd f3 6 ((f3 6) + 1)) 6 0) 5) + 1)) 5 0) 4) + 1)) 4 0) 3 (((upd (upd (upd (upd (upd (upd f3 6 ((f3 6) + 1)) 6 0) 5 (((upd (upd f3 6 ((f3 6) + 1)) 6 0) 5) + 1)) 5 0) 4 (((upd (upd (upd (upd f3 6 ((f3 6) + 1)) 6 0) 5 (((upd (upd f3 6 ((f3 6) + 1)) 6 0) 5) + 1)) 5 0) 4) + 1)) 4 0) 3) + 1)) 3 0)], [zAr T 0 a4_4 n4 f4], [zAr T 0 a5_5 n4 f5], [zAr T 0 a6_6 n4 f6]] _ _ := G
          refine lv_iinc (v := 2) (lv' := [(1, .int 2), (0, .ref h)]) hx hb dX0_nextRow_40 hl (k := 0) rfl (by decide) (by decide) rfl (fun ls hl => ?_)
          refine lv_goto (tgt := 3) hx hb dX0_nextRow_43 (by decide) ?_
          refine lv_iload_n hx hb dX0_nextRow_3 rfl (lv_at hl 0 rfl) ?_
          refine lv_if_lt (tgt := 46) hx hb dX0_nextRow_4 (by decide) (fun q => absurd q (by decide)) (fun _ => ?_)
          refine lv_aload_n hx hb dX0_nextRow_7 rfl (lv_at hl 1 rfl) ?_
          refine z_get C G clX0 0 rfl 6 (by decide) m_fl_RX0_25 rfl dX0_nextRow_8 ?_
          refine lv_iload_n hx hb dX0_nextRow_11 rfl (lv_at hl 0 rfl) ?_
          refine lv_dup2_11 hx hb dX0_nextRow_12 rfl rfl ?_
          refine z_ild C G 3 rfl (vp_in_nI (n := 2) (by decide) (by decide)) dX0_nextRow_13 ?_
          refine lv_topi (fun v_23 ev_23 => ?_)
          rw [show ((2 : Int32).toNatClampNeg) = 2 from rfl] at ev_23
          subst ev_23
          refine lv_iconst (v := 1) hx hb dX0_nextRow_14 (by decide) ?_
          refine lv_iadd hx hb dX0_nextRow_15 ?_
          refine z_ist C G 3 rfl (vp_in_nI (n := 2) (by decide) (by decide)) dX0_nextRow_16 (fun H locs G => ?_)
          have G : zS T A s.heap s [[zO0 h md wy la pc_ a1_1 a2_2 a3_3 a4_4 a5_5 a6_6], [zAr T 0 a1_1 7 f1], [zAr T 0 a2_2 7 f2], [zAr T 0 a3_3 7 (upd (upd (upd (upd (upd (upd (upd (upd (upd f3 6 ((f3 6) + 1)) 6 0) 5 (((upd (upd f3 6 ((f3 6) + 1)) 6 0) 5) + 1)) 5 0) 4 (((upd (upd (upd (upd f3 6 ((f3 6) + 1)) 6 0) 5 (((upd (upd f3 6 ((f3 6) + 1)) 6 0) 5) + 1)) 5 0) 4) + 1)) 4 0) 3 (((upd (upd (upd (upd (upd (upd f3 6 ((f3 6) + 1)) 6 0) 5 (((upd (upd f3 6 ((f3 6) + 1)) 6 0) 5) + 1)) 5 0) 4 (((upd (upd (upd (upd f3 6 ((f3 6) + 1)) 6 0) 5 (((upd (upd f3 6 ((f3 6) + 1)) 6 0) 5) + 1)) 5 0) 4) + 1)) 4 0) 3) + 1)) 3 0) 2 (((upd (upd (upd (upd (upd (upd (upd (upd f3 6 ((f3 6) + 1)) 6 0) 5 (((upd (upd f3 6 ((f3 6) + 1)) 6 0) 5) + 1)) 5 0) 4 (((upd (upd (upd (upd f3 6 ((f3 6) + 1)) 6 0) 5 (((upd (upd f3 6 ((f3 6) + 1)) 6 0) 5) + 1)) 5 0) 4) + 1)) 4 0) 3 (((upd (upd (upd (upd (upd (upd f3 6 ((f3 6) + 1)) 6 0) 5 (((upd (upd f3 6 ((f3 6) + 1)) 6 0) 5) + 1)) 5 0) 4 (((upd (upd (upd (upd f3 6 ((f3 6) + 1)) 6 0) 5 (((upd (upd f3 6 ((f3 6) + 1)) 6 0) 5) + 1)) 5 0) 4) + 1)) 4 0) 3) + 1)) 3 0) 2) + 1))], [zAr T 0 a4_4 n4 f4], [zAr T 0 a5_5 n4 f5], [zAr T 0 a6_6 n4 f6]] _ _ := G
          refine lv_aload_n hx hb dX0_nextRow_17 rfl (lv_at hl 1 rfl) ?_
          refine z_get C G clX0 0 rfl 6 (by decide) m_fl_RX0_25 rfl dX0_nextRow_18 ?_
          refine lv_iload_n hx hb dX0_nextRow_21 rfl (lv_at hl 0 rfl) ?_
          refine z_ild C G 3 rfl (vp_in_nI (n := 2) (by decide) (by decide)) dX0_nextRow_22 ?_
          refine lv_topi (fun v_24 ev_24 => ?_)
          have ev_24 : v_24 = ((upd (upd (upd (upd (upd (upd (upd (upd f3 6 ((f3 6) + 1)) 6 0) 5 (((upd (upd f3 6 ((f3 6) + 1)) 6 0) 5) + 1)) 5 0) 4 (((upd (upd (upd (upd f3 6 ((f3 6) + 1)) 6 0) 5 (((upd (upd f3 6 ((f3 6) + 1)) 6 0) 5) + 1)) 5 0) 4) + 1)) 4 0) 3 (((upd (upd (upd (upd (upd (upd f3 6 ((f3 6) + 1)) 6 0) 5 (((upd (upd f3 6 ((f3 6) + 1)) 6 0) 5) + 1)) 5 0) 4 (((upd (upd (upd (upd f3 6 ((f3 6) + 1)) 6 0) 5 (((upd (upd f3 6 ((f3 6) + 1)) 6 0) 5) + 1)) 5 0) 4) + 1)) 4 0) 3) + 1)) 3 0) 2) + 1 := ev_24
          subst ev_24
          refine lv_aload_n hx hb dX0_nextRow_23 rfl (lv_at hl 1 rfl) ?_
          refine z_get C G clX0 0 rfl 4 (by decide) m_fl_RX0_18 rfl dX0_nextRow_24 ?_
          refine lv_iload_n hx hb dX0_nextRow_27 rfl (lv_at hl 0 rfl) ?_
          refine z_ild C G 1 rfl (vp_in_nI (n := 2) (by decide) (by decide)) dX0_nextRow_28 ?_
          refine lv_topi (fun v_25 ev_25 => ?_)
          rw [show ((2 : Int32).toNatClampNeg) = 2 from rfl] at ev_25
          subst ev_25
          refine lv_icmp_ge (tgt := 33) hx hb dX0_nextRow_29 (by decide) (fun c_26 => ?_) (fun c_26 => ?_)
          · have c_26n : (f1 2).toInt ≤ (((upd (upd (upd (upd (upd (upd (upd (upd f3 6 ((f3 6) + 1)) 6 0) 5 (((upd (upd f3 6 ((f3 6) + 1)) 6 0) 5) + 1)) 5 0) 4 (((upd (upd (upd (upd f3 6 ((f3 6) + 1)) 6 0) 5 (((upd (upd f3 6 ((f3 6) + 1)) 6 0) 5) + 1)) 5 0) 4) + 1)) 4 0) 3 (((upd (upd (upd (upd (upd (upd f3 6 ((f3 6) + 1)) 6 0) 5 (((upd (upd f3 6 ((f3 6) + 1)) 6 0) 5) + 1)) 5 0) 4 (((upd (upd (upd (upd f3 6 ((f3 6) + 1)) 6 0) 5 (((upd (upd f3 6 ((f3 6) + 1)) 6 0) 5) + 1)) 5 0) 4) + 1)) 4 0) 3) + 1)) 3 0) 2) + 1).toInt := (fa_le _ _).mp c_26
            refine lv_aload_n hx hb dX0_nextRow_33 rfl (lv_at hl 1 rfl) ?_
            refine z_get C G clX0 0 rfl 6 (by decide) m_fl_RX0_25 rfl dX0_nextRow_34 ?_
            refine lv_iload_n hx hb dX0_nextRow_37 rfl (lv_at hl 0 rfl) ?_
            refine lv_iconst (v := 0) hx hb dX0_nextRow_38 (by decide) ?_
            refine z_ist C G 3 rfl (vp_in_nI (n := 2) (by decide) (by decide)) dX0_nextRow_39 (fun H locs G => ?_)
            have G : zS T A s.heap s [[zO0 h md wy la pc_ a1_1 a2_2 a3_3 a4_4 a5_5 a6_6], [zAr T 0 a1_1 7 f1], [zAr T 0 a2_2 7 f2], [zAr T 0 a3_3 7 (upd (upd (upd (upd (upd (upd (upd (upd (upd (upd f3 6 ((f3 6) + 1)) 6 0) 5 (((upd (upd f3 6 ((f3 6) + 1)) 6 0) 5) + 1)) 5 0) 4 (((upd (upd (upd (upd f3 6 ((f3 6) + 1)) 6 0) 5 (((upd (upd f3 6 ((f3 6) + 1)) 6 0) 5) + 1)) 5 0) 4) + 1)) 4 0) 3 (((upd (upd (upd (upd (upd (upd f3 6 ((f3 6) + 1)) 6 0) 5 (((upd (upd f3 6 ((f3 6) + 1)) 6 0) 5) + 1)) 5 0) 4 (((upd (upd (upd (upd f3 6 ((f3 6) + 1)) 6 0) 5 (((upd (upd f3 6 ((f3 6) + 1)) 6 0) 5) + 1)) 5 0) 4) + 1)) 4 0) 3) + 1)) 3 0) 2 (((upd (upd (upd (upd (upd (upd (upd (upd f3 6 ((f3 6) + 1)) 6 0) 5 (((upd (upd f3 6 ((f3 6) + 1)) 6 0) 5) + 1)) 5 0) 4 (((upd (upd (upd (upd f3 6 ((f3 6) + 1)) 6 0) 5 (((upd (upd f3 6 ((f3 6) + 1)) 6 0) 5) + 1)) 5 0) 4) + 1)) 4 0) 3 (((upd (upd (upd (upd (upd (upd f3 6 ((f3 6) + 1)) 6 0) 5 (((upd (upd f3 6 ((f3 6) + 1)) 6 0) 5) + 1)) 5 0) 4 (((upd (upd (upd (upd f3 6 ((f3 6) + 1)) 6 0) 5 (((upd (upd f3 6 ((f3 6) + 1)) 6 0) 5) + 1)) 5 0) 4) + 1)) 4 0) 3) + 1)) 3 0) 2) + 1)) 2 0)], [zAr T 0 a4_4 n4 f4], [zAr T 0 a5_5 n4 f5], [zAr T 0 a6_6 n4 f6]] _ _ := G
            refine lv_iinc (v := 1) (lv' := [(1, .int 1), (0, .ref h)]) hx hb dX0_nextRow_40 hl (k := 0) rfl (by decide) (by decide) rfl (fun ls hl => ?_)
            refine lv_goto (tgt := 3) hx hb dX0_nextRow_43 (by decide) ?_
            refine lv_iload_n hx hb dX0_nextRow_3 rfl (lv_at hl 0 rfl) ?_
            refine lv_if_lt (tgt := 46) hx hb dX0_nextRow_4 (by decide) (fun q => absurd q (by decide)) (fun _ => ?_)
            refine lv_aload_n hx hb dX0_nextRow_7 rfl (lv_at hl 1 rfl) ?_
            refine z_get C G clX0 0 rfl 6 (by decide) m_fl_RX0_25 rfl dX0_nextRow_8 ?_
            refine lv_iload_n hx hb dX0_nextRow_11 rfl (lv_at hl 0 rfl) ?_
            refine lv_dup2_11 hx hb dX0_nextRow_12 rfl rfl ?_
            refine z_ild C G 3 rfl (vp_in_nI (n := 1) (by decide) (by decide)) dX0_nextRow_13 ?_
            refine lv_topi (fun v_27 ev_27 => ?_)
            rw [show ((1 : Int32).toNatClampNeg) = 1 from rfl] at ev_27
            subst ev_27
            refine lv_iconst (v := 1) hx hb dX0_nextRow_14 (by decide) ?_
            refine lv_iadd hx hb dX0_nextRow_15 ?_
            refine z_ist C G 3 rfl (vp_in_nI (n := 1) (by decide) (by decide)) dX0_nextRow_16 (fun H locs G => ?_)
            have G : zS T A s.heap s [[zO0 h md wy la pc_ a1_1 a2_2 a3_3 a4_4 a5_5 a6_6], [zAr T 0 a1_1 7 f1], [zAr T 0 a2_2 7 f2], [zAr T 0 a3_3 7 (upd (upd (upd (upd (upd (upd (upd (upd (upd (upd (upd f3 6 ((f3 6) + 1)) 6 0) 5 (((upd (upd f3 6 ((f3 6) + 1)) 6 0) 5) + 1)) 5 0) 4 (((upd (upd (upd (upd f3 6 ((f3 6) + 1)) 6 0) 5 (((upd (upd f3 6 ((f3 6) + 1)) 6 0) 5) + 1)) 5 0) 4) + 1)) 4 0) 3 (((upd (upd (upd (upd (upd (upd f3 6 ((f3 6) + 1)) 6 0) 5 (((upd (upd f3 6 ((f3 6) + 1)) 6 0) 5) + 1)) 5 0) 4 (((upd (upd (upd (upd f3 6 ((f3 6) + 1)) 6 0) 5 (((upd (upd f3 6 ((f3 6) + 1)) 6 0) 5) + 1)) 5 0) 4) + 1)) 4 0) 3) + 1)) 3 0) 2 (((upd (upd (upd (upd (upd (upd (upd (upd f3 6 ((f3 6) + 1)) 6 0) 5 (((upd (upd f3 6 ((f3 6) + 1)) 6 0) 5) + 1)) 5 0) 4 (((upd (upd (upd (upd f3 6 ((f3 6) + 1)) 6 0) 5 (((upd (upd f3 6 ((f3 6) + 1)) 6 0) 5) + 1)) 5 0) 4) + 1)) 4 0) 3 (((upd (upd (upd (upd (upd (upd f3 6 ((f3 6) + 1)) 6 0) 5 (((upd (upd f3 6 ((f3 6) + 1)) 6 0) 5) + 1)) 5 0) 4 (((upd (upd (upd (upd f3 6 ((f3 6) + 1)) 6 0) 5 (((upd (upd f3 6 ((f3 6) + 1)) 6 0) 5) + 1)) 5 0) 4) + 1)) 4 0) 3) + 1)) 3 0) 2) + 1)) 2 0) 1 (((upd (upd (upd (upd (upd (upd (upd (upd (upd (upd f3 6 ((f3 6) + 1)) 6 0) 5 (((upd (upd f3 6 ((f3 6) + 1)) 6 0) 5) + 1)) 5 0) 4 (((upd (upd (upd (upd f3 6 ((f3 6) + 1)) 6 0) 5 (((upd (upd f3 6 ((f3 6) + 1)) 6 0) 5) + 1)) 5 0) 4) + 1)) 4 0) 3 (((upd (upd (upd (upd (upd (upd f3 6 ((f3 6) + 1)) 6 0) 5 (((upd (upd f3 6 ((f3 6) + 1)) 6 0) 5) + 1)) 5 0) 4 (((upd (upd (upd (upd f3 6 ((f3 6) + 1)) 6 0) 5 (((upd (upd f3 6 ((f3 6) + 1)) 6 0) 5) + 1)) 5 0) 4) + 1)) 4 0) 3) + 1)) 3 0) 2 (((upd (upd (upd (upd (upd (upd (upd (upd f3 6 ((f3 6) + 1)) 6 0) 5 (((upd (upd f3 6 ((f3 6) + 1)) 6 0) 5) + 1)) 5 0) 4 (((upd (upd (upd (upd f3 6 ((f3 6) + 1)) 6 0) 5 (((upd (upd f3 6 ((f3 6) + 1)) 6 0) 5) + 1)) 5 0) 4) + 1)) 4 0) 3 (((upd (upd (upd (upd (upd (upd f3 6 ((f3 6) + 1)) 6 0) 5 (((upd (upd f3 6 ((f3 6) + 1)) 6 0) 5) + 1)) 5 0) 4 (((upd (upd (upd (upd f3 6 ((f3 6) + 1)) 6 0) 5 (((upd (upd f3 6 ((f3 6) + 1)) 6 0) 5) + 1)) 5 0) 4) + 1)) 4 0) 3) + 1)) 3 0) 2) + 1)) 2 0) 1) + 1))], [zAr T 0 a4_4 n4 f4], [zAr T 0 a5_5 n4 f5], [zAr T 0 a6_6 n4 f6]] _ _ := G
            refine lv_aload_n hx hb dX0_nextRow_17 rfl (lv_at hl 1 rfl) ?_
            refine z_get C G clX0 0 rfl 6 (by decide) m_fl_RX0_25 rfl dX0_nextRow_18 ?_
            refine lv_iload_n hx hb dX0_nextRow_21 rfl (lv_at hl 0 rfl) ?_
            refine z_ild C G 3 rfl (vp_in_nI (n := 1) (by decide) (by decide)) dX0_nextRow_22 ?_
            refine lv_topi (fun v_28 ev_28 => ?_)
            have ev_28 : v_28 = ((upd (upd (upd (upd (upd (upd (upd (upd (upd (upd f3 6 ((f3 6) + 1)) 6 0) 5 (((upd (upd f3 6 ((f3 6) + 1)) 6 0) 5) + 1)) 5 0) 4 (((upd (upd (upd (upd f3 6 ((f3 6) + 1)) 6 0) 5 (((upd (upd f3 6 ((f3 6) + 1)) 6 0) 5) + 1)) 5 0) 4) + 1)) 4 0) 3 (((upd (upd (upd (upd (upd (upd f3 6 ((f3 6) + 1)) 6 0) 5 (((upd (upd f3 6 ((f3 6) + 1)) 6 0) 5) + 1)) 5 0) 4 (((upd (upd (upd (upd f3 6 ((f3 6) + 1)) 6 0) 5 (((upd (upd f3 6 ((f3 6) + 1)) 6 0) 5) + 1)) 5 0) 4) + 1)) 4 0) 3) + 1)) 3 0) 2 (((upd (upd (upd (upd (upd (upd (upd (upd f3 6 ((f3 6) + 1)) 6 0) 5 (((upd (upd f3 6 ((f3 6) + 1)) 6 0) 5) + 1)) 5 0) 4 (((upd (upd (upd (upd f3 6 ((f3 6) + 1)) 6 0) 5 (((upd (upd f3 6 ((f3 6) + 1)) 6 0) 5) + 1)) 5 0) 4) + 1)) 4 0) 3 (((upd (upd (upd (upd (upd (upd f3 6 ((f3 6) + 1)) 6 0) 5 (((upd (upd f3 6 ((f3 6) + 1)) 6 0) 5) + 1)) 5 0) 4 (((upd (upd (upd (upd f3 6 ((f3 6) + 1)) 6 0) 5 (((upd (upd f3 6 ((f3 6) + 1)) 6 0) 5) + 1)) 5 0) 4) + 1)) 4 0) 3) + 1)) 3 0) 2) + 1)) 2 0) 1) + 1 := ev_28
            subst ev_28
            refine lv_aload_n hx hb dX0_nextRow_23 rfl (lv_at hl 1 rfl) ?_
            refine z_get C G clX0 0 rfl 4 (by decide) m_fl_RX0_18 rfl dX0_nextRow_24 ?_
            refine lv_iload_n hx hb dX0_nextRow_27 rfl (lv_at hl 0 rfl) ?_
            refine z_ild C G 1 rfl (vp_in_nI (n := 1) (by decide) (by decide)) dX0_nextRow_28 ?_
            refine lv_topi (fun v_29 ev_29 => ?_)
            rw [show ((1 : Int32).toNatClampNeg) = 1 from rfl] at ev_29
            subst ev_29
            refine lv_icmp_ge (tgt := 33) hx hb dX0_nextRow_29 (by decide) (fun c_30 => ?_) (fun c_30 => ?_)
            · have c_30n : (f1 1).toInt ≤ (((upd (upd (upd (upd (upd (upd (upd (upd (upd (upd f3 6 ((f3 6) + 1)) 6 0) 5 (((upd (upd f3 6 ((f3 6) + 1)) 6 0) 5) + 1)) 5 0) 4 (((upd (upd (upd (upd f3 6 ((f3 6) + 1)) 6 0) 5 (((upd (upd f3 6 ((f3 6) + 1)) 6 0) 5) + 1)) 5 0) 4) + 1)) 4 0) 3 (((upd (upd (upd (upd (upd (upd f3 6 ((f3 6) + 1)) 6 0) 5 (((upd (upd f3 6 ((f3 6) + 1)) 6 0) 5) + 1)) 5 0) 4 (((upd (upd (upd (upd f3 6 ((f3 6) + 1)) 6 0) 5 (((upd (upd f3 6 ((f3 6) + 1)) 6 0) 5) + 1)) 5 0) 4) + 1)) 4 0) 3) + 1)) 3 0) 2 (((upd (upd (upd (upd (upd (upd (upd (upd f3 6 ((f3 6) + 1)) 6 0) 5 (((upd (upd f3 6 ((f3 6) + 1)) 6 0) 5) + 1)) 5 0) 4 (((upd (upd (upd (upd f3 6 ((f3 6) + 1)) 6 0) 5 (((upd (upd f3 6 ((f3 6) + 1)) 6 0) 5) + 1)) 5 0) 4) + 1)) 4 0) 3 (((upd (upd (upd (upd (upd (upd f3 6 ((f3 6) + 1)) 6 0) 5 (((upd (upd f3 6 ((f3 6) + 1)) 6 0) 5) + 1)) 5 0) 4 (((upd (upd (upd (upd f3 6 ((f3 6) + 1)) 6 0) 5 (((upd (upd f3 6 ((f3 6) + 1)) 6 0) 5) + 1)) 5 0) 4) + 1)) 4 0) 3) + 1)) 3 0) 2) + 1)) 2 0) 1) + 1).toInt := (fa_le _ _).mp c_30
              refine lv_aload_n hx hb dX0_nextRow_33 rfl (lv_at hl 1 rfl) ?_
              refine z_get C G clX0 0 rfl 6 (by decide) m_fl_RX0_25 rfl dX0_nextRow_34 ?_
              refine lv_iload_n hx hb dX0_nextRow_37 rfl (lv_at hl 0 rfl) ?_
              refine lv_iconst (v := 0) hx hb dX0_nextRow_38 (by decide) ?_
              refine z_ist C G 3 rfl (vp_in_nI (n := 1) (by decide) (by decide)) dX0_nextRow_39 (fun H locs G => ?_)
              have G : zS T A s.heap s [[zO0 h md wy la pc_ a1_1 a2_2 a3_3 a4_4 a5_5 a6_6], [zAr T 0 a1_1 7 f1], [zAr T 0 a2_2 7 f2], [zAr T 0 a3_3 7 (upd (upd (upd (upd (upd (upd (upd (upd (upd (upd (upd (upd f3 6 ((f3 6) + 1)) 6 0) 5 (((upd (upd f3 6 ((f3 6) + 1)) 6 0) 5) + 1)) 5 0) 4 (((upd (upd (upd (upd f3 6 ((f3 6) + 1)) 6 0) 5 (((upd (upd f3 6 ((f3 6) + 1)) 6 0) 5) + 1)) 5 0) 4) + 1)) 4 0) 3 (((upd (upd (upd (upd (upd (upd f3 6 ((f3 6) + 1)) 6 0) 5 (((upd (upd f3 6 ((f3 6) + 1)) 6 0) 5) + 1)) 5 0) 4 (((upd (upd (upd (upd f3 6 ((f3 6) + 1)) 6 0) 5 (((upd (upd f3 6 ((f3 6) + 1)) 6 0) 5) + 1)) 5 0) 4) + 1)) 4 0) 3) + 1)) 3 0) 2 (((upd (upd (upd (upd (upd (upd (upd (upd f3 6 ((f3 6) + 1)) 6 0) 5 (((upd (upd f3 6 ((f3 6) + 1)) 6 0) 5) + 1)) 5 0) 4 (((upd (upd (upd (upd f3 6 ((f3 6) + 1)) 6 0) 5 (((upd (upd f3 6 ((f3 6) + 1)) 6 0) 5) + 1)) 5 0) 4) + 1)) 4 0) 3 (((upd (upd (upd (upd (upd (upd f3 6 ((f3 6) + 1)) 6 0) 5 (((upd (upd f3 6 ((f3 6) + 1)) 6 0) 5) + 1)) 5 0) 4 (((upd (upd (upd (upd f3 6 ((f3 6) + 1)) 6 0) 5 (((upd (upd f3 6 ((f3 6) + 1)) 6 0) 5) + 1)) 5 0) 4) + 1)) 4 0) 3) + 1)) 3 0) 2) + 1)) 2 0) 1 (((upd (upd (upd (upd (upd (upd (upd (upd (upd (upd f3 6 ((f3 6) + 1)) 6 0) 5 (((upd (upd f3 6 ((f3 6) + 1)) 6 0) 5) + 1)) 5 0) 4 (((upd (upd (upd (upd f3 6 ((f3 6) + 1)) 6 0) 5 (((upd (upd f3 6 ((f3 6) + 1)) 6 0) 5) + 1)) 5 0) 4) + 1)) 4 0) 3 (((upd (upd (upd (upd (upd (upd f3 6 ((f3 6) + 1)) 6 0) 5 (((upd (upd f3 6 ((f3 6) + 1)) 6 0) 5) + 1)) 5 0) 4 (((upd (upd (upd (upd f3 6 ((f3 6) + 1)) 6 0) 5 (((upd (upd f3 6 ((f3 6) + 1)) 6 0) 5) + 1)) 5 0) 4) + 1)) 4 0) 3) + 1)) 3 0) 2 (((upd (upd (upd (upd (upd (upd (upd (upd f3 6 ((f3 6) + 1)) 6 0) 5 (((upd (upd f3 6 ((f3 6) + 1)) 6 0) 5) + 1)) 5 0) 4 (((upd (upd (upd (upd f3 6 ((f3 6) + 1)) 6 0) 5 (((upd (upd f3 6 ((f3 6) + 1)) 6 0) 5) + 1)) 5 0) 4) + 1)) 4 0) 3 (((upd (upd (upd (upd (upd (upd f3 6 ((f3 6) + 1)) 6 0) 5 (((upd (upd f3 6 ((f3 6) + 1)) 6 0) 5) + 1)) 5 0) 4 (((upd (upd (upd (upd f3 6 ((f3 6) + 1)) 6 0) 5 (((upd (upd f3 6 ((f3 6) + 1)) 6 0) 5) + 1)) 5 0) 4) + 1)) 4 0) 3) + 1)) 3 0) 2) + 1)) 2 0) 1) + 1)) 1 0)], [zAr T 0 a4_4 n4 f4], [zAr T 0 a5_5 n4 f5], [zAr T 0 a6_6 n4 f6]] _ _ := G
              refine lv_iinc (v := 0) (lv' := [(1, .int 0), (0, .ref h)]) hx hb dX0_nextRow_40 hl (k := 0) rfl (by decide) (by decide) rfl (fun ls hl => ?_)
              refine lv_goto (tgt := 3) hx hb dX0_nextRow_43 (by decide) ?_
              refine lv_iload_n hx hb dX0_nextRow_3 rfl (lv_at hl 0 rfl) ?_
              refine lv_if_lt (tgt := 46) hx hb dX0_nextRow_4 (by decide) (fun q => absurd q (by decide)) (fun _ => ?_)
              refine lv_aload_n hx hb dX0_nextRow_7 rfl (lv_at hl 1 rfl) ?_
              refine z_get C G clX0 0 rfl 6 (by decide) m_fl_RX0_25 rfl dX0_nextRow_8 ?_
              refine lv_iload_n hx hb dX0_nextRow_11 rfl (lv_at hl 0 rfl) ?_
              refine lv_dup2_11 hx hb dX0_nextRow_12 rfl rfl ?_
              refine z_ild C G 3 rfl (vp_in_nI (n := 0) (by decide) (by decide)) dX0_nextRow_13 ?_
              refine lv_topi (fun v_31 ev_31 => ?_)
              rw [show ((0 : Int32).toNatClampNeg) = 0 from rfl] at ev_31
              subst ev_31
              refine lv_iconst (v := 1) hx hb dX0_nextRow_14 (by decide) ?_
              refine lv_iadd hx hb dX0_nextRow_15 ?_
              refine z_ist C G 3 rfl (vp_in_nI (n := 0) (by decide) (by decide)) dX0_nextRow_16 (fun H locs G => ?_)
              have G : zS T A s.heap s [[zO0 h md wy la pc_ a1_1 a2_2 a3_3 a4_4 a5_5 a6_6], [zAr T 0 a1_1 7 f1], [zAr T 0 a2_2 7 f2], [zAr T 0 a3_3 7 (upd (upd (upd (upd (upd (upd (upd (upd (upd (upd (upd (upd (upd f3 6 ((f3 6) + 1)) 6 0) 5 (((upd (upd f3 6 ((f3 6) + 1)) 6 0) 5) + 1)) 5 0) 4 (((upd (upd (upd (upd f3 6 ((f3 6) + 1)) 6 0) 5 (((upd (upd f3 6 ((f3 6) + 1)) 6 0) 5) + 1)) 5 0) 4) + 1)) 4 0) 3 (((upd (upd (upd (upd (upd (upd f3 6 ((f3 6) + 1)) 6 0) 5 (((upd (upd f3 6 ((f3 6) + 1)) 6 0) 5) + 1)) 5 0) 4 (((upd (upd (upd (upd f3 6 ((f3 6) + 1)) 6 0) 5 (((upd (upd f3 6 ((f3 6) + 1)) 6 0) 5) + 1)) 5 0) 4) + 1)) 4 0) 3) + 1)) 3 0) 2 (((upd (upd (upd (upd (upd (upd (upd (upd f3 6 ((f3 6) + 1)) 6 0) 5 (((upd (upd f3 6 ((f3 6) + 1)) 6 0) 5) + 1)) 5 0) 4 (((upd (upd (upd (upd f3 6 ((f3 6) + 1)) 6 0) 5 (((upd (upd f3 6 ((f3 6) + 1)) 6 0) 5) + 1)) 5 0) 4) + 1)) 4 0) 3 (((upd (upd (upd (upd (upd (upd f3 6 ((f3 6) + 1)) 6 0) 5 (((upd (upd f3 6 ((f3 6) + 1)) 6 0) 5) + 1)) 5 0) 4 (((upd (upd (upd (upd f3 6 ((f3 6) + 1)) 6 0) 5 (((upd (upd f3 6 ((f3 6) + 1)) 6 0) 5) + 1)) 5 0) 4) + 1)) 4 0) 3) + 1)) 3 0) 2) + 1)) 2 0) 1 (((upd (upd (upd (upd (upd (upd (upd (upd (upd (upd f3 6 ((f3 6) + 1)) 6 0) 5 (((upd (upd f3 6 ((f3 6) + 1)) 6 0) 5) + 1)) 5 0) 4 (((upd (upd (upd (upd f3 6 ((f3 6) + 1)) 6 0) 5 (((upd (upd f3 6 ((f3 6) + 1)) 6 0) 5) + 1)) 5 0) 4) + 1)) 4 0) 3 (((upd (upd (upd (upd (upd (upd f3 6 ((f3 6) + 1)) 6 0) 5 (((upd (upd f3 6 ((f3 6) + 1)) 6 0) 5) + 1)) 5 0) 4 (((upd (upd (upd (upd f3 6 ((f3 6) + 1)) 6 0) 5 (((upd (upd f3 6 ((f3 6) + 1)) 6 0) 5) + 1)) 5 0) 4) + 1)) 4 0) 3) + 1)) 3 0) 2 (((upd (upd (upd (upd (upd (upd (upd (upd f3 6 ((f3 6) + 1)) 6 0) 5 (((upd (upd f3 6 ((f3 6) + 1)) 6 0) 5) + 1)) 5 0) 4 (((upd (upd (upd (upd f3 6 ((f3 6) + 1)) 6 0) 5 (((upd (upd f3 6 ((f3 6) + 1)) 6 0) 5) + 1)) 5 0) 4) + 1)) 4 0) 3 (((upd (upd (upd (upd (upd (upd f3 6 ((f3 6) + 1)) 6 0) 5 (((upd (upd f3 6 ((f3 6) + 1)) 6 0) 5) + 1)) 5 0) 4 (((upd (upd (upd (upd f3 6 ((f3 6) + 1)) 6 0) 5 (((upd (upd f3 6 ((f3 6) + 1)) 6 0) 5) + 1)) 5 0) 4) + 1)) 4 0) 3) + 1)) 3 0) 2) + 1)) 2 0) 1) + 1)) 1 0) 0 (((upd (upd (upd (upd (upd (upd (upd (upd (upd (upd (upd (upd f3 6 ((f3 6) + 1)) 6 0) 5 (((upd (upd f3 6 ((f3 6) + 1)) 6 0) 5) + 1)) 5 0) 4 (((upd (upd (upd (upd f3 6 ((f3 6) + 1)) 6 0) 5 (((upd (upd f3 6 ((f3 6) + 1)) 6 0) 5) + 1)) 5 0) 4) + 1)) 4 0) 3 (((upd (upd (upd (upd (upd (upd f3 6 ((f3 6) + 1)) 6 0) 5 (((upd (upd f3 6 ((f3 6) + 1)) 6 0) 5) + 1)) 5 0) 4 (((upd (upd (upd (upd f3 6 ((f3 6) + 1)) 6 0) 5 (((upd (upd f3 6 ((f3 6) + 1)) 6 0) 5) + 1)) 5 0) 4) + 1)) 4 0) 3) + 1)) 3 0) 2 (((upd (upd (upd (upd (upd (upd (upd (upd f3 6 ((f3 6) + 1)) 6 0) 5 (((upd (upd f3 6 ((f3 6) + 1)) 6 0) 5) + 1)) 5 0) 4 (((upd (upd (upd (upd f3 6 ((f3 6) + 1)) 6 0) 5 (((upd (upd f3 6 ((f3 6) + 1)) 6 0) 5) + 1)) 5 0) 4) + 1)) 4 0) 3 (((upd (upd (upd (upd (upd (upd f3 6 ((f3 6) + 1)) 6 0) 5 (((upd (upd f3 6 ((f3 6) + 1)) 6 0) 5) + 1)) 5 0) 4 (((upd (upd (upd (upd f3 6 ((f3 6) + 1)) 6 0) 5 (((upd (upd f3 6 ((f3 6) + 1)) 6 0) 5) + 1)) 5 0) 4) + 1)) 4 0) 3) + 1)) 3 0) 2) + 1)) 2 0) 1 (((upd (upd (upd (upd (upd (upd (upd (upd (upd (upd f3 6 ((f3 6) + 1)) 6 0) 5 (((upd (upd f3 6 ((f3 6) + 1)) 6 0) 5) + 1)) 5 0) 4 (((upd (upd (upd (upd f3 6 ((f3 6) + 1)) 6 0) 5 (((upd (upd f3 6 ((f3 6) + 1)) 6 0) 5) + 1)) 5 0) 4) + 1)) 4 0) 3 (((upd (upd (upd (upd (upd (upd f3 6 ((f3 6) + 1)) 6 0) 5 (((upd (upd f3 6 ((f3 6) + 1)) 6 0) 5) + 1)) 5 0) 4 (((upd (upd (upd (upd f3 6 ((f3 6) + 1)) 6 0) 5 (((upd (upd f3 6 ((f3 6) + 1)) 6 0) 5) + 1)) 5 0) 4) + 1)) 4 0) 3) + 1)) 3 0) 2 (((upd (upd (upd (upd (upd (upd (upd (upd f3 6 ((f3 6) + 1)) 6 0) 5 (((upd (upd f3 6 ((f3 6) + 1)) 6 0) 5) + 1)) 5 0) 4 (((upd (upd (upd (upd f3 6 ((f3 6) + 1)) 6 0) 5 (((upd (upd f3 6 ((f3 6) + 1)) 6 0) 5) + 1)) 5 0) 4) + 1)) 4 0) 3 (((upd (upd (upd (upd (upd (upd f3 6 ((f3 6) + 1)) 6 0) 5 (((upd (upd f3 6 ((f3 6) + 1)) 6 0) 5) + 1)) 5 0) 4 (((upd (upd (upd (upd f3 6 ((f3 6) + 1)) 6 0) 5 (((upd (upd f3 6 ((f3 6) + 1)) 6 0) 5) + 1)) 5 0) 4) + 1)) 4 0) 3) + 1)) 3 0) 2) + 1)) 2 0) 1) + 1)) 1 0) 0) + 1))], [zAr T 0 a4_4 n4 f4], [zAr T 0 a5_5 n4 f5], [zAr T 0 a6_6 n4 f6]] _ _ := G
              refine lv_aload_n hx hb dX0_nextRow_17 rfl (lv_at hl 1 rfl) ?_
              refine z_get C G clX0 0 rfl 6 (by decide) m_fl_RX0_25 rfl dX0_nextRow_18 ?_
              refine lv_iload_n hx hb dX0_nextRow_21 rfl (lv_at hl 0 rfl) ?_
              refine z_ild C G 3 rfl (vp_in_nI (n := 0) (by decide) (by decide)) dX0_nextRow_22 ?_
              refine lv_topi (fun v_32 ev_32 => ?_)
              have ev_32 : v_32 = ((upd (upd (upd (upd (upd (upd (upd (upd (upd (upd (upd (upd f3 6 ((f3 6) + 1)) 6 0) 5 (((upd (upd f3 6 ((f3 6) + 1)) 6 0) 5) + 1)) 5 0) 4 (((upd (upd (upd (upd f3 6 ((f3 6) + 1)) 6 0) 5 (((upd (upd f3 6 ((f3 6) + 1)) 6 0) 5) + 1)) 5 0) 4) + 1)) 4 0) 3 (((upd (upd (upd (upd (upd (upd f3 6 ((f3 6) + 1)) 6 0) 5 (((upd (upd f3 6 ((f3 6) + 1)) 6 0) 5) + 1)) 5 0) 4 (((upd (upd (upd (upd f3 6 ((f3 6) + 1)) 6 0) 5 (((upd (upd f3 6 ((f3 6) + 1)) 6 0) 5) + 1)) 5 0) 4) + 1)) 4 0) 3) + 1)) 3 0) 2 (((upd (upd (upd (upd (upd (upd (upd (upd f3 6 ((f3 6) + 1)) 6 0) 5 (((upd (upd f3 6 ((f3 6) + 1)) 6 0) 5) + 1)) 5 0) 4 (((upd (upd (upd (upd f3 6 ((f3 6) + 1)) 6 0) 5 (((upd (upd f3 6 ((f3 6) + 1)) 6 0) 5) + 1)) 5 0) 4) + 1)) 4 0) 3 (((upd (upd (upd (upd (upd (upd f3 6 ((f3 6) + 1)) 6 0) 5 (((upd (upd f3 6 ((f3 6) + 1)) 6 0) 5) + 1)) 5 0) 4 (((upd (upd (upd (upd f3 6 ((f3 6) + 1)) 6 0) 5 (((upd (upd f3 6 ((f3 6) + 1)) 6 0) 5) + 1)) 5 0) 4) + 1)) 4 0) 3) + 1)) 3 0) 2) + 1)) 2 0) 1 (((upd (upd (upd (upd (upd (upd (upd (upd (upd (upd f3 6 ((f3 6) + 1)) 6 0) 5 (((upd (upd f3 6 ((f3 6) + 1)) 6 0) 5) + 1)) 5 0) 4 (((upd (upd (upd (upd f3 6 ((f3 6) + 1)) 6 0) 5 (((upd (upd f3 6 ((f3 6) + 1)) 6 0) 5) + 1)) 5 0) 4) + 1)) 4 0) 3 (((upd (upd (upd (upd (upd (upd f3 6 ((f3 6) + 1)) 6 0) 5 (((upd (upd f3 6 ((f3 6) + 1)) 6 0) 5) + 1)) 5 0) 4 (((upd (upd (upd (upd f3 6 ((f3 6) + 1)) 6 0) 5 (((upd (upd f3 6 ((f3 6) + 1)) 6 0) 5) + 1)) 5 0) 4) + 1)) 4 0) 3) + 1)) 3 0) 2 (((upd (upd (upd (upd (upd (upd (upd (upd f3 6 ((f3 6) + 1)) 6 0) 5 (((upd (upd f3 6 ((f3 6) + 1)) 6 0) 5) + 1)) 5 0) 4 (((upd (upd (upd (upd f3 6 ((f3 6) + 1)) 6 0) 5 (((upd (upd f3 6 ((f3 6) + 1)) 6 0) 5) + 1)) 5 0) 4) + 1)) 4 0) 3 (((upd (upd (upd (upd (upd (upd f3 6 ((f3 6) + 1)) 6 0) 5 (((upd (upd f3 6 ((f3 6) + 1)) 6 0) 5) + 1)) 5 0) 4 (((upd (upd (upd (upd f3 6 ((f3 6) + 1)) 6 0) 5 (((upd (upd f3 6 ((f3 6) + 1)) 6 0) 5) + 1)) 5 0) 4) + 1)) 4 0) 3) + 1)) 3 0) 2) + 1)) 2 0) 1) + 1)) 1 0) 0) + 1 := ev_32
              subst ev_32
              refine lv_aload_n hx hb dX0_nextRow_23 rfl (lv_at hl 1 rfl) ?_
              refine z_get C G clX0 0 rfl 4 (by decide) m_fl_RX0_18 rfl dX0_nextRow_24 ?_
              refine lv_iload_n hx hb dX0_nextRow_27 rfl (lv_at hl 0 rfl) ?_
              refine z_ild C G 1 rfl (vp_in_nI (n := 0) (by decide) (by decide)) dX0_nextRow_28 ?_
              refine lv_topi (fun v_33 ev_33 => ?_)
              rw [show ((0 : Int32).toNatClampNeg) = 0 from rfl] at ev_33
              subst ev_33
              refine lv_icmp_ge (tgt := 33) hx hb dX0_nextRow_29 (by decide) (fun c_34 => ?_) (fun c_34 => ?_)
              · have c_34n : (f1 0).toInt ≤ (((upd (upd (upd (upd (upd (upd (upd (upd (upd (upd (upd (upd f3 6 ((f3 6) + 1)) 6 0) 5 (((upd (upd f3 6 ((f3 6) + 1)) 6 0) 5) + 1)) 5 0) 4 (((upd (upd (upd (upd f3 6 ((f3 6) + 1)) 6 0) 5 (((upd (upd f3 6 ((f3 6) + 1)) 6 0) 5) + 1)) 5 0) 4) + 1)) 4 0) 3 (((upd (upd (upd (upd (upd (upd f3 6 ((f3 6) + 1)) 6 0) 5 (((upd (upd f3 6 ((f3 6) + 1)) 6 0) 5) + 1)) 5 0) 4 (((upd (upd (upd (upd f3 6 ((f3 6) + 1)) 6 0) 5 (((upd (upd f3 6 ((f3 6) + 1)) 6 0) 5) + 1)) 5 0) 4) + 1)) 4 0) 3) + 1)) 3 0) 2 (((upd (upd (upd (upd (upd (upd (upd (upd f3 6 ((f3 6) + 1)) 6 0) 5 (((upd (upd f3 6 ((f3 6) + 1)) 6 0) 5) + 1)) 5 0) 4 (((upd (upd (upd (upd f3 6 ((f3 6) + 1)) 6 0) 5 (((upd (upd f3 6 ((f3 6) + 1)) 6 0) 5) + 1)) 5 0) 4) + 1)) 4 0) 3 (((upd (upd (upd (upd (upd (upd f3 6 ((f3 6) + 1)) 6 0) 5 (((upd (upd f3 6 ((f3 6) + 1)) 6 0) 5) + 1)) 5 0) 4 (((upd (upd (upd (upd f3 6 ((f3 6) + 1)) 6 0) 5 (((upd (upd f3 6 ((f3 6) + 1)) 6 0) 5) + 1)) 5 0) 4) + 1)) 4 0) 3) + 1)) 3 0) 2) + 1)) 2 0) 1 (((upd (upd (upd (upd (upd (upd (upd (upd (upd (upd f3 6 ((f3 6) + 1)) 6 0) 5 (((upd (upd f3 6 ((f3 6) + 1)) 6 0) 5) + 1)) 5 0) 4 (((upd (upd (upd (upd f3 6 ((f3 6) + 1)) 6 0) 5 (((upd (upd f3 6 ((f3 6) + 1)) 6 0) 5) + 1)) 5 0) 4) + 1)) 4 0) 3 (((upd (upd (upd (upd (upd (upd f3 6 ((f3 6) + 1)) 6 0) 5 (((upd (upd f3 6 ((f3 6) + 1)) 6 0) 5) + 1)) 5 0) 4 (((upd (upd (upd (upd f3 6 ((f3 6) + 1)) 6 0) 5 (((upd (upd f3 6 ((f3 6) + 1)) 6 0) 5) + 1)) 5 0) 4) + 1)) 4 0) 3) + 1)) 3 0) 2 (((upd (upd (upd (upd (upd (upd (upd (upd f3 6 ((f3 6) + 1)) 6 0) 5 (((upd (upd f3 6 ((f3 6) + 1)) 6 0) 5) + 1)) 5 0) 4 (((upd (upd (upd (upd f3 6 ((f3 6) + 1)) 6 0) 5 (((upd (upd f3 6 ((f3 6) + 1)) 6 0) 5) + 1)) 5 0) 4) + 1)) 4 0) 3 (((upd (upd (upd (upd (upd (upd f3 6 ((f3 6) + 1)) 6 0) 5 (((upd (upd f3 6 ((f3 6) + 1)) 6 0) 5) + 1)) 5 0) 4 (((upd (upd (upd (upd f3 6 ((f3 6) + 1)) 6 0) 5 (((upd (upd f3 6 ((f3 6) + 1)) 6 0) 5) + 1)) 5 0) 4) + 1)) 4 0) 3) + 1)) 3 0) 2) + 1)) 2 0) 1) + 1)) 1 0) 0) + 1).toInt := (fa_le _ _).mp c_34
                refine lv_aload_n hx hb dX0_nextRow_33 rfl (lv_at hl 1 rfl) ?_
                refine z_get C G clX0 0 rfl 6 (by decide) m_fl_RX0_25 rfl dX0_nextRow_34 ?_
                refine lv_iload_n hx hb dX0_nextRow_37 rfl (lv_at hl 0 rfl) ?_
                refine lv_iconst (v := 0) hx hb dX0_nextRow_38 (by decide) ?_
                refine z_ist C G 3 rfl (vp_in_nI (n := 0) (by decide) (by decide)) dX0_nextRow_39 (fun H locs G => ?_)
                have G : zS T A s.heap s [[zO0 h md wy la pc_ a1_1 a2_2 a3_3 a4_4 a5_5 a6_6], [zAr T 0 a1_1 7 f1], [zAr T 0 a2_2 7 f2], [zAr T 0 a3_3 7 (upd (upd (upd (upd (upd (upd (upd (upd (upd (upd (upd (upd (upd (upd f3 6 ((f3 6) + 1)) 6 0) 5 (((upd (upd f3 6 ((f3 6) + 1)) 6 0) 5) + 1)) 5 0) 4 (((upd (upd (upd (upd f3 6 ((f3 6) + 1)) 6 0) 5 (((upd (upd f3 6 ((f3 6) + 1)) 6 0) 5) + 1)) 5 0) 4) + 1)) 4 0) 3 (((upd (upd (upd (upd (upd (upd f3 6 ((f3 6) + 1)) 6 0) 5 (((upd (upd f3 6 ((f3 6) + 1)) 6 0) 5) + 1)) 5 0) 4 (((upd (upd (upd (upd f3 6 ((f3 6) + 1)) 6 0) 5 (((upd (upd f3 6 ((f3 6) + 1)) 6 0) 5) + 1)) 5 0) 4) + 1)) 4 0) 3) + 1)) 3 0) 2 (((upd (upd (upd (upd (upd (upd (upd (upd f3 6 ((f3 6) + 1)) 6 0) 5 (((upd (upd f3 6 ((f3 6) + 1)) 6 0) 5) + 1)) 5 0) 4 (((upd (upd (upd (upd f3 6 ((f3 6) + 1)) 6 0) 5 (((upd (upd f3 6 ((f3 6) + 1)) 6 0) 5) + 1)) 5 0) 4) + 1)) 4 0) 3 (((upd (upd (upd (upd (upd (upd f3 6 ((f3 6) + 1)) 6 0) 5 (((upd (upd f3 6 ((f3 6) + 1)) 6 0) 5) + 1)) 5 0) 4 (((upd (upd (upd (upd f3 6 ((f3 6) + 1)) 6 0) 5 (((upd (upd f3 6 ((f3 6) + 1)) 6 0) 5) + 1)) 5 0) 4) + 1)) 4 0) 3) + 1)) 3 0) 2) + 1)) 2 0) 1 (((upd (upd (upd (upd (upd (upd (upd (upd (upd (upd f3 6 ((f3 6) + 1)) 6 0) 5 (((upd (upd f3 6 ((f3 6) + 1)) 6 0) 5) + 1)) 5 0) 4 (((upd (upd (upd (upd f3 6 ((f3 6) + 1)) 6 0) 5 (((upd (upd f3 6 ((f3 6) + 1)) 6 0) 5) + 1)) 5 0) 4) + 1)) 4 0) 3 (((upd (upd (upd (upd (upd (upd f3 6 ((f3 6) + 1)) 6 0) 5 (((upd (upd f3 6 ((f3 6) + 1)) 6 0) 5) + 1)) 5 0) 4 (((upd (upd (upd (upd f3 6 ((f3 6) + 1)) 6 0) 5 (((upd (upd f3 6 ((f3 6) + 1)) 6 0) 5) + 1)) 5 0) 4) + 1)) 4 0) 3) + 1)) 3 0) 2 (((upd (upd (upd (upd (upd (upd (upd (upd f3 6 ((f3 6) + 1)) 6 0) 5 (((upd (upd f3 6 ((f3 6) + 1)) 6 0) 5) + 1)) 5 0) 4 (((upd (upd (upd (upd f3 6 ((f3 6) + 1)) 6 0) 5 (((upd (upd f3 6 ((f3 6) + 1)) 6 0) 5) + 1)) 5 0) 4) + 1)) 4 0) 3 (((upd (upd (upd (upd (upd (upd f3 6 ((f3 6) + 1)) 6 0) 5 (((upd (upd f3 6 ((f3 6) + 1)) 6 0) 5) + 1)) 5 0) 4 (((upd (upd (upd (upd f3 6 ((f3 6) + 1)) 6 0) 5 (((upd (upd f3 6 ((f3 6) + 1)) 6 0) 5) + 1)) 5 0) 4) + 1)) 4 0) 3) + 1)) 3 0) 2) + 1)) 2 0) 1) + 1)) 1 0) 0 (((upd (upd (upd (upd (upd (upd (upd (upd (upd (upd (upd (upd f3 6 ((f3 6) + 1)) 6 0) 5 (((upd (upd f3 6 ((f3 6) + 1)) 6 0) 5) + 1)) 5 0) 4 (((upd (upd (upd (upd f3 6 ((f3 6) + 1)) 6 0) 5 (((upd (upd f3 6 ((f3 6) + 1)) 6 0) 5) + 1)) 5 0) 4) + 1)) 4 0) 3 (((upd (upd (upd (upd (upd (upd f3 6 ((f3 6) + 1)) 6 0) 5 (((upd (upd f3 6 ((f3 6) + 1)) 6 0) 5) + 1)) 5 0) 4 (((upd (upd (upd (upd f3 6 ((f3 6) + 1)) 6 0) 5 (((upd (upd f3 6 ((f3 6) + 1)) 6 0) 5) + 1)) 5 0) 4) + 1)) 4 0) 3) + 1)) 3 0) 2 (((upd (upd (upd (upd (upd (upd (upd (upd f3 6 ((f3 6) + 1)) 6 0) 5 (((upd (upd f3 6 ((f3 6) + 1)) 6 0) 5) + 1)) 5 0) 4 (((upd (upd (upd (upd f3 6 ((f3 6) + 1)) 6 0) 5 (((upd (upd f3 6 ((f3 6) + 1)) 6 0) 5) + 1)) 5 0) 4) + 1)) 4 0) 3 (((upd (upd (upd (upd (upd (upd f3 6 ((f3 6) + 1)) 6 0) 5 (((upd (upd f3 6 ((f3 6) + 1)) 6 0) 5) + 1)) 5 0) 4 (((upd (upd (upd (upd f3 6 ((f3 6) + 1)) 6 0) 5 (((upd (upd f3 6 ((f3 6) + 1)) 6 0) 5) + 1)) 5 0) 4) + 1)) 4 0) 3) + 1)) 3 0) 2) + 1)) 2 0) 1 (((upd (upd (upd (upd (upd (upd (upd (upd (upd (upd f3 6 ((f3 6) + 1)) 6 0) 5 (((upd (upd f3 6 ((f3 6) + 1)) 6 0) 5) + 1)) 5 0) 4 (((upd (upd (upd (upd f3 6 ((f3 6) + 1)) 6 0) 5 (((upd (upd f3 6 ((f3 6) + 1)) 6 0) 5) + 1)) 5 0) 4) + 1)) 4 0) 3 (((upd (upd (upd (upd (upd (upd f3 6 ((f3 6) + 1)) 6 0) 5 (((upd (upd f3 6 ((f3 6) + 1)) 6 0) 5) + 1)) 5 0) 4 (((upd (upd (upd (upd f3 6 ((f3 6) + 1)) 6 0) 5 (((upd (upd f3 6 ((f3 6) + 1)) 6 0) 5) + 1)) 5 0) 4) + 1)) 4 0) 3) + 1)) 3 0) 2 (((upd (upd (upd (upd (upd (upd (upd (upd f3 6 ((f3 6) + 1)) 6 0) 5 (((upd (upd f3 6 ((f3 6) + 1)) 6 0) 5) + 1)) 5 0) 4 (((upd (upd (upd (upd f3 6 ((f3 6) + 1)) 6 0) 5 (((upd (upd f3 6 ((f3 6) + 1)) 6 0) 5) + 1)) 5 0) 4) + 1)) 4 0) 3 (((upd (upd (upd (upd (upd (upd f3 6 ((f3 6) + 1)) 6 0) 5 (((upd (upd f3 6 ((f3 6) + 1)) 6 0) 5) + 1)) 5 0) 4 (((upd (upd (upd (upd f3 6 ((f3 6) + 1)) 6 0) 5 (((upd (upd f3 6 ((f3 6) + 1)) 6 0) 5) + 1)) 5 0) 4) + 1)) 4 0) 3) + 1)) 3 0) 2) + 1)) 2 0) 1) + 1)) 1 0) 0) + 1)) 0 0)], [zAr T 0 a4_4 n4 f4], [zAr T 0 a5_5 n4 f5], [zAr T 0 a6_6 n4 f6]] _ _ := G
                refine lv_iinc (v := (-1)) (lv' := [(1, .int (-1)), (0, .ref h)]) hx hb dX0_nextRow_40 hl (k := 0) rfl (by decide) (by decide) rfl (fun ls hl => ?_)
                refine lv_goto (tgt := 3) hx hb dX0_nextRow_43 (by decide) ?_
                refine lv_iload_n hx hb dX0_nextRow_3 rfl (lv_at hl 0 rfl) ?_
                refine lv_if_lt (tgt := 46) hx hb dX0_nextRow_4 (by decide) (fun _ => ?_) (fun q => absurd (by decide) q)
                have hw_35 : bWays T h la md wy pc_ f1 f2 (upd (upd (upd (upd (upd (upd (upd (upd (upd (upd (upd (upd (upd (upd f3 6 ((f3 6) + 1)) 6 0) 5 (((upd (upd f3 6 ((f3 6) + 1)) 6 0) 5) + 1)) 5 0) 4 (((upd (upd (upd (upd f3 6 ((f3 6) + 1)) 6 0) 5 (((upd (upd f3 6 ((f3 6) + 1)) 6 0) 5) + 1)) 5 0) 4) + 1)) 4 0) 3 (((upd (upd (upd (upd (upd (upd f3 6 ((f3 6) + 1)) 6 0) 5 (((upd (upd f3 6 ((f3 6) + 1)) 6 0) 5) + 1)) 5 0) 4 (((upd (upd (upd (upd f3 6 ((f3 6) + 1)) 6 0) 5 (((upd (upd f3 6 ((f3 6) + 1)) 6 0) 5) + 1)) 5 0) 4) + 1)) 4 0) 3) + 1)) 3 0) 2 (((upd (upd (upd (upd (upd (upd (upd (upd f3 6 ((f3 6) + 1)) 6 0) 5 (((upd (upd f3 6 ((f3 6) + 1)) 6 0) 5) + 1)) 5 0) 4 (((upd (upd (upd (upd f3 6 ((f3 6) + 1)) 6 0) 5 (((upd (upd f3 6 ((f3 6) + 1)) 6 0) 5) + 1)) 5 0) 4) + 1)) 4 0) 3 (((upd (upd (upd (upd (upd (upd f3 6 ((f3 6) + 1)) 6 0) 5 (((upd (upd f3 6 ((f3 6) + 1)) 6 0) 5) + 1)) 5 0) 4 (((upd (upd (upd (upd f3 6 ((f3 6) + 1)) 6 0) 5 (((upd (upd f3 6 ((f3 6) + 1)) 6 0) 5) + 1)) 5 0) 4) + 1)) 4 0) 3) + 1)) 3 0) 2) + 1)) 2 0) 1 (((upd (upd (upd (upd (upd (upd (upd (upd (upd (upd f3 6 ((f3 6) + 1)) 6 0) 5 (((upd (upd f3 6 ((f3 6) + 1)) 6 0) 5) + 1)) 5 0) 4 (((upd (upd (upd (upd f3 6 ((f3 6) + 1)) 6 0) 5 (((upd (upd f3 6 ((f3 6) + 1)) 6 0) 5) + 1)) 5 0) 4) + 1)) 4 0) 3 (((upd (upd (upd (upd (upd (upd f3 6 ((f3 6) + 1)) 6 0) 5 (((upd (upd f3 6 ((f3 6) + 1)) 6 0) 5) + 1)) 5 0) 4 (((upd (upd (upd (upd f3 6 ((f3 6) + 1)) 6 0) 5 (((upd (upd f3 6 ((f3 6) + 1)) 6 0) 5) + 1)) 5 0) 4) + 1)) 4 0) 3) + 1)) 3 0) 2 (((upd (upd (upd (upd (upd (upd (upd (upd f3 6 ((f3 6) + 1)) 6 0) 5 (((upd (upd f3 6 ((f3 6) + 1)) 6 0) 5) + 1)) 5 0) 4 (((upd (upd (upd (upd f3 6 ((f3 6) + 1)) 6 0) 5 (((upd (upd f3 6 ((f3 6) + 1)) 6 0) 5) + 1)) 5 0) 4) + 1)) 4 0) 3 (((upd (upd (upd (upd (upd (upd f3 6 ((f3 6) + 1)) 6 0) 5 (((upd (upd f3 6 ((f3 6) + 1)) 6 0) 5) + 1)) 5 0) 4 (((upd (upd (upd (upd f3 6 ((f3 6) + 1)) 6 0) 5 (((upd (upd f3 6 ((f3 6) + 1)) 6 0) 5) + 1)) 5 0) 4) + 1)) 4 0) 3) + 1)) 3 0) 2) + 1)) 2 0) 1) + 1)) 1 0) 0 (((upd (upd (upd (upd (upd (upd (upd (upd (upd (upd (upd (upd f3 6 ((f3 6) + 1)) 6 0) 5 (((upd (upd f3 6 ((f3 6) + 1)) 6 0) 5) + 1)) 5 0) 4 (((upd (upd (upd (upd f3 6 ((f3 6) + 1)) 6 0) 5 (((upd (upd f3 6 ((f3 6) + 1)) 6 0) 5) + 1)) 5 0) 4) + 1)) 4 0) 3 (((upd (upd (upd (upd (upd (upd f3 6 ((f3 6) + 1)) 6 0) 5 (((upd (upd f3 6 ((f3 6) + 1)) 6 0) 5) + 1)) 5 0) 4 (((upd (upd (upd (upd f3 6 ((f3 6) + 1)) 6 0) 5 (((upd (upd f3 6 ((f3 6) + 1)) 6 0) 5) + 1)) 5 0) 4) + 1)) 4 0) 3) + 1)) 3 0) 2 (((upd (upd (upd (upd (upd (upd (upd (upd f3 6 ((f3 6) + 1)) 6 0) 5 (((upd (upd f3 6 ((f3 6) + 1)) 6 0) 5) + 1)) 5 0) 4 (((upd (upd (upd (upd f3 6 ((f3 6) + 1)) 6 0) 5 (((upd (upd f3 6 ((f3 6) + 1)) 6 0) 5) + 1)) 5 0) 4) + 1)) 4 0) 3 (((upd (upd (upd (upd (upd (upd f3 6 ((f3 6) + 1)) 6 0) 5 (((upd (upd f3 6 ((f3 6) + 1)) 6 0) 5) + 1)) 5 0) 4 (((upd (upd (upd (upd f3 6 ((f3 6) + 1)) 6 0) 5 (((upd (upd f3 6 ((f3 6) + 1)) 6 0) 5) + 1)) 5 0) 4) + 1)) 4 0) 3) + 1)) 3 0) 2) + 1)) 2 0) 1 (((upd (upd (upd (upd (upd (upd (upd (upd (upd (upd f3 6 ((f3 6) + 1)) 6 0) 5 (((upd (upd f3 6 ((f3 6) + 1)) 6 0) 5) + 1)) 5 0) 4 (((upd (upd (upd (upd f3 6 ((f3 6) + 1)) 6 0) 5 (((upd (upd f3 6 ((f3 6) + 1)) 6 0) 5) + 1)) 5 0) 4) + 1)) 4 0) 3 (((upd (upd (upd (upd (upd (upd f3 6 ((f3 6) + 1)) 6 0) 5 (((upd (upd f3 6 ((f3 6) + 1)) 6 0) 5) + 1)) 5 0) 4 (((upd (upd (upd (upd f3 6 ((f3 6) + 1)) 6 0) 5 (((upd (upd f3 6 ((f3 6) + 1)) 6 0) 5) + 1)) 5 0) 4) + 1)) 4 0) 3) + 1)) 3 0) 2 (((upd (upd (upd (upd (upd (upd (upd (upd f3 6 ((f3 6) + 1)) 6 0) 5 (((upd (upd f3 6 ((f3 6) + 1)) 6 0) 5) + 1)) 5 0) 4 (((upd (upd (upd (upd f3 6 ((f3 6) + 1)) 6 0) 5 (((upd (upd f3 6 ((f3 6) + 1)) 6 0) 5) + 1)) 5 0) 4) + 1)) 4 0) 3 (((upd (upd (upd (upd (upd (upd f3 6 ((f3 6) + 1)) 6 0) 5 (((upd (upd f3 6 ((f3 6) + 1)) 6 0) 5) + 1)) 5 0) 4 (((upd (upd (upd (upd f3 6 ((f3 6) + 1)) 6 0) 5 (((upd (upd f3 6 ((f3 6) + 1)) 6 0) 5) + 1)) 5 0) 4) + 1)) 4 0) 3) + 1)) 3 0) 2) + 1)) 2 0) 1) + 1)) 1 0) 0) + 1)) 0 0) f4 f5 f6 n4 [zO0 h md wy la pc_ a1_1 a2_2 a3_3 a4_4 a5_5 a6_6, zAr T 0 a1_1 7 f1, zAr T 0 a2_2 7 f2, zAr T 0 a3_3 7 (upd (upd (upd (upd (upd (upd (upd (upd (upd (upd (upd (upd (upd (upd f3 6 ((f3 6) + 1)) 6 0) 5 (((upd (upd f3 6 ((f3 6) + 1)) 6 0) 5) + 1)) 5 0) 4 (((upd (upd (upd (upd f3 6 ((f3 6) + 1)) 6 0) 5 (((upd (upd f3 6 ((f3 6) + 1)) 6 0) 5) + 1)) 5 0) 4) + 1)) 4 0) 3 (((upd (upd (upd (upd (upd (upd f3 6 ((f3 6) + 1)) 6 0) 5 (((upd (upd f3 6 ((f3 6) + 1)) 6 0) 5) + 1)) 5 0) 4 (((upd (upd (upd (upd f3 6 ((f3 6) + 1)) 6 0) 5 (((upd (upd f3 6 ((f3 6) + 1)) 6 0) 5) + 1)) 5 0) 4) + 1)) 4 0) 3) + 1)) 3 0) 2 (((upd (upd (upd (upd (upd (upd (upd (upd f3 6 ((f3 6) + 1)) 6 0) 5 (((upd (upd f3 6 ((f3 6) + 1)) 6 0) 5) + 1)) 5 0) 4 (((upd (upd (upd (upd f3 6 ((f3 6) + 1)) 6 0) 5 (((upd (upd f3 6 ((f3 6) + 1)) 6 0) 5) + 1)) 5 0) 4) + 1)) 4 0) 3 (((upd (upd (upd (upd (upd (upd f3 6 ((f3 6) + 1)) 6 0) 5 (((upd (upd f3 6 ((f3 6) + 1)) 6 0) 5) + 1)) 5 0) 4 (((upd (upd (upd (upd f3 6 ((f3 6) + 1)) 6 0) 5 (((upd (upd f3 6 ((f3 6) + 1)) 6 0) 5) + 1)) 5 0) 4) + 1)) 4 0) 3) + 1)) 3 0) 2) + 1)) 2 0) 1 (((upd (upd (upd (upd (upd (upd (upd (upd (upd (upd f3 6 ((f3 6) + 1)) 6 0) 5 (((upd (upd f3 6 ((f3 6) + 1)) 6 0) 5) + 1)) 5 0) 4 (((upd (upd (upd (upd f3 6 ((f3 6) + 1)) 6 0) 5 (((upd (upd f3 6 ((f3 6) + 1)) 6 0) 5) + 1)) 5 0) 4) + 1)) 4 0) 3 (((upd (upd (upd (upd (upd (upd f3 6 ((f3 6) + 1)) 6 0) 5 (((upd (upd f3 6 ((f3 6) + 1)) 6 0) 5) + 1)) 5 0) 4 (((upd (upd (upd (upd f3 6 ((f3 6) + 1)) 6 0) 5 (((upd (upd f3 6 ((f3 6) + 1)) 6 0) 5) + 1)) 5 0) 4) + 1)) 4 0) 3) + 1)) 3 0) 2 (((upd (upd (upd (upd (upd (upd (upd (upd f3 6 ((f3 6) + 1)) 6 0) 5 (((upd (upd f3 6 ((f3 6) + 1)) 6 0) 5) + 1)) 5 0) 4 (((upd (upd (upd (upd f3 6 ((f3 6) + 1)) 6 0) 5 (((upd (upd f3 6 ((f3 6) + 1)) 6 0) 5) + 1)) 5 0) 4) + 1)) 4 0) 3 (((upd (upd (upd (upd (upd (upd f3 6 ((f3 6) + 1)) 6 0) 5 (((upd (upd f3 6 ((f3 6) + 1)) 6 0) 5) + 1)) 5 0) 4 (((upd (upd (upd (upd f3 6 ((f3 6) + 1)) 6 0) 5 (((upd (upd f3 6 ((f3 6) + 1)) 6 0) 5) + 1)) 5 0) 4) + 1)) 4 0) 3) + 1)) 3 0) 2) + 1)) 2 0) 1) + 1)) 1 0) 0 (((upd (upd (upd (upd (upd (upd (upd (upd (upd (upd (upd (upd f3 6 ((f3 6) + 1)) 6 0) 5 (((upd (upd f3 6 ((f3 6) + 1)) 6 0) 5) + 1)) 5 0) 4 (((upd (upd (upd (upd f3 6 ((f3 6) + 1)) 6 0) 5 (((upd (upd f3 6 ((f3 6) + 1)) 6 0) 5) + 1)) 5 0) 4) + 1)) 4 0) 3 (((upd (upd (upd (upd (upd (upd f3 6 ((f3 6) + 1)) 6 0) 5 (((upd (upd f3 6 ((f3 6) + 1)) 6 0) 5) + 1)) 5 0) 4 (((upd (upd (upd (upd f3 6 ((f3 6) + 1)) 6 0) 5 (((upd (upd f3 6 ((f3 6) + 1)) 6 0) 5) + 1)) 5 0) 4) + 1)) 4 0) 3) + 1)) 3 0) 2 (((upd (upd (upd (upd (upd (upd (upd (upd f3 6 ((f3 6) + 1)) 6 0) 5 (((upd (upd f3 6 ((f3 6) + 1)) 6 0) 5) + 1)) 5 0) 4 (((upd (upd (upd (upd f3 6 ((f3 6) + 1)) 6 0) 5 (((upd (upd f3 6 ((f3 6) + 1)) 6 0) 5) + 1)) 5 0) 4) + 1)) 4 0) 3 (((upd (upd (upd (upd (upd (upd f3 6 ((f3 6) + 1)) 6 0) 5 (((upd (upd f3 6 ((f3 6) + 1)) 6 0) 5) + 1)) 5 0) 4 (((upd (upd (upd (upd f3 6 ((f3 6) + 1)) 6 0) 5 (((upd (upd f3 6 ((f3 6) + 1)) 6 0) 5) + 1)) 5 0) 4) + 1)) 4 0) 3) + 1)) 3 0) 2) + 1)) 2 0) 1 (((upd (upd (upd (upd (upd (upd (upd (upd (upd (upd f3 6 ((f3 6) + 1)) 6 0) 5 (((upd (upd f3 6 ((f3 6) + 1)) 6 0) 5) + 1)) 5 0) 4 (((upd (upd (upd (upd f3 6 ((f3 6) + 1)) 6 0) 5 (((upd (upd f3 6 ((f3 6) + 1)) 6 0) 5) + 1)) 5 0) 4) + 1)) 4 0) 3 (((upd (upd (upd (upd (upd (upd f3 6 ((f3 6) + 1)) 6 0) 5 (((upd (upd f3 6 ((f3 6) + 1)) 6 0) 5) + 1)) 5 0) 4 (((upd (upd (upd (upd f3 6 ((f3 6) + 1)) 6 0) 5 (((upd (upd f3 6 ((f3 6) + 1)) 6 0) 5) + 1)) 5 0) 4) + 1)) 4 0) 3) + 1)) 3 0) 2 (((upd (upd (upd (upd (upd (upd (upd (upd f3 6 ((f3 6) + 1)) 6 0) 5 (((upd (upd f3 6 ((f3 6) + 1)) 6 0) 5) + 1)) 5 0) 4 (((upd (upd (upd (upd f3 6 ((f3 6) + 1)) 6 0) 5 (((upd (upd f3 6 ((f3 6) + 1)) 6 0) 5) + 1)) 5 0) 4) + 1)) 4 0) 3 (((upd (upd (upd (upd (upd (upd f3 6 ((f3 6) + 1)) 6 0) 5 (((upd (upd f3 6 ((f3 6) + 1)) 6 0) 5) + 1)) 5 0) 4 (((upd (upd (upd (upd f3 6 ((f3 6) + 1)) 6 0) 5 (((upd (upd f3 6 ((f3 6) + 1)) 6 0) 5) + 1)) 5 0) 4) + 1)) 4 0) 3) + 1)) 3 0) 2) + 1)) 2 0) 1) + 1)) 1 0) 0) + 1)) 0 0), zAr T 0 a4_4 n4 f4, zAr T 0 a5_5 n4 f5, zAr T 0 a6_6 n4 f6] := ⟨a1_1, a2_2, a3_3, a4_4, a5_5, a6_6, rfl⟩
                have G : zS T A s.heap s [[zO0 h md wy la pc_ a1_1 a2_2 a3_3 a4_4 a5_5 a6_6, zAr T 0 a1_1 7 f1, zAr T 0 a2_2 7 f2, zAr T 0 a3_3 7 (upd (upd (upd (upd (upd (upd (upd (upd (upd (upd (upd (upd (upd (upd f3 6 ((f3 6) + 1)) 6 0) 5 (((upd (upd f3 6 ((f3 6) + 1)) 6 0) 5) + 1)) 5 0) 4 (((upd (upd (upd (upd f3 6 ((f3 6) + 1)) 6 0) 5 (((upd (upd f3 6 ((f3 6) + 1)) 6 0) 5) + 1)) 5 0) 4) + 1)) 4 0) 3 (((upd (upd (upd (upd (upd (upd f3 6 ((f3 6) + 1)) 6 0) 5 (((upd (upd f3 6 ((f3 6) + 1)) 6 0) 5) + 1)) 5 0) 4 (((upd (upd (upd (upd f3 6 ((f3 6) + 1)) 6 0) 5 (((upd (upd f3 6 ((f3 6) + 1)) 6 0) 5) + 1)) 5 0) 4) + 1)) 4 0) 3) + 1)) 3 0) 2 (((upd (upd (upd (upd (upd (upd (upd (upd f3 6 ((f3 6) + 1)) 6 0) 5 (((upd (upd f3 6 ((f3 6) + 1)) 6 0) 5) + 1)) 5 0) 4 (((upd (upd (upd (upd f3 6 ((f3 6) + 1)) 6 0) 5 (((upd (upd f3 6 ((f3 6) + 1)) 6 0) 5) + 1)) 5 0) 4) + 1)) 4 0) 3 (((upd (upd (upd (upd (upd (upd f3 6 ((f3 6) + 1)) 6 0) 5 (((upd (upd f3 6 ((f3 6) + 1)) 6 0) 5) + 1)) 5 0) 4 (((upd (upd (upd (upd f3 6 ((f3 6) + 1)) 6 0) 5 (((upd (upd f3 6 ((f3 6) + 1)) 6 0) 5) + 1)) 5 0) 4) + 1)) 4 0) 3) + 1)) 3 0) 2) + 1)) 2 0) 1 (((upd (upd (upd (upd (upd (upd (upd (upd (upd (upd f3 6 ((f3 6) + 1)) 6 0) 5 (((upd (upd f3 6 ((f3 6) + 1)) 6 0) 5) + 1)) 5 0) 4 (((upd (upd (upd (upd f3 6 ((f3 6) + 1)) 6 0) 5 (((upd (upd f3 6 ((f3 6) + 1)) 6 0) 5) + 1)) 5 0) 4) + 1)) 4 0) 3 (((upd (upd (upd (upd (upd (upd f3 6 ((f3 6) + 1)) 6 0) 5 (((upd (upd f3 6 ((f3 6) + 1)) 6 0) 5) + 1)) 5 0) 4 (((upd (upd (upd (upd f3 6 ((f3 6) + 1)) 6 0) 5 (((upd (upd f3 6 ((f3 6) + 1)) 6 0) 5) + 1)) 5 0) 4) + 1)) 4 0) 3) + 1)) 3 0) 2 (((upd (upd (upd (upd (upd (upd (upd (upd f3 6 ((f3 6) + 1)) 6 0) 5 (((upd (upd f3 6 ((f3 6) + 1)) 6 0) 5) + 1)) 5 0) 4 (((upd (upd (upd (upd f3 6 ((f3 6) + 1)) 6 0) 5 (((upd (upd f3 6 ((f3 6) + 1)) 6 0) 5) + 1)) 5 0) 4) + 1)) 4 0) 3 (((upd (upd (upd (upd (upd (upd f3 6 ((f3 6) + 1)) 6 0) 5 (((upd (upd f3 6 ((f3 6) + 1)) 6 0) 5) + 1)) 5 0) 4 (((upd (upd (upd (upd f3 6 ((f3 6) + 1)) 6 0) 5 (((upd (upd f3 6 ((f3 6) + 1)) 6 0) 5) + 1)) 5 0) 4) + 1)) 4 0) 3) + 1)) 3 0) 2) + 1)) 2 0) 1) + 1)) 1 0) 0 (((upd (upd (upd (upd (upd (upd (upd (upd (upd (upd (upd (upd f3 6 ((f3 6) + 1)) 6 0) 5 (((upd (upd f3 6 ((f3 6) + 1)) 6 0) 5) + 1)) 5 0) 4 (((upd (upd (upd (upd f3 6 ((f3 6) + 1)) 6 0) 5 (((upd (upd f3 6 ((f3 6) + 1)) 6 0) 5) + 1)) 5 0) 4) + 1)) 4 0) 3 (((upd (upd (upd (upd (upd (upd f3 6 ((f3 6) + 1)) 6 0) 5 (((upd (upd f3 6 ((f3 6) + 1)) 6 0) 5) + 1)) 5 0) 4 (((upd (upd (upd (upd f3 6 ((f3 6) + 1)) 6 0) 5 (((upd (upd f3 6 ((f3 6) + 1)) 6 0) 5) + 1)) 5 0) 4) + 1)) 4 0) 3) + 1)) 3 0) 2 (((upd (upd (upd (upd (upd (upd (upd (upd f3 6 ((f3 6) + 1)) 6 0) 5 (((upd (upd f3 6 ((f3 6) + 1)) 6 0) 5) + 1)) 5 0) 4 (((upd (upd (upd (upd f3 6 ((f3 6) + 1)) 6 0) 5 (((upd (upd f3 6 ((f3 6) + 1)) 6 0) 5) + 1)) 5 0) 4) + 1)) 4 0) 3 (((upd (upd (upd (upd (upd (upd f3 6 ((f3 6) + 1)) 6 0) 5 (((upd (upd f3 6 ((f3 6) + 1)) 6 0) 5) + 1)) 5 0) 4 (((upd (upd (upd (upd f3 6 ((f3 6) + 1)) 6 0) 5 (((upd (upd f3 6 ((f3 6) + 1)) 6 0) 5) + 1)) 5 0) 4) + 1)) 4 0) 3) + 1)) 3 0) 2) + 1)) 2 0) 1 (((upd (upd (upd (upd (upd (upd (upd (upd (upd (upd f3 6 ((f3 6) + 1)) 6 0) 5 (((upd (upd f3 6 ((f3 6) + 1)) 6 0) 5) + 1)) 5 0) 4 (((upd (upd (upd (upd f3 6 ((f3 6) + 1)) 6 0) 5 (((upd (upd f3 6 ((f3 6) + 1)) 6 0) 5) + 1)) 5 0) 4) + 1)) 4 0) 3 (((upd (upd (upd (upd (upd (upd f3 6 ((f3 6) + 1)) 6 0) 5 (((upd (upd f3 6 ((f3 6) + 1)) 6 0) 5) + 1)) 5 0) 4 (((upd (upd (upd (upd f3 6 ((f3 6) + 1)) 6 0) 5 (((upd (upd f3 6 ((f3 6) + 1)) 6 0) 5) + 1)) 5 0) 4) + 1)) 4 0) 3) + 1)) 3 0) 2 (((upd (upd (upd (upd (upd (upd (upd (upd f3 6 ((f3 6) + 1)) 6 0) 5 (((upd (upd f3 6 ((f3 6) + 1)) 6 0) 5) + 1)) 5 0) 4 (((upd (upd (upd (upd f3 6 ((f3 6) + 1)) 6 0) 5 (((upd (upd f3 6 ((f3 6) + 1)) 6 0) 5) + 1)) 5 0) 4) + 1)) 4 0) 3 (((upd (upd (upd (upd (upd (upd f3 6 ((f3 6) + 1)) 6 0) 5 (((upd (upd f3 6 ((f3 6) + 1)) 6 0) 5) + 1)) 5 0) 4 (((upd (upd (upd (upd f3 6 ((f3 6) + 1)) 6 0) 5 (((upd (upd f3 6 ((f3 6) + 1)) 6 0) 5) + 1)) 5 0) 4) + 1)) 4 0) 3) + 1)) 3 0) 2) + 1)) 2 0) 1) + 1)) 1 0) 0) + 1)) 0 0), zAr T 0 a4_4 n4 f4, zAr T 0 a5_5 n4 f5, zAr T 0 a6_6 n4 f6]] _ _ := G.re rfl
                exact z_back hQ9 (z_vret C hr hlocks G (Nat.le_of_ble_eq_true rfl) (Nat.le_of_ble_eq_true rfl) dX0_nextRow_46 ⟨([zO0 h md wy la pc_ a1_1 a2_2 a3_3 a4_4 a5_5 a6_6, zAr T 0 a1_1 7 f1, zAr T 0 a2_2 7 f2, zAr T 0 a3_3 7 (upd (upd (upd (upd (upd (upd (upd (upd (upd (upd (upd (upd (upd (upd f3 6 ((f3 6) + 1)) 6 0) 5 (((upd (upd f3 6 ((f3 6) + 1)) 6 0) 5) + 1)) 5 0) 4 (((upd (upd (upd (upd f3 6 ((f3 6) + 1)) 6 0) 5 (((upd (upd f3 6 ((f3 6) + 1)) 6 0) 5) + 1)) 5 0) 4) + 1)) 4 0) 3 (((upd (upd (upd (upd (upd (upd f3 6 ((f3 6) + 1)) 6 0) 5 (((upd (upd f3 6 ((f3 6) + 1)) 6 0) 5) + 1)) 5 0) 4 (((upd (upd (upd (upd f3 6 ((f3 6) + 1)) 6 0) 5 (((upd (upd f3 6 ((f3 6) + 1)) 6 0) 5) + 1)) 5 0) 4) + 1)) 4 0) 3) + 1)) 3 0) 2 (((upd (upd (upd (upd (upd (upd (upd (upd f3 6 ((f3 6) + 1)) 6 0) 5 (((upd (upd f3 6 ((f3 6) + 1)) 6 0) 5) + 1)) 5 0) 4 (((upd (upd (upd (upd f3 6 ((f3 6) + 1)) 6 0) 5 (((upd (upd f3 6 ((f3 6) + 1)) 6 0) 5) + 1)) 5 0) 4) + 1)) 4 0) 3 (((upd (upd (upd (upd (upd (upd f3 6 ((f3 6) + 1)) 6 0) 5 (((upd (upd f3 6 ((f3 6) + 1)) 6 0) 5) + 1)) 5 0) 4 (((upd (upd (upd (upd f3 6 ((f3 6) + 1)) 6 0) 5 (((upd (upd f3 6 ((f3 6) + 1)) 6 0) 5) + 1)) 5 0) 4) + 1)) 4 0) 3) + 1)) 3 0) 2) + 1)) 2 0) 1 (((upd (upd (upd (upd (upd (upd (upd (upd (upd (upd f3 6 ((f3 6) + 1)) 6 0) 5 (((upd (upd f3 6 ((f3 6) + 1)) 6 0) 5) + 1)) 5 0) 4 (((upd (upd (upd (upd f3 6 ((f3 6) + 1)) 6 0) 5 (((upd (upd f3 6 ((f3 6) + 1)) 6 0) 5) + 1)) 5 0) 4) + 1)) 4 0) 3 (((upd (upd (upd (upd (upd (upd f3 6 ((f3 6) + 1)) 6 0) 5 (((upd (upd f3 6 ((f3 6) + 1)) 6 0) 5) + 1)) 5 0) 4 (((upd (upd (upd (upd f3 6 ((f3 6) + 1)) 6 0) 5 (((upd (upd f3 6 ((f3 6) + 1)) 6 0) 5) + 1)) 5 0) 4) + 1)) 4 0) 3) + 1)) 3 0) 2 (((upd (upd (upd (upd (upd (upd (upd (upd f3 6 ((f3 6) + 1)) 6 0) 5 (((upd (upd f3 6 ((f3 6) + 1)) 6 0) 5) + 1)) 5 0) 4 (((upd (upd (upd (upd f3 6 ((f3 6) + 1)) 6 0) 5 (((upd (upd f3 6 ((f3 6) + 1)) 6 0) 5) + 1)) 5 0) 4) + 1)) 4 0) 3 (((upd (upd (upd (upd (upd (upd f3 6 ((f3 6) + 1)) 6 0) 5 (((upd (upd f3 6 ((f3 6) + 1)) 6 0) 5) + 1)) 5 0) 4 (((upd (upd (upd (upd f3 6 ((f3 6) + 1)) 6 0) 5 (((upd (upd f3 6 ((f3 6) + 1)) 6 0) 5) + 1)) 5 0) 4) + 1)) 4 0) 3) + 1)) 3 0) 2) + 1)) 2 0) 1) + 1)) 1 0) 0 (((upd (upd (upd (upd (upd (upd (upd (upd (upd (upd (upd (upd f3 6 ((f3 6) + 1)) 6 0) 5 (((upd (upd f3 6 ((f3 6) + 1)) 6 0) 5) + 1)) 5 0) 4 (((upd (upd (upd (upd f3 6 ((f3 6) + 1)) 6 0) 5 (((upd (upd f3 6 ((f3 6) + 1)) 6 0) 5) + 1)) 5 0) 4) + 1)) 4 0) 3 (((upd (upd (upd (upd (upd (upd f3 6 ((f3 6) + 1)) 6 0) 5 (((upd (upd f3 6 ((f3 6) + 1)) 6 0) 5) + 1)) 5 0) 4 (((upd (upd (upd (upd f3 6 ((f3 6) + 1)) 6 0) 5 (((upd (upd f3 6 ((f3 6) + 1)) 6 0) 5) + 1)) 5 0) 4) + 1)) 4 0) 3) + 1)) 3 0) 2 (((upd (upd (upd (upd (upd (upd (upd (upd f3 6 ((f3 6) + 1)) 6 0) 5 (((upd (upd f3 6 ((f3 6) + 1)) 6 0) 5) + 1)) 5 0) 4 (((upd (upd (upd (upd f3 6 ((f3 6) + 1)) 6 0) 5 (((upd (upd f3 6 ((f3 6) + 1)) 6 0) 5) + 1)) 5 0) 4) + 1)) 4 0) 3 (((upd (upd (upd (upd (upd (upd f3 6 ((f3 6) + 1)) 6 0) 5 (((upd (upd f3 6 ((f3 6) + 1)) 6 0) 5) + 1)) 5 0) 4 (((upd (upd (upd (upd f3 6 ((f3 6) + 1)) 6 0) 5 (((upd (upd f3 6 ((f3 6) + 1)) 6 0) 5) + 1)) 5 0) 4) + 1)) 4 0) 3) + 1)) 3 0) 2) + 1)) 2 0) 1 (((upd (upd (upd (upd (upd (upd (upd (upd (upd (upd f3 6 ((f3 6) + 1)) 6 0) 5 (((upd (upd f3 6 ((f3 6) + 1)) 6 0) 5) + 1)) 5 0) 4 (((upd (upd (upd (upd f3 6 ((f3 6) + 1)) 6 0) 5 (((upd (upd f3 6 ((f3 6) + 1)) 6 0) 5) + 1)) 5 0) 4) + 1)) 4 0) 3 (((upd (upd (upd (upd (upd (upd f3 6 ((f3 6) + 1)) 6 0) 5 (((upd (upd f3 6 ((f3 6) + 1)) 6 0) 5) + 1)) 5 0) 4 (((upd (upd (upd (upd f3 6 ((f3 6) + 1)) 6 0) 5 (((upd (upd f3 6 ((f3 6) + 1)) 6 0) 5) + 1)) 5 0) 4) + 1)) 4 0) 3) + 1)) 3 0) 2 (((upd (upd (upd (upd (upd (upd (upd (upd f3 6 ((f3 6) + 1)) 6 0) 5 (((upd (upd f3 6 ((f3 6) + 1)) 6 0) 5) + 1)) 5 0) 4 (((upd (upd (upd (upd f3 6 ((f3 6) + 1)) 6 0) 5 (((upd (upd f3 6 ((f3 6) + 1)) 6 0) 5) + 1)) 5 0) 4) + 1)) 4 0) 3 (((upd (upd (upd (upd (upd (upd f3 6 ((f3 6) + 1)) 6 0) 5 (((upd (upd f3 6 ((f3 6) + 1)) 6 0) 5) + 1)) 5 0) 4 (((upd (upd (upd (upd f3 6 ((f3 6) + 1)) 6 0) 5 (((upd (upd f3 6 ((f3 6) + 1)) 6 0) 5) + 1)) 5 0) 4) + 1)) 4 0) 3) + 1)) 3 0) 2) + 1)) 2 0) 1) + 1)) 1 0) 0) + 1)) 0 0), zAr T 0 a4_4 n4 f4, zAr T 0 a5_5 n4 f5, zAr T 0 a6_6 n4 f6]), (upd (upd (upd (upd (upd (upd (upd (upd (upd (upd (upd (upd (upd (upd f3 6 ((f3 6) + 1)) 6 0) 5 (((upd (upd f3 6 ((f3 6) + 1)) 6 0) 5) + 1)) 5 0) 4 (((upd (upd (upd (upd f3 6 ((f3 6) + 1)) 6 0) 5 (((upd (upd f3 6 ((f3 6) + 1)) 6 0) 5) + 1)) 5 0) 4) + 1)) 4 0) 3 (((upd (upd (upd (upd (upd (upd f3 6 ((f3 6) + 1)) 6 0) 5 (((upd (upd f3 6 ((f3 6) + 1)) 6 0) 5) + 1)) 5 0) 4 (((upd (upd (upd (upd f3 6 ((f3 6) + 1)) 6 0) 5 (((upd (upd f3 6 ((f3 6) + 1)) 6 0) 5) + 1)) 5 0) 4) + 1)) 4 0) 3) + 1)) 3 0) 2 (((upd (upd (upd (upd (upd (upd (upd (upd f3 6 ((f3 6) + 1)) 6 0) 5 (((upd (upd f3 6 ((f3 6) + 1)) 6 0) 5) + 1)) 5 0) 4 (((upd (upd (upd (upd f3 6 ((f3 6) + 1)) 6 0) 5 (((upd (upd f3 6 ((f3 6) + 1)) 6 0) 5) + 1)) 5 0) 4) + 1)) 4 0) 3 (((upd (upd (upd (upd (upd (upd f3 6 ((f3 6) + 1)) 6 0) 5 (((upd (upd f3 6 ((f3 6) + 1)) 6 0) 5) + 1)) 5 0) 4 (((upd (upd (upd (upd f3 6 ((f3 6) + 1)) 6 0) 5 (((upd (upd f3 6 ((f3 6) + 1)) 6 0) 5) + 1)) 5 0) 4) + 1)) 4 0) 3) + 1)) 3 0) 2) + 1)) 2 0) 1 (((upd (upd (upd (upd (upd (upd (upd (upd (upd (upd f3 6 ((f3 6) + 1)) 6 0) 5 (((upd (upd f3 6 ((f3 6) + 1)) 6 0) 5) + 1)) 5 0) 4 (((upd (upd (upd (upd f3 6 ((f3 6) + 1)) 6 0) 5 (((upd (upd f3 6 ((f3 6) + 1)) 6 0) 5) + 1)) 5 0) 4) + 1)) 4 0) 3 (((upd (upd (upd (upd (upd (upd f3 6 ((f3 6) + 1)) 6 0) 5 (((upd (upd f3 6 ((f3 6) + 1)) 6 0) 5) + 1)) 5 0) 4 (((upd (upd (upd (upd f3 6 ((f3 6) + 1)) 6 0) 5 (((upd (upd f3 6 ((f3 6) + 1)) 6 0) 5) + 1)) 5 0) 4) + 1)) 4 0) 3) + 1)) 3 0) 2 (((upd (upd (upd (upd (upd (upd (upd (upd f3 6 ((f3 6) + 1)) 6 0) 5 (((upd (upd f3 6 ((f3 6) + 1)) 6 0) 5) + 1)) 5 0) 4 (((upd (upd (upd (upd f3 6 ((f3 6) + 1)) 6 0) 5 (((upd (upd f3 6 ((f3 6) + 1)) 6 0) 5) + 1)) 5 0) 4) + 1)) 4 0) 3 (((upd (upd (upd (upd (upd (upd f3 6 ((f3 6) + 1)) 6 0) 5 (((upd (upd f3 6 ((f3 6) + 1)) 6 0) 5) + 1)) 5 0) 4 (((upd (upd (upd (upd f3 6 ((f3 6) + 1)) 6 0) 5 (((upd (upd f3 6 ((f3 6) + 1)) 6 0) 5) + 1)) 5 0) 4) + 1)) 4 0) 3) + 1)) 3 0) 2) + 1)) 2 0) 1) + 1)) 1 0) 0 (((upd (upd (upd (upd (upd (upd (upd (upd (upd (upd (upd (upd f3 6 ((f3 6) + 1)) 6 0) 5 (((upd (upd f3 6 ((f3 6) + 1)) 6 0) 5) + 1)) 5 0) 4 (((upd (upd (upd (upd f3 6 ((f3 6) + 1)) 6 0) 5 (((upd (upd f3 6 ((f3 6) + 1)) 6 0) 5) + 1)) 5 0) 4) + 1)) 4 0) 3 (((upd (upd (upd (upd (upd (upd f3 6 ((f3 6) + 1)) 6 0) 5 (((upd (upd f3 6 ((f3 6) + 1)) 6 0) 5) + 1)) 5 0) 4 (((upd (upd (upd (upd f3 6 ((f3 6) + 1)) 6 0) 5 (((upd (upd f3 6 ((f3 6) + 1)) 6 0) 5) + 1)) 5 0) 4) + 1)) 4 0) 3) + 1)) 3 0) 2 (((upd (upd (upd (upd (upd (upd (upd (upd f3 6 ((f3 6) + 1)) 6 0) 5 (((upd (upd f3 6 ((f3 6) + 1)) 6 0) 5) + 1)) 5 0) 4 (((upd (upd (upd (upd f3 6 ((f3 6) + 1)) 6 0) 5 (((upd (upd f3 6 ((f3 6) + 1)) 6 0) 5) + 1)) 5 0) 4) + 1)) 4 0) 3 (((upd (upd (upd (upd (upd (upd f3 6 ((f3 6) + 1)) 6 0) 5 (((upd (upd f3 6 ((f3 6) + 1)) 6 0) 5) + 1)) 5 0) 4 (((upd (upd (upd (upd f3 6 ((f3 6) + 1)) 6 0) 5 (((upd (upd f3 6 ((f3 6) + 1)) 6 0) 5) + 1)) 5 0) 4) + 1)) 4 0) 3) + 1)) 3 0) 2) + 1)) 2 0) 1 (((upd (upd (upd (upd (upd (upd (upd (upd (upd (upd f3 6 ((f3 6) + 1)) 6 0) 5 (((upd (upd f3 6 ((f3 6) + 1)) 6 0) 5) + 1)) 5 0) 4 (((upd (upd (upd (upd f3 6 ((f3 6) + 1)) 6 0) 5 (((upd (upd f3 6 ((f3 6) + 1)) 6 0) 5) + 1)) 5 0) 4) + 1)) 4 0) 3 (((upd (upd (upd (upd (upd (upd f3 6 ((f3 6) + 1)) 6 0) 5 (((upd (upd f3 6 ((f3 6) + 1)) 6 0) 5) + 1)) 5 0) 4 (((upd (upd (upd (upd f3 6 ((f3 6) + 1)) 6 0) 5 (((upd (upd f3 6 ((f3 6) + 1)) 6 0) 5) + 1)) 5 0) 4) + 1)) 4 0) 3) + 1)) 3 0) 2 (((upd (upd (upd (upd (upd (upd (upd (upd f3 6 ((f3 6) + 1)) 6 0) 5 (((upd (upd f3 6 ((f3 6) + 1)) 6 0) 5) + 1)) 5 0) 4 (((upd (upd (upd (upd f3 6 ((f3 6) + 1)) 6 0) 5 (((upd (upd f3 6 ((f3 6) + 1)) 6 0) 5) + 1)) 5 0) 4) + 1)) 4 0) 3 (((upd (upd (upd (upd (upd (upd f3 6 ((f3 6) + 1)) 6 0) 5 (((upd (upd f3 6 ((f3 6) + 1)) 6 0) 5) + 1)) 5 0) 4 (((upd (upd (upd (upd f3 6 ((f3 6) + 1)) 6 0) 5 (((upd (upd f3 6 ((f3 6) + 1)) 6 0) 5) + 1)) 5 0) 4) + 1)) 4 0) 3) + 1)) 3 0) 2) + 1)) 2 0) 1) + 1)) 1 0) 0) + 1)) 0 0), rfl, hw_35⟩)
              · have c_34n : ¬ (f1 0).toInt ≤ (((upd (upd (upd (upd (upd (upd (upd (upd (upd (upd (upd (upd f3 6 ((f3 6) + 1)) 6 0) 5 (((upd (upd f3 6 ((f3 6) + 1)) 6 0) 5) + 1)) 5 0) 4 (((upd (upd (upd (upd f3 6 ((f3 6) + 1)) 6 0) 5 (((upd (upd f3 6 ((f3 6) + 1)) 6 0) 5) + 1)) 5 0) 4) + 1)) 4 0) 3 (((upd (upd (upd (upd (upd (upd f3 6 ((f3 6) + 1)) 6 0) 5 (((upd (upd f3 6 ((f3 6) + 1)) 6 0) 5) + 1)) 5 0) 4 (((upd (upd (upd (upd f3 6 ((f3 6) + 1)) 6 0) 5 (((upd (upd f3 6 ((f3 6) + 1)) 6 0) 5) + 1)) 5 0) 4) + 1)) 4 0) 3) + 1)) 3 0) 2 (((upd (upd (upd (upd (upd (upd (upd (upd f3 6 ((f3 6) + 1)) 6 0) 5 (((upd (upd f3 6 ((f3 6) + 1)) 6 0) 5) + 1)) 5 0) 4 (((upd (upd (upd (upd f3 6 ((f3 6) + 1)) 6 0) 5 (((upd (upd f3 6 ((f3 6) + 1)) 6 0) 5) + 1)) 5 0) 4) + 1)) 4 0) 3 (((upd (upd (upd (upd (upd (upd f3 6 ((f3 6) + 1)) 6 0) 5 (((upd (upd f3 6 ((f3 6) + 1)) 6 0) 5) + 1)) 5 0) 4 (((upd (upd (upd (upd f3 6 ((f3 6) + 1)) 6 0) 5 (((upd (upd f3 6 ((f3 6) + 1)) 6 0) 5) + 1)) 5 0) 4) + 1)) 4 0) 3) + 1)) 3 0) 2) + 1)) 2 0) 1 (((upd (upd (upd (upd (upd (upd (upd (upd (upd (upd f3 6 ((f3 6) + 1)) 6 0) 5 (((upd (upd f3 6 ((f3 6) + 1)) 6 0) 5) + 1)) 5 0) 4 (((upd (upd (upd (upd f3 6 ((f3 6) + 1)) 6 0) 5 (((upd (upd f3 6 ((f3 6) + 1)) 6 0) 5) + 1)) 5 0) 4) + 1)) 4 0) 3 (((upd (upd (upd (upd (upd (upd f3 6 ((f3 6) + 1)) 6 0) 5 (((upd (upd f3 6 ((f3 6) + 1)) 6 0) 5) + 1)) 5 0) 4 (((upd (upd (upd (upd f3 6 ((f3 6) + 1)) 6 0) 5 (((upd (upd f3 6 ((f3 6) + 1)) 6 0) 5) + 1)) 5 0) 4) + 1)) 4 0) 3) + 1)) 3 0) 2 (((upd (upd (upd (upd (upd (upd (upd (upd f3 6 ((f3 6) + 1)) 6 0) 5 (((upd (upd f3 6 ((f3 6) + 1)) 6 0) 5) + 1)) 5 0) 4 (((upd (upd (upd (upd f3 6 ((f3 6) + 1)) 6 0) 5 (((upd (upd f3 6 ((f3 6) + 1)) 6 0) 5) + 1)) 5 0) 4) + 1)) 4 0) 3 (((upd (upd (upd (upd (upd (upd f3 6 ((f3 6) + 1)) 6 0) 5 (((upd (upd f3 6 ((f3 6) + 1)) 6 0) 5) + 1)) 5 0) 4 (((upd (upd (upd (upd f3 6 ((f3 6) + 1)) 6 0) 5 (((upd (upd f3 6 ((f3 6) + 1)) 6 0) 5) + 1)) 5 0) 4) + 1)) 4 0) 3) + 1)) 3 0) 2) + 1)) 2 0) 1) + 1)) 1 0) 0) + 1).toInt := fun q => c_34 ((fa_le _ _).mpr q)
                have hw_36 : bWays T h la md wy pc_ f1 f2 (upd (upd (upd (upd (upd (upd (upd (upd (upd (upd (upd (upd (upd f3 6 ((f3 6) + 1)) 6 0) 5 (((upd (upd f3 6 ((f3 6) + 1)) 6 0) 5) + 1)) 5 0) 4 (((upd (upd (upd (upd f3 6 ((f3 6) + 1)) 6 0) 5 (((upd (upd f3 6 ((f3 6) + 1)) 6 0) 5) + 1)) 5 0) 4) + 1)) 4 0) 3 (((upd (upd (upd (upd (upd (upd f3 6 ((f3 6) + 1)) 6 0) 5 (((upd (upd f3 6 ((f3 6) + 1)) 6 0) 5) + 1)) 5 0) 4 (((upd (upd (upd (upd f3 6 ((f3 6) + 1)) 6 0) 5 (((upd (upd f3 6 ((f3 6) + 1)) 6 0) 5) + 1)) 5 0) 4) + 1)) 4 0) 3) + 1)) 3 0) 2 (((upd (upd (upd (upd (upd (upd (upd (upd f3 6 ((f3 6) + 1)) 6 0) 5 (((upd (upd f3 6 ((f3 6) + 1)) 6 0) 5) + 1)) 5 0) 4 (((upd (upd (upd (upd f3 6 ((f3 6) + 1)) 6 0) 5 (((upd (upd f3 6 ((f3 6) + 1)) 6 0) 5) + 1)) 5 0) 4) + 1)) 4 0) 3 (((upd (upd (upd (upd (upd (upd f3 6 ((f3 6) + 1)) 6 0) 5 (((upd (upd f3 6 ((f3 6) + 1)) 6 0) 5) + 1)) 5 0) 4 (((upd (upd (upd (upd f3 6 ((f3 6) + 1)) 6 0) 5 (((upd (upd f3 6 ((f3 6) + 1)) 6 0) 5) + 1)) 5 0) 4) + 1)) 4 0) 3) + 1)) 3 0) 2) + 1)) 2 0) 1 (((upd (upd (upd (upd (upd (upd (upd (upd (upd (upd f3 6 ((f3 6) + 1)) 6 0) 5 (((upd (upd f3 6 ((f3 6) + 1)) 6 0) 5) + 1)) 5 0) 4 (((upd (upd (upd (upd f3 6 ((f3 6) + 1)) 6 0) 5 (((upd (upd f3 6 ((f3 6) + 1)) 6 0) 5) + 1)) 5 0) 4) + 1)) 4 0) 3 (((upd (upd (upd (upd (upd (upd f3 6 ((f3 6) + 1)) 6 0) 5 (((upd (upd f3 6 ((f3 6) + 1)) 6 0) 5) + 1)) 5 0) 4 (((upd (upd (upd (upd f3 6 ((f3 6) + 1)) 6 0) 5 (((upd (upd f3 6 ((f3 6) + 1)) 6 0) 5) + 1)) 5 0) 4) + 1)) 4 0) 3) + 1)) 3 0) 2 (((upd (upd (upd (upd (upd (upd (upd (upd f3 6 ((f3 6) + 1)) 6 0) 5 (((upd (upd f3 6 ((f3 6) + 1)) 6 0) 5) + 1)) 5 0) 4 (((upd (upd (upd (upd f3 6 ((f3 6) + 1)) 6 0) 5 (((upd (upd f3 6 ((f3 6) + 1)) 6 0) 5) + 1)) 5 0) 4) + 1)) 4 0) 3 (((upd (upd (upd (upd (upd (upd f3 6 ((f3 6) + 1)) 6 0) 5 (((upd (upd f3 6 ((f3 6) + 1)) 6 0) 5) + 1)) 5 0) 4 (((upd (upd (upd (upd f3 6 ((f3 6) + 1)) 6 0) 5 (((upd (upd f3 6 ((f3 6) + 1)) 6 0) 5) + 1)) 5 0) 4) + 1)) 4 0) 3) + 1)) 3 0) 2) + 1)) 2 0) 1) + 1)) 1 0) 0 (((upd (upd (upd (upd (upd (upd (upd (upd (upd (upd (upd (upd f3 6 ((f3 6) + 1)) 6 0) 5 (((upd (upd f3 6 ((f3 6) + 1)) 6 0) 5) + 1)) 5 0) 4 (((upd (upd (upd (upd f3 6 ((f3 6) + 1)) 6 0) 5 (((upd (upd f3 6 ((f3 6) + 1)) 6 0) 5) + 1)) 5 0) 4) + 1)) 4 0) 3 (((upd (upd (upd (upd (upd (upd f3 6 ((f3 6) + 1)) 6 0) 5 (((upd (upd f3 6 ((f3 6) + 1)) 6 0) 5) + 1)) 5 0) 4 (((upd (upd (upd (upd f3 6 ((f3 6) + 1)) 6 0) 5 (((upd (upd f3 6 ((f3 6) + 1)) 6 0) 5) + 1)) 5 0) 4) + 1)) 4 0) 3) + 1)) 3 0) 2 (((upd (upd (upd (upd (upd (upd (upd (upd f3 6 ((f3 6) + 1)) 6 0) 5 (((upd (upd f3 6 ((f3 6) + 1)) 6 0) 5) + 1)) 5 0) 4 (((upd (upd (upd (upd f3 6 ((f3 6) + 1)) 6 0) 5 (((upd (upd f3 6 ((f3 6) + 1)) 6 0) 5) + 1)) 5 0) 4) + 1)) 4 0) 3 (((upd (upd (upd (upd (upd (upd f3 6 ((f3 6) + 1)) 6 0) 5 (((upd (upd f3 6 ((f3 6) + 1)) 6 0) 5) + 1)) 5 0) 4 (((upd (upd (upd (upd f3 6 ((f3 6) + 1)) 6 0) 5 (((upd (upd f3 6 ((f3 6) + 1)) 6 0) 5) + 1)) 5 0) 4) + 1)) 4 0) 3) + 1)) 3 0) 2) + 1)) 2 0) 1 (((upd (upd (upd (upd (upd (upd (upd (upd (upd (upd f3 6 ((f3 6) + 1)) 6 0) 5 (((upd (upd f3 6 ((f3 6) + 1)) 6 0) 5) + 1)) 5 0) 4 (((upd (upd (upd (upd f3 6 ((f3 6) + 1)) 6 0) 5 (((upd (upd f3 6 ((f3 6) + 1)) 6 0) 5) + 1)) 5 0) 4) + 1)) 4 0) 3 (((upd (upd (upd (upd (upd (upd f3 6 ((f3 6) + 1)) 6 0) 5 (((upd (upd f3 6 ((f3 6) + 1)) 6 0) 5) + 1)) 5 0) 4 (((upd (upd (upd (upd f3 6 ((f3 6) + 1)) 6 0) 5 (((upd (upd f3 6 ((f3 6) + 1)) 6 0) 5) + 1)) 5 0) 4) + 1)) 4 0) 3) + 1)) 3 0) 2 (((upd (upd (upd (upd (upd (upd (upd (upd f3 6 ((f3 6) + 1)) 6 0) 5 (((upd (upd f3 6 ((f3 6) + 1)) 6 0) 5) + 1)) 5 0) 4 (((upd (upd (upd (upd f3 6 ((f3 6) + 1)) 6 0) 5 (((upd (upd f3 6 ((f3 6) + 1)) 6 0) 5) + 1)) 5 0) 4) + 1)) 4 0) 3 (((upd (upd (upd (upd (upd (upd f3 6 ((f3 6) + 1)) 6 0) 5 (((upd (upd f3 6 ((f3 6) + 1)) 6 0) 5) + 1)) 5 0) 4 (((upd (upd (upd (upd f3 6 ((f3 6) + 1)) 6 0) 5 (((upd (upd f3 6 ((f3 6) + 1)) 6 0) 5) + 1)) 5 0) 4) + 1)) 4 0) 3) + 1)) 3 0) 2) + 1)) 2 0) 1) + 1)) 1 0) 0) + 1)) f4 f5 f6 n4 [zO0 h md wy la pc_ a1_1 a2_2 a3_3 a4_4 a5_5 a6_6, zAr T 0 a1_1 7 f1, zAr T 0 a2_2 7 f2, zAr T 0 a3_3 7 (upd (upd (upd (upd (upd (upd (upd (upd (upd (upd (upd (upd (upd f3 6 ((f3 6) + 1)) 6 0) 5 (((upd (upd f3 6 ((f3 6) + 1)) 6 0) 5) + 1)) 5 0) 4 (((upd (upd (upd (upd f3 6 ((f3 6) + 1)) 6 0) 5 (((upd (upd f3 6 ((f3 6) + 1)) 6 0) 5) + 1)) 5 0) 4) + 1)) 4 0) 3 (((upd (upd (upd (upd (upd (upd f3 6 ((f3 6) + 1)) 6 0) 5 (((upd (upd f3 6 ((f3 6) + 1)) 6 0) 5) + 1)) 5 0) 4 (((upd (upd (upd (upd f3 6 ((f3 6) + 1)) 6 0) 5 (((upd (upd f3 6 ((f3 6) + 1)) 6 0) 5) + 1)) 5 0) 4) + 1)) 4 0) 3) + 1)) 3 0) 2 (((upd (upd (upd (upd (upd (upd (upd (upd f3 6 ((f3 6) + 1)) 6 0) 5 (((upd (upd f3 6 ((f3 6) + 1)) 6 0) 5) + 1)) 5 0) 4 (((upd (upd (upd (upd f3 6 ((f3 6) + 1)) 6 0) 5 (((upd (upd f3 6 ((f3 6) + 1)) 6 0) 5) + 1)) 5 0) 4) + 1)) 4 0) 3 (((upd (upd (upd (upd (upd (upd f3 6 ((f3 6) + 1)) 6 0) 5 (((upd (upd f3 6 ((f3 6) + 1)) 6 0) 5) + 1)) 5 0) 4 (((upd (upd (upd (upd f3 6 ((f3 6) + 1)) 6 0) 5 (((upd (upd f3 6 ((f3 6) + 1)) 6 0) 5) + 1)) 5 0) 4) + 1)) 4 0) 3) + 1)) 3 0) 2) + 1)) 2 0) 1 (((upd (upd (upd (upd (upd (upd (upd (upd (upd (upd f3 6 ((f3 6) + 1)) 6 0) 5 (((upd (upd f3 6 ((f3 6) + 1)) 6 0) 5) + 1)) 5 0) 4 (((upd (upd (upd (upd f3 6 ((f3 6) + 1)) 6 0) 5 (((upd (upd f3 6 ((f3 6) + 1)) 6 0) 5) + 1)) 5 0) 4) + 1)) 4 0) 3 (((upd (upd (upd (upd (upd (upd f3 6 ((f3 6) + 1)) 6 0) 5 (((upd (upd f3 6 ((f3 6) + 1)) 6 0) 5) + 1)) 5 0) 4 (((upd (upd (upd (upd f3 6 ((f3 6) + 1)) 6 0) 5 (((upd (upd f3 6 ((f3 6) + 1)) 6 0) 5) + 1)) 5 0) 4) + 1)) 4 0) 3) + 1)) 3 0) 2 (((upd (upd (upd (upd (upd (upd (upd (upd f3 6 ((f3 6) + 1)) 6 0) 5 (((upd (upd f3 6 ((f3 6) + 1)) 6 0) 5) + 1)) 5 0) 4 (((upd (upd (upd (upd f3 6 ((f3 6) + 1)) 6 0) 5 (((upd (upd f3 6 ((f3 6) + 1)) 6 0) 5) + 1)) 5 0) 4) + 1)) 4 0) 3 (((upd (upd (upd (upd (upd (upd f3 6 ((f3 6) + 1)) 6 0) 5 (((upd (upd f3 6 ((f3 6) + 1)) 6 0) 5) + 1)) 5 0) 4 (((upd (upd (upd (upd f3 6 ((f3 6) + 1)) 6 0) 5 (((upd (upd f3 6 ((f3 6) + 1)) 6 0) 5) + 1)) 5 0) 4) + 1)) 4 0) 3) + 1)) 3 0) 2) + 1)) 2 0) 1) + 1)) 1 0) 0 (((upd (upd (upd (upd (upd (upd (upd (upd (upd (upd (upd (upd f3 6 ((f3 6) + 1)) 6 0) 5 (((upd (upd f3 6 ((f3 6) + 1)) 6 0) 5) + 1)) 5 0) 4 (((upd (upd (upd (upd f3 6 ((f3 6) + 1)) 6 0) 5 (((upd (upd f3 6 ((f3 6) + 1)) 6 0) 5) + 1)) 5 0) 4) + 1)) 4 0) 3 (((upd (upd (upd (upd (upd (upd f3 6 ((f3 6) + 1)) 6 0) 5 (((upd (upd f3 6 ((f3 6) + 1)) 6 0) 5) + 1)) 5 0) 4 (((upd (upd (upd (upd f3 6 ((f3 6) + 1)) 6 0) 5 (((upd (upd f3 6 ((f3 6) + 1)) 6 0) 5) + 1)) 5 0) 4) + 1)) 4 0) 3) + 1)) 3 0) 2 (((upd (upd (upd (upd (upd (upd (upd (upd f3 6 ((f3 6) + 1)) 6 0) 5 (((upd (upd f3 6 ((f3 6) + 1)) 6 0) 5) + 1)) 5 0) 4 (((upd (upd (upd (upd f3 6 ((f3 6) + 1)) 6 0) 5 (((upd (upd f3 6 ((f3 6) + 1)) 6 0) 5) + 1)) 5 0) 4) + 1)) 4 0) 3 (((upd (upd (upd (upd (upd (upd f3 6 ((f3 6) + 1)) 6 0) 5 (((upd (upd f3 6 ((f3 6) + 1)) 6 0) 5) + 1)) 5 0) 4 (((upd (upd (upd (upd f3 6 ((f3 6) + 1)) 6 0) 5 (((upd (upd f3 6 ((f3 6) + 1)) 6 0) 5) + 1)) 5 0) 4) + 1)) 4 0) 3) + 1)) 3 0) 2) + 1)) 2 0) 1 (((upd (upd (upd (upd (upd (upd (upd (upd (upd (upd f3 6 ((f3 6) + 1)) 6 0) 5 (((upd (upd f3 6 ((f3 6) + 1)) 6 0) 5) + 1)) 5 0) 4 (((upd (upd (upd (upd f3 6 ((f3 6) + 1)) 6 0) 5 (((upd (upd f3 6 ((f3 6) + 1)) 6 0) 5) + 1)) 5 0) 4) + 1)) 4 0) 3 (((upd (upd (upd (upd (upd (upd f3 6 ((f3 6) + 1)) 6 0) 5 (((upd (upd f3 6 ((f3 6) + 1)) 6 0) 5) + 1)) 5 0) 4 (((upd (upd (upd (upd f3 6 ((f3 6) + 1)) 6 0) 5 (((upd (upd f3 6 ((f3 6) + 1)) 6 0) 5) + 1)) 5 0) 4) + 1)) 4 0) 3) + 1)) 3 0) 2 (((upd (upd (upd (upd (upd (upd (upd (upd f3 6 ((f3 6) + 1)) 6 0) 5 (((upd (upd f3 6 ((f3 6) + 1)) 6 0) 5) + 1)) 5 0) 4 (((upd (upd (upd (upd f3 6 ((f3 6) + 1)) 6 0) 5 (((upd (upd f3 6 ((f3 6) + 1)) 6 0) 5) + 1)) 5 0) 4) + 1)) 4 0) 3 (((upd (upd (upd (upd (upd (upd f3 6 ((f3 6) + 1)) 6 0) 5 (((upd (upd f3 6 ((f3 6) + 1)) 6 0) 5) + 1)) 5 0) 4 (((upd (upd (upd (upd f3 6 ((f3 6) + 1)) 6 0) 5 (((upd (upd f3 6 ((f3 6) + 1)) 6 0) 5) + 1)) 5 0) 4) + 1)) 4 0) 3) + 1)) 3 0) 2) + 1)) 2 0) 1) + 1)) 1 0) 0) + 1)), zAr T 0 a4_4 n4 f4, zAr T 0 a5_5 n4 f5, zAr T 0 a6_6 n4 f6] := ⟨a1_1, a2_2, a3_3, a4_4, a5_5, a6_6, rfl⟩
                have G : zS T A s.heap s [[zO0 h md wy la pc_ a1_1 a2_2 a3_3 a4_4 a5_5 a6_6, zAr T 0 a1_1 7 f1, zAr T 0 a2_2 7 f2, zAr T 0 a3_3 7 (upd (upd (upd (upd (upd (upd (upd (upd (upd (upd (upd (upd (upd f3 6 ((f3 6) + 1)) 6 0) 5 (((upd (upd f3 6 ((f3 6) + 1)) 6 0) 5) + 1)) 5 0) 4 (((upd (upd (upd (upd f3 6 ((f3 6) + 1)) 6 0) 5 (((upd (upd f3 6 ((f3 6) + 1)) 6 0) 5) + 1)) 5 0) 4) + 1)) 4 0) 3 (((upd (upd (upd (upd (upd (upd f3 6 ((f3 6) + 1)) 6 0) 5 (((upd (upd f3 6 ((f3 6) + 1)) 6 0) 5) + 1)) 5 0) 4 (((upd (upd (upd (upd f3 6 ((f3 6) + 1)) 6 0) 5 (((upd (upd f3 6 ((f3 6) + 1)) 6 0) 5) + 1)) 5 0) 4) + 1)) 4 0) 3) + 1)) 3 0) 2 (((upd (upd (upd (upd (upd (upd (upd (upd f3 6 ((f3 6) + 1)) 6 0) 5 (((upd (upd f3 6 ((f3 6) + 1)) 6 0) 5) + 1)) 5 0) 4 (((upd (upd (upd (upd f3 6 ((f3 6) + 1)) 6 0) 5 (((upd (upd f3 6 ((f3 6) + 1)) 6 0) 5) + 1)) 5 0) 4) + 1)) 4 0) 3 (((upd (upd (upd (upd (upd (upd f3 6 ((f3 6) + 1)) 6 0) 5 (((upd (upd f3 6 ((f3 6) + 1)) 6 0) 5) + 1)) 5 0) 4 (((upd (upd (upd (upd f3 6 ((f3 6) + 1)) 6 0) 5 (((upd (upd f3 6 ((f3 6) + 1)) 6 0) 5) + 1)) 5 0) 4) + 1)) 4 0) 3) + 1)) 3 0) 2) + 1)) 2 0) 1 (((upd (upd (upd (upd (upd (upd (upd (upd (upd (upd f3 6 ((f3 6) + 1)) 6 0) 5 (((upd (upd f3 6 ((f3 6) + 1)) 6 0) 5) + 1)) 5 0) 4 (((upd (upd (upd (upd f3 6 ((f3 6) + 1)) 6 0) 5 (((upd (upd f3 6 ((f3 6) + 1)) 6 0) 5) + 1)) 5 0) 4) + 1)) 4 0) 3 (((upd (upd (upd (upd (upd (upd f3 6 ((f3 6) + 1)) 6 0) 5 (((upd (upd f3 6 ((f3 6) + 1)) 6 0) 5) + 1)) 5 0) 4 (((upd (upd (upd (upd f3 6 ((f3 6) + 1)) 6 0) 5 (((upd (upd f3 6 ((f3 6) + 1)) 6 0) 5) + 1)) 5 0) 4) + 1)) 4 0) 3) + 1)) 3 0) 2 (((upd (upd (upd (upd (upd (upd (upd (upd f3 6 ((f3 6) + 1)) 6 0) 5 (((upd (upd f3 6 ((f3 6) + 1)) 6 0) 5) + 1)) 5 0) 4 (((upd (upd (upd (upd f3 6 ((f3 6) + 1)) 6 0) 5 (((upd (upd f3 6 ((f3 6) + 1)) 6 0) 5) + 1)) 5 0) 4) + 1)) 4 0) 3 (((upd (upd (upd (upd (upd (upd f3 6 ((f3 6) + 1)) 6 0) 5 (((upd (upd f3 6 ((f3 6) + 1)) 6 0) 5) + 1)) 5 0) 4 (((upd (upd (upd (upd f3 6 ((f3 6) + 1)) 6 0) 5 (((upd (upd f3 6 ((f3 6) + 1)) 6 0) 5) + 1)) 5 0) 4) + 1)) 4 0) 3) + 1)) 3 0) 2) + 1)) 2 0) 1) + 1)) 1 0) 0 (((upd (upd (upd (upd (upd (upd (upd (upd (upd (upd (upd (upd f3 6 ((f3 6) + 1)) 6 0) 5 (((upd (upd f3 6 ((f3 6) + 1)) 6 0) 5) + 1)) 5 0) 4 (((upd (upd (upd (upd f3 6 ((f3 6) + 1)) 6 0) 5 (((upd (upd f3 6 ((f3 6) + 1)) 6 0) 5) + 1)) 5 0) 4) + 1)) 4 0) 3 (((upd (upd (upd (upd (upd (upd f3 6 ((f3 6) + 1)) 6 0) 5 (((upd (upd f3 6 ((f3 6) + 1)) 6 0) 5) + 1)) 5 0) 4 (((upd (upd (upd (upd f3 6 ((f3 6) + 1)) 6 0) 5 (((upd (upd f3 6 ((f3 6) + 1)) 6 0) 5) + 1)) 5 0) 4) + 1)) 4 0) 3) + 1)) 3 0) 2 (((upd (upd (upd (upd (upd (upd (upd (upd f3 6 ((f3 6) + 1)) 6 0) 5 (((upd (upd f3 6 ((f3 6) + 1)) 6 0) 5) + 1)) 5 0) 4 (((upd (upd (upd (upd f3 6 ((f3 6) + 1)) 6 0) 5 (((upd (upd f3 6 ((f3 6) + 1)) 6 0) 5) + 1)) 5 0) 4) + 1)) 4 0) 3 (((upd (upd (upd (upd (upd (upd f3 6 ((f3 6) + 1)) 6 0) 5 (((upd (upd f3 6 ((f3 6) + 1)) 6 0) 5) + 1)) 5 0) 4 (((upd (upd (upd (upd f3 6 ((f3 6) + 1)) 6 0) 5 (((upd (upd f3 6 ((f3 6) + 1)) 6 0) 5) + 1)) 5 0) 4) + 1)) 4 0) 3) + 1)) 3 0) 2) + 1)) 2 0) 1 (((upd (upd (upd (upd (upd (upd (upd (upd (upd (upd f3 6 ((f3 6) + 1)) 6 0) 5 (((upd (upd f3 6 ((f3 6) + 1)) 6 0) 5) + 1)) 5 0) 4 (((upd (upd (upd (upd f3 6 ((f3 6) + 1)) 6 0) 5 (((upd (upd f3 6 ((f3 6) + 1)) 6 0) 5) + 1)) 5 0) 4) + 1)) 4 0) 3 (((upd (upd (upd (upd (upd (upd f3 6 ((f3 6) + 1)) 6 0) 5 (((upd (upd f3 6 ((f3 6) + 1)) 6 0) 5) + 1)) 5 0) 4 (((upd (upd (upd (upd f3 6 ((f3 6) + 1)) 6 0) 5 (((upd (upd f3 6 ((f3 6) + 1)) 6 0) 5) + 1)) 5 0) 4) + 1)) 4 0) 3) + 1)) 3 0) 2 (((upd (upd (upd (upd (upd (upd (upd (upd f3 6 ((f3 6) + 1)) 6 0) 5 (((upd (upd f3 6 ((f3 6) + 1)) 6 0) 5) + 1)) 5 0) 4 (((upd (upd (upd (upd f3 6 ((f3 6) + 1)) 6 0) 5 (((upd (upd f3 6 ((f3 6) + 1)) 6 0) 5) + 1)) 5 0) 4) + 1)) 4 0) 3 (((upd (upd (upd (upd (upd (upd f3 6 ((f3 6) + 1)) 6 0) 5 (((upd (upd f3 6 ((f3 6) + 1)) 6 0) 5) + 1)) 5 0) 4 (((upd (upd (upd (upd f3 6 ((f3 6) + 1)) 6 0) 5 (((upd (upd f3 6 ((f3 6) + 1)) 6 0) 5) + 1)) 5 0) 4) + 1)) 4 0) 3) + 1)) 3 0) 2) + 1)) 2 0) 1) + 1)) 1 0) 0) + 1)), zAr T 0 a4_4 n4 f4, zAr T 0 a5_5 n4 f5, zAr T 0 a6_6 n4 f6]] _ _ := G.re rfl
                exact z_back hQ9 (z_vret C hr hlocks G (Nat.le_of_ble_eq_true rfl) (Nat.le_of_ble_eq_true rfl) dX0_nextRow_32 ⟨([zO0 h md wy la pc_ a1_1 a2_2 a3_3 a4_4 a5_5 a6_6, zAr T 0 a1_1 7 f1, zAr T 0 a2_2 7 f2, zAr T 0 a3_3 7 (upd (upd (upd (upd (upd (upd (upd (upd (upd (upd (upd (upd (upd f3 6 ((f3 6) + 1)) 6 0) 5 (((upd (upd f3 6 ((f3 6) + 1)) 6 0) 5) + 1)) 5 0) 4 (((upd (upd (upd (upd f3 6 ((f3 6) + 1)) 6 0) 5 (((upd (upd f3 6 ((f3 6) + 1)) 6 0) 5) + 1)) 5 0) 4) + 1)) 4 0) 3 (((upd (upd (upd (upd (upd (upd f3 6 ((f3 6) + 1)) 6 0) 5 (((upd (upd f3 6 ((f3 6) + 1)) 6 0) 5) + 1)) 5 0) 4 (((upd (upd (upd (upd f3 6 ((f3 6) + 1)) 6 0) 5 (((upd (upd f3 6 ((f3 6) + 1)) 6 0) 5) + 1)) 5 0) 4) + 1)) 4 0) 3) + 1)) 3 0) 2 (((upd (upd (upd (upd (upd (upd (upd (upd f3 6 ((f3 6) + 1)) 6 0) 5 (((upd (upd f3 6 ((f3 6) + 1)) 6 0) 5) + 1)) 5 0) 4 (((upd (upd (upd (upd f3 6 ((f3 6) + 1)) 6 0) 5 (((upd (upd f3 6 ((f3 6) + 1)) 6 0) 5) + 1)) 5 0) 4) + 1)) 4 0) 3 (((upd (upd (upd (upd (upd (upd f3 6 ((f3 6) + 1)) 6 0) 5 (((upd (upd f3 6 ((f3 6) + 1)) 6 0) 5) + 1)) 5 0) 4 (((upd (upd (upd (upd f3 6 ((f3 6) + 1)) 6 0) 5 (((upd (upd f3 6 ((f3 6) + 1)) 6 0) 5) + 1)) 5 0) 4) + 1)) 4 0) 3) + 1)) 3 0) 2) + 1)) 2 0) 1 (((upd (upd (upd (upd (upd (upd (upd (upd (upd (upd f3 6 ((f3 6) + 1)) 6 0) 5 (((upd (upd f3 6 ((f3 6) + 1)) 6 0) 5) + 1)) 5 0) 4 (((upd (upd (upd (upd f3 6 ((f3 6) + 1)) 6 0) 5 (((upd (upd f3 6 ((f3 6) + 1)) 6 0) 5) + 1)) 5 0) 4) + 1)) 4 0) 3 (((upd (upd (upd (upd (upd (upd f3 6 ((f3 6) + 1)) 6 0) 5 (((upd (upd f3 6 ((f3 6) + 1)) 6 0) 5) + 1)) 5 0) 4 (((upd (upd (upd (upd f3 6 ((f3 6) + 1)) 6 0) 5 (((upd (upd f3 6 ((f3 6) + 1)) 6 0) 5) + 1)) 5 0) 4) + 1)) 4 0) 3) + 1)) 3 0) 2 (((upd (upd (upd (upd (upd (upd (upd (upd f3 6 ((f3 6) + 1)) 6 0) 5 (((upd (upd f3 6 ((f3 6) + 1)) 6 0) 5) + 1)) 5 0) 4 (((upd (upd (upd (upd f3 6 ((f3 6) + 1)) 6 0) 5 (((upd (upd f3 6 ((f3 6) + 1)) 6 0) 5) + 1)) 5 0) 4) + 1)) 4 0) 3 (((upd (upd (upd (upd (upd (upd f3 6 ((f3 6) + 1)) 6 0) 5 (((upd (upd f3 6 ((f3 6) + 1)) 6 0) 5) + 1)) 5 0) 4 (((upd (upd (upd (upd f3 6 ((f3 6) + 1)) 6 0) 5 (((upd (upd f3 6 ((f3 6) + 1)) 6 0) 5) + 1)) 5 0) 4) + 1)) 4 0) 3) + 1)) 3 0) 2) + 1)) 2 0) 1) + 1)) 1 0) 0 (((upd (upd (upd (upd (upd (upd (upd (upd (upd (upd (upd (upd f3 6 ((f3 6) + 1)) 6 0) 5 (((upd (upd f3 6 ((f3 6) + 1)) 6 0) 5) + 1)) 5 0) 4 (((upd (upd (upd (upd f3 6 ((f3 6) + 1)) 6 0) 5 (((upd (upd f3 6 ((f3 6) + 1)) 6 0) 5) + 1)) 5 0) 4) + 1)) 4 0) 3 (((upd (upd (upd (upd (upd (upd f3 6 ((f3 6) + 1)) 6 0) 5 (((upd (upd f3 6 ((f3 6) + 1)) 6 0) 5) + 1)) 5 0) 4 (((upd (upd (upd (upd f3 6 ((f3 6) + 1)) 6 0) 5 (((upd (upd f3 6 ((f3 6) + 1)) 6 0) 5) + 1)) 5 0) 4) + 1)) 4 0) 3) + 1)) 3 0) 2 (((upd (upd (upd (upd (upd (upd (upd (upd f3 6 ((f3 6) + 1)) 6 0) 5 (((upd (upd f3 6 ((f3 6) + 1)) 6 0) 5) + 1)) 5 0) 4 (((upd (upd (upd (upd f3 6 ((f3 6) + 1)) 6 0) 5 (((upd (upd f3 6 ((f3 6) + 1)) 6 0) 5) + 1)) 5 0) 4) + 1)) 4 0) 3 (((upd (upd (upd (upd (upd (upd f3 6 ((f3 6) + 1)) 6 0) 5 (((upd (upd f3 6 ((f3 6) + 1)) 6 0) 5) + 1)) 5 0) 4 (((upd (upd (upd (upd f3 6 ((f3 6) + 1)) 6 0) 5 (((upd (upd f3 6 ((f3 6) + 1)) 6 0) 5) + 1)) 5 0) 4) + 1)) 4 0) 3) + 1)) 3 0) 2) + 1)) 2 0) 1 (((upd (upd (upd (upd (upd (upd (upd (upd (upd (upd f3 6 ((f3 6) + 1)) 6 0) 5 (((upd (upd f3 6 ((f3 6) + 1)) 6 0) 5) + 1)) 5 0) 4 (((upd (upd (upd (upd f3 6 ((f3 6) + 1)) 6 0) 5 (((upd (upd f3 6 ((f3 6) + 1)) 6 0) 5) + 1)) 5 0) 4) + 1)) 4 0) 3 (((upd (upd (upd (upd (upd (upd f3 6 ((f3 6) + 1)) 6 0) 5 (((upd (upd f3 6 ((f3 6) + 1)) 6 0) 5) + 1)) 5 0) 4 (((upd (upd (upd (upd f3 6 ((f3 6) + 1)) 6 0) 5 (((upd (upd f3 6 ((f3 6) + 1)) 6 0) 5) + 1)) 5 0) 4) + 1)) 4 0) 3) + 1)) 3 0) 2 (((upd (upd (upd (upd (upd (upd (upd (upd f3 6 ((f3 6) + 1)) 6 0) 5 (((upd (upd f3 6 ((f3 6) + 1)) 6 0) 5) + 1)) 5 0) 4 (((upd (upd (upd (upd f3 6 ((f3 6) + 1)) 6 0) 5 (((upd (upd f3 6 ((f3 6) + 1)) 6 0) 5) + 1)) 5 0) 4) + 1)) 4 0) 3 (((upd (upd (upd (upd (upd (upd f3 6 ((f3 6) + 1)) 6 0) 5 (((upd (upd f3 6 ((f3 6) + 1)) 6 0) 5) + 1)) 5 0) 4 (((upd (upd (upd (upd f3 6 ((f3 6) + 1)) 6 0) 5 (((upd (upd f3 6 ((f3 6) + 1)) 6 0) 5) + 1)) 5 0) 4) + 1)) 4 0) 3) + 1)) 3 0) 2) + 1)) 2 0) 1) + 1)) 1 0) 0) + 1)), zAr T 0 a4_4 n4 f4, zAr T 0 a5_5 n4 f5, zAr T 0 a6_6 n4 f6]), (upd (upd (upd (upd (upd (upd (upd (upd (upd (upd (upd (upd (upd f3 6 ((f3 6) + 1)) 6 0) 5 (((upd (upd f3 6 ((f3 6) + 1)) 6 0) 5) + 1)) 5 0) 4 (((upd (upd (upd (upd f3 6 ((f3 6) + 1)) 6 0) 5 (((upd (upd f3 6 ((f3 6) + 1)) 6 0) 5) + 1)) 5 0) 4) + 1)) 4 0) 3 (((upd (upd (upd (upd (upd (upd f3 6 ((f3 6) + 1)) 6 0) 5 (((upd (upd f3 6 ((f3 6) + 1)) 6 0) 5) + 1)) 5 0) 4 (((upd (upd (upd (upd f3 6 ((f3 6) + 1)) 6 0) 5 (((upd (upd f3 6 ((f3 6) + 1)) 6 0) 5) + 1)) 5 0) 4) + 1)) 4 0) 3) + 1)) 3 0) 2 (((upd (upd (upd (upd (upd (upd (upd (upd f3 6 ((f3 6) + 1)) 6 0) 5 (((upd (upd f3 6 ((f3 6) + 1)) 6 0) 5) + 1)) 5 0) 4 (((upd (upd (upd (upd f3 6 ((f3 6) + 1)) 6 0) 5 (((upd (upd f3 6 ((f3 6) + 1)) 6 0) 5) + 1)) 5 0) 4) + 1)) 4 0) 3 (((upd (upd (upd (upd (upd (upd f3 6 ((f3 6) + 1)) 6 0) 5 (((upd (upd f3 6 ((f3 6) + 1)) 6 0) 5) + 1)) 5 0) 4 (((upd (upd (upd (upd f3 6 ((f3 6) + 1)) 6 0) 5 (((upd (upd f3 6 ((f3 6) + 1)) 6 0) 5) + 1)) 5 0) 4) + 1)) 4 0) 3) + 1)) 3 0) 2) + 1)) 2 0) 1 (((upd (upd (upd (upd (upd (upd (upd (upd (upd (upd f3 6 ((f3 6) + 1)) 6 0) 5 (((upd (upd f3 6 ((f3 6) + 1)) 6 0) 5) + 1)) 5 0) 4 (((upd (upd (upd (upd f3 6 ((f3 6) + 1)) 6 0) 5 (((upd (upd f3 6 ((f3 6) + 1)) 6 0) 5) + 1)) 5 0) 4) + 1)) 4 0) 3 (((upd (upd (upd (upd (upd (upd f3 6 ((f3 6) + 1)) 6 0) 5 (((upd (upd f3 6 ((f3 6) + 1)) 6 0) 5) + 1)) 5 0) 4 (((upd (upd (upd (upd f3 6 ((f3 6) + 1)) 6 0) 5 (((upd (upd f3 6 ((f3 6) + 1)) 6 0) 5) + 1)) 5 0) 4) + 1)) 4 0) 3) + 1)) 3 0) 2 (((upd (upd (upd (upd (upd (upd (upd (upd f3 6 ((f3 6) + 1)) 6 0) 5 (((upd (upd f3 6 ((f3 6) + 1)) 6 0) 5) + 1)) 5 0) 4 (((upd (upd (upd (upd f3 6 ((f3 6) + 1)) 6 0) 5 (((upd (upd f3 6 ((f3 6) + 1)) 6 0) 5) + 1)) 5 0) 4) + 1)) 4 0) 3 (((upd (upd (upd (upd (upd (upd f3 6 ((f3 6) + 1)) 6 0) 5 (((upd (upd f3 6 ((f3 6) + 1)) 6 0) 5) + 1)) 5 0) 4 (((upd (upd (upd (upd f3 6 ((f3 6) + 1)) 6 0) 5 (((upd (upd f3 6 ((f3 6) + 1)) 6 0) 5) + 1)) 5 0) 4) + 1)) 4 0) 3) + 1)) 3 0) 2) + 1)) 2 0) 1) + 1)) 1 0) 0 (((upd (upd (upd (upd (upd (upd (upd (upd (upd (upd (upd (upd f3 6 ((f3 6) + 1)) 6 0) 5 (((upd (upd f3 6 ((f3 6) + 1)) 6 0) 5) + 1)) 5 0) 4 (((upd (upd (upd (upd f3 6 ((f3 6) + 1)) 6 0) 5 (((upd (upd f3 6 ((f3 6) + 1)) 6 0) 5) + 1)) 5 0) 4) + 1)) 4 0) 3 (((upd (upd (upd (upd (upd (upd f3 6 ((f3 6) + 1)) 6 0) 5 (((upd (upd f3 6 ((f3 6) + 1)) 6 0) 5) + 1)) 5 0) 4 (((upd (upd (upd (upd f3 6 ((f3 6) + 1)) 6 0) 5 (((upd (upd f3 6 ((f3 6) + 1)) 6 0) 5) + 1)) 5 0) 4) + 1)) 4 0) 3) + 1)) 3 0) 2 (((upd (upd (upd (upd (upd (upd (upd (upd f3 6 ((f3 6) + 1)) 6 0) 5 (((upd (upd f3 6 ((f3 6) + 1)) 6 0) 5) + 1)) 5 0) 4 (((upd (upd (upd (upd f3 6 ((f3 6) + 1)) 6 0) 5 (((upd (upd f3 6 ((f3 6) + 1)) 6 0) 5) + 1)) 5 0) 4) + 1)) 4 0) 3 (((upd (upd (upd (upd (upd (upd f3 6 ((f3 6) + 1)) 6 0) 5 (((upd (upd f3 6 ((f3 6) + 1)) 6 0) 5) + 1)) 5 0) 4 (((upd (upd (upd (upd f3 6 ((f3 6) + 1)) 6 0) 5 (((upd (upd f3 6 ((f3 6) + 1)) 6 0) 5) + 1)) 5 0) 4) + 1)) 4 0) 3) + 1)) 3 0) 2) + 1)) 2 0) 1 (((upd (upd (upd (upd (upd (upd (upd (upd (upd (upd f3 6 ((f3 6) + 1)) 6 0) 5 (((upd (upd f3 6 ((f3 6) + 1)) 6 0) 5) + 1)) 5 0) 4 (((upd (upd (upd (upd f3 6 ((f3 6) + 1)) 6 0) 5 (((upd (upd f3 6 ((f3 6) + 1)) 6 0) 5) + 1)) 5 0) 4) + 1)) 4 0) 3 (((upd (upd (upd (upd (upd (upd f3 6 ((f3 6) + 1)) 6 0) 5 (((upd (upd f3 6 ((f3 6) + 1)) 6 0) 5) + 1)) 5 0) 4 (((upd (upd (upd (upd f3 6 ((f3 6) + 1)) 6 0) 5 (((upd (upd f3 6 ((f3 6) + 1)) 6 0) 5) + 1)) 5 0) 4) + 1)) 4 0) 3) + 1)) 3 0) 2 (((upd (upd (upd (upd (upd (upd (upd (upd f3 6 ((f3 6) + 1)) 6 0) 5 (((upd (upd f3 6 ((f3 6) + 1)) 6 0) 5) + 1)) 5 0) 4 (((upd (upd (upd (upd f3 6 ((f3 6) + 1)) 6 0) 5 (((upd (upd f3 6 ((f3 6) + 1)) 6 0) 5) + 1)) 5 0) 4) + 1)) 4 0) 3 (((upd (upd (upd (upd (upd (upd f3 6 ((f3 6) + 1)) 6 0) 5 (((upd (upd f3 6 ((f3 6) + 1)) 6 0) 5) + 1)) 5 0) 4 (((upd (upd (upd (upd f3 6 ((f3 6) + 1)) 6 0) 5 (((upd (upd f3 6 ((f3 6) + 1)) 6 0) 5) + 1)) 5 0) 4) + 1)) 4 0) 3) + 1)) 3 0) 2) + 1)) 2 0) 1) + 1)) 1 0) 0) + 1)), rfl, hw_36⟩)
            · have c_30n : ¬ (f1 1).toInt ≤ (((upd (upd (upd (upd (upd (upd (upd (upd (upd (upd f3 6 ((f3 6) + 1)) 6 0) 5 (((upd (upd f3 6 ((f3 6) + 1)) 6 0) 5) + 1)) 5 0) 4 (((upd (upd (upd (upd f3 6 ((f3 6) + 1)) 6 0) 5 (((upd (upd f3 6 ((f3 6) + 1)) 6 0) 5) + 1)) 5 0) 4) + 1)) 4 0) 3 (((upd (upd (upd (upd (upd (upd f3 6 ((f3 6) + 1)) 6 0) 5 (((upd (upd f3 6 ((f3 6) + 1)) 6 0) 5) + 1)) 5 0) 4 (((upd (upd (upd (upd f3 6 ((f3 6) + 1)) 6 0) 5 (((upd (upd f3 6 ((f3 6) + 1)) 6 0) 5) + 1)) 5 0) 4) + 1)) 4 0) 3) + 1)) 3 0) 2 (((upd (upd (upd (upd (upd (upd (upd (upd f3 6 ((f3 6) + 1)) 6 0) 5 (((upd (upd f3 6 ((f3 6) + 1)) 6 0) 5) + 1)) 5 0) 4 (((upd (upd (upd (upd f3 6 ((f3 6) + 1)) 6 0) 5 (((upd (upd f3 6 ((f3 6) + 1)) 6 0) 5) + 1)) 5 0) 4) + 1)) 4 0) 3 (((upd (upd (upd (upd (upd (upd f3 6 ((f3 6) + 1)) 6 0) 5 (((upd (upd f3 6 ((f3 6) + 1)) 6 0) 5) + 1)) 5 0) 4 (((upd (upd (upd (upd f3 6 ((f3 6) + 1)) 6 0) 5 (((upd (upd f3 6 ((f3 6) + 1)) 6 0) 5) + 1)) 5 0) 4) + 1)) 4 0) 3) + 1)) 3 0) 2) + 1)) 2 0) 1) + 1).toInt := fun q => c_30 ((fa_le _ _).mpr q)
              have hw_37 : bWays T h la md wy pc_ f1 f2 (upd (upd (upd (upd (upd (upd (upd (upd (upd (upd (upd f3 6 ((f3 6) + 1)) 6 0) 5 (((upd (upd f3 6 ((f3 6) + 1)) 6 0) 5) + 1)) 5 0) 4 (((upd (upd (upd (upd f3 6 ((f3 6) + 1)) 6 0) 5 (((upd (upd f3 6 ((f3 6) + 1)) 6 0) 5) + 1)) 5 0) 4) + 1)) 4 0) 3 (((upd (upd (upd (upd (upd (upd f3 6 ((f3 6) + 1)) 6 0) 5 (((upd (upd f3 6 ((f3 6) + 1)) 6 0) 5) + 1)) 5 0) 4 (((upd (upd (upd (upd f3 6 ((f3 6) + 1)) 6 0) 5 (((upd (upd f3 6 ((f3 6) + 1)) 6 0) 5) + 1)) 5 0) 4) + 1)) 4 0) 3) + 1)) 3 0) 2 (((upd (upd (upd (upd (upd (upd (upd (upd f3 6 ((f3 6) + 1)) 6 0) 5 (((upd (upd f3 6 ((f3 6) + 1)) 6 0) 5) + 1)) 5 0) 4 (((upd (upd (upd (upd f3 6 ((f3 6) + 1)) 6 0) 5 (((upd (upd f3 6 ((f3 6) + 1)) 6 0) 5) + 1)) 5 0) 4) + 1)) 4 0) 3 (((upd (upd (upd (upd (upd (upd f3 6 ((f3 6) + 1)) 6 0) 5 (((upd (upd f3 6 ((f3 6) + 1)) 6 0) 5) + 1)) 5 0) 4 (((upd (upd (upd (upd f3 6 ((f3 6) + 1)) 6 0) 5 (((upd (upd f3 6 ((f3 6) + 1)) 6 0) 5) + 1)) 5 0) 4) + 1)) 4 0) 3) + 1)) 3 0) 2) + 1)) 2 0) 1 (((upd (upd (upd (upd (upd (upd (upd (upd (upd (upd f3 6 ((f3 6) + 1)) 6 0) 5 (((upd (upd f3 6 ((f3 6) + 1)) 6 0) 5) + 1)) 5 0) 4 (((upd (upd (upd (upd f3 6 ((f3 6) + 1)) 6 0) 5 (((upd (upd f3 6 ((f3 6) + 1)) 6 0) 5) + 1)) 5 0) 4) + 1)) 4 0) 3 (((upd (upd (upd (upd (upd (upd f3 6 ((f3 6) + 1)) 6 0) 5 (((upd (upd f3 6 ((f3 6) + 1)) 6 0) 5) + 1)) 5 0) 4 (((upd (upd (upd (upd f3 6 ((f3 6) + 1)) 6 0) 5 (((upd (upd f3 6 ((f3 6) + 1)) 6 0) 5) + 1)) 5 0) 4) + 1)) 4 0) 3) + 1)) 3 0) 2 (((upd (upd (upd (upd (upd (upd (upd (upd f3 6 ((f3 6) + 1)) 6 0) 5 (((upd (upd f3 6 ((f3 6) + 1)) 6 0) 5) + 1)) 5 0) 4 (((upd (upd (upd (upd f3 6 ((f3 6) + 1)) 6 0) 5 (((upd (upd f3 6 ((f3 6) + 1)) 6 0) 5) + 1)) 5 0) 4) + 1)) 4 0) 3 (((upd (upd (upd (upd (upd (upd f3 6 ((f3 6) + 1)) 6 0) 5 (((upd (upd f3 6 ((f3 6) + 1)) 6 0) 5) + 1)) 5 0) 4 (((upd (upd (upd (upd f3 6 ((f3 6) + 1)) 6 0) 5 (((upd (upd f3 6 ((f3 6) + 1)) 6 0) 5) + 1)) 5 0) 4) + 1)) 4 0) 3) + 1)) 3 0) 2) + 1)) 2 0) 1) + 1)) f4 f5 f6 n4 [zO0 h md wy la pc_ a1_1 a2_2 a3_3 a4_4 a5_5 a6_6, zAr T 0 a1_1 7 f1, zAr T 0 a2_2 7 f2, zAr T 0 a3_3 7 (upd (upd (upd (upd (upd (upd (upd (upd (upd (upd (upd f3 6 ((f3 6) + 1)) 6 0) 5 (((upd (upd f3 6 ((f3 6) + 1)) 6 0) 5) + 1)) 5 0) 4 (((upd (upd (upd (upd f3 6 ((f3 6) + 1)) 6 0) 5 (((upd (upd f3 6 ((f3 6) + 1)) 6 0) 5) + 1)) 5 0) 4) + 1)) 4 0) 3 (((upd (upd (upd (upd (upd (upd f3 6 ((f3 6) + 1)) 6 0) 5 (((upd (upd f3 6 ((f3 6) + 1)) 6 0) 5) + 1)) 5 0) 4 (((upd (upd (upd (upd f3 6 ((f3 6) + 1)) 6 0) 5 (((upd (upd f3 6 ((f3 6) + 1)) 6 0) 5) + 1)) 5 0) 4) + 1)) 4 0) 3) + 1)) 3 0) 2 (((upd (upd (upd (upd (upd (upd (upd (upd f3 6 ((f3 6) + 1)) 6 0) 5 (((upd (upd f3 6 ((f3 6) + 1)) 6 0) 5) + 1)) 5 0) 4 (((upd (upd (upd (upd f3 6 ((f3 6) + 1)) 6 0) 5 (((upd (upd f3 6 ((f3 6) + 1)) 6 0) 5) + 1)) 5 0) 4) + 1)) 4 0) 3 (((upd (upd (upd (upd (upd (upd f3 6 ((f3 6) + 1)) 6 0) 5 (((upd (upd f3 6 ((f3 6) + 1)) 6 0) 5) + 1)) 5 0) 4 (((upd (upd (upd (upd f3 6 ((f3 6) + 1)) 6 0) 5 (((upd (upd f3 6 ((f3 6) + 1)) 6 0) 5) + 1)) 5 0) 4) + 1)) 4 0) 3) + 1)) 3 0) 2) + 1)) 2 0) 1 (((upd (upd (upd (upd (upd (upd (upd (upd (upd (upd f3 6 ((f3 6) + 1)) 6 0) 5 (((upd (upd f3 6 ((f3 6) + 1)) 6 0) 5) + 1)) 5 0) 4 (((upd (upd (upd (upd f3 6 ((f3 6) + 1)) 6 0) 5 (((upd (upd f3 6 ((f3 6) + 1)) 6 0) 5) + 1)) 5 0) 4) + 1)) 4 0) 3 (((upd (upd (upd (upd (upd (upd f3 6 ((f3 6) + 1)) 6 0) 5 (((upd (upd f3 6 ((f3 6) + 1)) 6 0) 5) + 1)) 5 0) 4 (((upd (upd (upd (upd f3 6 ((f3 6) + 1)) 6 0) 5 (((upd (upd f3 6 ((f3 6) + 1)) 6 0) 5) + 1)) 5 0) 4) + 1)) 4 0) 3) + 1)) 3 0) 2 (((upd (upd (upd (upd (upd (upd (upd (upd f3 6 ((f3 6) + 1)) 6 0) 5 (((upd (upd f3 6 ((f3 6) + 1)) 6 0) 5) + 1)) 5 0) 4 (((upd (upd (upd (upd f3 6 ((f3 6) + 1)) 6 0) 5 (((upd (upd f3 6 ((f3 6) + 1)) 6 0) 5) + 1)) 5 0) 4) + 1)) 4 0) 3 (((upd (upd (upd (upd (upd (upd f3 6 ((f3 6) + 1)) 6 0) 5 (((upd (upd f3 6 ((f3 6) + 1)) 6 0) 5) + 1)) 5 0) 4 (((upd (upd (upd (upd f3 6 ((f3 6) + 1)) 6 0) 5 (((upd (upd f3 6 ((f3 6) + 1)) 6 0) 5) + 1)) 5 0) 4) + 1)) 4 0) 3) + 1)) 3 0) 2) + 1)) 2 0) 1) + 1)), zAr T 0 a4_4 n4 f4, zAr T 0 a5_5 n4 f5, zAr T 0 a6_6 n4 f6] := ⟨a1_1, a2_2, a3_3, a4_4, a5_5, a6_6, rfl⟩
              have G : zS T A s.heap s [[zO0 h md wy la pc_ a1_1 a2_2 a3_3 a4_4 a5_5 a6_6, zAr T 0 a1_1 7 f1, zAr T 0 a2_2 7 f2, zAr T 0 a3_3 7 (upd (upd (upd (upd (upd (upd (upd (upd (upd (upd (upd f3 6 ((f3 6) + 1)) 6 0) 5 (((upd (upd f3 6 ((f3 6) + 1)) 6 0) 5) + 1)) 5 0) 4 (((upd (upd (upd (upd f3 6 ((f3 6) + 1)) 6 0) 5 (((upd (upd f3 6 ((f3 6) + 1)) 6 0) 5) + 1)) 5 0) 4) + 1)) 4 0) 3 (((upd (upd (upd (upd (upd (upd f3 6 ((f3 6) + 1)) 6 0) 5 (((upd (upd f3 6 ((f3 6) + 1)) 6 0) 5) + 1)) 5 0) 4 (((upd (upd (upd (upd f3 6 ((f3 6) + 1)) 6 0) 5 (((upd (upd f3 6 ((f3 6) + 1)) 6 0) 5) + 1)) 5 0) 4) + 1)) 4 0) 3) + 1)) 3 0) 2 (((upd (upd (upd (upd (upd (upd (upd (upd f3 6 ((f3 6) + 1)) 6 0) 5 (((upd (upd f3 6 ((f3 6) + 1)) 6 0) 5) + 1)) 5 0) 4 (((upd (upd (upd (upd f3 6 ((f3 6) + 1)) 6 0) 5 (((upd (upd f3 6 ((f3 6) + 1)) 6 0) 5) + 1)) 5 0) 4) + 1)) 4 0) 3 (((upd (upd (upd (upd (upd (upd f3 6 ((f3 6) + 1)) 6 0) 5 (((upd (upd f3 6 ((f3 6) + 1)) 6 0) 5) + 1)) 5 0) 4 (((upd (upd (upd (upd f3 6 ((f3 6) + 1)) 6 0) 5 (((upd (upd f3 6 ((f3 6) + 1)) 6 0) 5) + 1)) 5 0) 4) + 1)) 4 0) 3) + 1)) 3 0) 2) + 1)) 2 0) 1 (((upd (upd (upd (upd (upd (upd (upd (upd (upd (upd f3 6 ((f3 6) + 1)) 6 0) 5 (((upd (upd f3 6 ((f3 6) + 1)) 6 0) 5) + 1)) 5 0) 4 (((upd (upd (upd (upd f3 6 ((f3 6) + 1)) 6 0) 5 (((upd (upd f3 6 ((f3 6) + 1)) 6 0) 5) + 1)) 5 0) 4) + 1)) 4 0) 3 (((upd (upd (upd (upd (upd (upd f3 6 ((f3 6) + 1)) 6 0) 5 (((upd (upd f3 6 ((f3 6) + 1)) 6 0) 5) + 1)) 5 0) 4 (((upd (upd (upd (upd f3 6 ((f3 6) + 1)) 6 0) 5 (((upd (upd f3 6 ((f3 6) + 1)) 6 0) 5) + 1)) 5 0) 4) + 1)) 4 0) 3) + 1)) 3 0) 2 (((upd (upd (upd (upd (upd (upd (upd (upd f3 6 ((f3 6) + 1)) 6 0) 5 (((upd (upd f3 6 ((f3 6) + 1)) 6 0) 5) + 1)) 5 0) 4 (((upd (upd (upd (upd f3 6 ((f3 6) + 1)) 6 0) 5 (((upd (upd f3 6 ((f3 6) + 1)) 6 0) 5) + 1)) 5 0) 4) + 1)) 4 0) 3 (((upd (upd (upd (upd (upd (upd f3 6 ((f3 6) + 1)) 6 0) 5 (((upd (upd f3 6 ((f3 6) + 1)) 6 0) 5) + 1)) 5 0) 4 (((upd (upd (upd (upd f3 6 ((f3 6) + 1)) 6 0) 5 (((upd (upd f3 6 ((f3 6) + 1)) 6 0) 5) + 1)) 5 0) 4) + 1)) 4 0) 3) + 1)) 3 0) 2) + 1)) 2 0) 1) + 1)), zAr T 0 a4_4 n4 f4, zAr T 0 a5_5 n4 f5, zAr T 0 a6_6 n4 f6]] _ _ := G.re rfl
              exact z_back hQ9 (z_vret C hr hlocks G (Nat.le_of_ble_eq_true rfl) (Nat.le_of_ble_eq_true rfl) dX0_nextRow_32 ⟨([zO0 h md wy la pc_ a1_1 a2_2 a3_3 a4_4 a5_5 a6_6, zAr T 0 a1_1 7 f1, zAr T 0 a2_2 7 f2, zAr T 0 a3_3 7 (upd (upd (upd (upd (upd (upd (upd (upd (upd (upd (upd f3 6 ((f3 6) + 1)) 6 0) 5 (((upd (upd f3 6 ((f3 6) + 1)) 6 0) 5) + 1)) 5 0) 4 (((upd (upd (upd (upd f3 6 ((f3 6) + 1)) 6 0) 5 (((upd (upd f3 6 ((f3 6) + 1)) 6 0) 5) + 1)) 5 0) 4) + 1)) 4 0) 3 (((upd (upd (upd (upd (upd (upd f3 6 ((f3 6) + 1)) 6 0) 5 (((upd (upd f3 6 ((f3 6) + 1)) 6 0) 5) + 1)) 5 0) 4 (((upd (upd (upd (upd f3 6 ((f3 6) + 1)) 6 0) 5 (((upd (upd f3 6 ((f3 6) + 1)) 6 0) 5) + 1)) 5 0) 4) + 1)) 4 0) 3) + 1)) 3 0) 2 (((upd (upd (upd (upd (upd (upd (upd (upd f3 6 ((f3 6) + 1)) 6 0) 5 (((upd (upd f3 6 ((f3 6) + 1)) 6 0) 5) + 1)) 5 0) 4 (((upd (upd (upd (upd f3 6 ((f3 6) + 1)) 6 0) 5 (((upd (upd f3 6 ((f3 6) + 1)) 6 0) 5) + 1)) 5 0) 4) + 1)) 4 0) 3 (((upd (upd (upd (upd (upd (upd f3 6 ((f3 6) + 1)) 6 0) 5 (((upd (upd f3 6 ((f3 6) + 1)) 6 0) 5) + 1)) 5 0) 4 (((upd (upd (upd (upd f3 6 ((f3 6) + 1)) 6 0) 5 (((upd (upd f3 6 ((f3 6) + 1)) 6 0) 5) + 1)) 5 0) 4) + 1)) 4 0) 3) + 1)) 3 0) 2) + 1)) 2 0) 1 (((upd (upd (upd (upd (upd (upd (upd (upd (upd (upd f3 6 ((f3 6) + 1)) 6 0) 5 (((upd (upd f3 6 ((f3 6) + 1)) 6 0) 5) + 1)) 5 0) 4 (((upd (upd (upd (upd f3 6 ((f3 6) + 1)) 6 0) 5 (((upd (upd f3 6 ((f3 6) + 1)) 6 0) 5) + 1)) 5 0) 4) + 1)) 4 0) 3 (((upd (upd (upd (upd (upd (upd f3 6 ((f3 6) + 1)) 6 0) 5 (((upd (upd f3 6 ((f3 6) + 1)) 6 0) 5) + 1)) 5 0) 4 (((upd (upd (upd (upd f3 6 ((f3 6) + 1)) 6 0) 5 (((upd (upd f3 6 ((f3 6) + 1)) 6 0) 5) + 1)) 5 0) 4) + 1)) 4 0) 3) + 1)) 3 0) 2 (((upd (upd (upd (upd (upd (upd (upd (upd f3 6 ((f3 6) + 1)) 6 0) 5 (((upd (upd f3 6 ((f3 6) + 1)) 6 0) 5) + 1)) 5 0) 4 (((upd (upd (upd (upd f3 6 ((f3 6) + 1)) 6 0) 5 (((upd (upd f3 6 ((f3 6) + 1)) 6 0) 5) + 1)) 5 0) 4) + 1)) 4 0) 3 (((upd (upd (upd (upd (upd (upd f3 6 ((f3 6) + 1)) 6 0) 5 (((upd (upd f3 6 ((f3 6) + 1)) 6 0) 5) + 1)) 5 0) 4 (((upd (upd (upd (upd f3 6 ((f3 6) + 1)) 6 0) 5 (((upd (upd f3 6 ((f3 6) + 1)) 6 0) 5) + 1)) 5 0) 4) + 1)) 4 0) 3) + 1)) 3 0) 2) + 1)) 2 0) 1) + 1)), zAr T 0 a4_4 n4 f4, zAr T 0 a5_5 n4 f5, zAr T 0 a6_6 n4 f6]), (upd (upd (upd (upd (upd (upd (upd (upd (upd (upd (upd f3 6 ((f3 6) + 1)) 6 0) 5 (((upd (upd f3 6 ((f3 6) + 1)) 6 0) 5) + 1)) 5 0) 4 (((upd (upd (upd (upd f3 6 ((f3 6) + 1)) 6 0) 5 (((upd (upd f3 6 ((f3 6) + 1)) 6 0) 5) + 1)) 5 0) 4) + 1)) 4 0) 3 (((upd (upd (upd (upd (upd (upd f3 6 ((f3 6) + 1)) 6 0) 5 (((upd (upd f3 6 ((f3 6) + 1)) 6 0) 5) + 1)) 5 0) 4 (((upd (upd (upd (upd f3 6 ((f3 6) + 1)) 6 0) 5 (((upd (upd f3 6 ((f3 6) + 1)) 6 0) 5) + 1)) 5 0) 4) + 1)) 4 0) 3) + 1)) 3 0) 2 (((upd (upd (upd (upd (upd (upd (upd (upd f3 6 ((f3 6) + 1)) 6 0) 5 (((upd (upd f3 6 ((f3 6) + 1)) 6 0) 5) + 1)) 5 0) 4 (((upd (upd (upd (upd f3 6 ((f3 6) + 1)) 6 0) 5 (((upd (upd f3 6 ((f3 6) + 1)) 6 0) 5) + 1)) 5 0) 4) + 1)) 4 0) 3 (((upd (upd (upd (upd (upd (upd f3 6 ((f3 6) + 1)) 6 0) 5 (((upd (upd f3 6 ((f3 6) + 1)) 6 0) 5) + 1)) 5 0) 4 (((upd (upd (upd (upd f3 6 ((f3 6) + 1)) 6 0) 5 (((upd (upd f3 6 ((f3 6) + 1)) 6 0) 5) + 1)) 5 0) 4) + 1)) 4 0) 3) + 1)) 3 0) 2) + 1)) 2 0) 1 (((upd (upd (upd (upd (upd (upd (upd (upd (upd (upd f3 6 ((f3 6) + 1)) 6 0) 5 (((upd (upd f3 6 ((f3 6) + 1)) 6 0) 5) + 1)) 5 0) 4 (((upd (upd (upd (upd f3 6 ((f3 6) + 1)) 6 0) 5 (((upd (upd f3 6 ((f3 6) + 1)) 6 0) 5) + 1)) 5 0) 4) + 1)) 4 0) 3 (((upd (upd (upd (upd (upd (upd f3 6 ((f3 6) + 1)) 6 0) 5 (((upd (upd f3 6 ((f3 6) + 1)) 6 0) 5) + 1)) 5 0) 4 (((upd (upd (upd (upd f3 6 ((f3 6) + 1)) 6 0) 5 (((upd (upd f3 6 ((f3 6) + 1)) 6 0) 5) + 1)) 5 0) 4) + 1)) 4 0) 3) + 1)) 3 0) 2 (((upd (upd (upd (upd (upd (upd (upd (upd f3 6 ((f3 6) + 1)) 6 0) 5 (((upd (upd f3 6 ((f3 6) + 1)) 6 0) 5) + 1)) 5 0) 4 (((upd (upd (upd (upd f3 6 ((f3 6) + 1)) 6 0) 5 (((upd (upd f3 6 ((f3 6) + 1)) 6 0) 5) + 1)) 5 0) 4) + 1)) 4 0) 3 (((upd (upd (upd (upd (upd (upd f3 6 ((f3 6) + 1)) 6 0) 5 (((upd (upd f3 6 ((f3 6) + 1)) 6 0) 5) + 1)) 5 0) 4 (((upd (upd (upd (upd f3 6 ((f3 6) + 1)) 6 0) 5 (((upd (upd f3 6 ((f3 6) + 1)) 6 0) 5) + 1)) 5 0) 4) + 1)) 4 0) 3) + 1)) 3 0) 2) + 1)) 2 0) 1) + 1)), rfl, hw_37⟩)
          · have c_26n : ¬ (f1 2).toInt ≤ (((upd (upd (upd (upd (upd (upd (upd (upd f3 6 ((f3 6) + 1)) 6 0) 5 (((upd (upd f3 6 ((f3 6) + 1)) 6 0) 5) + 1)) 5 0) 4 (((upd (upd (upd (upd f3 6 ((f3 6) + 1)) 6 0) 5 (((upd (upd f3 6 ((f3 6) + 1)) 6 0) 5) + 1)) 5 0) 4) + 1)) 4 0) 3 (((upd (upd (upd (upd (upd (upd f3 6 ((f3 6) + 1)) 6 0) 5 (((upd (upd f3 6 ((f3 6) + 1)) 6 0) 5) + 1)) 5 0) 4 (((upd (upd (upd (upd f3 6 ((f3 6) + 1)) 6 0) 5 (((upd (upd f3 6 ((f3 6) + 1)) 6 0) 5) + 1)) 5 0) 4) + 1)) 4 0) 3) + 1)) 3 0) 2) + 1).toInt := fun q => c_26 ((fa_le _ _).mpr q)
            have hw_38 : bWays T h la md wy pc_ f1 f2 (upd (upd (upd (upd (upd (upd (upd (upd (upd f3 6 ((f3 6) + 1)) 6 0) 5 (((upd (upd f3 6 ((f3 6) + 1)) 6 0) 5) + 1)) 5 0) 4 (((upd (upd (upd (upd f3 6 ((f3 6) + 1)) 6 0) 5 (((upd (upd f3 6 ((f3 6) + 1)) 6 0) 5) + 1)) 5 0) 4) + 1)) 4 0) 3 (((upd (upd (upd (upd (upd (upd f3 6 ((f3 6) + 1)) 6 0) 5 (((upd (upd f3 6 ((f3 6) + 1)) 6 0) 5) + 1)) 5 0) 4 (((upd (upd (upd (upd f3 6 ((f3 6) + 1)) 6 0) 5 (((upd (upd f3 6 ((f3 6) + 1)) 6 0) 5) + 1)) 5 0) 4) + 1)) 4 0) 3) + 1)) 3 0) 2 (((upd (upd (upd (upd (upd (upd (upd (upd f3 6 ((f3 6) + 1)) 6 0) 5 (((upd (upd f3 6 ((f3 6) + 1)) 6 0) 5) + 1)) 5 0) 4 (((upd (upd (upd (upd f3 6 ((f3 6) + 1)) 6 0) 5 (((upd (upd f3 6 ((f3 6) + 1)) 6 0) 5) + 1)) 5 0) 4) + 1)) 4 0) 3 (((upd (upd (upd (upd (upd (upd f3 6 ((f3 6) + 1)) 6 0) 5 (((upd (upd f3 6 ((f3 6) + 1)) 6 0) 5) + 1)) 5 0) 4 (((upd (upd (upd (upd f3 6 ((f3 6) + 1)) 6 0) 5 (((upd (upd f3 6 ((f3 6) + 1)) 6 0) 5) + 1)) 5 0) 4) + 1)) 4 0) 3) + 1)) 3 0) 2) + 1)) f4 f5 f6 n4 [zO0 h md wy la pc_ a1_1 a2_2 a3_3 a4_4 a5_5 a6_6, zAr T 0 a1_1 7 f1, zAr T 0 a2_2 7 f2, zAr T 0 a3_3 7 (upd (upd (upd (upd (upd (upd (upd (upd (upd f3 6 ((f3 6) + 1)) 6 0) 5 (((upd (upd f3 6 ((f3 6) + 1)) 6 0) 5) + 1)) 5 0) 4 (((upd (upd (upd (upd f3 6 ((f3 6) + 1)) 6 0) 5 (((upd (upd f3 6 ((f3 6) + 1)) 6 0) 5) + 1)) 5 0) 4) + 1)) 4 0) 3 (((upd (upd (upd (upd (upd (upd f3 6 ((f3 6) + 1)) 6 0) 5 (((upd (upd f3 6 ((f3 6) + 1)) 6 0) 5) + 1)) 5 0) 4 (((upd (upd (upd (upd f3 6 ((f3 6) + 1)) 6 0) 5 (((upd (upd f3 6 ((f3 6) + 1)) 6 0) 5) + 1)) 5 0) 4) + 1)) 4 0) 3) + 1)) 3 0) 2 (((upd (upd (upd (upd (upd (upd (upd (upd f3 6 ((f3 6) + 1)) 6 0) 5 (((upd (upd f3 6 ((f3 6) + 1)) 6 0) 5) + 1)) 5 0) 4 (((upd (upd (upd (upd f3 6 ((f3 6) + 1)) 6 0) 5 (((upd (upd f3 6 ((f3 6) + 1)) 6 0) 5) + 1)) 5 0) 4) + 1)) 4 0) 3 (((upd (upd (upd (upd (upd (upd f3 6 ((f3 6) + 1)) 6 0) 5 (((upd (upd f3 6 ((f3 6) + 1)) 6 0) 5) + 1)) 5 0) 4 (((upd (upd (upd (upd f3 6 ((f3 6) + 1)) 6 0) 5 (((upd (upd f3 6 ((f3 6) + 1)) 6 0) 5) + 1)) 5 0) 4) + 1)) 4 0) 3) + 1)) 3 0) 2) + 1)), zAr T 0 a4_4 n4 f4, zAr T 0 a5_5 n4 f5, zAr T 0 a6_6 n4 f6] := ⟨a1_1, a2_2, a3_3, a4_4, a5_5, a6_6, rfl⟩
            have G : zS T A s.heap s [[zO0 h md wy la pc_ a1_1 a2_2 a3_3 a4_4 a5_5 a6_6, zAr T 0 a1_1 7 f1, zAr T 0 a2_2 7 f2, zAr T 0 a3_3 7 (upd (upd (upd (upd (upd (upd (upd (upd (upd f3 6 ((f3 6) + 1)) 6 0) 5 (((upd (upd f3 6 ((f3 6) + 1)) 6 0) 5) + 1)) 5 0) 4 (((upd (upd (upd (upd f3 6 ((f3 6) + 1)) 6 0) 5 (((upd (upd f3 6 ((f3 6) + 1)) 6 0) 5) + 1)) 5 0) 4) + 1)) 4 0) 3 (((upd (upd (upd (upd (upd (upd f3 6 ((f3 6) + 1)) 6 0) 5 (((upd (upd f3 6 ((f3 6) + 1)) 6 0) 5) + 1)) 5 0) 4 (((upd (upd (upd (upd f3 6 ((f3 6) + 1)) 6 0) 5 (((upd (upd f3 6 ((f3 6) + 1)) 6 0) 5) + 1)) 5 0) 4) + 1)) 4 0) 3) + 1)) 3 0) 2 (((upd (upd (upd (upd (upd (upd (upd (upd f3 6 ((f3 6) + 1)) 6 0) 5 (((upd (upd f3 6 ((f3 6) + 1)) 6 0) 5) + 1)) 5 0) 4 (((upd (upd (upd (upd f3 6 ((f3 6) + 1)) 6 0) 5 (((upd (upd f3 6 ((f3 6) + 1)) 6 0) 5) + 1)) 5 0) 4) + 1)) 4 0) 3 (((upd (upd (upd (upd (upd (upd f3 6 ((f3 6) + 1)) 6 0) 5 (((upd (upd f3 6 ((f3 6) + 1)) 6 0) 5) + 1)) 5 0) 4 (((upd (upd (upd (upd f3 6 ((f3 6) + 1)) 6 0) 5 (((upd (upd f3 6 ((f3 6) + 1)) 6 0) 5) + 1)) 5 0) 4) + 1)) 4 0) 3) + 1)) 3 0) 2) + 1)), zAr T 0 a4_4 n4 f4, zAr T 0 a5_5 n4 f5, zAr T 0 a6_6 n4 f6]] _ _ := G.re rfl
            exact z_back hQ9 (z_vret C hr hlocks G (Nat.le_of_ble_eq_true rfl) (Nat.le_of_ble_eq_true rfl) dX0_nextRow_32 ⟨([zO0 h md wy la pc_ a1_1 a2_2 a3_3 a4_4 a5_5 a6_6, zAr T 0 a1_1 7 f1, zAr T 0 a2_2 7 f2, zAr T 0 a3_3 7 (upd (upd (upd (upd (upd (upd (upd (upd (upd f3 6 ((f3 6) + 1)) 6 0) 5 (((upd (upd f3 6 ((f3 6) + 1)) 6 0) 5) + 1)) 5 0) 4 (((upd (upd (upd (upd f3 6 ((f3 6) + 1)) 6 0) 5 (((upd (upd f3 6 ((f3 6) + 1)) 6 0) 5) + 1)) 5 0) 4) + 1)) 4 0) 3 (((upd (upd (upd (upd (upd (upd f3 6 ((f3 6) + 1)) 6 0) 5 (((upd (upd f3 6 ((f3 6) + 1)) 6 0) 5) + 1)) 5 0) 4 (((upd (upd (upd (upd f3 6 ((f3 6) + 1)) 6 0) 5 (((upd (upd f3 6 ((f3 6) + 1)) 6 0) 5) + 1)) 5 0) 4) + 1)) 4 0) 3) + 1)) 3 0) 2 (((upd (upd (upd (upd (upd (upd (upd (upd f3 6 ((f3 6) + 1)) 6 0) 5 (((upd (upd f3 6 ((f3 6) + 1)) 6 0) 5) + 1)) 5 0) 4 (((upd (upd (upd (upd f3 6 ((f3 6) + 1)) 6 0) 5 (((upd (upd f3 6 ((f3 6) + 1)) 6 0) 5) + 1)) 5 0) 4) + 1)) 4 0) 3 (((upd (upd (upd (upd (upd (upd f3 6 ((f3 6) + 1)) 6 0) 5 (((upd (upd f3 6 ((f3 6) + 1)) 6 0) 5) + 1)) 5 0) 4 (((upd (upd (upd (upd f3 6 ((f3 6) + 1)) 6 0) 5 (((upd (upd f3 6 ((f3 6) + 1)) 6 0) 5) + 1)) 5 0) 4) + 1)) 4 0) 3) + 1)) 3 0) 2) + 1)), zAr T 0 a4_4 n4 f4, zAr T 0 a5_5 n4 f5, zAr T 0 a6_6 n4 f6]), (upd (upd (upd (upd (upd (upd (upd (upd (upd f3 6 ((f3 6) + 1)) 6 0) 5 (((upd (upd f3 6 ((f3 6) + 1)) 6 0) 5) + 1)) 5 0) 4 (((upd (upd (upd (upd f3 6 ((f3 6) + 1)) 6 0) 5 (((upd (upd f3 6 ((f3 6) + 1)) 6 0) 5) + 1)) 5 0) 4) + 1)) 4 0) 3 (((upd (upd (upd (upd (upd (upd f3 6 ((f3 6) + 1)) 6 0) 5 (((upd (upd f3 6 ((f3 6) + 1)) 6 0) 5) + 1)) 5 0) 4 (((upd (upd (upd (upd f3 6 ((f3 6) + 1)) 6 0) 5 (((upd (upd f3 6 ((f3 6) + 1)) 6 0) 5) + 1)) 5 0) 4) + 1)) 4 0) 3) + 1)) 3 0) 2 (((upd (upd (upd (upd (upd (upd (upd (upd f3 6 ((f3 6) + 1)) 6 0) 5 (((upd (upd f3 6 ((f3 6) + 1)) 6 0) 5) + 1)) 5 0) 4 (((upd (upd (upd (upd f3 6 ((f3 6) + 1)) 6 0) 5 (((upd (upd f3 6 ((f3 6) + 1)) 6 0) 5) + 1)) 5 0) 4) + 1)) 4 0) 3 (((upd (upd (upd (upd (upd (upd f3 6 ((f3 6) + 1)) 6 0) 5 (((upd (upd f3 6 ((f3 6) + 1)) 6 0) 5) + 1)) 5 0) 4 (((upd (upd (upd (upd f3 6 ((f3 6) + 1)) 6 0) 5 (((upd (upd f3 6 ((f3 6) + 1)) 6 0) 5) + 1)) 5 0) 4) + 1)) 4 0) 3) + 1)) 3 0) 2) + 1)), rfl, hw_38⟩)
        · have c_22n : ¬ (f1 3).toInt ≤ (((upd (upd (upd (upd (upd (upd f3 6 ((f3 6) + 1)) 6 0) 5 (((upd (upd f3 6 ((f3 6) + 1)) 6 0) 5) + 1)) 5 0) 4 (((upd (upd (upd (upd f3 6 ((f3 6) + 1)) 6 0) 5 (((upd (upd f3 6 ((f3 6) + 1)) 6 0) 5) + 1)) 5 0) 4) + 1)) 4 0) 3) + 1).toInt := fun q => c_22 ((fa_le _ _).mpr q)
          have hw_39 : bWays T h la md wy pc_ f1 f2 (upd (upd (upd (upd (upd (upd (upd f3 6 ((f3 6) + 1)) 6 0) 5 (((upd (upd f3 6 ((f3 6) + 1)) 6 0) 5) + 1)) 5 0) 4 (((upd (upd (upd (upd f3 6 ((f3 6) + 1)) 6 0) 5 (((upd (upd f3 6 ((f3 6) + 1)) 6 0) 5) + 1)) 5 0) 4) + 1)) 4 0) 3 (((upd (upd (upd (upd (upd (upd f3 6 ((f3 6) + 1)) 6 0) 5 (((upd (upd f3 6 ((f3 6) + 1)) 6 0) 5) + 1)) 5 0) 4 (((upd (upd (upd (upd f3 6 ((f3 6) + 1)) 6 0) 5 (((upd (upd f3 6 ((f3 6) + 1)) 6 0) 5) + 1)) 5 0) 4) + 1)) 4 0) 3) + 1)) f4 f5 f6 n4 [zO0 h md wy la pc_ a1_1 a2_2 a3_3 a4_4 a5_5 a6_6, zAr T 0 a1_1 7 f1, zAr T 0 a2_2 7 f2, zAr T 0 a3_3 7 (upd (upd (upd (upd (upd (upd (upd f3 6 ((f3 6) + 1)) 6 0) 5 (((upd (upd f3 6 ((f3 6) + 1)) 6 0) 5) + 1)) 5 0) 4 (((upd (upd (upd (upd f3 6 ((f3 6) + 1)) 6 0) 5 (((upd (upd f3 6 ((f3 6) + 1)) 6 0) 5) + 1)) 5 0) 4) + 1)) 4 0) 3 (((upd (upd (upd (upd (upd (upd f3 6 ((f3 6) + 1)) 6 0) 5 (((upd (upd f3 6 ((f3 6) + 1)) 6 0) 5) + 1)) 5 0) 4 (((upd (upd (upd (upd f3 6 ((f3 6) + 1)) 6 0) 5 (((upd (upd f3 6 ((f3 6) + 1)) 6 0) 5) + 1)) 5 0) 4) + 1)) 4 0) 3) + 1)), zAr T 0 a4_4 n4 f4, zAr T 0 a5_5 n4 f5, zAr T 0 a6_6 n4 f6] := ⟨a1_1, a2_2, a3_3, a4_4, a5_5, a6_6, rfl⟩
          have G : zS T A s.heap s [[zO0 h md wy la pc_ a1_1 a2_2 a3_3 a4_4 a5_5 a6_6, zAr T 0 a1_1 7 f1, zAr T 0 a2_2 7 f2, zAr T 0 a3_3 7 (upd (upd (upd (upd (upd (upd (upd f3 6 ((f3 6) + 1)) 6 0) 5 (((upd (upd f3 6 ((f3 6) + 1)) 6 0) 5) + 1)) 5 0) 4 (((upd (upd (upd (upd f3 6 ((f3 6) + 1)) 6 0) 5 (((upd (upd f3 6 ((f3 6) + 1)) 6 0) 5) + 1)) 5 0) 4) + 1)) 4 0) 3 (((upd (upd (upd (upd (upd (upd f3 6 ((f3 6) + 1)) 6 0) 5 (((upd (upd f3 6 ((f3 6) + 1)) 6 0) 5) + 1)) 5 0) 4 (((upd (upd (upd (upd f3 6 ((f3 6) + 1)) 6 0) 5 (((upd (upd f3 6 ((f3 6) + 1)) 6 0) 5) + 1)) 5 0) 4) + 1)) 4 0) 3) + 1)), zAr T 0 a4_4 n4 f4, zAr T 0 a5_5 n4 f5, zAr T 0 a6_6 n4 f6]] _ _ := G.re rfl
          exact z_back hQ9 (z_vret C hr hlocks G (Nat.le_of_ble_eq_true rfl) (Nat.le_of_ble_eq_true rfl) dX0_nextRow_32 ⟨([zO0 h md wy la pc_ a1_1 a2_2 a3_3 a4_4 a5_5 a6_6, zAr T 0 a1_1 7 f1, zAr T 0 a2_2 7 f2, zAr T 0 a3_3 7 (upd (upd (upd (upd (upd (upd (upd f3 6 ((f3 6) + 1)) 6 0) 5 (((upd (upd f3 6 ((f3 6) + 1)) 6 0) 5) + 1)) 5 0) 4 (((upd (upd (upd (upd f3 6 ((f3 6) + 1)) 6 0) 5 (((upd (upd f3 6 ((f3 6) + 1)) 6 0) 5) + 1)) 5 0) 4) + 1)) 4 0) 3 (((upd (upd (upd (upd (upd (upd f3 6 ((f3 6) + 1)) 6 0) 5 (((upd (upd f3 6 ((f3 6) + 1)) 6 0) 5) + 1)) 5 0) 4 (((upd (upd (upd (upd f3 6 ((f3 6) + 1)) 6 0) 5 (((upd (upd f3 6 ((f3 6) + 1)) 6 0) 5) + 1)) 5 0) 4) + 1)) 4 0) 3) + 1)), zAr T 0 a4_4 n4 f4, zAr T 0 a5_5 n4 f5, zAr T 0 a6_6 n4 f6]), (upd (upd (upd (upd (upd (upd (upd f3 6 ((f3 6) + 1)) 6 0) 5 (((upd (upd f3 6 ((f3 6) + 1)) 6 0) 5) + 1)) 5 0) 4 (((upd (upd (upd (upd f3 6 ((f3 6) + 1)) 6 0) 5 (((upd (upd f3 6 ((f3 6) + 1)) 6 0) 5) + 1)) 5 0) 4) + 1)) 4 0) 3 (((upd (upd (upd (upd (upd (upd f3 6 ((f3 6) + 1)) 6 0) 5 (((upd (upd f3 6 ((f3 6) + 1)) 6 0) 5) + 1)) 5 0) 4 (((upd (upd (upd (upd f3 6 ((f3 6) + 1)) 6 0) 5 (((upd (upd f3 6 ((f3 6) + 1)) 6 0) 5) + 1)) 5 0) 4) + 1)) 4 0) 3) + 1)), rfl, hw_39⟩)
      · have c_18n : ¬ (f1 4).toInt ≤ (((upd (upd (upd (upd f3 6 ((f3 6) + 1)) 6 0) 5 (((upd (upd f3 6 ((f3 6) + 1)) 6 0) 5) + 1)) 5 0) 4) + 1).toInt := fun q => c_18 ((fa_le _ _).mpr q)
        have hw_40 : bWays T h la md wy pc_ f1 f2 (upd (upd (upd (upd (upd f3 6 ((f3 6) + 1)) 6 0) 5 (((upd (upd f3 6 ((f3 6) + 1)) 6 0) 5) + 1)) 5 0) 4 (((upd (upd (upd (upd f3 6 ((f3 6) + 1)) 6 0) 5 (((upd (upd f3 6 ((f3 6) + 1)) 6 0) 5) + 1)) 5 0) 4) + 1)) f4 f5 f6 n4 [zO0 h md wy la pc_ a1_1 a2_2 a3_3 a4_4 a5_5 a6_6, zAr T 0 a1_1 7 f1, zAr T 0 a2_2 7 f2, zAr T 0 a3_3 7 (upd (upd (upd (upd (upd f3 6 ((f3 6) + 1)) 6 0) 5 (((upd (upd f3 6 ((f3 6) + 1)) 6 0) 5) + 1)) 5 0) 4 (((upd (upd (upd (upd f3 6 ((f3 6) + 1)) 6 0) 5 (((upd (upd f3 6 ((f3 6) + 1)) 6 0) 5) + 1)) 5 0) 4) + 1)), zAr T 0 a4_4 n4 f4, zAr T 0 a5_5 n4 f5, zAr T 0 a6_6 n4 f6] := ⟨a1_1, a2_2, a3_3, a4_4, a5_5, a6_6, rfl⟩
        have G : zS T A s.heap s [[zO0 h md wy la pc_ a1_1 a2_2 a3_3 a4_4 a5_5 a6_6, zAr T 0 a1_1 7 f1, zAr T 0 a2_2 7 f2, zAr T 0 a3_3 7 (upd (upd (upd (upd (upd f3 6 ((f3 6) + 1)) 6 0) 5 (((upd (upd f3 6 ((f3 6) + 1)) 6 0) 5) + 1)) 5 0) 4 (((upd (upd (upd (upd f3 6 ((f3 6) + 1)) 6 0) 5 (((upd (upd f3 6 ((f3 6) + 1)) 6 0) 5) + 1)) 5 0) 4) + 1)), zAr T 0 a4_4 n4 f4, zAr T 0 a5_5 n4 f5, zAr T 0 a6_6 n4 f6]] _ _ := G.re rfl
        exact z_back hQ9 (z_vret C hr hlocks G (Nat.le_of_ble_eq_true rfl) (Nat.le_of_ble_eq_true rfl) dX0_nextRow_32 ⟨([zO0 h md wy la pc_ a1_1 a2_2 a3_3 a4_4 a5_5 a6_6, zAr T 0 a1_1 7 f1, zAr T 0 a2_2 7 f2, zAr T 0 a3_3 7 (upd (upd (upd (upd (upd f3 6 ((f3 6) + 1)) 6 0) 5 (((upd (upd f3 6 ((f3 6) + 1)) 6 0) 5) + 1)) 5 0) 4 (((upd (upd (upd (upd f3 6 ((f3 6) + 1)) 6 0) 5 (((upd (upd f3 6 ((f3 6) + 1)) 6 0) 5) + 1)) 5 0) 4) + 1)), zAr T 0 a4_4 n4 f4, zAr T 0 a5_5 n4 f5, zAr T 0 a6_6 n4 f6]), (upd (upd (upd (upd (upd f3 6 ((f3 6) + 1)) 6 0) 5 (((upd (upd f3 6 ((f3 6) + 1)) 6 0) 5) + 1)) 5 0) 4 (((upd (upd (upd (upd f3 6 ((f3 6) + 1)) 6 0) 5 (((upd (upd f3 6 ((f3 6) + 1)) 6 0) 5) + 1)) 5 0) 4) + 1)), rfl, hw_40⟩)
    · have c_14n : ¬ (f1 5).toInt ≤ (((upd (upd f3 6 ((f3 6) + 1)) 6 0) 5) + 1).toInt := fun q => c_14 ((fa_le _ _).mpr q)
      have hw_41 : bWays T h la md wy pc_ f1 f2 (upd (upd (upd f3 6 ((f3 6) + 1)) 6 0) 5 (((upd (upd f3 6 ((f3 6) + 1)) 6 0) 5) + 1)) f4 f5 f6 n4 [zO0 h md wy la pc_ a1_1 a2_2 a3_3 a4_4 a5_5 a6_6, zAr T 0 a1_1 7 f1, zAr T 0 a2_2 7 f2, zAr T 0 a3_3 7 (upd (upd (upd f3 6 ((f3 6) + 1)) 6 0) 5 (((upd (upd f3 6 ((f3 6) + 1)) 6 0) 5) + 1)), zAr T 0 a4_4 n4 f4, zAr T 0 a5_5 n4 f5, zAr T 0 a6_6 n4 f6] := ⟨a1_1, a2_2, a3_3, a4_4, a5_5, a6_6, rfl⟩
      have G : zS T A s.heap s [[zO0 h md wy la pc_ a1_1 a2_2 a3_3 a4_4 a5_5 a6_6, zAr T 0 a1_1 7 f1, zAr T 0 a2_2 7 f2, zAr T 0 a3_3 7 (upd (upd (upd f3 6 ((f3 6) + 1)) 6 0) 5 (((upd (upd f3 6 ((f3 6) + 1)) 6 0) 5) + 1)), zAr T 0 a4_4 n4 f4, zAr T 0 a5_5 n4 f5, zAr T 0 a6_6 n4 f6]] _ _ := G.re rfl
      exact z_back hQ9 (z_vret C hr hlocks G (Nat.le_of_ble_eq_true rfl) (Nat.le_of_ble_eq_true rfl) dX0_nextRow_32 ⟨([zO0 h md wy la pc_ a1_1 a2_2 a3_3 a4_4 a5_5 a6_6, zAr T 0 a1_1 7 f1, zAr T 0 a2_2 7 f2, zAr T 0 a3_3 7 (upd (upd (upd f3 6 ((f3 6) + 1)) 6 0) 5 (((upd (upd f3 6 ((f3 6) + 1)) 6 0) 5) + 1)), zAr T 0 a4_4 n4 f4, zAr T 0 a5_5 n4 f5, zAr T 0 a6_6 n4 f6]), (upd (upd (upd f3 6 ((f3 6) + 1)) 6 0) 5 (((upd (upd f3 6 ((f3 6) + 1)) 6 0) 5) + 1)), rfl, hw_41⟩)
  · have c_10n : ¬ (f1 6).toInt ≤ ((f3 6) + 1).toInt := fun q => c_10 ((fa_le _ _).mpr q)
    have hw_42 : bWays T h la md wy pc_ f1 f2 (upd f3 6 ((f3 6) + 1)) f4 f5 f6 n4 [zO0 h md wy la pc_ a1_1 a2_2 a3_3 a4_4 a5_5 a6_6, zAr T 0 a1_1 7 f1, zAr T 0 a2_2 7 f2, zAr T 0 a3_3 7 (upd f3 6 ((f3 6) + 1)), zAr T 0 a4_4 n4 f4, zAr T 0 a5_5 n4 f5, zAr T 0 a6_6 n4 f6] := ⟨a1_1, a2_2, a3_3, a4_4, a5_5, a6_6, rfl⟩
    have G : zS T A s.heap s [[zO0 h md wy la pc_ a1_1 a2_2 a3_3 a4_4 a5_5 a6_6, zAr T 0 a1_1 7 f1, zAr T 0 a2_2 7 f2, zAr T 0 a3_3 7 (upd f3 6 ((f3 6) + 1)), zAr T 0 a4_4 n4 f4, zAr T 0 a5_5 n4 f5, zAr T 0 a6_6 n4 f6]] _ _ := G.re rfl
    exact z_back hQ9 (z_vret C hr hlocks G (Nat.le_of_ble_eq_true rfl) (Nat.le_of_ble_eq_true rfl) dX0_nextRow_32 ⟨([zO0 h md wy la pc_ a1_1 a2_2 a3_3 a4_4 a5_5 a6_6, zAr T 0 a1_1 7 f1, zAr T 0 a2_2 7 f2, zAr T 0 a3_3 7 (upd f3 6 ((f3 6) + 1)), zAr T 0 a4_4 n4 f4, zAr T 0 a5_5 n4 f5, zAr T 0 a6_6 n4 f6]), (upd f3 6 ((f3 6) + 1)), rfl, hw_42⟩)
set_option maxHeartbeats 4000000 in
set_option maxRecDepth 100000 in
/-- treesOf -/
theorem c_treesOf (l : Launch) (T : zTy) (h : Nat) (la : Nat) (md : Int32) (wy : Int32) (pc_ : Int32) (f1 : Nat → Int32) (f2 : Nat → Int32) (f3 : Nat → Int32) (f4 : Nat → Int32) (f5 : Nat → Int32) (f6 : Nat → Int32) (n4 : Nat) (ww : va_W) (o : Nat) (cr : Int32) (inn : Int32) (k1 : Nat → Int32) (k2 : Nat → Int32) (k3 : Nat → Int32) (k4 : Nat → Int32) (z : va_W) (hww : bWays T h la md wy pc_ f1 f2 f3 f4 f5 f6 n4 ww) (hz : bLand T o cr inn k1 k2 k3 k4 z) (hI : zLI cr k1 k3) : zMi l T yX0_treesOf cX0_treesOf 4 (some .int) 5 0 0 [.ref h, .ref o] [ww, z] (fun (r : Int32) bs => ∃ (w2 : va_W) (g1 : Nat → Int32) (g2 : Nat → Int32) (g3 : Nat → Int32), bs = [w2, z] ∧ bWays T h o md (zWy cr inn k1) (zPl cr inn k1) g1 g2 g3 f4 f5 f6 n4 w2) := by
  refine zMi_of (own := RX0) (by decide) rfl (Nat.le_of_ble_eq_true rfl) ?_
  intro p e s m args below meth c A ls C hr hlocks hnm hAe G hl
  refine zHide (fun Q9 hQ9 => ?_)
  have hx := C.1
  have hb := C.2.1
  have hl : lv_has ls 4 [(0, .ref h), (1, .ref o)] := hl
  refine lv_aload_n hx hb dX0_treesOf_0 rfl (lv_at hl 0 rfl) ?_
  refine lv_aload_n hx hb dX0_treesOf_1 rfl (lv_at hl 1 rfl) ?_
  refine z_Vv (bc := [ww, z]) (br := []) (As := [.ref o]) (rest := []) C G (c_countWays l T h la md wy pc_ f1 f2 f3 f4 f5 f6 n4 ww o cr inn k1 k2 k3 k4 z hww hz) (kV_RX0_41 C.2.2.2.2 (Nat.le_of_ble_eq_true rfl) (Nat.le_of_ble_eq_true rfl)) [0, 1] [0, 0] rfl rfl (ci := 0) (qc := (RX0, TX0, 10)) rfl rfl (List.mem_flatten.mpr ⟨_, List.mem_of_getElem? (i := 0) rfl, (bWays_mem hww).choose_spec⟩) rfl rfl hl.1 dX0_treesOf_2 (Nat.le_of_ble_eq_true rfl) (Nat.le_of_ble_eq_true rfl) (fun b1 H locs hw G => ?_)
  refine zEx3 hw ?_
  intro w2_1 g1_2 g2_3
  refine zCu2 ?_
  intro hbs9 h_4
  clear hw
  subst hbs9
  have G : zS T A s.heap s [w2_1, z] _ _ := G
  have hwl := Int32.toInt_lt (zWy cr inn k1)
  refine lv_iconst (v := 0) hx hb dX0_treesOf_5 (by decide) ?_
  refine lv_istore_n (lv' := [(2, .int 0), (0, .ref h), (1, .ref o)]) hx hb dX0_treesOf_6 rfl hl (by decide) rfl (fun ls hl => ?_)
  refine lv_iconst (v := 0) hx hb dX0_treesOf_7 (by decide) ?_
  refine lv_istore_n (lv' := [(3, .int 0), (2, .int 0), (0, .ref h), (1, .ref o)]) hx hb dX0_treesOf_8 rfl hl (by decide) rfl (fun ls hl => ?_)
  refine zEx6 h_4 ?_
  intro a1_6 a2_7 a3_8 a4_9 a5_10 a6_11 hbs9
  clear h_4
  subst hbs9
  have G : zS T A s.heap s [[zO0 h md (zWy cr inn k1) o (zPl cr inn k1) a1_6 a2_7 a3_8 a4_9 a5_10 a6_11], [zAr T 0 a1_6 7 g1_2], [zAr T 0 a2_7 7 g2_3], [zAr T 0 a3_8 7 f3], [zAr T 0 a4_9 n4 f4], [zAr T 0 a5_10 n4 f5], [zAr T 0 a6_11 n4 f6], z] _ _ := G.re rfl
  have hw_12 : bWays T h o md (zWy cr inn k1) (zPl cr inn k1) g1_2 g2_3 f3 f4 f5 f6 n4 [zO0 h md (zWy cr inn k1) o (zPl cr inn k1) a1_6 a2_7 a3_8 a4_9 a5_10 a6_11, zAr T 0 a1_6 7 g1_2, zAr T 0 a2_7 7 g2_3, zAr T 0 a3_8 7 f3, zAr T 0 a4_9 n4 f4, zAr T 0 a5_10 n4 f5, zAr T 0 a6_11 n4 f6] := ⟨a1_6, a2_7, a3_8, a4_9, a5_10, a6_11, rfl⟩
  have G : zS T A s.heap s [[zO0 h md (zWy cr inn k1) o (zPl cr inn k1) a1_6 a2_7 a3_8 a4_9 a5_10 a6_11, zAr T 0 a1_6 7 g1_2, zAr T 0 a2_7 7 g2_3, zAr T 0 a3_8 7 f3, zAr T 0 a4_9 n4 f4, zAr T 0 a5_10 n4 f5, zAr T 0 a6_11 n4 f6], z] _ _ := G.re rfl
  refine z_lp3 (T := T) 9 (fun (i : Nat) (wt : va_W) (x3 : Nat → Int32) => [wt, z]) (fun (i : Nat) (wt : va_W) (x3 : Nat → Int32) => [(3, .int (nI i)), (2, .int 0), (0, .ref h), (1, .ref o)]) (fun (i : Nat) (wt : va_W) (x3 : Nat → Int32) => bWays T h o md (zWy cr inn k1) (zPl cr inn k1) g1_2 g2_3 x3 f4 f5 f6 n4 wt ∧ i ≤ 7) (fun (i : Nat) (wt : va_W) (x3 : Nat → Int32) => 7 - i) ?_ 0 ([zO0 h md (zWy cr inn k1) o (zPl cr inn k1) a1_6 a2_7 a3_8 a4_9 a5_10 a6_11, zAr T 0 a1_6 7 g1_2, zAr T 0 a2_7 7 g2_3, zAr T 0 a3_8 7 f3, zAr T 0 a4_9 n4 f4, zAr T 0 a5_10 n4 f5, zAr T 0 a6_11 n4 f6]) f3 (show bWays T h o md (zWy cr inn k1) (zPl cr inn k1) g1_2 g2_3 f3 f4 f5 f6 n4 ([zO0 h md (zWy cr inn k1) o (zPl cr inn k1) a1_6 a2_7 a3_8 a4_9 a5_10 a6_11, zAr T 0 a1_6 7 g1_2, zAr T 0 a2_7 7 g2_3, zAr T 0 a3_8 7 f3, zAr T 0 a4_9 n4 f4, zAr T 0 a5_10 n4 f5, zAr T 0 a6_11 n4 f6]) ∧ 0 ≤ 7 from ⟨hw_12, by omega⟩) G (lv_sub hl [0, 1, 2, 3] rfl)
  intro i wt x3 hI9 ih_9 H locs ls G hl
  replace hI9 : bWays T h o md (zWy cr inn k1) (zPl cr inn k1) g1_2 g2_3 x3 f4 f5 f6 n4 wt ∧ i ≤ 7 := hI9
  refine zAn2 hI9 ?_
  intro hwt hi
  clear hI9
  replace G : zS T A s.heap s [wt, z] _ _ := G
  replace hl : lv_has ls 4 [(3, .int (nI i)), (2, .int 0), (0, .ref h), (1, .ref o)] := hl
  refine lv_iload_n hx hb dX0_treesOf_9 rfl (lv_at hl 0 rfl) ?_
  refine lv_bipush (v := 7) hx hb dX0_treesOf_10 (by decide) ?_
  refine lv_icmp_ge (tgt := 28) hx hb dX0_treesOf_12 (by decide) (fun c_13 => ?_) (fun c_13 => ?_)
  · have c_13n : 7 ≤ i := (nI_leI (a := 7) (b := i) (by omega) (by omega)).mp c_13
    refine lv_iconst (v := 0) hx hb dX0_treesOf_28 (by decide) ?_
    refine lv_istore_n (lv' := [(3, .int 0), (2, .int 0), (0, .ref h), (1, .ref o)]) hx hb dX0_treesOf_29 rfl hl (by decide) rfl (fun ls hl => ?_)
    refine zEx6 hwt ?_
    intro a1_14 a2_15 a3_16 a4_17 a5_18 a6_19 hbs9
    clear hwt
    subst hbs9
    have G : zS T A s.heap s [[zO0 h md (zWy cr inn k1) o (zPl cr inn k1) a1_14 a2_15 a3_16 a4_17 a5_18 a6_19], [zAr T 0 a1_14 7 g1_2], [zAr T 0 a2_15 7 g2_3], [zAr T 0 a3_16 7 x3], [zAr T 0 a4_17 n4 f4], [zAr T 0 a5_18 n4 f5], [zAr T 0 a6_19 n4 f6], z] _ _ := G.re rfl
    have hw_20 : bWays T h o md (zWy cr inn k1) (zPl cr inn k1) g1_2 g2_3 x3 f4 f5 f6 n4 [zO0 h md (zWy cr inn k1) o (zPl cr inn k1) a1_14 a2_15 a3_16 a4_17 a5_18 a6_19, zAr T 0 a1_14 7 g1_2, zAr T 0 a2_15 7 g2_3, zAr T 0 a3_16 7 x3, zAr T 0 a4_17 n4 f4, zAr T 0 a5_18 n4 f5, zAr T 0 a6_19 n4 f6] := ⟨a1_14, a2_15, a3_16, a4_17, a5_18, a6_19, rfl⟩
    have G : zS T A s.heap s [[zO0 h md (zWy cr inn k1) o (zPl cr inn k1) a1_14 a2_15 a3_16 a4_17 a5_18 a6_19, zAr T 0 a1_14 7 g1_2, zAr T 0 a2_15 7 g2_3, zAr T 0 a3_16 7 x3, zAr T 0 a4_17 n4 f4, zAr T 0 a5_18 n4 f5, zAr T 0 a6_19 n4 f6], z] _ _ := G.re rfl
    refine z_lp4 (T := T) 30 (fun (j : Nat) (u : Int32) (wu : va_W) (y3 : Nat → Int32) => [wu, z]) (fun (j : Nat) (u : Int32) (wu : va_W) (y3 : Nat → Int32) => [(3, .int (nI j)), (2, .int u), (0, .ref h), (1, .ref o)]) (fun (j : Nat) (u : Int32) (wu : va_W) (y3 : Nat → Int32) => bWays T h o md (zWy cr inn k1) (zPl cr inn k1) g1_2 g2_3 y3 f4 f5 f6 n4 wu ∧ j ≤ (zWy cr inn k1).toInt.toNat) (fun (j : Nat) (u : Int32) (wu : va_W) (y3 : Nat → Int32) => (zWy cr inn k1).toInt.toNat - j) ?_ 0 0 ([zO0 h md (zWy cr inn k1) o (zPl cr inn k1) a1_14 a2_15 a3_16 a4_17 a5_18 a6_19, zAr T 0 a1_14 7 g1_2, zAr T 0 a2_15 7 g2_3, zAr T 0 a3_16 7 x3, zAr T 0 a4_17 n4 f4, zAr T 0 a5_18 n4 f5, zAr T 0 a6_19 n4 f6]) x3 (show bWays T h o md (zWy cr inn k1) (zPl cr inn k1) g1_2 g2_3 x3 f4 f5 f6 n4 ([zO0 h md (zWy cr inn k1) o (zPl cr inn k1) a1_14 a2_15 a3_16 a4_17 a5_18 a6_19, zAr T 0 a1_14 7 g1_2, zAr T 0 a2_15 7 g2_3, zAr T 0 a3_16 7 x3, zAr T 0 a4_17 n4 f4, zAr T 0 a5_18 n4 f5, zAr T 0 a6_19 n4 f6]) ∧ 0 ≤ (zWy cr inn k1).toInt.toNat from ⟨hw_20, by omega⟩) G (lv_sub hl [0, 1, 2, 3] rfl)
    intro j u wu y3 hI9 ih_30 H locs ls G hl
    replace hI9 : bWays T h o md (zWy cr inn k1) (zPl cr inn k1) g1_2 g2_3 y3 f4 f5 f6 n4 wu ∧ j ≤ (zWy cr inn k1).toInt.toNat := hI9
    refine zAn2 hI9 ?_
    intro hwu hj
    clear hI9
    replace G : zS T A s.heap s [wu, z] _ _ := G
    replace hl : lv_has ls 4 [(3, .int (nI j)), (2, .int u), (0, .ref h), (1, .ref o)] := hl
    refine lv_iload_n hx hb dX0_treesOf_30 rfl (lv_at hl 0 rfl) ?_
    refine lv_aload_n hx hb dX0_treesOf_31 rfl (lv_at hl 2 rfl) ?_
    refine zEx6 hwu ?_
    intro a1_21 a2_22 a3_23 a4_24 a5_25 a6_26 hbs9
    clear hwu
    subst hbs9
    have G : zS T A s.heap s [[zO0 h md (zWy cr inn k1) o (zPl cr inn k1) a1_21 a2_22 a3_23 a4_24 a5_25 a6_26], [zAr T 0 a1_21 7 g1_2], [zAr T 0 a2_22 7 g2_3], [zAr T 0 a3_23 7 y3], [zAr T 0 a4_24 n4 f4], [zAr T 0 a5_25 n4 f5], [zAr T 0 a6_26 n4 f6], z] _ _ := G.re rfl
    refine z_get C G clX0 0 rfl 1 (by decide) m_fl_RX0_57 rfl dX0_treesOf_32 ?_
    refine lv_icmp_ge (tgt := 58) hx hb dX0_treesOf_35 (by decide) (fun c_27 => ?_) (fun c_27 => ?_)
    · have c_27n : (zWy cr inn k1).toInt ≤ (j : Int) := by have q := (fa_le _ _).mp c_27; rw [nI_toInt (n := j) (by omega)] at q; exact q
      refine lv_iload_n hx hb dX0_treesOf_58 rfl (lv_at hl 1 rfl) ?_
      have hw_28 : bWays T h o md (zWy cr inn k1) (zPl cr inn k1) g1_2 g2_3 y3 f4 f5 f6 n4 [zO0 h md (zWy cr inn k1) o (zPl cr inn k1) a1_21 a2_22 a3_23 a4_24 a5_25 a6_26, zAr T 0 a1_21 7 g1_2, zAr T 0 a2_22 7 g2_3, zAr T 0 a3_23 7 y3, zAr T 0 a4_24 n4 f4, zAr T 0 a5_25 n4 f5, zAr T 0 a6_26 n4 f6] := ⟨a1_21, a2_22, a3_23, a4_24, a5_25, a6_26, rfl⟩
      have G : zS T A s.heap s [[zO0 h md (zWy cr inn k1) o (zPl cr inn k1) a1_21 a2_22 a3_23 a4_24 a5_25 a6_26, zAr T 0 a1_21 7 g1_2, zAr T 0 a2_22 7 g2_3, zAr T 0 a3_23 7 y3, zAr T 0 a4_24 n4 f4, zAr T 0 a5_25 n4 f5, zAr T 0 a6_26 n4 f6], z] _ _ := G.re rfl
      exact z_back hQ9 (z_iret C hr hlocks G (Nat.le_of_ble_eq_true rfl) (Nat.le_of_ble_eq_true rfl) dX0_treesOf_59 ⟨([zO0 h md (zWy cr inn k1) o (zPl cr inn k1) a1_21 a2_22 a3_23 a4_24 a5_25 a6_26, zAr T 0 a1_21 7 g1_2, zAr T 0 a2_22 7 g2_3, zAr T 0 a3_23 7 y3, zAr T 0 a4_24 n4 f4, zAr T 0 a5_25 n4 f5, zAr T 0 a6_26 n4 f6]), g1_2, g2_3, y3, rfl, hw_28⟩)
    · have c_27n : ¬ (zWy cr inn k1).toInt ≤ (j : Int) := fun q => c_27 ((fa_le _ _).mpr (by rw [nI_toInt (n := j) (by omega)]; exact q))
      refine lv_aload_n hx hb dX0_treesOf_38 rfl (lv_at hl 2 rfl) ?_
      have hw_29 : bWays T h o md (zWy cr inn k1) (zPl cr inn k1) g1_2 g2_3 y3 f4 f5 f6 n4 [zO0 h md (zWy cr inn k1) o (zPl cr inn k1) a1_21 a2_22 a3_23 a4_24 a5_25 a6_26, zAr T 0 a1_21 7 g1_2, zAr T 0 a2_22 7 g2_3, zAr T 0 a3_23 7 y3, zAr T 0 a4_24 n4 f4, zAr T 0 a5_25 n4 f5, zAr T 0 a6_26 n4 f6] := ⟨a1_21, a2_22, a3_23, a4_24, a5_25, a6_26, rfl⟩
      have G : zS T A s.heap s [[zO0 h md (zWy cr inn k1) o (zPl cr inn k1) a1_21 a2_22 a3_23 a4_24 a5_25 a6_26, zAr T 0 a1_21 7 g1_2, zAr T 0 a2_22 7 g2_3, zAr T 0 a3_23 7 y3, zAr T 0 a4_24 n4 f4, zAr T 0 a5_25 n4 f5, zAr T 0 a6_26 n4 f6], z] _ _ := G.re rfl
      refine z_Vi (bc := [[zO0 h md (zWy cr inn k1) o (zPl cr inn k1) a1_21 a2_22 a3_23 a4_24 a5_25 a6_26, zAr T 0 a1_21 7 g1_2, zAr T 0 a2_22 7 g2_3, zAr T 0 a3_23 7 y3, zAr T 0 a4_24 n4 f4, zAr T 0 a5_25 n4 f5, zAr T 0 a6_26 n4 f6], z]) (br := []) (As := []) (rest := []) C G (c_allComeByRow l T h o md (zWy cr inn k1) (zPl cr inn k1) g1_2 g2_3 y3 f4 f5 f6 n4 ([zO0 h md (zWy cr inn k1) o (zPl cr inn k1) a1_21 a2_22 a3_23 a4_24 a5_25 a6_26, zAr T 0 a1_21 7 g1_2, zAr T 0 a2_22 7 g2_3, zAr T 0 a3_23 7 y3, zAr T 0 a4_24 n4 f4, zAr T 0 a5_25 n4 f5, zAr T 0 a6_26 n4 f6]) cr inn k1 k2 k3 k4 z hw_29 hz (by first | with_reducible assumption | with_reducible rfl | omega | assumption | rfl)) (kV_RX0_122 C.2.2.2.2 (Nat.le_of_ble_eq_true rfl) (Nat.le_of_ble_eq_true rfl)) [0, 1] [0, 0] rfl rfl (ci := 0) (qc := (RX0, TX0, 10)) rfl rfl (List.mem_flatten.mpr ⟨_, List.mem_of_getElem? (i := 0) rfl, (bWays_mem hw_29).choose_spec⟩) rfl rfl hl.1 dX0_treesOf_39 (Nat.le_of_ble_eq_true rfl) (Nat.le_of_ble_eq_true rfl) (fun r_31 b1 H locs hw G => ?_)
      refine zAn2 hw ?_
      intro hbs9 h_30
      clear hw
      subst hbs9
      have G : zS T A s.heap s [[zO0 h md (zWy cr inn k1) o (zPl cr inn k1) a1_21 a2_22 a3_23 a4_24 a5_25 a6_26, zAr T 0 a1_21 7 g1_2, zAr T 0 a2_22 7 g2_3, zAr T 0 a3_23 7 y3, zAr T 0 a4_24 n4 f4, zAr T 0 a5_25 n4 f5, zAr T 0 a6_26 n4 f6], z] _ _ := G
      replace h_30 : zHd ((r_31 = 0 ∨ r_31 = 1)) := h_30
      refine lv_if_eq (tgt := 48) hx hb dX0_treesOf_42 (by decide) (fun c_32 => ?_) (fun c_32 => ?_)
      · have c_32n : r_31.toInt = (0 : Int) := (fa_eq _ _).mp c_32
        refine lv_aload_n hx hb dX0_treesOf_48 rfl (lv_at hl 2 rfl) ?_
        refine z_Vv (bc := [[zO0 h md (zWy cr inn k1) o (zPl cr inn k1) a1_21 a2_22 a3_23 a4_24 a5_25 a6_26, zAr T 0 a1_21 7 g1_2, zAr T 0 a2_22 7 g2_3, zAr T 0 a3_23 7 y3, zAr T 0 a4_24 n4 f4, zAr T 0 a5_25 n4 f5, zAr T 0 a6_26 n4 f6]]) (br := [z]) (As := []) (rest := []) C G (c_nextRow l T h o md (zWy cr inn k1) (zPl cr inn k1) g1_2 g2_3 y3 f4 f5 f6 n4 ([zO0 h md (zWy cr inn k1) o (zPl cr inn k1) a1_21 a2_22 a3_23 a4_24 a5_25 a6_26, zAr T 0 a1_21 7 g1_2, zAr T 0 a2_22 7 g2_3, zAr T 0 a3_23 7 y3, zAr T 0 a4_24 n4 f4, zAr T 0 a5_25 n4 f5, zAr T 0 a6_26 n4 f6]) hw_29) (kV_RX0_126 C.2.2.2.2 (Nat.le_of_ble_eq_true rfl) (Nat.le_of_ble_eq_true rfl)) [0] [0] rfl rfl (ci := 0) (qc := (RX0, TX0, 10)) rfl rfl (List.mem_flatten.mpr ⟨_, List.mem_of_getElem? (i := 0) rfl, (bWays_mem hw_29).choose_spec⟩) rfl rfl hl.1 dX0_treesOf_49 (Nat.le_of_ble_eq_true rfl) (Nat.le_of_ble_eq_true rfl) (fun b1 H locs hw G => ?_)
        refine zEx2 hw ?_
        intro w2_33 g3_34
        refine zCu2 ?_
        intro hbs9 h_35
        clear hw
        subst hbs9
        have G : zS T A s.heap s [z, w2_33] _ _ := G
        refine lv_iinc (v := nI (j + 1)) (lv' := [(3, .int (nI (j + 1))), (2, .int u), (0, .ref h), (1, .ref o)]) hx hb dX0_treesOf_52 hl (k := 0) rfl (z_inc j 1) (by decide) rfl (fun ls hl => ?_)
        refine lv_goto (tgt := 30) hx hb dX0_treesOf_55 (by decide) ?_
        have G := G.sub (bs' := [w2_33, z]) [1, 0] rfl
        exact ih_30 (j + 1) u w2_33 g3_34 (show bWays T h o md (zWy cr inn k1) (zPl cr inn k1) g1_2 g2_3 g3_34 f4 f5 f6 n4 w2_33 ∧ (j + 1) ≤ (zWy cr inn k1).toInt.toNat from ⟨h_35, by omega⟩) (show (zWy cr inn k1).toInt.toNat - (j + 1) < (zWy cr inn k1).toInt.toNat - j from by omega) _ _ ls G (lv_sub hl [0, 1, 2, 3] rfl)
      · have c_32n : ¬ r_31.toInt = (0 : Int) := fun q => c_32 ((fa_eq _ _).mpr q)
        refine lv_iinc (v := u + 1) (lv' := [(2, .int (u + 1)), (3, .int (nI j)), (0, .ref h), (1, .ref o)]) hx hb dX0_treesOf_45 hl (k := 1) rfl rfl (by decide) rfl (fun ls hl => ?_)
        refine lv_aload_n hx hb dX0_treesOf_48 rfl (lv_at hl 2 rfl) ?_
        refine z_Vv (bc := [[zO0 h md (zWy cr inn k1) o (zPl cr inn k1) a1_21 a2_22 a3_23 a4_24 a5_25 a6_26, zAr T 0 a1_21 7 g1_2, zAr T 0 a2_22 7 g2_3, zAr T 0 a3_23 7 y3, zAr T 0 a4_24 n4 f4, zAr T 0 a5_25 n4 f5, zAr T 0 a6_26 n4 f6]]) (br := [z]) (As := []) (rest := []) C G (c_nextRow l T h o md (zWy cr inn k1) (zPl cr inn k1) g1_2 g2_3 y3 f4 f5 f6 n4 ([zO0 h md (zWy cr inn k1) o (zPl cr inn k1) a1_21 a2_22 a3_23 a4_24 a5_25 a6_26, zAr T 0 a1_21 7 g1_2, zAr T 0 a2_22 7 g2_3, zAr T 0 a3_23 7 y3, zAr T 0 a4_24 n4 f4, zAr T 0 a5_25 n4 f5, zAr T 0 a6_26 n4 f6]) hw_29) (kV_RX0_126 C.2.2.2.2 (Nat.le_of_ble_eq_true rfl) (Nat.le_of_ble_eq_true rfl)) [0] [0] rfl rfl (ci := 0) (qc := (RX0, TX0, 10)) rfl rfl (List.mem_flatten.mpr ⟨_, List.mem_of_getElem? (i := 0) rfl, (bWays_mem hw_29).choose_spec⟩) rfl rfl hl.1 dX0_treesOf_49 (Nat.le_of_ble_eq_true rfl) (Nat.le_of_ble_eq_true rfl) (fun b1 H locs hw G => ?_)
        refine zEx2 hw ?_
        intro w2_37 g3_38
        refine zCu2 ?_
        intro hbs9 h_39
        clear hw
        subst hbs9
        have G : zS T A s.heap s [z, w2_37] _ _ := G
        refine lv_iinc (v := nI (j + 1)) (lv' := [(3, .int (nI (j + 1))), (2, .int (u + 1)), (0, .ref h), (1, .ref o)]) hx hb dX0_treesOf_52 hl (k := 1) rfl (z_inc j 1) (by decide) rfl (fun ls hl => ?_)
        refine lv_goto (tgt := 30) hx hb dX0_treesOf_55 (by decide) ?_
        have G := G.sub (bs' := [w2_37, z]) [1, 0] rfl
        exact ih_30 (j + 1) (u + 1) w2_37 g3_38 (show bWays T h o md (zWy cr inn k1) (zPl cr inn k1) g1_2 g2_3 g3_38 f4 f5 f6 n4 w2_37 ∧ (j + 1) ≤ (zWy cr inn k1).toInt.toNat from ⟨h_39, by omega⟩) (show (zWy cr inn k1).toInt.toNat - (j + 1) < (zWy cr inn k1).toInt.toNat - j from by omega) _ _ ls G (lv_sub hl [0, 1, 2, 3] rfl)
  · have c_13n : ¬ 7 ≤ i := fun q => c_13 ((nI_leI (a := 7) (b := i) (by omega) (by omega)).mpr q)
    refine lv_aload_n hx hb dX0_treesOf_15 rfl (lv_at hl 2 rfl) ?_
    refine zEx6 hwt ?_
    intro a1_41 a2_42 a3_43 a4_44 a5_45 a6_46 hbs9
    clear hwt
    subst hbs9
    have G : zS T A s.heap s [[zO0 h md (zWy cr inn k1) o (zPl cr inn k1) a1_41 a2_42 a3_43 a4_44 a5_45 a6_46], [zAr T 0 a1_41 7 g1_2], [zAr T 0 a2_42 7 g2_3], [zAr T 0 a3_43 7 x3], [zAr T 0 a4_44 n4 f4], [zAr T 0 a5_45 n4 f5], [zAr T 0 a6_46 n4 f6], z] _ _ := G.re rfl
    refine z_get C G clX0 0 rfl 6 (by decide) m_fl_RX0_25 rfl dX0_treesOf_16 ?_
    refine lv_iload_n hx hb dX0_treesOf_19 rfl (lv_at hl 0 rfl) ?_
    refine lv_iconst (v := 0) hx hb dX0_treesOf_20 (by decide) ?_
    refine z_ist C G 3 rfl (vp_in_nI (by omega) (by omega)) dX0_treesOf_21 (fun H locs G => ?_)
    rw [nI_clamp (by omega)] at G
    have G : zS T A s.heap s [[zO0 h md (zWy cr inn k1) o (zPl cr inn k1) a1_41 a2_42 a3_43 a4_44 a5_45 a6_46], [zAr T 0 a1_41 7 g1_2], [zAr T 0 a2_42 7 g2_3], [zAr T 0 a3_43 7 (upd x3 i 0)], [zAr T 0 a4_44 n4 f4], [zAr T 0 a5_45 n4 f5], [zAr T 0 a6_46 n4 f6], z] _ _ := G
    refine lv_iinc (v := nI (i + 1)) (lv' := [(3, .int (nI (i + 1))), (2, .int 0), (0, .ref h), (1, .ref o)]) hx hb dX0_treesOf_22 hl (k := 0) rfl (z_inc i 1) (by decide) rfl (fun ls hl => ?_)
    refine lv_goto (tgt := 9) hx hb dX0_treesOf_25 (by decide) ?_
    have hw_47 : bWays T h o md (zWy cr inn k1) (zPl cr inn k1) g1_2 g2_3 (upd x3 i 0) f4 f5 f6 n4 [zO0 h md (zWy cr inn k1) o (zPl cr inn k1) a1_41 a2_42 a3_43 a4_44 a5_45 a6_46, zAr T 0 a1_41 7 g1_2, zAr T 0 a2_42 7 g2_3, zAr T 0 a3_43 7 (upd x3 i 0), zAr T 0 a4_44 n4 f4, zAr T 0 a5_45 n4 f5, zAr T 0 a6_46 n4 f6] := ⟨a1_41, a2_42, a3_43, a4_44, a5_45, a6_46, rfl⟩
    have G : zS T A s.heap s [[zO0 h md (zWy cr inn k1) o (zPl cr inn k1) a1_41 a2_42 a3_43 a4_44 a5_45 a6_46, zAr T 0 a1_41 7 g1_2, zAr T 0 a2_42 7 g2_3, zAr T 0 a3_43 7 (upd x3 i 0), zAr T 0 a4_44 n4 f4, zAr T 0 a5_45 n4 f5, zAr T 0 a6_46 n4 f6], z] _ _ := G.re rfl
    exact ih_9 (i + 1) ([zO0 h md (zWy cr inn k1) o (zPl cr inn k1) a1_41 a2_42 a3_43 a4_44 a5_45 a6_46, zAr T 0 a1_41 7 g1_2, zAr T 0 a2_42 7 g2_3, zAr T 0 a3_43 7 (upd x3 i 0), zAr T 0 a4_44 n4 f4, zAr T 0 a5_45 n4 f5, zAr T 0 a6_46 n4 f6]) (upd x3 i 0) (show bWays T h o md (zWy cr inn k1) (zPl cr inn k1) g1_2 g2_3 (upd x3 i 0) f4 f5 f6 n4 ([zO0 h md (zWy cr inn k1) o (zPl cr inn k1) a1_41 a2_42 a3_43 a4_44 a5_45 a6_46, zAr T 0 a1_41 7 g1_2, zAr T 0 a2_42 7 g2_3, zAr T 0 a3_43 7 (upd x3 i 0), zAr T 0 a4_44 n4 f4, zAr T 0 a5_45 n4 f5, zAr T 0 a6_46 n4 f6]) ∧ (i + 1) ≤ 7 from ⟨hw_47, by omega⟩) (show 7 - (i + 1) < 7 - i from by omega) _ _ ls G (lv_sub hl [0, 1, 2, 3] rfl)
set_option maxHeartbeats 4000000 in
set_option maxRecDepth 100000 in
/-- stepOnce -/
theorem c_stepOnce (l : Launch) (T : zTy) (h : Nat) (la : Nat) (md : Int32) (wy : Int32) (pc_ : Int32) (f1 : Nat → Int32) (f2 : Nat → Int32) (f3 : Nat → Int32) (f4 : Nat → Int32) (f5 : Nat → Int32) (f6 : Nat → Int32) (n4 : Nat) (ww : va_W) (cr : Int32) (inn : Int32) (k1 : Nat → Int32) (k2 : Nat → Int32) (k3 : Nat → Int32) (k4 : Nat → Int32) (z : va_W) (hww : bWays T h la md wy pc_ f1 f2 f3 f4 f5 f6 n4 ww) (hz : bLand T la cr inn k1 k2 k3 k4 z) (hI : zLI cr k1 k3) (hn : n4 ≤ 131072) (hpl : pc_.toInt ≤ 131072) : zMv l T yX0_stepOnce cX0_stepOnce 5 4 0 0 [.ref h] [ww, z] (fun bs => ∃ (w2 : va_W) (g4 : Nat → Int32) (g5 : Nat → Int32), bs = [w2, z] ∧ bWays T h la md wy pc_ f1 f2 f3 g4 g5 f6 n4 w2) := by
  refine zMv_of (own := RX0) (by decide) rfl (Nat.le_of_ble_eq_true rfl) ?_
  intro p e s m args below meth c A ls C hr hlocks hnm hAe G hl
  refine zHide (fun Q9 hQ9 => ?_)
  have hx := C.1
  have hb := C.2.1
  have hl : lv_has ls 5 [(0, .ref h)] := hl
  refine lv_iconst (v := 0) hx hb dX0_stepOnce_0 (by decide) ?_
  refine lv_istore_n (lv' := [(1, .int 0), (0, .ref h)]) hx hb dX0_stepOnce_1 rfl hl (by decide) rfl (fun ls hl => ?_)
  refine zEx6 hww ?_
  intro a1_1 a2_2 a3_3 a4_4 a5_5 a6_6 hbs9
  clear hww
  subst hbs9
  have G : zS T A s.heap s [[zO0 h md wy la pc_ a1_1 a2_2 a3_3 a4_4 a5_5 a6_6], [zAr T 0 a1_1 7 f1], [zAr T 0 a2_2 7 f2], [zAr T 0 a3_3 7 f3], [zAr T 0 a4_4 n4 f4], [zAr T 0 a5_5 n4 f5], [zAr T 0 a6_6 n4 f6], z] _ _ := G.re rfl
  refine zEx4 hz ?_
  intro a1_7 a2_8 a3_9 a4_10 hbs9
  clear hz
  subst hbs9
  have G : zS T A s.heap s [[zO0 h md wy la pc_ a1_1 a2_2 a3_3 a4_4 a5_5 a6_6], [zAr T 0 a1_1 7 f1], [zAr T 0 a2_2 7 f2], [zAr T 0 a3_3 7 f3], [zAr T 0 a4_4 n4 f4], [zAr T 0 a5_5 n4 f5], [zAr T 0 a6_6 n4 f6], [zO4 la cr inn a1_7 a2_8 a3_9 a4_10], [zAr T 0 a1_7 7 k1], [zAr T 0 a2_8 28 k2], [zAr T 0 a3_9 7 k3], [zAr T 0 a4_10 7 k4]] _ _ := G.re rfl
  have hw_11 : bWays T h la md wy pc_ f1 f2 f3 f4 f5 f6 n4 [zO0 h md wy la pc_ a1_1 a2_2 a3_3 a4_4 a5_5 a6_6, zAr T 0 a1_1 7 f1, zAr T 0 a2_2 7 f2, zAr T 0 a3_3 7 f3, zAr T 0 a4_4 n4 f4, zAr T 0 a5_5 n4 f5, zAr T 0 a6_6 n4 f6] := ⟨a1_1, a2_2, a3_3, a4_4, a5_5, a6_6, rfl⟩
  have G : zS T A s.heap s [[zO0 h md wy la pc_ a1_1 a2_2 a3_3 a4_4 a5_5 a6_6, zAr T 0 a1_1 7 f1, zAr T 0 a2_2 7 f2, zAr T 0 a3_3 7 f3, zAr T 0 a4_4 n4 f4, zAr T 0 a5_5 n4 f5, zAr T 0 a6_6 n4 f6], [zO4 la cr inn a1_7 a2_8 a3_9 a4_10], [zAr T 0 a1_7 7 k1], [zAr T 0 a2_8 28 k2], [zAr T 0 a3_9 7 k3], [zAr T 0 a4_10 7 k4]] _ _ := G.re rfl
  have hw_12 : bLand T la cr inn k1 k2 k3 k4 [zO4 la cr inn a1_7 a2_8 a3_9 a4_10, zAr T 0 a1_7 7 k1, zAr T 0 a2_8 28 k2, zAr T 0 a3_9 7 k3, zAr T 0 a4_10 7 k4] := ⟨a1_7, a2_8, a3_9, a4_10, rfl⟩
  have G : zS T A s.heap s [[zO0 h md wy la pc_ a1_1 a2_2 a3_3 a4_4 a5_5 a6_6, zAr T 0 a1_1 7 f1, zAr T 0 a2_2 7 f2, zAr T 0 a3_3 7 f3, zAr T 0 a4_4 n4 f4, zAr T 0 a5_5 n4 f5, zAr T 0 a6_6 n4 f6], [zO4 la cr inn a1_7 a2_8 a3_9 a4_10, zAr T 0 a1_7 7 k1, zAr T 0 a2_8 28 k2, zAr T 0 a3_9 7 k3, zAr T 0 a4_10 7 k4]] _ _ := G.re rfl
  refine z_lp4 (T := T) 2 (fun (i : Nat) (wt : va_W) (x4 : Nat → Int32) (x5 : Nat → Int32) => [wt, [zO4 la cr inn a1_7 a2_8 a3_9 a4_10, zAr T 0 a1_7 7 k1, zAr T 0 a2_8 28 k2, zAr T 0 a3_9 7 k3, zAr T 0 a4_10 7 k4]]) (fun (i : Nat) (wt : va_W) (x4 : Nat → Int32) (x5 : Nat → Int32) => [(1, .int (nI i)), (0, .ref h)]) (fun (i : Nat) (wt : va_W) (x4 : Nat → Int32) (x5 : Nat → Int32) => bWays T h la md wy pc_ f1 f2 f3 x4 x5 f6 n4 wt ∧ i ≤ pc_.toInt.toNat) (fun (i : Nat) (wt : va_W) (x4 : Nat → Int32) (x5 : Nat → Int32) => pc_.toInt.toNat - i) ?_ 0 ([zO0 h md wy la pc_ a1_1 a2_2 a3_3 a4_4 a5_5 a6_6, zAr T 0 a1_1 7 f1, zAr T 0 a2_2 7 f2, zAr T 0 a3_3 7 f3, zAr T 0 a4_4 n4 f4, zAr T 0 a5_5 n4 f5, zAr T 0 a6_6 n4 f6]) f4 f5 (show bWays T h la md wy pc_ f1 f2 f3 f4 f5 f6 n4 ([zO0 h md wy la pc_ a1_1 a2_2 a3_3 a4_4 a5_5 a6_6, zAr T 0 a1_1 7 f1, zAr T 0 a2_2 7 f2, zAr T 0 a3_3 7 f3, zAr T 0 a4_4 n4 f4, zAr T 0 a5_5 n4 f5, zAr T 0 a6_6 n4 f6]) ∧ 0 ≤ pc_.toInt.toNat from ⟨hw_11, by omega⟩) G (lv_sub hl [0, 1] rfl)
  intro i wt x4 x5 hI9 ih_2 H locs ls G hl
  replace hI9 : bWays T h la md wy pc_ f1 f2 f3 x4 x5 f6 n4 wt ∧ i ≤ pc_.toInt.toNat := hI9
  refine zAn2 hI9 ?_
  intro hwt hi
  clear hI9
  replace G : zS T A s.heap s [wt, [zO4 la cr inn a1_7 a2_8 a3_9 a4_10, zAr T 0 a1_7 7 k1, zAr T 0 a2_8 28 k2, zAr T 0 a3_9 7 k3, zAr T 0 a4_10 7 k4]] _ _ := G
  replace hl : lv_has ls 5 [(1, .int (nI i)), (0, .ref h)] := hl
  refine lv_iload_n hx hb dX0_stepOnce_2 rfl (lv_at hl 0 rfl) ?_
  refine lv_aload_n hx hb dX0_stepOnce_3 rfl (lv_at hl 1 rfl) ?_
  refine zEx6 hwt ?_
  intro a1_13 a2_14 a3_15 a4_16 a5_17 a6_18 hbs9
  clear hwt
  subst hbs9
  have G : zS T A s.heap s [[zO0 h md wy la pc_ a1_13 a2_14 a3_15 a4_16 a5_17 a6_18], [zAr T 0 a1_13 7 f1], [zAr T 0 a2_14 7 f2], [zAr T 0 a3_15 7 f3], [zAr T 0 a4_16 n4 x4], [zAr T 0 a5_17 n4 x5], [zAr T 0 a6_18 n4 f6], [zO4 la cr inn a1_7 a2_8 a3_9 a4_10, zAr T 0 a1_7 7 k1, zAr T 0 a2_8 28 k2, zAr T 0 a3_9 7 k3, zAr T 0 a4_10 7 k4]] _ _ := G.re rfl
  refine z_get C G clX0 0 rfl 3 (by decide) m_fl_RX0_75 rfl dX0_stepOnce_4 ?_
  refine lv_icmp_ge (tgt := 108) hx hb dX0_stepOnce_7 (by decide) (fun c_19 => ?_) (fun c_19 => ?_)
  · have c_19n : pc_.toInt ≤ (i : Int) := by have q := (fa_le _ _).mp c_19; rw [nI_toInt (n := i) (by omega)] at q; exact q
    have hw_20 : bWays T h la md wy pc_ f1 f2 f3 x4 x5 f6 n4 [zO0 h md wy la pc_ a1_13 a2_14 a3_15 a4_16 a5_17 a6_18, zAr T 0 a1_13 7 f1, zAr T 0 a2_14 7 f2, zAr T 0 a3_15 7 f3, zAr T 0 a4_16 n4 x4, zAr T 0 a5_17 n4 x5, zAr T 0 a6_18 n4 f6] := ⟨a1_13, a2_14, a3_15, a4_16, a5_17, a6_18, rfl⟩
    have G : zS T A s.heap s [[zO0 h md wy la pc_ a1_13 a2_14 a3_15 a4_16 a5_17 a6_18, zAr T 0 a1_13 7 f1, zAr T 0 a2_14 7 f2, zAr T 0 a3_15 7 f3, zAr T 0 a4_16 n4 x4, zAr T 0 a5_17 n4 x5, zAr T 0 a6_18 n4 f6], [zO4 la cr inn a1_7 a2_8 a3_9 a4_10, zAr T 0 a1_7 7 k1, zAr T 0 a2_8 28 k2, zAr T 0 a3_9 7 k3, zAr T 0 a4_10 7 k4]] _ _ := G.re rfl
    exact z_back hQ9 (z_vret C hr hlocks G (Nat.le_of_ble_eq_true rfl) (Nat.le_of_ble_eq_true rfl) dX0_stepOnce_108 ⟨([zO0 h md wy la pc_ a1_13 a2_14 a3_15 a4_16 a5_17 a6_18, zAr T 0 a1_13 7 f1, zAr T 0 a2_14 7 f2, zAr T 0 a3_15 7 f3, zAr T 0 a4_16 n4 x4, zAr T 0 a5_17 n4 x5, zAr T 0 a6_18 n4 f6]), x4, x5, rfl, hw_20⟩)
  · have c_19n : ¬ pc_.toInt ≤ (i : Int) := fun q => c_19 ((fa_le _ _).mpr (by rw [nI_toInt (n := i) (by omega)]; exact q))
    refine lv_iload_n hx hb dX0_stepOnce_10 rfl (lv_at hl 0 rfl) ?_
    refine lv_aload_n hx hb dX0_stepOnce_11 rfl (lv_at hl 1 rfl) ?_
    refine z_get C G clX0 0 rfl 7 (by decide) m_fl_RX0_28 rfl dX0_stepOnce_12 ?_
    refine z_alen C G 4 0 rfl (v := nI n4) rfl rfl dX0_stepOnce_15 ?_
    refine lv_icmp_ge (tgt := 108) hx hb dX0_stepOnce_16 (by decide) (fun c_21 => ?_) (fun c_21 => ?_)
    · have c_21n : n4 ≤ i := (nI_leI (a := n4) (b := i) (by omega) (by omega)).mp c_21
      have hw_22 : bWays T h la md wy pc_ f1 f2 f3 x4 x5 f6 n4 [zO0 h md wy la pc_ a1_13 a2_14 a3_15 a4_16 a5_17 a6_18, zAr T 0 a1_13 7 f1, zAr T 0 a2_14 7 f2, zAr T 0 a3_15 7 f3, zAr T 0 a4_16 n4 x4, zAr T 0 a5_17 n4 x5, zAr T 0 a6_18 n4 f6] := ⟨a1_13, a2_14, a3_15, a4_16, a5_17, a6_18, rfl⟩
      have G : zS T A s.heap s [[zO0 h md wy la pc_ a1_13 a2_14 a3_15 a4_16 a5_17 a6_18, zAr T 0 a1_13 7 f1, zAr T 0 a2_14 7 f2, zAr T 0 a3_15 7 f3, zAr T 0 a4_16 n4 x4, zAr T 0 a5_17 n4 x5, zAr T 0 a6_18 n4 f6], [zO4 la cr inn a1_7 a2_8 a3_9 a4_10, zAr T 0 a1_7 7 k1, zAr T 0 a2_8 28 k2, zAr T 0 a3_9 7 k3, zAr T 0 a4_10 7 k4]] _ _ := G.re rfl
      exact z_back hQ9 (z_vret C hr hlocks G (Nat.le_of_ble_eq_true rfl) (Nat.le_of_ble_eq_true rfl) dX0_stepOnce_108 ⟨([zO0 h md wy la pc_ a1_13 a2_14 a3_15 a4_16 a5_17 a6_18, zAr T 0 a1_13 7 f1, zAr T 0 a2_14 7 f2, zAr T 0 a3_15 7 f3, zAr T 0 a4_16 n4 x4, zAr T 0 a5_17 n4 x5, zAr T 0 a6_18 n4 f6]), x4, x5, rfl, hw_22⟩)
    · have c_21n : ¬ n4 ≤ i := fun q => c_21 ((nI_leI (a := n4) (b := i) (by omega) (by omega)).mpr q)
      refine lv_iload_n hx hb dX0_stepOnce_19 rfl (lv_at hl 0 rfl) ?_
      refine lv_aload_n hx hb dX0_stepOnce_20 rfl (lv_at hl 1 rfl) ?_
      refine z_get C G clX0 0 rfl 8 (by decide) m_fl_RX0_31 rfl dX0_stepOnce_21 ?_
      refine z_alen C G 5 0 rfl (v := nI n4) rfl rfl dX0_stepOnce_24 ?_
      refine lv_icmp_ge (tgt := 108) hx hb dX0_stepOnce_25 (by decide) (fun q => absurd q c_21) (fun _ => ?_)
      refine lv_iload_n hx hb dX0_stepOnce_28 rfl (lv_at hl 0 rfl) ?_
      refine lv_iconst (v := 3) hx hb dX0_stepOnce_29 (by decide) ?_
      refine lv_ishr hx hb dX0_stepOnce_30 ?_
      refine lv_istore_n (lv' := [(2, .int ((nI i) >>> (3 &&& 31))), (1, .int (nI i)), (0, .ref h)]) hx hb dX0_stepOnce_31 rfl hl (by decide) rfl (fun ls hl => ?_)
      refine lv_iload_n hx hb dX0_stepOnce_32 rfl (lv_at hl 1 rfl) ?_
      refine lv_bipush (v := 7) hx hb dX0_stepOnce_33 (by decide) ?_
      refine lv_iand hx hb dX0_stepOnce_35 ?_
      refine lv_istore_n (lv' := [(3, .int ((nI i) &&& 7)), (2, .int ((nI i) >>> (3 &&& 31))), (1, .int (nI i)), (0, .ref h)]) hx hb dX0_stepOnce_36 rfl hl (by decide) rfl (fun ls hl => ?_)
      refine lv_aload_n hx hb dX0_stepOnce_37 rfl (lv_at hl 3 rfl) ?_
      refine lv_iload_n hx hb dX0_stepOnce_38 rfl (lv_at hl 1 rfl) ?_
      refine lv_iload_n hx hb dX0_stepOnce_39 rfl (lv_at hl 0 rfl) ?_
      have hw_23 : bWays T h la md wy pc_ f1 f2 f3 x4 x5 f6 n4 [zO0 h md wy la pc_ a1_13 a2_14 a3_15 a4_16 a5_17 a6_18, zAr T 0 a1_13 7 f1, zAr T 0 a2_14 7 f2, zAr T 0 a3_15 7 f3, zAr T 0 a4_16 n4 x4, zAr T 0 a5_17 n4 x5, zAr T 0 a6_18 n4 f6] := ⟨a1_13, a2_14, a3_15, a4_16, a5_17, a6_18, rfl⟩
      have G : zS T A s.heap s [[zO0 h md wy la pc_ a1_13 a2_14 a3_15 a4_16 a5_17 a6_18, zAr T 0 a1_13 7 f1, zAr T 0 a2_14 7 f2, zAr T 0 a3_15 7 f3, zAr T 0 a4_16 n4 x4, zAr T 0 a5_17 n4 x5, zAr T 0 a6_18 n4 f6], [zO4 la cr inn a1_7 a2_8 a3_9 a4_10, zAr T 0 a1_7 7 k1, zAr T 0 a2_8 28 k2, zAr T 0 a3_9 7 k3, zAr T 0 a4_10 7 k4]] _ _ := G.re rfl
      refine z_Vi (bc := [[zO0 h md wy la pc_ a1_13 a2_14 a3_15 a4_16 a5_17 a6_18, zAr T 0 a1_13 7 f1, zAr T 0 a2_14 7 f2, zAr T 0 a3_15 7 f3, zAr T 0 a4_16 n4 x4, zAr T 0 a5_17 n4 x5, zAr T 0 a6_18 n4 f6], [zO4 la cr inn a1_7 a2_8 a3_9 a4_10, zAr T 0 a1_7 7 k1, zAr T 0 a2_8 28 k2, zAr T 0 a3_9 7 k3, zAr T 0 a4_10 7 k4]]) (br := []) (As := [.int ((nI i) >>> (3 &&& 31)), .int ((nI i) &&& 7)]) (rest := []) C G (c_turned l T h la md wy pc_ f1 f2 f3 x4 x5 f6 n4 ([zO0 h md wy la pc_ a1_13 a2_14 a3_15 a4_16 a5_17 a6_18, zAr T 0 a1_13 7 f1, zAr T 0 a2_14 7 f2, zAr T 0 a3_15 7 f3, zAr T 0 a4_16 n4 x4, zAr T 0 a5_17 n4 x5, zAr T 0 a6_18 n4 f6]) cr inn k1 k2 k3 k4 ([zO4 la cr inn a1_7 a2_8 a3_9 a4_10, zAr T 0 a1_7 7 k1, zAr T 0 a2_8 28 k2, zAr T 0 a3_9 7 k3, zAr T 0 a4_10 7 k4]) ((nI i) >>> (3 &&& 31)) ((nI i) &&& 7) hw_23 hw_12 (by first | with_reducible assumption | with_reducible rfl | omega | assumption | rfl)) (kV_RX0_78 C.2.2.2.2 (Nat.le_of_ble_eq_true rfl) (Nat.le_of_ble_eq_true rfl)) [0, 1] [0, 0] rfl rfl (ci := 0) (qc := (RX0, TX0, 10)) rfl rfl (List.mem_flatten.mpr ⟨_, List.mem_of_getElem? (i := 0) rfl, (bWays_mem hw_23).choose_spec⟩) rfl rfl hl.1 dX0_stepOnce_40 (Nat.le_of_ble_eq_true rfl) (Nat.le_of_ble_eq_true rfl) (fun r_24 b1 H locs hw G => ?_)
      obtain rfl := hw
      have G : zS T A s.heap s [[zO0 h md wy la pc_ a1_13 a2_14 a3_15 a4_16 a5_17 a6_18, zAr T 0 a1_13 7 f1, zAr T 0 a2_14 7 f2, zAr T 0 a3_15 7 f3, zAr T 0 a4_16 n4 x4, zAr T 0 a5_17 n4 x5, zAr T 0 a6_18 n4 f6], [zO4 la cr inn a1_7 a2_8 a3_9 a4_10, zAr T 0 a1_7 7 k1, zAr T 0 a2_8 28 k2, zAr T 0 a3_9 7 k3, zAr T 0 a4_10 7 k4]] _ _ := G
      refine lv_istore (lv' := [(4, .int r_24), (3, .int ((nI i) &&& 7)), (2, .int ((nI i) >>> (3 &&& 31))), (1, .int (nI i)), (0, .ref h)]) hx hb dX0_stepOnce_43 hl (by decide) rfl (fun ls hl => ?_)
      refine lv_iload hx hb dX0_stepOnce_45 (lv_at hl 0 rfl) ?_
      refine lv_iconst (v := (-1)) hx hb dX0_stepOnce_47 (by decide) ?_
      refine lv_icmp_ne (tgt := 61) hx hb dX0_stepOnce_48 (by decide) (fun c_25 => ?_) (fun c_25 => ?_)
      · have c_25n : ¬ r_24.toInt = (-1 : Int) := fun q => c_25 ((fa_eq _ _).mpr q)
        refine lv_aload_n hx hb dX0_stepOnce_61 rfl (lv_at hl 4 rfl) ?_
        have G : zS T A s.heap s [[zO0 h md wy la pc_ a1_13 a2_14 a3_15 a4_16 a5_17 a6_18], [zAr T 0 a1_13 7 f1], [zAr T 0 a2_14 7 f2], [zAr T 0 a3_15 7 f3], [zAr T 0 a4_16 n4 x4], [zAr T 0 a5_17 n4 x5], [zAr T 0 a6_18 n4 f6], [zO4 la cr inn a1_7 a2_8 a3_9 a4_10, zAr T 0 a1_7 7 k1, zAr T 0 a2_8 28 k2, zAr T 0 a3_9 7 k3, zAr T 0 a4_10 7 k4]] _ _ := G.re rfl
        refine z_get C G clX0 0 rfl 7 (by decide) m_fl_RX0_28 rfl dX0_stepOnce_62 ?_
        refine lv_iload_n hx hb dX0_stepOnce_65 rfl (lv_at hl 3 rfl) ?_
        refine lv_iload hx hb dX0_stepOnce_66 (lv_at hl 0 rfl) ?_
        refine lv_aload_n hx hb dX0_stepOnce_68 rfl (lv_at hl 4 rfl) ?_
        refine z_get C G clX0 0 rfl 2 (by decide) m_fl_RX0_14 rfl dX0_stepOnce_69 ?_
        refine lv_iload_n hx hb dX0_stepOnce_72 rfl (lv_at hl 1 rfl) ?_
        refine lv_aload_n hx hb dX0_stepOnce_73 rfl (lv_at hl 4 rfl) ?_
        refine lv_iload hx hb dX0_stepOnce_74 (lv_at hl 0 rfl) ?_
        refine lv_iload_n hx hb dX0_stepOnce_76 rfl (lv_at hl 1 rfl) ?_
        have hw_26 : bWays T h la md wy pc_ f1 f2 f3 x4 x5 f6 n4 [zO0 h md wy la pc_ a1_13 a2_14 a3_15 a4_16 a5_17 a6_18, zAr T 0 a1_13 7 f1, zAr T 0 a2_14 7 f2, zAr T 0 a3_15 7 f3, zAr T 0 a4_16 n4 x4, zAr T 0 a5_17 n4 x5, zAr T 0 a6_18 n4 f6] := ⟨a1_13, a2_14, a3_15, a4_16, a5_17, a6_18, rfl⟩
        have G : zS T A s.heap s [[zO0 h md wy la pc_ a1_13 a2_14 a3_15 a4_16 a5_17 a6_18, zAr T 0 a1_13 7 f1, zAr T 0 a2_14 7 f2, zAr T 0 a3_15 7 f3, zAr T 0 a4_16 n4 x4, zAr T 0 a5_17 n4 x5, zAr T 0 a6_18 n4 f6], [zO4 la cr inn a1_7 a2_8 a3_9 a4_10, zAr T 0 a1_7 7 k1, zAr T 0 a2_8 28 k2, zAr T 0 a3_9 7 k3, zAr T 0 a4_10 7 k4]] _ _ := G.re rfl
        refine z_Vi (bc := [[zO0 h md wy la pc_ a1_13 a2_14 a3_15 a4_16 a5_17 a6_18, zAr T 0 a1_13 7 f1, zAr T 0 a2_14 7 f2, zAr T 0 a3_15 7 f3, zAr T 0 a4_16 n4 x4, zAr T 0 a5_17 n4 x5, zAr T 0 a6_18 n4 f6]]) (br := [[zO4 la cr inn a1_7 a2_8 a3_9 a4_10, zAr T 0 a1_7 7 k1, zAr T 0 a2_8 28 k2, zAr T 0 a3_9 7 k3, zAr T 0 a4_10 7 k4]]) (As := [.int r_24, .int ((nI i) &&& 7)]) (rest := [.int ((nI i) &&& 7), .ref la, .int r_24, .int (nI i), .ref a4_16]) C G (c_road l T h la md wy pc_ f1 f2 f3 x4 x5 f6 n4 ([zO0 h md wy la pc_ a1_13 a2_14 a3_15 a4_16 a5_17 a6_18, zAr T 0 a1_13 7 f1, zAr T 0 a2_14 7 f2, zAr T 0 a3_15 7 f3, zAr T 0 a4_16 n4 x4, zAr T 0 a5_17 n4 x5, zAr T 0 a6_18 n4 f6]) r_24 ((nI i) &&& 7) hw_26) (kV_RX0_81 C.2.2.2.2 (Nat.le_of_ble_eq_true rfl) (Nat.le_of_ble_eq_true rfl)) [0] [0] rfl rfl (ci := 0) (qc := (RX0, TX0, 10)) rfl rfl (List.mem_flatten.mpr ⟨_, List.mem_of_getElem? (i := 0) rfl, (bWays_mem hw_26).choose_spec⟩) rfl rfl hl.1 dX0_stepOnce_77 (Nat.le_of_ble_eq_true rfl) (Nat.le_of_ble_eq_true rfl) (fun r_28 b1 H locs hw G => ?_)
        refine zAn2 hw ?_
        intro hbs9 h_27
        clear hw
        subst hbs9
        have G : zS T A s.heap s [[zO4 la cr inn a1_7 a2_8 a3_9 a4_10, zAr T 0 a1_7 7 k1, zAr T 0 a2_8 28 k2, zAr T 0 a3_9 7 k3, zAr T 0 a4_10 7 k4], [zO0 h md wy la pc_ a1_13 a2_14 a3_15 a4_16 a5_17 a6_18, zAr T 0 a1_13 7 f1, zAr T 0 a2_14 7 f2, zAr T 0 a3_15 7 f3, zAr T 0 a4_16 n4 x4, zAr T 0 a5_17 n4 x5, zAr T 0 a6_18 n4 f6]] _ _ := G
        subst h_27
        refine z_Vi (bc := [[zO4 la cr inn a1_7 a2_8 a3_9 a4_10, zAr T 0 a1_7 7 k1, zAr T 0 a2_8 28 k2, zAr T 0 a3_9 7 k3, zAr T 0 a4_10 7 k4]]) (br := [[zO0 h md wy la pc_ a1_13 a2_14 a3_15 a4_16 a5_17 a6_18, zAr T 0 a1_13 7 f1, zAr T 0 a2_14 7 f2, zAr T 0 a3_15 7 f3, zAr T 0 a4_16 n4 x4, zAr T 0 a5_17 n4 x5, zAr T 0 a6_18 n4 f6]]) (As := [.int ((nI i) &&& 7), .int (zRoad f1 f2 r_24 ((nI i) &&& 7))]) (rest := [.int r_24, .int (nI i), .ref a4_16]) C G (c_target l T la cr inn k1 k2 k3 k4 ([zO4 la cr inn a1_7 a2_8 a3_9 a4_10, zAr T 0 a1_7 7 k1, zAr T 0 a2_8 28 k2, zAr T 0 a3_9 7 k3, zAr T 0 a4_10 7 k4]) ((nI i) &&& 7) (zRoad f1 f2 r_24 ((nI i) &&& 7)) hw_12) (kV_RX0_84 C.2.2.2.2 (Nat.le_of_ble_eq_true rfl) (Nat.le_of_ble_eq_true rfl)) [0] [0] rfl rfl (ci := 4) (qc := (RX4, TX4, 6)) rfl rfl (List.mem_flatten.mpr ⟨_, List.mem_of_getElem? (i := 0) rfl, (bLand_mem hw_12).choose_spec⟩) rfl rfl hl.1 dX0_stepOnce_80 (Nat.le_of_ble_eq_true rfl) (Nat.le_of_ble_eq_true rfl) (fun r_30 b1 H locs hw G => ?_)
        refine zAn2 hw ?_
        intro hbs9 h_29
        clear hw
        subst hbs9
        have G : zS T A s.heap s [[zO0 h md wy la pc_ a1_13 a2_14 a3_15 a4_16 a5_17 a6_18, zAr T 0 a1_13 7 f1, zAr T 0 a2_14 7 f2, zAr T 0 a3_15 7 f3, zAr T 0 a4_16 n4 x4, zAr T 0 a5_17 n4 x5, zAr T 0 a6_18 n4 f6], [zO4 la cr inn a1_7 a2_8 a3_9 a4_10, zAr T 0 a1_7 7 k1, zAr T 0 a2_8 28 k2, zAr T 0 a3_9 7 k3, zAr T 0 a4_10 7 k4]] _ _ := G
        subst h_29
        refine z_Si (bc := []) (br := [[zO0 h md wy la pc_ a1_13 a2_14 a3_15 a4_16 a5_17 a6_18, zAr T 0 a1_13 7 f1, zAr T 0 a2_14 7 f2, zAr T 0 a3_15 7 f3, zAr T 0 a4_16 n4 x4, zAr T 0 a5_17 n4 x5, zAr T 0 a6_18 n4 f6], [zO4 la cr inn a1_7 a2_8 a3_9 a4_10, zAr T 0 a1_7 7 k1, zAr T 0 a2_8 28 k2, zAr T 0 a3_9 7 k3, zAr T 0 a4_10 7 k4]]) (As := [.int r_24, .int (zTarget cr k1 k2 ((nI i) &&& 7) (zRoad f1 f2 r_24 ((nI i) &&& 7)))]) (rest := [.int (nI i), .ref a4_16]) C G (c_place l T r_24 (zTarget cr k1 k2 ((nI i) &&& 7) (zRoad f1 f2 r_24 ((nI i) &&& 7)))) (kS_RX0_87 C.2.2.2.2 (Nat.le_of_ble_eq_true rfl) (Nat.le_of_ble_eq_true rfl)) [] [] rfl rfl rfl rfl hl.1 dX0_stepOnce_83 (Nat.le_of_ble_eq_true rfl) (Nat.le_of_ble_eq_true rfl) (fun r_32 b1 H locs hw G => ?_)
        refine zAn2 hw ?_
        intro hbs9 h_31
        clear hw
        subst hbs9
        have G : zS T A s.heap s [[zO0 h md wy la pc_ a1_13 a2_14 a3_15 a4_16 a5_17 a6_18, zAr T 0 a1_13 7 f1, zAr T 0 a2_14 7 f2, zAr T 0 a3_15 7 f3, zAr T 0 a4_16 n4 x4, zAr T 0 a5_17 n4 x5, zAr T 0 a6_18 n4 f6], [zO4 la cr inn a1_7 a2_8 a3_9 a4_10, zAr T 0 a1_7 7 k1, zAr T 0 a2_8 28 k2, zAr T 0 a3_9 7 k3, zAr T 0 a4_10 7 k4]] _ _ := G
        subst h_31
        refine lv_ldc (v := 131072) hx hb C.2.2.2.1 (C.2.2.2.2 _ m_ko_RX0_71) dX0_stepOnce_86 ?_
        refine lv_iadd hx hb dX0_stepOnce_88 ?_
        have G : zS T A s.heap s [[zO0 h md wy la pc_ a1_13 a2_14 a3_15 a4_16 a5_17 a6_18], [zAr T 0 a1_13 7 f1], [zAr T 0 a2_14 7 f2], [zAr T 0 a3_15 7 f3], [zAr T 0 a4_16 n4 x4], [zAr T 0 a5_17 n4 x5], [zAr T 0 a6_18 n4 f6], [zO4 la cr inn a1_7 a2_8 a3_9 a4_10, zAr T 0 a1_7 7 k1, zAr T 0 a2_8 28 k2, zAr T 0 a3_9 7 k3, zAr T 0 a4_10 7 k4]] _ _ := G.re rfl
        refine z_ist C G 4 rfl (vp_in_nI (by omega) (by omega)) dX0_stepOnce_89 (fun H locs G => ?_)
        rw [nI_clamp (by omega)] at G
        have G : zS T A s.heap s [[zO0 h md wy la pc_ a1_13 a2_14 a3_15 a4_16 a5_17 a6_18], [zAr T 0 a1_13 7 f1], [zAr T 0 a2_14 7 f2], [zAr T 0 a3_15 7 f3], [zAr T 0 a4_16 n4 (upd x4 i (((r_24 <<< (3 &&& 31)) + (zTarget cr k1 k2 ((nI i) &&& 7) (zRoad f1 f2 r_24 ((nI i) &&& 7)))) + 131072))], [zAr T 0 a5_17 n4 x5], [zAr T 0 a6_18 n4 f6], [zO4 la cr inn a1_7 a2_8 a3_9 a4_10, zAr T 0 a1_7 7 k1, zAr T 0 a2_8 28 k2, zAr T 0 a3_9 7 k3, zAr T 0 a4_10 7 k4]] _ _ := G
        refine lv_aload_n hx hb dX0_stepOnce_90 rfl (lv_at hl 4 rfl) ?_
        refine z_get C G clX0 0 rfl 8 (by decide) m_fl_RX0_31 rfl dX0_stepOnce_91 ?_
        refine lv_iload_n hx hb dX0_stepOnce_94 rfl (lv_at hl 3 rfl) ?_
        refine lv_aload_n hx hb dX0_stepOnce_95 rfl (lv_at hl 4 rfl) ?_
        refine z_get C G clX0 0 rfl 7 (by decide) m_fl_RX0_28 rfl dX0_stepOnce_96 ?_
        refine lv_iload_n hx hb dX0_stepOnce_99 rfl (lv_at hl 3 rfl) ?_
        refine z_ild C G 4 rfl (vp_in_nI (by omega) (by omega)) dX0_stepOnce_100 ?_
        refine lv_topi (fun v_33 ev_33 => ?_)
        rw [nI_clamp (by omega)] at ev_33
        subst ev_33
        refine z_ist C G 5 rfl (vp_in_nI (by omega) (by omega)) dX0_stepOnce_101 (fun H locs G => ?_)
        rw [nI_clamp (by omega)] at G
        have G : zS T A s.heap s [[zO0 h md wy la pc_ a1_13 a2_14 a3_15 a4_16 a5_17 a6_18], [zAr T 0 a1_13 7 f1], [zAr T 0 a2_14 7 f2], [zAr T 0 a3_15 7 f3], [zAr T 0 a4_16 n4 (upd x4 i (((r_24 <<< (3 &&& 31)) + (zTarget cr k1 k2 ((nI i) &&& 7) (zRoad f1 f2 r_24 ((nI i) &&& 7)))) + 131072))], [zAr T 0 a5_17 n4 (upd x5 i ((upd x4 i (((r_24 <<< (3 &&& 31)) + (zTarget cr k1 k2 ((nI i) &&& 7) (zRoad f1 f2 r_24 ((nI i) &&& 7)))) + 131072)) i))], [zAr T 0 a6_18 n4 f6], [zO4 la cr inn a1_7 a2_8 a3_9 a4_10, zAr T 0 a1_7 7 k1, zAr T 0 a2_8 28 k2, zAr T 0 a3_9 7 k3, zAr T 0 a4_10 7 k4]] _ _ := G
        refine lv_iinc (v := nI (i + 1)) (lv' := [(1, .int (nI (i + 1))), (4, .int r_24), (3, .int ((nI i) &&& 7)), (2, .int ((nI i) >>> (3 &&& 31))), (0, .ref h)]) hx hb dX0_stepOnce_102 hl (k := 3) rfl (z_inc i 1) (by decide) rfl (fun ls hl => ?_)
        refine lv_goto (tgt := 2) hx hb dX0_stepOnce_105 (by decide) ?_
        have hw_34 : bWays T h la md wy pc_ f1 f2 f3 (upd x4 i (((r_24 <<< (3 &&& 31)) + (zTarget cr k1 k2 ((nI i) &&& 7) (zRoad f1 f2 r_24 ((nI i) &&& 7)))) + 131072)) (upd x5 i ((upd x4 i (((r_24 <<< (3 &&& 31)) + (zTarget cr k1 k2 ((nI i) &&& 7) (zRoad f1 f2 r_24 ((nI i) &&& 7)))) + 131072)) i)) f6 n4 [zO0 h md wy la pc_ a1_13 a2_14 a3_15 a4_16 a5_17 a6_18, zAr T 0 a1_13 7 f1, zAr T 0 a2_14 7 f2, zAr T 0 a3_15 7 f3, zAr T 0 a4_16 n4 (upd x4 i (((r_24 <<< (3 &&& 31)) + (zTarget cr k1 k2 ((nI i) &&& 7) (zRoad f1 f2 r_24 ((nI i) &&& 7)))) + 131072)), zAr T 0 a5_17 n4 (upd x5 i ((upd x4 i (((r_24 <<< (3 &&& 31)) + (zTarget cr k1 k2 ((nI i) &&& 7) (zRoad f1 f2 r_24 ((nI i) &&& 7)))) + 131072)) i)), zAr T 0 a6_18 n4 f6] := ⟨a1_13, a2_14, a3_15, a4_16, a5_17, a6_18, rfl⟩
        have G : zS T A s.heap s [[zO0 h md wy la pc_ a1_13 a2_14 a3_15 a4_16 a5_17 a6_18, zAr T 0 a1_13 7 f1, zAr T 0 a2_14 7 f2, zAr T 0 a3_15 7 f3, zAr T 0 a4_16 n4 (upd x4 i (((r_24 <<< (3 &&& 31)) + (zTarget cr k1 k2 ((nI i) &&& 7) (zRoad f1 f2 r_24 ((nI i) &&& 7)))) + 131072)), zAr T 0 a5_17 n4 (upd x5 i ((upd x4 i (((r_24 <<< (3 &&& 31)) + (zTarget cr k1 k2 ((nI i) &&& 7) (zRoad f1 f2 r_24 ((nI i) &&& 7)))) + 131072)) i)), zAr T 0 a6_18 n4 f6], [zO4 la cr inn a1_7 a2_8 a3_9 a4_10, zAr T 0 a1_7 7 k1, zAr T 0 a2_8 28 k2, zAr T 0 a3_9 7 k3, zAr T 0 a4_10 7 k4]] _ _ := G.re rfl
        exact ih_2 (i + 1) ([zO0 h md wy la pc_ a1_13 a2_14 a3_15 a4_16 a5_17 a6_18, zAr T 0 a1_13 7 f1, zAr T 0 a2_14 7 f2, zAr T 0 a3_15 7 f3, zAr T 0 a4_16 n4 (upd x4 i (((r_24 <<< (3 &&& 31)) + (zTarget cr k1 k2 ((nI i) &&& 7) (zRoad f1 f2 r_24 ((nI i) &&& 7)))) + 131072)), zAr T 0 a5_17 n4 (upd x5 i ((upd x4 i (((r_24 <<< (3 &&& 31)) + (zTarget cr k1 k2 ((nI i) &&& 7) (zRoad f1 f2 r_24 ((nI i) &&& 7)))) + 131072)) i)), zAr T 0 a6_18 n4 f6]) (upd x4 i (((r_24 <<< (3 &&& 31)) + (zTarget cr k1 k2 ((nI i) &&& 7) (zRoad f1 f2 r_24 ((nI i) &&& 7)))) + 131072)) (upd x5 i ((upd x4 i (((r_24 <<< (3 &&& 31)) + (zTarget cr k1 k2 ((nI i) &&& 7) (zRoad f1 f2 r_24 ((nI i) &&& 7)))) + 131072)) i)) (show bWays T h la md wy pc_ f1 f2 f3 (upd x4 i (((r_24 <<< (3 &&& 31)) + (zTarget cr k1 k2 ((nI i) &&& 7) (zRoad f1 f2 r_24 ((nI i) &&& 7)))) + 131072)) (upd x5 i ((upd x4 i (((r_24 <<< (3 &&& 31)) + (zTarget cr k1 k2 ((nI i) &&& 7) (zRoad f1 f2 r_24 ((nI i) &&& 7)))) + 131072)) i)) f6 n4 ([zO0 h md wy la pc_ a1_13 a2_14 a3_15 a4_16 a5_17 a6_18, zAr T 0 a1_13 7 f1, zAr T 0 a2_14 7 f2, zAr T 0 a3_15 7 f3, zAr T 0 a4_16 n4 (upd x4 i (((r_24 <<< (3 &&& 31)) + (zTarget cr k1 k2 ((nI i) &&& 7) (zRoad f1 f2 r_24 ((nI i) &&& 7)))) + 131072)), zAr T 0 a5_17 n4 (upd x5 i ((upd x4 i (((r_24 <<< (3 &&& 31)) + (zTarget cr k1 k2 ((nI i) &&& 7) (zRoad f1 f2 r_24 ((nI i) &&& 7)))) + 131072)) i)), zAr T 0 a6_18 n4 f6]) ∧ (i + 1) ≤ pc_.toInt.toNat from ⟨hw_34, by omega⟩) (show pc_.toInt.toNat - (i + 1) < pc_.toInt.toNat - i from by omega) _ _ ls G (lv_sub hl [0, 4] rfl)
      · have c_25n : r_24.toInt = (-1 : Int) := (fa_eq _ _).mp c_25
        refine lv_aload_n hx hb dX0_stepOnce_51 rfl (lv_at hl 4 rfl) ?_
        have G : zS T A s.heap s [[zO0 h md wy la pc_ a1_13 a2_14 a3_15 a4_16 a5_17 a6_18], [zAr T 0 a1_13 7 f1], [zAr T 0 a2_14 7 f2], [zAr T 0 a3_15 7 f3], [zAr T 0 a4_16 n4 x4], [zAr T 0 a5_17 n4 x5], [zAr T 0 a6_18 n4 f6], [zO4 la cr inn a1_7 a2_8 a3_9 a4_10, zAr T 0 a1_7 7 k1, zAr T 0 a2_8 28 k2, zAr T 0 a3_9 7 k3, zAr T 0 a4_10 7 k4]] _ _ := G.re rfl
        refine z_get C G clX0 0 rfl 7 (by decide) m_fl_RX0_28 rfl dX0_stepOnce_52 ?_
        refine lv_iload_n hx hb dX0_stepOnce_55 rfl (lv_at hl 3 rfl) ?_
        refine lv_iload_n hx hb dX0_stepOnce_56 rfl (lv_at hl 3 rfl) ?_
        refine z_ist C G 4 rfl (vp_in_nI (by omega) (by omega)) dX0_stepOnce_57 (fun H locs G => ?_)
        rw [nI_clamp (by omega)] at G
        have G : zS T A s.heap s [[zO0 h md wy la pc_ a1_13 a2_14 a3_15 a4_16 a5_17 a6_18], [zAr T 0 a1_13 7 f1], [zAr T 0 a2_14 7 f2], [zAr T 0 a3_15 7 f3], [zAr T 0 a4_16 n4 (upd x4 i (nI i))], [zAr T 0 a5_17 n4 x5], [zAr T 0 a6_18 n4 f6], [zO4 la cr inn a1_7 a2_8 a3_9 a4_10, zAr T 0 a1_7 7 k1, zAr T 0 a2_8 28 k2, zAr T 0 a3_9 7 k3, zAr T 0 a4_10 7 k4]] _ _ := G
        refine lv_goto (tgt := 90) hx hb dX0_stepOnce_58 (by decide) ?_
        refine lv_aload_n hx hb dX0_stepOnce_90 rfl (lv_at hl 4 rfl) ?_
        refine z_get C G clX0 0 rfl 8 (by decide) m_fl_RX0_31 rfl dX0_stepOnce_91 ?_
        refine lv_iload_n hx hb dX0_stepOnce_94 rfl (lv_at hl 3 rfl) ?_
        refine lv_aload_n hx hb dX0_stepOnce_95 rfl (lv_at hl 4 rfl) ?_
        refine z_get C G clX0 0 rfl 7 (by decide) m_fl_RX0_28 rfl dX0_stepOnce_96 ?_
        refine lv_iload_n hx hb dX0_stepOnce_99 rfl (lv_at hl 3 rfl) ?_
        refine z_ild C G 4 rfl (vp_in_nI (by omega) (by omega)) dX0_stepOnce_100 ?_
        refine lv_topi (fun v_35 ev_35 => ?_)
        rw [nI_clamp (by omega)] at ev_35
        subst ev_35
        refine z_ist C G 5 rfl (vp_in_nI (by omega) (by omega)) dX0_stepOnce_101 (fun H locs G => ?_)
        rw [nI_clamp (by omega)] at G
        have G : zS T A s.heap s [[zO0 h md wy la pc_ a1_13 a2_14 a3_15 a4_16 a5_17 a6_18], [zAr T 0 a1_13 7 f1], [zAr T 0 a2_14 7 f2], [zAr T 0 a3_15 7 f3], [zAr T 0 a4_16 n4 (upd x4 i (nI i))], [zAr T 0 a5_17 n4 (upd x5 i ((upd x4 i (nI i)) i))], [zAr T 0 a6_18 n4 f6], [zO4 la cr inn a1_7 a2_8 a3_9 a4_10, zAr T 0 a1_7 7 k1, zAr T 0 a2_8 28 k2, zAr T 0 a3_9 7 k3, zAr T 0 a4_10 7 k4]] _ _ := G
        refine lv_iinc (v := nI (i + 1)) (lv' := [(1, .int (nI (i + 1))), (4, .int r_24), (3, .int ((nI i) &&& 7)), (2, .int ((nI i) >>> (3 &&& 31))), (0, .ref h)]) hx hb dX0_stepOnce_102 hl (k := 3) rfl (z_inc i 1) (by decide) rfl (fun ls hl => ?_)
        refine lv_goto (tgt := 2) hx hb dX0_stepOnce_105 (by decide) ?_
        have hw_36 : bWays T h la md wy pc_ f1 f2 f3 (upd x4 i (nI i)) (upd x5 i ((upd x4 i (nI i)) i)) f6 n4 [zO0 h md wy la pc_ a1_13 a2_14 a3_15 a4_16 a5_17 a6_18, zAr T 0 a1_13 7 f1, zAr T 0 a2_14 7 f2, zAr T 0 a3_15 7 f3, zAr T 0 a4_16 n4 (upd x4 i (nI i)), zAr T 0 a5_17 n4 (upd x5 i ((upd x4 i (nI i)) i)), zAr T 0 a6_18 n4 f6] := ⟨a1_13, a2_14, a3_15, a4_16, a5_17, a6_18, rfl⟩
        have G : zS T A s.heap s [[zO0 h md wy la pc_ a1_13 a2_14 a3_15 a4_16 a5_17 a6_18, zAr T 0 a1_13 7 f1, zAr T 0 a2_14 7 f2, zAr T 0 a3_15 7 f3, zAr T 0 a4_16 n4 (upd x4 i (nI i)), zAr T 0 a5_17 n4 (upd x5 i ((upd x4 i (nI i)) i)), zAr T 0 a6_18 n4 f6], [zO4 la cr inn a1_7 a2_8 a3_9 a4_10, zAr T 0 a1_7 7 k1, zAr T 0 a2_8 28 k2, zAr T 0 a3_9 7 k3, zAr T 0 a4_10 7 k4]] _ _ := G.re rfl
        exact ih_2 (i + 1) ([zO0 h md wy la pc_ a1_13 a2_14 a3_15 a4_16 a5_17 a6_18, zAr T 0 a1_13 7 f1, zAr T 0 a2_14 7 f2, zAr T 0 a3_15 7 f3, zAr T 0 a4_16 n4 (upd x4 i (nI i)), zAr T 0 a5_17 n4 (upd x5 i ((upd x4 i (nI i)) i)), zAr T 0 a6_18 n4 f6]) (upd x4 i (nI i)) (upd x5 i ((upd x4 i (nI i)) i)) (show bWays T h la md wy pc_ f1 f2 f3 (upd x4 i (nI i)) (upd x5 i ((upd x4 i (nI i)) i)) f6 n4 ([zO0 h md wy la pc_ a1_13 a2_14 a3_15 a4_16 a5_17 a6_18, zAr T 0 a1_13 7 f1, zAr T 0 a2_14 7 f2, zAr T 0 a3_15 7 f3, zAr T 0 a4_16 n4 (upd x4 i (nI i)), zAr T 0 a5_17 n4 (upd x5 i ((upd x4 i (nI i)) i)), zAr T 0 a6_18 n4 f6]) ∧ (i + 1) ≤ pc_.toInt.toNat from ⟨hw_36, by omega⟩) (show pc_.toInt.toNat - (i + 1) < pc_.toInt.toNat - i from by omega) _ _ ls G (lv_sub hl [0, 4] rfl)
set_option maxHeartbeats 4000000 in
set_option maxRecDepth 100000 in
/-- oneMore -/
theorem c_oneMore (l : Launch) (T : zTy) (h : Nat) (la : Nat) (md : Int32) (wy : Int32) (pc_ : Int32) (f1 : Nat → Int32) (f2 : Nat → Int32) (f3 : Nat → Int32) (f4 : Nat → Int32) (f5 : Nat → Int32) (f6 : Nat → Int32) (n4 : Nat) (ww : va_W) (hww : bWays T h la md wy pc_ f1 f2 f3 f4 f5 f6 n4 ww) (hn : n4 ≤ 131072) (hpl : pc_.toInt ≤ 131072) : zMv l T yX0_oneMore cX0_oneMore 4 1 0 0 [.ref h] [ww] (fun bs => ∃ (w2 : va_W) (g5 : Nat → Int32) (g6 : Nat → Int32), bs = [w2] ∧ bWays T h la md wy pc_ f1 f2 f3 f4 g5 g6 n4 w2) := by
  refine zMv_of (own := RX0) (by decide) rfl (Nat.le_of_ble_eq_true rfl) ?_
  intro p e s m args below meth c A ls C hr hlocks hnm hAe G hl
  refine zHide (fun Q9 hQ9 => ?_)
  have hx := C.1
  have hb := C.2.1
  have hl : lv_has ls 4 [(0, .ref h)] := hl
  refine lv_iconst (v := 0) hx hb dX0_oneMore_0 (by decide) ?_
  refine lv_istore_n (lv' := [(1, .int 0), (0, .ref h)]) hx hb dX0_oneMore_1 rfl hl (by decide) rfl (fun ls hl => ?_)
  refine zEx6 hww ?_
  intro a1_1 a2_2 a3_3 a4_4 a5_5 a6_6 hbs9
  clear hww
  subst hbs9
  have G : zS T A s.heap s [[zO0 h md wy la pc_ a1_1 a2_2 a3_3 a4_4 a5_5 a6_6], [zAr T 0 a1_1 7 f1], [zAr T 0 a2_2 7 f2], [zAr T 0 a3_3 7 f3], [zAr T 0 a4_4 n4 f4], [zAr T 0 a5_5 n4 f5], [zAr T 0 a6_6 n4 f6]] _ _ := G.re rfl
  have hw_7 : bWays T h la md wy pc_ f1 f2 f3 f4 f5 f6 n4 [zO0 h md wy la pc_ a1_1 a2_2 a3_3 a4_4 a5_5 a6_6, zAr T 0 a1_1 7 f1, zAr T 0 a2_2 7 f2, zAr T 0 a3_3 7 f3, zAr T 0 a4_4 n4 f4, zAr T 0 a5_5 n4 f5, zAr T 0 a6_6 n4 f6] := ⟨a1_1, a2_2, a3_3, a4_4, a5_5, a6_6, rfl⟩
  have G : zS T A s.heap s [[zO0 h md wy la pc_ a1_1 a2_2 a3_3 a4_4 a5_5 a6_6, zAr T 0 a1_1 7 f1, zAr T 0 a2_2 7 f2, zAr T 0 a3_3 7 f3, zAr T 0 a4_4 n4 f4, zAr T 0 a5_5 n4 f5, zAr T 0 a6_6 n4 f6]] _ _ := G.re rfl
  refine z_lp3 (T := T) 2 (fun (i : Nat) (wt : va_W) (x5 : Nat → Int32) => [wt]) (fun (i : Nat) (wt : va_W) (x5 : Nat → Int32) => [(1, .int (nI i)), (0, .ref h)]) (fun (i : Nat) (wt : va_W) (x5 : Nat → Int32) => bWays T h la md wy pc_ f1 f2 f3 f4 x5 f6 n4 wt ∧ i ≤ pc_.toInt.toNat) (fun (i : Nat) (wt : va_W) (x5 : Nat → Int32) => pc_.toInt.toNat - i) ?_ 0 ([zO0 h md wy la pc_ a1_1 a2_2 a3_3 a4_4 a5_5 a6_6, zAr T 0 a1_1 7 f1, zAr T 0 a2_2 7 f2, zAr T 0 a3_3 7 f3, zAr T 0 a4_4 n4 f4, zAr T 0 a5_5 n4 f5, zAr T 0 a6_6 n4 f6]) f5 (show bWays T h la md wy pc_ f1 f2 f3 f4 f5 f6 n4 ([zO0 h md wy la pc_ a1_1 a2_2 a3_3 a4_4 a5_5 a6_6, zAr T 0 a1_1 7 f1, zAr T 0 a2_2 7 f2, zAr T 0 a3_3 7 f3, zAr T 0 a4_4 n4 f4, zAr T 0 a5_5 n4 f5, zAr T 0 a6_6 n4 f6]) ∧ 0 ≤ pc_.toInt.toNat from ⟨hw_7, by omega⟩) G (lv_sub hl [0, 1] rfl)
  intro i wt x5 hI9 ih_2 H locs ls G hl
  replace hI9 : bWays T h la md wy pc_ f1 f2 f3 f4 x5 f6 n4 wt ∧ i ≤ pc_.toInt.toNat := hI9
  refine zAn2 hI9 ?_
  intro hwt hi
  clear hI9
  replace G : zS T A s.heap s [wt] _ _ := G
  replace hl : lv_has ls 4 [(1, .int (nI i)), (0, .ref h)] := hl
  refine lv_iload_n hx hb dX0_oneMore_2 rfl (lv_at hl 0 rfl) ?_
  refine lv_aload_n hx hb dX0_oneMore_3 rfl (lv_at hl 1 rfl) ?_
  refine zEx6 hwt ?_
  intro a1_8 a2_9 a3_10 a4_11 a5_12 a6_13 hbs9
  clear hwt
  subst hbs9
  have G : zS T A s.heap s [[zO0 h md wy la pc_ a1_8 a2_9 a3_10 a4_11 a5_12 a6_13], [zAr T 0 a1_8 7 f1], [zAr T 0 a2_9 7 f2], [zAr T 0 a3_10 7 f3], [zAr T 0 a4_11 n4 f4], [zAr T 0 a5_12 n4 x5], [zAr T 0 a6_13 n4 f6]] _ _ := G.re rfl
  refine z_get C G clX0 0 rfl 3 (by decide) m_fl_RX0_75 rfl dX0_oneMore_4 ?_
  refine lv_icmp_ge (tgt := 66) hx hb dX0_oneMore_7 (by decide) (fun c_14 => ?_) (fun c_14 => ?_)
  · have c_14n : pc_.toInt ≤ (i : Int) := by have q := (fa_le _ _).mp c_14; rw [nI_toInt (n := i) (by omega)] at q; exact q
    have hw_15 : bWays T h la md wy pc_ f1 f2 f3 f4 x5 f6 n4 [zO0 h md wy la pc_ a1_8 a2_9 a3_10 a4_11 a5_12 a6_13, zAr T 0 a1_8 7 f1, zAr T 0 a2_9 7 f2, zAr T 0 a3_10 7 f3, zAr T 0 a4_11 n4 f4, zAr T 0 a5_12 n4 x5, zAr T 0 a6_13 n4 f6] := ⟨a1_8, a2_9, a3_10, a4_11, a5_12, a6_13, rfl⟩
    have G : zS T A s.heap s [[zO0 h md wy la pc_ a1_8 a2_9 a3_10 a4_11 a5_12 a6_13, zAr T 0 a1_8 7 f1, zAr T 0 a2_9 7 f2, zAr T 0 a3_10 7 f3, zAr T 0 a4_11 n4 f4, zAr T 0 a5_12 n4 x5, zAr T 0 a6_13 n4 f6]] _ _ := G.re rfl
    exact z_back hQ9 (z_vret C hr hlocks G (Nat.le_of_ble_eq_true rfl) (Nat.le_of_ble_eq_true rfl) dX0_oneMore_66 ⟨([zO0 h md wy la pc_ a1_8 a2_9 a3_10 a4_11 a5_12 a6_13, zAr T 0 a1_8 7 f1, zAr T 0 a2_9 7 f2, zAr T 0 a3_10 7 f3, zAr T 0 a4_11 n4 f4, zAr T 0 a5_12 n4 x5, zAr T 0 a6_13 n4 f6]), x5, f6, rfl, hw_15⟩)
  · have c_14n : ¬ pc_.toInt ≤ (i : Int) := fun q => c_14 ((fa_le _ _).mpr (by rw [nI_toInt (n := i) (by omega)]; exact q))
    refine lv_iload_n hx hb dX0_oneMore_10 rfl (lv_at hl 0 rfl) ?_
    refine lv_aload_n hx hb dX0_oneMore_11 rfl (lv_at hl 1 rfl) ?_
    refine z_get C G clX0 0 rfl 8 (by decide) m_fl_RX0_31 rfl dX0_oneMore_12 ?_
    refine z_alen C G 5 0 rfl (v := nI n4) rfl rfl dX0_oneMore_15 ?_
    refine lv_icmp_ge (tgt := 66) hx hb dX0_oneMore_16 (by decide) (fun c_16 => ?_) (fun c_16 => ?_)
    · have c_16n : n4 ≤ i := (nI_leI (a := n4) (b := i) (by omega) (by omega)).mp c_16
      have hw_17 : bWays T h la md wy pc_ f1 f2 f3 f4 x5 f6 n4 [zO0 h md wy la pc_ a1_8 a2_9 a3_10 a4_11 a5_12 a6_13, zAr T 0 a1_8 7 f1, zAr T 0 a2_9 7 f2, zAr T 0 a3_10 7 f3, zAr T 0 a4_11 n4 f4, zAr T 0 a5_12 n4 x5, zAr T 0 a6_13 n4 f6] := ⟨a1_8, a2_9, a3_10, a4_11, a5_12, a6_13, rfl⟩
      have G : zS T A s.heap s [[zO0 h md wy la pc_ a1_8 a2_9 a3_10 a4_11 a5_12 a6_13, zAr T 0 a1_8 7 f1, zAr T 0 a2_9 7 f2, zAr T 0 a3_10 7 f3, zAr T 0 a4_11 n4 f4, zAr T 0 a5_12 n4 x5, zAr T 0 a6_13 n4 f6]] _ _ := G.re rfl
      exact z_back hQ9 (z_vret C hr hlocks G (Nat.le_of_ble_eq_true rfl) (Nat.le_of_ble_eq_true rfl) dX0_oneMore_66 ⟨([zO0 h md wy la pc_ a1_8 a2_9 a3_10 a4_11 a5_12 a6_13, zAr T 0 a1_8 7 f1, zAr T 0 a2_9 7 f2, zAr T 0 a3_10 7 f3, zAr T 0 a4_11 n4 f4, zAr T 0 a5_12 n4 x5, zAr T 0 a6_13 n4 f6]), x5, f6, rfl, hw_17⟩)
    · have c_16n : ¬ n4 ≤ i := fun q => c_16 ((nI_leI (a := n4) (b := i) (by omega) (by omega)).mpr q)
      refine lv_aload_n hx hb dX0_oneMore_19 rfl (lv_at hl 1 rfl) ?_
      refine z_get C G clX0 0 rfl 8 (by decide) m_fl_RX0_31 rfl dX0_oneMore_20 ?_
      refine lv_iload_n hx hb dX0_oneMore_23 rfl (lv_at hl 0 rfl) ?_
      refine z_ild C G 5 rfl (vp_in_nI (by omega) (by omega)) dX0_oneMore_24 ?_
      refine lv_topi (fun v_18 ev_18 => ?_)
      rw [nI_clamp (by omega)] at ev_18
      subst ev_18
      refine lv_istore_n (lv' := [(2, .int (x5 i)), (1, .int (nI i)), (0, .ref h)]) hx hb dX0_oneMore_25 rfl hl (by decide) rfl (fun ls hl => ?_)
      refine lv_iload_n hx hb dX0_oneMore_26 rfl (lv_at hl 0 rfl) ?_
      refine lv_ldc (v := 131071) hx hb C.2.2.2.1 (C.2.2.2.2 _ m_ko_RX0_90) dX0_oneMore_27 ?_
      refine lv_iand hx hb dX0_oneMore_29 ?_
      refine lv_istore_n (lv' := [(3, .int ((x5 i) &&& 131071)), (2, .int (x5 i)), (1, .int (nI i)), (0, .ref h)]) hx hb dX0_oneMore_30 rfl hl (by decide) rfl (fun ls hl => ?_)
      refine lv_aload_n hx hb dX0_oneMore_31 rfl (lv_at hl 3 rfl) ?_
      refine z_get C G clX0 0 rfl 8 (by decide) m_fl_RX0_31 rfl dX0_oneMore_32 ?_
      refine lv_iload_n hx hb dX0_oneMore_35 rfl (lv_at hl 2 rfl) ?_
      refine lv_iload_n hx hb dX0_oneMore_36 rfl (lv_at hl 0 rfl) ?_
      refine lv_aload_n hx hb dX0_oneMore_37 rfl (lv_at hl 3 rfl) ?_
      refine z_get C G clX0 0 rfl 7 (by decide) m_fl_RX0_28 rfl dX0_oneMore_38 ?_
      refine z_alen C G 4 0 rfl (v := nI n4) rfl rfl dX0_oneMore_41 ?_
      refine lv_icmp_ge (tgt := 58) hx hb dX0_oneMore_42 (by decide) (fun c_19 => ?_) (fun c_19 => ?_)
      · have c_19n : (n4 : Int) ≤ ((x5 i) &&& 131071).toInt := by have q := (fa_le _ _).mp c_19; rw [nI_toInt (n := n4) (by omega)] at q; exact q
        refine lv_iload_n hx hb dX0_oneMore_58 rfl (lv_at hl 1 rfl) ?_
        refine z_ist C G 5 rfl (vp_in_nI (by omega) (by omega)) dX0_oneMore_59 (fun H locs G => ?_)
        rw [nI_clamp (by omega)] at G
        have G : zS T A s.heap s [[zO0 h md wy la pc_ a1_8 a2_9 a3_10 a4_11 a5_12 a6_13], [zAr T 0 a1_8 7 f1], [zAr T 0 a2_9 7 f2], [zAr T 0 a3_10 7 f3], [zAr T 0 a4_11 n4 f4], [zAr T 0 a5_12 n4 (upd x5 i (x5 i))], [zAr T 0 a6_13 n4 f6]] _ _ := G
        refine lv_iinc (v := nI (i + 1)) (lv' := [(1, .int (nI (i + 1))), (3, .int ((x5 i) &&& 131071)), (2, .int (x5 i)), (0, .ref h)]) hx hb dX0_oneMore_60 hl (k := 2) rfl (z_inc i 1) (by decide) rfl (fun ls hl => ?_)
        refine lv_goto (tgt := 2) hx hb dX0_oneMore_63 (by decide) ?_
        have hw_20 : bWays T h la md wy pc_ f1 f2 f3 f4 (upd x5 i (x5 i)) f6 n4 [zO0 h md wy la pc_ a1_8 a2_9 a3_10 a4_11 a5_12 a6_13, zAr T 0 a1_8 7 f1, zAr T 0 a2_9 7 f2, zAr T 0 a3_10 7 f3, zAr T 0 a4_11 n4 f4, zAr T 0 a5_12 n4 (upd x5 i (x5 i)), zAr T 0 a6_13 n4 f6] := ⟨a1_8, a2_9, a3_10, a4_11, a5_12, a6_13, rfl⟩
        have G : zS T A s.heap s [[zO0 h md wy la pc_ a1_8 a2_9 a3_10 a4_11 a5_12 a6_13, zAr T 0 a1_8 7 f1, zAr T 0 a2_9 7 f2, zAr T 0 a3_10 7 f3, zAr T 0 a4_11 n4 f4, zAr T 0 a5_12 n4 (upd x5 i (x5 i)), zAr T 0 a6_13 n4 f6]] _ _ := G.re rfl
        exact ih_2 (i + 1) ([zO0 h md wy la pc_ a1_8 a2_9 a3_10 a4_11 a5_12 a6_13, zAr T 0 a1_8 7 f1, zAr T 0 a2_9 7 f2, zAr T 0 a3_10 7 f3, zAr T 0 a4_11 n4 f4, zAr T 0 a5_12 n4 (upd x5 i (x5 i)), zAr T 0 a6_13 n4 f6]) (upd x5 i (x5 i)) (show bWays T h la md wy pc_ f1 f2 f3 f4 (upd x5 i (x5 i)) f6 n4 ([zO0 h md wy la pc_ a1_8 a2_9 a3_10 a4_11 a5_12 a6_13, zAr T 0 a1_8 7 f1, zAr T 0 a2_9 7 f2, zAr T 0 a3_10 7 f3, zAr T 0 a4_11 n4 f4, zAr T 0 a5_12 n4 (upd x5 i (x5 i)), zAr T 0 a6_13 n4 f6]) ∧ (i + 1) ≤ pc_.toInt.toNat from ⟨hw_20, by omega⟩) (show pc_.toInt.toNat - (i + 1) < pc_.toInt.toNat - i from by omega) _ _ ls G (lv_sub hl [0, 3] rfl)
      · have c_19n : ¬ (n4 : Int) ≤ ((x5 i) &&& 131071).toInt := fun q => c_19 ((fa_le _ _).mpr (by rw [nI_toInt (n := n4) (by omega)]; exact q))
        refine lv_aload_n hx hb dX0_oneMore_45 rfl (lv_at hl 3 rfl) ?_
        refine z_get C G clX0 0 rfl 7 (by decide) m_fl_RX0_28 rfl dX0_oneMore_46 ?_
        refine lv_iload_n hx hb dX0_oneMore_49 rfl (lv_at hl 0 rfl) ?_
        refine z_ild C G 4 rfl (vp_in_iff.mpr ⟨z_andP _, by omega⟩) dX0_oneMore_50 ?_
        refine lv_topi (fun v_21 ev_21 => ?_)
        subst ev_21
        refine lv_iload_n hx hb dX0_oneMore_51 rfl (lv_at hl 1 rfl) ?_
        refine lv_iload_n hx hb dX0_oneMore_52 rfl (lv_at hl 0 rfl) ?_
        refine lv_isub hx hb dX0_oneMore_53 ?_
        refine lv_iadd hx hb dX0_oneMore_54 ?_
        refine lv_goto (tgt := 59) hx hb dX0_oneMore_55 (by decide) ?_
        refine z_ist C G 5 rfl (vp_in_nI (by omega) (by omega)) dX0_oneMore_59 (fun H locs G => ?_)
        rw [nI_clamp (by omega)] at G
        have G : zS T A s.heap s [[zO0 h md wy la pc_ a1_8 a2_9 a3_10 a4_11 a5_12 a6_13], [zAr T 0 a1_8 7 f1], [zAr T 0 a2_9 7 f2], [zAr T 0 a3_10 7 f3], [zAr T 0 a4_11 n4 f4], [zAr T 0 a5_12 n4 (upd x5 i ((f4 ((x5 i) &&& 131071).toNatClampNeg) + ((x5 i) - ((x5 i) &&& 131071))))], [zAr T 0 a6_13 n4 f6]] _ _ := G
        refine lv_iinc (v := nI (i + 1)) (lv' := [(1, .int (nI (i + 1))), (3, .int ((x5 i) &&& 131071)), (2, .int (x5 i)), (0, .ref h)]) hx hb dX0_oneMore_60 hl (k := 2) rfl (z_inc i 1) (by decide) rfl (fun ls hl => ?_)
        refine lv_goto (tgt := 2) hx hb dX0_oneMore_63 (by decide) ?_
        have hw_22 : bWays T h la md wy pc_ f1 f2 f3 f4 (upd x5 i ((f4 ((x5 i) &&& 131071).toNatClampNeg) + ((x5 i) - ((x5 i) &&& 131071)))) f6 n4 [zO0 h md wy la pc_ a1_8 a2_9 a3_10 a4_11 a5_12 a6_13, zAr T 0 a1_8 7 f1, zAr T 0 a2_9 7 f2, zAr T 0 a3_10 7 f3, zAr T 0 a4_11 n4 f4, zAr T 0 a5_12 n4 (upd x5 i ((f4 ((x5 i) &&& 131071).toNatClampNeg) + ((x5 i) - ((x5 i) &&& 131071)))), zAr T 0 a6_13 n4 f6] := ⟨a1_8, a2_9, a3_10, a4_11, a5_12, a6_13, rfl⟩
        have G : zS T A s.heap s [[zO0 h md wy la pc_ a1_8 a2_9 a3_10 a4_11 a5_12 a6_13, zAr T 0 a1_8 7 f1, zAr T 0 a2_9 7 f2, zAr T 0 a3_10 7 f3, zAr T 0 a4_11 n4 f4, zAr T 0 a5_12 n4 (upd x5 i ((f4 ((x5 i) &&& 131071).toNatClampNeg) + ((x5 i) - ((x5 i) &&& 131071)))), zAr T 0 a6_13 n4 f6]] _ _ := G.re rfl
        exact ih_2 (i + 1) ([zO0 h md wy la pc_ a1_8 a2_9 a3_10 a4_11 a5_12 a6_13, zAr T 0 a1_8 7 f1, zAr T 0 a2_9 7 f2, zAr T 0 a3_10 7 f3, zAr T 0 a4_11 n4 f4, zAr T 0 a5_12 n4 (upd x5 i ((f4 ((x5 i) &&& 131071).toNatClampNeg) + ((x5 i) - ((x5 i) &&& 131071)))), zAr T 0 a6_13 n4 f6]) (upd x5 i ((f4 ((x5 i) &&& 131071).toNatClampNeg) + ((x5 i) - ((x5 i) &&& 131071)))) (show bWays T h la md wy pc_ f1 f2 f3 f4 (upd x5 i ((f4 ((x5 i) &&& 131071).toNatClampNeg) + ((x5 i) - ((x5 i) &&& 131071)))) f6 n4 ([zO0 h md wy la pc_ a1_8 a2_9 a3_10 a4_11 a5_12 a6_13, zAr T 0 a1_8 7 f1, zAr T 0 a2_9 7 f2, zAr T 0 a3_10 7 f3, zAr T 0 a4_11 n4 f4, zAr T 0 a5_12 n4 (upd x5 i ((f4 ((x5 i) &&& 131071).toNatClampNeg) + ((x5 i) - ((x5 i) &&& 131071)))), zAr T 0 a6_13 n4 f6]) ∧ (i + 1) ≤ pc_.toInt.toNat from ⟨hw_22, by omega⟩) (show pc_.toInt.toNat - (i + 1) < pc_.toInt.toNat - i from by omega) _ _ ls G (lv_sub hl [0, 3] rfl)
set_option maxHeartbeats 4000000 in
set_option maxRecDepth 100000 in
/-- doubleAll -/
theorem c_doubleAll (l : Launch) (T : zTy) (h : Nat) (la : Nat) (md : Int32) (wy : Int32) (pc_ : Int32) (f1 : Nat → Int32) (f2 : Nat → Int32) (f3 : Nat → Int32) (f4 : Nat → Int32) (f5 : Nat → Int32) (f6 : Nat → Int32) (n4 : Nat) (ww : va_W) (hww : bWays T h la md wy pc_ f1 f2 f3 f4 f5 f6 n4 ww) (hn : n4 ≤ 131072) (hpl : pc_.toInt ≤ 131072) : zMv l T yX0_doubleAll cX0_doubleAll 6 1 0 0 [.ref h] [ww] (fun bs => ∃ (w2 : va_W) (g5 : Nat → Int32) (g6 : Nat → Int32), bs = [w2] ∧ bWays T h la md wy pc_ f1 f2 f3 f4 g5 g6 n4 w2) := by
  refine zMv_of (own := RX0) (by decide) rfl (Nat.le_of_ble_eq_true rfl) ?_
  intro p e s m args below meth c A ls C hr hlocks hnm hAe G hl
  refine zHide (fun Q9 hQ9 => ?_)
  have hx := C.1
  have hb := C.2.1
  have hl : lv_has ls 6 [(0, .ref h)] := hl
  refine lv_aload_n hx hb dX0_doubleAll_0 rfl (lv_at hl 0 rfl) ?_
  refine zEx6 hww ?_
  intro a1_1 a2_2 a3_3 a4_4 a5_5 a6_6 hbs9
  clear hww
  subst hbs9
  have G : zS T A s.heap s [[zO0 h md wy la pc_ a1_1 a2_2 a3_3 a4_4 a5_5 a6_6], [zAr T 0 a1_1 7 f1], [zAr T 0 a2_2 7 f2], [zAr T 0 a3_3 7 f3], [zAr T 0 a4_4 n4 f4], [zAr T 0 a5_5 n4 f5], [zAr T 0 a6_6 n4 f6]] _ _ := G.re rfl
  refine z_get C G clX0 0 rfl 8 (by decide) m_fl_RX0_31 rfl dX0_doubleAll_1 ?_
  refine lv_astore_n (lv' := [(1, .ref a5_5), (0, .ref h)]) hx hb dX0_doubleAll_4 rfl hl (by decide) rfl (fun ls hl => ?_)
  refine lv_aload_n hx hb dX0_doubleAll_5 rfl (lv_at hl 1 rfl) ?_
  refine z_get C G clX0 0 rfl 9 (by decide) m_fl_RX0_34 rfl dX0_doubleAll_6 ?_
  refine lv_astore_n (lv' := [(2, .ref a6_6), (1, .ref a5_5), (0, .ref h)]) hx hb dX0_doubleAll_9 rfl hl (by decide) rfl (fun ls hl => ?_)
  refine lv_iconst (v := 0) hx hb dX0_doubleAll_10 (by decide) ?_
  refine lv_istore_n (lv' := [(3, .int 0), (2, .ref a6_6), (1, .ref a5_5), (0, .ref h)]) hx hb dX0_doubleAll_11 rfl hl (by decide) rfl (fun ls hl => ?_)
  refine z_lp2 (T := T) 12 (fun (i : Nat) (x6 : Nat → Int32) => [[zO0 h md wy la pc_ a1_1 a2_2 a3_3 a4_4 a5_5 a6_6], [zAr T 0 a1_1 7 f1], [zAr T 0 a2_2 7 f2], [zAr T 0 a3_3 7 f3], [zAr T 0 a4_4 n4 f4], [zAr T 0 a5_5 n4 f5], [zAr T 0 a6_6 n4 x6]]) (fun (i : Nat) (x6 : Nat → Int32) => [(3, .int (nI i)), (2, .ref a6_6), (1, .ref a5_5), (0, .ref h)]) (fun (i : Nat) (x6 : Nat → Int32) => i ≤ pc_.toInt.toNat) (fun (i : Nat) (x6 : Nat → Int32) => pc_.toInt.toNat - i) ?_ 0 f6 (show 0 ≤ pc_.toInt.toNat from by omega) G (lv_sub hl [0, 1, 2, 3] rfl)
  intro i x6 hi ih_12 H locs ls G hl
  replace hi : i ≤ pc_.toInt.toNat := hi
  replace G : zS T A s.heap s [[zO0 h md wy la pc_ a1_1 a2_2 a3_3 a4_4 a5_5 a6_6], [zAr T 0 a1_1 7 f1], [zAr T 0 a2_2 7 f2], [zAr T 0 a3_3 7 f3], [zAr T 0 a4_4 n4 f4], [zAr T 0 a5_5 n4 f5], [zAr T 0 a6_6 n4 x6]] _ _ := G
  replace hl : lv_has ls 6 [(3, .int (nI i)), (2, .ref a6_6), (1, .ref a5_5), (0, .ref h)] := hl
  refine lv_iload_n hx hb dX0_doubleAll_12 rfl (lv_at hl 0 rfl) ?_
  refine lv_aload_n hx hb dX0_doubleAll_13 rfl (lv_at hl 3 rfl) ?_
  refine z_get C G clX0 0 rfl 3 (by decide) m_fl_RX0_75 rfl dX0_doubleAll_14 ?_
  refine lv_icmp_ge (tgt := 75) hx hb dX0_doubleAll_17 (by decide) (fun c_7 => ?_) (fun c_7 => ?_)
  · have c_7n : pc_.toInt ≤ (i : Int) := by have q := (fa_le _ _).mp c_7; rw [nI_toInt (n := i) (by omega)] at q; exact q
    refine lv_aload_n hx hb dX0_doubleAll_75 rfl (lv_at hl 3 rfl) ?_
    refine lv_aload_n hx hb dX0_doubleAll_76 rfl (lv_at hl 1 rfl) ?_
    refine z_put C G clX0 0 rfl 8 (by decide) m_fl_RX0_31 rfl rfl rfl (Nat.le_of_ble_eq_true rfl) dX0_doubleAll_77 (fun H locs G => ?_)
    have G : zS T A s.heap s [[zO0 h md wy la pc_ a1_1 a2_2 a3_3 a4_4 a6_6 a6_6], [zAr T 0 a1_1 7 f1], [zAr T 0 a2_2 7 f2], [zAr T 0 a3_3 7 f3], [zAr T 0 a4_4 n4 f4], [zAr T 0 a5_5 n4 f5], [zAr T 0 a6_6 n4 x6]] _ _ := G
    refine lv_aload_n hx hb dX0_doubleAll_80 rfl (lv_at hl 3 rfl) ?_
    refine lv_aload_n hx hb dX0_doubleAll_81 rfl (lv_at hl 2 rfl) ?_
    refine z_put C G clX0 0 rfl 9 (by decide) m_fl_RX0_34 rfl rfl rfl (Nat.le_of_ble_eq_true rfl) dX0_doubleAll_82 (fun H locs G => ?_)
    have G : zS T A s.heap s [[zO0 h md wy la pc_ a1_1 a2_2 a3_3 a4_4 a6_6 a5_5], [zAr T 0 a1_1 7 f1], [zAr T 0 a2_2 7 f2], [zAr T 0 a3_3 7 f3], [zAr T 0 a4_4 n4 f4], [zAr T 0 a5_5 n4 f5], [zAr T 0 a6_6 n4 x6]] _ _ := G
    have G := G.sub (bs' := [[zO0 h md wy la pc_ a1_1 a2_2 a3_3 a4_4 a6_6 a5_5], [zAr T 0 a1_1 7 f1], [zAr T 0 a2_2 7 f2], [zAr T 0 a3_3 7 f3], [zAr T 0 a4_4 n4 f4], [zAr T 0 a6_6 n4 x6], [zAr T 0 a5_5 n4 f5]]) [0, 1, 2, 3, 4, 6, 5] rfl
    have hw_8 : bWays T h la md wy pc_ f1 f2 f3 f4 x6 f5 n4 [zO0 h md wy la pc_ a1_1 a2_2 a3_3 a4_4 a6_6 a5_5, zAr T 0 a1_1 7 f1, zAr T 0 a2_2 7 f2, zAr T 0 a3_3 7 f3, zAr T 0 a4_4 n4 f4, zAr T 0 a6_6 n4 x6, zAr T 0 a5_5 n4 f5] := ⟨a1_1, a2_2, a3_3, a4_4, a6_6, a5_5, rfl⟩
    have G : zS T A s.heap s [[zO0 h md wy la pc_ a1_1 a2_2 a3_3 a4_4 a6_6 a5_5, zAr T 0 a1_1 7 f1, zAr T 0 a2_2 7 f2, zAr T 0 a3_3 7 f3, zAr T 0 a4_4 n4 f4, zAr T 0 a6_6 n4 x6, zAr T 0 a5_5 n4 f5]] _ _ := G.re rfl
    exact z_back hQ9 (z_vret C hr hlocks G (Nat.le_of_ble_eq_true rfl) (Nat.le_of_ble_eq_true rfl) dX0_doubleAll_85 ⟨([zO0 h md wy la pc_ a1_1 a2_2 a3_3 a4_4 a6_6 a5_5, zAr T 0 a1_1 7 f1, zAr T 0 a2_2 7 f2, zAr T 0 a3_3 7 f3, zAr T 0 a4_4 n4 f4, zAr T 0 a6_6 n4 x6, zAr T 0 a5_5 n4 f5]), x6, f5, rfl, hw_8⟩)
  · have c_7n : ¬ pc_.toInt ≤ (i : Int) := fun q => c_7 ((fa_le _ _).mpr (by rw [nI_toInt (n := i) (by omega)]; exact q))
    refine lv_iload_n hx hb dX0_doubleAll_20 rfl (lv_at hl 0 rfl) ?_
    refine lv_aload_n hx hb dX0_doubleAll_21 rfl (lv_at hl 2 rfl) ?_
    refine z_alen C G 5 0 rfl (v := nI n4) rfl rfl dX0_doubleAll_22 ?_
    refine lv_icmp_ge (tgt := 75) hx hb dX0_doubleAll_23 (by decide) (fun c_9 => ?_) (fun c_9 => ?_)
    · have c_9n : n4 ≤ i := (nI_leI (a := n4) (b := i) (by omega) (by omega)).mp c_9
      refine lv_aload_n hx hb dX0_doubleAll_75 rfl (lv_at hl 3 rfl) ?_
      refine lv_aload_n hx hb dX0_doubleAll_76 rfl (lv_at hl 1 rfl) ?_
      refine z_put C G clX0 0 rfl 8 (by decide) m_fl_RX0_31 rfl rfl rfl (Nat.le_of_ble_eq_true rfl) dX0_doubleAll_77 (fun H locs G => ?_)
      have G : zS T A s.heap s [[zO0 h md wy la pc_ a1_1 a2_2 a3_3 a4_4 a6_6 a6_6], [zAr T 0 a1_1 7 f1], [zAr T 0 a2_2 7 f2], [zAr T 0 a3_3 7 f3], [zAr T 0 a4_4 n4 f4], [zAr T 0 a5_5 n4 f5], [zAr T 0 a6_6 n4 x6]] _ _ := G
      refine lv_aload_n hx hb dX0_doubleAll_80 rfl (lv_at hl 3 rfl) ?_
      refine lv_aload_n hx hb dX0_doubleAll_81 rfl (lv_at hl 2 rfl) ?_
      refine z_put C G clX0 0 rfl 9 (by decide) m_fl_RX0_34 rfl rfl rfl (Nat.le_of_ble_eq_true rfl) dX0_doubleAll_82 (fun H locs G => ?_)
      have G : zS T A s.heap s [[zO0 h md wy la pc_ a1_1 a2_2 a3_3 a4_4 a6_6 a5_5], [zAr T 0 a1_1 7 f1], [zAr T 0 a2_2 7 f2], [zAr T 0 a3_3 7 f3], [zAr T 0 a4_4 n4 f4], [zAr T 0 a5_5 n4 f5], [zAr T 0 a6_6 n4 x6]] _ _ := G
      have G := G.sub (bs' := [[zO0 h md wy la pc_ a1_1 a2_2 a3_3 a4_4 a6_6 a5_5], [zAr T 0 a1_1 7 f1], [zAr T 0 a2_2 7 f2], [zAr T 0 a3_3 7 f3], [zAr T 0 a4_4 n4 f4], [zAr T 0 a6_6 n4 x6], [zAr T 0 a5_5 n4 f5]]) [0, 1, 2, 3, 4, 6, 5] rfl
      have hw_10 : bWays T h la md wy pc_ f1 f2 f3 f4 x6 f5 n4 [zO0 h md wy la pc_ a1_1 a2_2 a3_3 a4_4 a6_6 a5_5, zAr T 0 a1_1 7 f1, zAr T 0 a2_2 7 f2, zAr T 0 a3_3 7 f3, zAr T 0 a4_4 n4 f4, zAr T 0 a6_6 n4 x6, zAr T 0 a5_5 n4 f5] := ⟨a1_1, a2_2, a3_3, a4_4, a6_6, a5_5, rfl⟩
      have G : zS T A s.heap s [[zO0 h md wy la pc_ a1_1 a2_2 a3_3 a4_4 a6_6 a5_5, zAr T 0 a1_1 7 f1, zAr T 0 a2_2 7 f2, zAr T 0 a3_3 7 f3, zAr T 0 a4_4 n4 f4, zAr T 0 a6_6 n4 x6, zAr T 0 a5_5 n4 f5]] _ _ := G.re rfl
      exact z_back hQ9 (z_vret C hr hlocks G (Nat.le_of_ble_eq_true rfl) (Nat.le_of_ble_eq_true rfl) dX0_doubleAll_85 ⟨([zO0 h md wy la pc_ a1_1 a2_2 a3_3 a4_4 a6_6 a5_5, zAr T 0 a1_1 7 f1, zAr T 0 a2_2 7 f2, zAr T 0 a3_3 7 f3, zAr T 0 a4_4 n4 f4, zAr T 0 a6_6 n4 x6, zAr T 0 a5_5 n4 f5]), x6, f5, rfl, hw_10⟩)
    · have c_9n : ¬ n4 ≤ i := fun q => c_9 ((nI_leI (a := n4) (b := i) (by omega) (by omega)).mpr q)
      refine lv_iload_n hx hb dX0_doubleAll_26 rfl (lv_at hl 0 rfl) ?_
      refine lv_aload_n hx hb dX0_doubleAll_27 rfl (lv_at hl 1 rfl) ?_
      refine z_alen C G 6 0 rfl (v := nI n4) rfl rfl dX0_doubleAll_28 ?_
      refine lv_icmp_ge (tgt := 75) hx hb dX0_doubleAll_29 (by decide) (fun q => absurd q c_9) (fun _ => ?_)
      refine lv_aload_n hx hb dX0_doubleAll_32 rfl (lv_at hl 2 rfl) ?_
      refine lv_iload_n hx hb dX0_doubleAll_33 rfl (lv_at hl 0 rfl) ?_
      refine z_ild C G 5 rfl (vp_in_nI (by omega) (by omega)) dX0_doubleAll_34 ?_
      refine lv_topi (fun v_11 ev_11 => ?_)
      rw [nI_clamp (by omega)] at ev_11
      subst ev_11
      refine lv_istore (lv' := [(4, .int (f5 i)), (3, .int (nI i)), (2, .ref a6_6), (1, .ref a5_5), (0, .ref h)]) hx hb dX0_doubleAll_35 hl (by decide) rfl (fun ls hl => ?_)
      refine lv_iload hx hb dX0_doubleAll_37 (lv_at hl 0 rfl) ?_
      refine lv_ldc (v := 131071) hx hb C.2.2.2.1 (C.2.2.2.2 _ m_ko_RX0_90) dX0_doubleAll_39 ?_
      refine lv_iand hx hb dX0_doubleAll_41 ?_
      refine lv_istore (lv' := [(5, .int ((f5 i) &&& 131071)), (4, .int (f5 i)), (3, .int (nI i)), (2, .ref a6_6), (1, .ref a5_5), (0, .ref h)]) hx hb dX0_doubleAll_42 hl (by decide) rfl (fun ls hl => ?_)
      refine lv_aload_n hx hb dX0_doubleAll_44 rfl (lv_at hl 3 rfl) ?_
      refine lv_iload_n hx hb dX0_doubleAll_45 rfl (lv_at hl 2 rfl) ?_
      refine lv_iload hx hb dX0_doubleAll_46 (lv_at hl 0 rfl) ?_
      refine lv_aload_n hx hb dX0_doubleAll_48 rfl (lv_at hl 4 rfl) ?_
      refine z_alen C G 5 0 rfl (v := nI n4) rfl rfl dX0_doubleAll_49 ?_
      refine lv_icmp_ge (tgt := 66) hx hb dX0_doubleAll_50 (by decide) (fun c_12 => ?_) (fun c_12 => ?_)
      · have c_12n : (n4 : Int) ≤ ((f5 i) &&& 131071).toInt := by have q := (fa_le _ _).mp c_12; rw [nI_toInt (n := n4) (by omega)] at q; exact q
        refine lv_iload hx hb dX0_doubleAll_66 (lv_at hl 1 rfl) ?_
        refine z_ist C G 6 rfl (vp_in_nI (by omega) (by omega)) dX0_doubleAll_68 (fun H locs G => ?_)
        rw [nI_clamp (by omega)] at G
        have G : zS T A s.heap s [[zO0 h md wy la pc_ a1_1 a2_2 a3_3 a4_4 a5_5 a6_6], [zAr T 0 a1_1 7 f1], [zAr T 0 a2_2 7 f2], [zAr T 0 a3_3 7 f3], [zAr T 0 a4_4 n4 f4], [zAr T 0 a5_5 n4 f5], [zAr T 0 a6_6 n4 (upd x6 i (f5 i))]] _ _ := G
        refine lv_iinc (v := nI (i + 1)) (lv' := [(3, .int (nI (i + 1))), (5, .int ((f5 i) &&& 131071)), (4, .int (f5 i)), (2, .ref a6_6), (1, .ref a5_5), (0, .ref h)]) hx hb dX0_doubleAll_69 hl (k := 2) rfl (z_inc i 1) (by decide) rfl (fun ls hl => ?_)
        refine lv_goto (tgt := 12) hx hb dX0_doubleAll_72 (by decide) ?_
        exact ih_12 (i + 1) (upd x6 i (f5 i)) (show (i + 1) ≤ pc_.toInt.toNat from by omega) (show pc_.toInt.toNat - (i + 1) < pc_.toInt.toNat - i from by omega) _ _ ls G (lv_sub hl [0, 3, 4, 5] rfl)
      · have c_12n : ¬ (n4 : Int) ≤ ((f5 i) &&& 131071).toInt := fun q => c_12 ((fa_le _ _).mpr (by rw [nI_toInt (n := n4) (by omega)]; exact q))
        refine lv_aload_n hx hb dX0_doubleAll_53 rfl (lv_at hl 4 rfl) ?_
        refine lv_iload hx hb dX0_doubleAll_54 (lv_at hl 0 rfl) ?_
        refine z_ild C G 5 rfl (vp_in_iff.mpr ⟨z_andP _, by omega⟩) dX0_doubleAll_56 ?_
        refine lv_topi (fun v_13 ev_13 => ?_)
        subst ev_13
        refine lv_iload hx hb dX0_doubleAll_57 (lv_at hl 1 rfl) ?_
        refine lv_iload hx hb dX0_doubleAll_59 (lv_at hl 0 rfl) ?_
        refine lv_isub hx hb dX0_doubleAll_61 ?_
        refine lv_iadd hx hb dX0_doubleAll_62 ?_
        refine lv_goto (tgt := 68) hx hb dX0_doubleAll_63 (by decide) ?_
        refine z_ist C G 6 rfl (vp_in_nI (by omega) (by omega)) dX0_doubleAll_68 (fun H locs G => ?_)
        rw [nI_clamp (by omega)] at G
        have G : zS T A s.heap s [[zO0 h md wy la pc_ a1_1 a2_2 a3_3 a4_4 a5_5 a6_6], [zAr T 0 a1_1 7 f1], [zAr T 0 a2_2 7 f2], [zAr T 0 a3_3 7 f3], [zAr T 0 a4_4 n4 f4], [zAr T 0 a5_5 n4 f5], [zAr T 0 a6_6 n4 (upd x6 i ((f5 ((f5 i) &&& 131071).toNatClampNeg) + ((f5 i) - ((f5 i) &&& 131071))))]] _ _ := G
        refine lv_iinc (v := nI (i + 1)) (lv' := [(3, .int (nI (i + 1))), (5, .int ((f5 i) &&& 131071)), (4, .int (f5 i)), (2, .ref a6_6), (1, .ref a5_5), (0, .ref h)]) hx hb dX0_doubleAll_69 hl (k := 2) rfl (z_inc i 1) (by decide) rfl (fun ls hl => ?_)
        refine lv_goto (tgt := 12) hx hb dX0_doubleAll_72 (by decide) ?_
        exact ih_12 (i + 1) (upd x6 i ((f5 ((f5 i) &&& 131071).toNatClampNeg) + ((f5 i) - ((f5 i) &&& 131071)))) (show (i + 1) ≤ pc_.toInt.toNat from by omega) (show pc_.toInt.toNat - (i + 1) < pc_.toInt.toNat - i from by omega) _ _ ls G (lv_sub hl [0, 3, 4, 5] rfl)


def zCh (cr inn : Int32) (k1 : Nat → Int32) (x : Int32) : Int32 := if zWays cr inn k1 x < 1 then 1 else zWays cr inn k1 x
def zWyN (cr inn : Int32) (k1 : Nat → Int32) : Nat → Int32
  | 0 => 1
  | 1 => 1 * zCh cr inn k1 6
  | 2 => 1 * zCh cr inn k1 6 * zCh cr inn k1 5
  | 3 => 1 * zCh cr inn k1 6 * zCh cr inn k1 5 * zCh cr inn k1 4
  | 4 => 1 * zCh cr inn k1 6 * zCh cr inn k1 5 * zCh cr inn k1 4 * zCh cr inn k1 3
  | 5 => 1 * zCh cr inn k1 6 * zCh cr inn k1 5 * zCh cr inn k1 4 * zCh cr inn k1 3 * zCh cr inn k1 2
  | 6 => 1 * zCh cr inn k1 6 * zCh cr inn k1 5 * zCh cr inn k1 4 * zCh cr inn k1 3 * zCh cr inn k1 2 * zCh cr inn k1 1
  | _ => 1 * zCh cr inn k1 6 * zCh cr inn k1 5 * zCh cr inn k1 4 * zCh cr inn k1 3 * zCh cr inn k1 2 * zCh cr inn k1 1 * zCh cr inn k1 0
def zWy (cr inn : Int32) (k1 : Nat → Int32) : Int32 := zWyN cr inn k1 7
def zPl (cr inn : Int32) (k1 : Nat → Int32) : Int32 := if (131072 : Int32) < zWy cr inn k1 <<< (3 &&& 31) then 131072 else zWy cr inn k1 <<< (3 &&& 31)
theorem zPl_le (cr inn : Int32) (k1 : Nat → Int32) : (zPl cr inn k1).toInt ≤ 131072 := by
  unfold zPl
  split
  · decide
  · rename_i q
    exact Int.not_lt.mp (fun z => q ((fa_lt _ _).mpr z))
/-- how long the rows are made -/
def zLenN (pl : Int32) : Nat → Nat → Nat
  | 0, L => L
  | k + 1, L => if (L : Int) < pl.toInt ∧ L < 131072 then zLenN pl k (2 * L) else L
def zNl (n : Nat) (pl : Int32) : Nat := if pl.toInt ≤ n then n else zLenN pl 12 64
def zPw (n : Nat) : Prop := n = 0 ∨ ∃ k, k ≤ 11 ∧ n = 64 * 2 ^ k
theorem zLenN_pw {pl : Int32} : ∀ (f k : Nat), k ≤ 11 → 11 ≤ f + k → ∃ j, k ≤ j ∧ j ≤ 11 ∧ zLenN pl f (64 * 2 ^ k) = 64 * 2 ^ j
  | 0, k, h, h2 => ⟨k, Nat.le_refl _, h, rfl⟩
  | f + 1, k, h, h2 => by
    rw [zLenN]
    split
    · rename_i q
      have hk : k < 11 := by
        rcases Nat.lt_or_ge k 11 with z | z
        · exact z
        · have e : k = 11 := by omega
          subst e
          exact absurd q.2 (by decide)
      rw [show 2 * (64 * 2 ^ k) = 64 * 2 ^ (k + 1) by rw [Nat.pow_succ]; omega]
      obtain ⟨j, h3, h4, h5⟩ := zLenN_pw f (k + 1) (by omega) (by omega)
      exact ⟨j, by omega, h4, h5⟩
    · exact ⟨k, Nat.le_refl _, h, rfl⟩
theorem zLenN_ge {pl : Int32} (hp : pl.toInt ≤ 131072) : ∀ (f k : Nat), k ≤ 11 → 12 ≤ f + k → pl.toInt ≤ (zLenN pl f (64 * 2 ^ k) : Nat)
  | 0, k, h, h2 => by omega
  | f + 1, k, h, h2 => by
    rw [zLenN]
    split
    · rename_i q
      have hk : k < 11 := by
        rcases Nat.lt_or_ge k 11 with z | z
        · exact z
        · have e : k = 11 := by omega
          subst e
          exact absurd q.2 (by decide)
      rw [show 2 * (64 * 2 ^ k) = 64 * 2 ^ (k + 1) by rw [Nat.pow_succ]; omega]
      exact zLenN_ge hp f (k + 1) (by omega) (by omega)
    · rename_i q
      by_cases z : (64 * 2 ^ k : Nat) < 131072
      · by_cases y : ((64 * 2 ^ k : Nat) : Int) < pl.toInt
        · exact absurd ⟨y, z⟩ q
        · omega
      · omega
theorem zPw_le {n : Nat} (h : zPw n) : n ≤ 131072 := by
  rcases h with h | ⟨k, h1, h2⟩
  · omega
  · have h3 : 2 ^ k ≤ 2 ^ 11 := Nat.pow_le_pow_right (by decide) h1
    rw [h2]
    omega
theorem zNl_pw {n : Nat} {pl : Int32} (h : zPw n) : zPw (zNl n pl) := by
  unfold zNl
  split
  · exact h
  · obtain ⟨j, h1, h2, h3⟩ := zLenN_pw (pl := pl) 12 0 (by decide) (by decide)
    exact Or.inr ⟨j, h2, h3⟩
theorem zNl_room {n : Nat} {pl : Int32} (h : zPw n) (hp : pl.toInt ≤ 131072) (hg : ¬ pl.toInt ≤ n) : 2 * n ≤ zLenN pl 12 64 := by
  have h0 := zLenN_ge hp 12 0 (by decide) (by decide)
  obtain ⟨j, h1, h2, h3⟩ := zLenN_pw (pl := pl) 12 0 (by decide) (by decide)
  have e : (64 * 2 ^ 0 : Nat) = 64 := by decide
  rw [e] at h0 h3
  rcases h with h | ⟨k, k1, k2⟩
  · omega
  · rw [h3] at h0 ⊢
    rw [k2] at hg ⊢
    have hlt : 64 * 2 ^ k < 64 * 2 ^ j := by omega
    have hkj : k < j := by
      rcases Nat.lt_or_ge k j with z | z
      · exact z
      · have := Nat.pow_le_pow_right (n := 2) (by decide) z
        omega
    have h5 : 2 ^ (k + 1) ≤ 2 ^ j := Nat.pow_le_pow_right (by decide) hkj
    rw [Nat.pow_succ] at h5
    omega
theorem z_k11 {k L : Nat} (hk : k ≤ 11) (hL : L = 64 * 2 ^ k) (h : L < 131072) : k + 1 ≤ 11 := by
  rcases Nat.lt_or_ge k 11 with z | z
  · omega
  · have e : k = 11 := by omega
    subst e
    omega
theorem z_k11b {k L : Nat} (hk : k ≤ 11) (hL : L = 64 * 2 ^ k) (h : L < 131072) : L * 2 ≤ 131072 := by
  have h1 := z_k11 hk hL h
  have h2 : 2 ^ (k + 1) ≤ 2 ^ 11 := Nat.pow_le_pow_right (by decide) h1
  rw [Nat.pow_succ] at h2
  omega
set_option maxHeartbeats 4000000 in
set_option maxRecDepth 100000 in
/-- countWays -/
theorem c_countWays (l : Launch) (T : zTy) (h : Nat) (la : Nat) (md : Int32) (wy : Int32) (pc_ : Int32) (f1 : Nat → Int32) (f2 : Nat → Int32) (f3 : Nat → Int32) (f4 : Nat → Int32) (f5 : Nat → Int32) (f6 : Nat → Int32) (n4 : Nat) (ww : va_W) (o : Nat) (cr : Int32) (inn : Int32) (k1 : Nat → Int32) (k2 : Nat → Int32) (k3 : Nat → Int32) (k4 : Nat → Int32) (z : va_W) (hww : bWays T h la md wy pc_ f1 f2 f3 f4 f5 f6 n4 ww) (hz : bLand T o cr inn k1 k2 k3 k4 z) : zMv l T yX0_countWays cX0_countWays 3 2 0 0 [.ref h, .ref o] [ww, z] (fun bs => ∃ (w2 : va_W) (g1 : Nat → Int32) (g2 : Nat → Int32), bs = [w2, z] ∧ bWays T h o md (zWy cr inn k1) (zPl cr inn k1) g1 g2 f3 f4 f5 f6 n4 w2) := by
  refine zMv_of (own := RX0) (by decide) rfl (Nat.le_of_ble_eq_true rfl) ?_
  intro p e s m args below meth c A ls C hr hlocks hnm hAe G hl
  refine zHide (fun Qz_ hQz_ => ?_)
  have hx := C.1
  have hb := C.2.1
  have hl : lv_has ls 3 [(0, .ref h), (1, .ref o)] := hl
  have hz0 : (1 : Int32) = zWyN cr inn k1 0 := rfl
  refine lv_aload_n hx hb dX0_countWays_0 rfl (lv_at hl 0 rfl) ?_
  refine lv_aload_n hx hb dX0_countWays_1 rfl (lv_at hl 1 rfl) ?_
  refine zEx6 hww ?_
  intro a1_1 a2_2 a3_3 a4_4 a5_5 a6_6 hbs9
  clear hww
  subst hbs9
  have G : zS T A s.heap s [[zO0 h md wy la pc_ a1_1 a2_2 a3_3 a4_4 a5_5 a6_6], [zAr T 0 a1_1 7 f1], [zAr T 0 a2_2 7 f2], [zAr T 0 a3_3 7 f3], [zAr T 0 a4_4 n4 f4], [zAr T 0 a5_5 n4 f5], [zAr T 0 a6_6 n4 f6], z] _ _ := G.re rfl
  refine z_put C G clX0 0 rfl 2 (by decide) m_fl_RX0_14 rfl rfl rfl (Nat.le_of_ble_eq_true rfl) dX0_countWays_2 (fun H locs G => ?_)
  have G : zS T A s.heap s [[zO0 h md wy o pc_ a1_1 a2_2 a3_3 a4_4 a5_5 a6_6], [zAr T 0 a1_1 7 f1], [zAr T 0 a2_2 7 f2], [zAr T 0 a3_3 7 f3], [zAr T 0 a4_4 n4 f4], [zAr T 0 a5_5 n4 f5], [zAr T 0 a6_6 n4 f6], z] _ _ := G
  refine lv_aload_n hx hb dX0_countWays_5 rfl (lv_at hl 0 rfl) ?_
  refine lv_iconst (v := 1) hx hb dX0_countWays_6 (by decide) ?_
  refine z_put C G clX0 0 rfl 1 (by decide) m_fl_RX0_57 rfl rfl rfl (Nat.le_of_ble_eq_true rfl) dX0_countWays_7 (fun H locs G => ?_)
  have G : zS T A s.heap s [[zO0 h md 1 o pc_ a1_1 a2_2 a3_3 a4_4 a5_5 a6_6], [zAr T 0 a1_1 7 f1], [zAr T 0 a2_2 7 f2], [zAr T 0 a3_3 7 f3], [zAr T 0 a4_4 n4 f4], [zAr T 0 a5_5 n4 f5], [zAr T 0 a6_6 n4 f6], z] _ _ := G
  refine lv_bipush (v := 6) hx hb dX0_countWays_10 (by decide) ?_
  refine lv_istore_n (lv' := [(2, .int 6), (0, .ref h), (1, .ref o)]) hx hb dX0_countWays_12 rfl hl (by decide) (zLvf_h rfl) (fun ls hl => ?_)
  refine lv_iload_n hx hb dX0_countWays_13 rfl (lv_at hl 0 rfl) ?_
  refine lv_if_lt (tgt := 63) hx hb dX0_countWays_14 (by decide) (fun q => absurd q (by decide)) (fun _ => ?_)
  refine lv_aload_n hx hb dX0_countWays_17 rfl (lv_at hl 1 rfl) ?_
  refine z_get C G clX0 0 rfl 4 (by decide) m_fl_RX0_18 rfl dX0_countWays_18 ?_
  refine lv_iload_n hx hb dX0_countWays_21 rfl (lv_at hl 0 rfl) ?_
  refine lv_aload_n hx hb dX0_countWays_22 rfl (lv_at hl 2 rfl) ?_
  refine lv_iload_n hx hb dX0_countWays_23 rfl (lv_at hl 0 rfl) ?_
  refine z_Vi (bc := [z]) (br := [[zO0 h md 1 o pc_ a1_1 a2_2 a3_3 a4_4 a5_5 a6_6], [zAr T 0 a1_1 7 f1], [zAr T 0 a2_2 7 f2], [zAr T 0 a3_3 7 f3], [zAr T 0 a4_4 n4 f4], [zAr T 0 a5_5 n4 f5], [zAr T 0 a6_6 n4 f6]]) (As := [.int 6]) (rest := [.int 6, .ref a1_1]) C G (c_waysOut l T o cr inn k1 k2 k3 k4 z 6 hz) (kV_RX0_61 C.2.2.2.2 (Nat.le_of_ble_eq_true rfl) (Nat.le_of_ble_eq_true rfl)) [7] [7] rfl rfl (ci := 4) (qc := (RX4, TX4, 6)) rfl rfl (List.mem_flatten.mpr ⟨_, List.mem_of_getElem? (i := 0) rfl, (bLand_mem hz).choose_spec⟩) rfl rfl hl.1 dX0_countWays_24 (Nat.le_of_ble_eq_true rfl) (Nat.le_of_ble_eq_true rfl) (fun r_8 b1 H locs hw G => ?_)
  refine zAn2 hw ?_
  intro hbs9 h_7
  clear hw
  subst hbs9
  have G : zS T A s.heap s [[zO0 h md 1 o pc_ a1_1 a2_2 a3_3 a4_4 a5_5 a6_6], [zAr T 0 a1_1 7 f1], [zAr T 0 a2_2 7 f2], [zAr T 0 a3_3 7 f3], [zAr T 0 a4_4 n4 f4], [zAr T 0 a5_5 n4 f5], [zAr T 0 a6_6 n4 f6], z] _ _ := G
  subst h_7
  refine lv_iconst (v := 1) hx hb dX0_countWays_27 (by decide) ?_
  refine va_mmax hx hb (C.2.2.1.trans hl.1.symm) C.2.2.2.1 (C.2.2.2.2 _ m_ml_RX0_65) (C.2.2.2.2 _ m_st_math_max) (C.2.2.2.2 _ m_ii_math) (C.2.2.2.2 _ m_co_math_max) (Nat.le_of_ble_eq_true rfl) (Nat.le_of_ble_eq_true rfl) (Nat.le_of_ble_eq_true rfl) (Nat.le_of_ble_eq_true rfl) dX0_countWays_28 ?_
  refine lv_topi (fun v_9 ev_9 => ?_)
  subst ev_9
  refine lv_topi (fun y_10 ey_10 => ?_)
  obtain rfl : y_10 = zCh cr inn k1 6 := ey_10
  refine z_ist C G 1 rfl (vp_in_nI (n := 6) (by decide) (by decide)) dX0_countWays_31 (fun H locs G => ?_)
  have G : zS T A s.heap s [[zO0 h md 1 o pc_ a1_1 a2_2 a3_3 a4_4 a5_5 a6_6], [zAr T 0 a1_1 7 (upd f1 6 (zCh cr inn k1 6))], [zAr T 0 a2_2 7 f2], [zAr T 0 a3_3 7 f3], [zAr T 0 a4_4 n4 f4], [zAr T 0 a5_5 n4 f5], [zAr T 0 a6_6 n4 f6], z] _ _ := G
  refine lv_aload_n hx hb dX0_countWays_32 rfl (lv_at hl 1 rfl) ?_
  refine z_get C G clX0 0 rfl 5 (by decide) m_fl_RX0_22 rfl dX0_countWays_33 ?_
  refine lv_iload_n hx hb dX0_countWays_36 rfl (lv_at hl 0 rfl) ?_
  refine lv_aload_n hx hb dX0_countWays_37 rfl (lv_at hl 1 rfl) ?_
  refine z_get C G clX0 0 rfl 1 (by decide) m_fl_RX0_57 rfl dX0_countWays_38 ?_
  refine z_ist C G 2 rfl (vp_in_nI (n := 6) (by decide) (by decide)) dX0_countWays_41 (fun H locs G => ?_)
  have G : zS T A s.heap s [[zO0 h md 1 o pc_ a1_1 a2_2 a3_3 a4_4 a5_5 a6_6], [zAr T 0 a1_1 7 (upd f1 6 (zCh cr inn k1 6))], [zAr T 0 a2_2 7 (upd f2 6 1)], [zAr T 0 a3_3 7 f3], [zAr T 0 a4_4 n4 f4], [zAr T 0 a5_5 n4 f5], [zAr T 0 a6_6 n4 f6], z] _ _ := G
  refine lv_aload_n hx hb dX0_countWays_42 rfl (lv_at hl 1 rfl) ?_
  refine lv_dup hx hb dX0_countWays_43 rfl ?_
  refine z_get C G clX0 0 rfl 1 (by decide) m_fl_RX0_57 rfl dX0_countWays_44 ?_
  refine lv_aload_n hx hb dX0_countWays_47 rfl (lv_at hl 1 rfl) ?_
  refine z_get C G clX0 0 rfl 4 (by decide) m_fl_RX0_18 rfl dX0_countWays_48 ?_
  refine lv_iload_n hx hb dX0_countWays_51 rfl (lv_at hl 0 rfl) ?_
  refine z_ild C G 1 rfl (vp_in_nI (n := 6) (by decide) (by decide)) dX0_countWays_52 ?_
  refine lv_topi (fun v_11 ev_11 => ?_)
  have ev_11 : v_11 = zCh cr inn k1 6 := ev_11
  subst ev_11
  refine lv_imul hx hb dX0_countWays_53 ?_
  refine lv_topi (fun y_12 ey_12 => ?_)
  obtain rfl : y_12 = zWyN cr inn k1 1 := ey_12
  refine z_put C G clX0 0 rfl 1 (by decide) m_fl_RX0_57 rfl rfl rfl (Nat.le_of_ble_eq_true rfl) dX0_countWays_54 (fun H locs G => ?_)
  have G : zS T A s.heap s [[zO0 h md (zWyN cr inn k1 1) o pc_ a1_1 a2_2 a3_3 a4_4 a5_5 a6_6], [zAr T 0 a1_1 7 (upd f1 6 (zCh cr inn k1 6))], [zAr T 0 a2_2 7 (upd f2 6 1)], [zAr T 0 a3_3 7 f3], [zAr T 0 a4_4 n4 f4], [zAr T 0 a5_5 n4 f5], [zAr T 0 a6_6 n4 f6], z] _ _ := G
  refine lv_iinc (v := 5) (lv' := [(2, .int 5), (0, .ref h), (1, .ref o)]) hx hb dX0_countWays_57 hl (k := 0) rfl (by decide) (by decide) (zLvf_h rfl) (fun ls hl => ?_)
  refine lv_goto (tgt := 13) hx hb dX0_countWays_60 (by decide) ?_
  refine lv_iload_n hx hb dX0_countWays_13 rfl (lv_at hl 0 rfl) ?_
  refine lv_if_lt (tgt := 63) hx hb dX0_countWays_14 (by decide) (fun q => absurd q (by decide)) (fun _ => ?_)
  refine lv_aload_n hx hb dX0_countWays_17 rfl (lv_at hl 1 rfl) ?_
  refine z_get C G clX0 0 rfl 4 (by decide) m_fl_RX0_18 rfl dX0_countWays_18 ?_
  refine lv_iload_n hx hb dX0_countWays_21 rfl (lv_at hl 0 rfl) ?_
  refine lv_aload_n hx hb dX0_countWays_22 rfl (lv_at hl 2 rfl) ?_
  refine lv_iload_n hx hb dX0_countWays_23 rfl (lv_at hl 0 rfl) ?_
  refine z_Vi (bc := [z]) (br := [[zO0 h md (zWyN cr inn k1 1) o pc_ a1_1 a2_2 a3_3 a4_4 a5_5 a6_6], [zAr T 0 a1_1 7 (upd f1 6 (zCh cr inn k1 6))], [zAr T 0 a2_2 7 (upd f2 6 1)], [zAr T 0 a3_3 7 f3], [zAr T 0 a4_4 n4 f4], [zAr T 0 a5_5 n4 f5], [zAr T 0 a6_6 n4 f6]]) (As := [.int 5]) (rest := [.int 5, .ref a1_1]) C G (c_waysOut l T o cr inn k1 k2 k3 k4 z 5 hz) (kV_RX0_61 C.2.2.2.2 (Nat.le_of_ble_eq_true rfl) (Nat.le_of_ble_eq_true rfl)) [7] [7] rfl rfl (ci := 4) (qc := (RX4, TX4, 6)) rfl rfl (List.mem_flatten.mpr ⟨_, List.mem_of_getElem? (i := 0) rfl, (bLand_mem hz).choose_spec⟩) rfl rfl hl.1 dX0_countWays_24 (Nat.le_of_ble_eq_true rfl) (Nat.le_of_ble_eq_true rfl) (fun r_14 b1 H locs hw G => ?_)
  refine zAn2 hw ?_
  intro hbs9 h_13
  clear hw
  subst hbs9
  have G : zS T A s.heap s [[zO0 h md (zWyN cr inn k1 1) o pc_ a1_1 a2_2 a3_3 a4_4 a5_5 a6_6], [zAr T 0 a1_1 7 (upd f1 6 (zCh cr inn k1 6))], [zAr T 0 a2_2 7 (upd f2 6 1)], [zAr T 0 a3_3 7 f3], [zAr T 0 a4_4 n4 f4], [zAr T 0 a5_5 n4 f5], [zAr T 0 a6_6 n4 f6], z] _ _ := G
  subst h_13
  refine lv_iconst (v := 1) hx hb dX0_countWays_27 (by decide) ?_
  refine va_mmax hx hb (C.2.2.1.trans hl.1.symm) C.2.2.2.1 (C.2.2.2.2 _ m_ml_RX0_65) (C.2.2.2.2 _ m_st_math_max) (C.2.2.2.2 _ m_ii_math) (C.2.2.2.2 _ m_co_math_max) (Nat.le_of_ble_eq_true rfl) (Nat.le_of_ble_eq_true rfl) (Nat.le_of_ble_eq_true rfl) (Nat.le_of_ble_eq_true rfl) dX0_countWays_28 ?_
  refine lv_topi (fun v_15 ev_15 => ?_)
  subst ev_15
  refine lv_topi (fun y_16 ey_16 => ?_)
  obtain rfl : y_16 = zCh cr inn k1 5 := ey_16
  refine z_ist C G 1 rfl (vp_in_nI (n := 5) (by decide) (by decide)) dX0_countWays_31 (fun H locs G => ?_)
  have G : zS T A s.heap s [[zO0 h md (zWyN cr inn k1 1) o pc_ a1_1 a2_2 a3_3 a4_4 a5_5 a6_6], [zAr T 0 a1_1 7 (upd (upd f1 6 (zCh cr inn k1 6)) 5 (zCh cr inn k1 5))], [zAr T 0 a2_2 7 (upd f2 6 1)], [zAr T 0 a3_3 7 f3], [zAr T 0 a4_4 n4 f4], [zAr T 0 a5_5 n4 f5], [zAr T 0 a6_6 n4 f6], z] _ _ := G
  refine lv_aload_n hx hb dX0_countWays_32 rfl (lv_at hl 1 rfl) ?_
  refine z_get C G clX0 0 rfl 5 (by decide) m_fl_RX0_22 rfl dX0_countWays_33 ?_
  refine lv_iload_n hx hb dX0_countWays_36 rfl (lv_at hl 0 rfl) ?_
  refine lv_aload_n hx hb dX0_countWays_37 rfl (lv_at hl 1 rfl) ?_
  refine z_get C G clX0 0 rfl 1 (by decide) m_fl_RX0_57 rfl dX0_countWays_38 ?_
  refine z_ist C G 2 rfl (vp_in_nI (n := 5) (by decide) (by decide)) dX0_countWays_41 (fun H locs G => ?_)
  have G : zS T A s.heap s [[zO0 h md (zWyN cr inn k1 1) o pc_ a1_1 a2_2 a3_3 a4_4 a5_5 a6_6], [zAr T 0 a1_1 7 (upd (upd f1 6 (zCh cr inn k1 6)) 5 (zCh cr inn k1 5))], [zAr T 0 a2_2 7 (upd (upd f2 6 1) 5 (zWyN cr inn k1 1))], [zAr T 0 a3_3 7 f3], [zAr T 0 a4_4 n4 f4], [zAr T 0 a5_5 n4 f5], [zAr T 0 a6_6 n4 f6], z] _ _ := G
  refine lv_aload_n hx hb dX0_countWays_42 rfl (lv_at hl 1 rfl) ?_
  refine lv_dup hx hb dX0_countWays_43 rfl ?_
  refine z_get C G clX0 0 rfl 1 (by decide) m_fl_RX0_57 rfl dX0_countWays_44 ?_
  refine lv_aload_n hx hb dX0_countWays_47 rfl (lv_at hl 1 rfl) ?_
  refine z_get C G clX0 0 rfl 4 (by decide) m_fl_RX0_18 rfl dX0_countWays_48 ?_
  refine lv_iload_n hx hb dX0_countWays_51 rfl (lv_at hl 0 rfl) ?_
  refine z_ild C G 1 rfl (vp_in_nI (n := 5) (by decide) (by decide)) dX0_countWays_52 ?_
  refine lv_topi (fun v_17 ev_17 => ?_)
  have ev_17 : v_17 = zCh cr inn k1 5 := ev_17
  subst ev_17
  refine lv_imul hx hb dX0_countWays_53 ?_
  refine lv_topi (fun y_18 ey_18 => ?_)
  obtain rfl : y_18 = zWyN cr inn k1 2 := ey_18
  refine z_put C G clX0 0 rfl 1 (by decide) m_fl_RX0_57 rfl rfl rfl (Nat.le_of_ble_eq_true rfl) dX0_countWays_54 (fun H locs G => ?_)
  have G : zS T A s.heap s [[zO0 h md (zWyN cr inn k1 2) o pc_ a1_1 a2_2 a3_3 a4_4 a5_5 a6_6], [zAr T 0 a1_1 7 (upd (upd f1 6 (zCh cr inn k1 6)) 5 (zCh cr inn k1 5))], [zAr T 0 a2_2 7 (upd (upd f2 6 1) 5 (zWyN cr inn k1 1))], [zAr T 0 a3_3 7 f3], [zAr T 0 a4_4 n4 f4], [zAr T 0 a5_5 n4 f5], [zAr T 0 a6_6 n4 f6], z] _ _ := G
  refine lv_iinc (v := 4) (lv' := [(2, .int 4), (0, .ref h), (1, .ref o)]) hx hb dX0_countWays_57 hl (k := 0) rfl (by decide) (by decide) (zLvf_h rfl) (fun ls hl => ?_)
  refine lv_goto (tgt := 13) hx hb dX0_countWays_60 (by decide) ?_
  refine lv_iload_n hx hb dX0_countWays_13 rfl (lv_at hl 0 rfl) ?_
  refine lv_if_lt (tgt := 63) hx hb dX0_countWays_14 (by decide) (fun q => absurd q (by decide)) (fun _ => ?_)
  refine lv_aload_n hx hb dX0_countWays_17 rfl (lv_at hl 1 rfl) ?_
  refine z_get C G clX0 0 rfl 4 (by decide) m_fl_RX0_18 rfl dX0_countWays_18 ?_
  refine lv_iload_n hx hb dX0_countWays_21 rfl (lv_at hl 0 rfl) ?_
  refine lv_aload_n hx hb dX0_countWays_22 rfl (lv_at hl 2 rfl) ?_
  refine lv_iload_n hx hb dX0_countWays_23 rfl (lv_at hl 0 rfl) ?_
  refine z_Vi (bc := [z]) (br := [[zO0 h md (zWyN cr inn k1 2) o pc_ a1_1 a2_2 a3_3 a4_4 a5_5 a6_6], [zAr T 0 a1_1 7 (upd (upd f1 6 (zCh cr inn k1 6)) 5 (zCh cr inn k1 5))], [zAr T 0 a2_2 7 (upd (upd f2 6 1) 5 (zWyN cr inn k1 1))], [zAr T 0 a3_3 7 f3], [zAr T 0 a4_4 n4 f4], [zAr T 0 a5_5 n4 f5], [zAr T 0 a6_6 n4 f6]]) (As := [.int 4]) (rest := [.int 4, .ref a1_1]) C G (c_waysOut l T o cr inn k1 k2 k3 k4 z 4 hz) (kV_RX0_61 C.2.2.2.2 (Nat.le_of_ble_eq_true rfl) (Nat.le_of_ble_eq_true rfl)) [7] [7] rfl rfl (ci := 4) (qc := (RX4, TX4, 6)) rfl rfl (List.mem_flatten.mpr ⟨_, List.mem_of_getElem? (i := 0) rfl, (bLand_mem hz).choose_spec⟩) rfl rfl hl.1 dX0_countWays_24 (Nat.le_of_ble_eq_true rfl) (Nat.le_of_ble_eq_true rfl) (fun r_20 b1 H locs hw G => ?_)
  refine zAn2 hw ?_
  intro hbs9 h_19
  clear hw
  subst hbs9
  have G : zS T A s.heap s [[zO0 h md (zWyN cr inn k1 2) o pc_ a1_1 a2_2 a3_3 a4_4 a5_5 a6_6], [zAr T 0 a1_1 7 (upd (upd f1 6 (zCh cr inn k1 6)) 5 (zCh cr inn k1 5))], [zAr T 0 a2_2 7 (upd (upd f2 6 1) 5 (zWyN cr inn k1 1))], [zAr T 0 a3_3 7 f3], [zAr T 0 a4_4 n4 f4], [zAr T 0 a5_5 n4 f5], [zAr T 0 a6_6 n4 f6], z] _ _ := G
  subst h_19
  refine lv_iconst (v := 1) hx hb dX0_countWays_27 (by decide) ?_
  refine va_mmax hx hb (C.2.2.1.trans hl.1.symm) C.2.2.2.1 (C.2.2.2.2 _ m_ml_RX0_65) (C.2.2.2.2 _ m_st_math_max) (C.2.2.2.2 _ m_ii_math) (C.2.2.2.2 _ m_co_math_max) (Nat.le_of_ble_eq_true rfl) (Nat.le_of_ble_eq_true rfl) (Nat.le_of_ble_eq_true rfl) (Nat.le_of_ble_eq_true rfl) dX0_countWays_28 ?_
  refine lv_topi (fun v_21 ev_21 => ?_)
  subst ev_21
  refine lv_topi (fun y_22 ey_22 => ?_)
  obtain rfl : y_22 = zCh cr inn k1 4 := ey_22
  refine z_ist C G 1 rfl (vp_in_nI (n := 4) (by decide) (by decide)) dX0_countWays_31 (fun H locs G => ?_)
  have G : zS T A s.heap s [[zO0 h md (zWyN cr inn k1 2) o pc_ a1_1 a2_2 a3_3 a4_4 a5_5 a6_6], [zAr T 0 a1_1 7 (upd (upd (upd f1 6 (zCh cr inn k1 6)) 5 (zCh cr inn k1 5)) 4 (zCh cr inn k1 4))], [zAr T 0 a2_2 7 (upd (upd f2 6 1) 5 (zWyN cr inn k1 1))], [zAr T 0 a3_3 7 f3], [zAr T 0 a4_4 n4 f4], [zAr T 0 a5_5 n4 f5], [zAr T 0 a6_6 n4 f6], z] _ _ := G
  refine lv_aload_n hx hb dX0_countWays_32 rfl (lv_at hl 1 rfl) ?_
  refine z_get C G clX0 0 rfl 5 (by decide) m_fl_RX0_22 rfl dX0_countWays_33 ?_
  refine lv_iload_n hx hb dX0_countWays_36 rfl (lv_at hl 0 rfl) ?_
  refine lv_aload_n hx hb dX0_countWays_37 rfl (lv_at hl 1 rfl) ?_
  refine z_get C G clX0 0 rfl 1 (by decide) m_fl_RX0_57 rfl dX0_countWays_38 ?_
  refine z_ist C G 2 rfl (vp_in_nI (n := 4) (by decide) (by decide)) dX0_countWays_41 (fun H locs G => ?_)
  have G : zS T A s.heap s [[zO0 h md (zWyN cr inn k1 2) o pc_ a1_1 a2_2 a3_3 a4_4 a5_5 a6_6], [zAr T 0 a1_1 7 (upd (upd (upd f1 6 (zCh cr inn k1 6)) 5 (zCh cr inn k1 5)) 4 (zCh cr inn k1 4))], [zAr T 0 a2_2 7 (upd (upd (upd f2 6 1) 5 (zWyN cr inn k1 1)) 4 (zWyN cr inn k1 2))], [zAr T 0 a3_3 7 f3], [zAr T 0 a4_4 n4 f4], [zAr T 0 a5_5 n4 f5], [zAr T 0 a6_6 n4 f6], z] _ _ := G
  refine lv_aload_n hx hb dX0_countWays_42 rfl (lv_at hl 1 rfl) ?_
  refine lv_dup hx hb dX0_countWays_43 rfl ?_
  refine z_get C G clX0 0 rfl 1 (by decide) m_fl_RX0_57 rfl dX0_countWays_44 ?_
  refine lv_aload_n hx hb dX0_countWays_47 rfl (lv_at hl 1 rfl) ?_
  refine z_get C G clX0 0 rfl 4 (by decide) m_fl_RX0_18 rfl dX0_countWays_48 ?_
  refine lv_iload_n hx hb dX0_countWays_51 rfl (lv_at hl 0 rfl) ?_
  refine z_ild C G 1 rfl (vp_in_nI (n := 4) (by decide) (by decide)) dX0_countWays_52 ?_
  refine lv_topi (fun v_23 ev_23 => ?_)
  have ev_23 : v_23 = zCh cr inn k1 4 := ev_23
  subst ev_23
  refine lv_imul hx hb dX0_countWays_53 ?_
  refine lv_topi (fun y_24 ey_24 => ?_)
  obtain rfl : y_24 = zWyN cr inn k1 3 := ey_24
  refine z_put C G clX0 0 rfl 1 (by decide) m_fl_RX0_57 rfl rfl rfl (Nat.le_of_ble_eq_true rfl) dX0_countWays_54 (fun H locs G => ?_)
  have G : zS T A s.heap s [[zO0 h md (zWyN cr inn k1 3) o pc_ a1_1 a2_2 a3_3 a4_4 a5_5 a6_6], [zAr T 0 a1_1 7 (upd (upd (upd f1 6 (zCh cr inn k1 6)) 5 (zCh cr inn k1 5)) 4 (zCh cr inn k1 4))], [zAr T 0 a2_2 7 (upd (upd (upd f2 6 1) 5 (zWyN cr inn k1 1)) 4 (zWyN cr inn k1 2))], [zAr T 0 a3_3 7 f3], [zAr T 0 a4_4 n4 f4], [zAr T 0 a5_5 n4 f5], [zAr T 0 a6_6 n4 f6], z] _ _ := G
  refine lv_iinc (v := 3) (lv' := [(2, .int 3), (0, .ref h), (1, .ref o)]) hx hb dX0_countWays_57 hl (k := 0) rfl (by decide) (by decide) (zLvf_h rfl) (fun ls hl => ?_)
  refine lv_goto (tgt := 13) hx hb dX0_countWays_60 (by decide) ?_
  refine lv_iload_n hx hb dX0_countWays_13 rfl (lv_at hl 0 rfl) ?_
  refine lv_if_lt (tgt := 63) hx hb dX0_countWays_14 (by decide) (fun q => absurd q (by decide)) (fun _ => ?_)
  refine lv_aload_n hx hb dX0_countWays_17 rfl (lv_at hl 1 rfl) ?_
  refine z_get C G clX0 0 rfl 4 (by decide) m_fl_RX0_18 rfl dX0_countWays_18 ?_
  refine lv_iload_n hx hb dX0_countWays_21 rfl (lv_at hl 0 rfl) ?_
  refine lv_aload_n hx hb dX0_countWays_22 rfl (lv_at hl 2 rfl) ?_
  refine lv_iload_n hx hb dX0_countWays_23 rfl (lv_at hl 0 rfl) ?_
  refine z_Vi (bc := [z]) (br := [[zO0 h md (zWyN cr inn k1 3) o pc_ a1_1 a2_2 a3_3 a4_4 a5_5 a6_6], [zAr T 0 a1_1 7 (upd (upd (upd f1 6 (zCh cr inn k1 6)) 5 (zCh cr inn k1 5)) 4 (zCh cr inn k1 4))], [zAr T 0 a2_2 7 (upd (upd (upd f2 6 1) 5 (zWyN cr inn k1 1)) 4 (zWyN cr inn k1 2))], [zAr T 0 a3_3 7 f3], [zAr T 0 a4_4 n4 f4], [zAr T 0 a5_5 n4 f5], [zAr T 0 a6_6 n4 f6]]) (As := [.int 3]) (rest := [.int 3, .ref a1_1]) C G (c_waysOut l T o cr inn k1 k2 k3 k4 z 3 hz) (kV_RX0_61 C.2.2.2.2 (Nat.le_of_ble_eq_true rfl) (Nat.le_of_ble_eq_true rfl)) [7] [7] rfl rfl (ci := 4) (qc := (RX4, TX4, 6)) rfl rfl (List.mem_flatten.mpr ⟨_, List.mem_of_getElem? (i := 0) rfl, (bLand_mem hz).choose_spec⟩) rfl rfl hl.1 dX0_countWays_24 (Nat.le_of_ble_eq_true rfl) (Nat.le_of_ble_eq_true rfl) (fun r_26 b1 H locs hw G => ?_)
  refine zAn2 hw ?_
  intro hbs9 h_25
  clear hw
  subst hbs9
  have G : zS T A s.heap s [[zO0 h md (zWyN cr inn k1 3) o pc_ a1_1 a2_2 a3_3 a4_4 a5_5 a6_6], [zAr T 0 a1_1 7 (upd (upd (upd f1 6 (zCh cr inn k1 6)) 5 (zCh cr inn k1 5)) 4 (zCh cr inn k1 4))], [zAr T 0 a2_2 7 (upd (upd (upd f2 6 1) 5 (zWyN cr inn k1 1)) 4 (zWyN cr inn k1 2))], [zAr T 0 a3_3 7 f3], [zAr T 0 a4_4 n4 f4], [zAr T 0 a5_5 n4 f5], [zAr T 0 a6_6 n4 f6], z] _ _ := G
  subst h_25
  refine lv_iconst (v := 1) hx hb dX0_countWays_27 (by decide) ?_
  refine va_mmax hx hb (C.2.2.1.trans hl.1.symm) C.2.2.2.1 (C.2.2.2.2 _ m_ml_RX0_65) (C.2.2.2.2 _ m_st_math_max) (C.2.2.2.2 _ m_ii_math) (C.2.2.2.2 _ m_co_math_max) (Nat.le_of_ble_eq_true rfl) (Nat.le_of_ble_eq_true rfl) (Nat.le_of_ble_eq_true rfl) (Nat.le_of_ble_eq_true rfl) dX0_countWays_28 ?_
  refine lv_topi (fun v_27 ev_27 => ?_)
  subst ev_27
  refine lv_topi (fun y_28 ey_28 => ?_)
  obtain rfl : y_28 = zCh cr inn k1 3 := ey_28
  refine z_ist C G 1 rfl (vp_in_nI (n := 3) (by decide) (by decide)) dX0_countWays_31 (fun H locs G => ?_)
  have G : zS T A s.heap s [[zO0 h md (zWyN cr inn k1 3) o pc_ a1_1 a2_2 a3_3 a4_4 a5_5 a6_6], [zAr T 0 a1_1 7 (upd (upd (upd (upd f1 6 (zCh cr inn k1 6)) 5 (zCh cr inn k1 5)) 4 (zCh cr inn k1 4)) 3 (zCh cr inn k1 3))], [zAr T 0 a2_2 7 (upd (upd (upd f2 6 1) 5 (zWyN cr inn k1 1)) 4 (zWyN cr inn k1 2))], [zAr T 0 a3_3 7 f3], [zAr T 0 a4_4 n4 f4], [zAr T 0 a5_5 n4 f5], [zAr T 0 a6_6 n4 f6], z] _ _ := G
  refine lv_aload_n hx hb dX0_countWays_32 rfl (lv_at hl 1 rfl) ?_
  refine z_get C G clX0 0 rfl 5 (by decide) m_fl_RX0_22 rfl dX0_countWays_33 ?_
  refine lv_iload_n hx hb dX0_countWays_36 rfl (lv_at hl 0 rfl) ?_
  refine lv_aload_n hx hb dX0_countWays_37 rfl (lv_at hl 1 rfl) ?_
  refine z_get C G clX0 0 rfl 1 (by decide) m_fl_RX0_57 rfl dX0_countWays_38 ?_
  refine z_ist C G 2 rfl (vp_in_nI (n := 3) (by decide) (by decide)) dX0_countWays_41 (fun H locs G => ?_)
  have G : zS T A s.heap s [[zO0 h md (zWyN cr inn k1 3) o pc_ a1_1 a2_2 a3_3 a4_4 a5_5 a6_6], [zAr T 0 a1_1 7 (upd (upd (upd (upd f1 6 (zCh cr inn k1 6)) 5 (zCh cr inn k1 5)) 4 (zCh cr inn k1 4)) 3 (zCh cr inn k1 3))], [zAr T 0 a2_2 7 (upd (upd (upd (upd f2 6 1) 5 (zWyN cr inn k1 1)) 4 (zWyN cr inn k1 2)) 3 (zWyN cr inn k1 3))], [zAr T 0 a3_3 7 f3], [zAr T 0 a4_4 n4 f4], [zAr T 0 a5_5 n4 f5], [zAr T 0 a6_6 n4 f6], z] _ _ := G
  refine lv_aload_n hx hb dX0_countWays_42 rfl (lv_at hl 1 rfl) ?_
  refine lv_dup hx hb dX0_countWays_43 rfl ?_
  refine z_get C G clX0 0 rfl 1 (by decide) m_fl_RX0_57 rfl dX0_countWays_44 ?_
  refine lv_aload_n hx hb dX0_countWays_47 rfl (lv_at hl 1 rfl) ?_
  refine z_get C G clX0 0 rfl 4 (by decide) m_fl_RX0_18 rfl dX0_countWays_48 ?_
  refine lv_iload_n hx hb dX0_countWays_51 rfl (lv_at hl 0 rfl) ?_
  refine z_ild C G 1 rfl (vp_in_nI (n := 3) (by decide) (by decide)) dX0_countWays_52 ?_
  refine lv_topi (fun v_29 ev_29 => ?_)
  have ev_29 : v_29 = zCh cr inn k1 3 := ev_29
  subst ev_29
  refine lv_imul hx hb dX0_countWays_53 ?_
  refine lv_topi (fun y_30 ey_30 => ?_)
  obtain rfl : y_30 = zWyN cr inn k1 4 := ey_30
  refine z_put C G clX0 0 rfl 1 (by decide) m_fl_RX0_57 rfl rfl rfl (Nat.le_of_ble_eq_true rfl) dX0_countWays_54 (fun H locs G => ?_)
  have G : zS T A s.heap s [[zO0 h md (zWyN cr inn k1 4) o pc_ a1_1 a2_2 a3_3 a4_4 a5_5 a6_6], [zAr T 0 a1_1 7 (upd (upd (upd (upd f1 6 (zCh cr inn k1 6)) 5 (zCh cr inn k1 5)) 4 (zCh cr inn k1 4)) 3 (zCh cr inn k1 3))], [zAr T 0 a2_2 7 (upd (upd (upd (upd f2 6 1) 5 (zWyN cr inn k1 1)) 4 (zWyN cr inn k1 2)) 3 (zWyN cr inn k1 3))], [zAr T 0 a3_3 7 f3], [zAr T 0 a4_4 n4 f4], [zAr T 0 a5_5 n4 f5], [zAr T 0 a6_6 n4 f6], z] _ _ := G
  refine lv_iinc (v := 2) (lv' := [(2, .int 2), (0, .ref h), (1, .ref o)]) hx hb dX0_countWays_57 hl (k := 0) rfl (by decide) (by decide) (zLvf_h rfl) (fun ls hl => ?_)
  refine lv_goto (tgt := 13) hx hb dX0_countWays_60 (by decide) ?_
  refine lv_iload_n hx hb dX0_countWays_13 rfl (lv_at hl 0 rfl) ?_
  refine lv_if_lt (tgt := 63) hx hb dX0_countWays_14 (by decide) (fun q => absurd q (by decide)) (fun _ => ?_)
  refine lv_aload_n hx hb dX0_countWays_17 rfl (lv_at hl 1 rfl) ?_
  refine z_get C G clX0 0 rfl 4 (by decide) m_fl_RX0_18 rfl dX0_countWays_18 ?_
  refine lv_iload_n hx hb dX0_countWays_21 rfl (lv_at hl 0 rfl) ?_
  refine lv_aload_n hx hb dX0_countWays_22 rfl (lv_at hl 2 rfl) ?_
  refine lv_iload_n hx hb dX0_countWays_23 rfl (lv_at hl 0 rfl) ?_
  refine z_Vi (bc := [z]) (br := [[zO0 h md (zWyN cr inn k1 4) o pc_ a1_1 a2_2 a3_3 a4_4 a5_5 a6_6], [zAr T 0 a1_1 7 (upd (upd (upd (upd f1 6 (zCh cr inn k1 6)) 5 (zCh cr inn k1 5)) 4 (zCh cr inn k1 4)) 3 (zCh cr inn k1 3))], [zAr T 0 a2_2 7 (upd (upd (upd (upd f2 6 1) 5 (zWyN cr inn k1 1)) 4 (zWyN cr inn k1 2)) 3 (zWyN cr inn k1 3))], [zAr T 0 a3_3 7 f3], [zAr T 0 a4_4 n4 f4], [zAr T 0 a5_5 n4 f5], [zAr T 0 a6_6 n4 f6]]) (As := [.int 2]) (rest := [.int 2, .ref a1_1]) C G (c_waysOut l T o cr inn k1 k2 k3 k4 z 2 hz) (kV_RX0_61 C.2.2.2.2 (Nat.le_of_ble_eq_true rfl) (Nat.le_of_ble_eq_true rfl)) [7] [7] rfl rfl (ci := 4) (qc := (RX4, TX4, 6)) rfl rfl (List.mem_flatten.mpr ⟨_, List.mem_of_getElem? (i := 0) rfl, (bLand_mem hz).choose_spec⟩) rfl rfl hl.1 dX0_countWays_24 (Nat.le_of_ble_eq_true rfl) (Nat.le_of_ble_eq_true rfl) (fun r_32 b1 H locs hw G => ?_)
  refine zAn2 hw ?_
  intro hbs9 h_31
  clear hw
  subst hbs9
  have G : zS T A s.heap s [[zO0 h md (zWyN cr inn k1 4) o pc_ a1_1 a2_2 a3_3 a4_4 a5_5 a6_6], [zAr T 0 a1_1 7 (upd (upd (upd (upd f1 6 (zCh cr inn k1 6)) 5 (zCh cr inn k1 5)) 4 (zCh cr inn k1 4)) 3 (zCh cr inn k1 3))], [zAr T 0 a2_2 7 (upd (upd (upd (upd f2 6 1) 5 (zWyN cr inn k1 1)) 4 (zWyN cr inn k1 2)) 3 (zWyN cr inn k1 3))], [zAr T 0 a3_3 7 f3], [zAr T 0 a4_4 n4 f4], [zAr T 0 a5_5 n4 f5], [zAr T 0 a6_6 n4 f6], z] _ _ := G
  subst h_31
  refine lv_iconst (v := 1) hx hb dX0_countWays_27 (by decide) ?_
  refine va_mmax hx hb (C.2.2.1.trans hl.1.symm) C.2.2.2.1 (C.2.2.2.2 _ m_ml_RX0_65) (C.2.2.2.2 _ m_st_math_max) (C.2.2.2.2 _ m_ii_math) (C.2.2.2.2 _ m_co_math_max) (Nat.le_of_ble_eq_true rfl) (Nat.le_of_ble_eq_true rfl) (Nat.le_of_ble_eq_true rfl) (Nat.le_of_ble_eq_true rfl) dX0_countWays_28 ?_
  refine lv_topi (fun v_33 ev_33 => ?_)
  subst ev_33
  refine lv_topi (fun y_34 ey_34 => ?_)
  obtain rfl : y_34 = zCh cr inn k1 2 := ey_34
  refine z_ist C G 1 rfl (vp_in_nI (n := 2) (by decide) (by decide)) dX0_countWays_31 (fun H locs G => ?_)
  have G : zS T A s.heap s [[zO0 h md (zWyN cr inn k1 4) o pc_ a1_1 a2_2 a3_3 a4_4 a5_5 a6_6], [zAr T 0 a1_1 7 (upd (upd (upd (upd (upd f1 6 (zCh cr inn k1 6)) 5 (zCh cr inn k1 5)) 4 (zCh cr inn k1 4)) 3 (zCh cr inn k1 3)) 2 (zCh cr inn k1 2))], [zAr T 0 a2_2 7 (upd (upd (upd (upd f2 6 1) 5 (zWyN cr inn k1 1)) 4 (zWyN cr inn k1 2)) 3 (zWyN cr inn k1 3))], [zAr T 0 a3_3 7 f3], [zAr T 0 a4_4 n4 f4], [zAr T 0 a5_5 n4 f5], [zAr T 0 a6_6 n4 f6], z] _ _ := G
  refine lv_aload_n hx hb dX0_countWays_32 rfl (lv_at hl 1 rfl) ?_
  refine z_get C G clX0 0 rfl 5 (by decide) m_fl_RX0_22 rfl dX0_countWays_33 ?_
  refine lv_iload_n hx hb dX0_countWays_36 rfl (lv_at hl 0 rfl) ?_
  refine lv_aload_n hx hb dX0_countWays_37 rfl (lv_at hl 1 rfl) ?_
  refine z_get C G clX0 0 rfl 1 (by decide) m_fl_RX0_57 rfl dX0_countWays_38 ?_
  refine z_ist C G 2 rfl (vp_in_nI (n := 2) (by decide) (by decide)) dX0_countWays_41 (fun H locs G => ?_)
  have G : zS T A s.heap s [[zO0 h md (zWyN cr inn k1 4) o pc_ a1_1 a2_2 a3_3 a4_4 a5_5 a6_6], [zAr T 0 a1_1 7 (upd (upd (upd (upd (upd f1 6 (zCh cr inn k1 6)) 5 (zCh cr inn k1 5)) 4 (zCh cr inn k1 4)) 3 (zCh cr inn k1 3)) 2 (zCh cr inn k1 2))], [zAr T 0 a2_2 7 (upd (upd (upd (upd (upd f2 6 1) 5 (zWyN cr inn k1 1)) 4 (zWyN cr inn k1 2)) 3 (zWyN cr inn k1 3)) 2 (zWyN cr inn k1 4))], [zAr T 0 a3_3 7 f3], [zAr T 0 a4_4 n4 f4], [zAr T 0 a5_5 n4 f5], [zAr T 0 a6_6 n4 f6], z] _ _ := G
  refine lv_aload_n hx hb dX0_countWays_42 rfl (lv_at hl 1 rfl) ?_
  refine lv_dup hx hb dX0_countWays_43 rfl ?_
  refine z_get C G clX0 0 rfl 1 (by decide) m_fl_RX0_57 rfl dX0_countWays_44 ?_
  refine lv_aload_n hx hb dX0_countWays_47 rfl (lv_at hl 1 rfl) ?_
  refine z_get C G clX0 0 rfl 4 (by decide) m_fl_RX0_18 rfl dX0_countWays_48 ?_
  refine lv_iload_n hx hb dX0_countWays_51 rfl (lv_at hl 0 rfl) ?_
  refine z_ild C G 1 rfl (vp_in_nI (n := 2) (by decide) (by decide)) dX0_countWays_52 ?_
  refine lv_topi (fun v_35 ev_35 => ?_)
  have ev_35 : v_35 = zCh cr inn k1 2 := ev_35
  subst ev_35
  refine lv_imul hx hb dX0_countWays_53 ?_
  refine lv_topi (fun y_36 ey_36 => ?_)
  obtain rfl : y_36 = zWyN cr inn k1 5 := ey_36
  refine z_put C G clX0 0 rfl 1 (by decide) m_fl_RX0_57 rfl rfl rfl (Nat.le_of_ble_eq_true rfl) dX0_countWays_54 (fun H locs G => ?_)
  have G : zS T A s.heap s [[zO0 h md (zWyN cr inn k1 5) o pc_ a1_1 a2_2 a3_3 a4_4 a5_5 a6_6], [zAr T 0 a1_1 7 (upd (upd (upd (upd (upd f1 6 (zCh cr inn k1 6)) 5 (zCh cr inn k1 5)) 4 (zCh cr inn k1 4)) 3 (zCh cr inn k1 3)) 2 (zCh cr inn k1 2))], [zAr T 0 a2_2 7 (upd (upd (upd (upd (upd f2 6 1) 5 (zWyN cr inn k1 1)) 4 (zWyN cr inn k1 2)) 3 (zWyN cr inn k1 3)) 2 (zWyN cr inn k1 4))], [zAr T 0 a3_3 7 f3], [zAr T 0 a4_4 n4 f4], [zAr T 0 a5_5 n4 f5], [zAr T 0 a6_6 n4 f6], z] _ _ := G
  refine lv_iinc (v := 1) (lv' := [(2, .int 1), (0, .ref h), (1, .ref o)]) hx hb dX0_countWays_57 hl (k := 0) rfl (by decide) (by decide) (zLvf_h rfl) (fun ls hl => ?_)
  refine lv_goto (tgt := 13) hx hb dX0_countWays_60 (by decide) ?_
  refine lv_iload_n hx hb dX0_countWays_13 rfl (lv_at hl 0 rfl) ?_
  refine lv_if_lt (tgt := 63) hx hb dX0_countWays_14 (by decide) (fun q => absurd q (by decide)) (fun _ => ?_)
  refine lv_aload_n hx hb dX0_countWays_17 rfl (lv_at hl 1 rfl) ?_
  refine z_get C G clX0 0 rfl 4 (by decide) m_fl_RX0_18 rfl dX0_countWays_18 ?_
  refine lv_iload_n hx hb dX0_countWays_21 rfl (lv_at hl 0 rfl) ?_
  refine lv_aload_n hx hb dX0_countWays_22 rfl (lv_at hl 2 rfl) ?_
  refine lv_iload_n hx hb dX0_countWays_23 rfl (lv_at hl 0 rfl) ?_
  refine z_Vi (bc := [z]) (br := [[zO0 h md (zWyN cr inn k1 5) o pc_ a1_1 a2_2 a3_3 a4_4 a5_5 a6_6], [zAr T 0 a1_1 7 (upd (upd (upd (upd (upd f1 6 (zCh cr inn k1 6)) 5 (zCh cr inn k1 5)) 4 (zCh cr inn k1 4)) 3 (zCh cr inn k1 3)) 2 (zCh cr inn k1 2))], [zAr T 0 a2_2 7 (upd (upd (upd (upd (upd f2 6 1) 5 (zWyN cr inn k1 1)) 4 (zWyN cr inn k1 2)) 3 (zWyN cr inn k1 3)) 2 (zWyN cr inn k1 4))], [zAr T 0 a3_3 7 f3], [zAr T 0 a4_4 n4 f4], [zAr T 0 a5_5 n4 f5], [zAr T 0 a6_6 n4 f6]]) (As := [.int 1]) (rest := [.int 1, .ref a1_1]) C G (c_waysOut l T o cr inn k1 k2 k3 k4 z 1 hz) (kV_RX0_61 C.2.2.2.2 (Nat.le_of_ble_eq_true rfl) (Nat.le_of_ble_eq_true rfl)) [7] [7] rfl rfl (ci := 4) (qc := (RX4, TX4, 6)) rfl rfl (List.mem_flatten.mpr ⟨_, List.mem_of_getElem? (i := 0) rfl, (bLand_mem hz).choose_spec⟩) rfl rfl hl.1 dX0_countWays_24 (Nat.le_of_ble_eq_true rfl) (Nat.le_of_ble_eq_true rfl) (fun r_38 b1 H locs hw G => ?_)
  refine zAn2 hw ?_
  intro hbs9 h_37
  clear hw
  subst hbs9
  have G : zS T A s.heap s [[zO0 h md (zWyN cr inn k1 5) o pc_ a1_1 a2_2 a3_3 a4_4 a5_5 a6_6], [zAr T 0 a1_1 7 (upd (upd (upd (upd (upd f1 6 (zCh cr inn k1 6)) 5 (zCh cr inn k1 5)) 4 (zCh cr inn k1 4)) 3 (zCh cr inn k1 3)) 2 (zCh cr inn k1 2))], [zAr T 0 a2_2 7 (upd (upd (upd (upd (upd f2 6 1) 5 (zWyN cr inn k1 1)) 4 (zWyN cr inn k1 2)) 3 (zWyN cr inn k1 3)) 2 (zWyN cr inn k1 4))], [zAr T 0 a3_3 7 f3], [zAr T 0 a4_4 n4 f4], [zAr T 0 a5_5 n4 f5], [zAr T 0 a6_6 n4 f6], z] _ _ := G
  subst h_37
  refine lv_iconst (v := 1) hx hb dX0_countWays_27 (by decide) ?_
  refine va_mmax hx hb (C.2.2.1.trans hl.1.symm) C.2.2.2.1 (C.2.2.2.2 _ m_ml_RX0_65) (C.2.2.2.2 _ m_st_math_max) (C.2.2.2.2 _ m_ii_math) (C.2.2.2.2 _ m_co_math_max) (Nat.le_of_ble_eq_true rfl) (Nat.le_of_ble_eq_true rfl) (Nat.le_of_ble_eq_true rfl) (Nat.le_of_ble_eq_true rfl) dX0_countWays_28 ?_
  refine lv_topi (fun v_39 ev_39 => ?_)
  subst ev_39
  refine lv_topi (fun y_40 ey_40 => ?_)
  obtain rfl : y_40 = zCh cr inn k1 1 := ey_40
  refine z_ist C G 1 rfl (vp_in_nI (n := 1) (by decide) (by decide)) dX0_countWays_31 (fun H locs G => ?_)
  have G : zS T A s.heap s [[zO0 h md (zWyN cr inn k1 5) o pc_ a1_1 a2_2 a3_3 a4_4 a5_5 a6_6], [zAr T 0 a1_1 7 (upd (upd (upd (upd (upd (upd f1 6 (zCh cr inn k1 6)) 5 (zCh cr inn k1 5)) 4 (zCh cr inn k1 4)) 3 (zCh cr inn k1 3)) 2 (zCh cr inn k1 2)) 1 (zCh cr inn k1 1))], [zAr T 0 a2_2 7 (upd (upd (upd (upd (upd f2 6 1) 5 (zWyN cr inn k1 1)) 4 (zWyN cr inn k1 2)) 3 (zWyN cr inn k1 3)) 2 (zWyN cr inn k1 4))], [zAr T 0 a3_3 7 f3], [zAr T 0 a4_4 n4 f4], [zAr T 0 a5_5 n4 f5], [zAr T 0 a6_6 n4 f6], z] _ _ := G
  refine lv_aload_n hx hb dX0_countWays_32 rfl (lv_at hl 1 rfl) ?_
  refine z_get C G clX0 0 rfl 5 (by decide) m_fl_RX0_22 rfl dX0_countWays_33 ?_
  refine lv_iload_n hx hb dX0_countWays_36 rfl (lv_at hl 0 rfl) ?_
  refine lv_aload_n hx hb dX0_countWays_37 rfl (lv_at hl 1 rfl) ?_
  refine z_get C G clX0 0 rfl 1 (by decide) m_fl_RX0_57 rfl dX0_countWays_38 ?_
  refine z_ist C G 2 rfl (vp_in_nI (n := 1) (by decide) (by decide)) dX0_countWays_41 (fun H locs G => ?_)
  have G : zS T A s.heap s [[zO0 h md (zWyN cr inn k1 5) o pc_ a1_1 a2_2 a3_3 a4_4 a5_5 a6_6], [zAr T 0 a1_1 7 (upd (upd (upd (upd (upd (upd f1 6 (zCh cr inn k1 6)) 5 (zCh cr inn k1 5)) 4 (zCh cr inn k1 4)) 3 (zCh cr inn k1 3)) 2 (zCh cr inn k1 2)) 1 (zCh cr inn k1 1))], [zAr T 0 a2_2 7 (upd (upd (upd (upd (upd (upd f2 6 1) 5 (zWyN cr inn k1 1)) 4 (zWyN cr inn k1 2)) 3 (zWyN cr inn k1 3)) 2 (zWyN cr inn k1 4)) 1 (zWyN cr inn k1 5))], [zAr T 0 a3_3 7 f3], [zAr T 0 a4_4 n4 f4], [zAr T 0 a5_5 n4 f5], [zAr T 0 a6_6 n4 f6], z] _ _ := G
  refine lv_aload_n hx hb dX0_countWays_42 rfl (lv_at hl 1 rfl) ?_
  refine lv_dup hx hb dX0_countWays_43 rfl ?_
  refine z_get C G clX0 0 rfl 1 (by decide) m_fl_RX0_57 rfl dX0_countWays_44 ?_
  refine lv_aload_n hx hb dX0_countWays_47 rfl (lv_at hl 1 rfl) ?_
  refine z_get C G clX0 0 rfl 4 (by decide) m_fl_RX0_18 rfl dX0_countWays_48 ?_
  refine lv_iload_n hx hb dX0_countWays_51 rfl (lv_at hl 0 rfl) ?_
  refine z_ild C G 1 rfl (vp_in_nI (n := 1) (by decide) (by decide)) dX0_countWays_52 ?_
  refine lv_topi (fun v_41 ev_41 => ?_)
  have ev_41 : v_41 = zCh cr inn k1 1 := ev_41
  subst ev_41
  refine lv_imul hx hb dX0_countWays_53 ?_
  refine lv_topi (fun y_42 ey_42 => ?_)
  obtain rfl : y_42 = zWyN cr inn k1 6 := ey_42
  refine z_put C G clX0 0 rfl 1 (by decide) m_fl_RX0_57 rfl rfl rfl (Nat.le_of_ble_eq_true rfl) dX0_countWays_54 (fun H locs G => ?_)
  have G : zS T A s.heap s [[zO0 h md (zWyN cr inn k1 6) o pc_ a1_1 a2_2 a3_3 a4_4 a5_5 a6_6], [zAr T 0 a1_1 7 (upd (upd (upd (upd (upd (upd f1 6 (zCh cr inn k1 6)) 5 (zCh cr inn k1 5)) 4 (zCh cr inn k1 4)) 3 (zCh cr inn k1 3)) 2 (zCh cr inn k1 2)) 1 (zCh cr inn k1 1))], [zAr T 0 a2_2 7 (upd (upd (upd (upd (upd (upd f2 6 1) 5 (zWyN cr inn k1 1)) 4 (zWyN cr inn k1 2)) 3 (zWyN cr inn k1 3)) 2 (zWyN cr inn k1 4)) 1 (zWyN cr inn k1 5))], [zAr T 0 a3_3 7 f3], [zAr T 0 a4_4 n4 f4], [zAr T 0 a5_5 n4 f5], [zAr T 0 a6_6 n4 f6], z] _ _ := G
  refine lv_iinc (v := 0) (lv' := [(2, .int 0), (0, .ref h), (1, .ref o)]) hx hb dX0_countWays_57 hl (k := 0) rfl (by decide) (by decide) (zLvf_h rfl) (fun ls hl => ?_)
  refine lv_goto (tgt := 13) hx hb dX0_countWays_60 (by decide) ?_
  refine lv_iload_n hx hb dX0_countWays_13 rfl (lv_at hl 0 rfl) ?_
  refine lv_if_lt (tgt := 63) hx hb dX0_countWays_14 (by decide) (fun q => absurd q (by decide)) (fun _ => ?_)
  refine lv_aload_n hx hb dX0_countWays_17 rfl (lv_at hl 1 rfl) ?_
  refine z_get C G clX0 0 rfl 4 (by decide) m_fl_RX0_18 rfl dX0_countWays_18 ?_
  refine lv_iload_n hx hb dX0_countWays_21 rfl (lv_at hl 0 rfl) ?_
  refine lv_aload_n hx hb dX0_countWays_22 rfl (lv_at hl 2 rfl) ?_
  refine lv_iload_n hx hb dX0_countWays_23 rfl (lv_at hl 0 rfl) ?_
  refine z_Vi (bc := [z]) (br := [[zO0 h md (zWyN cr inn k1 6) o pc_ a1_1 a2_2 a3_3 a4_4 a5_5 a6_6], [zAr T 0 a1_1 7 (upd (upd (upd (upd (upd (upd f1 6 (zCh cr inn k1 6)) 5 (zCh cr inn k1 5)) 4 (zCh cr inn k1 4)) 3 (zCh cr inn k1 3)) 2 (zCh cr inn k1 2)) 1 (zCh cr inn k1 1))], [zAr T 0 a2_2 7 (upd (upd (upd (upd (upd (upd f2 6 1) 5 (zWyN cr inn k1 1)) 4 (zWyN cr inn k1 2)) 3 (zWyN cr inn k1 3)) 2 (zWyN cr inn k1 4)) 1 (zWyN cr inn k1 5))], [zAr T 0 a3_3 7 f3], [zAr T 0 a4_4 n4 f4], [zAr T 0 a5_5 n4 f5], [zAr T 0 a6_6 n4 f6]]) (As := [.int 0]) (rest := [.int 0, .ref a1_1]) C G (c_waysOut l T o cr inn k1 k2 k3 k4 z 0 hz) (kV_RX0_61 C.2.2.2.2 (Nat.le_of_ble_eq_true rfl) (Nat.le_of_ble_eq_true rfl)) [7] [7] rfl rfl (ci := 4) (qc := (RX4, TX4, 6)) rfl rfl (List.mem_flatten.mpr ⟨_, List.mem_of_getElem? (i := 0) rfl, (bLand_mem hz).choose_spec⟩) rfl rfl hl.1 dX0_countWays_24 (Nat.le_of_ble_eq_true rfl) (Nat.le_of_ble_eq_true rfl) (fun r_44 b1 H locs hw G => ?_)
  refine zAn2 hw ?_
  intro hbs9 h_43
  clear hw
  subst hbs9
  have G : zS T A s.heap s [[zO0 h md (zWyN cr inn k1 6) o pc_ a1_1 a2_2 a3_3 a4_4 a5_5 a6_6], [zAr T 0 a1_1 7 (upd (upd (upd (upd (upd (upd f1 6 (zCh cr inn k1 6)) 5 (zCh cr inn k1 5)) 4 (zCh cr inn k1 4)) 3 (zCh cr inn k1 3)) 2 (zCh cr inn k1 2)) 1 (zCh cr inn k1 1))], [zAr T 0 a2_2 7 (upd (upd (upd (upd (upd (upd f2 6 1) 5 (zWyN cr inn k1 1)) 4 (zWyN cr inn k1 2)) 3 (zWyN cr inn k1 3)) 2 (zWyN cr inn k1 4)) 1 (zWyN cr inn k1 5))], [zAr T 0 a3_3 7 f3], [zAr T 0 a4_4 n4 f4], [zAr T 0 a5_5 n4 f5], [zAr T 0 a6_6 n4 f6], z] _ _ := G
  subst h_43
  refine lv_iconst (v := 1) hx hb dX0_countWays_27 (by decide) ?_
  refine va_mmax hx hb (C.2.2.1.trans hl.1.symm) C.2.2.2.1 (C.2.2.2.2 _ m_ml_RX0_65) (C.2.2.2.2 _ m_st_math_max) (C.2.2.2.2 _ m_ii_math) (C.2.2.2.2 _ m_co_math_max) (Nat.le_of_ble_eq_true rfl) (Nat.le_of_ble_eq_true rfl) (Nat.le_of_ble_eq_true rfl) (Nat.le_of_ble_eq_true rfl) dX0_countWays_28 ?_
  refine lv_topi (fun v_45 ev_45 => ?_)
  subst ev_45
  refine lv_topi (fun y_46 ey_46 => ?_)
  obtain rfl : y_46 = zCh cr inn k1 0 := ey_46
  refine z_ist C G 1 rfl (vp_in_nI (n := 0) (by decide) (by decide)) dX0_countWays_31 (fun H locs G => ?_)
  have G : zS T A s.heap s [[zO0 h md (zWyN cr inn k1 6) o pc_ a1_1 a2_2 a3_3 a4_4 a5_5 a6_6], [zAr T 0 a1_1 7 (upd (upd (upd (upd (upd (upd (upd f1 6 (zCh cr inn k1 6)) 5 (zCh cr inn k1 5)) 4 (zCh cr inn k1 4)) 3 (zCh cr inn k1 3)) 2 (zCh cr inn k1 2)) 1 (zCh cr inn k1 1)) 0 (zCh cr inn k1 0))], [zAr T 0 a2_2 7 (upd (upd (upd (upd (upd (upd f2 6 1) 5 (zWyN cr inn k1 1)) 4 (zWyN cr inn k1 2)) 3 (zWyN cr inn k1 3)) 2 (zWyN cr inn k1 4)) 1 (zWyN cr inn k1 5))], [zAr T 0 a3_3 7 f3], [zAr T 0 a4_4 n4 f4], [zAr T 0 a5_5 n4 f5], [zAr T 0 a6_6 n4 f6], z] _ _ := G
  refine lv_aload_n hx hb dX0_countWays_32 rfl (lv_at hl 1 rfl) ?_
  refine z_get C G clX0 0 rfl 5 (by decide) m_fl_RX0_22 rfl dX0_countWays_33 ?_
  refine lv_iload_n hx hb dX0_countWays_36 rfl (lv_at hl 0 rfl) ?_
  refine lv_aload_n hx hb dX0_countWays_37 rfl (lv_at hl 1 rfl) ?_
  refine z_get C G clX0 0 rfl 1 (by decide) m_fl_RX0_57 rfl dX0_countWays_38 ?_
  refine z_ist C G 2 rfl (vp_in_nI (n := 0) (by decide) (by decide)) dX0_countWays_41 (fun H locs G => ?_)
  have G : zS T A s.heap s [[zO0 h md (zWyN cr inn k1 6) o pc_ a1_1 a2_2 a3_3 a4_4 a5_5 a6_6], [zAr T 0 a1_1 7 (upd (upd (upd (upd (upd (upd (upd f1 6 (zCh cr inn k1 6)) 5 (zCh cr inn k1 5)) 4 (zCh cr inn k1 4)) 3 (zCh cr inn k1 3)) 2 (zCh cr inn k1 2)) 1 (zCh cr inn k1 1)) 0 (zCh cr inn k1 0))], [zAr T 0 a2_2 7 (upd (upd (upd (upd (upd (upd (upd f2 6 1) 5 (zWyN cr inn k1 1)) 4 (zWyN cr inn k1 2)) 3 (zWyN cr inn k1 3)) 2 (zWyN cr inn k1 4)) 1 (zWyN cr inn k1 5)) 0 (zWyN cr inn k1 6))], [zAr T 0 a3_3 7 f3], [zAr T 0 a4_4 n4 f4], [zAr T 0 a5_5 n4 f5], [zAr T 0 a6_6 n4 f6], z] _ _ := G
  refine lv_aload_n hx hb dX0_countWays_42 rfl (lv_at hl 1 rfl) ?_
  refine lv_dup hx hb dX0_countWays_43 rfl ?_
  refine z_get C G clX0 0 rfl 1 (by decide) m_fl_RX0_57 rfl dX0_countWays_44 ?_
  refine lv_aload_n hx hb dX0_countWays_47 rfl (lv_at hl 1 rfl) ?_
  refine z_get C G clX0 0 rfl 4 (by decide) m_fl_RX0_18 rfl dX0_countWays_48 ?_
  refine lv_iload_n hx hb dX0_countWays_51 rfl (lv_at hl 0 rfl) ?_
  refine z_ild C G 1 rfl (vp_in_nI (n := 0) (by decide) (by decide)) dX0_countWays_52 ?_
  refine lv_topi (fun v_47 ev_47 => ?_)
  have ev_47 : v_47 = zCh cr inn k1 0 := ev_47
  subst ev_47
  refine lv_imul hx hb dX0_countWays_53 ?_
  refine lv_topi (fun y_48 ey_48 => ?_)
  obtain rfl : y_48 = zWyN cr inn k1 7 := ey_48
  refine z_put C G clX0 0 rfl 1 (by decide) m_fl_RX0_57 rfl rfl rfl (Nat.le_of_ble_eq_true rfl) dX0_countWays_54 (fun H locs G => ?_)
  have G : zS T A s.heap s [[zO0 h md (zWyN cr inn k1 7) o pc_ a1_1 a2_2 a3_3 a4_4 a5_5 a6_6], [zAr T 0 a1_1 7 (upd (upd (upd (upd (upd (upd (upd f1 6 (zCh cr inn k1 6)) 5 (zCh cr inn k1 5)) 4 (zCh cr inn k1 4)) 3 (zCh cr inn k1 3)) 2 (zCh cr inn k1 2)) 1 (zCh cr inn k1 1)) 0 (zCh cr inn k1 0))], [zAr T 0 a2_2 7 (upd (upd (upd (upd (upd (upd (upd f2 6 1) 5 (zWyN cr inn k1 1)) 4 (zWyN cr inn k1 2)) 3 (zWyN cr inn k1 3)) 2 (zWyN cr inn k1 4)) 1 (zWyN cr inn k1 5)) 0 (zWyN cr inn k1 6))], [zAr T 0 a3_3 7 f3], [zAr T 0 a4_4 n4 f4], [zAr T 0 a5_5 n4 f5], [zAr T 0 a6_6 n4 f6], z] _ _ := G
  refine lv_iinc (v := (-1)) (lv' := [(2, .int (-1)), (0, .ref h), (1, .ref o)]) hx hb dX0_countWays_57 hl (k := 0) rfl (by decide) (by decide) (zLvf_h rfl) (fun ls hl => ?_)
  refine lv_goto (tgt := 13) hx hb dX0_countWays_60 (by decide) ?_
  refine lv_iload_n hx hb dX0_countWays_13 rfl (lv_at hl 0 rfl) ?_
  refine lv_if_lt (tgt := 63) hx hb dX0_countWays_14 (by decide) (fun _ => ?_) (fun q => absurd (by decide) q)
  refine lv_aload_n hx hb dX0_countWays_63 rfl (lv_at hl 1 rfl) ?_
  refine lv_aload_n hx hb dX0_countWays_64 rfl (lv_at hl 1 rfl) ?_
  refine z_get C G clX0 0 rfl 1 (by decide) m_fl_RX0_57 rfl dX0_countWays_65 ?_
  refine lv_iconst (v := 3) hx hb dX0_countWays_68 (by decide) ?_
  refine lv_ishl hx hb dX0_countWays_69 ?_
  refine lv_ldc (v := 131072) hx hb C.2.2.2.1 (C.2.2.2.2 _ m_ko_RX0_71) dX0_countWays_70 ?_
  refine va_mmin hx hb (C.2.2.1.trans hl.1.symm) C.2.2.2.1 (C.2.2.2.2 _ m_ml_RX0_72) (C.2.2.2.2 _ m_st_math_min) (C.2.2.2.2 _ m_ii_math) (C.2.2.2.2 _ m_co_math_min) (Nat.le_of_ble_eq_true rfl) (Nat.le_of_ble_eq_true rfl) (Nat.le_of_ble_eq_true rfl) (Nat.le_of_ble_eq_true rfl) dX0_countWays_72 ?_
  refine lv_topi (fun v_49 ev_49 => ?_)
  subst ev_49
  refine lv_topi (fun y_50 ey_50 => ?_)
  obtain rfl : y_50 = zPl cr inn k1 := ey_50
  refine z_put C G clX0 0 rfl 3 (by decide) m_fl_RX0_75 rfl rfl rfl (Nat.le_of_ble_eq_true rfl) dX0_countWays_75 (fun H locs G => ?_)
  have G : zS T A s.heap s [[zO0 h md (zWyN cr inn k1 7) o (zPl cr inn k1) a1_1 a2_2 a3_3 a4_4 a5_5 a6_6], [zAr T 0 a1_1 7 (upd (upd (upd (upd (upd (upd (upd f1 6 (zCh cr inn k1 6)) 5 (zCh cr inn k1 5)) 4 (zCh cr inn k1 4)) 3 (zCh cr inn k1 3)) 2 (zCh cr inn k1 2)) 1 (zCh cr inn k1 1)) 0 (zCh cr inn k1 0))], [zAr T 0 a2_2 7 (upd (upd (upd (upd (upd (upd (upd f2 6 1) 5 (zWyN cr inn k1 1)) 4 (zWyN cr inn k1 2)) 3 (zWyN cr inn k1 3)) 2 (zWyN cr inn k1 4)) 1 (zWyN cr inn k1 5)) 0 (zWyN cr inn k1 6))], [zAr T 0 a3_3 7 f3], [zAr T 0 a4_4 n4 f4], [zAr T 0 a5_5 n4 f5], [zAr T 0 a6_6 n4 f6], z] _ _ := G
  have hw_51 : bWays T h o md (zWyN cr inn k1 7) (zPl cr inn k1) (upd (upd (upd (upd (upd (upd (upd f1 6 (zCh cr inn k1 6)) 5 (zCh cr inn k1 5)) 4 (zCh cr inn k1 4)) 3 (zCh cr inn k1 3)) 2 (zCh cr inn k1 2)) 1 (zCh cr inn k1 1)) 0 (zCh cr inn k1 0)) (upd (upd (upd (upd (upd (upd (upd f2 6 1) 5 (zWyN cr inn k1 1)) 4 (zWyN cr inn k1 2)) 3 (zWyN cr inn k1 3)) 2 (zWyN cr inn k1 4)) 1 (zWyN cr inn k1 5)) 0 (zWyN cr inn k1 6)) f3 f4 f5 f6 n4 [zO0 h md (zWyN cr inn k1 7) o (zPl cr inn k1) a1_1 a2_2 a3_3 a4_4 a5_5 a6_6, zAr T 0 a1_1 7 (upd (upd (upd (upd (upd (upd (upd f1 6 (zCh cr inn k1 6)) 5 (zCh cr inn k1 5)) 4 (zCh cr inn k1 4)) 3 (zCh cr inn k1 3)) 2 (zCh cr inn k1 2)) 1 (zCh cr inn k1 1)) 0 (zCh cr inn k1 0)), zAr T 0 a2_2 7 (upd (upd (upd (upd (upd (upd (upd f2 6 1) 5 (zWyN cr inn k1 1)) 4 (zWyN cr inn k1 2)) 3 (zWyN cr inn k1 3)) 2 (zWyN cr inn k1 4)) 1 (zWyN cr inn k1 5)) 0 (zWyN cr inn k1 6)), zAr T 0 a3_3 7 f3, zAr T 0 a4_4 n4 f4, zAr T 0 a5_5 n4 f5, zAr T 0 a6_6 n4 f6] := ⟨a1_1, a2_2, a3_3, a4_4, a5_5, a6_6, rfl⟩
  have G : zS T A s.heap s [[zO0 h md (zWyN cr inn k1 7) o (zPl cr inn k1) a1_1 a2_2 a3_3 a4_4 a5_5 a6_6, zAr T 0 a1_1 7 (upd (upd (upd (upd (upd (upd (upd f1 6 (zCh cr inn k1 6)) 5 (zCh cr inn k1 5)) 4 (zCh cr inn k1 4)) 3 (zCh cr inn k1 3)) 2 (zCh cr inn k1 2)) 1 (zCh cr inn k1 1)) 0 (zCh cr inn k1 0)), zAr T 0 a2_2 7 (upd (upd (upd (upd (upd (upd (upd f2 6 1) 5 (zWyN cr inn k1 1)) 4 (zWyN cr inn k1 2)) 3 (zWyN cr inn k1 3)) 2 (zWyN cr inn k1 4)) 1 (zWyN cr inn k1 5)) 0 (zWyN cr inn k1 6)), zAr T 0 a3_3 7 f3, zAr T 0 a4_4 n4 f4, zAr T 0 a5_5 n4 f5, zAr T 0 a6_6 n4 f6], z] _ _ := G.re rfl
  exact z_back hQz_ (z_vret C hr hlocks G (Nat.le_of_ble_eq_true rfl) (Nat.le_of_ble_eq_true rfl) dX0_countWays_78 ⟨([zO0 h md (zWyN cr inn k1 7) o (zPl cr inn k1) a1_1 a2_2 a3_3 a4_4 a5_5 a6_6, zAr T 0 a1_1 7 (upd (upd (upd (upd (upd (upd (upd f1 6 (zCh cr inn k1 6)) 5 (zCh cr inn k1 5)) 4 (zCh cr inn k1 4)) 3 (zCh cr inn k1 3)) 2 (zCh cr inn k1 2)) 1 (zCh cr inn k1 1)) 0 (zCh cr inn k1 0)), zAr T 0 a2_2 7 (upd (upd (upd (upd (upd (upd (upd f2 6 1) 5 (zWyN cr inn k1 1)) 4 (zWyN cr inn k1 2)) 3 (zWyN cr inn k1 3)) 2 (zWyN cr inn k1 4)) 1 (zWyN cr inn k1 5)) 0 (zWyN cr inn k1 6)), zAr T 0 a3_3 7 f3, zAr T 0 a4_4 n4 f4, zAr T 0 a5_5 n4 f5, zAr T 0 a6_6 n4 f6]), (upd (upd (upd (upd (upd (upd (upd f1 6 (zCh cr inn k1 6)) 5 (zCh cr inn k1 5)) 4 (zCh cr inn k1 4)) 3 (zCh cr inn k1 3)) 2 (zCh cr inn k1 2)) 1 (zCh cr inn k1 1)) 0 (zCh cr inn k1 0)), (upd (upd (upd (upd (upd (upd (upd f2 6 1) 5 (zWyN cr inn k1 1)) 4 (zWyN cr inn k1 2)) 3 (zWyN cr inn k1 3)) 2 (zWyN cr inn k1 4)) 1 (zWyN cr inn k1 5)) 0 (zWyN cr inn k1 6)), rfl, hw_51⟩)
set_option maxHeartbeats 4000000 in
set_option maxRecDepth 100000 in
/-- grow -/
theorem c_Ways_grow (l : Launch) (T : zTy) (h : Nat) (la : Nat) (md : Int32) (wy : Int32) (pc_ : Int32) (f1 : Nat → Int32) (f2 : Nat → Int32) (f3 : Nat → Int32) (f4 : Nat → Int32) (f5 : Nat → Int32) (f6 : Nat → Int32) (n4 : Nat) (ww : va_W) (hww : bWays T h la md wy pc_ f1 f2 f3 f4 f5 f6 n4 ww) (hpw : zPw n4) (hpl : pc_.toInt ≤ 131072) : zMv l T yX0_grow cX0_grow 2 1 3 (6 * (zNl n4 pc_ - n4)) [.ref h] [ww] (fun bs => ∃ (w2 : va_W) (g4 : Nat → Int32) (g5 : Nat → Int32) (g6 : Nat → Int32), bs = [w2] ∧ bWays T h la md wy pc_ f1 f2 f3 g4 g5 g6 (zNl n4 pc_) w2) := by
  refine zMv_of (own := RX0) (by decide) rfl (Nat.le_of_ble_eq_true rfl) ?_
  intro p e s m args below meth c A ls C hr hlocks hnm hAe G hl
  refine zHide (fun Qz_ hQz_ => ?_)
  have hx := C.1
  have hb := C.2.1
  have hl : lv_has ls 2 [(0, .ref h)] := hl
  have hn4 := zPw_le hpw
  refine lv_aload_n hx hb dX0_grow_0 rfl (lv_at hl 0 rfl) ?_
  refine zEx6 hww ?_
  intro a1_1 a2_2 a3_3 a4_4 a5_5 a6_6 hbs9
  clear hww
  subst hbs9
  have G : zS T A s.heap s [[zO0 h md wy la pc_ a1_1 a2_2 a3_3 a4_4 a5_5 a6_6], [zAr T 0 a1_1 7 f1], [zAr T 0 a2_2 7 f2], [zAr T 0 a3_3 7 f3], [zAr T 0 a4_4 n4 f4], [zAr T 0 a5_5 n4 f5], [zAr T 0 a6_6 n4 f6]] _ _ := G.re rfl
  refine z_get C G clX0 0 rfl 8 (by decide) m_fl_RX0_31 rfl dX0_grow_1 ?_
  refine z_alen C G 5 0 rfl (v := nI n4) rfl rfl dX0_grow_4 ?_
  refine lv_aload_n hx hb dX0_grow_5 rfl (lv_at hl 0 rfl) ?_
  refine z_get C G clX0 0 rfl 3 (by decide) m_fl_RX0_75 rfl dX0_grow_6 ?_
  refine lv_icmp_lt (tgt := 13) hx hb dX0_grow_9 (by decide) (fun c_7 => ?_) (fun c_7 => ?_)
  · have c_7n : (n4 : Int) < pc_.toInt := by have q := (fa_lt _ _).mp c_7; rw [nI_toInt (n := n4) (by omega)] at q; exact q
    have hng : ¬ pc_.toInt ≤ (n4 : Int) := by omega
    have hE : zNl n4 pc_ = zLenN pc_ 12 64 := by unfold zNl; rw [if_neg hng]
    have hR := zNl_room hpw hpl hng
    refine lv_bipush (v := 64) hx hb dX0_grow_13 (by decide) ?_
    refine lv_istore_n (lv' := [(1, .int 64), (0, .ref h)]) hx hb dX0_grow_15 rfl hl (by decide) (zLvf_h rfl) (fun ls hl => ?_)
    have hw_8 : bWays T h la md wy pc_ f1 f2 f3 f4 f5 f6 n4 [zO0 h md wy la pc_ a1_1 a2_2 a3_3 a4_4 a5_5 a6_6, zAr T 0 a1_1 7 f1, zAr T 0 a2_2 7 f2, zAr T 0 a3_3 7 f3, zAr T 0 a4_4 n4 f4, zAr T 0 a5_5 n4 f5, zAr T 0 a6_6 n4 f6] := ⟨a1_1, a2_2, a3_3, a4_4, a5_5, a6_6, rfl⟩
    have G : zS T A s.heap s [[zO0 h md wy la pc_ a1_1 a2_2 a3_3 a4_4 a5_5 a6_6, zAr T 0 a1_1 7 f1, zAr T 0 a2_2 7 f2, zAr T 0 a3_3 7 f3, zAr T 0 a4_4 n4 f4, zAr T 0 a5_5 n4 f5, zAr T 0 a6_6 n4 f6]] _ _ := G.re rfl
    refine z_lp2 (T := T) 16 (fun (k : Nat) (L : Nat) => [[zO0 h md wy la pc_ a1_1 a2_2 a3_3 a4_4 a5_5 a6_6, zAr T 0 a1_1 7 f1, zAr T 0 a2_2 7 f2, zAr T 0 a3_3 7 f3, zAr T 0 a4_4 n4 f4, zAr T 0 a5_5 n4 f5, zAr T 0 a6_6 n4 f6]]) (fun (k : Nat) (L : Nat) => [(1, .int (nI L)), (0, .ref h)]) (fun (k : Nat) (L : Nat) => k ≤ 11 ∧ L = 64 * 2 ^ k ∧ zLenN pc_ 12 64 = zLenN pc_ (12 - k) L ∧ L ≤ 131072) (fun (k : Nat) (L : Nat) => 12 - k) ?_ 0 64 (show 0 ≤ 11 ∧ 64 = 64 * 2 ^ 0 ∧ zLenN pc_ 12 64 = zLenN pc_ (12 - 0) 64 ∧ 64 ≤ 131072 from ⟨by omega, rfl, rfl, by omega⟩) G (lv_sub hl [0, 1] rfl)
    intro k L hI9 ih_16 H locs ls G hl
    replace hI9 : k ≤ 11 ∧ L = 64 * 2 ^ k ∧ zLenN pc_ 12 64 = zLenN pc_ (12 - k) L ∧ L ≤ 131072 := hI9
    refine zAn4 hI9 ?_
    intro hk hL hG hL2
    clear hI9
    replace G : zS T A s.heap s [[zO0 h md wy la pc_ a1_1 a2_2 a3_3 a4_4 a5_5 a6_6, zAr T 0 a1_1 7 f1, zAr T 0 a2_2 7 f2, zAr T 0 a3_3 7 f3, zAr T 0 a4_4 n4 f4, zAr T 0 a5_5 n4 f5, zAr T 0 a6_6 n4 f6]] _ _ := G
    replace hl : lv_has ls 2 [(1, .int (nI L)), (0, .ref h)] := hl
    refine lv_iload_n hx hb dX0_grow_16 rfl (lv_at hl 0 rfl) ?_
    refine lv_aload_n hx hb dX0_grow_17 rfl (lv_at hl 1 rfl) ?_
    have G : zS T A s.heap s [[zO0 h md wy la pc_ a1_1 a2_2 a3_3 a4_4 a5_5 a6_6], [zAr T 0 a1_1 7 f1], [zAr T 0 a2_2 7 f2], [zAr T 0 a3_3 7 f3], [zAr T 0 a4_4 n4 f4], [zAr T 0 a5_5 n4 f5], [zAr T 0 a6_6 n4 f6]] _ _ := G.re rfl
    refine z_get C G clX0 0 rfl 3 (by decide) m_fl_RX0_75 rfl dX0_grow_18 ?_
    refine lv_icmp_ge (tgt := 37) hx hb dX0_grow_21 (by decide) (fun c_9 => ?_) (fun c_9 => ?_)
    · have c_9n : pc_.toInt ≤ (L : Int) := by have q := (fa_le _ _).mp c_9; rw [nI_toInt (n := L) (by omega)] at q; exact q
      have hF : zLenN pc_ 12 64 = L := by rw [hG, show 12 - k = (11 - k) + 1 by omega, zLenN, if_neg (by omega)]
      have hF2 : zNl n4 pc_ = L := hE.trans hF
      refine lv_aload_n hx hb dX0_grow_37 rfl (lv_at hl 1 rfl) ?_
      refine lv_iload_n hx hb dX0_grow_38 rfl (lv_at hl 0 rfl) ?_
      refine z_newa C G 0 (ty := .int) (N' := L) (a0 := (L, .inl (fun _ => 0))) rfl z_uint m_ar_int rfl (fun _ => rfl) (nI_pos (by omega)) (nI_clamp (by omega)) (by show L * 4 ≤ 536870912; omega) (by show _ ≤ 3; omega) (by show _ ≤ 6 * (zNl n4 pc_ - n4); omega) dX0_grow_39 (fun q_10 H G => ?_)
      have G : zS T A s.heap s [[zO0 h md wy la pc_ a1_1 a2_2 a3_3 a4_4 a5_5 a6_6], [zAr T 0 a1_1 7 f1], [zAr T 0 a2_2 7 f2], [zAr T 0 a3_3 7 f3], [zAr T 0 a4_4 n4 f4], [zAr T 0 a5_5 n4 f5], [zAr T 0 a6_6 n4 f6], [zAr T 0 q_10 L (fun _ => 0)]] _ _ := G
      refine z_put C G clX0 0 rfl 7 (by decide) m_fl_RX0_28 rfl rfl rfl (Nat.le_of_ble_eq_true rfl) dX0_grow_41 (fun H locs G => ?_)
      have G : zS T A s.heap s [[zO0 h md wy la pc_ a1_1 a2_2 a3_3 q_10 a5_5 a6_6], [zAr T 0 a1_1 7 f1], [zAr T 0 a2_2 7 f2], [zAr T 0 a3_3 7 f3], [zAr T 0 a4_4 n4 f4], [zAr T 0 a5_5 n4 f5], [zAr T 0 a6_6 n4 f6], [zAr T 0 q_10 L (fun _ => 0)]] _ _ := G
      refine lv_aload_n hx hb dX0_grow_44 rfl (lv_at hl 1 rfl) ?_
      refine lv_iload_n hx hb dX0_grow_45 rfl (lv_at hl 0 rfl) ?_
      refine z_newa C G 0 (ty := .int) (N' := L) (a0 := (L, .inl (fun _ => 0))) rfl z_uint m_ar_int rfl (fun _ => rfl) (nI_pos (by omega)) (nI_clamp (by omega)) (by show L * 4 ≤ 536870912; omega) (by show _ ≤ 3; omega) (by show _ ≤ 6 * (zNl n4 pc_ - n4); omega) dX0_grow_46 (fun q_11 H G => ?_)
      have G : zS T A s.heap s [[zO0 h md wy la pc_ a1_1 a2_2 a3_3 q_10 a5_5 a6_6], [zAr T 0 a1_1 7 f1], [zAr T 0 a2_2 7 f2], [zAr T 0 a3_3 7 f3], [zAr T 0 a4_4 n4 f4], [zAr T 0 a5_5 n4 f5], [zAr T 0 a6_6 n4 f6], [zAr T 0 q_10 L (fun _ => 0)], [zAr T 0 q_11 L (fun _ => 0)]] _ _ := G
      refine z_put C G clX0 0 rfl 8 (by decide) m_fl_RX0_31 rfl rfl rfl (Nat.le_of_ble_eq_true rfl) dX0_grow_48 (fun H locs G => ?_)
      have G : zS T A s.heap s [[zO0 h md wy la pc_ a1_1 a2_2 a3_3 q_10 q_11 a6_6], [zAr T 0 a1_1 7 f1], [zAr T 0 a2_2 7 f2], [zAr T 0 a3_3 7 f3], [zAr T 0 a4_4 n4 f4], [zAr T 0 a5_5 n4 f5], [zAr T 0 a6_6 n4 f6], [zAr T 0 q_10 L (fun _ => 0)], [zAr T 0 q_11 L (fun _ => 0)]] _ _ := G
      refine lv_aload_n hx hb dX0_grow_51 rfl (lv_at hl 1 rfl) ?_
      refine lv_iload_n hx hb dX0_grow_52 rfl (lv_at hl 0 rfl) ?_
      refine z_newa C G 0 (ty := .int) (N' := L) (a0 := (L, .inl (fun _ => 0))) rfl z_uint m_ar_int rfl (fun _ => rfl) (nI_pos (by omega)) (nI_clamp (by omega)) (by show L * 4 ≤ 536870912; omega) (by show _ ≤ 3; omega) (by show _ ≤ 6 * (zNl n4 pc_ - n4); omega) dX0_grow_53 (fun q_12 H G => ?_)
      have G : zS T A s.heap s [[zO0 h md wy la pc_ a1_1 a2_2 a3_3 q_10 q_11 a6_6], [zAr T 0 a1_1 7 f1], [zAr T 0 a2_2 7 f2], [zAr T 0 a3_3 7 f3], [zAr T 0 a4_4 n4 f4], [zAr T 0 a5_5 n4 f5], [zAr T 0 a6_6 n4 f6], [zAr T 0 q_10 L (fun _ => 0)], [zAr T 0 q_11 L (fun _ => 0)], [zAr T 0 q_12 L (fun _ => 0)]] _ _ := G
      refine z_put C G clX0 0 rfl 9 (by decide) m_fl_RX0_34 rfl rfl rfl (Nat.le_of_ble_eq_true rfl) dX0_grow_55 (fun H locs G => ?_)
      have G : zS T A s.heap s [[zO0 h md wy la pc_ a1_1 a2_2 a3_3 q_10 q_11 q_12], [zAr T 0 a1_1 7 f1], [zAr T 0 a2_2 7 f2], [zAr T 0 a3_3 7 f3], [zAr T 0 a4_4 n4 f4], [zAr T 0 a5_5 n4 f5], [zAr T 0 a6_6 n4 f6], [zAr T 0 q_10 L (fun _ => 0)], [zAr T 0 q_11 L (fun _ => 0)], [zAr T 0 q_12 L (fun _ => 0)]] _ _ := G
      have G := G.sub (bs' := [[zO0 h md wy la pc_ a1_1 a2_2 a3_3 q_10 q_11 q_12], [zAr T 0 a1_1 7 f1], [zAr T 0 a2_2 7 f2], [zAr T 0 a3_3 7 f3], [zAr T 0 q_10 L (fun _ => 0)], [zAr T 0 q_11 L (fun _ => 0)], [zAr T 0 q_12 L (fun _ => 0)], [zAr T 0 a4_4 n4 f4], [zAr T 0 a5_5 n4 f5], [zAr T 0 a6_6 n4 f6]]) [0, 1, 2, 3, 7, 8, 9, 4, 5, 6] rfl
      have hw_13 : bWays T h la md wy pc_ f1 f2 f3 (fun _ => 0) (fun _ => 0) (fun _ => 0) L [zO0 h md wy la pc_ a1_1 a2_2 a3_3 q_10 q_11 q_12, zAr T 0 a1_1 7 f1, zAr T 0 a2_2 7 f2, zAr T 0 a3_3 7 f3, zAr T 0 q_10 L (fun _ => 0), zAr T 0 q_11 L (fun _ => 0), zAr T 0 q_12 L (fun _ => 0)] := ⟨a1_1, a2_2, a3_3, q_10, q_11, q_12, rfl⟩
      have G : zS T A s.heap s [[zO0 h md wy la pc_ a1_1 a2_2 a3_3 q_10 q_11 q_12, zAr T 0 a1_1 7 f1, zAr T 0 a2_2 7 f2, zAr T 0 a3_3 7 f3, zAr T 0 q_10 L (fun _ => 0), zAr T 0 q_11 L (fun _ => 0), zAr T 0 q_12 L (fun _ => 0)], [zAr T 0 a4_4 n4 f4], [zAr T 0 a5_5 n4 f5], [zAr T 0 a6_6 n4 f6]] _ _ := G.re rfl
      have G := G.sub (bs' := [[zO0 h md wy la pc_ a1_1 a2_2 a3_3 q_10 q_11 q_12, zAr T 0 a1_1 7 f1, zAr T 0 a2_2 7 f2, zAr T 0 a3_3 7 f3, zAr T 0 q_10 L (fun _ => 0), zAr T 0 q_11 L (fun _ => 0), zAr T 0 q_12 L (fun _ => 0)]]) [0] rfl
      exact z_back hQz_ (z_vret C hr hlocks G (Nat.le_of_ble_eq_true rfl) (by omega) dX0_grow_58 ⟨([zO0 h md wy la pc_ a1_1 a2_2 a3_3 q_10 q_11 q_12, zAr T 0 a1_1 7 f1, zAr T 0 a2_2 7 f2, zAr T 0 a3_3 7 f3, zAr T 0 q_10 L (fun _ => 0), zAr T 0 q_11 L (fun _ => 0), zAr T 0 q_12 L (fun _ => 0)]), (fun _ => 0), (fun _ => 0), (fun _ => 0), rfl, (hF2.symm ▸ hw_13)⟩)
    · have c_9n : ¬ pc_.toInt ≤ (L : Int) := fun q => c_9 ((fa_le _ _).mpr (by rw [nI_toInt (n := L) (by omega)]; exact q))
      refine lv_iload_n hx hb dX0_grow_24 rfl (lv_at hl 0 rfl) ?_
      refine lv_ldc (v := 131072) hx hb C.2.2.2.1 (C.2.2.2.2 _ m_ko_RX0_71) dX0_grow_25 ?_
      refine lv_icmp_ge (tgt := 37) hx hb dX0_grow_27 (by decide) (fun c_14 => ?_) (fun c_14 => ?_)
      · have c_14n : 131072 ≤ L := (nI_leI (a := 131072) (b := L) (by omega) (by omega)).mp c_14
        have hF : zLenN pc_ 12 64 = L := by rw [hG, show 12 - k = (11 - k) + 1 by omega, zLenN, if_neg (by omega)]
        have hF2 : zNl n4 pc_ = L := hE.trans hF
        refine lv_aload_n hx hb dX0_grow_37 rfl (lv_at hl 1 rfl) ?_
        refine lv_iload_n hx hb dX0_grow_38 rfl (lv_at hl 0 rfl) ?_
        refine z_newa C G 0 (ty := .int) (N' := L) (a0 := (L, .inl (fun _ => 0))) rfl z_uint m_ar_int rfl (fun _ => rfl) (nI_pos (by omega)) (nI_clamp (by omega)) (by show L * 4 ≤ 536870912; omega) (by show _ ≤ 3; omega) (by show _ ≤ 6 * (zNl n4 pc_ - n4); omega) dX0_grow_39 (fun q_15 H G => ?_)
        have G : zS T A s.heap s [[zO0 h md wy la pc_ a1_1 a2_2 a3_3 a4_4 a5_5 a6_6], [zAr T 0 a1_1 7 f1], [zAr T 0 a2_2 7 f2], [zAr T 0 a3_3 7 f3], [zAr T 0 a4_4 n4 f4], [zAr T 0 a5_5 n4 f5], [zAr T 0 a6_6 n4 f6], [zAr T 0 q_15 L (fun _ => 0)]] _ _ := G
        refine z_put C G clX0 0 rfl 7 (by decide) m_fl_RX0_28 rfl rfl rfl (Nat.le_of_ble_eq_true rfl) dX0_grow_41 (fun H locs G => ?_)
        have G : zS T A s.heap s [[zO0 h md wy la pc_ a1_1 a2_2 a3_3 q_15 a5_5 a6_6], [zAr T 0 a1_1 7 f1], [zAr T 0 a2_2 7 f2], [zAr T 0 a3_3 7 f3], [zAr T 0 a4_4 n4 f4], [zAr T 0 a5_5 n4 f5], [zAr T 0 a6_6 n4 f6], [zAr T 0 q_15 L (fun _ => 0)]] _ _ := G
        refine lv_aload_n hx hb dX0_grow_44 rfl (lv_at hl 1 rfl) ?_
        refine lv_iload_n hx hb dX0_grow_45 rfl (lv_at hl 0 rfl) ?_
        refine z_newa C G 0 (ty := .int) (N' := L) (a0 := (L, .inl (fun _ => 0))) rfl z_uint m_ar_int rfl (fun _ => rfl) (nI_pos (by omega)) (nI_clamp (by omega)) (by show L * 4 ≤ 536870912; omega) (by show _ ≤ 3; omega) (by show _ ≤ 6 * (zNl n4 pc_ - n4); omega) dX0_grow_46 (fun q_16 H G => ?_)
        have G : zS T A s.heap s [[zO0 h md wy la pc_ a1_1 a2_2 a3_3 q_15 a5_5 a6_6], [zAr T 0 a1_1 7 f1], [zAr T 0 a2_2 7 f2], [zAr T 0 a3_3 7 f3], [zAr T 0 a4_4 n4 f4], [zAr T 0 a5_5 n4 f5], [zAr T 0 a6_6 n4 f6], [zAr T 0 q_15 L (fun _ => 0)], [zAr T 0 q_16 L (fun _ => 0)]] _ _ := G
        refine z_put C G clX0 0 rfl 8 (by decide) m_fl_RX0_31 rfl rfl rfl (Nat.le_of_ble_eq_true rfl) dX0_grow_48 (fun H locs G => ?_)
        have G : zS T A s.heap s [[zO0 h md wy la pc_ a1_1 a2_2 a3_3 q_15 q_16 a6_6], [zAr T 0 a1_1 7 f1], [zAr T 0 a2_2 7 f2], [zAr T 0 a3_3 7 f3], [zAr T 0 a4_4 n4 f4], [zAr T 0 a5_5 n4 f5], [zAr T 0 a6_6 n4 f6], [zAr T 0 q_15 L (fun _ => 0)], [zAr T 0 q_16 L (fun _ => 0)]] _ _ := G
        refine lv_aload_n hx hb dX0_grow_51 rfl (lv_at hl 1 rfl) ?_
        refine lv_iload_n hx hb dX0_grow_52 rfl (lv_at hl 0 rfl) ?_
        refine z_newa C G 0 (ty := .int) (N' := L) (a0 := (L, .inl (fun _ => 0))) rfl z_uint m_ar_int rfl (fun _ => rfl) (nI_pos (by omega)) (nI_clamp (by omega)) (by show L * 4 ≤ 536870912; omega) (by show _ ≤ 3; omega) (by show _ ≤ 6 * (zNl n4 pc_ - n4); omega) dX0_grow_53 (fun q_17 H G => ?_)
        have G : zS T A s.heap s [[zO0 h md wy la pc_ a1_1 a2_2 a3_3 q_15 q_16 a6_6], [zAr T 0 a1_1 7 f1], [zAr T 0 a2_2 7 f2], [zAr T 0 a3_3 7 f3], [zAr T 0 a4_4 n4 f4], [zAr T 0 a5_5 n4 f5], [zAr T 0 a6_6 n4 f6], [zAr T 0 q_15 L (fun _ => 0)], [zAr T 0 q_16 L (fun _ => 0)], [zAr T 0 q_17 L (fun _ => 0)]] _ _ := G
        refine z_put C G clX0 0 rfl 9 (by decide) m_fl_RX0_34 rfl rfl rfl (Nat.le_of_ble_eq_true rfl) dX0_grow_55 (fun H locs G => ?_)
        have G : zS T A s.heap s [[zO0 h md wy la pc_ a1_1 a2_2 a3_3 q_15 q_16 q_17], [zAr T 0 a1_1 7 f1], [zAr T 0 a2_2 7 f2], [zAr T 0 a3_3 7 f3], [zAr T 0 a4_4 n4 f4], [zAr T 0 a5_5 n4 f5], [zAr T 0 a6_6 n4 f6], [zAr T 0 q_15 L (fun _ => 0)], [zAr T 0 q_16 L (fun _ => 0)], [zAr T 0 q_17 L (fun _ => 0)]] _ _ := G
        have G := G.sub (bs' := [[zO0 h md wy la pc_ a1_1 a2_2 a3_3 q_15 q_16 q_17], [zAr T 0 a1_1 7 f1], [zAr T 0 a2_2 7 f2], [zAr T 0 a3_3 7 f3], [zAr T 0 q_15 L (fun _ => 0)], [zAr T 0 q_16 L (fun _ => 0)], [zAr T 0 q_17 L (fun _ => 0)], [zAr T 0 a4_4 n4 f4], [zAr T 0 a5_5 n4 f5], [zAr T 0 a6_6 n4 f6]]) [0, 1, 2, 3, 7, 8, 9, 4, 5, 6] rfl
        have hw_18 : bWays T h la md wy pc_ f1 f2 f3 (fun _ => 0) (fun _ => 0) (fun _ => 0) L [zO0 h md wy la pc_ a1_1 a2_2 a3_3 q_15 q_16 q_17, zAr T 0 a1_1 7 f1, zAr T 0 a2_2 7 f2, zAr T 0 a3_3 7 f3, zAr T 0 q_15 L (fun _ => 0), zAr T 0 q_16 L (fun _ => 0), zAr T 0 q_17 L (fun _ => 0)] := ⟨a1_1, a2_2, a3_3, q_15, q_16, q_17, rfl⟩
        have G : zS T A s.heap s [[zO0 h md wy la pc_ a1_1 a2_2 a3_3 q_15 q_16 q_17, zAr T 0 a1_1 7 f1, zAr T 0 a2_2 7 f2, zAr T 0 a3_3 7 f3, zAr T 0 q_15 L (fun _ => 0), zAr T 0 q_16 L (fun _ => 0), zAr T 0 q_17 L (fun _ => 0)], [zAr T 0 a4_4 n4 f4], [zAr T 0 a5_5 n4 f5], [zAr T 0 a6_6 n4 f6]] _ _ := G.re rfl
        have G := G.sub (bs' := [[zO0 h md wy la pc_ a1_1 a2_2 a3_3 q_15 q_16 q_17, zAr T 0 a1_1 7 f1, zAr T 0 a2_2 7 f2, zAr T 0 a3_3 7 f3, zAr T 0 q_15 L (fun _ => 0), zAr T 0 q_16 L (fun _ => 0), zAr T 0 q_17 L (fun _ => 0)]]) [0] rfl
        exact z_back hQz_ (z_vret C hr hlocks G (Nat.le_of_ble_eq_true rfl) (by omega) dX0_grow_58 ⟨([zO0 h md wy la pc_ a1_1 a2_2 a3_3 q_15 q_16 q_17, zAr T 0 a1_1 7 f1, zAr T 0 a2_2 7 f2, zAr T 0 a3_3 7 f3, zAr T 0 q_15 L (fun _ => 0), zAr T 0 q_16 L (fun _ => 0), zAr T 0 q_17 L (fun _ => 0)]), (fun _ => 0), (fun _ => 0), (fun _ => 0), rfl, (hF2.symm ▸ hw_18)⟩)
      · have c_14n : ¬ 131072 ≤ L := fun q => c_14 ((nI_leI (a := 131072) (b := L) (by omega) (by omega)).mpr q)
        refine lv_iload_n hx hb dX0_grow_30 rfl (lv_at hl 0 rfl) ?_
        refine lv_iconst (v := 2) hx hb dX0_grow_31 (by decide) ?_
        refine lv_imul hx hb dX0_grow_32 ?_
        refine lv_topi (fun y_19 ey_19 => ?_)
        obtain rfl : y_19 = nI (L * 2) := ey_19.trans (z_imuln L 2 rfl rfl)
        refine lv_istore_n (lv' := [(1, .int (nI (L * 2))), (0, .ref h)]) hx hb dX0_grow_33 rfl hl (by decide) (zLvf_h rfl) (fun ls hl => ?_)
        refine lv_goto (tgt := 16) hx hb dX0_grow_34 (by decide) ?_
        have hw_20 : bWays T h la md wy pc_ f1 f2 f3 f4 f5 f6 n4 [zO0 h md wy la pc_ a1_1 a2_2 a3_3 a4_4 a5_5 a6_6, zAr T 0 a1_1 7 f1, zAr T 0 a2_2 7 f2, zAr T 0 a3_3 7 f3, zAr T 0 a4_4 n4 f4, zAr T 0 a5_5 n4 f5, zAr T 0 a6_6 n4 f6] := ⟨a1_1, a2_2, a3_3, a4_4, a5_5, a6_6, rfl⟩
        have G : zS T A s.heap s [[zO0 h md wy la pc_ a1_1 a2_2 a3_3 a4_4 a5_5 a6_6, zAr T 0 a1_1 7 f1, zAr T 0 a2_2 7 f2, zAr T 0 a3_3 7 f3, zAr T 0 a4_4 n4 f4, zAr T 0 a5_5 n4 f5, zAr T 0 a6_6 n4 f6]] _ _ := G.re rfl
        exact ih_16 (k + 1) (L * 2) (show (k + 1) ≤ 11 ∧ (L * 2) = 64 * 2 ^ (k + 1) ∧ zLenN pc_ 12 64 = zLenN pc_ (12 - (k + 1)) (L * 2) ∧ (L * 2) ≤ 131072 from ⟨z_k11 hk hL (by omega), by rw [hL, Nat.pow_succ]; omega, by rw [hG, show 12 - k = (12 - (k + 1)) + 1 by omega, zLenN, if_pos ⟨by omega, by omega⟩, Nat.mul_comm], z_k11b hk hL (by omega)⟩) (show 12 - (k + 1) < 12 - k from by omega) _ _ ls G (lv_sub hl [0, 1] rfl)
  · have c_7n : ¬ (n4 : Int) < pc_.toInt := fun q => c_7 ((fa_lt _ _).mpr (by rw [nI_toInt (n := n4) (by omega)]; exact q))
    have hw_21 : bWays T h la md wy pc_ f1 f2 f3 f4 f5 f6 n4 [zO0 h md wy la pc_ a1_1 a2_2 a3_3 a4_4 a5_5 a6_6, zAr T 0 a1_1 7 f1, zAr T 0 a2_2 7 f2, zAr T 0 a3_3 7 f3, zAr T 0 a4_4 n4 f4, zAr T 0 a5_5 n4 f5, zAr T 0 a6_6 n4 f6] := ⟨a1_1, a2_2, a3_3, a4_4, a5_5, a6_6, rfl⟩
    have G : zS T A s.heap s [[zO0 h md wy la pc_ a1_1 a2_2 a3_3 a4_4 a5_5 a6_6, zAr T 0 a1_1 7 f1, zAr T 0 a2_2 7 f2, zAr T 0 a3_3 7 f3, zAr T 0 a4_4 n4 f4, zAr T 0 a5_5 n4 f5, zAr T 0 a6_6 n4 f6]] _ _ := G.re rfl
    exact z_back hQz_ (z_vret C hr hlocks G (Nat.le_of_ble_eq_true rfl) (by omega) dX0_grow_12 ⟨([zO0 h md wy la pc_ a1_1 a2_2 a3_3 a4_4 a5_5 a6_6, zAr T 0 a1_1 7 f1, zAr T 0 a2_2 7 f2, zAr T 0 a3_3 7 f3, zAr T 0 a4_4 n4 f4, zAr T 0 a5_5 n4 f5, zAr T 0 a6_6 n4 f6]), f4, f5, f6, rfl, ((show n4 = zNl n4 pc_ from by unfold zNl; rw [if_pos (by omega)]) ▸ hw_21)⟩)
set_option maxHeartbeats 4000000 in
set_option maxRecDepth 100000 in
/-- nextRow -/
theorem c_nextRow (l : Launch) (T : zTy) (h : Nat) (la : Nat) (md : Int32) (wy : Int32) (pc_ : Int32) (f1 : Nat → Int32) (f2 : Nat → Int32) (f3 : Nat → Int32) (f4 : Nat → Int32) (f5 : Nat → Int32) (f6 : Nat → Int32) (n4 : Nat) (ww : va_W) (hww : bWays T h la md wy pc_ f1 f2 f3 f4 f5 f6 n4 ww) : zMv l T yX0_nextRow cX0_nextRow 2 1 0 0 [.ref h] [ww] (fun bs => ∃ (w2 : va_W) (g3 : Nat → Int32), bs = [w2] ∧ bWays T h la md wy pc_ f1 f2 g3 f4 f5 f6 n4 w2) := by
  refine zMv_of (own := RX0) (by decide) rfl (Nat.le_of_ble_eq_true rfl) ?_
  intro p e s m args below meth c A ls C hr hlocks hnm hAe G hl
  refine zHide (fun Qz_ hQz_ => ?_)
  have hx := C.1
  have hb := C.2.1
  have hl : lv_has ls 2 [(0, .ref h)] := hl
  refine lv_bipush (v := 6) hx hb dX0_nextRow_0 (by decide) ?_
  refine lv_istore_n (lv' := [(1, .int 6), (0, .ref h)]) hx hb dX0_nextRow_2 rfl hl (by decide) (zLvf_h rfl) (fun ls hl => ?_)
  refine lv_iload_n hx hb dX0_nextRow_3 rfl (lv_at hl 0 rfl) ?_
  refine lv_if_lt (tgt := 46) hx hb dX0_nextRow_4 (by decide) (fun q => absurd q (by decide)) (fun _ => ?_)
  refine lv_aload_n hx hb dX0_nextRow_7 rfl (lv_at hl 1 rfl) ?_
  refine zEx6 hww ?_
  intro a1_1 a2_2 a3_3 a4_4 a5_5 a6_6 hbs9
  clear hww
  subst hbs9
  have G : zS T A s.heap s [[zO0 h md wy la pc_ a1_1 a2_2 a3_3 a4_4 a5_5 a6_6], [zAr T 0 a1_1 7 f1], [zAr T 0 a2_2 7 f2], [zAr T 0 a3_3 7 f3], [zAr T 0 a4_4 n4 f4], [zAr T 0 a5_5 n4 f5], [zAr T 0 a6_6 n4 f6]] _ _ := G.re rfl
  refine z_get C G clX0 0 rfl 6 (by decide) m_fl_RX0_25 rfl dX0_nextRow_8 ?_
  refine lv_iload_n hx hb dX0_nextRow_11 rfl (lv_at hl 0 rfl) ?_
  refine lv_dup2_11 hx hb dX0_nextRow_12 rfl rfl ?_
  refine z_ild C G 3 rfl (vp_in_nI (n := 6) (by decide) (by decide)) dX0_nextRow_13 ?_
  refine lv_topi (fun v_7 ev_7 => ?_)
  rw [show ((6 : Int32).toNatClampNeg) = 6 from rfl] at ev_7
  subst ev_7
  refine lv_iconst (v := 1) hx hb dX0_nextRow_14 (by decide) ?_
  refine lv_iadd hx hb dX0_nextRow_15 ?_
  refine z_ist C G 3 rfl (vp_in_nI (n := 6) (by decide) (by decide)) dX0_nextRow_16 (fun H locs G => ?_)
  have G : zS T A s.heap s [[zO0 h md wy la pc_ a1_1 a2_2 a3_3 a4_4 a5_5 a6_6], [zAr T 0 a1_1 7 f1], [zAr T 0 a2_2 7 f2], [zAr T 0 a3_3 7 (upd f3 6 ((f3 6) + 1))], [zAr T 0 a4_4 n4 f4], [zAr T 0 a5_5 n4 f5], [zAr T 0 a6_6 n4 f6]] _ _ := G
  refine lv_aload_n hx hb dX0_nextRow_17 rfl (lv_at hl 1 rfl) ?_
  refine z_get C G clX0 0 rfl 6 (by decide) m_fl_RX0_25 rfl dX0_nextRow_18 ?_
  refine lv_iload_n hx hb dX0_nextRow_21 rfl (lv_at hl 0 rfl) ?_
  refine z_ild C G 3 rfl (vp_in_nI (n := 6) (by decide) (by decide)) dX0_nextRow_22 ?_
  refine lv_topi (fun v_8 ev_8 => ?_)
  have ev_8 : v_8 = (f3 6) + 1 := ev_8
  subst ev_8
  refine lv_aload_n hx hb dX0_nextRow_23 rfl (lv_at hl 1 rfl) ?_
  refine z_get C G clX0 0 rfl 4 (by decide) m_fl_RX0_18 rfl dX0_nextRow_24 ?_
  refine lv_iload_n hx hb dX0_nextRow_27 rfl (lv_at hl 0 rfl) ?_
  refine z_ild C G 1 rfl (vp_in_nI (n := 6) (by decide) (by decide)) dX0_nextRow_28 ?_
  refine lv_topi (fun v_9 ev_9 => ?_)
  rw [show ((6 : Int32).toNatClampNeg) = 6 from rfl] at ev_9
  subst ev_9
  refine lv_icmp_ge (tgt := 33) hx hb dX0_nextRow_29 (by decide) (fun c_10 => ?_) (fun c_10 => ?_)
  · have c_10n : (f1 6).toInt ≤ ((f3 6) + 1).toInt := (fa_le _ _).mp c_10
    refine lv_aload_n hx hb dX0_nextRow_33 rfl (lv_at hl 1 rfl) ?_
    refine z_get C G clX0 0 rfl 6 (by decide) m_fl_RX0_25 rfl dX0_nextRow_34 ?_
    refine lv_iload_n hx hb dX0_nextRow_37 rfl (lv_at hl 0 rfl) ?_
    refine lv_iconst (v := 0) hx hb dX0_nextRow_38 (by decide) ?_
    refine z_ist C G 3 rfl (vp_in_nI (n := 6) (by decide) (by decide)) dX0_nextRow_39 (fun H locs G => ?_)
    have G : zS T A s.heap s [[zO0 h md wy la pc_ a1_1 a2_2 a3_3 a4_4 a5_5 a6_6], [zAr T 0 a1_1 7 f1], [zAr T 0 a2_2 7 f2], [zAr T 0 a3_3 7 (upd (upd f3 6 ((f3 6) + 1)) 6 0)], [zAr T 0 a4_4 n4 f4], [zAr T 0 a5_5 n4 f5], [zAr T 0 a6_6 n4 f6]] _ _ := G
    refine lv_iinc (v := 5) (lv' := [(1, .int 5), (0, .ref h)]) hx hb dX0_nextRow_40 hl (k := 0) rfl (by decide) (by decide) (zLvf_h rfl) (fun ls hl => ?_)
    refine lv_goto (tgt := 3) hx hb dX0_nextRow_43 (by decide) ?_
    refine lv_iload_n hx hb dX0_nextRow_3 rfl (lv_at hl 0 rfl) ?_
    refine lv_if_lt (tgt := 46) hx hb dX0_nextRow_4 (by decide) (fun q => absurd q (by decide)) (fun _ => ?_)
    refine lv_aload_n hx hb dX0_nextRow_7 rfl (lv_at hl 1 rfl) ?_
    refine z_get C G clX0 0 rfl 6 (by decide) m_fl_RX0_25 rfl dX0_nextRow_8 ?_
    refine lv_iload_n hx hb dX0_nextRow_11 rfl (lv_at hl 0 rfl) ?_
    refine lv_dup2_11 hx hb dX0_nextRow_12 rfl rfl ?_
    refine z_ild C G 3 rfl (vp_in_nI (n := 5) (by decide) (by decide)) dX0_nextRow_13 ?_
    refine lv_topi (fun v_11 ev_11 => ?_)
    rw [show ((5 : Int32).toNatClampNeg) = 5 from rfl] at ev_11
    subst ev_11
    refine lv_iconst (v := 1) hx hb dX0_nextRow_14 (by decide) ?_
    refine lv_iadd hx hb dX0_nextRow_15 ?_
    refine z_ist C G 3 rfl (vp_in_nI (n := 5) (by decide) (by decide)) dX0_nextRow_16 (fun H locs G => ?_)
    have G : zS T A s.heap s [[zO0 h md wy la pc_ a1_1 a2_2 a3_3 a4_4 a5_5 a6_6], [zAr T 0 a1_1 7 f1], [zAr T 0 a2_2 7 f2], [zAr T 0 a3_3 7 (upd (upd (upd f3 6 ((f3 6) + 1)) 6 0) 5 (((upd (upd f3 6 ((f3 6) + 1)) 6 0) 5) + 1))], [zAr T 0 a4_4 n4 f4], [zAr T 0 a5_5 n4 f5], [zAr T 0 a6_6 n4 f6]] _ _ := G
    refine lv_aload_n hx hb dX0_nextRow_17 rfl (lv_at hl 1 rfl) ?_
    refine z_get C G clX0 0 rfl 6 (by decide) m_fl_RX0_25 rfl dX0_nextRow_18 ?_
    refine lv_iload_n hx hb dX0_nextRow_21 rfl (lv_at hl 0 rfl) ?_
    refine z_ild C G 3 rfl (vp_in_nI (n := 5) (by decide) (by decide)) dX0_nextRow_22 ?_
    refine lv_topi (fun v_12 ev_12 => ?_)
    have ev_12 : v_12 = ((upd (upd f3 6 ((f3 6) + 1)) 6 0) 5) + 1 := ev_12
    subst ev_12
    refine lv_aload_n hx hb dX0_nextRow_23 rfl (lv_at hl 1 rfl) ?_
    refine z_get C G clX0 0 rfl 4 (by decide) m_fl_RX0_18 rfl dX0_nextRow_24 ?_
    refine lv_iload_n hx hb dX0_nextRow_27 rfl (lv_at hl 0 rfl) ?_
    refine z_ild C G 1 rfl (vp_in_nI (n := 5) (by decide) (by decide)) dX0_nextRow_28 ?_
    refine lv_topi (fun v_13 ev_13 => ?_)
    rw [show ((5 : Int32).toNatClampNeg) = 5 from rfl] at ev_13
    subst ev_13
    refine lv_icmp_ge (tgt := 33) hx hb dX0_nextRow_29 (by decide) (fun c_14 => ?_) (fun c_14 => ?_)
    · have c_14n : (f1 5).toInt ≤ (((upd (upd f3 6 ((f3 6) + 1)) 6 0) 5) + 1).toInt := (fa_le _ _).mp c_14
      refine lv_aload_n hx hb dX0_nextRow_33 rfl (lv_at hl 1 rfl) ?_
      refine z_get C G clX0 0 rfl 6 (by decide) m_fl_RX0_25 rfl dX0_nextRow_34 ?_
      refine lv_iload_n hx hb dX0_nextRow_37 rfl (lv_at hl 0 rfl) ?_
      refine lv_iconst (v := 0) hx hb dX0_nextRow_38 (by decide) ?_
      refine z_ist C G 3 rfl (vp_in_nI (n := 5) (by decide) (by decide)) dX0_nextRow_39 (fun H locs G => ?_)
      have G : zS T A s.heap s [[zO0 h md wy la pc_ a1_1 a2_2 a3_3 a4_4 a5_5 a6_6], [zAr T 0 a1_1 7 f1], [zAr T 0 a2_2 7 f2], [zAr T 0 a3_3 7 (upd (upd (upd (upd f3 6 ((f3 6) + 1)) 6 0) 5 (((upd (upd f3 6 ((f3 6) + 1)) 6 0) 5) + 1)) 5 0)], [zAr T 0 a4_4 n4 f4], [zAr T 0 a5_5 n4 f5], [zAr T 0 a6_6 n4 f6]] _ _ := G
      refine lv_iinc (v := 4) (lv' := [(1, .int 4), (0, .ref h)]) hx hb dX0_nextRow_40 hl (k := 0) rfl (by decide) (by decide) (zLvf_h rfl) (fun ls hl => ?_)
      refine lv_goto (tgt := 3) hx hb dX0_nextRow_43 (by decide) ?_
      refine lv_iload_n hx hb dX0_nextRow_3 rfl (lv_at hl 0 rfl) ?_
      refine lv_if_lt (tgt := 46) hx hb dX0_nextRow_4 (by decide) (fun q => absurd q (by decide)) (fun _ => ?_)
      refine lv_aload_n hx hb dX0_nextRow_7 rfl (lv_at hl 1 rfl) ?_
      refine z_get C G clX0 0 rfl 6 (by decide) m_fl_RX0_25 rfl dX0_nextRow_8 ?_
      refine lv_iload_n hx hb dX0_nextRow_11 rfl (lv_at hl 0 rfl) ?_
      refine lv_dup2_11 hx hb dX0_nextRow_12 rfl rfl ?_
      refine z_ild C G 3 rfl (vp_in_nI (n := 4) (by decide) (by decide)) dX0_nextRow_13 ?_
      refine lv_topi (fun v_15 ev_15 => ?_)
      rw [show ((4 : Int32).toNatClampNeg) = 4 from rfl] at ev_15
      subst ev_15
      refine lv_iconst (v := 1) hx hb dX0_nextRow_14 (by decide) ?_
      refine lv_iadd hx hb dX0_nextRow_15 ?_
      refine z_ist C G 3 rfl (vp_in_nI (n := 4) (by decide) (by decide)) dX0_nextRow_16 (fun H locs G => ?_)
      have G : zS T A s.heap s [[zO0 h md wy la pc_ a1_1 a2_2 a3_3 a4_4 a5_5 a6_6], [zAr T 0 a1_1 7 f1], [zAr T 0 a2_2 7 f2], [zAr T 0 a3_3 7 (upd (upd (upd (upd (upd f3 6 ((f3 6) + 1)) 6 0) 5 (((upd (upd f3 6 ((f3 6) + 1)) 6 0) 5) + 1)) 5 0) 4 (((upd (upd (upd (upd f3 6 ((f3 6) + 1)) 6 0) 5 (((upd (upd f3 6 ((f3 6) + 1)) 6 0) 5) + 1)) 5 0) 4) + 1))], [zAr T 0 a4_4 n4 f4], [zAr T 0 a5_5 n4 f5], [zAr T 0 a6_6 n4 f6]] _ _ := G
      refine lv_aload_n hx hb dX0_nextRow_17 rfl (lv_at hl 1 rfl) ?_
      refine z_get C G clX0 0 rfl 6 (by decide) m_fl_RX0_25 rfl dX0_nextRow_18 ?_
      refine lv_iload_n hx hb dX0_nextRow_21 rfl (lv_at hl 0 rfl) ?_
      refine z_ild C G 3 rfl (vp_in_nI (n := 4) (by decide) (by decide)) dX0_nextRow_22 ?_
      refine lv_topi (fun v_16 ev_16 => ?_)
      have ev_16 : v_16 = ((upd (upd (upd (upd f3 6 ((f3 6) + 1)) 6 0) 5 (((upd (upd f3 6 ((f3 6) + 1)) 6 0) 5) + 1)) 5 0) 4) + 1 := ev_16
      subst ev_16
      refine lv_aload_n hx hb dX0_nextRow_23 rfl (lv_at hl 1 rfl) ?_
      refine z_get C G clX0 0 rfl 4 (by decide) m_fl_RX0_18 rfl dX0_nextRow_24 ?_
      refine lv_iload_n hx hb dX0_nextRow_27 rfl (lv_at hl 0 rfl) ?_
      refine z_ild C G 1 rfl (vp_in_nI (n := 4) (by decide) (by decide)) dX0_nextRow_28 ?_
      refine lv_topi (fun v_17 ev_17 => ?_)
      rw [show ((4 : Int32).toNatClampNeg) = 4 from rfl] at ev_17
      subst ev_17
      refine lv_icmp_ge (tgt := 33) hx hb dX0_nextRow_29 (by decide) (fun c_18 => ?_) (fun c_18 => ?_)
      · have c_18n : (f1 4).toInt ≤ (((upd (upd (upd (upd f3 6 ((f3 6) + 1)) 6 0) 5 (((upd (upd f3 6 ((f3 6) + 1)) 6 0) 5) + 1)) 5 0) 4) + 1).toInt := (fa_le _ _).mp c_18
        refine lv_aload_n hx hb dX0_nextRow_33 rfl (lv_at hl 1 rfl) ?_
        refine z_get C G clX0 0 rfl 6 (by decide) m_fl_RX0_25 rfl dX0_nextRow_34 ?_
        refine lv_iload_n hx hb dX0_nextRow_37 rfl (lv_at hl 0 rfl) ?_
        refine lv_iconst (v := 0) hx hb dX0_nextRow_38 (by decide) ?_
        refine z_ist C G 3 rfl (vp_in_nI (n := 4) (by decide) (by decide)) dX0_nextRow_39 (fun H locs G => ?_)
        have G : zS T A s.heap s [[zO0 h md wy la pc_ a1_1 a2_2 a3_3 a4_4 a5_5 a6_6], [zAr T 0 a1_1 7 f1], [zAr T 0 a2_2 7 f2], [zAr T 0 a3_3 7 (upd (upd (upd (upd (upd (upd f3 6 ((f3 6) + 1)) 6 0) 5 (((upd (upd f3 6 ((f3 6) + 1)) 6 0) 5) + 1)) 5 0) 4 (((upd (upd (upd (upd f3 6 ((f3 6) + 1)) 6 0) 5 (((upd (upd f3 6 ((f3 6) + 1)) 6 0) 5) + 1)) 5 0) 4) + 1)) 4 0)], [zAr T 0 a4_4 n4 f4], [zAr T 0 a5_5 n4 f5], [zAr T 0 a6_6 n4 f6]] _ _ := G
        refine lv_iinc (v := 3) (lv' := [(1, .int 3), (0, .ref h)]) hx hb dX0_nextRow_40 hl (k := 0) rfl (by decide) (by decide) (zLvf_h rfl) (fun ls hl => ?_)
        refine lv_goto (tgt := 3) hx hb dX0_nextRow_43 (by decide) ?_
        refine lv_iload_n hx hb dX0_nextRow_3 rfl (lv_at hl 0 rfl) ?_
        refine lv_if_lt (tgt := 46) hx hb dX0_nextRow_4 (by decide) (fun q => absurd q (by decide)) (fun _ => ?_)
        refine lv_aload_n hx hb dX0_nextRow_7 rfl (lv_at hl 1 rfl) ?_
        refine z_get C G clX0 0 rfl 6 (by decide) m_fl_RX0_25 rfl dX0_nextRow_8 ?_
        refine lv_iload_n hx hb dX0_nextRow_11 rfl (lv_at hl 0 rfl) ?_
        refine lv_dup2_11 hx hb dX0_nextRow_12 rfl rfl ?_
        refine z_ild C G 3 rfl (vp_in_nI (n := 3) (by decide) (by decide)) dX0_nextRow_13 ?_
        refine lv_topi (fun v_19 ev_19 => ?_)
        rw [show ((3 : Int32).toNatClampNeg) = 3 from rfl] at ev_19
        subst ev_19
        refine lv_iconst (v := 1) hx hb dX0_nextRow_14 (by decide) ?_
        refine lv_iadd hx hb dX0_nextRow_15 ?_
        refine z_ist C G 3 rfl (vp_in_nI (n := 3) (by decide) (by decide)) dX0_nextRow_16 (fun H locs G => ?_)
        have G : zS T A s.heap s [[zO0 h md wy la pc_ a1_1 a2_2 a3_3 a4_4 a5_5 a6_6], [zAr T 0 a1_1 7 f1], [zAr T 0 a2_2 7 f2], [zAr T 0 a3_3 7 (upd (upd (upd (upd (upd (upd (upd f3 6 ((f3 6) + 1)) 6 0) 5 (((upd (upd f3 6 ((f3 6) + 1)) 6 0) 5) + 1)) 5 0) 4 (((upd (upd (upd (upd f3 6 ((f3 6) + 1)) 6 0) 5 (((upd (upd f3 6 ((f3 6) + 1)) 6 0) 5) + 1)) 5 0) 4) + 1)) 4 0) 3 (((upd (upd (upd (upd (upd (upd f3 6 ((f3 6) + 1)) 6 0) 5 (((upd (upd f3 6 ((f3 6) + 1)) 6 0) 5) + 1)) 5 0) 4 (((upd (upd (upd (upd f3 6 ((f3 6) + 1)) 6 0) 5 (((upd (upd f3 6 ((f3 6) + 1)) 6 0) 5) + 1)) 5 0) 4) + 1)) 4 0) 3) + 1))], [zAr T 0 a4_4 n4 f4], [zAr T 0 a5_5 n4 f5], [zAr T 0 a6_6 n4 f6]] _ _ := G
        refine lv_aload_n hx hb dX0_nextRow_17 rfl (lv_at hl 1 rfl) ?_
        refine z_get C G clX0 0 rfl 6 (by decide) m_fl_RX0_25 rfl dX0_nextRow_18 ?_
        refine lv_iload_n hx hb dX0_nextRow_21 rfl (lv_at hl 0 rfl) ?_
        refine z_ild C G 3 rfl (vp_in_nI (n := 3) (by decide) (by decide)) dX0_nextRow_22 ?_
        refine lv_topi (fun v_20 ev_20 => ?_)
        have ev_20 : v_20 = ((upd (upd (upd (upd (upd (upd f3 6 ((f3 6) + 1)) 6 0) 5 (((upd (upd f3 6 ((f3 6) + 1)) 6 0) 5) + 1)) 5 0) 4 (((upd (upd (upd (upd f3 6 ((f3 6) + 1)) 6 0) 5 (((upd (upd f3 6 ((f3 6) + 1)) 6 0) 5) + 1)) 5 0) 4) + 1)) 4 0) 3) + 1 := ev_20
        subst ev_20
        refine lv_aload_n hx hb dX0_nextRow_23 rfl (lv_at hl 1 rfl) ?_
        refine z_get C G clX0 0 rfl 4 (by decide) m_fl_RX0_18 rfl dX0_nextRow_24 ?_
        refine lv_iload_n hx hb dX0_nextRow_27 rfl (lv_at hl 0 rfl) ?_
        refine z_ild C G 1 rfl (vp_in_nI (n := 3) (by decide) (by decide)) dX0_nextRow_28 ?_
        refine lv_topi (fun v_21 ev_21 => ?_)
        rw [show ((3 : Int32).toNatClampNeg) = 3 from rfl] at ev_21
        subst ev_21
        refine lv_icmp_ge (tgt := 33) hx hb dX0_nextRow_29 (by decide) (fun c_22 => ?_) (fun c_22 => ?_)
        · have c_22n : (f1 3).toInt ≤ (((upd (upd (upd (upd (upd (upd f3 6 ((f3 6) + 1)) 6 0) 5 (((upd (upd f3 6 ((f3 6) + 1)) 6 0) 5) + 1)) 5 0) 4 (((upd (upd (upd (upd f3 6 ((f3 6) + 1)) 6 0) 5 (((upd (upd f3 6 ((f3 6) + 1)) 6 0) 5) + 1)) 5 0) 4) + 1)) 4 0) 3) + 1).toInt := (fa_le _ _).mp c_22
          refine lv_aload_n hx hb dX0_nextRow_33 rfl (lv_at hl 1 rfl) ?_
          refine z_get C G clX0 0 rfl 6 (by decide) m_fl_RX0_25 rfl dX0_nextRow_34 ?_
          refine lv_iload_n hx hb dX0_nextRow_37 rfl (lv_at hl 0 rfl) ?_
          refine lv_iconst (v := 0) hx hb dX0_nextRow_38 (by decide) ?_
          refine z_ist C G 3 rfl (vp_in_nI (n := 3) (by decide) (by decide)) dX0_nextRow_39 (fun H locs G => ?_)
          have G : zS T A s.heap s [[zO0 h md wy la pc_ a1_1 a2_2 a3_3 a4_4 a5_5 a6_6], [zAr T 0 a1_1 7 f1], [zAr T 0 a2_2 7 f2], [zAr T 0 a3_3 7 (upd (upd (upd (upd (upd (upd (upd (upd f3 6 ((f3 6) + 1)) 6 0) 5 (((upd (upd f3 6 ((f3 6) + 1)) 6 0) 5) + 1)) 5 0) 4 (((upd (upd (upd (upd f3 6 ((f3 6) + 1)) 6 0) 5 (((upd (upd f3 6 ((f3 6) + 1)) 6 0) 5) + 1)) 5 0) 4) + 1)) 4 0) 3 (((upd (upd (upd (upd (upd (upd f3 6 ((f3 6) + 1)) 6 0) 5 (((upd (upd f3 6 ((f3 6) + 1)) 6 0) 5) + 1)) 5 0) 4 (((upd (upd (upd (upd f3 6 ((f3 6) + 1)) 6 0) 5 (((upd (upd f3 6 ((f3 6) + 1)) 6 0) 5) + 1)) 5 0) 4) + 1)) 4 0) 3) + 1)) 3 0)], [zAr T 0 a4_4 n4 f4], [zAr T 0 a5_5 n4 f5], [zAr T 0 a6_6 n4 f6]] _ _ := G
          refine lv_iinc (v := 2) (lv' := [(1, .int 2), (0, .ref h)]) hx hb dX0_nextRow_40 hl (k := 0) rfl (by decide) (by decide) (zLvf_h rfl) (fun ls hl => ?_)
          refine lv_goto (tgt := 3) hx hb dX0_nextRow_43 (by decide) ?_
          refine lv_iload_n hx hb dX0_nextRow_3 rfl (lv_at hl 0 rfl) ?_
          refine lv_if_lt (tgt := 46) hx hb dX0_nextRow_4 (by decide) (fun q => absurd q (by decide)) (fun _ => ?_)
          refine lv_aload_n hx hb dX0_nextRow_7 rfl (lv_at hl 1 rfl) ?_
          refine z_get C G clX0 0 rfl 6 (by decide) m_fl_RX0_25 rfl dX0_nextRow_8 ?_
          refine lv_iload_n hx hb dX0_nextRow_11 rfl (lv_at hl 0 rfl) ?_
          refine lv_dup2_11 hx hb dX0_nextRow_12 rfl rfl ?_
          refine z_ild C G 3 rfl (vp_in_nI (n := 2) (by decide) (by decide)) dX0_nextRow_13 ?_
          refine lv_topi (fun v_23 ev_23 => ?_)
          rw [show ((2 : Int32).toNatClampNeg) = 2 from rfl] at ev_23
          subst ev_23
          refine lv_iconst (v := 1) hx hb dX0_nextRow_14 (by decide) ?_
          refine lv_iadd hx hb dX0_nextRow_15 ?_
          refine z_ist C G 3 rfl (vp_in_nI (n := 2) (by decide) (by decide)) dX0_nextRow_16 (fun H locs G => ?_)
          have G : zS T A s.heap s [[zO0 h md wy la pc_ a1_1 a2_2 a3_3 a4_4 a5_5 a6_6], [zAr T 0 a1_1 7 f1], [zAr T 0 a2_2 7 f2], [zAr T 0 a3_3 7 (upd (upd (upd (upd (upd (upd (upd (upd (upd f3 6 ((f3 6) + 1)) 6 0) 5 (((upd (upd f3 6 ((f3 6) + 1)) 6 0) 5) + 1)) 5 0) 4 (((upd (upd (upd (upd f3 6 ((f3 6) + 1)) 6 0) 5 (((upd (upd f3 6 ((f3 6) + 1)) 6 0) 5) + 1)) 5 0) 4) + 1)) 4 0) 3 (((upd (upd (upd (upd (upd (upd f3 6 ((f3 6) + 1)) 6 0) 5 (((upd (upd f3 6 ((f3 6) + 1)) 6 0) 5) + 1)) 5 0) 4 (((upd (upd (upd (upd f3 6 ((f3 6) + 1)) 6 0) 5 (((upd (upd f3 6 ((f3 6) + 1)) 6 0) 5) + 1)) 5 0) 4) + 1)) 4 0) 3) + 1)) 3 0) 2 (((upd (upd (upd (upd (upd (upd (upd (upd f3 6 ((f3 6) + 1)) 6 0) 5 (((upd (upd f3 6 ((f3 6) + 1)) 6 0) 5) + 1)) 5 0) 4 (((upd (upd (upd (upd f3 6 ((f3 6) + 1)) 6 0) 5 (((upd (upd f3 6 ((f3 6) + 1)) 6 0) 5) + 1)) 5 0) 4) + 1)) 4 0) 3 (((upd (upd (upd (upd (upd (upd f3 6 ((f3 6) + 1)) 6 0) 5 (((upd (upd f3 6 ((f3 6) + 1)) 6 0) 5) + 1)) 5 0) 4 (((upd (upd (upd (upd f3 6 ((f3 6) + 1)) 6 0) 5 (((upd (upd f3 6 ((f3 6) + 1)) 6 0) 5) + 1)) 5 0) 4) + 1)) 4 0) 3) + 1)) 3 0) 2) + 1))], [zAr T 0 a4_4 n4 f4], [zAr T 0 a5_5 n4 f5], [zAr T 0 a6_6 n4 f6]] _ _ := G
          refine lv_aload_n hx hb dX0_nextRow_17 rfl (lv_at hl 1 rfl) ?_
          refine z_get C G clX0 0 rfl 6 (by decide) m_fl_RX0_25 rfl dX0_nextRow_18 ?_
          refine lv_iload_n hx hb dX0_nextRow_21 rfl (lv_at hl 0 rfl) ?_
          refine z_ild C G 3 rfl (vp_in_nI (n := 2) (by decide) (by decide)) dX0_nextRow_22 ?_
          refine lv_topi (fun v_24 ev_24 => ?_)
          have ev_24 : v_24 = ((upd (upd (upd (upd (upd (upd (upd (upd f3 6 ((f3 6) + 1)) 6 0) 5 (((upd (upd f3 6 ((f3 6) + 1)) 6 0) 5) + 1)) 5 0) 4 (((upd (upd (upd (upd f3 6 ((f3 6) + 1)) 6 0) 5 (((upd (upd f3 6 ((f3 6) + 1)) 6 0) 5) + 1)) 5 0) 4) + 1)) 4 0) 3 (((upd (upd (upd (upd (upd (upd f3 6 ((f3 6) + 1)) 6 0) 5 (((upd (upd f3 6 ((f3 6) + 1)) 6 0) 5) + 1)) 5 0) 4 (((upd (upd (upd (upd f3 6 ((f3 6) + 1)) 6 0) 5 (((upd (upd f3 6 ((f3 6) + 1)) 6 0) 5) + 1)) 5 0) 4) + 1)) 4 0) 3) + 1)) 3 0) 2) + 1 := ev_24
          subst ev_24
          refine lv_aload_n hx hb dX0_nextRow_23 rfl (lv_at hl 1 rfl) ?_
          refine z_get C G clX0 0 rfl 4 (by decide) m_fl_RX0_18 rfl dX0_nextRow_24 ?_
          refine lv_iload_n hx hb dX0_nextRow_27 rfl (lv_at hl 0 rfl) ?_
          refine z_ild C G 1 rfl (vp_in_nI (n := 2) (by decide) (by decide)) dX0_nextRow_28 ?_
          refine lv_topi (fun v_25 ev_25 => ?_)
          rw [show ((2 : Int32).toNatClampNeg) = 2 from rfl] at ev_25
          subst ev_25
          refine lv_icmp_ge (tgt := 33) hx hb dX0_nextRow_29 (by decide) (fun c_26 => ?_) (fun c_26 => ?_)
          · have c_26n : (f1 2).toInt ≤ (((upd (upd (upd (upd (upd (upd (upd (upd f3 6 ((f3 6) + 1)) 6 0) 5 (((upd (upd f3 6 ((f3 6) + 1)) 6 0) 5) + 1)) 5 0) 4 (((upd (upd (upd (upd f3 6 ((f3 6) + 1)) 6 0) 5 (((upd (upd f3 6 ((f3 6) + 1)) 6 0) 5) + 1)) 5 0) 4) + 1)) 4 0) 3 (((upd (upd (upd (upd (upd (upd f3 6 ((f3 6) + 1)) 6 0) 5 (((upd (upd f3 6 ((f3 6) + 1)) 6 0) 5) + 1)) 5 0) 4 (((upd (upd (upd (upd f3 6 ((f3 6) + 1)) 6 0) 5 (((upd (upd f3 6 ((f3 6) + 1)) 6 0) 5) + 1)) 5 0) 4) + 1)) 4 0) 3) + 1)) 3 0) 2) + 1).toInt := (fa_le _ _).mp c_26
            refine lv_aload_n hx hb dX0_nextRow_33 rfl (lv_at hl 1 rfl) ?_
            refine z_get C G clX0 0 rfl 6 (by decide) m_fl_RX0_25 rfl dX0_nextRow_34 ?_
            refine lv_iload_n hx hb dX0_nextRow_37 rfl (lv_at hl 0 rfl) ?_
            refine lv_iconst (v := 0) hx hb dX0_nextRow_38 (by decide) ?_
            refine z_ist C G 3 rfl (vp_in_nI (n := 2) (by decide) (by decide)) dX0_nextRow_39 (fun H locs G => ?_)
            have G : zS T A s.heap s [[zO0 h md wy la pc_ a1_1 a2_2 a3_3 a4_4 a5_5 a6_6], [zAr T 0 a1_1 7 f1], [zAr T 0 a2_2 7 f2], [zAr T 0 a3_3 7 (upd (upd (upd (upd (upd (upd (upd (upd (upd (upd f3 6 ((f3 6) + 1)) 6 0) 5 (((upd (upd f3 6 ((f3 6) + 1)) 6 0) 5) + 1)) 5 0) 4 (((upd (upd (upd (upd f3 6 ((f3 6) + 1)) 6 0) 5 (((upd (upd f3 6 ((f3 6) + 1)) 6 0) 5) + 1)) 5 0) 4) + 1)) 4 0) 3 (((upd (upd (upd (upd (upd (upd f3 6 ((f3 6) + 1)) 6 0) 5 (((upd (upd f3 6 ((f3 6) + 1)) 6 0) 5) + 1)) 5 0) 4 (((upd (upd (upd (upd f3 6 ((f3 6) + 1)) 6 0) 5 (((upd (upd f3 6 ((f3 6) + 1)) 6 0) 5) + 1)) 5 0) 4) + 1)) 4 0) 3) + 1)) 3 0) 2 (((upd (upd (upd (upd (upd (upd (upd (upd f3 6 ((f3 6) + 1)) 6 0) 5 (((upd (upd f3 6 ((f3 6) + 1)) 6 0) 5) + 1)) 5 0) 4 (((upd (upd (upd (upd f3 6 ((f3 6) + 1)) 6 0) 5 (((upd (upd f3 6 ((f3 6) + 1)) 6 0) 5) + 1)) 5 0) 4) + 1)) 4 0) 3 (((upd (upd (upd (upd (upd (upd f3 6 ((f3 6) + 1)) 6 0) 5 (((upd (upd f3 6 ((f3 6) + 1)) 6 0) 5) + 1)) 5 0) 4 (((upd (upd (upd (upd f3 6 ((f3 6) + 1)) 6 0) 5 (((upd (upd f3 6 ((f3 6) + 1)) 6 0) 5) + 1)) 5 0) 4) + 1)) 4 0) 3) + 1)) 3 0) 2) + 1)) 2 0)], [zAr T 0 a4_4 n4 f4], [zAr T 0 a5_5 n4 f5], [zAr T 0 a6_6 n4 f6]] _ _ := G
            refine lv_iinc (v := 1) (lv' := [(1, .int 1), (0, .ref h)]) hx hb dX0_nextRow_40 hl (k := 0) rfl (by decide) (by decide) (zLvf_h rfl) (fun ls hl => ?_)
            refine lv_goto (tgt := 3) hx hb dX0_nextRow_43 (by decide) ?_
            refine lv_iload_n hx hb dX0_nextRow_3 rfl (lv_at hl 0 rfl) ?_
            refine lv_if_lt (tgt := 46) hx hb dX0_nextRow_4 (by decide) (fun q => absurd q (by decide)) (fun _ => ?_)
            refine lv_aload_n hx hb dX0_nextRow_7 rfl (lv_at hl 1 rfl) ?_
            refine z_get C G clX0 0 rfl 6 (by decide) m_fl_RX0_25 rfl dX0_nextRow_8 ?_
            refine lv_iload_n hx hb dX0_nextRow_11 rfl (lv_at hl 0 rfl) ?_
            refine lv_dup2_11 hx hb dX0_nextRow_12 rfl rfl ?_
            refine z_ild C G 3 rfl (vp_in_nI (n := 1) (by decide) (by decide)) dX0_nextRow_13 ?_
            refine lv_topi (fun v_27 ev_27 => ?_)
            rw [show ((1 : Int32).toNatClampNeg) = 1 from rfl] at ev_27
            subst ev_27
            refine lv_iconst (v := 1) hx hb dX0_nextRow_14 (by decide) ?_
            refine lv_iadd hx hb dX0_nextRow_15 ?_
            refine z_ist C G 3 rfl (vp_in_nI (n := 1) (by decide) (by decide)) dX0_nextRow_16 (fun H locs G => ?_)
            have G : zS T A s.heap s [[zO0 h md wy la pc_ a1_1 a2_2 a3_3 a4_4 a5_5 a6_6], [zAr T 0 a1_1 7 f1], [zAr T 0 a2_2 7 f2], [zAr T 0 a3_3 7 (upd (upd (upd (upd (upd (upd (upd (upd (upd (upd (upd f3 6 ((f3 6) + 1)) 6 0) 5 (((upd (upd f3 6 ((f3 6) + 1)) 6 0) 5) + 1)) 5 0) 4 (((upd (upd (upd (upd f3 6 ((f3 6) + 1)) 6 0) 5 (((upd (upd f3 6 ((f3 6) + 1)) 6 0) 5) + 1)) 5 0) 4) + 1)) 4 0) 3 (((upd (upd (upd (upd (upd (upd f3 6 ((f3 6) + 1)) 6 0) 5 (((upd (upd f3 6 ((f3 6) + 1)) 6 0) 5) + 1)) 5 0) 4 (((upd (upd (upd (upd f3 6 ((f3 6) + 1)) 6 0) 5 (((upd (upd f3 6 ((f3 6) + 1)) 6 0) 5) + 1)) 5 0) 4) + 1)) 4 0) 3) + 1)) 3 0) 2 (((upd (upd (upd (upd (upd (upd (upd (upd f3 6 ((f3 6) + 1)) 6 0) 5 (((upd (upd f3 6 ((f3 6) + 1)) 6 0) 5) + 1)) 5 0) 4 (((upd (upd (upd (upd f3 6 ((f3 6) + 1)) 6 0) 5 (((upd (upd f3 6 ((f3 6) + 1)) 6 0) 5) + 1)) 5 0) 4) + 1)) 4 0) 3 (((upd (upd (upd (upd (upd (upd f3 6 ((f3 6) + 1)) 6 0) 5 (((upd (upd f3 6 ((f3 6) + 1)) 6 0) 5) + 1)) 5 0) 4 (((upd (upd (upd (upd f3 6 ((f3 6) + 1)) 6 0) 5 (((upd (upd f3 6 ((f3 6) + 1)) 6 0) 5) + 1)) 5 0) 4) + 1)) 4 0) 3) + 1)) 3 0) 2) + 1)) 2 0) 1 (((upd (upd (upd (upd (upd (upd (upd (upd (upd (upd f3 6 ((f3 6) + 1)) 6 0) 5 (((upd (upd f3 6 ((f3 6) + 1)) 6 0) 5) + 1)) 5 0) 4 (((upd (upd (upd (upd f3 6 ((f3 6) + 1)) 6 0) 5 (((upd (upd f3 6 ((f3 6) + 1)) 6 0) 5) + 1)) 5 0) 4) + 1)) 4 0) 3 (((upd (upd (upd (upd (upd (upd f3 6 ((f3 6) + 1)) 6 0) 5 (((upd (upd f3 6 ((f3 6) + 1)) 6 0) 5) + 1)) 5 0) 4 (((upd (upd (upd (upd f3 6 ((f3 6) + 1)) 6 0) 5 (((upd (upd f3 6 ((f3 6) + 1)) 6 0) 5) + 1)) 5 0) 4) + 1)) 4 0) 3) + 1)) 3 0) 2 (((upd (upd (upd (upd (upd (upd (upd (upd f3 6 ((f3 6) + 1)) 6 0) 5 (((upd (upd f3 6 ((f3 6) + 1)) 6 0) 5) + 1)) 5 0) 4 (((upd (upd (upd (upd f3 6 ((f3 6) + 1)) 6 0) 5 (((upd (upd f3 6 ((f3 6) + 1)) 6 0) 5) + 1)) 5 0) 4) + 1)) 4 0) 3 (((upd (upd (upd (upd (upd (upd f3 6 ((f3 6) + 1)) 6 0) 5 (((upd (upd f3 6 ((f3 6) + 1)) 6 0) 5) + 1)) 5 0) 4 (((upd (upd (upd (upd f3 6 ((f3 6) + 1)) 6 0) 5 (((upd (upd f3 6 ((f3 6) + 1)) 6 0) 5) + 1)) 5 0) 4) + 1)) 4 0) 3) + 1)) 3 0) 2) + 1)) 2 0) 1) + 1))], [zAr T 0 a4_4 n4 f4], [zAr T 0 a5_5 n4 f5], [zAr T 0 a6_6 n4 f6]] _ _ := G
            refine lv_aload_n hx hb dX0_nextRow_17 rfl (lv_at hl 1 rfl) ?_
            refine z_get C G clX0 0 rfl 6 (by decide) m_fl_RX0_25 rfl dX0_nextRow_18 ?_
            refine lv_iload_n hx hb dX0_nextRow_21 rfl (lv_at hl 0 rfl) ?_
            refine z_ild C G 3 rfl (vp_in_nI (n := 1) (by decide) (by decide)) dX0_nextRow_22 ?_
            refine lv_topi (fun v_28 ev_28 => ?_)
            have ev_28 : v_28 = ((upd (upd (upd (upd (upd (upd (upd (upd (upd (upd f3 6 ((f3 6) + 1)) 6 0) 5 (((upd (upd f3 6 ((f3 6) + 1)) 6 0) 5) + 1)) 5 0) 4 (((upd (upd (upd (upd f3 6 ((f3 6) + 1)) 6 0) 5 (((upd (upd f3 6 ((f3 6) + 1)) 6 0) 5) + 1)) 5 0) 4) + 1)) 4 0) 3 (((upd (upd (upd (upd (upd (upd f3 6 ((f3 6) + 1)) 6 0) 5 (((upd (upd f3 6 ((f3 6) + 1)) 6 0) 5) + 1)) 5 0) 4 (((upd (upd (upd (upd f3 6 ((f3 6) + 1)) 6 0) 5 (((upd (upd f3 6 ((f3 6) + 1)) 6 0) 5) + 1)) 5 0) 4) + 1)) 4 0) 3) + 1)) 3 0) 2 (((upd (upd (upd (upd (upd (upd (upd (upd f3 6 ((f3 6) + 1)) 6 0) 5 (((upd (upd f3 6 ((f3 6) + 1)) 6 0) 5) + 1)) 5 0) 4 (((upd (upd (upd (upd f3 6 ((f3 6) + 1)) 6 0) 5 (((upd (upd f3 6 ((f3 6) + 1)) 6 0) 5) + 1)) 5 0) 4) + 1)) 4 0) 3 (((upd (upd (upd (upd (upd (upd f3 6 ((f3 6) + 1)) 6 0) 5 (((upd (upd f3 6 ((f3 6) + 1)) 6 0) 5) + 1)) 5 0) 4 (((upd (upd (upd (upd f3 6 ((f3 6) + 1)) 6 0) 5 (((upd (upd f3 6 ((f3 6) + 1)) 6 0) 5) + 1)) 5 0) 4) + 1)) 4 0) 3) + 1)) 3 0) 2) + 1)) 2 0) 1) + 1 := ev_28
            subst ev_28
            refine lv_aload_n hx hb dX0_nextRow_23 rfl (lv_at hl 1 rfl) ?_
            refine z_get C G clX0 0 rfl 4 (by decide) m_fl_RX0_18 rfl dX0_nextRow_24 ?_
            refine lv_iload_n hx hb dX0_nextRow_27 rfl (lv_at hl 0 rfl) ?_
            refine z_ild C G 1 rfl (vp_in_nI (n := 1) (by decide) (by decide)) dX0_nextRow_28 ?_
            refine lv_topi (fun v_29 ev_29 => ?_)
            rw [show ((1 : Int32).toNatClampNeg) = 1 from rfl] at ev_29
            subst ev_29
            refine lv_icmp_ge (tgt := 33) hx hb dX0_nextRow_29 (by decide) (fun c_30 => ?_) (fun c_30 => ?_)
            · have c_30n : (f1 1).toInt ≤ (((upd (upd (upd (upd (upd (upd (upd (upd (upd (upd f3 6 ((f3 6) + 1)) 6 0) 5 (((upd (upd f3 6 ((f3 6) + 1)) 6 0) 5) + 1)) 5 0) 4 (((upd (upd (upd (upd f3 6 ((f3 6) + 1)) 6 0) 5 (((upd (upd f3 6 ((f3 6) + 1)) 6 0) 5) + 1)) 5 0) 4) + 1)) 4 0) 3 (((upd (upd (upd (upd (upd (upd f3 6 ((f3 6) + 1)) 6 0) 5 (((upd (upd f3 6 ((f3 6) + 1)) 6 0) 5) + 1)) 5 0) 4 (((upd (upd (upd (upd f3 6 ((f3 6) + 1)) 6 0) 5 (((upd (upd f3 6 ((f3 6) + 1)) 6 0) 5) + 1)) 5 0) 4) + 1)) 4 0) 3) + 1)) 3 0) 2 (((upd (upd (upd (upd (upd (upd (upd (upd f3 6 ((f3 6) + 1)) 6 0) 5 (((upd (upd f3 6 ((f3 6) + 1)) 6 0) 5) + 1)) 5 0) 4 (((upd (upd (upd (upd f3 6 ((f3 6) + 1)) 6 0) 5 (((upd (upd f3 6 ((f3 6) + 1)) 6 0) 5) + 1)) 5 0) 4) + 1)) 4 0) 3 (((upd (upd (upd (upd (upd (upd f3 6 ((f3 6) + 1)) 6 0) 5 (((upd (upd f3 6 ((f3 6) + 1)) 6 0) 5) + 1)) 5 0) 4 (((upd (upd (upd (upd f3 6 ((f3 6) + 1)) 6 0) 5 (((upd (upd f3 6 ((f3 6) + 1)) 6 0) 5) + 1)) 5 0) 4) + 1)) 4 0) 3) + 1)) 3 0) 2) + 1)) 2 0) 1) + 1).toInt := (fa_le _ _).mp c_30
              refine lv_aload_n hx hb dX0_nextRow_33 rfl (lv_at hl 1 rfl) ?_
              refine z_get C G clX0 0 rfl 6 (by decide) m_fl_RX0_25 rfl dX0_nextRow_34 ?_
              refine lv_iload_n hx hb dX0_nextRow_37 rfl (lv_at hl 0 rfl) ?_
              refine lv_iconst (v := 0) hx hb dX0_nextRow_38 (by decide) ?_
              refine z_ist C G 3 rfl (vp_in_nI (n := 1) (by decide) (by decide)) dX0_nextRow_39 (fun H locs G => ?_)
              have G : zS T A s.heap s [[zO0 h md wy la pc_ a1_1 a2_2 a3_3 a4_4 a5_5 a6_6], [zAr T 0 a1_1 7 f1], [zAr T 0 a2_2 7 f2], [zAr T 0 a3_3 7 (upd (upd (upd (upd (upd (upd (upd (upd (upd (upd (upd (upd f3 6 ((f3 6) + 1)) 6 0) 5 (((upd (upd f3 6 ((f3 6) + 1)) 6 0) 5) + 1)) 5 0) 4 (((upd (upd (upd (upd f3 6 ((f3 6) + 1)) 6 0) 5 (((upd (upd f3 6 ((f3 6) + 1)) 6 0) 5) + 1)) 5 0) 4) + 1)) 4 0) 3 (((upd (upd (upd (upd (upd (upd f3 6 ((f3 6) + 1)) 6 0) 5 (((upd (upd f3 6 ((f3 6) + 1)) 6 0) 5) + 1)) 5 0) 4 (((upd (upd (upd (upd f3 6 ((f3 6) + 1)) 6 0) 5 (((upd (upd f3 6 ((f3 6) + 1)) 6 0) 5) + 1)) 5 0) 4) + 1)) 4 0) 3) + 1)) 3 0) 2 (((upd (upd (upd (upd (upd (upd (upd (upd f3 6 ((f3 6) + 1)) 6 0) 5 (((upd (upd f3 6 ((f3 6) + 1)) 6 0) 5) + 1)) 5 0) 4 (((upd (upd (upd (upd f3 6 ((f3 6) + 1)) 6 0) 5 (((upd (upd f3 6 ((f3 6) + 1)) 6 0) 5) + 1)) 5 0) 4) + 1)) 4 0) 3 (((upd (upd (upd (upd (upd (upd f3 6 ((f3 6) + 1)) 6 0) 5 (((upd (upd f3 6 ((f3 6) + 1)) 6 0) 5) + 1)) 5 0) 4 (((upd (upd (upd (upd f3 6 ((f3 6) + 1)) 6 0) 5 (((upd (upd f3 6 ((f3 6) + 1)) 6 0) 5) + 1)) 5 0) 4) + 1)) 4 0) 3) + 1)) 3 0) 2) + 1)) 2 0) 1 (((upd (upd (upd (upd (upd (upd (upd (upd (upd (upd f3 6 ((f3 6) + 1)) 6 0) 5 (((upd (upd f3 6 ((f3 6) + 1)) 6 0) 5) + 1)) 5 0) 4 (((upd (upd (upd (upd f3 6 ((f3 6) + 1)) 6 0) 5 (((upd (upd f3 6 ((f3 6) + 1)) 6 0) 5) + 1)) 5 0) 4) + 1)) 4 0) 3 (((upd (upd (upd (upd (upd (upd f3 6 ((f3 6) + 1)) 6 0) 5 (((upd (upd f3 6 ((f3 6) + 1)) 6 0) 5) + 1)) 5 0) 4 (((upd (upd (upd (upd f3 6 ((f3 6) + 1)) 6 0) 5 (((upd (upd f3 6 ((f3 6) + 1)) 6 0) 5) + 1)) 5 0) 4) + 1)) 4 0) 3) + 1)) 3 0) 2 (((upd (upd (upd (upd (upd (upd (upd (upd f3 6 ((f3 6) + 1)) 6 0) 5 (((upd (upd f3 6 ((f3 6) + 1)) 6 0) 5) + 1)) 5 0) 4 (((upd (upd (upd (upd f3 6 ((f3 6) + 1)) 6 0) 5 (((upd (upd f3 6 ((f3 6) + 1)) 6 0) 5) + 1)) 5 0) 4) + 1)) 4 0) 3 (((upd (upd (upd (upd (upd (upd f3 6 ((f3 6) + 1)) 6 0) 5 (((upd (upd f3 6 ((f3 6) + 1)) 6 0) 5) + 1)) 5 0) 4 (((upd (upd (upd (upd f3 6 ((f3 6) + 1)) 6 0) 5 (((upd (upd f3 6 ((f3 6) + 1)) 6 0) 5) + 1)) 5 0) 4) + 1)) 4 0) 3) + 1)) 3 0) 2) + 1)) 2 0) 1) + 1)) 1 0)], [zAr T 0 a4_4 n4 f4], [zAr T 0 a5_5 n4 f5], [zAr T 0 a6_6 n4 f6]] _ _ := G
              refine lv_iinc (v := 0) (lv' := [(1, .int 0), (0, .ref h)]) hx hb dX0_nextRow_40 hl (k := 0) rfl (by decide) (by decide) (zLvf_h rfl) (fun ls hl => ?_)
              refine lv_goto (tgt := 3) hx hb dX0_nextRow_43 (by decide) ?_
              refine lv_iload_n hx hb dX0_nextRow_3 rfl (lv_at hl 0 rfl) ?_
              refine lv_if_lt (tgt := 46) hx hb dX0_nextRow_4 (by decide) (fun q => absurd q (by decide)) (fun _ => ?_)
              refine lv_aload_n hx hb dX0_nextRow_7 rfl (lv_at hl 1 rfl) ?_
              refine z_get C G clX0 0 rfl 6 (by decide) m_fl_RX0_25 rfl dX0_nextRow_8 ?_
              refine lv_iload_n hx hb dX0_nextRow_11 rfl (lv_at hl 0 rfl) ?_
              refine lv_dup2_11 hx hb dX0_nextRow_12 rfl rfl ?_
              refine z_ild C G 3 rfl (vp_in_nI (n := 0) (by decide) (by decide)) dX0_nextRow_13 ?_
              refine lv_topi (fun v_31 ev_31 => ?_)
              rw [show ((0 : Int32).toNatClampNeg) = 0 from rfl] at ev_31
              subst ev_31
              refine lv_iconst (v := 1) hx hb dX0_nextRow_14 (by decide) ?_
              refine lv_iadd hx hb dX0_nextRow_15 ?_
              refine z_ist C G 3 rfl (vp_in_nI (n := 0) (by decide) (by decide)) dX0_nextRow_16 (fun H locs G => ?_)
              have G : zS T A s.heap s [[zO0 h md wy la pc_ a1_1 a2_2 a3_3 a4_4 a5_5 a6_6], [zAr T 0 a1_1 7 f1], [zAr T 0 a2_2 7 f2], [zAr T 0 a3_3 7 (upd (upd (upd (upd (upd (upd (upd (upd (upd (upd (upd (upd (upd f3 6 ((f3 6) + 1)) 6 0) 5 (((upd (upd f3 6 ((f3 6) + 1)) 6 0) 5) + 1)) 5 0) 4 (((upd (upd (upd (upd f3 6 ((f3 6) + 1)) 6 0) 5 (((upd (upd f3 6 ((f3 6) + 1)) 6 0) 5) + 1)) 5 0) 4) + 1)) 4 0) 3 (((upd (upd (upd (upd (upd (upd f3 6 ((f3 6) + 1)) 6 0) 5 (((upd (upd f3 6 ((f3 6) + 1)) 6 0) 5) + 1)) 5 0) 4 (((upd (upd (upd (upd f3 6 ((f3 6) + 1)) 6 0) 5 (((upd (upd f3 6 ((f3 6) + 1)) 6 0) 5) + 1)) 5 0) 4) + 1)) 4 0) 3) + 1)) 3 0) 2 (((upd (upd (upd (upd (upd (upd (upd (upd f3 6 ((f3 6) + 1)) 6 0) 5 (((upd (upd f3 6 ((f3 6) + 1)) 6 0) 5) + 1)) 5 0) 4 (((upd (upd (upd (upd f3 6 ((f3 6) + 1)) 6 0) 5 (((upd (upd f3 6 ((f3 6) + 1)) 6 0) 5) + 1)) 5 0) 4) + 1)) 4 0) 3 (((upd (upd (upd (upd (upd (upd f3 6 ((f3 6) + 1)) 6 0) 5 (((upd (upd f3 6 ((f3 6) + 1)) 6 0) 5) + 1)) 5 0) 4 (((upd (upd (upd (upd f3 6 ((f3 6) + 1)) 6 0) 5 (((upd (upd f3 6 ((f3 6) + 1)) 6 0) 5) + 1)) 5 0) 4) + 1)) 4 0) 3) + 1)) 3 0) 2) + 1)) 2 0) 1 (((upd (upd (upd (upd (upd (upd (upd (upd (upd (upd f3 6 ((f3 6) + 1)) 6 0) 5 (((upd (upd f3 6 ((f3 6) + 1)) 6 0) 5) + 1)) 5 0) 4 (((upd (upd (upd (upd f3 6 ((f3 6) + 1)) 6 0) 5 (((upd (upd f3 6 ((f3 6) + 1)) 6 0) 5) + 1)) 5 0) 4) + 1)) 4 0) 3 (((upd (upd (upd (upd (upd (upd f3 6 ((f3 6) + 1)) 6 0) 5 (((upd (upd f3 6 ((f3 6) + 1)) 6 0) 5) + 1)) 5 0) 4 (((upd (upd (upd (upd f3 6 ((f3 6) + 1)) 6 0) 5 (((upd (upd f3 6 ((f3 6) + 1)) 6 0) 5) + 1)) 5 0) 4) + 1)) 4 0) 3) + 1)) 3 0) 2 (((upd (upd (upd (upd (upd (upd (upd (upd f3 6 ((f3 6) + 1)) 6 0) 5 (((upd (upd f3 6 ((f3 6) + 1)) 6 0) 5) + 1)) 5 0) 4 (((upd (upd (upd (upd f3 6 ((f3 6) + 1)) 6 0) 5 (((upd (upd f3 6 ((f3 6) + 1)) 6 0) 5) + 1)) 5 0) 4) + 1)) 4 0) 3 (((upd (upd (upd (upd (upd (upd f3 6 ((f3 6) + 1)) 6 0) 5 (((upd (upd f3 6 ((f3 6) + 1)) 6 0) 5) + 1)) 5 0) 4 (((upd (upd (upd (upd f3 6 ((f3 6) + 1)) 6 0) 5 (((upd (upd f3 6 ((f3 6) + 1)) 6 0) 5) + 1)) 5 0) 4) + 1)) 4 0) 3) + 1)) 3 0) 2) + 1)) 2 0) 1) + 1)) 1 0) 0 (((upd (upd (upd (upd (upd (upd (upd (upd (upd (upd (upd (upd f3 6 ((f3 6) + 1)) 6 0) 5 (((upd (upd f3 6 ((f3 6) + 1)) 6 0) 5) + 1)) 5 0) 4 (((upd (upd (upd (upd f3 6 ((f3 6) + 1)) 6 0) 5 (((upd (upd f3 6 ((f3 6) + 1)) 6 0) 5) + 1)) 5 0) 4) + 1)) 4 0) 3 (((upd (upd (upd (upd (upd (upd f3 6 ((f3 6) + 1)) 6 0) 5 (((upd (upd f3 6 ((f3 6) + 1)) 6 0) 5) + 1)) 5 0) 4 (((upd (upd (upd (upd f3 6 ((f3 6) + 1)) 6 0) 5 (((upd (upd f3 6 ((f3 6) + 1)) 6 0) 5) + 1)) 5 0) 4) + 1)) 4 0) 3) + 1)) 3 0) 2 (((upd (upd (upd (upd (upd (upd (upd (upd f3 6 ((f3 6) + 1)) 6 0) 5 (((upd (upd f3 6 ((f3 6) + 1)) 6 0) 5) + 1)) 5 0) 4 (((upd (upd (upd (upd f3 6 ((f3 6) + 1)) 6 0) 5 (((upd (upd f3 6 ((f3 6) + 1)) 6 0) 5) + 1)) 5 0) 4) + 1)) 4 0) 3 (((upd (upd (upd (upd (upd (upd f3 6 ((f3 6) + 1)) 6 0) 5 (((upd (upd f3 6 ((f3 6) + 1)) 6 0) 5) + 1)) 5 0) 4 (((upd (upd (upd (upd f3 6 ((f3 6) + 1)) 6 0) 5 (((upd (upd f3 6 ((f3 6) + 1)) 6 0) 5) + 1)) 5 0) 4) + 1)) 4 0) 3) + 1)) 3 0) 2) + 1)) 2 0) 1 (((upd (upd (upd (upd (upd (upd (upd (upd (upd (upd f3 6 ((f3 6) + 1)) 6 0) 5 (((upd (upd f3 6 ((f3 6) + 1)) 6 0) 5) + 1)) 5 0) 4 (((upd (upd (upd (upd f3 6 ((f3 6) + 1)) 6 0) 5 (((upd (upd f3 6 ((f3 6) + 1)) 6 0) 5) + 1)) 5 0) 4) + 1)) 4 0) 3 (((upd (upd (upd (upd (upd (upd f3 6 ((f3 6) + 1)) 6 0) 5 (((upd (upd f3 6 ((f3 6) + 1)) 6 0) 5) + 1)) 5 0) 4 (((upd (upd (upd (upd f3 6 ((f3 6) + 1)) 6 0) 5 (((upd (upd f3 6 ((f3 6) + 1)) 6 0) 5) + 1)) 5 0) 4) + 1)) 4 0) 3) + 1)) 3 0) 2 (((upd (upd (upd (upd (upd (upd (upd (upd f3 6 ((f3 6) + 1)) 6 0) 5 (((upd (upd f3 6 ((f3 6) + 1)) 6 0) 5) + 1)) 5 0) 4 (((upd (upd (upd (upd f3 6 ((f3 6) + 1)) 6 0) 5 (((upd (upd f3 6 ((f3 6) + 1)) 6 0) 5) + 1)) 5 0) 4) + 1)) 4 0) 3 (((upd (upd (upd (upd (upd (upd f3 6 ((f3 6) + 1)) 6 0) 5 (((upd (upd f3 6 ((f3 6) + 1)) 6 0) 5) + 1)) 5 0) 4 (((upd (upd (upd (upd f3 6 ((f3 6) + 1)) 6 0) 5 (((upd (upd f3 6 ((f3 6) + 1)) 6 0) 5) + 1)) 5 0) 4) + 1)) 4 0) 3) + 1)) 3 0) 2) + 1)) 2 0) 1) + 1)) 1 0) 0) + 1))], [zAr T 0 a4_4 n4 f4], [zAr T 0 a5_5 n4 f5], [zAr T 0 a6_6 n4 f6]] _ _ := G
              refine lv_aload_n hx hb dX0_nextRow_17 rfl (lv_at hl 1 rfl) ?_
              refine z_get C G clX0 0 rfl 6 (by decide) m_fl_RX0_25 rfl dX0_nextRow_18 ?_
              refine lv_iload_n hx hb dX0_nextRow_21 rfl (lv_at hl 0 rfl) ?_
              refine z_ild C G 3 rfl (vp_in_nI (n := 0) (by decide) (by decide)) dX0_nextRow_22 ?_
              refine lv_topi (fun v_32 ev_32 => ?_)
              have ev_32 : v_32 = ((upd (upd (upd (upd (upd (upd (upd (upd (upd (upd (upd (upd f3 6 ((f3 6) + 1)) 6 0) 5 (((upd (upd f3 6 ((f3 6) + 1)) 6 0) 5) + 1)) 5 0) 4 (((upd (upd (upd (upd f3 6 ((f3 6) + 1)) 6 0) 5 (((upd (upd f3 6 ((f3 6) + 1)) 6 0) 5) + 1)) 5 0) 4) + 1)) 4 0) 3 (((upd (upd (upd (upd (upd (upd f3 6 ((f3 6) + 1)) 6 0) 5 (((upd (upd f3 6 ((f3 6) + 1)) 6 0) 5) + 1)) 5 0) 4 (((upd (upd (upd (upd f3 6 ((f3 6) + 1)) 6 0) 5 (((upd (upd f3 6 ((f3 6) + 1)) 6 0) 5) + 1)) 5 0) 4) + 1)) 4 0) 3) + 1)) 3 0) 2 (((upd (upd (upd (upd (upd (upd (upd (upd f3 6 ((f3 6) + 1)) 6 0) 5 (((upd (upd f3 6 ((f3 6) + 1)) 6 0) 5) + 1)) 5 0) 4 (((upd (upd (upd (upd f3 6 ((f3 6) + 1)) 6 0) 5 (((upd (upd f3 6 ((f3 6) + 1)) 6 0) 5) + 1)) 5 0) 4) + 1)) 4 0) 3 (((upd (upd (upd (upd (upd (upd f3 6 ((f3 6) + 1)) 6 0) 5 (((upd (upd f3 6 ((f3 6) + 1)) 6 0) 5) + 1)) 5 0) 4 (((upd (upd (upd (upd f3 6 ((f3 6) + 1)) 6 0) 5 (((upd (upd f3 6 ((f3 6) + 1)) 6 0) 5) + 1)) 5 0) 4) + 1)) 4 0) 3) + 1)) 3 0) 2) + 1)) 2 0) 1 (((upd (upd (upd (upd (upd (upd (upd (upd (upd (upd f3 6 ((f3 6) + 1)) 6 0) 5 (((upd (upd f3 6 ((f3 6) + 1)) 6 0) 5) + 1)) 5 0) 4 (((upd (upd (upd (upd f3 6 ((f3 6) + 1)) 6 0) 5 (((upd (upd f3 6 ((f3 6) + 1)) 6 0) 5) + 1)) 5 0) 4) + 1)) 4 0) 3 (((upd (upd (upd (upd (upd (upd f3 6 ((f3 6) + 1)) 6 0) 5 (((upd (upd f3 6 ((f3 6) + 1)) 6 0) 5) + 1)) 5 0) 4 (((upd (upd (upd (upd f3 6 ((f3 6) + 1)) 6 0) 5 (((upd (upd f3 6 ((f3 6) + 1)) 6 0) 5) + 1)) 5 0) 4) + 1)) 4 0) 3) + 1)) 3 0) 2 (((upd (upd (upd (upd (upd (upd (upd (upd f3 6 ((f3 6) + 1)) 6 0) 5 (((upd (upd f3 6 ((f3 6) + 1)) 6 0) 5) + 1)) 5 0) 4 (((upd (upd (upd (upd f3 6 ((f3 6) + 1)) 6 0) 5 (((upd (upd f3 6 ((f3 6) + 1)) 6 0) 5) + 1)) 5 0) 4) + 1)) 4 0) 3 (((upd (upd (upd (upd (upd (upd f3 6 ((f3 6) + 1)) 6 0) 5 (((upd (upd f3 6 ((f3 6) + 1)) 6 0) 5) + 1)) 5 0) 4 (((upd (upd (upd (upd f3 6 ((f3 6) + 1)) 6 0) 5 (((upd (upd f3 6 ((f3 6) + 1)) 6 0) 5) + 1)) 5 0) 4) + 1)) 4 0) 3) + 1)) 3 0) 2) + 1)) 2 0) 1) + 1)) 1 0) 0) + 1 := ev_32
              subst ev_32
              refine lv_aload_n hx hb dX0_nextRow_23 rfl (lv_at hl 1 rfl) ?_
              refine z_get C G clX0 0 rfl 4 (by decide) m_fl_RX0_18 rfl dX0_nextRow_24 ?_
              refine lv_iload_n hx hb dX0_nextRow_27 rfl (lv_at hl 0 rfl) ?_
              refine z_ild C G 1 rfl (vp_in_nI (n := 0) (by decide) (by decide)) dX0_nextRow_28 ?_
              refine lv_topi (fun v_33 ev_33 => ?_)
              rw [show ((0 : Int32).toNatClampNeg) = 0 from rfl] at ev_33
              subst ev_33
              refine lv_icmp_ge (tgt := 33) hx hb dX0_nextRow_29 (by decide) (fun c_34 => ?_) (fun c_34 => ?_)
              · have c_34n : (f1 0).toInt ≤ (((upd (upd (upd (upd (upd (upd (upd (upd (upd (upd (upd (upd f3 6 ((f3 6) + 1)) 6 0) 5 (((upd (upd f3 6 ((f3 6) + 1)) 6 0) 5) + 1)) 5 0) 4 (((upd (upd (upd (upd f3 6 ((f3 6) + 1)) 6 0) 5 (((upd (upd f3 6 ((f3 6) + 1)) 6 0) 5) + 1)) 5 0) 4) + 1)) 4 0) 3 (((upd (upd (upd (upd (upd (upd f3 6 ((f3 6) + 1)) 6 0) 5 (((upd (upd f3 6 ((f3 6) + 1)) 6 0) 5) + 1)) 5 0) 4 (((upd (upd (upd (upd f3 6 ((f3 6) + 1)) 6 0) 5 (((upd (upd f3 6 ((f3 6) + 1)) 6 0) 5) + 1)) 5 0) 4) + 1)) 4 0) 3) + 1)) 3 0) 2 (((upd (upd (upd (upd (upd (upd (upd (upd f3 6 ((f3 6) + 1)) 6 0) 5 (((upd (upd f3 6 ((f3 6) + 1)) 6 0) 5) + 1)) 5 0) 4 (((upd (upd (upd (upd f3 6 ((f3 6) + 1)) 6 0) 5 (((upd (upd f3 6 ((f3 6) + 1)) 6 0) 5) + 1)) 5 0) 4) + 1)) 4 0) 3 (((upd (upd (upd (upd (upd (upd f3 6 ((f3 6) + 1)) 6 0) 5 (((upd (upd f3 6 ((f3 6) + 1)) 6 0) 5) + 1)) 5 0) 4 (((upd (upd (upd (upd f3 6 ((f3 6) + 1)) 6 0) 5 (((upd (upd f3 6 ((f3 6) + 1)) 6 0) 5) + 1)) 5 0) 4) + 1)) 4 0) 3) + 1)) 3 0) 2) + 1)) 2 0) 1 (((upd (upd (upd (upd (upd (upd (upd (upd (upd (upd f3 6 ((f3 6) + 1)) 6 0) 5 (((upd (upd f3 6 ((f3 6) + 1)) 6 0) 5) + 1)) 5 0) 4 (((upd (upd (upd (upd f3 6 ((f3 6) + 1)) 6 0) 5 (((upd (upd f3 6 ((f3 6) + 1)) 6 0) 5) + 1)) 5 0) 4) + 1)) 4 0) 3 (((upd (upd (upd (upd (upd (upd f3 6 ((f3 6) + 1)) 6 0) 5 (((upd (upd f3 6 ((f3 6) + 1)) 6 0) 5) + 1)) 5 0) 4 (((upd (upd (upd (upd f3 6 ((f3 6) + 1)) 6 0) 5 (((upd (upd f3 6 ((f3 6) + 1)) 6 0) 5) + 1)) 5 0) 4) + 1)) 4 0) 3) + 1)) 3 0) 2 (((upd (upd (upd (upd (upd (upd (upd (upd f3 6 ((f3 6) + 1)) 6 0) 5 (((upd (upd f3 6 ((f3 6) + 1)) 6 0) 5) + 1)) 5 0) 4 (((upd (upd (upd (upd f3 6 ((f3 6) + 1)) 6 0) 5 (((upd (upd f3 6 ((f3 6) + 1)) 6 0) 5) + 1)) 5 0) 4) + 1)) 4 0) 3 (((upd (upd (upd (upd (upd (upd f3 6 ((f3 6) + 1)) 6 0) 5 (((upd (upd f3 6 ((f3 6) + 1)) 6 0) 5) + 1)) 5 0) 4 (((upd (upd (upd (upd f3 6 ((f3 6) + 1)) 6 0) 5 (((upd (upd f3 6 ((f3 6) + 1)) 6 0) 5) + 1)) 5 0) 4) + 1)) 4 0) 3) + 1)) 3 0) 2) + 1)) 2 0) 1) + 1)) 1 0) 0) + 1).toInt := (fa_le _ _).mp c_34
                refine lv_aload_n hx hb dX0_nextRow_33 rfl (lv_at hl 1 rfl) ?_
                refine z_get C G clX0 0 rfl 6 (by decide) m_fl_RX0_25 rfl dX0_nextRow_34 ?_
                refine lv_iload_n hx hb dX0_nextRow_37 rfl (lv_at hl 0 rfl) ?_
                refine lv_iconst (v := 0) hx hb dX0_nextRow_38 (by decide) ?_
                refine z_ist C G 3 rfl (vp_in_nI (n := 0) (by decide) (by decide)) dX0_nextRow_39 (fun H locs G => ?_)
                have G : zS T A s.heap s [[zO0 h md wy la pc_ a1_1 a2_2 a3_3 a4_4 a5_5 a6_6], [zAr T 0 a1_1 7 f1], [zAr T 0 a2_2 7 f2], [zAr T 0 a3_3 7 (upd (upd (upd (upd (upd (upd (upd (upd (upd (upd (upd (upd (upd (upd f3 6 ((f3 6) + 1)) 6 0) 5 (((upd (upd f3 6 ((f3 6) + 1)) 6 0) 5) + 1)) 5 0) 4 (((upd (upd (upd (upd f3 6 ((f3 6) + 1)) 6 0) 5 (((upd (upd f3 6 ((f3 6) + 1)) 6 0) 5) + 1)) 5 0) 4) + 1)) 4 0) 3 (((upd (upd (upd (upd (upd (upd f3 6 ((f3 6) + 1)) 6 0) 5 (((upd (upd f3 6 ((f3 6) + 1)) 6 0) 5) + 1)) 5 0) 4 (((upd (upd (upd (upd f3 6 ((f3 6) + 1)) 6 0) 5 (((upd (upd f3 6 ((f3 6) + 1)) 6 0) 5) + 1)) 5 0) 4) + 1)) 4 0) 3) + 1)) 3 0) 2 (((upd (upd (upd (upd (upd (upd (upd (upd f3 6 ((f3 6) + 1)) 6 0) 5 (((upd (upd f3 6 ((f3 6) + 1)) 6 0) 5) + 1)) 5 0) 4 (((upd (upd (upd (upd f3 6 ((f3 6) + 1)) 6 0) 5 (((upd (upd f3 6 ((f3 6) + 1)) 6 0) 5) + 1)) 5 0) 4) + 1)) 4 0) 3 (((upd (upd (upd (upd (upd (upd f3 6 ((f3 6) + 1)) 6 0) 5 (((upd (upd f3 6 ((f3 6) + 1)) 6 0) 5) + 1)) 5 0) 4 (((upd (upd (upd (upd f3 6 ((f3 6) + 1)) 6 0) 5 (((upd (upd f3 6 ((f3 6) + 1)) 6 0) 5) + 1)) 5 0) 4) + 1)) 4 0) 3) + 1)) 3 0) 2) + 1)) 2 0) 1 (((upd (upd (upd (upd (upd (upd (upd (upd (upd (upd f3 6 ((f3 6) + 1)) 6 0) 5 (((upd (upd f3 6 ((f3 6) + 1)) 6 0) 5) + 1)) 5 0) 4 (((upd (upd (upd (upd f3 6 ((f3 6) + 1)) 6 0) 5 (((upd (upd f3 6 ((f3 6) + 1)) 6 0) 5) + 1)) 5 0) 4) + 1)) 4 0) 3 (((upd (upd (upd (upd (upd (upd f3 6 ((f3 6) + 1)) 6 0) 5 (((upd (upd f3 6 ((f3 6) + 1)) 6 0) 5) + 1)) 5 0) 4 (((upd (upd (upd (upd f3 6 ((f3 6) + 1)) 6 0) 5 (((upd (upd f3 6 ((f3 6) + 1)) 6 0) 5) + 1)) 5 0) 4) + 1)) 4 0) 3) + 1)) 3 0) 2 (((upd (upd (upd (upd (upd (upd (upd (upd f3 6 ((f3 6) + 1)) 6 0) 5 (((upd (upd f3 6 ((f3 6) + 1)) 6 0) 5) + 1)) 5 0) 4 (((upd (upd (upd (upd f3 6 ((f3 6) + 1)) 6 0) 5 (((upd (upd f3 6 ((f3 6) + 1)) 6 0) 5) + 1)) 5 0) 4) + 1)) 4 0) 3 (((upd (upd (upd (upd (upd (upd f3 6 ((f3 6) + 1)) 6 0) 5 (((upd (upd f3 6 ((f3 6) + 1)) 6 0) 5) + 1)) 5 0) 4 (((upd (upd (upd (upd f3 6 ((f3 6) + 1)) 6 0) 5 (((upd (upd f3 6 ((f3 6) + 1)) 6 0) 5) + 1)) 5 0) 4) + 1)) 4 0) 3) + 1)) 3 0) 2) + 1)) 2 0) 1) + 1)) 1 0) 0 (((upd (upd (upd (upd (upd (upd (upd (upd (upd (upd (upd (upd f3 6 ((f3 6) + 1)) 6 0) 5 (((upd (upd f3 6 ((f3 6) + 1)) 6 0) 5) + 1)) 5 0) 4 (((upd (upd (upd (upd f3 6 ((f3 6) + 1)) 6 0) 5 (((upd (upd f3 6 ((f3 6) + 1)) 6 0) 5) + 1)) 5 0) 4) + 1)) 4 0) 3 (((upd (upd (upd (upd (upd (upd f3 6 ((f3 6) + 1)) 6 0) 5 (((upd (upd f3 6 ((f3 6) + 1)) 6 0) 5) + 1)) 5 0) 4 (((upd (upd (upd (upd f3 6 ((f3 6) + 1)) 6 0) 5 (((upd (upd f3 6 ((f3 6) + 1)) 6 0) 5) + 1)) 5 0) 4) + 1)) 4 0) 3) + 1)) 3 0) 2 (((upd (upd (upd (upd (upd (upd (upd (upd f3 6 ((f3 6) + 1)) 6 0) 5 (((upd (upd f3 6 ((f3 6) + 1)) 6 0) 5) + 1)) 5 0) 4 (((upd (upd (upd (upd f3 6 ((f3 6) + 1)) 6 0) 5 (((upd (upd f3 6 ((f3 6) + 1)) 6 0) 5) + 1)) 5 0) 4) + 1)) 4 0) 3 (((upd (upd (upd (upd (upd (upd f3 6 ((f3 6) + 1)) 6 0) 5 (((upd (upd f3 6 ((f3 6) + 1)) 6 0) 5) + 1)) 5 0) 4 (((upd (upd (upd (upd f3 6 ((f3 6) + 1)) 6 0) 5 (((upd (upd f3 6 ((f3 6) + 1)) 6 0) 5) + 1)) 5 0) 4) + 1)) 4 0) 3) + 1)) 3 0) 2) + 1)) 2 0) 1 (((upd (upd (upd (upd (upd (upd (upd (upd (upd (upd f3 6 ((f3 6) + 1)) 6 0) 5 (((upd (upd f3 6 ((f3 6) + 1)) 6 0) 5) + 1)) 5 0) 4 (((upd (upd (upd (upd f3 6 ((f3 6) + 1)) 6 0) 5 (((upd (upd f3 6 ((f3 6) + 1)) 6 0) 5) + 1)) 5 0) 4) + 1)) 4 0) 3 (((upd (upd (upd (upd (upd (upd f3 6 ((f3 6) + 1)) 6 0) 5 (((upd (upd f3 6 ((f3 6) + 1)) 6 0) 5) + 1)) 5 0) 4 (((upd (upd (upd (upd f3 6 ((f3 6) + 1)) 6 0) 5 (((upd (upd f3 6 ((f3 6) + 1)) 6 0) 5) + 1)) 5 0) 4) + 1)) 4 0) 3) + 1)) 3 0) 2 (((upd (upd (upd (upd (upd (upd (upd (upd f3 6 ((f3 6) + 1)) 6 0) 5 (((upd (upd f3 6 ((f3 6) + 1)) 6 0) 5) + 1)) 5 0) 4 (((upd (upd (upd (upd f3 6 ((f3 6) + 1)) 6 0) 5 (((upd (upd f3 6 ((f3 6) + 1)) 6 0) 5) + 1)) 5 0) 4) + 1)) 4 0) 3 (((upd (upd (upd (upd (upd (upd f3 6 ((f3 6) + 1)) 6 0) 5 (((upd (upd f3 6 ((f3 6) + 1)) 6 0) 5) + 1)) 5 0) 4 (((upd (upd (upd (upd f3 6 ((f3 6) + 1)) 6 0) 5 (((upd (upd f3 6 ((f3 6) + 1)) 6 0) 5) + 1)) 5 0) 4) + 1)) 4 0) 3) + 1)) 3 0) 2) + 1)) 2 0) 1) + 1)) 1 0) 0) + 1)) 0 0)], [zAr T 0 a4_4 n4 f4], [zAr T 0 a5_5 n4 f5], [zAr T 0 a6_6 n4 f6]] _ _ := G
                refine lv_iinc (v := (-1)) (lv' := [(1, .int (-1)), (0, .ref h)]) hx hb dX0_nextRow_40 hl (k := 0) rfl (by decide) (by decide) (zLvf_h rfl) (fun ls hl => ?_)
                refine lv_goto (tgt := 3) hx hb dX0_nextRow_43 (by decide) ?_
                refine lv_iload_n hx hb dX0_nextRow_3 rfl (lv_at hl 0 rfl) ?_
                refine lv_if_lt (tgt := 46) hx hb dX0_nextRow_4 (by decide) (fun _ => ?_) (fun q => absurd (by decide) q)
                have hw_35 : bWays T h la md wy pc_ f1 f2 (upd (upd (upd (upd (upd (upd (upd (upd (upd (upd (upd (upd (upd (upd f3 6 ((f3 6) + 1)) 6 0) 5 (((upd (upd f3 6 ((f3 6) + 1)) 6 0) 5) + 1)) 5 0) 4 (((upd (upd (upd (upd f3 6 ((f3 6) + 1)) 6 0) 5 (((upd (upd f3 6 ((f3 6) + 1)) 6 0) 5) + 1)) 5 0) 4) + 1)) 4 0) 3 (((upd (upd (upd (upd (upd (upd f3 6 ((f3 6) + 1)) 6 0) 5 (((upd (upd f3 6 ((f3 6) + 1)) 6 0) 5) + 1)) 5 0) 4 (((upd (upd (upd (upd f3 6 ((f3 6) + 1)) 6 0) 5 (((upd (upd f3 6 ((f3 6) + 1)) 6 0) 5) + 1)) 5 0) 4) + 1)) 4 0) 3) + 1)) 3 0) 2 (((upd (upd (upd (upd (upd (upd (upd (upd f3 6 ((f3 6) + 1)) 6 0) 5 (((upd (upd f3 6 ((f3 6) + 1)) 6 0) 5) + 1)) 5 0) 4 (((upd (upd (upd (upd f3 6 ((f3 6) + 1)) 6 0) 5 (((upd (upd f3 6 ((f3 6) + 1)) 6 0) 5) + 1)) 5 0) 4) + 1)) 4 0) 3 (((upd (upd (upd (upd (upd (upd f3 6 ((f3 6) + 1)) 6 0) 5 (((upd (upd f3 6 ((f3 6) + 1)) 6 0) 5) + 1)) 5 0) 4 (((upd (upd (upd (upd f3 6 ((f3 6) + 1)) 6 0) 5 (((upd (upd f3 6 ((f3 6) + 1)) 6 0) 5) + 1)) 5 0) 4) + 1)) 4 0) 3) + 1)) 3 0) 2) + 1)) 2 0) 1 (((upd (upd (upd (upd (upd (upd (upd (upd (upd (upd f3 6 ((f3 6) + 1)) 6 0) 5 (((upd (upd f3 6 ((f3 6) + 1)) 6 0) 5) + 1)) 5 0) 4 (((upd (upd (upd (upd f3 6 ((f3 6) + 1)) 6 0) 5 (((upd (upd f3 6 ((f3 6) + 1)) 6 0) 5) + 1)) 5 0) 4) + 1)) 4 0) 3 (((upd (upd (upd (upd (upd (upd f3 6 ((f3 6) + 1)) 6 0) 5 (((upd (upd f3 6 ((f3 6) + 1)) 6 0) 5) + 1)) 5 0) 4 (((upd (upd (upd (upd f3 6 ((f3 6) + 1)) 6 0) 5 (((upd (upd f3 6 ((f3 6) + 1)) 6 0) 5) + 1)) 5 0) 4) + 1)) 4 0) 3) + 1)) 3 0) 2 (((upd (upd (upd (upd (upd (upd (upd (upd f3 6 ((f3 6) + 1)) 6 0) 5 (((upd (upd f3 6 ((f3 6) + 1)) 6 0) 5) + 1)) 5 0) 4 (((upd (upd (upd (upd f3 6 ((f3 6) + 1)) 6 0) 5 (((upd (upd f3 6 ((f3 6) + 1)) 6 0) 5) + 1)) 5 0) 4) + 1)) 4 0) 3 (((upd (upd (upd (upd (upd (upd f3 6 ((f3 6) + 1)) 6 0) 5 (((upd (upd f3 6 ((f3 6) + 1)) 6 0) 5) + 1)) 5 0) 4 (((upd (upd (upd (upd f3 6 ((f3 6) + 1)) 6 0) 5 (((upd (upd f3 6 ((f3 6) + 1)) 6 0) 5) + 1)) 5 0) 4) + 1)) 4 0) 3) + 1)) 3 0) 2) + 1)) 2 0) 1) + 1)) 1 0) 0 (((upd (upd (upd (upd (upd (upd (upd (upd (upd (upd (upd (upd f3 6 ((f3 6) + 1)) 6 0) 5 (((upd (upd f3 6 ((f3 6) + 1)) 6 0) 5) + 1)) 5 0) 4 (((upd (upd (upd (upd f3 6 ((f3 6) + 1)) 6 0) 5 (((upd (upd f3 6 ((f3 6) + 1)) 6 0) 5) + 1)) 5 0) 4) + 1)) 4 0) 3 (((upd (upd (upd (upd (upd (upd f3 6 ((f3 6) + 1)) 6 0) 5 (((upd (upd f3 6 ((f3 6) + 1)) 6 0) 5) + 1)) 5 0) 4 (((upd (upd (upd (upd f3 6 ((f3 6) + 1)) 6 0) 5 (((upd (upd f3 6 ((f3 6) + 1)) 6 0) 5) + 1)) 5 0) 4) + 1)) 4 0) 3) + 1)) 3 0) 2 (((upd (upd (upd (upd (upd (upd (upd (upd f3 6 ((f3 6) + 1)) 6 0) 5 (((upd (upd f3 6 ((f3 6) + 1)) 6 0) 5) + 1)) 5 0) 4 (((upd (upd (upd (upd f3 6 ((f3 6) + 1)) 6 0) 5 (((upd (upd f3 6 ((f3 6) + 1)) 6 0) 5) + 1)) 5 0) 4) + 1)) 4 0) 3 (((upd (upd (upd (upd (upd (upd f3 6 ((f3 6) + 1)) 6 0) 5 (((upd (upd f3 6 ((f3 6) + 1)) 6 0) 5) + 1)) 5 0) 4 (((upd (upd (upd (upd f3 6 ((f3 6) + 1)) 6 0) 5 (((upd (upd f3 6 ((f3 6) + 1)) 6 0) 5) + 1)) 5 0) 4) + 1)) 4 0) 3) + 1)) 3 0) 2) + 1)) 2 0) 1 (((upd (upd (upd (upd (upd (upd (upd (upd (upd (upd f3 6 ((f3 6) + 1)) 6 0) 5 (((upd (upd f3 6 ((f3 6) + 1)) 6 0) 5) + 1)) 5 0) 4 (((upd (upd (upd (upd f3 6 ((f3 6) + 1)) 6 0) 5 (((upd (upd f3 6 ((f3 6) + 1)) 6 0) 5) + 1)) 5 0) 4) + 1)) 4 0) 3 (((upd (upd (upd (upd (upd (upd f3 6 ((f3 6) + 1)) 6 0) 5 (((upd (upd f3 6 ((f3 6) + 1)) 6 0) 5) + 1)) 5 0) 4 (((upd (upd (upd (upd f3 6 ((f3 6) + 1)) 6 0) 5 (((upd (upd f3 6 ((f3 6) + 1)) 6 0) 5) + 1)) 5 0) 4) + 1)) 4 0) 3) + 1)) 3 0) 2 (((upd (upd (upd (upd (upd (upd (upd (upd f3 6 ((f3 6) + 1)) 6 0) 5 (((upd (upd f3 6 ((f3 6) + 1)) 6 0) 5) + 1)) 5 0) 4 (((upd (upd (upd (upd f3 6 ((f3 6) + 1)) 6 0) 5 (((upd (upd f3 6 ((f3 6) + 1)) 6 0) 5) + 1)) 5 0) 4) + 1)) 4 0) 3 (((upd (upd (upd (upd (upd (upd f3 6 ((f3 6) + 1)) 6 0) 5 (((upd (upd f3 6 ((f3 6) + 1)) 6 0) 5) + 1)) 5 0) 4 (((upd (upd (upd (upd f3 6 ((f3 6) + 1)) 6 0) 5 (((upd (upd f3 6 ((f3 6) + 1)) 6 0) 5) + 1)) 5 0) 4) + 1)) 4 0) 3) + 1)) 3 0) 2) + 1)) 2 0) 1) + 1)) 1 0) 0) + 1)) 0 0) f4 f5 f6 n4 [zO0 h md wy la pc_ a1_1 a2_2 a3_3 a4_4 a5_5 a6_6, zAr T 0 a1_1 7 f1, zAr T 0 a2_2 7 f2, zAr T 0 a3_3 7 (upd (upd (upd (upd (upd (upd (upd (upd (upd (upd (upd (upd (upd (upd f3 6 ((f3 6) + 1)) 6 0) 5 (((upd (upd f3 6 ((f3 6) + 1)) 6 0) 5) + 1)) 5 0) 4 (((upd (upd (upd (upd f3 6 ((f3 6) + 1)) 6 0) 5 (((upd (upd f3 6 ((f3 6) + 1)) 6 0) 5) + 1)) 5 0) 4) + 1)) 4 0) 3 (((upd (upd (upd (upd (upd (upd f3 6 ((f3 6) + 1)) 6 0) 5 (((upd (upd f3 6 ((f3 6) + 1)) 6 0) 5) + 1)) 5 0) 4 (((upd (upd (upd (upd f3 6 ((f3 6) + 1)) 6 0) 5 (((upd (upd f3 6 ((f3 6) + 1)) 6 0) 5) + 1)) 5 0) 4) + 1)) 4 0) 3) + 1)) 3 0) 2 (((upd (upd (upd (upd (upd (upd (upd (upd f3 6 ((f3 6) + 1)) 6 0) 5 (((upd (upd f3 6 ((f3 6) + 1)) 6 0) 5) + 1)) 5 0) 4 (((upd (upd (upd (upd f3 6 ((f3 6) + 1)) 6 0) 5 (((upd (upd f3 6 ((f3 6) + 1)) 6 0) 5) + 1)) 5 0) 4) + 1)) 4 0) 3 (((upd (upd (upd (upd (upd (upd f3 6 ((f3 6) + 1)) 6 0) 5 (((upd (upd f3 6 ((f3 6) + 1)) 6 0) 5) + 1)) 5 0) 4 (((upd (upd (upd (upd f3 6 ((f3 6) + 1)) 6 0) 5 (((upd (upd f3 6 ((f3 6) + 1)) 6 0) 5) + 1)) 5 0) 4) + 1)) 4 0) 3) + 1)) 3 0) 2) + 1)) 2 0) 1 (((upd (upd (upd (upd (upd (upd (upd (upd (upd (upd f3 6 ((f3 6) + 1)) 6 0) 5 (((upd (upd f3 6 ((f3 6) + 1)) 6 0) 5) + 1)) 5 0) 4 (((upd (upd (upd (upd f3 6 ((f3 6) + 1)) 6 0) 5 (((upd (upd f3 6 ((f3 6) + 1)) 6 0) 5) + 1)) 5 0) 4) + 1)) 4 0) 3 (((upd (upd (upd (upd (upd (upd f3 6 ((f3 6) + 1)) 6 0) 5 (((upd (upd f3 6 ((f3 6) + 1)) 6 0) 5) + 1)) 5 0) 4 (((upd (upd (upd (upd f3 6 ((f3 6) + 1)) 6 0) 5 (((upd (upd f3 6 ((f3 6) + 1)) 6 0) 5) + 1)) 5 0) 4) + 1)) 4 0) 3) + 1)) 3 0) 2 (((upd (upd (upd (upd (upd (upd (upd (upd f3 6 ((f3 6) + 1)) 6 0) 5 (((upd (upd f3 6 ((f3 6) + 1)) 6 0) 5) + 1)) 5 0) 4 (((upd (upd (upd (upd f3 6 ((f3 6) + 1)) 6 0) 5 (((upd (upd f3 6 ((f3 6) + 1)) 6 0) 5) + 1)) 5 0) 4) + 1)) 4 0) 3 (((upd (upd (upd (upd (upd (upd f3 6 ((f3 6) + 1)) 6 0) 5 (((upd (upd f3 6 ((f3 6) + 1)) 6 0) 5) + 1)) 5 0) 4 (((upd (upd (upd (upd f3 6 ((f3 6) + 1)) 6 0) 5 (((upd (upd f3 6 ((f3 6) + 1)) 6 0) 5) + 1)) 5 0) 4) + 1)) 4 0) 3) + 1)) 3 0) 2) + 1)) 2 0) 1) + 1)) 1 0) 0 (((upd (upd (upd (upd (upd (upd (upd (upd (upd (upd (upd (upd f3 6 ((f3 6) + 1)) 6 0) 5 (((upd (upd f3 6 ((f3 6) + 1)) 6 0) 5) + 1)) 5 0) 4 (((upd (upd (upd (upd f3 6 ((f3 6) + 1)) 6 0) 5 (((upd (upd f3 6 ((f3 6) + 1)) 6 0) 5) + 1)) 5 0) 4) + 1)) 4 0) 3 (((upd (upd (upd (upd (upd (upd f3 6 ((f3 6) + 1)) 6 0) 5 (((upd (upd f3 6 ((f3 6) + 1)) 6 0) 5) + 1)) 5 0) 4 (((upd (upd (upd (upd f3 6 ((f3 6) + 1)) 6 0) 5 (((upd (upd f3 6 ((f3 6) + 1)) 6 0) 5) + 1)) 5 0) 4) + 1)) 4 0) 3) + 1)) 3 0) 2 (((upd (upd (upd (upd (upd (upd (upd (upd f3 6 ((f3 6) + 1)) 6 0) 5 (((upd (upd f3 6 ((f3 6) + 1)) 6 0) 5) + 1)) 5 0) 4 (((upd (upd (upd (upd f3 6 ((f3 6) + 1)) 6 0) 5 (((upd (upd f3 6 ((f3 6) + 1)) 6 0) 5) + 1)) 5 0) 4) + 1)) 4 0) 3 (((upd (upd (upd (upd (upd (upd f3 6 ((f3 6) + 1)) 6 0) 5 (((upd (upd f3 6 ((f3 6) + 1)) 6 0) 5) + 1)) 5 0) 4 (((upd (upd (upd (upd f3 6 ((f3 6) + 1)) 6 0) 5 (((upd (upd f3 6 ((f3 6) + 1)) 6 0) 5) + 1)) 5 0) 4) + 1)) 4 0) 3) + 1)) 3 0) 2) + 1)) 2 0) 1 (((upd (upd (upd (upd (upd (upd (upd (upd (upd (upd f3 6 ((f3 6) + 1)) 6 0) 5 (((upd (upd f3 6 ((f3 6) + 1)) 6 0) 5) + 1)) 5 0) 4 (((upd (upd (upd (upd f3 6 ((f3 6) + 1)) 6 0) 5 (((upd (upd f3 6 ((f3 6) + 1)) 6 0) 5) + 1)) 5 0) 4) + 1)) 4 0) 3 (((upd (upd (upd (upd (upd (upd f3 6 ((f3 6) + 1)) 6 0) 5 (((upd (upd f3 6 ((f3 6) + 1)) 6 0) 5) + 1)) 5 0) 4 (((upd (upd (upd (upd f3 6 ((f3 6) + 1)) 6 0) 5 (((upd (upd f3 6 ((f3 6) + 1)) 6 0) 5) + 1)) 5 0) 4) + 1)) 4 0) 3) + 1)) 3 0) 2 (((upd (upd (upd (upd (upd (upd (upd (upd f3 6 ((f3 6) + 1)) 6 0) 5 (((upd (upd f3 6 ((f3 6) + 1)) 6 0) 5) + 1)) 5 0) 4 (((upd (upd (upd (upd f3 6 ((f3 6) + 1)) 6 0) 5 (((upd (upd f3 6 ((f3 6) + 1)) 6 0) 5) + 1)) 5 0) 4) + 1)) 4 0) 3 (((upd (upd (upd (upd (upd (upd f3 6 ((f3 6) + 1)) 6 0) 5 (((upd (upd f3 6 ((f3 6) + 1)) 6 0) 5) + 1)) 5 0) 4 (((upd (upd (upd (upd f3 6 ((f3 6) + 1)) 6 0) 5 (((upd (upd f3 6 ((f3 6) + 1)) 6 0) 5) + 1)) 5 0) 4) + 1)) 4 0) 3) + 1)) 3 0) 2) + 1)) 2 0) 1) + 1)) 1 0) 0) + 1)) 0 0), zAr T 0 a4_4 n4 f4, zAr T 0 a5_5 n4 f5, zAr T 0 a6_6 n4 f6] := ⟨a1_1, a2_2, a3_3, a4_4, a5_5, a6_6, rfl⟩
                have G : zS T A s.heap s [[zO0 h md wy la pc_ a1_1 a2_2 a3_3 a4_4 a5_5 a6_6, zAr T 0 a1_1 7 f1, zAr T 0 a2_2 7 f2, zAr T 0 a3_3 7 (upd (upd (upd (upd (upd (upd (upd (upd (upd (upd (upd (upd (upd (upd f3 6 ((f3 6) + 1)) 6 0) 5 (((upd (upd f3 6 ((f3 6) + 1)) 6 0) 5) + 1)) 5 0) 4 (((upd (upd (upd (upd f3 6 ((f3 6) + 1)) 6 0) 5 (((upd (upd f3 6 ((f3 6) + 1)) 6 0) 5) + 1)) 5 0) 4) + 1)) 4 0) 3 (((upd (upd (upd (upd (upd (upd f3 6 ((f3 6) + 1)) 6 0) 5 (((upd (upd f3 6 ((f3 6) + 1)) 6 0) 5) + 1)) 5 0) 4 (((upd (upd (upd (upd f3 6 ((f3 6) + 1)) 6 0) 5 (((upd (upd f3 6 ((f3 6) + 1)) 6 0) 5) + 1)) 5 0) 4) + 1)) 4 0) 3) + 1)) 3 0) 2 (((upd (upd (upd (upd (upd (upd (upd (upd f3 6 ((f3 6) + 1)) 6 0) 5 (((upd (upd f3 6 ((f3 6) + 1)) 6 0) 5) + 1)) 5 0) 4 (((upd (upd (upd (upd f3 6 ((f3 6) + 1)) 6 0) 5 (((upd (upd f3 6 ((f3 6) + 1)) 6 0) 5) + 1)) 5 0) 4) + 1)) 4 0) 3 (((upd (upd (upd (upd (upd (upd f3 6 ((f3 6) + 1)) 6 0) 5 (((upd (upd f3 6 ((f3 6) + 1)) 6 0) 5) + 1)) 5 0) 4 (((upd (upd (upd (upd f3 6 ((f3 6) + 1)) 6 0) 5 (((upd (upd f3 6 ((f3 6) + 1)) 6 0) 5) + 1)) 5 0) 4) + 1)) 4 0) 3) + 1)) 3 0) 2) + 1)) 2 0) 1 (((upd (upd (upd (upd (upd (upd (upd (upd (upd (upd f3 6 ((f3 6) + 1)) 6 0) 5 (((upd (upd f3 6 ((f3 6) + 1)) 6 0) 5) + 1)) 5 0) 4 (((upd (upd (upd (upd f3 6 ((f3 6) + 1)) 6 0) 5 (((upd (upd f3 6 ((f3 6) + 1)) 6 0) 5) + 1)) 5 0) 4) + 1)) 4 0) 3 (((upd (upd (upd (upd (upd (upd f3 6 ((f3 6) + 1)) 6 0) 5 (((upd (upd f3 6 ((f3 6) + 1)) 6 0) 5) + 1)) 5 0) 4 (((upd (upd (upd (upd f3 6 ((f3 6) + 1)) 6 0) 5 (((upd (upd f3 6 ((f3 6) + 1)) 6 0) 5) + 1)) 5 0) 4) + 1)) 4 0) 3) + 1)) 3 0) 2 (((upd (upd (upd (upd (upd (upd (upd (upd f3 6 ((f3 6) + 1)) 6 0) 5 (((upd (upd f3 6 ((f3 6) + 1)) 6 0) 5) + 1)) 5 0) 4 (((upd (upd (upd (upd f3 6 ((f3 6) + 1)) 6 0) 5 (((upd (upd f3 6 ((f3 6) + 1)) 6 0) 5) + 1)) 5 0) 4) + 1)) 4 0) 3 (((upd (upd (upd (upd (upd (upd f3 6 ((f3 6) + 1)) 6 0) 5 (((upd (upd f3 6 ((f3 6) + 1)) 6 0) 5) + 1)) 5 0) 4 (((upd (upd (upd (upd f3 6 ((f3 6) + 1)) 6 0) 5 (((upd (upd f3 6 ((f3 6) + 1)) 6 0) 5) + 1)) 5 0) 4) + 1)) 4 0) 3) + 1)) 3 0) 2) + 1)) 2 0) 1) + 1)) 1 0) 0 (((upd (upd (upd (upd (upd (upd (upd (upd (upd (upd (upd (upd f3 6 ((f3 6) + 1)) 6 0) 5 (((upd (upd f3 6 ((f3 6) + 1)) 6 0) 5) + 1)) 5 0) 4 (((upd (upd (upd (upd f3 6 ((f3 6) + 1)) 6 0) 5 (((upd (upd f3 6 ((f3 6) + 1)) 6 0) 5) + 1)) 5 0) 4) + 1)) 4 0) 3 (((upd (upd (upd (upd (upd (upd f3 6 ((f3 6) + 1)) 6 0) 5 (((upd (upd f3 6 ((f3 6) + 1)) 6 0) 5) + 1)) 5 0) 4 (((upd (upd (upd (upd f3 6 ((f3 6) + 1)) 6 0) 5 (((upd (upd f3 6 ((f3 6) + 1)) 6 0) 5) + 1)) 5 0) 4) + 1)) 4 0) 3) + 1)) 3 0) 2 (((upd (upd (upd (upd (upd (upd (upd (upd f3 6 ((f3 6) + 1)) 6 0) 5 (((upd (upd f3 6 ((f3 6) + 1)) 6 0) 5) + 1)) 5 0) 4 (((upd (upd (upd (upd f3 6 ((f3 6) + 1)) 6 0) 5 (((upd (upd f3 6 ((f3 6) + 1)) 6 0) 5) + 1)) 5 0) 4) + 1)) 4 0) 3 (((upd (upd (upd (upd (upd (upd f3 6 ((f3 6) + 1)) 6 0) 5 (((upd (upd f3 6 ((f3 6) + 1)) 6 0) 5) + 1)) 5 0) 4 (((upd (upd (upd (upd f3 6 ((f3 6) + 1)) 6 0) 5 (((upd (upd f3 6 ((f3 6) + 1)) 6 0) 5) + 1)) 5 0) 4) + 1)) 4 0) 3) + 1)) 3 0) 2) + 1)) 2 0) 1 (((upd (upd (upd (upd (upd (upd (upd (upd (upd (upd f3 6 ((f3 6) + 1)) 6 0) 5 (((upd (upd f3 6 ((f3 6) + 1)) 6 0) 5) + 1)) 5 0) 4 (((upd (upd (upd (upd f3 6 ((f3 6) + 1)) 6 0) 5 (((upd (upd f3 6 ((f3 6) + 1)) 6 0) 5) + 1)) 5 0) 4) + 1)) 4 0) 3 (((upd (upd (upd (upd (upd (upd f3 6 ((f3 6) + 1)) 6 0) 5 (((upd (upd f3 6 ((f3 6) + 1)) 6 0) 5) + 1)) 5 0) 4 (((upd (upd (upd (upd f3 6 ((f3 6) + 1)) 6 0) 5 (((upd (upd f3 6 ((f3 6) + 1)) 6 0) 5) + 1)) 5 0) 4) + 1)) 4 0) 3) + 1)) 3 0) 2 (((upd (upd (upd (upd (upd (upd (upd (upd f3 6 ((f3 6) + 1)) 6 0) 5 (((upd (upd f3 6 ((f3 6) + 1)) 6 0) 5) + 1)) 5 0) 4 (((upd (upd (upd (upd f3 6 ((f3 6) + 1)) 6 0) 5 (((upd (upd f3 6 ((f3 6) + 1)) 6 0) 5) + 1)) 5 0) 4) + 1)) 4 0) 3 (((upd (upd (upd (upd (upd (upd f3 6 ((f3 6) + 1)) 6 0) 5 (((upd (upd f3 6 ((f3 6) + 1)) 6 0) 5) + 1)) 5 0) 4 (((upd (upd (upd (upd f3 6 ((f3 6) + 1)) 6 0) 5 (((upd (upd f3 6 ((f3 6) + 1)) 6 0) 5) + 1)) 5 0) 4) + 1)) 4 0) 3) + 1)) 3 0) 2) + 1)) 2 0) 1) + 1)) 1 0) 0) + 1)) 0 0), zAr T 0 a4_4 n4 f4, zAr T 0 a5_5 n4 f5, zAr T 0 a6_6 n4 f6]] _ _ := G.re rfl
                exact z_back hQz_ (z_vret C hr hlocks G (Nat.le_of_ble_eq_true rfl) (Nat.le_of_ble_eq_true rfl) dX0_nextRow_46 ⟨([zO0 h md wy la pc_ a1_1 a2_2 a3_3 a4_4 a5_5 a6_6, zAr T 0 a1_1 7 f1, zAr T 0 a2_2 7 f2, zAr T 0 a3_3 7 (upd (upd (upd (upd (upd (upd (upd (upd (upd (upd (upd (upd (upd (upd f3 6 ((f3 6) + 1)) 6 0) 5 (((upd (upd f3 6 ((f3 6) + 1)) 6 0) 5) + 1)) 5 0) 4 (((upd (upd (upd (upd f3 6 ((f3 6) + 1)) 6 0) 5 (((upd (upd f3 6 ((f3 6) + 1)) 6 0) 5) + 1)) 5 0) 4) + 1)) 4 0) 3 (((upd (upd (upd (upd (upd (upd f3 6 ((f3 6) + 1)) 6 0) 5 (((upd (upd f3 6 ((f3 6) + 1)) 6 0) 5) + 1)) 5 0) 4 (((upd (upd (upd (upd f3 6 ((f3 6) + 1)) 6 0) 5 (((upd (upd f3 6 ((f3 6) + 1)) 6 0) 5) + 1)) 5 0) 4) + 1)) 4 0) 3) + 1)) 3 0) 2 (((upd (upd (upd (upd (upd (upd (upd (upd f3 6 ((f3 6) + 1)) 6 0) 5 (((upd (upd f3 6 ((f3 6) + 1)) 6 0) 5) + 1)) 5 0) 4 (((upd (upd (upd (upd f3 6 ((f3 6) + 1)) 6 0) 5 (((upd (upd f3 6 ((f3 6) + 1)) 6 0) 5) + 1)) 5 0) 4) + 1)) 4 0) 3 (((upd (upd (upd (upd (upd (upd f3 6 ((f3 6) + 1)) 6 0) 5 (((upd (upd f3 6 ((f3 6) + 1)) 6 0) 5) + 1)) 5 0) 4 (((upd (upd (upd (upd f3 6 ((f3 6) + 1)) 6 0) 5 (((upd (upd f3 6 ((f3 6) + 1)) 6 0) 5) + 1)) 5 0) 4) + 1)) 4 0) 3) + 1)) 3 0) 2) + 1)) 2 0) 1 (((upd (upd (upd (upd (upd (upd (upd (upd (upd (upd f3 6 ((f3 6) + 1)) 6 0) 5 (((upd (upd f3 6 ((f3 6) + 1)) 6 0) 5) + 1)) 5 0) 4 (((upd (upd (upd (upd f3 6 ((f3 6) + 1)) 6 0) 5 (((upd (upd f3 6 ((f3 6) + 1)) 6 0) 5) + 1)) 5 0) 4) + 1)) 4 0) 3 (((upd (upd (upd (upd (upd (upd f3 6 ((f3 6) + 1)) 6 0) 5 (((upd (upd f3 6 ((f3 6) + 1)) 6 0) 5) + 1)) 5 0) 4 (((upd (upd (upd (upd f3 6 ((f3 6) + 1)) 6 0) 5 (((upd (upd f3 6 ((f3 6) + 1)) 6 0) 5) + 1)) 5 0) 4) + 1)) 4 0) 3) + 1)) 3 0) 2 (((upd (upd (upd (upd (upd (upd (upd (upd f3 6 ((f3 6) + 1)) 6 0) 5 (((upd (upd f3 6 ((f3 6) + 1)) 6 0) 5) + 1)) 5 0) 4 (((upd (upd (upd (upd f3 6 ((f3 6) + 1)) 6 0) 5 (((upd (upd f3 6 ((f3 6) + 1)) 6 0) 5) + 1)) 5 0) 4) + 1)) 4 0) 3 (((upd (upd (upd (upd (upd (upd f3 6 ((f3 6) + 1)) 6 0) 5 (((upd (upd f3 6 ((f3 6) + 1)) 6 0) 5) + 1)) 5 0) 4 (((upd (upd (upd (upd f3 6 ((f3 6) + 1)) 6 0) 5 (((upd (upd f3 6 ((f3 6) + 1)) 6 0) 5) + 1)) 5 0) 4) + 1)) 4 0) 3) + 1)) 3 0) 2) + 1)) 2 0) 1) + 1)) 1 0) 0 (((upd (upd (upd (upd (upd (upd (upd (upd (upd (upd (upd (upd f3 6 ((f3 6) + 1)) 6 0) 5 (((upd (upd f3 6 ((f3 6) + 1)) 6 0) 5) + 1)) 5 0) 4 (((upd (upd (upd (upd f3 6 ((f3 6) + 1)) 6 0) 5 (((upd (upd f3 6 ((f3 6) + 1)) 6 0) 5) + 1)) 5 0) 4) + 1)) 4 0) 3 (((upd (upd (upd (upd (upd (upd f3 6 ((f3 6) + 1)) 6 0) 5 (((upd (upd f3 6 ((f3 6) + 1)) 6 0) 5) + 1)) 5 0) 4 (((upd (upd (upd (upd f3 6 ((f3 6) + 1)) 6 0) 5 (((upd (upd f3 6 ((f3 6) + 1)) 6 0) 5) + 1)) 5 0) 4) + 1)) 4 0) 3) + 1)) 3 0) 2 (((upd (upd (upd (upd (upd (upd (upd (upd f3 6 ((f3 6) + 1)) 6 0) 5 (((upd (upd f3 6 ((f3 6) + 1)) 6 0) 5) + 1)) 5 0) 4 (((upd (upd (upd (upd f3 6 ((f3 6) + 1)) 6 0) 5 (((upd (upd f3 6 ((f3 6) + 1)) 6 0) 5) + 1)) 5 0) 4) + 1)) 4 0) 3 (((upd (upd (upd (upd (upd (upd f3 6 ((f3 6) + 1)) 6 0) 5 (((upd (upd f3 6 ((f3 6) + 1)) 6 0) 5) + 1)) 5 0) 4 (((upd (upd (upd (upd f3 6 ((f3 6) + 1)) 6 0) 5 (((upd (upd f3 6 ((f3 6) + 1)) 6 0) 5) + 1)) 5 0) 4) + 1)) 4 0) 3) + 1)) 3 0) 2) + 1)) 2 0) 1 (((upd (upd (upd (upd (upd (upd (upd (upd (upd (upd f3 6 ((f3 6) + 1)) 6 0) 5 (((upd (upd f3 6 ((f3 6) + 1)) 6 0) 5) + 1)) 5 0) 4 (((upd (upd (upd (upd f3 6 ((f3 6) + 1)) 6 0) 5 (((upd (upd f3 6 ((f3 6) + 1)) 6 0) 5) + 1)) 5 0) 4) + 1)) 4 0) 3 (((upd (upd (upd (upd (upd (upd f3 6 ((f3 6) + 1)) 6 0) 5 (((upd (upd f3 6 ((f3 6) + 1)) 6 0) 5) + 1)) 5 0) 4 (((upd (upd (upd (upd f3 6 ((f3 6) + 1)) 6 0) 5 (((upd (upd f3 6 ((f3 6) + 1)) 6 0) 5) + 1)) 5 0) 4) + 1)) 4 0) 3) + 1)) 3 0) 2 (((upd (upd (upd (upd (upd (upd (upd (upd f3 6 ((f3 6) + 1)) 6 0) 5 (((upd (upd f3 6 ((f3 6) + 1)) 6 0) 5) + 1)) 5 0) 4 (((upd (upd (upd (upd f3 6 ((f3 6) + 1)) 6 0) 5 (((upd (upd f3 6 ((f3 6) + 1)) 6 0) 5) + 1)) 5 0) 4) + 1)) 4 0) 3 (((upd (upd (upd (upd (upd (upd f3 6 ((f3 6) + 1)) 6 0) 5 (((upd (upd f3 6 ((f3 6) + 1)) 6 0) 5) + 1)) 5 0) 4 (((upd (upd (upd (upd f3 6 ((f3 6) + 1)) 6 0) 5 (((upd (upd f3 6 ((f3 6) + 1)) 6 0) 5) + 1)) 5 0) 4) + 1)) 4 0) 3) + 1)) 3 0) 2) + 1)) 2 0) 1) + 1)) 1 0) 0) + 1)) 0 0), zAr T 0 a4_4 n4 f4, zAr T 0 a5_5 n4 f5, zAr T 0 a6_6 n4 f6]), (upd (upd (upd (upd (upd (upd (upd (upd (upd (upd (upd (upd (upd (upd f3 6 ((f3 6) + 1)) 6 0) 5 (((upd (upd f3 6 ((f3 6) + 1)) 6 0) 5) + 1)) 5 0) 4 (((upd (upd (upd (upd f3 6 ((f3 6) + 1)) 6 0) 5 (((upd (upd f3 6 ((f3 6) + 1)) 6 0) 5) + 1)) 5 0) 4) + 1)) 4 0) 3 (((upd (upd (upd (upd (upd (upd f3 6 ((f3 6) + 1)) 6 0) 5 (((upd (upd f3 6 ((f3 6) + 1)) 6 0) 5) + 1)) 5 0) 4 (((upd (upd (upd (upd f3 6 ((f3 6) + 1)) 6 0) 5 (((upd (upd f3 6 ((f3 6) + 1)) 6 0) 5) + 1)) 5 0) 4) + 1)) 4 0) 3) + 1)) 3 0) 2 (((upd (upd (upd (upd (upd (upd (upd (upd f3 6 ((f3 6) + 1)) 6 0) 5 (((upd (upd f3 6 ((f3 6) + 1)) 6 0) 5) + 1)) 5 0) 4 (((upd (upd (upd (upd f3 6 ((f3 6) + 1)) 6 0) 5 (((upd (upd f3 6 ((f3 6) + 1)) 6 0) 5) + 1)) 5 0) 4) + 1)) 4 0) 3 (((upd (upd (upd (upd (upd (upd f3 6 ((f3 6) + 1)) 6 0) 5 (((upd (upd f3 6 ((f3 6) + 1)) 6 0) 5) + 1)) 5 0) 4 (((upd (upd (upd (upd f3 6 ((f3 6) + 1)) 6 0) 5 (((upd (upd f3 6 ((f3 6) + 1)) 6 0) 5) + 1)) 5 0) 4) + 1)) 4 0) 3) + 1)) 3 0) 2) + 1)) 2 0) 1 (((upd (upd (upd (upd (upd (upd (upd (upd (upd (upd f3 6 ((f3 6) + 1)) 6 0) 5 (((upd (upd f3 6 ((f3 6) + 1)) 6 0) 5) + 1)) 5 0) 4 (((upd (upd (upd (upd f3 6 ((f3 6) + 1)) 6 0) 5 (((upd (upd f3 6 ((f3 6) + 1)) 6 0) 5) + 1)) 5 0) 4) + 1)) 4 0) 3 (((upd (upd (upd (upd (upd (upd f3 6 ((f3 6) + 1)) 6 0) 5 (((upd (upd f3 6 ((f3 6) + 1)) 6 0) 5) + 1)) 5 0) 4 (((upd (upd (upd (upd f3 6 ((f3 6) + 1)) 6 0) 5 (((upd (upd f3 6 ((f3 6) + 1)) 6 0) 5) + 1)) 5 0) 4) + 1)) 4 0) 3) + 1)) 3 0) 2 (((upd (upd (upd (upd (upd (upd (upd (upd f3 6 ((f3 6) + 1)) 6 0) 5 (((upd (upd f3 6 ((f3 6) + 1)) 6 0) 5) + 1)) 5 0) 4 (((upd (upd (upd (upd f3 6 ((f3 6) + 1)) 6 0) 5 (((upd (upd f3 6 ((f3 6) + 1)) 6 0) 5) + 1)) 5 0) 4) + 1)) 4 0) 3 (((upd (upd (upd (upd (upd (upd f3 6 ((f3 6) + 1)) 6 0) 5 (((upd (upd f3 6 ((f3 6) + 1)) 6 0) 5) + 1)) 5 0) 4 (((upd (upd (upd (upd f3 6 ((f3 6) + 1)) 6 0) 5 (((upd (upd f3 6 ((f3 6) + 1)) 6 0) 5) + 1)) 5 0) 4) + 1)) 4 0) 3) + 1)) 3 0) 2) + 1)) 2 0) 1) + 1)) 1 0) 0 (((upd (upd (upd (upd (upd (upd (upd (upd (upd (upd (upd (upd f3 6 ((f3 6) + 1)) 6 0) 5 (((upd (upd f3 6 ((f3 6) + 1)) 6 0) 5) + 1)) 5 0) 4 (((upd (upd (upd (upd f3 6 ((f3 6) + 1)) 6 0) 5 (((upd (upd f3 6 ((f3 6) + 1)) 6 0) 5) + 1)) 5 0) 4) + 1)) 4 0) 3 (((upd (upd (upd (upd (upd (upd f3 6 ((f3 6) + 1)) 6 0) 5 (((upd (upd f3 6 ((f3 6) + 1)) 6 0) 5) + 1)) 5 0) 4 (((upd (upd (upd (upd f3 6 ((f3 6) + 1)) 6 0) 5 (((upd (upd f3 6 ((f3 6) + 1)) 6 0) 5) + 1)) 5 0) 4) + 1)) 4 0) 3) + 1)) 3 0) 2 (((upd (upd (upd (upd (upd (upd (upd (upd f3 6 ((f3 6) + 1)) 6 0) 5 (((upd (upd f3 6 ((f3 6) + 1)) 6 0) 5) + 1)) 5 0) 4 (((upd (upd (upd (upd f3 6 ((f3 6) + 1)) 6 0) 5 (((upd (upd f3 6 ((f3 6) + 1)) 6 0) 5) + 1)) 5 0) 4) + 1)) 4 0) 3 (((upd (upd (upd (upd (upd (upd f3 6 ((f3 6) + 1)) 6 0) 5 (((upd (upd f3 6 ((f3 6) + 1)) 6 0) 5) + 1)) 5 0) 4 (((upd (upd (upd (upd f3 6 ((f3 6) + 1)) 6 0) 5 (((upd (upd f3 6 ((f3 6) + 1)) 6 0) 5) + 1)) 5 0) 4) + 1)) 4 0) 3) + 1)) 3 0) 2) + 1)) 2 0) 1 (((upd (upd (upd (upd (upd (upd (upd (upd (upd (upd f3 6 ((f3 6) + 1)) 6 0) 5 (((upd (upd f3 6 ((f3 6) + 1)) 6 0) 5) + 1)) 5 0) 4 (((upd (upd (upd (upd f3 6 ((f3 6) + 1)) 6 0) 5 (((upd (upd f3 6 ((f3 6) + 1)) 6 0) 5) + 1)) 5 0) 4) + 1)) 4 0) 3 (((upd (upd (upd (upd (upd (upd f3 6 ((f3 6) + 1)) 6 0) 5 (((upd (upd f3 6 ((f3 6) + 1)) 6 0) 5) + 1)) 5 0) 4 (((upd (upd (upd (upd f3 6 ((f3 6) + 1)) 6 0) 5 (((upd (upd f3 6 ((f3 6) + 1)) 6 0) 5) + 1)) 5 0) 4) + 1)) 4 0) 3) + 1)) 3 0) 2 (((upd (upd (upd (upd (upd (upd (upd (upd f3 6 ((f3 6) + 1)) 6 0) 5 (((upd (upd f3 6 ((f3 6) + 1)) 6 0) 5) + 1)) 5 0) 4 (((upd (upd (upd (upd f3 6 ((f3 6) + 1)) 6 0) 5 (((upd (upd f3 6 ((f3 6) + 1)) 6 0) 5) + 1)) 5 0) 4) + 1)) 4 0) 3 (((upd (upd (upd (upd (upd (upd f3 6 ((f3 6) + 1)) 6 0) 5 (((upd (upd f3 6 ((f3 6) + 1)) 6 0) 5) + 1)) 5 0) 4 (((upd (upd (upd (upd f3 6 ((f3 6) + 1)) 6 0) 5 (((upd (upd f3 6 ((f3 6) + 1)) 6 0) 5) + 1)) 5 0) 4) + 1)) 4 0) 3) + 1)) 3 0) 2) + 1)) 2 0) 1) + 1)) 1 0) 0) + 1)) 0 0), rfl, hw_35⟩)
              · have c_34n : ¬ (f1 0).toInt ≤ (((upd (upd (upd (upd (upd (upd (upd (upd (upd (upd (upd (upd f3 6 ((f3 6) + 1)) 6 0) 5 (((upd (upd f3 6 ((f3 6) + 1)) 6 0) 5) + 1)) 5 0) 4 (((upd (upd (upd (upd f3 6 ((f3 6) + 1)) 6 0) 5 (((upd (upd f3 6 ((f3 6) + 1)) 6 0) 5) + 1)) 5 0) 4) + 1)) 4 0) 3 (((upd (upd (upd (upd (upd (upd f3 6 ((f3 6) + 1)) 6 0) 5 (((upd (upd f3 6 ((f3 6) + 1)) 6 0) 5) + 1)) 5 0) 4 (((upd (upd (upd (upd f3 6 ((f3 6) + 1)) 6 0) 5 (((upd (upd f3 6 ((f3 6) + 1)) 6 0) 5) + 1)) 5 0) 4) + 1)) 4 0) 3) + 1)) 3 0) 2 (((upd (upd (upd (upd (upd (upd (upd (upd f3 6 ((f3 6) + 1)) 6 0) 5 (((upd (upd f3 6 ((f3 6) + 1)) 6 0) 5) + 1)) 5 0) 4 (((upd (upd (upd (upd f3 6 ((f3 6) + 1)) 6 0) 5 (((upd (upd f3 6 ((f3 6) + 1)) 6 0) 5) + 1)) 5 0) 4) + 1)) 4 0) 3 (((upd (upd (upd (upd (upd (upd f3 6 ((f3 6) + 1)) 6 0) 5 (((upd (upd f3 6 ((f3 6) + 1)) 6 0) 5) + 1)) 5 0) 4 (((upd (upd (upd (upd f3 6 ((f3 6) + 1)) 6 0) 5 (((upd (upd f3 6 ((f3 6) + 1)) 6 0) 5) + 1)) 5 0) 4) + 1)) 4 0) 3) + 1)) 3 0) 2) + 1)) 2 0) 1 (((upd (upd (upd (upd (upd (upd (upd (upd (upd (upd f3 6 ((f3 6) + 1)) 6 0) 5 (((upd (upd f3 6 ((f3 6) + 1)) 6 0) 5) + 1)) 5 0) 4 (((upd (upd (upd (upd f3 6 ((f3 6) + 1)) 6 0) 5 (((upd (upd f3 6 ((f3 6) + 1)) 6 0) 5) + 1)) 5 0) 4) + 1)) 4 0) 3 (((upd (upd (upd (upd (upd (upd f3 6 ((f3 6) + 1)) 6 0) 5 (((upd (upd f3 6 ((f3 6) + 1)) 6 0) 5) + 1)) 5 0) 4 (((upd (upd (upd (upd f3 6 ((f3 6) + 1)) 6 0) 5 (((upd (upd f3 6 ((f3 6) + 1)) 6 0) 5) + 1)) 5 0) 4) + 1)) 4 0) 3) + 1)) 3 0) 2 (((upd (upd (upd (upd (upd (upd (upd (upd f3 6 ((f3 6) + 1)) 6 0) 5 (((upd (upd f3 6 ((f3 6) + 1)) 6 0) 5) + 1)) 5 0) 4 (((upd (upd (upd (upd f3 6 ((f3 6) + 1)) 6 0) 5 (((upd (upd f3 6 ((f3 6) + 1)) 6 0) 5) + 1)) 5 0) 4) + 1)) 4 0) 3 (((upd (upd (upd (upd (upd (upd f3 6 ((f3 6) + 1)) 6 0) 5 (((upd (upd f3 6 ((f3 6) + 1)) 6 0) 5) + 1)) 5 0) 4 (((upd (upd (upd (upd f3 6 ((f3 6) + 1)) 6 0) 5 (((upd (upd f3 6 ((f3 6) + 1)) 6 0) 5) + 1)) 5 0) 4) + 1)) 4 0) 3) + 1)) 3 0) 2) + 1)) 2 0) 1) + 1)) 1 0) 0) + 1).toInt := fun q => c_34 ((fa_le _ _).mpr q)
                have hw_36 : bWays T h la md wy pc_ f1 f2 (upd (upd (upd (upd (upd (upd (upd (upd (upd (upd (upd (upd (upd f3 6 ((f3 6) + 1)) 6 0) 5 (((upd (upd f3 6 ((f3 6) + 1)) 6 0) 5) + 1)) 5 0) 4 (((upd (upd (upd (upd f3 6 ((f3 6) + 1)) 6 0) 5 (((upd (upd f3 6 ((f3 6) + 1)) 6 0) 5) + 1)) 5 0) 4) + 1)) 4 0) 3 (((upd (upd (upd (upd (upd (upd f3 6 ((f3 6) + 1)) 6 0) 5 (((upd (upd f3 6 ((f3 6) + 1)) 6 0) 5) + 1)) 5 0) 4 (((upd (upd (upd (upd f3 6 ((f3 6) + 1)) 6 0) 5 (((upd (upd f3 6 ((f3 6) + 1)) 6 0) 5) + 1)) 5 0) 4) + 1)) 4 0) 3) + 1)) 3 0) 2 (((upd (upd (upd (upd (upd (upd (upd (upd f3 6 ((f3 6) + 1)) 6 0) 5 (((upd (upd f3 6 ((f3 6) + 1)) 6 0) 5) + 1)) 5 0) 4 (((upd (upd (upd (upd f3 6 ((f3 6) + 1)) 6 0) 5 (((upd (upd f3 6 ((f3 6) + 1)) 6 0) 5) + 1)) 5 0) 4) + 1)) 4 0) 3 (((upd (upd (upd (upd (upd (upd f3 6 ((f3 6) + 1)) 6 0) 5 (((upd (upd f3 6 ((f3 6) + 1)) 6 0) 5) + 1)) 5 0) 4 (((upd (upd (upd (upd f3 6 ((f3 6) + 1)) 6 0) 5 (((upd (upd f3 6 ((f3 6) + 1)) 6 0) 5) + 1)) 5 0) 4) + 1)) 4 0) 3) + 1)) 3 0) 2) + 1)) 2 0) 1 (((upd (upd (upd (upd (upd (upd (upd (upd (upd (upd f3 6 ((f3 6) + 1)) 6 0) 5 (((upd (upd f3 6 ((f3 6) + 1)) 6 0) 5) + 1)) 5 0) 4 (((upd (upd (upd (upd f3 6 ((f3 6) + 1)) 6 0) 5 (((upd (upd f3 6 ((f3 6) + 1)) 6 0) 5) + 1)) 5 0) 4) + 1)) 4 0) 3 (((upd (upd (upd (upd (upd (upd f3 6 ((f3 6) + 1)) 6 0) 5 (((upd (upd f3 6 ((f3 6) + 1)) 6 0) 5) + 1)) 5 0) 4 (((upd (upd (upd (upd f3 6 ((f3 6) + 1)) 6 0) 5 (((upd (upd f3 6 ((f3 6) + 1)) 6 0) 5) + 1)) 5 0) 4) + 1)) 4 0) 3) + 1)) 3 0) 2 (((upd (upd (upd (upd (upd (upd (upd (upd f3 6 ((f3 6) + 1)) 6 0) 5 (((upd (upd f3 6 ((f3 6) + 1)) 6 0) 5) + 1)) 5 0) 4 (((upd (upd (upd (upd f3 6 ((f3 6) + 1)) 6 0) 5 (((upd (upd f3 6 ((f3 6) + 1)) 6 0) 5) + 1)) 5 0) 4) + 1)) 4 0) 3 (((upd (upd (upd (upd (upd (upd f3 6 ((f3 6) + 1)) 6 0) 5 (((upd (upd f3 6 ((f3 6) + 1)) 6 0) 5) + 1)) 5 0) 4 (((upd (upd (upd (upd f3 6 ((f3 6) + 1)) 6 0) 5 (((upd (upd f3 6 ((f3 6) + 1)) 6 0) 5) + 1)) 5 0) 4) + 1)) 4 0) 3) + 1)) 3 0) 2) + 1)) 2 0) 1) + 1)) 1 0) 0 (((upd (upd (upd (upd (upd (upd (upd (upd (upd (upd (upd (upd f3 6 ((f3 6) + 1)) 6 0) 5 (((upd (upd f3 6 ((f3 6) + 1)) 6 0) 5) + 1)) 5 0) 4 (((upd (upd (upd (upd f3 6 ((f3 6) + 1)) 6 0) 5 (((upd (upd f3 6 ((f3 6) + 1)) 6 0) 5) + 1)) 5 0) 4) + 1)) 4 0) 3 (((upd (upd (upd (upd (upd (upd f3 6 ((f3 6) + 1)) 6 0) 5 (((upd (upd f3 6 ((f3 6) + 1)) 6 0) 5) + 1)) 5 0) 4 (((upd (upd (upd (upd f3 6 ((f3 6) + 1)) 6 0) 5 (((upd (upd f3 6 ((f3 6) + 1)) 6 0) 5) + 1)) 5 0) 4) + 1)) 4 0) 3) + 1)) 3 0) 2 (((upd (upd (upd (upd (upd (upd (upd (upd f3 6 ((f3 6) + 1)) 6 0) 5 (((upd (upd f3 6 ((f3 6) + 1)) 6 0) 5) + 1)) 5 0) 4 (((upd (upd (upd (upd f3 6 ((f3 6) + 1)) 6 0) 5 (((upd (upd f3 6 ((f3 6) + 1)) 6 0) 5) + 1)) 5 0) 4) + 1)) 4 0) 3 (((upd (upd (upd (upd (upd (upd f3 6 ((f3 6) + 1)) 6 0) 5 (((upd (upd f3 6 ((f3 6) + 1)) 6 0) 5) + 1)) 5 0) 4 (((upd (upd (upd (upd f3 6 ((f3 6) + 1)) 6 0) 5 (((upd (upd f3 6 ((f3 6) + 1)) 6 0) 5) + 1)) 5 0) 4) + 1)) 4 0) 3) + 1)) 3 0) 2) + 1)) 2 0) 1 (((upd (upd (upd (upd (upd (upd (upd (upd (upd (upd f3 6 ((f3 6) + 1)) 6 0) 5 (((upd (upd f3 6 ((f3 6) + 1)) 6 0) 5) + 1)) 5 0) 4 (((upd (upd (upd (upd f3 6 ((f3 6) + 1)) 6 0) 5 (((upd (upd f3 6 ((f3 6) + 1)) 6 0) 5) + 1)) 5 0) 4) + 1)) 4 0) 3 (((upd (upd (upd (upd (upd (upd f3 6 ((f3 6) + 1)) 6 0) 5 (((upd (upd f3 6 ((f3 6) + 1)) 6 0) 5) + 1)) 5 0) 4 (((upd (upd (upd (upd f3 6 ((f3 6) + 1)) 6 0) 5 (((upd (upd f3 6 ((f3 6) + 1)) 6 0) 5) + 1)) 5 0) 4) + 1)) 4 0) 3) + 1)) 3 0) 2 (((upd (upd (upd (upd (upd (upd (upd (upd f3 6 ((f3 6) + 1)) 6 0) 5 (((upd (upd f3 6 ((f3 6) + 1)) 6 0) 5) + 1)) 5 0) 4 (((upd (upd (upd (upd f3 6 ((f3 6) + 1)) 6 0) 5 (((upd (upd f3 6 ((f3 6) + 1)) 6 0) 5) + 1)) 5 0) 4) + 1)) 4 0) 3 (((upd (upd (upd (upd (upd (upd f3 6 ((f3 6) + 1)) 6 0) 5 (((upd (upd f3 6 ((f3 6) + 1)) 6 0) 5) + 1)) 5 0) 4 (((upd (upd (upd (upd f3 6 ((f3 6) + 1)) 6 0) 5 (((upd (upd f3 6 ((f3 6) + 1)) 6 0) 5) + 1)) 5 0) 4) + 1)) 4 0) 3) + 1)) 3 0) 2) + 1)) 2 0) 1) + 1)) 1 0) 0) + 1)) f4 f5 f6 n4 [zO0 h md wy la pc_ a1_1 a2_2 a3_3 a4_4 a5_5 a6_6, zAr T 0 a1_1 7 f1, zAr T 0 a2_2 7 f2, zAr T 0 a3_3 7 (upd (upd (upd (upd (upd (upd (upd (upd (upd (upd (upd (upd (upd f3 6 ((f3 6) + 1)) 6 0) 5 (((upd (upd f3 6 ((f3 6) + 1)) 6 0) 5) + 1)) 5 0) 4 (((upd (upd (upd (upd f3 6 ((f3 6) + 1)) 6 0) 5 (((upd (upd f3 6 ((f3 6) + 1)) 6 0) 5) + 1)) 5 0) 4) + 1)) 4 0) 3 (((upd (upd (upd (upd (upd (upd f3 6 ((f3 6) + 1)) 6 0) 5 (((upd (upd f3 6 ((f3 6) + 1)) 6 0) 5) + 1)) 5 0) 4 (((upd (upd (upd (upd f3 6 ((f3 6) + 1)) 6 0) 5 (((upd (upd f3 6 ((f3 6) + 1)) 6 0) 5) + 1)) 5 0) 4) + 1)) 4 0) 3) + 1)) 3 0) 2 (((upd (upd (upd (upd (upd (upd (upd (upd f3 6 ((f3 6) + 1)) 6 0) 5 (((upd (upd f3 6 ((f3 6) + 1)) 6 0) 5) + 1)) 5 0) 4 (((upd (upd (upd (upd f3 6 ((f3 6) + 1)) 6 0) 5 (((upd (upd f3 6 ((f3 6) + 1)) 6 0) 5) + 1)) 5 0) 4) + 1)) 4 0) 3 (((upd (upd (upd (upd (upd (upd f3 6 ((f3 6) + 1)) 6 0) 5 (((upd (upd f3 6 ((f3 6) + 1)) 6 0) 5) + 1)) 5 0) 4 (((upd (upd (upd (upd f3 6 ((f3 6) + 1)) 6 0) 5 (((upd (upd f3 6 ((f3 6) + 1)) 6 0) 5) + 1)) 5 0) 4) + 1)) 4 0) 3) + 1)) 3 0) 2) + 1)) 2 0) 1 (((upd (upd (upd (upd (upd (upd (upd (upd (upd (upd f3 6 ((f3 6) + 1)) 6 0) 5 (((upd (upd f3 6 ((f3 6) + 1)) 6 0) 5) + 1)) 5 0) 4 (((upd (upd (upd (upd f3 6 ((f3 6) + 1)) 6 0) 5 (((upd (upd f3 6 ((f3 6) + 1)) 6 0) 5) + 1)) 5 0) 4) + 1)) 4 0) 3 (((upd (upd (upd (upd (upd (upd f3 6 ((f3 6) + 1)) 6 0) 5 (((upd (upd f3 6 ((f3 6) + 1)) 6 0) 5) + 1)) 5 0) 4 (((upd (upd (upd (upd f3 6 ((f3 6) + 1)) 6 0) 5 (((upd (upd f3 6 ((f3 6) + 1)) 6 0) 5) + 1)) 5 0) 4) + 1)) 4 0) 3) + 1)) 3 0) 2 (((upd (upd (upd (upd (upd (upd (upd (upd f3 6 ((f3 6) + 1)) 6 0) 5 (((upd (upd f3 6 ((f3 6) + 1)) 6 0) 5) + 1)) 5 0) 4 (((upd (upd (upd (upd f3 6 ((f3 6) + 1)) 6 0) 5 (((upd (upd f3 6 ((f3 6) + 1)) 6 0) 5) + 1)) 5 0) 4) + 1)) 4 0) 3 (((upd (upd (upd (upd (upd (upd f3 6 ((f3 6) + 1)) 6 0) 5 (((upd (upd f3 6 ((f3 6) + 1)) 6 0) 5) + 1)) 5 0) 4 (((upd (upd (upd (upd f3 6 ((f3 6) + 1)) 6 0) 5 (((upd (upd f3 6 ((f3 6) + 1)) 6 0) 5) + 1)) 5 0) 4) + 1)) 4 0) 3) + 1)) 3 0) 2) + 1)) 2 0) 1) + 1)) 1 0) 0 (((upd (upd (upd (upd (upd (upd (upd (upd (upd (upd (upd (upd f3 6 ((f3 6) + 1)) 6 0) 5 (((upd (upd f3 6 ((f3 6) + 1)) 6 0) 5) + 1)) 5 0) 4 (((upd (upd (upd (upd f3 6 ((f3 6) + 1)) 6 0) 5 (((upd (upd f3 6 ((f3 6) + 1)) 6 0) 5) + 1)) 5 0) 4) + 1)) 4 0) 3 (((upd (upd (upd (upd (upd (upd f3 6 ((f3 6) + 1)) 6 0) 5 (((upd (upd f3 6 ((f3 6) + 1)) 6 0) 5) + 1)) 5 0) 4 (((upd (upd (upd (upd f3 6 ((f3 6) + 1)) 6 0) 5 (((upd (upd f3 6 ((f3 6) + 1)) 6 0) 5) + 1)) 5 0) 4) + 1)) 4 0) 3) + 1)) 3 0) 2 (((upd (upd (upd (upd (upd (upd (upd (upd f3 6 ((f3 6) + 1)) 6 0) 5 (((upd (upd f3 6 ((f3 6) + 1)) 6 0) 5) + 1)) 5 0) 4 (((upd (upd (upd (upd f3 6 ((f3 6) + 1)) 6 0) 5 (((upd (upd f3 6 ((f3 6) + 1)) 6 0) 5) + 1)) 5 0) 4) + 1)) 4 0) 3 (((upd (upd (upd (upd (upd (upd f3 6 ((f3 6) + 1)) 6 0) 5 (((upd (upd f3 6 ((f3 6) + 1)) 6 0) 5) + 1)) 5 0) 4 (((upd (upd (upd (upd f3 6 ((f3 6) + 1)) 6 0) 5 (((upd (upd f3 6 ((f3 6) + 1)) 6 0) 5) + 1)) 5 0) 4) + 1)) 4 0) 3) + 1)) 3 0) 2) + 1)) 2 0) 1 (((upd (upd (upd (upd (upd (upd (upd (upd (upd (upd f3 6 ((f3 6) + 1)) 6 0) 5 (((upd (upd f3 6 ((f3 6) + 1)) 6 0) 5) + 1)) 5 0) 4 (((upd (upd (upd (upd f3 6 ((f3 6) + 1)) 6 0) 5 (((upd (upd f3 6 ((f3 6) + 1)) 6 0) 5) + 1)) 5 0) 4) + 1)) 4 0) 3 (((upd (upd (upd (upd (upd (upd f3 6 ((f3 6) + 1)) 6 0) 5 (((upd (upd f3 6 ((f3 6) + 1)) 6 0) 5) + 1)) 5 0) 4 (((upd (upd (upd (upd f3 6 ((f3 6) + 1)) 6 0) 5 (((upd (upd f3 6 ((f3 6) + 1)) 6 0) 5) + 1)) 5 0) 4) + 1)) 4 0) 3) + 1)) 3 0) 2 (((upd (upd (upd (upd (upd (upd (upd (upd f3 6 ((f3 6) + 1)) 6 0) 5 (((upd (upd f3 6 ((f3 6) + 1)) 6 0) 5) + 1)) 5 0) 4 (((upd (upd (upd (upd f3 6 ((f3 6) + 1)) 6 0) 5 (((upd (upd f3 6 ((f3 6) + 1)) 6 0) 5) + 1)) 5 0) 4) + 1)) 4 0) 3 (((upd (upd (upd (upd (upd (upd f3 6 ((f3 6) + 1)) 6 0) 5 (((upd (upd f3 6 ((f3 6) + 1)) 6 0) 5) + 1)) 5 0) 4 (((upd (upd (upd (upd f3 6 ((f3 6) + 1)) 6 0) 5 (((upd (upd f3 6 ((f3 6) + 1)) 6 0) 5) + 1)) 5 0) 4) + 1)) 4 0) 3) + 1)) 3 0) 2) + 1)) 2 0) 1) + 1)) 1 0) 0) + 1)), zAr T 0 a4_4 n4 f4, zAr T 0 a5_5 n4 f5, zAr T 0 a6_6 n4 f6] := ⟨a1_1, a2_2, a3_3, a4_4, a5_5, a6_6, rfl⟩
                have G : zS T A s.heap s [[zO0 h md wy la pc_ a1_1 a2_2 a3_3 a4_4 a5_5 a6_6, zAr T 0 a1_1 7 f1, zAr T 0 a2_2 7 f2, zAr T 0 a3_3 7 (upd (upd (upd (upd (upd (upd (upd (upd (upd (upd (upd (upd (upd f3 6 ((f3 6) + 1)) 6 0) 5 (((upd (upd f3 6 ((f3 6) + 1)) 6 0) 5) + 1)) 5 0) 4 (((upd (upd (upd (upd f3 6 ((f3 6) + 1)) 6 0) 5 (((upd (upd f3 6 ((f3 6) + 1)) 6 0) 5) + 1)) 5 0) 4) + 1)) 4 0) 3 (((upd (upd (upd (upd (upd (upd f3 6 ((f3 6) + 1)) 6 0) 5 (((upd (upd f3 6 ((f3 6) + 1)) 6 0) 5) + 1)) 5 0) 4 (((upd (upd (upd (upd f3 6 ((f3 6) + 1)) 6 0) 5 (((upd (upd f3 6 ((f3 6) + 1)) 6 0) 5) + 1)) 5 0) 4) + 1)) 4 0) 3) + 1)) 3 0) 2 (((upd (upd (upd (upd (upd (upd (upd (upd f3 6 ((f3 6) + 1)) 6 0) 5 (((upd (upd f3 6 ((f3 6) + 1)) 6 0) 5) + 1)) 5 0) 4 (((upd (upd (upd (upd f3 6 ((f3 6) + 1)) 6 0) 5 (((upd (upd f3 6 ((f3 6) + 1)) 6 0) 5) + 1)) 5 0) 4) + 1)) 4 0) 3 (((upd (upd (upd (upd (upd (upd f3 6 ((f3 6) + 1)) 6 0) 5 (((upd (upd f3 6 ((f3 6) + 1)) 6 0) 5) + 1)) 5 0) 4 (((upd (upd (upd (upd f3 6 ((f3 6) + 1)) 6 0) 5 (((upd (upd f3 6 ((f3 6) + 1)) 6 0) 5) + 1)) 5 0) 4) + 1)) 4 0) 3) + 1)) 3 0) 2) + 1)) 2 0) 1 (((upd (upd (upd (upd (upd (upd (upd (upd (upd (upd f3 6 ((f3 6) + 1)) 6 0) 5 (((upd (upd f3 6 ((f3 6) + 1)) 6 0) 5) + 1)) 5 0) 4 (((upd (upd (upd (upd f3 6 ((f3 6) + 1)) 6 0) 5 (((upd (upd f3 6 ((f3 6) + 1)) 6 0) 5) + 1)) 5 0) 4) + 1)) 4 0) 3 (((upd (upd (upd (upd (upd (upd f3 6 ((f3 6) + 1)) 6 0) 5 (((upd (upd f3 6 ((f3 6) + 1)) 6 0) 5) + 1)) 5 0) 4 (((upd (upd (upd (upd f3 6 ((f3 6) + 1)) 6 0) 5 (((upd (upd f3 6 ((f3 6) + 1)) 6 0) 5) + 1)) 5 0) 4) + 1)) 4 0) 3) + 1)) 3 0) 2 (((upd (upd (upd (upd (upd (upd (upd (upd f3 6 ((f3 6) + 1)) 6 0) 5 (((upd (upd f3 6 ((f3 6) + 1)) 6 0) 5) + 1)) 5 0) 4 (((upd (upd (upd (upd f3 6 ((f3 6) + 1)) 6 0) 5 (((upd (upd f3 6 ((f3 6) + 1)) 6 0) 5) + 1)) 5 0) 4) + 1)) 4 0) 3 (((upd (upd (upd (upd (upd (upd f3 6 ((f3 6) + 1)) 6 0) 5 (((upd (upd f3 6 ((f3 6) + 1)) 6 0) 5) + 1)) 5 0) 4 (((upd (upd (upd (upd f3 6 ((f3 6) + 1)) 6 0) 5 (((upd (upd f3 6 ((f3 6) + 1)) 6 0) 5) + 1)) 5 0) 4) + 1)) 4 0) 3) + 1)) 3 0) 2) + 1)) 2 0) 1) + 1)) 1 0) 0 (((upd (upd (upd (upd (upd (upd (upd (upd (upd (upd (upd (upd f3 6 ((f3 6) + 1)) 6 0) 5 (((upd (upd f3 6 ((f3 6) + 1)) 6 0) 5) + 1)) 5 0) 4 (((upd (upd (upd (upd f3 6 ((f3 6) + 1)) 6 0) 5 (((upd (upd f3 6 ((f3 6) + 1)) 6 0) 5) + 1)) 5 0) 4) + 1)) 4 0) 3 (((upd (upd (upd (upd (upd (upd f3 6 ((f3 6) + 1)) 6 0) 5 (((upd (upd f3 6 ((f3 6) + 1)) 6 0) 5) + 1)) 5 0) 4 (((upd (upd (upd (upd f3 6 ((f3 6) + 1)) 6 0) 5 (((upd (upd f3 6 ((f3 6) + 1)) 6 0) 5) + 1)) 5 0) 4) + 1)) 4 0) 3) + 1)) 3 0) 2 (((upd (upd (upd (upd (upd (upd (upd (upd f3 6 ((f3 6) + 1)) 6 0) 5 (((upd (upd f3 6 ((f3 6) + 1)) 6 0) 5) + 1)) 5 0) 4 (((upd (upd (upd (upd f3 6 ((f3 6) + 1)) 6 0) 5 (((upd (upd f3 6 ((f3 6) + 1)) 6 0) 5) + 1)) 5 0) 4) + 1)) 4 0) 3 (((upd (upd (upd (upd (upd (upd f3 6 ((f3 6) + 1)) 6 0) 5 (((upd (upd f3 6 ((f3 6) + 1)) 6 0) 5) + 1)) 5 0) 4 (((upd (upd (upd (upd f3 6 ((f3 6) + 1)) 6 0) 5 (((upd (upd f3 6 ((f3 6) + 1)) 6 0) 5) + 1)) 5 0) 4) + 1)) 4 0) 3) + 1)) 3 0) 2) + 1)) 2 0) 1 (((upd (upd (upd (upd (upd (upd (upd (upd (upd (upd f3 6 ((f3 6) + 1)) 6 0) 5 (((upd (upd f3 6 ((f3 6) + 1)) 6 0) 5) + 1)) 5 0) 4 (((upd (upd (upd (upd f3 6 ((f3 6) + 1)) 6 0) 5 (((upd (upd f3 6 ((f3 6) + 1)) 6 0) 5) + 1)) 5 0) 4) + 1)) 4 0) 3 (((upd (upd (upd (upd (upd (upd f3 6 ((f3 6) + 1)) 6 0) 5 (((upd (upd f3 6 ((f3 6) + 1)) 6 0) 5) + 1)) 5 0) 4 (((upd (upd (upd (upd f3 6 ((f3 6) + 1)) 6 0) 5 (((upd (upd f3 6 ((f3 6) + 1)) 6 0) 5) + 1)) 5 0) 4) + 1)) 4 0) 3) + 1)) 3 0) 2 (((upd (upd (upd (upd (upd (upd (upd (upd f3 6 ((f3 6) + 1)) 6 0) 5 (((upd (upd f3 6 ((f3 6) + 1)) 6 0) 5) + 1)) 5 0) 4 (((upd (upd (upd (upd f3 6 ((f3 6) + 1)) 6 0) 5 (((upd (upd f3 6 ((f3 6) + 1)) 6 0) 5) + 1)) 5 0) 4) + 1)) 4 0) 3 (((upd (upd (upd (upd (upd (upd f3 6 ((f3 6) + 1)) 6 0) 5 (((upd (upd f3 6 ((f3 6) + 1)) 6 0) 5) + 1)) 5 0) 4 (((upd (upd (upd (upd f3 6 ((f3 6) + 1)) 6 0) 5 (((upd (upd f3 6 ((f3 6) + 1)) 6 0) 5) + 1)) 5 0) 4) + 1)) 4 0) 3) + 1)) 3 0) 2) + 1)) 2 0) 1) + 1)) 1 0) 0) + 1)), zAr T 0 a4_4 n4 f4, zAr T 0 a5_5 n4 f5, zAr T 0 a6_6 n4 f6]] _ _ := G.re rfl
                exact z_back hQz_ (z_vret C hr hlocks G (Nat.le_of_ble_eq_true rfl) (Nat.le_of_ble_eq_true rfl) dX0_nextRow_32 ⟨([zO0 h md wy la pc_ a1_1 a2_2 a3_3 a4_4 a5_5 a6_6, zAr T 0 a1_1 7 f1, zAr T 0 a2_2 7 f2, zAr T 0 a3_3 7 (upd (upd (upd (upd (upd (upd (upd (upd (upd (upd (upd (upd (upd f3 6 ((f3 6) + 1)) 6 0) 5 (((upd (upd f3 6 ((f3 6) + 1)) 6 0) 5) + 1)) 5 0) 4 (((upd (upd (upd (upd f3 6 ((f3 6) + 1)) 6 0) 5 (((upd (upd f3 6 ((f3 6) + 1)) 6 0) 5) + 1)) 5 0) 4) + 1)) 4 0) 3 (((upd (upd (upd (upd (upd (upd f3 6 ((f3 6) + 1)) 6 0) 5 (((upd (upd f3 6 ((f3 6) + 1)) 6 0) 5) + 1)) 5 0) 4 (((upd (upd (upd (upd f3 6 ((f3 6) + 1)) 6 0) 5 (((upd (upd f3 6 ((f3 6) + 1)) 6 0) 5) + 1)) 5 0) 4) + 1)) 4 0) 3) + 1)) 3 0) 2 (((upd (upd (upd (upd (upd (upd (upd (upd f3 6 ((f3 6) + 1)) 6 0) 5 (((upd (upd f3 6 ((f3 6) + 1)) 6 0) 5) + 1)) 5 0) 4 (((upd (upd (upd (upd f3 6 ((f3 6) + 1)) 6 0) 5 (((upd (upd f3 6 ((f3 6) + 1)) 6 0) 5) + 1)) 5 0) 4) + 1)) 4 0) 3 (((upd (upd (upd (upd (upd (upd f3 6 ((f3 6) + 1)) 6 0) 5 (((upd (upd f3 6 ((f3 6) + 1)) 6 0) 5) + 1)) 5 0) 4 (((upd (upd (upd (upd f3 6 ((f3 6) + 1)) 6 0) 5 (((upd (upd f3 6 ((f3 6) + 1)) 6 0) 5) + 1)) 5 0) 4) + 1)) 4 0) 3) + 1)) 3 0) 2) + 1)) 2 0) 1 (((upd (upd (upd (upd (upd (upd (upd (upd (upd (upd f3 6 ((f3 6) + 1)) 6 0) 5 (((upd (upd f3 6 ((f3 6) + 1)) 6 0) 5) + 1)) 5 0) 4 (((upd (upd (upd (upd f3 6 ((f3 6) + 1)) 6 0) 5 (((upd (upd f3 6 ((f3 6) + 1)) 6 0) 5) + 1)) 5 0) 4) + 1)) 4 0) 3 (((upd (upd (upd (upd (upd (upd f3 6 ((f3 6) + 1)) 6 0) 5 (((upd (upd f3 6 ((f3 6) + 1)) 6 0) 5) + 1)) 5 0) 4 (((upd (upd (upd (upd f3 6 ((f3 6) + 1)) 6 0) 5 (((upd (upd f3 6 ((f3 6) + 1)) 6 0) 5) + 1)) 5 0) 4) + 1)) 4 0) 3) + 1)) 3 0) 2 (((upd (upd (upd (upd (upd (upd (upd (upd f3 6 ((f3 6) + 1)) 6 0) 5 (((upd (upd f3 6 ((f3 6) + 1)) 6 0) 5) + 1)) 5 0) 4 (((upd (upd (upd (upd f3 6 ((f3 6) + 1)) 6 0) 5 (((upd (upd f3 6 ((f3 6) + 1)) 6 0) 5) + 1)) 5 0) 4) + 1)) 4 0) 3 (((upd (upd (upd (upd (upd (upd f3 6 ((f3 6) + 1)) 6 0) 5 (((upd (upd f3 6 ((f3 6) + 1)) 6 0) 5) + 1)) 5 0) 4 (((upd (upd (upd (upd f3 6 ((f3 6) + 1)) 6 0) 5 (((upd (upd f3 6 ((f3 6) + 1)) 6 0) 5) + 1)) 5 0) 4) + 1)) 4 0) 3) + 1)) 3 0) 2) + 1)) 2 0) 1) + 1)) 1 0) 0 (((upd (upd (upd (upd (upd (upd (upd (upd (upd (upd (upd (upd f3 6 ((f3 6) + 1)) 6 0) 5 (((upd (upd f3 6 ((f3 6) + 1)) 6 0) 5) + 1)) 5 0) 4 (((upd (upd (upd (upd f3 6 ((f3 6) + 1)) 6 0) 5 (((upd (upd f3 6 ((f3 6) + 1)) 6 0) 5) + 1)) 5 0) 4) + 1)) 4 0) 3 (((upd (upd (upd (upd (upd (upd f3 6 ((f3 6) + 1)) 6 0) 5 (((upd (upd f3 6 ((f3 6) + 1)) 6 0) 5) + 1)) 5 0) 4 (((upd (upd (upd (upd f3 6 ((f3 6) + 1)) 6 0) 5 (((upd (upd f3 6 ((f3 6) + 1)) 6 0) 5) + 1)) 5 0) 4) + 1)) 4 0) 3) + 1)) 3 0) 2 (((upd (upd (upd (upd (upd (upd (upd (upd f3 6 ((f3 6) + 1)) 6 0) 5 (((upd (upd f3 6 ((f3 6) + 1)) 6 0) 5) + 1)) 5 0) 4 (((upd (upd (upd (upd f3 6 ((f3 6) + 1)) 6 0) 5 (((upd (upd f3 6 ((f3 6) + 1)) 6 0) 5) + 1)) 5 0) 4) + 1)) 4 0) 3 (((upd (upd (upd (upd (upd (upd f3 6 ((f3 6) + 1)) 6 0) 5 (((upd (upd f3 6 ((f3 6) + 1)) 6 0) 5) + 1)) 5 0) 4 (((upd (upd (upd (upd f3 6 ((f3 6) + 1)) 6 0) 5 (((upd (upd f3 6 ((f3 6) + 1)) 6 0) 5) + 1)) 5 0) 4) + 1)) 4 0) 3) + 1)) 3 0) 2) + 1)) 2 0) 1 (((upd (upd (upd (upd (upd (upd (upd (upd (upd (upd f3 6 ((f3 6) + 1)) 6 0) 5 (((upd (upd f3 6 ((f3 6) + 1)) 6 0) 5) + 1)) 5 0) 4 (((upd (upd (upd (upd f3 6 ((f3 6) + 1)) 6 0) 5 (((upd (upd f3 6 ((f3 6) + 1)) 6 0) 5) + 1)) 5 0) 4) + 1)) 4 0) 3 (((upd (upd (upd (upd (upd (upd f3 6 ((f3 6) + 1)) 6 0) 5 (((upd (upd f3 6 ((f3 6) + 1)) 6 0) 5) + 1)) 5 0) 4 (((upd (upd (upd (upd f3 6 ((f3 6) + 1)) 6 0) 5 (((upd (upd f3 6 ((f3 6) + 1)) 6 0) 5) + 1)) 5 0) 4) + 1)) 4 0) 3) + 1)) 3 0) 2 (((upd (upd (upd (upd (upd (upd (upd (upd f3 6 ((f3 6) + 1)) 6 0) 5 (((upd (upd f3 6 ((f3 6) + 1)) 6 0) 5) + 1)) 5 0) 4 (((upd (upd (upd (upd f3 6 ((f3 6) + 1)) 6 0) 5 (((upd (upd f3 6 ((f3 6) + 1)) 6 0) 5) + 1)) 5 0) 4) + 1)) 4 0) 3 (((upd (upd (upd (upd (upd (upd f3 6 ((f3 6) + 1)) 6 0) 5 (((upd (upd f3 6 ((f3 6) + 1)) 6 0) 5) + 1)) 5 0) 4 (((upd (upd (upd (upd f3 6 ((f3 6) + 1)) 6 0) 5 (((upd (upd f3 6 ((f3 6) + 1)) 6 0) 5) + 1)) 5 0) 4) + 1)) 4 0) 3) + 1)) 3 0) 2) + 1)) 2 0) 1) + 1)) 1 0) 0) + 1)), zAr T 0 a4_4 n4 f4, zAr T 0 a5_5 n4 f5, zAr T 0 a6_6 n4 f6]), (upd (upd (upd (upd (upd (upd (upd (upd (upd (upd (upd (upd (upd f3 6 ((f3 6) + 1)) 6 0) 5 (((upd (upd f3 6 ((f3 6) + 1)) 6 0) 5) + 1)) 5 0) 4 (((upd (upd (upd (upd f3 6 ((f3 6) + 1)) 6 0) 5 (((upd (upd f3 6 ((f3 6) + 1)) 6 0) 5) + 1)) 5 0) 4) + 1)) 4 0) 3 (((upd (upd (upd (upd (upd (upd f3 6 ((f3 6) + 1)) 6 0) 5 (((upd (upd f3 6 ((f3 6) + 1)) 6 0) 5) + 1)) 5 0) 4 (((upd (upd (upd (upd f3 6 ((f3 6) + 1)) 6 0) 5 (((upd (upd f3 6 ((f3 6) + 1)) 6 0) 5) + 1)) 5 0) 4) + 1)) 4 0) 3) + 1)) 3 0) 2 (((upd (upd (upd (upd (upd (upd (upd (upd f3 6 ((f3 6) + 1)) 6 0) 5 (((upd (upd f3 6 ((f3 6) + 1)) 6 0) 5) + 1)) 5 0) 4 (((upd (upd (upd (upd f3 6 ((f3 6) + 1)) 6 0) 5 (((upd (upd f3 6 ((f3 6) + 1)) 6 0) 5) + 1)) 5 0) 4) + 1)) 4 0) 3 (((upd (upd (upd (upd (upd (upd f3 6 ((f3 6) + 1)) 6 0) 5 (((upd (upd f3 6 ((f3 6) + 1)) 6 0) 5) + 1)) 5 0) 4 (((upd (upd (upd (upd f3 6 ((f3 6) + 1)) 6 0) 5 (((upd (upd f3 6 ((f3 6) + 1)) 6 0) 5) + 1)) 5 0) 4) + 1)) 4 0) 3) + 1)) 3 0) 2) + 1)) 2 0) 1 (((upd (upd (upd (upd (upd (upd (upd (upd (upd (upd f3 6 ((f3 6) + 1)) 6 0) 5 (((upd (upd f3 6 ((f3 6) + 1)) 6 0) 5) + 1)) 5 0) 4 (((upd (upd (upd (upd f3 6 ((f3 6) + 1)) 6 0) 5 (((upd (upd f3 6 ((f3 6) + 1)) 6 0) 5) + 1)) 5 0) 4) + 1)) 4 0) 3 (((upd (upd (upd (upd (upd (upd f3 6 ((f3 6) + 1)) 6 0) 5 (((upd (upd f3 6 ((f3 6) + 1)) 6 0) 5) + 1)) 5 0) 4 (((upd (upd (upd (upd f3 6 ((f3 6) + 1)) 6 0) 5 (((upd (upd f3 6 ((f3 6) + 1)) 6 0) 5) + 1)) 5 0) 4) + 1)) 4 0) 3) + 1)) 3 0) 2 (((upd (upd (upd (upd (upd (upd (upd (upd f3 6 ((f3 6) + 1)) 6 0) 5 (((upd (upd f3 6 ((f3 6) + 1)) 6 0) 5) + 1)) 5 0) 4 (((upd (upd (upd (upd f3 6 ((f3 6) + 1)) 6 0) 5 (((upd (upd f3 6 ((f3 6) + 1)) 6 0) 5) + 1)) 5 0) 4) + 1)) 4 0) 3 (((upd (upd (upd (upd (upd (upd f3 6 ((f3 6) + 1)) 6 0) 5 (((upd (upd f3 6 ((f3 6) + 1)) 6 0) 5) + 1)) 5 0) 4 (((upd (upd (upd (upd f3 6 ((f3 6) + 1)) 6 0) 5 (((upd (upd f3 6 ((f3 6) + 1)) 6 0) 5) + 1)) 5 0) 4) + 1)) 4 0) 3) + 1)) 3 0) 2) + 1)) 2 0) 1) + 1)) 1 0) 0 (((upd (upd (upd (upd (upd (upd (upd (upd (upd (upd (upd (upd f3 6 ((f3 6) + 1)) 6 0) 5 (((upd (upd f3 6 ((f3 6) + 1)) 6 0) 5) + 1)) 5 0) 4 (((upd (upd (upd (upd f3 6 ((f3 6) + 1)) 6 0) 5 (((upd (upd f3 6 ((f3 6) + 1)) 6 0) 5) + 1)) 5 0) 4) + 1)) 4 0) 3 (((upd (upd (upd (upd (upd (upd f3 6 ((f3 6) + 1)) 6 0) 5 (((upd (upd f3 6 ((f3 6) + 1)) 6 0) 5) + 1)) 5 0) 4 (((upd (upd (upd (upd f3 6 ((f3 6) + 1)) 6 0) 5 (((upd (upd f3 6 ((f3 6) + 1)) 6 0) 5) + 1)) 5 0) 4) + 1)) 4 0) 3) + 1)) 3 0) 2 (((upd (upd (upd (upd (upd (upd (upd (upd f3 6 ((f3 6) + 1)) 6 0) 5 (((upd (upd f3 6 ((f3 6) + 1)) 6 0) 5) + 1)) 5 0) 4 (((upd (upd (upd (upd f3 6 ((f3 6) + 1)) 6 0) 5 (((upd (upd f3 6 ((f3 6) + 1)) 6 0) 5) + 1)) 5 0) 4) + 1)) 4 0) 3 (((upd (upd (upd (upd (upd (upd f3 6 ((f3 6) + 1)) 6 0) 5 (((upd (upd f3 6 ((f3 6) + 1)) 6 0) 5) + 1)) 5 0) 4 (((upd (upd (upd (upd f3 6 ((f3 6) + 1)) 6 0) 5 (((upd (upd f3 6 ((f3 6) + 1)) 6 0) 5) + 1)) 5 0) 4) + 1)) 4 0) 3) + 1)) 3 0) 2) + 1)) 2 0) 1 (((upd (upd (upd (upd (upd (upd (upd (upd (upd (upd f3 6 ((f3 6) + 1)) 6 0) 5 (((upd (upd f3 6 ((f3 6) + 1)) 6 0) 5) + 1)) 5 0) 4 (((upd (upd (upd (upd f3 6 ((f3 6) + 1)) 6 0) 5 (((upd (upd f3 6 ((f3 6) + 1)) 6 0) 5) + 1)) 5 0) 4) + 1)) 4 0) 3 (((upd (upd (upd (upd (upd (upd f3 6 ((f3 6) + 1)) 6 0) 5 (((upd (upd f3 6 ((f3 6) + 1)) 6 0) 5) + 1)) 5 0) 4 (((upd (upd (upd (upd f3 6 ((f3 6) + 1)) 6 0) 5 (((upd (upd f3 6 ((f3 6) + 1)) 6 0) 5) + 1)) 5 0) 4) + 1)) 4 0) 3) + 1)) 3 0) 2 (((upd (upd (upd (upd (upd (upd (upd (upd f3 6 ((f3 6) + 1)) 6 0) 5 (((upd (upd f3 6 ((f3 6) + 1)) 6 0) 5) + 1)) 5 0) 4 (((upd (upd (upd (upd f3 6 ((f3 6) + 1)) 6 0) 5 (((upd (upd f3 6 ((f3 6) + 1)) 6 0) 5) + 1)) 5 0) 4) + 1)) 4 0) 3 (((upd (upd (upd (upd (upd (upd f3 6 ((f3 6) + 1)) 6 0) 5 (((upd (upd f3 6 ((f3 6) + 1)) 6 0) 5) + 1)) 5 0) 4 (((upd (upd (upd (upd f3 6 ((f3 6) + 1)) 6 0) 5 (((upd (upd f3 6 ((f3 6) + 1)) 6 0) 5) + 1)) 5 0) 4) + 1)) 4 0) 3) + 1)) 3 0) 2) + 1)) 2 0) 1) + 1)) 1 0) 0) + 1)), rfl, hw_36⟩)
            · have c_30n : ¬ (f1 1).toInt ≤ (((upd (upd (upd (upd (upd (upd (upd (upd (upd (upd f3 6 ((f3 6) + 1)) 6 0) 5 (((upd (upd f3 6 ((f3 6) + 1)) 6 0) 5) + 1)) 5 0) 4 (((upd (upd (upd (upd f3 6 ((f3 6) + 1)) 6 0) 5 (((upd (upd f3 6 ((f3 6) + 1)) 6 0) 5) + 1)) 5 0) 4) + 1)) 4 0) 3 (((upd (upd (upd (upd (upd (upd f3 6 ((f3 6) + 1)) 6 0) 5 (((upd (upd f3 6 ((f3 6) + 1)) 6 0) 5) + 1)) 5 0) 4 (((upd (upd (upd (upd f3 6 ((f3 6) + 1)) 6 0) 5 (((upd (upd f3 6 ((f3 6) + 1)) 6 0) 5) + 1)) 5 0) 4) + 1)) 4 0) 3) + 1)) 3 0) 2 (((upd (upd (upd (upd (upd (upd (upd (upd f3 6 ((f3 6) + 1)) 6 0) 5 (((upd (upd f3 6 ((f3 6) + 1)) 6 0) 5) + 1)) 5 0) 4 (((upd (upd (upd (upd f3 6 ((f3 6) + 1)) 6 0) 5 (((upd (upd f3 6 ((f3 6) + 1)) 6 0) 5) + 1)) 5 0) 4) + 1)) 4 0) 3 (((upd (upd (upd (upd (upd (upd f3 6 ((f3 6) + 1)) 6 0) 5 (((upd (upd f3 6 ((f3 6) + 1)) 6 0) 5) + 1)) 5 0) 4 (((upd (upd (upd (upd f3 6 ((f3 6) + 1)) 6 0) 5 (((upd (upd f3 6 ((f3 6) + 1)) 6 0) 5) + 1)) 5 0) 4) + 1)) 4 0) 3) + 1)) 3 0) 2) + 1)) 2 0) 1) + 1).toInt := fun q => c_30 ((fa_le _ _).mpr q)
              have hw_37 : bWays T h la md wy pc_ f1 f2 (upd (upd (upd (upd (upd (upd (upd (upd (upd (upd (upd f3 6 ((f3 6) + 1)) 6 0) 5 (((upd (upd f3 6 ((f3 6) + 1)) 6 0) 5) + 1)) 5 0) 4 (((upd (upd (upd (upd f3 6 ((f3 6) + 1)) 6 0) 5 (((upd (upd f3 6 ((f3 6) + 1)) 6 0) 5) + 1)) 5 0) 4) + 1)) 4 0) 3 (((upd (upd (upd (upd (upd (upd f3 6 ((f3 6) + 1)) 6 0) 5 (((upd (upd f3 6 ((f3 6) + 1)) 6 0) 5) + 1)) 5 0) 4 (((upd (upd (upd (upd f3 6 ((f3 6) + 1)) 6 0) 5 (((upd (upd f3 6 ((f3 6) + 1)) 6 0) 5) + 1)) 5 0) 4) + 1)) 4 0) 3) + 1)) 3 0) 2 (((upd (upd (upd (upd (upd (upd (upd (upd f3 6 ((f3 6) + 1)) 6 0) 5 (((upd (upd f3 6 ((f3 6) + 1)) 6 0) 5) + 1)) 5 0) 4 (((upd (upd (upd (upd f3 6 ((f3 6) + 1)) 6 0) 5 (((upd (upd f3 6 ((f3 6) + 1)) 6 0) 5) + 1)) 5 0) 4) + 1)) 4 0) 3 (((upd (upd (upd (upd (upd (upd f3 6 ((f3 6) + 1)) 6 0) 5 (((upd (upd f3 6 ((f3 6) + 1)) 6 0) 5) + 1)) 5 0) 4 (((upd (upd (upd (upd f3 6 ((f3 6) + 1)) 6 0) 5 (((upd (upd f3 6 ((f3 6) + 1)) 6 0) 5) + 1)) 5 0) 4) + 1)) 4 0) 3) + 1)) 3 0) 2) + 1)) 2 0) 1 (((upd (upd (upd (upd (upd (upd (upd (upd (upd (upd f3 6 ((f3 6) + 1)) 6 0) 5 (((upd (upd f3 6 ((f3 6) + 1)) 6 0) 5) + 1)) 5 0) 4 (((upd (upd (upd (upd f3 6 ((f3 6) + 1)) 6 0) 5 (((upd (upd f3 6 ((f3 6) + 1)) 6 0) 5) + 1)) 5 0) 4) + 1)) 4 0) 3 (((upd (upd (upd (upd (upd (upd f3 6 ((f3 6) + 1)) 6 0) 5 (((upd (upd f3 6 ((f3 6) + 1)) 6 0) 5) + 1)) 5 0) 4 (((upd (upd (upd (upd f3 6 ((f3 6) + 1)) 6 0) 5 (((upd (upd f3 6 ((f3 6) + 1)) 6 0) 5) + 1)) 5 0) 4) + 1)) 4 0) 3) + 1)) 3 0) 2 (((upd (upd (upd (upd (upd (upd (upd (upd f3 6 ((f3 6) + 1)) 6 0) 5 (((upd (upd f3 6 ((f3 6) + 1)) 6 0) 5) + 1)) 5 0) 4 (((upd (upd (upd (upd f3 6 ((f3 6) + 1)) 6 0) 5 (((upd (upd f3 6 ((f3 6) + 1)) 6 0) 5) + 1)) 5 0) 4) + 1)) 4 0) 3 (((upd (upd (upd (upd (upd (upd f3 6 ((f3 6) + 1)) 6 0) 5 (((upd (upd f3 6 ((f3 6) + 1)) 6 0) 5) + 1)) 5 0) 4 (((upd (upd (upd (upd f3 6 ((f3 6) + 1)) 6 0) 5 (((upd (upd f3 6 ((f3 6) + 1)) 6 0) 5) + 1)) 5 0) 4) + 1)) 4 0) 3) + 1)) 3 0) 2) + 1)) 2 0) 1) + 1)) f4 f5 f6 n4 [zO0 h md wy la pc_ a1_1 a2_2 a3_3 a4_4 a5_5 a6_6, zAr T 0 a1_1 7 f1, zAr T 0 a2_2 7 f2, zAr T 0 a3_3 7 (upd (upd (upd (upd (upd (upd (upd (upd (upd (upd (upd f3 6 ((f3 6) + 1)) 6 0) 5 (((upd (upd f3 6 ((f3 6) + 1)) 6 0) 5) + 1)) 5 0) 4 (((upd (upd (upd (upd f3 6 ((f3 6) + 1)) 6 0) 5 (((upd (upd f3 6 ((f3 6) + 1)) 6 0) 5) + 1)) 5 0) 4) + 1)) 4 0) 3 (((upd (upd (upd (upd (upd (upd f3 6 ((f3 6) + 1)) 6 0) 5 (((upd (upd f3 6 ((f3 6) + 1)) 6 0) 5) + 1)) 5 0) 4 (((upd (upd (upd (upd f3 6 ((f3 6) + 1)) 6 0) 5 (((upd (upd f3 6 ((f3 6) + 1)) 6 0) 5) + 1)) 5 0) 4) + 1)) 4 0) 3) + 1)) 3 0) 2 (((upd (upd (upd (upd (upd (upd (upd (upd f3 6 ((f3 6) + 1)) 6 0) 5 (((upd (upd f3 6 ((f3 6) + 1)) 6 0) 5) + 1)) 5 0) 4 (((upd (upd (upd (upd f3 6 ((f3 6) + 1)) 6 0) 5 (((upd (upd f3 6 ((f3 6) + 1)) 6 0) 5) + 1)) 5 0) 4) + 1)) 4 0) 3 (((upd (upd (upd (upd (upd (upd f3 6 ((f3 6) + 1)) 6 0) 5 (((upd (upd f3 6 ((f3 6) + 1)) 6 0) 5) + 1)) 5 0) 4 (((upd (upd (upd (upd f3 6 ((f3 6) + 1)) 6 0) 5 (((upd (upd f3 6 ((f3 6) + 1)) 6 0) 5) + 1)) 5 0) 4) + 1)) 4 0) 3) + 1)) 3 0) 2) + 1)) 2 0) 1 (((upd (upd (upd (upd (upd (upd (upd (upd (upd (upd f3 6 ((f3 6) + 1)) 6 0) 5 (((upd (upd f3 6 ((f3 6) + 1)) 6 0) 5) + 1)) 5 0) 4 (((upd (upd (upd (upd f3 6 ((f3 6) + 1)) 6 0) 5 (((upd (upd f3 6 ((f3 6) + 1)) 6 0) 5) + 1)) 5 0) 4) + 1)) 4 0) 3 (((upd (upd (upd (upd (upd (upd f3 6 ((f3 6) + 1)) 6 0) 5 (((upd (upd f3 6 ((f3 6) + 1)) 6 0) 5) + 1)) 5 0) 4 (((upd (upd (upd (upd f3 6 ((f3 6) + 1)) 6 0) 5 (((upd (upd f3 6 ((f3 6) + 1)) 6 0) 5) + 1)) 5 0) 4) + 1)) 4 0) 3) + 1)) 3 0) 2 (((upd (upd (upd (upd (upd (upd (upd (upd f3 6 ((f3 6) + 1)) 6 0) 5 (((upd (upd f3 6 ((f3 6) + 1)) 6 0) 5) + 1)) 5 0) 4 (((upd (upd (upd (upd f3 6 ((f3 6) + 1)) 6 0) 5 (((upd (upd f3 6 ((f3 6) + 1)) 6 0) 5) + 1)) 5 0) 4) + 1)) 4 0) 3 (((upd (upd (upd (upd (upd (upd f3 6 ((f3 6) + 1)) 6 0) 5 (((upd (upd f3 6 ((f3 6) + 1)) 6 0) 5) + 1)) 5 0) 4 (((upd (upd (upd (upd f3 6 ((f3 6) + 1)) 6 0) 5 (((upd (upd f3 6 ((f3 6) + 1)) 6 0) 5) + 1)) 5 0) 4) + 1)) 4 0) 3) + 1)) 3 0) 2) + 1)) 2 0) 1) + 1)), zAr T 0 a4_4 n4 f4, zAr T 0 a5_5 n4 f5, zAr T 0 a6_6 n4 f6] := ⟨a1_1, a2_2, a3_3, a4_4, a5_5, a6_6, rfl⟩
              have G : zS T A s.heap s [[zO0 h md wy la pc_ a1_1 a2_2 a3_3 a4_4 a5_5 a6_6, zAr T 0 a1_1 7 f1, zAr T 0 a2_2 7 f2, zAr T 0 a3_3 7 (upd (upd (upd (upd (upd (upd (upd (upd (upd (upd (upd f3 6 ((f3 6) + 1)) 6 0) 5 (((upd (upd f3 6 ((f3 6) + 1)) 6 0) 5) + 1)) 5 0) 4 (((upd (upd (upd (upd f3 6 ((f3 6) + 1)) 6 0) 5 (((upd (upd f3 6 ((f3 6) + 1)) 6 0) 5) + 1)) 5 0) 4) + 1)) 4 0) 3 (((upd (upd (upd (upd (upd (upd f3 6 ((f3 6) + 1)) 6 0) 5 (((upd (upd f3 6 ((f3 6) + 1)) 6 0) 5) + 1)) 5 0) 4 (((upd (upd (upd (upd f3 6 ((f3 6) + 1)) 6 0) 5 (((upd (upd f3 6 ((f3 6) + 1)) 6 0) 5) + 1)) 5 0) 4) + 1)) 4 0) 3) + 1)) 3 0) 2 (((upd (upd (upd (upd (upd (upd (upd (upd f3 6 ((f3 6) + 1)) 6 0) 5 (((upd (upd f3 6 ((f3 6) + 1)) 6 0) 5) + 1)) 5 0) 4 (((upd (upd (upd (upd f3 6 ((f3 6) + 1)) 6 0) 5 (((upd (upd f3 6 ((f3 6) + 1)) 6 0) 5) + 1)) 5 0) 4) + 1)) 4 0) 3 (((upd (upd (upd (upd (upd (upd f3 6 ((f3 6) + 1)) 6 0) 5 (((upd (upd f3 6 ((f3 6) + 1)) 6 0) 5) + 1)) 5 0) 4 (((upd (upd (upd (upd f3 6 ((f3 6) + 1)) 6 0) 5 (((upd (upd f3 6 ((f3 6) + 1)) 6 0) 5) + 1)) 5 0) 4) + 1)) 4 0) 3) + 1)) 3 0) 2) + 1)) 2 0) 1 (((upd (upd (upd (upd (upd (upd (upd (upd (upd (upd f3 6 ((f3 6) + 1)) 6 0) 5 (((upd (upd f3 6 ((f3 6) + 1)) 6 0) 5) + 1)) 5 0) 4 (((upd (upd (upd (upd f3 6 ((f3 6) + 1)) 6 0) 5 (((upd (upd f3 6 ((f3 6) + 1)) 6 0) 5) + 1)) 5 0) 4) + 1)) 4 0) 3 (((upd (upd (upd (upd (upd (upd f3 6 ((f3 6) + 1)) 6 0) 5 (((upd (upd f3 6 ((f3 6) + 1)) 6 0) 5) + 1)) 5 0) 4 (((upd (upd (upd (upd f3 6 ((f3 6) + 1)) 6 0) 5 (((upd (upd f3 6 ((f3 6) + 1)) 6 0) 5) + 1)) 5 0) 4) + 1)) 4 0) 3) + 1)) 3 0) 2 (((upd (upd (upd (upd (upd (upd (upd (upd f3 6 ((f3 6) + 1)) 6 0) 5 (((upd (upd f3 6 ((f3 6) + 1)) 6 0) 5) + 1)) 5 0) 4 (((upd (upd (upd (upd f3 6 ((f3 6) + 1)) 6 0) 5 (((upd (upd f3 6 ((f3 6) + 1)) 6 0) 5) + 1)) 5 0) 4) + 1)) 4 0) 3 (((upd (upd (upd (upd (upd (upd f3 6 ((f3 6) + 1)) 6 0) 5 (((upd (upd f3 6 ((f3 6) + 1)) 6 0) 5) + 1)) 5 0) 4 (((upd (upd (upd (upd f3 6 ((f3 6) + 1)) 6 0) 5 (((upd (upd f3 6 ((f3 6) + 1)) 6 0) 5) + 1)) 5 0) 4) + 1)) 4 0) 3) + 1)) 3 0) 2) + 1)) 2 0) 1) + 1)), zAr T 0 a4_4 n4 f4, zAr T 0 a5_5 n4 f5, zAr T 0 a6_6 n4 f6]] _ _ := G.re rfl
              exact z_back hQz_ (z_vret C hr hlocks G (Nat.le_of_ble_eq_true rfl) (Nat.le_of_ble_eq_true rfl) dX0_nextRow_32 ⟨([zO0 h md wy la pc_ a1_1 a2_2 a3_3 a4_4 a5_5 a6_6, zAr T 0 a1_1 7 f1, zAr T 0 a2_2 7 f2, zAr T 0 a3_3 7 (upd (upd (upd (upd (upd (upd (upd (upd (upd (upd (upd f3 6 ((f3 6) + 1)) 6 0) 5 (((upd (upd f3 6 ((f3 6) + 1)) 6 0) 5) + 1)) 5 0) 4 (((upd (upd (upd (upd f3 6 ((f3 6) + 1)) 6 0) 5 (((upd (upd f3 6 ((f3 6) + 1)) 6 0) 5) + 1)) 5 0) 4) + 1)) 4 0) 3 (((upd (upd (upd (upd (upd (upd f3 6 ((f3 6) + 1)) 6 0) 5 (((upd (upd f3 6 ((f3 6) + 1)) 6 0) 5) + 1)) 5 0) 4 (((upd (upd (upd (upd f3 6 ((f3 6) + 1)) 6 0) 5 (((upd (upd f3 6 ((f3 6) + 1)) 6 0) 5) + 1)) 5 0) 4) + 1)) 4 0) 3) + 1)) 3 0) 2 (((upd (upd (upd (upd (upd (upd (upd (upd f3 6 ((f3 6) + 1)) 6 0) 5 (((upd (upd f3 6 ((f3 6) + 1)) 6 0) 5) + 1)) 5 0) 4 (((upd (upd (upd (upd f3 6 ((f3 6) + 1)) 6 0) 5 (((upd (upd f3 6 ((f3 6) + 1)) 6 0) 5) + 1)) 5 0) 4) + 1)) 4 0) 3 (((upd (upd (upd (upd (upd (upd f3 6 ((f3 6) + 1)) 6 0) 5 (((upd (upd f3 6 ((f3 6) + 1)) 6 0) 5) + 1)) 5 0) 4 (((upd (upd (upd (upd f3 6 ((f3 6) + 1)) 6 0) 5 (((upd (upd f3 6 ((f3 6) + 1)) 6 0) 5) + 1)) 5 0) 4) + 1)) 4 0) 3) + 1)) 3 0) 2) + 1)) 2 0) 1 (((upd (upd (upd (upd (upd (upd (upd (upd (upd (upd f3 6 ((f3 6) + 1)) 6 0) 5 (((upd (upd f3 6 ((f3 6) + 1)) 6 0) 5) + 1)) 5 0) 4 (((upd (upd (upd (upd f3 6 ((f3 6) + 1)) 6 0) 5 (((upd (upd f3 6 ((f3 6) + 1)) 6 0) 5) + 1)) 5 0) 4) + 1)) 4 0) 3 (((upd (upd (upd (upd (upd (upd f3 6 ((f3 6) + 1)) 6 0) 5 (((upd (upd f3 6 ((f3 6) + 1)) 6 0) 5) + 1)) 5 0) 4 (((upd (upd (upd (upd f3 6 ((f3 6) + 1)) 6 0) 5 (((upd (upd f3 6 ((f3 6) + 1)) 6 0) 5) + 1)) 5 0) 4) + 1)) 4 0) 3) + 1)) 3 0) 2 (((upd (upd (upd (upd (upd (upd (upd (upd f3 6 ((f3 6) + 1)) 6 0) 5 (((upd (upd f3 6 ((f3 6) + 1)) 6 0) 5) + 1)) 5 0) 4 (((upd (upd (upd (upd f3 6 ((f3 6) + 1)) 6 0) 5 (((upd (upd f3 6 ((f3 6) + 1)) 6 0) 5) + 1)) 5 0) 4) + 1)) 4 0) 3 (((upd (upd (upd (upd (upd (upd f3 6 ((f3 6) + 1)) 6 0) 5 (((upd (upd f3 6 ((f3 6) + 1)) 6 0) 5) + 1)) 5 0) 4 (((upd (upd (upd (upd f3 6 ((f3 6) + 1)) 6 0) 5 (((upd (upd f3 6 ((f3 6) + 1)) 6 0) 5) + 1)) 5 0) 4) + 1)) 4 0) 3) + 1)) 3 0) 2) + 1)) 2 0) 1) + 1)), zAr T 0 a4_4 n4 f4, zAr T 0 a5_5 n4 f5, zAr T 0 a6_6 n4 f6]), (upd (upd (upd (upd (upd (upd (upd (upd (upd (upd (upd f3 6 ((f3 6) + 1)) 6 0) 5 (((upd (upd f3 6 ((f3 6) + 1)) 6 0) 5) + 1)) 5 0) 4 (((upd (upd (upd (upd f3 6 ((f3 6) + 1)) 6 0) 5 (((upd (upd f3 6 ((f3 6) + 1)) 6 0) 5) + 1)) 5 0) 4) + 1)) 4 0) 3 (((upd (upd (upd (upd (upd (upd f3 6 ((f3 6) + 1)) 6 0) 5 (((upd (upd f3 6 ((f3 6) + 1)) 6 0) 5) + 1)) 5 0) 4 (((upd (upd (upd (upd f3 6 ((f3 6) + 1)) 6 0) 5 (((upd (upd f3 6 ((f3 6) + 1)) 6 0) 5) + 1)) 5 0) 4) + 1)) 4 0) 3) + 1)) 3 0) 2 (((upd (upd (upd (upd (upd (upd (upd (upd f3 6 ((f3 6) + 1)) 6 0) 5 (((upd (upd f3 6 ((f3 6) + 1)) 6 0) 5) + 1)) 5 0) 4 (((upd (upd (upd (upd f3 6 ((f3 6) + 1)) 6 0) 5 (((upd (upd f3 6 ((f3 6) + 1)) 6 0) 5) + 1)) 5 0) 4) + 1)) 4 0) 3 (((upd (upd (upd (upd (upd (upd f3 6 ((f3 6) + 1)) 6 0) 5 (((upd (upd f3 6 ((f3 6) + 1)) 6 0) 5) + 1)) 5 0) 4 (((upd (upd (upd (upd f3 6 ((f3 6) + 1)) 6 0) 5 (((upd (upd f3 6 ((f3 6) + 1)) 6 0) 5) + 1)) 5 0) 4) + 1)) 4 0) 3) + 1)) 3 0) 2) + 1)) 2 0) 1 (((upd (upd (upd (upd (upd (upd (upd (upd (upd (upd f3 6 ((f3 6) + 1)) 6 0) 5 (((upd (upd f3 6 ((f3 6) + 1)) 6 0) 5) + 1)) 5 0) 4 (((upd (upd (upd (upd f3 6 ((f3 6) + 1)) 6 0) 5 (((upd (upd f3 6 ((f3 6) + 1)) 6 0) 5) + 1)) 5 0) 4) + 1)) 4 0) 3 (((upd (upd (upd (upd (upd (upd f3 6 ((f3 6) + 1)) 6 0) 5 (((upd (upd f3 6 ((f3 6) + 1)) 6 0) 5) + 1)) 5 0) 4 (((upd (upd (upd (upd f3 6 ((f3 6) + 1)) 6 0) 5 (((upd (upd f3 6 ((f3 6) + 1)) 6 0) 5) + 1)) 5 0) 4) + 1)) 4 0) 3) + 1)) 3 0) 2 (((upd (upd (upd (upd (upd (upd (upd (upd f3 6 ((f3 6) + 1)) 6 0) 5 (((upd (upd f3 6 ((f3 6) + 1)) 6 0) 5) + 1)) 5 0) 4 (((upd (upd (upd (upd f3 6 ((f3 6) + 1)) 6 0) 5 (((upd (upd f3 6 ((f3 6) + 1)) 6 0) 5) + 1)) 5 0) 4) + 1)) 4 0) 3 (((upd (upd (upd (upd (upd (upd f3 6 ((f3 6) + 1)) 6 0) 5 (((upd (upd f3 6 ((f3 6) + 1)) 6 0) 5) + 1)) 5 0) 4 (((upd (upd (upd (upd f3 6 ((f3 6) + 1)) 6 0) 5 (((upd (upd f3 6 ((f3 6) + 1)) 6 0) 5) + 1)) 5 0) 4) + 1)) 4 0) 3) + 1)) 3 0) 2) + 1)) 2 0) 1) + 1)), rfl, hw_37⟩)
          · have c_26n : ¬ (f1 2).toInt ≤ (((upd (upd (upd (upd (upd (upd (upd (upd f3 6 ((f3 6) + 1)) 6 0) 5 (((upd (upd f3 6 ((f3 6) + 1)) 6 0) 5) + 1)) 5 0) 4 (((upd (upd (upd (upd f3 6 ((f3 6) + 1)) 6 0) 5 (((upd (upd f3 6 ((f3 6) + 1)) 6 0) 5) + 1)) 5 0) 4) + 1)) 4 0) 3 (((upd (upd (upd (upd (upd (upd f3 6 ((f3 6) + 1)) 6 0) 5 (((upd (upd f3 6 ((f3 6) + 1)) 6 0) 5) + 1)) 5 0) 4 (((upd (upd (upd (upd f3 6 ((f3 6) + 1)) 6 0) 5 (((upd (upd f3 6 ((f3 6) + 1)) 6 0) 5) + 1)) 5 0) 4) + 1)) 4 0) 3) + 1)) 3 0) 2) + 1).toInt := fun q => c_26 ((fa_le _ _).mpr q)
            have hw_38 : bWays T h la md wy pc_ f1 f2 (upd (upd (upd (upd (upd (upd (upd (upd (upd f3 6 ((f3 6) + 1)) 6 0) 5 (((upd (upd f3 6 ((f3 6) + 1)) 6 0) 5) + 1)) 5 0) 4 (((upd (upd (upd (upd f3 6 ((f3 6) + 1)) 6 0) 5 (((upd (upd f3 6 ((f3 6) + 1)) 6 0) 5) + 1)) 5 0) 4) + 1)) 4 0) 3 (((upd (upd (upd (upd (upd (upd f3 6 ((f3 6) + 1)) 6 0) 5 (((upd (upd f3 6 ((f3 6) + 1)) 6 0) 5) + 1)) 5 0) 4 (((upd (upd (upd (upd f3 6 ((f3 6) + 1)) 6 0) 5 (((upd (upd f3 6 ((f3 6) + 1)) 6 0) 5) + 1)) 5 0) 4) + 1)) 4 0) 3) + 1)) 3 0) 2 (((upd (upd (upd (upd (upd (upd (upd (upd f3 6 ((f3 6) + 1)) 6 0) 5 (((upd (upd f3 6 ((f3 6) + 1)) 6 0) 5) + 1)) 5 0) 4 (((upd (upd (upd (upd f3 6 ((f3 6) + 1)) 6 0) 5 (((upd (upd f3 6 ((f3 6) + 1)) 6 0) 5) + 1)) 5 0) 4) + 1)) 4 0) 3 (((upd (upd (upd (upd (upd (upd f3 6 ((f3 6) + 1)) 6 0) 5 (((upd (upd f3 6 ((f3 6) + 1)) 6 0) 5) + 1)) 5 0) 4 (((upd (upd (upd (upd f3 6 ((f3 6) + 1)) 6 0) 5 (((upd (upd f3 6 ((f3 6) + 1)) 6 0) 5) + 1)) 5 0) 4) + 1)) 4 0) 3) + 1)) 3 0) 2) + 1)) f4 f5 f6 n4 [zO0 h md wy la pc_ a1_1 a2_2 a3_3 a4_4 a5_5 a6_6, zAr T 0 a1_1 7 f1, zAr T 0 a2_2 7 f2, zAr T 0 a3_3 7 (upd (upd (upd (upd (upd (upd (upd (upd (upd f3 6 ((f3 6) + 1)) 6 0) 5 (((upd (upd f3 6 ((f3 6) + 1)) 6 0) 5) + 1)) 5 0) 4 (((upd (upd (upd (upd f3 6 ((f3 6) + 1)) 6 0) 5 (((upd (upd f3 6 ((f3 6) + 1)) 6 0) 5) + 1)) 5 0) 4) + 1)) 4 0) 3 (((upd (upd (upd (upd (upd (upd f3 6 ((f3 6) + 1)) 6 0) 5 (((upd (upd f3 6 ((f3 6) + 1)) 6 0) 5) + 1)) 5 0) 4 (((upd (upd (upd (upd f3 6 ((f3 6) + 1)) 6 0) 5 (((upd (upd f3 6 ((f3 6) + 1)) 6 0) 5) + 1)) 5 0) 4) + 1)) 4 0) 3) + 1)) 3 0) 2 (((upd (upd (upd (upd (upd (upd (upd (upd f3 6 ((f3 6) + 1)) 6 0) 5 (((upd (upd f3 6 ((f3 6) + 1)) 6 0) 5) + 1)) 5 0) 4 (((upd (upd (upd (upd f3 6 ((f3 6) + 1)) 6 0) 5 (((upd (upd f3 6 ((f3 6) + 1)) 6 0) 5) + 1)) 5 0) 4) + 1)) 4 0) 3 (((upd (upd (upd (upd (upd (upd f3 6 ((f3 6) + 1)) 6 0) 5 (((upd (upd f3 6 ((f3 6) + 1)) 6 0) 5) + 1)) 5 0) 4 (((upd (upd (upd (upd f3 6 ((f3 6) + 1)) 6 0) 5 (((upd (upd f3 6 ((f3 6) + 1)) 6 0) 5) + 1)) 5 0) 4) + 1)) 4 0) 3) + 1)) 3 0) 2) + 1)), zAr T 0 a4_4 n4 f4, zAr T 0 a5_5 n4 f5, zAr T 0 a6_6 n4 f6] := ⟨a1_1, a2_2, a3_3, a4_4, a5_5, a6_6, rfl⟩
            have G : zS T A s.heap s [[zO0 h md wy la pc_ a1_1 a2_2 a3_3 a4_4 a5_5 a6_6, zAr T 0 a1_1 7 f1, zAr T 0 a2_2 7 f2, zAr T 0 a3_3 7 (upd (upd (upd (upd (upd (upd (upd (upd (upd f3 6 ((f3 6) + 1)) 6 0) 5 (((upd (upd f3 6 ((f3 6) + 1)) 6 0) 5) + 1)) 5 0) 4 (((upd (upd (upd (upd f3 6 ((f3 6) + 1)) 6 0) 5 (((upd (upd f3 6 ((f3 6) + 1)) 6 0) 5) + 1)) 5 0) 4) + 1)) 4 0) 3 (((upd (upd (upd (upd (upd (upd f3 6 ((f3 6) + 1)) 6 0) 5 (((upd (upd f3 6 ((f3 6) + 1)) 6 0) 5) + 1)) 5 0) 4 (((upd (upd (upd (upd f3 6 ((f3 6) + 1)) 6 0) 5 (((upd (upd f3 6 ((f3 6) + 1)) 6 0) 5) + 1)) 5 0) 4) + 1)) 4 0) 3) + 1)) 3 0) 2 (((upd (upd (upd (upd (upd (upd (upd (upd f3 6 ((f3 6) + 1)) 6 0) 5 (((upd (upd f3 6 ((f3 6) + 1)) 6 0) 5) + 1)) 5 0) 4 (((upd (upd (upd (upd f3 6 ((f3 6) + 1)) 6 0) 5 (((upd (upd f3 6 ((f3 6) + 1)) 6 0) 5) + 1)) 5 0) 4) + 1)) 4 0) 3 (((upd (upd (upd (upd (upd (upd f3 6 ((f3 6) + 1)) 6 0) 5 (((upd (upd f3 6 ((f3 6) + 1)) 6 0) 5) + 1)) 5 0) 4 (((upd (upd (upd (upd f3 6 ((f3 6) + 1)) 6 0) 5 (((upd (upd f3 6 ((f3 6) + 1)) 6 0) 5) + 1)) 5 0) 4) + 1)) 4 0) 3) + 1)) 3 0) 2) + 1)), zAr T 0 a4_4 n4 f4, zAr T 0 a5_5 n4 f5, zAr T 0 a6_6 n4 f6]] _ _ := G.re rfl
            exact z_back hQz_ (z_vret C hr hlocks G (Nat.le_of_ble_eq_true rfl) (Nat.le_of_ble_eq_true rfl) dX0_nextRow_32 ⟨([zO0 h md wy la pc_ a1_1 a2_2 a3_3 a4_4 a5_5 a6_6, zAr T 0 a1_1 7 f1, zAr T 0 a2_2 7 f2, zAr T 0 a3_3 7 (upd (upd (upd (upd (upd (upd (upd (upd (upd f3 6 ((f3 6) + 1)) 6 0) 5 (((upd (upd f3 6 ((f3 6) + 1)) 6 0) 5) + 1)) 5 0) 4 (((upd (upd (upd (upd f3 6 ((f3 6) + 1)) 6 0) 5 (((upd (upd f3 6 ((f3 6) + 1)) 6 0) 5) + 1)) 5 0) 4) + 1)) 4 0) 3 (((upd (upd (upd (upd (upd (upd f3 6 ((f3 6) + 1)) 6 0) 5 (((upd (upd f3 6 ((f3 6) + 1)) 6 0) 5) + 1)) 5 0) 4 (((upd (upd (upd (upd f3 6 ((f3 6) + 1)) 6 0) 5 (((upd (upd f3 6 ((f3 6) + 1)) 6 0) 5) + 1)) 5 0) 4) + 1)) 4 0) 3) + 1)) 3 0) 2 (((upd (upd (upd (upd (upd (upd (upd (upd f3 6 ((f3 6) + 1)) 6 0) 5 (((upd (upd f3 6 ((f3 6) + 1)) 6 0) 5) + 1)) 5 0) 4 (((upd (upd (upd (upd f3 6 ((f3 6) + 1)) 6 0) 5 (((upd (upd f3 6 ((f3 6) + 1)) 6 0) 5) + 1)) 5 0) 4) + 1)) 4 0) 3 (((upd (upd (upd (upd (upd (upd f3 6 ((f3 6) + 1)) 6 0) 5 (((upd (upd f3 6 ((f3 6) + 1)) 6 0) 5) + 1)) 5 0) 4 (((upd (upd (upd (upd f3 6 ((f3 6) + 1)) 6 0) 5 (((upd (upd f3 6 ((f3 6) + 1)) 6 0) 5) + 1)) 5 0) 4) + 1)) 4 0) 3) + 1)) 3 0) 2) + 1)), zAr T 0 a4_4 n4 f4, zAr T 0 a5_5 n4 f5, zAr T 0 a6_6 n4 f6]), (upd (upd (upd (upd (upd (upd (upd (upd (upd f3 6 ((f3 6) + 1)) 6 0) 5 (((upd (upd f3 6 ((f3 6) + 1)) 6 0) 5) + 1)) 5 0) 4 (((upd (upd (upd (upd f3 6 ((f3 6) + 1)) 6 0) 5 (((upd (upd f3 6 ((f3 6) + 1)) 6 0) 5) + 1)) 5 0) 4) + 1)) 4 0) 3 (((upd (upd (upd (upd (upd (upd f3 6 ((f3 6) + 1)) 6 0) 5 (((upd (upd f3 6 ((f3 6) + 1)) 6 0) 5) + 1)) 5 0) 4 (((upd (upd (upd (upd f3 6 ((f3 6) + 1)) 6 0) 5 (((upd (upd f3 6 ((f3 6) + 1)) 6 0) 5) + 1)) 5 0) 4) + 1)) 4 0) 3) + 1)) 3 0) 2 (((upd (upd (upd (upd (upd (upd (upd (upd f3 6 ((f3 6) + 1)) 6 0) 5 (((upd (upd f3 6 ((f3 6) + 1)) 6 0) 5) + 1)) 5 0) 4 (((upd (upd (upd (upd f3 6 ((f3 6) + 1)) 6 0) 5 (((upd (upd f3 6 ((f3 6) + 1)) 6 0) 5) + 1)) 5 0) 4) + 1)) 4 0) 3 (((upd (upd (upd (upd (upd (upd f3 6 ((f3 6) + 1)) 6 0) 5 (((upd (upd f3 6 ((f3 6) + 1)) 6 0) 5) + 1)) 5 0) 4 (((upd (upd (upd (upd f3 6 ((f3 6) + 1)) 6 0) 5 (((upd (upd f3 6 ((f3 6) + 1)) 6 0) 5) + 1)) 5 0) 4) + 1)) 4 0) 3) + 1)) 3 0) 2) + 1)), rfl, hw_38⟩)
        · have c_22n : ¬ (f1 3).toInt ≤ (((upd (upd (upd (upd (upd (upd f3 6 ((f3 6) + 1)) 6 0) 5 (((upd (upd f3 6 ((f3 6) + 1)) 6 0) 5) + 1)) 5 0) 4 (((upd (upd (upd (upd f3 6 ((f3 6) + 1)) 6 0) 5 (((upd (upd f3 6 ((f3 6) + 1)) 6 0) 5) + 1)) 5 0) 4) + 1)) 4 0) 3) + 1).toInt := fun q => c_22 ((fa_le _ _).mpr q)
          have hw_39 : bWays T h la md wy pc_ f1 f2 (upd (upd (upd (upd (upd (upd (upd f3 6 ((f3 6) + 1)) 6 0) 5 (((upd (upd f3 6 ((f3 6) + 1)) 6 0) 5) + 1)) 5 0) 4 (((upd (upd (upd (upd f3 6 ((f3 6) + 1)) 6 0) 5 (((upd (upd f3 6 ((f3 6) + 1)) 6 0) 5) + 1)) 5 0) 4) + 1)) 4 0) 3 (((upd (upd (upd (upd (upd (upd f3 6 ((f3 6) + 1)) 6 0) 5 (((upd (upd f3 6 ((f3 6) + 1)) 6 0) 5) + 1)) 5 0) 4 (((upd (upd (upd (upd f3 6 ((f3 6) + 1)) 6 0) 5 (((upd (upd f3 6 ((f3 6) + 1)) 6 0) 5) + 1)) 5 0) 4) + 1)) 4 0) 3) + 1)) f4 f5 f6 n4 [zO0 h md wy la pc_ a1_1 a2_2 a3_3 a4_4 a5_5 a6_6, zAr T 0 a1_1 7 f1, zAr T 0 a2_2 7 f2, zAr T 0 a3_3 7 (upd (upd (upd (upd (upd (upd (upd f3 6 ((f3 6) + 1)) 6 0) 5 (((upd (upd f3 6 ((f3 6) + 1)) 6 0) 5) + 1)) 5 0) 4 (((upd (upd (upd (upd f3 6 ((f3 6) + 1)) 6 0) 5 (((upd (upd f3 6 ((f3 6) + 1)) 6 0) 5) + 1)) 5 0) 4) + 1)) 4 0) 3 (((upd (upd (upd (upd (upd (upd f3 6 ((f3 6) + 1)) 6 0) 5 (((upd (upd f3 6 ((f3 6) + 1)) 6 0) 5) + 1)) 5 0) 4 (((upd (upd (upd (upd f3 6 ((f3 6) + 1)) 6 0) 5 (((upd (upd f3 6 ((f3 6) + 1)) 6 0) 5) + 1)) 5 0) 4) + 1)) 4 0) 3) + 1)), zAr T 0 a4_4 n4 f4, zAr T 0 a5_5 n4 f5, zAr T 0 a6_6 n4 f6] := ⟨a1_1, a2_2, a3_3, a4_4, a5_5, a6_6, rfl⟩
          have G : zS T A s.heap s [[zO0 h md wy la pc_ a1_1 a2_2 a3_3 a4_4 a5_5 a6_6, zAr T 0 a1_1 7 f1, zAr T 0 a2_2 7 f2, zAr T 0 a3_3 7 (upd (upd (upd (upd (upd (upd (upd f3 6 ((f3 6) + 1)) 6 0) 5 (((upd (upd f3 6 ((f3 6) + 1)) 6 0) 5) + 1)) 5 0) 4 (((upd (upd (upd (upd f3 6 ((f3 6) + 1)) 6 0) 5 (((upd (upd f3 6 ((f3 6) + 1)) 6 0) 5) + 1)) 5 0) 4) + 1)) 4 0) 3 (((upd (upd (upd (upd (upd (upd f3 6 ((f3 6) + 1)) 6 0) 5 (((upd (upd f3 6 ((f3 6) + 1)) 6 0) 5) + 1)) 5 0) 4 (((upd (upd (upd (upd f3 6 ((f3 6) + 1)) 6 0) 5 (((upd (upd f3 6 ((f3 6) + 1)) 6 0) 5) + 1)) 5 0) 4) + 1)) 4 0) 3) + 1)), zAr T 0 a4_4 n4 f4, zAr T 0 a5_5 n4 f5, zAr T 0 a6_6 n4 f6]] _ _ := G.re rfl
          exact z_back hQz_ (z_vret C hr hlocks G (Nat.le_of_ble_eq_true rfl) (Nat.le_of_ble_eq_true rfl) dX0_nextRow_32 ⟨([zO0 h md wy la pc_ a1_1 a2_2 a3_3 a4_4 a5_5 a6_6, zAr T 0 a1_1 7 f1, zAr T 0 a2_2 7 f2, zAr T 0 a3_3 7 (upd (upd (upd (upd (upd (upd (upd f3 6 ((f3 6) + 1)) 6 0) 5 (((upd (upd f3 6 ((f3 6) + 1)) 6 0) 5) + 1)) 5 0) 4 (((upd (upd (upd (upd f3 6 ((f3 6) + 1)) 6 0) 5 (((upd (upd f3 6 ((f3 6) + 1)) 6 0) 5) + 1)) 5 0) 4) + 1)) 4 0) 3 (((upd (upd (upd (upd (upd (upd f3 6 ((f3 6) + 1)) 6 0) 5 (((upd (upd f3 6 ((f3 6) + 1)) 6 0) 5) + 1)) 5 0) 4 (((upd (upd (upd (upd f3 6 ((f3 6) + 1)) 6 0) 5 (((upd (upd f3 6 ((f3 6) + 1)) 6 0) 5) + 1)) 5 0) 4) + 1)) 4 0) 3) + 1)), zAr T 0 a4_4 n4 f4, zAr T 0 a5_5 n4 f5, zAr T 0 a6_6 n4 f6]), (upd (upd (upd (upd (upd (upd (upd f3 6 ((f3 6) + 1)) 6 0) 5 (((upd (upd f3 6 ((f3 6) + 1)) 6 0) 5) + 1)) 5 0) 4 (((upd (upd (upd (upd f3 6 ((f3 6) + 1)) 6 0) 5 (((upd (upd f3 6 ((f3 6) + 1)) 6 0) 5) + 1)) 5 0) 4) + 1)) 4 0) 3 (((upd (upd (upd (upd (upd (upd f3 6 ((f3 6) + 1)) 6 0) 5 (((upd (upd f3 6 ((f3 6) + 1)) 6 0) 5) + 1)) 5 0) 4 (((upd (upd (upd (upd f3 6 ((f3 6) + 1)) 6 0) 5 (((upd (upd f3 6 ((f3 6) + 1)) 6 0) 5) + 1)) 5 0) 4) + 1)) 4 0) 3) + 1)), rfl, hw_39⟩)
      · have c_18n : ¬ (f1 4).toInt ≤ (((upd (upd (upd (upd f3 6 ((f3 6) + 1)) 6 0) 5 (((upd (upd f3 6 ((f3 6) + 1)) 6 0) 5) + 1)) 5 0) 4) + 1).toInt := fun q => c_18 ((fa_le _ _).mpr q)
        have hw_40 : bWays T h la md wy pc_ f1 f2 (upd (upd (upd (upd (upd f3 6 ((f3 6) + 1)) 6 0) 5 (((upd (upd f3 6 ((f3 6) + 1)) 6 0) 5) + 1)) 5 0) 4 (((upd (upd (upd (upd f3 6 ((f3 6) + 1)) 6 0) 5 (((upd (upd f3 6 ((f3 6) + 1)) 6 0) 5) + 1)) 5 0) 4) + 1)) f4 f5 f6 n4 [zO0 h md wy la pc_ a1_1 a2_2 a3_3 a4_4 a5_5 a6_6, zAr T 0 a1_1 7 f1, zAr T 0 a2_2 7 f2, zAr T 0 a3_3 7 (upd (upd (upd (upd (upd f3 6 ((f3 6) + 1)) 6 0) 5 (((upd (upd f3 6 ((f3 6) + 1)) 6 0) 5) + 1)) 5 0) 4 (((upd (upd (upd (upd f3 6 ((f3 6) + 1)) 6 0) 5 (((upd (upd f3 6 ((f3 6) + 1)) 6 0) 5) + 1)) 5 0) 4) + 1)), zAr T 0 a4_4 n4 f4, zAr T 0 a5_5 n4 f5, zAr T 0 a6_6 n4 f6] := ⟨a1_1, a2_2, a3_3, a4_4, a5_5, a6_6, rfl⟩
        have G : zS T A s.heap s [[zO0 h md wy la pc_ a1_1 a2_2 a3_3 a4_4 a5_5 a6_6, zAr T 0 a1_1 7 f1, zAr T 0 a2_2 7 f2, zAr T 0 a3_3 7 (upd (upd (upd (upd (upd f3 6 ((f3 6) + 1)) 6 0) 5 (((upd (upd f3 6 ((f3 6) + 1)) 6 0) 5) + 1)) 5 0) 4 (((upd (upd (upd (upd f3 6 ((f3 6) + 1)) 6 0) 5 (((upd (upd f3 6 ((f3 6) + 1)) 6 0) 5) + 1)) 5 0) 4) + 1)), zAr T 0 a4_4 n4 f4, zAr T 0 a5_5 n4 f5, zAr T 0 a6_6 n4 f6]] _ _ := G.re rfl
        exact z_back hQz_ (z_vret C hr hlocks G (Nat.le_of_ble_eq_true rfl) (Nat.le_of_ble_eq_true rfl) dX0_nextRow_32 ⟨([zO0 h md wy la pc_ a1_1 a2_2 a3_3 a4_4 a5_5 a6_6, zAr T 0 a1_1 7 f1, zAr T 0 a2_2 7 f2, zAr T 0 a3_3 7 (upd (upd (upd (upd (upd f3 6 ((f3 6) + 1)) 6 0) 5 (((upd (upd f3 6 ((f3 6) + 1)) 6 0) 5) + 1)) 5 0) 4 (((upd (upd (upd (upd f3 6 ((f3 6) + 1)) 6 0) 5 (((upd (upd f3 6 ((f3 6) + 1)) 6 0) 5) + 1)) 5 0) 4) + 1)), zAr T 0 a4_4 n4 f4, zAr T 0 a5_5 n4 f5, zAr T 0 a6_6 n4 f6]), (upd (upd (upd (upd (upd f3 6 ((f3 6) + 1)) 6 0) 5 (((upd (upd f3 6 ((f3 6) + 1)) 6 0) 5) + 1)) 5 0) 4 (((upd (upd (upd (upd f3 6 ((f3 6) + 1)) 6 0) 5 (((upd (upd f3 6 ((f3 6) + 1)) 6 0) 5) + 1)) 5 0) 4) + 1)), rfl, hw_40⟩)
    · have c_14n : ¬ (f1 5).toInt ≤ (((upd (upd f3 6 ((f3 6) + 1)) 6 0) 5) + 1).toInt := fun q => c_14 ((fa_le _ _).mpr q)
      have hw_41 : bWays T h la md wy pc_ f1 f2 (upd (upd (upd f3 6 ((f3 6) + 1)) 6 0) 5 (((upd (upd f3 6 ((f3 6) + 1)) 6 0) 5) + 1)) f4 f5 f6 n4 [zO0 h md wy la pc_ a1_1 a2_2 a3_3 a4_4 a5_5 a6_6, zAr T 0 a1_1 7 f1, zAr T 0 a2_2 7 f2, zAr T 0 a3_3 7 (upd (upd (upd f3 6 ((f3 6) + 1)) 6 0) 5 (((upd (upd f3 6 ((f3 6) + 1)) 6 0) 5) + 1)), zAr T 0 a4_4 n4 f4, zAr T 0 a5_5 n4 f5, zAr T 0 a6_6 n4 f6] := ⟨a1_1, a2_2, a3_3, a4_4, a5_5, a6_6, rfl⟩
      have G : zS T A s.heap s [[zO0 h md wy la pc_ a1_1 a2_2 a3_3 a4_4 a5_5 a6_6, zAr T 0 a1_1 7 f1, zAr T 0 a2_2 7 f2, zAr T 0 a3_3 7 (upd (upd (upd f3 6 ((f3 6) + 1)) 6 0) 5 (((upd (upd f3 6 ((f3 6) + 1)) 6 0) 5) + 1)), zAr T 0 a4_4 n4 f4, zAr T 0 a5_5 n4 f5, zAr T 0 a6_6 n4 f6]] _ _ := G.re rfl
      exact z_back hQz_ (z_vret C hr hlocks G (Nat.le_of_ble_eq_true rfl) (Nat.le_of_ble_eq_true rfl) dX0_nextRow_32 ⟨([zO0 h md wy la pc_ a1_1 a2_2 a3_3 a4_4 a5_5 a6_6, zAr T 0 a1_1 7 f1, zAr T 0 a2_2 7 f2, zAr T 0 a3_3 7 (upd (upd (upd f3 6 ((f3 6) + 1)) 6 0) 5 (((upd (upd f3 6 ((f3 6) + 1)) 6 0) 5) + 1)), zAr T 0 a4_4 n4 f4, zAr T 0 a5_5 n4 f5, zAr T 0 a6_6 n4 f6]), (upd (upd (upd f3 6 ((f3 6) + 1)) 6 0) 5 (((upd (upd f3 6 ((f3 6) + 1)) 6 0) 5) + 1)), rfl, hw_41⟩)
  · have c_10n : ¬ (f1 6).toInt ≤ ((f3 6) + 1).toInt := fun q => c_10 ((fa_le _ _).mpr q)
    have hw_42 : bWays T h la md wy pc_ f1 f2 (upd f3 6 ((f3 6) + 1)) f4 f5 f6 n4 [zO0 h md wy la pc_ a1_1 a2_2 a3_3 a4_4 a5_5 a6_6, zAr T 0 a1_1 7 f1, zAr T 0 a2_2 7 f2, zAr T 0 a3_3 7 (upd f3 6 ((f3 6) + 1)), zAr T 0 a4_4 n4 f4, zAr T 0 a5_5 n4 f5, zAr T 0 a6_6 n4 f6] := ⟨a1_1, a2_2, a3_3, a4_4, a5_5, a6_6, rfl⟩
    have G : zS T A s.heap s [[zO0 h md wy la pc_ a1_1 a2_2 a3_3 a4_4 a5_5 a6_6, zAr T 0 a1_1 7 f1, zAr T 0 a2_2 7 f2, zAr T 0 a3_3 7 (upd f3 6 ((f3 6) + 1)), zAr T 0 a4_4 n4 f4, zAr T 0 a5_5 n4 f5, zAr T 0 a6_6 n4 f6]] _ _ := G.re rfl
    exact z_back hQz_ (z_vret C hr hlocks G (Nat.le_of_ble_eq_true rfl) (Nat.le_of_ble_eq_true rfl) dX0_nextRow_32 ⟨([zO0 h md wy la pc_ a1_1 a2_2 a3_3 a4_4 a5_5 a6_6, zAr T 0 a1_1 7 f1, zAr T 0 a2_2 7 f2, zAr T 0 a3_3 7 (upd f3 6 ((f3 6) + 1)), zAr T 0 a4_4 n4 f4, zAr T 0 a5_5 n4 f5, zAr T 0 a6_6 n4 f6]), (upd f3 6 ((f3 6) + 1)), rfl, hw_42⟩)
set_option maxHeartbeats 4000000 in
set_option maxRecDepth 100000 in
/-- treesOf -/
theorem c_treesOf (l : Launch) (T : zTy) (h : Nat) (la : Nat) (md : Int32) (wy : Int32) (pc_ : Int32) (f1 : Nat → Int32) (f2 : Nat → Int32) (f3 : Nat → Int32) (f4 : Nat → Int32) (f5 : Nat → Int32) (f6 : Nat → Int32) (n4 : Nat) (ww : va_W) (o : Nat) (cr : Int32) (inn : Int32) (k1 : Nat → Int32) (k2 : Nat → Int32) (k3 : Nat → Int32) (k4 : Nat → Int32) (z : va_W) (hww : bWays T h la md wy pc_ f1 f2 f3 f4 f5 f6 n4 ww) (hz : bLand T o cr inn k1 k2 k3 k4 z) (hI : zLI cr k1 k3) : zMi l T yX0_treesOf cX0_treesOf 4 (some .int) 5 0 0 [.ref h, .ref o] [ww, z] (fun (r : Int32) bs => ∃ (w2 : va_W) (g1 : Nat → Int32) (g2 : Nat → Int32) (g3 : Nat → Int32), bs = [w2, z] ∧ bWays T h o md (zWy cr inn k1) (zPl cr inn k1) g1 g2 g3 f4 f5 f6 n4 w2) := by
  refine zMi_of (own := RX0) (by decide) rfl (Nat.le_of_ble_eq_true rfl) ?_
  intro p e s m args below meth c A ls C hr hlocks hnm hAe G hl
  refine zHide (fun Qz_ hQz_ => ?_)
  have hx := C.1
  have hb := C.2.1
  have hl : lv_has ls 4 [(0, .ref h), (1, .ref o)] := hl
  refine lv_aload_n hx hb dX0_treesOf_0 rfl (lv_at hl 0 rfl) ?_
  refine lv_aload_n hx hb dX0_treesOf_1 rfl (lv_at hl 1 rfl) ?_
  refine z_Vv (bc := [ww, z]) (br := []) (As := [.ref o]) (rest := []) C G (c_countWays l T h la md wy pc_ f1 f2 f3 f4 f5 f6 n4 ww o cr inn k1 k2 k3 k4 z hww hz) (kV_RX0_41 C.2.2.2.2 (Nat.le_of_ble_eq_true rfl) (Nat.le_of_ble_eq_true rfl)) [0, 1] [0, 0] rfl rfl (ci := 0) (qc := (RX0, TX0, 10)) rfl rfl (List.mem_flatten.mpr ⟨_, List.mem_of_getElem? (i := 0) rfl, (bWays_mem hww).choose_spec⟩) rfl rfl hl.1 dX0_treesOf_2 (Nat.le_of_ble_eq_true rfl) (Nat.le_of_ble_eq_true rfl) (fun b1 H locs hw G => ?_)
  refine zEx3 hw ?_
  intro w2_1 g1_2 g2_3
  refine zCu2 ?_
  intro hbs9 h_4
  clear hw
  subst hbs9
  have G : zS T A s.heap s [w2_1, z] _ _ := G
  have hwl := Int32.toInt_lt (zWy cr inn k1)
  refine lv_iconst (v := 0) hx hb dX0_treesOf_5 (by decide) ?_
  refine lv_istore_n (lv' := [(2, .int 0), (0, .ref h), (1, .ref o)]) hx hb dX0_treesOf_6 rfl hl (by decide) (zLvf_h rfl) (fun ls hl => ?_)
  refine lv_iconst (v := 0) hx hb dX0_treesOf_7 (by decide) ?_
  refine lv_istore_n (lv' := [(3, .int 0), (2, .int 0), (0, .ref h), (1, .ref o)]) hx hb dX0_treesOf_8 rfl hl (by decide) (zLvf_h rfl) (fun ls hl => ?_)
  refine zEx6 h_4 ?_
  intro a1_6 a2_7 a3_8 a4_9 a5_10 a6_11 hbs9
  clear h_4
  subst hbs9
  have G : zS T A s.heap s [[zO0 h md (zWy cr inn k1) o (zPl cr inn k1) a1_6 a2_7 a3_8 a4_9 a5_10 a6_11], [zAr T 0 a1_6 7 g1_2], [zAr T 0 a2_7 7 g2_3], [zAr T 0 a3_8 7 f3], [zAr T 0 a4_9 n4 f4], [zAr T 0 a5_10 n4 f5], [zAr T 0 a6_11 n4 f6], z] _ _ := G.re rfl
  have hw_12 : bWays T h o md (zWy cr inn k1) (zPl cr inn k1) g1_2 g2_3 f3 f4 f5 f6 n4 [zO0 h md (zWy cr inn k1) o (zPl cr inn k1) a1_6 a2_7 a3_8 a4_9 a5_10 a6_11, zAr T 0 a1_6 7 g1_2, zAr T 0 a2_7 7 g2_3, zAr T 0 a3_8 7 f3, zAr T 0 a4_9 n4 f4, zAr T 0 a5_10 n4 f5, zAr T 0 a6_11 n4 f6] := ⟨a1_6, a2_7, a3_8, a4_9, a5_10, a6_11, rfl⟩
  have G : zS T A s.heap s [[zO0 h md (zWy cr inn k1) o (zPl cr inn k1) a1_6 a2_7 a3_8 a4_9 a5_10 a6_11, zAr T 0 a1_6 7 g1_2, zAr T 0 a2_7 7 g2_3, zAr T 0 a3_8 7 f3, zAr T 0 a4_9 n4 f4, zAr T 0 a5_10 n4 f5, zAr T 0 a6_11 n4 f6], z] _ _ := G.re rfl
  refine z_lp3 (T := T) 9 (fun (i : Nat) (wt : va_W) (x3 : Nat → Int32) => [wt, z]) (fun (i : Nat) (wt : va_W) (x3 : Nat → Int32) => [(3, .int (nI i)), (2, .int 0), (0, .ref h), (1, .ref o)]) (fun (i : Nat) (wt : va_W) (x3 : Nat → Int32) => bWays T h o md (zWy cr inn k1) (zPl cr inn k1) g1_2 g2_3 x3 f4 f5 f6 n4 wt ∧ i ≤ 7) (fun (i : Nat) (wt : va_W) (x3 : Nat → Int32) => 7 - i) ?_ 0 ([zO0 h md (zWy cr inn k1) o (zPl cr inn k1) a1_6 a2_7 a3_8 a4_9 a5_10 a6_11, zAr T 0 a1_6 7 g1_2, zAr T 0 a2_7 7 g2_3, zAr T 0 a3_8 7 f3, zAr T 0 a4_9 n4 f4, zAr T 0 a5_10 n4 f5, zAr T 0 a6_11 n4 f6]) f3 (show bWays T h o md (zWy cr inn k1) (zPl cr inn k1) g1_2 g2_3 f3 f4 f5 f6 n4 ([zO0 h md (zWy cr inn k1) o (zPl cr inn k1) a1_6 a2_7 a3_8 a4_9 a5_10 a6_11, zAr T 0 a1_6 7 g1_2, zAr T 0 a2_7 7 g2_3, zAr T 0 a3_8 7 f3, zAr T 0 a4_9 n4 f4, zAr T 0 a5_10 n4 f5, zAr T 0 a6_11 n4 f6]) ∧ 0 ≤ 7 from ⟨hw_12, by omega⟩) G (lv_sub hl [0, 1, 2, 3] rfl)
  intro i wt x3 hI9 ih_9 H locs ls G hl
  replace hI9 : bWays T h o md (zWy cr inn k1) (zPl cr inn k1) g1_2 g2_3 x3 f4 f5 f6 n4 wt ∧ i ≤ 7 := hI9
  refine zAn2 hI9 ?_
  intro hwt hi
  clear hI9
  replace G : zS T A s.heap s [wt, z] _ _ := G
  replace hl : lv_has ls 4 [(3, .int (nI i)), (2, .int 0), (0, .ref h), (1, .ref o)] := hl
  refine lv_iload_n hx hb dX0_treesOf_9 rfl (lv_at hl 0 rfl) ?_
  refine lv_bipush (v := 7) hx hb dX0_treesOf_10 (by decide) ?_
  refine lv_icmp_ge (tgt := 28) hx hb dX0_treesOf_12 (by decide) (fun c_13 => ?_) (fun c_13 => ?_)
  · have c_13n : 7 ≤ i := (nI_leI (a := 7) (b := i) (by omega) (by omega)).mp c_13
    refine lv_iconst (v := 0) hx hb dX0_treesOf_28 (by decide) ?_
    refine lv_istore_n (lv' := [(3, .int 0), (2, .int 0), (0, .ref h), (1, .ref o)]) hx hb dX0_treesOf_29 rfl hl (by decide) (zLvf_h rfl) (fun ls hl => ?_)
    refine zEx6 hwt ?_
    intro a1_14 a2_15 a3_16 a4_17 a5_18 a6_19 hbs9
    clear hwt
    subst hbs9
    have G : zS T A s.heap s [[zO0 h md (zWy cr inn k1) o (zPl cr inn k1) a1_14 a2_15 a3_16 a4_17 a5_18 a6_19], [zAr T 0 a1_14 7 g1_2], [zAr T 0 a2_15 7 g2_3], [zAr T 0 a3_16 7 x3], [zAr T 0 a4_17 n4 f4], [zAr T 0 a5_18 n4 f5], [zAr T 0 a6_19 n4 f6], z] _ _ := G.re rfl
    have hw_20 : bWays T h o md (zWy cr inn k1) (zPl cr inn k1) g1_2 g2_3 x3 f4 f5 f6 n4 [zO0 h md (zWy cr inn k1) o (zPl cr inn k1) a1_14 a2_15 a3_16 a4_17 a5_18 a6_19, zAr T 0 a1_14 7 g1_2, zAr T 0 a2_15 7 g2_3, zAr T 0 a3_16 7 x3, zAr T 0 a4_17 n4 f4, zAr T 0 a5_18 n4 f5, zAr T 0 a6_19 n4 f6] := ⟨a1_14, a2_15, a3_16, a4_17, a5_18, a6_19, rfl⟩
    have G : zS T A s.heap s [[zO0 h md (zWy cr inn k1) o (zPl cr inn k1) a1_14 a2_15 a3_16 a4_17 a5_18 a6_19, zAr T 0 a1_14 7 g1_2, zAr T 0 a2_15 7 g2_3, zAr T 0 a3_16 7 x3, zAr T 0 a4_17 n4 f4, zAr T 0 a5_18 n4 f5, zAr T 0 a6_19 n4 f6], z] _ _ := G.re rfl
    refine z_lp4 (T := T) 30 (fun (j : Nat) (u : Int32) (wu : va_W) (y3 : Nat → Int32) => [wu, z]) (fun (j : Nat) (u : Int32) (wu : va_W) (y3 : Nat → Int32) => [(3, .int (nI j)), (2, .int u), (0, .ref h), (1, .ref o)]) (fun (j : Nat) (u : Int32) (wu : va_W) (y3 : Nat → Int32) => bWays T h o md (zWy cr inn k1) (zPl cr inn k1) g1_2 g2_3 y3 f4 f5 f6 n4 wu ∧ j ≤ (zWy cr inn k1).toInt.toNat) (fun (j : Nat) (u : Int32) (wu : va_W) (y3 : Nat → Int32) => (zWy cr inn k1).toInt.toNat - j) ?_ 0 0 ([zO0 h md (zWy cr inn k1) o (zPl cr inn k1) a1_14 a2_15 a3_16 a4_17 a5_18 a6_19, zAr T 0 a1_14 7 g1_2, zAr T 0 a2_15 7 g2_3, zAr T 0 a3_16 7 x3, zAr T 0 a4_17 n4 f4, zAr T 0 a5_18 n4 f5, zAr T 0 a6_19 n4 f6]) x3 (show bWays T h o md (zWy cr inn k1) (zPl cr inn k1) g1_2 g2_3 x3 f4 f5 f6 n4 ([zO0 h md (zWy cr inn k1) o (zPl cr inn k1) a1_14 a2_15 a3_16 a4_17 a5_18 a6_19, zAr T 0 a1_14 7 g1_2, zAr T 0 a2_15 7 g2_3, zAr T 0 a3_16 7 x3, zAr T 0 a4_17 n4 f4, zAr T 0 a5_18 n4 f5, zAr T 0 a6_19 n4 f6]) ∧ 0 ≤ (zWy cr inn k1).toInt.toNat from ⟨hw_20, by omega⟩) G (lv_sub hl [0, 1, 2, 3] rfl)
    intro j u wu y3 hI9 ih_30 H locs ls G hl
    replace hI9 : bWays T h o md (zWy cr inn k1) (zPl cr inn k1) g1_2 g2_3 y3 f4 f5 f6 n4 wu ∧ j ≤ (zWy cr inn k1).toInt.toNat := hI9
    refine zAn2 hI9 ?_
    intro hwu hj
    clear hI9
    replace G : zS T A s.heap s [wu, z] _ _ := G
    replace hl : lv_has ls 4 [(3, .int (nI j)), (2, .int u), (0, .ref h), (1, .ref o)] := hl
    refine lv_iload_n hx hb dX0_treesOf_30 rfl (lv_at hl 0 rfl) ?_
    refine lv_aload_n hx hb dX0_treesOf_31 rfl (lv_at hl 2 rfl) ?_
    refine zEx6 hwu ?_
    intro a1_21 a2_22 a3_23 a4_24 a5_25 a6_26 hbs9
    clear hwu
    subst hbs9
    have G : zS T A s.heap s [[zO0 h md (zWy cr inn k1) o (zPl cr inn k1) a1_21 a2_22 a3_23 a4_24 a5_25 a6_26], [zAr T 0 a1_21 7 g1_2], [zAr T 0 a2_22 7 g2_3], [zAr T 0 a3_23 7 y3], [zAr T 0 a4_24 n4 f4], [zAr T 0 a5_25 n4 f5], [zAr T 0 a6_26 n4 f6], z] _ _ := G.re rfl
    refine z_get C G clX0 0 rfl 1 (by decide) m_fl_RX0_57 rfl dX0_treesOf_32 ?_
    refine lv_icmp_ge (tgt := 58) hx hb dX0_treesOf_35 (by decide) (fun c_27 => ?_) (fun c_27 => ?_)
    · have c_27n : (zWy cr inn k1).toInt ≤ (j : Int) := by have q := (fa_le _ _).mp c_27; rw [nI_toInt (n := j) (by omega)] at q; exact q
      refine lv_iload_n hx hb dX0_treesOf_58 rfl (lv_at hl 1 rfl) ?_
      have hw_28 : bWays T h o md (zWy cr inn k1) (zPl cr inn k1) g1_2 g2_3 y3 f4 f5 f6 n4 [zO0 h md (zWy cr inn k1) o (zPl cr inn k1) a1_21 a2_22 a3_23 a4_24 a5_25 a6_26, zAr T 0 a1_21 7 g1_2, zAr T 0 a2_22 7 g2_3, zAr T 0 a3_23 7 y3, zAr T 0 a4_24 n4 f4, zAr T 0 a5_25 n4 f5, zAr T 0 a6_26 n4 f6] := ⟨a1_21, a2_22, a3_23, a4_24, a5_25, a6_26, rfl⟩
      have G : zS T A s.heap s [[zO0 h md (zWy cr inn k1) o (zPl cr inn k1) a1_21 a2_22 a3_23 a4_24 a5_25 a6_26, zAr T 0 a1_21 7 g1_2, zAr T 0 a2_22 7 g2_3, zAr T 0 a3_23 7 y3, zAr T 0 a4_24 n4 f4, zAr T 0 a5_25 n4 f5, zAr T 0 a6_26 n4 f6], z] _ _ := G.re rfl
      exact z_back hQz_ (z_iret C hr hlocks G (Nat.le_of_ble_eq_true rfl) (Nat.le_of_ble_eq_true rfl) dX0_treesOf_59 ⟨([zO0 h md (zWy cr inn k1) o (zPl cr inn k1) a1_21 a2_22 a3_23 a4_24 a5_25 a6_26, zAr T 0 a1_21 7 g1_2, zAr T 0 a2_22 7 g2_3, zAr T 0 a3_23 7 y3, zAr T 0 a4_24 n4 f4, zAr T 0 a5_25 n4 f5, zAr T 0 a6_26 n4 f6]), g1_2, g2_3, y3, rfl, hw_28⟩)
    · have c_27n : ¬ (zWy cr inn k1).toInt ≤ (j : Int) := fun q => c_27 ((fa_le _ _).mpr (by rw [nI_toInt (n := j) (by omega)]; exact q))
      refine lv_aload_n hx hb dX0_treesOf_38 rfl (lv_at hl 2 rfl) ?_
      have hw_29 : bWays T h o md (zWy cr inn k1) (zPl cr inn k1) g1_2 g2_3 y3 f4 f5 f6 n4 [zO0 h md (zWy cr inn k1) o (zPl cr inn k1) a1_21 a2_22 a3_23 a4_24 a5_25 a6_26, zAr T 0 a1_21 7 g1_2, zAr T 0 a2_22 7 g2_3, zAr T 0 a3_23 7 y3, zAr T 0 a4_24 n4 f4, zAr T 0 a5_25 n4 f5, zAr T 0 a6_26 n4 f6] := ⟨a1_21, a2_22, a3_23, a4_24, a5_25, a6_26, rfl⟩
      have G : zS T A s.heap s [[zO0 h md (zWy cr inn k1) o (zPl cr inn k1) a1_21 a2_22 a3_23 a4_24 a5_25 a6_26, zAr T 0 a1_21 7 g1_2, zAr T 0 a2_22 7 g2_3, zAr T 0 a3_23 7 y3, zAr T 0 a4_24 n4 f4, zAr T 0 a5_25 n4 f5, zAr T 0 a6_26 n4 f6], z] _ _ := G.re rfl
      refine z_Vi (bc := [[zO0 h md (zWy cr inn k1) o (zPl cr inn k1) a1_21 a2_22 a3_23 a4_24 a5_25 a6_26, zAr T 0 a1_21 7 g1_2, zAr T 0 a2_22 7 g2_3, zAr T 0 a3_23 7 y3, zAr T 0 a4_24 n4 f4, zAr T 0 a5_25 n4 f5, zAr T 0 a6_26 n4 f6], z]) (br := []) (As := []) (rest := []) C G (c_allComeByRow l T h o md (zWy cr inn k1) (zPl cr inn k1) g1_2 g2_3 y3 f4 f5 f6 n4 ([zO0 h md (zWy cr inn k1) o (zPl cr inn k1) a1_21 a2_22 a3_23 a4_24 a5_25 a6_26, zAr T 0 a1_21 7 g1_2, zAr T 0 a2_22 7 g2_3, zAr T 0 a3_23 7 y3, zAr T 0 a4_24 n4 f4, zAr T 0 a5_25 n4 f5, zAr T 0 a6_26 n4 f6]) cr inn k1 k2 k3 k4 z hw_29 hz (by first | with_reducible assumption | with_reducible rfl | omega | assumption | rfl)) (kV_RX0_122 C.2.2.2.2 (Nat.le_of_ble_eq_true rfl) (Nat.le_of_ble_eq_true rfl)) [0, 1] [0, 0] rfl rfl (ci := 0) (qc := (RX0, TX0, 10)) rfl rfl (List.mem_flatten.mpr ⟨_, List.mem_of_getElem? (i := 0) rfl, (bWays_mem hw_29).choose_spec⟩) rfl rfl hl.1 dX0_treesOf_39 (Nat.le_of_ble_eq_true rfl) (Nat.le_of_ble_eq_true rfl) (fun r_31 b1 H locs hw G => ?_)
      refine zAn2 hw ?_
      intro hbs9 h_30
      clear hw
      subst hbs9
      have G : zS T A s.heap s [[zO0 h md (zWy cr inn k1) o (zPl cr inn k1) a1_21 a2_22 a3_23 a4_24 a5_25 a6_26, zAr T 0 a1_21 7 g1_2, zAr T 0 a2_22 7 g2_3, zAr T 0 a3_23 7 y3, zAr T 0 a4_24 n4 f4, zAr T 0 a5_25 n4 f5, zAr T 0 a6_26 n4 f6], z] _ _ := G
      replace h_30 : zHd ((r_31 = 0 ∨ r_31 = 1)) := h_30
      refine lv_if_eq (tgt := 48) hx hb dX0_treesOf_42 (by decide) (fun c_32 => ?_) (fun c_32 => ?_)
      · have c_32n : r_31.toInt = (0 : Int) := (fa_eq _ _).mp c_32
        refine lv_aload_n hx hb dX0_treesOf_48 rfl (lv_at hl 2 rfl) ?_
        refine z_Vv (bc := [[zO0 h md (zWy cr inn k1) o (zPl cr inn k1) a1_21 a2_22 a3_23 a4_24 a5_25 a6_26, zAr T 0 a1_21 7 g1_2, zAr T 0 a2_22 7 g2_3, zAr T 0 a3_23 7 y3, zAr T 0 a4_24 n4 f4, zAr T 0 a5_25 n4 f5, zAr T 0 a6_26 n4 f6]]) (br := [z]) (As := []) (rest := []) C G (c_nextRow l T h o md (zWy cr inn k1) (zPl cr inn k1) g1_2 g2_3 y3 f4 f5 f6 n4 ([zO0 h md (zWy cr inn k1) o (zPl cr inn k1) a1_21 a2_22 a3_23 a4_24 a5_25 a6_26, zAr T 0 a1_21 7 g1_2, zAr T 0 a2_22 7 g2_3, zAr T 0 a3_23 7 y3, zAr T 0 a4_24 n4 f4, zAr T 0 a5_25 n4 f5, zAr T 0 a6_26 n4 f6]) hw_29) (kV_RX0_126 C.2.2.2.2 (Nat.le_of_ble_eq_true rfl) (Nat.le_of_ble_eq_true rfl)) [0] [0] rfl rfl (ci := 0) (qc := (RX0, TX0, 10)) rfl rfl (List.mem_flatten.mpr ⟨_, List.mem_of_getElem? (i := 0) rfl, (bWays_mem hw_29).choose_spec⟩) rfl rfl hl.1 dX0_treesOf_49 (Nat.le_of_ble_eq_true rfl) (Nat.le_of_ble_eq_true rfl) (fun b1 H locs hw G => ?_)
        refine zEx2 hw ?_
        intro w2_33 g3_34
        refine zCu2 ?_
        intro hbs9 h_35
        clear hw
        subst hbs9
        have G : zS T A s.heap s [z, w2_33] _ _ := G
        refine lv_iinc (v := nI (j + 1)) (lv' := [(3, .int (nI (j + 1))), (2, .int u), (0, .ref h), (1, .ref o)]) hx hb dX0_treesOf_52 hl (k := 0) rfl (z_inc j 1) (by decide) (zLvf_h rfl) (fun ls hl => ?_)
        refine lv_goto (tgt := 30) hx hb dX0_treesOf_55 (by decide) ?_
        have G := G.sub (bs' := [w2_33, z]) [1, 0] rfl
        exact ih_30 (j + 1) u w2_33 g3_34 (show bWays T h o md (zWy cr inn k1) (zPl cr inn k1) g1_2 g2_3 g3_34 f4 f5 f6 n4 w2_33 ∧ (j + 1) ≤ (zWy cr inn k1).toInt.toNat from ⟨h_35, by omega⟩) (show (zWy cr inn k1).toInt.toNat - (j + 1) < (zWy cr inn k1).toInt.toNat - j from by omega) _ _ ls G (lv_sub hl [0, 1, 2, 3] rfl)
      · have c_32n : ¬ r_31.toInt = (0 : Int) := fun q => c_32 ((fa_eq _ _).mpr q)
        refine lv_iinc (v := u + 1) (lv' := [(2, .int (u + 1)), (3, .int (nI j)), (0, .ref h), (1, .ref o)]) hx hb dX0_treesOf_45 hl (k := 1) rfl rfl (by decide) (zLvf_h rfl) (fun ls hl => ?_)
        refine lv_aload_n hx hb dX0_treesOf_48 rfl (lv_at hl 2 rfl) ?_
        refine z_Vv (bc := [[zO0 h md (zWy cr inn k1) o (zPl cr inn k1) a1_21 a2_22 a3_23 a4_24 a5_25 a6_26, zAr T 0 a1_21 7 g1_2, zAr T 0 a2_22 7 g2_3, zAr T 0 a3_23 7 y3, zAr T 0 a4_24 n4 f4, zAr T 0 a5_25 n4 f5, zAr T 0 a6_26 n4 f6]]) (br := [z]) (As := []) (rest := []) C G (c_nextRow l T h o md (zWy cr inn k1) (zPl cr inn k1) g1_2 g2_3 y3 f4 f5 f6 n4 ([zO0 h md (zWy cr inn k1) o (zPl cr inn k1) a1_21 a2_22 a3_23 a4_24 a5_25 a6_26, zAr T 0 a1_21 7 g1_2, zAr T 0 a2_22 7 g2_3, zAr T 0 a3_23 7 y3, zAr T 0 a4_24 n4 f4, zAr T 0 a5_25 n4 f5, zAr T 0 a6_26 n4 f6]) hw_29) (kV_RX0_126 C.2.2.2.2 (Nat.le_of_ble_eq_true rfl) (Nat.le_of_ble_eq_true rfl)) [0] [0] rfl rfl (ci := 0) (qc := (RX0, TX0, 10)) rfl rfl (List.mem_flatten.mpr ⟨_, List.mem_of_getElem? (i := 0) rfl, (bWays_mem hw_29).choose_spec⟩) rfl rfl hl.1 dX0_treesOf_49 (Nat.le_of_ble_eq_true rfl) (Nat.le_of_ble_eq_true rfl) (fun b1 H locs hw G => ?_)
        refine zEx2 hw ?_
        intro w2_37 g3_38
        refine zCu2 ?_
        intro hbs9 h_39
        clear hw
        subst hbs9
        have G : zS T A s.heap s [z, w2_37] _ _ := G
        refine lv_iinc (v := nI (j + 1)) (lv' := [(3, .int (nI (j + 1))), (2, .int (u + 1)), (0, .ref h), (1, .ref o)]) hx hb dX0_treesOf_52 hl (k := 1) rfl (z_inc j 1) (by decide) (zLvf_h rfl) (fun ls hl => ?_)
        refine lv_goto (tgt := 30) hx hb dX0_treesOf_55 (by decide) ?_
        have G := G.sub (bs' := [w2_37, z]) [1, 0] rfl
        exact ih_30 (j + 1) (u + 1) w2_37 g3_38 (show bWays T h o md (zWy cr inn k1) (zPl cr inn k1) g1_2 g2_3 g3_38 f4 f5 f6 n4 w2_37 ∧ (j + 1) ≤ (zWy cr inn k1).toInt.toNat from ⟨h_39, by omega⟩) (show (zWy cr inn k1).toInt.toNat - (j + 1) < (zWy cr inn k1).toInt.toNat - j from by omega) _ _ ls G (lv_sub hl [0, 1, 2, 3] rfl)
  · have c_13n : ¬ 7 ≤ i := fun q => c_13 ((nI_leI (a := 7) (b := i) (by omega) (by omega)).mpr q)
    refine lv_aload_n hx hb dX0_treesOf_15 rfl (lv_at hl 2 rfl) ?_
    refine zEx6 hwt ?_
    intro a1_41 a2_42 a3_43 a4_44 a5_45 a6_46 hbs9
    clear hwt
    subst hbs9
    have G : zS T A s.heap s [[zO0 h md (zWy cr inn k1) o (zPl cr inn k1) a1_41 a2_42 a3_43 a4_44 a5_45 a6_46], [zAr T 0 a1_41 7 g1_2], [zAr T 0 a2_42 7 g2_3], [zAr T 0 a3_43 7 x3], [zAr T 0 a4_44 n4 f4], [zAr T 0 a5_45 n4 f5], [zAr T 0 a6_46 n4 f6], z] _ _ := G.re rfl
    refine z_get C G clX0 0 rfl 6 (by decide) m_fl_RX0_25 rfl dX0_treesOf_16 ?_
    refine lv_iload_n hx hb dX0_treesOf_19 rfl (lv_at hl 0 rfl) ?_
    refine lv_iconst (v := 0) hx hb dX0_treesOf_20 (by decide) ?_
    refine z_ist C G 3 rfl (vp_in_nI (by omega) (by decide)) dX0_treesOf_21 (fun H locs G => ?_)
    rw [nI_clamp (by omega)] at G
    have G : zS T A s.heap s [[zO0 h md (zWy cr inn k1) o (zPl cr inn k1) a1_41 a2_42 a3_43 a4_44 a5_45 a6_46], [zAr T 0 a1_41 7 g1_2], [zAr T 0 a2_42 7 g2_3], [zAr T 0 a3_43 7 (upd x3 i 0)], [zAr T 0 a4_44 n4 f4], [zAr T 0 a5_45 n4 f5], [zAr T 0 a6_46 n4 f6], z] _ _ := G
    refine lv_iinc (v := nI (i + 1)) (lv' := [(3, .int (nI (i + 1))), (2, .int 0), (0, .ref h), (1, .ref o)]) hx hb dX0_treesOf_22 hl (k := 0) rfl (z_inc i 1) (by decide) (zLvf_h rfl) (fun ls hl => ?_)
    refine lv_goto (tgt := 9) hx hb dX0_treesOf_25 (by decide) ?_
    have hw_47 : bWays T h o md (zWy cr inn k1) (zPl cr inn k1) g1_2 g2_3 (upd x3 i 0) f4 f5 f6 n4 [zO0 h md (zWy cr inn k1) o (zPl cr inn k1) a1_41 a2_42 a3_43 a4_44 a5_45 a6_46, zAr T 0 a1_41 7 g1_2, zAr T 0 a2_42 7 g2_3, zAr T 0 a3_43 7 (upd x3 i 0), zAr T 0 a4_44 n4 f4, zAr T 0 a5_45 n4 f5, zAr T 0 a6_46 n4 f6] := ⟨a1_41, a2_42, a3_43, a4_44, a5_45, a6_46, rfl⟩
    have G : zS T A s.heap s [[zO0 h md (zWy cr inn k1) o (zPl cr inn k1) a1_41 a2_42 a3_43 a4_44 a5_45 a6_46, zAr T 0 a1_41 7 g1_2, zAr T 0 a2_42 7 g2_3, zAr T 0 a3_43 7 (upd x3 i 0), zAr T 0 a4_44 n4 f4, zAr T 0 a5_45 n4 f5, zAr T 0 a6_46 n4 f6], z] _ _ := G.re rfl
    exact ih_9 (i + 1) ([zO0 h md (zWy cr inn k1) o (zPl cr inn k1) a1_41 a2_42 a3_43 a4_44 a5_45 a6_46, zAr T 0 a1_41 7 g1_2, zAr T 0 a2_42 7 g2_3, zAr T 0 a3_43 7 (upd x3 i 0), zAr T 0 a4_44 n4 f4, zAr T 0 a5_45 n4 f5, zAr T 0 a6_46 n4 f6]) (upd x3 i 0) (show bWays T h o md (zWy cr inn k1) (zPl cr inn k1) g1_2 g2_3 (upd x3 i 0) f4 f5 f6 n4 ([zO0 h md (zWy cr inn k1) o (zPl cr inn k1) a1_41 a2_42 a3_43 a4_44 a5_45 a6_46, zAr T 0 a1_41 7 g1_2, zAr T 0 a2_42 7 g2_3, zAr T 0 a3_43 7 (upd x3 i 0), zAr T 0 a4_44 n4 f4, zAr T 0 a5_45 n4 f5, zAr T 0 a6_46 n4 f6]) ∧ (i + 1) ≤ 7 from ⟨hw_47, by omega⟩) (show 7 - (i + 1) < 7 - i from by omega) _ _ ls G (lv_sub hl [0, 1, 2, 3] rfl)
set_option maxHeartbeats 4000000 in
set_option maxRecDepth 100000 in
/-- stepOnce -/
theorem c_stepOnce (l : Launch) (T : zTy) (h : Nat) (la : Nat) (md : Int32) (wy : Int32) (pc_ : Int32) (f1 : Nat → Int32) (f2 : Nat → Int32) (f3 : Nat → Int32) (f4 : Nat → Int32) (f5 : Nat → Int32) (f6 : Nat → Int32) (n4 : Nat) (ww : va_W) (cr : Int32) (inn : Int32) (k1 : Nat → Int32) (k2 : Nat → Int32) (k3 : Nat → Int32) (k4 : Nat → Int32) (z : va_W) (hww : bWays T h la md wy pc_ f1 f2 f3 f4 f5 f6 n4 ww) (hz : bLand T la cr inn k1 k2 k3 k4 z) (hI : zLI cr k1 k3) (hn : n4 ≤ 131072) (hpl : pc_.toInt ≤ 131072) : zMv l T yX0_stepOnce cX0_stepOnce 5 4 0 0 [.ref h] [ww, z] (fun bs => ∃ (w2 : va_W) (g4 : Nat → Int32) (g5 : Nat → Int32), bs = [w2, z] ∧ bWays T h la md wy pc_ f1 f2 f3 g4 g5 f6 n4 w2) := by
  refine zMv_of (own := RX0) (by decide) rfl (Nat.le_of_ble_eq_true rfl) ?_
  intro p e s m args below meth c A ls C hr hlocks hnm hAe G hl
  refine zHide (fun Qz_ hQz_ => ?_)
  have hx := C.1
  have hb := C.2.1
  have hl : lv_has ls 5 [(0, .ref h)] := hl
  refine lv_iconst (v := 0) hx hb dX0_stepOnce_0 (by decide) ?_
  refine lv_istore_n (lv' := [(1, .int 0), (0, .ref h)]) hx hb dX0_stepOnce_1 rfl hl (by decide) (zLvf_h rfl) (fun ls hl => ?_)
  refine zEx6 hww ?_
  intro a1_1 a2_2 a3_3 a4_4 a5_5 a6_6 hbs9
  clear hww
  subst hbs9
  have G : zS T A s.heap s [[zO0 h md wy la pc_ a1_1 a2_2 a3_3 a4_4 a5_5 a6_6], [zAr T 0 a1_1 7 f1], [zAr T 0 a2_2 7 f2], [zAr T 0 a3_3 7 f3], [zAr T 0 a4_4 n4 f4], [zAr T 0 a5_5 n4 f5], [zAr T 0 a6_6 n4 f6], z] _ _ := G.re rfl
  refine zEx4 hz ?_
  intro a1_7 a2_8 a3_9 a4_10 hbs9
  clear hz
  subst hbs9
  have G : zS T A s.heap s [[zO0 h md wy la pc_ a1_1 a2_2 a3_3 a4_4 a5_5 a6_6], [zAr T 0 a1_1 7 f1], [zAr T 0 a2_2 7 f2], [zAr T 0 a3_3 7 f3], [zAr T 0 a4_4 n4 f4], [zAr T 0 a5_5 n4 f5], [zAr T 0 a6_6 n4 f6], [zO4 la cr inn a1_7 a2_8 a3_9 a4_10], [zAr T 0 a1_7 7 k1], [zAr T 0 a2_8 28 k2], [zAr T 0 a3_9 7 k3], [zAr T 0 a4_10 7 k4]] _ _ := G.re rfl
  have hw_11 : bWays T h la md wy pc_ f1 f2 f3 f4 f5 f6 n4 [zO0 h md wy la pc_ a1_1 a2_2 a3_3 a4_4 a5_5 a6_6, zAr T 0 a1_1 7 f1, zAr T 0 a2_2 7 f2, zAr T 0 a3_3 7 f3, zAr T 0 a4_4 n4 f4, zAr T 0 a5_5 n4 f5, zAr T 0 a6_6 n4 f6] := ⟨a1_1, a2_2, a3_3, a4_4, a5_5, a6_6, rfl⟩
  have G : zS T A s.heap s [[zO0 h md wy la pc_ a1_1 a2_2 a3_3 a4_4 a5_5 a6_6, zAr T 0 a1_1 7 f1, zAr T 0 a2_2 7 f2, zAr T 0 a3_3 7 f3, zAr T 0 a4_4 n4 f4, zAr T 0 a5_5 n4 f5, zAr T 0 a6_6 n4 f6], [zO4 la cr inn a1_7 a2_8 a3_9 a4_10], [zAr T 0 a1_7 7 k1], [zAr T 0 a2_8 28 k2], [zAr T 0 a3_9 7 k3], [zAr T 0 a4_10 7 k4]] _ _ := G.re rfl
  have hw_12 : bLand T la cr inn k1 k2 k3 k4 [zO4 la cr inn a1_7 a2_8 a3_9 a4_10, zAr T 0 a1_7 7 k1, zAr T 0 a2_8 28 k2, zAr T 0 a3_9 7 k3, zAr T 0 a4_10 7 k4] := ⟨a1_7, a2_8, a3_9, a4_10, rfl⟩
  have G : zS T A s.heap s [[zO0 h md wy la pc_ a1_1 a2_2 a3_3 a4_4 a5_5 a6_6, zAr T 0 a1_1 7 f1, zAr T 0 a2_2 7 f2, zAr T 0 a3_3 7 f3, zAr T 0 a4_4 n4 f4, zAr T 0 a5_5 n4 f5, zAr T 0 a6_6 n4 f6], [zO4 la cr inn a1_7 a2_8 a3_9 a4_10, zAr T 0 a1_7 7 k1, zAr T 0 a2_8 28 k2, zAr T 0 a3_9 7 k3, zAr T 0 a4_10 7 k4]] _ _ := G.re rfl
  refine z_lp4 (T := T) 2 (fun (i : Nat) (wt : va_W) (x4 : Nat → Int32) (x5 : Nat → Int32) => [wt, [zO4 la cr inn a1_7 a2_8 a3_9 a4_10, zAr T 0 a1_7 7 k1, zAr T 0 a2_8 28 k2, zAr T 0 a3_9 7 k3, zAr T 0 a4_10 7 k4]]) (fun (i : Nat) (wt : va_W) (x4 : Nat → Int32) (x5 : Nat → Int32) => [(1, .int (nI i)), (0, .ref h)]) (fun (i : Nat) (wt : va_W) (x4 : Nat → Int32) (x5 : Nat → Int32) => bWays T h la md wy pc_ f1 f2 f3 x4 x5 f6 n4 wt ∧ i ≤ pc_.toInt.toNat) (fun (i : Nat) (wt : va_W) (x4 : Nat → Int32) (x5 : Nat → Int32) => pc_.toInt.toNat - i) ?_ 0 ([zO0 h md wy la pc_ a1_1 a2_2 a3_3 a4_4 a5_5 a6_6, zAr T 0 a1_1 7 f1, zAr T 0 a2_2 7 f2, zAr T 0 a3_3 7 f3, zAr T 0 a4_4 n4 f4, zAr T 0 a5_5 n4 f5, zAr T 0 a6_6 n4 f6]) f4 f5 (show bWays T h la md wy pc_ f1 f2 f3 f4 f5 f6 n4 ([zO0 h md wy la pc_ a1_1 a2_2 a3_3 a4_4 a5_5 a6_6, zAr T 0 a1_1 7 f1, zAr T 0 a2_2 7 f2, zAr T 0 a3_3 7 f3, zAr T 0 a4_4 n4 f4, zAr T 0 a5_5 n4 f5, zAr T 0 a6_6 n4 f6]) ∧ 0 ≤ pc_.toInt.toNat from ⟨hw_11, by omega⟩) G (lv_sub hl [0, 1] rfl)
  intro i wt x4 x5 hI9 ih_2 H locs ls G hl
  replace hI9 : bWays T h la md wy pc_ f1 f2 f3 x4 x5 f6 n4 wt ∧ i ≤ pc_.toInt.toNat := hI9
  refine zAn2 hI9 ?_
  intro hwt hi
  clear hI9
  replace G : zS T A s.heap s [wt, [zO4 la cr inn a1_7 a2_8 a3_9 a4_10, zAr T 0 a1_7 7 k1, zAr T 0 a2_8 28 k2, zAr T 0 a3_9 7 k3, zAr T 0 a4_10 7 k4]] _ _ := G
  replace hl : lv_has ls 5 [(1, .int (nI i)), (0, .ref h)] := hl
  refine lv_iload_n hx hb dX0_stepOnce_2 rfl (lv_at hl 0 rfl) ?_
  refine lv_aload_n hx hb dX0_stepOnce_3 rfl (lv_at hl 1 rfl) ?_
  refine zEx6 hwt ?_
  intro a1_13 a2_14 a3_15 a4_16 a5_17 a6_18 hbs9
  clear hwt
  subst hbs9
  have G : zS T A s.heap s [[zO0 h md wy la pc_ a1_13 a2_14 a3_15 a4_16 a5_17 a6_18], [zAr T 0 a1_13 7 f1], [zAr T 0 a2_14 7 f2], [zAr T 0 a3_15 7 f3], [zAr T 0 a4_16 n4 x4], [zAr T 0 a5_17 n4 x5], [zAr T 0 a6_18 n4 f6], [zO4 la cr inn a1_7 a2_8 a3_9 a4_10, zAr T 0 a1_7 7 k1, zAr T 0 a2_8 28 k2, zAr T 0 a3_9 7 k3, zAr T 0 a4_10 7 k4]] _ _ := G.re rfl
  refine z_get C G clX0 0 rfl 3 (by decide) m_fl_RX0_75 rfl dX0_stepOnce_4 ?_
  refine lv_icmp_ge (tgt := 108) hx hb dX0_stepOnce_7 (by decide) (fun c_19 => ?_) (fun c_19 => ?_)
  · have c_19n : pc_.toInt ≤ (i : Int) := by have q := (fa_le _ _).mp c_19; rw [nI_toInt (n := i) (by omega)] at q; exact q
    have hw_20 : bWays T h la md wy pc_ f1 f2 f3 x4 x5 f6 n4 [zO0 h md wy la pc_ a1_13 a2_14 a3_15 a4_16 a5_17 a6_18, zAr T 0 a1_13 7 f1, zAr T 0 a2_14 7 f2, zAr T 0 a3_15 7 f3, zAr T 0 a4_16 n4 x4, zAr T 0 a5_17 n4 x5, zAr T 0 a6_18 n4 f6] := ⟨a1_13, a2_14, a3_15, a4_16, a5_17, a6_18, rfl⟩
    have G : zS T A s.heap s [[zO0 h md wy la pc_ a1_13 a2_14 a3_15 a4_16 a5_17 a6_18, zAr T 0 a1_13 7 f1, zAr T 0 a2_14 7 f2, zAr T 0 a3_15 7 f3, zAr T 0 a4_16 n4 x4, zAr T 0 a5_17 n4 x5, zAr T 0 a6_18 n4 f6], [zO4 la cr inn a1_7 a2_8 a3_9 a4_10, zAr T 0 a1_7 7 k1, zAr T 0 a2_8 28 k2, zAr T 0 a3_9 7 k3, zAr T 0 a4_10 7 k4]] _ _ := G.re rfl
    exact z_back hQz_ (z_vret C hr hlocks G (Nat.le_of_ble_eq_true rfl) (Nat.le_of_ble_eq_true rfl) dX0_stepOnce_108 ⟨([zO0 h md wy la pc_ a1_13 a2_14 a3_15 a4_16 a5_17 a6_18, zAr T 0 a1_13 7 f1, zAr T 0 a2_14 7 f2, zAr T 0 a3_15 7 f3, zAr T 0 a4_16 n4 x4, zAr T 0 a5_17 n4 x5, zAr T 0 a6_18 n4 f6]), x4, x5, rfl, hw_20⟩)
  · have c_19n : ¬ pc_.toInt ≤ (i : Int) := fun q => c_19 ((fa_le _ _).mpr (by rw [nI_toInt (n := i) (by omega)]; exact q))
    refine lv_iload_n hx hb dX0_stepOnce_10 rfl (lv_at hl 0 rfl) ?_
    refine lv_aload_n hx hb dX0_stepOnce_11 rfl (lv_at hl 1 rfl) ?_
    refine z_get C G clX0 0 rfl 7 (by decide) m_fl_RX0_28 rfl dX0_stepOnce_12 ?_
    refine z_alen C G 4 0 rfl (v := nI n4) rfl rfl dX0_stepOnce_15 ?_
    refine lv_icmp_ge (tgt := 108) hx hb dX0_stepOnce_16 (by decide) (fun c_21 => ?_) (fun c_21 => ?_)
    · have c_21n : n4 ≤ i := (nI_leI (a := n4) (b := i) (by omega) (by omega)).mp c_21
      have hw_22 : bWays T h la md wy pc_ f1 f2 f3 x4 x5 f6 n4 [zO0 h md wy la pc_ a1_13 a2_14 a3_15 a4_16 a5_17 a6_18, zAr T 0 a1_13 7 f1, zAr T 0 a2_14 7 f2, zAr T 0 a3_15 7 f3, zAr T 0 a4_16 n4 x4, zAr T 0 a5_17 n4 x5, zAr T 0 a6_18 n4 f6] := ⟨a1_13, a2_14, a3_15, a4_16, a5_17, a6_18, rfl⟩
      have G : zS T A s.heap s [[zO0 h md wy la pc_ a1_13 a2_14 a3_15 a4_16 a5_17 a6_18, zAr T 0 a1_13 7 f1, zAr T 0 a2_14 7 f2, zAr T 0 a3_15 7 f3, zAr T 0 a4_16 n4 x4, zAr T 0 a5_17 n4 x5, zAr T 0 a6_18 n4 f6], [zO4 la cr inn a1_7 a2_8 a3_9 a4_10, zAr T 0 a1_7 7 k1, zAr T 0 a2_8 28 k2, zAr T 0 a3_9 7 k3, zAr T 0 a4_10 7 k4]] _ _ := G.re rfl
      exact z_back hQz_ (z_vret C hr hlocks G (Nat.le_of_ble_eq_true rfl) (Nat.le_of_ble_eq_true rfl) dX0_stepOnce_108 ⟨([zO0 h md wy la pc_ a1_13 a2_14 a3_15 a4_16 a5_17 a6_18, zAr T 0 a1_13 7 f1, zAr T 0 a2_14 7 f2, zAr T 0 a3_15 7 f3, zAr T 0 a4_16 n4 x4, zAr T 0 a5_17 n4 x5, zAr T 0 a6_18 n4 f6]), x4, x5, rfl, hw_22⟩)
    · have c_21n : ¬ n4 ≤ i := fun q => c_21 ((nI_leI (a := n4) (b := i) (by omega) (by omega)).mpr q)
      refine lv_iload_n hx hb dX0_stepOnce_19 rfl (lv_at hl 0 rfl) ?_
      refine lv_aload_n hx hb dX0_stepOnce_20 rfl (lv_at hl 1 rfl) ?_
      refine z_get C G clX0 0 rfl 8 (by decide) m_fl_RX0_31 rfl dX0_stepOnce_21 ?_
      refine z_alen C G 5 0 rfl (v := nI n4) rfl rfl dX0_stepOnce_24 ?_
      refine lv_icmp_ge (tgt := 108) hx hb dX0_stepOnce_25 (by decide) (fun q => absurd q c_21) (fun _ => ?_)
      refine lv_iload_n hx hb dX0_stepOnce_28 rfl (lv_at hl 0 rfl) ?_
      refine lv_iconst (v := 3) hx hb dX0_stepOnce_29 (by decide) ?_
      refine lv_ishr hx hb dX0_stepOnce_30 ?_
      refine lv_istore_n (lv' := [(2, .int ((nI i) >>> (3 &&& 31))), (1, .int (nI i)), (0, .ref h)]) hx hb dX0_stepOnce_31 rfl hl (by decide) (zLvf_h rfl) (fun ls hl => ?_)
      refine lv_iload_n hx hb dX0_stepOnce_32 rfl (lv_at hl 1 rfl) ?_
      refine lv_bipush (v := 7) hx hb dX0_stepOnce_33 (by decide) ?_
      refine lv_iand hx hb dX0_stepOnce_35 ?_
      refine lv_istore_n (lv' := [(3, .int ((nI i) &&& 7)), (2, .int ((nI i) >>> (3 &&& 31))), (1, .int (nI i)), (0, .ref h)]) hx hb dX0_stepOnce_36 rfl hl (by decide) (zLvf_h rfl) (fun ls hl => ?_)
      refine lv_aload_n hx hb dX0_stepOnce_37 rfl (lv_at hl 3 rfl) ?_
      refine lv_iload_n hx hb dX0_stepOnce_38 rfl (lv_at hl 1 rfl) ?_
      refine lv_iload_n hx hb dX0_stepOnce_39 rfl (lv_at hl 0 rfl) ?_
      have hw_23 : bWays T h la md wy pc_ f1 f2 f3 x4 x5 f6 n4 [zO0 h md wy la pc_ a1_13 a2_14 a3_15 a4_16 a5_17 a6_18, zAr T 0 a1_13 7 f1, zAr T 0 a2_14 7 f2, zAr T 0 a3_15 7 f3, zAr T 0 a4_16 n4 x4, zAr T 0 a5_17 n4 x5, zAr T 0 a6_18 n4 f6] := ⟨a1_13, a2_14, a3_15, a4_16, a5_17, a6_18, rfl⟩
      have G : zS T A s.heap s [[zO0 h md wy la pc_ a1_13 a2_14 a3_15 a4_16 a5_17 a6_18, zAr T 0 a1_13 7 f1, zAr T 0 a2_14 7 f2, zAr T 0 a3_15 7 f3, zAr T 0 a4_16 n4 x4, zAr T 0 a5_17 n4 x5, zAr T 0 a6_18 n4 f6], [zO4 la cr inn a1_7 a2_8 a3_9 a4_10, zAr T 0 a1_7 7 k1, zAr T 0 a2_8 28 k2, zAr T 0 a3_9 7 k3, zAr T 0 a4_10 7 k4]] _ _ := G.re rfl
      refine z_Vi (bc := [[zO0 h md wy la pc_ a1_13 a2_14 a3_15 a4_16 a5_17 a6_18, zAr T 0 a1_13 7 f1, zAr T 0 a2_14 7 f2, zAr T 0 a3_15 7 f3, zAr T 0 a4_16 n4 x4, zAr T 0 a5_17 n4 x5, zAr T 0 a6_18 n4 f6], [zO4 la cr inn a1_7 a2_8 a3_9 a4_10, zAr T 0 a1_7 7 k1, zAr T 0 a2_8 28 k2, zAr T 0 a3_9 7 k3, zAr T 0 a4_10 7 k4]]) (br := []) (As := [.int ((nI i) >>> (3 &&& 31)), .int ((nI i) &&& 7)]) (rest := []) C G (c_turned l T h la md wy pc_ f1 f2 f3 x4 x5 f6 n4 ([zO0 h md wy la pc_ a1_13 a2_14 a3_15 a4_16 a5_17 a6_18, zAr T 0 a1_13 7 f1, zAr T 0 a2_14 7 f2, zAr T 0 a3_15 7 f3, zAr T 0 a4_16 n4 x4, zAr T 0 a5_17 n4 x5, zAr T 0 a6_18 n4 f6]) cr inn k1 k2 k3 k4 ([zO4 la cr inn a1_7 a2_8 a3_9 a4_10, zAr T 0 a1_7 7 k1, zAr T 0 a2_8 28 k2, zAr T 0 a3_9 7 k3, zAr T 0 a4_10 7 k4]) ((nI i) >>> (3 &&& 31)) ((nI i) &&& 7) hw_23 hw_12 (by first | with_reducible assumption | with_reducible rfl | omega | assumption | rfl)) (kV_RX0_78 C.2.2.2.2 (Nat.le_of_ble_eq_true rfl) (Nat.le_of_ble_eq_true rfl)) [0, 1] [0, 0] rfl rfl (ci := 0) (qc := (RX0, TX0, 10)) rfl rfl (List.mem_flatten.mpr ⟨_, List.mem_of_getElem? (i := 0) rfl, (bWays_mem hw_23).choose_spec⟩) rfl rfl hl.1 dX0_stepOnce_40 (Nat.le_of_ble_eq_true rfl) (Nat.le_of_ble_eq_true rfl) (fun r_24 b1 H locs hw G => ?_)
      obtain rfl := hw
      have G : zS T A s.heap s [[zO0 h md wy la pc_ a1_13 a2_14 a3_15 a4_16 a5_17 a6_18, zAr T 0 a1_13 7 f1, zAr T 0 a2_14 7 f2, zAr T 0 a3_15 7 f3, zAr T 0 a4_16 n4 x4, zAr T 0 a5_17 n4 x5, zAr T 0 a6_18 n4 f6], [zO4 la cr inn a1_7 a2_8 a3_9 a4_10, zAr T 0 a1_7 7 k1, zAr T 0 a2_8 28 k2, zAr T 0 a3_9 7 k3, zAr T 0 a4_10 7 k4]] _ _ := G
      refine lv_istore (lv' := [(4, .int r_24), (3, .int ((nI i) &&& 7)), (2, .int ((nI i) >>> (3 &&& 31))), (1, .int (nI i)), (0, .ref h)]) hx hb dX0_stepOnce_43 hl (by decide) (zLvf_h rfl) (fun ls hl => ?_)
      refine lv_iload hx hb dX0_stepOnce_45 (lv_at hl 0 rfl) ?_
      refine lv_iconst (v := (-1)) hx hb dX0_stepOnce_47 (by decide) ?_
      refine lv_icmp_ne (tgt := 61) hx hb dX0_stepOnce_48 (by decide) (fun c_25 => ?_) (fun c_25 => ?_)
      · have c_25n : ¬ r_24.toInt = (-1 : Int) := fun q => c_25 ((fa_eq _ _).mpr q)
        refine lv_aload_n hx hb dX0_stepOnce_61 rfl (lv_at hl 4 rfl) ?_
        have G : zS T A s.heap s [[zO0 h md wy la pc_ a1_13 a2_14 a3_15 a4_16 a5_17 a6_18], [zAr T 0 a1_13 7 f1], [zAr T 0 a2_14 7 f2], [zAr T 0 a3_15 7 f3], [zAr T 0 a4_16 n4 x4], [zAr T 0 a5_17 n4 x5], [zAr T 0 a6_18 n4 f6], [zO4 la cr inn a1_7 a2_8 a3_9 a4_10, zAr T 0 a1_7 7 k1, zAr T 0 a2_8 28 k2, zAr T 0 a3_9 7 k3, zAr T 0 a4_10 7 k4]] _ _ := G.re rfl
        refine z_get C G clX0 0 rfl 7 (by decide) m_fl_RX0_28 rfl dX0_stepOnce_62 ?_
        refine lv_iload_n hx hb dX0_stepOnce_65 rfl (lv_at hl 3 rfl) ?_
        refine lv_iload hx hb dX0_stepOnce_66 (lv_at hl 0 rfl) ?_
        refine lv_aload_n hx hb dX0_stepOnce_68 rfl (lv_at hl 4 rfl) ?_
        refine z_get C G clX0 0 rfl 2 (by decide) m_fl_RX0_14 rfl dX0_stepOnce_69 ?_
        refine lv_iload_n hx hb dX0_stepOnce_72 rfl (lv_at hl 1 rfl) ?_
        refine lv_aload_n hx hb dX0_stepOnce_73 rfl (lv_at hl 4 rfl) ?_
        refine lv_iload hx hb dX0_stepOnce_74 (lv_at hl 0 rfl) ?_
        refine lv_iload_n hx hb dX0_stepOnce_76 rfl (lv_at hl 1 rfl) ?_
        have hw_26 : bWays T h la md wy pc_ f1 f2 f3 x4 x5 f6 n4 [zO0 h md wy la pc_ a1_13 a2_14 a3_15 a4_16 a5_17 a6_18, zAr T 0 a1_13 7 f1, zAr T 0 a2_14 7 f2, zAr T 0 a3_15 7 f3, zAr T 0 a4_16 n4 x4, zAr T 0 a5_17 n4 x5, zAr T 0 a6_18 n4 f6] := ⟨a1_13, a2_14, a3_15, a4_16, a5_17, a6_18, rfl⟩
        have G : zS T A s.heap s [[zO0 h md wy la pc_ a1_13 a2_14 a3_15 a4_16 a5_17 a6_18, zAr T 0 a1_13 7 f1, zAr T 0 a2_14 7 f2, zAr T 0 a3_15 7 f3, zAr T 0 a4_16 n4 x4, zAr T 0 a5_17 n4 x5, zAr T 0 a6_18 n4 f6], [zO4 la cr inn a1_7 a2_8 a3_9 a4_10, zAr T 0 a1_7 7 k1, zAr T 0 a2_8 28 k2, zAr T 0 a3_9 7 k3, zAr T 0 a4_10 7 k4]] _ _ := G.re rfl
        refine z_Vi (bc := [[zO0 h md wy la pc_ a1_13 a2_14 a3_15 a4_16 a5_17 a6_18, zAr T 0 a1_13 7 f1, zAr T 0 a2_14 7 f2, zAr T 0 a3_15 7 f3, zAr T 0 a4_16 n4 x4, zAr T 0 a5_17 n4 x5, zAr T 0 a6_18 n4 f6]]) (br := [[zO4 la cr inn a1_7 a2_8 a3_9 a4_10, zAr T 0 a1_7 7 k1, zAr T 0 a2_8 28 k2, zAr T 0 a3_9 7 k3, zAr T 0 a4_10 7 k4]]) (As := [.int r_24, .int ((nI i) &&& 7)]) (rest := [.int ((nI i) &&& 7), .ref la, .int r_24, .int (nI i), .ref a4_16]) C G (c_road l T h la md wy pc_ f1 f2 f3 x4 x5 f6 n4 ([zO0 h md wy la pc_ a1_13 a2_14 a3_15 a4_16 a5_17 a6_18, zAr T 0 a1_13 7 f1, zAr T 0 a2_14 7 f2, zAr T 0 a3_15 7 f3, zAr T 0 a4_16 n4 x4, zAr T 0 a5_17 n4 x5, zAr T 0 a6_18 n4 f6]) r_24 ((nI i) &&& 7) hw_26) (kV_RX0_81 C.2.2.2.2 (Nat.le_of_ble_eq_true rfl) (Nat.le_of_ble_eq_true rfl)) [0] [0] rfl rfl (ci := 0) (qc := (RX0, TX0, 10)) rfl rfl (List.mem_flatten.mpr ⟨_, List.mem_of_getElem? (i := 0) rfl, (bWays_mem hw_26).choose_spec⟩) rfl rfl hl.1 dX0_stepOnce_77 (Nat.le_of_ble_eq_true rfl) (Nat.le_of_ble_eq_true rfl) (fun r_28 b1 H locs hw G => ?_)
        refine zAn2 hw ?_
        intro hbs9 h_27
        clear hw
        subst hbs9
        have G : zS T A s.heap s [[zO4 la cr inn a1_7 a2_8 a3_9 a4_10, zAr T 0 a1_7 7 k1, zAr T 0 a2_8 28 k2, zAr T 0 a3_9 7 k3, zAr T 0 a4_10 7 k4], [zO0 h md wy la pc_ a1_13 a2_14 a3_15 a4_16 a5_17 a6_18, zAr T 0 a1_13 7 f1, zAr T 0 a2_14 7 f2, zAr T 0 a3_15 7 f3, zAr T 0 a4_16 n4 x4, zAr T 0 a5_17 n4 x5, zAr T 0 a6_18 n4 f6]] _ _ := G
        subst h_27
        refine z_Vi (bc := [[zO4 la cr inn a1_7 a2_8 a3_9 a4_10, zAr T 0 a1_7 7 k1, zAr T 0 a2_8 28 k2, zAr T 0 a3_9 7 k3, zAr T 0 a4_10 7 k4]]) (br := [[zO0 h md wy la pc_ a1_13 a2_14 a3_15 a4_16 a5_17 a6_18, zAr T 0 a1_13 7 f1, zAr T 0 a2_14 7 f2, zAr T 0 a3_15 7 f3, zAr T 0 a4_16 n4 x4, zAr T 0 a5_17 n4 x5, zAr T 0 a6_18 n4 f6]]) (As := [.int ((nI i) &&& 7), .int (zRoad f1 f2 r_24 ((nI i) &&& 7))]) (rest := [.int r_24, .int (nI i), .ref a4_16]) C G (c_target l T la cr inn k1 k2 k3 k4 ([zO4 la cr inn a1_7 a2_8 a3_9 a4_10, zAr T 0 a1_7 7 k1, zAr T 0 a2_8 28 k2, zAr T 0 a3_9 7 k3, zAr T 0 a4_10 7 k4]) ((nI i) &&& 7) (zRoad f1 f2 r_24 ((nI i) &&& 7)) hw_12) (kV_RX0_84 C.2.2.2.2 (Nat.le_of_ble_eq_true rfl) (Nat.le_of_ble_eq_true rfl)) [0] [0] rfl rfl (ci := 4) (qc := (RX4, TX4, 6)) rfl rfl (List.mem_flatten.mpr ⟨_, List.mem_of_getElem? (i := 0) rfl, (bLand_mem hw_12).choose_spec⟩) rfl rfl hl.1 dX0_stepOnce_80 (Nat.le_of_ble_eq_true rfl) (Nat.le_of_ble_eq_true rfl) (fun r_30 b1 H locs hw G => ?_)
        refine zAn2 hw ?_
        intro hbs9 h_29
        clear hw
        subst hbs9
        have G : zS T A s.heap s [[zO0 h md wy la pc_ a1_13 a2_14 a3_15 a4_16 a5_17 a6_18, zAr T 0 a1_13 7 f1, zAr T 0 a2_14 7 f2, zAr T 0 a3_15 7 f3, zAr T 0 a4_16 n4 x4, zAr T 0 a5_17 n4 x5, zAr T 0 a6_18 n4 f6], [zO4 la cr inn a1_7 a2_8 a3_9 a4_10, zAr T 0 a1_7 7 k1, zAr T 0 a2_8 28 k2, zAr T 0 a3_9 7 k3, zAr T 0 a4_10 7 k4]] _ _ := G
        subst h_29
        refine z_Si (bc := []) (br := [[zO0 h md wy la pc_ a1_13 a2_14 a3_15 a4_16 a5_17 a6_18, zAr T 0 a1_13 7 f1, zAr T 0 a2_14 7 f2, zAr T 0 a3_15 7 f3, zAr T 0 a4_16 n4 x4, zAr T 0 a5_17 n4 x5, zAr T 0 a6_18 n4 f6], [zO4 la cr inn a1_7 a2_8 a3_9 a4_10, zAr T 0 a1_7 7 k1, zAr T 0 a2_8 28 k2, zAr T 0 a3_9 7 k3, zAr T 0 a4_10 7 k4]]) (As := [.int r_24, .int (zTarget cr k1 k2 ((nI i) &&& 7) (zRoad f1 f2 r_24 ((nI i) &&& 7)))]) (rest := [.int (nI i), .ref a4_16]) C G (c_place l T r_24 (zTarget cr k1 k2 ((nI i) &&& 7) (zRoad f1 f2 r_24 ((nI i) &&& 7)))) (kS_RX0_87 C.2.2.2.2 (Nat.le_of_ble_eq_true rfl) (Nat.le_of_ble_eq_true rfl)) [] [] rfl rfl rfl rfl hl.1 dX0_stepOnce_83 (Nat.le_of_ble_eq_true rfl) (Nat.le_of_ble_eq_true rfl) (fun r_32 b1 H locs hw G => ?_)
        refine zAn2 hw ?_
        intro hbs9 h_31
        clear hw
        subst hbs9
        have G : zS T A s.heap s [[zO0 h md wy la pc_ a1_13 a2_14 a3_15 a4_16 a5_17 a6_18, zAr T 0 a1_13 7 f1, zAr T 0 a2_14 7 f2, zAr T 0 a3_15 7 f3, zAr T 0 a4_16 n4 x4, zAr T 0 a5_17 n4 x5, zAr T 0 a6_18 n4 f6], [zO4 la cr inn a1_7 a2_8 a3_9 a4_10, zAr T 0 a1_7 7 k1, zAr T 0 a2_8 28 k2, zAr T 0 a3_9 7 k3, zAr T 0 a4_10 7 k4]] _ _ := G
        subst h_31
        refine lv_ldc (v := 131072) hx hb C.2.2.2.1 (C.2.2.2.2 _ m_ko_RX0_71) dX0_stepOnce_86 ?_
        refine lv_iadd hx hb dX0_stepOnce_88 ?_
        have G : zS T A s.heap s [[zO0 h md wy la pc_ a1_13 a2_14 a3_15 a4_16 a5_17 a6_18], [zAr T 0 a1_13 7 f1], [zAr T 0 a2_14 7 f2], [zAr T 0 a3_15 7 f3], [zAr T 0 a4_16 n4 x4], [zAr T 0 a5_17 n4 x5], [zAr T 0 a6_18 n4 f6], [zO4 la cr inn a1_7 a2_8 a3_9 a4_10, zAr T 0 a1_7 7 k1, zAr T 0 a2_8 28 k2, zAr T 0 a3_9 7 k3, zAr T 0 a4_10 7 k4]] _ _ := G.re rfl
        refine z_ist C G 4 rfl (vp_in_nI (by omega) (by omega)) dX0_stepOnce_89 (fun H locs G => ?_)
        rw [nI_clamp (by omega)] at G
        have G : zS T A s.heap s [[zO0 h md wy la pc_ a1_13 a2_14 a3_15 a4_16 a5_17 a6_18], [zAr T 0 a1_13 7 f1], [zAr T 0 a2_14 7 f2], [zAr T 0 a3_15 7 f3], [zAr T 0 a4_16 n4 (upd x4 i (((r_24 <<< (3 &&& 31)) + (zTarget cr k1 k2 ((nI i) &&& 7) (zRoad f1 f2 r_24 ((nI i) &&& 7)))) + 131072))], [zAr T 0 a5_17 n4 x5], [zAr T 0 a6_18 n4 f6], [zO4 la cr inn a1_7 a2_8 a3_9 a4_10, zAr T 0 a1_7 7 k1, zAr T 0 a2_8 28 k2, zAr T 0 a3_9 7 k3, zAr T 0 a4_10 7 k4]] _ _ := G
        refine lv_aload_n hx hb dX0_stepOnce_90 rfl (lv_at hl 4 rfl) ?_
        refine z_get C G clX0 0 rfl 8 (by decide) m_fl_RX0_31 rfl dX0_stepOnce_91 ?_
        refine lv_iload_n hx hb dX0_stepOnce_94 rfl (lv_at hl 3 rfl) ?_
        refine lv_aload_n hx hb dX0_stepOnce_95 rfl (lv_at hl 4 rfl) ?_
        refine z_get C G clX0 0 rfl 7 (by decide) m_fl_RX0_28 rfl dX0_stepOnce_96 ?_
        refine lv_iload_n hx hb dX0_stepOnce_99 rfl (lv_at hl 3 rfl) ?_
        refine z_ild C G 4 rfl (vp_in_nI (by omega) (by omega)) dX0_stepOnce_100 ?_
        refine lv_topi (fun v_33 ev_33 => ?_)
        rw [nI_clamp (by omega)] at ev_33
        subst ev_33
        refine z_ist C G 5 rfl (vp_in_nI (by omega) (by omega)) dX0_stepOnce_101 (fun H locs G => ?_)
        rw [nI_clamp (by omega)] at G
        have G : zS T A s.heap s [[zO0 h md wy la pc_ a1_13 a2_14 a3_15 a4_16 a5_17 a6_18], [zAr T 0 a1_13 7 f1], [zAr T 0 a2_14 7 f2], [zAr T 0 a3_15 7 f3], [zAr T 0 a4_16 n4 (upd x4 i (((r_24 <<< (3 &&& 31)) + (zTarget cr k1 k2 ((nI i) &&& 7) (zRoad f1 f2 r_24 ((nI i) &&& 7)))) + 131072))], [zAr T 0 a5_17 n4 (upd x5 i ((upd x4 i (((r_24 <<< (3 &&& 31)) + (zTarget cr k1 k2 ((nI i) &&& 7) (zRoad f1 f2 r_24 ((nI i) &&& 7)))) + 131072)) i))], [zAr T 0 a6_18 n4 f6], [zO4 la cr inn a1_7 a2_8 a3_9 a4_10, zAr T 0 a1_7 7 k1, zAr T 0 a2_8 28 k2, zAr T 0 a3_9 7 k3, zAr T 0 a4_10 7 k4]] _ _ := G
        refine lv_iinc (v := nI (i + 1)) (lv' := [(1, .int (nI (i + 1))), (4, .int r_24), (3, .int ((nI i) &&& 7)), (2, .int ((nI i) >>> (3 &&& 31))), (0, .ref h)]) hx hb dX0_stepOnce_102 hl (k := 3) rfl (z_inc i 1) (by decide) (zLvf_h rfl) (fun ls hl => ?_)
        refine lv_goto (tgt := 2) hx hb dX0_stepOnce_105 (by decide) ?_
        have hw_34 : bWays T h la md wy pc_ f1 f2 f3 (upd x4 i (((r_24 <<< (3 &&& 31)) + (zTarget cr k1 k2 ((nI i) &&& 7) (zRoad f1 f2 r_24 ((nI i) &&& 7)))) + 131072)) (upd x5 i ((upd x4 i (((r_24 <<< (3 &&& 31)) + (zTarget cr k1 k2 ((nI i) &&& 7) (zRoad f1 f2 r_24 ((nI i) &&& 7)))) + 131072)) i)) f6 n4 [zO0 h md wy la pc_ a1_13 a2_14 a3_15 a4_16 a5_17 a6_18, zAr T 0 a1_13 7 f1, zAr T 0 a2_14 7 f2, zAr T 0 a3_15 7 f3, zAr T 0 a4_16 n4 (upd x4 i (((r_24 <<< (3 &&& 31)) + (zTarget cr k1 k2 ((nI i) &&& 7) (zRoad f1 f2 r_24 ((nI i) &&& 7)))) + 131072)), zAr T 0 a5_17 n4 (upd x5 i ((upd x4 i (((r_24 <<< (3 &&& 31)) + (zTarget cr k1 k2 ((nI i) &&& 7) (zRoad f1 f2 r_24 ((nI i) &&& 7)))) + 131072)) i)), zAr T 0 a6_18 n4 f6] := ⟨a1_13, a2_14, a3_15, a4_16, a5_17, a6_18, rfl⟩
        have G : zS T A s.heap s [[zO0 h md wy la pc_ a1_13 a2_14 a3_15 a4_16 a5_17 a6_18, zAr T 0 a1_13 7 f1, zAr T 0 a2_14 7 f2, zAr T 0 a3_15 7 f3, zAr T 0 a4_16 n4 (upd x4 i (((r_24 <<< (3 &&& 31)) + (zTarget cr k1 k2 ((nI i) &&& 7) (zRoad f1 f2 r_24 ((nI i) &&& 7)))) + 131072)), zAr T 0 a5_17 n4 (upd x5 i ((upd x4 i (((r_24 <<< (3 &&& 31)) + (zTarget cr k1 k2 ((nI i) &&& 7) (zRoad f1 f2 r_24 ((nI i) &&& 7)))) + 131072)) i)), zAr T 0 a6_18 n4 f6], [zO4 la cr inn a1_7 a2_8 a3_9 a4_10, zAr T 0 a1_7 7 k1, zAr T 0 a2_8 28 k2, zAr T 0 a3_9 7 k3, zAr T 0 a4_10 7 k4]] _ _ := G.re rfl
        exact ih_2 (i + 1) ([zO0 h md wy la pc_ a1_13 a2_14 a3_15 a4_16 a5_17 a6_18, zAr T 0 a1_13 7 f1, zAr T 0 a2_14 7 f2, zAr T 0 a3_15 7 f3, zAr T 0 a4_16 n4 (upd x4 i (((r_24 <<< (3 &&& 31)) + (zTarget cr k1 k2 ((nI i) &&& 7) (zRoad f1 f2 r_24 ((nI i) &&& 7)))) + 131072)), zAr T 0 a5_17 n4 (upd x5 i ((upd x4 i (((r_24 <<< (3 &&& 31)) + (zTarget cr k1 k2 ((nI i) &&& 7) (zRoad f1 f2 r_24 ((nI i) &&& 7)))) + 131072)) i)), zAr T 0 a6_18 n4 f6]) (upd x4 i (((r_24 <<< (3 &&& 31)) + (zTarget cr k1 k2 ((nI i) &&& 7) (zRoad f1 f2 r_24 ((nI i) &&& 7)))) + 131072)) (upd x5 i ((upd x4 i (((r_24 <<< (3 &&& 31)) + (zTarget cr k1 k2 ((nI i) &&& 7) (zRoad f1 f2 r_24 ((nI i) &&& 7)))) + 131072)) i)) (show bWays T h la md wy pc_ f1 f2 f3 (upd x4 i (((r_24 <<< (3 &&& 31)) + (zTarget cr k1 k2 ((nI i) &&& 7) (zRoad f1 f2 r_24 ((nI i) &&& 7)))) + 131072)) (upd x5 i ((upd x4 i (((r_24 <<< (3 &&& 31)) + (zTarget cr k1 k2 ((nI i) &&& 7) (zRoad f1 f2 r_24 ((nI i) &&& 7)))) + 131072)) i)) f6 n4 ([zO0 h md wy la pc_ a1_13 a2_14 a3_15 a4_16 a5_17 a6_18, zAr T 0 a1_13 7 f1, zAr T 0 a2_14 7 f2, zAr T 0 a3_15 7 f3, zAr T 0 a4_16 n4 (upd x4 i (((r_24 <<< (3 &&& 31)) + (zTarget cr k1 k2 ((nI i) &&& 7) (zRoad f1 f2 r_24 ((nI i) &&& 7)))) + 131072)), zAr T 0 a5_17 n4 (upd x5 i ((upd x4 i (((r_24 <<< (3 &&& 31)) + (zTarget cr k1 k2 ((nI i) &&& 7) (zRoad f1 f2 r_24 ((nI i) &&& 7)))) + 131072)) i)), zAr T 0 a6_18 n4 f6]) ∧ (i + 1) ≤ pc_.toInt.toNat from ⟨hw_34, by omega⟩) (show pc_.toInt.toNat - (i + 1) < pc_.toInt.toNat - i from by omega) _ _ ls G (lv_sub hl [0, 4] rfl)
      · have c_25n : r_24.toInt = (-1 : Int) := (fa_eq _ _).mp c_25
        refine lv_aload_n hx hb dX0_stepOnce_51 rfl (lv_at hl 4 rfl) ?_
        have G : zS T A s.heap s [[zO0 h md wy la pc_ a1_13 a2_14 a3_15 a4_16 a5_17 a6_18], [zAr T 0 a1_13 7 f1], [zAr T 0 a2_14 7 f2], [zAr T 0 a3_15 7 f3], [zAr T 0 a4_16 n4 x4], [zAr T 0 a5_17 n4 x5], [zAr T 0 a6_18 n4 f6], [zO4 la cr inn a1_7 a2_8 a3_9 a4_10, zAr T 0 a1_7 7 k1, zAr T 0 a2_8 28 k2, zAr T 0 a3_9 7 k3, zAr T 0 a4_10 7 k4]] _ _ := G.re rfl
        refine z_get C G clX0 0 rfl 7 (by decide) m_fl_RX0_28 rfl dX0_stepOnce_52 ?_
        refine lv_iload_n hx hb dX0_stepOnce_55 rfl (lv_at hl 3 rfl) ?_
        refine lv_iload_n hx hb dX0_stepOnce_56 rfl (lv_at hl 3 rfl) ?_
        refine z_ist C G 4 rfl (vp_in_nI (by omega) (by omega)) dX0_stepOnce_57 (fun H locs G => ?_)
        rw [nI_clamp (by omega)] at G
        have G : zS T A s.heap s [[zO0 h md wy la pc_ a1_13 a2_14 a3_15 a4_16 a5_17 a6_18], [zAr T 0 a1_13 7 f1], [zAr T 0 a2_14 7 f2], [zAr T 0 a3_15 7 f3], [zAr T 0 a4_16 n4 (upd x4 i (nI i))], [zAr T 0 a5_17 n4 x5], [zAr T 0 a6_18 n4 f6], [zO4 la cr inn a1_7 a2_8 a3_9 a4_10, zAr T 0 a1_7 7 k1, zAr T 0 a2_8 28 k2, zAr T 0 a3_9 7 k3, zAr T 0 a4_10 7 k4]] _ _ := G
        refine lv_goto (tgt := 90) hx hb dX0_stepOnce_58 (by decide) ?_
        refine lv_aload_n hx hb dX0_stepOnce_90 rfl (lv_at hl 4 rfl) ?_
        refine z_get C G clX0 0 rfl 8 (by decide) m_fl_RX0_31 rfl dX0_stepOnce_91 ?_
        refine lv_iload_n hx hb dX0_stepOnce_94 rfl (lv_at hl 3 rfl) ?_
        refine lv_aload_n hx hb dX0_stepOnce_95 rfl (lv_at hl 4 rfl) ?_
        refine z_get C G clX0 0 rfl 7 (by decide) m_fl_RX0_28 rfl dX0_stepOnce_96 ?_
        refine lv_iload_n hx hb dX0_stepOnce_99 rfl (lv_at hl 3 rfl) ?_
        refine z_ild C G 4 rfl (vp_in_nI (by omega) (by omega)) dX0_stepOnce_100 ?_
        refine lv_topi (fun v_35 ev_35 => ?_)
        rw [nI_clamp (by omega)] at ev_35
        subst ev_35
        refine z_ist C G 5 rfl (vp_in_nI (by omega) (by omega)) dX0_stepOnce_101 (fun H locs G => ?_)
        rw [nI_clamp (by omega)] at G
        have G : zS T A s.heap s [[zO0 h md wy la pc_ a1_13 a2_14 a3_15 a4_16 a5_17 a6_18], [zAr T 0 a1_13 7 f1], [zAr T 0 a2_14 7 f2], [zAr T 0 a3_15 7 f3], [zAr T 0 a4_16 n4 (upd x4 i (nI i))], [zAr T 0 a5_17 n4 (upd x5 i ((upd x4 i (nI i)) i))], [zAr T 0 a6_18 n4 f6], [zO4 la cr inn a1_7 a2_8 a3_9 a4_10, zAr T 0 a1_7 7 k1, zAr T 0 a2_8 28 k2, zAr T 0 a3_9 7 k3, zAr T 0 a4_10 7 k4]] _ _ := G
        refine lv_iinc (v := nI (i + 1)) (lv' := [(1, .int (nI (i + 1))), (4, .int r_24), (3, .int ((nI i) &&& 7)), (2, .int ((nI i) >>> (3 &&& 31))), (0, .ref h)]) hx hb dX0_stepOnce_102 hl (k := 3) rfl (z_inc i 1) (by decide) (zLvf_h rfl) (fun ls hl => ?_)
        refine lv_goto (tgt := 2) hx hb dX0_stepOnce_105 (by decide) ?_
        have hw_36 : bWays T h la md wy pc_ f1 f2 f3 (upd x4 i (nI i)) (upd x5 i ((upd x4 i (nI i)) i)) f6 n4 [zO0 h md wy la pc_ a1_13 a2_14 a3_15 a4_16 a5_17 a6_18, zAr T 0 a1_13 7 f1, zAr T 0 a2_14 7 f2, zAr T 0 a3_15 7 f3, zAr T 0 a4_16 n4 (upd x4 i (nI i)), zAr T 0 a5_17 n4 (upd x5 i ((upd x4 i (nI i)) i)), zAr T 0 a6_18 n4 f6] := ⟨a1_13, a2_14, a3_15, a4_16, a5_17, a6_18, rfl⟩
        have G : zS T A s.heap s [[zO0 h md wy la pc_ a1_13 a2_14 a3_15 a4_16 a5_17 a6_18, zAr T 0 a1_13 7 f1, zAr T 0 a2_14 7 f2, zAr T 0 a3_15 7 f3, zAr T 0 a4_16 n4 (upd x4 i (nI i)), zAr T 0 a5_17 n4 (upd x5 i ((upd x4 i (nI i)) i)), zAr T 0 a6_18 n4 f6], [zO4 la cr inn a1_7 a2_8 a3_9 a4_10, zAr T 0 a1_7 7 k1, zAr T 0 a2_8 28 k2, zAr T 0 a3_9 7 k3, zAr T 0 a4_10 7 k4]] _ _ := G.re rfl
        exact ih_2 (i + 1) ([zO0 h md wy la pc_ a1_13 a2_14 a3_15 a4_16 a5_17 a6_18, zAr T 0 a1_13 7 f1, zAr T 0 a2_14 7 f2, zAr T 0 a3_15 7 f3, zAr T 0 a4_16 n4 (upd x4 i (nI i)), zAr T 0 a5_17 n4 (upd x5 i ((upd x4 i (nI i)) i)), zAr T 0 a6_18 n4 f6]) (upd x4 i (nI i)) (upd x5 i ((upd x4 i (nI i)) i)) (show bWays T h la md wy pc_ f1 f2 f3 (upd x4 i (nI i)) (upd x5 i ((upd x4 i (nI i)) i)) f6 n4 ([zO0 h md wy la pc_ a1_13 a2_14 a3_15 a4_16 a5_17 a6_18, zAr T 0 a1_13 7 f1, zAr T 0 a2_14 7 f2, zAr T 0 a3_15 7 f3, zAr T 0 a4_16 n4 (upd x4 i (nI i)), zAr T 0 a5_17 n4 (upd x5 i ((upd x4 i (nI i)) i)), zAr T 0 a6_18 n4 f6]) ∧ (i + 1) ≤ pc_.toInt.toNat from ⟨hw_36, by omega⟩) (show pc_.toInt.toNat - (i + 1) < pc_.toInt.toNat - i from by omega) _ _ ls G (lv_sub hl [0, 4] rfl)
set_option maxHeartbeats 4000000 in
set_option maxRecDepth 100000 in
/-- oneMore -/
theorem c_oneMore (l : Launch) (T : zTy) (h : Nat) (la : Nat) (md : Int32) (wy : Int32) (pc_ : Int32) (f1 : Nat → Int32) (f2 : Nat → Int32) (f3 : Nat → Int32) (f4 : Nat → Int32) (f5 : Nat → Int32) (f6 : Nat → Int32) (n4 : Nat) (ww : va_W) (hww : bWays T h la md wy pc_ f1 f2 f3 f4 f5 f6 n4 ww) (hn : n4 ≤ 131072) (hpl : pc_.toInt ≤ 131072) : zMv l T yX0_oneMore cX0_oneMore 4 1 0 0 [.ref h] [ww] (fun bs => ∃ (w2 : va_W) (g5 : Nat → Int32) (g6 : Nat → Int32), bs = [w2] ∧ bWays T h la md wy pc_ f1 f2 f3 f4 g5 g6 n4 w2) := by
  refine zMv_of (own := RX0) (by decide) rfl (Nat.le_of_ble_eq_true rfl) ?_
  intro p e s m args below meth c A ls C hr hlocks hnm hAe G hl
  refine zHide (fun Qz_ hQz_ => ?_)
  have hx := C.1
  have hb := C.2.1
  have hl : lv_has ls 4 [(0, .ref h)] := hl
  refine lv_iconst (v := 0) hx hb dX0_oneMore_0 (by decide) ?_
  refine lv_istore_n (lv' := [(1, .int 0), (0, .ref h)]) hx hb dX0_oneMore_1 rfl hl (by decide) (zLvf_h rfl) (fun ls hl => ?_)
  refine zEx6 hww ?_
  intro a1_1 a2_2 a3_3 a4_4 a5_5 a6_6 hbs9
  clear hww
  subst hbs9
  have G : zS T A s.heap s [[zO0 h md wy la pc_ a1_1 a2_2 a3_3 a4_4 a5_5 a6_6], [zAr T 0 a1_1 7 f1], [zAr T 0 a2_2 7 f2], [zAr T 0 a3_3 7 f3], [zAr T 0 a4_4 n4 f4], [zAr T 0 a5_5 n4 f5], [zAr T 0 a6_6 n4 f6]] _ _ := G.re rfl
  have hw_7 : bWays T h la md wy pc_ f1 f2 f3 f4 f5 f6 n4 [zO0 h md wy la pc_ a1_1 a2_2 a3_3 a4_4 a5_5 a6_6, zAr T 0 a1_1 7 f1, zAr T 0 a2_2 7 f2, zAr T 0 a3_3 7 f3, zAr T 0 a4_4 n4 f4, zAr T 0 a5_5 n4 f5, zAr T 0 a6_6 n4 f6] := ⟨a1_1, a2_2, a3_3, a4_4, a5_5, a6_6, rfl⟩
  have G : zS T A s.heap s [[zO0 h md wy la pc_ a1_1 a2_2 a3_3 a4_4 a5_5 a6_6, zAr T 0 a1_1 7 f1, zAr T 0 a2_2 7 f2, zAr T 0 a3_3 7 f3, zAr T 0 a4_4 n4 f4, zAr T 0 a5_5 n4 f5, zAr T 0 a6_6 n4 f6]] _ _ := G.re rfl
  refine z_lp3 (T := T) 2 (fun (i : Nat) (wt : va_W) (x5 : Nat → Int32) => [wt]) (fun (i : Nat) (wt : va_W) (x5 : Nat → Int32) => [(1, .int (nI i)), (0, .ref h)]) (fun (i : Nat) (wt : va_W) (x5 : Nat → Int32) => bWays T h la md wy pc_ f1 f2 f3 f4 x5 f6 n4 wt ∧ i ≤ pc_.toInt.toNat) (fun (i : Nat) (wt : va_W) (x5 : Nat → Int32) => pc_.toInt.toNat - i) ?_ 0 ([zO0 h md wy la pc_ a1_1 a2_2 a3_3 a4_4 a5_5 a6_6, zAr T 0 a1_1 7 f1, zAr T 0 a2_2 7 f2, zAr T 0 a3_3 7 f3, zAr T 0 a4_4 n4 f4, zAr T 0 a5_5 n4 f5, zAr T 0 a6_6 n4 f6]) f5 (show bWays T h la md wy pc_ f1 f2 f3 f4 f5 f6 n4 ([zO0 h md wy la pc_ a1_1 a2_2 a3_3 a4_4 a5_5 a6_6, zAr T 0 a1_1 7 f1, zAr T 0 a2_2 7 f2, zAr T 0 a3_3 7 f3, zAr T 0 a4_4 n4 f4, zAr T 0 a5_5 n4 f5, zAr T 0 a6_6 n4 f6]) ∧ 0 ≤ pc_.toInt.toNat from ⟨hw_7, by omega⟩) G (lv_sub hl [0, 1] rfl)
  intro i wt x5 hI9 ih_2 H locs ls G hl
  replace hI9 : bWays T h la md wy pc_ f1 f2 f3 f4 x5 f6 n4 wt ∧ i ≤ pc_.toInt.toNat := hI9
  refine zAn2 hI9 ?_
  intro hwt hi
  clear hI9
  replace G : zS T A s.heap s [wt] _ _ := G
  replace hl : lv_has ls 4 [(1, .int (nI i)), (0, .ref h)] := hl
  refine lv_iload_n hx hb dX0_oneMore_2 rfl (lv_at hl 0 rfl) ?_
  refine lv_aload_n hx hb dX0_oneMore_3 rfl (lv_at hl 1 rfl) ?_
  refine zEx6 hwt ?_
  intro a1_8 a2_9 a3_10 a4_11 a5_12 a6_13 hbs9
  clear hwt
  subst hbs9
  have G : zS T A s.heap s [[zO0 h md wy la pc_ a1_8 a2_9 a3_10 a4_11 a5_12 a6_13], [zAr T 0 a1_8 7 f1], [zAr T 0 a2_9 7 f2], [zAr T 0 a3_10 7 f3], [zAr T 0 a4_11 n4 f4], [zAr T 0 a5_12 n4 x5], [zAr T 0 a6_13 n4 f6]] _ _ := G.re rfl
  refine z_get C G clX0 0 rfl 3 (by decide) m_fl_RX0_75 rfl dX0_oneMore_4 ?_
  refine lv_icmp_ge (tgt := 66) hx hb dX0_oneMore_7 (by decide) (fun c_14 => ?_) (fun c_14 => ?_)
  · have c_14n : pc_.toInt ≤ (i : Int) := by have q := (fa_le _ _).mp c_14; rw [nI_toInt (n := i) (by omega)] at q; exact q
    have hw_15 : bWays T h la md wy pc_ f1 f2 f3 f4 x5 f6 n4 [zO0 h md wy la pc_ a1_8 a2_9 a3_10 a4_11 a5_12 a6_13, zAr T 0 a1_8 7 f1, zAr T 0 a2_9 7 f2, zAr T 0 a3_10 7 f3, zAr T 0 a4_11 n4 f4, zAr T 0 a5_12 n4 x5, zAr T 0 a6_13 n4 f6] := ⟨a1_8, a2_9, a3_10, a4_11, a5_12, a6_13, rfl⟩
    have G : zS T A s.heap s [[zO0 h md wy la pc_ a1_8 a2_9 a3_10 a4_11 a5_12 a6_13, zAr T 0 a1_8 7 f1, zAr T 0 a2_9 7 f2, zAr T 0 a3_10 7 f3, zAr T 0 a4_11 n4 f4, zAr T 0 a5_12 n4 x5, zAr T 0 a6_13 n4 f6]] _ _ := G.re rfl
    exact z_back hQz_ (z_vret C hr hlocks G (Nat.le_of_ble_eq_true rfl) (Nat.le_of_ble_eq_true rfl) dX0_oneMore_66 ⟨([zO0 h md wy la pc_ a1_8 a2_9 a3_10 a4_11 a5_12 a6_13, zAr T 0 a1_8 7 f1, zAr T 0 a2_9 7 f2, zAr T 0 a3_10 7 f3, zAr T 0 a4_11 n4 f4, zAr T 0 a5_12 n4 x5, zAr T 0 a6_13 n4 f6]), x5, f6, rfl, hw_15⟩)
  · have c_14n : ¬ pc_.toInt ≤ (i : Int) := fun q => c_14 ((fa_le _ _).mpr (by rw [nI_toInt (n := i) (by omega)]; exact q))
    refine lv_iload_n hx hb dX0_oneMore_10 rfl (lv_at hl 0 rfl) ?_
    refine lv_aload_n hx hb dX0_oneMore_11 rfl (lv_at hl 1 rfl) ?_
    refine z_get C G clX0 0 rfl 8 (by decide) m_fl_RX0_31 rfl dX0_oneMore_12 ?_
    refine z_alen C G 5 0 rfl (v := nI n4) rfl rfl dX0_oneMore_15 ?_
    refine lv_icmp_ge (tgt := 66) hx hb dX0_oneMore_16 (by decide) (fun c_16 => ?_) (fun c_16 => ?_)
    · have c_16n : n4 ≤ i := (nI_leI (a := n4) (b := i) (by omega) (by omega)).mp c_16
      have hw_17 : bWays T h la md wy pc_ f1 f2 f3 f4 x5 f6 n4 [zO0 h md wy la pc_ a1_8 a2_9 a3_10 a4_11 a5_12 a6_13, zAr T 0 a1_8 7 f1, zAr T 0 a2_9 7 f2, zAr T 0 a3_10 7 f3, zAr T 0 a4_11 n4 f4, zAr T 0 a5_12 n4 x5, zAr T 0 a6_13 n4 f6] := ⟨a1_8, a2_9, a3_10, a4_11, a5_12, a6_13, rfl⟩
      have G : zS T A s.heap s [[zO0 h md wy la pc_ a1_8 a2_9 a3_10 a4_11 a5_12 a6_13, zAr T 0 a1_8 7 f1, zAr T 0 a2_9 7 f2, zAr T 0 a3_10 7 f3, zAr T 0 a4_11 n4 f4, zAr T 0 a5_12 n4 x5, zAr T 0 a6_13 n4 f6]] _ _ := G.re rfl
      exact z_back hQz_ (z_vret C hr hlocks G (Nat.le_of_ble_eq_true rfl) (Nat.le_of_ble_eq_true rfl) dX0_oneMore_66 ⟨([zO0 h md wy la pc_ a1_8 a2_9 a3_10 a4_11 a5_12 a6_13, zAr T 0 a1_8 7 f1, zAr T 0 a2_9 7 f2, zAr T 0 a3_10 7 f3, zAr T 0 a4_11 n4 f4, zAr T 0 a5_12 n4 x5, zAr T 0 a6_13 n4 f6]), x5, f6, rfl, hw_17⟩)
    · have c_16n : ¬ n4 ≤ i := fun q => c_16 ((nI_leI (a := n4) (b := i) (by omega) (by omega)).mpr q)
      refine lv_aload_n hx hb dX0_oneMore_19 rfl (lv_at hl 1 rfl) ?_
      refine z_get C G clX0 0 rfl 8 (by decide) m_fl_RX0_31 rfl dX0_oneMore_20 ?_
      refine lv_iload_n hx hb dX0_oneMore_23 rfl (lv_at hl 0 rfl) ?_
      refine z_ild C G 5 rfl (vp_in_nI (by omega) (by omega)) dX0_oneMore_24 ?_
      refine lv_topi (fun v_18 ev_18 => ?_)
      rw [nI_clamp (by omega)] at ev_18
      subst ev_18
      refine lv_istore_n (lv' := [(2, .int (x5 i)), (1, .int (nI i)), (0, .ref h)]) hx hb dX0_oneMore_25 rfl hl (by decide) (zLvf_h rfl) (fun ls hl => ?_)
      refine lv_iload_n hx hb dX0_oneMore_26 rfl (lv_at hl 0 rfl) ?_
      refine lv_ldc (v := 131071) hx hb C.2.2.2.1 (C.2.2.2.2 _ m_ko_RX0_90) dX0_oneMore_27 ?_
      refine lv_iand hx hb dX0_oneMore_29 ?_
      refine lv_istore_n (lv' := [(3, .int ((x5 i) &&& 131071)), (2, .int (x5 i)), (1, .int (nI i)), (0, .ref h)]) hx hb dX0_oneMore_30 rfl hl (by decide) (zLvf_h rfl) (fun ls hl => ?_)
      refine lv_aload_n hx hb dX0_oneMore_31 rfl (lv_at hl 3 rfl) ?_
      refine z_get C G clX0 0 rfl 8 (by decide) m_fl_RX0_31 rfl dX0_oneMore_32 ?_
      refine lv_iload_n hx hb dX0_oneMore_35 rfl (lv_at hl 2 rfl) ?_
      refine lv_iload_n hx hb dX0_oneMore_36 rfl (lv_at hl 0 rfl) ?_
      refine lv_aload_n hx hb dX0_oneMore_37 rfl (lv_at hl 3 rfl) ?_
      refine z_get C G clX0 0 rfl 7 (by decide) m_fl_RX0_28 rfl dX0_oneMore_38 ?_
      refine z_alen C G 4 0 rfl (v := nI n4) rfl rfl dX0_oneMore_41 ?_
      refine lv_icmp_ge (tgt := 58) hx hb dX0_oneMore_42 (by decide) (fun c_19 => ?_) (fun c_19 => ?_)
      · have c_19n : (n4 : Int) ≤ ((x5 i) &&& 131071).toInt := by have q := (fa_le _ _).mp c_19; rw [nI_toInt (n := n4) (by omega)] at q; exact q
        refine lv_iload_n hx hb dX0_oneMore_58 rfl (lv_at hl 1 rfl) ?_
        refine z_ist C G 5 rfl (vp_in_nI (by omega) (by omega)) dX0_oneMore_59 (fun H locs G => ?_)
        rw [nI_clamp (by omega)] at G
        have G : zS T A s.heap s [[zO0 h md wy la pc_ a1_8 a2_9 a3_10 a4_11 a5_12 a6_13], [zAr T 0 a1_8 7 f1], [zAr T 0 a2_9 7 f2], [zAr T 0 a3_10 7 f3], [zAr T 0 a4_11 n4 f4], [zAr T 0 a5_12 n4 (upd x5 i (x5 i))], [zAr T 0 a6_13 n4 f6]] _ _ := G
        refine lv_iinc (v := nI (i + 1)) (lv' := [(1, .int (nI (i + 1))), (3, .int ((x5 i) &&& 131071)), (2, .int (x5 i)), (0, .ref h)]) hx hb dX0_oneMore_60 hl (k := 2) rfl (z_inc i 1) (by decide) (zLvf_h rfl) (fun ls hl => ?_)
        refine lv_goto (tgt := 2) hx hb dX0_oneMore_63 (by decide) ?_
        have hw_20 : bWays T h la md wy pc_ f1 f2 f3 f4 (upd x5 i (x5 i)) f6 n4 [zO0 h md wy la pc_ a1_8 a2_9 a3_10 a4_11 a5_12 a6_13, zAr T 0 a1_8 7 f1, zAr T 0 a2_9 7 f2, zAr T 0 a3_10 7 f3, zAr T 0 a4_11 n4 f4, zAr T 0 a5_12 n4 (upd x5 i (x5 i)), zAr T 0 a6_13 n4 f6] := ⟨a1_8, a2_9, a3_10, a4_11, a5_12, a6_13, rfl⟩
        have G : zS T A s.heap s [[zO0 h md wy la pc_ a1_8 a2_9 a3_10 a4_11 a5_12 a6_13, zAr T 0 a1_8 7 f1, zAr T 0 a2_9 7 f2, zAr T 0 a3_10 7 f3, zAr T 0 a4_11 n4 f4, zAr T 0 a5_12 n4 (upd x5 i (x5 i)), zAr T 0 a6_13 n4 f6]] _ _ := G.re rfl
        exact ih_2 (i + 1) ([zO0 h md wy la pc_ a1_8 a2_9 a3_10 a4_11 a5_12 a6_13, zAr T 0 a1_8 7 f1, zAr T 0 a2_9 7 f2, zAr T 0 a3_10 7 f3, zAr T 0 a4_11 n4 f4, zAr T 0 a5_12 n4 (upd x5 i (x5 i)), zAr T 0 a6_13 n4 f6]) (upd x5 i (x5 i)) (show bWays T h la md wy pc_ f1 f2 f3 f4 (upd x5 i (x5 i)) f6 n4 ([zO0 h md wy la pc_ a1_8 a2_9 a3_10 a4_11 a5_12 a6_13, zAr T 0 a1_8 7 f1, zAr T 0 a2_9 7 f2, zAr T 0 a3_10 7 f3, zAr T 0 a4_11 n4 f4, zAr T 0 a5_12 n4 (upd x5 i (x5 i)), zAr T 0 a6_13 n4 f6]) ∧ (i + 1) ≤ pc_.toInt.toNat from ⟨hw_20, by omega⟩) (show pc_.toInt.toNat - (i + 1) < pc_.toInt.toNat - i from by omega) _ _ ls G (lv_sub hl [0, 3] rfl)
      · have c_19n : ¬ (n4 : Int) ≤ ((x5 i) &&& 131071).toInt := fun q => c_19 ((fa_le _ _).mpr (by rw [nI_toInt (n := n4) (by omega)]; exact q))
        refine lv_aload_n hx hb dX0_oneMore_45 rfl (lv_at hl 3 rfl) ?_
        refine z_get C G clX0 0 rfl 7 (by decide) m_fl_RX0_28 rfl dX0_oneMore_46 ?_
        refine lv_iload_n hx hb dX0_oneMore_49 rfl (lv_at hl 0 rfl) ?_
        refine z_ild C G 4 rfl (vp_in_iff.mpr ⟨z_andP _, by omega⟩) dX0_oneMore_50 ?_
        refine lv_topi (fun v_21 ev_21 => ?_)
        subst ev_21
        refine lv_iload_n hx hb dX0_oneMore_51 rfl (lv_at hl 1 rfl) ?_
        refine lv_iload_n hx hb dX0_oneMore_52 rfl (lv_at hl 0 rfl) ?_
        refine lv_isub hx hb dX0_oneMore_53 ?_
        refine lv_iadd hx hb dX0_oneMore_54 ?_
        refine lv_goto (tgt := 59) hx hb dX0_oneMore_55 (by decide) ?_
        refine z_ist C G 5 rfl (vp_in_nI (by omega) (by omega)) dX0_oneMore_59 (fun H locs G => ?_)
        rw [nI_clamp (by omega)] at G
        have G : zS T A s.heap s [[zO0 h md wy la pc_ a1_8 a2_9 a3_10 a4_11 a5_12 a6_13], [zAr T 0 a1_8 7 f1], [zAr T 0 a2_9 7 f2], [zAr T 0 a3_10 7 f3], [zAr T 0 a4_11 n4 f4], [zAr T 0 a5_12 n4 (upd x5 i ((f4 ((x5 i) &&& 131071).toNatClampNeg) + ((x5 i) - ((x5 i) &&& 131071))))], [zAr T 0 a6_13 n4 f6]] _ _ := G
        refine lv_iinc (v := nI (i + 1)) (lv' := [(1, .int (nI (i + 1))), (3, .int ((x5 i) &&& 131071)), (2, .int (x5 i)), (0, .ref h)]) hx hb dX0_oneMore_60 hl (k := 2) rfl (z_inc i 1) (by decide) (zLvf_h rfl) (fun ls hl => ?_)
        refine lv_goto (tgt := 2) hx hb dX0_oneMore_63 (by decide) ?_
        have hw_22 : bWays T h la md wy pc_ f1 f2 f3 f4 (upd x5 i ((f4 ((x5 i) &&& 131071).toNatClampNeg) + ((x5 i) - ((x5 i) &&& 131071)))) f6 n4 [zO0 h md wy la pc_ a1_8 a2_9 a3_10 a4_11 a5_12 a6_13, zAr T 0 a1_8 7 f1, zAr T 0 a2_9 7 f2, zAr T 0 a3_10 7 f3, zAr T 0 a4_11 n4 f4, zAr T 0 a5_12 n4 (upd x5 i ((f4 ((x5 i) &&& 131071).toNatClampNeg) + ((x5 i) - ((x5 i) &&& 131071)))), zAr T 0 a6_13 n4 f6] := ⟨a1_8, a2_9, a3_10, a4_11, a5_12, a6_13, rfl⟩
        have G : zS T A s.heap s [[zO0 h md wy la pc_ a1_8 a2_9 a3_10 a4_11 a5_12 a6_13, zAr T 0 a1_8 7 f1, zAr T 0 a2_9 7 f2, zAr T 0 a3_10 7 f3, zAr T 0 a4_11 n4 f4, zAr T 0 a5_12 n4 (upd x5 i ((f4 ((x5 i) &&& 131071).toNatClampNeg) + ((x5 i) - ((x5 i) &&& 131071)))), zAr T 0 a6_13 n4 f6]] _ _ := G.re rfl
        exact ih_2 (i + 1) ([zO0 h md wy la pc_ a1_8 a2_9 a3_10 a4_11 a5_12 a6_13, zAr T 0 a1_8 7 f1, zAr T 0 a2_9 7 f2, zAr T 0 a3_10 7 f3, zAr T 0 a4_11 n4 f4, zAr T 0 a5_12 n4 (upd x5 i ((f4 ((x5 i) &&& 131071).toNatClampNeg) + ((x5 i) - ((x5 i) &&& 131071)))), zAr T 0 a6_13 n4 f6]) (upd x5 i ((f4 ((x5 i) &&& 131071).toNatClampNeg) + ((x5 i) - ((x5 i) &&& 131071)))) (show bWays T h la md wy pc_ f1 f2 f3 f4 (upd x5 i ((f4 ((x5 i) &&& 131071).toNatClampNeg) + ((x5 i) - ((x5 i) &&& 131071)))) f6 n4 ([zO0 h md wy la pc_ a1_8 a2_9 a3_10 a4_11 a5_12 a6_13, zAr T 0 a1_8 7 f1, zAr T 0 a2_9 7 f2, zAr T 0 a3_10 7 f3, zAr T 0 a4_11 n4 f4, zAr T 0 a5_12 n4 (upd x5 i ((f4 ((x5 i) &&& 131071).toNatClampNeg) + ((x5 i) - ((x5 i) &&& 131071)))), zAr T 0 a6_13 n4 f6]) ∧ (i + 1) ≤ pc_.toInt.toNat from ⟨hw_22, by omega⟩) (show pc_.toInt.toNat - (i + 1) < pc_.toInt.toNat - i from by omega) _ _ ls G (lv_sub hl [0, 3] rfl)
set_option maxHeartbeats 4000000 in
set_option maxRecDepth 100000 in
/-- doubleAll -/
theorem c_doubleAll (l : Launch) (T : zTy) (h : Nat) (la : Nat) (md : Int32) (wy : Int32) (pc_ : Int32) (f1 : Nat → Int32) (f2 : Nat → Int32) (f3 : Nat → Int32) (f4 : Nat → Int32) (f5 : Nat → Int32) (f6 : Nat → Int32) (n4 : Nat) (ww : va_W) (hww : bWays T h la md wy pc_ f1 f2 f3 f4 f5 f6 n4 ww) (hn : n4 ≤ 131072) (hpl : pc_.toInt ≤ 131072) : zMv l T yX0_doubleAll cX0_doubleAll 6 1 0 0 [.ref h] [ww] (fun bs => ∃ (w2 : va_W) (g5 : Nat → Int32) (g6 : Nat → Int32), bs = [w2] ∧ bWays T h la md wy pc_ f1 f2 f3 f4 g5 g6 n4 w2) := by
  refine zMv_of (own := RX0) (by decide) rfl (Nat.le_of_ble_eq_true rfl) ?_
  intro p e s m args below meth c A ls C hr hlocks hnm hAe G hl
  refine zHide (fun Qz_ hQz_ => ?_)
  have hx := C.1
  have hb := C.2.1
  have hl : lv_has ls 6 [(0, .ref h)] := hl
  refine lv_aload_n hx hb dX0_doubleAll_0 rfl (lv_at hl 0 rfl) ?_
  refine zEx6 hww ?_
  intro a1_1 a2_2 a3_3 a4_4 a5_5 a6_6 hbs9
  clear hww
  subst hbs9
  have G : zS T A s.heap s [[zO0 h md wy la pc_ a1_1 a2_2 a3_3 a4_4 a5_5 a6_6], [zAr T 0 a1_1 7 f1], [zAr T 0 a2_2 7 f2], [zAr T 0 a3_3 7 f3], [zAr T 0 a4_4 n4 f4], [zAr T 0 a5_5 n4 f5], [zAr T 0 a6_6 n4 f6]] _ _ := G.re rfl
  refine z_get C G clX0 0 rfl 8 (by decide) m_fl_RX0_31 rfl dX0_doubleAll_1 ?_
  refine lv_astore_n (lv' := [(1, .ref a5_5), (0, .ref h)]) hx hb dX0_doubleAll_4 rfl hl (by decide) (zLvf_h rfl) (fun ls hl => ?_)
  refine lv_aload_n hx hb dX0_doubleAll_5 rfl (lv_at hl 1 rfl) ?_
  refine z_get C G clX0 0 rfl 9 (by decide) m_fl_RX0_34 rfl dX0_doubleAll_6 ?_
  refine lv_astore_n (lv' := [(2, .ref a6_6), (1, .ref a5_5), (0, .ref h)]) hx hb dX0_doubleAll_9 rfl hl (by decide) (zLvf_h rfl) (fun ls hl => ?_)
  refine lv_iconst (v := 0) hx hb dX0_doubleAll_10 (by decide) ?_
  refine lv_istore_n (lv' := [(3, .int 0), (2, .ref a6_6), (1, .ref a5_5), (0, .ref h)]) hx hb dX0_doubleAll_11 rfl hl (by decide) (zLvf_h rfl) (fun ls hl => ?_)
  refine z_lp2 (T := T) 12 (fun (i : Nat) (x6 : Nat → Int32) => [[zO0 h md wy la pc_ a1_1 a2_2 a3_3 a4_4 a5_5 a6_6], [zAr T 0 a1_1 7 f1], [zAr T 0 a2_2 7 f2], [zAr T 0 a3_3 7 f3], [zAr T 0 a4_4 n4 f4], [zAr T 0 a5_5 n4 f5], [zAr T 0 a6_6 n4 x6]]) (fun (i : Nat) (x6 : Nat → Int32) => [(3, .int (nI i)), (2, .ref a6_6), (1, .ref a5_5), (0, .ref h)]) (fun (i : Nat) (x6 : Nat → Int32) => i ≤ pc_.toInt.toNat) (fun (i : Nat) (x6 : Nat → Int32) => pc_.toInt.toNat - i) ?_ 0 f6 (show 0 ≤ pc_.toInt.toNat from by omega) G (lv_sub hl [0, 1, 2, 3] rfl)
  intro i x6 hi ih_12 H locs ls G hl
  replace hi : i ≤ pc_.toInt.toNat := hi
  replace G : zS T A s.heap s [[zO0 h md wy la pc_ a1_1 a2_2 a3_3 a4_4 a5_5 a6_6], [zAr T 0 a1_1 7 f1], [zAr T 0 a2_2 7 f2], [zAr T 0 a3_3 7 f3], [zAr T 0 a4_4 n4 f4], [zAr T 0 a5_5 n4 f5], [zAr T 0 a6_6 n4 x6]] _ _ := G
  replace hl : lv_has ls 6 [(3, .int (nI i)), (2, .ref a6_6), (1, .ref a5_5), (0, .ref h)] := hl
  refine lv_iload_n hx hb dX0_doubleAll_12 rfl (lv_at hl 0 rfl) ?_
  refine lv_aload_n hx hb dX0_doubleAll_13 rfl (lv_at hl 3 rfl) ?_
  refine z_get C G clX0 0 rfl 3 (by decide) m_fl_RX0_75 rfl dX0_doubleAll_14 ?_
  refine lv_icmp_ge (tgt := 75) hx hb dX0_doubleAll_17 (by decide) (fun c_7 => ?_) (fun c_7 => ?_)
  · have c_7n : pc_.toInt ≤ (i : Int) := by have q := (fa_le _ _).mp c_7; rw [nI_toInt (n := i) (by omega)] at q; exact q
    refine lv_aload_n hx hb dX0_doubleAll_75 rfl (lv_at hl 3 rfl) ?_
    refine lv_aload_n hx hb dX0_doubleAll_76 rfl (lv_at hl 1 rfl) ?_
    refine z_put C G clX0 0 rfl 8 (by decide) m_fl_RX0_31 rfl rfl rfl (Nat.le_of_ble_eq_true rfl) dX0_doubleAll_77 (fun H locs G => ?_)
    have G : zS T A s.heap s [[zO0 h md wy la pc_ a1_1 a2_2 a3_3 a4_4 a6_6 a6_6], [zAr T 0 a1_1 7 f1], [zAr T 0 a2_2 7 f2], [zAr T 0 a3_3 7 f3], [zAr T 0 a4_4 n4 f4], [zAr T 0 a5_5 n4 f5], [zAr T 0 a6_6 n4 x6]] _ _ := G
    refine lv_aload_n hx hb dX0_doubleAll_80 rfl (lv_at hl 3 rfl) ?_
    refine lv_aload_n hx hb dX0_doubleAll_81 rfl (lv_at hl 2 rfl) ?_
    refine z_put C G clX0 0 rfl 9 (by decide) m_fl_RX0_34 rfl rfl rfl (Nat.le_of_ble_eq_true rfl) dX0_doubleAll_82 (fun H locs G => ?_)
    have G : zS T A s.heap s [[zO0 h md wy la pc_ a1_1 a2_2 a3_3 a4_4 a6_6 a5_5], [zAr T 0 a1_1 7 f1], [zAr T 0 a2_2 7 f2], [zAr T 0 a3_3 7 f3], [zAr T 0 a4_4 n4 f4], [zAr T 0 a5_5 n4 f5], [zAr T 0 a6_6 n4 x6]] _ _ := G
    have G := G.sub (bs' := [[zO0 h md wy la pc_ a1_1 a2_2 a3_3 a4_4 a6_6 a5_5], [zAr T 0 a1_1 7 f1], [zAr T 0 a2_2 7 f2], [zAr T 0 a3_3 7 f3], [zAr T 0 a4_4 n4 f4], [zAr T 0 a6_6 n4 x6], [zAr T 0 a5_5 n4 f5]]) [0, 1, 2, 3, 4, 6, 5] rfl
    have hw_8 : bWays T h la md wy pc_ f1 f2 f3 f4 x6 f5 n4 [zO0 h md wy la pc_ a1_1 a2_2 a3_3 a4_4 a6_6 a5_5, zAr T 0 a1_1 7 f1, zAr T 0 a2_2 7 f2, zAr T 0 a3_3 7 f3, zAr T 0 a4_4 n4 f4, zAr T 0 a6_6 n4 x6, zAr T 0 a5_5 n4 f5] := ⟨a1_1, a2_2, a3_3, a4_4, a6_6, a5_5, rfl⟩
    have G : zS T A s.heap s [[zO0 h md wy la pc_ a1_1 a2_2 a3_3 a4_4 a6_6 a5_5, zAr T 0 a1_1 7 f1, zAr T 0 a2_2 7 f2, zAr T 0 a3_3 7 f3, zAr T 0 a4_4 n4 f4, zAr T 0 a6_6 n4 x6, zAr T 0 a5_5 n4 f5]] _ _ := G.re rfl
    exact z_back hQz_ (z_vret C hr hlocks G (Nat.le_of_ble_eq_true rfl) (Nat.le_of_ble_eq_true rfl) dX0_doubleAll_85 ⟨([zO0 h md wy la pc_ a1_1 a2_2 a3_3 a4_4 a6_6 a5_5, zAr T 0 a1_1 7 f1, zAr T 0 a2_2 7 f2, zAr T 0 a3_3 7 f3, zAr T 0 a4_4 n4 f4, zAr T 0 a6_6 n4 x6, zAr T 0 a5_5 n4 f5]), x6, f5, rfl, hw_8⟩)
  · have c_7n : ¬ pc_.toInt ≤ (i : Int) := fun q => c_7 ((fa_le _ _).mpr (by rw [nI_toInt (n := i) (by omega)]; exact q))
    refine lv_iload_n hx hb dX0_doubleAll_20 rfl (lv_at hl 0 rfl) ?_
    refine lv_aload_n hx hb dX0_doubleAll_21 rfl (lv_at hl 2 rfl) ?_
    refine z_alen C G 5 0 rfl (v := nI n4) rfl rfl dX0_doubleAll_22 ?_
    refine lv_icmp_ge (tgt := 75) hx hb dX0_doubleAll_23 (by decide) (fun c_9 => ?_) (fun c_9 => ?_)
    · have c_9n : n4 ≤ i := (nI_leI (a := n4) (b := i) (by omega) (by omega)).mp c_9
      refine lv_aload_n hx hb dX0_doubleAll_75 rfl (lv_at hl 3 rfl) ?_
      refine lv_aload_n hx hb dX0_doubleAll_76 rfl (lv_at hl 1 rfl) ?_
      refine z_put C G clX0 0 rfl 8 (by decide) m_fl_RX0_31 rfl rfl rfl (Nat.le_of_ble_eq_true rfl) dX0_doubleAll_77 (fun H locs G => ?_)
      have G : zS T A s.heap s [[zO0 h md wy la pc_ a1_1 a2_2 a3_3 a4_4 a6_6 a6_6], [zAr T 0 a1_1 7 f1], [zAr T 0 a2_2 7 f2], [zAr T 0 a3_3 7 f3], [zAr T 0 a4_4 n4 f4], [zAr T 0 a5_5 n4 f5], [zAr T 0 a6_6 n4 x6]] _ _ := G
      refine lv_aload_n hx hb dX0_doubleAll_80 rfl (lv_at hl 3 rfl) ?_
      refine lv_aload_n hx hb dX0_doubleAll_81 rfl (lv_at hl 2 rfl) ?_
      refine z_put C G clX0 0 rfl 9 (by decide) m_fl_RX0_34 rfl rfl rfl (Nat.le_of_ble_eq_true rfl) dX0_doubleAll_82 (fun H locs G => ?_)
      have G : zS T A s.heap s [[zO0 h md wy la pc_ a1_1 a2_2 a3_3 a4_4 a6_6 a5_5], [zAr T 0 a1_1 7 f1], [zAr T 0 a2_2 7 f2], [zAr T 0 a3_3 7 f3], [zAr T 0 a4_4 n4 f4], [zAr T 0 a5_5 n4 f5], [zAr T 0 a6_6 n4 x6]] _ _ := G
      have G := G.sub (bs' := [[zO0 h md wy la pc_ a1_1 a2_2 a3_3 a4_4 a6_6 a5_5], [zAr T 0 a1_1 7 f1], [zAr T 0 a2_2 7 f2], [zAr T 0 a3_3 7 f3], [zAr T 0 a4_4 n4 f4], [zAr T 0 a6_6 n4 x6], [zAr T 0 a5_5 n4 f5]]) [0, 1, 2, 3, 4, 6, 5] rfl
      have hw_10 : bWays T h la md wy pc_ f1 f2 f3 f4 x6 f5 n4 [zO0 h md wy la pc_ a1_1 a2_2 a3_3 a4_4 a6_6 a5_5, zAr T 0 a1_1 7 f1, zAr T 0 a2_2 7 f2, zAr T 0 a3_3 7 f3, zAr T 0 a4_4 n4 f4, zAr T 0 a6_6 n4 x6, zAr T 0 a5_5 n4 f5] := ⟨a1_1, a2_2, a3_3, a4_4, a6_6, a5_5, rfl⟩
      have G : zS T A s.heap s [[zO0 h md wy la pc_ a1_1 a2_2 a3_3 a4_4 a6_6 a5_5, zAr T 0 a1_1 7 f1, zAr T 0 a2_2 7 f2, zAr T 0 a3_3 7 f3, zAr T 0 a4_4 n4 f4, zAr T 0 a6_6 n4 x6, zAr T 0 a5_5 n4 f5]] _ _ := G.re rfl
      exact z_back hQz_ (z_vret C hr hlocks G (Nat.le_of_ble_eq_true rfl) (Nat.le_of_ble_eq_true rfl) dX0_doubleAll_85 ⟨([zO0 h md wy la pc_ a1_1 a2_2 a3_3 a4_4 a6_6 a5_5, zAr T 0 a1_1 7 f1, zAr T 0 a2_2 7 f2, zAr T 0 a3_3 7 f3, zAr T 0 a4_4 n4 f4, zAr T 0 a6_6 n4 x6, zAr T 0 a5_5 n4 f5]), x6, f5, rfl, hw_10⟩)
    · have c_9n : ¬ n4 ≤ i := fun q => c_9 ((nI_leI (a := n4) (b := i) (by omega) (by omega)).mpr q)
      refine lv_iload_n hx hb dX0_doubleAll_26 rfl (lv_at hl 0 rfl) ?_
      refine lv_aload_n hx hb dX0_doubleAll_27 rfl (lv_at hl 1 rfl) ?_
      refine z_alen C G 6 0 rfl (v := nI n4) rfl rfl dX0_doubleAll_28 ?_
      refine lv_icmp_ge (tgt := 75) hx hb dX0_doubleAll_29 (by decide) (fun q => absurd q c_9) (fun _ => ?_)
      refine lv_aload_n hx hb dX0_doubleAll_32 rfl (lv_at hl 2 rfl) ?_
      refine lv_iload_n hx hb dX0_doubleAll_33 rfl (lv_at hl 0 rfl) ?_
      refine z_ild C G 5 rfl (vp_in_nI (by omega) (by omega)) dX0_doubleAll_34 ?_
      refine lv_topi (fun v_11 ev_11 => ?_)
      rw [nI_clamp (by omega)] at ev_11
      subst ev_11
      refine lv_istore (lv' := [(4, .int (f5 i)), (3, .int (nI i)), (2, .ref a6_6), (1, .ref a5_5), (0, .ref h)]) hx hb dX0_doubleAll_35 hl (by decide) (zLvf_h rfl) (fun ls hl => ?_)
      refine lv_iload hx hb dX0_doubleAll_37 (lv_at hl 0 rfl) ?_
      refine lv_ldc (v := 131071) hx hb C.2.2.2.1 (C.2.2.2.2 _ m_ko_RX0_90) dX0_doubleAll_39 ?_
      refine lv_iand hx hb dX0_doubleAll_41 ?_
      refine lv_istore (lv' := [(5, .int ((f5 i) &&& 131071)), (4, .int (f5 i)), (3, .int (nI i)), (2, .ref a6_6), (1, .ref a5_5), (0, .ref h)]) hx hb dX0_doubleAll_42 hl (by decide) (zLvf_h rfl) (fun ls hl => ?_)
      refine lv_aload_n hx hb dX0_doubleAll_44 rfl (lv_at hl 3 rfl) ?_
      refine lv_iload_n hx hb dX0_doubleAll_45 rfl (lv_at hl 2 rfl) ?_
      refine lv_iload hx hb dX0_doubleAll_46 (lv_at hl 0 rfl) ?_
      refine lv_aload_n hx hb dX0_doubleAll_48 rfl (lv_at hl 4 rfl) ?_
      refine z_alen C G 5 0 rfl (v := nI n4) rfl rfl dX0_doubleAll_49 ?_
      refine lv_icmp_ge (tgt := 66) hx hb dX0_doubleAll_50 (by decide) (fun c_12 => ?_) (fun c_12 => ?_)
      · have c_12n : (n4 : Int) ≤ ((f5 i) &&& 131071).toInt := by have q := (fa_le _ _).mp c_12; rw [nI_toInt (n := n4) (by omega)] at q; exact q
        refine lv_iload hx hb dX0_doubleAll_66 (lv_at hl 1 rfl) ?_
        refine z_ist C G 6 rfl (vp_in_nI (by omega) (by omega)) dX0_doubleAll_68 (fun H locs G => ?_)
        rw [nI_clamp (by omega)] at G
        have G : zS T A s.heap s [[zO0 h md wy la pc_ a1_1 a2_2 a3_3 a4_4 a5_5 a6_6], [zAr T 0 a1_1 7 f1], [zAr T 0 a2_2 7 f2], [zAr T 0 a3_3 7 f3], [zAr T 0 a4_4 n4 f4], [zAr T 0 a5_5 n4 f5], [zAr T 0 a6_6 n4 (upd x6 i (f5 i))]] _ _ := G
        refine lv_iinc (v := nI (i + 1)) (lv' := [(3, .int (nI (i + 1))), (5, .int ((f5 i) &&& 131071)), (4, .int (f5 i)), (2, .ref a6_6), (1, .ref a5_5), (0, .ref h)]) hx hb dX0_doubleAll_69 hl (k := 2) rfl (z_inc i 1) (by decide) (zLvf_h rfl) (fun ls hl => ?_)
        refine lv_goto (tgt := 12) hx hb dX0_doubleAll_72 (by decide) ?_
        exact ih_12 (i + 1) (upd x6 i (f5 i)) (show (i + 1) ≤ pc_.toInt.toNat from by omega) (show pc_.toInt.toNat - (i + 1) < pc_.toInt.toNat - i from by omega) _ _ ls G (lv_sub hl [0, 3, 4, 5] rfl)
      · have c_12n : ¬ (n4 : Int) ≤ ((f5 i) &&& 131071).toInt := fun q => c_12 ((fa_le _ _).mpr (by rw [nI_toInt (n := n4) (by omega)]; exact q))
        refine lv_aload_n hx hb dX0_doubleAll_53 rfl (lv_at hl 4 rfl) ?_
        refine lv_iload hx hb dX0_doubleAll_54 (lv_at hl 0 rfl) ?_
        refine z_ild C G 5 rfl (vp_in_iff.mpr ⟨z_andP _, by omega⟩) dX0_doubleAll_56 ?_
        refine lv_topi (fun v_13 ev_13 => ?_)
        subst ev_13
        refine lv_iload hx hb dX0_doubleAll_57 (lv_at hl 1 rfl) ?_
        refine lv_iload hx hb dX0_doubleAll_59 (lv_at hl 0 rfl) ?_
        refine lv_isub hx hb dX0_doubleAll_61 ?_
        refine lv_iadd hx hb dX0_doubleAll_62 ?_
        refine lv_goto (tgt := 68) hx hb dX0_doubleAll_63 (by decide) ?_
        refine z_ist C G 6 rfl (vp_in_nI (by omega) (by omega)) dX0_doubleAll_68 (fun H locs G => ?_)
        rw [nI_clamp (by omega)] at G
        have G : zS T A s.heap s [[zO0 h md wy la pc_ a1_1 a2_2 a3_3 a4_4 a5_5 a6_6], [zAr T 0 a1_1 7 f1], [zAr T 0 a2_2 7 f2], [zAr T 0 a3_3 7 f3], [zAr T 0 a4_4 n4 f4], [zAr T 0 a5_5 n4 f5], [zAr T 0 a6_6 n4 (upd x6 i ((f5 ((f5 i) &&& 131071).toNatClampNeg) + ((f5 i) - ((f5 i) &&& 131071))))]] _ _ := G
        refine lv_iinc (v := nI (i + 1)) (lv' := [(3, .int (nI (i + 1))), (5, .int ((f5 i) &&& 131071)), (4, .int (f5 i)), (2, .ref a6_6), (1, .ref a5_5), (0, .ref h)]) hx hb dX0_doubleAll_69 hl (k := 2) rfl (z_inc i 1) (by decide) (zLvf_h rfl) (fun ls hl => ?_)
        refine lv_goto (tgt := 12) hx hb dX0_doubleAll_72 (by decide) ?_
        exact ih_12 (i + 1) (upd x6 i ((f5 ((f5 i) &&& 131071).toNatClampNeg) + ((f5 i) - ((f5 i) &&& 131071)))) (show (i + 1) ≤ pc_.toInt.toNat from by omega) (show pc_.toInt.toNat - (i + 1) < pc_.toInt.toNat - i from by omega) _ _ ls G (lv_sub hl [0, 3, 4, 5] rfl)
theorem m_fl_RX0_37 : Cond.fieldLink RX0 37 (TX0 0).1 (TX0 0).2.1 (TX0 0).2.2.1 ∈ zT := zmem1 zsub_2 105 rfl rfl
theorem m_co_X0_grow : Cond.code yX0_grow cX0_grow 2 none ∈ zT := zmem1 zsub_4 226 rfl rfl
theorem m_ml_RX0_45 : Cond.methodLink RX0 45 yX0_grow ∈ zT := zmem1 zsub_4 223 rfl rfl
theorem m_im_X0_grow : Cond.instanceMethod yX0_grow ∈ zT := zmem1 zsub_4 225 rfl rfl
theorem m_se_X0_grow : Cond.selects RX0 yX0_grow yX0_grow ∈ zT := zmem 33 rfl rfl
theorem m_co_X0_stepOnce : Cond.code yX0_stepOnce cX0_stepOnce 5 none ∈ zT := zmem1 zsub_4 230 rfl rfl
theorem m_ml_RX0_48 : Cond.methodLink RX0 48 yX0_stepOnce ∈ zT := zmem1 zsub_4 227 rfl rfl
theorem m_im_X0_stepOnce : Cond.instanceMethod yX0_stepOnce ∈ zT := zmem1 zsub_4 229 rfl rfl
theorem m_se_X0_stepOnce : Cond.selects RX0 yX0_stepOnce yX0_stepOnce ∈ zT := zmem 34 rfl rfl
theorem m_co_X0_doubleAll : Cond.code yX0_doubleAll cX0_doubleAll 6 none ∈ zT := zmem1 zsub_5 6 rfl rfl
theorem m_ml_RX0_51 : Cond.methodLink RX0 51 yX0_doubleAll ∈ zT := zmem1 zsub_5 3 rfl rfl
theorem m_im_X0_doubleAll : Cond.instanceMethod yX0_doubleAll ∈ zT := zmem1 zsub_5 5 rfl rfl
theorem m_se_X0_doubleAll : Cond.selects RX0 yX0_doubleAll yX0_doubleAll ∈ zT := zmem 35 rfl rfl
theorem m_co_X0_oneMore : Cond.code yX0_oneMore cX0_oneMore 4 none ∈ zT := zmem1 zsub_5 11 rfl rfl
theorem m_ml_RX0_54 : Cond.methodLink RX0 54 yX0_oneMore ∈ zT := zmem1 zsub_5 8 rfl rfl
theorem m_im_X0_oneMore : Cond.instanceMethod yX0_oneMore ∈ zT := zmem1 zsub_5 10 rfl rfl
theorem m_se_X0_oneMore : Cond.selects RX0 yX0_oneMore yX0_oneMore ∈ zT := zmem 36 rfl rfl
theorem m_fl_RX3_34 : Cond.fieldLink RX3 34 (TX3 3).1 (TX3 3).2.1 (TX3 3).2.2.1 ∈ zT := zmem1 zsub_2 151 rfl rfl
theorem m_co_X3_way : Cond.code yX3_way cX3_way 2 (some .int) ∈ zT := zmem1 zsub_5 151 rfl rfl
theorem m_ml_RX3_92 : Cond.methodLink RX3 92 yX3_way ∈ zT := zmem1 zsub_5 148 rfl rfl
theorem m_im_X3_way : Cond.instanceMethod yX3_way ∈ zT := zmem1 zsub_5 149 rfl rfl
theorem m_se_X3_way : Cond.selects RX3 yX3_way yX3_way ∈ zT := zmem1 zsub_5 150 rfl rfl
theorem m_ii_RX3 : Cond.initialized RX3 ∈ zT := zmem1 zsub_1 11 rfl rfl
theorem m_ml_RX3_96 : Cond.methodLink RX3 96 yX0_road ∈ zT := zmem1 zsub_5 152 rfl rfl
theorem m_fl_RX3_55 : Cond.fieldLink RX3 55 (TX0 2).1 (TX0 2).2.1 (TX0 2).2.2.1 ∈ zT := zmem1 zsub_2 111 rfl rfl
theorem m_ml_RX3_58 : Cond.methodLink RX3 58 yX4_has ∈ zT := zmem1 zsub_5 126 rfl rfl
theorem m_co_X3_pointing : Cond.code yX3_pointing cX3_pointing 6 (some .int) ∈ zT := zmem1 zsub_5 156 rfl rfl
theorem m_ml_RX3_99 : Cond.methodLink RX3 99 yX3_pointing ∈ zT := zmem1 zsub_5 153 rfl rfl
theorem m_im_X3_pointing : Cond.instanceMethod yX3_pointing ∈ zT := zmem1 zsub_5 154 rfl rfl
theorem m_se_X3_pointing : Cond.selects RX3 yX3_pointing yX3_pointing ∈ zT := zmem1 zsub_5 155 rfl rfl
theorem m_ml_RX3_86 : Cond.methodLink RX3 86 yX0_where ∈ zT := zmem1 zsub_5 130 rfl rfl
theorem m_ml_RX3_89 : Cond.methodLink RX3 89 yX4_isInn ∈ zT := zmem1 zsub_5 131 rfl rfl
theorem m_ml_RX3_83 : Cond.methodLink RX3 83 Lib.Math.max.name ∈ zT := zmem1 zsub_5 135 rfl rfl
theorem m_fl_RX3_103 : Cond.fieldLink RX3 103 (TX4 0).1 (TX4 0).2.1 (TX4 0).2.2.1 ∈ zT := zmem1 zsub_1 46 rfl rfl
theorem m_co_X3_mostTogether : Cond.code yX3_mostTogether cX3_mostTogether 6 (some .int) ∈ zT := zmem1 zsub_5 143 rfl rfl
theorem m_ml_RX3_106 : Cond.methodLink RX3 106 yX3_mostTogether ∈ zT := zmem1 zsub_5 140 rfl rfl
theorem m_im_X3_mostTogether : Cond.instanceMethod yX3_mostTogether ∈ zT := zmem1 zsub_5 142 rfl rfl
theorem m_se_X3_mostTogether : Cond.selects RX3 yX3_mostTogether yX3_mostTogether ∈ zT := zmem 44 rfl rfl
theorem m_fl_RX3_47 : Cond.fieldLink RX3 47 (TX5 0).1 (TX5 0).2.1 (TX5 0).2.2.1 ∈ zT := zmem1 zsub_1 116 rfl rfl
theorem m_fl_RX3_37 : Cond.fieldLink RX3 37 (TX3 4).1 (TX3 4).2.1 (TX3 4).2.2.1 ∈ zT := zmem1 zsub_2 153 rfl rfl
theorem m_ml_RX3_78 : Cond.methodLink RX3 78 Lib.Math.min.name ∈ zT := zmem1 zsub_5 134 rfl rfl
theorem m_fl_RX3_40 : Cond.fieldLink RX3 40 (TX3 5).1 (TX3 5).2.1 (TX3 5).2.2.1 ∈ zT := zmem1 zsub_2 155 rfl rfl
theorem m_fl_RX3_52 : Cond.fieldLink RX3 52 (TX5 1).1 (TX5 1).2.1 (TX5 1).2.2.1 ∈ zT := zmem1 zsub_1 118 rfl rfl
theorem m_fl_RX3_64 : Cond.fieldLink RX3 64 (TX5 2).1 (TX5 2).2.1 (TX5 2).2.2.1 ∈ zT := zmem1 zsub_1 120 rfl rfl
theorem m_co_X3_isSo : Cond.code yX3_isSo cX3_isSo 5 (some .boolean) ∈ zT := zmem1 zsub_5 129 rfl rfl
theorem m_ml_RX3_67 : Cond.methodLink RX3 67 yX3_isSo ∈ zT := zmem1 zsub_5 127 rfl rfl
theorem m_st_X3_isSo : Cond.static yX3_isSo ∈ zT := zmem1 zsub_5 128 rfl rfl
theorem m_ml_RX3_71 : Cond.methodLink RX3 71 yX0_steps ∈ zT := zmem1 zsub_5 132 rfl rfl
theorem m_co_X0_wayAfter : Cond.code yX0_wayAfter cX0_wayAfter 3 (some .int) ∈ zT := zmem1 zsub_5 89 rfl rfl
theorem m_ml_RX3_75 : Cond.methodLink RX3 75 yX0_wayAfter ∈ zT := zmem1 zsub_5 133 rfl rfl
theorem m_im_X0_wayAfter : Cond.instanceMethod yX0_wayAfter ∈ zT := zmem1 zsub_5 87 rfl rfl
theorem m_se_X0_wayAfter : Cond.selects RX0 yX0_wayAfter yX0_wayAfter ∈ zT := zmem1 zsub_5 88 rfl rfl
theorem m_fl_RX3_25 : Cond.fieldLink RX3 25 (TX0 1).1 (TX0 1).2.1 (TX0 1).2.2.1 ∈ zT := zmem1 zsub_2 107 rfl rfl
theorem m_co_X3_grow : Cond.code yX3_grow cX3_grow 3 none ∈ zT := zmem1 zsub_5 121 rfl rfl
theorem m_ml_RX3_30 : Cond.methodLink RX3 30 yX3_grow ∈ zT := zmem1 zsub_5 118 rfl rfl
theorem m_im_X3_grow : Cond.instanceMethod yX3_grow ∈ zT := zmem1 zsub_5 120 rfl rfl
theorem m_se_X3_grow : Cond.selects RX3 yX3_grow yX3_grow ∈ zT := zmem 42 rfl rfl
theorem m_co_X3_tryWay : Cond.code yX3_tryWay cX3_tryWay 8 none ∈ zT := zmem1 zsub_5 125 rfl rfl
theorem m_ml_RX3_43 : Cond.methodLink RX3 43 yX3_tryWay ∈ zT := zmem1 zsub_5 122 rfl rfl
theorem m_im_X3_tryWay : Cond.instanceMethod yX3_tryWay ∈ zT := zmem1 zsub_5 124 rfl rfl
theorem m_se_X3_tryWay : Cond.selects RX3 yX3_tryWay yX3_tryWay ∈ zT := zmem 43 rfl rfl
theorem kV_RX0_45 {R : Room} {s : State} {args : Array Value} {d mc ms : Nat} (hts : ∀ w ∈ zT, w.before args s = true) (h1 : d + 1 ≤ R.frames) (h2 : 8 + (2 + 11) + 40 * d ≤ R.locals) : CallW R s args RX0 RX0 45 yX0_grow cX0_grow 2 none (zW yX0_grow cX0_grow 2 none) (zR d mc ms) mc ms 0 := z_cwV hts m_co_X0_grow m_ml_RX0_45 m_im_X0_grow m_se_X0_grow m_ii_RX0 (by decide +kernel) h1 h2
theorem kV_RX0_48 {R : Room} {s : State} {args : Array Value} {d mc ms : Nat} (hts : ∀ w ∈ zT, w.before args s = true) (h1 : d + 1 ≤ R.frames) (h2 : 8 + (5 + 11) + 40 * d ≤ R.locals) : CallW R s args RX0 RX0 48 yX0_stepOnce cX0_stepOnce 5 none (zW yX0_stepOnce cX0_stepOnce 5 none) (zR d mc ms) mc ms 0 := z_cwV hts m_co_X0_stepOnce m_ml_RX0_48 m_im_X0_stepOnce m_se_X0_stepOnce m_ii_RX0 (by decide +kernel) h1 h2
theorem kV_RX0_51 {R : Room} {s : State} {args : Array Value} {d mc ms : Nat} (hts : ∀ w ∈ zT, w.before args s = true) (h1 : d + 1 ≤ R.frames) (h2 : 8 + (6 + 11) + 40 * d ≤ R.locals) : CallW R s args RX0 RX0 51 yX0_doubleAll cX0_doubleAll 6 none (zW yX0_doubleAll cX0_doubleAll 6 none) (zR d mc ms) mc ms 0 := z_cwV hts m_co_X0_doubleAll m_ml_RX0_51 m_im_X0_doubleAll m_se_X0_doubleAll m_ii_RX0 (by decide +kernel) h1 h2
theorem kV_RX0_54 {R : Room} {s : State} {args : Array Value} {d mc ms : Nat} (hts : ∀ w ∈ zT, w.before args s = true) (h1 : d + 1 ≤ R.frames) (h2 : 8 + (4 + 11) + 40 * d ≤ R.locals) : CallW R s args RX0 RX0 54 yX0_oneMore cX0_oneMore 4 none (zW yX0_oneMore cX0_oneMore 4 none) (zR d mc ms) mc ms 0 := z_cwV hts m_co_X0_oneMore m_ml_RX0_54 m_im_X0_oneMore m_se_X0_oneMore m_ii_RX0 (by decide +kernel) h1 h2
theorem kV_RX3_92 {R : Room} {s : State} {args : Array Value} {d mc ms : Nat} (hts : ∀ w ∈ zT, w.before args s = true) (h1 : d + 1 ≤ R.frames) (h2 : 8 + (2 + 11) + 40 * d ≤ R.locals) : CallW R s args RX3 RX3 92 yX3_way cX3_way 2 (some .int) (zW yX3_way cX3_way 2 (some .int)) (zR d mc ms) mc ms 1 := z_cwV hts m_co_X3_way m_ml_RX3_92 m_im_X3_way m_se_X3_way m_ii_RX3 (by decide +kernel) h1 h2
theorem kV_RX3_96 {R : Room} {s : State} {args : Array Value} {d mc ms : Nat} (hts : ∀ w ∈ zT, w.before args s = true) (h1 : d + 1 ≤ R.frames) (h2 : 8 + (3 + 11) + 40 * d ≤ R.locals) : CallW R s args RX3 RX0 96 yX0_road cX0_road 3 (some .int) (zW yX0_road cX0_road 3 (some .int)) (zR d mc ms) mc ms 2 := z_cwV hts m_co_X0_road m_ml_RX3_96 m_im_X0_road m_se_X0_road m_ii_RX0 (by decide +kernel) h1 h2
theorem kV_RX3_58 {R : Room} {s : State} {args : Array Value} {d mc ms : Nat} (hts : ∀ w ∈ zT, w.before args s = true) (h1 : d + 1 ≤ R.frames) (h2 : 8 + (2 + 11) + 40 * d ≤ R.locals) : CallW R s args RX3 RX4 58 yX4_has cX4_has 2 (some .boolean) (zW yX4_has cX4_has 2 (some .boolean)) (zR d mc ms) mc ms 1 := z_cwV hts m_co_X4_has m_ml_RX3_58 m_im_X4_has m_se_X4_has m_ii_RX4 (by decide +kernel) h1 h2
theorem kV_RX3_99 {R : Room} {s : State} {args : Array Value} {d mc ms : Nat} (hts : ∀ w ∈ zT, w.before args s = true) (h1 : d + 1 ≤ R.frames) (h2 : 8 + (6 + 11) + 40 * d ≤ R.locals) : CallW R s args RX3 RX3 99 yX3_pointing cX3_pointing 6 (some .int) (zW yX3_pointing cX3_pointing 6 (some .int)) (zR d mc ms) mc ms 3 := z_cwV hts m_co_X3_pointing m_ml_RX3_99 m_im_X3_pointing m_se_X3_pointing m_ii_RX3 (by decide +kernel) h1 h2
theorem kV_RX3_86 {R : Room} {s : State} {args : Array Value} {d mc ms : Nat} (hts : ∀ w ∈ zT, w.before args s = true) (h1 : d + 1 ≤ R.frames) (h2 : 8 + (3 + 11) + 40 * d ≤ R.locals) : CallW R s args RX3 RX0 86 yX0_where cX0_where 3 (some .int) (zW yX0_where cX0_where 3 (some .int)) (zR d mc ms) mc ms 2 := z_cwV hts m_co_X0_where m_ml_RX3_86 m_im_X0_where m_se_X0_where m_ii_RX0 (by decide +kernel) h1 h2
theorem kV_RX3_89 {R : Room} {s : State} {args : Array Value} {d mc ms : Nat} (hts : ∀ w ∈ zT, w.before args s = true) (h1 : d + 1 ≤ R.frames) (h2 : 8 + (2 + 11) + 40 * d ≤ R.locals) : CallW R s args RX3 RX4 89 yX4_isInn cX4_isInn 2 (some .boolean) (zW yX4_isInn cX4_isInn 2 (some .boolean)) (zR d mc ms) mc ms 1 := z_cwV hts m_co_X4_isInn m_ml_RX3_89 m_im_X4_isInn m_se_X4_isInn m_ii_RX4 (by decide +kernel) h1 h2
theorem kV_RX3_106 {R : Room} {s : State} {args : Array Value} {d mc ms : Nat} (hts : ∀ w ∈ zT, w.before args s = true) (h1 : d + 1 ≤ R.frames) (h2 : 8 + (6 + 11) + 40 * d ≤ R.locals) : CallW R s args RX3 RX3 106 yX3_mostTogether cX3_mostTogether 6 (some .int) (zW yX3_mostTogether cX3_mostTogether 6 (some .int)) (zR d mc ms) mc ms 2 := z_cwV hts m_co_X3_mostTogether m_ml_RX3_106 m_im_X3_mostTogether m_se_X3_mostTogether m_ii_RX3 (by decide +kernel) h1 h2
theorem kS_RX3_67 {R : Room} {s : State} {args : Array Value} {d mc ms : Nat} (hts : ∀ w ∈ zT, w.before args s = true) (h1 : d + 1 ≤ R.frames) (h2 : 8 + (5 + 11) + 40 * d ≤ R.locals) : CallB R s args RX3 67 yX3_isSo cX3_isSo 5 (some .boolean) (zW yX3_isSo cX3_isSo 5 (some .boolean)) (zR d mc ms) mc ms 4 ∧ (Cond.static yX3_isSo).before args s = true := z_cwS hts m_co_X3_isSo m_ml_RX3_67 m_st_X3_isSo m_ii_RX3 (by decide +kernel) h1 h2
theorem kV_RX3_71 {R : Room} {s : State} {args : Array Value} {d mc ms : Nat} (hts : ∀ w ∈ zT, w.before args s = true) (h1 : d + 1 ≤ R.frames) (h2 : 8 + (3 + 11) + 40 * d ≤ R.locals) : CallW R s args RX3 RX0 71 yX0_steps cX0_steps 3 (some .int) (zW yX0_steps cX0_steps 3 (some .int)) (zR d mc ms) mc ms 2 := z_cwV hts m_co_X0_steps m_ml_RX3_71 m_im_X0_steps m_se_X0_steps m_ii_RX0 (by decide +kernel) h1 h2
theorem kV_RX3_75 {R : Room} {s : State} {args : Array Value} {d mc ms : Nat} (hts : ∀ w ∈ zT, w.before args s = true) (h1 : d + 1 ≤ R.frames) (h2 : 8 + (3 + 11) + 40 * d ≤ R.locals) : CallW R s args RX3 RX0 75 yX0_wayAfter cX0_wayAfter 3 (some .int) (zW yX0_wayAfter cX0_wayAfter 3 (some .int)) (zR d mc ms) mc ms 2 := z_cwV hts m_co_X0_wayAfter m_ml_RX3_75 m_im_X0_wayAfter m_se_X0_wayAfter m_ii_RX0 (by decide +kernel) h1 h2
theorem kV_RX3_30 {R : Room} {s : State} {args : Array Value} {d mc ms : Nat} (hts : ∀ w ∈ zT, w.before args s = true) (h1 : d + 1 ≤ R.frames) (h2 : 8 + (3 + 11) + 40 * d ≤ R.locals) : CallW R s args RX3 RX3 30 yX3_grow cX3_grow 3 none (zW yX3_grow cX3_grow 3 none) (zR d mc ms) mc ms 1 := z_cwV hts m_co_X3_grow m_ml_RX3_30 m_im_X3_grow m_se_X3_grow m_ii_RX3 (by decide +kernel) h1 h2
theorem kV_RX3_43 {R : Room} {s : State} {args : Array Value} {d mc ms : Nat} (hts : ∀ w ∈ zT, w.before args s = true) (h1 : d + 1 ≤ R.frames) (h2 : 8 + (8 + 11) + 40 * d ≤ R.locals) : CallW R s args RX3 RX3 43 yX3_tryWay cX3_tryWay 8 none (zW yX3_tryWay cX3_tryWay 8 none) (zR d mc ms) mc ms 3 := z_cwV hts m_co_X3_tryWay m_ml_RX3_43 m_im_X3_tryWay m_se_X3_tryWay m_ii_RX3 (by decide +kernel) h1 h2
theorem dX0_make_0 : decode cX0_make 0 = .ok (.aload_n 0, 1) := zo_42 (by decide +kernel)
theorem dX0_make_1 : decode cX0_make 1 = .ok (.getfield 37, 3) := zo_180 (by decide +kernel)
theorem dX0_make_4 : decode cX0_make 4 = .ok (.ifCond .eq 4, 3) := zo_153 (by decide +kernel)
theorem dX0_make_7 : decode cX0_make 7 = .ok (.return_, 1) := zo_177 (by decide +kernel)
theorem dX0_make_8 : decode cX0_make 8 = .ok (.aload_n 0, 1) := zo_42 (by decide +kernel)
theorem dX0_make_9 : decode cX0_make 9 = .ok (.aload_n 1, 1) := zo_43 (by decide +kernel)
theorem dX0_make_10 : decode cX0_make 10 = .ok (.invokevirtual 41, 3) := zo_182 (by decide +kernel)
theorem dX0_make_13 : decode cX0_make 13 = .ok (.aload_n 0, 1) := zo_42 (by decide +kernel)
theorem dX0_make_14 : decode cX0_make 14 = .ok (.invokevirtual 45, 3) := zo_182 (by decide +kernel)
theorem dX0_make_17 : decode cX0_make 17 = .ok (.aload_n 0, 1) := zo_42 (by decide +kernel)
theorem dX0_make_18 : decode cX0_make 18 = .ok (.invokevirtual 48, 3) := zo_182 (by decide +kernel)
theorem dX0_make_21 : decode cX0_make 21 = .ok (.sipush 128, 3) := zo_17 (by decide +kernel)
theorem dX0_make_24 : decode cX0_make 24 = .ok (.istore_n 2, 1) := zo_61 (by decide +kernel)
theorem dX0_make_25 : decode cX0_make 25 = .ok (.iload_n 2, 1) := zo_28 (by decide +kernel)
theorem dX0_make_26 : decode cX0_make 26 = .ok (.ifCond .le 26, 3) := zo_158 (by decide +kernel)
theorem dX0_make_29 : decode cX0_make 29 = .ok (.aload_n 0, 1) := zo_42 (by decide +kernel)
theorem dX0_make_30 : decode cX0_make 30 = .ok (.invokevirtual 51, 3) := zo_182 (by decide +kernel)
theorem dX0_make_33 : decode cX0_make 33 = .ok (.sipush 499, 3) := zo_17 (by decide +kernel)
theorem dX0_make_36 : decode cX0_make 36 = .ok (.iload_n 2, 1) := zo_28 (by decide +kernel)
theorem dX0_make_37 : decode cX0_make 37 = .ok (.iand, 1) := zo_126 (by decide +kernel)
theorem dX0_make_38 : decode cX0_make 38 = .ok (.ifCond .eq 7, 3) := zo_153 (by decide +kernel)
theorem dX0_make_41 : decode cX0_make 41 = .ok (.aload_n 0, 1) := zo_42 (by decide +kernel)
theorem dX0_make_42 : decode cX0_make 42 = .ok (.invokevirtual 54, 3) := zo_182 (by decide +kernel)
theorem dX0_make_45 : decode cX0_make 45 = .ok (.iload_n 2, 1) := zo_28 (by decide +kernel)
theorem dX0_make_46 : decode cX0_make 46 = .ok (.iconst 1, 1) := zo_4 (by decide +kernel)
theorem dX0_make_47 : decode cX0_make 47 = .ok (.ishr, 1) := zo_122 (by decide +kernel)
theorem dX0_make_48 : decode cX0_make 48 = .ok (.istore_n 2, 1) := zo_61 (by decide +kernel)
theorem dX0_make_49 : decode cX0_make 49 = .ok (.goto (-24), 3) := zo_167 (by decide +kernel)
theorem dX0_make_52 : decode cX0_make 52 = .ok (.aload_n 0, 1) := zo_42 (by decide +kernel)
theorem dX0_make_53 : decode cX0_make 53 = .ok (.iconst 1, 1) := zo_4 (by decide +kernel)
theorem dX0_make_54 : decode cX0_make 54 = .ok (.putfield 37, 3) := zo_181 (by decide +kernel)
theorem dX0_make_57 : decode cX0_make 57 = .ok (.return_, 1) := zo_177 (by decide +kernel)
theorem dX3_way_0 : decode cX3_way 0 = .ok (.iload_n 1, 1) := zo_27 (by decide +kernel)
theorem dX3_way_1 : decode cX3_way 1 = .ok (.ifCond .lt 25, 3) := zo_155 (by decide +kernel)
theorem dX3_way_4 : decode cX3_way 4 = .ok (.iload_n 1, 1) := zo_27 (by decide +kernel)
theorem dX3_way_5 : decode cX3_way 5 = .ok (.aload_n 0, 1) := zo_42 (by decide +kernel)
theorem dX3_way_6 : decode cX3_way 6 = .ok (.getfield 18, 3) := zo_180 (by decide +kernel)
theorem dX3_way_9 : decode cX3_way 9 = .ok (.arraylength, 1) := zo_190 (by decide +kernel)
theorem dX3_way_10 : decode cX3_way 10 = .ok (.if_icmp .ge 16, 3) := zo_162 (by decide +kernel)
theorem dX3_way_13 : decode cX3_way 13 = .ok (.aload_n 0, 1) := zo_42 (by decide +kernel)
theorem dX3_way_14 : decode cX3_way 14 = .ok (.getfield 18, 3) := zo_180 (by decide +kernel)
theorem dX3_way_17 : decode cX3_way 17 = .ok (.iload_n 1, 1) := zo_27 (by decide +kernel)
theorem dX3_way_18 : decode cX3_way 18 = .ok (.iaload, 1) := zo_46 (by decide +kernel)
theorem dX3_way_19 : decode cX3_way 19 = .ok (.sipush 16383, 3) := zo_17 (by decide +kernel)
theorem dX3_way_22 : decode cX3_way 22 = .ok (.iand, 1) := zo_126 (by decide +kernel)
theorem dX3_way_23 : decode cX3_way 23 = .ok (.goto 4, 3) := zo_167 (by decide +kernel)
theorem dX3_way_26 : decode cX3_way 26 = .ok (.iconst 0, 1) := zo_3 (by decide +kernel)
theorem dX3_way_27 : decode cX3_way 27 = .ok (.ireturn, 1) := zo_172 (by decide +kernel)
theorem dX3_pointing_0 : decode cX3_pointing 0 = .ok (.iconst 0, 1) := zo_3 (by decide +kernel)
theorem dX3_pointing_1 : decode cX3_pointing 1 = .ok (.istore 4, 2) := zo_54 (by decide +kernel)
theorem dX3_pointing_3 : decode cX3_pointing 3 = .ok (.iconst 0, 1) := zo_3 (by decide +kernel)
theorem dX3_pointing_4 : decode cX3_pointing 4 = .ok (.istore 5, 2) := zo_54 (by decide +kernel)
theorem dX3_pointing_6 : decode cX3_pointing 6 = .ok (.iload 5, 2) := zo_21 (by decide +kernel)
theorem dX3_pointing_8 : decode cX3_pointing 8 = .ok (.aload_n 0, 1) := zo_42 (by decide +kernel)
theorem dX3_pointing_9 : decode cX3_pointing 9 = .ok (.getfield 34, 3) := zo_180 (by decide +kernel)
theorem dX3_pointing_12 : decode cX3_pointing 12 = .ok (.if_icmp .ge 27, 3) := zo_162 (by decide +kernel)
theorem dX3_pointing_15 : decode cX3_pointing 15 = .ok (.aload_n 1, 1) := zo_43 (by decide +kernel)
theorem dX3_pointing_16 : decode cX3_pointing 16 = .ok (.aload_n 0, 1) := zo_42 (by decide +kernel)
theorem dX3_pointing_17 : decode cX3_pointing 17 = .ok (.iload 5, 2) := zo_21 (by decide +kernel)
theorem dX3_pointing_19 : decode cX3_pointing 19 = .ok (.invokevirtual 92, 3) := zo_182 (by decide +kernel)
theorem dX3_pointing_22 : decode cX3_pointing 22 = .ok (.iload_n 2, 1) := zo_28 (by decide +kernel)
theorem dX3_pointing_23 : decode cX3_pointing 23 = .ok (.invokevirtual 96, 3) := zo_182 (by decide +kernel)
theorem dX3_pointing_26 : decode cX3_pointing 26 = .ok (.iload_n 3, 1) := zo_29 (by decide +kernel)
theorem dX3_pointing_27 : decode cX3_pointing 27 = .ok (.if_icmp .ne 6, 3) := zo_160 (by decide +kernel)
theorem dX3_pointing_30 : decode cX3_pointing 30 = .ok (.iinc 4 1, 3) := zo_132 (by decide +kernel)
theorem dX3_pointing_33 : decode cX3_pointing 33 = .ok (.iinc 5 1, 3) := zo_132 (by decide +kernel)
theorem dX3_pointing_36 : decode cX3_pointing 36 = .ok (.goto (-30), 3) := zo_167 (by decide +kernel)
theorem dX3_pointing_39 : decode cX3_pointing 39 = .ok (.iload 4, 2) := zo_21 (by decide +kernel)
theorem dX3_pointing_41 : decode cX3_pointing 41 = .ok (.ireturn, 1) := zo_172 (by decide +kernel)
theorem dX3_sure_0 : decode cX3_sure 0 = .ok (.aload_n 0, 1) := zo_42 (by decide +kernel)
theorem dX3_sure_1 : decode cX3_sure 1 = .ok (.getfield 34, 3) := zo_180 (by decide +kernel)
theorem dX3_sure_4 : decode cX3_sure 4 = .ok (.ifCond .eq 14, 3) := zo_153 (by decide +kernel)
theorem dX3_sure_7 : decode cX3_sure 7 = .ok (.aload_n 1, 1) := zo_43 (by decide +kernel)
theorem dX3_sure_8 : decode cX3_sure 8 = .ok (.getfield 55, 3) := zo_180 (by decide +kernel)
theorem dX3_sure_11 : decode cX3_sure 11 = .ok (.iload_n 2, 1) := zo_28 (by decide +kernel)
theorem dX3_sure_12 : decode cX3_sure 12 = .ok (.invokevirtual 58, 3) := zo_182 (by decide +kernel)
theorem dX3_sure_15 : decode cX3_sure 15 = .ok (.ifCond .ne 5, 3) := zo_154 (by decide +kernel)
theorem dX3_sure_18 : decode cX3_sure 18 = .ok (.iconst (-1), 1) := zo_2 (by decide +kernel)
theorem dX3_sure_19 : decode cX3_sure 19 = .ok (.ireturn, 1) := zo_172 (by decide +kernel)
theorem dX3_sure_20 : decode cX3_sure 20 = .ok (.aload_n 1, 1) := zo_43 (by decide +kernel)
theorem dX3_sure_21 : decode cX3_sure 21 = .ok (.aload_n 0, 1) := zo_42 (by decide +kernel)
theorem dX3_sure_22 : decode cX3_sure 22 = .ok (.iconst 0, 1) := zo_3 (by decide +kernel)
theorem dX3_sure_23 : decode cX3_sure 23 = .ok (.invokevirtual 92, 3) := zo_182 (by decide +kernel)
theorem dX3_sure_26 : decode cX3_sure 26 = .ok (.iload_n 2, 1) := zo_28 (by decide +kernel)
theorem dX3_sure_27 : decode cX3_sure 27 = .ok (.invokevirtual 96, 3) := zo_182 (by decide +kernel)
theorem dX3_sure_30 : decode cX3_sure 30 = .ok (.istore_n 3, 1) := zo_62 (by decide +kernel)
theorem dX3_sure_31 : decode cX3_sure 31 = .ok (.aload_n 0, 1) := zo_42 (by decide +kernel)
theorem dX3_sure_32 : decode cX3_sure 32 = .ok (.aload_n 1, 1) := zo_43 (by decide +kernel)
theorem dX3_sure_33 : decode cX3_sure 33 = .ok (.iload_n 2, 1) := zo_28 (by decide +kernel)
theorem dX3_sure_34 : decode cX3_sure 34 = .ok (.iload_n 3, 1) := zo_29 (by decide +kernel)
theorem dX3_sure_35 : decode cX3_sure 35 = .ok (.invokevirtual 99, 3) := zo_182 (by decide +kernel)
theorem dX3_sure_38 : decode cX3_sure 38 = .ok (.aload_n 0, 1) := zo_42 (by decide +kernel)
theorem dX3_sure_39 : decode cX3_sure 39 = .ok (.getfield 34, 3) := zo_180 (by decide +kernel)
theorem dX3_sure_42 : decode cX3_sure 42 = .ok (.if_icmp .ne 7, 3) := zo_160 (by decide +kernel)
theorem dX3_sure_45 : decode cX3_sure 45 = .ok (.iload_n 3, 1) := zo_29 (by decide +kernel)
theorem dX3_sure_46 : decode cX3_sure 46 = .ok (.goto 4, 3) := zo_167 (by decide +kernel)
theorem dX3_sure_49 : decode cX3_sure 49 = .ok (.iconst (-1), 1) := zo_2 (by decide +kernel)
theorem dX3_sure_50 : decode cX3_sure 50 = .ok (.ireturn, 1) := zo_172 (by decide +kernel)
theorem dX3_isSo_0 : decode cX3_isSo 0 = .ok (.aload_n 0, 1) := zo_42 (by decide +kernel)
theorem dX3_isSo_1 : decode cX3_isSo 1 = .ok (.iload_n 1, 1) := zo_27 (by decide +kernel)
theorem dX3_isSo_2 : decode cX3_isSo 2 = .ok (.iload_n 2, 1) := zo_28 (by decide +kernel)
theorem dX3_isSo_3 : decode cX3_isSo 3 = .ok (.invokevirtual 86, 3) := zo_182 (by decide +kernel)
theorem dX3_isSo_6 : decode cX3_isSo 6 = .ok (.istore 4, 2) := zo_54 (by decide +kernel)
theorem dX3_isSo_8 : decode cX3_isSo 8 = .ok (.aload_n 0, 1) := zo_42 (by decide +kernel)
theorem dX3_isSo_9 : decode cX3_isSo 9 = .ok (.getfield 55, 3) := zo_180 (by decide +kernel)
theorem dX3_isSo_12 : decode cX3_isSo 12 = .ok (.iload 4, 2) := zo_21 (by decide +kernel)
theorem dX3_isSo_14 : decode cX3_isSo 14 = .ok (.invokevirtual 89, 3) := zo_182 (by decide +kernel)
theorem dX3_isSo_17 : decode cX3_isSo 17 = .ok (.ifCond .eq 17, 3) := zo_153 (by decide +kernel)
theorem dX3_isSo_20 : decode cX3_isSo 20 = .ok (.iload 4, 2) := zo_21 (by decide +kernel)
theorem dX3_isSo_22 : decode cX3_isSo 22 = .ok (.iload_n 3, 1) := zo_29 (by decide +kernel)
theorem dX3_isSo_23 : decode cX3_isSo 23 = .ok (.if_icmp .ne 7, 3) := zo_160 (by decide +kernel)
theorem dX3_isSo_26 : decode cX3_isSo 26 = .ok (.iconst 1, 1) := zo_4 (by decide +kernel)
theorem dX3_isSo_27 : decode cX3_isSo 27 = .ok (.goto 17, 3) := zo_167 (by decide +kernel)
theorem dX3_isSo_30 : decode cX3_isSo 30 = .ok (.iconst 0, 1) := zo_3 (by decide +kernel)
theorem dX3_isSo_31 : decode cX3_isSo 31 = .ok (.goto 13, 3) := zo_167 (by decide +kernel)
theorem dX3_isSo_34 : decode cX3_isSo 34 = .ok (.iload_n 3, 1) := zo_29 (by decide +kernel)
theorem dX3_isSo_35 : decode cX3_isSo 35 = .ok (.iconst (-1), 1) := zo_2 (by decide +kernel)
theorem dX3_isSo_36 : decode cX3_isSo 36 = .ok (.if_icmp .ne 7, 3) := zo_160 (by decide +kernel)
theorem dX3_isSo_39 : decode cX3_isSo 39 = .ok (.iconst 1, 1) := zo_4 (by decide +kernel)
theorem dX3_isSo_40 : decode cX3_isSo 40 = .ok (.goto 4, 3) := zo_167 (by decide +kernel)
theorem dX3_isSo_43 : decode cX3_isSo 43 = .ok (.iconst 0, 1) := zo_3 (by decide +kernel)
theorem dX3_isSo_44 : decode cX3_isSo 44 = .ok (.ireturn, 1) := zo_172 (by decide +kernel)
theorem dX3_mostTogether_0 : decode cX3_mostTogether 0 = .ok (.iconst 0, 1) := zo_3 (by decide +kernel)
theorem dX3_mostTogether_1 : decode cX3_mostTogether 1 = .ok (.istore_n 3, 1) := zo_62 (by decide +kernel)
theorem dX3_mostTogether_2 : decode cX3_mostTogether 2 = .ok (.iload_n 3, 1) := zo_29 (by decide +kernel)
theorem dX3_mostTogether_3 : decode cX3_mostTogether 3 = .ok (.bipush 7, 2) := zo_16 (by decide +kernel)
theorem dX3_mostTogether_5 : decode cX3_mostTogether 5 = .ok (.if_icmp .ge 16, 3) := zo_162 (by decide +kernel)
theorem dX3_mostTogether_8 : decode cX3_mostTogether 8 = .ok (.aload_n 0, 1) := zo_42 (by decide +kernel)
theorem dX3_mostTogether_9 : decode cX3_mostTogether 9 = .ok (.getfield 22, 3) := zo_180 (by decide +kernel)
theorem dX3_mostTogether_12 : decode cX3_mostTogether 12 = .ok (.iload_n 3, 1) := zo_29 (by decide +kernel)
theorem dX3_mostTogether_13 : decode cX3_mostTogether 13 = .ok (.iconst 0, 1) := zo_3 (by decide +kernel)
theorem dX3_mostTogether_14 : decode cX3_mostTogether 14 = .ok (.iastore, 1) := zo_79 (by decide +kernel)
theorem dX3_mostTogether_15 : decode cX3_mostTogether 15 = .ok (.iinc 3 1, 3) := zo_132 (by decide +kernel)
theorem dX3_mostTogether_18 : decode cX3_mostTogether 18 = .ok (.goto (-16), 3) := zo_167 (by decide +kernel)
theorem dX3_mostTogether_21 : decode cX3_mostTogether 21 = .ok (.iconst 0, 1) := zo_3 (by decide +kernel)
theorem dX3_mostTogether_22 : decode cX3_mostTogether 22 = .ok (.istore_n 3, 1) := zo_62 (by decide +kernel)
theorem dX3_mostTogether_23 : decode cX3_mostTogether 23 = .ok (.iconst 0, 1) := zo_3 (by decide +kernel)
theorem dX3_mostTogether_24 : decode cX3_mostTogether 24 = .ok (.istore 4, 2) := zo_54 (by decide +kernel)
theorem dX3_mostTogether_26 : decode cX3_mostTogether 26 = .ok (.iload 4, 2) := zo_21 (by decide +kernel)
theorem dX3_mostTogether_28 : decode cX3_mostTogether 28 = .ok (.aload_n 0, 1) := zo_42 (by decide +kernel)
theorem dX3_mostTogether_29 : decode cX3_mostTogether 29 = .ok (.getfield 34, 3) := zo_180 (by decide +kernel)
theorem dX3_mostTogether_32 : decode cX3_mostTogether 32 = .ok (.if_icmp .ge 66, 3) := zo_162 (by decide +kernel)
theorem dX3_mostTogether_35 : decode cX3_mostTogether 35 = .ok (.iload 4, 2) := zo_21 (by decide +kernel)
theorem dX3_mostTogether_37 : decode cX3_mostTogether 37 = .ok (.aload_n 0, 1) := zo_42 (by decide +kernel)
theorem dX3_mostTogether_38 : decode cX3_mostTogether 38 = .ok (.getfield 18, 3) := zo_180 (by decide +kernel)
theorem dX3_mostTogether_41 : decode cX3_mostTogether 41 = .ok (.arraylength, 1) := zo_190 (by decide +kernel)
theorem dX3_mostTogether_42 : decode cX3_mostTogether 42 = .ok (.if_icmp .ge 56, 3) := zo_162 (by decide +kernel)
theorem dX3_mostTogether_45 : decode cX3_mostTogether 45 = .ok (.aload_n 1, 1) := zo_43 (by decide +kernel)
theorem dX3_mostTogether_46 : decode cX3_mostTogether 46 = .ok (.aload_n 0, 1) := zo_42 (by decide +kernel)
theorem dX3_mostTogether_47 : decode cX3_mostTogether 47 = .ok (.getfield 18, 3) := zo_180 (by decide +kernel)
theorem dX3_mostTogether_50 : decode cX3_mostTogether 50 = .ok (.iload 4, 2) := zo_21 (by decide +kernel)
theorem dX3_mostTogether_52 : decode cX3_mostTogether 52 = .ok (.iaload, 1) := zo_46 (by decide +kernel)
theorem dX3_mostTogether_53 : decode cX3_mostTogether 53 = .ok (.bipush 14, 2) := zo_16 (by decide +kernel)
theorem dX3_mostTogether_55 : decode cX3_mostTogether 55 = .ok (.ishr, 1) := zo_122 (by decide +kernel)
theorem dX3_mostTogether_56 : decode cX3_mostTogether 56 = .ok (.iload_n 2, 1) := zo_28 (by decide +kernel)
theorem dX3_mostTogether_57 : decode cX3_mostTogether 57 = .ok (.invokevirtual 86, 3) := zo_182 (by decide +kernel)
theorem dX3_mostTogether_60 : decode cX3_mostTogether 60 = .ok (.istore 5, 2) := zo_54 (by decide +kernel)
theorem dX3_mostTogether_62 : decode cX3_mostTogether 62 = .ok (.iload 5, 2) := zo_21 (by decide +kernel)
theorem dX3_mostTogether_64 : decode cX3_mostTogether 64 = .ok (.bipush 7, 2) := zo_16 (by decide +kernel)
theorem dX3_mostTogether_66 : decode cX3_mostTogether 66 = .ok (.if_icmp .ge 26, 3) := zo_162 (by decide +kernel)
theorem dX3_mostTogether_69 : decode cX3_mostTogether 69 = .ok (.aload_n 0, 1) := zo_42 (by decide +kernel)
theorem dX3_mostTogether_70 : decode cX3_mostTogether 70 = .ok (.getfield 22, 3) := zo_180 (by decide +kernel)
theorem dX3_mostTogether_73 : decode cX3_mostTogether 73 = .ok (.iload 5, 2) := zo_21 (by decide +kernel)
theorem dX3_mostTogether_75 : decode cX3_mostTogether 75 = .ok (.dup2, 1) := zo_92 (by decide +kernel)
theorem dX3_mostTogether_76 : decode cX3_mostTogether 76 = .ok (.iaload, 1) := zo_46 (by decide +kernel)
theorem dX3_mostTogether_77 : decode cX3_mostTogether 77 = .ok (.iconst 1, 1) := zo_4 (by decide +kernel)
theorem dX3_mostTogether_78 : decode cX3_mostTogether 78 = .ok (.iadd, 1) := zo_96 (by decide +kernel)
theorem dX3_mostTogether_79 : decode cX3_mostTogether 79 = .ok (.iastore, 1) := zo_79 (by decide +kernel)
theorem dX3_mostTogether_80 : decode cX3_mostTogether 80 = .ok (.iload_n 3, 1) := zo_29 (by decide +kernel)
theorem dX3_mostTogether_81 : decode cX3_mostTogether 81 = .ok (.aload_n 0, 1) := zo_42 (by decide +kernel)
theorem dX3_mostTogether_82 : decode cX3_mostTogether 82 = .ok (.getfield 22, 3) := zo_180 (by decide +kernel)
theorem dX3_mostTogether_85 : decode cX3_mostTogether 85 = .ok (.iload 5, 2) := zo_21 (by decide +kernel)
theorem dX3_mostTogether_87 : decode cX3_mostTogether 87 = .ok (.iaload, 1) := zo_46 (by decide +kernel)
theorem dX3_mostTogether_88 : decode cX3_mostTogether 88 = .ok (.invokestatic 83, 3) := zo_184 (by decide +kernel)
theorem dX3_mostTogether_91 : decode cX3_mostTogether 91 = .ok (.istore_n 3, 1) := zo_62 (by decide +kernel)
theorem dX3_mostTogether_92 : decode cX3_mostTogether 92 = .ok (.iinc 4 1, 3) := zo_132 (by decide +kernel)
theorem dX3_mostTogether_95 : decode cX3_mostTogether 95 = .ok (.goto (-69), 3) := zo_167 (by decide +kernel)
theorem dX3_mostTogether_98 : decode cX3_mostTogether 98 = .ok (.iload_n 3, 1) := zo_29 (by decide +kernel)
theorem dX3_mostTogether_99 : decode cX3_mostTogether 99 = .ok (.ireturn, 1) := zo_172 (by decide +kernel)
theorem dX3_ask_0 : decode cX3_ask 0 = .ok (.iconst (-1), 1) := zo_2 (by decide +kernel)
theorem dX3_ask_1 : decode cX3_ask 1 = .ok (.istore_n 2, 1) := zo_61 (by decide +kernel)
theorem dX3_ask_2 : decode cX3_ask 2 = .ok (.iconst 0, 1) := zo_3 (by decide +kernel)
theorem dX3_ask_3 : decode cX3_ask 3 = .ok (.istore_n 3, 1) := zo_62 (by decide +kernel)
theorem dX3_ask_4 : decode cX3_ask 4 = .ok (.iconst 0, 1) := zo_3 (by decide +kernel)
theorem dX3_ask_5 : decode cX3_ask 5 = .ok (.istore 4, 2) := zo_54 (by decide +kernel)
theorem dX3_ask_7 : decode cX3_ask 7 = .ok (.iload 4, 2) := zo_21 (by decide +kernel)
theorem dX3_ask_9 : decode cX3_ask 9 = .ok (.aload_n 1, 1) := zo_43 (by decide +kernel)
theorem dX3_ask_10 : decode cX3_ask 10 = .ok (.getfield 55, 3) := zo_180 (by decide +kernel)
theorem dX3_ask_13 : decode cX3_ask 13 = .ok (.getfield 103, 3) := zo_180 (by decide +kernel)
theorem dX3_ask_16 : decode cX3_ask 16 = .ok (.if_icmp .ge 54, 3) := zo_162 (by decide +kernel)
theorem dX3_ask_19 : decode cX3_ask 19 = .ok (.aload_n 0, 1) := zo_42 (by decide +kernel)
theorem dX3_ask_20 : decode cX3_ask 20 = .ok (.getfield 34, 3) := zo_180 (by decide +kernel)
theorem dX3_ask_23 : decode cX3_ask 23 = .ok (.ifCond .le 47, 3) := zo_158 (by decide +kernel)
theorem dX3_ask_26 : decode cX3_ask 26 = .ok (.aload_n 1, 1) := zo_43 (by decide +kernel)
theorem dX3_ask_27 : decode cX3_ask 27 = .ok (.getfield 55, 3) := zo_180 (by decide +kernel)
theorem dX3_ask_30 : decode cX3_ask 30 = .ok (.iload 4, 2) := zo_21 (by decide +kernel)
theorem dX3_ask_32 : decode cX3_ask 32 = .ok (.invokevirtual 89, 3) := zo_182 (by decide +kernel)
theorem dX3_ask_35 : decode cX3_ask 35 = .ok (.ifCond .ne 29, 3) := zo_154 (by decide +kernel)
theorem dX3_ask_38 : decode cX3_ask 38 = .ok (.aload_n 0, 1) := zo_42 (by decide +kernel)
theorem dX3_ask_39 : decode cX3_ask 39 = .ok (.aload_n 1, 1) := zo_43 (by decide +kernel)
theorem dX3_ask_40 : decode cX3_ask 40 = .ok (.iload 4, 2) := zo_21 (by decide +kernel)
theorem dX3_ask_42 : decode cX3_ask 42 = .ok (.invokevirtual 106, 3) := zo_182 (by decide +kernel)
theorem dX3_ask_45 : decode cX3_ask 45 = .ok (.istore 5, 2) := zo_54 (by decide +kernel)
theorem dX3_ask_47 : decode cX3_ask 47 = .ok (.iload_n 2, 1) := zo_28 (by decide +kernel)
theorem dX3_ask_48 : decode cX3_ask 48 = .ok (.iconst (-1), 1) := zo_2 (by decide +kernel)
theorem dX3_ask_49 : decode cX3_ask 49 = .ok (.if_icmp .eq 9, 3) := zo_159 (by decide +kernel)
theorem dX3_ask_52 : decode cX3_ask 52 = .ok (.iload 5, 2) := zo_21 (by decide +kernel)
theorem dX3_ask_54 : decode cX3_ask 54 = .ok (.iload_n 3, 1) := zo_29 (by decide +kernel)
theorem dX3_ask_55 : decode cX3_ask 55 = .ok (.if_icmp .ge 9, 3) := zo_162 (by decide +kernel)
theorem dX3_ask_58 : decode cX3_ask 58 = .ok (.iload 4, 2) := zo_21 (by decide +kernel)
theorem dX3_ask_60 : decode cX3_ask 60 = .ok (.istore_n 2, 1) := zo_61 (by decide +kernel)
theorem dX3_ask_61 : decode cX3_ask 61 = .ok (.iload 5, 2) := zo_21 (by decide +kernel)
theorem dX3_ask_63 : decode cX3_ask 63 = .ok (.istore_n 3, 1) := zo_62 (by decide +kernel)
theorem dX3_ask_64 : decode cX3_ask 64 = .ok (.iinc 4 1, 3) := zo_132 (by decide +kernel)
theorem dX3_ask_67 : decode cX3_ask 67 = .ok (.goto (-60), 3) := zo_167 (by decide +kernel)
theorem dX3_ask_70 : decode cX3_ask 70 = .ok (.iload_n 2, 1) := zo_28 (by decide +kernel)
theorem dX3_ask_71 : decode cX3_ask 71 = .ok (.ireturn, 1) := zo_172 (by decide +kernel)
theorem dX3_grow_0 : decode cX3_grow 0 = .ok (.aload_n 0, 1) := zo_42 (by decide +kernel)
theorem dX3_grow_1 : decode cX3_grow 1 = .ok (.getfield 18, 3) := zo_180 (by decide +kernel)
theorem dX3_grow_4 : decode cX3_grow 4 = .ok (.arraylength, 1) := zo_190 (by decide +kernel)
theorem dX3_grow_5 : decode cX3_grow 5 = .ok (.iload_n 1, 1) := zo_27 (by decide +kernel)
theorem dX3_grow_6 : decode cX3_grow 6 = .ok (.if_icmp .lt 4, 3) := zo_161 (by decide +kernel)
theorem dX3_grow_9 : decode cX3_grow 9 = .ok (.return_, 1) := zo_177 (by decide +kernel)
theorem dX3_grow_10 : decode cX3_grow 10 = .ok (.bipush 16, 2) := zo_16 (by decide +kernel)
theorem dX3_grow_12 : decode cX3_grow 12 = .ok (.istore_n 2, 1) := zo_61 (by decide +kernel)
theorem dX3_grow_13 : decode cX3_grow 13 = .ok (.iload_n 2, 1) := zo_28 (by decide +kernel)
theorem dX3_grow_14 : decode cX3_grow 14 = .ok (.iload_n 1, 1) := zo_27 (by decide +kernel)
theorem dX3_grow_15 : decode cX3_grow 15 = .ok (.if_icmp .ge 17, 3) := zo_162 (by decide +kernel)
theorem dX3_grow_18 : decode cX3_grow 18 = .ok (.iload_n 2, 1) := zo_28 (by decide +kernel)
theorem dX3_grow_19 : decode cX3_grow 19 = .ok (.sipush 16383, 3) := zo_17 (by decide +kernel)
theorem dX3_grow_22 : decode cX3_grow 22 = .ok (.if_icmp .gt 10, 3) := zo_163 (by decide +kernel)
theorem dX3_grow_25 : decode cX3_grow 25 = .ok (.iload_n 2, 1) := zo_28 (by decide +kernel)
theorem dX3_grow_26 : decode cX3_grow 26 = .ok (.iconst 2, 1) := zo_5 (by decide +kernel)
theorem dX3_grow_27 : decode cX3_grow 27 = .ok (.imul, 1) := zo_104 (by decide +kernel)
theorem dX3_grow_28 : decode cX3_grow 28 = .ok (.istore_n 2, 1) := zo_61 (by decide +kernel)
theorem dX3_grow_29 : decode cX3_grow 29 = .ok (.goto (-16), 3) := zo_167 (by decide +kernel)
theorem dX3_grow_32 : decode cX3_grow 32 = .ok (.aload_n 0, 1) := zo_42 (by decide +kernel)
theorem dX3_grow_33 : decode cX3_grow 33 = .ok (.iload_n 2, 1) := zo_28 (by decide +kernel)
theorem dX3_grow_34 : decode cX3_grow 34 = .ok (.newarray .int, 2) := by decide +kernel
theorem dX3_grow_36 : decode cX3_grow 36 = .ok (.putfield 18, 3) := zo_181 (by decide +kernel)
theorem dX3_grow_39 : decode cX3_grow 39 = .ok (.return_, 1) := zo_177 (by decide +kernel)
theorem dX3_tryWay_0 : decode cX3_tryWay 0 = .ok (.iload_n 3, 1) := zo_29 (by decide +kernel)
theorem dX3_tryWay_1 : decode cX3_tryWay 1 = .ok (.istore 4, 2) := zo_54 (by decide +kernel)
theorem dX3_tryWay_3 : decode cX3_tryWay 3 = .ok (.iconst 0, 1) := zo_3 (by decide +kernel)
theorem dX3_tryWay_4 : decode cX3_tryWay 4 = .ok (.istore 5, 2) := zo_54 (by decide +kernel)
theorem dX3_tryWay_6 : decode cX3_tryWay 6 = .ok (.iconst 0, 1) := zo_3 (by decide +kernel)
theorem dX3_tryWay_7 : decode cX3_tryWay 7 = .ok (.istore 6, 2) := zo_54 (by decide +kernel)
theorem dX3_tryWay_9 : decode cX3_tryWay 9 = .ok (.iload 6, 2) := zo_21 (by decide +kernel)
theorem dX3_tryWay_11 : decode cX3_tryWay 11 = .ok (.aload_n 2, 1) := zo_44 (by decide +kernel)
theorem dX3_tryWay_12 : decode cX3_tryWay 12 = .ok (.getfield 47, 3) := zo_180 (by decide +kernel)
theorem dX3_tryWay_15 : decode cX3_tryWay 15 = .ok (.if_icmp .ge 79, 3) := zo_162 (by decide +kernel)
theorem dX3_tryWay_18 : decode cX3_tryWay 18 = .ok (.iload 6, 2) := zo_21 (by decide +kernel)
theorem dX3_tryWay_20 : decode cX3_tryWay 20 = .ok (.bipush 8, 2) := zo_16 (by decide +kernel)
theorem dX3_tryWay_22 : decode cX3_tryWay 22 = .ok (.if_icmp .ge 72, 3) := zo_162 (by decide +kernel)
theorem dX3_tryWay_25 : decode cX3_tryWay 25 = .ok (.aload_n 2, 1) := zo_44 (by decide +kernel)
theorem dX3_tryWay_26 : decode cX3_tryWay 26 = .ok (.getfield 52, 3) := zo_180 (by decide +kernel)
theorem dX3_tryWay_29 : decode cX3_tryWay 29 = .ok (.iload 6, 2) := zo_21 (by decide +kernel)
theorem dX3_tryWay_31 : decode cX3_tryWay 31 = .ok (.iaload, 1) := zo_46 (by decide +kernel)
theorem dX3_tryWay_32 : decode cX3_tryWay 32 = .ok (.istore 7, 2) := zo_54 (by decide +kernel)
theorem dX3_tryWay_34 : decode cX3_tryWay 34 = .ok (.aload_n 1, 1) := zo_43 (by decide +kernel)
theorem dX3_tryWay_35 : decode cX3_tryWay 35 = .ok (.getfield 55, 3) := zo_180 (by decide +kernel)
theorem dX3_tryWay_38 : decode cX3_tryWay 38 = .ok (.iload 7, 2) := zo_21 (by decide +kernel)
theorem dX3_tryWay_40 : decode cX3_tryWay 40 = .ok (.invokevirtual 58, 3) := zo_182 (by decide +kernel)
theorem dX3_tryWay_43 : decode cX3_tryWay 43 = .ok (.ifCond .eq 21, 3) := zo_153 (by decide +kernel)
theorem dX3_tryWay_46 : decode cX3_tryWay 46 = .ok (.aload_n 1, 1) := zo_43 (by decide +kernel)
theorem dX3_tryWay_47 : decode cX3_tryWay 47 = .ok (.iload 4, 2) := zo_21 (by decide +kernel)
theorem dX3_tryWay_49 : decode cX3_tryWay 49 = .ok (.iload 7, 2) := zo_21 (by decide +kernel)
theorem dX3_tryWay_51 : decode cX3_tryWay 51 = .ok (.aload_n 2, 1) := zo_44 (by decide +kernel)
theorem dX3_tryWay_52 : decode cX3_tryWay 52 = .ok (.getfield 64, 3) := zo_180 (by decide +kernel)
theorem dX3_tryWay_55 : decode cX3_tryWay 55 = .ok (.iload 6, 2) := zo_21 (by decide +kernel)
theorem dX3_tryWay_57 : decode cX3_tryWay 57 = .ok (.iaload, 1) := zo_46 (by decide +kernel)
theorem dX3_tryWay_58 : decode cX3_tryWay 58 = .ok (.invokestatic 67, 3) := zo_184 (by decide +kernel)
theorem dX3_tryWay_61 : decode cX3_tryWay 61 = .ok (.ifCond .ne 4, 3) := zo_154 (by decide +kernel)
theorem dX3_tryWay_64 : decode cX3_tryWay 64 = .ok (.return_, 1) := zo_177 (by decide +kernel)
theorem dX3_tryWay_65 : decode cX3_tryWay 65 = .ok (.iload 5, 2) := zo_21 (by decide +kernel)
theorem dX3_tryWay_67 : decode cX3_tryWay 67 = .ok (.aload_n 1, 1) := zo_43 (by decide +kernel)
theorem dX3_tryWay_68 : decode cX3_tryWay 68 = .ok (.iload 4, 2) := zo_21 (by decide +kernel)
theorem dX3_tryWay_70 : decode cX3_tryWay 70 = .ok (.iload 7, 2) := zo_21 (by decide +kernel)
theorem dX3_tryWay_72 : decode cX3_tryWay 72 = .ok (.invokevirtual 71, 3) := zo_182 (by decide +kernel)
theorem dX3_tryWay_75 : decode cX3_tryWay 75 = .ok (.iadd, 1) := zo_96 (by decide +kernel)
theorem dX3_tryWay_76 : decode cX3_tryWay 76 = .ok (.istore 5, 2) := zo_54 (by decide +kernel)
theorem dX3_tryWay_78 : decode cX3_tryWay 78 = .ok (.aload_n 1, 1) := zo_43 (by decide +kernel)
theorem dX3_tryWay_79 : decode cX3_tryWay 79 = .ok (.iload 4, 2) := zo_21 (by decide +kernel)
theorem dX3_tryWay_81 : decode cX3_tryWay 81 = .ok (.iload 7, 2) := zo_21 (by decide +kernel)
theorem dX3_tryWay_83 : decode cX3_tryWay 83 = .ok (.invokevirtual 75, 3) := zo_182 (by decide +kernel)
theorem dX3_tryWay_86 : decode cX3_tryWay 86 = .ok (.istore 4, 2) := zo_54 (by decide +kernel)
theorem dX3_tryWay_88 : decode cX3_tryWay 88 = .ok (.iinc 6 1, 3) := zo_132 (by decide +kernel)
theorem dX3_tryWay_91 : decode cX3_tryWay 91 = .ok (.goto (-82), 3) := zo_167 (by decide +kernel)
theorem dX3_tryWay_94 : decode cX3_tryWay 94 = .ok (.aload_n 0, 1) := zo_42 (by decide +kernel)
theorem dX3_tryWay_95 : decode cX3_tryWay 95 = .ok (.getfield 34, 3) := zo_180 (by decide +kernel)
theorem dX3_tryWay_98 : decode cX3_tryWay 98 = .ok (.aload_n 0, 1) := zo_42 (by decide +kernel)
theorem dX3_tryWay_99 : decode cX3_tryWay 99 = .ok (.getfield 18, 3) := zo_180 (by decide +kernel)
theorem dX3_tryWay_102 : decode cX3_tryWay 102 = .ok (.arraylength, 1) := zo_190 (by decide +kernel)
theorem dX3_tryWay_103 : decode cX3_tryWay 103 = .ok (.if_icmp .ge 67, 3) := zo_162 (by decide +kernel)
theorem dX3_tryWay_106 : decode cX3_tryWay 106 = .ok (.aload_n 0, 1) := zo_42 (by decide +kernel)
theorem dX3_tryWay_107 : decode cX3_tryWay 107 = .ok (.aload_n 0, 1) := zo_42 (by decide +kernel)
theorem dX3_tryWay_108 : decode cX3_tryWay 108 = .ok (.getfield 34, 3) := zo_180 (by decide +kernel)
theorem dX3_tryWay_111 : decode cX3_tryWay 111 = .ok (.ifCond .ne 8, 3) := zo_154 (by decide +kernel)
theorem dX3_tryWay_114 : decode cX3_tryWay 114 = .ok (.iload 5, 2) := zo_21 (by decide +kernel)
theorem dX3_tryWay_116 : decode cX3_tryWay 116 = .ok (.goto 12, 3) := zo_167 (by decide +kernel)
theorem dX3_tryWay_119 : decode cX3_tryWay 119 = .ok (.aload_n 0, 1) := zo_42 (by decide +kernel)
theorem dX3_tryWay_120 : decode cX3_tryWay 120 = .ok (.getfield 37, 3) := zo_180 (by decide +kernel)
theorem dX3_tryWay_123 : decode cX3_tryWay 123 = .ok (.iload 5, 2) := zo_21 (by decide +kernel)
theorem dX3_tryWay_125 : decode cX3_tryWay 125 = .ok (.invokestatic 78, 3) := zo_184 (by decide +kernel)
theorem dX3_tryWay_128 : decode cX3_tryWay 128 = .ok (.putfield 37, 3) := zo_181 (by decide +kernel)
theorem dX3_tryWay_131 : decode cX3_tryWay 131 = .ok (.aload_n 0, 1) := zo_42 (by decide +kernel)
theorem dX3_tryWay_132 : decode cX3_tryWay 132 = .ok (.aload_n 0, 1) := zo_42 (by decide +kernel)
theorem dX3_tryWay_133 : decode cX3_tryWay 133 = .ok (.getfield 40, 3) := zo_180 (by decide +kernel)
theorem dX3_tryWay_136 : decode cX3_tryWay 136 = .ok (.iload 5, 2) := zo_21 (by decide +kernel)
theorem dX3_tryWay_138 : decode cX3_tryWay 138 = .ok (.invokestatic 83, 3) := zo_184 (by decide +kernel)
theorem dX3_tryWay_141 : decode cX3_tryWay 141 = .ok (.putfield 40, 3) := zo_181 (by decide +kernel)
theorem dX3_tryWay_144 : decode cX3_tryWay 144 = .ok (.aload_n 0, 1) := zo_42 (by decide +kernel)
theorem dX3_tryWay_145 : decode cX3_tryWay 145 = .ok (.getfield 18, 3) := zo_180 (by decide +kernel)
theorem dX3_tryWay_148 : decode cX3_tryWay 148 = .ok (.aload_n 0, 1) := zo_42 (by decide +kernel)
theorem dX3_tryWay_149 : decode cX3_tryWay 149 = .ok (.getfield 34, 3) := zo_180 (by decide +kernel)
theorem dX3_tryWay_152 : decode cX3_tryWay 152 = .ok (.iload 4, 2) := zo_21 (by decide +kernel)
theorem dX3_tryWay_154 : decode cX3_tryWay 154 = .ok (.bipush 14, 2) := zo_16 (by decide +kernel)
theorem dX3_tryWay_156 : decode cX3_tryWay 156 = .ok (.ishl, 1) := zo_120 (by decide +kernel)
theorem dX3_tryWay_157 : decode cX3_tryWay 157 = .ok (.iload_n 3, 1) := zo_29 (by decide +kernel)
theorem dX3_tryWay_158 : decode cX3_tryWay 158 = .ok (.iadd, 1) := zo_96 (by decide +kernel)
theorem dX3_tryWay_159 : decode cX3_tryWay 159 = .ok (.iastore, 1) := zo_79 (by decide +kernel)
theorem dX3_tryWay_160 : decode cX3_tryWay 160 = .ok (.aload_n 0, 1) := zo_42 (by decide +kernel)
theorem dX3_tryWay_161 : decode cX3_tryWay 161 = .ok (.dup, 1) := zo_89 (by decide +kernel)
theorem dX3_tryWay_162 : decode cX3_tryWay 162 = .ok (.getfield 34, 3) := zo_180 (by decide +kernel)
theorem dX3_tryWay_165 : decode cX3_tryWay 165 = .ok (.iconst 1, 1) := zo_4 (by decide +kernel)
theorem dX3_tryWay_166 : decode cX3_tryWay 166 = .ok (.iadd, 1) := zo_96 (by decide +kernel)
theorem dX3_tryWay_167 : decode cX3_tryWay 167 = .ok (.putfield 34, 3) := zo_181 (by decide +kernel)
theorem dX3_tryWay_170 : decode cX3_tryWay 170 = .ok (.return_, 1) := zo_177 (by decide +kernel)
theorem dX3_find_0 : decode cX3_find 0 = .ok (.aload_n 0, 1) := zo_42 (by decide +kernel)
theorem dX3_find_1 : decode cX3_find 1 = .ok (.aload_n 1, 1) := zo_43 (by decide +kernel)
theorem dX3_find_2 : decode cX3_find 2 = .ok (.getfield 25, 3) := zo_180 (by decide +kernel)
theorem dX3_find_5 : decode cX3_find 5 = .ok (.invokevirtual 30, 3) := zo_182 (by decide +kernel)
theorem dX3_find_8 : decode cX3_find 8 = .ok (.aload_n 0, 1) := zo_42 (by decide +kernel)
theorem dX3_find_9 : decode cX3_find 9 = .ok (.iconst 0, 1) := zo_3 (by decide +kernel)
theorem dX3_find_10 : decode cX3_find 10 = .ok (.putfield 34, 3) := zo_181 (by decide +kernel)
theorem dX3_find_13 : decode cX3_find 13 = .ok (.aload_n 0, 1) := zo_42 (by decide +kernel)
theorem dX3_find_14 : decode cX3_find 14 = .ok (.iconst 0, 1) := zo_3 (by decide +kernel)
theorem dX3_find_15 : decode cX3_find 15 = .ok (.putfield 37, 3) := zo_181 (by decide +kernel)
theorem dX3_find_18 : decode cX3_find 18 = .ok (.aload_n 0, 1) := zo_42 (by decide +kernel)
theorem dX3_find_19 : decode cX3_find 19 = .ok (.iconst 0, 1) := zo_3 (by decide +kernel)
theorem dX3_find_20 : decode cX3_find 20 = .ok (.putfield 40, 3) := zo_181 (by decide +kernel)
theorem dX3_find_23 : decode cX3_find 23 = .ok (.iconst 0, 1) := zo_3 (by decide +kernel)
theorem dX3_find_24 : decode cX3_find 24 = .ok (.istore_n 3, 1) := zo_62 (by decide +kernel)
theorem dX3_find_25 : decode cX3_find 25 = .ok (.iload_n 3, 1) := zo_29 (by decide +kernel)
theorem dX3_find_26 : decode cX3_find 26 = .ok (.aload_n 1, 1) := zo_43 (by decide +kernel)
theorem dX3_find_27 : decode cX3_find 27 = .ok (.getfield 25, 3) := zo_180 (by decide +kernel)
theorem dX3_find_30 : decode cX3_find 30 = .ok (.if_icmp .ge 23, 3) := zo_162 (by decide +kernel)
theorem dX3_find_33 : decode cX3_find 33 = .ok (.iload_n 3, 1) := zo_29 (by decide +kernel)
theorem dX3_find_34 : decode cX3_find 34 = .ok (.sipush 16383, 3) := zo_17 (by decide +kernel)
theorem dX3_find_37 : decode cX3_find 37 = .ok (.if_icmp .gt 16, 3) := zo_163 (by decide +kernel)
theorem dX3_find_40 : decode cX3_find 40 = .ok (.aload_n 0, 1) := zo_42 (by decide +kernel)
theorem dX3_find_41 : decode cX3_find 41 = .ok (.aload_n 1, 1) := zo_43 (by decide +kernel)
theorem dX3_find_42 : decode cX3_find 42 = .ok (.aload_n 2, 1) := zo_44 (by decide +kernel)
theorem dX3_find_43 : decode cX3_find 43 = .ok (.iload_n 3, 1) := zo_29 (by decide +kernel)
theorem dX3_find_44 : decode cX3_find 44 = .ok (.invokevirtual 43, 3) := zo_182 (by decide +kernel)
theorem dX3_find_47 : decode cX3_find 47 = .ok (.iinc 3 1, 3) := zo_132 (by decide +kernel)
theorem dX3_find_50 : decode cX3_find 50 = .ok (.goto (-25), 3) := zo_167 (by decide +kernel)
theorem dX3_find_53 : decode cX3_find 53 = .ok (.return_, 1) := zo_177 (by decide +kernel)

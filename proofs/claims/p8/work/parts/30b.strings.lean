theorem zLen_le : ∀ i, i < 12 → zLen.getD i 0 ≤ 7 := by decide +kernel
theorem zLen_sh : ∀ i, i < 12 → nI (zLen.getD i 0) >>> ((0 : Int32) &&& 31) = nI (zLen.getD i 0) := by decide +kernel
def zChar (i k : Nat) : Int32 := (((((zByt.getD i []).getD k 0) &&& 255).toUInt32) % 65536).toInt32
theorem zChar_n : ∀ i, i < 12 → ∀ k, k < 7 → narrow .char (.int (zChar i k)) = .int (zChar i k) := by decide +kernel
set_option maxHeartbeats 4000000 in
set_option maxRecDepth 100000 in
/-- c_coder -/
theorem c_coder (l : Launch) (T : zTy) (i : Nat) (hi : i < 12) : zMi l T yJ0_coder_7d493 cJ0_coder_7d493 1 (some .byte) 1 0 0 [.ref (T.2 (100 + i))] [] (fun (r : Int32) bs => bs = [] ∧ r = 0) := by
  refine zMi_of (own := RJ0) (by decide) rfl (Nat.le_of_ble_eq_true rfl) ?_
  intro p e s m args below meth c A ls C hr hlocks hnm hAe G hl
  have hx := C.1
  have hb := C.2.1
  have hl : lv_has ls 1 [(0, .ref (T.2 (100 + i)))] := hl
  refine z_gst C G G.2.2.2.2.2.2.2.2.2.1 m_fs_RJ0_38 dJ0_coder_7d493_0 ?_
  refine lv_if_eq (tgt := 13) hx hb dJ0_coder_7d493_3 (by decide) (fun q => absurd q (by decide)) (fun _ => ?_)
  refine lv_aload_n hx hb dJ0_coder_7d493_6 rfl (lv_at hl 0 rfl) ?_
  refine z_scod C G (i := i) (by first | assumption | omega) m_fs_RJ0_15 dJ0_coder_7d493_7 ?_
  refine lv_goto (tgt := 14) hx hb dJ0_coder_7d493_10 (by decide) ?_
  exact z_zret C hr hlocks G (Nat.le_of_ble_eq_true rfl) (Nat.le_of_ble_eq_true rfl) dJ0_coder_7d493_14 rfl ⟨rfl, rfl⟩
set_option maxHeartbeats 4000000 in
set_option maxRecDepth 100000 in
/-- c_isLatin1 -/
theorem c_isLatin1 (l : Launch) (T : zTy) (i : Nat) (hi : i < 12) : zMi l T yJ0_isLatin1_aae02 cJ0_isLatin1_aae02 1 (some .boolean) 1 0 0 [.ref (T.2 (100 + i))] [] (fun (r : Int32) bs => bs = [] ∧ r = 1) := by
  refine zMi_of (own := RJ0) (by decide) rfl (Nat.le_of_ble_eq_true rfl) ?_
  intro p e s m args below meth c A ls C hr hlocks hnm hAe G hl
  have hx := C.1
  have hb := C.2.1
  have hl : lv_has ls 1 [(0, .ref (T.2 (100 + i)))] := hl
  refine z_gst C G G.2.2.2.2.2.2.2.2.2.1 m_fs_RJ0_38 dJ0_isLatin1_aae02_0 ?_
  refine lv_if_eq (tgt := 17) hx hb dJ0_isLatin1_aae02_3 (by decide) (fun q => absurd q (by decide)) (fun _ => ?_)
  refine lv_aload_n hx hb dJ0_isLatin1_aae02_6 rfl (lv_at hl 0 rfl) ?_
  refine z_scod C G (i := i) (by first | assumption | omega) m_fs_RJ0_15 dJ0_isLatin1_aae02_7 ?_
  refine lv_if_ne (tgt := 17) hx hb dJ0_isLatin1_aae02_10 (by decide) (fun q => absurd (by decide) q) (fun _ => ?_)
  refine lv_iconst (v := 1) hx hb dJ0_isLatin1_aae02_13 (by decide) ?_
  refine lv_goto (tgt := 18) hx hb dJ0_isLatin1_aae02_14 (by decide) ?_
  exact z_zret C hr hlocks G (Nat.le_of_ble_eq_true rfl) (Nat.le_of_ble_eq_true rfl) dJ0_isLatin1_aae02_18 rfl ⟨rfl, rfl⟩
set_option maxHeartbeats 4000000 in
set_option maxRecDepth 100000 in
/-- c_slen -/
theorem c_slen (l : Launch) (T : zTy) (i : Nat) (hi : i < 12) : zMi l T yJ0_length_8abf5 cJ0_length_8abf5 1 (some .int) 2 0 0 [.ref (T.2 (100 + i))] [] (fun (r : Int32) bs => bs = [] ∧ r = nI (zLen.getD i 0)) := by
  refine zMi_of (own := RJ0) (by decide) rfl (Nat.le_of_ble_eq_true rfl) ?_
  intro p e s m args below meth c A ls C hr hlocks hnm hAe G hl
  have hx := C.1
  have hb := C.2.1
  have hl : lv_has ls 1 [(0, .ref (T.2 (100 + i)))] := hl
  refine lv_aload_n hx hb dJ0_length_8abf5_0 rfl (lv_at hl 0 rfl) ?_
  refine z_sval C G (i := i) (by first | assumption | omega) m_fs_RJ0_9 dJ0_length_8abf5_1 ?_
  refine z_sbl C G (i := i) (by first | assumption | omega) dJ0_length_8abf5_4 ?_
  refine lv_aload_n hx hb dJ0_length_8abf5_5 rfl (lv_at hl 0 rfl) ?_
  refine z_Wi (bc := []) (br := []) (As := []) (rest := [.int (nI (zLen.getD i 0))]) C G (c_coder l T i (by first | assumption | omega | rfl)) (kV_RJ0_335 C.2.2.2.2 (Nat.le_of_ble_eq_true rfl) (Nat.le_of_ble_eq_true rfl)) [] [] rfl rfl (z_srecv G (by first | assumption | omega)) rfl rfl hl.1 dJ0_length_8abf5_6 (Nat.le_of_ble_eq_true rfl) (Nat.le_of_ble_eq_true rfl) (fun r_2 b1 H locs hw G => ?_)
  obtain ⟨rfl, h_1⟩ := hw
  have G : zS T A s.heap s [] _ _ := G
  subst h_1
  refine lv_ishr hx hb dJ0_length_8abf5_9 ?_
  exact z_iret C hr hlocks G (Nat.le_of_ble_eq_true rfl) (Nat.le_of_ble_eq_true rfl) dJ0_length_8abf5_10 ⟨rfl, (zLen_sh i hi)⟩
set_option maxHeartbeats 4000000 in
set_option maxRecDepth 100000 in
/-- c_pIndexN -/
theorem c_pIndexN (l : Launch) (T : zTy) (x : Int32) (y : Int32) (hx0 : 0 ≤ x.toInt) (hxy : x.toInt < y.toInt) : zMi l T yJ3_checkIndex_8e157 cJ3_checkIndex_8e157 3 (some .int) 1 0 0 [.int x, .int y, .null] [] (fun (r : Int32) bs => bs = [] ∧ r = x) := by
  refine zMi_of (own := RJ3) (by decide) rfl (Nat.le_of_ble_eq_true rfl) ?_
  intro p e s m args below meth c A ls C hr hlocks hnm hAe G hl
  have hx := C.1
  have hb := C.2.1
  have hl : lv_has ls 3 [(0, .int x), (1, .int y), (2, .null)] := hl
  refine lv_iload_n hx hb dJ3_checkIndex_8e157_0 rfl (lv_at hl 0 rfl) ?_
  refine lv_if_lt (tgt := 9) hx hb dJ3_checkIndex_8e157_1 (by decide) (fun q => absurd q (fun q2 => absurd (show x.toInt < (0 : Int) from (fa_lt x (0 : Int32)).mp q2) (by omega))) (fun _ => ?_)
  refine lv_iload_n hx hb dJ3_checkIndex_8e157_4 rfl (lv_at hl 0 rfl) ?_
  refine lv_iload_n hx hb dJ3_checkIndex_8e157_5 rfl (lv_at hl 1 rfl) ?_
  refine lv_icmp_lt (tgt := 16) hx hb dJ3_checkIndex_8e157_6 (by decide) (fun _ => ?_) (fun q => absurd ((fa_lt x y).mpr (by show x.toInt < y.toInt; omega)) q)
  refine lv_iload_n hx hb dJ3_checkIndex_8e157_16 rfl (lv_at hl 0 rfl) ?_
  exact z_iret C hr hlocks G (Nat.le_of_ble_eq_true rfl) (Nat.le_of_ble_eq_true rfl) dJ3_checkIndex_8e157_17 ⟨rfl, rfl⟩
set_option maxHeartbeats 4000000 in
set_option maxRecDepth 100000 in
/-- c_pIndexR -/
theorem c_pIndexR (l : Launch) (T : zTy) (x : Int32) (y : Int32) (q : Nat) (hx0 : 0 ≤ x.toInt) (hxy : x.toInt < y.toInt) : zMi l T yJ3_checkIndex_8e157 cJ3_checkIndex_8e157 3 (some .int) 1 0 0 [.int x, .int y, .ref q] [] (fun (r : Int32) bs => bs = [] ∧ r = x) := by
  refine zMi_of (own := RJ3) (by decide) rfl (Nat.le_of_ble_eq_true rfl) ?_
  intro p e s m args below meth c A ls C hr hlocks hnm hAe G hl
  have hx := C.1
  have hb := C.2.1
  have hl : lv_has ls 3 [(0, .int x), (1, .int y), (2, .ref q)] := hl
  refine lv_iload_n hx hb dJ3_checkIndex_8e157_0 rfl (lv_at hl 0 rfl) ?_
  refine lv_if_lt (tgt := 9) hx hb dJ3_checkIndex_8e157_1 (by decide) (fun q => absurd q (fun q2 => absurd (show x.toInt < (0 : Int) from (fa_lt x (0 : Int32)).mp q2) (by omega))) (fun _ => ?_)
  refine lv_iload_n hx hb dJ3_checkIndex_8e157_4 rfl (lv_at hl 0 rfl) ?_
  refine lv_iload_n hx hb dJ3_checkIndex_8e157_5 rfl (lv_at hl 1 rfl) ?_
  refine lv_icmp_lt (tgt := 16) hx hb dJ3_checkIndex_8e157_6 (by decide) (fun _ => ?_) (fun q => absurd ((fa_lt x y).mpr (by show x.toInt < y.toInt; omega)) q)
  refine lv_iload_n hx hb dJ3_checkIndex_8e157_16 rfl (lv_at hl 0 rfl) ?_
  exact z_iret C hr hlocks G (Nat.le_of_ble_eq_true rfl) (Nat.le_of_ble_eq_true rfl) dJ3_checkIndex_8e157_17 ⟨rfl, rfl⟩
set_option maxHeartbeats 4000000 in
set_option maxRecDepth 100000 in
/-- c_sIndex -/
theorem c_sIndex (l : Launch) (T : zTy) (x : Int32) (y : Int32) (hx0 : 0 ≤ x.toInt) (hxy : x.toInt < y.toInt) : zMv l T yJ0_checkIndex_df160 cJ0_checkIndex_df160 2 2 0 0 [.int x, .int y] [] (fun bs => bs = []) := by
  refine zMv_of (own := RJ0) (by decide) rfl (Nat.le_of_ble_eq_true rfl) ?_
  intro p e s m args below meth c A ls C hr hlocks hnm hAe G hl
  have hx := C.1
  have hb := C.2.1
  have hl : lv_has ls 2 [(0, .int x), (1, .int y)] := hl
  refine lv_iload_n hx hb dJ0_checkIndex_df160_0 rfl (lv_at hl 0 rfl) ?_
  refine lv_iload_n hx hb dJ0_checkIndex_df160_1 rfl (lv_at hl 1 rfl) ?_
  obtain ⟨q_1, eq_1⟩ := zZq G.2.2.2.2.2.2.2.2.2.2.1
  rcases q_1 with _ | q_1
  · refine z_gst C G (v := .null) eq_1 m_fs_RJ0_1053 dJ0_checkIndex_df160_2 ?_
    refine z_Si (bc := []) (br := []) (As := [.int x, .int y, .null]) (rest := []) C G (c_pIndexN l T x y (by first | assumption | omega | rfl) (by first | assumption | omega | rfl)) (kS_RJ0_1059 C.2.2.2.2 (Nat.le_of_ble_eq_true rfl) (Nat.le_of_ble_eq_true rfl)) [] [] rfl rfl rfl rfl hl.1 dJ0_checkIndex_df160_5 (Nat.le_of_ble_eq_true rfl) (Nat.le_of_ble_eq_true rfl) (fun r_3 b1 H locs hw G => ?_)
    obtain ⟨rfl, h_2⟩ := hw
    have G : zS T A s.heap s [] _ _ := G
    subst h_2
    refine lv_pop hx hb dJ0_checkIndex_df160_8 rfl ?_
    exact z_vret C hr hlocks G (Nat.le_of_ble_eq_true rfl) (Nat.le_of_ble_eq_true rfl) dJ0_checkIndex_df160_9 rfl
  · refine z_gst C G (v := .ref q_1) eq_1 m_fs_RJ0_1053 dJ0_checkIndex_df160_2 ?_
    refine z_Si (bc := []) (br := []) (As := [.int x, .int y, .ref q_1]) (rest := []) C G (c_pIndexR l T x y q_1 (by first | assumption | omega | rfl) (by first | assumption | omega | rfl)) (kS_RJ0_1059 C.2.2.2.2 (Nat.le_of_ble_eq_true rfl) (Nat.le_of_ble_eq_true rfl)) [] [] rfl rfl rfl rfl hl.1 dJ0_checkIndex_df160_5 (Nat.le_of_ble_eq_true rfl) (Nat.le_of_ble_eq_true rfl) (fun r_5 b1 H locs hw G => ?_)
    obtain ⟨rfl, h_4⟩ := hw
    have G : zS T A s.heap s [] _ _ := G
    subst h_4
    refine lv_pop hx hb dJ0_checkIndex_df160_8 rfl ?_
    exact z_vret C hr hlocks G (Nat.le_of_ble_eq_true rfl) (Nat.le_of_ble_eq_true rfl) dJ0_checkIndex_df160_9 rfl
set_option maxHeartbeats 4000000 in
set_option maxRecDepth 100000 in
/-- c_lchar -/
theorem c_lchar (l : Launch) (T : zTy) (i : Nat) (k : Nat) (hi : i < 12) (hk : k < zLen.getD i 0) : zMi l T yJ1_charAt_3b067 cJ1_charAt_3b067 2 (some .char) 3 0 0 [.ref (T.2 (200 + i)), .int (nI k)] [] (fun (r : Int32) bs => bs = [] ∧ r = zChar i k) := by
  refine zMi_of (own := RJ1) (by decide) rfl (Nat.le_of_ble_eq_true rfl) ?_
  intro p e s m args below meth c A ls C hr hlocks hnm hAe G hl
  have hx := C.1
  have hb := C.2.1
  have hl : lv_has ls 2 [(0, .ref (T.2 (200 + i))), (1, .int (nI k))] := hl
  have hL := zLen_le i hi
  refine lv_iload_n hx hb dJ1_charAt_3b067_0 rfl (lv_at hl 1 rfl) ?_
  refine lv_aload_n hx hb dJ1_charAt_3b067_1 rfl (lv_at hl 0 rfl) ?_
  refine z_sbl C G (i := i) (by first | assumption | omega) dJ1_charAt_3b067_2 ?_
  refine z_Sv (bc := []) (br := []) (As := [.int (nI k), .int (nI (zLen.getD i 0))]) (rest := []) C G (c_sIndex l T (nI k) (nI (zLen.getD i 0)) (by rw [nI_toInt (by omega)]; omega) (by rw [nI_toInt (by omega), nI_toInt (by omega)]; omega)) (kS_RJ1_9 C.2.2.2.2 (Nat.le_of_ble_eq_true rfl) (Nat.le_of_ble_eq_true rfl)) [] [] rfl rfl rfl rfl hl.1 dJ1_charAt_3b067_3 (Nat.le_of_ble_eq_true rfl) (Nat.le_of_ble_eq_true rfl) (fun b1 H locs hw G => ?_)
  obtain rfl := hw
  have G : zS T A s.heap s [] _ _ := G
  refine lv_aload_n hx hb dJ1_charAt_3b067_6 rfl (lv_at hl 0 rfl) ?_
  refine lv_iload_n hx hb dJ1_charAt_3b067_7 rfl (lv_at hl 1 rfl) ?_
  refine z_sbb C G (i := i) (by first | assumption | omega) (vp_in_nI (by omega) (by omega)) dJ1_charAt_3b067_8 ?_
  rw [nI_clamp (by omega)]
  refine lv_sipush (v := 255) hx hb dJ1_charAt_3b067_9 (by decide) ?_
  refine lv_iand hx hb dJ1_charAt_3b067_12 ?_
  refine lv_i2c hx hb dJ1_charAt_3b067_13 rfl ?_
  exact z_zret C hr hlocks G (Nat.le_of_ble_eq_true rfl) (Nat.le_of_ble_eq_true rfl) dJ1_charAt_3b067_14 (zChar_n i hi k (by omega)) ⟨rfl, rfl⟩
set_option maxHeartbeats 4000000 in
set_option maxRecDepth 100000 in
/-- c_schar -/
theorem c_schar (l : Launch) (T : zTy) (i : Nat) (k : Nat) (hi : i < 12) (hk : k < zLen.getD i 0) : zMi l T yJ0_charAt_5068e cJ0_charAt_5068e 2 (some .char) 4 0 0 [.ref (T.2 (100 + i)), .int (nI k)] [] (fun (r : Int32) bs => bs = [] ∧ r = zChar i k) := by
  refine zMi_of (own := RJ0) (by decide) rfl (Nat.le_of_ble_eq_true rfl) ?_
  intro p e s m args below meth c A ls C hr hlocks hnm hAe G hl
  have hx := C.1
  have hb := C.2.1
  have hl : lv_has ls 2 [(0, .ref (T.2 (100 + i))), (1, .int (nI k))] := hl
  have hL := zLen_le i hi
  refine lv_aload_n hx hb dJ0_charAt_5068e_0 rfl (lv_at hl 0 rfl) ?_
  refine z_Wi (bc := []) (br := []) (As := []) (rest := []) C G (c_isLatin1 l T i (by first | assumption | omega | rfl)) (kV_RJ0_492 C.2.2.2.2 (Nat.le_of_ble_eq_true rfl) (Nat.le_of_ble_eq_true rfl)) [] [] rfl rfl (z_srecv G (by first | assumption | omega)) rfl rfl hl.1 dJ0_charAt_5068e_1 (Nat.le_of_ble_eq_true rfl) (Nat.le_of_ble_eq_true rfl) (fun r_2 b1 H locs hw G => ?_)
  obtain ⟨rfl, h_1⟩ := hw
  have G : zS T A s.heap s [] _ _ := G
  subst h_1
  refine lv_if_eq (tgt := 16) hx hb dJ0_charAt_5068e_4 (by decide) (fun q => absurd q (by decide)) (fun _ => ?_)
  refine lv_aload_n hx hb dJ0_charAt_5068e_7 rfl (lv_at hl 0 rfl) ?_
  refine z_sval C G (i := i) (by first | assumption | omega) m_fs_RJ0_9 dJ0_charAt_5068e_8 ?_
  refine lv_iload_n hx hb dJ0_charAt_5068e_11 rfl (lv_at hl 1 rfl) ?_
  refine z_Si (bc := []) (br := []) (As := [.ref (T.2 (200 + i)), .int (nI k)]) (rest := []) C G (c_lchar l T i k (by first | assumption | omega | rfl) (by first | assumption | omega | rfl)) (kS_RJ0_495 C.2.2.2.2 (Nat.le_of_ble_eq_true rfl) (Nat.le_of_ble_eq_true rfl)) [] [] rfl rfl rfl rfl hl.1 dJ0_charAt_5068e_12 (Nat.le_of_ble_eq_true rfl) (Nat.le_of_ble_eq_true rfl) (fun r_4 b1 H locs hw G => ?_)
  obtain ⟨rfl, h_3⟩ := hw
  have G : zS T A s.heap s [] _ _ := G
  subst h_3
  exact z_zret C hr hlocks G (Nat.le_of_ble_eq_true rfl) (Nat.le_of_ble_eq_true rfl) dJ0_charAt_5068e_15 (zChar_n i hi k (by omega)) ⟨rfl, rfl⟩
theorem zDraw {n : Int32} (h1 : 1 ≤ n.toInt) (h2 : n.toInt ≤ 1000) (x : Int32) : 0 ≤ ((x.toUInt32 >>> (Int32.toUInt32 16 &&& Int32.toUInt32 31)).toInt32 - (x.toUInt32 >>> (Int32.toUInt32 16 &&& Int32.toUInt32 31)).toInt32 / n * n).toInt ∧ ((x.toUInt32 >>> (Int32.toUInt32 16 &&& Int32.toUInt32 31)).toInt32 - (x.toUInt32 >>> (Int32.toUInt32 16 &&& Int32.toUInt32 31)).toInt32 / n * n).toInt < n.toInt := by
  have hb : x.toBitVec.toNat < 4294967296 := x.toBitVec.isLt
  have e0 := pk_ushr x 16 16 (by decide)
  have hlt : x.toBitVec.toNat / 2 ^ 16 < 65536 := by omega
  have e : (x.toUInt32 >>> (Int32.toUInt32 16 &&& Int32.toUInt32 31)).toInt32 = nI (x.toBitVec.toNat / 2 ^ 16) := by
    apply Int32.toBitVec_inj.mp
    apply BitVec.eq_of_toNat_eq
    rw [e0, pk_tn (by omega)]
  have en : n = nI n.toInt.toNat := by
    apply Int32.toInt_inj.mp
    rw [nI_toInt (by omega)]
    omega
  generalize x.toBitVec.toNat / 2 ^ 16 = a at *
  rw [e]
  have hp : 0 < n.toInt.toNat := by omega
  have hn2 : n.toInt.toNat < 2 ^ 31 := by omega
  have r := pk_rem (a := a) (d := n.toInt.toNat) (by omega) hp hn2
  rw [← en] at r
  rw [r]
  have hm := Nat.mod_lt a hp
  rw [nI_toInt (by omega)]
  omega
set_option maxHeartbeats 4000000 in
set_option maxRecDepth 100000 in
/-- c_drawBelow -/
theorem c_drawBelow (l : Launch) (T : zTy) (h : Nat) (po : Nat) (la : Nat) (fw : Nat → Int32) (v0 : Int32) (v1 : Int32) (v2 : Int32) (v3 : Int32) (v4 : Int32) (v5 : Int32) (v6 : Int32) (v7 : Int32) (wc : va_W) (x : Int32) (hc : bCourse T h po la fw v0 v1 v2 v3 v4 v5 v6 v7 wc) (hx1 : 1 ≤ x.toInt) (hx9 : x.toInt ≤ 1000) : zMi l T yX1_drawBelow cX1_drawBelow 2 (some .int) 1 0 0 [.ref h, .int x] [wc] (fun (r : Int32) bs => ∃ (wc2 : va_W) (u7 : Int32), bs = [wc2] ∧ bCourse T h po la fw v0 v1 v2 v3 v4 v5 v6 u7 wc2 ∧ 0 ≤ r.toInt ∧ r.toInt < x.toInt) := by
  refine zMi_of (own := RX1) (by decide) rfl (Nat.le_of_ble_eq_true rfl) ?_
  intro p e s m args below meth c A ls C hr hlocks hnm hAe G hl
  have hx := C.1
  have hb := C.2.1
  have hl : lv_has ls 2 [(0, .ref h), (1, .int x)] := hl
  refine lv_aload_n hx hb dX1_drawBelow_0 rfl (lv_at hl 0 rfl) ?_
  refine lv_aload_n hx hb dX1_drawBelow_1 rfl (lv_at hl 0 rfl) ?_
  obtain ⟨a1_1, rfl⟩ := hc
  have G : zS T A s.heap s [[(h, .inr (1, [.ref po, .ref a1_1, .int v0, .ref la, .int v1, .int v2, .int v3, .int v4, .int v5, .int v6, .int v7]))], [(a1_1, .inl (T.2 0, 7, .inl fw))]] _ _ := G.re rfl
  refine z_get C G clX1 0 rfl 10 (by decide) m_fl_RX1_78 rfl dX1_drawBelow_2 ?_
  refine lv_ldc (v := 1103515245) hx hb C.2.2.2.1 (C.2.2.2.2 _ m_ko_RX1_91) dX1_drawBelow_5 ?_
  refine lv_imul hx hb dX1_drawBelow_7 ?_
  refine lv_sipush (v := 12345) hx hb dX1_drawBelow_8 (by decide) ?_
  refine lv_iadd hx hb dX1_drawBelow_11 ?_
  refine z_put C G clX1 0 rfl 10 (by decide) m_fl_RX1_78 rfl rfl rfl (Nat.le_of_ble_eq_true rfl) dX1_drawBelow_12 (fun H locs G => ?_)
  have G : zS T A s.heap s [[(h, .inr (1, [.ref po, .ref a1_1, .int v0, .ref la, .int v1, .int v2, .int v3, .int v4, .int v5, .int v6, .int ((v7 * 1103515245) + 12345)]))], [(a1_1, .inl (T.2 0, 7, .inl fw))]] _ _ := G
  refine lv_iload_n hx hb dX1_drawBelow_15 rfl (lv_at hl 1 rfl) ?_
  refine lv_iconst (v := 1) hx hb dX1_drawBelow_16 (by decide) ?_
  refine lv_icmp_ge (tgt := 24) hx hb dX1_drawBelow_17 (by decide) (fun _ => ?_) (fun q => absurd ((fa_le (1 : Int32) x).mpr (by show (1 : Int) ≤ x.toInt; omega)) q)
  refine lv_aload_n hx hb dX1_drawBelow_24 rfl (lv_at hl 0 rfl) ?_
  refine z_get C G clX1 0 rfl 10 (by decide) m_fl_RX1_78 rfl dX1_drawBelow_25 ?_
  refine lv_bipush (v := 16) hx hb dX1_drawBelow_28 (by decide) ?_
  refine lv_iushr hx hb dX1_drawBelow_30 rfl ?_
  refine lv_iload_n hx hb dX1_drawBelow_31 rfl (lv_at hl 1 rfl) ?_
  refine lv_irem hx hb dX1_drawBelow_32 (fun q => absurd (show x.toInt = 0 from by rw [q]; rfl) (by omega)) ?_
  have hw_2 : bCourse T h po la fw v0 v1 v2 v3 v4 v5 v6 ((v7 * 1103515245) + 12345) [(h, .inr (1, [.ref po, .ref a1_1, .int v0, .ref la, .int v1, .int v2, .int v3, .int v4, .int v5, .int v6, .int ((v7 * 1103515245) + 12345)])), (a1_1, .inl (T.2 0, 7, .inl fw))] := ⟨a1_1, rfl⟩
  have G : zS T A s.heap s [[(h, .inr (1, [.ref po, .ref a1_1, .int v0, .ref la, .int v1, .int v2, .int v3, .int v4, .int v5, .int v6, .int ((v7 * 1103515245) + 12345)])), (a1_1, .inl (T.2 0, 7, .inl fw))]] _ _ := G.re rfl
  exact z_iret C hr hlocks G (Nat.le_of_ble_eq_true rfl) (Nat.le_of_ble_eq_true rfl) dX1_drawBelow_33 ⟨([(h, .inr (1, [.ref po, .ref a1_1, .int v0, .ref la, .int v1, .int v2, .int v3, .int v4, .int v5, .int v6, .int ((v7 * 1103515245) + 12345)])), (a1_1, .inl (T.2 0, 7, .inl fw))]), ((v7 * 1103515245) + 12345), rfl, hw_2, (zDraw hx1 hx9 _).1, (zDraw hx1 hx9 _).2⟩
set_option maxHeartbeats 4000000 in
set_option maxRecDepth 100000 in
/-- draw -/
theorem c_draw (l : Launch) (T : zTy) (h : Nat) (po : Nat) (la : Nat) (fw : Nat → Int32) (v0 : Int32) (v1 : Int32) (v2 : Int32) (v3 : Int32) (v4 : Int32) (v5 : Int32) (v6 : Int32) (v7 : Int32) (wc : va_W) (lp : Nat) (f1 : Nat → Int32) (f2 : Nat → Int32) (f3 : Nat → Int32) (st : Int32) (wh : Int32) (wp : va_W) (o : Nat) (cr : Int32) (inn : Int32) (k1 : Nat → Int32) (k2 : Nat → Int32) (k3 : Nat → Int32) (k4 : Nat → Int32) (z : va_W) (sd : Int32) (n : Int32) (hc : bCourse T h po la fw v0 v1 v2 v3 v4 v5 v6 v7 wc) (hp : bPosts T po lp f1 f2 f3 st wh wp) (hz : bLand T o cr inn k1 k2 k3 k4 z) (hI : zLI cr k1 k3) : zMv l T yX1_draw cX1_draw 8 7 0 0 [.ref h, .ref o, .int sd, .int n] [wc, wp, z] (fun bs => ∃ (wc2 : va_W) (gw : Nat → Int32) (u0 : Int32) (u1 : Int32) (u2 : Int32) (u3 : Int32) (u4 : Int32) (u5 : Int32) (u6 : Int32) (u7 : Int32) (wp2 : va_W) (g1 : Nat → Int32) (g2 : Nat → Int32) (g3 : Nat → Int32) (sa : Int32) (wa : Int32), bs = [wc2, wp2, z] ∧ bCourse T h po o gw u0 u1 u2 u3 u4 u5 u6 u7 wc2 ∧ bPosts T po o g1 g2 g3 sa wa wp2 ∧ zP3 g1 g3) := by
  refine zMv_of (own := RX1) (by decide) rfl (Nat.le_of_ble_eq_true rfl) ?_
  intro p e s m args below meth c A ls C hr hlocks hnm hAe G hl
  have hx := C.1
  have hb := C.2.1
  have hl : lv_has ls 8 [(0, .ref h), (1, .ref o), (2, .int sd), (3, .int n)] := hl
  refine lv_aload_n hx hb dX1_draw_0 rfl (lv_at hl 0 rfl) ?_
  refine lv_aload_n hx hb dX1_draw_1 rfl (lv_at hl 1 rfl) ?_
  refine z_Vv (bc := [wc, wp, z]) (br := []) (As := [.ref o]) (rest := []) C G (c_Course_begin l T h po la fw v0 v1 v2 v3 v4 v5 v6 v7 wc lp f1 f2 f3 st wh wp o cr inn k1 k2 k3 k4 z hc hp hz (by first | assumption | omega | rfl)) (kV_RX1_59 C.2.2.2.2 (Nat.le_of_ble_eq_true rfl) (Nat.le_of_ble_eq_true rfl)) [0, 1, 2] [] rfl rfl (ci := 1) (qc := (RX1, TX1, 11)) rfl rfl (List.mem_flatten.mpr ⟨_, List.mem_of_getElem? (i := 0) rfl, (bCourse_mem hc).choose_spec⟩) rfl rfl hl.1 dX1_draw_2 (Nat.le_of_ble_eq_true rfl) (Nat.le_of_ble_eq_true rfl) (fun b1 H locs hw G => ?_)
  obtain ⟨wc2_1, gw_2, u6_3, wp2_4, g1_5, g2_6, g3_7, rfl, h_8, h_9, h_10, h_11, h_12, h_13, h_14⟩ := hw
  have G : zS T A s.heap s [wc2_1, wp2_4, z] _ _ := G
  have hQ : zP3 g1_5 g3_7 := h_11
  have hcr := hI.1
  refine lv_aload_n hx hb dX1_draw_5 rfl (lv_at hl 0 rfl) ?_
  refine lv_iload_n hx hb dX1_draw_6 rfl (lv_at hl 2 rfl) ?_
  obtain ⟨a1_16, rfl⟩ := h_8
  have G : zS T A s.heap s [[(h, .inr (1, [.ref po, .ref a1_16, .int 0, .ref o, .int 0, .int 0, .int (-1), .int 0, .int 0, .int u6_3, .int v7]))], [(a1_16, .inl (T.2 0, 7, .inl gw_2))], wp2_4, z] _ _ := G.re rfl
  refine z_put C G clX1 0 rfl 10 (by decide) m_fl_RX1_78 rfl rfl rfl (Nat.le_of_ble_eq_true rfl) dX1_draw_7 (fun H locs G => ?_)
  have G : zS T A s.heap s [[(h, .inr (1, [.ref po, .ref a1_16, .int 0, .ref o, .int 0, .int 0, .int (-1), .int 0, .int 0, .int u6_3, .int sd]))], [(a1_16, .inl (T.2 0, 7, .inl gw_2))], wp2_4, z] _ _ := G
  refine lv_iconst (v := 0) hx hb dX1_draw_10 (by decide) ?_
  refine lv_istore (lv' := [(4, .int 0), (0, .ref h), (1, .ref o), (2, .int sd), (3, .int n)]) hx hb dX1_draw_11 hl (by decide) rfl (fun ls hl => ?_)
  obtain ⟨a1_17, a2_18, a3_19, rfl⟩ := h_9
  have G : zS T A s.heap s [[(h, .inr (1, [.ref po, .ref a1_16, .int 0, .ref o, .int 0, .int 0, .int (-1), .int 0, .int 0, .int u6_3, .int sd]))], [(a1_16, .inl (T.2 0, 7, .inl gw_2))], [(po, .inr (6, [.ref o, .ref a1_17, .ref a2_18, .int 0, .int 0, .ref a3_19]))], [(a1_17, .inl (T.2 0, 7, .inl g1_5))], [(a2_18, .inl (T.2 0, 7, .inl g2_6))], [(a3_19, .inl (T.2 0, 7, .inl g3_7))], z] _ _ := G.re rfl
  obtain ⟨a1_20, a2_21, a3_22, a4_23, rfl⟩ := hz
  have G : zS T A s.heap s [[(h, .inr (1, [.ref po, .ref a1_16, .int 0, .ref o, .int 0, .int 0, .int (-1), .int 0, .int 0, .int u6_3, .int sd]))], [(a1_16, .inl (T.2 0, 7, .inl gw_2))], [(po, .inr (6, [.ref o, .ref a1_17, .ref a2_18, .int 0, .int 0, .ref a3_19]))], [(a1_17, .inl (T.2 0, 7, .inl g1_5))], [(a2_18, .inl (T.2 0, 7, .inl g2_6))], [(a3_19, .inl (T.2 0, 7, .inl g3_7))], [(o, .inr (4, [.int cr, .int inn, .ref a1_20, .ref a2_21, .ref a3_22, .ref a4_23]))], [(a1_20, .inl (T.2 0, 7, .inl k1))], [(a2_21, .inl (T.2 0, 28, .inl k2))], [(a3_22, .inl (T.2 0, 7, .inl k3))], [(a4_23, .inl (T.2 0, 7, .inl k4))]] _ _ := G.re rfl
  have hw_24 : bCourse T h po o gw_2 0 0 0 (-1) 0 0 u6_3 sd [(h, .inr (1, [.ref po, .ref a1_16, .int 0, .ref o, .int 0, .int 0, .int (-1), .int 0, .int 0, .int u6_3, .int sd])), (a1_16, .inl (T.2 0, 7, .inl gw_2))] := ⟨a1_16, rfl⟩
  have G : zS T A s.heap s [[(h, .inr (1, [.ref po, .ref a1_16, .int 0, .ref o, .int 0, .int 0, .int (-1), .int 0, .int 0, .int u6_3, .int sd])), (a1_16, .inl (T.2 0, 7, .inl gw_2))], [(po, .inr (6, [.ref o, .ref a1_17, .ref a2_18, .int 0, .int 0, .ref a3_19]))], [(a1_17, .inl (T.2 0, 7, .inl g1_5))], [(a2_18, .inl (T.2 0, 7, .inl g2_6))], [(a3_19, .inl (T.2 0, 7, .inl g3_7))], [(o, .inr (4, [.int cr, .int inn, .ref a1_20, .ref a2_21, .ref a3_22, .ref a4_23]))], [(a1_20, .inl (T.2 0, 7, .inl k1))], [(a2_21, .inl (T.2 0, 28, .inl k2))], [(a3_22, .inl (T.2 0, 7, .inl k3))], [(a4_23, .inl (T.2 0, 7, .inl k4))]] _ _ := G.re rfl
  have hw_25 : bPosts T po o g1_5 g2_6 g3_7 0 0 [(po, .inr (6, [.ref o, .ref a1_17, .ref a2_18, .int 0, .int 0, .ref a3_19])), (a1_17, .inl (T.2 0, 7, .inl g1_5)), (a2_18, .inl (T.2 0, 7, .inl g2_6)), (a3_19, .inl (T.2 0, 7, .inl g3_7))] := ⟨a1_17, a2_18, a3_19, rfl⟩
  have G : zS T A s.heap s [[(h, .inr (1, [.ref po, .ref a1_16, .int 0, .ref o, .int 0, .int 0, .int (-1), .int 0, .int 0, .int u6_3, .int sd])), (a1_16, .inl (T.2 0, 7, .inl gw_2))], [(po, .inr (6, [.ref o, .ref a1_17, .ref a2_18, .int 0, .int 0, .ref a3_19])), (a1_17, .inl (T.2 0, 7, .inl g1_5)), (a2_18, .inl (T.2 0, 7, .inl g2_6)), (a3_19, .inl (T.2 0, 7, .inl g3_7))], [(o, .inr (4, [.int cr, .int inn, .ref a1_20, .ref a2_21, .ref a3_22, .ref a4_23]))], [(a1_20, .inl (T.2 0, 7, .inl k1))], [(a2_21, .inl (T.2 0, 28, .inl k2))], [(a3_22, .inl (T.2 0, 7, .inl k3))], [(a4_23, .inl (T.2 0, 7, .inl k4))]] _ _ := G.re rfl
  have hw_26 : bLand T o cr inn k1 k2 k3 k4 [(o, .inr (4, [.int cr, .int inn, .ref a1_20, .ref a2_21, .ref a3_22, .ref a4_23])), (a1_20, .inl (T.2 0, 7, .inl k1)), (a2_21, .inl (T.2 0, 28, .inl k2)), (a3_22, .inl (T.2 0, 7, .inl k3)), (a4_23, .inl (T.2 0, 7, .inl k4))] := ⟨a1_20, a2_21, a3_22, a4_23, rfl⟩
  have G : zS T A s.heap s [[(h, .inr (1, [.ref po, .ref a1_16, .int 0, .ref o, .int 0, .int 0, .int (-1), .int 0, .int 0, .int u6_3, .int sd])), (a1_16, .inl (T.2 0, 7, .inl gw_2))], [(po, .inr (6, [.ref o, .ref a1_17, .ref a2_18, .int 0, .int 0, .ref a3_19])), (a1_17, .inl (T.2 0, 7, .inl g1_5)), (a2_18, .inl (T.2 0, 7, .inl g2_6)), (a3_19, .inl (T.2 0, 7, .inl g3_7))], [(o, .inr (4, [.int cr, .int inn, .ref a1_20, .ref a2_21, .ref a3_22, .ref a4_23])), (a1_20, .inl (T.2 0, 7, .inl k1)), (a2_21, .inl (T.2 0, 28, .inl k2)), (a3_22, .inl (T.2 0, 7, .inl k3)), (a4_23, .inl (T.2 0, 7, .inl k4))]] _ _ := G.re rfl
  refine z_loop (T := T) (α := Nat × va_W × (Nat → Int32) × Int32 × Int32 × Int32 × Int32 × Int32 × Int32 × Int32 × Int32 × va_W × (Nat → Int32) × (Nat → Int32) × Int32 × Int32) 13 (fun (i, wc3, xw, y0, y1, y2, y3, y4, y5, y6, y7, wp3, x1, x2, sb, wb) => [wc3, wp3, [(o, .inr (4, [.int cr, .int inn, .ref a1_20, .ref a2_21, .ref a3_22, .ref a4_23])), (a1_20, .inl (T.2 0, 7, .inl k1)), (a2_21, .inl (T.2 0, 28, .inl k2)), (a3_22, .inl (T.2 0, 7, .inl k3)), (a4_23, .inl (T.2 0, 7, .inl k4))]]) (fun (i, wc3, xw, y0, y1, y2, y3, y4, y5, y6, y7, wp3, x1, x2, sb, wb) => [(4, .int (nI i)), (0, .ref h), (1, .ref o), (2, .int sd), (3, .int n)]) (fun (i, wc3, xw, y0, y1, y2, y3, y4, y5, y6, y7, wp3, x1, x2, sb, wb) => bCourse T h po o xw y0 y1 y2 y3 y4 y5 y6 y7 wc3 ∧ bPosts T po o x1 x2 g3_7 sb wb wp3 ∧ i ≤ 60 ∧ zP3 x1 g3_7) (fun (i, wc3, xw, y0, y1, y2, y3, y4, y5, y6, y7, wp3, x1, x2, sb, wb) => 60 - i) ?_ (0, ([(h, .inr (1, [.ref po, .ref a1_16, .int 0, .ref o, .int 0, .int 0, .int (-1), .int 0, .int 0, .int u6_3, .int sd])), (a1_16, .inl (T.2 0, 7, .inl gw_2))]), gw_2, 0, 0, 0, (-1), 0, 0, u6_3, sd, ([(po, .inr (6, [.ref o, .ref a1_17, .ref a2_18, .int 0, .int 0, .ref a3_19])), (a1_17, .inl (T.2 0, 7, .inl g1_5)), (a2_18, .inl (T.2 0, 7, .inl g2_6)), (a3_19, .inl (T.2 0, 7, .inl g3_7))]), g1_5, g2_6, 0, 0) (show bCourse T h po o gw_2 0 0 0 (-1) 0 0 u6_3 sd ([(h, .inr (1, [.ref po, .ref a1_16, .int 0, .ref o, .int 0, .int 0, .int (-1), .int 0, .int 0, .int u6_3, .int sd])), (a1_16, .inl (T.2 0, 7, .inl gw_2))]) ∧ bPosts T po o g1_5 g2_6 g3_7 0 0 ([(po, .inr (6, [.ref o, .ref a1_17, .ref a2_18, .int 0, .int 0, .ref a3_19])), (a1_17, .inl (T.2 0, 7, .inl g1_5)), (a2_18, .inl (T.2 0, 7, .inl g2_6)), (a3_19, .inl (T.2 0, 7, .inl g3_7))]) ∧ 0 ≤ 60 ∧ zP3 g1_5 g3_7 from ⟨hw_24, hw_25, by omega, hQ⟩) G (lv_sub hl [0, 1, 2, 3, 4] rfl)
  rintro ⟨i, wc3, xw, y0, y1, y2, y3, y4, y5, y6, y7, wp3, x1, x2, sb, wb⟩ ⟨hc3, hp3, hi, hQx⟩ ih_13 H locs ls G hl
  replace hc3 : bCourse T h po o xw y0 y1 y2 y3 y4 y5 y6 y7 wc3 := hc3
  replace hp3 : bPosts T po o x1 x2 g3_7 sb wb wp3 := hp3
  replace hi : i ≤ 60 := hi
  replace hQx : zP3 x1 g3_7 := hQx
  replace G : zS T A s.heap s [wc3, wp3, [(o, .inr (4, [.int cr, .int inn, .ref a1_20, .ref a2_21, .ref a3_22, .ref a4_23])), (a1_20, .inl (T.2 0, 7, .inl k1)), (a2_21, .inl (T.2 0, 28, .inl k2)), (a3_22, .inl (T.2 0, 7, .inl k3)), (a4_23, .inl (T.2 0, 7, .inl k4))]] _ _ := G
  replace hl : lv_has ls 8 [(4, .int (nI i)), (0, .ref h), (1, .ref o), (2, .int sd), (3, .int n)] := hl
  refine lv_iload hx hb dX1_draw_13 (lv_at hl 0 rfl) ?_
  refine lv_iload_n hx hb dX1_draw_15 rfl (lv_at hl 4 rfl) ?_
  refine lv_icmp_ge (tgt := 97) hx hb dX1_draw_16 (by decide) (fun c_27 => ?_) (fun c_27 => ?_)
  · have c_27n : n.toInt ≤ (i : Int) := by have q := (fa_le _ _).mp c_27; rw [nI_toInt (n := i) (by omega)] at q; exact q
    exact z_vret C hr hlocks G (Nat.le_of_ble_eq_true rfl) (Nat.le_of_ble_eq_true rfl) dX1_draw_97 ⟨wc3, xw, y0, y1, y2, y3, y4, y5, y6, y7, wp3, x1, x2, g3_7, sb, wb, rfl, hc3, hp3, hQx⟩
  · have c_27n : ¬ n.toInt ≤ (i : Int) := fun q => c_27 ((fa_le _ _).mpr (by rw [nI_toInt (n := i) (by omega)]; exact q))
    refine lv_iload hx hb dX1_draw_19 (lv_at hl 0 rfl) ?_
    refine lv_bipush (v := 60) hx hb dX1_draw_21 (by decide) ?_
    refine lv_icmp_ge (tgt := 97) hx hb dX1_draw_23 (by decide) (fun c_28 => ?_) (fun c_28 => ?_)
    · have c_28n : 60 ≤ i := (nI_leI (a := 60) (b := i) (by omega) (by omega)).mp c_28
      exact z_vret C hr hlocks G (Nat.le_of_ble_eq_true rfl) (Nat.le_of_ble_eq_true rfl) dX1_draw_97 ⟨wc3, xw, y0, y1, y2, y3, y4, y5, y6, y7, wp3, x1, x2, g3_7, sb, wb, rfl, hc3, hp3, hQx⟩
    · have c_28n : ¬ 60 ≤ i := fun q => c_28 ((nI_leI (a := 60) (b := i) (by omega) (by omega)).mpr q)
      refine z_gstN C G G.2.2.2.2.2.2.2.1 (va_Nw.use rfl G.2.2.2.2.2.2.2.2.2.2.2.2) dX1_draw_26 ?_
      refine lv_aload_n hx hb dX1_draw_29 rfl (lv_at hl 1 rfl) ?_
      refine z_gstN C G G.2.2.2.2.2.2.2.1 (va_Nw.use rfl G.2.2.2.2.2.2.2.2.2.2.2.2) dX1_draw_30 ?_
      refine z_ddl C G dX1_draw_33 ?_
      refine z_Vi (bc := [wc3]) (br := [wp3, [(o, .inr (4, [.int cr, .int inn, .ref a1_20, .ref a2_21, .ref a3_22, .ref a4_23])), (a1_20, .inl (T.2 0, 7, .inl k1)), (a2_21, .inl (T.2 0, 28, .inl k2)), (a3_22, .inl (T.2 0, 7, .inl k3)), (a4_23, .inl (T.2 0, 7, .inl k4))]]) (As := [.int 10]) (rest := [.ref (T.2 300)]) C G (c_drawBelow l T h po o xw y0 y1 y2 y3 y4 y5 y6 y7 wc3 10 hc3 (by decide) (by decide)) (kV_RX1_84 C.2.2.2.2 (Nat.le_of_ble_eq_true rfl) (Nat.le_of_ble_eq_true rfl)) [0] [1, 2] rfl rfl (ci := 1) (qc := (RX1, TX1, 11)) rfl rfl (List.mem_flatten.mpr ⟨_, List.mem_of_getElem? (i := 0) rfl, (bCourse_mem hc3).choose_spec⟩) rfl rfl hl.1 dX1_draw_34 (Nat.le_of_ble_eq_true rfl) (Nat.le_of_ble_eq_true rfl) (fun r_34 b1 H locs hw G => ?_)
      obtain ⟨wc2_29, u7_30, rfl, h_31, h_32, h_33⟩ := hw
      have G : zS T A s.heap s [wp3, [(o, .inr (4, [.int cr, .int inn, .ref a1_20, .ref a2_21, .ref a3_22, .ref a4_23])), (a1_20, .inl (T.2 0, 7, .inl k1)), (a2_21, .inl (T.2 0, 28, .inl k2)), (a3_22, .inl (T.2 0, 7, .inl k3)), (a4_23, .inl (T.2 0, 7, .inl k4))], wc2_29] _ _ := G
      have hr1 : r_34.toInt < 10 := h_33
      refine z_ddi C G (vp_in_iff.mpr ⟨by omega, by omega⟩) dX1_draw_37 ?_
      refine lv_istore (lv' := [(5, .int (zDD.getD r_34.toNatClampNeg 0)), (4, .int (nI i)), (0, .ref h), (1, .ref o), (2, .int sd), (3, .int n)]) hx hb dX1_draw_38 hl (by decide) rfl (fun ls hl => ?_)
      refine lv_aload_n hx hb dX1_draw_40 rfl (lv_at hl 3 rfl) ?_
      have G : zS T A s.heap s [wp3, [(o, .inr (4, [.int cr, .int inn, .ref a1_20, .ref a2_21, .ref a3_22, .ref a4_23]))], [(a1_20, .inl (T.2 0, 7, .inl k1))], [(a2_21, .inl (T.2 0, 28, .inl k2))], [(a3_22, .inl (T.2 0, 7, .inl k3))], [(a4_23, .inl (T.2 0, 7, .inl k4))], wc2_29] _ _ := G.re rfl
      refine z_get C G clX4 1 rfl 0 (by decide) m_fl_RX1_88 rfl dX1_draw_41 ?_
      refine lv_if_le (tgt := 91) hx hb dX1_draw_44 (by decide) (fun c_35 => ?_) (fun c_35 => ?_)
      · have c_35n : cr.toInt ≤ (0 : Int) := (fa_le _ _).mp c_35
        refine lv_iinc (v := nI (i + 1)) (lv' := [(4, .int (nI (i + 1))), (5, .int (zDD.getD r_34.toNatClampNeg 0)), (0, .ref h), (1, .ref o), (2, .int sd), (3, .int n)]) hx hb dX1_draw_91 hl (k := 1) rfl (z_inc i 1) (by decide) rfl (fun ls hl => ?_)
        refine lv_goto (tgt := 13) hx hb dX1_draw_94 (by decide) ?_
        have hw_36 : bLand T o cr inn k1 k2 k3 k4 [(o, .inr (4, [.int cr, .int inn, .ref a1_20, .ref a2_21, .ref a3_22, .ref a4_23])), (a1_20, .inl (T.2 0, 7, .inl k1)), (a2_21, .inl (T.2 0, 28, .inl k2)), (a3_22, .inl (T.2 0, 7, .inl k3)), (a4_23, .inl (T.2 0, 7, .inl k4))] := ⟨a1_20, a2_21, a3_22, a4_23, rfl⟩
        have G : zS T A s.heap s [wp3, [(o, .inr (4, [.int cr, .int inn, .ref a1_20, .ref a2_21, .ref a3_22, .ref a4_23])), (a1_20, .inl (T.2 0, 7, .inl k1)), (a2_21, .inl (T.2 0, 28, .inl k2)), (a3_22, .inl (T.2 0, 7, .inl k3)), (a4_23, .inl (T.2 0, 7, .inl k4))], wc2_29] _ _ := G.re rfl
        have G := G.sub (bs' := [wc2_29, wp3, [(o, .inr (4, [.int cr, .int inn, .ref a1_20, .ref a2_21, .ref a3_22, .ref a4_23])), (a1_20, .inl (T.2 0, 7, .inl k1)), (a2_21, .inl (T.2 0, 28, .inl k2)), (a3_22, .inl (T.2 0, 7, .inl k3)), (a4_23, .inl (T.2 0, 7, .inl k4))]]) [2, 0, 1] rfl
        exact ih_13 ((i + 1), wc2_29, xw, y0, y1, y2, y3, y4, y5, y6, u7_30, wp3, x1, x2, sb, wb) (show bCourse T h po o xw y0 y1 y2 y3 y4 y5 y6 u7_30 wc2_29 ∧ bPosts T po o x1 x2 g3_7 sb wb wp3 ∧ (i + 1) ≤ 60 ∧ zP3 x1 g3_7 from ⟨h_31, hp3, by omega, (by first | exact hQ2 | exact hQx)⟩) (show 60 - (i + 1) < 60 - i from by omega) _ _ ls G (lv_sub hl [0, 2, 3, 4, 5] rfl)
      · have c_35n : ¬ cr.toInt ≤ (0 : Int) := fun q => c_35 ((fa_le _ _).mpr q)
        refine lv_aload_n hx hb dX1_draw_47 rfl (lv_at hl 2 rfl) ?_
        refine lv_aload_n hx hb dX1_draw_48 rfl (lv_at hl 3 rfl) ?_
        refine z_get C G clX4 1 rfl 0 (by decide) m_fl_RX1_88 rfl dX1_draw_49 ?_
        refine z_Vi (bc := [wc2_29]) (br := [wp3, [(o, .inr (4, [.int cr, .int inn, .ref a1_20, .ref a2_21, .ref a3_22, .ref a4_23]))], [(a1_20, .inl (T.2 0, 7, .inl k1))], [(a2_21, .inl (T.2 0, 28, .inl k2))], [(a3_22, .inl (T.2 0, 7, .inl k3))], [(a4_23, .inl (T.2 0, 7, .inl k4))]]) (As := [.int cr]) (rest := []) C G (c_drawBelow l T h po o xw y0 y1 y2 y3 y4 y5 y6 u7_30 wc2_29 cr h_31 (by omega) (by omega)) (kV_RX1_84 C.2.2.2.2 (Nat.le_of_ble_eq_true rfl) (Nat.le_of_ble_eq_true rfl)) [6] [0, 1, 2, 3, 4, 5] rfl rfl (ci := 1) (qc := (RX1, TX1, 11)) rfl rfl (List.mem_flatten.mpr ⟨_, List.mem_of_getElem? (i := 0) rfl, (bCourse_mem h_31).choose_spec⟩) rfl rfl hl.1 dX1_draw_52 (Nat.le_of_ble_eq_true rfl) (Nat.le_of_ble_eq_true rfl) (fun r_42 b1 H locs hw G => ?_)
        obtain ⟨wc2_37, u7_38, rfl, h_39, h_40, h_41⟩ := hw
        have G : zS T A s.heap s [wp3, [(o, .inr (4, [.int cr, .int inn, .ref a1_20, .ref a2_21, .ref a3_22, .ref a4_23]))], [(a1_20, .inl (T.2 0, 7, .inl k1))], [(a2_21, .inl (T.2 0, 28, .inl k2))], [(a3_22, .inl (T.2 0, 7, .inl k3))], [(a4_23, .inl (T.2 0, 7, .inl k4))], wc2_37] _ _ := G
        refine lv_istore (lv' := [(6, .int r_42), (5, .int (zDD.getD r_34.toNatClampNeg 0)), (4, .int (nI i)), (0, .ref h), (1, .ref o), (2, .int sd), (3, .int n)]) hx hb dX1_draw_55 hl (by decide) rfl (fun ls hl => ?_)
        refine lv_iload hx hb dX1_draw_57 (lv_at hl 1 rfl) ?_
        refine lv_iconst (v := 4) hx hb dX1_draw_59 (by decide) ?_
        refine lv_icmp_eq (tgt := 69) hx hb dX1_draw_60 (by decide) (fun c_43 => ?_) (fun c_43 => ?_)
        · have c_43n : (zDD.getD r_34.toNatClampNeg 0).toInt = (4 : Int) := (fa_eq _ _).mp c_43
          refine lv_aload_n hx hb dX1_draw_69 rfl (lv_at hl 3 rfl) ?_
          refine lv_iconst (v := 4) hx hb dX1_draw_70 (by decide) ?_
          refine z_Vi (bc := [wc2_37]) (br := [wp3, [(o, .inr (4, [.int cr, .int inn, .ref a1_20, .ref a2_21, .ref a3_22, .ref a4_23]))], [(a1_20, .inl (T.2 0, 7, .inl k1))], [(a2_21, .inl (T.2 0, 28, .inl k2))], [(a3_22, .inl (T.2 0, 7, .inl k3))], [(a4_23, .inl (T.2 0, 7, .inl k4))]]) (As := [.int 4]) (rest := []) C G (c_drawBelow l T h po o xw y0 y1 y2 y3 y4 y5 y6 u7_38 wc2_37 4 h_39 (by decide) (by decide)) (kV_RX1_84 C.2.2.2.2 (Nat.le_of_ble_eq_true rfl) (Nat.le_of_ble_eq_true rfl)) [6] [0, 1, 2, 3, 4, 5] rfl rfl (ci := 1) (qc := (RX1, TX1, 11)) rfl rfl (List.mem_flatten.mpr ⟨_, List.mem_of_getElem? (i := 0) rfl, (bCourse_mem h_39).choose_spec⟩) rfl rfl hl.1 dX1_draw_71 (Nat.le_of_ble_eq_true rfl) (Nat.le_of_ble_eq_true rfl) (fun r_49 b1 H locs hw G => ?_)
          obtain ⟨wc2_44, u7_45, rfl, h_46, h_47, h_48⟩ := hw
          have G : zS T A s.heap s [wp3, [(o, .inr (4, [.int cr, .int inn, .ref a1_20, .ref a2_21, .ref a3_22, .ref a4_23]))], [(a1_20, .inl (T.2 0, 7, .inl k1))], [(a2_21, .inl (T.2 0, 28, .inl k2))], [(a3_22, .inl (T.2 0, 7, .inl k3))], [(a4_23, .inl (T.2 0, 7, .inl k4))], wc2_44] _ _ := G
          refine lv_goto (tgt := 78) hx hb dX1_draw_74 (by decide) ?_
          refine lv_istore (lv' := [(7, .int r_49), (6, .int r_42), (5, .int (zDD.getD r_34.toNatClampNeg 0)), (4, .int (nI i)), (0, .ref h), (1, .ref o), (2, .int sd), (3, .int n)]) hx hb dX1_draw_78 hl (by decide) rfl (fun ls hl => ?_)
          refine lv_aload_n hx hb dX1_draw_80 rfl (lv_at hl 4 rfl) ?_
          refine lv_iload hx hb dX1_draw_81 (lv_at hl 2 rfl) ?_
          refine lv_iload hx hb dX1_draw_83 (lv_at hl 1 rfl) ?_
          refine lv_iload hx hb dX1_draw_85 (lv_at hl 0 rfl) ?_
          have hw_50 : bLand T o cr inn k1 k2 k3 k4 [(o, .inr (4, [.int cr, .int inn, .ref a1_20, .ref a2_21, .ref a3_22, .ref a4_23])), (a1_20, .inl (T.2 0, 7, .inl k1)), (a2_21, .inl (T.2 0, 28, .inl k2)), (a3_22, .inl (T.2 0, 7, .inl k3)), (a4_23, .inl (T.2 0, 7, .inl k4))] := ⟨a1_20, a2_21, a3_22, a4_23, rfl⟩
          have G : zS T A s.heap s [wp3, [(o, .inr (4, [.int cr, .int inn, .ref a1_20, .ref a2_21, .ref a3_22, .ref a4_23])), (a1_20, .inl (T.2 0, 7, .inl k1)), (a2_21, .inl (T.2 0, 28, .inl k2)), (a3_22, .inl (T.2 0, 7, .inl k3)), (a4_23, .inl (T.2 0, 7, .inl k4))], wc2_44] _ _ := G.re rfl
          refine z_Vi (bc := [wc2_44, wp3, [(o, .inr (4, [.int cr, .int inn, .ref a1_20, .ref a2_21, .ref a3_22, .ref a4_23])), (a1_20, .inl (T.2 0, 7, .inl k1)), (a2_21, .inl (T.2 0, 28, .inl k2)), (a3_22, .inl (T.2 0, 7, .inl k3)), (a4_23, .inl (T.2 0, 7, .inl k4))]]) (br := []) (As := [.int (zDD.getD r_34.toNatClampNeg 0), .int r_42, .int r_49]) (rest := []) C G (c_does l T h po o xw y0 y1 y2 y3 y4 y5 y6 u7_45 wc2_44 x1 x2 g3_7 sb wb wp3 cr inn k1 k2 k3 k4 ([(o, .inr (4, [.int cr, .int inn, .ref a1_20, .ref a2_21, .ref a3_22, .ref a4_23])), (a1_20, .inl (T.2 0, 7, .inl k1)), (a2_21, .inl (T.2 0, 28, .inl k2)), (a3_22, .inl (T.2 0, 7, .inl k3)), (a4_23, .inl (T.2 0, 7, .inl k4))]) (zDD.getD r_34.toNatClampNeg 0) r_42 r_49 h_46 hp3 hw_50 hQx hI) (kV_RX1_74 C.2.2.2.2 (Nat.le_of_ble_eq_true rfl) (Nat.le_of_ble_eq_true rfl)) [2, 0, 1] [] rfl rfl (ci := 1) (qc := (RX1, TX1, 11)) rfl rfl (List.mem_flatten.mpr ⟨_, List.mem_of_getElem? (i := 0) rfl, (bCourse_mem h_46).choose_spec⟩) rfl rfl hl.1 dX1_draw_87 (Nat.le_of_ble_eq_true rfl) (Nat.le_of_ble_eq_true rfl) (fun r_70 b1 H locs hw G => ?_)
          obtain ⟨wc2_51, gw_52, u0_53, u1_54, u2_55, u3_56, u4_57, u5_58, u6_59, u7_60, wp2_61, g1_62, g2_63, sa_64, wa_65, rfl, h_66, h_67, h_68, h_69⟩ := hw
          have G : zS T A s.heap s [wc2_51, wp2_61, [(o, .inr (4, [.int cr, .int inn, .ref a1_20, .ref a2_21, .ref a3_22, .ref a4_23])), (a1_20, .inl (T.2 0, 7, .inl k1)), (a2_21, .inl (T.2 0, 28, .inl k2)), (a3_22, .inl (T.2 0, 7, .inl k3)), (a4_23, .inl (T.2 0, 7, .inl k4))]] _ _ := G
          have hQ2 : zP3 g1_62 g3_7 := h_68
          refine lv_pop hx hb dX1_draw_90 rfl ?_
          refine lv_iinc (v := nI (i + 1)) (lv' := [(4, .int (nI (i + 1))), (7, .int r_49), (6, .int r_42), (5, .int (zDD.getD r_34.toNatClampNeg 0)), (0, .ref h), (1, .ref o), (2, .int sd), (3, .int n)]) hx hb dX1_draw_91 hl (k := 3) rfl (z_inc i 1) (by decide) rfl (fun ls hl => ?_)
          refine lv_goto (tgt := 13) hx hb dX1_draw_94 (by decide) ?_
          exact ih_13 ((i + 1), wc2_51, gw_52, u0_53, u1_54, u2_55, u3_56, u4_57, u5_58, u6_59, u7_60, wp2_61, g1_62, g2_63, sa_64, wa_65) (show bCourse T h po o gw_52 u0_53 u1_54 u2_55 u3_56 u4_57 u5_58 u6_59 u7_60 wc2_51 ∧ bPosts T po o g1_62 g2_63 g3_7 sa_64 wa_65 wp2_61 ∧ (i + 1) ≤ 60 ∧ zP3 g1_62 g3_7 from ⟨h_66, h_67, by omega, (by first | exact hQ2 | exact hQx)⟩) (show 60 - (i + 1) < 60 - i from by omega) _ _ ls G (lv_sub hl [0, 4, 5, 6, 7] rfl)
        · have c_43n : ¬ (zDD.getD r_34.toNatClampNeg 0).toInt = (4 : Int) := fun q => c_43 ((fa_eq _ _).mpr q)
          refine lv_iload hx hb dX1_draw_63 (lv_at hl 1 rfl) ?_
          refine lv_iconst (v := 5) hx hb dX1_draw_65 (by decide) ?_
          refine lv_icmp_ne (tgt := 77) hx hb dX1_draw_66 (by decide) (fun c_71 => ?_) (fun c_71 => ?_)
          · have c_71n : ¬ (zDD.getD r_34.toNatClampNeg 0).toInt = (5 : Int) := fun q => c_71 ((fa_eq _ _).mpr q)
            refine lv_iconst (v := (-1)) hx hb dX1_draw_77 (by decide) ?_
            refine lv_istore (lv' := [(7, .int (-1)), (6, .int r_42), (5, .int (zDD.getD r_34.toNatClampNeg 0)), (4, .int (nI i)), (0, .ref h), (1, .ref o), (2, .int sd), (3, .int n)]) hx hb dX1_draw_78 hl (by decide) rfl (fun ls hl => ?_)
            refine lv_aload_n hx hb dX1_draw_80 rfl (lv_at hl 4 rfl) ?_
            refine lv_iload hx hb dX1_draw_81 (lv_at hl 2 rfl) ?_
            refine lv_iload hx hb dX1_draw_83 (lv_at hl 1 rfl) ?_
            refine lv_iload hx hb dX1_draw_85 (lv_at hl 0 rfl) ?_
            have hw_72 : bLand T o cr inn k1 k2 k3 k4 [(o, .inr (4, [.int cr, .int inn, .ref a1_20, .ref a2_21, .ref a3_22, .ref a4_23])), (a1_20, .inl (T.2 0, 7, .inl k1)), (a2_21, .inl (T.2 0, 28, .inl k2)), (a3_22, .inl (T.2 0, 7, .inl k3)), (a4_23, .inl (T.2 0, 7, .inl k4))] := ⟨a1_20, a2_21, a3_22, a4_23, rfl⟩
            have G : zS T A s.heap s [wp3, [(o, .inr (4, [.int cr, .int inn, .ref a1_20, .ref a2_21, .ref a3_22, .ref a4_23])), (a1_20, .inl (T.2 0, 7, .inl k1)), (a2_21, .inl (T.2 0, 28, .inl k2)), (a3_22, .inl (T.2 0, 7, .inl k3)), (a4_23, .inl (T.2 0, 7, .inl k4))], wc2_37] _ _ := G.re rfl
            refine z_Vi (bc := [wc2_37, wp3, [(o, .inr (4, [.int cr, .int inn, .ref a1_20, .ref a2_21, .ref a3_22, .ref a4_23])), (a1_20, .inl (T.2 0, 7, .inl k1)), (a2_21, .inl (T.2 0, 28, .inl k2)), (a3_22, .inl (T.2 0, 7, .inl k3)), (a4_23, .inl (T.2 0, 7, .inl k4))]]) (br := []) (As := [.int (zDD.getD r_34.toNatClampNeg 0), .int r_42, .int (-1)]) (rest := []) C G (c_does l T h po o xw y0 y1 y2 y3 y4 y5 y6 u7_38 wc2_37 x1 x2 g3_7 sb wb wp3 cr inn k1 k2 k3 k4 ([(o, .inr (4, [.int cr, .int inn, .ref a1_20, .ref a2_21, .ref a3_22, .ref a4_23])), (a1_20, .inl (T.2 0, 7, .inl k1)), (a2_21, .inl (T.2 0, 28, .inl k2)), (a3_22, .inl (T.2 0, 7, .inl k3)), (a4_23, .inl (T.2 0, 7, .inl k4))]) (zDD.getD r_34.toNatClampNeg 0) r_42 (-1) h_39 hp3 hw_72 hQx hI) (kV_RX1_74 C.2.2.2.2 (Nat.le_of_ble_eq_true rfl) (Nat.le_of_ble_eq_true rfl)) [2, 0, 1] [] rfl rfl (ci := 1) (qc := (RX1, TX1, 11)) rfl rfl (List.mem_flatten.mpr ⟨_, List.mem_of_getElem? (i := 0) rfl, (bCourse_mem h_39).choose_spec⟩) rfl rfl hl.1 dX1_draw_87 (Nat.le_of_ble_eq_true rfl) (Nat.le_of_ble_eq_true rfl) (fun r_92 b1 H locs hw G => ?_)
            obtain ⟨wc2_73, gw_74, u0_75, u1_76, u2_77, u3_78, u4_79, u5_80, u6_81, u7_82, wp2_83, g1_84, g2_85, sa_86, wa_87, rfl, h_88, h_89, h_90, h_91⟩ := hw
            have G : zS T A s.heap s [wc2_73, wp2_83, [(o, .inr (4, [.int cr, .int inn, .ref a1_20, .ref a2_21, .ref a3_22, .ref a4_23])), (a1_20, .inl (T.2 0, 7, .inl k1)), (a2_21, .inl (T.2 0, 28, .inl k2)), (a3_22, .inl (T.2 0, 7, .inl k3)), (a4_23, .inl (T.2 0, 7, .inl k4))]] _ _ := G
            have hQ2 : zP3 g1_84 g3_7 := h_90
            refine lv_pop hx hb dX1_draw_90 rfl ?_
            refine lv_iinc (v := nI (i + 1)) (lv' := [(4, .int (nI (i + 1))), (7, .int (-1)), (6, .int r_42), (5, .int (zDD.getD r_34.toNatClampNeg 0)), (0, .ref h), (1, .ref o), (2, .int sd), (3, .int n)]) hx hb dX1_draw_91 hl (k := 3) rfl (z_inc i 1) (by decide) rfl (fun ls hl => ?_)
            refine lv_goto (tgt := 13) hx hb dX1_draw_94 (by decide) ?_
            exact ih_13 ((i + 1), wc2_73, gw_74, u0_75, u1_76, u2_77, u3_78, u4_79, u5_80, u6_81, u7_82, wp2_83, g1_84, g2_85, sa_86, wa_87) (show bCourse T h po o gw_74 u0_75 u1_76 u2_77 u3_78 u4_79 u5_80 u6_81 u7_82 wc2_73 ∧ bPosts T po o g1_84 g2_85 g3_7 sa_86 wa_87 wp2_83 ∧ (i + 1) ≤ 60 ∧ zP3 g1_84 g3_7 from ⟨h_88, h_89, by omega, (by first | exact hQ2 | exact hQx)⟩) (show 60 - (i + 1) < 60 - i from by omega) _ _ ls G (lv_sub hl [0, 4, 5, 6, 7] rfl)
          · have c_71n : (zDD.getD r_34.toNatClampNeg 0).toInt = (5 : Int) := (fa_eq _ _).mp c_71
            refine lv_aload_n hx hb dX1_draw_69 rfl (lv_at hl 3 rfl) ?_
            refine lv_iconst (v := 4) hx hb dX1_draw_70 (by decide) ?_
            refine z_Vi (bc := [wc2_37]) (br := [wp3, [(o, .inr (4, [.int cr, .int inn, .ref a1_20, .ref a2_21, .ref a3_22, .ref a4_23]))], [(a1_20, .inl (T.2 0, 7, .inl k1))], [(a2_21, .inl (T.2 0, 28, .inl k2))], [(a3_22, .inl (T.2 0, 7, .inl k3))], [(a4_23, .inl (T.2 0, 7, .inl k4))]]) (As := [.int 4]) (rest := []) C G (c_drawBelow l T h po o xw y0 y1 y2 y3 y4 y5 y6 u7_38 wc2_37 4 h_39 (by decide) (by decide)) (kV_RX1_84 C.2.2.2.2 (Nat.le_of_ble_eq_true rfl) (Nat.le_of_ble_eq_true rfl)) [6] [0, 1, 2, 3, 4, 5] rfl rfl (ci := 1) (qc := (RX1, TX1, 11)) rfl rfl (List.mem_flatten.mpr ⟨_, List.mem_of_getElem? (i := 0) rfl, (bCourse_mem h_39).choose_spec⟩) rfl rfl hl.1 dX1_draw_71 (Nat.le_of_ble_eq_true rfl) (Nat.le_of_ble_eq_true rfl) (fun r_98 b1 H locs hw G => ?_)
            obtain ⟨wc2_93, u7_94, rfl, h_95, h_96, h_97⟩ := hw
            have G : zS T A s.heap s [wp3, [(o, .inr (4, [.int cr, .int inn, .ref a1_20, .ref a2_21, .ref a3_22, .ref a4_23]))], [(a1_20, .inl (T.2 0, 7, .inl k1))], [(a2_21, .inl (T.2 0, 28, .inl k2))], [(a3_22, .inl (T.2 0, 7, .inl k3))], [(a4_23, .inl (T.2 0, 7, .inl k4))], wc2_93] _ _ := G
            refine lv_goto (tgt := 78) hx hb dX1_draw_74 (by decide) ?_
            refine lv_istore (lv' := [(7, .int r_98), (6, .int r_42), (5, .int (zDD.getD r_34.toNatClampNeg 0)), (4, .int (nI i)), (0, .ref h), (1, .ref o), (2, .int sd), (3, .int n)]) hx hb dX1_draw_78 hl (by decide) rfl (fun ls hl => ?_)
            refine lv_aload_n hx hb dX1_draw_80 rfl (lv_at hl 4 rfl) ?_
            refine lv_iload hx hb dX1_draw_81 (lv_at hl 2 rfl) ?_
            refine lv_iload hx hb dX1_draw_83 (lv_at hl 1 rfl) ?_
            refine lv_iload hx hb dX1_draw_85 (lv_at hl 0 rfl) ?_
            have hw_99 : bLand T o cr inn k1 k2 k3 k4 [(o, .inr (4, [.int cr, .int inn, .ref a1_20, .ref a2_21, .ref a3_22, .ref a4_23])), (a1_20, .inl (T.2 0, 7, .inl k1)), (a2_21, .inl (T.2 0, 28, .inl k2)), (a3_22, .inl (T.2 0, 7, .inl k3)), (a4_23, .inl (T.2 0, 7, .inl k4))] := ⟨a1_20, a2_21, a3_22, a4_23, rfl⟩
            have G : zS T A s.heap s [wp3, [(o, .inr (4, [.int cr, .int inn, .ref a1_20, .ref a2_21, .ref a3_22, .ref a4_23])), (a1_20, .inl (T.2 0, 7, .inl k1)), (a2_21, .inl (T.2 0, 28, .inl k2)), (a3_22, .inl (T.2 0, 7, .inl k3)), (a4_23, .inl (T.2 0, 7, .inl k4))], wc2_93] _ _ := G.re rfl
            refine z_Vi (bc := [wc2_93, wp3, [(o, .inr (4, [.int cr, .int inn, .ref a1_20, .ref a2_21, .ref a3_22, .ref a4_23])), (a1_20, .inl (T.2 0, 7, .inl k1)), (a2_21, .inl (T.2 0, 28, .inl k2)), (a3_22, .inl (T.2 0, 7, .inl k3)), (a4_23, .inl (T.2 0, 7, .inl k4))]]) (br := []) (As := [.int (zDD.getD r_34.toNatClampNeg 0), .int r_42, .int r_98]) (rest := []) C G (c_does l T h po o xw y0 y1 y2 y3 y4 y5 y6 u7_94 wc2_93 x1 x2 g3_7 sb wb wp3 cr inn k1 k2 k3 k4 ([(o, .inr (4, [.int cr, .int inn, .ref a1_20, .ref a2_21, .ref a3_22, .ref a4_23])), (a1_20, .inl (T.2 0, 7, .inl k1)), (a2_21, .inl (T.2 0, 28, .inl k2)), (a3_22, .inl (T.2 0, 7, .inl k3)), (a4_23, .inl (T.2 0, 7, .inl k4))]) (zDD.getD r_34.toNatClampNeg 0) r_42 r_98 h_95 hp3 hw_99 hQx hI) (kV_RX1_74 C.2.2.2.2 (Nat.le_of_ble_eq_true rfl) (Nat.le_of_ble_eq_true rfl)) [2, 0, 1] [] rfl rfl (ci := 1) (qc := (RX1, TX1, 11)) rfl rfl (List.mem_flatten.mpr ⟨_, List.mem_of_getElem? (i := 0) rfl, (bCourse_mem h_95).choose_spec⟩) rfl rfl hl.1 dX1_draw_87 (Nat.le_of_ble_eq_true rfl) (Nat.le_of_ble_eq_true rfl) (fun r_119 b1 H locs hw G => ?_)
            obtain ⟨wc2_100, gw_101, u0_102, u1_103, u2_104, u3_105, u4_106, u5_107, u6_108, u7_109, wp2_110, g1_111, g2_112, sa_113, wa_114, rfl, h_115, h_116, h_117, h_118⟩ := hw
            have G : zS T A s.heap s [wc2_100, wp2_110, [(o, .inr (4, [.int cr, .int inn, .ref a1_20, .ref a2_21, .ref a3_22, .ref a4_23])), (a1_20, .inl (T.2 0, 7, .inl k1)), (a2_21, .inl (T.2 0, 28, .inl k2)), (a3_22, .inl (T.2 0, 7, .inl k3)), (a4_23, .inl (T.2 0, 7, .inl k4))]] _ _ := G
            have hQ2 : zP3 g1_111 g3_7 := h_117
            refine lv_pop hx hb dX1_draw_90 rfl ?_
            refine lv_iinc (v := nI (i + 1)) (lv' := [(4, .int (nI (i + 1))), (7, .int r_98), (6, .int r_42), (5, .int (zDD.getD r_34.toNatClampNeg 0)), (0, .ref h), (1, .ref o), (2, .int sd), (3, .int n)]) hx hb dX1_draw_91 hl (k := 3) rfl (z_inc i 1) (by decide) rfl (fun ls hl => ?_)
            refine lv_goto (tgt := 13) hx hb dX1_draw_94 (by decide) ?_
            exact ih_13 ((i + 1), wc2_100, gw_101, u0_102, u1_103, u2_104, u3_105, u4_106, u5_107, u6_108, u7_109, wp2_110, g1_111, g2_112, sa_113, wa_114) (show bCourse T h po o gw_101 u0_102 u1_103 u2_104 u3_105 u4_106 u5_107 u6_108 u7_109 wc2_100 ∧ bPosts T po o g1_111 g2_112 g3_7 sa_113 wa_114 wp2_110 ∧ (i + 1) ≤ 60 ∧ zP3 g1_111 g3_7 from ⟨h_115, h_116, by omega, (by first | exact hQ2 | exact hQx)⟩) (show 60 - (i + 1) < 60 - i from by omega) _ _ ls G (lv_sub hl [0, 4, 5, 6, 7] rfl)


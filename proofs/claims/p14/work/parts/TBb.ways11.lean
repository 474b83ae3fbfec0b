def zJt (x : Int32) : Int32 := (((((((x - (((x.toUInt32 >>> ((1 : Int32).toUInt32 &&& Int32.toUInt32 31)).toInt32) &&& 1431655765)) &&& 858993459) + ((((x - (((x.toUInt32 >>> ((1 : Int32).toUInt32 &&& Int32.toUInt32 31)).toInt32) &&& 1431655765)).toUInt32 >>> ((2 : Int32).toUInt32 &&& Int32.toUInt32 31)).toInt32) &&& 858993459)) + (((((x - (((x.toUInt32 >>> ((1 : Int32).toUInt32 &&& Int32.toUInt32 31)).toInt32) &&& 1431655765)) &&& 858993459) + ((((x - (((x.toUInt32 >>> ((1 : Int32).toUInt32 &&& Int32.toUInt32 31)).toInt32) &&& 1431655765)).toUInt32 >>> ((2 : Int32).toUInt32 &&& Int32.toUInt32 31)).toInt32) &&& 858993459)).toUInt32 >>> ((4 : Int32).toUInt32 &&& Int32.toUInt32 31)).toInt32)) &&& 252645135) + (((((((x - (((x.toUInt32 >>> ((1 : Int32).toUInt32 &&& Int32.toUInt32 31)).toInt32) &&& 1431655765)) &&& 858993459) + ((((x - (((x.toUInt32 >>> ((1 : Int32).toUInt32 &&& Int32.toUInt32 31)).toInt32) &&& 1431655765)).toUInt32 >>> ((2 : Int32).toUInt32 &&& Int32.toUInt32 31)).toInt32) &&& 858993459)) + (((((x - (((x.toUInt32 >>> ((1 : Int32).toUInt32 &&& Int32.toUInt32 31)).toInt32) &&& 1431655765)) &&& 858993459) + ((((x - (((x.toUInt32 >>> ((1 : Int32).toUInt32 &&& Int32.toUInt32 31)).toInt32) &&& 1431655765)).toUInt32 >>> ((2 : Int32).toUInt32 &&& Int32.toUInt32 31)).toInt32) &&& 858993459)).toUInt32 >>> ((4 : Int32).toUInt32 &&& Int32.toUInt32 31)).toInt32)) &&& 252645135).toUInt32 >>> ((8 : Int32).toUInt32 &&& Int32.toUInt32 31)).toInt32)) + ((((((((x - (((x.toUInt32 >>> ((1 : Int32).toUInt32 &&& Int32.toUInt32 31)).toInt32) &&& 1431655765)) &&& 858993459) + ((((x - (((x.toUInt32 >>> ((1 : Int32).toUInt32 &&& Int32.toUInt32 31)).toInt32) &&& 1431655765)).toUInt32 >>> ((2 : Int32).toUInt32 &&& Int32.toUInt32 31)).toInt32) &&& 858993459)) + (((((x - (((x.toUInt32 >>> ((1 : Int32).toUInt32 &&& Int32.toUInt32 31)).toInt32) &&& 1431655765)) &&& 858993459) + ((((x - (((x.toUInt32 >>> ((1 : Int32).toUInt32 &&& Int32.toUInt32 31)).toInt32) &&& 1431655765)).toUInt32 >>> ((2 : Int32).toUInt32 &&& Int32.toUInt32 31)).toInt32) &&& 858993459)).toUInt32 >>> ((4 : Int32).toUInt32 &&& Int32.toUInt32 31)).toInt32)) &&& 252645135) + (((((((x - (((x.toUInt32 >>> ((1 : Int32).toUInt32 &&& Int32.toUInt32 31)).toInt32) &&& 1431655765)) &&& 858993459) + ((((x - (((x.toUInt32 >>> ((1 : Int32).toUInt32 &&& Int32.toUInt32 31)).toInt32) &&& 1431655765)).toUInt32 >>> ((2 : Int32).toUInt32 &&& Int32.toUInt32 31)).toInt32) &&& 858993459)) + (((((x - (((x.toUInt32 >>> ((1 : Int32).toUInt32 &&& Int32.toUInt32 31)).toInt32) &&& 1431655765)) &&& 858993459) + ((((x - (((x.toUInt32 >>> ((1 : Int32).toUInt32 &&& Int32.toUInt32 31)).toInt32) &&& 1431655765)).toUInt32 >>> ((2 : Int32).toUInt32 &&& Int32.toUInt32 31)).toInt32) &&& 858993459)).toUInt32 >>> ((4 : Int32).toUInt32 &&& Int32.toUInt32 31)).toInt32)) &&& 252645135).toUInt32 >>> ((8 : Int32).toUInt32 &&& Int32.toUInt32 31)).toInt32)).toUInt32 >>> ((16 : Int32).toUInt32 &&& Int32.toUInt32 31)).toInt32)) &&& 63
set_option maxHeartbeats 4000000 in
set_option maxRecDepth 100000 in
/-- bitCount -/
theorem c_f_bitCountT (l : Launch) (T : zTy) (x : Int32) : zMi l T yJ6_bitCount_0f7a4 cJ6_bitCount_0f7a4 1 (some .int) 1 0 0 [.int x] [] (fun (r : Int32) bs => bs = [] ∧ r = zJt x) := by
  refine zMi_of (own := RJ6) (by decide) rfl (Nat.le_of_ble_eq_true rfl) ?_
  intro p e s m args below meth c A ls C hr hlocks hnm hAe G hl
  refine zHide (fun Qz_ hQz_ => ?_)
  have hx := C.1
  have hb := C.2.1
  have hl : lv_has ls 1 [(0, .int x)] := hl
  refine lv_iload_n hx hb dJ6_bitCount_0f7a4_0 rfl (lv_at hl 0 rfl) ?_
  refine lv_iload_n hx hb dJ6_bitCount_0f7a4_1 rfl (lv_at hl 0 rfl) ?_
  refine lv_iconst (v := 1) hx hb dJ6_bitCount_0f7a4_2 (by decide) ?_
  refine lv_iushr hx hb dJ6_bitCount_0f7a4_3 rfl ?_
  refine lv_ldcw (v := 1431655765) hx hb C.2.2.2.1 (C.2.2.2.2 _ m_ko_RJ6_265) dJ6_bitCount_0f7a4_4 ?_
  refine lv_iand hx hb dJ6_bitCount_0f7a4_7 ?_
  refine lv_isub hx hb dJ6_bitCount_0f7a4_8 ?_
  refine lv_istore_n (lv' := [(0, .int (x - (((x.toUInt32 >>> ((1 : Int32).toUInt32 &&& Int32.toUInt32 31)).toInt32) &&& 1431655765)))]) hx hb dJ6_bitCount_0f7a4_9 rfl hl (by decide) (zLvf_h rfl) (fun ls hl => ?_)
  refine lv_iload_n hx hb dJ6_bitCount_0f7a4_10 rfl (lv_at hl 0 rfl) ?_
  refine lv_ldcw (v := 858993459) hx hb C.2.2.2.1 (C.2.2.2.2 _ m_ko_RJ6_266) dJ6_bitCount_0f7a4_11 ?_
  refine lv_iand hx hb dJ6_bitCount_0f7a4_14 ?_
  refine lv_iload_n hx hb dJ6_bitCount_0f7a4_15 rfl (lv_at hl 0 rfl) ?_
  refine lv_iconst (v := 2) hx hb dJ6_bitCount_0f7a4_16 (by decide) ?_
  refine lv_iushr hx hb dJ6_bitCount_0f7a4_17 rfl ?_
  refine lv_ldcw (v := 858993459) hx hb C.2.2.2.1 (C.2.2.2.2 _ m_ko_RJ6_266) dJ6_bitCount_0f7a4_18 ?_
  refine lv_iand hx hb dJ6_bitCount_0f7a4_21 ?_
  refine lv_iadd hx hb dJ6_bitCount_0f7a4_22 ?_
  refine lv_istore_n (lv' := [(0, .int (((x - (((x.toUInt32 >>> ((1 : Int32).toUInt32 &&& Int32.toUInt32 31)).toInt32) &&& 1431655765)) &&& 858993459) + ((((x - (((x.toUInt32 >>> ((1 : Int32).toUInt32 &&& Int32.toUInt32 31)).toInt32) &&& 1431655765)).toUInt32 >>> ((2 : Int32).toUInt32 &&& Int32.toUInt32 31)).toInt32) &&& 858993459)))]) hx hb dJ6_bitCount_0f7a4_23 rfl hl (by decide) (zLvf_h rfl) (fun ls hl => ?_)
  refine lv_iload_n hx hb dJ6_bitCount_0f7a4_24 rfl (lv_at hl 0 rfl) ?_
  refine lv_iload_n hx hb dJ6_bitCount_0f7a4_25 rfl (lv_at hl 0 rfl) ?_
  refine lv_iconst (v := 4) hx hb dJ6_bitCount_0f7a4_26 (by decide) ?_
  refine lv_iushr hx hb dJ6_bitCount_0f7a4_27 rfl ?_
  refine lv_iadd hx hb dJ6_bitCount_0f7a4_28 ?_
  refine lv_ldcw (v := 252645135) hx hb C.2.2.2.1 (C.2.2.2.2 _ m_ko_RJ6_267) dJ6_bitCount_0f7a4_29 ?_
  refine lv_iand hx hb dJ6_bitCount_0f7a4_32 ?_
  refine lv_istore_n (lv' := [(0, .int (((((x - (((x.toUInt32 >>> ((1 : Int32).toUInt32 &&& Int32.toUInt32 31)).toInt32) &&& 1431655765)) &&& 858993459) + ((((x - (((x.toUInt32 >>> ((1 : Int32).toUInt32 &&& Int32.toUInt32 31)).toInt32) &&& 1431655765)).toUInt32 >>> ((2 : Int32).toUInt32 &&& Int32.toUInt32 31)).toInt32) &&& 858993459)) + (((((x - (((x.toUInt32 >>> ((1 : Int32).toUInt32 &&& Int32.toUInt32 31)).toInt32) &&& 1431655765)) &&& 858993459) + ((((x - (((x.toUInt32 >>> ((1 : Int32).toUInt32 &&& Int32.toUInt32 31)).toInt32) &&& 1431655765)).toUInt32 >>> ((2 : Int32).toUInt32 &&& Int32.toUInt32 31)).toInt32) &&& 858993459)).toUInt32 >>> ((4 : Int32).toUInt32 &&& Int32.toUInt32 31)).toInt32)) &&& 252645135))]) hx hb dJ6_bitCount_0f7a4_33 rfl hl (by decide) (zLvf_h rfl) (fun ls hl => ?_)
  refine lv_iload_n hx hb dJ6_bitCount_0f7a4_34 rfl (lv_at hl 0 rfl) ?_
  refine lv_iload_n hx hb dJ6_bitCount_0f7a4_35 rfl (lv_at hl 0 rfl) ?_
  refine lv_bipush (v := 8) hx hb dJ6_bitCount_0f7a4_36 (by decide) ?_
  refine lv_iushr hx hb dJ6_bitCount_0f7a4_38 rfl ?_
  refine lv_iadd hx hb dJ6_bitCount_0f7a4_39 ?_
  refine lv_istore_n (lv' := [(0, .int ((((((x - (((x.toUInt32 >>> ((1 : Int32).toUInt32 &&& Int32.toUInt32 31)).toInt32) &&& 1431655765)) &&& 858993459) + ((((x - (((x.toUInt32 >>> ((1 : Int32).toUInt32 &&& Int32.toUInt32 31)).toInt32) &&& 1431655765)).toUInt32 >>> ((2 : Int32).toUInt32 &&& Int32.toUInt32 31)).toInt32) &&& 858993459)) + (((((x - (((x.toUInt32 >>> ((1 : Int32).toUInt32 &&& Int32.toUInt32 31)).toInt32) &&& 1431655765)) &&& 858993459) + ((((x - (((x.toUInt32 >>> ((1 : Int32).toUInt32 &&& Int32.toUInt32 31)).toInt32) &&& 1431655765)).toUInt32 >>> ((2 : Int32).toUInt32 &&& Int32.toUInt32 31)).toInt32) &&& 858993459)).toUInt32 >>> ((4 : Int32).toUInt32 &&& Int32.toUInt32 31)).toInt32)) &&& 252645135) + (((((((x - (((x.toUInt32 >>> ((1 : Int32).toUInt32 &&& Int32.toUInt32 31)).toInt32) &&& 1431655765)) &&& 858993459) + ((((x - (((x.toUInt32 >>> ((1 : Int32).toUInt32 &&& Int32.toUInt32 31)).toInt32) &&& 1431655765)).toUInt32 >>> ((2 : Int32).toUInt32 &&& Int32.toUInt32 31)).toInt32) &&& 858993459)) + (((((x - (((x.toUInt32 >>> ((1 : Int32).toUInt32 &&& Int32.toUInt32 31)).toInt32) &&& 1431655765)) &&& 858993459) + ((((x - (((x.toUInt32 >>> ((1 : Int32).toUInt32 &&& Int32.toUInt32 31)).toInt32) &&& 1431655765)).toUInt32 >>> ((2 : Int32).toUInt32 &&& Int32.toUInt32 31)).toInt32) &&& 858993459)).toUInt32 >>> ((4 : Int32).toUInt32 &&& Int32.toUInt32 31)).toInt32)) &&& 252645135).toUInt32 >>> ((8 : Int32).toUInt32 &&& Int32.toUInt32 31)).toInt32)))]) hx hb dJ6_bitCount_0f7a4_40 rfl hl (by decide) (zLvf_h rfl) (fun ls hl => ?_)
  refine lv_iload_n hx hb dJ6_bitCount_0f7a4_41 rfl (lv_at hl 0 rfl) ?_
  refine lv_iload_n hx hb dJ6_bitCount_0f7a4_42 rfl (lv_at hl 0 rfl) ?_
  refine lv_bipush (v := 16) hx hb dJ6_bitCount_0f7a4_43 (by decide) ?_
  refine lv_iushr hx hb dJ6_bitCount_0f7a4_45 rfl ?_
  refine lv_iadd hx hb dJ6_bitCount_0f7a4_46 ?_
  refine lv_istore_n (lv' := [(0, .int (((((((x - (((x.toUInt32 >>> ((1 : Int32).toUInt32 &&& Int32.toUInt32 31)).toInt32) &&& 1431655765)) &&& 858993459) + ((((x - (((x.toUInt32 >>> ((1 : Int32).toUInt32 &&& Int32.toUInt32 31)).toInt32) &&& 1431655765)).toUInt32 >>> ((2 : Int32).toUInt32 &&& Int32.toUInt32 31)).toInt32) &&& 858993459)) + (((((x - (((x.toUInt32 >>> ((1 : Int32).toUInt32 &&& Int32.toUInt32 31)).toInt32) &&& 1431655765)) &&& 858993459) + ((((x - (((x.toUInt32 >>> ((1 : Int32).toUInt32 &&& Int32.toUInt32 31)).toInt32) &&& 1431655765)).toUInt32 >>> ((2 : Int32).toUInt32 &&& Int32.toUInt32 31)).toInt32) &&& 858993459)).toUInt32 >>> ((4 : Int32).toUInt32 &&& Int32.toUInt32 31)).toInt32)) &&& 252645135) + (((((((x - (((x.toUInt32 >>> ((1 : Int32).toUInt32 &&& Int32.toUInt32 31)).toInt32) &&& 1431655765)) &&& 858993459) + ((((x - (((x.toUInt32 >>> ((1 : Int32).toUInt32 &&& Int32.toUInt32 31)).toInt32) &&& 1431655765)).toUInt32 >>> ((2 : Int32).toUInt32 &&& Int32.toUInt32 31)).toInt32) &&& 858993459)) + (((((x - (((x.toUInt32 >>> ((1 : Int32).toUInt32 &&& Int32.toUInt32 31)).toInt32) &&& 1431655765)) &&& 858993459) + ((((x - (((x.toUInt32 >>> ((1 : Int32).toUInt32 &&& Int32.toUInt32 31)).toInt32) &&& 1431655765)).toUInt32 >>> ((2 : Int32).toUInt32 &&& Int32.toUInt32 31)).toInt32) &&& 858993459)).toUInt32 >>> ((4 : Int32).toUInt32 &&& Int32.toUInt32 31)).toInt32)) &&& 252645135).toUInt32 >>> ((8 : Int32).toUInt32 &&& Int32.toUInt32 31)).toInt32)) + ((((((((x - (((x.toUInt32 >>> ((1 : Int32).toUInt32 &&& Int32.toUInt32 31)).toInt32) &&& 1431655765)) &&& 858993459) + ((((x - (((x.toUInt32 >>> ((1 : Int32).toUInt32 &&& Int32.toUInt32 31)).toInt32) &&& 1431655765)).toUInt32 >>> ((2 : Int32).toUInt32 &&& Int32.toUInt32 31)).toInt32) &&& 858993459)) + (((((x - (((x.toUInt32 >>> ((1 : Int32).toUInt32 &&& Int32.toUInt32 31)).toInt32) &&& 1431655765)) &&& 858993459) + ((((x - (((x.toUInt32 >>> ((1 : Int32).toUInt32 &&& Int32.toUInt32 31)).toInt32) &&& 1431655765)).toUInt32 >>> ((2 : Int32).toUInt32 &&& Int32.toUInt32 31)).toInt32) &&& 858993459)).toUInt32 >>> ((4 : Int32).toUInt32 &&& Int32.toUInt32 31)).toInt32)) &&& 252645135) + (((((((x - (((x.toUInt32 >>> ((1 : Int32).toUInt32 &&& Int32.toUInt32 31)).toInt32) &&& 1431655765)) &&& 858993459) + ((((x - (((x.toUInt32 >>> ((1 : Int32).toUInt32 &&& Int32.toUInt32 31)).toInt32) &&& 1431655765)).toUInt32 >>> ((2 : Int32).toUInt32 &&& Int32.toUInt32 31)).toInt32) &&& 858993459)) + (((((x - (((x.toUInt32 >>> ((1 : Int32).toUInt32 &&& Int32.toUInt32 31)).toInt32) &&& 1431655765)) &&& 858993459) + ((((x - (((x.toUInt32 >>> ((1 : Int32).toUInt32 &&& Int32.toUInt32 31)).toInt32) &&& 1431655765)).toUInt32 >>> ((2 : Int32).toUInt32 &&& Int32.toUInt32 31)).toInt32) &&& 858993459)).toUInt32 >>> ((4 : Int32).toUInt32 &&& Int32.toUInt32 31)).toInt32)) &&& 252645135).toUInt32 >>> ((8 : Int32).toUInt32 &&& Int32.toUInt32 31)).toInt32)).toUInt32 >>> ((16 : Int32).toUInt32 &&& Int32.toUInt32 31)).toInt32)))]) hx hb dJ6_bitCount_0f7a4_47 rfl hl (by decide) (zLvf_h rfl) (fun ls hl => ?_)
  refine lv_iload_n hx hb dJ6_bitCount_0f7a4_48 rfl (lv_at hl 0 rfl) ?_
  refine lv_bipush (v := 63) hx hb dJ6_bitCount_0f7a4_49 (by decide) ?_
  refine lv_iand hx hb dJ6_bitCount_0f7a4_51 ?_
  exact z_back hQz_ (z_iret C hr hlocks G (Nat.le_of_ble_eq_true rfl) (Nat.le_of_ble_eq_true rfl) dJ6_bitCount_0f7a4_52 ⟨rfl, rfl⟩)
theorem zJt_0 : ∀ t, t < 128 → zJt (nI t) = zBs (nI t) 12 := by decide +kernel
theorem zBs_7 : ∀ t, t < 128 → 0 ≤ (zBs (nI t) 12).toInt ∧ (zBs (nI t) 12).toInt ≤ 7 := by decide +kernel
theorem zJt_r (t : Nat) (h : t < 128) : ((zJt (nI t) <<< (7 &&& 31)) + nI t).toInt = 128 * (zBs (nI t) 12).toInt + (nI t).toInt ∧ zJt (nI t) = zBs (nI t) 12 ∧ (nI t).toInt = (t : Int) := by
  have a := zJt_0 t h
  have b := zBs_7 t h
  obtain ⟨k, hk, e⟩ : ∃ k : Nat, k ≤ 7 ∧ zBs (nI t) 12 = nI k := ⟨(zBs (nI t) 12).toInt.toNat, by omega, z_nI (by omega) (by omega)⟩
  have ek := nI_toInt (n := k) (by omega)
  have et := nI_toInt (n := t) (by omega)
  refine ⟨?_, a, et⟩
  have s : nI k <<< (7 &&& 31) = nI (128 * k) := (pk_shlN (7 &&& 31) 7 (by decide) (by omega)).trans (congrArg nI (by omega))
  have q := nI_toInt (n := 128 * k + t) (by omega)
  rw [a, e, s, nI_add, q, ek, et]
  omega
theorem aUn_o : ∀ n, n < 7 → ∀ t, t < 2 ^ n → (nI t ||| (1 <<< (nI n &&& 31)) = nI (t + 2 ^ n)) ∧ nI t ||| 0 = nI t := by decide +kernel
theorem aUn_t {W : Nat → Int32} {w v : Nat} : ∀ n, n ≤ 7 → ∃ t, t < 2 ^ n ∧ aUn W w v n = nI t
  | 0, _ => ⟨0, by decide, rfl⟩
  | n + 1, hn => by
    obtain ⟨t, h1, h2⟩ := aUn_t (W := W) (w := w) (v := v) n (by omega)
    have o := aUn_o n (by omega) t h1
    have p : 2 ^ (n + 1) = 2 ^ n * 2 := Nat.pow_succ ..
    by_cases q : aRd W w n = aRd W v n
    · refine ⟨t, by omega, ?_⟩
      show aUn W w v n ||| (if aRd W w n = aRd W v n then (0 : Int32) else (1 : Int32) <<< (nI n &&& 31)) = _
      rw [if_pos q, h2]
      exact o.2
    · refine ⟨t + 2 ^ n, by omega, ?_⟩
      show aUn W w v n ||| (if aRd W w n = aRd W v n then (0 : Int32) else (1 : Int32) <<< (nI n &&& 31)) = _
      rw [if_neg q, h2]
      exact o.1
theorem aUn_k {W : Nat → Int32} {w v n : Nat} (hn : n ≤ 7) : ∃ t, t < 128 ∧ aUn W w v n = nI t := by
  obtain ⟨t, a, b⟩ := aUn_t (W := W) (w := w) (v := v) n hn
  have p : 2 ^ n ≤ 2 ^ 7 := Nat.pow_le_pow_right (by decide) hn
  exact ⟨t, by omega, b⟩
theorem rank_e {x : Int32} (h : ∃ t, t < 128 ∧ x = nI t) : ((zJt x <<< (7 &&& 31)) + x).toInt = 128 * (zBs x 12).toInt + x.toInt ∧ 0 ≤ x.toInt ∧ x.toInt < 128 ∧ zJt x = zBs x 12 := by
  obtain ⟨t, a, b⟩ := h
  have e := zJt_r t a
  rw [b]
  exact ⟨e.1, by omega, by omega, e.2.1⟩
/-- the best of the ways that come: the way, and its posts -/
def rSb (C : Nat → Bool) (M : Nat → Int32) : Nat → Int32 × Int32
  | 0 => (-1, 0)
  | n + 1 => if C n = true ∧ ((rSb C M n).1.toInt = -1 ∨ (zBs (M n) 12).toInt < (zBs (rSb C M n).2 12).toInt ∨ (zBs (M n) 12).toInt = (zBs (rSb C M n).2 12).toInt ∧ (M n).toInt < (rSb C M n).2.toInt) then (nI n, M n) else rSb C M n
theorem rSb_i {C : Nat → Bool} {M : Nat → Int32} : ∀ n, (rSb C M n = (-1, 0)) ∨ ∃ w, w < n ∧ rSb C M n = (nI w, M w)
  | 0 => Or.inl rfl
  | n + 1 => by
    have ih := rSb_i (C := C) (M := M) n
    unfold rSb
    split
    · exact Or.inr ⟨n, by omega, rfl⟩
    · rcases ih with q | ⟨w, a, b⟩
      · exact Or.inl q
      · exact Or.inr ⟨w, by omega, b⟩
theorem rSb_m {C : Nat → Bool} {M : Nat → Int32} (hM : ∀ w, ∃ t, t < 128 ∧ M w = nI t) (n : Nat) : ∃ t, t < 128 ∧ (rSb C M n).2 = nI t := by
  rcases rSb_i (C := C) (M := M) n with q | ⟨w, _, q⟩
  · rw [q]
    exact ⟨0, by decide, rfl⟩
  · rw [q]
    exact hM w
theorem rSb_s {C : Nat → Bool} {M : Nat → Int32} {n : Nat} {b mn : Int32} (hb : b = (rSb C M n).1) (hm : mn = M n) : (C n = true → (b.toInt = -1 ∨ (zBs mn 12).toInt < (zBs (rSb C M n).2 12).toInt ∨ (zBs mn 12).toInt = (zBs (rSb C M n).2 12).toInt ∧ mn.toInt < (rSb C M n).2.toInt) → nI n = (rSb C M (n + 1)).1 ∧ mn = (rSb C M (n + 1)).2) ∧ (¬ (C n = true ∧ (b.toInt = -1 ∨ (zBs mn 12).toInt < (zBs (rSb C M n).2 12).toInt ∨ (zBs mn 12).toInt = (zBs (rSb C M n).2 12).toInt ∧ mn.toInt < (rSb C M n).2.toInt)) → b = (rSb C M (n + 1)).1 ∧ (rSb C M n).2 = (rSb C M (n + 1)).2) := by
  subst hm
  constructor
  · intro h1 h2
    rw [hb] at h2
    have e : rSb C M (n + 1) = (nI n, M n) := if_pos ⟨h1, h2⟩
    rw [e]
    exact ⟨rfl, rfl⟩
  · intro h
    rw [hb] at h
    have e : rSb C M (n + 1) = rSb C M n := if_neg h
    rw [e]
    exact ⟨hb, rfl⟩
theorem rSb_w {C : Nat → Bool} {M : Nat → Int32} {n : Nat} {b : Int32} (hn : n ≤ 16384) (hb : b = (rSb C M n).1) : b = -1 ∨ ∃ w, w < n ∧ b = nI w ∧ 0 ≤ b.toInt ∧ b.toInt.toNat = w ∧ (rSb C M n).2 = M w := by
  rcases rSb_i (C := C) (M := M) n with q | ⟨w, h, q⟩
  · rw [hb, q]
    exact Or.inl rfl
  · have t := nI_toInt (n := w) (by omega)
    have e : b = nI w := by rw [hb, q]
    refine Or.inr ⟨w, h, e, by rw [e]; omega, by rw [e]; omega, by rw [q]⟩
theorem rSb_cg {C D : Nat → Bool} {M N : Nat → Int32} : ∀ n, (∀ w, w < n → C w = D w ∧ M w = N w) → rSb C M n = rSb D N n
  | 0, _ => rfl
  | n + 1, h => by
    unfold rSb
    rw [rSb_cg n (fun w hw => h w (by omega)), (h n (by omega)).1, (h n (by omega)).2]
theorem aRs_b {W P : Nat → Int32} (hW : ∀ n, aPr W n ≤ 4 ^ n) (hD : ∀ c, c < 7 → (P c).toInt ≤ 1000) : ∀ n, n ≤ 7 → aRs W P n ≤ 1000 * 4 ^ n
  | 0, _ => Nat.zero_le _
  | n + 1, hn => by
    have ih := aRs_b hW hD n (by omega)
    have d : aDg W P (6 - n) ≤ 1000 := by
      have t := hD (6 - n) (by omega)
      unfold aDg
      split <;> omega
    have m : aDg W P (6 - n) * aPr W n ≤ 1000 * 4 ^ n := Nat.mul_le_mul d (hW n)
    have p : 4 ^ (n + 1) = 4 ^ n * 4 := Nat.pow_succ ..
    show aDg W P (6 - n) * aPr W n + aRs W P n ≤ _
    omega
def rSetP (W L P : Nat → Int32) (m : Nat) (a b : Int32) : Int32 × Int32 := rSb (fun w => decide (rWh W L w a = b)) (fun w => aUn W w (aRs W P 7) m) (aPr W 7)
def rSet (W L P : Nat → Int32) (m : Nat) (a b q : Int32) : Int32 := if (rSetP W L P m a b).1 = -1 then -1 else if q = 0 then zBs (rSetP W L P m a b).2 12 else if q = 1 then (rSetP W L P m a b).2 else if 10 ≤ q.toInt ∧ q.toInt - 10 < (m : Int) then (if 0 < (W (q.toInt - 10).toNat).toInt then nI (aRd W (rSetP W L P m a b).1.toInt.toNat (q.toInt - 10).toNat) else P (q.toInt - 10).toNat) else -1
theorem aUn_cg {W V : Nat → Int32} (hW : ∀ j, j < 7 → W j = V j) (w v : Nat) : ∀ n, n ≤ 7 → aUn W w v n = aUn V w v n
  | 0, _ => rfl
  | n + 1, hn => by
    unfold aUn
    rw [aUn_cg hW w v n (by omega), aRd_cg hW (by omega), aRd_cg hW (by omega)]
theorem rSet_cg {W V L L' P Q : Nat → Int32} (hW : ∀ j, j < 7 → W j = V j) (hL : zLs W L L') (h4 : ∀ j, j < 7 → (W j).toInt ≤ 4) (hP : ∀ j, j < 7 → P j = Q j) {m : Nat} (hm : m ≤ 7) (a b q : Int32) : rSet W L P m a b q = rSet V L' Q m a b q := by
  have e : rSetP W L P m a b = rSetP V L' Q m a b := by
    unfold rSetP
    rw [aPr_cg hW 7, aRs_cg hW hP 7]
    exact rSb_cg _ (fun w _ => ⟨congrArg (fun q => decide (q = b)) (rWh_cg hW hL h4 w a).1, aUn_cg hW w _ m hm⟩)
  unfold rSet
  rw [e]
  by_cases c : 10 ≤ q.toInt ∧ q.toInt - 10 < (m : Int)
  · rw [if_pos c, if_pos c, hW (q.toInt - 10).toNat (by omega), hP (q.toInt - 10).toNat (by omega), aRd_cg hW (by omega)]
  · rw [if_neg c, if_neg c]
/-- the answer, by what is asked -/
theorem rSet_e {W L P : Nat → Int32} {m : Nat} {a b q x s r c : Int32} (hx : x = (rSetP W L P m a b).1) (hs : ¬ x = -1 → s = (rSetP W L P m a b).2) (h : x = -1 ∧ r = -1 ∨ ¬ x = -1 ∧ (q = 0 ∧ r = zBs s 12 ∨ ¬ q = 0 ∧ q = 1 ∧ r = s ∨ ¬ q = 0 ∧ ¬ q = 1 ∧ ((10 ≤ q.toInt ∧ q.toInt - 10 < (m : Int)) ∧ (0 < (W (q.toInt - 10).toNat).toInt ∧ r = nI (aRd W x.toInt.toNat (q.toInt - 10).toNat) ∨ (W (q.toInt - 10).toNat).toInt ≤ 0 ∧ r = P (q.toInt - 10).toNat) ∨ ¬ (10 ≤ q.toInt ∧ q.toInt - 10 < (m : Int)) ∧ r = -1))) : r = rSet W L P m a b q := by
  unfold rSet
  rw [← hx]
  rcases h with ⟨h1, h2⟩ | ⟨h1, h2⟩
  · rw [if_pos h1]
    exact h2
  · rw [if_neg h1, ← hs h1]
    rcases h2 with ⟨h3, h4⟩ | ⟨h3, h4, h5⟩ | ⟨h3, h4, h5⟩
    · rw [if_pos h3]
      exact h4
    · rw [if_neg h3, if_pos h4]
      exact h5
    · rw [if_neg h3, if_neg h4]
      rcases h5 with ⟨h6, h7⟩ | ⟨h6, h7⟩
      · rw [if_pos h6]
        rcases h7 with ⟨h8, h9⟩ | ⟨h8, h9⟩
        · rw [if_pos h8]
          exact h9
        · rw [if_neg (by omega)]
          exact h9
      · rw [if_neg h6]
        exact h7
def kSet (cr inn : Int32) (k1 k2 k3 : Nat → Int32) (a b q9 : Int32) : Int32 := if (0 ≤ a.toInt ∧ a.toInt < cr.toInt) ∧ (0 ≤ b.toInt ∧ b.toInt < cr.toInt) ∧ zBit inn b = 1 then rSet (kW cr inn k1) k2 k3 cr.toInt.toNat a b q9 else -1
def pSet (f : Nat → Int32) (z a b q9 : Int32) : Int32 := if (0 ≤ a.toInt ∧ a.toInt < (f z.toInt.toNat).toInt) ∧ (0 ≤ b.toInt ∧ b.toInt < (f z.toInt.toNat).toInt) ∧ zBit (f (z.toInt.toNat + 1)) b = 1 then rSet (pW f z) (zLo f z) (zPo f z) (f z.toInt.toNat).toInt.toNat a b q9 else -1
theorem kSet_e {cr inn z a b q9 : Int32} {k1 k2 k3 k4 f : Nat → Int32} {B : Nat} (h : zLnd cr inn k1 k2 k3 k4 (fun j => f (B + j))) (hF : zLF (fun j => f (B + j))) (hz : z.toInt.toNat = B) : kSet cr inn k1 k2 k3 a b q9 = pSet f z a b q9 := by
  obtain ⟨a1, a2, a3, a4, a5, a6⟩ := zLnd_w h hF hz
  have c7 : 0 ≤ cr.toInt ∧ cr.toInt ≤ 7 := by
    have b : 0 ≤ (f (B + 0)).toInt ∧ (f (B + 0)).toInt ≤ 7 := hF.1
    have e : cr = f (B + 0) := by
      rw [a5, hz]
      rfl
    rw [e]
    exact b
  have h4 : ∀ j, j < 7 → (kW cr inn k1 j).toInt ≤ 4 := fun j hj => (a4 j hj).1.2
  unfold kSet pSet
  (try rw [← a5])
  (try rw [← a6])
  by_cases q : (0 ≤ a.toInt ∧ a.toInt < cr.toInt) ∧ (0 ≤ b.toInt ∧ b.toInt < cr.toInt) ∧ zBit inn b = 1
  · rw [if_pos q, if_pos q]
    exact rSet_cg a1 a2 h4 a3 (by omega) a b q9
  · rw [if_neg q, if_neg q]
set_option maxHeartbeats 4000000 in
set_option maxRecDepth 100000 in
/-- c_f_nearestWay -/
theorem c_f_nearestWay (l : Launch) (T : zTy) (h : Nat) (la : Nat) (md : Int32) (wy : Int32) (pc_ : Int32) (f1 : Nat → Int32) (f2 : Nat → Int32) (f3 : Nat → Int32) (f4 : Nat → Int32) (f5 : Nat → Int32) (f6 : Nat → Int32) (n4 : Nat) (ww : va_W) (cr : Int32) (inn : Int32) (k1 : Nat → Int32) (k2 : Nat → Int32) (k3 : Nat → Int32) (k4 : Nat → Int32) (z : va_W) (x : Int32) (y : Int32) (hww : bWays T h la md wy pc_ f1 f2 f3 f4 f5 f6 n4 ww) (hz : bLand T la cr inn k1 k2 k3 k4 z) (hn : n4 ≤ 131072) (hI : zLI cr k1 k3) (hF : aF cr inn k1 f1 f2) (hO : aOk (aW cr inn k1) k2) (hTt : zTab cr inn k1 k2 wy pc_ f1 f2 f5 n4) (hx7 : zHas cr x) : zMi l T yX0_nearestWay cX0_nearestWay 9 (some .int) 4 0 0 [.ref h, .int x, .int y] [ww, z] (fun (r : Int32) bs => bs = [ww, z] ∧ r = (rSb (fun w => decide (rWh (aW cr inn k1) k2 w x = y)) (fun w => aUn (aW cr inn k1) w (aRs (aW cr inn k1) k3 7) cr.toInt.toNat) (aPr (aW cr inn k1) 7)).1) := by
  refine zMi_of (own := RX0) (by decide) rfl (Nat.le_of_ble_eq_true rfl) ?_
  intro p e s m args below meth c A ls C hr hlocks hnm hAe G hl
  refine zHide (fun Qz_ hQz_ => ?_)
  have hx := C.1
  have hb := C.2.1
  have hl : lv_has ls 9 [(0, .ref h), (1, .int x), (2, .int y)] := hl
  have hcr := hI.1
  have hp79 : aPr (aW cr inn k1) 7 ≤ 16384 := aPr_7 hI
  have hwN9 : wy = nI (aPr (aW cr inn k1) 7) := hTt.1.trans (zWy_z hI)
  have hwT9 : wy.toInt = ((aPr (aW cr inn k1) 7 : Nat) : Int) := by rw [hwN9, nI_toInt (by omega)]
  have hab9 : aRs (aW cr inn k1) k3 7 ≤ 1000 * 4 ^ 7 := aRs_b (aPr_4 hI) (fun c hc => (hI.2.2 c hc).2) 7 (Nat.le_refl _)
  have h47 : (1000 * 4 ^ 7 : Nat) = 16384000 := by decide
  refine lv_aload_n hx hb dX0_nearestWay_0 rfl (lv_at hl 0 rfl) ?_
  refine z_Vi (bc := [ww, z]) (br := []) (As := []) (rest := []) C G (c_f_wayTold l T h la md wy pc_ f1 f2 f3 f4 f5 f6 n4 ww cr inn k1 k2 k3 k4 z hww hz (by first | with_reducible assumption | with_reducible rfl | omega | assumption | rfl) (by first | with_reducible assumption | with_reducible rfl | omega | assumption | rfl) (by first | with_reducible assumption | with_reducible rfl | omega | assumption | rfl)) (kV_RX0_110 C.2.2.2.2 (Nat.le_of_ble_eq_true rfl) (Nat.le_of_ble_eq_true rfl)) [0, 1] [0, 0] rfl rfl (ci := 0) (qc := (RX0, TX0, 10)) rfl rfl (List.mem_flatten.mpr ⟨_, List.mem_of_getElem? (i := 0) rfl, (bWays_mem hww).choose_spec⟩) rfl rfl hl.1 dX0_nearestWay_1 (Nat.le_of_ble_eq_true rfl) (Nat.le_of_ble_eq_true rfl) (fun r_2 b1 H locs hw G => ?_)
  refine zAn2 hw ?_
  intro hbs9 h_1
  clear hw
  subst hbs9
  have G : zS T A s.heap s [ww, z] _ _ := G
  have hwt9 : r_2 = nI (aRs (aW cr inn k1) k3 7) := h_1
  have hwt8 : r_2.toInt = (aRs (aW cr inn k1) k3 7 : Nat) := by rw [hwt9, nI_toInt (by omega)]
  have hwt7 : r_2.toInt.toNat = aRs (aW cr inn k1) k3 7 := by omega
  refine lv_istore_n (lv' := [(3, .int r_2), (0, .ref h), (1, .int x), (2, .int y)]) hx hb dX0_nearestWay_4 rfl hl (by decide) (zLvf_h rfl) (fun ls hl => ?_)
  refine lv_iconst (v := (-1)) hx hb dX0_nearestWay_5 (by decide) ?_
  refine lv_istore (lv' := [(4, .int (-1)), (3, .int r_2), (0, .ref h), (1, .int x), (2, .int y)]) hx hb dX0_nearestWay_6 hl (by decide) (zLvf_h rfl) (fun ls hl => ?_)
  refine lv_iconst (v := 0) hx hb dX0_nearestWay_8 (by decide) ?_
  refine lv_istore (lv' := [(5, .int 0), (4, .int (-1)), (3, .int r_2), (0, .ref h), (1, .int x), (2, .int y)]) hx hb dX0_nearestWay_9 hl (by decide) (zLvf_h rfl) (fun ls hl => ?_)
  refine lv_iconst (v := 0) hx hb dX0_nearestWay_11 (by decide) ?_
  refine lv_istore (lv' := [(6, .int 0), (5, .int 0), (4, .int (-1)), (3, .int r_2), (0, .ref h), (1, .int x), (2, .int y)]) hx hb dX0_nearestWay_12 hl (by decide) (zLvf_h rfl) (fun ls hl => ?_)
  refine zEx6 hww ?_
  intro a1_3 a2_4 a3_5 a4_6 a5_7 a6_8 hbs9
  clear hww
  subst hbs9
  have G : zS T A s.heap s [[zO0 h md wy la pc_ a1_3 a2_4 a3_5 a4_6 a5_7 a6_8], [zAr T 0 a1_3 7 f1], [zAr T 0 a2_4 7 f2], [zAr T 0 a3_5 7 f3], [zAr T 0 a4_6 n4 f4], [zAr T 0 a5_7 n4 f5], [zAr T 0 a6_8 n4 f6], z] _ _ := G.re rfl
  have hw_9 : bWays T h la md wy pc_ f1 f2 f3 f4 f5 f6 n4 [zO0 h md wy la pc_ a1_3 a2_4 a3_5 a4_6 a5_7 a6_8, zAr T 0 a1_3 7 f1, zAr T 0 a2_4 7 f2, zAr T 0 a3_5 7 f3, zAr T 0 a4_6 n4 f4, zAr T 0 a5_7 n4 f5, zAr T 0 a6_8 n4 f6] := ⟨a1_3, a2_4, a3_5, a4_6, a5_7, a6_8, rfl⟩
  have G : zS T A s.heap s [[zO0 h md wy la pc_ a1_3 a2_4 a3_5 a4_6 a5_7 a6_8, zAr T 0 a1_3 7 f1, zAr T 0 a2_4 7 f2, zAr T 0 a3_5 7 f3, zAr T 0 a4_6 n4 f4, zAr T 0 a5_7 n4 f5, zAr T 0 a6_8 n4 f6], z] _ _ := G.re rfl
  refine z_lp3 (T := T) 14 (fun (i : Nat) (b4 : Int32) (b5 : Int32) => [[zO0 h md wy la pc_ a1_3 a2_4 a3_5 a4_6 a5_7 a6_8, zAr T 0 a1_3 7 f1, zAr T 0 a2_4 7 f2, zAr T 0 a3_5 7 f3, zAr T 0 a4_6 n4 f4, zAr T 0 a5_7 n4 f5, zAr T 0 a6_8 n4 f6], z]) (fun (i : Nat) (b4 : Int32) (b5 : Int32) => [(6, .int (nI i)), (5, .int b5), (4, .int b4), (3, .int r_2), (0, .ref h), (1, .int x), (2, .int y)]) (fun (i : Nat) (b4 : Int32) (b5 : Int32) => i ≤ aPr (aW cr inn k1) 7 ∧ b4 = (rSb (fun w => decide (rWh (aW cr inn k1) k2 w x = y)) (fun w => aUn (aW cr inn k1) w (aRs (aW cr inn k1) k3 7) cr.toInt.toNat) i).1 ∧ (b4 = -1 ∨ b5.toInt = 128 * (zBs (rSb (fun w => decide (rWh (aW cr inn k1) k2 w x = y)) (fun w => aUn (aW cr inn k1) w (aRs (aW cr inn k1) k3 7) cr.toInt.toNat) i).2 12).toInt + (rSb (fun w => decide (rWh (aW cr inn k1) k2 w x = y)) (fun w => aUn (aW cr inn k1) w (aRs (aW cr inn k1) k3 7) cr.toInt.toNat) i).2.toInt)) (fun (i : Nat) (b4 : Int32) (b5 : Int32) => aPr (aW cr inn k1) 7 - i) ?_ 0 (-1) 0 (show 0 ≤ aPr (aW cr inn k1) 7 ∧ (-1) = (rSb (fun w => decide (rWh (aW cr inn k1) k2 w x = y)) (fun w => aUn (aW cr inn k1) w (aRs (aW cr inn k1) k3 7) cr.toInt.toNat) 0).1 ∧ ((-1) = -1 ∨ (0 : Int32).toInt = 128 * (zBs (rSb (fun w => decide (rWh (aW cr inn k1) k2 w x = y)) (fun w => aUn (aW cr inn k1) w (aRs (aW cr inn k1) k3 7) cr.toInt.toNat) 0).2 12).toInt + (rSb (fun w => decide (rWh (aW cr inn k1) k2 w x = y)) (fun w => aUn (aW cr inn k1) w (aRs (aW cr inn k1) k3 7) cr.toInt.toNat) 0).2.toInt) from ⟨(Nat.zero_le _), rfl, (Or.inl rfl)⟩) G (lv_sub hl [0, 1, 2, 3, 4, 5, 6] rfl)
  intro i b4 b5 hI9 ih_14 H locs ls G hl
  replace hI9 : i ≤ aPr (aW cr inn k1) 7 ∧ b4 = (rSb (fun w => decide (rWh (aW cr inn k1) k2 w x = y)) (fun w => aUn (aW cr inn k1) w (aRs (aW cr inn k1) k3 7) cr.toInt.toNat) i).1 ∧ (b4 = -1 ∨ b5.toInt = 128 * (zBs (rSb (fun w => decide (rWh (aW cr inn k1) k2 w x = y)) (fun w => aUn (aW cr inn k1) w (aRs (aW cr inn k1) k3 7) cr.toInt.toNat) i).2 12).toInt + (rSb (fun w => decide (rWh (aW cr inn k1) k2 w x = y)) (fun w => aUn (aW cr inn k1) w (aRs (aW cr inn k1) k3 7) cr.toInt.toNat) i).2.toInt) := hI9
  refine zAn3 hI9 ?_
  intro hi hbb hbr
  clear hI9
  replace G : zS T A s.heap s [[zO0 h md wy la pc_ a1_3 a2_4 a3_5 a4_6 a5_7 a6_8, zAr T 0 a1_3 7 f1, zAr T 0 a2_4 7 f2, zAr T 0 a3_5 7 f3, zAr T 0 a4_6 n4 f4, zAr T 0 a5_7 n4 f5, zAr T 0 a6_8 n4 f6], z] _ _ := G
  replace hl : lv_has ls 9 [(6, .int (nI i)), (5, .int b5), (4, .int b4), (3, .int r_2), (0, .ref h), (1, .int x), (2, .int y)] := hl
  refine lv_iload hx hb dX0_nearestWay_14 (lv_at hl 0 rfl) ?_
  refine lv_aload_n hx hb dX0_nearestWay_16 rfl (lv_at hl 4 rfl) ?_
  have G : zS T A s.heap s [[zO0 h md wy la pc_ a1_3 a2_4 a3_5 a4_6 a5_7 a6_8], [zAr T 0 a1_3 7 f1], [zAr T 0 a2_4 7 f2], [zAr T 0 a3_5 7 f3], [zAr T 0 a4_6 n4 f4], [zAr T 0 a5_7 n4 f5], [zAr T 0 a6_8 n4 f6], z] _ _ := G.re rfl
  refine z_get C G clX0 0 rfl 1 (by decide) m_fl_RX0_57 rfl dX0_nearestWay_17 ?_
  refine lv_icmp_ge (tgt := 83) hx hb dX0_nearestWay_20 (by decide) (fun c_10 => ?_) (fun c_10 => ?_)
  · have c_10n : wy.toInt ≤ (i : Int) := by have q := (fa_le _ _).mp c_10; rw [nI_toInt (n := i) (by omega)] at q; exact q
    refine lv_iload hx hb dX0_nearestWay_83 (lv_at hl 2 rfl) ?_
    have hw_11 : bWays T h la md wy pc_ f1 f2 f3 f4 f5 f6 n4 [zO0 h md wy la pc_ a1_3 a2_4 a3_5 a4_6 a5_7 a6_8, zAr T 0 a1_3 7 f1, zAr T 0 a2_4 7 f2, zAr T 0 a3_5 7 f3, zAr T 0 a4_6 n4 f4, zAr T 0 a5_7 n4 f5, zAr T 0 a6_8 n4 f6] := ⟨a1_3, a2_4, a3_5, a4_6, a5_7, a6_8, rfl⟩
    have G : zS T A s.heap s [[zO0 h md wy la pc_ a1_3 a2_4 a3_5 a4_6 a5_7 a6_8, zAr T 0 a1_3 7 f1, zAr T 0 a2_4 7 f2, zAr T 0 a3_5 7 f3, zAr T 0 a4_6 n4 f4, zAr T 0 a5_7 n4 f5, zAr T 0 a6_8 n4 f6], z] _ _ := G.re rfl
    exact z_back hQz_ (z_iret C hr hlocks G (Nat.le_of_ble_eq_true rfl) (Nat.le_of_ble_eq_true rfl) dX0_nearestWay_85 ⟨rfl, (by rw [hbb, show i = aPr (aW cr inn k1) 7 by omega])⟩)
  · have c_10n : ¬ wy.toInt ≤ (i : Int) := fun q => c_10 ((fa_le _ _).mpr (by rw [nI_toInt (n := i) (by omega)]; exact q))
    have hE9 := zEnt_w (w := i) (x := x) hI hO hTt (by omega) hx7
    refine lv_aload_n hx hb dX0_nearestWay_23 rfl (lv_at hl 4 rfl) ?_
    refine lv_iload hx hb dX0_nearestWay_24 (lv_at hl 0 rfl) ?_
    refine lv_iload_n hx hb dX0_nearestWay_26 rfl (lv_at hl 5 rfl) ?_
    have hw_12 : bWays T h la md wy pc_ f1 f2 f3 f4 f5 f6 n4 [zO0 h md wy la pc_ a1_3 a2_4 a3_5 a4_6 a5_7 a6_8, zAr T 0 a1_3 7 f1, zAr T 0 a2_4 7 f2, zAr T 0 a3_5 7 f3, zAr T 0 a4_6 n4 f4, zAr T 0 a5_7 n4 f5, zAr T 0 a6_8 n4 f6] := ⟨a1_3, a2_4, a3_5, a4_6, a5_7, a6_8, rfl⟩
    have G : zS T A s.heap s [[zO0 h md wy la pc_ a1_3 a2_4 a3_5 a4_6 a5_7 a6_8, zAr T 0 a1_3 7 f1, zAr T 0 a2_4 7 f2, zAr T 0 a3_5 7 f3, zAr T 0 a4_6 n4 f4, zAr T 0 a5_7 n4 f5, zAr T 0 a6_8 n4 f6], z] _ _ := G.re rfl
    refine z_Vi (bc := [[zO0 h md wy la pc_ a1_3 a2_4 a3_5 a4_6 a5_7 a6_8, zAr T 0 a1_3 7 f1, zAr T 0 a2_4 7 f2, zAr T 0 a3_5 7 f3, zAr T 0 a4_6 n4 f4, zAr T 0 a5_7 n4 f5, zAr T 0 a6_8 n4 f6]]) (br := [z]) (As := [.int (nI i), .int x]) (rest := []) C G (c_where l T h la md wy pc_ f1 f2 f3 f4 f5 f6 n4 ([zO0 h md wy la pc_ a1_3 a2_4 a3_5 a4_6 a5_7 a6_8, zAr T 0 a1_3 7 f1, zAr T 0 a2_4 7 f2, zAr T 0 a3_5 7 f3, zAr T 0 a4_6 n4 f4, zAr T 0 a5_7 n4 f5, zAr T 0 a6_8 n4 f6]) (nI i) x hw_12 (by first | with_reducible assumption | with_reducible rfl | omega | assumption | rfl)) (kV_RX0_94 C.2.2.2.2 (Nat.le_of_ble_eq_true rfl) (Nat.le_of_ble_eq_true rfl)) [0] [0] rfl rfl (ci := 0) (qc := (RX0, TX0, 10)) rfl rfl (List.mem_flatten.mpr ⟨_, List.mem_of_getElem? (i := 0) rfl, (bWays_mem hw_12).choose_spec⟩) rfl rfl hl.1 dX0_nearestWay_27 (Nat.le_of_ble_eq_true rfl) (Nat.le_of_ble_eq_true rfl) (fun r_14 b1 H locs hw G => ?_)
    refine zAn2 hw ?_
    intro hbs9 h_13
    clear hw
    subst hbs9
    have G : zS T A s.heap s [z, [zO0 h md wy la pc_ a1_3 a2_4 a3_5 a4_6 a5_7 a6_8, zAr T 0 a1_3 7 f1, zAr T 0 a2_4 7 f2, zAr T 0 a3_5 7 f3, zAr T 0 a4_6 n4 f4, zAr T 0 a5_7 n4 f5, zAr T 0 a6_8 n4 f6]] _ _ := G
    subst h_13
    refine lv_topi (fun y_15 ey_15 => ?_)
    obtain rfl : y_15 = (rWh (aW cr inn k1) k2 i x) := ey_15.trans (hE9.1)
    refine lv_iload_n hx hb dX0_nearestWay_30 rfl (lv_at hl 6 rfl) ?_
    refine lv_icmp_ne (tgt := 77) hx hb dX0_nearestWay_31 (by decide) (fun c_16 => ?_) (fun c_16 => ?_)
    · have c_16n : ¬ (rWh (aW cr inn k1) k2 i x).toInt = y.toInt := fun q => c_16 ((fa_eq _ _).mpr q)
      have hbs9 := (rSb_s (C := (fun w => decide (rWh (aW cr inn k1) k2 w x = y))) (M := (fun w => aUn (aW cr inn k1) w (aRs (aW cr inn k1) k3 7) cr.toInt.toNat)) (mn := (aUn (aW cr inn k1) i (aRs (aW cr inn k1) k3 7) cr.toInt.toNat)) hbb rfl).2 (fun q8 => absurd (of_decide_eq_true q8.1) (by first | with_reducible assumption | assumption))
      refine lv_iinc (v := nI (i + 1)) (lv' := [(6, .int (nI (i + 1))), (5, .int b5), (4, .int b4), (3, .int r_2), (0, .ref h), (1, .int x), (2, .int y)]) hx hb dX0_nearestWay_77 hl (k := 0) rfl (z_inc i 1) (by decide) (zLvf_h rfl) (fun ls hl => ?_)
      refine lv_goto (tgt := 14) hx hb dX0_nearestWay_80 (by decide) ?_
      have G := G.sub (bs' := [[zO0 h md wy la pc_ a1_3 a2_4 a3_5 a4_6 a5_7 a6_8, zAr T 0 a1_3 7 f1, zAr T 0 a2_4 7 f2, zAr T 0 a3_5 7 f3, zAr T 0 a4_6 n4 f4, zAr T 0 a5_7 n4 f5, zAr T 0 a6_8 n4 f6], z]) [1, 0] rfl
      exact ih_14 (i + 1) b4 b5 (show (i + 1) ≤ aPr (aW cr inn k1) 7 ∧ b4 = (rSb (fun w => decide (rWh (aW cr inn k1) k2 w x = y)) (fun w => aUn (aW cr inn k1) w (aRs (aW cr inn k1) k3 7) cr.toInt.toNat) (i + 1)).1 ∧ (b4 = -1 ∨ b5.toInt = 128 * (zBs (rSb (fun w => decide (rWh (aW cr inn k1) k2 w x = y)) (fun w => aUn (aW cr inn k1) w (aRs (aW cr inn k1) k3 7) cr.toInt.toNat) (i + 1)).2 12).toInt + (rSb (fun w => decide (rWh (aW cr inn k1) k2 w x = y)) (fun w => aUn (aW cr inn k1) w (aRs (aW cr inn k1) k3 7) cr.toInt.toNat) (i + 1)).2.toInt) from ⟨(by omega), hbs9.1, (by rw [← hbs9.2]; exact hbr)⟩) (show aPr (aW cr inn k1) 7 - (i + 1) < aPr (aW cr inn k1) 7 - i from by omega) _ _ ls G (lv_sub hl [0, 1, 2, 3, 4, 5, 6] rfl)
    · have c_16n : (rWh (aW cr inn k1) k2 i x).toInt = y.toInt := (fa_eq _ _).mp c_16
      refine lv_aload_n hx hb dX0_nearestWay_34 rfl (lv_at hl 4 rfl) ?_
      refine lv_iload hx hb dX0_nearestWay_35 (lv_at hl 0 rfl) ?_
      refine lv_iload_n hx hb dX0_nearestWay_37 rfl (lv_at hl 3 rfl) ?_
      refine z_Vi (bc := [[zO0 h md wy la pc_ a1_3 a2_4 a3_5 a4_6 a5_7 a6_8, zAr T 0 a1_3 7 f1, zAr T 0 a2_4 7 f2, zAr T 0 a3_5 7 f3, zAr T 0 a4_6 n4 f4, zAr T 0 a5_7 n4 f5, zAr T 0 a6_8 n4 f6], z]) (br := []) (As := [.int (nI i), .int r_2]) (rest := []) C G (c_f_unlike l T h la md wy pc_ f1 f2 f3 f4 f5 f6 n4 ([zO0 h md wy la pc_ a1_3 a2_4 a3_5 a4_6 a5_7 a6_8, zAr T 0 a1_3 7 f1, zAr T 0 a2_4 7 f2, zAr T 0 a3_5 7 f3, zAr T 0 a4_6 n4 f4, zAr T 0 a5_7 n4 f5, zAr T 0 a6_8 n4 f6]) cr inn k1 k2 k3 k4 z (nI i) r_2 hw_12 hz (by first | with_reducible assumption | with_reducible rfl | omega | assumption | rfl) (by first | with_reducible assumption | with_reducible rfl | omega | assumption | rfl) (by first | with_reducible assumption | with_reducible rfl | omega | assumption | rfl) (by rw [nI_toInt (by omega)]; omega) (by omega)) (kV_RX0_114 C.2.2.2.2 (Nat.le_of_ble_eq_true rfl) (Nat.le_of_ble_eq_true rfl)) [1, 0] [0, 0] rfl rfl (ci := 0) (qc := (RX0, TX0, 10)) rfl rfl (List.mem_flatten.mpr ⟨_, List.mem_of_getElem? (i := 0) rfl, (bWays_mem hw_12).choose_spec⟩) rfl rfl hl.1 dX0_nearestWay_38 (Nat.le_of_ble_eq_true rfl) (Nat.le_of_ble_eq_true rfl) (fun r_18 b1 H locs hw G => ?_)
      refine zAn2 hw ?_
      intro hbs9 h_17
      clear hw
      subst hbs9
      have G : zS T A s.heap s [[zO0 h md wy la pc_ a1_3 a2_4 a3_5 a4_6 a5_7 a6_8, zAr T 0 a1_3 7 f1, zAr T 0 a2_4 7 f2, zAr T 0 a3_5 7 f3, zAr T 0 a4_6 n4 f4, zAr T 0 a5_7 n4 f5, zAr T 0 a6_8 n4 f6], z] _ _ := G
      have hmk9 : r_18 = (aUn (aW cr inn k1) i (aRs (aW cr inn k1) k3 7) cr.toInt.toNat) := by rw [h_17, nI_n (by omega), hwt7]
      have hrk9 := rank_e (x := r_18) (by rw [hmk9]; exact aUn_k (by omega))
      have hrp9 := rank_e (x := (rSb (fun w => decide (rWh (aW cr inn k1) k2 w x = y)) (fun w => aUn (aW cr inn k1) w (aRs (aW cr inn k1) k3 7) cr.toInt.toNat) i).2) (rSb_m (fun w => aUn_k (by omega)) i)
      refine lv_istore (lv' := [(7, .int r_18), (6, .int (nI i)), (5, .int b5), (4, .int b4), (3, .int r_2), (0, .ref h), (1, .int x), (2, .int y)]) hx hb dX0_nearestWay_41 hl (by decide) (zLvf_h rfl) (fun ls hl => ?_)
      refine lv_iload hx hb dX0_nearestWay_43 (lv_at hl 0 rfl) ?_
      refine z_Si (bc := []) (br := [[zO0 h md wy la pc_ a1_3 a2_4 a3_5 a4_6 a5_7 a6_8, zAr T 0 a1_3 7 f1, zAr T 0 a2_4 7 f2, zAr T 0 a3_5 7 f3, zAr T 0 a4_6 n4 f4, zAr T 0 a5_7 n4 f5, zAr T 0 a6_8 n4 f6], z]) (As := [.int r_18]) (rest := []) C G (c_f_bitCountT l T r_18) (kS_RX0_117 C.2.2.2.2 (Nat.le_of_ble_eq_true rfl) (Nat.le_of_ble_eq_true rfl)) [] [] rfl rfl rfl rfl hl.1 dX0_nearestWay_45 (Nat.le_of_ble_eq_true rfl) (Nat.le_of_ble_eq_true rfl) (fun r_20 b1 H locs hw G => ?_)
      refine zAn2 hw ?_
      intro hbs9 h_19
      clear hw
      subst hbs9
      have G : zS T A s.heap s [[zO0 h md wy la pc_ a1_3 a2_4 a3_5 a4_6 a5_7 a6_8, zAr T 0 a1_3 7 f1, zAr T 0 a2_4 7 f2, zAr T 0 a3_5 7 f3, zAr T 0 a4_6 n4 f4, zAr T 0 a5_7 n4 f5, zAr T 0 a6_8 n4 f6], z] _ _ := G
      subst h_19
      refine lv_bipush (v := 7) hx hb dX0_nearestWay_48 (by decide) ?_
      refine lv_ishl hx hb dX0_nearestWay_50 ?_
      refine lv_iload hx hb dX0_nearestWay_51 (lv_at hl 0 rfl) ?_
      refine lv_iadd hx hb dX0_nearestWay_53 ?_
      refine lv_istore (lv' := [(8, .int (((zJt r_18) <<< (7 &&& 31)) + r_18)), (7, .int r_18), (6, .int (nI i)), (5, .int b5), (4, .int b4), (3, .int r_2), (0, .ref h), (1, .int x), (2, .int y)]) hx hb dX0_nearestWay_54 hl (by decide) (zLvf_h rfl) (fun ls hl => ?_)
      refine lv_iload hx hb dX0_nearestWay_56 (lv_at hl 4 rfl) ?_
      refine lv_iconst (v := (-1)) hx hb dX0_nearestWay_58 (by decide) ?_
      refine lv_icmp_eq (tgt := 69) hx hb dX0_nearestWay_59 (by decide) (fun c_21 => ?_) (fun c_21 => ?_)
      · have c_21n : b4.toInt = (-1 : Int) := (fa_eq _ _).mp c_21
        refine lv_iload hx hb dX0_nearestWay_69 (lv_at hl 2 rfl) ?_
        refine lv_istore (lv' := [(4, .int (nI i)), (8, .int (((zJt r_18) <<< (7 &&& 31)) + r_18)), (7, .int r_18), (6, .int (nI i)), (5, .int b5), (3, .int r_2), (0, .ref h), (1, .int x), (2, .int y)]) hx hb dX0_nearestWay_71 hl (by decide) (zLvf_h rfl) (fun ls hl => ?_)
        refine lv_iload hx hb dX0_nearestWay_73 (lv_at hl 1 rfl) ?_
        refine lv_istore (lv' := [(5, .int (((zJt r_18) <<< (7 &&& 31)) + r_18)), (4, .int (nI i)), (8, .int (((zJt r_18) <<< (7 &&& 31)) + r_18)), (7, .int r_18), (6, .int (nI i)), (3, .int r_2), (0, .ref h), (1, .int x), (2, .int y)]) hx hb dX0_nearestWay_75 hl (by decide) (zLvf_h rfl) (fun ls hl => ?_)
        have hbs9 := (rSb_s (C := (fun w => decide (rWh (aW cr inn k1) k2 w x = y))) (M := (fun w => aUn (aW cr inn k1) w (aRs (aW cr inn k1) k3 7) cr.toInt.toNat)) hbb hmk9).1 (decide_eq_true (by first | with_reducible assumption | assumption)) (by rcases hbr with e9 | e9 <;> first | exact Or.inl (by rw [e9]; rfl) | omega)
        refine lv_iinc (v := nI (i + 1)) (lv' := [(6, .int (nI (i + 1))), (5, .int (((zJt r_18) <<< (7 &&& 31)) + r_18)), (4, .int (nI i)), (8, .int (((zJt r_18) <<< (7 &&& 31)) + r_18)), (7, .int r_18), (3, .int r_2), (0, .ref h), (1, .int x), (2, .int y)]) hx hb dX0_nearestWay_77 hl (k := 4) rfl (z_inc i 1) (by decide) (zLvf_h rfl) (fun ls hl => ?_)
        refine lv_goto (tgt := 14) hx hb dX0_nearestWay_80 (by decide) ?_
        exact ih_14 (i + 1) (nI i) (((zJt r_18) <<< (7 &&& 31)) + r_18) (show (i + 1) ≤ aPr (aW cr inn k1) 7 ∧ (nI i) = (rSb (fun w => decide (rWh (aW cr inn k1) k2 w x = y)) (fun w => aUn (aW cr inn k1) w (aRs (aW cr inn k1) k3 7) cr.toInt.toNat) (i + 1)).1 ∧ ((nI i) = -1 ∨ (((zJt r_18) <<< (7 &&& 31)) + r_18).toInt = 128 * (zBs (rSb (fun w => decide (rWh (aW cr inn k1) k2 w x = y)) (fun w => aUn (aW cr inn k1) w (aRs (aW cr inn k1) k3 7) cr.toInt.toNat) (i + 1)).2 12).toInt + (rSb (fun w => decide (rWh (aW cr inn k1) k2 w x = y)) (fun w => aUn (aW cr inn k1) w (aRs (aW cr inn k1) k3 7) cr.toInt.toNat) (i + 1)).2.toInt) from ⟨(by omega), hbs9.1, (Or.inr (by rw [← hbs9.2]; exact hrk9.1))⟩) (show aPr (aW cr inn k1) 7 - (i + 1) < aPr (aW cr inn k1) 7 - i from by omega) _ _ ls G (lv_sub hl [0, 1, 2, 5, 6, 7, 8] rfl)
      · have c_21n : ¬ b4.toInt = (-1 : Int) := fun q => c_21 ((fa_eq _ _).mpr q)
        refine lv_iload hx hb dX0_nearestWay_62 (lv_at hl 0 rfl) ?_
        refine lv_iload hx hb dX0_nearestWay_64 (lv_at hl 3 rfl) ?_
        refine lv_icmp_ge (tgt := 77) hx hb dX0_nearestWay_66 (by decide) (fun c_22 => ?_) (fun c_22 => ?_)
        · have c_22n : b5.toInt ≤ (((zJt r_18) <<< (7 &&& 31)) + r_18).toInt := (fa_le _ _).mp c_22
          have hbs9 := (rSb_s (C := (fun w => decide (rWh (aW cr inn k1) k2 w x = y))) (M := (fun w => aUn (aW cr inn k1) w (aRs (aW cr inn k1) k3 7) cr.toInt.toNat)) hbb hmk9).2 (fun q8 => by have q7 := q8.2; rcases hbr with e9 | e9 <;> first | omega | (exfalso; have q6 := congrArg Int32.toInt e9; have m1 : (-1 : Int32).toInt = -1 := rfl; omega))
          refine lv_iinc (v := nI (i + 1)) (lv' := [(6, .int (nI (i + 1))), (8, .int (((zJt r_18) <<< (7 &&& 31)) + r_18)), (7, .int r_18), (5, .int b5), (4, .int b4), (3, .int r_2), (0, .ref h), (1, .int x), (2, .int y)]) hx hb dX0_nearestWay_77 hl (k := 2) rfl (z_inc i 1) (by decide) (zLvf_h rfl) (fun ls hl => ?_)
          refine lv_goto (tgt := 14) hx hb dX0_nearestWay_80 (by decide) ?_
          exact ih_14 (i + 1) b4 b5 (show (i + 1) ≤ aPr (aW cr inn k1) 7 ∧ b4 = (rSb (fun w => decide (rWh (aW cr inn k1) k2 w x = y)) (fun w => aUn (aW cr inn k1) w (aRs (aW cr inn k1) k3 7) cr.toInt.toNat) (i + 1)).1 ∧ (b4 = -1 ∨ b5.toInt = 128 * (zBs (rSb (fun w => decide (rWh (aW cr inn k1) k2 w x = y)) (fun w => aUn (aW cr inn k1) w (aRs (aW cr inn k1) k3 7) cr.toInt.toNat) (i + 1)).2 12).toInt + (rSb (fun w => decide (rWh (aW cr inn k1) k2 w x = y)) (fun w => aUn (aW cr inn k1) w (aRs (aW cr inn k1) k3 7) cr.toInt.toNat) (i + 1)).2.toInt) from ⟨(by omega), hbs9.1, (by rw [← hbs9.2]; exact hbr)⟩) (show aPr (aW cr inn k1) 7 - (i + 1) < aPr (aW cr inn k1) 7 - i from by omega) _ _ ls G (lv_sub hl [0, 3, 4, 5, 6, 7, 8] rfl)
        · have c_22n : ¬ b5.toInt ≤ (((zJt r_18) <<< (7 &&& 31)) + r_18).toInt := fun q => c_22 ((fa_le _ _).mpr q)
          refine lv_iload hx hb dX0_nearestWay_69 (lv_at hl 2 rfl) ?_
          refine lv_istore (lv' := [(4, .int (nI i)), (8, .int (((zJt r_18) <<< (7 &&& 31)) + r_18)), (7, .int r_18), (6, .int (nI i)), (5, .int b5), (3, .int r_2), (0, .ref h), (1, .int x), (2, .int y)]) hx hb dX0_nearestWay_71 hl (by decide) (zLvf_h rfl) (fun ls hl => ?_)
          refine lv_iload hx hb dX0_nearestWay_73 (lv_at hl 1 rfl) ?_
          refine lv_istore (lv' := [(5, .int (((zJt r_18) <<< (7 &&& 31)) + r_18)), (4, .int (nI i)), (8, .int (((zJt r_18) <<< (7 &&& 31)) + r_18)), (7, .int r_18), (6, .int (nI i)), (3, .int r_2), (0, .ref h), (1, .int x), (2, .int y)]) hx hb dX0_nearestWay_75 hl (by decide) (zLvf_h rfl) (fun ls hl => ?_)
          have hbs9 := (rSb_s (C := (fun w => decide (rWh (aW cr inn k1) k2 w x = y))) (M := (fun w => aUn (aW cr inn k1) w (aRs (aW cr inn k1) k3 7) cr.toInt.toNat)) hbb hmk9).1 (decide_eq_true (by first | with_reducible assumption | assumption)) (by rcases hbr with e9 | e9 <;> first | exact Or.inl (by rw [e9]; rfl) | omega)
          refine lv_iinc (v := nI (i + 1)) (lv' := [(6, .int (nI (i + 1))), (5, .int (((zJt r_18) <<< (7 &&& 31)) + r_18)), (4, .int (nI i)), (8, .int (((zJt r_18) <<< (7 &&& 31)) + r_18)), (7, .int r_18), (3, .int r_2), (0, .ref h), (1, .int x), (2, .int y)]) hx hb dX0_nearestWay_77 hl (k := 4) rfl (z_inc i 1) (by decide) (zLvf_h rfl) (fun ls hl => ?_)
          refine lv_goto (tgt := 14) hx hb dX0_nearestWay_80 (by decide) ?_
          exact ih_14 (i + 1) (nI i) (((zJt r_18) <<< (7 &&& 31)) + r_18) (show (i + 1) ≤ aPr (aW cr inn k1) 7 ∧ (nI i) = (rSb (fun w => decide (rWh (aW cr inn k1) k2 w x = y)) (fun w => aUn (aW cr inn k1) w (aRs (aW cr inn k1) k3 7) cr.toInt.toNat) (i + 1)).1 ∧ ((nI i) = -1 ∨ (((zJt r_18) <<< (7 &&& 31)) + r_18).toInt = 128 * (zBs (rSb (fun w => decide (rWh (aW cr inn k1) k2 w x = y)) (fun w => aUn (aW cr inn k1) w (aRs (aW cr inn k1) k3 7) cr.toInt.toNat) (i + 1)).2 12).toInt + (rSb (fun w => decide (rWh (aW cr inn k1) k2 w x = y)) (fun w => aUn (aW cr inn k1) w (aRs (aW cr inn k1) k3 7) cr.toInt.toNat) (i + 1)).2.toInt) from ⟨(by omega), hbs9.1, (Or.inr (by rw [← hbs9.2]; exact hrk9.1))⟩) (show aPr (aW cr inn k1) 7 - (i + 1) < aPr (aW cr inn k1) 7 - i from by omega) _ _ ls G (lv_sub hl [0, 1, 2, 5, 6, 7, 8] rfl)
set_option maxHeartbeats 4000000 in
set_option maxRecDepth 100000 in
/-- c_f_set -/
theorem c_f_set (l : Launch) (T : zTy) (xo : Nat) (t : Nat) (im : Nat) (mk : Nat) (rd : Nat) (po : Nat) (co : Nat) (tr : Nat) (wa : Nat) (wb_ : Nat) (fi : Nat) (cd : Nat) (l0 : Nat) (l1 : Nat) (d0 : Nat) (d1 : Nat) (g0 : Nat) (g1 : Nat) (ln : Int32) (fl : Int32) (pl : Int32) (ft : Nat → Int32) (fk : Nat → Int32) (wt : va_W) (cr0_ : Int32) (inn0_ : Int32) (k10_ : Nat → Int32) (k20_ : Nat → Int32) (k30_ : Nat → Int32) (k40_ : Nat → Int32) (z0_ : va_W) (cr1_ : Int32) (inn1_ : Int32) (k11_ : Nat → Int32) (k21_ : Nat → Int32) (k31_ : Nat → Int32) (k41_ : Nat → Int32) (z1_ : va_W) (laA : Nat) (mdA : Int32) (wyA : Int32) (pc_A : Int32) (f1A : Nat → Int32) (f2A : Nat → Int32) (f3A : Nat → Int32) (f4A : Nat → Int32) (f5A : Nat → Int32) (f6A : Nat → Int32) (n4A : Nat) (wwA : va_W) (laB : Nat) (mdB : Int32) (wyB : Int32) (pc_B : Int32) (f1B : Nat → Int32) (f2B : Nat → Int32) (f3B : Nat → Int32) (f4B : Nat → Int32) (f5B : Nat → Int32) (f6B : Nat → Int32) (n4B : Nat) (wwB : va_W) (i1 : Int32) (a_ : Int32) (b_ : Int32) (w_ : Int32) (ht : bTold T t l0 l1 d0 d1 g0 g1 ln fl pl ft fk wt) (hK : zKT fk) (hz0_ : bLand T l0 cr0_ inn0_ k10_ k20_ k30_ k40_ z0_) (hI0_ : zLI cr0_ k10_ k30_) (hz1_ : bLand T l1 cr1_ inn1_ k11_ k21_ k31_ k41_ z1_) (hI1_ : zLI cr1_ k11_ k31_) (hwwA : bWays T wa laA mdA wyA pc_A f1A f2A f3A f4A f5A f6A n4A wwA) (hpwA : zPw n4A) (hmdA : mdA = 0 ∨ laA = l0) (hwmA : 0 ≤ wyA.toInt ∧ wyA.toInt ≤ 16384) (hTbA : mdA = 0 ∨ zTab cr0_ inn0_ k10_ k20_ wyA pc_A f1A f2A f5A n4A) (hLq0 : zLq cr0_ k10_ k20_) (hwwB : bWays T wb_ laB mdB wyB pc_B f1B f2B f3B f4B f5B f6B n4B wwB) (hpwB : zPw n4B) (hmdB : mdB = 0 ∨ laB = l1) (hwmB : 0 ≤ wyB.toInt ∧ wyB.toInt ≤ 16384) (hTbB : mdB = 0 ∨ zTab cr1_ inn1_ k11_ k21_ wyB pc_B f1B f2B f5B n4B) (hLq1 : zLq cr1_ k11_ k21_) : zMi l T yX11_set cX11_set 10 (some .int) 7 3 (6 * (zNA (i1.toInt = 0 ∧ 0 < (fk 0).toInt ∧ 0 ≤ a_.toInt ∧ a_.toInt < cr0_.toInt ∧ a_.toInt < 7 ∧ 0 ≤ b_.toInt ∧ b_.toInt < cr0_.toInt ∧ b_.toInt < 7 ∧ ¬ zBit inn0_ b_ = 0) mdA n4A (zPl cr0_ inn0_ k10_) - n4A) + 6 * (zNA (i1.toInt = 1 ∧ 1 < (fk 0).toInt ∧ 0 ≤ a_.toInt ∧ a_.toInt < cr1_.toInt ∧ a_.toInt < 7 ∧ 0 ≤ b_.toInt ∧ b_.toInt < cr1_.toInt ∧ b_.toInt < 7 ∧ ¬ zBit inn1_ b_ = 0) mdB n4B (zPl cr1_ inn1_ k11_) - n4B)) [.ref xo, .int i1, .int a_, .int b_, .int w_] [[zO10 xo t im mk rd po co tr wa wb_ fi cd], wt, z0_, z1_, wwA, wwB] (fun (r : Int32) bs => ∃ (laA_2 : Nat) (mdA_2 : Int32) (wyA_2 : Int32) (pc_A_2 : Int32) (f1A_2 : Nat → Int32) (f2A_2 : Nat → Int32) (f3A_2 : Nat → Int32) (f4A_2 : Nat → Int32) (f5A_2 : Nat → Int32) (f6A_2 : Nat → Int32) (n4A_2 : Nat) (wwA_2 : va_W) (laB_2 : Nat) (mdB_2 : Int32) (wyB_2 : Int32) (pc_B_2 : Int32) (f1B_2 : Nat → Int32) (f2B_2 : Nat → Int32) (f3B_2 : Nat → Int32) (f4B_2 : Nat → Int32) (f5B_2 : Nat → Int32) (f6B_2 : Nat → Int32) (n4B_2 : Nat) (wwB_2 : va_W), bs = [[zO10 xo t im mk rd po co tr wa wb_ fi cd], wt, z0_, z1_, wwA_2, wwB_2] ∧ bWays T wa laA_2 mdA_2 wyA_2 pc_A_2 f1A_2 f2A_2 f3A_2 f4A_2 f5A_2 f6A_2 n4A_2 wwA_2 ∧ (mdA_2 = 0 ∨ laA_2 = l0) ∧ (0 ≤ wyA_2.toInt ∧ wyA_2.toInt ≤ 16384) ∧ n4A_2 = zNA (i1.toInt = 0 ∧ 0 < (fk 0).toInt ∧ 0 ≤ a_.toInt ∧ a_.toInt < cr0_.toInt ∧ a_.toInt < 7 ∧ 0 ≤ b_.toInt ∧ b_.toInt < cr0_.toInt ∧ b_.toInt < 7 ∧ ¬ zBit inn0_ b_ = 0) mdA n4A (zPl cr0_ inn0_ k10_) ∧ zPw n4A_2 ∧ (¬ mdA = 0 → ¬ mdA_2 = 0) ∧ (mdA_2 = 0 ∨ zTab cr0_ inn0_ k10_ k20_ wyA_2 pc_A_2 f1A_2 f2A_2 f5A_2 n4A_2) ∧ bWays T wb_ laB_2 mdB_2 wyB_2 pc_B_2 f1B_2 f2B_2 f3B_2 f4B_2 f5B_2 f6B_2 n4B_2 wwB_2 ∧ (mdB_2 = 0 ∨ laB_2 = l1) ∧ (0 ≤ wyB_2.toInt ∧ wyB_2.toInt ≤ 16384) ∧ n4B_2 = zNA (i1.toInt = 1 ∧ 1 < (fk 0).toInt ∧ 0 ≤ a_.toInt ∧ a_.toInt < cr1_.toInt ∧ a_.toInt < 7 ∧ 0 ≤ b_.toInt ∧ b_.toInt < cr1_.toInt ∧ b_.toInt < 7 ∧ ¬ zBit inn1_ b_ = 0) mdB n4B (zPl cr1_ inn1_ k11_) ∧ zPw n4B_2 ∧ (¬ mdB = 0 → ¬ mdB_2 = 0) ∧ (mdB_2 = 0 ∨ zTab cr1_ inn1_ k11_ k21_ wyB_2 pc_B_2 f1B_2 f2B_2 f5B_2 n4B_2) ∧ ((i1.toInt < 0 ∨ (fk 0).toInt ≤ i1.toInt ∨ 2 ≤ i1.toInt) ∧ r = -1 ∨ i1.toInt = 0 ∧ 0 < (fk 0).toInt ∧ r = kSet cr0_ inn0_ k10_ k20_ k30_ a_ b_ w_ ∨ i1.toInt = 1 ∧ 1 < (fk 0).toInt ∧ r = kSet cr1_ inn1_ k11_ k21_ k31_ a_ b_ w_)) := by
  refine zMi_of (own := RX11) (by decide) rfl (Nat.le_of_ble_eq_true rfl) ?_
  intro p e s m args below meth c A ls C hr hlocks hnm hAe G hl
  refine zHide (fun Qz_ hQz_ => ?_)
  have hx := C.1
  have hb := C.2.1
  replace hmdA : zHd (mdA = 0 ∨ laA = l0) := hmdA
  replace hTbA : zHd (mdA = 0 ∨ zTab cr0_ inn0_ k10_ k20_ wyA pc_A f1A f2A f5A n4A) := hTbA
  replace hmdB : zHd (mdB = 0 ∨ laB = l1) := hmdB
  replace hTbB : zHd (mdB = 0 ∨ zTab cr1_ inn1_ k11_ k21_ wyB pc_B f1B f2B f5B n4B) := hTbB
  have hl : lv_has ls 10 [(0, .ref xo), (1, .int i1), (2, .int a_), (3, .int b_), (4, .int w_)] := hl
  refine lv_aload_n hx hb dX11_set_0 rfl (lv_at hl 0 rfl) ?_
  refine z_get C G clX11 0 rfl 0 (by decide) m_fl_RX11_10 rfl dX11_set_1 ?_
  refine lv_iload_n hx hb dX11_set_4 rfl (lv_at hl 1 rfl) ?_
  refine z_Vq (bc := [wt]) (br := [[zO10 xo t im mk rd po co tr wa wb_ fi cd], z0_, z1_, wwA, wwB]) (As := [.int i1]) (rest := []) C G (c_landAt l T t l0 l1 d0 d1 g0 g1 ln fl pl ft fk wt i1 ht) (kV_RX11_121 C.2.2.2.2 (Nat.le_of_ble_eq_true rfl) (Nat.le_of_ble_eq_true rfl)) [1] [1] rfl rfl (ci := 8) (qc := (RX9, TX9, 8)) rfl rfl (List.mem_flatten.mpr ⟨_, List.mem_of_getElem? (i := 0) rfl, (bTold_mem ht).choose_spec⟩) rfl rfl hl.1 dX11_set_5 (Nat.le_of_ble_eq_true rfl) (by show _ + 0 ≤ 6 * (zNA (i1.toInt = 0 ∧ 0 < (fk 0).toInt ∧ 0 ≤ a_.toInt ∧ a_.toInt < cr0_.toInt ∧ a_.toInt < 7 ∧ 0 ≤ b_.toInt ∧ b_.toInt < cr0_.toInt ∧ b_.toInt < 7 ∧ ¬ zBit inn0_ b_ = 0) mdA n4A (zPl cr0_ inn0_ k10_) - n4A) + 6 * (zNA (i1.toInt = 1 ∧ 1 < (fk 0).toInt ∧ 0 ≤ a_.toInt ∧ a_.toInt < cr1_.toInt ∧ a_.toInt < 7 ∧ 0 ≤ b_.toInt ∧ b_.toInt < cr1_.toInt ∧ b_.toInt < 7 ∧ ¬ zBit inn1_ b_ = 0) mdB n4B (zPl cr1_ inn1_ k11_) - n4B); omega) (fun r_2 b1 H locs hw G => ?_)
  refine zAn2 hw ?_
  intro hbs9 hc_1
  clear hw
  subst hbs9
  have G : zS T A s.heap s [[zO10 xo t im mk rd po co tr wa wb_ fi cd], z0_, z1_, wwA, wwB, wt] _ _ := G
  rcases hc_1 with ⟨rfl, h_3⟩ | ⟨rfl, h_4, h_5⟩ | ⟨rfl, h_6, h_7⟩
  · have h_3 : (i1.toInt < 0 ∨ (fk 0).toInt ≤ i1.toInt ∨ 2 ≤ i1.toInt) := h_3
    refine lv_astoreN (lv' := [(5, .null), (0, .ref xo), (1, .int i1), (2, .int a_), (3, .int b_), (4, .int w_)]) hx hb dX11_set_8 hl (by decide) (zLvf_h rfl) (fun ls hl => ?_)
    refine lv_aloadN hx hb dX11_set_10 (lv_at hl 0 rfl) ?_
    refine lv_ifnullN (tgt := 33) hx hb dX11_set_12 (by decide) ?_
    refine lv_iconst (v := (-1)) hx hb dX11_set_33 (by decide) ?_
    have G := G.sub (bs' := [[zO10 xo t im mk rd po co tr wa wb_ fi cd], wt, z0_, z1_, wwA, wwB]) [0, 5, 1, 2, 3, 4] rfl
    exact z_back hQz_ (z_iret C hr hlocks G (Nat.le_of_ble_eq_true rfl) (by omega) dX11_set_34 ⟨laA, mdA, wyA, pc_A, f1A, f2A, f3A, f4A, f5A, f6A, n4A, wwA, laB, mdB, wyB, pc_B, f1B, f2B, f3B, f4B, f5B, f6B, n4B, wwB, rfl, hwwA, hmdA, hwmA, (by first | exact hNAo.symm | exact (zNA_n (by first | omega | grind)).symm), hpwA, (fun q => q), hTbA, hwwB, hmdB, hwmB, (by first | exact hNAo.symm | exact (zNA_n (by first | omega | grind)).symm), hpwB, (fun q => q), hTbB, (Or.inl ⟨by first | with_reducible assumption | assumption, rfl⟩)⟩)
  · have h_4 : i1.toInt = 0 := h_4
    have h_5 : 0 < (fk 0).toInt := h_5
    refine lv_astore (lv' := [(5, .ref l0), (0, .ref xo), (1, .int i1), (2, .int a_), (3, .int b_), (4, .int w_)]) hx hb dX11_set_8 hl (by decide) (zLvf_h rfl) (fun ls hl => ?_)
    refine lv_aload hx hb dX11_set_10 (lv_at hl 0 rfl) ?_
    refine lv_ifnull hx hb dX11_set_12 ?_
    refine lv_aload hx hb dX11_set_15 (lv_at hl 0 rfl) ?_
    refine lv_iload_n hx hb dX11_set_17 rfl (lv_at hl 3 rfl) ?_
    refine z_Vi (bc := [z0_]) (br := [[zO10 xo t im mk rd po co tr wa wb_ fi cd], z1_, wwA, wwB, wt]) (As := [.int a_]) (rest := []) C G (c_has l T l0 cr0_ inn0_ k10_ k20_ k30_ k40_ z0_ a_ hz0_) (kV_RX11_160 C.2.2.2.2 (Nat.le_of_ble_eq_true rfl) (Nat.le_of_ble_eq_true rfl)) [1] [1] rfl rfl (ci := 4) (qc := (RX4, TX4, 6)) rfl rfl (List.mem_flatten.mpr ⟨_, List.mem_of_getElem? (i := 0) rfl, (bLand_mem hz0_).choose_spec⟩) rfl rfl hl.1 dX11_set_18 (Nat.le_of_ble_eq_true rfl) (by show _ + 0 ≤ 6 * (zNA (i1.toInt = 0 ∧ 0 < (fk 0).toInt ∧ 0 ≤ a_.toInt ∧ a_.toInt < cr0_.toInt ∧ a_.toInt < 7 ∧ 0 ≤ b_.toInt ∧ b_.toInt < cr0_.toInt ∧ b_.toInt < 7 ∧ ¬ zBit inn0_ b_ = 0) mdA n4A (zPl cr0_ inn0_ k10_) - n4A) + 6 * (zNA (i1.toInt = 1 ∧ 1 < (fk 0).toInt ∧ 0 ≤ a_.toInt ∧ a_.toInt < cr1_.toInt ∧ a_.toInt < 7 ∧ 0 ≤ b_.toInt ∧ b_.toInt < cr1_.toInt ∧ b_.toInt < 7 ∧ ¬ zBit inn1_ b_ = 0) mdB n4B (zPl cr1_ inn1_ k11_) - n4B); omega) (fun r_9 b1 H locs hw G => ?_)
    refine zAn2 hw ?_
    intro hbs9 hc_8
    clear hw
    subst hbs9
    have G : zS T A s.heap s [[zO10 xo t im mk rd po co tr wa wb_ fi cd], z1_, wwA, wwB, wt, z0_] _ _ := G
    rcases hc_8 with ⟨rfl, h_10, h_11, h_12⟩ | ⟨rfl, h_13⟩
    · have h_10 : 0 ≤ a_.toInt := h_10
      have h_11 : a_.toInt < cr0_.toInt := h_11
      have h_12 : a_.toInt < 7 := h_12
      refine lv_if_eq (tgt := 33) hx hb dX11_set_21 (by decide) (fun q => absurd q (by decide)) (fun _ => ?_)
      refine lv_aload hx hb dX11_set_24 (lv_at hl 0 rfl) ?_
      refine lv_iload_n hx hb dX11_set_26 rfl (lv_at hl 4 rfl) ?_
      refine z_Vi (bc := [z0_]) (br := [[zO10 xo t im mk rd po co tr wa wb_ fi cd], z1_, wwA, wwB, wt]) (As := [.int b_]) (rest := []) C G (c_isInn l T l0 cr0_ inn0_ k10_ k20_ k30_ k40_ z0_ b_ hz0_) (kV_RX11_174 C.2.2.2.2 (Nat.le_of_ble_eq_true rfl) (Nat.le_of_ble_eq_true rfl)) [5] [5] rfl rfl (ci := 4) (qc := (RX4, TX4, 6)) rfl rfl (List.mem_flatten.mpr ⟨_, List.mem_of_getElem? (i := 0) rfl, (bLand_mem hz0_).choose_spec⟩) rfl rfl hl.1 dX11_set_27 (Nat.le_of_ble_eq_true rfl) (by show _ + 0 ≤ 6 * (zNA (i1.toInt = 0 ∧ 0 < (fk 0).toInt ∧ 0 ≤ a_.toInt ∧ a_.toInt < cr0_.toInt ∧ a_.toInt < 7 ∧ 0 ≤ b_.toInt ∧ b_.toInt < cr0_.toInt ∧ b_.toInt < 7 ∧ ¬ zBit inn0_ b_ = 0) mdA n4A (zPl cr0_ inn0_ k10_) - n4A) + 6 * (zNA (i1.toInt = 1 ∧ 1 < (fk 0).toInt ∧ 0 ≤ a_.toInt ∧ a_.toInt < cr1_.toInt ∧ a_.toInt < 7 ∧ 0 ≤ b_.toInt ∧ b_.toInt < cr1_.toInt ∧ b_.toInt < 7 ∧ ¬ zBit inn1_ b_ = 0) mdB n4B (zPl cr1_ inn1_ k11_) - n4B); omega) (fun r_15 b1 H locs hw G => ?_)
      refine zAn2 hw ?_
      intro hbs9 hc_14
      clear hw
      subst hbs9
      have G : zS T A s.heap s [[zO10 xo t im mk rd po co tr wa wb_ fi cd], z1_, wwA, wwB, wt, z0_] _ _ := G
      rcases hc_14 with ⟨rfl, h_16, h_17, h_18, h_19⟩ | ⟨rfl, h_20⟩
      · have h_16 : 0 ≤ b_.toInt := h_16
        have h_17 : b_.toInt < cr0_.toInt := h_17
        have h_18 : b_.toInt < 7 := h_18
        have h_19 : ¬ zBit inn0_ b_ = 0 := h_19
        have hyi := h_19
        refine lv_if_ne (tgt := 35) hx hb dX11_set_30 (by decide) (fun _ => ?_) (fun q => absurd q (by decide))
        refine lv_aload_n hx hb dX11_set_35 rfl (lv_at hl 1 rfl) ?_
        refine lv_iload_n hx hb dX11_set_36 rfl (lv_at hl 2 rfl) ?_
        refine lv_aload hx hb dX11_set_37 (lv_at hl 0 rfl) ?_
        have hNAm : zNA (i1.toInt = 0 ∧ 0 < (fk 0).toInt ∧ 0 ≤ a_.toInt ∧ a_.toInt < cr0_.toInt ∧ a_.toInt < 7 ∧ 0 ≤ b_.toInt ∧ b_.toInt < cr0_.toInt ∧ b_.toInt < 7 ∧ ¬ zBit inn0_ b_ = 0) mdA n4A (zPl cr0_ inn0_ k10_) = zMk mdA n4A (zPl cr0_ inn0_ k10_) := zNA_y (by first | omega | (repeat' (first | omega | assumption | constructor)))
        have hNAo : zNA (i1.toInt = 1 ∧ 1 < (fk 0).toInt ∧ 0 ≤ a_.toInt ∧ a_.toInt < cr1_.toInt ∧ a_.toInt < 7 ∧ 0 ≤ b_.toInt ∧ b_.toInt < cr1_.toInt ∧ b_.toInt < 7 ∧ ¬ zBit inn1_ b_ = 0) mdB n4B (zPl cr1_ inn1_ k11_) = n4B := zNA_n (by omega)
        have hn9 : zMk mdA n4A (zPl cr0_ inn0_ k10_) ≤ 131072 := zPw_le (zMk_pw hpwA)
        refine z_Vq (bc := [[zO10 xo t im mk rd po co tr wa wb_ fi cd], wwA, z0_]) (br := [z1_, wwB, wt]) (As := [.int i1, .ref l0]) (rest := []) C G (c_f_waysInA l T xo t im mk rd po co tr wa wb_ fi cd i1 laA mdA wyA pc_A f1A f2A f3A f4A f5A f6A n4A wwA l0 cr0_ inn0_ k10_ k20_ k30_ k40_ z0_ hwwA hz0_ hI0_ hpwA hmdA (kaOk hI0_ hLq0).1 hTbA (by omega)) (kV_RX11_235 C.2.2.2.2 (Nat.le_of_ble_eq_true rfl) (Nat.le_of_ble_eq_true rfl)) [0, 2, 5] [0, 1, 2] rfl rfl (ci := 10) (qc := (RX11, TX11, 11)) rfl rfl (List.mem_flatten.mpr ⟨_, List.mem_of_getElem? (i := 0) rfl, List.mem_cons_self⟩) rfl rfl hl.1 dX11_set_39 (Nat.le_of_ble_eq_true rfl) (by show _ + (6 * (zMk mdA n4A (zPl cr0_ inn0_ k10_) - n4A)) ≤ 6 * (zNA (i1.toInt = 0 ∧ 0 < (fk 0).toInt ∧ 0 ≤ a_.toInt ∧ a_.toInt < cr0_.toInt ∧ a_.toInt < 7 ∧ 0 ≤ b_.toInt ∧ b_.toInt < cr0_.toInt ∧ b_.toInt < 7 ∧ ¬ zBit inn0_ b_ = 0) mdA n4A (zPl cr0_ inn0_ k10_) - n4A) + 6 * (zNA (i1.toInt = 1 ∧ 1 < (fk 0).toInt ∧ 0 ≤ a_.toInt ∧ a_.toInt < cr1_.toInt ∧ a_.toInt < 7 ∧ 0 ≤ b_.toInt ∧ b_.toInt < cr1_.toInt ∧ b_.toInt < 7 ∧ ¬ zBit inn1_ b_ = 0) mdB n4B (zPl cr1_ inn1_ k11_) - n4B); omega) (fun r_35 b1 H locs hw G => ?_)
        refine zEx9 hw ?_
        intro w2_21 m2_22 wy2_23 pc2_24 g1_25 g2_26 g4_27 g5_28 g6_29
        refine zCu6 ?_
        intro hbs9 h_30 h_31 h_32 h_33 h_34
        clear hw
        subst hbs9
        have G : zS T A s.heap s [z1_, wwB, wt, [zO10 xo t im mk rd po co tr wa wb_ fi cd], w2_21, z0_] _ _ := G
        subst h_30
        have hwy9 : 0 ≤ wy2_23.toInt ∧ wy2_23.toInt ≤ 16384 := by have q9 := zWy_in (inn := inn0_) hI0_; rw [h_32]; exact ⟨by omega, q9.2⟩
        have hp79 : aPr (aW cr0_ inn0_ k10_) 7 ≤ 16384 := aPr_7 hI0_
        have hwN9 : wy2_23 = nI (aPr (aW cr0_ inn0_ k10_) 7) := h_32.trans (zWy_z hI0_)
        have hwT9 : wy2_23.toInt = ((aPr (aW cr0_ inn0_ k10_) 7 : Nat) : Int) := by rw [hwN9, nI_toInt (by omega)]
        have hOk9 := (kaOk (inn := inn0_) hI0_ hLq0).1
        have hc79 := hI0_.1
        refine lv_astore (lv' := [(6, .ref wa), (5, .ref l0), (0, .ref xo), (1, .int i1), (2, .int a_), (3, .int b_), (4, .int w_)]) hx hb dX11_set_42 hl (by decide) (zLvf_h rfl) (fun ls hl => ?_)
        refine lv_aload hx hb dX11_set_44 (lv_at hl 0 rfl) ?_
        refine lv_iload_n hx hb dX11_set_46 rfl (lv_at hl 4 rfl) ?_
        refine lv_iload_n hx hb dX11_set_47 rfl (lv_at hl 5 rfl) ?_
        refine z_Vi (bc := [w2_21, z0_]) (br := [z1_, wwB, wt, [zO10 xo t im mk rd po co tr wa wb_ fi cd]]) (As := [.int a_, .int b_]) (rest := []) C G (c_f_nearestWay l T wa l0 m2_22 wy2_23 pc2_24 g1_25 g2_26 f3A g4_27 g5_28 g6_29 (zMk mdA n4A (zPl cr0_ inn0_ k10_)) w2_21 cr0_ inn0_ k10_ k20_ k30_ k40_ z0_ a_ b_ h_31 hz0_ hn9 hI0_ h_34.2.2.1 hOk9 h_34 ⟨by omega, by omega, by omega⟩) (kV_RX11_239 C.2.2.2.2 (Nat.le_of_ble_eq_true rfl) (Nat.le_of_ble_eq_true rfl)) [4, 5] [4, 0] rfl rfl (ci := 0) (qc := (RX0, TX0, 10)) rfl rfl (List.mem_flatten.mpr ⟨_, List.mem_of_getElem? (i := 0) rfl, (bWays_mem h_31).choose_spec⟩) rfl rfl hl.1 dX11_set_48 (Nat.le_of_ble_eq_true rfl) (by show _ + 0 ≤ 6 * (zNA (i1.toInt = 0 ∧ 0 < (fk 0).toInt ∧ 0 ≤ a_.toInt ∧ a_.toInt < cr0_.toInt ∧ a_.toInt < 7 ∧ 0 ≤ b_.toInt ∧ b_.toInt < cr0_.toInt ∧ b_.toInt < 7 ∧ ¬ zBit inn0_ b_ = 0) mdA n4A (zPl cr0_ inn0_ k10_) - n4A) + 6 * (zNA (i1.toInt = 1 ∧ 1 < (fk 0).toInt ∧ 0 ≤ a_.toInt ∧ a_.toInt < cr1_.toInt ∧ a_.toInt < 7 ∧ 0 ≤ b_.toInt ∧ b_.toInt < cr1_.toInt ∧ b_.toInt < 7 ∧ ¬ zBit inn1_ b_ = 0) mdB n4B (zPl cr1_ inn1_ k11_) - n4B); omega) (fun r_37 b1 H locs hw G => ?_)
        refine zAn2 hw ?_
        intro hbs9 h_36
        clear hw
        subst hbs9
        have G : zS T A s.heap s [z1_, wwB, wt, [zO10 xo t im mk rd po co tr wa wb_ fi cd], w2_21, z0_] _ _ := G
        have hnw9 : r_37 = (rSetP (aW cr0_ inn0_ k10_) k20_ k30_ cr0_.toInt.toNat a_ b_).1 := h_36
        have hnw8 := rSb_w (b := r_37) hp79 hnw9
        refine lv_istore (lv' := [(7, .int r_37), (6, .ref wa), (5, .ref l0), (0, .ref xo), (1, .int i1), (2, .int a_), (3, .int b_), (4, .int w_)]) hx hb dX11_set_51 hl (by decide) (zLvf_h rfl) (fun ls hl => ?_)
        refine lv_iload hx hb dX11_set_53 (lv_at hl 0 rfl) ?_
        refine lv_iconst (v := (-1)) hx hb dX11_set_55 (by decide) ?_
        refine lv_icmp_ne (tgt := 61) hx hb dX11_set_56 (by decide) (fun c_38 => ?_) (fun c_38 => ?_)
        · have c_38n : ¬ r_37.toInt = (-1 : Int) := fun q => c_38 ((fa_eq _ _).mpr q)
          refine lv_aload hx hb dX11_set_61 (lv_at hl 1 rfl) ?_
          refine lv_iload hx hb dX11_set_63 (lv_at hl 0 rfl) ?_
          refine lv_aload hx hb dX11_set_65 (lv_at hl 1 rfl) ?_
          refine z_Vi (bc := [w2_21, z0_]) (br := [z1_, wwB, wt, [zO10 xo t im mk rd po co tr wa wb_ fi cd]]) (As := []) (rest := [.int r_37, .ref wa]) C G (c_f_wayTold l T wa l0 m2_22 wy2_23 pc2_24 g1_25 g2_26 f3A g4_27 g5_28 g6_29 (zMk mdA n4A (zPl cr0_ inn0_ k10_)) w2_21 cr0_ inn0_ k10_ k20_ k30_ k40_ z0_ h_31 hz0_ hI0_ h_34.2.2.1 hOk9) (kV_RX11_242 C.2.2.2.2 (Nat.le_of_ble_eq_true rfl) (Nat.le_of_ble_eq_true rfl)) [4, 5] [4, 0] rfl rfl (ci := 0) (qc := (RX0, TX0, 10)) rfl rfl (List.mem_flatten.mpr ⟨_, List.mem_of_getElem? (i := 0) rfl, (bWays_mem h_31).choose_spec⟩) rfl rfl hl.1 dX11_set_67 (Nat.le_of_ble_eq_true rfl) (by show _ + 0 ≤ 6 * (zNA (i1.toInt = 0 ∧ 0 < (fk 0).toInt ∧ 0 ≤ a_.toInt ∧ a_.toInt < cr0_.toInt ∧ a_.toInt < 7 ∧ 0 ≤ b_.toInt ∧ b_.toInt < cr0_.toInt ∧ b_.toInt < 7 ∧ ¬ zBit inn0_ b_ = 0) mdA n4A (zPl cr0_ inn0_ k10_) - n4A) + 6 * (zNA (i1.toInt = 1 ∧ 1 < (fk 0).toInt ∧ 0 ≤ a_.toInt ∧ a_.toInt < cr1_.toInt ∧ a_.toInt < 7 ∧ 0 ≤ b_.toInt ∧ b_.toInt < cr1_.toInt ∧ b_.toInt < 7 ∧ ¬ zBit inn1_ b_ = 0) mdB n4B (zPl cr1_ inn1_ k11_) - n4B); omega) (fun r_40 b1 H locs hw G => ?_)
          refine zAn2 hw ?_
          intro hbs9 h_39
          clear hw
          subst hbs9
          have G : zS T A s.heap s [z1_, wwB, wt, [zO10 xo t im mk rd po co tr wa wb_ fi cd], w2_21, z0_] _ _ := G
          have hab9 : aRs (aW cr0_ inn0_ k10_) k30_ 7 ≤ 1000 * 4 ^ 7 := aRs_b (aPr_4 hI0_) (fun c hc => (hI0_.2.2 c hc).2) 7 (Nat.le_refl _)
          have h47 : (1000 * 4 ^ 7 : Nat) = 16384000 := by decide
          have hwt9 : r_40 = nI (aRs (aW cr0_ inn0_ k10_) k30_ 7) := h_39
          have hwt8 : r_40.toInt = (aRs (aW cr0_ inn0_ k10_) k30_ 7 : Nat) := by rw [hwt9, nI_toInt (by omega)]
          have hwt7 : r_40.toInt.toNat = aRs (aW cr0_ inn0_ k10_) k30_ 7 := by omega
          obtain ⟨w9, hw91, hw92, hw93, hw94, hw95⟩ := hnw8.resolve_left (by first | with_reducible assumption | assumption)
          refine z_Vi (bc := [w2_21, z0_]) (br := [z1_, wwB, wt, [zO10 xo t im mk rd po co tr wa wb_ fi cd]]) (As := [.int r_37, .int r_40]) (rest := []) C G (c_f_unlike l T wa l0 m2_22 wy2_23 pc2_24 g1_25 g2_26 f3A g4_27 g5_28 g6_29 (zMk mdA n4A (zPl cr0_ inn0_ k10_)) w2_21 cr0_ inn0_ k10_ k20_ k30_ k40_ z0_ r_37 r_40 h_31 hz0_ hI0_ h_34.2.2.1 hOk9 hw93 (by omega)) (kV_RX11_245 C.2.2.2.2 (Nat.le_of_ble_eq_true rfl) (Nat.le_of_ble_eq_true rfl)) [4, 5] [4, 0] rfl rfl (ci := 0) (qc := (RX0, TX0, 10)) rfl rfl (List.mem_flatten.mpr ⟨_, List.mem_of_getElem? (i := 0) rfl, (bWays_mem h_31).choose_spec⟩) rfl rfl hl.1 dX11_set_70 (Nat.le_of_ble_eq_true rfl) (by show _ + 0 ≤ 6 * (zNA (i1.toInt = 0 ∧ 0 < (fk 0).toInt ∧ 0 ≤ a_.toInt ∧ a_.toInt < cr0_.toInt ∧ a_.toInt < 7 ∧ 0 ≤ b_.toInt ∧ b_.toInt < cr0_.toInt ∧ b_.toInt < 7 ∧ ¬ zBit inn0_ b_ = 0) mdA n4A (zPl cr0_ inn0_ k10_) - n4A) + 6 * (zNA (i1.toInt = 1 ∧ 1 < (fk 0).toInt ∧ 0 ≤ a_.toInt ∧ a_.toInt < cr1_.toInt ∧ a_.toInt < 7 ∧ 0 ≤ b_.toInt ∧ b_.toInt < cr1_.toInt ∧ b_.toInt < 7 ∧ ¬ zBit inn1_ b_ = 0) mdB n4B (zPl cr1_ inn1_ k11_) - n4B); omega) (fun r_42 b1 H locs hw G => ?_)
          refine zAn2 hw ?_
          intro hbs9 h_41
          clear hw
          subst hbs9
          have G : zS T A s.heap s [z1_, wwB, wt, [zO10 xo t im mk rd po co tr wa wb_ fi cd], w2_21, z0_] _ _ := G
          have hmk9 : r_42 = (rSetP (aW cr0_ inn0_ k10_) k20_ k30_ cr0_.toInt.toNat a_ b_).2 := by rw [h_41, hwt7, hw94]; exact hw95.symm
          have hrk9 := rank_e (x := r_42) (by rw [hmk9]; exact rSb_m (fun w => aUn_k (by omega)) _)
          refine lv_istore (lv' := [(8, .int r_42), (7, .int r_37), (6, .ref wa), (5, .ref l0), (0, .ref xo), (1, .int i1), (2, .int a_), (3, .int b_), (4, .int w_)]) hx hb dX11_set_73 hl (by decide) (zLvf_h rfl) (fun ls hl => ?_)
          refine lv_iload hx hb dX11_set_75 (lv_at hl 8 rfl) ?_
          refine lv_if_ne (tgt := 86) hx hb dX11_set_77 (by decide) (fun c_43 => ?_) (fun c_43 => ?_)
          · have c_43n : ¬ w_.toInt = (0 : Int) := fun q => c_43 ((fa_eq _ _).mpr q)
            refine lv_iload hx hb dX11_set_86 (lv_at hl 8 rfl) ?_
            refine lv_iconst (v := 1) hx hb dX11_set_88 (by decide) ?_
            refine lv_icmp_ne (tgt := 95) hx hb dX11_set_89 (by decide) (fun c_44 => ?_) (fun c_44 => ?_)
            · have c_44n : ¬ w_.toInt = (1 : Int) := fun q => c_44 ((fa_eq _ _).mpr q)
              refine lv_iload hx hb dX11_set_95 (lv_at hl 8 rfl) ?_
              refine lv_bipush (v := 10) hx hb dX11_set_97 (by decide) ?_
              refine lv_isub hx hb dX11_set_99 ?_
              refine lv_istore (lv' := [(9, .int (w_ - 10)), (8, .int r_42), (7, .int r_37), (6, .ref wa), (5, .ref l0), (0, .ref xo), (1, .int i1), (2, .int a_), (3, .int b_), (4, .int w_)]) hx hb dX11_set_100 hl (by decide) (zLvf_h rfl) (fun ls hl => ?_)
              have hs10 := zS10 (w := w_)
              refine lv_aload hx hb dX11_set_102 (lv_at hl 4 rfl) ?_
              refine lv_iload hx hb dX11_set_104 (lv_at hl 0 rfl) ?_
              refine z_Vi (bc := [z0_]) (br := [z1_, wwB, wt, [zO10 xo t im mk rd po co tr wa wb_ fi cd], w2_21]) (As := [.int (w_ - 10)]) (rest := []) C G (c_has l T l0 cr0_ inn0_ k10_ k20_ k30_ k40_ z0_ (w_ - 10) hz0_) (kV_RX11_160 C.2.2.2.2 (Nat.le_of_ble_eq_true rfl) (Nat.le_of_ble_eq_true rfl)) [5] [5] rfl rfl (ci := 4) (qc := (RX4, TX4, 6)) rfl rfl (List.mem_flatten.mpr ⟨_, List.mem_of_getElem? (i := 0) rfl, (bLand_mem hz0_).choose_spec⟩) rfl rfl hl.1 dX11_set_106 (Nat.le_of_ble_eq_true rfl) (by show _ + 0 ≤ 6 * (zNA (i1.toInt = 0 ∧ 0 < (fk 0).toInt ∧ 0 ≤ a_.toInt ∧ a_.toInt < cr0_.toInt ∧ a_.toInt < 7 ∧ 0 ≤ b_.toInt ∧ b_.toInt < cr0_.toInt ∧ b_.toInt < 7 ∧ ¬ zBit inn0_ b_ = 0) mdA n4A (zPl cr0_ inn0_ k10_) - n4A) + 6 * (zNA (i1.toInt = 1 ∧ 1 < (fk 0).toInt ∧ 0 ≤ a_.toInt ∧ a_.toInt < cr1_.toInt ∧ a_.toInt < 7 ∧ 0 ≤ b_.toInt ∧ b_.toInt < cr1_.toInt ∧ b_.toInt < 7 ∧ ¬ zBit inn1_ b_ = 0) mdB n4B (zPl cr1_ inn1_ k11_) - n4B); omega) (fun r_46 b1 H locs hw G => ?_)
              refine zAn2 hw ?_
              intro hbs9 hc_45
              clear hw
              subst hbs9
              have G : zS T A s.heap s [z1_, wwB, wt, [zO10 xo t im mk rd po co tr wa wb_ fi cd], w2_21, z0_] _ _ := G
              rcases hc_45 with ⟨rfl, h_47, h_48, h_49⟩ | ⟨rfl, h_50⟩
              · have h_47 : 0 ≤ (w_ - 10).toInt := h_47
                have h_48 : (w_ - 10).toInt < cr0_.toInt := h_48
                have h_49 : (w_ - 10).toInt < 7 := h_49
                refine lv_if_ne (tgt := 114) hx hb dX11_set_109 (by decide) (fun _ => ?_) (fun q => absurd q (by decide))
                refine lv_aload hx hb dX11_set_114 (lv_at hl 4 rfl) ?_
                refine lv_iload hx hb dX11_set_116 (lv_at hl 0 rfl) ?_
                refine z_Vi (bc := [z0_]) (br := [z1_, wwB, wt, [zO10 xo t im mk rd po co tr wa wb_ fi cd], w2_21]) (As := [.int (w_ - 10)]) (rest := []) C G (c_waysOut l T l0 cr0_ inn0_ k10_ k20_ k30_ k40_ z0_ (w_ - 10) hz0_) (kV_RX11_221 C.2.2.2.2 (Nat.le_of_ble_eq_true rfl) (Nat.le_of_ble_eq_true rfl)) [5] [5] rfl rfl (ci := 4) (qc := (RX4, TX4, 6)) rfl rfl (List.mem_flatten.mpr ⟨_, List.mem_of_getElem? (i := 0) rfl, (bLand_mem hz0_).choose_spec⟩) rfl rfl hl.1 dX11_set_118 (Nat.le_of_ble_eq_true rfl) (by show _ + 0 ≤ 6 * (zNA (i1.toInt = 0 ∧ 0 < (fk 0).toInt ∧ 0 ≤ a_.toInt ∧ a_.toInt < cr0_.toInt ∧ a_.toInt < 7 ∧ 0 ≤ b_.toInt ∧ b_.toInt < cr0_.toInt ∧ b_.toInt < 7 ∧ ¬ zBit inn0_ b_ = 0) mdA n4A (zPl cr0_ inn0_ k10_) - n4A) + 6 * (zNA (i1.toInt = 1 ∧ 1 < (fk 0).toInt ∧ 0 ≤ a_.toInt ∧ a_.toInt < cr1_.toInt ∧ a_.toInt < 7 ∧ 0 ≤ b_.toInt ∧ b_.toInt < cr1_.toInt ∧ b_.toInt < 7 ∧ ¬ zBit inn1_ b_ = 0) mdB n4B (zPl cr1_ inn1_ k11_) - n4B); omega) (fun r_52 b1 H locs hw G => ?_)
                refine zAn2 hw ?_
                intro hbs9 h_51
                clear hw
                subst hbs9
                have G : zS T A s.heap s [z1_, wwB, wt, [zO10 xo t im mk rd po co tr wa wb_ fi cd], w2_21, z0_] _ _ := G
                subst h_51
                refine lv_if_le (tgt := 136) hx hb dX11_set_121 (by decide) (fun c_53 => ?_) (fun c_53 => ?_)
                · have c_53n : (zWays cr0_ inn0_ k10_ (w_ - 10)).toInt ≤ (0 : Int) := (fa_le _ _).mp c_53
                  refine lv_aload hx hb dX11_set_136 (lv_at hl 4 rfl) ?_
                  refine zEx4 hz0_ ?_
                  intro a1_54 a2_55 a3_56 a4_57 hbs9
                  clear hz0_
                  subst hbs9
                  have G : zS T A s.heap s [z1_, wwB, wt, [zO10 xo t im mk rd po co tr wa wb_ fi cd], w2_21, [zO4 l0 cr0_ inn0_ a1_54 a2_55 a3_56 a4_57], [zAr T 0 a1_54 7 k10_], [zAr T 0 a2_55 28 k20_], [zAr T 0 a3_56 7 k30_], [zAr T 0 a4_57 7 k40_]] _ _ := G.re rfl
                  refine z_get C G clX4 5 rfl 4 (by decide) m_fl_RX11_256 rfl dX11_set_138 ?_
                  refine lv_iload hx hb dX11_set_141 (lv_at hl 0 rfl) ?_
                  refine z_ild C G 8 rfl (vp_in_iff.mpr ⟨by omega, by omega⟩) dX11_set_143 ?_
                  refine lv_topi (fun v_58 ev_58 => ?_)
                  subst ev_58
                  have hw_59 : bLand T l0 cr0_ inn0_ k10_ k20_ k30_ k40_ [zO4 l0 cr0_ inn0_ a1_54 a2_55 a3_56 a4_57, zAr T 0 a1_54 7 k10_, zAr T 0 a2_55 28 k20_, zAr T 0 a3_56 7 k30_, zAr T 0 a4_57 7 k40_] := ⟨a1_54, a2_55, a3_56, a4_57, rfl⟩
                  have G : zS T A s.heap s [z1_, wwB, wt, [zO10 xo t im mk rd po co tr wa wb_ fi cd], w2_21, [zO4 l0 cr0_ inn0_ a1_54 a2_55 a3_56 a4_57, zAr T 0 a1_54 7 k10_, zAr T 0 a2_55 28 k20_, zAr T 0 a3_56 7 k30_, zAr T 0 a4_57 7 k40_]] _ _ := G.re rfl
                  have G := G.sub (bs' := [[zO10 xo t im mk rd po co tr wa wb_ fi cd], wt, [zO4 l0 cr0_ inn0_ a1_54 a2_55 a3_56 a4_57, zAr T 0 a1_54 7 k10_, zAr T 0 a2_55 28 k20_, zAr T 0 a3_56 7 k30_, zAr T 0 a4_57 7 k40_], z1_, w2_21, wwB]) [3, 2, 5, 0, 4, 1] rfl
                  exact z_back hQz_ (z_iret C hr hlocks G (Nat.le_of_ble_eq_true rfl) (by omega) dX11_set_144 ⟨l0, m2_22, wy2_23, pc2_24, g1_25, g2_26, f3A, g4_27, g5_28, g6_29, (zMk mdA n4A (zPl cr0_ inn0_ k10_)), w2_21, laB, mdB, wyB, pc_B, f1B, f2B, f3B, f4B, f5B, f6B, n4B, wwB, rfl, h_31, (Or.inr rfl), hwy9, hNAm.symm, (zMk_pw hpwA), (fun _ => h_33), (Or.inr h_34), hwwB, hmdB, hwmB, (by first | exact hNAo.symm | exact (zNA_n (by first | omega | grind)).symm), hpwB, (fun q => q), hTbB, (Or.inr (Or.inl ⟨by first | with_reducible assumption | assumption, by first | with_reducible assumption | assumption, (by unfold kSet; rw [if_pos ⟨⟨by omega, by omega⟩, ⟨by omega, by omega⟩, zBit_p hyi⟩]; have hcn9 : w_ - 10 = nI (w_.toInt - 10).toNat := z_nI (by omega) (by omega); have hwl9 := zWays_le (inn := inn0_) hI0_ (w_ - 10); exact rSet_e (W := (aW cr0_ inn0_ k10_)) (L := k20_) (P := k30_) (c := 0) hnw9 (fun _ => hmk9) (Or.inr ⟨by first | with_reducible assumption | assumption, Or.inr (Or.inr ⟨by first | with_reducible assumption | assumption, by first | with_reducible assumption | assumption, Or.inl ⟨by omega, Or.inr ⟨by show (zWays cr0_ inn0_ k10_ (nI (w_.toInt - 10).toNat)).toInt ≤ 0; rw [← hcn9]; omega, by have q4 := z_clI (x := w_ - 10) (by omega); exact congrArg k30_ (by omega)⟩⟩⟩)⟩))⟩))⟩)
                · have c_53n : ¬ (zWays cr0_ inn0_ k10_ (w_ - 10)).toInt ≤ (0 : Int) := fun q => c_53 ((fa_le _ _).mpr q)
                  refine lv_aload hx hb dX11_set_124 (lv_at hl 3 rfl) ?_
                  refine lv_iload hx hb dX11_set_126 (lv_at hl 2 rfl) ?_
                  refine lv_iload hx hb dX11_set_128 (lv_at hl 0 rfl) ?_
                  refine z_Vi (bc := [w2_21]) (br := [z1_, wwB, wt, [zO10 xo t im mk rd po co tr wa wb_ fi cd], z0_]) (As := [.int r_37, .int (w_ - 10)]) (rest := []) C G (c_road l T wa l0 m2_22 wy2_23 pc2_24 g1_25 g2_26 f3A g4_27 g5_28 g6_29 (zMk mdA n4A (zPl cr0_ inn0_ k10_)) w2_21 r_37 (w_ - 10) h_31) (kV_RX11_253 C.2.2.2.2 (Nat.le_of_ble_eq_true rfl) (Nat.le_of_ble_eq_true rfl)) [4] [4] rfl rfl (ci := 0) (qc := (RX0, TX0, 10)) rfl rfl (List.mem_flatten.mpr ⟨_, List.mem_of_getElem? (i := 0) rfl, (bWays_mem h_31).choose_spec⟩) rfl rfl hl.1 dX11_set_130 (Nat.le_of_ble_eq_true rfl) (by show _ + 0 ≤ 6 * (zNA (i1.toInt = 0 ∧ 0 < (fk 0).toInt ∧ 0 ≤ a_.toInt ∧ a_.toInt < cr0_.toInt ∧ a_.toInt < 7 ∧ 0 ≤ b_.toInt ∧ b_.toInt < cr0_.toInt ∧ b_.toInt < 7 ∧ ¬ zBit inn0_ b_ = 0) mdA n4A (zPl cr0_ inn0_ k10_) - n4A) + 6 * (zNA (i1.toInt = 1 ∧ 1 < (fk 0).toInt ∧ 0 ≤ a_.toInt ∧ a_.toInt < cr1_.toInt ∧ a_.toInt < 7 ∧ 0 ≤ b_.toInt ∧ b_.toInt < cr1_.toInt ∧ b_.toInt < 7 ∧ ¬ zBit inn1_ b_ = 0) mdB n4B (zPl cr1_ inn1_ k11_) - n4B); omega) (fun r_61 b1 H locs hw G => ?_)
                  refine zAn2 hw ?_
                  intro hbs9 h_60
                  clear hw
                  subst hbs9
                  have G : zS T A s.heap s [z1_, wwB, wt, [zO10 xo t im mk rd po co tr wa wb_ fi cd], z0_, w2_21] _ _ := G
                  subst h_60
                  have hcn9 : w_ - 10 = nI (w_.toInt - 10).toNat := z_nI (by omega) (by omega)
                  refine lv_topi (fun y_62 ey_62 => ?_)
                  obtain rfl : y_62 = nI (aRd (aW cr0_ inn0_ k10_) r_37.toInt.toNat (w_.toInt - 10).toNat) := ey_62.trans ((by have q9 := zRoad_z (w := r_37.toInt.toNat) (c := (w_.toInt - 10).toNat) hI0_ h_34.2.2.1 (by omega) (by omega); rw [hw94, ← hw92, ← hcn9] at q9; rw [hw94]; exact q9))
                  refine lv_goto (tgt := 144) hx hb dX11_set_133 (by decide) ?_
                  have G := G.sub (bs' := [[zO10 xo t im mk rd po co tr wa wb_ fi cd], wt, z0_, z1_, w2_21, wwB]) [3, 2, 4, 0, 5, 1] rfl
                  exact z_back hQz_ (z_iret C hr hlocks G (Nat.le_of_ble_eq_true rfl) (by omega) dX11_set_144 ⟨l0, m2_22, wy2_23, pc2_24, g1_25, g2_26, f3A, g4_27, g5_28, g6_29, (zMk mdA n4A (zPl cr0_ inn0_ k10_)), w2_21, laB, mdB, wyB, pc_B, f1B, f2B, f3B, f4B, f5B, f6B, n4B, wwB, rfl, h_31, (Or.inr rfl), hwy9, hNAm.symm, (zMk_pw hpwA), (fun _ => h_33), (Or.inr h_34), hwwB, hmdB, hwmB, (by first | exact hNAo.symm | exact (zNA_n (by first | omega | grind)).symm), hpwB, (fun q => q), hTbB, (Or.inr (Or.inl ⟨by first | with_reducible assumption | assumption, by first | with_reducible assumption | assumption, (by unfold kSet; rw [if_pos ⟨⟨by omega, by omega⟩, ⟨by omega, by omega⟩, zBit_p hyi⟩]; have hcn9 : w_ - 10 = nI (w_.toInt - 10).toNat := z_nI (by omega) (by omega); have hwl9 := zWays_le (inn := inn0_) hI0_ (w_ - 10); exact rSet_e (W := (aW cr0_ inn0_ k10_)) (L := k20_) (P := k30_) (c := 0) hnw9 (fun _ => hmk9) (Or.inr ⟨by first | with_reducible assumption | assumption, Or.inr (Or.inr ⟨by first | with_reducible assumption | assumption, by first | with_reducible assumption | assumption, Or.inl ⟨by omega, Or.inl ⟨by show 0 < (zWays cr0_ inn0_ k10_ (nI (w_.toInt - 10).toNat)).toInt; rw [← hcn9]; omega, rfl⟩⟩⟩)⟩))⟩))⟩)
              · have h_50 : ((w_ - 10).toInt < 0 ∨ cr0_.toInt ≤ (w_ - 10).toInt ∨ 7 ≤ (w_ - 10).toInt) := h_50
                refine lv_if_ne (tgt := 114) hx hb dX11_set_109 (by decide) (fun q => absurd (by decide) q) (fun _ => ?_)
                refine lv_iconst (v := (-1)) hx hb dX11_set_112 (by decide) ?_
                have G := G.sub (bs' := [[zO10 xo t im mk rd po co tr wa wb_ fi cd], wt, z0_, z1_, w2_21, wwB]) [3, 2, 5, 0, 4, 1] rfl
                exact z_back hQz_ (z_iret C hr hlocks G (Nat.le_of_ble_eq_true rfl) (by omega) dX11_set_113 ⟨l0, m2_22, wy2_23, pc2_24, g1_25, g2_26, f3A, g4_27, g5_28, g6_29, (zMk mdA n4A (zPl cr0_ inn0_ k10_)), w2_21, laB, mdB, wyB, pc_B, f1B, f2B, f3B, f4B, f5B, f6B, n4B, wwB, rfl, h_31, (Or.inr rfl), hwy9, hNAm.symm, (zMk_pw hpwA), (fun _ => h_33), (Or.inr h_34), hwwB, hmdB, hwmB, (by first | exact hNAo.symm | exact (zNA_n (by first | omega | grind)).symm), hpwB, (fun q => q), hTbB, (Or.inr (Or.inl ⟨by first | with_reducible assumption | assumption, by first | with_reducible assumption | assumption, (by first | exact (by have q9 := hI0_.1; unfold kSet; rw [if_neg (fun q8 => by first | omega | (rcases hni with e9 | e9 | e9 | e9 <;> first | omega | exact zBit_o q8.2.2 e9))]) | exact (by unfold kSet; rw [if_pos ⟨⟨by omega, by omega⟩, ⟨by omega, by omega⟩, zBit_p hyi⟩]; exact rSet_e (W := (aW cr0_ inn0_ k10_)) (L := k20_) (P := k30_) (s := 0) (c := 0) hnw9 (fun q9 => absurd (by first | with_reducible assumption | assumption) q9) (Or.inl ⟨by first | with_reducible assumption | assumption, rfl⟩)) | exact (by unfold kSet; rw [if_pos ⟨⟨by omega, by omega⟩, ⟨by omega, by omega⟩, zBit_p hyi⟩]; exact rSet_e (W := (aW cr0_ inn0_ k10_)) (L := k20_) (P := k30_) (c := 0) hnw9 (fun _ => hmk9) (Or.inr ⟨by first | with_reducible assumption | assumption, Or.inr (Or.inr ⟨by first | with_reducible assumption | assumption, by first | with_reducible assumption | assumption, Or.inr ⟨by omega, rfl⟩⟩)⟩)))⟩))⟩)
            · have c_44n : w_.toInt = (1 : Int) := (fa_eq _ _).mp c_44
              refine lv_iload hx hb dX11_set_92 (lv_at hl 0 rfl) ?_
              have G := G.sub (bs' := [[zO10 xo t im mk rd po co tr wa wb_ fi cd], wt, z0_, z1_, w2_21, wwB]) [3, 2, 5, 0, 4, 1] rfl
              exact z_back hQz_ (z_iret C hr hlocks G (Nat.le_of_ble_eq_true rfl) (by omega) dX11_set_94 ⟨l0, m2_22, wy2_23, pc2_24, g1_25, g2_26, f3A, g4_27, g5_28, g6_29, (zMk mdA n4A (zPl cr0_ inn0_ k10_)), w2_21, laB, mdB, wyB, pc_B, f1B, f2B, f3B, f4B, f5B, f6B, n4B, wwB, rfl, h_31, (Or.inr rfl), hwy9, hNAm.symm, (zMk_pw hpwA), (fun _ => h_33), (Or.inr h_34), hwwB, hmdB, hwmB, (by first | exact hNAo.symm | exact (zNA_n (by first | omega | grind)).symm), hpwB, (fun q => q), hTbB, (Or.inr (Or.inl ⟨by first | with_reducible assumption | assumption, by first | with_reducible assumption | assumption, (by unfold kSet; rw [if_pos ⟨⟨by omega, by omega⟩, ⟨by omega, by omega⟩, zBit_p hyi⟩]; exact rSet_e (W := (aW cr0_ inn0_ k10_)) (L := k20_) (P := k30_) (c := 0) hnw9 (fun _ => hmk9) (Or.inr ⟨by first | with_reducible assumption | assumption, Or.inr (Or.inl ⟨by first | with_reducible assumption | assumption, by first | with_reducible assumption | assumption, rfl⟩)⟩))⟩))⟩)
          · have c_43n : w_.toInt = (0 : Int) := (fa_eq _ _).mp c_43
            refine lv_iload hx hb dX11_set_80 (lv_at hl 0 rfl) ?_
            refine z_Si (bc := []) (br := [z1_, wwB, wt, [zO10 xo t im mk rd po co tr wa wb_ fi cd], w2_21, z0_]) (As := [.int r_42]) (rest := []) C G (c_f_bitCountT l T r_42) (kS_RX11_248 C.2.2.2.2 (Nat.le_of_ble_eq_true rfl) (Nat.le_of_ble_eq_true rfl)) [] [] rfl rfl rfl rfl hl.1 dX11_set_82 (Nat.le_of_ble_eq_true rfl) (by show _ + 0 ≤ 6 * (zNA (i1.toInt = 0 ∧ 0 < (fk 0).toInt ∧ 0 ≤ a_.toInt ∧ a_.toInt < cr0_.toInt ∧ a_.toInt < 7 ∧ 0 ≤ b_.toInt ∧ b_.toInt < cr0_.toInt ∧ b_.toInt < 7 ∧ ¬ zBit inn0_ b_ = 0) mdA n4A (zPl cr0_ inn0_ k10_) - n4A) + 6 * (zNA (i1.toInt = 1 ∧ 1 < (fk 0).toInt ∧ 0 ≤ a_.toInt ∧ a_.toInt < cr1_.toInt ∧ a_.toInt < 7 ∧ 0 ≤ b_.toInt ∧ b_.toInt < cr1_.toInt ∧ b_.toInt < 7 ∧ ¬ zBit inn1_ b_ = 0) mdB n4B (zPl cr1_ inn1_ k11_) - n4B); omega) (fun r_64 b1 H locs hw G => ?_)
            refine zAn2 hw ?_
            intro hbs9 h_63
            clear hw
            subst hbs9
            have G : zS T A s.heap s [z1_, wwB, wt, [zO10 xo t im mk rd po co tr wa wb_ fi cd], w2_21, z0_] _ _ := G
            subst h_63
            have G := G.sub (bs' := [[zO10 xo t im mk rd po co tr wa wb_ fi cd], wt, z0_, z1_, w2_21, wwB]) [3, 2, 5, 0, 4, 1] rfl
            exact z_back hQz_ (z_iret C hr hlocks G (Nat.le_of_ble_eq_true rfl) (by omega) dX11_set_85 ⟨l0, m2_22, wy2_23, pc2_24, g1_25, g2_26, f3A, g4_27, g5_28, g6_29, (zMk mdA n4A (zPl cr0_ inn0_ k10_)), w2_21, laB, mdB, wyB, pc_B, f1B, f2B, f3B, f4B, f5B, f6B, n4B, wwB, rfl, h_31, (Or.inr rfl), hwy9, hNAm.symm, (zMk_pw hpwA), (fun _ => h_33), (Or.inr h_34), hwwB, hmdB, hwmB, (by first | exact hNAo.symm | exact (zNA_n (by first | omega | grind)).symm), hpwB, (fun q => q), hTbB, (Or.inr (Or.inl ⟨by first | with_reducible assumption | assumption, by first | with_reducible assumption | assumption, (by unfold kSet; rw [if_pos ⟨⟨by omega, by omega⟩, ⟨by omega, by omega⟩, zBit_p hyi⟩]; exact rSet_e (W := (aW cr0_ inn0_ k10_)) (L := k20_) (P := k30_) (c := 0) hnw9 (fun _ => hmk9) (Or.inr ⟨by first | with_reducible assumption | assumption, Or.inl ⟨by first | with_reducible assumption | assumption, hrk9.2.2.2⟩⟩))⟩))⟩)
        · have c_38n : r_37.toInt = (-1 : Int) := (fa_eq _ _).mp c_38
          refine lv_iconst (v := (-1)) hx hb dX11_set_59 (by decide) ?_
          have G := G.sub (bs' := [[zO10 xo t im mk rd po co tr wa wb_ fi cd], wt, z0_, z1_, w2_21, wwB]) [3, 2, 5, 0, 4, 1] rfl
          exact z_back hQz_ (z_iret C hr hlocks G (Nat.le_of_ble_eq_true rfl) (by omega) dX11_set_60 ⟨l0, m2_22, wy2_23, pc2_24, g1_25, g2_26, f3A, g4_27, g5_28, g6_29, (zMk mdA n4A (zPl cr0_ inn0_ k10_)), w2_21, laB, mdB, wyB, pc_B, f1B, f2B, f3B, f4B, f5B, f6B, n4B, wwB, rfl, h_31, (Or.inr rfl), hwy9, hNAm.symm, (zMk_pw hpwA), (fun _ => h_33), (Or.inr h_34), hwwB, hmdB, hwmB, (by first | exact hNAo.symm | exact (zNA_n (by first | omega | grind)).symm), hpwB, (fun q => q), hTbB, (Or.inr (Or.inl ⟨by first | with_reducible assumption | assumption, by first | with_reducible assumption | assumption, (by first | exact (by have q9 := hI0_.1; unfold kSet; rw [if_neg (fun q8 => by first | omega | (rcases hni with e9 | e9 | e9 | e9 <;> first | omega | exact zBit_o q8.2.2 e9))]) | exact (by unfold kSet; rw [if_pos ⟨⟨by omega, by omega⟩, ⟨by omega, by omega⟩, zBit_p hyi⟩]; exact rSet_e (W := (aW cr0_ inn0_ k10_)) (L := k20_) (P := k30_) (s := 0) (c := 0) hnw9 (fun q9 => absurd (by first | with_reducible assumption | assumption) q9) (Or.inl ⟨by first | with_reducible assumption | assumption, rfl⟩)) | exact (by unfold kSet; rw [if_pos ⟨⟨by omega, by omega⟩, ⟨by omega, by omega⟩, zBit_p hyi⟩]; exact rSet_e (W := (aW cr0_ inn0_ k10_)) (L := k20_) (P := k30_) (c := 0) hnw9 (fun _ => hmk9) (Or.inr ⟨by first | with_reducible assumption | assumption, Or.inr (Or.inr ⟨by first | with_reducible assumption | assumption, by first | with_reducible assumption | assumption, Or.inr ⟨by omega, rfl⟩⟩)⟩)))⟩))⟩)
      · have h_20 : (b_.toInt < 0 ∨ cr0_.toInt ≤ b_.toInt ∨ 7 ≤ b_.toInt ∨ zBit inn0_ b_ = 0) := h_20
        have hni := h_20
        refine lv_if_ne (tgt := 35) hx hb dX11_set_30 (by decide) (fun q => absurd (by decide) q) (fun _ => ?_)
        refine lv_iconst (v := (-1)) hx hb dX11_set_33 (by decide) ?_
        have G := G.sub (bs' := [[zO10 xo t im mk rd po co tr wa wb_ fi cd], wt, z0_, z1_, wwA, wwB]) [0, 4, 5, 1, 2, 3] rfl
        exact z_back hQz_ (z_iret C hr hlocks G (Nat.le_of_ble_eq_true rfl) (by omega) dX11_set_34 ⟨laA, mdA, wyA, pc_A, f1A, f2A, f3A, f4A, f5A, f6A, n4A, wwA, laB, mdB, wyB, pc_B, f1B, f2B, f3B, f4B, f5B, f6B, n4B, wwB, rfl, hwwA, hmdA, hwmA, (by first | exact hNAo.symm | exact (zNA_n (by first | omega | grind)).symm), hpwA, (fun q => q), hTbA, hwwB, hmdB, hwmB, (by first | exact hNAo.symm | exact (zNA_n (by first | omega | grind)).symm), hpwB, (fun q => q), hTbB, (Or.inr (Or.inl ⟨by first | with_reducible assumption | assumption, by first | with_reducible assumption | assumption, (by first | exact (by have q9 := hI0_.1; unfold kSet; rw [if_neg (fun q8 => by first | omega | (rcases hni with e9 | e9 | e9 | e9 <;> first | omega | exact zBit_o q8.2.2 e9))]) | exact (by unfold kSet; rw [if_pos ⟨⟨by omega, by omega⟩, ⟨by omega, by omega⟩, zBit_p hyi⟩]; exact rSet_e (W := (aW cr0_ inn0_ k10_)) (L := k20_) (P := k30_) (s := 0) (c := 0) hnw9 (fun q9 => absurd (by first | with_reducible assumption | assumption) q9) (Or.inl ⟨by first | with_reducible assumption | assumption, rfl⟩)) | exact (by unfold kSet; rw [if_pos ⟨⟨by omega, by omega⟩, ⟨by omega, by omega⟩, zBit_p hyi⟩]; exact rSet_e (W := (aW cr0_ inn0_ k10_)) (L := k20_) (P := k30_) (c := 0) hnw9 (fun _ => hmk9) (Or.inr ⟨by first | with_reducible assumption | assumption, Or.inr (Or.inr ⟨by first | with_reducible assumption | assumption, by first | with_reducible assumption | assumption, Or.inr ⟨by omega, rfl⟩⟩)⟩)))⟩))⟩)
    · have h_13 : (a_.toInt < 0 ∨ cr0_.toInt ≤ a_.toInt ∨ 7 ≤ a_.toInt) := h_13
      refine lv_if_eq (tgt := 33) hx hb dX11_set_21 (by decide) (fun _ => ?_) (fun q => absurd (by decide) q)
      refine lv_iconst (v := (-1)) hx hb dX11_set_33 (by decide) ?_
      have G := G.sub (bs' := [[zO10 xo t im mk rd po co tr wa wb_ fi cd], wt, z0_, z1_, wwA, wwB]) [0, 4, 5, 1, 2, 3] rfl
      exact z_back hQz_ (z_iret C hr hlocks G (Nat.le_of_ble_eq_true rfl) (by omega) dX11_set_34 ⟨laA, mdA, wyA, pc_A, f1A, f2A, f3A, f4A, f5A, f6A, n4A, wwA, laB, mdB, wyB, pc_B, f1B, f2B, f3B, f4B, f5B, f6B, n4B, wwB, rfl, hwwA, hmdA, hwmA, (by first | exact hNAo.symm | exact (zNA_n (by first | omega | grind)).symm), hpwA, (fun q => q), hTbA, hwwB, hmdB, hwmB, (by first | exact hNAo.symm | exact (zNA_n (by first | omega | grind)).symm), hpwB, (fun q => q), hTbB, (Or.inr (Or.inl ⟨by first | with_reducible assumption | assumption, by first | with_reducible assumption | assumption, (by first | exact (by have q9 := hI0_.1; unfold kSet; rw [if_neg (fun q8 => by first | omega | (rcases hni with e9 | e9 | e9 | e9 <;> first | omega | exact zBit_o q8.2.2 e9))]) | exact (by unfold kSet; rw [if_pos ⟨⟨by omega, by omega⟩, ⟨by omega, by omega⟩, zBit_p hyi⟩]; exact rSet_e (W := (aW cr0_ inn0_ k10_)) (L := k20_) (P := k30_) (s := 0) (c := 0) hnw9 (fun q9 => absurd (by first | with_reducible assumption | assumption) q9) (Or.inl ⟨by first | with_reducible assumption | assumption, rfl⟩)) | exact (by unfold kSet; rw [if_pos ⟨⟨by omega, by omega⟩, ⟨by omega, by omega⟩, zBit_p hyi⟩]; exact rSet_e (W := (aW cr0_ inn0_ k10_)) (L := k20_) (P := k30_) (c := 0) hnw9 (fun _ => hmk9) (Or.inr ⟨by first | with_reducible assumption | assumption, Or.inr (Or.inr ⟨by first | with_reducible assumption | assumption, by first | with_reducible assumption | assumption, Or.inr ⟨by omega, rfl⟩⟩)⟩)))⟩))⟩)
  · have h_6 : i1.toInt = 1 := h_6
    have h_7 : 1 < (fk 0).toInt := h_7
    refine lv_astore (lv' := [(5, .ref l1), (0, .ref xo), (1, .int i1), (2, .int a_), (3, .int b_), (4, .int w_)]) hx hb dX11_set_8 hl (by decide) (zLvf_h rfl) (fun ls hl => ?_)
    refine lv_aload hx hb dX11_set_10 (lv_at hl 0 rfl) ?_
    refine lv_ifnull hx hb dX11_set_12 ?_
    refine lv_aload hx hb dX11_set_15 (lv_at hl 0 rfl) ?_
    refine lv_iload_n hx hb dX11_set_17 rfl (lv_at hl 3 rfl) ?_
    refine z_Vi (bc := [z1_]) (br := [[zO10 xo t im mk rd po co tr wa wb_ fi cd], z0_, wwA, wwB, wt]) (As := [.int a_]) (rest := []) C G (c_has l T l1 cr1_ inn1_ k11_ k21_ k31_ k41_ z1_ a_ hz1_) (kV_RX11_160 C.2.2.2.2 (Nat.le_of_ble_eq_true rfl) (Nat.le_of_ble_eq_true rfl)) [2] [2] rfl rfl (ci := 4) (qc := (RX4, TX4, 6)) rfl rfl (List.mem_flatten.mpr ⟨_, List.mem_of_getElem? (i := 0) rfl, (bLand_mem hz1_).choose_spec⟩) rfl rfl hl.1 dX11_set_18 (Nat.le_of_ble_eq_true rfl) (by show _ + 0 ≤ 6 * (zNA (i1.toInt = 0 ∧ 0 < (fk 0).toInt ∧ 0 ≤ a_.toInt ∧ a_.toInt < cr0_.toInt ∧ a_.toInt < 7 ∧ 0 ≤ b_.toInt ∧ b_.toInt < cr0_.toInt ∧ b_.toInt < 7 ∧ ¬ zBit inn0_ b_ = 0) mdA n4A (zPl cr0_ inn0_ k10_) - n4A) + 6 * (zNA (i1.toInt = 1 ∧ 1 < (fk 0).toInt ∧ 0 ≤ a_.toInt ∧ a_.toInt < cr1_.toInt ∧ a_.toInt < 7 ∧ 0 ≤ b_.toInt ∧ b_.toInt < cr1_.toInt ∧ b_.toInt < 7 ∧ ¬ zBit inn1_ b_ = 0) mdB n4B (zPl cr1_ inn1_ k11_) - n4B); omega) (fun r_66 b1 H locs hw G => ?_)
    refine zAn2 hw ?_
    intro hbs9 hc_65
    clear hw
    subst hbs9
    have G : zS T A s.heap s [[zO10 xo t im mk rd po co tr wa wb_ fi cd], z0_, wwA, wwB, wt, z1_] _ _ := G
    rcases hc_65 with ⟨rfl, h_67, h_68, h_69⟩ | ⟨rfl, h_70⟩
    · have h_67 : 0 ≤ a_.toInt := h_67
      have h_68 : a_.toInt < cr1_.toInt := h_68
      have h_69 : a_.toInt < 7 := h_69
      refine lv_if_eq (tgt := 33) hx hb dX11_set_21 (by decide) (fun q => absurd q (by decide)) (fun _ => ?_)
      refine lv_aload hx hb dX11_set_24 (lv_at hl 0 rfl) ?_
      refine lv_iload_n hx hb dX11_set_26 rfl (lv_at hl 4 rfl) ?_
      refine z_Vi (bc := [z1_]) (br := [[zO10 xo t im mk rd po co tr wa wb_ fi cd], z0_, wwA, wwB, wt]) (As := [.int b_]) (rest := []) C G (c_isInn l T l1 cr1_ inn1_ k11_ k21_ k31_ k41_ z1_ b_ hz1_) (kV_RX11_174 C.2.2.2.2 (Nat.le_of_ble_eq_true rfl) (Nat.le_of_ble_eq_true rfl)) [5] [5] rfl rfl (ci := 4) (qc := (RX4, TX4, 6)) rfl rfl (List.mem_flatten.mpr ⟨_, List.mem_of_getElem? (i := 0) rfl, (bLand_mem hz1_).choose_spec⟩) rfl rfl hl.1 dX11_set_27 (Nat.le_of_ble_eq_true rfl) (by show _ + 0 ≤ 6 * (zNA (i1.toInt = 0 ∧ 0 < (fk 0).toInt ∧ 0 ≤ a_.toInt ∧ a_.toInt < cr0_.toInt ∧ a_.toInt < 7 ∧ 0 ≤ b_.toInt ∧ b_.toInt < cr0_.toInt ∧ b_.toInt < 7 ∧ ¬ zBit inn0_ b_ = 0) mdA n4A (zPl cr0_ inn0_ k10_) - n4A) + 6 * (zNA (i1.toInt = 1 ∧ 1 < (fk 0).toInt ∧ 0 ≤ a_.toInt ∧ a_.toInt < cr1_.toInt ∧ a_.toInt < 7 ∧ 0 ≤ b_.toInt ∧ b_.toInt < cr1_.toInt ∧ b_.toInt < 7 ∧ ¬ zBit inn1_ b_ = 0) mdB n4B (zPl cr1_ inn1_ k11_) - n4B); omega) (fun r_72 b1 H locs hw G => ?_)
      refine zAn2 hw ?_
      intro hbs9 hc_71
      clear hw
      subst hbs9
      have G : zS T A s.heap s [[zO10 xo t im mk rd po co tr wa wb_ fi cd], z0_, wwA, wwB, wt, z1_] _ _ := G
      rcases hc_71 with ⟨rfl, h_73, h_74, h_75, h_76⟩ | ⟨rfl, h_77⟩
      · have h_73 : 0 ≤ b_.toInt := h_73
        have h_74 : b_.toInt < cr1_.toInt := h_74
        have h_75 : b_.toInt < 7 := h_75
        have h_76 : ¬ zBit inn1_ b_ = 0 := h_76
        have hyi := h_76
        refine lv_if_ne (tgt := 35) hx hb dX11_set_30 (by decide) (fun _ => ?_) (fun q => absurd q (by decide))
        refine lv_aload_n hx hb dX11_set_35 rfl (lv_at hl 1 rfl) ?_
        refine lv_iload_n hx hb dX11_set_36 rfl (lv_at hl 2 rfl) ?_
        refine lv_aload hx hb dX11_set_37 (lv_at hl 0 rfl) ?_
        have hNAm : zNA (i1.toInt = 1 ∧ 1 < (fk 0).toInt ∧ 0 ≤ a_.toInt ∧ a_.toInt < cr1_.toInt ∧ a_.toInt < 7 ∧ 0 ≤ b_.toInt ∧ b_.toInt < cr1_.toInt ∧ b_.toInt < 7 ∧ ¬ zBit inn1_ b_ = 0) mdB n4B (zPl cr1_ inn1_ k11_) = zMk mdB n4B (zPl cr1_ inn1_ k11_) := zNA_y (by first | omega | (repeat' (first | omega | assumption | constructor)))
        have hNAo : zNA (i1.toInt = 0 ∧ 0 < (fk 0).toInt ∧ 0 ≤ a_.toInt ∧ a_.toInt < cr0_.toInt ∧ a_.toInt < 7 ∧ 0 ≤ b_.toInt ∧ b_.toInt < cr0_.toInt ∧ b_.toInt < 7 ∧ ¬ zBit inn0_ b_ = 0) mdA n4A (zPl cr0_ inn0_ k10_) = n4A := zNA_n (by omega)
        have hn9 : zMk mdB n4B (zPl cr1_ inn1_ k11_) ≤ 131072 := zPw_le (zMk_pw hpwB)
        refine z_Vq (bc := [[zO10 xo t im mk rd po co tr wa wb_ fi cd], wwB, z1_]) (br := [z0_, wwA, wt]) (As := [.int i1, .ref l1]) (rest := []) C G (c_f_waysInB l T xo t im mk rd po co tr wa wb_ fi cd i1 laB mdB wyB pc_B f1B f2B f3B f4B f5B f6B n4B wwB l1 cr1_ inn1_ k11_ k21_ k31_ k41_ z1_ hwwB hz1_ hI1_ hpwB hmdB (kaOk hI1_ hLq1).1 hTbB (by omega)) (kV_RX11_235 C.2.2.2.2 (Nat.le_of_ble_eq_true rfl) (Nat.le_of_ble_eq_true rfl)) [0, 3, 5] [0, 2, 1] rfl rfl (ci := 10) (qc := (RX11, TX11, 11)) rfl rfl (List.mem_flatten.mpr ⟨_, List.mem_of_getElem? (i := 0) rfl, List.mem_cons_self⟩) rfl rfl hl.1 dX11_set_39 (Nat.le_of_ble_eq_true rfl) (by show _ + (6 * (zMk mdB n4B (zPl cr1_ inn1_ k11_) - n4B)) ≤ 6 * (zNA (i1.toInt = 0 ∧ 0 < (fk 0).toInt ∧ 0 ≤ a_.toInt ∧ a_.toInt < cr0_.toInt ∧ a_.toInt < 7 ∧ 0 ≤ b_.toInt ∧ b_.toInt < cr0_.toInt ∧ b_.toInt < 7 ∧ ¬ zBit inn0_ b_ = 0) mdA n4A (zPl cr0_ inn0_ k10_) - n4A) + 6 * (zNA (i1.toInt = 1 ∧ 1 < (fk 0).toInt ∧ 0 ≤ a_.toInt ∧ a_.toInt < cr1_.toInt ∧ a_.toInt < 7 ∧ 0 ≤ b_.toInt ∧ b_.toInt < cr1_.toInt ∧ b_.toInt < 7 ∧ ¬ zBit inn1_ b_ = 0) mdB n4B (zPl cr1_ inn1_ k11_) - n4B); omega) (fun r_92 b1 H locs hw G => ?_)
        refine zEx9 hw ?_
        intro w2_78 m2_79 wy2_80 pc2_81 g1_82 g2_83 g4_84 g5_85 g6_86
        refine zCu6 ?_
        intro hbs9 h_87 h_88 h_89 h_90 h_91
        clear hw
        subst hbs9
        have G : zS T A s.heap s [z0_, wwA, wt, [zO10 xo t im mk rd po co tr wa wb_ fi cd], w2_78, z1_] _ _ := G
        subst h_87
        have hwy9 : 0 ≤ wy2_80.toInt ∧ wy2_80.toInt ≤ 16384 := by have q9 := zWy_in (inn := inn1_) hI1_; rw [h_89]; exact ⟨by omega, q9.2⟩
        have hp79 : aPr (aW cr1_ inn1_ k11_) 7 ≤ 16384 := aPr_7 hI1_
        have hwN9 : wy2_80 = nI (aPr (aW cr1_ inn1_ k11_) 7) := h_89.trans (zWy_z hI1_)
        have hwT9 : wy2_80.toInt = ((aPr (aW cr1_ inn1_ k11_) 7 : Nat) : Int) := by rw [hwN9, nI_toInt (by omega)]
        have hOk9 := (kaOk (inn := inn1_) hI1_ hLq1).1
        have hc79 := hI1_.1
        refine lv_astore (lv' := [(6, .ref wb_), (5, .ref l1), (0, .ref xo), (1, .int i1), (2, .int a_), (3, .int b_), (4, .int w_)]) hx hb dX11_set_42 hl (by decide) (zLvf_h rfl) (fun ls hl => ?_)
        refine lv_aload hx hb dX11_set_44 (lv_at hl 0 rfl) ?_
        refine lv_iload_n hx hb dX11_set_46 rfl (lv_at hl 4 rfl) ?_
        refine lv_iload_n hx hb dX11_set_47 rfl (lv_at hl 5 rfl) ?_
        refine z_Vi (bc := [w2_78, z1_]) (br := [z0_, wwA, wt, [zO10 xo t im mk rd po co tr wa wb_ fi cd]]) (As := [.int a_, .int b_]) (rest := []) C G (c_f_nearestWay l T wb_ l1 m2_79 wy2_80 pc2_81 g1_82 g2_83 f3B g4_84 g5_85 g6_86 (zMk mdB n4B (zPl cr1_ inn1_ k11_)) w2_78 cr1_ inn1_ k11_ k21_ k31_ k41_ z1_ a_ b_ h_88 hz1_ hn9 hI1_ h_91.2.2.1 hOk9 h_91 ⟨by omega, by omega, by omega⟩) (kV_RX11_239 C.2.2.2.2 (Nat.le_of_ble_eq_true rfl) (Nat.le_of_ble_eq_true rfl)) [4, 5] [4, 0] rfl rfl (ci := 0) (qc := (RX0, TX0, 10)) rfl rfl (List.mem_flatten.mpr ⟨_, List.mem_of_getElem? (i := 0) rfl, (bWays_mem h_88).choose_spec⟩) rfl rfl hl.1 dX11_set_48 (Nat.le_of_ble_eq_true rfl) (by show _ + 0 ≤ 6 * (zNA (i1.toInt = 0 ∧ 0 < (fk 0).toInt ∧ 0 ≤ a_.toInt ∧ a_.toInt < cr0_.toInt ∧ a_.toInt < 7 ∧ 0 ≤ b_.toInt ∧ b_.toInt < cr0_.toInt ∧ b_.toInt < 7 ∧ ¬ zBit inn0_ b_ = 0) mdA n4A (zPl cr0_ inn0_ k10_) - n4A) + 6 * (zNA (i1.toInt = 1 ∧ 1 < (fk 0).toInt ∧ 0 ≤ a_.toInt ∧ a_.toInt < cr1_.toInt ∧ a_.toInt < 7 ∧ 0 ≤ b_.toInt ∧ b_.toInt < cr1_.toInt ∧ b_.toInt < 7 ∧ ¬ zBit inn1_ b_ = 0) mdB n4B (zPl cr1_ inn1_ k11_) - n4B); omega) (fun r_94 b1 H locs hw G => ?_)
        refine zAn2 hw ?_
        intro hbs9 h_93
        clear hw
        subst hbs9
        have G : zS T A s.heap s [z0_, wwA, wt, [zO10 xo t im mk rd po co tr wa wb_ fi cd], w2_78, z1_] _ _ := G
        have hnw9 : r_94 = (rSetP (aW cr1_ inn1_ k11_) k21_ k31_ cr1_.toInt.toNat a_ b_).1 := h_93
        have hnw8 := rSb_w (b := r_94) hp79 hnw9
        refine lv_istore (lv' := [(7, .int r_94), (6, .ref wb_), (5, .ref l1), (0, .ref xo), (1, .int i1), (2, .int a_), (3, .int b_), (4, .int w_)]) hx hb dX11_set_51 hl (by decide) (zLvf_h rfl) (fun ls hl => ?_)
        refine lv_iload hx hb dX11_set_53 (lv_at hl 0 rfl) ?_
        refine lv_iconst (v := (-1)) hx hb dX11_set_55 (by decide) ?_
        refine lv_icmp_ne (tgt := 61) hx hb dX11_set_56 (by decide) (fun c_95 => ?_) (fun c_95 => ?_)
        · have c_95n : ¬ r_94.toInt = (-1 : Int) := fun q => c_95 ((fa_eq _ _).mpr q)
          refine lv_aload hx hb dX11_set_61 (lv_at hl 1 rfl) ?_
          refine lv_iload hx hb dX11_set_63 (lv_at hl 0 rfl) ?_
          refine lv_aload hx hb dX11_set_65 (lv_at hl 1 rfl) ?_
          refine z_Vi (bc := [w2_78, z1_]) (br := [z0_, wwA, wt, [zO10 xo t im mk rd po co tr wa wb_ fi cd]]) (As := []) (rest := [.int r_94, .ref wb_]) C G (c_f_wayTold l T wb_ l1 m2_79 wy2_80 pc2_81 g1_82 g2_83 f3B g4_84 g5_85 g6_86 (zMk mdB n4B (zPl cr1_ inn1_ k11_)) w2_78 cr1_ inn1_ k11_ k21_ k31_ k41_ z1_ h_88 hz1_ hI1_ h_91.2.2.1 hOk9) (kV_RX11_242 C.2.2.2.2 (Nat.le_of_ble_eq_true rfl) (Nat.le_of_ble_eq_true rfl)) [4, 5] [4, 0] rfl rfl (ci := 0) (qc := (RX0, TX0, 10)) rfl rfl (List.mem_flatten.mpr ⟨_, List.mem_of_getElem? (i := 0) rfl, (bWays_mem h_88).choose_spec⟩) rfl rfl hl.1 dX11_set_67 (Nat.le_of_ble_eq_true rfl) (by show _ + 0 ≤ 6 * (zNA (i1.toInt = 0 ∧ 0 < (fk 0).toInt ∧ 0 ≤ a_.toInt ∧ a_.toInt < cr0_.toInt ∧ a_.toInt < 7 ∧ 0 ≤ b_.toInt ∧ b_.toInt < cr0_.toInt ∧ b_.toInt < 7 ∧ ¬ zBit inn0_ b_ = 0) mdA n4A (zPl cr0_ inn0_ k10_) - n4A) + 6 * (zNA (i1.toInt = 1 ∧ 1 < (fk 0).toInt ∧ 0 ≤ a_.toInt ∧ a_.toInt < cr1_.toInt ∧ a_.toInt < 7 ∧ 0 ≤ b_.toInt ∧ b_.toInt < cr1_.toInt ∧ b_.toInt < 7 ∧ ¬ zBit inn1_ b_ = 0) mdB n4B (zPl cr1_ inn1_ k11_) - n4B); omega) (fun r_97 b1 H locs hw G => ?_)
          refine zAn2 hw ?_
          intro hbs9 h_96
          clear hw
          subst hbs9
          have G : zS T A s.heap s [z0_, wwA, wt, [zO10 xo t im mk rd po co tr wa wb_ fi cd], w2_78, z1_] _ _ := G
          have hab9 : aRs (aW cr1_ inn1_ k11_) k31_ 7 ≤ 1000 * 4 ^ 7 := aRs_b (aPr_4 hI1_) (fun c hc => (hI1_.2.2 c hc).2) 7 (Nat.le_refl _)
          have h47 : (1000 * 4 ^ 7 : Nat) = 16384000 := by decide
          have hwt9 : r_97 = nI (aRs (aW cr1_ inn1_ k11_) k31_ 7) := h_96
          have hwt8 : r_97.toInt = (aRs (aW cr1_ inn1_ k11_) k31_ 7 : Nat) := by rw [hwt9, nI_toInt (by omega)]
          have hwt7 : r_97.toInt.toNat = aRs (aW cr1_ inn1_ k11_) k31_ 7 := by omega
          obtain ⟨w9, hw91, hw92, hw93, hw94, hw95⟩ := hnw8.resolve_left (by first | with_reducible assumption | assumption)
          refine z_Vi (bc := [w2_78, z1_]) (br := [z0_, wwA, wt, [zO10 xo t im mk rd po co tr wa wb_ fi cd]]) (As := [.int r_94, .int r_97]) (rest := []) C G (c_f_unlike l T wb_ l1 m2_79 wy2_80 pc2_81 g1_82 g2_83 f3B g4_84 g5_85 g6_86 (zMk mdB n4B (zPl cr1_ inn1_ k11_)) w2_78 cr1_ inn1_ k11_ k21_ k31_ k41_ z1_ r_94 r_97 h_88 hz1_ hI1_ h_91.2.2.1 hOk9 hw93 (by omega)) (kV_RX11_245 C.2.2.2.2 (Nat.le_of_ble_eq_true rfl) (Nat.le_of_ble_eq_true rfl)) [4, 5] [4, 0] rfl rfl (ci := 0) (qc := (RX0, TX0, 10)) rfl rfl (List.mem_flatten.mpr ⟨_, List.mem_of_getElem? (i := 0) rfl, (bWays_mem h_88).choose_spec⟩) rfl rfl hl.1 dX11_set_70 (Nat.le_of_ble_eq_true rfl) (by show _ + 0 ≤ 6 * (zNA (i1.toInt = 0 ∧ 0 < (fk 0).toInt ∧ 0 ≤ a_.toInt ∧ a_.toInt < cr0_.toInt ∧ a_.toInt < 7 ∧ 0 ≤ b_.toInt ∧ b_.toInt < cr0_.toInt ∧ b_.toInt < 7 ∧ ¬ zBit inn0_ b_ = 0) mdA n4A (zPl cr0_ inn0_ k10_) - n4A) + 6 * (zNA (i1.toInt = 1 ∧ 1 < (fk 0).toInt ∧ 0 ≤ a_.toInt ∧ a_.toInt < cr1_.toInt ∧ a_.toInt < 7 ∧ 0 ≤ b_.toInt ∧ b_.toInt < cr1_.toInt ∧ b_.toInt < 7 ∧ ¬ zBit inn1_ b_ = 0) mdB n4B (zPl cr1_ inn1_ k11_) - n4B); omega) (fun r_99 b1 H locs hw G => ?_)
          refine zAn2 hw ?_
          intro hbs9 h_98
          clear hw
          subst hbs9
          have G : zS T A s.heap s [z0_, wwA, wt, [zO10 xo t im mk rd po co tr wa wb_ fi cd], w2_78, z1_] _ _ := G
          have hmk9 : r_99 = (rSetP (aW cr1_ inn1_ k11_) k21_ k31_ cr1_.toInt.toNat a_ b_).2 := by rw [h_98, hwt7, hw94]; exact hw95.symm
          have hrk9 := rank_e (x := r_99) (by rw [hmk9]; exact rSb_m (fun w => aUn_k (by omega)) _)
          refine lv_istore (lv' := [(8, .int r_99), (7, .int r_94), (6, .ref wb_), (5, .ref l1), (0, .ref xo), (1, .int i1), (2, .int a_), (3, .int b_), (4, .int w_)]) hx hb dX11_set_73 hl (by decide) (zLvf_h rfl) (fun ls hl => ?_)
          refine lv_iload hx hb dX11_set_75 (lv_at hl 8 rfl) ?_
          refine lv_if_ne (tgt := 86) hx hb dX11_set_77 (by decide) (fun c_100 => ?_) (fun c_100 => ?_)
          · have c_100n : ¬ w_.toInt = (0 : Int) := fun q => c_100 ((fa_eq _ _).mpr q)
            refine lv_iload hx hb dX11_set_86 (lv_at hl 8 rfl) ?_
            refine lv_iconst (v := 1) hx hb dX11_set_88 (by decide) ?_
            refine lv_icmp_ne (tgt := 95) hx hb dX11_set_89 (by decide) (fun c_101 => ?_) (fun c_101 => ?_)
            · have c_101n : ¬ w_.toInt = (1 : Int) := fun q => c_101 ((fa_eq _ _).mpr q)
              refine lv_iload hx hb dX11_set_95 (lv_at hl 8 rfl) ?_
              refine lv_bipush (v := 10) hx hb dX11_set_97 (by decide) ?_
              refine lv_isub hx hb dX11_set_99 ?_
              refine lv_istore (lv' := [(9, .int (w_ - 10)), (8, .int r_99), (7, .int r_94), (6, .ref wb_), (5, .ref l1), (0, .ref xo), (1, .int i1), (2, .int a_), (3, .int b_), (4, .int w_)]) hx hb dX11_set_100 hl (by decide) (zLvf_h rfl) (fun ls hl => ?_)
              have hs10 := zS10 (w := w_)
              refine lv_aload hx hb dX11_set_102 (lv_at hl 4 rfl) ?_
              refine lv_iload hx hb dX11_set_104 (lv_at hl 0 rfl) ?_
              refine z_Vi (bc := [z1_]) (br := [z0_, wwA, wt, [zO10 xo t im mk rd po co tr wa wb_ fi cd], w2_78]) (As := [.int (w_ - 10)]) (rest := []) C G (c_has l T l1 cr1_ inn1_ k11_ k21_ k31_ k41_ z1_ (w_ - 10) hz1_) (kV_RX11_160 C.2.2.2.2 (Nat.le_of_ble_eq_true rfl) (Nat.le_of_ble_eq_true rfl)) [5] [5] rfl rfl (ci := 4) (qc := (RX4, TX4, 6)) rfl rfl (List.mem_flatten.mpr ⟨_, List.mem_of_getElem? (i := 0) rfl, (bLand_mem hz1_).choose_spec⟩) rfl rfl hl.1 dX11_set_106 (Nat.le_of_ble_eq_true rfl) (by show _ + 0 ≤ 6 * (zNA (i1.toInt = 0 ∧ 0 < (fk 0).toInt ∧ 0 ≤ a_.toInt ∧ a_.toInt < cr0_.toInt ∧ a_.toInt < 7 ∧ 0 ≤ b_.toInt ∧ b_.toInt < cr0_.toInt ∧ b_.toInt < 7 ∧ ¬ zBit inn0_ b_ = 0) mdA n4A (zPl cr0_ inn0_ k10_) - n4A) + 6 * (zNA (i1.toInt = 1 ∧ 1 < (fk 0).toInt ∧ 0 ≤ a_.toInt ∧ a_.toInt < cr1_.toInt ∧ a_.toInt < 7 ∧ 0 ≤ b_.toInt ∧ b_.toInt < cr1_.toInt ∧ b_.toInt < 7 ∧ ¬ zBit inn1_ b_ = 0) mdB n4B (zPl cr1_ inn1_ k11_) - n4B); omega) (fun r_103 b1 H locs hw G => ?_)
              refine zAn2 hw ?_
              intro hbs9 hc_102
              clear hw
              subst hbs9
              have G : zS T A s.heap s [z0_, wwA, wt, [zO10 xo t im mk rd po co tr wa wb_ fi cd], w2_78, z1_] _ _ := G
              rcases hc_102 with ⟨rfl, h_104, h_105, h_106⟩ | ⟨rfl, h_107⟩
              · have h_104 : 0 ≤ (w_ - 10).toInt := h_104
                have h_105 : (w_ - 10).toInt < cr1_.toInt := h_105
                have h_106 : (w_ - 10).toInt < 7 := h_106
                refine lv_if_ne (tgt := 114) hx hb dX11_set_109 (by decide) (fun _ => ?_) (fun q => absurd q (by decide))
                refine lv_aload hx hb dX11_set_114 (lv_at hl 4 rfl) ?_
                refine lv_iload hx hb dX11_set_116 (lv_at hl 0 rfl) ?_
                refine z_Vi (bc := [z1_]) (br := [z0_, wwA, wt, [zO10 xo t im mk rd po co tr wa wb_ fi cd], w2_78]) (As := [.int (w_ - 10)]) (rest := []) C G (c_waysOut l T l1 cr1_ inn1_ k11_ k21_ k31_ k41_ z1_ (w_ - 10) hz1_) (kV_RX11_221 C.2.2.2.2 (Nat.le_of_ble_eq_true rfl) (Nat.le_of_ble_eq_true rfl)) [5] [5] rfl rfl (ci := 4) (qc := (RX4, TX4, 6)) rfl rfl (List.mem_flatten.mpr ⟨_, List.mem_of_getElem? (i := 0) rfl, (bLand_mem hz1_).choose_spec⟩) rfl rfl hl.1 dX11_set_118 (Nat.le_of_ble_eq_true rfl) (by show _ + 0 ≤ 6 * (zNA (i1.toInt = 0 ∧ 0 < (fk 0).toInt ∧ 0 ≤ a_.toInt ∧ a_.toInt < cr0_.toInt ∧ a_.toInt < 7 ∧ 0 ≤ b_.toInt ∧ b_.toInt < cr0_.toInt ∧ b_.toInt < 7 ∧ ¬ zBit inn0_ b_ = 0) mdA n4A (zPl cr0_ inn0_ k10_) - n4A) + 6 * (zNA (i1.toInt = 1 ∧ 1 < (fk 0).toInt ∧ 0 ≤ a_.toInt ∧ a_.toInt < cr1_.toInt ∧ a_.toInt < 7 ∧ 0 ≤ b_.toInt ∧ b_.toInt < cr1_.toInt ∧ b_.toInt < 7 ∧ ¬ zBit inn1_ b_ = 0) mdB n4B (zPl cr1_ inn1_ k11_) - n4B); omega) (fun r_109 b1 H locs hw G => ?_)
                refine zAn2 hw ?_
                intro hbs9 h_108
                clear hw
                subst hbs9
                have G : zS T A s.heap s [z0_, wwA, wt, [zO10 xo t im mk rd po co tr wa wb_ fi cd], w2_78, z1_] _ _ := G
                subst h_108
                refine lv_if_le (tgt := 136) hx hb dX11_set_121 (by decide) (fun c_110 => ?_) (fun c_110 => ?_)
                · have c_110n : (zWays cr1_ inn1_ k11_ (w_ - 10)).toInt ≤ (0 : Int) := (fa_le _ _).mp c_110
                  refine lv_aload hx hb dX11_set_136 (lv_at hl 4 rfl) ?_
                  refine zEx4 hz1_ ?_
                  intro a1_111 a2_112 a3_113 a4_114 hbs9
                  clear hz1_
                  subst hbs9
                  have G : zS T A s.heap s [z0_, wwA, wt, [zO10 xo t im mk rd po co tr wa wb_ fi cd], w2_78, [zO4 l1 cr1_ inn1_ a1_111 a2_112 a3_113 a4_114], [zAr T 0 a1_111 7 k11_], [zAr T 0 a2_112 28 k21_], [zAr T 0 a3_113 7 k31_], [zAr T 0 a4_114 7 k41_]] _ _ := G.re rfl
                  refine z_get C G clX4 5 rfl 4 (by decide) m_fl_RX11_256 rfl dX11_set_138 ?_
                  refine lv_iload hx hb dX11_set_141 (lv_at hl 0 rfl) ?_
                  refine z_ild C G 8 rfl (vp_in_iff.mpr ⟨by omega, by omega⟩) dX11_set_143 ?_
                  refine lv_topi (fun v_115 ev_115 => ?_)
                  subst ev_115
                  have hw_116 : bLand T l1 cr1_ inn1_ k11_ k21_ k31_ k41_ [zO4 l1 cr1_ inn1_ a1_111 a2_112 a3_113 a4_114, zAr T 0 a1_111 7 k11_, zAr T 0 a2_112 28 k21_, zAr T 0 a3_113 7 k31_, zAr T 0 a4_114 7 k41_] := ⟨a1_111, a2_112, a3_113, a4_114, rfl⟩
                  have G : zS T A s.heap s [z0_, wwA, wt, [zO10 xo t im mk rd po co tr wa wb_ fi cd], w2_78, [zO4 l1 cr1_ inn1_ a1_111 a2_112 a3_113 a4_114, zAr T 0 a1_111 7 k11_, zAr T 0 a2_112 28 k21_, zAr T 0 a3_113 7 k31_, zAr T 0 a4_114 7 k41_]] _ _ := G.re rfl
                  have G := G.sub (bs' := [[zO10 xo t im mk rd po co tr wa wb_ fi cd], wt, z0_, [zO4 l1 cr1_ inn1_ a1_111 a2_112 a3_113 a4_114, zAr T 0 a1_111 7 k11_, zAr T 0 a2_112 28 k21_, zAr T 0 a3_113 7 k31_, zAr T 0 a4_114 7 k41_], wwA, w2_78]) [3, 2, 0, 5, 1, 4] rfl
                  exact z_back hQz_ (z_iret C hr hlocks G (Nat.le_of_ble_eq_true rfl) (by omega) dX11_set_144 ⟨laA, mdA, wyA, pc_A, f1A, f2A, f3A, f4A, f5A, f6A, n4A, wwA, l1, m2_79, wy2_80, pc2_81, g1_82, g2_83, f3B, g4_84, g5_85, g6_86, (zMk mdB n4B (zPl cr1_ inn1_ k11_)), w2_78, rfl, hwwA, hmdA, hwmA, (by first | exact hNAo.symm | exact (zNA_n (by first | omega | grind)).symm), hpwA, (fun q => q), hTbA, h_88, (Or.inr rfl), hwy9, hNAm.symm, (zMk_pw hpwB), (fun _ => h_90), (Or.inr h_91), (Or.inr (Or.inr ⟨by first | with_reducible assumption | assumption, by first | with_reducible assumption | assumption, (by unfold kSet; rw [if_pos ⟨⟨by omega, by omega⟩, ⟨by omega, by omega⟩, zBit_p hyi⟩]; have hcn9 : w_ - 10 = nI (w_.toInt - 10).toNat := z_nI (by omega) (by omega); have hwl9 := zWays_le (inn := inn1_) hI1_ (w_ - 10); exact rSet_e (W := (aW cr1_ inn1_ k11_)) (L := k21_) (P := k31_) (c := 0) hnw9 (fun _ => hmk9) (Or.inr ⟨by first | with_reducible assumption | assumption, Or.inr (Or.inr ⟨by first | with_reducible assumption | assumption, by first | with_reducible assumption | assumption, Or.inl ⟨by omega, Or.inr ⟨by show (zWays cr1_ inn1_ k11_ (nI (w_.toInt - 10).toNat)).toInt ≤ 0; rw [← hcn9]; omega, by have q4 := z_clI (x := w_ - 10) (by omega); exact congrArg k31_ (by omega)⟩⟩⟩)⟩))⟩))⟩)
                · have c_110n : ¬ (zWays cr1_ inn1_ k11_ (w_ - 10)).toInt ≤ (0 : Int) := fun q => c_110 ((fa_le _ _).mpr q)
                  refine lv_aload hx hb dX11_set_124 (lv_at hl 3 rfl) ?_
                  refine lv_iload hx hb dX11_set_126 (lv_at hl 2 rfl) ?_
                  refine lv_iload hx hb dX11_set_128 (lv_at hl 0 rfl) ?_
                  refine z_Vi (bc := [w2_78]) (br := [z0_, wwA, wt, [zO10 xo t im mk rd po co tr wa wb_ fi cd], z1_]) (As := [.int r_94, .int (w_ - 10)]) (rest := []) C G (c_road l T wb_ l1 m2_79 wy2_80 pc2_81 g1_82 g2_83 f3B g4_84 g5_85 g6_86 (zMk mdB n4B (zPl cr1_ inn1_ k11_)) w2_78 r_94 (w_ - 10) h_88) (kV_RX11_253 C.2.2.2.2 (Nat.le_of_ble_eq_true rfl) (Nat.le_of_ble_eq_true rfl)) [4] [4] rfl rfl (ci := 0) (qc := (RX0, TX0, 10)) rfl rfl (List.mem_flatten.mpr ⟨_, List.mem_of_getElem? (i := 0) rfl, (bWays_mem h_88).choose_spec⟩) rfl rfl hl.1 dX11_set_130 (Nat.le_of_ble_eq_true rfl) (by show _ + 0 ≤ 6 * (zNA (i1.toInt = 0 ∧ 0 < (fk 0).toInt ∧ 0 ≤ a_.toInt ∧ a_.toInt < cr0_.toInt ∧ a_.toInt < 7 ∧ 0 ≤ b_.toInt ∧ b_.toInt < cr0_.toInt ∧ b_.toInt < 7 ∧ ¬ zBit inn0_ b_ = 0) mdA n4A (zPl cr0_ inn0_ k10_) - n4A) + 6 * (zNA (i1.toInt = 1 ∧ 1 < (fk 0).toInt ∧ 0 ≤ a_.toInt ∧ a_.toInt < cr1_.toInt ∧ a_.toInt < 7 ∧ 0 ≤ b_.toInt ∧ b_.toInt < cr1_.toInt ∧ b_.toInt < 7 ∧ ¬ zBit inn1_ b_ = 0) mdB n4B (zPl cr1_ inn1_ k11_) - n4B); omega) (fun r_118 b1 H locs hw G => ?_)
                  refine zAn2 hw ?_
                  intro hbs9 h_117
                  clear hw
                  subst hbs9
                  have G : zS T A s.heap s [z0_, wwA, wt, [zO10 xo t im mk rd po co tr wa wb_ fi cd], z1_, w2_78] _ _ := G
                  subst h_117
                  have hcn9 : w_ - 10 = nI (w_.toInt - 10).toNat := z_nI (by omega) (by omega)
                  refine lv_topi (fun y_119 ey_119 => ?_)
                  obtain rfl : y_119 = nI (aRd (aW cr1_ inn1_ k11_) r_94.toInt.toNat (w_.toInt - 10).toNat) := ey_119.trans ((by have q9 := zRoad_z (w := r_94.toInt.toNat) (c := (w_.toInt - 10).toNat) hI1_ h_91.2.2.1 (by omega) (by omega); rw [hw94, ← hw92, ← hcn9] at q9; rw [hw94]; exact q9))
                  refine lv_goto (tgt := 144) hx hb dX11_set_133 (by decide) ?_
                  have G := G.sub (bs' := [[zO10 xo t im mk rd po co tr wa wb_ fi cd], wt, z0_, z1_, wwA, w2_78]) [3, 2, 0, 4, 1, 5] rfl
                  exact z_back hQz_ (z_iret C hr hlocks G (Nat.le_of_ble_eq_true rfl) (by omega) dX11_set_144 ⟨laA, mdA, wyA, pc_A, f1A, f2A, f3A, f4A, f5A, f6A, n4A, wwA, l1, m2_79, wy2_80, pc2_81, g1_82, g2_83, f3B, g4_84, g5_85, g6_86, (zMk mdB n4B (zPl cr1_ inn1_ k11_)), w2_78, rfl, hwwA, hmdA, hwmA, (by first | exact hNAo.symm | exact (zNA_n (by first | omega | grind)).symm), hpwA, (fun q => q), hTbA, h_88, (Or.inr rfl), hwy9, hNAm.symm, (zMk_pw hpwB), (fun _ => h_90), (Or.inr h_91), (Or.inr (Or.inr ⟨by first | with_reducible assumption | assumption, by first | with_reducible assumption | assumption, (by unfold kSet; rw [if_pos ⟨⟨by omega, by omega⟩, ⟨by omega, by omega⟩, zBit_p hyi⟩]; have hcn9 : w_ - 10 = nI (w_.toInt - 10).toNat := z_nI (by omega) (by omega); have hwl9 := zWays_le (inn := inn1_) hI1_ (w_ - 10); exact rSet_e (W := (aW cr1_ inn1_ k11_)) (L := k21_) (P := k31_) (c := 0) hnw9 (fun _ => hmk9) (Or.inr ⟨by first | with_reducible assumption | assumption, Or.inr (Or.inr ⟨by first | with_reducible assumption | assumption, by first | with_reducible assumption | assumption, Or.inl ⟨by omega, Or.inl ⟨by show 0 < (zWays cr1_ inn1_ k11_ (nI (w_.toInt - 10).toNat)).toInt; rw [← hcn9]; omega, rfl⟩⟩⟩)⟩))⟩))⟩)
              · have h_107 : ((w_ - 10).toInt < 0 ∨ cr1_.toInt ≤ (w_ - 10).toInt ∨ 7 ≤ (w_ - 10).toInt) := h_107
                refine lv_if_ne (tgt := 114) hx hb dX11_set_109 (by decide) (fun q => absurd (by decide) q) (fun _ => ?_)
                refine lv_iconst (v := (-1)) hx hb dX11_set_112 (by decide) ?_
                have G := G.sub (bs' := [[zO10 xo t im mk rd po co tr wa wb_ fi cd], wt, z0_, z1_, wwA, w2_78]) [3, 2, 0, 5, 1, 4] rfl
                exact z_back hQz_ (z_iret C hr hlocks G (Nat.le_of_ble_eq_true rfl) (by omega) dX11_set_113 ⟨laA, mdA, wyA, pc_A, f1A, f2A, f3A, f4A, f5A, f6A, n4A, wwA, l1, m2_79, wy2_80, pc2_81, g1_82, g2_83, f3B, g4_84, g5_85, g6_86, (zMk mdB n4B (zPl cr1_ inn1_ k11_)), w2_78, rfl, hwwA, hmdA, hwmA, (by first | exact hNAo.symm | exact (zNA_n (by first | omega | grind)).symm), hpwA, (fun q => q), hTbA, h_88, (Or.inr rfl), hwy9, hNAm.symm, (zMk_pw hpwB), (fun _ => h_90), (Or.inr h_91), (Or.inr (Or.inr ⟨by first | with_reducible assumption | assumption, by first | with_reducible assumption | assumption, (by first | exact (by have q9 := hI1_.1; unfold kSet; rw [if_neg (fun q8 => by first | omega | (rcases hni with e9 | e9 | e9 | e9 <;> first | omega | exact zBit_o q8.2.2 e9))]) | exact (by unfold kSet; rw [if_pos ⟨⟨by omega, by omega⟩, ⟨by omega, by omega⟩, zBit_p hyi⟩]; exact rSet_e (W := (aW cr1_ inn1_ k11_)) (L := k21_) (P := k31_) (s := 0) (c := 0) hnw9 (fun q9 => absurd (by first | with_reducible assumption | assumption) q9) (Or.inl ⟨by first | with_reducible assumption | assumption, rfl⟩)) | exact (by unfold kSet; rw [if_pos ⟨⟨by omega, by omega⟩, ⟨by omega, by omega⟩, zBit_p hyi⟩]; exact rSet_e (W := (aW cr1_ inn1_ k11_)) (L := k21_) (P := k31_) (c := 0) hnw9 (fun _ => hmk9) (Or.inr ⟨by first | with_reducible assumption | assumption, Or.inr (Or.inr ⟨by first | with_reducible assumption | assumption, by first | with_reducible assumption | assumption, Or.inr ⟨by omega, rfl⟩⟩)⟩)))⟩))⟩)
            · have c_101n : w_.toInt = (1 : Int) := (fa_eq _ _).mp c_101
              refine lv_iload hx hb dX11_set_92 (lv_at hl 0 rfl) ?_
              have G := G.sub (bs' := [[zO10 xo t im mk rd po co tr wa wb_ fi cd], wt, z0_, z1_, wwA, w2_78]) [3, 2, 0, 5, 1, 4] rfl
              exact z_back hQz_ (z_iret C hr hlocks G (Nat.le_of_ble_eq_true rfl) (by omega) dX11_set_94 ⟨laA, mdA, wyA, pc_A, f1A, f2A, f3A, f4A, f5A, f6A, n4A, wwA, l1, m2_79, wy2_80, pc2_81, g1_82, g2_83, f3B, g4_84, g5_85, g6_86, (zMk mdB n4B (zPl cr1_ inn1_ k11_)), w2_78, rfl, hwwA, hmdA, hwmA, (by first | exact hNAo.symm | exact (zNA_n (by first | omega | grind)).symm), hpwA, (fun q => q), hTbA, h_88, (Or.inr rfl), hwy9, hNAm.symm, (zMk_pw hpwB), (fun _ => h_90), (Or.inr h_91), (Or.inr (Or.inr ⟨by first | with_reducible assumption | assumption, by first | with_reducible assumption | assumption, (by unfold kSet; rw [if_pos ⟨⟨by omega, by omega⟩, ⟨by omega, by omega⟩, zBit_p hyi⟩]; exact rSet_e (W := (aW cr1_ inn1_ k11_)) (L := k21_) (P := k31_) (c := 0) hnw9 (fun _ => hmk9) (Or.inr ⟨by first | with_reducible assumption | assumption, Or.inr (Or.inl ⟨by first | with_reducible assumption | assumption, by first | with_reducible assumption | assumption, rfl⟩)⟩))⟩))⟩)
          · have c_100n : w_.toInt = (0 : Int) := (fa_eq _ _).mp c_100
            refine lv_iload hx hb dX11_set_80 (lv_at hl 0 rfl) ?_
            refine z_Si (bc := []) (br := [z0_, wwA, wt, [zO10 xo t im mk rd po co tr wa wb_ fi cd], w2_78, z1_]) (As := [.int r_99]) (rest := []) C G (c_f_bitCountT l T r_99) (kS_RX11_248 C.2.2.2.2 (Nat.le_of_ble_eq_true rfl) (Nat.le_of_ble_eq_true rfl)) [] [] rfl rfl rfl rfl hl.1 dX11_set_82 (Nat.le_of_ble_eq_true rfl) (by show _ + 0 ≤ 6 * (zNA (i1.toInt = 0 ∧ 0 < (fk 0).toInt ∧ 0 ≤ a_.toInt ∧ a_.toInt < cr0_.toInt ∧ a_.toInt < 7 ∧ 0 ≤ b_.toInt ∧ b_.toInt < cr0_.toInt ∧ b_.toInt < 7 ∧ ¬ zBit inn0_ b_ = 0) mdA n4A (zPl cr0_ inn0_ k10_) - n4A) + 6 * (zNA (i1.toInt = 1 ∧ 1 < (fk 0).toInt ∧ 0 ≤ a_.toInt ∧ a_.toInt < cr1_.toInt ∧ a_.toInt < 7 ∧ 0 ≤ b_.toInt ∧ b_.toInt < cr1_.toInt ∧ b_.toInt < 7 ∧ ¬ zBit inn1_ b_ = 0) mdB n4B (zPl cr1_ inn1_ k11_) - n4B); omega) (fun r_121 b1 H locs hw G => ?_)
            refine zAn2 hw ?_
            intro hbs9 h_120
            clear hw
            subst hbs9
            have G : zS T A s.heap s [z0_, wwA, wt, [zO10 xo t im mk rd po co tr wa wb_ fi cd], w2_78, z1_] _ _ := G
            subst h_120
            have G := G.sub (bs' := [[zO10 xo t im mk rd po co tr wa wb_ fi cd], wt, z0_, z1_, wwA, w2_78]) [3, 2, 0, 5, 1, 4] rfl
            exact z_back hQz_ (z_iret C hr hlocks G (Nat.le_of_ble_eq_true rfl) (by omega) dX11_set_85 ⟨laA, mdA, wyA, pc_A, f1A, f2A, f3A, f4A, f5A, f6A, n4A, wwA, l1, m2_79, wy2_80, pc2_81, g1_82, g2_83, f3B, g4_84, g5_85, g6_86, (zMk mdB n4B (zPl cr1_ inn1_ k11_)), w2_78, rfl, hwwA, hmdA, hwmA, (by first | exact hNAo.symm | exact (zNA_n (by first | omega | grind)).symm), hpwA, (fun q => q), hTbA, h_88, (Or.inr rfl), hwy9, hNAm.symm, (zMk_pw hpwB), (fun _ => h_90), (Or.inr h_91), (Or.inr (Or.inr ⟨by first | with_reducible assumption | assumption, by first | with_reducible assumption | assumption, (by unfold kSet; rw [if_pos ⟨⟨by omega, by omega⟩, ⟨by omega, by omega⟩, zBit_p hyi⟩]; exact rSet_e (W := (aW cr1_ inn1_ k11_)) (L := k21_) (P := k31_) (c := 0) hnw9 (fun _ => hmk9) (Or.inr ⟨by first | with_reducible assumption | assumption, Or.inl ⟨by first | with_reducible assumption | assumption, hrk9.2.2.2⟩⟩))⟩))⟩)
        · have c_95n : r_94.toInt = (-1 : Int) := (fa_eq _ _).mp c_95
          refine lv_iconst (v := (-1)) hx hb dX11_set_59 (by decide) ?_
          have G := G.sub (bs' := [[zO10 xo t im mk rd po co tr wa wb_ fi cd], wt, z0_, z1_, wwA, w2_78]) [3, 2, 0, 5, 1, 4] rfl
          exact z_back hQz_ (z_iret C hr hlocks G (Nat.le_of_ble_eq_true rfl) (by omega) dX11_set_60 ⟨laA, mdA, wyA, pc_A, f1A, f2A, f3A, f4A, f5A, f6A, n4A, wwA, l1, m2_79, wy2_80, pc2_81, g1_82, g2_83, f3B, g4_84, g5_85, g6_86, (zMk mdB n4B (zPl cr1_ inn1_ k11_)), w2_78, rfl, hwwA, hmdA, hwmA, (by first | exact hNAo.symm | exact (zNA_n (by first | omega | grind)).symm), hpwA, (fun q => q), hTbA, h_88, (Or.inr rfl), hwy9, hNAm.symm, (zMk_pw hpwB), (fun _ => h_90), (Or.inr h_91), (Or.inr (Or.inr ⟨by first | with_reducible assumption | assumption, by first | with_reducible assumption | assumption, (by first | exact (by have q9 := hI1_.1; unfold kSet; rw [if_neg (fun q8 => by first | omega | (rcases hni with e9 | e9 | e9 | e9 <;> first | omega | exact zBit_o q8.2.2 e9))]) | exact (by unfold kSet; rw [if_pos ⟨⟨by omega, by omega⟩, ⟨by omega, by omega⟩, zBit_p hyi⟩]; exact rSet_e (W := (aW cr1_ inn1_ k11_)) (L := k21_) (P := k31_) (s := 0) (c := 0) hnw9 (fun q9 => absurd (by first | with_reducible assumption | assumption) q9) (Or.inl ⟨by first | with_reducible assumption | assumption, rfl⟩)) | exact (by unfold kSet; rw [if_pos ⟨⟨by omega, by omega⟩, ⟨by omega, by omega⟩, zBit_p hyi⟩]; exact rSet_e (W := (aW cr1_ inn1_ k11_)) (L := k21_) (P := k31_) (c := 0) hnw9 (fun _ => hmk9) (Or.inr ⟨by first | with_reducible assumption | assumption, Or.inr (Or.inr ⟨by first | with_reducible assumption | assumption, by first | with_reducible assumption | assumption, Or.inr ⟨by omega, rfl⟩⟩)⟩)))⟩))⟩)
      · have h_77 : (b_.toInt < 0 ∨ cr1_.toInt ≤ b_.toInt ∨ 7 ≤ b_.toInt ∨ zBit inn1_ b_ = 0) := h_77
        have hni := h_77
        refine lv_if_ne (tgt := 35) hx hb dX11_set_30 (by decide) (fun q => absurd (by decide) q) (fun _ => ?_)
        refine lv_iconst (v := (-1)) hx hb dX11_set_33 (by decide) ?_
        have G := G.sub (bs' := [[zO10 xo t im mk rd po co tr wa wb_ fi cd], wt, z0_, z1_, wwA, wwB]) [0, 4, 1, 5, 2, 3] rfl
        exact z_back hQz_ (z_iret C hr hlocks G (Nat.le_of_ble_eq_true rfl) (by omega) dX11_set_34 ⟨laA, mdA, wyA, pc_A, f1A, f2A, f3A, f4A, f5A, f6A, n4A, wwA, laB, mdB, wyB, pc_B, f1B, f2B, f3B, f4B, f5B, f6B, n4B, wwB, rfl, hwwA, hmdA, hwmA, (by first | exact hNAo.symm | exact (zNA_n (by first | omega | grind)).symm), hpwA, (fun q => q), hTbA, hwwB, hmdB, hwmB, (by first | exact hNAo.symm | exact (zNA_n (by first | omega | grind)).symm), hpwB, (fun q => q), hTbB, (Or.inr (Or.inr ⟨by first | with_reducible assumption | assumption, by first | with_reducible assumption | assumption, (by first | exact (by have q9 := hI1_.1; unfold kSet; rw [if_neg (fun q8 => by first | omega | (rcases hni with e9 | e9 | e9 | e9 <;> first | omega | exact zBit_o q8.2.2 e9))]) | exact (by unfold kSet; rw [if_pos ⟨⟨by omega, by omega⟩, ⟨by omega, by omega⟩, zBit_p hyi⟩]; exact rSet_e (W := (aW cr1_ inn1_ k11_)) (L := k21_) (P := k31_) (s := 0) (c := 0) hnw9 (fun q9 => absurd (by first | with_reducible assumption | assumption) q9) (Or.inl ⟨by first | with_reducible assumption | assumption, rfl⟩)) | exact (by unfold kSet; rw [if_pos ⟨⟨by omega, by omega⟩, ⟨by omega, by omega⟩, zBit_p hyi⟩]; exact rSet_e (W := (aW cr1_ inn1_ k11_)) (L := k21_) (P := k31_) (c := 0) hnw9 (fun _ => hmk9) (Or.inr ⟨by first | with_reducible assumption | assumption, Or.inr (Or.inr ⟨by first | with_reducible assumption | assumption, by first | with_reducible assumption | assumption, Or.inr ⟨by omega, rfl⟩⟩)⟩)))⟩))⟩)
    · have h_70 : (a_.toInt < 0 ∨ cr1_.toInt ≤ a_.toInt ∨ 7 ≤ a_.toInt) := h_70
      refine lv_if_eq (tgt := 33) hx hb dX11_set_21 (by decide) (fun _ => ?_) (fun q => absurd (by decide) q)
      refine lv_iconst (v := (-1)) hx hb dX11_set_33 (by decide) ?_
      have G := G.sub (bs' := [[zO10 xo t im mk rd po co tr wa wb_ fi cd], wt, z0_, z1_, wwA, wwB]) [0, 4, 1, 5, 2, 3] rfl
      exact z_back hQz_ (z_iret C hr hlocks G (Nat.le_of_ble_eq_true rfl) (by omega) dX11_set_34 ⟨laA, mdA, wyA, pc_A, f1A, f2A, f3A, f4A, f5A, f6A, n4A, wwA, laB, mdB, wyB, pc_B, f1B, f2B, f3B, f4B, f5B, f6B, n4B, wwB, rfl, hwwA, hmdA, hwmA, (by first | exact hNAo.symm | exact (zNA_n (by first | omega | grind)).symm), hpwA, (fun q => q), hTbA, hwwB, hmdB, hwmB, (by first | exact hNAo.symm | exact (zNA_n (by first | omega | grind)).symm), hpwB, (fun q => q), hTbB, (Or.inr (Or.inr ⟨by first | with_reducible assumption | assumption, by first | with_reducible assumption | assumption, (by first | exact (by have q9 := hI1_.1; unfold kSet; rw [if_neg (fun q8 => by first | omega | (rcases hni with e9 | e9 | e9 | e9 <;> first | omega | exact zBit_o q8.2.2 e9))]) | exact (by unfold kSet; rw [if_pos ⟨⟨by omega, by omega⟩, ⟨by omega, by omega⟩, zBit_p hyi⟩]; exact rSet_e (W := (aW cr1_ inn1_ k11_)) (L := k21_) (P := k31_) (s := 0) (c := 0) hnw9 (fun q9 => absurd (by first | with_reducible assumption | assumption) q9) (Or.inl ⟨by first | with_reducible assumption | assumption, rfl⟩)) | exact (by unfold kSet; rw [if_pos ⟨⟨by omega, by omega⟩, ⟨by omega, by omega⟩, zBit_p hyi⟩]; exact rSet_e (W := (aW cr1_ inn1_ k11_)) (L := k21_) (P := k31_) (c := 0) hnw9 (fun _ => hmk9) (Or.inr ⟨by first | with_reducible assumption | assumption, Or.inr (Or.inr ⟨by first | with_reducible assumption | assumption, by first | with_reducible assumption | assumption, Or.inr ⟨by omega, rfl⟩⟩)⟩)))⟩))⟩)
set_option maxHeartbeats 4000000 in
set_option maxRecDepth 100000 in
/-- c_fm_setBy -/
theorem c_fm_setBy (l : Launch) (T : zTy) (mo : Nat) (m_all : Nat) (m_has : Nat) (i_size : Int32) (i_next : Int32) (i_where : Int32) (i_token : Int32) (i_number : Int32) (i_word : Int32) (i_wrong : Int32) (i_farCrossing : Int32) (m_read : Nat) (i_z0 : Int32) (i_crossings : Int32) (i_inns : Int32) (m_posts : Nat) (m_shut : Nat) (m_here : Nat) (i_steps : Int32) (i_done : Int32) (i_at : Int32) (i_gone : Int32) (m_was : Nat) (m_came : Nat) (m_seenAt : Nat) (m_rowWorth : Nat) (m_farBy : Nat) (m_used : Nat) (i_everywhere : Int32) (i_again0 : Int32) (i_d0 : Int32) (i_never : Int32) (i_firstCame : Int32) (i_longRun : Int32) (i_moved : Int32) (i_crowd : Int32) (i_l0 : Int32) (i_fitMany : Int32) (i_fitLeast : Int32) (i_fitMost : Int32) (m_fitPost : Nat) (m_fitEnd : Nat) (m_keptPosts : Nat) (i_x0 : Int32) (f_all : Nat → Int32) (f_posts : Nat → Int32) (f_shut : Nat → Int32) (f_was : Nat → Int32) (c_ : Int32) (n_ : Int32) (hL : zML f_all i_z0 i_crossings) (hc0 : 0 ≤ c_.toInt) (hc6 : c_.toInt ≤ 6) (hP : zMP f_posts) (hV : zMV (zRo f_all i_z0) f_posts) (hZ : zVZ f_all i_z0 i_crossings) (hVA : zVA f_all) (hS : (∀ j, j < 7 → f_shut j = 0)) : zMi l T yX12_setBy cX12_setBy 9 (some .int) 5 0 0 [.ref mo, .int c_, .int n_] [[zO11 mo m_all m_has i_size i_next i_where i_token i_number i_word i_wrong i_farCrossing m_read i_z0 i_crossings i_inns m_posts m_shut m_here i_steps i_done i_at i_gone m_was m_came m_seenAt m_rowWorth m_farBy m_used i_everywhere i_again0 i_d0 i_never i_firstCame i_longRun i_moved i_crowd i_l0 i_fitMany i_fitLeast i_fitMost m_fitPost m_fitEnd m_keptPosts i_x0], [zAr T 0 m_all 3952 f_all], [zAr T 0 m_posts 7 f_posts], [zAr T 0 m_shut 7 f_shut], [zAr T 0 m_was 7 f_was]] (fun (r : Int32) bs => ∃ (j_at : Int32) (j_gone : Int32) (g_posts : Nat → Int32) (g_was : Nat → Int32), bs = [[zO11 mo m_all m_has i_size i_next i_where i_token i_number i_word i_wrong i_farCrossing m_read i_z0 i_crossings i_inns m_posts m_shut m_here i_steps i_done j_at j_gone m_was m_came m_seenAt m_rowWorth m_farBy m_used i_everywhere i_again0 i_d0 i_never i_firstCame i_longRun i_moved i_crowd i_l0 i_fitMany i_fitLeast i_fitMost m_fitPost m_fitEnd m_keptPosts i_x0], [zAr T 0 m_all 3952 f_all], [zAr T 0 m_posts 7 g_posts], [zAr T 0 m_shut 7 f_shut], [zAr T 0 m_was 7 g_was]] ∧ zMP g_posts ∧ zMV (zRo f_all i_z0) g_posts ∧ r = (rSb (fun w => decide (rWh (zWo f_all i_z0 i_inns) (zLo f_all i_z0) w c_ = n_)) (fun w => aUn (zWo f_all i_z0 i_inns) w (aRs (zWo f_all i_z0 i_inns) (zPo f_all i_z0) 7) i_crossings.toInt.toNat) (aPr (zWo f_all i_z0 i_inns) 7)).1) := by
  refine zMi_of (own := RX12) (by decide) rfl (Nat.le_of_ble_eq_true rfl) ?_
  intro p e s m args below meth c A ls C hr hlocks hnm hAe G hl
  refine zHide (fun Qz_ hQz_ => ?_)
  have hx := C.1
  have hb := C.2.1
  have hl : lv_has ls 9 [(0, .ref mo), (1, .int c_), (2, .int n_)] := hl
  have hz := hL.1
  have hcr := hL.cr
  have hTo9 := rTold (n := i_inns) hL.1 hVA hL.2.2
  refine lv_iconst (v := (-1)) hx hb dX12_setBy_0 (by decide) ?_
  refine lv_istore_n (lv' := [(3, .int (-1)), (0, .ref mo), (1, .int c_), (2, .int n_)]) hx hb dX12_setBy_1 rfl hl (by decide) (zLvf_h rfl) (fun ls hl => ?_)
  refine lv_iconst (v := 0) hx hb dX12_setBy_2 (by decide) ?_
  refine lv_istore (lv' := [(4, .int 0), (3, .int (-1)), (0, .ref mo), (1, .int c_), (2, .int n_)]) hx hb dX12_setBy_3 hl (by decide) (zLvf_h rfl) (fun ls hl => ?_)
  refine lv_aload_n hx hb dX12_setBy_5 rfl (lv_at hl 2 rfl) ?_
  refine z_Vi (bc := [[zO11 mo m_all m_has i_size i_next i_where i_token i_number i_word i_wrong i_farCrossing m_read i_z0 i_crossings i_inns m_posts m_shut m_here i_steps i_done i_at i_gone m_was m_came m_seenAt m_rowWorth m_farBy m_used i_everywhere i_again0 i_d0 i_never i_firstCame i_longRun i_moved i_crowd i_l0 i_fitMany i_fitLeast i_fitMost m_fitPost m_fitEnd m_keptPosts i_x0], [zAr T 0 m_all 3952 f_all]]) (br := [[zAr T 0 m_posts 7 f_posts], [zAr T 0 m_shut 7 f_shut], [zAr T 0 m_was 7 f_was]]) (As := []) (rest := []) C G (c_fm_waysMany l T mo m_all m_has i_size i_next i_where i_token i_number i_word i_wrong i_farCrossing m_read i_z0 i_crossings i_inns m_posts m_shut m_here i_steps i_done i_at i_gone m_was m_came m_seenAt m_rowWorth m_farBy m_used i_everywhere i_again0 i_d0 i_never i_firstCame i_longRun i_moved i_crowd i_l0 i_fitMany i_fitLeast i_fitMost m_fitPost m_fitEnd m_keptPosts i_x0 f_all (by first | with_reducible assumption | with_reducible rfl | omega | assumption | rfl | decide) hZ) (kV_RX12_229 C.2.2.2.2 (Nat.le_of_ble_eq_true rfl) (Nat.le_of_ble_eq_true rfl)) [0, 1] [0, 0] rfl rfl (ci := 11) (qc := (RX12, TX12, 43)) rfl rfl (List.mem_flatten.mpr ⟨_, List.mem_of_getElem? (i := 0) rfl, List.mem_cons_self⟩) rfl rfl hl.1 dX12_setBy_6 (Nat.le_of_ble_eq_true rfl) (Nat.le_of_ble_eq_true rfl) (fun r_4 b1 H locs hw G => ?_)
  refine zAn4 hw ?_
  intro hbs9 h_1 h_2 h_3
  clear hw
  subst hbs9
  have G : zS T A s.heap s [[zAr T 0 m_posts 7 f_posts], [zAr T 0 m_shut 7 f_shut], [zAr T 0 m_was 7 f_was], [zO11 mo m_all m_has i_size i_next i_where i_token i_number i_word i_wrong i_farCrossing m_read i_z0 i_crossings i_inns m_posts m_shut m_here i_steps i_done i_at i_gone m_was m_came m_seenAt m_rowWorth m_farBy m_used i_everywhere i_again0 i_d0 i_never i_firstCame i_longRun i_moved i_crowd i_l0 i_fitMany i_fitLeast i_fitMost m_fitPost m_fitEnd m_keptPosts i_x0], [zAr T 0 m_all 3952 f_all]] _ _ := G
  have hmN : r_4 = nI (aPr (zWo f_all i_z0 i_inns) 7) := h_3
  have hm1 : aPr (zWo f_all i_z0 i_inns) 7 ≤ 16384 := aPr_mx hL
  have hmT : r_4.toInt = ((aPr (zWo f_all i_z0 i_inns) 7 : Nat) : Int) := by rw [hmN, nI_toInt (by omega)]
  refine lv_istore (lv' := [(5, .int r_4), (4, .int 0), (3, .int (-1)), (0, .ref mo), (1, .int c_), (2, .int n_)]) hx hb dX12_setBy_9 hl (by decide) (zLvf_h rfl) (fun ls hl => ?_)
  refine lv_iconst (v := 0) hx hb dX12_setBy_11 (by decide) ?_
  refine lv_istore (lv' := [(6, .int 0), (5, .int r_4), (4, .int 0), (3, .int (-1)), (0, .ref mo), (1, .int c_), (2, .int n_)]) hx hb dX12_setBy_12 hl (by decide) (zLvf_h rfl) (fun ls hl => ?_)
  refine z_lp7 (T := T) 14 (fun (i : Nat) (x9 : Int32) (u9 : Int32) (xat : Int32) (xgone : Int32) (xposts : Nat → Int32) (xwas : Nat → Int32) => [[zAr T 0 m_posts 7 xposts], [zAr T 0 m_shut 7 f_shut], [zAr T 0 m_was 7 xwas], [zO11 mo m_all m_has i_size i_next i_where i_token i_number i_word i_wrong i_farCrossing m_read i_z0 i_crossings i_inns m_posts m_shut m_here i_steps i_done xat xgone m_was m_came m_seenAt m_rowWorth m_farBy m_used i_everywhere i_again0 i_d0 i_never i_firstCame i_longRun i_moved i_crowd i_l0 i_fitMany i_fitLeast i_fitMost m_fitPost m_fitEnd m_keptPosts i_x0], [zAr T 0 m_all 3952 f_all]]) (fun (i : Nat) (x9 : Int32) (u9 : Int32) (xat : Int32) (xgone : Int32) (xposts : Nat → Int32) (xwas : Nat → Int32) => [(6, .int (nI i)), (5, .int r_4), (4, .int u9), (3, .int x9), (0, .ref mo), (1, .int c_), (2, .int n_)]) (fun (i : Nat) (x9 : Int32) (u9 : Int32) (xat : Int32) (xgone : Int32) (xposts : Nat → Int32) (xwas : Nat → Int32) => i ≤ aPr (zWo f_all i_z0 i_inns) 7 ∧ zMP xposts ∧ zMV (zRo f_all i_z0) xposts ∧ x9 = (rSb (fun w => decide (rWh (zWo f_all i_z0 i_inns) (zLo f_all i_z0) w c_ = n_)) (fun w => aUn (zWo f_all i_z0 i_inns) w (aRs (zWo f_all i_z0 i_inns) (zPo f_all i_z0) 7) i_crossings.toInt.toNat) i).1 ∧ u9 = (rSb (fun w => decide (rWh (zWo f_all i_z0 i_inns) (zLo f_all i_z0) w c_ = n_)) (fun w => aUn (zWo f_all i_z0 i_inns) w (aRs (zWo f_all i_z0 i_inns) (zPo f_all i_z0) 7) i_crossings.toInt.toNat) i).2) (fun (i : Nat) (x9 : Int32) (u9 : Int32) (xat : Int32) (xgone : Int32) (xposts : Nat → Int32) (xwas : Nat → Int32) => aPr (zWo f_all i_z0 i_inns) 7 - i) ?_ 0 (-1) 0 i_at i_gone f_posts f_was (show 0 ≤ aPr (zWo f_all i_z0 i_inns) 7 ∧ zMP f_posts ∧ zMV (zRo f_all i_z0) f_posts ∧ (-1) = (rSb (fun w => decide (rWh (zWo f_all i_z0 i_inns) (zLo f_all i_z0) w c_ = n_)) (fun w => aUn (zWo f_all i_z0 i_inns) w (aRs (zWo f_all i_z0 i_inns) (zPo f_all i_z0) 7) i_crossings.toInt.toNat) 0).1 ∧ 0 = (rSb (fun w => decide (rWh (zWo f_all i_z0 i_inns) (zLo f_all i_z0) w c_ = n_)) (fun w => aUn (zWo f_all i_z0 i_inns) w (aRs (zWo f_all i_z0 i_inns) (zPo f_all i_z0) 7) i_crossings.toInt.toNat) 0).2 from ⟨(Nat.zero_le _), (by first | with_reducible assumption | assumption), hV, rfl, rfl⟩) G (lv_sub hl [0, 1, 2, 3, 4, 5, 6] rfl)
  intro i x9 u9 xat xgone xposts xwas hI9 ih_14 H locs ls G hl
  replace hI9 : i ≤ aPr (zWo f_all i_z0 i_inns) 7 ∧ zMP xposts ∧ zMV (zRo f_all i_z0) xposts ∧ x9 = (rSb (fun w => decide (rWh (zWo f_all i_z0 i_inns) (zLo f_all i_z0) w c_ = n_)) (fun w => aUn (zWo f_all i_z0 i_inns) w (aRs (zWo f_all i_z0 i_inns) (zPo f_all i_z0) 7) i_crossings.toInt.toNat) i).1 ∧ u9 = (rSb (fun w => decide (rWh (zWo f_all i_z0 i_inns) (zLo f_all i_z0) w c_ = n_)) (fun w => aUn (zWo f_all i_z0 i_inns) w (aRs (zWo f_all i_z0 i_inns) (zPo f_all i_z0) 7) i_crossings.toInt.toNat) i).2 := hI9
  refine zAn5 hI9 ?_
  intro hi hQ hVq hxb hxu
  clear hI9
  replace G : zS T A s.heap s [[zAr T 0 m_posts 7 xposts], [zAr T 0 m_shut 7 f_shut], [zAr T 0 m_was 7 xwas], [zO11 mo m_all m_has i_size i_next i_where i_token i_number i_word i_wrong i_farCrossing m_read i_z0 i_crossings i_inns m_posts m_shut m_here i_steps i_done xat xgone m_was m_came m_seenAt m_rowWorth m_farBy m_used i_everywhere i_again0 i_d0 i_never i_firstCame i_longRun i_moved i_crowd i_l0 i_fitMany i_fitLeast i_fitMost m_fitPost m_fitEnd m_keptPosts i_x0], [zAr T 0 m_all 3952 f_all]] _ _ := G
  replace hl : lv_has ls 9 [(6, .int (nI i)), (5, .int r_4), (4, .int u9), (3, .int x9), (0, .ref mo), (1, .int c_), (2, .int n_)] := hl
  refine lv_iload hx hb dX12_setBy_14 (lv_at hl 0 rfl) ?_
  refine lv_iload hx hb dX12_setBy_16 (lv_at hl 1 rfl) ?_
  refine lv_icmp_ge (tgt := 116) hx hb dX12_setBy_18 (by decide) (fun c_5 => ?_) (fun c_5 => ?_)
  · have c_5n : r_4.toInt ≤ (i : Int) := by have q := (fa_le _ _).mp c_5; rw [nI_toInt (n := i) (by omega)] at q; exact q
    refine lv_iload_n hx hb dX12_setBy_116 rfl (lv_at hl 3 rfl) ?_
    have G := G.sub (bs' := [[zO11 mo m_all m_has i_size i_next i_where i_token i_number i_word i_wrong i_farCrossing m_read i_z0 i_crossings i_inns m_posts m_shut m_here i_steps i_done xat xgone m_was m_came m_seenAt m_rowWorth m_farBy m_used i_everywhere i_again0 i_d0 i_never i_firstCame i_longRun i_moved i_crowd i_l0 i_fitMany i_fitLeast i_fitMost m_fitPost m_fitEnd m_keptPosts i_x0], [zAr T 0 m_all 3952 f_all], [zAr T 0 m_posts 7 xposts], [zAr T 0 m_shut 7 f_shut], [zAr T 0 m_was 7 xwas]]) [3, 4, 0, 1, 2] rfl
    exact z_back hQz_ (z_iret C hr hlocks G (Nat.le_of_ble_eq_true rfl) (Nat.le_of_ble_eq_true rfl) dX12_setBy_117 ⟨xat, xgone, xposts, xwas, rfl, (by first | with_reducible assumption | assumption), (by first | with_reducible assumption | assumption), (by rw [hxb, show i = aPr (zWo f_all i_z0 i_inns) 7 by omega])⟩)
  · have c_5n : ¬ r_4.toInt ≤ (i : Int) := fun q => c_5 ((fa_le _ _).mpr (by rw [nI_toInt (n := i) (by omega)]; exact q))
    refine lv_aload_n hx hb dX12_setBy_21 rfl (lv_at hl 4 rfl) ?_
    refine lv_iload hx hb dX12_setBy_22 (lv_at hl 0 rfl) ?_
    have ti_6 : (nI i).toInt = ((i : Nat) : Int) := nI_toInt (by omega)
    refine z_Vv (bc := [[zO11 mo m_all m_has i_size i_next i_where i_token i_number i_word i_wrong i_farCrossing m_read i_z0 i_crossings i_inns m_posts m_shut m_here i_steps i_done xat xgone m_was m_came m_seenAt m_rowWorth m_farBy m_used i_everywhere i_again0 i_d0 i_never i_firstCame i_longRun i_moved i_crowd i_l0 i_fitMany i_fitLeast i_fitMost m_fitPost m_fitEnd m_keptPosts i_x0], [zAr T 0 m_all 3952 f_all], [zAr T 0 m_posts 7 xposts]]) (br := [[zAr T 0 m_shut 7 f_shut], [zAr T 0 m_was 7 xwas]]) (As := [.int (nI i)]) (rest := []) C G (c_fm_setsWay l T mo m_all m_has i_size i_next i_where i_token i_number i_word i_wrong i_farCrossing m_read i_z0 i_crossings i_inns m_posts m_shut m_here i_steps i_done xat xgone m_was m_came m_seenAt m_rowWorth m_farBy m_used i_everywhere i_again0 i_d0 i_never i_firstCame i_longRun i_moved i_crowd i_l0 i_fitMany i_fitLeast i_fitMost m_fitPost m_fitEnd m_keptPosts i_x0 f_all xposts (nI i) (by first | with_reducible assumption | with_reducible rfl | omega | assumption | rfl | decide) (by first | with_reducible assumption | with_reducible rfl | omega | assumption | rfl | decide) (by rw [nI_toInt (by omega)]; omega) hZ) (kV_RX12_226 C.2.2.2.2 (Nat.le_of_ble_eq_true rfl) (Nat.le_of_ble_eq_true rfl)) [3, 4, 0] [0, 2, 0] rfl rfl (ci := 11) (qc := (RX12, TX12, 43)) rfl rfl (List.mem_flatten.mpr ⟨_, List.mem_of_getElem? (i := 0) rfl, List.mem_cons_self⟩) rfl rfl hl.1 dX12_setBy_24 (Nat.le_of_ble_eq_true rfl) (Nat.le_of_ble_eq_true rfl) (fun b1 H locs hw G => ?_)
    refine zEx1 hw ?_
    intro g_posts_7
    refine zCu4 ?_
    intro hbs9 h_8 h_9 h_10
    clear hw
    subst hbs9
    have G : zS T A s.heap s [[zAr T 0 m_shut 7 f_shut], [zAr T 0 m_was 7 xwas], [zO11 mo m_all m_has i_size i_next i_where i_token i_number i_word i_wrong i_farCrossing m_read i_z0 i_crossings i_inns m_posts m_shut m_here i_steps i_done xat xgone m_was m_came m_seenAt m_rowWorth m_farBy m_used i_everywhere i_again0 i_d0 i_never i_firstCame i_longRun i_moved i_crowd i_l0 i_fitMany i_fitLeast i_fitMost m_fitPost m_fitEnd m_keptPosts i_x0], [zAr T 0 m_all 3952 f_all], [zAr T 0 m_posts 7 g_posts_7]] _ _ := G
    have hn2i := nI_n (n := i) (by omega)
    have hdg := h_10
    rw [hn2i] at hdg
    have hQ9 := h_8
    have hVy := h_9
    refine lv_aload_n hx hb dX12_setBy_27 rfl (lv_at hl 4 rfl) ?_
    refine z_Vi (bc := [[zO11 mo m_all m_has i_size i_next i_where i_token i_number i_word i_wrong i_farCrossing m_read i_z0 i_crossings i_inns m_posts m_shut m_here i_steps i_done xat xgone m_was m_came m_seenAt m_rowWorth m_farBy m_used i_everywhere i_again0 i_d0 i_never i_firstCame i_longRun i_moved i_crowd i_l0 i_fitMany i_fitLeast i_fitMost m_fitPost m_fitEnd m_keptPosts i_x0], [zAr T 0 m_all 3952 f_all], [zAr T 0 m_posts 7 g_posts_7]]) (br := [[zAr T 0 m_shut 7 f_shut], [zAr T 0 m_was 7 xwas]]) (As := []) (rest := []) C G (c_fm_unlikeTold l T mo m_all m_has i_size i_next i_where i_token i_number i_word i_wrong i_farCrossing m_read i_z0 i_crossings i_inns m_posts m_shut m_here i_steps i_done xat xgone m_was m_came m_seenAt m_rowWorth m_farBy m_used i_everywhere i_again0 i_d0 i_never i_firstCame i_longRun i_moved i_crowd i_l0 i_fitMany i_fitLeast i_fitMost m_fitPost m_fitEnd m_keptPosts i_x0 f_all g_posts_7 i (aRs (zWo f_all i_z0 i_inns) (zPo f_all i_z0) 7) (by first | with_reducible assumption | with_reducible rfl | omega | assumption | rfl | decide) (by first | with_reducible assumption | with_reducible rfl | omega | assumption | rfl | decide) hdg hTo9.2) (kV_RX12_232 C.2.2.2.2 (Nat.le_of_ble_eq_true rfl) (Nat.le_of_ble_eq_true rfl)) [2, 3, 4] [2, 0, 0] rfl rfl (ci := 11) (qc := (RX12, TX12, 43)) rfl rfl (List.mem_flatten.mpr ⟨_, List.mem_of_getElem? (i := 0) rfl, List.mem_cons_self⟩) rfl rfl hl.1 dX12_setBy_28 (Nat.le_of_ble_eq_true rfl) (Nat.le_of_ble_eq_true rfl) (fun r_13 b1 H locs hw G => ?_)
    refine zAn2 hw ?_
    intro hbs9 h_12
    clear hw
    subst hbs9
    have G : zS T A s.heap s [[zAr T 0 m_shut 7 f_shut], [zAr T 0 m_was 7 xwas], [zO11 mo m_all m_has i_size i_next i_where i_token i_number i_word i_wrong i_farCrossing m_read i_z0 i_crossings i_inns m_posts m_shut m_here i_steps i_done xat xgone m_was m_came m_seenAt m_rowWorth m_farBy m_used i_everywhere i_again0 i_d0 i_never i_firstCame i_longRun i_moved i_crowd i_l0 i_fitMany i_fitLeast i_fitMost m_fitPost m_fitEnd m_keptPosts i_x0], [zAr T 0 m_all 3952 f_all], [zAr T 0 m_posts 7 g_posts_7]] _ _ := G
    have hmk9 : r_13 = (aUn (zWo f_all i_z0 i_inns) i (aRs (zWo f_all i_z0 i_inns) (zPo f_all i_z0) 7) i_crossings.toInt.toNat) := h_12
    refine lv_istore (lv' := [(7, .int r_13), (6, .int (nI i)), (5, .int r_4), (4, .int u9), (3, .int x9), (0, .ref mo), (1, .int c_), (2, .int n_)]) hx hb dX12_setBy_31 hl (by decide) (zLvf_h rfl) (fun ls hl => ?_)
    refine lv_iload_n hx hb dX12_setBy_33 rfl (lv_at hl 4 rfl) ?_
    refine lv_iconst (v := (-1)) hx hb dX12_setBy_34 (by decide) ?_
    refine lv_icmp_eq (tgt := 71) hx hb dX12_setBy_35 (by decide) (fun c_14 => ?_) (fun c_14 => ?_)
    · have c_14n : x9.toInt = (-1 : Int) := (fa_eq _ _).mp c_14
      refine lv_iconst (v := 1) hx hb dX12_setBy_71 (by decide) ?_
      refine lv_goto (tgt := 76) hx hb dX12_setBy_72 (by decide) ?_
      refine lv_istore (lv' := [(8, .int 1), (7, .int r_13), (6, .int (nI i)), (5, .int r_4), (4, .int u9), (3, .int x9), (0, .ref mo), (1, .int c_), (2, .int n_)]) hx hb dX12_setBy_76 hl (by decide) (zLvf_h rfl) (fun ls hl => ?_)
      refine lv_iload hx hb dX12_setBy_78 (lv_at hl 0 rfl) ?_
      refine lv_if_ne (tgt := 86) hx hb dX12_setBy_80 (by decide) (fun _ => ?_) (fun q => absurd q (by decide))
      refine lv_aload_n hx hb dX12_setBy_86 rfl (lv_at hl 6 rfl) ?_
      refine lv_iload_n hx hb dX12_setBy_87 rfl (lv_at hl 7 rfl) ?_
      refine z_Vi (bc := [[zO11 mo m_all m_has i_size i_next i_where i_token i_number i_word i_wrong i_farCrossing m_read i_z0 i_crossings i_inns m_posts m_shut m_here i_steps i_done xat xgone m_was m_came m_seenAt m_rowWorth m_farBy m_used i_everywhere i_again0 i_d0 i_never i_firstCame i_longRun i_moved i_crowd i_l0 i_fitMany i_fitLeast i_fitMost m_fitPost m_fitEnd m_keptPosts i_x0], [zAr T 0 m_all 3952 f_all], [zAr T 0 m_posts 7 g_posts_7], [zAr T 0 m_shut 7 f_shut], [zAr T 0 m_was 7 xwas]]) (br := []) (As := [.int c_]) (rest := []) C G (c_fm_walks l T mo m_all m_has i_size i_next i_where i_token i_number i_word i_wrong i_farCrossing m_read i_z0 i_crossings i_inns m_posts m_shut m_here i_steps i_done xat xgone m_was m_came m_seenAt m_rowWorth m_farBy m_used i_everywhere i_again0 i_d0 i_never i_firstCame i_longRun i_moved i_crowd i_l0 i_fitMany i_fitLeast i_fitMost m_fitPost m_fitEnd m_keptPosts i_x0 f_all g_posts_7 f_shut xwas c_ (by first | with_reducible assumption | with_reducible rfl | omega | assumption | rfl | decide) (by first | with_reducible assumption | with_reducible rfl | omega | assumption | rfl | decide) (by first | with_reducible assumption | with_reducible rfl | omega | assumption | rfl | decide) hVy hQ9) (kV_RX12_217 C.2.2.2.2 (Nat.le_of_ble_eq_true rfl) (Nat.le_of_ble_eq_true rfl)) [2, 3, 4, 0, 1] [0, 0, 0, 0, 0] rfl rfl (ci := 11) (qc := (RX12, TX12, 43)) rfl rfl (List.mem_flatten.mpr ⟨_, List.mem_of_getElem? (i := 0) rfl, List.mem_cons_self⟩) rfl rfl hl.1 dX12_setBy_88 (Nat.le_of_ble_eq_true rfl) (Nat.le_of_ble_eq_true rfl) (fun r_29 b1 H locs hw G => ?_)
      refine zEx4 hw ?_
      intro j_at_15 j_gone_16 g_posts_17 g_was_18
      refine zCu11 ?_
      intro hbs9 h_19 h_20 h_21 h_22 h_23 h_24 h_25 h_26 h_27 h_28
      clear hw
      subst hbs9
      have G : zS T A s.heap s [[zO11 mo m_all m_has i_size i_next i_where i_token i_number i_word i_wrong i_farCrossing m_read i_z0 i_crossings i_inns m_posts m_shut m_here i_steps i_done j_at_15 j_gone_16 m_was m_came m_seenAt m_rowWorth m_farBy m_used i_everywhere i_again0 i_d0 i_never i_firstCame i_longRun i_moved i_crowd i_l0 i_fitMany i_fitLeast i_fitMost m_fitPost m_fitEnd m_keptPosts i_x0], [zAr T 0 m_all 3952 f_all], [zAr T 0 m_posts 7 g_posts_17], [zAr T 0 m_shut 7 f_shut], [zAr T 0 m_was 7 g_was_18]] _ _ := G
      replace h_24 : zHd ((r_29 = 1 ∧ zBit i_inns j_at_15 = 1 ∨ r_29 = 0 ∧ ¬ zBit i_inns j_at_15 = 1)) := h_24
      have hRw := rWalk (n := i_inns) (c := c_) (w := i) hL hZ h_8 hS hdg hc0 hc6
      have hat9 : j_at_15 = rWh (zWo f_all i_z0 i_inns) (zLo f_all i_z0) i c_ := h_26.trans hRw.1
      have hVy := h_20
      have hQ9 := h_19
      refine lv_pop hx hb dX12_setBy_91 rfl ?_
      refine lv_aload_n hx hb dX12_setBy_92 rfl (lv_at hl 6 rfl) ?_
      refine z_get C G clX12 0 rfl 19 (by decide) m_fl_RX12_202 rfl dX12_setBy_93 ?_
      refine lv_iload_n hx hb dX12_setBy_96 rfl (lv_at hl 8 rfl) ?_
      refine lv_icmp_eq (tgt := 103) hx hb dX12_setBy_97 (by decide) (fun c_30 => ?_) (fun c_30 => ?_)
      · have c_30n : j_at_15.toInt = n_.toInt := (fa_eq _ _).mp c_30
        refine lv_iload hx hb dX12_setBy_103 (lv_at hl 2 rfl) ?_
        refine lv_istore_n (lv' := [(3, .int (nI i)), (8, .int 1), (7, .int r_13), (6, .int (nI i)), (5, .int r_4), (4, .int u9), (0, .ref mo), (1, .int c_), (2, .int n_)]) hx hb dX12_setBy_105 rfl hl (by decide) (zLvf_h rfl) (fun ls hl => ?_)
        refine lv_iload hx hb dX12_setBy_106 (lv_at hl 2 rfl) ?_
        refine lv_istore (lv' := [(4, .int r_13), (3, .int (nI i)), (8, .int 1), (7, .int r_13), (6, .int (nI i)), (5, .int r_4), (0, .ref mo), (1, .int c_), (2, .int n_)]) hx hb dX12_setBy_108 hl (by decide) (zLvf_h rfl) (fun ls hl => ?_)
        have hbs9 := (rSb_s (C := (fun w => decide (rWh (zWo f_all i_z0 i_inns) (zLo f_all i_z0) w c_ = n_))) (M := (fun w => aUn (zWo f_all i_z0 i_inns) w (aRs (zWo f_all i_z0 i_inns) (zPo f_all i_z0) 7) i_crossings.toInt.toNat)) hxb hmk9).1 (decide_eq_true (hat9.symm.trans (by first | with_reducible assumption | assumption))) (by rw [← hxu]; omega)
        refine lv_iinc (v := nI (i + 1)) (lv' := [(6, .int (nI (i + 1))), (4, .int r_13), (3, .int (nI i)), (8, .int 1), (7, .int r_13), (5, .int r_4), (0, .ref mo), (1, .int c_), (2, .int n_)]) hx hb dX12_setBy_110 hl (k := 4) rfl (z_inc i 1) (by decide) (zLvf_h rfl) (fun ls hl => ?_)
        refine lv_goto (tgt := 14) hx hb dX12_setBy_113 (by decide) ?_
        have G := G.sub (bs' := [[zAr T 0 m_posts 7 g_posts_17], [zAr T 0 m_shut 7 f_shut], [zAr T 0 m_was 7 g_was_18], [zO11 mo m_all m_has i_size i_next i_where i_token i_number i_word i_wrong i_farCrossing m_read i_z0 i_crossings i_inns m_posts m_shut m_here i_steps i_done j_at_15 j_gone_16 m_was m_came m_seenAt m_rowWorth m_farBy m_used i_everywhere i_again0 i_d0 i_never i_firstCame i_longRun i_moved i_crowd i_l0 i_fitMany i_fitLeast i_fitMost m_fitPost m_fitEnd m_keptPosts i_x0], [zAr T 0 m_all 3952 f_all]]) [2, 3, 4, 0, 1] rfl
        exact ih_14 (i + 1) (nI i) r_13 j_at_15 j_gone_16 g_posts_17 g_was_18 (show (i + 1) ≤ aPr (zWo f_all i_z0 i_inns) 7 ∧ zMP g_posts_17 ∧ zMV (zRo f_all i_z0) g_posts_17 ∧ (nI i) = (rSb (fun w => decide (rWh (zWo f_all i_z0 i_inns) (zLo f_all i_z0) w c_ = n_)) (fun w => aUn (zWo f_all i_z0 i_inns) w (aRs (zWo f_all i_z0 i_inns) (zPo f_all i_z0) 7) i_crossings.toInt.toNat) (i + 1)).1 ∧ r_13 = (rSb (fun w => decide (rWh (zWo f_all i_z0 i_inns) (zLo f_all i_z0) w c_ = n_)) (fun w => aUn (zWo f_all i_z0 i_inns) w (aRs (zWo f_all i_z0 i_inns) (zPo f_all i_z0) 7) i_crossings.toInt.toNat) (i + 1)).2 from ⟨(by omega), (by first | with_reducible assumption | assumption), hVy, hbs9.1, hbs9.2⟩) (show aPr (zWo f_all i_z0 i_inns) 7 - (i + 1) < aPr (zWo f_all i_z0 i_inns) 7 - i from by omega) _ _ ls G (lv_sub hl [0, 5, 1, 2, 6, 7, 8] rfl)
      · have c_30n : ¬ j_at_15.toInt = n_.toInt := fun q => c_30 ((fa_eq _ _).mpr q)
        refine lv_goto (tgt := 110) hx hb dX12_setBy_100 (by decide) ?_
        have hbs9 := (rSb_s (C := (fun w => decide (rWh (zWo f_all i_z0 i_inns) (zLo f_all i_z0) w c_ = n_))) (M := (fun w => aUn (zWo f_all i_z0 i_inns) w (aRs (zWo f_all i_z0 i_inns) (zPo f_all i_z0) 7) i_crossings.toInt.toNat)) hxb hmk9).2 (fun q8 => absurd (hat9.trans (of_decide_eq_true q8.1)) (by first | with_reducible assumption | assumption))
        refine lv_iinc (v := nI (i + 1)) (lv' := [(6, .int (nI (i + 1))), (8, .int 1), (7, .int r_13), (5, .int r_4), (4, .int u9), (3, .int x9), (0, .ref mo), (1, .int c_), (2, .int n_)]) hx hb dX12_setBy_110 hl (k := 2) rfl (z_inc i 1) (by decide) (zLvf_h rfl) (fun ls hl => ?_)
        refine lv_goto (tgt := 14) hx hb dX12_setBy_113 (by decide) ?_
        have G := G.sub (bs' := [[zAr T 0 m_posts 7 g_posts_17], [zAr T 0 m_shut 7 f_shut], [zAr T 0 m_was 7 g_was_18], [zO11 mo m_all m_has i_size i_next i_where i_token i_number i_word i_wrong i_farCrossing m_read i_z0 i_crossings i_inns m_posts m_shut m_here i_steps i_done j_at_15 j_gone_16 m_was m_came m_seenAt m_rowWorth m_farBy m_used i_everywhere i_again0 i_d0 i_never i_firstCame i_longRun i_moved i_crowd i_l0 i_fitMany i_fitLeast i_fitMost m_fitPost m_fitEnd m_keptPosts i_x0], [zAr T 0 m_all 3952 f_all]]) [2, 3, 4, 0, 1] rfl
        exact ih_14 (i + 1) x9 u9 j_at_15 j_gone_16 g_posts_17 g_was_18 (show (i + 1) ≤ aPr (zWo f_all i_z0 i_inns) 7 ∧ zMP g_posts_17 ∧ zMV (zRo f_all i_z0) g_posts_17 ∧ x9 = (rSb (fun w => decide (rWh (zWo f_all i_z0 i_inns) (zLo f_all i_z0) w c_ = n_)) (fun w => aUn (zWo f_all i_z0 i_inns) w (aRs (zWo f_all i_z0 i_inns) (zPo f_all i_z0) 7) i_crossings.toInt.toNat) (i + 1)).1 ∧ u9 = (rSb (fun w => decide (rWh (zWo f_all i_z0 i_inns) (zLo f_all i_z0) w c_ = n_)) (fun w => aUn (zWo f_all i_z0 i_inns) w (aRs (zWo f_all i_z0 i_inns) (zPo f_all i_z0) 7) i_crossings.toInt.toNat) (i + 1)).2 from ⟨(by omega), (by first | with_reducible assumption | assumption), hVy, hbs9.1, (hxu.trans hbs9.2)⟩) (show aPr (zWo f_all i_z0 i_inns) 7 - (i + 1) < aPr (zWo f_all i_z0 i_inns) 7 - i from by omega) _ _ ls G (lv_sub hl [0, 3, 4, 5, 6, 7, 8] rfl)
    · have c_14n : ¬ x9.toInt = (-1 : Int) := fun q => c_14 ((fa_eq _ _).mpr q)
      refine lv_iload hx hb dX12_setBy_38 (lv_at hl 0 rfl) ?_
      refine z_Si (bc := []) (br := [[zAr T 0 m_shut 7 f_shut], [zAr T 0 m_was 7 xwas], [zO11 mo m_all m_has i_size i_next i_where i_token i_number i_word i_wrong i_farCrossing m_read i_z0 i_crossings i_inns m_posts m_shut m_here i_steps i_done xat xgone m_was m_came m_seenAt m_rowWorth m_farBy m_used i_everywhere i_again0 i_d0 i_never i_firstCame i_longRun i_moved i_crowd i_l0 i_fitMany i_fitLeast i_fitMost m_fitPost m_fitEnd m_keptPosts i_x0], [zAr T 0 m_all 3952 f_all], [zAr T 0 m_posts 7 g_posts_7]]) (As := [.int r_13]) (rest := []) C G (c_fm_bitsOf l T r_13) (kS_RX12_235 C.2.2.2.2 (Nat.le_of_ble_eq_true rfl) (Nat.le_of_ble_eq_true rfl)) [] [] rfl rfl rfl rfl hl.1 dX12_setBy_40 (Nat.le_of_ble_eq_true rfl) (Nat.le_of_ble_eq_true rfl) (fun r_32 b1 H locs hw G => ?_)
      refine zAn2 hw ?_
      intro hbs9 h_31
      clear hw
      subst hbs9
      have G : zS T A s.heap s [[zAr T 0 m_shut 7 f_shut], [zAr T 0 m_was 7 xwas], [zO11 mo m_all m_has i_size i_next i_where i_token i_number i_word i_wrong i_farCrossing m_read i_z0 i_crossings i_inns m_posts m_shut m_here i_steps i_done xat xgone m_was m_came m_seenAt m_rowWorth m_farBy m_used i_everywhere i_again0 i_d0 i_never i_firstCame i_longRun i_moved i_crowd i_l0 i_fitMany i_fitLeast i_fitMost m_fitPost m_fitEnd m_keptPosts i_x0], [zAr T 0 m_all 3952 f_all], [zAr T 0 m_posts 7 g_posts_7]] _ _ := G
      have hbt40 := congrArg Int32.toInt h_31
      refine lv_iload hx hb dX12_setBy_43 (lv_at hl 3 rfl) ?_
      refine z_Si (bc := []) (br := [[zAr T 0 m_shut 7 f_shut], [zAr T 0 m_was 7 xwas], [zO11 mo m_all m_has i_size i_next i_where i_token i_number i_word i_wrong i_farCrossing m_read i_z0 i_crossings i_inns m_posts m_shut m_here i_steps i_done xat xgone m_was m_came m_seenAt m_rowWorth m_farBy m_used i_everywhere i_again0 i_d0 i_never i_firstCame i_longRun i_moved i_crowd i_l0 i_fitMany i_fitLeast i_fitMost m_fitPost m_fitEnd m_keptPosts i_x0], [zAr T 0 m_all 3952 f_all], [zAr T 0 m_posts 7 g_posts_7]]) (As := [.int u9]) (rest := [.int r_32]) C G (c_fm_bitsOf l T u9) (kS_RX12_235 C.2.2.2.2 (Nat.le_of_ble_eq_true rfl) (Nat.le_of_ble_eq_true rfl)) [] [] rfl rfl rfl rfl hl.1 dX12_setBy_45 (Nat.le_of_ble_eq_true rfl) (Nat.le_of_ble_eq_true rfl) (fun r_34 b1 H locs hw G => ?_)
      refine zAn2 hw ?_
      intro hbs9 h_33
      clear hw
      subst hbs9
      have G : zS T A s.heap s [[zAr T 0 m_shut 7 f_shut], [zAr T 0 m_was 7 xwas], [zO11 mo m_all m_has i_size i_next i_where i_token i_number i_word i_wrong i_farCrossing m_read i_z0 i_crossings i_inns m_posts m_shut m_here i_steps i_done xat xgone m_was m_came m_seenAt m_rowWorth m_farBy m_used i_everywhere i_again0 i_d0 i_never i_firstCame i_longRun i_moved i_crowd i_l0 i_fitMany i_fitLeast i_fitMost m_fitPost m_fitEnd m_keptPosts i_x0], [zAr T 0 m_all 3952 f_all], [zAr T 0 m_posts 7 g_posts_7]] _ _ := G
      have hbt45 := congrArg Int32.toInt h_33
      refine lv_icmp_lt (tgt := 71) hx hb dX12_setBy_48 (by decide) (fun c_35 => ?_) (fun c_35 => ?_)
      · have c_35n : r_32.toInt < r_34.toInt := (fa_lt _ _).mp c_35
        refine lv_iconst (v := 1) hx hb dX12_setBy_71 (by decide) ?_
        refine lv_goto (tgt := 76) hx hb dX12_setBy_72 (by decide) ?_
        refine lv_istore (lv' := [(8, .int 1), (7, .int r_13), (6, .int (nI i)), (5, .int r_4), (4, .int u9), (3, .int x9), (0, .ref mo), (1, .int c_), (2, .int n_)]) hx hb dX12_setBy_76 hl (by decide) (zLvf_h rfl) (fun ls hl => ?_)
        refine lv_iload hx hb dX12_setBy_78 (lv_at hl 0 rfl) ?_
        refine lv_if_ne (tgt := 86) hx hb dX12_setBy_80 (by decide) (fun _ => ?_) (fun q => absurd q (by decide))
        refine lv_aload_n hx hb dX12_setBy_86 rfl (lv_at hl 6 rfl) ?_
        refine lv_iload_n hx hb dX12_setBy_87 rfl (lv_at hl 7 rfl) ?_
        refine z_Vi (bc := [[zO11 mo m_all m_has i_size i_next i_where i_token i_number i_word i_wrong i_farCrossing m_read i_z0 i_crossings i_inns m_posts m_shut m_here i_steps i_done xat xgone m_was m_came m_seenAt m_rowWorth m_farBy m_used i_everywhere i_again0 i_d0 i_never i_firstCame i_longRun i_moved i_crowd i_l0 i_fitMany i_fitLeast i_fitMost m_fitPost m_fitEnd m_keptPosts i_x0], [zAr T 0 m_all 3952 f_all], [zAr T 0 m_posts 7 g_posts_7], [zAr T 0 m_shut 7 f_shut], [zAr T 0 m_was 7 xwas]]) (br := []) (As := [.int c_]) (rest := []) C G (c_fm_walks l T mo m_all m_has i_size i_next i_where i_token i_number i_word i_wrong i_farCrossing m_read i_z0 i_crossings i_inns m_posts m_shut m_here i_steps i_done xat xgone m_was m_came m_seenAt m_rowWorth m_farBy m_used i_everywhere i_again0 i_d0 i_never i_firstCame i_longRun i_moved i_crowd i_l0 i_fitMany i_fitLeast i_fitMost m_fitPost m_fitEnd m_keptPosts i_x0 f_all g_posts_7 f_shut xwas c_ (by first | with_reducible assumption | with_reducible rfl | omega | assumption | rfl | decide) (by first | with_reducible assumption | with_reducible rfl | omega | assumption | rfl | decide) (by first | with_reducible assumption | with_reducible rfl | omega | assumption | rfl | decide) hVy hQ9) (kV_RX12_217 C.2.2.2.2 (Nat.le_of_ble_eq_true rfl) (Nat.le_of_ble_eq_true rfl)) [2, 3, 4, 0, 1] [0, 0, 0, 0, 0] rfl rfl (ci := 11) (qc := (RX12, TX12, 43)) rfl rfl (List.mem_flatten.mpr ⟨_, List.mem_of_getElem? (i := 0) rfl, List.mem_cons_self⟩) rfl rfl hl.1 dX12_setBy_88 (Nat.le_of_ble_eq_true rfl) (Nat.le_of_ble_eq_true rfl) (fun r_50 b1 H locs hw G => ?_)
        refine zEx4 hw ?_
        intro j_at_36 j_gone_37 g_posts_38 g_was_39
        refine zCu11 ?_
        intro hbs9 h_40 h_41 h_42 h_43 h_44 h_45 h_46 h_47 h_48 h_49
        clear hw
        subst hbs9
        have G : zS T A s.heap s [[zO11 mo m_all m_has i_size i_next i_where i_token i_number i_word i_wrong i_farCrossing m_read i_z0 i_crossings i_inns m_posts m_shut m_here i_steps i_done j_at_36 j_gone_37 m_was m_came m_seenAt m_rowWorth m_farBy m_used i_everywhere i_again0 i_d0 i_never i_firstCame i_longRun i_moved i_crowd i_l0 i_fitMany i_fitLeast i_fitMost m_fitPost m_fitEnd m_keptPosts i_x0], [zAr T 0 m_all 3952 f_all], [zAr T 0 m_posts 7 g_posts_38], [zAr T 0 m_shut 7 f_shut], [zAr T 0 m_was 7 g_was_39]] _ _ := G
        replace h_45 : zHd ((r_50 = 1 ∧ zBit i_inns j_at_36 = 1 ∨ r_50 = 0 ∧ ¬ zBit i_inns j_at_36 = 1)) := h_45
        have hRw := rWalk (n := i_inns) (c := c_) (w := i) hL hZ h_8 hS hdg hc0 hc6
        have hat9 : j_at_36 = rWh (zWo f_all i_z0 i_inns) (zLo f_all i_z0) i c_ := h_47.trans hRw.1
        have hVy := h_41
        have hQ9 := h_40
        refine lv_pop hx hb dX12_setBy_91 rfl ?_
        refine lv_aload_n hx hb dX12_setBy_92 rfl (lv_at hl 6 rfl) ?_
        refine z_get C G clX12 0 rfl 19 (by decide) m_fl_RX12_202 rfl dX12_setBy_93 ?_
        refine lv_iload_n hx hb dX12_setBy_96 rfl (lv_at hl 8 rfl) ?_
        refine lv_icmp_eq (tgt := 103) hx hb dX12_setBy_97 (by decide) (fun c_51 => ?_) (fun c_51 => ?_)
        · have c_51n : j_at_36.toInt = n_.toInt := (fa_eq _ _).mp c_51
          refine lv_iload hx hb dX12_setBy_103 (lv_at hl 2 rfl) ?_
          refine lv_istore_n (lv' := [(3, .int (nI i)), (8, .int 1), (7, .int r_13), (6, .int (nI i)), (5, .int r_4), (4, .int u9), (0, .ref mo), (1, .int c_), (2, .int n_)]) hx hb dX12_setBy_105 rfl hl (by decide) (zLvf_h rfl) (fun ls hl => ?_)
          refine lv_iload hx hb dX12_setBy_106 (lv_at hl 2 rfl) ?_
          refine lv_istore (lv' := [(4, .int r_13), (3, .int (nI i)), (8, .int 1), (7, .int r_13), (6, .int (nI i)), (5, .int r_4), (0, .ref mo), (1, .int c_), (2, .int n_)]) hx hb dX12_setBy_108 hl (by decide) (zLvf_h rfl) (fun ls hl => ?_)
          have hbs9 := (rSb_s (C := (fun w => decide (rWh (zWo f_all i_z0 i_inns) (zLo f_all i_z0) w c_ = n_))) (M := (fun w => aUn (zWo f_all i_z0 i_inns) w (aRs (zWo f_all i_z0 i_inns) (zPo f_all i_z0) 7) i_crossings.toInt.toNat)) hxb hmk9).1 (decide_eq_true (hat9.symm.trans (by first | with_reducible assumption | assumption))) (by rw [← hxu]; omega)
          refine lv_iinc (v := nI (i + 1)) (lv' := [(6, .int (nI (i + 1))), (4, .int r_13), (3, .int (nI i)), (8, .int 1), (7, .int r_13), (5, .int r_4), (0, .ref mo), (1, .int c_), (2, .int n_)]) hx hb dX12_setBy_110 hl (k := 4) rfl (z_inc i 1) (by decide) (zLvf_h rfl) (fun ls hl => ?_)
          refine lv_goto (tgt := 14) hx hb dX12_setBy_113 (by decide) ?_
          have G := G.sub (bs' := [[zAr T 0 m_posts 7 g_posts_38], [zAr T 0 m_shut 7 f_shut], [zAr T 0 m_was 7 g_was_39], [zO11 mo m_all m_has i_size i_next i_where i_token i_number i_word i_wrong i_farCrossing m_read i_z0 i_crossings i_inns m_posts m_shut m_here i_steps i_done j_at_36 j_gone_37 m_was m_came m_seenAt m_rowWorth m_farBy m_used i_everywhere i_again0 i_d0 i_never i_firstCame i_longRun i_moved i_crowd i_l0 i_fitMany i_fitLeast i_fitMost m_fitPost m_fitEnd m_keptPosts i_x0], [zAr T 0 m_all 3952 f_all]]) [2, 3, 4, 0, 1] rfl
          exact ih_14 (i + 1) (nI i) r_13 j_at_36 j_gone_37 g_posts_38 g_was_39 (show (i + 1) ≤ aPr (zWo f_all i_z0 i_inns) 7 ∧ zMP g_posts_38 ∧ zMV (zRo f_all i_z0) g_posts_38 ∧ (nI i) = (rSb (fun w => decide (rWh (zWo f_all i_z0 i_inns) (zLo f_all i_z0) w c_ = n_)) (fun w => aUn (zWo f_all i_z0 i_inns) w (aRs (zWo f_all i_z0 i_inns) (zPo f_all i_z0) 7) i_crossings.toInt.toNat) (i + 1)).1 ∧ r_13 = (rSb (fun w => decide (rWh (zWo f_all i_z0 i_inns) (zLo f_all i_z0) w c_ = n_)) (fun w => aUn (zWo f_all i_z0 i_inns) w (aRs (zWo f_all i_z0 i_inns) (zPo f_all i_z0) 7) i_crossings.toInt.toNat) (i + 1)).2 from ⟨(by omega), (by first | with_reducible assumption | assumption), hVy, hbs9.1, hbs9.2⟩) (show aPr (zWo f_all i_z0 i_inns) 7 - (i + 1) < aPr (zWo f_all i_z0 i_inns) 7 - i from by omega) _ _ ls G (lv_sub hl [0, 5, 1, 2, 6, 7, 8] rfl)
        · have c_51n : ¬ j_at_36.toInt = n_.toInt := fun q => c_51 ((fa_eq _ _).mpr q)
          refine lv_goto (tgt := 110) hx hb dX12_setBy_100 (by decide) ?_
          have hbs9 := (rSb_s (C := (fun w => decide (rWh (zWo f_all i_z0 i_inns) (zLo f_all i_z0) w c_ = n_))) (M := (fun w => aUn (zWo f_all i_z0 i_inns) w (aRs (zWo f_all i_z0 i_inns) (zPo f_all i_z0) 7) i_crossings.toInt.toNat)) hxb hmk9).2 (fun q8 => absurd (hat9.trans (of_decide_eq_true q8.1)) (by first | with_reducible assumption | assumption))
          refine lv_iinc (v := nI (i + 1)) (lv' := [(6, .int (nI (i + 1))), (8, .int 1), (7, .int r_13), (5, .int r_4), (4, .int u9), (3, .int x9), (0, .ref mo), (1, .int c_), (2, .int n_)]) hx hb dX12_setBy_110 hl (k := 2) rfl (z_inc i 1) (by decide) (zLvf_h rfl) (fun ls hl => ?_)
          refine lv_goto (tgt := 14) hx hb dX12_setBy_113 (by decide) ?_
          have G := G.sub (bs' := [[zAr T 0 m_posts 7 g_posts_38], [zAr T 0 m_shut 7 f_shut], [zAr T 0 m_was 7 g_was_39], [zO11 mo m_all m_has i_size i_next i_where i_token i_number i_word i_wrong i_farCrossing m_read i_z0 i_crossings i_inns m_posts m_shut m_here i_steps i_done j_at_36 j_gone_37 m_was m_came m_seenAt m_rowWorth m_farBy m_used i_everywhere i_again0 i_d0 i_never i_firstCame i_longRun i_moved i_crowd i_l0 i_fitMany i_fitLeast i_fitMost m_fitPost m_fitEnd m_keptPosts i_x0], [zAr T 0 m_all 3952 f_all]]) [2, 3, 4, 0, 1] rfl
          exact ih_14 (i + 1) x9 u9 j_at_36 j_gone_37 g_posts_38 g_was_39 (show (i + 1) ≤ aPr (zWo f_all i_z0 i_inns) 7 ∧ zMP g_posts_38 ∧ zMV (zRo f_all i_z0) g_posts_38 ∧ x9 = (rSb (fun w => decide (rWh (zWo f_all i_z0 i_inns) (zLo f_all i_z0) w c_ = n_)) (fun w => aUn (zWo f_all i_z0 i_inns) w (aRs (zWo f_all i_z0 i_inns) (zPo f_all i_z0) 7) i_crossings.toInt.toNat) (i + 1)).1 ∧ u9 = (rSb (fun w => decide (rWh (zWo f_all i_z0 i_inns) (zLo f_all i_z0) w c_ = n_)) (fun w => aUn (zWo f_all i_z0 i_inns) w (aRs (zWo f_all i_z0 i_inns) (zPo f_all i_z0) 7) i_crossings.toInt.toNat) (i + 1)).2 from ⟨(by omega), (by first | with_reducible assumption | assumption), hVy, hbs9.1, (hxu.trans hbs9.2)⟩) (show aPr (zWo f_all i_z0 i_inns) 7 - (i + 1) < aPr (zWo f_all i_z0 i_inns) 7 - i from by omega) _ _ ls G (lv_sub hl [0, 3, 4, 5, 6, 7, 8] rfl)
      · have c_35n : ¬ r_32.toInt < r_34.toInt := fun q => c_35 ((fa_lt _ _).mpr q)
        refine lv_iload hx hb dX12_setBy_51 (lv_at hl 0 rfl) ?_
        refine z_Si (bc := []) (br := [[zAr T 0 m_shut 7 f_shut], [zAr T 0 m_was 7 xwas], [zO11 mo m_all m_has i_size i_next i_where i_token i_number i_word i_wrong i_farCrossing m_read i_z0 i_crossings i_inns m_posts m_shut m_here i_steps i_done xat xgone m_was m_came m_seenAt m_rowWorth m_farBy m_used i_everywhere i_again0 i_d0 i_never i_firstCame i_longRun i_moved i_crowd i_l0 i_fitMany i_fitLeast i_fitMost m_fitPost m_fitEnd m_keptPosts i_x0], [zAr T 0 m_all 3952 f_all], [zAr T 0 m_posts 7 g_posts_7]]) (As := [.int r_13]) (rest := []) C G (c_fm_bitsOf l T r_13) (kS_RX12_235 C.2.2.2.2 (Nat.le_of_ble_eq_true rfl) (Nat.le_of_ble_eq_true rfl)) [] [] rfl rfl rfl rfl hl.1 dX12_setBy_53 (Nat.le_of_ble_eq_true rfl) (Nat.le_of_ble_eq_true rfl) (fun r_53 b1 H locs hw G => ?_)
        refine zAn2 hw ?_
        intro hbs9 h_52
        clear hw
        subst hbs9
        have G : zS T A s.heap s [[zAr T 0 m_shut 7 f_shut], [zAr T 0 m_was 7 xwas], [zO11 mo m_all m_has i_size i_next i_where i_token i_number i_word i_wrong i_farCrossing m_read i_z0 i_crossings i_inns m_posts m_shut m_here i_steps i_done xat xgone m_was m_came m_seenAt m_rowWorth m_farBy m_used i_everywhere i_again0 i_d0 i_never i_firstCame i_longRun i_moved i_crowd i_l0 i_fitMany i_fitLeast i_fitMost m_fitPost m_fitEnd m_keptPosts i_x0], [zAr T 0 m_all 3952 f_all], [zAr T 0 m_posts 7 g_posts_7]] _ _ := G
        have hbt53 := congrArg Int32.toInt h_52
        refine lv_iload hx hb dX12_setBy_56 (lv_at hl 3 rfl) ?_
        refine z_Si (bc := []) (br := [[zAr T 0 m_shut 7 f_shut], [zAr T 0 m_was 7 xwas], [zO11 mo m_all m_has i_size i_next i_where i_token i_number i_word i_wrong i_farCrossing m_read i_z0 i_crossings i_inns m_posts m_shut m_here i_steps i_done xat xgone m_was m_came m_seenAt m_rowWorth m_farBy m_used i_everywhere i_again0 i_d0 i_never i_firstCame i_longRun i_moved i_crowd i_l0 i_fitMany i_fitLeast i_fitMost m_fitPost m_fitEnd m_keptPosts i_x0], [zAr T 0 m_all 3952 f_all], [zAr T 0 m_posts 7 g_posts_7]]) (As := [.int u9]) (rest := [.int r_53]) C G (c_fm_bitsOf l T u9) (kS_RX12_235 C.2.2.2.2 (Nat.le_of_ble_eq_true rfl) (Nat.le_of_ble_eq_true rfl)) [] [] rfl rfl rfl rfl hl.1 dX12_setBy_58 (Nat.le_of_ble_eq_true rfl) (Nat.le_of_ble_eq_true rfl) (fun r_55 b1 H locs hw G => ?_)
        refine zAn2 hw ?_
        intro hbs9 h_54
        clear hw
        subst hbs9
        have G : zS T A s.heap s [[zAr T 0 m_shut 7 f_shut], [zAr T 0 m_was 7 xwas], [zO11 mo m_all m_has i_size i_next i_where i_token i_number i_word i_wrong i_farCrossing m_read i_z0 i_crossings i_inns m_posts m_shut m_here i_steps i_done xat xgone m_was m_came m_seenAt m_rowWorth m_farBy m_used i_everywhere i_again0 i_d0 i_never i_firstCame i_longRun i_moved i_crowd i_l0 i_fitMany i_fitLeast i_fitMost m_fitPost m_fitEnd m_keptPosts i_x0], [zAr T 0 m_all 3952 f_all], [zAr T 0 m_posts 7 g_posts_7]] _ _ := G
        have hbt58 := congrArg Int32.toInt h_54
        refine lv_icmp_ne (tgt := 75) hx hb dX12_setBy_61 (by decide) (fun c_56 => ?_) (fun c_56 => ?_)
        · have c_56n : ¬ r_53.toInt = r_55.toInt := fun q => c_56 ((fa_eq _ _).mpr q)
          refine lv_iconst (v := 0) hx hb dX12_setBy_75 (by decide) ?_
          refine lv_istore (lv' := [(8, .int 0), (7, .int r_13), (6, .int (nI i)), (5, .int r_4), (4, .int u9), (3, .int x9), (0, .ref mo), (1, .int c_), (2, .int n_)]) hx hb dX12_setBy_76 hl (by decide) (zLvf_h rfl) (fun ls hl => ?_)
          refine lv_iload hx hb dX12_setBy_78 (lv_at hl 0 rfl) ?_
          refine lv_if_ne (tgt := 86) hx hb dX12_setBy_80 (by decide) (fun q => absurd (by decide) q) (fun _ => ?_)
          refine lv_goto (tgt := 110) hx hb dX12_setBy_83 (by decide) ?_
          have hbs9 := (rSb_s (C := (fun w => decide (rWh (zWo f_all i_z0 i_inns) (zLo f_all i_z0) w c_ = n_))) (M := (fun w => aUn (zWo f_all i_z0 i_inns) w (aRs (zWo f_all i_z0 i_inns) (zPo f_all i_z0) 7) i_crossings.toInt.toNat)) hxb hmk9).2 (fun q8 => by have q7 := q8.2; rw [← hxu] at q7; omega)
          refine lv_iinc (v := nI (i + 1)) (lv' := [(6, .int (nI (i + 1))), (8, .int 0), (7, .int r_13), (5, .int r_4), (4, .int u9), (3, .int x9), (0, .ref mo), (1, .int c_), (2, .int n_)]) hx hb dX12_setBy_110 hl (k := 2) rfl (z_inc i 1) (by decide) (zLvf_h rfl) (fun ls hl => ?_)
          refine lv_goto (tgt := 14) hx hb dX12_setBy_113 (by decide) ?_
          have G := G.sub (bs' := [[zAr T 0 m_posts 7 g_posts_7], [zAr T 0 m_shut 7 f_shut], [zAr T 0 m_was 7 xwas], [zO11 mo m_all m_has i_size i_next i_where i_token i_number i_word i_wrong i_farCrossing m_read i_z0 i_crossings i_inns m_posts m_shut m_here i_steps i_done xat xgone m_was m_came m_seenAt m_rowWorth m_farBy m_used i_everywhere i_again0 i_d0 i_never i_firstCame i_longRun i_moved i_crowd i_l0 i_fitMany i_fitLeast i_fitMost m_fitPost m_fitEnd m_keptPosts i_x0], [zAr T 0 m_all 3952 f_all]]) [4, 0, 1, 2, 3] rfl
          exact ih_14 (i + 1) x9 u9 xat xgone g_posts_7 xwas (show (i + 1) ≤ aPr (zWo f_all i_z0 i_inns) 7 ∧ zMP g_posts_7 ∧ zMV (zRo f_all i_z0) g_posts_7 ∧ x9 = (rSb (fun w => decide (rWh (zWo f_all i_z0 i_inns) (zLo f_all i_z0) w c_ = n_)) (fun w => aUn (zWo f_all i_z0 i_inns) w (aRs (zWo f_all i_z0 i_inns) (zPo f_all i_z0) 7) i_crossings.toInt.toNat) (i + 1)).1 ∧ u9 = (rSb (fun w => decide (rWh (zWo f_all i_z0 i_inns) (zLo f_all i_z0) w c_ = n_)) (fun w => aUn (zWo f_all i_z0 i_inns) w (aRs (zWo f_all i_z0 i_inns) (zPo f_all i_z0) 7) i_crossings.toInt.toNat) (i + 1)).2 from ⟨(by omega), (by first | with_reducible assumption | assumption), hVy, hbs9.1, (hxu.trans hbs9.2)⟩) (show aPr (zWo f_all i_z0 i_inns) 7 - (i + 1) < aPr (zWo f_all i_z0 i_inns) 7 - i from by omega) _ _ ls G (lv_sub hl [0, 3, 4, 5, 6, 7, 8] rfl)
        · have c_56n : r_53.toInt = r_55.toInt := (fa_eq _ _).mp c_56
          refine lv_iload hx hb dX12_setBy_64 (lv_at hl 0 rfl) ?_
          refine lv_iload hx hb dX12_setBy_66 (lv_at hl 3 rfl) ?_
          refine lv_icmp_ge (tgt := 75) hx hb dX12_setBy_68 (by decide) (fun c_57 => ?_) (fun c_57 => ?_)
          · have c_57n : u9.toInt ≤ r_13.toInt := (fa_le _ _).mp c_57
            refine lv_iconst (v := 0) hx hb dX12_setBy_75 (by decide) ?_
            refine lv_istore (lv' := [(8, .int 0), (7, .int r_13), (6, .int (nI i)), (5, .int r_4), (4, .int u9), (3, .int x9), (0, .ref mo), (1, .int c_), (2, .int n_)]) hx hb dX12_setBy_76 hl (by decide) (zLvf_h rfl) (fun ls hl => ?_)
            refine lv_iload hx hb dX12_setBy_78 (lv_at hl 0 rfl) ?_
            refine lv_if_ne (tgt := 86) hx hb dX12_setBy_80 (by decide) (fun q => absurd (by decide) q) (fun _ => ?_)
            refine lv_goto (tgt := 110) hx hb dX12_setBy_83 (by decide) ?_
            have hbs9 := (rSb_s (C := (fun w => decide (rWh (zWo f_all i_z0 i_inns) (zLo f_all i_z0) w c_ = n_))) (M := (fun w => aUn (zWo f_all i_z0 i_inns) w (aRs (zWo f_all i_z0 i_inns) (zPo f_all i_z0) 7) i_crossings.toInt.toNat)) hxb hmk9).2 (fun q8 => by have q7 := q8.2; rw [← hxu] at q7; omega)
            refine lv_iinc (v := nI (i + 1)) (lv' := [(6, .int (nI (i + 1))), (8, .int 0), (7, .int r_13), (5, .int r_4), (4, .int u9), (3, .int x9), (0, .ref mo), (1, .int c_), (2, .int n_)]) hx hb dX12_setBy_110 hl (k := 2) rfl (z_inc i 1) (by decide) (zLvf_h rfl) (fun ls hl => ?_)
            refine lv_goto (tgt := 14) hx hb dX12_setBy_113 (by decide) ?_
            have G := G.sub (bs' := [[zAr T 0 m_posts 7 g_posts_7], [zAr T 0 m_shut 7 f_shut], [zAr T 0 m_was 7 xwas], [zO11 mo m_all m_has i_size i_next i_where i_token i_number i_word i_wrong i_farCrossing m_read i_z0 i_crossings i_inns m_posts m_shut m_here i_steps i_done xat xgone m_was m_came m_seenAt m_rowWorth m_farBy m_used i_everywhere i_again0 i_d0 i_never i_firstCame i_longRun i_moved i_crowd i_l0 i_fitMany i_fitLeast i_fitMost m_fitPost m_fitEnd m_keptPosts i_x0], [zAr T 0 m_all 3952 f_all]]) [4, 0, 1, 2, 3] rfl
            exact ih_14 (i + 1) x9 u9 xat xgone g_posts_7 xwas (show (i + 1) ≤ aPr (zWo f_all i_z0 i_inns) 7 ∧ zMP g_posts_7 ∧ zMV (zRo f_all i_z0) g_posts_7 ∧ x9 = (rSb (fun w => decide (rWh (zWo f_all i_z0 i_inns) (zLo f_all i_z0) w c_ = n_)) (fun w => aUn (zWo f_all i_z0 i_inns) w (aRs (zWo f_all i_z0 i_inns) (zPo f_all i_z0) 7) i_crossings.toInt.toNat) (i + 1)).1 ∧ u9 = (rSb (fun w => decide (rWh (zWo f_all i_z0 i_inns) (zLo f_all i_z0) w c_ = n_)) (fun w => aUn (zWo f_all i_z0 i_inns) w (aRs (zWo f_all i_z0 i_inns) (zPo f_all i_z0) 7) i_crossings.toInt.toNat) (i + 1)).2 from ⟨(by omega), (by first | with_reducible assumption | assumption), hVy, hbs9.1, (hxu.trans hbs9.2)⟩) (show aPr (zWo f_all i_z0 i_inns) 7 - (i + 1) < aPr (zWo f_all i_z0 i_inns) 7 - i from by omega) _ _ ls G (lv_sub hl [0, 3, 4, 5, 6, 7, 8] rfl)
          · have c_57n : ¬ u9.toInt ≤ r_13.toInt := fun q => c_57 ((fa_le _ _).mpr q)
            refine lv_iconst (v := 1) hx hb dX12_setBy_71 (by decide) ?_
            refine lv_goto (tgt := 76) hx hb dX12_setBy_72 (by decide) ?_
            refine lv_istore (lv' := [(8, .int 1), (7, .int r_13), (6, .int (nI i)), (5, .int r_4), (4, .int u9), (3, .int x9), (0, .ref mo), (1, .int c_), (2, .int n_)]) hx hb dX12_setBy_76 hl (by decide) (zLvf_h rfl) (fun ls hl => ?_)
            refine lv_iload hx hb dX12_setBy_78 (lv_at hl 0 rfl) ?_
            refine lv_if_ne (tgt := 86) hx hb dX12_setBy_80 (by decide) (fun _ => ?_) (fun q => absurd q (by decide))
            refine lv_aload_n hx hb dX12_setBy_86 rfl (lv_at hl 6 rfl) ?_
            refine lv_iload_n hx hb dX12_setBy_87 rfl (lv_at hl 7 rfl) ?_
            refine z_Vi (bc := [[zO11 mo m_all m_has i_size i_next i_where i_token i_number i_word i_wrong i_farCrossing m_read i_z0 i_crossings i_inns m_posts m_shut m_here i_steps i_done xat xgone m_was m_came m_seenAt m_rowWorth m_farBy m_used i_everywhere i_again0 i_d0 i_never i_firstCame i_longRun i_moved i_crowd i_l0 i_fitMany i_fitLeast i_fitMost m_fitPost m_fitEnd m_keptPosts i_x0], [zAr T 0 m_all 3952 f_all], [zAr T 0 m_posts 7 g_posts_7], [zAr T 0 m_shut 7 f_shut], [zAr T 0 m_was 7 xwas]]) (br := []) (As := [.int c_]) (rest := []) C G (c_fm_walks l T mo m_all m_has i_size i_next i_where i_token i_number i_word i_wrong i_farCrossing m_read i_z0 i_crossings i_inns m_posts m_shut m_here i_steps i_done xat xgone m_was m_came m_seenAt m_rowWorth m_farBy m_used i_everywhere i_again0 i_d0 i_never i_firstCame i_longRun i_moved i_crowd i_l0 i_fitMany i_fitLeast i_fitMost m_fitPost m_fitEnd m_keptPosts i_x0 f_all g_posts_7 f_shut xwas c_ (by first | with_reducible assumption | with_reducible rfl | omega | assumption | rfl | decide) (by first | with_reducible assumption | with_reducible rfl | omega | assumption | rfl | decide) (by first | with_reducible assumption | with_reducible rfl | omega | assumption | rfl | decide) hVy hQ9) (kV_RX12_217 C.2.2.2.2 (Nat.le_of_ble_eq_true rfl) (Nat.le_of_ble_eq_true rfl)) [2, 3, 4, 0, 1] [0, 0, 0, 0, 0] rfl rfl (ci := 11) (qc := (RX12, TX12, 43)) rfl rfl (List.mem_flatten.mpr ⟨_, List.mem_of_getElem? (i := 0) rfl, List.mem_cons_self⟩) rfl rfl hl.1 dX12_setBy_88 (Nat.le_of_ble_eq_true rfl) (Nat.le_of_ble_eq_true rfl) (fun r_72 b1 H locs hw G => ?_)
            refine zEx4 hw ?_
            intro j_at_58 j_gone_59 g_posts_60 g_was_61
            refine zCu11 ?_
            intro hbs9 h_62 h_63 h_64 h_65 h_66 h_67 h_68 h_69 h_70 h_71
            clear hw
            subst hbs9
            have G : zS T A s.heap s [[zO11 mo m_all m_has i_size i_next i_where i_token i_number i_word i_wrong i_farCrossing m_read i_z0 i_crossings i_inns m_posts m_shut m_here i_steps i_done j_at_58 j_gone_59 m_was m_came m_seenAt m_rowWorth m_farBy m_used i_everywhere i_again0 i_d0 i_never i_firstCame i_longRun i_moved i_crowd i_l0 i_fitMany i_fitLeast i_fitMost m_fitPost m_fitEnd m_keptPosts i_x0], [zAr T 0 m_all 3952 f_all], [zAr T 0 m_posts 7 g_posts_60], [zAr T 0 m_shut 7 f_shut], [zAr T 0 m_was 7 g_was_61]] _ _ := G
            replace h_67 : zHd ((r_72 = 1 ∧ zBit i_inns j_at_58 = 1 ∨ r_72 = 0 ∧ ¬ zBit i_inns j_at_58 = 1)) := h_67
            have hRw := rWalk (n := i_inns) (c := c_) (w := i) hL hZ h_8 hS hdg hc0 hc6
            have hat9 : j_at_58 = rWh (zWo f_all i_z0 i_inns) (zLo f_all i_z0) i c_ := h_69.trans hRw.1
            have hVy := h_63
            have hQ9 := h_62
            refine lv_pop hx hb dX12_setBy_91 rfl ?_
            refine lv_aload_n hx hb dX12_setBy_92 rfl (lv_at hl 6 rfl) ?_
            refine z_get C G clX12 0 rfl 19 (by decide) m_fl_RX12_202 rfl dX12_setBy_93 ?_
            refine lv_iload_n hx hb dX12_setBy_96 rfl (lv_at hl 8 rfl) ?_
            refine lv_icmp_eq (tgt := 103) hx hb dX12_setBy_97 (by decide) (fun c_73 => ?_) (fun c_73 => ?_)
            · have c_73n : j_at_58.toInt = n_.toInt := (fa_eq _ _).mp c_73
              refine lv_iload hx hb dX12_setBy_103 (lv_at hl 2 rfl) ?_
              refine lv_istore_n (lv' := [(3, .int (nI i)), (8, .int 1), (7, .int r_13), (6, .int (nI i)), (5, .int r_4), (4, .int u9), (0, .ref mo), (1, .int c_), (2, .int n_)]) hx hb dX12_setBy_105 rfl hl (by decide) (zLvf_h rfl) (fun ls hl => ?_)
              refine lv_iload hx hb dX12_setBy_106 (lv_at hl 2 rfl) ?_
              refine lv_istore (lv' := [(4, .int r_13), (3, .int (nI i)), (8, .int 1), (7, .int r_13), (6, .int (nI i)), (5, .int r_4), (0, .ref mo), (1, .int c_), (2, .int n_)]) hx hb dX12_setBy_108 hl (by decide) (zLvf_h rfl) (fun ls hl => ?_)
              have hbs9 := (rSb_s (C := (fun w => decide (rWh (zWo f_all i_z0 i_inns) (zLo f_all i_z0) w c_ = n_))) (M := (fun w => aUn (zWo f_all i_z0 i_inns) w (aRs (zWo f_all i_z0 i_inns) (zPo f_all i_z0) 7) i_crossings.toInt.toNat)) hxb hmk9).1 (decide_eq_true (hat9.symm.trans (by first | with_reducible assumption | assumption))) (by rw [← hxu]; omega)
              refine lv_iinc (v := nI (i + 1)) (lv' := [(6, .int (nI (i + 1))), (4, .int r_13), (3, .int (nI i)), (8, .int 1), (7, .int r_13), (5, .int r_4), (0, .ref mo), (1, .int c_), (2, .int n_)]) hx hb dX12_setBy_110 hl (k := 4) rfl (z_inc i 1) (by decide) (zLvf_h rfl) (fun ls hl => ?_)
              refine lv_goto (tgt := 14) hx hb dX12_setBy_113 (by decide) ?_
              have G := G.sub (bs' := [[zAr T 0 m_posts 7 g_posts_60], [zAr T 0 m_shut 7 f_shut], [zAr T 0 m_was 7 g_was_61], [zO11 mo m_all m_has i_size i_next i_where i_token i_number i_word i_wrong i_farCrossing m_read i_z0 i_crossings i_inns m_posts m_shut m_here i_steps i_done j_at_58 j_gone_59 m_was m_came m_seenAt m_rowWorth m_farBy m_used i_everywhere i_again0 i_d0 i_never i_firstCame i_longRun i_moved i_crowd i_l0 i_fitMany i_fitLeast i_fitMost m_fitPost m_fitEnd m_keptPosts i_x0], [zAr T 0 m_all 3952 f_all]]) [2, 3, 4, 0, 1] rfl
              exact ih_14 (i + 1) (nI i) r_13 j_at_58 j_gone_59 g_posts_60 g_was_61 (show (i + 1) ≤ aPr (zWo f_all i_z0 i_inns) 7 ∧ zMP g_posts_60 ∧ zMV (zRo f_all i_z0) g_posts_60 ∧ (nI i) = (rSb (fun w => decide (rWh (zWo f_all i_z0 i_inns) (zLo f_all i_z0) w c_ = n_)) (fun w => aUn (zWo f_all i_z0 i_inns) w (aRs (zWo f_all i_z0 i_inns) (zPo f_all i_z0) 7) i_crossings.toInt.toNat) (i + 1)).1 ∧ r_13 = (rSb (fun w => decide (rWh (zWo f_all i_z0 i_inns) (zLo f_all i_z0) w c_ = n_)) (fun w => aUn (zWo f_all i_z0 i_inns) w (aRs (zWo f_all i_z0 i_inns) (zPo f_all i_z0) 7) i_crossings.toInt.toNat) (i + 1)).2 from ⟨(by omega), (by first | with_reducible assumption | assumption), hVy, hbs9.1, hbs9.2⟩) (show aPr (zWo f_all i_z0 i_inns) 7 - (i + 1) < aPr (zWo f_all i_z0 i_inns) 7 - i from by omega) _ _ ls G (lv_sub hl [0, 5, 1, 2, 6, 7, 8] rfl)
            · have c_73n : ¬ j_at_58.toInt = n_.toInt := fun q => c_73 ((fa_eq _ _).mpr q)
              refine lv_goto (tgt := 110) hx hb dX12_setBy_100 (by decide) ?_
              have hbs9 := (rSb_s (C := (fun w => decide (rWh (zWo f_all i_z0 i_inns) (zLo f_all i_z0) w c_ = n_))) (M := (fun w => aUn (zWo f_all i_z0 i_inns) w (aRs (zWo f_all i_z0 i_inns) (zPo f_all i_z0) 7) i_crossings.toInt.toNat)) hxb hmk9).2 (fun q8 => absurd (hat9.trans (of_decide_eq_true q8.1)) (by first | with_reducible assumption | assumption))
              refine lv_iinc (v := nI (i + 1)) (lv' := [(6, .int (nI (i + 1))), (8, .int 1), (7, .int r_13), (5, .int r_4), (4, .int u9), (3, .int x9), (0, .ref mo), (1, .int c_), (2, .int n_)]) hx hb dX12_setBy_110 hl (k := 2) rfl (z_inc i 1) (by decide) (zLvf_h rfl) (fun ls hl => ?_)
              refine lv_goto (tgt := 14) hx hb dX12_setBy_113 (by decide) ?_
              have G := G.sub (bs' := [[zAr T 0 m_posts 7 g_posts_60], [zAr T 0 m_shut 7 f_shut], [zAr T 0 m_was 7 g_was_61], [zO11 mo m_all m_has i_size i_next i_where i_token i_number i_word i_wrong i_farCrossing m_read i_z0 i_crossings i_inns m_posts m_shut m_here i_steps i_done j_at_58 j_gone_59 m_was m_came m_seenAt m_rowWorth m_farBy m_used i_everywhere i_again0 i_d0 i_never i_firstCame i_longRun i_moved i_crowd i_l0 i_fitMany i_fitLeast i_fitMost m_fitPost m_fitEnd m_keptPosts i_x0], [zAr T 0 m_all 3952 f_all]]) [2, 3, 4, 0, 1] rfl
              exact ih_14 (i + 1) x9 u9 j_at_58 j_gone_59 g_posts_60 g_was_61 (show (i + 1) ≤ aPr (zWo f_all i_z0 i_inns) 7 ∧ zMP g_posts_60 ∧ zMV (zRo f_all i_z0) g_posts_60 ∧ x9 = (rSb (fun w => decide (rWh (zWo f_all i_z0 i_inns) (zLo f_all i_z0) w c_ = n_)) (fun w => aUn (zWo f_all i_z0 i_inns) w (aRs (zWo f_all i_z0 i_inns) (zPo f_all i_z0) 7) i_crossings.toInt.toNat) (i + 1)).1 ∧ u9 = (rSb (fun w => decide (rWh (zWo f_all i_z0 i_inns) (zLo f_all i_z0) w c_ = n_)) (fun w => aUn (zWo f_all i_z0 i_inns) w (aRs (zWo f_all i_z0 i_inns) (zPo f_all i_z0) 7) i_crossings.toInt.toNat) (i + 1)).2 from ⟨(by omega), (by first | with_reducible assumption | assumption), hVy, hbs9.1, (hxu.trans hbs9.2)⟩) (show aPr (zWo f_all i_z0 i_inns) 7 - (i + 1) < aPr (zWo f_all i_z0 i_inns) 7 - i from by omega) _ _ ls G (lv_sub hl [0, 3, 4, 5, 6, 7, 8] rfl)
set_option maxHeartbeats 4000000 in
set_option maxRecDepth 100000 in
/-- c_fm_set -/
theorem c_fm_set (l : Launch) (T : zTy) (mo : Nat) (m_all : Nat) (m_has : Nat) (i_size : Int32) (i_next : Int32) (i_where : Int32) (i_token : Int32) (i_number : Int32) (i_word : Int32) (i_wrong : Int32) (i_farCrossing : Int32) (m_read : Nat) (i_z0 : Int32) (i_crossings : Int32) (i_inns : Int32) (m_posts : Nat) (m_shut : Nat) (m_here : Nat) (i_steps : Int32) (i_done : Int32) (i_at : Int32) (i_gone : Int32) (m_was : Nat) (m_came : Nat) (m_seenAt : Nat) (m_rowWorth : Nat) (m_farBy : Nat) (m_used : Nat) (i_everywhere : Int32) (i_again0 : Int32) (i_d0 : Int32) (i_never : Int32) (i_firstCame : Int32) (i_longRun : Int32) (i_moved : Int32) (i_crowd : Int32) (i_l0 : Int32) (i_fitMany : Int32) (i_fitLeast : Int32) (i_fitMost : Int32) (m_fitPost : Nat) (m_fitEnd : Nat) (m_keptPosts : Nat) (i_x0 : Int32) (f_all : Nat → Int32) (f_posts : Nat → Int32) (f_shut : Nat → Int32) (f_here : Nat → Int32) (f_was : Nat → Int32) (l_ : Int32) (c_ : Int32) (n_ : Int32) (w_ : Int32) (hB : zBI f_all) (hVA : zVA f_all) (hVZ0 : zVZ f_all 610 (f_all 610)) (hVZ1 : zVZ f_all 661 (f_all 661)) : zMi l T yX12_set cX12_set 7 (some .int) 6 0 0 [.ref mo, .int l_, .int c_, .int n_, .int w_] [[zO11 mo m_all m_has i_size i_next i_where i_token i_number i_word i_wrong i_farCrossing m_read i_z0 i_crossings i_inns m_posts m_shut m_here i_steps i_done i_at i_gone m_was m_came m_seenAt m_rowWorth m_farBy m_used i_everywhere i_again0 i_d0 i_never i_firstCame i_longRun i_moved i_crowd i_l0 i_fitMany i_fitLeast i_fitMost m_fitPost m_fitEnd m_keptPosts i_x0], [zAr T 0 m_all 3952 f_all], [zAr T 0 m_posts 7 f_posts], [zAr T 0 m_shut 7 f_shut], [zAr T 0 m_here 7 f_here], [zAr T 0 m_was 7 f_was]] (fun (r : Int32) bs => ∃ (j_z0 : Int32) (j_crossings : Int32) (j_inns : Int32) (j_steps : Int32) (j_done : Int32) (j_at : Int32) (j_gone : Int32) (g_posts : Nat → Int32) (g_shut : Nat → Int32) (g_here : Nat → Int32) (g_was : Nat → Int32), bs = [[zO11 mo m_all m_has i_size i_next i_where i_token i_number i_word i_wrong i_farCrossing m_read j_z0 j_crossings j_inns m_posts m_shut m_here j_steps j_done j_at j_gone m_was m_came m_seenAt m_rowWorth m_farBy m_used i_everywhere i_again0 i_d0 i_never i_firstCame i_longRun i_moved i_crowd i_l0 i_fitMany i_fitLeast i_fitMost m_fitPost m_fitEnd m_keptPosts i_x0], [zAr T 0 m_all 3952 f_all], [zAr T 0 m_posts 7 g_posts], [zAr T 0 m_shut 7 g_shut], [zAr T 0 m_here 7 g_here], [zAr T 0 m_was 7 g_was]] ∧ ((l_.toInt < 0 ∨ (f_all 0).toInt ≤ l_.toInt) ∧ r = -1 ∨ l_.toInt = 0 ∧ 0 < (f_all 0).toInt ∧ r = pSet f_all 610 c_ n_ w_ ∨ l_.toInt = 1 ∧ 1 < (f_all 0).toInt ∧ r = pSet f_all 661 c_ n_ w_)) := by
  refine zMi_of (own := RX12) (by decide) rfl (Nat.le_of_ble_eq_true rfl) ?_
  intro p e s m args below meth c A ls C hr hlocks hnm hAe G hl
  refine zHide (fun Qz_ hQz_ => ?_)
  have hx := C.1
  have hb := C.2.1
  have hl : lv_has ls 7 [(0, .ref mo), (1, .int l_), (2, .int c_), (3, .int n_), (4, .int w_)] := hl
  refine lv_aload_n hx hb dX12_set_0 rfl (lv_at hl 0 rfl) ?_
  refine lv_iload_n hx hb dX12_set_1 rfl (lv_at hl 1 rfl) ?_
  refine z_Vi (bc := [[zO11 mo m_all m_has i_size i_next i_where i_token i_number i_word i_wrong i_farCrossing m_read i_z0 i_crossings i_inns m_posts m_shut m_here i_steps i_done i_at i_gone m_was m_came m_seenAt m_rowWorth m_farBy m_used i_everywhere i_again0 i_d0 i_never i_firstCame i_longRun i_moved i_crowd i_l0 i_fitMany i_fitLeast i_fitMost m_fitPost m_fitEnd m_keptPosts i_x0], [zAr T 0 m_all 3952 f_all], [zAr T 0 m_posts 7 f_posts], [zAr T 0 m_shut 7 f_shut], [zAr T 0 m_here 7 f_here]]) (br := [[zAr T 0 m_was 7 f_was]]) (As := [.int l_]) (rest := []) C G (c_m_isLand l T mo m_all m_has i_size i_next i_where i_token i_number i_word i_wrong i_farCrossing m_read i_z0 i_crossings i_inns m_posts m_shut m_here i_steps i_done i_at i_gone m_was m_came m_seenAt m_rowWorth m_farBy m_used i_everywhere i_again0 i_d0 i_never i_firstCame i_longRun i_moved i_crowd i_l0 i_fitMany i_fitLeast i_fitMost m_fitPost m_fitEnd m_keptPosts i_x0 f_all f_posts f_shut f_here l_ (by first | with_reducible assumption | with_reducible rfl | omega | assumption | rfl | decide)) (kV_RX12_184 C.2.2.2.2 (Nat.le_of_ble_eq_true rfl) (Nat.le_of_ble_eq_true rfl)) [0, 1, 2, 3, 4] [0, 0, 0, 0, 0] rfl rfl (ci := 11) (qc := (RX12, TX12, 43)) rfl rfl (List.mem_flatten.mpr ⟨_, List.mem_of_getElem? (i := 0) rfl, List.mem_cons_self⟩) rfl rfl hl.1 dX12_set_2 (Nat.le_of_ble_eq_true rfl) (Nat.le_of_ble_eq_true rfl) (fun r_10 b1 H locs hw G => ?_)
  refine zEx8 hw ?_
  intro j_z0_1 j_crossings_2 j_inns_3 j_steps_4 j_done_5 g_posts_6 g_shut_7 g_here_8
  refine zCu2 ?_
  intro hbs9 hc_9
  clear hw
  subst hbs9
  have G : zS T A s.heap s [[zAr T 0 m_was 7 f_was], [zO11 mo m_all m_has i_size i_next i_where i_token i_number i_word i_wrong i_farCrossing m_read j_z0_1 j_crossings_2 j_inns_3 m_posts m_shut m_here j_steps_4 j_done_5 i_at i_gone m_was m_came m_seenAt m_rowWorth m_farBy m_used i_everywhere i_again0 i_d0 i_never i_firstCame i_longRun i_moved i_crowd i_l0 i_fitMany i_fitLeast i_fitMost m_fitPost m_fitEnd m_keptPosts i_x0], [zAr T 0 m_all 3952 f_all], [zAr T 0 m_posts 7 g_posts_6], [zAr T 0 m_shut 7 g_shut_7], [zAr T 0 m_here 7 g_here_8]] _ _ := G
  rcases hc_9 with ⟨rfl, h_11, h_12, h_13, h_14, h_15, h_16, h_17, h_18, h_19, h_20, h_21, h_22⟩ | ⟨rfl, h_23⟩
  · have h_11 : 0 ≤ l_.toInt := h_11
    have h_12 : l_.toInt ≤ 1 := h_12
    have h_13 : l_.toInt < (f_all 0).toInt := h_13
    have h_14 : j_z0_1.toInt = 610 + 51 * l_.toInt := h_14
    have h_15 : zML f_all j_z0_1 j_crossings_2 := h_15
    have h_16 : zMP g_posts_6 := h_16
    have h_17 : j_inns_3 = f_all (j_z0_1.toInt.toNat + 1) := h_17
    have h_18 : j_steps_4 = 0 := h_18
    have h_19 : j_done_5 = 0 := h_19
    have h_20 : (∀ j, j < 7 → g_posts_6 j = zPt f_all j_z0_1 (nI j)) := h_20
    have h_21 : (∀ j, j < 7 → g_shut_7 j = 0) := h_21
    have h_22 : (∀ j, j < 7 → g_here_8 j = zWk f_all j_z0_1 j) := h_22
    have hLx := h_15
    have hcr := hLx.cr
    have hzx := hLx.1
    have hPx := h_16
    have hVx : zMV (zRo f_all j_z0_1) g_posts_6 := zVA_z hVA hzx h_20
    refine lv_if_eq (tgt := 32) hx hb dX12_set_5 (by decide) (fun q => absurd q (by decide)) (fun _ => ?_)
    rcases (show l_.toInt = 0 ∨ l_.toInt = 1 from by have hq9 := hB.2.1 0 (by decide); omega) with hkk | hkk
    · obtain rfl : j_z0_1 = 610 := Int32.toInt_inj.mp (by show j_z0_1.toInt = 610; omega)
      have hcx : j_crossings_2.toInt = (f_all 610).toInt := by rw [hLx.2.1]; rfl
      have hVz : zVZ f_all 610 j_crossings_2 := by rw [hLx.2.1]; exact hVZ0
      have hWe : (zWo f_all 610 j_inns_3) = pW f_all 610 := congrArg (zWo f_all 610) h_17
      have hS0 : ∀ j, j < 7 → g_shut_7 j = 0 := h_21
      have hNz : 1 ≤ aPr (zWo f_all 610 j_inns_3) 7 := aPr_p _
      have hNi : j_inns_3 = f_all (610 + 1) := h_17
      refine lv_aload_n hx hb dX12_set_8 rfl (lv_at hl 0 rfl) ?_
      refine lv_iload_n hx hb dX12_set_9 rfl (lv_at hl 2 rfl) ?_
      refine z_Vi (bc := [[zO11 mo m_all m_has i_size i_next i_where i_token i_number i_word i_wrong i_farCrossing m_read 610 j_crossings_2 j_inns_3 m_posts m_shut m_here j_steps_4 j_done_5 i_at i_gone m_was m_came m_seenAt m_rowWorth m_farBy m_used i_everywhere i_again0 i_d0 i_never i_firstCame i_longRun i_moved i_crowd i_l0 i_fitMany i_fitLeast i_fitMost m_fitPost m_fitEnd m_keptPosts i_x0]]) (br := [[zAr T 0 m_was 7 f_was], [zAr T 0 m_all 3952 f_all], [zAr T 0 m_posts 7 g_posts_6], [zAr T 0 m_shut 7 g_shut_7], [zAr T 0 m_here 7 g_here_8]]) (As := [.int c_]) (rest := []) C G (c_m_isCrossing l T mo m_all m_has i_size i_next i_where i_token i_number i_word i_wrong i_farCrossing m_read 610 j_crossings_2 j_inns_3 m_posts m_shut m_here j_steps_4 j_done_5 i_at i_gone m_was m_came m_seenAt m_rowWorth m_farBy m_used i_everywhere i_again0 i_d0 i_never i_firstCame i_longRun i_moved i_crowd i_l0 i_fitMany i_fitLeast i_fitMost m_fitPost m_fitEnd m_keptPosts i_x0 c_ (by first | with_reducible assumption | with_reducible rfl | omega | assumption | rfl | decide)) (kV_RX12_187 C.2.2.2.2 (Nat.le_of_ble_eq_true rfl) (Nat.le_of_ble_eq_true rfl)) [1] [1] rfl rfl (ci := 11) (qc := (RX12, TX12, 43)) rfl rfl (List.mem_flatten.mpr ⟨_, List.mem_of_getElem? (i := 0) rfl, List.mem_cons_self⟩) rfl rfl hl.1 dX12_set_10 (Nat.le_of_ble_eq_true rfl) (Nat.le_of_ble_eq_true rfl) (fun r_25 b1 H locs hw G => ?_)
      refine zAn2 hw ?_
      intro hbs9 hc_24
      clear hw
      subst hbs9
      have G : zS T A s.heap s [[zAr T 0 m_was 7 f_was], [zAr T 0 m_all 3952 f_all], [zAr T 0 m_posts 7 g_posts_6], [zAr T 0 m_shut 7 g_shut_7], [zAr T 0 m_here 7 g_here_8], [zO11 mo m_all m_has i_size i_next i_where i_token i_number i_word i_wrong i_farCrossing m_read 610 j_crossings_2 j_inns_3 m_posts m_shut m_here j_steps_4 j_done_5 i_at i_gone m_was m_came m_seenAt m_rowWorth m_farBy m_used i_everywhere i_again0 i_d0 i_never i_firstCame i_longRun i_moved i_crowd i_l0 i_fitMany i_fitLeast i_fitMost m_fitPost m_fitEnd m_keptPosts i_x0]] _ _ := G
      rcases hc_24 with ⟨rfl, h_26, h_27⟩ | ⟨rfl, h_28⟩
      · have h_26 : 0 ≤ c_.toInt := h_26
        have h_27 : c_.toInt < j_crossings_2.toInt := h_27
        refine lv_if_eq (tgt := 32) hx hb dX12_set_13 (by decide) (fun q => absurd q (by decide)) (fun _ => ?_)
        refine lv_aload_n hx hb dX12_set_16 rfl (lv_at hl 0 rfl) ?_
        refine lv_iload_n hx hb dX12_set_17 rfl (lv_at hl 3 rfl) ?_
        refine z_Vi (bc := [[zO11 mo m_all m_has i_size i_next i_where i_token i_number i_word i_wrong i_farCrossing m_read 610 j_crossings_2 j_inns_3 m_posts m_shut m_here j_steps_4 j_done_5 i_at i_gone m_was m_came m_seenAt m_rowWorth m_farBy m_used i_everywhere i_again0 i_d0 i_never i_firstCame i_longRun i_moved i_crowd i_l0 i_fitMany i_fitLeast i_fitMost m_fitPost m_fitEnd m_keptPosts i_x0]]) (br := [[zAr T 0 m_was 7 f_was], [zAr T 0 m_all 3952 f_all], [zAr T 0 m_posts 7 g_posts_6], [zAr T 0 m_shut 7 g_shut_7], [zAr T 0 m_here 7 g_here_8]]) (As := [.int n_]) (rest := []) C G (c_m_isCrossing l T mo m_all m_has i_size i_next i_where i_token i_number i_word i_wrong i_farCrossing m_read 610 j_crossings_2 j_inns_3 m_posts m_shut m_here j_steps_4 j_done_5 i_at i_gone m_was m_came m_seenAt m_rowWorth m_farBy m_used i_everywhere i_again0 i_d0 i_never i_firstCame i_longRun i_moved i_crowd i_l0 i_fitMany i_fitLeast i_fitMost m_fitPost m_fitEnd m_keptPosts i_x0 n_ (by first | with_reducible assumption | with_reducible rfl | omega | assumption | rfl | decide)) (kV_RX12_187 C.2.2.2.2 (Nat.le_of_ble_eq_true rfl) (Nat.le_of_ble_eq_true rfl)) [5] [5] rfl rfl (ci := 11) (qc := (RX12, TX12, 43)) rfl rfl (List.mem_flatten.mpr ⟨_, List.mem_of_getElem? (i := 0) rfl, List.mem_cons_self⟩) rfl rfl hl.1 dX12_set_18 (Nat.le_of_ble_eq_true rfl) (Nat.le_of_ble_eq_true rfl) (fun r_30 b1 H locs hw G => ?_)
        refine zAn2 hw ?_
        intro hbs9 hc_29
        clear hw
        subst hbs9
        have G : zS T A s.heap s [[zAr T 0 m_was 7 f_was], [zAr T 0 m_all 3952 f_all], [zAr T 0 m_posts 7 g_posts_6], [zAr T 0 m_shut 7 g_shut_7], [zAr T 0 m_here 7 g_here_8], [zO11 mo m_all m_has i_size i_next i_where i_token i_number i_word i_wrong i_farCrossing m_read 610 j_crossings_2 j_inns_3 m_posts m_shut m_here j_steps_4 j_done_5 i_at i_gone m_was m_came m_seenAt m_rowWorth m_farBy m_used i_everywhere i_again0 i_d0 i_never i_firstCame i_longRun i_moved i_crowd i_l0 i_fitMany i_fitLeast i_fitMost m_fitPost m_fitEnd m_keptPosts i_x0]] _ _ := G
        rcases hc_29 with ⟨rfl, h_31, h_32⟩ | ⟨rfl, h_33⟩
        · have h_31 : 0 ≤ n_.toInt := h_31
          have h_32 : n_.toInt < j_crossings_2.toInt := h_32
          refine lv_if_eq (tgt := 32) hx hb dX12_set_21 (by decide) (fun q => absurd q (by decide)) (fun _ => ?_)
          refine lv_aload_n hx hb dX12_set_24 rfl (lv_at hl 0 rfl) ?_
          refine lv_iload_n hx hb dX12_set_25 rfl (lv_at hl 3 rfl) ?_
          refine z_Vi (bc := [[zO11 mo m_all m_has i_size i_next i_where i_token i_number i_word i_wrong i_farCrossing m_read 610 j_crossings_2 j_inns_3 m_posts m_shut m_here j_steps_4 j_done_5 i_at i_gone m_was m_came m_seenAt m_rowWorth m_farBy m_used i_everywhere i_again0 i_d0 i_never i_firstCame i_longRun i_moved i_crowd i_l0 i_fitMany i_fitLeast i_fitMost m_fitPost m_fitEnd m_keptPosts i_x0]]) (br := [[zAr T 0 m_was 7 f_was], [zAr T 0 m_all 3952 f_all], [zAr T 0 m_posts 7 g_posts_6], [zAr T 0 m_shut 7 g_shut_7], [zAr T 0 m_here 7 g_here_8]]) (As := [.int n_]) (rest := []) C G (c_m_isInn l T mo m_all m_has i_size i_next i_where i_token i_number i_word i_wrong i_farCrossing m_read 610 j_crossings_2 j_inns_3 m_posts m_shut m_here j_steps_4 j_done_5 i_at i_gone m_was m_came m_seenAt m_rowWorth m_farBy m_used i_everywhere i_again0 i_d0 i_never i_firstCame i_longRun i_moved i_crowd i_l0 i_fitMany i_fitLeast i_fitMost m_fitPost m_fitEnd m_keptPosts i_x0 n_) (kV_RX12_178 C.2.2.2.2 (Nat.le_of_ble_eq_true rfl) (Nat.le_of_ble_eq_true rfl)) [5] [5] rfl rfl (ci := 11) (qc := (RX12, TX12, 43)) rfl rfl (List.mem_flatten.mpr ⟨_, List.mem_of_getElem? (i := 0) rfl, List.mem_cons_self⟩) rfl rfl hl.1 dX12_set_26 (Nat.le_of_ble_eq_true rfl) (Nat.le_of_ble_eq_true rfl) (fun r_35 b1 H locs hw G => ?_)
          refine zAn2 hw ?_
          intro hbs9 hc_34
          clear hw
          subst hbs9
          have G : zS T A s.heap s [[zAr T 0 m_was 7 f_was], [zAr T 0 m_all 3952 f_all], [zAr T 0 m_posts 7 g_posts_6], [zAr T 0 m_shut 7 g_shut_7], [zAr T 0 m_here 7 g_here_8], [zO11 mo m_all m_has i_size i_next i_where i_token i_number i_word i_wrong i_farCrossing m_read 610 j_crossings_2 j_inns_3 m_posts m_shut m_here j_steps_4 j_done_5 i_at i_gone m_was m_came m_seenAt m_rowWorth m_farBy m_used i_everywhere i_again0 i_d0 i_never i_firstCame i_longRun i_moved i_crowd i_l0 i_fitMany i_fitLeast i_fitMost m_fitPost m_fitEnd m_keptPosts i_x0]] _ _ := G
          rcases hc_34 with ⟨rfl, h_36⟩ | ⟨rfl, h_37⟩
          · have h_36 : zInn j_inns_3 n_ := h_36
            refine lv_if_ne (tgt := 34) hx hb dX12_set_29 (by decide) (fun _ => ?_) (fun q => absurd q (by decide))
            refine lv_aload_n hx hb dX12_set_34 rfl (lv_at hl 0 rfl) ?_
            refine lv_iload_n hx hb dX12_set_35 rfl (lv_at hl 2 rfl) ?_
            refine lv_iload_n hx hb dX12_set_36 rfl (lv_at hl 3 rfl) ?_
            refine z_Vi (bc := [[zO11 mo m_all m_has i_size i_next i_where i_token i_number i_word i_wrong i_farCrossing m_read 610 j_crossings_2 j_inns_3 m_posts m_shut m_here j_steps_4 j_done_5 i_at i_gone m_was m_came m_seenAt m_rowWorth m_farBy m_used i_everywhere i_again0 i_d0 i_never i_firstCame i_longRun i_moved i_crowd i_l0 i_fitMany i_fitLeast i_fitMost m_fitPost m_fitEnd m_keptPosts i_x0], [zAr T 0 m_all 3952 f_all], [zAr T 0 m_posts 7 g_posts_6], [zAr T 0 m_shut 7 g_shut_7], [zAr T 0 m_was 7 f_was]]) (br := [[zAr T 0 m_here 7 g_here_8]]) (As := [.int c_, .int n_]) (rest := []) C G (c_fm_setBy l T mo m_all m_has i_size i_next i_where i_token i_number i_word i_wrong i_farCrossing m_read 610 j_crossings_2 j_inns_3 m_posts m_shut m_here j_steps_4 j_done_5 i_at i_gone m_was m_came m_seenAt m_rowWorth m_farBy m_used i_everywhere i_again0 i_d0 i_never i_firstCame i_longRun i_moved i_crowd i_l0 i_fitMany i_fitLeast i_fitMost m_fitPost m_fitEnd m_keptPosts i_x0 f_all g_posts_6 g_shut_7 f_was c_ n_ (by first | with_reducible assumption | with_reducible rfl | omega | assumption | rfl | decide) (by first | with_reducible assumption | with_reducible rfl | omega | assumption | rfl | decide) (by first | with_reducible assumption | with_reducible rfl | omega | assumption | rfl | decide) (by first | with_reducible assumption | with_reducible rfl | omega | assumption | rfl | decide) hVx hVz (by first | with_reducible assumption | with_reducible rfl | omega | assumption | rfl | decide) hS0) (kV_RX12_238 C.2.2.2.2 (Nat.le_of_ble_eq_true rfl) (Nat.le_of_ble_eq_true rfl)) [5, 1, 2, 3, 0] [0, 0, 0, 0, 1] rfl rfl (ci := 11) (qc := (RX12, TX12, 43)) rfl rfl (List.mem_flatten.mpr ⟨_, List.mem_of_getElem? (i := 0) rfl, List.mem_cons_self⟩) rfl rfl hl.1 dX12_set_37 (Nat.le_of_ble_eq_true rfl) (Nat.le_of_ble_eq_true rfl) (fun r_45 b1 H locs hw G => ?_)
            refine zEx4 hw ?_
            intro j_at_38 j_gone_39 g_posts_40 g_was_41
            refine zCu4 ?_
            intro hbs9 h_42 h_43 h_44
            clear hw
            subst hbs9
            have G : zS T A s.heap s [[zAr T 0 m_here 7 g_here_8], [zO11 mo m_all m_has i_size i_next i_where i_token i_number i_word i_wrong i_farCrossing m_read 610 j_crossings_2 j_inns_3 m_posts m_shut m_here j_steps_4 j_done_5 j_at_38 j_gone_39 m_was m_came m_seenAt m_rowWorth m_farBy m_used i_everywhere i_again0 i_d0 i_never i_firstCame i_longRun i_moved i_crowd i_l0 i_fitMany i_fitLeast i_fitMost m_fitPost m_fitEnd m_keptPosts i_x0], [zAr T 0 m_all 3952 f_all], [zAr T 0 m_posts 7 g_posts_40], [zAr T 0 m_shut 7 g_shut_7], [zAr T 0 m_was 7 g_was_41]] _ _ := G
            have hnw9 : r_45 = (rSetP (zWo f_all 610 j_inns_3) (zLo f_all 610) (zPo f_all 610) j_crossings_2.toInt.toNat c_ n_).1 := h_44
            have hm1 : aPr (zWo f_all 610 j_inns_3) 7 ≤ 16384 := aPr_mx hLx
            have hnw8 := rSb_w (b := r_45) hm1 hnw9
            refine lv_istore (lv' := [(5, .int r_45), (0, .ref mo), (1, .int l_), (2, .int c_), (3, .int n_), (4, .int w_)]) hx hb dX12_set_40 hl (by decide) (zLvf_h rfl) (fun ls hl => ?_)
            refine lv_iload hx hb dX12_set_42 (lv_at hl 0 rfl) ?_
            refine lv_iconst (v := (-1)) hx hb dX12_set_44 (by decide) ?_
            refine lv_icmp_ne (tgt := 50) hx hb dX12_set_45 (by decide) (fun c_46 => ?_) (fun c_46 => ?_)
            · have c_46n : ¬ r_45.toInt = (-1 : Int) := fun q => c_46 ((fa_eq _ _).mpr q)
              obtain ⟨w9, hw91, hw92, hw93, hw94, hw95⟩ := hnw8.resolve_left (by first | with_reducible assumption | assumption)
              refine lv_aload_n hx hb dX12_set_50 rfl (lv_at hl 1 rfl) ?_
              refine lv_iload hx hb dX12_set_51 (lv_at hl 0 rfl) ?_
              refine z_Vv (bc := [[zO11 mo m_all m_has i_size i_next i_where i_token i_number i_word i_wrong i_farCrossing m_read 610 j_crossings_2 j_inns_3 m_posts m_shut m_here j_steps_4 j_done_5 j_at_38 j_gone_39 m_was m_came m_seenAt m_rowWorth m_farBy m_used i_everywhere i_again0 i_d0 i_never i_firstCame i_longRun i_moved i_crowd i_l0 i_fitMany i_fitLeast i_fitMost m_fitPost m_fitEnd m_keptPosts i_x0], [zAr T 0 m_all 3952 f_all], [zAr T 0 m_posts 7 g_posts_40]]) (br := [[zAr T 0 m_here 7 g_here_8], [zAr T 0 m_shut 7 g_shut_7], [zAr T 0 m_was 7 g_was_41]]) (As := [.int r_45]) (rest := []) C G (c_fm_setsWay l T mo m_all m_has i_size i_next i_where i_token i_number i_word i_wrong i_farCrossing m_read 610 j_crossings_2 j_inns_3 m_posts m_shut m_here j_steps_4 j_done_5 j_at_38 j_gone_39 m_was m_came m_seenAt m_rowWorth m_farBy m_used i_everywhere i_again0 i_d0 i_never i_firstCame i_longRun i_moved i_crowd i_l0 i_fitMany i_fitLeast i_fitMost m_fitPost m_fitEnd m_keptPosts i_x0 f_all g_posts_40 r_45 (by first | with_reducible assumption | with_reducible rfl | omega | assumption | rfl | decide) (by first | with_reducible assumption | with_reducible rfl | omega | assumption | rfl | decide) (by first | with_reducible assumption | with_reducible rfl | omega | assumption | rfl | decide) hVz) (kV_RX12_226 C.2.2.2.2 (Nat.le_of_ble_eq_true rfl) (Nat.le_of_ble_eq_true rfl)) [1, 2, 3] [1, 0, 0] rfl rfl (ci := 11) (qc := (RX12, TX12, 43)) rfl rfl (List.mem_flatten.mpr ⟨_, List.mem_of_getElem? (i := 0) rfl, List.mem_cons_self⟩) rfl rfl hl.1 dX12_set_53 (Nat.le_of_ble_eq_true rfl) (Nat.le_of_ble_eq_true rfl) (fun b1 H locs hw G => ?_)
              refine zEx1 hw ?_
              intro g_posts_47
              refine zCu4 ?_
              intro hbs9 h_48 h_49 h_50
              clear hw
              subst hbs9
              have G : zS T A s.heap s [[zAr T 0 m_here 7 g_here_8], [zAr T 0 m_shut 7 g_shut_7], [zAr T 0 m_was 7 g_was_41], [zO11 mo m_all m_has i_size i_next i_where i_token i_number i_word i_wrong i_farCrossing m_read 610 j_crossings_2 j_inns_3 m_posts m_shut m_here j_steps_4 j_done_5 j_at_38 j_gone_39 m_was m_came m_seenAt m_rowWorth m_farBy m_used i_everywhere i_again0 i_d0 i_never i_firstCame i_longRun i_moved i_crowd i_l0 i_fitMany i_fitLeast i_fitMost m_fitPost m_fitEnd m_keptPosts i_x0], [zAr T 0 m_all 3952 f_all], [zAr T 0 m_posts 7 g_posts_47]] _ _ := G
              have hdg := h_50
              rw [hw94] at hdg
              have hTo9 := rTold (n := j_inns_3) hLx.1 hVA hLx.2.2
              refine lv_iload hx hb dX12_set_56 (lv_at hl 5 rfl) ?_
              refine lv_if_eq (tgt := 67) hx hb dX12_set_58 (by decide) (fun c_52 => ?_) (fun c_52 => ?_)
              · have c_52n : w_.toInt = (0 : Int) := (fa_eq _ _).mp c_52
                refine lv_iload hx hb dX12_set_67 (lv_at hl 5 rfl) ?_
                refine lv_if_ne (tgt := 82) hx hb dX12_set_69 (by decide) (fun q => absurd c_52 q) (fun _ => ?_)
                refine lv_aload_n hx hb dX12_set_72 rfl (lv_at hl 1 rfl) ?_
                refine z_Vi (bc := [[zO11 mo m_all m_has i_size i_next i_where i_token i_number i_word i_wrong i_farCrossing m_read 610 j_crossings_2 j_inns_3 m_posts m_shut m_here j_steps_4 j_done_5 j_at_38 j_gone_39 m_was m_came m_seenAt m_rowWorth m_farBy m_used i_everywhere i_again0 i_d0 i_never i_firstCame i_longRun i_moved i_crowd i_l0 i_fitMany i_fitLeast i_fitMost m_fitPost m_fitEnd m_keptPosts i_x0], [zAr T 0 m_all 3952 f_all], [zAr T 0 m_posts 7 g_posts_47]]) (br := [[zAr T 0 m_here 7 g_here_8], [zAr T 0 m_shut 7 g_shut_7], [zAr T 0 m_was 7 g_was_41]]) (As := []) (rest := []) C G (c_fm_unlikeTold l T mo m_all m_has i_size i_next i_where i_token i_number i_word i_wrong i_farCrossing m_read 610 j_crossings_2 j_inns_3 m_posts m_shut m_here j_steps_4 j_done_5 j_at_38 j_gone_39 m_was m_came m_seenAt m_rowWorth m_farBy m_used i_everywhere i_again0 i_d0 i_never i_firstCame i_longRun i_moved i_crowd i_l0 i_fitMany i_fitLeast i_fitMost m_fitPost m_fitEnd m_keptPosts i_x0 f_all g_posts_47 w9 (aRs (zWo f_all 610 j_inns_3) (zPo f_all 610) 7) (by first | with_reducible assumption | with_reducible rfl | omega | assumption | rfl | decide) (by first | with_reducible assumption | with_reducible rfl | omega | assumption | rfl | decide) hdg hTo9.2) (kV_RX12_232 C.2.2.2.2 (Nat.le_of_ble_eq_true rfl) (Nat.le_of_ble_eq_true rfl)) [3, 4, 5] [3, 0, 0] rfl rfl (ci := 11) (qc := (RX12, TX12, 43)) rfl rfl (List.mem_flatten.mpr ⟨_, List.mem_of_getElem? (i := 0) rfl, List.mem_cons_self⟩) rfl rfl hl.1 dX12_set_73 (Nat.le_of_ble_eq_true rfl) (Nat.le_of_ble_eq_true rfl) (fun r_54 b1 H locs hw G => ?_)
                refine zAn2 hw ?_
                intro hbs9 h_53
                clear hw
                subst hbs9
                have G : zS T A s.heap s [[zAr T 0 m_here 7 g_here_8], [zAr T 0 m_shut 7 g_shut_7], [zAr T 0 m_was 7 g_was_41], [zO11 mo m_all m_has i_size i_next i_where i_token i_number i_word i_wrong i_farCrossing m_read 610 j_crossings_2 j_inns_3 m_posts m_shut m_here j_steps_4 j_done_5 j_at_38 j_gone_39 m_was m_came m_seenAt m_rowWorth m_farBy m_used i_everywhere i_again0 i_d0 i_never i_firstCame i_longRun i_moved i_crowd i_l0 i_fitMany i_fitLeast i_fitMost m_fitPost m_fitEnd m_keptPosts i_x0], [zAr T 0 m_all 3952 f_all], [zAr T 0 m_posts 7 g_posts_47]] _ _ := G
                have hmk9 : r_54 = (rSetP (zWo f_all 610 j_inns_3) (zLo f_all 610) (zPo f_all 610) j_crossings_2.toInt.toNat c_ n_).2 := h_53.trans hw95.symm
                refine z_Si (bc := []) (br := [[zAr T 0 m_here 7 g_here_8], [zAr T 0 m_shut 7 g_shut_7], [zAr T 0 m_was 7 g_was_41], [zO11 mo m_all m_has i_size i_next i_where i_token i_number i_word i_wrong i_farCrossing m_read 610 j_crossings_2 j_inns_3 m_posts m_shut m_here j_steps_4 j_done_5 j_at_38 j_gone_39 m_was m_came m_seenAt m_rowWorth m_farBy m_used i_everywhere i_again0 i_d0 i_never i_firstCame i_longRun i_moved i_crowd i_l0 i_fitMany i_fitLeast i_fitMost m_fitPost m_fitEnd m_keptPosts i_x0], [zAr T 0 m_all 3952 f_all], [zAr T 0 m_posts 7 g_posts_47]]) (As := [.int r_54]) (rest := []) C G (c_fm_bitsOf l T r_54) (kS_RX12_235 C.2.2.2.2 (Nat.le_of_ble_eq_true rfl) (Nat.le_of_ble_eq_true rfl)) [] [] rfl rfl rfl rfl hl.1 dX12_set_76 (Nat.le_of_ble_eq_true rfl) (Nat.le_of_ble_eq_true rfl) (fun r_56 b1 H locs hw G => ?_)
                refine zAn2 hw ?_
                intro hbs9 h_55
                clear hw
                subst hbs9
                have G : zS T A s.heap s [[zAr T 0 m_here 7 g_here_8], [zAr T 0 m_shut 7 g_shut_7], [zAr T 0 m_was 7 g_was_41], [zO11 mo m_all m_has i_size i_next i_where i_token i_number i_word i_wrong i_farCrossing m_read 610 j_crossings_2 j_inns_3 m_posts m_shut m_here j_steps_4 j_done_5 j_at_38 j_gone_39 m_was m_came m_seenAt m_rowWorth m_farBy m_used i_everywhere i_again0 i_d0 i_never i_firstCame i_longRun i_moved i_crowd i_l0 i_fitMany i_fitLeast i_fitMost m_fitPost m_fitEnd m_keptPosts i_x0], [zAr T 0 m_all 3952 f_all], [zAr T 0 m_posts 7 g_posts_47]] _ _ := G
                refine lv_goto (tgt := 86) hx hb dX12_set_79 (by decide) ?_
                have G := G.sub (bs' := [[zO11 mo m_all m_has i_size i_next i_where i_token i_number i_word i_wrong i_farCrossing m_read 610 j_crossings_2 j_inns_3 m_posts m_shut m_here j_steps_4 j_done_5 j_at_38 j_gone_39 m_was m_came m_seenAt m_rowWorth m_farBy m_used i_everywhere i_again0 i_d0 i_never i_firstCame i_longRun i_moved i_crowd i_l0 i_fitMany i_fitLeast i_fitMost m_fitPost m_fitEnd m_keptPosts i_x0], [zAr T 0 m_all 3952 f_all], [zAr T 0 m_posts 7 g_posts_47], [zAr T 0 m_shut 7 g_shut_7], [zAr T 0 m_here 7 g_here_8], [zAr T 0 m_was 7 g_was_41]]) [3, 4, 5, 1, 0, 2] rfl
                exact z_back hQz_ (z_iret C hr hlocks G (Nat.le_of_ble_eq_true rfl) (Nat.le_of_ble_eq_true rfl) dX12_set_86 ⟨610, j_crossings_2, j_inns_3, j_steps_4, j_done_5, j_at_38, j_gone_39, g_posts_47, g_shut_7, g_here_8, g_was_41, rfl, (Or.inr (Or.inl ⟨by first | with_reducible assumption | assumption, by omega, (by
                                                                have q6 : rSet (zWo f_all 610 j_inns_3) (zLo f_all 610) (zPo f_all 610) j_crossings_2.toInt.toNat c_ n_ w_ = rSet (pW f_all 610) (zLo f_all 610) (zPo f_all 610) (f_all 610).toInt.toNat c_ n_ w_ := by rw [hWe, hcx]
                                                                unfold pSet; rw [if_pos (by show (0 ≤ c_.toInt ∧ c_.toInt < (f_all 610).toInt) ∧ (0 ≤ n_.toInt ∧ n_.toInt < (f_all 610).toInt) ∧ zBit (f_all (610 + 1)) n_ = 1; exact ⟨⟨by omega, by omega⟩, ⟨by omega, by omega⟩, by rw [← hNi]; assumption⟩)]; refine Eq.trans ?_ q6; exact rSet_e (W := (zWo f_all 610 j_inns_3)) (L := (zLo f_all 610)) (P := (zPo f_all 610)) (c := 0) hnw9 (fun _ => hmk9) (Or.inr ⟨by first | with_reducible assumption | assumption, Or.inl ⟨by first | with_reducible assumption | assumption, h_55⟩⟩))⟩))⟩)
              · have c_52n : ¬ w_.toInt = (0 : Int) := fun q => c_52 ((fa_eq _ _).mpr q)
                refine lv_iload hx hb dX12_set_61 (lv_at hl 5 rfl) ?_
                refine lv_iconst (v := 1) hx hb dX12_set_63 (by decide) ?_
                refine lv_icmp_ne (tgt := 87) hx hb dX12_set_64 (by decide) (fun c_57 => ?_) (fun c_57 => ?_)
                · have c_57n : ¬ w_.toInt = (1 : Int) := fun q => c_57 ((fa_eq _ _).mpr q)
                  refine lv_iload hx hb dX12_set_87 (lv_at hl 5 rfl) ?_
                  refine lv_bipush (v := 10) hx hb dX12_set_89 (by decide) ?_
                  refine lv_isub hx hb dX12_set_91 ?_
                  refine lv_istore (lv' := [(6, .int (w_ - 10)), (5, .int r_45), (0, .ref mo), (1, .int l_), (2, .int c_), (3, .int n_), (4, .int w_)]) hx hb dX12_set_92 hl (by decide) (zLvf_h rfl) (fun ls hl => ?_)
                  refine lv_iload hx hb dX12_set_94 (lv_at hl 6 rfl) ?_
                  refine lv_bipush (v := 10) hx hb dX12_set_96 (by decide) ?_
                  refine lv_bipush (v := 16) hx hb dX12_set_98 (by decide) ?_
                  refine z_Si (bc := []) (br := [[zAr T 0 m_here 7 g_here_8], [zAr T 0 m_shut 7 g_shut_7], [zAr T 0 m_was 7 g_was_41], [zO11 mo m_all m_has i_size i_next i_where i_token i_number i_word i_wrong i_farCrossing m_read 610 j_crossings_2 j_inns_3 m_posts m_shut m_here j_steps_4 j_done_5 j_at_38 j_gone_39 m_was m_came m_seenAt m_rowWorth m_farBy m_used i_everywhere i_again0 i_d0 i_never i_firstCame i_longRun i_moved i_crowd i_l0 i_fitMany i_fitLeast i_fitMost m_fitPost m_fitEnd m_keptPosts i_x0], [zAr T 0 m_all 3952 f_all], [zAr T 0 m_posts 7 g_posts_47]]) (As := [.int w_, .int 10, .int 16]) (rest := []) C G (c_m_isIn l T w_ 10 16) (kS_RX12_111 C.2.2.2.2 (Nat.le_of_ble_eq_true rfl) (Nat.le_of_ble_eq_true rfl)) [] [] rfl rfl rfl rfl hl.1 dX12_set_100 (Nat.le_of_ble_eq_true rfl) (Nat.le_of_ble_eq_true rfl) (fun r_59 b1 H locs hw G => ?_)
                  refine zAn2 hw ?_
                  intro hbs9 hc_58
                  clear hw
                  subst hbs9
                  have G : zS T A s.heap s [[zAr T 0 m_here 7 g_here_8], [zAr T 0 m_shut 7 g_shut_7], [zAr T 0 m_was 7 g_was_41], [zO11 mo m_all m_has i_size i_next i_where i_token i_number i_word i_wrong i_farCrossing m_read 610 j_crossings_2 j_inns_3 m_posts m_shut m_here j_steps_4 j_done_5 j_at_38 j_gone_39 m_was m_came m_seenAt m_rowWorth m_farBy m_used i_everywhere i_again0 i_d0 i_never i_firstCame i_longRun i_moved i_crowd i_l0 i_fitMany i_fitLeast i_fitMost m_fitPost m_fitEnd m_keptPosts i_x0], [zAr T 0 m_all 3952 f_all], [zAr T 0 m_posts 7 g_posts_47]] _ _ := G
                  rcases hc_58 with ⟨rfl, h_60, h_61⟩ | ⟨rfl, h_62⟩
                  · have h_60 : (10 : Int) ≤ w_.toInt := h_60
                    have h_61 : w_.toInt ≤ (16 : Int) := h_61
                    refine lv_if_eq (tgt := 115) hx hb dX12_set_103 (by decide) (fun q => absurd q (by decide)) (fun _ => ?_)
                    refine lv_aload_n hx hb dX12_set_106 rfl (lv_at hl 2 rfl) ?_
                    refine lv_iload hx hb dX12_set_107 (lv_at hl 0 rfl) ?_
                    refine z_Vi (bc := [[zO11 mo m_all m_has i_size i_next i_where i_token i_number i_word i_wrong i_farCrossing m_read 610 j_crossings_2 j_inns_3 m_posts m_shut m_here j_steps_4 j_done_5 j_at_38 j_gone_39 m_was m_came m_seenAt m_rowWorth m_farBy m_used i_everywhere i_again0 i_d0 i_never i_firstCame i_longRun i_moved i_crowd i_l0 i_fitMany i_fitLeast i_fitMost m_fitPost m_fitEnd m_keptPosts i_x0]]) (br := [[zAr T 0 m_here 7 g_here_8], [zAr T 0 m_shut 7 g_shut_7], [zAr T 0 m_was 7 g_was_41], [zAr T 0 m_all 3952 f_all], [zAr T 0 m_posts 7 g_posts_47]]) (As := [.int (w_ - 10)]) (rest := []) C G (c_m_isCrossing l T mo m_all m_has i_size i_next i_where i_token i_number i_word i_wrong i_farCrossing m_read 610 j_crossings_2 j_inns_3 m_posts m_shut m_here j_steps_4 j_done_5 j_at_38 j_gone_39 m_was m_came m_seenAt m_rowWorth m_farBy m_used i_everywhere i_again0 i_d0 i_never i_firstCame i_longRun i_moved i_crowd i_l0 i_fitMany i_fitLeast i_fitMost m_fitPost m_fitEnd m_keptPosts i_x0 (w_ - 10) (by first | with_reducible assumption | with_reducible rfl | omega | assumption | rfl | decide)) (kV_RX12_187 C.2.2.2.2 (Nat.le_of_ble_eq_true rfl) (Nat.le_of_ble_eq_true rfl)) [3] [3] rfl rfl (ci := 11) (qc := (RX12, TX12, 43)) rfl rfl (List.mem_flatten.mpr ⟨_, List.mem_of_getElem? (i := 0) rfl, List.mem_cons_self⟩) rfl rfl hl.1 dX12_set_109 (Nat.le_of_ble_eq_true rfl) (Nat.le_of_ble_eq_true rfl) (fun r_64 b1 H locs hw G => ?_)
                    refine zAn2 hw ?_
                    intro hbs9 hc_63
                    clear hw
                    subst hbs9
                    have G : zS T A s.heap s [[zAr T 0 m_here 7 g_here_8], [zAr T 0 m_shut 7 g_shut_7], [zAr T 0 m_was 7 g_was_41], [zAr T 0 m_all 3952 f_all], [zAr T 0 m_posts 7 g_posts_47], [zO11 mo m_all m_has i_size i_next i_where i_token i_number i_word i_wrong i_farCrossing m_read 610 j_crossings_2 j_inns_3 m_posts m_shut m_here j_steps_4 j_done_5 j_at_38 j_gone_39 m_was m_came m_seenAt m_rowWorth m_farBy m_used i_everywhere i_again0 i_d0 i_never i_firstCame i_longRun i_moved i_crowd i_l0 i_fitMany i_fitLeast i_fitMost m_fitPost m_fitEnd m_keptPosts i_x0]] _ _ := G
                    rcases hc_63 with ⟨rfl, h_65, h_66⟩ | ⟨rfl, h_67⟩
                    · have h_65 : 0 ≤ (w_ - 10).toInt := h_65
                      have h_66 : (w_ - 10).toInt < j_crossings_2.toInt := h_66
                      refine lv_if_ne (tgt := 119) hx hb dX12_set_112 (by decide) (fun _ => ?_) (fun q => absurd q (by decide))
                      refine lv_aload_n hx hb dX12_set_119 rfl (lv_at hl 2 rfl) ?_
                      refine lv_iload hx hb dX12_set_120 (lv_at hl 0 rfl) ?_
                      refine z_Vi (bc := [[zO11 mo m_all m_has i_size i_next i_where i_token i_number i_word i_wrong i_farCrossing m_read 610 j_crossings_2 j_inns_3 m_posts m_shut m_here j_steps_4 j_done_5 j_at_38 j_gone_39 m_was m_came m_seenAt m_rowWorth m_farBy m_used i_everywhere i_again0 i_d0 i_never i_firstCame i_longRun i_moved i_crowd i_l0 i_fitMany i_fitLeast i_fitMost m_fitPost m_fitEnd m_keptPosts i_x0], [zAr T 0 m_all 3952 f_all]]) (br := [[zAr T 0 m_here 7 g_here_8], [zAr T 0 m_shut 7 g_shut_7], [zAr T 0 m_was 7 g_was_41], [zAr T 0 m_posts 7 g_posts_47]]) (As := [.int (w_ - 10)]) (rest := []) C G (c_m_isFree l T mo m_all m_has i_size i_next i_where i_token i_number i_word i_wrong i_farCrossing m_read 610 j_crossings_2 j_inns_3 m_posts m_shut m_here j_steps_4 j_done_5 j_at_38 j_gone_39 m_was m_came m_seenAt m_rowWorth m_farBy m_used i_everywhere i_again0 i_d0 i_never i_firstCame i_longRun i_moved i_crowd i_l0 i_fitMany i_fitLeast i_fitMost m_fitPost m_fitEnd m_keptPosts i_x0 f_all (w_ - 10) (by first | with_reducible assumption | with_reducible rfl | omega | assumption | rfl | decide) (by first | with_reducible assumption | with_reducible rfl | omega | assumption | rfl | decide) (by first | with_reducible assumption | with_reducible rfl | omega | assumption | rfl | decide)) (kV_RX12_223 C.2.2.2.2 (Nat.le_of_ble_eq_true rfl) (Nat.le_of_ble_eq_true rfl)) [5, 3] [3, 1] rfl rfl (ci := 11) (qc := (RX12, TX12, 43)) rfl rfl (List.mem_flatten.mpr ⟨_, List.mem_of_getElem? (i := 0) rfl, List.mem_cons_self⟩) rfl rfl hl.1 dX12_set_122 (Nat.le_of_ble_eq_true rfl) (Nat.le_of_ble_eq_true rfl) (fun r_69 b1 H locs hw G => ?_)
                      refine zAn2 hw ?_
                      intro hbs9 hc_68
                      clear hw
                      subst hbs9
                      have G : zS T A s.heap s [[zAr T 0 m_here 7 g_here_8], [zAr T 0 m_shut 7 g_shut_7], [zAr T 0 m_was 7 g_was_41], [zAr T 0 m_posts 7 g_posts_47], [zO11 mo m_all m_has i_size i_next i_where i_token i_number i_word i_wrong i_farCrossing m_read 610 j_crossings_2 j_inns_3 m_posts m_shut m_here j_steps_4 j_done_5 j_at_38 j_gone_39 m_was m_came m_seenAt m_rowWorth m_farBy m_used i_everywhere i_again0 i_d0 i_never i_firstCame i_longRun i_moved i_crowd i_l0 i_fitMany i_fitLeast i_fitMost m_fitPost m_fitEnd m_keptPosts i_x0], [zAr T 0 m_all 3952 f_all]] _ _ := G
                      rcases hc_68 with ⟨rfl, h_70, h_71⟩ | ⟨rfl, h_72⟩
                      · have h_70 : ¬ zInn j_inns_3 (w_ - 10) := h_70
                        have h_71 : 0 < (zRd f_all 610 (w_ - 10)).toInt := h_71
                        refine lv_if_eq (tgt := 138) hx hb dX12_set_125 (by decide) (fun q => absurd q (by decide)) (fun _ => ?_)
                        refine lv_aload_n hx hb dX12_set_128 rfl (lv_at hl 2 rfl) ?_
                        refine z_get C G clX12 4 rfl 14 (by decide) m_fl_RX12_20 rfl dX12_set_129 ?_
                        refine lv_iload hx hb dX12_set_132 (lv_at hl 0 rfl) ?_
                        refine z_ild C G 3 rfl (vp_in_iff.mpr ⟨by omega, by omega⟩) dX12_set_134 ?_
                        refine lv_topi (fun v_73 ev_73 => ?_)
                        subst ev_73
                        refine lv_goto (tgt := 144) hx hb dX12_set_135 (by decide) ?_
                        have G := G.sub (bs' := [[zO11 mo m_all m_has i_size i_next i_where i_token i_number i_word i_wrong i_farCrossing m_read 610 j_crossings_2 j_inns_3 m_posts m_shut m_here j_steps_4 j_done_5 j_at_38 j_gone_39 m_was m_came m_seenAt m_rowWorth m_farBy m_used i_everywhere i_again0 i_d0 i_never i_firstCame i_longRun i_moved i_crowd i_l0 i_fitMany i_fitLeast i_fitMost m_fitPost m_fitEnd m_keptPosts i_x0], [zAr T 0 m_all 3952 f_all], [zAr T 0 m_posts 7 g_posts_47], [zAr T 0 m_shut 7 g_shut_7], [zAr T 0 m_here 7 g_here_8], [zAr T 0 m_was 7 g_was_41]]) [4, 5, 3, 1, 0, 2] rfl
                        exact z_back hQz_ (z_iret C hr hlocks G (Nat.le_of_ble_eq_true rfl) (Nat.le_of_ble_eq_true rfl) dX12_set_144 ⟨610, j_crossings_2, j_inns_3, j_steps_4, j_done_5, j_at_38, j_gone_39, g_posts_47, g_shut_7, g_here_8, g_was_41, rfl, (Or.inr (Or.inl ⟨by first | with_reducible assumption | assumption, by omega, (by
                                                                have hs10 := zS10 (w := w_)
                                                                have hcn9 : (w_ - 10).toInt = w_.toInt - 10 := by omega
                                                                have hcn8 : (w_ - 10).toInt.toNat = (w_.toInt - 10).toNat := by omega
                                                                have q6 : rSet (zWo f_all 610 j_inns_3) (zLo f_all 610) (zPo f_all 610) j_crossings_2.toInt.toNat c_ n_ w_ = rSet (pW f_all 610) (zLo f_all 610) (zPo f_all 610) (f_all 610).toInt.toNat c_ n_ w_ := by rw [hWe, hcx]
                                                                unfold pSet; rw [if_pos (by show (0 ≤ c_.toInt ∧ c_.toInt < (f_all 610).toInt) ∧ (0 ≤ n_.toInt ∧ n_.toInt < (f_all 610).toInt) ∧ zBit (f_all (610 + 1)) n_ = 1; exact ⟨⟨by omega, by omega⟩, ⟨by omega, by omega⟩, by rw [← hNi]; assumption⟩)]; refine Eq.trans ?_ q6; exact rSet_e (W := (zWo f_all 610 j_inns_3)) (L := (zLo f_all 610)) (P := (zPo f_all 610)) (c := 0) hnw9 (s := (rSetP (zWo f_all 610 j_inns_3) (zLo f_all 610) (zPo f_all 610) j_crossings_2.toInt.toNat c_ n_).2) (fun _ => rfl) (Or.inr ⟨by first | with_reducible assumption | assumption, Or.inr (Or.inr ⟨by first | with_reducible assumption | assumption, by first | with_reducible assumption | assumption, Or.inl ⟨by omega, Or.inl ⟨by have q5 := aWo_1 (f := f_all) (z := 610) (n := j_inns_3) (c := w_ - 10) (by first | with_reducible assumption | assumption) (by first | with_reducible assumption | assumption) (by omega) (by omega); rw [hcn8] at q5; exact q5.2, by rw [hw94]; have q5 := hdg (w_.toInt - 10).toNat (by omega) (by omega); have q4 := z_clI (x := w_ - 10) (by omega); exact Eq.trans (congrArg g_posts_47 (by omega)) q5⟩⟩⟩)⟩))⟩))⟩)
                      · have h_72 : (zInn j_inns_3 (w_ - 10) ∨ (zRd f_all 610 (w_ - 10)).toInt ≤ 0) := h_72
                        refine lv_if_eq (tgt := 138) hx hb dX12_set_125 (by decide) (fun _ => ?_) (fun q => absurd (by decide) q)
                        refine lv_aload_n hx hb dX12_set_138 rfl (lv_at hl 2 rfl) ?_
                        refine lv_iload hx hb dX12_set_139 (lv_at hl 0 rfl) ?_
                        refine z_Vi (bc := [[zO11 mo m_all m_has i_size i_next i_where i_token i_number i_word i_wrong i_farCrossing m_read 610 j_crossings_2 j_inns_3 m_posts m_shut m_here j_steps_4 j_done_5 j_at_38 j_gone_39 m_was m_came m_seenAt m_rowWorth m_farBy m_used i_everywhere i_again0 i_d0 i_never i_firstCame i_longRun i_moved i_crowd i_l0 i_fitMany i_fitLeast i_fitMost m_fitPost m_fitEnd m_keptPosts i_x0], [zAr T 0 m_all 3952 f_all]]) (br := [[zAr T 0 m_here 7 g_here_8], [zAr T 0 m_shut 7 g_shut_7], [zAr T 0 m_was 7 g_was_41], [zAr T 0 m_posts 7 g_posts_47]]) (As := [.int (w_ - 10)]) (rest := []) C G (c_m_postTold l T mo m_all m_has i_size i_next i_where i_token i_number i_word i_wrong i_farCrossing m_read 610 j_crossings_2 j_inns_3 m_posts m_shut m_here j_steps_4 j_done_5 j_at_38 j_gone_39 m_was m_came m_seenAt m_rowWorth m_farBy m_used i_everywhere i_again0 i_d0 i_never i_firstCame i_longRun i_moved i_crowd i_l0 i_fitMany i_fitLeast i_fitMost m_fitPost m_fitEnd m_keptPosts i_x0 f_all (w_ - 10) (by first | with_reducible assumption | with_reducible rfl | omega | assumption | rfl | decide) (by first | with_reducible assumption | with_reducible rfl | omega | assumption | rfl | decide) (by first | with_reducible assumption | with_reducible rfl | omega | assumption | rfl | decide)) (kV_RX12_193 C.2.2.2.2 (Nat.le_of_ble_eq_true rfl) (Nat.le_of_ble_eq_true rfl)) [4, 5] [4, 0] rfl rfl (ci := 11) (qc := (RX12, TX12, 43)) rfl rfl (List.mem_flatten.mpr ⟨_, List.mem_of_getElem? (i := 0) rfl, List.mem_cons_self⟩) rfl rfl hl.1 dX12_set_141 (Nat.le_of_ble_eq_true rfl) (Nat.le_of_ble_eq_true rfl) (fun r_77 b1 H locs hw G => ?_)
                        refine zAn4 hw ?_
                        intro hbs9 h_74 h_75 h_76
                        clear hw
                        subst hbs9
                        have G : zS T A s.heap s [[zAr T 0 m_here 7 g_here_8], [zAr T 0 m_shut 7 g_shut_7], [zAr T 0 m_was 7 g_was_41], [zAr T 0 m_posts 7 g_posts_47], [zO11 mo m_all m_has i_size i_next i_where i_token i_number i_word i_wrong i_farCrossing m_read 610 j_crossings_2 j_inns_3 m_posts m_shut m_here j_steps_4 j_done_5 j_at_38 j_gone_39 m_was m_came m_seenAt m_rowWorth m_farBy m_used i_everywhere i_again0 i_d0 i_never i_firstCame i_longRun i_moved i_crowd i_l0 i_fitMany i_fitLeast i_fitMost m_fitPost m_fitEnd m_keptPosts i_x0], [zAr T 0 m_all 3952 f_all]] _ _ := G
                        subst h_74
                        have G := G.sub (bs' := [[zO11 mo m_all m_has i_size i_next i_where i_token i_number i_word i_wrong i_farCrossing m_read 610 j_crossings_2 j_inns_3 m_posts m_shut m_here j_steps_4 j_done_5 j_at_38 j_gone_39 m_was m_came m_seenAt m_rowWorth m_farBy m_used i_everywhere i_again0 i_d0 i_never i_firstCame i_longRun i_moved i_crowd i_l0 i_fitMany i_fitLeast i_fitMost m_fitPost m_fitEnd m_keptPosts i_x0], [zAr T 0 m_all 3952 f_all], [zAr T 0 m_posts 7 g_posts_47], [zAr T 0 m_shut 7 g_shut_7], [zAr T 0 m_here 7 g_here_8], [zAr T 0 m_was 7 g_was_41]]) [4, 5, 3, 1, 0, 2] rfl
                        exact z_back hQz_ (z_iret C hr hlocks G (Nat.le_of_ble_eq_true rfl) (Nat.le_of_ble_eq_true rfl) dX12_set_144 ⟨610, j_crossings_2, j_inns_3, j_steps_4, j_done_5, j_at_38, j_gone_39, g_posts_47, g_shut_7, g_here_8, g_was_41, rfl, (Or.inr (Or.inl ⟨by first | with_reducible assumption | assumption, by omega, (by
                                                                have hs10 := zS10 (w := w_)
                                                                have hcn9 : (w_ - 10).toInt = w_.toInt - 10 := by omega
                                                                have hcn8 : (w_ - 10).toInt.toNat = (w_.toInt - 10).toNat := by omega
                                                                have q6 : rSet (zWo f_all 610 j_inns_3) (zLo f_all 610) (zPo f_all 610) j_crossings_2.toInt.toNat c_ n_ w_ = rSet (pW f_all 610) (zLo f_all 610) (zPo f_all 610) (f_all 610).toInt.toNat c_ n_ w_ := by rw [hWe, hcx]
                                                                unfold pSet; rw [if_pos (by show (0 ≤ c_.toInt ∧ c_.toInt < (f_all 610).toInt) ∧ (0 ≤ n_.toInt ∧ n_.toInt < (f_all 610).toInt) ∧ zBit (f_all (610 + 1)) n_ = 1; exact ⟨⟨by omega, by omega⟩, ⟨by omega, by omega⟩, by rw [← hNi]; assumption⟩)]; refine Eq.trans ?_ q6; exact rSet_e (W := (zWo f_all 610 j_inns_3)) (L := (zLo f_all 610)) (P := (zPo f_all 610)) (c := 0) hnw9 (s := (rSetP (zWo f_all 610 j_inns_3) (zLo f_all 610) (zPo f_all 610) j_crossings_2.toInt.toNat c_ n_).2) (fun _ => rfl) (Or.inr ⟨by first | with_reducible assumption | assumption, Or.inr (Or.inr ⟨by first | with_reducible assumption | assumption, by first | with_reducible assumption | assumption, Or.inl ⟨by omega, Or.inr ⟨by have q5 := aWo_0 (f := f_all) (z := 610) (n := j_inns_3) (c := w_ - 10) (by first | with_reducible assumption | assumption) (by omega) (by omega); rw [hcn8] at q5; exact q5.1, by exact congrArg f_all (by omega)⟩⟩⟩)⟩))⟩))⟩)
                    · have h_67 : ((w_ - 10).toInt < 0 ∨ j_crossings_2.toInt ≤ (w_ - 10).toInt) := h_67
                      refine lv_if_ne (tgt := 119) hx hb dX12_set_112 (by decide) (fun q => absurd (by decide) q) (fun _ => ?_)
                      refine lv_iconst (v := (-1)) hx hb dX12_set_115 (by decide) ?_
                      refine lv_goto (tgt := 144) hx hb dX12_set_116 (by decide) ?_
                      have G := G.sub (bs' := [[zO11 mo m_all m_has i_size i_next i_where i_token i_number i_word i_wrong i_farCrossing m_read 610 j_crossings_2 j_inns_3 m_posts m_shut m_here j_steps_4 j_done_5 j_at_38 j_gone_39 m_was m_came m_seenAt m_rowWorth m_farBy m_used i_everywhere i_again0 i_d0 i_never i_firstCame i_longRun i_moved i_crowd i_l0 i_fitMany i_fitLeast i_fitMost m_fitPost m_fitEnd m_keptPosts i_x0], [zAr T 0 m_all 3952 f_all], [zAr T 0 m_posts 7 g_posts_47], [zAr T 0 m_shut 7 g_shut_7], [zAr T 0 m_here 7 g_here_8], [zAr T 0 m_was 7 g_was_41]]) [5, 3, 4, 1, 0, 2] rfl
                      exact z_back hQz_ (z_iret C hr hlocks G (Nat.le_of_ble_eq_true rfl) (Nat.le_of_ble_eq_true rfl) dX12_set_144 ⟨610, j_crossings_2, j_inns_3, j_steps_4, j_done_5, j_at_38, j_gone_39, g_posts_47, g_shut_7, g_here_8, g_was_41, rfl, (Or.inr (Or.inl ⟨by first | with_reducible assumption | assumption, by omega, (by
                                                                have hs10 := zS10 (w := w_)
                                                                have q6 : rSet (zWo f_all 610 j_inns_3) (zLo f_all 610) (zPo f_all 610) j_crossings_2.toInt.toNat c_ n_ w_ = rSet (pW f_all 610) (zLo f_all 610) (zPo f_all 610) (f_all 610).toInt.toNat c_ n_ w_ := by rw [hWe, hcx]
                                                                unfold pSet; rw [if_pos (by show (0 ≤ c_.toInt ∧ c_.toInt < (f_all 610).toInt) ∧ (0 ≤ n_.toInt ∧ n_.toInt < (f_all 610).toInt) ∧ zBit (f_all (610 + 1)) n_ = 1; exact ⟨⟨by omega, by omega⟩, ⟨by omega, by omega⟩, by rw [← hNi]; assumption⟩)]; refine Eq.trans ?_ q6; exact rSet_e (W := (zWo f_all 610 j_inns_3)) (L := (zLo f_all 610)) (P := (zPo f_all 610)) (c := 0) hnw9 (s := (rSetP (zWo f_all 610 j_inns_3) (zLo f_all 610) (zPo f_all 610) j_crossings_2.toInt.toNat c_ n_).2) (fun _ => rfl) (Or.inr ⟨by first | with_reducible assumption | assumption, Or.inr (Or.inr ⟨by first | with_reducible assumption | assumption | (intro z9; have q4 := congrArg Int32.toInt z9; have m0 : (0 : Int32).toInt = 0 := rfl; have m1 : (1 : Int32).toInt = 1 := rfl; omega), by first | with_reducible assumption | assumption | (intro z9; have q4 := congrArg Int32.toInt z9; have m0 : (0 : Int32).toInt = 0 := rfl; have m1 : (1 : Int32).toInt = 1 := rfl; omega), Or.inr ⟨by omega, rfl⟩⟩)⟩))⟩))⟩)
                  · have h_62 : (w_.toInt < (10 : Int) ∨ (16 : Int) < w_.toInt) := h_62
                    refine lv_if_eq (tgt := 115) hx hb dX12_set_103 (by decide) (fun _ => ?_) (fun q => absurd (by decide) q)
                    refine lv_iconst (v := (-1)) hx hb dX12_set_115 (by decide) ?_
                    refine lv_goto (tgt := 144) hx hb dX12_set_116 (by decide) ?_
                    have G := G.sub (bs' := [[zO11 mo m_all m_has i_size i_next i_where i_token i_number i_word i_wrong i_farCrossing m_read 610 j_crossings_2 j_inns_3 m_posts m_shut m_here j_steps_4 j_done_5 j_at_38 j_gone_39 m_was m_came m_seenAt m_rowWorth m_farBy m_used i_everywhere i_again0 i_d0 i_never i_firstCame i_longRun i_moved i_crowd i_l0 i_fitMany i_fitLeast i_fitMost m_fitPost m_fitEnd m_keptPosts i_x0], [zAr T 0 m_all 3952 f_all], [zAr T 0 m_posts 7 g_posts_47], [zAr T 0 m_shut 7 g_shut_7], [zAr T 0 m_here 7 g_here_8], [zAr T 0 m_was 7 g_was_41]]) [3, 4, 5, 1, 0, 2] rfl
                    exact z_back hQz_ (z_iret C hr hlocks G (Nat.le_of_ble_eq_true rfl) (Nat.le_of_ble_eq_true rfl) dX12_set_144 ⟨610, j_crossings_2, j_inns_3, j_steps_4, j_done_5, j_at_38, j_gone_39, g_posts_47, g_shut_7, g_here_8, g_was_41, rfl, (Or.inr (Or.inl ⟨by first | with_reducible assumption | assumption, by omega, (by
                                                                have hs10 := zS10 (w := w_)
                                                                have q6 : rSet (zWo f_all 610 j_inns_3) (zLo f_all 610) (zPo f_all 610) j_crossings_2.toInt.toNat c_ n_ w_ = rSet (pW f_all 610) (zLo f_all 610) (zPo f_all 610) (f_all 610).toInt.toNat c_ n_ w_ := by rw [hWe, hcx]
                                                                unfold pSet; rw [if_pos (by show (0 ≤ c_.toInt ∧ c_.toInt < (f_all 610).toInt) ∧ (0 ≤ n_.toInt ∧ n_.toInt < (f_all 610).toInt) ∧ zBit (f_all (610 + 1)) n_ = 1; exact ⟨⟨by omega, by omega⟩, ⟨by omega, by omega⟩, by rw [← hNi]; assumption⟩)]; refine Eq.trans ?_ q6; exact rSet_e (W := (zWo f_all 610 j_inns_3)) (L := (zLo f_all 610)) (P := (zPo f_all 610)) (c := 0) hnw9 (s := (rSetP (zWo f_all 610 j_inns_3) (zLo f_all 610) (zPo f_all 610) j_crossings_2.toInt.toNat c_ n_).2) (fun _ => rfl) (Or.inr ⟨by first | with_reducible assumption | assumption, Or.inr (Or.inr ⟨by first | with_reducible assumption | assumption | (intro z9; have q4 := congrArg Int32.toInt z9; have m0 : (0 : Int32).toInt = 0 := rfl; have m1 : (1 : Int32).toInt = 1 := rfl; omega), by first | with_reducible assumption | assumption | (intro z9; have q4 := congrArg Int32.toInt z9; have m0 : (0 : Int32).toInt = 0 := rfl; have m1 : (1 : Int32).toInt = 1 := rfl; omega), Or.inr ⟨by omega, rfl⟩⟩)⟩))⟩))⟩)
                · have c_57n : w_.toInt = (1 : Int) := (fa_eq _ _).mp c_57
                  refine lv_iload hx hb dX12_set_67 (lv_at hl 5 rfl) ?_
                  refine lv_if_ne (tgt := 82) hx hb dX12_set_69 (by decide) (fun _ => ?_) (fun q => absurd q c_52)
                  refine lv_aload_n hx hb dX12_set_82 rfl (lv_at hl 1 rfl) ?_
                  refine z_Vi (bc := [[zO11 mo m_all m_has i_size i_next i_where i_token i_number i_word i_wrong i_farCrossing m_read 610 j_crossings_2 j_inns_3 m_posts m_shut m_here j_steps_4 j_done_5 j_at_38 j_gone_39 m_was m_came m_seenAt m_rowWorth m_farBy m_used i_everywhere i_again0 i_d0 i_never i_firstCame i_longRun i_moved i_crowd i_l0 i_fitMany i_fitLeast i_fitMost m_fitPost m_fitEnd m_keptPosts i_x0], [zAr T 0 m_all 3952 f_all], [zAr T 0 m_posts 7 g_posts_47]]) (br := [[zAr T 0 m_here 7 g_here_8], [zAr T 0 m_shut 7 g_shut_7], [zAr T 0 m_was 7 g_was_41]]) (As := []) (rest := []) C G (c_fm_unlikeTold l T mo m_all m_has i_size i_next i_where i_token i_number i_word i_wrong i_farCrossing m_read 610 j_crossings_2 j_inns_3 m_posts m_shut m_here j_steps_4 j_done_5 j_at_38 j_gone_39 m_was m_came m_seenAt m_rowWorth m_farBy m_used i_everywhere i_again0 i_d0 i_never i_firstCame i_longRun i_moved i_crowd i_l0 i_fitMany i_fitLeast i_fitMost m_fitPost m_fitEnd m_keptPosts i_x0 f_all g_posts_47 w9 (aRs (zWo f_all 610 j_inns_3) (zPo f_all 610) 7) (by first | with_reducible assumption | with_reducible rfl | omega | assumption | rfl | decide) (by first | with_reducible assumption | with_reducible rfl | omega | assumption | rfl | decide) hdg hTo9.2) (kV_RX12_232 C.2.2.2.2 (Nat.le_of_ble_eq_true rfl) (Nat.le_of_ble_eq_true rfl)) [3, 4, 5] [3, 0, 0] rfl rfl (ci := 11) (qc := (RX12, TX12, 43)) rfl rfl (List.mem_flatten.mpr ⟨_, List.mem_of_getElem? (i := 0) rfl, List.mem_cons_self⟩) rfl rfl hl.1 dX12_set_83 (Nat.le_of_ble_eq_true rfl) (Nat.le_of_ble_eq_true rfl) (fun r_79 b1 H locs hw G => ?_)
                  refine zAn2 hw ?_
                  intro hbs9 h_78
                  clear hw
                  subst hbs9
                  have G : zS T A s.heap s [[zAr T 0 m_here 7 g_here_8], [zAr T 0 m_shut 7 g_shut_7], [zAr T 0 m_was 7 g_was_41], [zO11 mo m_all m_has i_size i_next i_where i_token i_number i_word i_wrong i_farCrossing m_read 610 j_crossings_2 j_inns_3 m_posts m_shut m_here j_steps_4 j_done_5 j_at_38 j_gone_39 m_was m_came m_seenAt m_rowWorth m_farBy m_used i_everywhere i_again0 i_d0 i_never i_firstCame i_longRun i_moved i_crowd i_l0 i_fitMany i_fitLeast i_fitMost m_fitPost m_fitEnd m_keptPosts i_x0], [zAr T 0 m_all 3952 f_all], [zAr T 0 m_posts 7 g_posts_47]] _ _ := G
                  have hmk9 : r_79 = (rSetP (zWo f_all 610 j_inns_3) (zLo f_all 610) (zPo f_all 610) j_crossings_2.toInt.toNat c_ n_).2 := h_78.trans hw95.symm
                  have G := G.sub (bs' := [[zO11 mo m_all m_has i_size i_next i_where i_token i_number i_word i_wrong i_farCrossing m_read 610 j_crossings_2 j_inns_3 m_posts m_shut m_here j_steps_4 j_done_5 j_at_38 j_gone_39 m_was m_came m_seenAt m_rowWorth m_farBy m_used i_everywhere i_again0 i_d0 i_never i_firstCame i_longRun i_moved i_crowd i_l0 i_fitMany i_fitLeast i_fitMost m_fitPost m_fitEnd m_keptPosts i_x0], [zAr T 0 m_all 3952 f_all], [zAr T 0 m_posts 7 g_posts_47], [zAr T 0 m_shut 7 g_shut_7], [zAr T 0 m_here 7 g_here_8], [zAr T 0 m_was 7 g_was_41]]) [3, 4, 5, 1, 0, 2] rfl
                  exact z_back hQz_ (z_iret C hr hlocks G (Nat.le_of_ble_eq_true rfl) (Nat.le_of_ble_eq_true rfl) dX12_set_86 ⟨610, j_crossings_2, j_inns_3, j_steps_4, j_done_5, j_at_38, j_gone_39, g_posts_47, g_shut_7, g_here_8, g_was_41, rfl, (Or.inr (Or.inl ⟨by first | with_reducible assumption | assumption, by omega, (by
                                                                have q6 : rSet (zWo f_all 610 j_inns_3) (zLo f_all 610) (zPo f_all 610) j_crossings_2.toInt.toNat c_ n_ w_ = rSet (pW f_all 610) (zLo f_all 610) (zPo f_all 610) (f_all 610).toInt.toNat c_ n_ w_ := by rw [hWe, hcx]
                                                                unfold pSet; rw [if_pos (by show (0 ≤ c_.toInt ∧ c_.toInt < (f_all 610).toInt) ∧ (0 ≤ n_.toInt ∧ n_.toInt < (f_all 610).toInt) ∧ zBit (f_all (610 + 1)) n_ = 1; exact ⟨⟨by omega, by omega⟩, ⟨by omega, by omega⟩, by rw [← hNi]; assumption⟩)]; refine Eq.trans ?_ q6; exact rSet_e (W := (zWo f_all 610 j_inns_3)) (L := (zLo f_all 610)) (P := (zPo f_all 610)) (c := 0) hnw9 (fun _ => hmk9) (Or.inr ⟨by first | with_reducible assumption | assumption, Or.inr (Or.inl ⟨by first | with_reducible assumption | assumption, by first | with_reducible assumption | assumption, rfl⟩)⟩))⟩))⟩)
            · have c_46n : r_45.toInt = (-1 : Int) := (fa_eq _ _).mp c_46
              refine lv_iconst (v := (-1)) hx hb dX12_set_48 (by decide) ?_
              have G := G.sub (bs' := [[zO11 mo m_all m_has i_size i_next i_where i_token i_number i_word i_wrong i_farCrossing m_read 610 j_crossings_2 j_inns_3 m_posts m_shut m_here j_steps_4 j_done_5 j_at_38 j_gone_39 m_was m_came m_seenAt m_rowWorth m_farBy m_used i_everywhere i_again0 i_d0 i_never i_firstCame i_longRun i_moved i_crowd i_l0 i_fitMany i_fitLeast i_fitMost m_fitPost m_fitEnd m_keptPosts i_x0], [zAr T 0 m_all 3952 f_all], [zAr T 0 m_posts 7 g_posts_40], [zAr T 0 m_shut 7 g_shut_7], [zAr T 0 m_here 7 g_here_8], [zAr T 0 m_was 7 g_was_41]]) [1, 2, 3, 4, 0, 5] rfl
              exact z_back hQz_ (z_iret C hr hlocks G (Nat.le_of_ble_eq_true rfl) (Nat.le_of_ble_eq_true rfl) dX12_set_49 ⟨610, j_crossings_2, j_inns_3, j_steps_4, j_done_5, j_at_38, j_gone_39, g_posts_40, g_shut_7, g_here_8, g_was_41, rfl, (Or.inr (Or.inl ⟨by first | with_reducible assumption | assumption, by omega, (by
                                                                have q6 : rSet (zWo f_all 610 j_inns_3) (zLo f_all 610) (zPo f_all 610) j_crossings_2.toInt.toNat c_ n_ w_ = rSet (pW f_all 610) (zLo f_all 610) (zPo f_all 610) (f_all 610).toInt.toNat c_ n_ w_ := by rw [hWe, hcx]
                                                                unfold pSet; rw [if_pos (by show (0 ≤ c_.toInt ∧ c_.toInt < (f_all 610).toInt) ∧ (0 ≤ n_.toInt ∧ n_.toInt < (f_all 610).toInt) ∧ zBit (f_all (610 + 1)) n_ = 1; exact ⟨⟨by omega, by omega⟩, ⟨by omega, by omega⟩, by rw [← hNi]; assumption⟩)]; refine Eq.trans ?_ q6; exact rSet_e (W := (zWo f_all 610 j_inns_3)) (L := (zLo f_all 610)) (P := (zPo f_all 610)) (c := 0) hnw9 (s := 0) (fun q9 => absurd (by first | with_reducible assumption | assumption) q9) (Or.inl ⟨by first | with_reducible assumption | assumption, rfl⟩))⟩))⟩)
          · have h_37 : ¬ zInn j_inns_3 n_ := h_37
            refine lv_if_ne (tgt := 34) hx hb dX12_set_29 (by decide) (fun q => absurd (by decide) q) (fun _ => ?_)
            refine lv_iconst (v := (-1)) hx hb dX12_set_32 (by decide) ?_
            have G := G.sub (bs' := [[zO11 mo m_all m_has i_size i_next i_where i_token i_number i_word i_wrong i_farCrossing m_read 610 j_crossings_2 j_inns_3 m_posts m_shut m_here j_steps_4 j_done_5 i_at i_gone m_was m_came m_seenAt m_rowWorth m_farBy m_used i_everywhere i_again0 i_d0 i_never i_firstCame i_longRun i_moved i_crowd i_l0 i_fitMany i_fitLeast i_fitMost m_fitPost m_fitEnd m_keptPosts i_x0], [zAr T 0 m_all 3952 f_all], [zAr T 0 m_posts 7 g_posts_6], [zAr T 0 m_shut 7 g_shut_7], [zAr T 0 m_here 7 g_here_8], [zAr T 0 m_was 7 f_was]]) [5, 1, 2, 3, 4, 0] rfl
            exact z_back hQz_ (z_iret C hr hlocks G (Nat.le_of_ble_eq_true rfl) (Nat.le_of_ble_eq_true rfl) dX12_set_33 ⟨610, j_crossings_2, j_inns_3, j_steps_4, j_done_5, i_at, i_gone, g_posts_6, g_shut_7, g_here_8, f_was, rfl, (Or.inr (Or.inl ⟨by first | with_reducible assumption | assumption, by omega, (by unfold pSet; rw [if_neg (fun q8 => by have q8 : (0 ≤ c_.toInt ∧ c_.toInt < (f_all 610).toInt) ∧ (0 ≤ n_.toInt ∧ n_.toInt < (f_all 610).toInt) ∧ zBit (f_all (610 + 1)) n_ = 1 := q8; first | omega | (rw [← hNi] at q8; exact absurd q8.2.2 (by first | with_reducible assumption | assumption)))])⟩))⟩)
        · have h_33 : (n_.toInt < 0 ∨ j_crossings_2.toInt ≤ n_.toInt) := h_33
          refine lv_if_eq (tgt := 32) hx hb dX12_set_21 (by decide) (fun _ => ?_) (fun q => absurd (by decide) q)
          refine lv_iconst (v := (-1)) hx hb dX12_set_32 (by decide) ?_
          have G := G.sub (bs' := [[zO11 mo m_all m_has i_size i_next i_where i_token i_number i_word i_wrong i_farCrossing m_read 610 j_crossings_2 j_inns_3 m_posts m_shut m_here j_steps_4 j_done_5 i_at i_gone m_was m_came m_seenAt m_rowWorth m_farBy m_used i_everywhere i_again0 i_d0 i_never i_firstCame i_longRun i_moved i_crowd i_l0 i_fitMany i_fitLeast i_fitMost m_fitPost m_fitEnd m_keptPosts i_x0], [zAr T 0 m_all 3952 f_all], [zAr T 0 m_posts 7 g_posts_6], [zAr T 0 m_shut 7 g_shut_7], [zAr T 0 m_here 7 g_here_8], [zAr T 0 m_was 7 f_was]]) [5, 1, 2, 3, 4, 0] rfl
          exact z_back hQz_ (z_iret C hr hlocks G (Nat.le_of_ble_eq_true rfl) (Nat.le_of_ble_eq_true rfl) dX12_set_33 ⟨610, j_crossings_2, j_inns_3, j_steps_4, j_done_5, i_at, i_gone, g_posts_6, g_shut_7, g_here_8, f_was, rfl, (Or.inr (Or.inl ⟨by first | with_reducible assumption | assumption, by omega, (by unfold pSet; rw [if_neg (fun q8 => by have q8 : (0 ≤ c_.toInt ∧ c_.toInt < (f_all 610).toInt) ∧ (0 ≤ n_.toInt ∧ n_.toInt < (f_all 610).toInt) ∧ zBit (f_all (610 + 1)) n_ = 1 := q8; first | omega | (rw [← hNi] at q8; exact absurd q8.2.2 (by first | with_reducible assumption | assumption)))])⟩))⟩)
      · have h_28 : (c_.toInt < 0 ∨ j_crossings_2.toInt ≤ c_.toInt) := h_28
        refine lv_if_eq (tgt := 32) hx hb dX12_set_13 (by decide) (fun _ => ?_) (fun q => absurd (by decide) q)
        refine lv_iconst (v := (-1)) hx hb dX12_set_32 (by decide) ?_
        have G := G.sub (bs' := [[zO11 mo m_all m_has i_size i_next i_where i_token i_number i_word i_wrong i_farCrossing m_read 610 j_crossings_2 j_inns_3 m_posts m_shut m_here j_steps_4 j_done_5 i_at i_gone m_was m_came m_seenAt m_rowWorth m_farBy m_used i_everywhere i_again0 i_d0 i_never i_firstCame i_longRun i_moved i_crowd i_l0 i_fitMany i_fitLeast i_fitMost m_fitPost m_fitEnd m_keptPosts i_x0], [zAr T 0 m_all 3952 f_all], [zAr T 0 m_posts 7 g_posts_6], [zAr T 0 m_shut 7 g_shut_7], [zAr T 0 m_here 7 g_here_8], [zAr T 0 m_was 7 f_was]]) [5, 1, 2, 3, 4, 0] rfl
        exact z_back hQz_ (z_iret C hr hlocks G (Nat.le_of_ble_eq_true rfl) (Nat.le_of_ble_eq_true rfl) dX12_set_33 ⟨610, j_crossings_2, j_inns_3, j_steps_4, j_done_5, i_at, i_gone, g_posts_6, g_shut_7, g_here_8, f_was, rfl, (Or.inr (Or.inl ⟨by first | with_reducible assumption | assumption, by omega, (by unfold pSet; rw [if_neg (fun q8 => by have q8 : (0 ≤ c_.toInt ∧ c_.toInt < (f_all 610).toInt) ∧ (0 ≤ n_.toInt ∧ n_.toInt < (f_all 610).toInt) ∧ zBit (f_all (610 + 1)) n_ = 1 := q8; first | omega | (rw [← hNi] at q8; exact absurd q8.2.2 (by first | with_reducible assumption | assumption)))])⟩))⟩)
    · obtain rfl : j_z0_1 = 661 := Int32.toInt_inj.mp (by show j_z0_1.toInt = 661; omega)
      have hcx : j_crossings_2.toInt = (f_all 661).toInt := by rw [hLx.2.1]; rfl
      have hVz : zVZ f_all 661 j_crossings_2 := by rw [hLx.2.1]; exact hVZ1
      have hWe : (zWo f_all 661 j_inns_3) = pW f_all 661 := congrArg (zWo f_all 661) h_17
      have hS0 : ∀ j, j < 7 → g_shut_7 j = 0 := h_21
      have hNz : 1 ≤ aPr (zWo f_all 661 j_inns_3) 7 := aPr_p _
      have hNi : j_inns_3 = f_all (661 + 1) := h_17
      refine lv_aload_n hx hb dX12_set_8 rfl (lv_at hl 0 rfl) ?_
      refine lv_iload_n hx hb dX12_set_9 rfl (lv_at hl 2 rfl) ?_
      refine z_Vi (bc := [[zO11 mo m_all m_has i_size i_next i_where i_token i_number i_word i_wrong i_farCrossing m_read 661 j_crossings_2 j_inns_3 m_posts m_shut m_here j_steps_4 j_done_5 i_at i_gone m_was m_came m_seenAt m_rowWorth m_farBy m_used i_everywhere i_again0 i_d0 i_never i_firstCame i_longRun i_moved i_crowd i_l0 i_fitMany i_fitLeast i_fitMost m_fitPost m_fitEnd m_keptPosts i_x0]]) (br := [[zAr T 0 m_was 7 f_was], [zAr T 0 m_all 3952 f_all], [zAr T 0 m_posts 7 g_posts_6], [zAr T 0 m_shut 7 g_shut_7], [zAr T 0 m_here 7 g_here_8]]) (As := [.int c_]) (rest := []) C G (c_m_isCrossing l T mo m_all m_has i_size i_next i_where i_token i_number i_word i_wrong i_farCrossing m_read 661 j_crossings_2 j_inns_3 m_posts m_shut m_here j_steps_4 j_done_5 i_at i_gone m_was m_came m_seenAt m_rowWorth m_farBy m_used i_everywhere i_again0 i_d0 i_never i_firstCame i_longRun i_moved i_crowd i_l0 i_fitMany i_fitLeast i_fitMost m_fitPost m_fitEnd m_keptPosts i_x0 c_ (by first | with_reducible assumption | with_reducible rfl | omega | assumption | rfl | decide)) (kV_RX12_187 C.2.2.2.2 (Nat.le_of_ble_eq_true rfl) (Nat.le_of_ble_eq_true rfl)) [1] [1] rfl rfl (ci := 11) (qc := (RX12, TX12, 43)) rfl rfl (List.mem_flatten.mpr ⟨_, List.mem_of_getElem? (i := 0) rfl, List.mem_cons_self⟩) rfl rfl hl.1 dX12_set_10 (Nat.le_of_ble_eq_true rfl) (Nat.le_of_ble_eq_true rfl) (fun r_81 b1 H locs hw G => ?_)
      refine zAn2 hw ?_
      intro hbs9 hc_80
      clear hw
      subst hbs9
      have G : zS T A s.heap s [[zAr T 0 m_was 7 f_was], [zAr T 0 m_all 3952 f_all], [zAr T 0 m_posts 7 g_posts_6], [zAr T 0 m_shut 7 g_shut_7], [zAr T 0 m_here 7 g_here_8], [zO11 mo m_all m_has i_size i_next i_where i_token i_number i_word i_wrong i_farCrossing m_read 661 j_crossings_2 j_inns_3 m_posts m_shut m_here j_steps_4 j_done_5 i_at i_gone m_was m_came m_seenAt m_rowWorth m_farBy m_used i_everywhere i_again0 i_d0 i_never i_firstCame i_longRun i_moved i_crowd i_l0 i_fitMany i_fitLeast i_fitMost m_fitPost m_fitEnd m_keptPosts i_x0]] _ _ := G
      rcases hc_80 with ⟨rfl, h_82, h_83⟩ | ⟨rfl, h_84⟩
      · have h_82 : 0 ≤ c_.toInt := h_82
        have h_83 : c_.toInt < j_crossings_2.toInt := h_83
        refine lv_if_eq (tgt := 32) hx hb dX12_set_13 (by decide) (fun q => absurd q (by decide)) (fun _ => ?_)
        refine lv_aload_n hx hb dX12_set_16 rfl (lv_at hl 0 rfl) ?_
        refine lv_iload_n hx hb dX12_set_17 rfl (lv_at hl 3 rfl) ?_
        refine z_Vi (bc := [[zO11 mo m_all m_has i_size i_next i_where i_token i_number i_word i_wrong i_farCrossing m_read 661 j_crossings_2 j_inns_3 m_posts m_shut m_here j_steps_4 j_done_5 i_at i_gone m_was m_came m_seenAt m_rowWorth m_farBy m_used i_everywhere i_again0 i_d0 i_never i_firstCame i_longRun i_moved i_crowd i_l0 i_fitMany i_fitLeast i_fitMost m_fitPost m_fitEnd m_keptPosts i_x0]]) (br := [[zAr T 0 m_was 7 f_was], [zAr T 0 m_all 3952 f_all], [zAr T 0 m_posts 7 g_posts_6], [zAr T 0 m_shut 7 g_shut_7], [zAr T 0 m_here 7 g_here_8]]) (As := [.int n_]) (rest := []) C G (c_m_isCrossing l T mo m_all m_has i_size i_next i_where i_token i_number i_word i_wrong i_farCrossing m_read 661 j_crossings_2 j_inns_3 m_posts m_shut m_here j_steps_4 j_done_5 i_at i_gone m_was m_came m_seenAt m_rowWorth m_farBy m_used i_everywhere i_again0 i_d0 i_never i_firstCame i_longRun i_moved i_crowd i_l0 i_fitMany i_fitLeast i_fitMost m_fitPost m_fitEnd m_keptPosts i_x0 n_ (by first | with_reducible assumption | with_reducible rfl | omega | assumption | rfl | decide)) (kV_RX12_187 C.2.2.2.2 (Nat.le_of_ble_eq_true rfl) (Nat.le_of_ble_eq_true rfl)) [5] [5] rfl rfl (ci := 11) (qc := (RX12, TX12, 43)) rfl rfl (List.mem_flatten.mpr ⟨_, List.mem_of_getElem? (i := 0) rfl, List.mem_cons_self⟩) rfl rfl hl.1 dX12_set_18 (Nat.le_of_ble_eq_true rfl) (Nat.le_of_ble_eq_true rfl) (fun r_86 b1 H locs hw G => ?_)
        refine zAn2 hw ?_
        intro hbs9 hc_85
        clear hw
        subst hbs9
        have G : zS T A s.heap s [[zAr T 0 m_was 7 f_was], [zAr T 0 m_all 3952 f_all], [zAr T 0 m_posts 7 g_posts_6], [zAr T 0 m_shut 7 g_shut_7], [zAr T 0 m_here 7 g_here_8], [zO11 mo m_all m_has i_size i_next i_where i_token i_number i_word i_wrong i_farCrossing m_read 661 j_crossings_2 j_inns_3 m_posts m_shut m_here j_steps_4 j_done_5 i_at i_gone m_was m_came m_seenAt m_rowWorth m_farBy m_used i_everywhere i_again0 i_d0 i_never i_firstCame i_longRun i_moved i_crowd i_l0 i_fitMany i_fitLeast i_fitMost m_fitPost m_fitEnd m_keptPosts i_x0]] _ _ := G
        rcases hc_85 with ⟨rfl, h_87, h_88⟩ | ⟨rfl, h_89⟩
        · have h_87 : 0 ≤ n_.toInt := h_87
          have h_88 : n_.toInt < j_crossings_2.toInt := h_88
          refine lv_if_eq (tgt := 32) hx hb dX12_set_21 (by decide) (fun q => absurd q (by decide)) (fun _ => ?_)
          refine lv_aload_n hx hb dX12_set_24 rfl (lv_at hl 0 rfl) ?_
          refine lv_iload_n hx hb dX12_set_25 rfl (lv_at hl 3 rfl) ?_
          refine z_Vi (bc := [[zO11 mo m_all m_has i_size i_next i_where i_token i_number i_word i_wrong i_farCrossing m_read 661 j_crossings_2 j_inns_3 m_posts m_shut m_here j_steps_4 j_done_5 i_at i_gone m_was m_came m_seenAt m_rowWorth m_farBy m_used i_everywhere i_again0 i_d0 i_never i_firstCame i_longRun i_moved i_crowd i_l0 i_fitMany i_fitLeast i_fitMost m_fitPost m_fitEnd m_keptPosts i_x0]]) (br := [[zAr T 0 m_was 7 f_was], [zAr T 0 m_all 3952 f_all], [zAr T 0 m_posts 7 g_posts_6], [zAr T 0 m_shut 7 g_shut_7], [zAr T 0 m_here 7 g_here_8]]) (As := [.int n_]) (rest := []) C G (c_m_isInn l T mo m_all m_has i_size i_next i_where i_token i_number i_word i_wrong i_farCrossing m_read 661 j_crossings_2 j_inns_3 m_posts m_shut m_here j_steps_4 j_done_5 i_at i_gone m_was m_came m_seenAt m_rowWorth m_farBy m_used i_everywhere i_again0 i_d0 i_never i_firstCame i_longRun i_moved i_crowd i_l0 i_fitMany i_fitLeast i_fitMost m_fitPost m_fitEnd m_keptPosts i_x0 n_) (kV_RX12_178 C.2.2.2.2 (Nat.le_of_ble_eq_true rfl) (Nat.le_of_ble_eq_true rfl)) [5] [5] rfl rfl (ci := 11) (qc := (RX12, TX12, 43)) rfl rfl (List.mem_flatten.mpr ⟨_, List.mem_of_getElem? (i := 0) rfl, List.mem_cons_self⟩) rfl rfl hl.1 dX12_set_26 (Nat.le_of_ble_eq_true rfl) (Nat.le_of_ble_eq_true rfl) (fun r_91 b1 H locs hw G => ?_)
          refine zAn2 hw ?_
          intro hbs9 hc_90
          clear hw
          subst hbs9
          have G : zS T A s.heap s [[zAr T 0 m_was 7 f_was], [zAr T 0 m_all 3952 f_all], [zAr T 0 m_posts 7 g_posts_6], [zAr T 0 m_shut 7 g_shut_7], [zAr T 0 m_here 7 g_here_8], [zO11 mo m_all m_has i_size i_next i_where i_token i_number i_word i_wrong i_farCrossing m_read 661 j_crossings_2 j_inns_3 m_posts m_shut m_here j_steps_4 j_done_5 i_at i_gone m_was m_came m_seenAt m_rowWorth m_farBy m_used i_everywhere i_again0 i_d0 i_never i_firstCame i_longRun i_moved i_crowd i_l0 i_fitMany i_fitLeast i_fitMost m_fitPost m_fitEnd m_keptPosts i_x0]] _ _ := G
          rcases hc_90 with ⟨rfl, h_92⟩ | ⟨rfl, h_93⟩
          · have h_92 : zInn j_inns_3 n_ := h_92
            refine lv_if_ne (tgt := 34) hx hb dX12_set_29 (by decide) (fun _ => ?_) (fun q => absurd q (by decide))
            refine lv_aload_n hx hb dX12_set_34 rfl (lv_at hl 0 rfl) ?_
            refine lv_iload_n hx hb dX12_set_35 rfl (lv_at hl 2 rfl) ?_
            refine lv_iload_n hx hb dX12_set_36 rfl (lv_at hl 3 rfl) ?_
            refine z_Vi (bc := [[zO11 mo m_all m_has i_size i_next i_where i_token i_number i_word i_wrong i_farCrossing m_read 661 j_crossings_2 j_inns_3 m_posts m_shut m_here j_steps_4 j_done_5 i_at i_gone m_was m_came m_seenAt m_rowWorth m_farBy m_used i_everywhere i_again0 i_d0 i_never i_firstCame i_longRun i_moved i_crowd i_l0 i_fitMany i_fitLeast i_fitMost m_fitPost m_fitEnd m_keptPosts i_x0], [zAr T 0 m_all 3952 f_all], [zAr T 0 m_posts 7 g_posts_6], [zAr T 0 m_shut 7 g_shut_7], [zAr T 0 m_was 7 f_was]]) (br := [[zAr T 0 m_here 7 g_here_8]]) (As := [.int c_, .int n_]) (rest := []) C G (c_fm_setBy l T mo m_all m_has i_size i_next i_where i_token i_number i_word i_wrong i_farCrossing m_read 661 j_crossings_2 j_inns_3 m_posts m_shut m_here j_steps_4 j_done_5 i_at i_gone m_was m_came m_seenAt m_rowWorth m_farBy m_used i_everywhere i_again0 i_d0 i_never i_firstCame i_longRun i_moved i_crowd i_l0 i_fitMany i_fitLeast i_fitMost m_fitPost m_fitEnd m_keptPosts i_x0 f_all g_posts_6 g_shut_7 f_was c_ n_ (by first | with_reducible assumption | with_reducible rfl | omega | assumption | rfl | decide) (by first | with_reducible assumption | with_reducible rfl | omega | assumption | rfl | decide) (by first | with_reducible assumption | with_reducible rfl | omega | assumption | rfl | decide) (by first | with_reducible assumption | with_reducible rfl | omega | assumption | rfl | decide) hVx hVz (by first | with_reducible assumption | with_reducible rfl | omega | assumption | rfl | decide) hS0) (kV_RX12_238 C.2.2.2.2 (Nat.le_of_ble_eq_true rfl) (Nat.le_of_ble_eq_true rfl)) [5, 1, 2, 3, 0] [0, 0, 0, 0, 1] rfl rfl (ci := 11) (qc := (RX12, TX12, 43)) rfl rfl (List.mem_flatten.mpr ⟨_, List.mem_of_getElem? (i := 0) rfl, List.mem_cons_self⟩) rfl rfl hl.1 dX12_set_37 (Nat.le_of_ble_eq_true rfl) (Nat.le_of_ble_eq_true rfl) (fun r_101 b1 H locs hw G => ?_)
            refine zEx4 hw ?_
            intro j_at_94 j_gone_95 g_posts_96 g_was_97
            refine zCu4 ?_
            intro hbs9 h_98 h_99 h_100
            clear hw
            subst hbs9
            have G : zS T A s.heap s [[zAr T 0 m_here 7 g_here_8], [zO11 mo m_all m_has i_size i_next i_where i_token i_number i_word i_wrong i_farCrossing m_read 661 j_crossings_2 j_inns_3 m_posts m_shut m_here j_steps_4 j_done_5 j_at_94 j_gone_95 m_was m_came m_seenAt m_rowWorth m_farBy m_used i_everywhere i_again0 i_d0 i_never i_firstCame i_longRun i_moved i_crowd i_l0 i_fitMany i_fitLeast i_fitMost m_fitPost m_fitEnd m_keptPosts i_x0], [zAr T 0 m_all 3952 f_all], [zAr T 0 m_posts 7 g_posts_96], [zAr T 0 m_shut 7 g_shut_7], [zAr T 0 m_was 7 g_was_97]] _ _ := G
            have hnw9 : r_101 = (rSetP (zWo f_all 661 j_inns_3) (zLo f_all 661) (zPo f_all 661) j_crossings_2.toInt.toNat c_ n_).1 := h_100
            have hm1 : aPr (zWo f_all 661 j_inns_3) 7 ≤ 16384 := aPr_mx hLx
            have hnw8 := rSb_w (b := r_101) hm1 hnw9
            refine lv_istore (lv' := [(5, .int r_101), (0, .ref mo), (1, .int l_), (2, .int c_), (3, .int n_), (4, .int w_)]) hx hb dX12_set_40 hl (by decide) (zLvf_h rfl) (fun ls hl => ?_)
            refine lv_iload hx hb dX12_set_42 (lv_at hl 0 rfl) ?_
            refine lv_iconst (v := (-1)) hx hb dX12_set_44 (by decide) ?_
            refine lv_icmp_ne (tgt := 50) hx hb dX12_set_45 (by decide) (fun c_102 => ?_) (fun c_102 => ?_)
            · have c_102n : ¬ r_101.toInt = (-1 : Int) := fun q => c_102 ((fa_eq _ _).mpr q)
              obtain ⟨w9, hw91, hw92, hw93, hw94, hw95⟩ := hnw8.resolve_left (by first | with_reducible assumption | assumption)
              refine lv_aload_n hx hb dX12_set_50 rfl (lv_at hl 1 rfl) ?_
              refine lv_iload hx hb dX12_set_51 (lv_at hl 0 rfl) ?_
              refine z_Vv (bc := [[zO11 mo m_all m_has i_size i_next i_where i_token i_number i_word i_wrong i_farCrossing m_read 661 j_crossings_2 j_inns_3 m_posts m_shut m_here j_steps_4 j_done_5 j_at_94 j_gone_95 m_was m_came m_seenAt m_rowWorth m_farBy m_used i_everywhere i_again0 i_d0 i_never i_firstCame i_longRun i_moved i_crowd i_l0 i_fitMany i_fitLeast i_fitMost m_fitPost m_fitEnd m_keptPosts i_x0], [zAr T 0 m_all 3952 f_all], [zAr T 0 m_posts 7 g_posts_96]]) (br := [[zAr T 0 m_here 7 g_here_8], [zAr T 0 m_shut 7 g_shut_7], [zAr T 0 m_was 7 g_was_97]]) (As := [.int r_101]) (rest := []) C G (c_fm_setsWay l T mo m_all m_has i_size i_next i_where i_token i_number i_word i_wrong i_farCrossing m_read 661 j_crossings_2 j_inns_3 m_posts m_shut m_here j_steps_4 j_done_5 j_at_94 j_gone_95 m_was m_came m_seenAt m_rowWorth m_farBy m_used i_everywhere i_again0 i_d0 i_never i_firstCame i_longRun i_moved i_crowd i_l0 i_fitMany i_fitLeast i_fitMost m_fitPost m_fitEnd m_keptPosts i_x0 f_all g_posts_96 r_101 (by first | with_reducible assumption | with_reducible rfl | omega | assumption | rfl | decide) (by first | with_reducible assumption | with_reducible rfl | omega | assumption | rfl | decide) (by first | with_reducible assumption | with_reducible rfl | omega | assumption | rfl | decide) hVz) (kV_RX12_226 C.2.2.2.2 (Nat.le_of_ble_eq_true rfl) (Nat.le_of_ble_eq_true rfl)) [1, 2, 3] [1, 0, 0] rfl rfl (ci := 11) (qc := (RX12, TX12, 43)) rfl rfl (List.mem_flatten.mpr ⟨_, List.mem_of_getElem? (i := 0) rfl, List.mem_cons_self⟩) rfl rfl hl.1 dX12_set_53 (Nat.le_of_ble_eq_true rfl) (Nat.le_of_ble_eq_true rfl) (fun b1 H locs hw G => ?_)
              refine zEx1 hw ?_
              intro g_posts_103
              refine zCu4 ?_
              intro hbs9 h_104 h_105 h_106
              clear hw
              subst hbs9
              have G : zS T A s.heap s [[zAr T 0 m_here 7 g_here_8], [zAr T 0 m_shut 7 g_shut_7], [zAr T 0 m_was 7 g_was_97], [zO11 mo m_all m_has i_size i_next i_where i_token i_number i_word i_wrong i_farCrossing m_read 661 j_crossings_2 j_inns_3 m_posts m_shut m_here j_steps_4 j_done_5 j_at_94 j_gone_95 m_was m_came m_seenAt m_rowWorth m_farBy m_used i_everywhere i_again0 i_d0 i_never i_firstCame i_longRun i_moved i_crowd i_l0 i_fitMany i_fitLeast i_fitMost m_fitPost m_fitEnd m_keptPosts i_x0], [zAr T 0 m_all 3952 f_all], [zAr T 0 m_posts 7 g_posts_103]] _ _ := G
              have hdg := h_106
              rw [hw94] at hdg
              have hTo9 := rTold (n := j_inns_3) hLx.1 hVA hLx.2.2
              refine lv_iload hx hb dX12_set_56 (lv_at hl 5 rfl) ?_
              refine lv_if_eq (tgt := 67) hx hb dX12_set_58 (by decide) (fun c_108 => ?_) (fun c_108 => ?_)
              · have c_108n : w_.toInt = (0 : Int) := (fa_eq _ _).mp c_108
                refine lv_iload hx hb dX12_set_67 (lv_at hl 5 rfl) ?_
                refine lv_if_ne (tgt := 82) hx hb dX12_set_69 (by decide) (fun q => absurd c_108 q) (fun _ => ?_)
                refine lv_aload_n hx hb dX12_set_72 rfl (lv_at hl 1 rfl) ?_
                refine z_Vi (bc := [[zO11 mo m_all m_has i_size i_next i_where i_token i_number i_word i_wrong i_farCrossing m_read 661 j_crossings_2 j_inns_3 m_posts m_shut m_here j_steps_4 j_done_5 j_at_94 j_gone_95 m_was m_came m_seenAt m_rowWorth m_farBy m_used i_everywhere i_again0 i_d0 i_never i_firstCame i_longRun i_moved i_crowd i_l0 i_fitMany i_fitLeast i_fitMost m_fitPost m_fitEnd m_keptPosts i_x0], [zAr T 0 m_all 3952 f_all], [zAr T 0 m_posts 7 g_posts_103]]) (br := [[zAr T 0 m_here 7 g_here_8], [zAr T 0 m_shut 7 g_shut_7], [zAr T 0 m_was 7 g_was_97]]) (As := []) (rest := []) C G (c_fm_unlikeTold l T mo m_all m_has i_size i_next i_where i_token i_number i_word i_wrong i_farCrossing m_read 661 j_crossings_2 j_inns_3 m_posts m_shut m_here j_steps_4 j_done_5 j_at_94 j_gone_95 m_was m_came m_seenAt m_rowWorth m_farBy m_used i_everywhere i_again0 i_d0 i_never i_firstCame i_longRun i_moved i_crowd i_l0 i_fitMany i_fitLeast i_fitMost m_fitPost m_fitEnd m_keptPosts i_x0 f_all g_posts_103 w9 (aRs (zWo f_all 661 j_inns_3) (zPo f_all 661) 7) (by first | with_reducible assumption | with_reducible rfl | omega | assumption | rfl | decide) (by first | with_reducible assumption | with_reducible rfl | omega | assumption | rfl | decide) hdg hTo9.2) (kV_RX12_232 C.2.2.2.2 (Nat.le_of_ble_eq_true rfl) (Nat.le_of_ble_eq_true rfl)) [3, 4, 5] [3, 0, 0] rfl rfl (ci := 11) (qc := (RX12, TX12, 43)) rfl rfl (List.mem_flatten.mpr ⟨_, List.mem_of_getElem? (i := 0) rfl, List.mem_cons_self⟩) rfl rfl hl.1 dX12_set_73 (Nat.le_of_ble_eq_true rfl) (Nat.le_of_ble_eq_true rfl) (fun r_110 b1 H locs hw G => ?_)
                refine zAn2 hw ?_
                intro hbs9 h_109
                clear hw
                subst hbs9
                have G : zS T A s.heap s [[zAr T 0 m_here 7 g_here_8], [zAr T 0 m_shut 7 g_shut_7], [zAr T 0 m_was 7 g_was_97], [zO11 mo m_all m_has i_size i_next i_where i_token i_number i_word i_wrong i_farCrossing m_read 661 j_crossings_2 j_inns_3 m_posts m_shut m_here j_steps_4 j_done_5 j_at_94 j_gone_95 m_was m_came m_seenAt m_rowWorth m_farBy m_used i_everywhere i_again0 i_d0 i_never i_firstCame i_longRun i_moved i_crowd i_l0 i_fitMany i_fitLeast i_fitMost m_fitPost m_fitEnd m_keptPosts i_x0], [zAr T 0 m_all 3952 f_all], [zAr T 0 m_posts 7 g_posts_103]] _ _ := G
                have hmk9 : r_110 = (rSetP (zWo f_all 661 j_inns_3) (zLo f_all 661) (zPo f_all 661) j_crossings_2.toInt.toNat c_ n_).2 := h_109.trans hw95.symm
                refine z_Si (bc := []) (br := [[zAr T 0 m_here 7 g_here_8], [zAr T 0 m_shut 7 g_shut_7], [zAr T 0 m_was 7 g_was_97], [zO11 mo m_all m_has i_size i_next i_where i_token i_number i_word i_wrong i_farCrossing m_read 661 j_crossings_2 j_inns_3 m_posts m_shut m_here j_steps_4 j_done_5 j_at_94 j_gone_95 m_was m_came m_seenAt m_rowWorth m_farBy m_used i_everywhere i_again0 i_d0 i_never i_firstCame i_longRun i_moved i_crowd i_l0 i_fitMany i_fitLeast i_fitMost m_fitPost m_fitEnd m_keptPosts i_x0], [zAr T 0 m_all 3952 f_all], [zAr T 0 m_posts 7 g_posts_103]]) (As := [.int r_110]) (rest := []) C G (c_fm_bitsOf l T r_110) (kS_RX12_235 C.2.2.2.2 (Nat.le_of_ble_eq_true rfl) (Nat.le_of_ble_eq_true rfl)) [] [] rfl rfl rfl rfl hl.1 dX12_set_76 (Nat.le_of_ble_eq_true rfl) (Nat.le_of_ble_eq_true rfl) (fun r_112 b1 H locs hw G => ?_)
                refine zAn2 hw ?_
                intro hbs9 h_111
                clear hw
                subst hbs9
                have G : zS T A s.heap s [[zAr T 0 m_here 7 g_here_8], [zAr T 0 m_shut 7 g_shut_7], [zAr T 0 m_was 7 g_was_97], [zO11 mo m_all m_has i_size i_next i_where i_token i_number i_word i_wrong i_farCrossing m_read 661 j_crossings_2 j_inns_3 m_posts m_shut m_here j_steps_4 j_done_5 j_at_94 j_gone_95 m_was m_came m_seenAt m_rowWorth m_farBy m_used i_everywhere i_again0 i_d0 i_never i_firstCame i_longRun i_moved i_crowd i_l0 i_fitMany i_fitLeast i_fitMost m_fitPost m_fitEnd m_keptPosts i_x0], [zAr T 0 m_all 3952 f_all], [zAr T 0 m_posts 7 g_posts_103]] _ _ := G
                refine lv_goto (tgt := 86) hx hb dX12_set_79 (by decide) ?_
                have G := G.sub (bs' := [[zO11 mo m_all m_has i_size i_next i_where i_token i_number i_word i_wrong i_farCrossing m_read 661 j_crossings_2 j_inns_3 m_posts m_shut m_here j_steps_4 j_done_5 j_at_94 j_gone_95 m_was m_came m_seenAt m_rowWorth m_farBy m_used i_everywhere i_again0 i_d0 i_never i_firstCame i_longRun i_moved i_crowd i_l0 i_fitMany i_fitLeast i_fitMost m_fitPost m_fitEnd m_keptPosts i_x0], [zAr T 0 m_all 3952 f_all], [zAr T 0 m_posts 7 g_posts_103], [zAr T 0 m_shut 7 g_shut_7], [zAr T 0 m_here 7 g_here_8], [zAr T 0 m_was 7 g_was_97]]) [3, 4, 5, 1, 0, 2] rfl
                exact z_back hQz_ (z_iret C hr hlocks G (Nat.le_of_ble_eq_true rfl) (Nat.le_of_ble_eq_true rfl) dX12_set_86 ⟨661, j_crossings_2, j_inns_3, j_steps_4, j_done_5, j_at_94, j_gone_95, g_posts_103, g_shut_7, g_here_8, g_was_97, rfl, (Or.inr (Or.inr ⟨by first | with_reducible assumption | assumption, by omega, (by
                                                                have q6 : rSet (zWo f_all 661 j_inns_3) (zLo f_all 661) (zPo f_all 661) j_crossings_2.toInt.toNat c_ n_ w_ = rSet (pW f_all 661) (zLo f_all 661) (zPo f_all 661) (f_all 661).toInt.toNat c_ n_ w_ := by rw [hWe, hcx]
                                                                unfold pSet; rw [if_pos (by show (0 ≤ c_.toInt ∧ c_.toInt < (f_all 661).toInt) ∧ (0 ≤ n_.toInt ∧ n_.toInt < (f_all 661).toInt) ∧ zBit (f_all (661 + 1)) n_ = 1; exact ⟨⟨by omega, by omega⟩, ⟨by omega, by omega⟩, by rw [← hNi]; assumption⟩)]; refine Eq.trans ?_ q6; exact rSet_e (W := (zWo f_all 661 j_inns_3)) (L := (zLo f_all 661)) (P := (zPo f_all 661)) (c := 0) hnw9 (fun _ => hmk9) (Or.inr ⟨by first | with_reducible assumption | assumption, Or.inl ⟨by first | with_reducible assumption | assumption, h_111⟩⟩))⟩))⟩)
              · have c_108n : ¬ w_.toInt = (0 : Int) := fun q => c_108 ((fa_eq _ _).mpr q)
                refine lv_iload hx hb dX12_set_61 (lv_at hl 5 rfl) ?_
                refine lv_iconst (v := 1) hx hb dX12_set_63 (by decide) ?_
                refine lv_icmp_ne (tgt := 87) hx hb dX12_set_64 (by decide) (fun c_113 => ?_) (fun c_113 => ?_)
                · have c_113n : ¬ w_.toInt = (1 : Int) := fun q => c_113 ((fa_eq _ _).mpr q)
                  refine lv_iload hx hb dX12_set_87 (lv_at hl 5 rfl) ?_
                  refine lv_bipush (v := 10) hx hb dX12_set_89 (by decide) ?_
                  refine lv_isub hx hb dX12_set_91 ?_
                  refine lv_istore (lv' := [(6, .int (w_ - 10)), (5, .int r_101), (0, .ref mo), (1, .int l_), (2, .int c_), (3, .int n_), (4, .int w_)]) hx hb dX12_set_92 hl (by decide) (zLvf_h rfl) (fun ls hl => ?_)
                  refine lv_iload hx hb dX12_set_94 (lv_at hl 6 rfl) ?_
                  refine lv_bipush (v := 10) hx hb dX12_set_96 (by decide) ?_
                  refine lv_bipush (v := 16) hx hb dX12_set_98 (by decide) ?_
                  refine z_Si (bc := []) (br := [[zAr T 0 m_here 7 g_here_8], [zAr T 0 m_shut 7 g_shut_7], [zAr T 0 m_was 7 g_was_97], [zO11 mo m_all m_has i_size i_next i_where i_token i_number i_word i_wrong i_farCrossing m_read 661 j_crossings_2 j_inns_3 m_posts m_shut m_here j_steps_4 j_done_5 j_at_94 j_gone_95 m_was m_came m_seenAt m_rowWorth m_farBy m_used i_everywhere i_again0 i_d0 i_never i_firstCame i_longRun i_moved i_crowd i_l0 i_fitMany i_fitLeast i_fitMost m_fitPost m_fitEnd m_keptPosts i_x0], [zAr T 0 m_all 3952 f_all], [zAr T 0 m_posts 7 g_posts_103]]) (As := [.int w_, .int 10, .int 16]) (rest := []) C G (c_m_isIn l T w_ 10 16) (kS_RX12_111 C.2.2.2.2 (Nat.le_of_ble_eq_true rfl) (Nat.le_of_ble_eq_true rfl)) [] [] rfl rfl rfl rfl hl.1 dX12_set_100 (Nat.le_of_ble_eq_true rfl) (Nat.le_of_ble_eq_true rfl) (fun r_115 b1 H locs hw G => ?_)
                  refine zAn2 hw ?_
                  intro hbs9 hc_114
                  clear hw
                  subst hbs9
                  have G : zS T A s.heap s [[zAr T 0 m_here 7 g_here_8], [zAr T 0 m_shut 7 g_shut_7], [zAr T 0 m_was 7 g_was_97], [zO11 mo m_all m_has i_size i_next i_where i_token i_number i_word i_wrong i_farCrossing m_read 661 j_crossings_2 j_inns_3 m_posts m_shut m_here j_steps_4 j_done_5 j_at_94 j_gone_95 m_was m_came m_seenAt m_rowWorth m_farBy m_used i_everywhere i_again0 i_d0 i_never i_firstCame i_longRun i_moved i_crowd i_l0 i_fitMany i_fitLeast i_fitMost m_fitPost m_fitEnd m_keptPosts i_x0], [zAr T 0 m_all 3952 f_all], [zAr T 0 m_posts 7 g_posts_103]] _ _ := G
                  rcases hc_114 with ⟨rfl, h_116, h_117⟩ | ⟨rfl, h_118⟩
                  · have h_116 : (10 : Int) ≤ w_.toInt := h_116
                    have h_117 : w_.toInt ≤ (16 : Int) := h_117
                    refine lv_if_eq (tgt := 115) hx hb dX12_set_103 (by decide) (fun q => absurd q (by decide)) (fun _ => ?_)
                    refine lv_aload_n hx hb dX12_set_106 rfl (lv_at hl 2 rfl) ?_
                    refine lv_iload hx hb dX12_set_107 (lv_at hl 0 rfl) ?_
                    refine z_Vi (bc := [[zO11 mo m_all m_has i_size i_next i_where i_token i_number i_word i_wrong i_farCrossing m_read 661 j_crossings_2 j_inns_3 m_posts m_shut m_here j_steps_4 j_done_5 j_at_94 j_gone_95 m_was m_came m_seenAt m_rowWorth m_farBy m_used i_everywhere i_again0 i_d0 i_never i_firstCame i_longRun i_moved i_crowd i_l0 i_fitMany i_fitLeast i_fitMost m_fitPost m_fitEnd m_keptPosts i_x0]]) (br := [[zAr T 0 m_here 7 g_here_8], [zAr T 0 m_shut 7 g_shut_7], [zAr T 0 m_was 7 g_was_97], [zAr T 0 m_all 3952 f_all], [zAr T 0 m_posts 7 g_posts_103]]) (As := [.int (w_ - 10)]) (rest := []) C G (c_m_isCrossing l T mo m_all m_has i_size i_next i_where i_token i_number i_word i_wrong i_farCrossing m_read 661 j_crossings_2 j_inns_3 m_posts m_shut m_here j_steps_4 j_done_5 j_at_94 j_gone_95 m_was m_came m_seenAt m_rowWorth m_farBy m_used i_everywhere i_again0 i_d0 i_never i_firstCame i_longRun i_moved i_crowd i_l0 i_fitMany i_fitLeast i_fitMost m_fitPost m_fitEnd m_keptPosts i_x0 (w_ - 10) (by first | with_reducible assumption | with_reducible rfl | omega | assumption | rfl | decide)) (kV_RX12_187 C.2.2.2.2 (Nat.le_of_ble_eq_true rfl) (Nat.le_of_ble_eq_true rfl)) [3] [3] rfl rfl (ci := 11) (qc := (RX12, TX12, 43)) rfl rfl (List.mem_flatten.mpr ⟨_, List.mem_of_getElem? (i := 0) rfl, List.mem_cons_self⟩) rfl rfl hl.1 dX12_set_109 (Nat.le_of_ble_eq_true rfl) (Nat.le_of_ble_eq_true rfl) (fun r_120 b1 H locs hw G => ?_)
                    refine zAn2 hw ?_
                    intro hbs9 hc_119
                    clear hw
                    subst hbs9
                    have G : zS T A s.heap s [[zAr T 0 m_here 7 g_here_8], [zAr T 0 m_shut 7 g_shut_7], [zAr T 0 m_was 7 g_was_97], [zAr T 0 m_all 3952 f_all], [zAr T 0 m_posts 7 g_posts_103], [zO11 mo m_all m_has i_size i_next i_where i_token i_number i_word i_wrong i_farCrossing m_read 661 j_crossings_2 j_inns_3 m_posts m_shut m_here j_steps_4 j_done_5 j_at_94 j_gone_95 m_was m_came m_seenAt m_rowWorth m_farBy m_used i_everywhere i_again0 i_d0 i_never i_firstCame i_longRun i_moved i_crowd i_l0 i_fitMany i_fitLeast i_fitMost m_fitPost m_fitEnd m_keptPosts i_x0]] _ _ := G
                    rcases hc_119 with ⟨rfl, h_121, h_122⟩ | ⟨rfl, h_123⟩
                    · have h_121 : 0 ≤ (w_ - 10).toInt := h_121
                      have h_122 : (w_ - 10).toInt < j_crossings_2.toInt := h_122
                      refine lv_if_ne (tgt := 119) hx hb dX12_set_112 (by decide) (fun _ => ?_) (fun q => absurd q (by decide))
                      refine lv_aload_n hx hb dX12_set_119 rfl (lv_at hl 2 rfl) ?_
                      refine lv_iload hx hb dX12_set_120 (lv_at hl 0 rfl) ?_
                      refine z_Vi (bc := [[zO11 mo m_all m_has i_size i_next i_where i_token i_number i_word i_wrong i_farCrossing m_read 661 j_crossings_2 j_inns_3 m_posts m_shut m_here j_steps_4 j_done_5 j_at_94 j_gone_95 m_was m_came m_seenAt m_rowWorth m_farBy m_used i_everywhere i_again0 i_d0 i_never i_firstCame i_longRun i_moved i_crowd i_l0 i_fitMany i_fitLeast i_fitMost m_fitPost m_fitEnd m_keptPosts i_x0], [zAr T 0 m_all 3952 f_all]]) (br := [[zAr T 0 m_here 7 g_here_8], [zAr T 0 m_shut 7 g_shut_7], [zAr T 0 m_was 7 g_was_97], [zAr T 0 m_posts 7 g_posts_103]]) (As := [.int (w_ - 10)]) (rest := []) C G (c_m_isFree l T mo m_all m_has i_size i_next i_where i_token i_number i_word i_wrong i_farCrossing m_read 661 j_crossings_2 j_inns_3 m_posts m_shut m_here j_steps_4 j_done_5 j_at_94 j_gone_95 m_was m_came m_seenAt m_rowWorth m_farBy m_used i_everywhere i_again0 i_d0 i_never i_firstCame i_longRun i_moved i_crowd i_l0 i_fitMany i_fitLeast i_fitMost m_fitPost m_fitEnd m_keptPosts i_x0 f_all (w_ - 10) (by first | with_reducible assumption | with_reducible rfl | omega | assumption | rfl | decide) (by first | with_reducible assumption | with_reducible rfl | omega | assumption | rfl | decide) (by first | with_reducible assumption | with_reducible rfl | omega | assumption | rfl | decide)) (kV_RX12_223 C.2.2.2.2 (Nat.le_of_ble_eq_true rfl) (Nat.le_of_ble_eq_true rfl)) [5, 3] [3, 1] rfl rfl (ci := 11) (qc := (RX12, TX12, 43)) rfl rfl (List.mem_flatten.mpr ⟨_, List.mem_of_getElem? (i := 0) rfl, List.mem_cons_self⟩) rfl rfl hl.1 dX12_set_122 (Nat.le_of_ble_eq_true rfl) (Nat.le_of_ble_eq_true rfl) (fun r_125 b1 H locs hw G => ?_)
                      refine zAn2 hw ?_
                      intro hbs9 hc_124
                      clear hw
                      subst hbs9
                      have G : zS T A s.heap s [[zAr T 0 m_here 7 g_here_8], [zAr T 0 m_shut 7 g_shut_7], [zAr T 0 m_was 7 g_was_97], [zAr T 0 m_posts 7 g_posts_103], [zO11 mo m_all m_has i_size i_next i_where i_token i_number i_word i_wrong i_farCrossing m_read 661 j_crossings_2 j_inns_3 m_posts m_shut m_here j_steps_4 j_done_5 j_at_94 j_gone_95 m_was m_came m_seenAt m_rowWorth m_farBy m_used i_everywhere i_again0 i_d0 i_never i_firstCame i_longRun i_moved i_crowd i_l0 i_fitMany i_fitLeast i_fitMost m_fitPost m_fitEnd m_keptPosts i_x0], [zAr T 0 m_all 3952 f_all]] _ _ := G
                      rcases hc_124 with ⟨rfl, h_126, h_127⟩ | ⟨rfl, h_128⟩
                      · have h_126 : ¬ zInn j_inns_3 (w_ - 10) := h_126
                        have h_127 : 0 < (zRd f_all 661 (w_ - 10)).toInt := h_127
                        refine lv_if_eq (tgt := 138) hx hb dX12_set_125 (by decide) (fun q => absurd q (by decide)) (fun _ => ?_)
                        refine lv_aload_n hx hb dX12_set_128 rfl (lv_at hl 2 rfl) ?_
                        refine z_get C G clX12 4 rfl 14 (by decide) m_fl_RX12_20 rfl dX12_set_129 ?_
                        refine lv_iload hx hb dX12_set_132 (lv_at hl 0 rfl) ?_
                        refine z_ild C G 3 rfl (vp_in_iff.mpr ⟨by omega, by omega⟩) dX12_set_134 ?_
                        refine lv_topi (fun v_129 ev_129 => ?_)
                        subst ev_129
                        refine lv_goto (tgt := 144) hx hb dX12_set_135 (by decide) ?_
                        have G := G.sub (bs' := [[zO11 mo m_all m_has i_size i_next i_where i_token i_number i_word i_wrong i_farCrossing m_read 661 j_crossings_2 j_inns_3 m_posts m_shut m_here j_steps_4 j_done_5 j_at_94 j_gone_95 m_was m_came m_seenAt m_rowWorth m_farBy m_used i_everywhere i_again0 i_d0 i_never i_firstCame i_longRun i_moved i_crowd i_l0 i_fitMany i_fitLeast i_fitMost m_fitPost m_fitEnd m_keptPosts i_x0], [zAr T 0 m_all 3952 f_all], [zAr T 0 m_posts 7 g_posts_103], [zAr T 0 m_shut 7 g_shut_7], [zAr T 0 m_here 7 g_here_8], [zAr T 0 m_was 7 g_was_97]]) [4, 5, 3, 1, 0, 2] rfl
                        exact z_back hQz_ (z_iret C hr hlocks G (Nat.le_of_ble_eq_true rfl) (Nat.le_of_ble_eq_true rfl) dX12_set_144 ⟨661, j_crossings_2, j_inns_3, j_steps_4, j_done_5, j_at_94, j_gone_95, g_posts_103, g_shut_7, g_here_8, g_was_97, rfl, (Or.inr (Or.inr ⟨by first | with_reducible assumption | assumption, by omega, (by
                                                                have hs10 := zS10 (w := w_)
                                                                have hcn9 : (w_ - 10).toInt = w_.toInt - 10 := by omega
                                                                have hcn8 : (w_ - 10).toInt.toNat = (w_.toInt - 10).toNat := by omega
                                                                have q6 : rSet (zWo f_all 661 j_inns_3) (zLo f_all 661) (zPo f_all 661) j_crossings_2.toInt.toNat c_ n_ w_ = rSet (pW f_all 661) (zLo f_all 661) (zPo f_all 661) (f_all 661).toInt.toNat c_ n_ w_ := by rw [hWe, hcx]
                                                                unfold pSet; rw [if_pos (by show (0 ≤ c_.toInt ∧ c_.toInt < (f_all 661).toInt) ∧ (0 ≤ n_.toInt ∧ n_.toInt < (f_all 661).toInt) ∧ zBit (f_all (661 + 1)) n_ = 1; exact ⟨⟨by omega, by omega⟩, ⟨by omega, by omega⟩, by rw [← hNi]; assumption⟩)]; refine Eq.trans ?_ q6; exact rSet_e (W := (zWo f_all 661 j_inns_3)) (L := (zLo f_all 661)) (P := (zPo f_all 661)) (c := 0) hnw9 (s := (rSetP (zWo f_all 661 j_inns_3) (zLo f_all 661) (zPo f_all 661) j_crossings_2.toInt.toNat c_ n_).2) (fun _ => rfl) (Or.inr ⟨by first | with_reducible assumption | assumption, Or.inr (Or.inr ⟨by first | with_reducible assumption | assumption, by first | with_reducible assumption | assumption, Or.inl ⟨by omega, Or.inl ⟨by have q5 := aWo_1 (f := f_all) (z := 661) (n := j_inns_3) (c := w_ - 10) (by first | with_reducible assumption | assumption) (by first | with_reducible assumption | assumption) (by omega) (by omega); rw [hcn8] at q5; exact q5.2, by rw [hw94]; have q5 := hdg (w_.toInt - 10).toNat (by omega) (by omega); have q4 := z_clI (x := w_ - 10) (by omega); exact Eq.trans (congrArg g_posts_103 (by omega)) q5⟩⟩⟩)⟩))⟩))⟩)
                      · have h_128 : (zInn j_inns_3 (w_ - 10) ∨ (zRd f_all 661 (w_ - 10)).toInt ≤ 0) := h_128
                        refine lv_if_eq (tgt := 138) hx hb dX12_set_125 (by decide) (fun _ => ?_) (fun q => absurd (by decide) q)
                        refine lv_aload_n hx hb dX12_set_138 rfl (lv_at hl 2 rfl) ?_
                        refine lv_iload hx hb dX12_set_139 (lv_at hl 0 rfl) ?_
                        refine z_Vi (bc := [[zO11 mo m_all m_has i_size i_next i_where i_token i_number i_word i_wrong i_farCrossing m_read 661 j_crossings_2 j_inns_3 m_posts m_shut m_here j_steps_4 j_done_5 j_at_94 j_gone_95 m_was m_came m_seenAt m_rowWorth m_farBy m_used i_everywhere i_again0 i_d0 i_never i_firstCame i_longRun i_moved i_crowd i_l0 i_fitMany i_fitLeast i_fitMost m_fitPost m_fitEnd m_keptPosts i_x0], [zAr T 0 m_all 3952 f_all]]) (br := [[zAr T 0 m_here 7 g_here_8], [zAr T 0 m_shut 7 g_shut_7], [zAr T 0 m_was 7 g_was_97], [zAr T 0 m_posts 7 g_posts_103]]) (As := [.int (w_ - 10)]) (rest := []) C G (c_m_postTold l T mo m_all m_has i_size i_next i_where i_token i_number i_word i_wrong i_farCrossing m_read 661 j_crossings_2 j_inns_3 m_posts m_shut m_here j_steps_4 j_done_5 j_at_94 j_gone_95 m_was m_came m_seenAt m_rowWorth m_farBy m_used i_everywhere i_again0 i_d0 i_never i_firstCame i_longRun i_moved i_crowd i_l0 i_fitMany i_fitLeast i_fitMost m_fitPost m_fitEnd m_keptPosts i_x0 f_all (w_ - 10) (by first | with_reducible assumption | with_reducible rfl | omega | assumption | rfl | decide) (by first | with_reducible assumption | with_reducible rfl | omega | assumption | rfl | decide) (by first | with_reducible assumption | with_reducible rfl | omega | assumption | rfl | decide)) (kV_RX12_193 C.2.2.2.2 (Nat.le_of_ble_eq_true rfl) (Nat.le_of_ble_eq_true rfl)) [4, 5] [4, 0] rfl rfl (ci := 11) (qc := (RX12, TX12, 43)) rfl rfl (List.mem_flatten.mpr ⟨_, List.mem_of_getElem? (i := 0) rfl, List.mem_cons_self⟩) rfl rfl hl.1 dX12_set_141 (Nat.le_of_ble_eq_true rfl) (Nat.le_of_ble_eq_true rfl) (fun r_133 b1 H locs hw G => ?_)
                        refine zAn4 hw ?_
                        intro hbs9 h_130 h_131 h_132
                        clear hw
                        subst hbs9
                        have G : zS T A s.heap s [[zAr T 0 m_here 7 g_here_8], [zAr T 0 m_shut 7 g_shut_7], [zAr T 0 m_was 7 g_was_97], [zAr T 0 m_posts 7 g_posts_103], [zO11 mo m_all m_has i_size i_next i_where i_token i_number i_word i_wrong i_farCrossing m_read 661 j_crossings_2 j_inns_3 m_posts m_shut m_here j_steps_4 j_done_5 j_at_94 j_gone_95 m_was m_came m_seenAt m_rowWorth m_farBy m_used i_everywhere i_again0 i_d0 i_never i_firstCame i_longRun i_moved i_crowd i_l0 i_fitMany i_fitLeast i_fitMost m_fitPost m_fitEnd m_keptPosts i_x0], [zAr T 0 m_all 3952 f_all]] _ _ := G
                        subst h_130
                        have G := G.sub (bs' := [[zO11 mo m_all m_has i_size i_next i_where i_token i_number i_word i_wrong i_farCrossing m_read 661 j_crossings_2 j_inns_3 m_posts m_shut m_here j_steps_4 j_done_5 j_at_94 j_gone_95 m_was m_came m_seenAt m_rowWorth m_farBy m_used i_everywhere i_again0 i_d0 i_never i_firstCame i_longRun i_moved i_crowd i_l0 i_fitMany i_fitLeast i_fitMost m_fitPost m_fitEnd m_keptPosts i_x0], [zAr T 0 m_all 3952 f_all], [zAr T 0 m_posts 7 g_posts_103], [zAr T 0 m_shut 7 g_shut_7], [zAr T 0 m_here 7 g_here_8], [zAr T 0 m_was 7 g_was_97]]) [4, 5, 3, 1, 0, 2] rfl
                        exact z_back hQz_ (z_iret C hr hlocks G (Nat.le_of_ble_eq_true rfl) (Nat.le_of_ble_eq_true rfl) dX12_set_144 ⟨661, j_crossings_2, j_inns_3, j_steps_4, j_done_5, j_at_94, j_gone_95, g_posts_103, g_shut_7, g_here_8, g_was_97, rfl, (Or.inr (Or.inr ⟨by first | with_reducible assumption | assumption, by omega, (by
                                                                have hs10 := zS10 (w := w_)
                                                                have hcn9 : (w_ - 10).toInt = w_.toInt - 10 := by omega
                                                                have hcn8 : (w_ - 10).toInt.toNat = (w_.toInt - 10).toNat := by omega
                                                                have q6 : rSet (zWo f_all 661 j_inns_3) (zLo f_all 661) (zPo f_all 661) j_crossings_2.toInt.toNat c_ n_ w_ = rSet (pW f_all 661) (zLo f_all 661) (zPo f_all 661) (f_all 661).toInt.toNat c_ n_ w_ := by rw [hWe, hcx]
                                                                unfold pSet; rw [if_pos (by show (0 ≤ c_.toInt ∧ c_.toInt < (f_all 661).toInt) ∧ (0 ≤ n_.toInt ∧ n_.toInt < (f_all 661).toInt) ∧ zBit (f_all (661 + 1)) n_ = 1; exact ⟨⟨by omega, by omega⟩, ⟨by omega, by omega⟩, by rw [← hNi]; assumption⟩)]; refine Eq.trans ?_ q6; exact rSet_e (W := (zWo f_all 661 j_inns_3)) (L := (zLo f_all 661)) (P := (zPo f_all 661)) (c := 0) hnw9 (s := (rSetP (zWo f_all 661 j_inns_3) (zLo f_all 661) (zPo f_all 661) j_crossings_2.toInt.toNat c_ n_).2) (fun _ => rfl) (Or.inr ⟨by first | with_reducible assumption | assumption, Or.inr (Or.inr ⟨by first | with_reducible assumption | assumption, by first | with_reducible assumption | assumption, Or.inl ⟨by omega, Or.inr ⟨by have q5 := aWo_0 (f := f_all) (z := 661) (n := j_inns_3) (c := w_ - 10) (by first | with_reducible assumption | assumption) (by omega) (by omega); rw [hcn8] at q5; exact q5.1, by exact congrArg f_all (by omega)⟩⟩⟩)⟩))⟩))⟩)
                    · have h_123 : ((w_ - 10).toInt < 0 ∨ j_crossings_2.toInt ≤ (w_ - 10).toInt) := h_123
                      refine lv_if_ne (tgt := 119) hx hb dX12_set_112 (by decide) (fun q => absurd (by decide) q) (fun _ => ?_)
                      refine lv_iconst (v := (-1)) hx hb dX12_set_115 (by decide) ?_
                      refine lv_goto (tgt := 144) hx hb dX12_set_116 (by decide) ?_
                      have G := G.sub (bs' := [[zO11 mo m_all m_has i_size i_next i_where i_token i_number i_word i_wrong i_farCrossing m_read 661 j_crossings_2 j_inns_3 m_posts m_shut m_here j_steps_4 j_done_5 j_at_94 j_gone_95 m_was m_came m_seenAt m_rowWorth m_farBy m_used i_everywhere i_again0 i_d0 i_never i_firstCame i_longRun i_moved i_crowd i_l0 i_fitMany i_fitLeast i_fitMost m_fitPost m_fitEnd m_keptPosts i_x0], [zAr T 0 m_all 3952 f_all], [zAr T 0 m_posts 7 g_posts_103], [zAr T 0 m_shut 7 g_shut_7], [zAr T 0 m_here 7 g_here_8], [zAr T 0 m_was 7 g_was_97]]) [5, 3, 4, 1, 0, 2] rfl
                      exact z_back hQz_ (z_iret C hr hlocks G (Nat.le_of_ble_eq_true rfl) (Nat.le_of_ble_eq_true rfl) dX12_set_144 ⟨661, j_crossings_2, j_inns_3, j_steps_4, j_done_5, j_at_94, j_gone_95, g_posts_103, g_shut_7, g_here_8, g_was_97, rfl, (Or.inr (Or.inr ⟨by first | with_reducible assumption | assumption, by omega, (by
                                                                have hs10 := zS10 (w := w_)
                                                                have q6 : rSet (zWo f_all 661 j_inns_3) (zLo f_all 661) (zPo f_all 661) j_crossings_2.toInt.toNat c_ n_ w_ = rSet (pW f_all 661) (zLo f_all 661) (zPo f_all 661) (f_all 661).toInt.toNat c_ n_ w_ := by rw [hWe, hcx]
                                                                unfold pSet; rw [if_pos (by show (0 ≤ c_.toInt ∧ c_.toInt < (f_all 661).toInt) ∧ (0 ≤ n_.toInt ∧ n_.toInt < (f_all 661).toInt) ∧ zBit (f_all (661 + 1)) n_ = 1; exact ⟨⟨by omega, by omega⟩, ⟨by omega, by omega⟩, by rw [← hNi]; assumption⟩)]; refine Eq.trans ?_ q6; exact rSet_e (W := (zWo f_all 661 j_inns_3)) (L := (zLo f_all 661)) (P := (zPo f_all 661)) (c := 0) hnw9 (s := (rSetP (zWo f_all 661 j_inns_3) (zLo f_all 661) (zPo f_all 661) j_crossings_2.toInt.toNat c_ n_).2) (fun _ => rfl) (Or.inr ⟨by first | with_reducible assumption | assumption, Or.inr (Or.inr ⟨by first | with_reducible assumption | assumption | (intro z9; have q4 := congrArg Int32.toInt z9; have m0 : (0 : Int32).toInt = 0 := rfl; have m1 : (1 : Int32).toInt = 1 := rfl; omega), by first | with_reducible assumption | assumption | (intro z9; have q4 := congrArg Int32.toInt z9; have m0 : (0 : Int32).toInt = 0 := rfl; have m1 : (1 : Int32).toInt = 1 := rfl; omega), Or.inr ⟨by omega, rfl⟩⟩)⟩))⟩))⟩)
                  · have h_118 : (w_.toInt < (10 : Int) ∨ (16 : Int) < w_.toInt) := h_118
                    refine lv_if_eq (tgt := 115) hx hb dX12_set_103 (by decide) (fun _ => ?_) (fun q => absurd (by decide) q)
                    refine lv_iconst (v := (-1)) hx hb dX12_set_115 (by decide) ?_
                    refine lv_goto (tgt := 144) hx hb dX12_set_116 (by decide) ?_
                    have G := G.sub (bs' := [[zO11 mo m_all m_has i_size i_next i_where i_token i_number i_word i_wrong i_farCrossing m_read 661 j_crossings_2 j_inns_3 m_posts m_shut m_here j_steps_4 j_done_5 j_at_94 j_gone_95 m_was m_came m_seenAt m_rowWorth m_farBy m_used i_everywhere i_again0 i_d0 i_never i_firstCame i_longRun i_moved i_crowd i_l0 i_fitMany i_fitLeast i_fitMost m_fitPost m_fitEnd m_keptPosts i_x0], [zAr T 0 m_all 3952 f_all], [zAr T 0 m_posts 7 g_posts_103], [zAr T 0 m_shut 7 g_shut_7], [zAr T 0 m_here 7 g_here_8], [zAr T 0 m_was 7 g_was_97]]) [3, 4, 5, 1, 0, 2] rfl
                    exact z_back hQz_ (z_iret C hr hlocks G (Nat.le_of_ble_eq_true rfl) (Nat.le_of_ble_eq_true rfl) dX12_set_144 ⟨661, j_crossings_2, j_inns_3, j_steps_4, j_done_5, j_at_94, j_gone_95, g_posts_103, g_shut_7, g_here_8, g_was_97, rfl, (Or.inr (Or.inr ⟨by first | with_reducible assumption | assumption, by omega, (by
                                                                have hs10 := zS10 (w := w_)
                                                                have q6 : rSet (zWo f_all 661 j_inns_3) (zLo f_all 661) (zPo f_all 661) j_crossings_2.toInt.toNat c_ n_ w_ = rSet (pW f_all 661) (zLo f_all 661) (zPo f_all 661) (f_all 661).toInt.toNat c_ n_ w_ := by rw [hWe, hcx]
                                                                unfold pSet; rw [if_pos (by show (0 ≤ c_.toInt ∧ c_.toInt < (f_all 661).toInt) ∧ (0 ≤ n_.toInt ∧ n_.toInt < (f_all 661).toInt) ∧ zBit (f_all (661 + 1)) n_ = 1; exact ⟨⟨by omega, by omega⟩, ⟨by omega, by omega⟩, by rw [← hNi]; assumption⟩)]; refine Eq.trans ?_ q6; exact rSet_e (W := (zWo f_all 661 j_inns_3)) (L := (zLo f_all 661)) (P := (zPo f_all 661)) (c := 0) hnw9 (s := (rSetP (zWo f_all 661 j_inns_3) (zLo f_all 661) (zPo f_all 661) j_crossings_2.toInt.toNat c_ n_).2) (fun _ => rfl) (Or.inr ⟨by first | with_reducible assumption | assumption, Or.inr (Or.inr ⟨by first | with_reducible assumption | assumption | (intro z9; have q4 := congrArg Int32.toInt z9; have m0 : (0 : Int32).toInt = 0 := rfl; have m1 : (1 : Int32).toInt = 1 := rfl; omega), by first | with_reducible assumption | assumption | (intro z9; have q4 := congrArg Int32.toInt z9; have m0 : (0 : Int32).toInt = 0 := rfl; have m1 : (1 : Int32).toInt = 1 := rfl; omega), Or.inr ⟨by omega, rfl⟩⟩)⟩))⟩))⟩)
                · have c_113n : w_.toInt = (1 : Int) := (fa_eq _ _).mp c_113
                  refine lv_iload hx hb dX12_set_67 (lv_at hl 5 rfl) ?_
                  refine lv_if_ne (tgt := 82) hx hb dX12_set_69 (by decide) (fun _ => ?_) (fun q => absurd q c_108)
                  refine lv_aload_n hx hb dX12_set_82 rfl (lv_at hl 1 rfl) ?_
                  refine z_Vi (bc := [[zO11 mo m_all m_has i_size i_next i_where i_token i_number i_word i_wrong i_farCrossing m_read 661 j_crossings_2 j_inns_3 m_posts m_shut m_here j_steps_4 j_done_5 j_at_94 j_gone_95 m_was m_came m_seenAt m_rowWorth m_farBy m_used i_everywhere i_again0 i_d0 i_never i_firstCame i_longRun i_moved i_crowd i_l0 i_fitMany i_fitLeast i_fitMost m_fitPost m_fitEnd m_keptPosts i_x0], [zAr T 0 m_all 3952 f_all], [zAr T 0 m_posts 7 g_posts_103]]) (br := [[zAr T 0 m_here 7 g_here_8], [zAr T 0 m_shut 7 g_shut_7], [zAr T 0 m_was 7 g_was_97]]) (As := []) (rest := []) C G (c_fm_unlikeTold l T mo m_all m_has i_size i_next i_where i_token i_number i_word i_wrong i_farCrossing m_read 661 j_crossings_2 j_inns_3 m_posts m_shut m_here j_steps_4 j_done_5 j_at_94 j_gone_95 m_was m_came m_seenAt m_rowWorth m_farBy m_used i_everywhere i_again0 i_d0 i_never i_firstCame i_longRun i_moved i_crowd i_l0 i_fitMany i_fitLeast i_fitMost m_fitPost m_fitEnd m_keptPosts i_x0 f_all g_posts_103 w9 (aRs (zWo f_all 661 j_inns_3) (zPo f_all 661) 7) (by first | with_reducible assumption | with_reducible rfl | omega | assumption | rfl | decide) (by first | with_reducible assumption | with_reducible rfl | omega | assumption | rfl | decide) hdg hTo9.2) (kV_RX12_232 C.2.2.2.2 (Nat.le_of_ble_eq_true rfl) (Nat.le_of_ble_eq_true rfl)) [3, 4, 5] [3, 0, 0] rfl rfl (ci := 11) (qc := (RX12, TX12, 43)) rfl rfl (List.mem_flatten.mpr ⟨_, List.mem_of_getElem? (i := 0) rfl, List.mem_cons_self⟩) rfl rfl hl.1 dX12_set_83 (Nat.le_of_ble_eq_true rfl) (Nat.le_of_ble_eq_true rfl) (fun r_135 b1 H locs hw G => ?_)
                  refine zAn2 hw ?_
                  intro hbs9 h_134
                  clear hw
                  subst hbs9
                  have G : zS T A s.heap s [[zAr T 0 m_here 7 g_here_8], [zAr T 0 m_shut 7 g_shut_7], [zAr T 0 m_was 7 g_was_97], [zO11 mo m_all m_has i_size i_next i_where i_token i_number i_word i_wrong i_farCrossing m_read 661 j_crossings_2 j_inns_3 m_posts m_shut m_here j_steps_4 j_done_5 j_at_94 j_gone_95 m_was m_came m_seenAt m_rowWorth m_farBy m_used i_everywhere i_again0 i_d0 i_never i_firstCame i_longRun i_moved i_crowd i_l0 i_fitMany i_fitLeast i_fitMost m_fitPost m_fitEnd m_keptPosts i_x0], [zAr T 0 m_all 3952 f_all], [zAr T 0 m_posts 7 g_posts_103]] _ _ := G
                  have hmk9 : r_135 = (rSetP (zWo f_all 661 j_inns_3) (zLo f_all 661) (zPo f_all 661) j_crossings_2.toInt.toNat c_ n_).2 := h_134.trans hw95.symm
                  have G := G.sub (bs' := [[zO11 mo m_all m_has i_size i_next i_where i_token i_number i_word i_wrong i_farCrossing m_read 661 j_crossings_2 j_inns_3 m_posts m_shut m_here j_steps_4 j_done_5 j_at_94 j_gone_95 m_was m_came m_seenAt m_rowWorth m_farBy m_used i_everywhere i_again0 i_d0 i_never i_firstCame i_longRun i_moved i_crowd i_l0 i_fitMany i_fitLeast i_fitMost m_fitPost m_fitEnd m_keptPosts i_x0], [zAr T 0 m_all 3952 f_all], [zAr T 0 m_posts 7 g_posts_103], [zAr T 0 m_shut 7 g_shut_7], [zAr T 0 m_here 7 g_here_8], [zAr T 0 m_was 7 g_was_97]]) [3, 4, 5, 1, 0, 2] rfl
                  exact z_back hQz_ (z_iret C hr hlocks G (Nat.le_of_ble_eq_true rfl) (Nat.le_of_ble_eq_true rfl) dX12_set_86 ⟨661, j_crossings_2, j_inns_3, j_steps_4, j_done_5, j_at_94, j_gone_95, g_posts_103, g_shut_7, g_here_8, g_was_97, rfl, (Or.inr (Or.inr ⟨by first | with_reducible assumption | assumption, by omega, (by
                                                                have q6 : rSet (zWo f_all 661 j_inns_3) (zLo f_all 661) (zPo f_all 661) j_crossings_2.toInt.toNat c_ n_ w_ = rSet (pW f_all 661) (zLo f_all 661) (zPo f_all 661) (f_all 661).toInt.toNat c_ n_ w_ := by rw [hWe, hcx]
                                                                unfold pSet; rw [if_pos (by show (0 ≤ c_.toInt ∧ c_.toInt < (f_all 661).toInt) ∧ (0 ≤ n_.toInt ∧ n_.toInt < (f_all 661).toInt) ∧ zBit (f_all (661 + 1)) n_ = 1; exact ⟨⟨by omega, by omega⟩, ⟨by omega, by omega⟩, by rw [← hNi]; assumption⟩)]; refine Eq.trans ?_ q6; exact rSet_e (W := (zWo f_all 661 j_inns_3)) (L := (zLo f_all 661)) (P := (zPo f_all 661)) (c := 0) hnw9 (fun _ => hmk9) (Or.inr ⟨by first | with_reducible assumption | assumption, Or.inr (Or.inl ⟨by first | with_reducible assumption | assumption, by first | with_reducible assumption | assumption, rfl⟩)⟩))⟩))⟩)
            · have c_102n : r_101.toInt = (-1 : Int) := (fa_eq _ _).mp c_102
              refine lv_iconst (v := (-1)) hx hb dX12_set_48 (by decide) ?_
              have G := G.sub (bs' := [[zO11 mo m_all m_has i_size i_next i_where i_token i_number i_word i_wrong i_farCrossing m_read 661 j_crossings_2 j_inns_3 m_posts m_shut m_here j_steps_4 j_done_5 j_at_94 j_gone_95 m_was m_came m_seenAt m_rowWorth m_farBy m_used i_everywhere i_again0 i_d0 i_never i_firstCame i_longRun i_moved i_crowd i_l0 i_fitMany i_fitLeast i_fitMost m_fitPost m_fitEnd m_keptPosts i_x0], [zAr T 0 m_all 3952 f_all], [zAr T 0 m_posts 7 g_posts_96], [zAr T 0 m_shut 7 g_shut_7], [zAr T 0 m_here 7 g_here_8], [zAr T 0 m_was 7 g_was_97]]) [1, 2, 3, 4, 0, 5] rfl
              exact z_back hQz_ (z_iret C hr hlocks G (Nat.le_of_ble_eq_true rfl) (Nat.le_of_ble_eq_true rfl) dX12_set_49 ⟨661, j_crossings_2, j_inns_3, j_steps_4, j_done_5, j_at_94, j_gone_95, g_posts_96, g_shut_7, g_here_8, g_was_97, rfl, (Or.inr (Or.inr ⟨by first | with_reducible assumption | assumption, by omega, (by
                                                                have q6 : rSet (zWo f_all 661 j_inns_3) (zLo f_all 661) (zPo f_all 661) j_crossings_2.toInt.toNat c_ n_ w_ = rSet (pW f_all 661) (zLo f_all 661) (zPo f_all 661) (f_all 661).toInt.toNat c_ n_ w_ := by rw [hWe, hcx]
                                                                unfold pSet; rw [if_pos (by show (0 ≤ c_.toInt ∧ c_.toInt < (f_all 661).toInt) ∧ (0 ≤ n_.toInt ∧ n_.toInt < (f_all 661).toInt) ∧ zBit (f_all (661 + 1)) n_ = 1; exact ⟨⟨by omega, by omega⟩, ⟨by omega, by omega⟩, by rw [← hNi]; assumption⟩)]; refine Eq.trans ?_ q6; exact rSet_e (W := (zWo f_all 661 j_inns_3)) (L := (zLo f_all 661)) (P := (zPo f_all 661)) (c := 0) hnw9 (s := 0) (fun q9 => absurd (by first | with_reducible assumption | assumption) q9) (Or.inl ⟨by first | with_reducible assumption | assumption, rfl⟩))⟩))⟩)
          · have h_93 : ¬ zInn j_inns_3 n_ := h_93
            refine lv_if_ne (tgt := 34) hx hb dX12_set_29 (by decide) (fun q => absurd (by decide) q) (fun _ => ?_)
            refine lv_iconst (v := (-1)) hx hb dX12_set_32 (by decide) ?_
            have G := G.sub (bs' := [[zO11 mo m_all m_has i_size i_next i_where i_token i_number i_word i_wrong i_farCrossing m_read 661 j_crossings_2 j_inns_3 m_posts m_shut m_here j_steps_4 j_done_5 i_at i_gone m_was m_came m_seenAt m_rowWorth m_farBy m_used i_everywhere i_again0 i_d0 i_never i_firstCame i_longRun i_moved i_crowd i_l0 i_fitMany i_fitLeast i_fitMost m_fitPost m_fitEnd m_keptPosts i_x0], [zAr T 0 m_all 3952 f_all], [zAr T 0 m_posts 7 g_posts_6], [zAr T 0 m_shut 7 g_shut_7], [zAr T 0 m_here 7 g_here_8], [zAr T 0 m_was 7 f_was]]) [5, 1, 2, 3, 4, 0] rfl
            exact z_back hQz_ (z_iret C hr hlocks G (Nat.le_of_ble_eq_true rfl) (Nat.le_of_ble_eq_true rfl) dX12_set_33 ⟨661, j_crossings_2, j_inns_3, j_steps_4, j_done_5, i_at, i_gone, g_posts_6, g_shut_7, g_here_8, f_was, rfl, (Or.inr (Or.inr ⟨by first | with_reducible assumption | assumption, by omega, (by unfold pSet; rw [if_neg (fun q8 => by have q8 : (0 ≤ c_.toInt ∧ c_.toInt < (f_all 661).toInt) ∧ (0 ≤ n_.toInt ∧ n_.toInt < (f_all 661).toInt) ∧ zBit (f_all (661 + 1)) n_ = 1 := q8; first | omega | (rw [← hNi] at q8; exact absurd q8.2.2 (by first | with_reducible assumption | assumption)))])⟩))⟩)
        · have h_89 : (n_.toInt < 0 ∨ j_crossings_2.toInt ≤ n_.toInt) := h_89
          refine lv_if_eq (tgt := 32) hx hb dX12_set_21 (by decide) (fun _ => ?_) (fun q => absurd (by decide) q)
          refine lv_iconst (v := (-1)) hx hb dX12_set_32 (by decide) ?_
          have G := G.sub (bs' := [[zO11 mo m_all m_has i_size i_next i_where i_token i_number i_word i_wrong i_farCrossing m_read 661 j_crossings_2 j_inns_3 m_posts m_shut m_here j_steps_4 j_done_5 i_at i_gone m_was m_came m_seenAt m_rowWorth m_farBy m_used i_everywhere i_again0 i_d0 i_never i_firstCame i_longRun i_moved i_crowd i_l0 i_fitMany i_fitLeast i_fitMost m_fitPost m_fitEnd m_keptPosts i_x0], [zAr T 0 m_all 3952 f_all], [zAr T 0 m_posts 7 g_posts_6], [zAr T 0 m_shut 7 g_shut_7], [zAr T 0 m_here 7 g_here_8], [zAr T 0 m_was 7 f_was]]) [5, 1, 2, 3, 4, 0] rfl
          exact z_back hQz_ (z_iret C hr hlocks G (Nat.le_of_ble_eq_true rfl) (Nat.le_of_ble_eq_true rfl) dX12_set_33 ⟨661, j_crossings_2, j_inns_3, j_steps_4, j_done_5, i_at, i_gone, g_posts_6, g_shut_7, g_here_8, f_was, rfl, (Or.inr (Or.inr ⟨by first | with_reducible assumption | assumption, by omega, (by unfold pSet; rw [if_neg (fun q8 => by have q8 : (0 ≤ c_.toInt ∧ c_.toInt < (f_all 661).toInt) ∧ (0 ≤ n_.toInt ∧ n_.toInt < (f_all 661).toInt) ∧ zBit (f_all (661 + 1)) n_ = 1 := q8; first | omega | (rw [← hNi] at q8; exact absurd q8.2.2 (by first | with_reducible assumption | assumption)))])⟩))⟩)
      · have h_84 : (c_.toInt < 0 ∨ j_crossings_2.toInt ≤ c_.toInt) := h_84
        refine lv_if_eq (tgt := 32) hx hb dX12_set_13 (by decide) (fun _ => ?_) (fun q => absurd (by decide) q)
        refine lv_iconst (v := (-1)) hx hb dX12_set_32 (by decide) ?_
        have G := G.sub (bs' := [[zO11 mo m_all m_has i_size i_next i_where i_token i_number i_word i_wrong i_farCrossing m_read 661 j_crossings_2 j_inns_3 m_posts m_shut m_here j_steps_4 j_done_5 i_at i_gone m_was m_came m_seenAt m_rowWorth m_farBy m_used i_everywhere i_again0 i_d0 i_never i_firstCame i_longRun i_moved i_crowd i_l0 i_fitMany i_fitLeast i_fitMost m_fitPost m_fitEnd m_keptPosts i_x0], [zAr T 0 m_all 3952 f_all], [zAr T 0 m_posts 7 g_posts_6], [zAr T 0 m_shut 7 g_shut_7], [zAr T 0 m_here 7 g_here_8], [zAr T 0 m_was 7 f_was]]) [5, 1, 2, 3, 4, 0] rfl
        exact z_back hQz_ (z_iret C hr hlocks G (Nat.le_of_ble_eq_true rfl) (Nat.le_of_ble_eq_true rfl) dX12_set_33 ⟨661, j_crossings_2, j_inns_3, j_steps_4, j_done_5, i_at, i_gone, g_posts_6, g_shut_7, g_here_8, f_was, rfl, (Or.inr (Or.inr ⟨by first | with_reducible assumption | assumption, by omega, (by unfold pSet; rw [if_neg (fun q8 => by have q8 : (0 ≤ c_.toInt ∧ c_.toInt < (f_all 661).toInt) ∧ (0 ≤ n_.toInt ∧ n_.toInt < (f_all 661).toInt) ∧ zBit (f_all (661 + 1)) n_ = 1 := q8; first | omega | (rw [← hNi] at q8; exact absurd q8.2.2 (by first | with_reducible assumption | assumption)))])⟩))⟩)
  · have h_23 : (l_.toInt < 0 ∨ (f_all 0).toInt ≤ l_.toInt) := h_23
    refine lv_if_eq (tgt := 32) hx hb dX12_set_5 (by decide) (fun _ => ?_) (fun q => absurd (by decide) q)
    refine lv_iconst (v := (-1)) hx hb dX12_set_32 (by decide) ?_
    have G := G.sub (bs' := [[zO11 mo m_all m_has i_size i_next i_where i_token i_number i_word i_wrong i_farCrossing m_read j_z0_1 j_crossings_2 j_inns_3 m_posts m_shut m_here j_steps_4 j_done_5 i_at i_gone m_was m_came m_seenAt m_rowWorth m_farBy m_used i_everywhere i_again0 i_d0 i_never i_firstCame i_longRun i_moved i_crowd i_l0 i_fitMany i_fitLeast i_fitMost m_fitPost m_fitEnd m_keptPosts i_x0], [zAr T 0 m_all 3952 f_all], [zAr T 0 m_posts 7 g_posts_6], [zAr T 0 m_shut 7 g_shut_7], [zAr T 0 m_here 7 g_here_8], [zAr T 0 m_was 7 f_was]]) [1, 2, 3, 4, 5, 0] rfl
    exact z_back hQz_ (z_iret C hr hlocks G (Nat.le_of_ble_eq_true rfl) (Nat.le_of_ble_eq_true rfl) dX12_set_33 ⟨j_z0_1, j_crossings_2, j_inns_3, j_steps_4, j_done_5, i_at, i_gone, g_posts_6, g_shut_7, g_here_8, f_was, rfl, (Or.inl ⟨by first | with_reducible assumption | assumption, rfl⟩)⟩)
theorem aT_cg {W V L M : Nat → Int32} (h : ∀ j, j < 7 → W j = V j) (hL : zLs W L M) (h4 : ∀ j, j < 7 → (W j).toInt ≤ 4) (n i : Nat) : aT W L n i = aT V M n i := by
  unfold aT
  rw [aN_cg h hL h4]
theorem zTab_cg {cr inn cr' inn' wy pc : Int32} {k1 k2 k3 k1' k2' k3' f1 f2 f5 : Nat → Int32} {n : Nat} (hI : zLI cr k1 k3) (hI' : zLI cr' k1' k3') (hW : ∀ j, j < 7 → aW cr inn k1 j = aW cr' inn' k1' j) (hL : zLs (aW cr inn k1) k2 k2') (h : zTab cr inn k1 k2 wy pc f1 f2 f5 n) : zTab cr' inn' k1' k2' wy pc f1 f2 f5 n := by
  obtain ⟨h1, h2, h3, h4, h5⟩ := h
  have p : ∀ m, aPr (aW cr inn k1) m = aPr (aW cr' inn' k1') m := aPr_cg hW
  have w4 : ∀ j, j < 7 → (aW cr inn k1 j).toInt ≤ 4 := fun j _ => (zWays_le (inn := inn) hI (nI j)).2
  refine ⟨?_, ?_, ⟨fun c hc => ?_, fun c hc => ?_⟩, ?_, fun j hj => ?_⟩
  · rw [h1, zWy_z hI, zWy_z hI', p]
  · rw [h2, zPl_z hI, zPl_z hI', p]
  · rw [h3.1 c hc, aCh_z hI, aCh_z hI', aCh_cg (hW c hc)]
  · rw [h3.2 c hc, aWyN_z hI _ (by omega), aWyN_z hI' _ (by omega), p]
  · rw [← p]
    exact h4
  · rw [← p] at hj
    rw [h5 j hj, aT_cg hW hL w4]
theorem zTb_k {cr inn cr' inn' wy pc md md' : Int32} {k1 k2 k3 k4 k1' k2' k3' k4' f g f1 f2 f5 : Nat → Int32} {n B : Nat} (hB : B = 610 ∨ B = 661) (h : md = 0 ∨ zTab cr inn k1 k2 wy pc f1 f2 f5 n) (hm : md' = 0 ∨ md' = md ∧ ∀ j, j < 51 → g (B + j) = f (B + j)) (a : zLnd cr inn k1 k2 k3 k4 (fun j => f (B + j))) (a' : zLnd cr' inn' k1' k2' k3' k4' (fun j => g (B + j))) (hF : zLF (fun j => f (B + j))) (hI : zLI cr k1 k3) (hI' : zLI cr' k1' k3') : md' = 0 ∨ zTab cr' inn' k1' k2' wy pc f1 f2 f5 n := by
  rcases hm with hm | ⟨hm, hg⟩
  · exact Or.inl hm
  · rcases h with h | h
    · exact Or.inl (hm.trans h)
    · refine Or.inr ?_
      have hz : (nI B).toInt.toNat = B := by
        rw [nI_toInt (by omega)]
        rfl
      have hF' : zLF (fun j => g (B + j)) := zLF_cg (fun j hj => hg j hj) hF
      obtain ⟨b1, b2, -, -, -, -⟩ := zLnd_w a hF hz
      obtain ⟨d1, d2, -, -, -, -⟩ := zLnd_w a' hF' hz
      have e : ∀ j, j < 51 → g ((nI B).toInt.toNat + j) = f ((nI B).toInt.toNat + j) := fun j hj => by
        rw [hz]
        exact hg j hj
      have hp : ∀ j, j < 7 → pW f (nI B) j = pW g (nI B) j := fun j hj => by
        unfold pW zWo zRo
        rw [e 1 (by decide), e (2 + j) (by omega)]
      have hW : ∀ j, j < 7 → aW cr inn k1 j = aW cr' inn' k1' j := fun j hj => (b1 j hj).trans ((hp j hj).trans (d1 j hj).symm)
      have w4 : ∀ j, j < 7 → (aW cr inn k1 j).toInt ≤ 4 := fun j _ => (zWays_le (inn := inn) hI (nI j)).2
      refine zTab_cg hI hI' hW (fun j r hj hr hq => ?_) h
      have x1 : k2 (4 * j + r) = zLo f (nI B) (4 * j + r) := b2 j r hj hr hq
      have hq2 : (r : Int) < (kW cr' inn' k1' j).toInt := by
        have t : aW cr inn k1 j = kW cr' inn' k1' j := hW j hj
        rw [← t]
        exact hq
      have x2 : k2' (4 * j + r) = zLo g (nI B) (4 * j + r) := d2 j r hj hr hq2
      rw [x1, x2]
      exact (e (23 + (4 * j + r)) (by omega)).symm
theorem zText_l {z : pS × (Nat → Int32)} {s : Nat} {at_ r : Int32} {f g : Nat → Int32} (hs : s < 3) (h : zText z s at_ f g r) (hq : r.toInt < 0 ∨ ¬ s = 0) (h0 : 0 ≤ (f s).toInt) : ∀ j, 610 ≤ j → j < 712 → g j = f j := by
  intro j h1 h2
  have hd : ∀ a b, pHd f a b j = f j := fun a b => by
    unfold pHd
    rw [z_ne (by omega), z_ne (by omega), z_ne (by omega)]
  rcases h with ⟨_, _, e⟩ | ⟨_, _, _, e⟩ | ⟨ok, _, er, e⟩
  · rw [e j (by omega), hd]
  · rw [e j (by omega), hd]
  · rw [e j (by omega)]
    have s0 : ¬ s = 0 := by
      rcases hq with q | q
      · exfalso
        rw [er] at q
        unfold pNr at q
        unfold pOkAt at ok
        by_cases c : at_.toInt = -1
        · rw [if_pos c] at q
          omega
        · rw [if_neg c] at q ok
          omega
      · exact q
    have c : ∀ G : Nat → Int32, pCnt s at_ G j = G j := fun G => by
      unfold pCnt
      split
      · exact z_ne (by omega)
      · rfl
    unfold pPut
    rw [if_neg, c, hd]
    intro q
    have q1 := q.1
    unfold pBase at q1
    rw [if_neg s0] at q1
    split at q1 <;> omega


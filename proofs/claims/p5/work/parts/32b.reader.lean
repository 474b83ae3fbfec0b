theorem z_p1 {x : Int32} (h0 : -2147483648 ≤ x.toInt) (h : x.toInt < 2147483647) : (x + 1).toInt = x.toInt + 1 := z_iaddI (y := 1) (by show -2147483648 ≤ x.toInt + 1; omega) (by show x.toInt + 1 < 2147483648; omega)
theorem z_min1k {y : Int32} (h : 0 ≤ y.toInt) : 0 ≤ (if (1000 : Int32) < y then 1000 else y).toInt ∧ (if (1000 : Int32) < y then 1000 else y).toInt ≤ 1000 := by
  split
  · exact ⟨by decide, by decide⟩
  · rename_i q
    have q2 : ¬ (1000 : Int) < y.toInt := fun z => q ((fa_lt _ _).mpr z)
    exact ⟨h, by omega⟩
theorem zLI_add {cr : Int32} {f1 f3 : Nat → Int32} (h : zLI cr f1 f3) (x : Int32) : zLI cr (zAddA cr f1 x) f3 := by
  refine ⟨h.1, fun j hj => ?_, h.2.2⟩
  unfold zAddA
  split
  · rename_i q
    unfold upd
    split
    · have e := z_clI q.1
      have g := h.2.1 x.toNatClampNeg (by omega)
      have g2 := z_p1 (x := f1 x.toNatClampNeg) (by omega) (by omega)
      omega
    · exact h.2.1 j hj
  · exact h.2.1 j hj
theorem zLI_post {cr : Int32} {f1 f3 : Nat → Int32} (h : zLI cr f1 f3) (k : Nat) {v : Int32} (hv : 0 ≤ v.toInt ∧ v.toInt ≤ 1000) : zLI cr f1 (upd f3 k v) := by
  refine ⟨h.1, h.2.1, fun j hj => ?_⟩
  unfold upd
  split
  · exact hv
  · exact h.2.2 j hj
theorem zLI_cr {cr cr' : Int32} {f1 f3 : Nat → Int32} (h : zLI cr f1 f3) (hc : 0 ≤ cr'.toInt ∧ cr'.toInt ≤ 7) : zLI cr' f1 f3 := ⟨hc, h.2⟩
theorem zLI_zero {f1 f3 : Nat → Int32} (h1 : ∀ j, j < 7 → f1 j = 0) (h3 : ∀ j, j < 7 → f3 j = 0) : zLI 0 f1 f3 := ⟨by decide, fun j hj => by rw [h1 j hj]; decide, fun j hj => by rw [h3 j hj]; decide⟩
set_option maxHeartbeats 4000000 in
set_option maxRecDepth 100000 in
/-- c_isBlank -/
theorem c_isBlank (l : Launch) (T : zTy) (x : Int32) : zMi l T yX7_isBlank cX7_isBlank 1 (some .boolean) 1 0 0 [.int x] [] (fun (r : Int32) bs => bs = [] ∧ ((r = 1) ∨ (r = 0))) := by
  refine zMi_of (own := RX7) (by decide) rfl (Nat.le_of_ble_eq_true rfl) ?_
  intro p e s m args below meth c A ls C hr hlocks hnm hAe G hl
  have hx := C.1
  have hb := C.2.1
  have hl : lv_has ls 1 [(0, .int x)] := hl
  refine lv_iload_n hx hb dX7_isBlank_0 rfl (lv_at hl 0 rfl) ?_
  refine lv_bipush (v := 10) hx hb dX7_isBlank_1 (by decide) ?_
  refine lv_icmp_eq (tgt := 12) hx hb dX7_isBlank_3 (by decide) (fun c_1 => ?_) (fun c_1 => ?_)
  · have c_1n : x.toInt = (10 : Int) := (fa_eq _ _).mp c_1
    refine lv_iconst (v := 1) hx hb dX7_isBlank_12 (by decide) ?_
    refine lv_goto (tgt := 17) hx hb dX7_isBlank_13 (by decide) ?_
    exact z_zret C hr hlocks G (Nat.le_of_ble_eq_true rfl) (Nat.le_of_ble_eq_true rfl) dX7_isBlank_17 rfl ⟨rfl, (Or.inl rfl)⟩
  · have c_1n : ¬ x.toInt = (10 : Int) := fun q => c_1 ((fa_eq _ _).mpr q)
    refine lv_iload_n hx hb dX7_isBlank_6 rfl (lv_at hl 0 rfl) ?_
    refine lv_bipush (v := 32) hx hb dX7_isBlank_7 (by decide) ?_
    refine lv_icmp_ne (tgt := 16) hx hb dX7_isBlank_9 (by decide) (fun c_2 => ?_) (fun c_2 => ?_)
    · have c_2n : ¬ x.toInt = (32 : Int) := fun q => c_2 ((fa_eq _ _).mpr q)
      refine lv_iconst (v := 0) hx hb dX7_isBlank_16 (by decide) ?_
      exact z_zret C hr hlocks G (Nat.le_of_ble_eq_true rfl) (Nat.le_of_ble_eq_true rfl) dX7_isBlank_17 rfl ⟨rfl, (Or.inr rfl)⟩
    · have c_2n : x.toInt = (32 : Int) := (fa_eq _ _).mp c_2
      refine lv_iconst (v := 1) hx hb dX7_isBlank_12 (by decide) ?_
      refine lv_goto (tgt := 17) hx hb dX7_isBlank_13 (by decide) ?_
      exact z_zret C hr hlocks G (Nat.le_of_ble_eq_true rfl) (Nat.le_of_ble_eq_true rfl) dX7_isBlank_17 rfl ⟨rfl, (Or.inl rfl)⟩
set_option maxHeartbeats 4000000 in
set_option maxRecDepth 100000 in
/-- c_isLetter -/
theorem c_isLetter (l : Launch) (T : zTy) (x : Int32) : zMi l T yX7_isLetter cX7_isLetter 1 (some .boolean) 1 0 0 [.int x] [] (fun (r : Int32) bs => bs = [] ∧ ((r = 1) ∨ (r = 0))) := by
  refine zMi_of (own := RX7) (by decide) rfl (Nat.le_of_ble_eq_true rfl) ?_
  intro p e s m args below meth c A ls C hr hlocks hnm hAe G hl
  have hx := C.1
  have hb := C.2.1
  have hl : lv_has ls 1 [(0, .int x)] := hl
  refine lv_iload_n hx hb dX7_isLetter_0 rfl (lv_at hl 0 rfl) ?_
  refine lv_bipush (v := 97) hx hb dX7_isLetter_1 (by decide) ?_
  refine lv_icmp_lt (tgt := 16) hx hb dX7_isLetter_3 (by decide) (fun c_1 => ?_) (fun c_1 => ?_)
  · have c_1n : x.toInt < (97 : Int) := (fa_lt _ _).mp c_1
    refine lv_iconst (v := 0) hx hb dX7_isLetter_16 (by decide) ?_
    exact z_zret C hr hlocks G (Nat.le_of_ble_eq_true rfl) (Nat.le_of_ble_eq_true rfl) dX7_isLetter_17 rfl ⟨rfl, (Or.inr rfl)⟩
  · have c_1n : ¬ x.toInt < (97 : Int) := fun q => c_1 ((fa_lt _ _).mpr q)
    refine lv_iload_n hx hb dX7_isLetter_6 rfl (lv_at hl 0 rfl) ?_
    refine lv_bipush (v := 122) hx hb dX7_isLetter_7 (by decide) ?_
    refine lv_icmp_gt (tgt := 16) hx hb dX7_isLetter_9 (by decide) (fun c_2 => ?_) (fun c_2 => ?_)
    · have c_2n : (122 : Int) < x.toInt := (fa_lt _ _).mp c_2
      refine lv_iconst (v := 0) hx hb dX7_isLetter_16 (by decide) ?_
      exact z_zret C hr hlocks G (Nat.le_of_ble_eq_true rfl) (Nat.le_of_ble_eq_true rfl) dX7_isLetter_17 rfl ⟨rfl, (Or.inr rfl)⟩
    · have c_2n : ¬ (122 : Int) < x.toInt := fun q => c_2 ((fa_lt _ _).mpr q)
      refine lv_iconst (v := 1) hx hb dX7_isLetter_12 (by decide) ?_
      refine lv_goto (tgt := 17) hx hb dX7_isLetter_13 (by decide) ?_
      exact z_zret C hr hlocks G (Nat.le_of_ble_eq_true rfl) (Nat.le_of_ble_eq_true rfl) dX7_isLetter_17 rfl ⟨rfl, (Or.inl rfl)⟩
set_option maxHeartbeats 4000000 in
set_option maxRecDepth 100000 in
/-- c_isDigit -/
theorem c_isDigit (l : Launch) (T : zTy) (x : Int32) : zMi l T yX7_isDigit cX7_isDigit 1 (some .boolean) 1 0 0 [.int x] [] (fun (r : Int32) bs => bs = [] ∧ ((r = 1 ∧ 48 ≤ x.toInt ∧ x.toInt ≤ 57) ∨ (r = 0))) := by
  refine zMi_of (own := RX7) (by decide) rfl (Nat.le_of_ble_eq_true rfl) ?_
  intro p e s m args below meth c A ls C hr hlocks hnm hAe G hl
  have hx := C.1
  have hb := C.2.1
  have hl : lv_has ls 1 [(0, .int x)] := hl
  refine lv_iload_n hx hb dX7_isDigit_0 rfl (lv_at hl 0 rfl) ?_
  refine lv_bipush (v := 48) hx hb dX7_isDigit_1 (by decide) ?_
  refine lv_icmp_lt (tgt := 16) hx hb dX7_isDigit_3 (by decide) (fun c_1 => ?_) (fun c_1 => ?_)
  · have c_1n : x.toInt < (48 : Int) := (fa_lt _ _).mp c_1
    refine lv_iconst (v := 0) hx hb dX7_isDigit_16 (by decide) ?_
    exact z_zret C hr hlocks G (Nat.le_of_ble_eq_true rfl) (Nat.le_of_ble_eq_true rfl) dX7_isDigit_17 rfl ⟨rfl, (Or.inr rfl)⟩
  · have c_1n : ¬ x.toInt < (48 : Int) := fun q => c_1 ((fa_lt _ _).mpr q)
    refine lv_iload_n hx hb dX7_isDigit_6 rfl (lv_at hl 0 rfl) ?_
    refine lv_bipush (v := 57) hx hb dX7_isDigit_7 (by decide) ?_
    refine lv_icmp_gt (tgt := 16) hx hb dX7_isDigit_9 (by decide) (fun c_2 => ?_) (fun c_2 => ?_)
    · have c_2n : (57 : Int) < x.toInt := (fa_lt _ _).mp c_2
      refine lv_iconst (v := 0) hx hb dX7_isDigit_16 (by decide) ?_
      exact z_zret C hr hlocks G (Nat.le_of_ble_eq_true rfl) (Nat.le_of_ble_eq_true rfl) dX7_isDigit_17 rfl ⟨rfl, (Or.inr rfl)⟩
    · have c_2n : ¬ (57 : Int) < x.toInt := fun q => c_2 ((fa_lt _ _).mpr q)
      refine lv_iconst (v := 1) hx hb dX7_isDigit_12 (by decide) ?_
      refine lv_goto (tgt := 17) hx hb dX7_isDigit_13 (by decide) ?_
      exact z_zret C hr hlocks G (Nat.le_of_ble_eq_true rfl) (Nat.le_of_ble_eq_true rfl) dX7_isDigit_17 rfl ⟨rfl, (Or.inl (⟨rfl, (by first | assumption | omega), (by first | assumption | omega)⟩))⟩
set_option maxHeartbeats 4000000 in
set_option maxRecDepth 100000 in
/-- c_breakHere -/
theorem c_breakHere (l : Launch) (T : zTy) (rd : Nat) (rl : Nat) (rdd : Nat) (rg : Nat) (tp : Nat) (r0 : Int32) (r1 : Int32) (r2 : Int32) (r3 : Int32) (r4 : Int32) (r5 : Int32) (r6 : Int32) (r7 : Int32) (r8 : Int32) : zMv l T yX7_breakHere cX7_breakHere 1 1 0 0 [.ref rd] [[(rd, .inr (7, [.ref rl, .ref rdd, .ref rg, .int r0, .int r1, .ref tp, .int r2, .int r3, .int r4, .int r5, .int r6, .int r7, .int r8]))]] (fun bs => ∃ (u0 : Int32) (u1 : Int32) (u7 : Int32), bs = [[(rd, .inr (7, [.ref rl, .ref rdd, .ref rg, .int u0, .int u1, .ref tp, .int r2, .int r3, .int r4, .int r5, .int r6, .int u7, .int r8]))]]) := by
  refine zMv_of (own := RX7) (by decide) rfl (Nat.le_of_ble_eq_true rfl) ?_
  intro p e s m args below meth c A ls C hr hlocks hnm hAe G hl
  have hx := C.1
  have hb := C.2.1
  have hl : lv_has ls 1 [(0, .ref rd)] := hl
  refine lv_aload_n hx hb dX7_breakHere_0 rfl (lv_at hl 0 rfl) ?_
  refine z_get C G clX7 0 rfl 11 (by decide) m_fl_RX7_55 rfl dX7_breakHere_1 ?_
  refine lv_if_ne (tgt := 25) hx hb dX7_breakHere_4 (by decide) (fun c_1 => ?_) (fun c_1 => ?_)
  · have c_1n : ¬ r7.toInt = (0 : Int) := fun q => c_1 ((fa_eq _ _).mpr q)
    exact z_vret C hr hlocks G (Nat.le_of_ble_eq_true rfl) (Nat.le_of_ble_eq_true rfl) dX7_breakHere_25 ⟨r0, r1, r7, rfl⟩
  · have c_1n : r7.toInt = (0 : Int) := (fa_eq _ _).mp c_1
    refine lv_aload_n hx hb dX7_breakHere_7 rfl (lv_at hl 0 rfl) ?_
    refine lv_iconst (v := 1) hx hb dX7_breakHere_8 (by decide) ?_
    refine z_put C G clX7 0 rfl 11 (by decide) m_fl_RX7_55 rfl rfl rfl (Nat.le_of_ble_eq_true rfl) dX7_breakHere_9 (fun H locs G => ?_)
    have G : zS T A s.heap s [[(rd, .inr (7, [.ref rl, .ref rdd, .ref rg, .int r0, .int r1, .ref tp, .int r2, .int r3, .int r4, .int r5, .int r6, .int 1, .int r8]))]] _ _ := G
    refine lv_aload_n hx hb dX7_breakHere_12 rfl (lv_at hl 0 rfl) ?_
    refine lv_iconst (v := 1) hx hb dX7_breakHere_13 (by decide) ?_
    refine z_put C G clX7 0 rfl 3 (by decide) m_fl_RX7_49 rfl rfl rfl (Nat.le_of_ble_eq_true rfl) dX7_breakHere_14 (fun H locs G => ?_)
    have G : zS T A s.heap s [[(rd, .inr (7, [.ref rl, .ref rdd, .ref rg, .int 1, .int r1, .ref tp, .int r2, .int r3, .int r4, .int r5, .int r6, .int 1, .int r8]))]] _ _ := G
    refine lv_aload_n hx hb dX7_breakHere_17 rfl (lv_at hl 0 rfl) ?_
    refine lv_aload_n hx hb dX7_breakHere_18 rfl (lv_at hl 0 rfl) ?_
    refine z_get C G clX7 0 rfl 9 (by decide) m_fl_RX7_84 rfl dX7_breakHere_19 ?_
    refine z_put C G clX7 0 rfl 4 (by decide) m_fl_RX7_52 rfl rfl rfl (Nat.le_of_ble_eq_true rfl) dX7_breakHere_22 (fun H locs G => ?_)
    have G : zS T A s.heap s [[(rd, .inr (7, [.ref rl, .ref rdd, .ref rg, .int 1, .int r5, .ref tp, .int r2, .int r3, .int r4, .int r5, .int r6, .int 1, .int r8]))]] _ _ := G
    exact z_vret C hr hlocks G (Nat.le_of_ble_eq_true rfl) (Nat.le_of_ble_eq_true rfl) dX7_breakHere_25 ⟨1, r5, 1, rfl⟩
set_option maxHeartbeats 4000000 in
set_option maxRecDepth 100000 in
/-- c_note -/
theorem c_note (l : Launch) (T : zTy) (rd : Nat) (rl : Nat) (rdd : Nat) (rg : Nat) (tp : Nat) (r0 : Int32) (r1 : Int32) (r2 : Int32) (r3 : Int32) (r4 : Int32) (r5 : Int32) (r6 : Int32) (r7 : Int32) (r8 : Int32) (x : Int32) (y : Int32) : zMv l T yX7_note cX7_note 3 1 0 0 [.ref rd, .int x, .int y] [[(rd, .inr (7, [.ref rl, .ref rdd, .ref rg, .int r0, .int r1, .ref tp, .int r2, .int r3, .int r4, .int r5, .int r6, .int r7, .int r8]))]] (fun bs => ∃ (u0 : Int32) (u1 : Int32), bs = [[(rd, .inr (7, [.ref rl, .ref rdd, .ref rg, .int u0, .int u1, .ref tp, .int r2, .int r3, .int r4, .int r5, .int r6, .int r7, .int r8]))]]) := by
  refine zMv_of (own := RX7) (by decide) rfl (Nat.le_of_ble_eq_true rfl) ?_
  intro p e s m args below meth c A ls C hr hlocks hnm hAe G hl
  have hx := C.1
  have hb := C.2.1
  have hl : lv_has ls 3 [(0, .ref rd), (1, .int x), (2, .int y)] := hl
  refine lv_aload_n hx hb dX7_note_0 rfl (lv_at hl 0 rfl) ?_
  refine z_get C G clX7 0 rfl 3 (by decide) m_fl_RX7_49 rfl dX7_note_1 ?_
  refine lv_if_ne (tgt := 17) hx hb dX7_note_4 (by decide) (fun c_1 => ?_) (fun c_1 => ?_)
  · have c_1n : ¬ r0.toInt = (0 : Int) := fun q => c_1 ((fa_eq _ _).mpr q)
    exact z_vret C hr hlocks G (Nat.le_of_ble_eq_true rfl) (Nat.le_of_ble_eq_true rfl) dX7_note_17 ⟨r0, r1, rfl⟩
  · have c_1n : r0.toInt = (0 : Int) := (fa_eq _ _).mp c_1
    refine lv_aload_n hx hb dX7_note_7 rfl (lv_at hl 0 rfl) ?_
    refine lv_iload_n hx hb dX7_note_8 rfl (lv_at hl 1 rfl) ?_
    refine z_put C G clX7 0 rfl 3 (by decide) m_fl_RX7_49 rfl rfl rfl (Nat.le_of_ble_eq_true rfl) dX7_note_9 (fun H locs G => ?_)
    have G : zS T A s.heap s [[(rd, .inr (7, [.ref rl, .ref rdd, .ref rg, .int x, .int r1, .ref tp, .int r2, .int r3, .int r4, .int r5, .int r6, .int r7, .int r8]))]] _ _ := G
    refine lv_aload_n hx hb dX7_note_12 rfl (lv_at hl 0 rfl) ?_
    refine lv_iload_n hx hb dX7_note_13 rfl (lv_at hl 2 rfl) ?_
    refine z_put C G clX7 0 rfl 4 (by decide) m_fl_RX7_52 rfl rfl rfl (Nat.le_of_ble_eq_true rfl) dX7_note_14 (fun H locs G => ?_)
    have G : zS T A s.heap s [[(rd, .inr (7, [.ref rl, .ref rdd, .ref rg, .int x, .int y, .ref tp, .int r2, .int r3, .int r4, .int r5, .int r6, .int r7, .int r8]))]] _ _ := G
    exact z_vret C hr hlocks G (Nat.le_of_ble_eq_true rfl) (Nat.le_of_ble_eq_true rfl) dX7_note_17 ⟨x, y, rfl⟩
set_option maxHeartbeats 4000000 in
set_option maxRecDepth 100000 in
/-- c_tellOf -/
theorem c_tellOf (l : Launch) (T : zTy) (rd : Nat) (rl : Nat) (rdd : Nat) (rg : Nat) (tp : Nat) (r0 : Int32) (r1 : Int32) (r2 : Int32) (r3 : Int32) (r4 : Int32) (r5 : Int32) (r6 : Int32) (r7 : Int32) (r8 : Int32) (x : Int32) : zMv l T yX7_tellOf cX7_tellOf 2 1 0 0 [.ref rd, .int x] [[(rd, .inr (7, [.ref rl, .ref rdd, .ref rg, .int r0, .int r1, .ref tp, .int r2, .int r3, .int r4, .int r5, .int r6, .int r7, .int r8]))]] (fun bs => ∃ (u8 : Int32), bs = [[(rd, .inr (7, [.ref rl, .ref rdd, .ref rg, .int r0, .int r1, .ref tp, .int r2, .int r3, .int r4, .int r5, .int r6, .int r7, .int u8]))]]) := by
  refine zMv_of (own := RX7) (by decide) rfl (Nat.le_of_ble_eq_true rfl) ?_
  intro p e s m args below meth c A ls C hr hlocks hnm hAe G hl
  have hx := C.1
  have hb := C.2.1
  have hl : lv_has ls 2 [(0, .ref rd), (1, .int x)] := hl
  refine lv_iload_n hx hb dX7_tellOf_0 rfl (lv_at hl 1 rfl) ?_
  refine lv_if_lt (tgt := 22) hx hb dX7_tellOf_1 (by decide) (fun c_1 => ?_) (fun c_1 => ?_)
  · have c_1n : x.toInt < (0 : Int) := (fa_lt _ _).mp c_1
    exact z_vret C hr hlocks G (Nat.le_of_ble_eq_true rfl) (Nat.le_of_ble_eq_true rfl) dX7_tellOf_22 ⟨r8, rfl⟩
  · have c_1n : ¬ x.toInt < (0 : Int) := fun q => c_1 ((fa_lt _ _).mpr q)
    refine lv_iload_n hx hb dX7_tellOf_4 rfl (lv_at hl 1 rfl) ?_
    refine lv_bipush (v := 7) hx hb dX7_tellOf_5 (by decide) ?_
    refine lv_icmp_ge (tgt := 22) hx hb dX7_tellOf_7 (by decide) (fun c_2 => ?_) (fun c_2 => ?_)
    · have c_2n : (7 : Int) ≤ x.toInt := (fa_le _ _).mp c_2
      exact z_vret C hr hlocks G (Nat.le_of_ble_eq_true rfl) (Nat.le_of_ble_eq_true rfl) dX7_tellOf_22 ⟨r8, rfl⟩
    · have c_2n : ¬ (7 : Int) ≤ x.toInt := fun q => c_2 ((fa_le _ _).mpr q)
      refine lv_aload_n hx hb dX7_tellOf_10 rfl (lv_at hl 0 rfl) ?_
      refine lv_dup hx hb dX7_tellOf_11 rfl ?_
      refine z_get C G clX7 0 rfl 12 (by decide) m_fl_RX7_59 rfl dX7_tellOf_12 ?_
      refine lv_iconst (v := 1) hx hb dX7_tellOf_15 (by decide) ?_
      refine lv_iload_n hx hb dX7_tellOf_16 rfl (lv_at hl 1 rfl) ?_
      refine lv_ishl hx hb dX7_tellOf_17 ?_
      refine lv_ior hx hb dX7_tellOf_18 ?_
      refine z_put C G clX7 0 rfl 12 (by decide) m_fl_RX7_59 rfl rfl rfl (Nat.le_of_ble_eq_true rfl) dX7_tellOf_19 (fun H locs G => ?_)
      have G : zS T A s.heap s [[(rd, .inr (7, [.ref rl, .ref rdd, .ref rg, .int r0, .int r1, .ref tp, .int r2, .int r3, .int r4, .int r5, .int r6, .int r7, .int (r8 ||| (1 <<< (x &&& 31)))]))]] _ _ := G
      exact z_vret C hr hlocks G (Nat.le_of_ble_eq_true rfl) (Nat.le_of_ble_eq_true rfl) dX7_tellOf_22 ⟨(r8 ||| (1 <<< (x &&& 31))), rfl⟩
set_option maxHeartbeats 4000000 in
set_option maxRecDepth 100000 in
/-- c_takeLetters -/
theorem c_takeLetters (l : Launch) (T : zTy) (rd : Nat) (rl : Nat) (rdd : Nat) (rg : Nat) (tp : Nat) (r0 : Int32) (r1 : Int32) (r2 : Int32) (r3 : Int32) (r4 : Int32) (r5 : Int32) (r6 : Int32) (r7 : Int32) (r8 : Int32) (ft : Nat → Int32) (hR : (0 ≤ r2.toInt ∧ r2.toInt ≤ 600) ∧ (0 ≤ r3.toInt ∧ r3.toInt ≤ r2.toInt) ∧ (0 ≤ r5.toInt ∧ r5.toInt ≤ 600) ∧ 0 ≤ r6.toInt ∧ r6.toInt ≤ 1000) : zMv l T yX7_takeLetters cX7_takeLetters 1 2 0 0 [.ref rd] [[(rd, .inr (7, [.ref rl, .ref rdd, .ref rg, .int r0, .int r1, .ref tp, .int r2, .int r3, .int r4, .int r5, .int r6, .int r7, .int r8]))], [(tp, .inl (T.2 1, 600, .inl ft))]] (fun bs => ∃ (u3 : Int32) (u4 : Int32), bs = [[(rd, .inr (7, [.ref rl, .ref rdd, .ref rg, .int r0, .int r1, .ref tp, .int r2, .int u3, .int u4, .int r5, .int r6, .int r7, .int r8]))], [(tp, .inl (T.2 1, 600, .inl ft))]] ∧ r3.toInt ≤ u3.toInt ∧ u3.toInt ≤ r2.toInt) := by
  refine zMv_of (own := RX7) (by decide) rfl (Nat.le_of_ble_eq_true rfl) ?_
  intro p e s m args below meth c A ls C hr hlocks hnm hAe G hl
  have hx := C.1
  have hb := C.2.1
  have hl : lv_has ls 1 [(0, .ref rd)] := hl
  refine lv_aload_n hx hb dX7_takeLetters_0 rfl (lv_at hl 0 rfl) ?_
  refine lv_iconst (v := 1) hx hb dX7_takeLetters_1 (by decide) ?_
  refine z_put C G clX7 0 rfl 8 (by decide) m_fl_RX7_74 rfl rfl rfl (Nat.le_of_ble_eq_true rfl) dX7_takeLetters_2 (fun H locs G => ?_)
  have G : zS T A s.heap s [[(rd, .inr (7, [.ref rl, .ref rdd, .ref rg, .int r0, .int r1, .ref tp, .int r2, .int r3, .int 1, .int r5, .int r6, .int r7, .int r8]))], [(tp, .inl (T.2 1, 600, .inl ft))]] _ _ := G
  refine z_loop (T := T) (α := Int32) 5 (fun x => [[(rd, .inr (7, [.ref rl, .ref rdd, .ref rg, .int r0, .int r1, .ref tp, .int r2, .int x, .int 1, .int r5, .int r6, .int r7, .int r8]))], [(tp, .inl (T.2 1, 600, .inl ft))]]) (fun x => [(0, .ref rd)]) (fun x => (r3.toInt ≤ x.toInt ∧ x.toInt ≤ r2.toInt)) (fun x => (r2.toInt - x.toInt).toNat) ?_ r3 (show (r3.toInt ≤ r3.toInt ∧ r3.toInt ≤ r2.toInt) from (by omega)) G (lv_sub hl [0] rfl)
  rintro x hx0 ih_5 H locs ls G hl
  replace hx0 : (r3.toInt ≤ x.toInt ∧ x.toInt ≤ r2.toInt) := hx0
  replace G : zS T A s.heap s [[(rd, .inr (7, [.ref rl, .ref rdd, .ref rg, .int r0, .int r1, .ref tp, .int r2, .int x, .int 1, .int r5, .int r6, .int r7, .int r8]))], [(tp, .inl (T.2 1, 600, .inl ft))]] _ _ := G
  replace hl : lv_has ls 1 [(0, .ref rd)] := hl
  refine lv_aload_n hx hb dX7_takeLetters_5 rfl (lv_at hl 0 rfl) ?_
  refine z_get C G clX7 0 rfl 7 (by decide) m_fl_RX7_46 rfl dX7_takeLetters_6 ?_
  refine lv_aload_n hx hb dX7_takeLetters_9 rfl (lv_at hl 0 rfl) ?_
  refine z_get C G clX7 0 rfl 6 (by decide) m_fl_RX7_42 rfl dX7_takeLetters_10 ?_
  refine lv_icmp_ge (tgt := 44) hx hb dX7_takeLetters_13 (by decide) (fun c_1 => ?_) (fun c_1 => ?_)
  · have c_1n : r2.toInt ≤ x.toInt := (fa_le _ _).mp c_1
    exact z_vret C hr hlocks G (Nat.le_of_ble_eq_true rfl) (Nat.le_of_ble_eq_true rfl) dX7_takeLetters_44 ⟨x, 1, rfl, (by first | trivial | assumption | omega), (by first | trivial | assumption | omega)⟩
  · have c_1n : ¬ r2.toInt ≤ x.toInt := fun q => c_1 ((fa_le _ _).mpr q)
    refine lv_aload_n hx hb dX7_takeLetters_16 rfl (lv_at hl 0 rfl) ?_
    refine z_get C G clX7 0 rfl 5 (by decide) m_fl_RX7_32 rfl dX7_takeLetters_17 ?_
    refine lv_aload_n hx hb dX7_takeLetters_20 rfl (lv_at hl 0 rfl) ?_
    refine z_get C G clX7 0 rfl 7 (by decide) m_fl_RX7_46 rfl dX7_takeLetters_21 ?_
    refine z_bld C G 1 rfl (vp_in_iff.mpr ⟨by omega, by omega⟩) dX7_takeLetters_24 ?_
    refine lv_topi (fun v_2 ev_2 => ?_)
    subst ev_2
    refine z_Si (bc := []) (br := [[(rd, .inr (7, [.ref rl, .ref rdd, .ref rg, .int r0, .int r1, .ref tp, .int r2, .int x, .int 1, .int r5, .int r6, .int r7, .int r8]))], [(tp, .inl (T.2 1, 600, .inl ft))]]) (As := [.int (ft x.toNatClampNeg)]) (rest := []) C G (c_isLetter l T (ft x.toNatClampNeg)) (kS_RX7_148 C.2.2.2.2 (Nat.le_of_ble_eq_true rfl) (Nat.le_of_ble_eq_true rfl)) [] [0, 1] rfl rfl rfl rfl hl.1 dX7_takeLetters_25 (Nat.le_of_ble_eq_true rfl) (Nat.le_of_ble_eq_true rfl) (fun r_4 b1 H locs hw G => ?_)
    obtain ⟨rfl, hc_3⟩ := hw
    have G : zS T A s.heap s [[(rd, .inr (7, [.ref rl, .ref rdd, .ref rg, .int r0, .int r1, .ref tp, .int r2, .int x, .int 1, .int r5, .int r6, .int r7, .int r8]))], [(tp, .inl (T.2 1, 600, .inl ft))]] _ _ := G
    rcases hc_3 with rfl | rfl
    · refine lv_if_eq (tgt := 44) hx hb dX7_takeLetters_28 (by decide) (fun q => absurd q (by decide)) (fun _ => ?_)
      refine lv_aload_n hx hb dX7_takeLetters_31 rfl (lv_at hl 0 rfl) ?_
      refine lv_dup hx hb dX7_takeLetters_32 rfl ?_
      refine z_get C G clX7 0 rfl 7 (by decide) m_fl_RX7_46 rfl dX7_takeLetters_33 ?_
      refine lv_iconst (v := 1) hx hb dX7_takeLetters_36 (by decide) ?_
      refine lv_iadd hx hb dX7_takeLetters_37 ?_
      refine z_put C G clX7 0 rfl 7 (by decide) m_fl_RX7_46 rfl rfl rfl (Nat.le_of_ble_eq_true rfl) dX7_takeLetters_38 (fun H locs G => ?_)
      have G : zS T A s.heap s [[(rd, .inr (7, [.ref rl, .ref rdd, .ref rg, .int r0, .int r1, .ref tp, .int r2, .int (x + 1), .int 1, .int r5, .int r6, .int r7, .int r8]))], [(tp, .inl (T.2 1, 600, .inl ft))]] _ _ := G
      refine lv_goto (tgt := 5) hx hb dX7_takeLetters_41 (by decide) ?_
      exact ih_5 (x + 1) (show (r3.toInt ≤ (x + 1).toInt ∧ (x + 1).toInt ≤ r2.toInt) from (by have q := z_p1 (x := x) (by omega) (by omega); omega)) (show (r2.toInt - (x + 1).toInt).toNat < (r2.toInt - x.toInt).toNat from (by have q := z_p1 (x := x) (by omega) (by omega); omega)) _ _ ls G (lv_sub hl [0] rfl)
    · refine lv_if_eq (tgt := 44) hx hb dX7_takeLetters_28 (by decide) (fun _ => ?_) (fun q => absurd (by decide) q)
      exact z_vret C hr hlocks G (Nat.le_of_ble_eq_true rfl) (Nat.le_of_ble_eq_true rfl) dX7_takeLetters_44 ⟨x, 1, rfl, (by first | trivial | assumption | omega), (by first | trivial | assumption | omega)⟩
set_option maxHeartbeats 4000000 in
set_option maxRecDepth 100000 in
/-- c_takeDigits -/
theorem c_takeDigits (l : Launch) (T : zTy) (rd : Nat) (rl : Nat) (rdd : Nat) (rg : Nat) (tp : Nat) (r0 : Int32) (r1 : Int32) (r2 : Int32) (r3 : Int32) (r4 : Int32) (r5 : Int32) (r6 : Int32) (r7 : Int32) (r8 : Int32) (ft : Nat → Int32) (hR : (0 ≤ r2.toInt ∧ r2.toInt ≤ 600) ∧ (0 ≤ r3.toInt ∧ r3.toInt ≤ r2.toInt) ∧ (0 ≤ r5.toInt ∧ r5.toInt ≤ 600) ∧ 0 ≤ r6.toInt ∧ r6.toInt ≤ 1000) : zMv l T yX7_takeDigits cX7_takeDigits 1 2 0 0 [.ref rd] [[(rd, .inr (7, [.ref rl, .ref rdd, .ref rg, .int r0, .int r1, .ref tp, .int r2, .int r3, .int r4, .int r5, .int r6, .int r7, .int r8]))], [(tp, .inl (T.2 1, 600, .inl ft))]] (fun bs => ∃ (u3 : Int32) (u4 : Int32) (u6 : Int32), bs = [[(rd, .inr (7, [.ref rl, .ref rdd, .ref rg, .int r0, .int r1, .ref tp, .int r2, .int u3, .int u4, .int r5, .int u6, .int r7, .int r8]))], [(tp, .inl (T.2 1, 600, .inl ft))]] ∧ r3.toInt ≤ u3.toInt ∧ u3.toInt ≤ r2.toInt ∧ 0 ≤ u6.toInt ∧ u6.toInt ≤ 1000) := by
  refine zMv_of (own := RX7) (by decide) rfl (Nat.le_of_ble_eq_true rfl) ?_
  intro p e s m args below meth c A ls C hr hlocks hnm hAe G hl
  have hx := C.1
  have hb := C.2.1
  have hl : lv_has ls 1 [(0, .ref rd)] := hl
  refine lv_aload_n hx hb dX7_takeDigits_0 rfl (lv_at hl 0 rfl) ?_
  refine lv_iconst (v := 0) hx hb dX7_takeDigits_1 (by decide) ?_
  refine z_put C G clX7 0 rfl 10 (by decide) m_fl_RX7_141 rfl rfl rfl (Nat.le_of_ble_eq_true rfl) dX7_takeDigits_2 (fun H locs G => ?_)
  have G : zS T A s.heap s [[(rd, .inr (7, [.ref rl, .ref rdd, .ref rg, .int r0, .int r1, .ref tp, .int r2, .int r3, .int r4, .int r5, .int 0, .int r7, .int r8]))], [(tp, .inl (T.2 1, 600, .inl ft))]] _ _ := G
  refine z_loop (T := T) (α := Int32 × Int32) 5 (fun (x, y) => [[(rd, .inr (7, [.ref rl, .ref rdd, .ref rg, .int r0, .int r1, .ref tp, .int r2, .int x, .int r4, .int r5, .int y, .int r7, .int r8]))], [(tp, .inl (T.2 1, 600, .inl ft))]]) (fun (x, y) => [(0, .ref rd)]) (fun (x, y) => (r3.toInt ≤ x.toInt ∧ x.toInt ≤ r2.toInt) ∧ (0 ≤ y.toInt ∧ y.toInt ≤ 1000)) (fun (x, y) => (r2.toInt - x.toInt).toNat) ?_ (r3, 0) (show (r3.toInt ≤ r3.toInt ∧ r3.toInt ≤ r2.toInt) ∧ (0 ≤ (0 : Int32).toInt ∧ (0 : Int32).toInt ≤ 1000) from ⟨(by omega), (by decide)⟩) G (lv_sub hl [0] rfl)
  rintro ⟨x, y⟩ ⟨hx0, hy0⟩ ih_5 H locs ls G hl
  replace hx0 : (r3.toInt ≤ x.toInt ∧ x.toInt ≤ r2.toInt) := hx0
  replace hy0 : (0 ≤ y.toInt ∧ y.toInt ≤ 1000) := hy0
  replace G : zS T A s.heap s [[(rd, .inr (7, [.ref rl, .ref rdd, .ref rg, .int r0, .int r1, .ref tp, .int r2, .int x, .int r4, .int r5, .int y, .int r7, .int r8]))], [(tp, .inl (T.2 1, 600, .inl ft))]] _ _ := G
  replace hl : lv_has ls 1 [(0, .ref rd)] := hl
  refine lv_aload_n hx hb dX7_takeDigits_5 rfl (lv_at hl 0 rfl) ?_
  refine z_get C G clX7 0 rfl 7 (by decide) m_fl_RX7_46 rfl dX7_takeDigits_6 ?_
  refine lv_aload_n hx hb dX7_takeDigits_9 rfl (lv_at hl 0 rfl) ?_
  refine z_get C G clX7 0 rfl 6 (by decide) m_fl_RX7_42 rfl dX7_takeDigits_10 ?_
  refine lv_icmp_ge (tgt := 74) hx hb dX7_takeDigits_13 (by decide) (fun c_1 => ?_) (fun c_1 => ?_)
  · have c_1n : r2.toInt ≤ x.toInt := (fa_le _ _).mp c_1
    refine lv_aload_n hx hb dX7_takeDigits_74 rfl (lv_at hl 0 rfl) ?_
    refine lv_aload_n hx hb dX7_takeDigits_75 rfl (lv_at hl 0 rfl) ?_
    refine z_get C G clX7 0 rfl 7 (by decide) m_fl_RX7_46 rfl dX7_takeDigits_76 ?_
    refine lv_aload_n hx hb dX7_takeDigits_79 rfl (lv_at hl 0 rfl) ?_
    refine z_get C G clX7 0 rfl 9 (by decide) m_fl_RX7_84 rfl dX7_takeDigits_80 ?_
    refine lv_isub hx hb dX7_takeDigits_83 ?_
    refine lv_iconst (v := 2) hx hb dX7_takeDigits_84 (by decide) ?_
    refine lv_icmp_gt (tgt := 92) hx hb dX7_takeDigits_85 (by decide) (fun c_2 => ?_) (fun c_2 => ?_)
    · have c_2n : (2 : Int) < (x - r5).toInt := (fa_lt _ _).mp c_2
      refine lv_iconst (v := 4) hx hb dX7_takeDigits_92 (by decide) ?_
      refine z_put C G clX7 0 rfl 8 (by decide) m_fl_RX7_74 rfl rfl rfl (Nat.le_of_ble_eq_true rfl) dX7_takeDigits_93 (fun H locs G => ?_)
      have G : zS T A s.heap s [[(rd, .inr (7, [.ref rl, .ref rdd, .ref rg, .int r0, .int r1, .ref tp, .int r2, .int x, .int 4, .int r5, .int y, .int r7, .int r8]))], [(tp, .inl (T.2 1, 600, .inl ft))]] _ _ := G
      exact z_vret C hr hlocks G (Nat.le_of_ble_eq_true rfl) (Nat.le_of_ble_eq_true rfl) dX7_takeDigits_96 ⟨x, 4, y, rfl, (by first | trivial | assumption | omega), (by first | trivial | assumption | omega), (by first | trivial | assumption | omega), (by first | trivial | assumption | omega)⟩
    · have c_2n : ¬ (2 : Int) < (x - r5).toInt := fun q => c_2 ((fa_lt _ _).mpr q)
      refine lv_iconst (v := 2) hx hb dX7_takeDigits_88 (by decide) ?_
      refine lv_goto (tgt := 93) hx hb dX7_takeDigits_89 (by decide) ?_
      refine z_put C G clX7 0 rfl 8 (by decide) m_fl_RX7_74 rfl rfl rfl (Nat.le_of_ble_eq_true rfl) dX7_takeDigits_93 (fun H locs G => ?_)
      have G : zS T A s.heap s [[(rd, .inr (7, [.ref rl, .ref rdd, .ref rg, .int r0, .int r1, .ref tp, .int r2, .int x, .int 2, .int r5, .int y, .int r7, .int r8]))], [(tp, .inl (T.2 1, 600, .inl ft))]] _ _ := G
      exact z_vret C hr hlocks G (Nat.le_of_ble_eq_true rfl) (Nat.le_of_ble_eq_true rfl) dX7_takeDigits_96 ⟨x, 2, y, rfl, (by first | trivial | assumption | omega), (by first | trivial | assumption | omega), (by first | trivial | assumption | omega), (by first | trivial | assumption | omega)⟩
  · have c_1n : ¬ r2.toInt ≤ x.toInt := fun q => c_1 ((fa_le _ _).mpr q)
    refine lv_aload_n hx hb dX7_takeDigits_16 rfl (lv_at hl 0 rfl) ?_
    refine z_get C G clX7 0 rfl 5 (by decide) m_fl_RX7_32 rfl dX7_takeDigits_17 ?_
    refine lv_aload_n hx hb dX7_takeDigits_20 rfl (lv_at hl 0 rfl) ?_
    refine z_get C G clX7 0 rfl 7 (by decide) m_fl_RX7_46 rfl dX7_takeDigits_21 ?_
    refine z_bld C G 1 rfl (vp_in_iff.mpr ⟨by omega, by omega⟩) dX7_takeDigits_24 ?_
    refine lv_topi (fun v_3 ev_3 => ?_)
    subst ev_3
    refine z_Si (bc := []) (br := [[(rd, .inr (7, [.ref rl, .ref rdd, .ref rg, .int r0, .int r1, .ref tp, .int r2, .int x, .int r4, .int r5, .int y, .int r7, .int r8]))], [(tp, .inl (T.2 1, 600, .inl ft))]]) (As := [.int (ft x.toNatClampNeg)]) (rest := []) C G (c_isDigit l T (ft x.toNatClampNeg)) (kS_RX7_154 C.2.2.2.2 (Nat.le_of_ble_eq_true rfl) (Nat.le_of_ble_eq_true rfl)) [] [0, 1] rfl rfl rfl rfl hl.1 dX7_takeDigits_25 (Nat.le_of_ble_eq_true rfl) (Nat.le_of_ble_eq_true rfl) (fun r_5 b1 H locs hw G => ?_)
    obtain ⟨rfl, hc_4⟩ := hw
    have G : zS T A s.heap s [[(rd, .inr (7, [.ref rl, .ref rdd, .ref rg, .int r0, .int r1, .ref tp, .int r2, .int x, .int r4, .int r5, .int y, .int r7, .int r8]))], [(tp, .inl (T.2 1, 600, .inl ft))]] _ _ := G
    rcases hc_4 with ⟨rfl, h_6, h_7⟩ | rfl
    · have h_6 : 48 ≤ (ft x.toNatClampNeg).toInt := h_6
      have h_7 : (ft x.toNatClampNeg).toInt ≤ 57 := h_7
      refine lv_if_eq (tgt := 74) hx hb dX7_takeDigits_28 (by decide) (fun q => absurd q (by decide)) (fun _ => ?_)
      refine lv_aload_n hx hb dX7_takeDigits_31 rfl (lv_at hl 0 rfl) ?_
      refine lv_aload_n hx hb dX7_takeDigits_32 rfl (lv_at hl 0 rfl) ?_
      refine z_get C G clX7 0 rfl 10 (by decide) m_fl_RX7_141 rfl dX7_takeDigits_33 ?_
      refine lv_bipush (v := 10) hx hb dX7_takeDigits_36 (by decide) ?_
      refine lv_imul hx hb dX7_takeDigits_38 ?_
      refine lv_topi (fun y_8 ey_8 => ?_)
      have ey_8i : y_8.toInt = y.toInt * (10 : Int) := by rw [ey_8]; exact z_imulI (x := y) (y := (10 : Int32)) (by show -2147483648 ≤ y.toInt * (10 : Int); omega) (by show y.toInt * (10 : Int) < 2147483648; omega)
      refine lv_aload_n hx hb dX7_takeDigits_39 rfl (lv_at hl 0 rfl) ?_
      refine z_get C G clX7 0 rfl 5 (by decide) m_fl_RX7_32 rfl dX7_takeDigits_40 ?_
      refine lv_aload_n hx hb dX7_takeDigits_43 rfl (lv_at hl 0 rfl) ?_
      refine z_get C G clX7 0 rfl 7 (by decide) m_fl_RX7_46 rfl dX7_takeDigits_44 ?_
      refine z_bld C G 1 rfl (vp_in_iff.mpr ⟨by omega, by omega⟩) dX7_takeDigits_47 ?_
      refine lv_topi (fun v_9 ev_9 => ?_)
      subst ev_9
      refine lv_iadd hx hb dX7_takeDigits_48 ?_
      refine lv_topi (fun y_10 ey_10 => ?_)
      have ey_10i : y_10.toInt = y_8.toInt + (ft x.toNatClampNeg).toInt := by rw [ey_10]; exact z_iaddI (x := y_8) (y := (ft x.toNatClampNeg)) (by show -2147483648 ≤ y_8.toInt + (ft x.toNatClampNeg).toInt; omega) (by show y_8.toInt + (ft x.toNatClampNeg).toInt < 2147483648; omega)
      refine lv_bipush (v := 48) hx hb dX7_takeDigits_49 (by decide) ?_
      refine lv_isub hx hb dX7_takeDigits_51 ?_
      refine lv_topi (fun y_11 ey_11 => ?_)
      have ey_11i : y_11.toInt = y_10.toInt - (48 : Int) := by rw [ey_11]; exact z_isubI (x := y_10) (y := (48 : Int32)) (by show -2147483648 ≤ y_10.toInt - (48 : Int); omega) (by show y_10.toInt - (48 : Int) < 2147483648; omega)
      refine lv_sipush (v := 1000) hx hb dX7_takeDigits_52 (by decide) ?_
      refine va_mmin hx hb (C.2.2.1.trans hl.1.symm) C.2.2.2.1 (C.2.2.2.2 _ m_ml_RX7_36) (C.2.2.2.2 _ m_st_math_min) (C.2.2.2.2 _ m_ii_math) (C.2.2.2.2 _ m_co_math_min) (Nat.le_of_ble_eq_true rfl) (Nat.le_of_ble_eq_true rfl) (Nat.le_of_ble_eq_true rfl) (Nat.le_of_ble_eq_true rfl) dX7_takeDigits_55 ?_
      refine lv_topi (fun v_12 ev_12 => ?_)
      subst ev_12
      refine z_put C G clX7 0 rfl 10 (by decide) m_fl_RX7_141 rfl rfl rfl (Nat.le_of_ble_eq_true rfl) dX7_takeDigits_58 (fun H locs G => ?_)
      have G : zS T A s.heap s [[(rd, .inr (7, [.ref rl, .ref rdd, .ref rg, .int r0, .int r1, .ref tp, .int r2, .int x, .int r4, .int r5, .int (if 1000 < y_11 then 1000 else y_11), .int r7, .int r8]))], [(tp, .inl (T.2 1, 600, .inl ft))]] _ _ := G
      refine lv_aload_n hx hb dX7_takeDigits_61 rfl (lv_at hl 0 rfl) ?_
      refine lv_dup hx hb dX7_takeDigits_62 rfl ?_
      refine z_get C G clX7 0 rfl 7 (by decide) m_fl_RX7_46 rfl dX7_takeDigits_63 ?_
      refine lv_iconst (v := 1) hx hb dX7_takeDigits_66 (by decide) ?_
      refine lv_iadd hx hb dX7_takeDigits_67 ?_
      refine z_put C G clX7 0 rfl 7 (by decide) m_fl_RX7_46 rfl rfl rfl (Nat.le_of_ble_eq_true rfl) dX7_takeDigits_68 (fun H locs G => ?_)
      have G : zS T A s.heap s [[(rd, .inr (7, [.ref rl, .ref rdd, .ref rg, .int r0, .int r1, .ref tp, .int r2, .int (x + 1), .int r4, .int r5, .int (if 1000 < y_11 then 1000 else y_11), .int r7, .int r8]))], [(tp, .inl (T.2 1, 600, .inl ft))]] _ _ := G
      refine lv_goto (tgt := 5) hx hb dX7_takeDigits_71 (by decide) ?_
      exact ih_5 ((x + 1), (if 1000 < y_11 then 1000 else y_11)) (show (r3.toInt ≤ (x + 1).toInt ∧ (x + 1).toInt ≤ r2.toInt) ∧ (0 ≤ (if 1000 < y_11 then 1000 else y_11).toInt ∧ (if 1000 < y_11 then 1000 else y_11).toInt ≤ 1000) from ⟨(by have q := z_p1 (x := x) (by omega) (by omega); omega), (z_min1k (by omega))⟩) (show (r2.toInt - (x + 1).toInt).toNat < (r2.toInt - x.toInt).toNat from (by have q := z_p1 (x := x) (by omega) (by omega); omega)) _ _ ls G (lv_sub hl [0] rfl)
    · refine lv_if_eq (tgt := 74) hx hb dX7_takeDigits_28 (by decide) (fun _ => ?_) (fun q => absurd (by decide) q)
      refine lv_aload_n hx hb dX7_takeDigits_74 rfl (lv_at hl 0 rfl) ?_
      refine lv_aload_n hx hb dX7_takeDigits_75 rfl (lv_at hl 0 rfl) ?_
      refine z_get C G clX7 0 rfl 7 (by decide) m_fl_RX7_46 rfl dX7_takeDigits_76 ?_
      refine lv_aload_n hx hb dX7_takeDigits_79 rfl (lv_at hl 0 rfl) ?_
      refine z_get C G clX7 0 rfl 9 (by decide) m_fl_RX7_84 rfl dX7_takeDigits_80 ?_
      refine lv_isub hx hb dX7_takeDigits_83 ?_
      refine lv_iconst (v := 2) hx hb dX7_takeDigits_84 (by decide) ?_
      refine lv_icmp_gt (tgt := 92) hx hb dX7_takeDigits_85 (by decide) (fun c_13 => ?_) (fun c_13 => ?_)
      · have c_13n : (2 : Int) < (x - r5).toInt := (fa_lt _ _).mp c_13
        refine lv_iconst (v := 4) hx hb dX7_takeDigits_92 (by decide) ?_
        refine z_put C G clX7 0 rfl 8 (by decide) m_fl_RX7_74 rfl rfl rfl (Nat.le_of_ble_eq_true rfl) dX7_takeDigits_93 (fun H locs G => ?_)
        have G : zS T A s.heap s [[(rd, .inr (7, [.ref rl, .ref rdd, .ref rg, .int r0, .int r1, .ref tp, .int r2, .int x, .int 4, .int r5, .int y, .int r7, .int r8]))], [(tp, .inl (T.2 1, 600, .inl ft))]] _ _ := G
        exact z_vret C hr hlocks G (Nat.le_of_ble_eq_true rfl) (Nat.le_of_ble_eq_true rfl) dX7_takeDigits_96 ⟨x, 4, y, rfl, (by first | trivial | assumption | omega), (by first | trivial | assumption | omega), (by first | trivial | assumption | omega), (by first | trivial | assumption | omega)⟩
      · have c_13n : ¬ (2 : Int) < (x - r5).toInt := fun q => c_13 ((fa_lt _ _).mpr q)
        refine lv_iconst (v := 2) hx hb dX7_takeDigits_88 (by decide) ?_
        refine lv_goto (tgt := 93) hx hb dX7_takeDigits_89 (by decide) ?_
        refine z_put C G clX7 0 rfl 8 (by decide) m_fl_RX7_74 rfl rfl rfl (Nat.le_of_ble_eq_true rfl) dX7_takeDigits_93 (fun H locs G => ?_)
        have G : zS T A s.heap s [[(rd, .inr (7, [.ref rl, .ref rdd, .ref rg, .int r0, .int r1, .ref tp, .int r2, .int x, .int 2, .int r5, .int y, .int r7, .int r8]))], [(tp, .inl (T.2 1, 600, .inl ft))]] _ _ := G
        exact z_vret C hr hlocks G (Nat.le_of_ble_eq_true rfl) (Nat.le_of_ble_eq_true rfl) dX7_takeDigits_96 ⟨x, 2, y, rfl, (by first | trivial | assumption | omega), (by first | trivial | assumption | omega), (by first | trivial | assumption | omega), (by first | trivial | assumption | omega)⟩
set_option maxHeartbeats 4000000 in
set_option maxRecDepth 100000 in
/-- c_nextToken -/
theorem c_nextToken (l : Launch) (T : zTy) (rd : Nat) (rl : Nat) (rdd : Nat) (rg : Nat) (tp : Nat) (r0 : Int32) (r1 : Int32) (r2 : Int32) (r3 : Int32) (r4 : Int32) (r5 : Int32) (r6 : Int32) (r7 : Int32) (r8 : Int32) (ft : Nat → Int32) (hR : (0 ≤ r2.toInt ∧ r2.toInt ≤ 600) ∧ (0 ≤ r3.toInt ∧ r3.toInt ≤ r2.toInt) ∧ (0 ≤ r5.toInt ∧ r5.toInt ≤ 600) ∧ 0 ≤ r6.toInt ∧ r6.toInt ≤ 1000) : zMv l T yX7_nextToken cX7_nextToken 2 3 0 0 [.ref rd] [[(rd, .inr (7, [.ref rl, .ref rdd, .ref rg, .int r0, .int r1, .ref tp, .int r2, .int r3, .int r4, .int r5, .int r6, .int r7, .int r8]))], [(tp, .inl (T.2 1, 600, .inl ft))]] (fun bs => ∃ (u3 : Int32) (u4 : Int32) (u5 : Int32) (u6 : Int32), bs = [[(rd, .inr (7, [.ref rl, .ref rdd, .ref rg, .int r0, .int r1, .ref tp, .int r2, .int u3, .int u4, .int u5, .int u6, .int r7, .int r8]))], [(tp, .inl (T.2 1, 600, .inl ft))]] ∧ r3.toInt ≤ u3.toInt ∧ (0 ≤ r2.toInt ∧ r2.toInt ≤ 600) ∧ (0 ≤ u3.toInt ∧ u3.toInt ≤ r2.toInt) ∧ (0 ≤ u5.toInt ∧ u5.toInt ≤ 600) ∧ 0 ≤ u6.toInt ∧ u6.toInt ≤ 1000) := by
  refine zMv_of (own := RX7) (by decide) rfl (Nat.le_of_ble_eq_true rfl) ?_
  intro p e s m args below meth c A ls C hr hlocks hnm hAe G hl
  have hx := C.1
  have hb := C.2.1
  have hl : lv_has ls 2 [(0, .ref rd)] := hl
  refine lv_aload_n hx hb dX7_nextToken_0 rfl (lv_at hl 0 rfl) ?_
  refine z_get C G clX7 0 rfl 7 (by decide) m_fl_RX7_46 rfl dX7_nextToken_1 ?_
  refine lv_istore_n (lv' := [(1, .int r3), (0, .ref rd)]) hx hb dX7_nextToken_4 rfl hl (by decide) rfl (fun ls hl => ?_)
  refine z_loop (T := T) (α := Int32) 5 (fun x => [[(rd, .inr (7, [.ref rl, .ref rdd, .ref rg, .int r0, .int r1, .ref tp, .int r2, .int x, .int r4, .int r5, .int r6, .int r7, .int r8]))], [(tp, .inl (T.2 1, 600, .inl ft))]]) (fun x => [(1, .int x), (0, .ref rd)]) (fun x => (r3.toInt ≤ x.toInt ∧ x.toInt ≤ r2.toInt)) (fun x => (r2.toInt - x.toInt).toNat) ?_ r3 (show (r3.toInt ≤ r3.toInt ∧ r3.toInt ≤ r2.toInt) from (by omega)) G (lv_sub hl [0, 1] rfl)
  rintro x hx0 ih_5 H locs ls G hl
  replace hx0 : (r3.toInt ≤ x.toInt ∧ x.toInt ≤ r2.toInt) := hx0
  replace G : zS T A s.heap s [[(rd, .inr (7, [.ref rl, .ref rdd, .ref rg, .int r0, .int r1, .ref tp, .int r2, .int x, .int r4, .int r5, .int r6, .int r7, .int r8]))], [(tp, .inl (T.2 1, 600, .inl ft))]] _ _ := G
  replace hl : lv_has ls 2 [(1, .int x), (0, .ref rd)] := hl
  refine lv_iload_n hx hb dX7_nextToken_5 rfl (lv_at hl 0 rfl) ?_
  refine lv_aload_n hx hb dX7_nextToken_6 rfl (lv_at hl 1 rfl) ?_
  refine z_get C G clX7 0 rfl 6 (by decide) m_fl_RX7_42 rfl dX7_nextToken_7 ?_
  refine lv_icmp_ge (tgt := 38) hx hb dX7_nextToken_10 (by decide) (fun c_1 => ?_) (fun c_1 => ?_)
  · have c_1n : r2.toInt ≤ x.toInt := (fa_le _ _).mp c_1
    refine lv_aload_n hx hb dX7_nextToken_38 rfl (lv_at hl 1 rfl) ?_
    refine lv_aload_n hx hb dX7_nextToken_39 rfl (lv_at hl 1 rfl) ?_
    refine z_get C G clX7 0 rfl 7 (by decide) m_fl_RX7_46 rfl dX7_nextToken_40 ?_
    refine z_put C G clX7 0 rfl 9 (by decide) m_fl_RX7_84 rfl rfl rfl (Nat.le_of_ble_eq_true rfl) dX7_nextToken_43 (fun H locs G => ?_)
    have G : zS T A s.heap s [[(rd, .inr (7, [.ref rl, .ref rdd, .ref rg, .int r0, .int r1, .ref tp, .int r2, .int x, .int r4, .int x, .int r6, .int r7, .int r8]))], [(tp, .inl (T.2 1, 600, .inl ft))]] _ _ := G
    refine lv_aload_n hx hb dX7_nextToken_46 rfl (lv_at hl 1 rfl) ?_
    refine z_get C G clX7 0 rfl 7 (by decide) m_fl_RX7_46 rfl dX7_nextToken_47 ?_
    refine lv_aload_n hx hb dX7_nextToken_50 rfl (lv_at hl 1 rfl) ?_
    refine z_get C G clX7 0 rfl 6 (by decide) m_fl_RX7_42 rfl dX7_nextToken_51 ?_
    refine lv_icmp_lt (tgt := 65) hx hb dX7_nextToken_54 (by decide) (fun c_2 => ?_) (fun c_2 => ?_)
    · have c_2n : x.toInt < r2.toInt := (fa_lt _ _).mp c_2
      refine lv_aload_n hx hb dX7_nextToken_65 rfl (lv_at hl 1 rfl) ?_
      refine z_get C G clX7 0 rfl 5 (by decide) m_fl_RX7_32 rfl dX7_nextToken_66 ?_
      refine lv_aload_n hx hb dX7_nextToken_69 rfl (lv_at hl 1 rfl) ?_
      refine z_get C G clX7 0 rfl 7 (by decide) m_fl_RX7_46 rfl dX7_nextToken_70 ?_
      refine z_bld C G 1 rfl (vp_in_iff.mpr ⟨by omega, by omega⟩) dX7_nextToken_73 ?_
      refine lv_topi (fun v_3 ev_3 => ?_)
      subst ev_3
      refine z_Si (bc := []) (br := [[(rd, .inr (7, [.ref rl, .ref rdd, .ref rg, .int r0, .int r1, .ref tp, .int r2, .int x, .int r4, .int x, .int r6, .int r7, .int r8]))], [(tp, .inl (T.2 1, 600, .inl ft))]]) (As := [.int (ft x.toNatClampNeg)]) (rest := []) C G (c_isLetter l T (ft x.toNatClampNeg)) (kS_RX7_148 C.2.2.2.2 (Nat.le_of_ble_eq_true rfl) (Nat.le_of_ble_eq_true rfl)) [] [0, 1] rfl rfl rfl rfl hl.1 dX7_nextToken_74 (Nat.le_of_ble_eq_true rfl) (Nat.le_of_ble_eq_true rfl) (fun r_5 b1 H locs hw G => ?_)
      obtain ⟨rfl, hc_4⟩ := hw
      have G : zS T A s.heap s [[(rd, .inr (7, [.ref rl, .ref rdd, .ref rg, .int r0, .int r1, .ref tp, .int r2, .int x, .int r4, .int x, .int r6, .int r7, .int r8]))], [(tp, .inl (T.2 1, 600, .inl ft))]] _ _ := G
      rcases hc_4 with rfl | rfl
      · refine lv_if_eq (tgt := 87) hx hb dX7_nextToken_77 (by decide) (fun q => absurd q (by decide)) (fun _ => ?_)
        refine lv_aload_n hx hb dX7_nextToken_80 rfl (lv_at hl 1 rfl) ?_
        refine z_Vv (bc := [[(rd, .inr (7, [.ref rl, .ref rdd, .ref rg, .int r0, .int r1, .ref tp, .int r2, .int x, .int r4, .int x, .int r6, .int r7, .int r8]))], [(tp, .inl (T.2 1, 600, .inl ft))]]) (br := []) (As := []) (rest := []) C G (c_takeLetters l T rd rl rdd rg tp r0 r1 r2 x r4 x r6 r7 r8 ft (by omega)) (kV_RX7_151 C.2.2.2.2 (Nat.le_of_ble_eq_true rfl) (Nat.le_of_ble_eq_true rfl)) [0, 1] [] rfl rfl (ci := 7) (qc := (RX7, TX7, 13)) rfl rfl (List.mem_flatten.mpr ⟨_, List.mem_of_getElem? (i := 0) rfl, List.mem_cons_self⟩) rfl rfl hl.1 dX7_nextToken_81 (Nat.le_of_ble_eq_true rfl) (Nat.le_of_ble_eq_true rfl) (fun b1 H locs hw G => ?_)
        obtain ⟨u3_6, u4_7, rfl, h_8, h_9⟩ := hw
        have G : zS T A s.heap s [[(rd, .inr (7, [.ref rl, .ref rdd, .ref rg, .int r0, .int r1, .ref tp, .int r2, .int u3_6, .int u4_7, .int x, .int r6, .int r7, .int r8]))], [(tp, .inl (T.2 1, 600, .inl ft))]] _ _ := G
        refine lv_goto (tgt := 142) hx hb dX7_nextToken_84 (by decide) ?_
        exact z_vret C hr hlocks G (Nat.le_of_ble_eq_true rfl) (Nat.le_of_ble_eq_true rfl) dX7_nextToken_142 ⟨u3_6, u4_7, x, r6, rfl, (by first | trivial | assumption | omega), (by first | trivial | assumption | omega)⟩
      · refine lv_if_eq (tgt := 87) hx hb dX7_nextToken_77 (by decide) (fun _ => ?_) (fun q => absurd (by decide) q)
        refine lv_aload_n hx hb dX7_nextToken_87 rfl (lv_at hl 1 rfl) ?_
        refine z_get C G clX7 0 rfl 5 (by decide) m_fl_RX7_32 rfl dX7_nextToken_88 ?_
        refine lv_aload_n hx hb dX7_nextToken_91 rfl (lv_at hl 1 rfl) ?_
        refine z_get C G clX7 0 rfl 7 (by decide) m_fl_RX7_46 rfl dX7_nextToken_92 ?_
        refine z_bld C G 1 rfl (vp_in_iff.mpr ⟨by omega, by omega⟩) dX7_nextToken_95 ?_
        refine lv_topi (fun v_11 ev_11 => ?_)
        subst ev_11
        refine z_Si (bc := []) (br := [[(rd, .inr (7, [.ref rl, .ref rdd, .ref rg, .int r0, .int r1, .ref tp, .int r2, .int x, .int r4, .int x, .int r6, .int r7, .int r8]))], [(tp, .inl (T.2 1, 600, .inl ft))]]) (As := [.int (ft x.toNatClampNeg)]) (rest := []) C G (c_isDigit l T (ft x.toNatClampNeg)) (kS_RX7_154 C.2.2.2.2 (Nat.le_of_ble_eq_true rfl) (Nat.le_of_ble_eq_true rfl)) [] [0, 1] rfl rfl rfl rfl hl.1 dX7_nextToken_96 (Nat.le_of_ble_eq_true rfl) (Nat.le_of_ble_eq_true rfl) (fun r_13 b1 H locs hw G => ?_)
        obtain ⟨rfl, hc_12⟩ := hw
        have G : zS T A s.heap s [[(rd, .inr (7, [.ref rl, .ref rdd, .ref rg, .int r0, .int r1, .ref tp, .int r2, .int x, .int r4, .int x, .int r6, .int r7, .int r8]))], [(tp, .inl (T.2 1, 600, .inl ft))]] _ _ := G
        rcases hc_12 with ⟨rfl, h_14, h_15⟩ | rfl
        · have h_14 : 48 ≤ (ft x.toNatClampNeg).toInt := h_14
          have h_15 : (ft x.toNatClampNeg).toInt ≤ 57 := h_15
          refine lv_if_eq (tgt := 109) hx hb dX7_nextToken_99 (by decide) (fun q => absurd q (by decide)) (fun _ => ?_)
          refine lv_aload_n hx hb dX7_nextToken_102 rfl (lv_at hl 1 rfl) ?_
          refine z_Vv (bc := [[(rd, .inr (7, [.ref rl, .ref rdd, .ref rg, .int r0, .int r1, .ref tp, .int r2, .int x, .int r4, .int x, .int r6, .int r7, .int r8]))], [(tp, .inl (T.2 1, 600, .inl ft))]]) (br := []) (As := []) (rest := []) C G (c_takeDigits l T rd rl rdd rg tp r0 r1 r2 x r4 x r6 r7 r8 ft (by omega)) (kV_RX7_157 C.2.2.2.2 (Nat.le_of_ble_eq_true rfl) (Nat.le_of_ble_eq_true rfl)) [0, 1] [] rfl rfl (ci := 7) (qc := (RX7, TX7, 13)) rfl rfl (List.mem_flatten.mpr ⟨_, List.mem_of_getElem? (i := 0) rfl, List.mem_cons_self⟩) rfl rfl hl.1 dX7_nextToken_103 (Nat.le_of_ble_eq_true rfl) (Nat.le_of_ble_eq_true rfl) (fun b1 H locs hw G => ?_)
          obtain ⟨u3_16, u4_17, u6_18, rfl, h_19, h_20, h_21, h_22⟩ := hw
          have G : zS T A s.heap s [[(rd, .inr (7, [.ref rl, .ref rdd, .ref rg, .int r0, .int r1, .ref tp, .int r2, .int u3_16, .int u4_17, .int x, .int u6_18, .int r7, .int r8]))], [(tp, .inl (T.2 1, 600, .inl ft))]] _ _ := G
          refine lv_goto (tgt := 142) hx hb dX7_nextToken_106 (by decide) ?_
          exact z_vret C hr hlocks G (Nat.le_of_ble_eq_true rfl) (Nat.le_of_ble_eq_true rfl) dX7_nextToken_142 ⟨u3_16, u4_17, x, u6_18, rfl, (by first | trivial | assumption | omega), (by first | trivial | assumption | omega)⟩
        · refine lv_if_eq (tgt := 109) hx hb dX7_nextToken_99 (by decide) (fun _ => ?_) (fun q => absurd (by decide) q)
          refine lv_aload_n hx hb dX7_nextToken_109 rfl (lv_at hl 1 rfl) ?_
          refine lv_aload_n hx hb dX7_nextToken_110 rfl (lv_at hl 1 rfl) ?_
          refine z_get C G clX7 0 rfl 5 (by decide) m_fl_RX7_32 rfl dX7_nextToken_111 ?_
          refine lv_aload_n hx hb dX7_nextToken_114 rfl (lv_at hl 1 rfl) ?_
          refine z_get C G clX7 0 rfl 7 (by decide) m_fl_RX7_46 rfl dX7_nextToken_115 ?_
          refine z_bld C G 1 rfl (vp_in_iff.mpr ⟨by omega, by omega⟩) dX7_nextToken_118 ?_
          refine lv_topi (fun v_24 ev_24 => ?_)
          subst ev_24
          refine lv_bipush (v := 59) hx hb dX7_nextToken_119 (by decide) ?_
          refine lv_icmp_ne (tgt := 128) hx hb dX7_nextToken_121 (by decide) (fun c_25 => ?_) (fun c_25 => ?_)
          · have c_25n : ¬ (ft x.toNatClampNeg).toInt = (59 : Int) := fun q => c_25 ((fa_eq _ _).mpr q)
            refine lv_iconst (v := 4) hx hb dX7_nextToken_128 (by decide) ?_
            refine z_put C G clX7 0 rfl 8 (by decide) m_fl_RX7_74 rfl rfl rfl (Nat.le_of_ble_eq_true rfl) dX7_nextToken_129 (fun H locs G => ?_)
            have G : zS T A s.heap s [[(rd, .inr (7, [.ref rl, .ref rdd, .ref rg, .int r0, .int r1, .ref tp, .int r2, .int x, .int 4, .int x, .int r6, .int r7, .int r8]))], [(tp, .inl (T.2 1, 600, .inl ft))]] _ _ := G
            refine lv_aload_n hx hb dX7_nextToken_132 rfl (lv_at hl 1 rfl) ?_
            refine lv_dup hx hb dX7_nextToken_133 rfl ?_
            refine z_get C G clX7 0 rfl 7 (by decide) m_fl_RX7_46 rfl dX7_nextToken_134 ?_
            refine lv_iconst (v := 1) hx hb dX7_nextToken_137 (by decide) ?_
            refine lv_iadd hx hb dX7_nextToken_138 ?_
            refine lv_topi (fun y_26 ey_26 => ?_)
            have ey_26i : y_26.toInt = x.toInt + (1 : Int) := by rw [ey_26]; exact z_iaddI (x := x) (y := (1 : Int32)) (by show -2147483648 ≤ x.toInt + (1 : Int); omega) (by show x.toInt + (1 : Int) < 2147483648; omega)
            refine z_put C G clX7 0 rfl 7 (by decide) m_fl_RX7_46 rfl rfl rfl (Nat.le_of_ble_eq_true rfl) dX7_nextToken_139 (fun H locs G => ?_)
            have G : zS T A s.heap s [[(rd, .inr (7, [.ref rl, .ref rdd, .ref rg, .int r0, .int r1, .ref tp, .int r2, .int y_26, .int 4, .int x, .int r6, .int r7, .int r8]))], [(tp, .inl (T.2 1, 600, .inl ft))]] _ _ := G
            exact z_vret C hr hlocks G (Nat.le_of_ble_eq_true rfl) (Nat.le_of_ble_eq_true rfl) dX7_nextToken_142 ⟨y_26, 4, x, r6, rfl, (by first | trivial | assumption | omega), (by first | trivial | assumption | omega)⟩
          · have c_25n : (ft x.toNatClampNeg).toInt = (59 : Int) := (fa_eq _ _).mp c_25
            refine lv_iconst (v := 3) hx hb dX7_nextToken_124 (by decide) ?_
            refine lv_goto (tgt := 129) hx hb dX7_nextToken_125 (by decide) ?_
            refine z_put C G clX7 0 rfl 8 (by decide) m_fl_RX7_74 rfl rfl rfl (Nat.le_of_ble_eq_true rfl) dX7_nextToken_129 (fun H locs G => ?_)
            have G : zS T A s.heap s [[(rd, .inr (7, [.ref rl, .ref rdd, .ref rg, .int r0, .int r1, .ref tp, .int r2, .int x, .int 3, .int x, .int r6, .int r7, .int r8]))], [(tp, .inl (T.2 1, 600, .inl ft))]] _ _ := G
            refine lv_aload_n hx hb dX7_nextToken_132 rfl (lv_at hl 1 rfl) ?_
            refine lv_dup hx hb dX7_nextToken_133 rfl ?_
            refine z_get C G clX7 0 rfl 7 (by decide) m_fl_RX7_46 rfl dX7_nextToken_134 ?_
            refine lv_iconst (v := 1) hx hb dX7_nextToken_137 (by decide) ?_
            refine lv_iadd hx hb dX7_nextToken_138 ?_
            refine lv_topi (fun y_27 ey_27 => ?_)
            have ey_27i : y_27.toInt = x.toInt + (1 : Int) := by rw [ey_27]; exact z_iaddI (x := x) (y := (1 : Int32)) (by show -2147483648 ≤ x.toInt + (1 : Int); omega) (by show x.toInt + (1 : Int) < 2147483648; omega)
            refine z_put C G clX7 0 rfl 7 (by decide) m_fl_RX7_46 rfl rfl rfl (Nat.le_of_ble_eq_true rfl) dX7_nextToken_139 (fun H locs G => ?_)
            have G : zS T A s.heap s [[(rd, .inr (7, [.ref rl, .ref rdd, .ref rg, .int r0, .int r1, .ref tp, .int r2, .int y_27, .int 3, .int x, .int r6, .int r7, .int r8]))], [(tp, .inl (T.2 1, 600, .inl ft))]] _ _ := G
            exact z_vret C hr hlocks G (Nat.le_of_ble_eq_true rfl) (Nat.le_of_ble_eq_true rfl) dX7_nextToken_142 ⟨y_27, 3, x, r6, rfl, (by first | trivial | assumption | omega), (by first | trivial | assumption | omega)⟩
    · have c_2n : ¬ x.toInt < r2.toInt := fun q => c_2 ((fa_lt _ _).mpr q)
      refine lv_aload_n hx hb dX7_nextToken_57 rfl (lv_at hl 1 rfl) ?_
      refine lv_iconst (v := 0) hx hb dX7_nextToken_58 (by decide) ?_
      refine z_put C G clX7 0 rfl 8 (by decide) m_fl_RX7_74 rfl rfl rfl (Nat.le_of_ble_eq_true rfl) dX7_nextToken_59 (fun H locs G => ?_)
      have G : zS T A s.heap s [[(rd, .inr (7, [.ref rl, .ref rdd, .ref rg, .int r0, .int r1, .ref tp, .int r2, .int x, .int 0, .int x, .int r6, .int r7, .int r8]))], [(tp, .inl (T.2 1, 600, .inl ft))]] _ _ := G
      refine lv_goto (tgt := 142) hx hb dX7_nextToken_62 (by decide) ?_
      exact z_vret C hr hlocks G (Nat.le_of_ble_eq_true rfl) (Nat.le_of_ble_eq_true rfl) dX7_nextToken_142 ⟨x, 0, x, r6, rfl, (by first | trivial | assumption | omega), (by first | trivial | assumption | omega)⟩
  · have c_1n : ¬ r2.toInt ≤ x.toInt := fun q => c_1 ((fa_le _ _).mpr q)
    refine lv_aload_n hx hb dX7_nextToken_13 rfl (lv_at hl 1 rfl) ?_
    refine z_get C G clX7 0 rfl 5 (by decide) m_fl_RX7_32 rfl dX7_nextToken_14 ?_
    refine lv_iload_n hx hb dX7_nextToken_17 rfl (lv_at hl 0 rfl) ?_
    refine z_bld C G 1 rfl (vp_in_iff.mpr ⟨by omega, by omega⟩) dX7_nextToken_18 ?_
    refine lv_topi (fun v_28 ev_28 => ?_)
    subst ev_28
    refine z_Si (bc := []) (br := [[(rd, .inr (7, [.ref rl, .ref rdd, .ref rg, .int r0, .int r1, .ref tp, .int r2, .int x, .int r4, .int r5, .int r6, .int r7, .int r8]))], [(tp, .inl (T.2 1, 600, .inl ft))]]) (As := [.int (ft x.toNatClampNeg)]) (rest := []) C G (c_isBlank l T (ft x.toNatClampNeg)) (kS_RX7_144 C.2.2.2.2 (Nat.le_of_ble_eq_true rfl) (Nat.le_of_ble_eq_true rfl)) [] [0, 1] rfl rfl rfl rfl hl.1 dX7_nextToken_19 (Nat.le_of_ble_eq_true rfl) (Nat.le_of_ble_eq_true rfl) (fun r_30 b1 H locs hw G => ?_)
    obtain ⟨rfl, hc_29⟩ := hw
    have G : zS T A s.heap s [[(rd, .inr (7, [.ref rl, .ref rdd, .ref rg, .int r0, .int r1, .ref tp, .int r2, .int x, .int r4, .int r5, .int r6, .int r7, .int r8]))], [(tp, .inl (T.2 1, 600, .inl ft))]] _ _ := G
    rcases hc_29 with rfl | rfl
    · refine lv_if_eq (tgt := 38) hx hb dX7_nextToken_22 (by decide) (fun q => absurd q (by decide)) (fun _ => ?_)
      refine lv_aload_n hx hb dX7_nextToken_25 rfl (lv_at hl 1 rfl) ?_
      refine lv_iload_n hx hb dX7_nextToken_26 rfl (lv_at hl 0 rfl) ?_
      refine lv_iconst (v := 1) hx hb dX7_nextToken_27 (by decide) ?_
      refine lv_iadd hx hb dX7_nextToken_28 ?_
      refine z_put C G clX7 0 rfl 7 (by decide) m_fl_RX7_46 rfl rfl rfl (Nat.le_of_ble_eq_true rfl) dX7_nextToken_29 (fun H locs G => ?_)
      have G : zS T A s.heap s [[(rd, .inr (7, [.ref rl, .ref rdd, .ref rg, .int r0, .int r1, .ref tp, .int r2, .int (x + 1), .int r4, .int r5, .int r6, .int r7, .int r8]))], [(tp, .inl (T.2 1, 600, .inl ft))]] _ _ := G
      refine lv_iinc (v := x + 1) (lv' := [(1, .int (x + 1)), (0, .ref rd)]) hx hb dX7_nextToken_32 hl (k := 0) rfl rfl (by decide) rfl (fun ls hl => ?_)
      refine lv_goto (tgt := 5) hx hb dX7_nextToken_35 (by decide) ?_
      exact ih_5 (x + 1) (show (r3.toInt ≤ (x + 1).toInt ∧ (x + 1).toInt ≤ r2.toInt) from (by have q := z_p1 (x := x) (by omega) (by omega); omega)) (show (r2.toInt - (x + 1).toInt).toNat < (r2.toInt - x.toInt).toNat from (by have q := z_p1 (x := x) (by omega) (by omega); omega)) _ _ ls G (lv_sub hl [0, 1] rfl)
    · refine lv_if_eq (tgt := 38) hx hb dX7_nextToken_22 (by decide) (fun _ => ?_) (fun q => absurd (by decide) q)
      refine lv_aload_n hx hb dX7_nextToken_38 rfl (lv_at hl 1 rfl) ?_
      refine lv_aload_n hx hb dX7_nextToken_39 rfl (lv_at hl 1 rfl) ?_
      refine z_get C G clX7 0 rfl 7 (by decide) m_fl_RX7_46 rfl dX7_nextToken_40 ?_
      refine z_put C G clX7 0 rfl 9 (by decide) m_fl_RX7_84 rfl rfl rfl (Nat.le_of_ble_eq_true rfl) dX7_nextToken_43 (fun H locs G => ?_)
      have G : zS T A s.heap s [[(rd, .inr (7, [.ref rl, .ref rdd, .ref rg, .int r0, .int r1, .ref tp, .int r2, .int x, .int r4, .int x, .int r6, .int r7, .int r8]))], [(tp, .inl (T.2 1, 600, .inl ft))]] _ _ := G
      refine lv_aload_n hx hb dX7_nextToken_46 rfl (lv_at hl 1 rfl) ?_
      refine z_get C G clX7 0 rfl 7 (by decide) m_fl_RX7_46 rfl dX7_nextToken_47 ?_
      refine lv_aload_n hx hb dX7_nextToken_50 rfl (lv_at hl 1 rfl) ?_
      refine z_get C G clX7 0 rfl 6 (by decide) m_fl_RX7_42 rfl dX7_nextToken_51 ?_
      refine lv_icmp_lt (tgt := 65) hx hb dX7_nextToken_54 (by decide) (fun c_31 => ?_) (fun c_31 => ?_)
      · have c_31n : x.toInt < r2.toInt := (fa_lt _ _).mp c_31
        refine lv_aload_n hx hb dX7_nextToken_65 rfl (lv_at hl 1 rfl) ?_
        refine z_get C G clX7 0 rfl 5 (by decide) m_fl_RX7_32 rfl dX7_nextToken_66 ?_
        refine lv_aload_n hx hb dX7_nextToken_69 rfl (lv_at hl 1 rfl) ?_
        refine z_get C G clX7 0 rfl 7 (by decide) m_fl_RX7_46 rfl dX7_nextToken_70 ?_
        refine z_bld C G 1 rfl (vp_in_iff.mpr ⟨by omega, by omega⟩) dX7_nextToken_73 ?_
        refine lv_topi (fun v_32 ev_32 => ?_)
        subst ev_32
        refine z_Si (bc := []) (br := [[(rd, .inr (7, [.ref rl, .ref rdd, .ref rg, .int r0, .int r1, .ref tp, .int r2, .int x, .int r4, .int x, .int r6, .int r7, .int r8]))], [(tp, .inl (T.2 1, 600, .inl ft))]]) (As := [.int (ft x.toNatClampNeg)]) (rest := []) C G (c_isLetter l T (ft x.toNatClampNeg)) (kS_RX7_148 C.2.2.2.2 (Nat.le_of_ble_eq_true rfl) (Nat.le_of_ble_eq_true rfl)) [] [0, 1] rfl rfl rfl rfl hl.1 dX7_nextToken_74 (Nat.le_of_ble_eq_true rfl) (Nat.le_of_ble_eq_true rfl) (fun r_34 b1 H locs hw G => ?_)
        obtain ⟨rfl, hc_33⟩ := hw
        have G : zS T A s.heap s [[(rd, .inr (7, [.ref rl, .ref rdd, .ref rg, .int r0, .int r1, .ref tp, .int r2, .int x, .int r4, .int x, .int r6, .int r7, .int r8]))], [(tp, .inl (T.2 1, 600, .inl ft))]] _ _ := G
        rcases hc_33 with rfl | rfl
        · refine lv_if_eq (tgt := 87) hx hb dX7_nextToken_77 (by decide) (fun q => absurd q (by decide)) (fun _ => ?_)
          refine lv_aload_n hx hb dX7_nextToken_80 rfl (lv_at hl 1 rfl) ?_
          refine z_Vv (bc := [[(rd, .inr (7, [.ref rl, .ref rdd, .ref rg, .int r0, .int r1, .ref tp, .int r2, .int x, .int r4, .int x, .int r6, .int r7, .int r8]))], [(tp, .inl (T.2 1, 600, .inl ft))]]) (br := []) (As := []) (rest := []) C G (c_takeLetters l T rd rl rdd rg tp r0 r1 r2 x r4 x r6 r7 r8 ft (by omega)) (kV_RX7_151 C.2.2.2.2 (Nat.le_of_ble_eq_true rfl) (Nat.le_of_ble_eq_true rfl)) [0, 1] [] rfl rfl (ci := 7) (qc := (RX7, TX7, 13)) rfl rfl (List.mem_flatten.mpr ⟨_, List.mem_of_getElem? (i := 0) rfl, List.mem_cons_self⟩) rfl rfl hl.1 dX7_nextToken_81 (Nat.le_of_ble_eq_true rfl) (Nat.le_of_ble_eq_true rfl) (fun b1 H locs hw G => ?_)
          obtain ⟨u3_35, u4_36, rfl, h_37, h_38⟩ := hw
          have G : zS T A s.heap s [[(rd, .inr (7, [.ref rl, .ref rdd, .ref rg, .int r0, .int r1, .ref tp, .int r2, .int u3_35, .int u4_36, .int x, .int r6, .int r7, .int r8]))], [(tp, .inl (T.2 1, 600, .inl ft))]] _ _ := G
          refine lv_goto (tgt := 142) hx hb dX7_nextToken_84 (by decide) ?_
          exact z_vret C hr hlocks G (Nat.le_of_ble_eq_true rfl) (Nat.le_of_ble_eq_true rfl) dX7_nextToken_142 ⟨u3_35, u4_36, x, r6, rfl, (by first | trivial | assumption | omega), (by first | trivial | assumption | omega)⟩
        · refine lv_if_eq (tgt := 87) hx hb dX7_nextToken_77 (by decide) (fun _ => ?_) (fun q => absurd (by decide) q)
          refine lv_aload_n hx hb dX7_nextToken_87 rfl (lv_at hl 1 rfl) ?_
          refine z_get C G clX7 0 rfl 5 (by decide) m_fl_RX7_32 rfl dX7_nextToken_88 ?_
          refine lv_aload_n hx hb dX7_nextToken_91 rfl (lv_at hl 1 rfl) ?_
          refine z_get C G clX7 0 rfl 7 (by decide) m_fl_RX7_46 rfl dX7_nextToken_92 ?_
          refine z_bld C G 1 rfl (vp_in_iff.mpr ⟨by omega, by omega⟩) dX7_nextToken_95 ?_
          refine lv_topi (fun v_40 ev_40 => ?_)
          subst ev_40
          refine z_Si (bc := []) (br := [[(rd, .inr (7, [.ref rl, .ref rdd, .ref rg, .int r0, .int r1, .ref tp, .int r2, .int x, .int r4, .int x, .int r6, .int r7, .int r8]))], [(tp, .inl (T.2 1, 600, .inl ft))]]) (As := [.int (ft x.toNatClampNeg)]) (rest := []) C G (c_isDigit l T (ft x.toNatClampNeg)) (kS_RX7_154 C.2.2.2.2 (Nat.le_of_ble_eq_true rfl) (Nat.le_of_ble_eq_true rfl)) [] [0, 1] rfl rfl rfl rfl hl.1 dX7_nextToken_96 (Nat.le_of_ble_eq_true rfl) (Nat.le_of_ble_eq_true rfl) (fun r_42 b1 H locs hw G => ?_)
          obtain ⟨rfl, hc_41⟩ := hw
          have G : zS T A s.heap s [[(rd, .inr (7, [.ref rl, .ref rdd, .ref rg, .int r0, .int r1, .ref tp, .int r2, .int x, .int r4, .int x, .int r6, .int r7, .int r8]))], [(tp, .inl (T.2 1, 600, .inl ft))]] _ _ := G
          rcases hc_41 with ⟨rfl, h_43, h_44⟩ | rfl
          · have h_43 : 48 ≤ (ft x.toNatClampNeg).toInt := h_43
            have h_44 : (ft x.toNatClampNeg).toInt ≤ 57 := h_44
            refine lv_if_eq (tgt := 109) hx hb dX7_nextToken_99 (by decide) (fun q => absurd q (by decide)) (fun _ => ?_)
            refine lv_aload_n hx hb dX7_nextToken_102 rfl (lv_at hl 1 rfl) ?_
            refine z_Vv (bc := [[(rd, .inr (7, [.ref rl, .ref rdd, .ref rg, .int r0, .int r1, .ref tp, .int r2, .int x, .int r4, .int x, .int r6, .int r7, .int r8]))], [(tp, .inl (T.2 1, 600, .inl ft))]]) (br := []) (As := []) (rest := []) C G (c_takeDigits l T rd rl rdd rg tp r0 r1 r2 x r4 x r6 r7 r8 ft (by omega)) (kV_RX7_157 C.2.2.2.2 (Nat.le_of_ble_eq_true rfl) (Nat.le_of_ble_eq_true rfl)) [0, 1] [] rfl rfl (ci := 7) (qc := (RX7, TX7, 13)) rfl rfl (List.mem_flatten.mpr ⟨_, List.mem_of_getElem? (i := 0) rfl, List.mem_cons_self⟩) rfl rfl hl.1 dX7_nextToken_103 (Nat.le_of_ble_eq_true rfl) (Nat.le_of_ble_eq_true rfl) (fun b1 H locs hw G => ?_)
            obtain ⟨u3_45, u4_46, u6_47, rfl, h_48, h_49, h_50, h_51⟩ := hw
            have G : zS T A s.heap s [[(rd, .inr (7, [.ref rl, .ref rdd, .ref rg, .int r0, .int r1, .ref tp, .int r2, .int u3_45, .int u4_46, .int x, .int u6_47, .int r7, .int r8]))], [(tp, .inl (T.2 1, 600, .inl ft))]] _ _ := G
            refine lv_goto (tgt := 142) hx hb dX7_nextToken_106 (by decide) ?_
            exact z_vret C hr hlocks G (Nat.le_of_ble_eq_true rfl) (Nat.le_of_ble_eq_true rfl) dX7_nextToken_142 ⟨u3_45, u4_46, x, u6_47, rfl, (by first | trivial | assumption | omega), (by first | trivial | assumption | omega)⟩
          · refine lv_if_eq (tgt := 109) hx hb dX7_nextToken_99 (by decide) (fun _ => ?_) (fun q => absurd (by decide) q)
            refine lv_aload_n hx hb dX7_nextToken_109 rfl (lv_at hl 1 rfl) ?_
            refine lv_aload_n hx hb dX7_nextToken_110 rfl (lv_at hl 1 rfl) ?_
            refine z_get C G clX7 0 rfl 5 (by decide) m_fl_RX7_32 rfl dX7_nextToken_111 ?_
            refine lv_aload_n hx hb dX7_nextToken_114 rfl (lv_at hl 1 rfl) ?_
            refine z_get C G clX7 0 rfl 7 (by decide) m_fl_RX7_46 rfl dX7_nextToken_115 ?_
            refine z_bld C G 1 rfl (vp_in_iff.mpr ⟨by omega, by omega⟩) dX7_nextToken_118 ?_
            refine lv_topi (fun v_53 ev_53 => ?_)
            subst ev_53
            refine lv_bipush (v := 59) hx hb dX7_nextToken_119 (by decide) ?_
            refine lv_icmp_ne (tgt := 128) hx hb dX7_nextToken_121 (by decide) (fun c_54 => ?_) (fun c_54 => ?_)
            · have c_54n : ¬ (ft x.toNatClampNeg).toInt = (59 : Int) := fun q => c_54 ((fa_eq _ _).mpr q)
              refine lv_iconst (v := 4) hx hb dX7_nextToken_128 (by decide) ?_
              refine z_put C G clX7 0 rfl 8 (by decide) m_fl_RX7_74 rfl rfl rfl (Nat.le_of_ble_eq_true rfl) dX7_nextToken_129 (fun H locs G => ?_)
              have G : zS T A s.heap s [[(rd, .inr (7, [.ref rl, .ref rdd, .ref rg, .int r0, .int r1, .ref tp, .int r2, .int x, .int 4, .int x, .int r6, .int r7, .int r8]))], [(tp, .inl (T.2 1, 600, .inl ft))]] _ _ := G
              refine lv_aload_n hx hb dX7_nextToken_132 rfl (lv_at hl 1 rfl) ?_
              refine lv_dup hx hb dX7_nextToken_133 rfl ?_
              refine z_get C G clX7 0 rfl 7 (by decide) m_fl_RX7_46 rfl dX7_nextToken_134 ?_
              refine lv_iconst (v := 1) hx hb dX7_nextToken_137 (by decide) ?_
              refine lv_iadd hx hb dX7_nextToken_138 ?_
              refine lv_topi (fun y_55 ey_55 => ?_)
              have ey_55i : y_55.toInt = x.toInt + (1 : Int) := by rw [ey_55]; exact z_iaddI (x := x) (y := (1 : Int32)) (by show -2147483648 ≤ x.toInt + (1 : Int); omega) (by show x.toInt + (1 : Int) < 2147483648; omega)
              refine z_put C G clX7 0 rfl 7 (by decide) m_fl_RX7_46 rfl rfl rfl (Nat.le_of_ble_eq_true rfl) dX7_nextToken_139 (fun H locs G => ?_)
              have G : zS T A s.heap s [[(rd, .inr (7, [.ref rl, .ref rdd, .ref rg, .int r0, .int r1, .ref tp, .int r2, .int y_55, .int 4, .int x, .int r6, .int r7, .int r8]))], [(tp, .inl (T.2 1, 600, .inl ft))]] _ _ := G
              exact z_vret C hr hlocks G (Nat.le_of_ble_eq_true rfl) (Nat.le_of_ble_eq_true rfl) dX7_nextToken_142 ⟨y_55, 4, x, r6, rfl, (by first | trivial | assumption | omega), (by first | trivial | assumption | omega)⟩
            · have c_54n : (ft x.toNatClampNeg).toInt = (59 : Int) := (fa_eq _ _).mp c_54
              refine lv_iconst (v := 3) hx hb dX7_nextToken_124 (by decide) ?_
              refine lv_goto (tgt := 129) hx hb dX7_nextToken_125 (by decide) ?_
              refine z_put C G clX7 0 rfl 8 (by decide) m_fl_RX7_74 rfl rfl rfl (Nat.le_of_ble_eq_true rfl) dX7_nextToken_129 (fun H locs G => ?_)
              have G : zS T A s.heap s [[(rd, .inr (7, [.ref rl, .ref rdd, .ref rg, .int r0, .int r1, .ref tp, .int r2, .int x, .int 3, .int x, .int r6, .int r7, .int r8]))], [(tp, .inl (T.2 1, 600, .inl ft))]] _ _ := G
              refine lv_aload_n hx hb dX7_nextToken_132 rfl (lv_at hl 1 rfl) ?_
              refine lv_dup hx hb dX7_nextToken_133 rfl ?_
              refine z_get C G clX7 0 rfl 7 (by decide) m_fl_RX7_46 rfl dX7_nextToken_134 ?_
              refine lv_iconst (v := 1) hx hb dX7_nextToken_137 (by decide) ?_
              refine lv_iadd hx hb dX7_nextToken_138 ?_
              refine lv_topi (fun y_56 ey_56 => ?_)
              have ey_56i : y_56.toInt = x.toInt + (1 : Int) := by rw [ey_56]; exact z_iaddI (x := x) (y := (1 : Int32)) (by show -2147483648 ≤ x.toInt + (1 : Int); omega) (by show x.toInt + (1 : Int) < 2147483648; omega)
              refine z_put C G clX7 0 rfl 7 (by decide) m_fl_RX7_46 rfl rfl rfl (Nat.le_of_ble_eq_true rfl) dX7_nextToken_139 (fun H locs G => ?_)
              have G : zS T A s.heap s [[(rd, .inr (7, [.ref rl, .ref rdd, .ref rg, .int r0, .int r1, .ref tp, .int r2, .int y_56, .int 3, .int x, .int r6, .int r7, .int r8]))], [(tp, .inl (T.2 1, 600, .inl ft))]] _ _ := G
              exact z_vret C hr hlocks G (Nat.le_of_ble_eq_true rfl) (Nat.le_of_ble_eq_true rfl) dX7_nextToken_142 ⟨y_56, 3, x, r6, rfl, (by first | trivial | assumption | omega), (by first | trivial | assumption | omega)⟩
      · have c_31n : ¬ x.toInt < r2.toInt := fun q => c_31 ((fa_lt _ _).mpr q)
        refine lv_aload_n hx hb dX7_nextToken_57 rfl (lv_at hl 1 rfl) ?_
        refine lv_iconst (v := 0) hx hb dX7_nextToken_58 (by decide) ?_
        refine z_put C G clX7 0 rfl 8 (by decide) m_fl_RX7_74 rfl rfl rfl (Nat.le_of_ble_eq_true rfl) dX7_nextToken_59 (fun H locs G => ?_)
        have G : zS T A s.heap s [[(rd, .inr (7, [.ref rl, .ref rdd, .ref rg, .int r0, .int r1, .ref tp, .int r2, .int x, .int 0, .int x, .int r6, .int r7, .int r8]))], [(tp, .inl (T.2 1, 600, .inl ft))]] _ _ := G
        refine lv_goto (tgt := 142) hx hb dX7_nextToken_62 (by decide) ?_
        exact z_vret C hr hlocks G (Nat.le_of_ble_eq_true rfl) (Nat.le_of_ble_eq_true rfl) dX7_nextToken_142 ⟨x, 0, x, r6, rfl, (by first | trivial | assumption | omega), (by first | trivial | assumption | omega)⟩
set_option maxHeartbeats 4000000 in
set_option maxRecDepth 100000 in
/-- c_readNumber -/
theorem c_readNumber (l : Launch) (T : zTy) (rd : Nat) (rl : Nat) (rdd : Nat) (rg : Nat) (tp : Nat) (r0 : Int32) (r1 : Int32) (r2 : Int32) (r3 : Int32) (r4 : Int32) (r5 : Int32) (r6 : Int32) (r7 : Int32) (r8 : Int32) (ft : Nat → Int32) (x : Int32) (hR : (0 ≤ r2.toInt ∧ r2.toInt ≤ 600) ∧ (0 ≤ r3.toInt ∧ r3.toInt ≤ r2.toInt) ∧ (0 ≤ r5.toInt ∧ r5.toInt ≤ 600) ∧ 0 ≤ r6.toInt ∧ r6.toInt ≤ 1000) : zMi l T yX7_readNumber cX7_readNumber 3 (some .int) 4 0 0 [.ref rd, .int x] [[(rd, .inr (7, [.ref rl, .ref rdd, .ref rg, .int r0, .int r1, .ref tp, .int r2, .int r3, .int r4, .int r5, .int r6, .int r7, .int r8]))], [(tp, .inl (T.2 1, 600, .inl ft))]] (fun (r : Int32) bs => ∃ (u0 : Int32) (u1 : Int32) (u3 : Int32) (u4 : Int32) (u5 : Int32) (u6 : Int32) (u7 : Int32), bs = [[(rd, .inr (7, [.ref rl, .ref rdd, .ref rg, .int u0, .int u1, .ref tp, .int r2, .int u3, .int u4, .int u5, .int u6, .int u7, .int r8]))], [(tp, .inl (T.2 1, 600, .inl ft))]] ∧ 0 ≤ r.toInt ∧ r.toInt ≤ 1000 ∧ (0 ≤ r2.toInt ∧ r2.toInt ≤ 600) ∧ (0 ≤ u3.toInt ∧ u3.toInt ≤ r2.toInt) ∧ (0 ≤ u5.toInt ∧ u5.toInt ≤ 600) ∧ 0 ≤ u6.toInt ∧ u6.toInt ≤ 1000) := by
  refine zMi_of (own := RX7) (by decide) rfl (Nat.le_of_ble_eq_true rfl) ?_
  intro p e s m args below meth c A ls C hr hlocks hnm hAe G hl
  have hx := C.1
  have hb := C.2.1
  have hl : lv_has ls 3 [(0, .ref rd), (1, .int x)] := hl
  refine lv_aload_n hx hb dX7_readNumber_0 rfl (lv_at hl 0 rfl) ?_
  refine z_get C G clX7 0 rfl 11 (by decide) m_fl_RX7_55 rfl dX7_readNumber_1 ?_
  refine lv_if_ne (tgt := 15) hx hb dX7_readNumber_4 (by decide) (fun c_1 => ?_) (fun c_1 => ?_)
  · have c_1n : ¬ r7.toInt = (0 : Int) := fun q => c_1 ((fa_eq _ _).mpr q)
    refine lv_aload_n hx hb dX7_readNumber_15 rfl (lv_at hl 0 rfl) ?_
    refine z_Vv (bc := [[(rd, .inr (7, [.ref rl, .ref rdd, .ref rg, .int r0, .int r1, .ref tp, .int r2, .int r3, .int r4, .int r5, .int r6, .int r7, .int r8]))]]) (br := [[(tp, .inl (T.2 1, 600, .inl ft))]]) (As := []) (rest := []) C G (c_breakHere l T rd rl rdd rg tp r0 r1 r2 r3 r4 r5 r6 r7 r8) (kV_RX7_105 C.2.2.2.2 (Nat.le_of_ble_eq_true rfl) (Nat.le_of_ble_eq_true rfl)) [0] [1] rfl rfl (ci := 7) (qc := (RX7, TX7, 13)) rfl rfl (List.mem_flatten.mpr ⟨_, List.mem_of_getElem? (i := 0) rfl, List.mem_cons_self⟩) rfl rfl hl.1 dX7_readNumber_16 (Nat.le_of_ble_eq_true rfl) (Nat.le_of_ble_eq_true rfl) (fun b1 H locs hw G => ?_)
    obtain ⟨u0_2, u1_3, u7_4, rfl⟩ := hw
    have G : zS T A s.heap s [[(tp, .inl (T.2 1, 600, .inl ft))], [(rd, .inr (7, [.ref rl, .ref rdd, .ref rg, .int u0_2, .int u1_3, .ref tp, .int r2, .int r3, .int r4, .int r5, .int r6, .int u7_4, .int r8]))]] _ _ := G
    refine lv_iconst (v := 0) hx hb dX7_readNumber_19 (by decide) ?_
    have G := G.sub (bs' := [[(rd, .inr (7, [.ref rl, .ref rdd, .ref rg, .int u0_2, .int u1_3, .ref tp, .int r2, .int r3, .int r4, .int r5, .int r6, .int u7_4, .int r8]))], [(tp, .inl (T.2 1, 600, .inl ft))]]) [1, 0] rfl
    exact z_iret C hr hlocks G (Nat.le_of_ble_eq_true rfl) (Nat.le_of_ble_eq_true rfl) dX7_readNumber_20 ⟨u0_2, u1_3, r3, r4, r5, r6, u7_4, rfl, (by first | trivial | assumption | omega), (by first | trivial | assumption | omega)⟩
  · have c_1n : r7.toInt = (0 : Int) := (fa_eq _ _).mp c_1
    refine lv_aload_n hx hb dX7_readNumber_7 rfl (lv_at hl 0 rfl) ?_
    refine z_get C G clX7 0 rfl 8 (by decide) m_fl_RX7_74 rfl dX7_readNumber_8 ?_
    refine lv_iconst (v := 2) hx hb dX7_readNumber_11 (by decide) ?_
    refine lv_icmp_eq (tgt := 21) hx hb dX7_readNumber_12 (by decide) (fun c_6 => ?_) (fun c_6 => ?_)
    · have c_6n : r4.toInt = (2 : Int) := (fa_eq _ _).mp c_6
      refine lv_aload_n hx hb dX7_readNumber_21 rfl (lv_at hl 0 rfl) ?_
      refine z_get C G clX7 0 rfl 10 (by decide) m_fl_RX7_141 rfl dX7_readNumber_22 ?_
      refine lv_istore_n (lv' := [(2, .int r6), (0, .ref rd), (1, .int x)]) hx hb dX7_readNumber_25 rfl hl (by decide) rfl (fun ls hl => ?_)
      refine lv_iload_n hx hb dX7_readNumber_26 rfl (lv_at hl 0 rfl) ?_
      refine lv_iload_n hx hb dX7_readNumber_27 rfl (lv_at hl 2 rfl) ?_
      refine lv_icmp_le (tgt := 40) hx hb dX7_readNumber_28 (by decide) (fun c_7 => ?_) (fun c_7 => ?_)
      · have c_7n : r6.toInt ≤ x.toInt := (fa_le _ _).mp c_7
        refine lv_aload_n hx hb dX7_readNumber_40 rfl (lv_at hl 1 rfl) ?_
        refine z_Vv (bc := [[(rd, .inr (7, [.ref rl, .ref rdd, .ref rg, .int r0, .int r1, .ref tp, .int r2, .int r3, .int r4, .int r5, .int r6, .int r7, .int r8]))], [(tp, .inl (T.2 1, 600, .inl ft))]]) (br := []) (As := []) (rest := []) C G (c_nextToken l T rd rl rdd rg tp r0 r1 r2 r3 r4 r5 r6 r7 r8 ft (by first | assumption | omega | rfl)) (kV_RX7_71 C.2.2.2.2 (Nat.le_of_ble_eq_true rfl) (Nat.le_of_ble_eq_true rfl)) [0, 1] [] rfl rfl (ci := 7) (qc := (RX7, TX7, 13)) rfl rfl (List.mem_flatten.mpr ⟨_, List.mem_of_getElem? (i := 0) rfl, List.mem_cons_self⟩) rfl rfl hl.1 dX7_readNumber_41 (Nat.le_of_ble_eq_true rfl) (Nat.le_of_ble_eq_true rfl) (fun b1 H locs hw G => ?_)
        obtain ⟨u3_8, u4_9, u5_10, u6_11, rfl, h_12, h_13⟩ := hw
        have G : zS T A s.heap s [[(rd, .inr (7, [.ref rl, .ref rdd, .ref rg, .int r0, .int r1, .ref tp, .int r2, .int u3_8, .int u4_9, .int u5_10, .int u6_11, .int r7, .int r8]))], [(tp, .inl (T.2 1, 600, .inl ft))]] _ _ := G
        refine lv_iload_n hx hb dX7_readNumber_44 rfl (lv_at hl 0 rfl) ?_
        exact z_iret C hr hlocks G (Nat.le_of_ble_eq_true rfl) (Nat.le_of_ble_eq_true rfl) dX7_readNumber_45 ⟨r0, r1, u3_8, u4_9, u5_10, u6_11, r7, rfl, (by first | trivial | assumption | omega), (by first | trivial | assumption | omega)⟩
      · have c_7n : ¬ r6.toInt ≤ x.toInt := fun q => c_7 ((fa_le _ _).mpr q)
        refine lv_aload_n hx hb dX7_readNumber_31 rfl (lv_at hl 1 rfl) ?_
        refine lv_iconst (v := 2) hx hb dX7_readNumber_32 (by decide) ?_
        refine lv_aload_n hx hb dX7_readNumber_33 rfl (lv_at hl 1 rfl) ?_
        refine z_get C G clX7 0 rfl 9 (by decide) m_fl_RX7_84 rfl dX7_readNumber_34 ?_
        refine z_Vv (bc := [[(rd, .inr (7, [.ref rl, .ref rdd, .ref rg, .int r0, .int r1, .ref tp, .int r2, .int r3, .int r4, .int r5, .int r6, .int r7, .int r8]))]]) (br := [[(tp, .inl (T.2 1, 600, .inl ft))]]) (As := [.int 2, .int r5]) (rest := []) C G (c_note l T rd rl rdd rg tp r0 r1 r2 r3 r4 r5 r6 r7 r8 2 r5) (kV_RX7_90 C.2.2.2.2 (Nat.le_of_ble_eq_true rfl) (Nat.le_of_ble_eq_true rfl)) [0] [1] rfl rfl (ci := 7) (qc := (RX7, TX7, 13)) rfl rfl (List.mem_flatten.mpr ⟨_, List.mem_of_getElem? (i := 0) rfl, List.mem_cons_self⟩) rfl rfl hl.1 dX7_readNumber_37 (Nat.le_of_ble_eq_true rfl) (Nat.le_of_ble_eq_true rfl) (fun b1 H locs hw G => ?_)
        obtain ⟨u0_15, u1_16, rfl⟩ := hw
        have G : zS T A s.heap s [[(tp, .inl (T.2 1, 600, .inl ft))], [(rd, .inr (7, [.ref rl, .ref rdd, .ref rg, .int u0_15, .int u1_16, .ref tp, .int r2, .int r3, .int r4, .int r5, .int r6, .int r7, .int r8]))]] _ _ := G
        refine lv_aload_n hx hb dX7_readNumber_40 rfl (lv_at hl 1 rfl) ?_
        refine z_Vv (bc := [[(rd, .inr (7, [.ref rl, .ref rdd, .ref rg, .int u0_15, .int u1_16, .ref tp, .int r2, .int r3, .int r4, .int r5, .int r6, .int r7, .int r8]))], [(tp, .inl (T.2 1, 600, .inl ft))]]) (br := []) (As := []) (rest := []) C G (c_nextToken l T rd rl rdd rg tp u0_15 u1_16 r2 r3 r4 r5 r6 r7 r8 ft (by first | assumption | omega | rfl)) (kV_RX7_71 C.2.2.2.2 (Nat.le_of_ble_eq_true rfl) (Nat.le_of_ble_eq_true rfl)) [1, 0] [] rfl rfl (ci := 7) (qc := (RX7, TX7, 13)) rfl rfl (List.mem_flatten.mpr ⟨_, List.mem_of_getElem? (i := 0) rfl, List.mem_cons_self⟩) rfl rfl hl.1 dX7_readNumber_41 (Nat.le_of_ble_eq_true rfl) (Nat.le_of_ble_eq_true rfl) (fun b1 H locs hw G => ?_)
        obtain ⟨u3_18, u4_19, u5_20, u6_21, rfl, h_22, h_23⟩ := hw
        have G : zS T A s.heap s [[(rd, .inr (7, [.ref rl, .ref rdd, .ref rg, .int u0_15, .int u1_16, .ref tp, .int r2, .int u3_18, .int u4_19, .int u5_20, .int u6_21, .int r7, .int r8]))], [(tp, .inl (T.2 1, 600, .inl ft))]] _ _ := G
        refine lv_iload_n hx hb dX7_readNumber_44 rfl (lv_at hl 0 rfl) ?_
        exact z_iret C hr hlocks G (Nat.le_of_ble_eq_true rfl) (Nat.le_of_ble_eq_true rfl) dX7_readNumber_45 ⟨u0_15, u1_16, u3_18, u4_19, u5_20, u6_21, r7, rfl, (by first | trivial | assumption | omega), (by first | trivial | assumption | omega)⟩
    · have c_6n : ¬ r4.toInt = (2 : Int) := fun q => c_6 ((fa_eq _ _).mpr q)
      refine lv_aload_n hx hb dX7_readNumber_15 rfl (lv_at hl 0 rfl) ?_
      refine z_Vv (bc := [[(rd, .inr (7, [.ref rl, .ref rdd, .ref rg, .int r0, .int r1, .ref tp, .int r2, .int r3, .int r4, .int r5, .int r6, .int r7, .int r8]))]]) (br := [[(tp, .inl (T.2 1, 600, .inl ft))]]) (As := []) (rest := []) C G (c_breakHere l T rd rl rdd rg tp r0 r1 r2 r3 r4 r5 r6 r7 r8) (kV_RX7_105 C.2.2.2.2 (Nat.le_of_ble_eq_true rfl) (Nat.le_of_ble_eq_true rfl)) [0] [1] rfl rfl (ci := 7) (qc := (RX7, TX7, 13)) rfl rfl (List.mem_flatten.mpr ⟨_, List.mem_of_getElem? (i := 0) rfl, List.mem_cons_self⟩) rfl rfl hl.1 dX7_readNumber_16 (Nat.le_of_ble_eq_true rfl) (Nat.le_of_ble_eq_true rfl) (fun b1 H locs hw G => ?_)
      obtain ⟨u0_25, u1_26, u7_27, rfl⟩ := hw
      have G : zS T A s.heap s [[(tp, .inl (T.2 1, 600, .inl ft))], [(rd, .inr (7, [.ref rl, .ref rdd, .ref rg, .int u0_25, .int u1_26, .ref tp, .int r2, .int r3, .int r4, .int r5, .int r6, .int u7_27, .int r8]))]] _ _ := G
      refine lv_iconst (v := 0) hx hb dX7_readNumber_19 (by decide) ?_
      have G := G.sub (bs' := [[(rd, .inr (7, [.ref rl, .ref rdd, .ref rg, .int u0_25, .int u1_26, .ref tp, .int r2, .int r3, .int r4, .int r5, .int r6, .int u7_27, .int r8]))], [(tp, .inl (T.2 1, 600, .inl ft))]]) [1, 0] rfl
      exact z_iret C hr hlocks G (Nat.le_of_ble_eq_true rfl) (Nat.le_of_ble_eq_true rfl) dX7_readNumber_20 ⟨u0_25, u1_26, r3, r4, r5, r6, u7_27, rfl, (by first | trivial | assumption | omega), (by first | trivial | assumption | omega)⟩
set_option maxHeartbeats 4000000 in
set_option maxRecDepth 100000 in
/-- reads -/
theorem c_reads (l : Launch) (T : zTy) (rd : Nat) (rl : Nat) (rdd : Nat) (rg : Nat) (tp : Nat) (r0 : Int32) (r1 : Int32) (r2 : Int32) (r3 : Int32) (r4 : Int32) (r5 : Int32) (r6 : Int32) (r7 : Int32) (r8 : Int32) (ft : Nat → Int32) (i : Nat) (hR : (0 ≤ r2.toInt ∧ r2.toInt ≤ 600) ∧ (0 ≤ r3.toInt ∧ r3.toInt ≤ r2.toInt) ∧ (0 ≤ r5.toInt ∧ r5.toInt ≤ 600) ∧ 0 ≤ r6.toInt ∧ r6.toInt ≤ 1000) (hi : i < 12) : zMi l T yX7_reads cX7_reads 3 (some .boolean) 5 0 0 [.ref rd, .ref (T.2 (100 + i))] [[(rd, .inr (7, [.ref rl, .ref rdd, .ref rg, .int r0, .int r1, .ref tp, .int r2, .int r3, .int r4, .int r5, .int r6, .int r7, .int r8]))], [(tp, .inl (T.2 1, 600, .inl ft))]] (fun (r : Int32) bs => bs = [[(rd, .inr (7, [.ref rl, .ref rdd, .ref rg, .int r0, .int r1, .ref tp, .int r2, .int r3, .int r4, .int r5, .int r6, .int r7, .int r8]))], [(tp, .inl (T.2 1, 600, .inl ft))]] ∧ ((r = 1) ∨ (r = 0))) := by
  refine zMi_of (own := RX7) (by decide) rfl (Nat.le_of_ble_eq_true rfl) ?_
  intro p e s m args below meth c A ls C hr hlocks hnm hAe G hl
  have hx := C.1
  have hb := C.2.1
  have hl : lv_has ls 3 [(0, .ref rd), (1, .ref (T.2 (100 + i)))] := hl
  have hL := zLen_le i hi
  refine lv_aload_n hx hb dX7_reads_0 rfl (lv_at hl 0 rfl) ?_
  refine z_get C G clX7 0 rfl 7 (by decide) m_fl_RX7_46 rfl dX7_reads_1 ?_
  refine lv_aload_n hx hb dX7_reads_4 rfl (lv_at hl 0 rfl) ?_
  refine z_get C G clX7 0 rfl 9 (by decide) m_fl_RX7_84 rfl dX7_reads_5 ?_
  refine lv_isub hx hb dX7_reads_8 ?_
  refine lv_topi (fun y_1 ey_1 => ?_)
  have ey_1i : y_1.toInt = r3.toInt - r5.toInt := by rw [ey_1]; exact z_isubI (x := r3) (y := r5) (by show -2147483648 ≤ r3.toInt - r5.toInt; omega) (by show r3.toInt - r5.toInt < 2147483648; omega)
  refine lv_aload_n hx hb dX7_reads_9 rfl (lv_at hl 1 rfl) ?_
  refine z_Wi (bc := []) (br := [[(rd, .inr (7, [.ref rl, .ref rdd, .ref rg, .int r0, .int r1, .ref tp, .int r2, .int r3, .int r4, .int r5, .int r6, .int r7, .int r8]))], [(tp, .inl (T.2 1, 600, .inl ft))]]) (As := []) (rest := [.int y_1]) C G (c_slen l T i (by first | assumption | omega | rfl)) (kV_RX7_185 C.2.2.2.2 (Nat.le_of_ble_eq_true rfl) (Nat.le_of_ble_eq_true rfl)) [] [0, 1] rfl rfl (z_srecv G (by first | assumption | omega)) rfl rfl hl.1 dX7_reads_10 (Nat.le_of_ble_eq_true rfl) (Nat.le_of_ble_eq_true rfl) (fun r_3 b1 H locs hw G => ?_)
  obtain ⟨rfl, h_2⟩ := hw
  have G : zS T A s.heap s [[(rd, .inr (7, [.ref rl, .ref rdd, .ref rg, .int r0, .int r1, .ref tp, .int r2, .int r3, .int r4, .int r5, .int r6, .int r7, .int r8]))], [(tp, .inl (T.2 1, 600, .inl ft))]] _ _ := G
  subst h_2
  refine lv_icmp_ne (tgt := 34) hx hb dX7_reads_13 (by decide) (fun c_4 => ?_) (fun c_4 => ?_)
  · have c_4n : ¬ y_1.toInt = ((zLen.getD i 0) : Int) := fun q => c_4 ((fa_eq _ _).mpr (by rw [nI_toInt (n := zLen.getD i 0) (by omega)]; exact q))
    refine lv_iconst (v := 0) hx hb dX7_reads_34 (by decide) ?_
    exact z_zret C hr hlocks G (Nat.le_of_ble_eq_true rfl) (Nat.le_of_ble_eq_true rfl) dX7_reads_35 rfl ⟨rfl, (Or.inr rfl)⟩
  · have c_4n : y_1.toInt = ((zLen.getD i 0) : Int) := by have q := (fa_eq _ _).mp c_4; rw [nI_toInt (n := zLen.getD i 0) (by omega)] at q; exact q
    refine lv_aload_n hx hb dX7_reads_16 rfl (lv_at hl 0 rfl) ?_
    refine z_get C G clX7 0 rfl 9 (by decide) m_fl_RX7_84 rfl dX7_reads_17 ?_
    refine lv_if_lt (tgt := 34) hx hb dX7_reads_20 (by decide) (fun c_5 => ?_) (fun c_5 => ?_)
    · have c_5n : r5.toInt < (0 : Int) := (fa_lt _ _).mp c_5
      refine lv_iconst (v := 0) hx hb dX7_reads_34 (by decide) ?_
      exact z_zret C hr hlocks G (Nat.le_of_ble_eq_true rfl) (Nat.le_of_ble_eq_true rfl) dX7_reads_35 rfl ⟨rfl, (Or.inr rfl)⟩
    · have c_5n : ¬ r5.toInt < (0 : Int) := fun q => c_5 ((fa_lt _ _).mpr q)
      refine lv_aload_n hx hb dX7_reads_23 rfl (lv_at hl 0 rfl) ?_
      refine z_get C G clX7 0 rfl 7 (by decide) m_fl_RX7_46 rfl dX7_reads_24 ?_
      refine lv_aload_n hx hb dX7_reads_27 rfl (lv_at hl 0 rfl) ?_
      refine z_get C G clX7 0 rfl 6 (by decide) m_fl_RX7_42 rfl dX7_reads_28 ?_
      refine lv_icmp_le (tgt := 36) hx hb dX7_reads_31 (by decide) (fun c_6 => ?_) (fun c_6 => ?_)
      · have c_6n : r3.toInt ≤ r2.toInt := (fa_le _ _).mp c_6
        refine lv_iconst (v := 0) hx hb dX7_reads_36 (by decide) ?_
        refine lv_istore_n (lv' := [(2, .int 0), (0, .ref rd), (1, .ref (T.2 (100 + i)))]) hx hb dX7_reads_37 rfl hl (by decide) rfl (fun ls hl => ?_)
        refine z_loop (T := T) (α := Nat) 38 (fun k => [[(rd, .inr (7, [.ref rl, .ref rdd, .ref rg, .int r0, .int r1, .ref tp, .int r2, .int r3, .int r4, .int r5, .int r6, .int r7, .int r8]))], [(tp, .inl (T.2 1, 600, .inl ft))]]) (fun k => [(2, .int (nI k)), (0, .ref rd), (1, .ref (T.2 (100 + i)))]) (fun k => k ≤ zLen.getD i 0) (fun k => zLen.getD i 0 - k) ?_ 0 (show 0 ≤ zLen.getD i 0 from by omega) G (lv_sub hl [0, 1, 2] rfl)
        rintro k hk ih_38 H locs ls G hl
        replace hk : k ≤ zLen.getD i 0 := hk
        replace G : zS T A s.heap s [[(rd, .inr (7, [.ref rl, .ref rdd, .ref rg, .int r0, .int r1, .ref tp, .int r2, .int r3, .int r4, .int r5, .int r6, .int r7, .int r8]))], [(tp, .inl (T.2 1, 600, .inl ft))]] _ _ := G
        replace hl : lv_has ls 3 [(2, .int (nI k)), (0, .ref rd), (1, .ref (T.2 (100 + i)))] := hl
        refine lv_iload_n hx hb dX7_reads_38 rfl (lv_at hl 0 rfl) ?_
        refine lv_aload_n hx hb dX7_reads_39 rfl (lv_at hl 2 rfl) ?_
        refine z_Wi (bc := []) (br := [[(rd, .inr (7, [.ref rl, .ref rdd, .ref rg, .int r0, .int r1, .ref tp, .int r2, .int r3, .int r4, .int r5, .int r6, .int r7, .int r8]))], [(tp, .inl (T.2 1, 600, .inl ft))]]) (As := []) (rest := [.int (nI k)]) C G (c_slen l T i (by first | assumption | omega | rfl)) (kV_RX7_185 C.2.2.2.2 (Nat.le_of_ble_eq_true rfl) (Nat.le_of_ble_eq_true rfl)) [] [0, 1] rfl rfl (z_srecv G (by first | assumption | omega)) rfl rfl hl.1 dX7_reads_40 (Nat.le_of_ble_eq_true rfl) (Nat.le_of_ble_eq_true rfl) (fun r_8 b1 H locs hw G => ?_)
        obtain ⟨rfl, h_7⟩ := hw
        have G : zS T A s.heap s [[(rd, .inr (7, [.ref rl, .ref rdd, .ref rg, .int r0, .int r1, .ref tp, .int r2, .int r3, .int r4, .int r5, .int r6, .int r7, .int r8]))], [(tp, .inl (T.2 1, 600, .inl ft))]] _ _ := G
        subst h_7
        refine lv_icmp_ge (tgt := 73) hx hb dX7_reads_43 (by decide) (fun c_9 => ?_) (fun c_9 => ?_)
        · have c_9n : zLen.getD i 0 ≤ k := (nI_leI (a := zLen.getD i 0) (b := k) (by omega) (by omega)).mp c_9
          refine lv_iconst (v := 1) hx hb dX7_reads_73 (by decide) ?_
          exact z_zret C hr hlocks G (Nat.le_of_ble_eq_true rfl) (Nat.le_of_ble_eq_true rfl) dX7_reads_74 rfl ⟨rfl, (Or.inl rfl)⟩
        · have c_9n : ¬ zLen.getD i 0 ≤ k := fun q => c_9 ((nI_leI (a := zLen.getD i 0) (b := k) (by omega) (by omega)).mpr q)
          refine lv_aload_n hx hb dX7_reads_46 rfl (lv_at hl 1 rfl) ?_
          refine z_get C G clX7 0 rfl 5 (by decide) m_fl_RX7_32 rfl dX7_reads_47 ?_
          refine lv_aload_n hx hb dX7_reads_50 rfl (lv_at hl 1 rfl) ?_
          refine z_get C G clX7 0 rfl 9 (by decide) m_fl_RX7_84 rfl dX7_reads_51 ?_
          refine lv_iload_n hx hb dX7_reads_54 rfl (lv_at hl 0 rfl) ?_
          refine lv_iadd hx hb dX7_reads_55 ?_
          refine lv_topi (fun y_10 ey_10 => ?_)
          have ey_10i : y_10.toInt = r5.toInt + (k : Int) := by rw [ey_10]; exact (z_iaddI (x := r5) (y := (nI k)) (by rw [nI_toInt (n := k) (by omega)]; show -2147483648 ≤ r5.toInt + (k : Int); omega) (by rw [nI_toInt (n := k) (by omega)]; show r5.toInt + (k : Int) < 2147483648; omega)).trans (by rw [nI_toInt (n := k) (by omega)] <;> rfl)
          refine z_bld C G 1 rfl (vp_in_iff.mpr ⟨by omega, by omega⟩) dX7_reads_56 ?_
          refine lv_topi (fun v_11 ev_11 => ?_)
          subst ev_11
          refine lv_aload_n hx hb dX7_reads_57 rfl (lv_at hl 2 rfl) ?_
          refine lv_iload_n hx hb dX7_reads_58 rfl (lv_at hl 0 rfl) ?_
          refine z_Wi (bc := []) (br := [[(rd, .inr (7, [.ref rl, .ref rdd, .ref rg, .int r0, .int r1, .ref tp, .int r2, .int r3, .int r4, .int r5, .int r6, .int r7, .int r8]))], [(tp, .inl (T.2 1, 600, .inl ft))]]) (As := [.int (nI k)]) (rest := [.int (ft y_10.toNatClampNeg)]) C G (c_schar l T i k (by first | assumption | omega | rfl) (by first | assumption | omega | rfl)) (kV_RX7_190 C.2.2.2.2 (Nat.le_of_ble_eq_true rfl) (Nat.le_of_ble_eq_true rfl)) [] [0, 1] rfl rfl (z_srecv G (by first | assumption | omega)) rfl rfl hl.1 dX7_reads_59 (Nat.le_of_ble_eq_true rfl) (Nat.le_of_ble_eq_true rfl) (fun r_13 b1 H locs hw G => ?_)
          obtain ⟨rfl, h_12⟩ := hw
          have G : zS T A s.heap s [[(rd, .inr (7, [.ref rl, .ref rdd, .ref rg, .int r0, .int r1, .ref tp, .int r2, .int r3, .int r4, .int r5, .int r6, .int r7, .int r8]))], [(tp, .inl (T.2 1, 600, .inl ft))]] _ _ := G
          subst h_12
          refine lv_icmp_eq (tgt := 67) hx hb dX7_reads_62 (by decide) (fun c_14 => ?_) (fun c_14 => ?_)
          · have c_14n : (ft y_10.toNatClampNeg).toInt = (zChar i k).toInt := (fa_eq _ _).mp c_14
            refine lv_iinc (v := nI (k + 1)) (lv' := [(2, .int (nI (k + 1))), (0, .ref rd), (1, .ref (T.2 (100 + i)))]) hx hb dX7_reads_67 hl (k := 0) rfl (z_inc k 1) (by decide) rfl (fun ls hl => ?_)
            refine lv_goto (tgt := 38) hx hb dX7_reads_70 (by decide) ?_
            exact ih_38 (k + 1) (show (k + 1) ≤ zLen.getD i 0 from by omega) (show zLen.getD i 0 - (k + 1) < zLen.getD i 0 - k from by omega) _ _ ls G (lv_sub hl [0, 1, 2] rfl)
          · have c_14n : ¬ (ft y_10.toNatClampNeg).toInt = (zChar i k).toInt := fun q => c_14 ((fa_eq _ _).mpr q)
            refine lv_iconst (v := 0) hx hb dX7_reads_65 (by decide) ?_
            exact z_zret C hr hlocks G (Nat.le_of_ble_eq_true rfl) (Nat.le_of_ble_eq_true rfl) dX7_reads_66 rfl ⟨rfl, (Or.inr rfl)⟩
      · have c_6n : ¬ r3.toInt ≤ r2.toInt := fun q => c_6 ((fa_le _ _).mpr q)
        refine lv_iconst (v := 0) hx hb dX7_reads_34 (by decide) ?_
        exact z_zret C hr hlocks G (Nat.le_of_ble_eq_true rfl) (Nat.le_of_ble_eq_true rfl) dX7_reads_35 rfl ⟨rfl, (Or.inr rfl)⟩
set_option maxHeartbeats 4000000 in
set_option maxRecDepth 100000 in
/-- wordOf -/
theorem c_wordOf (l : Launch) (T : zTy) (rd : Nat) (rl : Nat) (rdd : Nat) (rg : Nat) (tp : Nat) (r0 : Int32) (r1 : Int32) (r2 : Int32) (r3 : Int32) (r4 : Int32) (r5 : Int32) (r6 : Int32) (r7 : Int32) (r8 : Int32) (ft : Nat → Int32) (x : Int32) (hR : (0 ≤ r2.toInt ∧ r2.toInt ≤ 600) ∧ (0 ≤ r3.toInt ∧ r3.toInt ≤ r2.toInt) ∧ (0 ≤ r5.toInt ∧ r5.toInt ≤ 600) ∧ 0 ≤ r6.toInt ∧ r6.toInt ≤ 1000) : zMi l T yX7_wordOf cX7_wordOf 2 (some .int) 6 0 0 [.ref rd, .int x] [[(rd, .inr (7, [.ref rl, .ref rdd, .ref rg, .int r0, .int r1, .ref tp, .int r2, .int r3, .int r4, .int r5, .int r6, .int r7, .int r8]))], [(tp, .inl (T.2 1, 600, .inl ft))]] (fun (r : Int32) bs => bs = [[(rd, .inr (7, [.ref rl, .ref rdd, .ref rg, .int r0, .int r1, .ref tp, .int r2, .int r3, .int r4, .int r5, .int r6, .int r7, .int r8]))], [(tp, .inl (T.2 1, 600, .inl ft))]] ∧ (-1 ≤ r.toInt ∧ r.toInt ≤ 5)) := by
  refine zMi_of (own := RX7) (by decide) rfl (Nat.le_of_ble_eq_true rfl) ?_
  intro p e s m args below meth c A ls C hr hlocks hnm hAe G hl
  have hx := C.1
  have hb := C.2.1
  have hl : lv_has ls 2 [(0, .ref rd), (1, .int x)] := hl
  refine lv_iload_n hx hb dX7_wordOf_0 rfl (lv_at hl 1 rfl) ?_
  refine lv_if_ne (tgt := 58) hx hb dX7_wordOf_1 (by decide) (fun c_1 => ?_) (fun c_1 => ?_)
  · have c_1n : ¬ x.toInt = (0 : Int) := fun q => c_1 ((fa_eq _ _).mpr q)
    refine lv_iload_n hx hb dX7_wordOf_58 rfl (lv_at hl 1 rfl) ?_
    refine lv_iconst (v := 2) hx hb dX7_wordOf_59 (by decide) ?_
    refine lv_icmp_ne (tgt := 91) hx hb dX7_wordOf_60 (by decide) (fun c_2 => ?_) (fun c_2 => ?_)
    · have c_2n : ¬ x.toInt = (2 : Int) := fun q => c_2 ((fa_eq _ _).mpr q)
      refine lv_aload_n hx hb dX7_wordOf_91 rfl (lv_at hl 0 rfl) ?_
      refine z_ldcS C G rfl 6 (by decide) rfl dX7_wordOf_92 ?_
      refine z_Vi (bc := [[(rd, .inr (7, [.ref rl, .ref rdd, .ref rg, .int r0, .int r1, .ref tp, .int r2, .int r3, .int r4, .int r5, .int r6, .int r7, .int r8]))], [(tp, .inl (T.2 1, 600, .inl ft))]]) (br := []) (As := [.ref (T.2 (100 + 6))]) (rest := []) C G (c_reads l T rd rl rdd rg tp r0 r1 r2 r3 r4 r5 r6 r7 r8 ft 6 (by first | assumption | omega | rfl) (by first | assumption | omega | rfl)) (kV_RX7_162 C.2.2.2.2 (Nat.le_of_ble_eq_true rfl) (Nat.le_of_ble_eq_true rfl)) [0, 1] [] rfl rfl (ci := 7) (qc := (RX7, TX7, 13)) rfl rfl (List.mem_flatten.mpr ⟨_, List.mem_of_getElem? (i := 0) rfl, List.mem_cons_self⟩) rfl rfl hl.1 dX7_wordOf_94 (Nat.le_of_ble_eq_true rfl) (Nat.le_of_ble_eq_true rfl) (fun r_4 b1 H locs hw G => ?_)
      obtain ⟨rfl, hc_3⟩ := hw
      have G : zS T A s.heap s [[(rd, .inr (7, [.ref rl, .ref rdd, .ref rg, .int r0, .int r1, .ref tp, .int r2, .int r3, .int r4, .int r5, .int r6, .int r7, .int r8]))], [(tp, .inl (T.2 1, 600, .inl ft))]] _ _ := G
      rcases hc_3 with rfl | rfl
      · refine lv_if_eq (tgt := 102) hx hb dX7_wordOf_97 (by decide) (fun q => absurd q (by decide)) (fun _ => ?_)
        refine lv_iconst (v := 0) hx hb dX7_wordOf_100 (by decide) ?_
        exact z_iret C hr hlocks G (Nat.le_of_ble_eq_true rfl) (Nat.le_of_ble_eq_true rfl) dX7_wordOf_101 ⟨rfl, (by decide)⟩
      · refine lv_if_eq (tgt := 102) hx hb dX7_wordOf_97 (by decide) (fun _ => ?_) (fun q => absurd (by decide) q)
        refine lv_aload_n hx hb dX7_wordOf_102 rfl (lv_at hl 0 rfl) ?_
        refine z_ldcS C G rfl 7 (by decide) rfl dX7_wordOf_103 ?_
        refine z_Vi (bc := [[(rd, .inr (7, [.ref rl, .ref rdd, .ref rg, .int r0, .int r1, .ref tp, .int r2, .int r3, .int r4, .int r5, .int r6, .int r7, .int r8]))], [(tp, .inl (T.2 1, 600, .inl ft))]]) (br := []) (As := [.ref (T.2 (100 + 7))]) (rest := []) C G (c_reads l T rd rl rdd rg tp r0 r1 r2 r3 r4 r5 r6 r7 r8 ft 7 (by first | assumption | omega | rfl) (by first | assumption | omega | rfl)) (kV_RX7_162 C.2.2.2.2 (Nat.le_of_ble_eq_true rfl) (Nat.le_of_ble_eq_true rfl)) [0, 1] [] rfl rfl (ci := 7) (qc := (RX7, TX7, 13)) rfl rfl (List.mem_flatten.mpr ⟨_, List.mem_of_getElem? (i := 0) rfl, List.mem_cons_self⟩) rfl rfl hl.1 dX7_wordOf_105 (Nat.le_of_ble_eq_true rfl) (Nat.le_of_ble_eq_true rfl) (fun r_6 b1 H locs hw G => ?_)
        obtain ⟨rfl, hc_5⟩ := hw
        have G : zS T A s.heap s [[(rd, .inr (7, [.ref rl, .ref rdd, .ref rg, .int r0, .int r1, .ref tp, .int r2, .int r3, .int r4, .int r5, .int r6, .int r7, .int r8]))], [(tp, .inl (T.2 1, 600, .inl ft))]] _ _ := G
        rcases hc_5 with rfl | rfl
        · refine lv_if_eq (tgt := 113) hx hb dX7_wordOf_108 (by decide) (fun q => absurd q (by decide)) (fun _ => ?_)
          refine lv_iconst (v := 1) hx hb dX7_wordOf_111 (by decide) ?_
          exact z_iret C hr hlocks G (Nat.le_of_ble_eq_true rfl) (Nat.le_of_ble_eq_true rfl) dX7_wordOf_112 ⟨rfl, (by decide)⟩
        · refine lv_if_eq (tgt := 113) hx hb dX7_wordOf_108 (by decide) (fun _ => ?_) (fun q => absurd (by decide) q)
          refine lv_aload_n hx hb dX7_wordOf_113 rfl (lv_at hl 0 rfl) ?_
          refine z_ldcS C G rfl 8 (by decide) rfl dX7_wordOf_114 ?_
          refine z_Vi (bc := [[(rd, .inr (7, [.ref rl, .ref rdd, .ref rg, .int r0, .int r1, .ref tp, .int r2, .int r3, .int r4, .int r5, .int r6, .int r7, .int r8]))], [(tp, .inl (T.2 1, 600, .inl ft))]]) (br := []) (As := [.ref (T.2 (100 + 8))]) (rest := []) C G (c_reads l T rd rl rdd rg tp r0 r1 r2 r3 r4 r5 r6 r7 r8 ft 8 (by first | assumption | omega | rfl) (by first | assumption | omega | rfl)) (kV_RX7_162 C.2.2.2.2 (Nat.le_of_ble_eq_true rfl) (Nat.le_of_ble_eq_true rfl)) [0, 1] [] rfl rfl (ci := 7) (qc := (RX7, TX7, 13)) rfl rfl (List.mem_flatten.mpr ⟨_, List.mem_of_getElem? (i := 0) rfl, List.mem_cons_self⟩) rfl rfl hl.1 dX7_wordOf_116 (Nat.le_of_ble_eq_true rfl) (Nat.le_of_ble_eq_true rfl) (fun r_8 b1 H locs hw G => ?_)
          obtain ⟨rfl, hc_7⟩ := hw
          have G : zS T A s.heap s [[(rd, .inr (7, [.ref rl, .ref rdd, .ref rg, .int r0, .int r1, .ref tp, .int r2, .int r3, .int r4, .int r5, .int r6, .int r7, .int r8]))], [(tp, .inl (T.2 1, 600, .inl ft))]] _ _ := G
          rcases hc_7 with rfl | rfl
          · refine lv_if_eq (tgt := 124) hx hb dX7_wordOf_119 (by decide) (fun q => absurd q (by decide)) (fun _ => ?_)
            refine lv_iconst (v := 2) hx hb dX7_wordOf_122 (by decide) ?_
            exact z_iret C hr hlocks G (Nat.le_of_ble_eq_true rfl) (Nat.le_of_ble_eq_true rfl) dX7_wordOf_123 ⟨rfl, (by decide)⟩
          · refine lv_if_eq (tgt := 124) hx hb dX7_wordOf_119 (by decide) (fun _ => ?_) (fun q => absurd (by decide) q)
            refine lv_aload_n hx hb dX7_wordOf_124 rfl (lv_at hl 0 rfl) ?_
            refine z_ldcS C G rfl 9 (by decide) rfl dX7_wordOf_125 ?_
            refine z_Vi (bc := [[(rd, .inr (7, [.ref rl, .ref rdd, .ref rg, .int r0, .int r1, .ref tp, .int r2, .int r3, .int r4, .int r5, .int r6, .int r7, .int r8]))], [(tp, .inl (T.2 1, 600, .inl ft))]]) (br := []) (As := [.ref (T.2 (100 + 9))]) (rest := []) C G (c_reads l T rd rl rdd rg tp r0 r1 r2 r3 r4 r5 r6 r7 r8 ft 9 (by first | assumption | omega | rfl) (by first | assumption | omega | rfl)) (kV_RX7_162 C.2.2.2.2 (Nat.le_of_ble_eq_true rfl) (Nat.le_of_ble_eq_true rfl)) [0, 1] [] rfl rfl (ci := 7) (qc := (RX7, TX7, 13)) rfl rfl (List.mem_flatten.mpr ⟨_, List.mem_of_getElem? (i := 0) rfl, List.mem_cons_self⟩) rfl rfl hl.1 dX7_wordOf_127 (Nat.le_of_ble_eq_true rfl) (Nat.le_of_ble_eq_true rfl) (fun r_10 b1 H locs hw G => ?_)
            obtain ⟨rfl, hc_9⟩ := hw
            have G : zS T A s.heap s [[(rd, .inr (7, [.ref rl, .ref rdd, .ref rg, .int r0, .int r1, .ref tp, .int r2, .int r3, .int r4, .int r5, .int r6, .int r7, .int r8]))], [(tp, .inl (T.2 1, 600, .inl ft))]] _ _ := G
            rcases hc_9 with rfl | rfl
            · refine lv_if_eq (tgt := 135) hx hb dX7_wordOf_130 (by decide) (fun q => absurd q (by decide)) (fun _ => ?_)
              refine lv_iconst (v := 3) hx hb dX7_wordOf_133 (by decide) ?_
              exact z_iret C hr hlocks G (Nat.le_of_ble_eq_true rfl) (Nat.le_of_ble_eq_true rfl) dX7_wordOf_134 ⟨rfl, (by decide)⟩
            · refine lv_if_eq (tgt := 135) hx hb dX7_wordOf_130 (by decide) (fun _ => ?_) (fun q => absurd (by decide) q)
              refine lv_aload_n hx hb dX7_wordOf_135 rfl (lv_at hl 0 rfl) ?_
              refine z_ldcS C G rfl 10 (by decide) rfl dX7_wordOf_136 ?_
              refine z_Vi (bc := [[(rd, .inr (7, [.ref rl, .ref rdd, .ref rg, .int r0, .int r1, .ref tp, .int r2, .int r3, .int r4, .int r5, .int r6, .int r7, .int r8]))], [(tp, .inl (T.2 1, 600, .inl ft))]]) (br := []) (As := [.ref (T.2 (100 + 10))]) (rest := []) C G (c_reads l T rd rl rdd rg tp r0 r1 r2 r3 r4 r5 r6 r7 r8 ft 10 (by first | assumption | omega | rfl) (by first | assumption | omega | rfl)) (kV_RX7_162 C.2.2.2.2 (Nat.le_of_ble_eq_true rfl) (Nat.le_of_ble_eq_true rfl)) [0, 1] [] rfl rfl (ci := 7) (qc := (RX7, TX7, 13)) rfl rfl (List.mem_flatten.mpr ⟨_, List.mem_of_getElem? (i := 0) rfl, List.mem_cons_self⟩) rfl rfl hl.1 dX7_wordOf_138 (Nat.le_of_ble_eq_true rfl) (Nat.le_of_ble_eq_true rfl) (fun r_12 b1 H locs hw G => ?_)
              obtain ⟨rfl, hc_11⟩ := hw
              have G : zS T A s.heap s [[(rd, .inr (7, [.ref rl, .ref rdd, .ref rg, .int r0, .int r1, .ref tp, .int r2, .int r3, .int r4, .int r5, .int r6, .int r7, .int r8]))], [(tp, .inl (T.2 1, 600, .inl ft))]] _ _ := G
              rcases hc_11 with rfl | rfl
              · refine lv_if_eq (tgt := 148) hx hb dX7_wordOf_141 (by decide) (fun q => absurd q (by decide)) (fun _ => ?_)
                refine lv_iconst (v := 4) hx hb dX7_wordOf_144 (by decide) ?_
                refine lv_goto (tgt := 162) hx hb dX7_wordOf_145 (by decide) ?_
                exact z_iret C hr hlocks G (Nat.le_of_ble_eq_true rfl) (Nat.le_of_ble_eq_true rfl) dX7_wordOf_162 ⟨rfl, (by decide)⟩
              · refine lv_if_eq (tgt := 148) hx hb dX7_wordOf_141 (by decide) (fun _ => ?_) (fun q => absurd (by decide) q)
                refine lv_aload_n hx hb dX7_wordOf_148 rfl (lv_at hl 0 rfl) ?_
                refine z_ldcS C G rfl 11 (by decide) rfl dX7_wordOf_149 ?_
                refine z_Vi (bc := [[(rd, .inr (7, [.ref rl, .ref rdd, .ref rg, .int r0, .int r1, .ref tp, .int r2, .int r3, .int r4, .int r5, .int r6, .int r7, .int r8]))], [(tp, .inl (T.2 1, 600, .inl ft))]]) (br := []) (As := [.ref (T.2 (100 + 11))]) (rest := []) C G (c_reads l T rd rl rdd rg tp r0 r1 r2 r3 r4 r5 r6 r7 r8 ft 11 (by first | assumption | omega | rfl) (by first | assumption | omega | rfl)) (kV_RX7_162 C.2.2.2.2 (Nat.le_of_ble_eq_true rfl) (Nat.le_of_ble_eq_true rfl)) [0, 1] [] rfl rfl (ci := 7) (qc := (RX7, TX7, 13)) rfl rfl (List.mem_flatten.mpr ⟨_, List.mem_of_getElem? (i := 0) rfl, List.mem_cons_self⟩) rfl rfl hl.1 dX7_wordOf_151 (Nat.le_of_ble_eq_true rfl) (Nat.le_of_ble_eq_true rfl) (fun r_14 b1 H locs hw G => ?_)
                obtain ⟨rfl, hc_13⟩ := hw
                have G : zS T A s.heap s [[(rd, .inr (7, [.ref rl, .ref rdd, .ref rg, .int r0, .int r1, .ref tp, .int r2, .int r3, .int r4, .int r5, .int r6, .int r7, .int r8]))], [(tp, .inl (T.2 1, 600, .inl ft))]] _ _ := G
                rcases hc_13 with rfl | rfl
                · refine lv_if_eq (tgt := 161) hx hb dX7_wordOf_154 (by decide) (fun q => absurd q (by decide)) (fun _ => ?_)
                  refine lv_iconst (v := 5) hx hb dX7_wordOf_157 (by decide) ?_
                  refine lv_goto (tgt := 162) hx hb dX7_wordOf_158 (by decide) ?_
                  exact z_iret C hr hlocks G (Nat.le_of_ble_eq_true rfl) (Nat.le_of_ble_eq_true rfl) dX7_wordOf_162 ⟨rfl, (by decide)⟩
                · refine lv_if_eq (tgt := 161) hx hb dX7_wordOf_154 (by decide) (fun _ => ?_) (fun q => absurd (by decide) q)
                  refine lv_iconst (v := (-1)) hx hb dX7_wordOf_161 (by decide) ?_
                  exact z_iret C hr hlocks G (Nat.le_of_ble_eq_true rfl) (Nat.le_of_ble_eq_true rfl) dX7_wordOf_162 ⟨rfl, (by decide)⟩
    · have c_2n : x.toInt = (2 : Int) := (fa_eq _ _).mp c_2
      refine lv_aload_n hx hb dX7_wordOf_63 rfl (lv_at hl 0 rfl) ?_
      refine z_ldcS C G rfl 4 (by decide) rfl dX7_wordOf_64 ?_
      refine z_Vi (bc := [[(rd, .inr (7, [.ref rl, .ref rdd, .ref rg, .int r0, .int r1, .ref tp, .int r2, .int r3, .int r4, .int r5, .int r6, .int r7, .int r8]))], [(tp, .inl (T.2 1, 600, .inl ft))]]) (br := []) (As := [.ref (T.2 (100 + 4))]) (rest := []) C G (c_reads l T rd rl rdd rg tp r0 r1 r2 r3 r4 r5 r6 r7 r8 ft 4 (by first | assumption | omega | rfl) (by first | assumption | omega | rfl)) (kV_RX7_162 C.2.2.2.2 (Nat.le_of_ble_eq_true rfl) (Nat.le_of_ble_eq_true rfl)) [0, 1] [] rfl rfl (ci := 7) (qc := (RX7, TX7, 13)) rfl rfl (List.mem_flatten.mpr ⟨_, List.mem_of_getElem? (i := 0) rfl, List.mem_cons_self⟩) rfl rfl hl.1 dX7_wordOf_66 (Nat.le_of_ble_eq_true rfl) (Nat.le_of_ble_eq_true rfl) (fun r_16 b1 H locs hw G => ?_)
      obtain ⟨rfl, hc_15⟩ := hw
      have G : zS T A s.heap s [[(rd, .inr (7, [.ref rl, .ref rdd, .ref rg, .int r0, .int r1, .ref tp, .int r2, .int r3, .int r4, .int r5, .int r6, .int r7, .int r8]))], [(tp, .inl (T.2 1, 600, .inl ft))]] _ _ := G
      rcases hc_15 with rfl | rfl
      · refine lv_if_eq (tgt := 76) hx hb dX7_wordOf_69 (by decide) (fun q => absurd q (by decide)) (fun _ => ?_)
        refine lv_iconst (v := 0) hx hb dX7_wordOf_72 (by decide) ?_
        refine lv_goto (tgt := 90) hx hb dX7_wordOf_73 (by decide) ?_
        exact z_iret C hr hlocks G (Nat.le_of_ble_eq_true rfl) (Nat.le_of_ble_eq_true rfl) dX7_wordOf_90 ⟨rfl, (by decide)⟩
      · refine lv_if_eq (tgt := 76) hx hb dX7_wordOf_69 (by decide) (fun _ => ?_) (fun q => absurd (by decide) q)
        refine lv_aload_n hx hb dX7_wordOf_76 rfl (lv_at hl 0 rfl) ?_
        refine z_ldcS C G rfl 5 (by decide) rfl dX7_wordOf_77 ?_
        refine z_Vi (bc := [[(rd, .inr (7, [.ref rl, .ref rdd, .ref rg, .int r0, .int r1, .ref tp, .int r2, .int r3, .int r4, .int r5, .int r6, .int r7, .int r8]))], [(tp, .inl (T.2 1, 600, .inl ft))]]) (br := []) (As := [.ref (T.2 (100 + 5))]) (rest := []) C G (c_reads l T rd rl rdd rg tp r0 r1 r2 r3 r4 r5 r6 r7 r8 ft 5 (by first | assumption | omega | rfl) (by first | assumption | omega | rfl)) (kV_RX7_162 C.2.2.2.2 (Nat.le_of_ble_eq_true rfl) (Nat.le_of_ble_eq_true rfl)) [0, 1] [] rfl rfl (ci := 7) (qc := (RX7, TX7, 13)) rfl rfl (List.mem_flatten.mpr ⟨_, List.mem_of_getElem? (i := 0) rfl, List.mem_cons_self⟩) rfl rfl hl.1 dX7_wordOf_79 (Nat.le_of_ble_eq_true rfl) (Nat.le_of_ble_eq_true rfl) (fun r_18 b1 H locs hw G => ?_)
        obtain ⟨rfl, hc_17⟩ := hw
        have G : zS T A s.heap s [[(rd, .inr (7, [.ref rl, .ref rdd, .ref rg, .int r0, .int r1, .ref tp, .int r2, .int r3, .int r4, .int r5, .int r6, .int r7, .int r8]))], [(tp, .inl (T.2 1, 600, .inl ft))]] _ _ := G
        rcases hc_17 with rfl | rfl
        · refine lv_if_eq (tgt := 89) hx hb dX7_wordOf_82 (by decide) (fun q => absurd q (by decide)) (fun _ => ?_)
          refine lv_iconst (v := 1) hx hb dX7_wordOf_85 (by decide) ?_
          refine lv_goto (tgt := 90) hx hb dX7_wordOf_86 (by decide) ?_
          exact z_iret C hr hlocks G (Nat.le_of_ble_eq_true rfl) (Nat.le_of_ble_eq_true rfl) dX7_wordOf_90 ⟨rfl, (by decide)⟩
        · refine lv_if_eq (tgt := 89) hx hb dX7_wordOf_82 (by decide) (fun _ => ?_) (fun q => absurd (by decide) q)
          refine lv_iconst (v := (-1)) hx hb dX7_wordOf_89 (by decide) ?_
          exact z_iret C hr hlocks G (Nat.le_of_ble_eq_true rfl) (Nat.le_of_ble_eq_true rfl) dX7_wordOf_90 ⟨rfl, (by decide)⟩
  · have c_1n : x.toInt = (0 : Int) := (fa_eq _ _).mp c_1
    refine lv_aload_n hx hb dX7_wordOf_4 rfl (lv_at hl 0 rfl) ?_
    refine z_ldcS C G rfl 0 (by decide) rfl dX7_wordOf_5 ?_
    refine z_Vi (bc := [[(rd, .inr (7, [.ref rl, .ref rdd, .ref rg, .int r0, .int r1, .ref tp, .int r2, .int r3, .int r4, .int r5, .int r6, .int r7, .int r8]))], [(tp, .inl (T.2 1, 600, .inl ft))]]) (br := []) (As := [.ref (T.2 (100 + 0))]) (rest := []) C G (c_reads l T rd rl rdd rg tp r0 r1 r2 r3 r4 r5 r6 r7 r8 ft 0 (by first | assumption | omega | rfl) (by first | assumption | omega | rfl)) (kV_RX7_162 C.2.2.2.2 (Nat.le_of_ble_eq_true rfl) (Nat.le_of_ble_eq_true rfl)) [0, 1] [] rfl rfl (ci := 7) (qc := (RX7, TX7, 13)) rfl rfl (List.mem_flatten.mpr ⟨_, List.mem_of_getElem? (i := 0) rfl, List.mem_cons_self⟩) rfl rfl hl.1 dX7_wordOf_7 (Nat.le_of_ble_eq_true rfl) (Nat.le_of_ble_eq_true rfl) (fun r_20 b1 H locs hw G => ?_)
    obtain ⟨rfl, hc_19⟩ := hw
    have G : zS T A s.heap s [[(rd, .inr (7, [.ref rl, .ref rdd, .ref rg, .int r0, .int r1, .ref tp, .int r2, .int r3, .int r4, .int r5, .int r6, .int r7, .int r8]))], [(tp, .inl (T.2 1, 600, .inl ft))]] _ _ := G
    rcases hc_19 with rfl | rfl
    · refine lv_if_eq (tgt := 17) hx hb dX7_wordOf_10 (by decide) (fun q => absurd q (by decide)) (fun _ => ?_)
      refine lv_iconst (v := 0) hx hb dX7_wordOf_13 (by decide) ?_
      refine lv_goto (tgt := 57) hx hb dX7_wordOf_14 (by decide) ?_
      exact z_iret C hr hlocks G (Nat.le_of_ble_eq_true rfl) (Nat.le_of_ble_eq_true rfl) dX7_wordOf_57 ⟨rfl, (by decide)⟩
    · refine lv_if_eq (tgt := 17) hx hb dX7_wordOf_10 (by decide) (fun _ => ?_) (fun q => absurd (by decide) q)
      refine lv_aload_n hx hb dX7_wordOf_17 rfl (lv_at hl 0 rfl) ?_
      refine z_ldcS C G rfl 1 (by decide) rfl dX7_wordOf_18 ?_
      refine z_Vi (bc := [[(rd, .inr (7, [.ref rl, .ref rdd, .ref rg, .int r0, .int r1, .ref tp, .int r2, .int r3, .int r4, .int r5, .int r6, .int r7, .int r8]))], [(tp, .inl (T.2 1, 600, .inl ft))]]) (br := []) (As := [.ref (T.2 (100 + 1))]) (rest := []) C G (c_reads l T rd rl rdd rg tp r0 r1 r2 r3 r4 r5 r6 r7 r8 ft 1 (by first | assumption | omega | rfl) (by first | assumption | omega | rfl)) (kV_RX7_162 C.2.2.2.2 (Nat.le_of_ble_eq_true rfl) (Nat.le_of_ble_eq_true rfl)) [0, 1] [] rfl rfl (ci := 7) (qc := (RX7, TX7, 13)) rfl rfl (List.mem_flatten.mpr ⟨_, List.mem_of_getElem? (i := 0) rfl, List.mem_cons_self⟩) rfl rfl hl.1 dX7_wordOf_20 (Nat.le_of_ble_eq_true rfl) (Nat.le_of_ble_eq_true rfl) (fun r_22 b1 H locs hw G => ?_)
      obtain ⟨rfl, hc_21⟩ := hw
      have G : zS T A s.heap s [[(rd, .inr (7, [.ref rl, .ref rdd, .ref rg, .int r0, .int r1, .ref tp, .int r2, .int r3, .int r4, .int r5, .int r6, .int r7, .int r8]))], [(tp, .inl (T.2 1, 600, .inl ft))]] _ _ := G
      rcases hc_21 with rfl | rfl
      · refine lv_if_eq (tgt := 30) hx hb dX7_wordOf_23 (by decide) (fun q => absurd q (by decide)) (fun _ => ?_)
        refine lv_iconst (v := 1) hx hb dX7_wordOf_26 (by decide) ?_
        refine lv_goto (tgt := 57) hx hb dX7_wordOf_27 (by decide) ?_
        exact z_iret C hr hlocks G (Nat.le_of_ble_eq_true rfl) (Nat.le_of_ble_eq_true rfl) dX7_wordOf_57 ⟨rfl, (by decide)⟩
      · refine lv_if_eq (tgt := 30) hx hb dX7_wordOf_23 (by decide) (fun _ => ?_) (fun q => absurd (by decide) q)
        refine lv_aload_n hx hb dX7_wordOf_30 rfl (lv_at hl 0 rfl) ?_
        refine z_ldcS C G rfl 2 (by decide) rfl dX7_wordOf_31 ?_
        refine z_Vi (bc := [[(rd, .inr (7, [.ref rl, .ref rdd, .ref rg, .int r0, .int r1, .ref tp, .int r2, .int r3, .int r4, .int r5, .int r6, .int r7, .int r8]))], [(tp, .inl (T.2 1, 600, .inl ft))]]) (br := []) (As := [.ref (T.2 (100 + 2))]) (rest := []) C G (c_reads l T rd rl rdd rg tp r0 r1 r2 r3 r4 r5 r6 r7 r8 ft 2 (by first | assumption | omega | rfl) (by first | assumption | omega | rfl)) (kV_RX7_162 C.2.2.2.2 (Nat.le_of_ble_eq_true rfl) (Nat.le_of_ble_eq_true rfl)) [0, 1] [] rfl rfl (ci := 7) (qc := (RX7, TX7, 13)) rfl rfl (List.mem_flatten.mpr ⟨_, List.mem_of_getElem? (i := 0) rfl, List.mem_cons_self⟩) rfl rfl hl.1 dX7_wordOf_33 (Nat.le_of_ble_eq_true rfl) (Nat.le_of_ble_eq_true rfl) (fun r_24 b1 H locs hw G => ?_)
        obtain ⟨rfl, hc_23⟩ := hw
        have G : zS T A s.heap s [[(rd, .inr (7, [.ref rl, .ref rdd, .ref rg, .int r0, .int r1, .ref tp, .int r2, .int r3, .int r4, .int r5, .int r6, .int r7, .int r8]))], [(tp, .inl (T.2 1, 600, .inl ft))]] _ _ := G
        rcases hc_23 with rfl | rfl
        · refine lv_if_eq (tgt := 43) hx hb dX7_wordOf_36 (by decide) (fun q => absurd q (by decide)) (fun _ => ?_)
          refine lv_iconst (v := 2) hx hb dX7_wordOf_39 (by decide) ?_
          refine lv_goto (tgt := 57) hx hb dX7_wordOf_40 (by decide) ?_
          exact z_iret C hr hlocks G (Nat.le_of_ble_eq_true rfl) (Nat.le_of_ble_eq_true rfl) dX7_wordOf_57 ⟨rfl, (by decide)⟩
        · refine lv_if_eq (tgt := 43) hx hb dX7_wordOf_36 (by decide) (fun _ => ?_) (fun q => absurd (by decide) q)
          refine lv_aload_n hx hb dX7_wordOf_43 rfl (lv_at hl 0 rfl) ?_
          refine z_ldcS C G rfl 3 (by decide) rfl dX7_wordOf_44 ?_
          refine z_Vi (bc := [[(rd, .inr (7, [.ref rl, .ref rdd, .ref rg, .int r0, .int r1, .ref tp, .int r2, .int r3, .int r4, .int r5, .int r6, .int r7, .int r8]))], [(tp, .inl (T.2 1, 600, .inl ft))]]) (br := []) (As := [.ref (T.2 (100 + 3))]) (rest := []) C G (c_reads l T rd rl rdd rg tp r0 r1 r2 r3 r4 r5 r6 r7 r8 ft 3 (by first | assumption | omega | rfl) (by first | assumption | omega | rfl)) (kV_RX7_162 C.2.2.2.2 (Nat.le_of_ble_eq_true rfl) (Nat.le_of_ble_eq_true rfl)) [0, 1] [] rfl rfl (ci := 7) (qc := (RX7, TX7, 13)) rfl rfl (List.mem_flatten.mpr ⟨_, List.mem_of_getElem? (i := 0) rfl, List.mem_cons_self⟩) rfl rfl hl.1 dX7_wordOf_46 (Nat.le_of_ble_eq_true rfl) (Nat.le_of_ble_eq_true rfl) (fun r_26 b1 H locs hw G => ?_)
          obtain ⟨rfl, hc_25⟩ := hw
          have G : zS T A s.heap s [[(rd, .inr (7, [.ref rl, .ref rdd, .ref rg, .int r0, .int r1, .ref tp, .int r2, .int r3, .int r4, .int r5, .int r6, .int r7, .int r8]))], [(tp, .inl (T.2 1, 600, .inl ft))]] _ _ := G
          rcases hc_25 with rfl | rfl
          · refine lv_if_eq (tgt := 56) hx hb dX7_wordOf_49 (by decide) (fun q => absurd q (by decide)) (fun _ => ?_)
            refine lv_iconst (v := 3) hx hb dX7_wordOf_52 (by decide) ?_
            refine lv_goto (tgt := 57) hx hb dX7_wordOf_53 (by decide) ?_
            exact z_iret C hr hlocks G (Nat.le_of_ble_eq_true rfl) (Nat.le_of_ble_eq_true rfl) dX7_wordOf_57 ⟨rfl, (by decide)⟩
          · refine lv_if_eq (tgt := 56) hx hb dX7_wordOf_49 (by decide) (fun _ => ?_) (fun q => absurd (by decide) q)
            refine lv_iconst (v := (-1)) hx hb dX7_wordOf_56 (by decide) ?_
            exact z_iret C hr hlocks G (Nat.le_of_ble_eq_true rfl) (Nat.le_of_ble_eq_true rfl) dX7_wordOf_57 ⟨rfl, (by decide)⟩

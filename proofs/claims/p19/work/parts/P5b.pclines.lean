set_option maxHeartbeats 4000000 in
set_option maxRecDepth 100000 in
/-- c_f_breakHere -/
theorem c_f_breakHere (l : Launch) (T : zTy) (rd : Nat) (rl : Nat) (rdd : Nat) (rg : Nat) (tp : Nat) (r0 : Int32) (r1 : Int32) (r2 : Int32) (r3 : Int32) (r4 : Int32) (r5 : Int32) (r6 : Int32) (r7 : Int32) (r8 : Int32) : zMv l T yX7_breakHere cX7_breakHere 1 1 0 0 [.ref rd] [[zO7 rd rl rdd rg r0 r1 tp r2 r3 r4 r5 r6 r7 r8]] (fun bs => ∃ (u0 : Int32) (u1 : Int32) (u7 : Int32), bs = [[zO7 rd rl rdd rg u0 u1 tp r2 r3 r4 r5 r6 u7 r8]] ∧ u0 = (if r7.toInt = 0 then 1 else r0) ∧ u1 = (if r7.toInt = 0 then r5 else r1) ∧ u7 = (if r7.toInt = 0 then 1 else r7)) := by
  refine zMv_of (own := RX7) (by decide) rfl (Nat.le_of_ble_eq_true rfl) ?_
  intro p e s m args below meth c A ls C hr hlocks hnm hAe G hl
  refine zHide (fun Q9 hQ9 => ?_)
  have hx := C.1
  have hb := C.2.1
  have hl : lv_has ls 1 [(0, .ref rd)] := hl
  refine lv_aload_n hx hb dX7_breakHere_0 rfl (lv_at hl 0 rfl) ?_
  refine z_get C G clX7 0 rfl 11 (by decide) m_fl_RX7_55 rfl dX7_breakHere_1 ?_
  refine lv_if_ne (tgt := 25) hx hb dX7_breakHere_4 (by decide) (fun c_1 => ?_) (fun c_1 => ?_)
  · have c_1n : ¬ r7.toInt = (0 : Int) := fun q => c_1 ((fa_eq _ _).mpr q)
    exact z_back hQ9 (z_vret C hr hlocks G (Nat.le_of_ble_eq_true rfl) (Nat.le_of_ble_eq_true rfl) dX7_breakHere_25 ⟨r0, r1, r7, rfl, (by rw [if_neg (by omega)]), (by rw [if_neg (by omega)]), (by rw [if_neg (by omega)])⟩)
  · have c_1n : r7.toInt = (0 : Int) := (fa_eq _ _).mp c_1
    refine lv_aload_n hx hb dX7_breakHere_7 rfl (lv_at hl 0 rfl) ?_
    refine lv_iconst (v := 1) hx hb dX7_breakHere_8 (by decide) ?_
    refine z_put C G clX7 0 rfl 11 (by decide) m_fl_RX7_55 rfl rfl rfl (Nat.le_of_ble_eq_true rfl) dX7_breakHere_9 (fun H locs G => ?_)
    have G : zS T A s.heap s [[zO7 rd rl rdd rg r0 r1 tp r2 r3 r4 r5 r6 1 r8]] _ _ := G
    refine lv_aload_n hx hb dX7_breakHere_12 rfl (lv_at hl 0 rfl) ?_
    refine lv_iconst (v := 1) hx hb dX7_breakHere_13 (by decide) ?_
    refine z_put C G clX7 0 rfl 3 (by decide) m_fl_RX7_49 rfl rfl rfl (Nat.le_of_ble_eq_true rfl) dX7_breakHere_14 (fun H locs G => ?_)
    have G : zS T A s.heap s [[zO7 rd rl rdd rg 1 r1 tp r2 r3 r4 r5 r6 1 r8]] _ _ := G
    refine lv_aload_n hx hb dX7_breakHere_17 rfl (lv_at hl 0 rfl) ?_
    refine lv_aload_n hx hb dX7_breakHere_18 rfl (lv_at hl 0 rfl) ?_
    refine z_get C G clX7 0 rfl 9 (by decide) m_fl_RX7_84 rfl dX7_breakHere_19 ?_
    refine z_put C G clX7 0 rfl 4 (by decide) m_fl_RX7_52 rfl rfl rfl (Nat.le_of_ble_eq_true rfl) dX7_breakHere_22 (fun H locs G => ?_)
    have G : zS T A s.heap s [[zO7 rd rl rdd rg 1 r5 tp r2 r3 r4 r5 r6 1 r8]] _ _ := G
    exact z_back hQ9 (z_vret C hr hlocks G (Nat.le_of_ble_eq_true rfl) (Nat.le_of_ble_eq_true rfl) dX7_breakHere_25 ⟨1, r5, 1, rfl, (by rw [if_pos (by omega)]), (by rw [if_pos (by omega)]), (by rw [if_pos (by omega)])⟩)
set_option maxHeartbeats 4000000 in
set_option maxRecDepth 100000 in
/-- c_f_note -/
theorem c_f_note (l : Launch) (T : zTy) (rd : Nat) (rl : Nat) (rdd : Nat) (rg : Nat) (tp : Nat) (r0 : Int32) (r1 : Int32) (r2 : Int32) (r3 : Int32) (r4 : Int32) (r5 : Int32) (r6 : Int32) (r7 : Int32) (r8 : Int32) (x : Int32) (y : Int32) : zMv l T yX7_note cX7_note 3 1 0 0 [.ref rd, .int x, .int y] [[zO7 rd rl rdd rg r0 r1 tp r2 r3 r4 r5 r6 r7 r8]] (fun bs => ∃ (u0 : Int32) (u1 : Int32), bs = [[zO7 rd rl rdd rg u0 u1 tp r2 r3 r4 r5 r6 r7 r8]] ∧ u0 = (if r0.toInt = 0 then x else r0) ∧ u1 = (if r0.toInt = 0 then y else r1)) := by
  refine zMv_of (own := RX7) (by decide) rfl (Nat.le_of_ble_eq_true rfl) ?_
  intro p e s m args below meth c A ls C hr hlocks hnm hAe G hl
  refine zHide (fun Q9 hQ9 => ?_)
  have hx := C.1
  have hb := C.2.1
  have hl : lv_has ls 3 [(0, .ref rd), (1, .int x), (2, .int y)] := hl
  refine lv_aload_n hx hb dX7_note_0 rfl (lv_at hl 0 rfl) ?_
  refine z_get C G clX7 0 rfl 3 (by decide) m_fl_RX7_49 rfl dX7_note_1 ?_
  refine lv_if_ne (tgt := 17) hx hb dX7_note_4 (by decide) (fun c_1 => ?_) (fun c_1 => ?_)
  · have c_1n : ¬ r0.toInt = (0 : Int) := fun q => c_1 ((fa_eq _ _).mpr q)
    exact z_back hQ9 (z_vret C hr hlocks G (Nat.le_of_ble_eq_true rfl) (Nat.le_of_ble_eq_true rfl) dX7_note_17 ⟨r0, r1, rfl, (by rw [if_neg (by omega)]), (by rw [if_neg (by omega)])⟩)
  · have c_1n : r0.toInt = (0 : Int) := (fa_eq _ _).mp c_1
    refine lv_aload_n hx hb dX7_note_7 rfl (lv_at hl 0 rfl) ?_
    refine lv_iload_n hx hb dX7_note_8 rfl (lv_at hl 1 rfl) ?_
    refine z_put C G clX7 0 rfl 3 (by decide) m_fl_RX7_49 rfl rfl rfl (Nat.le_of_ble_eq_true rfl) dX7_note_9 (fun H locs G => ?_)
    have G : zS T A s.heap s [[zO7 rd rl rdd rg x r1 tp r2 r3 r4 r5 r6 r7 r8]] _ _ := G
    refine lv_aload_n hx hb dX7_note_12 rfl (lv_at hl 0 rfl) ?_
    refine lv_iload_n hx hb dX7_note_13 rfl (lv_at hl 2 rfl) ?_
    refine z_put C G clX7 0 rfl 4 (by decide) m_fl_RX7_52 rfl rfl rfl (Nat.le_of_ble_eq_true rfl) dX7_note_14 (fun H locs G => ?_)
    have G : zS T A s.heap s [[zO7 rd rl rdd rg x y tp r2 r3 r4 r5 r6 r7 r8]] _ _ := G
    exact z_back hQ9 (z_vret C hr hlocks G (Nat.le_of_ble_eq_true rfl) (Nat.le_of_ble_eq_true rfl) dX7_note_17 ⟨x, y, rfl, (by rw [if_pos (by omega)]), (by rw [if_pos (by omega)])⟩)
set_option maxHeartbeats 4000000 in
set_option maxRecDepth 100000 in
/-- c_f_tellOf -/
theorem c_f_tellOf (l : Launch) (T : zTy) (rd : Nat) (rl : Nat) (rdd : Nat) (rg : Nat) (tp : Nat) (r0 : Int32) (r1 : Int32) (r2 : Int32) (r3 : Int32) (r4 : Int32) (r5 : Int32) (r6 : Int32) (r7 : Int32) (r8 : Int32) (x : Int32) : zMv l T yX7_tellOf cX7_tellOf 2 1 0 0 [.ref rd, .int x] [[zO7 rd rl rdd rg r0 r1 tp r2 r3 r4 r5 r6 r7 r8]] (fun bs => ∃ (u8 : Int32), bs = [[zO7 rd rl rdd rg r0 r1 tp r2 r3 r4 r5 r6 r7 u8]] ∧ u8 = (if 0 ≤ x.toInt ∧ x.toInt < 7 then r8 ||| ((1 : Int32) <<< (x &&& 31)) else r8)) := by
  refine zMv_of (own := RX7) (by decide) rfl (Nat.le_of_ble_eq_true rfl) ?_
  intro p e s m args below meth c A ls C hr hlocks hnm hAe G hl
  refine zHide (fun Q9 hQ9 => ?_)
  have hx := C.1
  have hb := C.2.1
  have hl : lv_has ls 2 [(0, .ref rd), (1, .int x)] := hl
  refine lv_iload_n hx hb dX7_tellOf_0 rfl (lv_at hl 1 rfl) ?_
  refine lv_if_lt (tgt := 22) hx hb dX7_tellOf_1 (by decide) (fun c_1 => ?_) (fun c_1 => ?_)
  · have c_1n : x.toInt < (0 : Int) := (fa_lt _ _).mp c_1
    exact z_back hQ9 (z_vret C hr hlocks G (Nat.le_of_ble_eq_true rfl) (Nat.le_of_ble_eq_true rfl) dX7_tellOf_22 ⟨r8, rfl, (by rw [if_neg (by omega)])⟩)
  · have c_1n : ¬ x.toInt < (0 : Int) := fun q => c_1 ((fa_lt _ _).mpr q)
    refine lv_iload_n hx hb dX7_tellOf_4 rfl (lv_at hl 1 rfl) ?_
    refine lv_bipush (v := 7) hx hb dX7_tellOf_5 (by decide) ?_
    refine lv_icmp_ge (tgt := 22) hx hb dX7_tellOf_7 (by decide) (fun c_2 => ?_) (fun c_2 => ?_)
    · have c_2n : (7 : Int) ≤ x.toInt := (fa_le _ _).mp c_2
      exact z_back hQ9 (z_vret C hr hlocks G (Nat.le_of_ble_eq_true rfl) (Nat.le_of_ble_eq_true rfl) dX7_tellOf_22 ⟨r8, rfl, (by rw [if_neg (by omega)])⟩)
    · have c_2n : ¬ (7 : Int) ≤ x.toInt := fun q => c_2 ((fa_le _ _).mpr q)
      refine lv_aload_n hx hb dX7_tellOf_10 rfl (lv_at hl 0 rfl) ?_
      refine lv_dup hx hb dX7_tellOf_11 rfl ?_
      refine z_get C G clX7 0 rfl 12 (by decide) m_fl_RX7_59 rfl dX7_tellOf_12 ?_
      refine lv_iconst (v := 1) hx hb dX7_tellOf_15 (by decide) ?_
      refine lv_iload_n hx hb dX7_tellOf_16 rfl (lv_at hl 1 rfl) ?_
      refine lv_ishl hx hb dX7_tellOf_17 ?_
      refine lv_ior hx hb dX7_tellOf_18 ?_
      refine z_put C G clX7 0 rfl 12 (by decide) m_fl_RX7_59 rfl rfl rfl (Nat.le_of_ble_eq_true rfl) dX7_tellOf_19 (fun H locs G => ?_)
      have G : zS T A s.heap s [[zO7 rd rl rdd rg r0 r1 tp r2 r3 r4 r5 r6 r7 (r8 ||| (1 <<< (x &&& 31)))]] _ _ := G
      exact z_back hQ9 (z_vret C hr hlocks G (Nat.le_of_ble_eq_true rfl) (Nat.le_of_ble_eq_true rfl) dX7_tellOf_22 ⟨(r8 ||| (1 <<< (x &&& 31))), rfl, (by rw [if_pos (by omega)])⟩)
set_option maxHeartbeats 4000000 in
set_option maxRecDepth 100000 in
/-- c_f_readNumber -/
theorem c_f_readNumber (l : Launch) (T : zTy) (rd : Nat) (rl : Nat) (rdd : Nat) (rg : Nat) (tp : Nat) (r0 : Int32) (r1 : Int32) (r2 : Int32) (r3 : Int32) (r4 : Int32) (r5 : Int32) (r6 : Int32) (r7 : Int32) (r8 : Int32) (ft : Nat → Int32) (k : pT) (n : Nat) (a : pS) (x : Int32) (hA : zRc k n ft r0 r1 r2 r3 r4 r5 r6 r7 a) : zMi l T yX7_readNumber cX7_readNumber 3 (some .int) 4 0 0 [.ref rd, .int x] [[zO7 rd rl rdd rg r0 r1 tp r2 r3 r4 r5 r6 r7 r8], [zAr T 1 tp 600 ft]] (fun (r : Int32) bs => ∃ (u0 : Int32) (u1 : Int32) (u3 : Int32) (u4 : Int32) (u5 : Int32) (u6 : Int32) (u7 : Int32), bs = [[zO7 rd rl rdd rg u0 u1 tp r2 u3 u4 u5 u6 u7 r8], [zAr T 1 tp 600 ft]] ∧ (0 ≤ r.toInt ∧ r.toInt ≤ 1000) ∧ zRc k n ft u0 u1 r2 u3 u4 u5 u6 u7 (pNum k 0 x a).2 ∧ ((pNum k 0 x a).2.2.2.1.toInt = 0 → r = (pNum k 0 x a).1)) := by
  refine zMi_of (own := RX7) (by decide) rfl (Nat.le_of_ble_eq_true rfl) ?_
  intro p e s m args below meth c A ls C hr hlocks hnm hAe G hl
  refine zHide (fun Q9 hQ9 => ?_)
  have hx := C.1
  have hb := C.2.1
  have hl : lv_has ls 3 [(0, .ref rd), (1, .int x)] := hl
  have hok := zRc_ok hA
  obtain ⟨hA1, hA6, hA7, hA8, hA9, hAI, hAE⟩ := id hA
  have hka := hok a.1 hA1.2.2.2
  refine lv_aload_n hx hb dX7_readNumber_0 rfl (lv_at hl 0 rfl) ?_
  refine z_get C G clX7 0 rfl 11 (by decide) m_fl_RX7_55 rfl dX7_readNumber_1 ?_
  refine lv_if_ne (tgt := 15) hx hb dX7_readNumber_4 (by decide) (fun c_1 => ?_) (fun c_1 => ?_)
  · have c_1n : ¬ r7.toInt = (0 : Int) := fun q => c_1 ((fa_eq _ _).mpr q)
    refine lv_aload_n hx hb dX7_readNumber_15 rfl (lv_at hl 0 rfl) ?_
    refine z_Vv (bc := [[zO7 rd rl rdd rg r0 r1 tp r2 r3 r4 r5 r6 r7 r8]]) (br := [[zAr T 1 tp 600 ft]]) (As := []) (rest := []) C G (c_f_breakHere l T rd rl rdd rg tp r0 r1 r2 r3 r4 r5 r6 r7 r8) (kV_RX7_105 C.2.2.2.2 (Nat.le_of_ble_eq_true rfl) (Nat.le_of_ble_eq_true rfl)) [0] [0] rfl rfl (ci := 7) (qc := (RX7, TX7, 13)) rfl rfl (List.mem_flatten.mpr ⟨_, List.mem_of_getElem? (i := 0) rfl, List.mem_cons_self⟩) rfl rfl hl.1 dX7_readNumber_16 (Nat.le_of_ble_eq_true rfl) (Nat.le_of_ble_eq_true rfl) (fun b1 H locs hw G => ?_)
    refine zEx3 hw ?_
    intro u0_2 u1_3 u7_4
    refine zCu4 ?_
    intro hbs9 h_5 h_6 h_7
    clear hw
    subst hbs9
    have G : zS T A s.heap s [[zAr T 1 tp 600 ft], [zO7 rd rl rdd rg u0_2 u1_3 tp r2 r3 r4 r5 r6 u7_4 r8]] _ _ := G
    refine lv_iconst (v := 0) hx hb dX7_readNumber_19 (by decide) ?_
    have G := G.sub (bs' := [[zO7 rd rl rdd rg u0_2 u1_3 tp r2 r3 r4 r5 r6 u7_4 r8], [zAr T 1 tp 600 ft]]) [1, 0] rfl
    exact z_back hQ9 (z_iret C hr hlocks G (Nat.le_of_ble_eq_true rfl) (Nat.le_of_ble_eq_true rfl) dX7_readNumber_20 ⟨u0_2, u1_3, r3, r4, r5, r6, u7_4, rfl, (by decide), (by rw [pNum_e (Or.inl (by rw [← hA6]; omega))]; exact zRc_brk hA h_5 h_6 h_7), (by rw [pNum_e (Or.inl (by rw [← hA6]; omega))]; intro q9; exact absurd q9 (pEnds_f hAI))⟩)
  · have c_1n : r7.toInt = (0 : Int) := (fa_eq _ _).mp c_1
    have hw : a.2.1.toInt = 0 := by rw [← hA6]; omega
    obtain ⟨t3, t4, t5, t6⟩ := hA7 hw
    have t4i : r4.toInt = (pCl k a.1 : Int) := by rw [t4]; exact nI_toInt (by omega)
    refine lv_aload_n hx hb dX7_readNumber_7 rfl (lv_at hl 0 rfl) ?_
    refine z_get C G clX7 0 rfl 8 (by decide) m_fl_RX7_74 rfl dX7_readNumber_8 ?_
    refine lv_iconst (v := 2) hx hb dX7_readNumber_11 (by decide) ?_
    refine lv_icmp_eq (tgt := 21) hx hb dX7_readNumber_12 (by decide) (fun c_9 => ?_) (fun c_9 => ?_)
    · have c_9n : r4.toInt = (2 : Int) := (fa_eq _ _).mp c_9
      have hcl : pCl k a.1 = 2 := by omega
      have htk := (pTk_1 hok hA1.2.2.2).mpr hcl
      have hv := t6 hcl
      have hnm := hka.2.2.2.2.1 hcl
      rw [← hv] at hnm
      refine lv_aload_n hx hb dX7_readNumber_21 rfl (lv_at hl 0 rfl) ?_
      refine z_get C G clX7 0 rfl 10 (by decide) m_fl_RX7_141 rfl dX7_readNumber_22 ?_
      refine lv_istore_n (lv' := [(2, .int r6), (0, .ref rd), (1, .int x)]) hx hb dX7_readNumber_25 rfl hl (by decide) rfl (fun ls hl => ?_)
      refine lv_iload_n hx hb dX7_readNumber_26 rfl (lv_at hl 0 rfl) ?_
      refine lv_iload_n hx hb dX7_readNumber_27 rfl (lv_at hl 2 rfl) ?_
      refine lv_icmp_le (tgt := 40) hx hb dX7_readNumber_28 (by decide) (fun c_10 => ?_) (fun c_10 => ?_)
      · have c_10n : r6.toInt ≤ x.toInt := (fa_le _ _).mp c_10
        refine lv_aload_n hx hb dX7_readNumber_40 rfl (lv_at hl 1 rfl) ?_
        refine z_Vv (bc := [[zO7 rd rl rdd rg r0 r1 tp r2 r3 r4 r5 r6 r7 r8], [zAr T 1 tp 600 ft]]) (br := []) (As := []) (rest := []) C G (c_f_nextToken l T rd rl rdd rg tp r0 r1 r2 r3 r4 r5 r6 r7 r8 ft (pEn k a.1) n k t3 hka.1.2.2 hA1.1 hA1.2.2.1 hA1.2.1) (kV_RX7_71 C.2.2.2.2 (Nat.le_of_ble_eq_true rfl) (Nat.le_of_ble_eq_true rfl)) [0, 1] [0, 0] rfl rfl (ci := 7) (qc := (RX7, TX7, 13)) rfl rfl (List.mem_flatten.mpr ⟨_, List.mem_of_getElem? (i := 0) rfl, List.mem_cons_self⟩) rfl rfl hl.1 dX7_readNumber_41 (Nat.le_of_ble_eq_true rfl) (Nat.le_of_ble_eq_true rfl) (fun b1 H locs hw G => ?_)
        refine zEx4 hw ?_
        intro u3_11 u4_12 u5_13 u6_14
        refine zCu2 ?_
        intro hbs9 h_15
        clear hw
        subst hbs9
        have G : zS T A s.heap s [[zO7 rd rl rdd rg r0 r1 tp r2 u3_11 u4_12 u5_13 u6_14 r7 r8], [zAr T 1 tp 600 ft]] _ _ := G
        refine lv_iload_n hx hb dX7_readNumber_44 rfl (lv_at hl 0 rfl) ?_
        exact z_back hQ9 (z_iret C hr hlocks G (Nat.le_of_ble_eq_true rfl) (Nat.le_of_ble_eq_true rfl) dX7_readNumber_45 ⟨r0, r1, u3_11, u4_12, u5_13, u6_14, r7, rfl, ⟨hnm.1, by omega⟩, (by rw [pNum_i hw htk (by rw [← hv]; exact ⟨hnm.1, by omega⟩)]; exact zRc_adv hA hw h_15), (by rw [pNum_i hw htk (by rw [← hv]; exact ⟨hnm.1, by omega⟩)]; intro _; exact hv)⟩)
      · have c_10n : ¬ r6.toInt ≤ x.toInt := fun q => c_10 ((fa_le _ _).mpr q)
        refine lv_aload_n hx hb dX7_readNumber_31 rfl (lv_at hl 1 rfl) ?_
        refine lv_iconst (v := 2) hx hb dX7_readNumber_32 (by decide) ?_
        refine lv_aload_n hx hb dX7_readNumber_33 rfl (lv_at hl 1 rfl) ?_
        refine z_get C G clX7 0 rfl 9 (by decide) m_fl_RX7_84 rfl dX7_readNumber_34 ?_
        refine z_Vv (bc := [[zO7 rd rl rdd rg r0 r1 tp r2 r3 r4 r5 r6 r7 r8]]) (br := [[zAr T 1 tp 600 ft]]) (As := [.int 2, .int r5]) (rest := []) C G (c_f_note l T rd rl rdd rg tp r0 r1 r2 r3 r4 r5 r6 r7 r8 2 r5) (kV_RX7_90 C.2.2.2.2 (Nat.le_of_ble_eq_true rfl) (Nat.le_of_ble_eq_true rfl)) [0] [0] rfl rfl (ci := 7) (qc := (RX7, TX7, 13)) rfl rfl (List.mem_flatten.mpr ⟨_, List.mem_of_getElem? (i := 0) rfl, List.mem_cons_self⟩) rfl rfl hl.1 dX7_readNumber_37 (Nat.le_of_ble_eq_true rfl) (Nat.le_of_ble_eq_true rfl) (fun b1 H locs hw G => ?_)
        refine zEx2 hw ?_
        intro u0_17 u1_18
        refine zCu3 ?_
        intro hbs9 h_19 h_20
        clear hw
        subst hbs9
        have G : zS T A s.heap s [[zAr T 1 tp 600 ft], [zO7 rd rl rdd rg u0_17 u1_18 tp r2 r3 r4 r5 r6 r7 r8]] _ _ := G
        refine lv_aload_n hx hb dX7_readNumber_40 rfl (lv_at hl 1 rfl) ?_
        refine z_Vv (bc := [[zO7 rd rl rdd rg u0_17 u1_18 tp r2 r3 r4 r5 r6 r7 r8], [zAr T 1 tp 600 ft]]) (br := []) (As := []) (rest := []) C G (c_f_nextToken l T rd rl rdd rg tp u0_17 u1_18 r2 r3 r4 r5 r6 r7 r8 ft (pEn k a.1) n k t3 hka.1.2.2 hA1.1 hA1.2.2.1 hA1.2.1) (kV_RX7_71 C.2.2.2.2 (Nat.le_of_ble_eq_true rfl) (Nat.le_of_ble_eq_true rfl)) [1, 0] [0, 0] rfl rfl (ci := 7) (qc := (RX7, TX7, 13)) rfl rfl (List.mem_flatten.mpr ⟨_, List.mem_of_getElem? (i := 0) rfl, List.mem_cons_self⟩) rfl rfl hl.1 dX7_readNumber_41 (Nat.le_of_ble_eq_true rfl) (Nat.le_of_ble_eq_true rfl) (fun b1 H locs hw G => ?_)
        refine zEx4 hw ?_
        intro u3_22 u4_23 u5_24 u6_25
        refine zCu2 ?_
        intro hbs9 h_26
        clear hw
        subst hbs9
        have G : zS T A s.heap s [[zO7 rd rl rdd rg u0_17 u1_18 tp r2 u3_22 u4_23 u5_24 u6_25 r7 r8], [zAr T 1 tp 600 ft]] _ _ := G
        refine lv_iload_n hx hb dX7_readNumber_44 rfl (lv_at hl 0 rfl) ?_
        exact z_back hQ9 (z_iret C hr hlocks G (Nat.le_of_ble_eq_true rfl) (Nat.le_of_ble_eq_true rfl) dX7_readNumber_45 ⟨u0_17, u1_18, u3_22, u4_23, u5_24, u6_25, r7, rfl, ⟨hnm.1, by omega⟩, (by rw [pNum_o hw htk (by rw [← hv]; exact fun q9 => by omega)]; exact zRc_na hA hw (by omega) h_19 h_20 h_26), (by rw [pNum_o hw htk (by rw [← hv]; exact fun q9 => by omega)]; intro q9; exact absurd q9 (pAlso_f (by decide) hw))⟩)
    · have c_9n : ¬ r4.toInt = (2 : Int) := fun q => c_9 ((fa_eq _ _).mpr q)
      refine lv_aload_n hx hb dX7_readNumber_15 rfl (lv_at hl 0 rfl) ?_
      refine z_Vv (bc := [[zO7 rd rl rdd rg r0 r1 tp r2 r3 r4 r5 r6 r7 r8]]) (br := [[zAr T 1 tp 600 ft]]) (As := []) (rest := []) C G (c_f_breakHere l T rd rl rdd rg tp r0 r1 r2 r3 r4 r5 r6 r7 r8) (kV_RX7_105 C.2.2.2.2 (Nat.le_of_ble_eq_true rfl) (Nat.le_of_ble_eq_true rfl)) [0] [0] rfl rfl (ci := 7) (qc := (RX7, TX7, 13)) rfl rfl (List.mem_flatten.mpr ⟨_, List.mem_of_getElem? (i := 0) rfl, List.mem_cons_self⟩) rfl rfl hl.1 dX7_readNumber_16 (Nat.le_of_ble_eq_true rfl) (Nat.le_of_ble_eq_true rfl) (fun b1 H locs hw G => ?_)
      refine zEx3 hw ?_
      intro u0_28 u1_29 u7_30
      refine zCu4 ?_
      intro hbs9 h_31 h_32 h_33
      clear hw
      subst hbs9
      have G : zS T A s.heap s [[zAr T 1 tp 600 ft], [zO7 rd rl rdd rg u0_28 u1_29 tp r2 r3 r4 r5 r6 u7_30 r8]] _ _ := G
      refine lv_iconst (v := 0) hx hb dX7_readNumber_19 (by decide) ?_
      have G := G.sub (bs' := [[zO7 rd rl rdd rg u0_28 u1_29 tp r2 r3 r4 r5 r6 u7_30 r8], [zAr T 1 tp 600 ft]]) [1, 0] rfl
      exact z_back hQ9 (z_iret C hr hlocks G (Nat.le_of_ble_eq_true rfl) (Nat.le_of_ble_eq_true rfl) dX7_readNumber_20 ⟨u0_28, u1_29, r3, r4, r5, r6, u7_30, rfl, (by decide), (by rw [pNum_e (Or.inr (fun q9 => by have := (pTk_1 hok hA1.2.2.2).mp q9; omega))]; exact zRc_brk hA h_31 h_32 h_33), (by rw [pNum_e (Or.inr (fun q9 => by have := (pTk_1 hok hA1.2.2.2).mp q9; omega))]; intro q9; exact absurd q9 (pEnds_f hAI))⟩)
set_option maxHeartbeats 4000000 in
set_option maxRecDepth 100000 in
/-- c_f_readDeed -/
theorem c_f_readDeed (l : Launch) (T : zTy) (rd : Nat) (rl : Nat) (rdd : Nat) (rg : Nat) (tp : Nat) (r0 : Int32) (r1 : Int32) (r2 : Int32) (r3 : Int32) (r4 : Int32) (r5 : Int32) (r6 : Int32) (r7 : Int32) (r8 : Int32) (ft : Nat → Int32) (dd : Int32) (d1 : Nat → Int32) (d2 : Nat → Int32) (d3 : Nat → Int32) (wd : va_W) (k : pT) (n : Nat) (a : pS) (f : Nat → Int32) (d : Nat) (x : Int32) (hA : zRc k n ft r0 r1 r2 r3 r4 r5 r6 r7 a) (hw : a.2.1.toInt = 0) (hcl : pCl k a.1 = 1) (hd : bDay T rdd dd d1 d2 d3 wd) (hC : zDc dd d1 d2 d3 a f) (hd5 : 5 ≤ d ∧ d ≤ 10) (hxd : x = nI d - 5) (hxi : x.toInt = (d : Int) - 5) : zMv l T yX7_readDeed cX7_readDeed 4 5 0 0 [.ref rd, .int x] [[zO7 rd rl rdd rg r0 r1 tp r2 r3 r4 r5 r6 r7 r8], [zAr T 1 tp 600 ft], wd] (fun bs => ∃ (u0 : Int32) (u1 : Int32) (u3 : Int32) (u4 : Int32) (u5 : Int32) (u6 : Int32) (u7 : Int32) (wd2 : va_W) (dd2 : Int32) (b1 : Nat → Int32) (b2 : Nat → Int32) (b3 : Nat → Int32), bs = [[zO7 rd rl rdd rg u0 u1 tp r2 u3 u4 u5 u6 u7 r8], [zAr T 1 tp 600 ft], wd2] ∧ bDay T rdd dd2 b1 b2 b3 wd2 ∧ zRc k n ft u0 u1 r2 u3 u4 u5 u6 u7 (pDeed k d (nI (pWh k a.1)) (pAdv k a) f).1 ∧ zDc dd2 b1 b2 b3 (pDeed k d (nI (pWh k a.1)) (pAdv k a) f).1 (pDeed k d (nI (pWh k a.1)) (pAdv k a) f).2) := by
  refine zMv_of (own := RX7) (by decide) rfl (Nat.le_of_ble_eq_true rfl) ?_
  intro p e s m args below meth c A ls C hr hlocks hnm hAe G hl
  refine zHide (fun Q9 hQ9 => ?_)
  have hx := C.1
  have hb := C.2.1
  have hl : lv_has ls 4 [(0, .ref rd), (1, .int x)] := hl
  have hok := zRc_ok hA
  obtain ⟨hA1, hA6, hA7, hA8, hA9, hAI, hAE⟩ := id hA
  have hka := hok a.1 hA1.2.2.2
  obtain ⟨t3, t4, t5, t6⟩ := hA7 hw
  have t4i : r4.toInt = (pCl k a.1 : Int) := by rw [t4]; exact nI_toInt (by omega)
  have hcn : ¬ pCl k a.1 = 0 := by omega
  have hdd := fun q => (hC q).1
  refine lv_aload_n hx hb dX7_readDeed_0 rfl (lv_at hl 0 rfl) ?_
  refine z_get C G clX7 0 rfl 1 (by decide) m_fl_RX7_21 rfl dX7_readDeed_1 ?_
  refine zEx3 hd ?_
  intro a1_1 a2_2 a3_3 hbs9
  clear hd
  subst hbs9
  have G : zS T A s.heap s [[zO7 rd rl rdd rg r0 r1 tp r2 r3 r4 r5 r6 r7 r8], [zAr T 1 tp 600 ft], [(rdd, .inr (2, [.int dd, .ref a1_1, .ref a2_2, .ref a3_3]))], [zAr T 0 a1_1 40 d1], [zAr T 0 a2_2 40 d2], [zAr T 0 a3_3 40 d3]] _ _ := G.re rfl
  refine z_get C G clX2 2 rfl 0 (by decide) m_fl_RX7_65 rfl dX7_readDeed_4 ?_
  refine lv_bipush (v := 40) hx hb dX7_readDeed_7 (by decide) ?_
  refine lv_icmp_lt (tgt := 21) hx hb dX7_readDeed_9 (by decide) (fun c_4 => ?_) (fun c_4 => ?_)
  · have c_4n : dd.toInt < (40 : Int) := (fa_lt _ _).mp c_4
    refine lv_aload_n hx hb dX7_readDeed_21 rfl (lv_at hl 0 rfl) ?_
    refine z_Vv (bc := [[zO7 rd rl rdd rg r0 r1 tp r2 r3 r4 r5 r6 r7 r8], [zAr T 1 tp 600 ft]]) (br := [[(rdd, .inr (2, [.int dd, .ref a1_1, .ref a2_2, .ref a3_3]))], [zAr T 0 a1_1 40 d1], [zAr T 0 a2_2 40 d2], [zAr T 0 a3_3 40 d3]]) (As := []) (rest := []) C G (c_f_nextToken l T rd rl rdd rg tp r0 r1 r2 r3 r4 r5 r6 r7 r8 ft (pEn k a.1) n k t3 hka.1.2.2 hA1.1 hA1.2.2.1 hA1.2.1) (kV_RX7_71 C.2.2.2.2 (Nat.le_of_ble_eq_true rfl) (Nat.le_of_ble_eq_true rfl)) [0, 1] [0, 0] rfl rfl (ci := 7) (qc := (RX7, TX7, 13)) rfl rfl (List.mem_flatten.mpr ⟨_, List.mem_of_getElem? (i := 0) rfl, List.mem_cons_self⟩) rfl rfl hl.1 dX7_readDeed_22 (Nat.le_of_ble_eq_true rfl) (Nat.le_of_ble_eq_true rfl) (fun b1 H locs hw G => ?_)
    refine zEx4 hw ?_
    intro u3_5 u4_6 u5_7 u6_8
    refine zCu2 ?_
    intro hbs9 h_9
    clear hw
    subst hbs9
    have G : zS T A s.heap s [[(rdd, .inr (2, [.int dd, .ref a1_1, .ref a2_2, .ref a3_3]))], [zAr T 0 a1_1 40 d1], [zAr T 0 a2_2 40 d2], [zAr T 0 a3_3 40 d3], [zO7 rd rl rdd rg r0 r1 tp r2 u3_5 u4_6 u5_7 u6_8 r7 r8], [zAr T 1 tp 600 ft]] _ _ := G
    have hB := zRc_d0 (m := 40) hA hw hdd (by omega) h_9
    obtain ⟨b, hbq⟩ : ∃ b, b = pDB 40 (nI (pWh k a.1)) f (pAdv k a) := ⟨_, rfl⟩
    rw [← hbq] at hB
    refine lv_aload_n hx hb dX7_readDeed_25 rfl (lv_at hl 0 rfl) ?_
    refine lv_bipush (v := 6) hx hb dX7_readDeed_26 (by decide) ?_
    refine z_Vi (bc := [[zO7 rd rl rdd rg r0 r1 tp r2 u3_5 u4_6 u5_7 u6_8 r7 r8], [zAr T 1 tp 600 ft]]) (br := [[(rdd, .inr (2, [.int dd, .ref a1_1, .ref a2_2, .ref a3_3]))], [zAr T 0 a1_1 40 d1], [zAr T 0 a2_2 40 d2], [zAr T 0 a3_3 40 d3]]) (As := [.int 6]) (rest := []) C G (c_f_readNumber l T rd rl rdd rg tp r0 r1 r2 u3_5 u4_6 u5_7 u6_8 r7 r8 ft k n b 6 hB) (kV_RX7_120 C.2.2.2.2 (Nat.le_of_ble_eq_true rfl) (Nat.le_of_ble_eq_true rfl)) [4, 5] [4, 0] rfl rfl (ci := 7) (qc := (RX7, TX7, 13)) rfl rfl (List.mem_flatten.mpr ⟨_, List.mem_of_getElem? (i := 0) rfl, List.mem_cons_self⟩) rfl rfl hl.1 dX7_readDeed_28 (Nat.le_of_ble_eq_true rfl) (Nat.le_of_ble_eq_true rfl) (fun r_21 b1 H locs hw G => ?_)
    refine zEx7 hw ?_
    intro u0_11 u1_12 u3_13 u4_14 u5_15 u6_16 u7_17
    refine zCu4 ?_
    intro hbs9 h_18 h_19 h_20
    clear hw
    subst hbs9
    have G : zS T A s.heap s [[(rdd, .inr (2, [.int dd, .ref a1_1, .ref a2_2, .ref a3_3]))], [zAr T 0 a1_1 40 d1], [zAr T 0 a2_2 40 d2], [zAr T 0 a3_3 40 d3], [zO7 rd rl rdd rg u0_11 u1_12 tp r2 u3_13 u4_14 u5_15 u6_16 u7_17 r8], [zAr T 1 tp 600 ft]] _ _ := G
    refine lv_istore_n (lv' := [(2, .int r_21), (0, .ref rd), (1, .int x)]) hx hb dX7_readDeed_31 rfl hl (by decide) rfl (fun ls hl => ?_)
    refine lv_iload_n hx hb dX7_readDeed_32 rfl (lv_at hl 2 rfl) ?_
    refine lv_iconst (v := 4) hx hb dX7_readDeed_33 (by decide) ?_
    refine lv_icmp_eq (tgt := 42) hx hb dX7_readDeed_34 (by decide) (fun c_22 => ?_) (fun c_22 => ?_)
    · have c_22n : x.toInt = (4 : Int) := (fa_eq _ _).mp c_22
      refine lv_aload_n hx hb dX7_readDeed_42 rfl (lv_at hl 1 rfl) ?_
      refine lv_iconst (v := 3) hx hb dX7_readDeed_43 (by decide) ?_
      refine z_Vi (bc := [[zO7 rd rl rdd rg u0_11 u1_12 tp r2 u3_13 u4_14 u5_15 u6_16 u7_17 r8], [zAr T 1 tp 600 ft]]) (br := [[(rdd, .inr (2, [.int dd, .ref a1_1, .ref a2_2, .ref a3_3]))], [zAr T 0 a1_1 40 d1], [zAr T 0 a2_2 40 d2], [zAr T 0 a3_3 40 d3]]) (As := [.int 3]) (rest := []) C G (c_f_readNumber l T rd rl rdd rg tp u0_11 u1_12 r2 u3_13 u4_14 u5_15 u6_16 u7_17 r8 ft k n ((pNum k 0 6 b).2) 3 h_19) (kV_RX7_120 C.2.2.2.2 (Nat.le_of_ble_eq_true rfl) (Nat.le_of_ble_eq_true rfl)) [4, 5] [4, 0] rfl rfl (ci := 7) (qc := (RX7, TX7, 13)) rfl rfl (List.mem_flatten.mpr ⟨_, List.mem_of_getElem? (i := 0) rfl, List.mem_cons_self⟩) rfl rfl hl.1 dX7_readDeed_44 (Nat.le_of_ble_eq_true rfl) (Nat.le_of_ble_eq_true rfl) (fun r_33 b1 H locs hw G => ?_)
      refine zEx7 hw ?_
      intro u0_23 u1_24 u3_25 u4_26 u5_27 u6_28 u7_29
      refine zCu4 ?_
      intro hbs9 h_30 h_31 h_32
      clear hw
      subst hbs9
      have G : zS T A s.heap s [[(rdd, .inr (2, [.int dd, .ref a1_1, .ref a2_2, .ref a3_3]))], [zAr T 0 a1_1 40 d1], [zAr T 0 a2_2 40 d2], [zAr T 0 a3_3 40 d3], [zO7 rd rl rdd rg u0_23 u1_24 tp r2 u3_25 u4_26 u5_27 u6_28 u7_29 r8], [zAr T 1 tp 600 ft]] _ _ := G
      refine lv_goto (tgt := 51) hx hb dX7_readDeed_47 (by decide) ?_
      refine lv_istore_n (lv' := [(3, .int r_33), (2, .int r_21), (0, .ref rd), (1, .int x)]) hx hb dX7_readDeed_51 rfl hl (by decide) rfl (fun ls hl => ?_)
      refine lv_aload_n hx hb dX7_readDeed_52 rfl (lv_at hl 2 rfl) ?_
      refine z_get C G clX7 4 rfl 1 (by decide) m_fl_RX7_21 rfl dX7_readDeed_53 ?_
      refine lv_iload_n hx hb dX7_readDeed_56 rfl (lv_at hl 3 rfl) ?_
      refine lv_iload_n hx hb dX7_readDeed_57 rfl (lv_at hl 1 rfl) ?_
      refine lv_iload_n hx hb dX7_readDeed_58 rfl (lv_at hl 0 rfl) ?_
      have hw_34 : bDay T rdd dd d1 d2 d3 [(rdd, .inr (2, [.int dd, .ref a1_1, .ref a2_2, .ref a3_3])), zAr T 0 a1_1 40 d1, zAr T 0 a2_2 40 d2, zAr T 0 a3_3 40 d3] := ⟨a1_1, a2_2, a3_3, rfl⟩
      have G : zS T A s.heap s [[(rdd, .inr (2, [.int dd, .ref a1_1, .ref a2_2, .ref a3_3])), zAr T 0 a1_1 40 d1, zAr T 0 a2_2 40 d2, zAr T 0 a3_3 40 d3], [zO7 rd rl rdd rg u0_23 u1_24 tp r2 u3_25 u4_26 u5_27 u6_28 u7_29 r8], [zAr T 1 tp 600 ft]] _ _ := G.re rfl
      refine z_Vv (bc := [[(rdd, .inr (2, [.int dd, .ref a1_1, .ref a2_2, .ref a3_3])), zAr T 0 a1_1 40 d1, zAr T 0 a2_2 40 d2, zAr T 0 a3_3 40 d3]]) (br := [[zO7 rd rl rdd rg u0_23 u1_24 tp r2 u3_25 u4_26 u5_27 u6_28 u7_29 r8], [zAr T 1 tp 600 ft]]) (As := [.int x, .int r_21, .int r_33]) (rest := []) C G (c_Day_add l T rdd dd d1 d2 d3 ([(rdd, .inr (2, [.int dd, .ref a1_1, .ref a2_2, .ref a3_3])), zAr T 0 a1_1 40 d1, zAr T 0 a2_2 40 d2, zAr T 0 a3_3 40 d3]) x r_21 r_33 hw_34) (kV_RX7_135 C.2.2.2.2 (Nat.le_of_ble_eq_true rfl) (Nat.le_of_ble_eq_true rfl)) [0] [0] rfl rfl (ci := 2) (qc := (RX2, TX2, 4)) rfl rfl (List.mem_flatten.mpr ⟨_, List.mem_of_getElem? (i := 0) rfl, (bDay_mem hw_34).choose_spec⟩) rfl rfl hl.1 dX7_readDeed_59 (Nat.le_of_ble_eq_true rfl) (Nat.le_of_ble_eq_true rfl) (fun b1 H locs hw G => ?_)
      refine zEx5 hw ?_
      intro w2_35 u_36 g1_37 g2_38 g3_39
      refine zCu6 ?_
      intro hbs9 h_40 h_41 h_42 h_43 h_44
      clear hw
      subst hbs9
      have G : zS T A s.heap s [[zO7 rd rl rdd rg u0_23 u1_24 tp r2 u3_25 u4_26 u5_27 u6_28 u7_29 r8], [zAr T 1 tp 600 ft], w2_35] _ _ := G
      exact z_back hQ9 (z_vret C hr hlocks G (Nat.le_of_ble_eq_true rfl) (Nat.le_of_ble_eq_true rfl) dX7_readDeed_62 ⟨u0_23, u1_24, u3_25, u4_26, u5_27, u6_28, u7_29, w2_35, u_36, g1_37, g2_38, g3_39, rfl, h_40, (by rw [pDeed_1 hbq, pDY_hi (by omega)]; exact h_31), (by subst hbq; rw [h_41, h_42, h_43, h_44]; exact zDc_step (a := pAdv k a) hC hw hd5 hxd hB.2.2.2.2.2.1 h_19.2.2.2.2.2.1 h_20 (by rw [pDY_hi (by omega)]; exact h_32))⟩)
    · have c_22n : ¬ x.toInt = (4 : Int) := fun q => c_22 ((fa_eq _ _).mpr q)
      refine lv_iload_n hx hb dX7_readDeed_37 rfl (lv_at hl 2 rfl) ?_
      refine lv_iconst (v := 5) hx hb dX7_readDeed_38 (by decide) ?_
      refine lv_icmp_ne (tgt := 50) hx hb dX7_readDeed_39 (by decide) (fun c_46 => ?_) (fun c_46 => ?_)
      · have c_46n : ¬ x.toInt = (5 : Int) := fun q => c_46 ((fa_eq _ _).mpr q)
        refine lv_iconst (v := (-1)) hx hb dX7_readDeed_50 (by decide) ?_
        refine lv_istore_n (lv' := [(3, .int (-1)), (2, .int r_21), (0, .ref rd), (1, .int x)]) hx hb dX7_readDeed_51 rfl hl (by decide) rfl (fun ls hl => ?_)
        refine lv_aload_n hx hb dX7_readDeed_52 rfl (lv_at hl 2 rfl) ?_
        refine z_get C G clX7 4 rfl 1 (by decide) m_fl_RX7_21 rfl dX7_readDeed_53 ?_
        refine lv_iload_n hx hb dX7_readDeed_56 rfl (lv_at hl 3 rfl) ?_
        refine lv_iload_n hx hb dX7_readDeed_57 rfl (lv_at hl 1 rfl) ?_
        refine lv_iload_n hx hb dX7_readDeed_58 rfl (lv_at hl 0 rfl) ?_
        have hw_47 : bDay T rdd dd d1 d2 d3 [(rdd, .inr (2, [.int dd, .ref a1_1, .ref a2_2, .ref a3_3])), zAr T 0 a1_1 40 d1, zAr T 0 a2_2 40 d2, zAr T 0 a3_3 40 d3] := ⟨a1_1, a2_2, a3_3, rfl⟩
        have G : zS T A s.heap s [[(rdd, .inr (2, [.int dd, .ref a1_1, .ref a2_2, .ref a3_3])), zAr T 0 a1_1 40 d1, zAr T 0 a2_2 40 d2, zAr T 0 a3_3 40 d3], [zO7 rd rl rdd rg u0_11 u1_12 tp r2 u3_13 u4_14 u5_15 u6_16 u7_17 r8], [zAr T 1 tp 600 ft]] _ _ := G.re rfl
        refine z_Vv (bc := [[(rdd, .inr (2, [.int dd, .ref a1_1, .ref a2_2, .ref a3_3])), zAr T 0 a1_1 40 d1, zAr T 0 a2_2 40 d2, zAr T 0 a3_3 40 d3]]) (br := [[zO7 rd rl rdd rg u0_11 u1_12 tp r2 u3_13 u4_14 u5_15 u6_16 u7_17 r8], [zAr T 1 tp 600 ft]]) (As := [.int x, .int r_21, .int (-1)]) (rest := []) C G (c_Day_add l T rdd dd d1 d2 d3 ([(rdd, .inr (2, [.int dd, .ref a1_1, .ref a2_2, .ref a3_3])), zAr T 0 a1_1 40 d1, zAr T 0 a2_2 40 d2, zAr T 0 a3_3 40 d3]) x r_21 (-1) hw_47) (kV_RX7_135 C.2.2.2.2 (Nat.le_of_ble_eq_true rfl) (Nat.le_of_ble_eq_true rfl)) [0] [0] rfl rfl (ci := 2) (qc := (RX2, TX2, 4)) rfl rfl (List.mem_flatten.mpr ⟨_, List.mem_of_getElem? (i := 0) rfl, (bDay_mem hw_47).choose_spec⟩) rfl rfl hl.1 dX7_readDeed_59 (Nat.le_of_ble_eq_true rfl) (Nat.le_of_ble_eq_true rfl) (fun b1 H locs hw G => ?_)
        refine zEx5 hw ?_
        intro w2_48 u_49 g1_50 g2_51 g3_52
        refine zCu6 ?_
        intro hbs9 h_53 h_54 h_55 h_56 h_57
        clear hw
        subst hbs9
        have G : zS T A s.heap s [[zO7 rd rl rdd rg u0_11 u1_12 tp r2 u3_13 u4_14 u5_15 u6_16 u7_17 r8], [zAr T 1 tp 600 ft], w2_48] _ _ := G
        exact z_back hQ9 (z_vret C hr hlocks G (Nat.le_of_ble_eq_true rfl) (Nat.le_of_ble_eq_true rfl) dX7_readDeed_62 ⟨u0_11, u1_12, u3_13, u4_14, u5_15, u6_16, u7_17, w2_48, u_49, g1_50, g2_51, g3_52, rfl, h_53, (by rw [pDeed_1 hbq, pDY_lo (by omega)]; exact h_19), (by subst hbq; rw [h_54, h_55, h_56, h_57]; exact zDc_step (a := pAdv k a) hC hw hd5 hxd hB.2.2.2.2.2.1 h_19.2.2.2.2.2.1 h_20 (by rw [pDY_lo (by omega)]; exact fun _ => rfl))⟩)
      · have c_46n : x.toInt = (5 : Int) := (fa_eq _ _).mp c_46
        refine lv_aload_n hx hb dX7_readDeed_42 rfl (lv_at hl 1 rfl) ?_
        refine lv_iconst (v := 3) hx hb dX7_readDeed_43 (by decide) ?_
        refine z_Vi (bc := [[zO7 rd rl rdd rg u0_11 u1_12 tp r2 u3_13 u4_14 u5_15 u6_16 u7_17 r8], [zAr T 1 tp 600 ft]]) (br := [[(rdd, .inr (2, [.int dd, .ref a1_1, .ref a2_2, .ref a3_3]))], [zAr T 0 a1_1 40 d1], [zAr T 0 a2_2 40 d2], [zAr T 0 a3_3 40 d3]]) (As := [.int 3]) (rest := []) C G (c_f_readNumber l T rd rl rdd rg tp u0_11 u1_12 r2 u3_13 u4_14 u5_15 u6_16 u7_17 r8 ft k n ((pNum k 0 6 b).2) 3 h_19) (kV_RX7_120 C.2.2.2.2 (Nat.le_of_ble_eq_true rfl) (Nat.le_of_ble_eq_true rfl)) [4, 5] [4, 0] rfl rfl (ci := 7) (qc := (RX7, TX7, 13)) rfl rfl (List.mem_flatten.mpr ⟨_, List.mem_of_getElem? (i := 0) rfl, List.mem_cons_self⟩) rfl rfl hl.1 dX7_readDeed_44 (Nat.le_of_ble_eq_true rfl) (Nat.le_of_ble_eq_true rfl) (fun r_69 b1 H locs hw G => ?_)
        refine zEx7 hw ?_
        intro u0_59 u1_60 u3_61 u4_62 u5_63 u6_64 u7_65
        refine zCu4 ?_
        intro hbs9 h_66 h_67 h_68
        clear hw
        subst hbs9
        have G : zS T A s.heap s [[(rdd, .inr (2, [.int dd, .ref a1_1, .ref a2_2, .ref a3_3]))], [zAr T 0 a1_1 40 d1], [zAr T 0 a2_2 40 d2], [zAr T 0 a3_3 40 d3], [zO7 rd rl rdd rg u0_59 u1_60 tp r2 u3_61 u4_62 u5_63 u6_64 u7_65 r8], [zAr T 1 tp 600 ft]] _ _ := G
        refine lv_goto (tgt := 51) hx hb dX7_readDeed_47 (by decide) ?_
        refine lv_istore_n (lv' := [(3, .int r_69), (2, .int r_21), (0, .ref rd), (1, .int x)]) hx hb dX7_readDeed_51 rfl hl (by decide) rfl (fun ls hl => ?_)
        refine lv_aload_n hx hb dX7_readDeed_52 rfl (lv_at hl 2 rfl) ?_
        refine z_get C G clX7 4 rfl 1 (by decide) m_fl_RX7_21 rfl dX7_readDeed_53 ?_
        refine lv_iload_n hx hb dX7_readDeed_56 rfl (lv_at hl 3 rfl) ?_
        refine lv_iload_n hx hb dX7_readDeed_57 rfl (lv_at hl 1 rfl) ?_
        refine lv_iload_n hx hb dX7_readDeed_58 rfl (lv_at hl 0 rfl) ?_
        have hw_70 : bDay T rdd dd d1 d2 d3 [(rdd, .inr (2, [.int dd, .ref a1_1, .ref a2_2, .ref a3_3])), zAr T 0 a1_1 40 d1, zAr T 0 a2_2 40 d2, zAr T 0 a3_3 40 d3] := ⟨a1_1, a2_2, a3_3, rfl⟩
        have G : zS T A s.heap s [[(rdd, .inr (2, [.int dd, .ref a1_1, .ref a2_2, .ref a3_3])), zAr T 0 a1_1 40 d1, zAr T 0 a2_2 40 d2, zAr T 0 a3_3 40 d3], [zO7 rd rl rdd rg u0_59 u1_60 tp r2 u3_61 u4_62 u5_63 u6_64 u7_65 r8], [zAr T 1 tp 600 ft]] _ _ := G.re rfl
        refine z_Vv (bc := [[(rdd, .inr (2, [.int dd, .ref a1_1, .ref a2_2, .ref a3_3])), zAr T 0 a1_1 40 d1, zAr T 0 a2_2 40 d2, zAr T 0 a3_3 40 d3]]) (br := [[zO7 rd rl rdd rg u0_59 u1_60 tp r2 u3_61 u4_62 u5_63 u6_64 u7_65 r8], [zAr T 1 tp 600 ft]]) (As := [.int x, .int r_21, .int r_69]) (rest := []) C G (c_Day_add l T rdd dd d1 d2 d3 ([(rdd, .inr (2, [.int dd, .ref a1_1, .ref a2_2, .ref a3_3])), zAr T 0 a1_1 40 d1, zAr T 0 a2_2 40 d2, zAr T 0 a3_3 40 d3]) x r_21 r_69 hw_70) (kV_RX7_135 C.2.2.2.2 (Nat.le_of_ble_eq_true rfl) (Nat.le_of_ble_eq_true rfl)) [0] [0] rfl rfl (ci := 2) (qc := (RX2, TX2, 4)) rfl rfl (List.mem_flatten.mpr ⟨_, List.mem_of_getElem? (i := 0) rfl, (bDay_mem hw_70).choose_spec⟩) rfl rfl hl.1 dX7_readDeed_59 (Nat.le_of_ble_eq_true rfl) (Nat.le_of_ble_eq_true rfl) (fun b1 H locs hw G => ?_)
        refine zEx5 hw ?_
        intro w2_71 u_72 g1_73 g2_74 g3_75
        refine zCu6 ?_
        intro hbs9 h_76 h_77 h_78 h_79 h_80
        clear hw
        subst hbs9
        have G : zS T A s.heap s [[zO7 rd rl rdd rg u0_59 u1_60 tp r2 u3_61 u4_62 u5_63 u6_64 u7_65 r8], [zAr T 1 tp 600 ft], w2_71] _ _ := G
        exact z_back hQ9 (z_vret C hr hlocks G (Nat.le_of_ble_eq_true rfl) (Nat.le_of_ble_eq_true rfl) dX7_readDeed_62 ⟨u0_59, u1_60, u3_61, u4_62, u5_63, u6_64, u7_65, w2_71, u_72, g1_73, g2_74, g3_75, rfl, h_76, (by rw [pDeed_1 hbq, pDY_hi (by omega)]; exact h_67), (by subst hbq; rw [h_77, h_78, h_79, h_80]; exact zDc_step (a := pAdv k a) hC hw hd5 hxd hB.2.2.2.2.2.1 h_19.2.2.2.2.2.1 h_20 (by rw [pDY_hi (by omega)]; exact h_68))⟩)
  · have c_4n : ¬ dd.toInt < (40 : Int) := fun q => c_4 ((fa_lt _ _).mpr q)
    refine lv_aload_n hx hb dX7_readDeed_12 rfl (lv_at hl 0 rfl) ?_
    refine lv_iconst (v := 3) hx hb dX7_readDeed_13 (by decide) ?_
    refine lv_aload_n hx hb dX7_readDeed_14 rfl (lv_at hl 0 rfl) ?_
    refine z_get C G clX7 0 rfl 9 (by decide) m_fl_RX7_84 rfl dX7_readDeed_15 ?_
    refine z_Vv (bc := [[zO7 rd rl rdd rg r0 r1 tp r2 r3 r4 r5 r6 r7 r8]]) (br := [[zAr T 1 tp 600 ft], [(rdd, .inr (2, [.int dd, .ref a1_1, .ref a2_2, .ref a3_3]))], [zAr T 0 a1_1 40 d1], [zAr T 0 a2_2 40 d2], [zAr T 0 a3_3 40 d3]]) (As := [.int 3, .int r5]) (rest := []) C G (c_f_note l T rd rl rdd rg tp r0 r1 r2 r3 r4 r5 r6 r7 r8 3 r5) (kV_RX7_90 C.2.2.2.2 (Nat.le_of_ble_eq_true rfl) (Nat.le_of_ble_eq_true rfl)) [0] [0] rfl rfl (ci := 7) (qc := (RX7, TX7, 13)) rfl rfl (List.mem_flatten.mpr ⟨_, List.mem_of_getElem? (i := 0) rfl, List.mem_cons_self⟩) rfl rfl hl.1 dX7_readDeed_18 (Nat.le_of_ble_eq_true rfl) (Nat.le_of_ble_eq_true rfl) (fun b1 H locs hw G => ?_)
    refine zEx2 hw ?_
    intro u0_82 u1_83
    refine zCu3 ?_
    intro hbs9 h_84 h_85
    clear hw
    subst hbs9
    have G : zS T A s.heap s [[zAr T 1 tp 600 ft], [(rdd, .inr (2, [.int dd, .ref a1_1, .ref a2_2, .ref a3_3]))], [zAr T 0 a1_1 40 d1], [zAr T 0 a2_2 40 d2], [zAr T 0 a3_3 40 d3], [zO7 rd rl rdd rg u0_82 u1_83 tp r2 r3 r4 r5 r6 r7 r8]] _ _ := G
    refine lv_aload_n hx hb dX7_readDeed_21 rfl (lv_at hl 0 rfl) ?_
    refine z_Vv (bc := [[zO7 rd rl rdd rg u0_82 u1_83 tp r2 r3 r4 r5 r6 r7 r8], [zAr T 1 tp 600 ft]]) (br := [[(rdd, .inr (2, [.int dd, .ref a1_1, .ref a2_2, .ref a3_3]))], [zAr T 0 a1_1 40 d1], [zAr T 0 a2_2 40 d2], [zAr T 0 a3_3 40 d3]]) (As := []) (rest := []) C G (c_f_nextToken l T rd rl rdd rg tp u0_82 u1_83 r2 r3 r4 r5 r6 r7 r8 ft (pEn k a.1) n k t3 hka.1.2.2 hA1.1 hA1.2.2.1 hA1.2.1) (kV_RX7_71 C.2.2.2.2 (Nat.le_of_ble_eq_true rfl) (Nat.le_of_ble_eq_true rfl)) [5, 0] [0, 4] rfl rfl (ci := 7) (qc := (RX7, TX7, 13)) rfl rfl (List.mem_flatten.mpr ⟨_, List.mem_of_getElem? (i := 0) rfl, List.mem_cons_self⟩) rfl rfl hl.1 dX7_readDeed_22 (Nat.le_of_ble_eq_true rfl) (Nat.le_of_ble_eq_true rfl) (fun b1 H locs hw G => ?_)
    refine zEx4 hw ?_
    intro u3_87 u4_88 u5_89 u6_90
    refine zCu2 ?_
    intro hbs9 h_91
    clear hw
    subst hbs9
    have G : zS T A s.heap s [[(rdd, .inr (2, [.int dd, .ref a1_1, .ref a2_2, .ref a3_3]))], [zAr T 0 a1_1 40 d1], [zAr T 0 a2_2 40 d2], [zAr T 0 a3_3 40 d3], [zO7 rd rl rdd rg u0_82 u1_83 tp r2 u3_87 u4_88 u5_89 u6_90 r7 r8], [zAr T 1 tp 600 ft]] _ _ := G
    have hB := zRc_d1 (m := 40) hA hw hcn hdd (by omega) h_84 h_85 h_91
    obtain ⟨b, hbq⟩ : ∃ b, b = pDB 40 (nI (pWh k a.1)) f (pAdv k a) := ⟨_, rfl⟩
    rw [← hbq] at hB
    refine lv_aload_n hx hb dX7_readDeed_25 rfl (lv_at hl 0 rfl) ?_
    refine lv_bipush (v := 6) hx hb dX7_readDeed_26 (by decide) ?_
    refine z_Vi (bc := [[zO7 rd rl rdd rg u0_82 u1_83 tp r2 u3_87 u4_88 u5_89 u6_90 r7 r8], [zAr T 1 tp 600 ft]]) (br := [[(rdd, .inr (2, [.int dd, .ref a1_1, .ref a2_2, .ref a3_3]))], [zAr T 0 a1_1 40 d1], [zAr T 0 a2_2 40 d2], [zAr T 0 a3_3 40 d3]]) (As := [.int 6]) (rest := []) C G (c_f_readNumber l T rd rl rdd rg tp u0_82 u1_83 r2 u3_87 u4_88 u5_89 u6_90 r7 r8 ft k n b 6 hB) (kV_RX7_120 C.2.2.2.2 (Nat.le_of_ble_eq_true rfl) (Nat.le_of_ble_eq_true rfl)) [4, 5] [4, 0] rfl rfl (ci := 7) (qc := (RX7, TX7, 13)) rfl rfl (List.mem_flatten.mpr ⟨_, List.mem_of_getElem? (i := 0) rfl, List.mem_cons_self⟩) rfl rfl hl.1 dX7_readDeed_28 (Nat.le_of_ble_eq_true rfl) (Nat.le_of_ble_eq_true rfl) (fun r_103 b1 H locs hw G => ?_)
    refine zEx7 hw ?_
    intro u0_93 u1_94 u3_95 u4_96 u5_97 u6_98 u7_99
    refine zCu4 ?_
    intro hbs9 h_100 h_101 h_102
    clear hw
    subst hbs9
    have G : zS T A s.heap s [[(rdd, .inr (2, [.int dd, .ref a1_1, .ref a2_2, .ref a3_3]))], [zAr T 0 a1_1 40 d1], [zAr T 0 a2_2 40 d2], [zAr T 0 a3_3 40 d3], [zO7 rd rl rdd rg u0_93 u1_94 tp r2 u3_95 u4_96 u5_97 u6_98 u7_99 r8], [zAr T 1 tp 600 ft]] _ _ := G
    refine lv_istore_n (lv' := [(2, .int r_103), (0, .ref rd), (1, .int x)]) hx hb dX7_readDeed_31 rfl hl (by decide) rfl (fun ls hl => ?_)
    refine lv_iload_n hx hb dX7_readDeed_32 rfl (lv_at hl 2 rfl) ?_
    refine lv_iconst (v := 4) hx hb dX7_readDeed_33 (by decide) ?_
    refine lv_icmp_eq (tgt := 42) hx hb dX7_readDeed_34 (by decide) (fun c_104 => ?_) (fun c_104 => ?_)
    · have c_104n : x.toInt = (4 : Int) := (fa_eq _ _).mp c_104
      refine lv_aload_n hx hb dX7_readDeed_42 rfl (lv_at hl 1 rfl) ?_
      refine lv_iconst (v := 3) hx hb dX7_readDeed_43 (by decide) ?_
      refine z_Vi (bc := [[zO7 rd rl rdd rg u0_93 u1_94 tp r2 u3_95 u4_96 u5_97 u6_98 u7_99 r8], [zAr T 1 tp 600 ft]]) (br := [[(rdd, .inr (2, [.int dd, .ref a1_1, .ref a2_2, .ref a3_3]))], [zAr T 0 a1_1 40 d1], [zAr T 0 a2_2 40 d2], [zAr T 0 a3_3 40 d3]]) (As := [.int 3]) (rest := []) C G (c_f_readNumber l T rd rl rdd rg tp u0_93 u1_94 r2 u3_95 u4_96 u5_97 u6_98 u7_99 r8 ft k n ((pNum k 0 6 b).2) 3 h_101) (kV_RX7_120 C.2.2.2.2 (Nat.le_of_ble_eq_true rfl) (Nat.le_of_ble_eq_true rfl)) [4, 5] [4, 0] rfl rfl (ci := 7) (qc := (RX7, TX7, 13)) rfl rfl (List.mem_flatten.mpr ⟨_, List.mem_of_getElem? (i := 0) rfl, List.mem_cons_self⟩) rfl rfl hl.1 dX7_readDeed_44 (Nat.le_of_ble_eq_true rfl) (Nat.le_of_ble_eq_true rfl) (fun r_115 b1 H locs hw G => ?_)
      refine zEx7 hw ?_
      intro u0_105 u1_106 u3_107 u4_108 u5_109 u6_110 u7_111
      refine zCu4 ?_
      intro hbs9 h_112 h_113 h_114
      clear hw
      subst hbs9
      have G : zS T A s.heap s [[(rdd, .inr (2, [.int dd, .ref a1_1, .ref a2_2, .ref a3_3]))], [zAr T 0 a1_1 40 d1], [zAr T 0 a2_2 40 d2], [zAr T 0 a3_3 40 d3], [zO7 rd rl rdd rg u0_105 u1_106 tp r2 u3_107 u4_108 u5_109 u6_110 u7_111 r8], [zAr T 1 tp 600 ft]] _ _ := G
      refine lv_goto (tgt := 51) hx hb dX7_readDeed_47 (by decide) ?_
      refine lv_istore_n (lv' := [(3, .int r_115), (2, .int r_103), (0, .ref rd), (1, .int x)]) hx hb dX7_readDeed_51 rfl hl (by decide) rfl (fun ls hl => ?_)
      refine lv_aload_n hx hb dX7_readDeed_52 rfl (lv_at hl 2 rfl) ?_
      refine z_get C G clX7 4 rfl 1 (by decide) m_fl_RX7_21 rfl dX7_readDeed_53 ?_
      refine lv_iload_n hx hb dX7_readDeed_56 rfl (lv_at hl 3 rfl) ?_
      refine lv_iload_n hx hb dX7_readDeed_57 rfl (lv_at hl 1 rfl) ?_
      refine lv_iload_n hx hb dX7_readDeed_58 rfl (lv_at hl 0 rfl) ?_
      have hw_116 : bDay T rdd dd d1 d2 d3 [(rdd, .inr (2, [.int dd, .ref a1_1, .ref a2_2, .ref a3_3])), zAr T 0 a1_1 40 d1, zAr T 0 a2_2 40 d2, zAr T 0 a3_3 40 d3] := ⟨a1_1, a2_2, a3_3, rfl⟩
      have G : zS T A s.heap s [[(rdd, .inr (2, [.int dd, .ref a1_1, .ref a2_2, .ref a3_3])), zAr T 0 a1_1 40 d1, zAr T 0 a2_2 40 d2, zAr T 0 a3_3 40 d3], [zO7 rd rl rdd rg u0_105 u1_106 tp r2 u3_107 u4_108 u5_109 u6_110 u7_111 r8], [zAr T 1 tp 600 ft]] _ _ := G.re rfl
      refine z_Vv (bc := [[(rdd, .inr (2, [.int dd, .ref a1_1, .ref a2_2, .ref a3_3])), zAr T 0 a1_1 40 d1, zAr T 0 a2_2 40 d2, zAr T 0 a3_3 40 d3]]) (br := [[zO7 rd rl rdd rg u0_105 u1_106 tp r2 u3_107 u4_108 u5_109 u6_110 u7_111 r8], [zAr T 1 tp 600 ft]]) (As := [.int x, .int r_103, .int r_115]) (rest := []) C G (c_Day_add l T rdd dd d1 d2 d3 ([(rdd, .inr (2, [.int dd, .ref a1_1, .ref a2_2, .ref a3_3])), zAr T 0 a1_1 40 d1, zAr T 0 a2_2 40 d2, zAr T 0 a3_3 40 d3]) x r_103 r_115 hw_116) (kV_RX7_135 C.2.2.2.2 (Nat.le_of_ble_eq_true rfl) (Nat.le_of_ble_eq_true rfl)) [0] [0] rfl rfl (ci := 2) (qc := (RX2, TX2, 4)) rfl rfl (List.mem_flatten.mpr ⟨_, List.mem_of_getElem? (i := 0) rfl, (bDay_mem hw_116).choose_spec⟩) rfl rfl hl.1 dX7_readDeed_59 (Nat.le_of_ble_eq_true rfl) (Nat.le_of_ble_eq_true rfl) (fun b1 H locs hw G => ?_)
      refine zEx5 hw ?_
      intro w2_117 u_118 g1_119 g2_120 g3_121
      refine zCu6 ?_
      intro hbs9 h_122 h_123 h_124 h_125 h_126
      clear hw
      subst hbs9
      have G : zS T A s.heap s [[zO7 rd rl rdd rg u0_105 u1_106 tp r2 u3_107 u4_108 u5_109 u6_110 u7_111 r8], [zAr T 1 tp 600 ft], w2_117] _ _ := G
      exact z_back hQ9 (z_vret C hr hlocks G (Nat.le_of_ble_eq_true rfl) (Nat.le_of_ble_eq_true rfl) dX7_readDeed_62 ⟨u0_105, u1_106, u3_107, u4_108, u5_109, u6_110, u7_111, w2_117, u_118, g1_119, g2_120, g3_121, rfl, h_122, (by rw [pDeed_1 hbq, pDY_hi (by omega)]; exact h_113), (by subst hbq; rw [h_123, h_124, h_125, h_126]; exact zDc_step (a := pAdv k a) hC hw hd5 hxd hB.2.2.2.2.2.1 h_101.2.2.2.2.2.1 h_102 (by rw [pDY_hi (by omega)]; exact h_114))⟩)
    · have c_104n : ¬ x.toInt = (4 : Int) := fun q => c_104 ((fa_eq _ _).mpr q)
      refine lv_iload_n hx hb dX7_readDeed_37 rfl (lv_at hl 2 rfl) ?_
      refine lv_iconst (v := 5) hx hb dX7_readDeed_38 (by decide) ?_
      refine lv_icmp_ne (tgt := 50) hx hb dX7_readDeed_39 (by decide) (fun c_128 => ?_) (fun c_128 => ?_)
      · have c_128n : ¬ x.toInt = (5 : Int) := fun q => c_128 ((fa_eq _ _).mpr q)
        refine lv_iconst (v := (-1)) hx hb dX7_readDeed_50 (by decide) ?_
        refine lv_istore_n (lv' := [(3, .int (-1)), (2, .int r_103), (0, .ref rd), (1, .int x)]) hx hb dX7_readDeed_51 rfl hl (by decide) rfl (fun ls hl => ?_)
        refine lv_aload_n hx hb dX7_readDeed_52 rfl (lv_at hl 2 rfl) ?_
        refine z_get C G clX7 4 rfl 1 (by decide) m_fl_RX7_21 rfl dX7_readDeed_53 ?_
        refine lv_iload_n hx hb dX7_readDeed_56 rfl (lv_at hl 3 rfl) ?_
        refine lv_iload_n hx hb dX7_readDeed_57 rfl (lv_at hl 1 rfl) ?_
        refine lv_iload_n hx hb dX7_readDeed_58 rfl (lv_at hl 0 rfl) ?_
        have hw_129 : bDay T rdd dd d1 d2 d3 [(rdd, .inr (2, [.int dd, .ref a1_1, .ref a2_2, .ref a3_3])), zAr T 0 a1_1 40 d1, zAr T 0 a2_2 40 d2, zAr T 0 a3_3 40 d3] := ⟨a1_1, a2_2, a3_3, rfl⟩
        have G : zS T A s.heap s [[(rdd, .inr (2, [.int dd, .ref a1_1, .ref a2_2, .ref a3_3])), zAr T 0 a1_1 40 d1, zAr T 0 a2_2 40 d2, zAr T 0 a3_3 40 d3], [zO7 rd rl rdd rg u0_93 u1_94 tp r2 u3_95 u4_96 u5_97 u6_98 u7_99 r8], [zAr T 1 tp 600 ft]] _ _ := G.re rfl
        refine z_Vv (bc := [[(rdd, .inr (2, [.int dd, .ref a1_1, .ref a2_2, .ref a3_3])), zAr T 0 a1_1 40 d1, zAr T 0 a2_2 40 d2, zAr T 0 a3_3 40 d3]]) (br := [[zO7 rd rl rdd rg u0_93 u1_94 tp r2 u3_95 u4_96 u5_97 u6_98 u7_99 r8], [zAr T 1 tp 600 ft]]) (As := [.int x, .int r_103, .int (-1)]) (rest := []) C G (c_Day_add l T rdd dd d1 d2 d3 ([(rdd, .inr (2, [.int dd, .ref a1_1, .ref a2_2, .ref a3_3])), zAr T 0 a1_1 40 d1, zAr T 0 a2_2 40 d2, zAr T 0 a3_3 40 d3]) x r_103 (-1) hw_129) (kV_RX7_135 C.2.2.2.2 (Nat.le_of_ble_eq_true rfl) (Nat.le_of_ble_eq_true rfl)) [0] [0] rfl rfl (ci := 2) (qc := (RX2, TX2, 4)) rfl rfl (List.mem_flatten.mpr ⟨_, List.mem_of_getElem? (i := 0) rfl, (bDay_mem hw_129).choose_spec⟩) rfl rfl hl.1 dX7_readDeed_59 (Nat.le_of_ble_eq_true rfl) (Nat.le_of_ble_eq_true rfl) (fun b1 H locs hw G => ?_)
        refine zEx5 hw ?_
        intro w2_130 u_131 g1_132 g2_133 g3_134
        refine zCu6 ?_
        intro hbs9 h_135 h_136 h_137 h_138 h_139
        clear hw
        subst hbs9
        have G : zS T A s.heap s [[zO7 rd rl rdd rg u0_93 u1_94 tp r2 u3_95 u4_96 u5_97 u6_98 u7_99 r8], [zAr T 1 tp 600 ft], w2_130] _ _ := G
        exact z_back hQ9 (z_vret C hr hlocks G (Nat.le_of_ble_eq_true rfl) (Nat.le_of_ble_eq_true rfl) dX7_readDeed_62 ⟨u0_93, u1_94, u3_95, u4_96, u5_97, u6_98, u7_99, w2_130, u_131, g1_132, g2_133, g3_134, rfl, h_135, (by rw [pDeed_1 hbq, pDY_lo (by omega)]; exact h_101), (by subst hbq; rw [h_136, h_137, h_138, h_139]; exact zDc_step (a := pAdv k a) hC hw hd5 hxd hB.2.2.2.2.2.1 h_101.2.2.2.2.2.1 h_102 (by rw [pDY_lo (by omega)]; exact fun _ => rfl))⟩)
      · have c_128n : x.toInt = (5 : Int) := (fa_eq _ _).mp c_128
        refine lv_aload_n hx hb dX7_readDeed_42 rfl (lv_at hl 1 rfl) ?_
        refine lv_iconst (v := 3) hx hb dX7_readDeed_43 (by decide) ?_
        refine z_Vi (bc := [[zO7 rd rl rdd rg u0_93 u1_94 tp r2 u3_95 u4_96 u5_97 u6_98 u7_99 r8], [zAr T 1 tp 600 ft]]) (br := [[(rdd, .inr (2, [.int dd, .ref a1_1, .ref a2_2, .ref a3_3]))], [zAr T 0 a1_1 40 d1], [zAr T 0 a2_2 40 d2], [zAr T 0 a3_3 40 d3]]) (As := [.int 3]) (rest := []) C G (c_f_readNumber l T rd rl rdd rg tp u0_93 u1_94 r2 u3_95 u4_96 u5_97 u6_98 u7_99 r8 ft k n ((pNum k 0 6 b).2) 3 h_101) (kV_RX7_120 C.2.2.2.2 (Nat.le_of_ble_eq_true rfl) (Nat.le_of_ble_eq_true rfl)) [4, 5] [4, 0] rfl rfl (ci := 7) (qc := (RX7, TX7, 13)) rfl rfl (List.mem_flatten.mpr ⟨_, List.mem_of_getElem? (i := 0) rfl, List.mem_cons_self⟩) rfl rfl hl.1 dX7_readDeed_44 (Nat.le_of_ble_eq_true rfl) (Nat.le_of_ble_eq_true rfl) (fun r_151 b1 H locs hw G => ?_)
        refine zEx7 hw ?_
        intro u0_141 u1_142 u3_143 u4_144 u5_145 u6_146 u7_147
        refine zCu4 ?_
        intro hbs9 h_148 h_149 h_150
        clear hw
        subst hbs9
        have G : zS T A s.heap s [[(rdd, .inr (2, [.int dd, .ref a1_1, .ref a2_2, .ref a3_3]))], [zAr T 0 a1_1 40 d1], [zAr T 0 a2_2 40 d2], [zAr T 0 a3_3 40 d3], [zO7 rd rl rdd rg u0_141 u1_142 tp r2 u3_143 u4_144 u5_145 u6_146 u7_147 r8], [zAr T 1 tp 600 ft]] _ _ := G
        refine lv_goto (tgt := 51) hx hb dX7_readDeed_47 (by decide) ?_
        refine lv_istore_n (lv' := [(3, .int r_151), (2, .int r_103), (0, .ref rd), (1, .int x)]) hx hb dX7_readDeed_51 rfl hl (by decide) rfl (fun ls hl => ?_)
        refine lv_aload_n hx hb dX7_readDeed_52 rfl (lv_at hl 2 rfl) ?_
        refine z_get C G clX7 4 rfl 1 (by decide) m_fl_RX7_21 rfl dX7_readDeed_53 ?_
        refine lv_iload_n hx hb dX7_readDeed_56 rfl (lv_at hl 3 rfl) ?_
        refine lv_iload_n hx hb dX7_readDeed_57 rfl (lv_at hl 1 rfl) ?_
        refine lv_iload_n hx hb dX7_readDeed_58 rfl (lv_at hl 0 rfl) ?_
        have hw_152 : bDay T rdd dd d1 d2 d3 [(rdd, .inr (2, [.int dd, .ref a1_1, .ref a2_2, .ref a3_3])), zAr T 0 a1_1 40 d1, zAr T 0 a2_2 40 d2, zAr T 0 a3_3 40 d3] := ⟨a1_1, a2_2, a3_3, rfl⟩
        have G : zS T A s.heap s [[(rdd, .inr (2, [.int dd, .ref a1_1, .ref a2_2, .ref a3_3])), zAr T 0 a1_1 40 d1, zAr T 0 a2_2 40 d2, zAr T 0 a3_3 40 d3], [zO7 rd rl rdd rg u0_141 u1_142 tp r2 u3_143 u4_144 u5_145 u6_146 u7_147 r8], [zAr T 1 tp 600 ft]] _ _ := G.re rfl
        refine z_Vv (bc := [[(rdd, .inr (2, [.int dd, .ref a1_1, .ref a2_2, .ref a3_3])), zAr T 0 a1_1 40 d1, zAr T 0 a2_2 40 d2, zAr T 0 a3_3 40 d3]]) (br := [[zO7 rd rl rdd rg u0_141 u1_142 tp r2 u3_143 u4_144 u5_145 u6_146 u7_147 r8], [zAr T 1 tp 600 ft]]) (As := [.int x, .int r_103, .int r_151]) (rest := []) C G (c_Day_add l T rdd dd d1 d2 d3 ([(rdd, .inr (2, [.int dd, .ref a1_1, .ref a2_2, .ref a3_3])), zAr T 0 a1_1 40 d1, zAr T 0 a2_2 40 d2, zAr T 0 a3_3 40 d3]) x r_103 r_151 hw_152) (kV_RX7_135 C.2.2.2.2 (Nat.le_of_ble_eq_true rfl) (Nat.le_of_ble_eq_true rfl)) [0] [0] rfl rfl (ci := 2) (qc := (RX2, TX2, 4)) rfl rfl (List.mem_flatten.mpr ⟨_, List.mem_of_getElem? (i := 0) rfl, (bDay_mem hw_152).choose_spec⟩) rfl rfl hl.1 dX7_readDeed_59 (Nat.le_of_ble_eq_true rfl) (Nat.le_of_ble_eq_true rfl) (fun b1 H locs hw G => ?_)
        refine zEx5 hw ?_
        intro w2_153 u_154 g1_155 g2_156 g3_157
        refine zCu6 ?_
        intro hbs9 h_158 h_159 h_160 h_161 h_162
        clear hw
        subst hbs9
        have G : zS T A s.heap s [[zO7 rd rl rdd rg u0_141 u1_142 tp r2 u3_143 u4_144 u5_145 u6_146 u7_147 r8], [zAr T 1 tp 600 ft], w2_153] _ _ := G
        exact z_back hQ9 (z_vret C hr hlocks G (Nat.le_of_ble_eq_true rfl) (Nat.le_of_ble_eq_true rfl) dX7_readDeed_62 ⟨u0_141, u1_142, u3_143, u4_144, u5_145, u6_146, u7_147, w2_153, u_154, g1_155, g2_156, g3_157, rfl, h_158, (by rw [pDeed_1 hbq, pDY_hi (by omega)]; exact h_149), (by subst hbq; rw [h_159, h_160, h_161, h_162]; exact zDc_step (a := pAdv k a) hC hw hd5 hxd hB.2.2.2.2.2.1 h_101.2.2.2.2.2.1 h_102 (by rw [pDY_hi (by omega)]; exact h_150))⟩)
set_option maxHeartbeats 4000000 in
set_option maxRecDepth 100000 in
/-- c_f_readFact -/
theorem c_f_readFact (l : Launch) (T : zTy) (rd : Nat) (rl : Nat) (rdd : Nat) (rg : Nat) (tp : Nat) (r0 : Int32) (r1 : Int32) (r2 : Int32) (r3 : Int32) (r4 : Int32) (r5 : Int32) (r6 : Int32) (r7 : Int32) (r8 : Int32) (ft : Nat → Int32) (gg : Int32) (e1 : Nat → Int32) (e2 : Nat → Int32) (wg : va_W) (k : pT) (n : Nat) (a : pS) (f : Nat → Int32) (d : Nat) (x : Int32) (hA : zRc k n ft r0 r1 r2 r3 r4 r5 r6 r7 a) (hw : a.2.1.toInt = 0) (hcl : pCl k a.1 = 1) (hg : bLog T rg gg e1 e2 wg) (hC : zGc gg e1 e2 a f) (hd5 : 11 ≤ d ∧ d ≤ 12) (hxi : x.toInt = (d : Int) - 11) : zMv l T yX7_readFact cX7_readFact 4 5 0 0 [.ref rd, .int x] [[zO7 rd rl rdd rg r0 r1 tp r2 r3 r4 r5 r6 r7 r8], [zAr T 1 tp 600 ft], wg] (fun bs => ∃ (u0 : Int32) (u1 : Int32) (u3 : Int32) (u4 : Int32) (u5 : Int32) (u6 : Int32) (u7 : Int32) (wg2 : va_W) (gg2 : Int32) (b1 : Nat → Int32) (b2 : Nat → Int32), bs = [[zO7 rd rl rdd rg u0 u1 tp r2 u3 u4 u5 u6 u7 r8], [zAr T 1 tp 600 ft], wg2] ∧ bLog T rg gg2 b1 b2 wg2 ∧ zRc k n ft u0 u1 r2 u3 u4 u5 u6 u7 (pFact k d (nI (pWh k a.1)) (pAdv k a) f).1 ∧ zGc gg2 b1 b2 (pFact k d (nI (pWh k a.1)) (pAdv k a) f).1 (pFact k d (nI (pWh k a.1)) (pAdv k a) f).2) := by
  refine zMv_of (own := RX7) (by decide) rfl (Nat.le_of_ble_eq_true rfl) ?_
  intro p e s m args below meth c A ls C hr hlocks hnm hAe G hl
  refine zHide (fun Q9 hQ9 => ?_)
  have hx := C.1
  have hb := C.2.1
  have hl : lv_has ls 4 [(0, .ref rd), (1, .int x)] := hl
  have hok := zRc_ok hA
  obtain ⟨hA1, hA6, hA7, hA8, hA9, hAI, hAE⟩ := id hA
  have hka := hok a.1 hA1.2.2.2
  obtain ⟨t3, t4, t5, t6⟩ := hA7 hw
  have t4i : r4.toInt = (pCl k a.1 : Int) := by rw [t4]; exact nI_toInt (by omega)
  have hcn : ¬ pCl k a.1 = 0 := by omega
  have hdd := fun q => (hC q).1
  refine lv_aload_n hx hb dX7_readFact_0 rfl (lv_at hl 0 rfl) ?_
  refine z_get C G clX7 0 rfl 2 (by decide) m_fl_RX7_28 rfl dX7_readFact_1 ?_
  refine zEx2 hg ?_
  intro a1_1 a2_2 hbs9
  clear hg
  subst hbs9
  have G : zS T A s.heap s [[zO7 rd rl rdd rg r0 r1 tp r2 r3 r4 r5 r6 r7 r8], [zAr T 1 tp 600 ft], [(rg, .inr (5, [.int gg, .ref a1_1, .ref a2_2]))], [zAr T 0 a1_1 8 e1], [zAr T 0 a2_2 8 e2]] _ _ := G.re rfl
  refine z_get C G clX5 2 rfl 0 (by decide) m_fl_RX7_68 rfl dX7_readFact_4 ?_
  refine lv_bipush (v := 8) hx hb dX7_readFact_7 (by decide) ?_
  refine lv_icmp_lt (tgt := 21) hx hb dX7_readFact_9 (by decide) (fun c_3 => ?_) (fun c_3 => ?_)
  · have c_3n : gg.toInt < (8 : Int) := (fa_lt _ _).mp c_3
    refine lv_aload_n hx hb dX7_readFact_21 rfl (lv_at hl 0 rfl) ?_
    refine z_Vv (bc := [[zO7 rd rl rdd rg r0 r1 tp r2 r3 r4 r5 r6 r7 r8], [zAr T 1 tp 600 ft]]) (br := [[(rg, .inr (5, [.int gg, .ref a1_1, .ref a2_2]))], [zAr T 0 a1_1 8 e1], [zAr T 0 a2_2 8 e2]]) (As := []) (rest := []) C G (c_f_nextToken l T rd rl rdd rg tp r0 r1 r2 r3 r4 r5 r6 r7 r8 ft (pEn k a.1) n k t3 hka.1.2.2 hA1.1 hA1.2.2.1 hA1.2.1) (kV_RX7_71 C.2.2.2.2 (Nat.le_of_ble_eq_true rfl) (Nat.le_of_ble_eq_true rfl)) [0, 1] [0, 0] rfl rfl (ci := 7) (qc := (RX7, TX7, 13)) rfl rfl (List.mem_flatten.mpr ⟨_, List.mem_of_getElem? (i := 0) rfl, List.mem_cons_self⟩) rfl rfl hl.1 dX7_readFact_22 (Nat.le_of_ble_eq_true rfl) (Nat.le_of_ble_eq_true rfl) (fun b1 H locs hw G => ?_)
    refine zEx4 hw ?_
    intro u3_4 u4_5 u5_6 u6_7
    refine zCu2 ?_
    intro hbs9 h_8
    clear hw
    subst hbs9
    have G : zS T A s.heap s [[(rg, .inr (5, [.int gg, .ref a1_1, .ref a2_2]))], [zAr T 0 a1_1 8 e1], [zAr T 0 a2_2 8 e2], [zO7 rd rl rdd rg r0 r1 tp r2 u3_4 u4_5 u5_6 u6_7 r7 r8], [zAr T 1 tp 600 ft]] _ _ := G
    have hB := zRc_d0 (m := 8) hA hw hdd (by omega) h_8
    obtain ⟨b, hbq⟩ : ∃ b, b = pDB 8 (nI (pWh k a.1)) f (pAdv k a) := ⟨_, rfl⟩
    rw [← hbq] at hB
    refine lv_aload_n hx hb dX7_readFact_25 rfl (lv_at hl 0 rfl) ?_
    refine lv_bipush (v := 6) hx hb dX7_readFact_26 (by decide) ?_
    refine z_Vi (bc := [[zO7 rd rl rdd rg r0 r1 tp r2 u3_4 u4_5 u5_6 u6_7 r7 r8], [zAr T 1 tp 600 ft]]) (br := [[(rg, .inr (5, [.int gg, .ref a1_1, .ref a2_2]))], [zAr T 0 a1_1 8 e1], [zAr T 0 a2_2 8 e2]]) (As := [.int 6]) (rest := []) C G (c_f_readNumber l T rd rl rdd rg tp r0 r1 r2 u3_4 u4_5 u5_6 u6_7 r7 r8 ft k n b 6 hB) (kV_RX7_120 C.2.2.2.2 (Nat.le_of_ble_eq_true rfl) (Nat.le_of_ble_eq_true rfl)) [3, 4] [3, 0] rfl rfl (ci := 7) (qc := (RX7, TX7, 13)) rfl rfl (List.mem_flatten.mpr ⟨_, List.mem_of_getElem? (i := 0) rfl, List.mem_cons_self⟩) rfl rfl hl.1 dX7_readFact_28 (Nat.le_of_ble_eq_true rfl) (Nat.le_of_ble_eq_true rfl) (fun r_20 b1 H locs hw G => ?_)
    refine zEx7 hw ?_
    intro u0_10 u1_11 u3_12 u4_13 u5_14 u6_15 u7_16
    refine zCu4 ?_
    intro hbs9 h_17 h_18 h_19
    clear hw
    subst hbs9
    have G : zS T A s.heap s [[(rg, .inr (5, [.int gg, .ref a1_1, .ref a2_2]))], [zAr T 0 a1_1 8 e1], [zAr T 0 a2_2 8 e2], [zO7 rd rl rdd rg u0_10 u1_11 tp r2 u3_12 u4_13 u5_14 u6_15 u7_16 r8], [zAr T 1 tp 600 ft]] _ _ := G
    refine lv_istore_n (lv' := [(2, .int r_20), (0, .ref rd), (1, .int x)]) hx hb dX7_readFact_31 rfl hl (by decide) rfl (fun ls hl => ?_)
    refine lv_iload_n hx hb dX7_readFact_32 rfl (lv_at hl 2 rfl) ?_
    refine lv_if_ne (tgt := 45) hx hb dX7_readFact_33 (by decide) (fun c_21 => ?_) (fun c_21 => ?_)
    · have c_21n : ¬ x.toInt = (0 : Int) := fun q => c_21 ((fa_eq _ _).mpr q)
      refine lv_iconst (v := (-1)) hx hb dX7_readFact_45 (by decide) ?_
      refine lv_istore_n (lv' := [(3, .int (-1)), (2, .int r_20), (0, .ref rd), (1, .int x)]) hx hb dX7_readFact_46 rfl hl (by decide) rfl (fun ls hl => ?_)
      refine lv_aload_n hx hb dX7_readFact_47 rfl (lv_at hl 2 rfl) ?_
      refine z_get C G clX7 3 rfl 2 (by decide) m_fl_RX7_28 rfl dX7_readFact_48 ?_
      refine lv_iload_n hx hb dX7_readFact_51 rfl (lv_at hl 1 rfl) ?_
      refine lv_iload_n hx hb dX7_readFact_52 rfl (lv_at hl 0 rfl) ?_
      have hw_22 : bLog T rg gg e1 e2 [(rg, .inr (5, [.int gg, .ref a1_1, .ref a2_2])), zAr T 0 a1_1 8 e1, zAr T 0 a2_2 8 e2] := ⟨a1_1, a2_2, rfl⟩
      have G : zS T A s.heap s [[(rg, .inr (5, [.int gg, .ref a1_1, .ref a2_2])), zAr T 0 a1_1 8 e1, zAr T 0 a2_2 8 e2], [zO7 rd rl rdd rg u0_10 u1_11 tp r2 u3_12 u4_13 u5_14 u6_15 u7_16 r8], [zAr T 1 tp 600 ft]] _ _ := G.re rfl
      refine z_Vv (bc := [[(rg, .inr (5, [.int gg, .ref a1_1, .ref a2_2])), zAr T 0 a1_1 8 e1, zAr T 0 a2_2 8 e2]]) (br := [[zO7 rd rl rdd rg u0_10 u1_11 tp r2 u3_12 u4_13 u5_14 u6_15 u7_16 r8], [zAr T 1 tp 600 ft]]) (As := [.int r_20, .int (-1)]) (rest := []) C G (c_Log_add l T rg gg e1 e2 ([(rg, .inr (5, [.int gg, .ref a1_1, .ref a2_2])), zAr T 0 a1_1 8 e1, zAr T 0 a2_2 8 e2]) r_20 (-1) hw_22) (kV_RX7_139 C.2.2.2.2 (Nat.le_of_ble_eq_true rfl) (Nat.le_of_ble_eq_true rfl)) [0] [0] rfl rfl (ci := 5) (qc := (RX5, TX5, 3)) rfl rfl (List.mem_flatten.mpr ⟨_, List.mem_of_getElem? (i := 0) rfl, (bLog_mem hw_22).choose_spec⟩) rfl rfl hl.1 dX7_readFact_53 (Nat.le_of_ble_eq_true rfl) (Nat.le_of_ble_eq_true rfl) (fun b1 H locs hw G => ?_)
      refine zEx4 hw ?_
      intro w2_23 u_24 g1_25 g2_26
      refine zCu5 ?_
      intro hbs9 h_27 h_28 h_29 h_30
      clear hw
      subst hbs9
      have G : zS T A s.heap s [[zO7 rd rl rdd rg u0_10 u1_11 tp r2 u3_12 u4_13 u5_14 u6_15 u7_16 r8], [zAr T 1 tp 600 ft], w2_23] _ _ := G
      exact z_back hQ9 (z_vret C hr hlocks G (Nat.le_of_ble_eq_true rfl) (Nat.le_of_ble_eq_true rfl) dX7_readFact_56 ⟨u0_10, u1_11, u3_12, u4_13, u5_14, u6_15, u7_16, w2_23, u_24, g1_25, g2_26, rfl, h_27, (by rw [pFact_1 hbq, pGY_lo (by omega)]; exact h_18), (by subst hbq; rw [h_28, h_29, h_30]; exact zGc_step (a := pAdv k a) hC hw hB.2.2.2.2.2.1 h_18.2.2.2.2.2.1 h_19 (by rw [pGY_lo (by omega)]; exact fun _ => rfl))⟩)
    · have c_21n : x.toInt = (0 : Int) := (fa_eq _ _).mp c_21
      refine lv_aload_n hx hb dX7_readFact_36 rfl (lv_at hl 1 rfl) ?_
      refine lv_bipush (v := 6) hx hb dX7_readFact_37 (by decide) ?_
      refine z_Vi (bc := [[zO7 rd rl rdd rg u0_10 u1_11 tp r2 u3_12 u4_13 u5_14 u6_15 u7_16 r8], [zAr T 1 tp 600 ft]]) (br := [[(rg, .inr (5, [.int gg, .ref a1_1, .ref a2_2]))], [zAr T 0 a1_1 8 e1], [zAr T 0 a2_2 8 e2]]) (As := [.int 6]) (rest := []) C G (c_f_readNumber l T rd rl rdd rg tp u0_10 u1_11 r2 u3_12 u4_13 u5_14 u6_15 u7_16 r8 ft k n ((pNum k 0 6 b).2) 6 h_18) (kV_RX7_120 C.2.2.2.2 (Nat.le_of_ble_eq_true rfl) (Nat.le_of_ble_eq_true rfl)) [3, 4] [3, 0] rfl rfl (ci := 7) (qc := (RX7, TX7, 13)) rfl rfl (List.mem_flatten.mpr ⟨_, List.mem_of_getElem? (i := 0) rfl, List.mem_cons_self⟩) rfl rfl hl.1 dX7_readFact_39 (Nat.le_of_ble_eq_true rfl) (Nat.le_of_ble_eq_true rfl) (fun r_42 b1 H locs hw G => ?_)
      refine zEx7 hw ?_
      intro u0_32 u1_33 u3_34 u4_35 u5_36 u6_37 u7_38
      refine zCu4 ?_
      intro hbs9 h_39 h_40 h_41
      clear hw
      subst hbs9
      have G : zS T A s.heap s [[(rg, .inr (5, [.int gg, .ref a1_1, .ref a2_2]))], [zAr T 0 a1_1 8 e1], [zAr T 0 a2_2 8 e2], [zO7 rd rl rdd rg u0_32 u1_33 tp r2 u3_34 u4_35 u5_36 u6_37 u7_38 r8], [zAr T 1 tp 600 ft]] _ _ := G
      refine lv_goto (tgt := 46) hx hb dX7_readFact_42 (by decide) ?_
      refine lv_istore_n (lv' := [(3, .int r_42), (2, .int r_20), (0, .ref rd), (1, .int x)]) hx hb dX7_readFact_46 rfl hl (by decide) rfl (fun ls hl => ?_)
      refine lv_aload_n hx hb dX7_readFact_47 rfl (lv_at hl 2 rfl) ?_
      refine z_get C G clX7 3 rfl 2 (by decide) m_fl_RX7_28 rfl dX7_readFact_48 ?_
      refine lv_iload_n hx hb dX7_readFact_51 rfl (lv_at hl 1 rfl) ?_
      refine lv_iload_n hx hb dX7_readFact_52 rfl (lv_at hl 0 rfl) ?_
      have hw_43 : bLog T rg gg e1 e2 [(rg, .inr (5, [.int gg, .ref a1_1, .ref a2_2])), zAr T 0 a1_1 8 e1, zAr T 0 a2_2 8 e2] := ⟨a1_1, a2_2, rfl⟩
      have G : zS T A s.heap s [[(rg, .inr (5, [.int gg, .ref a1_1, .ref a2_2])), zAr T 0 a1_1 8 e1, zAr T 0 a2_2 8 e2], [zO7 rd rl rdd rg u0_32 u1_33 tp r2 u3_34 u4_35 u5_36 u6_37 u7_38 r8], [zAr T 1 tp 600 ft]] _ _ := G.re rfl
      refine z_Vv (bc := [[(rg, .inr (5, [.int gg, .ref a1_1, .ref a2_2])), zAr T 0 a1_1 8 e1, zAr T 0 a2_2 8 e2]]) (br := [[zO7 rd rl rdd rg u0_32 u1_33 tp r2 u3_34 u4_35 u5_36 u6_37 u7_38 r8], [zAr T 1 tp 600 ft]]) (As := [.int r_20, .int r_42]) (rest := []) C G (c_Log_add l T rg gg e1 e2 ([(rg, .inr (5, [.int gg, .ref a1_1, .ref a2_2])), zAr T 0 a1_1 8 e1, zAr T 0 a2_2 8 e2]) r_20 r_42 hw_43) (kV_RX7_139 C.2.2.2.2 (Nat.le_of_ble_eq_true rfl) (Nat.le_of_ble_eq_true rfl)) [0] [0] rfl rfl (ci := 5) (qc := (RX5, TX5, 3)) rfl rfl (List.mem_flatten.mpr ⟨_, List.mem_of_getElem? (i := 0) rfl, (bLog_mem hw_43).choose_spec⟩) rfl rfl hl.1 dX7_readFact_53 (Nat.le_of_ble_eq_true rfl) (Nat.le_of_ble_eq_true rfl) (fun b1 H locs hw G => ?_)
      refine zEx4 hw ?_
      intro w2_44 u_45 g1_46 g2_47
      refine zCu5 ?_
      intro hbs9 h_48 h_49 h_50 h_51
      clear hw
      subst hbs9
      have G : zS T A s.heap s [[zO7 rd rl rdd rg u0_32 u1_33 tp r2 u3_34 u4_35 u5_36 u6_37 u7_38 r8], [zAr T 1 tp 600 ft], w2_44] _ _ := G
      exact z_back hQ9 (z_vret C hr hlocks G (Nat.le_of_ble_eq_true rfl) (Nat.le_of_ble_eq_true rfl) dX7_readFact_56 ⟨u0_32, u1_33, u3_34, u4_35, u5_36, u6_37, u7_38, w2_44, u_45, g1_46, g2_47, rfl, h_48, (by rw [pFact_1 hbq, pGY_hi (by omega)]; exact h_40), (by subst hbq; rw [h_49, h_50, h_51]; exact zGc_step (a := pAdv k a) hC hw hB.2.2.2.2.2.1 h_18.2.2.2.2.2.1 h_19 (by rw [pGY_hi (by omega)]; exact h_41))⟩)
  · have c_3n : ¬ gg.toInt < (8 : Int) := fun q => c_3 ((fa_lt _ _).mpr q)
    refine lv_aload_n hx hb dX7_readFact_12 rfl (lv_at hl 0 rfl) ?_
    refine lv_iconst (v := 3) hx hb dX7_readFact_13 (by decide) ?_
    refine lv_aload_n hx hb dX7_readFact_14 rfl (lv_at hl 0 rfl) ?_
    refine z_get C G clX7 0 rfl 9 (by decide) m_fl_RX7_84 rfl dX7_readFact_15 ?_
    refine z_Vv (bc := [[zO7 rd rl rdd rg r0 r1 tp r2 r3 r4 r5 r6 r7 r8]]) (br := [[zAr T 1 tp 600 ft], [(rg, .inr (5, [.int gg, .ref a1_1, .ref a2_2]))], [zAr T 0 a1_1 8 e1], [zAr T 0 a2_2 8 e2]]) (As := [.int 3, .int r5]) (rest := []) C G (c_f_note l T rd rl rdd rg tp r0 r1 r2 r3 r4 r5 r6 r7 r8 3 r5) (kV_RX7_90 C.2.2.2.2 (Nat.le_of_ble_eq_true rfl) (Nat.le_of_ble_eq_true rfl)) [0] [0] rfl rfl (ci := 7) (qc := (RX7, TX7, 13)) rfl rfl (List.mem_flatten.mpr ⟨_, List.mem_of_getElem? (i := 0) rfl, List.mem_cons_self⟩) rfl rfl hl.1 dX7_readFact_18 (Nat.le_of_ble_eq_true rfl) (Nat.le_of_ble_eq_true rfl) (fun b1 H locs hw G => ?_)
    refine zEx2 hw ?_
    intro u0_53 u1_54
    refine zCu3 ?_
    intro hbs9 h_55 h_56
    clear hw
    subst hbs9
    have G : zS T A s.heap s [[zAr T 1 tp 600 ft], [(rg, .inr (5, [.int gg, .ref a1_1, .ref a2_2]))], [zAr T 0 a1_1 8 e1], [zAr T 0 a2_2 8 e2], [zO7 rd rl rdd rg u0_53 u1_54 tp r2 r3 r4 r5 r6 r7 r8]] _ _ := G
    refine lv_aload_n hx hb dX7_readFact_21 rfl (lv_at hl 0 rfl) ?_
    refine z_Vv (bc := [[zO7 rd rl rdd rg u0_53 u1_54 tp r2 r3 r4 r5 r6 r7 r8], [zAr T 1 tp 600 ft]]) (br := [[(rg, .inr (5, [.int gg, .ref a1_1, .ref a2_2]))], [zAr T 0 a1_1 8 e1], [zAr T 0 a2_2 8 e2]]) (As := []) (rest := []) C G (c_f_nextToken l T rd rl rdd rg tp u0_53 u1_54 r2 r3 r4 r5 r6 r7 r8 ft (pEn k a.1) n k t3 hka.1.2.2 hA1.1 hA1.2.2.1 hA1.2.1) (kV_RX7_71 C.2.2.2.2 (Nat.le_of_ble_eq_true rfl) (Nat.le_of_ble_eq_true rfl)) [4, 0] [0, 3] rfl rfl (ci := 7) (qc := (RX7, TX7, 13)) rfl rfl (List.mem_flatten.mpr ⟨_, List.mem_of_getElem? (i := 0) rfl, List.mem_cons_self⟩) rfl rfl hl.1 dX7_readFact_22 (Nat.le_of_ble_eq_true rfl) (Nat.le_of_ble_eq_true rfl) (fun b1 H locs hw G => ?_)
    refine zEx4 hw ?_
    intro u3_58 u4_59 u5_60 u6_61
    refine zCu2 ?_
    intro hbs9 h_62
    clear hw
    subst hbs9
    have G : zS T A s.heap s [[(rg, .inr (5, [.int gg, .ref a1_1, .ref a2_2]))], [zAr T 0 a1_1 8 e1], [zAr T 0 a2_2 8 e2], [zO7 rd rl rdd rg u0_53 u1_54 tp r2 u3_58 u4_59 u5_60 u6_61 r7 r8], [zAr T 1 tp 600 ft]] _ _ := G
    have hB := zRc_d1 (m := 8) hA hw hcn hdd (by omega) h_55 h_56 h_62
    obtain ⟨b, hbq⟩ : ∃ b, b = pDB 8 (nI (pWh k a.1)) f (pAdv k a) := ⟨_, rfl⟩
    rw [← hbq] at hB
    refine lv_aload_n hx hb dX7_readFact_25 rfl (lv_at hl 0 rfl) ?_
    refine lv_bipush (v := 6) hx hb dX7_readFact_26 (by decide) ?_
    refine z_Vi (bc := [[zO7 rd rl rdd rg u0_53 u1_54 tp r2 u3_58 u4_59 u5_60 u6_61 r7 r8], [zAr T 1 tp 600 ft]]) (br := [[(rg, .inr (5, [.int gg, .ref a1_1, .ref a2_2]))], [zAr T 0 a1_1 8 e1], [zAr T 0 a2_2 8 e2]]) (As := [.int 6]) (rest := []) C G (c_f_readNumber l T rd rl rdd rg tp u0_53 u1_54 r2 u3_58 u4_59 u5_60 u6_61 r7 r8 ft k n b 6 hB) (kV_RX7_120 C.2.2.2.2 (Nat.le_of_ble_eq_true rfl) (Nat.le_of_ble_eq_true rfl)) [3, 4] [3, 0] rfl rfl (ci := 7) (qc := (RX7, TX7, 13)) rfl rfl (List.mem_flatten.mpr ⟨_, List.mem_of_getElem? (i := 0) rfl, List.mem_cons_self⟩) rfl rfl hl.1 dX7_readFact_28 (Nat.le_of_ble_eq_true rfl) (Nat.le_of_ble_eq_true rfl) (fun r_74 b1 H locs hw G => ?_)
    refine zEx7 hw ?_
    intro u0_64 u1_65 u3_66 u4_67 u5_68 u6_69 u7_70
    refine zCu4 ?_
    intro hbs9 h_71 h_72 h_73
    clear hw
    subst hbs9
    have G : zS T A s.heap s [[(rg, .inr (5, [.int gg, .ref a1_1, .ref a2_2]))], [zAr T 0 a1_1 8 e1], [zAr T 0 a2_2 8 e2], [zO7 rd rl rdd rg u0_64 u1_65 tp r2 u3_66 u4_67 u5_68 u6_69 u7_70 r8], [zAr T 1 tp 600 ft]] _ _ := G
    refine lv_istore_n (lv' := [(2, .int r_74), (0, .ref rd), (1, .int x)]) hx hb dX7_readFact_31 rfl hl (by decide) rfl (fun ls hl => ?_)
    refine lv_iload_n hx hb dX7_readFact_32 rfl (lv_at hl 2 rfl) ?_
    refine lv_if_ne (tgt := 45) hx hb dX7_readFact_33 (by decide) (fun c_75 => ?_) (fun c_75 => ?_)
    · have c_75n : ¬ x.toInt = (0 : Int) := fun q => c_75 ((fa_eq _ _).mpr q)
      refine lv_iconst (v := (-1)) hx hb dX7_readFact_45 (by decide) ?_
      refine lv_istore_n (lv' := [(3, .int (-1)), (2, .int r_74), (0, .ref rd), (1, .int x)]) hx hb dX7_readFact_46 rfl hl (by decide) rfl (fun ls hl => ?_)
      refine lv_aload_n hx hb dX7_readFact_47 rfl (lv_at hl 2 rfl) ?_
      refine z_get C G clX7 3 rfl 2 (by decide) m_fl_RX7_28 rfl dX7_readFact_48 ?_
      refine lv_iload_n hx hb dX7_readFact_51 rfl (lv_at hl 1 rfl) ?_
      refine lv_iload_n hx hb dX7_readFact_52 rfl (lv_at hl 0 rfl) ?_
      have hw_76 : bLog T rg gg e1 e2 [(rg, .inr (5, [.int gg, .ref a1_1, .ref a2_2])), zAr T 0 a1_1 8 e1, zAr T 0 a2_2 8 e2] := ⟨a1_1, a2_2, rfl⟩
      have G : zS T A s.heap s [[(rg, .inr (5, [.int gg, .ref a1_1, .ref a2_2])), zAr T 0 a1_1 8 e1, zAr T 0 a2_2 8 e2], [zO7 rd rl rdd rg u0_64 u1_65 tp r2 u3_66 u4_67 u5_68 u6_69 u7_70 r8], [zAr T 1 tp 600 ft]] _ _ := G.re rfl
      refine z_Vv (bc := [[(rg, .inr (5, [.int gg, .ref a1_1, .ref a2_2])), zAr T 0 a1_1 8 e1, zAr T 0 a2_2 8 e2]]) (br := [[zO7 rd rl rdd rg u0_64 u1_65 tp r2 u3_66 u4_67 u5_68 u6_69 u7_70 r8], [zAr T 1 tp 600 ft]]) (As := [.int r_74, .int (-1)]) (rest := []) C G (c_Log_add l T rg gg e1 e2 ([(rg, .inr (5, [.int gg, .ref a1_1, .ref a2_2])), zAr T 0 a1_1 8 e1, zAr T 0 a2_2 8 e2]) r_74 (-1) hw_76) (kV_RX7_139 C.2.2.2.2 (Nat.le_of_ble_eq_true rfl) (Nat.le_of_ble_eq_true rfl)) [0] [0] rfl rfl (ci := 5) (qc := (RX5, TX5, 3)) rfl rfl (List.mem_flatten.mpr ⟨_, List.mem_of_getElem? (i := 0) rfl, (bLog_mem hw_76).choose_spec⟩) rfl rfl hl.1 dX7_readFact_53 (Nat.le_of_ble_eq_true rfl) (Nat.le_of_ble_eq_true rfl) (fun b1 H locs hw G => ?_)
      refine zEx4 hw ?_
      intro w2_77 u_78 g1_79 g2_80
      refine zCu5 ?_
      intro hbs9 h_81 h_82 h_83 h_84
      clear hw
      subst hbs9
      have G : zS T A s.heap s [[zO7 rd rl rdd rg u0_64 u1_65 tp r2 u3_66 u4_67 u5_68 u6_69 u7_70 r8], [zAr T 1 tp 600 ft], w2_77] _ _ := G
      exact z_back hQ9 (z_vret C hr hlocks G (Nat.le_of_ble_eq_true rfl) (Nat.le_of_ble_eq_true rfl) dX7_readFact_56 ⟨u0_64, u1_65, u3_66, u4_67, u5_68, u6_69, u7_70, w2_77, u_78, g1_79, g2_80, rfl, h_81, (by rw [pFact_1 hbq, pGY_lo (by omega)]; exact h_72), (by subst hbq; rw [h_82, h_83, h_84]; exact zGc_step (a := pAdv k a) hC hw hB.2.2.2.2.2.1 h_72.2.2.2.2.2.1 h_73 (by rw [pGY_lo (by omega)]; exact fun _ => rfl))⟩)
    · have c_75n : x.toInt = (0 : Int) := (fa_eq _ _).mp c_75
      refine lv_aload_n hx hb dX7_readFact_36 rfl (lv_at hl 1 rfl) ?_
      refine lv_bipush (v := 6) hx hb dX7_readFact_37 (by decide) ?_
      refine z_Vi (bc := [[zO7 rd rl rdd rg u0_64 u1_65 tp r2 u3_66 u4_67 u5_68 u6_69 u7_70 r8], [zAr T 1 tp 600 ft]]) (br := [[(rg, .inr (5, [.int gg, .ref a1_1, .ref a2_2]))], [zAr T 0 a1_1 8 e1], [zAr T 0 a2_2 8 e2]]) (As := [.int 6]) (rest := []) C G (c_f_readNumber l T rd rl rdd rg tp u0_64 u1_65 r2 u3_66 u4_67 u5_68 u6_69 u7_70 r8 ft k n ((pNum k 0 6 b).2) 6 h_72) (kV_RX7_120 C.2.2.2.2 (Nat.le_of_ble_eq_true rfl) (Nat.le_of_ble_eq_true rfl)) [3, 4] [3, 0] rfl rfl (ci := 7) (qc := (RX7, TX7, 13)) rfl rfl (List.mem_flatten.mpr ⟨_, List.mem_of_getElem? (i := 0) rfl, List.mem_cons_self⟩) rfl rfl hl.1 dX7_readFact_39 (Nat.le_of_ble_eq_true rfl) (Nat.le_of_ble_eq_true rfl) (fun r_96 b1 H locs hw G => ?_)
      refine zEx7 hw ?_
      intro u0_86 u1_87 u3_88 u4_89 u5_90 u6_91 u7_92
      refine zCu4 ?_
      intro hbs9 h_93 h_94 h_95
      clear hw
      subst hbs9
      have G : zS T A s.heap s [[(rg, .inr (5, [.int gg, .ref a1_1, .ref a2_2]))], [zAr T 0 a1_1 8 e1], [zAr T 0 a2_2 8 e2], [zO7 rd rl rdd rg u0_86 u1_87 tp r2 u3_88 u4_89 u5_90 u6_91 u7_92 r8], [zAr T 1 tp 600 ft]] _ _ := G
      refine lv_goto (tgt := 46) hx hb dX7_readFact_42 (by decide) ?_
      refine lv_istore_n (lv' := [(3, .int r_96), (2, .int r_74), (0, .ref rd), (1, .int x)]) hx hb dX7_readFact_46 rfl hl (by decide) rfl (fun ls hl => ?_)
      refine lv_aload_n hx hb dX7_readFact_47 rfl (lv_at hl 2 rfl) ?_
      refine z_get C G clX7 3 rfl 2 (by decide) m_fl_RX7_28 rfl dX7_readFact_48 ?_
      refine lv_iload_n hx hb dX7_readFact_51 rfl (lv_at hl 1 rfl) ?_
      refine lv_iload_n hx hb dX7_readFact_52 rfl (lv_at hl 0 rfl) ?_
      have hw_97 : bLog T rg gg e1 e2 [(rg, .inr (5, [.int gg, .ref a1_1, .ref a2_2])), zAr T 0 a1_1 8 e1, zAr T 0 a2_2 8 e2] := ⟨a1_1, a2_2, rfl⟩
      have G : zS T A s.heap s [[(rg, .inr (5, [.int gg, .ref a1_1, .ref a2_2])), zAr T 0 a1_1 8 e1, zAr T 0 a2_2 8 e2], [zO7 rd rl rdd rg u0_86 u1_87 tp r2 u3_88 u4_89 u5_90 u6_91 u7_92 r8], [zAr T 1 tp 600 ft]] _ _ := G.re rfl
      refine z_Vv (bc := [[(rg, .inr (5, [.int gg, .ref a1_1, .ref a2_2])), zAr T 0 a1_1 8 e1, zAr T 0 a2_2 8 e2]]) (br := [[zO7 rd rl rdd rg u0_86 u1_87 tp r2 u3_88 u4_89 u5_90 u6_91 u7_92 r8], [zAr T 1 tp 600 ft]]) (As := [.int r_74, .int r_96]) (rest := []) C G (c_Log_add l T rg gg e1 e2 ([(rg, .inr (5, [.int gg, .ref a1_1, .ref a2_2])), zAr T 0 a1_1 8 e1, zAr T 0 a2_2 8 e2]) r_74 r_96 hw_97) (kV_RX7_139 C.2.2.2.2 (Nat.le_of_ble_eq_true rfl) (Nat.le_of_ble_eq_true rfl)) [0] [0] rfl rfl (ci := 5) (qc := (RX5, TX5, 3)) rfl rfl (List.mem_flatten.mpr ⟨_, List.mem_of_getElem? (i := 0) rfl, (bLog_mem hw_97).choose_spec⟩) rfl rfl hl.1 dX7_readFact_53 (Nat.le_of_ble_eq_true rfl) (Nat.le_of_ble_eq_true rfl) (fun b1 H locs hw G => ?_)
      refine zEx4 hw ?_
      intro w2_98 u_99 g1_100 g2_101
      refine zCu5 ?_
      intro hbs9 h_102 h_103 h_104 h_105
      clear hw
      subst hbs9
      have G : zS T A s.heap s [[zO7 rd rl rdd rg u0_86 u1_87 tp r2 u3_88 u4_89 u5_90 u6_91 u7_92 r8], [zAr T 1 tp 600 ft], w2_98] _ _ := G
      exact z_back hQ9 (z_vret C hr hlocks G (Nat.le_of_ble_eq_true rfl) (Nat.le_of_ble_eq_true rfl) dX7_readFact_56 ⟨u0_86, u1_87, u3_88, u4_89, u5_90, u6_91, u7_92, w2_98, u_99, g1_100, g2_101, rfl, h_102, (by rw [pFact_1 hbq, pGY_hi (by omega)]; exact h_94), (by subst hbq; rw [h_103, h_104, h_105]; exact zGc_step (a := pAdv k a) hC hw hB.2.2.2.2.2.1 h_72.2.2.2.2.2.1 h_73 (by rw [pGY_hi (by omega)]; exact h_95))⟩)
set_option maxHeartbeats 4000000 in
set_option maxRecDepth 100000 in
/-- c_f_readOther1 -/
theorem c_f_readOther1 (l : Launch) (T : zTy) (rd : Nat) (rl : Nat) (rdd : Nat) (rg : Nat) (tp : Nat) (r0 : Int32) (r1 : Int32) (r2 : Int32) (r3 : Int32) (r4 : Int32) (r5 : Int32) (r6 : Int32) (r7 : Int32) (r8 : Int32) (ft : Nat → Int32) (cr : Int32) (inn : Int32) (k1 : Nat → Int32) (k2 : Nat → Int32) (k3 : Nat → Int32) (k4 : Nat → Int32) (z : va_W) (k : pT) (n : Nat) (a : pS) (f : Nat → Int32) (hA : zRc k n ft r0 r1 r2 r3 r4 r5 r6 r7 a) (hw : a.2.1.toInt = 0) (hcl : pCl k a.1 = 1) (hz : bLand T rl cr inn k1 k2 k3 k4 z) (hI : zLI cr k1 k3) (hC : zLc cr inn k1 k2 k3 k4 r8 a f) : zMv l T yX7_readOther cX7_readOther 4 5 0 0 [.ref rd, .int 1] [[zO7 rd rl rdd rg r0 r1 tp r2 r3 r4 r5 r6 r7 r8], [zAr T 1 tp 600 ft], z] (fun bs => ∃ (u0 : Int32) (u1 : Int32) (u3 : Int32) (u4 : Int32) (u5 : Int32) (u6 : Int32) (u7 : Int32) (u8 : Int32) (z2 : va_W) (i2 : Int32) (j3 : Nat → Int32) (j4 : Nat → Int32), bs = [[zO7 rd rl rdd rg u0 u1 tp r2 u3 u4 u5 u6 u7 u8], [zAr T 1 tp 600 ft], z2] ∧ bLand T rl cr i2 k1 k2 j3 j4 z2 ∧ zLI cr k1 j3 ∧ zRc k n ft u0 u1 r2 u3 u4 u5 u6 u7 (pPW k 2 (pAdv k a) f).1 ∧ zLc cr i2 k1 k2 j3 j4 u8 (pPW k 2 (pAdv k a) f).1 (pPW k 2 (pAdv k a) f).2) := by
  refine zMv_of (own := RX7) (by decide) rfl (Nat.le_of_ble_eq_true rfl) ?_
  intro p e s m args below meth c A ls C hr hlocks hnm hAe G hl
  refine zHide (fun Q9 hQ9 => ?_)
  have hx := C.1
  have hb := C.2.1
  have hl : lv_has ls 4 [(0, .ref rd), (1, .int 1)] := hl
  have hok := zRc_ok hA
  obtain ⟨hA1, hA6, hA7, hA8, hA9, hAI, hAE⟩ := id hA
  have hka := hok a.1 hA1.2.2.2
  obtain ⟨t3, t4, t5, t6⟩ := hA7 hw
  have t4i : r4.toInt = (pCl k a.1 : Int) := by rw [t4]; exact nI_toInt (by omega)
  refine lv_aload_n hx hb dX7_readOther_0 rfl (lv_at hl 0 rfl) ?_
  refine z_Vv (bc := [[zO7 rd rl rdd rg r0 r1 tp r2 r3 r4 r5 r6 r7 r8], [zAr T 1 tp 600 ft]]) (br := [z]) (As := []) (rest := []) C G (c_f_nextToken l T rd rl rdd rg tp r0 r1 r2 r3 r4 r5 r6 r7 r8 ft (pEn k a.1) n k t3 hka.1.2.2 hA1.1 hA1.2.2.1 hA1.2.1) (kV_RX7_71 C.2.2.2.2 (Nat.le_of_ble_eq_true rfl) (Nat.le_of_ble_eq_true rfl)) [0, 1] [0, 0] rfl rfl (ci := 7) (qc := (RX7, TX7, 13)) rfl rfl (List.mem_flatten.mpr ⟨_, List.mem_of_getElem? (i := 0) rfl, List.mem_cons_self⟩) rfl rfl hl.1 dX7_readOther_1 (Nat.le_of_ble_eq_true rfl) (Nat.le_of_ble_eq_true rfl) (fun b1 H locs hw G => ?_)
  refine zEx4 hw ?_
  intro u3_1 u4_2 u5_3 u6_4
  refine zCu2 ?_
  intro hbs9 h_5
  clear hw
  subst hbs9
  have G : zS T A s.heap s [z, [zO7 rd rl rdd rg r0 r1 tp r2 u3_1 u4_2 u5_3 u6_4 r7 r8], [zAr T 1 tp 600 ft]] _ _ := G
  have hB := zRc_adv hA hw h_5
  refine lv_aload_n hx hb dX7_readOther_4 rfl (lv_at hl 0 rfl) ?_
  refine lv_bipush (v := 6) hx hb dX7_readOther_5 (by decide) ?_
  refine z_Vi (bc := [[zO7 rd rl rdd rg r0 r1 tp r2 u3_1 u4_2 u5_3 u6_4 r7 r8], [zAr T 1 tp 600 ft]]) (br := [z]) (As := [.int 6]) (rest := []) C G (c_f_readNumber l T rd rl rdd rg tp r0 r1 r2 u3_1 u4_2 u5_3 u6_4 r7 r8 ft k n (pAdv k a) 6 hB) (kV_RX7_120 C.2.2.2.2 (Nat.le_of_ble_eq_true rfl) (Nat.le_of_ble_eq_true rfl)) [1, 2] [1, 0] rfl rfl (ci := 7) (qc := (RX7, TX7, 13)) rfl rfl (List.mem_flatten.mpr ⟨_, List.mem_of_getElem? (i := 0) rfl, List.mem_cons_self⟩) rfl rfl hl.1 dX7_readOther_7 (Nat.le_of_ble_eq_true rfl) (Nat.le_of_ble_eq_true rfl) (fun r_17 b1 H locs hw G => ?_)
  refine zEx7 hw ?_
  intro u0_7 u1_8 u3_9 u4_10 u5_11 u6_12 u7_13
  refine zCu4 ?_
  intro hbs9 h_14 h_15 h_16
  clear hw
  subst hbs9
  have G : zS T A s.heap s [z, [zO7 rd rl rdd rg u0_7 u1_8 tp r2 u3_9 u4_10 u5_11 u6_12 u7_13 r8], [zAr T 1 tp 600 ft]] _ _ := G
  refine lv_istore_n (lv' := [(2, .int r_17), (0, .ref rd), (1, .int 1)]) hx hb dX7_readOther_10 rfl hl (by decide) rfl (fun ls hl => ?_)
  refine lv_aload_n hx hb dX7_readOther_11 rfl (lv_at hl 1 rfl) ?_
  refine lv_iload_n hx hb dX7_readOther_12 rfl (lv_at hl 0 rfl) ?_
  refine z_Vv (bc := [[zO7 rd rl rdd rg u0_7 u1_8 tp r2 u3_9 u4_10 u5_11 u6_12 u7_13 r8]]) (br := [z, [zAr T 1 tp 600 ft]]) (As := [.int r_17]) (rest := []) C G (c_f_tellOf l T rd rl rdd rg tp u0_7 u1_8 r2 u3_9 u4_10 u5_11 u6_12 u7_13 r8 r_17) (kV_RX7_126 C.2.2.2.2 (Nat.le_of_ble_eq_true rfl) (Nat.le_of_ble_eq_true rfl)) [1] [1] rfl rfl (ci := 7) (qc := (RX7, TX7, 13)) rfl rfl (List.mem_flatten.mpr ⟨_, List.mem_of_getElem? (i := 0) rfl, List.mem_cons_self⟩) rfl rfl hl.1 dX7_readOther_13 (Nat.le_of_ble_eq_true rfl) (Nat.le_of_ble_eq_true rfl) (fun b1 H locs hw G => ?_)
  refine zEx1 hw ?_
  intro u8_18
  refine zCu2 ?_
  intro hbs9 h_19
  clear hw
  subst hbs9
  have G : zS T A s.heap s [z, [zAr T 1 tp 600 ft], [zO7 rd rl rdd rg u0_7 u1_8 tp r2 u3_9 u4_10 u5_11 u6_12 u7_13 u8_18]] _ _ := G
  have hF : zRc k n ft u0_7 u1_8 r2 u3_9 u4_10 u5_11 u6_12 u7_13 (pCr k (pAdv k a)).2 := zRc_far h_15 _
  refine lv_iload_n hx hb dX7_readOther_16 rfl (lv_at hl 2 rfl) ?_
  refine lv_iconst (v := 3) hx hb dX7_readOther_17 (by decide) ?_
  refine lv_icmp_ne (tgt := 51) hx hb dX7_readOther_18 (by decide) (fun _ => ?_) (fun q => absurd q (by decide))
  refine lv_aload_n hx hb dX7_readOther_51 rfl (lv_at hl 1 rfl) ?_
  refine lv_iload_n hx hb dX7_readOther_52 rfl (lv_at hl 2 rfl) ?_
  refine lv_iconst (v := 1) hx hb dX7_readOther_53 (by decide) ?_
  refine lv_icmp_ne (tgt := 61) hx hb dX7_readOther_54 (by decide) (fun q => absurd (by decide) q) (fun _ => ?_)
  refine lv_iconst (v := 3) hx hb dX7_readOther_57 (by decide) ?_
  refine lv_goto (tgt := 63) hx hb dX7_readOther_58 (by decide) ?_
  refine z_Vi (bc := [[zO7 rd rl rdd rg u0_7 u1_8 tp r2 u3_9 u4_10 u5_11 u6_12 u7_13 u8_18], [zAr T 1 tp 600 ft]]) (br := [z]) (As := [.int 3]) (rest := []) C G (c_f_readNumber l T rd rl rdd rg tp u0_7 u1_8 r2 u3_9 u4_10 u5_11 u6_12 u7_13 u8_18 ft k n ((pCr k (pAdv k a)).2) 3 hF) (kV_RX7_120 C.2.2.2.2 (Nat.le_of_ble_eq_true rfl) (Nat.le_of_ble_eq_true rfl)) [2, 1] [1, 0] rfl rfl (ci := 7) (qc := (RX7, TX7, 13)) rfl rfl (List.mem_flatten.mpr ⟨_, List.mem_of_getElem? (i := 0) rfl, List.mem_cons_self⟩) rfl rfl hl.1 dX7_readOther_63 (Nat.le_of_ble_eq_true rfl) (Nat.le_of_ble_eq_true rfl) (fun r_31 b1 H locs hw G => ?_)
  refine zEx7 hw ?_
  intro u0_21 u1_22 u3_23 u4_24 u5_25 u6_26 u7_27
  refine zCu4 ?_
  intro hbs9 h_28 h_29 h_30
  clear hw
  subst hbs9
  have G : zS T A s.heap s [z, [zO7 rd rl rdd rg u0_21 u1_22 tp r2 u3_23 u4_24 u5_25 u6_26 u7_27 u8_18], [zAr T 1 tp 600 ft]] _ _ := G
  refine lv_istore_n (lv' := [(3, .int r_31), (2, .int r_17), (0, .ref rd), (1, .int 1)]) hx hb dX7_readOther_66 rfl hl (by decide) rfl (fun ls hl => ?_)
  refine lv_iload_n hx hb dX7_readOther_67 rfl (lv_at hl 1 rfl) ?_
  refine lv_if_lt (tgt := 77) hx hb dX7_readOther_68 (by decide) (fun c_32 => ?_) (fun c_32 => ?_)
  · have c_32n : r_17.toInt < (0 : Int) := (fa_lt _ _).mp c_32
    have G := G.sub (bs' := [[zO7 rd rl rdd rg u0_21 u1_22 tp r2 u3_23 u4_24 u5_25 u6_26 u7_27 u8_18], [zAr T 1 tp 600 ft], z]) [1, 2, 0] rfl
    exact z_back hQ9 (z_vret C hr hlocks G (Nat.le_of_ble_eq_true rfl) (Nat.le_of_ble_eq_true rfl) dX7_readOther_77 ⟨u0_21, u1_22, u3_23, u4_24, u5_25, u6_26, u7_27, u8_18, z, inn, k3, k4, rfl, hz, (by first | exact hI | exact zLI_post hI _ (by omega)), h_29, (by rw [h_19]; have hz := zLc_pw (d := 2) (by decide) (a := pAdv k a) hC hB.2.2.2.2.2.1 hF.2.2.2.2.2.1 h_16 h_30; rw [show (if 2 = 2 ∧ 0 ≤ r_17.toInt ∧ r_17.toInt < 7 then upd k3 r_17.toInt.toNat r_31 else k3) = k3 from if_neg (by omega), show (if 2 = 3 ∧ 0 ≤ r_17.toInt ∧ r_17.toInt < 7 then upd k4 r_17.toInt.toNat r_31 else k4) = k4 from if_neg (by omega)] at hz; exact hz)⟩)
  · have c_32n : ¬ r_17.toInt < (0 : Int) := fun q => c_32 ((fa_lt _ _).mpr q)
    refine lv_iload_n hx hb dX7_readOther_71 rfl (lv_at hl 1 rfl) ?_
    refine lv_bipush (v := 7) hx hb dX7_readOther_72 (by decide) ?_
    refine lv_icmp_lt (tgt := 78) hx hb dX7_readOther_74 (by decide) (fun c_33 => ?_) (fun c_33 => ?_)
    · have c_33n : r_17.toInt < (7 : Int) := (fa_lt _ _).mp c_33
      refine lv_iload_n hx hb dX7_readOther_78 rfl (lv_at hl 3 rfl) ?_
      refine lv_iconst (v := 1) hx hb dX7_readOther_79 (by decide) ?_
      refine lv_icmp_ne (tgt := 96) hx hb dX7_readOther_80 (by decide) (fun q => absurd (by decide) q) (fun _ => ?_)
      refine lv_aload_n hx hb dX7_readOther_83 rfl (lv_at hl 2 rfl) ?_
      refine z_get C G clX7 1 rfl 0 (by decide) m_fl_RX7_12 rfl dX7_readOther_84 ?_
      refine zEx4 hz ?_
      intro a1_34 a2_35 a3_36 a4_37 hbs9
      clear hz
      subst hbs9
      have G : zS T A s.heap s [[zO4 rl cr inn a1_34 a2_35 a3_36 a4_37], [zAr T 0 a1_34 7 k1], [zAr T 0 a2_35 28 k2], [zAr T 0 a3_36 7 k3], [zAr T 0 a4_37 7 k4], [zO7 rd rl rdd rg u0_21 u1_22 tp r2 u3_23 u4_24 u5_25 u6_26 u7_27 u8_18], [zAr T 1 tp 600 ft]] _ _ := G.re rfl
      refine z_get C G clX4 0 rfl 4 (by decide) m_fl_RX7_94 rfl dX7_readOther_87 ?_
      refine lv_iload_n hx hb dX7_readOther_90 rfl (lv_at hl 1 rfl) ?_
      refine lv_iload_n hx hb dX7_readOther_91 rfl (lv_at hl 0 rfl) ?_
      refine z_ist C G 3 rfl (vp_in_iff.mpr ⟨by omega, by omega⟩) dX7_readOther_92 (fun H locs G => ?_)
      have G : zS T A s.heap s [[zO4 rl cr inn a1_34 a2_35 a3_36 a4_37], [zAr T 0 a1_34 7 k1], [zAr T 0 a2_35 28 k2], [zAr T 0 a3_36 7 (upd k3 r_17.toNatClampNeg r_31)], [zAr T 0 a4_37 7 k4], [zO7 rd rl rdd rg u0_21 u1_22 tp r2 u3_23 u4_24 u5_25 u6_26 u7_27 u8_18], [zAr T 1 tp 600 ft]] _ _ := G
      refine lv_goto (tgt := 106) hx hb dX7_readOther_93 (by decide) ?_
      have hw_38 : bLand T rl cr inn k1 k2 (upd k3 r_17.toNatClampNeg r_31) k4 [zO4 rl cr inn a1_34 a2_35 a3_36 a4_37, zAr T 0 a1_34 7 k1, zAr T 0 a2_35 28 k2, zAr T 0 a3_36 7 (upd k3 r_17.toNatClampNeg r_31), zAr T 0 a4_37 7 k4] := ⟨a1_34, a2_35, a3_36, a4_37, rfl⟩
      have G : zS T A s.heap s [[zO4 rl cr inn a1_34 a2_35 a3_36 a4_37, zAr T 0 a1_34 7 k1, zAr T 0 a2_35 28 k2, zAr T 0 a3_36 7 (upd k3 r_17.toNatClampNeg r_31), zAr T 0 a4_37 7 k4], [zO7 rd rl rdd rg u0_21 u1_22 tp r2 u3_23 u4_24 u5_25 u6_26 u7_27 u8_18], [zAr T 1 tp 600 ft]] _ _ := G.re rfl
      have G := G.sub (bs' := [[zO7 rd rl rdd rg u0_21 u1_22 tp r2 u3_23 u4_24 u5_25 u6_26 u7_27 u8_18], [zAr T 1 tp 600 ft], [zO4 rl cr inn a1_34 a2_35 a3_36 a4_37, zAr T 0 a1_34 7 k1, zAr T 0 a2_35 28 k2, zAr T 0 a3_36 7 (upd k3 r_17.toNatClampNeg r_31), zAr T 0 a4_37 7 k4]]) [1, 2, 0] rfl
      exact z_back hQ9 (z_vret C hr hlocks G (Nat.le_of_ble_eq_true rfl) (Nat.le_of_ble_eq_true rfl) dX7_readOther_106 ⟨u0_21, u1_22, u3_23, u4_24, u5_25, u6_26, u7_27, u8_18, ([zO4 rl cr inn a1_34 a2_35 a3_36 a4_37, zAr T 0 a1_34 7 k1, zAr T 0 a2_35 28 k2, zAr T 0 a3_36 7 (upd k3 r_17.toNatClampNeg r_31), zAr T 0 a4_37 7 k4]), inn, (upd k3 r_17.toNatClampNeg r_31), k4, rfl, hw_38, (by first | exact hI | exact zLI_post hI _ (by omega)), h_29, (by rw [h_19]; have hz := zLc_pw (d := 2) (by decide) (a := pAdv k a) hC hB.2.2.2.2.2.1 hF.2.2.2.2.2.1 h_16 h_30; rw [show (if 2 = 2 ∧ 0 ≤ r_17.toInt ∧ r_17.toInt < 7 then upd k3 r_17.toInt.toNat r_31 else k3) = upd k3 r_17.toInt.toNat r_31 from if_pos (by omega), show (if 2 = 3 ∧ 0 ≤ r_17.toInt ∧ r_17.toInt < 7 then upd k4 r_17.toInt.toNat r_31 else k4) = k4 from if_neg (by omega)] at hz; exact hz)⟩)
    · have c_33n : ¬ r_17.toInt < (7 : Int) := fun q => c_33 ((fa_lt _ _).mpr q)
      have G := G.sub (bs' := [[zO7 rd rl rdd rg u0_21 u1_22 tp r2 u3_23 u4_24 u5_25 u6_26 u7_27 u8_18], [zAr T 1 tp 600 ft], z]) [1, 2, 0] rfl
      exact z_back hQ9 (z_vret C hr hlocks G (Nat.le_of_ble_eq_true rfl) (Nat.le_of_ble_eq_true rfl) dX7_readOther_77 ⟨u0_21, u1_22, u3_23, u4_24, u5_25, u6_26, u7_27, u8_18, z, inn, k3, k4, rfl, hz, (by first | exact hI | exact zLI_post hI _ (by omega)), h_29, (by rw [h_19]; have hz := zLc_pw (d := 2) (by decide) (a := pAdv k a) hC hB.2.2.2.2.2.1 hF.2.2.2.2.2.1 h_16 h_30; rw [show (if 2 = 2 ∧ 0 ≤ r_17.toInt ∧ r_17.toInt < 7 then upd k3 r_17.toInt.toNat r_31 else k3) = k3 from if_neg (by omega), show (if 2 = 3 ∧ 0 ≤ r_17.toInt ∧ r_17.toInt < 7 then upd k4 r_17.toInt.toNat r_31 else k4) = k4 from if_neg (by omega)] at hz; exact hz)⟩)
set_option maxHeartbeats 4000000 in
set_option maxRecDepth 100000 in
/-- c_f_readOther2 -/
theorem c_f_readOther2 (l : Launch) (T : zTy) (rd : Nat) (rl : Nat) (rdd : Nat) (rg : Nat) (tp : Nat) (r0 : Int32) (r1 : Int32) (r2 : Int32) (r3 : Int32) (r4 : Int32) (r5 : Int32) (r6 : Int32) (r7 : Int32) (r8 : Int32) (ft : Nat → Int32) (cr : Int32) (inn : Int32) (k1 : Nat → Int32) (k2 : Nat → Int32) (k3 : Nat → Int32) (k4 : Nat → Int32) (z : va_W) (k : pT) (n : Nat) (a : pS) (f : Nat → Int32) (hA : zRc k n ft r0 r1 r2 r3 r4 r5 r6 r7 a) (hw : a.2.1.toInt = 0) (hcl : pCl k a.1 = 1) (hz : bLand T rl cr inn k1 k2 k3 k4 z) (hI : zLI cr k1 k3) (hC : zLc cr inn k1 k2 k3 k4 r8 a f) : zMv l T yX7_readOther cX7_readOther 4 5 0 0 [.ref rd, .int 2] [[zO7 rd rl rdd rg r0 r1 tp r2 r3 r4 r5 r6 r7 r8], [zAr T 1 tp 600 ft], z] (fun bs => ∃ (u0 : Int32) (u1 : Int32) (u3 : Int32) (u4 : Int32) (u5 : Int32) (u6 : Int32) (u7 : Int32) (u8 : Int32) (z2 : va_W) (i2 : Int32) (j3 : Nat → Int32) (j4 : Nat → Int32), bs = [[zO7 rd rl rdd rg u0 u1 tp r2 u3 u4 u5 u6 u7 u8], [zAr T 1 tp 600 ft], z2] ∧ bLand T rl cr i2 k1 k2 j3 j4 z2 ∧ zLI cr k1 j3 ∧ zRc k n ft u0 u1 r2 u3 u4 u5 u6 u7 (pPW k 3 (pAdv k a) f).1 ∧ zLc cr i2 k1 k2 j3 j4 u8 (pPW k 3 (pAdv k a) f).1 (pPW k 3 (pAdv k a) f).2) := by
  refine zMv_of (own := RX7) (by decide) rfl (Nat.le_of_ble_eq_true rfl) ?_
  intro p e s m args below meth c A ls C hr hlocks hnm hAe G hl
  refine zHide (fun Q9 hQ9 => ?_)
  have hx := C.1
  have hb := C.2.1
  have hl : lv_has ls 4 [(0, .ref rd), (1, .int 2)] := hl
  have hok := zRc_ok hA
  obtain ⟨hA1, hA6, hA7, hA8, hA9, hAI, hAE⟩ := id hA
  have hka := hok a.1 hA1.2.2.2
  obtain ⟨t3, t4, t5, t6⟩ := hA7 hw
  have t4i : r4.toInt = (pCl k a.1 : Int) := by rw [t4]; exact nI_toInt (by omega)
  refine lv_aload_n hx hb dX7_readOther_0 rfl (lv_at hl 0 rfl) ?_
  refine z_Vv (bc := [[zO7 rd rl rdd rg r0 r1 tp r2 r3 r4 r5 r6 r7 r8], [zAr T 1 tp 600 ft]]) (br := [z]) (As := []) (rest := []) C G (c_f_nextToken l T rd rl rdd rg tp r0 r1 r2 r3 r4 r5 r6 r7 r8 ft (pEn k a.1) n k t3 hka.1.2.2 hA1.1 hA1.2.2.1 hA1.2.1) (kV_RX7_71 C.2.2.2.2 (Nat.le_of_ble_eq_true rfl) (Nat.le_of_ble_eq_true rfl)) [0, 1] [0, 0] rfl rfl (ci := 7) (qc := (RX7, TX7, 13)) rfl rfl (List.mem_flatten.mpr ⟨_, List.mem_of_getElem? (i := 0) rfl, List.mem_cons_self⟩) rfl rfl hl.1 dX7_readOther_1 (Nat.le_of_ble_eq_true rfl) (Nat.le_of_ble_eq_true rfl) (fun b1 H locs hw G => ?_)
  refine zEx4 hw ?_
  intro u3_1 u4_2 u5_3 u6_4
  refine zCu2 ?_
  intro hbs9 h_5
  clear hw
  subst hbs9
  have G : zS T A s.heap s [z, [zO7 rd rl rdd rg r0 r1 tp r2 u3_1 u4_2 u5_3 u6_4 r7 r8], [zAr T 1 tp 600 ft]] _ _ := G
  have hB := zRc_adv hA hw h_5
  refine lv_aload_n hx hb dX7_readOther_4 rfl (lv_at hl 0 rfl) ?_
  refine lv_bipush (v := 6) hx hb dX7_readOther_5 (by decide) ?_
  refine z_Vi (bc := [[zO7 rd rl rdd rg r0 r1 tp r2 u3_1 u4_2 u5_3 u6_4 r7 r8], [zAr T 1 tp 600 ft]]) (br := [z]) (As := [.int 6]) (rest := []) C G (c_f_readNumber l T rd rl rdd rg tp r0 r1 r2 u3_1 u4_2 u5_3 u6_4 r7 r8 ft k n (pAdv k a) 6 hB) (kV_RX7_120 C.2.2.2.2 (Nat.le_of_ble_eq_true rfl) (Nat.le_of_ble_eq_true rfl)) [1, 2] [1, 0] rfl rfl (ci := 7) (qc := (RX7, TX7, 13)) rfl rfl (List.mem_flatten.mpr ⟨_, List.mem_of_getElem? (i := 0) rfl, List.mem_cons_self⟩) rfl rfl hl.1 dX7_readOther_7 (Nat.le_of_ble_eq_true rfl) (Nat.le_of_ble_eq_true rfl) (fun r_17 b1 H locs hw G => ?_)
  refine zEx7 hw ?_
  intro u0_7 u1_8 u3_9 u4_10 u5_11 u6_12 u7_13
  refine zCu4 ?_
  intro hbs9 h_14 h_15 h_16
  clear hw
  subst hbs9
  have G : zS T A s.heap s [z, [zO7 rd rl rdd rg u0_7 u1_8 tp r2 u3_9 u4_10 u5_11 u6_12 u7_13 r8], [zAr T 1 tp 600 ft]] _ _ := G
  refine lv_istore_n (lv' := [(2, .int r_17), (0, .ref rd), (1, .int 2)]) hx hb dX7_readOther_10 rfl hl (by decide) rfl (fun ls hl => ?_)
  refine lv_aload_n hx hb dX7_readOther_11 rfl (lv_at hl 1 rfl) ?_
  refine lv_iload_n hx hb dX7_readOther_12 rfl (lv_at hl 0 rfl) ?_
  refine z_Vv (bc := [[zO7 rd rl rdd rg u0_7 u1_8 tp r2 u3_9 u4_10 u5_11 u6_12 u7_13 r8]]) (br := [z, [zAr T 1 tp 600 ft]]) (As := [.int r_17]) (rest := []) C G (c_f_tellOf l T rd rl rdd rg tp u0_7 u1_8 r2 u3_9 u4_10 u5_11 u6_12 u7_13 r8 r_17) (kV_RX7_126 C.2.2.2.2 (Nat.le_of_ble_eq_true rfl) (Nat.le_of_ble_eq_true rfl)) [1] [1] rfl rfl (ci := 7) (qc := (RX7, TX7, 13)) rfl rfl (List.mem_flatten.mpr ⟨_, List.mem_of_getElem? (i := 0) rfl, List.mem_cons_self⟩) rfl rfl hl.1 dX7_readOther_13 (Nat.le_of_ble_eq_true rfl) (Nat.le_of_ble_eq_true rfl) (fun b1 H locs hw G => ?_)
  refine zEx1 hw ?_
  intro u8_18
  refine zCu2 ?_
  intro hbs9 h_19
  clear hw
  subst hbs9
  have G : zS T A s.heap s [z, [zAr T 1 tp 600 ft], [zO7 rd rl rdd rg u0_7 u1_8 tp r2 u3_9 u4_10 u5_11 u6_12 u7_13 u8_18]] _ _ := G
  have hF : zRc k n ft u0_7 u1_8 r2 u3_9 u4_10 u5_11 u6_12 u7_13 (pCr k (pAdv k a)).2 := zRc_far h_15 _
  refine lv_iload_n hx hb dX7_readOther_16 rfl (lv_at hl 2 rfl) ?_
  refine lv_iconst (v := 3) hx hb dX7_readOther_17 (by decide) ?_
  refine lv_icmp_ne (tgt := 51) hx hb dX7_readOther_18 (by decide) (fun _ => ?_) (fun q => absurd q (by decide))
  refine lv_aload_n hx hb dX7_readOther_51 rfl (lv_at hl 1 rfl) ?_
  refine lv_iload_n hx hb dX7_readOther_52 rfl (lv_at hl 2 rfl) ?_
  refine lv_iconst (v := 1) hx hb dX7_readOther_53 (by decide) ?_
  refine lv_icmp_ne (tgt := 61) hx hb dX7_readOther_54 (by decide) (fun _ => ?_) (fun q => absurd q (by decide))
  refine lv_bipush (v := 9) hx hb dX7_readOther_61 (by decide) ?_
  refine z_Vi (bc := [[zO7 rd rl rdd rg u0_7 u1_8 tp r2 u3_9 u4_10 u5_11 u6_12 u7_13 u8_18], [zAr T 1 tp 600 ft]]) (br := [z]) (As := [.int 9]) (rest := []) C G (c_f_readNumber l T rd rl rdd rg tp u0_7 u1_8 r2 u3_9 u4_10 u5_11 u6_12 u7_13 u8_18 ft k n ((pCr k (pAdv k a)).2) 9 hF) (kV_RX7_120 C.2.2.2.2 (Nat.le_of_ble_eq_true rfl) (Nat.le_of_ble_eq_true rfl)) [2, 1] [1, 0] rfl rfl (ci := 7) (qc := (RX7, TX7, 13)) rfl rfl (List.mem_flatten.mpr ⟨_, List.mem_of_getElem? (i := 0) rfl, List.mem_cons_self⟩) rfl rfl hl.1 dX7_readOther_63 (Nat.le_of_ble_eq_true rfl) (Nat.le_of_ble_eq_true rfl) (fun r_31 b1 H locs hw G => ?_)
  refine zEx7 hw ?_
  intro u0_21 u1_22 u3_23 u4_24 u5_25 u6_26 u7_27
  refine zCu4 ?_
  intro hbs9 h_28 h_29 h_30
  clear hw
  subst hbs9
  have G : zS T A s.heap s [z, [zO7 rd rl rdd rg u0_21 u1_22 tp r2 u3_23 u4_24 u5_25 u6_26 u7_27 u8_18], [zAr T 1 tp 600 ft]] _ _ := G
  refine lv_istore_n (lv' := [(3, .int r_31), (2, .int r_17), (0, .ref rd), (1, .int 2)]) hx hb dX7_readOther_66 rfl hl (by decide) rfl (fun ls hl => ?_)
  refine lv_iload_n hx hb dX7_readOther_67 rfl (lv_at hl 1 rfl) ?_
  refine lv_if_lt (tgt := 77) hx hb dX7_readOther_68 (by decide) (fun c_32 => ?_) (fun c_32 => ?_)
  · have c_32n : r_17.toInt < (0 : Int) := (fa_lt _ _).mp c_32
    have G := G.sub (bs' := [[zO7 rd rl rdd rg u0_21 u1_22 tp r2 u3_23 u4_24 u5_25 u6_26 u7_27 u8_18], [zAr T 1 tp 600 ft], z]) [1, 2, 0] rfl
    exact z_back hQ9 (z_vret C hr hlocks G (Nat.le_of_ble_eq_true rfl) (Nat.le_of_ble_eq_true rfl) dX7_readOther_77 ⟨u0_21, u1_22, u3_23, u4_24, u5_25, u6_26, u7_27, u8_18, z, inn, k3, k4, rfl, hz, (by first | exact hI | exact zLI_post hI _ (by omega)), h_29, (by rw [h_19]; have hz := zLc_pw (d := 3) (by decide) (a := pAdv k a) hC hB.2.2.2.2.2.1 hF.2.2.2.2.2.1 h_16 h_30; rw [show (if 3 = 2 ∧ 0 ≤ r_17.toInt ∧ r_17.toInt < 7 then upd k3 r_17.toInt.toNat r_31 else k3) = k3 from if_neg (by omega), show (if 3 = 3 ∧ 0 ≤ r_17.toInt ∧ r_17.toInt < 7 then upd k4 r_17.toInt.toNat r_31 else k4) = k4 from if_neg (by omega)] at hz; exact hz)⟩)
  · have c_32n : ¬ r_17.toInt < (0 : Int) := fun q => c_32 ((fa_lt _ _).mpr q)
    refine lv_iload_n hx hb dX7_readOther_71 rfl (lv_at hl 1 rfl) ?_
    refine lv_bipush (v := 7) hx hb dX7_readOther_72 (by decide) ?_
    refine lv_icmp_lt (tgt := 78) hx hb dX7_readOther_74 (by decide) (fun c_33 => ?_) (fun c_33 => ?_)
    · have c_33n : r_17.toInt < (7 : Int) := (fa_lt _ _).mp c_33
      refine lv_iload_n hx hb dX7_readOther_78 rfl (lv_at hl 3 rfl) ?_
      refine lv_iconst (v := 1) hx hb dX7_readOther_79 (by decide) ?_
      refine lv_icmp_ne (tgt := 96) hx hb dX7_readOther_80 (by decide) (fun _ => ?_) (fun q => absurd q (by decide))
      refine lv_aload_n hx hb dX7_readOther_96 rfl (lv_at hl 2 rfl) ?_
      refine z_get C G clX7 1 rfl 0 (by decide) m_fl_RX7_12 rfl dX7_readOther_97 ?_
      refine zEx4 hz ?_
      intro a1_34 a2_35 a3_36 a4_37 hbs9
      clear hz
      subst hbs9
      have G : zS T A s.heap s [[zO4 rl cr inn a1_34 a2_35 a3_36 a4_37], [zAr T 0 a1_34 7 k1], [zAr T 0 a2_35 28 k2], [zAr T 0 a3_36 7 k3], [zAr T 0 a4_37 7 k4], [zO7 rd rl rdd rg u0_21 u1_22 tp r2 u3_23 u4_24 u5_25 u6_26 u7_27 u8_18], [zAr T 1 tp 600 ft]] _ _ := G.re rfl
      refine z_get C G clX4 0 rfl 5 (by decide) m_fl_RX7_132 rfl dX7_readOther_100 ?_
      refine lv_iload_n hx hb dX7_readOther_103 rfl (lv_at hl 1 rfl) ?_
      refine lv_iload_n hx hb dX7_readOther_104 rfl (lv_at hl 0 rfl) ?_
      refine z_ist C G 4 rfl (vp_in_iff.mpr ⟨by omega, by omega⟩) dX7_readOther_105 (fun H locs G => ?_)
      have G : zS T A s.heap s [[zO4 rl cr inn a1_34 a2_35 a3_36 a4_37], [zAr T 0 a1_34 7 k1], [zAr T 0 a2_35 28 k2], [zAr T 0 a3_36 7 k3], [zAr T 0 a4_37 7 (upd k4 r_17.toNatClampNeg r_31)], [zO7 rd rl rdd rg u0_21 u1_22 tp r2 u3_23 u4_24 u5_25 u6_26 u7_27 u8_18], [zAr T 1 tp 600 ft]] _ _ := G
      have hw_38 : bLand T rl cr inn k1 k2 k3 (upd k4 r_17.toNatClampNeg r_31) [zO4 rl cr inn a1_34 a2_35 a3_36 a4_37, zAr T 0 a1_34 7 k1, zAr T 0 a2_35 28 k2, zAr T 0 a3_36 7 k3, zAr T 0 a4_37 7 (upd k4 r_17.toNatClampNeg r_31)] := ⟨a1_34, a2_35, a3_36, a4_37, rfl⟩
      have G : zS T A s.heap s [[zO4 rl cr inn a1_34 a2_35 a3_36 a4_37, zAr T 0 a1_34 7 k1, zAr T 0 a2_35 28 k2, zAr T 0 a3_36 7 k3, zAr T 0 a4_37 7 (upd k4 r_17.toNatClampNeg r_31)], [zO7 rd rl rdd rg u0_21 u1_22 tp r2 u3_23 u4_24 u5_25 u6_26 u7_27 u8_18], [zAr T 1 tp 600 ft]] _ _ := G.re rfl
      have G := G.sub (bs' := [[zO7 rd rl rdd rg u0_21 u1_22 tp r2 u3_23 u4_24 u5_25 u6_26 u7_27 u8_18], [zAr T 1 tp 600 ft], [zO4 rl cr inn a1_34 a2_35 a3_36 a4_37, zAr T 0 a1_34 7 k1, zAr T 0 a2_35 28 k2, zAr T 0 a3_36 7 k3, zAr T 0 a4_37 7 (upd k4 r_17.toNatClampNeg r_31)]]) [1, 2, 0] rfl
      exact z_back hQ9 (z_vret C hr hlocks G (Nat.le_of_ble_eq_true rfl) (Nat.le_of_ble_eq_true rfl) dX7_readOther_106 ⟨u0_21, u1_22, u3_23, u4_24, u5_25, u6_26, u7_27, u8_18, ([zO4 rl cr inn a1_34 a2_35 a3_36 a4_37, zAr T 0 a1_34 7 k1, zAr T 0 a2_35 28 k2, zAr T 0 a3_36 7 k3, zAr T 0 a4_37 7 (upd k4 r_17.toNatClampNeg r_31)]), inn, k3, (upd k4 r_17.toNatClampNeg r_31), rfl, hw_38, (by first | exact hI | exact zLI_post hI _ (by omega)), h_29, (by rw [h_19]; have hz := zLc_pw (d := 3) (by decide) (a := pAdv k a) hC hB.2.2.2.2.2.1 hF.2.2.2.2.2.1 h_16 h_30; rw [show (if 3 = 2 ∧ 0 ≤ r_17.toInt ∧ r_17.toInt < 7 then upd k3 r_17.toInt.toNat r_31 else k3) = k3 from if_neg (by omega), show (if 3 = 3 ∧ 0 ≤ r_17.toInt ∧ r_17.toInt < 7 then upd k4 r_17.toInt.toNat r_31 else k4) = upd k4 r_17.toInt.toNat r_31 from if_pos (by omega)] at hz; exact hz)⟩)
    · have c_33n : ¬ r_17.toInt < (7 : Int) := fun q => c_33 ((fa_lt _ _).mpr q)
      have G := G.sub (bs' := [[zO7 rd rl rdd rg u0_21 u1_22 tp r2 u3_23 u4_24 u5_25 u6_26 u7_27 u8_18], [zAr T 1 tp 600 ft], z]) [1, 2, 0] rfl
      exact z_back hQ9 (z_vret C hr hlocks G (Nat.le_of_ble_eq_true rfl) (Nat.le_of_ble_eq_true rfl) dX7_readOther_77 ⟨u0_21, u1_22, u3_23, u4_24, u5_25, u6_26, u7_27, u8_18, z, inn, k3, k4, rfl, hz, (by first | exact hI | exact zLI_post hI _ (by omega)), h_29, (by rw [h_19]; have hz := zLc_pw (d := 3) (by decide) (a := pAdv k a) hC hB.2.2.2.2.2.1 hF.2.2.2.2.2.1 h_16 h_30; rw [show (if 3 = 2 ∧ 0 ≤ r_17.toInt ∧ r_17.toInt < 7 then upd k3 r_17.toInt.toNat r_31 else k3) = k3 from if_neg (by omega), show (if 3 = 3 ∧ 0 ≤ r_17.toInt ∧ r_17.toInt < 7 then upd k4 r_17.toInt.toNat r_31 else k4) = k4 from if_neg (by omega)] at hz; exact hz)⟩)
set_option maxHeartbeats 4000000 in
set_option maxRecDepth 100000 in
/-- c_f_readOther3 -/
theorem c_f_readOther3 (l : Launch) (T : zTy) (rd : Nat) (rl : Nat) (rdd : Nat) (rg : Nat) (tp : Nat) (r0 : Int32) (r1 : Int32) (r2 : Int32) (r3 : Int32) (r4 : Int32) (r5 : Int32) (r6 : Int32) (r7 : Int32) (r8 : Int32) (ft : Nat → Int32) (cr : Int32) (inn : Int32) (k1 : Nat → Int32) (k2 : Nat → Int32) (k3 : Nat → Int32) (k4 : Nat → Int32) (z : va_W) (k : pT) (n : Nat) (a : pS) (f : Nat → Int32) (hA : zRc k n ft r0 r1 r2 r3 r4 r5 r6 r7 a) (hw : a.2.1.toInt = 0) (hcl : pCl k a.1 = 1) (hz : bLand T rl cr inn k1 k2 k3 k4 z) (hI : zLI cr k1 k3) (hC : zLc cr inn k1 k2 k3 k4 r8 a f) : zMv l T yX7_readOther cX7_readOther 4 5 0 0 [.ref rd, .int 3] [[zO7 rd rl rdd rg r0 r1 tp r2 r3 r4 r5 r6 r7 r8], [zAr T 1 tp 600 ft], z] (fun bs => ∃ (u0 : Int32) (u1 : Int32) (u3 : Int32) (u4 : Int32) (u5 : Int32) (u6 : Int32) (u7 : Int32) (u8 : Int32) (z2 : va_W) (i2 : Int32) (j3 : Nat → Int32) (j4 : Nat → Int32), bs = [[zO7 rd rl rdd rg u0 u1 tp r2 u3 u4 u5 u6 u7 u8], [zAr T 1 tp 600 ft], z2] ∧ bLand T rl cr i2 k1 k2 j3 j4 z2 ∧ zLI cr k1 j3 ∧ zRc k n ft u0 u1 r2 u3 u4 u5 u6 u7 (pInn k (pAdv k a) f).1 ∧ zLc cr i2 k1 k2 j3 j4 u8 (pInn k (pAdv k a) f).1 (pInn k (pAdv k a) f).2) := by
  refine zMv_of (own := RX7) (by decide) rfl (Nat.le_of_ble_eq_true rfl) ?_
  intro p e s m args below meth c A ls C hr hlocks hnm hAe G hl
  refine zHide (fun Q9 hQ9 => ?_)
  have hx := C.1
  have hb := C.2.1
  have hl : lv_has ls 4 [(0, .ref rd), (1, .int 3)] := hl
  have hok := zRc_ok hA
  obtain ⟨hA1, hA6, hA7, hA8, hA9, hAI, hAE⟩ := id hA
  have hka := hok a.1 hA1.2.2.2
  obtain ⟨t3, t4, t5, t6⟩ := hA7 hw
  have t4i : r4.toInt = (pCl k a.1 : Int) := by rw [t4]; exact nI_toInt (by omega)
  refine lv_aload_n hx hb dX7_readOther_0 rfl (lv_at hl 0 rfl) ?_
  refine z_Vv (bc := [[zO7 rd rl rdd rg r0 r1 tp r2 r3 r4 r5 r6 r7 r8], [zAr T 1 tp 600 ft]]) (br := [z]) (As := []) (rest := []) C G (c_f_nextToken l T rd rl rdd rg tp r0 r1 r2 r3 r4 r5 r6 r7 r8 ft (pEn k a.1) n k t3 hka.1.2.2 hA1.1 hA1.2.2.1 hA1.2.1) (kV_RX7_71 C.2.2.2.2 (Nat.le_of_ble_eq_true rfl) (Nat.le_of_ble_eq_true rfl)) [0, 1] [0, 0] rfl rfl (ci := 7) (qc := (RX7, TX7, 13)) rfl rfl (List.mem_flatten.mpr ⟨_, List.mem_of_getElem? (i := 0) rfl, List.mem_cons_self⟩) rfl rfl hl.1 dX7_readOther_1 (Nat.le_of_ble_eq_true rfl) (Nat.le_of_ble_eq_true rfl) (fun b1 H locs hw G => ?_)
  refine zEx4 hw ?_
  intro u3_1 u4_2 u5_3 u6_4
  refine zCu2 ?_
  intro hbs9 h_5
  clear hw
  subst hbs9
  have G : zS T A s.heap s [z, [zO7 rd rl rdd rg r0 r1 tp r2 u3_1 u4_2 u5_3 u6_4 r7 r8], [zAr T 1 tp 600 ft]] _ _ := G
  have hB := zRc_adv hA hw h_5
  refine lv_aload_n hx hb dX7_readOther_4 rfl (lv_at hl 0 rfl) ?_
  refine lv_bipush (v := 6) hx hb dX7_readOther_5 (by decide) ?_
  refine z_Vi (bc := [[zO7 rd rl rdd rg r0 r1 tp r2 u3_1 u4_2 u5_3 u6_4 r7 r8], [zAr T 1 tp 600 ft]]) (br := [z]) (As := [.int 6]) (rest := []) C G (c_f_readNumber l T rd rl rdd rg tp r0 r1 r2 u3_1 u4_2 u5_3 u6_4 r7 r8 ft k n (pAdv k a) 6 hB) (kV_RX7_120 C.2.2.2.2 (Nat.le_of_ble_eq_true rfl) (Nat.le_of_ble_eq_true rfl)) [1, 2] [1, 0] rfl rfl (ci := 7) (qc := (RX7, TX7, 13)) rfl rfl (List.mem_flatten.mpr ⟨_, List.mem_of_getElem? (i := 0) rfl, List.mem_cons_self⟩) rfl rfl hl.1 dX7_readOther_7 (Nat.le_of_ble_eq_true rfl) (Nat.le_of_ble_eq_true rfl) (fun r_17 b1 H locs hw G => ?_)
  refine zEx7 hw ?_
  intro u0_7 u1_8 u3_9 u4_10 u5_11 u6_12 u7_13
  refine zCu4 ?_
  intro hbs9 h_14 h_15 h_16
  clear hw
  subst hbs9
  have G : zS T A s.heap s [z, [zO7 rd rl rdd rg u0_7 u1_8 tp r2 u3_9 u4_10 u5_11 u6_12 u7_13 r8], [zAr T 1 tp 600 ft]] _ _ := G
  refine lv_istore_n (lv' := [(2, .int r_17), (0, .ref rd), (1, .int 3)]) hx hb dX7_readOther_10 rfl hl (by decide) rfl (fun ls hl => ?_)
  refine lv_aload_n hx hb dX7_readOther_11 rfl (lv_at hl 1 rfl) ?_
  refine lv_iload_n hx hb dX7_readOther_12 rfl (lv_at hl 0 rfl) ?_
  refine z_Vv (bc := [[zO7 rd rl rdd rg u0_7 u1_8 tp r2 u3_9 u4_10 u5_11 u6_12 u7_13 r8]]) (br := [z, [zAr T 1 tp 600 ft]]) (As := [.int r_17]) (rest := []) C G (c_f_tellOf l T rd rl rdd rg tp u0_7 u1_8 r2 u3_9 u4_10 u5_11 u6_12 u7_13 r8 r_17) (kV_RX7_126 C.2.2.2.2 (Nat.le_of_ble_eq_true rfl) (Nat.le_of_ble_eq_true rfl)) [1] [1] rfl rfl (ci := 7) (qc := (RX7, TX7, 13)) rfl rfl (List.mem_flatten.mpr ⟨_, List.mem_of_getElem? (i := 0) rfl, List.mem_cons_self⟩) rfl rfl hl.1 dX7_readOther_13 (Nat.le_of_ble_eq_true rfl) (Nat.le_of_ble_eq_true rfl) (fun b1 H locs hw G => ?_)
  refine zEx1 hw ?_
  intro u8_18
  refine zCu2 ?_
  intro hbs9 h_19
  clear hw
  subst hbs9
  have G : zS T A s.heap s [z, [zAr T 1 tp 600 ft], [zO7 rd rl rdd rg u0_7 u1_8 tp r2 u3_9 u4_10 u5_11 u6_12 u7_13 u8_18]] _ _ := G
  have hF : zRc k n ft u0_7 u1_8 r2 u3_9 u4_10 u5_11 u6_12 u7_13 (pCr k (pAdv k a)).2 := zRc_far h_15 _
  refine lv_iload_n hx hb dX7_readOther_16 rfl (lv_at hl 2 rfl) ?_
  refine lv_iconst (v := 3) hx hb dX7_readOther_17 (by decide) ?_
  refine lv_icmp_ne (tgt := 51) hx hb dX7_readOther_18 (by decide) (fun q => absurd (by decide) q) (fun _ => ?_)
  refine lv_aload_n hx hb dX7_readOther_21 rfl (lv_at hl 1 rfl) ?_
  refine z_get C G clX7 2 rfl 0 (by decide) m_fl_RX7_12 rfl dX7_readOther_22 ?_
  refine lv_dup hx hb dX7_readOther_25 rfl ?_
  refine zEx4 hz ?_
  intro a1_21 a2_22 a3_23 a4_24 hbs9
  clear hz
  subst hbs9
  have G : zS T A s.heap s [[zO4 rl cr inn a1_21 a2_22 a3_23 a4_24], [zAr T 0 a1_21 7 k1], [zAr T 0 a2_22 28 k2], [zAr T 0 a3_23 7 k3], [zAr T 0 a4_24 7 k4], [zAr T 1 tp 600 ft], [zO7 rd rl rdd rg u0_7 u1_8 tp r2 u3_9 u4_10 u5_11 u6_12 u7_13 u8_18]] _ _ := G.re rfl
  refine z_get C G clX4 0 rfl 1 (by decide) m_fl_RX7_129 rfl dX7_readOther_26 ?_
  refine lv_iload_n hx hb dX7_readOther_29 rfl (lv_at hl 0 rfl) ?_
  refine lv_if_lt (tgt := 45) hx hb dX7_readOther_30 (by decide) (fun c_25 => ?_) (fun c_25 => ?_)
  · have c_25n : r_17.toInt < (0 : Int) := (fa_lt _ _).mp c_25
    refine lv_iconst (v := 0) hx hb dX7_readOther_45 (by decide) ?_
    refine lv_ior hx hb dX7_readOther_46 ?_
    refine z_put C G clX4 0 rfl 1 (by decide) m_fl_RX7_129 rfl rfl rfl (Nat.le_of_ble_eq_true rfl) dX7_readOther_47 (fun H locs G => ?_)
    have G : zS T A s.heap s [[zO4 rl cr (inn ||| 0) a1_21 a2_22 a3_23 a4_24], [zAr T 0 a1_21 7 k1], [zAr T 0 a2_22 28 k2], [zAr T 0 a3_23 7 k3], [zAr T 0 a4_24 7 k4], [zAr T 1 tp 600 ft], [zO7 rd rl rdd rg u0_7 u1_8 tp r2 u3_9 u4_10 u5_11 u6_12 u7_13 u8_18]] _ _ := G
    have hw_26 : bLand T rl cr (inn ||| 0) k1 k2 k3 k4 [zO4 rl cr (inn ||| 0) a1_21 a2_22 a3_23 a4_24, zAr T 0 a1_21 7 k1, zAr T 0 a2_22 28 k2, zAr T 0 a3_23 7 k3, zAr T 0 a4_24 7 k4] := ⟨a1_21, a2_22, a3_23, a4_24, rfl⟩
    have G : zS T A s.heap s [[zO4 rl cr (inn ||| 0) a1_21 a2_22 a3_23 a4_24, zAr T 0 a1_21 7 k1, zAr T 0 a2_22 28 k2, zAr T 0 a3_23 7 k3, zAr T 0 a4_24 7 k4], [zAr T 1 tp 600 ft], [zO7 rd rl rdd rg u0_7 u1_8 tp r2 u3_9 u4_10 u5_11 u6_12 u7_13 u8_18]] _ _ := G.re rfl
    have G := G.sub (bs' := [[zO7 rd rl rdd rg u0_7 u1_8 tp r2 u3_9 u4_10 u5_11 u6_12 u7_13 u8_18], [zAr T 1 tp 600 ft], [zO4 rl cr (inn ||| 0) a1_21 a2_22 a3_23 a4_24, zAr T 0 a1_21 7 k1, zAr T 0 a2_22 28 k2, zAr T 0 a3_23 7 k3, zAr T 0 a4_24 7 k4]]) [2, 1, 0] rfl
    exact z_back hQ9 (z_vret C hr hlocks G (Nat.le_of_ble_eq_true rfl) (Nat.le_of_ble_eq_true rfl) dX7_readOther_50 ⟨u0_7, u1_8, u3_9, u4_10, u5_11, u6_12, u7_13, u8_18, ([zO4 rl cr (inn ||| 0) a1_21 a2_22 a3_23 a4_24, zAr T 0 a1_21 7 k1, zAr T 0 a2_22 28 k2, zAr T 0 a3_23 7 k3, zAr T 0 a4_24 7 k4]), (inn ||| 0), k3, k4, rfl, hw_26, hI, hF, (by rw [h_19]; have hz := zLc_inn (a := pAdv k a) hC hB.2.2.2.2.2.1 h_16; rw [show (if 0 ≤ r_17.toInt ∧ r_17.toInt < 7 then (1 : Int32) <<< (r_17 &&& 31) else (0 : Int32)) = (0 : Int32) from if_neg (by omega)] at hz; exact hz)⟩)
  · have c_25n : ¬ r_17.toInt < (0 : Int) := fun q => c_25 ((fa_lt _ _).mpr q)
    refine lv_iload_n hx hb dX7_readOther_33 rfl (lv_at hl 0 rfl) ?_
    refine lv_bipush (v := 7) hx hb dX7_readOther_34 (by decide) ?_
    refine lv_icmp_ge (tgt := 45) hx hb dX7_readOther_36 (by decide) (fun c_27 => ?_) (fun c_27 => ?_)
    · have c_27n : (7 : Int) ≤ r_17.toInt := (fa_le _ _).mp c_27
      refine lv_iconst (v := 0) hx hb dX7_readOther_45 (by decide) ?_
      refine lv_ior hx hb dX7_readOther_46 ?_
      refine z_put C G clX4 0 rfl 1 (by decide) m_fl_RX7_129 rfl rfl rfl (Nat.le_of_ble_eq_true rfl) dX7_readOther_47 (fun H locs G => ?_)
      have G : zS T A s.heap s [[zO4 rl cr (inn ||| 0) a1_21 a2_22 a3_23 a4_24], [zAr T 0 a1_21 7 k1], [zAr T 0 a2_22 28 k2], [zAr T 0 a3_23 7 k3], [zAr T 0 a4_24 7 k4], [zAr T 1 tp 600 ft], [zO7 rd rl rdd rg u0_7 u1_8 tp r2 u3_9 u4_10 u5_11 u6_12 u7_13 u8_18]] _ _ := G
      have hw_28 : bLand T rl cr (inn ||| 0) k1 k2 k3 k4 [zO4 rl cr (inn ||| 0) a1_21 a2_22 a3_23 a4_24, zAr T 0 a1_21 7 k1, zAr T 0 a2_22 28 k2, zAr T 0 a3_23 7 k3, zAr T 0 a4_24 7 k4] := ⟨a1_21, a2_22, a3_23, a4_24, rfl⟩
      have G : zS T A s.heap s [[zO4 rl cr (inn ||| 0) a1_21 a2_22 a3_23 a4_24, zAr T 0 a1_21 7 k1, zAr T 0 a2_22 28 k2, zAr T 0 a3_23 7 k3, zAr T 0 a4_24 7 k4], [zAr T 1 tp 600 ft], [zO7 rd rl rdd rg u0_7 u1_8 tp r2 u3_9 u4_10 u5_11 u6_12 u7_13 u8_18]] _ _ := G.re rfl
      have G := G.sub (bs' := [[zO7 rd rl rdd rg u0_7 u1_8 tp r2 u3_9 u4_10 u5_11 u6_12 u7_13 u8_18], [zAr T 1 tp 600 ft], [zO4 rl cr (inn ||| 0) a1_21 a2_22 a3_23 a4_24, zAr T 0 a1_21 7 k1, zAr T 0 a2_22 28 k2, zAr T 0 a3_23 7 k3, zAr T 0 a4_24 7 k4]]) [2, 1, 0] rfl
      exact z_back hQ9 (z_vret C hr hlocks G (Nat.le_of_ble_eq_true rfl) (Nat.le_of_ble_eq_true rfl) dX7_readOther_50 ⟨u0_7, u1_8, u3_9, u4_10, u5_11, u6_12, u7_13, u8_18, ([zO4 rl cr (inn ||| 0) a1_21 a2_22 a3_23 a4_24, zAr T 0 a1_21 7 k1, zAr T 0 a2_22 28 k2, zAr T 0 a3_23 7 k3, zAr T 0 a4_24 7 k4]), (inn ||| 0), k3, k4, rfl, hw_28, hI, hF, (by rw [h_19]; have hz := zLc_inn (a := pAdv k a) hC hB.2.2.2.2.2.1 h_16; rw [show (if 0 ≤ r_17.toInt ∧ r_17.toInt < 7 then (1 : Int32) <<< (r_17 &&& 31) else (0 : Int32)) = (0 : Int32) from if_neg (by omega)] at hz; exact hz)⟩)
    · have c_27n : ¬ (7 : Int) ≤ r_17.toInt := fun q => c_27 ((fa_le _ _).mpr q)
      refine lv_iconst (v := 1) hx hb dX7_readOther_39 (by decide) ?_
      refine lv_iload_n hx hb dX7_readOther_40 rfl (lv_at hl 0 rfl) ?_
      refine lv_ishl hx hb dX7_readOther_41 ?_
      refine lv_goto (tgt := 46) hx hb dX7_readOther_42 (by decide) ?_
      refine lv_ior hx hb dX7_readOther_46 ?_
      refine z_put C G clX4 0 rfl 1 (by decide) m_fl_RX7_129 rfl rfl rfl (Nat.le_of_ble_eq_true rfl) dX7_readOther_47 (fun H locs G => ?_)
      have G : zS T A s.heap s [[zO4 rl cr (inn ||| (1 <<< (r_17 &&& 31))) a1_21 a2_22 a3_23 a4_24], [zAr T 0 a1_21 7 k1], [zAr T 0 a2_22 28 k2], [zAr T 0 a3_23 7 k3], [zAr T 0 a4_24 7 k4], [zAr T 1 tp 600 ft], [zO7 rd rl rdd rg u0_7 u1_8 tp r2 u3_9 u4_10 u5_11 u6_12 u7_13 u8_18]] _ _ := G
      have hw_29 : bLand T rl cr (inn ||| (1 <<< (r_17 &&& 31))) k1 k2 k3 k4 [zO4 rl cr (inn ||| (1 <<< (r_17 &&& 31))) a1_21 a2_22 a3_23 a4_24, zAr T 0 a1_21 7 k1, zAr T 0 a2_22 28 k2, zAr T 0 a3_23 7 k3, zAr T 0 a4_24 7 k4] := ⟨a1_21, a2_22, a3_23, a4_24, rfl⟩
      have G : zS T A s.heap s [[zO4 rl cr (inn ||| (1 <<< (r_17 &&& 31))) a1_21 a2_22 a3_23 a4_24, zAr T 0 a1_21 7 k1, zAr T 0 a2_22 28 k2, zAr T 0 a3_23 7 k3, zAr T 0 a4_24 7 k4], [zAr T 1 tp 600 ft], [zO7 rd rl rdd rg u0_7 u1_8 tp r2 u3_9 u4_10 u5_11 u6_12 u7_13 u8_18]] _ _ := G.re rfl
      have G := G.sub (bs' := [[zO7 rd rl rdd rg u0_7 u1_8 tp r2 u3_9 u4_10 u5_11 u6_12 u7_13 u8_18], [zAr T 1 tp 600 ft], [zO4 rl cr (inn ||| (1 <<< (r_17 &&& 31))) a1_21 a2_22 a3_23 a4_24, zAr T 0 a1_21 7 k1, zAr T 0 a2_22 28 k2, zAr T 0 a3_23 7 k3, zAr T 0 a4_24 7 k4]]) [2, 1, 0] rfl
      exact z_back hQ9 (z_vret C hr hlocks G (Nat.le_of_ble_eq_true rfl) (Nat.le_of_ble_eq_true rfl) dX7_readOther_50 ⟨u0_7, u1_8, u3_9, u4_10, u5_11, u6_12, u7_13, u8_18, ([zO4 rl cr (inn ||| (1 <<< (r_17 &&& 31))) a1_21 a2_22 a3_23 a4_24, zAr T 0 a1_21 7 k1, zAr T 0 a2_22 28 k2, zAr T 0 a3_23 7 k3, zAr T 0 a4_24 7 k4]), (inn ||| (1 <<< (r_17 &&& 31))), k3, k4, rfl, hw_29, hI, hF, (by rw [h_19]; have hz := zLc_inn (a := pAdv k a) hC hB.2.2.2.2.2.1 h_16; rw [show (if 0 ≤ r_17.toInt ∧ r_17.toInt < 7 then (1 : Int32) <<< (r_17 &&& 31) else (0 : Int32)) = (1 : Int32) <<< (r_17 &&& 31) from if_pos (by omega)] at hz; exact hz)⟩)
set_option maxHeartbeats 4000000 in
set_option maxRecDepth 100000 in
/-- c_f_readCrossing -/
theorem c_f_readCrossing (l : Launch) (T : zTy) (rd : Nat) (rl : Nat) (rdd : Nat) (rg : Nat) (tp : Nat) (r0 : Int32) (r1 : Int32) (r2 : Int32) (r3 : Int32) (r4 : Int32) (r5 : Int32) (r6 : Int32) (r7 : Int32) (r8 : Int32) (ft : Nat → Int32) (cr : Int32) (inn : Int32) (k1 : Nat → Int32) (k2 : Nat → Int32) (k3 : Nat → Int32) (k4 : Nat → Int32) (z : va_W) (k : pT) (n : Nat) (a : pS) (f : Nat → Int32) (hA : zRc k n ft r0 r1 r2 r3 r4 r5 r6 r7 a) (hw : a.2.1.toInt = 0) (hcl : pCl k a.1 = 1) (hz : bLand T rl cr inn k1 k2 k3 k4 z) (hI : zLI cr k1 k3) (hC : zLc cr inn k1 k2 k3 k4 r8 a f) : zMv l T yX7_readCrossing cX7_readCrossing 6 5 0 0 [.ref rd] [[zO7 rd rl rdd rg r0 r1 tp r2 r3 r4 r5 r6 r7 r8], [zAr T 1 tp 600 ft], z] (fun bs => ∃ (u0 : Int32) (u1 : Int32) (u3 : Int32) (u4 : Int32) (u5 : Int32) (u6 : Int32) (u7 : Int32) (u8 : Int32) (z2 : va_W) (c2 : Int32) (j1 : Nat → Int32) (j2 : Nat → Int32), bs = [[zO7 rd rl rdd rg u0 u1 tp r2 u3 u4 u5 u6 u7 u8], [zAr T 1 tp 600 ft], z2] ∧ bLand T rl c2 inn j1 j2 k3 k4 z2 ∧ zLI c2 j1 k3 ∧ zRc k n ft u0 u1 r2 u3 u4 u5 u6 u7 (pCross k (nI (pWh k a.1)) (pAdv k a) f).1 ∧ zLc c2 inn j1 j2 k3 k4 u8 (pCross k (nI (pWh k a.1)) (pAdv k a) f).1 (pCross k (nI (pWh k a.1)) (pAdv k a) f).2) := by
  refine zMv_of (own := RX7) (by decide) rfl (Nat.le_of_ble_eq_true rfl) ?_
  intro p e s m args below meth c A ls C hr hlocks hnm hAe G hl
  refine zHide (fun Q9 hQ9 => ?_)
  have hx := C.1
  have hb := C.2.1
  have hl : lv_has ls 6 [(0, .ref rd)] := hl
  have hok := zRc_ok hA
  obtain ⟨hA1, hA6, hA7, hA8, hA9, hAI, hAE⟩ := id hA
  have hka := hok a.1 hA1.2.2.2
  obtain ⟨t3, t4, t5, t6⟩ := hA7 hw
  have t4i : r4.toInt = (pCl k a.1 : Int) := by rw [t4]; exact nI_toInt (by omega)
  have hcr := hI.1
  have hcn : ¬ pCl k a.1 = 0 := by omega
  have hdd := fun q => (hC q).1
  refine lv_aload_n hx hb dX7_readCrossing_0 rfl (lv_at hl 0 rfl) ?_
  refine z_get C G clX7 0 rfl 0 (by decide) m_fl_RX7_12 rfl dX7_readCrossing_1 ?_
  refine zEx4 hz ?_
  intro a1_1 a2_2 a3_3 a4_4 hbs9
  clear hz
  subst hbs9
  have G : zS T A s.heap s [[zO7 rd rl rdd rg r0 r1 tp r2 r3 r4 r5 r6 r7 r8], [zAr T 1 tp 600 ft], [zO4 rl cr inn a1_1 a2_2 a3_3 a4_4], [zAr T 0 a1_1 7 k1], [zAr T 0 a2_2 28 k2], [zAr T 0 a3_3 7 k3], [zAr T 0 a4_4 7 k4]] _ _ := G.re rfl
  refine z_get C G clX4 2 rfl 0 (by decide) m_fl_RX7_87 rfl dX7_readCrossing_4 ?_
  refine lv_istore_n (lv' := [(1, .int cr), (0, .ref rd)]) hx hb dX7_readCrossing_7 rfl hl (by decide) rfl (fun ls hl => ?_)
  refine lv_iload_n hx hb dX7_readCrossing_8 rfl (lv_at hl 0 rfl) ?_
  refine lv_bipush (v := 7) hx hb dX7_readCrossing_9 (by decide) ?_
  refine lv_icmp_lt (tgt := 26) hx hb dX7_readCrossing_11 (by decide) (fun c_5 => ?_) (fun c_5 => ?_)
  · have c_5n : cr.toInt < (7 : Int) := (fa_lt _ _).mp c_5
    refine lv_aload_n hx hb dX7_readCrossing_26 rfl (lv_at hl 1 rfl) ?_
    refine z_get C G clX7 0 rfl 0 (by decide) m_fl_RX7_12 rfl dX7_readCrossing_27 ?_
    refine lv_dup hx hb dX7_readCrossing_30 rfl ?_
    refine z_get C G clX4 2 rfl 0 (by decide) m_fl_RX7_87 rfl dX7_readCrossing_31 ?_
    refine lv_iconst (v := 1) hx hb dX7_readCrossing_34 (by decide) ?_
    refine lv_iadd hx hb dX7_readCrossing_35 ?_
    refine lv_topi (fun y_6 ey_6 => ?_)
    have ey_6i : y_6.toInt = cr.toInt + (1 : Int) := by rw [ey_6]; exact z_iaddI (x := cr) (y := (1 : Int32)) (by show -2147483648 ≤ cr.toInt + (1 : Int); omega) (by show cr.toInt + (1 : Int) < 2147483648; omega)
    refine z_put C G clX4 2 rfl 0 (by decide) m_fl_RX7_87 rfl rfl rfl (Nat.le_of_ble_eq_true rfl) dX7_readCrossing_36 (fun H locs G => ?_)
    have G : zS T A s.heap s [[zO7 rd rl rdd rg r0 r1 tp r2 r3 r4 r5 r6 r7 r8], [zAr T 1 tp 600 ft], [zO4 rl y_6 inn a1_1 a2_2 a3_3 a4_4], [zAr T 0 a1_1 7 k1], [zAr T 0 a2_2 28 k2], [zAr T 0 a3_3 7 k3], [zAr T 0 a4_4 7 k4]] _ _ := G
    refine lv_aload_n hx hb dX7_readCrossing_39 rfl (lv_at hl 1 rfl) ?_
    refine z_Vv (bc := [[zO7 rd rl rdd rg r0 r1 tp r2 r3 r4 r5 r6 r7 r8], [zAr T 1 tp 600 ft]]) (br := [[zO4 rl y_6 inn a1_1 a2_2 a3_3 a4_4], [zAr T 0 a1_1 7 k1], [zAr T 0 a2_2 28 k2], [zAr T 0 a3_3 7 k3], [zAr T 0 a4_4 7 k4]]) (As := []) (rest := []) C G (c_f_nextToken l T rd rl rdd rg tp r0 r1 r2 r3 r4 r5 r6 r7 r8 ft (pEn k a.1) n k t3 hka.1.2.2 hA1.1 hA1.2.2.1 hA1.2.1) (kV_RX7_71 C.2.2.2.2 (Nat.le_of_ble_eq_true rfl) (Nat.le_of_ble_eq_true rfl)) [0, 1] [0, 0] rfl rfl (ci := 7) (qc := (RX7, TX7, 13)) rfl rfl (List.mem_flatten.mpr ⟨_, List.mem_of_getElem? (i := 0) rfl, List.mem_cons_self⟩) rfl rfl hl.1 dX7_readCrossing_40 (Nat.le_of_ble_eq_true rfl) (Nat.le_of_ble_eq_true rfl) (fun b1 H locs hw G => ?_)
    refine zEx4 hw ?_
    intro u3_7 u4_8 u5_9 u6_10
    refine zCu2 ?_
    intro hbs9 h_11
    clear hw
    subst hbs9
    have G : zS T A s.heap s [[zO4 rl y_6 inn a1_1 a2_2 a3_3 a4_4], [zAr T 0 a1_1 7 k1], [zAr T 0 a2_2 28 k2], [zAr T 0 a3_3 7 k3], [zAr T 0 a4_4 7 k4], [zO7 rd rl rdd rg r0 r1 tp r2 u3_7 u4_8 u5_9 u6_10 r7 r8], [zAr T 1 tp 600 ft]] _ _ := G
    have hB := zRc_d0 (m := 7) hA hw hdd (by omega) h_11
    obtain ⟨b, hbq⟩ : ∃ b, b = pDB 7 (nI (pWh k a.1)) f (pAdv k a) := ⟨_, rfl⟩
    rw [← hbq] at hB
    have hwb : b.2.1.toInt = 0 := by rw [hbq, pDB_fa.2]; exact hw
    have hIa : zLI y_6 k1 k3 := zLI_cr hI (by have q := hI.1; omega)
    have hL0 : zLr cr y_6 inn k1 k2 k3 k4 r8 0 b f := by rw [hbq]; exact zLr_in (k := k) (a := pAdv k a) hC hw (fun _ => ey_6)
    refine lv_iconst (v := 0) hx hb dX7_readCrossing_43 (by decide) ?_
    refine lv_istore_n (lv' := [(2, .int 0), (1, .int cr), (0, .ref rd)]) hx hb dX7_readCrossing_44 rfl hl (by decide) rfl (fun ls hl => ?_)
    refine lv_iconst (v := 0) hx hb dX7_readCrossing_45 (by decide) ?_
    refine lv_istore_n (lv' := [(3, .int 0), (2, .int 0), (1, .int cr), (0, .ref rd)]) hx hb dX7_readCrossing_46 rfl hl (by decide) rfl (fun ls hl => ?_)
    have hw_13 : bLand T rl y_6 inn k1 k2 k3 k4 [zO4 rl y_6 inn a1_1 a2_2 a3_3 a4_4, zAr T 0 a1_1 7 k1, zAr T 0 a2_2 28 k2, zAr T 0 a3_3 7 k3, zAr T 0 a4_4 7 k4] := ⟨a1_1, a2_2, a3_3, a4_4, rfl⟩
    have G : zS T A s.heap s [[zO4 rl y_6 inn a1_1 a2_2 a3_3 a4_4, zAr T 0 a1_1 7 k1, zAr T 0 a2_2 28 k2, zAr T 0 a3_3 7 k3, zAr T 0 a4_4 7 k4], [zO7 rd rl rdd rg r0 r1 tp r2 u3_7 u4_8 u5_9 u6_10 r7 r8], [zAr T 1 tp 600 ft]] _ _ := G.re rfl
    refine z_lp14 (T := T) 47 (fun (j : Nat) (A9 : pS) (fr : Nat → Int32) (y0 : Int32) (y1 : Int32) (y3 : Int32) (y4 : Int32) (y5 : Int32) (y6 : Int32) (y7 : Int32) (y8 : Int32) (z3 : va_W) (x1 : Nat → Int32) (x2 : Nat → Int32) => [z3, [zO7 rd rl rdd rg y0 y1 tp r2 y3 y4 y5 y6 y7 y8], [zAr T 1 tp 600 ft]]) (fun (j : Nat) (A9 : pS) (fr : Nat → Int32) (y0 : Int32) (y1 : Int32) (y3 : Int32) (y4 : Int32) (y5 : Int32) (y6 : Int32) (y7 : Int32) (y8 : Int32) (z3 : va_W) (x1 : Nat → Int32) (x2 : Nat → Int32) => [(3, .int (nI j)), (2, .int (nI j)), (1, .int cr), (0, .ref rd)]) (fun (j : Nat) (A9 : pS) (fr : Nat → Int32) (y0 : Int32) (y1 : Int32) (y3 : Int32) (y4 : Int32) (y5 : Int32) (y6 : Int32) (y7 : Int32) (y8 : Int32) (z3 : va_W) (x1 : Nat → Int32) (x2 : Nat → Int32) => bLand T rl y_6 inn x1 x2 k3 k4 z3 ∧ j ≤ 601 ∧ zRc k n ft y0 y1 r2 y3 y4 y5 y6 y7 A9 ∧ A9.2.1.toInt = 0 ∧ j ≤ A9.1 ∧ pRoads k (601 - j) (min j 4) A9 fr = pRoads k 601 0 b f ∧ fr 0 = f 0 ∧ zLr cr y_6 inn x1 x2 k3 k4 y8 (min j 4) A9 fr ∧ zLI y_6 x1 k3) (fun (j : Nat) (A9 : pS) (fr : Nat → Int32) (y0 : Int32) (y1 : Int32) (y3 : Int32) (y4 : Int32) (y5 : Int32) (y6 : Int32) (y7 : Int32) (y8 : Int32) (z3 : va_W) (x1 : Nat → Int32) (x2 : Nat → Int32) => 601 - j) ?_ 0 b f r0 r1 u3_7 u4_8 u5_9 u6_10 r7 r8 ([zO4 rl y_6 inn a1_1 a2_2 a3_3 a4_4, zAr T 0 a1_1 7 k1, zAr T 0 a2_2 28 k2, zAr T 0 a3_3 7 k3, zAr T 0 a4_4 7 k4]) k1 k2 (show bLand T rl y_6 inn k1 k2 k3 k4 ([zO4 rl y_6 inn a1_1 a2_2 a3_3 a4_4, zAr T 0 a1_1 7 k1, zAr T 0 a2_2 28 k2, zAr T 0 a3_3 7 k3, zAr T 0 a4_4 7 k4]) ∧ 0 ≤ 601 ∧ zRc k n ft r0 r1 r2 u3_7 u4_8 u5_9 u6_10 r7 b ∧ b.2.1.toInt = 0 ∧ 0 ≤ b.1 ∧ pRoads k (601 - 0) (min 0 4) b f = pRoads k 601 0 b f ∧ f 0 = f 0 ∧ zLr cr y_6 inn k1 k2 k3 k4 r8 (min 0 4) b f ∧ zLI y_6 k1 k3 from ⟨hw_13, by omega, hB, hwb, (Nat.zero_le _), rfl, rfl, hL0, hIa⟩) G (lv_sub hl [0, 1, 2, 3] rfl)
    intro j A9 fr y0 y1 y3 y4 y5 y6 y7 y8 z3 x1 x2 hI9 ih_47 H locs ls G hl
    replace hI9 : bLand T rl y_6 inn x1 x2 k3 k4 z3 ∧ j ≤ 601 ∧ zRc k n ft y0 y1 r2 y3 y4 y5 y6 y7 A9 ∧ A9.2.1.toInt = 0 ∧ j ≤ A9.1 ∧ pRoads k (601 - j) (min j 4) A9 fr = pRoads k 601 0 b f ∧ fr 0 = f 0 ∧ zLr cr y_6 inn x1 x2 k3 k4 y8 (min j 4) A9 fr ∧ zLI y_6 x1 k3 := hI9
    refine zAn9 hI9 ?_
    intro hz3 hj hBA hwA hpj hEq hf0 hLr hI2
    clear hI9
    replace G : zS T A s.heap s [z3, [zO7 rd rl rdd rg y0 y1 tp r2 y3 y4 y5 y6 y7 y8], [zAr T 1 tp 600 ft]] _ _ := G
    replace hl : lv_has ls 6 [(3, .int (nI j)), (2, .int (nI j)), (1, .int cr), (0, .ref rd)] := hl
    refine lv_iload_n hx hb dX7_readCrossing_47 rfl (lv_at hl 0 rfl) ?_
    have hokA := zRc_ok hBA
    obtain ⟨hA1A, hA6A, hA7A, hA8A, hA9A, hAIA, hAEA⟩ := id hBA
    have hkaA := hokA A9.1 hA1A.2.2.2
    obtain ⟨t3A, t4A, t5A, t6A⟩ := hA7A hwA
    have t4iA : y4.toInt = (pCl k A9.1 : Int) := by rw [t4A]; exact nI_toInt (by omega)
    have hjn : j ≤ n := Nat.le_trans hpj hA1A.2.2.2
    have hn6 := hA1A.2.1
    refine lv_sipush (v := 600) hx hb dX7_readCrossing_48 (by decide) ?_
    refine lv_icmp_gt (tgt := 113) hx hb dX7_readCrossing_51 (by decide) (fun c_14 => ?_) (fun c_14 => ?_)
    · have c_14n : 600 < j := (nI_ltI (a := 600) (b := j) (by omega) (by omega)).mp c_14
      have G := G.sub (bs' := [[zO7 rd rl rdd rg y0 y1 tp r2 y3 y4 y5 y6 y7 y8], [zAr T 1 tp 600 ft], z3]) [1, 2, 0] rfl
      exact z_back hQ9 (z_vret C hr hlocks G (Nat.le_of_ble_eq_true rfl) (Nat.le_of_ble_eq_true rfl) dX7_readCrossing_113 ⟨y0, y1, y3, y4, y5, y6, y7, y8, z3, y_6, x1, x2, rfl, hz3, hI2, (by first | (exfalso; omega) | (rw [pCross_e hbq (hEq.symm.trans (pRoads_x (fun q9 => by have := (pTk_1 hokA hA1A.2.2.2).mp q9.2; omega)))]; exact hBA)), (by first | (exfalso; omega) | (rw [pCross_e hbq (hEq.symm.trans (pRoads_x (fun q9 => by have := (pTk_1 hokA hA1A.2.2.2).mp q9.2; omega)))]; exact zLr_end hLr hf0))⟩)
    · have c_14n : ¬ 600 < j := fun q => c_14 ((nI_ltI (a := 600) (b := j) (by omega) (by omega)).mpr q)
      refine lv_aload_n hx hb dX7_readCrossing_54 rfl (lv_at hl 3 rfl) ?_
      refine z_get C G clX7 1 rfl 8 (by decide) m_fl_RX7_74 rfl dX7_readCrossing_55 ?_
      refine lv_iconst (v := 2) hx hb dX7_readCrossing_58 (by decide) ?_
      refine lv_icmp_ne (tgt := 113) hx hb dX7_readCrossing_59 (by decide) (fun c_15 => ?_) (fun c_15 => ?_)
      · have c_15n : ¬ y4.toInt = (2 : Int) := fun q => c_15 ((fa_eq _ _).mpr q)
        have G := G.sub (bs' := [[zO7 rd rl rdd rg y0 y1 tp r2 y3 y4 y5 y6 y7 y8], [zAr T 1 tp 600 ft], z3]) [1, 2, 0] rfl
        exact z_back hQ9 (z_vret C hr hlocks G (Nat.le_of_ble_eq_true rfl) (Nat.le_of_ble_eq_true rfl) dX7_readCrossing_113 ⟨y0, y1, y3, y4, y5, y6, y7, y8, z3, y_6, x1, x2, rfl, hz3, hI2, (by first | (exfalso; omega) | (rw [pCross_e hbq (hEq.symm.trans (pRoads_x (fun q9 => by have := (pTk_1 hokA hA1A.2.2.2).mp q9.2; omega)))]; exact hBA)), (by first | (exfalso; omega) | (rw [pCross_e hbq (hEq.symm.trans (pRoads_x (fun q9 => by have := (pTk_1 hokA hA1A.2.2.2).mp q9.2; omega)))]; exact zLr_end hLr hf0))⟩)
      · have c_15n : y4.toInt = (2 : Int) := (fa_eq _ _).mp c_15
        have hclA : pCl k A9.1 = 2 := by omega
        have htA := (pTk_1 hokA hA1A.2.2.2).mpr hclA
        have hst := pStep (f := fr) (g := f) hokA hA1A.2.2.2 hwA htA hpj hf0
        refine lv_aload_n hx hb dX7_readCrossing_62 rfl (lv_at hl 3 rfl) ?_
        refine z_get C G clX7 1 rfl 9 (by decide) m_fl_RX7_84 rfl dX7_readCrossing_63 ?_
        refine lv_istore (lv' := [(4, .int y5), (3, .int (nI j)), (2, .int (nI j)), (1, .int cr), (0, .ref rd)]) hx hb dX7_readCrossing_66 hl (by decide) rfl (fun ls hl => ?_)
        refine lv_aload_n hx hb dX7_readCrossing_68 rfl (lv_at hl 4 rfl) ?_
        refine lv_bipush (v := 6) hx hb dX7_readCrossing_69 (by decide) ?_
        refine z_Vi (bc := [[zO7 rd rl rdd rg y0 y1 tp r2 y3 y4 y5 y6 y7 y8], [zAr T 1 tp 600 ft]]) (br := [z3]) (As := [.int 6]) (rest := []) C G (c_f_readNumber l T rd rl rdd rg tp y0 y1 r2 y3 y4 y5 y6 y7 y8 ft k n A9 6 hBA) (kV_RX7_120 C.2.2.2.2 (Nat.le_of_ble_eq_true rfl) (Nat.le_of_ble_eq_true rfl)) [1, 2] [1, 0] rfl rfl (ci := 7) (qc := (RX7, TX7, 13)) rfl rfl (List.mem_flatten.mpr ⟨_, List.mem_of_getElem? (i := 0) rfl, List.mem_cons_self⟩) rfl rfl hl.1 dX7_readCrossing_71 (Nat.le_of_ble_eq_true rfl) (Nat.le_of_ble_eq_true rfl) (fun r_26 b1 H locs hw G => ?_)
        refine zEx7 hw ?_
        intro u0_16 u1_17 u3_18 u4_19 u5_20 u6_21 u7_22
        refine zCu4 ?_
        intro hbs9 h_23 h_24 h_25
        clear hw
        subst hbs9
        have G : zS T A s.heap s [z3, [zO7 rd rl rdd rg u0_16 u1_17 tp r2 u3_18 u4_19 u5_20 u6_21 u7_22 y8], [zAr T 1 tp 600 ft]] _ _ := G
        refine lv_istore (lv' := [(5, .int r_26), (4, .int y5), (3, .int (nI j)), (2, .int (nI j)), (1, .int cr), (0, .ref rd)]) hx hb dX7_readCrossing_74 hl (by decide) rfl (fun ls hl => ?_)
        refine lv_iload_n hx hb dX7_readCrossing_76 rfl (lv_at hl 3 rfl) ?_
        refine lv_iconst (v := 4) hx hb dX7_readCrossing_77 (by decide) ?_
        refine lv_icmp_lt (tgt := 88) hx hb dX7_readCrossing_78 (by decide) (fun c_27 => ?_) (fun c_27 => ?_)
        · have c_27n : j < 4 := (nI_ltI (a := j) (b := 4) (by omega) (by omega)).mp c_27
          have hnR : zRc k n ft u0_16 u1_17 r2 u3_18 u4_19 u5_20 u6_21 u7_22 (pCr k (pAt k j A9)).2 := zRc_cr0 (by omega) h_24
          refine lv_iinc (v := nI (j + 1)) (lv' := [(2, .int (nI (j + 1))), (5, .int r_26), (4, .int y5), (3, .int (nI j)), (1, .int cr), (0, .ref rd)]) hx hb dX7_readCrossing_88 hl (k := 3) rfl (z_inc j 1) (by decide) rfl (fun ls hl => ?_)
          refine lv_aload_n hx hb dX7_readCrossing_91 rfl (lv_at hl 5 rfl) ?_
          refine z_get C G clX7 1 rfl 0 (by decide) m_fl_RX7_12 rfl dX7_readCrossing_92 ?_
          refine lv_iload_n hx hb dX7_readCrossing_95 rfl (lv_at hl 4 rfl) ?_
          refine lv_iload hx hb dX7_readCrossing_96 (lv_at hl 1 rfl) ?_
          refine z_Vv (bc := [z3]) (br := [[zO7 rd rl rdd rg u0_16 u1_17 tp r2 u3_18 u4_19 u5_20 u6_21 u7_22 y8], [zAr T 1 tp 600 ft]]) (As := [.int cr, .int r_26]) (rest := []) C G (c_addRoad l T rl y_6 inn x1 x2 k3 k4 z3 cr r_26 hz3 hI2) (kV_RX7_123 C.2.2.2.2 (Nat.le_of_ble_eq_true rfl) (Nat.le_of_ble_eq_true rfl)) [0] [0] rfl rfl (ci := 4) (qc := (RX4, TX4, 6)) rfl rfl (List.mem_flatten.mpr ⟨_, List.mem_of_getElem? (i := 0) rfl, (bLand_mem hz3).choose_spec⟩) rfl rfl hl.1 dX7_readCrossing_98 (Nat.le_of_ble_eq_true rfl) (Nat.le_of_ble_eq_true rfl) (fun b1 H locs hw G => ?_)
          refine zEx3 hw ?_
          intro w2_28 g1_29 g2_30
          refine zCu4 ?_
          intro hbs9 h_31 h_32 h_33
          clear hw
          subst hbs9
          have G : zS T A s.heap s [[zO7 rd rl rdd rg u0_16 u1_17 tp r2 u3_18 u4_19 u5_20 u6_21 u7_22 y8], [zAr T 1 tp 600 ft], w2_28] _ _ := G
          have hI3 : zLI y_6 g1_29 k3 := by rw [h_32]; exact zLI_add hI2 _
          refine lv_aload_n hx hb dX7_readCrossing_101 rfl (lv_at hl 5 rfl) ?_
          refine lv_iload hx hb dX7_readCrossing_102 (lv_at hl 1 rfl) ?_
          refine z_Vv (bc := [[zO7 rd rl rdd rg u0_16 u1_17 tp r2 u3_18 u4_19 u5_20 u6_21 u7_22 y8]]) (br := [[zAr T 1 tp 600 ft], w2_28]) (As := [.int r_26]) (rest := []) C G (c_f_tellOf l T rd rl rdd rg tp u0_16 u1_17 r2 u3_18 u4_19 u5_20 u6_21 u7_22 y8 r_26) (kV_RX7_126 C.2.2.2.2 (Nat.le_of_ble_eq_true rfl) (Nat.le_of_ble_eq_true rfl)) [0] [0] rfl rfl (ci := 7) (qc := (RX7, TX7, 13)) rfl rfl (List.mem_flatten.mpr ⟨_, List.mem_of_getElem? (i := 0) rfl, List.mem_cons_self⟩) rfl rfl hl.1 dX7_readCrossing_104 (Nat.le_of_ble_eq_true rfl) (Nat.le_of_ble_eq_true rfl) (fun b1 H locs hw G => ?_)
          refine zEx1 hw ?_
          intro u8_35
          refine zCu2 ?_
          intro hbs9 h_36
          clear hw
          subst hbs9
          have G : zS T A s.heap s [[zAr T 1 tp 600 ft], w2_28, [zO7 rd rl rdd rg u0_16 u1_17 tp r2 u3_18 u4_19 u5_20 u6_21 u7_22 u8_35]] _ _ := G
          have hnL : zLr cr y_6 inn g1_29 g2_30 k3 k4 u8_35 (min (j + 1) 4) (pCr k (pAt k j A9)).2 (pRow k j A9 fr) := by rw [h_32, h_33, h_36]; exact zLr_next hLr hokA hA1A.2.2.2 hA1A.2.1 hAIA hwA htA h_25
          refine lv_iinc (v := nI (j + 1)) (lv' := [(3, .int (nI (j + 1))), (2, .int (nI (j + 1))), (5, .int r_26), (4, .int y5), (1, .int cr), (0, .ref rd)]) hx hb dX7_readCrossing_107 hl (k := 3) rfl (z_inc j 1) (by decide) rfl (fun ls hl => ?_)
          refine lv_goto (tgt := 47) hx hb dX7_readCrossing_110 (by decide) ?_
          have G := G.sub (bs' := [w2_28, [zO7 rd rl rdd rg u0_16 u1_17 tp r2 u3_18 u4_19 u5_20 u6_21 u7_22 u8_35], [zAr T 1 tp 600 ft]]) [1, 2, 0] rfl
          exact ih_47 (j + 1) ((pCr k (pAt k j A9)).2) (pRow k j A9 fr) u0_16 u1_17 u3_18 u4_19 u5_20 u6_21 u7_22 u8_35 w2_28 g1_29 g2_30 (show bLand T rl y_6 inn g1_29 g2_30 k3 k4 w2_28 ∧ (j + 1) ≤ 601 ∧ zRc k n ft u0_16 u1_17 r2 u3_18 u4_19 u5_20 u6_21 u7_22 ((pCr k (pAt k j A9)).2) ∧ ((pCr k (pAt k j A9)).2).2.1.toInt = 0 ∧ (j + 1) ≤ ((pCr k (pAt k j A9)).2).1 ∧ pRoads k (601 - (j + 1)) (min (j + 1) 4) ((pCr k (pAt k j A9)).2) (pRow k j A9 fr) = pRoads k 601 0 b f ∧ (pRow k j A9 fr) 0 = f 0 ∧ zLr cr y_6 inn g1_29 g2_30 k3 k4 u8_35 (min (j + 1) 4) ((pCr k (pAt k j A9)).2) (pRow k j A9 fr) ∧ zLI y_6 g1_29 k3 from ⟨h_31, by omega, hnR, hst.1, hst.2.1, (pRoads_n (by omega) hwA htA hEq), hst.2.2, hnL, hI3⟩) (show 601 - (j + 1) < 601 - j from by omega) _ _ ls G (lv_sub hl [0, 1, 4, 5] rfl)
        · have c_27n : ¬ j < 4 := fun q => c_27 ((nI_ltI (a := j) (b := 4) (by omega) (by omega)).mpr q)
          refine lv_aload_n hx hb dX7_readCrossing_81 rfl (lv_at hl 5 rfl) ?_
          refine lv_iconst (v := 3) hx hb dX7_readCrossing_82 (by decide) ?_
          refine lv_iload hx hb dX7_readCrossing_83 (lv_at hl 1 rfl) ?_
          refine z_Vv (bc := [[zO7 rd rl rdd rg u0_16 u1_17 tp r2 u3_18 u4_19 u5_20 u6_21 u7_22 y8]]) (br := [z3, [zAr T 1 tp 600 ft]]) (As := [.int 3, .int y5]) (rest := []) C G (c_f_note l T rd rl rdd rg tp u0_16 u1_17 r2 u3_18 u4_19 u5_20 u6_21 u7_22 y8 3 y5) (kV_RX7_90 C.2.2.2.2 (Nat.le_of_ble_eq_true rfl) (Nat.le_of_ble_eq_true rfl)) [1] [1] rfl rfl (ci := 7) (qc := (RX7, TX7, 13)) rfl rfl (List.mem_flatten.mpr ⟨_, List.mem_of_getElem? (i := 0) rfl, List.mem_cons_self⟩) rfl rfl hl.1 dX7_readCrossing_85 (Nat.le_of_ble_eq_true rfl) (Nat.le_of_ble_eq_true rfl) (fun b1 H locs hw G => ?_)
          refine zEx2 hw ?_
          intro u0_38 u1_39
          refine zCu3 ?_
          intro hbs9 h_40 h_41
          clear hw
          subst hbs9
          have G : zS T A s.heap s [z3, [zAr T 1 tp 600 ft], [zO7 rd rl rdd rg u0_38 u1_39 tp r2 u3_18 u4_19 u5_20 u6_21 u7_22 y8]] _ _ := G
          have hnR : zRc k n ft u0_38 u1_39 r2 u3_18 u4_19 u5_20 u6_21 u7_22 (pCr k (pAt k j A9)).2 := zRc_cr4 (by omega) hokA hA1A.2.2.2 hA1A.2.1 hAIA hwA htA h_24 t5A h_40 h_41
          refine lv_iinc (v := nI (j + 1)) (lv' := [(2, .int (nI (j + 1))), (5, .int r_26), (4, .int y5), (3, .int (nI j)), (1, .int cr), (0, .ref rd)]) hx hb dX7_readCrossing_88 hl (k := 3) rfl (z_inc j 1) (by decide) rfl (fun ls hl => ?_)
          refine lv_aload_n hx hb dX7_readCrossing_91 rfl (lv_at hl 5 rfl) ?_
          refine z_get C G clX7 2 rfl 0 (by decide) m_fl_RX7_12 rfl dX7_readCrossing_92 ?_
          refine lv_iload_n hx hb dX7_readCrossing_95 rfl (lv_at hl 4 rfl) ?_
          refine lv_iload hx hb dX7_readCrossing_96 (lv_at hl 1 rfl) ?_
          refine z_Vv (bc := [z3]) (br := [[zAr T 1 tp 600 ft], [zO7 rd rl rdd rg u0_38 u1_39 tp r2 u3_18 u4_19 u5_20 u6_21 u7_22 y8]]) (As := [.int cr, .int r_26]) (rest := []) C G (c_addRoad l T rl y_6 inn x1 x2 k3 k4 z3 cr r_26 hz3 hI2) (kV_RX7_123 C.2.2.2.2 (Nat.le_of_ble_eq_true rfl) (Nat.le_of_ble_eq_true rfl)) [0] [0] rfl rfl (ci := 4) (qc := (RX4, TX4, 6)) rfl rfl (List.mem_flatten.mpr ⟨_, List.mem_of_getElem? (i := 0) rfl, (bLand_mem hz3).choose_spec⟩) rfl rfl hl.1 dX7_readCrossing_98 (Nat.le_of_ble_eq_true rfl) (Nat.le_of_ble_eq_true rfl) (fun b1 H locs hw G => ?_)
          refine zEx3 hw ?_
          intro w2_43 g1_44 g2_45
          refine zCu4 ?_
          intro hbs9 h_46 h_47 h_48
          clear hw
          subst hbs9
          have G : zS T A s.heap s [[zAr T 1 tp 600 ft], [zO7 rd rl rdd rg u0_38 u1_39 tp r2 u3_18 u4_19 u5_20 u6_21 u7_22 y8], w2_43] _ _ := G
          have hI3 : zLI y_6 g1_44 k3 := by rw [h_47]; exact zLI_add hI2 _
          refine lv_aload_n hx hb dX7_readCrossing_101 rfl (lv_at hl 5 rfl) ?_
          refine lv_iload hx hb dX7_readCrossing_102 (lv_at hl 1 rfl) ?_
          refine z_Vv (bc := [[zO7 rd rl rdd rg u0_38 u1_39 tp r2 u3_18 u4_19 u5_20 u6_21 u7_22 y8]]) (br := [[zAr T 1 tp 600 ft], w2_43]) (As := [.int r_26]) (rest := []) C G (c_f_tellOf l T rd rl rdd rg tp u0_38 u1_39 r2 u3_18 u4_19 u5_20 u6_21 u7_22 y8 r_26) (kV_RX7_126 C.2.2.2.2 (Nat.le_of_ble_eq_true rfl) (Nat.le_of_ble_eq_true rfl)) [1] [1] rfl rfl (ci := 7) (qc := (RX7, TX7, 13)) rfl rfl (List.mem_flatten.mpr ⟨_, List.mem_of_getElem? (i := 0) rfl, List.mem_cons_self⟩) rfl rfl hl.1 dX7_readCrossing_104 (Nat.le_of_ble_eq_true rfl) (Nat.le_of_ble_eq_true rfl) (fun b1 H locs hw G => ?_)
          refine zEx1 hw ?_
          intro u8_50
          refine zCu2 ?_
          intro hbs9 h_51
          clear hw
          subst hbs9
          have G : zS T A s.heap s [[zAr T 1 tp 600 ft], w2_43, [zO7 rd rl rdd rg u0_38 u1_39 tp r2 u3_18 u4_19 u5_20 u6_21 u7_22 u8_50]] _ _ := G
          have hnL : zLr cr y_6 inn g1_44 g2_45 k3 k4 u8_50 (min (j + 1) 4) (pCr k (pAt k j A9)).2 (pRow k j A9 fr) := by rw [h_47, h_48, h_51]; exact zLr_next hLr hokA hA1A.2.2.2 hA1A.2.1 hAIA hwA htA h_25
          refine lv_iinc (v := nI (j + 1)) (lv' := [(3, .int (nI (j + 1))), (2, .int (nI (j + 1))), (5, .int r_26), (4, .int y5), (1, .int cr), (0, .ref rd)]) hx hb dX7_readCrossing_107 hl (k := 3) rfl (z_inc j 1) (by decide) rfl (fun ls hl => ?_)
          refine lv_goto (tgt := 47) hx hb dX7_readCrossing_110 (by decide) ?_
          have G := G.sub (bs' := [w2_43, [zO7 rd rl rdd rg u0_38 u1_39 tp r2 u3_18 u4_19 u5_20 u6_21 u7_22 u8_50], [zAr T 1 tp 600 ft]]) [1, 2, 0] rfl
          exact ih_47 (j + 1) ((pCr k (pAt k j A9)).2) (pRow k j A9 fr) u0_38 u1_39 u3_18 u4_19 u5_20 u6_21 u7_22 u8_50 w2_43 g1_44 g2_45 (show bLand T rl y_6 inn g1_44 g2_45 k3 k4 w2_43 ∧ (j + 1) ≤ 601 ∧ zRc k n ft u0_38 u1_39 r2 u3_18 u4_19 u5_20 u6_21 u7_22 ((pCr k (pAt k j A9)).2) ∧ ((pCr k (pAt k j A9)).2).2.1.toInt = 0 ∧ (j + 1) ≤ ((pCr k (pAt k j A9)).2).1 ∧ pRoads k (601 - (j + 1)) (min (j + 1) 4) ((pCr k (pAt k j A9)).2) (pRow k j A9 fr) = pRoads k 601 0 b f ∧ (pRow k j A9 fr) 0 = f 0 ∧ zLr cr y_6 inn g1_44 g2_45 k3 k4 u8_50 (min (j + 1) 4) ((pCr k (pAt k j A9)).2) (pRow k j A9 fr) ∧ zLI y_6 g1_44 k3 from ⟨h_46, by omega, hnR, hst.1, hst.2.1, (pRoads_n (by omega) hwA htA hEq), hst.2.2, hnL, hI3⟩) (show 601 - (j + 1) < 601 - j from by omega) _ _ ls G (lv_sub hl [0, 1, 4, 5] rfl)
  · have c_5n : ¬ cr.toInt < (7 : Int) := fun q => c_5 ((fa_lt _ _).mpr q)
    refine lv_aload_n hx hb dX7_readCrossing_14 rfl (lv_at hl 1 rfl) ?_
    refine lv_iconst (v := 3) hx hb dX7_readCrossing_15 (by decide) ?_
    refine lv_aload_n hx hb dX7_readCrossing_16 rfl (lv_at hl 1 rfl) ?_
    refine z_get C G clX7 0 rfl 9 (by decide) m_fl_RX7_84 rfl dX7_readCrossing_17 ?_
    refine z_Vv (bc := [[zO7 rd rl rdd rg r0 r1 tp r2 r3 r4 r5 r6 r7 r8]]) (br := [[zAr T 1 tp 600 ft], [zO4 rl cr inn a1_1 a2_2 a3_3 a4_4], [zAr T 0 a1_1 7 k1], [zAr T 0 a2_2 28 k2], [zAr T 0 a3_3 7 k3], [zAr T 0 a4_4 7 k4]]) (As := [.int 3, .int r5]) (rest := []) C G (c_f_note l T rd rl rdd rg tp r0 r1 r2 r3 r4 r5 r6 r7 r8 3 r5) (kV_RX7_90 C.2.2.2.2 (Nat.le_of_ble_eq_true rfl) (Nat.le_of_ble_eq_true rfl)) [0] [0] rfl rfl (ci := 7) (qc := (RX7, TX7, 13)) rfl rfl (List.mem_flatten.mpr ⟨_, List.mem_of_getElem? (i := 0) rfl, List.mem_cons_self⟩) rfl rfl hl.1 dX7_readCrossing_20 (Nat.le_of_ble_eq_true rfl) (Nat.le_of_ble_eq_true rfl) (fun b1 H locs hw G => ?_)
    refine zEx2 hw ?_
    intro u0_53 u1_54
    refine zCu3 ?_
    intro hbs9 h_55 h_56
    clear hw
    subst hbs9
    have G : zS T A s.heap s [[zAr T 1 tp 600 ft], [zO4 rl cr inn a1_1 a2_2 a3_3 a4_4], [zAr T 0 a1_1 7 k1], [zAr T 0 a2_2 28 k2], [zAr T 0 a3_3 7 k3], [zAr T 0 a4_4 7 k4], [zO7 rd rl rdd rg u0_53 u1_54 tp r2 r3 r4 r5 r6 r7 r8]] _ _ := G
    refine lv_goto (tgt := 39) hx hb dX7_readCrossing_23 (by decide) ?_
    refine lv_aload_n hx hb dX7_readCrossing_39 rfl (lv_at hl 1 rfl) ?_
    refine z_Vv (bc := [[zO7 rd rl rdd rg u0_53 u1_54 tp r2 r3 r4 r5 r6 r7 r8], [zAr T 1 tp 600 ft]]) (br := [[zO4 rl cr inn a1_1 a2_2 a3_3 a4_4], [zAr T 0 a1_1 7 k1], [zAr T 0 a2_2 28 k2], [zAr T 0 a3_3 7 k3], [zAr T 0 a4_4 7 k4]]) (As := []) (rest := []) C G (c_f_nextToken l T rd rl rdd rg tp u0_53 u1_54 r2 r3 r4 r5 r6 r7 r8 ft (pEn k a.1) n k t3 hka.1.2.2 hA1.1 hA1.2.2.1 hA1.2.1) (kV_RX7_71 C.2.2.2.2 (Nat.le_of_ble_eq_true rfl) (Nat.le_of_ble_eq_true rfl)) [6, 0] [0, 5] rfl rfl (ci := 7) (qc := (RX7, TX7, 13)) rfl rfl (List.mem_flatten.mpr ⟨_, List.mem_of_getElem? (i := 0) rfl, List.mem_cons_self⟩) rfl rfl hl.1 dX7_readCrossing_40 (Nat.le_of_ble_eq_true rfl) (Nat.le_of_ble_eq_true rfl) (fun b1 H locs hw G => ?_)
    refine zEx4 hw ?_
    intro u3_58 u4_59 u5_60 u6_61
    refine zCu2 ?_
    intro hbs9 h_62
    clear hw
    subst hbs9
    have G : zS T A s.heap s [[zO4 rl cr inn a1_1 a2_2 a3_3 a4_4], [zAr T 0 a1_1 7 k1], [zAr T 0 a2_2 28 k2], [zAr T 0 a3_3 7 k3], [zAr T 0 a4_4 7 k4], [zO7 rd rl rdd rg u0_53 u1_54 tp r2 u3_58 u4_59 u5_60 u6_61 r7 r8], [zAr T 1 tp 600 ft]] _ _ := G
    have hB := zRc_d1 (m := 7) hA hw hcn hdd (by omega) h_55 h_56 h_62
    obtain ⟨b, hbq⟩ : ∃ b, b = pDB 7 (nI (pWh k a.1)) f (pAdv k a) := ⟨_, rfl⟩
    rw [← hbq] at hB
    have hwb : b.2.1.toInt = 0 := by rw [hbq, pDB_fa.2]; exact hw
    have hIa : zLI cr k1 k3 := zLI_cr hI (by have q := hI.1; omega)
    have hL0 : zLr cr cr inn k1 k2 k3 k4 r8 0 b f := by rw [hbq]; exact zLr_in (k := k) (a := pAdv k a) hC hw (fun q9 => absurd q9 (by omega))
    refine lv_iconst (v := 0) hx hb dX7_readCrossing_43 (by decide) ?_
    refine lv_istore_n (lv' := [(2, .int 0), (1, .int cr), (0, .ref rd)]) hx hb dX7_readCrossing_44 rfl hl (by decide) rfl (fun ls hl => ?_)
    refine lv_iconst (v := 0) hx hb dX7_readCrossing_45 (by decide) ?_
    refine lv_istore_n (lv' := [(3, .int 0), (2, .int 0), (1, .int cr), (0, .ref rd)]) hx hb dX7_readCrossing_46 rfl hl (by decide) rfl (fun ls hl => ?_)
    have hw_64 : bLand T rl cr inn k1 k2 k3 k4 [zO4 rl cr inn a1_1 a2_2 a3_3 a4_4, zAr T 0 a1_1 7 k1, zAr T 0 a2_2 28 k2, zAr T 0 a3_3 7 k3, zAr T 0 a4_4 7 k4] := ⟨a1_1, a2_2, a3_3, a4_4, rfl⟩
    have G : zS T A s.heap s [[zO4 rl cr inn a1_1 a2_2 a3_3 a4_4, zAr T 0 a1_1 7 k1, zAr T 0 a2_2 28 k2, zAr T 0 a3_3 7 k3, zAr T 0 a4_4 7 k4], [zO7 rd rl rdd rg u0_53 u1_54 tp r2 u3_58 u4_59 u5_60 u6_61 r7 r8], [zAr T 1 tp 600 ft]] _ _ := G.re rfl
    refine z_lp14 (T := T) 47 (fun (j : Nat) (A9 : pS) (fr : Nat → Int32) (y0 : Int32) (y1 : Int32) (y3 : Int32) (y4 : Int32) (y5 : Int32) (y6 : Int32) (y7 : Int32) (y8 : Int32) (z3 : va_W) (x1 : Nat → Int32) (x2 : Nat → Int32) => [z3, [zO7 rd rl rdd rg y0 y1 tp r2 y3 y4 y5 y6 y7 y8], [zAr T 1 tp 600 ft]]) (fun (j : Nat) (A9 : pS) (fr : Nat → Int32) (y0 : Int32) (y1 : Int32) (y3 : Int32) (y4 : Int32) (y5 : Int32) (y6 : Int32) (y7 : Int32) (y8 : Int32) (z3 : va_W) (x1 : Nat → Int32) (x2 : Nat → Int32) => [(3, .int (nI j)), (2, .int (nI j)), (1, .int cr), (0, .ref rd)]) (fun (j : Nat) (A9 : pS) (fr : Nat → Int32) (y0 : Int32) (y1 : Int32) (y3 : Int32) (y4 : Int32) (y5 : Int32) (y6 : Int32) (y7 : Int32) (y8 : Int32) (z3 : va_W) (x1 : Nat → Int32) (x2 : Nat → Int32) => bLand T rl cr inn x1 x2 k3 k4 z3 ∧ j ≤ 601 ∧ zRc k n ft y0 y1 r2 y3 y4 y5 y6 y7 A9 ∧ A9.2.1.toInt = 0 ∧ j ≤ A9.1 ∧ pRoads k (601 - j) (min j 4) A9 fr = pRoads k 601 0 b f ∧ fr 0 = f 0 ∧ zLr cr cr inn x1 x2 k3 k4 y8 (min j 4) A9 fr ∧ zLI cr x1 k3) (fun (j : Nat) (A9 : pS) (fr : Nat → Int32) (y0 : Int32) (y1 : Int32) (y3 : Int32) (y4 : Int32) (y5 : Int32) (y6 : Int32) (y7 : Int32) (y8 : Int32) (z3 : va_W) (x1 : Nat → Int32) (x2 : Nat → Int32) => 601 - j) ?_ 0 b f u0_53 u1_54 u3_58 u4_59 u5_60 u6_61 r7 r8 ([zO4 rl cr inn a1_1 a2_2 a3_3 a4_4, zAr T 0 a1_1 7 k1, zAr T 0 a2_2 28 k2, zAr T 0 a3_3 7 k3, zAr T 0 a4_4 7 k4]) k1 k2 (show bLand T rl cr inn k1 k2 k3 k4 ([zO4 rl cr inn a1_1 a2_2 a3_3 a4_4, zAr T 0 a1_1 7 k1, zAr T 0 a2_2 28 k2, zAr T 0 a3_3 7 k3, zAr T 0 a4_4 7 k4]) ∧ 0 ≤ 601 ∧ zRc k n ft u0_53 u1_54 r2 u3_58 u4_59 u5_60 u6_61 r7 b ∧ b.2.1.toInt = 0 ∧ 0 ≤ b.1 ∧ pRoads k (601 - 0) (min 0 4) b f = pRoads k 601 0 b f ∧ f 0 = f 0 ∧ zLr cr cr inn k1 k2 k3 k4 r8 (min 0 4) b f ∧ zLI cr k1 k3 from ⟨hw_64, by omega, hB, hwb, (Nat.zero_le _), rfl, rfl, hL0, hIa⟩) G (lv_sub hl [0, 1, 2, 3] rfl)
    intro j A9 fr y0 y1 y3 y4 y5 y6 y7 y8 z3 x1 x2 hI9 ih_47 H locs ls G hl
    replace hI9 : bLand T rl cr inn x1 x2 k3 k4 z3 ∧ j ≤ 601 ∧ zRc k n ft y0 y1 r2 y3 y4 y5 y6 y7 A9 ∧ A9.2.1.toInt = 0 ∧ j ≤ A9.1 ∧ pRoads k (601 - j) (min j 4) A9 fr = pRoads k 601 0 b f ∧ fr 0 = f 0 ∧ zLr cr cr inn x1 x2 k3 k4 y8 (min j 4) A9 fr ∧ zLI cr x1 k3 := hI9
    refine zAn9 hI9 ?_
    intro hz3 hj hBA hwA hpj hEq hf0 hLr hI2
    clear hI9
    replace G : zS T A s.heap s [z3, [zO7 rd rl rdd rg y0 y1 tp r2 y3 y4 y5 y6 y7 y8], [zAr T 1 tp 600 ft]] _ _ := G
    replace hl : lv_has ls 6 [(3, .int (nI j)), (2, .int (nI j)), (1, .int cr), (0, .ref rd)] := hl
    refine lv_iload_n hx hb dX7_readCrossing_47 rfl (lv_at hl 0 rfl) ?_
    have hokA := zRc_ok hBA
    obtain ⟨hA1A, hA6A, hA7A, hA8A, hA9A, hAIA, hAEA⟩ := id hBA
    have hkaA := hokA A9.1 hA1A.2.2.2
    obtain ⟨t3A, t4A, t5A, t6A⟩ := hA7A hwA
    have t4iA : y4.toInt = (pCl k A9.1 : Int) := by rw [t4A]; exact nI_toInt (by omega)
    have hjn : j ≤ n := Nat.le_trans hpj hA1A.2.2.2
    have hn6 := hA1A.2.1
    refine lv_sipush (v := 600) hx hb dX7_readCrossing_48 (by decide) ?_
    refine lv_icmp_gt (tgt := 113) hx hb dX7_readCrossing_51 (by decide) (fun c_65 => ?_) (fun c_65 => ?_)
    · have c_65n : 600 < j := (nI_ltI (a := 600) (b := j) (by omega) (by omega)).mp c_65
      have G := G.sub (bs' := [[zO7 rd rl rdd rg y0 y1 tp r2 y3 y4 y5 y6 y7 y8], [zAr T 1 tp 600 ft], z3]) [1, 2, 0] rfl
      exact z_back hQ9 (z_vret C hr hlocks G (Nat.le_of_ble_eq_true rfl) (Nat.le_of_ble_eq_true rfl) dX7_readCrossing_113 ⟨y0, y1, y3, y4, y5, y6, y7, y8, z3, cr, x1, x2, rfl, hz3, hI2, (by first | (exfalso; omega) | (rw [pCross_e hbq (hEq.symm.trans (pRoads_x (fun q9 => by have := (pTk_1 hokA hA1A.2.2.2).mp q9.2; omega)))]; exact hBA)), (by first | (exfalso; omega) | (rw [pCross_e hbq (hEq.symm.trans (pRoads_x (fun q9 => by have := (pTk_1 hokA hA1A.2.2.2).mp q9.2; omega)))]; exact zLr_end hLr hf0))⟩)
    · have c_65n : ¬ 600 < j := fun q => c_65 ((nI_ltI (a := 600) (b := j) (by omega) (by omega)).mpr q)
      refine lv_aload_n hx hb dX7_readCrossing_54 rfl (lv_at hl 3 rfl) ?_
      refine z_get C G clX7 1 rfl 8 (by decide) m_fl_RX7_74 rfl dX7_readCrossing_55 ?_
      refine lv_iconst (v := 2) hx hb dX7_readCrossing_58 (by decide) ?_
      refine lv_icmp_ne (tgt := 113) hx hb dX7_readCrossing_59 (by decide) (fun c_66 => ?_) (fun c_66 => ?_)
      · have c_66n : ¬ y4.toInt = (2 : Int) := fun q => c_66 ((fa_eq _ _).mpr q)
        have G := G.sub (bs' := [[zO7 rd rl rdd rg y0 y1 tp r2 y3 y4 y5 y6 y7 y8], [zAr T 1 tp 600 ft], z3]) [1, 2, 0] rfl
        exact z_back hQ9 (z_vret C hr hlocks G (Nat.le_of_ble_eq_true rfl) (Nat.le_of_ble_eq_true rfl) dX7_readCrossing_113 ⟨y0, y1, y3, y4, y5, y6, y7, y8, z3, cr, x1, x2, rfl, hz3, hI2, (by first | (exfalso; omega) | (rw [pCross_e hbq (hEq.symm.trans (pRoads_x (fun q9 => by have := (pTk_1 hokA hA1A.2.2.2).mp q9.2; omega)))]; exact hBA)), (by first | (exfalso; omega) | (rw [pCross_e hbq (hEq.symm.trans (pRoads_x (fun q9 => by have := (pTk_1 hokA hA1A.2.2.2).mp q9.2; omega)))]; exact zLr_end hLr hf0))⟩)
      · have c_66n : y4.toInt = (2 : Int) := (fa_eq _ _).mp c_66
        have hclA : pCl k A9.1 = 2 := by omega
        have htA := (pTk_1 hokA hA1A.2.2.2).mpr hclA
        have hst := pStep (f := fr) (g := f) hokA hA1A.2.2.2 hwA htA hpj hf0
        refine lv_aload_n hx hb dX7_readCrossing_62 rfl (lv_at hl 3 rfl) ?_
        refine z_get C G clX7 1 rfl 9 (by decide) m_fl_RX7_84 rfl dX7_readCrossing_63 ?_
        refine lv_istore (lv' := [(4, .int y5), (3, .int (nI j)), (2, .int (nI j)), (1, .int cr), (0, .ref rd)]) hx hb dX7_readCrossing_66 hl (by decide) rfl (fun ls hl => ?_)
        refine lv_aload_n hx hb dX7_readCrossing_68 rfl (lv_at hl 4 rfl) ?_
        refine lv_bipush (v := 6) hx hb dX7_readCrossing_69 (by decide) ?_
        refine z_Vi (bc := [[zO7 rd rl rdd rg y0 y1 tp r2 y3 y4 y5 y6 y7 y8], [zAr T 1 tp 600 ft]]) (br := [z3]) (As := [.int 6]) (rest := []) C G (c_f_readNumber l T rd rl rdd rg tp y0 y1 r2 y3 y4 y5 y6 y7 y8 ft k n A9 6 hBA) (kV_RX7_120 C.2.2.2.2 (Nat.le_of_ble_eq_true rfl) (Nat.le_of_ble_eq_true rfl)) [1, 2] [1, 0] rfl rfl (ci := 7) (qc := (RX7, TX7, 13)) rfl rfl (List.mem_flatten.mpr ⟨_, List.mem_of_getElem? (i := 0) rfl, List.mem_cons_self⟩) rfl rfl hl.1 dX7_readCrossing_71 (Nat.le_of_ble_eq_true rfl) (Nat.le_of_ble_eq_true rfl) (fun r_77 b1 H locs hw G => ?_)
        refine zEx7 hw ?_
        intro u0_67 u1_68 u3_69 u4_70 u5_71 u6_72 u7_73
        refine zCu4 ?_
        intro hbs9 h_74 h_75 h_76
        clear hw
        subst hbs9
        have G : zS T A s.heap s [z3, [zO7 rd rl rdd rg u0_67 u1_68 tp r2 u3_69 u4_70 u5_71 u6_72 u7_73 y8], [zAr T 1 tp 600 ft]] _ _ := G
        refine lv_istore (lv' := [(5, .int r_77), (4, .int y5), (3, .int (nI j)), (2, .int (nI j)), (1, .int cr), (0, .ref rd)]) hx hb dX7_readCrossing_74 hl (by decide) rfl (fun ls hl => ?_)
        refine lv_iload_n hx hb dX7_readCrossing_76 rfl (lv_at hl 3 rfl) ?_
        refine lv_iconst (v := 4) hx hb dX7_readCrossing_77 (by decide) ?_
        refine lv_icmp_lt (tgt := 88) hx hb dX7_readCrossing_78 (by decide) (fun c_78 => ?_) (fun c_78 => ?_)
        · have c_78n : j < 4 := (nI_ltI (a := j) (b := 4) (by omega) (by omega)).mp c_78
          have hnR : zRc k n ft u0_67 u1_68 r2 u3_69 u4_70 u5_71 u6_72 u7_73 (pCr k (pAt k j A9)).2 := zRc_cr0 (by omega) h_75
          refine lv_iinc (v := nI (j + 1)) (lv' := [(2, .int (nI (j + 1))), (5, .int r_77), (4, .int y5), (3, .int (nI j)), (1, .int cr), (0, .ref rd)]) hx hb dX7_readCrossing_88 hl (k := 3) rfl (z_inc j 1) (by decide) rfl (fun ls hl => ?_)
          refine lv_aload_n hx hb dX7_readCrossing_91 rfl (lv_at hl 5 rfl) ?_
          refine z_get C G clX7 1 rfl 0 (by decide) m_fl_RX7_12 rfl dX7_readCrossing_92 ?_
          refine lv_iload_n hx hb dX7_readCrossing_95 rfl (lv_at hl 4 rfl) ?_
          refine lv_iload hx hb dX7_readCrossing_96 (lv_at hl 1 rfl) ?_
          refine z_Vv (bc := [z3]) (br := [[zO7 rd rl rdd rg u0_67 u1_68 tp r2 u3_69 u4_70 u5_71 u6_72 u7_73 y8], [zAr T 1 tp 600 ft]]) (As := [.int cr, .int r_77]) (rest := []) C G (c_addRoad l T rl cr inn x1 x2 k3 k4 z3 cr r_77 hz3 hI2) (kV_RX7_123 C.2.2.2.2 (Nat.le_of_ble_eq_true rfl) (Nat.le_of_ble_eq_true rfl)) [0] [0] rfl rfl (ci := 4) (qc := (RX4, TX4, 6)) rfl rfl (List.mem_flatten.mpr ⟨_, List.mem_of_getElem? (i := 0) rfl, (bLand_mem hz3).choose_spec⟩) rfl rfl hl.1 dX7_readCrossing_98 (Nat.le_of_ble_eq_true rfl) (Nat.le_of_ble_eq_true rfl) (fun b1 H locs hw G => ?_)
          refine zEx3 hw ?_
          intro w2_79 g1_80 g2_81
          refine zCu4 ?_
          intro hbs9 h_82 h_83 h_84
          clear hw
          subst hbs9
          have G : zS T A s.heap s [[zO7 rd rl rdd rg u0_67 u1_68 tp r2 u3_69 u4_70 u5_71 u6_72 u7_73 y8], [zAr T 1 tp 600 ft], w2_79] _ _ := G
          have hI3 : zLI cr g1_80 k3 := by rw [h_83]; exact zLI_add hI2 _
          refine lv_aload_n hx hb dX7_readCrossing_101 rfl (lv_at hl 5 rfl) ?_
          refine lv_iload hx hb dX7_readCrossing_102 (lv_at hl 1 rfl) ?_
          refine z_Vv (bc := [[zO7 rd rl rdd rg u0_67 u1_68 tp r2 u3_69 u4_70 u5_71 u6_72 u7_73 y8]]) (br := [[zAr T 1 tp 600 ft], w2_79]) (As := [.int r_77]) (rest := []) C G (c_f_tellOf l T rd rl rdd rg tp u0_67 u1_68 r2 u3_69 u4_70 u5_71 u6_72 u7_73 y8 r_77) (kV_RX7_126 C.2.2.2.2 (Nat.le_of_ble_eq_true rfl) (Nat.le_of_ble_eq_true rfl)) [0] [0] rfl rfl (ci := 7) (qc := (RX7, TX7, 13)) rfl rfl (List.mem_flatten.mpr ⟨_, List.mem_of_getElem? (i := 0) rfl, List.mem_cons_self⟩) rfl rfl hl.1 dX7_readCrossing_104 (Nat.le_of_ble_eq_true rfl) (Nat.le_of_ble_eq_true rfl) (fun b1 H locs hw G => ?_)
          refine zEx1 hw ?_
          intro u8_86
          refine zCu2 ?_
          intro hbs9 h_87
          clear hw
          subst hbs9
          have G : zS T A s.heap s [[zAr T 1 tp 600 ft], w2_79, [zO7 rd rl rdd rg u0_67 u1_68 tp r2 u3_69 u4_70 u5_71 u6_72 u7_73 u8_86]] _ _ := G
          have hnL : zLr cr cr inn g1_80 g2_81 k3 k4 u8_86 (min (j + 1) 4) (pCr k (pAt k j A9)).2 (pRow k j A9 fr) := by rw [h_83, h_84, h_87]; exact zLr_next hLr hokA hA1A.2.2.2 hA1A.2.1 hAIA hwA htA h_76
          refine lv_iinc (v := nI (j + 1)) (lv' := [(3, .int (nI (j + 1))), (2, .int (nI (j + 1))), (5, .int r_77), (4, .int y5), (1, .int cr), (0, .ref rd)]) hx hb dX7_readCrossing_107 hl (k := 3) rfl (z_inc j 1) (by decide) rfl (fun ls hl => ?_)
          refine lv_goto (tgt := 47) hx hb dX7_readCrossing_110 (by decide) ?_
          have G := G.sub (bs' := [w2_79, [zO7 rd rl rdd rg u0_67 u1_68 tp r2 u3_69 u4_70 u5_71 u6_72 u7_73 u8_86], [zAr T 1 tp 600 ft]]) [1, 2, 0] rfl
          exact ih_47 (j + 1) ((pCr k (pAt k j A9)).2) (pRow k j A9 fr) u0_67 u1_68 u3_69 u4_70 u5_71 u6_72 u7_73 u8_86 w2_79 g1_80 g2_81 (show bLand T rl cr inn g1_80 g2_81 k3 k4 w2_79 ∧ (j + 1) ≤ 601 ∧ zRc k n ft u0_67 u1_68 r2 u3_69 u4_70 u5_71 u6_72 u7_73 ((pCr k (pAt k j A9)).2) ∧ ((pCr k (pAt k j A9)).2).2.1.toInt = 0 ∧ (j + 1) ≤ ((pCr k (pAt k j A9)).2).1 ∧ pRoads k (601 - (j + 1)) (min (j + 1) 4) ((pCr k (pAt k j A9)).2) (pRow k j A9 fr) = pRoads k 601 0 b f ∧ (pRow k j A9 fr) 0 = f 0 ∧ zLr cr cr inn g1_80 g2_81 k3 k4 u8_86 (min (j + 1) 4) ((pCr k (pAt k j A9)).2) (pRow k j A9 fr) ∧ zLI cr g1_80 k3 from ⟨h_82, by omega, hnR, hst.1, hst.2.1, (pRoads_n (by omega) hwA htA hEq), hst.2.2, hnL, hI3⟩) (show 601 - (j + 1) < 601 - j from by omega) _ _ ls G (lv_sub hl [0, 1, 4, 5] rfl)
        · have c_78n : ¬ j < 4 := fun q => c_78 ((nI_ltI (a := j) (b := 4) (by omega) (by omega)).mpr q)
          refine lv_aload_n hx hb dX7_readCrossing_81 rfl (lv_at hl 5 rfl) ?_
          refine lv_iconst (v := 3) hx hb dX7_readCrossing_82 (by decide) ?_
          refine lv_iload hx hb dX7_readCrossing_83 (lv_at hl 1 rfl) ?_
          refine z_Vv (bc := [[zO7 rd rl rdd rg u0_67 u1_68 tp r2 u3_69 u4_70 u5_71 u6_72 u7_73 y8]]) (br := [z3, [zAr T 1 tp 600 ft]]) (As := [.int 3, .int y5]) (rest := []) C G (c_f_note l T rd rl rdd rg tp u0_67 u1_68 r2 u3_69 u4_70 u5_71 u6_72 u7_73 y8 3 y5) (kV_RX7_90 C.2.2.2.2 (Nat.le_of_ble_eq_true rfl) (Nat.le_of_ble_eq_true rfl)) [1] [1] rfl rfl (ci := 7) (qc := (RX7, TX7, 13)) rfl rfl (List.mem_flatten.mpr ⟨_, List.mem_of_getElem? (i := 0) rfl, List.mem_cons_self⟩) rfl rfl hl.1 dX7_readCrossing_85 (Nat.le_of_ble_eq_true rfl) (Nat.le_of_ble_eq_true rfl) (fun b1 H locs hw G => ?_)
          refine zEx2 hw ?_
          intro u0_89 u1_90
          refine zCu3 ?_
          intro hbs9 h_91 h_92
          clear hw
          subst hbs9
          have G : zS T A s.heap s [z3, [zAr T 1 tp 600 ft], [zO7 rd rl rdd rg u0_89 u1_90 tp r2 u3_69 u4_70 u5_71 u6_72 u7_73 y8]] _ _ := G
          have hnR : zRc k n ft u0_89 u1_90 r2 u3_69 u4_70 u5_71 u6_72 u7_73 (pCr k (pAt k j A9)).2 := zRc_cr4 (by omega) hokA hA1A.2.2.2 hA1A.2.1 hAIA hwA htA h_75 t5A h_91 h_92
          refine lv_iinc (v := nI (j + 1)) (lv' := [(2, .int (nI (j + 1))), (5, .int r_77), (4, .int y5), (3, .int (nI j)), (1, .int cr), (0, .ref rd)]) hx hb dX7_readCrossing_88 hl (k := 3) rfl (z_inc j 1) (by decide) rfl (fun ls hl => ?_)
          refine lv_aload_n hx hb dX7_readCrossing_91 rfl (lv_at hl 5 rfl) ?_
          refine z_get C G clX7 2 rfl 0 (by decide) m_fl_RX7_12 rfl dX7_readCrossing_92 ?_
          refine lv_iload_n hx hb dX7_readCrossing_95 rfl (lv_at hl 4 rfl) ?_
          refine lv_iload hx hb dX7_readCrossing_96 (lv_at hl 1 rfl) ?_
          refine z_Vv (bc := [z3]) (br := [[zAr T 1 tp 600 ft], [zO7 rd rl rdd rg u0_89 u1_90 tp r2 u3_69 u4_70 u5_71 u6_72 u7_73 y8]]) (As := [.int cr, .int r_77]) (rest := []) C G (c_addRoad l T rl cr inn x1 x2 k3 k4 z3 cr r_77 hz3 hI2) (kV_RX7_123 C.2.2.2.2 (Nat.le_of_ble_eq_true rfl) (Nat.le_of_ble_eq_true rfl)) [0] [0] rfl rfl (ci := 4) (qc := (RX4, TX4, 6)) rfl rfl (List.mem_flatten.mpr ⟨_, List.mem_of_getElem? (i := 0) rfl, (bLand_mem hz3).choose_spec⟩) rfl rfl hl.1 dX7_readCrossing_98 (Nat.le_of_ble_eq_true rfl) (Nat.le_of_ble_eq_true rfl) (fun b1 H locs hw G => ?_)
          refine zEx3 hw ?_
          intro w2_94 g1_95 g2_96
          refine zCu4 ?_
          intro hbs9 h_97 h_98 h_99
          clear hw
          subst hbs9
          have G : zS T A s.heap s [[zAr T 1 tp 600 ft], [zO7 rd rl rdd rg u0_89 u1_90 tp r2 u3_69 u4_70 u5_71 u6_72 u7_73 y8], w2_94] _ _ := G
          have hI3 : zLI cr g1_95 k3 := by rw [h_98]; exact zLI_add hI2 _
          refine lv_aload_n hx hb dX7_readCrossing_101 rfl (lv_at hl 5 rfl) ?_
          refine lv_iload hx hb dX7_readCrossing_102 (lv_at hl 1 rfl) ?_
          refine z_Vv (bc := [[zO7 rd rl rdd rg u0_89 u1_90 tp r2 u3_69 u4_70 u5_71 u6_72 u7_73 y8]]) (br := [[zAr T 1 tp 600 ft], w2_94]) (As := [.int r_77]) (rest := []) C G (c_f_tellOf l T rd rl rdd rg tp u0_89 u1_90 r2 u3_69 u4_70 u5_71 u6_72 u7_73 y8 r_77) (kV_RX7_126 C.2.2.2.2 (Nat.le_of_ble_eq_true rfl) (Nat.le_of_ble_eq_true rfl)) [1] [1] rfl rfl (ci := 7) (qc := (RX7, TX7, 13)) rfl rfl (List.mem_flatten.mpr ⟨_, List.mem_of_getElem? (i := 0) rfl, List.mem_cons_self⟩) rfl rfl hl.1 dX7_readCrossing_104 (Nat.le_of_ble_eq_true rfl) (Nat.le_of_ble_eq_true rfl) (fun b1 H locs hw G => ?_)
          refine zEx1 hw ?_
          intro u8_101
          refine zCu2 ?_
          intro hbs9 h_102
          clear hw
          subst hbs9
          have G : zS T A s.heap s [[zAr T 1 tp 600 ft], w2_94, [zO7 rd rl rdd rg u0_89 u1_90 tp r2 u3_69 u4_70 u5_71 u6_72 u7_73 u8_101]] _ _ := G
          have hnL : zLr cr cr inn g1_95 g2_96 k3 k4 u8_101 (min (j + 1) 4) (pCr k (pAt k j A9)).2 (pRow k j A9 fr) := by rw [h_98, h_99, h_102]; exact zLr_next hLr hokA hA1A.2.2.2 hA1A.2.1 hAIA hwA htA h_76
          refine lv_iinc (v := nI (j + 1)) (lv' := [(3, .int (nI (j + 1))), (2, .int (nI (j + 1))), (5, .int r_77), (4, .int y5), (1, .int cr), (0, .ref rd)]) hx hb dX7_readCrossing_107 hl (k := 3) rfl (z_inc j 1) (by decide) rfl (fun ls hl => ?_)
          refine lv_goto (tgt := 47) hx hb dX7_readCrossing_110 (by decide) ?_
          have G := G.sub (bs' := [w2_94, [zO7 rd rl rdd rg u0_89 u1_90 tp r2 u3_69 u4_70 u5_71 u6_72 u7_73 u8_101], [zAr T 1 tp 600 ft]]) [1, 2, 0] rfl
          exact ih_47 (j + 1) ((pCr k (pAt k j A9)).2) (pRow k j A9 fr) u0_89 u1_90 u3_69 u4_70 u5_71 u6_72 u7_73 u8_101 w2_94 g1_95 g2_96 (show bLand T rl cr inn g1_95 g2_96 k3 k4 w2_94 ∧ (j + 1) ≤ 601 ∧ zRc k n ft u0_89 u1_90 r2 u3_69 u4_70 u5_71 u6_72 u7_73 ((pCr k (pAt k j A9)).2) ∧ ((pCr k (pAt k j A9)).2).2.1.toInt = 0 ∧ (j + 1) ≤ ((pCr k (pAt k j A9)).2).1 ∧ pRoads k (601 - (j + 1)) (min (j + 1) 4) ((pCr k (pAt k j A9)).2) (pRow k j A9 fr) = pRoads k 601 0 b f ∧ (pRow k j A9 fr) 0 = f 0 ∧ zLr cr cr inn g1_95 g2_96 k3 k4 u8_101 (min (j + 1) 4) ((pCr k (pAt k j A9)).2) (pRow k j A9 fr) ∧ zLI cr g1_95 k3 from ⟨h_97, by omega, hnR, hst.1, hst.2.1, (pRoads_n (by omega) hwA htA hEq), hst.2.2, hnL, hI3⟩) (show 601 - (j + 1) < 601 - j from by omega) _ _ ls G (lv_sub hl [0, 1, 4, 5] rfl)


set_option maxHeartbeats 4000000 in
set_option maxRecDepth 100000 in
/-- puts -/
theorem c_m_puts (l : Launch) (T : zTy) (mo : Nat) (m_all : Nat) (m_has : Nat) (i_size : Int32) (i_next : Int32) (i_where : Int32) (i_token : Int32) (i_number : Int32) (i_word : Int32) (i_wrong : Int32) (i_farCrossing : Int32) (m_read : Nat) (i_z0 : Int32) (i_crossings : Int32) (i_inns : Int32) (m_posts : Nat) (m_shut : Nat) (m_here : Nat) (i_steps : Int32) (i_done : Int32) (i_at : Int32) (i_gone : Int32) (m_was : Nat) (m_came : Nat) (m_seenAt : Nat) (m_rowWorth : Nat) (m_farBy : Nat) (m_used : Nat) (i_everywhere : Int32) (i_again0 : Int32) (i_d0 : Int32) (i_never : Int32) (i_firstCame : Int32) (i_longRun : Int32) (i_moved : Int32) (i_crowd : Int32) (i_l0 : Int32) (i_fitMany : Int32) (i_fitLeast : Int32) (i_fitMost : Int32) (m_fitPost : Nat) (m_fitEnd : Nat) (m_keptPosts : Nat) (i_x0 : Int32) (f_was : Nat → Int32) (c_ : Int32) : zMv l T yX12_puts cX12_puts 3 1 0 0 [.ref mo, .int c_] [[zO11 mo m_all m_has i_size i_next i_where i_token i_number i_word i_wrong i_farCrossing m_read i_z0 i_crossings i_inns m_posts m_shut m_here i_steps i_done i_at i_gone m_was m_came m_seenAt m_rowWorth m_farBy m_used i_everywhere i_again0 i_d0 i_never i_firstCame i_longRun i_moved i_crowd i_l0 i_fitMany i_fitLeast i_fitMost m_fitPost m_fitEnd m_keptPosts i_x0], [zAr T 0 m_was 7 f_was]] (fun bs => ∃ (g_was : Nat → Int32), bs = [[zO11 mo m_all m_has i_size i_next i_where i_token i_number i_word i_wrong i_farCrossing m_read i_z0 i_crossings i_inns m_posts m_shut m_here i_steps i_done c_ 0 m_was m_came m_seenAt m_rowWorth m_farBy m_used i_everywhere i_again0 i_d0 i_never i_firstCame i_longRun i_moved i_crowd i_l0 i_fitMany i_fitLeast i_fitMost m_fitPost m_fitEnd m_keptPosts i_x0], [zAr T 0 m_was 7 g_was]]) := by
  refine zMv_of (own := RX12) (by decide) rfl (Nat.le_of_ble_eq_true rfl) ?_
  intro p e s m args below meth c A ls C hr hlocks hnm hAe G hl
  refine zHide (fun Q9 hQ9 => ?_)
  have hx := C.1
  have hb := C.2.1
  have hl : lv_has ls 3 [(0, .ref mo), (1, .int c_)] := hl
  refine lv_aload_n hx hb dX12_puts_0 rfl (lv_at hl 0 rfl) ?_
  refine lv_iload_n hx hb dX12_puts_1 rfl (lv_at hl 1 rfl) ?_
  refine z_put C G clX12 0 rfl 19 (by decide) m_fl_RX12_202 rfl rfl rfl (Nat.le_of_ble_eq_true rfl) dX12_puts_2 (fun H locs G => ?_)
  have G : zS T A s.heap s [[zO11 mo m_all m_has i_size i_next i_where i_token i_number i_word i_wrong i_farCrossing m_read i_z0 i_crossings i_inns m_posts m_shut m_here i_steps i_done c_ i_gone m_was m_came m_seenAt m_rowWorth m_farBy m_used i_everywhere i_again0 i_d0 i_never i_firstCame i_longRun i_moved i_crowd i_l0 i_fitMany i_fitLeast i_fitMost m_fitPost m_fitEnd m_keptPosts i_x0], [zAr T 0 m_was 7 f_was]] _ _ := G
  refine lv_aload_n hx hb dX12_puts_5 rfl (lv_at hl 0 rfl) ?_
  refine lv_iconst (v := 0) hx hb dX12_puts_6 (by decide) ?_
  refine z_put C G clX12 0 rfl 20 (by decide) m_fl_RX12_208 rfl rfl rfl (Nat.le_of_ble_eq_true rfl) dX12_puts_7 (fun H locs G => ?_)
  have G : zS T A s.heap s [[zO11 mo m_all m_has i_size i_next i_where i_token i_number i_word i_wrong i_farCrossing m_read i_z0 i_crossings i_inns m_posts m_shut m_here i_steps i_done c_ 0 m_was m_came m_seenAt m_rowWorth m_farBy m_used i_everywhere i_again0 i_d0 i_never i_firstCame i_longRun i_moved i_crowd i_l0 i_fitMany i_fitLeast i_fitMost m_fitPost m_fitEnd m_keptPosts i_x0], [zAr T 0 m_was 7 f_was]] _ _ := G
  refine lv_iconst (v := 0) hx hb dX12_puts_10 (by decide) ?_
  refine lv_istore_n (lv' := [(2, .int 0), (0, .ref mo), (1, .int c_)]) hx hb dX12_puts_11 rfl hl (by decide) rfl (fun ls hl => ?_)
  refine z_lp2 (T := T) 12 (fun (i : Nat) (x : Nat → Int32) => [[zO11 mo m_all m_has i_size i_next i_where i_token i_number i_word i_wrong i_farCrossing m_read i_z0 i_crossings i_inns m_posts m_shut m_here i_steps i_done c_ 0 m_was m_came m_seenAt m_rowWorth m_farBy m_used i_everywhere i_again0 i_d0 i_never i_firstCame i_longRun i_moved i_crowd i_l0 i_fitMany i_fitLeast i_fitMost m_fitPost m_fitEnd m_keptPosts i_x0], [zAr T 0 m_was 7 x]]) (fun (i : Nat) (x : Nat → Int32) => [(2, .int (nI i)), (0, .ref mo), (1, .int c_)]) (fun (i : Nat) (x : Nat → Int32) => i ≤ 7) (fun (i : Nat) (x : Nat → Int32) => 7 - i) ?_ 0 f_was (show 0 ≤ 7 from by omega) G (lv_sub hl [0, 1, 2] rfl)
  intro i x hi ih_12 H locs ls G hl
  replace hi : i ≤ 7 := hi
  replace G : zS T A s.heap s [[zO11 mo m_all m_has i_size i_next i_where i_token i_number i_word i_wrong i_farCrossing m_read i_z0 i_crossings i_inns m_posts m_shut m_here i_steps i_done c_ 0 m_was m_came m_seenAt m_rowWorth m_farBy m_used i_everywhere i_again0 i_d0 i_never i_firstCame i_longRun i_moved i_crowd i_l0 i_fitMany i_fitLeast i_fitMost m_fitPost m_fitEnd m_keptPosts i_x0], [zAr T 0 m_was 7 x]] _ _ := G
  replace hl : lv_has ls 3 [(2, .int (nI i)), (0, .ref mo), (1, .int c_)] := hl
  refine lv_iload_n hx hb dX12_puts_12 rfl (lv_at hl 0 rfl) ?_
  refine lv_bipush (v := 7) hx hb dX12_puts_13 (by decide) ?_
  refine lv_icmp_ge (tgt := 40) hx hb dX12_puts_15 (by decide) (fun c_1 => ?_) (fun c_1 => ?_)
  · have c_1n : 7 ≤ i := (nI_leI (a := 7) (b := i) (by omega) (by omega)).mp c_1
    exact z_back hQ9 (z_vret C hr hlocks G (Nat.le_of_ble_eq_true rfl) (Nat.le_of_ble_eq_true rfl) dX12_puts_40 ⟨x, rfl⟩)
  · have c_1n : ¬ 7 ≤ i := fun q => c_1 ((nI_leI (a := 7) (b := i) (by omega) (by omega)).mpr q)
    refine lv_aload_n hx hb dX12_puts_18 rfl (lv_at hl 1 rfl) ?_
    refine z_get C G clX12 0 rfl 21 (by decide) m_fl_RX12_29 rfl dX12_puts_19 ?_
    refine lv_iload_n hx hb dX12_puts_22 rfl (lv_at hl 0 rfl) ?_
    refine lv_iload_n hx hb dX12_puts_23 rfl (lv_at hl 0 rfl) ?_
    refine lv_iload_n hx hb dX12_puts_24 rfl (lv_at hl 2 rfl) ?_
    refine lv_icmp_ne (tgt := 32) hx hb dX12_puts_25 (by decide) (fun c_2 => ?_) (fun c_2 => ?_)
    · have c_2n : ¬ (i : Int) = c_.toInt := fun q => c_2 ((fa_eq _ _).mpr (by rw [nI_toInt (n := i) (by omega)]; exact q))
      refine lv_iconst (v := 0) hx hb dX12_puts_32 (by decide) ?_
      refine z_ist C G 1 rfl (vp_in_nI (by omega) (by omega)) dX12_puts_33 (fun H locs G => ?_)
      rw [nI_clamp (by omega)] at G
      have G : zS T A s.heap s [[zO11 mo m_all m_has i_size i_next i_where i_token i_number i_word i_wrong i_farCrossing m_read i_z0 i_crossings i_inns m_posts m_shut m_here i_steps i_done c_ 0 m_was m_came m_seenAt m_rowWorth m_farBy m_used i_everywhere i_again0 i_d0 i_never i_firstCame i_longRun i_moved i_crowd i_l0 i_fitMany i_fitLeast i_fitMost m_fitPost m_fitEnd m_keptPosts i_x0], [zAr T 0 m_was 7 (upd x i 0)]] _ _ := G
      refine lv_iinc (v := nI (i + 1)) (lv' := [(2, .int (nI (i + 1))), (0, .ref mo), (1, .int c_)]) hx hb dX12_puts_34 hl (k := 0) rfl (z_inc i 1) (by decide) rfl (fun ls hl => ?_)
      refine lv_goto (tgt := 12) hx hb dX12_puts_37 (by decide) ?_
      exact ih_12 (i + 1) (upd x i 0) (show (i + 1) ≤ 7 from by omega) (show 7 - (i + 1) < 7 - i from by omega) _ _ ls G (lv_sub hl [0, 1, 2] rfl)
    · have c_2n : (i : Int) = c_.toInt := by have q := (fa_eq _ _).mp c_2; rw [nI_toInt (n := i) (by omega)] at q; exact q
      refine lv_iconst (v := 1) hx hb dX12_puts_28 (by decide) ?_
      refine lv_goto (tgt := 33) hx hb dX12_puts_29 (by decide) ?_
      refine z_ist C G 1 rfl (vp_in_nI (by omega) (by omega)) dX12_puts_33 (fun H locs G => ?_)
      rw [nI_clamp (by omega)] at G
      have G : zS T A s.heap s [[zO11 mo m_all m_has i_size i_next i_where i_token i_number i_word i_wrong i_farCrossing m_read i_z0 i_crossings i_inns m_posts m_shut m_here i_steps i_done c_ 0 m_was m_came m_seenAt m_rowWorth m_farBy m_used i_everywhere i_again0 i_d0 i_never i_firstCame i_longRun i_moved i_crowd i_l0 i_fitMany i_fitLeast i_fitMost m_fitPost m_fitEnd m_keptPosts i_x0], [zAr T 0 m_was 7 (upd x i 1)]] _ _ := G
      refine lv_iinc (v := nI (i + 1)) (lv' := [(2, .int (nI (i + 1))), (0, .ref mo), (1, .int c_)]) hx hb dX12_puts_34 hl (k := 0) rfl (z_inc i 1) (by decide) rfl (fun ls hl => ?_)
      refine lv_goto (tgt := 12) hx hb dX12_puts_37 (by decide) ?_
      exact ih_12 (i + 1) (upd x i 1) (show (i + 1) ≤ 7 from by omega) (show 7 - (i + 1) < 7 - i from by omega) _ _ ls G (lv_sub hl [0, 1, 2] rfl)
set_option maxHeartbeats 4000000 in
set_option maxRecDepth 100000 in
/-- c_m_walks -/
theorem c_m_walks (l : Launch) (T : zTy) (mo : Nat) (m_all : Nat) (m_has : Nat) (i_size : Int32) (i_next : Int32) (i_where : Int32) (i_token : Int32) (i_number : Int32) (i_word : Int32) (i_wrong : Int32) (i_farCrossing : Int32) (m_read : Nat) (i_z0 : Int32) (i_crossings : Int32) (i_inns : Int32) (m_posts : Nat) (m_shut : Nat) (m_here : Nat) (i_steps : Int32) (i_done : Int32) (i_at : Int32) (i_gone : Int32) (m_was : Nat) (m_came : Nat) (m_seenAt : Nat) (m_rowWorth : Nat) (m_farBy : Nat) (m_used : Nat) (i_everywhere : Int32) (i_again0 : Int32) (i_d0 : Int32) (i_never : Int32) (i_firstCame : Int32) (i_longRun : Int32) (i_moved : Int32) (i_crowd : Int32) (i_l0 : Int32) (i_fitMany : Int32) (i_fitLeast : Int32) (i_fitMost : Int32) (m_fitPost : Nat) (m_fitEnd : Nat) (m_keptPosts : Nat) (i_x0 : Int32) (f_all : Nat → Int32) (f_posts : Nat → Int32) (f_shut : Nat → Int32) (f_was : Nat → Int32) (c_ : Int32) (hL : zML f_all i_z0 i_crossings) (hc0 : 0 ≤ c_.toInt) (hc6 : c_.toInt ≤ 6) (hP : zMP f_posts) : zMi l T yX12_walks cX12_walks 3 (some .boolean) 4 0 0 [.ref mo, .int c_] [[zO11 mo m_all m_has i_size i_next i_where i_token i_number i_word i_wrong i_farCrossing m_read i_z0 i_crossings i_inns m_posts m_shut m_here i_steps i_done i_at i_gone m_was m_came m_seenAt m_rowWorth m_farBy m_used i_everywhere i_again0 i_d0 i_never i_firstCame i_longRun i_moved i_crowd i_l0 i_fitMany i_fitLeast i_fitMost m_fitPost m_fitEnd m_keptPosts i_x0], [zAr T 0 m_all 3952 f_all], [zAr T 0 m_posts 7 f_posts], [zAr T 0 m_shut 7 f_shut], [zAr T 0 m_was 7 f_was]] (fun (r : Int32) bs => ∃ (j_at : Int32) (j_gone : Int32) (g_posts : Nat → Int32) (g_was : Nat → Int32), bs = [[zO11 mo m_all m_has i_size i_next i_where i_token i_number i_word i_wrong i_farCrossing m_read i_z0 i_crossings i_inns m_posts m_shut m_here i_steps i_done j_at j_gone m_was m_came m_seenAt m_rowWorth m_farBy m_used i_everywhere i_again0 i_d0 i_never i_firstCame i_longRun i_moved i_crowd i_l0 i_fitMany i_fitLeast i_fitMost m_fitPost m_fitEnd m_keptPosts i_x0], [zAr T 0 m_all 3952 f_all], [zAr T 0 m_posts 7 g_posts], [zAr T 0 m_shut 7 f_shut], [zAr T 0 m_was 7 g_was]] ∧ (r = 0 ∨ r = 1) ∧ 0 ≤ j_gone.toInt ∧ j_gone.toInt ≤ 499 ∧ zMP g_posts ∧ 0 ≤ j_at.toInt ∧ j_at.toInt ≤ 6) := by
  refine zMi_of (own := RX12) (by decide) rfl (Nat.le_of_ble_eq_true rfl) ?_
  intro p e s m args below meth c A ls C hr hlocks hnm hAe G hl
  refine zHide (fun Q9 hQ9 => ?_)
  have hx := C.1
  have hb := C.2.1
  have hl : lv_has ls 3 [(0, .ref mo), (1, .int c_)] := hl
  have hz := hL.1
  have hcr := hL.cr
  refine lv_aload_n hx hb dX12_walks_0 rfl (lv_at hl 0 rfl) ?_
  refine lv_iload_n hx hb dX12_walks_1 rfl (lv_at hl 1 rfl) ?_
  refine z_Vv (bc := [[zO11 mo m_all m_has i_size i_next i_where i_token i_number i_word i_wrong i_farCrossing m_read i_z0 i_crossings i_inns m_posts m_shut m_here i_steps i_done i_at i_gone m_was m_came m_seenAt m_rowWorth m_farBy m_used i_everywhere i_again0 i_d0 i_never i_firstCame i_longRun i_moved i_crowd i_l0 i_fitMany i_fitLeast i_fitMost m_fitPost m_fitEnd m_keptPosts i_x0], [zAr T 0 m_was 7 f_was]]) (br := [[zAr T 0 m_all 3952 f_all], [zAr T 0 m_posts 7 f_posts], [zAr T 0 m_shut 7 f_shut]]) (As := [.int c_]) (rest := []) C G (c_m_puts l T mo m_all m_has i_size i_next i_where i_token i_number i_word i_wrong i_farCrossing m_read i_z0 i_crossings i_inns m_posts m_shut m_here i_steps i_done i_at i_gone m_was m_came m_seenAt m_rowWorth m_farBy m_used i_everywhere i_again0 i_d0 i_never i_firstCame i_longRun i_moved i_crowd i_l0 i_fitMany i_fitLeast i_fitMost m_fitPost m_fitEnd m_keptPosts i_x0 f_was c_) (kV_RX12_211 C.2.2.2.2 (Nat.le_of_ble_eq_true rfl) (Nat.le_of_ble_eq_true rfl)) [0, 4] [0, 3] rfl rfl (ci := 11) (qc := (RX12, TX12, 43)) rfl rfl (List.mem_flatten.mpr ⟨_, List.mem_of_getElem? (i := 0) rfl, List.mem_cons_self⟩) rfl rfl hl.1 dX12_walks_2 (Nat.le_of_ble_eq_true rfl) (Nat.le_of_ble_eq_true rfl) (fun b1 H locs hw G => ?_)
  refine zEx1 hw ?_
  intro g_was_1 hbs9
  clear hw
  subst hbs9
  have G : zS T A s.heap s [[zAr T 0 m_all 3952 f_all], [zAr T 0 m_posts 7 f_posts], [zAr T 0 m_shut 7 f_shut], [zO11 mo m_all m_has i_size i_next i_where i_token i_number i_word i_wrong i_farCrossing m_read i_z0 i_crossings i_inns m_posts m_shut m_here i_steps i_done c_ 0 m_was m_came m_seenAt m_rowWorth m_farBy m_used i_everywhere i_again0 i_d0 i_never i_firstCame i_longRun i_moved i_crowd i_l0 i_fitMany i_fitLeast i_fitMost m_fitPost m_fitEnd m_keptPosts i_x0], [zAr T 0 m_was 7 g_was_1]] _ _ := G
  refine lv_iconst (v := 1) hx hb dX12_walks_5 (by decide) ?_
  refine lv_istore_n (lv' := [(2, .int 1), (0, .ref mo), (1, .int c_)]) hx hb dX12_walks_6 rfl hl (by decide) rfl (fun ls hl => ?_)
  refine z_lp5 (T := T) 7 (fun (x : Int32) (y : Int32) (b : Int32) (xp : Nat → Int32) (xw : Nat → Int32) => [[zAr T 0 m_all 3952 f_all], [zAr T 0 m_posts 7 xp], [zAr T 0 m_shut 7 f_shut], [zO11 mo m_all m_has i_size i_next i_where i_token i_number i_word i_wrong i_farCrossing m_read i_z0 i_crossings i_inns m_posts m_shut m_here i_steps i_done x y m_was m_came m_seenAt m_rowWorth m_farBy m_used i_everywhere i_again0 i_d0 i_never i_firstCame i_longRun i_moved i_crowd i_l0 i_fitMany i_fitLeast i_fitMost m_fitPost m_fitEnd m_keptPosts i_x0], [zAr T 0 m_was 7 xw]]) (fun (x : Int32) (y : Int32) (b : Int32) (xp : Nat → Int32) (xw : Nat → Int32) => [(2, .int b), (0, .ref mo), (1, .int c_)]) (fun (x : Int32) (y : Int32) (b : Int32) (xp : Nat → Int32) (xw : Nat → Int32) => 0 ≤ x.toInt ∧ x.toInt ≤ 6 ∧ 0 ≤ y.toInt ∧ y.toInt ≤ 499 ∧ zMP xp ∧ 0 ≤ b.toInt ∧ b.toInt ≤ 1) (fun (x : Int32) (y : Int32) (b : Int32) (xp : Nat → Int32) (xw : Nat → Int32) => (499 - y.toInt).toNat + b.toInt.toNat) ?_ c_ 0 1 f_posts g_was_1 (show 0 ≤ c_.toInt ∧ c_.toInt ≤ 6 ∧ 0 ≤ (0 : Int32).toInt ∧ (0 : Int32).toInt ≤ 499 ∧ zMP f_posts ∧ 0 ≤ (1 : Int32).toInt ∧ (1 : Int32).toInt ≤ 1 from ⟨by omega, by omega, by decide, by decide, hP, by decide⟩) G (lv_sub hl [0, 1, 2] rfl)
  intro x y b xp xw hI9 ih_7 H locs ls G hl
  replace hI9 : 0 ≤ x.toInt ∧ x.toInt ≤ 6 ∧ 0 ≤ y.toInt ∧ y.toInt ≤ 499 ∧ zMP xp ∧ 0 ≤ b.toInt ∧ b.toInt ≤ 1 := hI9
  refine zAn6 hI9 ?_
  intro hx0 hx6 hy0 hy9 hQ hb0
  clear hI9
  replace G : zS T A s.heap s [[zAr T 0 m_all 3952 f_all], [zAr T 0 m_posts 7 xp], [zAr T 0 m_shut 7 f_shut], [zO11 mo m_all m_has i_size i_next i_where i_token i_number i_word i_wrong i_farCrossing m_read i_z0 i_crossings i_inns m_posts m_shut m_here i_steps i_done x y m_was m_came m_seenAt m_rowWorth m_farBy m_used i_everywhere i_again0 i_d0 i_never i_firstCame i_longRun i_moved i_crowd i_l0 i_fitMany i_fitLeast i_fitMost m_fitPost m_fitEnd m_keptPosts i_x0], [zAr T 0 m_was 7 xw]] _ _ := G
  replace hl : lv_has ls 3 [(2, .int b), (0, .ref mo), (1, .int c_)] := hl
  refine lv_aload_n hx hb dX12_walks_7 rfl (lv_at hl 1 rfl) ?_
  refine z_get C G clX12 3 rfl 20 (by decide) m_fl_RX12_208 rfl dX12_walks_8 ?_
  refine lv_sipush (v := 499) hx hb dX12_walks_11 (by decide) ?_
  refine lv_icmp_ge (tgt := 29) hx hb dX12_walks_14 (by decide) (fun c_3 => ?_) (fun c_3 => ?_)
  · have c_3n : (499 : Int) ≤ y.toInt := (fa_le _ _).mp c_3
    refine lv_aload_n hx hb dX12_walks_29 rfl (lv_at hl 1 rfl) ?_
    refine lv_aload_n hx hb dX12_walks_30 rfl (lv_at hl 1 rfl) ?_
    refine z_get C G clX12 3 rfl 19 (by decide) m_fl_RX12_202 rfl dX12_walks_31 ?_
    refine z_Vi (bc := [[zO11 mo m_all m_has i_size i_next i_where i_token i_number i_word i_wrong i_farCrossing m_read i_z0 i_crossings i_inns m_posts m_shut m_here i_steps i_done x y m_was m_came m_seenAt m_rowWorth m_farBy m_used i_everywhere i_again0 i_d0 i_never i_firstCame i_longRun i_moved i_crowd i_l0 i_fitMany i_fitLeast i_fitMost m_fitPost m_fitEnd m_keptPosts i_x0]]) (br := [[zAr T 0 m_all 3952 f_all], [zAr T 0 m_posts 7 xp], [zAr T 0 m_shut 7 f_shut], [zAr T 0 m_was 7 xw]]) (As := [.int x]) (rest := []) C G (c_m_isInn l T mo m_all m_has i_size i_next i_where i_token i_number i_word i_wrong i_farCrossing m_read i_z0 i_crossings i_inns m_posts m_shut m_here i_steps i_done x y m_was m_came m_seenAt m_rowWorth m_farBy m_used i_everywhere i_again0 i_d0 i_never i_firstCame i_longRun i_moved i_crowd i_l0 i_fitMany i_fitLeast i_fitMost m_fitPost m_fitEnd m_keptPosts i_x0 x) (kV_RX12_178 C.2.2.2.2 (Nat.le_of_ble_eq_true rfl) (Nat.le_of_ble_eq_true rfl)) [3] [3] rfl rfl (ci := 11) (qc := (RX12, TX12, 43)) rfl rfl (List.mem_flatten.mpr ⟨_, List.mem_of_getElem? (i := 0) rfl, List.mem_cons_self⟩) rfl rfl hl.1 dX12_walks_34 (Nat.le_of_ble_eq_true rfl) (Nat.le_of_ble_eq_true rfl) (fun r_5 b1 H locs hw G => ?_)
    refine zAn2 hw ?_
    intro hbs9 hc_4
    clear hw
    subst hbs9
    have G : zS T A s.heap s [[zAr T 0 m_all 3952 f_all], [zAr T 0 m_posts 7 xp], [zAr T 0 m_shut 7 f_shut], [zAr T 0 m_was 7 xw], [zO11 mo m_all m_has i_size i_next i_where i_token i_number i_word i_wrong i_farCrossing m_read i_z0 i_crossings i_inns m_posts m_shut m_here i_steps i_done x y m_was m_came m_seenAt m_rowWorth m_farBy m_used i_everywhere i_again0 i_d0 i_never i_firstCame i_longRun i_moved i_crowd i_l0 i_fitMany i_fitLeast i_fitMost m_fitPost m_fitEnd m_keptPosts i_x0]] _ _ := G
    rcases hc_4 with ⟨rfl, h_6⟩ | ⟨rfl, h_7⟩
    · have h_6 : zInn i_inns x := h_6
      have G := G.sub (bs' := [[zO11 mo m_all m_has i_size i_next i_where i_token i_number i_word i_wrong i_farCrossing m_read i_z0 i_crossings i_inns m_posts m_shut m_here i_steps i_done x y m_was m_came m_seenAt m_rowWorth m_farBy m_used i_everywhere i_again0 i_d0 i_never i_firstCame i_longRun i_moved i_crowd i_l0 i_fitMany i_fitLeast i_fitMost m_fitPost m_fitEnd m_keptPosts i_x0], [zAr T 0 m_all 3952 f_all], [zAr T 0 m_posts 7 xp], [zAr T 0 m_shut 7 f_shut], [zAr T 0 m_was 7 xw]]) [4, 0, 1, 2, 3] rfl
      exact z_back hQ9 (z_zret C hr hlocks G (Nat.le_of_ble_eq_true rfl) (Nat.le_of_ble_eq_true rfl) dX12_walks_37 rfl ⟨x, y, xp, xw, rfl, (Or.inr rfl), (by first | with_reducible assumption | omega | trivial | assumption), (by first | with_reducible assumption | omega | trivial | assumption), (by first | with_reducible assumption | omega | trivial | assumption), (by first | with_reducible assumption | omega | trivial | assumption), (by first | with_reducible assumption | omega | trivial | assumption)⟩)
    · have h_7 : ¬ zInn i_inns x := h_7
      have G := G.sub (bs' := [[zO11 mo m_all m_has i_size i_next i_where i_token i_number i_word i_wrong i_farCrossing m_read i_z0 i_crossings i_inns m_posts m_shut m_here i_steps i_done x y m_was m_came m_seenAt m_rowWorth m_farBy m_used i_everywhere i_again0 i_d0 i_never i_firstCame i_longRun i_moved i_crowd i_l0 i_fitMany i_fitLeast i_fitMost m_fitPost m_fitEnd m_keptPosts i_x0], [zAr T 0 m_all 3952 f_all], [zAr T 0 m_posts 7 xp], [zAr T 0 m_shut 7 f_shut], [zAr T 0 m_was 7 xw]]) [4, 0, 1, 2, 3] rfl
      exact z_back hQ9 (z_zret C hr hlocks G (Nat.le_of_ble_eq_true rfl) (Nat.le_of_ble_eq_true rfl) dX12_walks_37 rfl ⟨x, y, xp, xw, rfl, (Or.inl rfl), (by first | with_reducible assumption | omega | trivial | assumption), (by first | with_reducible assumption | omega | trivial | assumption), (by first | with_reducible assumption | omega | trivial | assumption), (by first | with_reducible assumption | omega | trivial | assumption), (by first | with_reducible assumption | omega | trivial | assumption)⟩)
  · have c_3n : ¬ (499 : Int) ≤ y.toInt := fun q => c_3 ((fa_le _ _).mpr q)
    refine lv_iload_n hx hb dX12_walks_17 rfl (lv_at hl 0 rfl) ?_
    refine lv_if_eq (tgt := 29) hx hb dX12_walks_18 (by decide) (fun c_8 => ?_) (fun c_8 => ?_)
    · have c_8n : b.toInt = (0 : Int) := (fa_eq _ _).mp c_8
      refine lv_aload_n hx hb dX12_walks_29 rfl (lv_at hl 1 rfl) ?_
      refine lv_aload_n hx hb dX12_walks_30 rfl (lv_at hl 1 rfl) ?_
      refine z_get C G clX12 3 rfl 19 (by decide) m_fl_RX12_202 rfl dX12_walks_31 ?_
      refine z_Vi (bc := [[zO11 mo m_all m_has i_size i_next i_where i_token i_number i_word i_wrong i_farCrossing m_read i_z0 i_crossings i_inns m_posts m_shut m_here i_steps i_done x y m_was m_came m_seenAt m_rowWorth m_farBy m_used i_everywhere i_again0 i_d0 i_never i_firstCame i_longRun i_moved i_crowd i_l0 i_fitMany i_fitLeast i_fitMost m_fitPost m_fitEnd m_keptPosts i_x0]]) (br := [[zAr T 0 m_all 3952 f_all], [zAr T 0 m_posts 7 xp], [zAr T 0 m_shut 7 f_shut], [zAr T 0 m_was 7 xw]]) (As := [.int x]) (rest := []) C G (c_m_isInn l T mo m_all m_has i_size i_next i_where i_token i_number i_word i_wrong i_farCrossing m_read i_z0 i_crossings i_inns m_posts m_shut m_here i_steps i_done x y m_was m_came m_seenAt m_rowWorth m_farBy m_used i_everywhere i_again0 i_d0 i_never i_firstCame i_longRun i_moved i_crowd i_l0 i_fitMany i_fitLeast i_fitMost m_fitPost m_fitEnd m_keptPosts i_x0 x) (kV_RX12_178 C.2.2.2.2 (Nat.le_of_ble_eq_true rfl) (Nat.le_of_ble_eq_true rfl)) [3] [3] rfl rfl (ci := 11) (qc := (RX12, TX12, 43)) rfl rfl (List.mem_flatten.mpr ⟨_, List.mem_of_getElem? (i := 0) rfl, List.mem_cons_self⟩) rfl rfl hl.1 dX12_walks_34 (Nat.le_of_ble_eq_true rfl) (Nat.le_of_ble_eq_true rfl) (fun r_10 b1 H locs hw G => ?_)
      refine zAn2 hw ?_
      intro hbs9 hc_9
      clear hw
      subst hbs9
      have G : zS T A s.heap s [[zAr T 0 m_all 3952 f_all], [zAr T 0 m_posts 7 xp], [zAr T 0 m_shut 7 f_shut], [zAr T 0 m_was 7 xw], [zO11 mo m_all m_has i_size i_next i_where i_token i_number i_word i_wrong i_farCrossing m_read i_z0 i_crossings i_inns m_posts m_shut m_here i_steps i_done x y m_was m_came m_seenAt m_rowWorth m_farBy m_used i_everywhere i_again0 i_d0 i_never i_firstCame i_longRun i_moved i_crowd i_l0 i_fitMany i_fitLeast i_fitMost m_fitPost m_fitEnd m_keptPosts i_x0]] _ _ := G
      rcases hc_9 with ⟨rfl, h_11⟩ | ⟨rfl, h_12⟩
      · have h_11 : zInn i_inns x := h_11
        have G := G.sub (bs' := [[zO11 mo m_all m_has i_size i_next i_where i_token i_number i_word i_wrong i_farCrossing m_read i_z0 i_crossings i_inns m_posts m_shut m_here i_steps i_done x y m_was m_came m_seenAt m_rowWorth m_farBy m_used i_everywhere i_again0 i_d0 i_never i_firstCame i_longRun i_moved i_crowd i_l0 i_fitMany i_fitLeast i_fitMost m_fitPost m_fitEnd m_keptPosts i_x0], [zAr T 0 m_all 3952 f_all], [zAr T 0 m_posts 7 xp], [zAr T 0 m_shut 7 f_shut], [zAr T 0 m_was 7 xw]]) [4, 0, 1, 2, 3] rfl
        exact z_back hQ9 (z_zret C hr hlocks G (Nat.le_of_ble_eq_true rfl) (Nat.le_of_ble_eq_true rfl) dX12_walks_37 rfl ⟨x, y, xp, xw, rfl, (Or.inr rfl), (by first | with_reducible assumption | omega | trivial | assumption), (by first | with_reducible assumption | omega | trivial | assumption), (by first | with_reducible assumption | omega | trivial | assumption), (by first | with_reducible assumption | omega | trivial | assumption), (by first | with_reducible assumption | omega | trivial | assumption)⟩)
      · have h_12 : ¬ zInn i_inns x := h_12
        have G := G.sub (bs' := [[zO11 mo m_all m_has i_size i_next i_where i_token i_number i_word i_wrong i_farCrossing m_read i_z0 i_crossings i_inns m_posts m_shut m_here i_steps i_done x y m_was m_came m_seenAt m_rowWorth m_farBy m_used i_everywhere i_again0 i_d0 i_never i_firstCame i_longRun i_moved i_crowd i_l0 i_fitMany i_fitLeast i_fitMost m_fitPost m_fitEnd m_keptPosts i_x0], [zAr T 0 m_all 3952 f_all], [zAr T 0 m_posts 7 xp], [zAr T 0 m_shut 7 f_shut], [zAr T 0 m_was 7 xw]]) [4, 0, 1, 2, 3] rfl
        exact z_back hQ9 (z_zret C hr hlocks G (Nat.le_of_ble_eq_true rfl) (Nat.le_of_ble_eq_true rfl) dX12_walks_37 rfl ⟨x, y, xp, xw, rfl, (Or.inl rfl), (by first | with_reducible assumption | omega | trivial | assumption), (by first | with_reducible assumption | omega | trivial | assumption), (by first | with_reducible assumption | omega | trivial | assumption), (by first | with_reducible assumption | omega | trivial | assumption), (by first | with_reducible assumption | omega | trivial | assumption)⟩)
    · have c_8n : ¬ b.toInt = (0 : Int) := fun q => c_8 ((fa_eq _ _).mpr q)
      refine lv_aload_n hx hb dX12_walks_21 rfl (lv_at hl 1 rfl) ?_
      refine z_Vi (bc := [[zO11 mo m_all m_has i_size i_next i_where i_token i_number i_word i_wrong i_farCrossing m_read i_z0 i_crossings i_inns m_posts m_shut m_here i_steps i_done x y m_was m_came m_seenAt m_rowWorth m_farBy m_used i_everywhere i_again0 i_d0 i_never i_firstCame i_longRun i_moved i_crowd i_l0 i_fitMany i_fitLeast i_fitMost m_fitPost m_fitEnd m_keptPosts i_x0], [zAr T 0 m_all 3952 f_all], [zAr T 0 m_posts 7 xp], [zAr T 0 m_shut 7 f_shut], [zAr T 0 m_was 7 xw]]) (br := []) (As := []) (rest := []) C G (c_m_stepsOn l T mo m_all m_has i_size i_next i_where i_token i_number i_word i_wrong i_farCrossing m_read i_z0 i_crossings i_inns m_posts m_shut m_here i_steps i_done x y m_was m_came m_seenAt m_rowWorth m_farBy m_used i_everywhere i_again0 i_d0 i_never i_firstCame i_longRun i_moved i_crowd i_l0 i_fitMany i_fitLeast i_fitMost m_fitPost m_fitEnd m_keptPosts i_x0 f_all xp f_shut xw (by first | with_reducible assumption | with_reducible rfl | omega | assumption | rfl | decide) (by first | with_reducible assumption | with_reducible rfl | omega | assumption | rfl | decide) (by first | with_reducible assumption | with_reducible rfl | omega | assumption | rfl | decide) (by first | with_reducible assumption | with_reducible rfl | omega | assumption | rfl | decide) (by first | with_reducible assumption | with_reducible rfl | omega | assumption | rfl | decide) (by first | with_reducible assumption | with_reducible rfl | omega | assumption | rfl | decide)) (kV_RX12_214 C.2.2.2.2 (Nat.le_of_ble_eq_true rfl) (Nat.le_of_ble_eq_true rfl)) [3, 0, 1, 2, 4] [0, 0, 0, 0, 0] rfl rfl (ci := 11) (qc := (RX12, TX12, 43)) rfl rfl (List.mem_flatten.mpr ⟨_, List.mem_of_getElem? (i := 0) rfl, List.mem_cons_self⟩) rfl rfl hl.1 dX12_walks_22 (Nat.le_of_ble_eq_true rfl) (Nat.le_of_ble_eq_true rfl) (fun r_21 b1 H locs hw G => ?_)
      refine zEx4 hw ?_
      intro j_at_13 j_gone_14 g_posts_15 g_was_16
      refine zCu5 ?_
      intro hbs9 h_17 h_18 h_19 hc_20
      clear hw
      subst hbs9
      have G : zS T A s.heap s [[zO11 mo m_all m_has i_size i_next i_where i_token i_number i_word i_wrong i_farCrossing m_read i_z0 i_crossings i_inns m_posts m_shut m_here i_steps i_done j_at_13 j_gone_14 m_was m_came m_seenAt m_rowWorth m_farBy m_used i_everywhere i_again0 i_d0 i_never i_firstCame i_longRun i_moved i_crowd i_l0 i_fitMany i_fitLeast i_fitMost m_fitPost m_fitEnd m_keptPosts i_x0], [zAr T 0 m_all 3952 f_all], [zAr T 0 m_posts 7 g_posts_15], [zAr T 0 m_shut 7 f_shut], [zAr T 0 m_was 7 g_was_16]] _ _ := G
      rcases hc_20 with ⟨rfl, h_22⟩ | ⟨rfl, h_23⟩
      · have h_22 : j_gone_14.toInt = y.toInt + 1 := h_22
        refine lv_istore_n (lv' := [(2, .int 1), (0, .ref mo), (1, .int c_)]) hx hb dX12_walks_25 rfl hl (by decide) rfl (fun ls hl => ?_)
        refine lv_goto (tgt := 7) hx hb dX12_walks_26 (by decide) ?_
        have G := G.sub (bs' := [[zAr T 0 m_all 3952 f_all], [zAr T 0 m_posts 7 g_posts_15], [zAr T 0 m_shut 7 f_shut], [zO11 mo m_all m_has i_size i_next i_where i_token i_number i_word i_wrong i_farCrossing m_read i_z0 i_crossings i_inns m_posts m_shut m_here i_steps i_done j_at_13 j_gone_14 m_was m_came m_seenAt m_rowWorth m_farBy m_used i_everywhere i_again0 i_d0 i_never i_firstCame i_longRun i_moved i_crowd i_l0 i_fitMany i_fitLeast i_fitMost m_fitPost m_fitEnd m_keptPosts i_x0], [zAr T 0 m_was 7 g_was_16]]) [1, 2, 3, 0, 4] rfl
        exact ih_7 j_at_13 j_gone_14 1 g_posts_15 g_was_16 (show 0 ≤ j_at_13.toInt ∧ j_at_13.toInt ≤ 6 ∧ 0 ≤ j_gone_14.toInt ∧ j_gone_14.toInt ≤ 499 ∧ zMP g_posts_15 ∧ 0 ≤ (1 : Int32).toInt ∧ (1 : Int32).toInt ≤ 1 from ⟨by omega, by omega, by omega, by omega, (by assumption), by decide⟩) (show (499 - j_gone_14.toInt).toNat + (1 : Int32).toInt.toNat < (499 - y.toInt).toNat + b.toInt.toNat from by have e1 : (1 : Int32).toInt = 1 := rfl; have e0 : (0 : Int32).toInt = 0 := rfl; omega) _ _ ls G (lv_sub hl [0, 1, 2] rfl)
      · have h_23 : j_gone_14.toInt = y.toInt := h_23
        refine lv_istore_n (lv' := [(2, .int 0), (0, .ref mo), (1, .int c_)]) hx hb dX12_walks_25 rfl hl (by decide) rfl (fun ls hl => ?_)
        refine lv_goto (tgt := 7) hx hb dX12_walks_26 (by decide) ?_
        have G := G.sub (bs' := [[zAr T 0 m_all 3952 f_all], [zAr T 0 m_posts 7 g_posts_15], [zAr T 0 m_shut 7 f_shut], [zO11 mo m_all m_has i_size i_next i_where i_token i_number i_word i_wrong i_farCrossing m_read i_z0 i_crossings i_inns m_posts m_shut m_here i_steps i_done j_at_13 j_gone_14 m_was m_came m_seenAt m_rowWorth m_farBy m_used i_everywhere i_again0 i_d0 i_never i_firstCame i_longRun i_moved i_crowd i_l0 i_fitMany i_fitLeast i_fitMost m_fitPost m_fitEnd m_keptPosts i_x0], [zAr T 0 m_was 7 g_was_16]]) [1, 2, 3, 0, 4] rfl
        exact ih_7 j_at_13 j_gone_14 0 g_posts_15 g_was_16 (show 0 ≤ j_at_13.toInt ∧ j_at_13.toInt ≤ 6 ∧ 0 ≤ j_gone_14.toInt ∧ j_gone_14.toInt ≤ 499 ∧ zMP g_posts_15 ∧ 0 ≤ (0 : Int32).toInt ∧ (0 : Int32).toInt ≤ 1 from ⟨by omega, by omega, by omega, by omega, (by assumption), by decide⟩) (show (499 - j_gone_14.toInt).toNat + (0 : Int32).toInt.toNat < (499 - y.toInt).toNat + b.toInt.toNat from by have e1 : (1 : Int32).toInt = 1 := rfl; have e0 : (0 : Int32).toInt = 0 := rfl; omega) _ _ ls G (lv_sub hl [0, 1, 2] rfl)
theorem zQ4 {v p : Int32} {i : Nat} (hi : i < 7) (hv : 0 ≤ v.toInt ∧ v.toInt < ((4 ^ i : Nat) : Int)) (hp : 0 ≤ p.toInt ∧ p.toInt ≤ 3) : 0 ≤ (4 * v + p).toInt ∧ (4 * v + p).toInt < ((4 ^ (i + 1) : Nat) : Int) := by
  have h1 : 4 ^ i ≤ 4 ^ 6 := Nat.pow_le_pow_right (by decide) (by omega)
  have h2 : 4 ^ (i + 1) = 4 ^ i * 4 := Nat.pow_succ ..
  have h3 : (4 : Nat) ^ 6 = 4096 := by decide
  have e4 : (4 : Int32).toInt = 4 := rfl
  have a : (4 * v).toInt = 4 * v.toInt := by
    have := z_imulI (x := 4) (y := v) (by rw [e4]; omega) (by rw [e4]; omega)
    rw [this, e4]
  have b : (4 * v + p).toInt = 4 * v.toInt + p.toInt := by
    rw [z_iaddI (x := 4 * v) (y := p) (by omega) (by omega), a]
  omega
theorem zP4 {i : Nat} (hi : i ≤ 7) : ((4 ^ i : Nat) : Int) ≤ 16384 := by
  have h1 : 4 ^ i ≤ 4 ^ 7 := Nat.pow_le_pow_right (by decide) hi
  have h3 : (4 : Nat) ^ 7 = 16384 := by decide
  omega
theorem zW4 {n r : Int32} {i : Nat} (hi : i < 7) (hn : 1 ≤ n.toInt ∧ n.toInt ≤ ((4 ^ i : Nat) : Int)) (h1 : 1 ≤ r.toInt) (h4 : r.toInt ≤ 4) : 1 ≤ (n * r).toInt ∧ (n * r).toInt ≤ ((4 ^ (i + 1) : Nat) : Int) := by
  have p1 : 4 ^ i ≤ 4 ^ 6 := Nat.pow_le_pow_right (by decide) (by omega)
  have p2 : 4 ^ (i + 1) = 4 ^ i * 4 := Nat.pow_succ ..
  have p3 : (4 : Nat) ^ 6 = 4096 := by decide
  have c : r.toInt = 1 ∨ r.toInt = 2 ∨ r.toInt = 3 ∨ r.toInt = 4 := by omega
  have e : (n * r).toInt = n.toInt * r.toInt := by
    rcases c with c | c | c | c <;> exact z_imulI (by rw [c]; omega) (by rw [c]; omega)
  rw [e]
  rcases c with c | c | c | c <;> rw [c] <;> omega
theorem zDiv0 {x y : Int32} (hx : 0 ≤ x.toInt) (hy : 0 < y.toInt) : 0 ≤ (x / y).toInt := by
  have hb := Int32.toInt_lt x
  have q : 0 ≤ x.toInt.tdiv y.toInt := Int.tdiv_nonneg hx (by omega)
  have q2 : x.toInt.tdiv y.toInt ≤ x.toInt := Int.tdiv_le_self _ hx
  rw [Int32.toInt_div, Int.bmod_eq_of_le (by omega) (by omega)]
  exact q
theorem zRemA {x y : Int32} (hy : ¬ y.toInt = 0) : (x - x / y * y).toInt.natAbs < y.toInt.natAbs := by
  rw [rem_toInt, Int.natAbs_tmod]
  exact Nat.mod_lt _ (by omega)
set_option maxHeartbeats 4000000 in
set_option maxRecDepth 100000 in
/-- c_m_postsNow -/
theorem c_m_postsNow (l : Launch) (T : zTy) (mo : Nat) (m_all : Nat) (m_has : Nat) (i_size : Int32) (i_next : Int32) (i_where : Int32) (i_token : Int32) (i_number : Int32) (i_word : Int32) (i_wrong : Int32) (i_farCrossing : Int32) (m_read : Nat) (i_z0 : Int32) (i_crossings : Int32) (i_inns : Int32) (m_posts : Nat) (m_shut : Nat) (m_here : Nat) (i_steps : Int32) (i_done : Int32) (i_at : Int32) (i_gone : Int32) (m_was : Nat) (m_came : Nat) (m_seenAt : Nat) (m_rowWorth : Nat) (m_farBy : Nat) (m_used : Nat) (i_everywhere : Int32) (i_again0 : Int32) (i_d0 : Int32) (i_never : Int32) (i_firstCame : Int32) (i_longRun : Int32) (i_moved : Int32) (i_crowd : Int32) (i_l0 : Int32) (i_fitMany : Int32) (i_fitLeast : Int32) (i_fitMost : Int32) (m_fitPost : Nat) (m_fitEnd : Nat) (m_keptPosts : Nat) (i_x0 : Int32) (f_posts : Nat → Int32) (hcr : 0 ≤ i_crossings.toInt ∧ i_crossings.toInt ≤ 7) (hP : zMP f_posts) : zMi l T yX12_postsNow cX12_postsNow 3 (some .int) 1 0 0 [.ref mo] [[zO11 mo m_all m_has i_size i_next i_where i_token i_number i_word i_wrong i_farCrossing m_read i_z0 i_crossings i_inns m_posts m_shut m_here i_steps i_done i_at i_gone m_was m_came m_seenAt m_rowWorth m_farBy m_used i_everywhere i_again0 i_d0 i_never i_firstCame i_longRun i_moved i_crowd i_l0 i_fitMany i_fitLeast i_fitMost m_fitPost m_fitEnd m_keptPosts i_x0], [zAr T 0 m_posts 7 f_posts]] (fun (r : Int32) bs => bs = [[zO11 mo m_all m_has i_size i_next i_where i_token i_number i_word i_wrong i_farCrossing m_read i_z0 i_crossings i_inns m_posts m_shut m_here i_steps i_done i_at i_gone m_was m_came m_seenAt m_rowWorth m_farBy m_used i_everywhere i_again0 i_d0 i_never i_firstCame i_longRun i_moved i_crowd i_l0 i_fitMany i_fitLeast i_fitMost m_fitPost m_fitEnd m_keptPosts i_x0], [zAr T 0 m_posts 7 f_posts]] ∧ 0 ≤ r.toInt ∧ r.toInt < 16384) := by
  refine zMi_of (own := RX12) (by decide) rfl (Nat.le_of_ble_eq_true rfl) ?_
  intro p e s m args below meth c A ls C hr hlocks hnm hAe G hl
  refine zHide (fun Q9 hQ9 => ?_)
  have hx := C.1
  have hb := C.2.1
  have hl : lv_has ls 3 [(0, .ref mo)] := hl
  refine lv_iconst (v := 0) hx hb dX12_postsNow_0 (by decide) ?_
  refine lv_istore_n (lv' := [(1, .int 0), (0, .ref mo)]) hx hb dX12_postsNow_1 rfl hl (by decide) rfl (fun ls hl => ?_)
  refine lv_iconst (v := 0) hx hb dX12_postsNow_2 (by decide) ?_
  refine lv_istore_n (lv' := [(2, .int 0), (1, .int 0), (0, .ref mo)]) hx hb dX12_postsNow_3 rfl hl (by decide) rfl (fun ls hl => ?_)
  refine z_lp2 (T := T) 4 (fun (i : Nat) (v : Int32) => [[zO11 mo m_all m_has i_size i_next i_where i_token i_number i_word i_wrong i_farCrossing m_read i_z0 i_crossings i_inns m_posts m_shut m_here i_steps i_done i_at i_gone m_was m_came m_seenAt m_rowWorth m_farBy m_used i_everywhere i_again0 i_d0 i_never i_firstCame i_longRun i_moved i_crowd i_l0 i_fitMany i_fitLeast i_fitMost m_fitPost m_fitEnd m_keptPosts i_x0], [zAr T 0 m_posts 7 f_posts]]) (fun (i : Nat) (v : Int32) => [(2, .int (nI i)), (1, .int v), (0, .ref mo)]) (fun (i : Nat) (v : Int32) => i ≤ 7 ∧ 0 ≤ v.toInt ∧ v.toInt < ((4 ^ i : Nat) : Int)) (fun (i : Nat) (v : Int32) => 7 - i) ?_ 0 0 (show 0 ≤ 7 ∧ 0 ≤ (0 : Int32).toInt ∧ (0 : Int32).toInt < ((4 ^ 0 : Nat) : Int) from ⟨by omega, (by decide)⟩) G (lv_sub hl [0, 1, 2] rfl)
  intro i v hI9 ih_4 H locs ls G hl
  replace hI9 : i ≤ 7 ∧ 0 ≤ v.toInt ∧ v.toInt < ((4 ^ i : Nat) : Int) := hI9
  refine zAn2 hI9 ?_
  intro hi hv
  clear hI9
  replace G : zS T A s.heap s [[zO11 mo m_all m_has i_size i_next i_where i_token i_number i_word i_wrong i_farCrossing m_read i_z0 i_crossings i_inns m_posts m_shut m_here i_steps i_done i_at i_gone m_was m_came m_seenAt m_rowWorth m_farBy m_used i_everywhere i_again0 i_d0 i_never i_firstCame i_longRun i_moved i_crowd i_l0 i_fitMany i_fitLeast i_fitMost m_fitPost m_fitEnd m_keptPosts i_x0], [zAr T 0 m_posts 7 f_posts]] _ _ := G
  replace hl : lv_has ls 3 [(2, .int (nI i)), (1, .int v), (0, .ref mo)] := hl
  refine lv_iload_n hx hb dX12_postsNow_4 rfl (lv_at hl 0 rfl) ?_
  refine lv_aload_n hx hb dX12_postsNow_5 rfl (lv_at hl 2 rfl) ?_
  refine z_get C G clX12 0 rfl 12 (by decide) m_fl_RX12_169 rfl dX12_postsNow_6 ?_
  refine lv_icmp_ge (tgt := 29) hx hb dX12_postsNow_9 (by decide) (fun c_1 => ?_) (fun c_1 => ?_)
  · have c_1n : i_crossings.toInt ≤ (i : Int) := by have q := (fa_le _ _).mp c_1; rw [nI_toInt (n := i) (by omega)] at q; exact q
    refine lv_iload_n hx hb dX12_postsNow_29 rfl (lv_at hl 1 rfl) ?_
    exact z_back hQ9 (z_iret C hr hlocks G (Nat.le_of_ble_eq_true rfl) (Nat.le_of_ble_eq_true rfl) dX12_postsNow_30 ⟨rfl, hv.1, (Int.lt_of_lt_of_le hv.2 (zP4 (by omega)))⟩)
  · have c_1n : ¬ i_crossings.toInt ≤ (i : Int) := fun q => c_1 ((fa_le _ _).mpr (by rw [nI_toInt (n := i) (by omega)]; exact q))
    refine lv_iconst (v := 4) hx hb dX12_postsNow_12 (by decide) ?_
    refine lv_iload_n hx hb dX12_postsNow_13 rfl (lv_at hl 1 rfl) ?_
    refine lv_imul hx hb dX12_postsNow_14 ?_
    refine lv_aload_n hx hb dX12_postsNow_15 rfl (lv_at hl 2 rfl) ?_
    refine z_get C G clX12 0 rfl 14 (by decide) m_fl_RX12_20 rfl dX12_postsNow_16 ?_
    refine lv_iload_n hx hb dX12_postsNow_19 rfl (lv_at hl 0 rfl) ?_
    refine z_ild C G 1 rfl (vp_in_nI (by omega) (by omega)) dX12_postsNow_20 ?_
    refine lv_topi (fun v_2 ev_2 => ?_)
    rw [nI_clamp (by omega)] at ev_2
    subst ev_2
    refine lv_iadd hx hb dX12_postsNow_21 ?_
    refine lv_istore_n (lv' := [(1, .int ((4 * v) + (f_posts i))), (2, .int (nI i)), (0, .ref mo)]) hx hb dX12_postsNow_22 rfl hl (by decide) rfl (fun ls hl => ?_)
    refine lv_iinc (v := nI (i + 1)) (lv' := [(2, .int (nI (i + 1))), (1, .int ((4 * v) + (f_posts i))), (0, .ref mo)]) hx hb dX12_postsNow_23 hl (k := 1) rfl (z_inc i 1) (by decide) rfl (fun ls hl => ?_)
    refine lv_goto (tgt := 4) hx hb dX12_postsNow_26 (by decide) ?_
    exact ih_4 (i + 1) ((4 * v) + (f_posts i)) (show (i + 1) ≤ 7 ∧ 0 ≤ ((4 * v) + (f_posts i)).toInt ∧ ((4 * v) + (f_posts i)).toInt < ((4 ^ (i + 1) : Nat) : Int) from ⟨by omega, (zQ4 (by omega) hv (hP i (by omega)))⟩) (show 7 - (i + 1) < 7 - i from by omega) _ _ ls G (lv_sub hl [0, 1, 2] rfl)
set_option maxHeartbeats 4000000 in
set_option maxRecDepth 100000 in
/-- c_m_waysMany -/
theorem c_m_waysMany (l : Launch) (T : zTy) (mo : Nat) (m_all : Nat) (m_has : Nat) (i_size : Int32) (i_next : Int32) (i_where : Int32) (i_token : Int32) (i_number : Int32) (i_word : Int32) (i_wrong : Int32) (i_farCrossing : Int32) (m_read : Nat) (i_z0 : Int32) (i_crossings : Int32) (i_inns : Int32) (m_posts : Nat) (m_shut : Nat) (m_here : Nat) (i_steps : Int32) (i_done : Int32) (i_at : Int32) (i_gone : Int32) (m_was : Nat) (m_came : Nat) (m_seenAt : Nat) (m_rowWorth : Nat) (m_farBy : Nat) (m_used : Nat) (i_everywhere : Int32) (i_again0 : Int32) (i_d0 : Int32) (i_never : Int32) (i_firstCame : Int32) (i_longRun : Int32) (i_moved : Int32) (i_crowd : Int32) (i_l0 : Int32) (i_fitMany : Int32) (i_fitLeast : Int32) (i_fitMost : Int32) (m_fitPost : Nat) (m_fitEnd : Nat) (m_keptPosts : Nat) (i_x0 : Int32) (f_all : Nat → Int32) (hL : zML f_all i_z0 i_crossings) : zMi l T yX12_waysMany cX12_waysMany 3 (some .int) 3 0 0 [.ref mo] [[zO11 mo m_all m_has i_size i_next i_where i_token i_number i_word i_wrong i_farCrossing m_read i_z0 i_crossings i_inns m_posts m_shut m_here i_steps i_done i_at i_gone m_was m_came m_seenAt m_rowWorth m_farBy m_used i_everywhere i_again0 i_d0 i_never i_firstCame i_longRun i_moved i_crowd i_l0 i_fitMany i_fitLeast i_fitMost m_fitPost m_fitEnd m_keptPosts i_x0], [zAr T 0 m_all 3952 f_all]] (fun (r : Int32) bs => bs = [[zO11 mo m_all m_has i_size i_next i_where i_token i_number i_word i_wrong i_farCrossing m_read i_z0 i_crossings i_inns m_posts m_shut m_here i_steps i_done i_at i_gone m_was m_came m_seenAt m_rowWorth m_farBy m_used i_everywhere i_again0 i_d0 i_never i_firstCame i_longRun i_moved i_crowd i_l0 i_fitMany i_fitLeast i_fitMost m_fitPost m_fitEnd m_keptPosts i_x0], [zAr T 0 m_all 3952 f_all]] ∧ 1 ≤ r.toInt ∧ r.toInt ≤ 16384) := by
  refine zMi_of (own := RX12) (by decide) rfl (Nat.le_of_ble_eq_true rfl) ?_
  intro p e s m args below meth c A ls C hr hlocks hnm hAe G hl
  refine zHide (fun Q9 hQ9 => ?_)
  have hx := C.1
  have hb := C.2.1
  have hl : lv_has ls 3 [(0, .ref mo)] := hl
  have hz := hL.1
  have hcr := hL.cr
  refine lv_iconst (v := 1) hx hb dX12_waysMany_0 (by decide) ?_
  refine lv_istore_n (lv' := [(1, .int 1), (0, .ref mo)]) hx hb dX12_waysMany_1 rfl hl (by decide) rfl (fun ls hl => ?_)
  refine lv_iconst (v := 0) hx hb dX12_waysMany_2 (by decide) ?_
  refine lv_istore_n (lv' := [(2, .int 0), (1, .int 1), (0, .ref mo)]) hx hb dX12_waysMany_3 rfl hl (by decide) rfl (fun ls hl => ?_)
  refine z_lp2 (T := T) 4 (fun (i : Nat) (v : Int32) => [[zO11 mo m_all m_has i_size i_next i_where i_token i_number i_word i_wrong i_farCrossing m_read i_z0 i_crossings i_inns m_posts m_shut m_here i_steps i_done i_at i_gone m_was m_came m_seenAt m_rowWorth m_farBy m_used i_everywhere i_again0 i_d0 i_never i_firstCame i_longRun i_moved i_crowd i_l0 i_fitMany i_fitLeast i_fitMost m_fitPost m_fitEnd m_keptPosts i_x0], [zAr T 0 m_all 3952 f_all]]) (fun (i : Nat) (v : Int32) => [(2, .int (nI i)), (1, .int v), (0, .ref mo)]) (fun (i : Nat) (v : Int32) => i ≤ 7 ∧ 1 ≤ v.toInt ∧ v.toInt ≤ ((4 ^ i : Nat) : Int)) (fun (i : Nat) (v : Int32) => 7 - i) ?_ 0 1 (show 0 ≤ 7 ∧ 1 ≤ (1 : Int32).toInt ∧ (1 : Int32).toInt ≤ ((4 ^ 0 : Nat) : Int) from ⟨by omega, (by decide)⟩) G (lv_sub hl [0, 1, 2] rfl)
  intro i v hI9 ih_4 H locs ls G hl
  replace hI9 : i ≤ 7 ∧ 1 ≤ v.toInt ∧ v.toInt ≤ ((4 ^ i : Nat) : Int) := hI9
  refine zAn2 hI9 ?_
  intro hi hv
  clear hI9
  replace G : zS T A s.heap s [[zO11 mo m_all m_has i_size i_next i_where i_token i_number i_word i_wrong i_farCrossing m_read i_z0 i_crossings i_inns m_posts m_shut m_here i_steps i_done i_at i_gone m_was m_came m_seenAt m_rowWorth m_farBy m_used i_everywhere i_again0 i_d0 i_never i_firstCame i_longRun i_moved i_crowd i_l0 i_fitMany i_fitLeast i_fitMost m_fitPost m_fitEnd m_keptPosts i_x0], [zAr T 0 m_all 3952 f_all]] _ _ := G
  replace hl : lv_has ls 3 [(2, .int (nI i)), (1, .int v), (0, .ref mo)] := hl
  refine lv_iload_n hx hb dX12_waysMany_4 rfl (lv_at hl 0 rfl) ?_
  refine lv_aload_n hx hb dX12_waysMany_5 rfl (lv_at hl 2 rfl) ?_
  refine z_get C G clX12 0 rfl 12 (by decide) m_fl_RX12_169 rfl dX12_waysMany_6 ?_
  refine lv_icmp_ge (tgt := 38) hx hb dX12_waysMany_9 (by decide) (fun c_1 => ?_) (fun c_1 => ?_)
  · have c_1n : i_crossings.toInt ≤ (i : Int) := by have q := (fa_le _ _).mp c_1; rw [nI_toInt (n := i) (by omega)] at q; exact q
    refine lv_iload_n hx hb dX12_waysMany_38 rfl (lv_at hl 1 rfl) ?_
    exact z_back hQ9 (z_iret C hr hlocks G (Nat.le_of_ble_eq_true rfl) (Nat.le_of_ble_eq_true rfl) dX12_waysMany_39 ⟨rfl, hv.1, (Int.le_trans hv.2 (zP4 (by omega)))⟩)
  · have c_1n : ¬ i_crossings.toInt ≤ (i : Int) := fun q => c_1 ((fa_le _ _).mpr (by rw [nI_toInt (n := i) (by omega)]; exact q))
    refine lv_iload_n hx hb dX12_waysMany_12 rfl (lv_at hl 1 rfl) ?_
    refine lv_aload_n hx hb dX12_waysMany_13 rfl (lv_at hl 2 rfl) ?_
    refine lv_iload_n hx hb dX12_waysMany_14 rfl (lv_at hl 0 rfl) ?_
    have ti_2 : (nI i).toInt = ((i : Nat) : Int) := nI_toInt (by omega)
    refine z_Vi (bc := [[zO11 mo m_all m_has i_size i_next i_where i_token i_number i_word i_wrong i_farCrossing m_read i_z0 i_crossings i_inns m_posts m_shut m_here i_steps i_done i_at i_gone m_was m_came m_seenAt m_rowWorth m_farBy m_used i_everywhere i_again0 i_d0 i_never i_firstCame i_longRun i_moved i_crowd i_l0 i_fitMany i_fitLeast i_fitMost m_fitPost m_fitEnd m_keptPosts i_x0], [zAr T 0 m_all 3952 f_all]]) (br := []) (As := [.int (nI i)]) (rest := [.int v]) C G (c_m_isFree l T mo m_all m_has i_size i_next i_where i_token i_number i_word i_wrong i_farCrossing m_read i_z0 i_crossings i_inns m_posts m_shut m_here i_steps i_done i_at i_gone m_was m_came m_seenAt m_rowWorth m_farBy m_used i_everywhere i_again0 i_d0 i_never i_firstCame i_longRun i_moved i_crowd i_l0 i_fitMany i_fitLeast i_fitMost m_fitPost m_fitEnd m_keptPosts i_x0 f_all (nI i) (by first | with_reducible assumption | with_reducible rfl | omega | assumption | rfl | decide) (by first | with_reducible assumption | with_reducible rfl | omega | assumption | rfl | decide) (by first | with_reducible assumption | with_reducible rfl | omega | assumption | rfl | decide)) (kV_RX12_223 C.2.2.2.2 (Nat.le_of_ble_eq_true rfl) (Nat.le_of_ble_eq_true rfl)) [0, 1] [0, 0] rfl rfl (ci := 11) (qc := (RX12, TX12, 43)) rfl rfl (List.mem_flatten.mpr ⟨_, List.mem_of_getElem? (i := 0) rfl, List.mem_cons_self⟩) rfl rfl hl.1 dX12_waysMany_15 (Nat.le_of_ble_eq_true rfl) (Nat.le_of_ble_eq_true rfl) (fun r_4 b1 H locs hw G => ?_)
    refine zAn2 hw ?_
    intro hbs9 hc_3
    clear hw
    subst hbs9
    have G : zS T A s.heap s [[zO11 mo m_all m_has i_size i_next i_where i_token i_number i_word i_wrong i_farCrossing m_read i_z0 i_crossings i_inns m_posts m_shut m_here i_steps i_done i_at i_gone m_was m_came m_seenAt m_rowWorth m_farBy m_used i_everywhere i_again0 i_d0 i_never i_firstCame i_longRun i_moved i_crowd i_l0 i_fitMany i_fitLeast i_fitMost m_fitPost m_fitEnd m_keptPosts i_x0], [zAr T 0 m_all 3952 f_all]] _ _ := G
    rcases hc_3 with ⟨rfl, h_5, h_6⟩ | ⟨rfl, h_7⟩
    · have h_5 : ¬ zInn i_inns (nI i) := h_5
      have h_6 : 0 < (zRd f_all i_z0 (nI i)).toInt := h_6
      refine lv_if_eq (tgt := 29) hx hb dX12_waysMany_18 (by decide) (fun q => absurd q (by decide)) (fun _ => ?_)
      refine lv_aload_n hx hb dX12_waysMany_21 rfl (lv_at hl 2 rfl) ?_
      refine lv_iload_n hx hb dX12_waysMany_22 rfl (lv_at hl 0 rfl) ?_
      have ti_8 : (nI i).toInt = ((i : Nat) : Int) := nI_toInt (by omega)
      refine z_Vi (bc := [[zO11 mo m_all m_has i_size i_next i_where i_token i_number i_word i_wrong i_farCrossing m_read i_z0 i_crossings i_inns m_posts m_shut m_here i_steps i_done i_at i_gone m_was m_came m_seenAt m_rowWorth m_farBy m_used i_everywhere i_again0 i_d0 i_never i_firstCame i_longRun i_moved i_crowd i_l0 i_fitMany i_fitLeast i_fitMost m_fitPost m_fitEnd m_keptPosts i_x0], [zAr T 0 m_all 3952 f_all]]) (br := []) (As := [.int (nI i)]) (rest := [.int v]) C G (c_m_roadsOf l T mo m_all m_has i_size i_next i_where i_token i_number i_word i_wrong i_farCrossing m_read i_z0 i_crossings i_inns m_posts m_shut m_here i_steps i_done i_at i_gone m_was m_came m_seenAt m_rowWorth m_farBy m_used i_everywhere i_again0 i_d0 i_never i_firstCame i_longRun i_moved i_crowd i_l0 i_fitMany i_fitLeast i_fitMost m_fitPost m_fitEnd m_keptPosts i_x0 f_all (nI i) (by first | with_reducible assumption | with_reducible rfl | omega | assumption | rfl | decide) (by first | with_reducible assumption | with_reducible rfl | omega | assumption | rfl | decide) (by first | with_reducible assumption | with_reducible rfl | omega | assumption | rfl | decide)) (kV_RX12_181 C.2.2.2.2 (Nat.le_of_ble_eq_true rfl) (Nat.le_of_ble_eq_true rfl)) [0, 1] [0, 0] rfl rfl (ci := 11) (qc := (RX12, TX12, 43)) rfl rfl (List.mem_flatten.mpr ⟨_, List.mem_of_getElem? (i := 0) rfl, List.mem_cons_self⟩) rfl rfl hl.1 dX12_waysMany_23 (Nat.le_of_ble_eq_true rfl) (Nat.le_of_ble_eq_true rfl) (fun r_12 b1 H locs hw G => ?_)
      refine zAn4 hw ?_
      intro hbs9 h_9 h_10 h_11
      clear hw
      subst hbs9
      have G : zS T A s.heap s [[zO11 mo m_all m_has i_size i_next i_where i_token i_number i_word i_wrong i_farCrossing m_read i_z0 i_crossings i_inns m_posts m_shut m_here i_steps i_done i_at i_gone m_was m_came m_seenAt m_rowWorth m_farBy m_used i_everywhere i_again0 i_d0 i_never i_firstCame i_longRun i_moved i_crowd i_l0 i_fitMany i_fitLeast i_fitMost m_fitPost m_fitEnd m_keptPosts i_x0], [zAr T 0 m_all 3952 f_all]] _ _ := G
      subst h_9
      refine lv_goto (tgt := 30) hx hb dX12_waysMany_26 (by decide) ?_
      refine lv_imul hx hb dX12_waysMany_30 ?_
      refine lv_istore_n (lv' := [(1, .int (v * (zRd f_all i_z0 (nI i)))), (2, .int (nI i)), (0, .ref mo)]) hx hb dX12_waysMany_31 rfl hl (by decide) rfl (fun ls hl => ?_)
      refine lv_iinc (v := nI (i + 1)) (lv' := [(2, .int (nI (i + 1))), (1, .int (v * (zRd f_all i_z0 (nI i)))), (0, .ref mo)]) hx hb dX12_waysMany_32 hl (k := 1) rfl (z_inc i 1) (by decide) rfl (fun ls hl => ?_)
      refine lv_goto (tgt := 4) hx hb dX12_waysMany_35 (by decide) ?_
      exact ih_4 (i + 1) (v * (zRd f_all i_z0 (nI i))) (show (i + 1) ≤ 7 ∧ 1 ≤ (v * (zRd f_all i_z0 (nI i))).toInt ∧ (v * (zRd f_all i_z0 (nI i))).toInt ≤ ((4 ^ (i + 1) : Nat) : Int) from ⟨by omega, (zW4 (r := (zRd f_all i_z0 (nI i))) (by omega) hv (by omega) (by omega))⟩) (show 7 - (i + 1) < 7 - i from by omega) _ _ ls G (lv_sub hl [0, 1, 2] rfl)
    · have h_7 : (zInn i_inns (nI i) ∨ (zRd f_all i_z0 (nI i)).toInt ≤ 0) := h_7
      refine lv_if_eq (tgt := 29) hx hb dX12_waysMany_18 (by decide) (fun _ => ?_) (fun q => absurd (by decide) q)
      refine lv_iconst (v := 1) hx hb dX12_waysMany_29 (by decide) ?_
      refine lv_imul hx hb dX12_waysMany_30 ?_
      refine lv_istore_n (lv' := [(1, .int (v * 1)), (2, .int (nI i)), (0, .ref mo)]) hx hb dX12_waysMany_31 rfl hl (by decide) rfl (fun ls hl => ?_)
      refine lv_iinc (v := nI (i + 1)) (lv' := [(2, .int (nI (i + 1))), (1, .int (v * 1)), (0, .ref mo)]) hx hb dX12_waysMany_32 hl (k := 1) rfl (z_inc i 1) (by decide) rfl (fun ls hl => ?_)
      refine lv_goto (tgt := 4) hx hb dX12_waysMany_35 (by decide) ?_
      exact ih_4 (i + 1) (v * 1) (show (i + 1) ≤ 7 ∧ 1 ≤ (v * 1).toInt ∧ (v * 1).toInt ≤ ((4 ^ (i + 1) : Nat) : Int) from ⟨by omega, (zW4 (r := 1) (by omega) hv (by decide) (by decide))⟩) (show 7 - (i + 1) < 7 - i from by omega) _ _ ls G (lv_sub hl [0, 1, 2] rfl)
set_option maxHeartbeats 4000000 in
set_option maxRecDepth 100000 in
/-- c_m_setsWay -/
theorem c_m_setsWay (l : Launch) (T : zTy) (mo : Nat) (m_all : Nat) (m_has : Nat) (i_size : Int32) (i_next : Int32) (i_where : Int32) (i_token : Int32) (i_number : Int32) (i_word : Int32) (i_wrong : Int32) (i_farCrossing : Int32) (m_read : Nat) (i_z0 : Int32) (i_crossings : Int32) (i_inns : Int32) (m_posts : Nat) (m_shut : Nat) (m_here : Nat) (i_steps : Int32) (i_done : Int32) (i_at : Int32) (i_gone : Int32) (m_was : Nat) (m_came : Nat) (m_seenAt : Nat) (m_rowWorth : Nat) (m_farBy : Nat) (m_used : Nat) (i_everywhere : Int32) (i_again0 : Int32) (i_d0 : Int32) (i_never : Int32) (i_firstCame : Int32) (i_longRun : Int32) (i_moved : Int32) (i_crowd : Int32) (i_l0 : Int32) (i_fitMany : Int32) (i_fitLeast : Int32) (i_fitMost : Int32) (m_fitPost : Nat) (m_fitEnd : Nat) (m_keptPosts : Nat) (i_x0 : Int32) (f_all : Nat → Int32) (f_posts : Nat → Int32) (w_ : Int32) (hL : zML f_all i_z0 i_crossings) (hw0 : 0 ≤ w_.toInt) (hP : zMP f_posts) : zMv l T yX12_setsWay cX12_setsWay 4 3 0 0 [.ref mo, .int w_] [[zO11 mo m_all m_has i_size i_next i_where i_token i_number i_word i_wrong i_farCrossing m_read i_z0 i_crossings i_inns m_posts m_shut m_here i_steps i_done i_at i_gone m_was m_came m_seenAt m_rowWorth m_farBy m_used i_everywhere i_again0 i_d0 i_never i_firstCame i_longRun i_moved i_crowd i_l0 i_fitMany i_fitLeast i_fitMost m_fitPost m_fitEnd m_keptPosts i_x0], [zAr T 0 m_all 3952 f_all], [zAr T 0 m_posts 7 f_posts]] (fun bs => ∃ (g_posts : Nat → Int32), bs = [[zO11 mo m_all m_has i_size i_next i_where i_token i_number i_word i_wrong i_farCrossing m_read i_z0 i_crossings i_inns m_posts m_shut m_here i_steps i_done i_at i_gone m_was m_came m_seenAt m_rowWorth m_farBy m_used i_everywhere i_again0 i_d0 i_never i_firstCame i_longRun i_moved i_crowd i_l0 i_fitMany i_fitLeast i_fitMost m_fitPost m_fitEnd m_keptPosts i_x0], [zAr T 0 m_all 3952 f_all], [zAr T 0 m_posts 7 g_posts]] ∧ zMP g_posts) := by
  refine zMv_of (own := RX12) (by decide) rfl (Nat.le_of_ble_eq_true rfl) ?_
  intro p e s m args below meth c A ls C hr hlocks hnm hAe G hl
  refine zHide (fun Q9 hQ9 => ?_)
  have hx := C.1
  have hb := C.2.1
  have hl : lv_has ls 4 [(0, .ref mo), (1, .int w_)] := hl
  have hz := hL.1
  have hcr := hL.cr
  refine lv_iload_n hx hb dX12_setsWay_0 rfl (lv_at hl 1 rfl) ?_
  refine lv_istore_n (lv' := [(2, .int w_), (0, .ref mo), (1, .int w_)]) hx hb dX12_setsWay_1 rfl hl (by decide) rfl (fun ls hl => ?_)
  refine lv_aload_n hx hb dX12_setsWay_2 rfl (lv_at hl 1 rfl) ?_
  refine z_get C G clX12 0 rfl 12 (by decide) m_fl_RX12_169 rfl dX12_setsWay_3 ?_
  refine lv_iconst (v := 1) hx hb dX12_setsWay_6 (by decide) ?_
  refine lv_isub hx hb dX12_setsWay_7 ?_
  refine lv_topi (fun y_1 ey_1 => ?_)
  have ey_1i : y_1.toInt = i_crossings.toInt - (1 : Int) := by rw [ey_1]; exact z_isubI (x := i_crossings) (y := (1 : Int32)) (by show -2147483648 ≤ i_crossings.toInt - (1 : Int); omega) (by show i_crossings.toInt - (1 : Int) < 2147483648; omega)
  refine lv_istore_n (lv' := [(3, .int y_1), (2, .int w_), (0, .ref mo), (1, .int w_)]) hx hb dX12_setsWay_8 rfl hl (by decide) rfl (fun ls hl => ?_)
  refine z_lp3 (T := T) 9 (fun (c9 : Int32) (lf : Int32) (xp : Nat → Int32) => [[zO11 mo m_all m_has i_size i_next i_where i_token i_number i_word i_wrong i_farCrossing m_read i_z0 i_crossings i_inns m_posts m_shut m_here i_steps i_done i_at i_gone m_was m_came m_seenAt m_rowWorth m_farBy m_used i_everywhere i_again0 i_d0 i_never i_firstCame i_longRun i_moved i_crowd i_l0 i_fitMany i_fitLeast i_fitMost m_fitPost m_fitEnd m_keptPosts i_x0], [zAr T 0 m_all 3952 f_all], [zAr T 0 m_posts 7 xp]]) (fun (c9 : Int32) (lf : Int32) (xp : Nat → Int32) => [(3, .int c9), (2, .int lf), (0, .ref mo), (1, .int w_)]) (fun (c9 : Int32) (lf : Int32) (xp : Nat → Int32) => -1 ≤ c9.toInt ∧ c9.toInt ≤ 6 ∧ 0 ≤ lf.toInt ∧ zMP xp) (fun (c9 : Int32) (lf : Int32) (xp : Nat → Int32) => (c9.toInt + 1).toNat) ?_ y_1 w_ f_posts (show -1 ≤ y_1.toInt ∧ y_1.toInt ≤ 6 ∧ 0 ≤ w_.toInt ∧ zMP f_posts from ⟨by omega, by omega, by omega, hP⟩) G (lv_sub hl [0, 1, 2, 3] rfl)
  intro c9 lf xp hI9 ih_9 H locs ls G hl
  replace hI9 : -1 ≤ c9.toInt ∧ c9.toInt ≤ 6 ∧ 0 ≤ lf.toInt ∧ zMP xp := hI9
  refine zAn4 hI9 ?_
  intro hc1 hc6 hlf hQ
  clear hI9
  replace G : zS T A s.heap s [[zO11 mo m_all m_has i_size i_next i_where i_token i_number i_word i_wrong i_farCrossing m_read i_z0 i_crossings i_inns m_posts m_shut m_here i_steps i_done i_at i_gone m_was m_came m_seenAt m_rowWorth m_farBy m_used i_everywhere i_again0 i_d0 i_never i_firstCame i_longRun i_moved i_crowd i_l0 i_fitMany i_fitLeast i_fitMost m_fitPost m_fitEnd m_keptPosts i_x0], [zAr T 0 m_all 3952 f_all], [zAr T 0 m_posts 7 xp]] _ _ := G
  replace hl : lv_has ls 4 [(3, .int c9), (2, .int lf), (0, .ref mo), (1, .int w_)] := hl
  refine lv_iload_n hx hb dX12_setsWay_9 rfl (lv_at hl 0 rfl) ?_
  refine lv_if_lt (tgt := 64) hx hb dX12_setsWay_10 (by decide) (fun c_2 => ?_) (fun c_2 => ?_)
  · have c_2n : c9.toInt < (0 : Int) := (fa_lt _ _).mp c_2
    exact z_back hQ9 (z_vret C hr hlocks G (Nat.le_of_ble_eq_true rfl) (Nat.le_of_ble_eq_true rfl) dX12_setsWay_64 ⟨xp, rfl, (by first | with_reducible assumption | omega | trivial | assumption)⟩)
  · have c_2n : ¬ c9.toInt < (0 : Int) := fun q => c_2 ((fa_lt _ _).mpr q)
    refine lv_aload_n hx hb dX12_setsWay_13 rfl (lv_at hl 2 rfl) ?_
    refine z_get C G clX12 0 rfl 14 (by decide) m_fl_RX12_20 rfl dX12_setsWay_14 ?_
    refine lv_iload_n hx hb dX12_setsWay_17 rfl (lv_at hl 0 rfl) ?_
    refine lv_aload_n hx hb dX12_setsWay_18 rfl (lv_at hl 2 rfl) ?_
    refine lv_iload_n hx hb dX12_setsWay_19 rfl (lv_at hl 0 rfl) ?_
    refine z_Vi (bc := [[zO11 mo m_all m_has i_size i_next i_where i_token i_number i_word i_wrong i_farCrossing m_read i_z0 i_crossings i_inns m_posts m_shut m_here i_steps i_done i_at i_gone m_was m_came m_seenAt m_rowWorth m_farBy m_used i_everywhere i_again0 i_d0 i_never i_firstCame i_longRun i_moved i_crowd i_l0 i_fitMany i_fitLeast i_fitMost m_fitPost m_fitEnd m_keptPosts i_x0], [zAr T 0 m_all 3952 f_all]]) (br := [[zAr T 0 m_posts 7 xp]]) (As := [.int c9]) (rest := [.int c9, .ref m_posts]) C G (c_m_isFree l T mo m_all m_has i_size i_next i_where i_token i_number i_word i_wrong i_farCrossing m_read i_z0 i_crossings i_inns m_posts m_shut m_here i_steps i_done i_at i_gone m_was m_came m_seenAt m_rowWorth m_farBy m_used i_everywhere i_again0 i_d0 i_never i_firstCame i_longRun i_moved i_crowd i_l0 i_fitMany i_fitLeast i_fitMost m_fitPost m_fitEnd m_keptPosts i_x0 f_all c9 (by first | with_reducible assumption | with_reducible rfl | omega | assumption | rfl | decide) (by first | with_reducible assumption | with_reducible rfl | omega | assumption | rfl | decide) (by first | with_reducible assumption | with_reducible rfl | omega | assumption | rfl | decide)) (kV_RX12_223 C.2.2.2.2 (Nat.le_of_ble_eq_true rfl) (Nat.le_of_ble_eq_true rfl)) [0, 1] [0, 0] rfl rfl (ci := 11) (qc := (RX12, TX12, 43)) rfl rfl (List.mem_flatten.mpr ⟨_, List.mem_of_getElem? (i := 0) rfl, List.mem_cons_self⟩) rfl rfl hl.1 dX12_setsWay_20 (Nat.le_of_ble_eq_true rfl) (Nat.le_of_ble_eq_true rfl) (fun r_4 b1 H locs hw G => ?_)
    refine zAn2 hw ?_
    intro hbs9 hc_3
    clear hw
    subst hbs9
    have G : zS T A s.heap s [[zAr T 0 m_posts 7 xp], [zO11 mo m_all m_has i_size i_next i_where i_token i_number i_word i_wrong i_farCrossing m_read i_z0 i_crossings i_inns m_posts m_shut m_here i_steps i_done i_at i_gone m_was m_came m_seenAt m_rowWorth m_farBy m_used i_everywhere i_again0 i_d0 i_never i_firstCame i_longRun i_moved i_crowd i_l0 i_fitMany i_fitLeast i_fitMost m_fitPost m_fitEnd m_keptPosts i_x0], [zAr T 0 m_all 3952 f_all]] _ _ := G
    rcases hc_3 with ⟨rfl, h_5, h_6⟩ | ⟨rfl, h_7⟩
    · have h_5 : ¬ zInn i_inns c9 := h_5
      have h_6 : 0 < (zRd f_all i_z0 c9).toInt := h_6
      refine lv_if_eq (tgt := 36) hx hb dX12_setsWay_23 (by decide) (fun q => absurd q (by decide)) (fun _ => ?_)
      refine lv_iload_n hx hb dX12_setsWay_26 rfl (lv_at hl 1 rfl) ?_
      refine lv_aload_n hx hb dX12_setsWay_27 rfl (lv_at hl 2 rfl) ?_
      refine lv_iload_n hx hb dX12_setsWay_28 rfl (lv_at hl 0 rfl) ?_
      refine z_Vi (bc := [[zO11 mo m_all m_has i_size i_next i_where i_token i_number i_word i_wrong i_farCrossing m_read i_z0 i_crossings i_inns m_posts m_shut m_here i_steps i_done i_at i_gone m_was m_came m_seenAt m_rowWorth m_farBy m_used i_everywhere i_again0 i_d0 i_never i_firstCame i_longRun i_moved i_crowd i_l0 i_fitMany i_fitLeast i_fitMost m_fitPost m_fitEnd m_keptPosts i_x0], [zAr T 0 m_all 3952 f_all]]) (br := [[zAr T 0 m_posts 7 xp]]) (As := [.int c9]) (rest := [.int lf, .int c9, .ref m_posts]) C G (c_m_roadsOf l T mo m_all m_has i_size i_next i_where i_token i_number i_word i_wrong i_farCrossing m_read i_z0 i_crossings i_inns m_posts m_shut m_here i_steps i_done i_at i_gone m_was m_came m_seenAt m_rowWorth m_farBy m_used i_everywhere i_again0 i_d0 i_never i_firstCame i_longRun i_moved i_crowd i_l0 i_fitMany i_fitLeast i_fitMost m_fitPost m_fitEnd m_keptPosts i_x0 f_all c9 (by first | with_reducible assumption | with_reducible rfl | omega | assumption | rfl | decide) (by first | with_reducible assumption | with_reducible rfl | omega | assumption | rfl | decide) (by first | with_reducible assumption | with_reducible rfl | omega | assumption | rfl | decide)) (kV_RX12_181 C.2.2.2.2 (Nat.le_of_ble_eq_true rfl) (Nat.le_of_ble_eq_true rfl)) [1, 2] [1, 0] rfl rfl (ci := 11) (qc := (RX12, TX12, 43)) rfl rfl (List.mem_flatten.mpr ⟨_, List.mem_of_getElem? (i := 0) rfl, List.mem_cons_self⟩) rfl rfl hl.1 dX12_setsWay_29 (Nat.le_of_ble_eq_true rfl) (Nat.le_of_ble_eq_true rfl) (fun r_11 b1 H locs hw G => ?_)
      refine zAn4 hw ?_
      intro hbs9 h_8 h_9 h_10
      clear hw
      subst hbs9
      have G : zS T A s.heap s [[zAr T 0 m_posts 7 xp], [zO11 mo m_all m_has i_size i_next i_where i_token i_number i_word i_wrong i_farCrossing m_read i_z0 i_crossings i_inns m_posts m_shut m_here i_steps i_done i_at i_gone m_was m_came m_seenAt m_rowWorth m_farBy m_used i_everywhere i_again0 i_d0 i_never i_firstCame i_longRun i_moved i_crowd i_l0 i_fitMany i_fitLeast i_fitMost m_fitPost m_fitEnd m_keptPosts i_x0], [zAr T 0 m_all 3952 f_all]] _ _ := G
      subst h_8
      refine lv_irem hx hb dX12_setsWay_32 (fun q => absurd (congrArg Int32.toInt q) (by show ¬ _ = (0 : Int); omega)) ?_
      refine lv_goto (tgt := 37) hx hb dX12_setsWay_33 (by decide) ?_
      have hrm := zRem (x := lf) (y := zRd f_all i_z0 c9) (by omega) (by omega)
      refine z_ist C G 0 rfl (vp_in_iff.mpr ⟨by omega, by omega⟩) dX12_setsWay_37 (fun H locs G => ?_)
      have G : zS T A s.heap s [[zAr T 0 m_posts 7 (upd xp c9.toNatClampNeg (lf - lf / (zRd f_all i_z0 c9) * (zRd f_all i_z0 c9)))], [zO11 mo m_all m_has i_size i_next i_where i_token i_number i_word i_wrong i_farCrossing m_read i_z0 i_crossings i_inns m_posts m_shut m_here i_steps i_done i_at i_gone m_was m_came m_seenAt m_rowWorth m_farBy m_used i_everywhere i_again0 i_d0 i_never i_firstCame i_longRun i_moved i_crowd i_l0 i_fitMany i_fitLeast i_fitMost m_fitPost m_fitEnd m_keptPosts i_x0], [zAr T 0 m_all 3952 f_all]] _ _ := G
      refine lv_iload_n hx hb dX12_setsWay_38 rfl (lv_at hl 1 rfl) ?_
      refine lv_aload_n hx hb dX12_setsWay_39 rfl (lv_at hl 2 rfl) ?_
      refine lv_iload_n hx hb dX12_setsWay_40 rfl (lv_at hl 0 rfl) ?_
      refine z_Vi (bc := [[zO11 mo m_all m_has i_size i_next i_where i_token i_number i_word i_wrong i_farCrossing m_read i_z0 i_crossings i_inns m_posts m_shut m_here i_steps i_done i_at i_gone m_was m_came m_seenAt m_rowWorth m_farBy m_used i_everywhere i_again0 i_d0 i_never i_firstCame i_longRun i_moved i_crowd i_l0 i_fitMany i_fitLeast i_fitMost m_fitPost m_fitEnd m_keptPosts i_x0], [zAr T 0 m_all 3952 f_all]]) (br := [[zAr T 0 m_posts 7 (upd xp c9.toNatClampNeg (lf - lf / (zRd f_all i_z0 c9) * (zRd f_all i_z0 c9)))]]) (As := [.int c9]) (rest := [.int lf]) C G (c_m_isFree l T mo m_all m_has i_size i_next i_where i_token i_number i_word i_wrong i_farCrossing m_read i_z0 i_crossings i_inns m_posts m_shut m_here i_steps i_done i_at i_gone m_was m_came m_seenAt m_rowWorth m_farBy m_used i_everywhere i_again0 i_d0 i_never i_firstCame i_longRun i_moved i_crowd i_l0 i_fitMany i_fitLeast i_fitMost m_fitPost m_fitEnd m_keptPosts i_x0 f_all c9 (by first | with_reducible assumption | with_reducible rfl | omega | assumption | rfl | decide) (by first | with_reducible assumption | with_reducible rfl | omega | assumption | rfl | decide) (by first | with_reducible assumption | with_reducible rfl | omega | assumption | rfl | decide)) (kV_RX12_223 C.2.2.2.2 (Nat.le_of_ble_eq_true rfl) (Nat.le_of_ble_eq_true rfl)) [1, 2] [1, 0] rfl rfl (ci := 11) (qc := (RX12, TX12, 43)) rfl rfl (List.mem_flatten.mpr ⟨_, List.mem_of_getElem? (i := 0) rfl, List.mem_cons_self⟩) rfl rfl hl.1 dX12_setsWay_41 (Nat.le_of_ble_eq_true rfl) (Nat.le_of_ble_eq_true rfl) (fun r_13 b1 H locs hw G => ?_)
      refine zAn2 hw ?_
      intro hbs9 hc_12
      clear hw
      subst hbs9
      have G : zS T A s.heap s [[zAr T 0 m_posts 7 (upd xp c9.toNatClampNeg (lf - lf / (zRd f_all i_z0 c9) * (zRd f_all i_z0 c9)))], [zO11 mo m_all m_has i_size i_next i_where i_token i_number i_word i_wrong i_farCrossing m_read i_z0 i_crossings i_inns m_posts m_shut m_here i_steps i_done i_at i_gone m_was m_came m_seenAt m_rowWorth m_farBy m_used i_everywhere i_again0 i_d0 i_never i_firstCame i_longRun i_moved i_crowd i_l0 i_fitMany i_fitLeast i_fitMost m_fitPost m_fitEnd m_keptPosts i_x0], [zAr T 0 m_all 3952 f_all]] _ _ := G
      rcases hc_12 with ⟨rfl, h_14, h_15⟩ | ⟨rfl, h_16⟩
      · have h_14 : ¬ zInn i_inns c9 := h_14
        have h_15 : 0 < (zRd f_all i_z0 c9).toInt := h_15
        refine lv_if_eq (tgt := 55) hx hb dX12_setsWay_44 (by decide) (fun q => absurd q (by decide)) (fun _ => ?_)
        refine lv_aload_n hx hb dX12_setsWay_47 rfl (lv_at hl 2 rfl) ?_
        refine lv_iload_n hx hb dX12_setsWay_48 rfl (lv_at hl 0 rfl) ?_
        refine z_Vi (bc := [[zO11 mo m_all m_has i_size i_next i_where i_token i_number i_word i_wrong i_farCrossing m_read i_z0 i_crossings i_inns m_posts m_shut m_here i_steps i_done i_at i_gone m_was m_came m_seenAt m_rowWorth m_farBy m_used i_everywhere i_again0 i_d0 i_never i_firstCame i_longRun i_moved i_crowd i_l0 i_fitMany i_fitLeast i_fitMost m_fitPost m_fitEnd m_keptPosts i_x0], [zAr T 0 m_all 3952 f_all]]) (br := [[zAr T 0 m_posts 7 (upd xp c9.toNatClampNeg (lf - lf / (zRd f_all i_z0 c9) * (zRd f_all i_z0 c9)))]]) (As := [.int c9]) (rest := [.int lf]) C G (c_m_roadsOf l T mo m_all m_has i_size i_next i_where i_token i_number i_word i_wrong i_farCrossing m_read i_z0 i_crossings i_inns m_posts m_shut m_here i_steps i_done i_at i_gone m_was m_came m_seenAt m_rowWorth m_farBy m_used i_everywhere i_again0 i_d0 i_never i_firstCame i_longRun i_moved i_crowd i_l0 i_fitMany i_fitLeast i_fitMost m_fitPost m_fitEnd m_keptPosts i_x0 f_all c9 (by first | with_reducible assumption | with_reducible rfl | omega | assumption | rfl | decide) (by first | with_reducible assumption | with_reducible rfl | omega | assumption | rfl | decide) (by first | with_reducible assumption | with_reducible rfl | omega | assumption | rfl | decide)) (kV_RX12_181 C.2.2.2.2 (Nat.le_of_ble_eq_true rfl) (Nat.le_of_ble_eq_true rfl)) [1, 2] [1, 0] rfl rfl (ci := 11) (qc := (RX12, TX12, 43)) rfl rfl (List.mem_flatten.mpr ⟨_, List.mem_of_getElem? (i := 0) rfl, List.mem_cons_self⟩) rfl rfl hl.1 dX12_setsWay_49 (Nat.le_of_ble_eq_true rfl) (Nat.le_of_ble_eq_true rfl) (fun r_20 b1 H locs hw G => ?_)
        refine zAn4 hw ?_
        intro hbs9 h_17 h_18 h_19
        clear hw
        subst hbs9
        have G : zS T A s.heap s [[zAr T 0 m_posts 7 (upd xp c9.toNatClampNeg (lf - lf / (zRd f_all i_z0 c9) * (zRd f_all i_z0 c9)))], [zO11 mo m_all m_has i_size i_next i_where i_token i_number i_word i_wrong i_farCrossing m_read i_z0 i_crossings i_inns m_posts m_shut m_here i_steps i_done i_at i_gone m_was m_came m_seenAt m_rowWorth m_farBy m_used i_everywhere i_again0 i_d0 i_never i_firstCame i_longRun i_moved i_crowd i_l0 i_fitMany i_fitLeast i_fitMost m_fitPost m_fitEnd m_keptPosts i_x0], [zAr T 0 m_all 3952 f_all]] _ _ := G
        subst h_17
        refine lv_goto (tgt := 56) hx hb dX12_setsWay_52 (by decide) ?_
        refine lv_idiv hx hb dX12_setsWay_56 (fun q => absurd (congrArg Int32.toInt q) (by show ¬ _ = (0 : Int); omega)) ?_
        have hdv : 0 ≤ (lf / (zRd f_all i_z0 c9)).toInt := zDiv0 (by omega) (by omega)
        refine lv_istore_n (lv' := [(2, .int (lf / (zRd f_all i_z0 c9))), (3, .int c9), (0, .ref mo), (1, .int w_)]) hx hb dX12_setsWay_57 rfl hl (by decide) rfl (fun ls hl => ?_)
        obtain ⟨y_21, ey_21⟩ : ∃ q : Int32, q = c9 + (-1) := ⟨_, rfl⟩
        have ey_21i : y_21.toInt = c9.toInt - 1 := by rw [ey_21]; exact z_iaddI (x := c9) (y := (-1)) (by show -2147483648 ≤ c9.toInt + (-1 : Int); omega) (by show c9.toInt + (-1 : Int) < 2147483648; omega)
        refine lv_iinc (v := y_21) (lv' := [(3, .int y_21), (2, .int (lf / (zRd f_all i_z0 c9))), (0, .ref mo), (1, .int w_)]) hx hb dX12_setsWay_58 hl (k := 1) rfl ey_21.symm (by decide) rfl (fun ls hl => ?_)
        refine lv_goto (tgt := 9) hx hb dX12_setsWay_61 (by decide) ?_
        have G := G.sub (bs' := [[zO11 mo m_all m_has i_size i_next i_where i_token i_number i_word i_wrong i_farCrossing m_read i_z0 i_crossings i_inns m_posts m_shut m_here i_steps i_done i_at i_gone m_was m_came m_seenAt m_rowWorth m_farBy m_used i_everywhere i_again0 i_d0 i_never i_firstCame i_longRun i_moved i_crowd i_l0 i_fitMany i_fitLeast i_fitMost m_fitPost m_fitEnd m_keptPosts i_x0], [zAr T 0 m_all 3952 f_all], [zAr T 0 m_posts 7 (upd xp c9.toNatClampNeg (lf - lf / (zRd f_all i_z0 c9) * (zRd f_all i_z0 c9)))]]) [1, 2, 0] rfl
        exact ih_9 y_21 (lf / (zRd f_all i_z0 c9)) (upd xp c9.toNatClampNeg (lf - lf / (zRd f_all i_z0 c9) * (zRd f_all i_z0 c9))) (show -1 ≤ y_21.toInt ∧ y_21.toInt ≤ 6 ∧ 0 ≤ (lf / (zRd f_all i_z0 c9)).toInt ∧ zMP (upd xp c9.toNatClampNeg (lf - lf / (zRd f_all i_z0 c9) * (zRd f_all i_z0 c9))) from ⟨by omega, by omega, by omega, (zMP_upd hQ (by omega))⟩) (show (y_21.toInt + 1).toNat < (c9.toInt + 1).toNat from by omega) _ _ ls G (lv_sub hl [0, 1, 2, 3] rfl)
      · have h_16 : (zInn i_inns c9 ∨ (zRd f_all i_z0 c9).toInt ≤ 0) := h_16
        refine lv_if_eq (tgt := 55) hx hb dX12_setsWay_44 (by decide) (fun _ => ?_) (fun q => absurd (by decide) q)
        refine lv_iconst (v := 1) hx hb dX12_setsWay_55 (by decide) ?_
        refine lv_idiv hx hb dX12_setsWay_56 (by decide) ?_
        have hdv : 0 ≤ (lf / 1).toInt := zDiv0 (by omega) (by decide)
        refine lv_istore_n (lv' := [(2, .int (lf / 1)), (3, .int c9), (0, .ref mo), (1, .int w_)]) hx hb dX12_setsWay_57 rfl hl (by decide) rfl (fun ls hl => ?_)
        obtain ⟨y_22, ey_22⟩ : ∃ q : Int32, q = c9 + (-1) := ⟨_, rfl⟩
        have ey_22i : y_22.toInt = c9.toInt - 1 := by rw [ey_22]; exact z_iaddI (x := c9) (y := (-1)) (by show -2147483648 ≤ c9.toInt + (-1 : Int); omega) (by show c9.toInt + (-1 : Int) < 2147483648; omega)
        refine lv_iinc (v := y_22) (lv' := [(3, .int y_22), (2, .int (lf / 1)), (0, .ref mo), (1, .int w_)]) hx hb dX12_setsWay_58 hl (k := 1) rfl ey_22.symm (by decide) rfl (fun ls hl => ?_)
        refine lv_goto (tgt := 9) hx hb dX12_setsWay_61 (by decide) ?_
        have G := G.sub (bs' := [[zO11 mo m_all m_has i_size i_next i_where i_token i_number i_word i_wrong i_farCrossing m_read i_z0 i_crossings i_inns m_posts m_shut m_here i_steps i_done i_at i_gone m_was m_came m_seenAt m_rowWorth m_farBy m_used i_everywhere i_again0 i_d0 i_never i_firstCame i_longRun i_moved i_crowd i_l0 i_fitMany i_fitLeast i_fitMost m_fitPost m_fitEnd m_keptPosts i_x0], [zAr T 0 m_all 3952 f_all], [zAr T 0 m_posts 7 (upd xp c9.toNatClampNeg (lf - lf / (zRd f_all i_z0 c9) * (zRd f_all i_z0 c9)))]]) [1, 2, 0] rfl
        exact ih_9 y_22 (lf / 1) (upd xp c9.toNatClampNeg (lf - lf / (zRd f_all i_z0 c9) * (zRd f_all i_z0 c9))) (show -1 ≤ y_22.toInt ∧ y_22.toInt ≤ 6 ∧ 0 ≤ (lf / 1).toInt ∧ zMP (upd xp c9.toNatClampNeg (lf - lf / (zRd f_all i_z0 c9) * (zRd f_all i_z0 c9))) from ⟨by omega, by omega, by omega, (zMP_upd hQ (by omega))⟩) (show (y_22.toInt + 1).toNat < (c9.toInt + 1).toNat from by omega) _ _ ls G (lv_sub hl [0, 1, 2, 3] rfl)
    · have h_7 : (zInn i_inns c9 ∨ (zRd f_all i_z0 c9).toInt ≤ 0) := h_7
      refine lv_if_eq (tgt := 36) hx hb dX12_setsWay_23 (by decide) (fun _ => ?_) (fun q => absurd (by decide) q)
      refine lv_iconst (v := 0) hx hb dX12_setsWay_36 (by decide) ?_
      refine z_ist C G 0 rfl (vp_in_iff.mpr ⟨by omega, by omega⟩) dX12_setsWay_37 (fun H locs G => ?_)
      have G : zS T A s.heap s [[zAr T 0 m_posts 7 (upd xp c9.toNatClampNeg 0)], [zO11 mo m_all m_has i_size i_next i_where i_token i_number i_word i_wrong i_farCrossing m_read i_z0 i_crossings i_inns m_posts m_shut m_here i_steps i_done i_at i_gone m_was m_came m_seenAt m_rowWorth m_farBy m_used i_everywhere i_again0 i_d0 i_never i_firstCame i_longRun i_moved i_crowd i_l0 i_fitMany i_fitLeast i_fitMost m_fitPost m_fitEnd m_keptPosts i_x0], [zAr T 0 m_all 3952 f_all]] _ _ := G
      refine lv_iload_n hx hb dX12_setsWay_38 rfl (lv_at hl 1 rfl) ?_
      refine lv_aload_n hx hb dX12_setsWay_39 rfl (lv_at hl 2 rfl) ?_
      refine lv_iload_n hx hb dX12_setsWay_40 rfl (lv_at hl 0 rfl) ?_
      refine z_Vi (bc := [[zO11 mo m_all m_has i_size i_next i_where i_token i_number i_word i_wrong i_farCrossing m_read i_z0 i_crossings i_inns m_posts m_shut m_here i_steps i_done i_at i_gone m_was m_came m_seenAt m_rowWorth m_farBy m_used i_everywhere i_again0 i_d0 i_never i_firstCame i_longRun i_moved i_crowd i_l0 i_fitMany i_fitLeast i_fitMost m_fitPost m_fitEnd m_keptPosts i_x0], [zAr T 0 m_all 3952 f_all]]) (br := [[zAr T 0 m_posts 7 (upd xp c9.toNatClampNeg 0)]]) (As := [.int c9]) (rest := [.int lf]) C G (c_m_isFree l T mo m_all m_has i_size i_next i_where i_token i_number i_word i_wrong i_farCrossing m_read i_z0 i_crossings i_inns m_posts m_shut m_here i_steps i_done i_at i_gone m_was m_came m_seenAt m_rowWorth m_farBy m_used i_everywhere i_again0 i_d0 i_never i_firstCame i_longRun i_moved i_crowd i_l0 i_fitMany i_fitLeast i_fitMost m_fitPost m_fitEnd m_keptPosts i_x0 f_all c9 (by first | with_reducible assumption | with_reducible rfl | omega | assumption | rfl | decide) (by first | with_reducible assumption | with_reducible rfl | omega | assumption | rfl | decide) (by first | with_reducible assumption | with_reducible rfl | omega | assumption | rfl | decide)) (kV_RX12_223 C.2.2.2.2 (Nat.le_of_ble_eq_true rfl) (Nat.le_of_ble_eq_true rfl)) [1, 2] [1, 0] rfl rfl (ci := 11) (qc := (RX12, TX12, 43)) rfl rfl (List.mem_flatten.mpr ⟨_, List.mem_of_getElem? (i := 0) rfl, List.mem_cons_self⟩) rfl rfl hl.1 dX12_setsWay_41 (Nat.le_of_ble_eq_true rfl) (Nat.le_of_ble_eq_true rfl) (fun r_24 b1 H locs hw G => ?_)
      refine zAn2 hw ?_
      intro hbs9 hc_23
      clear hw
      subst hbs9
      have G : zS T A s.heap s [[zAr T 0 m_posts 7 (upd xp c9.toNatClampNeg 0)], [zO11 mo m_all m_has i_size i_next i_where i_token i_number i_word i_wrong i_farCrossing m_read i_z0 i_crossings i_inns m_posts m_shut m_here i_steps i_done i_at i_gone m_was m_came m_seenAt m_rowWorth m_farBy m_used i_everywhere i_again0 i_d0 i_never i_firstCame i_longRun i_moved i_crowd i_l0 i_fitMany i_fitLeast i_fitMost m_fitPost m_fitEnd m_keptPosts i_x0], [zAr T 0 m_all 3952 f_all]] _ _ := G
      rcases hc_23 with ⟨rfl, h_25, h_26⟩ | ⟨rfl, h_27⟩
      · have h_25 : ¬ zInn i_inns c9 := h_25
        have h_26 : 0 < (zRd f_all i_z0 c9).toInt := h_26
        refine lv_if_eq (tgt := 55) hx hb dX12_setsWay_44 (by decide) (fun q => absurd q (by decide)) (fun _ => ?_)
        refine lv_aload_n hx hb dX12_setsWay_47 rfl (lv_at hl 2 rfl) ?_
        refine lv_iload_n hx hb dX12_setsWay_48 rfl (lv_at hl 0 rfl) ?_
        refine z_Vi (bc := [[zO11 mo m_all m_has i_size i_next i_where i_token i_number i_word i_wrong i_farCrossing m_read i_z0 i_crossings i_inns m_posts m_shut m_here i_steps i_done i_at i_gone m_was m_came m_seenAt m_rowWorth m_farBy m_used i_everywhere i_again0 i_d0 i_never i_firstCame i_longRun i_moved i_crowd i_l0 i_fitMany i_fitLeast i_fitMost m_fitPost m_fitEnd m_keptPosts i_x0], [zAr T 0 m_all 3952 f_all]]) (br := [[zAr T 0 m_posts 7 (upd xp c9.toNatClampNeg 0)]]) (As := [.int c9]) (rest := [.int lf]) C G (c_m_roadsOf l T mo m_all m_has i_size i_next i_where i_token i_number i_word i_wrong i_farCrossing m_read i_z0 i_crossings i_inns m_posts m_shut m_here i_steps i_done i_at i_gone m_was m_came m_seenAt m_rowWorth m_farBy m_used i_everywhere i_again0 i_d0 i_never i_firstCame i_longRun i_moved i_crowd i_l0 i_fitMany i_fitLeast i_fitMost m_fitPost m_fitEnd m_keptPosts i_x0 f_all c9 (by first | with_reducible assumption | with_reducible rfl | omega | assumption | rfl | decide) (by first | with_reducible assumption | with_reducible rfl | omega | assumption | rfl | decide) (by first | with_reducible assumption | with_reducible rfl | omega | assumption | rfl | decide)) (kV_RX12_181 C.2.2.2.2 (Nat.le_of_ble_eq_true rfl) (Nat.le_of_ble_eq_true rfl)) [1, 2] [1, 0] rfl rfl (ci := 11) (qc := (RX12, TX12, 43)) rfl rfl (List.mem_flatten.mpr ⟨_, List.mem_of_getElem? (i := 0) rfl, List.mem_cons_self⟩) rfl rfl hl.1 dX12_setsWay_49 (Nat.le_of_ble_eq_true rfl) (Nat.le_of_ble_eq_true rfl) (fun r_31 b1 H locs hw G => ?_)
        refine zAn4 hw ?_
        intro hbs9 h_28 h_29 h_30
        clear hw
        subst hbs9
        have G : zS T A s.heap s [[zAr T 0 m_posts 7 (upd xp c9.toNatClampNeg 0)], [zO11 mo m_all m_has i_size i_next i_where i_token i_number i_word i_wrong i_farCrossing m_read i_z0 i_crossings i_inns m_posts m_shut m_here i_steps i_done i_at i_gone m_was m_came m_seenAt m_rowWorth m_farBy m_used i_everywhere i_again0 i_d0 i_never i_firstCame i_longRun i_moved i_crowd i_l0 i_fitMany i_fitLeast i_fitMost m_fitPost m_fitEnd m_keptPosts i_x0], [zAr T 0 m_all 3952 f_all]] _ _ := G
        subst h_28
        refine lv_goto (tgt := 56) hx hb dX12_setsWay_52 (by decide) ?_
        refine lv_idiv hx hb dX12_setsWay_56 (fun q => absurd (congrArg Int32.toInt q) (by show ¬ _ = (0 : Int); omega)) ?_
        have hdv : 0 ≤ (lf / (zRd f_all i_z0 c9)).toInt := zDiv0 (by omega) (by omega)
        refine lv_istore_n (lv' := [(2, .int (lf / (zRd f_all i_z0 c9))), (3, .int c9), (0, .ref mo), (1, .int w_)]) hx hb dX12_setsWay_57 rfl hl (by decide) rfl (fun ls hl => ?_)
        obtain ⟨y_32, ey_32⟩ : ∃ q : Int32, q = c9 + (-1) := ⟨_, rfl⟩
        have ey_32i : y_32.toInt = c9.toInt - 1 := by rw [ey_32]; exact z_iaddI (x := c9) (y := (-1)) (by show -2147483648 ≤ c9.toInt + (-1 : Int); omega) (by show c9.toInt + (-1 : Int) < 2147483648; omega)
        refine lv_iinc (v := y_32) (lv' := [(3, .int y_32), (2, .int (lf / (zRd f_all i_z0 c9))), (0, .ref mo), (1, .int w_)]) hx hb dX12_setsWay_58 hl (k := 1) rfl ey_32.symm (by decide) rfl (fun ls hl => ?_)
        refine lv_goto (tgt := 9) hx hb dX12_setsWay_61 (by decide) ?_
        have G := G.sub (bs' := [[zO11 mo m_all m_has i_size i_next i_where i_token i_number i_word i_wrong i_farCrossing m_read i_z0 i_crossings i_inns m_posts m_shut m_here i_steps i_done i_at i_gone m_was m_came m_seenAt m_rowWorth m_farBy m_used i_everywhere i_again0 i_d0 i_never i_firstCame i_longRun i_moved i_crowd i_l0 i_fitMany i_fitLeast i_fitMost m_fitPost m_fitEnd m_keptPosts i_x0], [zAr T 0 m_all 3952 f_all], [zAr T 0 m_posts 7 (upd xp c9.toNatClampNeg 0)]]) [1, 2, 0] rfl
        exact ih_9 y_32 (lf / (zRd f_all i_z0 c9)) (upd xp c9.toNatClampNeg 0) (show -1 ≤ y_32.toInt ∧ y_32.toInt ≤ 6 ∧ 0 ≤ (lf / (zRd f_all i_z0 c9)).toInt ∧ zMP (upd xp c9.toNatClampNeg 0) from ⟨by omega, by omega, by omega, (zMP_upd hQ (by decide))⟩) (show (y_32.toInt + 1).toNat < (c9.toInt + 1).toNat from by omega) _ _ ls G (lv_sub hl [0, 1, 2, 3] rfl)
      · have h_27 : (zInn i_inns c9 ∨ (zRd f_all i_z0 c9).toInt ≤ 0) := h_27
        refine lv_if_eq (tgt := 55) hx hb dX12_setsWay_44 (by decide) (fun _ => ?_) (fun q => absurd (by decide) q)
        refine lv_iconst (v := 1) hx hb dX12_setsWay_55 (by decide) ?_
        refine lv_idiv hx hb dX12_setsWay_56 (by decide) ?_
        have hdv : 0 ≤ (lf / 1).toInt := zDiv0 (by omega) (by decide)
        refine lv_istore_n (lv' := [(2, .int (lf / 1)), (3, .int c9), (0, .ref mo), (1, .int w_)]) hx hb dX12_setsWay_57 rfl hl (by decide) rfl (fun ls hl => ?_)
        obtain ⟨y_33, ey_33⟩ : ∃ q : Int32, q = c9 + (-1) := ⟨_, rfl⟩
        have ey_33i : y_33.toInt = c9.toInt - 1 := by rw [ey_33]; exact z_iaddI (x := c9) (y := (-1)) (by show -2147483648 ≤ c9.toInt + (-1 : Int); omega) (by show c9.toInt + (-1 : Int) < 2147483648; omega)
        refine lv_iinc (v := y_33) (lv' := [(3, .int y_33), (2, .int (lf / 1)), (0, .ref mo), (1, .int w_)]) hx hb dX12_setsWay_58 hl (k := 1) rfl ey_33.symm (by decide) rfl (fun ls hl => ?_)
        refine lv_goto (tgt := 9) hx hb dX12_setsWay_61 (by decide) ?_
        have G := G.sub (bs' := [[zO11 mo m_all m_has i_size i_next i_where i_token i_number i_word i_wrong i_farCrossing m_read i_z0 i_crossings i_inns m_posts m_shut m_here i_steps i_done i_at i_gone m_was m_came m_seenAt m_rowWorth m_farBy m_used i_everywhere i_again0 i_d0 i_never i_firstCame i_longRun i_moved i_crowd i_l0 i_fitMany i_fitLeast i_fitMost m_fitPost m_fitEnd m_keptPosts i_x0], [zAr T 0 m_all 3952 f_all], [zAr T 0 m_posts 7 (upd xp c9.toNatClampNeg 0)]]) [1, 2, 0] rfl
        exact ih_9 y_33 (lf / 1) (upd xp c9.toNatClampNeg 0) (show -1 ≤ y_33.toInt ∧ y_33.toInt ≤ 6 ∧ 0 ≤ (lf / 1).toInt ∧ zMP (upd xp c9.toNatClampNeg 0) from ⟨by omega, by omega, by omega, (zMP_upd hQ (by decide))⟩) (show (y_33.toInt + 1).toNat < (c9.toInt + 1).toNat from by omega) _ _ ls G (lv_sub hl [0, 1, 2, 3] rfl)
theorem m_co_X12_isLand : Cond.code yX12_isLand cX12_isLand 2 (some .boolean) ∈ zT := zmem1 zsub_6 231 rfl rfl
theorem m_ml_RX12_184 : Cond.methodLink RX12 184 yX12_isLand ∈ zT := zmem1 zsub_6 228 rfl rfl
theorem m_im_X12_isLand : Cond.instanceMethod yX12_isLand ∈ zT := zmem1 zsub_6 230 rfl rfl
theorem m_se_X12_isLand : Cond.selects RX12 yX12_isLand yX12_isLand ∈ zT := zmem 59 rfl rfl
theorem m_co_X12_isCrossing : Cond.code yX12_isCrossing cX12_isCrossing 2 (some .boolean) ∈ zT := zmem1 zsub_7 3 rfl rfl
theorem m_ml_RX12_187 : Cond.methodLink RX12 187 yX12_isCrossing ∈ zT := zmem1 zsub_7 0 rfl rfl
theorem m_im_X12_isCrossing : Cond.instanceMethod yX12_isCrossing ∈ zT := zmem1 zsub_7 2 rfl rfl
theorem m_se_X12_isCrossing : Cond.selects RX12 yX12_isCrossing yX12_isCrossing ∈ zT := zmem 62 rfl rfl
theorem m_co_X12_walks : Cond.code yX12_walks cX12_walks 3 (some .boolean) ∈ zT := zmem1 zsub_7 19 rfl rfl
theorem m_ml_RX12_217 : Cond.methodLink RX12 217 yX12_walks ∈ zT := zmem1 zsub_7 16 rfl rfl
theorem m_im_X12_walks : Cond.instanceMethod yX12_walks ∈ zT := zmem1 zsub_7 18 rfl rfl
theorem m_se_X12_walks : Cond.selects RX12 yX12_walks yX12_walks ∈ zT := zmem 65 rfl rfl
theorem m_co_X12_postsNow : Cond.code yX12_postsNow cX12_postsNow 3 (some .int) ∈ zT := zmem1 zsub_7 55 rfl rfl
theorem m_ml_RX12_220 : Cond.methodLink RX12 220 yX12_postsNow ∈ zT := zmem1 zsub_7 52 rfl rfl
theorem m_im_X12_postsNow : Cond.instanceMethod yX12_postsNow ∈ zT := zmem1 zsub_7 54 rfl rfl
theorem m_se_X12_postsNow : Cond.selects RX12 yX12_postsNow yX12_postsNow ∈ zT := zmem 70 rfl rfl
theorem kV_RX12_184 {R : Room} {s : State} {args : Array Value} {d mc ms : Nat} (hts : ∀ w ∈ zT, w.before args s = true) (h1 : d + 1 ≤ R.frames) (h2 : 8 + (2 + 11) + 40 * d ≤ R.locals) : CallW R s args RX12 RX12 184 yX12_isLand cX12_isLand 2 (some .boolean) (zW yX12_isLand cX12_isLand 2 (some .boolean)) (zR d mc ms) mc ms 1 := z_cwV hts m_co_X12_isLand m_ml_RX12_184 m_im_X12_isLand m_se_X12_isLand m_ii_RX12 (by decide +kernel) h1 h2
theorem kV_RX12_187 {R : Room} {s : State} {args : Array Value} {d mc ms : Nat} (hts : ∀ w ∈ zT, w.before args s = true) (h1 : d + 1 ≤ R.frames) (h2 : 8 + (2 + 11) + 40 * d ≤ R.locals) : CallW R s args RX12 RX12 187 yX12_isCrossing cX12_isCrossing 2 (some .boolean) (zW yX12_isCrossing cX12_isCrossing 2 (some .boolean)) (zR d mc ms) mc ms 1 := z_cwV hts m_co_X12_isCrossing m_ml_RX12_187 m_im_X12_isCrossing m_se_X12_isCrossing m_ii_RX12 (by decide +kernel) h1 h2
theorem kV_RX12_217 {R : Room} {s : State} {args : Array Value} {d mc ms : Nat} (hts : ∀ w ∈ zT, w.before args s = true) (h1 : d + 1 ≤ R.frames) (h2 : 8 + (3 + 11) + 40 * d ≤ R.locals) : CallW R s args RX12 RX12 217 yX12_walks cX12_walks 3 (some .boolean) (zW yX12_walks cX12_walks 3 (some .boolean)) (zR d mc ms) mc ms 1 := z_cwV hts m_co_X12_walks m_ml_RX12_217 m_im_X12_walks m_se_X12_walks m_ii_RX12 (by decide +kernel) h1 h2
theorem kV_RX12_220 {R : Room} {s : State} {args : Array Value} {d mc ms : Nat} (hts : ∀ w ∈ zT, w.before args s = true) (h1 : d + 1 ≤ R.frames) (h2 : 8 + (3 + 11) + 40 * d ≤ R.locals) : CallW R s args RX12 RX12 220 yX12_postsNow cX12_postsNow 3 (some .int) (zW yX12_postsNow cX12_postsNow 3 (some .int)) (zR d mc ms) mc ms 0 := z_cwV hts m_co_X12_postsNow m_ml_RX12_220 m_im_X12_postsNow m_se_X12_postsNow m_ii_RX12 (by decide +kernel) h1 h2
theorem dX12_land_0 : decode cX12_land 0 = .ok (.aload_n 0, 1) := zo_42 (by decide +kernel)
theorem dX12_land_1 : decode cX12_land 1 = .ok (.iload_n 1, 1) := zo_27 (by decide +kernel)
theorem dX12_land_2 : decode cX12_land 2 = .ok (.invokevirtual 184, 3) := zo_182 (by decide +kernel)
theorem dX12_land_5 : decode cX12_land 5 = .ok (.ifCond .eq 7, 3) := zo_153 (by decide +kernel)
theorem dX12_land_8 : decode cX12_land 8 = .ok (.iload_n 2, 1) := zo_28 (by decide +kernel)
theorem dX12_land_9 : decode cX12_land 9 = .ok (.ifCond .ge 5, 3) := zo_156 (by decide +kernel)
theorem dX12_land_12 : decode cX12_land 12 = .ok (.iconst (-1), 1) := zo_2 (by decide +kernel)
theorem dX12_land_13 : decode cX12_land 13 = .ok (.ireturn, 1) := zo_172 (by decide +kernel)
theorem dX12_land_14 : decode cX12_land 14 = .ok (.iload_n 2, 1) := zo_28 (by decide +kernel)
theorem dX12_land_15 : decode cX12_land 15 = .ok (.iconst 2, 1) := zo_5 (by decide +kernel)
theorem dX12_land_16 : decode cX12_land 16 = .ok (.if_icmp .ge 15, 3) := zo_162 (by decide +kernel)
theorem dX12_land_19 : decode cX12_land 19 = .ok (.aload_n 0, 1) := zo_42 (by decide +kernel)
theorem dX12_land_20 : decode cX12_land 20 = .ok (.getfield 7, 3) := zo_180 (by decide +kernel)
theorem dX12_land_23 : decode cX12_land 23 = .ok (.aload_n 0, 1) := zo_42 (by decide +kernel)
theorem dX12_land_24 : decode cX12_land 24 = .ok (.getfield 166, 3) := zo_180 (by decide +kernel)
theorem dX12_land_27 : decode cX12_land 27 = .ok (.iload_n 2, 1) := zo_28 (by decide +kernel)
theorem dX12_land_28 : decode cX12_land 28 = .ok (.iadd, 1) := zo_96 (by decide +kernel)
theorem dX12_land_29 : decode cX12_land 29 = .ok (.iaload, 1) := zo_46 (by decide +kernel)
theorem dX12_land_30 : decode cX12_land 30 = .ok (.ireturn, 1) := zo_172 (by decide +kernel)
theorem dX12_land_31 : decode cX12_land 31 = .ok (.iload_n 2, 1) := zo_28 (by decide +kernel)
theorem dX12_land_32 : decode cX12_land 32 = .ok (.bipush 10, 2) := zo_16 (by decide +kernel)
theorem dX12_land_34 : decode cX12_land 34 = .ok (.irem, 1) := zo_112 (by decide +kernel)
theorem dX12_land_35 : decode cX12_land 35 = .ok (.istore_n 3, 1) := zo_62 (by decide +kernel)
theorem dX12_land_36 : decode cX12_land 36 = .ok (.iload_n 2, 1) := zo_28 (by decide +kernel)
theorem dX12_land_37 : decode cX12_land 37 = .ok (.bipush 100, 2) := zo_16 (by decide +kernel)
theorem dX12_land_39 : decode cX12_land 39 = .ok (.if_icmp .lt 49, 3) := zo_161 (by decide +kernel)
theorem dX12_land_42 : decode cX12_land 42 = .ok (.aload_n 0, 1) := zo_42 (by decide +kernel)
theorem dX12_land_43 : decode cX12_land 43 = .ok (.iload_n 2, 1) := zo_28 (by decide +kernel)
theorem dX12_land_44 : decode cX12_land 44 = .ok (.bipush 10, 2) := zo_16 (by decide +kernel)
theorem dX12_land_46 : decode cX12_land 46 = .ok (.idiv, 1) := zo_108 (by decide +kernel)
theorem dX12_land_47 : decode cX12_land 47 = .ok (.bipush 10, 2) := zo_16 (by decide +kernel)
theorem dX12_land_49 : decode cX12_land 49 = .ok (.isub, 1) := zo_100 (by decide +kernel)
theorem dX12_land_50 : decode cX12_land 50 = .ok (.invokevirtual 187, 3) := zo_182 (by decide +kernel)
theorem dX12_land_53 : decode cX12_land 53 = .ok (.ifCond .eq 33, 3) := zo_153 (by decide +kernel)
theorem dX12_land_56 : decode cX12_land 56 = .ok (.iload_n 3, 1) := zo_29 (by decide +kernel)
theorem dX12_land_57 : decode cX12_land 57 = .ok (.aload_n 0, 1) := zo_42 (by decide +kernel)
theorem dX12_land_58 : decode cX12_land 58 = .ok (.iload_n 2, 1) := zo_28 (by decide +kernel)
theorem dX12_land_59 : decode cX12_land 59 = .ok (.bipush 10, 2) := zo_16 (by decide +kernel)
theorem dX12_land_61 : decode cX12_land 61 = .ok (.idiv, 1) := zo_108 (by decide +kernel)
theorem dX12_land_62 : decode cX12_land 62 = .ok (.bipush 10, 2) := zo_16 (by decide +kernel)
theorem dX12_land_64 : decode cX12_land 64 = .ok (.isub, 1) := zo_100 (by decide +kernel)
theorem dX12_land_65 : decode cX12_land 65 = .ok (.invokevirtual 181, 3) := zo_182 (by decide +kernel)
theorem dX12_land_68 : decode cX12_land 68 = .ok (.if_icmp .ge 18, 3) := zo_162 (by decide +kernel)
theorem dX12_land_71 : decode cX12_land 71 = .ok (.aload_n 0, 1) := zo_42 (by decide +kernel)
theorem dX12_land_72 : decode cX12_land 72 = .ok (.iload_n 2, 1) := zo_28 (by decide +kernel)
theorem dX12_land_73 : decode cX12_land 73 = .ok (.bipush 10, 2) := zo_16 (by decide +kernel)
theorem dX12_land_75 : decode cX12_land 75 = .ok (.idiv, 1) := zo_108 (by decide +kernel)
theorem dX12_land_76 : decode cX12_land 76 = .ok (.bipush 10, 2) := zo_16 (by decide +kernel)
theorem dX12_land_78 : decode cX12_land 78 = .ok (.isub, 1) := zo_100 (by decide +kernel)
theorem dX12_land_79 : decode cX12_land 79 = .ok (.iload_n 3, 1) := zo_29 (by decide +kernel)
theorem dX12_land_80 : decode cX12_land 80 = .ok (.invokevirtual 190, 3) := zo_182 (by decide +kernel)
theorem dX12_land_83 : decode cX12_land 83 = .ok (.goto 4, 3) := zo_167 (by decide +kernel)
theorem dX12_land_86 : decode cX12_land 86 = .ok (.iconst (-1), 1) := zo_2 (by decide +kernel)
theorem dX12_land_87 : decode cX12_land 87 = .ok (.ireturn, 1) := zo_172 (by decide +kernel)
theorem dX12_land_88 : decode cX12_land 88 = .ok (.iload_n 2, 1) := zo_28 (by decide +kernel)
theorem dX12_land_89 : decode cX12_land 89 = .ok (.bipush 10, 2) := zo_16 (by decide +kernel)
theorem dX12_land_91 : decode cX12_land 91 = .ok (.bipush 39, 2) := zo_16 (by decide +kernel)
theorem dX12_land_93 : decode cX12_land 93 = .ok (.invokestatic 111, 3) := zo_184 (by decide +kernel)
theorem dX12_land_96 : decode cX12_land 96 = .ok (.ifCond .eq 11, 3) := zo_153 (by decide +kernel)
theorem dX12_land_99 : decode cX12_land 99 = .ok (.aload_n 0, 1) := zo_42 (by decide +kernel)
theorem dX12_land_100 : decode cX12_land 100 = .ok (.iload_n 3, 1) := zo_29 (by decide +kernel)
theorem dX12_land_101 : decode cX12_land 101 = .ok (.invokevirtual 187, 3) := zo_182 (by decide +kernel)
theorem dX12_land_104 : decode cX12_land 104 = .ok (.ifCond .ne 5, 3) := zo_154 (by decide +kernel)
theorem dX12_land_107 : decode cX12_land 107 = .ok (.iconst (-1), 1) := zo_2 (by decide +kernel)
theorem dX12_land_108 : decode cX12_land 108 = .ok (.ireturn, 1) := zo_172 (by decide +kernel)
theorem dX12_land_109 : decode cX12_land 109 = .ok (.iload_n 2, 1) := zo_28 (by decide +kernel)
theorem dX12_land_110 : decode cX12_land 110 = .ok (.bipush 20, 2) := zo_16 (by decide +kernel)
theorem dX12_land_112 : decode cX12_land 112 = .ok (.if_icmp .ge 11, 3) := zo_162 (by decide +kernel)
theorem dX12_land_115 : decode cX12_land 115 = .ok (.aload_n 0, 1) := zo_42 (by decide +kernel)
theorem dX12_land_116 : decode cX12_land 116 = .ok (.iload_n 3, 1) := zo_29 (by decide +kernel)
theorem dX12_land_117 : decode cX12_land 117 = .ok (.invokevirtual 181, 3) := zo_182 (by decide +kernel)
theorem dX12_land_120 : decode cX12_land 120 = .ok (.goto 31, 3) := zo_167 (by decide +kernel)
theorem dX12_land_123 : decode cX12_land 123 = .ok (.iload_n 2, 1) := zo_28 (by decide +kernel)
theorem dX12_land_124 : decode cX12_land 124 = .ok (.bipush 30, 2) := zo_16 (by decide +kernel)
theorem dX12_land_126 : decode cX12_land 126 = .ok (.if_icmp .ge 11, 3) := zo_162 (by decide +kernel)
theorem dX12_land_129 : decode cX12_land 129 = .ok (.aload_n 0, 1) := zo_42 (by decide +kernel)
theorem dX12_land_130 : decode cX12_land 130 = .ok (.iload_n 3, 1) := zo_29 (by decide +kernel)
theorem dX12_land_131 : decode cX12_land 131 = .ok (.invokevirtual 193, 3) := zo_182 (by decide +kernel)
theorem dX12_land_134 : decode cX12_land 134 = .ok (.goto 17, 3) := zo_167 (by decide +kernel)
theorem dX12_land_137 : decode cX12_land 137 = .ok (.aload_n 0, 1) := zo_42 (by decide +kernel)
theorem dX12_land_138 : decode cX12_land 138 = .ok (.getfield 7, 3) := zo_180 (by decide +kernel)
theorem dX12_land_141 : decode cX12_land 141 = .ok (.aload_n 0, 1) := zo_42 (by decide +kernel)
theorem dX12_land_142 : decode cX12_land 142 = .ok (.getfield 166, 3) := zo_180 (by decide +kernel)
theorem dX12_land_145 : decode cX12_land 145 = .ok (.bipush 16, 2) := zo_16 (by decide +kernel)
theorem dX12_land_147 : decode cX12_land 147 = .ok (.iadd, 1) := zo_96 (by decide +kernel)
theorem dX12_land_148 : decode cX12_land 148 = .ok (.iload_n 3, 1) := zo_29 (by decide +kernel)
theorem dX12_land_149 : decode cX12_land 149 = .ok (.iadd, 1) := zo_96 (by decide +kernel)
theorem dX12_land_150 : decode cX12_land 150 = .ok (.iaload, 1) := zo_46 (by decide +kernel)
theorem dX12_land_151 : decode cX12_land 151 = .ok (.ireturn, 1) := zo_172 (by decide +kernel)
theorem dX12_walk_0 : decode cX12_walk 0 = .ok (.aload_n 0, 1) := zo_42 (by decide +kernel)
theorem dX12_walk_1 : decode cX12_walk 1 = .ok (.iload_n 1, 1) := zo_27 (by decide +kernel)
theorem dX12_walk_2 : decode cX12_walk 2 = .ok (.invokevirtual 184, 3) := zo_182 (by decide +kernel)
theorem dX12_walk_5 : decode cX12_walk 5 = .ok (.ifCond .eq 11, 3) := zo_153 (by decide +kernel)
theorem dX12_walk_8 : decode cX12_walk 8 = .ok (.aload_n 0, 1) := zo_42 (by decide +kernel)
theorem dX12_walk_9 : decode cX12_walk 9 = .ok (.iload_n 2, 1) := zo_28 (by decide +kernel)
theorem dX12_walk_10 : decode cX12_walk 10 = .ok (.invokevirtual 187, 3) := zo_182 (by decide +kernel)
theorem dX12_walk_13 : decode cX12_walk 13 = .ok (.ifCond .ne 6, 3) := zo_154 (by decide +kernel)
theorem dX12_walk_16 : decode cX12_walk 16 = .ok (.bipush (-2), 2) := zo_16 (by decide +kernel)
theorem dX12_walk_18 : decode cX12_walk 18 = .ok (.ireturn, 1) := zo_172 (by decide +kernel)
theorem dX12_walk_19 : decode cX12_walk 19 = .ok (.aload_n 0, 1) := zo_42 (by decide +kernel)
theorem dX12_walk_20 : decode cX12_walk 20 = .ok (.iload_n 2, 1) := zo_28 (by decide +kernel)
theorem dX12_walk_21 : decode cX12_walk 21 = .ok (.invokevirtual 217, 3) := zo_182 (by decide +kernel)
theorem dX12_walk_24 : decode cX12_walk 24 = .ok (.istore 4, 2) := zo_54 (by decide +kernel)
theorem dX12_walk_26 : decode cX12_walk 26 = .ok (.iload_n 3, 1) := zo_29 (by decide +kernel)
theorem dX12_walk_27 : decode cX12_walk 27 = .ok (.tableswitch 46 0 2 #[25, 30, 35], 25) := by decide +kernel
theorem dX12_walk_52 : decode cX12_walk 52 = .ok (.aload_n 0, 1) := zo_42 (by decide +kernel)
theorem dX12_walk_53 : decode cX12_walk 53 = .ok (.getfield 208, 3) := zo_180 (by decide +kernel)
theorem dX12_walk_56 : decode cX12_walk 56 = .ok (.ireturn, 1) := zo_172 (by decide +kernel)
theorem dX12_walk_57 : decode cX12_walk 57 = .ok (.aload_n 0, 1) := zo_42 (by decide +kernel)
theorem dX12_walk_58 : decode cX12_walk 58 = .ok (.getfield 202, 3) := zo_180 (by decide +kernel)
theorem dX12_walk_61 : decode cX12_walk 61 = .ok (.ireturn, 1) := zo_172 (by decide +kernel)
theorem dX12_walk_62 : decode cX12_walk 62 = .ok (.iload 4, 2) := zo_21 (by decide +kernel)
theorem dX12_walk_64 : decode cX12_walk 64 = .ok (.ifCond .eq 7, 3) := zo_153 (by decide +kernel)
theorem dX12_walk_67 : decode cX12_walk 67 = .ok (.iconst 1, 1) := zo_4 (by decide +kernel)
theorem dX12_walk_68 : decode cX12_walk 68 = .ok (.goto 4, 3) := zo_167 (by decide +kernel)
theorem dX12_walk_71 : decode cX12_walk 71 = .ok (.iconst 0, 1) := zo_3 (by decide +kernel)
theorem dX12_walk_72 : decode cX12_walk 72 = .ok (.ireturn, 1) := zo_172 (by decide +kernel)
theorem dX12_walk_73 : decode cX12_walk 73 = .ok (.iload_n 3, 1) := zo_29 (by decide +kernel)
theorem dX12_walk_74 : decode cX12_walk 74 = .ok (.bipush 10, 2) := zo_16 (by decide +kernel)
theorem dX12_walk_76 : decode cX12_walk 76 = .ok (.bipush 16, 2) := zo_16 (by decide +kernel)
theorem dX12_walk_78 : decode cX12_walk 78 = .ok (.invokestatic 111, 3) := zo_184 (by decide +kernel)
theorem dX12_walk_81 : decode cX12_walk 81 = .ok (.ifCond .eq 26, 3) := zo_153 (by decide +kernel)
theorem dX12_walk_84 : decode cX12_walk 84 = .ok (.aload_n 0, 1) := zo_42 (by decide +kernel)
theorem dX12_walk_85 : decode cX12_walk 85 = .ok (.iload_n 3, 1) := zo_29 (by decide +kernel)
theorem dX12_walk_86 : decode cX12_walk 86 = .ok (.bipush 10, 2) := zo_16 (by decide +kernel)
theorem dX12_walk_88 : decode cX12_walk 88 = .ok (.isub, 1) := zo_100 (by decide +kernel)
theorem dX12_walk_89 : decode cX12_walk 89 = .ok (.invokevirtual 187, 3) := zo_182 (by decide +kernel)
theorem dX12_walk_92 : decode cX12_walk 92 = .ok (.ifCond .eq 15, 3) := zo_153 (by decide +kernel)
theorem dX12_walk_95 : decode cX12_walk 95 = .ok (.aload_n 0, 1) := zo_42 (by decide +kernel)
theorem dX12_walk_96 : decode cX12_walk 96 = .ok (.getfield 29, 3) := zo_180 (by decide +kernel)
theorem dX12_walk_99 : decode cX12_walk 99 = .ok (.iload_n 3, 1) := zo_29 (by decide +kernel)
theorem dX12_walk_100 : decode cX12_walk 100 = .ok (.bipush 10, 2) := zo_16 (by decide +kernel)
theorem dX12_walk_102 : decode cX12_walk 102 = .ok (.isub, 1) := zo_100 (by decide +kernel)
theorem dX12_walk_103 : decode cX12_walk 103 = .ok (.iaload, 1) := zo_46 (by decide +kernel)
theorem dX12_walk_104 : decode cX12_walk 104 = .ok (.goto 5, 3) := zo_167 (by decide +kernel)
theorem dX12_walk_107 : decode cX12_walk 107 = .ok (.bipush (-2), 2) := zo_16 (by decide +kernel)
theorem dX12_walk_109 : decode cX12_walk 109 = .ok (.ireturn, 1) := zo_172 (by decide +kernel)
theorem dX12_come_0 : decode cX12_come 0 = .ok (.aload_n 0, 1) := zo_42 (by decide +kernel)
theorem dX12_come_1 : decode cX12_come 1 = .ok (.iload_n 1, 1) := zo_27 (by decide +kernel)
theorem dX12_come_2 : decode cX12_come 2 = .ok (.invokevirtual 184, 3) := zo_182 (by decide +kernel)
theorem dX12_come_5 : decode cX12_come 5 = .ok (.ifCond .eq 21, 3) := zo_153 (by decide +kernel)
theorem dX12_come_8 : decode cX12_come 8 = .ok (.aload_n 0, 1) := zo_42 (by decide +kernel)
theorem dX12_come_9 : decode cX12_come 9 = .ok (.iload_n 2, 1) := zo_28 (by decide +kernel)
theorem dX12_come_10 : decode cX12_come 10 = .ok (.invokevirtual 187, 3) := zo_182 (by decide +kernel)
theorem dX12_come_13 : decode cX12_come 13 = .ok (.ifCond .eq 13, 3) := zo_153 (by decide +kernel)
theorem dX12_come_16 : decode cX12_come 16 = .ok (.iload_n 3, 1) := zo_29 (by decide +kernel)
theorem dX12_come_17 : decode cX12_come 17 = .ok (.iconst 1, 1) := zo_4 (by decide +kernel)
theorem dX12_come_18 : decode cX12_come 18 = .ok (.bipush 99, 2) := zo_16 (by decide +kernel)
theorem dX12_come_20 : decode cX12_come 20 = .ok (.invokestatic 111, 3) := zo_184 (by decide +kernel)
theorem dX12_come_23 : decode cX12_come 23 = .ok (.ifCond .ne 5, 3) := zo_154 (by decide +kernel)
theorem dX12_come_26 : decode cX12_come 26 = .ok (.iconst (-1), 1) := zo_2 (by decide +kernel)
theorem dX12_come_27 : decode cX12_come 27 = .ok (.ireturn, 1) := zo_172 (by decide +kernel)
theorem dX12_come_28 : decode cX12_come 28 = .ok (.iconst 0, 1) := zo_3 (by decide +kernel)
theorem dX12_come_29 : decode cX12_come 29 = .ok (.istore 4, 2) := zo_54 (by decide +kernel)
theorem dX12_come_31 : decode cX12_come 31 = .ok (.iload 4, 2) := zo_21 (by decide +kernel)
theorem dX12_come_33 : decode cX12_come 33 = .ok (.iload_n 3, 1) := zo_29 (by decide +kernel)
theorem dX12_come_34 : decode cX12_come 34 = .ok (.if_icmp .ge 15, 3) := zo_162 (by decide +kernel)
theorem dX12_come_37 : decode cX12_come 37 = .ok (.aload_n 0, 1) := zo_42 (by decide +kernel)
theorem dX12_come_38 : decode cX12_come 38 = .ok (.iload_n 2, 1) := zo_28 (by decide +kernel)
theorem dX12_come_39 : decode cX12_come 39 = .ok (.invokevirtual 217, 3) := zo_182 (by decide +kernel)
theorem dX12_come_42 : decode cX12_come 42 = .ok (.pop, 1) := zo_87 (by decide +kernel)
theorem dX12_come_43 : decode cX12_come 43 = .ok (.iinc 4 1, 3) := zo_132 (by decide +kernel)
theorem dX12_come_46 : decode cX12_come 46 = .ok (.goto (-15), 3) := zo_167 (by decide +kernel)
theorem dX12_come_49 : decode cX12_come 49 = .ok (.aload_n 0, 1) := zo_42 (by decide +kernel)
theorem dX12_come_50 : decode cX12_come 50 = .ok (.getfield 202, 3) := zo_180 (by decide +kernel)
theorem dX12_come_53 : decode cX12_come 53 = .ok (.ireturn, 1) := zo_172 (by decide +kernel)
theorem dX12_share_0 : decode cX12_share 0 = .ok (.aload_n 0, 1) := zo_42 (by decide +kernel)
theorem dX12_share_1 : decode cX12_share 1 = .ok (.iload_n 1, 1) := zo_27 (by decide +kernel)
theorem dX12_share_2 : decode cX12_share 2 = .ok (.invokevirtual 184, 3) := zo_182 (by decide +kernel)
theorem dX12_share_5 : decode cX12_share 5 = .ok (.ifCond .eq 39, 3) := zo_153 (by decide +kernel)
theorem dX12_share_8 : decode cX12_share 8 = .ok (.aload_n 0, 1) := zo_42 (by decide +kernel)
theorem dX12_share_9 : decode cX12_share 9 = .ok (.iload_n 2, 1) := zo_28 (by decide +kernel)
theorem dX12_share_10 : decode cX12_share 10 = .ok (.invokevirtual 187, 3) := zo_182 (by decide +kernel)
theorem dX12_share_13 : decode cX12_share 13 = .ok (.ifCond .eq 31, 3) := zo_153 (by decide +kernel)
theorem dX12_share_16 : decode cX12_share 16 = .ok (.iload_n 3, 1) := zo_29 (by decide +kernel)
theorem dX12_share_17 : decode cX12_share 17 = .ok (.iconst 0, 1) := zo_3 (by decide +kernel)
theorem dX12_share_18 : decode cX12_share 18 = .ok (.bipush 99, 2) := zo_16 (by decide +kernel)
theorem dX12_share_20 : decode cX12_share 20 = .ok (.invokestatic 111, 3) := zo_184 (by decide +kernel)
theorem dX12_share_23 : decode cX12_share 23 = .ok (.ifCond .eq 21, 3) := zo_153 (by decide +kernel)
theorem dX12_share_26 : decode cX12_share 26 = .ok (.aload_n 0, 1) := zo_42 (by decide +kernel)
theorem dX12_share_27 : decode cX12_share 27 = .ok (.iload 4, 2) := zo_21 (by decide +kernel)
theorem dX12_share_29 : decode cX12_share 29 = .ok (.invokevirtual 187, 3) := zo_182 (by decide +kernel)
theorem dX12_share_32 : decode cX12_share 32 = .ok (.ifCond .eq 12, 3) := zo_153 (by decide +kernel)
theorem dX12_share_35 : decode cX12_share 35 = .ok (.aload_n 0, 1) := zo_42 (by decide +kernel)
theorem dX12_share_36 : decode cX12_share 36 = .ok (.iload 4, 2) := zo_21 (by decide +kernel)
theorem dX12_share_38 : decode cX12_share 38 = .ok (.invokevirtual 178, 3) := zo_182 (by decide +kernel)
theorem dX12_share_41 : decode cX12_share 41 = .ok (.ifCond .ne 5, 3) := zo_154 (by decide +kernel)
theorem dX12_share_44 : decode cX12_share 44 = .ok (.iconst (-1), 1) := zo_2 (by decide +kernel)
theorem dX12_share_45 : decode cX12_share 45 = .ok (.ireturn, 1) := zo_172 (by decide +kernel)
theorem dX12_share_46 : decode cX12_share 46 = .ok (.iconst 0, 1) := zo_3 (by decide +kernel)
theorem dX12_share_47 : decode cX12_share 47 = .ok (.istore 5, 2) := zo_54 (by decide +kernel)
theorem dX12_share_49 : decode cX12_share 49 = .ok (.iconst 0, 1) := zo_3 (by decide +kernel)
theorem dX12_share_50 : decode cX12_share 50 = .ok (.istore 6, 2) := zo_54 (by decide +kernel)
theorem dX12_share_52 : decode cX12_share 52 = .ok (.iload 6, 2) := zo_21 (by decide +kernel)
theorem dX12_share_54 : decode cX12_share 54 = .ok (.iload_n 3, 1) := zo_29 (by decide +kernel)
theorem dX12_share_55 : decode cX12_share 55 = .ok (.if_icmp .ge 34, 3) := zo_162 (by decide +kernel)
theorem dX12_share_58 : decode cX12_share 58 = .ok (.aload_n 0, 1) := zo_42 (by decide +kernel)
theorem dX12_share_59 : decode cX12_share 59 = .ok (.iload_n 2, 1) := zo_28 (by decide +kernel)
theorem dX12_share_60 : decode cX12_share 60 = .ok (.invokevirtual 217, 3) := zo_182 (by decide +kernel)
theorem dX12_share_63 : decode cX12_share 63 = .ok (.pop, 1) := zo_87 (by decide +kernel)
theorem dX12_share_64 : decode cX12_share 64 = .ok (.iload 5, 2) := zo_21 (by decide +kernel)
theorem dX12_share_66 : decode cX12_share 66 = .ok (.aload_n 0, 1) := zo_42 (by decide +kernel)
theorem dX12_share_67 : decode cX12_share 67 = .ok (.getfield 202, 3) := zo_180 (by decide +kernel)
theorem dX12_share_70 : decode cX12_share 70 = .ok (.iload 4, 2) := zo_21 (by decide +kernel)
theorem dX12_share_72 : decode cX12_share 72 = .ok (.if_icmp .ne 7, 3) := zo_160 (by decide +kernel)
theorem dX12_share_75 : decode cX12_share 75 = .ok (.iconst 1, 1) := zo_4 (by decide +kernel)
theorem dX12_share_76 : decode cX12_share 76 = .ok (.goto 4, 3) := zo_167 (by decide +kernel)
theorem dX12_share_79 : decode cX12_share 79 = .ok (.iconst 0, 1) := zo_3 (by decide +kernel)
theorem dX12_share_80 : decode cX12_share 80 = .ok (.iadd, 1) := zo_96 (by decide +kernel)
theorem dX12_share_81 : decode cX12_share 81 = .ok (.istore 5, 2) := zo_54 (by decide +kernel)
theorem dX12_share_83 : decode cX12_share 83 = .ok (.iinc 6 1, 3) := zo_132 (by decide +kernel)
theorem dX12_share_86 : decode cX12_share 86 = .ok (.goto (-34), 3) := zo_167 (by decide +kernel)
theorem dX12_share_89 : decode cX12_share 89 = .ok (.iload 5, 2) := zo_21 (by decide +kernel)
theorem dX12_share_91 : decode cX12_share 91 = .ok (.ireturn, 1) := zo_172 (by decide +kernel)
theorem dX12_endOf_0 : decode cX12_endOf 0 = .ok (.aload_n 0, 1) := zo_42 (by decide +kernel)
theorem dX12_endOf_1 : decode cX12_endOf 1 = .ok (.iload_n 1, 1) := zo_27 (by decide +kernel)
theorem dX12_endOf_2 : decode cX12_endOf 2 = .ok (.invokevirtual 184, 3) := zo_182 (by decide +kernel)
theorem dX12_endOf_5 : decode cX12_endOf 5 = .ok (.ifCond .ne 6, 3) := zo_154 (by decide +kernel)
theorem dX12_endOf_8 : decode cX12_endOf 8 = .ok (.bipush (-2), 2) := zo_16 (by decide +kernel)
theorem dX12_endOf_10 : decode cX12_endOf 10 = .ok (.ireturn, 1) := zo_172 (by decide +kernel)
theorem dX12_endOf_11 : decode cX12_endOf 11 = .ok (.iconst 0, 1) := zo_3 (by decide +kernel)
theorem dX12_endOf_12 : decode cX12_endOf 12 = .ok (.istore_n 3, 1) := zo_62 (by decide +kernel)
theorem dX12_endOf_13 : decode cX12_endOf 13 = .ok (.iload_n 3, 1) := zo_29 (by decide +kernel)
theorem dX12_endOf_14 : decode cX12_endOf 14 = .ok (.bipush 7, 2) := zo_16 (by decide +kernel)
theorem dX12_endOf_16 : decode cX12_endOf 16 = .ok (.if_icmp .ge 16, 3) := zo_162 (by decide +kernel)
theorem dX12_endOf_19 : decode cX12_endOf 19 = .ok (.aload_n 0, 1) := zo_42 (by decide +kernel)
theorem dX12_endOf_20 : decode cX12_endOf 20 = .ok (.getfield 32, 3) := zo_180 (by decide +kernel)
theorem dX12_endOf_23 : decode cX12_endOf 23 = .ok (.iload_n 3, 1) := zo_29 (by decide +kernel)
theorem dX12_endOf_24 : decode cX12_endOf 24 = .ok (.iconst 0, 1) := zo_3 (by decide +kernel)
theorem dX12_endOf_25 : decode cX12_endOf 25 = .ok (.iastore, 1) := zo_79 (by decide +kernel)
theorem dX12_endOf_26 : decode cX12_endOf 26 = .ok (.iinc 3 1, 3) := zo_132 (by decide +kernel)
theorem dX12_endOf_29 : decode cX12_endOf 29 = .ok (.goto (-16), 3) := zo_167 (by decide +kernel)
theorem dX12_endOf_32 : decode cX12_endOf 32 = .ok (.iconst 0, 1) := zo_3 (by decide +kernel)
theorem dX12_endOf_33 : decode cX12_endOf 33 = .ok (.istore_n 3, 1) := zo_62 (by decide +kernel)
theorem dX12_endOf_34 : decode cX12_endOf 34 = .ok (.iload_n 3, 1) := zo_29 (by decide +kernel)
theorem dX12_endOf_35 : decode cX12_endOf 35 = .ok (.aload_n 0, 1) := zo_42 (by decide +kernel)
theorem dX12_endOf_36 : decode cX12_endOf 36 = .ok (.getfield 169, 3) := zo_180 (by decide +kernel)
theorem dX12_endOf_39 : decode cX12_endOf 39 = .ok (.if_icmp .ge 61, 3) := zo_162 (by decide +kernel)
theorem dX12_endOf_42 : decode cX12_endOf 42 = .ok (.iconst 0, 1) := zo_3 (by decide +kernel)
theorem dX12_endOf_43 : decode cX12_endOf 43 = .ok (.istore 4, 2) := zo_54 (by decide +kernel)
theorem dX12_endOf_45 : decode cX12_endOf 45 = .ok (.iload 4, 2) := zo_21 (by decide +kernel)
theorem dX12_endOf_47 : decode cX12_endOf 47 = .ok (.aload_n 0, 1) := zo_42 (by decide +kernel)
theorem dX12_endOf_48 : decode cX12_endOf 48 = .ok (.getfield 26, 3) := zo_180 (by decide +kernel)
theorem dX12_endOf_51 : decode cX12_endOf 51 = .ok (.iload_n 3, 1) := zo_29 (by decide +kernel)
theorem dX12_endOf_52 : decode cX12_endOf 52 = .ok (.iaload, 1) := zo_46 (by decide +kernel)
theorem dX12_endOf_53 : decode cX12_endOf 53 = .ok (.if_icmp .ge 41, 3) := zo_162 (by decide +kernel)
theorem dX12_endOf_56 : decode cX12_endOf 56 = .ok (.aload_n 0, 1) := zo_42 (by decide +kernel)
theorem dX12_endOf_57 : decode cX12_endOf 57 = .ok (.iload_n 3, 1) := zo_29 (by decide +kernel)
theorem dX12_endOf_58 : decode cX12_endOf 58 = .ok (.invokevirtual 217, 3) := zo_182 (by decide +kernel)
theorem dX12_endOf_61 : decode cX12_endOf 61 = .ok (.pop, 1) := zo_87 (by decide +kernel)
theorem dX12_endOf_62 : decode cX12_endOf 62 = .ok (.aload_n 0, 1) := zo_42 (by decide +kernel)
theorem dX12_endOf_63 : decode cX12_endOf 63 = .ok (.dup, 1) := zo_89 (by decide +kernel)
theorem dX12_endOf_64 : decode cX12_endOf 64 = .ok (.getfield 196, 3) := zo_180 (by decide +kernel)
theorem dX12_endOf_67 : decode cX12_endOf 67 = .ok (.aload_n 0, 1) := zo_42 (by decide +kernel)
theorem dX12_endOf_68 : decode cX12_endOf 68 = .ok (.getfield 208, 3) := zo_180 (by decide +kernel)
theorem dX12_endOf_71 : decode cX12_endOf 71 = .ok (.iadd, 1) := zo_96 (by decide +kernel)
theorem dX12_endOf_72 : decode cX12_endOf 72 = .ok (.putfield 196, 3) := zo_181 (by decide +kernel)
theorem dX12_endOf_75 : decode cX12_endOf 75 = .ok (.aload_n 0, 1) := zo_42 (by decide +kernel)
theorem dX12_endOf_76 : decode cX12_endOf 76 = .ok (.getfield 32, 3) := zo_180 (by decide +kernel)
theorem dX12_endOf_79 : decode cX12_endOf 79 = .ok (.aload_n 0, 1) := zo_42 (by decide +kernel)
theorem dX12_endOf_80 : decode cX12_endOf 80 = .ok (.getfield 202, 3) := zo_180 (by decide +kernel)
theorem dX12_endOf_83 : decode cX12_endOf 83 = .ok (.dup2, 1) := zo_92 (by decide +kernel)
theorem dX12_endOf_84 : decode cX12_endOf 84 = .ok (.iaload, 1) := zo_46 (by decide +kernel)
theorem dX12_endOf_85 : decode cX12_endOf 85 = .ok (.iconst 1, 1) := zo_4 (by decide +kernel)
theorem dX12_endOf_86 : decode cX12_endOf 86 = .ok (.iadd, 1) := zo_96 (by decide +kernel)
theorem dX12_endOf_87 : decode cX12_endOf 87 = .ok (.iastore, 1) := zo_79 (by decide +kernel)
theorem dX12_endOf_88 : decode cX12_endOf 88 = .ok (.iinc 4 1, 3) := zo_132 (by decide +kernel)
theorem dX12_endOf_91 : decode cX12_endOf 91 = .ok (.goto (-46), 3) := zo_167 (by decide +kernel)
theorem dX12_endOf_94 : decode cX12_endOf 94 = .ok (.iinc 3 1, 3) := zo_132 (by decide +kernel)
theorem dX12_endOf_97 : decode cX12_endOf 97 = .ok (.goto (-63), 3) := zo_167 (by decide +kernel)
theorem dX12_endOf_100 : decode cX12_endOf 100 = .ok (.iload_n 2, 1) := zo_28 (by decide +kernel)
theorem dX12_endOf_101 : decode cX12_endOf 101 = .ok (.ifCond .ne 8, 3) := zo_154 (by decide +kernel)
theorem dX12_endOf_104 : decode cX12_endOf 104 = .ok (.aload_n 0, 1) := zo_42 (by decide +kernel)
theorem dX12_endOf_105 : decode cX12_endOf 105 = .ok (.getfield 196, 3) := zo_180 (by decide +kernel)
theorem dX12_endOf_108 : decode cX12_endOf 108 = .ok (.ireturn, 1) := zo_172 (by decide +kernel)
theorem dX12_endOf_109 : decode cX12_endOf 109 = .ok (.iload_n 2, 1) := zo_28 (by decide +kernel)
theorem dX12_endOf_110 : decode cX12_endOf 110 = .ok (.bipush 10, 2) := zo_16 (by decide +kernel)
theorem dX12_endOf_112 : decode cX12_endOf 112 = .ok (.irem, 1) := zo_112 (by decide +kernel)
theorem dX12_endOf_113 : decode cX12_endOf 113 = .ok (.istore_n 3, 1) := zo_62 (by decide +kernel)
theorem dX12_endOf_114 : decode cX12_endOf 114 = .ok (.iload_n 2, 1) := zo_28 (by decide +kernel)
theorem dX12_endOf_115 : decode cX12_endOf 115 = .ok (.bipush 10, 2) := zo_16 (by decide +kernel)
theorem dX12_endOf_117 : decode cX12_endOf 117 = .ok (.bipush 29, 2) := zo_16 (by decide +kernel)
theorem dX12_endOf_119 : decode cX12_endOf 119 = .ok (.invokestatic 111, 3) := zo_184 (by decide +kernel)
theorem dX12_endOf_122 : decode cX12_endOf 122 = .ok (.ifCond .eq 11, 3) := zo_153 (by decide +kernel)
theorem dX12_endOf_125 : decode cX12_endOf 125 = .ok (.aload_n 0, 1) := zo_42 (by decide +kernel)
theorem dX12_endOf_126 : decode cX12_endOf 126 = .ok (.iload_n 3, 1) := zo_29 (by decide +kernel)
theorem dX12_endOf_127 : decode cX12_endOf 127 = .ok (.invokevirtual 187, 3) := zo_182 (by decide +kernel)
theorem dX12_endOf_130 : decode cX12_endOf 130 = .ok (.ifCond .ne 8, 3) := zo_154 (by decide +kernel)
theorem dX12_endOf_133 : decode cX12_endOf 133 = .ok (.bipush (-2), 2) := zo_16 (by decide +kernel)
theorem dX12_endOf_135 : decode cX12_endOf 135 = .ok (.goto 24, 3) := zo_167 (by decide +kernel)
theorem dX12_endOf_138 : decode cX12_endOf 138 = .ok (.iload_n 2, 1) := zo_28 (by decide +kernel)
theorem dX12_endOf_139 : decode cX12_endOf 139 = .ok (.bipush 20, 2) := zo_16 (by decide +kernel)
theorem dX12_endOf_141 : decode cX12_endOf 141 = .ok (.if_icmp .ge 12, 3) := zo_162 (by decide +kernel)
theorem dX12_endOf_144 : decode cX12_endOf 144 = .ok (.aload_n 0, 1) := zo_42 (by decide +kernel)
theorem dX12_endOf_145 : decode cX12_endOf 145 = .ok (.getfield 32, 3) := zo_180 (by decide +kernel)
theorem dX12_endOf_148 : decode cX12_endOf 148 = .ok (.iload_n 3, 1) := zo_29 (by decide +kernel)
theorem dX12_endOf_149 : decode cX12_endOf 149 = .ok (.iaload, 1) := zo_46 (by decide +kernel)
theorem dX12_endOf_150 : decode cX12_endOf 150 = .ok (.goto 9, 3) := zo_167 (by decide +kernel)
theorem dX12_endOf_153 : decode cX12_endOf 153 = .ok (.aload_n 0, 1) := zo_42 (by decide +kernel)
theorem dX12_endOf_154 : decode cX12_endOf 154 = .ok (.getfield 20, 3) := zo_180 (by decide +kernel)
theorem dX12_endOf_157 : decode cX12_endOf 157 = .ok (.iload_n 3, 1) := zo_29 (by decide +kernel)
theorem dX12_endOf_158 : decode cX12_endOf 158 = .ok (.iaload, 1) := zo_46 (by decide +kernel)
theorem dX12_endOf_159 : decode cX12_endOf 159 = .ok (.ireturn, 1) := zo_172 (by decide +kernel)
theorem dX12_period_0 : decode cX12_period 0 = .ok (.aload_n 0, 1) := zo_42 (by decide +kernel)
theorem dX12_period_1 : decode cX12_period 1 = .ok (.iload_n 1, 1) := zo_27 (by decide +kernel)
theorem dX12_period_2 : decode cX12_period 2 = .ok (.invokevirtual 184, 3) := zo_182 (by decide +kernel)
theorem dX12_period_5 : decode cX12_period 5 = .ok (.ifCond .eq 11, 3) := zo_153 (by decide +kernel)
theorem dX12_period_8 : decode cX12_period 8 = .ok (.aload_n 0, 1) := zo_42 (by decide +kernel)
theorem dX12_period_9 : decode cX12_period 9 = .ok (.iload_n 2, 1) := zo_28 (by decide +kernel)
theorem dX12_period_10 : decode cX12_period 10 = .ok (.invokevirtual 187, 3) := zo_182 (by decide +kernel)
theorem dX12_period_13 : decode cX12_period 13 = .ok (.ifCond .ne 5, 3) := zo_154 (by decide +kernel)
theorem dX12_period_16 : decode cX12_period 16 = .ok (.iconst (-1), 1) := zo_2 (by decide +kernel)
theorem dX12_period_17 : decode cX12_period 17 = .ok (.ireturn, 1) := zo_172 (by decide +kernel)
theorem dX12_period_18 : decode cX12_period 18 = .ok (.iconst 0, 1) := zo_3 (by decide +kernel)
theorem dX12_period_19 : decode cX12_period 19 = .ok (.istore 4, 2) := zo_54 (by decide +kernel)
theorem dX12_period_21 : decode cX12_period 21 = .ok (.iload 4, 2) := zo_21 (by decide +kernel)
theorem dX12_period_23 : decode cX12_period 23 = .ok (.sipush 16384, 3) := zo_17 (by decide +kernel)
theorem dX12_period_26 : decode cX12_period 26 = .ok (.if_icmp .ge 17, 3) := zo_162 (by decide +kernel)
theorem dX12_period_29 : decode cX12_period 29 = .ok (.aload_n 0, 1) := zo_42 (by decide +kernel)
theorem dX12_period_30 : decode cX12_period 30 = .ok (.getfield 35, 3) := zo_180 (by decide +kernel)
theorem dX12_period_33 : decode cX12_period 33 = .ok (.iload 4, 2) := zo_21 (by decide +kernel)
theorem dX12_period_35 : decode cX12_period 35 = .ok (.iconst 0, 1) := zo_3 (by decide +kernel)
theorem dX12_period_36 : decode cX12_period 36 = .ok (.iastore, 1) := zo_79 (by decide +kernel)
theorem dX12_period_37 : decode cX12_period 37 = .ok (.iinc 4 1, 3) := zo_132 (by decide +kernel)
theorem dX12_period_40 : decode cX12_period 40 = .ok (.goto (-19), 3) := zo_167 (by decide +kernel)
theorem dX12_period_43 : decode cX12_period 43 = .ok (.aload_n 0, 1) := zo_42 (by decide +kernel)
theorem dX12_period_44 : decode cX12_period 44 = .ok (.getfield 35, 3) := zo_180 (by decide +kernel)
theorem dX12_period_47 : decode cX12_period 47 = .ok (.aload_n 0, 1) := zo_42 (by decide +kernel)
theorem dX12_period_48 : decode cX12_period 48 = .ok (.invokevirtual 220, 3) := zo_182 (by decide +kernel)
theorem dX12_period_51 : decode cX12_period 51 = .ok (.iconst 1, 1) := zo_4 (by decide +kernel)
theorem dX12_period_52 : decode cX12_period 52 = .ok (.iastore, 1) := zo_79 (by decide +kernel)
theorem dX12_period_53 : decode cX12_period 53 = .ok (.iconst 1, 1) := zo_4 (by decide +kernel)
theorem dX12_period_54 : decode cX12_period 54 = .ok (.istore 4, 2) := zo_54 (by decide +kernel)
theorem dX12_period_56 : decode cX12_period 56 = .ok (.iload 4, 2) := zo_21 (by decide +kernel)
theorem dX12_period_58 : decode cX12_period 58 = .ok (.sipush 1000, 3) := zo_17 (by decide +kernel)
theorem dX12_period_61 : decode cX12_period 61 = .ok (.if_icmp .ge 63, 3) := zo_162 (by decide +kernel)
theorem dX12_period_64 : decode cX12_period 64 = .ok (.aload_n 0, 1) := zo_42 (by decide +kernel)
theorem dX12_period_65 : decode cX12_period 65 = .ok (.iload_n 2, 1) := zo_28 (by decide +kernel)
theorem dX12_period_66 : decode cX12_period 66 = .ok (.invokevirtual 217, 3) := zo_182 (by decide +kernel)
theorem dX12_period_69 : decode cX12_period 69 = .ok (.pop, 1) := zo_87 (by decide +kernel)
theorem dX12_period_70 : decode cX12_period 70 = .ok (.aload_n 0, 1) := zo_42 (by decide +kernel)
theorem dX12_period_71 : decode cX12_period 71 = .ok (.getfield 35, 3) := zo_180 (by decide +kernel)
theorem dX12_period_74 : decode cX12_period 74 = .ok (.aload_n 0, 1) := zo_42 (by decide +kernel)
theorem dX12_period_75 : decode cX12_period 75 = .ok (.invokevirtual 220, 3) := zo_182 (by decide +kernel)
theorem dX12_period_78 : decode cX12_period 78 = .ok (.iaload, 1) := zo_46 (by decide +kernel)
theorem dX12_period_79 : decode cX12_period 79 = .ok (.istore 5, 2) := zo_54 (by decide +kernel)
theorem dX12_period_81 : decode cX12_period 81 = .ok (.iload 5, 2) := zo_21 (by decide +kernel)
theorem dX12_period_83 : decode cX12_period 83 = .ok (.ifCond .le 22, 3) := zo_158 (by decide +kernel)
theorem dX12_period_86 : decode cX12_period 86 = .ok (.iload_n 3, 1) := zo_29 (by decide +kernel)
theorem dX12_period_87 : decode cX12_period 87 = .ok (.ifCond .eq 10, 3) := zo_153 (by decide +kernel)
theorem dX12_period_90 : decode cX12_period 90 = .ok (.iload 5, 2) := zo_21 (by decide +kernel)
theorem dX12_period_92 : decode cX12_period 92 = .ok (.iconst 1, 1) := zo_4 (by decide +kernel)
theorem dX12_period_93 : decode cX12_period 93 = .ok (.isub, 1) := zo_100 (by decide +kernel)
theorem dX12_period_94 : decode cX12_period 94 = .ok (.goto 10, 3) := zo_167 (by decide +kernel)
theorem dX12_period_97 : decode cX12_period 97 = .ok (.iload 4, 2) := zo_21 (by decide +kernel)
theorem dX12_period_99 : decode cX12_period 99 = .ok (.iconst 1, 1) := zo_4 (by decide +kernel)
theorem dX12_period_100 : decode cX12_period 100 = .ok (.iadd, 1) := zo_96 (by decide +kernel)
theorem dX12_period_101 : decode cX12_period 101 = .ok (.iload 5, 2) := zo_21 (by decide +kernel)
theorem dX12_period_103 : decode cX12_period 103 = .ok (.isub, 1) := zo_100 (by decide +kernel)
theorem dX12_period_104 : decode cX12_period 104 = .ok (.ireturn, 1) := zo_172 (by decide +kernel)
theorem dX12_period_105 : decode cX12_period 105 = .ok (.aload_n 0, 1) := zo_42 (by decide +kernel)
theorem dX12_period_106 : decode cX12_period 106 = .ok (.getfield 35, 3) := zo_180 (by decide +kernel)
theorem dX12_period_109 : decode cX12_period 109 = .ok (.aload_n 0, 1) := zo_42 (by decide +kernel)
theorem dX12_period_110 : decode cX12_period 110 = .ok (.invokevirtual 220, 3) := zo_182 (by decide +kernel)
theorem dX12_period_113 : decode cX12_period 113 = .ok (.iload 4, 2) := zo_21 (by decide +kernel)
theorem dX12_period_115 : decode cX12_period 115 = .ok (.iconst 1, 1) := zo_4 (by decide +kernel)
theorem dX12_period_116 : decode cX12_period 116 = .ok (.iadd, 1) := zo_96 (by decide +kernel)
theorem dX12_period_117 : decode cX12_period 117 = .ok (.iastore, 1) := zo_79 (by decide +kernel)
theorem dX12_period_118 : decode cX12_period 118 = .ok (.iinc 4 1, 3) := zo_132 (by decide +kernel)
theorem dX12_period_121 : decode cX12_period 121 = .ok (.goto (-65), 3) := zo_167 (by decide +kernel)
theorem dX12_period_124 : decode cX12_period 124 = .ok (.iconst (-1), 1) := zo_2 (by decide +kernel)
theorem dX12_period_125 : decode cX12_period 125 = .ok (.ireturn, 1) := zo_172 (by decide +kernel)

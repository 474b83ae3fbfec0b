set_option maxHeartbeats 4000000 in
set_option maxRecDepth 100000 in
/-- c_fm_landLine -/
theorem c_fm_landLine (l : Launch) (T : zTy) (mo : Nat) (m_all : Nat) (m_has : Nat) (i_size : Int32) (i_next : Int32) (i_where : Int32) (i_token : Int32) (i_number : Int32) (i_word : Int32) (i_wrong : Int32) (i_farCrossing : Int32) (m_read : Nat) (i_z0 : Int32) (i_crossings : Int32) (i_inns : Int32) (m_posts : Nat) (m_shut : Nat) (m_here : Nat) (i_steps : Int32) (i_done : Int32) (i_at : Int32) (i_gone : Int32) (m_was : Nat) (m_came : Nat) (m_seenAt : Nat) (m_rowWorth : Nat) (m_farBy : Nat) (m_used : Nat) (i_everywhere : Int32) (i_again0 : Int32) (i_d0 : Int32) (i_never : Int32) (i_firstCame : Int32) (i_longRun : Int32) (i_moved : Int32) (i_crowd : Int32) (i_l0 : Int32) (i_fitMany : Int32) (i_fitLeast : Int32) (i_fitMost : Int32) (m_fitPost : Nat) (m_fitEnd : Nat) (m_keptPosts : Nat) (i_x0 : Int32) (f_all : Nat → Int32) (f_read : Nat → Int32) (k : pT) (n : Nat) (a : pS) (hsz : i_size.toInt ≤ 600) (hn0 : 0 ≤ i_next.toInt) (hns : i_next.toInt ≤ i_size.toInt) (hR : zLF f_read) (hA : zRr k n i_size i_next i_where i_token i_number i_word i_wrong i_farCrossing f_all a) (hw : a.2.1.toInt = 0) : zMv l T yX12_landLine cX12_landLine 4 8 0 0 [.ref mo] [[zO11 mo m_all m_has i_size i_next i_where i_token i_number i_word i_wrong i_farCrossing m_read i_z0 i_crossings i_inns m_posts m_shut m_here i_steps i_done i_at i_gone m_was m_came m_seenAt m_rowWorth m_farBy m_used i_everywhere i_again0 i_d0 i_never i_firstCame i_longRun i_moved i_crowd i_l0 i_fitMany i_fitLeast i_fitMost m_fitPost m_fitEnd m_keptPosts i_x0], [zAr T 0 m_all 3952 f_all], [zAr T 0 m_read 121 f_read]] (fun bs => ∃ (j_next : Int32) (j_where : Int32) (j_token : Int32) (j_number : Int32) (j_word : Int32) (j_wrong : Int32) (j_farCrossing : Int32) (g_all : Nat → Int32) (g_read : Nat → Int32), bs = [[zO11 mo m_all m_has i_size j_next j_where j_token j_number j_word j_wrong j_farCrossing m_read i_z0 i_crossings i_inns m_posts m_shut m_here i_steps i_done i_at i_gone m_was m_came m_seenAt m_rowWorth m_farBy m_used i_everywhere i_again0 i_d0 i_never i_firstCame i_longRun i_moved i_crowd i_l0 i_fitMany i_fitLeast i_fitMost m_fitPost m_fitEnd m_keptPosts i_x0], [zAr T 0 m_all 3952 g_all], [zAr T 0 m_read 121 g_read]] ∧ 0 ≤ j_next.toInt ∧ j_next.toInt ≤ i_size.toInt ∧ i_next.toInt ≤ j_next.toInt ∧ (¬ j_wrong.toInt = 0 ∨ i_next.toInt < j_next.toInt ∨ j_token.toInt = 0) ∧ zPal f_all g_all ∧ zLF g_read ∧ zRr k n i_size j_next j_where j_token j_number j_word j_wrong j_farCrossing g_all (pLand k a f_read).1 ∧ g_read = (pLand k a f_read).2) := by
  refine zMv_of (own := RX12) (by decide) rfl (Nat.le_of_ble_eq_true rfl) ?_
  intro p e s m args below meth c A ls C hr hlocks hnm hAe G hl
  refine zHide (fun Q9 hQ9 => ?_)
  have hx := C.1
  have hb := C.2.1
  have hl : lv_has ls 4 [(0, .ref mo)] := hl
  have hok := zRr_ok hA
  refine zAn6 (id hA) ?_
  intro hA1 hA6 hA7 hA8 hA9 hA10
  replace hA7 : zHd _ := hA7
  have hka : zHd _ := hok a.1 hA1.2.2.2.2
  have hkb := hka.1
  have hkc := hka.2.1
  have hT4 := pTk_le hok hA1.2.2.2.2
  refine zAn5 (hA7 hw) ?_
  intro t1 t2 t3 t4 t5
  replace t4 : zHd _ := t4
  replace t5 : zHd _ := t5
  have t3i : i_token.toInt = (pTk k a.1 : Int) := by rw [t3]; exact nI_toInt (by omega)
  refine lv_aload_n hx hb dX12_landLine_0 rfl (lv_at hl 0 rfl) ?_
  refine z_get C G clX12 0 rfl 4 (by decide) m_fl_RX12_77 rfl dX12_landLine_1 ?_
  refine lv_istore_n (lv' := [(1, .int i_where), (0, .ref mo)]) hx hb dX12_landLine_4 rfl hl (by decide) rfl (fun ls hl => ?_)
  refine lv_aload_n hx hb dX12_landLine_5 rfl (lv_at hl 1 rfl) ?_
  refine lv_iconst (v := 1) hx hb dX12_landLine_6 (by decide) ?_
  refine lv_iconst (v := 4) hx hb dX12_landLine_7 (by decide) ?_
  refine z_Vi (bc := [[zO11 mo m_all m_has i_size i_next i_where i_token i_number i_word i_wrong i_farCrossing m_read i_z0 i_crossings i_inns m_posts m_shut m_here i_steps i_done i_at i_gone m_was m_came m_seenAt m_rowWorth m_farBy m_used i_everywhere i_again0 i_d0 i_never i_firstCame i_longRun i_moved i_crowd i_l0 i_fitMany i_fitLeast i_fitMost m_fitPost m_fitEnd m_keptPosts i_x0], [zAr T 0 m_all 3952 f_all]]) (br := [[zAr T 0 m_read 121 f_read]]) (As := [.int 1, .int 4]) (rest := []) C G (c_fm_wordIn l T mo m_all m_has i_size i_next i_where i_token i_number i_word i_wrong i_farCrossing m_read i_z0 i_crossings i_inns m_posts m_shut m_here i_steps i_done i_at i_gone m_was m_came m_seenAt m_rowWorth m_farBy m_used i_everywhere i_again0 i_d0 i_never i_firstCame i_longRun i_moved i_crowd i_l0 i_fitMany i_fitLeast i_fitMost m_fitPost m_fitEnd m_keptPosts i_x0 f_all k n a 1 4 1 4 (by first | with_reducible assumption | with_reducible rfl | omega | assumption | rfl) (by first | with_reducible assumption | with_reducible rfl | omega | assumption | rfl) (by first | with_reducible assumption | with_reducible rfl | omega | assumption | rfl) hA rfl rfl) (kV_RX12_133 C.2.2.2.2 (Nat.le_of_ble_eq_true rfl) (Nat.le_of_ble_eq_true rfl)) [0, 1] [0, 0] rfl rfl (ci := 11) (qc := (RX12, TX12, 43)) rfl rfl (List.mem_flatten.mpr ⟨_, List.mem_of_getElem? (i := 0) rfl, List.mem_cons_self⟩) rfl rfl hl.1 dX12_landLine_8 (Nat.le_of_ble_eq_true rfl) (Nat.le_of_ble_eq_true rfl) (fun r_16 b1 H locs hw G => ?_)
  refine zEx7 hw ?_
  intro j_next_1 j_where_2 j_token_3 j_number_4 j_word_5 j_wrong_6 g_all_7
  refine zCu9 ?_
  intro hbs9 h_8 h_9 h_10 h_11 h_12 h_13 h_14 h_15
  clear hw
  subst hbs9
  have G : zS T A s.heap s [[zAr T 0 m_read 121 f_read], [zO11 mo m_all m_has i_size j_next_1 j_where_2 j_token_3 j_number_4 j_word_5 j_wrong_6 i_farCrossing m_read i_z0 i_crossings i_inns m_posts m_shut m_here i_steps i_done i_at i_gone m_was m_came m_seenAt m_rowWorth m_farBy m_used i_everywhere i_again0 i_d0 i_never i_firstCame i_longRun i_moved i_crowd i_l0 i_fitMany i_fitLeast i_fitMost m_fitPost m_fitEnd m_keptPosts i_x0], [zAr T 0 m_all 3952 g_all_7]] _ _ := G
  have h_13 : (r_16.toInt = 0 ∨ (1 : Int) ≤ r_16.toInt ∧ r_16.toInt ≤ (4 : Int)) := h_13
  obtain ⟨d1, d2, hd⟩ : ∃ (d1 : Nat) (d2 : pS), pWord k 1 4 a = (d1, d2) := ⟨_, _, rfl⟩
  have hRd : zRr k n i_size j_next_1 j_where_2 j_token_3 j_number_4 j_word_5 j_wrong_6 i_farCrossing g_all_7 d2 := by have q9 := h_14; rw [hd] at q9; exact q9
  have hvd : r_16 = nI d1 := by have q9 := h_15; rw [hd] at q9; exact q9
  have hokD := zRr_ok hRd
  refine zAn6 (id hRd) ?_
  intro hA1D hA6D hA7D hA8D hA9D hA10D
  replace hA7D : zHd _ := hA7D
  have hkaD : zHd _ := hokD d2.1 hA1D.2.2.2.2
  have hkbD := hkaD.1
  have hkcD := hkaD.2.1
  have hT4D := pTk_le hokD hA1D.2.2.2.2
  have hdr : d2.2.1.toInt = 0 → 1 ≤ d1 ∧ d1 ≤ 4 := fun q9 => by have q8 := pWord_r (k := k) (lo := 1) (hi := 4) (a := a) (by rw [hd]; exact q9); have q6 := q8.2.2.2; rw [hd] at q6; have q7 : d1 = pWd k a.1 := congrArg Prod.fst q6; omega
  have hd4 : d1 ≤ 4 := by have q9 := pWord_1 k 1 4 a; rw [hd] at q9; exact q9
  have hdi : (r_16).toInt = (d1 : Int) := by rw [hvd]; exact nI_toInt (by omega)
  refine lv_istore_n (lv' := [(2, .int r_16), (1, .int i_where), (0, .ref mo)]) hx hb dX12_landLine_11 rfl hl (by decide) rfl (fun ls hl => ?_)
  refine lv_aload_n hx hb dX12_landLine_12 rfl (lv_at hl 2 rfl) ?_
  refine z_get C G clX12 1 rfl 8 (by decide) m_fl_RX12_104 rfl dX12_landLine_13 ?_
  refine lv_if_eq (tgt := 23) hx hb dX12_landLine_16 (by decide) (fun c_17 => ?_) (fun c_17 => ?_)
  · have c_17n : j_wrong_6.toInt = (0 : Int) := (fa_eq _ _).mp c_17
    have hwD : d2.2.1.toInt = 0 := by rw [← hA6D]; omega
    refine lv_iload_n hx hb dX12_landLine_23 rfl (lv_at hl 0 rfl) ?_
    by_cases c_18o : r_16.toInt < 1 ∨ 4 < r_16.toInt
    · refine lv_tableOut (tgt := 129) hx hb dX12_landLine_24 c_18o (by decide) ?_
      refine lv_aload_n hx hb dX12_landLine_129 rfl (lv_at hl 2 rfl) ?_
      refine z_Vv (bc := [[zO11 mo m_all m_has i_size j_next_1 j_where_2 j_token_3 j_number_4 j_word_5 j_wrong_6 i_farCrossing m_read i_z0 i_crossings i_inns m_posts m_shut m_here i_steps i_done i_at i_gone m_was m_came m_seenAt m_rowWorth m_farBy m_used i_everywhere i_again0 i_d0 i_never i_firstCame i_longRun i_moved i_crowd i_l0 i_fitMany i_fitLeast i_fitMost m_fitPost m_fitEnd m_keptPosts i_x0], [zAr T 0 m_all 3952 g_all_7]]) (br := [[zAr T 0 m_read 121 f_read]]) (As := []) (rest := []) C G (c_fm_endsLine l T mo m_all m_has i_size j_next_1 j_where_2 j_token_3 j_number_4 j_word_5 j_wrong_6 i_farCrossing m_read i_z0 i_crossings i_inns m_posts m_shut m_here i_steps i_done i_at i_gone m_was m_came m_seenAt m_rowWorth m_farBy m_used i_everywhere i_again0 i_d0 i_never i_firstCame i_longRun i_moved i_crowd i_l0 i_fitMany i_fitLeast i_fitMost m_fitPost m_fitEnd m_keptPosts i_x0 g_all_7 k n d2 (by first | with_reducible assumption | with_reducible rfl | omega | assumption | rfl) (by first | with_reducible assumption | with_reducible rfl | omega | assumption | rfl) (by first | with_reducible assumption | with_reducible rfl | omega | assumption | rfl) hRd) (kV_RX12_140 C.2.2.2.2 (Nat.le_of_ble_eq_true rfl) (Nat.le_of_ble_eq_true rfl)) [1, 2] [1, 0] rfl rfl (ci := 11) (qc := (RX12, TX12, 43)) rfl rfl (List.mem_flatten.mpr ⟨_, List.mem_of_getElem? (i := 0) rfl, List.mem_cons_self⟩) rfl rfl hl.1 dX12_landLine_130 (Nat.le_of_ble_eq_true rfl) (Nat.le_of_ble_eq_true rfl) (fun b1 H locs hw G => ?_)
      refine zEx7 hw ?_
      intro j_next_19 j_where_20 j_token_21 j_number_22 j_word_23 j_wrong_24 g_all_25
      refine zCu7 ?_
      intro hbs9 h_26 h_27 h_28 h_29 h_30 h_31
      clear hw
      subst hbs9
      have G : zS T A s.heap s [[zAr T 0 m_read 121 f_read], [zO11 mo m_all m_has i_size j_next_19 j_where_20 j_token_21 j_number_22 j_word_23 j_wrong_24 i_farCrossing m_read i_z0 i_crossings i_inns m_posts m_shut m_here i_steps i_done i_at i_gone m_was m_came m_seenAt m_rowWorth m_farBy m_used i_everywhere i_again0 i_d0 i_never i_firstCame i_longRun i_moved i_crowd i_l0 i_fitMany i_fitLeast i_fitMost m_fitPost m_fitEnd m_keptPosts i_x0], [zAr T 0 m_all 3952 g_all_25]] _ _ := G
      have G := G.sub (bs' := [[zO11 mo m_all m_has i_size j_next_19 j_where_20 j_token_21 j_number_22 j_word_23 j_wrong_24 i_farCrossing m_read i_z0 i_crossings i_inns m_posts m_shut m_here i_steps i_done i_at i_gone m_was m_came m_seenAt m_rowWorth m_farBy m_used i_everywhere i_again0 i_d0 i_never i_firstCame i_longRun i_moved i_crowd i_l0 i_fitMany i_fitLeast i_fitMost m_fitPost m_fitEnd m_keptPosts i_x0], [zAr T 0 m_all 3952 g_all_25], [zAr T 0 m_read 121 f_read]]) [1, 2, 0] rfl
      exact z_back hQ9 (z_vret C hr hlocks G (Nat.le_of_ble_eq_true rfl) (Nat.le_of_ble_eq_true rfl) dX12_landLine_133 ⟨j_next_19, j_where_20, j_token_21, j_number_22, j_word_23, j_wrong_24, i_farCrossing, g_all_25, f_read, rfl, (by first | with_reducible assumption | omega | trivial | assumption), (by first | with_reducible assumption | omega | trivial | assumption), (by first | with_reducible assumption | omega | trivial | assumption), (by first | with_reducible assumption | omega | trivial | assumption), (h_12.tr h_30), (by assumption), (by rw [pLand_w hd (by first | (exact fun z9 => by have := hdr z9; omega) | (rw [← hA6D]; omega))]; exact h_31), (by rw [pLand_w hd (by first | (exact fun z9 => by have := hdr z9; omega) | (rw [← hA6D]; omega))])⟩)
    · have c_18r : r_16.toInt = 1 ∨ r_16.toInt = 2 ∨ r_16.toInt = 3 ∨ r_16.toInt = 4 := by omega
      rcases c_18r with c_18 | c_18 | c_18 | c_18
      · refine lv_tableIn (tgt := 56) hx hb dX12_landLine_24 (by omega) (by omega) (by rw [c_18]; rfl) (by decide) ?_
        refine lv_aload_n hx hb dX12_landLine_56 rfl (lv_at hl 2 rfl) ?_
        refine lv_iload_n hx hb dX12_landLine_57 rfl (lv_at hl 1 rfl) ?_
        refine z_Vv (bc := [[zO11 mo m_all m_has i_size j_next_1 j_where_2 j_token_3 j_number_4 j_word_5 j_wrong_6 i_farCrossing m_read i_z0 i_crossings i_inns m_posts m_shut m_here i_steps i_done i_at i_gone m_was m_came m_seenAt m_rowWorth m_farBy m_used i_everywhere i_again0 i_d0 i_never i_firstCame i_longRun i_moved i_crowd i_l0 i_fitMany i_fitLeast i_fitMost m_fitPost m_fitEnd m_keptPosts i_x0], [zAr T 0 m_all 3952 g_all_7], [zAr T 0 m_read 121 f_read]]) (br := []) (As := [.int i_where]) (rest := []) C G (c_fm_crossTold l T mo m_all m_has i_size j_next_1 j_where_2 j_token_3 j_number_4 j_word_5 j_wrong_6 i_farCrossing m_read i_z0 i_crossings i_inns m_posts m_shut m_here i_steps i_done i_at i_gone m_was m_came m_seenAt m_rowWorth m_farBy m_used i_everywhere i_again0 i_d0 i_never i_firstCame i_longRun i_moved i_crowd i_l0 i_fitMany i_fitLeast i_fitMost m_fitPost m_fitEnd m_keptPosts i_x0 g_all_7 f_read k n d2 i_where (by first | with_reducible assumption | with_reducible rfl | omega | assumption | rfl) (by first | with_reducible assumption | with_reducible rfl | omega | assumption | rfl) (by first | with_reducible assumption | with_reducible rfl | omega | assumption | rfl) hR hRd) (kV_RX12_136 C.2.2.2.2 (Nat.le_of_ble_eq_true rfl) (Nat.le_of_ble_eq_true rfl)) [1, 2, 0] [0, 0, 0] rfl rfl (ci := 11) (qc := (RX12, TX12, 43)) rfl rfl (List.mem_flatten.mpr ⟨_, List.mem_of_getElem? (i := 0) rfl, List.mem_cons_self⟩) rfl rfl hl.1 dX12_landLine_58 (Nat.le_of_ble_eq_true rfl) (Nat.le_of_ble_eq_true rfl) (fun b1 H locs hw G => ?_)
        refine zEx9 hw ?_
        intro j_next_33 j_where_34 j_token_35 j_number_36 j_word_37 j_wrong_38 j_farCrossing_39 g_all_40 g_read_41
        refine zCu8 ?_
        intro hbs9 h_42 h_43 h_44 h_45 h_46 h_47 h_48
        clear hw
        subst hbs9
        have G : zS T A s.heap s [[zO11 mo m_all m_has i_size j_next_33 j_where_34 j_token_35 j_number_36 j_word_37 j_wrong_38 j_farCrossing_39 m_read i_z0 i_crossings i_inns m_posts m_shut m_here i_steps i_done i_at i_gone m_was m_came m_seenAt m_rowWorth m_farBy m_used i_everywhere i_again0 i_d0 i_never i_firstCame i_longRun i_moved i_crowd i_l0 i_fitMany i_fitLeast i_fitMost m_fitPost m_fitEnd m_keptPosts i_x0], [zAr T 0 m_all 3952 g_all_40], [zAr T 0 m_read 121 g_read_41]] _ _ := G
        refine lv_goto (tgt := 129) hx hb dX12_landLine_61 (by decide) ?_
        refine lv_aload_n hx hb dX12_landLine_129 rfl (lv_at hl 2 rfl) ?_
        refine z_Vv (bc := [[zO11 mo m_all m_has i_size j_next_33 j_where_34 j_token_35 j_number_36 j_word_37 j_wrong_38 j_farCrossing_39 m_read i_z0 i_crossings i_inns m_posts m_shut m_here i_steps i_done i_at i_gone m_was m_came m_seenAt m_rowWorth m_farBy m_used i_everywhere i_again0 i_d0 i_never i_firstCame i_longRun i_moved i_crowd i_l0 i_fitMany i_fitLeast i_fitMost m_fitPost m_fitEnd m_keptPosts i_x0], [zAr T 0 m_all 3952 g_all_40]]) (br := [[zAr T 0 m_read 121 g_read_41]]) (As := []) (rest := []) C G (c_fm_endsLine l T mo m_all m_has i_size j_next_33 j_where_34 j_token_35 j_number_36 j_word_37 j_wrong_38 j_farCrossing_39 m_read i_z0 i_crossings i_inns m_posts m_shut m_here i_steps i_done i_at i_gone m_was m_came m_seenAt m_rowWorth m_farBy m_used i_everywhere i_again0 i_d0 i_never i_firstCame i_longRun i_moved i_crowd i_l0 i_fitMany i_fitLeast i_fitMost m_fitPost m_fitEnd m_keptPosts i_x0 g_all_40 k n ((pCross k i_where d2 f_read).1) (by first | with_reducible assumption | with_reducible rfl | omega | assumption | rfl) (by first | with_reducible assumption | with_reducible rfl | omega | assumption | rfl) (by first | with_reducible assumption | with_reducible rfl | omega | assumption | rfl) h_47) (kV_RX12_140 C.2.2.2.2 (Nat.le_of_ble_eq_true rfl) (Nat.le_of_ble_eq_true rfl)) [0, 1] [0, 0] rfl rfl (ci := 11) (qc := (RX12, TX12, 43)) rfl rfl (List.mem_flatten.mpr ⟨_, List.mem_of_getElem? (i := 0) rfl, List.mem_cons_self⟩) rfl rfl hl.1 dX12_landLine_130 (Nat.le_of_ble_eq_true rfl) (Nat.le_of_ble_eq_true rfl) (fun b1 H locs hw G => ?_)
        refine zEx7 hw ?_
        intro j_next_50 j_where_51 j_token_52 j_number_53 j_word_54 j_wrong_55 g_all_56
        refine zCu7 ?_
        intro hbs9 h_57 h_58 h_59 h_60 h_61 h_62
        clear hw
        subst hbs9
        have G : zS T A s.heap s [[zAr T 0 m_read 121 g_read_41], [zO11 mo m_all m_has i_size j_next_50 j_where_51 j_token_52 j_number_53 j_word_54 j_wrong_55 j_farCrossing_39 m_read i_z0 i_crossings i_inns m_posts m_shut m_here i_steps i_done i_at i_gone m_was m_came m_seenAt m_rowWorth m_farBy m_used i_everywhere i_again0 i_d0 i_never i_firstCame i_longRun i_moved i_crowd i_l0 i_fitMany i_fitLeast i_fitMost m_fitPost m_fitEnd m_keptPosts i_x0], [zAr T 0 m_all 3952 g_all_56]] _ _ := G
        have G := G.sub (bs' := [[zO11 mo m_all m_has i_size j_next_50 j_where_51 j_token_52 j_number_53 j_word_54 j_wrong_55 j_farCrossing_39 m_read i_z0 i_crossings i_inns m_posts m_shut m_here i_steps i_done i_at i_gone m_was m_came m_seenAt m_rowWorth m_farBy m_used i_everywhere i_again0 i_d0 i_never i_firstCame i_longRun i_moved i_crowd i_l0 i_fitMany i_fitLeast i_fitMost m_fitPost m_fitEnd m_keptPosts i_x0], [zAr T 0 m_all 3952 g_all_56], [zAr T 0 m_read 121 g_read_41]]) [1, 2, 0] rfl
        exact z_back hQ9 (z_vret C hr hlocks G (Nat.le_of_ble_eq_true rfl) (Nat.le_of_ble_eq_true rfl) dX12_landLine_133 ⟨j_next_50, j_where_51, j_token_52, j_number_53, j_word_54, j_wrong_55, j_farCrossing_39, g_all_56, g_read_41, rfl, (by first | with_reducible assumption | omega | trivial | assumption), (by first | with_reducible assumption | omega | trivial | assumption), (by first | with_reducible assumption | omega | trivial | assumption), (by first | with_reducible assumption | omega | trivial | assumption), (h_12.tr (h_45.tr h_61)), h_46, (by rw [pLand_c hd hwD (by omega), ← t2]; exact h_62), (by rw [pLand_c hd hwD (by omega), ← t2]; exact h_48)⟩)
      · refine lv_tableIn (tgt := 64) hx hb dX12_landLine_24 (by omega) (by omega) (by rw [c_18]; rfl) (by decide) ?_
        refine lv_aload_n hx hb dX12_landLine_64 rfl (lv_at hl 2 rfl) ?_
        refine z_Vi (bc := [[zO11 mo m_all m_has i_size j_next_1 j_where_2 j_token_3 j_number_4 j_word_5 j_wrong_6 i_farCrossing m_read i_z0 i_crossings i_inns m_posts m_shut m_here i_steps i_done i_at i_gone m_was m_came m_seenAt m_rowWorth m_farBy m_used i_everywhere i_again0 i_d0 i_never i_firstCame i_longRun i_moved i_crowd i_l0 i_fitMany i_fitLeast i_fitMost m_fitPost m_fitEnd m_keptPosts i_x0], [zAr T 0 m_all 3952 g_all_7]]) (br := [[zAr T 0 m_read 121 f_read]]) (As := []) (rest := []) C G (c_fm_crossingTold l T mo m_all m_has i_size j_next_1 j_where_2 j_token_3 j_number_4 j_word_5 j_wrong_6 i_farCrossing m_read i_z0 i_crossings i_inns m_posts m_shut m_here i_steps i_done i_at i_gone m_was m_came m_seenAt m_rowWorth m_farBy m_used i_everywhere i_again0 i_d0 i_never i_firstCame i_longRun i_moved i_crowd i_l0 i_fitMany i_fitLeast i_fitMost m_fitPost m_fitEnd m_keptPosts i_x0 g_all_7 k n d2 (by first | with_reducible assumption | with_reducible rfl | omega | assumption | rfl) (by first | with_reducible assumption | with_reducible rfl | omega | assumption | rfl) (by first | with_reducible assumption | with_reducible rfl | omega | assumption | rfl) hRd) (kV_RX12_129 C.2.2.2.2 (Nat.le_of_ble_eq_true rfl) (Nat.le_of_ble_eq_true rfl)) [1, 2] [1, 0] rfl rfl (ci := 11) (qc := (RX12, TX12, 43)) rfl rfl (List.mem_flatten.mpr ⟨_, List.mem_of_getElem? (i := 0) rfl, List.mem_cons_self⟩) rfl rfl hl.1 dX12_landLine_65 (Nat.le_of_ble_eq_true rfl) (Nat.le_of_ble_eq_true rfl) (fun r_81 b1 H locs hw G => ?_)
        refine zEx8 hw ?_
        intro j_next_64 j_where_65 j_token_66 j_number_67 j_word_68 j_wrong_69 j_farCrossing_70 g_all_71
        refine zCu10 ?_
        intro hbs9 h_72 h_73 h_74 h_75 h_76 h_77 h_78 h_79 h_80
        clear hw
        subst hbs9
        have G : zS T A s.heap s [[zAr T 0 m_read 121 f_read], [zO11 mo m_all m_has i_size j_next_64 j_where_65 j_token_66 j_number_67 j_word_68 j_wrong_69 j_farCrossing_70 m_read i_z0 i_crossings i_inns m_posts m_shut m_here i_steps i_done i_at i_gone m_was m_came m_seenAt m_rowWorth m_farBy m_used i_everywhere i_again0 i_d0 i_never i_firstCame i_longRun i_moved i_crowd i_l0 i_fitMany i_fitLeast i_fitMost m_fitPost m_fitEnd m_keptPosts i_x0], [zAr T 0 m_all 3952 g_all_71]] _ _ := G
        refine lv_istore_n (lv' := [(3, .int r_81), (2, .int r_16), (1, .int i_where), (0, .ref mo)]) hx hb dX12_landLine_68 rfl hl (by decide) rfl (fun ls hl => ?_)
        refine lv_aload_n hx hb dX12_landLine_69 rfl (lv_at hl 3 rfl) ?_
        refine z_get C G clX12 1 rfl 10 (by decide) m_fl_RX12_17 rfl dX12_landLine_70 ?_
        refine lv_bipush (v := 9) hx hb dX12_landLine_73 (by decide) ?_
        refine lv_iload_n hx hb dX12_landLine_75 rfl (lv_at hl 0 rfl) ?_
        refine lv_iadd hx hb dX12_landLine_76 ?_
        refine lv_topi (fun y_82 ey_82 => ?_)
        have ey_82i : y_82.toInt = (9 : Int) + r_81.toInt := by rw [ey_82]; exact z_iaddI (x := (9 : Int32)) (y := r_81) (by show -2147483648 ≤ (9 : Int) + r_81.toInt; omega) (by show (9 : Int) + r_81.toInt < 2147483648; omega)
        refine lv_aload_n hx hb dX12_landLine_77 rfl (lv_at hl 3 rfl) ?_
        refine lv_iconst (v := 0) hx hb dX12_landLine_78 (by decide) ?_
        refine lv_iconst (v := 3) hx hb dX12_landLine_79 (by decide) ?_
        refine z_Vi (bc := [[zO11 mo m_all m_has i_size j_next_64 j_where_65 j_token_66 j_number_67 j_word_68 j_wrong_69 j_farCrossing_70 m_read i_z0 i_crossings i_inns m_posts m_shut m_here i_steps i_done i_at i_gone m_was m_came m_seenAt m_rowWorth m_farBy m_used i_everywhere i_again0 i_d0 i_never i_firstCame i_longRun i_moved i_crowd i_l0 i_fitMany i_fitLeast i_fitMost m_fitPost m_fitEnd m_keptPosts i_x0], [zAr T 0 m_all 3952 g_all_71]]) (br := [[zAr T 0 m_read 121 f_read]]) (As := [.int 0, .int 3]) (rest := [.int y_82, .ref m_read]) C G (c_fm_numbered l T mo m_all m_has i_size j_next_64 j_where_65 j_token_66 j_number_67 j_word_68 j_wrong_69 j_farCrossing_70 m_read i_z0 i_crossings i_inns m_posts m_shut m_here i_steps i_done i_at i_gone m_was m_came m_seenAt m_rowWorth m_farBy m_used i_everywhere i_again0 i_d0 i_never i_firstCame i_longRun i_moved i_crowd i_l0 i_fitMany i_fitLeast i_fitMost m_fitPost m_fitEnd m_keptPosts i_x0 g_all_71 k n ((pCr k d2).2) 0 3 (by first | with_reducible assumption | with_reducible rfl | omega | assumption | rfl) (by first | with_reducible assumption | with_reducible rfl | omega | assumption | rfl) (by first | with_reducible assumption | with_reducible rfl | omega | assumption | rfl) (by decide) h_79) (kV_RX12_122 C.2.2.2.2 (Nat.le_of_ble_eq_true rfl) (Nat.le_of_ble_eq_true rfl)) [1, 2] [1, 0] rfl rfl (ci := 11) (qc := (RX12, TX12, 43)) rfl rfl (List.mem_flatten.mpr ⟨_, List.mem_of_getElem? (i := 0) rfl, List.mem_cons_self⟩) rfl rfl hl.1 dX12_landLine_80 (Nat.le_of_ble_eq_true rfl) (Nat.le_of_ble_eq_true rfl) (fun r_99 b1 H locs hw G => ?_)
        refine zEx7 hw ?_
        intro j_next_83 j_where_84 j_token_85 j_number_86 j_word_87 j_wrong_88 g_all_89
        refine zCu10 ?_
        intro hbs9 h_90 h_91 h_92 h_93 h_94 h_95 h_96 h_97 h_98
        clear hw
        subst hbs9
        have G : zS T A s.heap s [[zAr T 0 m_read 121 f_read], [zO11 mo m_all m_has i_size j_next_83 j_where_84 j_token_85 j_number_86 j_word_87 j_wrong_88 j_farCrossing_70 m_read i_z0 i_crossings i_inns m_posts m_shut m_here i_steps i_done i_at i_gone m_was m_came m_seenAt m_rowWorth m_farBy m_used i_everywhere i_again0 i_d0 i_never i_firstCame i_longRun i_moved i_crowd i_l0 i_fitMany i_fitLeast i_fitMost m_fitPost m_fitEnd m_keptPosts i_x0], [zAr T 0 m_all 3952 g_all_89]] _ _ := G
        have h_95 : (0 : Int) ≤ r_99.toInt := h_95
        have h_96 : r_99.toInt ≤ (3 : Int) := h_96
        refine z_ist C G 0 rfl (vp_in_iff.mpr ⟨by omega, by omega⟩) dX12_landLine_83 (fun H locs G => ?_)
        have G : zS T A s.heap s [[zAr T 0 m_read 121 (upd f_read y_82.toNatClampNeg r_99)], [zO11 mo m_all m_has i_size j_next_83 j_where_84 j_token_85 j_number_86 j_word_87 j_wrong_88 j_farCrossing_70 m_read i_z0 i_crossings i_inns m_posts m_shut m_here i_steps i_done i_at i_gone m_was m_came m_seenAt m_rowWorth m_farBy m_used i_everywhere i_again0 i_d0 i_never i_firstCame i_longRun i_moved i_crowd i_l0 i_fitMany i_fitLeast i_fitMost m_fitPost m_fitEnd m_keptPosts i_x0], [zAr T 0 m_all 3952 g_all_89]] _ _ := G
        refine lv_goto (tgt := 129) hx hb dX12_landLine_84 (by decide) ?_
        refine lv_aload_n hx hb dX12_landLine_129 rfl (lv_at hl 3 rfl) ?_
        refine z_Vv (bc := [[zO11 mo m_all m_has i_size j_next_83 j_where_84 j_token_85 j_number_86 j_word_87 j_wrong_88 j_farCrossing_70 m_read i_z0 i_crossings i_inns m_posts m_shut m_here i_steps i_done i_at i_gone m_was m_came m_seenAt m_rowWorth m_farBy m_used i_everywhere i_again0 i_d0 i_never i_firstCame i_longRun i_moved i_crowd i_l0 i_fitMany i_fitLeast i_fitMost m_fitPost m_fitEnd m_keptPosts i_x0], [zAr T 0 m_all 3952 g_all_89]]) (br := [[zAr T 0 m_read 121 (upd f_read y_82.toNatClampNeg r_99)]]) (As := []) (rest := []) C G (c_fm_endsLine l T mo m_all m_has i_size j_next_83 j_where_84 j_token_85 j_number_86 j_word_87 j_wrong_88 j_farCrossing_70 m_read i_z0 i_crossings i_inns m_posts m_shut m_here i_steps i_done i_at i_gone m_was m_came m_seenAt m_rowWorth m_farBy m_used i_everywhere i_again0 i_d0 i_never i_firstCame i_longRun i_moved i_crowd i_l0 i_fitMany i_fitLeast i_fitMost m_fitPost m_fitEnd m_keptPosts i_x0 g_all_89 k n ((pNum k 0 3 (pCr k d2).2).2) (by first | with_reducible assumption | with_reducible rfl | omega | assumption | rfl) (by first | with_reducible assumption | with_reducible rfl | omega | assumption | rfl) (by first | with_reducible assumption | with_reducible rfl | omega | assumption | rfl) h_97) (kV_RX12_140 C.2.2.2.2 (Nat.le_of_ble_eq_true rfl) (Nat.le_of_ble_eq_true rfl)) [1, 2] [1, 0] rfl rfl (ci := 11) (qc := (RX12, TX12, 43)) rfl rfl (List.mem_flatten.mpr ⟨_, List.mem_of_getElem? (i := 0) rfl, List.mem_cons_self⟩) rfl rfl hl.1 dX12_landLine_130 (Nat.le_of_ble_eq_true rfl) (Nat.le_of_ble_eq_true rfl) (fun b1 H locs hw G => ?_)
        refine zEx7 hw ?_
        intro j_next_100 j_where_101 j_token_102 j_number_103 j_word_104 j_wrong_105 g_all_106
        refine zCu7 ?_
        intro hbs9 h_107 h_108 h_109 h_110 h_111 h_112
        clear hw
        subst hbs9
        have G : zS T A s.heap s [[zAr T 0 m_read 121 (upd f_read y_82.toNatClampNeg r_99)], [zO11 mo m_all m_has i_size j_next_100 j_where_101 j_token_102 j_number_103 j_word_104 j_wrong_105 j_farCrossing_70 m_read i_z0 i_crossings i_inns m_posts m_shut m_here i_steps i_done i_at i_gone m_was m_came m_seenAt m_rowWorth m_farBy m_used i_everywhere i_again0 i_d0 i_never i_firstCame i_longRun i_moved i_crowd i_l0 i_fitMany i_fitLeast i_fitMost m_fitPost m_fitEnd m_keptPosts i_x0], [zAr T 0 m_all 3952 g_all_106]] _ _ := G
        have G := G.sub (bs' := [[zO11 mo m_all m_has i_size j_next_100 j_where_101 j_token_102 j_number_103 j_word_104 j_wrong_105 j_farCrossing_70 m_read i_z0 i_crossings i_inns m_posts m_shut m_here i_steps i_done i_at i_gone m_was m_came m_seenAt m_rowWorth m_farBy m_used i_everywhere i_again0 i_d0 i_never i_firstCame i_longRun i_moved i_crowd i_l0 i_fitMany i_fitLeast i_fitMost m_fitPost m_fitEnd m_keptPosts i_x0], [zAr T 0 m_all 3952 g_all_106], [zAr T 0 m_read 121 (upd f_read y_82.toNatClampNeg r_99)]]) [1, 2, 0] rfl
        exact z_back hQ9 (z_vret C hr hlocks G (Nat.le_of_ble_eq_true rfl) (Nat.le_of_ble_eq_true rfl) dX12_landLine_133 ⟨j_next_100, j_where_101, j_token_102, j_number_103, j_word_104, j_wrong_105, j_farCrossing_70, g_all_106, (upd f_read y_82.toNatClampNeg r_99), rfl, (by first | with_reducible assumption | omega | trivial | assumption), (by first | with_reducible assumption | omega | trivial | assumption), (by first | with_reducible assumption | omega | trivial | assumption), (by first | with_reducible assumption | omega | trivial | assumption), (h_12.tr (h_76.tr (h_94.tr h_111))), (zLF_upd (k := y_82.toNatClampNeg) (v := r_99) (by assumption) (by have q9 := z_clI (x := y_82) (by omega); omega) (by have q9 := z_clI (x := y_82) (by omega); omega) (by have q9 := z_clI (x := y_82) (by omega); omega) (by have q9 := z_clI (x := y_82) (by omega); omega) (by have q9 := z_clI (x := y_82) (by omega); omega)), (by rw [pLand_p hd hwD (by omega)]; unfold pPW; rw [show (if d1 = 2 then (3 : Int32) else 9) = 3 from if_pos (by omega)]; exact h_112), (by rw [pLand_p hd hwD (by omega)]; unfold pPW; rw [show (if d1 = 2 then (3 : Int32) else 9) = 3 from if_pos (by omega), show (if d1 = 2 then 9 else 16) = 9 from if_pos (by omega), ← h_80, ← h_98]; exact congrArg (fun q9 => upd f_read q9 r_99) (by have q9 := z_clI (x := y_82) (by omega); omega))⟩)
      · refine lv_tableIn (tgt := 87) hx hb dX12_landLine_24 (by omega) (by omega) (by rw [c_18]; rfl) (by decide) ?_
        refine lv_aload_n hx hb dX12_landLine_87 rfl (lv_at hl 2 rfl) ?_
        refine z_Vi (bc := [[zO11 mo m_all m_has i_size j_next_1 j_where_2 j_token_3 j_number_4 j_word_5 j_wrong_6 i_farCrossing m_read i_z0 i_crossings i_inns m_posts m_shut m_here i_steps i_done i_at i_gone m_was m_came m_seenAt m_rowWorth m_farBy m_used i_everywhere i_again0 i_d0 i_never i_firstCame i_longRun i_moved i_crowd i_l0 i_fitMany i_fitLeast i_fitMost m_fitPost m_fitEnd m_keptPosts i_x0], [zAr T 0 m_all 3952 g_all_7]]) (br := [[zAr T 0 m_read 121 f_read]]) (As := []) (rest := []) C G (c_fm_crossingTold l T mo m_all m_has i_size j_next_1 j_where_2 j_token_3 j_number_4 j_word_5 j_wrong_6 i_farCrossing m_read i_z0 i_crossings i_inns m_posts m_shut m_here i_steps i_done i_at i_gone m_was m_came m_seenAt m_rowWorth m_farBy m_used i_everywhere i_again0 i_d0 i_never i_firstCame i_longRun i_moved i_crowd i_l0 i_fitMany i_fitLeast i_fitMost m_fitPost m_fitEnd m_keptPosts i_x0 g_all_7 k n d2 (by first | with_reducible assumption | with_reducible rfl | omega | assumption | rfl) (by first | with_reducible assumption | with_reducible rfl | omega | assumption | rfl) (by first | with_reducible assumption | with_reducible rfl | omega | assumption | rfl) hRd) (kV_RX12_129 C.2.2.2.2 (Nat.le_of_ble_eq_true rfl) (Nat.le_of_ble_eq_true rfl)) [1, 2] [1, 0] rfl rfl (ci := 11) (qc := (RX12, TX12, 43)) rfl rfl (List.mem_flatten.mpr ⟨_, List.mem_of_getElem? (i := 0) rfl, List.mem_cons_self⟩) rfl rfl hl.1 dX12_landLine_88 (Nat.le_of_ble_eq_true rfl) (Nat.le_of_ble_eq_true rfl) (fun r_131 b1 H locs hw G => ?_)
        refine zEx8 hw ?_
        intro j_next_114 j_where_115 j_token_116 j_number_117 j_word_118 j_wrong_119 j_farCrossing_120 g_all_121
        refine zCu10 ?_
        intro hbs9 h_122 h_123 h_124 h_125 h_126 h_127 h_128 h_129 h_130
        clear hw
        subst hbs9
        have G : zS T A s.heap s [[zAr T 0 m_read 121 f_read], [zO11 mo m_all m_has i_size j_next_114 j_where_115 j_token_116 j_number_117 j_word_118 j_wrong_119 j_farCrossing_120 m_read i_z0 i_crossings i_inns m_posts m_shut m_here i_steps i_done i_at i_gone m_was m_came m_seenAt m_rowWorth m_farBy m_used i_everywhere i_again0 i_d0 i_never i_firstCame i_longRun i_moved i_crowd i_l0 i_fitMany i_fitLeast i_fitMost m_fitPost m_fitEnd m_keptPosts i_x0], [zAr T 0 m_all 3952 g_all_121]] _ _ := G
        refine lv_istore_n (lv' := [(3, .int r_131), (2, .int r_16), (1, .int i_where), (0, .ref mo)]) hx hb dX12_landLine_91 rfl hl (by decide) rfl (fun ls hl => ?_)
        refine lv_aload_n hx hb dX12_landLine_92 rfl (lv_at hl 3 rfl) ?_
        refine z_get C G clX12 1 rfl 10 (by decide) m_fl_RX12_17 rfl dX12_landLine_93 ?_
        refine lv_bipush (v := 16) hx hb dX12_landLine_96 (by decide) ?_
        refine lv_iload_n hx hb dX12_landLine_98 rfl (lv_at hl 0 rfl) ?_
        refine lv_iadd hx hb dX12_landLine_99 ?_
        refine lv_topi (fun y_132 ey_132 => ?_)
        have ey_132i : y_132.toInt = (16 : Int) + r_131.toInt := by rw [ey_132]; exact z_iaddI (x := (16 : Int32)) (y := r_131) (by show -2147483648 ≤ (16 : Int) + r_131.toInt; omega) (by show (16 : Int) + r_131.toInt < 2147483648; omega)
        refine lv_aload_n hx hb dX12_landLine_100 rfl (lv_at hl 3 rfl) ?_
        refine lv_iconst (v := 0) hx hb dX12_landLine_101 (by decide) ?_
        refine lv_bipush (v := 9) hx hb dX12_landLine_102 (by decide) ?_
        refine z_Vi (bc := [[zO11 mo m_all m_has i_size j_next_114 j_where_115 j_token_116 j_number_117 j_word_118 j_wrong_119 j_farCrossing_120 m_read i_z0 i_crossings i_inns m_posts m_shut m_here i_steps i_done i_at i_gone m_was m_came m_seenAt m_rowWorth m_farBy m_used i_everywhere i_again0 i_d0 i_never i_firstCame i_longRun i_moved i_crowd i_l0 i_fitMany i_fitLeast i_fitMost m_fitPost m_fitEnd m_keptPosts i_x0], [zAr T 0 m_all 3952 g_all_121]]) (br := [[zAr T 0 m_read 121 f_read]]) (As := [.int 0, .int 9]) (rest := [.int y_132, .ref m_read]) C G (c_fm_numbered l T mo m_all m_has i_size j_next_114 j_where_115 j_token_116 j_number_117 j_word_118 j_wrong_119 j_farCrossing_120 m_read i_z0 i_crossings i_inns m_posts m_shut m_here i_steps i_done i_at i_gone m_was m_came m_seenAt m_rowWorth m_farBy m_used i_everywhere i_again0 i_d0 i_never i_firstCame i_longRun i_moved i_crowd i_l0 i_fitMany i_fitLeast i_fitMost m_fitPost m_fitEnd m_keptPosts i_x0 g_all_121 k n ((pCr k d2).2) 0 9 (by first | with_reducible assumption | with_reducible rfl | omega | assumption | rfl) (by first | with_reducible assumption | with_reducible rfl | omega | assumption | rfl) (by first | with_reducible assumption | with_reducible rfl | omega | assumption | rfl) (by decide) h_129) (kV_RX12_122 C.2.2.2.2 (Nat.le_of_ble_eq_true rfl) (Nat.le_of_ble_eq_true rfl)) [1, 2] [1, 0] rfl rfl (ci := 11) (qc := (RX12, TX12, 43)) rfl rfl (List.mem_flatten.mpr ⟨_, List.mem_of_getElem? (i := 0) rfl, List.mem_cons_self⟩) rfl rfl hl.1 dX12_landLine_104 (Nat.le_of_ble_eq_true rfl) (Nat.le_of_ble_eq_true rfl) (fun r_149 b1 H locs hw G => ?_)
        refine zEx7 hw ?_
        intro j_next_133 j_where_134 j_token_135 j_number_136 j_word_137 j_wrong_138 g_all_139
        refine zCu10 ?_
        intro hbs9 h_140 h_141 h_142 h_143 h_144 h_145 h_146 h_147 h_148
        clear hw
        subst hbs9
        have G : zS T A s.heap s [[zAr T 0 m_read 121 f_read], [zO11 mo m_all m_has i_size j_next_133 j_where_134 j_token_135 j_number_136 j_word_137 j_wrong_138 j_farCrossing_120 m_read i_z0 i_crossings i_inns m_posts m_shut m_here i_steps i_done i_at i_gone m_was m_came m_seenAt m_rowWorth m_farBy m_used i_everywhere i_again0 i_d0 i_never i_firstCame i_longRun i_moved i_crowd i_l0 i_fitMany i_fitLeast i_fitMost m_fitPost m_fitEnd m_keptPosts i_x0], [zAr T 0 m_all 3952 g_all_139]] _ _ := G
        have h_145 : (0 : Int) ≤ r_149.toInt := h_145
        have h_146 : r_149.toInt ≤ (9 : Int) := h_146
        refine z_ist C G 0 rfl (vp_in_iff.mpr ⟨by omega, by omega⟩) dX12_landLine_107 (fun H locs G => ?_)
        have G : zS T A s.heap s [[zAr T 0 m_read 121 (upd f_read y_132.toNatClampNeg r_149)], [zO11 mo m_all m_has i_size j_next_133 j_where_134 j_token_135 j_number_136 j_word_137 j_wrong_138 j_farCrossing_120 m_read i_z0 i_crossings i_inns m_posts m_shut m_here i_steps i_done i_at i_gone m_was m_came m_seenAt m_rowWorth m_farBy m_used i_everywhere i_again0 i_d0 i_never i_firstCame i_longRun i_moved i_crowd i_l0 i_fitMany i_fitLeast i_fitMost m_fitPost m_fitEnd m_keptPosts i_x0], [zAr T 0 m_all 3952 g_all_139]] _ _ := G
        refine lv_goto (tgt := 129) hx hb dX12_landLine_108 (by decide) ?_
        refine lv_aload_n hx hb dX12_landLine_129 rfl (lv_at hl 3 rfl) ?_
        refine z_Vv (bc := [[zO11 mo m_all m_has i_size j_next_133 j_where_134 j_token_135 j_number_136 j_word_137 j_wrong_138 j_farCrossing_120 m_read i_z0 i_crossings i_inns m_posts m_shut m_here i_steps i_done i_at i_gone m_was m_came m_seenAt m_rowWorth m_farBy m_used i_everywhere i_again0 i_d0 i_never i_firstCame i_longRun i_moved i_crowd i_l0 i_fitMany i_fitLeast i_fitMost m_fitPost m_fitEnd m_keptPosts i_x0], [zAr T 0 m_all 3952 g_all_139]]) (br := [[zAr T 0 m_read 121 (upd f_read y_132.toNatClampNeg r_149)]]) (As := []) (rest := []) C G (c_fm_endsLine l T mo m_all m_has i_size j_next_133 j_where_134 j_token_135 j_number_136 j_word_137 j_wrong_138 j_farCrossing_120 m_read i_z0 i_crossings i_inns m_posts m_shut m_here i_steps i_done i_at i_gone m_was m_came m_seenAt m_rowWorth m_farBy m_used i_everywhere i_again0 i_d0 i_never i_firstCame i_longRun i_moved i_crowd i_l0 i_fitMany i_fitLeast i_fitMost m_fitPost m_fitEnd m_keptPosts i_x0 g_all_139 k n ((pNum k 0 9 (pCr k d2).2).2) (by first | with_reducible assumption | with_reducible rfl | omega | assumption | rfl) (by first | with_reducible assumption | with_reducible rfl | omega | assumption | rfl) (by first | with_reducible assumption | with_reducible rfl | omega | assumption | rfl) h_147) (kV_RX12_140 C.2.2.2.2 (Nat.le_of_ble_eq_true rfl) (Nat.le_of_ble_eq_true rfl)) [1, 2] [1, 0] rfl rfl (ci := 11) (qc := (RX12, TX12, 43)) rfl rfl (List.mem_flatten.mpr ⟨_, List.mem_of_getElem? (i := 0) rfl, List.mem_cons_self⟩) rfl rfl hl.1 dX12_landLine_130 (Nat.le_of_ble_eq_true rfl) (Nat.le_of_ble_eq_true rfl) (fun b1 H locs hw G => ?_)
        refine zEx7 hw ?_
        intro j_next_150 j_where_151 j_token_152 j_number_153 j_word_154 j_wrong_155 g_all_156
        refine zCu7 ?_
        intro hbs9 h_157 h_158 h_159 h_160 h_161 h_162
        clear hw
        subst hbs9
        have G : zS T A s.heap s [[zAr T 0 m_read 121 (upd f_read y_132.toNatClampNeg r_149)], [zO11 mo m_all m_has i_size j_next_150 j_where_151 j_token_152 j_number_153 j_word_154 j_wrong_155 j_farCrossing_120 m_read i_z0 i_crossings i_inns m_posts m_shut m_here i_steps i_done i_at i_gone m_was m_came m_seenAt m_rowWorth m_farBy m_used i_everywhere i_again0 i_d0 i_never i_firstCame i_longRun i_moved i_crowd i_l0 i_fitMany i_fitLeast i_fitMost m_fitPost m_fitEnd m_keptPosts i_x0], [zAr T 0 m_all 3952 g_all_156]] _ _ := G
        have G := G.sub (bs' := [[zO11 mo m_all m_has i_size j_next_150 j_where_151 j_token_152 j_number_153 j_word_154 j_wrong_155 j_farCrossing_120 m_read i_z0 i_crossings i_inns m_posts m_shut m_here i_steps i_done i_at i_gone m_was m_came m_seenAt m_rowWorth m_farBy m_used i_everywhere i_again0 i_d0 i_never i_firstCame i_longRun i_moved i_crowd i_l0 i_fitMany i_fitLeast i_fitMost m_fitPost m_fitEnd m_keptPosts i_x0], [zAr T 0 m_all 3952 g_all_156], [zAr T 0 m_read 121 (upd f_read y_132.toNatClampNeg r_149)]]) [1, 2, 0] rfl
        exact z_back hQ9 (z_vret C hr hlocks G (Nat.le_of_ble_eq_true rfl) (Nat.le_of_ble_eq_true rfl) dX12_landLine_133 ⟨j_next_150, j_where_151, j_token_152, j_number_153, j_word_154, j_wrong_155, j_farCrossing_120, g_all_156, (upd f_read y_132.toNatClampNeg r_149), rfl, (by first | with_reducible assumption | omega | trivial | assumption), (by first | with_reducible assumption | omega | trivial | assumption), (by first | with_reducible assumption | omega | trivial | assumption), (by first | with_reducible assumption | omega | trivial | assumption), (h_12.tr (h_126.tr (h_144.tr h_161))), (zLF_upd (k := y_132.toNatClampNeg) (v := r_149) (by assumption) (by have q9 := z_clI (x := y_132) (by omega); omega) (by have q9 := z_clI (x := y_132) (by omega); omega) (by have q9 := z_clI (x := y_132) (by omega); omega) (by have q9 := z_clI (x := y_132) (by omega); omega) (by have q9 := z_clI (x := y_132) (by omega); omega)), (by rw [pLand_p hd hwD (by omega)]; unfold pPW; rw [show (if d1 = 2 then (3 : Int32) else 9) = 9 from if_neg (by omega)]; exact h_162), (by rw [pLand_p hd hwD (by omega)]; unfold pPW; rw [show (if d1 = 2 then (3 : Int32) else 9) = 9 from if_neg (by omega), show (if d1 = 2 then 9 else 16) = 16 from if_neg (by omega), ← h_130, ← h_148]; exact congrArg (fun q9 => upd f_read q9 r_149) (by have q9 := z_clI (x := y_132) (by omega); omega))⟩)
      · refine lv_tableIn (tgt := 111) hx hb dX12_landLine_24 (by omega) (by omega) (by rw [c_18]; rfl) (by decide) ?_
        refine lv_aload_n hx hb dX12_landLine_111 rfl (lv_at hl 2 rfl) ?_
        refine z_get C G clX12 1 rfl 10 (by decide) m_fl_RX12_17 rfl dX12_landLine_112 ?_
        refine lv_iconst (v := 1) hx hb dX12_landLine_115 (by decide) ?_
        refine lv_dup2_11 hx hb dX12_landLine_116 rfl rfl ?_
        refine z_ild C G 0 rfl (vp_in_nI (n := 1) (by decide) (by decide)) dX12_landLine_117 ?_
        refine lv_topi (fun v_164 ev_164 => ?_)
        rw [show ((1 : Int32).toNatClampNeg) = 1 from rfl] at ev_164
        subst ev_164
        refine lv_iconst (v := 1) hx hb dX12_landLine_118 (by decide) ?_
        refine lv_aload_n hx hb dX12_landLine_119 rfl (lv_at hl 2 rfl) ?_
        refine z_Vi (bc := [[zO11 mo m_all m_has i_size j_next_1 j_where_2 j_token_3 j_number_4 j_word_5 j_wrong_6 i_farCrossing m_read i_z0 i_crossings i_inns m_posts m_shut m_here i_steps i_done i_at i_gone m_was m_came m_seenAt m_rowWorth m_farBy m_used i_everywhere i_again0 i_d0 i_never i_firstCame i_longRun i_moved i_crowd i_l0 i_fitMany i_fitLeast i_fitMost m_fitPost m_fitEnd m_keptPosts i_x0], [zAr T 0 m_all 3952 g_all_7]]) (br := [[zAr T 0 m_read 121 f_read]]) (As := []) (rest := [.int 1, .int (f_read 1), .int 1, .ref m_read]) C G (c_fm_crossingTold l T mo m_all m_has i_size j_next_1 j_where_2 j_token_3 j_number_4 j_word_5 j_wrong_6 i_farCrossing m_read i_z0 i_crossings i_inns m_posts m_shut m_here i_steps i_done i_at i_gone m_was m_came m_seenAt m_rowWorth m_farBy m_used i_everywhere i_again0 i_d0 i_never i_firstCame i_longRun i_moved i_crowd i_l0 i_fitMany i_fitLeast i_fitMost m_fitPost m_fitEnd m_keptPosts i_x0 g_all_7 k n d2 (by first | with_reducible assumption | with_reducible rfl | omega | assumption | rfl) (by first | with_reducible assumption | with_reducible rfl | omega | assumption | rfl) (by first | with_reducible assumption | with_reducible rfl | omega | assumption | rfl) hRd) (kV_RX12_129 C.2.2.2.2 (Nat.le_of_ble_eq_true rfl) (Nat.le_of_ble_eq_true rfl)) [1, 2] [1, 0] rfl rfl (ci := 11) (qc := (RX12, TX12, 43)) rfl rfl (List.mem_flatten.mpr ⟨_, List.mem_of_getElem? (i := 0) rfl, List.mem_cons_self⟩) rfl rfl hl.1 dX12_landLine_120 (Nat.le_of_ble_eq_true rfl) (Nat.le_of_ble_eq_true rfl) (fun r_182 b1 H locs hw G => ?_)
        refine zEx8 hw ?_
        intro j_next_165 j_where_166 j_token_167 j_number_168 j_word_169 j_wrong_170 j_farCrossing_171 g_all_172
        refine zCu10 ?_
        intro hbs9 h_173 h_174 h_175 h_176 h_177 h_178 h_179 h_180 h_181
        clear hw
        subst hbs9
        have G : zS T A s.heap s [[zAr T 0 m_read 121 f_read], [zO11 mo m_all m_has i_size j_next_165 j_where_166 j_token_167 j_number_168 j_word_169 j_wrong_170 j_farCrossing_171 m_read i_z0 i_crossings i_inns m_posts m_shut m_here i_steps i_done i_at i_gone m_was m_came m_seenAt m_rowWorth m_farBy m_used i_everywhere i_again0 i_d0 i_never i_firstCame i_longRun i_moved i_crowd i_l0 i_fitMany i_fitLeast i_fitMost m_fitPost m_fitEnd m_keptPosts i_x0], [zAr T 0 m_all 3952 g_all_172]] _ _ := G
        refine lv_ishl hx hb dX12_landLine_123 ?_
        refine lv_ior hx hb dX12_landLine_124 ?_
        refine z_ist C G 0 rfl (vp_in_nI (n := 1) (by decide) (by decide)) dX12_landLine_125 (fun H locs G => ?_)
        have G : zS T A s.heap s [[zAr T 0 m_read 121 (upd f_read 1 ((f_read 1) ||| (1 <<< (r_182 &&& 31))))], [zO11 mo m_all m_has i_size j_next_165 j_where_166 j_token_167 j_number_168 j_word_169 j_wrong_170 j_farCrossing_171 m_read i_z0 i_crossings i_inns m_posts m_shut m_here i_steps i_done i_at i_gone m_was m_came m_seenAt m_rowWorth m_farBy m_used i_everywhere i_again0 i_d0 i_never i_firstCame i_longRun i_moved i_crowd i_l0 i_fitMany i_fitLeast i_fitMost m_fitPost m_fitEnd m_keptPosts i_x0], [zAr T 0 m_all 3952 g_all_172]] _ _ := G
        refine lv_goto (tgt := 129) hx hb dX12_landLine_126 (by decide) ?_
        refine lv_aload_n hx hb dX12_landLine_129 rfl (lv_at hl 2 rfl) ?_
        refine z_Vv (bc := [[zO11 mo m_all m_has i_size j_next_165 j_where_166 j_token_167 j_number_168 j_word_169 j_wrong_170 j_farCrossing_171 m_read i_z0 i_crossings i_inns m_posts m_shut m_here i_steps i_done i_at i_gone m_was m_came m_seenAt m_rowWorth m_farBy m_used i_everywhere i_again0 i_d0 i_never i_firstCame i_longRun i_moved i_crowd i_l0 i_fitMany i_fitLeast i_fitMost m_fitPost m_fitEnd m_keptPosts i_x0], [zAr T 0 m_all 3952 g_all_172]]) (br := [[zAr T 0 m_read 121 (upd f_read 1 ((f_read 1) ||| (1 <<< (r_182 &&& 31))))]]) (As := []) (rest := []) C G (c_fm_endsLine l T mo m_all m_has i_size j_next_165 j_where_166 j_token_167 j_number_168 j_word_169 j_wrong_170 j_farCrossing_171 m_read i_z0 i_crossings i_inns m_posts m_shut m_here i_steps i_done i_at i_gone m_was m_came m_seenAt m_rowWorth m_farBy m_used i_everywhere i_again0 i_d0 i_never i_firstCame i_longRun i_moved i_crowd i_l0 i_fitMany i_fitLeast i_fitMost m_fitPost m_fitEnd m_keptPosts i_x0 g_all_172 k n ((pCr k d2).2) (by first | with_reducible assumption | with_reducible rfl | omega | assumption | rfl) (by first | with_reducible assumption | with_reducible rfl | omega | assumption | rfl) (by first | with_reducible assumption | with_reducible rfl | omega | assumption | rfl) h_180) (kV_RX12_140 C.2.2.2.2 (Nat.le_of_ble_eq_true rfl) (Nat.le_of_ble_eq_true rfl)) [1, 2] [1, 0] rfl rfl (ci := 11) (qc := (RX12, TX12, 43)) rfl rfl (List.mem_flatten.mpr ⟨_, List.mem_of_getElem? (i := 0) rfl, List.mem_cons_self⟩) rfl rfl hl.1 dX12_landLine_130 (Nat.le_of_ble_eq_true rfl) (Nat.le_of_ble_eq_true rfl) (fun b1 H locs hw G => ?_)
        refine zEx7 hw ?_
        intro j_next_183 j_where_184 j_token_185 j_number_186 j_word_187 j_wrong_188 g_all_189
        refine zCu7 ?_
        intro hbs9 h_190 h_191 h_192 h_193 h_194 h_195
        clear hw
        subst hbs9
        have G : zS T A s.heap s [[zAr T 0 m_read 121 (upd f_read 1 ((f_read 1) ||| (1 <<< (r_182 &&& 31))))], [zO11 mo m_all m_has i_size j_next_183 j_where_184 j_token_185 j_number_186 j_word_187 j_wrong_188 j_farCrossing_171 m_read i_z0 i_crossings i_inns m_posts m_shut m_here i_steps i_done i_at i_gone m_was m_came m_seenAt m_rowWorth m_farBy m_used i_everywhere i_again0 i_d0 i_never i_firstCame i_longRun i_moved i_crowd i_l0 i_fitMany i_fitLeast i_fitMost m_fitPost m_fitEnd m_keptPosts i_x0], [zAr T 0 m_all 3952 g_all_189]] _ _ := G
        have G := G.sub (bs' := [[zO11 mo m_all m_has i_size j_next_183 j_where_184 j_token_185 j_number_186 j_word_187 j_wrong_188 j_farCrossing_171 m_read i_z0 i_crossings i_inns m_posts m_shut m_here i_steps i_done i_at i_gone m_was m_came m_seenAt m_rowWorth m_farBy m_used i_everywhere i_again0 i_d0 i_never i_firstCame i_longRun i_moved i_crowd i_l0 i_fitMany i_fitLeast i_fitMost m_fitPost m_fitEnd m_keptPosts i_x0], [zAr T 0 m_all 3952 g_all_189], [zAr T 0 m_read 121 (upd f_read 1 ((f_read 1) ||| (1 <<< (r_182 &&& 31))))]]) [1, 2, 0] rfl
        exact z_back hQ9 (z_vret C hr hlocks G (Nat.le_of_ble_eq_true rfl) (Nat.le_of_ble_eq_true rfl) dX12_landLine_133 ⟨j_next_183, j_where_184, j_token_185, j_number_186, j_word_187, j_wrong_188, j_farCrossing_171, g_all_189, (upd f_read 1 ((f_read 1) ||| (1 <<< (r_182 &&& 31)))), rfl, (by first | with_reducible assumption | omega | trivial | assumption), (by first | with_reducible assumption | omega | trivial | assumption), (by first | with_reducible assumption | omega | trivial | assumption), (by first | with_reducible assumption | omega | trivial | assumption), (h_12.tr (h_177.tr h_194)), (zLF_upd (k := 1) (v := ((f_read 1) ||| (1 <<< (r_182 &&& 31)))) (by assumption) (by omega) (by omega) (by omega) (by omega) (by omega)), (by rw [pLand_i hd hwD (by omega)]; exact h_195), (by rw [pLand_i hd hwD (by omega)]; unfold pInn; rw [← h_181])⟩)
  · have c_17n : ¬ j_wrong_6.toInt = (0 : Int) := fun q => c_17 ((fa_eq _ _).mpr q)
    refine lv_iconst (v := 0) hx hb dX12_landLine_19 (by decide) ?_
    refine lv_goto (tgt := 24) hx hb dX12_landLine_20 (by decide) ?_
    refine lv_tableOut (tgt := 129) hx hb dX12_landLine_24 (by decide) (by decide) ?_
    refine lv_aload_n hx hb dX12_landLine_129 rfl (lv_at hl 2 rfl) ?_
    refine z_Vv (bc := [[zO11 mo m_all m_has i_size j_next_1 j_where_2 j_token_3 j_number_4 j_word_5 j_wrong_6 i_farCrossing m_read i_z0 i_crossings i_inns m_posts m_shut m_here i_steps i_done i_at i_gone m_was m_came m_seenAt m_rowWorth m_farBy m_used i_everywhere i_again0 i_d0 i_never i_firstCame i_longRun i_moved i_crowd i_l0 i_fitMany i_fitLeast i_fitMost m_fitPost m_fitEnd m_keptPosts i_x0], [zAr T 0 m_all 3952 g_all_7]]) (br := [[zAr T 0 m_read 121 f_read]]) (As := []) (rest := []) C G (c_fm_endsLine l T mo m_all m_has i_size j_next_1 j_where_2 j_token_3 j_number_4 j_word_5 j_wrong_6 i_farCrossing m_read i_z0 i_crossings i_inns m_posts m_shut m_here i_steps i_done i_at i_gone m_was m_came m_seenAt m_rowWorth m_farBy m_used i_everywhere i_again0 i_d0 i_never i_firstCame i_longRun i_moved i_crowd i_l0 i_fitMany i_fitLeast i_fitMost m_fitPost m_fitEnd m_keptPosts i_x0 g_all_7 k n d2 (by first | with_reducible assumption | with_reducible rfl | omega | assumption | rfl) (by first | with_reducible assumption | with_reducible rfl | omega | assumption | rfl) (by first | with_reducible assumption | with_reducible rfl | omega | assumption | rfl) hRd) (kV_RX12_140 C.2.2.2.2 (Nat.le_of_ble_eq_true rfl) (Nat.le_of_ble_eq_true rfl)) [1, 2] [1, 0] rfl rfl (ci := 11) (qc := (RX12, TX12, 43)) rfl rfl (List.mem_flatten.mpr ⟨_, List.mem_of_getElem? (i := 0) rfl, List.mem_cons_self⟩) rfl rfl hl.1 dX12_landLine_130 (Nat.le_of_ble_eq_true rfl) (Nat.le_of_ble_eq_true rfl) (fun b1 H locs hw G => ?_)
    refine zEx7 hw ?_
    intro j_next_197 j_where_198 j_token_199 j_number_200 j_word_201 j_wrong_202 g_all_203
    refine zCu7 ?_
    intro hbs9 h_204 h_205 h_206 h_207 h_208 h_209
    clear hw
    subst hbs9
    have G : zS T A s.heap s [[zAr T 0 m_read 121 f_read], [zO11 mo m_all m_has i_size j_next_197 j_where_198 j_token_199 j_number_200 j_word_201 j_wrong_202 i_farCrossing m_read i_z0 i_crossings i_inns m_posts m_shut m_here i_steps i_done i_at i_gone m_was m_came m_seenAt m_rowWorth m_farBy m_used i_everywhere i_again0 i_d0 i_never i_firstCame i_longRun i_moved i_crowd i_l0 i_fitMany i_fitLeast i_fitMost m_fitPost m_fitEnd m_keptPosts i_x0], [zAr T 0 m_all 3952 g_all_203]] _ _ := G
    have G := G.sub (bs' := [[zO11 mo m_all m_has i_size j_next_197 j_where_198 j_token_199 j_number_200 j_word_201 j_wrong_202 i_farCrossing m_read i_z0 i_crossings i_inns m_posts m_shut m_here i_steps i_done i_at i_gone m_was m_came m_seenAt m_rowWorth m_farBy m_used i_everywhere i_again0 i_d0 i_never i_firstCame i_longRun i_moved i_crowd i_l0 i_fitMany i_fitLeast i_fitMost m_fitPost m_fitEnd m_keptPosts i_x0], [zAr T 0 m_all 3952 g_all_203], [zAr T 0 m_read 121 f_read]]) [1, 2, 0] rfl
    exact z_back hQ9 (z_vret C hr hlocks G (Nat.le_of_ble_eq_true rfl) (Nat.le_of_ble_eq_true rfl) dX12_landLine_133 ⟨j_next_197, j_where_198, j_token_199, j_number_200, j_word_201, j_wrong_202, i_farCrossing, g_all_203, f_read, rfl, (by first | with_reducible assumption | omega | trivial | assumption), (by first | with_reducible assumption | omega | trivial | assumption), (by first | with_reducible assumption | omega | trivial | assumption), (by first | with_reducible assumption | omega | trivial | assumption), (h_12.tr h_208), (by assumption), (by rw [pLand_w hd (by first | (exact fun z9 => by have := hdr z9; omega) | (rw [← hA6D]; omega))]; exact h_209), (by rw [pLand_w hd (by first | (exact fun z9 => by have := hdr z9; omega) | (rw [← hA6D]; omega))])⟩)
set_option maxHeartbeats 4000000 in
set_option maxRecDepth 100000 in
/-- c_fm_dayLine -/
theorem c_fm_dayLine (l : Launch) (T : zTy) (mo : Nat) (m_all : Nat) (m_has : Nat) (i_size : Int32) (i_next : Int32) (i_where : Int32) (i_token : Int32) (i_number : Int32) (i_word : Int32) (i_wrong : Int32) (i_farCrossing : Int32) (m_read : Nat) (i_z0 : Int32) (i_crossings : Int32) (i_inns : Int32) (m_posts : Nat) (m_shut : Nat) (m_here : Nat) (i_steps : Int32) (i_done : Int32) (i_at : Int32) (i_gone : Int32) (m_was : Nat) (m_came : Nat) (m_seenAt : Nat) (m_rowWorth : Nat) (m_farBy : Nat) (m_used : Nat) (i_everywhere : Int32) (i_again0 : Int32) (i_d0 : Int32) (i_never : Int32) (i_firstCame : Int32) (i_longRun : Int32) (i_moved : Int32) (i_crowd : Int32) (i_l0 : Int32) (i_fitMany : Int32) (i_fitLeast : Int32) (i_fitMost : Int32) (m_fitPost : Nat) (m_fitEnd : Nat) (m_keptPosts : Nat) (i_x0 : Int32) (f_all : Nat → Int32) (f_read : Nat → Int32) (k : pT) (n : Nat) (a : pS) (hsz : i_size.toInt ≤ 600) (hn0 : 0 ≤ i_next.toInt) (hns : i_next.toInt ≤ i_size.toInt) (hR : zCF 40 f_read) (hA : zRr k n i_size i_next i_where i_token i_number i_word i_wrong i_farCrossing f_all a) (hw : a.2.1.toInt = 0) : zMv l T yX12_dayLine cX12_dayLine 6 6 0 0 [.ref mo] [[zO11 mo m_all m_has i_size i_next i_where i_token i_number i_word i_wrong i_farCrossing m_read i_z0 i_crossings i_inns m_posts m_shut m_here i_steps i_done i_at i_gone m_was m_came m_seenAt m_rowWorth m_farBy m_used i_everywhere i_again0 i_d0 i_never i_firstCame i_longRun i_moved i_crowd i_l0 i_fitMany i_fitLeast i_fitMost m_fitPost m_fitEnd m_keptPosts i_x0], [zAr T 0 m_all 3952 f_all], [zAr T 0 m_read 121 f_read]] (fun bs => ∃ (j_next : Int32) (j_where : Int32) (j_token : Int32) (j_number : Int32) (j_word : Int32) (j_wrong : Int32) (g_all : Nat → Int32) (g_read : Nat → Int32), bs = [[zO11 mo m_all m_has i_size j_next j_where j_token j_number j_word j_wrong i_farCrossing m_read i_z0 i_crossings i_inns m_posts m_shut m_here i_steps i_done i_at i_gone m_was m_came m_seenAt m_rowWorth m_farBy m_used i_everywhere i_again0 i_d0 i_never i_firstCame i_longRun i_moved i_crowd i_l0 i_fitMany i_fitLeast i_fitMost m_fitPost m_fitEnd m_keptPosts i_x0], [zAr T 0 m_all 3952 g_all], [zAr T 0 m_read 121 g_read]] ∧ 0 ≤ j_next.toInt ∧ j_next.toInt ≤ i_size.toInt ∧ i_next.toInt ≤ j_next.toInt ∧ (¬ j_wrong.toInt = 0 ∨ i_next.toInt < j_next.toInt ∨ j_token.toInt = 0) ∧ zPal f_all g_all ∧ zCF 40 g_read ∧ zRr k n i_size j_next j_where j_token j_number j_word j_wrong i_farCrossing g_all (pDay k a f_read).1 ∧ g_read = (pDay k a f_read).2) := by
  refine zMv_of (own := RX12) (by decide) rfl (Nat.le_of_ble_eq_true rfl) ?_
  intro p e s m args below meth c A ls C hr hlocks hnm hAe G hl
  refine zHide (fun Q9 hQ9 => ?_)
  have hx := C.1
  have hb := C.2.1
  have hl : lv_has ls 6 [(0, .ref mo)] := hl
  have hok := zRr_ok hA
  refine zAn6 (id hA) ?_
  intro hA1 hA6 hA7 hA8 hA9 hA10
  replace hA7 : zHd _ := hA7
  have hka : zHd _ := hok a.1 hA1.2.2.2.2
  have hkb := hka.1
  have hkc := hka.2.1
  have hT4 := pTk_le hok hA1.2.2.2.2
  refine zAn5 (hA7 hw) ?_
  intro t1 t2 t3 t4 t5
  replace t4 : zHd _ := t4
  replace t5 : zHd _ := t5
  have t3i : i_token.toInt = (pTk k a.1 : Int) := by rw [t3]; exact nI_toInt (by omega)
  have hR0 : 0 ≤ (f_read 0).toInt ∧ (f_read 0).toInt ≤ 40 := hR
  refine lv_aload_n hx hb dX12_dayLine_0 rfl (lv_at hl 0 rfl) ?_
  refine z_get C G clX12 0 rfl 4 (by decide) m_fl_RX12_77 rfl dX12_dayLine_1 ?_
  refine lv_istore_n (lv' := [(1, .int i_where), (0, .ref mo)]) hx hb dX12_dayLine_4 rfl hl (by decide) rfl (fun ls hl => ?_)
  refine lv_aload_n hx hb dX12_dayLine_5 rfl (lv_at hl 1 rfl) ?_
  refine lv_iconst (v := 5) hx hb dX12_dayLine_6 (by decide) ?_
  refine lv_bipush (v := 10) hx hb dX12_dayLine_7 (by decide) ?_
  refine z_Vi (bc := [[zO11 mo m_all m_has i_size i_next i_where i_token i_number i_word i_wrong i_farCrossing m_read i_z0 i_crossings i_inns m_posts m_shut m_here i_steps i_done i_at i_gone m_was m_came m_seenAt m_rowWorth m_farBy m_used i_everywhere i_again0 i_d0 i_never i_firstCame i_longRun i_moved i_crowd i_l0 i_fitMany i_fitLeast i_fitMost m_fitPost m_fitEnd m_keptPosts i_x0], [zAr T 0 m_all 3952 f_all]]) (br := [[zAr T 0 m_read 121 f_read]]) (As := [.int 5, .int 10]) (rest := []) C G (c_fm_wordIn l T mo m_all m_has i_size i_next i_where i_token i_number i_word i_wrong i_farCrossing m_read i_z0 i_crossings i_inns m_posts m_shut m_here i_steps i_done i_at i_gone m_was m_came m_seenAt m_rowWorth m_farBy m_used i_everywhere i_again0 i_d0 i_never i_firstCame i_longRun i_moved i_crowd i_l0 i_fitMany i_fitLeast i_fitMost m_fitPost m_fitEnd m_keptPosts i_x0 f_all k n a 5 10 5 10 (by first | with_reducible assumption | with_reducible rfl | omega | assumption | rfl) (by first | with_reducible assumption | with_reducible rfl | omega | assumption | rfl) (by first | with_reducible assumption | with_reducible rfl | omega | assumption | rfl) hA rfl rfl) (kV_RX12_133 C.2.2.2.2 (Nat.le_of_ble_eq_true rfl) (Nat.le_of_ble_eq_true rfl)) [0, 1] [0, 0] rfl rfl (ci := 11) (qc := (RX12, TX12, 43)) rfl rfl (List.mem_flatten.mpr ⟨_, List.mem_of_getElem? (i := 0) rfl, List.mem_cons_self⟩) rfl rfl hl.1 dX12_dayLine_9 (Nat.le_of_ble_eq_true rfl) (Nat.le_of_ble_eq_true rfl) (fun r_16 b1 H locs hw G => ?_)
  refine zEx7 hw ?_
  intro j_next_1 j_where_2 j_token_3 j_number_4 j_word_5 j_wrong_6 g_all_7
  refine zCu9 ?_
  intro hbs9 h_8 h_9 h_10 h_11 h_12 h_13 h_14 h_15
  clear hw
  subst hbs9
  have G : zS T A s.heap s [[zAr T 0 m_read 121 f_read], [zO11 mo m_all m_has i_size j_next_1 j_where_2 j_token_3 j_number_4 j_word_5 j_wrong_6 i_farCrossing m_read i_z0 i_crossings i_inns m_posts m_shut m_here i_steps i_done i_at i_gone m_was m_came m_seenAt m_rowWorth m_farBy m_used i_everywhere i_again0 i_d0 i_never i_firstCame i_longRun i_moved i_crowd i_l0 i_fitMany i_fitLeast i_fitMost m_fitPost m_fitEnd m_keptPosts i_x0], [zAr T 0 m_all 3952 g_all_7]] _ _ := G
  have h_13 : (r_16.toInt = 0 ∨ (5 : Int) ≤ r_16.toInt ∧ r_16.toInt ≤ (10 : Int)) := h_13
  obtain ⟨d1, d2, hd⟩ : ∃ (d1 : Nat) (d2 : pS), pWord k 5 10 a = (d1, d2) := ⟨_, _, rfl⟩
  have hRd : zRr k n i_size j_next_1 j_where_2 j_token_3 j_number_4 j_word_5 j_wrong_6 i_farCrossing g_all_7 d2 := by have q9 := h_14; rw [hd] at q9; exact q9
  have hvd : r_16 = nI d1 := by have q9 := h_15; rw [hd] at q9; exact q9
  have hokD := zRr_ok hRd
  refine zAn6 (id hRd) ?_
  intro hA1D hA6D hA7D hA8D hA9D hA10D
  replace hA7D : zHd _ := hA7D
  have hkaD : zHd _ := hokD d2.1 hA1D.2.2.2.2
  have hkbD := hkaD.1
  have hkcD := hkaD.2.1
  have hT4D := pTk_le hokD hA1D.2.2.2.2
  have hdr : d2.2.1.toInt = 0 → 5 ≤ d1 ∧ d1 ≤ 10 := fun q9 => by have q8 := pWord_r (k := k) (lo := 5) (hi := 10) (a := a) (by rw [hd]; exact q9); have q6 := q8.2.2.2; rw [hd] at q6; have q7 : d1 = pWd k a.1 := congrArg Prod.fst q6; omega
  have hd4 : d1 ≤ 10 := by have q9 := pWord_1 k 5 10 a; rw [hd] at q9; exact q9
  have hdi : (r_16).toInt = (d1 : Int) := by rw [hvd]; exact nI_toInt (by omega)
  refine lv_iconst (v := 5) hx hb dX12_dayLine_12 (by decide) ?_
  refine lv_isub hx hb dX12_dayLine_13 ?_
  refine lv_topi (fun y_17 ey_17 => ?_)
  have ey_17i : y_17.toInt = r_16.toInt - (5 : Int) := by rw [ey_17]; exact z_isubI (x := r_16) (y := (5 : Int32)) (by show -2147483648 ≤ r_16.toInt - (5 : Int); omega) (by show r_16.toInt - (5 : Int) < 2147483648; omega)
  refine lv_istore_n (lv' := [(2, .int y_17), (1, .int i_where), (0, .ref mo)]) hx hb dX12_dayLine_14 rfl hl (by decide) rfl (fun ls hl => ?_)
  refine zMt2 (T := T) 39 (fun (gb : Nat → Int32) (b : pS) => [[zAr T 0 m_read 121 f_read], [zO11 mo m_all m_has i_size j_next_1 j_where_2 j_token_3 j_number_4 j_word_5 j_wrong_6 i_farCrossing m_read i_z0 i_crossings i_inns m_posts m_shut m_here i_steps i_done i_at i_gone m_was m_came m_seenAt m_rowWorth m_farBy m_used i_everywhere i_again0 i_d0 i_never i_firstCame i_longRun i_moved i_crowd i_l0 i_fitMany i_fitLeast i_fitMost m_fitPost m_fitEnd m_keptPosts i_x0], [zAr T 0 m_all 3952 gb]]) (fun (gb : Nat → Int32) (b : pS) => [(2, .int y_17), (1, .int i_where), (0, .ref mo)]) (fun (gb : Nat → Int32) (b : pS) => b = pDB 40 i_where f_read d2 ∧ zRr k n i_size j_next_1 j_where_2 j_token_3 j_number_4 j_word_5 j_wrong_6 i_farCrossing gb b ∧ zPal f_all gb) G hl ?_ (fun jn_39 => ?_)
  · intro gb b hI9 H locs ls G hl
    replace hI9 : b = pDB 40 i_where f_read d2 ∧ zRr k n i_size j_next_1 j_where_2 j_token_3 j_number_4 j_word_5 j_wrong_6 i_farCrossing gb b ∧ zPal f_all gb := hI9
    refine zAn3 hI9 ?_
    intro hbq hRb hpgb
    clear hI9
    replace G : zS T A s.heap s [[zAr T 0 m_read 121 f_read], [zO11 mo m_all m_has i_size j_next_1 j_where_2 j_token_3 j_number_4 j_word_5 j_wrong_6 i_farCrossing m_read i_z0 i_crossings i_inns m_posts m_shut m_here i_steps i_done i_at i_gone m_was m_came m_seenAt m_rowWorth m_farBy m_used i_everywhere i_again0 i_d0 i_never i_firstCame i_longRun i_moved i_crowd i_l0 i_fitMany i_fitLeast i_fitMost m_fitPost m_fitEnd m_keptPosts i_x0], [zAr T 0 m_all 3952 gb]] _ _ := G
    replace hl : lv_has ls 6 [(2, .int y_17), (1, .int i_where), (0, .ref mo)] := hl
    refine lv_aload_n hx hb dX12_dayLine_39 rfl (lv_at hl 2 rfl) ?_
    refine lv_iconst (v := 0) hx hb dX12_dayLine_40 (by decide) ?_
    refine lv_bipush (v := 6) hx hb dX12_dayLine_41 (by decide) ?_
    refine z_Vi (bc := [[zO11 mo m_all m_has i_size j_next_1 j_where_2 j_token_3 j_number_4 j_word_5 j_wrong_6 i_farCrossing m_read i_z0 i_crossings i_inns m_posts m_shut m_here i_steps i_done i_at i_gone m_was m_came m_seenAt m_rowWorth m_farBy m_used i_everywhere i_again0 i_d0 i_never i_firstCame i_longRun i_moved i_crowd i_l0 i_fitMany i_fitLeast i_fitMost m_fitPost m_fitEnd m_keptPosts i_x0], [zAr T 0 m_all 3952 gb]]) (br := [[zAr T 0 m_read 121 f_read]]) (As := [.int 0, .int 6]) (rest := []) C G (c_fm_numbered l T mo m_all m_has i_size j_next_1 j_where_2 j_token_3 j_number_4 j_word_5 j_wrong_6 i_farCrossing m_read i_z0 i_crossings i_inns m_posts m_shut m_here i_steps i_done i_at i_gone m_was m_came m_seenAt m_rowWorth m_farBy m_used i_everywhere i_again0 i_d0 i_never i_firstCame i_longRun i_moved i_crowd i_l0 i_fitMany i_fitLeast i_fitMost m_fitPost m_fitEnd m_keptPosts i_x0 gb k n b 0 6 (by first | with_reducible assumption | with_reducible rfl | omega | assumption | rfl) (by first | with_reducible assumption | with_reducible rfl | omega | assumption | rfl) (by first | with_reducible assumption | with_reducible rfl | omega | assumption | rfl) (by decide) hRb) (kV_RX12_122 C.2.2.2.2 (Nat.le_of_ble_eq_true rfl) (Nat.le_of_ble_eq_true rfl)) [1, 2] [1, 0] rfl rfl (ci := 11) (qc := (RX12, TX12, 43)) rfl rfl (List.mem_flatten.mpr ⟨_, List.mem_of_getElem? (i := 0) rfl, List.mem_cons_self⟩) rfl rfl hl.1 dX12_dayLine_43 (Nat.le_of_ble_eq_true rfl) (Nat.le_of_ble_eq_true rfl) (fun r_34 b1 H locs hw G => ?_)
    refine zEx7 hw ?_
    intro j_next_18 j_where_19 j_token_20 j_number_21 j_word_22 j_wrong_23 g_all_24
    refine zCu10 ?_
    intro hbs9 h_25 h_26 h_27 h_28 h_29 h_30 h_31 h_32 h_33
    clear hw
    subst hbs9
    have G : zS T A s.heap s [[zAr T 0 m_read 121 f_read], [zO11 mo m_all m_has i_size j_next_18 j_where_19 j_token_20 j_number_21 j_word_22 j_wrong_23 i_farCrossing m_read i_z0 i_crossings i_inns m_posts m_shut m_here i_steps i_done i_at i_gone m_was m_came m_seenAt m_rowWorth m_farBy m_used i_everywhere i_again0 i_d0 i_never i_firstCame i_longRun i_moved i_crowd i_l0 i_fitMany i_fitLeast i_fitMost m_fitPost m_fitEnd m_keptPosts i_x0], [zAr T 0 m_all 3952 g_all_24]] _ _ := G
    have h_30 : (0 : Int) ≤ r_34.toInt := h_30
    have h_31 : r_34.toInt ≤ (6 : Int) := h_31
    refine lv_istore_n (lv' := [(3, .int r_34), (2, .int y_17), (1, .int i_where), (0, .ref mo)]) hx hb dX12_dayLine_46 rfl hl (by decide) rfl (fun ls hl => ?_)
    refine lv_iload_n hx hb dX12_dayLine_47 rfl (lv_at hl 1 rfl) ?_
    refine lv_iconst (v := 3) hx hb dX12_dayLine_48 (by decide) ?_
    refine lv_icmp_le (tgt := 61) hx hb dX12_dayLine_49 (by decide) (fun c_35 => ?_) (fun c_35 => ?_)
    · have c_35n : y_17.toInt ≤ (3 : Int) := (fa_le _ _).mp c_35
      refine lv_iconst (v := (-1)) hx hb dX12_dayLine_61 (by decide) ?_
      refine lv_istore (lv' := [(4, .int (-1)), (3, .int r_34), (2, .int y_17), (1, .int i_where), (0, .ref mo)]) hx hb dX12_dayLine_62 hl (by decide) rfl (fun ls hl => ?_)
      refine lv_aload_n hx hb dX12_dayLine_64 rfl (lv_at hl 4 rfl) ?_
      refine z_get C G clX12 1 rfl 10 (by decide) m_fl_RX12_17 rfl dX12_dayLine_65 ?_
      refine lv_iconst (v := 0) hx hb dX12_dayLine_68 (by decide) ?_
      refine z_ild C G 0 rfl (vp_in_nI (n := 0) (by decide) (by decide)) dX12_dayLine_69 ?_
      refine lv_topi (fun v_36 ev_36 => ?_)
      rw [show ((0 : Int32).toNatClampNeg) = 0 from rfl] at ev_36
      subst ev_36
      refine lv_bipush (v := 40) hx hb dX12_dayLine_70 (by decide) ?_
      refine lv_icmp_ge (tgt := 126) hx hb dX12_dayLine_72 (by decide) (fun c_37 => ?_) (fun c_37 => ?_)
      · have c_37n : (40 : Int) ≤ (f_read 0).toInt := (fa_le _ _).mp c_37
        refine lv_aload_n hx hb dX12_dayLine_126 rfl (lv_at hl 4 rfl) ?_
        refine z_Vv (bc := [[zO11 mo m_all m_has i_size j_next_18 j_where_19 j_token_20 j_number_21 j_word_22 j_wrong_23 i_farCrossing m_read i_z0 i_crossings i_inns m_posts m_shut m_here i_steps i_done i_at i_gone m_was m_came m_seenAt m_rowWorth m_farBy m_used i_everywhere i_again0 i_d0 i_never i_firstCame i_longRun i_moved i_crowd i_l0 i_fitMany i_fitLeast i_fitMost m_fitPost m_fitEnd m_keptPosts i_x0], [zAr T 0 m_all 3952 g_all_24]]) (br := [[zAr T 0 m_read 121 f_read]]) (As := []) (rest := []) C G (c_fm_endsLine l T mo m_all m_has i_size j_next_18 j_where_19 j_token_20 j_number_21 j_word_22 j_wrong_23 i_farCrossing m_read i_z0 i_crossings i_inns m_posts m_shut m_here i_steps i_done i_at i_gone m_was m_came m_seenAt m_rowWorth m_farBy m_used i_everywhere i_again0 i_d0 i_never i_firstCame i_longRun i_moved i_crowd i_l0 i_fitMany i_fitLeast i_fitMost m_fitPost m_fitEnd m_keptPosts i_x0 g_all_24 k n ((pNum k 0 6 b).2) (by first | with_reducible assumption | with_reducible rfl | omega | assumption | rfl) (by first | with_reducible assumption | with_reducible rfl | omega | assumption | rfl) (by first | with_reducible assumption | with_reducible rfl | omega | assumption | rfl) h_32) (kV_RX12_140 C.2.2.2.2 (Nat.le_of_ble_eq_true rfl) (Nat.le_of_ble_eq_true rfl)) [1, 2] [1, 0] rfl rfl (ci := 11) (qc := (RX12, TX12, 43)) rfl rfl (List.mem_flatten.mpr ⟨_, List.mem_of_getElem? (i := 0) rfl, List.mem_cons_self⟩) rfl rfl hl.1 dX12_dayLine_127 (Nat.le_of_ble_eq_true rfl) (Nat.le_of_ble_eq_true rfl) (fun b1 H locs hw G => ?_)
        refine zEx7 hw ?_
        intro j_next_38 j_where_39 j_token_40 j_number_41 j_word_42 j_wrong_43 g_all_44
        refine zCu7 ?_
        intro hbs9 h_45 h_46 h_47 h_48 h_49 h_50
        clear hw
        subst hbs9
        have G : zS T A s.heap s [[zAr T 0 m_read 121 f_read], [zO11 mo m_all m_has i_size j_next_38 j_where_39 j_token_40 j_number_41 j_word_42 j_wrong_43 i_farCrossing m_read i_z0 i_crossings i_inns m_posts m_shut m_here i_steps i_done i_at i_gone m_was m_came m_seenAt m_rowWorth m_farBy m_used i_everywhere i_again0 i_d0 i_never i_firstCame i_longRun i_moved i_crowd i_l0 i_fitMany i_fitLeast i_fitMost m_fitPost m_fitEnd m_keptPosts i_x0], [zAr T 0 m_all 3952 g_all_44]] _ _ := G
        have G := G.sub (bs' := [[zO11 mo m_all m_has i_size j_next_38 j_where_39 j_token_40 j_number_41 j_word_42 j_wrong_43 i_farCrossing m_read i_z0 i_crossings i_inns m_posts m_shut m_here i_steps i_done i_at i_gone m_was m_came m_seenAt m_rowWorth m_farBy m_used i_everywhere i_again0 i_d0 i_never i_firstCame i_longRun i_moved i_crowd i_l0 i_fitMany i_fitLeast i_fitMost m_fitPost m_fitEnd m_keptPosts i_x0], [zAr T 0 m_all 3952 g_all_44], [zAr T 0 m_read 121 f_read]]) [1, 2, 0] rfl
        exact z_back hQ9 (z_vret C hr hlocks G (Nat.le_of_ble_eq_true rfl) (Nat.le_of_ble_eq_true rfl) dX12_dayLine_130 ⟨j_next_38, j_where_39, j_token_40, j_number_41, j_word_42, j_wrong_43, g_all_44, f_read, rfl, (by first | with_reducible assumption | omega | trivial | assumption), (by first | with_reducible assumption | omega | trivial | assumption), (by first | with_reducible assumption | omega | trivial | assumption), (by first | with_reducible assumption | omega | trivial | assumption), (hpgb.tr (h_29.tr h_49)), (by first | with_reducible assumption | omega | trivial | assumption), (by unfold pDay; rw [hd]; show zRr _ _ _ _ _ _ _ _ _ _ _ (pEndL k (pDeed k d1 (nI (pWh k a.1)) d2 f_read).1); rw [← t2, pDeed_1 hbq, pDY_lo (by omega)]; exact h_50), (by unfold pDay; rw [hd]; show _ = (pDeed k d1 (nI (pWh k a.1)) d2 f_read).2; rw [← t2]; unfold pDeed; rw [← hbq]; exact (if_neg (by omega)).symm)⟩)
      · have c_37n : ¬ (40 : Int) ≤ (f_read 0).toInt := fun q => c_37 ((fa_le _ _).mpr q)
        refine lv_iconst (v := 1) hx hb dX12_dayLine_75 (by decide) ?_
        refine lv_iconst (v := 3) hx hb dX12_dayLine_76 (by decide) ?_
        refine lv_aload_n hx hb dX12_dayLine_77 rfl (lv_at hl 4 rfl) ?_
        refine z_get C G clX12 1 rfl 10 (by decide) m_fl_RX12_17 rfl dX12_dayLine_78 ?_
        refine lv_iconst (v := 0) hx hb dX12_dayLine_81 (by decide) ?_
        refine z_ild C G 0 rfl (vp_in_nI (n := 0) (by decide) (by decide)) dX12_dayLine_82 ?_
        refine lv_topi (fun v_52 ev_52 => ?_)
        rw [show ((0 : Int32).toNatClampNeg) = 0 from rfl] at ev_52
        subst ev_52
        refine lv_imul hx hb dX12_dayLine_83 ?_
        refine lv_topi (fun y_53 ey_53 => ?_)
        have ey_53i : y_53.toInt = (3 : Int) * (f_read 0).toInt := by rw [ey_53]; exact z_imulI (x := (3 : Int32)) (y := (f_read 0)) (by show -2147483648 ≤ (3 : Int) * (f_read 0).toInt; omega) (by show (3 : Int) * (f_read 0).toInt < 2147483648; omega)
        refine lv_iadd hx hb dX12_dayLine_84 ?_
        refine lv_topi (fun y_54 ey_54 => ?_)
        have ey_54i : y_54.toInt = (1 : Int) + y_53.toInt := by rw [ey_54]; exact z_iaddI (x := (1 : Int32)) (y := y_53) (by show -2147483648 ≤ (1 : Int) + y_53.toInt; omega) (by show (1 : Int) + y_53.toInt < 2147483648; omega)
        refine lv_istore (lv' := [(5, .int y_54), (4, .int (-1)), (3, .int r_34), (2, .int y_17), (1, .int i_where), (0, .ref mo)]) hx hb dX12_dayLine_85 hl (by decide) rfl (fun ls hl => ?_)
        refine lv_aload_n hx hb dX12_dayLine_87 rfl (lv_at hl 5 rfl) ?_
        refine z_get C G clX12 1 rfl 10 (by decide) m_fl_RX12_17 rfl dX12_dayLine_88 ?_
        refine lv_iload hx hb dX12_dayLine_91 (lv_at hl 0 rfl) ?_
        refine lv_iload_n hx hb dX12_dayLine_93 rfl (lv_at hl 3 rfl) ?_
        refine z_ist C G 0 rfl (vp_in_iff.mpr ⟨by omega, by omega⟩) dX12_dayLine_94 (fun H locs G => ?_)
        have G : zS T A s.heap s [[zAr T 0 m_read 121 (upd f_read y_54.toNatClampNeg y_17)], [zO11 mo m_all m_has i_size j_next_18 j_where_19 j_token_20 j_number_21 j_word_22 j_wrong_23 i_farCrossing m_read i_z0 i_crossings i_inns m_posts m_shut m_here i_steps i_done i_at i_gone m_was m_came m_seenAt m_rowWorth m_farBy m_used i_everywhere i_again0 i_d0 i_never i_firstCame i_longRun i_moved i_crowd i_l0 i_fitMany i_fitLeast i_fitMost m_fitPost m_fitEnd m_keptPosts i_x0], [zAr T 0 m_all 3952 g_all_24]] _ _ := G
        refine lv_aload_n hx hb dX12_dayLine_95 rfl (lv_at hl 5 rfl) ?_
        refine z_get C G clX12 1 rfl 10 (by decide) m_fl_RX12_17 rfl dX12_dayLine_96 ?_
        refine lv_iload hx hb dX12_dayLine_99 (lv_at hl 0 rfl) ?_
        refine lv_iconst (v := 1) hx hb dX12_dayLine_101 (by decide) ?_
        refine lv_iadd hx hb dX12_dayLine_102 ?_
        refine lv_topi (fun y_55 ey_55 => ?_)
        have ey_55i : y_55.toInt = y_54.toInt + (1 : Int) := by rw [ey_55]; exact z_iaddI (x := y_54) (y := (1 : Int32)) (by show -2147483648 ≤ y_54.toInt + (1 : Int); omega) (by show y_54.toInt + (1 : Int) < 2147483648; omega)
        refine lv_iload_n hx hb dX12_dayLine_103 rfl (lv_at hl 2 rfl) ?_
        refine z_ist C G 0 rfl (vp_in_iff.mpr ⟨by omega, by omega⟩) dX12_dayLine_104 (fun H locs G => ?_)
        have G : zS T A s.heap s [[zAr T 0 m_read 121 (upd (upd f_read y_54.toNatClampNeg y_17) y_55.toNatClampNeg r_34)], [zO11 mo m_all m_has i_size j_next_18 j_where_19 j_token_20 j_number_21 j_word_22 j_wrong_23 i_farCrossing m_read i_z0 i_crossings i_inns m_posts m_shut m_here i_steps i_done i_at i_gone m_was m_came m_seenAt m_rowWorth m_farBy m_used i_everywhere i_again0 i_d0 i_never i_firstCame i_longRun i_moved i_crowd i_l0 i_fitMany i_fitLeast i_fitMost m_fitPost m_fitEnd m_keptPosts i_x0], [zAr T 0 m_all 3952 g_all_24]] _ _ := G
        refine lv_aload_n hx hb dX12_dayLine_105 rfl (lv_at hl 5 rfl) ?_
        refine z_get C G clX12 1 rfl 10 (by decide) m_fl_RX12_17 rfl dX12_dayLine_106 ?_
        refine lv_iload hx hb dX12_dayLine_109 (lv_at hl 0 rfl) ?_
        refine lv_iconst (v := 2) hx hb dX12_dayLine_111 (by decide) ?_
        refine lv_iadd hx hb dX12_dayLine_112 ?_
        refine lv_topi (fun y_56 ey_56 => ?_)
        have ey_56i : y_56.toInt = y_54.toInt + (2 : Int) := by rw [ey_56]; exact z_iaddI (x := y_54) (y := (2 : Int32)) (by show -2147483648 ≤ y_54.toInt + (2 : Int); omega) (by show y_54.toInt + (2 : Int) < 2147483648; omega)
        refine lv_iload hx hb dX12_dayLine_113 (lv_at hl 1 rfl) ?_
        refine z_ist C G 0 rfl (vp_in_iff.mpr ⟨by omega, by omega⟩) dX12_dayLine_115 (fun H locs G => ?_)
        have G : zS T A s.heap s [[zAr T 0 m_read 121 (upd (upd (upd f_read y_54.toNatClampNeg y_17) y_55.toNatClampNeg r_34) y_56.toNatClampNeg (-1))], [zO11 mo m_all m_has i_size j_next_18 j_where_19 j_token_20 j_number_21 j_word_22 j_wrong_23 i_farCrossing m_read i_z0 i_crossings i_inns m_posts m_shut m_here i_steps i_done i_at i_gone m_was m_came m_seenAt m_rowWorth m_farBy m_used i_everywhere i_again0 i_d0 i_never i_firstCame i_longRun i_moved i_crowd i_l0 i_fitMany i_fitLeast i_fitMost m_fitPost m_fitEnd m_keptPosts i_x0], [zAr T 0 m_all 3952 g_all_24]] _ _ := G
        refine lv_aload_n hx hb dX12_dayLine_116 rfl (lv_at hl 5 rfl) ?_
        refine z_get C G clX12 1 rfl 10 (by decide) m_fl_RX12_17 rfl dX12_dayLine_117 ?_
        refine lv_iconst (v := 0) hx hb dX12_dayLine_120 (by decide) ?_
        refine lv_dup2_11 hx hb dX12_dayLine_121 rfl rfl ?_
        refine z_ild C G 0 rfl (vp_in_nI (n := 0) (by decide) (by decide)) dX12_dayLine_122 ?_
        refine lv_topi (fun v_57 ev_57 => ?_)
        rw [show ((0 : Int32).toNatClampNeg) = 0 from rfl] at ev_57
        subst ev_57
        refine lv_iconst (v := 1) hx hb dX12_dayLine_123 (by decide) ?_
        have hcl_y_56 := z_clI (x := y_56) (by omega)
        have hcl_y_55 := z_clI (x := y_55) (by omega)
        have hcl_y_54 := z_clI (x := y_54) (by omega)
        rw [show (upd (upd (upd f_read y_54.toNatClampNeg y_17) y_55.toNatClampNeg r_34) y_56.toNatClampNeg (-1)) 0 = f_read 0 from by unfold upd; rw [if_neg (by omega), if_neg (by omega), if_neg (by omega)]]
        refine lv_iadd hx hb dX12_dayLine_124 ?_
        refine lv_topi (fun y_58 ey_58 => ?_)
        have ey_58i : y_58.toInt = (f_read 0).toInt + (1 : Int) := by rw [ey_58]; exact z_iaddI (x := (f_read 0)) (y := (1 : Int32)) (by show -2147483648 ≤ (f_read 0).toInt + (1 : Int); omega) (by show (f_read 0).toInt + (1 : Int) < 2147483648; omega)
        refine z_ist C G 0 rfl (vp_in_nI (n := 0) (by decide) (by decide)) dX12_dayLine_125 (fun H locs G => ?_)
        have G : zS T A s.heap s [[zAr T 0 m_read 121 (upd (upd (upd (upd f_read y_54.toNatClampNeg y_17) y_55.toNatClampNeg r_34) y_56.toNatClampNeg (-1)) 0 y_58)], [zO11 mo m_all m_has i_size j_next_18 j_where_19 j_token_20 j_number_21 j_word_22 j_wrong_23 i_farCrossing m_read i_z0 i_crossings i_inns m_posts m_shut m_here i_steps i_done i_at i_gone m_was m_came m_seenAt m_rowWorth m_farBy m_used i_everywhere i_again0 i_d0 i_never i_firstCame i_longRun i_moved i_crowd i_l0 i_fitMany i_fitLeast i_fitMost m_fitPost m_fitEnd m_keptPosts i_x0], [zAr T 0 m_all 3952 g_all_24]] _ _ := G
        refine lv_aload_n hx hb dX12_dayLine_126 rfl (lv_at hl 5 rfl) ?_
        refine z_Vv (bc := [[zO11 mo m_all m_has i_size j_next_18 j_where_19 j_token_20 j_number_21 j_word_22 j_wrong_23 i_farCrossing m_read i_z0 i_crossings i_inns m_posts m_shut m_here i_steps i_done i_at i_gone m_was m_came m_seenAt m_rowWorth m_farBy m_used i_everywhere i_again0 i_d0 i_never i_firstCame i_longRun i_moved i_crowd i_l0 i_fitMany i_fitLeast i_fitMost m_fitPost m_fitEnd m_keptPosts i_x0], [zAr T 0 m_all 3952 g_all_24]]) (br := [[zAr T 0 m_read 121 (upd (upd (upd (upd f_read y_54.toNatClampNeg y_17) y_55.toNatClampNeg r_34) y_56.toNatClampNeg (-1)) 0 y_58)]]) (As := []) (rest := []) C G (c_fm_endsLine l T mo m_all m_has i_size j_next_18 j_where_19 j_token_20 j_number_21 j_word_22 j_wrong_23 i_farCrossing m_read i_z0 i_crossings i_inns m_posts m_shut m_here i_steps i_done i_at i_gone m_was m_came m_seenAt m_rowWorth m_farBy m_used i_everywhere i_again0 i_d0 i_never i_firstCame i_longRun i_moved i_crowd i_l0 i_fitMany i_fitLeast i_fitMost m_fitPost m_fitEnd m_keptPosts i_x0 g_all_24 k n ((pNum k 0 6 b).2) (by first | with_reducible assumption | with_reducible rfl | omega | assumption | rfl) (by first | with_reducible assumption | with_reducible rfl | omega | assumption | rfl) (by first | with_reducible assumption | with_reducible rfl | omega | assumption | rfl) h_32) (kV_RX12_140 C.2.2.2.2 (Nat.le_of_ble_eq_true rfl) (Nat.le_of_ble_eq_true rfl)) [1, 2] [1, 0] rfl rfl (ci := 11) (qc := (RX12, TX12, 43)) rfl rfl (List.mem_flatten.mpr ⟨_, List.mem_of_getElem? (i := 0) rfl, List.mem_cons_self⟩) rfl rfl hl.1 dX12_dayLine_127 (Nat.le_of_ble_eq_true rfl) (Nat.le_of_ble_eq_true rfl) (fun b1 H locs hw G => ?_)
        refine zEx7 hw ?_
        intro j_next_59 j_where_60 j_token_61 j_number_62 j_word_63 j_wrong_64 g_all_65
        refine zCu7 ?_
        intro hbs9 h_66 h_67 h_68 h_69 h_70 h_71
        clear hw
        subst hbs9
        have G : zS T A s.heap s [[zAr T 0 m_read 121 (upd (upd (upd (upd f_read y_54.toNatClampNeg y_17) y_55.toNatClampNeg r_34) y_56.toNatClampNeg (-1)) 0 y_58)], [zO11 mo m_all m_has i_size j_next_59 j_where_60 j_token_61 j_number_62 j_word_63 j_wrong_64 i_farCrossing m_read i_z0 i_crossings i_inns m_posts m_shut m_here i_steps i_done i_at i_gone m_was m_came m_seenAt m_rowWorth m_farBy m_used i_everywhere i_again0 i_d0 i_never i_firstCame i_longRun i_moved i_crowd i_l0 i_fitMany i_fitLeast i_fitMost m_fitPost m_fitEnd m_keptPosts i_x0], [zAr T 0 m_all 3952 g_all_65]] _ _ := G
        have G := G.sub (bs' := [[zO11 mo m_all m_has i_size j_next_59 j_where_60 j_token_61 j_number_62 j_word_63 j_wrong_64 i_farCrossing m_read i_z0 i_crossings i_inns m_posts m_shut m_here i_steps i_done i_at i_gone m_was m_came m_seenAt m_rowWorth m_farBy m_used i_everywhere i_again0 i_d0 i_never i_firstCame i_longRun i_moved i_crowd i_l0 i_fitMany i_fitLeast i_fitMost m_fitPost m_fitEnd m_keptPosts i_x0], [zAr T 0 m_all 3952 g_all_65], [zAr T 0 m_read 121 (upd (upd (upd (upd f_read y_54.toNatClampNeg y_17) y_55.toNatClampNeg r_34) y_56.toNatClampNeg (-1)) 0 y_58)]]) [1, 2, 0] rfl
        exact z_back hQ9 (z_vret C hr hlocks G (Nat.le_of_ble_eq_true rfl) (Nat.le_of_ble_eq_true rfl) dX12_dayLine_130 ⟨j_next_59, j_where_60, j_token_61, j_number_62, j_word_63, j_wrong_64, g_all_65, (upd (upd (upd (upd f_read y_54.toNatClampNeg y_17) y_55.toNatClampNeg r_34) y_56.toNatClampNeg (-1)) 0 y_58), rfl, (by first | with_reducible assumption | omega | trivial | assumption), (by first | with_reducible assumption | omega | trivial | assumption), (by first | with_reducible assumption | omega | trivial | assumption), (by first | with_reducible assumption | omega | trivial | assumption), (hpgb.tr (h_29.tr h_70)), (zCF_upd (k := 0) (v := y_58) (zCF_upd (k := y_56.toNatClampNeg) (v := (-1)) (zCF_upd (k := y_55.toNatClampNeg) (v := r_34) (zCF_upd (k := y_54.toNatClampNeg) (v := y_17) (by assumption) (by have q9 := z_clI (x := y_54) (by omega); omega)) (by have q9 := z_clI (x := y_55) (by omega); omega)) (by have q9 := z_clI (x := y_56) (by omega); have t9 : ((-1) : Int32).toInt = -1 := rfl; omega)) (by omega)), (by unfold pDay; rw [hd]; show zRr _ _ _ _ _ _ _ _ _ _ _ (pEndL k (pDeed k d1 (nI (pWh k a.1)) d2 f_read).1); rw [← t2, pDeed_1 hbq, pDY_lo (by omega)]; exact h_71), (by unfold pDay; rw [hd]; show _ = (pDeed k d1 (nI (pWh k a.1)) d2 f_read).2; rw [← t2]; unfold pDeed; rw [← hbq]; rw [if_pos (by omega)]; have hy2 : (pDY k d1 (pNum k 0 6 b).2).1 = -1 := (congrArg Prod.fst (pDY_lo (by omega))); have qy_56 := z_clI (x := y_56) (by omega); have qy_55 := z_clI (x := y_55) (by omega); have qy_54 := z_clI (x := y_54) (by omega); rw [hy2, ← h_33, show y_56.toNatClampNeg = 3 + 3 * (f_read 0).toInt.toNat by omega, show y_55.toNatClampNeg = 2 + 3 * (f_read 0).toInt.toNat by omega, show y_54.toNatClampNeg = 1 + 3 * (f_read 0).toInt.toNat by omega, ey_58, ey_17, hvd])⟩)
    · have c_35n : ¬ y_17.toInt ≤ (3 : Int) := fun q => c_35 ((fa_le _ _).mpr q)
      refine lv_aload_n hx hb dX12_dayLine_52 rfl (lv_at hl 3 rfl) ?_
      refine lv_iconst (v := 0) hx hb dX12_dayLine_53 (by decide) ?_
      refine lv_iconst (v := 3) hx hb dX12_dayLine_54 (by decide) ?_
      refine z_Vi (bc := [[zO11 mo m_all m_has i_size j_next_18 j_where_19 j_token_20 j_number_21 j_word_22 j_wrong_23 i_farCrossing m_read i_z0 i_crossings i_inns m_posts m_shut m_here i_steps i_done i_at i_gone m_was m_came m_seenAt m_rowWorth m_farBy m_used i_everywhere i_again0 i_d0 i_never i_firstCame i_longRun i_moved i_crowd i_l0 i_fitMany i_fitLeast i_fitMost m_fitPost m_fitEnd m_keptPosts i_x0], [zAr T 0 m_all 3952 g_all_24]]) (br := [[zAr T 0 m_read 121 f_read]]) (As := [.int 0, .int 3]) (rest := []) C G (c_fm_numbered l T mo m_all m_has i_size j_next_18 j_where_19 j_token_20 j_number_21 j_word_22 j_wrong_23 i_farCrossing m_read i_z0 i_crossings i_inns m_posts m_shut m_here i_steps i_done i_at i_gone m_was m_came m_seenAt m_rowWorth m_farBy m_used i_everywhere i_again0 i_d0 i_never i_firstCame i_longRun i_moved i_crowd i_l0 i_fitMany i_fitLeast i_fitMost m_fitPost m_fitEnd m_keptPosts i_x0 g_all_24 k n ((pNum k 0 6 b).2) 0 3 (by first | with_reducible assumption | with_reducible rfl | omega | assumption | rfl) (by first | with_reducible assumption | with_reducible rfl | omega | assumption | rfl) (by first | with_reducible assumption | with_reducible rfl | omega | assumption | rfl) (by decide) h_32) (kV_RX12_122 C.2.2.2.2 (Nat.le_of_ble_eq_true rfl) (Nat.le_of_ble_eq_true rfl)) [1, 2] [1, 0] rfl rfl (ci := 11) (qc := (RX12, TX12, 43)) rfl rfl (List.mem_flatten.mpr ⟨_, List.mem_of_getElem? (i := 0) rfl, List.mem_cons_self⟩) rfl rfl hl.1 dX12_dayLine_55 (Nat.le_of_ble_eq_true rfl) (Nat.le_of_ble_eq_true rfl) (fun r_89 b1 H locs hw G => ?_)
      refine zEx7 hw ?_
      intro j_next_73 j_where_74 j_token_75 j_number_76 j_word_77 j_wrong_78 g_all_79
      refine zCu10 ?_
      intro hbs9 h_80 h_81 h_82 h_83 h_84 h_85 h_86 h_87 h_88
      clear hw
      subst hbs9
      have G : zS T A s.heap s [[zAr T 0 m_read 121 f_read], [zO11 mo m_all m_has i_size j_next_73 j_where_74 j_token_75 j_number_76 j_word_77 j_wrong_78 i_farCrossing m_read i_z0 i_crossings i_inns m_posts m_shut m_here i_steps i_done i_at i_gone m_was m_came m_seenAt m_rowWorth m_farBy m_used i_everywhere i_again0 i_d0 i_never i_firstCame i_longRun i_moved i_crowd i_l0 i_fitMany i_fitLeast i_fitMost m_fitPost m_fitEnd m_keptPosts i_x0], [zAr T 0 m_all 3952 g_all_79]] _ _ := G
      have h_85 : (0 : Int) ≤ r_89.toInt := h_85
      have h_86 : r_89.toInt ≤ (3 : Int) := h_86
      refine lv_goto (tgt := 62) hx hb dX12_dayLine_58 (by decide) ?_
      refine lv_istore (lv' := [(4, .int r_89), (3, .int r_34), (2, .int y_17), (1, .int i_where), (0, .ref mo)]) hx hb dX12_dayLine_62 hl (by decide) rfl (fun ls hl => ?_)
      refine lv_aload_n hx hb dX12_dayLine_64 rfl (lv_at hl 4 rfl) ?_
      refine z_get C G clX12 1 rfl 10 (by decide) m_fl_RX12_17 rfl dX12_dayLine_65 ?_
      refine lv_iconst (v := 0) hx hb dX12_dayLine_68 (by decide) ?_
      refine z_ild C G 0 rfl (vp_in_nI (n := 0) (by decide) (by decide)) dX12_dayLine_69 ?_
      refine lv_topi (fun v_90 ev_90 => ?_)
      rw [show ((0 : Int32).toNatClampNeg) = 0 from rfl] at ev_90
      subst ev_90
      refine lv_bipush (v := 40) hx hb dX12_dayLine_70 (by decide) ?_
      refine lv_icmp_ge (tgt := 126) hx hb dX12_dayLine_72 (by decide) (fun c_91 => ?_) (fun c_91 => ?_)
      · have c_91n : (40 : Int) ≤ (f_read 0).toInt := (fa_le _ _).mp c_91
        refine lv_aload_n hx hb dX12_dayLine_126 rfl (lv_at hl 4 rfl) ?_
        refine z_Vv (bc := [[zO11 mo m_all m_has i_size j_next_73 j_where_74 j_token_75 j_number_76 j_word_77 j_wrong_78 i_farCrossing m_read i_z0 i_crossings i_inns m_posts m_shut m_here i_steps i_done i_at i_gone m_was m_came m_seenAt m_rowWorth m_farBy m_used i_everywhere i_again0 i_d0 i_never i_firstCame i_longRun i_moved i_crowd i_l0 i_fitMany i_fitLeast i_fitMost m_fitPost m_fitEnd m_keptPosts i_x0], [zAr T 0 m_all 3952 g_all_79]]) (br := [[zAr T 0 m_read 121 f_read]]) (As := []) (rest := []) C G (c_fm_endsLine l T mo m_all m_has i_size j_next_73 j_where_74 j_token_75 j_number_76 j_word_77 j_wrong_78 i_farCrossing m_read i_z0 i_crossings i_inns m_posts m_shut m_here i_steps i_done i_at i_gone m_was m_came m_seenAt m_rowWorth m_farBy m_used i_everywhere i_again0 i_d0 i_never i_firstCame i_longRun i_moved i_crowd i_l0 i_fitMany i_fitLeast i_fitMost m_fitPost m_fitEnd m_keptPosts i_x0 g_all_79 k n ((pNum k 0 3 (pNum k 0 6 b).2).2) (by first | with_reducible assumption | with_reducible rfl | omega | assumption | rfl) (by first | with_reducible assumption | with_reducible rfl | omega | assumption | rfl) (by first | with_reducible assumption | with_reducible rfl | omega | assumption | rfl) h_87) (kV_RX12_140 C.2.2.2.2 (Nat.le_of_ble_eq_true rfl) (Nat.le_of_ble_eq_true rfl)) [1, 2] [1, 0] rfl rfl (ci := 11) (qc := (RX12, TX12, 43)) rfl rfl (List.mem_flatten.mpr ⟨_, List.mem_of_getElem? (i := 0) rfl, List.mem_cons_self⟩) rfl rfl hl.1 dX12_dayLine_127 (Nat.le_of_ble_eq_true rfl) (Nat.le_of_ble_eq_true rfl) (fun b1 H locs hw G => ?_)
        refine zEx7 hw ?_
        intro j_next_92 j_where_93 j_token_94 j_number_95 j_word_96 j_wrong_97 g_all_98
        refine zCu7 ?_
        intro hbs9 h_99 h_100 h_101 h_102 h_103 h_104
        clear hw
        subst hbs9
        have G : zS T A s.heap s [[zAr T 0 m_read 121 f_read], [zO11 mo m_all m_has i_size j_next_92 j_where_93 j_token_94 j_number_95 j_word_96 j_wrong_97 i_farCrossing m_read i_z0 i_crossings i_inns m_posts m_shut m_here i_steps i_done i_at i_gone m_was m_came m_seenAt m_rowWorth m_farBy m_used i_everywhere i_again0 i_d0 i_never i_firstCame i_longRun i_moved i_crowd i_l0 i_fitMany i_fitLeast i_fitMost m_fitPost m_fitEnd m_keptPosts i_x0], [zAr T 0 m_all 3952 g_all_98]] _ _ := G
        have G := G.sub (bs' := [[zO11 mo m_all m_has i_size j_next_92 j_where_93 j_token_94 j_number_95 j_word_96 j_wrong_97 i_farCrossing m_read i_z0 i_crossings i_inns m_posts m_shut m_here i_steps i_done i_at i_gone m_was m_came m_seenAt m_rowWorth m_farBy m_used i_everywhere i_again0 i_d0 i_never i_firstCame i_longRun i_moved i_crowd i_l0 i_fitMany i_fitLeast i_fitMost m_fitPost m_fitEnd m_keptPosts i_x0], [zAr T 0 m_all 3952 g_all_98], [zAr T 0 m_read 121 f_read]]) [1, 2, 0] rfl
        exact z_back hQ9 (z_vret C hr hlocks G (Nat.le_of_ble_eq_true rfl) (Nat.le_of_ble_eq_true rfl) dX12_dayLine_130 ⟨j_next_92, j_where_93, j_token_94, j_number_95, j_word_96, j_wrong_97, g_all_98, f_read, rfl, (by first | with_reducible assumption | omega | trivial | assumption), (by first | with_reducible assumption | omega | trivial | assumption), (by first | with_reducible assumption | omega | trivial | assumption), (by first | with_reducible assumption | omega | trivial | assumption), (hpgb.tr (h_29.tr (h_84.tr h_103))), (by first | with_reducible assumption | omega | trivial | assumption), (by unfold pDay; rw [hd]; show zRr _ _ _ _ _ _ _ _ _ _ _ (pEndL k (pDeed k d1 (nI (pWh k a.1)) d2 f_read).1); rw [← t2, pDeed_1 hbq, pDY_hi (by omega)]; exact h_104), (by unfold pDay; rw [hd]; show _ = (pDeed k d1 (nI (pWh k a.1)) d2 f_read).2; rw [← t2]; unfold pDeed; rw [← hbq]; exact (if_neg (by omega)).symm)⟩)
      · have c_91n : ¬ (40 : Int) ≤ (f_read 0).toInt := fun q => c_91 ((fa_le _ _).mpr q)
        refine lv_iconst (v := 1) hx hb dX12_dayLine_75 (by decide) ?_
        refine lv_iconst (v := 3) hx hb dX12_dayLine_76 (by decide) ?_
        refine lv_aload_n hx hb dX12_dayLine_77 rfl (lv_at hl 4 rfl) ?_
        refine z_get C G clX12 1 rfl 10 (by decide) m_fl_RX12_17 rfl dX12_dayLine_78 ?_
        refine lv_iconst (v := 0) hx hb dX12_dayLine_81 (by decide) ?_
        refine z_ild C G 0 rfl (vp_in_nI (n := 0) (by decide) (by decide)) dX12_dayLine_82 ?_
        refine lv_topi (fun v_106 ev_106 => ?_)
        rw [show ((0 : Int32).toNatClampNeg) = 0 from rfl] at ev_106
        subst ev_106
        refine lv_imul hx hb dX12_dayLine_83 ?_
        refine lv_topi (fun y_107 ey_107 => ?_)
        have ey_107i : y_107.toInt = (3 : Int) * (f_read 0).toInt := by rw [ey_107]; exact z_imulI (x := (3 : Int32)) (y := (f_read 0)) (by show -2147483648 ≤ (3 : Int) * (f_read 0).toInt; omega) (by show (3 : Int) * (f_read 0).toInt < 2147483648; omega)
        refine lv_iadd hx hb dX12_dayLine_84 ?_
        refine lv_topi (fun y_108 ey_108 => ?_)
        have ey_108i : y_108.toInt = (1 : Int) + y_107.toInt := by rw [ey_108]; exact z_iaddI (x := (1 : Int32)) (y := y_107) (by show -2147483648 ≤ (1 : Int) + y_107.toInt; omega) (by show (1 : Int) + y_107.toInt < 2147483648; omega)
        refine lv_istore (lv' := [(5, .int y_108), (4, .int r_89), (3, .int r_34), (2, .int y_17), (1, .int i_where), (0, .ref mo)]) hx hb dX12_dayLine_85 hl (by decide) rfl (fun ls hl => ?_)
        refine lv_aload_n hx hb dX12_dayLine_87 rfl (lv_at hl 5 rfl) ?_
        refine z_get C G clX12 1 rfl 10 (by decide) m_fl_RX12_17 rfl dX12_dayLine_88 ?_
        refine lv_iload hx hb dX12_dayLine_91 (lv_at hl 0 rfl) ?_
        refine lv_iload_n hx hb dX12_dayLine_93 rfl (lv_at hl 3 rfl) ?_
        refine z_ist C G 0 rfl (vp_in_iff.mpr ⟨by omega, by omega⟩) dX12_dayLine_94 (fun H locs G => ?_)
        have G : zS T A s.heap s [[zAr T 0 m_read 121 (upd f_read y_108.toNatClampNeg y_17)], [zO11 mo m_all m_has i_size j_next_73 j_where_74 j_token_75 j_number_76 j_word_77 j_wrong_78 i_farCrossing m_read i_z0 i_crossings i_inns m_posts m_shut m_here i_steps i_done i_at i_gone m_was m_came m_seenAt m_rowWorth m_farBy m_used i_everywhere i_again0 i_d0 i_never i_firstCame i_longRun i_moved i_crowd i_l0 i_fitMany i_fitLeast i_fitMost m_fitPost m_fitEnd m_keptPosts i_x0], [zAr T 0 m_all 3952 g_all_79]] _ _ := G
        refine lv_aload_n hx hb dX12_dayLine_95 rfl (lv_at hl 5 rfl) ?_
        refine z_get C G clX12 1 rfl 10 (by decide) m_fl_RX12_17 rfl dX12_dayLine_96 ?_
        refine lv_iload hx hb dX12_dayLine_99 (lv_at hl 0 rfl) ?_
        refine lv_iconst (v := 1) hx hb dX12_dayLine_101 (by decide) ?_
        refine lv_iadd hx hb dX12_dayLine_102 ?_
        refine lv_topi (fun y_109 ey_109 => ?_)
        have ey_109i : y_109.toInt = y_108.toInt + (1 : Int) := by rw [ey_109]; exact z_iaddI (x := y_108) (y := (1 : Int32)) (by show -2147483648 ≤ y_108.toInt + (1 : Int); omega) (by show y_108.toInt + (1 : Int) < 2147483648; omega)
        refine lv_iload_n hx hb dX12_dayLine_103 rfl (lv_at hl 2 rfl) ?_
        refine z_ist C G 0 rfl (vp_in_iff.mpr ⟨by omega, by omega⟩) dX12_dayLine_104 (fun H locs G => ?_)
        have G : zS T A s.heap s [[zAr T 0 m_read 121 (upd (upd f_read y_108.toNatClampNeg y_17) y_109.toNatClampNeg r_34)], [zO11 mo m_all m_has i_size j_next_73 j_where_74 j_token_75 j_number_76 j_word_77 j_wrong_78 i_farCrossing m_read i_z0 i_crossings i_inns m_posts m_shut m_here i_steps i_done i_at i_gone m_was m_came m_seenAt m_rowWorth m_farBy m_used i_everywhere i_again0 i_d0 i_never i_firstCame i_longRun i_moved i_crowd i_l0 i_fitMany i_fitLeast i_fitMost m_fitPost m_fitEnd m_keptPosts i_x0], [zAr T 0 m_all 3952 g_all_79]] _ _ := G
        refine lv_aload_n hx hb dX12_dayLine_105 rfl (lv_at hl 5 rfl) ?_
        refine z_get C G clX12 1 rfl 10 (by decide) m_fl_RX12_17 rfl dX12_dayLine_106 ?_
        refine lv_iload hx hb dX12_dayLine_109 (lv_at hl 0 rfl) ?_
        refine lv_iconst (v := 2) hx hb dX12_dayLine_111 (by decide) ?_
        refine lv_iadd hx hb dX12_dayLine_112 ?_
        refine lv_topi (fun y_110 ey_110 => ?_)
        have ey_110i : y_110.toInt = y_108.toInt + (2 : Int) := by rw [ey_110]; exact z_iaddI (x := y_108) (y := (2 : Int32)) (by show -2147483648 ≤ y_108.toInt + (2 : Int); omega) (by show y_108.toInt + (2 : Int) < 2147483648; omega)
        refine lv_iload hx hb dX12_dayLine_113 (lv_at hl 1 rfl) ?_
        refine z_ist C G 0 rfl (vp_in_iff.mpr ⟨by omega, by omega⟩) dX12_dayLine_115 (fun H locs G => ?_)
        have G : zS T A s.heap s [[zAr T 0 m_read 121 (upd (upd (upd f_read y_108.toNatClampNeg y_17) y_109.toNatClampNeg r_34) y_110.toNatClampNeg r_89)], [zO11 mo m_all m_has i_size j_next_73 j_where_74 j_token_75 j_number_76 j_word_77 j_wrong_78 i_farCrossing m_read i_z0 i_crossings i_inns m_posts m_shut m_here i_steps i_done i_at i_gone m_was m_came m_seenAt m_rowWorth m_farBy m_used i_everywhere i_again0 i_d0 i_never i_firstCame i_longRun i_moved i_crowd i_l0 i_fitMany i_fitLeast i_fitMost m_fitPost m_fitEnd m_keptPosts i_x0], [zAr T 0 m_all 3952 g_all_79]] _ _ := G
        refine lv_aload_n hx hb dX12_dayLine_116 rfl (lv_at hl 5 rfl) ?_
        refine z_get C G clX12 1 rfl 10 (by decide) m_fl_RX12_17 rfl dX12_dayLine_117 ?_
        refine lv_iconst (v := 0) hx hb dX12_dayLine_120 (by decide) ?_
        refine lv_dup2_11 hx hb dX12_dayLine_121 rfl rfl ?_
        refine z_ild C G 0 rfl (vp_in_nI (n := 0) (by decide) (by decide)) dX12_dayLine_122 ?_
        refine lv_topi (fun v_111 ev_111 => ?_)
        rw [show ((0 : Int32).toNatClampNeg) = 0 from rfl] at ev_111
        subst ev_111
        refine lv_iconst (v := 1) hx hb dX12_dayLine_123 (by decide) ?_
        have hcl_y_110 := z_clI (x := y_110) (by omega)
        have hcl_y_109 := z_clI (x := y_109) (by omega)
        have hcl_y_108 := z_clI (x := y_108) (by omega)
        rw [show (upd (upd (upd f_read y_108.toNatClampNeg y_17) y_109.toNatClampNeg r_34) y_110.toNatClampNeg r_89) 0 = f_read 0 from by unfold upd; rw [if_neg (by omega), if_neg (by omega), if_neg (by omega)]]
        refine lv_iadd hx hb dX12_dayLine_124 ?_
        refine lv_topi (fun y_112 ey_112 => ?_)
        have ey_112i : y_112.toInt = (f_read 0).toInt + (1 : Int) := by rw [ey_112]; exact z_iaddI (x := (f_read 0)) (y := (1 : Int32)) (by show -2147483648 ≤ (f_read 0).toInt + (1 : Int); omega) (by show (f_read 0).toInt + (1 : Int) < 2147483648; omega)
        refine z_ist C G 0 rfl (vp_in_nI (n := 0) (by decide) (by decide)) dX12_dayLine_125 (fun H locs G => ?_)
        have G : zS T A s.heap s [[zAr T 0 m_read 121 (upd (upd (upd (upd f_read y_108.toNatClampNeg y_17) y_109.toNatClampNeg r_34) y_110.toNatClampNeg r_89) 0 y_112)], [zO11 mo m_all m_has i_size j_next_73 j_where_74 j_token_75 j_number_76 j_word_77 j_wrong_78 i_farCrossing m_read i_z0 i_crossings i_inns m_posts m_shut m_here i_steps i_done i_at i_gone m_was m_came m_seenAt m_rowWorth m_farBy m_used i_everywhere i_again0 i_d0 i_never i_firstCame i_longRun i_moved i_crowd i_l0 i_fitMany i_fitLeast i_fitMost m_fitPost m_fitEnd m_keptPosts i_x0], [zAr T 0 m_all 3952 g_all_79]] _ _ := G
        refine lv_aload_n hx hb dX12_dayLine_126 rfl (lv_at hl 5 rfl) ?_
        refine z_Vv (bc := [[zO11 mo m_all m_has i_size j_next_73 j_where_74 j_token_75 j_number_76 j_word_77 j_wrong_78 i_farCrossing m_read i_z0 i_crossings i_inns m_posts m_shut m_here i_steps i_done i_at i_gone m_was m_came m_seenAt m_rowWorth m_farBy m_used i_everywhere i_again0 i_d0 i_never i_firstCame i_longRun i_moved i_crowd i_l0 i_fitMany i_fitLeast i_fitMost m_fitPost m_fitEnd m_keptPosts i_x0], [zAr T 0 m_all 3952 g_all_79]]) (br := [[zAr T 0 m_read 121 (upd (upd (upd (upd f_read y_108.toNatClampNeg y_17) y_109.toNatClampNeg r_34) y_110.toNatClampNeg r_89) 0 y_112)]]) (As := []) (rest := []) C G (c_fm_endsLine l T mo m_all m_has i_size j_next_73 j_where_74 j_token_75 j_number_76 j_word_77 j_wrong_78 i_farCrossing m_read i_z0 i_crossings i_inns m_posts m_shut m_here i_steps i_done i_at i_gone m_was m_came m_seenAt m_rowWorth m_farBy m_used i_everywhere i_again0 i_d0 i_never i_firstCame i_longRun i_moved i_crowd i_l0 i_fitMany i_fitLeast i_fitMost m_fitPost m_fitEnd m_keptPosts i_x0 g_all_79 k n ((pNum k 0 3 (pNum k 0 6 b).2).2) (by first | with_reducible assumption | with_reducible rfl | omega | assumption | rfl) (by first | with_reducible assumption | with_reducible rfl | omega | assumption | rfl) (by first | with_reducible assumption | with_reducible rfl | omega | assumption | rfl) h_87) (kV_RX12_140 C.2.2.2.2 (Nat.le_of_ble_eq_true rfl) (Nat.le_of_ble_eq_true rfl)) [1, 2] [1, 0] rfl rfl (ci := 11) (qc := (RX12, TX12, 43)) rfl rfl (List.mem_flatten.mpr ⟨_, List.mem_of_getElem? (i := 0) rfl, List.mem_cons_self⟩) rfl rfl hl.1 dX12_dayLine_127 (Nat.le_of_ble_eq_true rfl) (Nat.le_of_ble_eq_true rfl) (fun b1 H locs hw G => ?_)
        refine zEx7 hw ?_
        intro j_next_113 j_where_114 j_token_115 j_number_116 j_word_117 j_wrong_118 g_all_119
        refine zCu7 ?_
        intro hbs9 h_120 h_121 h_122 h_123 h_124 h_125
        clear hw
        subst hbs9
        have G : zS T A s.heap s [[zAr T 0 m_read 121 (upd (upd (upd (upd f_read y_108.toNatClampNeg y_17) y_109.toNatClampNeg r_34) y_110.toNatClampNeg r_89) 0 y_112)], [zO11 mo m_all m_has i_size j_next_113 j_where_114 j_token_115 j_number_116 j_word_117 j_wrong_118 i_farCrossing m_read i_z0 i_crossings i_inns m_posts m_shut m_here i_steps i_done i_at i_gone m_was m_came m_seenAt m_rowWorth m_farBy m_used i_everywhere i_again0 i_d0 i_never i_firstCame i_longRun i_moved i_crowd i_l0 i_fitMany i_fitLeast i_fitMost m_fitPost m_fitEnd m_keptPosts i_x0], [zAr T 0 m_all 3952 g_all_119]] _ _ := G
        have G := G.sub (bs' := [[zO11 mo m_all m_has i_size j_next_113 j_where_114 j_token_115 j_number_116 j_word_117 j_wrong_118 i_farCrossing m_read i_z0 i_crossings i_inns m_posts m_shut m_here i_steps i_done i_at i_gone m_was m_came m_seenAt m_rowWorth m_farBy m_used i_everywhere i_again0 i_d0 i_never i_firstCame i_longRun i_moved i_crowd i_l0 i_fitMany i_fitLeast i_fitMost m_fitPost m_fitEnd m_keptPosts i_x0], [zAr T 0 m_all 3952 g_all_119], [zAr T 0 m_read 121 (upd (upd (upd (upd f_read y_108.toNatClampNeg y_17) y_109.toNatClampNeg r_34) y_110.toNatClampNeg r_89) 0 y_112)]]) [1, 2, 0] rfl
        exact z_back hQ9 (z_vret C hr hlocks G (Nat.le_of_ble_eq_true rfl) (Nat.le_of_ble_eq_true rfl) dX12_dayLine_130 ⟨j_next_113, j_where_114, j_token_115, j_number_116, j_word_117, j_wrong_118, g_all_119, (upd (upd (upd (upd f_read y_108.toNatClampNeg y_17) y_109.toNatClampNeg r_34) y_110.toNatClampNeg r_89) 0 y_112), rfl, (by first | with_reducible assumption | omega | trivial | assumption), (by first | with_reducible assumption | omega | trivial | assumption), (by first | with_reducible assumption | omega | trivial | assumption), (by first | with_reducible assumption | omega | trivial | assumption), (hpgb.tr (h_29.tr (h_84.tr h_124))), (zCF_upd (k := 0) (v := y_112) (zCF_upd (k := y_110.toNatClampNeg) (v := r_89) (zCF_upd (k := y_109.toNatClampNeg) (v := r_34) (zCF_upd (k := y_108.toNatClampNeg) (v := y_17) (by assumption) (by have q9 := z_clI (x := y_108) (by omega); omega)) (by have q9 := z_clI (x := y_109) (by omega); omega)) (by have q9 := z_clI (x := y_110) (by omega); omega)) (by omega)), (by unfold pDay; rw [hd]; show zRr _ _ _ _ _ _ _ _ _ _ _ (pEndL k (pDeed k d1 (nI (pWh k a.1)) d2 f_read).1); rw [← t2, pDeed_1 hbq, pDY_hi (by omega)]; exact h_125), (by unfold pDay; rw [hd]; show _ = (pDeed k d1 (nI (pWh k a.1)) d2 f_read).2; rw [← t2]; unfold pDeed; rw [← hbq]; rw [if_pos (by omega)]; have hy2 : (pDY k d1 (pNum k 0 6 b).2).1 = r_89 := (congrArg Prod.fst (pDY_hi (by omega))).trans h_88.symm; have qy_110 := z_clI (x := y_110) (by omega); have qy_109 := z_clI (x := y_109) (by omega); have qy_108 := z_clI (x := y_108) (by omega); rw [hy2, ← h_33, show y_110.toNatClampNeg = 3 + 3 * (f_read 0).toInt.toNat by omega, show y_109.toNatClampNeg = 2 + 3 * (f_read 0).toInt.toNat by omega, show y_108.toNatClampNeg = 1 + 3 * (f_read 0).toInt.toNat by omega, ey_112, ey_17, hvd])⟩)
  refine lv_aload_n hx hb dX12_dayLine_15 rfl (lv_at hl 2 rfl) ?_
  refine z_get C G clX12 1 rfl 8 (by decide) m_fl_RX12_104 rfl dX12_dayLine_16 ?_
  refine lv_if_ne (tgt := 39) hx hb dX12_dayLine_19 (by decide) (fun c_127 => ?_) (fun c_127 => ?_)
  · have c_127n : ¬ j_wrong_6.toInt = (0 : Int) := fun q => c_127 ((fa_eq _ _).mpr q)
    obtain ⟨b, hbq⟩ : ∃ b, b = pDB 40 i_where f_read d2 := ⟨_, rfl⟩
    have hRb : zRr k n i_size j_next_1 j_where_2 j_token_3 j_number_4 j_word_5 j_wrong_6 i_farCrossing g_all_7 b := by rw [hbq]; first | (rw [pDB_b (by rw [← hA6D]; omega)]; exact hRd) | (unfold pDB; rw [if_neg (by omega)]; exact hRd)
    exact jn_39 g_all_7 b (show b = pDB 40 i_where f_read d2 ∧ zRr k n i_size j_next_1 j_where_2 j_token_3 j_number_4 j_word_5 j_wrong_6 i_farCrossing g_all_7 b ∧ zPal f_all g_all_7 from ⟨hbq, hRb, h_12⟩) _ _ ls G (lv_sub hl [0, 1, 2] rfl)
  · have c_127n : j_wrong_6.toInt = (0 : Int) := (fa_eq _ _).mp c_127
    refine lv_aload_n hx hb dX12_dayLine_22 rfl (lv_at hl 2 rfl) ?_
    refine z_get C G clX12 1 rfl 10 (by decide) m_fl_RX12_17 rfl dX12_dayLine_23 ?_
    refine lv_iconst (v := 0) hx hb dX12_dayLine_26 (by decide) ?_
    refine z_ild C G 0 rfl (vp_in_nI (n := 0) (by decide) (by decide)) dX12_dayLine_27 ?_
    refine lv_topi (fun v_128 ev_128 => ?_)
    rw [show ((0 : Int32).toNatClampNeg) = 0 from rfl] at ev_128
    subst ev_128
    refine lv_bipush (v := 40) hx hb dX12_dayLine_28 (by decide) ?_
    refine lv_icmp_lt (tgt := 39) hx hb dX12_dayLine_30 (by decide) (fun c_129 => ?_) (fun c_129 => ?_)
    · have c_129n : (f_read 0).toInt < (40 : Int) := (fa_lt _ _).mp c_129
      obtain ⟨b, hbq⟩ : ∃ b, b = pDB 40 i_where f_read d2 := ⟨_, rfl⟩
      have hRb : zRr k n i_size j_next_1 j_where_2 j_token_3 j_number_4 j_word_5 j_wrong_6 i_farCrossing g_all_7 b := by rw [hbq]; first | (rw [pDB_b (by rw [← hA6D]; omega)]; exact hRd) | (unfold pDB; rw [if_neg (by omega)]; exact hRd)
      exact jn_39 g_all_7 b (show b = pDB 40 i_where f_read d2 ∧ zRr k n i_size j_next_1 j_where_2 j_token_3 j_number_4 j_word_5 j_wrong_6 i_farCrossing g_all_7 b ∧ zPal f_all g_all_7 from ⟨hbq, hRb, h_12⟩) _ _ ls G (lv_sub hl [0, 1, 2] rfl)
    · have c_129n : ¬ (f_read 0).toInt < (40 : Int) := fun q => c_129 ((fa_lt _ _).mpr q)
      refine lv_aload_n hx hb dX12_dayLine_33 rfl (lv_at hl 2 rfl) ?_
      refine lv_iconst (v := 3) hx hb dX12_dayLine_34 (by decide) ?_
      refine lv_iload_n hx hb dX12_dayLine_35 rfl (lv_at hl 1 rfl) ?_
      refine z_Vv (bc := [[zO11 mo m_all m_has i_size j_next_1 j_where_2 j_token_3 j_number_4 j_word_5 j_wrong_6 i_farCrossing m_read i_z0 i_crossings i_inns m_posts m_shut m_here i_steps i_done i_at i_gone m_was m_came m_seenAt m_rowWorth m_farBy m_used i_everywhere i_again0 i_d0 i_never i_firstCame i_longRun i_moved i_crowd i_l0 i_fitMany i_fitLeast i_fitMost m_fitPost m_fitEnd m_keptPosts i_x0], [zAr T 0 m_all 3952 g_all_7]]) (br := [[zAr T 0 m_read 121 f_read]]) (As := [.int 3, .int i_where]) (rest := []) C G (c_fm_also l T mo m_all m_has i_size j_next_1 j_where_2 j_token_3 j_number_4 j_word_5 j_wrong_6 i_farCrossing m_read i_z0 i_crossings i_inns m_posts m_shut m_here i_steps i_done i_at i_gone m_was m_came m_seenAt m_rowWorth m_farBy m_used i_everywhere i_again0 i_d0 i_never i_firstCame i_longRun i_moved i_crowd i_l0 i_fitMany i_fitLeast i_fitMost m_fitPost m_fitEnd m_keptPosts i_x0 g_all_7 3 i_where) (kV_RX12_115 C.2.2.2.2 (Nat.le_of_ble_eq_true rfl) (Nat.le_of_ble_eq_true rfl)) [1, 2] [1, 0] rfl rfl (ci := 11) (qc := (RX12, TX12, 43)) rfl rfl (List.mem_flatten.mpr ⟨_, List.mem_of_getElem? (i := 0) rfl, List.mem_cons_self⟩) rfl rfl hl.1 dX12_dayLine_36 (Nat.le_of_ble_eq_true rfl) (Nat.le_of_ble_eq_true rfl) (fun b1 H locs hw G => ?_)
      refine zEx1 hw ?_
      intro g_all_130
      refine zCu3 ?_
      intro hbs9 h_131 h_132
      clear hw
      subst hbs9
      have G : zS T A s.heap s [[zAr T 0 m_read 121 f_read], [zO11 mo m_all m_has i_size j_next_1 j_where_2 j_token_3 j_number_4 j_word_5 j_wrong_6 i_farCrossing m_read i_z0 i_crossings i_inns m_posts m_shut m_here i_steps i_done i_at i_gone m_was m_came m_seenAt m_rowWorth m_farBy m_used i_everywhere i_again0 i_d0 i_never i_firstCame i_longRun i_moved i_crowd i_l0 i_fitMany i_fitLeast i_fitMost m_fitPost m_fitEnd m_keptPosts i_x0], [zAr T 0 m_all 3952 g_all_130]] _ _ := G
      have h_132 : g_all_130 = (if ¬ j_wrong_6.toInt = 0 ∨ (¬ (g_all_7 5).toInt = 0 ∧ ((g_all_7 6).toInt < i_where.toInt ∨ ((g_all_7 6).toInt = i_where.toInt ∧ (g_all_7 5).toInt ≤ (3 : Int)))) then g_all_7 else upd (upd g_all_7 5 3) 6 i_where) := h_132
      obtain ⟨b, hbq⟩ : ∃ b, b = pDB 40 i_where f_read d2 := ⟨_, rfl⟩
      have hRb : zRr k n i_size j_next_1 j_where_2 j_token_3 j_number_4 j_word_5 j_wrong_6 i_farCrossing g_all_130 b := by rw [hbq]; unfold pDB; rw [if_pos (by omega)]; exact zRr_also (kd := 3) (w := i_where) hRd h_132
      exact jn_39 g_all_130 b (show b = pDB 40 i_where f_read d2 ∧ zRr k n i_size j_next_1 j_where_2 j_token_3 j_number_4 j_word_5 j_wrong_6 i_farCrossing g_all_130 b ∧ zPal f_all g_all_130 from ⟨hbq, hRb, (h_12.tr h_131)⟩) _ _ ls G (lv_sub hl [0, 1, 2] rfl)

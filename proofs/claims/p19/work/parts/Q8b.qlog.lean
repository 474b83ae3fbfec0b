set_option maxHeartbeats 4000000 in
set_option maxRecDepth 100000 in
/-- c_fm_logLine -/
theorem c_fm_logLine (l : Launch) (T : zTy) (mo : Nat) (m_all : Nat) (m_has : Nat) (i_size : Int32) (i_next : Int32) (i_where : Int32) (i_token : Int32) (i_number : Int32) (i_word : Int32) (i_wrong : Int32) (i_farCrossing : Int32) (m_read : Nat) (i_z0 : Int32) (i_crossings : Int32) (i_inns : Int32) (m_posts : Nat) (m_shut : Nat) (m_here : Nat) (i_steps : Int32) (i_done : Int32) (i_at : Int32) (i_gone : Int32) (m_was : Nat) (m_came : Nat) (m_seenAt : Nat) (m_rowWorth : Nat) (m_farBy : Nat) (m_used : Nat) (i_everywhere : Int32) (i_again0 : Int32) (i_d0 : Int32) (i_never : Int32) (i_firstCame : Int32) (i_longRun : Int32) (i_moved : Int32) (i_crowd : Int32) (i_l0 : Int32) (i_fitMany : Int32) (i_fitLeast : Int32) (i_fitMost : Int32) (m_fitPost : Nat) (m_fitEnd : Nat) (m_keptPosts : Nat) (i_x0 : Int32) (f_all : Nat → Int32) (f_read : Nat → Int32) (k : pT) (n : Nat) (a : pS) (hsz : i_size.toInt ≤ 600) (hn0 : 0 ≤ i_next.toInt) (hns : i_next.toInt ≤ i_size.toInt) (hR : zCF 8 f_read) (hA : zRr k n i_size i_next i_where i_token i_number i_word i_wrong i_farCrossing f_all a) (hw : a.2.1.toInt = 0) : zMv l T yX12_logLine cX12_logLine 5 6 0 0 [.ref mo] [[zO11 mo m_all m_has i_size i_next i_where i_token i_number i_word i_wrong i_farCrossing m_read i_z0 i_crossings i_inns m_posts m_shut m_here i_steps i_done i_at i_gone m_was m_came m_seenAt m_rowWorth m_farBy m_used i_everywhere i_again0 i_d0 i_never i_firstCame i_longRun i_moved i_crowd i_l0 i_fitMany i_fitLeast i_fitMost m_fitPost m_fitEnd m_keptPosts i_x0], [zAr T 0 m_all 3952 f_all], [zAr T 0 m_read 121 f_read]] (fun bs => ∃ (j_next : Int32) (j_where : Int32) (j_token : Int32) (j_number : Int32) (j_word : Int32) (j_wrong : Int32) (g_all : Nat → Int32) (g_read : Nat → Int32), bs = [[zO11 mo m_all m_has i_size j_next j_where j_token j_number j_word j_wrong i_farCrossing m_read i_z0 i_crossings i_inns m_posts m_shut m_here i_steps i_done i_at i_gone m_was m_came m_seenAt m_rowWorth m_farBy m_used i_everywhere i_again0 i_d0 i_never i_firstCame i_longRun i_moved i_crowd i_l0 i_fitMany i_fitLeast i_fitMost m_fitPost m_fitEnd m_keptPosts i_x0], [zAr T 0 m_all 3952 g_all], [zAr T 0 m_read 121 g_read]] ∧ 0 ≤ j_next.toInt ∧ j_next.toInt ≤ i_size.toInt ∧ i_next.toInt ≤ j_next.toInt ∧ (¬ j_wrong.toInt = 0 ∨ i_next.toInt < j_next.toInt ∨ j_token.toInt = 0) ∧ zPal f_all g_all ∧ zCF 8 g_read ∧ zRr k n i_size j_next j_where j_token j_number j_word j_wrong i_farCrossing g_all (pLog k a f_read).1 ∧ g_read = (pLog k a f_read).2) := by
  refine zMv_of (own := RX12) (by decide) rfl (Nat.le_of_ble_eq_true rfl) ?_
  intro p e s m args below meth c A ls C hr hlocks hnm hAe G hl
  refine zHide (fun Q9 hQ9 => ?_)
  have hx := C.1
  have hb := C.2.1
  have hl : lv_has ls 5 [(0, .ref mo)] := hl
  have hok := zRr_ok hA
  refine zAn6 (id hA) ?_
  intro hA1 hA6 hA7 hA8 hA9 hA10
  replace hA7 : zHd _ := hA7
  have hka : zHd _ := hok a.1 hA1.2.2.2.2
  have hkb := hka.1
  have hkc := hka.2.1
  have hT4 := pTk_le hok hA1.2.2.2.2
  refine zAn5 (hA7 hw) ?_
  intro t1 t2 t3 t4 t5
  replace t4 : zHd _ := t4
  replace t5 : zHd _ := t5
  have t3i : i_token.toInt = (pTk k a.1 : Int) := by rw [t3]; exact nI_toInt (by omega)
  have hR0 : 0 ≤ (f_read 0).toInt ∧ (f_read 0).toInt ≤ 8 := hR
  refine lv_aload_n hx hb dX12_logLine_0 rfl (lv_at hl 0 rfl) ?_
  refine z_get C G clX12 0 rfl 4 (by decide) m_fl_RX12_77 rfl dX12_logLine_1 ?_
  refine lv_istore_n (lv' := [(1, .int i_where), (0, .ref mo)]) hx hb dX12_logLine_4 rfl hl (by decide) rfl (fun ls hl => ?_)
  refine lv_aload_n hx hb dX12_logLine_5 rfl (lv_at hl 1 rfl) ?_
  refine lv_bipush (v := 11) hx hb dX12_logLine_6 (by decide) ?_
  refine lv_bipush (v := 12) hx hb dX12_logLine_8 (by decide) ?_
  refine z_Vi (bc := [[zO11 mo m_all m_has i_size i_next i_where i_token i_number i_word i_wrong i_farCrossing m_read i_z0 i_crossings i_inns m_posts m_shut m_here i_steps i_done i_at i_gone m_was m_came m_seenAt m_rowWorth m_farBy m_used i_everywhere i_again0 i_d0 i_never i_firstCame i_longRun i_moved i_crowd i_l0 i_fitMany i_fitLeast i_fitMost m_fitPost m_fitEnd m_keptPosts i_x0], [zAr T 0 m_all 3952 f_all]]) (br := [[zAr T 0 m_read 121 f_read]]) (As := [.int 11, .int 12]) (rest := []) C G (c_fm_wordIn l T mo m_all m_has i_size i_next i_where i_token i_number i_word i_wrong i_farCrossing m_read i_z0 i_crossings i_inns m_posts m_shut m_here i_steps i_done i_at i_gone m_was m_came m_seenAt m_rowWorth m_farBy m_used i_everywhere i_again0 i_d0 i_never i_firstCame i_longRun i_moved i_crowd i_l0 i_fitMany i_fitLeast i_fitMost m_fitPost m_fitEnd m_keptPosts i_x0 f_all k n a 11 12 11 12 (by first | with_reducible assumption | with_reducible rfl | omega | assumption | rfl) (by first | with_reducible assumption | with_reducible rfl | omega | assumption | rfl) (by first | with_reducible assumption | with_reducible rfl | omega | assumption | rfl) hA rfl rfl) (kV_RX12_133 C.2.2.2.2 (Nat.le_of_ble_eq_true rfl) (Nat.le_of_ble_eq_true rfl)) [0, 1] [0, 0] rfl rfl (ci := 11) (qc := (RX12, TX12, 43)) rfl rfl (List.mem_flatten.mpr ⟨_, List.mem_of_getElem? (i := 0) rfl, List.mem_cons_self⟩) rfl rfl hl.1 dX12_logLine_10 (Nat.le_of_ble_eq_true rfl) (Nat.le_of_ble_eq_true rfl) (fun r_16 b1 H locs hw G => ?_)
  refine zEx7 hw ?_
  intro j_next_1 j_where_2 j_token_3 j_number_4 j_word_5 j_wrong_6 g_all_7
  refine zCu9 ?_
  intro hbs9 h_8 h_9 h_10 h_11 h_12 h_13 h_14 h_15
  clear hw
  subst hbs9
  have G : zS T A s.heap s [[zAr T 0 m_read 121 f_read], [zO11 mo m_all m_has i_size j_next_1 j_where_2 j_token_3 j_number_4 j_word_5 j_wrong_6 i_farCrossing m_read i_z0 i_crossings i_inns m_posts m_shut m_here i_steps i_done i_at i_gone m_was m_came m_seenAt m_rowWorth m_farBy m_used i_everywhere i_again0 i_d0 i_never i_firstCame i_longRun i_moved i_crowd i_l0 i_fitMany i_fitLeast i_fitMost m_fitPost m_fitEnd m_keptPosts i_x0], [zAr T 0 m_all 3952 g_all_7]] _ _ := G
  have h_13 : (r_16.toInt = 0 ∨ (11 : Int) ≤ r_16.toInt ∧ r_16.toInt ≤ (12 : Int)) := h_13
  obtain ⟨d1, d2, hd⟩ : ∃ (d1 : Nat) (d2 : pS), pWord k 11 12 a = (d1, d2) := ⟨_, _, rfl⟩
  have hRd : zRr k n i_size j_next_1 j_where_2 j_token_3 j_number_4 j_word_5 j_wrong_6 i_farCrossing g_all_7 d2 := by have q9 := h_14; rw [hd] at q9; exact q9
  have hvd : r_16 = nI d1 := by have q9 := h_15; rw [hd] at q9; exact q9
  have hokD := zRr_ok hRd
  refine zAn6 (id hRd) ?_
  intro hA1D hA6D hA7D hA8D hA9D hA10D
  replace hA7D : zHd _ := hA7D
  have hkaD : zHd _ := hokD d2.1 hA1D.2.2.2.2
  have hkbD := hkaD.1
  have hkcD := hkaD.2.1
  have hT4D := pTk_le hokD hA1D.2.2.2.2
  have hdr : d2.2.1.toInt = 0 → 11 ≤ d1 ∧ d1 ≤ 12 := fun q9 => by have q8 := pWord_r (k := k) (lo := 11) (hi := 12) (a := a) (by rw [hd]; exact q9); have q6 := q8.2.2.2; rw [hd] at q6; have q7 : d1 = pWd k a.1 := congrArg Prod.fst q6; omega
  have hd4 : d1 ≤ 12 := by have q9 := pWord_1 k 11 12 a; rw [hd] at q9; exact q9
  have hdi : (r_16).toInt = (d1 : Int) := by rw [hvd]; exact nI_toInt (by omega)
  refine lv_bipush (v := 11) hx hb dX12_logLine_13 (by decide) ?_
  refine lv_icmp_ne (tgt := 22) hx hb dX12_logLine_15 (by decide) (fun c_17 => ?_) (fun c_17 => ?_)
  · have c_17n : ¬ r_16.toInt = (11 : Int) := fun q => c_17 ((fa_eq _ _).mpr q)
    refine lv_iconst (v := 0) hx hb dX12_logLine_22 (by decide) ?_
    refine lv_istore_n (lv' := [(2, .int 0), (1, .int i_where), (0, .ref mo)]) hx hb dX12_logLine_23 rfl hl (by decide) rfl (fun ls hl => ?_)
    refine zMt2 (T := T) 48 (fun (gb : Nat → Int32) (b : pS) => [[zAr T 0 m_read 121 f_read], [zO11 mo m_all m_has i_size j_next_1 j_where_2 j_token_3 j_number_4 j_word_5 j_wrong_6 i_farCrossing m_read i_z0 i_crossings i_inns m_posts m_shut m_here i_steps i_done i_at i_gone m_was m_came m_seenAt m_rowWorth m_farBy m_used i_everywhere i_again0 i_d0 i_never i_firstCame i_longRun i_moved i_crowd i_l0 i_fitMany i_fitLeast i_fitMost m_fitPost m_fitEnd m_keptPosts i_x0], [zAr T 0 m_all 3952 gb]]) (fun (gb : Nat → Int32) (b : pS) => [(2, .int 0), (1, .int i_where), (0, .ref mo)]) (fun (gb : Nat → Int32) (b : pS) => b = pDB 8 i_where f_read d2 ∧ zRr k n i_size j_next_1 j_where_2 j_token_3 j_number_4 j_word_5 j_wrong_6 i_farCrossing gb b ∧ zPal f_all gb) G hl ?_ (fun jn_48 => ?_)
    · intro gb b hI9 H locs ls G hl
      replace hI9 : b = pDB 8 i_where f_read d2 ∧ zRr k n i_size j_next_1 j_where_2 j_token_3 j_number_4 j_word_5 j_wrong_6 i_farCrossing gb b ∧ zPal f_all gb := hI9
      refine zAn3 hI9 ?_
      intro hbq hRb hpgb
      clear hI9
      replace G : zS T A s.heap s [[zAr T 0 m_read 121 f_read], [zO11 mo m_all m_has i_size j_next_1 j_where_2 j_token_3 j_number_4 j_word_5 j_wrong_6 i_farCrossing m_read i_z0 i_crossings i_inns m_posts m_shut m_here i_steps i_done i_at i_gone m_was m_came m_seenAt m_rowWorth m_farBy m_used i_everywhere i_again0 i_d0 i_never i_firstCame i_longRun i_moved i_crowd i_l0 i_fitMany i_fitLeast i_fitMost m_fitPost m_fitEnd m_keptPosts i_x0], [zAr T 0 m_all 3952 gb]] _ _ := G
      replace hl : lv_has ls 5 [(2, .int 0), (1, .int i_where), (0, .ref mo)] := hl
      refine lv_aload_n hx hb dX12_logLine_48 rfl (lv_at hl 2 rfl) ?_
      refine lv_iconst (v := 0) hx hb dX12_logLine_49 (by decide) ?_
      refine lv_bipush (v := 6) hx hb dX12_logLine_50 (by decide) ?_
      refine z_Vi (bc := [[zO11 mo m_all m_has i_size j_next_1 j_where_2 j_token_3 j_number_4 j_word_5 j_wrong_6 i_farCrossing m_read i_z0 i_crossings i_inns m_posts m_shut m_here i_steps i_done i_at i_gone m_was m_came m_seenAt m_rowWorth m_farBy m_used i_everywhere i_again0 i_d0 i_never i_firstCame i_longRun i_moved i_crowd i_l0 i_fitMany i_fitLeast i_fitMost m_fitPost m_fitEnd m_keptPosts i_x0], [zAr T 0 m_all 3952 gb]]) (br := [[zAr T 0 m_read 121 f_read]]) (As := [.int 0, .int 6]) (rest := []) C G (c_fm_numbered l T mo m_all m_has i_size j_next_1 j_where_2 j_token_3 j_number_4 j_word_5 j_wrong_6 i_farCrossing m_read i_z0 i_crossings i_inns m_posts m_shut m_here i_steps i_done i_at i_gone m_was m_came m_seenAt m_rowWorth m_farBy m_used i_everywhere i_again0 i_d0 i_never i_firstCame i_longRun i_moved i_crowd i_l0 i_fitMany i_fitLeast i_fitMost m_fitPost m_fitEnd m_keptPosts i_x0 gb k n b 0 6 (by first | with_reducible assumption | with_reducible rfl | omega | assumption | rfl) (by first | with_reducible assumption | with_reducible rfl | omega | assumption | rfl) (by first | with_reducible assumption | with_reducible rfl | omega | assumption | rfl) (by decide) hRb) (kV_RX12_122 C.2.2.2.2 (Nat.le_of_ble_eq_true rfl) (Nat.le_of_ble_eq_true rfl)) [1, 2] [1, 0] rfl rfl (ci := 11) (qc := (RX12, TX12, 43)) rfl rfl (List.mem_flatten.mpr ⟨_, List.mem_of_getElem? (i := 0) rfl, List.mem_cons_self⟩) rfl rfl hl.1 dX12_logLine_52 (Nat.le_of_ble_eq_true rfl) (Nat.le_of_ble_eq_true rfl) (fun r_34 b1 H locs hw G => ?_)
      refine zEx7 hw ?_
      intro j_next_18 j_where_19 j_token_20 j_number_21 j_word_22 j_wrong_23 g_all_24
      refine zCu10 ?_
      intro hbs9 h_25 h_26 h_27 h_28 h_29 h_30 h_31 h_32 h_33
      clear hw
      subst hbs9
      have G : zS T A s.heap s [[zAr T 0 m_read 121 f_read], [zO11 mo m_all m_has i_size j_next_18 j_where_19 j_token_20 j_number_21 j_word_22 j_wrong_23 i_farCrossing m_read i_z0 i_crossings i_inns m_posts m_shut m_here i_steps i_done i_at i_gone m_was m_came m_seenAt m_rowWorth m_farBy m_used i_everywhere i_again0 i_d0 i_never i_firstCame i_longRun i_moved i_crowd i_l0 i_fitMany i_fitLeast i_fitMost m_fitPost m_fitEnd m_keptPosts i_x0], [zAr T 0 m_all 3952 g_all_24]] _ _ := G
      have h_30 : (0 : Int) ≤ r_34.toInt := h_30
      have h_31 : r_34.toInt ≤ (6 : Int) := h_31
      refine lv_istore_n (lv' := [(3, .int r_34), (2, .int 0), (1, .int i_where), (0, .ref mo)]) hx hb dX12_logLine_55 rfl hl (by decide) rfl (fun ls hl => ?_)
      refine lv_iload_n hx hb dX12_logLine_56 rfl (lv_at hl 1 rfl) ?_
      refine lv_if_eq (tgt := 70) hx hb dX12_logLine_57 (by decide) (fun _ => ?_) (fun q => absurd (by decide) q)
      refine lv_iconst (v := (-1)) hx hb dX12_logLine_70 (by decide) ?_
      refine lv_istore (lv' := [(4, .int (-1)), (3, .int r_34), (2, .int 0), (1, .int i_where), (0, .ref mo)]) hx hb dX12_logLine_71 hl (by decide) rfl (fun ls hl => ?_)
      refine lv_aload_n hx hb dX12_logLine_73 rfl (lv_at hl 4 rfl) ?_
      refine z_get C G clX12 1 rfl 10 (by decide) m_fl_RX12_17 rfl dX12_logLine_74 ?_
      refine lv_iconst (v := 0) hx hb dX12_logLine_77 (by decide) ?_
      refine z_ild C G 0 rfl (vp_in_nI (n := 0) (by decide) (by decide)) dX12_logLine_78 ?_
      refine lv_topi (fun v_35 ev_35 => ?_)
      rw [show ((0 : Int32).toNatClampNeg) = 0 from rfl] at ev_35
      subst ev_35
      refine lv_bipush (v := 8) hx hb dX12_logLine_79 (by decide) ?_
      refine lv_icmp_ge (tgt := 127) hx hb dX12_logLine_81 (by decide) (fun c_36 => ?_) (fun c_36 => ?_)
      · have c_36n : (8 : Int) ≤ (f_read 0).toInt := (fa_le _ _).mp c_36
        refine lv_aload_n hx hb dX12_logLine_127 rfl (lv_at hl 4 rfl) ?_
        refine z_Vv (bc := [[zO11 mo m_all m_has i_size j_next_18 j_where_19 j_token_20 j_number_21 j_word_22 j_wrong_23 i_farCrossing m_read i_z0 i_crossings i_inns m_posts m_shut m_here i_steps i_done i_at i_gone m_was m_came m_seenAt m_rowWorth m_farBy m_used i_everywhere i_again0 i_d0 i_never i_firstCame i_longRun i_moved i_crowd i_l0 i_fitMany i_fitLeast i_fitMost m_fitPost m_fitEnd m_keptPosts i_x0], [zAr T 0 m_all 3952 g_all_24]]) (br := [[zAr T 0 m_read 121 f_read]]) (As := []) (rest := []) C G (c_fm_endsLine l T mo m_all m_has i_size j_next_18 j_where_19 j_token_20 j_number_21 j_word_22 j_wrong_23 i_farCrossing m_read i_z0 i_crossings i_inns m_posts m_shut m_here i_steps i_done i_at i_gone m_was m_came m_seenAt m_rowWorth m_farBy m_used i_everywhere i_again0 i_d0 i_never i_firstCame i_longRun i_moved i_crowd i_l0 i_fitMany i_fitLeast i_fitMost m_fitPost m_fitEnd m_keptPosts i_x0 g_all_24 k n ((pNum k 0 6 b).2) (by first | with_reducible assumption | with_reducible rfl | omega | assumption | rfl) (by first | with_reducible assumption | with_reducible rfl | omega | assumption | rfl) (by first | with_reducible assumption | with_reducible rfl | omega | assumption | rfl) h_32) (kV_RX12_140 C.2.2.2.2 (Nat.le_of_ble_eq_true rfl) (Nat.le_of_ble_eq_true rfl)) [1, 2] [1, 0] rfl rfl (ci := 11) (qc := (RX12, TX12, 43)) rfl rfl (List.mem_flatten.mpr ⟨_, List.mem_of_getElem? (i := 0) rfl, List.mem_cons_self⟩) rfl rfl hl.1 dX12_logLine_128 (Nat.le_of_ble_eq_true rfl) (Nat.le_of_ble_eq_true rfl) (fun b1 H locs hw G => ?_)
        refine zEx7 hw ?_
        intro j_next_37 j_where_38 j_token_39 j_number_40 j_word_41 j_wrong_42 g_all_43
        refine zCu7 ?_
        intro hbs9 h_44 h_45 h_46 h_47 h_48 h_49
        clear hw
        subst hbs9
        have G : zS T A s.heap s [[zAr T 0 m_read 121 f_read], [zO11 mo m_all m_has i_size j_next_37 j_where_38 j_token_39 j_number_40 j_word_41 j_wrong_42 i_farCrossing m_read i_z0 i_crossings i_inns m_posts m_shut m_here i_steps i_done i_at i_gone m_was m_came m_seenAt m_rowWorth m_farBy m_used i_everywhere i_again0 i_d0 i_never i_firstCame i_longRun i_moved i_crowd i_l0 i_fitMany i_fitLeast i_fitMost m_fitPost m_fitEnd m_keptPosts i_x0], [zAr T 0 m_all 3952 g_all_43]] _ _ := G
        have G := G.sub (bs' := [[zO11 mo m_all m_has i_size j_next_37 j_where_38 j_token_39 j_number_40 j_word_41 j_wrong_42 i_farCrossing m_read i_z0 i_crossings i_inns m_posts m_shut m_here i_steps i_done i_at i_gone m_was m_came m_seenAt m_rowWorth m_farBy m_used i_everywhere i_again0 i_d0 i_never i_firstCame i_longRun i_moved i_crowd i_l0 i_fitMany i_fitLeast i_fitMost m_fitPost m_fitEnd m_keptPosts i_x0], [zAr T 0 m_all 3952 g_all_43], [zAr T 0 m_read 121 f_read]]) [1, 2, 0] rfl
        exact z_back hQ9 (z_vret C hr hlocks G (Nat.le_of_ble_eq_true rfl) (Nat.le_of_ble_eq_true rfl) dX12_logLine_131 ⟨j_next_37, j_where_38, j_token_39, j_number_40, j_word_41, j_wrong_42, g_all_43, f_read, rfl, (by first | with_reducible assumption | omega | trivial | assumption), (by first | with_reducible assumption | omega | trivial | assumption), (by first | with_reducible assumption | omega | trivial | assumption), (by first | with_reducible assumption | omega | trivial | assumption), (hpgb.tr (h_29.tr h_48)), (by first | with_reducible assumption | omega | trivial | assumption), (by unfold pLog; rw [hd]; show zRr _ _ _ _ _ _ _ _ _ _ _ (pEndL k (pFact k d1 (nI (pWh k a.1)) d2 f_read).1); rw [← t2, pFact_1 hbq, pGY_lo (by omega)]; exact h_49), (by unfold pLog; rw [hd]; show _ = (pFact k d1 (nI (pWh k a.1)) d2 f_read).2; rw [← t2]; unfold pFact; rw [← hbq]; exact (if_neg (by omega)).symm)⟩)
      · have c_36n : ¬ (8 : Int) ≤ (f_read 0).toInt := fun q => c_36 ((fa_le _ _).mpr q)
        refine lv_aload_n hx hb dX12_logLine_84 rfl (lv_at hl 4 rfl) ?_
        refine z_get C G clX12 1 rfl 10 (by decide) m_fl_RX12_17 rfl dX12_logLine_85 ?_
        refine lv_iconst (v := 1) hx hb dX12_logLine_88 (by decide) ?_
        refine lv_iconst (v := 2) hx hb dX12_logLine_89 (by decide) ?_
        refine lv_aload_n hx hb dX12_logLine_90 rfl (lv_at hl 4 rfl) ?_
        refine z_get C G clX12 1 rfl 10 (by decide) m_fl_RX12_17 rfl dX12_logLine_91 ?_
        refine lv_iconst (v := 0) hx hb dX12_logLine_94 (by decide) ?_
        refine z_ild C G 0 rfl (vp_in_nI (n := 0) (by decide) (by decide)) dX12_logLine_95 ?_
        refine lv_topi (fun v_51 ev_51 => ?_)
        rw [show ((0 : Int32).toNatClampNeg) = 0 from rfl] at ev_51
        subst ev_51
        refine lv_imul hx hb dX12_logLine_96 ?_
        refine lv_topi (fun y_52 ey_52 => ?_)
        have ey_52i : y_52.toInt = (2 : Int) * (f_read 0).toInt := by rw [ey_52]; exact z_imulI (x := (2 : Int32)) (y := (f_read 0)) (by show -2147483648 ≤ (2 : Int) * (f_read 0).toInt; omega) (by show (2 : Int) * (f_read 0).toInt < 2147483648; omega)
        refine lv_iadd hx hb dX12_logLine_97 ?_
        refine lv_topi (fun y_53 ey_53 => ?_)
        have ey_53i : y_53.toInt = (1 : Int) + y_52.toInt := by rw [ey_53]; exact z_iaddI (x := (1 : Int32)) (y := y_52) (by show -2147483648 ≤ (1 : Int) + y_52.toInt; omega) (by show (1 : Int) + y_52.toInt < 2147483648; omega)
        refine lv_iload_n hx hb dX12_logLine_98 rfl (lv_at hl 1 rfl) ?_
        refine z_ist C G 0 rfl (vp_in_iff.mpr ⟨by omega, by omega⟩) dX12_logLine_99 (fun H locs G => ?_)
        have G : zS T A s.heap s [[zAr T 0 m_read 121 (upd f_read y_53.toNatClampNeg r_34)], [zO11 mo m_all m_has i_size j_next_18 j_where_19 j_token_20 j_number_21 j_word_22 j_wrong_23 i_farCrossing m_read i_z0 i_crossings i_inns m_posts m_shut m_here i_steps i_done i_at i_gone m_was m_came m_seenAt m_rowWorth m_farBy m_used i_everywhere i_again0 i_d0 i_never i_firstCame i_longRun i_moved i_crowd i_l0 i_fitMany i_fitLeast i_fitMost m_fitPost m_fitEnd m_keptPosts i_x0], [zAr T 0 m_all 3952 g_all_24]] _ _ := G
        refine lv_aload_n hx hb dX12_logLine_100 rfl (lv_at hl 4 rfl) ?_
        refine z_get C G clX12 1 rfl 10 (by decide) m_fl_RX12_17 rfl dX12_logLine_101 ?_
        refine lv_iconst (v := 2) hx hb dX12_logLine_104 (by decide) ?_
        refine lv_iconst (v := 2) hx hb dX12_logLine_105 (by decide) ?_
        refine lv_aload_n hx hb dX12_logLine_106 rfl (lv_at hl 4 rfl) ?_
        refine z_get C G clX12 1 rfl 10 (by decide) m_fl_RX12_17 rfl dX12_logLine_107 ?_
        refine lv_iconst (v := 0) hx hb dX12_logLine_110 (by decide) ?_
        refine z_ild C G 0 rfl (vp_in_nI (n := 0) (by decide) (by decide)) dX12_logLine_111 ?_
        refine lv_topi (fun v_54 ev_54 => ?_)
        rw [show ((0 : Int32).toNatClampNeg) = 0 from rfl] at ev_54
        subst ev_54
        have hcl_y_53 := z_clI (x := y_53) (by omega)
        rw [show (upd f_read y_53.toNatClampNeg r_34) 0 = f_read 0 from by unfold upd; rw [if_neg (by omega)]]
        refine lv_imul hx hb dX12_logLine_112 ?_
        refine lv_topi (fun y_55 ey_55 => ?_)
        have ey_55i : y_55.toInt = (2 : Int) * (f_read 0).toInt := by rw [ey_55]; exact z_imulI (x := (2 : Int32)) (y := (f_read 0)) (by show -2147483648 ≤ (2 : Int) * (f_read 0).toInt; omega) (by show (2 : Int) * (f_read 0).toInt < 2147483648; omega)
        refine lv_iadd hx hb dX12_logLine_113 ?_
        refine lv_topi (fun y_56 ey_56 => ?_)
        have ey_56i : y_56.toInt = (2 : Int) + y_55.toInt := by rw [ey_56]; exact z_iaddI (x := (2 : Int32)) (y := y_55) (by show -2147483648 ≤ (2 : Int) + y_55.toInt; omega) (by show (2 : Int) + y_55.toInt < 2147483648; omega)
        refine lv_iload hx hb dX12_logLine_114 (lv_at hl 0 rfl) ?_
        refine z_ist C G 0 rfl (vp_in_iff.mpr ⟨by omega, by omega⟩) dX12_logLine_116 (fun H locs G => ?_)
        have G : zS T A s.heap s [[zAr T 0 m_read 121 (upd (upd f_read y_53.toNatClampNeg r_34) y_56.toNatClampNeg (-1))], [zO11 mo m_all m_has i_size j_next_18 j_where_19 j_token_20 j_number_21 j_word_22 j_wrong_23 i_farCrossing m_read i_z0 i_crossings i_inns m_posts m_shut m_here i_steps i_done i_at i_gone m_was m_came m_seenAt m_rowWorth m_farBy m_used i_everywhere i_again0 i_d0 i_never i_firstCame i_longRun i_moved i_crowd i_l0 i_fitMany i_fitLeast i_fitMost m_fitPost m_fitEnd m_keptPosts i_x0], [zAr T 0 m_all 3952 g_all_24]] _ _ := G
        refine lv_aload_n hx hb dX12_logLine_117 rfl (lv_at hl 4 rfl) ?_
        refine z_get C G clX12 1 rfl 10 (by decide) m_fl_RX12_17 rfl dX12_logLine_118 ?_
        refine lv_iconst (v := 0) hx hb dX12_logLine_121 (by decide) ?_
        refine lv_dup2_11 hx hb dX12_logLine_122 rfl rfl ?_
        refine z_ild C G 0 rfl (vp_in_nI (n := 0) (by decide) (by decide)) dX12_logLine_123 ?_
        refine lv_topi (fun v_57 ev_57 => ?_)
        rw [show ((0 : Int32).toNatClampNeg) = 0 from rfl] at ev_57
        subst ev_57
        refine lv_iconst (v := 1) hx hb dX12_logLine_124 (by decide) ?_
        have hcl_y_56 := z_clI (x := y_56) (by omega)
        have hcl_y_53 := z_clI (x := y_53) (by omega)
        rw [show (upd (upd f_read y_53.toNatClampNeg r_34) y_56.toNatClampNeg (-1)) 0 = f_read 0 from by unfold upd; rw [if_neg (by omega), if_neg (by omega)]]
        refine lv_iadd hx hb dX12_logLine_125 ?_
        refine lv_topi (fun y_58 ey_58 => ?_)
        have ey_58i : y_58.toInt = (f_read 0).toInt + (1 : Int) := by rw [ey_58]; exact z_iaddI (x := (f_read 0)) (y := (1 : Int32)) (by show -2147483648 ≤ (f_read 0).toInt + (1 : Int); omega) (by show (f_read 0).toInt + (1 : Int) < 2147483648; omega)
        refine z_ist C G 0 rfl (vp_in_nI (n := 0) (by decide) (by decide)) dX12_logLine_126 (fun H locs G => ?_)
        have G : zS T A s.heap s [[zAr T 0 m_read 121 (upd (upd (upd f_read y_53.toNatClampNeg r_34) y_56.toNatClampNeg (-1)) 0 y_58)], [zO11 mo m_all m_has i_size j_next_18 j_where_19 j_token_20 j_number_21 j_word_22 j_wrong_23 i_farCrossing m_read i_z0 i_crossings i_inns m_posts m_shut m_here i_steps i_done i_at i_gone m_was m_came m_seenAt m_rowWorth m_farBy m_used i_everywhere i_again0 i_d0 i_never i_firstCame i_longRun i_moved i_crowd i_l0 i_fitMany i_fitLeast i_fitMost m_fitPost m_fitEnd m_keptPosts i_x0], [zAr T 0 m_all 3952 g_all_24]] _ _ := G
        refine lv_aload_n hx hb dX12_logLine_127 rfl (lv_at hl 4 rfl) ?_
        refine z_Vv (bc := [[zO11 mo m_all m_has i_size j_next_18 j_where_19 j_token_20 j_number_21 j_word_22 j_wrong_23 i_farCrossing m_read i_z0 i_crossings i_inns m_posts m_shut m_here i_steps i_done i_at i_gone m_was m_came m_seenAt m_rowWorth m_farBy m_used i_everywhere i_again0 i_d0 i_never i_firstCame i_longRun i_moved i_crowd i_l0 i_fitMany i_fitLeast i_fitMost m_fitPost m_fitEnd m_keptPosts i_x0], [zAr T 0 m_all 3952 g_all_24]]) (br := [[zAr T 0 m_read 121 (upd (upd (upd f_read y_53.toNatClampNeg r_34) y_56.toNatClampNeg (-1)) 0 y_58)]]) (As := []) (rest := []) C G (c_fm_endsLine l T mo m_all m_has i_size j_next_18 j_where_19 j_token_20 j_number_21 j_word_22 j_wrong_23 i_farCrossing m_read i_z0 i_crossings i_inns m_posts m_shut m_here i_steps i_done i_at i_gone m_was m_came m_seenAt m_rowWorth m_farBy m_used i_everywhere i_again0 i_d0 i_never i_firstCame i_longRun i_moved i_crowd i_l0 i_fitMany i_fitLeast i_fitMost m_fitPost m_fitEnd m_keptPosts i_x0 g_all_24 k n ((pNum k 0 6 b).2) (by first | with_reducible assumption | with_reducible rfl | omega | assumption | rfl) (by first | with_reducible assumption | with_reducible rfl | omega | assumption | rfl) (by first | with_reducible assumption | with_reducible rfl | omega | assumption | rfl) h_32) (kV_RX12_140 C.2.2.2.2 (Nat.le_of_ble_eq_true rfl) (Nat.le_of_ble_eq_true rfl)) [1, 2] [1, 0] rfl rfl (ci := 11) (qc := (RX12, TX12, 43)) rfl rfl (List.mem_flatten.mpr ⟨_, List.mem_of_getElem? (i := 0) rfl, List.mem_cons_self⟩) rfl rfl hl.1 dX12_logLine_128 (Nat.le_of_ble_eq_true rfl) (Nat.le_of_ble_eq_true rfl) (fun b1 H locs hw G => ?_)
        refine zEx7 hw ?_
        intro j_next_59 j_where_60 j_token_61 j_number_62 j_word_63 j_wrong_64 g_all_65
        refine zCu7 ?_
        intro hbs9 h_66 h_67 h_68 h_69 h_70 h_71
        clear hw
        subst hbs9
        have G : zS T A s.heap s [[zAr T 0 m_read 121 (upd (upd (upd f_read y_53.toNatClampNeg r_34) y_56.toNatClampNeg (-1)) 0 y_58)], [zO11 mo m_all m_has i_size j_next_59 j_where_60 j_token_61 j_number_62 j_word_63 j_wrong_64 i_farCrossing m_read i_z0 i_crossings i_inns m_posts m_shut m_here i_steps i_done i_at i_gone m_was m_came m_seenAt m_rowWorth m_farBy m_used i_everywhere i_again0 i_d0 i_never i_firstCame i_longRun i_moved i_crowd i_l0 i_fitMany i_fitLeast i_fitMost m_fitPost m_fitEnd m_keptPosts i_x0], [zAr T 0 m_all 3952 g_all_65]] _ _ := G
        have G := G.sub (bs' := [[zO11 mo m_all m_has i_size j_next_59 j_where_60 j_token_61 j_number_62 j_word_63 j_wrong_64 i_farCrossing m_read i_z0 i_crossings i_inns m_posts m_shut m_here i_steps i_done i_at i_gone m_was m_came m_seenAt m_rowWorth m_farBy m_used i_everywhere i_again0 i_d0 i_never i_firstCame i_longRun i_moved i_crowd i_l0 i_fitMany i_fitLeast i_fitMost m_fitPost m_fitEnd m_keptPosts i_x0], [zAr T 0 m_all 3952 g_all_65], [zAr T 0 m_read 121 (upd (upd (upd f_read y_53.toNatClampNeg r_34) y_56.toNatClampNeg (-1)) 0 y_58)]]) [1, 2, 0] rfl
        exact z_back hQ9 (z_vret C hr hlocks G (Nat.le_of_ble_eq_true rfl) (Nat.le_of_ble_eq_true rfl) dX12_logLine_131 ⟨j_next_59, j_where_60, j_token_61, j_number_62, j_word_63, j_wrong_64, g_all_65, (upd (upd (upd f_read y_53.toNatClampNeg r_34) y_56.toNatClampNeg (-1)) 0 y_58), rfl, (by first | with_reducible assumption | omega | trivial | assumption), (by first | with_reducible assumption | omega | trivial | assumption), (by first | with_reducible assumption | omega | trivial | assumption), (by first | with_reducible assumption | omega | trivial | assumption), (hpgb.tr (h_29.tr h_70)), (zCF_upd (k := 0) (v := y_58) (zCF_upd (k := y_56.toNatClampNeg) (v := (-1)) (zCF_upd (k := y_53.toNatClampNeg) (v := r_34) (by assumption) (by have q9 := z_clI (x := y_53) (by omega); omega)) (by have q9 := z_clI (x := y_56) (by omega); have t9 : ((-1) : Int32).toInt = -1 := rfl; omega)) (by omega)), (by unfold pLog; rw [hd]; show zRr _ _ _ _ _ _ _ _ _ _ _ (pEndL k (pFact k d1 (nI (pWh k a.1)) d2 f_read).1); rw [← t2, pFact_1 hbq, pGY_lo (by omega)]; exact h_71), (by unfold pLog; rw [hd]; show _ = (pFact k d1 (nI (pWh k a.1)) d2 f_read).2; rw [← t2]; unfold pFact; rw [← hbq]; rw [if_pos (by omega)]; have hy2 : (pGY k d1 (pNum k 0 6 b).2).1 = -1 := (congrArg Prod.fst (pGY_lo (by omega))); have qy_56 := z_clI (x := y_56) (by omega); have qy_53 := z_clI (x := y_53) (by omega); rw [hy2, ← h_33, show y_56.toNatClampNeg = 2 + 2 * (f_read 0).toInt.toNat by omega, show y_53.toNatClampNeg = 1 + 2 * (f_read 0).toInt.toNat by omega, ey_58])⟩)
    refine lv_aload_n hx hb dX12_logLine_24 rfl (lv_at hl 2 rfl) ?_
    refine z_get C G clX12 1 rfl 8 (by decide) m_fl_RX12_104 rfl dX12_logLine_25 ?_
    refine lv_if_ne (tgt := 48) hx hb dX12_logLine_28 (by decide) (fun c_73 => ?_) (fun c_73 => ?_)
    · have c_73n : ¬ j_wrong_6.toInt = (0 : Int) := fun q => c_73 ((fa_eq _ _).mpr q)
      obtain ⟨b, hbq⟩ : ∃ b, b = pDB 8 i_where f_read d2 := ⟨_, rfl⟩
      have hRb : zRr k n i_size j_next_1 j_where_2 j_token_3 j_number_4 j_word_5 j_wrong_6 i_farCrossing g_all_7 b := by rw [hbq]; first | (rw [pDB_b (by rw [← hA6D]; omega)]; exact hRd) | (unfold pDB; rw [if_neg (by omega)]; exact hRd)
      exact jn_48 g_all_7 b (show b = pDB 8 i_where f_read d2 ∧ zRr k n i_size j_next_1 j_where_2 j_token_3 j_number_4 j_word_5 j_wrong_6 i_farCrossing g_all_7 b ∧ zPal f_all g_all_7 from ⟨hbq, hRb, h_12⟩) _ _ ls G (lv_sub hl [0, 1, 2] rfl)
    · have c_73n : j_wrong_6.toInt = (0 : Int) := (fa_eq _ _).mp c_73
      refine lv_aload_n hx hb dX12_logLine_31 rfl (lv_at hl 2 rfl) ?_
      refine z_get C G clX12 1 rfl 10 (by decide) m_fl_RX12_17 rfl dX12_logLine_32 ?_
      refine lv_iconst (v := 0) hx hb dX12_logLine_35 (by decide) ?_
      refine z_ild C G 0 rfl (vp_in_nI (n := 0) (by decide) (by decide)) dX12_logLine_36 ?_
      refine lv_topi (fun v_74 ev_74 => ?_)
      rw [show ((0 : Int32).toNatClampNeg) = 0 from rfl] at ev_74
      subst ev_74
      refine lv_bipush (v := 8) hx hb dX12_logLine_37 (by decide) ?_
      refine lv_icmp_lt (tgt := 48) hx hb dX12_logLine_39 (by decide) (fun c_75 => ?_) (fun c_75 => ?_)
      · have c_75n : (f_read 0).toInt < (8 : Int) := (fa_lt _ _).mp c_75
        obtain ⟨b, hbq⟩ : ∃ b, b = pDB 8 i_where f_read d2 := ⟨_, rfl⟩
        have hRb : zRr k n i_size j_next_1 j_where_2 j_token_3 j_number_4 j_word_5 j_wrong_6 i_farCrossing g_all_7 b := by rw [hbq]; first | (rw [pDB_b (by rw [← hA6D]; omega)]; exact hRd) | (unfold pDB; rw [if_neg (by omega)]; exact hRd)
        exact jn_48 g_all_7 b (show b = pDB 8 i_where f_read d2 ∧ zRr k n i_size j_next_1 j_where_2 j_token_3 j_number_4 j_word_5 j_wrong_6 i_farCrossing g_all_7 b ∧ zPal f_all g_all_7 from ⟨hbq, hRb, h_12⟩) _ _ ls G (lv_sub hl [0, 1, 2] rfl)
      · have c_75n : ¬ (f_read 0).toInt < (8 : Int) := fun q => c_75 ((fa_lt _ _).mpr q)
        refine lv_aload_n hx hb dX12_logLine_42 rfl (lv_at hl 2 rfl) ?_
        refine lv_iconst (v := 3) hx hb dX12_logLine_43 (by decide) ?_
        refine lv_iload_n hx hb dX12_logLine_44 rfl (lv_at hl 1 rfl) ?_
        refine z_Vv (bc := [[zO11 mo m_all m_has i_size j_next_1 j_where_2 j_token_3 j_number_4 j_word_5 j_wrong_6 i_farCrossing m_read i_z0 i_crossings i_inns m_posts m_shut m_here i_steps i_done i_at i_gone m_was m_came m_seenAt m_rowWorth m_farBy m_used i_everywhere i_again0 i_d0 i_never i_firstCame i_longRun i_moved i_crowd i_l0 i_fitMany i_fitLeast i_fitMost m_fitPost m_fitEnd m_keptPosts i_x0], [zAr T 0 m_all 3952 g_all_7]]) (br := [[zAr T 0 m_read 121 f_read]]) (As := [.int 3, .int i_where]) (rest := []) C G (c_fm_also l T mo m_all m_has i_size j_next_1 j_where_2 j_token_3 j_number_4 j_word_5 j_wrong_6 i_farCrossing m_read i_z0 i_crossings i_inns m_posts m_shut m_here i_steps i_done i_at i_gone m_was m_came m_seenAt m_rowWorth m_farBy m_used i_everywhere i_again0 i_d0 i_never i_firstCame i_longRun i_moved i_crowd i_l0 i_fitMany i_fitLeast i_fitMost m_fitPost m_fitEnd m_keptPosts i_x0 g_all_7 3 i_where) (kV_RX12_115 C.2.2.2.2 (Nat.le_of_ble_eq_true rfl) (Nat.le_of_ble_eq_true rfl)) [1, 2] [1, 0] rfl rfl (ci := 11) (qc := (RX12, TX12, 43)) rfl rfl (List.mem_flatten.mpr ⟨_, List.mem_of_getElem? (i := 0) rfl, List.mem_cons_self⟩) rfl rfl hl.1 dX12_logLine_45 (Nat.le_of_ble_eq_true rfl) (Nat.le_of_ble_eq_true rfl) (fun b1 H locs hw G => ?_)
        refine zEx1 hw ?_
        intro g_all_76
        refine zCu3 ?_
        intro hbs9 h_77 h_78
        clear hw
        subst hbs9
        have G : zS T A s.heap s [[zAr T 0 m_read 121 f_read], [zO11 mo m_all m_has i_size j_next_1 j_where_2 j_token_3 j_number_4 j_word_5 j_wrong_6 i_farCrossing m_read i_z0 i_crossings i_inns m_posts m_shut m_here i_steps i_done i_at i_gone m_was m_came m_seenAt m_rowWorth m_farBy m_used i_everywhere i_again0 i_d0 i_never i_firstCame i_longRun i_moved i_crowd i_l0 i_fitMany i_fitLeast i_fitMost m_fitPost m_fitEnd m_keptPosts i_x0], [zAr T 0 m_all 3952 g_all_76]] _ _ := G
        have h_78 : g_all_76 = (if ¬ j_wrong_6.toInt = 0 ∨ (¬ (g_all_7 5).toInt = 0 ∧ ((g_all_7 6).toInt < i_where.toInt ∨ ((g_all_7 6).toInt = i_where.toInt ∧ (g_all_7 5).toInt ≤ (3 : Int)))) then g_all_7 else upd (upd g_all_7 5 3) 6 i_where) := h_78
        obtain ⟨b, hbq⟩ : ∃ b, b = pDB 8 i_where f_read d2 := ⟨_, rfl⟩
        have hRb : zRr k n i_size j_next_1 j_where_2 j_token_3 j_number_4 j_word_5 j_wrong_6 i_farCrossing g_all_76 b := by rw [hbq]; unfold pDB; rw [if_pos (by omega)]; exact zRr_also (kd := 3) (w := i_where) hRd h_78
        exact jn_48 g_all_76 b (show b = pDB 8 i_where f_read d2 ∧ zRr k n i_size j_next_1 j_where_2 j_token_3 j_number_4 j_word_5 j_wrong_6 i_farCrossing g_all_76 b ∧ zPal f_all g_all_76 from ⟨hbq, hRb, (h_12.tr h_77)⟩) _ _ ls G (lv_sub hl [0, 1, 2] rfl)
  · have c_17n : r_16.toInt = (11 : Int) := (fa_eq _ _).mp c_17
    refine lv_iconst (v := 1) hx hb dX12_logLine_18 (by decide) ?_
    refine lv_goto (tgt := 23) hx hb dX12_logLine_19 (by decide) ?_
    refine lv_istore_n (lv' := [(2, .int 1), (1, .int i_where), (0, .ref mo)]) hx hb dX12_logLine_23 rfl hl (by decide) rfl (fun ls hl => ?_)
    refine zMt2 (T := T) 48 (fun (gb : Nat → Int32) (b : pS) => [[zAr T 0 m_read 121 f_read], [zO11 mo m_all m_has i_size j_next_1 j_where_2 j_token_3 j_number_4 j_word_5 j_wrong_6 i_farCrossing m_read i_z0 i_crossings i_inns m_posts m_shut m_here i_steps i_done i_at i_gone m_was m_came m_seenAt m_rowWorth m_farBy m_used i_everywhere i_again0 i_d0 i_never i_firstCame i_longRun i_moved i_crowd i_l0 i_fitMany i_fitLeast i_fitMost m_fitPost m_fitEnd m_keptPosts i_x0], [zAr T 0 m_all 3952 gb]]) (fun (gb : Nat → Int32) (b : pS) => [(2, .int 1), (1, .int i_where), (0, .ref mo)]) (fun (gb : Nat → Int32) (b : pS) => b = pDB 8 i_where f_read d2 ∧ zRr k n i_size j_next_1 j_where_2 j_token_3 j_number_4 j_word_5 j_wrong_6 i_farCrossing gb b ∧ zPal f_all gb) G hl ?_ (fun jn_48 => ?_)
    · intro gb b hI9 H locs ls G hl
      replace hI9 : b = pDB 8 i_where f_read d2 ∧ zRr k n i_size j_next_1 j_where_2 j_token_3 j_number_4 j_word_5 j_wrong_6 i_farCrossing gb b ∧ zPal f_all gb := hI9
      refine zAn3 hI9 ?_
      intro hbq hRb hpgb
      clear hI9
      replace G : zS T A s.heap s [[zAr T 0 m_read 121 f_read], [zO11 mo m_all m_has i_size j_next_1 j_where_2 j_token_3 j_number_4 j_word_5 j_wrong_6 i_farCrossing m_read i_z0 i_crossings i_inns m_posts m_shut m_here i_steps i_done i_at i_gone m_was m_came m_seenAt m_rowWorth m_farBy m_used i_everywhere i_again0 i_d0 i_never i_firstCame i_longRun i_moved i_crowd i_l0 i_fitMany i_fitLeast i_fitMost m_fitPost m_fitEnd m_keptPosts i_x0], [zAr T 0 m_all 3952 gb]] _ _ := G
      replace hl : lv_has ls 5 [(2, .int 1), (1, .int i_where), (0, .ref mo)] := hl
      refine lv_aload_n hx hb dX12_logLine_48 rfl (lv_at hl 2 rfl) ?_
      refine lv_iconst (v := 0) hx hb dX12_logLine_49 (by decide) ?_
      refine lv_bipush (v := 6) hx hb dX12_logLine_50 (by decide) ?_
      refine z_Vi (bc := [[zO11 mo m_all m_has i_size j_next_1 j_where_2 j_token_3 j_number_4 j_word_5 j_wrong_6 i_farCrossing m_read i_z0 i_crossings i_inns m_posts m_shut m_here i_steps i_done i_at i_gone m_was m_came m_seenAt m_rowWorth m_farBy m_used i_everywhere i_again0 i_d0 i_never i_firstCame i_longRun i_moved i_crowd i_l0 i_fitMany i_fitLeast i_fitMost m_fitPost m_fitEnd m_keptPosts i_x0], [zAr T 0 m_all 3952 gb]]) (br := [[zAr T 0 m_read 121 f_read]]) (As := [.int 0, .int 6]) (rest := []) C G (c_fm_numbered l T mo m_all m_has i_size j_next_1 j_where_2 j_token_3 j_number_4 j_word_5 j_wrong_6 i_farCrossing m_read i_z0 i_crossings i_inns m_posts m_shut m_here i_steps i_done i_at i_gone m_was m_came m_seenAt m_rowWorth m_farBy m_used i_everywhere i_again0 i_d0 i_never i_firstCame i_longRun i_moved i_crowd i_l0 i_fitMany i_fitLeast i_fitMost m_fitPost m_fitEnd m_keptPosts i_x0 gb k n b 0 6 (by first | with_reducible assumption | with_reducible rfl | omega | assumption | rfl) (by first | with_reducible assumption | with_reducible rfl | omega | assumption | rfl) (by first | with_reducible assumption | with_reducible rfl | omega | assumption | rfl) (by decide) hRb) (kV_RX12_122 C.2.2.2.2 (Nat.le_of_ble_eq_true rfl) (Nat.le_of_ble_eq_true rfl)) [1, 2] [1, 0] rfl rfl (ci := 11) (qc := (RX12, TX12, 43)) rfl rfl (List.mem_flatten.mpr ⟨_, List.mem_of_getElem? (i := 0) rfl, List.mem_cons_self⟩) rfl rfl hl.1 dX12_logLine_52 (Nat.le_of_ble_eq_true rfl) (Nat.le_of_ble_eq_true rfl) (fun r_96 b1 H locs hw G => ?_)
      refine zEx7 hw ?_
      intro j_next_80 j_where_81 j_token_82 j_number_83 j_word_84 j_wrong_85 g_all_86
      refine zCu10 ?_
      intro hbs9 h_87 h_88 h_89 h_90 h_91 h_92 h_93 h_94 h_95
      clear hw
      subst hbs9
      have G : zS T A s.heap s [[zAr T 0 m_read 121 f_read], [zO11 mo m_all m_has i_size j_next_80 j_where_81 j_token_82 j_number_83 j_word_84 j_wrong_85 i_farCrossing m_read i_z0 i_crossings i_inns m_posts m_shut m_here i_steps i_done i_at i_gone m_was m_came m_seenAt m_rowWorth m_farBy m_used i_everywhere i_again0 i_d0 i_never i_firstCame i_longRun i_moved i_crowd i_l0 i_fitMany i_fitLeast i_fitMost m_fitPost m_fitEnd m_keptPosts i_x0], [zAr T 0 m_all 3952 g_all_86]] _ _ := G
      have h_92 : (0 : Int) ≤ r_96.toInt := h_92
      have h_93 : r_96.toInt ≤ (6 : Int) := h_93
      refine lv_istore_n (lv' := [(3, .int r_96), (2, .int 1), (1, .int i_where), (0, .ref mo)]) hx hb dX12_logLine_55 rfl hl (by decide) rfl (fun ls hl => ?_)
      refine lv_iload_n hx hb dX12_logLine_56 rfl (lv_at hl 1 rfl) ?_
      refine lv_if_eq (tgt := 70) hx hb dX12_logLine_57 (by decide) (fun q => absurd q (by decide)) (fun _ => ?_)
      refine lv_aload_n hx hb dX12_logLine_60 rfl (lv_at hl 3 rfl) ?_
      refine lv_iconst (v := 0) hx hb dX12_logLine_61 (by decide) ?_
      refine lv_bipush (v := 6) hx hb dX12_logLine_62 (by decide) ?_
      refine z_Vi (bc := [[zO11 mo m_all m_has i_size j_next_80 j_where_81 j_token_82 j_number_83 j_word_84 j_wrong_85 i_farCrossing m_read i_z0 i_crossings i_inns m_posts m_shut m_here i_steps i_done i_at i_gone m_was m_came m_seenAt m_rowWorth m_farBy m_used i_everywhere i_again0 i_d0 i_never i_firstCame i_longRun i_moved i_crowd i_l0 i_fitMany i_fitLeast i_fitMost m_fitPost m_fitEnd m_keptPosts i_x0], [zAr T 0 m_all 3952 g_all_86]]) (br := [[zAr T 0 m_read 121 f_read]]) (As := [.int 0, .int 6]) (rest := []) C G (c_fm_numbered l T mo m_all m_has i_size j_next_80 j_where_81 j_token_82 j_number_83 j_word_84 j_wrong_85 i_farCrossing m_read i_z0 i_crossings i_inns m_posts m_shut m_here i_steps i_done i_at i_gone m_was m_came m_seenAt m_rowWorth m_farBy m_used i_everywhere i_again0 i_d0 i_never i_firstCame i_longRun i_moved i_crowd i_l0 i_fitMany i_fitLeast i_fitMost m_fitPost m_fitEnd m_keptPosts i_x0 g_all_86 k n ((pNum k 0 6 b).2) 0 6 (by first | with_reducible assumption | with_reducible rfl | omega | assumption | rfl) (by first | with_reducible assumption | with_reducible rfl | omega | assumption | rfl) (by first | with_reducible assumption | with_reducible rfl | omega | assumption | rfl) (by decide) h_94) (kV_RX12_122 C.2.2.2.2 (Nat.le_of_ble_eq_true rfl) (Nat.le_of_ble_eq_true rfl)) [1, 2] [1, 0] rfl rfl (ci := 11) (qc := (RX12, TX12, 43)) rfl rfl (List.mem_flatten.mpr ⟨_, List.mem_of_getElem? (i := 0) rfl, List.mem_cons_self⟩) rfl rfl hl.1 dX12_logLine_64 (Nat.le_of_ble_eq_true rfl) (Nat.le_of_ble_eq_true rfl) (fun r_113 b1 H locs hw G => ?_)
      refine zEx7 hw ?_
      intro j_next_97 j_where_98 j_token_99 j_number_100 j_word_101 j_wrong_102 g_all_103
      refine zCu10 ?_
      intro hbs9 h_104 h_105 h_106 h_107 h_108 h_109 h_110 h_111 h_112
      clear hw
      subst hbs9
      have G : zS T A s.heap s [[zAr T 0 m_read 121 f_read], [zO11 mo m_all m_has i_size j_next_97 j_where_98 j_token_99 j_number_100 j_word_101 j_wrong_102 i_farCrossing m_read i_z0 i_crossings i_inns m_posts m_shut m_here i_steps i_done i_at i_gone m_was m_came m_seenAt m_rowWorth m_farBy m_used i_everywhere i_again0 i_d0 i_never i_firstCame i_longRun i_moved i_crowd i_l0 i_fitMany i_fitLeast i_fitMost m_fitPost m_fitEnd m_keptPosts i_x0], [zAr T 0 m_all 3952 g_all_103]] _ _ := G
      have h_109 : (0 : Int) ≤ r_113.toInt := h_109
      have h_110 : r_113.toInt ≤ (6 : Int) := h_110
      refine lv_goto (tgt := 71) hx hb dX12_logLine_67 (by decide) ?_
      refine lv_istore (lv' := [(4, .int r_113), (3, .int r_96), (2, .int 1), (1, .int i_where), (0, .ref mo)]) hx hb dX12_logLine_71 hl (by decide) rfl (fun ls hl => ?_)
      refine lv_aload_n hx hb dX12_logLine_73 rfl (lv_at hl 4 rfl) ?_
      refine z_get C G clX12 1 rfl 10 (by decide) m_fl_RX12_17 rfl dX12_logLine_74 ?_
      refine lv_iconst (v := 0) hx hb dX12_logLine_77 (by decide) ?_
      refine z_ild C G 0 rfl (vp_in_nI (n := 0) (by decide) (by decide)) dX12_logLine_78 ?_
      refine lv_topi (fun v_114 ev_114 => ?_)
      rw [show ((0 : Int32).toNatClampNeg) = 0 from rfl] at ev_114
      subst ev_114
      refine lv_bipush (v := 8) hx hb dX12_logLine_79 (by decide) ?_
      refine lv_icmp_ge (tgt := 127) hx hb dX12_logLine_81 (by decide) (fun c_115 => ?_) (fun c_115 => ?_)
      · have c_115n : (8 : Int) ≤ (f_read 0).toInt := (fa_le _ _).mp c_115
        refine lv_aload_n hx hb dX12_logLine_127 rfl (lv_at hl 4 rfl) ?_
        refine z_Vv (bc := [[zO11 mo m_all m_has i_size j_next_97 j_where_98 j_token_99 j_number_100 j_word_101 j_wrong_102 i_farCrossing m_read i_z0 i_crossings i_inns m_posts m_shut m_here i_steps i_done i_at i_gone m_was m_came m_seenAt m_rowWorth m_farBy m_used i_everywhere i_again0 i_d0 i_never i_firstCame i_longRun i_moved i_crowd i_l0 i_fitMany i_fitLeast i_fitMost m_fitPost m_fitEnd m_keptPosts i_x0], [zAr T 0 m_all 3952 g_all_103]]) (br := [[zAr T 0 m_read 121 f_read]]) (As := []) (rest := []) C G (c_fm_endsLine l T mo m_all m_has i_size j_next_97 j_where_98 j_token_99 j_number_100 j_word_101 j_wrong_102 i_farCrossing m_read i_z0 i_crossings i_inns m_posts m_shut m_here i_steps i_done i_at i_gone m_was m_came m_seenAt m_rowWorth m_farBy m_used i_everywhere i_again0 i_d0 i_never i_firstCame i_longRun i_moved i_crowd i_l0 i_fitMany i_fitLeast i_fitMost m_fitPost m_fitEnd m_keptPosts i_x0 g_all_103 k n ((pNum k 0 6 (pNum k 0 6 b).2).2) (by first | with_reducible assumption | with_reducible rfl | omega | assumption | rfl) (by first | with_reducible assumption | with_reducible rfl | omega | assumption | rfl) (by first | with_reducible assumption | with_reducible rfl | omega | assumption | rfl) h_111) (kV_RX12_140 C.2.2.2.2 (Nat.le_of_ble_eq_true rfl) (Nat.le_of_ble_eq_true rfl)) [1, 2] [1, 0] rfl rfl (ci := 11) (qc := (RX12, TX12, 43)) rfl rfl (List.mem_flatten.mpr ⟨_, List.mem_of_getElem? (i := 0) rfl, List.mem_cons_self⟩) rfl rfl hl.1 dX12_logLine_128 (Nat.le_of_ble_eq_true rfl) (Nat.le_of_ble_eq_true rfl) (fun b1 H locs hw G => ?_)
        refine zEx7 hw ?_
        intro j_next_116 j_where_117 j_token_118 j_number_119 j_word_120 j_wrong_121 g_all_122
        refine zCu7 ?_
        intro hbs9 h_123 h_124 h_125 h_126 h_127 h_128
        clear hw
        subst hbs9
        have G : zS T A s.heap s [[zAr T 0 m_read 121 f_read], [zO11 mo m_all m_has i_size j_next_116 j_where_117 j_token_118 j_number_119 j_word_120 j_wrong_121 i_farCrossing m_read i_z0 i_crossings i_inns m_posts m_shut m_here i_steps i_done i_at i_gone m_was m_came m_seenAt m_rowWorth m_farBy m_used i_everywhere i_again0 i_d0 i_never i_firstCame i_longRun i_moved i_crowd i_l0 i_fitMany i_fitLeast i_fitMost m_fitPost m_fitEnd m_keptPosts i_x0], [zAr T 0 m_all 3952 g_all_122]] _ _ := G
        have G := G.sub (bs' := [[zO11 mo m_all m_has i_size j_next_116 j_where_117 j_token_118 j_number_119 j_word_120 j_wrong_121 i_farCrossing m_read i_z0 i_crossings i_inns m_posts m_shut m_here i_steps i_done i_at i_gone m_was m_came m_seenAt m_rowWorth m_farBy m_used i_everywhere i_again0 i_d0 i_never i_firstCame i_longRun i_moved i_crowd i_l0 i_fitMany i_fitLeast i_fitMost m_fitPost m_fitEnd m_keptPosts i_x0], [zAr T 0 m_all 3952 g_all_122], [zAr T 0 m_read 121 f_read]]) [1, 2, 0] rfl
        exact z_back hQ9 (z_vret C hr hlocks G (Nat.le_of_ble_eq_true rfl) (Nat.le_of_ble_eq_true rfl) dX12_logLine_131 ⟨j_next_116, j_where_117, j_token_118, j_number_119, j_word_120, j_wrong_121, g_all_122, f_read, rfl, (by first | with_reducible assumption | omega | trivial | assumption), (by first | with_reducible assumption | omega | trivial | assumption), (by first | with_reducible assumption | omega | trivial | assumption), (by first | with_reducible assumption | omega | trivial | assumption), (hpgb.tr (h_91.tr (h_108.tr h_127))), (by first | with_reducible assumption | omega | trivial | assumption), (by unfold pLog; rw [hd]; show zRr _ _ _ _ _ _ _ _ _ _ _ (pEndL k (pFact k d1 (nI (pWh k a.1)) d2 f_read).1); rw [← t2, pFact_1 hbq, pGY_hi (by omega)]; exact h_128), (by unfold pLog; rw [hd]; show _ = (pFact k d1 (nI (pWh k a.1)) d2 f_read).2; rw [← t2]; unfold pFact; rw [← hbq]; exact (if_neg (by omega)).symm)⟩)
      · have c_115n : ¬ (8 : Int) ≤ (f_read 0).toInt := fun q => c_115 ((fa_le _ _).mpr q)
        refine lv_aload_n hx hb dX12_logLine_84 rfl (lv_at hl 4 rfl) ?_
        refine z_get C G clX12 1 rfl 10 (by decide) m_fl_RX12_17 rfl dX12_logLine_85 ?_
        refine lv_iconst (v := 1) hx hb dX12_logLine_88 (by decide) ?_
        refine lv_iconst (v := 2) hx hb dX12_logLine_89 (by decide) ?_
        refine lv_aload_n hx hb dX12_logLine_90 rfl (lv_at hl 4 rfl) ?_
        refine z_get C G clX12 1 rfl 10 (by decide) m_fl_RX12_17 rfl dX12_logLine_91 ?_
        refine lv_iconst (v := 0) hx hb dX12_logLine_94 (by decide) ?_
        refine z_ild C G 0 rfl (vp_in_nI (n := 0) (by decide) (by decide)) dX12_logLine_95 ?_
        refine lv_topi (fun v_130 ev_130 => ?_)
        rw [show ((0 : Int32).toNatClampNeg) = 0 from rfl] at ev_130
        subst ev_130
        refine lv_imul hx hb dX12_logLine_96 ?_
        refine lv_topi (fun y_131 ey_131 => ?_)
        have ey_131i : y_131.toInt = (2 : Int) * (f_read 0).toInt := by rw [ey_131]; exact z_imulI (x := (2 : Int32)) (y := (f_read 0)) (by show -2147483648 ≤ (2 : Int) * (f_read 0).toInt; omega) (by show (2 : Int) * (f_read 0).toInt < 2147483648; omega)
        refine lv_iadd hx hb dX12_logLine_97 ?_
        refine lv_topi (fun y_132 ey_132 => ?_)
        have ey_132i : y_132.toInt = (1 : Int) + y_131.toInt := by rw [ey_132]; exact z_iaddI (x := (1 : Int32)) (y := y_131) (by show -2147483648 ≤ (1 : Int) + y_131.toInt; omega) (by show (1 : Int) + y_131.toInt < 2147483648; omega)
        refine lv_iload_n hx hb dX12_logLine_98 rfl (lv_at hl 1 rfl) ?_
        refine z_ist C G 0 rfl (vp_in_iff.mpr ⟨by omega, by omega⟩) dX12_logLine_99 (fun H locs G => ?_)
        have G : zS T A s.heap s [[zAr T 0 m_read 121 (upd f_read y_132.toNatClampNeg r_96)], [zO11 mo m_all m_has i_size j_next_97 j_where_98 j_token_99 j_number_100 j_word_101 j_wrong_102 i_farCrossing m_read i_z0 i_crossings i_inns m_posts m_shut m_here i_steps i_done i_at i_gone m_was m_came m_seenAt m_rowWorth m_farBy m_used i_everywhere i_again0 i_d0 i_never i_firstCame i_longRun i_moved i_crowd i_l0 i_fitMany i_fitLeast i_fitMost m_fitPost m_fitEnd m_keptPosts i_x0], [zAr T 0 m_all 3952 g_all_103]] _ _ := G
        refine lv_aload_n hx hb dX12_logLine_100 rfl (lv_at hl 4 rfl) ?_
        refine z_get C G clX12 1 rfl 10 (by decide) m_fl_RX12_17 rfl dX12_logLine_101 ?_
        refine lv_iconst (v := 2) hx hb dX12_logLine_104 (by decide) ?_
        refine lv_iconst (v := 2) hx hb dX12_logLine_105 (by decide) ?_
        refine lv_aload_n hx hb dX12_logLine_106 rfl (lv_at hl 4 rfl) ?_
        refine z_get C G clX12 1 rfl 10 (by decide) m_fl_RX12_17 rfl dX12_logLine_107 ?_
        refine lv_iconst (v := 0) hx hb dX12_logLine_110 (by decide) ?_
        refine z_ild C G 0 rfl (vp_in_nI (n := 0) (by decide) (by decide)) dX12_logLine_111 ?_
        refine lv_topi (fun v_133 ev_133 => ?_)
        rw [show ((0 : Int32).toNatClampNeg) = 0 from rfl] at ev_133
        subst ev_133
        have hcl_y_132 := z_clI (x := y_132) (by omega)
        rw [show (upd f_read y_132.toNatClampNeg r_96) 0 = f_read 0 from by unfold upd; rw [if_neg (by omega)]]
        refine lv_imul hx hb dX12_logLine_112 ?_
        refine lv_topi (fun y_134 ey_134 => ?_)
        have ey_134i : y_134.toInt = (2 : Int) * (f_read 0).toInt := by rw [ey_134]; exact z_imulI (x := (2 : Int32)) (y := (f_read 0)) (by show -2147483648 ≤ (2 : Int) * (f_read 0).toInt; omega) (by show (2 : Int) * (f_read 0).toInt < 2147483648; omega)
        refine lv_iadd hx hb dX12_logLine_113 ?_
        refine lv_topi (fun y_135 ey_135 => ?_)
        have ey_135i : y_135.toInt = (2 : Int) + y_134.toInt := by rw [ey_135]; exact z_iaddI (x := (2 : Int32)) (y := y_134) (by show -2147483648 ≤ (2 : Int) + y_134.toInt; omega) (by show (2 : Int) + y_134.toInt < 2147483648; omega)
        refine lv_iload hx hb dX12_logLine_114 (lv_at hl 0 rfl) ?_
        refine z_ist C G 0 rfl (vp_in_iff.mpr ⟨by omega, by omega⟩) dX12_logLine_116 (fun H locs G => ?_)
        have G : zS T A s.heap s [[zAr T 0 m_read 121 (upd (upd f_read y_132.toNatClampNeg r_96) y_135.toNatClampNeg r_113)], [zO11 mo m_all m_has i_size j_next_97 j_where_98 j_token_99 j_number_100 j_word_101 j_wrong_102 i_farCrossing m_read i_z0 i_crossings i_inns m_posts m_shut m_here i_steps i_done i_at i_gone m_was m_came m_seenAt m_rowWorth m_farBy m_used i_everywhere i_again0 i_d0 i_never i_firstCame i_longRun i_moved i_crowd i_l0 i_fitMany i_fitLeast i_fitMost m_fitPost m_fitEnd m_keptPosts i_x0], [zAr T 0 m_all 3952 g_all_103]] _ _ := G
        refine lv_aload_n hx hb dX12_logLine_117 rfl (lv_at hl 4 rfl) ?_
        refine z_get C G clX12 1 rfl 10 (by decide) m_fl_RX12_17 rfl dX12_logLine_118 ?_
        refine lv_iconst (v := 0) hx hb dX12_logLine_121 (by decide) ?_
        refine lv_dup2_11 hx hb dX12_logLine_122 rfl rfl ?_
        refine z_ild C G 0 rfl (vp_in_nI (n := 0) (by decide) (by decide)) dX12_logLine_123 ?_
        refine lv_topi (fun v_136 ev_136 => ?_)
        rw [show ((0 : Int32).toNatClampNeg) = 0 from rfl] at ev_136
        subst ev_136
        refine lv_iconst (v := 1) hx hb dX12_logLine_124 (by decide) ?_
        have hcl_y_135 := z_clI (x := y_135) (by omega)
        have hcl_y_132 := z_clI (x := y_132) (by omega)
        rw [show (upd (upd f_read y_132.toNatClampNeg r_96) y_135.toNatClampNeg r_113) 0 = f_read 0 from by unfold upd; rw [if_neg (by omega), if_neg (by omega)]]
        refine lv_iadd hx hb dX12_logLine_125 ?_
        refine lv_topi (fun y_137 ey_137 => ?_)
        have ey_137i : y_137.toInt = (f_read 0).toInt + (1 : Int) := by rw [ey_137]; exact z_iaddI (x := (f_read 0)) (y := (1 : Int32)) (by show -2147483648 ≤ (f_read 0).toInt + (1 : Int); omega) (by show (f_read 0).toInt + (1 : Int) < 2147483648; omega)
        refine z_ist C G 0 rfl (vp_in_nI (n := 0) (by decide) (by decide)) dX12_logLine_126 (fun H locs G => ?_)
        have G : zS T A s.heap s [[zAr T 0 m_read 121 (upd (upd (upd f_read y_132.toNatClampNeg r_96) y_135.toNatClampNeg r_113) 0 y_137)], [zO11 mo m_all m_has i_size j_next_97 j_where_98 j_token_99 j_number_100 j_word_101 j_wrong_102 i_farCrossing m_read i_z0 i_crossings i_inns m_posts m_shut m_here i_steps i_done i_at i_gone m_was m_came m_seenAt m_rowWorth m_farBy m_used i_everywhere i_again0 i_d0 i_never i_firstCame i_longRun i_moved i_crowd i_l0 i_fitMany i_fitLeast i_fitMost m_fitPost m_fitEnd m_keptPosts i_x0], [zAr T 0 m_all 3952 g_all_103]] _ _ := G
        refine lv_aload_n hx hb dX12_logLine_127 rfl (lv_at hl 4 rfl) ?_
        refine z_Vv (bc := [[zO11 mo m_all m_has i_size j_next_97 j_where_98 j_token_99 j_number_100 j_word_101 j_wrong_102 i_farCrossing m_read i_z0 i_crossings i_inns m_posts m_shut m_here i_steps i_done i_at i_gone m_was m_came m_seenAt m_rowWorth m_farBy m_used i_everywhere i_again0 i_d0 i_never i_firstCame i_longRun i_moved i_crowd i_l0 i_fitMany i_fitLeast i_fitMost m_fitPost m_fitEnd m_keptPosts i_x0], [zAr T 0 m_all 3952 g_all_103]]) (br := [[zAr T 0 m_read 121 (upd (upd (upd f_read y_132.toNatClampNeg r_96) y_135.toNatClampNeg r_113) 0 y_137)]]) (As := []) (rest := []) C G (c_fm_endsLine l T mo m_all m_has i_size j_next_97 j_where_98 j_token_99 j_number_100 j_word_101 j_wrong_102 i_farCrossing m_read i_z0 i_crossings i_inns m_posts m_shut m_here i_steps i_done i_at i_gone m_was m_came m_seenAt m_rowWorth m_farBy m_used i_everywhere i_again0 i_d0 i_never i_firstCame i_longRun i_moved i_crowd i_l0 i_fitMany i_fitLeast i_fitMost m_fitPost m_fitEnd m_keptPosts i_x0 g_all_103 k n ((pNum k 0 6 (pNum k 0 6 b).2).2) (by first | with_reducible assumption | with_reducible rfl | omega | assumption | rfl) (by first | with_reducible assumption | with_reducible rfl | omega | assumption | rfl) (by first | with_reducible assumption | with_reducible rfl | omega | assumption | rfl) h_111) (kV_RX12_140 C.2.2.2.2 (Nat.le_of_ble_eq_true rfl) (Nat.le_of_ble_eq_true rfl)) [1, 2] [1, 0] rfl rfl (ci := 11) (qc := (RX12, TX12, 43)) rfl rfl (List.mem_flatten.mpr ⟨_, List.mem_of_getElem? (i := 0) rfl, List.mem_cons_self⟩) rfl rfl hl.1 dX12_logLine_128 (Nat.le_of_ble_eq_true rfl) (Nat.le_of_ble_eq_true rfl) (fun b1 H locs hw G => ?_)
        refine zEx7 hw ?_
        intro j_next_138 j_where_139 j_token_140 j_number_141 j_word_142 j_wrong_143 g_all_144
        refine zCu7 ?_
        intro hbs9 h_145 h_146 h_147 h_148 h_149 h_150
        clear hw
        subst hbs9
        have G : zS T A s.heap s [[zAr T 0 m_read 121 (upd (upd (upd f_read y_132.toNatClampNeg r_96) y_135.toNatClampNeg r_113) 0 y_137)], [zO11 mo m_all m_has i_size j_next_138 j_where_139 j_token_140 j_number_141 j_word_142 j_wrong_143 i_farCrossing m_read i_z0 i_crossings i_inns m_posts m_shut m_here i_steps i_done i_at i_gone m_was m_came m_seenAt m_rowWorth m_farBy m_used i_everywhere i_again0 i_d0 i_never i_firstCame i_longRun i_moved i_crowd i_l0 i_fitMany i_fitLeast i_fitMost m_fitPost m_fitEnd m_keptPosts i_x0], [zAr T 0 m_all 3952 g_all_144]] _ _ := G
        have G := G.sub (bs' := [[zO11 mo m_all m_has i_size j_next_138 j_where_139 j_token_140 j_number_141 j_word_142 j_wrong_143 i_farCrossing m_read i_z0 i_crossings i_inns m_posts m_shut m_here i_steps i_done i_at i_gone m_was m_came m_seenAt m_rowWorth m_farBy m_used i_everywhere i_again0 i_d0 i_never i_firstCame i_longRun i_moved i_crowd i_l0 i_fitMany i_fitLeast i_fitMost m_fitPost m_fitEnd m_keptPosts i_x0], [zAr T 0 m_all 3952 g_all_144], [zAr T 0 m_read 121 (upd (upd (upd f_read y_132.toNatClampNeg r_96) y_135.toNatClampNeg r_113) 0 y_137)]]) [1, 2, 0] rfl
        exact z_back hQ9 (z_vret C hr hlocks G (Nat.le_of_ble_eq_true rfl) (Nat.le_of_ble_eq_true rfl) dX12_logLine_131 ⟨j_next_138, j_where_139, j_token_140, j_number_141, j_word_142, j_wrong_143, g_all_144, (upd (upd (upd f_read y_132.toNatClampNeg r_96) y_135.toNatClampNeg r_113) 0 y_137), rfl, (by first | with_reducible assumption | omega | trivial | assumption), (by first | with_reducible assumption | omega | trivial | assumption), (by first | with_reducible assumption | omega | trivial | assumption), (by first | with_reducible assumption | omega | trivial | assumption), (hpgb.tr (h_91.tr (h_108.tr h_149))), (zCF_upd (k := 0) (v := y_137) (zCF_upd (k := y_135.toNatClampNeg) (v := r_113) (zCF_upd (k := y_132.toNatClampNeg) (v := r_96) (by assumption) (by have q9 := z_clI (x := y_132) (by omega); omega)) (by have q9 := z_clI (x := y_135) (by omega); omega)) (by omega)), (by unfold pLog; rw [hd]; show zRr _ _ _ _ _ _ _ _ _ _ _ (pEndL k (pFact k d1 (nI (pWh k a.1)) d2 f_read).1); rw [← t2, pFact_1 hbq, pGY_hi (by omega)]; exact h_150), (by unfold pLog; rw [hd]; show _ = (pFact k d1 (nI (pWh k a.1)) d2 f_read).2; rw [← t2]; unfold pFact; rw [← hbq]; rw [if_pos (by omega)]; have hy2 : (pGY k d1 (pNum k 0 6 b).2).1 = r_113 := (congrArg Prod.fst (pGY_hi (by omega))).trans h_112.symm; have qy_135 := z_clI (x := y_135) (by omega); have qy_132 := z_clI (x := y_132) (by omega); rw [hy2, ← h_95, show y_135.toNatClampNeg = 2 + 2 * (f_read 0).toInt.toNat by omega, show y_132.toNatClampNeg = 1 + 2 * (f_read 0).toInt.toNat by omega, ey_137])⟩)
    refine lv_aload_n hx hb dX12_logLine_24 rfl (lv_at hl 2 rfl) ?_
    refine z_get C G clX12 1 rfl 8 (by decide) m_fl_RX12_104 rfl dX12_logLine_25 ?_
    refine lv_if_ne (tgt := 48) hx hb dX12_logLine_28 (by decide) (fun c_152 => ?_) (fun c_152 => ?_)
    · have c_152n : ¬ j_wrong_6.toInt = (0 : Int) := fun q => c_152 ((fa_eq _ _).mpr q)
      obtain ⟨b, hbq⟩ : ∃ b, b = pDB 8 i_where f_read d2 := ⟨_, rfl⟩
      have hRb : zRr k n i_size j_next_1 j_where_2 j_token_3 j_number_4 j_word_5 j_wrong_6 i_farCrossing g_all_7 b := by rw [hbq]; first | (rw [pDB_b (by rw [← hA6D]; omega)]; exact hRd) | (unfold pDB; rw [if_neg (by omega)]; exact hRd)
      exact jn_48 g_all_7 b (show b = pDB 8 i_where f_read d2 ∧ zRr k n i_size j_next_1 j_where_2 j_token_3 j_number_4 j_word_5 j_wrong_6 i_farCrossing g_all_7 b ∧ zPal f_all g_all_7 from ⟨hbq, hRb, h_12⟩) _ _ ls G (lv_sub hl [0, 1, 2] rfl)
    · have c_152n : j_wrong_6.toInt = (0 : Int) := (fa_eq _ _).mp c_152
      refine lv_aload_n hx hb dX12_logLine_31 rfl (lv_at hl 2 rfl) ?_
      refine z_get C G clX12 1 rfl 10 (by decide) m_fl_RX12_17 rfl dX12_logLine_32 ?_
      refine lv_iconst (v := 0) hx hb dX12_logLine_35 (by decide) ?_
      refine z_ild C G 0 rfl (vp_in_nI (n := 0) (by decide) (by decide)) dX12_logLine_36 ?_
      refine lv_topi (fun v_153 ev_153 => ?_)
      rw [show ((0 : Int32).toNatClampNeg) = 0 from rfl] at ev_153
      subst ev_153
      refine lv_bipush (v := 8) hx hb dX12_logLine_37 (by decide) ?_
      refine lv_icmp_lt (tgt := 48) hx hb dX12_logLine_39 (by decide) (fun c_154 => ?_) (fun c_154 => ?_)
      · have c_154n : (f_read 0).toInt < (8 : Int) := (fa_lt _ _).mp c_154
        obtain ⟨b, hbq⟩ : ∃ b, b = pDB 8 i_where f_read d2 := ⟨_, rfl⟩
        have hRb : zRr k n i_size j_next_1 j_where_2 j_token_3 j_number_4 j_word_5 j_wrong_6 i_farCrossing g_all_7 b := by rw [hbq]; first | (rw [pDB_b (by rw [← hA6D]; omega)]; exact hRd) | (unfold pDB; rw [if_neg (by omega)]; exact hRd)
        exact jn_48 g_all_7 b (show b = pDB 8 i_where f_read d2 ∧ zRr k n i_size j_next_1 j_where_2 j_token_3 j_number_4 j_word_5 j_wrong_6 i_farCrossing g_all_7 b ∧ zPal f_all g_all_7 from ⟨hbq, hRb, h_12⟩) _ _ ls G (lv_sub hl [0, 1, 2] rfl)
      · have c_154n : ¬ (f_read 0).toInt < (8 : Int) := fun q => c_154 ((fa_lt _ _).mpr q)
        refine lv_aload_n hx hb dX12_logLine_42 rfl (lv_at hl 2 rfl) ?_
        refine lv_iconst (v := 3) hx hb dX12_logLine_43 (by decide) ?_
        refine lv_iload_n hx hb dX12_logLine_44 rfl (lv_at hl 1 rfl) ?_
        refine z_Vv (bc := [[zO11 mo m_all m_has i_size j_next_1 j_where_2 j_token_3 j_number_4 j_word_5 j_wrong_6 i_farCrossing m_read i_z0 i_crossings i_inns m_posts m_shut m_here i_steps i_done i_at i_gone m_was m_came m_seenAt m_rowWorth m_farBy m_used i_everywhere i_again0 i_d0 i_never i_firstCame i_longRun i_moved i_crowd i_l0 i_fitMany i_fitLeast i_fitMost m_fitPost m_fitEnd m_keptPosts i_x0], [zAr T 0 m_all 3952 g_all_7]]) (br := [[zAr T 0 m_read 121 f_read]]) (As := [.int 3, .int i_where]) (rest := []) C G (c_fm_also l T mo m_all m_has i_size j_next_1 j_where_2 j_token_3 j_number_4 j_word_5 j_wrong_6 i_farCrossing m_read i_z0 i_crossings i_inns m_posts m_shut m_here i_steps i_done i_at i_gone m_was m_came m_seenAt m_rowWorth m_farBy m_used i_everywhere i_again0 i_d0 i_never i_firstCame i_longRun i_moved i_crowd i_l0 i_fitMany i_fitLeast i_fitMost m_fitPost m_fitEnd m_keptPosts i_x0 g_all_7 3 i_where) (kV_RX12_115 C.2.2.2.2 (Nat.le_of_ble_eq_true rfl) (Nat.le_of_ble_eq_true rfl)) [1, 2] [1, 0] rfl rfl (ci := 11) (qc := (RX12, TX12, 43)) rfl rfl (List.mem_flatten.mpr ⟨_, List.mem_of_getElem? (i := 0) rfl, List.mem_cons_self⟩) rfl rfl hl.1 dX12_logLine_45 (Nat.le_of_ble_eq_true rfl) (Nat.le_of_ble_eq_true rfl) (fun b1 H locs hw G => ?_)
        refine zEx1 hw ?_
        intro g_all_155
        refine zCu3 ?_
        intro hbs9 h_156 h_157
        clear hw
        subst hbs9
        have G : zS T A s.heap s [[zAr T 0 m_read 121 f_read], [zO11 mo m_all m_has i_size j_next_1 j_where_2 j_token_3 j_number_4 j_word_5 j_wrong_6 i_farCrossing m_read i_z0 i_crossings i_inns m_posts m_shut m_here i_steps i_done i_at i_gone m_was m_came m_seenAt m_rowWorth m_farBy m_used i_everywhere i_again0 i_d0 i_never i_firstCame i_longRun i_moved i_crowd i_l0 i_fitMany i_fitLeast i_fitMost m_fitPost m_fitEnd m_keptPosts i_x0], [zAr T 0 m_all 3952 g_all_155]] _ _ := G
        have h_157 : g_all_155 = (if ¬ j_wrong_6.toInt = 0 ∨ (¬ (g_all_7 5).toInt = 0 ∧ ((g_all_7 6).toInt < i_where.toInt ∨ ((g_all_7 6).toInt = i_where.toInt ∧ (g_all_7 5).toInt ≤ (3 : Int)))) then g_all_7 else upd (upd g_all_7 5 3) 6 i_where) := h_157
        obtain ⟨b, hbq⟩ : ∃ b, b = pDB 8 i_where f_read d2 := ⟨_, rfl⟩
        have hRb : zRr k n i_size j_next_1 j_where_2 j_token_3 j_number_4 j_word_5 j_wrong_6 i_farCrossing g_all_155 b := by rw [hbq]; unfold pDB; rw [if_pos (by omega)]; exact zRr_also (kd := 3) (w := i_where) hRd h_157
        exact jn_48 g_all_155 b (show b = pDB 8 i_where f_read d2 ∧ zRr k n i_size j_next_1 j_where_2 j_token_3 j_number_4 j_word_5 j_wrong_6 i_farCrossing g_all_155 b ∧ zPal f_all g_all_155 from ⟨hbq, hRb, (h_12.tr h_156)⟩) _ _ ls G (lv_sub hl [0, 1, 2] rfl)
/-! TEXT: the record of all that is told, behind a text -/
theorem z_cgA {cA : ClassId} {n : Nat} {f g : Nat → Int32} (e : ∀ j, j < n → f j = g j) : vp_cell cA (n, .inl f) = vp_cell cA (n, .inl g) := by
  rw [vp_cell_i, vp_cell_i]
  unfold arrV
  have : (fun j : Fin n => Value.int (f j.val)) = fun j : Fin n => Value.int (g j.val) := funext fun j => by rw [e j.val j.isLt]
  rw [this]
theorem z_cg {T : zTy} {A : Nat → Prop} {H0 H : Heap} {s : State} {bs : List va_W} {locs : List Loc} (G : zS T A H0 s bs H locs) (i : Nat) {a n : Nat} {cA : ClassId} {f : Nat → Int32} (ha : bs[i]? = some [(a, .inl (cA, n, .inl f))]) (g : Nat → Int32) (e : ∀ j, j < n → f j = g j) : zS T A H0 s (bs.set i [(a, .inl (cA, n, .inl g))]) H locs := by
  obtain ⟨k, hk, hset⟩ := zfl ha
  obtain ⟨g1, g2, g3, g4⟩ := G
  have key : ∀ (m : Nat) (q : Nat × va_E), (bs.flatten.set k (a, .inl (cA, n, .inl g)))[m]? = some q → m = k ∧ q = (a, .inl (cA, n, .inl g)) ∨ ¬ m = k ∧ bs.flatten[m]? = some q := by
    intro m q h
    rw [List.getElem?_set] at h
    by_cases c : k = m
    · rw [if_pos c] at h
      split at h
      · exact Or.inl ⟨c.symm, (Option.some.inj h).symm⟩
      · cases h
    · rw [if_neg c] at h
      exact Or.inr ⟨fun z => c z.symm, h⟩
  refine ⟨g1, ?_, ?_, g4⟩
  · rw [hset]
    intro m q h
    rcases key m q h with ⟨c1, c2⟩ | ⟨c1, c2⟩
    · have h0 := g2 k _ hk
      rw [c2]
      have h1 : H[a]? = some (vp_cell cA (n, .inl f)) := h0
      show H[a]? = some (vp_cell cA (n, .inl g))
      rw [← z_cgA e]
      exact h1
    · exact g2 m q c2
  · rw [hset]
    have ad : ∀ (m : Nat) (q : Nat × va_E), (bs.flatten.set k (a, .inl (cA, n, .inl g)))[m]? = some q → ∃ q', bs.flatten[m]? = some q' ∧ q'.1 = q.1 := by
      intro m q h
      rcases key m q h with ⟨c1, c2⟩ | ⟨c1, c2⟩
      · exact ⟨_, by rw [c1]; exact hk, by rw [c2]⟩
      · exact ⟨q, c2, rfl⟩
    refine ⟨fun i j p q hi hj e => ?_, fun m q h => ?_⟩
    · obtain ⟨p', a1, a2⟩ := ad i p hi
      obtain ⟨q', b1, b2⟩ := ad j q hj
      exact g3.1 i j p' q' a1 b1 (by rw [a2, b2]; exact e)
    · obtain ⟨q', b1, b2⟩ := ad m q h
      rw [← b2]
      exact g3.2 m q' b1
def zGd (f : Nat → Int32) (c : Nat) : Prop := (f (9 + c)).toInt = 0 ∨ (f (9 + c)).toInt < (f (2 + c)).toInt
theorem zGd_s {f : Nat → Int32} {i : Nat} (h : ∀ c, c < i → zGd f c) (hi : zGd f i) : ∀ c, c < i + 1 → zGd f c := by
  intro c hc
  by_cases e : c = i
  · rw [e]; exact hi
  · exact h c (by omega)
theorem zGd_e {f : Nat → Int32} {i : Nat} (h : ∃ c, c < i ∧ ¬ zGd f c) : ∃ c, c < i + 1 ∧ ¬ zGd f c := by
  obtain ⟨c, a, b⟩ := h
  exact ⟨c, by omega, b⟩
theorem zGd_p {f : Nat → Int32} (h : ∀ c, c < 7 → zGd f c) : pPosts f = true := pPosts_t.mpr h
theorem zGd_n {f : Nat → Int32} (h : ∃ c, c < 7 ∧ ¬ zGd f c) : pPosts f = false := by
  obtain ⟨c, a, b⟩ := h
  cases z : pPosts f with
  | false => rfl
  | true => exact absurd (pPosts_t.mp z c a) b
def pHd (G : Nat → Int32) (flt fpl : Int32) : Nat → Int32 := upd (upd (upd G 4 0) 5 flt) 6 fpl
def pOkAt (s : Nat) (at_ : Int32) (G : Nat → Int32) : Prop := if at_.toInt = -1 then (G s).toInt < 2 else 0 ≤ at_.toInt ∧ at_.toInt < (G s).toInt
def pNr (s : Nat) (at_ : Int32) (G : Nat → Int32) : Int32 := if at_.toInt = -1 then G s else at_
def pBase (s nr : Nat) : Nat := if s = 0 then 610 + 51 * nr else if s = 1 then 712 + 121 * nr else 954 + 17 * nr
def pSize (s : Nat) : Nat := if s = 0 then 51 else if s = 1 then 121 else 17
def pPut (s nr : Nat) (row G : Nat → Int32) : Nat → Int32 := fun j => if pBase s nr ≤ j ∧ j < pBase s nr + pSize s then row (j - pBase s nr) else G j
def pCnt (s : Nat) (at_ : Int32) (G : Nat → Int32) : Nat → Int32 := if at_.toInt = -1 then upd G s (G s + 1) else G
def zText (z : pS × (Nat → Int32)) (s : Nat) (at_ : Int32) (G G' : Nat → Int32) (r : Int32) : Prop :=
  (¬ pOkAt s at_ G ∧ r = -2 ∧ ∀ j, j < 988 → G' j = pHd G 0 (-1) j) ∨ (pOkAt s at_ G ∧ ¬ z.1.2.2.1.toInt = 0 ∧ r = -1 ∧ ∀ j, j < 988 → G' j = pHd G z.1.2.2.1 z.1.2.2.2.1 j) ∨ (pOkAt s at_ G ∧ z.1.2.2.1.toInt = 0 ∧ r = pNr s at_ G ∧ ∀ j, j < 988 → G' j = pPut s (pNr s at_ G).toInt.toNat z.2 (pCnt s at_ (pHd G z.1.2.2.1 z.1.2.2.2.1)) j)
theorem zRr_st {k : pT} {n : Nat} {sz nx wh tk nu wo : Int32} {f : Nat → Int32} (hk : k = tkT (fun j => f (10 + j)) n) (hb : ∀ j, j < n → 0 ≤ (f (10 + j)).toInt) (hn : n ≤ 600) (hs : sz = nI n) (hT : zTokR k 0 nx wh tk nu wo) : zRr k n sz nx wh tk nu wo 0 (-1) (upd (upd (upd f 4 0) 5 0) 6 (-1)) (0, 0, 0, -1, -1) := by
  have e : ∀ j, upd (upd (upd f 4 0) 5 0) 6 (-1) (10 + j) = f (10 + j) := fun j => by rw [z_ne (by omega), z_ne (by omega), z_ne (by omega)]
  exact ⟨⟨hk.trans (congrArg (fun q => tkT q n) (funext fun j => (e j).symm)), fun j hj => by rw [e j]; exact hb j hj, hn, hs, Nat.zero_le _⟩, rfl, fun _ => hT, rfl, rfl, rfl⟩
theorem pAlso_w {kd w w' : Int32} {a : pS} (h : a.2.1.toInt = 0 → w = w') : pAlso kd w a = pAlso kd w' a := by
  by_cases c : a.2.1.toInt = 0
  · rw [h c]
  · rw [pAlso_n (Or.inl c), pAlso_n (Or.inl c)]
theorem zHd_all {G g : Nat → Int32} {flt fpl : Int32} (hp : zPal (upd (upd (upd G 4 0) 5 0) 6 (-1)) g) (h5 : g 5 = flt) (h6 : g 6 = fpl) : g = pHd G flt fpl := by
  funext j
  unfold pHd
  by_cases c6 : j = 6
  · rw [c6, z_eq rfl]; exact h6
  · rw [z_ne c6]
    by_cases c5 : j = 5
    · rw [c5, z_eq rfl]; exact h5
    · rw [z_ne c5, hp j c5 c6, z_ne c6, z_ne c5]
theorem zText_b {z : pS × (Nat → Int32)} {s : Nat} {at_ : Int32} {G : Nat → Int32} (h : ¬ pOkAt s at_ G) : zText z s at_ G (upd (upd (upd G 4 0) 5 0) 6 (-1)) (-2) := Or.inl ⟨h, rfl, fun j hj => rfl⟩
theorem zText_f {z : pS × (Nat → Int32)} {s : Nat} {at_ : Int32} {G g : Nat → Int32} (h : pOkAt s at_ G) (hf : ¬ z.1.2.2.1.toInt = 0) (hp : zPal (upd (upd (upd G 4 0) 5 0) 6 (-1)) g) (h5 : g 5 = z.1.2.2.1) (h6 : g 6 = z.1.2.2.2.1) : zText z s at_ G g (-1) := Or.inr (Or.inl ⟨h, hf, rfl, fun j hj => by rw [zHd_all hp h5 h6]⟩)
theorem zText_k {z : pS × (Nat → Int32)} {s kk : Nat} {at_ r : Int32} {G g A x : Nat → Int32} (h : pOkAt s at_ G) (hf : z.1.2.2.1.toInt = 0) (hr : r = pNr s at_ G) (hk : (pNr s at_ G).toInt = (kk : Int)) (hp : zPal (upd (upd (upd G 4 0) 5 0) 6 (-1)) g) (h5 : g 5 = z.1.2.2.1) (h6 : g 6 = z.1.2.2.2.1) (hA : A = pCnt s at_ g) (hS : ∀ j, j < pSize s → x (pBase s kk + j) = z.2 j) (hO : ∀ j, (j < pBase s kk ∨ pBase s kk + pSize s ≤ j) → x j = A j) : zText z s at_ G x r := by
  refine Or.inr (Or.inr ⟨h, hf, hr, fun j hj => ?_⟩)
  have e : (pNr s at_ G).toInt.toNat = kk := by omega
  rw [e]
  unfold pPut
  split
  · rename_i c
    have := hS (j - pBase s kk) (by omega)
    rw [show pBase s kk + (j - pBase s kk) = j by omega] at this
    exact this
  · rename_i c
    rw [hO j (by omega), hA, zHd_all hp h5 h6]
theorem pCnt_y {s : Nat} {at_ : Int32} {g : Nat → Int32} (h : at_.toInt = -1) : pCnt s at_ g = upd g s (g s + 1) := if_pos h
theorem pCnt_n {s : Nat} {at_ : Int32} {g : Nat → Int32} (h : ¬ at_.toInt = -1) : pCnt s at_ g = g := if_neg h
theorem pNr_y {s : Nat} {at_ : Int32} {g : Nat → Int32} (h : at_.toInt = -1) : pNr s at_ g = g s := if_pos h
theorem pNr_n {s : Nat} {at_ : Int32} {g : Nat → Int32} (h : ¬ at_.toInt = -1) : pNr s at_ g = at_ := if_neg h
theorem pOkAt_y {s : Nat} {at_ : Int32} {G : Nat → Int32} (h : at_.toInt = -1) : pOkAt s at_ G ↔ (G s).toInt < 2 := by unfold pOkAt; rw [if_pos h]
theorem pOkAt_n {s : Nat} {at_ : Int32} {G : Nat → Int32} (h : ¬ at_.toInt = -1) : pOkAt s at_ G ↔ (0 ≤ at_.toInt ∧ at_.toInt < (G s).toInt) := by unfold pOkAt; rw [if_neg h]

set_option maxHeartbeats 4000000 in
set_option maxRecDepth 100000 in
/-- c_fm_logLine -/
theorem c_fm_logLine (l : Launch) (T : zTy) (mo : Nat) (m_all : Nat) (m_has : Nat) (i_size : Int32) (i_next : Int32) (i_where : Int32) (i_token : Int32) (i_number : Int32) (i_word : Int32) (i_wrong : Int32) (i_farCrossing : Int32) (m_read : Nat) (i_z0 : Int32) (i_crossings : Int32) (i_inns : Int32) (m_posts : Nat) (m_shut : Nat) (m_here : Nat) (i_steps : Int32) (i_done : Int32) (i_at : Int32) (i_gone : Int32) (m_was : Nat) (m_came : Nat) (m_seenAt : Nat) (m_rowWorth : Nat) (m_farBy : Nat) (m_used : Nat) (i_everywhere : Int32) (i_again0 : Int32) (i_d0 : Int32) (i_never : Int32) (i_firstCame : Int32) (i_longRun : Int32) (i_moved : Int32) (i_crowd : Int32) (i_l0 : Int32) (i_fitMany : Int32) (i_fitLeast : Int32) (i_fitMost : Int32) (m_fitPost : Nat) (m_fitEnd : Nat) (m_keptPosts : Nat) (i_x0 : Int32) (f_all : Nat → Int32) (f_read : Nat → Int32) (k : pT) (n : Nat) (a : pS) (hsz : i_size.toInt ≤ 600) (hn0 : 0 ≤ i_next.toInt) (hns : i_next.toInt ≤ i_size.toInt) (hR : zCF 8 f_read) (hA : zRr k n i_size i_next i_where i_token i_number i_word i_wrong i_farCrossing f_all a) (hw : a.2.1.toInt = 0) : zMv l T yX12_logLine cX12_logLine 5 6 0 0 [.ref mo] [[zO11 mo m_all m_has i_size i_next i_where i_token i_number i_word i_wrong i_farCrossing m_read i_z0 i_crossings i_inns m_posts m_shut m_here i_steps i_done i_at i_gone m_was m_came m_seenAt m_rowWorth m_farBy m_used i_everywhere i_again0 i_d0 i_never i_firstCame i_longRun i_moved i_crowd i_l0 i_fitMany i_fitLeast i_fitMost m_fitPost m_fitEnd m_keptPosts i_x0], [zAr T 0 m_all 3952 f_all], [zAr T 0 m_read 121 f_read]] (fun bs => ∃ (j_next : Int32) (j_where : Int32) (j_token : Int32) (j_number : Int32) (j_word : Int32) (j_wrong : Int32) (g_all : Nat → Int32) (g_read : Nat → Int32), bs = [[zO11 mo m_all m_has i_size j_next j_where j_token j_number j_word j_wrong i_farCrossing m_read i_z0 i_crossings i_inns m_posts m_shut m_here i_steps i_done i_at i_gone m_was m_came m_seenAt m_rowWorth m_farBy m_used i_everywhere i_again0 i_d0 i_never i_firstCame i_longRun i_moved i_crowd i_l0 i_fitMany i_fitLeast i_fitMost m_fitPost m_fitEnd m_keptPosts i_x0], [zAr T 0 m_all 3952 g_all], [zAr T 0 m_read 121 g_read]] ∧ 0 ≤ j_next.toInt ∧ j_next.toInt ≤ i_size.toInt ∧ i_next.toInt ≤ j_next.toInt ∧ (¬ j_wrong.toInt = 0 ∨ i_next.toInt < j_next.toInt ∨ j_token.toInt = 0) ∧ zPal f_all g_all ∧ zCF 8 g_read ∧ zRr k n i_size j_next j_where j_token j_number j_word j_wrong i_farCrossing g_all (pLog k a f_read).1 ∧ g_read = (pLog k a f_read).2) := by
  refine zMv_of (own := RX12) (by decide) rfl (Nat.le_of_ble_eq_true rfl) ?_
  intro p e s m args below meth c A ls C hr hlocks hnm hAe G hl
  refine zHide (fun Qz_ hQz_ => ?_)
  have hx := C.1
  have hb := C.2.1
  have hl : lv_has ls 5 [(0, .ref mo)] := hl
  have hok := zRr_ok hA
  refine zAn6 (id hA) ?_
  intro hA1 hA6 hA7 hA8 hA9 hA10
  replace hA7 : zHd _ := hA7
  have hka : zHd _ := hok a.1 hA1.2.2.2.2
  have hkb := hka.1
  have hkc := hka.2.1
  have hT4 := pTk_le hok hA1.2.2.2.2
  refine zAn5 (hA7 hw) ?_
  intro t1 t2 t3 t4 t5
  replace t4 : zHd _ := t4
  replace t5 : zHd _ := t5
  have t3i : i_token.toInt = (pTk k a.1 : Int) := by rw [t3]; exact nI_toInt (by omega)
  have hR0 : 0 ≤ (f_read 0).toInt ∧ (f_read 0).toInt ≤ 8 := hR
  refine lv_aload_n hx hb dX12_logLine_0 rfl (lv_at hl 0 rfl) ?_
  refine z_get C G clX12 0 rfl 4 (by decide) m_fl_RX12_77 rfl dX12_logLine_1 ?_
  refine lv_istore_n (lv' := [(1, .int i_where), (0, .ref mo)]) hx hb dX12_logLine_4 rfl hl (by decide) (zLvf_h rfl) (fun ls hl => ?_)
  refine lv_aload_n hx hb dX12_logLine_5 rfl (lv_at hl 1 rfl) ?_
  refine lv_bipush (v := 11) hx hb dX12_logLine_6 (by decide) ?_
  refine lv_bipush (v := 12) hx hb dX12_logLine_8 (by decide) ?_
  refine z_Vi (bc := [[zO11 mo m_all m_has i_size i_next i_where i_token i_number i_word i_wrong i_farCrossing m_read i_z0 i_crossings i_inns m_posts m_shut m_here i_steps i_done i_at i_gone m_was m_came m_seenAt m_rowWorth m_farBy m_used i_everywhere i_again0 i_d0 i_never i_firstCame i_longRun i_moved i_crowd i_l0 i_fitMany i_fitLeast i_fitMost m_fitPost m_fitEnd m_keptPosts i_x0], [zAr T 0 m_all 3952 f_all]]) (br := [[zAr T 0 m_read 121 f_read]]) (As := [.int 11, .int 12]) (rest := []) C G (c_fm_wordIn l T mo m_all m_has i_size i_next i_where i_token i_number i_word i_wrong i_farCrossing m_read i_z0 i_crossings i_inns m_posts m_shut m_here i_steps i_done i_at i_gone m_was m_came m_seenAt m_rowWorth m_farBy m_used i_everywhere i_again0 i_d0 i_never i_firstCame i_longRun i_moved i_crowd i_l0 i_fitMany i_fitLeast i_fitMost m_fitPost m_fitEnd m_keptPosts i_x0 f_all k n a 11 12 11 12 (by first | with_reducible assumption | with_reducible rfl | omega | assumption | rfl) (by first | with_reducible assumption | with_reducible rfl | omega | assumption | rfl) (by first | with_reducible assumption | with_reducible rfl | omega | assumption | rfl) hA rfl rfl) (kV_RX12_133 C.2.2.2.2 (Nat.le_of_ble_eq_true rfl) (Nat.le_of_ble_eq_true rfl)) [0, 1] [0, 0] rfl rfl (ci := 11) (qc := (RX12, TX12, 43)) rfl rfl (List.mem_flatten.mpr ⟨_, List.mem_of_getElem? (i := 0) rfl, List.mem_cons_self⟩) rfl rfl hl.1 dX12_logLine_10 (Nat.le_of_ble_eq_true rfl) (Nat.le_of_ble_eq_true rfl) (fun r_16 b1 H locs hw G => ?_)
  refine zEx7 hw ?_
  intro j_next_1 j_where_2 j_token_3 j_number_4 j_word_5 j_wrong_6 g_all_7
  refine zCu9 ?_
  intro hbs9 h_8 h_9 h_10 h_11 h_12 h_13 h_14 h_15
  clear hw
  subst hbs9
  have G : zS T A s.heap s [[zAr T 0 m_read 121 f_read], [zO11 mo m_all m_has i_size j_next_1 j_where_2 j_token_3 j_number_4 j_word_5 j_wrong_6 i_farCrossing m_read i_z0 i_crossings i_inns m_posts m_shut m_here i_steps i_done i_at i_gone m_was m_came m_seenAt m_rowWorth m_farBy m_used i_everywhere i_again0 i_d0 i_never i_firstCame i_longRun i_moved i_crowd i_l0 i_fitMany i_fitLeast i_fitMost m_fitPost m_fitEnd m_keptPosts i_x0], [zAr T 0 m_all 3952 g_all_7]] _ _ := G
  have h_13 : (r_16.toInt = 0 ∨ (11 : Int) ≤ r_16.toInt ∧ r_16.toInt ≤ (12 : Int)) := h_13
  obtain ⟨d1, d2, hd⟩ : ∃ (d1 : Nat) (d2 : pS), pWord k 11 12 a = (d1, d2) := ⟨_, _, rfl⟩
  have hRd : zRr k n i_size j_next_1 j_where_2 j_token_3 j_number_4 j_word_5 j_wrong_6 i_farCrossing g_all_7 d2 := by have q9 := h_14; rw [hd] at q9; exact q9
  have hvd : r_16 = nI d1 := by have q9 := h_15; rw [hd] at q9; exact q9
  have hokD := zRr_ok hRd
  refine zAn6 (id hRd) ?_
  intro hA1D hA6D hA7D hA8D hA9D hA10D
  replace hA7D : zHd _ := hA7D
  have hkaD : zHd _ := hokD d2.1 hA1D.2.2.2.2
  have hkbD := hkaD.1
  have hkcD := hkaD.2.1
  have hT4D := pTk_le hokD hA1D.2.2.2.2
  have hdr : d2.2.1.toInt = 0 → 11 ≤ d1 ∧ d1 ≤ 12 := fun q9 => by have q8 := pWord_r (k := k) (lo := 11) (hi := 12) (a := a) (by rw [hd]; exact q9); have q6 := q8.2.2.2; rw [hd] at q6; have q7 : d1 = pWd k a.1 := congrArg Prod.fst q6; omega
  have hd4 : d1 ≤ 12 := by have q9 := pWord_1 k 11 12 a; rw [hd] at q9; exact q9
  have hdi : (r_16).toInt = (d1 : Int) := by rw [hvd]; exact nI_toInt (by omega)
  refine lv_bipush (v := 11) hx hb dX12_logLine_13 (by decide) ?_
  refine lv_icmp_ne (tgt := 22) hx hb dX12_logLine_15 (by decide) (fun c_17 => ?_) (fun c_17 => ?_)
  · have c_17n : ¬ r_16.toInt = (11 : Int) := fun q => c_17 ((fa_eq _ _).mpr q)
    refine lv_iconst (v := 0) hx hb dX12_logLine_22 (by decide) ?_
    refine lv_istore_n (lv' := [(2, .int 0), (1, .int i_where), (0, .ref mo)]) hx hb dX12_logLine_23 rfl hl (by decide) (zLvf_h rfl) (fun ls hl => ?_)
    refine zMt2 (T := T) 48 (fun (gb : Nat → Int32) (b : pS) => [[zAr T 0 m_read 121 f_read], [zO11 mo m_all m_has i_size j_next_1 j_where_2 j_token_3 j_number_4 j_word_5 j_wrong_6 i_farCrossing m_read i_z0 i_crossings i_inns m_posts m_shut m_here i_steps i_done i_at i_gone m_was m_came m_seenAt m_rowWorth m_farBy m_used i_everywhere i_again0 i_d0 i_never i_firstCame i_longRun i_moved i_crowd i_l0 i_fitMany i_fitLeast i_fitMost m_fitPost m_fitEnd m_keptPosts i_x0], [zAr T 0 m_all 3952 gb]]) (fun (gb : Nat → Int32) (b : pS) => [(2, .int 0), (1, .int i_where), (0, .ref mo)]) (fun (gb : Nat → Int32) (b : pS) => b = pDB 8 i_where f_read d2 ∧ zRr k n i_size j_next_1 j_where_2 j_token_3 j_number_4 j_word_5 j_wrong_6 i_farCrossing gb b ∧ zPal f_all gb) G hl ?_ (fun jn_48 => ?_)
    · intro gb b hI9 H locs ls G hl
      replace hI9 : b = pDB 8 i_where f_read d2 ∧ zRr k n i_size j_next_1 j_where_2 j_token_3 j_number_4 j_word_5 j_wrong_6 i_farCrossing gb b ∧ zPal f_all gb := hI9
      refine zAn3 hI9 ?_
      intro hbq hRb hpgb
      clear hI9
      replace G : zS T A s.heap s [[zAr T 0 m_read 121 f_read], [zO11 mo m_all m_has i_size j_next_1 j_where_2 j_token_3 j_number_4 j_word_5 j_wrong_6 i_farCrossing m_read i_z0 i_crossings i_inns m_posts m_shut m_here i_steps i_done i_at i_gone m_was m_came m_seenAt m_rowWorth m_farBy m_used i_everywhere i_again0 i_d0 i_never i_firstCame i_longRun i_moved i_crowd i_l0 i_fitMany i_fitLeast i_fitMost m_fitPost m_fitEnd m_keptPosts i_x0], [zAr T 0 m_all 3952 gb]] _ _ := G
      replace hl : lv_has ls 5 [(2, .int 0), (1, .int i_where), (0, .ref mo)] := hl
      refine lv_aload_n hx hb dX12_logLine_48 rfl (lv_at hl 2 rfl) ?_
      refine lv_iconst (v := 0) hx hb dX12_logLine_49 (by decide) ?_
      refine lv_bipush (v := 6) hx hb dX12_logLine_50 (by decide) ?_
      refine z_Vi (bc := [[zO11 mo m_all m_has i_size j_next_1 j_where_2 j_token_3 j_number_4 j_word_5 j_wrong_6 i_farCrossing m_read i_z0 i_crossings i_inns m_posts m_shut m_here i_steps i_done i_at i_gone m_was m_came m_seenAt m_rowWorth m_farBy m_used i_everywhere i_again0 i_d0 i_never i_firstCame i_longRun i_moved i_crowd i_l0 i_fitMany i_fitLeast i_fitMost m_fitPost m_fitEnd m_keptPosts i_x0], [zAr T 0 m_all 3952 gb]]) (br := [[zAr T 0 m_read 121 f_read]]) (As := [.int 0, .int 6]) (rest := []) C G (c_fm_numbered l T mo m_all m_has i_size j_next_1 j_where_2 j_token_3 j_number_4 j_word_5 j_wrong_6 i_farCrossing m_read i_z0 i_crossings i_inns m_posts m_shut m_here i_steps i_done i_at i_gone m_was m_came m_seenAt m_rowWorth m_farBy m_used i_everywhere i_again0 i_d0 i_never i_firstCame i_longRun i_moved i_crowd i_l0 i_fitMany i_fitLeast i_fitMost m_fitPost m_fitEnd m_keptPosts i_x0 gb k n b 0 6 (by first | with_reducible assumption | with_reducible rfl | omega | assumption | rfl) (by first | with_reducible assumption | with_reducible rfl | omega | assumption | rfl) (by first | with_reducible assumption | with_reducible rfl | omega | assumption | rfl) (by decide) hRb) (kV_RX12_122 C.2.2.2.2 (Nat.le_of_ble_eq_true rfl) (Nat.le_of_ble_eq_true rfl)) [1, 2] [1, 0] rfl rfl (ci := 11) (qc := (RX12, TX12, 43)) rfl rfl (List.mem_flatten.mpr ⟨_, List.mem_of_getElem? (i := 0) rfl, List.mem_cons_self⟩) rfl rfl hl.1 dX12_logLine_52 (Nat.le_of_ble_eq_true rfl) (Nat.le_of_ble_eq_true rfl) (fun r_34 b1 H locs hw G => ?_)
      refine zEx7 hw ?_
      intro j_next_18 j_where_19 j_token_20 j_number_21 j_word_22 j_wrong_23 g_all_24
      refine zCu10 ?_
      intro hbs9 h_25 h_26 h_27 h_28 h_29 h_30 h_31 h_32 h_33
      clear hw
      subst hbs9
      have G : zS T A s.heap s [[zAr T 0 m_read 121 f_read], [zO11 mo m_all m_has i_size j_next_18 j_where_19 j_token_20 j_number_21 j_word_22 j_wrong_23 i_farCrossing m_read i_z0 i_crossings i_inns m_posts m_shut m_here i_steps i_done i_at i_gone m_was m_came m_seenAt m_rowWorth m_farBy m_used i_everywhere i_again0 i_d0 i_never i_firstCame i_longRun i_moved i_crowd i_l0 i_fitMany i_fitLeast i_fitMost m_fitPost m_fitEnd m_keptPosts i_x0], [zAr T 0 m_all 3952 g_all_24]] _ _ := G
      have h_30 : (0 : Int) ≤ r_34.toInt := h_30
      have h_31 : r_34.toInt ≤ (6 : Int) := h_31
      refine lv_istore_n (lv' := [(3, .int r_34), (2, .int 0), (1, .int i_where), (0, .ref mo)]) hx hb dX12_logLine_55 rfl hl (by decide) (zLvf_h rfl) (fun ls hl => ?_)
      refine lv_iload_n hx hb dX12_logLine_56 rfl (lv_at hl 1 rfl) ?_
      refine lv_if_eq (tgt := 70) hx hb dX12_logLine_57 (by decide) (fun _ => ?_) (fun q => absurd (by decide) q)
      refine lv_iconst (v := (-1)) hx hb dX12_logLine_70 (by decide) ?_
      refine lv_istore (lv' := [(4, .int (-1)), (3, .int r_34), (2, .int 0), (1, .int i_where), (0, .ref mo)]) hx hb dX12_logLine_71 hl (by decide) (zLvf_h rfl) (fun ls hl => ?_)
      refine lv_aload_n hx hb dX12_logLine_73 rfl (lv_at hl 4 rfl) ?_
      refine z_get C G clX12 1 rfl 10 (by decide) m_fl_RX12_17 rfl dX12_logLine_74 ?_
      refine lv_iconst (v := 0) hx hb dX12_logLine_77 (by decide) ?_
      refine z_ild C G 0 rfl (vp_in_nI (n := 0) (by decide) (by decide)) dX12_logLine_78 ?_
      refine lv_topi (fun v_35 ev_35 => ?_)
      rw [show ((0 : Int32).toNatClampNeg) = 0 from rfl] at ev_35
      subst ev_35
      refine lv_bipush (v := 8) hx hb dX12_logLine_79 (by decide) ?_
      refine lv_icmp_ge (tgt := 127) hx hb dX12_logLine_81 (by decide) (fun c_36 => ?_) (fun c_36 => ?_)
      · have c_36n : (8 : Int) ≤ (f_read 0).toInt := (fa_le _ _).mp c_36
        refine lv_aload_n hx hb dX12_logLine_127 rfl (lv_at hl 4 rfl) ?_
        refine z_Vv (bc := [[zO11 mo m_all m_has i_size j_next_18 j_where_19 j_token_20 j_number_21 j_word_22 j_wrong_23 i_farCrossing m_read i_z0 i_crossings i_inns m_posts m_shut m_here i_steps i_done i_at i_gone m_was m_came m_seenAt m_rowWorth m_farBy m_used i_everywhere i_again0 i_d0 i_never i_firstCame i_longRun i_moved i_crowd i_l0 i_fitMany i_fitLeast i_fitMost m_fitPost m_fitEnd m_keptPosts i_x0], [zAr T 0 m_all 3952 g_all_24]]) (br := [[zAr T 0 m_read 121 f_read]]) (As := []) (rest := []) C G (c_fm_endsLine l T mo m_all m_has i_size j_next_18 j_where_19 j_token_20 j_number_21 j_word_22 j_wrong_23 i_farCrossing m_read i_z0 i_crossings i_inns m_posts m_shut m_here i_steps i_done i_at i_gone m_was m_came m_seenAt m_rowWorth m_farBy m_used i_everywhere i_again0 i_d0 i_never i_firstCame i_longRun i_moved i_crowd i_l0 i_fitMany i_fitLeast i_fitMost m_fitPost m_fitEnd m_keptPosts i_x0 g_all_24 k n ((pNum k 0 6 b).2) (by first | with_reducible assumption | with_reducible rfl | omega | assumption | rfl) (by first | with_reducible assumption | with_reducible rfl | omega | assumption | rfl) (by first | with_reducible assumption | with_reducible rfl | omega | assumption | rfl) h_32) (kV_RX12_140 C.2.2.2.2 (Nat.le_of_ble_eq_true rfl) (Nat.le_of_ble_eq_true rfl)) [1, 2] [1, 0] rfl rfl (ci := 11) (qc := (RX12, TX12, 43)) rfl rfl (List.mem_flatten.mpr ⟨_, List.mem_of_getElem? (i := 0) rfl, List.mem_cons_self⟩) rfl rfl hl.1 dX12_logLine_128 (Nat.le_of_ble_eq_true rfl) (Nat.le_of_ble_eq_true rfl) (fun b1 H locs hw G => ?_)
        refine zEx7 hw ?_
        intro j_next_37 j_where_38 j_token_39 j_number_40 j_word_41 j_wrong_42 g_all_43
        refine zCu7 ?_
        intro hbs9 h_44 h_45 h_46 h_47 h_48 h_49
        clear hw
        subst hbs9
        have G : zS T A s.heap s [[zAr T 0 m_read 121 f_read], [zO11 mo m_all m_has i_size j_next_37 j_where_38 j_token_39 j_number_40 j_word_41 j_wrong_42 i_farCrossing m_read i_z0 i_crossings i_inns m_posts m_shut m_here i_steps i_done i_at i_gone m_was m_came m_seenAt m_rowWorth m_farBy m_used i_everywhere i_again0 i_d0 i_never i_firstCame i_longRun i_moved i_crowd i_l0 i_fitMany i_fitLeast i_fitMost m_fitPost m_fitEnd m_keptPosts i_x0], [zAr T 0 m_all 3952 g_all_43]] _ _ := G
        have G := G.sub (bs' := [[zO11 mo m_all m_has i_size j_next_37 j_where_38 j_token_39 j_number_40 j_word_41 j_wrong_42 i_farCrossing m_read i_z0 i_crossings i_inns m_posts m_shut m_here i_steps i_done i_at i_gone m_was m_came m_seenAt m_rowWorth m_farBy m_used i_everywhere i_again0 i_d0 i_never i_firstCame i_longRun i_moved i_crowd i_l0 i_fitMany i_fitLeast i_fitMost m_fitPost m_fitEnd m_keptPosts i_x0], [zAr T 0 m_all 3952 g_all_43], [zAr T 0 m_read 121 f_read]]) [1, 2, 0] rfl
        exact z_back hQz_ (z_vret C hr hlocks G (Nat.le_of_ble_eq_true rfl) (Nat.le_of_ble_eq_true rfl) dX12_logLine_131 ⟨j_next_37, j_where_38, j_token_39, j_number_40, j_word_41, j_wrong_42, g_all_43, f_read, rfl, (by first | with_reducible assumption | omega | trivial | assumption), (by first | with_reducible assumption | omega | trivial | assumption), (by first | with_reducible assumption | omega | trivial | assumption), (by first | with_reducible assumption | omega | trivial | assumption), (hpgb.tr (h_29.tr h_48)), (by first | with_reducible assumption | omega | trivial | assumption), (by unfold pLog; rw [hd]; show zRr _ _ _ _ _ _ _ _ _ _ _ (pEndL k (pFact k d1 (nI (pWh k a.1)) d2 f_read).1); rw [← t2, pFact_1 hbq, pGY_lo (by omega)]; exact h_49), (by unfold pLog; rw [hd]; show _ = (pFact k d1 (nI (pWh k a.1)) d2 f_read).2; rw [← t2]; unfold pFact; rw [← hbq]; exact (if_neg (by omega)).symm)⟩)
      · have c_36n : ¬ (8 : Int) ≤ (f_read 0).toInt := fun q => c_36 ((fa_le _ _).mpr q)
        refine lv_aload_n hx hb dX12_logLine_84 rfl (lv_at hl 4 rfl) ?_
        refine z_get C G clX12 1 rfl 10 (by decide) m_fl_RX12_17 rfl dX12_logLine_85 ?_
        refine lv_iconst (v := 1) hx hb dX12_logLine_88 (by decide) ?_
        refine lv_iconst (v := 2) hx hb dX12_logLine_89 (by decide) ?_
        refine lv_aload_n hx hb dX12_logLine_90 rfl (lv_at hl 4 rfl) ?_
        refine z_get C G clX12 1 rfl 10 (by decide) m_fl_RX12_17 rfl dX12_logLine_91 ?_
        refine lv_iconst (v := 0) hx hb dX12_logLine_94 (by decide) ?_
        refine z_ild C G 0 rfl (vp_in_nI (n := 0) (by decide) (by decide)) dX12_logLine_95 ?_
        refine lv_topi (fun v_51 ev_51 => ?_)
        rw [show ((0 : Int32).toNatClampNeg) = 0 from rfl] at ev_51
        subst ev_51
        refine lv_imul hx hb dX12_logLine_96 ?_
        refine lv_topi (fun y_52 ey_52 => ?_)
        have ey_52i : y_52.toInt = (2 : Int) * (f_read 0).toInt := by rw [ey_52]; exact z_imulI (x := (2 : Int32)) (y := (f_read 0)) (by show -2147483648 ≤ (2 : Int) * (f_read 0).toInt; omega) (by show (2 : Int) * (f_read 0).toInt < 2147483648; omega)
        refine lv_iadd hx hb dX12_logLine_97 ?_
        refine lv_topi (fun y_53 ey_53 => ?_)
        have ey_53i : y_53.toInt = (1 : Int) + y_52.toInt := by rw [ey_53]; exact z_iaddI (x := (1 : Int32)) (y := y_52) (by show -2147483648 ≤ (1 : Int) + y_52.toInt; omega) (by show (1 : Int) + y_52.toInt < 2147483648; omega)
        refine lv_iload_n hx hb dX12_logLine_98 rfl (lv_at hl 1 rfl) ?_
        refine z_ist C G 0 rfl (vp_in_iff.mpr ⟨by omega, by omega⟩) dX12_logLine_99 (fun H locs G => ?_)
        have G : zS T A s.heap s [[zAr T 0 m_read 121 (upd f_read y_53.toNatClampNeg r_34)], [zO11 mo m_all m_has i_size j_next_18 j_where_19 j_token_20 j_number_21 j_word_22 j_wrong_23 i_farCrossing m_read i_z0 i_crossings i_inns m_posts m_shut m_here i_steps i_done i_at i_gone m_was m_came m_seenAt m_rowWorth m_farBy m_used i_everywhere i_again0 i_d0 i_never i_firstCame i_longRun i_moved i_crowd i_l0 i_fitMany i_fitLeast i_fitMost m_fitPost m_fitEnd m_keptPosts i_x0], [zAr T 0 m_all 3952 g_all_24]] _ _ := G
        refine lv_aload_n hx hb dX12_logLine_100 rfl (lv_at hl 4 rfl) ?_
        refine z_get C G clX12 1 rfl 10 (by decide) m_fl_RX12_17 rfl dX12_logLine_101 ?_
        refine lv_iconst (v := 2) hx hb dX12_logLine_104 (by decide) ?_
        refine lv_iconst (v := 2) hx hb dX12_logLine_105 (by decide) ?_
        refine lv_aload_n hx hb dX12_logLine_106 rfl (lv_at hl 4 rfl) ?_
        refine z_get C G clX12 1 rfl 10 (by decide) m_fl_RX12_17 rfl dX12_logLine_107 ?_
        refine lv_iconst (v := 0) hx hb dX12_logLine_110 (by decide) ?_
        refine z_ild C G 0 rfl (vp_in_nI (n := 0) (by decide) (by decide)) dX12_logLine_111 ?_
        refine lv_topi (fun v_54 ev_54 => ?_)
        rw [show ((0 : Int32).toNatClampNeg) = 0 from rfl] at ev_54
        subst ev_54
        have hcl_y_53 := z_clI (x := y_53) (by omega)
        rw [show (upd f_read y_53.toNatClampNeg r_34) 0 = f_read 0 from by unfold upd; rw [if_neg (by omega)]]
        refine lv_imul hx hb dX12_logLine_112 ?_
        refine lv_topi (fun y_55 ey_55 => ?_)
        have ey_55i : y_55.toInt = (2 : Int) * (f_read 0).toInt := by rw [ey_55]; exact z_imulI (x := (2 : Int32)) (y := (f_read 0)) (by show -2147483648 ≤ (2 : Int) * (f_read 0).toInt; omega) (by show (2 : Int) * (f_read 0).toInt < 2147483648; omega)
        refine lv_iadd hx hb dX12_logLine_113 ?_
        refine lv_topi (fun y_56 ey_56 => ?_)
        have ey_56i : y_56.toInt = (2 : Int) + y_55.toInt := by rw [ey_56]; exact z_iaddI (x := (2 : Int32)) (y := y_55) (by show -2147483648 ≤ (2 : Int) + y_55.toInt; omega) (by show (2 : Int) + y_55.toInt < 2147483648; omega)
        refine lv_iload hx hb dX12_logLine_114 (lv_at hl 0 rfl) ?_
        refine z_ist C G 0 rfl (vp_in_iff.mpr ⟨by omega, by omega⟩) dX12_logLine_116 (fun H locs G => ?_)
        have G : zS T A s.heap s [[zAr T 0 m_read 121 (upd (upd f_read y_53.toNatClampNeg r_34) y_56.toNatClampNeg (-1))], [zO11 mo m_all m_has i_size j_next_18 j_where_19 j_token_20 j_number_21 j_word_22 j_wrong_23 i_farCrossing m_read i_z0 i_crossings i_inns m_posts m_shut m_here i_steps i_done i_at i_gone m_was m_came m_seenAt m_rowWorth m_farBy m_used i_everywhere i_again0 i_d0 i_never i_firstCame i_longRun i_moved i_crowd i_l0 i_fitMany i_fitLeast i_fitMost m_fitPost m_fitEnd m_keptPosts i_x0], [zAr T 0 m_all 3952 g_all_24]] _ _ := G
        refine lv_aload_n hx hb dX12_logLine_117 rfl (lv_at hl 4 rfl) ?_
        refine z_get C G clX12 1 rfl 10 (by decide) m_fl_RX12_17 rfl dX12_logLine_118 ?_
        refine lv_iconst (v := 0) hx hb dX12_logLine_121 (by decide) ?_
        refine lv_dup2_11 hx hb dX12_logLine_122 rfl rfl ?_
        refine z_ild C G 0 rfl (vp_in_nI (n := 0) (by decide) (by decide)) dX12_logLine_123 ?_
        refine lv_topi (fun v_57 ev_57 => ?_)
        rw [show ((0 : Int32).toNatClampNeg) = 0 from rfl] at ev_57
        subst ev_57
        refine lv_iconst (v := 1) hx hb dX12_logLine_124 (by decide) ?_
        have hcl_y_56 := z_clI (x := y_56) (by omega)
        have hcl_y_53 := z_clI (x := y_53) (by omega)
        rw [show (upd (upd f_read y_53.toNatClampNeg r_34) y_56.toNatClampNeg (-1)) 0 = f_read 0 from by unfold upd; rw [if_neg (by omega), if_neg (by omega)]]
        refine lv_iadd hx hb dX12_logLine_125 ?_
        refine lv_topi (fun y_58 ey_58 => ?_)
        have ey_58i : y_58.toInt = (f_read 0).toInt + (1 : Int) := by rw [ey_58]; exact z_iaddI (x := (f_read 0)) (y := (1 : Int32)) (by show -2147483648 ≤ (f_read 0).toInt + (1 : Int); omega) (by show (f_read 0).toInt + (1 : Int) < 2147483648; omega)
        refine z_ist C G 0 rfl (vp_in_nI (n := 0) (by decide) (by decide)) dX12_logLine_126 (fun H locs G => ?_)
        have G : zS T A s.heap s [[zAr T 0 m_read 121 (upd (upd (upd f_read y_53.toNatClampNeg r_34) y_56.toNatClampNeg (-1)) 0 y_58)], [zO11 mo m_all m_has i_size j_next_18 j_where_19 j_token_20 j_number_21 j_word_22 j_wrong_23 i_farCrossing m_read i_z0 i_crossings i_inns m_posts m_shut m_here i_steps i_done i_at i_gone m_was m_came m_seenAt m_rowWorth m_farBy m_used i_everywhere i_again0 i_d0 i_never i_firstCame i_longRun i_moved i_crowd i_l0 i_fitMany i_fitLeast i_fitMost m_fitPost m_fitEnd m_keptPosts i_x0], [zAr T 0 m_all 3952 g_all_24]] _ _ := G
        refine lv_aload_n hx hb dX12_logLine_127 rfl (lv_at hl 4 rfl) ?_
        refine z_Vv (bc := [[zO11 mo m_all m_has i_size j_next_18 j_where_19 j_token_20 j_number_21 j_word_22 j_wrong_23 i_farCrossing m_read i_z0 i_crossings i_inns m_posts m_shut m_here i_steps i_done i_at i_gone m_was m_came m_seenAt m_rowWorth m_farBy m_used i_everywhere i_again0 i_d0 i_never i_firstCame i_longRun i_moved i_crowd i_l0 i_fitMany i_fitLeast i_fitMost m_fitPost m_fitEnd m_keptPosts i_x0], [zAr T 0 m_all 3952 g_all_24]]) (br := [[zAr T 0 m_read 121 (upd (upd (upd f_read y_53.toNatClampNeg r_34) y_56.toNatClampNeg (-1)) 0 y_58)]]) (As := []) (rest := []) C G (c_fm_endsLine l T mo m_all m_has i_size j_next_18 j_where_19 j_token_20 j_number_21 j_word_22 j_wrong_23 i_farCrossing m_read i_z0 i_crossings i_inns m_posts m_shut m_here i_steps i_done i_at i_gone m_was m_came m_seenAt m_rowWorth m_farBy m_used i_everywhere i_again0 i_d0 i_never i_firstCame i_longRun i_moved i_crowd i_l0 i_fitMany i_fitLeast i_fitMost m_fitPost m_fitEnd m_keptPosts i_x0 g_all_24 k n ((pNum k 0 6 b).2) (by first | with_reducible assumption | with_reducible rfl | omega | assumption | rfl) (by first | with_reducible assumption | with_reducible rfl | omega | assumption | rfl) (by first | with_reducible assumption | with_reducible rfl | omega | assumption | rfl) h_32) (kV_RX12_140 C.2.2.2.2 (Nat.le_of_ble_eq_true rfl) (Nat.le_of_ble_eq_true rfl)) [1, 2] [1, 0] rfl rfl (ci := 11) (qc := (RX12, TX12, 43)) rfl rfl (List.mem_flatten.mpr ⟨_, List.mem_of_getElem? (i := 0) rfl, List.mem_cons_self⟩) rfl rfl hl.1 dX12_logLine_128 (Nat.le_of_ble_eq_true rfl) (Nat.le_of_ble_eq_true rfl) (fun b1 H locs hw G => ?_)
        refine zEx7 hw ?_
        intro j_next_59 j_where_60 j_token_61 j_number_62 j_word_63 j_wrong_64 g_all_65
        refine zCu7 ?_
        intro hbs9 h_66 h_67 h_68 h_69 h_70 h_71
        clear hw
        subst hbs9
        have G : zS T A s.heap s [[zAr T 0 m_read 121 (upd (upd (upd f_read y_53.toNatClampNeg r_34) y_56.toNatClampNeg (-1)) 0 y_58)], [zO11 mo m_all m_has i_size j_next_59 j_where_60 j_token_61 j_number_62 j_word_63 j_wrong_64 i_farCrossing m_read i_z0 i_crossings i_inns m_posts m_shut m_here i_steps i_done i_at i_gone m_was m_came m_seenAt m_rowWorth m_farBy m_used i_everywhere i_again0 i_d0 i_never i_firstCame i_longRun i_moved i_crowd i_l0 i_fitMany i_fitLeast i_fitMost m_fitPost m_fitEnd m_keptPosts i_x0], [zAr T 0 m_all 3952 g_all_65]] _ _ := G
        have G := G.sub (bs' := [[zO11 mo m_all m_has i_size j_next_59 j_where_60 j_token_61 j_number_62 j_word_63 j_wrong_64 i_farCrossing m_read i_z0 i_crossings i_inns m_posts m_shut m_here i_steps i_done i_at i_gone m_was m_came m_seenAt m_rowWorth m_farBy m_used i_everywhere i_again0 i_d0 i_never i_firstCame i_longRun i_moved i_crowd i_l0 i_fitMany i_fitLeast i_fitMost m_fitPost m_fitEnd m_keptPosts i_x0], [zAr T 0 m_all 3952 g_all_65], [zAr T 0 m_read 121 (upd (upd (upd f_read y_53.toNatClampNeg r_34) y_56.toNatClampNeg (-1)) 0 y_58)]]) [1, 2, 0] rfl
        exact z_back hQz_ (z_vret C hr hlocks G (Nat.le_of_ble_eq_true rfl) (Nat.le_of_ble_eq_true rfl) dX12_logLine_131 ⟨j_next_59, j_where_60, j_token_61, j_number_62, j_word_63, j_wrong_64, g_all_65, (upd (upd (upd f_read y_53.toNatClampNeg r_34) y_56.toNatClampNeg (-1)) 0 y_58), rfl, (by first | with_reducible assumption | omega | trivial | assumption), (by first | with_reducible assumption | omega | trivial | assumption), (by first | with_reducible assumption | omega | trivial | assumption), (by first | with_reducible assumption | omega | trivial | assumption), (hpgb.tr (h_29.tr h_70)), (zCF_upd (k := 0) (v := y_58) (zCF_upd (k := y_56.toNatClampNeg) (v := (-1)) (zCF_upd (k := y_53.toNatClampNeg) (v := r_34) (by first | with_reducible assumption | assumption) (by have q9 := z_clI (x := y_53) (by omega); omega)) (by have q9 := z_clI (x := y_56) (by omega); have t9 : ((-1) : Int32).toInt = -1 := rfl; omega)) (by omega)), (by unfold pLog; rw [hd]; show zRr _ _ _ _ _ _ _ _ _ _ _ (pEndL k (pFact k d1 (nI (pWh k a.1)) d2 f_read).1); rw [← t2, pFact_1 hbq, pGY_lo (by omega)]; exact h_71), (by unfold pLog; rw [hd]; show _ = (pFact k d1 (nI (pWh k a.1)) d2 f_read).2; rw [← t2]; unfold pFact; rw [← hbq]; rw [if_pos (by omega)]; have hy2 : (pGY k d1 (pNum k 0 6 b).2).1 = -1 := (congrArg Prod.fst (pGY_lo (by omega))); have qy_56 := z_clI (x := y_56) (by omega); have qy_53 := z_clI (x := y_53) (by omega); rw [hy2, ← h_33, show y_56.toNatClampNeg = 2 + 2 * (f_read 0).toInt.toNat by omega, show y_53.toNatClampNeg = 1 + 2 * (f_read 0).toInt.toNat by omega, ey_58])⟩)
    refine lv_aload_n hx hb dX12_logLine_24 rfl (lv_at hl 2 rfl) ?_
    refine z_get C G clX12 1 rfl 8 (by decide) m_fl_RX12_104 rfl dX12_logLine_25 ?_
    refine lv_if_ne (tgt := 48) hx hb dX12_logLine_28 (by decide) (fun c_73 => ?_) (fun c_73 => ?_)
    · have c_73n : ¬ j_wrong_6.toInt = (0 : Int) := fun q => c_73 ((fa_eq _ _).mpr q)
      obtain ⟨b, hbq⟩ : ∃ b, b = pDB 8 i_where f_read d2 := ⟨_, rfl⟩
      have hRb : zRr k n i_size j_next_1 j_where_2 j_token_3 j_number_4 j_word_5 j_wrong_6 i_farCrossing g_all_7 b := by rw [hbq]; first | (rw [pDB_b (by rw [← hA6D]; omega)]; exact hRd) | (unfold pDB; rw [if_neg (by omega)]; exact hRd)
      exact jn_48 g_all_7 b (show b = pDB 8 i_where f_read d2 ∧ zRr k n i_size j_next_1 j_where_2 j_token_3 j_number_4 j_word_5 j_wrong_6 i_farCrossing g_all_7 b ∧ zPal f_all g_all_7 from ⟨hbq, hRb, h_12⟩) _ _ ls G (lv_sub hl [0, 1, 2] rfl)
    · have c_73n : j_wrong_6.toInt = (0 : Int) := (fa_eq _ _).mp c_73
      refine lv_aload_n hx hb dX12_logLine_31 rfl (lv_at hl 2 rfl) ?_
      refine z_get C G clX12 1 rfl 10 (by decide) m_fl_RX12_17 rfl dX12_logLine_32 ?_
      refine lv_iconst (v := 0) hx hb dX12_logLine_35 (by decide) ?_
      refine z_ild C G 0 rfl (vp_in_nI (n := 0) (by decide) (by decide)) dX12_logLine_36 ?_
      refine lv_topi (fun v_74 ev_74 => ?_)
      rw [show ((0 : Int32).toNatClampNeg) = 0 from rfl] at ev_74
      subst ev_74
      refine lv_bipush (v := 8) hx hb dX12_logLine_37 (by decide) ?_
      refine lv_icmp_lt (tgt := 48) hx hb dX12_logLine_39 (by decide) (fun c_75 => ?_) (fun c_75 => ?_)
      · have c_75n : (f_read 0).toInt < (8 : Int) := (fa_lt _ _).mp c_75
        obtain ⟨b, hbq⟩ : ∃ b, b = pDB 8 i_where f_read d2 := ⟨_, rfl⟩
        have hRb : zRr k n i_size j_next_1 j_where_2 j_token_3 j_number_4 j_word_5 j_wrong_6 i_farCrossing g_all_7 b := by rw [hbq]; first | (rw [pDB_b (by rw [← hA6D]; omega)]; exact hRd) | (unfold pDB; rw [if_neg (by omega)]; exact hRd)
        exact jn_48 g_all_7 b (show b = pDB 8 i_where f_read d2 ∧ zRr k n i_size j_next_1 j_where_2 j_token_3 j_number_4 j_word_5 j_wrong_6 i_farCrossing g_all_7 b ∧ zPal f_all g_all_7 from ⟨hbq, hRb, h_12⟩) _ _ ls G (lv_sub hl [0, 1, 2] rfl)
      · have c_75n : ¬ (f_read 0).toInt < (8 : Int) := fun q => c_75 ((fa_lt _ _).mpr q)
        refine lv_aload_n hx hb dX12_logLine_42 rfl (lv_at hl 2 rfl) ?_
        refine lv_iconst (v := 3) hx hb dX12_logLine_43 (by decide) ?_
        refine lv_iload_n hx hb dX12_logLine_44 rfl (lv_at hl 1 rfl) ?_
        refine z_Vv (bc := [[zO11 mo m_all m_has i_size j_next_1 j_where_2 j_token_3 j_number_4 j_word_5 j_wrong_6 i_farCrossing m_read i_z0 i_crossings i_inns m_posts m_shut m_here i_steps i_done i_at i_gone m_was m_came m_seenAt m_rowWorth m_farBy m_used i_everywhere i_again0 i_d0 i_never i_firstCame i_longRun i_moved i_crowd i_l0 i_fitMany i_fitLeast i_fitMost m_fitPost m_fitEnd m_keptPosts i_x0], [zAr T 0 m_all 3952 g_all_7]]) (br := [[zAr T 0 m_read 121 f_read]]) (As := [.int 3, .int i_where]) (rest := []) C G (c_fm_also l T mo m_all m_has i_size j_next_1 j_where_2 j_token_3 j_number_4 j_word_5 j_wrong_6 i_farCrossing m_read i_z0 i_crossings i_inns m_posts m_shut m_here i_steps i_done i_at i_gone m_was m_came m_seenAt m_rowWorth m_farBy m_used i_everywhere i_again0 i_d0 i_never i_firstCame i_longRun i_moved i_crowd i_l0 i_fitMany i_fitLeast i_fitMost m_fitPost m_fitEnd m_keptPosts i_x0 g_all_7 3 i_where) (kV_RX12_115 C.2.2.2.2 (Nat.le_of_ble_eq_true rfl) (Nat.le_of_ble_eq_true rfl)) [1, 2] [1, 0] rfl rfl (ci := 11) (qc := (RX12, TX12, 43)) rfl rfl (List.mem_flatten.mpr ⟨_, List.mem_of_getElem? (i := 0) rfl, List.mem_cons_self⟩) rfl rfl hl.1 dX12_logLine_45 (Nat.le_of_ble_eq_true rfl) (Nat.le_of_ble_eq_true rfl) (fun b1 H locs hw G => ?_)
        refine zEx1 hw ?_
        intro g_all_76
        refine zCu3 ?_
        intro hbs9 h_77 h_78
        clear hw
        subst hbs9
        have G : zS T A s.heap s [[zAr T 0 m_read 121 f_read], [zO11 mo m_all m_has i_size j_next_1 j_where_2 j_token_3 j_number_4 j_word_5 j_wrong_6 i_farCrossing m_read i_z0 i_crossings i_inns m_posts m_shut m_here i_steps i_done i_at i_gone m_was m_came m_seenAt m_rowWorth m_farBy m_used i_everywhere i_again0 i_d0 i_never i_firstCame i_longRun i_moved i_crowd i_l0 i_fitMany i_fitLeast i_fitMost m_fitPost m_fitEnd m_keptPosts i_x0], [zAr T 0 m_all 3952 g_all_76]] _ _ := G
        have h_78 : g_all_76 = (if ¬ j_wrong_6.toInt = 0 ∨ (¬ (g_all_7 5).toInt = 0 ∧ ((g_all_7 6).toInt < i_where.toInt ∨ ((g_all_7 6).toInt = i_where.toInt ∧ (g_all_7 5).toInt ≤ (3 : Int)))) then g_all_7 else upd (upd g_all_7 5 3) 6 i_where) := h_78
        obtain ⟨b, hbq⟩ : ∃ b, b = pDB 8 i_where f_read d2 := ⟨_, rfl⟩
        have hRb : zRr k n i_size j_next_1 j_where_2 j_token_3 j_number_4 j_word_5 j_wrong_6 i_farCrossing g_all_76 b := by rw [hbq]; unfold pDB; rw [if_pos (by omega)]; exact zRr_also (kd := 3) (w := i_where) hRd h_78
        exact jn_48 g_all_76 b (show b = pDB 8 i_where f_read d2 ∧ zRr k n i_size j_next_1 j_where_2 j_token_3 j_number_4 j_word_5 j_wrong_6 i_farCrossing g_all_76 b ∧ zPal f_all g_all_76 from ⟨hbq, hRb, (h_12.tr h_77)⟩) _ _ ls G (lv_sub hl [0, 1, 2] rfl)
  · have c_17n : r_16.toInt = (11 : Int) := (fa_eq _ _).mp c_17
    refine lv_iconst (v := 1) hx hb dX12_logLine_18 (by decide) ?_
    refine lv_goto (tgt := 23) hx hb dX12_logLine_19 (by decide) ?_
    refine lv_istore_n (lv' := [(2, .int 1), (1, .int i_where), (0, .ref mo)]) hx hb dX12_logLine_23 rfl hl (by decide) (zLvf_h rfl) (fun ls hl => ?_)
    refine zMt2 (T := T) 48 (fun (gb : Nat → Int32) (b : pS) => [[zAr T 0 m_read 121 f_read], [zO11 mo m_all m_has i_size j_next_1 j_where_2 j_token_3 j_number_4 j_word_5 j_wrong_6 i_farCrossing m_read i_z0 i_crossings i_inns m_posts m_shut m_here i_steps i_done i_at i_gone m_was m_came m_seenAt m_rowWorth m_farBy m_used i_everywhere i_again0 i_d0 i_never i_firstCame i_longRun i_moved i_crowd i_l0 i_fitMany i_fitLeast i_fitMost m_fitPost m_fitEnd m_keptPosts i_x0], [zAr T 0 m_all 3952 gb]]) (fun (gb : Nat → Int32) (b : pS) => [(2, .int 1), (1, .int i_where), (0, .ref mo)]) (fun (gb : Nat → Int32) (b : pS) => b = pDB 8 i_where f_read d2 ∧ zRr k n i_size j_next_1 j_where_2 j_token_3 j_number_4 j_word_5 j_wrong_6 i_farCrossing gb b ∧ zPal f_all gb) G hl ?_ (fun jn_48 => ?_)
    · intro gb b hI9 H locs ls G hl
      replace hI9 : b = pDB 8 i_where f_read d2 ∧ zRr k n i_size j_next_1 j_where_2 j_token_3 j_number_4 j_word_5 j_wrong_6 i_farCrossing gb b ∧ zPal f_all gb := hI9
      refine zAn3 hI9 ?_
      intro hbq hRb hpgb
      clear hI9
      replace G : zS T A s.heap s [[zAr T 0 m_read 121 f_read], [zO11 mo m_all m_has i_size j_next_1 j_where_2 j_token_3 j_number_4 j_word_5 j_wrong_6 i_farCrossing m_read i_z0 i_crossings i_inns m_posts m_shut m_here i_steps i_done i_at i_gone m_was m_came m_seenAt m_rowWorth m_farBy m_used i_everywhere i_again0 i_d0 i_never i_firstCame i_longRun i_moved i_crowd i_l0 i_fitMany i_fitLeast i_fitMost m_fitPost m_fitEnd m_keptPosts i_x0], [zAr T 0 m_all 3952 gb]] _ _ := G
      replace hl : lv_has ls 5 [(2, .int 1), (1, .int i_where), (0, .ref mo)] := hl
      refine lv_aload_n hx hb dX12_logLine_48 rfl (lv_at hl 2 rfl) ?_
      refine lv_iconst (v := 0) hx hb dX12_logLine_49 (by decide) ?_
      refine lv_bipush (v := 6) hx hb dX12_logLine_50 (by decide) ?_
      refine z_Vi (bc := [[zO11 mo m_all m_has i_size j_next_1 j_where_2 j_token_3 j_number_4 j_word_5 j_wrong_6 i_farCrossing m_read i_z0 i_crossings i_inns m_posts m_shut m_here i_steps i_done i_at i_gone m_was m_came m_seenAt m_rowWorth m_farBy m_used i_everywhere i_again0 i_d0 i_never i_firstCame i_longRun i_moved i_crowd i_l0 i_fitMany i_fitLeast i_fitMost m_fitPost m_fitEnd m_keptPosts i_x0], [zAr T 0 m_all 3952 gb]]) (br := [[zAr T 0 m_read 121 f_read]]) (As := [.int 0, .int 6]) (rest := []) C G (c_fm_numbered l T mo m_all m_has i_size j_next_1 j_where_2 j_token_3 j_number_4 j_word_5 j_wrong_6 i_farCrossing m_read i_z0 i_crossings i_inns m_posts m_shut m_here i_steps i_done i_at i_gone m_was m_came m_seenAt m_rowWorth m_farBy m_used i_everywhere i_again0 i_d0 i_never i_firstCame i_longRun i_moved i_crowd i_l0 i_fitMany i_fitLeast i_fitMost m_fitPost m_fitEnd m_keptPosts i_x0 gb k n b 0 6 (by first | with_reducible assumption | with_reducible rfl | omega | assumption | rfl) (by first | with_reducible assumption | with_reducible rfl | omega | assumption | rfl) (by first | with_reducible assumption | with_reducible rfl | omega | assumption | rfl) (by decide) hRb) (kV_RX12_122 C.2.2.2.2 (Nat.le_of_ble_eq_true rfl) (Nat.le_of_ble_eq_true rfl)) [1, 2] [1, 0] rfl rfl (ci := 11) (qc := (RX12, TX12, 43)) rfl rfl (List.mem_flatten.mpr ⟨_, List.mem_of_getElem? (i := 0) rfl, List.mem_cons_self⟩) rfl rfl hl.1 dX12_logLine_52 (Nat.le_of_ble_eq_true rfl) (Nat.le_of_ble_eq_true rfl) (fun r_96 b1 H locs hw G => ?_)
      refine zEx7 hw ?_
      intro j_next_80 j_where_81 j_token_82 j_number_83 j_word_84 j_wrong_85 g_all_86
      refine zCu10 ?_
      intro hbs9 h_87 h_88 h_89 h_90 h_91 h_92 h_93 h_94 h_95
      clear hw
      subst hbs9
      have G : zS T A s.heap s [[zAr T 0 m_read 121 f_read], [zO11 mo m_all m_has i_size j_next_80 j_where_81 j_token_82 j_number_83 j_word_84 j_wrong_85 i_farCrossing m_read i_z0 i_crossings i_inns m_posts m_shut m_here i_steps i_done i_at i_gone m_was m_came m_seenAt m_rowWorth m_farBy m_used i_everywhere i_again0 i_d0 i_never i_firstCame i_longRun i_moved i_crowd i_l0 i_fitMany i_fitLeast i_fitMost m_fitPost m_fitEnd m_keptPosts i_x0], [zAr T 0 m_all 3952 g_all_86]] _ _ := G
      have h_92 : (0 : Int) ≤ r_96.toInt := h_92
      have h_93 : r_96.toInt ≤ (6 : Int) := h_93
      refine lv_istore_n (lv' := [(3, .int r_96), (2, .int 1), (1, .int i_where), (0, .ref mo)]) hx hb dX12_logLine_55 rfl hl (by decide) (zLvf_h rfl) (fun ls hl => ?_)
      refine lv_iload_n hx hb dX12_logLine_56 rfl (lv_at hl 1 rfl) ?_
      refine lv_if_eq (tgt := 70) hx hb dX12_logLine_57 (by decide) (fun q => absurd q (by decide)) (fun _ => ?_)
      refine lv_aload_n hx hb dX12_logLine_60 rfl (lv_at hl 3 rfl) ?_
      refine lv_iconst (v := 0) hx hb dX12_logLine_61 (by decide) ?_
      refine lv_bipush (v := 6) hx hb dX12_logLine_62 (by decide) ?_
      refine z_Vi (bc := [[zO11 mo m_all m_has i_size j_next_80 j_where_81 j_token_82 j_number_83 j_word_84 j_wrong_85 i_farCrossing m_read i_z0 i_crossings i_inns m_posts m_shut m_here i_steps i_done i_at i_gone m_was m_came m_seenAt m_rowWorth m_farBy m_used i_everywhere i_again0 i_d0 i_never i_firstCame i_longRun i_moved i_crowd i_l0 i_fitMany i_fitLeast i_fitMost m_fitPost m_fitEnd m_keptPosts i_x0], [zAr T 0 m_all 3952 g_all_86]]) (br := [[zAr T 0 m_read 121 f_read]]) (As := [.int 0, .int 6]) (rest := []) C G (c_fm_numbered l T mo m_all m_has i_size j_next_80 j_where_81 j_token_82 j_number_83 j_word_84 j_wrong_85 i_farCrossing m_read i_z0 i_crossings i_inns m_posts m_shut m_here i_steps i_done i_at i_gone m_was m_came m_seenAt m_rowWorth m_farBy m_used i_everywhere i_again0 i_d0 i_never i_firstCame i_longRun i_moved i_crowd i_l0 i_fitMany i_fitLeast i_fitMost m_fitPost m_fitEnd m_keptPosts i_x0 g_all_86 k n ((pNum k 0 6 b).2) 0 6 (by first | with_reducible assumption | with_reducible rfl | omega | assumption | rfl) (by first | with_reducible assumption | with_reducible rfl | omega | assumption | rfl) (by first | with_reducible assumption | with_reducible rfl | omega | assumption | rfl) (by decide) h_94) (kV_RX12_122 C.2.2.2.2 (Nat.le_of_ble_eq_true rfl) (Nat.le_of_ble_eq_true rfl)) [1, 2] [1, 0] rfl rfl (ci := 11) (qc := (RX12, TX12, 43)) rfl rfl (List.mem_flatten.mpr ⟨_, List.mem_of_getElem? (i := 0) rfl, List.mem_cons_self⟩) rfl rfl hl.1 dX12_logLine_64 (Nat.le_of_ble_eq_true rfl) (Nat.le_of_ble_eq_true rfl) (fun r_113 b1 H locs hw G => ?_)
      refine zEx7 hw ?_
      intro j_next_97 j_where_98 j_token_99 j_number_100 j_word_101 j_wrong_102 g_all_103
      refine zCu10 ?_
      intro hbs9 h_104 h_105 h_106 h_107 h_108 h_109 h_110 h_111 h_112
      clear hw
      subst hbs9
      have G : zS T A s.heap s [[zAr T 0 m_read 121 f_read], [zO11 mo m_all m_has i_size j_next_97 j_where_98 j_token_99 j_number_100 j_word_101 j_wrong_102 i_farCrossing m_read i_z0 i_crossings i_inns m_posts m_shut m_here i_steps i_done i_at i_gone m_was m_came m_seenAt m_rowWorth m_farBy m_used i_everywhere i_again0 i_d0 i_never i_firstCame i_longRun i_moved i_crowd i_l0 i_fitMany i_fitLeast i_fitMost m_fitPost m_fitEnd m_keptPosts i_x0], [zAr T 0 m_all 3952 g_all_103]] _ _ := G
      have h_109 : (0 : Int) ≤ r_113.toInt := h_109
      have h_110 : r_113.toInt ≤ (6 : Int) := h_110
      refine lv_goto (tgt := 71) hx hb dX12_logLine_67 (by decide) ?_
      refine lv_istore (lv' := [(4, .int r_113), (3, .int r_96), (2, .int 1), (1, .int i_where), (0, .ref mo)]) hx hb dX12_logLine_71 hl (by decide) (zLvf_h rfl) (fun ls hl => ?_)
      refine lv_aload_n hx hb dX12_logLine_73 rfl (lv_at hl 4 rfl) ?_
      refine z_get C G clX12 1 rfl 10 (by decide) m_fl_RX12_17 rfl dX12_logLine_74 ?_
      refine lv_iconst (v := 0) hx hb dX12_logLine_77 (by decide) ?_
      refine z_ild C G 0 rfl (vp_in_nI (n := 0) (by decide) (by decide)) dX12_logLine_78 ?_
      refine lv_topi (fun v_114 ev_114 => ?_)
      rw [show ((0 : Int32).toNatClampNeg) = 0 from rfl] at ev_114
      subst ev_114
      refine lv_bipush (v := 8) hx hb dX12_logLine_79 (by decide) ?_
      refine lv_icmp_ge (tgt := 127) hx hb dX12_logLine_81 (by decide) (fun c_115 => ?_) (fun c_115 => ?_)
      · have c_115n : (8 : Int) ≤ (f_read 0).toInt := (fa_le _ _).mp c_115
        refine lv_aload_n hx hb dX12_logLine_127 rfl (lv_at hl 4 rfl) ?_
        refine z_Vv (bc := [[zO11 mo m_all m_has i_size j_next_97 j_where_98 j_token_99 j_number_100 j_word_101 j_wrong_102 i_farCrossing m_read i_z0 i_crossings i_inns m_posts m_shut m_here i_steps i_done i_at i_gone m_was m_came m_seenAt m_rowWorth m_farBy m_used i_everywhere i_again0 i_d0 i_never i_firstCame i_longRun i_moved i_crowd i_l0 i_fitMany i_fitLeast i_fitMost m_fitPost m_fitEnd m_keptPosts i_x0], [zAr T 0 m_all 3952 g_all_103]]) (br := [[zAr T 0 m_read 121 f_read]]) (As := []) (rest := []) C G (c_fm_endsLine l T mo m_all m_has i_size j_next_97 j_where_98 j_token_99 j_number_100 j_word_101 j_wrong_102 i_farCrossing m_read i_z0 i_crossings i_inns m_posts m_shut m_here i_steps i_done i_at i_gone m_was m_came m_seenAt m_rowWorth m_farBy m_used i_everywhere i_again0 i_d0 i_never i_firstCame i_longRun i_moved i_crowd i_l0 i_fitMany i_fitLeast i_fitMost m_fitPost m_fitEnd m_keptPosts i_x0 g_all_103 k n ((pNum k 0 6 (pNum k 0 6 b).2).2) (by first | with_reducible assumption | with_reducible rfl | omega | assumption | rfl) (by first | with_reducible assumption | with_reducible rfl | omega | assumption | rfl) (by first | with_reducible assumption | with_reducible rfl | omega | assumption | rfl) h_111) (kV_RX12_140 C.2.2.2.2 (Nat.le_of_ble_eq_true rfl) (Nat.le_of_ble_eq_true rfl)) [1, 2] [1, 0] rfl rfl (ci := 11) (qc := (RX12, TX12, 43)) rfl rfl (List.mem_flatten.mpr ⟨_, List.mem_of_getElem? (i := 0) rfl, List.mem_cons_self⟩) rfl rfl hl.1 dX12_logLine_128 (Nat.le_of_ble_eq_true rfl) (Nat.le_of_ble_eq_true rfl) (fun b1 H locs hw G => ?_)
        refine zEx7 hw ?_
        intro j_next_116 j_where_117 j_token_118 j_number_119 j_word_120 j_wrong_121 g_all_122
        refine zCu7 ?_
        intro hbs9 h_123 h_124 h_125 h_126 h_127 h_128
        clear hw
        subst hbs9
        have G : zS T A s.heap s [[zAr T 0 m_read 121 f_read], [zO11 mo m_all m_has i_size j_next_116 j_where_117 j_token_118 j_number_119 j_word_120 j_wrong_121 i_farCrossing m_read i_z0 i_crossings i_inns m_posts m_shut m_here i_steps i_done i_at i_gone m_was m_came m_seenAt m_rowWorth m_farBy m_used i_everywhere i_again0 i_d0 i_never i_firstCame i_longRun i_moved i_crowd i_l0 i_fitMany i_fitLeast i_fitMost m_fitPost m_fitEnd m_keptPosts i_x0], [zAr T 0 m_all 3952 g_all_122]] _ _ := G
        have G := G.sub (bs' := [[zO11 mo m_all m_has i_size j_next_116 j_where_117 j_token_118 j_number_119 j_word_120 j_wrong_121 i_farCrossing m_read i_z0 i_crossings i_inns m_posts m_shut m_here i_steps i_done i_at i_gone m_was m_came m_seenAt m_rowWorth m_farBy m_used i_everywhere i_again0 i_d0 i_never i_firstCame i_longRun i_moved i_crowd i_l0 i_fitMany i_fitLeast i_fitMost m_fitPost m_fitEnd m_keptPosts i_x0], [zAr T 0 m_all 3952 g_all_122], [zAr T 0 m_read 121 f_read]]) [1, 2, 0] rfl
        exact z_back hQz_ (z_vret C hr hlocks G (Nat.le_of_ble_eq_true rfl) (Nat.le_of_ble_eq_true rfl) dX12_logLine_131 ⟨j_next_116, j_where_117, j_token_118, j_number_119, j_word_120, j_wrong_121, g_all_122, f_read, rfl, (by first | with_reducible assumption | omega | trivial | assumption), (by first | with_reducible assumption | omega | trivial | assumption), (by first | with_reducible assumption | omega | trivial | assumption), (by first | with_reducible assumption | omega | trivial | assumption), (hpgb.tr (h_91.tr (h_108.tr h_127))), (by first | with_reducible assumption | omega | trivial | assumption), (by unfold pLog; rw [hd]; show zRr _ _ _ _ _ _ _ _ _ _ _ (pEndL k (pFact k d1 (nI (pWh k a.1)) d2 f_read).1); rw [← t2, pFact_1 hbq, pGY_hi (by omega)]; exact h_128), (by unfold pLog; rw [hd]; show _ = (pFact k d1 (nI (pWh k a.1)) d2 f_read).2; rw [← t2]; unfold pFact; rw [← hbq]; exact (if_neg (by omega)).symm)⟩)
      · have c_115n : ¬ (8 : Int) ≤ (f_read 0).toInt := fun q => c_115 ((fa_le _ _).mpr q)
        refine lv_aload_n hx hb dX12_logLine_84 rfl (lv_at hl 4 rfl) ?_
        refine z_get C G clX12 1 rfl 10 (by decide) m_fl_RX12_17 rfl dX12_logLine_85 ?_
        refine lv_iconst (v := 1) hx hb dX12_logLine_88 (by decide) ?_
        refine lv_iconst (v := 2) hx hb dX12_logLine_89 (by decide) ?_
        refine lv_aload_n hx hb dX12_logLine_90 rfl (lv_at hl 4 rfl) ?_
        refine z_get C G clX12 1 rfl 10 (by decide) m_fl_RX12_17 rfl dX12_logLine_91 ?_
        refine lv_iconst (v := 0) hx hb dX12_logLine_94 (by decide) ?_
        refine z_ild C G 0 rfl (vp_in_nI (n := 0) (by decide) (by decide)) dX12_logLine_95 ?_
        refine lv_topi (fun v_130 ev_130 => ?_)
        rw [show ((0 : Int32).toNatClampNeg) = 0 from rfl] at ev_130
        subst ev_130
        refine lv_imul hx hb dX12_logLine_96 ?_
        refine lv_topi (fun y_131 ey_131 => ?_)
        have ey_131i : y_131.toInt = (2 : Int) * (f_read 0).toInt := by rw [ey_131]; exact z_imulI (x := (2 : Int32)) (y := (f_read 0)) (by show -2147483648 ≤ (2 : Int) * (f_read 0).toInt; omega) (by show (2 : Int) * (f_read 0).toInt < 2147483648; omega)
        refine lv_iadd hx hb dX12_logLine_97 ?_
        refine lv_topi (fun y_132 ey_132 => ?_)
        have ey_132i : y_132.toInt = (1 : Int) + y_131.toInt := by rw [ey_132]; exact z_iaddI (x := (1 : Int32)) (y := y_131) (by show -2147483648 ≤ (1 : Int) + y_131.toInt; omega) (by show (1 : Int) + y_131.toInt < 2147483648; omega)
        refine lv_iload_n hx hb dX12_logLine_98 rfl (lv_at hl 1 rfl) ?_
        refine z_ist C G 0 rfl (vp_in_iff.mpr ⟨by omega, by omega⟩) dX12_logLine_99 (fun H locs G => ?_)
        have G : zS T A s.heap s [[zAr T 0 m_read 121 (upd f_read y_132.toNatClampNeg r_96)], [zO11 mo m_all m_has i_size j_next_97 j_where_98 j_token_99 j_number_100 j_word_101 j_wrong_102 i_farCrossing m_read i_z0 i_crossings i_inns m_posts m_shut m_here i_steps i_done i_at i_gone m_was m_came m_seenAt m_rowWorth m_farBy m_used i_everywhere i_again0 i_d0 i_never i_firstCame i_longRun i_moved i_crowd i_l0 i_fitMany i_fitLeast i_fitMost m_fitPost m_fitEnd m_keptPosts i_x0], [zAr T 0 m_all 3952 g_all_103]] _ _ := G
        refine lv_aload_n hx hb dX12_logLine_100 rfl (lv_at hl 4 rfl) ?_
        refine z_get C G clX12 1 rfl 10 (by decide) m_fl_RX12_17 rfl dX12_logLine_101 ?_
        refine lv_iconst (v := 2) hx hb dX12_logLine_104 (by decide) ?_
        refine lv_iconst (v := 2) hx hb dX12_logLine_105 (by decide) ?_
        refine lv_aload_n hx hb dX12_logLine_106 rfl (lv_at hl 4 rfl) ?_
        refine z_get C G clX12 1 rfl 10 (by decide) m_fl_RX12_17 rfl dX12_logLine_107 ?_
        refine lv_iconst (v := 0) hx hb dX12_logLine_110 (by decide) ?_
        refine z_ild C G 0 rfl (vp_in_nI (n := 0) (by decide) (by decide)) dX12_logLine_111 ?_
        refine lv_topi (fun v_133 ev_133 => ?_)
        rw [show ((0 : Int32).toNatClampNeg) = 0 from rfl] at ev_133
        subst ev_133
        have hcl_y_132 := z_clI (x := y_132) (by omega)
        rw [show (upd f_read y_132.toNatClampNeg r_96) 0 = f_read 0 from by unfold upd; rw [if_neg (by omega)]]
        refine lv_imul hx hb dX12_logLine_112 ?_
        refine lv_topi (fun y_134 ey_134 => ?_)
        have ey_134i : y_134.toInt = (2 : Int) * (f_read 0).toInt := by rw [ey_134]; exact z_imulI (x := (2 : Int32)) (y := (f_read 0)) (by show -2147483648 ≤ (2 : Int) * (f_read 0).toInt; omega) (by show (2 : Int) * (f_read 0).toInt < 2147483648; omega)
        refine lv_iadd hx hb dX12_logLine_113 ?_
        refine lv_topi (fun y_135 ey_135 => ?_)
        have ey_135i : y_135.toInt = (2 : Int) + y_134.toInt := by rw [ey_135]; exact z_iaddI (x := (2 : Int32)) (y := y_134) (by show -2147483648 ≤ (2 : Int) + y_134.toInt; omega) (by show (2 : Int) + y_134.toInt < 2147483648; omega)
        refine lv_iload hx hb dX12_logLine_114 (lv_at hl 0 rfl) ?_
        refine z_ist C G 0 rfl (vp_in_iff.mpr ⟨by omega, by omega⟩) dX12_logLine_116 (fun H locs G => ?_)
        have G : zS T A s.heap s [[zAr T 0 m_read 121 (upd (upd f_read y_132.toNatClampNeg r_96) y_135.toNatClampNeg r_113)], [zO11 mo m_all m_has i_size j_next_97 j_where_98 j_token_99 j_number_100 j_word_101 j_wrong_102 i_farCrossing m_read i_z0 i_crossings i_inns m_posts m_shut m_here i_steps i_done i_at i_gone m_was m_came m_seenAt m_rowWorth m_farBy m_used i_everywhere i_again0 i_d0 i_never i_firstCame i_longRun i_moved i_crowd i_l0 i_fitMany i_fitLeast i_fitMost m_fitPost m_fitEnd m_keptPosts i_x0], [zAr T 0 m_all 3952 g_all_103]] _ _ := G
        refine lv_aload_n hx hb dX12_logLine_117 rfl (lv_at hl 4 rfl) ?_
        refine z_get C G clX12 1 rfl 10 (by decide) m_fl_RX12_17 rfl dX12_logLine_118 ?_
        refine lv_iconst (v := 0) hx hb dX12_logLine_121 (by decide) ?_
        refine lv_dup2_11 hx hb dX12_logLine_122 rfl rfl ?_
        refine z_ild C G 0 rfl (vp_in_nI (n := 0) (by decide) (by decide)) dX12_logLine_123 ?_
        refine lv_topi (fun v_136 ev_136 => ?_)
        rw [show ((0 : Int32).toNatClampNeg) = 0 from rfl] at ev_136
        subst ev_136
        refine lv_iconst (v := 1) hx hb dX12_logLine_124 (by decide) ?_
        have hcl_y_135 := z_clI (x := y_135) (by omega)
        have hcl_y_132 := z_clI (x := y_132) (by omega)
        rw [show (upd (upd f_read y_132.toNatClampNeg r_96) y_135.toNatClampNeg r_113) 0 = f_read 0 from by unfold upd; rw [if_neg (by omega), if_neg (by omega)]]
        refine lv_iadd hx hb dX12_logLine_125 ?_
        refine lv_topi (fun y_137 ey_137 => ?_)
        have ey_137i : y_137.toInt = (f_read 0).toInt + (1 : Int) := by rw [ey_137]; exact z_iaddI (x := (f_read 0)) (y := (1 : Int32)) (by show -2147483648 ≤ (f_read 0).toInt + (1 : Int); omega) (by show (f_read 0).toInt + (1 : Int) < 2147483648; omega)
        refine z_ist C G 0 rfl (vp_in_nI (n := 0) (by decide) (by decide)) dX12_logLine_126 (fun H locs G => ?_)
        have G : zS T A s.heap s [[zAr T 0 m_read 121 (upd (upd (upd f_read y_132.toNatClampNeg r_96) y_135.toNatClampNeg r_113) 0 y_137)], [zO11 mo m_all m_has i_size j_next_97 j_where_98 j_token_99 j_number_100 j_word_101 j_wrong_102 i_farCrossing m_read i_z0 i_crossings i_inns m_posts m_shut m_here i_steps i_done i_at i_gone m_was m_came m_seenAt m_rowWorth m_farBy m_used i_everywhere i_again0 i_d0 i_never i_firstCame i_longRun i_moved i_crowd i_l0 i_fitMany i_fitLeast i_fitMost m_fitPost m_fitEnd m_keptPosts i_x0], [zAr T 0 m_all 3952 g_all_103]] _ _ := G
        refine lv_aload_n hx hb dX12_logLine_127 rfl (lv_at hl 4 rfl) ?_
        refine z_Vv (bc := [[zO11 mo m_all m_has i_size j_next_97 j_where_98 j_token_99 j_number_100 j_word_101 j_wrong_102 i_farCrossing m_read i_z0 i_crossings i_inns m_posts m_shut m_here i_steps i_done i_at i_gone m_was m_came m_seenAt m_rowWorth m_farBy m_used i_everywhere i_again0 i_d0 i_never i_firstCame i_longRun i_moved i_crowd i_l0 i_fitMany i_fitLeast i_fitMost m_fitPost m_fitEnd m_keptPosts i_x0], [zAr T 0 m_all 3952 g_all_103]]) (br := [[zAr T 0 m_read 121 (upd (upd (upd f_read y_132.toNatClampNeg r_96) y_135.toNatClampNeg r_113) 0 y_137)]]) (As := []) (rest := []) C G (c_fm_endsLine l T mo m_all m_has i_size j_next_97 j_where_98 j_token_99 j_number_100 j_word_101 j_wrong_102 i_farCrossing m_read i_z0 i_crossings i_inns m_posts m_shut m_here i_steps i_done i_at i_gone m_was m_came m_seenAt m_rowWorth m_farBy m_used i_everywhere i_again0 i_d0 i_never i_firstCame i_longRun i_moved i_crowd i_l0 i_fitMany i_fitLeast i_fitMost m_fitPost m_fitEnd m_keptPosts i_x0 g_all_103 k n ((pNum k 0 6 (pNum k 0 6 b).2).2) (by first | with_reducible assumption | with_reducible rfl | omega | assumption | rfl) (by first | with_reducible assumption | with_reducible rfl | omega | assumption | rfl) (by first | with_reducible assumption | with_reducible rfl | omega | assumption | rfl) h_111) (kV_RX12_140 C.2.2.2.2 (Nat.le_of_ble_eq_true rfl) (Nat.le_of_ble_eq_true rfl)) [1, 2] [1, 0] rfl rfl (ci := 11) (qc := (RX12, TX12, 43)) rfl rfl (List.mem_flatten.mpr ⟨_, List.mem_of_getElem? (i := 0) rfl, List.mem_cons_self⟩) rfl rfl hl.1 dX12_logLine_128 (Nat.le_of_ble_eq_true rfl) (Nat.le_of_ble_eq_true rfl) (fun b1 H locs hw G => ?_)
        refine zEx7 hw ?_
        intro j_next_138 j_where_139 j_token_140 j_number_141 j_word_142 j_wrong_143 g_all_144
        refine zCu7 ?_
        intro hbs9 h_145 h_146 h_147 h_148 h_149 h_150
        clear hw
        subst hbs9
        have G : zS T A s.heap s [[zAr T 0 m_read 121 (upd (upd (upd f_read y_132.toNatClampNeg r_96) y_135.toNatClampNeg r_113) 0 y_137)], [zO11 mo m_all m_has i_size j_next_138 j_where_139 j_token_140 j_number_141 j_word_142 j_wrong_143 i_farCrossing m_read i_z0 i_crossings i_inns m_posts m_shut m_here i_steps i_done i_at i_gone m_was m_came m_seenAt m_rowWorth m_farBy m_used i_everywhere i_again0 i_d0 i_never i_firstCame i_longRun i_moved i_crowd i_l0 i_fitMany i_fitLeast i_fitMost m_fitPost m_fitEnd m_keptPosts i_x0], [zAr T 0 m_all 3952 g_all_144]] _ _ := G
        have G := G.sub (bs' := [[zO11 mo m_all m_has i_size j_next_138 j_where_139 j_token_140 j_number_141 j_word_142 j_wrong_143 i_farCrossing m_read i_z0 i_crossings i_inns m_posts m_shut m_here i_steps i_done i_at i_gone m_was m_came m_seenAt m_rowWorth m_farBy m_used i_everywhere i_again0 i_d0 i_never i_firstCame i_longRun i_moved i_crowd i_l0 i_fitMany i_fitLeast i_fitMost m_fitPost m_fitEnd m_keptPosts i_x0], [zAr T 0 m_all 3952 g_all_144], [zAr T 0 m_read 121 (upd (upd (upd f_read y_132.toNatClampNeg r_96) y_135.toNatClampNeg r_113) 0 y_137)]]) [1, 2, 0] rfl
        exact z_back hQz_ (z_vret C hr hlocks G (Nat.le_of_ble_eq_true rfl) (Nat.le_of_ble_eq_true rfl) dX12_logLine_131 ⟨j_next_138, j_where_139, j_token_140, j_number_141, j_word_142, j_wrong_143, g_all_144, (upd (upd (upd f_read y_132.toNatClampNeg r_96) y_135.toNatClampNeg r_113) 0 y_137), rfl, (by first | with_reducible assumption | omega | trivial | assumption), (by first | with_reducible assumption | omega | trivial | assumption), (by first | with_reducible assumption | omega | trivial | assumption), (by first | with_reducible assumption | omega | trivial | assumption), (hpgb.tr (h_91.tr (h_108.tr h_149))), (zCF_upd (k := 0) (v := y_137) (zCF_upd (k := y_135.toNatClampNeg) (v := r_113) (zCF_upd (k := y_132.toNatClampNeg) (v := r_96) (by first | with_reducible assumption | assumption) (by have q9 := z_clI (x := y_132) (by omega); omega)) (by have q9 := z_clI (x := y_135) (by omega); omega)) (by omega)), (by unfold pLog; rw [hd]; show zRr _ _ _ _ _ _ _ _ _ _ _ (pEndL k (pFact k d1 (nI (pWh k a.1)) d2 f_read).1); rw [← t2, pFact_1 hbq, pGY_hi (by omega)]; exact h_150), (by unfold pLog; rw [hd]; show _ = (pFact k d1 (nI (pWh k a.1)) d2 f_read).2; rw [← t2]; unfold pFact; rw [← hbq]; rw [if_pos (by omega)]; have hy2 : (pGY k d1 (pNum k 0 6 b).2).1 = r_113 := (congrArg Prod.fst (pGY_hi (by omega))).trans h_112.symm; have qy_135 := z_clI (x := y_135) (by omega); have qy_132 := z_clI (x := y_132) (by omega); rw [hy2, ← h_95, show y_135.toNatClampNeg = 2 + 2 * (f_read 0).toInt.toNat by omega, show y_132.toNatClampNeg = 1 + 2 * (f_read 0).toInt.toNat by omega, ey_137])⟩)
    refine lv_aload_n hx hb dX12_logLine_24 rfl (lv_at hl 2 rfl) ?_
    refine z_get C G clX12 1 rfl 8 (by decide) m_fl_RX12_104 rfl dX12_logLine_25 ?_
    refine lv_if_ne (tgt := 48) hx hb dX12_logLine_28 (by decide) (fun c_152 => ?_) (fun c_152 => ?_)
    · have c_152n : ¬ j_wrong_6.toInt = (0 : Int) := fun q => c_152 ((fa_eq _ _).mpr q)
      obtain ⟨b, hbq⟩ : ∃ b, b = pDB 8 i_where f_read d2 := ⟨_, rfl⟩
      have hRb : zRr k n i_size j_next_1 j_where_2 j_token_3 j_number_4 j_word_5 j_wrong_6 i_farCrossing g_all_7 b := by rw [hbq]; first | (rw [pDB_b (by rw [← hA6D]; omega)]; exact hRd) | (unfold pDB; rw [if_neg (by omega)]; exact hRd)
      exact jn_48 g_all_7 b (show b = pDB 8 i_where f_read d2 ∧ zRr k n i_size j_next_1 j_where_2 j_token_3 j_number_4 j_word_5 j_wrong_6 i_farCrossing g_all_7 b ∧ zPal f_all g_all_7 from ⟨hbq, hRb, h_12⟩) _ _ ls G (lv_sub hl [0, 1, 2] rfl)
    · have c_152n : j_wrong_6.toInt = (0 : Int) := (fa_eq _ _).mp c_152
      refine lv_aload_n hx hb dX12_logLine_31 rfl (lv_at hl 2 rfl) ?_
      refine z_get C G clX12 1 rfl 10 (by decide) m_fl_RX12_17 rfl dX12_logLine_32 ?_
      refine lv_iconst (v := 0) hx hb dX12_logLine_35 (by decide) ?_
      refine z_ild C G 0 rfl (vp_in_nI (n := 0) (by decide) (by decide)) dX12_logLine_36 ?_
      refine lv_topi (fun v_153 ev_153 => ?_)
      rw [show ((0 : Int32).toNatClampNeg) = 0 from rfl] at ev_153
      subst ev_153
      refine lv_bipush (v := 8) hx hb dX12_logLine_37 (by decide) ?_
      refine lv_icmp_lt (tgt := 48) hx hb dX12_logLine_39 (by decide) (fun c_154 => ?_) (fun c_154 => ?_)
      · have c_154n : (f_read 0).toInt < (8 : Int) := (fa_lt _ _).mp c_154
        obtain ⟨b, hbq⟩ : ∃ b, b = pDB 8 i_where f_read d2 := ⟨_, rfl⟩
        have hRb : zRr k n i_size j_next_1 j_where_2 j_token_3 j_number_4 j_word_5 j_wrong_6 i_farCrossing g_all_7 b := by rw [hbq]; first | (rw [pDB_b (by rw [← hA6D]; omega)]; exact hRd) | (unfold pDB; rw [if_neg (by omega)]; exact hRd)
        exact jn_48 g_all_7 b (show b = pDB 8 i_where f_read d2 ∧ zRr k n i_size j_next_1 j_where_2 j_token_3 j_number_4 j_word_5 j_wrong_6 i_farCrossing g_all_7 b ∧ zPal f_all g_all_7 from ⟨hbq, hRb, h_12⟩) _ _ ls G (lv_sub hl [0, 1, 2] rfl)
      · have c_154n : ¬ (f_read 0).toInt < (8 : Int) := fun q => c_154 ((fa_lt _ _).mpr q)
        refine lv_aload_n hx hb dX12_logLine_42 rfl (lv_at hl 2 rfl) ?_
        refine lv_iconst (v := 3) hx hb dX12_logLine_43 (by decide) ?_
        refine lv_iload_n hx hb dX12_logLine_44 rfl (lv_at hl 1 rfl) ?_
        refine z_Vv (bc := [[zO11 mo m_all m_has i_size j_next_1 j_where_2 j_token_3 j_number_4 j_word_5 j_wrong_6 i_farCrossing m_read i_z0 i_crossings i_inns m_posts m_shut m_here i_steps i_done i_at i_gone m_was m_came m_seenAt m_rowWorth m_farBy m_used i_everywhere i_again0 i_d0 i_never i_firstCame i_longRun i_moved i_crowd i_l0 i_fitMany i_fitLeast i_fitMost m_fitPost m_fitEnd m_keptPosts i_x0], [zAr T 0 m_all 3952 g_all_7]]) (br := [[zAr T 0 m_read 121 f_read]]) (As := [.int 3, .int i_where]) (rest := []) C G (c_fm_also l T mo m_all m_has i_size j_next_1 j_where_2 j_token_3 j_number_4 j_word_5 j_wrong_6 i_farCrossing m_read i_z0 i_crossings i_inns m_posts m_shut m_here i_steps i_done i_at i_gone m_was m_came m_seenAt m_rowWorth m_farBy m_used i_everywhere i_again0 i_d0 i_never i_firstCame i_longRun i_moved i_crowd i_l0 i_fitMany i_fitLeast i_fitMost m_fitPost m_fitEnd m_keptPosts i_x0 g_all_7 3 i_where) (kV_RX12_115 C.2.2.2.2 (Nat.le_of_ble_eq_true rfl) (Nat.le_of_ble_eq_true rfl)) [1, 2] [1, 0] rfl rfl (ci := 11) (qc := (RX12, TX12, 43)) rfl rfl (List.mem_flatten.mpr ⟨_, List.mem_of_getElem? (i := 0) rfl, List.mem_cons_self⟩) rfl rfl hl.1 dX12_logLine_45 (Nat.le_of_ble_eq_true rfl) (Nat.le_of_ble_eq_true rfl) (fun b1 H locs hw G => ?_)
        refine zEx1 hw ?_
        intro g_all_155
        refine zCu3 ?_
        intro hbs9 h_156 h_157
        clear hw
        subst hbs9
        have G : zS T A s.heap s [[zAr T 0 m_read 121 f_read], [zO11 mo m_all m_has i_size j_next_1 j_where_2 j_token_3 j_number_4 j_word_5 j_wrong_6 i_farCrossing m_read i_z0 i_crossings i_inns m_posts m_shut m_here i_steps i_done i_at i_gone m_was m_came m_seenAt m_rowWorth m_farBy m_used i_everywhere i_again0 i_d0 i_never i_firstCame i_longRun i_moved i_crowd i_l0 i_fitMany i_fitLeast i_fitMost m_fitPost m_fitEnd m_keptPosts i_x0], [zAr T 0 m_all 3952 g_all_155]] _ _ := G
        have h_157 : g_all_155 = (if ¬ j_wrong_6.toInt = 0 ∨ (¬ (g_all_7 5).toInt = 0 ∧ ((g_all_7 6).toInt < i_where.toInt ∨ ((g_all_7 6).toInt = i_where.toInt ∧ (g_all_7 5).toInt ≤ (3 : Int)))) then g_all_7 else upd (upd g_all_7 5 3) 6 i_where) := h_157
        obtain ⟨b, hbq⟩ : ∃ b, b = pDB 8 i_where f_read d2 := ⟨_, rfl⟩
        have hRb : zRr k n i_size j_next_1 j_where_2 j_token_3 j_number_4 j_word_5 j_wrong_6 i_farCrossing g_all_155 b := by rw [hbq]; unfold pDB; rw [if_pos (by omega)]; exact zRr_also (kd := 3) (w := i_where) hRd h_157
        exact jn_48 g_all_155 b (show b = pDB 8 i_where f_read d2 ∧ zRr k n i_size j_next_1 j_where_2 j_token_3 j_number_4 j_word_5 j_wrong_6 i_farCrossing g_all_155 b ∧ zPal f_all g_all_155 from ⟨hbq, hRb, (h_12.tr h_156)⟩) _ _ ls G (lv_sub hl [0, 1, 2] rfl)
/-! TEXT: the record of all that is told, behind a text -/
theorem z_cgA {cA : ClassId} {n : Nat} {f g : Nat → Int32} (e : ∀ j, j < n → f j = g j) : vp_cell cA (n, .inl f) = vp_cell cA (n, .inl g) := by
  rw [vp_cell_i, vp_cell_i]
  unfold arrV
  have : (fun j : Fin n => Value.int (f j.val)) = fun j : Fin n => Value.int (g j.val) := funext fun j => by rw [e j.val j.isLt]
  rw [this]
theorem z_cg {T : zTy} {A : Nat → Prop} {H0 H : Heap} {s : State} {bs : List va_W} {locs : List Loc} (G : zS T A H0 s bs H locs) (i : Nat) {a n : Nat} {cA : ClassId} {f : Nat → Int32} (ha : bs[i]? = some [(a, .inl (cA, n, .inl f))]) (g : Nat → Int32) (e : ∀ j, j < n → f j = g j) : zS T A H0 s (bs.set i [(a, .inl (cA, n, .inl g))]) H locs := by
  obtain ⟨k, hk, hset⟩ := zfl ha
  obtain ⟨g1, g2, g3, g4⟩ := G
  have key : ∀ (m : Nat) (q : Nat × va_E), (bs.flatten.set k (a, .inl (cA, n, .inl g)))[m]? = some q → m = k ∧ q = (a, .inl (cA, n, .inl g)) ∨ ¬ m = k ∧ bs.flatten[m]? = some q := by
    intro m q h
    rw [List.getElem?_set] at h
    by_cases c : k = m
    · rw [if_pos c] at h
      split at h
      · exact Or.inl ⟨c.symm, (Option.some.inj h).symm⟩
      · cases h
    · rw [if_neg c] at h
      exact Or.inr ⟨fun z => c z.symm, h⟩
  refine ⟨g1, ?_, ?_, g4⟩
  · rw [hset]
    intro m q h
    rcases key m q h with ⟨c1, c2⟩ | ⟨c1, c2⟩
    · have h0 := g2 k _ hk
      rw [c2]
      have h1 : H[a]? = some (vp_cell cA (n, .inl f)) := h0
      show H[a]? = some (vp_cell cA (n, .inl g))
      rw [← z_cgA e]
      exact h1
    · exact g2 m q c2
  · rw [hset]
    have ad : ∀ (m : Nat) (q : Nat × va_E), (bs.flatten.set k (a, .inl (cA, n, .inl g)))[m]? = some q → ∃ q', bs.flatten[m]? = some q' ∧ q'.1 = q.1 := by
      intro m q h
      rcases key m q h with ⟨c1, c2⟩ | ⟨c1, c2⟩
      · exact ⟨_, by rw [c1]; exact hk, by rw [c2]⟩
      · exact ⟨q, c2, rfl⟩
    refine ⟨fun i j p q hi hj e => ?_, fun m q h => ?_⟩
    · obtain ⟨p', a1, a2⟩ := ad i p hi
      obtain ⟨q', b1, b2⟩ := ad j q hj
      exact g3.1 i j p' q' a1 b1 (by rw [a2, b2]; exact e)
    · obtain ⟨q', b1, b2⟩ := ad m q h
      rw [← b2]
      exact g3.2 m q' b1
def zGd (f : Nat → Int32) (c : Nat) : Prop := (f (9 + c)).toInt = 0 ∨ (f (9 + c)).toInt < (f (2 + c)).toInt
theorem zGd_s {f : Nat → Int32} {i : Nat} (h : ∀ c, c < i → zGd f c) (hi : zGd f i) : ∀ c, c < i + 1 → zGd f c := by
  intro c hc
  by_cases e : c = i
  · rw [e]; exact hi
  · exact h c (by omega)
theorem zGd_e {f : Nat → Int32} {i : Nat} (h : ∃ c, c < i ∧ ¬ zGd f c) : ∃ c, c < i + 1 ∧ ¬ zGd f c := by
  obtain ⟨c, a, b⟩ := h
  exact ⟨c, by omega, b⟩
theorem zGd_p {f : Nat → Int32} (h : ∀ c, c < 7 → zGd f c) : pPosts f = true := pPosts_t.mpr h
theorem zGd_n {f : Nat → Int32} (h : ∃ c, c < 7 ∧ ¬ zGd f c) : pPosts f = false := by
  obtain ⟨c, a, b⟩ := h
  cases z : pPosts f with
  | false => rfl
  | true => exact absurd (pPosts_t.mp z c a) b
def pHd (G : Nat → Int32) (flt fpl : Int32) : Nat → Int32 := upd (upd (upd G 4 0) 5 flt) 6 fpl
def pOkAt (s : Nat) (at_ : Int32) (G : Nat → Int32) : Prop := if at_.toInt = -1 then (G s).toInt < 2 else 0 ≤ at_.toInt ∧ at_.toInt < (G s).toInt
def pNr (s : Nat) (at_ : Int32) (G : Nat → Int32) : Int32 := if at_.toInt = -1 then G s else at_
def pBase (s nr : Nat) : Nat := if s = 0 then 610 + 51 * nr else if s = 1 then 712 + 121 * nr else 954 + 17 * nr
def pSize (s : Nat) : Nat := if s = 0 then 51 else if s = 1 then 121 else 17
def pPut (s nr : Nat) (row G : Nat → Int32) : Nat → Int32 := fun j => if pBase s nr ≤ j ∧ j < pBase s nr + pSize s then row (j - pBase s nr) else G j
def pCnt (s : Nat) (at_ : Int32) (G : Nat → Int32) : Nat → Int32 := if at_.toInt = -1 then upd G s (G s + 1) else G
def zText (z : pS × (Nat → Int32)) (s : Nat) (at_ : Int32) (G G' : Nat → Int32) (r : Int32) : Prop :=
  (¬ pOkAt s at_ G ∧ r = -2 ∧ ∀ j, j < 988 → G' j = pHd G 0 (-1) j) ∨ (pOkAt s at_ G ∧ ¬ z.1.2.2.1.toInt = 0 ∧ r = -1 ∧ ∀ j, j < 988 → G' j = pHd G z.1.2.2.1 z.1.2.2.2.1 j) ∨ (pOkAt s at_ G ∧ z.1.2.2.1.toInt = 0 ∧ r = pNr s at_ G ∧ ∀ j, j < 988 → G' j = pPut s (pNr s at_ G).toInt.toNat z.2 (pCnt s at_ (pHd G z.1.2.2.1 z.1.2.2.2.1)) j)
theorem zRr_st {k : pT} {n : Nat} {sz nx wh tk nu wo : Int32} {f : Nat → Int32} (hk : k = tkT (fun j => f (10 + j)) n) (hb : ∀ j, j < n → 0 ≤ (f (10 + j)).toInt) (hn : n ≤ 600) (hs : sz = nI n) (hT : zTokR k 0 nx wh tk nu wo) : zRr k n sz nx wh tk nu wo 0 (-1) (upd (upd (upd f 4 0) 5 0) 6 (-1)) (0, 0, 0, -1, -1) := by
  have e : ∀ j, upd (upd (upd f 4 0) 5 0) 6 (-1) (10 + j) = f (10 + j) := fun j => by rw [z_ne (by omega), z_ne (by omega), z_ne (by omega)]
  exact ⟨⟨hk.trans (congrArg (fun q => tkT q n) (funext fun j => (e j).symm)), fun j hj => by rw [e j]; exact hb j hj, hn, hs, Nat.zero_le _⟩, rfl, fun _ => hT, rfl, rfl, rfl⟩
theorem pAlso_w {kd w w' : Int32} {a : pS} (h : a.2.1.toInt = 0 → w = w') : pAlso kd w a = pAlso kd w' a := by
  by_cases c : a.2.1.toInt = 0
  · rw [h c]
  · rw [pAlso_n (Or.inl c), pAlso_n (Or.inl c)]
theorem zHd_all {G g : Nat → Int32} {flt fpl : Int32} (hp : zPal (upd (upd (upd G 4 0) 5 0) 6 (-1)) g) (h5 : g 5 = flt) (h6 : g 6 = fpl) : g = pHd G flt fpl := by
  funext j
  unfold pHd
  by_cases c6 : j = 6
  · rw [c6, z_eq rfl]; exact h6
  · rw [z_ne c6]
    by_cases c5 : j = 5
    · rw [c5, z_eq rfl]; exact h5
    · rw [z_ne c5, hp j c5 c6, z_ne c6, z_ne c5]
theorem zText_b {z : pS × (Nat → Int32)} {s : Nat} {at_ : Int32} {G : Nat → Int32} (h : ¬ pOkAt s at_ G) : zText z s at_ G (upd (upd (upd G 4 0) 5 0) 6 (-1)) (-2) := Or.inl ⟨h, rfl, fun j hj => rfl⟩
theorem zText_f {z : pS × (Nat → Int32)} {s : Nat} {at_ : Int32} {G g : Nat → Int32} (h : pOkAt s at_ G) (hf : ¬ z.1.2.2.1.toInt = 0) (hp : zPal (upd (upd (upd G 4 0) 5 0) 6 (-1)) g) (h5 : g 5 = z.1.2.2.1) (h6 : g 6 = z.1.2.2.2.1) : zText z s at_ G g (-1) := Or.inr (Or.inl ⟨h, hf, rfl, fun j hj => by rw [zHd_all hp h5 h6]⟩)
theorem zText_k {z : pS × (Nat → Int32)} {s kk : Nat} {at_ r : Int32} {G g A x : Nat → Int32} (h : pOkAt s at_ G) (hf : z.1.2.2.1.toInt = 0) (hr : r = pNr s at_ G) (hk : (pNr s at_ G).toInt = (kk : Int)) (hp : zPal (upd (upd (upd G 4 0) 5 0) 6 (-1)) g) (h5 : g 5 = z.1.2.2.1) (h6 : g 6 = z.1.2.2.2.1) (hA : A = pCnt s at_ g) (hS : ∀ j, j < pSize s → x (pBase s kk + j) = z.2 j) (hO : ∀ j, (j < pBase s kk ∨ pBase s kk + pSize s ≤ j) → x j = A j) : zText z s at_ G x r := by
  refine Or.inr (Or.inr ⟨h, hf, hr, fun j hj => ?_⟩)
  have e : (pNr s at_ G).toInt.toNat = kk := by omega
  rw [e]
  unfold pPut
  split
  · rename_i c
    have := hS (j - pBase s kk) (by omega)
    rw [show pBase s kk + (j - pBase s kk) = j by omega] at this
    exact this
  · rename_i c
    rw [hO j (by omega), hA, zHd_all hp h5 h6]
theorem pCnt_y {s : Nat} {at_ : Int32} {g : Nat → Int32} (h : at_.toInt = -1) : pCnt s at_ g = upd g s (g s + 1) := if_pos h
theorem pCnt_n {s : Nat} {at_ : Int32} {g : Nat → Int32} (h : ¬ at_.toInt = -1) : pCnt s at_ g = g := if_neg h
theorem pNr_y {s : Nat} {at_ : Int32} {g : Nat → Int32} (h : at_.toInt = -1) : pNr s at_ g = g s := if_pos h
theorem pNr_n {s : Nat} {at_ : Int32} {g : Nat → Int32} (h : ¬ at_.toInt = -1) : pNr s at_ g = at_ := if_neg h
theorem pOkAt_y {s : Nat} {at_ : Int32} {G : Nat → Int32} (h : at_.toInt = -1) : pOkAt s at_ G ↔ (G s).toInt < 2 := by unfold pOkAt; rw [if_pos h]
theorem pOkAt_n {s : Nat} {at_ : Int32} {G : Nat → Int32} (h : ¬ at_.toInt = -1) : pOkAt s at_ G ↔ (0 ≤ at_.toInt ∧ at_.toInt < (G s).toInt) := by unfold pOkAt; rw [if_neg h]
set_option maxHeartbeats 4000000 in
set_option maxRecDepth 100000 in
/-- postsAreThere -/
theorem c_fm_postsAreThere (l : Launch) (T : zTy) (mo : Nat) (m_all : Nat) (m_has : Nat) (i_size : Int32) (i_next : Int32) (i_where : Int32) (i_token : Int32) (i_number : Int32) (i_word : Int32) (i_wrong : Int32) (i_farCrossing : Int32) (m_read : Nat) (i_z0 : Int32) (i_crossings : Int32) (i_inns : Int32) (m_posts : Nat) (m_shut : Nat) (m_here : Nat) (i_steps : Int32) (i_done : Int32) (i_at : Int32) (i_gone : Int32) (m_was : Nat) (m_came : Nat) (m_seenAt : Nat) (m_rowWorth : Nat) (m_farBy : Nat) (m_used : Nat) (i_everywhere : Int32) (i_again0 : Int32) (i_d0 : Int32) (i_never : Int32) (i_firstCame : Int32) (i_longRun : Int32) (i_moved : Int32) (i_crowd : Int32) (i_l0 : Int32) (i_fitMany : Int32) (i_fitLeast : Int32) (i_fitMost : Int32) (m_fitPost : Nat) (m_fitEnd : Nat) (m_keptPosts : Nat) (i_x0 : Int32) (f_read : Nat → Int32) : zMi l T yX12_postsAreThere cX12_postsAreThere 3 (some .boolean) 1 0 0 [.ref mo] [[zO11 mo m_all m_has i_size i_next i_where i_token i_number i_word i_wrong i_farCrossing m_read i_z0 i_crossings i_inns m_posts m_shut m_here i_steps i_done i_at i_gone m_was m_came m_seenAt m_rowWorth m_farBy m_used i_everywhere i_again0 i_d0 i_never i_firstCame i_longRun i_moved i_crowd i_l0 i_fitMany i_fitLeast i_fitMost m_fitPost m_fitEnd m_keptPosts i_x0], [zAr T 0 m_read 121 f_read]] (fun (r : Int32) bs => bs = [[zO11 mo m_all m_has i_size i_next i_where i_token i_number i_word i_wrong i_farCrossing m_read i_z0 i_crossings i_inns m_posts m_shut m_here i_steps i_done i_at i_gone m_was m_came m_seenAt m_rowWorth m_farBy m_used i_everywhere i_again0 i_d0 i_never i_firstCame i_longRun i_moved i_crowd i_l0 i_fitMany i_fitLeast i_fitMost m_fitPost m_fitEnd m_keptPosts i_x0], [zAr T 0 m_read 121 f_read]] ∧ ((r = 1 ∧ pPosts f_read = true) ∨ (r = 0 ∧ pPosts f_read = false))) := by
  refine zMi_of (own := RX12) (by decide) rfl (Nat.le_of_ble_eq_true rfl) ?_
  intro p e s m args below meth c A ls C hr hlocks hnm hAe G hl
  refine zHide (fun Qz_ hQz_ => ?_)
  have hx := C.1
  have hb := C.2.1
  have hl : lv_has ls 3 [(0, .ref mo)] := hl
  refine lv_iconst (v := 1) hx hb dX12_postsAreThere_0 (by decide) ?_
  refine lv_istore_n (lv' := [(1, .int 1), (0, .ref mo)]) hx hb dX12_postsAreThere_1 rfl hl (by decide) (zLvf_h rfl) (fun ls hl => ?_)
  refine lv_iconst (v := 0) hx hb dX12_postsAreThere_2 (by decide) ?_
  refine lv_istore_n (lv' := [(2, .int 0), (1, .int 1), (0, .ref mo)]) hx hb dX12_postsAreThere_3 rfl hl (by decide) (zLvf_h rfl) (fun ls hl => ?_)
  refine z_lp2 (T := T) 4 (fun (b : Int32) (i : Nat) => [[zO11 mo m_all m_has i_size i_next i_where i_token i_number i_word i_wrong i_farCrossing m_read i_z0 i_crossings i_inns m_posts m_shut m_here i_steps i_done i_at i_gone m_was m_came m_seenAt m_rowWorth m_farBy m_used i_everywhere i_again0 i_d0 i_never i_firstCame i_longRun i_moved i_crowd i_l0 i_fitMany i_fitLeast i_fitMost m_fitPost m_fitEnd m_keptPosts i_x0], [zAr T 0 m_read 121 f_read]]) (fun (b : Int32) (i : Nat) => [(2, .int (nI i)), (1, .int b), (0, .ref mo)]) (fun (b : Int32) (i : Nat) => i ≤ 7 ∧ (b = 1 ∧ (∀ c, c < i → zGd f_read c) ∨ b = 0 ∧ ∃ c, c < i ∧ ¬ zGd f_read c)) (fun (b : Int32) (i : Nat) => 7 - i) ?_ 1 0 (show 0 ≤ 7 ∧ (1 = 1 ∧ (∀ c, c < 0 → zGd f_read c) ∨ 1 = 0 ∧ ∃ c, c < 0 ∧ ¬ zGd f_read c) from ⟨by omega, (Or.inl ⟨rfl, fun c hc => absurd hc (Nat.not_lt_zero _)⟩)⟩) G (lv_sub hl [0, 1, 2] rfl)
  intro b i hI9 ih_4 H locs ls G hl
  replace hI9 : i ≤ 7 ∧ (b = 1 ∧ (∀ c, c < i → zGd f_read c) ∨ b = 0 ∧ ∃ c, c < i ∧ ¬ zGd f_read c) := hI9
  refine zAn2 hI9 ?_
  intro hi hbb
  clear hI9
  replace G : zS T A s.heap s [[zO11 mo m_all m_has i_size i_next i_where i_token i_number i_word i_wrong i_farCrossing m_read i_z0 i_crossings i_inns m_posts m_shut m_here i_steps i_done i_at i_gone m_was m_came m_seenAt m_rowWorth m_farBy m_used i_everywhere i_again0 i_d0 i_never i_firstCame i_longRun i_moved i_crowd i_l0 i_fitMany i_fitLeast i_fitMost m_fitPost m_fitEnd m_keptPosts i_x0], [zAr T 0 m_read 121 f_read]] _ _ := G
  replace hl : lv_has ls 3 [(2, .int (nI i)), (1, .int b), (0, .ref mo)] := hl
  refine lv_iload_n hx hb dX12_postsAreThere_4 rfl (lv_at hl 0 rfl) ?_
  refine lv_bipush (v := 7) hx hb dX12_postsAreThere_5 (by decide) ?_
  refine lv_icmp_ge (tgt := 58) hx hb dX12_postsAreThere_7 (by decide) (fun c_1 => ?_) (fun c_1 => ?_)
  · have c_1n : 7 ≤ i := (nI_leI (a := 7) (b := i) (by omega) (by omega)).mp c_1
    rcases hbb with ⟨rfl, hg⟩ | ⟨rfl, hb0⟩
    · refine lv_iload_n hx hb dX12_postsAreThere_58 rfl (lv_at hl 1 rfl) ?_
      exact z_back hQz_ (z_zret C hr hlocks G (Nat.le_of_ble_eq_true rfl) (Nat.le_of_ble_eq_true rfl) dX12_postsAreThere_59 rfl ⟨rfl, (Or.inl (⟨rfl, (zGd_p (fun c hc => hg c (by omega)))⟩))⟩)
    · refine lv_iload_n hx hb dX12_postsAreThere_58 rfl (lv_at hl 1 rfl) ?_
      exact z_back hQz_ (z_zret C hr hlocks G (Nat.le_of_ble_eq_true rfl) (Nat.le_of_ble_eq_true rfl) dX12_postsAreThere_59 rfl ⟨rfl, (Or.inr (⟨rfl, (zGd_n (by obtain ⟨c9, u9, v9⟩ := hb0; exact ⟨c9, by omega, v9⟩))⟩))⟩)
  · have c_1n : ¬ 7 ≤ i := fun q => c_1 ((nI_leI (a := 7) (b := i) (by omega) (by omega)).mpr q)
    rcases hbb with ⟨rfl, hg⟩ | ⟨rfl, hb0⟩
    · refine lv_iload_n hx hb dX12_postsAreThere_10 rfl (lv_at hl 1 rfl) ?_
      refine lv_if_eq (tgt := 50) hx hb dX12_postsAreThere_11 (by decide) (fun q => absurd q (by decide)) (fun _ => ?_)
      refine lv_aload_n hx hb dX12_postsAreThere_14 rfl (lv_at hl 2 rfl) ?_
      refine z_get C G clX12 0 rfl 10 (by decide) m_fl_RX12_17 rfl dX12_postsAreThere_15 ?_
      refine lv_bipush (v := 9) hx hb dX12_postsAreThere_18 (by decide) ?_
      refine lv_iload_n hx hb dX12_postsAreThere_20 rfl (lv_at hl 0 rfl) ?_
      refine lv_iadd hx hb dX12_postsAreThere_21 ?_
      refine lv_topi (fun y_2 ey_2 => ?_)
      obtain rfl : y_2 = nI (9 + i) := ey_2.trans (z_iaddn 9 i rfl rfl)
      refine z_ild C G 1 rfl (vp_in_nI (by omega) (by decide)) dX12_postsAreThere_22 ?_
      refine lv_topi (fun v_3 ev_3 => ?_)
      rw [nI_clamp (by omega)] at ev_3
      subst ev_3
      refine lv_if_eq (tgt := 46) hx hb dX12_postsAreThere_23 (by decide) (fun c_4 => ?_) (fun c_4 => ?_)
      · have c_4n : (f_read (9 + i)).toInt = (0 : Int) := (fa_eq _ _).mp c_4
        refine lv_iconst (v := 1) hx hb dX12_postsAreThere_46 (by decide) ?_
        refine lv_goto (tgt := 51) hx hb dX12_postsAreThere_47 (by decide) ?_
        refine lv_istore_n (lv' := [(1, .int 1), (2, .int (nI i)), (0, .ref mo)]) hx hb dX12_postsAreThere_51 rfl hl (by decide) (zLvf_h rfl) (fun ls hl => ?_)
        refine lv_iinc (v := nI (i + 1)) (lv' := [(2, .int (nI (i + 1))), (1, .int 1), (0, .ref mo)]) hx hb dX12_postsAreThere_52 hl (k := 1) rfl (z_inc i 1) (by decide) (zLvf_h rfl) (fun ls hl => ?_)
        refine lv_goto (tgt := 4) hx hb dX12_postsAreThere_55 (by decide) ?_
        exact ih_4 1 (i + 1) (show (i + 1) ≤ 7 ∧ (1 = 1 ∧ (∀ c, c < (i + 1) → zGd f_read c) ∨ 1 = 0 ∧ ∃ c, c < (i + 1) ∧ ¬ zGd f_read c) from ⟨by omega, (Or.inl ⟨rfl, zGd_s hg (by first | exact Or.inl (by omega) | exact Or.inr (by omega))⟩)⟩) (show 7 - (i + 1) < 7 - i from by omega) _ _ ls G (lv_sub hl [0, 1, 2] rfl)
      · have c_4n : ¬ (f_read (9 + i)).toInt = (0 : Int) := fun q => c_4 ((fa_eq _ _).mpr q)
        refine lv_aload_n hx hb dX12_postsAreThere_26 rfl (lv_at hl 2 rfl) ?_
        refine z_get C G clX12 0 rfl 10 (by decide) m_fl_RX12_17 rfl dX12_postsAreThere_27 ?_
        refine lv_bipush (v := 9) hx hb dX12_postsAreThere_30 (by decide) ?_
        refine lv_iload_n hx hb dX12_postsAreThere_32 rfl (lv_at hl 0 rfl) ?_
        refine lv_iadd hx hb dX12_postsAreThere_33 ?_
        refine lv_topi (fun y_5 ey_5 => ?_)
        obtain rfl : y_5 = nI (9 + i) := ey_5.trans (z_iaddn 9 i rfl rfl)
        refine z_ild C G 1 rfl (vp_in_nI (by omega) (by decide)) dX12_postsAreThere_34 ?_
        refine lv_topi (fun v_6 ev_6 => ?_)
        rw [nI_clamp (by omega)] at ev_6
        subst ev_6
        refine lv_aload_n hx hb dX12_postsAreThere_35 rfl (lv_at hl 2 rfl) ?_
        refine z_get C G clX12 0 rfl 10 (by decide) m_fl_RX12_17 rfl dX12_postsAreThere_36 ?_
        refine lv_iconst (v := 2) hx hb dX12_postsAreThere_39 (by decide) ?_
        refine lv_iload_n hx hb dX12_postsAreThere_40 rfl (lv_at hl 0 rfl) ?_
        refine lv_iadd hx hb dX12_postsAreThere_41 ?_
        refine lv_topi (fun y_7 ey_7 => ?_)
        obtain rfl : y_7 = nI (2 + i) := ey_7.trans (z_iaddn 2 i rfl rfl)
        refine z_ild C G 1 rfl (vp_in_nI (by omega) (by decide)) dX12_postsAreThere_42 ?_
        refine lv_topi (fun v_8 ev_8 => ?_)
        rw [nI_clamp (by omega)] at ev_8
        subst ev_8
        refine lv_icmp_ge (tgt := 50) hx hb dX12_postsAreThere_43 (by decide) (fun c_9 => ?_) (fun c_9 => ?_)
        · have c_9n : (f_read (2 + i)).toInt ≤ (f_read (9 + i)).toInt := (fa_le _ _).mp c_9
          refine lv_iconst (v := 0) hx hb dX12_postsAreThere_50 (by decide) ?_
          refine lv_istore_n (lv' := [(1, .int 0), (2, .int (nI i)), (0, .ref mo)]) hx hb dX12_postsAreThere_51 rfl hl (by decide) (zLvf_h rfl) (fun ls hl => ?_)
          refine lv_iinc (v := nI (i + 1)) (lv' := [(2, .int (nI (i + 1))), (1, .int 0), (0, .ref mo)]) hx hb dX12_postsAreThere_52 hl (k := 1) rfl (z_inc i 1) (by decide) (zLvf_h rfl) (fun ls hl => ?_)
          refine lv_goto (tgt := 4) hx hb dX12_postsAreThere_55 (by decide) ?_
          exact ih_4 0 (i + 1) (show (i + 1) ≤ 7 ∧ (0 = 1 ∧ (∀ c, c < (i + 1) → zGd f_read c) ∨ 0 = 0 ∧ ∃ c, c < (i + 1) ∧ ¬ zGd f_read c) from ⟨by omega, (by first | exact Or.inr ⟨rfl, zGd_e hb0⟩ | exact Or.inr ⟨rfl, i, Nat.lt_succ_self i, fun z9 => by rcases z9 with z9 | z9 <;> omega⟩)⟩) (show 7 - (i + 1) < 7 - i from by omega) _ _ ls G (lv_sub hl [0, 1, 2] rfl)
        · have c_9n : ¬ (f_read (2 + i)).toInt ≤ (f_read (9 + i)).toInt := fun q => c_9 ((fa_le _ _).mpr q)
          refine lv_iconst (v := 1) hx hb dX12_postsAreThere_46 (by decide) ?_
          refine lv_goto (tgt := 51) hx hb dX12_postsAreThere_47 (by decide) ?_
          refine lv_istore_n (lv' := [(1, .int 1), (2, .int (nI i)), (0, .ref mo)]) hx hb dX12_postsAreThere_51 rfl hl (by decide) (zLvf_h rfl) (fun ls hl => ?_)
          refine lv_iinc (v := nI (i + 1)) (lv' := [(2, .int (nI (i + 1))), (1, .int 1), (0, .ref mo)]) hx hb dX12_postsAreThere_52 hl (k := 1) rfl (z_inc i 1) (by decide) (zLvf_h rfl) (fun ls hl => ?_)
          refine lv_goto (tgt := 4) hx hb dX12_postsAreThere_55 (by decide) ?_
          exact ih_4 1 (i + 1) (show (i + 1) ≤ 7 ∧ (1 = 1 ∧ (∀ c, c < (i + 1) → zGd f_read c) ∨ 1 = 0 ∧ ∃ c, c < (i + 1) ∧ ¬ zGd f_read c) from ⟨by omega, (Or.inl ⟨rfl, zGd_s hg (by first | exact Or.inl (by omega) | exact Or.inr (by omega))⟩)⟩) (show 7 - (i + 1) < 7 - i from by omega) _ _ ls G (lv_sub hl [0, 1, 2] rfl)
    · refine lv_iload_n hx hb dX12_postsAreThere_10 rfl (lv_at hl 1 rfl) ?_
      refine lv_if_eq (tgt := 50) hx hb dX12_postsAreThere_11 (by decide) (fun _ => ?_) (fun q => absurd (by decide) q)
      refine lv_iconst (v := 0) hx hb dX12_postsAreThere_50 (by decide) ?_
      refine lv_istore_n (lv' := [(1, .int 0), (2, .int (nI i)), (0, .ref mo)]) hx hb dX12_postsAreThere_51 rfl hl (by decide) (zLvf_h rfl) (fun ls hl => ?_)
      refine lv_iinc (v := nI (i + 1)) (lv' := [(2, .int (nI (i + 1))), (1, .int 0), (0, .ref mo)]) hx hb dX12_postsAreThere_52 hl (k := 1) rfl (z_inc i 1) (by decide) (zLvf_h rfl) (fun ls hl => ?_)
      refine lv_goto (tgt := 4) hx hb dX12_postsAreThere_55 (by decide) ?_
      exact ih_4 0 (i + 1) (show (i + 1) ≤ 7 ∧ (0 = 1 ∧ (∀ c, c < (i + 1) → zGd f_read c) ∨ 0 = 0 ∧ ∃ c, c < (i + 1) ∧ ¬ zGd f_read c) from ⟨by omega, (by first | exact Or.inr ⟨rfl, zGd_e hb0⟩ | exact Or.inr ⟨rfl, i, Nat.lt_succ_self i, fun z9 => by rcases z9 with z9 | z9 <;> omega⟩)⟩) (show 7 - (i + 1) < 7 - i from by omega) _ _ ls G (lv_sub hl [0, 1, 2] rfl)
set_option maxHeartbeats 4000000 in
set_option maxRecDepth 100000 in
/-- c_fm_text0 -/
theorem c_fm_text0 (l : Launch) (T : zTy) (mo : Nat) (m_all : Nat) (m_has : Nat) (i_size : Int32) (i_next : Int32) (i_where : Int32) (i_token : Int32) (i_number : Int32) (i_word : Int32) (i_wrong : Int32) (i_farCrossing : Int32) (m_read : Nat) (i_z0 : Int32) (i_crossings : Int32) (i_inns : Int32) (m_posts : Nat) (m_shut : Nat) (m_here : Nat) (i_steps : Int32) (i_done : Int32) (i_at : Int32) (i_gone : Int32) (m_was : Nat) (m_came : Nat) (m_seenAt : Nat) (m_rowWorth : Nat) (m_farBy : Nat) (m_used : Nat) (i_everywhere : Int32) (i_again0 : Int32) (i_d0 : Int32) (i_never : Int32) (i_firstCame : Int32) (i_longRun : Int32) (i_moved : Int32) (i_crowd : Int32) (i_l0 : Int32) (i_fitMany : Int32) (i_fitLeast : Int32) (i_fitMost : Int32) (m_fitPost : Nat) (m_fitEnd : Nat) (m_keptPosts : Nat) (i_x0 : Int32) (f_all : Nat → Int32) (f_read : Nat → Int32) (k : pT) (N : Nat) (at_ : Int32) (hB : zBI f_all) (hsN : f_all 4 = nI N) (hN6 : N ≤ 600) (hk : k = tkT (fun j => f_all (10 + j)) N) (hby : ∀ j, j < N → 0 ≤ (f_all (10 + j)).toInt) : zMi l T yX12_text cX12_text 5 (some .int) 9 0 0 [.ref mo, .int 0, .int at_] [[zO11 mo m_all m_has i_size i_next i_where i_token i_number i_word i_wrong i_farCrossing m_read i_z0 i_crossings i_inns m_posts m_shut m_here i_steps i_done i_at i_gone m_was m_came m_seenAt m_rowWorth m_farBy m_used i_everywhere i_again0 i_d0 i_never i_firstCame i_longRun i_moved i_crowd i_l0 i_fitMany i_fitLeast i_fitMost m_fitPost m_fitEnd m_keptPosts i_x0], [zAr T 0 m_all 3952 f_all], [zAr T 0 m_read 121 f_read]] (fun (r : Int32) bs => ∃ (j_size : Int32) (j_next : Int32) (j_where : Int32) (j_token : Int32) (j_number : Int32) (j_word : Int32) (j_wrong : Int32) (j_farCrossing : Int32) (g_all : Nat → Int32) (g_read : Nat → Int32), bs = [[zO11 mo m_all m_has j_size j_next j_where j_token j_number j_word j_wrong j_farCrossing m_read i_z0 i_crossings i_inns m_posts m_shut m_here i_steps i_done i_at i_gone m_was m_came m_seenAt m_rowWorth m_farBy m_used i_everywhere i_again0 i_d0 i_never i_firstCame i_longRun i_moved i_crowd i_l0 i_fitMany i_fitLeast i_fitMost m_fitPost m_fitEnd m_keptPosts i_x0], [zAr T 0 m_all 3952 g_all], [zAr T 0 m_read 121 g_read]] ∧ zBI g_all ∧ g_all 4 = 0 ∧ (∀ j, 988 ≤ j → g_all j = f_all j) ∧ (zText (pRead k N 0) 0 at_ f_all g_all r)) := by
  refine zMi_of (own := RX12) (by decide) rfl (Nat.le_of_ble_eq_true rfl) ?_
  intro p e s m args below meth c A ls C hr hlocks hnm hAe G hl
  refine zHide (fun Qz_ hQz_ => ?_)
  have hx := C.1
  have hb := C.2.1
  have hl : lv_has ls 5 [(0, .ref mo), (1, .int 0), (2, .int at_)] := hl
  refine lv_aload_n hx hb dX12_text_0 rfl (lv_at hl 0 rfl) ?_
  refine lv_aload_n hx hb dX12_text_1 rfl (lv_at hl 0 rfl) ?_
  refine z_get C G clX12 0 rfl 0 (by decide) m_fl_RX12_7 rfl dX12_text_2 ?_
  refine lv_iconst (v := 4) hx hb dX12_text_5 (by decide) ?_
  refine z_ild C G 1 rfl (vp_in_nI (n := 4) (by decide) (by decide)) dX12_text_6 ?_
  refine lv_topi (fun v_1 ev_1 => ?_)
  rw [show ((4 : Int32).toNatClampNeg) = 4 from rfl] at ev_1
  subst ev_1
  refine z_put C G clX12 0 rfl 2 (by decide) m_fl_RX12_56 rfl rfl rfl (Nat.le_of_ble_eq_true rfl) dX12_text_7 (fun H locs G => ?_)
  have G : zS T A s.heap s [[zO11 mo m_all m_has (f_all 4) i_next i_where i_token i_number i_word i_wrong i_farCrossing m_read i_z0 i_crossings i_inns m_posts m_shut m_here i_steps i_done i_at i_gone m_was m_came m_seenAt m_rowWorth m_farBy m_used i_everywhere i_again0 i_d0 i_never i_firstCame i_longRun i_moved i_crowd i_l0 i_fitMany i_fitLeast i_fitMost m_fitPost m_fitEnd m_keptPosts i_x0], [zAr T 0 m_all 3952 f_all], [zAr T 0 m_read 121 f_read]] _ _ := G
  refine lv_aload_n hx hb dX12_text_10 rfl (lv_at hl 0 rfl) ?_
  refine z_get C G clX12 0 rfl 0 (by decide) m_fl_RX12_7 rfl dX12_text_11 ?_
  refine lv_iconst (v := 4) hx hb dX12_text_14 (by decide) ?_
  refine lv_iconst (v := 0) hx hb dX12_text_15 (by decide) ?_
  refine z_ist C G 1 rfl (vp_in_nI (n := 4) (by decide) (by decide)) dX12_text_16 (fun H locs G => ?_)
  have G : zS T A s.heap s [[zO11 mo m_all m_has (f_all 4) i_next i_where i_token i_number i_word i_wrong i_farCrossing m_read i_z0 i_crossings i_inns m_posts m_shut m_here i_steps i_done i_at i_gone m_was m_came m_seenAt m_rowWorth m_farBy m_used i_everywhere i_again0 i_d0 i_never i_firstCame i_longRun i_moved i_crowd i_l0 i_fitMany i_fitLeast i_fitMost m_fitPost m_fitEnd m_keptPosts i_x0], [zAr T 0 m_all 3952 (upd f_all 4 0)], [zAr T 0 m_read 121 f_read]] _ _ := G
  refine lv_aload_n hx hb dX12_text_17 rfl (lv_at hl 0 rfl) ?_
  refine z_get C G clX12 0 rfl 0 (by decide) m_fl_RX12_7 rfl dX12_text_18 ?_
  refine lv_iconst (v := 5) hx hb dX12_text_21 (by decide) ?_
  refine lv_iconst (v := 0) hx hb dX12_text_22 (by decide) ?_
  refine z_ist C G 1 rfl (vp_in_nI (n := 5) (by decide) (by decide)) dX12_text_23 (fun H locs G => ?_)
  have G : zS T A s.heap s [[zO11 mo m_all m_has (f_all 4) i_next i_where i_token i_number i_word i_wrong i_farCrossing m_read i_z0 i_crossings i_inns m_posts m_shut m_here i_steps i_done i_at i_gone m_was m_came m_seenAt m_rowWorth m_farBy m_used i_everywhere i_again0 i_d0 i_never i_firstCame i_longRun i_moved i_crowd i_l0 i_fitMany i_fitLeast i_fitMost m_fitPost m_fitEnd m_keptPosts i_x0], [zAr T 0 m_all 3952 (upd (upd f_all 4 0) 5 0)], [zAr T 0 m_read 121 f_read]] _ _ := G
  refine lv_aload_n hx hb dX12_text_24 rfl (lv_at hl 0 rfl) ?_
  refine z_get C G clX12 0 rfl 0 (by decide) m_fl_RX12_7 rfl dX12_text_25 ?_
  refine lv_bipush (v := 6) hx hb dX12_text_28 (by decide) ?_
  refine lv_iconst (v := (-1)) hx hb dX12_text_30 (by decide) ?_
  refine z_ist C G 1 rfl (vp_in_nI (n := 6) (by decide) (by decide)) dX12_text_31 (fun H locs G => ?_)
  have G : zS T A s.heap s [[zO11 mo m_all m_has (f_all 4) i_next i_where i_token i_number i_word i_wrong i_farCrossing m_read i_z0 i_crossings i_inns m_posts m_shut m_here i_steps i_done i_at i_gone m_was m_came m_seenAt m_rowWorth m_farBy m_used i_everywhere i_again0 i_d0 i_never i_firstCame i_longRun i_moved i_crowd i_l0 i_fitMany i_fitLeast i_fitMost m_fitPost m_fitEnd m_keptPosts i_x0], [zAr T 0 m_all 3952 (upd (upd (upd f_all 4 0) 5 0) 6 (-1))], [zAr T 0 m_read 121 f_read]] _ _ := G
  have hB4 := hB.1
  have hF : ∀ j, j ≠ 4 → j ≠ 5 → j ≠ 6 → (upd (upd (upd f_all 4 0) 5 0) 6 (-1)) j = f_all j := fun j h1 h2 h3 => by unfold upd; rw [if_neg h3, if_neg h2, if_neg h1]
  refine lv_iload_n hx hb dX12_text_32 rfl (lv_at hl 1 rfl) ?_
  refine lv_iconst (v := 0) hx hb dX12_text_33 (by decide) ?_
  refine lv_iconst (v := 2) hx hb dX12_text_34 (by decide) ?_
  refine z_Si (bc := []) (br := [[zO11 mo m_all m_has (f_all 4) i_next i_where i_token i_number i_word i_wrong i_farCrossing m_read i_z0 i_crossings i_inns m_posts m_shut m_here i_steps i_done i_at i_gone m_was m_came m_seenAt m_rowWorth m_farBy m_used i_everywhere i_again0 i_d0 i_never i_firstCame i_longRun i_moved i_crowd i_l0 i_fitMany i_fitLeast i_fitMost m_fitPost m_fitEnd m_keptPosts i_x0], [zAr T 0 m_all 3952 (upd (upd (upd f_all 4 0) 5 0) 6 (-1))], [zAr T 0 m_read 121 f_read]]) (As := [.int 0, .int 0, .int 2]) (rest := []) C G (c_m_isIn l T 0 0 2) (kS_RX12_111 C.2.2.2.2 (Nat.le_of_ble_eq_true rfl) (Nat.le_of_ble_eq_true rfl)) [] [] rfl rfl rfl rfl hl.1 dX12_text_35 (Nat.le_of_ble_eq_true rfl) (Nat.le_of_ble_eq_true rfl) (fun r_3 b1 H locs hw G => ?_)
  refine zAn2 hw ?_
  intro hbs9 hc_2
  clear hw
  subst hbs9
  have G : zS T A s.heap s [[zO11 mo m_all m_has (f_all 4) i_next i_where i_token i_number i_word i_wrong i_farCrossing m_read i_z0 i_crossings i_inns m_posts m_shut m_here i_steps i_done i_at i_gone m_was m_came m_seenAt m_rowWorth m_farBy m_used i_everywhere i_again0 i_d0 i_never i_firstCame i_longRun i_moved i_crowd i_l0 i_fitMany i_fitLeast i_fitMost m_fitPost m_fitEnd m_keptPosts i_x0], [zAr T 0 m_all 3952 (upd (upd (upd f_all 4 0) 5 0) 6 (-1))], [zAr T 0 m_read 121 f_read]] _ _ := G
  rcases hc_2 with ⟨rfl, h_4, h_5⟩ | ⟨rfl, h_6⟩
  · have h_4 : (0 : Int) ≤ (0 : Int) := h_4
    have h_5 : (0 : Int) ≤ (2 : Int) := h_5
    refine lv_if_eq (tgt := 68) hx hb dX12_text_38 (by decide) (fun q => absurd q (by decide)) (fun _ => ?_)
    rcases (Decidable.em (at_ = -1)) with hne | hne
    · obtain rfl : at_ = -1 := hne
      have hq1 : ((upd (upd (upd f_all 4 0) 5 0) 6 (-1)) 0).toInt = (f_all 0).toInt := rfl
      have hqf : 0 ≤ (f_all 0).toInt ∧ (f_all 0).toInt ≤ 2 := hB.2.1 0 (by decide)
      have hqF : 0 ≤ ((upd (upd (upd f_all 4 0) 5 0) 6 (-1)) 0).toInt ∧ ((upd (upd (upd f_all 4 0) 5 0) 6 (-1)) 0).toInt ≤ 2 := hqf
      have hai : ((-1) : Int32).toInt = -1 := rfl
      have hoi : zHd _ := pOkAt_y (s := 0) (at_ := (-1)) (G := f_all) hai
      refine lv_iload_n hx hb dX12_text_41 rfl (lv_at hl 2 rfl) ?_
      refine lv_iconst (v := (-1)) hx hb dX12_text_42 (by decide) ?_
      refine lv_icmp_ne (tgt := 59) hx hb dX12_text_43 (by decide) (fun q => absurd rfl q) (fun _ => ?_)
      refine lv_aload_n hx hb dX12_text_46 rfl (lv_at hl 0 rfl) ?_
      refine z_get C G clX12 0 rfl 0 (by decide) m_fl_RX12_7 rfl dX12_text_47 ?_
      refine lv_iload_n hx hb dX12_text_50 rfl (lv_at hl 1 rfl) ?_
      refine z_ild C G 1 rfl (vp_in_nI (n := 0) (by decide) (by decide)) dX12_text_51 ?_
      refine lv_topi (fun v_7 ev_7 => ?_)
      rw [show ((0 : Int32).toNatClampNeg) = 0 from rfl] at ev_7
      subst ev_7
      rw [show (upd (upd (upd f_all 4 0) 5 0) 6 (-1)) 0 = f_all 0 from rfl]
      refine lv_iconst (v := 2) hx hb dX12_text_52 (by decide) ?_
      refine lv_icmp_lt (tgt := 71) hx hb dX12_text_53 (by decide) (fun c_8 => ?_) (fun c_8 => ?_)
      · have c_8n : (f_all 0).toInt < (2 : Int) := (fa_lt _ _).mp c_8
        refine lv_aload_n hx hb dX12_text_71 rfl (lv_at hl 0 rfl) ?_
        refine lv_iconst (v := 0) hx hb dX12_text_72 (by decide) ?_
        refine z_put C G clX12 0 rfl 3 (by decide) m_fl_RX12_70 rfl rfl rfl (Nat.le_of_ble_eq_true rfl) dX12_text_73 (fun H locs G => ?_)
        have G : zS T A s.heap s [[zO11 mo m_all m_has (f_all 4) 0 i_where i_token i_number i_word i_wrong i_farCrossing m_read i_z0 i_crossings i_inns m_posts m_shut m_here i_steps i_done i_at i_gone m_was m_came m_seenAt m_rowWorth m_farBy m_used i_everywhere i_again0 i_d0 i_never i_firstCame i_longRun i_moved i_crowd i_l0 i_fitMany i_fitLeast i_fitMost m_fitPost m_fitEnd m_keptPosts i_x0], [zAr T 0 m_all 3952 (upd (upd (upd f_all 4 0) 5 0) 6 (-1))], [zAr T 0 m_read 121 f_read]] _ _ := G
        refine lv_aload_n hx hb dX12_text_76 rfl (lv_at hl 0 rfl) ?_
        refine lv_iconst (v := 0) hx hb dX12_text_77 (by decide) ?_
        refine z_put C G clX12 0 rfl 8 (by decide) m_fl_RX12_104 rfl rfl rfl (Nat.le_of_ble_eq_true rfl) dX12_text_78 (fun H locs G => ?_)
        have G : zS T A s.heap s [[zO11 mo m_all m_has (f_all 4) 0 i_where i_token i_number i_word 0 i_farCrossing m_read i_z0 i_crossings i_inns m_posts m_shut m_here i_steps i_done i_at i_gone m_was m_came m_seenAt m_rowWorth m_farBy m_used i_everywhere i_again0 i_d0 i_never i_firstCame i_longRun i_moved i_crowd i_l0 i_fitMany i_fitLeast i_fitMost m_fitPost m_fitEnd m_keptPosts i_x0], [zAr T 0 m_all 3952 (upd (upd (upd f_all 4 0) 5 0) 6 (-1))], [zAr T 0 m_read 121 f_read]] _ _ := G
        refine lv_aload_n hx hb dX12_text_81 rfl (lv_at hl 0 rfl) ?_
        refine lv_iconst (v := (-1)) hx hb dX12_text_82 (by decide) ?_
        refine z_put C G clX12 0 rfl 9 (by decide) m_fl_RX12_126 rfl rfl rfl (Nat.le_of_ble_eq_true rfl) dX12_text_83 (fun H locs G => ?_)
        have G : zS T A s.heap s [[zO11 mo m_all m_has (f_all 4) 0 i_where i_token i_number i_word 0 (-1) m_read i_z0 i_crossings i_inns m_posts m_shut m_here i_steps i_done i_at i_gone m_was m_came m_seenAt m_rowWorth m_farBy m_used i_everywhere i_again0 i_d0 i_never i_firstCame i_longRun i_moved i_crowd i_l0 i_fitMany i_fitLeast i_fitMost m_fitPost m_fitEnd m_keptPosts i_x0], [zAr T 0 m_all 3952 (upd (upd (upd f_all 4 0) 5 0) 6 (-1))], [zAr T 0 m_read 121 f_read]] _ _ := G
        refine zMt9 (T := T) 237 (fun (xn : Int32) (xw : Int32) (xt : Int32) (xu : Int32) (xo : Int32) (xr : Int32) (xf : Int32) (ga : Nat → Int32) (gr : Nat → Int32) => [[zO11 mo m_all m_has (f_all 4) xn xw xt xu xo xr xf m_read i_z0 i_crossings i_inns m_posts m_shut m_here i_steps i_done i_at i_gone m_was m_came m_seenAt m_rowWorth m_farBy m_used i_everywhere i_again0 i_d0 i_never i_firstCame i_longRun i_moved i_crowd i_l0 i_fitMany i_fitLeast i_fitMost m_fitPost m_fitEnd m_keptPosts i_x0], [zAr T 0 m_all 3952 ga], [zAr T 0 m_read 121 gr]]) (fun (xn : Int32) (xw : Int32) (xt : Int32) (xu : Int32) (xo : Int32) (xr : Int32) (xf : Int32) (ga : Nat → Int32) (gr : Nat → Int32) => [(0, .ref mo), (1, .int 0), (2, .int (-1))]) (fun (xn : Int32) (xw : Int32) (xt : Int32) (xu : Int32) (xo : Int32) (xr : Int32) (xf : Int32) (ga : Nat → Int32) (gr : Nat → Int32) => zLF gr ∧ zPal (upd (upd (upd f_all 4 0) 5 0) 6 (-1)) ga ∧ zRr k N (f_all 4) xn xw xt xu xo xr xf ga (pRead k N 0).1 ∧ (pRead k N 0).2 = gr) G hl ?_ (fun jn_237 => ?_)
        · intro xn xw xt xu xo xr xf ga gr hI9 H locs ls G hl
          replace hI9 : zLF gr ∧ zPal (upd (upd (upd f_all 4 0) 5 0) 6 (-1)) ga ∧ zRr k N (f_all 4) xn xw xt xu xo xr xf ga (pRead k N 0).1 ∧ (pRead k N 0).2 = gr := hI9
          refine zAn4 hI9 ?_
          intro hL hpal hZ1 hZ2
          clear hI9
          replace G : zS T A s.heap s [[zO11 mo m_all m_has (f_all 4) xn xw xt xu xo xr xf m_read i_z0 i_crossings i_inns m_posts m_shut m_here i_steps i_done i_at i_gone m_was m_came m_seenAt m_rowWorth m_farBy m_used i_everywhere i_again0 i_d0 i_never i_firstCame i_longRun i_moved i_crowd i_l0 i_fitMany i_fitLeast i_fitMost m_fitPost m_fitEnd m_keptPosts i_x0], [zAr T 0 m_all 3952 ga], [zAr T 0 m_read 121 gr]] _ _ := G
          replace hl : lv_has ls 5 [(0, .ref mo), (1, .int 0), (2, .int (-1))] := hl
          have hZ5 := hZ1.2.2.2.1
          have hZ6 := hZ1.2.2.2.2.1
          have hZ5i := congrArg Int32.toInt hZ5
          refine lv_aload_n hx hb dX12_text_237 rfl (lv_at hl 0 rfl) ?_
          refine z_get C G clX12 0 rfl 0 (by decide) m_fl_RX12_7 rfl dX12_text_238 ?_
          refine lv_iconst (v := 5) hx hb dX12_text_241 (by decide) ?_
          refine z_ild C G 1 rfl (vp_in_nI (n := 5) (by decide) (by decide)) dX12_text_242 ?_
          refine lv_topi (fun v_9 ev_9 => ?_)
          rw [show ((5 : Int32).toNatClampNeg) = 5 from rfl] at ev_9
          subst ev_9
          refine lv_if_eq (tgt := 248) hx hb dX12_text_243 (by decide) (fun c_10 => ?_) (fun c_10 => ?_)
          · have c_10n : (ga 5).toInt = (0 : Int) := (fa_eq _ _).mp c_10
            refine lv_iload_n hx hb dX12_text_248 rfl (lv_at hl 2 rfl) ?_
            refine lv_iconst (v := (-1)) hx hb dX12_text_249 (by decide) ?_
            refine lv_icmp_ne (tgt := 262) hx hb dX12_text_250 (by decide) (fun q => absurd rfl q) (fun _ => ?_)
            refine lv_aload_n hx hb dX12_text_253 rfl (lv_at hl 0 rfl) ?_
            refine z_get C G clX12 0 rfl 0 (by decide) m_fl_RX12_7 rfl dX12_text_254 ?_
            refine lv_iload_n hx hb dX12_text_257 rfl (lv_at hl 1 rfl) ?_
            refine z_ild C G 1 rfl (vp_in_nI (n := 0) (by decide) (by decide)) dX12_text_258 ?_
            refine lv_topi (fun v_11 ev_11 => ?_)
            rw [show ((0 : Int32).toNatClampNeg) = 0 from rfl] at ev_11
            subst ev_11
            refine lv_goto (tgt := 263) hx hb dX12_text_259 (by decide) ?_
            have hg0 : (ga 0).toInt = (f_all 0).toInt := congrArg Int32.toInt (hpal 0 (by decide) (by decide))
            rcases (show (ga 0).toInt = 0 ∨ (ga 0).toInt = 1 from by omega) with hk | hk
            · rw [show ga 0 = 0 from Int32.toInt_inj.mp hk]
              refine lv_istore_n (lv' := [(3, .int 0), (0, .ref mo), (1, .int 0), (2, .int (-1))]) hx hb dX12_text_263 rfl hl (by decide) (zLvf_h rfl) (fun ls hl => ?_)
              refine lv_iload_n hx hb dX12_text_264 rfl (lv_at hl 3 rfl) ?_
              refine lv_iconst (v := (-1)) hx hb dX12_text_265 (by decide) ?_
              refine lv_icmp_ne (tgt := 279) hx hb dX12_text_266 (by decide) (fun q => absurd rfl q) (fun _ => ?_)
              refine lv_aload_n hx hb dX12_text_269 rfl (lv_at hl 1 rfl) ?_
              refine z_get C G clX12 0 rfl 0 (by decide) m_fl_RX12_7 rfl dX12_text_270 ?_
              refine lv_iload_n hx hb dX12_text_273 rfl (lv_at hl 2 rfl) ?_
              refine lv_dup2_11 hx hb dX12_text_274 rfl rfl ?_
              refine z_ild C G 1 rfl (vp_in_nI (n := 0) (by decide) (by decide)) dX12_text_275 ?_
              refine lv_topi (fun v_12 ev_12 => ?_)
              rw [show ((0 : Int32).toNatClampNeg) = 0 from rfl] at ev_12
              subst ev_12
              refine lv_iconst (v := 1) hx hb dX12_text_276 (by decide) ?_
              refine lv_iadd hx hb dX12_text_277 ?_
              refine lv_topi (fun y_13 ey_13 => ?_)
              have ey_13i : y_13.toInt = (ga 0).toInt + (1 : Int) := by rw [ey_13]; exact z_iaddI (x := (ga 0)) (y := (1 : Int32)) (by show -2147483648 ≤ (ga 0).toInt + (1 : Int); omega) (by show (ga 0).toInt + (1 : Int) < 2147483648; omega)
              refine z_ist C G 1 rfl (vp_in_nI (n := 0) (by decide) (by decide)) dX12_text_278 (fun H locs G => ?_)
              have G : zS T A s.heap s [[zO11 mo m_all m_has (f_all 4) xn xw xt xu xo xr xf m_read i_z0 i_crossings i_inns m_posts m_shut m_here i_steps i_done i_at i_gone m_was m_came m_seenAt m_rowWorth m_farBy m_used i_everywhere i_again0 i_d0 i_never i_firstCame i_longRun i_moved i_crowd i_l0 i_fitMany i_fitLeast i_fitMost m_fitPost m_fitEnd m_keptPosts i_x0], [zAr T 0 m_all 3952 (upd ga 0 y_13)], [zAr T 0 m_read 121 gr]] _ _ := G
              refine lv_iconst (v := 0) hx hb dX12_text_279 (by decide) ?_
              refine lv_istore (lv' := [(4, .int 0), (3, .int 0), (0, .ref mo), (1, .int 0), (2, .int (-1))]) hx hb dX12_text_280 hl (by decide) (zLvf_h rfl) (fun ls hl => ?_)
              refine z_lp2 (T := T) 282 (fun (i : Nat) (x : Nat → Int32) => [[zO11 mo m_all m_has (f_all 4) xn xw xt xu xo xr xf m_read i_z0 i_crossings i_inns m_posts m_shut m_here i_steps i_done i_at i_gone m_was m_came m_seenAt m_rowWorth m_farBy m_used i_everywhere i_again0 i_d0 i_never i_firstCame i_longRun i_moved i_crowd i_l0 i_fitMany i_fitLeast i_fitMost m_fitPost m_fitEnd m_keptPosts i_x0], [zAr T 0 m_all 3952 x], [zAr T 0 m_read 121 gr]]) (fun (i : Nat) (x : Nat → Int32) => [(4, .int (nI i)), (3, .int 0), (0, .ref mo), (1, .int 0), (2, .int (-1))]) (fun (i : Nat) (x : Nat → Int32) => i ≤ 51 ∧ (∀ j, j < i → x (610 + j) = gr j) ∧ (∀ j, (j < 610 ∨ 661 ≤ j) → x j = (upd ga 0 y_13) j)) (fun (i : Nat) (x : Nat → Int32) => 51 - i) ?_ 0 (upd ga 0 y_13) (show 0 ≤ 51 ∧ (∀ j, j < 0 → (upd ga 0 y_13) (610 + j) = gr j) ∧ (∀ j, (j < 610 ∨ 661 ≤ j) → (upd ga 0 y_13) j = (upd ga 0 y_13) j) from ⟨by omega, fun j hj => absurd hj (by omega), fun j _ => rfl⟩) G (lv_sub hl [0, 1, 2, 3, 4] rfl)
              intro i x hI9 ih_282 H locs ls G hl
              replace hI9 : i ≤ 51 ∧ (∀ j, j < i → x (610 + j) = gr j) ∧ (∀ j, (j < 610 ∨ 661 ≤ j) → x j = (upd ga 0 y_13) j) := hI9
              refine zAn3 hI9 ?_
              intro hi hS hO
              clear hI9
              replace G : zS T A s.heap s [[zO11 mo m_all m_has (f_all 4) xn xw xt xu xo xr xf m_read i_z0 i_crossings i_inns m_posts m_shut m_here i_steps i_done i_at i_gone m_was m_came m_seenAt m_rowWorth m_farBy m_used i_everywhere i_again0 i_d0 i_never i_firstCame i_longRun i_moved i_crowd i_l0 i_fitMany i_fitLeast i_fitMost m_fitPost m_fitEnd m_keptPosts i_x0], [zAr T 0 m_all 3952 x], [zAr T 0 m_read 121 gr]] _ _ := G
              replace hl : lv_has ls 5 [(4, .int (nI i)), (3, .int 0), (0, .ref mo), (1, .int 0), (2, .int (-1))] := hl
              refine lv_iload hx hb dX12_text_282 (lv_at hl 0 rfl) ?_
              refine lv_iload_n hx hb dX12_text_284 rfl (lv_at hl 3 rfl) ?_
              refine z_Si (bc := []) (br := [[zO11 mo m_all m_has (f_all 4) xn xw xt xu xo xr xf m_read i_z0 i_crossings i_inns m_posts m_shut m_here i_steps i_done i_at i_gone m_was m_came m_seenAt m_rowWorth m_farBy m_used i_everywhere i_again0 i_d0 i_never i_firstCame i_longRun i_moved i_crowd i_l0 i_fitMany i_fitLeast i_fitMost m_fitPost m_fitEnd m_keptPosts i_x0], [zAr T 0 m_all 3952 x], [zAr T 0 m_read 121 gr]]) (As := [.int 0]) (rest := [.int (nI i)]) C G (c_m_sizeOf0 l T) (kS_RX12_160 C.2.2.2.2 (Nat.le_of_ble_eq_true rfl) (Nat.le_of_ble_eq_true rfl)) [] [] rfl rfl rfl rfl hl.1 dX12_text_285 (Nat.le_of_ble_eq_true rfl) (Nat.le_of_ble_eq_true rfl) (fun r_15 b1 H locs hw G => ?_)
              refine zAn2 hw ?_
              intro hbs9 h_14
              clear hw
              subst hbs9
              have G : zS T A s.heap s [[zO11 mo m_all m_has (f_all 4) xn xw xt xu xo xr xf m_read i_z0 i_crossings i_inns m_posts m_shut m_here i_steps i_done i_at i_gone m_was m_came m_seenAt m_rowWorth m_farBy m_used i_everywhere i_again0 i_d0 i_never i_firstCame i_longRun i_moved i_crowd i_l0 i_fitMany i_fitLeast i_fitMost m_fitPost m_fitEnd m_keptPosts i_x0], [zAr T 0 m_all 3952 x], [zAr T 0 m_read 121 gr]] _ _ := G
              subst h_14
              refine lv_icmp_ge (tgt := 317) hx hb dX12_text_288 (by decide) (fun c_16 => ?_) (fun c_16 => ?_)
              · have c_16n : 51 ≤ i := (nI_leI (a := 51) (b := i) (by omega) (by omega)).mp c_16
                refine lv_iload_n hx hb dX12_text_317 rfl (lv_at hl 1 rfl) ?_
                exact z_back hQz_ (z_iret C hr hlocks G (Nat.le_of_ble_eq_true rfl) (Nat.le_of_ble_eq_true rfl) dX12_text_318 ⟨(f_all 4), xn, xw, xt, xu, xo, xr, xf, x, gr, rfl, (zBI_p0 0 (by decide) hB ((hO 4 (by omega)).trans (hpal 4 (by decide) (by decide))) (fun q hq => by
    rw [hO q (by omega)]
    by_cases e9 : q = 0
    · rw [show upd _ 0 _ q = _ from if_pos e9]; omega
    · rw [show upd _ 0 _ q = _ from if_neg e9, show _ = f_all q from (hpal q (by omega) (by omega)).trans (hF q (by omega) (by omega) (by omega))]; exact hB.2.1 q hq) (fun j hj hj2 => (hO j (by omega)).trans ((show upd _ 0 _ j = _ from if_neg (by omega)).trans ((hpal j (by omega) (by omega)).trans (hF j (by omega) (by omega) (by omega))))) (by first | with_reducible assumption | assumption) (fun j hj => hS j (by omega))), ((hO 4 (by omega)).trans (hpal 4 (by decide) (by decide))), (fun j hj => (hO j (by omega)).trans ((show upd _ 0 _ j = _ from if_neg (by omega)).trans ((hpal j (by omega) (by omega)).trans (hF j (by omega) (by omega) (by omega))))), (zText_k (kk := 0) (A := upd ga 0 y_13) (g := ga) (hoi.mpr (by omega)) (by rw [← hZ5]; omega) ((pNr_y hai).trans (Int32.toInt_inj.mp (by show (f_all 0).toInt = 0; omega))).symm (by rw [pNr_y hai]; show (f_all 0).toInt = 0; omega) hpal hZ5 hZ6 (by rw [pCnt_y hai, ey_13]) (by rw [hZ2]; exact fun j hj => hS j (by have hj : j < 51 := hj; omega)) (fun j hj => hO j (by have hj : j < 610 ∨ 610 + 51 ≤ j := hj; omega)))⟩)
              · have c_16n : ¬ 51 ≤ i := fun q => c_16 ((nI_leI (a := 51) (b := i) (by omega) (by omega)).mpr q)
                refine lv_aload_n hx hb dX12_text_291 rfl (lv_at hl 2 rfl) ?_
                refine z_get C G clX12 0 rfl 0 (by decide) m_fl_RX12_7 rfl dX12_text_292 ?_
                refine lv_iload_n hx hb dX12_text_295 rfl (lv_at hl 3 rfl) ?_
                refine lv_iload_n hx hb dX12_text_296 rfl (lv_at hl 1 rfl) ?_
                refine z_Si (bc := []) (br := [[zO11 mo m_all m_has (f_all 4) xn xw xt xu xo xr xf m_read i_z0 i_crossings i_inns m_posts m_shut m_here i_steps i_done i_at i_gone m_was m_came m_seenAt m_rowWorth m_farBy m_used i_everywhere i_again0 i_d0 i_never i_firstCame i_longRun i_moved i_crowd i_l0 i_fitMany i_fitLeast i_fitMost m_fitPost m_fitEnd m_keptPosts i_x0], [zAr T 0 m_all 3952 x], [zAr T 0 m_read 121 gr]]) (As := [.int 0, .int 0]) (rest := [.ref m_all]) C G (c_m_placeOf00 l T) (kS_RX12_163 C.2.2.2.2 (Nat.le_of_ble_eq_true rfl) (Nat.le_of_ble_eq_true rfl)) [] [] rfl rfl rfl rfl hl.1 dX12_text_297 (Nat.le_of_ble_eq_true rfl) (Nat.le_of_ble_eq_true rfl) (fun r_18 b1 H locs hw G => ?_)
                refine zAn2 hw ?_
                intro hbs9 h_17
                clear hw
                subst hbs9
                have G : zS T A s.heap s [[zO11 mo m_all m_has (f_all 4) xn xw xt xu xo xr xf m_read i_z0 i_crossings i_inns m_posts m_shut m_here i_steps i_done i_at i_gone m_was m_came m_seenAt m_rowWorth m_farBy m_used i_everywhere i_again0 i_d0 i_never i_firstCame i_longRun i_moved i_crowd i_l0 i_fitMany i_fitLeast i_fitMost m_fitPost m_fitEnd m_keptPosts i_x0], [zAr T 0 m_all 3952 x], [zAr T 0 m_read 121 gr]] _ _ := G
                subst h_17
                refine lv_iload hx hb dX12_text_300 (lv_at hl 0 rfl) ?_
                refine lv_iadd hx hb dX12_text_302 ?_
                refine lv_topi (fun y_19 ey_19 => ?_)
                obtain rfl : y_19 = nI (610 + i) := ey_19.trans (z_iaddn 610 i rfl rfl)
                refine lv_aload_n hx hb dX12_text_303 rfl (lv_at hl 2 rfl) ?_
                refine z_get C G clX12 0 rfl 10 (by decide) m_fl_RX12_17 rfl dX12_text_304 ?_
                refine lv_iload hx hb dX12_text_307 (lv_at hl 0 rfl) ?_
                refine z_ild C G 2 rfl (vp_in_nI (by omega) (by decide)) dX12_text_309 ?_
                refine lv_topi (fun v_20 ev_20 => ?_)
                rw [nI_clamp (by omega)] at ev_20
                subst ev_20
                refine z_ist C G 1 rfl (vp_in_nI (by omega) (by decide)) dX12_text_310 (fun H locs G => ?_)
                rw [nI_clamp (by omega)] at G
                have G : zS T A s.heap s [[zO11 mo m_all m_has (f_all 4) xn xw xt xu xo xr xf m_read i_z0 i_crossings i_inns m_posts m_shut m_here i_steps i_done i_at i_gone m_was m_came m_seenAt m_rowWorth m_farBy m_used i_everywhere i_again0 i_d0 i_never i_firstCame i_longRun i_moved i_crowd i_l0 i_fitMany i_fitLeast i_fitMost m_fitPost m_fitEnd m_keptPosts i_x0], [zAr T 0 m_all 3952 (upd x (610 + i) (gr i))], [zAr T 0 m_read 121 gr]] _ _ := G
                refine lv_iinc (v := nI (i + 1)) (lv' := [(4, .int (nI (i + 1))), (3, .int 0), (0, .ref mo), (1, .int 0), (2, .int (-1))]) hx hb dX12_text_311 hl (k := 0) rfl (z_inc i 1) (by decide) (zLvf_h rfl) (fun ls hl => ?_)
                refine lv_goto (tgt := 282) hx hb dX12_text_314 (by decide) ?_
                exact ih_282 (i + 1) (upd x (610 + i) (gr i)) (show (i + 1) ≤ 51 ∧ (∀ j, j < (i + 1) → (upd x (610 + i) (gr i)) (610 + j) = gr j) ∧ (∀ j, (j < 610 ∨ 661 ≤ j) → (upd x (610 + i) (gr i)) j = (upd ga 0 y_13) j) from ⟨by omega, z_upS hS rfl, z_upO hO (by omega)⟩) (show 51 - (i + 1) < 51 - i from by omega) _ _ ls G (lv_sub hl [0, 1, 2, 3, 4] rfl)
            · rw [show ga 0 = 1 from Int32.toInt_inj.mp hk]
              refine lv_istore_n (lv' := [(3, .int 1), (0, .ref mo), (1, .int 0), (2, .int (-1))]) hx hb dX12_text_263 rfl hl (by decide) (zLvf_h rfl) (fun ls hl => ?_)
              refine lv_iload_n hx hb dX12_text_264 rfl (lv_at hl 3 rfl) ?_
              refine lv_iconst (v := (-1)) hx hb dX12_text_265 (by decide) ?_
              refine lv_icmp_ne (tgt := 279) hx hb dX12_text_266 (by decide) (fun q => absurd rfl q) (fun _ => ?_)
              refine lv_aload_n hx hb dX12_text_269 rfl (lv_at hl 1 rfl) ?_
              refine z_get C G clX12 0 rfl 0 (by decide) m_fl_RX12_7 rfl dX12_text_270 ?_
              refine lv_iload_n hx hb dX12_text_273 rfl (lv_at hl 2 rfl) ?_
              refine lv_dup2_11 hx hb dX12_text_274 rfl rfl ?_
              refine z_ild C G 1 rfl (vp_in_nI (n := 0) (by decide) (by decide)) dX12_text_275 ?_
              refine lv_topi (fun v_21 ev_21 => ?_)
              rw [show ((0 : Int32).toNatClampNeg) = 0 from rfl] at ev_21
              subst ev_21
              refine lv_iconst (v := 1) hx hb dX12_text_276 (by decide) ?_
              refine lv_iadd hx hb dX12_text_277 ?_
              refine lv_topi (fun y_22 ey_22 => ?_)
              have ey_22i : y_22.toInt = (ga 0).toInt + (1 : Int) := by rw [ey_22]; exact z_iaddI (x := (ga 0)) (y := (1 : Int32)) (by show -2147483648 ≤ (ga 0).toInt + (1 : Int); omega) (by show (ga 0).toInt + (1 : Int) < 2147483648; omega)
              refine z_ist C G 1 rfl (vp_in_nI (n := 0) (by decide) (by decide)) dX12_text_278 (fun H locs G => ?_)
              have G : zS T A s.heap s [[zO11 mo m_all m_has (f_all 4) xn xw xt xu xo xr xf m_read i_z0 i_crossings i_inns m_posts m_shut m_here i_steps i_done i_at i_gone m_was m_came m_seenAt m_rowWorth m_farBy m_used i_everywhere i_again0 i_d0 i_never i_firstCame i_longRun i_moved i_crowd i_l0 i_fitMany i_fitLeast i_fitMost m_fitPost m_fitEnd m_keptPosts i_x0], [zAr T 0 m_all 3952 (upd ga 0 y_22)], [zAr T 0 m_read 121 gr]] _ _ := G
              refine lv_iconst (v := 0) hx hb dX12_text_279 (by decide) ?_
              refine lv_istore (lv' := [(4, .int 0), (3, .int 1), (0, .ref mo), (1, .int 0), (2, .int (-1))]) hx hb dX12_text_280 hl (by decide) (zLvf_h rfl) (fun ls hl => ?_)
              refine z_lp2 (T := T) 282 (fun (i : Nat) (x : Nat → Int32) => [[zO11 mo m_all m_has (f_all 4) xn xw xt xu xo xr xf m_read i_z0 i_crossings i_inns m_posts m_shut m_here i_steps i_done i_at i_gone m_was m_came m_seenAt m_rowWorth m_farBy m_used i_everywhere i_again0 i_d0 i_never i_firstCame i_longRun i_moved i_crowd i_l0 i_fitMany i_fitLeast i_fitMost m_fitPost m_fitEnd m_keptPosts i_x0], [zAr T 0 m_all 3952 x], [zAr T 0 m_read 121 gr]]) (fun (i : Nat) (x : Nat → Int32) => [(4, .int (nI i)), (3, .int 1), (0, .ref mo), (1, .int 0), (2, .int (-1))]) (fun (i : Nat) (x : Nat → Int32) => i ≤ 51 ∧ (∀ j, j < i → x (661 + j) = gr j) ∧ (∀ j, (j < 661 ∨ 712 ≤ j) → x j = (upd ga 0 y_22) j)) (fun (i : Nat) (x : Nat → Int32) => 51 - i) ?_ 0 (upd ga 0 y_22) (show 0 ≤ 51 ∧ (∀ j, j < 0 → (upd ga 0 y_22) (661 + j) = gr j) ∧ (∀ j, (j < 661 ∨ 712 ≤ j) → (upd ga 0 y_22) j = (upd ga 0 y_22) j) from ⟨by omega, fun j hj => absurd hj (by omega), fun j _ => rfl⟩) G (lv_sub hl [0, 1, 2, 3, 4] rfl)
              intro i x hI9 ih_282 H locs ls G hl
              replace hI9 : i ≤ 51 ∧ (∀ j, j < i → x (661 + j) = gr j) ∧ (∀ j, (j < 661 ∨ 712 ≤ j) → x j = (upd ga 0 y_22) j) := hI9
              refine zAn3 hI9 ?_
              intro hi hS hO
              clear hI9
              replace G : zS T A s.heap s [[zO11 mo m_all m_has (f_all 4) xn xw xt xu xo xr xf m_read i_z0 i_crossings i_inns m_posts m_shut m_here i_steps i_done i_at i_gone m_was m_came m_seenAt m_rowWorth m_farBy m_used i_everywhere i_again0 i_d0 i_never i_firstCame i_longRun i_moved i_crowd i_l0 i_fitMany i_fitLeast i_fitMost m_fitPost m_fitEnd m_keptPosts i_x0], [zAr T 0 m_all 3952 x], [zAr T 0 m_read 121 gr]] _ _ := G
              replace hl : lv_has ls 5 [(4, .int (nI i)), (3, .int 1), (0, .ref mo), (1, .int 0), (2, .int (-1))] := hl
              refine lv_iload hx hb dX12_text_282 (lv_at hl 0 rfl) ?_
              refine lv_iload_n hx hb dX12_text_284 rfl (lv_at hl 3 rfl) ?_
              refine z_Si (bc := []) (br := [[zO11 mo m_all m_has (f_all 4) xn xw xt xu xo xr xf m_read i_z0 i_crossings i_inns m_posts m_shut m_here i_steps i_done i_at i_gone m_was m_came m_seenAt m_rowWorth m_farBy m_used i_everywhere i_again0 i_d0 i_never i_firstCame i_longRun i_moved i_crowd i_l0 i_fitMany i_fitLeast i_fitMost m_fitPost m_fitEnd m_keptPosts i_x0], [zAr T 0 m_all 3952 x], [zAr T 0 m_read 121 gr]]) (As := [.int 0]) (rest := [.int (nI i)]) C G (c_m_sizeOf0 l T) (kS_RX12_160 C.2.2.2.2 (Nat.le_of_ble_eq_true rfl) (Nat.le_of_ble_eq_true rfl)) [] [] rfl rfl rfl rfl hl.1 dX12_text_285 (Nat.le_of_ble_eq_true rfl) (Nat.le_of_ble_eq_true rfl) (fun r_24 b1 H locs hw G => ?_)
              refine zAn2 hw ?_
              intro hbs9 h_23
              clear hw
              subst hbs9
              have G : zS T A s.heap s [[zO11 mo m_all m_has (f_all 4) xn xw xt xu xo xr xf m_read i_z0 i_crossings i_inns m_posts m_shut m_here i_steps i_done i_at i_gone m_was m_came m_seenAt m_rowWorth m_farBy m_used i_everywhere i_again0 i_d0 i_never i_firstCame i_longRun i_moved i_crowd i_l0 i_fitMany i_fitLeast i_fitMost m_fitPost m_fitEnd m_keptPosts i_x0], [zAr T 0 m_all 3952 x], [zAr T 0 m_read 121 gr]] _ _ := G
              subst h_23
              refine lv_icmp_ge (tgt := 317) hx hb dX12_text_288 (by decide) (fun c_25 => ?_) (fun c_25 => ?_)
              · have c_25n : 51 ≤ i := (nI_leI (a := 51) (b := i) (by omega) (by omega)).mp c_25
                refine lv_iload_n hx hb dX12_text_317 rfl (lv_at hl 1 rfl) ?_
                exact z_back hQz_ (z_iret C hr hlocks G (Nat.le_of_ble_eq_true rfl) (Nat.le_of_ble_eq_true rfl) dX12_text_318 ⟨(f_all 4), xn, xw, xt, xu, xo, xr, xf, x, gr, rfl, (zBI_p0 1 (by decide) hB ((hO 4 (by omega)).trans (hpal 4 (by decide) (by decide))) (fun q hq => by
    rw [hO q (by omega)]
    by_cases e9 : q = 0
    · rw [show upd _ 0 _ q = _ from if_pos e9]; omega
    · rw [show upd _ 0 _ q = _ from if_neg e9, show _ = f_all q from (hpal q (by omega) (by omega)).trans (hF q (by omega) (by omega) (by omega))]; exact hB.2.1 q hq) (fun j hj hj2 => (hO j (by omega)).trans ((show upd _ 0 _ j = _ from if_neg (by omega)).trans ((hpal j (by omega) (by omega)).trans (hF j (by omega) (by omega) (by omega))))) (by first | with_reducible assumption | assumption) (fun j hj => hS j (by omega))), ((hO 4 (by omega)).trans (hpal 4 (by decide) (by decide))), (fun j hj => (hO j (by omega)).trans ((show upd _ 0 _ j = _ from if_neg (by omega)).trans ((hpal j (by omega) (by omega)).trans (hF j (by omega) (by omega) (by omega))))), (zText_k (kk := 1) (A := upd ga 0 y_22) (g := ga) (hoi.mpr (by omega)) (by rw [← hZ5]; omega) ((pNr_y hai).trans (Int32.toInt_inj.mp (by show (f_all 0).toInt = 1; omega))).symm (by rw [pNr_y hai]; show (f_all 0).toInt = 1; omega) hpal hZ5 hZ6 (by rw [pCnt_y hai, ey_22]) (by rw [hZ2]; exact fun j hj => hS j (by have hj : j < 51 := hj; omega)) (fun j hj => hO j (by have hj : j < 661 ∨ 661 + 51 ≤ j := hj; omega)))⟩)
              · have c_25n : ¬ 51 ≤ i := fun q => c_25 ((nI_leI (a := 51) (b := i) (by omega) (by omega)).mpr q)
                refine lv_aload_n hx hb dX12_text_291 rfl (lv_at hl 2 rfl) ?_
                refine z_get C G clX12 0 rfl 0 (by decide) m_fl_RX12_7 rfl dX12_text_292 ?_
                refine lv_iload_n hx hb dX12_text_295 rfl (lv_at hl 3 rfl) ?_
                refine lv_iload_n hx hb dX12_text_296 rfl (lv_at hl 1 rfl) ?_
                refine z_Si (bc := []) (br := [[zO11 mo m_all m_has (f_all 4) xn xw xt xu xo xr xf m_read i_z0 i_crossings i_inns m_posts m_shut m_here i_steps i_done i_at i_gone m_was m_came m_seenAt m_rowWorth m_farBy m_used i_everywhere i_again0 i_d0 i_never i_firstCame i_longRun i_moved i_crowd i_l0 i_fitMany i_fitLeast i_fitMost m_fitPost m_fitEnd m_keptPosts i_x0], [zAr T 0 m_all 3952 x], [zAr T 0 m_read 121 gr]]) (As := [.int 0, .int 1]) (rest := [.ref m_all]) C G (c_m_placeOf01 l T) (kS_RX12_163 C.2.2.2.2 (Nat.le_of_ble_eq_true rfl) (Nat.le_of_ble_eq_true rfl)) [] [] rfl rfl rfl rfl hl.1 dX12_text_297 (Nat.le_of_ble_eq_true rfl) (Nat.le_of_ble_eq_true rfl) (fun r_27 b1 H locs hw G => ?_)
                refine zAn2 hw ?_
                intro hbs9 h_26
                clear hw
                subst hbs9
                have G : zS T A s.heap s [[zO11 mo m_all m_has (f_all 4) xn xw xt xu xo xr xf m_read i_z0 i_crossings i_inns m_posts m_shut m_here i_steps i_done i_at i_gone m_was m_came m_seenAt m_rowWorth m_farBy m_used i_everywhere i_again0 i_d0 i_never i_firstCame i_longRun i_moved i_crowd i_l0 i_fitMany i_fitLeast i_fitMost m_fitPost m_fitEnd m_keptPosts i_x0], [zAr T 0 m_all 3952 x], [zAr T 0 m_read 121 gr]] _ _ := G
                subst h_26
                refine lv_iload hx hb dX12_text_300 (lv_at hl 0 rfl) ?_
                refine lv_iadd hx hb dX12_text_302 ?_
                refine lv_topi (fun y_28 ey_28 => ?_)
                obtain rfl : y_28 = nI (661 + i) := ey_28.trans (z_iaddn 661 i rfl rfl)
                refine lv_aload_n hx hb dX12_text_303 rfl (lv_at hl 2 rfl) ?_
                refine z_get C G clX12 0 rfl 10 (by decide) m_fl_RX12_17 rfl dX12_text_304 ?_
                refine lv_iload hx hb dX12_text_307 (lv_at hl 0 rfl) ?_
                refine z_ild C G 2 rfl (vp_in_nI (by omega) (by decide)) dX12_text_309 ?_
                refine lv_topi (fun v_29 ev_29 => ?_)
                rw [nI_clamp (by omega)] at ev_29
                subst ev_29
                refine z_ist C G 1 rfl (vp_in_nI (by omega) (by decide)) dX12_text_310 (fun H locs G => ?_)
                rw [nI_clamp (by omega)] at G
                have G : zS T A s.heap s [[zO11 mo m_all m_has (f_all 4) xn xw xt xu xo xr xf m_read i_z0 i_crossings i_inns m_posts m_shut m_here i_steps i_done i_at i_gone m_was m_came m_seenAt m_rowWorth m_farBy m_used i_everywhere i_again0 i_d0 i_never i_firstCame i_longRun i_moved i_crowd i_l0 i_fitMany i_fitLeast i_fitMost m_fitPost m_fitEnd m_keptPosts i_x0], [zAr T 0 m_all 3952 (upd x (661 + i) (gr i))], [zAr T 0 m_read 121 gr]] _ _ := G
                refine lv_iinc (v := nI (i + 1)) (lv' := [(4, .int (nI (i + 1))), (3, .int 1), (0, .ref mo), (1, .int 0), (2, .int (-1))]) hx hb dX12_text_311 hl (k := 0) rfl (z_inc i 1) (by decide) (zLvf_h rfl) (fun ls hl => ?_)
                refine lv_goto (tgt := 282) hx hb dX12_text_314 (by decide) ?_
                exact ih_282 (i + 1) (upd x (661 + i) (gr i)) (show (i + 1) ≤ 51 ∧ (∀ j, j < (i + 1) → (upd x (661 + i) (gr i)) (661 + j) = gr j) ∧ (∀ j, (j < 661 ∨ 712 ≤ j) → (upd x (661 + i) (gr i)) j = (upd ga 0 y_22) j) from ⟨by omega, z_upS hS rfl, z_upO hO (by omega)⟩) (show 51 - (i + 1) < 51 - i from by omega) _ _ ls G (lv_sub hl [0, 1, 2, 3, 4] rfl)
          · have c_10n : ¬ (ga 5).toInt = (0 : Int) := fun q => c_10 ((fa_eq _ _).mpr q)
            refine lv_iconst (v := (-1)) hx hb dX12_text_246 (by decide) ?_
            exact z_back hQz_ (z_iret C hr hlocks G (Nat.le_of_ble_eq_true rfl) (Nat.le_of_ble_eq_true rfl) dX12_text_247 ⟨(f_all 4), xn, xw, xt, xu, xo, xr, xf, ga, gr, rfl, (zBI_hd hB (hpal 4 (by decide) (by decide)) (fun q hq => by rw [show _ = f_all q from (hpal q (by omega) (by omega)).trans (hF q (by omega) (by omega) (by omega))]; exact hB.2.1 q hq) (fun j hj => (hpal j (by omega) (by omega)).trans (hF j (by omega) (by omega) (by omega)))), (hpal 4 (by decide) (by decide)), (fun j hj => (hpal j (by omega) (by omega)).trans (hF j (by omega) (by omega) (by omega))), (zText_f (hoi.mpr (by omega)) (by rw [← hZ5]; omega) hpal hZ5 hZ6)⟩)
        refine lv_iconst (v := 0) hx hb dX12_text_86 (by decide) ?_
        refine lv_istore_n (lv' := [(3, .int 0), (0, .ref mo), (1, .int 0), (2, .int (-1))]) hx hb dX12_text_87 rfl hl (by decide) (zLvf_h rfl) (fun ls hl => ?_)
        refine z_lp2 (T := T) 88 (fun (k_ : Nat) (z : Nat → Int32) => [[zO11 mo m_all m_has (f_all 4) 0 i_where i_token i_number i_word 0 (-1) m_read i_z0 i_crossings i_inns m_posts m_shut m_here i_steps i_done i_at i_gone m_was m_came m_seenAt m_rowWorth m_farBy m_used i_everywhere i_again0 i_d0 i_never i_firstCame i_longRun i_moved i_crowd i_l0 i_fitMany i_fitLeast i_fitMost m_fitPost m_fitEnd m_keptPosts i_x0], [zAr T 0 m_all 3952 (upd (upd (upd f_all 4 0) 5 0) 6 (-1))], [zAr T 0 m_read 121 z]]) (fun (k_ : Nat) (z : Nat → Int32) => [(3, .int (nI k_)), (0, .ref mo), (1, .int 0), (2, .int (-1))]) (fun (k_ : Nat) (z : Nat → Int32) => k_ ≤ 121 ∧ (∀ j, j < k_ → z j = 0)) (fun (k_ : Nat) (z : Nat → Int32) => 121 - k_) ?_ 0 f_read (show 0 ≤ 121 ∧ (∀ j, j < 0 → f_read j = 0) from ⟨by omega, fun j hj => absurd hj (by omega)⟩) G (lv_sub hl [0, 1, 2, 3] rfl)
        intro k_ z hI9 ih_88 H locs ls G hl
        replace hI9 : k_ ≤ 121 ∧ (∀ j, j < k_ → z j = 0) := hI9
        refine zAn2 hI9 ?_
        intro hk_ hZ
        clear hI9
        replace G : zS T A s.heap s [[zO11 mo m_all m_has (f_all 4) 0 i_where i_token i_number i_word 0 (-1) m_read i_z0 i_crossings i_inns m_posts m_shut m_here i_steps i_done i_at i_gone m_was m_came m_seenAt m_rowWorth m_farBy m_used i_everywhere i_again0 i_d0 i_never i_firstCame i_longRun i_moved i_crowd i_l0 i_fitMany i_fitLeast i_fitMost m_fitPost m_fitEnd m_keptPosts i_x0], [zAr T 0 m_all 3952 (upd (upd (upd f_all 4 0) 5 0) 6 (-1))], [zAr T 0 m_read 121 z]] _ _ := G
        replace hl : lv_has ls 5 [(3, .int (nI k_)), (0, .ref mo), (1, .int 0), (2, .int (-1))] := hl
        refine lv_iload_n hx hb dX12_text_88 rfl (lv_at hl 0 rfl) ?_
        refine lv_bipush (v := 121) hx hb dX12_text_89 (by decide) ?_
        refine lv_icmp_ge (tgt := 107) hx hb dX12_text_91 (by decide) (fun c_30 => ?_) (fun c_30 => ?_)
        · have c_30n : 121 ≤ k_ := (nI_leI (a := 121) (b := k_) (by omega) (by omega)).mp c_30
          have G := z_cg G 2 rfl (fun _ => 0) (fun j hj => hZ j (by omega))
          have G : zS T A s.heap s [[zO11 mo m_all m_has (f_all 4) 0 i_where i_token i_number i_word 0 (-1) m_read i_z0 i_crossings i_inns m_posts m_shut m_here i_steps i_done i_at i_gone m_was m_came m_seenAt m_rowWorth m_farBy m_used i_everywhere i_again0 i_d0 i_never i_firstCame i_longRun i_moved i_crowd i_l0 i_fitMany i_fitLeast i_fitMost m_fitPost m_fitEnd m_keptPosts i_x0], [zAr T 0 m_all 3952 (upd (upd (upd f_all 4 0) 5 0) 6 (-1))], [zAr T 0 m_read 121 (fun _ => 0)]] _ _ := G
          refine lv_aload_n hx hb dX12_text_107 rfl (lv_at hl 1 rfl) ?_
          refine z_Vv (bc := [[zO11 mo m_all m_has (f_all 4) 0 i_where i_token i_number i_word 0 (-1) m_read i_z0 i_crossings i_inns m_posts m_shut m_here i_steps i_done i_at i_gone m_was m_came m_seenAt m_rowWorth m_farBy m_used i_everywhere i_again0 i_d0 i_never i_firstCame i_longRun i_moved i_crowd i_l0 i_fitMany i_fitLeast i_fitMost m_fitPost m_fitEnd m_keptPosts i_x0], [zAr T 0 m_all 3952 (upd (upd (upd f_all 4 0) 5 0) 6 (-1))]]) (br := [[zAr T 0 m_read 121 (fun _ => 0)]]) (As := []) (rest := []) C G (c_fm_advance l T mo m_all m_has (f_all 4) 0 i_where i_token i_number i_word 0 (-1) m_read i_z0 i_crossings i_inns m_posts m_shut m_here i_steps i_done i_at i_gone m_was m_came m_seenAt m_rowWorth m_farBy m_used i_everywhere i_again0 i_d0 i_never i_firstCame i_longRun i_moved i_crowd i_l0 i_fitMany i_fitLeast i_fitMost m_fitPost m_fitEnd m_keptPosts i_x0 (upd (upd (upd f_all 4 0) 5 0) 6 (-1)) 0 N k hsN rfl (Nat.zero_le _) hN6 (hk.trans (congrArg (fun q9 => tkT q9 N) (funext fun j => ((z_ne (by omega)).trans ((z_ne (by omega)).trans (z_ne (by omega)))).symm))) (fun j hj => by rw [z_ne (by omega), z_ne (by omega), z_ne (by omega)]; exact hby j hj)) (kV_RX12_119 C.2.2.2.2 (Nat.le_of_ble_eq_true rfl) (Nat.le_of_ble_eq_true rfl)) [0, 1] [0, 0] rfl rfl (ci := 11) (qc := (RX12, TX12, 43)) rfl rfl (List.mem_flatten.mpr ⟨_, List.mem_of_getElem? (i := 0) rfl, List.mem_cons_self⟩) rfl rfl hl.1 dX12_text_108 (Nat.le_of_ble_eq_true rfl) (Nat.le_of_ble_eq_true rfl) (fun b1 H locs hw G => ?_)
          refine zEx5 hw ?_
          intro j_next_31 j_where_32 j_token_33 j_number_34 j_word_35
          refine zCu8 ?_
          intro hbs9 h_36 h_37 h_38 h_39 h_40 h_41 h_42
          clear hw
          subst hbs9
          have G : zS T A s.heap s [[zAr T 0 m_read 121 (fun _ => 0)], [zO11 mo m_all m_has (f_all 4) j_next_31 j_where_32 j_token_33 j_number_34 j_word_35 0 (-1) m_read i_z0 i_crossings i_inns m_posts m_shut m_here i_steps i_done i_at i_gone m_was m_came m_seenAt m_rowWorth m_farBy m_used i_everywhere i_again0 i_d0 i_never i_firstCame i_longRun i_moved i_crowd i_l0 i_fitMany i_fitLeast i_fitMost m_fitPost m_fitEnd m_keptPosts i_x0], [zAr T 0 m_all 3952 (upd (upd (upd f_all 4 0) 5 0) 6 (-1))]] _ _ := G
          have h_38 : (0 : Int) ≤ j_next_31.toInt := h_38
          have h_39 : (j_token_33.toInt = 0 ∨ (0 : Int) < j_next_31.toInt) := h_39
          refine z_lp11 (T := T) 111 (fun (xn : Int32) (xw : Int32) (xt : Int32) (xu : Int32) (xo : Int32) (xr : Int32) (xf : Int32) (ga : Nat → Int32) (gr : Nat → Int32) (A9 : pS) (j : Nat) => [[zAr T 0 m_read 121 gr], [zO11 mo m_all m_has (f_all 4) xn xw xt xu xo xr xf m_read i_z0 i_crossings i_inns m_posts m_shut m_here i_steps i_done i_at i_gone m_was m_came m_seenAt m_rowWorth m_farBy m_used i_everywhere i_again0 i_d0 i_never i_firstCame i_longRun i_moved i_crowd i_l0 i_fitMany i_fitLeast i_fitMost m_fitPost m_fitEnd m_keptPosts i_x0], [zAr T 0 m_all 3952 ga]]) (fun (xn : Int32) (xw : Int32) (xt : Int32) (xu : Int32) (xo : Int32) (xr : Int32) (xf : Int32) (ga : Nat → Int32) (gr : Nat → Int32) (A9 : pS) (j : Nat) => [(0, .ref mo), (1, .int 0), (2, .int (-1))]) (fun (xn : Int32) (xw : Int32) (xt : Int32) (xu : Int32) (xo : Int32) (xr : Int32) (xf : Int32) (ga : Nat → Int32) (gr : Nat → Int32) (A9 : pS) (j : Nat) => zLF gr ∧ 0 ≤ xn.toInt ∧ xn.toInt ≤ (f_all 4).toInt ∧ zPal (upd (upd (upd f_all 4 0) 5 0) 6 (-1)) ga ∧ zRr k N (f_all 4) xn xw xt xu xo xr xf ga A9 ∧ pLines k 0 (601 - j) A9 gr = pLines k 0 601 (0, 0, 0, -1, -1) (fun _ => 0) ∧ (¬ xr.toInt = 0 ∨ xt.toInt = 0 ∨ (j : Int) < xn.toInt)) (fun (xn : Int32) (xw : Int32) (xt : Int32) (xu : Int32) (xo : Int32) (xr : Int32) (xf : Int32) (ga : Nat → Int32) (gr : Nat → Int32) (A9 : pS) (j : Nat) => zMu xr xt xn (f_all 4)) ?_ j_next_31 j_where_32 j_token_33 j_number_34 j_word_35 0 (-1) (upd (upd (upd f_all 4 0) 5 0) 6 (-1)) (fun _ => 0) (0, 0, 0, -1, -1) 0 (show zLF (fun _ => 0) ∧ 0 ≤ j_next_31.toInt ∧ j_next_31.toInt ≤ (f_all 4).toInt ∧ zPal (upd (upd (upd f_all 4 0) 5 0) 6 (-1)) (upd (upd (upd f_all 4 0) 5 0) 6 (-1)) ∧ zRr k N (f_all 4) j_next_31 j_where_32 j_token_33 j_number_34 j_word_35 0 (-1) (upd (upd (upd f_all 4 0) 5 0) 6 (-1)) (0, 0, 0, -1, -1) ∧ pLines k 0 (601 - 0) (0, 0, 0, -1, -1) (fun _ => 0) = pLines k 0 601 (0, 0, 0, -1, -1) (fun _ => 0) ∧ (¬ (0 : Int32).toInt = 0 ∨ j_token_33.toInt = 0 ∨ (0 : Int) < j_next_31.toInt) from ⟨(zLF_z (fun j hj => rfl)), by omega, by omega, (zPal_rf _), (zRr_st hk hby hN6 hsN h_42), rfl, by omega⟩) G (lv_sub hl [1, 2, 3] rfl)
          intro xn xw xt xu xo xr xf ga gr A9 j hI9 ih_111 H locs ls G hl
          replace hI9 : zLF gr ∧ 0 ≤ xn.toInt ∧ xn.toInt ≤ (f_all 4).toInt ∧ zPal (upd (upd (upd f_all 4 0) 5 0) 6 (-1)) ga ∧ zRr k N (f_all 4) xn xw xt xu xo xr xf ga A9 ∧ pLines k 0 (601 - j) A9 gr = pLines k 0 601 (0, 0, 0, -1, -1) (fun _ => 0) ∧ (¬ xr.toInt = 0 ∨ xt.toInt = 0 ∨ (j : Int) < xn.toInt) := hI9
          refine zAn7 hI9 ?_
          intro hL hx1 hx2 hpal hRA hEq hpj
          clear hI9
          replace G : zS T A s.heap s [[zAr T 0 m_read 121 gr], [zO11 mo m_all m_has (f_all 4) xn xw xt xu xo xr xf m_read i_z0 i_crossings i_inns m_posts m_shut m_here i_steps i_done i_at i_gone m_was m_came m_seenAt m_rowWorth m_farBy m_used i_everywhere i_again0 i_d0 i_never i_firstCame i_longRun i_moved i_crowd i_l0 i_fitMany i_fitLeast i_fitMost m_fitPost m_fitEnd m_keptPosts i_x0], [zAr T 0 m_all 3952 ga]] _ _ := G
          replace hl : lv_has ls 5 [(0, .ref mo), (1, .int 0), (2, .int (-1))] := hl
          refine lv_aload_n hx hb dX12_text_111 rfl (lv_at hl 0 rfl) ?_
          have hokA := zRr_ok hRA
          refine zAn6 (id hRA) ?_
          intro hA1A hA6A hA7A hA8A hA9A hA10A
          replace hA7A : zHd _ := hA7A
          have hkaA : zHd _ := hokA A9.1 hA1A.2.2.2.2
          have hkbA := hkaA.1
          have hkcA := hkaA.2.1
          have hT4A := pTk_le hokA hA1A.2.2.2.2
          refine z_get C G clX12 1 rfl 8 (by decide) m_fl_RX12_104 rfl dX12_text_112 ?_
          refine lv_if_ne (tgt := 173) hx hb dX12_text_115 (by decide) (fun c_44 => ?_) (fun c_44 => ?_)
          · have c_44n : ¬ xr.toInt = (0 : Int) := fun q => c_44 ((fa_eq _ _).mpr q)
            have hX := hEq.symm.trans (pLines_x (fun z9 => by first | (exact absurd z9.1 (by rw [← hA6A]; omega)) | (exact z9.2 (by omega))))
            have hRd := pRead_e (n := N) hX
            have hww : zHd (A9.2.1.toInt = 0 → xw = nI N) := fun z9 => by first | (exact absurd z9 (by rw [← hA6A]; omega)) | (rw [t2A, hkaA.2.2.1 (pTk_0.mp (by omega))])
            refine zMt1 (T := T) 208 (fun (gb : Nat → Int32) => [[zAr T 0 m_read 121 gr], [zO11 mo m_all m_has (f_all 4) xn xw xt xu xo xr xf m_read i_z0 i_crossings i_inns m_posts m_shut m_here i_steps i_done i_at i_gone m_was m_came m_seenAt m_rowWorth m_farBy m_used i_everywhere i_again0 i_d0 i_never i_firstCame i_longRun i_moved i_crowd i_l0 i_fitMany i_fitLeast i_fitMost m_fitPost m_fitEnd m_keptPosts i_x0], [zAr T 0 m_all 3952 gb]]) (fun (gb : Nat → Int32) => [(0, .ref mo), (1, .int 0), (2, .int (-1))]) (fun (gb : Nat → Int32) => zRr k N (f_all 4) xn xw xt xu xo xr xf gb (pF4 N 0 A9 gr) ∧ zHd ((pF4 N 0 A9 gr).2.1.toInt = 0 → xw = nI N) ∧ zPal (upd (upd (upd f_all 4 0) 5 0) 6 (-1)) gb) G hl ?_ (fun jn_208 => ?_)
            · intro gb hI9 H locs ls G hl
              replace hI9 : zRr k N (f_all 4) xn xw xt xu xo xr xf gb (pF4 N 0 A9 gr) ∧ zHd ((pF4 N 0 A9 gr).2.1.toInt = 0 → xw = nI N) ∧ zPal (upd (upd (upd f_all 4 0) 5 0) 6 (-1)) gb := hI9
              refine zAn3 hI9 ?_
              intro hR4 hw4 hpb
              clear hI9
              replace G : zS T A s.heap s [[zAr T 0 m_read 121 gr], [zO11 mo m_all m_has (f_all 4) xn xw xt xu xo xr xf m_read i_z0 i_crossings i_inns m_posts m_shut m_here i_steps i_done i_at i_gone m_was m_came m_seenAt m_rowWorth m_farBy m_used i_everywhere i_again0 i_d0 i_never i_firstCame i_longRun i_moved i_crowd i_l0 i_fitMany i_fitLeast i_fitMost m_fitPost m_fitEnd m_keptPosts i_x0], [zAr T 0 m_all 3952 gb]] _ _ := G
              replace hl : lv_has ls 5 [(0, .ref mo), (1, .int 0), (2, .int (-1))] := hl
              have h54 := hR4.2.2.2.1
              refine lv_iload_n hx hb dX12_text_208 rfl (lv_at hl 1 rfl) ?_
              refine lv_if_ne (tgt := 237) hx hb dX12_text_209 (by decide) (fun q => absurd (by decide) q) (fun _ => ?_)
              refine lv_aload_n hx hb dX12_text_212 rfl (lv_at hl 0 rfl) ?_
              refine z_get C G clX12 1 rfl 0 (by decide) m_fl_RX12_7 rfl dX12_text_213 ?_
              refine lv_iconst (v := 5) hx hb dX12_text_216 (by decide) ?_
              refine z_ild C G 2 rfl (vp_in_nI (n := 5) (by decide) (by decide)) dX12_text_217 ?_
              refine lv_topi (fun v_45 ev_45 => ?_)
              rw [show ((5 : Int32).toNatClampNeg) = 5 from rfl] at ev_45
              subst ev_45
              refine lv_if_ne (tgt := 237) hx hb dX12_text_218 (by decide) (fun c_46 => ?_) (fun c_46 => ?_)
              · have c_46n : ¬ (gb 5).toInt = (0 : Int) := fun q => c_46 ((fa_eq _ _).mpr q)
                have hZ1 : zRr k N (f_all 4) xn xw xt xu xo xr xf gb (pRead k N 0).1 := by rw [hRd]; show zRr _ _ _ _ _ _ _ _ _ _ _ (pF5 N 0 (pF4 N 0 A9 gr) gr); unfold pF5; rw [if_neg (fun z9 => by have z8 := z9.2.1; have z7 := z9.2.2; rw [← h54] at z8; first | omega | exact absurd (z7.symm.trans (show pPosts _ = true from by first | with_reducible assumption | assumption)) (by decide))]; exact hR4
                have hZ2 : (pRead k N 0).2 = gr := by rw [hRd]; rfl
                have hZ5 := hZ1.2.2.2.1
                have hZ6 := hZ1.2.2.2.2.1
                have hZ5i := congrArg Int32.toInt hZ5
                have G := G.sub (bs' := [[zO11 mo m_all m_has (f_all 4) xn xw xt xu xo xr xf m_read i_z0 i_crossings i_inns m_posts m_shut m_here i_steps i_done i_at i_gone m_was m_came m_seenAt m_rowWorth m_farBy m_used i_everywhere i_again0 i_d0 i_never i_firstCame i_longRun i_moved i_crowd i_l0 i_fitMany i_fitLeast i_fitMost m_fitPost m_fitEnd m_keptPosts i_x0], [zAr T 0 m_all 3952 gb], [zAr T 0 m_read 121 gr]]) [1, 2, 0] rfl
                exact jn_237 xn xw xt xu xo xr xf gb gr (show zLF gr ∧ zPal (upd (upd (upd f_all 4 0) 5 0) 6 (-1)) gb ∧ zRr k N (f_all 4) xn xw xt xu xo xr xf gb (pRead k N 0).1 ∧ (pRead k N 0).2 = gr from ⟨(by first | with_reducible assumption | assumption), hpb, hZ1, hZ2⟩) _ _ ls G (lv_sub hl [0, 1, 2] rfl)
              · have c_46n : (gb 5).toInt = (0 : Int) := (fa_eq _ _).mp c_46
                refine lv_aload_n hx hb dX12_text_221 rfl (lv_at hl 0 rfl) ?_
                refine z_Vi (bc := [[zO11 mo m_all m_has (f_all 4) xn xw xt xu xo xr xf m_read i_z0 i_crossings i_inns m_posts m_shut m_here i_steps i_done i_at i_gone m_was m_came m_seenAt m_rowWorth m_farBy m_used i_everywhere i_again0 i_d0 i_never i_firstCame i_longRun i_moved i_crowd i_l0 i_fitMany i_fitLeast i_fitMost m_fitPost m_fitEnd m_keptPosts i_x0], [zAr T 0 m_read 121 gr]]) (br := [[zAr T 0 m_all 3952 gb]]) (As := []) (rest := []) C G (c_fm_postsAreThere l T mo m_all m_has (f_all 4) xn xw xt xu xo xr xf m_read i_z0 i_crossings i_inns m_posts m_shut m_here i_steps i_done i_at i_gone m_was m_came m_seenAt m_rowWorth m_farBy m_used i_everywhere i_again0 i_d0 i_never i_firstCame i_longRun i_moved i_crowd i_l0 i_fitMany i_fitLeast i_fitMost m_fitPost m_fitEnd m_keptPosts i_x0 gr) (kV_RX12_156 C.2.2.2.2 (Nat.le_of_ble_eq_true rfl) (Nat.le_of_ble_eq_true rfl)) [1, 0] [0, 0] rfl rfl (ci := 11) (qc := (RX12, TX12, 43)) rfl rfl (List.mem_flatten.mpr ⟨_, List.mem_of_getElem? (i := 0) rfl, List.mem_cons_self⟩) rfl rfl hl.1 dX12_text_222 (Nat.le_of_ble_eq_true rfl) (Nat.le_of_ble_eq_true rfl) (fun r_48 b1 H locs hw G => ?_)
                refine zAn2 hw ?_
                intro hbs9 hc_47
                clear hw
                subst hbs9
                have G : zS T A s.heap s [[zAr T 0 m_all 3952 gb], [zO11 mo m_all m_has (f_all 4) xn xw xt xu xo xr xf m_read i_z0 i_crossings i_inns m_posts m_shut m_here i_steps i_done i_at i_gone m_was m_came m_seenAt m_rowWorth m_farBy m_used i_everywhere i_again0 i_d0 i_never i_firstCame i_longRun i_moved i_crowd i_l0 i_fitMany i_fitLeast i_fitMost m_fitPost m_fitEnd m_keptPosts i_x0], [zAr T 0 m_read 121 gr]] _ _ := G
                rcases hc_47 with ⟨rfl, h_49⟩ | ⟨rfl, h_50⟩
                · have h_49 : pPosts gr = true := h_49
                  refine lv_if_ne (tgt := 237) hx hb dX12_text_225 (by decide) (fun _ => ?_) (fun q => absurd q (by decide))
                  have hZ1 : zRr k N (f_all 4) xn xw xt xu xo xr xf gb (pRead k N 0).1 := by rw [hRd]; show zRr _ _ _ _ _ _ _ _ _ _ _ (pF5 N 0 (pF4 N 0 A9 gr) gr); unfold pF5; rw [if_neg (fun z9 => by have z8 := z9.2.1; have z7 := z9.2.2; rw [← h54] at z8; first | omega | exact absurd (z7.symm.trans (show pPosts _ = true from by first | with_reducible assumption | assumption)) (by decide))]; exact hR4
                  have hZ2 : (pRead k N 0).2 = gr := by rw [hRd]; rfl
                  have hZ5 := hZ1.2.2.2.1
                  have hZ6 := hZ1.2.2.2.2.1
                  have hZ5i := congrArg Int32.toInt hZ5
                  have G := G.sub (bs' := [[zO11 mo m_all m_has (f_all 4) xn xw xt xu xo xr xf m_read i_z0 i_crossings i_inns m_posts m_shut m_here i_steps i_done i_at i_gone m_was m_came m_seenAt m_rowWorth m_farBy m_used i_everywhere i_again0 i_d0 i_never i_firstCame i_longRun i_moved i_crowd i_l0 i_fitMany i_fitLeast i_fitMost m_fitPost m_fitEnd m_keptPosts i_x0], [zAr T 0 m_all 3952 gb], [zAr T 0 m_read 121 gr]]) [1, 0, 2] rfl
                  exact jn_237 xn xw xt xu xo xr xf gb gr (show zLF gr ∧ zPal (upd (upd (upd f_all 4 0) 5 0) 6 (-1)) gb ∧ zRr k N (f_all 4) xn xw xt xu xo xr xf gb (pRead k N 0).1 ∧ (pRead k N 0).2 = gr from ⟨(by first | with_reducible assumption | assumption), hpb, hZ1, hZ2⟩) _ _ ls G (lv_sub hl [0, 1, 2] rfl)
                · have h_50 : pPosts gr = false := h_50
                  refine lv_if_ne (tgt := 237) hx hb dX12_text_225 (by decide) (fun q => absurd (by decide) q) (fun _ => ?_)
                  refine lv_aload_n hx hb dX12_text_228 rfl (lv_at hl 0 rfl) ?_
                  refine lv_iconst (v := 5) hx hb dX12_text_229 (by decide) ?_
                  refine lv_aload_n hx hb dX12_text_230 rfl (lv_at hl 0 rfl) ?_
                  refine z_get C G clX12 1 rfl 4 (by decide) m_fl_RX12_77 rfl dX12_text_231 ?_
                  refine z_Vv (bc := [[zO11 mo m_all m_has (f_all 4) xn xw xt xu xo xr xf m_read i_z0 i_crossings i_inns m_posts m_shut m_here i_steps i_done i_at i_gone m_was m_came m_seenAt m_rowWorth m_farBy m_used i_everywhere i_again0 i_d0 i_never i_firstCame i_longRun i_moved i_crowd i_l0 i_fitMany i_fitLeast i_fitMost m_fitPost m_fitEnd m_keptPosts i_x0], [zAr T 0 m_all 3952 gb]]) (br := [[zAr T 0 m_read 121 gr]]) (As := [.int 5, .int xw]) (rest := []) C G (c_fm_also l T mo m_all m_has (f_all 4) xn xw xt xu xo xr xf m_read i_z0 i_crossings i_inns m_posts m_shut m_here i_steps i_done i_at i_gone m_was m_came m_seenAt m_rowWorth m_farBy m_used i_everywhere i_again0 i_d0 i_never i_firstCame i_longRun i_moved i_crowd i_l0 i_fitMany i_fitLeast i_fitMost m_fitPost m_fitEnd m_keptPosts i_x0 gb 5 xw) (kV_RX12_115 C.2.2.2.2 (Nat.le_of_ble_eq_true rfl) (Nat.le_of_ble_eq_true rfl)) [1, 0] [0, 0] rfl rfl (ci := 11) (qc := (RX12, TX12, 43)) rfl rfl (List.mem_flatten.mpr ⟨_, List.mem_of_getElem? (i := 0) rfl, List.mem_cons_self⟩) rfl rfl hl.1 dX12_text_234 (Nat.le_of_ble_eq_true rfl) (Nat.le_of_ble_eq_true rfl) (fun b1 H locs hw G => ?_)
                  refine zEx1 hw ?_
                  intro g_all_51
                  refine zCu3 ?_
                  intro hbs9 h_52 h_53
                  clear hw
                  subst hbs9
                  have G : zS T A s.heap s [[zAr T 0 m_read 121 gr], [zO11 mo m_all m_has (f_all 4) xn xw xt xu xo xr xf m_read i_z0 i_crossings i_inns m_posts m_shut m_here i_steps i_done i_at i_gone m_was m_came m_seenAt m_rowWorth m_farBy m_used i_everywhere i_again0 i_d0 i_never i_firstCame i_longRun i_moved i_crowd i_l0 i_fitMany i_fitLeast i_fitMost m_fitPost m_fitEnd m_keptPosts i_x0], [zAr T 0 m_all 3952 g_all_51]] _ _ := G
                  have h_53 : g_all_51 = (if ¬ xr.toInt = 0 ∨ (¬ (gb 5).toInt = 0 ∧ ((gb 6).toInt < xw.toInt ∨ ((gb 6).toInt = xw.toInt ∧ (gb 5).toInt ≤ (5 : Int)))) then gb else upd (upd gb 5 5) 6 xw) := h_53
                  have hZ1 : zRr k N (f_all 4) xn xw xt xu xo xr xf g_all_51 (pRead k N 0).1 := by rw [hRd]; show zRr _ _ _ _ _ _ _ _ _ _ _ (pF5 N 0 (pF4 N 0 A9 gr) gr); unfold pF5; rw [if_pos ⟨rfl, by rw [← h54]; omega, by first | with_reducible assumption | assumption⟩, ← pAlso_w hw4]; exact zRr_also (kd := 5) (w := xw) hR4 h_53
                  have hZ2 : (pRead k N 0).2 = gr := by rw [hRd]; rfl
                  have hZ5 := hZ1.2.2.2.1
                  have hZ6 := hZ1.2.2.2.2.1
                  have hZ5i := congrArg Int32.toInt hZ5
                  have G := G.sub (bs' := [[zO11 mo m_all m_has (f_all 4) xn xw xt xu xo xr xf m_read i_z0 i_crossings i_inns m_posts m_shut m_here i_steps i_done i_at i_gone m_was m_came m_seenAt m_rowWorth m_farBy m_used i_everywhere i_again0 i_d0 i_never i_firstCame i_longRun i_moved i_crowd i_l0 i_fitMany i_fitLeast i_fitMost m_fitPost m_fitEnd m_keptPosts i_x0], [zAr T 0 m_all 3952 g_all_51], [zAr T 0 m_read 121 gr]]) [1, 2, 0] rfl
                  exact jn_237 xn xw xt xu xo xr xf g_all_51 gr (show zLF gr ∧ zPal (upd (upd (upd f_all 4 0) 5 0) 6 (-1)) g_all_51 ∧ zRr k N (f_all 4) xn xw xt xu xo xr xf g_all_51 (pRead k N 0).1 ∧ (pRead k N 0).2 = gr from ⟨(by first | with_reducible assumption | assumption), (hpb.tr h_52), hZ1, hZ2⟩) _ _ ls G (lv_sub hl [0, 1, 2] rfl)
            refine lv_iload_n hx hb dX12_text_173 rfl (lv_at hl 1 rfl) ?_
            refine lv_if_ne (tgt := 208) hx hb dX12_text_174 (by decide) (fun q => absurd (by decide) q) (fun _ => ?_)
            refine lv_aload_n hx hb dX12_text_177 rfl (lv_at hl 0 rfl) ?_
            refine z_get C G clX12 1 rfl 0 (by decide) m_fl_RX12_7 rfl dX12_text_178 ?_
            refine lv_iconst (v := 5) hx hb dX12_text_181 (by decide) ?_
            refine z_ild C G 2 rfl (vp_in_nI (n := 5) (by decide) (by decide)) dX12_text_182 ?_
            refine lv_topi (fun v_55 ev_55 => ?_)
            rw [show ((5 : Int32).toNatClampNeg) = 5 from rfl] at ev_55
            subst ev_55
            refine lv_if_ne (tgt := 208) hx hb dX12_text_183 (by decide) (fun c_56 => ?_) (fun c_56 => ?_)
            · have c_56n : ¬ (ga 5).toInt = (0 : Int) := fun q => c_56 ((fa_eq _ _).mpr q)
              have hR4 : zRr k N (f_all 4) xn xw xt xu xo xr xf ga (pF4 N 0 A9 gr) := by unfold pF4; rw [if_neg (fun z9 => by have z8 := z9.2.1; have z7 := z9.2.2; rw [← hA8A] at z8; rw [← hA10A] at z7; omega)]; exact hRA
              have hw4 : zHd ((pF4 N 0 A9 gr).2.1.toInt = 0 → xw = nI N) := fun z9 => hww (by have z8 : (pF4 N 0 A9 gr).2.1 = A9.2.1 := (by unfold pF4; split; exact pAlso_fa.2.1; rfl); rw [z8] at z9; exact z9)
              have h54 := hR4.2.2.2.1
              exact jn_208 ga (show zRr k N (f_all 4) xn xw xt xu xo xr xf ga (pF4 N 0 A9 gr) ∧ zHd ((pF4 N 0 A9 gr).2.1.toInt = 0 → xw = nI N) ∧ zPal (upd (upd (upd f_all 4 0) 5 0) 6 (-1)) ga from ⟨hR4, hw4, hpal⟩) _ _ ls G (lv_sub hl [0, 1, 2] rfl)
            · have c_56n : (ga 5).toInt = (0 : Int) := (fa_eq _ _).mp c_56
              refine lv_aload_n hx hb dX12_text_186 rfl (lv_at hl 0 rfl) ?_
              refine z_get C G clX12 1 rfl 9 (by decide) m_fl_RX12_126 rfl dX12_text_187 ?_
              refine lv_aload_n hx hb dX12_text_190 rfl (lv_at hl 0 rfl) ?_
              refine z_get C G clX12 1 rfl 10 (by decide) m_fl_RX12_17 rfl dX12_text_191 ?_
              refine lv_iconst (v := 0) hx hb dX12_text_194 (by decide) ?_
              refine z_ild C G 0 rfl (vp_in_nI (n := 0) (by decide) (by decide)) dX12_text_195 ?_
              refine lv_topi (fun v_57 ev_57 => ?_)
              rw [show ((0 : Int32).toNatClampNeg) = 0 from rfl] at ev_57
              subst ev_57
              refine lv_icmp_lt (tgt := 208) hx hb dX12_text_196 (by decide) (fun c_58 => ?_) (fun c_58 => ?_)
              · have c_58n : xf.toInt < (gr 0).toInt := (fa_lt _ _).mp c_58
                have hR4 : zRr k N (f_all 4) xn xw xt xu xo xr xf ga (pF4 N 0 A9 gr) := by unfold pF4; rw [if_neg (fun z9 => by have z8 := z9.2.1; have z7 := z9.2.2; rw [← hA8A] at z8; rw [← hA10A] at z7; omega)]; exact hRA
                have hw4 : zHd ((pF4 N 0 A9 gr).2.1.toInt = 0 → xw = nI N) := fun z9 => hww (by have z8 : (pF4 N 0 A9 gr).2.1 = A9.2.1 := (by unfold pF4; split; exact pAlso_fa.2.1; rfl); rw [z8] at z9; exact z9)
                have h54 := hR4.2.2.2.1
                exact jn_208 ga (show zRr k N (f_all 4) xn xw xt xu xo xr xf ga (pF4 N 0 A9 gr) ∧ zHd ((pF4 N 0 A9 gr).2.1.toInt = 0 → xw = nI N) ∧ zPal (upd (upd (upd f_all 4 0) 5 0) 6 (-1)) ga from ⟨hR4, hw4, hpal⟩) _ _ ls G (lv_sub hl [0, 1, 2] rfl)
              · have c_58n : ¬ xf.toInt < (gr 0).toInt := fun q => c_58 ((fa_lt _ _).mpr q)
                refine lv_aload_n hx hb dX12_text_199 rfl (lv_at hl 0 rfl) ?_
                refine lv_iconst (v := 4) hx hb dX12_text_200 (by decide) ?_
                refine lv_aload_n hx hb dX12_text_201 rfl (lv_at hl 0 rfl) ?_
                refine z_get C G clX12 1 rfl 4 (by decide) m_fl_RX12_77 rfl dX12_text_202 ?_
                refine z_Vv (bc := [[zO11 mo m_all m_has (f_all 4) xn xw xt xu xo xr xf m_read i_z0 i_crossings i_inns m_posts m_shut m_here i_steps i_done i_at i_gone m_was m_came m_seenAt m_rowWorth m_farBy m_used i_everywhere i_again0 i_d0 i_never i_firstCame i_longRun i_moved i_crowd i_l0 i_fitMany i_fitLeast i_fitMost m_fitPost m_fitEnd m_keptPosts i_x0], [zAr T 0 m_all 3952 ga]]) (br := [[zAr T 0 m_read 121 gr]]) (As := [.int 4, .int xw]) (rest := []) C G (c_fm_also l T mo m_all m_has (f_all 4) xn xw xt xu xo xr xf m_read i_z0 i_crossings i_inns m_posts m_shut m_here i_steps i_done i_at i_gone m_was m_came m_seenAt m_rowWorth m_farBy m_used i_everywhere i_again0 i_d0 i_never i_firstCame i_longRun i_moved i_crowd i_l0 i_fitMany i_fitLeast i_fitMost m_fitPost m_fitEnd m_keptPosts i_x0 ga 4 xw) (kV_RX12_115 C.2.2.2.2 (Nat.le_of_ble_eq_true rfl) (Nat.le_of_ble_eq_true rfl)) [1, 2] [1, 0] rfl rfl (ci := 11) (qc := (RX12, TX12, 43)) rfl rfl (List.mem_flatten.mpr ⟨_, List.mem_of_getElem? (i := 0) rfl, List.mem_cons_self⟩) rfl rfl hl.1 dX12_text_205 (Nat.le_of_ble_eq_true rfl) (Nat.le_of_ble_eq_true rfl) (fun b1 H locs hw G => ?_)
                refine zEx1 hw ?_
                intro g_all_59
                refine zCu3 ?_
                intro hbs9 h_60 h_61
                clear hw
                subst hbs9
                have G : zS T A s.heap s [[zAr T 0 m_read 121 gr], [zO11 mo m_all m_has (f_all 4) xn xw xt xu xo xr xf m_read i_z0 i_crossings i_inns m_posts m_shut m_here i_steps i_done i_at i_gone m_was m_came m_seenAt m_rowWorth m_farBy m_used i_everywhere i_again0 i_d0 i_never i_firstCame i_longRun i_moved i_crowd i_l0 i_fitMany i_fitLeast i_fitMost m_fitPost m_fitEnd m_keptPosts i_x0], [zAr T 0 m_all 3952 g_all_59]] _ _ := G
                have h_61 : g_all_59 = (if ¬ xr.toInt = 0 ∨ (¬ (ga 5).toInt = 0 ∧ ((ga 6).toInt < xw.toInt ∨ ((ga 6).toInt = xw.toInt ∧ (ga 5).toInt ≤ (4 : Int)))) then ga else upd (upd ga 5 4) 6 xw) := h_61
                have hR4 : zRr k N (f_all 4) xn xw xt xu xo xr xf g_all_59 (pF4 N 0 A9 gr) := by unfold pF4; rw [if_pos ⟨rfl, by rw [← hA8A]; omega, by rw [← hA10A]; omega⟩, ← pAlso_w hww]; exact zRr_also (kd := 4) (w := xw) hRA h_61
                have hw4 : zHd ((pF4 N 0 A9 gr).2.1.toInt = 0 → xw = nI N) := fun z9 => hww (by have z8 : (pF4 N 0 A9 gr).2.1 = A9.2.1 := (by unfold pF4; split; exact pAlso_fa.2.1; rfl); rw [z8] at z9; exact z9)
                have h54 := hR4.2.2.2.1
                exact jn_208 g_all_59 (show zRr k N (f_all 4) xn xw xt xu xo xr xf g_all_59 (pF4 N 0 A9 gr) ∧ zHd ((pF4 N 0 A9 gr).2.1.toInt = 0 → xw = nI N) ∧ zPal (upd (upd (upd f_all 4 0) 5 0) 6 (-1)) g_all_59 from ⟨hR4, hw4, (hpal.tr h_60)⟩) _ _ ls G (lv_sub hl [0, 1, 2] rfl)
          · have c_44n : xr.toInt = (0 : Int) := (fa_eq _ _).mp c_44
            have hwA : A9.2.1.toInt = 0 := by rw [← hA6A]; omega
            refine zAn5 (hA7A hwA) ?_
            intro t1A t2A t3A t4A t5A
            replace t4A : zHd _ := t4A
            replace t5A : zHd _ := t5A
            have t3iA : xt.toInt = (pTk k A9.1 : Int) := by rw [t3A]; exact nI_toInt (by omega)
            refine lv_aload_n hx hb dX12_text_118 rfl (lv_at hl 0 rfl) ?_
            refine z_get C G clX12 1 rfl 5 (by decide) m_fl_RX12_80 rfl dX12_text_119 ?_
            refine lv_if_eq (tgt := 173) hx hb dX12_text_122 (by decide) (fun c_63 => ?_) (fun c_63 => ?_)
            · have c_63n : xt.toInt = (0 : Int) := (fa_eq _ _).mp c_63
              have hX := hEq.symm.trans (pLines_x (fun z9 => by first | (exact absurd z9.1 (by rw [← hA6A]; omega)) | (exact z9.2 (by omega))))
              have hRd := pRead_e (n := N) hX
              have hww : zHd (A9.2.1.toInt = 0 → xw = nI N) := fun z9 => by first | (exact absurd z9 (by rw [← hA6A]; omega)) | (rw [t2A, hkaA.2.2.1 (pTk_0.mp (by omega))])
              refine zMt1 (T := T) 208 (fun (gb : Nat → Int32) => [[zAr T 0 m_read 121 gr], [zO11 mo m_all m_has (f_all 4) xn xw xt xu xo xr xf m_read i_z0 i_crossings i_inns m_posts m_shut m_here i_steps i_done i_at i_gone m_was m_came m_seenAt m_rowWorth m_farBy m_used i_everywhere i_again0 i_d0 i_never i_firstCame i_longRun i_moved i_crowd i_l0 i_fitMany i_fitLeast i_fitMost m_fitPost m_fitEnd m_keptPosts i_x0], [zAr T 0 m_all 3952 gb]]) (fun (gb : Nat → Int32) => [(0, .ref mo), (1, .int 0), (2, .int (-1))]) (fun (gb : Nat → Int32) => zRr k N (f_all 4) xn xw xt xu xo xr xf gb (pF4 N 0 A9 gr) ∧ zHd ((pF4 N 0 A9 gr).2.1.toInt = 0 → xw = nI N) ∧ zPal (upd (upd (upd f_all 4 0) 5 0) 6 (-1)) gb) G hl ?_ (fun jn_208 => ?_)
              · intro gb hI9 H locs ls G hl
                replace hI9 : zRr k N (f_all 4) xn xw xt xu xo xr xf gb (pF4 N 0 A9 gr) ∧ zHd ((pF4 N 0 A9 gr).2.1.toInt = 0 → xw = nI N) ∧ zPal (upd (upd (upd f_all 4 0) 5 0) 6 (-1)) gb := hI9
                refine zAn3 hI9 ?_
                intro hR4 hw4 hpb
                clear hI9
                replace G : zS T A s.heap s [[zAr T 0 m_read 121 gr], [zO11 mo m_all m_has (f_all 4) xn xw xt xu xo xr xf m_read i_z0 i_crossings i_inns m_posts m_shut m_here i_steps i_done i_at i_gone m_was m_came m_seenAt m_rowWorth m_farBy m_used i_everywhere i_again0 i_d0 i_never i_firstCame i_longRun i_moved i_crowd i_l0 i_fitMany i_fitLeast i_fitMost m_fitPost m_fitEnd m_keptPosts i_x0], [zAr T 0 m_all 3952 gb]] _ _ := G
                replace hl : lv_has ls 5 [(0, .ref mo), (1, .int 0), (2, .int (-1))] := hl
                have h54 := hR4.2.2.2.1
                refine lv_iload_n hx hb dX12_text_208 rfl (lv_at hl 1 rfl) ?_
                refine lv_if_ne (tgt := 237) hx hb dX12_text_209 (by decide) (fun q => absurd (by decide) q) (fun _ => ?_)
                refine lv_aload_n hx hb dX12_text_212 rfl (lv_at hl 0 rfl) ?_
                refine z_get C G clX12 1 rfl 0 (by decide) m_fl_RX12_7 rfl dX12_text_213 ?_
                refine lv_iconst (v := 5) hx hb dX12_text_216 (by decide) ?_
                refine z_ild C G 2 rfl (vp_in_nI (n := 5) (by decide) (by decide)) dX12_text_217 ?_
                refine lv_topi (fun v_64 ev_64 => ?_)
                rw [show ((5 : Int32).toNatClampNeg) = 5 from rfl] at ev_64
                subst ev_64
                refine lv_if_ne (tgt := 237) hx hb dX12_text_218 (by decide) (fun c_65 => ?_) (fun c_65 => ?_)
                · have c_65n : ¬ (gb 5).toInt = (0 : Int) := fun q => c_65 ((fa_eq _ _).mpr q)
                  have hZ1 : zRr k N (f_all 4) xn xw xt xu xo xr xf gb (pRead k N 0).1 := by rw [hRd]; show zRr _ _ _ _ _ _ _ _ _ _ _ (pF5 N 0 (pF4 N 0 A9 gr) gr); unfold pF5; rw [if_neg (fun z9 => by have z8 := z9.2.1; have z7 := z9.2.2; rw [← h54] at z8; first | omega | exact absurd (z7.symm.trans (show pPosts _ = true from by first | with_reducible assumption | assumption)) (by decide))]; exact hR4
                  have hZ2 : (pRead k N 0).2 = gr := by rw [hRd]; rfl
                  have hZ5 := hZ1.2.2.2.1
                  have hZ6 := hZ1.2.2.2.2.1
                  have hZ5i := congrArg Int32.toInt hZ5
                  have G := G.sub (bs' := [[zO11 mo m_all m_has (f_all 4) xn xw xt xu xo xr xf m_read i_z0 i_crossings i_inns m_posts m_shut m_here i_steps i_done i_at i_gone m_was m_came m_seenAt m_rowWorth m_farBy m_used i_everywhere i_again0 i_d0 i_never i_firstCame i_longRun i_moved i_crowd i_l0 i_fitMany i_fitLeast i_fitMost m_fitPost m_fitEnd m_keptPosts i_x0], [zAr T 0 m_all 3952 gb], [zAr T 0 m_read 121 gr]]) [1, 2, 0] rfl
                  exact jn_237 xn xw xt xu xo xr xf gb gr (show zLF gr ∧ zPal (upd (upd (upd f_all 4 0) 5 0) 6 (-1)) gb ∧ zRr k N (f_all 4) xn xw xt xu xo xr xf gb (pRead k N 0).1 ∧ (pRead k N 0).2 = gr from ⟨(by first | with_reducible assumption | assumption), hpb, hZ1, hZ2⟩) _ _ ls G (lv_sub hl [0, 1, 2] rfl)
                · have c_65n : (gb 5).toInt = (0 : Int) := (fa_eq _ _).mp c_65
                  refine lv_aload_n hx hb dX12_text_221 rfl (lv_at hl 0 rfl) ?_
                  refine z_Vi (bc := [[zO11 mo m_all m_has (f_all 4) xn xw xt xu xo xr xf m_read i_z0 i_crossings i_inns m_posts m_shut m_here i_steps i_done i_at i_gone m_was m_came m_seenAt m_rowWorth m_farBy m_used i_everywhere i_again0 i_d0 i_never i_firstCame i_longRun i_moved i_crowd i_l0 i_fitMany i_fitLeast i_fitMost m_fitPost m_fitEnd m_keptPosts i_x0], [zAr T 0 m_read 121 gr]]) (br := [[zAr T 0 m_all 3952 gb]]) (As := []) (rest := []) C G (c_fm_postsAreThere l T mo m_all m_has (f_all 4) xn xw xt xu xo xr xf m_read i_z0 i_crossings i_inns m_posts m_shut m_here i_steps i_done i_at i_gone m_was m_came m_seenAt m_rowWorth m_farBy m_used i_everywhere i_again0 i_d0 i_never i_firstCame i_longRun i_moved i_crowd i_l0 i_fitMany i_fitLeast i_fitMost m_fitPost m_fitEnd m_keptPosts i_x0 gr) (kV_RX12_156 C.2.2.2.2 (Nat.le_of_ble_eq_true rfl) (Nat.le_of_ble_eq_true rfl)) [1, 0] [0, 0] rfl rfl (ci := 11) (qc := (RX12, TX12, 43)) rfl rfl (List.mem_flatten.mpr ⟨_, List.mem_of_getElem? (i := 0) rfl, List.mem_cons_self⟩) rfl rfl hl.1 dX12_text_222 (Nat.le_of_ble_eq_true rfl) (Nat.le_of_ble_eq_true rfl) (fun r_67 b1 H locs hw G => ?_)
                  refine zAn2 hw ?_
                  intro hbs9 hc_66
                  clear hw
                  subst hbs9
                  have G : zS T A s.heap s [[zAr T 0 m_all 3952 gb], [zO11 mo m_all m_has (f_all 4) xn xw xt xu xo xr xf m_read i_z0 i_crossings i_inns m_posts m_shut m_here i_steps i_done i_at i_gone m_was m_came m_seenAt m_rowWorth m_farBy m_used i_everywhere i_again0 i_d0 i_never i_firstCame i_longRun i_moved i_crowd i_l0 i_fitMany i_fitLeast i_fitMost m_fitPost m_fitEnd m_keptPosts i_x0], [zAr T 0 m_read 121 gr]] _ _ := G
                  rcases hc_66 with ⟨rfl, h_68⟩ | ⟨rfl, h_69⟩
                  · have h_68 : pPosts gr = true := h_68
                    refine lv_if_ne (tgt := 237) hx hb dX12_text_225 (by decide) (fun _ => ?_) (fun q => absurd q (by decide))
                    have hZ1 : zRr k N (f_all 4) xn xw xt xu xo xr xf gb (pRead k N 0).1 := by rw [hRd]; show zRr _ _ _ _ _ _ _ _ _ _ _ (pF5 N 0 (pF4 N 0 A9 gr) gr); unfold pF5; rw [if_neg (fun z9 => by have z8 := z9.2.1; have z7 := z9.2.2; rw [← h54] at z8; first | omega | exact absurd (z7.symm.trans (show pPosts _ = true from by first | with_reducible assumption | assumption)) (by decide))]; exact hR4
                    have hZ2 : (pRead k N 0).2 = gr := by rw [hRd]; rfl
                    have hZ5 := hZ1.2.2.2.1
                    have hZ6 := hZ1.2.2.2.2.1
                    have hZ5i := congrArg Int32.toInt hZ5
                    have G := G.sub (bs' := [[zO11 mo m_all m_has (f_all 4) xn xw xt xu xo xr xf m_read i_z0 i_crossings i_inns m_posts m_shut m_here i_steps i_done i_at i_gone m_was m_came m_seenAt m_rowWorth m_farBy m_used i_everywhere i_again0 i_d0 i_never i_firstCame i_longRun i_moved i_crowd i_l0 i_fitMany i_fitLeast i_fitMost m_fitPost m_fitEnd m_keptPosts i_x0], [zAr T 0 m_all 3952 gb], [zAr T 0 m_read 121 gr]]) [1, 0, 2] rfl
                    exact jn_237 xn xw xt xu xo xr xf gb gr (show zLF gr ∧ zPal (upd (upd (upd f_all 4 0) 5 0) 6 (-1)) gb ∧ zRr k N (f_all 4) xn xw xt xu xo xr xf gb (pRead k N 0).1 ∧ (pRead k N 0).2 = gr from ⟨(by first | with_reducible assumption | assumption), hpb, hZ1, hZ2⟩) _ _ ls G (lv_sub hl [0, 1, 2] rfl)
                  · have h_69 : pPosts gr = false := h_69
                    refine lv_if_ne (tgt := 237) hx hb dX12_text_225 (by decide) (fun q => absurd (by decide) q) (fun _ => ?_)
                    refine lv_aload_n hx hb dX12_text_228 rfl (lv_at hl 0 rfl) ?_
                    refine lv_iconst (v := 5) hx hb dX12_text_229 (by decide) ?_
                    refine lv_aload_n hx hb dX12_text_230 rfl (lv_at hl 0 rfl) ?_
                    refine z_get C G clX12 1 rfl 4 (by decide) m_fl_RX12_77 rfl dX12_text_231 ?_
                    refine z_Vv (bc := [[zO11 mo m_all m_has (f_all 4) xn xw xt xu xo xr xf m_read i_z0 i_crossings i_inns m_posts m_shut m_here i_steps i_done i_at i_gone m_was m_came m_seenAt m_rowWorth m_farBy m_used i_everywhere i_again0 i_d0 i_never i_firstCame i_longRun i_moved i_crowd i_l0 i_fitMany i_fitLeast i_fitMost m_fitPost m_fitEnd m_keptPosts i_x0], [zAr T 0 m_all 3952 gb]]) (br := [[zAr T 0 m_read 121 gr]]) (As := [.int 5, .int xw]) (rest := []) C G (c_fm_also l T mo m_all m_has (f_all 4) xn xw xt xu xo xr xf m_read i_z0 i_crossings i_inns m_posts m_shut m_here i_steps i_done i_at i_gone m_was m_came m_seenAt m_rowWorth m_farBy m_used i_everywhere i_again0 i_d0 i_never i_firstCame i_longRun i_moved i_crowd i_l0 i_fitMany i_fitLeast i_fitMost m_fitPost m_fitEnd m_keptPosts i_x0 gb 5 xw) (kV_RX12_115 C.2.2.2.2 (Nat.le_of_ble_eq_true rfl) (Nat.le_of_ble_eq_true rfl)) [1, 0] [0, 0] rfl rfl (ci := 11) (qc := (RX12, TX12, 43)) rfl rfl (List.mem_flatten.mpr ⟨_, List.mem_of_getElem? (i := 0) rfl, List.mem_cons_self⟩) rfl rfl hl.1 dX12_text_234 (Nat.le_of_ble_eq_true rfl) (Nat.le_of_ble_eq_true rfl) (fun b1 H locs hw G => ?_)
                    refine zEx1 hw ?_
                    intro g_all_70
                    refine zCu3 ?_
                    intro hbs9 h_71 h_72
                    clear hw
                    subst hbs9
                    have G : zS T A s.heap s [[zAr T 0 m_read 121 gr], [zO11 mo m_all m_has (f_all 4) xn xw xt xu xo xr xf m_read i_z0 i_crossings i_inns m_posts m_shut m_here i_steps i_done i_at i_gone m_was m_came m_seenAt m_rowWorth m_farBy m_used i_everywhere i_again0 i_d0 i_never i_firstCame i_longRun i_moved i_crowd i_l0 i_fitMany i_fitLeast i_fitMost m_fitPost m_fitEnd m_keptPosts i_x0], [zAr T 0 m_all 3952 g_all_70]] _ _ := G
                    have h_72 : g_all_70 = (if ¬ xr.toInt = 0 ∨ (¬ (gb 5).toInt = 0 ∧ ((gb 6).toInt < xw.toInt ∨ ((gb 6).toInt = xw.toInt ∧ (gb 5).toInt ≤ (5 : Int)))) then gb else upd (upd gb 5 5) 6 xw) := h_72
                    have hZ1 : zRr k N (f_all 4) xn xw xt xu xo xr xf g_all_70 (pRead k N 0).1 := by rw [hRd]; show zRr _ _ _ _ _ _ _ _ _ _ _ (pF5 N 0 (pF4 N 0 A9 gr) gr); unfold pF5; rw [if_pos ⟨rfl, by rw [← h54]; omega, by first | with_reducible assumption | assumption⟩, ← pAlso_w hw4]; exact zRr_also (kd := 5) (w := xw) hR4 h_72
                    have hZ2 : (pRead k N 0).2 = gr := by rw [hRd]; rfl
                    have hZ5 := hZ1.2.2.2.1
                    have hZ6 := hZ1.2.2.2.2.1
                    have hZ5i := congrArg Int32.toInt hZ5
                    have G := G.sub (bs' := [[zO11 mo m_all m_has (f_all 4) xn xw xt xu xo xr xf m_read i_z0 i_crossings i_inns m_posts m_shut m_here i_steps i_done i_at i_gone m_was m_came m_seenAt m_rowWorth m_farBy m_used i_everywhere i_again0 i_d0 i_never i_firstCame i_longRun i_moved i_crowd i_l0 i_fitMany i_fitLeast i_fitMost m_fitPost m_fitEnd m_keptPosts i_x0], [zAr T 0 m_all 3952 g_all_70], [zAr T 0 m_read 121 gr]]) [1, 2, 0] rfl
                    exact jn_237 xn xw xt xu xo xr xf g_all_70 gr (show zLF gr ∧ zPal (upd (upd (upd f_all 4 0) 5 0) 6 (-1)) g_all_70 ∧ zRr k N (f_all 4) xn xw xt xu xo xr xf g_all_70 (pRead k N 0).1 ∧ (pRead k N 0).2 = gr from ⟨(by first | with_reducible assumption | assumption), (hpb.tr h_71), hZ1, hZ2⟩) _ _ ls G (lv_sub hl [0, 1, 2] rfl)
              refine lv_iload_n hx hb dX12_text_173 rfl (lv_at hl 1 rfl) ?_
              refine lv_if_ne (tgt := 208) hx hb dX12_text_174 (by decide) (fun q => absurd (by decide) q) (fun _ => ?_)
              refine lv_aload_n hx hb dX12_text_177 rfl (lv_at hl 0 rfl) ?_
              refine z_get C G clX12 1 rfl 0 (by decide) m_fl_RX12_7 rfl dX12_text_178 ?_
              refine lv_iconst (v := 5) hx hb dX12_text_181 (by decide) ?_
              refine z_ild C G 2 rfl (vp_in_nI (n := 5) (by decide) (by decide)) dX12_text_182 ?_
              refine lv_topi (fun v_74 ev_74 => ?_)
              rw [show ((5 : Int32).toNatClampNeg) = 5 from rfl] at ev_74
              subst ev_74
              refine lv_if_ne (tgt := 208) hx hb dX12_text_183 (by decide) (fun c_75 => ?_) (fun c_75 => ?_)
              · have c_75n : ¬ (ga 5).toInt = (0 : Int) := fun q => c_75 ((fa_eq _ _).mpr q)
                have hR4 : zRr k N (f_all 4) xn xw xt xu xo xr xf ga (pF4 N 0 A9 gr) := by unfold pF4; rw [if_neg (fun z9 => by have z8 := z9.2.1; have z7 := z9.2.2; rw [← hA8A] at z8; rw [← hA10A] at z7; omega)]; exact hRA
                have hw4 : zHd ((pF4 N 0 A9 gr).2.1.toInt = 0 → xw = nI N) := fun z9 => hww (by have z8 : (pF4 N 0 A9 gr).2.1 = A9.2.1 := (by unfold pF4; split; exact pAlso_fa.2.1; rfl); rw [z8] at z9; exact z9)
                have h54 := hR4.2.2.2.1
                exact jn_208 ga (show zRr k N (f_all 4) xn xw xt xu xo xr xf ga (pF4 N 0 A9 gr) ∧ zHd ((pF4 N 0 A9 gr).2.1.toInt = 0 → xw = nI N) ∧ zPal (upd (upd (upd f_all 4 0) 5 0) 6 (-1)) ga from ⟨hR4, hw4, hpal⟩) _ _ ls G (lv_sub hl [0, 1, 2] rfl)
              · have c_75n : (ga 5).toInt = (0 : Int) := (fa_eq _ _).mp c_75
                refine lv_aload_n hx hb dX12_text_186 rfl (lv_at hl 0 rfl) ?_
                refine z_get C G clX12 1 rfl 9 (by decide) m_fl_RX12_126 rfl dX12_text_187 ?_
                refine lv_aload_n hx hb dX12_text_190 rfl (lv_at hl 0 rfl) ?_
                refine z_get C G clX12 1 rfl 10 (by decide) m_fl_RX12_17 rfl dX12_text_191 ?_
                refine lv_iconst (v := 0) hx hb dX12_text_194 (by decide) ?_
                refine z_ild C G 0 rfl (vp_in_nI (n := 0) (by decide) (by decide)) dX12_text_195 ?_
                refine lv_topi (fun v_76 ev_76 => ?_)
                rw [show ((0 : Int32).toNatClampNeg) = 0 from rfl] at ev_76
                subst ev_76
                refine lv_icmp_lt (tgt := 208) hx hb dX12_text_196 (by decide) (fun c_77 => ?_) (fun c_77 => ?_)
                · have c_77n : xf.toInt < (gr 0).toInt := (fa_lt _ _).mp c_77
                  have hR4 : zRr k N (f_all 4) xn xw xt xu xo xr xf ga (pF4 N 0 A9 gr) := by unfold pF4; rw [if_neg (fun z9 => by have z8 := z9.2.1; have z7 := z9.2.2; rw [← hA8A] at z8; rw [← hA10A] at z7; omega)]; exact hRA
                  have hw4 : zHd ((pF4 N 0 A9 gr).2.1.toInt = 0 → xw = nI N) := fun z9 => hww (by have z8 : (pF4 N 0 A9 gr).2.1 = A9.2.1 := (by unfold pF4; split; exact pAlso_fa.2.1; rfl); rw [z8] at z9; exact z9)
                  have h54 := hR4.2.2.2.1
                  exact jn_208 ga (show zRr k N (f_all 4) xn xw xt xu xo xr xf ga (pF4 N 0 A9 gr) ∧ zHd ((pF4 N 0 A9 gr).2.1.toInt = 0 → xw = nI N) ∧ zPal (upd (upd (upd f_all 4 0) 5 0) 6 (-1)) ga from ⟨hR4, hw4, hpal⟩) _ _ ls G (lv_sub hl [0, 1, 2] rfl)
                · have c_77n : ¬ xf.toInt < (gr 0).toInt := fun q => c_77 ((fa_lt _ _).mpr q)
                  refine lv_aload_n hx hb dX12_text_199 rfl (lv_at hl 0 rfl) ?_
                  refine lv_iconst (v := 4) hx hb dX12_text_200 (by decide) ?_
                  refine lv_aload_n hx hb dX12_text_201 rfl (lv_at hl 0 rfl) ?_
                  refine z_get C G clX12 1 rfl 4 (by decide) m_fl_RX12_77 rfl dX12_text_202 ?_
                  refine z_Vv (bc := [[zO11 mo m_all m_has (f_all 4) xn xw xt xu xo xr xf m_read i_z0 i_crossings i_inns m_posts m_shut m_here i_steps i_done i_at i_gone m_was m_came m_seenAt m_rowWorth m_farBy m_used i_everywhere i_again0 i_d0 i_never i_firstCame i_longRun i_moved i_crowd i_l0 i_fitMany i_fitLeast i_fitMost m_fitPost m_fitEnd m_keptPosts i_x0], [zAr T 0 m_all 3952 ga]]) (br := [[zAr T 0 m_read 121 gr]]) (As := [.int 4, .int xw]) (rest := []) C G (c_fm_also l T mo m_all m_has (f_all 4) xn xw xt xu xo xr xf m_read i_z0 i_crossings i_inns m_posts m_shut m_here i_steps i_done i_at i_gone m_was m_came m_seenAt m_rowWorth m_farBy m_used i_everywhere i_again0 i_d0 i_never i_firstCame i_longRun i_moved i_crowd i_l0 i_fitMany i_fitLeast i_fitMost m_fitPost m_fitEnd m_keptPosts i_x0 ga 4 xw) (kV_RX12_115 C.2.2.2.2 (Nat.le_of_ble_eq_true rfl) (Nat.le_of_ble_eq_true rfl)) [1, 2] [1, 0] rfl rfl (ci := 11) (qc := (RX12, TX12, 43)) rfl rfl (List.mem_flatten.mpr ⟨_, List.mem_of_getElem? (i := 0) rfl, List.mem_cons_self⟩) rfl rfl hl.1 dX12_text_205 (Nat.le_of_ble_eq_true rfl) (Nat.le_of_ble_eq_true rfl) (fun b1 H locs hw G => ?_)
                  refine zEx1 hw ?_
                  intro g_all_78
                  refine zCu3 ?_
                  intro hbs9 h_79 h_80
                  clear hw
                  subst hbs9
                  have G : zS T A s.heap s [[zAr T 0 m_read 121 gr], [zO11 mo m_all m_has (f_all 4) xn xw xt xu xo xr xf m_read i_z0 i_crossings i_inns m_posts m_shut m_here i_steps i_done i_at i_gone m_was m_came m_seenAt m_rowWorth m_farBy m_used i_everywhere i_again0 i_d0 i_never i_firstCame i_longRun i_moved i_crowd i_l0 i_fitMany i_fitLeast i_fitMost m_fitPost m_fitEnd m_keptPosts i_x0], [zAr T 0 m_all 3952 g_all_78]] _ _ := G
                  have h_80 : g_all_78 = (if ¬ xr.toInt = 0 ∨ (¬ (ga 5).toInt = 0 ∧ ((ga 6).toInt < xw.toInt ∨ ((ga 6).toInt = xw.toInt ∧ (ga 5).toInt ≤ (4 : Int)))) then ga else upd (upd ga 5 4) 6 xw) := h_80
                  have hR4 : zRr k N (f_all 4) xn xw xt xu xo xr xf g_all_78 (pF4 N 0 A9 gr) := by unfold pF4; rw [if_pos ⟨rfl, by rw [← hA8A]; omega, by rw [← hA10A]; omega⟩, ← pAlso_w hww]; exact zRr_also (kd := 4) (w := xw) hRA h_80
                  have hw4 : zHd ((pF4 N 0 A9 gr).2.1.toInt = 0 → xw = nI N) := fun z9 => hww (by have z8 : (pF4 N 0 A9 gr).2.1 = A9.2.1 := (by unfold pF4; split; exact pAlso_fa.2.1; rfl); rw [z8] at z9; exact z9)
                  have h54 := hR4.2.2.2.1
                  exact jn_208 g_all_78 (show zRr k N (f_all 4) xn xw xt xu xo xr xf g_all_78 (pF4 N 0 A9 gr) ∧ zHd ((pF4 N 0 A9 gr).2.1.toInt = 0 → xw = nI N) ∧ zPal (upd (upd (upd f_all 4 0) 5 0) 6 (-1)) g_all_78 from ⟨hR4, hw4, (hpal.tr h_79)⟩) _ _ ls G (lv_sub hl [0, 1, 2] rfl)
            · have c_63n : ¬ xt.toInt = (0 : Int) := fun q => c_63 ((fa_eq _ _).mpr q)
              have htA : ¬ pTk k A9.1 = 0 := by omega
              refine lv_iload_n hx hb dX12_text_125 rfl (lv_at hl 1 rfl) ?_
              refine lv_lookup (tgt := 152) hx hb dX12_text_126 (by decide) rfl (by decide) ?_
              refine lv_aload_n hx hb dX12_text_152 rfl (lv_at hl 0 rfl) ?_
              refine z_Vv (bc := [[zO11 mo m_all m_has (f_all 4) xn xw xt xu xo xr xf m_read i_z0 i_crossings i_inns m_posts m_shut m_here i_steps i_done i_at i_gone m_was m_came m_seenAt m_rowWorth m_farBy m_used i_everywhere i_again0 i_d0 i_never i_firstCame i_longRun i_moved i_crowd i_l0 i_fitMany i_fitLeast i_fitMost m_fitPost m_fitEnd m_keptPosts i_x0], [zAr T 0 m_all 3952 ga], [zAr T 0 m_read 121 gr]]) (br := []) (As := []) (rest := []) C G (c_fm_landLine l T mo m_all m_has (f_all 4) xn xw xt xu xo xr xf m_read i_z0 i_crossings i_inns m_posts m_shut m_here i_steps i_done i_at i_gone m_was m_came m_seenAt m_rowWorth m_farBy m_used i_everywhere i_again0 i_d0 i_never i_firstCame i_longRun i_moved i_crowd i_l0 i_fitMany i_fitLeast i_fitMost m_fitPost m_fitEnd m_keptPosts i_x0 ga gr k N A9 (by first | with_reducible assumption | with_reducible rfl | omega | assumption | rfl) (by first | with_reducible assumption | with_reducible rfl | omega | assumption | rfl) (by first | with_reducible assumption | with_reducible rfl | omega | assumption | rfl) (by first | with_reducible assumption | with_reducible rfl | omega | assumption | rfl) hRA hwA) (kV_RX12_147 C.2.2.2.2 (Nat.le_of_ble_eq_true rfl) (Nat.le_of_ble_eq_true rfl)) [1, 2, 0] [0, 0, 0] rfl rfl (ci := 11) (qc := (RX12, TX12, 43)) rfl rfl (List.mem_flatten.mpr ⟨_, List.mem_of_getElem? (i := 0) rfl, List.mem_cons_self⟩) rfl rfl hl.1 dX12_text_153 (Nat.le_of_ble_eq_true rfl) (Nat.le_of_ble_eq_true rfl) (fun b1 H locs hw G => ?_)
              refine zEx9 hw ?_
              intro j_next_82 j_where_83 j_token_84 j_number_85 j_word_86 j_wrong_87 j_farCrossing_88 g_all_89 g_read_90
              refine zCu9 ?_
              intro hbs9 h_91 h_92 h_93 h_94 h_95 h_96 h_97 h_98
              clear hw
              subst hbs9
              have G : zS T A s.heap s [[zO11 mo m_all m_has (f_all 4) j_next_82 j_where_83 j_token_84 j_number_85 j_word_86 j_wrong_87 j_farCrossing_88 m_read i_z0 i_crossings i_inns m_posts m_shut m_here i_steps i_done i_at i_gone m_was m_came m_seenAt m_rowWorth m_farBy m_used i_everywhere i_again0 i_d0 i_never i_firstCame i_longRun i_moved i_crowd i_l0 i_fitMany i_fitLeast i_fitMost m_fitPost m_fitEnd m_keptPosts i_x0], [zAr T 0 m_all 3952 g_all_89], [zAr T 0 m_read 121 g_read_90]] _ _ := G
              have hnR : zRr k N (f_all 4) j_next_82 j_where_83 j_token_84 j_number_85 j_word_86 j_wrong_87 j_farCrossing_88 g_all_89 (pLine k 0 A9 gr).1 := by rw [pLine_0]; exact h_97
              have hnG : g_read_90 = (pLine k 0 A9 gr).2 := by rw [pLine_0]; exact h_98
              refine lv_goto (tgt := 111) hx hb dX12_text_156 (by decide) ?_
              have G := G.sub (bs' := [[zAr T 0 m_read 121 g_read_90], [zO11 mo m_all m_has (f_all 4) j_next_82 j_where_83 j_token_84 j_number_85 j_word_86 j_wrong_87 j_farCrossing_88 m_read i_z0 i_crossings i_inns m_posts m_shut m_here i_steps i_done i_at i_gone m_was m_came m_seenAt m_rowWorth m_farBy m_used i_everywhere i_again0 i_d0 i_never i_firstCame i_longRun i_moved i_crowd i_l0 i_fitMany i_fitLeast i_fitMost m_fitPost m_fitEnd m_keptPosts i_x0], [zAr T 0 m_all 3952 g_all_89]]) [2, 0, 1] rfl
              exact ih_111 j_next_82 j_where_83 j_token_84 j_number_85 j_word_86 j_wrong_87 j_farCrossing_88 g_all_89 g_read_90 ((pLine k 0 A9 gr).1) (j + 1) (show zLF g_read_90 ∧ 0 ≤ j_next_82.toInt ∧ j_next_82.toInt ≤ (f_all 4).toInt ∧ zPal (upd (upd (upd f_all 4 0) 5 0) 6 (-1)) g_all_89 ∧ zRr k N (f_all 4) j_next_82 j_where_83 j_token_84 j_number_85 j_word_86 j_wrong_87 j_farCrossing_88 g_all_89 ((pLine k 0 A9 gr).1) ∧ pLines k 0 (601 - (j + 1)) ((pLine k 0 A9 gr).1) g_read_90 = pLines k 0 601 (0, 0, 0, -1, -1) (fun _ => 0) ∧ (¬ j_wrong_87.toInt = 0 ∨ j_token_84.toInt = 0 ∨ ((j + 1) : Int) < j_next_82.toInt) from ⟨(by first | with_reducible assumption | assumption), by omega, by omega, (hpal.tr h_95), hnR, (by rw [hnG]; exact pLines_n (by omega) hwA htA hEq), by omega⟩) (show zMu j_wrong_87 j_token_84 j_next_82 (f_all 4) < zMu xr xt xn (f_all 4) from zMu_lt (by omega) (by omega) (by omega) (by omega)) _ _ ls G (lv_sub hl [0, 1, 2] rfl)
        · have c_30n : ¬ 121 ≤ k_ := fun q => c_30 ((nI_leI (a := 121) (b := k_) (by omega) (by omega)).mpr q)
          refine lv_aload_n hx hb dX12_text_94 rfl (lv_at hl 1 rfl) ?_
          refine z_get C G clX12 0 rfl 10 (by decide) m_fl_RX12_17 rfl dX12_text_95 ?_
          refine lv_iload_n hx hb dX12_text_98 rfl (lv_at hl 0 rfl) ?_
          refine lv_iconst (v := 0) hx hb dX12_text_99 (by decide) ?_
          refine z_ist C G 2 rfl (vp_in_nI (by omega) (by decide)) dX12_text_100 (fun H locs G => ?_)
          rw [nI_clamp (by omega)] at G
          have G : zS T A s.heap s [[zO11 mo m_all m_has (f_all 4) 0 i_where i_token i_number i_word 0 (-1) m_read i_z0 i_crossings i_inns m_posts m_shut m_here i_steps i_done i_at i_gone m_was m_came m_seenAt m_rowWorth m_farBy m_used i_everywhere i_again0 i_d0 i_never i_firstCame i_longRun i_moved i_crowd i_l0 i_fitMany i_fitLeast i_fitMost m_fitPost m_fitEnd m_keptPosts i_x0], [zAr T 0 m_all 3952 (upd (upd (upd f_all 4 0) 5 0) 6 (-1))], [zAr T 0 m_read 121 (upd z k_ 0)]] _ _ := G
          refine lv_iinc (v := nI (k_ + 1)) (lv' := [(3, .int (nI (k_ + 1))), (0, .ref mo), (1, .int 0), (2, .int (-1))]) hx hb dX12_text_101 hl (k := 0) rfl (z_inc k_ 1) (by decide) (zLvf_h rfl) (fun ls hl => ?_)
          refine lv_goto (tgt := 88) hx hb dX12_text_104 (by decide) ?_
          exact ih_88 (k_ + 1) (upd z k_ 0) (show (k_ + 1) ≤ 121 ∧ (∀ j, j < (k_ + 1) → (upd z k_ 0) j = 0) from ⟨by omega, z_updE (F := fun _ => 0) hZ rfl⟩) (show 121 - (k_ + 1) < 121 - k_ from by omega) _ _ ls G (lv_sub hl [0, 1, 2, 3] rfl)
      · have c_8n : ¬ (f_all 0).toInt < (2 : Int) := fun q => c_8 ((fa_lt _ _).mpr q)
        refine lv_goto (tgt := 68) hx hb dX12_text_56 (by decide) ?_
        refine lv_bipush (v := (-2)) hx hb dX12_text_68 (by decide) ?_
        exact z_back hQz_ (z_iret C hr hlocks G (Nat.le_of_ble_eq_true rfl) (Nat.le_of_ble_eq_true rfl) dX12_text_70 ⟨(f_all 4), i_next, i_where, i_token, i_number, i_word, i_wrong, i_farCrossing, (upd (upd (upd f_all 4 0) 5 0) 6 (-1)), f_read, rfl, (zBI_hd hB rfl (fun q hq => by rw [hF q (by omega) (by omega) (by omega)]; exact hB.2.1 q hq) (fun j hj => hF j (by omega) (by omega) (by omega))), rfl, (fun j hj => hF j (by omega) (by omega) (by omega)), (zText_b (fun z9 => by have z8 := hoi.mp z9; omega))⟩)
    · have hq1 : ((upd (upd (upd f_all 4 0) 5 0) 6 (-1)) 0).toInt = (f_all 0).toInt := rfl
      have hqf : 0 ≤ (f_all 0).toInt ∧ (f_all 0).toInt ≤ 2 := hB.2.1 0 (by decide)
      have hqF : 0 ≤ ((upd (upd (upd f_all 4 0) 5 0) 6 (-1)) 0).toInt ∧ ((upd (upd (upd f_all 4 0) 5 0) 6 (-1)) 0).toInt ≤ 2 := hqf
      have hai : ¬ at_.toInt = -1 := fun z9 => hne (Int32.toInt_inj.mp z9)
      have hoi : zHd _ := pOkAt_n (s := 0) (at_ := at_) (G := f_all) hai
      refine lv_iload_n hx hb dX12_text_41 rfl (lv_at hl 2 rfl) ?_
      refine lv_iconst (v := (-1)) hx hb dX12_text_42 (by decide) ?_
      refine lv_icmp_ne (tgt := 59) hx hb dX12_text_43 (by decide) (fun _ => ?_) (fun q => absurd q hne)
      refine lv_aload_n hx hb dX12_text_59 rfl (lv_at hl 0 rfl) ?_
      refine lv_iload_n hx hb dX12_text_60 rfl (lv_at hl 1 rfl) ?_
      refine lv_iload_n hx hb dX12_text_61 rfl (lv_at hl 2 rfl) ?_
      refine z_Vi (bc := [[zO11 mo m_all m_has (f_all 4) i_next i_where i_token i_number i_word i_wrong i_farCrossing m_read i_z0 i_crossings i_inns m_posts m_shut m_here i_steps i_done i_at i_gone m_was m_came m_seenAt m_rowWorth m_farBy m_used i_everywhere i_again0 i_d0 i_never i_firstCame i_longRun i_moved i_crowd i_l0 i_fitMany i_fitLeast i_fitMost m_fitPost m_fitEnd m_keptPosts i_x0], [zAr T 0 m_all 3952 (upd (upd (upd f_all 4 0) 5 0) 6 (-1))]]) (br := [[zAr T 0 m_read 121 f_read]]) (As := [.int 0, .int at_]) (rest := []) C G (c_m_isOf0 l T mo m_all m_has (f_all 4) i_next i_where i_token i_number i_word i_wrong i_farCrossing m_read i_z0 i_crossings i_inns m_posts m_shut m_here i_steps i_done i_at i_gone m_was m_came m_seenAt m_rowWorth m_farBy m_used i_everywhere i_again0 i_d0 i_never i_firstCame i_longRun i_moved i_crowd i_l0 i_fitMany i_fitLeast i_fitMost m_fitPost m_fitEnd m_keptPosts i_x0 (upd (upd (upd f_all 4 0) 5 0) 6 (-1)) at_ hqF) (kV_RX12_143 C.2.2.2.2 (Nat.le_of_ble_eq_true rfl) (Nat.le_of_ble_eq_true rfl)) [0, 1] [0, 0] rfl rfl (ci := 11) (qc := (RX12, TX12, 43)) rfl rfl (List.mem_flatten.mpr ⟨_, List.mem_of_getElem? (i := 0) rfl, List.mem_cons_self⟩) rfl rfl hl.1 dX12_text_62 (Nat.le_of_ble_eq_true rfl) (Nat.le_of_ble_eq_true rfl) (fun r_101 b1 H locs hw G => ?_)
      refine zAn2 hw ?_
      intro hbs9 hc_100
      clear hw
      subst hbs9
      have G : zS T A s.heap s [[zAr T 0 m_read 121 f_read], [zO11 mo m_all m_has (f_all 4) i_next i_where i_token i_number i_word i_wrong i_farCrossing m_read i_z0 i_crossings i_inns m_posts m_shut m_here i_steps i_done i_at i_gone m_was m_came m_seenAt m_rowWorth m_farBy m_used i_everywhere i_again0 i_d0 i_never i_firstCame i_longRun i_moved i_crowd i_l0 i_fitMany i_fitLeast i_fitMost m_fitPost m_fitEnd m_keptPosts i_x0], [zAr T 0 m_all 3952 (upd (upd (upd f_all 4 0) 5 0) 6 (-1))]] _ _ := G
      rcases hc_100 with ⟨rfl, h_102, h_103⟩ | ⟨rfl, h_104⟩
      · have h_102 : 0 ≤ at_.toInt := h_102
        have h_103 : at_.toInt < ((upd (upd (upd f_all 4 0) 5 0) 6 (-1)) 0).toInt := h_103
        refine lv_if_ne (tgt := 71) hx hb dX12_text_65 (by decide) (fun _ => ?_) (fun q => absurd q (by decide))
        refine lv_aload_n hx hb dX12_text_71 rfl (lv_at hl 0 rfl) ?_
        refine lv_iconst (v := 0) hx hb dX12_text_72 (by decide) ?_
        refine z_put C G clX12 1 rfl 3 (by decide) m_fl_RX12_70 rfl rfl rfl (Nat.le_of_ble_eq_true rfl) dX12_text_73 (fun H locs G => ?_)
        have G : zS T A s.heap s [[zAr T 0 m_read 121 f_read], [zO11 mo m_all m_has (f_all 4) 0 i_where i_token i_number i_word i_wrong i_farCrossing m_read i_z0 i_crossings i_inns m_posts m_shut m_here i_steps i_done i_at i_gone m_was m_came m_seenAt m_rowWorth m_farBy m_used i_everywhere i_again0 i_d0 i_never i_firstCame i_longRun i_moved i_crowd i_l0 i_fitMany i_fitLeast i_fitMost m_fitPost m_fitEnd m_keptPosts i_x0], [zAr T 0 m_all 3952 (upd (upd (upd f_all 4 0) 5 0) 6 (-1))]] _ _ := G
        refine lv_aload_n hx hb dX12_text_76 rfl (lv_at hl 0 rfl) ?_
        refine lv_iconst (v := 0) hx hb dX12_text_77 (by decide) ?_
        refine z_put C G clX12 1 rfl 8 (by decide) m_fl_RX12_104 rfl rfl rfl (Nat.le_of_ble_eq_true rfl) dX12_text_78 (fun H locs G => ?_)
        have G : zS T A s.heap s [[zAr T 0 m_read 121 f_read], [zO11 mo m_all m_has (f_all 4) 0 i_where i_token i_number i_word 0 i_farCrossing m_read i_z0 i_crossings i_inns m_posts m_shut m_here i_steps i_done i_at i_gone m_was m_came m_seenAt m_rowWorth m_farBy m_used i_everywhere i_again0 i_d0 i_never i_firstCame i_longRun i_moved i_crowd i_l0 i_fitMany i_fitLeast i_fitMost m_fitPost m_fitEnd m_keptPosts i_x0], [zAr T 0 m_all 3952 (upd (upd (upd f_all 4 0) 5 0) 6 (-1))]] _ _ := G
        refine lv_aload_n hx hb dX12_text_81 rfl (lv_at hl 0 rfl) ?_
        refine lv_iconst (v := (-1)) hx hb dX12_text_82 (by decide) ?_
        refine z_put C G clX12 1 rfl 9 (by decide) m_fl_RX12_126 rfl rfl rfl (Nat.le_of_ble_eq_true rfl) dX12_text_83 (fun H locs G => ?_)
        have G : zS T A s.heap s [[zAr T 0 m_read 121 f_read], [zO11 mo m_all m_has (f_all 4) 0 i_where i_token i_number i_word 0 (-1) m_read i_z0 i_crossings i_inns m_posts m_shut m_here i_steps i_done i_at i_gone m_was m_came m_seenAt m_rowWorth m_farBy m_used i_everywhere i_again0 i_d0 i_never i_firstCame i_longRun i_moved i_crowd i_l0 i_fitMany i_fitLeast i_fitMost m_fitPost m_fitEnd m_keptPosts i_x0], [zAr T 0 m_all 3952 (upd (upd (upd f_all 4 0) 5 0) 6 (-1))]] _ _ := G
        refine zMt9 (T := T) 237 (fun (xn : Int32) (xw : Int32) (xt : Int32) (xu : Int32) (xo : Int32) (xr : Int32) (xf : Int32) (ga : Nat → Int32) (gr : Nat → Int32) => [[zAr T 0 m_read 121 gr], [zO11 mo m_all m_has (f_all 4) xn xw xt xu xo xr xf m_read i_z0 i_crossings i_inns m_posts m_shut m_here i_steps i_done i_at i_gone m_was m_came m_seenAt m_rowWorth m_farBy m_used i_everywhere i_again0 i_d0 i_never i_firstCame i_longRun i_moved i_crowd i_l0 i_fitMany i_fitLeast i_fitMost m_fitPost m_fitEnd m_keptPosts i_x0], [zAr T 0 m_all 3952 ga]]) (fun (xn : Int32) (xw : Int32) (xt : Int32) (xu : Int32) (xo : Int32) (xr : Int32) (xf : Int32) (ga : Nat → Int32) (gr : Nat → Int32) => [(0, .ref mo), (1, .int 0), (2, .int at_)]) (fun (xn : Int32) (xw : Int32) (xt : Int32) (xu : Int32) (xo : Int32) (xr : Int32) (xf : Int32) (ga : Nat → Int32) (gr : Nat → Int32) => zLF gr ∧ zPal (upd (upd (upd f_all 4 0) 5 0) 6 (-1)) ga ∧ zRr k N (f_all 4) xn xw xt xu xo xr xf ga (pRead k N 0).1 ∧ (pRead k N 0).2 = gr) G hl ?_ (fun jn_237 => ?_)
        · intro xn xw xt xu xo xr xf ga gr hI9 H locs ls G hl
          replace hI9 : zLF gr ∧ zPal (upd (upd (upd f_all 4 0) 5 0) 6 (-1)) ga ∧ zRr k N (f_all 4) xn xw xt xu xo xr xf ga (pRead k N 0).1 ∧ (pRead k N 0).2 = gr := hI9
          refine zAn4 hI9 ?_
          intro hL hpal hZ1 hZ2
          clear hI9
          replace G : zS T A s.heap s [[zAr T 0 m_read 121 gr], [zO11 mo m_all m_has (f_all 4) xn xw xt xu xo xr xf m_read i_z0 i_crossings i_inns m_posts m_shut m_here i_steps i_done i_at i_gone m_was m_came m_seenAt m_rowWorth m_farBy m_used i_everywhere i_again0 i_d0 i_never i_firstCame i_longRun i_moved i_crowd i_l0 i_fitMany i_fitLeast i_fitMost m_fitPost m_fitEnd m_keptPosts i_x0], [zAr T 0 m_all 3952 ga]] _ _ := G
          replace hl : lv_has ls 5 [(0, .ref mo), (1, .int 0), (2, .int at_)] := hl
          have hZ5 := hZ1.2.2.2.1
          have hZ6 := hZ1.2.2.2.2.1
          have hZ5i := congrArg Int32.toInt hZ5
          refine lv_aload_n hx hb dX12_text_237 rfl (lv_at hl 0 rfl) ?_
          refine z_get C G clX12 1 rfl 0 (by decide) m_fl_RX12_7 rfl dX12_text_238 ?_
          refine lv_iconst (v := 5) hx hb dX12_text_241 (by decide) ?_
          refine z_ild C G 2 rfl (vp_in_nI (n := 5) (by decide) (by decide)) dX12_text_242 ?_
          refine lv_topi (fun v_105 ev_105 => ?_)
          rw [show ((5 : Int32).toNatClampNeg) = 5 from rfl] at ev_105
          subst ev_105
          refine lv_if_eq (tgt := 248) hx hb dX12_text_243 (by decide) (fun c_106 => ?_) (fun c_106 => ?_)
          · have c_106n : (ga 5).toInt = (0 : Int) := (fa_eq _ _).mp c_106
            refine lv_iload_n hx hb dX12_text_248 rfl (lv_at hl 2 rfl) ?_
            refine lv_iconst (v := (-1)) hx hb dX12_text_249 (by decide) ?_
            refine lv_icmp_ne (tgt := 262) hx hb dX12_text_250 (by decide) (fun _ => ?_) (fun q => absurd q hne)
            refine lv_iload_n hx hb dX12_text_262 rfl (lv_at hl 2 rfl) ?_
            rcases (show at_.toInt = 0 ∨ at_.toInt = 1 from by omega) with hk | hk
            · obtain rfl : at_ = 0 := Int32.toInt_inj.mp hk
              refine lv_istore_n (lv' := [(3, .int 0), (0, .ref mo), (1, .int 0), (2, .int 0)]) hx hb dX12_text_263 rfl hl (by decide) (zLvf_h rfl) (fun ls hl => ?_)
              refine lv_iload_n hx hb dX12_text_264 rfl (lv_at hl 3 rfl) ?_
              refine lv_iconst (v := (-1)) hx hb dX12_text_265 (by decide) ?_
              refine lv_icmp_ne (tgt := 279) hx hb dX12_text_266 (by decide) (fun _ => ?_) (fun q => absurd q hne)
              refine lv_iconst (v := 0) hx hb dX12_text_279 (by decide) ?_
              refine lv_istore (lv' := [(4, .int 0), (3, .int 0), (0, .ref mo), (1, .int 0), (2, .int 0)]) hx hb dX12_text_280 hl (by decide) (zLvf_h rfl) (fun ls hl => ?_)
              refine z_lp2 (T := T) 282 (fun (i : Nat) (x : Nat → Int32) => [[zAr T 0 m_read 121 gr], [zO11 mo m_all m_has (f_all 4) xn xw xt xu xo xr xf m_read i_z0 i_crossings i_inns m_posts m_shut m_here i_steps i_done i_at i_gone m_was m_came m_seenAt m_rowWorth m_farBy m_used i_everywhere i_again0 i_d0 i_never i_firstCame i_longRun i_moved i_crowd i_l0 i_fitMany i_fitLeast i_fitMost m_fitPost m_fitEnd m_keptPosts i_x0], [zAr T 0 m_all 3952 x]]) (fun (i : Nat) (x : Nat → Int32) => [(4, .int (nI i)), (3, .int 0), (0, .ref mo), (1, .int 0), (2, .int 0)]) (fun (i : Nat) (x : Nat → Int32) => i ≤ 51 ∧ (∀ j, j < i → x (610 + j) = gr j) ∧ (∀ j, (j < 610 ∨ 661 ≤ j) → x j = ga j)) (fun (i : Nat) (x : Nat → Int32) => 51 - i) ?_ 0 ga (show 0 ≤ 51 ∧ (∀ j, j < 0 → ga (610 + j) = gr j) ∧ (∀ j, (j < 610 ∨ 661 ≤ j) → ga j = ga j) from ⟨by omega, fun j hj => absurd hj (by omega), fun j _ => rfl⟩) G (lv_sub hl [0, 1, 2, 3, 4] rfl)
              intro i x hI9 ih_282 H locs ls G hl
              replace hI9 : i ≤ 51 ∧ (∀ j, j < i → x (610 + j) = gr j) ∧ (∀ j, (j < 610 ∨ 661 ≤ j) → x j = ga j) := hI9
              refine zAn3 hI9 ?_
              intro hi hS hO
              clear hI9
              replace G : zS T A s.heap s [[zAr T 0 m_read 121 gr], [zO11 mo m_all m_has (f_all 4) xn xw xt xu xo xr xf m_read i_z0 i_crossings i_inns m_posts m_shut m_here i_steps i_done i_at i_gone m_was m_came m_seenAt m_rowWorth m_farBy m_used i_everywhere i_again0 i_d0 i_never i_firstCame i_longRun i_moved i_crowd i_l0 i_fitMany i_fitLeast i_fitMost m_fitPost m_fitEnd m_keptPosts i_x0], [zAr T 0 m_all 3952 x]] _ _ := G
              replace hl : lv_has ls 5 [(4, .int (nI i)), (3, .int 0), (0, .ref mo), (1, .int 0), (2, .int 0)] := hl
              refine lv_iload hx hb dX12_text_282 (lv_at hl 0 rfl) ?_
              refine lv_iload_n hx hb dX12_text_284 rfl (lv_at hl 3 rfl) ?_
              refine z_Si (bc := []) (br := [[zAr T 0 m_read 121 gr], [zO11 mo m_all m_has (f_all 4) xn xw xt xu xo xr xf m_read i_z0 i_crossings i_inns m_posts m_shut m_here i_steps i_done i_at i_gone m_was m_came m_seenAt m_rowWorth m_farBy m_used i_everywhere i_again0 i_d0 i_never i_firstCame i_longRun i_moved i_crowd i_l0 i_fitMany i_fitLeast i_fitMost m_fitPost m_fitEnd m_keptPosts i_x0], [zAr T 0 m_all 3952 x]]) (As := [.int 0]) (rest := [.int (nI i)]) C G (c_m_sizeOf0 l T) (kS_RX12_160 C.2.2.2.2 (Nat.le_of_ble_eq_true rfl) (Nat.le_of_ble_eq_true rfl)) [] [] rfl rfl rfl rfl hl.1 dX12_text_285 (Nat.le_of_ble_eq_true rfl) (Nat.le_of_ble_eq_true rfl) (fun r_108 b1 H locs hw G => ?_)
              refine zAn2 hw ?_
              intro hbs9 h_107
              clear hw
              subst hbs9
              have G : zS T A s.heap s [[zAr T 0 m_read 121 gr], [zO11 mo m_all m_has (f_all 4) xn xw xt xu xo xr xf m_read i_z0 i_crossings i_inns m_posts m_shut m_here i_steps i_done i_at i_gone m_was m_came m_seenAt m_rowWorth m_farBy m_used i_everywhere i_again0 i_d0 i_never i_firstCame i_longRun i_moved i_crowd i_l0 i_fitMany i_fitLeast i_fitMost m_fitPost m_fitEnd m_keptPosts i_x0], [zAr T 0 m_all 3952 x]] _ _ := G
              subst h_107
              refine lv_icmp_ge (tgt := 317) hx hb dX12_text_288 (by decide) (fun c_109 => ?_) (fun c_109 => ?_)
              · have c_109n : 51 ≤ i := (nI_leI (a := 51) (b := i) (by omega) (by omega)).mp c_109
                refine lv_iload_n hx hb dX12_text_317 rfl (lv_at hl 1 rfl) ?_
                have G := G.sub (bs' := [[zO11 mo m_all m_has (f_all 4) xn xw xt xu xo xr xf m_read i_z0 i_crossings i_inns m_posts m_shut m_here i_steps i_done i_at i_gone m_was m_came m_seenAt m_rowWorth m_farBy m_used i_everywhere i_again0 i_d0 i_never i_firstCame i_longRun i_moved i_crowd i_l0 i_fitMany i_fitLeast i_fitMost m_fitPost m_fitEnd m_keptPosts i_x0], [zAr T 0 m_all 3952 x], [zAr T 0 m_read 121 gr]]) [1, 2, 0] rfl
                exact z_back hQz_ (z_iret C hr hlocks G (Nat.le_of_ble_eq_true rfl) (Nat.le_of_ble_eq_true rfl) dX12_text_318 ⟨(f_all 4), xn, xw, xt, xu, xo, xr, xf, x, gr, rfl, (zBI_p0 0 (by decide) hB ((hO 4 (by omega)).trans (hpal 4 (by decide) (by decide))) (fun q hq => by rw [hO q (by omega)]; rw [show _ = f_all q from (hpal q (by omega) (by omega)).trans (hF q (by omega) (by omega) (by omega))]; exact hB.2.1 q hq) (fun j hj hj2 => (hO j (by omega)).trans ((hpal j (by omega) (by omega)).trans (hF j (by omega) (by omega) (by omega)))) (by first | with_reducible assumption | assumption) (fun j hj => hS j (by omega))), ((hO 4 (by omega)).trans (hpal 4 (by decide) (by decide))), (fun j hj => (hO j (by omega)).trans ((hpal j (by omega) (by omega)).trans (hF j (by omega) (by omega) (by omega)))), (zText_k (kk := 0) (g := ga) (hoi.mpr (by omega)) (by rw [← hZ5]; omega) (pNr_n (by decide)).symm (by rw [pNr_n (by decide)]; rfl) hpal hZ5 hZ6 (pCnt_n (by decide)).symm (by rw [hZ2]; exact fun j hj => hS j (by have hj : j < 51 := hj; omega)) (fun j hj => hO j (by have hj : j < 610 ∨ 610 + 51 ≤ j := hj; omega)))⟩)
              · have c_109n : ¬ 51 ≤ i := fun q => c_109 ((nI_leI (a := 51) (b := i) (by omega) (by omega)).mpr q)
                refine lv_aload_n hx hb dX12_text_291 rfl (lv_at hl 2 rfl) ?_
                refine z_get C G clX12 1 rfl 0 (by decide) m_fl_RX12_7 rfl dX12_text_292 ?_
                refine lv_iload_n hx hb dX12_text_295 rfl (lv_at hl 3 rfl) ?_
                refine lv_iload_n hx hb dX12_text_296 rfl (lv_at hl 1 rfl) ?_
                refine z_Si (bc := []) (br := [[zAr T 0 m_read 121 gr], [zO11 mo m_all m_has (f_all 4) xn xw xt xu xo xr xf m_read i_z0 i_crossings i_inns m_posts m_shut m_here i_steps i_done i_at i_gone m_was m_came m_seenAt m_rowWorth m_farBy m_used i_everywhere i_again0 i_d0 i_never i_firstCame i_longRun i_moved i_crowd i_l0 i_fitMany i_fitLeast i_fitMost m_fitPost m_fitEnd m_keptPosts i_x0], [zAr T 0 m_all 3952 x]]) (As := [.int 0, .int 0]) (rest := [.ref m_all]) C G (c_m_placeOf00 l T) (kS_RX12_163 C.2.2.2.2 (Nat.le_of_ble_eq_true rfl) (Nat.le_of_ble_eq_true rfl)) [] [] rfl rfl rfl rfl hl.1 dX12_text_297 (Nat.le_of_ble_eq_true rfl) (Nat.le_of_ble_eq_true rfl) (fun r_111 b1 H locs hw G => ?_)
                refine zAn2 hw ?_
                intro hbs9 h_110
                clear hw
                subst hbs9
                have G : zS T A s.heap s [[zAr T 0 m_read 121 gr], [zO11 mo m_all m_has (f_all 4) xn xw xt xu xo xr xf m_read i_z0 i_crossings i_inns m_posts m_shut m_here i_steps i_done i_at i_gone m_was m_came m_seenAt m_rowWorth m_farBy m_used i_everywhere i_again0 i_d0 i_never i_firstCame i_longRun i_moved i_crowd i_l0 i_fitMany i_fitLeast i_fitMost m_fitPost m_fitEnd m_keptPosts i_x0], [zAr T 0 m_all 3952 x]] _ _ := G
                subst h_110
                refine lv_iload hx hb dX12_text_300 (lv_at hl 0 rfl) ?_
                refine lv_iadd hx hb dX12_text_302 ?_
                refine lv_topi (fun y_112 ey_112 => ?_)
                obtain rfl : y_112 = nI (610 + i) := ey_112.trans (z_iaddn 610 i rfl rfl)
                refine lv_aload_n hx hb dX12_text_303 rfl (lv_at hl 2 rfl) ?_
                refine z_get C G clX12 1 rfl 10 (by decide) m_fl_RX12_17 rfl dX12_text_304 ?_
                refine lv_iload hx hb dX12_text_307 (lv_at hl 0 rfl) ?_
                refine z_ild C G 0 rfl (vp_in_nI (by omega) (by decide)) dX12_text_309 ?_
                refine lv_topi (fun v_113 ev_113 => ?_)
                rw [nI_clamp (by omega)] at ev_113
                subst ev_113
                refine z_ist C G 2 rfl (vp_in_nI (by omega) (by decide)) dX12_text_310 (fun H locs G => ?_)
                rw [nI_clamp (by omega)] at G
                have G : zS T A s.heap s [[zAr T 0 m_read 121 gr], [zO11 mo m_all m_has (f_all 4) xn xw xt xu xo xr xf m_read i_z0 i_crossings i_inns m_posts m_shut m_here i_steps i_done i_at i_gone m_was m_came m_seenAt m_rowWorth m_farBy m_used i_everywhere i_again0 i_d0 i_never i_firstCame i_longRun i_moved i_crowd i_l0 i_fitMany i_fitLeast i_fitMost m_fitPost m_fitEnd m_keptPosts i_x0], [zAr T 0 m_all 3952 (upd x (610 + i) (gr i))]] _ _ := G
                refine lv_iinc (v := nI (i + 1)) (lv' := [(4, .int (nI (i + 1))), (3, .int 0), (0, .ref mo), (1, .int 0), (2, .int 0)]) hx hb dX12_text_311 hl (k := 0) rfl (z_inc i 1) (by decide) (zLvf_h rfl) (fun ls hl => ?_)
                refine lv_goto (tgt := 282) hx hb dX12_text_314 (by decide) ?_
                exact ih_282 (i + 1) (upd x (610 + i) (gr i)) (show (i + 1) ≤ 51 ∧ (∀ j, j < (i + 1) → (upd x (610 + i) (gr i)) (610 + j) = gr j) ∧ (∀ j, (j < 610 ∨ 661 ≤ j) → (upd x (610 + i) (gr i)) j = ga j) from ⟨by omega, z_upS hS rfl, z_upO hO (by omega)⟩) (show 51 - (i + 1) < 51 - i from by omega) _ _ ls G (lv_sub hl [0, 1, 2, 3, 4] rfl)
            · obtain rfl : at_ = 1 := Int32.toInt_inj.mp hk
              refine lv_istore_n (lv' := [(3, .int 1), (0, .ref mo), (1, .int 0), (2, .int 1)]) hx hb dX12_text_263 rfl hl (by decide) (zLvf_h rfl) (fun ls hl => ?_)
              refine lv_iload_n hx hb dX12_text_264 rfl (lv_at hl 3 rfl) ?_
              refine lv_iconst (v := (-1)) hx hb dX12_text_265 (by decide) ?_
              refine lv_icmp_ne (tgt := 279) hx hb dX12_text_266 (by decide) (fun _ => ?_) (fun q => absurd q hne)
              refine lv_iconst (v := 0) hx hb dX12_text_279 (by decide) ?_
              refine lv_istore (lv' := [(4, .int 0), (3, .int 1), (0, .ref mo), (1, .int 0), (2, .int 1)]) hx hb dX12_text_280 hl (by decide) (zLvf_h rfl) (fun ls hl => ?_)
              refine z_lp2 (T := T) 282 (fun (i : Nat) (x : Nat → Int32) => [[zAr T 0 m_read 121 gr], [zO11 mo m_all m_has (f_all 4) xn xw xt xu xo xr xf m_read i_z0 i_crossings i_inns m_posts m_shut m_here i_steps i_done i_at i_gone m_was m_came m_seenAt m_rowWorth m_farBy m_used i_everywhere i_again0 i_d0 i_never i_firstCame i_longRun i_moved i_crowd i_l0 i_fitMany i_fitLeast i_fitMost m_fitPost m_fitEnd m_keptPosts i_x0], [zAr T 0 m_all 3952 x]]) (fun (i : Nat) (x : Nat → Int32) => [(4, .int (nI i)), (3, .int 1), (0, .ref mo), (1, .int 0), (2, .int 1)]) (fun (i : Nat) (x : Nat → Int32) => i ≤ 51 ∧ (∀ j, j < i → x (661 + j) = gr j) ∧ (∀ j, (j < 661 ∨ 712 ≤ j) → x j = ga j)) (fun (i : Nat) (x : Nat → Int32) => 51 - i) ?_ 0 ga (show 0 ≤ 51 ∧ (∀ j, j < 0 → ga (661 + j) = gr j) ∧ (∀ j, (j < 661 ∨ 712 ≤ j) → ga j = ga j) from ⟨by omega, fun j hj => absurd hj (by omega), fun j _ => rfl⟩) G (lv_sub hl [0, 1, 2, 3, 4] rfl)
              intro i x hI9 ih_282 H locs ls G hl
              replace hI9 : i ≤ 51 ∧ (∀ j, j < i → x (661 + j) = gr j) ∧ (∀ j, (j < 661 ∨ 712 ≤ j) → x j = ga j) := hI9
              refine zAn3 hI9 ?_
              intro hi hS hO
              clear hI9
              replace G : zS T A s.heap s [[zAr T 0 m_read 121 gr], [zO11 mo m_all m_has (f_all 4) xn xw xt xu xo xr xf m_read i_z0 i_crossings i_inns m_posts m_shut m_here i_steps i_done i_at i_gone m_was m_came m_seenAt m_rowWorth m_farBy m_used i_everywhere i_again0 i_d0 i_never i_firstCame i_longRun i_moved i_crowd i_l0 i_fitMany i_fitLeast i_fitMost m_fitPost m_fitEnd m_keptPosts i_x0], [zAr T 0 m_all 3952 x]] _ _ := G
              replace hl : lv_has ls 5 [(4, .int (nI i)), (3, .int 1), (0, .ref mo), (1, .int 0), (2, .int 1)] := hl
              refine lv_iload hx hb dX12_text_282 (lv_at hl 0 rfl) ?_
              refine lv_iload_n hx hb dX12_text_284 rfl (lv_at hl 3 rfl) ?_
              refine z_Si (bc := []) (br := [[zAr T 0 m_read 121 gr], [zO11 mo m_all m_has (f_all 4) xn xw xt xu xo xr xf m_read i_z0 i_crossings i_inns m_posts m_shut m_here i_steps i_done i_at i_gone m_was m_came m_seenAt m_rowWorth m_farBy m_used i_everywhere i_again0 i_d0 i_never i_firstCame i_longRun i_moved i_crowd i_l0 i_fitMany i_fitLeast i_fitMost m_fitPost m_fitEnd m_keptPosts i_x0], [zAr T 0 m_all 3952 x]]) (As := [.int 0]) (rest := [.int (nI i)]) C G (c_m_sizeOf0 l T) (kS_RX12_160 C.2.2.2.2 (Nat.le_of_ble_eq_true rfl) (Nat.le_of_ble_eq_true rfl)) [] [] rfl rfl rfl rfl hl.1 dX12_text_285 (Nat.le_of_ble_eq_true rfl) (Nat.le_of_ble_eq_true rfl) (fun r_115 b1 H locs hw G => ?_)
              refine zAn2 hw ?_
              intro hbs9 h_114
              clear hw
              subst hbs9
              have G : zS T A s.heap s [[zAr T 0 m_read 121 gr], [zO11 mo m_all m_has (f_all 4) xn xw xt xu xo xr xf m_read i_z0 i_crossings i_inns m_posts m_shut m_here i_steps i_done i_at i_gone m_was m_came m_seenAt m_rowWorth m_farBy m_used i_everywhere i_again0 i_d0 i_never i_firstCame i_longRun i_moved i_crowd i_l0 i_fitMany i_fitLeast i_fitMost m_fitPost m_fitEnd m_keptPosts i_x0], [zAr T 0 m_all 3952 x]] _ _ := G
              subst h_114
              refine lv_icmp_ge (tgt := 317) hx hb dX12_text_288 (by decide) (fun c_116 => ?_) (fun c_116 => ?_)
              · have c_116n : 51 ≤ i := (nI_leI (a := 51) (b := i) (by omega) (by omega)).mp c_116
                refine lv_iload_n hx hb dX12_text_317 rfl (lv_at hl 1 rfl) ?_
                have G := G.sub (bs' := [[zO11 mo m_all m_has (f_all 4) xn xw xt xu xo xr xf m_read i_z0 i_crossings i_inns m_posts m_shut m_here i_steps i_done i_at i_gone m_was m_came m_seenAt m_rowWorth m_farBy m_used i_everywhere i_again0 i_d0 i_never i_firstCame i_longRun i_moved i_crowd i_l0 i_fitMany i_fitLeast i_fitMost m_fitPost m_fitEnd m_keptPosts i_x0], [zAr T 0 m_all 3952 x], [zAr T 0 m_read 121 gr]]) [1, 2, 0] rfl
                exact z_back hQz_ (z_iret C hr hlocks G (Nat.le_of_ble_eq_true rfl) (Nat.le_of_ble_eq_true rfl) dX12_text_318 ⟨(f_all 4), xn, xw, xt, xu, xo, xr, xf, x, gr, rfl, (zBI_p0 1 (by decide) hB ((hO 4 (by omega)).trans (hpal 4 (by decide) (by decide))) (fun q hq => by rw [hO q (by omega)]; rw [show _ = f_all q from (hpal q (by omega) (by omega)).trans (hF q (by omega) (by omega) (by omega))]; exact hB.2.1 q hq) (fun j hj hj2 => (hO j (by omega)).trans ((hpal j (by omega) (by omega)).trans (hF j (by omega) (by omega) (by omega)))) (by first | with_reducible assumption | assumption) (fun j hj => hS j (by omega))), ((hO 4 (by omega)).trans (hpal 4 (by decide) (by decide))), (fun j hj => (hO j (by omega)).trans ((hpal j (by omega) (by omega)).trans (hF j (by omega) (by omega) (by omega)))), (zText_k (kk := 1) (g := ga) (hoi.mpr (by omega)) (by rw [← hZ5]; omega) (pNr_n (by decide)).symm (by rw [pNr_n (by decide)]; rfl) hpal hZ5 hZ6 (pCnt_n (by decide)).symm (by rw [hZ2]; exact fun j hj => hS j (by have hj : j < 51 := hj; omega)) (fun j hj => hO j (by have hj : j < 661 ∨ 661 + 51 ≤ j := hj; omega)))⟩)
              · have c_116n : ¬ 51 ≤ i := fun q => c_116 ((nI_leI (a := 51) (b := i) (by omega) (by omega)).mpr q)
                refine lv_aload_n hx hb dX12_text_291 rfl (lv_at hl 2 rfl) ?_
                refine z_get C G clX12 1 rfl 0 (by decide) m_fl_RX12_7 rfl dX12_text_292 ?_
                refine lv_iload_n hx hb dX12_text_295 rfl (lv_at hl 3 rfl) ?_
                refine lv_iload_n hx hb dX12_text_296 rfl (lv_at hl 1 rfl) ?_
                refine z_Si (bc := []) (br := [[zAr T 0 m_read 121 gr], [zO11 mo m_all m_has (f_all 4) xn xw xt xu xo xr xf m_read i_z0 i_crossings i_inns m_posts m_shut m_here i_steps i_done i_at i_gone m_was m_came m_seenAt m_rowWorth m_farBy m_used i_everywhere i_again0 i_d0 i_never i_firstCame i_longRun i_moved i_crowd i_l0 i_fitMany i_fitLeast i_fitMost m_fitPost m_fitEnd m_keptPosts i_x0], [zAr T 0 m_all 3952 x]]) (As := [.int 0, .int 1]) (rest := [.ref m_all]) C G (c_m_placeOf01 l T) (kS_RX12_163 C.2.2.2.2 (Nat.le_of_ble_eq_true rfl) (Nat.le_of_ble_eq_true rfl)) [] [] rfl rfl rfl rfl hl.1 dX12_text_297 (Nat.le_of_ble_eq_true rfl) (Nat.le_of_ble_eq_true rfl) (fun r_118 b1 H locs hw G => ?_)
                refine zAn2 hw ?_
                intro hbs9 h_117
                clear hw
                subst hbs9
                have G : zS T A s.heap s [[zAr T 0 m_read 121 gr], [zO11 mo m_all m_has (f_all 4) xn xw xt xu xo xr xf m_read i_z0 i_crossings i_inns m_posts m_shut m_here i_steps i_done i_at i_gone m_was m_came m_seenAt m_rowWorth m_farBy m_used i_everywhere i_again0 i_d0 i_never i_firstCame i_longRun i_moved i_crowd i_l0 i_fitMany i_fitLeast i_fitMost m_fitPost m_fitEnd m_keptPosts i_x0], [zAr T 0 m_all 3952 x]] _ _ := G
                subst h_117
                refine lv_iload hx hb dX12_text_300 (lv_at hl 0 rfl) ?_
                refine lv_iadd hx hb dX12_text_302 ?_
                refine lv_topi (fun y_119 ey_119 => ?_)
                obtain rfl : y_119 = nI (661 + i) := ey_119.trans (z_iaddn 661 i rfl rfl)
                refine lv_aload_n hx hb dX12_text_303 rfl (lv_at hl 2 rfl) ?_
                refine z_get C G clX12 1 rfl 10 (by decide) m_fl_RX12_17 rfl dX12_text_304 ?_
                refine lv_iload hx hb dX12_text_307 (lv_at hl 0 rfl) ?_
                refine z_ild C G 0 rfl (vp_in_nI (by omega) (by decide)) dX12_text_309 ?_
                refine lv_topi (fun v_120 ev_120 => ?_)
                rw [nI_clamp (by omega)] at ev_120
                subst ev_120
                refine z_ist C G 2 rfl (vp_in_nI (by omega) (by decide)) dX12_text_310 (fun H locs G => ?_)
                rw [nI_clamp (by omega)] at G
                have G : zS T A s.heap s [[zAr T 0 m_read 121 gr], [zO11 mo m_all m_has (f_all 4) xn xw xt xu xo xr xf m_read i_z0 i_crossings i_inns m_posts m_shut m_here i_steps i_done i_at i_gone m_was m_came m_seenAt m_rowWorth m_farBy m_used i_everywhere i_again0 i_d0 i_never i_firstCame i_longRun i_moved i_crowd i_l0 i_fitMany i_fitLeast i_fitMost m_fitPost m_fitEnd m_keptPosts i_x0], [zAr T 0 m_all 3952 (upd x (661 + i) (gr i))]] _ _ := G
                refine lv_iinc (v := nI (i + 1)) (lv' := [(4, .int (nI (i + 1))), (3, .int 1), (0, .ref mo), (1, .int 0), (2, .int 1)]) hx hb dX12_text_311 hl (k := 0) rfl (z_inc i 1) (by decide) (zLvf_h rfl) (fun ls hl => ?_)
                refine lv_goto (tgt := 282) hx hb dX12_text_314 (by decide) ?_
                exact ih_282 (i + 1) (upd x (661 + i) (gr i)) (show (i + 1) ≤ 51 ∧ (∀ j, j < (i + 1) → (upd x (661 + i) (gr i)) (661 + j) = gr j) ∧ (∀ j, (j < 661 ∨ 712 ≤ j) → (upd x (661 + i) (gr i)) j = ga j) from ⟨by omega, z_upS hS rfl, z_upO hO (by omega)⟩) (show 51 - (i + 1) < 51 - i from by omega) _ _ ls G (lv_sub hl [0, 1, 2, 3, 4] rfl)
          · have c_106n : ¬ (ga 5).toInt = (0 : Int) := fun q => c_106 ((fa_eq _ _).mpr q)
            refine lv_iconst (v := (-1)) hx hb dX12_text_246 (by decide) ?_
            have G := G.sub (bs' := [[zO11 mo m_all m_has (f_all 4) xn xw xt xu xo xr xf m_read i_z0 i_crossings i_inns m_posts m_shut m_here i_steps i_done i_at i_gone m_was m_came m_seenAt m_rowWorth m_farBy m_used i_everywhere i_again0 i_d0 i_never i_firstCame i_longRun i_moved i_crowd i_l0 i_fitMany i_fitLeast i_fitMost m_fitPost m_fitEnd m_keptPosts i_x0], [zAr T 0 m_all 3952 ga], [zAr T 0 m_read 121 gr]]) [1, 2, 0] rfl
            exact z_back hQz_ (z_iret C hr hlocks G (Nat.le_of_ble_eq_true rfl) (Nat.le_of_ble_eq_true rfl) dX12_text_247 ⟨(f_all 4), xn, xw, xt, xu, xo, xr, xf, ga, gr, rfl, (zBI_hd hB (hpal 4 (by decide) (by decide)) (fun q hq => by rw [show _ = f_all q from (hpal q (by omega) (by omega)).trans (hF q (by omega) (by omega) (by omega))]; exact hB.2.1 q hq) (fun j hj => (hpal j (by omega) (by omega)).trans (hF j (by omega) (by omega) (by omega)))), (hpal 4 (by decide) (by decide)), (fun j hj => (hpal j (by omega) (by omega)).trans (hF j (by omega) (by omega) (by omega))), (zText_f (hoi.mpr (by omega)) (by rw [← hZ5]; omega) hpal hZ5 hZ6)⟩)
        refine lv_iconst (v := 0) hx hb dX12_text_86 (by decide) ?_
        refine lv_istore_n (lv' := [(3, .int 0), (0, .ref mo), (1, .int 0), (2, .int at_)]) hx hb dX12_text_87 rfl hl (by decide) (zLvf_h rfl) (fun ls hl => ?_)
        refine z_lp2 (T := T) 88 (fun (k_ : Nat) (z : Nat → Int32) => [[zAr T 0 m_read 121 z], [zO11 mo m_all m_has (f_all 4) 0 i_where i_token i_number i_word 0 (-1) m_read i_z0 i_crossings i_inns m_posts m_shut m_here i_steps i_done i_at i_gone m_was m_came m_seenAt m_rowWorth m_farBy m_used i_everywhere i_again0 i_d0 i_never i_firstCame i_longRun i_moved i_crowd i_l0 i_fitMany i_fitLeast i_fitMost m_fitPost m_fitEnd m_keptPosts i_x0], [zAr T 0 m_all 3952 (upd (upd (upd f_all 4 0) 5 0) 6 (-1))]]) (fun (k_ : Nat) (z : Nat → Int32) => [(3, .int (nI k_)), (0, .ref mo), (1, .int 0), (2, .int at_)]) (fun (k_ : Nat) (z : Nat → Int32) => k_ ≤ 121 ∧ (∀ j, j < k_ → z j = 0)) (fun (k_ : Nat) (z : Nat → Int32) => 121 - k_) ?_ 0 f_read (show 0 ≤ 121 ∧ (∀ j, j < 0 → f_read j = 0) from ⟨by omega, fun j hj => absurd hj (by omega)⟩) G (lv_sub hl [0, 1, 2, 3] rfl)
        intro k_ z hI9 ih_88 H locs ls G hl
        replace hI9 : k_ ≤ 121 ∧ (∀ j, j < k_ → z j = 0) := hI9
        refine zAn2 hI9 ?_
        intro hk_ hZ
        clear hI9
        replace G : zS T A s.heap s [[zAr T 0 m_read 121 z], [zO11 mo m_all m_has (f_all 4) 0 i_where i_token i_number i_word 0 (-1) m_read i_z0 i_crossings i_inns m_posts m_shut m_here i_steps i_done i_at i_gone m_was m_came m_seenAt m_rowWorth m_farBy m_used i_everywhere i_again0 i_d0 i_never i_firstCame i_longRun i_moved i_crowd i_l0 i_fitMany i_fitLeast i_fitMost m_fitPost m_fitEnd m_keptPosts i_x0], [zAr T 0 m_all 3952 (upd (upd (upd f_all 4 0) 5 0) 6 (-1))]] _ _ := G
        replace hl : lv_has ls 5 [(3, .int (nI k_)), (0, .ref mo), (1, .int 0), (2, .int at_)] := hl
        refine lv_iload_n hx hb dX12_text_88 rfl (lv_at hl 0 rfl) ?_
        refine lv_bipush (v := 121) hx hb dX12_text_89 (by decide) ?_
        refine lv_icmp_ge (tgt := 107) hx hb dX12_text_91 (by decide) (fun c_121 => ?_) (fun c_121 => ?_)
        · have c_121n : 121 ≤ k_ := (nI_leI (a := 121) (b := k_) (by omega) (by omega)).mp c_121
          have G := z_cg G 0 rfl (fun _ => 0) (fun j hj => hZ j (by omega))
          have G : zS T A s.heap s [[zAr T 0 m_read 121 (fun _ => 0)], [zO11 mo m_all m_has (f_all 4) 0 i_where i_token i_number i_word 0 (-1) m_read i_z0 i_crossings i_inns m_posts m_shut m_here i_steps i_done i_at i_gone m_was m_came m_seenAt m_rowWorth m_farBy m_used i_everywhere i_again0 i_d0 i_never i_firstCame i_longRun i_moved i_crowd i_l0 i_fitMany i_fitLeast i_fitMost m_fitPost m_fitEnd m_keptPosts i_x0], [zAr T 0 m_all 3952 (upd (upd (upd f_all 4 0) 5 0) 6 (-1))]] _ _ := G
          refine lv_aload_n hx hb dX12_text_107 rfl (lv_at hl 1 rfl) ?_
          refine z_Vv (bc := [[zO11 mo m_all m_has (f_all 4) 0 i_where i_token i_number i_word 0 (-1) m_read i_z0 i_crossings i_inns m_posts m_shut m_here i_steps i_done i_at i_gone m_was m_came m_seenAt m_rowWorth m_farBy m_used i_everywhere i_again0 i_d0 i_never i_firstCame i_longRun i_moved i_crowd i_l0 i_fitMany i_fitLeast i_fitMost m_fitPost m_fitEnd m_keptPosts i_x0], [zAr T 0 m_all 3952 (upd (upd (upd f_all 4 0) 5 0) 6 (-1))]]) (br := [[zAr T 0 m_read 121 (fun _ => 0)]]) (As := []) (rest := []) C G (c_fm_advance l T mo m_all m_has (f_all 4) 0 i_where i_token i_number i_word 0 (-1) m_read i_z0 i_crossings i_inns m_posts m_shut m_here i_steps i_done i_at i_gone m_was m_came m_seenAt m_rowWorth m_farBy m_used i_everywhere i_again0 i_d0 i_never i_firstCame i_longRun i_moved i_crowd i_l0 i_fitMany i_fitLeast i_fitMost m_fitPost m_fitEnd m_keptPosts i_x0 (upd (upd (upd f_all 4 0) 5 0) 6 (-1)) 0 N k hsN rfl (Nat.zero_le _) hN6 (hk.trans (congrArg (fun q9 => tkT q9 N) (funext fun j => ((z_ne (by omega)).trans ((z_ne (by omega)).trans (z_ne (by omega)))).symm))) (fun j hj => by rw [z_ne (by omega), z_ne (by omega), z_ne (by omega)]; exact hby j hj)) (kV_RX12_119 C.2.2.2.2 (Nat.le_of_ble_eq_true rfl) (Nat.le_of_ble_eq_true rfl)) [1, 2] [1, 0] rfl rfl (ci := 11) (qc := (RX12, TX12, 43)) rfl rfl (List.mem_flatten.mpr ⟨_, List.mem_of_getElem? (i := 0) rfl, List.mem_cons_self⟩) rfl rfl hl.1 dX12_text_108 (Nat.le_of_ble_eq_true rfl) (Nat.le_of_ble_eq_true rfl) (fun b1 H locs hw G => ?_)
          refine zEx5 hw ?_
          intro j_next_122 j_where_123 j_token_124 j_number_125 j_word_126
          refine zCu8 ?_
          intro hbs9 h_127 h_128 h_129 h_130 h_131 h_132 h_133
          clear hw
          subst hbs9
          have G : zS T A s.heap s [[zAr T 0 m_read 121 (fun _ => 0)], [zO11 mo m_all m_has (f_all 4) j_next_122 j_where_123 j_token_124 j_number_125 j_word_126 0 (-1) m_read i_z0 i_crossings i_inns m_posts m_shut m_here i_steps i_done i_at i_gone m_was m_came m_seenAt m_rowWorth m_farBy m_used i_everywhere i_again0 i_d0 i_never i_firstCame i_longRun i_moved i_crowd i_l0 i_fitMany i_fitLeast i_fitMost m_fitPost m_fitEnd m_keptPosts i_x0], [zAr T 0 m_all 3952 (upd (upd (upd f_all 4 0) 5 0) 6 (-1))]] _ _ := G
          have h_129 : (0 : Int) ≤ j_next_122.toInt := h_129
          have h_130 : (j_token_124.toInt = 0 ∨ (0 : Int) < j_next_122.toInt) := h_130
          refine z_lp11 (T := T) 111 (fun (xn : Int32) (xw : Int32) (xt : Int32) (xu : Int32) (xo : Int32) (xr : Int32) (xf : Int32) (ga : Nat → Int32) (gr : Nat → Int32) (A9 : pS) (j : Nat) => [[zAr T 0 m_read 121 gr], [zO11 mo m_all m_has (f_all 4) xn xw xt xu xo xr xf m_read i_z0 i_crossings i_inns m_posts m_shut m_here i_steps i_done i_at i_gone m_was m_came m_seenAt m_rowWorth m_farBy m_used i_everywhere i_again0 i_d0 i_never i_firstCame i_longRun i_moved i_crowd i_l0 i_fitMany i_fitLeast i_fitMost m_fitPost m_fitEnd m_keptPosts i_x0], [zAr T 0 m_all 3952 ga]]) (fun (xn : Int32) (xw : Int32) (xt : Int32) (xu : Int32) (xo : Int32) (xr : Int32) (xf : Int32) (ga : Nat → Int32) (gr : Nat → Int32) (A9 : pS) (j : Nat) => [(0, .ref mo), (1, .int 0), (2, .int at_)]) (fun (xn : Int32) (xw : Int32) (xt : Int32) (xu : Int32) (xo : Int32) (xr : Int32) (xf : Int32) (ga : Nat → Int32) (gr : Nat → Int32) (A9 : pS) (j : Nat) => zLF gr ∧ 0 ≤ xn.toInt ∧ xn.toInt ≤ (f_all 4).toInt ∧ zPal (upd (upd (upd f_all 4 0) 5 0) 6 (-1)) ga ∧ zRr k N (f_all 4) xn xw xt xu xo xr xf ga A9 ∧ pLines k 0 (601 - j) A9 gr = pLines k 0 601 (0, 0, 0, -1, -1) (fun _ => 0) ∧ (¬ xr.toInt = 0 ∨ xt.toInt = 0 ∨ (j : Int) < xn.toInt)) (fun (xn : Int32) (xw : Int32) (xt : Int32) (xu : Int32) (xo : Int32) (xr : Int32) (xf : Int32) (ga : Nat → Int32) (gr : Nat → Int32) (A9 : pS) (j : Nat) => zMu xr xt xn (f_all 4)) ?_ j_next_122 j_where_123 j_token_124 j_number_125 j_word_126 0 (-1) (upd (upd (upd f_all 4 0) 5 0) 6 (-1)) (fun _ => 0) (0, 0, 0, -1, -1) 0 (show zLF (fun _ => 0) ∧ 0 ≤ j_next_122.toInt ∧ j_next_122.toInt ≤ (f_all 4).toInt ∧ zPal (upd (upd (upd f_all 4 0) 5 0) 6 (-1)) (upd (upd (upd f_all 4 0) 5 0) 6 (-1)) ∧ zRr k N (f_all 4) j_next_122 j_where_123 j_token_124 j_number_125 j_word_126 0 (-1) (upd (upd (upd f_all 4 0) 5 0) 6 (-1)) (0, 0, 0, -1, -1) ∧ pLines k 0 (601 - 0) (0, 0, 0, -1, -1) (fun _ => 0) = pLines k 0 601 (0, 0, 0, -1, -1) (fun _ => 0) ∧ (¬ (0 : Int32).toInt = 0 ∨ j_token_124.toInt = 0 ∨ (0 : Int) < j_next_122.toInt) from ⟨(zLF_z (fun j hj => rfl)), by omega, by omega, (zPal_rf _), (zRr_st hk hby hN6 hsN h_133), rfl, by omega⟩) G (lv_sub hl [1, 2, 3] rfl)
          intro xn xw xt xu xo xr xf ga gr A9 j hI9 ih_111 H locs ls G hl
          replace hI9 : zLF gr ∧ 0 ≤ xn.toInt ∧ xn.toInt ≤ (f_all 4).toInt ∧ zPal (upd (upd (upd f_all 4 0) 5 0) 6 (-1)) ga ∧ zRr k N (f_all 4) xn xw xt xu xo xr xf ga A9 ∧ pLines k 0 (601 - j) A9 gr = pLines k 0 601 (0, 0, 0, -1, -1) (fun _ => 0) ∧ (¬ xr.toInt = 0 ∨ xt.toInt = 0 ∨ (j : Int) < xn.toInt) := hI9
          refine zAn7 hI9 ?_
          intro hL hx1 hx2 hpal hRA hEq hpj
          clear hI9
          replace G : zS T A s.heap s [[zAr T 0 m_read 121 gr], [zO11 mo m_all m_has (f_all 4) xn xw xt xu xo xr xf m_read i_z0 i_crossings i_inns m_posts m_shut m_here i_steps i_done i_at i_gone m_was m_came m_seenAt m_rowWorth m_farBy m_used i_everywhere i_again0 i_d0 i_never i_firstCame i_longRun i_moved i_crowd i_l0 i_fitMany i_fitLeast i_fitMost m_fitPost m_fitEnd m_keptPosts i_x0], [zAr T 0 m_all 3952 ga]] _ _ := G
          replace hl : lv_has ls 5 [(0, .ref mo), (1, .int 0), (2, .int at_)] := hl
          refine lv_aload_n hx hb dX12_text_111 rfl (lv_at hl 0 rfl) ?_
          have hokA := zRr_ok hRA
          refine zAn6 (id hRA) ?_
          intro hA1A hA6A hA7A hA8A hA9A hA10A
          replace hA7A : zHd _ := hA7A
          have hkaA : zHd _ := hokA A9.1 hA1A.2.2.2.2
          have hkbA := hkaA.1
          have hkcA := hkaA.2.1
          have hT4A := pTk_le hokA hA1A.2.2.2.2
          refine z_get C G clX12 1 rfl 8 (by decide) m_fl_RX12_104 rfl dX12_text_112 ?_
          refine lv_if_ne (tgt := 173) hx hb dX12_text_115 (by decide) (fun c_135 => ?_) (fun c_135 => ?_)
          · have c_135n : ¬ xr.toInt = (0 : Int) := fun q => c_135 ((fa_eq _ _).mpr q)
            have hX := hEq.symm.trans (pLines_x (fun z9 => by first | (exact absurd z9.1 (by rw [← hA6A]; omega)) | (exact z9.2 (by omega))))
            have hRd := pRead_e (n := N) hX
            have hww : zHd (A9.2.1.toInt = 0 → xw = nI N) := fun z9 => by first | (exact absurd z9 (by rw [← hA6A]; omega)) | (rw [t2A, hkaA.2.2.1 (pTk_0.mp (by omega))])
            refine zMt1 (T := T) 208 (fun (gb : Nat → Int32) => [[zAr T 0 m_read 121 gr], [zO11 mo m_all m_has (f_all 4) xn xw xt xu xo xr xf m_read i_z0 i_crossings i_inns m_posts m_shut m_here i_steps i_done i_at i_gone m_was m_came m_seenAt m_rowWorth m_farBy m_used i_everywhere i_again0 i_d0 i_never i_firstCame i_longRun i_moved i_crowd i_l0 i_fitMany i_fitLeast i_fitMost m_fitPost m_fitEnd m_keptPosts i_x0], [zAr T 0 m_all 3952 gb]]) (fun (gb : Nat → Int32) => [(0, .ref mo), (1, .int 0), (2, .int at_)]) (fun (gb : Nat → Int32) => zRr k N (f_all 4) xn xw xt xu xo xr xf gb (pF4 N 0 A9 gr) ∧ zHd ((pF4 N 0 A9 gr).2.1.toInt = 0 → xw = nI N) ∧ zPal (upd (upd (upd f_all 4 0) 5 0) 6 (-1)) gb) G hl ?_ (fun jn_208 => ?_)
            · intro gb hI9 H locs ls G hl
              replace hI9 : zRr k N (f_all 4) xn xw xt xu xo xr xf gb (pF4 N 0 A9 gr) ∧ zHd ((pF4 N 0 A9 gr).2.1.toInt = 0 → xw = nI N) ∧ zPal (upd (upd (upd f_all 4 0) 5 0) 6 (-1)) gb := hI9
              refine zAn3 hI9 ?_
              intro hR4 hw4 hpb
              clear hI9
              replace G : zS T A s.heap s [[zAr T 0 m_read 121 gr], [zO11 mo m_all m_has (f_all 4) xn xw xt xu xo xr xf m_read i_z0 i_crossings i_inns m_posts m_shut m_here i_steps i_done i_at i_gone m_was m_came m_seenAt m_rowWorth m_farBy m_used i_everywhere i_again0 i_d0 i_never i_firstCame i_longRun i_moved i_crowd i_l0 i_fitMany i_fitLeast i_fitMost m_fitPost m_fitEnd m_keptPosts i_x0], [zAr T 0 m_all 3952 gb]] _ _ := G
              replace hl : lv_has ls 5 [(0, .ref mo), (1, .int 0), (2, .int at_)] := hl
              have h54 := hR4.2.2.2.1
              refine lv_iload_n hx hb dX12_text_208 rfl (lv_at hl 1 rfl) ?_
              refine lv_if_ne (tgt := 237) hx hb dX12_text_209 (by decide) (fun q => absurd (by decide) q) (fun _ => ?_)
              refine lv_aload_n hx hb dX12_text_212 rfl (lv_at hl 0 rfl) ?_
              refine z_get C G clX12 1 rfl 0 (by decide) m_fl_RX12_7 rfl dX12_text_213 ?_
              refine lv_iconst (v := 5) hx hb dX12_text_216 (by decide) ?_
              refine z_ild C G 2 rfl (vp_in_nI (n := 5) (by decide) (by decide)) dX12_text_217 ?_
              refine lv_topi (fun v_136 ev_136 => ?_)
              rw [show ((5 : Int32).toNatClampNeg) = 5 from rfl] at ev_136
              subst ev_136
              refine lv_if_ne (tgt := 237) hx hb dX12_text_218 (by decide) (fun c_137 => ?_) (fun c_137 => ?_)
              · have c_137n : ¬ (gb 5).toInt = (0 : Int) := fun q => c_137 ((fa_eq _ _).mpr q)
                have hZ1 : zRr k N (f_all 4) xn xw xt xu xo xr xf gb (pRead k N 0).1 := by rw [hRd]; show zRr _ _ _ _ _ _ _ _ _ _ _ (pF5 N 0 (pF4 N 0 A9 gr) gr); unfold pF5; rw [if_neg (fun z9 => by have z8 := z9.2.1; have z7 := z9.2.2; rw [← h54] at z8; first | omega | exact absurd (z7.symm.trans (show pPosts _ = true from by first | with_reducible assumption | assumption)) (by decide))]; exact hR4
                have hZ2 : (pRead k N 0).2 = gr := by rw [hRd]; rfl
                have hZ5 := hZ1.2.2.2.1
                have hZ6 := hZ1.2.2.2.2.1
                have hZ5i := congrArg Int32.toInt hZ5
                exact jn_237 xn xw xt xu xo xr xf gb gr (show zLF gr ∧ zPal (upd (upd (upd f_all 4 0) 5 0) 6 (-1)) gb ∧ zRr k N (f_all 4) xn xw xt xu xo xr xf gb (pRead k N 0).1 ∧ (pRead k N 0).2 = gr from ⟨(by first | with_reducible assumption | assumption), hpb, hZ1, hZ2⟩) _ _ ls G (lv_sub hl [0, 1, 2] rfl)
              · have c_137n : (gb 5).toInt = (0 : Int) := (fa_eq _ _).mp c_137
                refine lv_aload_n hx hb dX12_text_221 rfl (lv_at hl 0 rfl) ?_
                refine z_Vi (bc := [[zO11 mo m_all m_has (f_all 4) xn xw xt xu xo xr xf m_read i_z0 i_crossings i_inns m_posts m_shut m_here i_steps i_done i_at i_gone m_was m_came m_seenAt m_rowWorth m_farBy m_used i_everywhere i_again0 i_d0 i_never i_firstCame i_longRun i_moved i_crowd i_l0 i_fitMany i_fitLeast i_fitMost m_fitPost m_fitEnd m_keptPosts i_x0], [zAr T 0 m_read 121 gr]]) (br := [[zAr T 0 m_all 3952 gb]]) (As := []) (rest := []) C G (c_fm_postsAreThere l T mo m_all m_has (f_all 4) xn xw xt xu xo xr xf m_read i_z0 i_crossings i_inns m_posts m_shut m_here i_steps i_done i_at i_gone m_was m_came m_seenAt m_rowWorth m_farBy m_used i_everywhere i_again0 i_d0 i_never i_firstCame i_longRun i_moved i_crowd i_l0 i_fitMany i_fitLeast i_fitMost m_fitPost m_fitEnd m_keptPosts i_x0 gr) (kV_RX12_156 C.2.2.2.2 (Nat.le_of_ble_eq_true rfl) (Nat.le_of_ble_eq_true rfl)) [1, 0] [0, 0] rfl rfl (ci := 11) (qc := (RX12, TX12, 43)) rfl rfl (List.mem_flatten.mpr ⟨_, List.mem_of_getElem? (i := 0) rfl, List.mem_cons_self⟩) rfl rfl hl.1 dX12_text_222 (Nat.le_of_ble_eq_true rfl) (Nat.le_of_ble_eq_true rfl) (fun r_139 b1 H locs hw G => ?_)
                refine zAn2 hw ?_
                intro hbs9 hc_138
                clear hw
                subst hbs9
                have G : zS T A s.heap s [[zAr T 0 m_all 3952 gb], [zO11 mo m_all m_has (f_all 4) xn xw xt xu xo xr xf m_read i_z0 i_crossings i_inns m_posts m_shut m_here i_steps i_done i_at i_gone m_was m_came m_seenAt m_rowWorth m_farBy m_used i_everywhere i_again0 i_d0 i_never i_firstCame i_longRun i_moved i_crowd i_l0 i_fitMany i_fitLeast i_fitMost m_fitPost m_fitEnd m_keptPosts i_x0], [zAr T 0 m_read 121 gr]] _ _ := G
                rcases hc_138 with ⟨rfl, h_140⟩ | ⟨rfl, h_141⟩
                · have h_140 : pPosts gr = true := h_140
                  refine lv_if_ne (tgt := 237) hx hb dX12_text_225 (by decide) (fun _ => ?_) (fun q => absurd q (by decide))
                  have hZ1 : zRr k N (f_all 4) xn xw xt xu xo xr xf gb (pRead k N 0).1 := by rw [hRd]; show zRr _ _ _ _ _ _ _ _ _ _ _ (pF5 N 0 (pF4 N 0 A9 gr) gr); unfold pF5; rw [if_neg (fun z9 => by have z8 := z9.2.1; have z7 := z9.2.2; rw [← h54] at z8; first | omega | exact absurd (z7.symm.trans (show pPosts _ = true from by first | with_reducible assumption | assumption)) (by decide))]; exact hR4
                  have hZ2 : (pRead k N 0).2 = gr := by rw [hRd]; rfl
                  have hZ5 := hZ1.2.2.2.1
                  have hZ6 := hZ1.2.2.2.2.1
                  have hZ5i := congrArg Int32.toInt hZ5
                  have G := G.sub (bs' := [[zAr T 0 m_read 121 gr], [zO11 mo m_all m_has (f_all 4) xn xw xt xu xo xr xf m_read i_z0 i_crossings i_inns m_posts m_shut m_here i_steps i_done i_at i_gone m_was m_came m_seenAt m_rowWorth m_farBy m_used i_everywhere i_again0 i_d0 i_never i_firstCame i_longRun i_moved i_crowd i_l0 i_fitMany i_fitLeast i_fitMost m_fitPost m_fitEnd m_keptPosts i_x0], [zAr T 0 m_all 3952 gb]]) [2, 1, 0] rfl
                  exact jn_237 xn xw xt xu xo xr xf gb gr (show zLF gr ∧ zPal (upd (upd (upd f_all 4 0) 5 0) 6 (-1)) gb ∧ zRr k N (f_all 4) xn xw xt xu xo xr xf gb (pRead k N 0).1 ∧ (pRead k N 0).2 = gr from ⟨(by first | with_reducible assumption | assumption), hpb, hZ1, hZ2⟩) _ _ ls G (lv_sub hl [0, 1, 2] rfl)
                · have h_141 : pPosts gr = false := h_141
                  refine lv_if_ne (tgt := 237) hx hb dX12_text_225 (by decide) (fun q => absurd (by decide) q) (fun _ => ?_)
                  refine lv_aload_n hx hb dX12_text_228 rfl (lv_at hl 0 rfl) ?_
                  refine lv_iconst (v := 5) hx hb dX12_text_229 (by decide) ?_
                  refine lv_aload_n hx hb dX12_text_230 rfl (lv_at hl 0 rfl) ?_
                  refine z_get C G clX12 1 rfl 4 (by decide) m_fl_RX12_77 rfl dX12_text_231 ?_
                  refine z_Vv (bc := [[zO11 mo m_all m_has (f_all 4) xn xw xt xu xo xr xf m_read i_z0 i_crossings i_inns m_posts m_shut m_here i_steps i_done i_at i_gone m_was m_came m_seenAt m_rowWorth m_farBy m_used i_everywhere i_again0 i_d0 i_never i_firstCame i_longRun i_moved i_crowd i_l0 i_fitMany i_fitLeast i_fitMost m_fitPost m_fitEnd m_keptPosts i_x0], [zAr T 0 m_all 3952 gb]]) (br := [[zAr T 0 m_read 121 gr]]) (As := [.int 5, .int xw]) (rest := []) C G (c_fm_also l T mo m_all m_has (f_all 4) xn xw xt xu xo xr xf m_read i_z0 i_crossings i_inns m_posts m_shut m_here i_steps i_done i_at i_gone m_was m_came m_seenAt m_rowWorth m_farBy m_used i_everywhere i_again0 i_d0 i_never i_firstCame i_longRun i_moved i_crowd i_l0 i_fitMany i_fitLeast i_fitMost m_fitPost m_fitEnd m_keptPosts i_x0 gb 5 xw) (kV_RX12_115 C.2.2.2.2 (Nat.le_of_ble_eq_true rfl) (Nat.le_of_ble_eq_true rfl)) [1, 0] [0, 0] rfl rfl (ci := 11) (qc := (RX12, TX12, 43)) rfl rfl (List.mem_flatten.mpr ⟨_, List.mem_of_getElem? (i := 0) rfl, List.mem_cons_self⟩) rfl rfl hl.1 dX12_text_234 (Nat.le_of_ble_eq_true rfl) (Nat.le_of_ble_eq_true rfl) (fun b1 H locs hw G => ?_)
                  refine zEx1 hw ?_
                  intro g_all_142
                  refine zCu3 ?_
                  intro hbs9 h_143 h_144
                  clear hw
                  subst hbs9
                  have G : zS T A s.heap s [[zAr T 0 m_read 121 gr], [zO11 mo m_all m_has (f_all 4) xn xw xt xu xo xr xf m_read i_z0 i_crossings i_inns m_posts m_shut m_here i_steps i_done i_at i_gone m_was m_came m_seenAt m_rowWorth m_farBy m_used i_everywhere i_again0 i_d0 i_never i_firstCame i_longRun i_moved i_crowd i_l0 i_fitMany i_fitLeast i_fitMost m_fitPost m_fitEnd m_keptPosts i_x0], [zAr T 0 m_all 3952 g_all_142]] _ _ := G
                  have h_144 : g_all_142 = (if ¬ xr.toInt = 0 ∨ (¬ (gb 5).toInt = 0 ∧ ((gb 6).toInt < xw.toInt ∨ ((gb 6).toInt = xw.toInt ∧ (gb 5).toInt ≤ (5 : Int)))) then gb else upd (upd gb 5 5) 6 xw) := h_144
                  have hZ1 : zRr k N (f_all 4) xn xw xt xu xo xr xf g_all_142 (pRead k N 0).1 := by rw [hRd]; show zRr _ _ _ _ _ _ _ _ _ _ _ (pF5 N 0 (pF4 N 0 A9 gr) gr); unfold pF5; rw [if_pos ⟨rfl, by rw [← h54]; omega, by first | with_reducible assumption | assumption⟩, ← pAlso_w hw4]; exact zRr_also (kd := 5) (w := xw) hR4 h_144
                  have hZ2 : (pRead k N 0).2 = gr := by rw [hRd]; rfl
                  have hZ5 := hZ1.2.2.2.1
                  have hZ6 := hZ1.2.2.2.2.1
                  have hZ5i := congrArg Int32.toInt hZ5
                  exact jn_237 xn xw xt xu xo xr xf g_all_142 gr (show zLF gr ∧ zPal (upd (upd (upd f_all 4 0) 5 0) 6 (-1)) g_all_142 ∧ zRr k N (f_all 4) xn xw xt xu xo xr xf g_all_142 (pRead k N 0).1 ∧ (pRead k N 0).2 = gr from ⟨(by first | with_reducible assumption | assumption), (hpb.tr h_143), hZ1, hZ2⟩) _ _ ls G (lv_sub hl [0, 1, 2] rfl)
            refine lv_iload_n hx hb dX12_text_173 rfl (lv_at hl 1 rfl) ?_
            refine lv_if_ne (tgt := 208) hx hb dX12_text_174 (by decide) (fun q => absurd (by decide) q) (fun _ => ?_)
            refine lv_aload_n hx hb dX12_text_177 rfl (lv_at hl 0 rfl) ?_
            refine z_get C G clX12 1 rfl 0 (by decide) m_fl_RX12_7 rfl dX12_text_178 ?_
            refine lv_iconst (v := 5) hx hb dX12_text_181 (by decide) ?_
            refine z_ild C G 2 rfl (vp_in_nI (n := 5) (by decide) (by decide)) dX12_text_182 ?_
            refine lv_topi (fun v_146 ev_146 => ?_)
            rw [show ((5 : Int32).toNatClampNeg) = 5 from rfl] at ev_146
            subst ev_146
            refine lv_if_ne (tgt := 208) hx hb dX12_text_183 (by decide) (fun c_147 => ?_) (fun c_147 => ?_)
            · have c_147n : ¬ (ga 5).toInt = (0 : Int) := fun q => c_147 ((fa_eq _ _).mpr q)
              have hR4 : zRr k N (f_all 4) xn xw xt xu xo xr xf ga (pF4 N 0 A9 gr) := by unfold pF4; rw [if_neg (fun z9 => by have z8 := z9.2.1; have z7 := z9.2.2; rw [← hA8A] at z8; rw [← hA10A] at z7; omega)]; exact hRA
              have hw4 : zHd ((pF4 N 0 A9 gr).2.1.toInt = 0 → xw = nI N) := fun z9 => hww (by have z8 : (pF4 N 0 A9 gr).2.1 = A9.2.1 := (by unfold pF4; split; exact pAlso_fa.2.1; rfl); rw [z8] at z9; exact z9)
              have h54 := hR4.2.2.2.1
              exact jn_208 ga (show zRr k N (f_all 4) xn xw xt xu xo xr xf ga (pF4 N 0 A9 gr) ∧ zHd ((pF4 N 0 A9 gr).2.1.toInt = 0 → xw = nI N) ∧ zPal (upd (upd (upd f_all 4 0) 5 0) 6 (-1)) ga from ⟨hR4, hw4, hpal⟩) _ _ ls G (lv_sub hl [0, 1, 2] rfl)
            · have c_147n : (ga 5).toInt = (0 : Int) := (fa_eq _ _).mp c_147
              refine lv_aload_n hx hb dX12_text_186 rfl (lv_at hl 0 rfl) ?_
              refine z_get C G clX12 1 rfl 9 (by decide) m_fl_RX12_126 rfl dX12_text_187 ?_
              refine lv_aload_n hx hb dX12_text_190 rfl (lv_at hl 0 rfl) ?_
              refine z_get C G clX12 1 rfl 10 (by decide) m_fl_RX12_17 rfl dX12_text_191 ?_
              refine lv_iconst (v := 0) hx hb dX12_text_194 (by decide) ?_
              refine z_ild C G 0 rfl (vp_in_nI (n := 0) (by decide) (by decide)) dX12_text_195 ?_
              refine lv_topi (fun v_148 ev_148 => ?_)
              rw [show ((0 : Int32).toNatClampNeg) = 0 from rfl] at ev_148
              subst ev_148
              refine lv_icmp_lt (tgt := 208) hx hb dX12_text_196 (by decide) (fun c_149 => ?_) (fun c_149 => ?_)
              · have c_149n : xf.toInt < (gr 0).toInt := (fa_lt _ _).mp c_149
                have hR4 : zRr k N (f_all 4) xn xw xt xu xo xr xf ga (pF4 N 0 A9 gr) := by unfold pF4; rw [if_neg (fun z9 => by have z8 := z9.2.1; have z7 := z9.2.2; rw [← hA8A] at z8; rw [← hA10A] at z7; omega)]; exact hRA
                have hw4 : zHd ((pF4 N 0 A9 gr).2.1.toInt = 0 → xw = nI N) := fun z9 => hww (by have z8 : (pF4 N 0 A9 gr).2.1 = A9.2.1 := (by unfold pF4; split; exact pAlso_fa.2.1; rfl); rw [z8] at z9; exact z9)
                have h54 := hR4.2.2.2.1
                exact jn_208 ga (show zRr k N (f_all 4) xn xw xt xu xo xr xf ga (pF4 N 0 A9 gr) ∧ zHd ((pF4 N 0 A9 gr).2.1.toInt = 0 → xw = nI N) ∧ zPal (upd (upd (upd f_all 4 0) 5 0) 6 (-1)) ga from ⟨hR4, hw4, hpal⟩) _ _ ls G (lv_sub hl [0, 1, 2] rfl)
              · have c_149n : ¬ xf.toInt < (gr 0).toInt := fun q => c_149 ((fa_lt _ _).mpr q)
                refine lv_aload_n hx hb dX12_text_199 rfl (lv_at hl 0 rfl) ?_
                refine lv_iconst (v := 4) hx hb dX12_text_200 (by decide) ?_
                refine lv_aload_n hx hb dX12_text_201 rfl (lv_at hl 0 rfl) ?_
                refine z_get C G clX12 1 rfl 4 (by decide) m_fl_RX12_77 rfl dX12_text_202 ?_
                refine z_Vv (bc := [[zO11 mo m_all m_has (f_all 4) xn xw xt xu xo xr xf m_read i_z0 i_crossings i_inns m_posts m_shut m_here i_steps i_done i_at i_gone m_was m_came m_seenAt m_rowWorth m_farBy m_used i_everywhere i_again0 i_d0 i_never i_firstCame i_longRun i_moved i_crowd i_l0 i_fitMany i_fitLeast i_fitMost m_fitPost m_fitEnd m_keptPosts i_x0], [zAr T 0 m_all 3952 ga]]) (br := [[zAr T 0 m_read 121 gr]]) (As := [.int 4, .int xw]) (rest := []) C G (c_fm_also l T mo m_all m_has (f_all 4) xn xw xt xu xo xr xf m_read i_z0 i_crossings i_inns m_posts m_shut m_here i_steps i_done i_at i_gone m_was m_came m_seenAt m_rowWorth m_farBy m_used i_everywhere i_again0 i_d0 i_never i_firstCame i_longRun i_moved i_crowd i_l0 i_fitMany i_fitLeast i_fitMost m_fitPost m_fitEnd m_keptPosts i_x0 ga 4 xw) (kV_RX12_115 C.2.2.2.2 (Nat.le_of_ble_eq_true rfl) (Nat.le_of_ble_eq_true rfl)) [1, 2] [1, 0] rfl rfl (ci := 11) (qc := (RX12, TX12, 43)) rfl rfl (List.mem_flatten.mpr ⟨_, List.mem_of_getElem? (i := 0) rfl, List.mem_cons_self⟩) rfl rfl hl.1 dX12_text_205 (Nat.le_of_ble_eq_true rfl) (Nat.le_of_ble_eq_true rfl) (fun b1 H locs hw G => ?_)
                refine zEx1 hw ?_
                intro g_all_150
                refine zCu3 ?_
                intro hbs9 h_151 h_152
                clear hw
                subst hbs9
                have G : zS T A s.heap s [[zAr T 0 m_read 121 gr], [zO11 mo m_all m_has (f_all 4) xn xw xt xu xo xr xf m_read i_z0 i_crossings i_inns m_posts m_shut m_here i_steps i_done i_at i_gone m_was m_came m_seenAt m_rowWorth m_farBy m_used i_everywhere i_again0 i_d0 i_never i_firstCame i_longRun i_moved i_crowd i_l0 i_fitMany i_fitLeast i_fitMost m_fitPost m_fitEnd m_keptPosts i_x0], [zAr T 0 m_all 3952 g_all_150]] _ _ := G
                have h_152 : g_all_150 = (if ¬ xr.toInt = 0 ∨ (¬ (ga 5).toInt = 0 ∧ ((ga 6).toInt < xw.toInt ∨ ((ga 6).toInt = xw.toInt ∧ (ga 5).toInt ≤ (4 : Int)))) then ga else upd (upd ga 5 4) 6 xw) := h_152
                have hR4 : zRr k N (f_all 4) xn xw xt xu xo xr xf g_all_150 (pF4 N 0 A9 gr) := by unfold pF4; rw [if_pos ⟨rfl, by rw [← hA8A]; omega, by rw [← hA10A]; omega⟩, ← pAlso_w hww]; exact zRr_also (kd := 4) (w := xw) hRA h_152
                have hw4 : zHd ((pF4 N 0 A9 gr).2.1.toInt = 0 → xw = nI N) := fun z9 => hww (by have z8 : (pF4 N 0 A9 gr).2.1 = A9.2.1 := (by unfold pF4; split; exact pAlso_fa.2.1; rfl); rw [z8] at z9; exact z9)
                have h54 := hR4.2.2.2.1
                exact jn_208 g_all_150 (show zRr k N (f_all 4) xn xw xt xu xo xr xf g_all_150 (pF4 N 0 A9 gr) ∧ zHd ((pF4 N 0 A9 gr).2.1.toInt = 0 → xw = nI N) ∧ zPal (upd (upd (upd f_all 4 0) 5 0) 6 (-1)) g_all_150 from ⟨hR4, hw4, (hpal.tr h_151)⟩) _ _ ls G (lv_sub hl [0, 1, 2] rfl)
          · have c_135n : xr.toInt = (0 : Int) := (fa_eq _ _).mp c_135
            have hwA : A9.2.1.toInt = 0 := by rw [← hA6A]; omega
            refine zAn5 (hA7A hwA) ?_
            intro t1A t2A t3A t4A t5A
            replace t4A : zHd _ := t4A
            replace t5A : zHd _ := t5A
            have t3iA : xt.toInt = (pTk k A9.1 : Int) := by rw [t3A]; exact nI_toInt (by omega)
            refine lv_aload_n hx hb dX12_text_118 rfl (lv_at hl 0 rfl) ?_
            refine z_get C G clX12 1 rfl 5 (by decide) m_fl_RX12_80 rfl dX12_text_119 ?_
            refine lv_if_eq (tgt := 173) hx hb dX12_text_122 (by decide) (fun c_154 => ?_) (fun c_154 => ?_)
            · have c_154n : xt.toInt = (0 : Int) := (fa_eq _ _).mp c_154
              have hX := hEq.symm.trans (pLines_x (fun z9 => by first | (exact absurd z9.1 (by rw [← hA6A]; omega)) | (exact z9.2 (by omega))))
              have hRd := pRead_e (n := N) hX
              have hww : zHd (A9.2.1.toInt = 0 → xw = nI N) := fun z9 => by first | (exact absurd z9 (by rw [← hA6A]; omega)) | (rw [t2A, hkaA.2.2.1 (pTk_0.mp (by omega))])
              refine zMt1 (T := T) 208 (fun (gb : Nat → Int32) => [[zAr T 0 m_read 121 gr], [zO11 mo m_all m_has (f_all 4) xn xw xt xu xo xr xf m_read i_z0 i_crossings i_inns m_posts m_shut m_here i_steps i_done i_at i_gone m_was m_came m_seenAt m_rowWorth m_farBy m_used i_everywhere i_again0 i_d0 i_never i_firstCame i_longRun i_moved i_crowd i_l0 i_fitMany i_fitLeast i_fitMost m_fitPost m_fitEnd m_keptPosts i_x0], [zAr T 0 m_all 3952 gb]]) (fun (gb : Nat → Int32) => [(0, .ref mo), (1, .int 0), (2, .int at_)]) (fun (gb : Nat → Int32) => zRr k N (f_all 4) xn xw xt xu xo xr xf gb (pF4 N 0 A9 gr) ∧ zHd ((pF4 N 0 A9 gr).2.1.toInt = 0 → xw = nI N) ∧ zPal (upd (upd (upd f_all 4 0) 5 0) 6 (-1)) gb) G hl ?_ (fun jn_208 => ?_)
              · intro gb hI9 H locs ls G hl
                replace hI9 : zRr k N (f_all 4) xn xw xt xu xo xr xf gb (pF4 N 0 A9 gr) ∧ zHd ((pF4 N 0 A9 gr).2.1.toInt = 0 → xw = nI N) ∧ zPal (upd (upd (upd f_all 4 0) 5 0) 6 (-1)) gb := hI9
                refine zAn3 hI9 ?_
                intro hR4 hw4 hpb
                clear hI9
                replace G : zS T A s.heap s [[zAr T 0 m_read 121 gr], [zO11 mo m_all m_has (f_all 4) xn xw xt xu xo xr xf m_read i_z0 i_crossings i_inns m_posts m_shut m_here i_steps i_done i_at i_gone m_was m_came m_seenAt m_rowWorth m_farBy m_used i_everywhere i_again0 i_d0 i_never i_firstCame i_longRun i_moved i_crowd i_l0 i_fitMany i_fitLeast i_fitMost m_fitPost m_fitEnd m_keptPosts i_x0], [zAr T 0 m_all 3952 gb]] _ _ := G
                replace hl : lv_has ls 5 [(0, .ref mo), (1, .int 0), (2, .int at_)] := hl
                have h54 := hR4.2.2.2.1
                refine lv_iload_n hx hb dX12_text_208 rfl (lv_at hl 1 rfl) ?_
                refine lv_if_ne (tgt := 237) hx hb dX12_text_209 (by decide) (fun q => absurd (by decide) q) (fun _ => ?_)
                refine lv_aload_n hx hb dX12_text_212 rfl (lv_at hl 0 rfl) ?_
                refine z_get C G clX12 1 rfl 0 (by decide) m_fl_RX12_7 rfl dX12_text_213 ?_
                refine lv_iconst (v := 5) hx hb dX12_text_216 (by decide) ?_
                refine z_ild C G 2 rfl (vp_in_nI (n := 5) (by decide) (by decide)) dX12_text_217 ?_
                refine lv_topi (fun v_155 ev_155 => ?_)
                rw [show ((5 : Int32).toNatClampNeg) = 5 from rfl] at ev_155
                subst ev_155
                refine lv_if_ne (tgt := 237) hx hb dX12_text_218 (by decide) (fun c_156 => ?_) (fun c_156 => ?_)
                · have c_156n : ¬ (gb 5).toInt = (0 : Int) := fun q => c_156 ((fa_eq _ _).mpr q)
                  have hZ1 : zRr k N (f_all 4) xn xw xt xu xo xr xf gb (pRead k N 0).1 := by rw [hRd]; show zRr _ _ _ _ _ _ _ _ _ _ _ (pF5 N 0 (pF4 N 0 A9 gr) gr); unfold pF5; rw [if_neg (fun z9 => by have z8 := z9.2.1; have z7 := z9.2.2; rw [← h54] at z8; first | omega | exact absurd (z7.symm.trans (show pPosts _ = true from by first | with_reducible assumption | assumption)) (by decide))]; exact hR4
                  have hZ2 : (pRead k N 0).2 = gr := by rw [hRd]; rfl
                  have hZ5 := hZ1.2.2.2.1
                  have hZ6 := hZ1.2.2.2.2.1
                  have hZ5i := congrArg Int32.toInt hZ5
                  exact jn_237 xn xw xt xu xo xr xf gb gr (show zLF gr ∧ zPal (upd (upd (upd f_all 4 0) 5 0) 6 (-1)) gb ∧ zRr k N (f_all 4) xn xw xt xu xo xr xf gb (pRead k N 0).1 ∧ (pRead k N 0).2 = gr from ⟨(by first | with_reducible assumption | assumption), hpb, hZ1, hZ2⟩) _ _ ls G (lv_sub hl [0, 1, 2] rfl)
                · have c_156n : (gb 5).toInt = (0 : Int) := (fa_eq _ _).mp c_156
                  refine lv_aload_n hx hb dX12_text_221 rfl (lv_at hl 0 rfl) ?_
                  refine z_Vi (bc := [[zO11 mo m_all m_has (f_all 4) xn xw xt xu xo xr xf m_read i_z0 i_crossings i_inns m_posts m_shut m_here i_steps i_done i_at i_gone m_was m_came m_seenAt m_rowWorth m_farBy m_used i_everywhere i_again0 i_d0 i_never i_firstCame i_longRun i_moved i_crowd i_l0 i_fitMany i_fitLeast i_fitMost m_fitPost m_fitEnd m_keptPosts i_x0], [zAr T 0 m_read 121 gr]]) (br := [[zAr T 0 m_all 3952 gb]]) (As := []) (rest := []) C G (c_fm_postsAreThere l T mo m_all m_has (f_all 4) xn xw xt xu xo xr xf m_read i_z0 i_crossings i_inns m_posts m_shut m_here i_steps i_done i_at i_gone m_was m_came m_seenAt m_rowWorth m_farBy m_used i_everywhere i_again0 i_d0 i_never i_firstCame i_longRun i_moved i_crowd i_l0 i_fitMany i_fitLeast i_fitMost m_fitPost m_fitEnd m_keptPosts i_x0 gr) (kV_RX12_156 C.2.2.2.2 (Nat.le_of_ble_eq_true rfl) (Nat.le_of_ble_eq_true rfl)) [1, 0] [0, 0] rfl rfl (ci := 11) (qc := (RX12, TX12, 43)) rfl rfl (List.mem_flatten.mpr ⟨_, List.mem_of_getElem? (i := 0) rfl, List.mem_cons_self⟩) rfl rfl hl.1 dX12_text_222 (Nat.le_of_ble_eq_true rfl) (Nat.le_of_ble_eq_true rfl) (fun r_158 b1 H locs hw G => ?_)
                  refine zAn2 hw ?_
                  intro hbs9 hc_157
                  clear hw
                  subst hbs9
                  have G : zS T A s.heap s [[zAr T 0 m_all 3952 gb], [zO11 mo m_all m_has (f_all 4) xn xw xt xu xo xr xf m_read i_z0 i_crossings i_inns m_posts m_shut m_here i_steps i_done i_at i_gone m_was m_came m_seenAt m_rowWorth m_farBy m_used i_everywhere i_again0 i_d0 i_never i_firstCame i_longRun i_moved i_crowd i_l0 i_fitMany i_fitLeast i_fitMost m_fitPost m_fitEnd m_keptPosts i_x0], [zAr T 0 m_read 121 gr]] _ _ := G
                  rcases hc_157 with ⟨rfl, h_159⟩ | ⟨rfl, h_160⟩
                  · have h_159 : pPosts gr = true := h_159
                    refine lv_if_ne (tgt := 237) hx hb dX12_text_225 (by decide) (fun _ => ?_) (fun q => absurd q (by decide))
                    have hZ1 : zRr k N (f_all 4) xn xw xt xu xo xr xf gb (pRead k N 0).1 := by rw [hRd]; show zRr _ _ _ _ _ _ _ _ _ _ _ (pF5 N 0 (pF4 N 0 A9 gr) gr); unfold pF5; rw [if_neg (fun z9 => by have z8 := z9.2.1; have z7 := z9.2.2; rw [← h54] at z8; first | omega | exact absurd (z7.symm.trans (show pPosts _ = true from by first | with_reducible assumption | assumption)) (by decide))]; exact hR4
                    have hZ2 : (pRead k N 0).2 = gr := by rw [hRd]; rfl
                    have hZ5 := hZ1.2.2.2.1
                    have hZ6 := hZ1.2.2.2.2.1
                    have hZ5i := congrArg Int32.toInt hZ5
                    have G := G.sub (bs' := [[zAr T 0 m_read 121 gr], [zO11 mo m_all m_has (f_all 4) xn xw xt xu xo xr xf m_read i_z0 i_crossings i_inns m_posts m_shut m_here i_steps i_done i_at i_gone m_was m_came m_seenAt m_rowWorth m_farBy m_used i_everywhere i_again0 i_d0 i_never i_firstCame i_longRun i_moved i_crowd i_l0 i_fitMany i_fitLeast i_fitMost m_fitPost m_fitEnd m_keptPosts i_x0], [zAr T 0 m_all 3952 gb]]) [2, 1, 0] rfl
                    exact jn_237 xn xw xt xu xo xr xf gb gr (show zLF gr ∧ zPal (upd (upd (upd f_all 4 0) 5 0) 6 (-1)) gb ∧ zRr k N (f_all 4) xn xw xt xu xo xr xf gb (pRead k N 0).1 ∧ (pRead k N 0).2 = gr from ⟨(by first | with_reducible assumption | assumption), hpb, hZ1, hZ2⟩) _ _ ls G (lv_sub hl [0, 1, 2] rfl)
                  · have h_160 : pPosts gr = false := h_160
                    refine lv_if_ne (tgt := 237) hx hb dX12_text_225 (by decide) (fun q => absurd (by decide) q) (fun _ => ?_)
                    refine lv_aload_n hx hb dX12_text_228 rfl (lv_at hl 0 rfl) ?_
                    refine lv_iconst (v := 5) hx hb dX12_text_229 (by decide) ?_
                    refine lv_aload_n hx hb dX12_text_230 rfl (lv_at hl 0 rfl) ?_
                    refine z_get C G clX12 1 rfl 4 (by decide) m_fl_RX12_77 rfl dX12_text_231 ?_
                    refine z_Vv (bc := [[zO11 mo m_all m_has (f_all 4) xn xw xt xu xo xr xf m_read i_z0 i_crossings i_inns m_posts m_shut m_here i_steps i_done i_at i_gone m_was m_came m_seenAt m_rowWorth m_farBy m_used i_everywhere i_again0 i_d0 i_never i_firstCame i_longRun i_moved i_crowd i_l0 i_fitMany i_fitLeast i_fitMost m_fitPost m_fitEnd m_keptPosts i_x0], [zAr T 0 m_all 3952 gb]]) (br := [[zAr T 0 m_read 121 gr]]) (As := [.int 5, .int xw]) (rest := []) C G (c_fm_also l T mo m_all m_has (f_all 4) xn xw xt xu xo xr xf m_read i_z0 i_crossings i_inns m_posts m_shut m_here i_steps i_done i_at i_gone m_was m_came m_seenAt m_rowWorth m_farBy m_used i_everywhere i_again0 i_d0 i_never i_firstCame i_longRun i_moved i_crowd i_l0 i_fitMany i_fitLeast i_fitMost m_fitPost m_fitEnd m_keptPosts i_x0 gb 5 xw) (kV_RX12_115 C.2.2.2.2 (Nat.le_of_ble_eq_true rfl) (Nat.le_of_ble_eq_true rfl)) [1, 0] [0, 0] rfl rfl (ci := 11) (qc := (RX12, TX12, 43)) rfl rfl (List.mem_flatten.mpr ⟨_, List.mem_of_getElem? (i := 0) rfl, List.mem_cons_self⟩) rfl rfl hl.1 dX12_text_234 (Nat.le_of_ble_eq_true rfl) (Nat.le_of_ble_eq_true rfl) (fun b1 H locs hw G => ?_)
                    refine zEx1 hw ?_
                    intro g_all_161
                    refine zCu3 ?_
                    intro hbs9 h_162 h_163
                    clear hw
                    subst hbs9
                    have G : zS T A s.heap s [[zAr T 0 m_read 121 gr], [zO11 mo m_all m_has (f_all 4) xn xw xt xu xo xr xf m_read i_z0 i_crossings i_inns m_posts m_shut m_here i_steps i_done i_at i_gone m_was m_came m_seenAt m_rowWorth m_farBy m_used i_everywhere i_again0 i_d0 i_never i_firstCame i_longRun i_moved i_crowd i_l0 i_fitMany i_fitLeast i_fitMost m_fitPost m_fitEnd m_keptPosts i_x0], [zAr T 0 m_all 3952 g_all_161]] _ _ := G
                    have h_163 : g_all_161 = (if ¬ xr.toInt = 0 ∨ (¬ (gb 5).toInt = 0 ∧ ((gb 6).toInt < xw.toInt ∨ ((gb 6).toInt = xw.toInt ∧ (gb 5).toInt ≤ (5 : Int)))) then gb else upd (upd gb 5 5) 6 xw) := h_163
                    have hZ1 : zRr k N (f_all 4) xn xw xt xu xo xr xf g_all_161 (pRead k N 0).1 := by rw [hRd]; show zRr _ _ _ _ _ _ _ _ _ _ _ (pF5 N 0 (pF4 N 0 A9 gr) gr); unfold pF5; rw [if_pos ⟨rfl, by rw [← h54]; omega, by first | with_reducible assumption | assumption⟩, ← pAlso_w hw4]; exact zRr_also (kd := 5) (w := xw) hR4 h_163
                    have hZ2 : (pRead k N 0).2 = gr := by rw [hRd]; rfl
                    have hZ5 := hZ1.2.2.2.1
                    have hZ6 := hZ1.2.2.2.2.1
                    have hZ5i := congrArg Int32.toInt hZ5
                    exact jn_237 xn xw xt xu xo xr xf g_all_161 gr (show zLF gr ∧ zPal (upd (upd (upd f_all 4 0) 5 0) 6 (-1)) g_all_161 ∧ zRr k N (f_all 4) xn xw xt xu xo xr xf g_all_161 (pRead k N 0).1 ∧ (pRead k N 0).2 = gr from ⟨(by first | with_reducible assumption | assumption), (hpb.tr h_162), hZ1, hZ2⟩) _ _ ls G (lv_sub hl [0, 1, 2] rfl)
              refine lv_iload_n hx hb dX12_text_173 rfl (lv_at hl 1 rfl) ?_
              refine lv_if_ne (tgt := 208) hx hb dX12_text_174 (by decide) (fun q => absurd (by decide) q) (fun _ => ?_)
              refine lv_aload_n hx hb dX12_text_177 rfl (lv_at hl 0 rfl) ?_
              refine z_get C G clX12 1 rfl 0 (by decide) m_fl_RX12_7 rfl dX12_text_178 ?_
              refine lv_iconst (v := 5) hx hb dX12_text_181 (by decide) ?_
              refine z_ild C G 2 rfl (vp_in_nI (n := 5) (by decide) (by decide)) dX12_text_182 ?_
              refine lv_topi (fun v_165 ev_165 => ?_)
              rw [show ((5 : Int32).toNatClampNeg) = 5 from rfl] at ev_165
              subst ev_165
              refine lv_if_ne (tgt := 208) hx hb dX12_text_183 (by decide) (fun c_166 => ?_) (fun c_166 => ?_)
              · have c_166n : ¬ (ga 5).toInt = (0 : Int) := fun q => c_166 ((fa_eq _ _).mpr q)
                have hR4 : zRr k N (f_all 4) xn xw xt xu xo xr xf ga (pF4 N 0 A9 gr) := by unfold pF4; rw [if_neg (fun z9 => by have z8 := z9.2.1; have z7 := z9.2.2; rw [← hA8A] at z8; rw [← hA10A] at z7; omega)]; exact hRA
                have hw4 : zHd ((pF4 N 0 A9 gr).2.1.toInt = 0 → xw = nI N) := fun z9 => hww (by have z8 : (pF4 N 0 A9 gr).2.1 = A9.2.1 := (by unfold pF4; split; exact pAlso_fa.2.1; rfl); rw [z8] at z9; exact z9)
                have h54 := hR4.2.2.2.1
                exact jn_208 ga (show zRr k N (f_all 4) xn xw xt xu xo xr xf ga (pF4 N 0 A9 gr) ∧ zHd ((pF4 N 0 A9 gr).2.1.toInt = 0 → xw = nI N) ∧ zPal (upd (upd (upd f_all 4 0) 5 0) 6 (-1)) ga from ⟨hR4, hw4, hpal⟩) _ _ ls G (lv_sub hl [0, 1, 2] rfl)
              · have c_166n : (ga 5).toInt = (0 : Int) := (fa_eq _ _).mp c_166
                refine lv_aload_n hx hb dX12_text_186 rfl (lv_at hl 0 rfl) ?_
                refine z_get C G clX12 1 rfl 9 (by decide) m_fl_RX12_126 rfl dX12_text_187 ?_
                refine lv_aload_n hx hb dX12_text_190 rfl (lv_at hl 0 rfl) ?_
                refine z_get C G clX12 1 rfl 10 (by decide) m_fl_RX12_17 rfl dX12_text_191 ?_
                refine lv_iconst (v := 0) hx hb dX12_text_194 (by decide) ?_
                refine z_ild C G 0 rfl (vp_in_nI (n := 0) (by decide) (by decide)) dX12_text_195 ?_
                refine lv_topi (fun v_167 ev_167 => ?_)
                rw [show ((0 : Int32).toNatClampNeg) = 0 from rfl] at ev_167
                subst ev_167
                refine lv_icmp_lt (tgt := 208) hx hb dX12_text_196 (by decide) (fun c_168 => ?_) (fun c_168 => ?_)
                · have c_168n : xf.toInt < (gr 0).toInt := (fa_lt _ _).mp c_168
                  have hR4 : zRr k N (f_all 4) xn xw xt xu xo xr xf ga (pF4 N 0 A9 gr) := by unfold pF4; rw [if_neg (fun z9 => by have z8 := z9.2.1; have z7 := z9.2.2; rw [← hA8A] at z8; rw [← hA10A] at z7; omega)]; exact hRA
                  have hw4 : zHd ((pF4 N 0 A9 gr).2.1.toInt = 0 → xw = nI N) := fun z9 => hww (by have z8 : (pF4 N 0 A9 gr).2.1 = A9.2.1 := (by unfold pF4; split; exact pAlso_fa.2.1; rfl); rw [z8] at z9; exact z9)
                  have h54 := hR4.2.2.2.1
                  exact jn_208 ga (show zRr k N (f_all 4) xn xw xt xu xo xr xf ga (pF4 N 0 A9 gr) ∧ zHd ((pF4 N 0 A9 gr).2.1.toInt = 0 → xw = nI N) ∧ zPal (upd (upd (upd f_all 4 0) 5 0) 6 (-1)) ga from ⟨hR4, hw4, hpal⟩) _ _ ls G (lv_sub hl [0, 1, 2] rfl)
                · have c_168n : ¬ xf.toInt < (gr 0).toInt := fun q => c_168 ((fa_lt _ _).mpr q)
                  refine lv_aload_n hx hb dX12_text_199 rfl (lv_at hl 0 rfl) ?_
                  refine lv_iconst (v := 4) hx hb dX12_text_200 (by decide) ?_
                  refine lv_aload_n hx hb dX12_text_201 rfl (lv_at hl 0 rfl) ?_
                  refine z_get C G clX12 1 rfl 4 (by decide) m_fl_RX12_77 rfl dX12_text_202 ?_
                  refine z_Vv (bc := [[zO11 mo m_all m_has (f_all 4) xn xw xt xu xo xr xf m_read i_z0 i_crossings i_inns m_posts m_shut m_here i_steps i_done i_at i_gone m_was m_came m_seenAt m_rowWorth m_farBy m_used i_everywhere i_again0 i_d0 i_never i_firstCame i_longRun i_moved i_crowd i_l0 i_fitMany i_fitLeast i_fitMost m_fitPost m_fitEnd m_keptPosts i_x0], [zAr T 0 m_all 3952 ga]]) (br := [[zAr T 0 m_read 121 gr]]) (As := [.int 4, .int xw]) (rest := []) C G (c_fm_also l T mo m_all m_has (f_all 4) xn xw xt xu xo xr xf m_read i_z0 i_crossings i_inns m_posts m_shut m_here i_steps i_done i_at i_gone m_was m_came m_seenAt m_rowWorth m_farBy m_used i_everywhere i_again0 i_d0 i_never i_firstCame i_longRun i_moved i_crowd i_l0 i_fitMany i_fitLeast i_fitMost m_fitPost m_fitEnd m_keptPosts i_x0 ga 4 xw) (kV_RX12_115 C.2.2.2.2 (Nat.le_of_ble_eq_true rfl) (Nat.le_of_ble_eq_true rfl)) [1, 2] [1, 0] rfl rfl (ci := 11) (qc := (RX12, TX12, 43)) rfl rfl (List.mem_flatten.mpr ⟨_, List.mem_of_getElem? (i := 0) rfl, List.mem_cons_self⟩) rfl rfl hl.1 dX12_text_205 (Nat.le_of_ble_eq_true rfl) (Nat.le_of_ble_eq_true rfl) (fun b1 H locs hw G => ?_)
                  refine zEx1 hw ?_
                  intro g_all_169
                  refine zCu3 ?_
                  intro hbs9 h_170 h_171
                  clear hw
                  subst hbs9
                  have G : zS T A s.heap s [[zAr T 0 m_read 121 gr], [zO11 mo m_all m_has (f_all 4) xn xw xt xu xo xr xf m_read i_z0 i_crossings i_inns m_posts m_shut m_here i_steps i_done i_at i_gone m_was m_came m_seenAt m_rowWorth m_farBy m_used i_everywhere i_again0 i_d0 i_never i_firstCame i_longRun i_moved i_crowd i_l0 i_fitMany i_fitLeast i_fitMost m_fitPost m_fitEnd m_keptPosts i_x0], [zAr T 0 m_all 3952 g_all_169]] _ _ := G
                  have h_171 : g_all_169 = (if ¬ xr.toInt = 0 ∨ (¬ (ga 5).toInt = 0 ∧ ((ga 6).toInt < xw.toInt ∨ ((ga 6).toInt = xw.toInt ∧ (ga 5).toInt ≤ (4 : Int)))) then ga else upd (upd ga 5 4) 6 xw) := h_171
                  have hR4 : zRr k N (f_all 4) xn xw xt xu xo xr xf g_all_169 (pF4 N 0 A9 gr) := by unfold pF4; rw [if_pos ⟨rfl, by rw [← hA8A]; omega, by rw [← hA10A]; omega⟩, ← pAlso_w hww]; exact zRr_also (kd := 4) (w := xw) hRA h_171
                  have hw4 : zHd ((pF4 N 0 A9 gr).2.1.toInt = 0 → xw = nI N) := fun z9 => hww (by have z8 : (pF4 N 0 A9 gr).2.1 = A9.2.1 := (by unfold pF4; split; exact pAlso_fa.2.1; rfl); rw [z8] at z9; exact z9)
                  have h54 := hR4.2.2.2.1
                  exact jn_208 g_all_169 (show zRr k N (f_all 4) xn xw xt xu xo xr xf g_all_169 (pF4 N 0 A9 gr) ∧ zHd ((pF4 N 0 A9 gr).2.1.toInt = 0 → xw = nI N) ∧ zPal (upd (upd (upd f_all 4 0) 5 0) 6 (-1)) g_all_169 from ⟨hR4, hw4, (hpal.tr h_170)⟩) _ _ ls G (lv_sub hl [0, 1, 2] rfl)
            · have c_154n : ¬ xt.toInt = (0 : Int) := fun q => c_154 ((fa_eq _ _).mpr q)
              have htA : ¬ pTk k A9.1 = 0 := by omega
              refine lv_iload_n hx hb dX12_text_125 rfl (lv_at hl 1 rfl) ?_
              refine lv_lookup (tgt := 152) hx hb dX12_text_126 (by decide) rfl (by decide) ?_
              refine lv_aload_n hx hb dX12_text_152 rfl (lv_at hl 0 rfl) ?_
              refine z_Vv (bc := [[zO11 mo m_all m_has (f_all 4) xn xw xt xu xo xr xf m_read i_z0 i_crossings i_inns m_posts m_shut m_here i_steps i_done i_at i_gone m_was m_came m_seenAt m_rowWorth m_farBy m_used i_everywhere i_again0 i_d0 i_never i_firstCame i_longRun i_moved i_crowd i_l0 i_fitMany i_fitLeast i_fitMost m_fitPost m_fitEnd m_keptPosts i_x0], [zAr T 0 m_all 3952 ga], [zAr T 0 m_read 121 gr]]) (br := []) (As := []) (rest := []) C G (c_fm_landLine l T mo m_all m_has (f_all 4) xn xw xt xu xo xr xf m_read i_z0 i_crossings i_inns m_posts m_shut m_here i_steps i_done i_at i_gone m_was m_came m_seenAt m_rowWorth m_farBy m_used i_everywhere i_again0 i_d0 i_never i_firstCame i_longRun i_moved i_crowd i_l0 i_fitMany i_fitLeast i_fitMost m_fitPost m_fitEnd m_keptPosts i_x0 ga gr k N A9 (by first | with_reducible assumption | with_reducible rfl | omega | assumption | rfl) (by first | with_reducible assumption | with_reducible rfl | omega | assumption | rfl) (by first | with_reducible assumption | with_reducible rfl | omega | assumption | rfl) (by first | with_reducible assumption | with_reducible rfl | omega | assumption | rfl) hRA hwA) (kV_RX12_147 C.2.2.2.2 (Nat.le_of_ble_eq_true rfl) (Nat.le_of_ble_eq_true rfl)) [1, 2, 0] [0, 0, 0] rfl rfl (ci := 11) (qc := (RX12, TX12, 43)) rfl rfl (List.mem_flatten.mpr ⟨_, List.mem_of_getElem? (i := 0) rfl, List.mem_cons_self⟩) rfl rfl hl.1 dX12_text_153 (Nat.le_of_ble_eq_true rfl) (Nat.le_of_ble_eq_true rfl) (fun b1 H locs hw G => ?_)
              refine zEx9 hw ?_
              intro j_next_173 j_where_174 j_token_175 j_number_176 j_word_177 j_wrong_178 j_farCrossing_179 g_all_180 g_read_181
              refine zCu9 ?_
              intro hbs9 h_182 h_183 h_184 h_185 h_186 h_187 h_188 h_189
              clear hw
              subst hbs9
              have G : zS T A s.heap s [[zO11 mo m_all m_has (f_all 4) j_next_173 j_where_174 j_token_175 j_number_176 j_word_177 j_wrong_178 j_farCrossing_179 m_read i_z0 i_crossings i_inns m_posts m_shut m_here i_steps i_done i_at i_gone m_was m_came m_seenAt m_rowWorth m_farBy m_used i_everywhere i_again0 i_d0 i_never i_firstCame i_longRun i_moved i_crowd i_l0 i_fitMany i_fitLeast i_fitMost m_fitPost m_fitEnd m_keptPosts i_x0], [zAr T 0 m_all 3952 g_all_180], [zAr T 0 m_read 121 g_read_181]] _ _ := G
              have hnR : zRr k N (f_all 4) j_next_173 j_where_174 j_token_175 j_number_176 j_word_177 j_wrong_178 j_farCrossing_179 g_all_180 (pLine k 0 A9 gr).1 := by rw [pLine_0]; exact h_188
              have hnG : g_read_181 = (pLine k 0 A9 gr).2 := by rw [pLine_0]; exact h_189
              refine lv_goto (tgt := 111) hx hb dX12_text_156 (by decide) ?_
              have G := G.sub (bs' := [[zAr T 0 m_read 121 g_read_181], [zO11 mo m_all m_has (f_all 4) j_next_173 j_where_174 j_token_175 j_number_176 j_word_177 j_wrong_178 j_farCrossing_179 m_read i_z0 i_crossings i_inns m_posts m_shut m_here i_steps i_done i_at i_gone m_was m_came m_seenAt m_rowWorth m_farBy m_used i_everywhere i_again0 i_d0 i_never i_firstCame i_longRun i_moved i_crowd i_l0 i_fitMany i_fitLeast i_fitMost m_fitPost m_fitEnd m_keptPosts i_x0], [zAr T 0 m_all 3952 g_all_180]]) [2, 0, 1] rfl
              exact ih_111 j_next_173 j_where_174 j_token_175 j_number_176 j_word_177 j_wrong_178 j_farCrossing_179 g_all_180 g_read_181 ((pLine k 0 A9 gr).1) (j + 1) (show zLF g_read_181 ∧ 0 ≤ j_next_173.toInt ∧ j_next_173.toInt ≤ (f_all 4).toInt ∧ zPal (upd (upd (upd f_all 4 0) 5 0) 6 (-1)) g_all_180 ∧ zRr k N (f_all 4) j_next_173 j_where_174 j_token_175 j_number_176 j_word_177 j_wrong_178 j_farCrossing_179 g_all_180 ((pLine k 0 A9 gr).1) ∧ pLines k 0 (601 - (j + 1)) ((pLine k 0 A9 gr).1) g_read_181 = pLines k 0 601 (0, 0, 0, -1, -1) (fun _ => 0) ∧ (¬ j_wrong_178.toInt = 0 ∨ j_token_175.toInt = 0 ∨ ((j + 1) : Int) < j_next_173.toInt) from ⟨(by first | with_reducible assumption | assumption), by omega, by omega, (hpal.tr h_186), hnR, (by rw [hnG]; exact pLines_n (by omega) hwA htA hEq), by omega⟩) (show zMu j_wrong_178 j_token_175 j_next_173 (f_all 4) < zMu xr xt xn (f_all 4) from zMu_lt (by omega) (by omega) (by omega) (by omega)) _ _ ls G (lv_sub hl [0, 1, 2] rfl)
        · have c_121n : ¬ 121 ≤ k_ := fun q => c_121 ((nI_leI (a := 121) (b := k_) (by omega) (by omega)).mpr q)
          refine lv_aload_n hx hb dX12_text_94 rfl (lv_at hl 1 rfl) ?_
          refine z_get C G clX12 1 rfl 10 (by decide) m_fl_RX12_17 rfl dX12_text_95 ?_
          refine lv_iload_n hx hb dX12_text_98 rfl (lv_at hl 0 rfl) ?_
          refine lv_iconst (v := 0) hx hb dX12_text_99 (by decide) ?_
          refine z_ist C G 0 rfl (vp_in_nI (by omega) (by decide)) dX12_text_100 (fun H locs G => ?_)
          rw [nI_clamp (by omega)] at G
          have G : zS T A s.heap s [[zAr T 0 m_read 121 (upd z k_ 0)], [zO11 mo m_all m_has (f_all 4) 0 i_where i_token i_number i_word 0 (-1) m_read i_z0 i_crossings i_inns m_posts m_shut m_here i_steps i_done i_at i_gone m_was m_came m_seenAt m_rowWorth m_farBy m_used i_everywhere i_again0 i_d0 i_never i_firstCame i_longRun i_moved i_crowd i_l0 i_fitMany i_fitLeast i_fitMost m_fitPost m_fitEnd m_keptPosts i_x0], [zAr T 0 m_all 3952 (upd (upd (upd f_all 4 0) 5 0) 6 (-1))]] _ _ := G
          refine lv_iinc (v := nI (k_ + 1)) (lv' := [(3, .int (nI (k_ + 1))), (0, .ref mo), (1, .int 0), (2, .int at_)]) hx hb dX12_text_101 hl (k := 0) rfl (z_inc k_ 1) (by decide) (zLvf_h rfl) (fun ls hl => ?_)
          refine lv_goto (tgt := 88) hx hb dX12_text_104 (by decide) ?_
          exact ih_88 (k_ + 1) (upd z k_ 0) (show (k_ + 1) ≤ 121 ∧ (∀ j, j < (k_ + 1) → (upd z k_ 0) j = 0) from ⟨by omega, z_updE (F := fun _ => 0) hZ rfl⟩) (show 121 - (k_ + 1) < 121 - k_ from by omega) _ _ ls G (lv_sub hl [0, 1, 2, 3] rfl)
      · have h_104 : (at_.toInt < 0 ∨ ((upd (upd (upd f_all 4 0) 5 0) 6 (-1)) 0).toInt ≤ at_.toInt) := h_104
        refine lv_if_ne (tgt := 71) hx hb dX12_text_65 (by decide) (fun q => absurd (by decide) q) (fun _ => ?_)
        refine lv_bipush (v := (-2)) hx hb dX12_text_68 (by decide) ?_
        have G := G.sub (bs' := [[zO11 mo m_all m_has (f_all 4) i_next i_where i_token i_number i_word i_wrong i_farCrossing m_read i_z0 i_crossings i_inns m_posts m_shut m_here i_steps i_done i_at i_gone m_was m_came m_seenAt m_rowWorth m_farBy m_used i_everywhere i_again0 i_d0 i_never i_firstCame i_longRun i_moved i_crowd i_l0 i_fitMany i_fitLeast i_fitMost m_fitPost m_fitEnd m_keptPosts i_x0], [zAr T 0 m_all 3952 (upd (upd (upd f_all 4 0) 5 0) 6 (-1))], [zAr T 0 m_read 121 f_read]]) [1, 2, 0] rfl
        exact z_back hQz_ (z_iret C hr hlocks G (Nat.le_of_ble_eq_true rfl) (Nat.le_of_ble_eq_true rfl) dX12_text_70 ⟨(f_all 4), i_next, i_where, i_token, i_number, i_word, i_wrong, i_farCrossing, (upd (upd (upd f_all 4 0) 5 0) 6 (-1)), f_read, rfl, (zBI_hd hB rfl (fun q hq => by rw [hF q (by omega) (by omega) (by omega)]; exact hB.2.1 q hq) (fun j hj => hF j (by omega) (by omega) (by omega))), rfl, (fun j hj => hF j (by omega) (by omega) (by omega)), (zText_b (fun z9 => by have z8 := hoi.mp z9; omega))⟩)
  · have h_6 : ((0 : Int) < (0 : Int) ∨ (2 : Int) < (0 : Int)) := h_6
    refine lv_if_eq (tgt := 68) hx hb dX12_text_38 (by decide) (fun _ => ?_) (fun q => absurd (by decide) q)
    refine lv_bipush (v := (-2)) hx hb dX12_text_68 (by decide) ?_
    exact z_back hQz_ (z_iret C hr hlocks G (Nat.le_of_ble_eq_true rfl) (Nat.le_of_ble_eq_true rfl) dX12_text_70 ⟨(f_all 4), i_next, i_where, i_token, i_number, i_word, i_wrong, i_farCrossing, (upd (upd (upd f_all 4 0) 5 0) 6 (-1)), f_read, rfl, (zBI_hd hB rfl (fun q hq => by rw [hF q (by omega) (by omega) (by omega)]; exact hB.2.1 q hq) (fun j hj => hF j (by omega) (by omega) (by omega))), rfl, (fun j hj => hF j (by omega) (by omega) (by omega)), (by exfalso; omega)⟩)
set_option maxHeartbeats 4000000 in
set_option maxRecDepth 100000 in
/-- c_fm_text1 -/
theorem c_fm_text1 (l : Launch) (T : zTy) (mo : Nat) (m_all : Nat) (m_has : Nat) (i_size : Int32) (i_next : Int32) (i_where : Int32) (i_token : Int32) (i_number : Int32) (i_word : Int32) (i_wrong : Int32) (i_farCrossing : Int32) (m_read : Nat) (i_z0 : Int32) (i_crossings : Int32) (i_inns : Int32) (m_posts : Nat) (m_shut : Nat) (m_here : Nat) (i_steps : Int32) (i_done : Int32) (i_at : Int32) (i_gone : Int32) (m_was : Nat) (m_came : Nat) (m_seenAt : Nat) (m_rowWorth : Nat) (m_farBy : Nat) (m_used : Nat) (i_everywhere : Int32) (i_again0 : Int32) (i_d0 : Int32) (i_never : Int32) (i_firstCame : Int32) (i_longRun : Int32) (i_moved : Int32) (i_crowd : Int32) (i_l0 : Int32) (i_fitMany : Int32) (i_fitLeast : Int32) (i_fitMost : Int32) (m_fitPost : Nat) (m_fitEnd : Nat) (m_keptPosts : Nat) (i_x0 : Int32) (f_all : Nat → Int32) (f_read : Nat → Int32) (k : pT) (N : Nat) (at_ : Int32) (hB : zBI f_all) (hsN : f_all 4 = nI N) (hN6 : N ≤ 600) (hk : k = tkT (fun j => f_all (10 + j)) N) (hby : ∀ j, j < N → 0 ≤ (f_all (10 + j)).toInt) : zMi l T yX12_text cX12_text 5 (some .int) 9 0 0 [.ref mo, .int 1, .int at_] [[zO11 mo m_all m_has i_size i_next i_where i_token i_number i_word i_wrong i_farCrossing m_read i_z0 i_crossings i_inns m_posts m_shut m_here i_steps i_done i_at i_gone m_was m_came m_seenAt m_rowWorth m_farBy m_used i_everywhere i_again0 i_d0 i_never i_firstCame i_longRun i_moved i_crowd i_l0 i_fitMany i_fitLeast i_fitMost m_fitPost m_fitEnd m_keptPosts i_x0], [zAr T 0 m_all 3952 f_all], [zAr T 0 m_read 121 f_read]] (fun (r : Int32) bs => ∃ (j_size : Int32) (j_next : Int32) (j_where : Int32) (j_token : Int32) (j_number : Int32) (j_word : Int32) (j_wrong : Int32) (j_farCrossing : Int32) (g_all : Nat → Int32) (g_read : Nat → Int32), bs = [[zO11 mo m_all m_has j_size j_next j_where j_token j_number j_word j_wrong j_farCrossing m_read i_z0 i_crossings i_inns m_posts m_shut m_here i_steps i_done i_at i_gone m_was m_came m_seenAt m_rowWorth m_farBy m_used i_everywhere i_again0 i_d0 i_never i_firstCame i_longRun i_moved i_crowd i_l0 i_fitMany i_fitLeast i_fitMost m_fitPost m_fitEnd m_keptPosts i_x0], [zAr T 0 m_all 3952 g_all], [zAr T 0 m_read 121 g_read]] ∧ zBI g_all ∧ g_all 4 = 0 ∧ (∀ j, 988 ≤ j → g_all j = f_all j) ∧ (zText (pRead k N 1) 1 at_ f_all g_all r)) := by
  refine zMi_of (own := RX12) (by decide) rfl (Nat.le_of_ble_eq_true rfl) ?_
  intro p e s m args below meth c A ls C hr hlocks hnm hAe G hl
  refine zHide (fun Qz_ hQz_ => ?_)
  have hx := C.1
  have hb := C.2.1
  have hl : lv_has ls 5 [(0, .ref mo), (1, .int 1), (2, .int at_)] := hl
  refine lv_aload_n hx hb dX12_text_0 rfl (lv_at hl 0 rfl) ?_
  refine lv_aload_n hx hb dX12_text_1 rfl (lv_at hl 0 rfl) ?_
  refine z_get C G clX12 0 rfl 0 (by decide) m_fl_RX12_7 rfl dX12_text_2 ?_
  refine lv_iconst (v := 4) hx hb dX12_text_5 (by decide) ?_
  refine z_ild C G 1 rfl (vp_in_nI (n := 4) (by decide) (by decide)) dX12_text_6 ?_
  refine lv_topi (fun v_1 ev_1 => ?_)
  rw [show ((4 : Int32).toNatClampNeg) = 4 from rfl] at ev_1
  subst ev_1
  refine z_put C G clX12 0 rfl 2 (by decide) m_fl_RX12_56 rfl rfl rfl (Nat.le_of_ble_eq_true rfl) dX12_text_7 (fun H locs G => ?_)
  have G : zS T A s.heap s [[zO11 mo m_all m_has (f_all 4) i_next i_where i_token i_number i_word i_wrong i_farCrossing m_read i_z0 i_crossings i_inns m_posts m_shut m_here i_steps i_done i_at i_gone m_was m_came m_seenAt m_rowWorth m_farBy m_used i_everywhere i_again0 i_d0 i_never i_firstCame i_longRun i_moved i_crowd i_l0 i_fitMany i_fitLeast i_fitMost m_fitPost m_fitEnd m_keptPosts i_x0], [zAr T 0 m_all 3952 f_all], [zAr T 0 m_read 121 f_read]] _ _ := G
  refine lv_aload_n hx hb dX12_text_10 rfl (lv_at hl 0 rfl) ?_
  refine z_get C G clX12 0 rfl 0 (by decide) m_fl_RX12_7 rfl dX12_text_11 ?_
  refine lv_iconst (v := 4) hx hb dX12_text_14 (by decide) ?_
  refine lv_iconst (v := 0) hx hb dX12_text_15 (by decide) ?_
  refine z_ist C G 1 rfl (vp_in_nI (n := 4) (by decide) (by decide)) dX12_text_16 (fun H locs G => ?_)
  have G : zS T A s.heap s [[zO11 mo m_all m_has (f_all 4) i_next i_where i_token i_number i_word i_wrong i_farCrossing m_read i_z0 i_crossings i_inns m_posts m_shut m_here i_steps i_done i_at i_gone m_was m_came m_seenAt m_rowWorth m_farBy m_used i_everywhere i_again0 i_d0 i_never i_firstCame i_longRun i_moved i_crowd i_l0 i_fitMany i_fitLeast i_fitMost m_fitPost m_fitEnd m_keptPosts i_x0], [zAr T 0 m_all 3952 (upd f_all 4 0)], [zAr T 0 m_read 121 f_read]] _ _ := G
  refine lv_aload_n hx hb dX12_text_17 rfl (lv_at hl 0 rfl) ?_
  refine z_get C G clX12 0 rfl 0 (by decide) m_fl_RX12_7 rfl dX12_text_18 ?_
  refine lv_iconst (v := 5) hx hb dX12_text_21 (by decide) ?_
  refine lv_iconst (v := 0) hx hb dX12_text_22 (by decide) ?_
  refine z_ist C G 1 rfl (vp_in_nI (n := 5) (by decide) (by decide)) dX12_text_23 (fun H locs G => ?_)
  have G : zS T A s.heap s [[zO11 mo m_all m_has (f_all 4) i_next i_where i_token i_number i_word i_wrong i_farCrossing m_read i_z0 i_crossings i_inns m_posts m_shut m_here i_steps i_done i_at i_gone m_was m_came m_seenAt m_rowWorth m_farBy m_used i_everywhere i_again0 i_d0 i_never i_firstCame i_longRun i_moved i_crowd i_l0 i_fitMany i_fitLeast i_fitMost m_fitPost m_fitEnd m_keptPosts i_x0], [zAr T 0 m_all 3952 (upd (upd f_all 4 0) 5 0)], [zAr T 0 m_read 121 f_read]] _ _ := G
  refine lv_aload_n hx hb dX12_text_24 rfl (lv_at hl 0 rfl) ?_
  refine z_get C G clX12 0 rfl 0 (by decide) m_fl_RX12_7 rfl dX12_text_25 ?_
  refine lv_bipush (v := 6) hx hb dX12_text_28 (by decide) ?_
  refine lv_iconst (v := (-1)) hx hb dX12_text_30 (by decide) ?_
  refine z_ist C G 1 rfl (vp_in_nI (n := 6) (by decide) (by decide)) dX12_text_31 (fun H locs G => ?_)
  have G : zS T A s.heap s [[zO11 mo m_all m_has (f_all 4) i_next i_where i_token i_number i_word i_wrong i_farCrossing m_read i_z0 i_crossings i_inns m_posts m_shut m_here i_steps i_done i_at i_gone m_was m_came m_seenAt m_rowWorth m_farBy m_used i_everywhere i_again0 i_d0 i_never i_firstCame i_longRun i_moved i_crowd i_l0 i_fitMany i_fitLeast i_fitMost m_fitPost m_fitEnd m_keptPosts i_x0], [zAr T 0 m_all 3952 (upd (upd (upd f_all 4 0) 5 0) 6 (-1))], [zAr T 0 m_read 121 f_read]] _ _ := G
  have hB4 := hB.1
  have hF : ∀ j, j ≠ 4 → j ≠ 5 → j ≠ 6 → (upd (upd (upd f_all 4 0) 5 0) 6 (-1)) j = f_all j := fun j h1 h2 h3 => by unfold upd; rw [if_neg h3, if_neg h2, if_neg h1]
  refine lv_iload_n hx hb dX12_text_32 rfl (lv_at hl 1 rfl) ?_
  refine lv_iconst (v := 0) hx hb dX12_text_33 (by decide) ?_
  refine lv_iconst (v := 2) hx hb dX12_text_34 (by decide) ?_
  refine z_Si (bc := []) (br := [[zO11 mo m_all m_has (f_all 4) i_next i_where i_token i_number i_word i_wrong i_farCrossing m_read i_z0 i_crossings i_inns m_posts m_shut m_here i_steps i_done i_at i_gone m_was m_came m_seenAt m_rowWorth m_farBy m_used i_everywhere i_again0 i_d0 i_never i_firstCame i_longRun i_moved i_crowd i_l0 i_fitMany i_fitLeast i_fitMost m_fitPost m_fitEnd m_keptPosts i_x0], [zAr T 0 m_all 3952 (upd (upd (upd f_all 4 0) 5 0) 6 (-1))], [zAr T 0 m_read 121 f_read]]) (As := [.int 1, .int 0, .int 2]) (rest := []) C G (c_m_isIn l T 1 0 2) (kS_RX12_111 C.2.2.2.2 (Nat.le_of_ble_eq_true rfl) (Nat.le_of_ble_eq_true rfl)) [] [] rfl rfl rfl rfl hl.1 dX12_text_35 (Nat.le_of_ble_eq_true rfl) (Nat.le_of_ble_eq_true rfl) (fun r_3 b1 H locs hw G => ?_)
  refine zAn2 hw ?_
  intro hbs9 hc_2
  clear hw
  subst hbs9
  have G : zS T A s.heap s [[zO11 mo m_all m_has (f_all 4) i_next i_where i_token i_number i_word i_wrong i_farCrossing m_read i_z0 i_crossings i_inns m_posts m_shut m_here i_steps i_done i_at i_gone m_was m_came m_seenAt m_rowWorth m_farBy m_used i_everywhere i_again0 i_d0 i_never i_firstCame i_longRun i_moved i_crowd i_l0 i_fitMany i_fitLeast i_fitMost m_fitPost m_fitEnd m_keptPosts i_x0], [zAr T 0 m_all 3952 (upd (upd (upd f_all 4 0) 5 0) 6 (-1))], [zAr T 0 m_read 121 f_read]] _ _ := G
  rcases hc_2 with ⟨rfl, h_4, h_5⟩ | ⟨rfl, h_6⟩
  · have h_4 : (0 : Int) ≤ (1 : Int) := h_4
    have h_5 : (1 : Int) ≤ (2 : Int) := h_5
    refine lv_if_eq (tgt := 68) hx hb dX12_text_38 (by decide) (fun q => absurd q (by decide)) (fun _ => ?_)
    rcases (Decidable.em (at_ = -1)) with hne | hne
    · obtain rfl : at_ = -1 := hne
      have hq1 : ((upd (upd (upd f_all 4 0) 5 0) 6 (-1)) 1).toInt = (f_all 1).toInt := rfl
      have hqf : 0 ≤ (f_all 1).toInt ∧ (f_all 1).toInt ≤ 2 := hB.2.1 1 (by decide)
      have hqF : 0 ≤ ((upd (upd (upd f_all 4 0) 5 0) 6 (-1)) 1).toInt ∧ ((upd (upd (upd f_all 4 0) 5 0) 6 (-1)) 1).toInt ≤ 2 := hqf
      have hai : ((-1) : Int32).toInt = -1 := rfl
      have hoi : zHd _ := pOkAt_y (s := 1) (at_ := (-1)) (G := f_all) hai
      refine lv_iload_n hx hb dX12_text_41 rfl (lv_at hl 2 rfl) ?_
      refine lv_iconst (v := (-1)) hx hb dX12_text_42 (by decide) ?_
      refine lv_icmp_ne (tgt := 59) hx hb dX12_text_43 (by decide) (fun q => absurd rfl q) (fun _ => ?_)
      refine lv_aload_n hx hb dX12_text_46 rfl (lv_at hl 0 rfl) ?_
      refine z_get C G clX12 0 rfl 0 (by decide) m_fl_RX12_7 rfl dX12_text_47 ?_
      refine lv_iload_n hx hb dX12_text_50 rfl (lv_at hl 1 rfl) ?_
      refine z_ild C G 1 rfl (vp_in_nI (n := 1) (by decide) (by decide)) dX12_text_51 ?_
      refine lv_topi (fun v_7 ev_7 => ?_)
      rw [show ((1 : Int32).toNatClampNeg) = 1 from rfl] at ev_7
      subst ev_7
      rw [show (upd (upd (upd f_all 4 0) 5 0) 6 (-1)) 1 = f_all 1 from rfl]
      refine lv_iconst (v := 2) hx hb dX12_text_52 (by decide) ?_
      refine lv_icmp_lt (tgt := 71) hx hb dX12_text_53 (by decide) (fun c_8 => ?_) (fun c_8 => ?_)
      · have c_8n : (f_all 1).toInt < (2 : Int) := (fa_lt _ _).mp c_8
        refine lv_aload_n hx hb dX12_text_71 rfl (lv_at hl 0 rfl) ?_
        refine lv_iconst (v := 0) hx hb dX12_text_72 (by decide) ?_
        refine z_put C G clX12 0 rfl 3 (by decide) m_fl_RX12_70 rfl rfl rfl (Nat.le_of_ble_eq_true rfl) dX12_text_73 (fun H locs G => ?_)
        have G : zS T A s.heap s [[zO11 mo m_all m_has (f_all 4) 0 i_where i_token i_number i_word i_wrong i_farCrossing m_read i_z0 i_crossings i_inns m_posts m_shut m_here i_steps i_done i_at i_gone m_was m_came m_seenAt m_rowWorth m_farBy m_used i_everywhere i_again0 i_d0 i_never i_firstCame i_longRun i_moved i_crowd i_l0 i_fitMany i_fitLeast i_fitMost m_fitPost m_fitEnd m_keptPosts i_x0], [zAr T 0 m_all 3952 (upd (upd (upd f_all 4 0) 5 0) 6 (-1))], [zAr T 0 m_read 121 f_read]] _ _ := G
        refine lv_aload_n hx hb dX12_text_76 rfl (lv_at hl 0 rfl) ?_
        refine lv_iconst (v := 0) hx hb dX12_text_77 (by decide) ?_
        refine z_put C G clX12 0 rfl 8 (by decide) m_fl_RX12_104 rfl rfl rfl (Nat.le_of_ble_eq_true rfl) dX12_text_78 (fun H locs G => ?_)
        have G : zS T A s.heap s [[zO11 mo m_all m_has (f_all 4) 0 i_where i_token i_number i_word 0 i_farCrossing m_read i_z0 i_crossings i_inns m_posts m_shut m_here i_steps i_done i_at i_gone m_was m_came m_seenAt m_rowWorth m_farBy m_used i_everywhere i_again0 i_d0 i_never i_firstCame i_longRun i_moved i_crowd i_l0 i_fitMany i_fitLeast i_fitMost m_fitPost m_fitEnd m_keptPosts i_x0], [zAr T 0 m_all 3952 (upd (upd (upd f_all 4 0) 5 0) 6 (-1))], [zAr T 0 m_read 121 f_read]] _ _ := G
        refine lv_aload_n hx hb dX12_text_81 rfl (lv_at hl 0 rfl) ?_
        refine lv_iconst (v := (-1)) hx hb dX12_text_82 (by decide) ?_
        refine z_put C G clX12 0 rfl 9 (by decide) m_fl_RX12_126 rfl rfl rfl (Nat.le_of_ble_eq_true rfl) dX12_text_83 (fun H locs G => ?_)
        have G : zS T A s.heap s [[zO11 mo m_all m_has (f_all 4) 0 i_where i_token i_number i_word 0 (-1) m_read i_z0 i_crossings i_inns m_posts m_shut m_here i_steps i_done i_at i_gone m_was m_came m_seenAt m_rowWorth m_farBy m_used i_everywhere i_again0 i_d0 i_never i_firstCame i_longRun i_moved i_crowd i_l0 i_fitMany i_fitLeast i_fitMost m_fitPost m_fitEnd m_keptPosts i_x0], [zAr T 0 m_all 3952 (upd (upd (upd f_all 4 0) 5 0) 6 (-1))], [zAr T 0 m_read 121 f_read]] _ _ := G
        refine zMt9 (T := T) 237 (fun (xn : Int32) (xw : Int32) (xt : Int32) (xu : Int32) (xo : Int32) (xr : Int32) (xf : Int32) (ga : Nat → Int32) (gr : Nat → Int32) => [[zO11 mo m_all m_has (f_all 4) xn xw xt xu xo xr xf m_read i_z0 i_crossings i_inns m_posts m_shut m_here i_steps i_done i_at i_gone m_was m_came m_seenAt m_rowWorth m_farBy m_used i_everywhere i_again0 i_d0 i_never i_firstCame i_longRun i_moved i_crowd i_l0 i_fitMany i_fitLeast i_fitMost m_fitPost m_fitEnd m_keptPosts i_x0], [zAr T 0 m_all 3952 ga], [zAr T 0 m_read 121 gr]]) (fun (xn : Int32) (xw : Int32) (xt : Int32) (xu : Int32) (xo : Int32) (xr : Int32) (xf : Int32) (ga : Nat → Int32) (gr : Nat → Int32) => [(0, .ref mo), (1, .int 1), (2, .int (-1))]) (fun (xn : Int32) (xw : Int32) (xt : Int32) (xu : Int32) (xo : Int32) (xr : Int32) (xf : Int32) (ga : Nat → Int32) (gr : Nat → Int32) => zCF 40 gr ∧ zPal (upd (upd (upd f_all 4 0) 5 0) 6 (-1)) ga ∧ zRr k N (f_all 4) xn xw xt xu xo xr xf ga (pRead k N 1).1 ∧ (pRead k N 1).2 = gr) G hl ?_ (fun jn_237 => ?_)
        · intro xn xw xt xu xo xr xf ga gr hI9 H locs ls G hl
          replace hI9 : zCF 40 gr ∧ zPal (upd (upd (upd f_all 4 0) 5 0) 6 (-1)) ga ∧ zRr k N (f_all 4) xn xw xt xu xo xr xf ga (pRead k N 1).1 ∧ (pRead k N 1).2 = gr := hI9
          refine zAn4 hI9 ?_
          intro hL hpal hZ1 hZ2
          clear hI9
          replace G : zS T A s.heap s [[zO11 mo m_all m_has (f_all 4) xn xw xt xu xo xr xf m_read i_z0 i_crossings i_inns m_posts m_shut m_here i_steps i_done i_at i_gone m_was m_came m_seenAt m_rowWorth m_farBy m_used i_everywhere i_again0 i_d0 i_never i_firstCame i_longRun i_moved i_crowd i_l0 i_fitMany i_fitLeast i_fitMost m_fitPost m_fitEnd m_keptPosts i_x0], [zAr T 0 m_all 3952 ga], [zAr T 0 m_read 121 gr]] _ _ := G
          replace hl : lv_has ls 5 [(0, .ref mo), (1, .int 1), (2, .int (-1))] := hl
          have hZ5 := hZ1.2.2.2.1
          have hZ6 := hZ1.2.2.2.2.1
          have hZ5i := congrArg Int32.toInt hZ5
          refine lv_aload_n hx hb dX12_text_237 rfl (lv_at hl 0 rfl) ?_
          refine z_get C G clX12 0 rfl 0 (by decide) m_fl_RX12_7 rfl dX12_text_238 ?_
          refine lv_iconst (v := 5) hx hb dX12_text_241 (by decide) ?_
          refine z_ild C G 1 rfl (vp_in_nI (n := 5) (by decide) (by decide)) dX12_text_242 ?_
          refine lv_topi (fun v_9 ev_9 => ?_)
          rw [show ((5 : Int32).toNatClampNeg) = 5 from rfl] at ev_9
          subst ev_9
          refine lv_if_eq (tgt := 248) hx hb dX12_text_243 (by decide) (fun c_10 => ?_) (fun c_10 => ?_)
          · have c_10n : (ga 5).toInt = (0 : Int) := (fa_eq _ _).mp c_10
            refine lv_iload_n hx hb dX12_text_248 rfl (lv_at hl 2 rfl) ?_
            refine lv_iconst (v := (-1)) hx hb dX12_text_249 (by decide) ?_
            refine lv_icmp_ne (tgt := 262) hx hb dX12_text_250 (by decide) (fun q => absurd rfl q) (fun _ => ?_)
            refine lv_aload_n hx hb dX12_text_253 rfl (lv_at hl 0 rfl) ?_
            refine z_get C G clX12 0 rfl 0 (by decide) m_fl_RX12_7 rfl dX12_text_254 ?_
            refine lv_iload_n hx hb dX12_text_257 rfl (lv_at hl 1 rfl) ?_
            refine z_ild C G 1 rfl (vp_in_nI (n := 1) (by decide) (by decide)) dX12_text_258 ?_
            refine lv_topi (fun v_11 ev_11 => ?_)
            rw [show ((1 : Int32).toNatClampNeg) = 1 from rfl] at ev_11
            subst ev_11
            refine lv_goto (tgt := 263) hx hb dX12_text_259 (by decide) ?_
            have hg0 : (ga 1).toInt = (f_all 1).toInt := congrArg Int32.toInt (hpal 1 (by decide) (by decide))
            rcases (show (ga 1).toInt = 0 ∨ (ga 1).toInt = 1 from by omega) with hk | hk
            · rw [show ga 1 = 0 from Int32.toInt_inj.mp hk]
              refine lv_istore_n (lv' := [(3, .int 0), (0, .ref mo), (1, .int 1), (2, .int (-1))]) hx hb dX12_text_263 rfl hl (by decide) (zLvf_h rfl) (fun ls hl => ?_)
              refine lv_iload_n hx hb dX12_text_264 rfl (lv_at hl 3 rfl) ?_
              refine lv_iconst (v := (-1)) hx hb dX12_text_265 (by decide) ?_
              refine lv_icmp_ne (tgt := 279) hx hb dX12_text_266 (by decide) (fun q => absurd rfl q) (fun _ => ?_)
              refine lv_aload_n hx hb dX12_text_269 rfl (lv_at hl 1 rfl) ?_
              refine z_get C G clX12 0 rfl 0 (by decide) m_fl_RX12_7 rfl dX12_text_270 ?_
              refine lv_iload_n hx hb dX12_text_273 rfl (lv_at hl 2 rfl) ?_
              refine lv_dup2_11 hx hb dX12_text_274 rfl rfl ?_
              refine z_ild C G 1 rfl (vp_in_nI (n := 1) (by decide) (by decide)) dX12_text_275 ?_
              refine lv_topi (fun v_12 ev_12 => ?_)
              rw [show ((1 : Int32).toNatClampNeg) = 1 from rfl] at ev_12
              subst ev_12
              refine lv_iconst (v := 1) hx hb dX12_text_276 (by decide) ?_
              refine lv_iadd hx hb dX12_text_277 ?_
              refine lv_topi (fun y_13 ey_13 => ?_)
              have ey_13i : y_13.toInt = (ga 1).toInt + (1 : Int) := by rw [ey_13]; exact z_iaddI (x := (ga 1)) (y := (1 : Int32)) (by show -2147483648 ≤ (ga 1).toInt + (1 : Int); omega) (by show (ga 1).toInt + (1 : Int) < 2147483648; omega)
              refine z_ist C G 1 rfl (vp_in_nI (n := 1) (by decide) (by decide)) dX12_text_278 (fun H locs G => ?_)
              have G : zS T A s.heap s [[zO11 mo m_all m_has (f_all 4) xn xw xt xu xo xr xf m_read i_z0 i_crossings i_inns m_posts m_shut m_here i_steps i_done i_at i_gone m_was m_came m_seenAt m_rowWorth m_farBy m_used i_everywhere i_again0 i_d0 i_never i_firstCame i_longRun i_moved i_crowd i_l0 i_fitMany i_fitLeast i_fitMost m_fitPost m_fitEnd m_keptPosts i_x0], [zAr T 0 m_all 3952 (upd ga 1 y_13)], [zAr T 0 m_read 121 gr]] _ _ := G
              refine lv_iconst (v := 0) hx hb dX12_text_279 (by decide) ?_
              refine lv_istore (lv' := [(4, .int 0), (3, .int 0), (0, .ref mo), (1, .int 1), (2, .int (-1))]) hx hb dX12_text_280 hl (by decide) (zLvf_h rfl) (fun ls hl => ?_)
              refine z_lp2 (T := T) 282 (fun (i : Nat) (x : Nat → Int32) => [[zO11 mo m_all m_has (f_all 4) xn xw xt xu xo xr xf m_read i_z0 i_crossings i_inns m_posts m_shut m_here i_steps i_done i_at i_gone m_was m_came m_seenAt m_rowWorth m_farBy m_used i_everywhere i_again0 i_d0 i_never i_firstCame i_longRun i_moved i_crowd i_l0 i_fitMany i_fitLeast i_fitMost m_fitPost m_fitEnd m_keptPosts i_x0], [zAr T 0 m_all 3952 x], [zAr T 0 m_read 121 gr]]) (fun (i : Nat) (x : Nat → Int32) => [(4, .int (nI i)), (3, .int 0), (0, .ref mo), (1, .int 1), (2, .int (-1))]) (fun (i : Nat) (x : Nat → Int32) => i ≤ 121 ∧ (∀ j, j < i → x (712 + j) = gr j) ∧ (∀ j, (j < 712 ∨ 833 ≤ j) → x j = (upd ga 1 y_13) j)) (fun (i : Nat) (x : Nat → Int32) => 121 - i) ?_ 0 (upd ga 1 y_13) (show 0 ≤ 121 ∧ (∀ j, j < 0 → (upd ga 1 y_13) (712 + j) = gr j) ∧ (∀ j, (j < 712 ∨ 833 ≤ j) → (upd ga 1 y_13) j = (upd ga 1 y_13) j) from ⟨by omega, fun j hj => absurd hj (by omega), fun j _ => rfl⟩) G (lv_sub hl [0, 1, 2, 3, 4] rfl)
              intro i x hI9 ih_282 H locs ls G hl
              replace hI9 : i ≤ 121 ∧ (∀ j, j < i → x (712 + j) = gr j) ∧ (∀ j, (j < 712 ∨ 833 ≤ j) → x j = (upd ga 1 y_13) j) := hI9
              refine zAn3 hI9 ?_
              intro hi hS hO
              clear hI9
              replace G : zS T A s.heap s [[zO11 mo m_all m_has (f_all 4) xn xw xt xu xo xr xf m_read i_z0 i_crossings i_inns m_posts m_shut m_here i_steps i_done i_at i_gone m_was m_came m_seenAt m_rowWorth m_farBy m_used i_everywhere i_again0 i_d0 i_never i_firstCame i_longRun i_moved i_crowd i_l0 i_fitMany i_fitLeast i_fitMost m_fitPost m_fitEnd m_keptPosts i_x0], [zAr T 0 m_all 3952 x], [zAr T 0 m_read 121 gr]] _ _ := G
              replace hl : lv_has ls 5 [(4, .int (nI i)), (3, .int 0), (0, .ref mo), (1, .int 1), (2, .int (-1))] := hl
              refine lv_iload hx hb dX12_text_282 (lv_at hl 0 rfl) ?_
              refine lv_iload_n hx hb dX12_text_284 rfl (lv_at hl 3 rfl) ?_
              refine z_Si (bc := []) (br := [[zO11 mo m_all m_has (f_all 4) xn xw xt xu xo xr xf m_read i_z0 i_crossings i_inns m_posts m_shut m_here i_steps i_done i_at i_gone m_was m_came m_seenAt m_rowWorth m_farBy m_used i_everywhere i_again0 i_d0 i_never i_firstCame i_longRun i_moved i_crowd i_l0 i_fitMany i_fitLeast i_fitMost m_fitPost m_fitEnd m_keptPosts i_x0], [zAr T 0 m_all 3952 x], [zAr T 0 m_read 121 gr]]) (As := [.int 1]) (rest := [.int (nI i)]) C G (c_m_sizeOf1 l T) (kS_RX12_160 C.2.2.2.2 (Nat.le_of_ble_eq_true rfl) (Nat.le_of_ble_eq_true rfl)) [] [] rfl rfl rfl rfl hl.1 dX12_text_285 (Nat.le_of_ble_eq_true rfl) (Nat.le_of_ble_eq_true rfl) (fun r_15 b1 H locs hw G => ?_)
              refine zAn2 hw ?_
              intro hbs9 h_14
              clear hw
              subst hbs9
              have G : zS T A s.heap s [[zO11 mo m_all m_has (f_all 4) xn xw xt xu xo xr xf m_read i_z0 i_crossings i_inns m_posts m_shut m_here i_steps i_done i_at i_gone m_was m_came m_seenAt m_rowWorth m_farBy m_used i_everywhere i_again0 i_d0 i_never i_firstCame i_longRun i_moved i_crowd i_l0 i_fitMany i_fitLeast i_fitMost m_fitPost m_fitEnd m_keptPosts i_x0], [zAr T 0 m_all 3952 x], [zAr T 0 m_read 121 gr]] _ _ := G
              subst h_14
              refine lv_icmp_ge (tgt := 317) hx hb dX12_text_288 (by decide) (fun c_16 => ?_) (fun c_16 => ?_)
              · have c_16n : 121 ≤ i := (nI_leI (a := 121) (b := i) (by omega) (by omega)).mp c_16
                refine lv_iload_n hx hb dX12_text_317 rfl (lv_at hl 1 rfl) ?_
                exact z_back hQz_ (z_iret C hr hlocks G (Nat.le_of_ble_eq_true rfl) (Nat.le_of_ble_eq_true rfl) dX12_text_318 ⟨(f_all 4), xn, xw, xt, xu, xo, xr, xf, x, gr, rfl, (zBI_p1 0 (by decide) hB ((hO 4 (by omega)).trans (hpal 4 (by decide) (by decide))) (fun q hq => by
    rw [hO q (by omega)]
    by_cases e9 : q = 1
    · rw [show upd _ 1 _ q = _ from if_pos e9]; omega
    · rw [show upd _ 1 _ q = _ from if_neg e9, show _ = f_all q from (hpal q (by omega) (by omega)).trans (hF q (by omega) (by omega) (by omega))]; exact hB.2.1 q hq) (fun j hj hj2 => (hO j (by omega)).trans ((show upd _ 1 _ j = _ from if_neg (by omega)).trans ((hpal j (by omega) (by omega)).trans (hF j (by omega) (by omega) (by omega))))) (by first | with_reducible assumption | assumption) (fun j hj => hS j (by omega))), ((hO 4 (by omega)).trans (hpal 4 (by decide) (by decide))), (fun j hj => (hO j (by omega)).trans ((show upd _ 1 _ j = _ from if_neg (by omega)).trans ((hpal j (by omega) (by omega)).trans (hF j (by omega) (by omega) (by omega))))), (zText_k (kk := 0) (A := upd ga 1 y_13) (g := ga) (hoi.mpr (by omega)) (by rw [← hZ5]; omega) ((pNr_y hai).trans (Int32.toInt_inj.mp (by show (f_all 1).toInt = 0; omega))).symm (by rw [pNr_y hai]; show (f_all 1).toInt = 0; omega) hpal hZ5 hZ6 (by rw [pCnt_y hai, ey_13]) (by rw [hZ2]; exact fun j hj => hS j (by have hj : j < 121 := hj; omega)) (fun j hj => hO j (by have hj : j < 712 ∨ 712 + 121 ≤ j := hj; omega)))⟩)
              · have c_16n : ¬ 121 ≤ i := fun q => c_16 ((nI_leI (a := 121) (b := i) (by omega) (by omega)).mpr q)
                refine lv_aload_n hx hb dX12_text_291 rfl (lv_at hl 2 rfl) ?_
                refine z_get C G clX12 0 rfl 0 (by decide) m_fl_RX12_7 rfl dX12_text_292 ?_
                refine lv_iload_n hx hb dX12_text_295 rfl (lv_at hl 3 rfl) ?_
                refine lv_iload_n hx hb dX12_text_296 rfl (lv_at hl 1 rfl) ?_
                refine z_Si (bc := []) (br := [[zO11 mo m_all m_has (f_all 4) xn xw xt xu xo xr xf m_read i_z0 i_crossings i_inns m_posts m_shut m_here i_steps i_done i_at i_gone m_was m_came m_seenAt m_rowWorth m_farBy m_used i_everywhere i_again0 i_d0 i_never i_firstCame i_longRun i_moved i_crowd i_l0 i_fitMany i_fitLeast i_fitMost m_fitPost m_fitEnd m_keptPosts i_x0], [zAr T 0 m_all 3952 x], [zAr T 0 m_read 121 gr]]) (As := [.int 1, .int 0]) (rest := [.ref m_all]) C G (c_m_placeOf10 l T) (kS_RX12_163 C.2.2.2.2 (Nat.le_of_ble_eq_true rfl) (Nat.le_of_ble_eq_true rfl)) [] [] rfl rfl rfl rfl hl.1 dX12_text_297 (Nat.le_of_ble_eq_true rfl) (Nat.le_of_ble_eq_true rfl) (fun r_18 b1 H locs hw G => ?_)
                refine zAn2 hw ?_
                intro hbs9 h_17
                clear hw
                subst hbs9
                have G : zS T A s.heap s [[zO11 mo m_all m_has (f_all 4) xn xw xt xu xo xr xf m_read i_z0 i_crossings i_inns m_posts m_shut m_here i_steps i_done i_at i_gone m_was m_came m_seenAt m_rowWorth m_farBy m_used i_everywhere i_again0 i_d0 i_never i_firstCame i_longRun i_moved i_crowd i_l0 i_fitMany i_fitLeast i_fitMost m_fitPost m_fitEnd m_keptPosts i_x0], [zAr T 0 m_all 3952 x], [zAr T 0 m_read 121 gr]] _ _ := G
                subst h_17
                refine lv_iload hx hb dX12_text_300 (lv_at hl 0 rfl) ?_
                refine lv_iadd hx hb dX12_text_302 ?_
                refine lv_topi (fun y_19 ey_19 => ?_)
                obtain rfl : y_19 = nI (712 + i) := ey_19.trans (z_iaddn 712 i rfl rfl)
                refine lv_aload_n hx hb dX12_text_303 rfl (lv_at hl 2 rfl) ?_
                refine z_get C G clX12 0 rfl 10 (by decide) m_fl_RX12_17 rfl dX12_text_304 ?_
                refine lv_iload hx hb dX12_text_307 (lv_at hl 0 rfl) ?_
                refine z_ild C G 2 rfl (vp_in_nI (by omega) (by decide)) dX12_text_309 ?_
                refine lv_topi (fun v_20 ev_20 => ?_)
                rw [nI_clamp (by omega)] at ev_20
                subst ev_20
                refine z_ist C G 1 rfl (vp_in_nI (by omega) (by decide)) dX12_text_310 (fun H locs G => ?_)
                rw [nI_clamp (by omega)] at G
                have G : zS T A s.heap s [[zO11 mo m_all m_has (f_all 4) xn xw xt xu xo xr xf m_read i_z0 i_crossings i_inns m_posts m_shut m_here i_steps i_done i_at i_gone m_was m_came m_seenAt m_rowWorth m_farBy m_used i_everywhere i_again0 i_d0 i_never i_firstCame i_longRun i_moved i_crowd i_l0 i_fitMany i_fitLeast i_fitMost m_fitPost m_fitEnd m_keptPosts i_x0], [zAr T 0 m_all 3952 (upd x (712 + i) (gr i))], [zAr T 0 m_read 121 gr]] _ _ := G
                refine lv_iinc (v := nI (i + 1)) (lv' := [(4, .int (nI (i + 1))), (3, .int 0), (0, .ref mo), (1, .int 1), (2, .int (-1))]) hx hb dX12_text_311 hl (k := 0) rfl (z_inc i 1) (by decide) (zLvf_h rfl) (fun ls hl => ?_)
                refine lv_goto (tgt := 282) hx hb dX12_text_314 (by decide) ?_
                exact ih_282 (i + 1) (upd x (712 + i) (gr i)) (show (i + 1) ≤ 121 ∧ (∀ j, j < (i + 1) → (upd x (712 + i) (gr i)) (712 + j) = gr j) ∧ (∀ j, (j < 712 ∨ 833 ≤ j) → (upd x (712 + i) (gr i)) j = (upd ga 1 y_13) j) from ⟨by omega, z_upS hS rfl, z_upO hO (by omega)⟩) (show 121 - (i + 1) < 121 - i from by omega) _ _ ls G (lv_sub hl [0, 1, 2, 3, 4] rfl)
            · rw [show ga 1 = 1 from Int32.toInt_inj.mp hk]
              refine lv_istore_n (lv' := [(3, .int 1), (0, .ref mo), (1, .int 1), (2, .int (-1))]) hx hb dX12_text_263 rfl hl (by decide) (zLvf_h rfl) (fun ls hl => ?_)
              refine lv_iload_n hx hb dX12_text_264 rfl (lv_at hl 3 rfl) ?_
              refine lv_iconst (v := (-1)) hx hb dX12_text_265 (by decide) ?_
              refine lv_icmp_ne (tgt := 279) hx hb dX12_text_266 (by decide) (fun q => absurd rfl q) (fun _ => ?_)
              refine lv_aload_n hx hb dX12_text_269 rfl (lv_at hl 1 rfl) ?_
              refine z_get C G clX12 0 rfl 0 (by decide) m_fl_RX12_7 rfl dX12_text_270 ?_
              refine lv_iload_n hx hb dX12_text_273 rfl (lv_at hl 2 rfl) ?_
              refine lv_dup2_11 hx hb dX12_text_274 rfl rfl ?_
              refine z_ild C G 1 rfl (vp_in_nI (n := 1) (by decide) (by decide)) dX12_text_275 ?_
              refine lv_topi (fun v_21 ev_21 => ?_)
              rw [show ((1 : Int32).toNatClampNeg) = 1 from rfl] at ev_21
              subst ev_21
              refine lv_iconst (v := 1) hx hb dX12_text_276 (by decide) ?_
              refine lv_iadd hx hb dX12_text_277 ?_
              refine lv_topi (fun y_22 ey_22 => ?_)
              have ey_22i : y_22.toInt = (ga 1).toInt + (1 : Int) := by rw [ey_22]; exact z_iaddI (x := (ga 1)) (y := (1 : Int32)) (by show -2147483648 ≤ (ga 1).toInt + (1 : Int); omega) (by show (ga 1).toInt + (1 : Int) < 2147483648; omega)
              refine z_ist C G 1 rfl (vp_in_nI (n := 1) (by decide) (by decide)) dX12_text_278 (fun H locs G => ?_)
              have G : zS T A s.heap s [[zO11 mo m_all m_has (f_all 4) xn xw xt xu xo xr xf m_read i_z0 i_crossings i_inns m_posts m_shut m_here i_steps i_done i_at i_gone m_was m_came m_seenAt m_rowWorth m_farBy m_used i_everywhere i_again0 i_d0 i_never i_firstCame i_longRun i_moved i_crowd i_l0 i_fitMany i_fitLeast i_fitMost m_fitPost m_fitEnd m_keptPosts i_x0], [zAr T 0 m_all 3952 (upd ga 1 y_22)], [zAr T 0 m_read 121 gr]] _ _ := G
              refine lv_iconst (v := 0) hx hb dX12_text_279 (by decide) ?_
              refine lv_istore (lv' := [(4, .int 0), (3, .int 1), (0, .ref mo), (1, .int 1), (2, .int (-1))]) hx hb dX12_text_280 hl (by decide) (zLvf_h rfl) (fun ls hl => ?_)
              refine z_lp2 (T := T) 282 (fun (i : Nat) (x : Nat → Int32) => [[zO11 mo m_all m_has (f_all 4) xn xw xt xu xo xr xf m_read i_z0 i_crossings i_inns m_posts m_shut m_here i_steps i_done i_at i_gone m_was m_came m_seenAt m_rowWorth m_farBy m_used i_everywhere i_again0 i_d0 i_never i_firstCame i_longRun i_moved i_crowd i_l0 i_fitMany i_fitLeast i_fitMost m_fitPost m_fitEnd m_keptPosts i_x0], [zAr T 0 m_all 3952 x], [zAr T 0 m_read 121 gr]]) (fun (i : Nat) (x : Nat → Int32) => [(4, .int (nI i)), (3, .int 1), (0, .ref mo), (1, .int 1), (2, .int (-1))]) (fun (i : Nat) (x : Nat → Int32) => i ≤ 121 ∧ (∀ j, j < i → x (833 + j) = gr j) ∧ (∀ j, (j < 833 ∨ 954 ≤ j) → x j = (upd ga 1 y_22) j)) (fun (i : Nat) (x : Nat → Int32) => 121 - i) ?_ 0 (upd ga 1 y_22) (show 0 ≤ 121 ∧ (∀ j, j < 0 → (upd ga 1 y_22) (833 + j) = gr j) ∧ (∀ j, (j < 833 ∨ 954 ≤ j) → (upd ga 1 y_22) j = (upd ga 1 y_22) j) from ⟨by omega, fun j hj => absurd hj (by omega), fun j _ => rfl⟩) G (lv_sub hl [0, 1, 2, 3, 4] rfl)
              intro i x hI9 ih_282 H locs ls G hl
              replace hI9 : i ≤ 121 ∧ (∀ j, j < i → x (833 + j) = gr j) ∧ (∀ j, (j < 833 ∨ 954 ≤ j) → x j = (upd ga 1 y_22) j) := hI9
              refine zAn3 hI9 ?_
              intro hi hS hO
              clear hI9
              replace G : zS T A s.heap s [[zO11 mo m_all m_has (f_all 4) xn xw xt xu xo xr xf m_read i_z0 i_crossings i_inns m_posts m_shut m_here i_steps i_done i_at i_gone m_was m_came m_seenAt m_rowWorth m_farBy m_used i_everywhere i_again0 i_d0 i_never i_firstCame i_longRun i_moved i_crowd i_l0 i_fitMany i_fitLeast i_fitMost m_fitPost m_fitEnd m_keptPosts i_x0], [zAr T 0 m_all 3952 x], [zAr T 0 m_read 121 gr]] _ _ := G
              replace hl : lv_has ls 5 [(4, .int (nI i)), (3, .int 1), (0, .ref mo), (1, .int 1), (2, .int (-1))] := hl
              refine lv_iload hx hb dX12_text_282 (lv_at hl 0 rfl) ?_
              refine lv_iload_n hx hb dX12_text_284 rfl (lv_at hl 3 rfl) ?_
              refine z_Si (bc := []) (br := [[zO11 mo m_all m_has (f_all 4) xn xw xt xu xo xr xf m_read i_z0 i_crossings i_inns m_posts m_shut m_here i_steps i_done i_at i_gone m_was m_came m_seenAt m_rowWorth m_farBy m_used i_everywhere i_again0 i_d0 i_never i_firstCame i_longRun i_moved i_crowd i_l0 i_fitMany i_fitLeast i_fitMost m_fitPost m_fitEnd m_keptPosts i_x0], [zAr T 0 m_all 3952 x], [zAr T 0 m_read 121 gr]]) (As := [.int 1]) (rest := [.int (nI i)]) C G (c_m_sizeOf1 l T) (kS_RX12_160 C.2.2.2.2 (Nat.le_of_ble_eq_true rfl) (Nat.le_of_ble_eq_true rfl)) [] [] rfl rfl rfl rfl hl.1 dX12_text_285 (Nat.le_of_ble_eq_true rfl) (Nat.le_of_ble_eq_true rfl) (fun r_24 b1 H locs hw G => ?_)
              refine zAn2 hw ?_
              intro hbs9 h_23
              clear hw
              subst hbs9
              have G : zS T A s.heap s [[zO11 mo m_all m_has (f_all 4) xn xw xt xu xo xr xf m_read i_z0 i_crossings i_inns m_posts m_shut m_here i_steps i_done i_at i_gone m_was m_came m_seenAt m_rowWorth m_farBy m_used i_everywhere i_again0 i_d0 i_never i_firstCame i_longRun i_moved i_crowd i_l0 i_fitMany i_fitLeast i_fitMost m_fitPost m_fitEnd m_keptPosts i_x0], [zAr T 0 m_all 3952 x], [zAr T 0 m_read 121 gr]] _ _ := G
              subst h_23
              refine lv_icmp_ge (tgt := 317) hx hb dX12_text_288 (by decide) (fun c_25 => ?_) (fun c_25 => ?_)
              · have c_25n : 121 ≤ i := (nI_leI (a := 121) (b := i) (by omega) (by omega)).mp c_25
                refine lv_iload_n hx hb dX12_text_317 rfl (lv_at hl 1 rfl) ?_
                exact z_back hQz_ (z_iret C hr hlocks G (Nat.le_of_ble_eq_true rfl) (Nat.le_of_ble_eq_true rfl) dX12_text_318 ⟨(f_all 4), xn, xw, xt, xu, xo, xr, xf, x, gr, rfl, (zBI_p1 1 (by decide) hB ((hO 4 (by omega)).trans (hpal 4 (by decide) (by decide))) (fun q hq => by
    rw [hO q (by omega)]
    by_cases e9 : q = 1
    · rw [show upd _ 1 _ q = _ from if_pos e9]; omega
    · rw [show upd _ 1 _ q = _ from if_neg e9, show _ = f_all q from (hpal q (by omega) (by omega)).trans (hF q (by omega) (by omega) (by omega))]; exact hB.2.1 q hq) (fun j hj hj2 => (hO j (by omega)).trans ((show upd _ 1 _ j = _ from if_neg (by omega)).trans ((hpal j (by omega) (by omega)).trans (hF j (by omega) (by omega) (by omega))))) (by first | with_reducible assumption | assumption) (fun j hj => hS j (by omega))), ((hO 4 (by omega)).trans (hpal 4 (by decide) (by decide))), (fun j hj => (hO j (by omega)).trans ((show upd _ 1 _ j = _ from if_neg (by omega)).trans ((hpal j (by omega) (by omega)).trans (hF j (by omega) (by omega) (by omega))))), (zText_k (kk := 1) (A := upd ga 1 y_22) (g := ga) (hoi.mpr (by omega)) (by rw [← hZ5]; omega) ((pNr_y hai).trans (Int32.toInt_inj.mp (by show (f_all 1).toInt = 1; omega))).symm (by rw [pNr_y hai]; show (f_all 1).toInt = 1; omega) hpal hZ5 hZ6 (by rw [pCnt_y hai, ey_22]) (by rw [hZ2]; exact fun j hj => hS j (by have hj : j < 121 := hj; omega)) (fun j hj => hO j (by have hj : j < 833 ∨ 833 + 121 ≤ j := hj; omega)))⟩)
              · have c_25n : ¬ 121 ≤ i := fun q => c_25 ((nI_leI (a := 121) (b := i) (by omega) (by omega)).mpr q)
                refine lv_aload_n hx hb dX12_text_291 rfl (lv_at hl 2 rfl) ?_
                refine z_get C G clX12 0 rfl 0 (by decide) m_fl_RX12_7 rfl dX12_text_292 ?_
                refine lv_iload_n hx hb dX12_text_295 rfl (lv_at hl 3 rfl) ?_
                refine lv_iload_n hx hb dX12_text_296 rfl (lv_at hl 1 rfl) ?_
                refine z_Si (bc := []) (br := [[zO11 mo m_all m_has (f_all 4) xn xw xt xu xo xr xf m_read i_z0 i_crossings i_inns m_posts m_shut m_here i_steps i_done i_at i_gone m_was m_came m_seenAt m_rowWorth m_farBy m_used i_everywhere i_again0 i_d0 i_never i_firstCame i_longRun i_moved i_crowd i_l0 i_fitMany i_fitLeast i_fitMost m_fitPost m_fitEnd m_keptPosts i_x0], [zAr T 0 m_all 3952 x], [zAr T 0 m_read 121 gr]]) (As := [.int 1, .int 1]) (rest := [.ref m_all]) C G (c_m_placeOf11 l T) (kS_RX12_163 C.2.2.2.2 (Nat.le_of_ble_eq_true rfl) (Nat.le_of_ble_eq_true rfl)) [] [] rfl rfl rfl rfl hl.1 dX12_text_297 (Nat.le_of_ble_eq_true rfl) (Nat.le_of_ble_eq_true rfl) (fun r_27 b1 H locs hw G => ?_)
                refine zAn2 hw ?_
                intro hbs9 h_26
                clear hw
                subst hbs9
                have G : zS T A s.heap s [[zO11 mo m_all m_has (f_all 4) xn xw xt xu xo xr xf m_read i_z0 i_crossings i_inns m_posts m_shut m_here i_steps i_done i_at i_gone m_was m_came m_seenAt m_rowWorth m_farBy m_used i_everywhere i_again0 i_d0 i_never i_firstCame i_longRun i_moved i_crowd i_l0 i_fitMany i_fitLeast i_fitMost m_fitPost m_fitEnd m_keptPosts i_x0], [zAr T 0 m_all 3952 x], [zAr T 0 m_read 121 gr]] _ _ := G
                subst h_26
                refine lv_iload hx hb dX12_text_300 (lv_at hl 0 rfl) ?_
                refine lv_iadd hx hb dX12_text_302 ?_
                refine lv_topi (fun y_28 ey_28 => ?_)
                obtain rfl : y_28 = nI (833 + i) := ey_28.trans (z_iaddn 833 i rfl rfl)
                refine lv_aload_n hx hb dX12_text_303 rfl (lv_at hl 2 rfl) ?_
                refine z_get C G clX12 0 rfl 10 (by decide) m_fl_RX12_17 rfl dX12_text_304 ?_
                refine lv_iload hx hb dX12_text_307 (lv_at hl 0 rfl) ?_
                refine z_ild C G 2 rfl (vp_in_nI (by omega) (by decide)) dX12_text_309 ?_
                refine lv_topi (fun v_29 ev_29 => ?_)
                rw [nI_clamp (by omega)] at ev_29
                subst ev_29
                refine z_ist C G 1 rfl (vp_in_nI (by omega) (by decide)) dX12_text_310 (fun H locs G => ?_)
                rw [nI_clamp (by omega)] at G
                have G : zS T A s.heap s [[zO11 mo m_all m_has (f_all 4) xn xw xt xu xo xr xf m_read i_z0 i_crossings i_inns m_posts m_shut m_here i_steps i_done i_at i_gone m_was m_came m_seenAt m_rowWorth m_farBy m_used i_everywhere i_again0 i_d0 i_never i_firstCame i_longRun i_moved i_crowd i_l0 i_fitMany i_fitLeast i_fitMost m_fitPost m_fitEnd m_keptPosts i_x0], [zAr T 0 m_all 3952 (upd x (833 + i) (gr i))], [zAr T 0 m_read 121 gr]] _ _ := G
                refine lv_iinc (v := nI (i + 1)) (lv' := [(4, .int (nI (i + 1))), (3, .int 1), (0, .ref mo), (1, .int 1), (2, .int (-1))]) hx hb dX12_text_311 hl (k := 0) rfl (z_inc i 1) (by decide) (zLvf_h rfl) (fun ls hl => ?_)
                refine lv_goto (tgt := 282) hx hb dX12_text_314 (by decide) ?_
                exact ih_282 (i + 1) (upd x (833 + i) (gr i)) (show (i + 1) ≤ 121 ∧ (∀ j, j < (i + 1) → (upd x (833 + i) (gr i)) (833 + j) = gr j) ∧ (∀ j, (j < 833 ∨ 954 ≤ j) → (upd x (833 + i) (gr i)) j = (upd ga 1 y_22) j) from ⟨by omega, z_upS hS rfl, z_upO hO (by omega)⟩) (show 121 - (i + 1) < 121 - i from by omega) _ _ ls G (lv_sub hl [0, 1, 2, 3, 4] rfl)
          · have c_10n : ¬ (ga 5).toInt = (0 : Int) := fun q => c_10 ((fa_eq _ _).mpr q)
            refine lv_iconst (v := (-1)) hx hb dX12_text_246 (by decide) ?_
            exact z_back hQz_ (z_iret C hr hlocks G (Nat.le_of_ble_eq_true rfl) (Nat.le_of_ble_eq_true rfl) dX12_text_247 ⟨(f_all 4), xn, xw, xt, xu, xo, xr, xf, ga, gr, rfl, (zBI_hd hB (hpal 4 (by decide) (by decide)) (fun q hq => by rw [show _ = f_all q from (hpal q (by omega) (by omega)).trans (hF q (by omega) (by omega) (by omega))]; exact hB.2.1 q hq) (fun j hj => (hpal j (by omega) (by omega)).trans (hF j (by omega) (by omega) (by omega)))), (hpal 4 (by decide) (by decide)), (fun j hj => (hpal j (by omega) (by omega)).trans (hF j (by omega) (by omega) (by omega))), (zText_f (hoi.mpr (by omega)) (by rw [← hZ5]; omega) hpal hZ5 hZ6)⟩)
        refine lv_iconst (v := 0) hx hb dX12_text_86 (by decide) ?_
        refine lv_istore_n (lv' := [(3, .int 0), (0, .ref mo), (1, .int 1), (2, .int (-1))]) hx hb dX12_text_87 rfl hl (by decide) (zLvf_h rfl) (fun ls hl => ?_)
        refine z_lp2 (T := T) 88 (fun (k_ : Nat) (z : Nat → Int32) => [[zO11 mo m_all m_has (f_all 4) 0 i_where i_token i_number i_word 0 (-1) m_read i_z0 i_crossings i_inns m_posts m_shut m_here i_steps i_done i_at i_gone m_was m_came m_seenAt m_rowWorth m_farBy m_used i_everywhere i_again0 i_d0 i_never i_firstCame i_longRun i_moved i_crowd i_l0 i_fitMany i_fitLeast i_fitMost m_fitPost m_fitEnd m_keptPosts i_x0], [zAr T 0 m_all 3952 (upd (upd (upd f_all 4 0) 5 0) 6 (-1))], [zAr T 0 m_read 121 z]]) (fun (k_ : Nat) (z : Nat → Int32) => [(3, .int (nI k_)), (0, .ref mo), (1, .int 1), (2, .int (-1))]) (fun (k_ : Nat) (z : Nat → Int32) => k_ ≤ 121 ∧ (∀ j, j < k_ → z j = 0)) (fun (k_ : Nat) (z : Nat → Int32) => 121 - k_) ?_ 0 f_read (show 0 ≤ 121 ∧ (∀ j, j < 0 → f_read j = 0) from ⟨by omega, fun j hj => absurd hj (by omega)⟩) G (lv_sub hl [0, 1, 2, 3] rfl)
        intro k_ z hI9 ih_88 H locs ls G hl
        replace hI9 : k_ ≤ 121 ∧ (∀ j, j < k_ → z j = 0) := hI9
        refine zAn2 hI9 ?_
        intro hk_ hZ
        clear hI9
        replace G : zS T A s.heap s [[zO11 mo m_all m_has (f_all 4) 0 i_where i_token i_number i_word 0 (-1) m_read i_z0 i_crossings i_inns m_posts m_shut m_here i_steps i_done i_at i_gone m_was m_came m_seenAt m_rowWorth m_farBy m_used i_everywhere i_again0 i_d0 i_never i_firstCame i_longRun i_moved i_crowd i_l0 i_fitMany i_fitLeast i_fitMost m_fitPost m_fitEnd m_keptPosts i_x0], [zAr T 0 m_all 3952 (upd (upd (upd f_all 4 0) 5 0) 6 (-1))], [zAr T 0 m_read 121 z]] _ _ := G
        replace hl : lv_has ls 5 [(3, .int (nI k_)), (0, .ref mo), (1, .int 1), (2, .int (-1))] := hl
        refine lv_iload_n hx hb dX12_text_88 rfl (lv_at hl 0 rfl) ?_
        refine lv_bipush (v := 121) hx hb dX12_text_89 (by decide) ?_
        refine lv_icmp_ge (tgt := 107) hx hb dX12_text_91 (by decide) (fun c_30 => ?_) (fun c_30 => ?_)
        · have c_30n : 121 ≤ k_ := (nI_leI (a := 121) (b := k_) (by omega) (by omega)).mp c_30
          have G := z_cg G 2 rfl (fun _ => 0) (fun j hj => hZ j (by omega))
          have G : zS T A s.heap s [[zO11 mo m_all m_has (f_all 4) 0 i_where i_token i_number i_word 0 (-1) m_read i_z0 i_crossings i_inns m_posts m_shut m_here i_steps i_done i_at i_gone m_was m_came m_seenAt m_rowWorth m_farBy m_used i_everywhere i_again0 i_d0 i_never i_firstCame i_longRun i_moved i_crowd i_l0 i_fitMany i_fitLeast i_fitMost m_fitPost m_fitEnd m_keptPosts i_x0], [zAr T 0 m_all 3952 (upd (upd (upd f_all 4 0) 5 0) 6 (-1))], [zAr T 0 m_read 121 (fun _ => 0)]] _ _ := G
          refine lv_aload_n hx hb dX12_text_107 rfl (lv_at hl 1 rfl) ?_
          refine z_Vv (bc := [[zO11 mo m_all m_has (f_all 4) 0 i_where i_token i_number i_word 0 (-1) m_read i_z0 i_crossings i_inns m_posts m_shut m_here i_steps i_done i_at i_gone m_was m_came m_seenAt m_rowWorth m_farBy m_used i_everywhere i_again0 i_d0 i_never i_firstCame i_longRun i_moved i_crowd i_l0 i_fitMany i_fitLeast i_fitMost m_fitPost m_fitEnd m_keptPosts i_x0], [zAr T 0 m_all 3952 (upd (upd (upd f_all 4 0) 5 0) 6 (-1))]]) (br := [[zAr T 0 m_read 121 (fun _ => 0)]]) (As := []) (rest := []) C G (c_fm_advance l T mo m_all m_has (f_all 4) 0 i_where i_token i_number i_word 0 (-1) m_read i_z0 i_crossings i_inns m_posts m_shut m_here i_steps i_done i_at i_gone m_was m_came m_seenAt m_rowWorth m_farBy m_used i_everywhere i_again0 i_d0 i_never i_firstCame i_longRun i_moved i_crowd i_l0 i_fitMany i_fitLeast i_fitMost m_fitPost m_fitEnd m_keptPosts i_x0 (upd (upd (upd f_all 4 0) 5 0) 6 (-1)) 0 N k hsN rfl (Nat.zero_le _) hN6 (hk.trans (congrArg (fun q9 => tkT q9 N) (funext fun j => ((z_ne (by omega)).trans ((z_ne (by omega)).trans (z_ne (by omega)))).symm))) (fun j hj => by rw [z_ne (by omega), z_ne (by omega), z_ne (by omega)]; exact hby j hj)) (kV_RX12_119 C.2.2.2.2 (Nat.le_of_ble_eq_true rfl) (Nat.le_of_ble_eq_true rfl)) [0, 1] [0, 0] rfl rfl (ci := 11) (qc := (RX12, TX12, 43)) rfl rfl (List.mem_flatten.mpr ⟨_, List.mem_of_getElem? (i := 0) rfl, List.mem_cons_self⟩) rfl rfl hl.1 dX12_text_108 (Nat.le_of_ble_eq_true rfl) (Nat.le_of_ble_eq_true rfl) (fun b1 H locs hw G => ?_)
          refine zEx5 hw ?_
          intro j_next_31 j_where_32 j_token_33 j_number_34 j_word_35
          refine zCu8 ?_
          intro hbs9 h_36 h_37 h_38 h_39 h_40 h_41 h_42
          clear hw
          subst hbs9
          have G : zS T A s.heap s [[zAr T 0 m_read 121 (fun _ => 0)], [zO11 mo m_all m_has (f_all 4) j_next_31 j_where_32 j_token_33 j_number_34 j_word_35 0 (-1) m_read i_z0 i_crossings i_inns m_posts m_shut m_here i_steps i_done i_at i_gone m_was m_came m_seenAt m_rowWorth m_farBy m_used i_everywhere i_again0 i_d0 i_never i_firstCame i_longRun i_moved i_crowd i_l0 i_fitMany i_fitLeast i_fitMost m_fitPost m_fitEnd m_keptPosts i_x0], [zAr T 0 m_all 3952 (upd (upd (upd f_all 4 0) 5 0) 6 (-1))]] _ _ := G
          have h_38 : (0 : Int) ≤ j_next_31.toInt := h_38
          have h_39 : (j_token_33.toInt = 0 ∨ (0 : Int) < j_next_31.toInt) := h_39
          refine z_lp11 (T := T) 111 (fun (xn : Int32) (xw : Int32) (xt : Int32) (xu : Int32) (xo : Int32) (xr : Int32) (xf : Int32) (ga : Nat → Int32) (gr : Nat → Int32) (A9 : pS) (j : Nat) => [[zAr T 0 m_read 121 gr], [zO11 mo m_all m_has (f_all 4) xn xw xt xu xo xr xf m_read i_z0 i_crossings i_inns m_posts m_shut m_here i_steps i_done i_at i_gone m_was m_came m_seenAt m_rowWorth m_farBy m_used i_everywhere i_again0 i_d0 i_never i_firstCame i_longRun i_moved i_crowd i_l0 i_fitMany i_fitLeast i_fitMost m_fitPost m_fitEnd m_keptPosts i_x0], [zAr T 0 m_all 3952 ga]]) (fun (xn : Int32) (xw : Int32) (xt : Int32) (xu : Int32) (xo : Int32) (xr : Int32) (xf : Int32) (ga : Nat → Int32) (gr : Nat → Int32) (A9 : pS) (j : Nat) => [(0, .ref mo), (1, .int 1), (2, .int (-1))]) (fun (xn : Int32) (xw : Int32) (xt : Int32) (xu : Int32) (xo : Int32) (xr : Int32) (xf : Int32) (ga : Nat → Int32) (gr : Nat → Int32) (A9 : pS) (j : Nat) => zCF 40 gr ∧ 0 ≤ xn.toInt ∧ xn.toInt ≤ (f_all 4).toInt ∧ zPal (upd (upd (upd f_all 4 0) 5 0) 6 (-1)) ga ∧ zRr k N (f_all 4) xn xw xt xu xo xr xf ga A9 ∧ pLines k 1 (601 - j) A9 gr = pLines k 1 601 (0, 0, 0, -1, -1) (fun _ => 0) ∧ (¬ xr.toInt = 0 ∨ xt.toInt = 0 ∨ (j : Int) < xn.toInt)) (fun (xn : Int32) (xw : Int32) (xt : Int32) (xu : Int32) (xo : Int32) (xr : Int32) (xf : Int32) (ga : Nat → Int32) (gr : Nat → Int32) (A9 : pS) (j : Nat) => zMu xr xt xn (f_all 4)) ?_ j_next_31 j_where_32 j_token_33 j_number_34 j_word_35 0 (-1) (upd (upd (upd f_all 4 0) 5 0) 6 (-1)) (fun _ => 0) (0, 0, 0, -1, -1) 0 (show zCF 40 (fun _ => 0) ∧ 0 ≤ j_next_31.toInt ∧ j_next_31.toInt ≤ (f_all 4).toInt ∧ zPal (upd (upd (upd f_all 4 0) 5 0) 6 (-1)) (upd (upd (upd f_all 4 0) 5 0) 6 (-1)) ∧ zRr k N (f_all 4) j_next_31 j_where_32 j_token_33 j_number_34 j_word_35 0 (-1) (upd (upd (upd f_all 4 0) 5 0) 6 (-1)) (0, 0, 0, -1, -1) ∧ pLines k 1 (601 - 0) (0, 0, 0, -1, -1) (fun _ => 0) = pLines k 1 601 (0, 0, 0, -1, -1) (fun _ => 0) ∧ (¬ (0 : Int32).toInt = 0 ∨ j_token_33.toInt = 0 ∨ (0 : Int) < j_next_31.toInt) from ⟨(zCF_z (by decide) (fun j hj => rfl)), by omega, by omega, (zPal_rf _), (zRr_st hk hby hN6 hsN h_42), rfl, by omega⟩) G (lv_sub hl [1, 2, 3] rfl)
          intro xn xw xt xu xo xr xf ga gr A9 j hI9 ih_111 H locs ls G hl
          replace hI9 : zCF 40 gr ∧ 0 ≤ xn.toInt ∧ xn.toInt ≤ (f_all 4).toInt ∧ zPal (upd (upd (upd f_all 4 0) 5 0) 6 (-1)) ga ∧ zRr k N (f_all 4) xn xw xt xu xo xr xf ga A9 ∧ pLines k 1 (601 - j) A9 gr = pLines k 1 601 (0, 0, 0, -1, -1) (fun _ => 0) ∧ (¬ xr.toInt = 0 ∨ xt.toInt = 0 ∨ (j : Int) < xn.toInt) := hI9
          refine zAn7 hI9 ?_
          intro hL hx1 hx2 hpal hRA hEq hpj
          clear hI9
          replace G : zS T A s.heap s [[zAr T 0 m_read 121 gr], [zO11 mo m_all m_has (f_all 4) xn xw xt xu xo xr xf m_read i_z0 i_crossings i_inns m_posts m_shut m_here i_steps i_done i_at i_gone m_was m_came m_seenAt m_rowWorth m_farBy m_used i_everywhere i_again0 i_d0 i_never i_firstCame i_longRun i_moved i_crowd i_l0 i_fitMany i_fitLeast i_fitMost m_fitPost m_fitEnd m_keptPosts i_x0], [zAr T 0 m_all 3952 ga]] _ _ := G
          replace hl : lv_has ls 5 [(0, .ref mo), (1, .int 1), (2, .int (-1))] := hl
          refine lv_aload_n hx hb dX12_text_111 rfl (lv_at hl 0 rfl) ?_
          have hokA := zRr_ok hRA
          refine zAn6 (id hRA) ?_
          intro hA1A hA6A hA7A hA8A hA9A hA10A
          replace hA7A : zHd _ := hA7A
          have hkaA : zHd _ := hokA A9.1 hA1A.2.2.2.2
          have hkbA := hkaA.1
          have hkcA := hkaA.2.1
          have hT4A := pTk_le hokA hA1A.2.2.2.2
          refine z_get C G clX12 1 rfl 8 (by decide) m_fl_RX12_104 rfl dX12_text_112 ?_
          refine lv_if_ne (tgt := 173) hx hb dX12_text_115 (by decide) (fun c_44 => ?_) (fun c_44 => ?_)
          · have c_44n : ¬ xr.toInt = (0 : Int) := fun q => c_44 ((fa_eq _ _).mpr q)
            have hX := hEq.symm.trans (pLines_x (fun z9 => by first | (exact absurd z9.1 (by rw [← hA6A]; omega)) | (exact z9.2 (by omega))))
            have hRd := pRead_e (n := N) hX
            have hww : zHd (A9.2.1.toInt = 0 → xw = nI N) := fun z9 => by first | (exact absurd z9 (by rw [← hA6A]; omega)) | (rw [t2A, hkaA.2.2.1 (pTk_0.mp (by omega))])
            refine lv_iload_n hx hb dX12_text_173 rfl (lv_at hl 1 rfl) ?_
            refine lv_if_ne (tgt := 208) hx hb dX12_text_174 (by decide) (fun _ => ?_) (fun q => absurd q (by decide))
            refine lv_iload_n hx hb dX12_text_208 rfl (lv_at hl 1 rfl) ?_
            refine lv_if_ne (tgt := 237) hx hb dX12_text_209 (by decide) (fun _ => ?_) (fun q => absurd q (by decide))
            have hZ1 : zRr k N (f_all 4) xn xw xt xu xo xr xf ga (pRead k N 1).1 := by rw [hRd, pFin_s (by decide)]; exact hRA
            have hZ2 : (pRead k N 1).2 = gr := by rw [hRd, pFin_s (by decide)]
            have hZ5 := hZ1.2.2.2.1
            have hZ6 := hZ1.2.2.2.2.1
            have hZ5i := congrArg Int32.toInt hZ5
            have G := G.sub (bs' := [[zO11 mo m_all m_has (f_all 4) xn xw xt xu xo xr xf m_read i_z0 i_crossings i_inns m_posts m_shut m_here i_steps i_done i_at i_gone m_was m_came m_seenAt m_rowWorth m_farBy m_used i_everywhere i_again0 i_d0 i_never i_firstCame i_longRun i_moved i_crowd i_l0 i_fitMany i_fitLeast i_fitMost m_fitPost m_fitEnd m_keptPosts i_x0], [zAr T 0 m_all 3952 ga], [zAr T 0 m_read 121 gr]]) [1, 2, 0] rfl
            exact jn_237 xn xw xt xu xo xr xf ga gr (show zCF 40 gr ∧ zPal (upd (upd (upd f_all 4 0) 5 0) 6 (-1)) ga ∧ zRr k N (f_all 4) xn xw xt xu xo xr xf ga (pRead k N 1).1 ∧ (pRead k N 1).2 = gr from ⟨(by first | with_reducible assumption | assumption), hpal, hZ1, hZ2⟩) _ _ ls G (lv_sub hl [0, 1, 2] rfl)
          · have c_44n : xr.toInt = (0 : Int) := (fa_eq _ _).mp c_44
            have hwA : A9.2.1.toInt = 0 := by rw [← hA6A]; omega
            refine zAn5 (hA7A hwA) ?_
            intro t1A t2A t3A t4A t5A
            replace t4A : zHd _ := t4A
            replace t5A : zHd _ := t5A
            have t3iA : xt.toInt = (pTk k A9.1 : Int) := by rw [t3A]; exact nI_toInt (by omega)
            refine lv_aload_n hx hb dX12_text_118 rfl (lv_at hl 0 rfl) ?_
            refine z_get C G clX12 1 rfl 5 (by decide) m_fl_RX12_80 rfl dX12_text_119 ?_
            refine lv_if_eq (tgt := 173) hx hb dX12_text_122 (by decide) (fun c_45 => ?_) (fun c_45 => ?_)
            · have c_45n : xt.toInt = (0 : Int) := (fa_eq _ _).mp c_45
              have hX := hEq.symm.trans (pLines_x (fun z9 => by first | (exact absurd z9.1 (by rw [← hA6A]; omega)) | (exact z9.2 (by omega))))
              have hRd := pRead_e (n := N) hX
              have hww : zHd (A9.2.1.toInt = 0 → xw = nI N) := fun z9 => by first | (exact absurd z9 (by rw [← hA6A]; omega)) | (rw [t2A, hkaA.2.2.1 (pTk_0.mp (by omega))])
              refine lv_iload_n hx hb dX12_text_173 rfl (lv_at hl 1 rfl) ?_
              refine lv_if_ne (tgt := 208) hx hb dX12_text_174 (by decide) (fun _ => ?_) (fun q => absurd q (by decide))
              refine lv_iload_n hx hb dX12_text_208 rfl (lv_at hl 1 rfl) ?_
              refine lv_if_ne (tgt := 237) hx hb dX12_text_209 (by decide) (fun _ => ?_) (fun q => absurd q (by decide))
              have hZ1 : zRr k N (f_all 4) xn xw xt xu xo xr xf ga (pRead k N 1).1 := by rw [hRd, pFin_s (by decide)]; exact hRA
              have hZ2 : (pRead k N 1).2 = gr := by rw [hRd, pFin_s (by decide)]
              have hZ5 := hZ1.2.2.2.1
              have hZ6 := hZ1.2.2.2.2.1
              have hZ5i := congrArg Int32.toInt hZ5
              have G := G.sub (bs' := [[zO11 mo m_all m_has (f_all 4) xn xw xt xu xo xr xf m_read i_z0 i_crossings i_inns m_posts m_shut m_here i_steps i_done i_at i_gone m_was m_came m_seenAt m_rowWorth m_farBy m_used i_everywhere i_again0 i_d0 i_never i_firstCame i_longRun i_moved i_crowd i_l0 i_fitMany i_fitLeast i_fitMost m_fitPost m_fitEnd m_keptPosts i_x0], [zAr T 0 m_all 3952 ga], [zAr T 0 m_read 121 gr]]) [1, 2, 0] rfl
              exact jn_237 xn xw xt xu xo xr xf ga gr (show zCF 40 gr ∧ zPal (upd (upd (upd f_all 4 0) 5 0) 6 (-1)) ga ∧ zRr k N (f_all 4) xn xw xt xu xo xr xf ga (pRead k N 1).1 ∧ (pRead k N 1).2 = gr from ⟨(by first | with_reducible assumption | assumption), hpal, hZ1, hZ2⟩) _ _ ls G (lv_sub hl [0, 1, 2] rfl)
            · have c_45n : ¬ xt.toInt = (0 : Int) := fun q => c_45 ((fa_eq _ _).mpr q)
              have htA : ¬ pTk k A9.1 = 0 := by omega
              refine lv_iload_n hx hb dX12_text_125 rfl (lv_at hl 1 rfl) ?_
              refine lv_lookup (tgt := 159) hx hb dX12_text_126 (by decide) rfl (by decide) ?_
              refine lv_aload_n hx hb dX12_text_159 rfl (lv_at hl 0 rfl) ?_
              refine z_Vv (bc := [[zO11 mo m_all m_has (f_all 4) xn xw xt xu xo xr xf m_read i_z0 i_crossings i_inns m_posts m_shut m_here i_steps i_done i_at i_gone m_was m_came m_seenAt m_rowWorth m_farBy m_used i_everywhere i_again0 i_d0 i_never i_firstCame i_longRun i_moved i_crowd i_l0 i_fitMany i_fitLeast i_fitMost m_fitPost m_fitEnd m_keptPosts i_x0], [zAr T 0 m_all 3952 ga], [zAr T 0 m_read 121 gr]]) (br := []) (As := []) (rest := []) C G (c_fm_dayLine l T mo m_all m_has (f_all 4) xn xw xt xu xo xr xf m_read i_z0 i_crossings i_inns m_posts m_shut m_here i_steps i_done i_at i_gone m_was m_came m_seenAt m_rowWorth m_farBy m_used i_everywhere i_again0 i_d0 i_never i_firstCame i_longRun i_moved i_crowd i_l0 i_fitMany i_fitLeast i_fitMost m_fitPost m_fitEnd m_keptPosts i_x0 ga gr k N A9 (by first | with_reducible assumption | with_reducible rfl | omega | assumption | rfl) (by first | with_reducible assumption | with_reducible rfl | omega | assumption | rfl) (by first | with_reducible assumption | with_reducible rfl | omega | assumption | rfl) (by first | with_reducible assumption | with_reducible rfl | omega | assumption | rfl) hRA hwA) (kV_RX12_150 C.2.2.2.2 (Nat.le_of_ble_eq_true rfl) (Nat.le_of_ble_eq_true rfl)) [1, 2, 0] [0, 0, 0] rfl rfl (ci := 11) (qc := (RX12, TX12, 43)) rfl rfl (List.mem_flatten.mpr ⟨_, List.mem_of_getElem? (i := 0) rfl, List.mem_cons_self⟩) rfl rfl hl.1 dX12_text_160 (Nat.le_of_ble_eq_true rfl) (Nat.le_of_ble_eq_true rfl) (fun b1 H locs hw G => ?_)
              refine zEx8 hw ?_
              intro j_next_46 j_where_47 j_token_48 j_number_49 j_word_50 j_wrong_51 g_all_52 g_read_53
              refine zCu9 ?_
              intro hbs9 h_54 h_55 h_56 h_57 h_58 h_59 h_60 h_61
              clear hw
              subst hbs9
              have G : zS T A s.heap s [[zO11 mo m_all m_has (f_all 4) j_next_46 j_where_47 j_token_48 j_number_49 j_word_50 j_wrong_51 xf m_read i_z0 i_crossings i_inns m_posts m_shut m_here i_steps i_done i_at i_gone m_was m_came m_seenAt m_rowWorth m_farBy m_used i_everywhere i_again0 i_d0 i_never i_firstCame i_longRun i_moved i_crowd i_l0 i_fitMany i_fitLeast i_fitMost m_fitPost m_fitEnd m_keptPosts i_x0], [zAr T 0 m_all 3952 g_all_52], [zAr T 0 m_read 121 g_read_53]] _ _ := G
              have hnR : zRr k N (f_all 4) j_next_46 j_where_47 j_token_48 j_number_49 j_word_50 j_wrong_51 xf g_all_52 (pLine k 1 A9 gr).1 := by rw [pLine_1]; exact h_60
              have hnG : g_read_53 = (pLine k 1 A9 gr).2 := by rw [pLine_1]; exact h_61
              refine lv_goto (tgt := 111) hx hb dX12_text_163 (by decide) ?_
              have G := G.sub (bs' := [[zAr T 0 m_read 121 g_read_53], [zO11 mo m_all m_has (f_all 4) j_next_46 j_where_47 j_token_48 j_number_49 j_word_50 j_wrong_51 xf m_read i_z0 i_crossings i_inns m_posts m_shut m_here i_steps i_done i_at i_gone m_was m_came m_seenAt m_rowWorth m_farBy m_used i_everywhere i_again0 i_d0 i_never i_firstCame i_longRun i_moved i_crowd i_l0 i_fitMany i_fitLeast i_fitMost m_fitPost m_fitEnd m_keptPosts i_x0], [zAr T 0 m_all 3952 g_all_52]]) [2, 0, 1] rfl
              exact ih_111 j_next_46 j_where_47 j_token_48 j_number_49 j_word_50 j_wrong_51 xf g_all_52 g_read_53 ((pLine k 1 A9 gr).1) (j + 1) (show zCF 40 g_read_53 ∧ 0 ≤ j_next_46.toInt ∧ j_next_46.toInt ≤ (f_all 4).toInt ∧ zPal (upd (upd (upd f_all 4 0) 5 0) 6 (-1)) g_all_52 ∧ zRr k N (f_all 4) j_next_46 j_where_47 j_token_48 j_number_49 j_word_50 j_wrong_51 xf g_all_52 ((pLine k 1 A9 gr).1) ∧ pLines k 1 (601 - (j + 1)) ((pLine k 1 A9 gr).1) g_read_53 = pLines k 1 601 (0, 0, 0, -1, -1) (fun _ => 0) ∧ (¬ j_wrong_51.toInt = 0 ∨ j_token_48.toInt = 0 ∨ ((j + 1) : Int) < j_next_46.toInt) from ⟨(by first | with_reducible assumption | assumption), by omega, by omega, (hpal.tr h_58), hnR, (by rw [hnG]; exact pLines_n (by omega) hwA htA hEq), by omega⟩) (show zMu j_wrong_51 j_token_48 j_next_46 (f_all 4) < zMu xr xt xn (f_all 4) from zMu_lt (by omega) (by omega) (by omega) (by omega)) _ _ ls G (lv_sub hl [0, 1, 2] rfl)
        · have c_30n : ¬ 121 ≤ k_ := fun q => c_30 ((nI_leI (a := 121) (b := k_) (by omega) (by omega)).mpr q)
          refine lv_aload_n hx hb dX12_text_94 rfl (lv_at hl 1 rfl) ?_
          refine z_get C G clX12 0 rfl 10 (by decide) m_fl_RX12_17 rfl dX12_text_95 ?_
          refine lv_iload_n hx hb dX12_text_98 rfl (lv_at hl 0 rfl) ?_
          refine lv_iconst (v := 0) hx hb dX12_text_99 (by decide) ?_
          refine z_ist C G 2 rfl (vp_in_nI (by omega) (by decide)) dX12_text_100 (fun H locs G => ?_)
          rw [nI_clamp (by omega)] at G
          have G : zS T A s.heap s [[zO11 mo m_all m_has (f_all 4) 0 i_where i_token i_number i_word 0 (-1) m_read i_z0 i_crossings i_inns m_posts m_shut m_here i_steps i_done i_at i_gone m_was m_came m_seenAt m_rowWorth m_farBy m_used i_everywhere i_again0 i_d0 i_never i_firstCame i_longRun i_moved i_crowd i_l0 i_fitMany i_fitLeast i_fitMost m_fitPost m_fitEnd m_keptPosts i_x0], [zAr T 0 m_all 3952 (upd (upd (upd f_all 4 0) 5 0) 6 (-1))], [zAr T 0 m_read 121 (upd z k_ 0)]] _ _ := G
          refine lv_iinc (v := nI (k_ + 1)) (lv' := [(3, .int (nI (k_ + 1))), (0, .ref mo), (1, .int 1), (2, .int (-1))]) hx hb dX12_text_101 hl (k := 0) rfl (z_inc k_ 1) (by decide) (zLvf_h rfl) (fun ls hl => ?_)
          refine lv_goto (tgt := 88) hx hb dX12_text_104 (by decide) ?_
          exact ih_88 (k_ + 1) (upd z k_ 0) (show (k_ + 1) ≤ 121 ∧ (∀ j, j < (k_ + 1) → (upd z k_ 0) j = 0) from ⟨by omega, z_updE (F := fun _ => 0) hZ rfl⟩) (show 121 - (k_ + 1) < 121 - k_ from by omega) _ _ ls G (lv_sub hl [0, 1, 2, 3] rfl)
      · have c_8n : ¬ (f_all 1).toInt < (2 : Int) := fun q => c_8 ((fa_lt _ _).mpr q)
        refine lv_goto (tgt := 68) hx hb dX12_text_56 (by decide) ?_
        refine lv_bipush (v := (-2)) hx hb dX12_text_68 (by decide) ?_
        exact z_back hQz_ (z_iret C hr hlocks G (Nat.le_of_ble_eq_true rfl) (Nat.le_of_ble_eq_true rfl) dX12_text_70 ⟨(f_all 4), i_next, i_where, i_token, i_number, i_word, i_wrong, i_farCrossing, (upd (upd (upd f_all 4 0) 5 0) 6 (-1)), f_read, rfl, (zBI_hd hB rfl (fun q hq => by rw [hF q (by omega) (by omega) (by omega)]; exact hB.2.1 q hq) (fun j hj => hF j (by omega) (by omega) (by omega))), rfl, (fun j hj => hF j (by omega) (by omega) (by omega)), (zText_b (fun z9 => by have z8 := hoi.mp z9; omega))⟩)
    · have hq1 : ((upd (upd (upd f_all 4 0) 5 0) 6 (-1)) 1).toInt = (f_all 1).toInt := rfl
      have hqf : 0 ≤ (f_all 1).toInt ∧ (f_all 1).toInt ≤ 2 := hB.2.1 1 (by decide)
      have hqF : 0 ≤ ((upd (upd (upd f_all 4 0) 5 0) 6 (-1)) 1).toInt ∧ ((upd (upd (upd f_all 4 0) 5 0) 6 (-1)) 1).toInt ≤ 2 := hqf
      have hai : ¬ at_.toInt = -1 := fun z9 => hne (Int32.toInt_inj.mp z9)
      have hoi : zHd _ := pOkAt_n (s := 1) (at_ := at_) (G := f_all) hai
      refine lv_iload_n hx hb dX12_text_41 rfl (lv_at hl 2 rfl) ?_
      refine lv_iconst (v := (-1)) hx hb dX12_text_42 (by decide) ?_
      refine lv_icmp_ne (tgt := 59) hx hb dX12_text_43 (by decide) (fun _ => ?_) (fun q => absurd q hne)
      refine lv_aload_n hx hb dX12_text_59 rfl (lv_at hl 0 rfl) ?_
      refine lv_iload_n hx hb dX12_text_60 rfl (lv_at hl 1 rfl) ?_
      refine lv_iload_n hx hb dX12_text_61 rfl (lv_at hl 2 rfl) ?_
      refine z_Vi (bc := [[zO11 mo m_all m_has (f_all 4) i_next i_where i_token i_number i_word i_wrong i_farCrossing m_read i_z0 i_crossings i_inns m_posts m_shut m_here i_steps i_done i_at i_gone m_was m_came m_seenAt m_rowWorth m_farBy m_used i_everywhere i_again0 i_d0 i_never i_firstCame i_longRun i_moved i_crowd i_l0 i_fitMany i_fitLeast i_fitMost m_fitPost m_fitEnd m_keptPosts i_x0], [zAr T 0 m_all 3952 (upd (upd (upd f_all 4 0) 5 0) 6 (-1))]]) (br := [[zAr T 0 m_read 121 f_read]]) (As := [.int 1, .int at_]) (rest := []) C G (c_m_isOf1 l T mo m_all m_has (f_all 4) i_next i_where i_token i_number i_word i_wrong i_farCrossing m_read i_z0 i_crossings i_inns m_posts m_shut m_here i_steps i_done i_at i_gone m_was m_came m_seenAt m_rowWorth m_farBy m_used i_everywhere i_again0 i_d0 i_never i_firstCame i_longRun i_moved i_crowd i_l0 i_fitMany i_fitLeast i_fitMost m_fitPost m_fitEnd m_keptPosts i_x0 (upd (upd (upd f_all 4 0) 5 0) 6 (-1)) at_ hqF) (kV_RX12_143 C.2.2.2.2 (Nat.le_of_ble_eq_true rfl) (Nat.le_of_ble_eq_true rfl)) [0, 1] [0, 0] rfl rfl (ci := 11) (qc := (RX12, TX12, 43)) rfl rfl (List.mem_flatten.mpr ⟨_, List.mem_of_getElem? (i := 0) rfl, List.mem_cons_self⟩) rfl rfl hl.1 dX12_text_62 (Nat.le_of_ble_eq_true rfl) (Nat.le_of_ble_eq_true rfl) (fun r_64 b1 H locs hw G => ?_)
      refine zAn2 hw ?_
      intro hbs9 hc_63
      clear hw
      subst hbs9
      have G : zS T A s.heap s [[zAr T 0 m_read 121 f_read], [zO11 mo m_all m_has (f_all 4) i_next i_where i_token i_number i_word i_wrong i_farCrossing m_read i_z0 i_crossings i_inns m_posts m_shut m_here i_steps i_done i_at i_gone m_was m_came m_seenAt m_rowWorth m_farBy m_used i_everywhere i_again0 i_d0 i_never i_firstCame i_longRun i_moved i_crowd i_l0 i_fitMany i_fitLeast i_fitMost m_fitPost m_fitEnd m_keptPosts i_x0], [zAr T 0 m_all 3952 (upd (upd (upd f_all 4 0) 5 0) 6 (-1))]] _ _ := G
      rcases hc_63 with ⟨rfl, h_65, h_66⟩ | ⟨rfl, h_67⟩
      · have h_65 : 0 ≤ at_.toInt := h_65
        have h_66 : at_.toInt < ((upd (upd (upd f_all 4 0) 5 0) 6 (-1)) 1).toInt := h_66
        refine lv_if_ne (tgt := 71) hx hb dX12_text_65 (by decide) (fun _ => ?_) (fun q => absurd q (by decide))
        refine lv_aload_n hx hb dX12_text_71 rfl (lv_at hl 0 rfl) ?_
        refine lv_iconst (v := 0) hx hb dX12_text_72 (by decide) ?_
        refine z_put C G clX12 1 rfl 3 (by decide) m_fl_RX12_70 rfl rfl rfl (Nat.le_of_ble_eq_true rfl) dX12_text_73 (fun H locs G => ?_)
        have G : zS T A s.heap s [[zAr T 0 m_read 121 f_read], [zO11 mo m_all m_has (f_all 4) 0 i_where i_token i_number i_word i_wrong i_farCrossing m_read i_z0 i_crossings i_inns m_posts m_shut m_here i_steps i_done i_at i_gone m_was m_came m_seenAt m_rowWorth m_farBy m_used i_everywhere i_again0 i_d0 i_never i_firstCame i_longRun i_moved i_crowd i_l0 i_fitMany i_fitLeast i_fitMost m_fitPost m_fitEnd m_keptPosts i_x0], [zAr T 0 m_all 3952 (upd (upd (upd f_all 4 0) 5 0) 6 (-1))]] _ _ := G
        refine lv_aload_n hx hb dX12_text_76 rfl (lv_at hl 0 rfl) ?_
        refine lv_iconst (v := 0) hx hb dX12_text_77 (by decide) ?_
        refine z_put C G clX12 1 rfl 8 (by decide) m_fl_RX12_104 rfl rfl rfl (Nat.le_of_ble_eq_true rfl) dX12_text_78 (fun H locs G => ?_)
        have G : zS T A s.heap s [[zAr T 0 m_read 121 f_read], [zO11 mo m_all m_has (f_all 4) 0 i_where i_token i_number i_word 0 i_farCrossing m_read i_z0 i_crossings i_inns m_posts m_shut m_here i_steps i_done i_at i_gone m_was m_came m_seenAt m_rowWorth m_farBy m_used i_everywhere i_again0 i_d0 i_never i_firstCame i_longRun i_moved i_crowd i_l0 i_fitMany i_fitLeast i_fitMost m_fitPost m_fitEnd m_keptPosts i_x0], [zAr T 0 m_all 3952 (upd (upd (upd f_all 4 0) 5 0) 6 (-1))]] _ _ := G
        refine lv_aload_n hx hb dX12_text_81 rfl (lv_at hl 0 rfl) ?_
        refine lv_iconst (v := (-1)) hx hb dX12_text_82 (by decide) ?_
        refine z_put C G clX12 1 rfl 9 (by decide) m_fl_RX12_126 rfl rfl rfl (Nat.le_of_ble_eq_true rfl) dX12_text_83 (fun H locs G => ?_)
        have G : zS T A s.heap s [[zAr T 0 m_read 121 f_read], [zO11 mo m_all m_has (f_all 4) 0 i_where i_token i_number i_word 0 (-1) m_read i_z0 i_crossings i_inns m_posts m_shut m_here i_steps i_done i_at i_gone m_was m_came m_seenAt m_rowWorth m_farBy m_used i_everywhere i_again0 i_d0 i_never i_firstCame i_longRun i_moved i_crowd i_l0 i_fitMany i_fitLeast i_fitMost m_fitPost m_fitEnd m_keptPosts i_x0], [zAr T 0 m_all 3952 (upd (upd (upd f_all 4 0) 5 0) 6 (-1))]] _ _ := G
        refine zMt9 (T := T) 237 (fun (xn : Int32) (xw : Int32) (xt : Int32) (xu : Int32) (xo : Int32) (xr : Int32) (xf : Int32) (ga : Nat → Int32) (gr : Nat → Int32) => [[zAr T 0 m_read 121 gr], [zO11 mo m_all m_has (f_all 4) xn xw xt xu xo xr xf m_read i_z0 i_crossings i_inns m_posts m_shut m_here i_steps i_done i_at i_gone m_was m_came m_seenAt m_rowWorth m_farBy m_used i_everywhere i_again0 i_d0 i_never i_firstCame i_longRun i_moved i_crowd i_l0 i_fitMany i_fitLeast i_fitMost m_fitPost m_fitEnd m_keptPosts i_x0], [zAr T 0 m_all 3952 ga]]) (fun (xn : Int32) (xw : Int32) (xt : Int32) (xu : Int32) (xo : Int32) (xr : Int32) (xf : Int32) (ga : Nat → Int32) (gr : Nat → Int32) => [(0, .ref mo), (1, .int 1), (2, .int at_)]) (fun (xn : Int32) (xw : Int32) (xt : Int32) (xu : Int32) (xo : Int32) (xr : Int32) (xf : Int32) (ga : Nat → Int32) (gr : Nat → Int32) => zCF 40 gr ∧ zPal (upd (upd (upd f_all 4 0) 5 0) 6 (-1)) ga ∧ zRr k N (f_all 4) xn xw xt xu xo xr xf ga (pRead k N 1).1 ∧ (pRead k N 1).2 = gr) G hl ?_ (fun jn_237 => ?_)
        · intro xn xw xt xu xo xr xf ga gr hI9 H locs ls G hl
          replace hI9 : zCF 40 gr ∧ zPal (upd (upd (upd f_all 4 0) 5 0) 6 (-1)) ga ∧ zRr k N (f_all 4) xn xw xt xu xo xr xf ga (pRead k N 1).1 ∧ (pRead k N 1).2 = gr := hI9
          refine zAn4 hI9 ?_
          intro hL hpal hZ1 hZ2
          clear hI9
          replace G : zS T A s.heap s [[zAr T 0 m_read 121 gr], [zO11 mo m_all m_has (f_all 4) xn xw xt xu xo xr xf m_read i_z0 i_crossings i_inns m_posts m_shut m_here i_steps i_done i_at i_gone m_was m_came m_seenAt m_rowWorth m_farBy m_used i_everywhere i_again0 i_d0 i_never i_firstCame i_longRun i_moved i_crowd i_l0 i_fitMany i_fitLeast i_fitMost m_fitPost m_fitEnd m_keptPosts i_x0], [zAr T 0 m_all 3952 ga]] _ _ := G
          replace hl : lv_has ls 5 [(0, .ref mo), (1, .int 1), (2, .int at_)] := hl
          have hZ5 := hZ1.2.2.2.1
          have hZ6 := hZ1.2.2.2.2.1
          have hZ5i := congrArg Int32.toInt hZ5
          refine lv_aload_n hx hb dX12_text_237 rfl (lv_at hl 0 rfl) ?_
          refine z_get C G clX12 1 rfl 0 (by decide) m_fl_RX12_7 rfl dX12_text_238 ?_
          refine lv_iconst (v := 5) hx hb dX12_text_241 (by decide) ?_
          refine z_ild C G 2 rfl (vp_in_nI (n := 5) (by decide) (by decide)) dX12_text_242 ?_
          refine lv_topi (fun v_68 ev_68 => ?_)
          rw [show ((5 : Int32).toNatClampNeg) = 5 from rfl] at ev_68
          subst ev_68
          refine lv_if_eq (tgt := 248) hx hb dX12_text_243 (by decide) (fun c_69 => ?_) (fun c_69 => ?_)
          · have c_69n : (ga 5).toInt = (0 : Int) := (fa_eq _ _).mp c_69
            refine lv_iload_n hx hb dX12_text_248 rfl (lv_at hl 2 rfl) ?_
            refine lv_iconst (v := (-1)) hx hb dX12_text_249 (by decide) ?_
            refine lv_icmp_ne (tgt := 262) hx hb dX12_text_250 (by decide) (fun _ => ?_) (fun q => absurd q hne)
            refine lv_iload_n hx hb dX12_text_262 rfl (lv_at hl 2 rfl) ?_
            rcases (show at_.toInt = 0 ∨ at_.toInt = 1 from by omega) with hk | hk
            · obtain rfl : at_ = 0 := Int32.toInt_inj.mp hk
              refine lv_istore_n (lv' := [(3, .int 0), (0, .ref mo), (1, .int 1), (2, .int 0)]) hx hb dX12_text_263 rfl hl (by decide) (zLvf_h rfl) (fun ls hl => ?_)
              refine lv_iload_n hx hb dX12_text_264 rfl (lv_at hl 3 rfl) ?_
              refine lv_iconst (v := (-1)) hx hb dX12_text_265 (by decide) ?_
              refine lv_icmp_ne (tgt := 279) hx hb dX12_text_266 (by decide) (fun _ => ?_) (fun q => absurd q hne)
              refine lv_iconst (v := 0) hx hb dX12_text_279 (by decide) ?_
              refine lv_istore (lv' := [(4, .int 0), (3, .int 0), (0, .ref mo), (1, .int 1), (2, .int 0)]) hx hb dX12_text_280 hl (by decide) (zLvf_h rfl) (fun ls hl => ?_)
              refine z_lp2 (T := T) 282 (fun (i : Nat) (x : Nat → Int32) => [[zAr T 0 m_read 121 gr], [zO11 mo m_all m_has (f_all 4) xn xw xt xu xo xr xf m_read i_z0 i_crossings i_inns m_posts m_shut m_here i_steps i_done i_at i_gone m_was m_came m_seenAt m_rowWorth m_farBy m_used i_everywhere i_again0 i_d0 i_never i_firstCame i_longRun i_moved i_crowd i_l0 i_fitMany i_fitLeast i_fitMost m_fitPost m_fitEnd m_keptPosts i_x0], [zAr T 0 m_all 3952 x]]) (fun (i : Nat) (x : Nat → Int32) => [(4, .int (nI i)), (3, .int 0), (0, .ref mo), (1, .int 1), (2, .int 0)]) (fun (i : Nat) (x : Nat → Int32) => i ≤ 121 ∧ (∀ j, j < i → x (712 + j) = gr j) ∧ (∀ j, (j < 712 ∨ 833 ≤ j) → x j = ga j)) (fun (i : Nat) (x : Nat → Int32) => 121 - i) ?_ 0 ga (show 0 ≤ 121 ∧ (∀ j, j < 0 → ga (712 + j) = gr j) ∧ (∀ j, (j < 712 ∨ 833 ≤ j) → ga j = ga j) from ⟨by omega, fun j hj => absurd hj (by omega), fun j _ => rfl⟩) G (lv_sub hl [0, 1, 2, 3, 4] rfl)
              intro i x hI9 ih_282 H locs ls G hl
              replace hI9 : i ≤ 121 ∧ (∀ j, j < i → x (712 + j) = gr j) ∧ (∀ j, (j < 712 ∨ 833 ≤ j) → x j = ga j) := hI9
              refine zAn3 hI9 ?_
              intro hi hS hO
              clear hI9
              replace G : zS T A s.heap s [[zAr T 0 m_read 121 gr], [zO11 mo m_all m_has (f_all 4) xn xw xt xu xo xr xf m_read i_z0 i_crossings i_inns m_posts m_shut m_here i_steps i_done i_at i_gone m_was m_came m_seenAt m_rowWorth m_farBy m_used i_everywhere i_again0 i_d0 i_never i_firstCame i_longRun i_moved i_crowd i_l0 i_fitMany i_fitLeast i_fitMost m_fitPost m_fitEnd m_keptPosts i_x0], [zAr T 0 m_all 3952 x]] _ _ := G
              replace hl : lv_has ls 5 [(4, .int (nI i)), (3, .int 0), (0, .ref mo), (1, .int 1), (2, .int 0)] := hl
              refine lv_iload hx hb dX12_text_282 (lv_at hl 0 rfl) ?_
              refine lv_iload_n hx hb dX12_text_284 rfl (lv_at hl 3 rfl) ?_
              refine z_Si (bc := []) (br := [[zAr T 0 m_read 121 gr], [zO11 mo m_all m_has (f_all 4) xn xw xt xu xo xr xf m_read i_z0 i_crossings i_inns m_posts m_shut m_here i_steps i_done i_at i_gone m_was m_came m_seenAt m_rowWorth m_farBy m_used i_everywhere i_again0 i_d0 i_never i_firstCame i_longRun i_moved i_crowd i_l0 i_fitMany i_fitLeast i_fitMost m_fitPost m_fitEnd m_keptPosts i_x0], [zAr T 0 m_all 3952 x]]) (As := [.int 1]) (rest := [.int (nI i)]) C G (c_m_sizeOf1 l T) (kS_RX12_160 C.2.2.2.2 (Nat.le_of_ble_eq_true rfl) (Nat.le_of_ble_eq_true rfl)) [] [] rfl rfl rfl rfl hl.1 dX12_text_285 (Nat.le_of_ble_eq_true rfl) (Nat.le_of_ble_eq_true rfl) (fun r_71 b1 H locs hw G => ?_)
              refine zAn2 hw ?_
              intro hbs9 h_70
              clear hw
              subst hbs9
              have G : zS T A s.heap s [[zAr T 0 m_read 121 gr], [zO11 mo m_all m_has (f_all 4) xn xw xt xu xo xr xf m_read i_z0 i_crossings i_inns m_posts m_shut m_here i_steps i_done i_at i_gone m_was m_came m_seenAt m_rowWorth m_farBy m_used i_everywhere i_again0 i_d0 i_never i_firstCame i_longRun i_moved i_crowd i_l0 i_fitMany i_fitLeast i_fitMost m_fitPost m_fitEnd m_keptPosts i_x0], [zAr T 0 m_all 3952 x]] _ _ := G
              subst h_70
              refine lv_icmp_ge (tgt := 317) hx hb dX12_text_288 (by decide) (fun c_72 => ?_) (fun c_72 => ?_)
              · have c_72n : 121 ≤ i := (nI_leI (a := 121) (b := i) (by omega) (by omega)).mp c_72
                refine lv_iload_n hx hb dX12_text_317 rfl (lv_at hl 1 rfl) ?_
                have G := G.sub (bs' := [[zO11 mo m_all m_has (f_all 4) xn xw xt xu xo xr xf m_read i_z0 i_crossings i_inns m_posts m_shut m_here i_steps i_done i_at i_gone m_was m_came m_seenAt m_rowWorth m_farBy m_used i_everywhere i_again0 i_d0 i_never i_firstCame i_longRun i_moved i_crowd i_l0 i_fitMany i_fitLeast i_fitMost m_fitPost m_fitEnd m_keptPosts i_x0], [zAr T 0 m_all 3952 x], [zAr T 0 m_read 121 gr]]) [1, 2, 0] rfl
                exact z_back hQz_ (z_iret C hr hlocks G (Nat.le_of_ble_eq_true rfl) (Nat.le_of_ble_eq_true rfl) dX12_text_318 ⟨(f_all 4), xn, xw, xt, xu, xo, xr, xf, x, gr, rfl, (zBI_p1 0 (by decide) hB ((hO 4 (by omega)).trans (hpal 4 (by decide) (by decide))) (fun q hq => by rw [hO q (by omega)]; rw [show _ = f_all q from (hpal q (by omega) (by omega)).trans (hF q (by omega) (by omega) (by omega))]; exact hB.2.1 q hq) (fun j hj hj2 => (hO j (by omega)).trans ((hpal j (by omega) (by omega)).trans (hF j (by omega) (by omega) (by omega)))) (by first | with_reducible assumption | assumption) (fun j hj => hS j (by omega))), ((hO 4 (by omega)).trans (hpal 4 (by decide) (by decide))), (fun j hj => (hO j (by omega)).trans ((hpal j (by omega) (by omega)).trans (hF j (by omega) (by omega) (by omega)))), (zText_k (kk := 0) (g := ga) (hoi.mpr (by omega)) (by rw [← hZ5]; omega) (pNr_n (by decide)).symm (by rw [pNr_n (by decide)]; rfl) hpal hZ5 hZ6 (pCnt_n (by decide)).symm (by rw [hZ2]; exact fun j hj => hS j (by have hj : j < 121 := hj; omega)) (fun j hj => hO j (by have hj : j < 712 ∨ 712 + 121 ≤ j := hj; omega)))⟩)
              · have c_72n : ¬ 121 ≤ i := fun q => c_72 ((nI_leI (a := 121) (b := i) (by omega) (by omega)).mpr q)
                refine lv_aload_n hx hb dX12_text_291 rfl (lv_at hl 2 rfl) ?_
                refine z_get C G clX12 1 rfl 0 (by decide) m_fl_RX12_7 rfl dX12_text_292 ?_
                refine lv_iload_n hx hb dX12_text_295 rfl (lv_at hl 3 rfl) ?_
                refine lv_iload_n hx hb dX12_text_296 rfl (lv_at hl 1 rfl) ?_
                refine z_Si (bc := []) (br := [[zAr T 0 m_read 121 gr], [zO11 mo m_all m_has (f_all 4) xn xw xt xu xo xr xf m_read i_z0 i_crossings i_inns m_posts m_shut m_here i_steps i_done i_at i_gone m_was m_came m_seenAt m_rowWorth m_farBy m_used i_everywhere i_again0 i_d0 i_never i_firstCame i_longRun i_moved i_crowd i_l0 i_fitMany i_fitLeast i_fitMost m_fitPost m_fitEnd m_keptPosts i_x0], [zAr T 0 m_all 3952 x]]) (As := [.int 1, .int 0]) (rest := [.ref m_all]) C G (c_m_placeOf10 l T) (kS_RX12_163 C.2.2.2.2 (Nat.le_of_ble_eq_true rfl) (Nat.le_of_ble_eq_true rfl)) [] [] rfl rfl rfl rfl hl.1 dX12_text_297 (Nat.le_of_ble_eq_true rfl) (Nat.le_of_ble_eq_true rfl) (fun r_74 b1 H locs hw G => ?_)
                refine zAn2 hw ?_
                intro hbs9 h_73
                clear hw
                subst hbs9
                have G : zS T A s.heap s [[zAr T 0 m_read 121 gr], [zO11 mo m_all m_has (f_all 4) xn xw xt xu xo xr xf m_read i_z0 i_crossings i_inns m_posts m_shut m_here i_steps i_done i_at i_gone m_was m_came m_seenAt m_rowWorth m_farBy m_used i_everywhere i_again0 i_d0 i_never i_firstCame i_longRun i_moved i_crowd i_l0 i_fitMany i_fitLeast i_fitMost m_fitPost m_fitEnd m_keptPosts i_x0], [zAr T 0 m_all 3952 x]] _ _ := G
                subst h_73
                refine lv_iload hx hb dX12_text_300 (lv_at hl 0 rfl) ?_
                refine lv_iadd hx hb dX12_text_302 ?_
                refine lv_topi (fun y_75 ey_75 => ?_)
                obtain rfl : y_75 = nI (712 + i) := ey_75.trans (z_iaddn 712 i rfl rfl)
                refine lv_aload_n hx hb dX12_text_303 rfl (lv_at hl 2 rfl) ?_
                refine z_get C G clX12 1 rfl 10 (by decide) m_fl_RX12_17 rfl dX12_text_304 ?_
                refine lv_iload hx hb dX12_text_307 (lv_at hl 0 rfl) ?_
                refine z_ild C G 0 rfl (vp_in_nI (by omega) (by decide)) dX12_text_309 ?_
                refine lv_topi (fun v_76 ev_76 => ?_)
                rw [nI_clamp (by omega)] at ev_76
                subst ev_76
                refine z_ist C G 2 rfl (vp_in_nI (by omega) (by decide)) dX12_text_310 (fun H locs G => ?_)
                rw [nI_clamp (by omega)] at G
                have G : zS T A s.heap s [[zAr T 0 m_read 121 gr], [zO11 mo m_all m_has (f_all 4) xn xw xt xu xo xr xf m_read i_z0 i_crossings i_inns m_posts m_shut m_here i_steps i_done i_at i_gone m_was m_came m_seenAt m_rowWorth m_farBy m_used i_everywhere i_again0 i_d0 i_never i_firstCame i_longRun i_moved i_crowd i_l0 i_fitMany i_fitLeast i_fitMost m_fitPost m_fitEnd m_keptPosts i_x0], [zAr T 0 m_all 3952 (upd x (712 + i) (gr i))]] _ _ := G
                refine lv_iinc (v := nI (i + 1)) (lv' := [(4, .int (nI (i + 1))), (3, .int 0), (0, .ref mo), (1, .int 1), (2, .int 0)]) hx hb dX12_text_311 hl (k := 0) rfl (z_inc i 1) (by decide) (zLvf_h rfl) (fun ls hl => ?_)
                refine lv_goto (tgt := 282) hx hb dX12_text_314 (by decide) ?_
                exact ih_282 (i + 1) (upd x (712 + i) (gr i)) (show (i + 1) ≤ 121 ∧ (∀ j, j < (i + 1) → (upd x (712 + i) (gr i)) (712 + j) = gr j) ∧ (∀ j, (j < 712 ∨ 833 ≤ j) → (upd x (712 + i) (gr i)) j = ga j) from ⟨by omega, z_upS hS rfl, z_upO hO (by omega)⟩) (show 121 - (i + 1) < 121 - i from by omega) _ _ ls G (lv_sub hl [0, 1, 2, 3, 4] rfl)
            · obtain rfl : at_ = 1 := Int32.toInt_inj.mp hk
              refine lv_istore_n (lv' := [(3, .int 1), (0, .ref mo), (1, .int 1), (2, .int 1)]) hx hb dX12_text_263 rfl hl (by decide) (zLvf_h rfl) (fun ls hl => ?_)
              refine lv_iload_n hx hb dX12_text_264 rfl (lv_at hl 3 rfl) ?_
              refine lv_iconst (v := (-1)) hx hb dX12_text_265 (by decide) ?_
              refine lv_icmp_ne (tgt := 279) hx hb dX12_text_266 (by decide) (fun _ => ?_) (fun q => absurd q hne)
              refine lv_iconst (v := 0) hx hb dX12_text_279 (by decide) ?_
              refine lv_istore (lv' := [(4, .int 0), (3, .int 1), (0, .ref mo), (1, .int 1), (2, .int 1)]) hx hb dX12_text_280 hl (by decide) (zLvf_h rfl) (fun ls hl => ?_)
              refine z_lp2 (T := T) 282 (fun (i : Nat) (x : Nat → Int32) => [[zAr T 0 m_read 121 gr], [zO11 mo m_all m_has (f_all 4) xn xw xt xu xo xr xf m_read i_z0 i_crossings i_inns m_posts m_shut m_here i_steps i_done i_at i_gone m_was m_came m_seenAt m_rowWorth m_farBy m_used i_everywhere i_again0 i_d0 i_never i_firstCame i_longRun i_moved i_crowd i_l0 i_fitMany i_fitLeast i_fitMost m_fitPost m_fitEnd m_keptPosts i_x0], [zAr T 0 m_all 3952 x]]) (fun (i : Nat) (x : Nat → Int32) => [(4, .int (nI i)), (3, .int 1), (0, .ref mo), (1, .int 1), (2, .int 1)]) (fun (i : Nat) (x : Nat → Int32) => i ≤ 121 ∧ (∀ j, j < i → x (833 + j) = gr j) ∧ (∀ j, (j < 833 ∨ 954 ≤ j) → x j = ga j)) (fun (i : Nat) (x : Nat → Int32) => 121 - i) ?_ 0 ga (show 0 ≤ 121 ∧ (∀ j, j < 0 → ga (833 + j) = gr j) ∧ (∀ j, (j < 833 ∨ 954 ≤ j) → ga j = ga j) from ⟨by omega, fun j hj => absurd hj (by omega), fun j _ => rfl⟩) G (lv_sub hl [0, 1, 2, 3, 4] rfl)
              intro i x hI9 ih_282 H locs ls G hl
              replace hI9 : i ≤ 121 ∧ (∀ j, j < i → x (833 + j) = gr j) ∧ (∀ j, (j < 833 ∨ 954 ≤ j) → x j = ga j) := hI9
              refine zAn3 hI9 ?_
              intro hi hS hO
              clear hI9
              replace G : zS T A s.heap s [[zAr T 0 m_read 121 gr], [zO11 mo m_all m_has (f_all 4) xn xw xt xu xo xr xf m_read i_z0 i_crossings i_inns m_posts m_shut m_here i_steps i_done i_at i_gone m_was m_came m_seenAt m_rowWorth m_farBy m_used i_everywhere i_again0 i_d0 i_never i_firstCame i_longRun i_moved i_crowd i_l0 i_fitMany i_fitLeast i_fitMost m_fitPost m_fitEnd m_keptPosts i_x0], [zAr T 0 m_all 3952 x]] _ _ := G
              replace hl : lv_has ls 5 [(4, .int (nI i)), (3, .int 1), (0, .ref mo), (1, .int 1), (2, .int 1)] := hl
              refine lv_iload hx hb dX12_text_282 (lv_at hl 0 rfl) ?_
              refine lv_iload_n hx hb dX12_text_284 rfl (lv_at hl 3 rfl) ?_
              refine z_Si (bc := []) (br := [[zAr T 0 m_read 121 gr], [zO11 mo m_all m_has (f_all 4) xn xw xt xu xo xr xf m_read i_z0 i_crossings i_inns m_posts m_shut m_here i_steps i_done i_at i_gone m_was m_came m_seenAt m_rowWorth m_farBy m_used i_everywhere i_again0 i_d0 i_never i_firstCame i_longRun i_moved i_crowd i_l0 i_fitMany i_fitLeast i_fitMost m_fitPost m_fitEnd m_keptPosts i_x0], [zAr T 0 m_all 3952 x]]) (As := [.int 1]) (rest := [.int (nI i)]) C G (c_m_sizeOf1 l T) (kS_RX12_160 C.2.2.2.2 (Nat.le_of_ble_eq_true rfl) (Nat.le_of_ble_eq_true rfl)) [] [] rfl rfl rfl rfl hl.1 dX12_text_285 (Nat.le_of_ble_eq_true rfl) (Nat.le_of_ble_eq_true rfl) (fun r_78 b1 H locs hw G => ?_)
              refine zAn2 hw ?_
              intro hbs9 h_77
              clear hw
              subst hbs9
              have G : zS T A s.heap s [[zAr T 0 m_read 121 gr], [zO11 mo m_all m_has (f_all 4) xn xw xt xu xo xr xf m_read i_z0 i_crossings i_inns m_posts m_shut m_here i_steps i_done i_at i_gone m_was m_came m_seenAt m_rowWorth m_farBy m_used i_everywhere i_again0 i_d0 i_never i_firstCame i_longRun i_moved i_crowd i_l0 i_fitMany i_fitLeast i_fitMost m_fitPost m_fitEnd m_keptPosts i_x0], [zAr T 0 m_all 3952 x]] _ _ := G
              subst h_77
              refine lv_icmp_ge (tgt := 317) hx hb dX12_text_288 (by decide) (fun c_79 => ?_) (fun c_79 => ?_)
              · have c_79n : 121 ≤ i := (nI_leI (a := 121) (b := i) (by omega) (by omega)).mp c_79
                refine lv_iload_n hx hb dX12_text_317 rfl (lv_at hl 1 rfl) ?_
                have G := G.sub (bs' := [[zO11 mo m_all m_has (f_all 4) xn xw xt xu xo xr xf m_read i_z0 i_crossings i_inns m_posts m_shut m_here i_steps i_done i_at i_gone m_was m_came m_seenAt m_rowWorth m_farBy m_used i_everywhere i_again0 i_d0 i_never i_firstCame i_longRun i_moved i_crowd i_l0 i_fitMany i_fitLeast i_fitMost m_fitPost m_fitEnd m_keptPosts i_x0], [zAr T 0 m_all 3952 x], [zAr T 0 m_read 121 gr]]) [1, 2, 0] rfl
                exact z_back hQz_ (z_iret C hr hlocks G (Nat.le_of_ble_eq_true rfl) (Nat.le_of_ble_eq_true rfl) dX12_text_318 ⟨(f_all 4), xn, xw, xt, xu, xo, xr, xf, x, gr, rfl, (zBI_p1 1 (by decide) hB ((hO 4 (by omega)).trans (hpal 4 (by decide) (by decide))) (fun q hq => by rw [hO q (by omega)]; rw [show _ = f_all q from (hpal q (by omega) (by omega)).trans (hF q (by omega) (by omega) (by omega))]; exact hB.2.1 q hq) (fun j hj hj2 => (hO j (by omega)).trans ((hpal j (by omega) (by omega)).trans (hF j (by omega) (by omega) (by omega)))) (by first | with_reducible assumption | assumption) (fun j hj => hS j (by omega))), ((hO 4 (by omega)).trans (hpal 4 (by decide) (by decide))), (fun j hj => (hO j (by omega)).trans ((hpal j (by omega) (by omega)).trans (hF j (by omega) (by omega) (by omega)))), (zText_k (kk := 1) (g := ga) (hoi.mpr (by omega)) (by rw [← hZ5]; omega) (pNr_n (by decide)).symm (by rw [pNr_n (by decide)]; rfl) hpal hZ5 hZ6 (pCnt_n (by decide)).symm (by rw [hZ2]; exact fun j hj => hS j (by have hj : j < 121 := hj; omega)) (fun j hj => hO j (by have hj : j < 833 ∨ 833 + 121 ≤ j := hj; omega)))⟩)
              · have c_79n : ¬ 121 ≤ i := fun q => c_79 ((nI_leI (a := 121) (b := i) (by omega) (by omega)).mpr q)
                refine lv_aload_n hx hb dX12_text_291 rfl (lv_at hl 2 rfl) ?_
                refine z_get C G clX12 1 rfl 0 (by decide) m_fl_RX12_7 rfl dX12_text_292 ?_
                refine lv_iload_n hx hb dX12_text_295 rfl (lv_at hl 3 rfl) ?_
                refine lv_iload_n hx hb dX12_text_296 rfl (lv_at hl 1 rfl) ?_
                refine z_Si (bc := []) (br := [[zAr T 0 m_read 121 gr], [zO11 mo m_all m_has (f_all 4) xn xw xt xu xo xr xf m_read i_z0 i_crossings i_inns m_posts m_shut m_here i_steps i_done i_at i_gone m_was m_came m_seenAt m_rowWorth m_farBy m_used i_everywhere i_again0 i_d0 i_never i_firstCame i_longRun i_moved i_crowd i_l0 i_fitMany i_fitLeast i_fitMost m_fitPost m_fitEnd m_keptPosts i_x0], [zAr T 0 m_all 3952 x]]) (As := [.int 1, .int 1]) (rest := [.ref m_all]) C G (c_m_placeOf11 l T) (kS_RX12_163 C.2.2.2.2 (Nat.le_of_ble_eq_true rfl) (Nat.le_of_ble_eq_true rfl)) [] [] rfl rfl rfl rfl hl.1 dX12_text_297 (Nat.le_of_ble_eq_true rfl) (Nat.le_of_ble_eq_true rfl) (fun r_81 b1 H locs hw G => ?_)
                refine zAn2 hw ?_
                intro hbs9 h_80
                clear hw
                subst hbs9
                have G : zS T A s.heap s [[zAr T 0 m_read 121 gr], [zO11 mo m_all m_has (f_all 4) xn xw xt xu xo xr xf m_read i_z0 i_crossings i_inns m_posts m_shut m_here i_steps i_done i_at i_gone m_was m_came m_seenAt m_rowWorth m_farBy m_used i_everywhere i_again0 i_d0 i_never i_firstCame i_longRun i_moved i_crowd i_l0 i_fitMany i_fitLeast i_fitMost m_fitPost m_fitEnd m_keptPosts i_x0], [zAr T 0 m_all 3952 x]] _ _ := G
                subst h_80
                refine lv_iload hx hb dX12_text_300 (lv_at hl 0 rfl) ?_
                refine lv_iadd hx hb dX12_text_302 ?_
                refine lv_topi (fun y_82 ey_82 => ?_)
                obtain rfl : y_82 = nI (833 + i) := ey_82.trans (z_iaddn 833 i rfl rfl)
                refine lv_aload_n hx hb dX12_text_303 rfl (lv_at hl 2 rfl) ?_
                refine z_get C G clX12 1 rfl 10 (by decide) m_fl_RX12_17 rfl dX12_text_304 ?_
                refine lv_iload hx hb dX12_text_307 (lv_at hl 0 rfl) ?_
                refine z_ild C G 0 rfl (vp_in_nI (by omega) (by decide)) dX12_text_309 ?_
                refine lv_topi (fun v_83 ev_83 => ?_)
                rw [nI_clamp (by omega)] at ev_83
                subst ev_83
                refine z_ist C G 2 rfl (vp_in_nI (by omega) (by decide)) dX12_text_310 (fun H locs G => ?_)
                rw [nI_clamp (by omega)] at G
                have G : zS T A s.heap s [[zAr T 0 m_read 121 gr], [zO11 mo m_all m_has (f_all 4) xn xw xt xu xo xr xf m_read i_z0 i_crossings i_inns m_posts m_shut m_here i_steps i_done i_at i_gone m_was m_came m_seenAt m_rowWorth m_farBy m_used i_everywhere i_again0 i_d0 i_never i_firstCame i_longRun i_moved i_crowd i_l0 i_fitMany i_fitLeast i_fitMost m_fitPost m_fitEnd m_keptPosts i_x0], [zAr T 0 m_all 3952 (upd x (833 + i) (gr i))]] _ _ := G
                refine lv_iinc (v := nI (i + 1)) (lv' := [(4, .int (nI (i + 1))), (3, .int 1), (0, .ref mo), (1, .int 1), (2, .int 1)]) hx hb dX12_text_311 hl (k := 0) rfl (z_inc i 1) (by decide) (zLvf_h rfl) (fun ls hl => ?_)
                refine lv_goto (tgt := 282) hx hb dX12_text_314 (by decide) ?_
                exact ih_282 (i + 1) (upd x (833 + i) (gr i)) (show (i + 1) ≤ 121 ∧ (∀ j, j < (i + 1) → (upd x (833 + i) (gr i)) (833 + j) = gr j) ∧ (∀ j, (j < 833 ∨ 954 ≤ j) → (upd x (833 + i) (gr i)) j = ga j) from ⟨by omega, z_upS hS rfl, z_upO hO (by omega)⟩) (show 121 - (i + 1) < 121 - i from by omega) _ _ ls G (lv_sub hl [0, 1, 2, 3, 4] rfl)
          · have c_69n : ¬ (ga 5).toInt = (0 : Int) := fun q => c_69 ((fa_eq _ _).mpr q)
            refine lv_iconst (v := (-1)) hx hb dX12_text_246 (by decide) ?_
            have G := G.sub (bs' := [[zO11 mo m_all m_has (f_all 4) xn xw xt xu xo xr xf m_read i_z0 i_crossings i_inns m_posts m_shut m_here i_steps i_done i_at i_gone m_was m_came m_seenAt m_rowWorth m_farBy m_used i_everywhere i_again0 i_d0 i_never i_firstCame i_longRun i_moved i_crowd i_l0 i_fitMany i_fitLeast i_fitMost m_fitPost m_fitEnd m_keptPosts i_x0], [zAr T 0 m_all 3952 ga], [zAr T 0 m_read 121 gr]]) [1, 2, 0] rfl
            exact z_back hQz_ (z_iret C hr hlocks G (Nat.le_of_ble_eq_true rfl) (Nat.le_of_ble_eq_true rfl) dX12_text_247 ⟨(f_all 4), xn, xw, xt, xu, xo, xr, xf, ga, gr, rfl, (zBI_hd hB (hpal 4 (by decide) (by decide)) (fun q hq => by rw [show _ = f_all q from (hpal q (by omega) (by omega)).trans (hF q (by omega) (by omega) (by omega))]; exact hB.2.1 q hq) (fun j hj => (hpal j (by omega) (by omega)).trans (hF j (by omega) (by omega) (by omega)))), (hpal 4 (by decide) (by decide)), (fun j hj => (hpal j (by omega) (by omega)).trans (hF j (by omega) (by omega) (by omega))), (zText_f (hoi.mpr (by omega)) (by rw [← hZ5]; omega) hpal hZ5 hZ6)⟩)
        refine lv_iconst (v := 0) hx hb dX12_text_86 (by decide) ?_
        refine lv_istore_n (lv' := [(3, .int 0), (0, .ref mo), (1, .int 1), (2, .int at_)]) hx hb dX12_text_87 rfl hl (by decide) (zLvf_h rfl) (fun ls hl => ?_)
        refine z_lp2 (T := T) 88 (fun (k_ : Nat) (z : Nat → Int32) => [[zAr T 0 m_read 121 z], [zO11 mo m_all m_has (f_all 4) 0 i_where i_token i_number i_word 0 (-1) m_read i_z0 i_crossings i_inns m_posts m_shut m_here i_steps i_done i_at i_gone m_was m_came m_seenAt m_rowWorth m_farBy m_used i_everywhere i_again0 i_d0 i_never i_firstCame i_longRun i_moved i_crowd i_l0 i_fitMany i_fitLeast i_fitMost m_fitPost m_fitEnd m_keptPosts i_x0], [zAr T 0 m_all 3952 (upd (upd (upd f_all 4 0) 5 0) 6 (-1))]]) (fun (k_ : Nat) (z : Nat → Int32) => [(3, .int (nI k_)), (0, .ref mo), (1, .int 1), (2, .int at_)]) (fun (k_ : Nat) (z : Nat → Int32) => k_ ≤ 121 ∧ (∀ j, j < k_ → z j = 0)) (fun (k_ : Nat) (z : Nat → Int32) => 121 - k_) ?_ 0 f_read (show 0 ≤ 121 ∧ (∀ j, j < 0 → f_read j = 0) from ⟨by omega, fun j hj => absurd hj (by omega)⟩) G (lv_sub hl [0, 1, 2, 3] rfl)
        intro k_ z hI9 ih_88 H locs ls G hl
        replace hI9 : k_ ≤ 121 ∧ (∀ j, j < k_ → z j = 0) := hI9
        refine zAn2 hI9 ?_
        intro hk_ hZ
        clear hI9
        replace G : zS T A s.heap s [[zAr T 0 m_read 121 z], [zO11 mo m_all m_has (f_all 4) 0 i_where i_token i_number i_word 0 (-1) m_read i_z0 i_crossings i_inns m_posts m_shut m_here i_steps i_done i_at i_gone m_was m_came m_seenAt m_rowWorth m_farBy m_used i_everywhere i_again0 i_d0 i_never i_firstCame i_longRun i_moved i_crowd i_l0 i_fitMany i_fitLeast i_fitMost m_fitPost m_fitEnd m_keptPosts i_x0], [zAr T 0 m_all 3952 (upd (upd (upd f_all 4 0) 5 0) 6 (-1))]] _ _ := G
        replace hl : lv_has ls 5 [(3, .int (nI k_)), (0, .ref mo), (1, .int 1), (2, .int at_)] := hl
        refine lv_iload_n hx hb dX12_text_88 rfl (lv_at hl 0 rfl) ?_
        refine lv_bipush (v := 121) hx hb dX12_text_89 (by decide) ?_
        refine lv_icmp_ge (tgt := 107) hx hb dX12_text_91 (by decide) (fun c_84 => ?_) (fun c_84 => ?_)
        · have c_84n : 121 ≤ k_ := (nI_leI (a := 121) (b := k_) (by omega) (by omega)).mp c_84
          have G := z_cg G 0 rfl (fun _ => 0) (fun j hj => hZ j (by omega))
          have G : zS T A s.heap s [[zAr T 0 m_read 121 (fun _ => 0)], [zO11 mo m_all m_has (f_all 4) 0 i_where i_token i_number i_word 0 (-1) m_read i_z0 i_crossings i_inns m_posts m_shut m_here i_steps i_done i_at i_gone m_was m_came m_seenAt m_rowWorth m_farBy m_used i_everywhere i_again0 i_d0 i_never i_firstCame i_longRun i_moved i_crowd i_l0 i_fitMany i_fitLeast i_fitMost m_fitPost m_fitEnd m_keptPosts i_x0], [zAr T 0 m_all 3952 (upd (upd (upd f_all 4 0) 5 0) 6 (-1))]] _ _ := G
          refine lv_aload_n hx hb dX12_text_107 rfl (lv_at hl 1 rfl) ?_
          refine z_Vv (bc := [[zO11 mo m_all m_has (f_all 4) 0 i_where i_token i_number i_word 0 (-1) m_read i_z0 i_crossings i_inns m_posts m_shut m_here i_steps i_done i_at i_gone m_was m_came m_seenAt m_rowWorth m_farBy m_used i_everywhere i_again0 i_d0 i_never i_firstCame i_longRun i_moved i_crowd i_l0 i_fitMany i_fitLeast i_fitMost m_fitPost m_fitEnd m_keptPosts i_x0], [zAr T 0 m_all 3952 (upd (upd (upd f_all 4 0) 5 0) 6 (-1))]]) (br := [[zAr T 0 m_read 121 (fun _ => 0)]]) (As := []) (rest := []) C G (c_fm_advance l T mo m_all m_has (f_all 4) 0 i_where i_token i_number i_word 0 (-1) m_read i_z0 i_crossings i_inns m_posts m_shut m_here i_steps i_done i_at i_gone m_was m_came m_seenAt m_rowWorth m_farBy m_used i_everywhere i_again0 i_d0 i_never i_firstCame i_longRun i_moved i_crowd i_l0 i_fitMany i_fitLeast i_fitMost m_fitPost m_fitEnd m_keptPosts i_x0 (upd (upd (upd f_all 4 0) 5 0) 6 (-1)) 0 N k hsN rfl (Nat.zero_le _) hN6 (hk.trans (congrArg (fun q9 => tkT q9 N) (funext fun j => ((z_ne (by omega)).trans ((z_ne (by omega)).trans (z_ne (by omega)))).symm))) (fun j hj => by rw [z_ne (by omega), z_ne (by omega), z_ne (by omega)]; exact hby j hj)) (kV_RX12_119 C.2.2.2.2 (Nat.le_of_ble_eq_true rfl) (Nat.le_of_ble_eq_true rfl)) [1, 2] [1, 0] rfl rfl (ci := 11) (qc := (RX12, TX12, 43)) rfl rfl (List.mem_flatten.mpr ⟨_, List.mem_of_getElem? (i := 0) rfl, List.mem_cons_self⟩) rfl rfl hl.1 dX12_text_108 (Nat.le_of_ble_eq_true rfl) (Nat.le_of_ble_eq_true rfl) (fun b1 H locs hw G => ?_)
          refine zEx5 hw ?_
          intro j_next_85 j_where_86 j_token_87 j_number_88 j_word_89
          refine zCu8 ?_
          intro hbs9 h_90 h_91 h_92 h_93 h_94 h_95 h_96
          clear hw
          subst hbs9
          have G : zS T A s.heap s [[zAr T 0 m_read 121 (fun _ => 0)], [zO11 mo m_all m_has (f_all 4) j_next_85 j_where_86 j_token_87 j_number_88 j_word_89 0 (-1) m_read i_z0 i_crossings i_inns m_posts m_shut m_here i_steps i_done i_at i_gone m_was m_came m_seenAt m_rowWorth m_farBy m_used i_everywhere i_again0 i_d0 i_never i_firstCame i_longRun i_moved i_crowd i_l0 i_fitMany i_fitLeast i_fitMost m_fitPost m_fitEnd m_keptPosts i_x0], [zAr T 0 m_all 3952 (upd (upd (upd f_all 4 0) 5 0) 6 (-1))]] _ _ := G
          have h_92 : (0 : Int) ≤ j_next_85.toInt := h_92
          have h_93 : (j_token_87.toInt = 0 ∨ (0 : Int) < j_next_85.toInt) := h_93
          refine z_lp11 (T := T) 111 (fun (xn : Int32) (xw : Int32) (xt : Int32) (xu : Int32) (xo : Int32) (xr : Int32) (xf : Int32) (ga : Nat → Int32) (gr : Nat → Int32) (A9 : pS) (j : Nat) => [[zAr T 0 m_read 121 gr], [zO11 mo m_all m_has (f_all 4) xn xw xt xu xo xr xf m_read i_z0 i_crossings i_inns m_posts m_shut m_here i_steps i_done i_at i_gone m_was m_came m_seenAt m_rowWorth m_farBy m_used i_everywhere i_again0 i_d0 i_never i_firstCame i_longRun i_moved i_crowd i_l0 i_fitMany i_fitLeast i_fitMost m_fitPost m_fitEnd m_keptPosts i_x0], [zAr T 0 m_all 3952 ga]]) (fun (xn : Int32) (xw : Int32) (xt : Int32) (xu : Int32) (xo : Int32) (xr : Int32) (xf : Int32) (ga : Nat → Int32) (gr : Nat → Int32) (A9 : pS) (j : Nat) => [(0, .ref mo), (1, .int 1), (2, .int at_)]) (fun (xn : Int32) (xw : Int32) (xt : Int32) (xu : Int32) (xo : Int32) (xr : Int32) (xf : Int32) (ga : Nat → Int32) (gr : Nat → Int32) (A9 : pS) (j : Nat) => zCF 40 gr ∧ 0 ≤ xn.toInt ∧ xn.toInt ≤ (f_all 4).toInt ∧ zPal (upd (upd (upd f_all 4 0) 5 0) 6 (-1)) ga ∧ zRr k N (f_all 4) xn xw xt xu xo xr xf ga A9 ∧ pLines k 1 (601 - j) A9 gr = pLines k 1 601 (0, 0, 0, -1, -1) (fun _ => 0) ∧ (¬ xr.toInt = 0 ∨ xt.toInt = 0 ∨ (j : Int) < xn.toInt)) (fun (xn : Int32) (xw : Int32) (xt : Int32) (xu : Int32) (xo : Int32) (xr : Int32) (xf : Int32) (ga : Nat → Int32) (gr : Nat → Int32) (A9 : pS) (j : Nat) => zMu xr xt xn (f_all 4)) ?_ j_next_85 j_where_86 j_token_87 j_number_88 j_word_89 0 (-1) (upd (upd (upd f_all 4 0) 5 0) 6 (-1)) (fun _ => 0) (0, 0, 0, -1, -1) 0 (show zCF 40 (fun _ => 0) ∧ 0 ≤ j_next_85.toInt ∧ j_next_85.toInt ≤ (f_all 4).toInt ∧ zPal (upd (upd (upd f_all 4 0) 5 0) 6 (-1)) (upd (upd (upd f_all 4 0) 5 0) 6 (-1)) ∧ zRr k N (f_all 4) j_next_85 j_where_86 j_token_87 j_number_88 j_word_89 0 (-1) (upd (upd (upd f_all 4 0) 5 0) 6 (-1)) (0, 0, 0, -1, -1) ∧ pLines k 1 (601 - 0) (0, 0, 0, -1, -1) (fun _ => 0) = pLines k 1 601 (0, 0, 0, -1, -1) (fun _ => 0) ∧ (¬ (0 : Int32).toInt = 0 ∨ j_token_87.toInt = 0 ∨ (0 : Int) < j_next_85.toInt) from ⟨(zCF_z (by decide) (fun j hj => rfl)), by omega, by omega, (zPal_rf _), (zRr_st hk hby hN6 hsN h_96), rfl, by omega⟩) G (lv_sub hl [1, 2, 3] rfl)
          intro xn xw xt xu xo xr xf ga gr A9 j hI9 ih_111 H locs ls G hl
          replace hI9 : zCF 40 gr ∧ 0 ≤ xn.toInt ∧ xn.toInt ≤ (f_all 4).toInt ∧ zPal (upd (upd (upd f_all 4 0) 5 0) 6 (-1)) ga ∧ zRr k N (f_all 4) xn xw xt xu xo xr xf ga A9 ∧ pLines k 1 (601 - j) A9 gr = pLines k 1 601 (0, 0, 0, -1, -1) (fun _ => 0) ∧ (¬ xr.toInt = 0 ∨ xt.toInt = 0 ∨ (j : Int) < xn.toInt) := hI9
          refine zAn7 hI9 ?_
          intro hL hx1 hx2 hpal hRA hEq hpj
          clear hI9
          replace G : zS T A s.heap s [[zAr T 0 m_read 121 gr], [zO11 mo m_all m_has (f_all 4) xn xw xt xu xo xr xf m_read i_z0 i_crossings i_inns m_posts m_shut m_here i_steps i_done i_at i_gone m_was m_came m_seenAt m_rowWorth m_farBy m_used i_everywhere i_again0 i_d0 i_never i_firstCame i_longRun i_moved i_crowd i_l0 i_fitMany i_fitLeast i_fitMost m_fitPost m_fitEnd m_keptPosts i_x0], [zAr T 0 m_all 3952 ga]] _ _ := G
          replace hl : lv_has ls 5 [(0, .ref mo), (1, .int 1), (2, .int at_)] := hl
          refine lv_aload_n hx hb dX12_text_111 rfl (lv_at hl 0 rfl) ?_
          have hokA := zRr_ok hRA
          refine zAn6 (id hRA) ?_
          intro hA1A hA6A hA7A hA8A hA9A hA10A
          replace hA7A : zHd _ := hA7A
          have hkaA : zHd _ := hokA A9.1 hA1A.2.2.2.2
          have hkbA := hkaA.1
          have hkcA := hkaA.2.1
          have hT4A := pTk_le hokA hA1A.2.2.2.2
          refine z_get C G clX12 1 rfl 8 (by decide) m_fl_RX12_104 rfl dX12_text_112 ?_
          refine lv_if_ne (tgt := 173) hx hb dX12_text_115 (by decide) (fun c_98 => ?_) (fun c_98 => ?_)
          · have c_98n : ¬ xr.toInt = (0 : Int) := fun q => c_98 ((fa_eq _ _).mpr q)
            have hX := hEq.symm.trans (pLines_x (fun z9 => by first | (exact absurd z9.1 (by rw [← hA6A]; omega)) | (exact z9.2 (by omega))))
            have hRd := pRead_e (n := N) hX
            have hww : zHd (A9.2.1.toInt = 0 → xw = nI N) := fun z9 => by first | (exact absurd z9 (by rw [← hA6A]; omega)) | (rw [t2A, hkaA.2.2.1 (pTk_0.mp (by omega))])
            refine lv_iload_n hx hb dX12_text_173 rfl (lv_at hl 1 rfl) ?_
            refine lv_if_ne (tgt := 208) hx hb dX12_text_174 (by decide) (fun _ => ?_) (fun q => absurd q (by decide))
            refine lv_iload_n hx hb dX12_text_208 rfl (lv_at hl 1 rfl) ?_
            refine lv_if_ne (tgt := 237) hx hb dX12_text_209 (by decide) (fun _ => ?_) (fun q => absurd q (by decide))
            have hZ1 : zRr k N (f_all 4) xn xw xt xu xo xr xf ga (pRead k N 1).1 := by rw [hRd, pFin_s (by decide)]; exact hRA
            have hZ2 : (pRead k N 1).2 = gr := by rw [hRd, pFin_s (by decide)]
            have hZ5 := hZ1.2.2.2.1
            have hZ6 := hZ1.2.2.2.2.1
            have hZ5i := congrArg Int32.toInt hZ5
            exact jn_237 xn xw xt xu xo xr xf ga gr (show zCF 40 gr ∧ zPal (upd (upd (upd f_all 4 0) 5 0) 6 (-1)) ga ∧ zRr k N (f_all 4) xn xw xt xu xo xr xf ga (pRead k N 1).1 ∧ (pRead k N 1).2 = gr from ⟨(by first | with_reducible assumption | assumption), hpal, hZ1, hZ2⟩) _ _ ls G (lv_sub hl [0, 1, 2] rfl)
          · have c_98n : xr.toInt = (0 : Int) := (fa_eq _ _).mp c_98
            have hwA : A9.2.1.toInt = 0 := by rw [← hA6A]; omega
            refine zAn5 (hA7A hwA) ?_
            intro t1A t2A t3A t4A t5A
            replace t4A : zHd _ := t4A
            replace t5A : zHd _ := t5A
            have t3iA : xt.toInt = (pTk k A9.1 : Int) := by rw [t3A]; exact nI_toInt (by omega)
            refine lv_aload_n hx hb dX12_text_118 rfl (lv_at hl 0 rfl) ?_
            refine z_get C G clX12 1 rfl 5 (by decide) m_fl_RX12_80 rfl dX12_text_119 ?_
            refine lv_if_eq (tgt := 173) hx hb dX12_text_122 (by decide) (fun c_99 => ?_) (fun c_99 => ?_)
            · have c_99n : xt.toInt = (0 : Int) := (fa_eq _ _).mp c_99
              have hX := hEq.symm.trans (pLines_x (fun z9 => by first | (exact absurd z9.1 (by rw [← hA6A]; omega)) | (exact z9.2 (by omega))))
              have hRd := pRead_e (n := N) hX
              have hww : zHd (A9.2.1.toInt = 0 → xw = nI N) := fun z9 => by first | (exact absurd z9 (by rw [← hA6A]; omega)) | (rw [t2A, hkaA.2.2.1 (pTk_0.mp (by omega))])
              refine lv_iload_n hx hb dX12_text_173 rfl (lv_at hl 1 rfl) ?_
              refine lv_if_ne (tgt := 208) hx hb dX12_text_174 (by decide) (fun _ => ?_) (fun q => absurd q (by decide))
              refine lv_iload_n hx hb dX12_text_208 rfl (lv_at hl 1 rfl) ?_
              refine lv_if_ne (tgt := 237) hx hb dX12_text_209 (by decide) (fun _ => ?_) (fun q => absurd q (by decide))
              have hZ1 : zRr k N (f_all 4) xn xw xt xu xo xr xf ga (pRead k N 1).1 := by rw [hRd, pFin_s (by decide)]; exact hRA
              have hZ2 : (pRead k N 1).2 = gr := by rw [hRd, pFin_s (by decide)]
              have hZ5 := hZ1.2.2.2.1
              have hZ6 := hZ1.2.2.2.2.1
              have hZ5i := congrArg Int32.toInt hZ5
              exact jn_237 xn xw xt xu xo xr xf ga gr (show zCF 40 gr ∧ zPal (upd (upd (upd f_all 4 0) 5 0) 6 (-1)) ga ∧ zRr k N (f_all 4) xn xw xt xu xo xr xf ga (pRead k N 1).1 ∧ (pRead k N 1).2 = gr from ⟨(by first | with_reducible assumption | assumption), hpal, hZ1, hZ2⟩) _ _ ls G (lv_sub hl [0, 1, 2] rfl)
            · have c_99n : ¬ xt.toInt = (0 : Int) := fun q => c_99 ((fa_eq _ _).mpr q)
              have htA : ¬ pTk k A9.1 = 0 := by omega
              refine lv_iload_n hx hb dX12_text_125 rfl (lv_at hl 1 rfl) ?_
              refine lv_lookup (tgt := 159) hx hb dX12_text_126 (by decide) rfl (by decide) ?_
              refine lv_aload_n hx hb dX12_text_159 rfl (lv_at hl 0 rfl) ?_
              refine z_Vv (bc := [[zO11 mo m_all m_has (f_all 4) xn xw xt xu xo xr xf m_read i_z0 i_crossings i_inns m_posts m_shut m_here i_steps i_done i_at i_gone m_was m_came m_seenAt m_rowWorth m_farBy m_used i_everywhere i_again0 i_d0 i_never i_firstCame i_longRun i_moved i_crowd i_l0 i_fitMany i_fitLeast i_fitMost m_fitPost m_fitEnd m_keptPosts i_x0], [zAr T 0 m_all 3952 ga], [zAr T 0 m_read 121 gr]]) (br := []) (As := []) (rest := []) C G (c_fm_dayLine l T mo m_all m_has (f_all 4) xn xw xt xu xo xr xf m_read i_z0 i_crossings i_inns m_posts m_shut m_here i_steps i_done i_at i_gone m_was m_came m_seenAt m_rowWorth m_farBy m_used i_everywhere i_again0 i_d0 i_never i_firstCame i_longRun i_moved i_crowd i_l0 i_fitMany i_fitLeast i_fitMost m_fitPost m_fitEnd m_keptPosts i_x0 ga gr k N A9 (by first | with_reducible assumption | with_reducible rfl | omega | assumption | rfl) (by first | with_reducible assumption | with_reducible rfl | omega | assumption | rfl) (by first | with_reducible assumption | with_reducible rfl | omega | assumption | rfl) (by first | with_reducible assumption | with_reducible rfl | omega | assumption | rfl) hRA hwA) (kV_RX12_150 C.2.2.2.2 (Nat.le_of_ble_eq_true rfl) (Nat.le_of_ble_eq_true rfl)) [1, 2, 0] [0, 0, 0] rfl rfl (ci := 11) (qc := (RX12, TX12, 43)) rfl rfl (List.mem_flatten.mpr ⟨_, List.mem_of_getElem? (i := 0) rfl, List.mem_cons_self⟩) rfl rfl hl.1 dX12_text_160 (Nat.le_of_ble_eq_true rfl) (Nat.le_of_ble_eq_true rfl) (fun b1 H locs hw G => ?_)
              refine zEx8 hw ?_
              intro j_next_100 j_where_101 j_token_102 j_number_103 j_word_104 j_wrong_105 g_all_106 g_read_107
              refine zCu9 ?_
              intro hbs9 h_108 h_109 h_110 h_111 h_112 h_113 h_114 h_115
              clear hw
              subst hbs9
              have G : zS T A s.heap s [[zO11 mo m_all m_has (f_all 4) j_next_100 j_where_101 j_token_102 j_number_103 j_word_104 j_wrong_105 xf m_read i_z0 i_crossings i_inns m_posts m_shut m_here i_steps i_done i_at i_gone m_was m_came m_seenAt m_rowWorth m_farBy m_used i_everywhere i_again0 i_d0 i_never i_firstCame i_longRun i_moved i_crowd i_l0 i_fitMany i_fitLeast i_fitMost m_fitPost m_fitEnd m_keptPosts i_x0], [zAr T 0 m_all 3952 g_all_106], [zAr T 0 m_read 121 g_read_107]] _ _ := G
              have hnR : zRr k N (f_all 4) j_next_100 j_where_101 j_token_102 j_number_103 j_word_104 j_wrong_105 xf g_all_106 (pLine k 1 A9 gr).1 := by rw [pLine_1]; exact h_114
              have hnG : g_read_107 = (pLine k 1 A9 gr).2 := by rw [pLine_1]; exact h_115
              refine lv_goto (tgt := 111) hx hb dX12_text_163 (by decide) ?_
              have G := G.sub (bs' := [[zAr T 0 m_read 121 g_read_107], [zO11 mo m_all m_has (f_all 4) j_next_100 j_where_101 j_token_102 j_number_103 j_word_104 j_wrong_105 xf m_read i_z0 i_crossings i_inns m_posts m_shut m_here i_steps i_done i_at i_gone m_was m_came m_seenAt m_rowWorth m_farBy m_used i_everywhere i_again0 i_d0 i_never i_firstCame i_longRun i_moved i_crowd i_l0 i_fitMany i_fitLeast i_fitMost m_fitPost m_fitEnd m_keptPosts i_x0], [zAr T 0 m_all 3952 g_all_106]]) [2, 0, 1] rfl
              exact ih_111 j_next_100 j_where_101 j_token_102 j_number_103 j_word_104 j_wrong_105 xf g_all_106 g_read_107 ((pLine k 1 A9 gr).1) (j + 1) (show zCF 40 g_read_107 ∧ 0 ≤ j_next_100.toInt ∧ j_next_100.toInt ≤ (f_all 4).toInt ∧ zPal (upd (upd (upd f_all 4 0) 5 0) 6 (-1)) g_all_106 ∧ zRr k N (f_all 4) j_next_100 j_where_101 j_token_102 j_number_103 j_word_104 j_wrong_105 xf g_all_106 ((pLine k 1 A9 gr).1) ∧ pLines k 1 (601 - (j + 1)) ((pLine k 1 A9 gr).1) g_read_107 = pLines k 1 601 (0, 0, 0, -1, -1) (fun _ => 0) ∧ (¬ j_wrong_105.toInt = 0 ∨ j_token_102.toInt = 0 ∨ ((j + 1) : Int) < j_next_100.toInt) from ⟨(by first | with_reducible assumption | assumption), by omega, by omega, (hpal.tr h_112), hnR, (by rw [hnG]; exact pLines_n (by omega) hwA htA hEq), by omega⟩) (show zMu j_wrong_105 j_token_102 j_next_100 (f_all 4) < zMu xr xt xn (f_all 4) from zMu_lt (by omega) (by omega) (by omega) (by omega)) _ _ ls G (lv_sub hl [0, 1, 2] rfl)
        · have c_84n : ¬ 121 ≤ k_ := fun q => c_84 ((nI_leI (a := 121) (b := k_) (by omega) (by omega)).mpr q)
          refine lv_aload_n hx hb dX12_text_94 rfl (lv_at hl 1 rfl) ?_
          refine z_get C G clX12 1 rfl 10 (by decide) m_fl_RX12_17 rfl dX12_text_95 ?_
          refine lv_iload_n hx hb dX12_text_98 rfl (lv_at hl 0 rfl) ?_
          refine lv_iconst (v := 0) hx hb dX12_text_99 (by decide) ?_
          refine z_ist C G 0 rfl (vp_in_nI (by omega) (by decide)) dX12_text_100 (fun H locs G => ?_)
          rw [nI_clamp (by omega)] at G
          have G : zS T A s.heap s [[zAr T 0 m_read 121 (upd z k_ 0)], [zO11 mo m_all m_has (f_all 4) 0 i_where i_token i_number i_word 0 (-1) m_read i_z0 i_crossings i_inns m_posts m_shut m_here i_steps i_done i_at i_gone m_was m_came m_seenAt m_rowWorth m_farBy m_used i_everywhere i_again0 i_d0 i_never i_firstCame i_longRun i_moved i_crowd i_l0 i_fitMany i_fitLeast i_fitMost m_fitPost m_fitEnd m_keptPosts i_x0], [zAr T 0 m_all 3952 (upd (upd (upd f_all 4 0) 5 0) 6 (-1))]] _ _ := G
          refine lv_iinc (v := nI (k_ + 1)) (lv' := [(3, .int (nI (k_ + 1))), (0, .ref mo), (1, .int 1), (2, .int at_)]) hx hb dX12_text_101 hl (k := 0) rfl (z_inc k_ 1) (by decide) (zLvf_h rfl) (fun ls hl => ?_)
          refine lv_goto (tgt := 88) hx hb dX12_text_104 (by decide) ?_
          exact ih_88 (k_ + 1) (upd z k_ 0) (show (k_ + 1) ≤ 121 ∧ (∀ j, j < (k_ + 1) → (upd z k_ 0) j = 0) from ⟨by omega, z_updE (F := fun _ => 0) hZ rfl⟩) (show 121 - (k_ + 1) < 121 - k_ from by omega) _ _ ls G (lv_sub hl [0, 1, 2, 3] rfl)
      · have h_67 : (at_.toInt < 0 ∨ ((upd (upd (upd f_all 4 0) 5 0) 6 (-1)) 1).toInt ≤ at_.toInt) := h_67
        refine lv_if_ne (tgt := 71) hx hb dX12_text_65 (by decide) (fun q => absurd (by decide) q) (fun _ => ?_)
        refine lv_bipush (v := (-2)) hx hb dX12_text_68 (by decide) ?_
        have G := G.sub (bs' := [[zO11 mo m_all m_has (f_all 4) i_next i_where i_token i_number i_word i_wrong i_farCrossing m_read i_z0 i_crossings i_inns m_posts m_shut m_here i_steps i_done i_at i_gone m_was m_came m_seenAt m_rowWorth m_farBy m_used i_everywhere i_again0 i_d0 i_never i_firstCame i_longRun i_moved i_crowd i_l0 i_fitMany i_fitLeast i_fitMost m_fitPost m_fitEnd m_keptPosts i_x0], [zAr T 0 m_all 3952 (upd (upd (upd f_all 4 0) 5 0) 6 (-1))], [zAr T 0 m_read 121 f_read]]) [1, 2, 0] rfl
        exact z_back hQz_ (z_iret C hr hlocks G (Nat.le_of_ble_eq_true rfl) (Nat.le_of_ble_eq_true rfl) dX12_text_70 ⟨(f_all 4), i_next, i_where, i_token, i_number, i_word, i_wrong, i_farCrossing, (upd (upd (upd f_all 4 0) 5 0) 6 (-1)), f_read, rfl, (zBI_hd hB rfl (fun q hq => by rw [hF q (by omega) (by omega) (by omega)]; exact hB.2.1 q hq) (fun j hj => hF j (by omega) (by omega) (by omega))), rfl, (fun j hj => hF j (by omega) (by omega) (by omega)), (zText_b (fun z9 => by have z8 := hoi.mp z9; omega))⟩)
  · have h_6 : ((1 : Int) < (0 : Int) ∨ (2 : Int) < (1 : Int)) := h_6
    refine lv_if_eq (tgt := 68) hx hb dX12_text_38 (by decide) (fun _ => ?_) (fun q => absurd (by decide) q)
    refine lv_bipush (v := (-2)) hx hb dX12_text_68 (by decide) ?_
    exact z_back hQz_ (z_iret C hr hlocks G (Nat.le_of_ble_eq_true rfl) (Nat.le_of_ble_eq_true rfl) dX12_text_70 ⟨(f_all 4), i_next, i_where, i_token, i_number, i_word, i_wrong, i_farCrossing, (upd (upd (upd f_all 4 0) 5 0) 6 (-1)), f_read, rfl, (zBI_hd hB rfl (fun q hq => by rw [hF q (by omega) (by omega) (by omega)]; exact hB.2.1 q hq) (fun j hj => hF j (by omega) (by omega) (by omega))), rfl, (fun j hj => hF j (by omega) (by omega) (by omega)), (by exfalso; omega)⟩)

set_option maxHeartbeats 4000000 in
set_option maxRecDepth 100000 in
/-- postsAreThere -/
theorem c_fm_postsAreThere (l : Launch) (T : zTy) (mo : Nat) (m_all : Nat) (m_has : Nat) (i_size : Int32) (i_next : Int32) (i_where : Int32) (i_token : Int32) (i_number : Int32) (i_word : Int32) (i_wrong : Int32) (i_farCrossing : Int32) (m_read : Nat) (i_z0 : Int32) (i_crossings : Int32) (i_inns : Int32) (m_posts : Nat) (m_shut : Nat) (m_here : Nat) (i_steps : Int32) (i_done : Int32) (i_at : Int32) (i_gone : Int32) (m_was : Nat) (m_came : Nat) (m_seenAt : Nat) (m_rowWorth : Nat) (m_farBy : Nat) (m_used : Nat) (i_everywhere : Int32) (i_again0 : Int32) (i_d0 : Int32) (i_never : Int32) (i_firstCame : Int32) (i_longRun : Int32) (i_moved : Int32) (i_crowd : Int32) (i_l0 : Int32) (i_fitMany : Int32) (i_fitLeast : Int32) (i_fitMost : Int32) (m_fitPost : Nat) (m_fitEnd : Nat) (m_keptPosts : Nat) (i_x0 : Int32) (f_read : Nat → Int32) : zMi l T yX12_postsAreThere cX12_postsAreThere 3 (some .boolean) 1 0 0 [.ref mo] [[zO11 mo m_all m_has i_size i_next i_where i_token i_number i_word i_wrong i_farCrossing m_read i_z0 i_crossings i_inns m_posts m_shut m_here i_steps i_done i_at i_gone m_was m_came m_seenAt m_rowWorth m_farBy m_used i_everywhere i_again0 i_d0 i_never i_firstCame i_longRun i_moved i_crowd i_l0 i_fitMany i_fitLeast i_fitMost m_fitPost m_fitEnd m_keptPosts i_x0], [zAr T 0 m_read 121 f_read]] (fun (r : Int32) bs => bs = [[zO11 mo m_all m_has i_size i_next i_where i_token i_number i_word i_wrong i_farCrossing m_read i_z0 i_crossings i_inns m_posts m_shut m_here i_steps i_done i_at i_gone m_was m_came m_seenAt m_rowWorth m_farBy m_used i_everywhere i_again0 i_d0 i_never i_firstCame i_longRun i_moved i_crowd i_l0 i_fitMany i_fitLeast i_fitMost m_fitPost m_fitEnd m_keptPosts i_x0], [zAr T 0 m_read 121 f_read]] ∧ ((r = 1 ∧ pPosts f_read = true) ∨ (r = 0 ∧ pPosts f_read = false))) := by
  refine zMi_of (own := RX12) (by decide) rfl (Nat.le_of_ble_eq_true rfl) ?_
  intro p e s m args below meth c A ls C hr hlocks hnm hAe G hl
  refine zHide (fun Q9 hQ9 => ?_)
  have hx := C.1
  have hb := C.2.1
  have hl : lv_has ls 3 [(0, .ref mo)] := hl
  refine lv_iconst (v := 1) hx hb dX12_postsAreThere_0 (by decide) ?_
  refine lv_istore_n (lv' := [(1, .int 1), (0, .ref mo)]) hx hb dX12_postsAreThere_1 rfl hl (by decide) rfl (fun ls hl => ?_)
  refine lv_iconst (v := 0) hx hb dX12_postsAreThere_2 (by decide) ?_
  refine lv_istore_n (lv' := [(2, .int 0), (1, .int 1), (0, .ref mo)]) hx hb dX12_postsAreThere_3 rfl hl (by decide) rfl (fun ls hl => ?_)
  refine z_lp2 (T := T) 4 (fun (b : Int32) (i : Nat) => [[zO11 mo m_all m_has i_size i_next i_where i_token i_number i_word i_wrong i_farCrossing m_read i_z0 i_crossings i_inns m_posts m_shut m_here i_steps i_done i_at i_gone m_was m_came m_seenAt m_rowWorth m_farBy m_used i_everywhere i_again0 i_d0 i_never i_firstCame i_longRun i_moved i_crowd i_l0 i_fitMany i_fitLeast i_fitMost m_fitPost m_fitEnd m_keptPosts i_x0], [zAr T 0 m_read 121 f_read]]) (fun (b : Int32) (i : Nat) => [(2, .int (nI i)), (1, .int b), (0, .ref mo)]) (fun (b : Int32) (i : Nat) => i ≤ 7 ∧ (b = 1 ∧ (∀ c, c < i → zGd f_read c) ∨ b = 0 ∧ ∃ c, c < i ∧ ¬ zGd f_read c)) (fun (b : Int32) (i : Nat) => 7 - i) ?_ 1 0 (show 0 ≤ 7 ∧ (1 = 1 ∧ (∀ c, c < 0 → zGd f_read c) ∨ 1 = 0 ∧ ∃ c, c < 0 ∧ ¬ zGd f_read c) from ⟨by omega, (Or.inl ⟨rfl, fun c hc => absurd hc (Nat.not_lt_zero _)⟩)⟩) G (lv_sub hl [0, 1, 2] rfl)
  intro b i hI9 ih_4 H locs ls G hl
  replace hI9 : i ≤ 7 ∧ (b = 1 ∧ (∀ c, c < i → zGd f_read c) ∨ b = 0 ∧ ∃ c, c < i ∧ ¬ zGd f_read c) := hI9
  refine zAn2 hI9 ?_
  intro hi hbb
  clear hI9
  replace G : zS T A s.heap s [[zO11 mo m_all m_has i_size i_next i_where i_token i_number i_word i_wrong i_farCrossing m_read i_z0 i_crossings i_inns m_posts m_shut m_here i_steps i_done i_at i_gone m_was m_came m_seenAt m_rowWorth m_farBy m_used i_everywhere i_again0 i_d0 i_never i_firstCame i_longRun i_moved i_crowd i_l0 i_fitMany i_fitLeast i_fitMost m_fitPost m_fitEnd m_keptPosts i_x0], [zAr T 0 m_read 121 f_read]] _ _ := G
  replace hl : lv_has ls 3 [(2, .int (nI i)), (1, .int b), (0, .ref mo)] := hl
  refine lv_iload_n hx hb dX12_postsAreThere_4 rfl (lv_at hl 0 rfl) ?_
  refine lv_bipush (v := 7) hx hb dX12_postsAreThere_5 (by decide) ?_
  refine lv_icmp_ge (tgt := 58) hx hb dX12_postsAreThere_7 (by decide) (fun c_1 => ?_) (fun c_1 => ?_)
  · have c_1n : 7 ≤ i := (nI_leI (a := 7) (b := i) (by omega) (by omega)).mp c_1
    rcases hbb with ⟨rfl, hg⟩ | ⟨rfl, hb0⟩
    · refine lv_iload_n hx hb dX12_postsAreThere_58 rfl (lv_at hl 1 rfl) ?_
      exact z_back hQ9 (z_zret C hr hlocks G (Nat.le_of_ble_eq_true rfl) (Nat.le_of_ble_eq_true rfl) dX12_postsAreThere_59 rfl ⟨rfl, (Or.inl (⟨rfl, (zGd_p (fun c hc => hg c (by omega)))⟩))⟩)
    · refine lv_iload_n hx hb dX12_postsAreThere_58 rfl (lv_at hl 1 rfl) ?_
      exact z_back hQ9 (z_zret C hr hlocks G (Nat.le_of_ble_eq_true rfl) (Nat.le_of_ble_eq_true rfl) dX12_postsAreThere_59 rfl ⟨rfl, (Or.inr (⟨rfl, (zGd_n (by obtain ⟨c9, u9, v9⟩ := hb0; exact ⟨c9, by omega, v9⟩))⟩))⟩)
  · have c_1n : ¬ 7 ≤ i := fun q => c_1 ((nI_leI (a := 7) (b := i) (by omega) (by omega)).mpr q)
    rcases hbb with ⟨rfl, hg⟩ | ⟨rfl, hb0⟩
    · refine lv_iload_n hx hb dX12_postsAreThere_10 rfl (lv_at hl 1 rfl) ?_
      refine lv_if_eq (tgt := 50) hx hb dX12_postsAreThere_11 (by decide) (fun q => absurd q (by decide)) (fun _ => ?_)
      refine lv_aload_n hx hb dX12_postsAreThere_14 rfl (lv_at hl 2 rfl) ?_
      refine z_get C G clX12 0 rfl 10 (by decide) m_fl_RX12_17 rfl dX12_postsAreThere_15 ?_
      refine lv_bipush (v := 9) hx hb dX12_postsAreThere_18 (by decide) ?_
      refine lv_iload_n hx hb dX12_postsAreThere_20 rfl (lv_at hl 0 rfl) ?_
      refine lv_iadd hx hb dX12_postsAreThere_21 ?_
      refine lv_topi (fun y_2 ey_2 => ?_)
      obtain rfl : y_2 = nI (9 + i) := ey_2.trans (z_iaddn 9 i rfl rfl)
      refine z_ild C G 1 rfl (vp_in_nI (by omega) (by omega)) dX12_postsAreThere_22 ?_
      refine lv_topi (fun v_3 ev_3 => ?_)
      rw [nI_clamp (by omega)] at ev_3
      subst ev_3
      refine lv_if_eq (tgt := 46) hx hb dX12_postsAreThere_23 (by decide) (fun c_4 => ?_) (fun c_4 => ?_)
      · have c_4n : (f_read (9 + i)).toInt = (0 : Int) := (fa_eq _ _).mp c_4
        refine lv_iconst (v := 1) hx hb dX12_postsAreThere_46 (by decide) ?_
        refine lv_goto (tgt := 51) hx hb dX12_postsAreThere_47 (by decide) ?_
        refine lv_istore_n (lv' := [(1, .int 1), (2, .int (nI i)), (0, .ref mo)]) hx hb dX12_postsAreThere_51 rfl hl (by decide) rfl (fun ls hl => ?_)
        refine lv_iinc (v := nI (i + 1)) (lv' := [(2, .int (nI (i + 1))), (1, .int 1), (0, .ref mo)]) hx hb dX12_postsAreThere_52 hl (k := 1) rfl (z_inc i 1) (by decide) rfl (fun ls hl => ?_)
        refine lv_goto (tgt := 4) hx hb dX12_postsAreThere_55 (by decide) ?_
        exact ih_4 1 (i + 1) (show (i + 1) ≤ 7 ∧ (1 = 1 ∧ (∀ c, c < (i + 1) → zGd f_read c) ∨ 1 = 0 ∧ ∃ c, c < (i + 1) ∧ ¬ zGd f_read c) from ⟨by omega, (Or.inl ⟨rfl, zGd_s hg (by first | exact Or.inl (by omega) | exact Or.inr (by omega))⟩)⟩) (show 7 - (i + 1) < 7 - i from by omega) _ _ ls G (lv_sub hl [0, 1, 2] rfl)
      · have c_4n : ¬ (f_read (9 + i)).toInt = (0 : Int) := fun q => c_4 ((fa_eq _ _).mpr q)
        refine lv_aload_n hx hb dX12_postsAreThere_26 rfl (lv_at hl 2 rfl) ?_
        refine z_get C G clX12 0 rfl 10 (by decide) m_fl_RX12_17 rfl dX12_postsAreThere_27 ?_
        refine lv_bipush (v := 9) hx hb dX12_postsAreThere_30 (by decide) ?_
        refine lv_iload_n hx hb dX12_postsAreThere_32 rfl (lv_at hl 0 rfl) ?_
        refine lv_iadd hx hb dX12_postsAreThere_33 ?_
        refine lv_topi (fun y_5 ey_5 => ?_)
        obtain rfl : y_5 = nI (9 + i) := ey_5.trans (z_iaddn 9 i rfl rfl)
        refine z_ild C G 1 rfl (vp_in_nI (by omega) (by omega)) dX12_postsAreThere_34 ?_
        refine lv_topi (fun v_6 ev_6 => ?_)
        rw [nI_clamp (by omega)] at ev_6
        subst ev_6
        refine lv_aload_n hx hb dX12_postsAreThere_35 rfl (lv_at hl 2 rfl) ?_
        refine z_get C G clX12 0 rfl 10 (by decide) m_fl_RX12_17 rfl dX12_postsAreThere_36 ?_
        refine lv_iconst (v := 2) hx hb dX12_postsAreThere_39 (by decide) ?_
        refine lv_iload_n hx hb dX12_postsAreThere_40 rfl (lv_at hl 0 rfl) ?_
        refine lv_iadd hx hb dX12_postsAreThere_41 ?_
        refine lv_topi (fun y_7 ey_7 => ?_)
        obtain rfl : y_7 = nI (2 + i) := ey_7.trans (z_iaddn 2 i rfl rfl)
        refine z_ild C G 1 rfl (vp_in_nI (by omega) (by omega)) dX12_postsAreThere_42 ?_
        refine lv_topi (fun v_8 ev_8 => ?_)
        rw [nI_clamp (by omega)] at ev_8
        subst ev_8
        refine lv_icmp_ge (tgt := 50) hx hb dX12_postsAreThere_43 (by decide) (fun c_9 => ?_) (fun c_9 => ?_)
        · have c_9n : (f_read (2 + i)).toInt ≤ (f_read (9 + i)).toInt := (fa_le _ _).mp c_9
          refine lv_iconst (v := 0) hx hb dX12_postsAreThere_50 (by decide) ?_
          refine lv_istore_n (lv' := [(1, .int 0), (2, .int (nI i)), (0, .ref mo)]) hx hb dX12_postsAreThere_51 rfl hl (by decide) rfl (fun ls hl => ?_)
          refine lv_iinc (v := nI (i + 1)) (lv' := [(2, .int (nI (i + 1))), (1, .int 0), (0, .ref mo)]) hx hb dX12_postsAreThere_52 hl (k := 1) rfl (z_inc i 1) (by decide) rfl (fun ls hl => ?_)
          refine lv_goto (tgt := 4) hx hb dX12_postsAreThere_55 (by decide) ?_
          exact ih_4 0 (i + 1) (show (i + 1) ≤ 7 ∧ (0 = 1 ∧ (∀ c, c < (i + 1) → zGd f_read c) ∨ 0 = 0 ∧ ∃ c, c < (i + 1) ∧ ¬ zGd f_read c) from ⟨by omega, (by first | exact Or.inr ⟨rfl, zGd_e hb0⟩ | exact Or.inr ⟨rfl, i, Nat.lt_succ_self i, fun z9 => by rcases z9 with z9 | z9 <;> omega⟩)⟩) (show 7 - (i + 1) < 7 - i from by omega) _ _ ls G (lv_sub hl [0, 1, 2] rfl)
        · have c_9n : ¬ (f_read (2 + i)).toInt ≤ (f_read (9 + i)).toInt := fun q => c_9 ((fa_le _ _).mpr q)
          refine lv_iconst (v := 1) hx hb dX12_postsAreThere_46 (by decide) ?_
          refine lv_goto (tgt := 51) hx hb dX12_postsAreThere_47 (by decide) ?_
          refine lv_istore_n (lv' := [(1, .int 1), (2, .int (nI i)), (0, .ref mo)]) hx hb dX12_postsAreThere_51 rfl hl (by decide) rfl (fun ls hl => ?_)
          refine lv_iinc (v := nI (i + 1)) (lv' := [(2, .int (nI (i + 1))), (1, .int 1), (0, .ref mo)]) hx hb dX12_postsAreThere_52 hl (k := 1) rfl (z_inc i 1) (by decide) rfl (fun ls hl => ?_)
          refine lv_goto (tgt := 4) hx hb dX12_postsAreThere_55 (by decide) ?_
          exact ih_4 1 (i + 1) (show (i + 1) ≤ 7 ∧ (1 = 1 ∧ (∀ c, c < (i + 1) → zGd f_read c) ∨ 1 = 0 ∧ ∃ c, c < (i + 1) ∧ ¬ zGd f_read c) from ⟨by omega, (Or.inl ⟨rfl, zGd_s hg (by first | exact Or.inl (by omega) | exact Or.inr (by omega))⟩)⟩) (show 7 - (i + 1) < 7 - i from by omega) _ _ ls G (lv_sub hl [0, 1, 2] rfl)
    · refine lv_iload_n hx hb dX12_postsAreThere_10 rfl (lv_at hl 1 rfl) ?_
      refine lv_if_eq (tgt := 50) hx hb dX12_postsAreThere_11 (by decide) (fun _ => ?_) (fun q => absurd (by decide) q)
      refine lv_iconst (v := 0) hx hb dX12_postsAreThere_50 (by decide) ?_
      refine lv_istore_n (lv' := [(1, .int 0), (2, .int (nI i)), (0, .ref mo)]) hx hb dX12_postsAreThere_51 rfl hl (by decide) rfl (fun ls hl => ?_)
      refine lv_iinc (v := nI (i + 1)) (lv' := [(2, .int (nI (i + 1))), (1, .int 0), (0, .ref mo)]) hx hb dX12_postsAreThere_52 hl (k := 1) rfl (z_inc i 1) (by decide) rfl (fun ls hl => ?_)
      refine lv_goto (tgt := 4) hx hb dX12_postsAreThere_55 (by decide) ?_
      exact ih_4 0 (i + 1) (show (i + 1) ≤ 7 ∧ (0 = 1 ∧ (∀ c, c < (i + 1) → zGd f_read c) ∨ 0 = 0 ∧ ∃ c, c < (i + 1) ∧ ¬ zGd f_read c) from ⟨by omega, (by first | exact Or.inr ⟨rfl, zGd_e hb0⟩ | exact Or.inr ⟨rfl, i, Nat.lt_succ_self i, fun z9 => by rcases z9 with z9 | z9 <;> omega⟩)⟩) (show 7 - (i + 1) < 7 - i from by omega) _ _ ls G (lv_sub hl [0, 1, 2] rfl)
set_option maxHeartbeats 4000000 in
set_option maxRecDepth 100000 in
/-- c_fm_text0 -/
theorem c_fm_text0 (l : Launch) (T : zTy) (mo : Nat) (m_all : Nat) (m_has : Nat) (i_size : Int32) (i_next : Int32) (i_where : Int32) (i_token : Int32) (i_number : Int32) (i_word : Int32) (i_wrong : Int32) (i_farCrossing : Int32) (m_read : Nat) (i_z0 : Int32) (i_crossings : Int32) (i_inns : Int32) (m_posts : Nat) (m_shut : Nat) (m_here : Nat) (i_steps : Int32) (i_done : Int32) (i_at : Int32) (i_gone : Int32) (m_was : Nat) (m_came : Nat) (m_seenAt : Nat) (m_rowWorth : Nat) (m_farBy : Nat) (m_used : Nat) (i_everywhere : Int32) (i_again0 : Int32) (i_d0 : Int32) (i_never : Int32) (i_firstCame : Int32) (i_longRun : Int32) (i_moved : Int32) (i_crowd : Int32) (i_l0 : Int32) (i_fitMany : Int32) (i_fitLeast : Int32) (i_fitMost : Int32) (m_fitPost : Nat) (m_fitEnd : Nat) (m_keptPosts : Nat) (i_x0 : Int32) (f_all : Nat → Int32) (f_read : Nat → Int32) (k : pT) (N : Nat) (at_ : Int32) (hB : zBI f_all) (hsN : f_all 4 = nI N) (hN6 : N ≤ 600) (hk : k = tkT (fun j => f_all (10 + j)) N) (hby : ∀ j, j < N → 0 ≤ (f_all (10 + j)).toInt) : zMi l T yX12_text cX12_text 5 (some .int) 9 0 0 [.ref mo, .int 0, .int at_] [[zO11 mo m_all m_has i_size i_next i_where i_token i_number i_word i_wrong i_farCrossing m_read i_z0 i_crossings i_inns m_posts m_shut m_here i_steps i_done i_at i_gone m_was m_came m_seenAt m_rowWorth m_farBy m_used i_everywhere i_again0 i_d0 i_never i_firstCame i_longRun i_moved i_crowd i_l0 i_fitMany i_fitLeast i_fitMost m_fitPost m_fitEnd m_keptPosts i_x0], [zAr T 0 m_all 3952 f_all], [zAr T 0 m_read 121 f_read]] (fun (r : Int32) bs => ∃ (j_size : Int32) (j_next : Int32) (j_where : Int32) (j_token : Int32) (j_number : Int32) (j_word : Int32) (j_wrong : Int32) (j_farCrossing : Int32) (g_all : Nat → Int32) (g_read : Nat → Int32), bs = [[zO11 mo m_all m_has j_size j_next j_where j_token j_number j_word j_wrong j_farCrossing m_read i_z0 i_crossings i_inns m_posts m_shut m_here i_steps i_done i_at i_gone m_was m_came m_seenAt m_rowWorth m_farBy m_used i_everywhere i_again0 i_d0 i_never i_firstCame i_longRun i_moved i_crowd i_l0 i_fitMany i_fitLeast i_fitMost m_fitPost m_fitEnd m_keptPosts i_x0], [zAr T 0 m_all 3952 g_all], [zAr T 0 m_read 121 g_read]] ∧ zBI g_all ∧ g_all 4 = 0 ∧ (∀ j, 988 ≤ j → g_all j = f_all j) ∧ (zText (pRead k N 0) 0 at_ f_all g_all r)) := by
  refine zMi_of (own := RX12) (by decide) rfl (Nat.le_of_ble_eq_true rfl) ?_
  intro p e s m args below meth c A ls C hr hlocks hnm hAe G hl
  refine zHide (fun Q9 hQ9 => ?_)
  have hx := C.1
  have hb := C.2.1
  have hl : lv_has ls 5 [(0, .ref mo), (1, .int 0), (2, .int at_)] := hl
  refine lv_aload_n hx hb dX12_text_0 rfl (lv_at hl 0 rfl) ?_
  refine lv_aload_n hx hb dX12_text_1 rfl (lv_at hl 0 rfl) ?_
  refine z_get C G clX12 0 rfl 0 (by decide) m_fl_RX12_7 rfl dX12_text_2 ?_
  refine lv_iconst (v := 4) hx hb dX12_text_5 (by decide) ?_
  refine z_ild C G 1 rfl (vp_in_nI (n := 4) (by decide) (by decide)) dX12_text_6 ?_
  refine lv_topi (fun v_1 ev_1 => ?_)
  rw [show ((4 : Int32).toNatClampNeg) = 4 from rfl] at ev_1
  subst ev_1
  refine z_put C G clX12 0 rfl 2 (by decide) m_fl_RX12_56 rfl rfl rfl (Nat.le_of_ble_eq_true rfl) dX12_text_7 (fun H locs G => ?_)
  have G : zS T A s.heap s [[zO11 mo m_all m_has (f_all 4) i_next i_where i_token i_number i_word i_wrong i_farCrossing m_read i_z0 i_crossings i_inns m_posts m_shut m_here i_steps i_done i_at i_gone m_was m_came m_seenAt m_rowWorth m_farBy m_used i_everywhere i_again0 i_d0 i_never i_firstCame i_longRun i_moved i_crowd i_l0 i_fitMany i_fitLeast i_fitMost m_fitPost m_fitEnd m_keptPosts i_x0], [zAr T 0 m_all 3952 f_all], [zAr T 0 m_read 121 f_read]] _ _ := G
  refine lv_aload_n hx hb dX12_text_10 rfl (lv_at hl 0 rfl) ?_
  refine z_get C G clX12 0 rfl 0 (by decide) m_fl_RX12_7 rfl dX12_text_11 ?_
  refine lv_iconst (v := 4) hx hb dX12_text_14 (by decide) ?_
  refine lv_iconst (v := 0) hx hb dX12_text_15 (by decide) ?_
  refine z_ist C G 1 rfl (vp_in_nI (n := 4) (by decide) (by decide)) dX12_text_16 (fun H locs G => ?_)
  have G : zS T A s.heap s [[zO11 mo m_all m_has (f_all 4) i_next i_where i_token i_number i_word i_wrong i_farCrossing m_read i_z0 i_crossings i_inns m_posts m_shut m_here i_steps i_done i_at i_gone m_was m_came m_seenAt m_rowWorth m_farBy m_used i_everywhere i_again0 i_d0 i_never i_firstCame i_longRun i_moved i_crowd i_l0 i_fitMany i_fitLeast i_fitMost m_fitPost m_fitEnd m_keptPosts i_x0], [zAr T 0 m_all 3952 (upd f_all 4 0)], [zAr T 0 m_read 121 f_read]] _ _ := G
  refine lv_aload_n hx hb dX12_text_17 rfl (lv_at hl 0 rfl) ?_
  refine z_get C G clX12 0 rfl 0 (by decide) m_fl_RX12_7 rfl dX12_text_18 ?_
  refine lv_iconst (v := 5) hx hb dX12_text_21 (by decide) ?_
  refine lv_iconst (v := 0) hx hb dX12_text_22 (by decide) ?_
  refine z_ist C G 1 rfl (vp_in_nI (n := 5) (by decide) (by decide)) dX12_text_23 (fun H locs G => ?_)
  have G : zS T A s.heap s [[zO11 mo m_all m_has (f_all 4) i_next i_where i_token i_number i_word i_wrong i_farCrossing m_read i_z0 i_crossings i_inns m_posts m_shut m_here i_steps i_done i_at i_gone m_was m_came m_seenAt m_rowWorth m_farBy m_used i_everywhere i_again0 i_d0 i_never i_firstCame i_longRun i_moved i_crowd i_l0 i_fitMany i_fitLeast i_fitMost m_fitPost m_fitEnd m_keptPosts i_x0], [zAr T 0 m_all 3952 (upd (upd f_all 4 0) 5 0)], [zAr T 0 m_read 121 f_read]] _ _ := G
  refine lv_aload_n hx hb dX12_text_24 rfl (lv_at hl 0 rfl) ?_
  refine z_get C G clX12 0 rfl 0 (by decide) m_fl_RX12_7 rfl dX12_text_25 ?_
  refine lv_bipush (v := 6) hx hb dX12_text_28 (by decide) ?_
  refine lv_iconst (v := (-1)) hx hb dX12_text_30 (by decide) ?_
  refine z_ist C G 1 rfl (vp_in_nI (n := 6) (by decide) (by decide)) dX12_text_31 (fun H locs G => ?_)
  have G : zS T A s.heap s [[zO11 mo m_all m_has (f_all 4) i_next i_where i_token i_number i_word i_wrong i_farCrossing m_read i_z0 i_crossings i_inns m_posts m_shut m_here i_steps i_done i_at i_gone m_was m_came m_seenAt m_rowWorth m_farBy m_used i_everywhere i_again0 i_d0 i_never i_firstCame i_longRun i_moved i_crowd i_l0 i_fitMany i_fitLeast i_fitMost m_fitPost m_fitEnd m_keptPosts i_x0], [zAr T 0 m_all 3952 (upd (upd (upd f_all 4 0) 5 0) 6 (-1))], [zAr T 0 m_read 121 f_read]] _ _ := G
  have hB4 := hB.1
  have hF : ∀ j, j ≠ 4 → j ≠ 5 → j ≠ 6 → (upd (upd (upd f_all 4 0) 5 0) 6 (-1)) j = f_all j := fun j h1 h2 h3 => by unfold upd; rw [if_neg h3, if_neg h2, if_neg h1]
  refine lv_iload_n hx hb dX12_text_32 rfl (lv_at hl 1 rfl) ?_
  refine lv_iconst (v := 0) hx hb dX12_text_33 (by decide) ?_
  refine lv_iconst (v := 2) hx hb dX12_text_34 (by decide) ?_
  refine z_Si (bc := []) (br := [[zO11 mo m_all m_has (f_all 4) i_next i_where i_token i_number i_word i_wrong i_farCrossing m_read i_z0 i_crossings i_inns m_posts m_shut m_here i_steps i_done i_at i_gone m_was m_came m_seenAt m_rowWorth m_farBy m_used i_everywhere i_again0 i_d0 i_never i_firstCame i_longRun i_moved i_crowd i_l0 i_fitMany i_fitLeast i_fitMost m_fitPost m_fitEnd m_keptPosts i_x0], [zAr T 0 m_all 3952 (upd (upd (upd f_all 4 0) 5 0) 6 (-1))], [zAr T 0 m_read 121 f_read]]) (As := [.int 0, .int 0, .int 2]) (rest := []) C G (c_m_isIn l T 0 0 2) (kS_RX12_111 C.2.2.2.2 (Nat.le_of_ble_eq_true rfl) (Nat.le_of_ble_eq_true rfl)) [] [] rfl rfl rfl rfl hl.1 dX12_text_35 (Nat.le_of_ble_eq_true rfl) (Nat.le_of_ble_eq_true rfl) (fun r_3 b1 H locs hw G => ?_)
  refine zAn2 hw ?_
  intro hbs9 hc_2
  clear hw
  subst hbs9
  have G : zS T A s.heap s [[zO11 mo m_all m_has (f_all 4) i_next i_where i_token i_number i_word i_wrong i_farCrossing m_read i_z0 i_crossings i_inns m_posts m_shut m_here i_steps i_done i_at i_gone m_was m_came m_seenAt m_rowWorth m_farBy m_used i_everywhere i_again0 i_d0 i_never i_firstCame i_longRun i_moved i_crowd i_l0 i_fitMany i_fitLeast i_fitMost m_fitPost m_fitEnd m_keptPosts i_x0], [zAr T 0 m_all 3952 (upd (upd (upd f_all 4 0) 5 0) 6 (-1))], [zAr T 0 m_read 121 f_read]] _ _ := G
  rcases hc_2 with ⟨rfl, h_4, h_5⟩ | ⟨rfl, h_6⟩
  · have h_4 : (0 : Int) ≤ (0 : Int) := h_4
    have h_5 : (0 : Int) ≤ (2 : Int) := h_5
    refine lv_if_eq (tgt := 68) hx hb dX12_text_38 (by decide) (fun q => absurd q (by decide)) (fun _ => ?_)
    rcases (Decidable.em (at_ = -1)) with hne | hne
    · obtain rfl : at_ = -1 := hne
      have hq1 : ((upd (upd (upd f_all 4 0) 5 0) 6 (-1)) 0).toInt = (f_all 0).toInt := rfl
      have hqf : 0 ≤ (f_all 0).toInt ∧ (f_all 0).toInt ≤ 2 := hB.2.1 0 (by decide)
      have hqF : 0 ≤ ((upd (upd (upd f_all 4 0) 5 0) 6 (-1)) 0).toInt ∧ ((upd (upd (upd f_all 4 0) 5 0) 6 (-1)) 0).toInt ≤ 2 := hqf
      have hai : ((-1) : Int32).toInt = -1 := rfl
      have hoi : zHd _ := pOkAt_y (s := 0) (at_ := (-1)) (G := f_all) hai
      refine lv_iload_n hx hb dX12_text_41 rfl (lv_at hl 2 rfl) ?_
      refine lv_iconst (v := (-1)) hx hb dX12_text_42 (by decide) ?_
      refine lv_icmp_ne (tgt := 59) hx hb dX12_text_43 (by decide) (fun q => absurd rfl q) (fun _ => ?_)
      refine lv_aload_n hx hb dX12_text_46 rfl (lv_at hl 0 rfl) ?_
      refine z_get C G clX12 0 rfl 0 (by decide) m_fl_RX12_7 rfl dX12_text_47 ?_
      refine lv_iload_n hx hb dX12_text_50 rfl (lv_at hl 1 rfl) ?_
      refine z_ild C G 1 rfl (vp_in_nI (n := 0) (by decide) (by decide)) dX12_text_51 ?_
      refine lv_topi (fun v_7 ev_7 => ?_)
      rw [show ((0 : Int32).toNatClampNeg) = 0 from rfl] at ev_7
      subst ev_7
      rw [show (upd (upd (upd f_all 4 0) 5 0) 6 (-1)) 0 = f_all 0 from rfl]
      refine lv_iconst (v := 2) hx hb dX12_text_52 (by decide) ?_
      refine lv_icmp_lt (tgt := 71) hx hb dX12_text_53 (by decide) (fun c_8 => ?_) (fun c_8 => ?_)
      · have c_8n : (f_all 0).toInt < (2 : Int) := (fa_lt _ _).mp c_8
        refine lv_aload_n hx hb dX12_text_71 rfl (lv_at hl 0 rfl) ?_
        refine lv_iconst (v := 0) hx hb dX12_text_72 (by decide) ?_
        refine z_put C G clX12 0 rfl 3 (by decide) m_fl_RX12_70 rfl rfl rfl (Nat.le_of_ble_eq_true rfl) dX12_text_73 (fun H locs G => ?_)
        have G : zS T A s.heap s [[zO11 mo m_all m_has (f_all 4) 0 i_where i_token i_number i_word i_wrong i_farCrossing m_read i_z0 i_crossings i_inns m_posts m_shut m_here i_steps i_done i_at i_gone m_was m_came m_seenAt m_rowWorth m_farBy m_used i_everywhere i_again0 i_d0 i_never i_firstCame i_longRun i_moved i_crowd i_l0 i_fitMany i_fitLeast i_fitMost m_fitPost m_fitEnd m_keptPosts i_x0], [zAr T 0 m_all 3952 (upd (upd (upd f_all 4 0) 5 0) 6 (-1))], [zAr T 0 m_read 121 f_read]] _ _ := G
        refine lv_aload_n hx hb dX12_text_76 rfl (lv_at hl 0 rfl) ?_
        refine lv_iconst (v := 0) hx hb dX12_text_77 (by decide) ?_
        refine z_put C G clX12 0 rfl 8 (by decide) m_fl_RX12_104 rfl rfl rfl (Nat.le_of_ble_eq_true rfl) dX12_text_78 (fun H locs G => ?_)
        have G : zS T A s.heap s [[zO11 mo m_all m_has (f_all 4) 0 i_where i_token i_number i_word 0 i_farCrossing m_read i_z0 i_crossings i_inns m_posts m_shut m_here i_steps i_done i_at i_gone m_was m_came m_seenAt m_rowWorth m_farBy m_used i_everywhere i_again0 i_d0 i_never i_firstCame i_longRun i_moved i_crowd i_l0 i_fitMany i_fitLeast i_fitMost m_fitPost m_fitEnd m_keptPosts i_x0], [zAr T 0 m_all 3952 (upd (upd (upd f_all 4 0) 5 0) 6 (-1))], [zAr T 0 m_read 121 f_read]] _ _ := G
        refine lv_aload_n hx hb dX12_text_81 rfl (lv_at hl 0 rfl) ?_
        refine lv_iconst (v := (-1)) hx hb dX12_text_82 (by decide) ?_
        refine z_put C G clX12 0 rfl 9 (by decide) m_fl_RX12_126 rfl rfl rfl (Nat.le_of_ble_eq_true rfl) dX12_text_83 (fun H locs G => ?_)
        have G : zS T A s.heap s [[zO11 mo m_all m_has (f_all 4) 0 i_where i_token i_number i_word 0 (-1) m_read i_z0 i_crossings i_inns m_posts m_shut m_here i_steps i_done i_at i_gone m_was m_came m_seenAt m_rowWorth m_farBy m_used i_everywhere i_again0 i_d0 i_never i_firstCame i_longRun i_moved i_crowd i_l0 i_fitMany i_fitLeast i_fitMost m_fitPost m_fitEnd m_keptPosts i_x0], [zAr T 0 m_all 3952 (upd (upd (upd f_all 4 0) 5 0) 6 (-1))], [zAr T 0 m_read 121 f_read]] _ _ := G
        refine zMt9 (T := T) 237 (fun (xn : Int32) (xw : Int32) (xt : Int32) (xu : Int32) (xo : Int32) (xr : Int32) (xf : Int32) (ga : Nat → Int32) (gr : Nat → Int32) => [[zO11 mo m_all m_has (f_all 4) xn xw xt xu xo xr xf m_read i_z0 i_crossings i_inns m_posts m_shut m_here i_steps i_done i_at i_gone m_was m_came m_seenAt m_rowWorth m_farBy m_used i_everywhere i_again0 i_d0 i_never i_firstCame i_longRun i_moved i_crowd i_l0 i_fitMany i_fitLeast i_fitMost m_fitPost m_fitEnd m_keptPosts i_x0], [zAr T 0 m_all 3952 ga], [zAr T 0 m_read 121 gr]]) (fun (xn : Int32) (xw : Int32) (xt : Int32) (xu : Int32) (xo : Int32) (xr : Int32) (xf : Int32) (ga : Nat → Int32) (gr : Nat → Int32) => [(0, .ref mo), (1, .int 0), (2, .int (-1))]) (fun (xn : Int32) (xw : Int32) (xt : Int32) (xu : Int32) (xo : Int32) (xr : Int32) (xf : Int32) (ga : Nat → Int32) (gr : Nat → Int32) => zLF gr ∧ zPal (upd (upd (upd f_all 4 0) 5 0) 6 (-1)) ga ∧ zRr k N (f_all 4) xn xw xt xu xo xr xf ga (pRead k N 0).1 ∧ (pRead k N 0).2 = gr) G hl ?_ (fun jn_237 => ?_)
        · intro xn xw xt xu xo xr xf ga gr hI9 H locs ls G hl
          replace hI9 : zLF gr ∧ zPal (upd (upd (upd f_all 4 0) 5 0) 6 (-1)) ga ∧ zRr k N (f_all 4) xn xw xt xu xo xr xf ga (pRead k N 0).1 ∧ (pRead k N 0).2 = gr := hI9
          refine zAn4 hI9 ?_
          intro hL hpal hZ1 hZ2
          clear hI9
          replace G : zS T A s.heap s [[zO11 mo m_all m_has (f_all 4) xn xw xt xu xo xr xf m_read i_z0 i_crossings i_inns m_posts m_shut m_here i_steps i_done i_at i_gone m_was m_came m_seenAt m_rowWorth m_farBy m_used i_everywhere i_again0 i_d0 i_never i_firstCame i_longRun i_moved i_crowd i_l0 i_fitMany i_fitLeast i_fitMost m_fitPost m_fitEnd m_keptPosts i_x0], [zAr T 0 m_all 3952 ga], [zAr T 0 m_read 121 gr]] _ _ := G
          replace hl : lv_has ls 5 [(0, .ref mo), (1, .int 0), (2, .int (-1))] := hl
          have hZ5 := hZ1.2.2.2.1
          have hZ6 := hZ1.2.2.2.2.1
          have hZ5i := congrArg Int32.toInt hZ5
          refine lv_aload_n hx hb dX12_text_237 rfl (lv_at hl 0 rfl) ?_
          refine z_get C G clX12 0 rfl 0 (by decide) m_fl_RX12_7 rfl dX12_text_238 ?_
          refine lv_iconst (v := 5) hx hb dX12_text_241 (by decide) ?_
          refine z_ild C G 1 rfl (vp_in_nI (n := 5) (by decide) (by decide)) dX12_text_242 ?_
          refine lv_topi (fun v_9 ev_9 => ?_)
          rw [show ((5 : Int32).toNatClampNeg) = 5 from rfl] at ev_9
          subst ev_9
          refine lv_if_eq (tgt := 248) hx hb dX12_text_243 (by decide) (fun c_10 => ?_) (fun c_10 => ?_)
          · have c_10n : (ga 5).toInt = (0 : Int) := (fa_eq _ _).mp c_10
            refine lv_iload_n hx hb dX12_text_248 rfl (lv_at hl 2 rfl) ?_
            refine lv_iconst (v := (-1)) hx hb dX12_text_249 (by decide) ?_
            refine lv_icmp_ne (tgt := 262) hx hb dX12_text_250 (by decide) (fun q => absurd rfl q) (fun _ => ?_)
            refine lv_aload_n hx hb dX12_text_253 rfl (lv_at hl 0 rfl) ?_
            refine z_get C G clX12 0 rfl 0 (by decide) m_fl_RX12_7 rfl dX12_text_254 ?_
            refine lv_iload_n hx hb dX12_text_257 rfl (lv_at hl 1 rfl) ?_
            refine z_ild C G 1 rfl (vp_in_nI (n := 0) (by decide) (by decide)) dX12_text_258 ?_
            refine lv_topi (fun v_11 ev_11 => ?_)
            rw [show ((0 : Int32).toNatClampNeg) = 0 from rfl] at ev_11
            subst ev_11
            refine lv_goto (tgt := 263) hx hb dX12_text_259 (by decide) ?_
            have hg0 : (ga 0).toInt = (f_all 0).toInt := congrArg Int32.toInt (hpal 0 (by decide) (by decide))
            rcases (show (ga 0).toInt = 0 ∨ (ga 0).toInt = 1 from by omega) with hk | hk
            · rw [show ga 0 = 0 from Int32.toInt_inj.mp hk]
              refine lv_istore_n (lv' := [(3, .int 0), (0, .ref mo), (1, .int 0), (2, .int (-1))]) hx hb dX12_text_263 rfl hl (by decide) rfl (fun ls hl => ?_)
              refine lv_iload_n hx hb dX12_text_264 rfl (lv_at hl 3 rfl) ?_
              refine lv_iconst (v := (-1)) hx hb dX12_text_265 (by decide) ?_
              refine lv_icmp_ne (tgt := 279) hx hb dX12_text_266 (by decide) (fun q => absurd rfl q) (fun _ => ?_)
              refine lv_aload_n hx hb dX12_text_269 rfl (lv_at hl 1 rfl) ?_
              refine z_get C G clX12 0 rfl 0 (by decide) m_fl_RX12_7 rfl dX12_text_270 ?_
              refine lv_iload_n hx hb dX12_text_273 rfl (lv_at hl 2 rfl) ?_
              refine lv_dup2_11 hx hb dX12_text_274 rfl rfl ?_
              refine z_ild C G 1 rfl (vp_in_nI (n := 0) (by decide) (by decide)) dX12_text_275 ?_
              refine lv_topi (fun v_12 ev_12 => ?_)
              rw [show ((0 : Int32).toNatClampNeg) = 0 from rfl] at ev_12
              subst ev_12
              refine lv_iconst (v := 1) hx hb dX12_text_276 (by decide) ?_
              refine lv_iadd hx hb dX12_text_277 ?_
              refine lv_topi (fun y_13 ey_13 => ?_)
              have ey_13i : y_13.toInt = (ga 0).toInt + (1 : Int) := by rw [ey_13]; exact z_iaddI (x := (ga 0)) (y := (1 : Int32)) (by show -2147483648 ≤ (ga 0).toInt + (1 : Int); omega) (by show (ga 0).toInt + (1 : Int) < 2147483648; omega)
              refine z_ist C G 1 rfl (vp_in_nI (n := 0) (by decide) (by decide)) dX12_text_278 (fun H locs G => ?_)
              have G : zS T A s.heap s [[zO11 mo m_all m_has (f_all 4) xn xw xt xu xo xr xf m_read i_z0 i_crossings i_inns m_posts m_shut m_here i_steps i_done i_at i_gone m_was m_came m_seenAt m_rowWorth m_farBy m_used i_everywhere i_again0 i_d0 i_never i_firstCame i_longRun i_moved i_crowd i_l0 i_fitMany i_fitLeast i_fitMost m_fitPost m_fitEnd m_keptPosts i_x0], [zAr T 0 m_all 3952 (upd ga 0 y_13)], [zAr T 0 m_read 121 gr]] _ _ := G
              refine lv_iconst (v := 0) hx hb dX12_text_279 (by decide) ?_
              refine lv_istore (lv' := [(4, .int 0), (3, .int 0), (0, .ref mo), (1, .int 0), (2, .int (-1))]) hx hb dX12_text_280 hl (by decide) rfl (fun ls hl => ?_)
              refine z_lp2 (T := T) 282 (fun (i : Nat) (x : Nat → Int32) => [[zO11 mo m_all m_has (f_all 4) xn xw xt xu xo xr xf m_read i_z0 i_crossings i_inns m_posts m_shut m_here i_steps i_done i_at i_gone m_was m_came m_seenAt m_rowWorth m_farBy m_used i_everywhere i_again0 i_d0 i_never i_firstCame i_longRun i_moved i_crowd i_l0 i_fitMany i_fitLeast i_fitMost m_fitPost m_fitEnd m_keptPosts i_x0], [zAr T 0 m_all 3952 x], [zAr T 0 m_read 121 gr]]) (fun (i : Nat) (x : Nat → Int32) => [(4, .int (nI i)), (3, .int 0), (0, .ref mo), (1, .int 0), (2, .int (-1))]) (fun (i : Nat) (x : Nat → Int32) => i ≤ 51 ∧ (∀ j, j < i → x (610 + j) = gr j) ∧ (∀ j, (j < 610 ∨ 661 ≤ j) → x j = (upd ga 0 y_13) j)) (fun (i : Nat) (x : Nat → Int32) => 51 - i) ?_ 0 (upd ga 0 y_13) (show 0 ≤ 51 ∧ (∀ j, j < 0 → (upd ga 0 y_13) (610 + j) = gr j) ∧ (∀ j, (j < 610 ∨ 661 ≤ j) → (upd ga 0 y_13) j = (upd ga 0 y_13) j) from ⟨by omega, fun j hj => absurd hj (by omega), fun j _ => rfl⟩) G (lv_sub hl [0, 1, 2, 3, 4] rfl)
              intro i x hI9 ih_282 H locs ls G hl
              replace hI9 : i ≤ 51 ∧ (∀ j, j < i → x (610 + j) = gr j) ∧ (∀ j, (j < 610 ∨ 661 ≤ j) → x j = (upd ga 0 y_13) j) := hI9
              refine zAn3 hI9 ?_
              intro hi hS hO
              clear hI9
              replace G : zS T A s.heap s [[zO11 mo m_all m_has (f_all 4) xn xw xt xu xo xr xf m_read i_z0 i_crossings i_inns m_posts m_shut m_here i_steps i_done i_at i_gone m_was m_came m_seenAt m_rowWorth m_farBy m_used i_everywhere i_again0 i_d0 i_never i_firstCame i_longRun i_moved i_crowd i_l0 i_fitMany i_fitLeast i_fitMost m_fitPost m_fitEnd m_keptPosts i_x0], [zAr T 0 m_all 3952 x], [zAr T 0 m_read 121 gr]] _ _ := G
              replace hl : lv_has ls 5 [(4, .int (nI i)), (3, .int 0), (0, .ref mo), (1, .int 0), (2, .int (-1))] := hl
              refine lv_iload hx hb dX12_text_282 (lv_at hl 0 rfl) ?_
              refine lv_iload_n hx hb dX12_text_284 rfl (lv_at hl 3 rfl) ?_
              refine z_Si (bc := []) (br := [[zO11 mo m_all m_has (f_all 4) xn xw xt xu xo xr xf m_read i_z0 i_crossings i_inns m_posts m_shut m_here i_steps i_done i_at i_gone m_was m_came m_seenAt m_rowWorth m_farBy m_used i_everywhere i_again0 i_d0 i_never i_firstCame i_longRun i_moved i_crowd i_l0 i_fitMany i_fitLeast i_fitMost m_fitPost m_fitEnd m_keptPosts i_x0], [zAr T 0 m_all 3952 x], [zAr T 0 m_read 121 gr]]) (As := [.int 0]) (rest := [.int (nI i)]) C G (c_m_sizeOf0 l T) (kS_RX12_160 C.2.2.2.2 (Nat.le_of_ble_eq_true rfl) (Nat.le_of_ble_eq_true rfl)) [] [] rfl rfl rfl rfl hl.1 dX12_text_285 (Nat.le_of_ble_eq_true rfl) (Nat.le_of_ble_eq_true rfl) (fun r_15 b1 H locs hw G => ?_)
              refine zAn2 hw ?_
              intro hbs9 h_14
              clear hw
              subst hbs9
              have G : zS T A s.heap s [[zO11 mo m_all m_has (f_all 4) xn xw xt xu xo xr xf m_read i_z0 i_crossings i_inns m_posts m_shut m_here i_steps i_done i_at i_gone m_was m_came m_seenAt m_rowWorth m_farBy m_used i_everywhere i_again0 i_d0 i_never i_firstCame i_longRun i_moved i_crowd i_l0 i_fitMany i_fitLeast i_fitMost m_fitPost m_fitEnd m_keptPosts i_x0], [zAr T 0 m_all 3952 x], [zAr T 0 m_read 121 gr]] _ _ := G
              subst h_14
              refine lv_icmp_ge (tgt := 317) hx hb dX12_text_288 (by decide) (fun c_16 => ?_) (fun c_16 => ?_)
              · have c_16n : 51 ≤ i := (nI_leI (a := 51) (b := i) (by omega) (by omega)).mp c_16
                refine lv_iload_n hx hb dX12_text_317 rfl (lv_at hl 1 rfl) ?_
                exact z_back hQ9 (z_iret C hr hlocks G (Nat.le_of_ble_eq_true rfl) (Nat.le_of_ble_eq_true rfl) dX12_text_318 ⟨(f_all 4), xn, xw, xt, xu, xo, xr, xf, x, gr, rfl, (zBI_p0 0 (by decide) hB ((hO 4 (by omega)).trans (hpal 4 (by decide) (by decide))) (fun q hq => by
    rw [hO q (by omega)]
    by_cases e9 : q = 0
    · rw [show upd _ 0 _ q = _ from if_pos e9]; omega
    · rw [show upd _ 0 _ q = _ from if_neg e9, show _ = f_all q from (hpal q (by omega) (by omega)).trans (hF q (by omega) (by omega) (by omega))]; exact hB.2.1 q hq) (fun j hj hj2 => (hO j (by omega)).trans ((show upd _ 0 _ j = _ from if_neg (by omega)).trans ((hpal j (by omega) (by omega)).trans (hF j (by omega) (by omega) (by omega))))) (by assumption) (fun j hj => hS j (by omega))), ((hO 4 (by omega)).trans (hpal 4 (by decide) (by decide))), (fun j hj => (hO j (by omega)).trans ((show upd _ 0 _ j = _ from if_neg (by omega)).trans ((hpal j (by omega) (by omega)).trans (hF j (by omega) (by omega) (by omega))))), (zText_k (kk := 0) (A := upd ga 0 y_13) (g := ga) (hoi.mpr (by omega)) (by rw [← hZ5]; omega) ((pNr_y hai).trans (Int32.toInt_inj.mp (by show (f_all 0).toInt = 0; omega))).symm (by rw [pNr_y hai]; show (f_all 0).toInt = 0; omega) hpal hZ5 hZ6 (by rw [pCnt_y hai, ey_13]) (by rw [hZ2]; exact fun j hj => hS j (by have hj : j < 51 := hj; omega)) (fun j hj => hO j (by have hj : j < 610 ∨ 610 + 51 ≤ j := hj; omega)))⟩)
              · have c_16n : ¬ 51 ≤ i := fun q => c_16 ((nI_leI (a := 51) (b := i) (by omega) (by omega)).mpr q)
                refine lv_aload_n hx hb dX12_text_291 rfl (lv_at hl 2 rfl) ?_
                refine z_get C G clX12 0 rfl 0 (by decide) m_fl_RX12_7 rfl dX12_text_292 ?_
                refine lv_iload_n hx hb dX12_text_295 rfl (lv_at hl 3 rfl) ?_
                refine lv_iload_n hx hb dX12_text_296 rfl (lv_at hl 1 rfl) ?_
                refine z_Si (bc := []) (br := [[zO11 mo m_all m_has (f_all 4) xn xw xt xu xo xr xf m_read i_z0 i_crossings i_inns m_posts m_shut m_here i_steps i_done i_at i_gone m_was m_came m_seenAt m_rowWorth m_farBy m_used i_everywhere i_again0 i_d0 i_never i_firstCame i_longRun i_moved i_crowd i_l0 i_fitMany i_fitLeast i_fitMost m_fitPost m_fitEnd m_keptPosts i_x0], [zAr T 0 m_all 3952 x], [zAr T 0 m_read 121 gr]]) (As := [.int 0, .int 0]) (rest := [.ref m_all]) C G (c_m_placeOf00 l T) (kS_RX12_163 C.2.2.2.2 (Nat.le_of_ble_eq_true rfl) (Nat.le_of_ble_eq_true rfl)) [] [] rfl rfl rfl rfl hl.1 dX12_text_297 (Nat.le_of_ble_eq_true rfl) (Nat.le_of_ble_eq_true rfl) (fun r_18 b1 H locs hw G => ?_)
                refine zAn2 hw ?_
                intro hbs9 h_17
                clear hw
                subst hbs9
                have G : zS T A s.heap s [[zO11 mo m_all m_has (f_all 4) xn xw xt xu xo xr xf m_read i_z0 i_crossings i_inns m_posts m_shut m_here i_steps i_done i_at i_gone m_was m_came m_seenAt m_rowWorth m_farBy m_used i_everywhere i_again0 i_d0 i_never i_firstCame i_longRun i_moved i_crowd i_l0 i_fitMany i_fitLeast i_fitMost m_fitPost m_fitEnd m_keptPosts i_x0], [zAr T 0 m_all 3952 x], [zAr T 0 m_read 121 gr]] _ _ := G
                subst h_17
                refine lv_iload hx hb dX12_text_300 (lv_at hl 0 rfl) ?_
                refine lv_iadd hx hb dX12_text_302 ?_
                refine lv_topi (fun y_19 ey_19 => ?_)
                obtain rfl : y_19 = nI (610 + i) := ey_19.trans (z_iaddn 610 i rfl rfl)
                refine lv_aload_n hx hb dX12_text_303 rfl (lv_at hl 2 rfl) ?_
                refine z_get C G clX12 0 rfl 10 (by decide) m_fl_RX12_17 rfl dX12_text_304 ?_
                refine lv_iload hx hb dX12_text_307 (lv_at hl 0 rfl) ?_
                refine z_ild C G 2 rfl (vp_in_nI (by omega) (by omega)) dX12_text_309 ?_
                refine lv_topi (fun v_20 ev_20 => ?_)
                rw [nI_clamp (by omega)] at ev_20
                subst ev_20
                refine z_ist C G 1 rfl (vp_in_nI (by omega) (by omega)) dX12_text_310 (fun H locs G => ?_)
                rw [nI_clamp (by omega)] at G
                have G : zS T A s.heap s [[zO11 mo m_all m_has (f_all 4) xn xw xt xu xo xr xf m_read i_z0 i_crossings i_inns m_posts m_shut m_here i_steps i_done i_at i_gone m_was m_came m_seenAt m_rowWorth m_farBy m_used i_everywhere i_again0 i_d0 i_never i_firstCame i_longRun i_moved i_crowd i_l0 i_fitMany i_fitLeast i_fitMost m_fitPost m_fitEnd m_keptPosts i_x0], [zAr T 0 m_all 3952 (upd x (610 + i) (gr i))], [zAr T 0 m_read 121 gr]] _ _ := G
                refine lv_iinc (v := nI (i + 1)) (lv' := [(4, .int (nI (i + 1))), (3, .int 0), (0, .ref mo), (1, .int 0), (2, .int (-1))]) hx hb dX12_text_311 hl (k := 0) rfl (z_inc i 1) (by decide) rfl (fun ls hl => ?_)
                refine lv_goto (tgt := 282) hx hb dX12_text_314 (by decide) ?_
                exact ih_282 (i + 1) (upd x (610 + i) (gr i)) (show (i + 1) ≤ 51 ∧ (∀ j, j < (i + 1) → (upd x (610 + i) (gr i)) (610 + j) = gr j) ∧ (∀ j, (j < 610 ∨ 661 ≤ j) → (upd x (610 + i) (gr i)) j = (upd ga 0 y_13) j) from ⟨by omega, z_upS hS rfl, z_upO hO (by omega)⟩) (show 51 - (i + 1) < 51 - i from by omega) _ _ ls G (lv_sub hl [0, 1, 2, 3, 4] rfl)
            · rw [show ga 0 = 1 from Int32.toInt_inj.mp hk]
              refine lv_istore_n (lv' := [(3, .int 1), (0, .ref mo), (1, .int 0), (2, .int (-1))]) hx hb dX12_text_263 rfl hl (by decide) rfl (fun ls hl => ?_)
              refine lv_iload_n hx hb dX12_text_264 rfl (lv_at hl 3 rfl) ?_
              refine lv_iconst (v := (-1)) hx hb dX12_text_265 (by decide) ?_
              refine lv_icmp_ne (tgt := 279) hx hb dX12_text_266 (by decide) (fun q => absurd rfl q) (fun _ => ?_)
              refine lv_aload_n hx hb dX12_text_269 rfl (lv_at hl 1 rfl) ?_
              refine z_get C G clX12 0 rfl 0 (by decide) m_fl_RX12_7 rfl dX12_text_270 ?_
              refine lv_iload_n hx hb dX12_text_273 rfl (lv_at hl 2 rfl) ?_
              refine lv_dup2_11 hx hb dX12_text_274 rfl rfl ?_
              refine z_ild C G 1 rfl (vp_in_nI (n := 0) (by decide) (by decide)) dX12_text_275 ?_
              refine lv_topi (fun v_21 ev_21 => ?_)
              rw [show ((0 : Int32).toNatClampNeg) = 0 from rfl] at ev_21
              subst ev_21
              refine lv_iconst (v := 1) hx hb dX12_text_276 (by decide) ?_
              refine lv_iadd hx hb dX12_text_277 ?_
              refine lv_topi (fun y_22 ey_22 => ?_)
              have ey_22i : y_22.toInt = (ga 0).toInt + (1 : Int) := by rw [ey_22]; exact z_iaddI (x := (ga 0)) (y := (1 : Int32)) (by show -2147483648 ≤ (ga 0).toInt + (1 : Int); omega) (by show (ga 0).toInt + (1 : Int) < 2147483648; omega)
              refine z_ist C G 1 rfl (vp_in_nI (n := 0) (by decide) (by decide)) dX12_text_278 (fun H locs G => ?_)
              have G : zS T A s.heap s [[zO11 mo m_all m_has (f_all 4) xn xw xt xu xo xr xf m_read i_z0 i_crossings i_inns m_posts m_shut m_here i_steps i_done i_at i_gone m_was m_came m_seenAt m_rowWorth m_farBy m_used i_everywhere i_again0 i_d0 i_never i_firstCame i_longRun i_moved i_crowd i_l0 i_fitMany i_fitLeast i_fitMost m_fitPost m_fitEnd m_keptPosts i_x0], [zAr T 0 m_all 3952 (upd ga 0 y_22)], [zAr T 0 m_read 121 gr]] _ _ := G
              refine lv_iconst (v := 0) hx hb dX12_text_279 (by decide) ?_
              refine lv_istore (lv' := [(4, .int 0), (3, .int 1), (0, .ref mo), (1, .int 0), (2, .int (-1))]) hx hb dX12_text_280 hl (by decide) rfl (fun ls hl => ?_)
              refine z_lp2 (T := T) 282 (fun (i : Nat) (x : Nat → Int32) => [[zO11 mo m_all m_has (f_all 4) xn xw xt xu xo xr xf m_read i_z0 i_crossings i_inns m_posts m_shut m_here i_steps i_done i_at i_gone m_was m_came m_seenAt m_rowWorth m_farBy m_used i_everywhere i_again0 i_d0 i_never i_firstCame i_longRun i_moved i_crowd i_l0 i_fitMany i_fitLeast i_fitMost m_fitPost m_fitEnd m_keptPosts i_x0], [zAr T 0 m_all 3952 x], [zAr T 0 m_read 121 gr]]) (fun (i : Nat) (x : Nat → Int32) => [(4, .int (nI i)), (3, .int 1), (0, .ref mo), (1, .int 0), (2, .int (-1))]) (fun (i : Nat) (x : Nat → Int32) => i ≤ 51 ∧ (∀ j, j < i → x (661 + j) = gr j) ∧ (∀ j, (j < 661 ∨ 712 ≤ j) → x j = (upd ga 0 y_22) j)) (fun (i : Nat) (x : Nat → Int32) => 51 - i) ?_ 0 (upd ga 0 y_22) (show 0 ≤ 51 ∧ (∀ j, j < 0 → (upd ga 0 y_22) (661 + j) = gr j) ∧ (∀ j, (j < 661 ∨ 712 ≤ j) → (upd ga 0 y_22) j = (upd ga 0 y_22) j) from ⟨by omega, fun j hj => absurd hj (by omega), fun j _ => rfl⟩) G (lv_sub hl [0, 1, 2, 3, 4] rfl)
              intro i x hI9 ih_282 H locs ls G hl
              replace hI9 : i ≤ 51 ∧ (∀ j, j < i → x (661 + j) = gr j) ∧ (∀ j, (j < 661 ∨ 712 ≤ j) → x j = (upd ga 0 y_22) j) := hI9
              refine zAn3 hI9 ?_
              intro hi hS hO
              clear hI9
              replace G : zS T A s.heap s [[zO11 mo m_all m_has (f_all 4) xn xw xt xu xo xr xf m_read i_z0 i_crossings i_inns m_posts m_shut m_here i_steps i_done i_at i_gone m_was m_came m_seenAt m_rowWorth m_farBy m_used i_everywhere i_again0 i_d0 i_never i_firstCame i_longRun i_moved i_crowd i_l0 i_fitMany i_fitLeast i_fitMost m_fitPost m_fitEnd m_keptPosts i_x0], [zAr T 0 m_all 3952 x], [zAr T 0 m_read 121 gr]] _ _ := G
              replace hl : lv_has ls 5 [(4, .int (nI i)), (3, .int 1), (0, .ref mo), (1, .int 0), (2, .int (-1))] := hl
              refine lv_iload hx hb dX12_text_282 (lv_at hl 0 rfl) ?_
              refine lv_iload_n hx hb dX12_text_284 rfl (lv_at hl 3 rfl) ?_
              refine z_Si (bc := []) (br := [[zO11 mo m_all m_has (f_all 4) xn xw xt xu xo xr xf m_read i_z0 i_crossings i_inns m_posts m_shut m_here i_steps i_done i_at i_gone m_was m_came m_seenAt m_rowWorth m_farBy m_used i_everywhere i_again0 i_d0 i_never i_firstCame i_longRun i_moved i_crowd i_l0 i_fitMany i_fitLeast i_fitMost m_fitPost m_fitEnd m_keptPosts i_x0], [zAr T 0 m_all 3952 x], [zAr T 0 m_read 121 gr]]) (As := [.int 0]) (rest := [.int (nI i)]) C G (c_m_sizeOf0 l T) (kS_RX12_160 C.2.2.2.2 (Nat.le_of_ble_eq_true rfl) (Nat.le_of_ble_eq_true rfl)) [] [] rfl rfl rfl rfl hl.1 dX12_text_285 (Nat.le_of_ble_eq_true rfl) (Nat.le_of_ble_eq_true rfl) (fun r_24 b1 H locs hw G => ?_)
              refine zAn2 hw ?_
              intro hbs9 h_23
              clear hw
              subst hbs9
              have G : zS T A s.heap s [[zO11 mo m_all m_has (f_all 4) xn xw xt xu xo xr xf m_read i_z0 i_crossings i_inns m_posts m_shut m_here i_steps i_done i_at i_gone m_was m_came m_seenAt m_rowWorth m_farBy m_used i_everywhere i_again0 i_d0 i_never i_firstCame i_longRun i_moved i_crowd i_l0 i_fitMany i_fitLeast i_fitMost m_fitPost m_fitEnd m_keptPosts i_x0], [zAr T 0 m_all 3952 x], [zAr T 0 m_read 121 gr]] _ _ := G
              subst h_23
              refine lv_icmp_ge (tgt := 317) hx hb dX12_text_288 (by decide) (fun c_25 => ?_) (fun c_25 => ?_)
              · have c_25n : 51 ≤ i := (nI_leI (a := 51) (b := i) (by omega) (by omega)).mp c_25
                refine lv_iload_n hx hb dX12_text_317 rfl (lv_at hl 1 rfl) ?_
                exact z_back hQ9 (z_iret C hr hlocks G (Nat.le_of_ble_eq_true rfl) (Nat.le_of_ble_eq_true rfl) dX12_text_318 ⟨(f_all 4), xn, xw, xt, xu, xo, xr, xf, x, gr, rfl, (zBI_p0 1 (by decide) hB ((hO 4 (by omega)).trans (hpal 4 (by decide) (by decide))) (fun q hq => by
    rw [hO q (by omega)]
    by_cases e9 : q = 0
    · rw [show upd _ 0 _ q = _ from if_pos e9]; omega
    · rw [show upd _ 0 _ q = _ from if_neg e9, show _ = f_all q from (hpal q (by omega) (by omega)).trans (hF q (by omega) (by omega) (by omega))]; exact hB.2.1 q hq) (fun j hj hj2 => (hO j (by omega)).trans ((show upd _ 0 _ j = _ from if_neg (by omega)).trans ((hpal j (by omega) (by omega)).trans (hF j (by omega) (by omega) (by omega))))) (by assumption) (fun j hj => hS j (by omega))), ((hO 4 (by omega)).trans (hpal 4 (by decide) (by decide))), (fun j hj => (hO j (by omega)).trans ((show upd _ 0 _ j = _ from if_neg (by omega)).trans ((hpal j (by omega) (by omega)).trans (hF j (by omega) (by omega) (by omega))))), (zText_k (kk := 1) (A := upd ga 0 y_22) (g := ga) (hoi.mpr (by omega)) (by rw [← hZ5]; omega) ((pNr_y hai).trans (Int32.toInt_inj.mp (by show (f_all 0).toInt = 1; omega))).symm (by rw [pNr_y hai]; show (f_all 0).toInt = 1; omega) hpal hZ5 hZ6 (by rw [pCnt_y hai, ey_22]) (by rw [hZ2]; exact fun j hj => hS j (by have hj : j < 51 := hj; omega)) (fun j hj => hO j (by have hj : j < 661 ∨ 661 + 51 ≤ j := hj; omega)))⟩)
              · have c_25n : ¬ 51 ≤ i := fun q => c_25 ((nI_leI (a := 51) (b := i) (by omega) (by omega)).mpr q)
                refine lv_aload_n hx hb dX12_text_291 rfl (lv_at hl 2 rfl) ?_
                refine z_get C G clX12 0 rfl 0 (by decide) m_fl_RX12_7 rfl dX12_text_292 ?_
                refine lv_iload_n hx hb dX12_text_295 rfl (lv_at hl 3 rfl) ?_
                refine lv_iload_n hx hb dX12_text_296 rfl (lv_at hl 1 rfl) ?_
                refine z_Si (bc := []) (br := [[zO11 mo m_all m_has (f_all 4) xn xw xt xu xo xr xf m_read i_z0 i_crossings i_inns m_posts m_shut m_here i_steps i_done i_at i_gone m_was m_came m_seenAt m_rowWorth m_farBy m_used i_everywhere i_again0 i_d0 i_never i_firstCame i_longRun i_moved i_crowd i_l0 i_fitMany i_fitLeast i_fitMost m_fitPost m_fitEnd m_keptPosts i_x0], [zAr T 0 m_all 3952 x], [zAr T 0 m_read 121 gr]]) (As := [.int 0, .int 1]) (rest := [.ref m_all]) C G (c_m_placeOf01 l T) (kS_RX12_163 C.2.2.2.2 (Nat.le_of_ble_eq_true rfl) (Nat.le_of_ble_eq_true rfl)) [] [] rfl rfl rfl rfl hl.1 dX12_text_297 (Nat.le_of_ble_eq_true rfl) (Nat.le_of_ble_eq_true rfl) (fun r_27 b1 H locs hw G => ?_)
                refine zAn2 hw ?_
                intro hbs9 h_26
                clear hw
                subst hbs9
                have G : zS T A s.heap s [[zO11 mo m_all m_has (f_all 4) xn xw xt xu xo xr xf m_read i_z0 i_crossings i_inns m_posts m_shut m_here i_steps i_done i_at i_gone m_was m_came m_seenAt m_rowWorth m_farBy m_used i_everywhere i_again0 i_d0 i_never i_firstCame i_longRun i_moved i_crowd i_l0 i_fitMany i_fitLeast i_fitMost m_fitPost m_fitEnd m_keptPosts i_x0], [zAr T 0 m_all 3952 x], [zAr T 0 m_read 121 gr]] _ _ := G
                subst h_26
                refine lv_iload hx hb dX12_text_300 (lv_at hl 0 rfl) ?_
                refine lv_iadd hx hb dX12_text_302 ?_
                refine lv_topi (fun y_28 ey_28 => ?_)
                obtain rfl : y_28 = nI (661 + i) := ey_28.trans (z_iaddn 661 i rfl rfl)
                refine lv_aload_n hx hb dX12_text_303 rfl (lv_at hl 2 rfl) ?_
                refine z_get C G clX12 0 rfl 10 (by decide) m_fl_RX12_17 rfl dX12_text_304 ?_
                refine lv_iload hx hb dX12_text_307 (lv_at hl 0 rfl) ?_
                refine z_ild C G 2 rfl (vp_in_nI (by omega) (by omega)) dX12_text_309 ?_
                refine lv_topi (fun v_29 ev_29 => ?_)
                rw [nI_clamp (by omega)] at ev_29
                subst ev_29
                refine z_ist C G 1 rfl (vp_in_nI (by omega) (by omega)) dX12_text_310 (fun H locs G => ?_)
                rw [nI_clamp (by omega)] at G
                have G : zS T A s.heap s [[zO11 mo m_all m_has (f_all 4) xn xw xt xu xo xr xf m_read i_z0 i_crossings i_inns m_posts m_shut m_here i_steps i_done i_at i_gone m_was m_came m_seenAt m_rowWorth m_farBy m_used i_everywhere i_again0 i_d0 i_never i_firstCame i_longRun i_moved i_crowd i_l0 i_fitMany i_fitLeast i_fitMost m_fitPost m_fitEnd m_keptPosts i_x0], [zAr T 0 m_all 3952 (upd x (661 + i) (gr i))], [zAr T 0 m_read 121 gr]] _ _ := G
                refine lv_iinc (v := nI (i + 1)) (lv' := [(4, .int (nI (i + 1))), (3, .int 1), (0, .ref mo), (1, .int 0), (2, .int (-1))]) hx hb dX12_text_311 hl (k := 0) rfl (z_inc i 1) (by decide) rfl (fun ls hl => ?_)
                refine lv_goto (tgt := 282) hx hb dX12_text_314 (by decide) ?_
                exact ih_282 (i + 1) (upd x (661 + i) (gr i)) (show (i + 1) ≤ 51 ∧ (∀ j, j < (i + 1) → (upd x (661 + i) (gr i)) (661 + j) = gr j) ∧ (∀ j, (j < 661 ∨ 712 ≤ j) → (upd x (661 + i) (gr i)) j = (upd ga 0 y_22) j) from ⟨by omega, z_upS hS rfl, z_upO hO (by omega)⟩) (show 51 - (i + 1) < 51 - i from by omega) _ _ ls G (lv_sub hl [0, 1, 2, 3, 4] rfl)
          · have c_10n : ¬ (ga 5).toInt = (0 : Int) := fun q => c_10 ((fa_eq _ _).mpr q)
            refine lv_iconst (v := (-1)) hx hb dX12_text_246 (by decide) ?_
            exact z_back hQ9 (z_iret C hr hlocks G (Nat.le_of_ble_eq_true rfl) (Nat.le_of_ble_eq_true rfl) dX12_text_247 ⟨(f_all 4), xn, xw, xt, xu, xo, xr, xf, ga, gr, rfl, (zBI_hd hB (hpal 4 (by decide) (by decide)) (fun q hq => by rw [show _ = f_all q from (hpal q (by omega) (by omega)).trans (hF q (by omega) (by omega) (by omega))]; exact hB.2.1 q hq) (fun j hj => (hpal j (by omega) (by omega)).trans (hF j (by omega) (by omega) (by omega)))), (hpal 4 (by decide) (by decide)), (fun j hj => (hpal j (by omega) (by omega)).trans (hF j (by omega) (by omega) (by omega))), (zText_f (hoi.mpr (by omega)) (by rw [← hZ5]; omega) hpal hZ5 hZ6)⟩)
        refine lv_iconst (v := 0) hx hb dX12_text_86 (by decide) ?_
        refine lv_istore_n (lv' := [(3, .int 0), (0, .ref mo), (1, .int 0), (2, .int (-1))]) hx hb dX12_text_87 rfl hl (by decide) rfl (fun ls hl => ?_)
        refine z_lp2 (T := T) 88 (fun (k_ : Nat) (z : Nat → Int32) => [[zO11 mo m_all m_has (f_all 4) 0 i_where i_token i_number i_word 0 (-1) m_read i_z0 i_crossings i_inns m_posts m_shut m_here i_steps i_done i_at i_gone m_was m_came m_seenAt m_rowWorth m_farBy m_used i_everywhere i_again0 i_d0 i_never i_firstCame i_longRun i_moved i_crowd i_l0 i_fitMany i_fitLeast i_fitMost m_fitPost m_fitEnd m_keptPosts i_x0], [zAr T 0 m_all 3952 (upd (upd (upd f_all 4 0) 5 0) 6 (-1))], [zAr T 0 m_read 121 z]]) (fun (k_ : Nat) (z : Nat → Int32) => [(3, .int (nI k_)), (0, .ref mo), (1, .int 0), (2, .int (-1))]) (fun (k_ : Nat) (z : Nat → Int32) => k_ ≤ 121 ∧ (∀ j, j < k_ → z j = 0)) (fun (k_ : Nat) (z : Nat → Int32) => 121 - k_) ?_ 0 f_read (show 0 ≤ 121 ∧ (∀ j, j < 0 → f_read j = 0) from ⟨by omega, fun j hj => absurd hj (by omega)⟩) G (lv_sub hl [0, 1, 2, 3] rfl)
        intro k_ z hI9 ih_88 H locs ls G hl
        replace hI9 : k_ ≤ 121 ∧ (∀ j, j < k_ → z j = 0) := hI9
        refine zAn2 hI9 ?_
        intro hk_ hZ
        clear hI9
        replace G : zS T A s.heap s [[zO11 mo m_all m_has (f_all 4) 0 i_where i_token i_number i_word 0 (-1) m_read i_z0 i_crossings i_inns m_posts m_shut m_here i_steps i_done i_at i_gone m_was m_came m_seenAt m_rowWorth m_farBy m_used i_everywhere i_again0 i_d0 i_never i_firstCame i_longRun i_moved i_crowd i_l0 i_fitMany i_fitLeast i_fitMost m_fitPost m_fitEnd m_keptPosts i_x0], [zAr T 0 m_all 3952 (upd (upd (upd f_all 4 0) 5 0) 6 (-1))], [zAr T 0 m_read 121 z]] _ _ := G
        replace hl : lv_has ls 5 [(3, .int (nI k_)), (0, .ref mo), (1, .int 0), (2, .int (-1))] := hl
        refine lv_iload_n hx hb dX12_text_88 rfl (lv_at hl 0 rfl) ?_
        refine lv_bipush (v := 121) hx hb dX12_text_89 (by decide) ?_
        refine lv_icmp_ge (tgt := 107) hx hb dX12_text_91 (by decide) (fun c_30 => ?_) (fun c_30 => ?_)
        · have c_30n : 121 ≤ k_ := (nI_leI (a := 121) (b := k_) (by omega) (by omega)).mp c_30
          have G := z_cg G 2 rfl (fun _ => 0) (fun j hj => hZ j (by omega))
          have G : zS T A s.heap s [[zO11 mo m_all m_has (f_all 4) 0 i_where i_token i_number i_word 0 (-1) m_read i_z0 i_crossings i_inns m_posts m_shut m_here i_steps i_done i_at i_gone m_was m_came m_seenAt m_rowWorth m_farBy m_used i_everywhere i_again0 i_d0 i_never i_firstCame i_longRun i_moved i_crowd i_l0 i_fitMany i_fitLeast i_fitMost m_fitPost m_fitEnd m_keptPosts i_x0], [zAr T 0 m_all 3952 (upd (upd (upd f_all 4 0) 5 0) 6 (-1))], [zAr T 0 m_read 121 (fun _ => 0)]] _ _ := G
          refine lv_aload_n hx hb dX12_text_107 rfl (lv_at hl 1 rfl) ?_
          refine z_Vv (bc := [[zO11 mo m_all m_has (f_all 4) 0 i_where i_token i_number i_word 0 (-1) m_read i_z0 i_crossings i_inns m_posts m_shut m_here i_steps i_done i_at i_gone m_was m_came m_seenAt m_rowWorth m_farBy m_used i_everywhere i_again0 i_d0 i_never i_firstCame i_longRun i_moved i_crowd i_l0 i_fitMany i_fitLeast i_fitMost m_fitPost m_fitEnd m_keptPosts i_x0], [zAr T 0 m_all 3952 (upd (upd (upd f_all 4 0) 5 0) 6 (-1))]]) (br := [[zAr T 0 m_read 121 (fun _ => 0)]]) (As := []) (rest := []) C G (c_fm_advance l T mo m_all m_has (f_all 4) 0 i_where i_token i_number i_word 0 (-1) m_read i_z0 i_crossings i_inns m_posts m_shut m_here i_steps i_done i_at i_gone m_was m_came m_seenAt m_rowWorth m_farBy m_used i_everywhere i_again0 i_d0 i_never i_firstCame i_longRun i_moved i_crowd i_l0 i_fitMany i_fitLeast i_fitMost m_fitPost m_fitEnd m_keptPosts i_x0 (upd (upd (upd f_all 4 0) 5 0) 6 (-1)) 0 N k hsN rfl (Nat.zero_le _) hN6 (hk.trans (congrArg (fun q9 => tkT q9 N) (funext fun j => ((z_ne (by omega)).trans ((z_ne (by omega)).trans (z_ne (by omega)))).symm))) (fun j hj => by rw [z_ne (by omega), z_ne (by omega), z_ne (by omega)]; exact hby j hj)) (kV_RX12_119 C.2.2.2.2 (Nat.le_of_ble_eq_true rfl) (Nat.le_of_ble_eq_true rfl)) [0, 1] [0, 0] rfl rfl (ci := 11) (qc := (RX12, TX12, 43)) rfl rfl (List.mem_flatten.mpr ⟨_, List.mem_of_getElem? (i := 0) rfl, List.mem_cons_self⟩) rfl rfl hl.1 dX12_text_108 (Nat.le_of_ble_eq_true rfl) (Nat.le_of_ble_eq_true rfl) (fun b1 H locs hw G => ?_)
          refine zEx5 hw ?_
          intro j_next_31 j_where_32 j_token_33 j_number_34 j_word_35
          refine zCu8 ?_
          intro hbs9 h_36 h_37 h_38 h_39 h_40 h_41 h_42
          clear hw
          subst hbs9
          have G : zS T A s.heap s [[zAr T 0 m_read 121 (fun _ => 0)], [zO11 mo m_all m_has (f_all 4) j_next_31 j_where_32 j_token_33 j_number_34 j_word_35 0 (-1) m_read i_z0 i_crossings i_inns m_posts m_shut m_here i_steps i_done i_at i_gone m_was m_came m_seenAt m_rowWorth m_farBy m_used i_everywhere i_again0 i_d0 i_never i_firstCame i_longRun i_moved i_crowd i_l0 i_fitMany i_fitLeast i_fitMost m_fitPost m_fitEnd m_keptPosts i_x0], [zAr T 0 m_all 3952 (upd (upd (upd f_all 4 0) 5 0) 6 (-1))]] _ _ := G
          have h_38 : (0 : Int) ≤ j_next_31.toInt := h_38
          have h_39 : (j_token_33.toInt = 0 ∨ (0 : Int) < j_next_31.toInt) := h_39
          refine z_lp11 (T := T) 111 (fun (xn : Int32) (xw : Int32) (xt : Int32) (xu : Int32) (xo : Int32) (xr : Int32) (xf : Int32) (ga : Nat → Int32) (gr : Nat → Int32) (A9 : pS) (j : Nat) => [[zAr T 0 m_read 121 gr], [zO11 mo m_all m_has (f_all 4) xn xw xt xu xo xr xf m_read i_z0 i_crossings i_inns m_posts m_shut m_here i_steps i_done i_at i_gone m_was m_came m_seenAt m_rowWorth m_farBy m_used i_everywhere i_again0 i_d0 i_never i_firstCame i_longRun i_moved i_crowd i_l0 i_fitMany i_fitLeast i_fitMost m_fitPost m_fitEnd m_keptPosts i_x0], [zAr T 0 m_all 3952 ga]]) (fun (xn : Int32) (xw : Int32) (xt : Int32) (xu : Int32) (xo : Int32) (xr : Int32) (xf : Int32) (ga : Nat → Int32) (gr : Nat → Int32) (A9 : pS) (j : Nat) => [(0, .ref mo), (1, .int 0), (2, .int (-1))]) (fun (xn : Int32) (xw : Int32) (xt : Int32) (xu : Int32) (xo : Int32) (xr : Int32) (xf : Int32) (ga : Nat → Int32) (gr : Nat → Int32) (A9 : pS) (j : Nat) => zLF gr ∧ 0 ≤ xn.toInt ∧ xn.toInt ≤ (f_all 4).toInt ∧ zPal (upd (upd (upd f_all 4 0) 5 0) 6 (-1)) ga ∧ zRr k N (f_all 4) xn xw xt xu xo xr xf ga A9 ∧ pLines k 0 (601 - j) A9 gr = pLines k 0 601 (0, 0, 0, -1, -1) (fun _ => 0) ∧ (¬ xr.toInt = 0 ∨ xt.toInt = 0 ∨ (j : Int) < xn.toInt)) (fun (xn : Int32) (xw : Int32) (xt : Int32) (xu : Int32) (xo : Int32) (xr : Int32) (xf : Int32) (ga : Nat → Int32) (gr : Nat → Int32) (A9 : pS) (j : Nat) => zMu xr xt xn (f_all 4)) ?_ j_next_31 j_where_32 j_token_33 j_number_34 j_word_35 0 (-1) (upd (upd (upd f_all 4 0) 5 0) 6 (-1)) (fun _ => 0) (0, 0, 0, -1, -1) 0 (show zLF (fun _ => 0) ∧ 0 ≤ j_next_31.toInt ∧ j_next_31.toInt ≤ (f_all 4).toInt ∧ zPal (upd (upd (upd f_all 4 0) 5 0) 6 (-1)) (upd (upd (upd f_all 4 0) 5 0) 6 (-1)) ∧ zRr k N (f_all 4) j_next_31 j_where_32 j_token_33 j_number_34 j_word_35 0 (-1) (upd (upd (upd f_all 4 0) 5 0) 6 (-1)) (0, 0, 0, -1, -1) ∧ pLines k 0 (601 - 0) (0, 0, 0, -1, -1) (fun _ => 0) = pLines k 0 601 (0, 0, 0, -1, -1) (fun _ => 0) ∧ (¬ (0 : Int32).toInt = 0 ∨ j_token_33.toInt = 0 ∨ (0 : Int) < j_next_31.toInt) from ⟨(zLF_z (fun j hj => rfl)), by omega, by omega, (zPal_rf _), (zRr_st hk hby hN6 hsN h_42), rfl, by omega⟩) G (lv_sub hl [1, 2, 3] rfl)
          intro xn xw xt xu xo xr xf ga gr A9 j hI9 ih_111 H locs ls G hl
          replace hI9 : zLF gr ∧ 0 ≤ xn.toInt ∧ xn.toInt ≤ (f_all 4).toInt ∧ zPal (upd (upd (upd f_all 4 0) 5 0) 6 (-1)) ga ∧ zRr k N (f_all 4) xn xw xt xu xo xr xf ga A9 ∧ pLines k 0 (601 - j) A9 gr = pLines k 0 601 (0, 0, 0, -1, -1) (fun _ => 0) ∧ (¬ xr.toInt = 0 ∨ xt.toInt = 0 ∨ (j : Int) < xn.toInt) := hI9
          refine zAn7 hI9 ?_
          intro hL hx1 hx2 hpal hRA hEq hpj
          clear hI9
          replace G : zS T A s.heap s [[zAr T 0 m_read 121 gr], [zO11 mo m_all m_has (f_all 4) xn xw xt xu xo xr xf m_read i_z0 i_crossings i_inns m_posts m_shut m_here i_steps i_done i_at i_gone m_was m_came m_seenAt m_rowWorth m_farBy m_used i_everywhere i_again0 i_d0 i_never i_firstCame i_longRun i_moved i_crowd i_l0 i_fitMany i_fitLeast i_fitMost m_fitPost m_fitEnd m_keptPosts i_x0], [zAr T 0 m_all 3952 ga]] _ _ := G
          replace hl : lv_has ls 5 [(0, .ref mo), (1, .int 0), (2, .int (-1))] := hl
          refine lv_aload_n hx hb dX12_text_111 rfl (lv_at hl 0 rfl) ?_
          have hokA := zRr_ok hRA
          refine zAn6 (id hRA) ?_
          intro hA1A hA6A hA7A hA8A hA9A hA10A
          replace hA7A : zHd _ := hA7A
          have hkaA : zHd _ := hokA A9.1 hA1A.2.2.2.2
          have hkbA := hkaA.1
          have hkcA := hkaA.2.1
          have hT4A := pTk_le hokA hA1A.2.2.2.2
          refine z_get C G clX12 1 rfl 8 (by decide) m_fl_RX12_104 rfl dX12_text_112 ?_
          refine lv_if_ne (tgt := 173) hx hb dX12_text_115 (by decide) (fun c_44 => ?_) (fun c_44 => ?_)
          · have c_44n : ¬ xr.toInt = (0 : Int) := fun q => c_44 ((fa_eq _ _).mpr q)
            have hX := hEq.symm.trans (pLines_x (fun z9 => by first | (exact absurd z9.1 (by rw [← hA6A]; omega)) | (exact z9.2 (by omega))))
            have hRd := pRead_e (n := N) hX
            have hww : zHd (A9.2.1.toInt = 0 → xw = nI N) := fun z9 => by first | (exact absurd z9 (by rw [← hA6A]; omega)) | (rw [t2A, hkaA.2.2.1 (pTk_0.mp (by omega))])
            refine zMt1 (T := T) 208 (fun (gb : Nat → Int32) => [[zAr T 0 m_read 121 gr], [zO11 mo m_all m_has (f_all 4) xn xw xt xu xo xr xf m_read i_z0 i_crossings i_inns m_posts m_shut m_here i_steps i_done i_at i_gone m_was m_came m_seenAt m_rowWorth m_farBy m_used i_everywhere i_again0 i_d0 i_never i_firstCame i_longRun i_moved i_crowd i_l0 i_fitMany i_fitLeast i_fitMost m_fitPost m_fitEnd m_keptPosts i_x0], [zAr T 0 m_all 3952 gb]]) (fun (gb : Nat → Int32) => [(0, .ref mo), (1, .int 0), (2, .int (-1))]) (fun (gb : Nat → Int32) => zRr k N (f_all 4) xn xw xt xu xo xr xf gb (pF4 N 0 A9 gr) ∧ zHd ((pF4 N 0 A9 gr).2.1.toInt = 0 → xw = nI N) ∧ zPal (upd (upd (upd f_all 4 0) 5 0) 6 (-1)) gb) G hl ?_ (fun jn_208 => ?_)
            · intro gb hI9 H locs ls G hl
              replace hI9 : zRr k N (f_all 4) xn xw xt xu xo xr xf gb (pF4 N 0 A9 gr) ∧ zHd ((pF4 N 0 A9 gr).2.1.toInt = 0 → xw = nI N) ∧ zPal (upd (upd (upd f_all 4 0) 5 0) 6 (-1)) gb := hI9
              refine zAn3 hI9 ?_
              intro hR4 hw4 hpb
              clear hI9
              replace G : zS T A s.heap s [[zAr T 0 m_read 121 gr], [zO11 mo m_all m_has (f_all 4) xn xw xt xu xo xr xf m_read i_z0 i_crossings i_inns m_posts m_shut m_here i_steps i_done i_at i_gone m_was m_came m_seenAt m_rowWorth m_farBy m_used i_everywhere i_again0 i_d0 i_never i_firstCame i_longRun i_moved i_crowd i_l0 i_fitMany i_fitLeast i_fitMost m_fitPost m_fitEnd m_keptPosts i_x0], [zAr T 0 m_all 3952 gb]] _ _ := G
              replace hl : lv_has ls 5 [(0, .ref mo), (1, .int 0), (2, .int (-1))] := hl
              have h54 := hR4.2.2.2.1
              refine lv_iload_n hx hb dX12_text_208 rfl (lv_at hl 1 rfl) ?_
              refine lv_if_ne (tgt := 237) hx hb dX12_text_209 (by decide) (fun q => absurd (by decide) q) (fun _ => ?_)
              refine lv_aload_n hx hb dX12_text_212 rfl (lv_at hl 0 rfl) ?_
              refine z_get C G clX12 1 rfl 0 (by decide) m_fl_RX12_7 rfl dX12_text_213 ?_
              refine lv_iconst (v := 5) hx hb dX12_text_216 (by decide) ?_
              refine z_ild C G 2 rfl (vp_in_nI (n := 5) (by decide) (by decide)) dX12_text_217 ?_
              refine lv_topi (fun v_45 ev_45 => ?_)
              rw [show ((5 : Int32).toNatClampNeg) = 5 from rfl] at ev_45
              subst ev_45
              refine lv_if_ne (tgt := 237) hx hb dX12_text_218 (by decide) (fun c_46 => ?_) (fun c_46 => ?_)
              · have c_46n : ¬ (gb 5).toInt = (0 : Int) := fun q => c_46 ((fa_eq _ _).mpr q)
                have hZ1 : zRr k N (f_all 4) xn xw xt xu xo xr xf gb (pRead k N 0).1 := by rw [hRd]; show zRr _ _ _ _ _ _ _ _ _ _ _ (pF5 N 0 (pF4 N 0 A9 gr) gr); unfold pF5; rw [if_neg (fun z9 => by have z8 := z9.2.1; have z7 := z9.2.2; rw [← h54] at z8; first | omega | exact absurd (z7.symm.trans (show pPosts _ = true from by assumption)) (by decide))]; exact hR4
                have hZ2 : (pRead k N 0).2 = gr := by rw [hRd]; rfl
                have hZ5 := hZ1.2.2.2.1
                have hZ6 := hZ1.2.2.2.2.1
                have hZ5i := congrArg Int32.toInt hZ5
                have G := G.sub (bs' := [[zO11 mo m_all m_has (f_all 4) xn xw xt xu xo xr xf m_read i_z0 i_crossings i_inns m_posts m_shut m_here i_steps i_done i_at i_gone m_was m_came m_seenAt m_rowWorth m_farBy m_used i_everywhere i_again0 i_d0 i_never i_firstCame i_longRun i_moved i_crowd i_l0 i_fitMany i_fitLeast i_fitMost m_fitPost m_fitEnd m_keptPosts i_x0], [zAr T 0 m_all 3952 gb], [zAr T 0 m_read 121 gr]]) [1, 2, 0] rfl
                exact jn_237 xn xw xt xu xo xr xf gb gr (show zLF gr ∧ zPal (upd (upd (upd f_all 4 0) 5 0) 6 (-1)) gb ∧ zRr k N (f_all 4) xn xw xt xu xo xr xf gb (pRead k N 0).1 ∧ (pRead k N 0).2 = gr from ⟨(by assumption), hpb, hZ1, hZ2⟩) _ _ ls G (lv_sub hl [0, 1, 2] rfl)
              · have c_46n : (gb 5).toInt = (0 : Int) := (fa_eq _ _).mp c_46
                refine lv_aload_n hx hb dX12_text_221 rfl (lv_at hl 0 rfl) ?_
                refine z_Vi (bc := [[zO11 mo m_all m_has (f_all 4) xn xw xt xu xo xr xf m_read i_z0 i_crossings i_inns m_posts m_shut m_here i_steps i_done i_at i_gone m_was m_came m_seenAt m_rowWorth m_farBy m_used i_everywhere i_again0 i_d0 i_never i_firstCame i_longRun i_moved i_crowd i_l0 i_fitMany i_fitLeast i_fitMost m_fitPost m_fitEnd m_keptPosts i_x0], [zAr T 0 m_read 121 gr]]) (br := [[zAr T 0 m_all 3952 gb]]) (As := []) (rest := []) C G (c_fm_postsAreThere l T mo m_all m_has (f_all 4) xn xw xt xu xo xr xf m_read i_z0 i_crossings i_inns m_posts m_shut m_here i_steps i_done i_at i_gone m_was m_came m_seenAt m_rowWorth m_farBy m_used i_everywhere i_again0 i_d0 i_never i_firstCame i_longRun i_moved i_crowd i_l0 i_fitMany i_fitLeast i_fitMost m_fitPost m_fitEnd m_keptPosts i_x0 gr) (kV_RX12_156 C.2.2.2.2 (Nat.le_of_ble_eq_true rfl) (Nat.le_of_ble_eq_true rfl)) [1, 0] [0, 0] rfl rfl (ci := 11) (qc := (RX12, TX12, 43)) rfl rfl (List.mem_flatten.mpr ⟨_, List.mem_of_getElem? (i := 0) rfl, List.mem_cons_self⟩) rfl rfl hl.1 dX12_text_222 (Nat.le_of_ble_eq_true rfl) (Nat.le_of_ble_eq_true rfl) (fun r_48 b1 H locs hw G => ?_)
                refine zAn2 hw ?_
                intro hbs9 hc_47
                clear hw
                subst hbs9
                have G : zS T A s.heap s [[zAr T 0 m_all 3952 gb], [zO11 mo m_all m_has (f_all 4) xn xw xt xu xo xr xf m_read i_z0 i_crossings i_inns m_posts m_shut m_here i_steps i_done i_at i_gone m_was m_came m_seenAt m_rowWorth m_farBy m_used i_everywhere i_again0 i_d0 i_never i_firstCame i_longRun i_moved i_crowd i_l0 i_fitMany i_fitLeast i_fitMost m_fitPost m_fitEnd m_keptPosts i_x0], [zAr T 0 m_read 121 gr]] _ _ := G
                rcases hc_47 with ⟨rfl, h_49⟩ | ⟨rfl, h_50⟩
                · have h_49 : pPosts gr = true := h_49
                  refine lv_if_ne (tgt := 237) hx hb dX12_text_225 (by decide) (fun _ => ?_) (fun q => absurd q (by decide))
                  have hZ1 : zRr k N (f_all 4) xn xw xt xu xo xr xf gb (pRead k N 0).1 := by rw [hRd]; show zRr _ _ _ _ _ _ _ _ _ _ _ (pF5 N 0 (pF4 N 0 A9 gr) gr); unfold pF5; rw [if_neg (fun z9 => by have z8 := z9.2.1; have z7 := z9.2.2; rw [← h54] at z8; first | omega | exact absurd (z7.symm.trans (show pPosts _ = true from by assumption)) (by decide))]; exact hR4
                  have hZ2 : (pRead k N 0).2 = gr := by rw [hRd]; rfl
                  have hZ5 := hZ1.2.2.2.1
                  have hZ6 := hZ1.2.2.2.2.1
                  have hZ5i := congrArg Int32.toInt hZ5
                  have G := G.sub (bs' := [[zO11 mo m_all m_has (f_all 4) xn xw xt xu xo xr xf m_read i_z0 i_crossings i_inns m_posts m_shut m_here i_steps i_done i_at i_gone m_was m_came m_seenAt m_rowWorth m_farBy m_used i_everywhere i_again0 i_d0 i_never i_firstCame i_longRun i_moved i_crowd i_l0 i_fitMany i_fitLeast i_fitMost m_fitPost m_fitEnd m_keptPosts i_x0], [zAr T 0 m_all 3952 gb], [zAr T 0 m_read 121 gr]]) [1, 0, 2] rfl
                  exact jn_237 xn xw xt xu xo xr xf gb gr (show zLF gr ∧ zPal (upd (upd (upd f_all 4 0) 5 0) 6 (-1)) gb ∧ zRr k N (f_all 4) xn xw xt xu xo xr xf gb (pRead k N 0).1 ∧ (pRead k N 0).2 = gr from ⟨(by assumption), hpb, hZ1, hZ2⟩) _ _ ls G (lv_sub hl [0, 1, 2] rfl)
                · have h_50 : pPosts gr = false := h_50
                  refine lv_if_ne (tgt := 237) hx hb dX12_text_225 (by decide) (fun q => absurd (by decide) q) (fun _ => ?_)
                  refine lv_aload_n hx hb dX12_text_228 rfl (lv_at hl 0 rfl) ?_
                  refine lv_iconst (v := 5) hx hb dX12_text_229 (by decide) ?_
                  refine lv_aload_n hx hb dX12_text_230 rfl (lv_at hl 0 rfl) ?_
                  refine z_get C G clX12 1 rfl 4 (by decide) m_fl_RX12_77 rfl dX12_text_231 ?_
                  refine z_Vv (bc := [[zO11 mo m_all m_has (f_all 4) xn xw xt xu xo xr xf m_read i_z0 i_crossings i_inns m_posts m_shut m_here i_steps i_done i_at i_gone m_was m_came m_seenAt m_rowWorth m_farBy m_used i_everywhere i_again0 i_d0 i_never i_firstCame i_longRun i_moved i_crowd i_l0 i_fitMany i_fitLeast i_fitMost m_fitPost m_fitEnd m_keptPosts i_x0], [zAr T 0 m_all 3952 gb]]) (br := [[zAr T 0 m_read 121 gr]]) (As := [.int 5, .int xw]) (rest := []) C G (c_fm_also l T mo m_all m_has (f_all 4) xn xw xt xu xo xr xf m_read i_z0 i_crossings i_inns m_posts m_shut m_here i_steps i_done i_at i_gone m_was m_came m_seenAt m_rowWorth m_farBy m_used i_everywhere i_again0 i_d0 i_never i_firstCame i_longRun i_moved i_crowd i_l0 i_fitMany i_fitLeast i_fitMost m_fitPost m_fitEnd m_keptPosts i_x0 gb 5 xw) (kV_RX12_115 C.2.2.2.2 (Nat.le_of_ble_eq_true rfl) (Nat.le_of_ble_eq_true rfl)) [1, 0] [0, 0] rfl rfl (ci := 11) (qc := (RX12, TX12, 43)) rfl rfl (List.mem_flatten.mpr ⟨_, List.mem_of_getElem? (i := 0) rfl, List.mem_cons_self⟩) rfl rfl hl.1 dX12_text_234 (Nat.le_of_ble_eq_true rfl) (Nat.le_of_ble_eq_true rfl) (fun b1 H locs hw G => ?_)
                  refine zEx1 hw ?_
                  intro g_all_51
                  refine zCu3 ?_
                  intro hbs9 h_52 h_53
                  clear hw
                  subst hbs9
                  have G : zS T A s.heap s [[zAr T 0 m_read 121 gr], [zO11 mo m_all m_has (f_all 4) xn xw xt xu xo xr xf m_read i_z0 i_crossings i_inns m_posts m_shut m_here i_steps i_done i_at i_gone m_was m_came m_seenAt m_rowWorth m_farBy m_used i_everywhere i_again0 i_d0 i_never i_firstCame i_longRun i_moved i_crowd i_l0 i_fitMany i_fitLeast i_fitMost m_fitPost m_fitEnd m_keptPosts i_x0], [zAr T 0 m_all 3952 g_all_51]] _ _ := G
                  have h_53 : g_all_51 = (if ¬ xr.toInt = 0 ∨ (¬ (gb 5).toInt = 0 ∧ ((gb 6).toInt < xw.toInt ∨ ((gb 6).toInt = xw.toInt ∧ (gb 5).toInt ≤ (5 : Int)))) then gb else upd (upd gb 5 5) 6 xw) := h_53
                  have hZ1 : zRr k N (f_all 4) xn xw xt xu xo xr xf g_all_51 (pRead k N 0).1 := by rw [hRd]; show zRr _ _ _ _ _ _ _ _ _ _ _ (pF5 N 0 (pF4 N 0 A9 gr) gr); unfold pF5; rw [if_pos ⟨rfl, by rw [← h54]; omega, by assumption⟩, ← pAlso_w hw4]; exact zRr_also (kd := 5) (w := xw) hR4 h_53
                  have hZ2 : (pRead k N 0).2 = gr := by rw [hRd]; rfl
                  have hZ5 := hZ1.2.2.2.1
                  have hZ6 := hZ1.2.2.2.2.1
                  have hZ5i := congrArg Int32.toInt hZ5
                  have G := G.sub (bs' := [[zO11 mo m_all m_has (f_all 4) xn xw xt xu xo xr xf m_read i_z0 i_crossings i_inns m_posts m_shut m_here i_steps i_done i_at i_gone m_was m_came m_seenAt m_rowWorth m_farBy m_used i_everywhere i_again0 i_d0 i_never i_firstCame i_longRun i_moved i_crowd i_l0 i_fitMany i_fitLeast i_fitMost m_fitPost m_fitEnd m_keptPosts i_x0], [zAr T 0 m_all 3952 g_all_51], [zAr T 0 m_read 121 gr]]) [1, 2, 0] rfl
                  exact jn_237 xn xw xt xu xo xr xf g_all_51 gr (show zLF gr ∧ zPal (upd (upd (upd f_all 4 0) 5 0) 6 (-1)) g_all_51 ∧ zRr k N (f_all 4) xn xw xt xu xo xr xf g_all_51 (pRead k N 0).1 ∧ (pRead k N 0).2 = gr from ⟨(by assumption), (hpb.tr h_52), hZ1, hZ2⟩) _ _ ls G (lv_sub hl [0, 1, 2] rfl)
            refine lv_iload_n hx hb dX12_text_173 rfl (lv_at hl 1 rfl) ?_
            refine lv_if_ne (tgt := 208) hx hb dX12_text_174 (by decide) (fun q => absurd (by decide) q) (fun _ => ?_)
            refine lv_aload_n hx hb dX12_text_177 rfl (lv_at hl 0 rfl) ?_
            refine z_get C G clX12 1 rfl 0 (by decide) m_fl_RX12_7 rfl dX12_text_178 ?_
            refine lv_iconst (v := 5) hx hb dX12_text_181 (by decide) ?_
            refine z_ild C G 2 rfl (vp_in_nI (n := 5) (by decide) (by decide)) dX12_text_182 ?_
            refine lv_topi (fun v_55 ev_55 => ?_)
            rw [show ((5 : Int32).toNatClampNeg) = 5 from rfl] at ev_55
            subst ev_55
            refine lv_if_ne (tgt := 208) hx hb dX12_text_183 (by decide) (fun c_56 => ?_) (fun c_56 => ?_)
            · have c_56n : ¬ (ga 5).toInt = (0 : Int) := fun q => c_56 ((fa_eq _ _).mpr q)
              have hR4 : zRr k N (f_all 4) xn xw xt xu xo xr xf ga (pF4 N 0 A9 gr) := by unfold pF4; rw [if_neg (fun z9 => by have z8 := z9.2.1; have z7 := z9.2.2; rw [← hA8A] at z8; rw [← hA10A] at z7; omega)]; exact hRA
              have hw4 : zHd ((pF4 N 0 A9 gr).2.1.toInt = 0 → xw = nI N) := fun z9 => hww (by have z8 : (pF4 N 0 A9 gr).2.1 = A9.2.1 := (by unfold pF4; split; exact pAlso_fa.2.1; rfl); rw [z8] at z9; exact z9)
              have h54 := hR4.2.2.2.1
              exact jn_208 ga (show zRr k N (f_all 4) xn xw xt xu xo xr xf ga (pF4 N 0 A9 gr) ∧ zHd ((pF4 N 0 A9 gr).2.1.toInt = 0 → xw = nI N) ∧ zPal (upd (upd (upd f_all 4 0) 5 0) 6 (-1)) ga from ⟨hR4, hw4, hpal⟩) _ _ ls G (lv_sub hl [0, 1, 2] rfl)
            · have c_56n : (ga 5).toInt = (0 : Int) := (fa_eq _ _).mp c_56
              refine lv_aload_n hx hb dX12_text_186 rfl (lv_at hl 0 rfl) ?_
              refine z_get C G clX12 1 rfl 9 (by decide) m_fl_RX12_126 rfl dX12_text_187 ?_
              refine lv_aload_n hx hb dX12_text_190 rfl (lv_at hl 0 rfl) ?_
              refine z_get C G clX12 1 rfl 10 (by decide) m_fl_RX12_17 rfl dX12_text_191 ?_
              refine lv_iconst (v := 0) hx hb dX12_text_194 (by decide) ?_
              refine z_ild C G 0 rfl (vp_in_nI (n := 0) (by decide) (by decide)) dX12_text_195 ?_
              refine lv_topi (fun v_57 ev_57 => ?_)
              rw [show ((0 : Int32).toNatClampNeg) = 0 from rfl] at ev_57
              subst ev_57
              refine lv_icmp_lt (tgt := 208) hx hb dX12_text_196 (by decide) (fun c_58 => ?_) (fun c_58 => ?_)
              · have c_58n : xf.toInt < (gr 0).toInt := (fa_lt _ _).mp c_58
                have hR4 : zRr k N (f_all 4) xn xw xt xu xo xr xf ga (pF4 N 0 A9 gr) := by unfold pF4; rw [if_neg (fun z9 => by have z8 := z9.2.1; have z7 := z9.2.2; rw [← hA8A] at z8; rw [← hA10A] at z7; omega)]; exact hRA
                have hw4 : zHd ((pF4 N 0 A9 gr).2.1.toInt = 0 → xw = nI N) := fun z9 => hww (by have z8 : (pF4 N 0 A9 gr).2.1 = A9.2.1 := (by unfold pF4; split; exact pAlso_fa.2.1; rfl); rw [z8] at z9; exact z9)
                have h54 := hR4.2.2.2.1
                exact jn_208 ga (show zRr k N (f_all 4) xn xw xt xu xo xr xf ga (pF4 N 0 A9 gr) ∧ zHd ((pF4 N 0 A9 gr).2.1.toInt = 0 → xw = nI N) ∧ zPal (upd (upd (upd f_all 4 0) 5 0) 6 (-1)) ga from ⟨hR4, hw4, hpal⟩) _ _ ls G (lv_sub hl [0, 1, 2] rfl)
              · have c_58n : ¬ xf.toInt < (gr 0).toInt := fun q => c_58 ((fa_lt _ _).mpr q)
                refine lv_aload_n hx hb dX12_text_199 rfl (lv_at hl 0 rfl) ?_
                refine lv_iconst (v := 4) hx hb dX12_text_200 (by decide) ?_
                refine lv_aload_n hx hb dX12_text_201 rfl (lv_at hl 0 rfl) ?_
                refine z_get C G clX12 1 rfl 4 (by decide) m_fl_RX12_77 rfl dX12_text_202 ?_
                refine z_Vv (bc := [[zO11 mo m_all m_has (f_all 4) xn xw xt xu xo xr xf m_read i_z0 i_crossings i_inns m_posts m_shut m_here i_steps i_done i_at i_gone m_was m_came m_seenAt m_rowWorth m_farBy m_used i_everywhere i_again0 i_d0 i_never i_firstCame i_longRun i_moved i_crowd i_l0 i_fitMany i_fitLeast i_fitMost m_fitPost m_fitEnd m_keptPosts i_x0], [zAr T 0 m_all 3952 ga]]) (br := [[zAr T 0 m_read 121 gr]]) (As := [.int 4, .int xw]) (rest := []) C G (c_fm_also l T mo m_all m_has (f_all 4) xn xw xt xu xo xr xf m_read i_z0 i_crossings i_inns m_posts m_shut m_here i_steps i_done i_at i_gone m_was m_came m_seenAt m_rowWorth m_farBy m_used i_everywhere i_again0 i_d0 i_never i_firstCame i_longRun i_moved i_crowd i_l0 i_fitMany i_fitLeast i_fitMost m_fitPost m_fitEnd m_keptPosts i_x0 ga 4 xw) (kV_RX12_115 C.2.2.2.2 (Nat.le_of_ble_eq_true rfl) (Nat.le_of_ble_eq_true rfl)) [1, 2] [1, 0] rfl rfl (ci := 11) (qc := (RX12, TX12, 43)) rfl rfl (List.mem_flatten.mpr ⟨_, List.mem_of_getElem? (i := 0) rfl, List.mem_cons_self⟩) rfl rfl hl.1 dX12_text_205 (Nat.le_of_ble_eq_true rfl) (Nat.le_of_ble_eq_true rfl) (fun b1 H locs hw G => ?_)
                refine zEx1 hw ?_
                intro g_all_59
                refine zCu3 ?_
                intro hbs9 h_60 h_61
                clear hw
                subst hbs9
                have G : zS T A s.heap s [[zAr T 0 m_read 121 gr], [zO11 mo m_all m_has (f_all 4) xn xw xt xu xo xr xf m_read i_z0 i_crossings i_inns m_posts m_shut m_here i_steps i_done i_at i_gone m_was m_came m_seenAt m_rowWorth m_farBy m_used i_everywhere i_again0 i_d0 i_never i_firstCame i_longRun i_moved i_crowd i_l0 i_fitMany i_fitLeast i_fitMost m_fitPost m_fitEnd m_keptPosts i_x0], [zAr T 0 m_all 3952 g_all_59]] _ _ := G
                have h_61 : g_all_59 = (if ¬ xr.toInt = 0 ∨ (¬ (ga 5).toInt = 0 ∧ ((ga 6).toInt < xw.toInt ∨ ((ga 6).toInt = xw.toInt ∧ (ga 5).toInt ≤ (4 : Int)))) then ga else upd (upd ga 5 4) 6 xw) := h_61
                have hR4 : zRr k N (f_all 4) xn xw xt xu xo xr xf g_all_59 (pF4 N 0 A9 gr) := by unfold pF4; rw [if_pos ⟨rfl, by rw [← hA8A]; omega, by rw [← hA10A]; omega⟩, ← pAlso_w hww]; exact zRr_also (kd := 4) (w := xw) hRA h_61
                have hw4 : zHd ((pF4 N 0 A9 gr).2.1.toInt = 0 → xw = nI N) := fun z9 => hww (by have z8 : (pF4 N 0 A9 gr).2.1 = A9.2.1 := (by unfold pF4; split; exact pAlso_fa.2.1; rfl); rw [z8] at z9; exact z9)
                have h54 := hR4.2.2.2.1
                exact jn_208 g_all_59 (show zRr k N (f_all 4) xn xw xt xu xo xr xf g_all_59 (pF4 N 0 A9 gr) ∧ zHd ((pF4 N 0 A9 gr).2.1.toInt = 0 → xw = nI N) ∧ zPal (upd (upd (upd f_all 4 0) 5 0) 6 (-1)) g_all_59 from ⟨hR4, hw4, (hpal.tr h_60)⟩) _ _ ls G (lv_sub hl [0, 1, 2] rfl)
          · have c_44n : xr.toInt = (0 : Int) := (fa_eq _ _).mp c_44
            have hwA : A9.2.1.toInt = 0 := by rw [← hA6A]; omega
            refine zAn5 (hA7A hwA) ?_
            intro t1A t2A t3A t4A t5A
            replace t4A : zHd _ := t4A
            replace t5A : zHd _ := t5A
            have t3iA : xt.toInt = (pTk k A9.1 : Int) := by rw [t3A]; exact nI_toInt (by omega)
            refine lv_aload_n hx hb dX12_text_118 rfl (lv_at hl 0 rfl) ?_
            refine z_get C G clX12 1 rfl 5 (by decide) m_fl_RX12_80 rfl dX12_text_119 ?_
            refine lv_if_eq (tgt := 173) hx hb dX12_text_122 (by decide) (fun c_63 => ?_) (fun c_63 => ?_)
            · have c_63n : xt.toInt = (0 : Int) := (fa_eq _ _).mp c_63
              have hX := hEq.symm.trans (pLines_x (fun z9 => by first | (exact absurd z9.1 (by rw [← hA6A]; omega)) | (exact z9.2 (by omega))))
              have hRd := pRead_e (n := N) hX
              have hww : zHd (A9.2.1.toInt = 0 → xw = nI N) := fun z9 => by first | (exact absurd z9 (by rw [← hA6A]; omega)) | (rw [t2A, hkaA.2.2.1 (pTk_0.mp (by omega))])
              refine zMt1 (T := T) 208 (fun (gb : Nat → Int32) => [[zAr T 0 m_read 121 gr], [zO11 mo m_all m_has (f_all 4) xn xw xt xu xo xr xf m_read i_z0 i_crossings i_inns m_posts m_shut m_here i_steps i_done i_at i_gone m_was m_came m_seenAt m_rowWorth m_farBy m_used i_everywhere i_again0 i_d0 i_never i_firstCame i_longRun i_moved i_crowd i_l0 i_fitMany i_fitLeast i_fitMost m_fitPost m_fitEnd m_keptPosts i_x0], [zAr T 0 m_all 3952 gb]]) (fun (gb : Nat → Int32) => [(0, .ref mo), (1, .int 0), (2, .int (-1))]) (fun (gb : Nat → Int32) => zRr k N (f_all 4) xn xw xt xu xo xr xf gb (pF4 N 0 A9 gr) ∧ zHd ((pF4 N 0 A9 gr).2.1.toInt = 0 → xw = nI N) ∧ zPal (upd (upd (upd f_all 4 0) 5 0) 6 (-1)) gb) G hl ?_ (fun jn_208 => ?_)
              · intro gb hI9 H locs ls G hl
                replace hI9 : zRr k N (f_all 4) xn xw xt xu xo xr xf gb (pF4 N 0 A9 gr) ∧ zHd ((pF4 N 0 A9 gr).2.1.toInt = 0 → xw = nI N) ∧ zPal (upd (upd (upd f_all 4 0) 5 0) 6 (-1)) gb := hI9
                refine zAn3 hI9 ?_
                intro hR4 hw4 hpb
                clear hI9
                replace G : zS T A s.heap s [[zAr T 0 m_read 121 gr], [zO11 mo m_all m_has (f_all 4) xn xw xt xu xo xr xf m_read i_z0 i_crossings i_inns m_posts m_shut m_here i_steps i_done i_at i_gone m_was m_came m_seenAt m_rowWorth m_farBy m_used i_everywhere i_again0 i_d0 i_never i_firstCame i_longRun i_moved i_crowd i_l0 i_fitMany i_fitLeast i_fitMost m_fitPost m_fitEnd m_keptPosts i_x0], [zAr T 0 m_all 3952 gb]] _ _ := G
                replace hl : lv_has ls 5 [(0, .ref mo), (1, .int 0), (2, .int (-1))] := hl
                have h54 := hR4.2.2.2.1
                refine lv_iload_n hx hb dX12_text_208 rfl (lv_at hl 1 rfl) ?_
                refine lv_if_ne (tgt := 237) hx hb dX12_text_209 (by decide) (fun q => absurd (by decide) q) (fun _ => ?_)
                refine lv_aload_n hx hb dX12_text_212 rfl (lv_at hl 0 rfl) ?_
                refine z_get C G clX12 1 rfl 0 (by decide) m_fl_RX12_7 rfl dX12_text_213 ?_
                refine lv_iconst (v := 5) hx hb dX12_text_216 (by decide) ?_
                refine z_ild C G 2 rfl (vp_in_nI (n := 5) (by decide) (by decide)) dX12_text_217 ?_
                refine lv_topi (fun v_64 ev_64 => ?_)
                rw [show ((5 : Int32).toNatClampNeg) = 5 from rfl] at ev_64
                subst ev_64
                refine lv_if_ne (tgt := 237) hx hb dX12_text_218 (by decide) (fun c_65 => ?_) (fun c_65 => ?_)
                · have c_65n : ¬ (gb 5).toInt = (0 : Int) := fun q => c_65 ((fa_eq _ _).mpr q)
                  have hZ1 : zRr k N (f_all 4) xn xw xt xu xo xr xf gb (pRead k N 0).1 := by rw [hRd]; show zRr _ _ _ _ _ _ _ _ _ _ _ (pF5 N 0 (pF4 N 0 A9 gr) gr); unfold pF5; rw [if_neg (fun z9 => by have z8 := z9.2.1; have z7 := z9.2.2; rw [← h54] at z8; first | omega | exact absurd (z7.symm.trans (show pPosts _ = true from by assumption)) (by decide))]; exact hR4
                  have hZ2 : (pRead k N 0).2 = gr := by rw [hRd]; rfl
                  have hZ5 := hZ1.2.2.2.1
                  have hZ6 := hZ1.2.2.2.2.1
                  have hZ5i := congrArg Int32.toInt hZ5
                  have G := G.sub (bs' := [[zO11 mo m_all m_has (f_all 4) xn xw xt xu xo xr xf m_read i_z0 i_crossings i_inns m_posts m_shut m_here i_steps i_done i_at i_gone m_was m_came m_seenAt m_rowWorth m_farBy m_used i_everywhere i_again0 i_d0 i_never i_firstCame i_longRun i_moved i_crowd i_l0 i_fitMany i_fitLeast i_fitMost m_fitPost m_fitEnd m_keptPosts i_x0], [zAr T 0 m_all 3952 gb], [zAr T 0 m_read 121 gr]]) [1, 2, 0] rfl
                  exact jn_237 xn xw xt xu xo xr xf gb gr (show zLF gr ∧ zPal (upd (upd (upd f_all 4 0) 5 0) 6 (-1)) gb ∧ zRr k N (f_all 4) xn xw xt xu xo xr xf gb (pRead k N 0).1 ∧ (pRead k N 0).2 = gr from ⟨(by assumption), hpb, hZ1, hZ2⟩) _ _ ls G (lv_sub hl [0, 1, 2] rfl)
                · have c_65n : (gb 5).toInt = (0 : Int) := (fa_eq _ _).mp c_65
                  refine lv_aload_n hx hb dX12_text_221 rfl (lv_at hl 0 rfl) ?_
                  refine z_Vi (bc := [[zO11 mo m_all m_has (f_all 4) xn xw xt xu xo xr xf m_read i_z0 i_crossings i_inns m_posts m_shut m_here i_steps i_done i_at i_gone m_was m_came m_seenAt m_rowWorth m_farBy m_used i_everywhere i_again0 i_d0 i_never i_firstCame i_longRun i_moved i_crowd i_l0 i_fitMany i_fitLeast i_fitMost m_fitPost m_fitEnd m_keptPosts i_x0], [zAr T 0 m_read 121 gr]]) (br := [[zAr T 0 m_all 3952 gb]]) (As := []) (rest := []) C G (c_fm_postsAreThere l T mo m_all m_has (f_all 4) xn xw xt xu xo xr xf m_read i_z0 i_crossings i_inns m_posts m_shut m_here i_steps i_done i_at i_gone m_was m_came m_seenAt m_rowWorth m_farBy m_used i_everywhere i_again0 i_d0 i_never i_firstCame i_longRun i_moved i_crowd i_l0 i_fitMany i_fitLeast i_fitMost m_fitPost m_fitEnd m_keptPosts i_x0 gr) (kV_RX12_156 C.2.2.2.2 (Nat.le_of_ble_eq_true rfl) (Nat.le_of_ble_eq_true rfl)) [1, 0] [0, 0] rfl rfl (ci := 11) (qc := (RX12, TX12, 43)) rfl rfl (List.mem_flatten.mpr ⟨_, List.mem_of_getElem? (i := 0) rfl, List.mem_cons_self⟩) rfl rfl hl.1 dX12_text_222 (Nat.le_of_ble_eq_true rfl) (Nat.le_of_ble_eq_true rfl) (fun r_67 b1 H locs hw G => ?_)
                  refine zAn2 hw ?_
                  intro hbs9 hc_66
                  clear hw
                  subst hbs9
                  have G : zS T A s.heap s [[zAr T 0 m_all 3952 gb], [zO11 mo m_all m_has (f_all 4) xn xw xt xu xo xr xf m_read i_z0 i_crossings i_inns m_posts m_shut m_here i_steps i_done i_at i_gone m_was m_came m_seenAt m_rowWorth m_farBy m_used i_everywhere i_again0 i_d0 i_never i_firstCame i_longRun i_moved i_crowd i_l0 i_fitMany i_fitLeast i_fitMost m_fitPost m_fitEnd m_keptPosts i_x0], [zAr T 0 m_read 121 gr]] _ _ := G
                  rcases hc_66 with ⟨rfl, h_68⟩ | ⟨rfl, h_69⟩
                  · have h_68 : pPosts gr = true := h_68
                    refine lv_if_ne (tgt := 237) hx hb dX12_text_225 (by decide) (fun _ => ?_) (fun q => absurd q (by decide))
                    have hZ1 : zRr k N (f_all 4) xn xw xt xu xo xr xf gb (pRead k N 0).1 := by rw [hRd]; show zRr _ _ _ _ _ _ _ _ _ _ _ (pF5 N 0 (pF4 N 0 A9 gr) gr); unfold pF5; rw [if_neg (fun z9 => by have z8 := z9.2.1; have z7 := z9.2.2; rw [← h54] at z8; first | omega | exact absurd (z7.symm.trans (show pPosts _ = true from by assumption)) (by decide))]; exact hR4
                    have hZ2 : (pRead k N 0).2 = gr := by rw [hRd]; rfl
                    have hZ5 := hZ1.2.2.2.1
                    have hZ6 := hZ1.2.2.2.2.1
                    have hZ5i := congrArg Int32.toInt hZ5
                    have G := G.sub (bs' := [[zO11 mo m_all m_has (f_all 4) xn xw xt xu xo xr xf m_read i_z0 i_crossings i_inns m_posts m_shut m_here i_steps i_done i_at i_gone m_was m_came m_seenAt m_rowWorth m_farBy m_used i_everywhere i_again0 i_d0 i_never i_firstCame i_longRun i_moved i_crowd i_l0 i_fitMany i_fitLeast i_fitMost m_fitPost m_fitEnd m_keptPosts i_x0], [zAr T 0 m_all 3952 gb], [zAr T 0 m_read 121 gr]]) [1, 0, 2] rfl
                    exact jn_237 xn xw xt xu xo xr xf gb gr (show zLF gr ∧ zPal (upd (upd (upd f_all 4 0) 5 0) 6 (-1)) gb ∧ zRr k N (f_all 4) xn xw xt xu xo xr xf gb (pRead k N 0).1 ∧ (pRead k N 0).2 = gr from ⟨(by assumption), hpb, hZ1, hZ2⟩) _ _ ls G (lv_sub hl [0, 1, 2] rfl)
                  · have h_69 : pPosts gr = false := h_69
                    refine lv_if_ne (tgt := 237) hx hb dX12_text_225 (by decide) (fun q => absurd (by decide) q) (fun _ => ?_)
                    refine lv_aload_n hx hb dX12_text_228 rfl (lv_at hl 0 rfl) ?_
                    refine lv_iconst (v := 5) hx hb dX12_text_229 (by decide) ?_
                    refine lv_aload_n hx hb dX12_text_230 rfl (lv_at hl 0 rfl) ?_
                    refine z_get C G clX12 1 rfl 4 (by decide) m_fl_RX12_77 rfl dX12_text_231 ?_
                    refine z_Vv (bc := [[zO11 mo m_all m_has (f_all 4) xn xw xt xu xo xr xf m_read i_z0 i_crossings i_inns m_posts m_shut m_here i_steps i_done i_at i_gone m_was m_came m_seenAt m_rowWorth m_farBy m_used i_everywhere i_again0 i_d0 i_never i_firstCame i_longRun i_moved i_crowd i_l0 i_fitMany i_fitLeast i_fitMost m_fitPost m_fitEnd m_keptPosts i_x0], [zAr T 0 m_all 3952 gb]]) (br := [[zAr T 0 m_read 121 gr]]) (As := [.int 5, .int xw]) (rest := []) C G (c_fm_also l T mo m_all m_has (f_all 4) xn xw xt xu xo xr xf m_read i_z0 i_crossings i_inns m_posts m_shut m_here i_steps i_done i_at i_gone m_was m_came m_seenAt m_rowWorth m_farBy m_used i_everywhere i_again0 i_d0 i_never i_firstCame i_longRun i_moved i_crowd i_l0 i_fitMany i_fitLeast i_fitMost m_fitPost m_fitEnd m_keptPosts i_x0 gb 5 xw) (kV_RX12_115 C.2.2.2.2 (Nat.le_of_ble_eq_true rfl) (Nat.le_of_ble_eq_true rfl)) [1, 0] [0, 0] rfl rfl (ci := 11) (qc := (RX12, TX12, 43)) rfl rfl (List.mem_flatten.mpr ⟨_, List.mem_of_getElem? (i := 0) rfl, List.mem_cons_self⟩) rfl rfl hl.1 dX12_text_234 (Nat.le_of_ble_eq_true rfl) (Nat.le_of_ble_eq_true rfl) (fun b1 H locs hw G => ?_)
                    refine zEx1 hw ?_
                    intro g_all_70
                    refine zCu3 ?_
                    intro hbs9 h_71 h_72
                    clear hw
                    subst hbs9
                    have G : zS T A s.heap s [[zAr T 0 m_read 121 gr], [zO11 mo m_all m_has (f_all 4) xn xw xt xu xo xr xf m_read i_z0 i_crossings i_inns m_posts m_shut m_here i_steps i_done i_at i_gone m_was m_came m_seenAt m_rowWorth m_farBy m_used i_everywhere i_again0 i_d0 i_never i_firstCame i_longRun i_moved i_crowd i_l0 i_fitMany i_fitLeast i_fitMost m_fitPost m_fitEnd m_keptPosts i_x0], [zAr T 0 m_all 3952 g_all_70]] _ _ := G
                    have h_72 : g_all_70 = (if ¬ xr.toInt = 0 ∨ (¬ (gb 5).toInt = 0 ∧ ((gb 6).toInt < xw.toInt ∨ ((gb 6).toInt = xw.toInt ∧ (gb 5).toInt ≤ (5 : Int)))) then gb else upd (upd gb 5 5) 6 xw) := h_72
                    have hZ1 : zRr k N (f_all 4) xn xw xt xu xo xr xf g_all_70 (pRead k N 0).1 := by rw [hRd]; show zRr _ _ _ _ _ _ _ _ _ _ _ (pF5 N 0 (pF4 N 0 A9 gr) gr); unfold pF5; rw [if_pos ⟨rfl, by rw [← h54]; omega, by assumption⟩, ← pAlso_w hw4]; exact zRr_also (kd := 5) (w := xw) hR4 h_72
                    have hZ2 : (pRead k N 0).2 = gr := by rw [hRd]; rfl
                    have hZ5 := hZ1.2.2.2.1
                    have hZ6 := hZ1.2.2.2.2.1
                    have hZ5i := congrArg Int32.toInt hZ5
                    have G := G.sub (bs' := [[zO11 mo m_all m_has (f_all 4) xn xw xt xu xo xr xf m_read i_z0 i_crossings i_inns m_posts m_shut m_here i_steps i_done i_at i_gone m_was m_came m_seenAt m_rowWorth m_farBy m_used i_everywhere i_again0 i_d0 i_never i_firstCame i_longRun i_moved i_crowd i_l0 i_fitMany i_fitLeast i_fitMost m_fitPost m_fitEnd m_keptPosts i_x0], [zAr T 0 m_all 3952 g_all_70], [zAr T 0 m_read 121 gr]]) [1, 2, 0] rfl
                    exact jn_237 xn xw xt xu xo xr xf g_all_70 gr (show zLF gr ∧ zPal (upd (upd (upd f_all 4 0) 5 0) 6 (-1)) g_all_70 ∧ zRr k N (f_all 4) xn xw xt xu xo xr xf g_all_70 (pRead k N 0).1 ∧ (pRead k N 0).2 = gr from ⟨(by assumption), (hpb.tr h_71), hZ1, hZ2⟩) _ _ ls G (lv_sub hl [0, 1, 2] rfl)
              refine lv_iload_n hx hb dX12_text_173 rfl (lv_at hl 1 rfl) ?_
              refine lv_if_ne (tgt := 208) hx hb dX12_text_174 (by decide) (fun q => absurd (by decide) q) (fun _ => ?_)
              refine lv_aload_n hx hb dX12_text_177 rfl (lv_at hl 0 rfl) ?_
              refine z_get C G clX12 1 rfl 0 (by decide) m_fl_RX12_7 rfl dX12_text_178 ?_
              refine lv_iconst (v := 5) hx hb dX12_text_181 (by decide) ?_
              refine z_ild C G 2 rfl (vp_in_nI (n := 5) (by decide) (by decide)) dX12_text_182 ?_
              refine lv_topi (fun v_74 ev_74 => ?_)
              rw [show ((5 : Int32).toNatClampNeg) = 5 from rfl] at ev_74
              subst ev_74
              refine lv_if_ne (tgt := 208) hx hb dX12_text_183 (by decide) (fun c_75 => ?_) (fun c_75 => ?_)
              · have c_75n : ¬ (ga 5).toInt = (0 : Int) := fun q => c_75 ((fa_eq _ _).mpr q)
                have hR4 : zRr k N (f_all 4) xn xw xt xu xo xr xf ga (pF4 N 0 A9 gr) := by unfold pF4; rw [if_neg (fun z9 => by have z8 := z9.2.1; have z7 := z9.2.2; rw [← hA8A] at z8; rw [← hA10A] at z7; omega)]; exact hRA
                have hw4 : zHd ((pF4 N 0 A9 gr).2.1.toInt = 0 → xw = nI N) := fun z9 => hww (by have z8 : (pF4 N 0 A9 gr).2.1 = A9.2.1 := (by unfold pF4; split; exact pAlso_fa.2.1; rfl); rw [z8] at z9; exact z9)
                have h54 := hR4.2.2.2.1
                exact jn_208 ga (show zRr k N (f_all 4) xn xw xt xu xo xr xf ga (pF4 N 0 A9 gr) ∧ zHd ((pF4 N 0 A9 gr).2.1.toInt = 0 → xw = nI N) ∧ zPal (upd (upd (upd f_all 4 0) 5 0) 6 (-1)) ga from ⟨hR4, hw4, hpal⟩) _ _ ls G (lv_sub hl [0, 1, 2] rfl)
              · have c_75n : (ga 5).toInt = (0 : Int) := (fa_eq _ _).mp c_75
                refine lv_aload_n hx hb dX12_text_186 rfl (lv_at hl 0 rfl) ?_
                refine z_get C G clX12 1 rfl 9 (by decide) m_fl_RX12_126 rfl dX12_text_187 ?_
                refine lv_aload_n hx hb dX12_text_190 rfl (lv_at hl 0 rfl) ?_
                refine z_get C G clX12 1 rfl 10 (by decide) m_fl_RX12_17 rfl dX12_text_191 ?_
                refine lv_iconst (v := 0) hx hb dX12_text_194 (by decide) ?_
                refine z_ild C G 0 rfl (vp_in_nI (n := 0) (by decide) (by decide)) dX12_text_195 ?_
                refine lv_topi (fun v_76 ev_76 => ?_)
                rw [show ((0 : Int32).toNatClampNeg) = 0 from rfl] at ev_76
                subst ev_76
                refine lv_icmp_lt (tgt := 208) hx hb dX12_text_196 (by decide) (fun c_77 => ?_) (fun c_77 => ?_)
                · have c_77n : xf.toInt < (gr 0).toInt := (fa_lt _ _).mp c_77
                  have hR4 : zRr k N (f_all 4) xn xw xt xu xo xr xf ga (pF4 N 0 A9 gr) := by unfold pF4; rw [if_neg (fun z9 => by have z8 := z9.2.1; have z7 := z9.2.2; rw [← hA8A] at z8; rw [← hA10A] at z7; omega)]; exact hRA
                  have hw4 : zHd ((pF4 N 0 A9 gr).2.1.toInt = 0 → xw = nI N) := fun z9 => hww (by have z8 : (pF4 N 0 A9 gr).2.1 = A9.2.1 := (by unfold pF4; split; exact pAlso_fa.2.1; rfl); rw [z8] at z9; exact z9)
                  have h54 := hR4.2.2.2.1
                  exact jn_208 ga (show zRr k N (f_all 4) xn xw xt xu xo xr xf ga (pF4 N 0 A9 gr) ∧ zHd ((pF4 N 0 A9 gr).2.1.toInt = 0 → xw = nI N) ∧ zPal (upd (upd (upd f_all 4 0) 5 0) 6 (-1)) ga from ⟨hR4, hw4, hpal⟩) _ _ ls G (lv_sub hl [0, 1, 2] rfl)
                · have c_77n : ¬ xf.toInt < (gr 0).toInt := fun q => c_77 ((fa_lt _ _).mpr q)
                  refine lv_aload_n hx hb dX12_text_199 rfl (lv_at hl 0 rfl) ?_
                  refine lv_iconst (v := 4) hx hb dX12_text_200 (by decide) ?_
                  refine lv_aload_n hx hb dX12_text_201 rfl (lv_at hl 0 rfl) ?_
                  refine z_get C G clX12 1 rfl 4 (by decide) m_fl_RX12_77 rfl dX12_text_202 ?_
                  refine z_Vv (bc := [[zO11 mo m_all m_has (f_all 4) xn xw xt xu xo xr xf m_read i_z0 i_crossings i_inns m_posts m_shut m_here i_steps i_done i_at i_gone m_was m_came m_seenAt m_rowWorth m_farBy m_used i_everywhere i_again0 i_d0 i_never i_firstCame i_longRun i_moved i_crowd i_l0 i_fitMany i_fitLeast i_fitMost m_fitPost m_fitEnd m_keptPosts i_x0], [zAr T 0 m_all 3952 ga]]) (br := [[zAr T 0 m_read 121 gr]]) (As := [.int 4, .int xw]) (rest := []) C G (c_fm_also l T mo m_all m_has (f_all 4) xn xw xt xu xo xr xf m_read i_z0 i_crossings i_inns m_posts m_shut m_here i_steps i_done i_at i_gone m_was m_came m_seenAt m_rowWorth m_farBy m_used i_everywhere i_again0 i_d0 i_never i_firstCame i_longRun i_moved i_crowd i_l0 i_fitMany i_fitLeast i_fitMost m_fitPost m_fitEnd m_keptPosts i_x0 ga 4 xw) (kV_RX12_115 C.2.2.2.2 (Nat.le_of_ble_eq_true rfl) (Nat.le_of_ble_eq_true rfl)) [1, 2] [1, 0] rfl rfl (ci := 11) (qc := (RX12, TX12, 43)) rfl rfl (List.mem_flatten.mpr ⟨_, List.mem_of_getElem? (i := 0) rfl, List.mem_cons_self⟩) rfl rfl hl.1 dX12_text_205 (Nat.le_of_ble_eq_true rfl) (Nat.le_of_ble_eq_true rfl) (fun b1 H locs hw G => ?_)
                  refine zEx1 hw ?_
                  intro g_all_78
                  refine zCu3 ?_
                  intro hbs9 h_79 h_80
                  clear hw
                  subst hbs9
                  have G : zS T A s.heap s [[zAr T 0 m_read 121 gr], [zO11 mo m_all m_has (f_all 4) xn xw xt xu xo xr xf m_read i_z0 i_crossings i_inns m_posts m_shut m_here i_steps i_done i_at i_gone m_was m_came m_seenAt m_rowWorth m_farBy m_used i_everywhere i_again0 i_d0 i_never i_firstCame i_longRun i_moved i_crowd i_l0 i_fitMany i_fitLeast i_fitMost m_fitPost m_fitEnd m_keptPosts i_x0], [zAr T 0 m_all 3952 g_all_78]] _ _ := G
                  have h_80 : g_all_78 = (if ¬ xr.toInt = 0 ∨ (¬ (ga 5).toInt = 0 ∧ ((ga 6).toInt < xw.toInt ∨ ((ga 6).toInt = xw.toInt ∧ (ga 5).toInt ≤ (4 : Int)))) then ga else upd (upd ga 5 4) 6 xw) := h_80
                  have hR4 : zRr k N (f_all 4) xn xw xt xu xo xr xf g_all_78 (pF4 N 0 A9 gr) := by unfold pF4; rw [if_pos ⟨rfl, by rw [← hA8A]; omega, by rw [← hA10A]; omega⟩, ← pAlso_w hww]; exact zRr_also (kd := 4) (w := xw) hRA h_80
                  have hw4 : zHd ((pF4 N 0 A9 gr).2.1.toInt = 0 → xw = nI N) := fun z9 => hww (by have z8 : (pF4 N 0 A9 gr).2.1 = A9.2.1 := (by unfold pF4; split; exact pAlso_fa.2.1; rfl); rw [z8] at z9; exact z9)
                  have h54 := hR4.2.2.2.1
                  exact jn_208 g_all_78 (show zRr k N (f_all 4) xn xw xt xu xo xr xf g_all_78 (pF4 N 0 A9 gr) ∧ zHd ((pF4 N 0 A9 gr).2.1.toInt = 0 → xw = nI N) ∧ zPal (upd (upd (upd f_all 4 0) 5 0) 6 (-1)) g_all_78 from ⟨hR4, hw4, (hpal.tr h_79)⟩) _ _ ls G (lv_sub hl [0, 1, 2] rfl)
            · have c_63n : ¬ xt.toInt = (0 : Int) := fun q => c_63 ((fa_eq _ _).mpr q)
              have htA : ¬ pTk k A9.1 = 0 := by omega
              refine lv_iload_n hx hb dX12_text_125 rfl (lv_at hl 1 rfl) ?_
              refine lv_lookup (tgt := 152) hx hb dX12_text_126 (by decide) rfl (by decide) ?_
              refine lv_aload_n hx hb dX12_text_152 rfl (lv_at hl 0 rfl) ?_
              refine z_Vv (bc := [[zO11 mo m_all m_has (f_all 4) xn xw xt xu xo xr xf m_read i_z0 i_crossings i_inns m_posts m_shut m_here i_steps i_done i_at i_gone m_was m_came m_seenAt m_rowWorth m_farBy m_used i_everywhere i_again0 i_d0 i_never i_firstCame i_longRun i_moved i_crowd i_l0 i_fitMany i_fitLeast i_fitMost m_fitPost m_fitEnd m_keptPosts i_x0], [zAr T 0 m_all 3952 ga], [zAr T 0 m_read 121 gr]]) (br := []) (As := []) (rest := []) C G (c_fm_landLine l T mo m_all m_has (f_all 4) xn xw xt xu xo xr xf m_read i_z0 i_crossings i_inns m_posts m_shut m_here i_steps i_done i_at i_gone m_was m_came m_seenAt m_rowWorth m_farBy m_used i_everywhere i_again0 i_d0 i_never i_firstCame i_longRun i_moved i_crowd i_l0 i_fitMany i_fitLeast i_fitMost m_fitPost m_fitEnd m_keptPosts i_x0 ga gr k N A9 (by first | with_reducible assumption | with_reducible rfl | omega | assumption | rfl) (by first | with_reducible assumption | with_reducible rfl | omega | assumption | rfl) (by first | with_reducible assumption | with_reducible rfl | omega | assumption | rfl) (by first | with_reducible assumption | with_reducible rfl | omega | assumption | rfl) hRA hwA) (kV_RX12_147 C.2.2.2.2 (Nat.le_of_ble_eq_true rfl) (Nat.le_of_ble_eq_true rfl)) [1, 2, 0] [0, 0, 0] rfl rfl (ci := 11) (qc := (RX12, TX12, 43)) rfl rfl (List.mem_flatten.mpr ⟨_, List.mem_of_getElem? (i := 0) rfl, List.mem_cons_self⟩) rfl rfl hl.1 dX12_text_153 (Nat.le_of_ble_eq_true rfl) (Nat.le_of_ble_eq_true rfl) (fun b1 H locs hw G => ?_)
              refine zEx9 hw ?_
              intro j_next_82 j_where_83 j_token_84 j_number_85 j_word_86 j_wrong_87 j_farCrossing_88 g_all_89 g_read_90
              refine zCu9 ?_
              intro hbs9 h_91 h_92 h_93 h_94 h_95 h_96 h_97 h_98
              clear hw
              subst hbs9
              have G : zS T A s.heap s [[zO11 mo m_all m_has (f_all 4) j_next_82 j_where_83 j_token_84 j_number_85 j_word_86 j_wrong_87 j_farCrossing_88 m_read i_z0 i_crossings i_inns m_posts m_shut m_here i_steps i_done i_at i_gone m_was m_came m_seenAt m_rowWorth m_farBy m_used i_everywhere i_again0 i_d0 i_never i_firstCame i_longRun i_moved i_crowd i_l0 i_fitMany i_fitLeast i_fitMost m_fitPost m_fitEnd m_keptPosts i_x0], [zAr T 0 m_all 3952 g_all_89], [zAr T 0 m_read 121 g_read_90]] _ _ := G
              have hnR : zRr k N (f_all 4) j_next_82 j_where_83 j_token_84 j_number_85 j_word_86 j_wrong_87 j_farCrossing_88 g_all_89 (pLine k 0 A9 gr).1 := by rw [pLine_0]; exact h_97
              have hnG : g_read_90 = (pLine k 0 A9 gr).2 := by rw [pLine_0]; exact h_98
              refine lv_goto (tgt := 111) hx hb dX12_text_156 (by decide) ?_
              have G := G.sub (bs' := [[zAr T 0 m_read 121 g_read_90], [zO11 mo m_all m_has (f_all 4) j_next_82 j_where_83 j_token_84 j_number_85 j_word_86 j_wrong_87 j_farCrossing_88 m_read i_z0 i_crossings i_inns m_posts m_shut m_here i_steps i_done i_at i_gone m_was m_came m_seenAt m_rowWorth m_farBy m_used i_everywhere i_again0 i_d0 i_never i_firstCame i_longRun i_moved i_crowd i_l0 i_fitMany i_fitLeast i_fitMost m_fitPost m_fitEnd m_keptPosts i_x0], [zAr T 0 m_all 3952 g_all_89]]) [2, 0, 1] rfl
              exact ih_111 j_next_82 j_where_83 j_token_84 j_number_85 j_word_86 j_wrong_87 j_farCrossing_88 g_all_89 g_read_90 ((pLine k 0 A9 gr).1) (j + 1) (show zLF g_read_90 ∧ 0 ≤ j_next_82.toInt ∧ j_next_82.toInt ≤ (f_all 4).toInt ∧ zPal (upd (upd (upd f_all 4 0) 5 0) 6 (-1)) g_all_89 ∧ zRr k N (f_all 4) j_next_82 j_where_83 j_token_84 j_number_85 j_word_86 j_wrong_87 j_farCrossing_88 g_all_89 ((pLine k 0 A9 gr).1) ∧ pLines k 0 (601 - (j + 1)) ((pLine k 0 A9 gr).1) g_read_90 = pLines k 0 601 (0, 0, 0, -1, -1) (fun _ => 0) ∧ (¬ j_wrong_87.toInt = 0 ∨ j_token_84.toInt = 0 ∨ ((j + 1) : Int) < j_next_82.toInt) from ⟨(by assumption), by omega, by omega, (hpal.tr h_95), hnR, (by rw [hnG]; exact pLines_n (by omega) hwA htA hEq), by omega⟩) (show zMu j_wrong_87 j_token_84 j_next_82 (f_all 4) < zMu xr xt xn (f_all 4) from zMu_lt (by omega) (by omega) (by omega) (by omega)) _ _ ls G (lv_sub hl [0, 1, 2] rfl)
        · have c_30n : ¬ 121 ≤ k_ := fun q => c_30 ((nI_leI (a := 121) (b := k_) (by omega) (by omega)).mpr q)
          refine lv_aload_n hx hb dX12_text_94 rfl (lv_at hl 1 rfl) ?_
          refine z_get C G clX12 0 rfl 10 (by decide) m_fl_RX12_17 rfl dX12_text_95 ?_
          refine lv_iload_n hx hb dX12_text_98 rfl (lv_at hl 0 rfl) ?_
          refine lv_iconst (v := 0) hx hb dX12_text_99 (by decide) ?_
          refine z_ist C G 2 rfl (vp_in_nI (by omega) (by omega)) dX12_text_100 (fun H locs G => ?_)
          rw [nI_clamp (by omega)] at G
          have G : zS T A s.heap s [[zO11 mo m_all m_has (f_all 4) 0 i_where i_token i_number i_word 0 (-1) m_read i_z0 i_crossings i_inns m_posts m_shut m_here i_steps i_done i_at i_gone m_was m_came m_seenAt m_rowWorth m_farBy m_used i_everywhere i_again0 i_d0 i_never i_firstCame i_longRun i_moved i_crowd i_l0 i_fitMany i_fitLeast i_fitMost m_fitPost m_fitEnd m_keptPosts i_x0], [zAr T 0 m_all 3952 (upd (upd (upd f_all 4 0) 5 0) 6 (-1))], [zAr T 0 m_read 121 (upd z k_ 0)]] _ _ := G
          refine lv_iinc (v := nI (k_ + 1)) (lv' := [(3, .int (nI (k_ + 1))), (0, .ref mo), (1, .int 0), (2, .int (-1))]) hx hb dX12_text_101 hl (k := 0) rfl (z_inc k_ 1) (by decide) rfl (fun ls hl => ?_)
          refine lv_goto (tgt := 88) hx hb dX12_text_104 (by decide) ?_
          exact ih_88 (k_ + 1) (upd z k_ 0) (show (k_ + 1) ≤ 121 ∧ (∀ j, j < (k_ + 1) → (upd z k_ 0) j = 0) from ⟨by omega, z_updE (F := fun _ => 0) hZ rfl⟩) (show 121 - (k_ + 1) < 121 - k_ from by omega) _ _ ls G (lv_sub hl [0, 1, 2, 3] rfl)
      · have c_8n : ¬ (f_all 0).toInt < (2 : Int) := fun q => c_8 ((fa_lt _ _).mpr q)
        refine lv_goto (tgt := 68) hx hb dX12_text_56 (by decide) ?_
        refine lv_bipush (v := (-2)) hx hb dX12_text_68 (by decide) ?_
        exact z_back hQ9 (z_iret C hr hlocks G (Nat.le_of_ble_eq_true rfl) (Nat.le_of_ble_eq_true rfl) dX12_text_70 ⟨(f_all 4), i_next, i_where, i_token, i_number, i_word, i_wrong, i_farCrossing, (upd (upd (upd f_all 4 0) 5 0) 6 (-1)), f_read, rfl, (zBI_hd hB rfl (fun q hq => by rw [hF q (by omega) (by omega) (by omega)]; exact hB.2.1 q hq) (fun j hj => hF j (by omega) (by omega) (by omega))), rfl, (fun j hj => hF j (by omega) (by omega) (by omega)), (zText_b (fun z9 => by have z8 := hoi.mp z9; omega))⟩)
    · have hq1 : ((upd (upd (upd f_all 4 0) 5 0) 6 (-1)) 0).toInt = (f_all 0).toInt := rfl
      have hqf : 0 ≤ (f_all 0).toInt ∧ (f_all 0).toInt ≤ 2 := hB.2.1 0 (by decide)
      have hqF : 0 ≤ ((upd (upd (upd f_all 4 0) 5 0) 6 (-1)) 0).toInt ∧ ((upd (upd (upd f_all 4 0) 5 0) 6 (-1)) 0).toInt ≤ 2 := hqf
      have hai : ¬ at_.toInt = -1 := fun z9 => hne (Int32.toInt_inj.mp z9)
      have hoi : zHd _ := pOkAt_n (s := 0) (at_ := at_) (G := f_all) hai
      refine lv_iload_n hx hb dX12_text_41 rfl (lv_at hl 2 rfl) ?_
      refine lv_iconst (v := (-1)) hx hb dX12_text_42 (by decide) ?_
      refine lv_icmp_ne (tgt := 59) hx hb dX12_text_43 (by decide) (fun _ => ?_) (fun q => absurd q hne)
      refine lv_aload_n hx hb dX12_text_59 rfl (lv_at hl 0 rfl) ?_
      refine lv_iload_n hx hb dX12_text_60 rfl (lv_at hl 1 rfl) ?_
      refine lv_iload_n hx hb dX12_text_61 rfl (lv_at hl 2 rfl) ?_
      refine z_Vi (bc := [[zO11 mo m_all m_has (f_all 4) i_next i_where i_token i_number i_word i_wrong i_farCrossing m_read i_z0 i_crossings i_inns m_posts m_shut m_here i_steps i_done i_at i_gone m_was m_came m_seenAt m_rowWorth m_farBy m_used i_everywhere i_again0 i_d0 i_never i_firstCame i_longRun i_moved i_crowd i_l0 i_fitMany i_fitLeast i_fitMost m_fitPost m_fitEnd m_keptPosts i_x0], [zAr T 0 m_all 3952 (upd (upd (upd f_all 4 0) 5 0) 6 (-1))]]) (br := [[zAr T 0 m_read 121 f_read]]) (As := [.int 0, .int at_]) (rest := []) C G (c_m_isOf0 l T mo m_all m_has (f_all 4) i_next i_where i_token i_number i_word i_wrong i_farCrossing m_read i_z0 i_crossings i_inns m_posts m_shut m_here i_steps i_done i_at i_gone m_was m_came m_seenAt m_rowWorth m_farBy m_used i_everywhere i_again0 i_d0 i_never i_firstCame i_longRun i_moved i_crowd i_l0 i_fitMany i_fitLeast i_fitMost m_fitPost m_fitEnd m_keptPosts i_x0 (upd (upd (upd f_all 4 0) 5 0) 6 (-1)) at_ hqF) (kV_RX12_143 C.2.2.2.2 (Nat.le_of_ble_eq_true rfl) (Nat.le_of_ble_eq_true rfl)) [0, 1] [0, 0] rfl rfl (ci := 11) (qc := (RX12, TX12, 43)) rfl rfl (List.mem_flatten.mpr ⟨_, List.mem_of_getElem? (i := 0) rfl, List.mem_cons_self⟩) rfl rfl hl.1 dX12_text_62 (Nat.le_of_ble_eq_true rfl) (Nat.le_of_ble_eq_true rfl) (fun r_101 b1 H locs hw G => ?_)
      refine zAn2 hw ?_
      intro hbs9 hc_100
      clear hw
      subst hbs9
      have G : zS T A s.heap s [[zAr T 0 m_read 121 f_read], [zO11 mo m_all m_has (f_all 4) i_next i_where i_token i_number i_word i_wrong i_farCrossing m_read i_z0 i_crossings i_inns m_posts m_shut m_here i_steps i_done i_at i_gone m_was m_came m_seenAt m_rowWorth m_farBy m_used i_everywhere i_again0 i_d0 i_never i_firstCame i_longRun i_moved i_crowd i_l0 i_fitMany i_fitLeast i_fitMost m_fitPost m_fitEnd m_keptPosts i_x0], [zAr T 0 m_all 3952 (upd (upd (upd f_all 4 0) 5 0) 6 (-1))]] _ _ := G
      rcases hc_100 with ⟨rfl, h_102, h_103⟩ | ⟨rfl, h_104⟩
      · have h_102 : 0 ≤ at_.toInt := h_102
        have h_103 : at_.toInt < ((upd (upd (upd f_all 4 0) 5 0) 6 (-1)) 0).toInt := h_103
        refine lv_if_ne (tgt := 71) hx hb dX12_text_65 (by decide) (fun _ => ?_) (fun q => absurd q (by decide))
        refine lv_aload_n hx hb dX12_text_71 rfl (lv_at hl 0 rfl) ?_
        refine lv_iconst (v := 0) hx hb dX12_text_72 (by decide) ?_
        refine z_put C G clX12 1 rfl 3 (by decide) m_fl_RX12_70 rfl rfl rfl (Nat.le_of_ble_eq_true rfl) dX12_text_73 (fun H locs G => ?_)
        have G : zS T A s.heap s [[zAr T 0 m_read 121 f_read], [zO11 mo m_all m_has (f_all 4) 0 i_where i_token i_number i_word i_wrong i_farCrossing m_read i_z0 i_crossings i_inns m_posts m_shut m_here i_steps i_done i_at i_gone m_was m_came m_seenAt m_rowWorth m_farBy m_used i_everywhere i_again0 i_d0 i_never i_firstCame i_longRun i_moved i_crowd i_l0 i_fitMany i_fitLeast i_fitMost m_fitPost m_fitEnd m_keptPosts i_x0], [zAr T 0 m_all 3952 (upd (upd (upd f_all 4 0) 5 0) 6 (-1))]] _ _ := G
        refine lv_aload_n hx hb dX12_text_76 rfl (lv_at hl 0 rfl) ?_
        refine lv_iconst (v := 0) hx hb dX12_text_77 (by decide) ?_
        refine z_put C G clX12 1 rfl 8 (by decide) m_fl_RX12_104 rfl rfl rfl (Nat.le_of_ble_eq_true rfl) dX12_text_78 (fun H locs G => ?_)
        have G : zS T A s.heap s [[zAr T 0 m_read 121 f_read], [zO11 mo m_all m_has (f_all 4) 0 i_where i_token i_number i_word 0 i_farCrossing m_read i_z0 i_crossings i_inns m_posts m_shut m_here i_steps i_done i_at i_gone m_was m_came m_seenAt m_rowWorth m_farBy m_used i_everywhere i_again0 i_d0 i_never i_firstCame i_longRun i_moved i_crowd i_l0 i_fitMany i_fitLeast i_fitMost m_fitPost m_fitEnd m_keptPosts i_x0], [zAr T 0 m_all 3952 (upd (upd (upd f_all 4 0) 5 0) 6 (-1))]] _ _ := G
        refine lv_aload_n hx hb dX12_text_81 rfl (lv_at hl 0 rfl) ?_
        refine lv_iconst (v := (-1)) hx hb dX12_text_82 (by decide) ?_
        refine z_put C G clX12 1 rfl 9 (by decide) m_fl_RX12_126 rfl rfl rfl (Nat.le_of_ble_eq_true rfl) dX12_text_83 (fun H locs G => ?_)
        have G : zS T A s.heap s [[zAr T 0 m_read 121 f_read], [zO11 mo m_all m_has (f_all 4) 0 i_where i_token i_number i_word 0 (-1) m_read i_z0 i_crossings i_inns m_posts m_shut m_here i_steps i_done i_at i_gone m_was m_came m_seenAt m_rowWorth m_farBy m_used i_everywhere i_again0 i_d0 i_never i_firstCame i_longRun i_moved i_crowd i_l0 i_fitMany i_fitLeast i_fitMost m_fitPost m_fitEnd m_keptPosts i_x0], [zAr T 0 m_all 3952 (upd (upd (upd f_all 4 0) 5 0) 6 (-1))]] _ _ := G
        refine zMt9 (T := T) 237 (fun (xn : Int32) (xw : Int32) (xt : Int32) (xu : Int32) (xo : Int32) (xr : Int32) (xf : Int32) (ga : Nat → Int32) (gr : Nat → Int32) => [[zAr T 0 m_read 121 gr], [zO11 mo m_all m_has (f_all 4) xn xw xt xu xo xr xf m_read i_z0 i_crossings i_inns m_posts m_shut m_here i_steps i_done i_at i_gone m_was m_came m_seenAt m_rowWorth m_farBy m_used i_everywhere i_again0 i_d0 i_never i_firstCame i_longRun i_moved i_crowd i_l0 i_fitMany i_fitLeast i_fitMost m_fitPost m_fitEnd m_keptPosts i_x0], [zAr T 0 m_all 3952 ga]]) (fun (xn : Int32) (xw : Int32) (xt : Int32) (xu : Int32) (xo : Int32) (xr : Int32) (xf : Int32) (ga : Nat → Int32) (gr : Nat → Int32) => [(0, .ref mo), (1, .int 0), (2, .int at_)]) (fun (xn : Int32) (xw : Int32) (xt : Int32) (xu : Int32) (xo : Int32) (xr : Int32) (xf : Int32) (ga : Nat → Int32) (gr : Nat → Int32) => zLF gr ∧ zPal (upd (upd (upd f_all 4 0) 5 0) 6 (-1)) ga ∧ zRr k N (f_all 4) xn xw xt xu xo xr xf ga (pRead k N 0).1 ∧ (pRead k N 0).2 = gr) G hl ?_ (fun jn_237 => ?_)
        · intro xn xw xt xu xo xr xf ga gr hI9 H locs ls G hl
          replace hI9 : zLF gr ∧ zPal (upd (upd (upd f_all 4 0) 5 0) 6 (-1)) ga ∧ zRr k N (f_all 4) xn xw xt xu xo xr xf ga (pRead k N 0).1 ∧ (pRead k N 0).2 = gr := hI9
          refine zAn4 hI9 ?_
          intro hL hpal hZ1 hZ2
          clear hI9
          replace G : zS T A s.heap s [[zAr T 0 m_read 121 gr], [zO11 mo m_all m_has (f_all 4) xn xw xt xu xo xr xf m_read i_z0 i_crossings i_inns m_posts m_shut m_here i_steps i_done i_at i_gone m_was m_came m_seenAt m_rowWorth m_farBy m_used i_everywhere i_again0 i_d0 i_never i_firstCame i_longRun i_moved i_crowd i_l0 i_fitMany i_fitLeast i_fitMost m_fitPost m_fitEnd m_keptPosts i_x0], [zAr T 0 m_all 3952 ga]] _ _ := G
          replace hl : lv_has ls 5 [(0, .ref mo), (1, .int 0), (2, .int at_)] := hl
          have hZ5 := hZ1.2.2.2.1
          have hZ6 := hZ1.2.2.2.2.1
          have hZ5i := congrArg Int32.toInt hZ5
          refine lv_aload_n hx hb dX12_text_237 rfl (lv_at hl 0 rfl) ?_
          refine z_get C G clX12 1 rfl 0 (by decide) m_fl_RX12_7 rfl dX12_text_238 ?_
          refine lv_iconst (v := 5) hx hb dX12_text_241 (by decide) ?_
          refine z_ild C G 2 rfl (vp_in_nI (n := 5) (by decide) (by decide)) dX12_text_242 ?_
          refine lv_topi (fun v_105 ev_105 => ?_)
          rw [show ((5 : Int32).toNatClampNeg) = 5 from rfl] at ev_105
          subst ev_105
          refine lv_if_eq (tgt := 248) hx hb dX12_text_243 (by decide) (fun c_106 => ?_) (fun c_106 => ?_)
          · have c_106n : (ga 5).toInt = (0 : Int) := (fa_eq _ _).mp c_106
            refine lv_iload_n hx hb dX12_text_248 rfl (lv_at hl 2 rfl) ?_
            refine lv_iconst (v := (-1)) hx hb dX12_text_249 (by decide) ?_
            refine lv_icmp_ne (tgt := 262) hx hb dX12_text_250 (by decide) (fun _ => ?_) (fun q => absurd q hne)
            refine lv_iload_n hx hb dX12_text_262 rfl (lv_at hl 2 rfl) ?_
            rcases (show at_.toInt = 0 ∨ at_.toInt = 1 from by omega) with hk | hk
            · obtain rfl : at_ = 0 := Int32.toInt_inj.mp hk
              refine lv_istore_n (lv' := [(3, .int 0), (0, .ref mo), (1, .int 0), (2, .int 0)]) hx hb dX12_text_263 rfl hl (by decide) rfl (fun ls hl => ?_)
              refine lv_iload_n hx hb dX12_text_264 rfl (lv_at hl 3 rfl) ?_
              refine lv_iconst (v := (-1)) hx hb dX12_text_265 (by decide) ?_
              refine lv_icmp_ne (tgt := 279) hx hb dX12_text_266 (by decide) (fun _ => ?_) (fun q => absurd q hne)
              refine lv_iconst (v := 0) hx hb dX12_text_279 (by decide) ?_
              refine lv_istore (lv' := [(4, .int 0), (3, .int 0), (0, .ref mo), (1, .int 0), (2, .int 0)]) hx hb dX12_text_280 hl (by decide) rfl (fun ls hl => ?_)
              refine z_lp2 (T := T) 282 (fun (i : Nat) (x : Nat → Int32) => [[zAr T 0 m_read 121 gr], [zO11 mo m_all m_has (f_all 4) xn xw xt xu xo xr xf m_read i_z0 i_crossings i_inns m_posts m_shut m_here i_steps i_done i_at i_gone m_was m_came m_seenAt m_rowWorth m_farBy m_used i_everywhere i_again0 i_d0 i_never i_firstCame i_longRun i_moved i_crowd i_l0 i_fitMany i_fitLeast i_fitMost m_fitPost m_fitEnd m_keptPosts i_x0], [zAr T 0 m_all 3952 x]]) (fun (i : Nat) (x : Nat → Int32) => [(4, .int (nI i)), (3, .int 0), (0, .ref mo), (1, .int 0), (2, .int 0)]) (fun (i : Nat) (x : Nat → Int32) => i ≤ 51 ∧ (∀ j, j < i → x (610 + j) = gr j) ∧ (∀ j, (j < 610 ∨ 661 ≤ j) → x j = ga j)) (fun (i : Nat) (x : Nat → Int32) => 51 - i) ?_ 0 ga (show 0 ≤ 51 ∧ (∀ j, j < 0 → ga (610 + j) = gr j) ∧ (∀ j, (j < 610 ∨ 661 ≤ j) → ga j = ga j) from ⟨by omega, fun j hj => absurd hj (by omega), fun j _ => rfl⟩) G (lv_sub hl [0, 1, 2, 3, 4] rfl)
              intro i x hI9 ih_282 H locs ls G hl
              replace hI9 : i ≤ 51 ∧ (∀ j, j < i → x (610 + j) = gr j) ∧ (∀ j, (j < 610 ∨ 661 ≤ j) → x j = ga j) := hI9
              refine zAn3 hI9 ?_
              intro hi hS hO
              clear hI9
              replace G : zS T A s.heap s [[zAr T 0 m_read 121 gr], [zO11 mo m_all m_has (f_all 4) xn xw xt xu xo xr xf m_read i_z0 i_crossings i_inns m_posts m_shut m_here i_steps i_done i_at i_gone m_was m_came m_seenAt m_rowWorth m_farBy m_used i_everywhere i_again0 i_d0 i_never i_firstCame i_longRun i_moved i_crowd i_l0 i_fitMany i_fitLeast i_fitMost m_fitPost m_fitEnd m_keptPosts i_x0], [zAr T 0 m_all 3952 x]] _ _ := G
              replace hl : lv_has ls 5 [(4, .int (nI i)), (3, .int 0), (0, .ref mo), (1, .int 0), (2, .int 0)] := hl
              refine lv_iload hx hb dX12_text_282 (lv_at hl 0 rfl) ?_
              refine lv_iload_n hx hb dX12_text_284 rfl (lv_at hl 3 rfl) ?_
              refine z_Si (bc := []) (br := [[zAr T 0 m_read 121 gr], [zO11 mo m_all m_has (f_all 4) xn xw xt xu xo xr xf m_read i_z0 i_crossings i_inns m_posts m_shut m_here i_steps i_done i_at i_gone m_was m_came m_seenAt m_rowWorth m_farBy m_used i_everywhere i_again0 i_d0 i_never i_firstCame i_longRun i_moved i_crowd i_l0 i_fitMany i_fitLeast i_fitMost m_fitPost m_fitEnd m_keptPosts i_x0], [zAr T 0 m_all 3952 x]]) (As := [.int 0]) (rest := [.int (nI i)]) C G (c_m_sizeOf0 l T) (kS_RX12_160 C.2.2.2.2 (Nat.le_of_ble_eq_true rfl) (Nat.le_of_ble_eq_true rfl)) [] [] rfl rfl rfl rfl hl.1 dX12_text_285 (Nat.le_of_ble_eq_true rfl) (Nat.le_of_ble_eq_true rfl) (fun r_108 b1 H locs hw G => ?_)
              refine zAn2 hw ?_
              intro hbs9 h_107
              clear hw
              subst hbs9
              have G : zS T A s.heap s [[zAr T 0 m_read 121 gr], [zO11 mo m_all m_has (f_all 4) xn xw xt xu xo xr xf m_read i_z0 i_crossings i_inns m_posts m_shut m_here i_steps i_done i_at i_gone m_was m_came m_seenAt m_rowWorth m_farBy m_used i_everywhere i_again0 i_d0 i_never i_firstCame i_longRun i_moved i_crowd i_l0 i_fitMany i_fitLeast i_fitMost m_fitPost m_fitEnd m_keptPosts i_x0], [zAr T 0 m_all 3952 x]] _ _ := G
              subst h_107
              refine lv_icmp_ge (tgt := 317) hx hb dX12_text_288 (by decide) (fun c_109 => ?_) (fun c_109 => ?_)
              · have c_109n : 51 ≤ i := (nI_leI (a := 51) (b := i) (by omega) (by omega)).mp c_109
                refine lv_iload_n hx hb dX12_text_317 rfl (lv_at hl 1 rfl) ?_
                have G := G.sub (bs' := [[zO11 mo m_all m_has (f_all 4) xn xw xt xu xo xr xf m_read i_z0 i_crossings i_inns m_posts m_shut m_here i_steps i_done i_at i_gone m_was m_came m_seenAt m_rowWorth m_farBy m_used i_everywhere i_again0 i_d0 i_never i_firstCame i_longRun i_moved i_crowd i_l0 i_fitMany i_fitLeast i_fitMost m_fitPost m_fitEnd m_keptPosts i_x0], [zAr T 0 m_all 3952 x], [zAr T 0 m_read 121 gr]]) [1, 2, 0] rfl
                exact z_back hQ9 (z_iret C hr hlocks G (Nat.le_of_ble_eq_true rfl) (Nat.le_of_ble_eq_true rfl) dX12_text_318 ⟨(f_all 4), xn, xw, xt, xu, xo, xr, xf, x, gr, rfl, (zBI_p0 0 (by decide) hB ((hO 4 (by omega)).trans (hpal 4 (by decide) (by decide))) (fun q hq => by rw [hO q (by omega)]; rw [show _ = f_all q from (hpal q (by omega) (by omega)).trans (hF q (by omega) (by omega) (by omega))]; exact hB.2.1 q hq) (fun j hj hj2 => (hO j (by omega)).trans ((hpal j (by omega) (by omega)).trans (hF j (by omega) (by omega) (by omega)))) (by assumption) (fun j hj => hS j (by omega))), ((hO 4 (by omega)).trans (hpal 4 (by decide) (by decide))), (fun j hj => (hO j (by omega)).trans ((hpal j (by omega) (by omega)).trans (hF j (by omega) (by omega) (by omega)))), (zText_k (kk := 0) (g := ga) (hoi.mpr (by omega)) (by rw [← hZ5]; omega) (pNr_n (by decide)).symm (by rw [pNr_n (by decide)]; rfl) hpal hZ5 hZ6 (pCnt_n (by decide)).symm (by rw [hZ2]; exact fun j hj => hS j (by have hj : j < 51 := hj; omega)) (fun j hj => hO j (by have hj : j < 610 ∨ 610 + 51 ≤ j := hj; omega)))⟩)
              · have c_109n : ¬ 51 ≤ i := fun q => c_109 ((nI_leI (a := 51) (b := i) (by omega) (by omega)).mpr q)
                refine lv_aload_n hx hb dX12_text_291 rfl (lv_at hl 2 rfl) ?_
                refine z_get C G clX12 1 rfl 0 (by decide) m_fl_RX12_7 rfl dX12_text_292 ?_
                refine lv_iload_n hx hb dX12_text_295 rfl (lv_at hl 3 rfl) ?_
                refine lv_iload_n hx hb dX12_text_296 rfl (lv_at hl 1 rfl) ?_
                refine z_Si (bc := []) (br := [[zAr T 0 m_read 121 gr], [zO11 mo m_all m_has (f_all 4) xn xw xt xu xo xr xf m_read i_z0 i_crossings i_inns m_posts m_shut m_here i_steps i_done i_at i_gone m_was m_came m_seenAt m_rowWorth m_farBy m_used i_everywhere i_again0 i_d0 i_never i_firstCame i_longRun i_moved i_crowd i_l0 i_fitMany i_fitLeast i_fitMost m_fitPost m_fitEnd m_keptPosts i_x0], [zAr T 0 m_all 3952 x]]) (As := [.int 0, .int 0]) (rest := [.ref m_all]) C G (c_m_placeOf00 l T) (kS_RX12_163 C.2.2.2.2 (Nat.le_of_ble_eq_true rfl) (Nat.le_of_ble_eq_true rfl)) [] [] rfl rfl rfl rfl hl.1 dX12_text_297 (Nat.le_of_ble_eq_true rfl) (Nat.le_of_ble_eq_true rfl) (fun r_111 b1 H locs hw G => ?_)
                refine zAn2 hw ?_
                intro hbs9 h_110
                clear hw
                subst hbs9
                have G : zS T A s.heap s [[zAr T 0 m_read 121 gr], [zO11 mo m_all m_has (f_all 4) xn xw xt xu xo xr xf m_read i_z0 i_crossings i_inns m_posts m_shut m_here i_steps i_done i_at i_gone m_was m_came m_seenAt m_rowWorth m_farBy m_used i_everywhere i_again0 i_d0 i_never i_firstCame i_longRun i_moved i_crowd i_l0 i_fitMany i_fitLeast i_fitMost m_fitPost m_fitEnd m_keptPosts i_x0], [zAr T 0 m_all 3952 x]] _ _ := G
                subst h_110
                refine lv_iload hx hb dX12_text_300 (lv_at hl 0 rfl) ?_
                refine lv_iadd hx hb dX12_text_302 ?_
                refine lv_topi (fun y_112 ey_112 => ?_)
                obtain rfl : y_112 = nI (610 + i) := ey_112.trans (z_iaddn 610 i rfl rfl)
                refine lv_aload_n hx hb dX12_text_303 rfl (lv_at hl 2 rfl) ?_
                refine z_get C G clX12 1 rfl 10 (by decide) m_fl_RX12_17 rfl dX12_text_304 ?_
                refine lv_iload hx hb dX12_text_307 (lv_at hl 0 rfl) ?_
                refine z_ild C G 0 rfl (vp_in_nI (by omega) (by omega)) dX12_text_309 ?_
                refine lv_topi (fun v_113 ev_113 => ?_)
                rw [nI_clamp (by omega)] at ev_113
                subst ev_113
                refine z_ist C G 2 rfl (vp_in_nI (by omega) (by omega)) dX12_text_310 (fun H locs G => ?_)
                rw [nI_clamp (by omega)] at G
                have G : zS T A s.heap s [[zAr T 0 m_read 121 gr], [zO11 mo m_all m_has (f_all 4) xn xw xt xu xo xr xf m_read i_z0 i_crossings i_inns m_posts m_shut m_here i_steps i_done i_at i_gone m_was m_came m_seenAt m_rowWorth m_farBy m_used i_everywhere i_again0 i_d0 i_never i_firstCame i_longRun i_moved i_crowd i_l0 i_fitMany i_fitLeast i_fitMost m_fitPost m_fitEnd m_keptPosts i_x0], [zAr T 0 m_all 3952 (upd x (610 + i) (gr i))]] _ _ := G
                refine lv_iinc (v := nI (i + 1)) (lv' := [(4, .int (nI (i + 1))), (3, .int 0), (0, .ref mo), (1, .int 0), (2, .int 0)]) hx hb dX12_text_311 hl (k := 0) rfl (z_inc i 1) (by decide) rfl (fun ls hl => ?_)
                refine lv_goto (tgt := 282) hx hb dX12_text_314 (by decide) ?_
                exact ih_282 (i + 1) (upd x (610 + i) (gr i)) (show (i + 1) ≤ 51 ∧ (∀ j, j < (i + 1) → (upd x (610 + i) (gr i)) (610 + j) = gr j) ∧ (∀ j, (j < 610 ∨ 661 ≤ j) → (upd x (610 + i) (gr i)) j = ga j) from ⟨by omega, z_upS hS rfl, z_upO hO (by omega)⟩) (show 51 - (i + 1) < 51 - i from by omega) _ _ ls G (lv_sub hl [0, 1, 2, 3, 4] rfl)
            · obtain rfl : at_ = 1 := Int32.toInt_inj.mp hk
              refine lv_istore_n (lv' := [(3, .int 1), (0, .ref mo), (1, .int 0), (2, .int 1)]) hx hb dX12_text_263 rfl hl (by decide) rfl (fun ls hl => ?_)
              refine lv_iload_n hx hb dX12_text_264 rfl (lv_at hl 3 rfl) ?_
              refine lv_iconst (v := (-1)) hx hb dX12_text_265 (by decide) ?_
              refine lv_icmp_ne (tgt := 279) hx hb dX12_text_266 (by decide) (fun _ => ?_) (fun q => absurd q hne)
              refine lv_iconst (v := 0) hx hb dX12_text_279 (by decide) ?_
              refine lv_istore (lv' := [(4, .int 0), (3, .int 1), (0, .ref mo), (1, .int 0), (2, .int 1)]) hx hb dX12_text_280 hl (by decide) rfl (fun ls hl => ?_)
              refine z_lp2 (T := T) 282 (fun (i : Nat) (x : Nat → Int32) => [[zAr T 0 m_read 121 gr], [zO11 mo m_all m_has (f_all 4) xn xw xt xu xo xr xf m_read i_z0 i_crossings i_inns m_posts m_shut m_here i_steps i_done i_at i_gone m_was m_came m_seenAt m_rowWorth m_farBy m_used i_everywhere i_again0 i_d0 i_never i_firstCame i_longRun i_moved i_crowd i_l0 i_fitMany i_fitLeast i_fitMost m_fitPost m_fitEnd m_keptPosts i_x0], [zAr T 0 m_all 3952 x]]) (fun (i : Nat) (x : Nat → Int32) => [(4, .int (nI i)), (3, .int 1), (0, .ref mo), (1, .int 0), (2, .int 1)]) (fun (i : Nat) (x : Nat → Int32) => i ≤ 51 ∧ (∀ j, j < i → x (661 + j) = gr j) ∧ (∀ j, (j < 661 ∨ 712 ≤ j) → x j = ga j)) (fun (i : Nat) (x : Nat → Int32) => 51 - i) ?_ 0 ga (show 0 ≤ 51 ∧ (∀ j, j < 0 → ga (661 + j) = gr j) ∧ (∀ j, (j < 661 ∨ 712 ≤ j) → ga j = ga j) from ⟨by omega, fun j hj => absurd hj (by omega), fun j _ => rfl⟩) G (lv_sub hl [0, 1, 2, 3, 4] rfl)
              intro i x hI9 ih_282 H locs ls G hl
              replace hI9 : i ≤ 51 ∧ (∀ j, j < i → x (661 + j) = gr j) ∧ (∀ j, (j < 661 ∨ 712 ≤ j) → x j = ga j) := hI9
              refine zAn3 hI9 ?_
              intro hi hS hO
              clear hI9
              replace G : zS T A s.heap s [[zAr T 0 m_read 121 gr], [zO11 mo m_all m_has (f_all 4) xn xw xt xu xo xr xf m_read i_z0 i_crossings i_inns m_posts m_shut m_here i_steps i_done i_at i_gone m_was m_came m_seenAt m_rowWorth m_farBy m_used i_everywhere i_again0 i_d0 i_never i_firstCame i_longRun i_moved i_crowd i_l0 i_fitMany i_fitLeast i_fitMost m_fitPost m_fitEnd m_keptPosts i_x0], [zAr T 0 m_all 3952 x]] _ _ := G
              replace hl : lv_has ls 5 [(4, .int (nI i)), (3, .int 1), (0, .ref mo), (1, .int 0), (2, .int 1)] := hl
              refine lv_iload hx hb dX12_text_282 (lv_at hl 0 rfl) ?_
              refine lv_iload_n hx hb dX12_text_284 rfl (lv_at hl 3 rfl) ?_
              refine z_Si (bc := []) (br := [[zAr T 0 m_read 121 gr], [zO11 mo m_all m_has (f_all 4) xn xw xt xu xo xr xf m_read i_z0 i_crossings i_inns m_posts m_shut m_here i_steps i_done i_at i_gone m_was m_came m_seenAt m_rowWorth m_farBy m_used i_everywhere i_again0 i_d0 i_never i_firstCame i_longRun i_moved i_crowd i_l0 i_fitMany i_fitLeast i_fitMost m_fitPost m_fitEnd m_keptPosts i_x0], [zAr T 0 m_all 3952 x]]) (As := [.int 0]) (rest := [.int (nI i)]) C G (c_m_sizeOf0 l T) (kS_RX12_160 C.2.2.2.2 (Nat.le_of_ble_eq_true rfl) (Nat.le_of_ble_eq_true rfl)) [] [] rfl rfl rfl rfl hl.1 dX12_text_285 (Nat.le_of_ble_eq_true rfl) (Nat.le_of_ble_eq_true rfl) (fun r_115 b1 H locs hw G => ?_)
              refine zAn2 hw ?_
              intro hbs9 h_114
              clear hw
              subst hbs9
              have G : zS T A s.heap s [[zAr T 0 m_read 121 gr], [zO11 mo m_all m_has (f_all 4) xn xw xt xu xo xr xf m_read i_z0 i_crossings i_inns m_posts m_shut m_here i_steps i_done i_at i_gone m_was m_came m_seenAt m_rowWorth m_farBy m_used i_everywhere i_again0 i_d0 i_never i_firstCame i_longRun i_moved i_crowd i_l0 i_fitMany i_fitLeast i_fitMost m_fitPost m_fitEnd m_keptPosts i_x0], [zAr T 0 m_all 3952 x]] _ _ := G
              subst h_114
              refine lv_icmp_ge (tgt := 317) hx hb dX12_text_288 (by decide) (fun c_116 => ?_) (fun c_116 => ?_)
              · have c_116n : 51 ≤ i := (nI_leI (a := 51) (b := i) (by omega) (by omega)).mp c_116
                refine lv_iload_n hx hb dX12_text_317 rfl (lv_at hl 1 rfl) ?_
                have G := G.sub (bs' := [[zO11 mo m_all m_has (f_all 4) xn xw xt xu xo xr xf m_read i_z0 i_crossings i_inns m_posts m_shut m_here i_steps i_done i_at i_gone m_was m_came m_seenAt m_rowWorth m_farBy m_used i_everywhere i_again0 i_d0 i_never i_firstCame i_longRun i_moved i_crowd i_l0 i_fitMany i_fitLeast i_fitMost m_fitPost m_fitEnd m_keptPosts i_x0], [zAr T 0 m_all 3952 x], [zAr T 0 m_read 121 gr]]) [1, 2, 0] rfl
                exact z_back hQ9 (z_iret C hr hlocks G (Nat.le_of_ble_eq_true rfl) (Nat.le_of_ble_eq_true rfl) dX12_text_318 ⟨(f_all 4), xn, xw, xt, xu, xo, xr, xf, x, gr, rfl, (zBI_p0 1 (by decide) hB ((hO 4 (by omega)).trans (hpal 4 (by decide) (by decide))) (fun q hq => by rw [hO q (by omega)]; rw [show _ = f_all q from (hpal q (by omega) (by omega)).trans (hF q (by omega) (by omega) (by omega))]; exact hB.2.1 q hq) (fun j hj hj2 => (hO j (by omega)).trans ((hpal j (by omega) (by omega)).trans (hF j (by omega) (by omega) (by omega)))) (by assumption) (fun j hj => hS j (by omega))), ((hO 4 (by omega)).trans (hpal 4 (by decide) (by decide))), (fun j hj => (hO j (by omega)).trans ((hpal j (by omega) (by omega)).trans (hF j (by omega) (by omega) (by omega)))), (zText_k (kk := 1) (g := ga) (hoi.mpr (by omega)) (by rw [← hZ5]; omega) (pNr_n (by decide)).symm (by rw [pNr_n (by decide)]; rfl) hpal hZ5 hZ6 (pCnt_n (by decide)).symm (by rw [hZ2]; exact fun j hj => hS j (by have hj : j < 51 := hj; omega)) (fun j hj => hO j (by have hj : j < 661 ∨ 661 + 51 ≤ j := hj; omega)))⟩)
              · have c_116n : ¬ 51 ≤ i := fun q => c_116 ((nI_leI (a := 51) (b := i) (by omega) (by omega)).mpr q)
                refine lv_aload_n hx hb dX12_text_291 rfl (lv_at hl 2 rfl) ?_
                refine z_get C G clX12 1 rfl 0 (by decide) m_fl_RX12_7 rfl dX12_text_292 ?_
                refine lv_iload_n hx hb dX12_text_295 rfl (lv_at hl 3 rfl) ?_
                refine lv_iload_n hx hb dX12_text_296 rfl (lv_at hl 1 rfl) ?_
                refine z_Si (bc := []) (br := [[zAr T 0 m_read 121 gr], [zO11 mo m_all m_has (f_all 4) xn xw xt xu xo xr xf m_read i_z0 i_crossings i_inns m_posts m_shut m_here i_steps i_done i_at i_gone m_was m_came m_seenAt m_rowWorth m_farBy m_used i_everywhere i_again0 i_d0 i_never i_firstCame i_longRun i_moved i_crowd i_l0 i_fitMany i_fitLeast i_fitMost m_fitPost m_fitEnd m_keptPosts i_x0], [zAr T 0 m_all 3952 x]]) (As := [.int 0, .int 1]) (rest := [.ref m_all]) C G (c_m_placeOf01 l T) (kS_RX12_163 C.2.2.2.2 (Nat.le_of_ble_eq_true rfl) (Nat.le_of_ble_eq_true rfl)) [] [] rfl rfl rfl rfl hl.1 dX12_text_297 (Nat.le_of_ble_eq_true rfl) (Nat.le_of_ble_eq_true rfl) (fun r_118 b1 H locs hw G => ?_)
                refine zAn2 hw ?_
                intro hbs9 h_117
                clear hw
                subst hbs9
                have G : zS T A s.heap s [[zAr T 0 m_read 121 gr], [zO11 mo m_all m_has (f_all 4) xn xw xt xu xo xr xf m_read i_z0 i_crossings i_inns m_posts m_shut m_here i_steps i_done i_at i_gone m_was m_came m_seenAt m_rowWorth m_farBy m_used i_everywhere i_again0 i_d0 i_never i_firstCame i_longRun i_moved i_crowd i_l0 i_fitMany i_fitLeast i_fitMost m_fitPost m_fitEnd m_keptPosts i_x0], [zAr T 0 m_all 3952 x]] _ _ := G
                subst h_117
                refine lv_iload hx hb dX12_text_300 (lv_at hl 0 rfl) ?_
                refine lv_iadd hx hb dX12_text_302 ?_
                refine lv_topi (fun y_119 ey_119 => ?_)
                obtain rfl : y_119 = nI (661 + i) := ey_119.trans (z_iaddn 661 i rfl rfl)
                refine lv_aload_n hx hb dX12_text_303 rfl (lv_at hl 2 rfl) ?_
                refine z_get C G clX12 1 rfl 10 (by decide) m_fl_RX12_17 rfl dX12_text_304 ?_
                refine lv_iload hx hb dX12_text_307 (lv_at hl 0 rfl) ?_
                refine z_ild C G 0 rfl (vp_in_nI (by omega) (by omega)) dX12_text_309 ?_
                refine lv_topi (fun v_120 ev_120 => ?_)
                rw [nI_clamp (by omega)] at ev_120
                subst ev_120
                refine z_ist C G 2 rfl (vp_in_nI (by omega) (by omega)) dX12_text_310 (fun H locs G => ?_)
                rw [nI_clamp (by omega)] at G
                have G : zS T A s.heap s [[zAr T 0 m_read 121 gr], [zO11 mo m_all m_has (f_all 4) xn xw xt xu xo xr xf m_read i_z0 i_crossings i_inns m_posts m_shut m_here i_steps i_done i_at i_gone m_was m_came m_seenAt m_rowWorth m_farBy m_used i_everywhere i_again0 i_d0 i_never i_firstCame i_longRun i_moved i_crowd i_l0 i_fitMany i_fitLeast i_fitMost m_fitPost m_fitEnd m_keptPosts i_x0], [zAr T 0 m_all 3952 (upd x (661 + i) (gr i))]] _ _ := G
                refine lv_iinc (v := nI (i + 1)) (lv' := [(4, .int (nI (i + 1))), (3, .int 1), (0, .ref mo), (1, .int 0), (2, .int 1)]) hx hb dX12_text_311 hl (k := 0) rfl (z_inc i 1) (by decide) rfl (fun ls hl => ?_)
                refine lv_goto (tgt := 282) hx hb dX12_text_314 (by decide) ?_
                exact ih_282 (i + 1) (upd x (661 + i) (gr i)) (show (i + 1) ≤ 51 ∧ (∀ j, j < (i + 1) → (upd x (661 + i) (gr i)) (661 + j) = gr j) ∧ (∀ j, (j < 661 ∨ 712 ≤ j) → (upd x (661 + i) (gr i)) j = ga j) from ⟨by omega, z_upS hS rfl, z_upO hO (by omega)⟩) (show 51 - (i + 1) < 51 - i from by omega) _ _ ls G (lv_sub hl [0, 1, 2, 3, 4] rfl)
          · have c_106n : ¬ (ga 5).toInt = (0 : Int) := fun q => c_106 ((fa_eq _ _).mpr q)
            refine lv_iconst (v := (-1)) hx hb dX12_text_246 (by decide) ?_
            have G := G.sub (bs' := [[zO11 mo m_all m_has (f_all 4) xn xw xt xu xo xr xf m_read i_z0 i_crossings i_inns m_posts m_shut m_here i_steps i_done i_at i_gone m_was m_came m_seenAt m_rowWorth m_farBy m_used i_everywhere i_again0 i_d0 i_never i_firstCame i_longRun i_moved i_crowd i_l0 i_fitMany i_fitLeast i_fitMost m_fitPost m_fitEnd m_keptPosts i_x0], [zAr T 0 m_all 3952 ga], [zAr T 0 m_read 121 gr]]) [1, 2, 0] rfl
            exact z_back hQ9 (z_iret C hr hlocks G (Nat.le_of_ble_eq_true rfl) (Nat.le_of_ble_eq_true rfl) dX12_text_247 ⟨(f_all 4), xn, xw, xt, xu, xo, xr, xf, ga, gr, rfl, (zBI_hd hB (hpal 4 (by decide) (by decide)) (fun q hq => by rw [show _ = f_all q from (hpal q (by omega) (by omega)).trans (hF q (by omega) (by omega) (by omega))]; exact hB.2.1 q hq) (fun j hj => (hpal j (by omega) (by omega)).trans (hF j (by omega) (by omega) (by omega)))), (hpal 4 (by decide) (by decide)), (fun j hj => (hpal j (by omega) (by omega)).trans (hF j (by omega) (by omega) (by omega))), (zText_f (hoi.mpr (by omega)) (by rw [← hZ5]; omega) hpal hZ5 hZ6)⟩)
        refine lv_iconst (v := 0) hx hb dX12_text_86 (by decide) ?_
        refine lv_istore_n (lv' := [(3, .int 0), (0, .ref mo), (1, .int 0), (2, .int at_)]) hx hb dX12_text_87 rfl hl (by decide) rfl (fun ls hl => ?_)
        refine z_lp2 (T := T) 88 (fun (k_ : Nat) (z : Nat → Int32) => [[zAr T 0 m_read 121 z], [zO11 mo m_all m_has (f_all 4) 0 i_where i_token i_number i_word 0 (-1) m_read i_z0 i_crossings i_inns m_posts m_shut m_here i_steps i_done i_at i_gone m_was m_came m_seenAt m_rowWorth m_farBy m_used i_everywhere i_again0 i_d0 i_never i_firstCame i_longRun i_moved i_crowd i_l0 i_fitMany i_fitLeast i_fitMost m_fitPost m_fitEnd m_keptPosts i_x0], [zAr T 0 m_all 3952 (upd (upd (upd f_all 4 0) 5 0) 6 (-1))]]) (fun (k_ : Nat) (z : Nat → Int32) => [(3, .int (nI k_)), (0, .ref mo), (1, .int 0), (2, .int at_)]) (fun (k_ : Nat) (z : Nat → Int32) => k_ ≤ 121 ∧ (∀ j, j < k_ → z j = 0)) (fun (k_ : Nat) (z : Nat → Int32) => 121 - k_) ?_ 0 f_read (show 0 ≤ 121 ∧ (∀ j, j < 0 → f_read j = 0) from ⟨by omega, fun j hj => absurd hj (by omega)⟩) G (lv_sub hl [0, 1, 2, 3] rfl)
        intro k_ z hI9 ih_88 H locs ls G hl
        replace hI9 : k_ ≤ 121 ∧ (∀ j, j < k_ → z j = 0) := hI9
        refine zAn2 hI9 ?_
        intro hk_ hZ
        clear hI9
        replace G : zS T A s.heap s [[zAr T 0 m_read 121 z], [zO11 mo m_all m_has (f_all 4) 0 i_where i_token i_number i_word 0 (-1) m_read i_z0 i_crossings i_inns m_posts m_shut m_here i_steps i_done i_at i_gone m_was m_came m_seenAt m_rowWorth m_farBy m_used i_everywhere i_again0 i_d0 i_never i_firstCame i_longRun i_moved i_crowd i_l0 i_fitMany i_fitLeast i_fitMost m_fitPost m_fitEnd m_keptPosts i_x0], [zAr T 0 m_all 3952 (upd (upd (upd f_all 4 0) 5 0) 6 (-1))]] _ _ := G
        replace hl : lv_has ls 5 [(3, .int (nI k_)), (0, .ref mo), (1, .int 0), (2, .int at_)] := hl
        refine lv_iload_n hx hb dX12_text_88 rfl (lv_at hl 0 rfl) ?_
        refine lv_bipush (v := 121) hx hb dX12_text_89 (by decide) ?_
        refine lv_icmp_ge (tgt := 107) hx hb dX12_text_91 (by decide) (fun c_121 => ?_) (fun c_121 => ?_)
        · have c_121n : 121 ≤ k_ := (nI_leI (a := 121) (b := k_) (by omega) (by omega)).mp c_121
          have G := z_cg G 0 rfl (fun _ => 0) (fun j hj => hZ j (by omega))
          have G : zS T A s.heap s [[zAr T 0 m_read 121 (fun _ => 0)], [zO11 mo m_all m_has (f_all 4) 0 i_where i_token i_number i_word 0 (-1) m_read i_z0 i_crossings i_inns m_posts m_shut m_here i_steps i_done i_at i_gone m_was m_came m_seenAt m_rowWorth m_farBy m_used i_everywhere i_again0 i_d0 i_never i_firstCame i_longRun i_moved i_crowd i_l0 i_fitMany i_fitLeast i_fitMost m_fitPost m_fitEnd m_keptPosts i_x0], [zAr T 0 m_all 3952 (upd (upd (upd f_all 4 0) 5 0) 6 (-1))]] _ _ := G
          refine lv_aload_n hx hb dX12_text_107 rfl (lv_at hl 1 rfl) ?_
          refine z_Vv (bc := [[zO11 mo m_all m_has (f_all 4) 0 i_where i_token i_number i_word 0 (-1) m_read i_z0 i_crossings i_inns m_posts m_shut m_here i_steps i_done i_at i_gone m_was m_came m_seenAt m_rowWorth m_farBy m_used i_everywhere i_again0 i_d0 i_never i_firstCame i_longRun i_moved i_crowd i_l0 i_fitMany i_fitLeast i_fitMost m_fitPost m_fitEnd m_keptPosts i_x0], [zAr T 0 m_all 3952 (upd (upd (upd f_all 4 0) 5 0) 6 (-1))]]) (br := [[zAr T 0 m_read 121 (fun _ => 0)]]) (As := []) (rest := []) C G (c_fm_advance l T mo m_all m_has (f_all 4) 0 i_where i_token i_number i_word 0 (-1) m_read i_z0 i_crossings i_inns m_posts m_shut m_here i_steps i_done i_at i_gone m_was m_came m_seenAt m_rowWorth m_farBy m_used i_everywhere i_again0 i_d0 i_never i_firstCame i_longRun i_moved i_crowd i_l0 i_fitMany i_fitLeast i_fitMost m_fitPost m_fitEnd m_keptPosts i_x0 (upd (upd (upd f_all 4 0) 5 0) 6 (-1)) 0 N k hsN rfl (Nat.zero_le _) hN6 (hk.trans (congrArg (fun q9 => tkT q9 N) (funext fun j => ((z_ne (by omega)).trans ((z_ne (by omega)).trans (z_ne (by omega)))).symm))) (fun j hj => by rw [z_ne (by omega), z_ne (by omega), z_ne (by omega)]; exact hby j hj)) (kV_RX12_119 C.2.2.2.2 (Nat.le_of_ble_eq_true rfl) (Nat.le_of_ble_eq_true rfl)) [1, 2] [1, 0] rfl rfl (ci := 11) (qc := (RX12, TX12, 43)) rfl rfl (List.mem_flatten.mpr ⟨_, List.mem_of_getElem? (i := 0) rfl, List.mem_cons_self⟩) rfl rfl hl.1 dX12_text_108 (Nat.le_of_ble_eq_true rfl) (Nat.le_of_ble_eq_true rfl) (fun b1 H locs hw G => ?_)
          refine zEx5 hw ?_
          intro j_next_122 j_where_123 j_token_124 j_number_125 j_word_126
          refine zCu8 ?_
          intro hbs9 h_127 h_128 h_129 h_130 h_131 h_132 h_133
          clear hw
          subst hbs9
          have G : zS T A s.heap s [[zAr T 0 m_read 121 (fun _ => 0)], [zO11 mo m_all m_has (f_all 4) j_next_122 j_where_123 j_token_124 j_number_125 j_word_126 0 (-1) m_read i_z0 i_crossings i_inns m_posts m_shut m_here i_steps i_done i_at i_gone m_was m_came m_seenAt m_rowWorth m_farBy m_used i_everywhere i_again0 i_d0 i_never i_firstCame i_longRun i_moved i_crowd i_l0 i_fitMany i_fitLeast i_fitMost m_fitPost m_fitEnd m_keptPosts i_x0], [zAr T 0 m_all 3952 (upd (upd (upd f_all 4 0) 5 0) 6 (-1))]] _ _ := G
          have h_129 : (0 : Int) ≤ j_next_122.toInt := h_129
          have h_130 : (j_token_124.toInt = 0 ∨ (0 : Int) < j_next_122.toInt) := h_130
          refine z_lp11 (T := T) 111 (fun (xn : Int32) (xw : Int32) (xt : Int32) (xu : Int32) (xo : Int32) (xr : Int32) (xf : Int32) (ga : Nat → Int32) (gr : Nat → Int32) (A9 : pS) (j : Nat) => [[zAr T 0 m_read 121 gr], [zO11 mo m_all m_has (f_all 4) xn xw xt xu xo xr xf m_read i_z0 i_crossings i_inns m_posts m_shut m_here i_steps i_done i_at i_gone m_was m_came m_seenAt m_rowWorth m_farBy m_used i_everywhere i_again0 i_d0 i_never i_firstCame i_longRun i_moved i_crowd i_l0 i_fitMany i_fitLeast i_fitMost m_fitPost m_fitEnd m_keptPosts i_x0], [zAr T 0 m_all 3952 ga]]) (fun (xn : Int32) (xw : Int32) (xt : Int32) (xu : Int32) (xo : Int32) (xr : Int32) (xf : Int32) (ga : Nat → Int32) (gr : Nat → Int32) (A9 : pS) (j : Nat) => [(0, .ref mo), (1, .int 0), (2, .int at_)]) (fun (xn : Int32) (xw : Int32) (xt : Int32) (xu : Int32) (xo : Int32) (xr : Int32) (xf : Int32) (ga : Nat → Int32) (gr : Nat → Int32) (A9 : pS) (j : Nat) => zLF gr ∧ 0 ≤ xn.toInt ∧ xn.toInt ≤ (f_all 4).toInt ∧ zPal (upd (upd (upd f_all 4 0) 5 0) 6 (-1)) ga ∧ zRr k N (f_all 4) xn xw xt xu xo xr xf ga A9 ∧ pLines k 0 (601 - j) A9 gr = pLines k 0 601 (0, 0, 0, -1, -1) (fun _ => 0) ∧ (¬ xr.toInt = 0 ∨ xt.toInt = 0 ∨ (j : Int) < xn.toInt)) (fun (xn : Int32) (xw : Int32) (xt : Int32) (xu : Int32) (xo : Int32) (xr : Int32) (xf : Int32) (ga : Nat → Int32) (gr : Nat → Int32) (A9 : pS) (j : Nat) => zMu xr xt xn (f_all 4)) ?_ j_next_122 j_where_123 j_token_124 j_number_125 j_word_126 0 (-1) (upd (upd (upd f_all 4 0) 5 0) 6 (-1)) (fun _ => 0) (0, 0, 0, -1, -1) 0 (show zLF (fun _ => 0) ∧ 0 ≤ j_next_122.toInt ∧ j_next_122.toInt ≤ (f_all 4).toInt ∧ zPal (upd (upd (upd f_all 4 0) 5 0) 6 (-1)) (upd (upd (upd f_all 4 0) 5 0) 6 (-1)) ∧ zRr k N (f_all 4) j_next_122 j_where_123 j_token_124 j_number_125 j_word_126 0 (-1) (upd (upd (upd f_all 4 0) 5 0) 6 (-1)) (0, 0, 0, -1, -1) ∧ pLines k 0 (601 - 0) (0, 0, 0, -1, -1) (fun _ => 0) = pLines k 0 601 (0, 0, 0, -1, -1) (fun _ => 0) ∧ (¬ (0 : Int32).toInt = 0 ∨ j_token_124.toInt = 0 ∨ (0 : Int) < j_next_122.toInt) from ⟨(zLF_z (fun j hj => rfl)), by omega, by omega, (zPal_rf _), (zRr_st hk hby hN6 hsN h_133), rfl, by omega⟩) G (lv_sub hl [1, 2, 3] rfl)
          intro xn xw xt xu xo xr xf ga gr A9 j hI9 ih_111 H locs ls G hl
          replace hI9 : zLF gr ∧ 0 ≤ xn.toInt ∧ xn.toInt ≤ (f_all 4).toInt ∧ zPal (upd (upd (upd f_all 4 0) 5 0) 6 (-1)) ga ∧ zRr k N (f_all 4) xn xw xt xu xo xr xf ga A9 ∧ pLines k 0 (601 - j) A9 gr = pLines k 0 601 (0, 0, 0, -1, -1) (fun _ => 0) ∧ (¬ xr.toInt = 0 ∨ xt.toInt = 0 ∨ (j : Int) < xn.toInt) := hI9
          refine zAn7 hI9 ?_
          intro hL hx1 hx2 hpal hRA hEq hpj
          clear hI9
          replace G : zS T A s.heap s [[zAr T 0 m_read 121 gr], [zO11 mo m_all m_has (f_all 4) xn xw xt xu xo xr xf m_read i_z0 i_crossings i_inns m_posts m_shut m_here i_steps i_done i_at i_gone m_was m_came m_seenAt m_rowWorth m_farBy m_used i_everywhere i_again0 i_d0 i_never i_firstCame i_longRun i_moved i_crowd i_l0 i_fitMany i_fitLeast i_fitMost m_fitPost m_fitEnd m_keptPosts i_x0], [zAr T 0 m_all 3952 ga]] _ _ := G
          replace hl : lv_has ls 5 [(0, .ref mo), (1, .int 0), (2, .int at_)] := hl
          refine lv_aload_n hx hb dX12_text_111 rfl (lv_at hl 0 rfl) ?_
          have hokA := zRr_ok hRA
          refine zAn6 (id hRA) ?_
          intro hA1A hA6A hA7A hA8A hA9A hA10A
          replace hA7A : zHd _ := hA7A
          have hkaA : zHd _ := hokA A9.1 hA1A.2.2.2.2
          have hkbA := hkaA.1
          have hkcA := hkaA.2.1
          have hT4A := pTk_le hokA hA1A.2.2.2.2
          refine z_get C G clX12 1 rfl 8 (by decide) m_fl_RX12_104 rfl dX12_text_112 ?_
          refine lv_if_ne (tgt := 173) hx hb dX12_text_115 (by decide) (fun c_135 => ?_) (fun c_135 => ?_)
          · have c_135n : ¬ xr.toInt = (0 : Int) := fun q => c_135 ((fa_eq _ _).mpr q)
            have hX := hEq.symm.trans (pLines_x (fun z9 => by first | (exact absurd z9.1 (by rw [← hA6A]; omega)) | (exact z9.2 (by omega))))
            have hRd := pRead_e (n := N) hX
            have hww : zHd (A9.2.1.toInt = 0 → xw = nI N) := fun z9 => by first | (exact absurd z9 (by rw [← hA6A]; omega)) | (rw [t2A, hkaA.2.2.1 (pTk_0.mp (by omega))])
            refine zMt1 (T := T) 208 (fun (gb : Nat → Int32) => [[zAr T 0 m_read 121 gr], [zO11 mo m_all m_has (f_all 4) xn xw xt xu xo xr xf m_read i_z0 i_crossings i_inns m_posts m_shut m_here i_steps i_done i_at i_gone m_was m_came m_seenAt m_rowWorth m_farBy m_used i_everywhere i_again0 i_d0 i_never i_firstCame i_longRun i_moved i_crowd i_l0 i_fitMany i_fitLeast i_fitMost m_fitPost m_fitEnd m_keptPosts i_x0], [zAr T 0 m_all 3952 gb]]) (fun (gb : Nat → Int32) => [(0, .ref mo), (1, .int 0), (2, .int at_)]) (fun (gb : Nat → Int32) => zRr k N (f_all 4) xn xw xt xu xo xr xf gb (pF4 N 0 A9 gr) ∧ zHd ((pF4 N 0 A9 gr).2.1.toInt = 0 → xw = nI N) ∧ zPal (upd (upd (upd f_all 4 0) 5 0) 6 (-1)) gb) G hl ?_ (fun jn_208 => ?_)
            · intro gb hI9 H locs ls G hl
              replace hI9 : zRr k N (f_all 4) xn xw xt xu xo xr xf gb (pF4 N 0 A9 gr) ∧ zHd ((pF4 N 0 A9 gr).2.1.toInt = 0 → xw = nI N) ∧ zPal (upd (upd (upd f_all 4 0) 5 0) 6 (-1)) gb := hI9
              refine zAn3 hI9 ?_
              intro hR4 hw4 hpb
              clear hI9
              replace G : zS T A s.heap s [[zAr T 0 m_read 121 gr], [zO11 mo m_all m_has (f_all 4) xn xw xt xu xo xr xf m_read i_z0 i_crossings i_inns m_posts m_shut m_here i_steps i_done i_at i_gone m_was m_came m_seenAt m_rowWorth m_farBy m_used i_everywhere i_again0 i_d0 i_never i_firstCame i_longRun i_moved i_crowd i_l0 i_fitMany i_fitLeast i_fitMost m_fitPost m_fitEnd m_keptPosts i_x0], [zAr T 0 m_all 3952 gb]] _ _ := G
              replace hl : lv_has ls 5 [(0, .ref mo), (1, .int 0), (2, .int at_)] := hl
              have h54 := hR4.2.2.2.1
              refine lv_iload_n hx hb dX12_text_208 rfl (lv_at hl 1 rfl) ?_
              refine lv_if_ne (tgt := 237) hx hb dX12_text_209 (by decide) (fun q => absurd (by decide) q) (fun _ => ?_)
              refine lv_aload_n hx hb dX12_text_212 rfl (lv_at hl 0 rfl) ?_
              refine z_get C G clX12 1 rfl 0 (by decide) m_fl_RX12_7 rfl dX12_text_213 ?_
              refine lv_iconst (v := 5) hx hb dX12_text_216 (by decide) ?_
              refine z_ild C G 2 rfl (vp_in_nI (n := 5) (by decide) (by decide)) dX12_text_217 ?_
              refine lv_topi (fun v_136 ev_136 => ?_)
              rw [show ((5 : Int32).toNatClampNeg) = 5 from rfl] at ev_136
              subst ev_136
              refine lv_if_ne (tgt := 237) hx hb dX12_text_218 (by decide) (fun c_137 => ?_) (fun c_137 => ?_)
              · have c_137n : ¬ (gb 5).toInt = (0 : Int) := fun q => c_137 ((fa_eq _ _).mpr q)
                have hZ1 : zRr k N (f_all 4) xn xw xt xu xo xr xf gb (pRead k N 0).1 := by rw [hRd]; show zRr _ _ _ _ _ _ _ _ _ _ _ (pF5 N 0 (pF4 N 0 A9 gr) gr); unfold pF5; rw [if_neg (fun z9 => by have z8 := z9.2.1; have z7 := z9.2.2; rw [← h54] at z8; first | omega | exact absurd (z7.symm.trans (show pPosts _ = true from by assumption)) (by decide))]; exact hR4
                have hZ2 : (pRead k N 0).2 = gr := by rw [hRd]; rfl
                have hZ5 := hZ1.2.2.2.1
                have hZ6 := hZ1.2.2.2.2.1
                have hZ5i := congrArg Int32.toInt hZ5
                exact jn_237 xn xw xt xu xo xr xf gb gr (show zLF gr ∧ zPal (upd (upd (upd f_all 4 0) 5 0) 6 (-1)) gb ∧ zRr k N (f_all 4) xn xw xt xu xo xr xf gb (pRead k N 0).1 ∧ (pRead k N 0).2 = gr from ⟨(by assumption), hpb, hZ1, hZ2⟩) _ _ ls G (lv_sub hl [0, 1, 2] rfl)
              · have c_137n : (gb 5).toInt = (0 : Int) := (fa_eq _ _).mp c_137
                refine lv_aload_n hx hb dX12_text_221 rfl (lv_at hl 0 rfl) ?_
                refine z_Vi (bc := [[zO11 mo m_all m_has (f_all 4) xn xw xt xu xo xr xf m_read i_z0 i_crossings i_inns m_posts m_shut m_here i_steps i_done i_at i_gone m_was m_came m_seenAt m_rowWorth m_farBy m_used i_everywhere i_again0 i_d0 i_never i_firstCame i_longRun i_moved i_crowd i_l0 i_fitMany i_fitLeast i_fitMost m_fitPost m_fitEnd m_keptPosts i_x0], [zAr T 0 m_read 121 gr]]) (br := [[zAr T 0 m_all 3952 gb]]) (As := []) (rest := []) C G (c_fm_postsAreThere l T mo m_all m_has (f_all 4) xn xw xt xu xo xr xf m_read i_z0 i_crossings i_inns m_posts m_shut m_here i_steps i_done i_at i_gone m_was m_came m_seenAt m_rowWorth m_farBy m_used i_everywhere i_again0 i_d0 i_never i_firstCame i_longRun i_moved i_crowd i_l0 i_fitMany i_fitLeast i_fitMost m_fitPost m_fitEnd m_keptPosts i_x0 gr) (kV_RX12_156 C.2.2.2.2 (Nat.le_of_ble_eq_true rfl) (Nat.le_of_ble_eq_true rfl)) [1, 0] [0, 0] rfl rfl (ci := 11) (qc := (RX12, TX12, 43)) rfl rfl (List.mem_flatten.mpr ⟨_, List.mem_of_getElem? (i := 0) rfl, List.mem_cons_self⟩) rfl rfl hl.1 dX12_text_222 (Nat.le_of_ble_eq_true rfl) (Nat.le_of_ble_eq_true rfl) (fun r_139 b1 H locs hw G => ?_)
                refine zAn2 hw ?_
                intro hbs9 hc_138
                clear hw
                subst hbs9
                have G : zS T A s.heap s [[zAr T 0 m_all 3952 gb], [zO11 mo m_all m_has (f_all 4) xn xw xt xu xo xr xf m_read i_z0 i_crossings i_inns m_posts m_shut m_here i_steps i_done i_at i_gone m_was m_came m_seenAt m_rowWorth m_farBy m_used i_everywhere i_again0 i_d0 i_never i_firstCame i_longRun i_moved i_crowd i_l0 i_fitMany i_fitLeast i_fitMost m_fitPost m_fitEnd m_keptPosts i_x0], [zAr T 0 m_read 121 gr]] _ _ := G
                rcases hc_138 with ⟨rfl, h_140⟩ | ⟨rfl, h_141⟩
                · have h_140 : pPosts gr = true := h_140
                  refine lv_if_ne (tgt := 237) hx hb dX12_text_225 (by decide) (fun _ => ?_) (fun q => absurd q (by decide))
                  have hZ1 : zRr k N (f_all 4) xn xw xt xu xo xr xf gb (pRead k N 0).1 := by rw [hRd]; show zRr _ _ _ _ _ _ _ _ _ _ _ (pF5 N 0 (pF4 N 0 A9 gr) gr); unfold pF5; rw [if_neg (fun z9 => by have z8 := z9.2.1; have z7 := z9.2.2; rw [← h54] at z8; first | omega | exact absurd (z7.symm.trans (show pPosts _ = true from by assumption)) (by decide))]; exact hR4
                  have hZ2 : (pRead k N 0).2 = gr := by rw [hRd]; rfl
                  have hZ5 := hZ1.2.2.2.1
                  have hZ6 := hZ1.2.2.2.2.1
                  have hZ5i := congrArg Int32.toInt hZ5
                  have G := G.sub (bs' := [[zAr T 0 m_read 121 gr], [zO11 mo m_all m_has (f_all 4) xn xw xt xu xo xr xf m_read i_z0 i_crossings i_inns m_posts m_shut m_here i_steps i_done i_at i_gone m_was m_came m_seenAt m_rowWorth m_farBy m_used i_everywhere i_again0 i_d0 i_never i_firstCame i_longRun i_moved i_crowd i_l0 i_fitMany i_fitLeast i_fitMost m_fitPost m_fitEnd m_keptPosts i_x0], [zAr T 0 m_all 3952 gb]]) [2, 1, 0] rfl
                  exact jn_237 xn xw xt xu xo xr xf gb gr (show zLF gr ∧ zPal (upd (upd (upd f_all 4 0) 5 0) 6 (-1)) gb ∧ zRr k N (f_all 4) xn xw xt xu xo xr xf gb (pRead k N 0).1 ∧ (pRead k N 0).2 = gr from ⟨(by assumption), hpb, hZ1, hZ2⟩) _ _ ls G (lv_sub hl [0, 1, 2] rfl)
                · have h_141 : pPosts gr = false := h_141
                  refine lv_if_ne (tgt := 237) hx hb dX12_text_225 (by decide) (fun q => absurd (by decide) q) (fun _ => ?_)
                  refine lv_aload_n hx hb dX12_text_228 rfl (lv_at hl 0 rfl) ?_
                  refine lv_iconst (v := 5) hx hb dX12_text_229 (by decide) ?_
                  refine lv_aload_n hx hb dX12_text_230 rfl (lv_at hl 0 rfl) ?_
                  refine z_get C G clX12 1 rfl 4 (by decide) m_fl_RX12_77 rfl dX12_text_231 ?_
                  refine z_Vv (bc := [[zO11 mo m_all m_has (f_all 4) xn xw xt xu xo xr xf m_read i_z0 i_crossings i_inns m_posts m_shut m_here i_steps i_done i_at i_gone m_was m_came m_seenAt m_rowWorth m_farBy m_used i_everywhere i_again0 i_d0 i_never i_firstCame i_longRun i_moved i_crowd i_l0 i_fitMany i_fitLeast i_fitMost m_fitPost m_fitEnd m_keptPosts i_x0], [zAr T 0 m_all 3952 gb]]) (br := [[zAr T 0 m_read 121 gr]]) (As := [.int 5, .int xw]) (rest := []) C G (c_fm_also l T mo m_all m_has (f_all 4) xn xw xt xu xo xr xf m_read i_z0 i_crossings i_inns m_posts m_shut m_here i_steps i_done i_at i_gone m_was m_came m_seenAt m_rowWorth m_farBy m_used i_everywhere i_again0 i_d0 i_never i_firstCame i_longRun i_moved i_crowd i_l0 i_fitMany i_fitLeast i_fitMost m_fitPost m_fitEnd m_keptPosts i_x0 gb 5 xw) (kV_RX12_115 C.2.2.2.2 (Nat.le_of_ble_eq_true rfl) (Nat.le_of_ble_eq_true rfl)) [1, 0] [0, 0] rfl rfl (ci := 11) (qc := (RX12, TX12, 43)) rfl rfl (List.mem_flatten.mpr ⟨_, List.mem_of_getElem? (i := 0) rfl, List.mem_cons_self⟩) rfl rfl hl.1 dX12_text_234 (Nat.le_of_ble_eq_true rfl) (Nat.le_of_ble_eq_true rfl) (fun b1 H locs hw G => ?_)
                  refine zEx1 hw ?_
                  intro g_all_142
                  refine zCu3 ?_
                  intro hbs9 h_143 h_144
                  clear hw
                  subst hbs9
                  have G : zS T A s.heap s [[zAr T 0 m_read 121 gr], [zO11 mo m_all m_has (f_all 4) xn xw xt xu xo xr xf m_read i_z0 i_crossings i_inns m_posts m_shut m_here i_steps i_done i_at i_gone m_was m_came m_seenAt m_rowWorth m_farBy m_used i_everywhere i_again0 i_d0 i_never i_firstCame i_longRun i_moved i_crowd i_l0 i_fitMany i_fitLeast i_fitMost m_fitPost m_fitEnd m_keptPosts i_x0], [zAr T 0 m_all 3952 g_all_142]] _ _ := G
                  have h_144 : g_all_142 = (if ¬ xr.toInt = 0 ∨ (¬ (gb 5).toInt = 0 ∧ ((gb 6).toInt < xw.toInt ∨ ((gb 6).toInt = xw.toInt ∧ (gb 5).toInt ≤ (5 : Int)))) then gb else upd (upd gb 5 5) 6 xw) := h_144
                  have hZ1 : zRr k N (f_all 4) xn xw xt xu xo xr xf g_all_142 (pRead k N 0).1 := by rw [hRd]; show zRr _ _ _ _ _ _ _ _ _ _ _ (pF5 N 0 (pF4 N 0 A9 gr) gr); unfold pF5; rw [if_pos ⟨rfl, by rw [← h54]; omega, by assumption⟩, ← pAlso_w hw4]; exact zRr_also (kd := 5) (w := xw) hR4 h_144
                  have hZ2 : (pRead k N 0).2 = gr := by rw [hRd]; rfl
                  have hZ5 := hZ1.2.2.2.1
                  have hZ6 := hZ1.2.2.2.2.1
                  have hZ5i := congrArg Int32.toInt hZ5
                  exact jn_237 xn xw xt xu xo xr xf g_all_142 gr (show zLF gr ∧ zPal (upd (upd (upd f_all 4 0) 5 0) 6 (-1)) g_all_142 ∧ zRr k N (f_all 4) xn xw xt xu xo xr xf g_all_142 (pRead k N 0).1 ∧ (pRead k N 0).2 = gr from ⟨(by assumption), (hpb.tr h_143), hZ1, hZ2⟩) _ _ ls G (lv_sub hl [0, 1, 2] rfl)
            refine lv_iload_n hx hb dX12_text_173 rfl (lv_at hl 1 rfl) ?_
            refine lv_if_ne (tgt := 208) hx hb dX12_text_174 (by decide) (fun q => absurd (by decide) q) (fun _ => ?_)
            refine lv_aload_n hx hb dX12_text_177 rfl (lv_at hl 0 rfl) ?_
            refine z_get C G clX12 1 rfl 0 (by decide) m_fl_RX12_7 rfl dX12_text_178 ?_
            refine lv_iconst (v := 5) hx hb dX12_text_181 (by decide) ?_
            refine z_ild C G 2 rfl (vp_in_nI (n := 5) (by decide) (by decide)) dX12_text_182 ?_
            refine lv_topi (fun v_146 ev_146 => ?_)
            rw [show ((5 : Int32).toNatClampNeg) = 5 from rfl] at ev_146
            subst ev_146
            refine lv_if_ne (tgt := 208) hx hb dX12_text_183 (by decide) (fun c_147 => ?_) (fun c_147 => ?_)
            · have c_147n : ¬ (ga 5).toInt = (0 : Int) := fun q => c_147 ((fa_eq _ _).mpr q)
              have hR4 : zRr k N (f_all 4) xn xw xt xu xo xr xf ga (pF4 N 0 A9 gr) := by unfold pF4; rw [if_neg (fun z9 => by have z8 := z9.2.1; have z7 := z9.2.2; rw [← hA8A] at z8; rw [← hA10A] at z7; omega)]; exact hRA
              have hw4 : zHd ((pF4 N 0 A9 gr).2.1.toInt = 0 → xw = nI N) := fun z9 => hww (by have z8 : (pF4 N 0 A9 gr).2.1 = A9.2.1 := (by unfold pF4; split; exact pAlso_fa.2.1; rfl); rw [z8] at z9; exact z9)
              have h54 := hR4.2.2.2.1
              exact jn_208 ga (show zRr k N (f_all 4) xn xw xt xu xo xr xf ga (pF4 N 0 A9 gr) ∧ zHd ((pF4 N 0 A9 gr).2.1.toInt = 0 → xw = nI N) ∧ zPal (upd (upd (upd f_all 4 0) 5 0) 6 (-1)) ga from ⟨hR4, hw4, hpal⟩) _ _ ls G (lv_sub hl [0, 1, 2] rfl)
            · have c_147n : (ga 5).toInt = (0 : Int) := (fa_eq _ _).mp c_147
              refine lv_aload_n hx hb dX12_text_186 rfl (lv_at hl 0 rfl) ?_
              refine z_get C G clX12 1 rfl 9 (by decide) m_fl_RX12_126 rfl dX12_text_187 ?_
              refine lv_aload_n hx hb dX12_text_190 rfl (lv_at hl 0 rfl) ?_
              refine z_get C G clX12 1 rfl 10 (by decide) m_fl_RX12_17 rfl dX12_text_191 ?_
              refine lv_iconst (v := 0) hx hb dX12_text_194 (by decide) ?_
              refine z_ild C G 0 rfl (vp_in_nI (n := 0) (by decide) (by decide)) dX12_text_195 ?_
              refine lv_topi (fun v_148 ev_148 => ?_)
              rw [show ((0 : Int32).toNatClampNeg) = 0 from rfl] at ev_148
              subst ev_148
              refine lv_icmp_lt (tgt := 208) hx hb dX12_text_196 (by decide) (fun c_149 => ?_) (fun c_149 => ?_)
              · have c_149n : xf.toInt < (gr 0).toInt := (fa_lt _ _).mp c_149
                have hR4 : zRr k N (f_all 4) xn xw xt xu xo xr xf ga (pF4 N 0 A9 gr) := by unfold pF4; rw [if_neg (fun z9 => by have z8 := z9.2.1; have z7 := z9.2.2; rw [← hA8A] at z8; rw [← hA10A] at z7; omega)]; exact hRA
                have hw4 : zHd ((pF4 N 0 A9 gr).2.1.toInt = 0 → xw = nI N) := fun z9 => hww (by have z8 : (pF4 N 0 A9 gr).2.1 = A9.2.1 := (by unfold pF4; split; exact pAlso_fa.2.1; rfl); rw [z8] at z9; exact z9)
                have h54 := hR4.2.2.2.1
                exact jn_208 ga (show zRr k N (f_all 4) xn xw xt xu xo xr xf ga (pF4 N 0 A9 gr) ∧ zHd ((pF4 N 0 A9 gr).2.1.toInt = 0 → xw = nI N) ∧ zPal (upd (upd (upd f_all 4 0) 5 0) 6 (-1)) ga from ⟨hR4, hw4, hpal⟩) _ _ ls G (lv_sub hl [0, 1, 2] rfl)
              · have c_149n : ¬ xf.toInt < (gr 0).toInt := fun q => c_149 ((fa_lt _ _).mpr q)
                refine lv_aload_n hx hb dX12_text_199 rfl (lv_at hl 0 rfl) ?_
                refine lv_iconst (v := 4) hx hb dX12_text_200 (by decide) ?_
                refine lv_aload_n hx hb dX12_text_201 rfl (lv_at hl 0 rfl) ?_
                refine z_get C G clX12 1 rfl 4 (by decide) m_fl_RX12_77 rfl dX12_text_202 ?_
                refine z_Vv (bc := [[zO11 mo m_all m_has (f_all 4) xn xw xt xu xo xr xf m_read i_z0 i_crossings i_inns m_posts m_shut m_here i_steps i_done i_at i_gone m_was m_came m_seenAt m_rowWorth m_farBy m_used i_everywhere i_again0 i_d0 i_never i_firstCame i_longRun i_moved i_crowd i_l0 i_fitMany i_fitLeast i_fitMost m_fitPost m_fitEnd m_keptPosts i_x0], [zAr T 0 m_all 3952 ga]]) (br := [[zAr T 0 m_read 121 gr]]) (As := [.int 4, .int xw]) (rest := []) C G (c_fm_also l T mo m_all m_has (f_all 4) xn xw xt xu xo xr xf m_read i_z0 i_crossings i_inns m_posts m_shut m_here i_steps i_done i_at i_gone m_was m_came m_seenAt m_rowWorth m_farBy m_used i_everywhere i_again0 i_d0 i_never i_firstCame i_longRun i_moved i_crowd i_l0 i_fitMany i_fitLeast i_fitMost m_fitPost m_fitEnd m_keptPosts i_x0 ga 4 xw) (kV_RX12_115 C.2.2.2.2 (Nat.le_of_ble_eq_true rfl) (Nat.le_of_ble_eq_true rfl)) [1, 2] [1, 0] rfl rfl (ci := 11) (qc := (RX12, TX12, 43)) rfl rfl (List.mem_flatten.mpr ⟨_, List.mem_of_getElem? (i := 0) rfl, List.mem_cons_self⟩) rfl rfl hl.1 dX12_text_205 (Nat.le_of_ble_eq_true rfl) (Nat.le_of_ble_eq_true rfl) (fun b1 H locs hw G => ?_)
                refine zEx1 hw ?_
                intro g_all_150
                refine zCu3 ?_
                intro hbs9 h_151 h_152
                clear hw
                subst hbs9
                have G : zS T A s.heap s [[zAr T 0 m_read 121 gr], [zO11 mo m_all m_has (f_all 4) xn xw xt xu xo xr xf m_read i_z0 i_crossings i_inns m_posts m_shut m_here i_steps i_done i_at i_gone m_was m_came m_seenAt m_rowWorth m_farBy m_used i_everywhere i_again0 i_d0 i_never i_firstCame i_longRun i_moved i_crowd i_l0 i_fitMany i_fitLeast i_fitMost m_fitPost m_fitEnd m_keptPosts i_x0], [zAr T 0 m_all 3952 g_all_150]] _ _ := G
                have h_152 : g_all_150 = (if ¬ xr.toInt = 0 ∨ (¬ (ga 5).toInt = 0 ∧ ((ga 6).toInt < xw.toInt ∨ ((ga 6).toInt = xw.toInt ∧ (ga 5).toInt ≤ (4 : Int)))) then ga else upd (upd ga 5 4) 6 xw) := h_152
                have hR4 : zRr k N (f_all 4) xn xw xt xu xo xr xf g_all_150 (pF4 N 0 A9 gr) := by unfold pF4; rw [if_pos ⟨rfl, by rw [← hA8A]; omega, by rw [← hA10A]; omega⟩, ← pAlso_w hww]; exact zRr_also (kd := 4) (w := xw) hRA h_152
                have hw4 : zHd ((pF4 N 0 A9 gr).2.1.toInt = 0 → xw = nI N) := fun z9 => hww (by have z8 : (pF4 N 0 A9 gr).2.1 = A9.2.1 := (by unfold pF4; split; exact pAlso_fa.2.1; rfl); rw [z8] at z9; exact z9)
                have h54 := hR4.2.2.2.1
                exact jn_208 g_all_150 (show zRr k N (f_all 4) xn xw xt xu xo xr xf g_all_150 (pF4 N 0 A9 gr) ∧ zHd ((pF4 N 0 A9 gr).2.1.toInt = 0 → xw = nI N) ∧ zPal (upd (upd (upd f_all 4 0) 5 0) 6 (-1)) g_all_150 from ⟨hR4, hw4, (hpal.tr h_151)⟩) _ _ ls G (lv_sub hl [0, 1, 2] rfl)
          · have c_135n : xr.toInt = (0 : Int) := (fa_eq _ _).mp c_135
            have hwA : A9.2.1.toInt = 0 := by rw [← hA6A]; omega
            refine zAn5 (hA7A hwA) ?_
            intro t1A t2A t3A t4A t5A
            replace t4A : zHd _ := t4A
            replace t5A : zHd _ := t5A
            have t3iA : xt.toInt = (pTk k A9.1 : Int) := by rw [t3A]; exact nI_toInt (by omega)
            refine lv_aload_n hx hb dX12_text_118 rfl (lv_at hl 0 rfl) ?_
            refine z_get C G clX12 1 rfl 5 (by decide) m_fl_RX12_80 rfl dX12_text_119 ?_
            refine lv_if_eq (tgt := 173) hx hb dX12_text_122 (by decide) (fun c_154 => ?_) (fun c_154 => ?_)
            · have c_154n : xt.toInt = (0 : Int) := (fa_eq _ _).mp c_154
              have hX := hEq.symm.trans (pLines_x (fun z9 => by first | (exact absurd z9.1 (by rw [← hA6A]; omega)) | (exact z9.2 (by omega))))
              have hRd := pRead_e (n := N) hX
              have hww : zHd (A9.2.1.toInt = 0 → xw = nI N) := fun z9 => by first | (exact absurd z9 (by rw [← hA6A]; omega)) | (rw [t2A, hkaA.2.2.1 (pTk_0.mp (by omega))])
              refine zMt1 (T := T) 208 (fun (gb : Nat → Int32) => [[zAr T 0 m_read 121 gr], [zO11 mo m_all m_has (f_all 4) xn xw xt xu xo xr xf m_read i_z0 i_crossings i_inns m_posts m_shut m_here i_steps i_done i_at i_gone m_was m_came m_seenAt m_rowWorth m_farBy m_used i_everywhere i_again0 i_d0 i_never i_firstCame i_longRun i_moved i_crowd i_l0 i_fitMany i_fitLeast i_fitMost m_fitPost m_fitEnd m_keptPosts i_x0], [zAr T 0 m_all 3952 gb]]) (fun (gb : Nat → Int32) => [(0, .ref mo), (1, .int 0), (2, .int at_)]) (fun (gb : Nat → Int32) => zRr k N (f_all 4) xn xw xt xu xo xr xf gb (pF4 N 0 A9 gr) ∧ zHd ((pF4 N 0 A9 gr).2.1.toInt = 0 → xw = nI N) ∧ zPal (upd (upd (upd f_all 4 0) 5 0) 6 (-1)) gb) G hl ?_ (fun jn_208 => ?_)
              · intro gb hI9 H locs ls G hl
                replace hI9 : zRr k N (f_all 4) xn xw xt xu xo xr xf gb (pF4 N 0 A9 gr) ∧ zHd ((pF4 N 0 A9 gr).2.1.toInt = 0 → xw = nI N) ∧ zPal (upd (upd (upd f_all 4 0) 5 0) 6 (-1)) gb := hI9
                refine zAn3 hI9 ?_
                intro hR4 hw4 hpb
                clear hI9
                replace G : zS T A s.heap s [[zAr T 0 m_read 121 gr], [zO11 mo m_all m_has (f_all 4) xn xw xt xu xo xr xf m_read i_z0 i_crossings i_inns m_posts m_shut m_here i_steps i_done i_at i_gone m_was m_came m_seenAt m_rowWorth m_farBy m_used i_everywhere i_again0 i_d0 i_never i_firstCame i_longRun i_moved i_crowd i_l0 i_fitMany i_fitLeast i_fitMost m_fitPost m_fitEnd m_keptPosts i_x0], [zAr T 0 m_all 3952 gb]] _ _ := G
                replace hl : lv_has ls 5 [(0, .ref mo), (1, .int 0), (2, .int at_)] := hl
                have h54 := hR4.2.2.2.1
                refine lv_iload_n hx hb dX12_text_208 rfl (lv_at hl 1 rfl) ?_
                refine lv_if_ne (tgt := 237) hx hb dX12_text_209 (by decide) (fun q => absurd (by decide) q) (fun _ => ?_)
                refine lv_aload_n hx hb dX12_text_212 rfl (lv_at hl 0 rfl) ?_
                refine z_get C G clX12 1 rfl 0 (by decide) m_fl_RX12_7 rfl dX12_text_213 ?_
                refine lv_iconst (v := 5) hx hb dX12_text_216 (by decide) ?_
                refine z_ild C G 2 rfl (vp_in_nI (n := 5) (by decide) (by decide)) dX12_text_217 ?_
                refine lv_topi (fun v_155 ev_155 => ?_)
                rw [show ((5 : Int32).toNatClampNeg) = 5 from rfl] at ev_155
                subst ev_155
                refine lv_if_ne (tgt := 237) hx hb dX12_text_218 (by decide) (fun c_156 => ?_) (fun c_156 => ?_)
                · have c_156n : ¬ (gb 5).toInt = (0 : Int) := fun q => c_156 ((fa_eq _ _).mpr q)
                  have hZ1 : zRr k N (f_all 4) xn xw xt xu xo xr xf gb (pRead k N 0).1 := by rw [hRd]; show zRr _ _ _ _ _ _ _ _ _ _ _ (pF5 N 0 (pF4 N 0 A9 gr) gr); unfold pF5; rw [if_neg (fun z9 => by have z8 := z9.2.1; have z7 := z9.2.2; rw [← h54] at z8; first | omega | exact absurd (z7.symm.trans (show pPosts _ = true from by assumption)) (by decide))]; exact hR4
                  have hZ2 : (pRead k N 0).2 = gr := by rw [hRd]; rfl
                  have hZ5 := hZ1.2.2.2.1
                  have hZ6 := hZ1.2.2.2.2.1
                  have hZ5i := congrArg Int32.toInt hZ5
                  exact jn_237 xn xw xt xu xo xr xf gb gr (show zLF gr ∧ zPal (upd (upd (upd f_all 4 0) 5 0) 6 (-1)) gb ∧ zRr k N (f_all 4) xn xw xt xu xo xr xf gb (pRead k N 0).1 ∧ (pRead k N 0).2 = gr from ⟨(by assumption), hpb, hZ1, hZ2⟩) _ _ ls G (lv_sub hl [0, 1, 2] rfl)
                · have c_156n : (gb 5).toInt = (0 : Int) := (fa_eq _ _).mp c_156
                  refine lv_aload_n hx hb dX12_text_221 rfl (lv_at hl 0 rfl) ?_
                  refine z_Vi (bc := [[zO11 mo m_all m_has (f_all 4) xn xw xt xu xo xr xf m_read i_z0 i_crossings i_inns m_posts m_shut m_here i_steps i_done i_at i_gone m_was m_came m_seenAt m_rowWorth m_farBy m_used i_everywhere i_again0 i_d0 i_never i_firstCame i_longRun i_moved i_crowd i_l0 i_fitMany i_fitLeast i_fitMost m_fitPost m_fitEnd m_keptPosts i_x0], [zAr T 0 m_read 121 gr]]) (br := [[zAr T 0 m_all 3952 gb]]) (As := []) (rest := []) C G (c_fm_postsAreThere l T mo m_all m_has (f_all 4) xn xw xt xu xo xr xf m_read i_z0 i_crossings i_inns m_posts m_shut m_here i_steps i_done i_at i_gone m_was m_came m_seenAt m_rowWorth m_farBy m_used i_everywhere i_again0 i_d0 i_never i_firstCame i_longRun i_moved i_crowd i_l0 i_fitMany i_fitLeast i_fitMost m_fitPost m_fitEnd m_keptPosts i_x0 gr) (kV_RX12_156 C.2.2.2.2 (Nat.le_of_ble_eq_true rfl) (Nat.le_of_ble_eq_true rfl)) [1, 0] [0, 0] rfl rfl (ci := 11) (qc := (RX12, TX12, 43)) rfl rfl (List.mem_flatten.mpr ⟨_, List.mem_of_getElem? (i := 0) rfl, List.mem_cons_self⟩) rfl rfl hl.1 dX12_text_222 (Nat.le_of_ble_eq_true rfl) (Nat.le_of_ble_eq_true rfl) (fun r_158 b1 H locs hw G => ?_)
                  refine zAn2 hw ?_
                  intro hbs9 hc_157
                  clear hw
                  subst hbs9
                  have G : zS T A s.heap s [[zAr T 0 m_all 3952 gb], [zO11 mo m_all m_has (f_all 4) xn xw xt xu xo xr xf m_read i_z0 i_crossings i_inns m_posts m_shut m_here i_steps i_done i_at i_gone m_was m_came m_seenAt m_rowWorth m_farBy m_used i_everywhere i_again0 i_d0 i_never i_firstCame i_longRun i_moved i_crowd i_l0 i_fitMany i_fitLeast i_fitMost m_fitPost m_fitEnd m_keptPosts i_x0], [zAr T 0 m_read 121 gr]] _ _ := G
                  rcases hc_157 with ⟨rfl, h_159⟩ | ⟨rfl, h_160⟩
                  · have h_159 : pPosts gr = true := h_159
                    refine lv_if_ne (tgt := 237) hx hb dX12_text_225 (by decide) (fun _ => ?_) (fun q => absurd q (by decide))
                    have hZ1 : zRr k N (f_all 4) xn xw xt xu xo xr xf gb (pRead k N 0).1 := by rw [hRd]; show zRr _ _ _ _ _ _ _ _ _ _ _ (pF5 N 0 (pF4 N 0 A9 gr) gr); unfold pF5; rw [if_neg (fun z9 => by have z8 := z9.2.1; have z7 := z9.2.2; rw [← h54] at z8; first | omega | exact absurd (z7.symm.trans (show pPosts _ = true from by assumption)) (by decide))]; exact hR4
                    have hZ2 : (pRead k N 0).2 = gr := by rw [hRd]; rfl
                    have hZ5 := hZ1.2.2.2.1
                    have hZ6 := hZ1.2.2.2.2.1
                    have hZ5i := congrArg Int32.toInt hZ5
                    have G := G.sub (bs' := [[zAr T 0 m_read 121 gr], [zO11 mo m_all m_has (f_all 4) xn xw xt xu xo xr xf m_read i_z0 i_crossings i_inns m_posts m_shut m_here i_steps i_done i_at i_gone m_was m_came m_seenAt m_rowWorth m_farBy m_used i_everywhere i_again0 i_d0 i_never i_firstCame i_longRun i_moved i_crowd i_l0 i_fitMany i_fitLeast i_fitMost m_fitPost m_fitEnd m_keptPosts i_x0], [zAr T 0 m_all 3952 gb]]) [2, 1, 0] rfl
                    exact jn_237 xn xw xt xu xo xr xf gb gr (show zLF gr ∧ zPal (upd (upd (upd f_all 4 0) 5 0) 6 (-1)) gb ∧ zRr k N (f_all 4) xn xw xt xu xo xr xf gb (pRead k N 0).1 ∧ (pRead k N 0).2 = gr from ⟨(by assumption), hpb, hZ1, hZ2⟩) _ _ ls G (lv_sub hl [0, 1, 2] rfl)
                  · have h_160 : pPosts gr = false := h_160
                    refine lv_if_ne (tgt := 237) hx hb dX12_text_225 (by decide) (fun q => absurd (by decide) q) (fun _ => ?_)
                    refine lv_aload_n hx hb dX12_text_228 rfl (lv_at hl 0 rfl) ?_
                    refine lv_iconst (v := 5) hx hb dX12_text_229 (by decide) ?_
                    refine lv_aload_n hx hb dX12_text_230 rfl (lv_at hl 0 rfl) ?_
                    refine z_get C G clX12 1 rfl 4 (by decide) m_fl_RX12_77 rfl dX12_text_231 ?_
                    refine z_Vv (bc := [[zO11 mo m_all m_has (f_all 4) xn xw xt xu xo xr xf m_read i_z0 i_crossings i_inns m_posts m_shut m_here i_steps i_done i_at i_gone m_was m_came m_seenAt m_rowWorth m_farBy m_used i_everywhere i_again0 i_d0 i_never i_firstCame i_longRun i_moved i_crowd i_l0 i_fitMany i_fitLeast i_fitMost m_fitPost m_fitEnd m_keptPosts i_x0], [zAr T 0 m_all 3952 gb]]) (br := [[zAr T 0 m_read 121 gr]]) (As := [.int 5, .int xw]) (rest := []) C G (c_fm_also l T mo m_all m_has (f_all 4) xn xw xt xu xo xr xf m_read i_z0 i_crossings i_inns m_posts m_shut m_here i_steps i_done i_at i_gone m_was m_came m_seenAt m_rowWorth m_farBy m_used i_everywhere i_again0 i_d0 i_never i_firstCame i_longRun i_moved i_crowd i_l0 i_fitMany i_fitLeast i_fitMost m_fitPost m_fitEnd m_keptPosts i_x0 gb 5 xw) (kV_RX12_115 C.2.2.2.2 (Nat.le_of_ble_eq_true rfl) (Nat.le_of_ble_eq_true rfl)) [1, 0] [0, 0] rfl rfl (ci := 11) (qc := (RX12, TX12, 43)) rfl rfl (List.mem_flatten.mpr ⟨_, List.mem_of_getElem? (i := 0) rfl, List.mem_cons_self⟩) rfl rfl hl.1 dX12_text_234 (Nat.le_of_ble_eq_true rfl) (Nat.le_of_ble_eq_true rfl) (fun b1 H locs hw G => ?_)
                    refine zEx1 hw ?_
                    intro g_all_161
                    refine zCu3 ?_
                    intro hbs9 h_162 h_163
                    clear hw
                    subst hbs9
                    have G : zS T A s.heap s [[zAr T 0 m_read 121 gr], [zO11 mo m_all m_has (f_all 4) xn xw xt xu xo xr xf m_read i_z0 i_crossings i_inns m_posts m_shut m_here i_steps i_done i_at i_gone m_was m_came m_seenAt m_rowWorth m_farBy m_used i_everywhere i_again0 i_d0 i_never i_firstCame i_longRun i_moved i_crowd i_l0 i_fitMany i_fitLeast i_fitMost m_fitPost m_fitEnd m_keptPosts i_x0], [zAr T 0 m_all 3952 g_all_161]] _ _ := G
                    have h_163 : g_all_161 = (if ¬ xr.toInt = 0 ∨ (¬ (gb 5).toInt = 0 ∧ ((gb 6).toInt < xw.toInt ∨ ((gb 6).toInt = xw.toInt ∧ (gb 5).toInt ≤ (5 : Int)))) then gb else upd (upd gb 5 5) 6 xw) := h_163
                    have hZ1 : zRr k N (f_all 4) xn xw xt xu xo xr xf g_all_161 (pRead k N 0).1 := by rw [hRd]; show zRr _ _ _ _ _ _ _ _ _ _ _ (pF5 N 0 (pF4 N 0 A9 gr) gr); unfold pF5; rw [if_pos ⟨rfl, by rw [← h54]; omega, by assumption⟩, ← pAlso_w hw4]; exact zRr_also (kd := 5) (w := xw) hR4 h_163
                    have hZ2 : (pRead k N 0).2 = gr := by rw [hRd]; rfl
                    have hZ5 := hZ1.2.2.2.1
                    have hZ6 := hZ1.2.2.2.2.1
                    have hZ5i := congrArg Int32.toInt hZ5
                    exact jn_237 xn xw xt xu xo xr xf g_all_161 gr (show zLF gr ∧ zPal (upd (upd (upd f_all 4 0) 5 0) 6 (-1)) g_all_161 ∧ zRr k N (f_all 4) xn xw xt xu xo xr xf g_all_161 (pRead k N 0).1 ∧ (pRead k N 0).2 = gr from ⟨(by assumption), (hpb.tr h_162), hZ1, hZ2⟩) _ _ ls G (lv_sub hl [0, 1, 2] rfl)
              refine lv_iload_n hx hb dX12_text_173 rfl (lv_at hl 1 rfl) ?_
              refine lv_if_ne (tgt := 208) hx hb dX12_text_174 (by decide) (fun q => absurd (by decide) q) (fun _ => ?_)
              refine lv_aload_n hx hb dX12_text_177 rfl (lv_at hl 0 rfl) ?_
              refine z_get C G clX12 1 rfl 0 (by decide) m_fl_RX12_7 rfl dX12_text_178 ?_
              refine lv_iconst (v := 5) hx hb dX12_text_181 (by decide) ?_
              refine z_ild C G 2 rfl (vp_in_nI (n := 5) (by decide) (by decide)) dX12_text_182 ?_
              refine lv_topi (fun v_165 ev_165 => ?_)
              rw [show ((5 : Int32).toNatClampNeg) = 5 from rfl] at ev_165
              subst ev_165
              refine lv_if_ne (tgt := 208) hx hb dX12_text_183 (by decide) (fun c_166 => ?_) (fun c_166 => ?_)
              · have c_166n : ¬ (ga 5).toInt = (0 : Int) := fun q => c_166 ((fa_eq _ _).mpr q)
                have hR4 : zRr k N (f_all 4) xn xw xt xu xo xr xf ga (pF4 N 0 A9 gr) := by unfold pF4; rw [if_neg (fun z9 => by have z8 := z9.2.1; have z7 := z9.2.2; rw [← hA8A] at z8; rw [← hA10A] at z7; omega)]; exact hRA
                have hw4 : zHd ((pF4 N 0 A9 gr).2.1.toInt = 0 → xw = nI N) := fun z9 => hww (by have z8 : (pF4 N 0 A9 gr).2.1 = A9.2.1 := (by unfold pF4; split; exact pAlso_fa.2.1; rfl); rw [z8] at z9; exact z9)
                have h54 := hR4.2.2.2.1
                exact jn_208 ga (show zRr k N (f_all 4) xn xw xt xu xo xr xf ga (pF4 N 0 A9 gr) ∧ zHd ((pF4 N 0 A9 gr).2.1.toInt = 0 → xw = nI N) ∧ zPal (upd (upd (upd f_all 4 0) 5 0) 6 (-1)) ga from ⟨hR4, hw4, hpal⟩) _ _ ls G (lv_sub hl [0, 1, 2] rfl)
              · have c_166n : (ga 5).toInt = (0 : Int) := (fa_eq _ _).mp c_166
                refine lv_aload_n hx hb dX12_text_186 rfl (lv_at hl 0 rfl) ?_
                refine z_get C G clX12 1 rfl 9 (by decide) m_fl_RX12_126 rfl dX12_text_187 ?_
                refine lv_aload_n hx hb dX12_text_190 rfl (lv_at hl 0 rfl) ?_
                refine z_get C G clX12 1 rfl 10 (by decide) m_fl_RX12_17 rfl dX12_text_191 ?_
                refine lv_iconst (v := 0) hx hb dX12_text_194 (by decide) ?_
                refine z_ild C G 0 rfl (vp_in_nI (n := 0) (by decide) (by decide)) dX12_text_195 ?_
                refine lv_topi (fun v_167 ev_167 => ?_)
                rw [show ((0 : Int32).toNatClampNeg) = 0 from rfl] at ev_167
                subst ev_167
                refine lv_icmp_lt (tgt := 208) hx hb dX12_text_196 (by decide) (fun c_168 => ?_) (fun c_168 => ?_)
                · have c_168n : xf.toInt < (gr 0).toInt := (fa_lt _ _).mp c_168
                  have hR4 : zRr k N (f_all 4) xn xw xt xu xo xr xf ga (pF4 N 0 A9 gr) := by unfold pF4; rw [if_neg (fun z9 => by have z8 := z9.2.1; have z7 := z9.2.2; rw [← hA8A] at z8; rw [← hA10A] at z7; omega)]; exact hRA
                  have hw4 : zHd ((pF4 N 0 A9 gr).2.1.toInt = 0 → xw = nI N) := fun z9 => hww (by have z8 : (pF4 N 0 A9 gr).2.1 = A9.2.1 := (by unfold pF4; split; exact pAlso_fa.2.1; rfl); rw [z8] at z9; exact z9)
                  have h54 := hR4.2.2.2.1
                  exact jn_208 ga (show zRr k N (f_all 4) xn xw xt xu xo xr xf ga (pF4 N 0 A9 gr) ∧ zHd ((pF4 N 0 A9 gr).2.1.toInt = 0 → xw = nI N) ∧ zPal (upd (upd (upd f_all 4 0) 5 0) 6 (-1)) ga from ⟨hR4, hw4, hpal⟩) _ _ ls G (lv_sub hl [0, 1, 2] rfl)
                · have c_168n : ¬ xf.toInt < (gr 0).toInt := fun q => c_168 ((fa_lt _ _).mpr q)
                  refine lv_aload_n hx hb dX12_text_199 rfl (lv_at hl 0 rfl) ?_
                  refine lv_iconst (v := 4) hx hb dX12_text_200 (by decide) ?_
                  refine lv_aload_n hx hb dX12_text_201 rfl (lv_at hl 0 rfl) ?_
                  refine z_get C G clX12 1 rfl 4 (by decide) m_fl_RX12_77 rfl dX12_text_202 ?_
                  refine z_Vv (bc := [[zO11 mo m_all m_has (f_all 4) xn xw xt xu xo xr xf m_read i_z0 i_crossings i_inns m_posts m_shut m_here i_steps i_done i_at i_gone m_was m_came m_seenAt m_rowWorth m_farBy m_used i_everywhere i_again0 i_d0 i_never i_firstCame i_longRun i_moved i_crowd i_l0 i_fitMany i_fitLeast i_fitMost m_fitPost m_fitEnd m_keptPosts i_x0], [zAr T 0 m_all 3952 ga]]) (br := [[zAr T 0 m_read 121 gr]]) (As := [.int 4, .int xw]) (rest := []) C G (c_fm_also l T mo m_all m_has (f_all 4) xn xw xt xu xo xr xf m_read i_z0 i_crossings i_inns m_posts m_shut m_here i_steps i_done i_at i_gone m_was m_came m_seenAt m_rowWorth m_farBy m_used i_everywhere i_again0 i_d0 i_never i_firstCame i_longRun i_moved i_crowd i_l0 i_fitMany i_fitLeast i_fitMost m_fitPost m_fitEnd m_keptPosts i_x0 ga 4 xw) (kV_RX12_115 C.2.2.2.2 (Nat.le_of_ble_eq_true rfl) (Nat.le_of_ble_eq_true rfl)) [1, 2] [1, 0] rfl rfl (ci := 11) (qc := (RX12, TX12, 43)) rfl rfl (List.mem_flatten.mpr ⟨_, List.mem_of_getElem? (i := 0) rfl, List.mem_cons_self⟩) rfl rfl hl.1 dX12_text_205 (Nat.le_of_ble_eq_true rfl) (Nat.le_of_ble_eq_true rfl) (fun b1 H locs hw G => ?_)
                  refine zEx1 hw ?_
                  intro g_all_169
                  refine zCu3 ?_
                  intro hbs9 h_170 h_171
                  clear hw
                  subst hbs9
                  have G : zS T A s.heap s [[zAr T 0 m_read 121 gr], [zO11 mo m_all m_has (f_all 4) xn xw xt xu xo xr xf m_read i_z0 i_crossings i_inns m_posts m_shut m_here i_steps i_done i_at i_gone m_was m_came m_seenAt m_rowWorth m_farBy m_used i_everywhere i_again0 i_d0 i_never i_firstCame i_longRun i_moved i_crowd i_l0 i_fitMany i_fitLeast i_fitMost m_fitPost m_fitEnd m_keptPosts i_x0], [zAr T 0 m_all 3952 g_all_169]] _ _ := G
                  have h_171 : g_all_169 = (if ¬ xr.toInt = 0 ∨ (¬ (ga 5).toInt = 0 ∧ ((ga 6).toInt < xw.toInt ∨ ((ga 6).toInt = xw.toInt ∧ (ga 5).toInt ≤ (4 : Int)))) then ga else upd (upd ga 5 4) 6 xw) := h_171
                  have hR4 : zRr k N (f_all 4) xn xw xt xu xo xr xf g_all_169 (pF4 N 0 A9 gr) := by unfold pF4; rw [if_pos ⟨rfl, by rw [← hA8A]; omega, by rw [← hA10A]; omega⟩, ← pAlso_w hww]; exact zRr_also (kd := 4) (w := xw) hRA h_171
                  have hw4 : zHd ((pF4 N 0 A9 gr).2.1.toInt = 0 → xw = nI N) := fun z9 => hww (by have z8 : (pF4 N 0 A9 gr).2.1 = A9.2.1 := (by unfold pF4; split; exact pAlso_fa.2.1; rfl); rw [z8] at z9; exact z9)
                  have h54 := hR4.2.2.2.1
                  exact jn_208 g_all_169 (show zRr k N (f_all 4) xn xw xt xu xo xr xf g_all_169 (pF4 N 0 A9 gr) ∧ zHd ((pF4 N 0 A9 gr).2.1.toInt = 0 → xw = nI N) ∧ zPal (upd (upd (upd f_all 4 0) 5 0) 6 (-1)) g_all_169 from ⟨hR4, hw4, (hpal.tr h_170)⟩) _ _ ls G (lv_sub hl [0, 1, 2] rfl)
            · have c_154n : ¬ xt.toInt = (0 : Int) := fun q => c_154 ((fa_eq _ _).mpr q)
              have htA : ¬ pTk k A9.1 = 0 := by omega
              refine lv_iload_n hx hb dX12_text_125 rfl (lv_at hl 1 rfl) ?_
              refine lv_lookup (tgt := 152) hx hb dX12_text_126 (by decide) rfl (by decide) ?_
              refine lv_aload_n hx hb dX12_text_152 rfl (lv_at hl 0 rfl) ?_
              refine z_Vv (bc := [[zO11 mo m_all m_has (f_all 4) xn xw xt xu xo xr xf m_read i_z0 i_crossings i_inns m_posts m_shut m_here i_steps i_done i_at i_gone m_was m_came m_seenAt m_rowWorth m_farBy m_used i_everywhere i_again0 i_d0 i_never i_firstCame i_longRun i_moved i_crowd i_l0 i_fitMany i_fitLeast i_fitMost m_fitPost m_fitEnd m_keptPosts i_x0], [zAr T 0 m_all 3952 ga], [zAr T 0 m_read 121 gr]]) (br := []) (As := []) (rest := []) C G (c_fm_landLine l T mo m_all m_has (f_all 4) xn xw xt xu xo xr xf m_read i_z0 i_crossings i_inns m_posts m_shut m_here i_steps i_done i_at i_gone m_was m_came m_seenAt m_rowWorth m_farBy m_used i_everywhere i_again0 i_d0 i_never i_firstCame i_longRun i_moved i_crowd i_l0 i_fitMany i_fitLeast i_fitMost m_fitPost m_fitEnd m_keptPosts i_x0 ga gr k N A9 (by first | with_reducible assumption | with_reducible rfl | omega | assumption | rfl) (by first | with_reducible assumption | with_reducible rfl | omega | assumption | rfl) (by first | with_reducible assumption | with_reducible rfl | omega | assumption | rfl) (by first | with_reducible assumption | with_reducible rfl | omega | assumption | rfl) hRA hwA) (kV_RX12_147 C.2.2.2.2 (Nat.le_of_ble_eq_true rfl) (Nat.le_of_ble_eq_true rfl)) [1, 2, 0] [0, 0, 0] rfl rfl (ci := 11) (qc := (RX12, TX12, 43)) rfl rfl (List.mem_flatten.mpr ⟨_, List.mem_of_getElem? (i := 0) rfl, List.mem_cons_self⟩) rfl rfl hl.1 dX12_text_153 (Nat.le_of_ble_eq_true rfl) (Nat.le_of_ble_eq_true rfl) (fun b1 H locs hw G => ?_)
              refine zEx9 hw ?_
              intro j_next_173 j_where_174 j_token_175 j_number_176 j_word_177 j_wrong_178 j_farCrossing_179 g_all_180 g_read_181
              refine zCu9 ?_
              intro hbs9 h_182 h_183 h_184 h_185 h_186 h_187 h_188 h_189
              clear hw
              subst hbs9
              have G : zS T A s.heap s [[zO11 mo m_all m_has (f_all 4) j_next_173 j_where_174 j_token_175 j_number_176 j_word_177 j_wrong_178 j_farCrossing_179 m_read i_z0 i_crossings i_inns m_posts m_shut m_here i_steps i_done i_at i_gone m_was m_came m_seenAt m_rowWorth m_farBy m_used i_everywhere i_again0 i_d0 i_never i_firstCame i_longRun i_moved i_crowd i_l0 i_fitMany i_fitLeast i_fitMost m_fitPost m_fitEnd m_keptPosts i_x0], [zAr T 0 m_all 3952 g_all_180], [zAr T 0 m_read 121 g_read_181]] _ _ := G
              have hnR : zRr k N (f_all 4) j_next_173 j_where_174 j_token_175 j_number_176 j_word_177 j_wrong_178 j_farCrossing_179 g_all_180 (pLine k 0 A9 gr).1 := by rw [pLine_0]; exact h_188
              have hnG : g_read_181 = (pLine k 0 A9 gr).2 := by rw [pLine_0]; exact h_189
              refine lv_goto (tgt := 111) hx hb dX12_text_156 (by decide) ?_
              have G := G.sub (bs' := [[zAr T 0 m_read 121 g_read_181], [zO11 mo m_all m_has (f_all 4) j_next_173 j_where_174 j_token_175 j_number_176 j_word_177 j_wrong_178 j_farCrossing_179 m_read i_z0 i_crossings i_inns m_posts m_shut m_here i_steps i_done i_at i_gone m_was m_came m_seenAt m_rowWorth m_farBy m_used i_everywhere i_again0 i_d0 i_never i_firstCame i_longRun i_moved i_crowd i_l0 i_fitMany i_fitLeast i_fitMost m_fitPost m_fitEnd m_keptPosts i_x0], [zAr T 0 m_all 3952 g_all_180]]) [2, 0, 1] rfl
              exact ih_111 j_next_173 j_where_174 j_token_175 j_number_176 j_word_177 j_wrong_178 j_farCrossing_179 g_all_180 g_read_181 ((pLine k 0 A9 gr).1) (j + 1) (show zLF g_read_181 ∧ 0 ≤ j_next_173.toInt ∧ j_next_173.toInt ≤ (f_all 4).toInt ∧ zPal (upd (upd (upd f_all 4 0) 5 0) 6 (-1)) g_all_180 ∧ zRr k N (f_all 4) j_next_173 j_where_174 j_token_175 j_number_176 j_word_177 j_wrong_178 j_farCrossing_179 g_all_180 ((pLine k 0 A9 gr).1) ∧ pLines k 0 (601 - (j + 1)) ((pLine k 0 A9 gr).1) g_read_181 = pLines k 0 601 (0, 0, 0, -1, -1) (fun _ => 0) ∧ (¬ j_wrong_178.toInt = 0 ∨ j_token_175.toInt = 0 ∨ ((j + 1) : Int) < j_next_173.toInt) from ⟨(by assumption), by omega, by omega, (hpal.tr h_186), hnR, (by rw [hnG]; exact pLines_n (by omega) hwA htA hEq), by omega⟩) (show zMu j_wrong_178 j_token_175 j_next_173 (f_all 4) < zMu xr xt xn (f_all 4) from zMu_lt (by omega) (by omega) (by omega) (by omega)) _ _ ls G (lv_sub hl [0, 1, 2] rfl)
        · have c_121n : ¬ 121 ≤ k_ := fun q => c_121 ((nI_leI (a := 121) (b := k_) (by omega) (by omega)).mpr q)
          refine lv_aload_n hx hb dX12_text_94 rfl (lv_at hl 1 rfl) ?_
          refine z_get C G clX12 1 rfl 10 (by decide) m_fl_RX12_17 rfl dX12_text_95 ?_
          refine lv_iload_n hx hb dX12_text_98 rfl (lv_at hl 0 rfl) ?_
          refine lv_iconst (v := 0) hx hb dX12_text_99 (by decide) ?_
          refine z_ist C G 0 rfl (vp_in_nI (by omega) (by omega)) dX12_text_100 (fun H locs G => ?_)
          rw [nI_clamp (by omega)] at G
          have G : zS T A s.heap s [[zAr T 0 m_read 121 (upd z k_ 0)], [zO11 mo m_all m_has (f_all 4) 0 i_where i_token i_number i_word 0 (-1) m_read i_z0 i_crossings i_inns m_posts m_shut m_here i_steps i_done i_at i_gone m_was m_came m_seenAt m_rowWorth m_farBy m_used i_everywhere i_again0 i_d0 i_never i_firstCame i_longRun i_moved i_crowd i_l0 i_fitMany i_fitLeast i_fitMost m_fitPost m_fitEnd m_keptPosts i_x0], [zAr T 0 m_all 3952 (upd (upd (upd f_all 4 0) 5 0) 6 (-1))]] _ _ := G
          refine lv_iinc (v := nI (k_ + 1)) (lv' := [(3, .int (nI (k_ + 1))), (0, .ref mo), (1, .int 0), (2, .int at_)]) hx hb dX12_text_101 hl (k := 0) rfl (z_inc k_ 1) (by decide) rfl (fun ls hl => ?_)
          refine lv_goto (tgt := 88) hx hb dX12_text_104 (by decide) ?_
          exact ih_88 (k_ + 1) (upd z k_ 0) (show (k_ + 1) ≤ 121 ∧ (∀ j, j < (k_ + 1) → (upd z k_ 0) j = 0) from ⟨by omega, z_updE (F := fun _ => 0) hZ rfl⟩) (show 121 - (k_ + 1) < 121 - k_ from by omega) _ _ ls G (lv_sub hl [0, 1, 2, 3] rfl)
      · have h_104 : (at_.toInt < 0 ∨ ((upd (upd (upd f_all 4 0) 5 0) 6 (-1)) 0).toInt ≤ at_.toInt) := h_104
        refine lv_if_ne (tgt := 71) hx hb dX12_text_65 (by decide) (fun q => absurd (by decide) q) (fun _ => ?_)
        refine lv_bipush (v := (-2)) hx hb dX12_text_68 (by decide) ?_
        have G := G.sub (bs' := [[zO11 mo m_all m_has (f_all 4) i_next i_where i_token i_number i_word i_wrong i_farCrossing m_read i_z0 i_crossings i_inns m_posts m_shut m_here i_steps i_done i_at i_gone m_was m_came m_seenAt m_rowWorth m_farBy m_used i_everywhere i_again0 i_d0 i_never i_firstCame i_longRun i_moved i_crowd i_l0 i_fitMany i_fitLeast i_fitMost m_fitPost m_fitEnd m_keptPosts i_x0], [zAr T 0 m_all 3952 (upd (upd (upd f_all 4 0) 5 0) 6 (-1))], [zAr T 0 m_read 121 f_read]]) [1, 2, 0] rfl
        exact z_back hQ9 (z_iret C hr hlocks G (Nat.le_of_ble_eq_true rfl) (Nat.le_of_ble_eq_true rfl) dX12_text_70 ⟨(f_all 4), i_next, i_where, i_token, i_number, i_word, i_wrong, i_farCrossing, (upd (upd (upd f_all 4 0) 5 0) 6 (-1)), f_read, rfl, (zBI_hd hB rfl (fun q hq => by rw [hF q (by omega) (by omega) (by omega)]; exact hB.2.1 q hq) (fun j hj => hF j (by omega) (by omega) (by omega))), rfl, (fun j hj => hF j (by omega) (by omega) (by omega)), (zText_b (fun z9 => by have z8 := hoi.mp z9; omega))⟩)
  · have h_6 : ((0 : Int) < (0 : Int) ∨ (2 : Int) < (0 : Int)) := h_6
    refine lv_if_eq (tgt := 68) hx hb dX12_text_38 (by decide) (fun _ => ?_) (fun q => absurd (by decide) q)
    refine lv_bipush (v := (-2)) hx hb dX12_text_68 (by decide) ?_
    exact z_back hQ9 (z_iret C hr hlocks G (Nat.le_of_ble_eq_true rfl) (Nat.le_of_ble_eq_true rfl) dX12_text_70 ⟨(f_all 4), i_next, i_where, i_token, i_number, i_word, i_wrong, i_farCrossing, (upd (upd (upd f_all 4 0) 5 0) 6 (-1)), f_read, rfl, (zBI_hd hB rfl (fun q hq => by rw [hF q (by omega) (by omega) (by omega)]; exact hB.2.1 q hq) (fun j hj => hF j (by omega) (by omega) (by omega))), rfl, (fun j hj => hF j (by omega) (by omega) (by omega)), (by exfalso; omega)⟩)


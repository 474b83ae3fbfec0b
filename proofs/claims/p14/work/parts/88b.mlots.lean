set_option maxHeartbeats 4000000 in
set_option maxRecDepth 100000 in
/-- c_m_unlikeTold -/
theorem c_m_unlikeTold (l : Launch) (T : zTy) (mo : Nat) (m_all : Nat) (m_has : Nat) (i_size : Int32) (i_next : Int32) (i_where : Int32) (i_token : Int32) (i_number : Int32) (i_word : Int32) (i_wrong : Int32) (i_farCrossing : Int32) (m_read : Nat) (i_z0 : Int32) (i_crossings : Int32) (i_inns : Int32) (m_posts : Nat) (m_shut : Nat) (m_here : Nat) (i_steps : Int32) (i_done : Int32) (i_at : Int32) (i_gone : Int32) (m_was : Nat) (m_came : Nat) (m_seenAt : Nat) (m_rowWorth : Nat) (m_farBy : Nat) (m_used : Nat) (i_everywhere : Int32) (i_again0 : Int32) (i_d0 : Int32) (i_never : Int32) (i_firstCame : Int32) (i_longRun : Int32) (i_moved : Int32) (i_crowd : Int32) (i_l0 : Int32) (i_fitMany : Int32) (i_fitLeast : Int32) (i_fitMost : Int32) (m_fitPost : Nat) (m_fitEnd : Nat) (m_keptPosts : Nat) (i_x0 : Int32) (f_all : Nat → Int32) (f_posts : Nat → Int32) (hL : zML f_all i_z0 i_crossings) (hP : zMP f_posts) : zMi l T yX12_unlikeTold cX12_unlikeTold 3 (some .int) 3 0 0 [.ref mo] [[zO11 mo m_all m_has i_size i_next i_where i_token i_number i_word i_wrong i_farCrossing m_read i_z0 i_crossings i_inns m_posts m_shut m_here i_steps i_done i_at i_gone m_was m_came m_seenAt m_rowWorth m_farBy m_used i_everywhere i_again0 i_d0 i_never i_firstCame i_longRun i_moved i_crowd i_l0 i_fitMany i_fitLeast i_fitMost m_fitPost m_fitEnd m_keptPosts i_x0], [zAr T 0 m_all 3952 f_all], [zAr T 0 m_posts 7 f_posts]] (fun (r : Int32) bs => bs = [[zO11 mo m_all m_has i_size i_next i_where i_token i_number i_word i_wrong i_farCrossing m_read i_z0 i_crossings i_inns m_posts m_shut m_here i_steps i_done i_at i_gone m_was m_came m_seenAt m_rowWorth m_farBy m_used i_everywhere i_again0 i_d0 i_never i_firstCame i_longRun i_moved i_crowd i_l0 i_fitMany i_fitLeast i_fitMost m_fitPost m_fitEnd m_keptPosts i_x0], [zAr T 0 m_all 3952 f_all], [zAr T 0 m_posts 7 f_posts]]) := by
  refine zMi_of (own := RX12) (by decide) rfl (Nat.le_of_ble_eq_true rfl) ?_
  intro p e s m args below meth c A ls C hr hlocks hnm hAe G hl
  refine zHide (fun Qz_ hQz_ => ?_)
  have hx := C.1
  have hb := C.2.1
  have hl : lv_has ls 3 [(0, .ref mo)] := hl
  have hz := hL.1
  have hcr := hL.cr
  refine lv_iconst (v := 0) hx hb dX12_unlikeTold_0 (by decide) ?_
  refine lv_istore_n (lv' := [(1, .int 0), (0, .ref mo)]) hx hb dX12_unlikeTold_1 rfl hl (by decide) (zLvf_h rfl) (fun ls hl => ?_)
  refine lv_iconst (v := 0) hx hb dX12_unlikeTold_2 (by decide) ?_
  refine lv_istore_n (lv' := [(2, .int 0), (1, .int 0), (0, .ref mo)]) hx hb dX12_unlikeTold_3 rfl hl (by decide) (zLvf_h rfl) (fun ls hl => ?_)
  refine z_lp2 (T := T) 4 (fun (i : Nat) (u : Int32) => [[zO11 mo m_all m_has i_size i_next i_where i_token i_number i_word i_wrong i_farCrossing m_read i_z0 i_crossings i_inns m_posts m_shut m_here i_steps i_done i_at i_gone m_was m_came m_seenAt m_rowWorth m_farBy m_used i_everywhere i_again0 i_d0 i_never i_firstCame i_longRun i_moved i_crowd i_l0 i_fitMany i_fitLeast i_fitMost m_fitPost m_fitEnd m_keptPosts i_x0], [zAr T 0 m_all 3952 f_all], [zAr T 0 m_posts 7 f_posts]]) (fun (i : Nat) (u : Int32) => [(2, .int (nI i)), (1, .int u), (0, .ref mo)]) (fun (i : Nat) (u : Int32) => i ≤ 7) (fun (i : Nat) (u : Int32) => 7 - i) ?_ 0 0 (show 0 ≤ 7 from by omega) G (lv_sub hl [0, 1, 2] rfl)
  intro i u hi ih_4 H locs ls G hl
  replace hi : i ≤ 7 := hi
  replace G : zS T A s.heap s [[zO11 mo m_all m_has i_size i_next i_where i_token i_number i_word i_wrong i_farCrossing m_read i_z0 i_crossings i_inns m_posts m_shut m_here i_steps i_done i_at i_gone m_was m_came m_seenAt m_rowWorth m_farBy m_used i_everywhere i_again0 i_d0 i_never i_firstCame i_longRun i_moved i_crowd i_l0 i_fitMany i_fitLeast i_fitMost m_fitPost m_fitEnd m_keptPosts i_x0], [zAr T 0 m_all 3952 f_all], [zAr T 0 m_posts 7 f_posts]] _ _ := G
  replace hl : lv_has ls 3 [(2, .int (nI i)), (1, .int u), (0, .ref mo)] := hl
  refine lv_iload_n hx hb dX12_unlikeTold_4 rfl (lv_at hl 0 rfl) ?_
  refine lv_aload_n hx hb dX12_unlikeTold_5 rfl (lv_at hl 2 rfl) ?_
  refine z_get C G clX12 0 rfl 12 (by decide) m_fl_RX12_169 rfl dX12_unlikeTold_6 ?_
  refine lv_icmp_ge (tgt := 50) hx hb dX12_unlikeTold_9 (by decide) (fun c_1 => ?_) (fun c_1 => ?_)
  · have c_1n : i_crossings.toInt ≤ (i : Int) := by have q := (fa_le _ _).mp c_1; rw [nI_toInt (n := i) (by omega)] at q; exact q
    refine lv_iload_n hx hb dX12_unlikeTold_50 rfl (lv_at hl 1 rfl) ?_
    exact z_back hQz_ (z_iret C hr hlocks G (Nat.le_of_ble_eq_true rfl) (Nat.le_of_ble_eq_true rfl) dX12_unlikeTold_51 rfl)
  · have c_1n : ¬ i_crossings.toInt ≤ (i : Int) := fun q => c_1 ((fa_le _ _).mpr (by rw [nI_toInt (n := i) (by omega)]; exact q))
    refine lv_iload_n hx hb dX12_unlikeTold_12 rfl (lv_at hl 1 rfl) ?_
    refine lv_aload_n hx hb dX12_unlikeTold_13 rfl (lv_at hl 2 rfl) ?_
    refine lv_iload_n hx hb dX12_unlikeTold_14 rfl (lv_at hl 0 rfl) ?_
    have ti_2 : (nI i).toInt = ((i : Nat) : Int) := nI_toInt (by omega)
    refine z_Vi (bc := [[zO11 mo m_all m_has i_size i_next i_where i_token i_number i_word i_wrong i_farCrossing m_read i_z0 i_crossings i_inns m_posts m_shut m_here i_steps i_done i_at i_gone m_was m_came m_seenAt m_rowWorth m_farBy m_used i_everywhere i_again0 i_d0 i_never i_firstCame i_longRun i_moved i_crowd i_l0 i_fitMany i_fitLeast i_fitMost m_fitPost m_fitEnd m_keptPosts i_x0], [zAr T 0 m_all 3952 f_all]]) (br := [[zAr T 0 m_posts 7 f_posts]]) (As := [.int (nI i)]) (rest := [.int u]) C G (c_m_isFree l T mo m_all m_has i_size i_next i_where i_token i_number i_word i_wrong i_farCrossing m_read i_z0 i_crossings i_inns m_posts m_shut m_here i_steps i_done i_at i_gone m_was m_came m_seenAt m_rowWorth m_farBy m_used i_everywhere i_again0 i_d0 i_never i_firstCame i_longRun i_moved i_crowd i_l0 i_fitMany i_fitLeast i_fitMost m_fitPost m_fitEnd m_keptPosts i_x0 f_all (nI i) (by first | with_reducible assumption | with_reducible rfl | omega | assumption | rfl | decide) (by first | with_reducible assumption | with_reducible rfl | omega | assumption | rfl | decide) (by first | with_reducible assumption | with_reducible rfl | omega | assumption | rfl | decide)) (kV_RX12_223 C.2.2.2.2 (Nat.le_of_ble_eq_true rfl) (Nat.le_of_ble_eq_true rfl)) [0, 1] [0, 0] rfl rfl (ci := 11) (qc := (RX12, TX12, 43)) rfl rfl (List.mem_flatten.mpr ⟨_, List.mem_of_getElem? (i := 0) rfl, List.mem_cons_self⟩) rfl rfl hl.1 dX12_unlikeTold_15 (Nat.le_of_ble_eq_true rfl) (Nat.le_of_ble_eq_true rfl) (fun r_4 b1 H locs hw G => ?_)
    refine zAn2 hw ?_
    intro hbs9 hc_3
    clear hw
    subst hbs9
    have G : zS T A s.heap s [[zAr T 0 m_posts 7 f_posts], [zO11 mo m_all m_has i_size i_next i_where i_token i_number i_word i_wrong i_farCrossing m_read i_z0 i_crossings i_inns m_posts m_shut m_here i_steps i_done i_at i_gone m_was m_came m_seenAt m_rowWorth m_farBy m_used i_everywhere i_again0 i_d0 i_never i_firstCame i_longRun i_moved i_crowd i_l0 i_fitMany i_fitLeast i_fitMost m_fitPost m_fitEnd m_keptPosts i_x0], [zAr T 0 m_all 3952 f_all]] _ _ := G
    rcases hc_3 with ⟨rfl, h_5, h_6⟩ | ⟨rfl, h_7⟩
    · have h_5 : ¬ zInn i_inns (nI i) := h_5
      have h_6 : 0 < (zRd f_all i_z0 (nI i)).toInt := h_6
      refine lv_if_eq (tgt := 41) hx hb dX12_unlikeTold_18 (by decide) (fun q => absurd q (by decide)) (fun _ => ?_)
      refine lv_aload_n hx hb dX12_unlikeTold_21 rfl (lv_at hl 2 rfl) ?_
      refine z_get C G clX12 1 rfl 14 (by decide) m_fl_RX12_20 rfl dX12_unlikeTold_22 ?_
      refine lv_iload_n hx hb dX12_unlikeTold_25 rfl (lv_at hl 0 rfl) ?_
      refine z_ild C G 0 rfl (vp_in_nI (by omega) (by decide)) dX12_unlikeTold_26 ?_
      refine lv_topi (fun v_8 ev_8 => ?_)
      rw [nI_clamp (by omega)] at ev_8
      subst ev_8
      refine lv_aload_n hx hb dX12_unlikeTold_27 rfl (lv_at hl 2 rfl) ?_
      refine lv_iload_n hx hb dX12_unlikeTold_28 rfl (lv_at hl 0 rfl) ?_
      have ti_9 : (nI i).toInt = ((i : Nat) : Int) := nI_toInt (by omega)
      refine z_Vi (bc := [[zO11 mo m_all m_has i_size i_next i_where i_token i_number i_word i_wrong i_farCrossing m_read i_z0 i_crossings i_inns m_posts m_shut m_here i_steps i_done i_at i_gone m_was m_came m_seenAt m_rowWorth m_farBy m_used i_everywhere i_again0 i_d0 i_never i_firstCame i_longRun i_moved i_crowd i_l0 i_fitMany i_fitLeast i_fitMost m_fitPost m_fitEnd m_keptPosts i_x0], [zAr T 0 m_all 3952 f_all]]) (br := [[zAr T 0 m_posts 7 f_posts]]) (As := [.int (nI i)]) (rest := [.int (f_posts i), .int u]) C G (c_m_postTold l T mo m_all m_has i_size i_next i_where i_token i_number i_word i_wrong i_farCrossing m_read i_z0 i_crossings i_inns m_posts m_shut m_here i_steps i_done i_at i_gone m_was m_came m_seenAt m_rowWorth m_farBy m_used i_everywhere i_again0 i_d0 i_never i_firstCame i_longRun i_moved i_crowd i_l0 i_fitMany i_fitLeast i_fitMost m_fitPost m_fitEnd m_keptPosts i_x0 f_all (nI i) (by first | with_reducible assumption | with_reducible rfl | omega | assumption | rfl | decide) (by first | with_reducible assumption | with_reducible rfl | omega | assumption | rfl | decide) (by first | with_reducible assumption | with_reducible rfl | omega | assumption | rfl | decide)) (kV_RX12_193 C.2.2.2.2 (Nat.le_of_ble_eq_true rfl) (Nat.le_of_ble_eq_true rfl)) [1, 2] [1, 0] rfl rfl (ci := 11) (qc := (RX12, TX12, 43)) rfl rfl (List.mem_flatten.mpr ⟨_, List.mem_of_getElem? (i := 0) rfl, List.mem_cons_self⟩) rfl rfl hl.1 dX12_unlikeTold_29 (Nat.le_of_ble_eq_true rfl) (Nat.le_of_ble_eq_true rfl) (fun r_13 b1 H locs hw G => ?_)
      refine zAn4 hw ?_
      intro hbs9 h_10 h_11 h_12
      clear hw
      subst hbs9
      have G : zS T A s.heap s [[zAr T 0 m_posts 7 f_posts], [zO11 mo m_all m_has i_size i_next i_where i_token i_number i_word i_wrong i_farCrossing m_read i_z0 i_crossings i_inns m_posts m_shut m_here i_steps i_done i_at i_gone m_was m_came m_seenAt m_rowWorth m_farBy m_used i_everywhere i_again0 i_d0 i_never i_firstCame i_longRun i_moved i_crowd i_l0 i_fitMany i_fitLeast i_fitMost m_fitPost m_fitEnd m_keptPosts i_x0], [zAr T 0 m_all 3952 f_all]] _ _ := G
      subst h_10
      refine lv_icmp_eq (tgt := 41) hx hb dX12_unlikeTold_32 (by decide) (fun c_14 => ?_) (fun c_14 => ?_)
      · have c_14n : (f_posts i).toInt = (zPt f_all i_z0 (nI i)).toInt := (fa_eq _ _).mp c_14
        refine lv_iconst (v := 0) hx hb dX12_unlikeTold_41 (by decide) ?_
        refine lv_ior hx hb dX12_unlikeTold_42 ?_
        refine lv_istore_n (lv' := [(1, .int (u ||| 0)), (2, .int (nI i)), (0, .ref mo)]) hx hb dX12_unlikeTold_43 rfl hl (by decide) (zLvf_h rfl) (fun ls hl => ?_)
        refine lv_iinc (v := nI (i + 1)) (lv' := [(2, .int (nI (i + 1))), (1, .int (u ||| 0)), (0, .ref mo)]) hx hb dX12_unlikeTold_44 hl (k := 1) rfl (z_inc i 1) (by decide) (zLvf_h rfl) (fun ls hl => ?_)
        refine lv_goto (tgt := 4) hx hb dX12_unlikeTold_47 (by decide) ?_
        have G := G.sub (bs' := [[zO11 mo m_all m_has i_size i_next i_where i_token i_number i_word i_wrong i_farCrossing m_read i_z0 i_crossings i_inns m_posts m_shut m_here i_steps i_done i_at i_gone m_was m_came m_seenAt m_rowWorth m_farBy m_used i_everywhere i_again0 i_d0 i_never i_firstCame i_longRun i_moved i_crowd i_l0 i_fitMany i_fitLeast i_fitMost m_fitPost m_fitEnd m_keptPosts i_x0], [zAr T 0 m_all 3952 f_all], [zAr T 0 m_posts 7 f_posts]]) [1, 2, 0] rfl
        exact ih_4 (i + 1) (u ||| 0) (show (i + 1) ≤ 7 from by omega) (show 7 - (i + 1) < 7 - i from by omega) _ _ ls G (lv_sub hl [0, 1, 2] rfl)
      · have c_14n : ¬ (f_posts i).toInt = (zPt f_all i_z0 (nI i)).toInt := fun q => c_14 ((fa_eq _ _).mpr q)
        refine lv_iconst (v := 1) hx hb dX12_unlikeTold_35 (by decide) ?_
        refine lv_iload_n hx hb dX12_unlikeTold_36 rfl (lv_at hl 0 rfl) ?_
        refine lv_ishl hx hb dX12_unlikeTold_37 ?_
        refine lv_goto (tgt := 42) hx hb dX12_unlikeTold_38 (by decide) ?_
        refine lv_ior hx hb dX12_unlikeTold_42 ?_
        refine lv_istore_n (lv' := [(1, .int (u ||| (1 <<< ((nI i) &&& 31)))), (2, .int (nI i)), (0, .ref mo)]) hx hb dX12_unlikeTold_43 rfl hl (by decide) (zLvf_h rfl) (fun ls hl => ?_)
        refine lv_iinc (v := nI (i + 1)) (lv' := [(2, .int (nI (i + 1))), (1, .int (u ||| (1 <<< ((nI i) &&& 31)))), (0, .ref mo)]) hx hb dX12_unlikeTold_44 hl (k := 1) rfl (z_inc i 1) (by decide) (zLvf_h rfl) (fun ls hl => ?_)
        refine lv_goto (tgt := 4) hx hb dX12_unlikeTold_47 (by decide) ?_
        have G := G.sub (bs' := [[zO11 mo m_all m_has i_size i_next i_where i_token i_number i_word i_wrong i_farCrossing m_read i_z0 i_crossings i_inns m_posts m_shut m_here i_steps i_done i_at i_gone m_was m_came m_seenAt m_rowWorth m_farBy m_used i_everywhere i_again0 i_d0 i_never i_firstCame i_longRun i_moved i_crowd i_l0 i_fitMany i_fitLeast i_fitMost m_fitPost m_fitEnd m_keptPosts i_x0], [zAr T 0 m_all 3952 f_all], [zAr T 0 m_posts 7 f_posts]]) [1, 2, 0] rfl
        exact ih_4 (i + 1) (u ||| (1 <<< ((nI i) &&& 31))) (show (i + 1) ≤ 7 from by omega) (show 7 - (i + 1) < 7 - i from by omega) _ _ ls G (lv_sub hl [0, 1, 2] rfl)
    · have h_7 : (zInn i_inns (nI i) ∨ (zRd f_all i_z0 (nI i)).toInt ≤ 0) := h_7
      refine lv_if_eq (tgt := 41) hx hb dX12_unlikeTold_18 (by decide) (fun _ => ?_) (fun q => absurd (by decide) q)
      refine lv_iconst (v := 0) hx hb dX12_unlikeTold_41 (by decide) ?_
      refine lv_ior hx hb dX12_unlikeTold_42 ?_
      refine lv_istore_n (lv' := [(1, .int (u ||| 0)), (2, .int (nI i)), (0, .ref mo)]) hx hb dX12_unlikeTold_43 rfl hl (by decide) (zLvf_h rfl) (fun ls hl => ?_)
      refine lv_iinc (v := nI (i + 1)) (lv' := [(2, .int (nI (i + 1))), (1, .int (u ||| 0)), (0, .ref mo)]) hx hb dX12_unlikeTold_44 hl (k := 1) rfl (z_inc i 1) (by decide) (zLvf_h rfl) (fun ls hl => ?_)
      refine lv_goto (tgt := 4) hx hb dX12_unlikeTold_47 (by decide) ?_
      have G := G.sub (bs' := [[zO11 mo m_all m_has i_size i_next i_where i_token i_number i_word i_wrong i_farCrossing m_read i_z0 i_crossings i_inns m_posts m_shut m_here i_steps i_done i_at i_gone m_was m_came m_seenAt m_rowWorth m_farBy m_used i_everywhere i_again0 i_d0 i_never i_firstCame i_longRun i_moved i_crowd i_l0 i_fitMany i_fitLeast i_fitMost m_fitPost m_fitEnd m_keptPosts i_x0], [zAr T 0 m_all 3952 f_all], [zAr T 0 m_posts 7 f_posts]]) [1, 2, 0] rfl
      exact ih_4 (i + 1) (u ||| 0) (show (i + 1) ≤ 7 from by omega) (show 7 - (i + 1) < 7 - i from by omega) _ _ ls G (lv_sub hl [0, 1, 2] rfl)
set_option maxHeartbeats 4000000 in
set_option maxRecDepth 100000 in
/-- c_m_bitsOf -/
theorem c_m_bitsOf (l : Launch) (T : zTy) (s_ : Int32) : zMi l T yX12_bitsOf cX12_bitsOf 3 (some .int) 1 0 0 [.int s_] [] (fun (r : Int32) bs => bs = []) := by
  refine zMi_of (own := RX12) (by decide) rfl (Nat.le_of_ble_eq_true rfl) ?_
  intro p e s m args below meth c A ls C hr hlocks hnm hAe G hl
  refine zHide (fun Qz_ hQz_ => ?_)
  have hx := C.1
  have hb := C.2.1
  have hl : lv_has ls 3 [(0, .int s_)] := hl
  refine lv_iconst (v := 0) hx hb dX12_bitsOf_0 (by decide) ?_
  refine lv_istore_n (lv' := [(1, .int 0), (0, .int s_)]) hx hb dX12_bitsOf_1 rfl hl (by decide) (zLvf_h rfl) (fun ls hl => ?_)
  refine lv_iconst (v := 0) hx hb dX12_bitsOf_2 (by decide) ?_
  refine lv_istore_n (lv' := [(2, .int 0), (1, .int 0), (0, .int s_)]) hx hb dX12_bitsOf_3 rfl hl (by decide) (zLvf_h rfl) (fun ls hl => ?_)
  refine z_lp2 (T := T) 4 (fun (i : Nat) (u : Int32) => []) (fun (i : Nat) (u : Int32) => [(2, .int (nI i)), (1, .int u), (0, .int s_)]) (fun (i : Nat) (u : Int32) => i ≤ 12) (fun (i : Nat) (u : Int32) => 12 - i) ?_ 0 0 (show 0 ≤ 12 from by omega) G (lv_sub hl [0, 1, 2] rfl)
  intro i u hi ih_4 H locs ls G hl
  replace hi : i ≤ 12 := hi
  replace G : zS T A s.heap s [] _ _ := G
  replace hl : lv_has ls 3 [(2, .int (nI i)), (1, .int u), (0, .int s_)] := hl
  refine lv_iload_n hx hb dX12_bitsOf_4 rfl (lv_at hl 0 rfl) ?_
  refine lv_bipush (v := 12) hx hb dX12_bitsOf_5 (by decide) ?_
  refine lv_icmp_ge (tgt := 24) hx hb dX12_bitsOf_7 (by decide) (fun c_1 => ?_) (fun c_1 => ?_)
  · have c_1n : 12 ≤ i := (nI_leI (a := 12) (b := i) (by omega) (by omega)).mp c_1
    refine lv_iload_n hx hb dX12_bitsOf_24 rfl (lv_at hl 1 rfl) ?_
    exact z_back hQz_ (z_iret C hr hlocks G (Nat.le_of_ble_eq_true rfl) (Nat.le_of_ble_eq_true rfl) dX12_bitsOf_25 rfl)
  · have c_1n : ¬ 12 ≤ i := fun q => c_1 ((nI_leI (a := 12) (b := i) (by omega) (by omega)).mpr q)
    refine lv_iload_n hx hb dX12_bitsOf_10 rfl (lv_at hl 1 rfl) ?_
    refine lv_iload_n hx hb dX12_bitsOf_11 rfl (lv_at hl 2 rfl) ?_
    refine lv_iload_n hx hb dX12_bitsOf_12 rfl (lv_at hl 0 rfl) ?_
    refine lv_ishr hx hb dX12_bitsOf_13 ?_
    refine lv_iconst (v := 1) hx hb dX12_bitsOf_14 (by decide) ?_
    refine lv_iand hx hb dX12_bitsOf_15 ?_
    refine lv_iadd hx hb dX12_bitsOf_16 ?_
    refine lv_istore_n (lv' := [(1, .int (u + ((s_ >>> ((nI i) &&& 31)) &&& 1))), (2, .int (nI i)), (0, .int s_)]) hx hb dX12_bitsOf_17 rfl hl (by decide) (zLvf_h rfl) (fun ls hl => ?_)
    refine lv_iinc (v := nI (i + 1)) (lv' := [(2, .int (nI (i + 1))), (1, .int (u + ((s_ >>> ((nI i) &&& 31)) &&& 1))), (0, .int s_)]) hx hb dX12_bitsOf_18 hl (k := 1) rfl (z_inc i 1) (by decide) (zLvf_h rfl) (fun ls hl => ?_)
    refine lv_goto (tgt := 4) hx hb dX12_bitsOf_21 (by decide) ?_
    exact ih_4 (i + 1) (u + ((s_ >>> ((nI i) &&& 31)) &&& 1)) (show (i + 1) ≤ 12 from by omega) (show 12 - (i + 1) < 12 - i from by omega) _ _ ls G (lv_sub hl [0, 1, 2] rfl)
set_option maxHeartbeats 4000000 in
set_option maxRecDepth 100000 in
/-- c_m_numberOf -/
theorem c_m_numberOf (l : Launch) (T : zTy) (mo : Nat) (m_all : Nat) (m_has : Nat) (i_size : Int32) (i_next : Int32) (i_where : Int32) (i_token : Int32) (i_number : Int32) (i_word : Int32) (i_wrong : Int32) (i_farCrossing : Int32) (m_read : Nat) (i_z0 : Int32) (i_crossings : Int32) (i_inns : Int32) (m_posts : Nat) (m_shut : Nat) (m_here : Nat) (i_steps : Int32) (i_done : Int32) (i_at : Int32) (i_gone : Int32) (m_was : Nat) (m_came : Nat) (m_seenAt : Nat) (m_rowWorth : Nat) (m_farBy : Nat) (m_used : Nat) (i_everywhere : Int32) (i_again0 : Int32) (i_d0 : Int32) (i_never : Int32) (i_firstCame : Int32) (i_longRun : Int32) (i_moved : Int32) (i_crowd : Int32) (i_l0 : Int32) (i_fitMany : Int32) (i_fitLeast : Int32) (i_fitMost : Int32) (m_fitPost : Nat) (m_fitEnd : Nat) (m_keptPosts : Nat) (i_x0 : Int32) (f_all : Nat → Int32) (f_posts : Nat → Int32) (w_ : Int32) (hL : zML f_all i_z0 i_crossings) (hP : zMP f_posts) (hw0 : 0 ≤ w_.toInt) : zMi l T yX12_numberOf cX12_numberOf 4 (some .int) 4 0 0 [.ref mo, .int w_] [[zO11 mo m_all m_has i_size i_next i_where i_token i_number i_word i_wrong i_farCrossing m_read i_z0 i_crossings i_inns m_posts m_shut m_here i_steps i_done i_at i_gone m_was m_came m_seenAt m_rowWorth m_farBy m_used i_everywhere i_again0 i_d0 i_never i_firstCame i_longRun i_moved i_crowd i_l0 i_fitMany i_fitLeast i_fitMost m_fitPost m_fitEnd m_keptPosts i_x0], [zAr T 0 m_all 3952 f_all], [zAr T 0 m_posts 7 f_posts]] (fun (r : Int32) bs => ∃ (g_posts : Nat → Int32), bs = [[zO11 mo m_all m_has i_size i_next i_where i_token i_number i_word i_wrong i_farCrossing m_read i_z0 i_crossings i_inns m_posts m_shut m_here i_steps i_done i_at i_gone m_was m_came m_seenAt m_rowWorth m_farBy m_used i_everywhere i_again0 i_d0 i_never i_firstCame i_longRun i_moved i_crowd i_l0 i_fitMany i_fitLeast i_fitMost m_fitPost m_fitEnd m_keptPosts i_x0], [zAr T 0 m_all 3952 f_all], [zAr T 0 m_posts 7 g_posts]] ∧ zMP g_posts) := by
  refine zMi_of (own := RX12) (by decide) rfl (Nat.le_of_ble_eq_true rfl) ?_
  intro p e s m args below meth c A ls C hr hlocks hnm hAe G hl
  refine zHide (fun Qz_ hQz_ => ?_)
  have hx := C.1
  have hb := C.2.1
  have hl : lv_has ls 4 [(0, .ref mo), (1, .int w_)] := hl
  have hz := hL.1
  have hcr := hL.cr
  refine lv_aload_n hx hb dX12_numberOf_0 rfl (lv_at hl 0 rfl) ?_
  refine lv_iload_n hx hb dX12_numberOf_1 rfl (lv_at hl 1 rfl) ?_
  refine z_Vv (bc := [[zO11 mo m_all m_has i_size i_next i_where i_token i_number i_word i_wrong i_farCrossing m_read i_z0 i_crossings i_inns m_posts m_shut m_here i_steps i_done i_at i_gone m_was m_came m_seenAt m_rowWorth m_farBy m_used i_everywhere i_again0 i_d0 i_never i_firstCame i_longRun i_moved i_crowd i_l0 i_fitMany i_fitLeast i_fitMost m_fitPost m_fitEnd m_keptPosts i_x0], [zAr T 0 m_all 3952 f_all], [zAr T 0 m_posts 7 f_posts]]) (br := []) (As := [.int w_]) (rest := []) C G (c_m_setsWay l T mo m_all m_has i_size i_next i_where i_token i_number i_word i_wrong i_farCrossing m_read i_z0 i_crossings i_inns m_posts m_shut m_here i_steps i_done i_at i_gone m_was m_came m_seenAt m_rowWorth m_farBy m_used i_everywhere i_again0 i_d0 i_never i_firstCame i_longRun i_moved i_crowd i_l0 i_fitMany i_fitLeast i_fitMost m_fitPost m_fitEnd m_keptPosts i_x0 f_all f_posts w_ (by first | with_reducible assumption | with_reducible rfl | omega | assumption | rfl | decide) (by first | with_reducible assumption | with_reducible rfl | omega | assumption | rfl | decide) (by first | with_reducible assumption | with_reducible rfl | omega | assumption | rfl | decide)) (kV_RX12_226 C.2.2.2.2 (Nat.le_of_ble_eq_true rfl) (Nat.le_of_ble_eq_true rfl)) [0, 1, 2] [0, 0, 0] rfl rfl (ci := 11) (qc := (RX12, TX12, 43)) rfl rfl (List.mem_flatten.mpr ⟨_, List.mem_of_getElem? (i := 0) rfl, List.mem_cons_self⟩) rfl rfl hl.1 dX12_numberOf_2 (Nat.le_of_ble_eq_true rfl) (Nat.le_of_ble_eq_true rfl) (fun b1 H locs hw G => ?_)
  refine zEx1 hw ?_
  intro g_posts_1
  refine zCu2 ?_
  intro hbs9 h_2
  clear hw
  subst hbs9
  have G : zS T A s.heap s [[zO11 mo m_all m_has i_size i_next i_where i_token i_number i_word i_wrong i_farCrossing m_read i_z0 i_crossings i_inns m_posts m_shut m_here i_steps i_done i_at i_gone m_was m_came m_seenAt m_rowWorth m_farBy m_used i_everywhere i_again0 i_d0 i_never i_firstCame i_longRun i_moved i_crowd i_l0 i_fitMany i_fitLeast i_fitMost m_fitPost m_fitEnd m_keptPosts i_x0], [zAr T 0 m_all 3952 f_all], [zAr T 0 m_posts 7 g_posts_1]] _ _ := G
  refine lv_iconst (v := 1) hx hb dX12_numberOf_5 (by decide) ?_
  refine lv_istore_n (lv' := [(2, .int 1), (0, .ref mo), (1, .int w_)]) hx hb dX12_numberOf_6 rfl hl (by decide) (zLvf_h rfl) (fun ls hl => ?_)
  refine lv_iconst (v := 0) hx hb dX12_numberOf_7 (by decide) ?_
  refine lv_istore_n (lv' := [(3, .int 0), (2, .int 1), (0, .ref mo), (1, .int w_)]) hx hb dX12_numberOf_8 rfl hl (by decide) (zLvf_h rfl) (fun ls hl => ?_)
  refine z_lp2 (T := T) 9 (fun (i : Nat) (u : Int32) => [[zO11 mo m_all m_has i_size i_next i_where i_token i_number i_word i_wrong i_farCrossing m_read i_z0 i_crossings i_inns m_posts m_shut m_here i_steps i_done i_at i_gone m_was m_came m_seenAt m_rowWorth m_farBy m_used i_everywhere i_again0 i_d0 i_never i_firstCame i_longRun i_moved i_crowd i_l0 i_fitMany i_fitLeast i_fitMost m_fitPost m_fitEnd m_keptPosts i_x0], [zAr T 0 m_all 3952 f_all], [zAr T 0 m_posts 7 g_posts_1]]) (fun (i : Nat) (u : Int32) => [(3, .int (nI i)), (2, .int u), (0, .ref mo), (1, .int w_)]) (fun (i : Nat) (u : Int32) => i ≤ 7) (fun (i : Nat) (u : Int32) => 7 - i) ?_ 0 1 (show 0 ≤ 7 from by omega) G (lv_sub hl [0, 1, 2, 3] rfl)
  intro i u hi ih_9 H locs ls G hl
  replace hi : i ≤ 7 := hi
  replace G : zS T A s.heap s [[zO11 mo m_all m_has i_size i_next i_where i_token i_number i_word i_wrong i_farCrossing m_read i_z0 i_crossings i_inns m_posts m_shut m_here i_steps i_done i_at i_gone m_was m_came m_seenAt m_rowWorth m_farBy m_used i_everywhere i_again0 i_d0 i_never i_firstCame i_longRun i_moved i_crowd i_l0 i_fitMany i_fitLeast i_fitMost m_fitPost m_fitEnd m_keptPosts i_x0], [zAr T 0 m_all 3952 f_all], [zAr T 0 m_posts 7 g_posts_1]] _ _ := G
  replace hl : lv_has ls 4 [(3, .int (nI i)), (2, .int u), (0, .ref mo), (1, .int w_)] := hl
  refine lv_iload_n hx hb dX12_numberOf_9 rfl (lv_at hl 0 rfl) ?_
  refine lv_aload_n hx hb dX12_numberOf_10 rfl (lv_at hl 2 rfl) ?_
  refine z_get C G clX12 0 rfl 12 (by decide) m_fl_RX12_169 rfl dX12_numberOf_11 ?_
  refine lv_icmp_ge (tgt := 35) hx hb dX12_numberOf_14 (by decide) (fun c_4 => ?_) (fun c_4 => ?_)
  · have c_4n : i_crossings.toInt ≤ (i : Int) := by have q := (fa_le _ _).mp c_4; rw [nI_toInt (n := i) (by omega)] at q; exact q
    refine lv_iload_n hx hb dX12_numberOf_35 rfl (lv_at hl 1 rfl) ?_
    exact z_back hQz_ (z_iret C hr hlocks G (Nat.le_of_ble_eq_true rfl) (Nat.le_of_ble_eq_true rfl) dX12_numberOf_36 ⟨g_posts_1, rfl, (by first | with_reducible assumption | omega | trivial | assumption)⟩)
  · have c_4n : ¬ i_crossings.toInt ≤ (i : Int) := fun q => c_4 ((fa_le _ _).mpr (by rw [nI_toInt (n := i) (by omega)]; exact q))
    refine lv_bipush (v := 10) hx hb dX12_numberOf_17 (by decide) ?_
    refine lv_iload_n hx hb dX12_numberOf_19 rfl (lv_at hl 1 rfl) ?_
    refine lv_imul hx hb dX12_numberOf_20 ?_
    refine lv_aload_n hx hb dX12_numberOf_21 rfl (lv_at hl 2 rfl) ?_
    refine z_get C G clX12 0 rfl 14 (by decide) m_fl_RX12_20 rfl dX12_numberOf_22 ?_
    refine lv_iload_n hx hb dX12_numberOf_25 rfl (lv_at hl 0 rfl) ?_
    refine z_ild C G 2 rfl (vp_in_nI (by omega) (by decide)) dX12_numberOf_26 ?_
    refine lv_topi (fun v_5 ev_5 => ?_)
    rw [nI_clamp (by omega)] at ev_5
    subst ev_5
    refine lv_iadd hx hb dX12_numberOf_27 ?_
    refine lv_istore_n (lv' := [(2, .int ((10 * u) + (g_posts_1 i))), (3, .int (nI i)), (0, .ref mo), (1, .int w_)]) hx hb dX12_numberOf_28 rfl hl (by decide) (zLvf_h rfl) (fun ls hl => ?_)
    refine lv_iinc (v := nI (i + 1)) (lv' := [(3, .int (nI (i + 1))), (2, .int ((10 * u) + (g_posts_1 i))), (0, .ref mo), (1, .int w_)]) hx hb dX12_numberOf_29 hl (k := 1) rfl (z_inc i 1) (by decide) (zLvf_h rfl) (fun ls hl => ?_)
    refine lv_goto (tgt := 9) hx hb dX12_numberOf_32 (by decide) ?_
    exact ih_9 (i + 1) ((10 * u) + (g_posts_1 i)) (show (i + 1) ≤ 7 from by omega) (show 7 - (i + 1) < 7 - i from by omega) _ _ ls G (lv_sub hl [0, 1, 2, 3] rfl)
set_option maxHeartbeats 4000000 in
set_option maxRecDepth 100000 in
/-- c_m_common -/
theorem c_m_common (l : Launch) (T : zTy) (a_ : Int32) (b_ : Int32) (hb0 : ¬ b_.toInt = 0) : zMi l T yX12_common cX12_common 5 (some .int) 1 0 0 [.int a_, .int b_] [] (fun (r : Int32) bs => bs = [] ∧ ¬ r.toInt = 0) := by
  refine zMi_of (own := RX12) (by decide) rfl (Nat.le_of_ble_eq_true rfl) ?_
  intro p e s m args below meth c A ls C hr hlocks hnm hAe G hl
  refine zHide (fun Qz_ hQz_ => ?_)
  have hx := C.1
  have hb := C.2.1
  have hl : lv_has ls 5 [(0, .int a_), (1, .int b_)] := hl
  refine lv_iload_n hx hb dX12_common_0 rfl (lv_at hl 0 rfl) ?_
  refine lv_istore_n (lv' := [(2, .int a_), (0, .int a_), (1, .int b_)]) hx hb dX12_common_1 rfl hl (by decide) (zLvf_h rfl) (fun ls hl => ?_)
  refine lv_iload_n hx hb dX12_common_2 rfl (lv_at hl 2 rfl) ?_
  refine lv_istore_n (lv' := [(3, .int b_), (2, .int a_), (0, .int a_), (1, .int b_)]) hx hb dX12_common_3 rfl hl (by decide) (zLvf_h rfl) (fun ls hl => ?_)
  refine z_lp2 (T := T) 4 (fun (x : Int32) (y : Int32) => []) (fun (x : Int32) (y : Int32) => [(3, .int y), (2, .int x), (0, .int a_), (1, .int b_)]) (fun (x : Int32) (y : Int32) => (¬ x.toInt = 0 ∨ ¬ y.toInt = 0)) (fun (x : Int32) (y : Int32) => y.toInt.natAbs) ?_ a_ b_ (show (¬ a_.toInt = 0 ∨ ¬ b_.toInt = 0) from by omega) G (lv_sub hl [0, 1, 2, 3] rfl)
  intro x y hxy ih_4 H locs ls G hl
  replace hxy : (¬ x.toInt = 0 ∨ ¬ y.toInt = 0) := hxy
  replace G : zS T A s.heap s [] _ _ := G
  replace hl : lv_has ls 5 [(3, .int y), (2, .int x), (0, .int a_), (1, .int b_)] := hl
  refine lv_iload_n hx hb dX12_common_4 rfl (lv_at hl 0 rfl) ?_
  refine lv_if_eq (tgt := 21) hx hb dX12_common_5 (by decide) (fun c_1 => ?_) (fun c_1 => ?_)
  · have c_1n : y.toInt = (0 : Int) := (fa_eq _ _).mp c_1
    refine lv_iload_n hx hb dX12_common_21 rfl (lv_at hl 1 rfl) ?_
    exact z_back hQz_ (z_iret C hr hlocks G (Nat.le_of_ble_eq_true rfl) (Nat.le_of_ble_eq_true rfl) dX12_common_22 ⟨rfl, (by first | with_reducible assumption | omega | trivial | assumption)⟩)
  · have c_1n : ¬ y.toInt = (0 : Int) := fun q => c_1 ((fa_eq _ _).mpr q)
    refine lv_iload_n hx hb dX12_common_8 rfl (lv_at hl 1 rfl) ?_
    refine lv_iload_n hx hb dX12_common_9 rfl (lv_at hl 0 rfl) ?_
    refine lv_irem hx hb dX12_common_10 (fun q => absurd (congrArg Int32.toInt q) (by show ¬ _ = (0 : Int); omega)) ?_
    refine lv_istore (lv' := [(4, .int (x - x / y * y)), (3, .int y), (2, .int x), (0, .int a_), (1, .int b_)]) hx hb dX12_common_11 hl (by decide) (zLvf_h rfl) (fun ls hl => ?_)
    refine lv_iload_n hx hb dX12_common_13 rfl (lv_at hl 1 rfl) ?_
    refine lv_istore_n (lv' := [(2, .int y), (4, .int (x - x / y * y)), (3, .int y), (0, .int a_), (1, .int b_)]) hx hb dX12_common_14 rfl hl (by decide) (zLvf_h rfl) (fun ls hl => ?_)
    refine lv_iload hx hb dX12_common_15 (lv_at hl 1 rfl) ?_
    refine lv_istore_n (lv' := [(3, .int (x - x / y * y)), (2, .int y), (4, .int (x - x / y * y)), (0, .int a_), (1, .int b_)]) hx hb dX12_common_17 rfl hl (by decide) (zLvf_h rfl) (fun ls hl => ?_)
    refine lv_goto (tgt := 4) hx hb dX12_common_18 (by decide) ?_
    exact ih_4 y (x - x / y * y) (show (¬ y.toInt = 0 ∨ ¬ (x - x / y * y).toInt = 0) from by omega) (show (x - x / y * y).toInt.natAbs < y.toInt.natAbs from zRemA (by omega)) _ _ ls G (lv_sub hl [0, 1, 3, 4] rfl)
set_option maxHeartbeats 4000000 in
set_option maxRecDepth 100000 in
/-- c_m_parted -/
theorem c_m_parted (l : Launch) (T : zTy) (a_ : Int32) (b_ : Int32) (n_ : Int32) (hb0 : ¬ b_.toInt = 0) : zMi l T yX12_parted cX12_parted 3 (some .int) 2 0 0 [.int a_, .int b_, .int n_] [] (fun (r : Int32) bs => bs = []) := by
  refine zMi_of (own := RX12) (by decide) rfl (Nat.le_of_ble_eq_true rfl) ?_
  intro p e s m args below meth c A ls C hr hlocks hnm hAe G hl
  refine zHide (fun Qz_ hQz_ => ?_)
  have hx := C.1
  have hb := C.2.1
  have hl : lv_has ls 3 [(0, .int a_), (1, .int b_), (2, .int n_)] := hl
  refine lv_iload_n hx hb dX12_parted_0 rfl (lv_at hl 2 rfl) ?_
  refine lv_if_eq (tgt := 8) hx hb dX12_parted_1 (by decide) (fun c_1 => ?_) (fun c_1 => ?_)
  · have c_1n : n_.toInt = (0 : Int) := (fa_eq _ _).mp c_1
    refine lv_iload_n hx hb dX12_parted_8 rfl (lv_at hl 0 rfl) ?_
    refine lv_iload_n hx hb dX12_parted_9 rfl (lv_at hl 0 rfl) ?_
    refine lv_iload_n hx hb dX12_parted_10 rfl (lv_at hl 1 rfl) ?_
    refine z_Si (bc := []) (br := []) (As := [.int a_, .int b_]) (rest := [.int a_]) C G (c_m_common l T a_ b_ (by first | with_reducible assumption | with_reducible rfl | omega | assumption | rfl | decide)) (kS_RX12_241 C.2.2.2.2 (Nat.le_of_ble_eq_true rfl) (Nat.le_of_ble_eq_true rfl)) [] [] rfl rfl rfl rfl hl.1 dX12_parted_11 (Nat.le_of_ble_eq_true rfl) (Nat.le_of_ble_eq_true rfl) (fun r_3 b1 H locs hw G => ?_)
    refine zAn2 hw ?_
    intro hbs9 h_2
    clear hw
    subst hbs9
    have G : zS T A s.heap s [] _ _ := G
    refine lv_idiv hx hb dX12_parted_14 (fun q => absurd (congrArg Int32.toInt q) (by show ¬ _ = (0 : Int); omega)) ?_
    exact z_back hQz_ (z_iret C hr hlocks G (Nat.le_of_ble_eq_true rfl) (Nat.le_of_ble_eq_true rfl) dX12_parted_15 rfl)
  · have c_1n : ¬ n_.toInt = (0 : Int) := fun q => c_1 ((fa_eq _ _).mpr q)
    refine lv_iload_n hx hb dX12_parted_4 rfl (lv_at hl 1 rfl) ?_
    refine lv_goto (tgt := 9) hx hb dX12_parted_5 (by decide) ?_
    refine lv_iload_n hx hb dX12_parted_9 rfl (lv_at hl 0 rfl) ?_
    refine lv_iload_n hx hb dX12_parted_10 rfl (lv_at hl 1 rfl) ?_
    refine z_Si (bc := []) (br := []) (As := [.int a_, .int b_]) (rest := [.int b_]) C G (c_m_common l T a_ b_ (by first | with_reducible assumption | with_reducible rfl | omega | assumption | rfl | decide)) (kS_RX12_241 C.2.2.2.2 (Nat.le_of_ble_eq_true rfl) (Nat.le_of_ble_eq_true rfl)) [] [] rfl rfl rfl rfl hl.1 dX12_parted_11 (Nat.le_of_ble_eq_true rfl) (Nat.le_of_ble_eq_true rfl) (fun r_5 b1 H locs hw G => ?_)
    refine zAn2 hw ?_
    intro hbs9 h_4
    clear hw
    subst hbs9
    have G : zS T A s.heap s [] _ _ := G
    refine lv_idiv hx hb dX12_parted_14 (fun q => absurd (congrArg Int32.toInt q) (by show ¬ _ = (0 : Int); omega)) ?_
    exact z_back hQz_ (z_iret C hr hlocks G (Nat.le_of_ble_eq_true rfl) (Nat.le_of_ble_eq_true rfl) dX12_parted_15 rfl)
set_option maxHeartbeats 4000000 in
set_option maxRecDepth 100000 in
/-- c_m_lot -/
theorem c_m_lot (l : Launch) (T : zTy) (mo : Nat) (m_all : Nat) (m_has : Nat) (i_size : Int32) (i_next : Int32) (i_where : Int32) (i_token : Int32) (i_number : Int32) (i_word : Int32) (i_wrong : Int32) (i_farCrossing : Int32) (m_read : Nat) (i_z0 : Int32) (i_crossings : Int32) (i_inns : Int32) (m_posts : Nat) (m_shut : Nat) (m_here : Nat) (i_steps : Int32) (i_done : Int32) (i_at : Int32) (i_gone : Int32) (m_was : Nat) (m_came : Nat) (m_seenAt : Nat) (m_rowWorth : Nat) (m_farBy : Nat) (m_used : Nat) (i_everywhere : Int32) (i_again0 : Int32) (i_d0 : Int32) (i_never : Int32) (i_firstCame : Int32) (i_longRun : Int32) (i_moved : Int32) (i_crowd : Int32) (i_l0 : Int32) (i_fitMany : Int32) (i_fitLeast : Int32) (i_fitMost : Int32) (m_fitPost : Nat) (m_fitEnd : Nat) (m_keptPosts : Nat) (i_x0 : Int32) (f_all : Nat → Int32) (f_posts : Nat → Int32) (f_shut : Nat → Int32) (f_here : Nat → Int32) (f_was : Nat → Int32) (l_ : Int32) (c_ : Int32) (n_ : Int32) (u_ : Int32) (hB : zBI f_all) : zMi l T yX12_lot cX12_lot 8 (some .int) 6 0 0 [.ref mo, .int l_, .int c_, .int n_, .int u_] [[zO11 mo m_all m_has i_size i_next i_where i_token i_number i_word i_wrong i_farCrossing m_read i_z0 i_crossings i_inns m_posts m_shut m_here i_steps i_done i_at i_gone m_was m_came m_seenAt m_rowWorth m_farBy m_used i_everywhere i_again0 i_d0 i_never i_firstCame i_longRun i_moved i_crowd i_l0 i_fitMany i_fitLeast i_fitMost m_fitPost m_fitEnd m_keptPosts i_x0], [zAr T 0 m_all 3952 f_all], [zAr T 0 m_posts 7 f_posts], [zAr T 0 m_shut 7 f_shut], [zAr T 0 m_here 7 f_here], [zAr T 0 m_was 7 f_was]] (fun (r : Int32) bs => ∃ (j_z0 : Int32) (j_crossings : Int32) (j_inns : Int32) (j_steps : Int32) (j_done : Int32) (j_at : Int32) (j_gone : Int32) (g_posts : Nat → Int32) (g_shut : Nat → Int32) (g_here : Nat → Int32) (g_was : Nat → Int32), bs = [[zO11 mo m_all m_has i_size i_next i_where i_token i_number i_word i_wrong i_farCrossing m_read j_z0 j_crossings j_inns m_posts m_shut m_here j_steps j_done j_at j_gone m_was m_came m_seenAt m_rowWorth m_farBy m_used i_everywhere i_again0 i_d0 i_never i_firstCame i_longRun i_moved i_crowd i_l0 i_fitMany i_fitLeast i_fitMost m_fitPost m_fitEnd m_keptPosts i_x0], [zAr T 0 m_all 3952 f_all], [zAr T 0 m_posts 7 g_posts], [zAr T 0 m_shut 7 g_shut], [zAr T 0 m_here 7 g_here], [zAr T 0 m_was 7 g_was]]) := by
  refine zMi_of (own := RX12) (by decide) rfl (Nat.le_of_ble_eq_true rfl) ?_
  intro p e s m args below meth c A ls C hr hlocks hnm hAe G hl
  refine zHide (fun Qz_ hQz_ => ?_)
  have hx := C.1
  have hb := C.2.1
  have hl : lv_has ls 8 [(0, .ref mo), (1, .int l_), (2, .int c_), (3, .int n_), (4, .int u_)] := hl
  refine lv_aload_n hx hb dX12_lot_0 rfl (lv_at hl 0 rfl) ?_
  refine lv_iload_n hx hb dX12_lot_1 rfl (lv_at hl 1 rfl) ?_
  refine z_Vi (bc := [[zO11 mo m_all m_has i_size i_next i_where i_token i_number i_word i_wrong i_farCrossing m_read i_z0 i_crossings i_inns m_posts m_shut m_here i_steps i_done i_at i_gone m_was m_came m_seenAt m_rowWorth m_farBy m_used i_everywhere i_again0 i_d0 i_never i_firstCame i_longRun i_moved i_crowd i_l0 i_fitMany i_fitLeast i_fitMost m_fitPost m_fitEnd m_keptPosts i_x0], [zAr T 0 m_all 3952 f_all], [zAr T 0 m_posts 7 f_posts], [zAr T 0 m_shut 7 f_shut], [zAr T 0 m_here 7 f_here]]) (br := [[zAr T 0 m_was 7 f_was]]) (As := [.int l_]) (rest := []) C G (c_m_isLand l T mo m_all m_has i_size i_next i_where i_token i_number i_word i_wrong i_farCrossing m_read i_z0 i_crossings i_inns m_posts m_shut m_here i_steps i_done i_at i_gone m_was m_came m_seenAt m_rowWorth m_farBy m_used i_everywhere i_again0 i_d0 i_never i_firstCame i_longRun i_moved i_crowd i_l0 i_fitMany i_fitLeast i_fitMost m_fitPost m_fitEnd m_keptPosts i_x0 f_all f_posts f_shut f_here l_ (by first | with_reducible assumption | with_reducible rfl | omega | assumption | rfl | decide)) (kV_RX12_184 C.2.2.2.2 (Nat.le_of_ble_eq_true rfl) (Nat.le_of_ble_eq_true rfl)) [0, 1, 2, 3, 4] [0, 0, 0, 0, 0] rfl rfl (ci := 11) (qc := (RX12, TX12, 43)) rfl rfl (List.mem_flatten.mpr ⟨_, List.mem_of_getElem? (i := 0) rfl, List.mem_cons_self⟩) rfl rfl hl.1 dX12_lot_2 (Nat.le_of_ble_eq_true rfl) (Nat.le_of_ble_eq_true rfl) (fun r_10 b1 H locs hw G => ?_)
  refine zEx8 hw ?_
  intro j_z0_1 j_crossings_2 j_inns_3 j_steps_4 j_done_5 g_posts_6 g_shut_7 g_here_8
  refine zCu2 ?_
  intro hbs9 hc_9
  clear hw
  subst hbs9
  have G : zS T A s.heap s [[zAr T 0 m_was 7 f_was], [zO11 mo m_all m_has i_size i_next i_where i_token i_number i_word i_wrong i_farCrossing m_read j_z0_1 j_crossings_2 j_inns_3 m_posts m_shut m_here j_steps_4 j_done_5 i_at i_gone m_was m_came m_seenAt m_rowWorth m_farBy m_used i_everywhere i_again0 i_d0 i_never i_firstCame i_longRun i_moved i_crowd i_l0 i_fitMany i_fitLeast i_fitMost m_fitPost m_fitEnd m_keptPosts i_x0], [zAr T 0 m_all 3952 f_all], [zAr T 0 m_posts 7 g_posts_6], [zAr T 0 m_shut 7 g_shut_7], [zAr T 0 m_here 7 g_here_8]] _ _ := G
  rcases hc_9 with ⟨rfl, h_11, h_12, h_13, h_14, h_15, h_16, h_17, h_18, h_19, h_20, h_21, h_22⟩ | ⟨rfl, h_23⟩
  · have h_11 : 0 ≤ l_.toInt := h_11
    have h_12 : l_.toInt ≤ 1 := h_12
    have h_13 : l_.toInt < (f_all 0).toInt := h_13
    have h_14 : j_z0_1.toInt = 610 + 51 * l_.toInt := h_14
    have h_15 : zML f_all j_z0_1 j_crossings_2 := h_15
    have h_16 : zMP g_posts_6 := h_16
    have h_17 : j_inns_3 = f_all (j_z0_1.toInt.toNat + 1) := h_17
    have h_18 : j_steps_4 = 0 := h_18
    have h_19 : j_done_5 = 0 := h_19
    have h_20 : (∀ j, j < 7 → g_posts_6 j = zPt f_all j_z0_1 (nI j)) := h_20
    have h_21 : (∀ j, j < 7 → g_shut_7 j = 0) := h_21
    have h_22 : (∀ j, j < 7 → g_here_8 j = zWk f_all j_z0_1 j) := h_22
    have hLx := h_15
    have hcr := hLx.cr
    have hzx := hLx.1
    have hPx := h_16
    refine lv_if_eq (tgt := 32) hx hb dX12_lot_5 (by decide) (fun q => absurd q (by decide)) (fun _ => ?_)
    refine lv_aload_n hx hb dX12_lot_8 rfl (lv_at hl 0 rfl) ?_
    refine lv_iload_n hx hb dX12_lot_9 rfl (lv_at hl 2 rfl) ?_
    refine z_Vi (bc := [[zO11 mo m_all m_has i_size i_next i_where i_token i_number i_word i_wrong i_farCrossing m_read j_z0_1 j_crossings_2 j_inns_3 m_posts m_shut m_here j_steps_4 j_done_5 i_at i_gone m_was m_came m_seenAt m_rowWorth m_farBy m_used i_everywhere i_again0 i_d0 i_never i_firstCame i_longRun i_moved i_crowd i_l0 i_fitMany i_fitLeast i_fitMost m_fitPost m_fitEnd m_keptPosts i_x0]]) (br := [[zAr T 0 m_was 7 f_was], [zAr T 0 m_all 3952 f_all], [zAr T 0 m_posts 7 g_posts_6], [zAr T 0 m_shut 7 g_shut_7], [zAr T 0 m_here 7 g_here_8]]) (As := [.int c_]) (rest := []) C G (c_m_isCrossing l T mo m_all m_has i_size i_next i_where i_token i_number i_word i_wrong i_farCrossing m_read j_z0_1 j_crossings_2 j_inns_3 m_posts m_shut m_here j_steps_4 j_done_5 i_at i_gone m_was m_came m_seenAt m_rowWorth m_farBy m_used i_everywhere i_again0 i_d0 i_never i_firstCame i_longRun i_moved i_crowd i_l0 i_fitMany i_fitLeast i_fitMost m_fitPost m_fitEnd m_keptPosts i_x0 c_ (by first | with_reducible assumption | with_reducible rfl | omega | assumption | rfl | decide)) (kV_RX12_187 C.2.2.2.2 (Nat.le_of_ble_eq_true rfl) (Nat.le_of_ble_eq_true rfl)) [1] [1] rfl rfl (ci := 11) (qc := (RX12, TX12, 43)) rfl rfl (List.mem_flatten.mpr ⟨_, List.mem_of_getElem? (i := 0) rfl, List.mem_cons_self⟩) rfl rfl hl.1 dX12_lot_10 (Nat.le_of_ble_eq_true rfl) (Nat.le_of_ble_eq_true rfl) (fun r_25 b1 H locs hw G => ?_)
    refine zAn2 hw ?_
    intro hbs9 hc_24
    clear hw
    subst hbs9
    have G : zS T A s.heap s [[zAr T 0 m_was 7 f_was], [zAr T 0 m_all 3952 f_all], [zAr T 0 m_posts 7 g_posts_6], [zAr T 0 m_shut 7 g_shut_7], [zAr T 0 m_here 7 g_here_8], [zO11 mo m_all m_has i_size i_next i_where i_token i_number i_word i_wrong i_farCrossing m_read j_z0_1 j_crossings_2 j_inns_3 m_posts m_shut m_here j_steps_4 j_done_5 i_at i_gone m_was m_came m_seenAt m_rowWorth m_farBy m_used i_everywhere i_again0 i_d0 i_never i_firstCame i_longRun i_moved i_crowd i_l0 i_fitMany i_fitLeast i_fitMost m_fitPost m_fitEnd m_keptPosts i_x0]] _ _ := G
    rcases hc_24 with ⟨rfl, h_26, h_27⟩ | ⟨rfl, h_28⟩
    · have h_26 : 0 ≤ c_.toInt := h_26
      have h_27 : c_.toInt < j_crossings_2.toInt := h_27
      refine lv_if_eq (tgt := 32) hx hb dX12_lot_13 (by decide) (fun q => absurd q (by decide)) (fun _ => ?_)
      refine lv_aload_n hx hb dX12_lot_16 rfl (lv_at hl 0 rfl) ?_
      refine lv_iload_n hx hb dX12_lot_17 rfl (lv_at hl 3 rfl) ?_
      refine z_Vi (bc := [[zO11 mo m_all m_has i_size i_next i_where i_token i_number i_word i_wrong i_farCrossing m_read j_z0_1 j_crossings_2 j_inns_3 m_posts m_shut m_here j_steps_4 j_done_5 i_at i_gone m_was m_came m_seenAt m_rowWorth m_farBy m_used i_everywhere i_again0 i_d0 i_never i_firstCame i_longRun i_moved i_crowd i_l0 i_fitMany i_fitLeast i_fitMost m_fitPost m_fitEnd m_keptPosts i_x0]]) (br := [[zAr T 0 m_was 7 f_was], [zAr T 0 m_all 3952 f_all], [zAr T 0 m_posts 7 g_posts_6], [zAr T 0 m_shut 7 g_shut_7], [zAr T 0 m_here 7 g_here_8]]) (As := [.int n_]) (rest := []) C G (c_m_isCrossing l T mo m_all m_has i_size i_next i_where i_token i_number i_word i_wrong i_farCrossing m_read j_z0_1 j_crossings_2 j_inns_3 m_posts m_shut m_here j_steps_4 j_done_5 i_at i_gone m_was m_came m_seenAt m_rowWorth m_farBy m_used i_everywhere i_again0 i_d0 i_never i_firstCame i_longRun i_moved i_crowd i_l0 i_fitMany i_fitLeast i_fitMost m_fitPost m_fitEnd m_keptPosts i_x0 n_ (by first | with_reducible assumption | with_reducible rfl | omega | assumption | rfl | decide)) (kV_RX12_187 C.2.2.2.2 (Nat.le_of_ble_eq_true rfl) (Nat.le_of_ble_eq_true rfl)) [5] [5] rfl rfl (ci := 11) (qc := (RX12, TX12, 43)) rfl rfl (List.mem_flatten.mpr ⟨_, List.mem_of_getElem? (i := 0) rfl, List.mem_cons_self⟩) rfl rfl hl.1 dX12_lot_18 (Nat.le_of_ble_eq_true rfl) (Nat.le_of_ble_eq_true rfl) (fun r_30 b1 H locs hw G => ?_)
      refine zAn2 hw ?_
      intro hbs9 hc_29
      clear hw
      subst hbs9
      have G : zS T A s.heap s [[zAr T 0 m_was 7 f_was], [zAr T 0 m_all 3952 f_all], [zAr T 0 m_posts 7 g_posts_6], [zAr T 0 m_shut 7 g_shut_7], [zAr T 0 m_here 7 g_here_8], [zO11 mo m_all m_has i_size i_next i_where i_token i_number i_word i_wrong i_farCrossing m_read j_z0_1 j_crossings_2 j_inns_3 m_posts m_shut m_here j_steps_4 j_done_5 i_at i_gone m_was m_came m_seenAt m_rowWorth m_farBy m_used i_everywhere i_again0 i_d0 i_never i_firstCame i_longRun i_moved i_crowd i_l0 i_fitMany i_fitLeast i_fitMost m_fitPost m_fitEnd m_keptPosts i_x0]] _ _ := G
      rcases hc_29 with ⟨rfl, h_31, h_32⟩ | ⟨rfl, h_33⟩
      · have h_31 : 0 ≤ n_.toInt := h_31
        have h_32 : n_.toInt < j_crossings_2.toInt := h_32
        refine lv_if_eq (tgt := 32) hx hb dX12_lot_21 (by decide) (fun q => absurd q (by decide)) (fun _ => ?_)
        refine lv_aload_n hx hb dX12_lot_24 rfl (lv_at hl 0 rfl) ?_
        refine lv_iload_n hx hb dX12_lot_25 rfl (lv_at hl 3 rfl) ?_
        refine z_Vi (bc := [[zO11 mo m_all m_has i_size i_next i_where i_token i_number i_word i_wrong i_farCrossing m_read j_z0_1 j_crossings_2 j_inns_3 m_posts m_shut m_here j_steps_4 j_done_5 i_at i_gone m_was m_came m_seenAt m_rowWorth m_farBy m_used i_everywhere i_again0 i_d0 i_never i_firstCame i_longRun i_moved i_crowd i_l0 i_fitMany i_fitLeast i_fitMost m_fitPost m_fitEnd m_keptPosts i_x0]]) (br := [[zAr T 0 m_was 7 f_was], [zAr T 0 m_all 3952 f_all], [zAr T 0 m_posts 7 g_posts_6], [zAr T 0 m_shut 7 g_shut_7], [zAr T 0 m_here 7 g_here_8]]) (As := [.int n_]) (rest := []) C G (c_m_isInn l T mo m_all m_has i_size i_next i_where i_token i_number i_word i_wrong i_farCrossing m_read j_z0_1 j_crossings_2 j_inns_3 m_posts m_shut m_here j_steps_4 j_done_5 i_at i_gone m_was m_came m_seenAt m_rowWorth m_farBy m_used i_everywhere i_again0 i_d0 i_never i_firstCame i_longRun i_moved i_crowd i_l0 i_fitMany i_fitLeast i_fitMost m_fitPost m_fitEnd m_keptPosts i_x0 n_) (kV_RX12_178 C.2.2.2.2 (Nat.le_of_ble_eq_true rfl) (Nat.le_of_ble_eq_true rfl)) [5] [5] rfl rfl (ci := 11) (qc := (RX12, TX12, 43)) rfl rfl (List.mem_flatten.mpr ⟨_, List.mem_of_getElem? (i := 0) rfl, List.mem_cons_self⟩) rfl rfl hl.1 dX12_lot_26 (Nat.le_of_ble_eq_true rfl) (Nat.le_of_ble_eq_true rfl) (fun r_35 b1 H locs hw G => ?_)
        refine zAn2 hw ?_
        intro hbs9 hc_34
        clear hw
        subst hbs9
        have G : zS T A s.heap s [[zAr T 0 m_was 7 f_was], [zAr T 0 m_all 3952 f_all], [zAr T 0 m_posts 7 g_posts_6], [zAr T 0 m_shut 7 g_shut_7], [zAr T 0 m_here 7 g_here_8], [zO11 mo m_all m_has i_size i_next i_where i_token i_number i_word i_wrong i_farCrossing m_read j_z0_1 j_crossings_2 j_inns_3 m_posts m_shut m_here j_steps_4 j_done_5 i_at i_gone m_was m_came m_seenAt m_rowWorth m_farBy m_used i_everywhere i_again0 i_d0 i_never i_firstCame i_longRun i_moved i_crowd i_l0 i_fitMany i_fitLeast i_fitMost m_fitPost m_fitEnd m_keptPosts i_x0]] _ _ := G
        rcases hc_34 with ⟨rfl, h_36⟩ | ⟨rfl, h_37⟩
        · have h_36 : zInn j_inns_3 n_ := h_36
          refine lv_if_ne (tgt := 34) hx hb dX12_lot_29 (by decide) (fun _ => ?_) (fun q => absurd q (by decide))
          refine lv_aload_n hx hb dX12_lot_34 rfl (lv_at hl 0 rfl) ?_
          refine z_Vi (bc := [[zO11 mo m_all m_has i_size i_next i_where i_token i_number i_word i_wrong i_farCrossing m_read j_z0_1 j_crossings_2 j_inns_3 m_posts m_shut m_here j_steps_4 j_done_5 i_at i_gone m_was m_came m_seenAt m_rowWorth m_farBy m_used i_everywhere i_again0 i_d0 i_never i_firstCame i_longRun i_moved i_crowd i_l0 i_fitMany i_fitLeast i_fitMost m_fitPost m_fitEnd m_keptPosts i_x0], [zAr T 0 m_all 3952 f_all]]) (br := [[zAr T 0 m_was 7 f_was], [zAr T 0 m_posts 7 g_posts_6], [zAr T 0 m_shut 7 g_shut_7], [zAr T 0 m_here 7 g_here_8]]) (As := []) (rest := []) C G (c_m_waysMany l T mo m_all m_has i_size i_next i_where i_token i_number i_word i_wrong i_farCrossing m_read j_z0_1 j_crossings_2 j_inns_3 m_posts m_shut m_here j_steps_4 j_done_5 i_at i_gone m_was m_came m_seenAt m_rowWorth m_farBy m_used i_everywhere i_again0 i_d0 i_never i_firstCame i_longRun i_moved i_crowd i_l0 i_fitMany i_fitLeast i_fitMost m_fitPost m_fitEnd m_keptPosts i_x0 f_all (by first | with_reducible assumption | with_reducible rfl | omega | assumption | rfl | decide)) (kV_RX12_229 C.2.2.2.2 (Nat.le_of_ble_eq_true rfl) (Nat.le_of_ble_eq_true rfl)) [5, 1] [1, 3] rfl rfl (ci := 11) (qc := (RX12, TX12, 43)) rfl rfl (List.mem_flatten.mpr ⟨_, List.mem_of_getElem? (i := 0) rfl, List.mem_cons_self⟩) rfl rfl hl.1 dX12_lot_35 (Nat.le_of_ble_eq_true rfl) (Nat.le_of_ble_eq_true rfl) (fun r_40 b1 H locs hw G => ?_)
          refine zAn3 hw ?_
          intro hbs9 h_38 h_39
          clear hw
          subst hbs9
          have G : zS T A s.heap s [[zAr T 0 m_was 7 f_was], [zAr T 0 m_posts 7 g_posts_6], [zAr T 0 m_shut 7 g_shut_7], [zAr T 0 m_here 7 g_here_8], [zO11 mo m_all m_has i_size i_next i_where i_token i_number i_word i_wrong i_farCrossing m_read j_z0_1 j_crossings_2 j_inns_3 m_posts m_shut m_here j_steps_4 j_done_5 i_at i_gone m_was m_came m_seenAt m_rowWorth m_farBy m_used i_everywhere i_again0 i_d0 i_never i_firstCame i_longRun i_moved i_crowd i_l0 i_fitMany i_fitLeast i_fitMost m_fitPost m_fitEnd m_keptPosts i_x0], [zAr T 0 m_all 3952 f_all]] _ _ := G
          refine lv_istore (lv' := [(5, .int r_40), (0, .ref mo), (1, .int l_), (2, .int c_), (3, .int n_), (4, .int u_)]) hx hb dX12_lot_38 hl (by decide) (zLvf_h rfl) (fun ls hl => ?_)
          refine lv_iconst (v := 0) hx hb dX12_lot_40 (by decide) ?_
          refine lv_istore (lv' := [(6, .int 0), (5, .int r_40), (0, .ref mo), (1, .int l_), (2, .int c_), (3, .int n_), (4, .int u_)]) hx hb dX12_lot_41 hl (by decide) (zLvf_h rfl) (fun ls hl => ?_)
          refine lv_iconst (v := 0) hx hb dX12_lot_43 (by decide) ?_
          refine lv_istore (lv' := [(7, .int 0), (6, .int 0), (5, .int r_40), (0, .ref mo), (1, .int l_), (2, .int c_), (3, .int n_), (4, .int u_)]) hx hb dX12_lot_44 hl (by decide) (zLvf_h rfl) (fun ls hl => ?_)
          refine z_lp6 (T := T) 46 (fun (w : Nat) (u : Int32) (xat : Int32) (xgone : Int32) (xposts : Nat → Int32) (xwas : Nat → Int32) => [[zAr T 0 m_was 7 xwas], [zAr T 0 m_posts 7 xposts], [zAr T 0 m_shut 7 g_shut_7], [zAr T 0 m_here 7 g_here_8], [zO11 mo m_all m_has i_size i_next i_where i_token i_number i_word i_wrong i_farCrossing m_read j_z0_1 j_crossings_2 j_inns_3 m_posts m_shut m_here j_steps_4 j_done_5 xat xgone m_was m_came m_seenAt m_rowWorth m_farBy m_used i_everywhere i_again0 i_d0 i_never i_firstCame i_longRun i_moved i_crowd i_l0 i_fitMany i_fitLeast i_fitMost m_fitPost m_fitEnd m_keptPosts i_x0], [zAr T 0 m_all 3952 f_all]]) (fun (w : Nat) (u : Int32) (xat : Int32) (xgone : Int32) (xposts : Nat → Int32) (xwas : Nat → Int32) => [(7, .int (nI w)), (6, .int u), (5, .int r_40), (0, .ref mo), (1, .int l_), (2, .int c_), (3, .int n_), (4, .int u_)]) (fun (w : Nat) (u : Int32) (xat : Int32) (xgone : Int32) (xposts : Nat → Int32) (xwas : Nat → Int32) => w ≤ 16384 ∧ zMP xposts) (fun (w : Nat) (u : Int32) (xat : Int32) (xgone : Int32) (xposts : Nat → Int32) (xwas : Nat → Int32) => 16384 - w) ?_ 0 0 i_at i_gone g_posts_6 f_was (show 0 ≤ 16384 ∧ zMP g_posts_6 from ⟨by omega, (by first | with_reducible assumption | assumption)⟩) G (lv_sub hl [0, 1, 2, 3, 4, 5, 6, 7] rfl)
          intro w u xat xgone xposts xwas hI9 ih_46 H locs ls G hl
          replace hI9 : w ≤ 16384 ∧ zMP xposts := hI9
          refine zAn2 hI9 ?_
          intro hww hQ
          clear hI9
          replace G : zS T A s.heap s [[zAr T 0 m_was 7 xwas], [zAr T 0 m_posts 7 xposts], [zAr T 0 m_shut 7 g_shut_7], [zAr T 0 m_here 7 g_here_8], [zO11 mo m_all m_has i_size i_next i_where i_token i_number i_word i_wrong i_farCrossing m_read j_z0_1 j_crossings_2 j_inns_3 m_posts m_shut m_here j_steps_4 j_done_5 xat xgone m_was m_came m_seenAt m_rowWorth m_farBy m_used i_everywhere i_again0 i_d0 i_never i_firstCame i_longRun i_moved i_crowd i_l0 i_fitMany i_fitLeast i_fitMost m_fitPost m_fitEnd m_keptPosts i_x0], [zAr T 0 m_all 3952 f_all]] _ _ := G
          replace hl : lv_has ls 8 [(7, .int (nI w)), (6, .int u), (5, .int r_40), (0, .ref mo), (1, .int l_), (2, .int c_), (3, .int n_), (4, .int u_)] := hl
          refine lv_iload hx hb dX12_lot_46 (lv_at hl 0 rfl) ?_
          refine lv_iload hx hb dX12_lot_48 (lv_at hl 2 rfl) ?_
          refine lv_icmp_ge (tgt := 89) hx hb dX12_lot_50 (by decide) (fun c_41 => ?_) (fun c_41 => ?_)
          · have c_41n : r_40.toInt ≤ (w : Int) := by have q := (fa_le _ _).mp c_41; rw [nI_toInt (n := w) (by omega)] at q; exact q
            refine lv_iload hx hb dX12_lot_89 (lv_at hl 1 rfl) ?_
            refine lv_iload hx hb dX12_lot_91 (lv_at hl 2 rfl) ?_
            refine lv_iload hx hb dX12_lot_93 (lv_at hl 7 rfl) ?_
            refine z_Si (bc := []) (br := [[zAr T 0 m_was 7 xwas], [zAr T 0 m_posts 7 xposts], [zAr T 0 m_shut 7 g_shut_7], [zAr T 0 m_here 7 g_here_8], [zO11 mo m_all m_has i_size i_next i_where i_token i_number i_word i_wrong i_farCrossing m_read j_z0_1 j_crossings_2 j_inns_3 m_posts m_shut m_here j_steps_4 j_done_5 xat xgone m_was m_came m_seenAt m_rowWorth m_farBy m_used i_everywhere i_again0 i_d0 i_never i_firstCame i_longRun i_moved i_crowd i_l0 i_fitMany i_fitLeast i_fitMost m_fitPost m_fitEnd m_keptPosts i_x0], [zAr T 0 m_all 3952 f_all]]) (As := [.int u, .int r_40, .int u_]) (rest := []) C G (c_m_parted l T u r_40 u_ (by first | with_reducible assumption | with_reducible rfl | omega | assumption | rfl | decide)) (kS_RX12_244 C.2.2.2.2 (Nat.le_of_ble_eq_true rfl) (Nat.le_of_ble_eq_true rfl)) [] [] rfl rfl rfl rfl hl.1 dX12_lot_95 (Nat.le_of_ble_eq_true rfl) (Nat.le_of_ble_eq_true rfl) (fun r_42 b1 H locs hw G => ?_)
            obtain rfl := hw
            have G : zS T A s.heap s [[zAr T 0 m_was 7 xwas], [zAr T 0 m_posts 7 xposts], [zAr T 0 m_shut 7 g_shut_7], [zAr T 0 m_here 7 g_here_8], [zO11 mo m_all m_has i_size i_next i_where i_token i_number i_word i_wrong i_farCrossing m_read j_z0_1 j_crossings_2 j_inns_3 m_posts m_shut m_here j_steps_4 j_done_5 xat xgone m_was m_came m_seenAt m_rowWorth m_farBy m_used i_everywhere i_again0 i_d0 i_never i_firstCame i_longRun i_moved i_crowd i_l0 i_fitMany i_fitLeast i_fitMost m_fitPost m_fitEnd m_keptPosts i_x0], [zAr T 0 m_all 3952 f_all]] _ _ := G
            have G := G.sub (bs' := [[zO11 mo m_all m_has i_size i_next i_where i_token i_number i_word i_wrong i_farCrossing m_read j_z0_1 j_crossings_2 j_inns_3 m_posts m_shut m_here j_steps_4 j_done_5 xat xgone m_was m_came m_seenAt m_rowWorth m_farBy m_used i_everywhere i_again0 i_d0 i_never i_firstCame i_longRun i_moved i_crowd i_l0 i_fitMany i_fitLeast i_fitMost m_fitPost m_fitEnd m_keptPosts i_x0], [zAr T 0 m_all 3952 f_all], [zAr T 0 m_posts 7 xposts], [zAr T 0 m_shut 7 g_shut_7], [zAr T 0 m_here 7 g_here_8], [zAr T 0 m_was 7 xwas]]) [4, 5, 1, 2, 3, 0] rfl
            exact z_back hQz_ (z_iret C hr hlocks G (Nat.le_of_ble_eq_true rfl) (Nat.le_of_ble_eq_true rfl) dX12_lot_98 ⟨j_z0_1, j_crossings_2, j_inns_3, j_steps_4, j_done_5, xat, xgone, xposts, g_shut_7, g_here_8, xwas, rfl⟩)
          · have c_41n : ¬ r_40.toInt ≤ (w : Int) := fun q => c_41 ((fa_le _ _).mpr (by rw [nI_toInt (n := w) (by omega)]; exact q))
            refine lv_aload_n hx hb dX12_lot_53 rfl (lv_at hl 3 rfl) ?_
            refine lv_iload hx hb dX12_lot_54 (lv_at hl 0 rfl) ?_
            have ti_43 : (nI w).toInt = ((w : Nat) : Int) := nI_toInt (by omega)
            refine z_Vv (bc := [[zO11 mo m_all m_has i_size i_next i_where i_token i_number i_word i_wrong i_farCrossing m_read j_z0_1 j_crossings_2 j_inns_3 m_posts m_shut m_here j_steps_4 j_done_5 xat xgone m_was m_came m_seenAt m_rowWorth m_farBy m_used i_everywhere i_again0 i_d0 i_never i_firstCame i_longRun i_moved i_crowd i_l0 i_fitMany i_fitLeast i_fitMost m_fitPost m_fitEnd m_keptPosts i_x0], [zAr T 0 m_all 3952 f_all], [zAr T 0 m_posts 7 xposts]]) (br := [[zAr T 0 m_was 7 xwas], [zAr T 0 m_shut 7 g_shut_7], [zAr T 0 m_here 7 g_here_8]]) (As := [.int (nI w)]) (rest := []) C G (c_m_setsWay l T mo m_all m_has i_size i_next i_where i_token i_number i_word i_wrong i_farCrossing m_read j_z0_1 j_crossings_2 j_inns_3 m_posts m_shut m_here j_steps_4 j_done_5 xat xgone m_was m_came m_seenAt m_rowWorth m_farBy m_used i_everywhere i_again0 i_d0 i_never i_firstCame i_longRun i_moved i_crowd i_l0 i_fitMany i_fitLeast i_fitMost m_fitPost m_fitEnd m_keptPosts i_x0 f_all xposts (nI w) (by first | with_reducible assumption | with_reducible rfl | omega | assumption | rfl | decide) (by first | with_reducible assumption | with_reducible rfl | omega | assumption | rfl | decide) (by first | with_reducible assumption | with_reducible rfl | omega | assumption | rfl | decide)) (kV_RX12_226 C.2.2.2.2 (Nat.le_of_ble_eq_true rfl) (Nat.le_of_ble_eq_true rfl)) [4, 5, 1] [1, 2, 0] rfl rfl (ci := 11) (qc := (RX12, TX12, 43)) rfl rfl (List.mem_flatten.mpr ⟨_, List.mem_of_getElem? (i := 0) rfl, List.mem_cons_self⟩) rfl rfl hl.1 dX12_lot_56 (Nat.le_of_ble_eq_true rfl) (Nat.le_of_ble_eq_true rfl) (fun b1 H locs hw G => ?_)
            refine zEx1 hw ?_
            intro g_posts_44
            refine zCu2 ?_
            intro hbs9 h_45
            clear hw
            subst hbs9
            have G : zS T A s.heap s [[zAr T 0 m_was 7 xwas], [zAr T 0 m_shut 7 g_shut_7], [zAr T 0 m_here 7 g_here_8], [zO11 mo m_all m_has i_size i_next i_where i_token i_number i_word i_wrong i_farCrossing m_read j_z0_1 j_crossings_2 j_inns_3 m_posts m_shut m_here j_steps_4 j_done_5 xat xgone m_was m_came m_seenAt m_rowWorth m_farBy m_used i_everywhere i_again0 i_d0 i_never i_firstCame i_longRun i_moved i_crowd i_l0 i_fitMany i_fitLeast i_fitMost m_fitPost m_fitEnd m_keptPosts i_x0], [zAr T 0 m_all 3952 f_all], [zAr T 0 m_posts 7 g_posts_44]] _ _ := G
            refine lv_aload_n hx hb dX12_lot_59 rfl (lv_at hl 3 rfl) ?_
            refine lv_iload_n hx hb dX12_lot_60 rfl (lv_at hl 5 rfl) ?_
            refine z_Vi (bc := [[zO11 mo m_all m_has i_size i_next i_where i_token i_number i_word i_wrong i_farCrossing m_read j_z0_1 j_crossings_2 j_inns_3 m_posts m_shut m_here j_steps_4 j_done_5 xat xgone m_was m_came m_seenAt m_rowWorth m_farBy m_used i_everywhere i_again0 i_d0 i_never i_firstCame i_longRun i_moved i_crowd i_l0 i_fitMany i_fitLeast i_fitMost m_fitPost m_fitEnd m_keptPosts i_x0], [zAr T 0 m_all 3952 f_all], [zAr T 0 m_posts 7 g_posts_44], [zAr T 0 m_shut 7 g_shut_7], [zAr T 0 m_was 7 xwas]]) (br := [[zAr T 0 m_here 7 g_here_8]]) (As := [.int c_]) (rest := []) C G (c_m_walks l T mo m_all m_has i_size i_next i_where i_token i_number i_word i_wrong i_farCrossing m_read j_z0_1 j_crossings_2 j_inns_3 m_posts m_shut m_here j_steps_4 j_done_5 xat xgone m_was m_came m_seenAt m_rowWorth m_farBy m_used i_everywhere i_again0 i_d0 i_never i_firstCame i_longRun i_moved i_crowd i_l0 i_fitMany i_fitLeast i_fitMost m_fitPost m_fitEnd m_keptPosts i_x0 f_all g_posts_44 g_shut_7 xwas c_ (by first | with_reducible assumption | with_reducible rfl | omega | assumption | rfl | decide) (by first | with_reducible assumption | with_reducible rfl | omega | assumption | rfl | decide) (by first | with_reducible assumption | with_reducible rfl | omega | assumption | rfl | decide) (by first | with_reducible assumption | with_reducible rfl | omega | assumption | rfl | decide)) (kV_RX12_217 C.2.2.2.2 (Nat.le_of_ble_eq_true rfl) (Nat.le_of_ble_eq_true rfl)) [3, 4, 5, 1, 0] [0, 0, 1, 0, 0] rfl rfl (ci := 11) (qc := (RX12, TX12, 43)) rfl rfl (List.mem_flatten.mpr ⟨_, List.mem_of_getElem? (i := 0) rfl, List.mem_cons_self⟩) rfl rfl hl.1 dX12_lot_61 (Nat.le_of_ble_eq_true rfl) (Nat.le_of_ble_eq_true rfl) (fun r_57 b1 H locs hw G => ?_)
            refine zEx4 hw ?_
            intro j_at_47 j_gone_48 g_posts_49 g_was_50
            refine zCu7 ?_
            intro hbs9 h_51 h_52 h_53 h_54 h_55 h_56
            clear hw
            subst hbs9
            have G : zS T A s.heap s [[zAr T 0 m_here 7 g_here_8], [zO11 mo m_all m_has i_size i_next i_where i_token i_number i_word i_wrong i_farCrossing m_read j_z0_1 j_crossings_2 j_inns_3 m_posts m_shut m_here j_steps_4 j_done_5 j_at_47 j_gone_48 m_was m_came m_seenAt m_rowWorth m_farBy m_used i_everywhere i_again0 i_d0 i_never i_firstCame i_longRun i_moved i_crowd i_l0 i_fitMany i_fitLeast i_fitMost m_fitPost m_fitEnd m_keptPosts i_x0], [zAr T 0 m_all 3952 f_all], [zAr T 0 m_posts 7 g_posts_49], [zAr T 0 m_shut 7 g_shut_7], [zAr T 0 m_was 7 g_was_50]] _ _ := G
            replace h_51 : zHd ((r_57 = 0 ∨ r_57 = 1)) := h_51
            refine lv_pop hx hb dX12_lot_64 rfl ?_
            refine lv_iload hx hb dX12_lot_65 (lv_at hl 1 rfl) ?_
            refine lv_aload_n hx hb dX12_lot_67 rfl (lv_at hl 3 rfl) ?_
            refine z_get C G clX12 1 rfl 19 (by decide) m_fl_RX12_202 rfl dX12_lot_68 ?_
            refine lv_iload_n hx hb dX12_lot_71 rfl (lv_at hl 6 rfl) ?_
            refine lv_icmp_ne (tgt := 79) hx hb dX12_lot_72 (by decide) (fun c_58 => ?_) (fun c_58 => ?_)
            · have c_58n : ¬ j_at_47.toInt = n_.toInt := fun q => c_58 ((fa_eq _ _).mpr q)
              refine lv_iconst (v := 0) hx hb dX12_lot_79 (by decide) ?_
              refine lv_iadd hx hb dX12_lot_80 ?_
              refine lv_istore (lv' := [(6, .int (u + 0)), (7, .int (nI w)), (5, .int r_40), (0, .ref mo), (1, .int l_), (2, .int c_), (3, .int n_), (4, .int u_)]) hx hb dX12_lot_81 hl (by decide) (zLvf_h rfl) (fun ls hl => ?_)
              refine lv_iinc (v := nI (w + 1)) (lv' := [(7, .int (nI (w + 1))), (6, .int (u + 0)), (5, .int r_40), (0, .ref mo), (1, .int l_), (2, .int c_), (3, .int n_), (4, .int u_)]) hx hb dX12_lot_83 hl (k := 1) rfl (z_inc w 1) (by decide) (zLvf_h rfl) (fun ls hl => ?_)
              refine lv_goto (tgt := 46) hx hb dX12_lot_86 (by decide) ?_
              have G := G.sub (bs' := [[zAr T 0 m_was 7 g_was_50], [zAr T 0 m_posts 7 g_posts_49], [zAr T 0 m_shut 7 g_shut_7], [zAr T 0 m_here 7 g_here_8], [zO11 mo m_all m_has i_size i_next i_where i_token i_number i_word i_wrong i_farCrossing m_read j_z0_1 j_crossings_2 j_inns_3 m_posts m_shut m_here j_steps_4 j_done_5 j_at_47 j_gone_48 m_was m_came m_seenAt m_rowWorth m_farBy m_used i_everywhere i_again0 i_d0 i_never i_firstCame i_longRun i_moved i_crowd i_l0 i_fitMany i_fitLeast i_fitMost m_fitPost m_fitEnd m_keptPosts i_x0], [zAr T 0 m_all 3952 f_all]]) [5, 3, 4, 0, 1, 2] rfl
              exact ih_46 (w + 1) (u + 0) j_at_47 j_gone_48 g_posts_49 g_was_50 (show (w + 1) ≤ 16384 ∧ zMP g_posts_49 from ⟨by omega, (by first | with_reducible assumption | assumption)⟩) (show 16384 - (w + 1) < 16384 - w from by omega) _ _ ls G (lv_sub hl [0, 1, 2, 3, 4, 5, 6, 7] rfl)
            · have c_58n : j_at_47.toInt = n_.toInt := (fa_eq _ _).mp c_58
              refine lv_iconst (v := 1) hx hb dX12_lot_75 (by decide) ?_
              refine lv_goto (tgt := 80) hx hb dX12_lot_76 (by decide) ?_
              refine lv_iadd hx hb dX12_lot_80 ?_
              refine lv_istore (lv' := [(6, .int (u + 1)), (7, .int (nI w)), (5, .int r_40), (0, .ref mo), (1, .int l_), (2, .int c_), (3, .int n_), (4, .int u_)]) hx hb dX12_lot_81 hl (by decide) (zLvf_h rfl) (fun ls hl => ?_)
              refine lv_iinc (v := nI (w + 1)) (lv' := [(7, .int (nI (w + 1))), (6, .int (u + 1)), (5, .int r_40), (0, .ref mo), (1, .int l_), (2, .int c_), (3, .int n_), (4, .int u_)]) hx hb dX12_lot_83 hl (k := 1) rfl (z_inc w 1) (by decide) (zLvf_h rfl) (fun ls hl => ?_)
              refine lv_goto (tgt := 46) hx hb dX12_lot_86 (by decide) ?_
              have G := G.sub (bs' := [[zAr T 0 m_was 7 g_was_50], [zAr T 0 m_posts 7 g_posts_49], [zAr T 0 m_shut 7 g_shut_7], [zAr T 0 m_here 7 g_here_8], [zO11 mo m_all m_has i_size i_next i_where i_token i_number i_word i_wrong i_farCrossing m_read j_z0_1 j_crossings_2 j_inns_3 m_posts m_shut m_here j_steps_4 j_done_5 j_at_47 j_gone_48 m_was m_came m_seenAt m_rowWorth m_farBy m_used i_everywhere i_again0 i_d0 i_never i_firstCame i_longRun i_moved i_crowd i_l0 i_fitMany i_fitLeast i_fitMost m_fitPost m_fitEnd m_keptPosts i_x0], [zAr T 0 m_all 3952 f_all]]) [5, 3, 4, 0, 1, 2] rfl
              exact ih_46 (w + 1) (u + 1) j_at_47 j_gone_48 g_posts_49 g_was_50 (show (w + 1) ≤ 16384 ∧ zMP g_posts_49 from ⟨by omega, (by first | with_reducible assumption | assumption)⟩) (show 16384 - (w + 1) < 16384 - w from by omega) _ _ ls G (lv_sub hl [0, 1, 2, 3, 4, 5, 6, 7] rfl)
        · have h_37 : ¬ zInn j_inns_3 n_ := h_37
          refine lv_if_ne (tgt := 34) hx hb dX12_lot_29 (by decide) (fun q => absurd (by decide) q) (fun _ => ?_)
          refine lv_iconst (v := (-1)) hx hb dX12_lot_32 (by decide) ?_
          have G := G.sub (bs' := [[zO11 mo m_all m_has i_size i_next i_where i_token i_number i_word i_wrong i_farCrossing m_read j_z0_1 j_crossings_2 j_inns_3 m_posts m_shut m_here j_steps_4 j_done_5 i_at i_gone m_was m_came m_seenAt m_rowWorth m_farBy m_used i_everywhere i_again0 i_d0 i_never i_firstCame i_longRun i_moved i_crowd i_l0 i_fitMany i_fitLeast i_fitMost m_fitPost m_fitEnd m_keptPosts i_x0], [zAr T 0 m_all 3952 f_all], [zAr T 0 m_posts 7 g_posts_6], [zAr T 0 m_shut 7 g_shut_7], [zAr T 0 m_here 7 g_here_8], [zAr T 0 m_was 7 f_was]]) [5, 1, 2, 3, 4, 0] rfl
          exact z_back hQz_ (z_iret C hr hlocks G (Nat.le_of_ble_eq_true rfl) (Nat.le_of_ble_eq_true rfl) dX12_lot_33 ⟨j_z0_1, j_crossings_2, j_inns_3, j_steps_4, j_done_5, i_at, i_gone, g_posts_6, g_shut_7, g_here_8, f_was, rfl⟩)
      · have h_33 : (n_.toInt < 0 ∨ j_crossings_2.toInt ≤ n_.toInt) := h_33
        refine lv_if_eq (tgt := 32) hx hb dX12_lot_21 (by decide) (fun _ => ?_) (fun q => absurd (by decide) q)
        refine lv_iconst (v := (-1)) hx hb dX12_lot_32 (by decide) ?_
        have G := G.sub (bs' := [[zO11 mo m_all m_has i_size i_next i_where i_token i_number i_word i_wrong i_farCrossing m_read j_z0_1 j_crossings_2 j_inns_3 m_posts m_shut m_here j_steps_4 j_done_5 i_at i_gone m_was m_came m_seenAt m_rowWorth m_farBy m_used i_everywhere i_again0 i_d0 i_never i_firstCame i_longRun i_moved i_crowd i_l0 i_fitMany i_fitLeast i_fitMost m_fitPost m_fitEnd m_keptPosts i_x0], [zAr T 0 m_all 3952 f_all], [zAr T 0 m_posts 7 g_posts_6], [zAr T 0 m_shut 7 g_shut_7], [zAr T 0 m_here 7 g_here_8], [zAr T 0 m_was 7 f_was]]) [5, 1, 2, 3, 4, 0] rfl
        exact z_back hQz_ (z_iret C hr hlocks G (Nat.le_of_ble_eq_true rfl) (Nat.le_of_ble_eq_true rfl) dX12_lot_33 ⟨j_z0_1, j_crossings_2, j_inns_3, j_steps_4, j_done_5, i_at, i_gone, g_posts_6, g_shut_7, g_here_8, f_was, rfl⟩)
    · have h_28 : (c_.toInt < 0 ∨ j_crossings_2.toInt ≤ c_.toInt) := h_28
      refine lv_if_eq (tgt := 32) hx hb dX12_lot_13 (by decide) (fun _ => ?_) (fun q => absurd (by decide) q)
      refine lv_iconst (v := (-1)) hx hb dX12_lot_32 (by decide) ?_
      have G := G.sub (bs' := [[zO11 mo m_all m_has i_size i_next i_where i_token i_number i_word i_wrong i_farCrossing m_read j_z0_1 j_crossings_2 j_inns_3 m_posts m_shut m_here j_steps_4 j_done_5 i_at i_gone m_was m_came m_seenAt m_rowWorth m_farBy m_used i_everywhere i_again0 i_d0 i_never i_firstCame i_longRun i_moved i_crowd i_l0 i_fitMany i_fitLeast i_fitMost m_fitPost m_fitEnd m_keptPosts i_x0], [zAr T 0 m_all 3952 f_all], [zAr T 0 m_posts 7 g_posts_6], [zAr T 0 m_shut 7 g_shut_7], [zAr T 0 m_here 7 g_here_8], [zAr T 0 m_was 7 f_was]]) [5, 1, 2, 3, 4, 0] rfl
      exact z_back hQz_ (z_iret C hr hlocks G (Nat.le_of_ble_eq_true rfl) (Nat.le_of_ble_eq_true rfl) dX12_lot_33 ⟨j_z0_1, j_crossings_2, j_inns_3, j_steps_4, j_done_5, i_at, i_gone, g_posts_6, g_shut_7, g_here_8, f_was, rfl⟩)
  · have h_23 : (l_.toInt < 0 ∨ (f_all 0).toInt ≤ l_.toInt) := h_23
    refine lv_if_eq (tgt := 32) hx hb dX12_lot_5 (by decide) (fun _ => ?_) (fun q => absurd (by decide) q)
    refine lv_iconst (v := (-1)) hx hb dX12_lot_32 (by decide) ?_
    have G := G.sub (bs' := [[zO11 mo m_all m_has i_size i_next i_where i_token i_number i_word i_wrong i_farCrossing m_read j_z0_1 j_crossings_2 j_inns_3 m_posts m_shut m_here j_steps_4 j_done_5 i_at i_gone m_was m_came m_seenAt m_rowWorth m_farBy m_used i_everywhere i_again0 i_d0 i_never i_firstCame i_longRun i_moved i_crowd i_l0 i_fitMany i_fitLeast i_fitMost m_fitPost m_fitEnd m_keptPosts i_x0], [zAr T 0 m_all 3952 f_all], [zAr T 0 m_posts 7 g_posts_6], [zAr T 0 m_shut 7 g_shut_7], [zAr T 0 m_here 7 g_here_8], [zAr T 0 m_was 7 f_was]]) [1, 2, 3, 4, 5, 0] rfl
    exact z_back hQz_ (z_iret C hr hlocks G (Nat.le_of_ble_eq_true rfl) (Nat.le_of_ble_eq_true rfl) dX12_lot_33 ⟨j_z0_1, j_crossings_2, j_inns_3, j_steps_4, j_done_5, i_at, i_gone, g_posts_6, g_shut_7, g_here_8, f_was, rfl⟩)
set_option maxHeartbeats 4000000 in
set_option maxRecDepth 100000 in
/-- c_m_mean -/
theorem c_m_mean (l : Launch) (T : zTy) (mo : Nat) (m_all : Nat) (m_has : Nat) (i_size : Int32) (i_next : Int32) (i_where : Int32) (i_token : Int32) (i_number : Int32) (i_word : Int32) (i_wrong : Int32) (i_farCrossing : Int32) (m_read : Nat) (i_z0 : Int32) (i_crossings : Int32) (i_inns : Int32) (m_posts : Nat) (m_shut : Nat) (m_here : Nat) (i_steps : Int32) (i_done : Int32) (i_at : Int32) (i_gone : Int32) (m_was : Nat) (m_came : Nat) (m_seenAt : Nat) (m_rowWorth : Nat) (m_farBy : Nat) (m_used : Nat) (i_everywhere : Int32) (i_again0 : Int32) (i_d0 : Int32) (i_never : Int32) (i_firstCame : Int32) (i_longRun : Int32) (i_moved : Int32) (i_crowd : Int32) (i_l0 : Int32) (i_fitMany : Int32) (i_fitLeast : Int32) (i_fitMost : Int32) (m_fitPost : Nat) (m_fitEnd : Nat) (m_keptPosts : Nat) (i_x0 : Int32) (f_all : Nat → Int32) (f_posts : Nat → Int32) (f_shut : Nat → Int32) (f_here : Nat → Int32) (f_was : Nat → Int32) (l_ : Int32) (c_ : Int32) (u_ : Int32) (hB : zBI f_all) : zMi l T yX12_mean cX12_mean 7 (some .int) 6 0 0 [.ref mo, .int l_, .int c_, .int u_] [[zO11 mo m_all m_has i_size i_next i_where i_token i_number i_word i_wrong i_farCrossing m_read i_z0 i_crossings i_inns m_posts m_shut m_here i_steps i_done i_at i_gone m_was m_came m_seenAt m_rowWorth m_farBy m_used i_everywhere i_again0 i_d0 i_never i_firstCame i_longRun i_moved i_crowd i_l0 i_fitMany i_fitLeast i_fitMost m_fitPost m_fitEnd m_keptPosts i_x0], [zAr T 0 m_all 3952 f_all], [zAr T 0 m_posts 7 f_posts], [zAr T 0 m_shut 7 f_shut], [zAr T 0 m_here 7 f_here], [zAr T 0 m_was 7 f_was]] (fun (r : Int32) bs => ∃ (j_z0 : Int32) (j_crossings : Int32) (j_inns : Int32) (j_steps : Int32) (j_done : Int32) (j_at : Int32) (j_gone : Int32) (g_posts : Nat → Int32) (g_shut : Nat → Int32) (g_here : Nat → Int32) (g_was : Nat → Int32), bs = [[zO11 mo m_all m_has i_size i_next i_where i_token i_number i_word i_wrong i_farCrossing m_read j_z0 j_crossings j_inns m_posts m_shut m_here j_steps j_done j_at j_gone m_was m_came m_seenAt m_rowWorth m_farBy m_used i_everywhere i_again0 i_d0 i_never i_firstCame i_longRun i_moved i_crowd i_l0 i_fitMany i_fitLeast i_fitMost m_fitPost m_fitEnd m_keptPosts i_x0], [zAr T 0 m_all 3952 f_all], [zAr T 0 m_posts 7 g_posts], [zAr T 0 m_shut 7 g_shut], [zAr T 0 m_here 7 g_here], [zAr T 0 m_was 7 g_was]]) := by
  refine zMi_of (own := RX12) (by decide) rfl (Nat.le_of_ble_eq_true rfl) ?_
  intro p e s m args below meth c A ls C hr hlocks hnm hAe G hl
  refine zHide (fun Qz_ hQz_ => ?_)
  have hx := C.1
  have hb := C.2.1
  have hl : lv_has ls 7 [(0, .ref mo), (1, .int l_), (2, .int c_), (3, .int u_)] := hl
  refine lv_aload_n hx hb dX12_mean_0 rfl (lv_at hl 0 rfl) ?_
  refine lv_iload_n hx hb dX12_mean_1 rfl (lv_at hl 1 rfl) ?_
  refine z_Vi (bc := [[zO11 mo m_all m_has i_size i_next i_where i_token i_number i_word i_wrong i_farCrossing m_read i_z0 i_crossings i_inns m_posts m_shut m_here i_steps i_done i_at i_gone m_was m_came m_seenAt m_rowWorth m_farBy m_used i_everywhere i_again0 i_d0 i_never i_firstCame i_longRun i_moved i_crowd i_l0 i_fitMany i_fitLeast i_fitMost m_fitPost m_fitEnd m_keptPosts i_x0], [zAr T 0 m_all 3952 f_all], [zAr T 0 m_posts 7 f_posts], [zAr T 0 m_shut 7 f_shut], [zAr T 0 m_here 7 f_here]]) (br := [[zAr T 0 m_was 7 f_was]]) (As := [.int l_]) (rest := []) C G (c_m_isLand l T mo m_all m_has i_size i_next i_where i_token i_number i_word i_wrong i_farCrossing m_read i_z0 i_crossings i_inns m_posts m_shut m_here i_steps i_done i_at i_gone m_was m_came m_seenAt m_rowWorth m_farBy m_used i_everywhere i_again0 i_d0 i_never i_firstCame i_longRun i_moved i_crowd i_l0 i_fitMany i_fitLeast i_fitMost m_fitPost m_fitEnd m_keptPosts i_x0 f_all f_posts f_shut f_here l_ (by first | with_reducible assumption | with_reducible rfl | omega | assumption | rfl | decide)) (kV_RX12_184 C.2.2.2.2 (Nat.le_of_ble_eq_true rfl) (Nat.le_of_ble_eq_true rfl)) [0, 1, 2, 3, 4] [0, 0, 0, 0, 0] rfl rfl (ci := 11) (qc := (RX12, TX12, 43)) rfl rfl (List.mem_flatten.mpr ⟨_, List.mem_of_getElem? (i := 0) rfl, List.mem_cons_self⟩) rfl rfl hl.1 dX12_mean_2 (Nat.le_of_ble_eq_true rfl) (Nat.le_of_ble_eq_true rfl) (fun r_10 b1 H locs hw G => ?_)
  refine zEx8 hw ?_
  intro j_z0_1 j_crossings_2 j_inns_3 j_steps_4 j_done_5 g_posts_6 g_shut_7 g_here_8
  refine zCu2 ?_
  intro hbs9 hc_9
  clear hw
  subst hbs9
  have G : zS T A s.heap s [[zAr T 0 m_was 7 f_was], [zO11 mo m_all m_has i_size i_next i_where i_token i_number i_word i_wrong i_farCrossing m_read j_z0_1 j_crossings_2 j_inns_3 m_posts m_shut m_here j_steps_4 j_done_5 i_at i_gone m_was m_came m_seenAt m_rowWorth m_farBy m_used i_everywhere i_again0 i_d0 i_never i_firstCame i_longRun i_moved i_crowd i_l0 i_fitMany i_fitLeast i_fitMost m_fitPost m_fitEnd m_keptPosts i_x0], [zAr T 0 m_all 3952 f_all], [zAr T 0 m_posts 7 g_posts_6], [zAr T 0 m_shut 7 g_shut_7], [zAr T 0 m_here 7 g_here_8]] _ _ := G
  rcases hc_9 with ⟨rfl, h_11, h_12, h_13, h_14, h_15, h_16, h_17, h_18, h_19, h_20, h_21, h_22⟩ | ⟨rfl, h_23⟩
  · have h_11 : 0 ≤ l_.toInt := h_11
    have h_12 : l_.toInt ≤ 1 := h_12
    have h_13 : l_.toInt < (f_all 0).toInt := h_13
    have h_14 : j_z0_1.toInt = 610 + 51 * l_.toInt := h_14
    have h_15 : zML f_all j_z0_1 j_crossings_2 := h_15
    have h_16 : zMP g_posts_6 := h_16
    have h_17 : j_inns_3 = f_all (j_z0_1.toInt.toNat + 1) := h_17
    have h_18 : j_steps_4 = 0 := h_18
    have h_19 : j_done_5 = 0 := h_19
    have h_20 : (∀ j, j < 7 → g_posts_6 j = zPt f_all j_z0_1 (nI j)) := h_20
    have h_21 : (∀ j, j < 7 → g_shut_7 j = 0) := h_21
    have h_22 : (∀ j, j < 7 → g_here_8 j = zWk f_all j_z0_1 j) := h_22
    have hLx := h_15
    have hcr := hLx.cr
    have hzx := hLx.1
    have hPx := h_16
    refine lv_if_eq (tgt := 16) hx hb dX12_mean_5 (by decide) (fun q => absurd q (by decide)) (fun _ => ?_)
    refine lv_aload_n hx hb dX12_mean_8 rfl (lv_at hl 0 rfl) ?_
    refine lv_iload_n hx hb dX12_mean_9 rfl (lv_at hl 2 rfl) ?_
    refine z_Vi (bc := [[zO11 mo m_all m_has i_size i_next i_where i_token i_number i_word i_wrong i_farCrossing m_read j_z0_1 j_crossings_2 j_inns_3 m_posts m_shut m_here j_steps_4 j_done_5 i_at i_gone m_was m_came m_seenAt m_rowWorth m_farBy m_used i_everywhere i_again0 i_d0 i_never i_firstCame i_longRun i_moved i_crowd i_l0 i_fitMany i_fitLeast i_fitMost m_fitPost m_fitEnd m_keptPosts i_x0]]) (br := [[zAr T 0 m_was 7 f_was], [zAr T 0 m_all 3952 f_all], [zAr T 0 m_posts 7 g_posts_6], [zAr T 0 m_shut 7 g_shut_7], [zAr T 0 m_here 7 g_here_8]]) (As := [.int c_]) (rest := []) C G (c_m_isCrossing l T mo m_all m_has i_size i_next i_where i_token i_number i_word i_wrong i_farCrossing m_read j_z0_1 j_crossings_2 j_inns_3 m_posts m_shut m_here j_steps_4 j_done_5 i_at i_gone m_was m_came m_seenAt m_rowWorth m_farBy m_used i_everywhere i_again0 i_d0 i_never i_firstCame i_longRun i_moved i_crowd i_l0 i_fitMany i_fitLeast i_fitMost m_fitPost m_fitEnd m_keptPosts i_x0 c_ (by first | with_reducible assumption | with_reducible rfl | omega | assumption | rfl | decide)) (kV_RX12_187 C.2.2.2.2 (Nat.le_of_ble_eq_true rfl) (Nat.le_of_ble_eq_true rfl)) [1] [1] rfl rfl (ci := 11) (qc := (RX12, TX12, 43)) rfl rfl (List.mem_flatten.mpr ⟨_, List.mem_of_getElem? (i := 0) rfl, List.mem_cons_self⟩) rfl rfl hl.1 dX12_mean_10 (Nat.le_of_ble_eq_true rfl) (Nat.le_of_ble_eq_true rfl) (fun r_25 b1 H locs hw G => ?_)
    refine zAn2 hw ?_
    intro hbs9 hc_24
    clear hw
    subst hbs9
    have G : zS T A s.heap s [[zAr T 0 m_was 7 f_was], [zAr T 0 m_all 3952 f_all], [zAr T 0 m_posts 7 g_posts_6], [zAr T 0 m_shut 7 g_shut_7], [zAr T 0 m_here 7 g_here_8], [zO11 mo m_all m_has i_size i_next i_where i_token i_number i_word i_wrong i_farCrossing m_read j_z0_1 j_crossings_2 j_inns_3 m_posts m_shut m_here j_steps_4 j_done_5 i_at i_gone m_was m_came m_seenAt m_rowWorth m_farBy m_used i_everywhere i_again0 i_d0 i_never i_firstCame i_longRun i_moved i_crowd i_l0 i_fitMany i_fitLeast i_fitMost m_fitPost m_fitEnd m_keptPosts i_x0]] _ _ := G
    rcases hc_24 with ⟨rfl, h_26, h_27⟩ | ⟨rfl, h_28⟩
    · have h_26 : 0 ≤ c_.toInt := h_26
      have h_27 : c_.toInt < j_crossings_2.toInt := h_27
      refine lv_if_ne (tgt := 18) hx hb dX12_mean_13 (by decide) (fun _ => ?_) (fun q => absurd q (by decide))
      refine lv_aload_n hx hb dX12_mean_18 rfl (lv_at hl 0 rfl) ?_
      refine z_Vi (bc := [[zO11 mo m_all m_has i_size i_next i_where i_token i_number i_word i_wrong i_farCrossing m_read j_z0_1 j_crossings_2 j_inns_3 m_posts m_shut m_here j_steps_4 j_done_5 i_at i_gone m_was m_came m_seenAt m_rowWorth m_farBy m_used i_everywhere i_again0 i_d0 i_never i_firstCame i_longRun i_moved i_crowd i_l0 i_fitMany i_fitLeast i_fitMost m_fitPost m_fitEnd m_keptPosts i_x0], [zAr T 0 m_all 3952 f_all]]) (br := [[zAr T 0 m_was 7 f_was], [zAr T 0 m_posts 7 g_posts_6], [zAr T 0 m_shut 7 g_shut_7], [zAr T 0 m_here 7 g_here_8]]) (As := []) (rest := []) C G (c_m_waysMany l T mo m_all m_has i_size i_next i_where i_token i_number i_word i_wrong i_farCrossing m_read j_z0_1 j_crossings_2 j_inns_3 m_posts m_shut m_here j_steps_4 j_done_5 i_at i_gone m_was m_came m_seenAt m_rowWorth m_farBy m_used i_everywhere i_again0 i_d0 i_never i_firstCame i_longRun i_moved i_crowd i_l0 i_fitMany i_fitLeast i_fitMost m_fitPost m_fitEnd m_keptPosts i_x0 f_all (by first | with_reducible assumption | with_reducible rfl | omega | assumption | rfl | decide)) (kV_RX12_229 C.2.2.2.2 (Nat.le_of_ble_eq_true rfl) (Nat.le_of_ble_eq_true rfl)) [5, 1] [1, 3] rfl rfl (ci := 11) (qc := (RX12, TX12, 43)) rfl rfl (List.mem_flatten.mpr ⟨_, List.mem_of_getElem? (i := 0) rfl, List.mem_cons_self⟩) rfl rfl hl.1 dX12_mean_19 (Nat.le_of_ble_eq_true rfl) (Nat.le_of_ble_eq_true rfl) (fun r_31 b1 H locs hw G => ?_)
      refine zAn3 hw ?_
      intro hbs9 h_29 h_30
      clear hw
      subst hbs9
      have G : zS T A s.heap s [[zAr T 0 m_was 7 f_was], [zAr T 0 m_posts 7 g_posts_6], [zAr T 0 m_shut 7 g_shut_7], [zAr T 0 m_here 7 g_here_8], [zO11 mo m_all m_has i_size i_next i_where i_token i_number i_word i_wrong i_farCrossing m_read j_z0_1 j_crossings_2 j_inns_3 m_posts m_shut m_here j_steps_4 j_done_5 i_at i_gone m_was m_came m_seenAt m_rowWorth m_farBy m_used i_everywhere i_again0 i_d0 i_never i_firstCame i_longRun i_moved i_crowd i_l0 i_fitMany i_fitLeast i_fitMost m_fitPost m_fitEnd m_keptPosts i_x0], [zAr T 0 m_all 3952 f_all]] _ _ := G
      refine lv_istore (lv' := [(4, .int r_31), (0, .ref mo), (1, .int l_), (2, .int c_), (3, .int u_)]) hx hb dX12_mean_22 hl (by decide) (zLvf_h rfl) (fun ls hl => ?_)
      refine lv_iconst (v := 0) hx hb dX12_mean_24 (by decide) ?_
      refine lv_istore (lv' := [(5, .int 0), (4, .int r_31), (0, .ref mo), (1, .int l_), (2, .int c_), (3, .int u_)]) hx hb dX12_mean_25 hl (by decide) (zLvf_h rfl) (fun ls hl => ?_)
      refine lv_iconst (v := 0) hx hb dX12_mean_27 (by decide) ?_
      refine lv_istore (lv' := [(6, .int 0), (5, .int 0), (4, .int r_31), (0, .ref mo), (1, .int l_), (2, .int c_), (3, .int u_)]) hx hb dX12_mean_28 hl (by decide) (zLvf_h rfl) (fun ls hl => ?_)
      refine z_lp6 (T := T) 30 (fun (w : Nat) (u : Int32) (xat : Int32) (xgone : Int32) (xposts : Nat → Int32) (xwas : Nat → Int32) => [[zAr T 0 m_was 7 xwas], [zAr T 0 m_posts 7 xposts], [zAr T 0 m_shut 7 g_shut_7], [zAr T 0 m_here 7 g_here_8], [zO11 mo m_all m_has i_size i_next i_where i_token i_number i_word i_wrong i_farCrossing m_read j_z0_1 j_crossings_2 j_inns_3 m_posts m_shut m_here j_steps_4 j_done_5 xat xgone m_was m_came m_seenAt m_rowWorth m_farBy m_used i_everywhere i_again0 i_d0 i_never i_firstCame i_longRun i_moved i_crowd i_l0 i_fitMany i_fitLeast i_fitMost m_fitPost m_fitEnd m_keptPosts i_x0], [zAr T 0 m_all 3952 f_all]]) (fun (w : Nat) (u : Int32) (xat : Int32) (xgone : Int32) (xposts : Nat → Int32) (xwas : Nat → Int32) => [(6, .int (nI w)), (5, .int u), (4, .int r_31), (0, .ref mo), (1, .int l_), (2, .int c_), (3, .int u_)]) (fun (w : Nat) (u : Int32) (xat : Int32) (xgone : Int32) (xposts : Nat → Int32) (xwas : Nat → Int32) => w ≤ 16384 ∧ zMP xposts) (fun (w : Nat) (u : Int32) (xat : Int32) (xgone : Int32) (xposts : Nat → Int32) (xwas : Nat → Int32) => 16384 - w) ?_ 0 0 i_at i_gone g_posts_6 f_was (show 0 ≤ 16384 ∧ zMP g_posts_6 from ⟨by omega, (by first | with_reducible assumption | assumption)⟩) G (lv_sub hl [0, 1, 2, 3, 4, 5, 6] rfl)
      intro w u xat xgone xposts xwas hI9 ih_30 H locs ls G hl
      replace hI9 : w ≤ 16384 ∧ zMP xposts := hI9
      refine zAn2 hI9 ?_
      intro hww hQ
      clear hI9
      replace G : zS T A s.heap s [[zAr T 0 m_was 7 xwas], [zAr T 0 m_posts 7 xposts], [zAr T 0 m_shut 7 g_shut_7], [zAr T 0 m_here 7 g_here_8], [zO11 mo m_all m_has i_size i_next i_where i_token i_number i_word i_wrong i_farCrossing m_read j_z0_1 j_crossings_2 j_inns_3 m_posts m_shut m_here j_steps_4 j_done_5 xat xgone m_was m_came m_seenAt m_rowWorth m_farBy m_used i_everywhere i_again0 i_d0 i_never i_firstCame i_longRun i_moved i_crowd i_l0 i_fitMany i_fitLeast i_fitMost m_fitPost m_fitEnd m_keptPosts i_x0], [zAr T 0 m_all 3952 f_all]] _ _ := G
      replace hl : lv_has ls 7 [(6, .int (nI w)), (5, .int u), (4, .int r_31), (0, .ref mo), (1, .int l_), (2, .int c_), (3, .int u_)] := hl
      refine lv_iload hx hb dX12_mean_30 (lv_at hl 0 rfl) ?_
      refine lv_iload hx hb dX12_mean_32 (lv_at hl 2 rfl) ?_
      refine lv_icmp_ge (tgt := 68) hx hb dX12_mean_34 (by decide) (fun c_32 => ?_) (fun c_32 => ?_)
      · have c_32n : r_31.toInt ≤ (w : Int) := by have q := (fa_le _ _).mp c_32; rw [nI_toInt (n := w) (by omega)] at q; exact q
        refine lv_iload hx hb dX12_mean_68 (lv_at hl 1 rfl) ?_
        refine lv_iload hx hb dX12_mean_70 (lv_at hl 2 rfl) ?_
        refine lv_iload_n hx hb dX12_mean_72 rfl (lv_at hl 6 rfl) ?_
        refine z_Si (bc := []) (br := [[zAr T 0 m_was 7 xwas], [zAr T 0 m_posts 7 xposts], [zAr T 0 m_shut 7 g_shut_7], [zAr T 0 m_here 7 g_here_8], [zO11 mo m_all m_has i_size i_next i_where i_token i_number i_word i_wrong i_farCrossing m_read j_z0_1 j_crossings_2 j_inns_3 m_posts m_shut m_here j_steps_4 j_done_5 xat xgone m_was m_came m_seenAt m_rowWorth m_farBy m_used i_everywhere i_again0 i_d0 i_never i_firstCame i_longRun i_moved i_crowd i_l0 i_fitMany i_fitLeast i_fitMost m_fitPost m_fitEnd m_keptPosts i_x0], [zAr T 0 m_all 3952 f_all]]) (As := [.int u, .int r_31, .int u_]) (rest := []) C G (c_m_parted l T u r_31 u_ (by first | with_reducible assumption | with_reducible rfl | omega | assumption | rfl | decide)) (kS_RX12_244 C.2.2.2.2 (Nat.le_of_ble_eq_true rfl) (Nat.le_of_ble_eq_true rfl)) [] [] rfl rfl rfl rfl hl.1 dX12_mean_73 (Nat.le_of_ble_eq_true rfl) (Nat.le_of_ble_eq_true rfl) (fun r_33 b1 H locs hw G => ?_)
        obtain rfl := hw
        have G : zS T A s.heap s [[zAr T 0 m_was 7 xwas], [zAr T 0 m_posts 7 xposts], [zAr T 0 m_shut 7 g_shut_7], [zAr T 0 m_here 7 g_here_8], [zO11 mo m_all m_has i_size i_next i_where i_token i_number i_word i_wrong i_farCrossing m_read j_z0_1 j_crossings_2 j_inns_3 m_posts m_shut m_here j_steps_4 j_done_5 xat xgone m_was m_came m_seenAt m_rowWorth m_farBy m_used i_everywhere i_again0 i_d0 i_never i_firstCame i_longRun i_moved i_crowd i_l0 i_fitMany i_fitLeast i_fitMost m_fitPost m_fitEnd m_keptPosts i_x0], [zAr T 0 m_all 3952 f_all]] _ _ := G
        have G := G.sub (bs' := [[zO11 mo m_all m_has i_size i_next i_where i_token i_number i_word i_wrong i_farCrossing m_read j_z0_1 j_crossings_2 j_inns_3 m_posts m_shut m_here j_steps_4 j_done_5 xat xgone m_was m_came m_seenAt m_rowWorth m_farBy m_used i_everywhere i_again0 i_d0 i_never i_firstCame i_longRun i_moved i_crowd i_l0 i_fitMany i_fitLeast i_fitMost m_fitPost m_fitEnd m_keptPosts i_x0], [zAr T 0 m_all 3952 f_all], [zAr T 0 m_posts 7 xposts], [zAr T 0 m_shut 7 g_shut_7], [zAr T 0 m_here 7 g_here_8], [zAr T 0 m_was 7 xwas]]) [4, 5, 1, 2, 3, 0] rfl
        exact z_back hQz_ (z_iret C hr hlocks G (Nat.le_of_ble_eq_true rfl) (Nat.le_of_ble_eq_true rfl) dX12_mean_76 ⟨j_z0_1, j_crossings_2, j_inns_3, j_steps_4, j_done_5, xat, xgone, xposts, g_shut_7, g_here_8, xwas, rfl⟩)
      · have c_32n : ¬ r_31.toInt ≤ (w : Int) := fun q => c_32 ((fa_le _ _).mpr (by rw [nI_toInt (n := w) (by omega)]; exact q))
        refine lv_aload_n hx hb dX12_mean_37 rfl (lv_at hl 3 rfl) ?_
        refine lv_iload hx hb dX12_mean_38 (lv_at hl 0 rfl) ?_
        have ti_34 : (nI w).toInt = ((w : Nat) : Int) := nI_toInt (by omega)
        refine z_Vv (bc := [[zO11 mo m_all m_has i_size i_next i_where i_token i_number i_word i_wrong i_farCrossing m_read j_z0_1 j_crossings_2 j_inns_3 m_posts m_shut m_here j_steps_4 j_done_5 xat xgone m_was m_came m_seenAt m_rowWorth m_farBy m_used i_everywhere i_again0 i_d0 i_never i_firstCame i_longRun i_moved i_crowd i_l0 i_fitMany i_fitLeast i_fitMost m_fitPost m_fitEnd m_keptPosts i_x0], [zAr T 0 m_all 3952 f_all], [zAr T 0 m_posts 7 xposts]]) (br := [[zAr T 0 m_was 7 xwas], [zAr T 0 m_shut 7 g_shut_7], [zAr T 0 m_here 7 g_here_8]]) (As := [.int (nI w)]) (rest := []) C G (c_m_setsWay l T mo m_all m_has i_size i_next i_where i_token i_number i_word i_wrong i_farCrossing m_read j_z0_1 j_crossings_2 j_inns_3 m_posts m_shut m_here j_steps_4 j_done_5 xat xgone m_was m_came m_seenAt m_rowWorth m_farBy m_used i_everywhere i_again0 i_d0 i_never i_firstCame i_longRun i_moved i_crowd i_l0 i_fitMany i_fitLeast i_fitMost m_fitPost m_fitEnd m_keptPosts i_x0 f_all xposts (nI w) (by first | with_reducible assumption | with_reducible rfl | omega | assumption | rfl | decide) (by first | with_reducible assumption | with_reducible rfl | omega | assumption | rfl | decide) (by first | with_reducible assumption | with_reducible rfl | omega | assumption | rfl | decide)) (kV_RX12_226 C.2.2.2.2 (Nat.le_of_ble_eq_true rfl) (Nat.le_of_ble_eq_true rfl)) [4, 5, 1] [1, 2, 0] rfl rfl (ci := 11) (qc := (RX12, TX12, 43)) rfl rfl (List.mem_flatten.mpr ⟨_, List.mem_of_getElem? (i := 0) rfl, List.mem_cons_self⟩) rfl rfl hl.1 dX12_mean_40 (Nat.le_of_ble_eq_true rfl) (Nat.le_of_ble_eq_true rfl) (fun b1 H locs hw G => ?_)
        refine zEx1 hw ?_
        intro g_posts_35
        refine zCu2 ?_
        intro hbs9 h_36
        clear hw
        subst hbs9
        have G : zS T A s.heap s [[zAr T 0 m_was 7 xwas], [zAr T 0 m_shut 7 g_shut_7], [zAr T 0 m_here 7 g_here_8], [zO11 mo m_all m_has i_size i_next i_where i_token i_number i_word i_wrong i_farCrossing m_read j_z0_1 j_crossings_2 j_inns_3 m_posts m_shut m_here j_steps_4 j_done_5 xat xgone m_was m_came m_seenAt m_rowWorth m_farBy m_used i_everywhere i_again0 i_d0 i_never i_firstCame i_longRun i_moved i_crowd i_l0 i_fitMany i_fitLeast i_fitMost m_fitPost m_fitEnd m_keptPosts i_x0], [zAr T 0 m_all 3952 f_all], [zAr T 0 m_posts 7 g_posts_35]] _ _ := G
        refine lv_aload_n hx hb dX12_mean_43 rfl (lv_at hl 3 rfl) ?_
        refine lv_iload_n hx hb dX12_mean_44 rfl (lv_at hl 5 rfl) ?_
        refine z_Vi (bc := [[zO11 mo m_all m_has i_size i_next i_where i_token i_number i_word i_wrong i_farCrossing m_read j_z0_1 j_crossings_2 j_inns_3 m_posts m_shut m_here j_steps_4 j_done_5 xat xgone m_was m_came m_seenAt m_rowWorth m_farBy m_used i_everywhere i_again0 i_d0 i_never i_firstCame i_longRun i_moved i_crowd i_l0 i_fitMany i_fitLeast i_fitMost m_fitPost m_fitEnd m_keptPosts i_x0], [zAr T 0 m_all 3952 f_all], [zAr T 0 m_posts 7 g_posts_35], [zAr T 0 m_shut 7 g_shut_7], [zAr T 0 m_was 7 xwas]]) (br := [[zAr T 0 m_here 7 g_here_8]]) (As := [.int c_]) (rest := []) C G (c_m_walks l T mo m_all m_has i_size i_next i_where i_token i_number i_word i_wrong i_farCrossing m_read j_z0_1 j_crossings_2 j_inns_3 m_posts m_shut m_here j_steps_4 j_done_5 xat xgone m_was m_came m_seenAt m_rowWorth m_farBy m_used i_everywhere i_again0 i_d0 i_never i_firstCame i_longRun i_moved i_crowd i_l0 i_fitMany i_fitLeast i_fitMost m_fitPost m_fitEnd m_keptPosts i_x0 f_all g_posts_35 g_shut_7 xwas c_ (by first | with_reducible assumption | with_reducible rfl | omega | assumption | rfl | decide) (by first | with_reducible assumption | with_reducible rfl | omega | assumption | rfl | decide) (by first | with_reducible assumption | with_reducible rfl | omega | assumption | rfl | decide) (by first | with_reducible assumption | with_reducible rfl | omega | assumption | rfl | decide)) (kV_RX12_217 C.2.2.2.2 (Nat.le_of_ble_eq_true rfl) (Nat.le_of_ble_eq_true rfl)) [3, 4, 5, 1, 0] [0, 0, 1, 0, 0] rfl rfl (ci := 11) (qc := (RX12, TX12, 43)) rfl rfl (List.mem_flatten.mpr ⟨_, List.mem_of_getElem? (i := 0) rfl, List.mem_cons_self⟩) rfl rfl hl.1 dX12_mean_45 (Nat.le_of_ble_eq_true rfl) (Nat.le_of_ble_eq_true rfl) (fun r_48 b1 H locs hw G => ?_)
        refine zEx4 hw ?_
        intro j_at_38 j_gone_39 g_posts_40 g_was_41
        refine zCu7 ?_
        intro hbs9 h_42 h_43 h_44 h_45 h_46 h_47
        clear hw
        subst hbs9
        have G : zS T A s.heap s [[zAr T 0 m_here 7 g_here_8], [zO11 mo m_all m_has i_size i_next i_where i_token i_number i_word i_wrong i_farCrossing m_read j_z0_1 j_crossings_2 j_inns_3 m_posts m_shut m_here j_steps_4 j_done_5 j_at_38 j_gone_39 m_was m_came m_seenAt m_rowWorth m_farBy m_used i_everywhere i_again0 i_d0 i_never i_firstCame i_longRun i_moved i_crowd i_l0 i_fitMany i_fitLeast i_fitMost m_fitPost m_fitEnd m_keptPosts i_x0], [zAr T 0 m_all 3952 f_all], [zAr T 0 m_posts 7 g_posts_40], [zAr T 0 m_shut 7 g_shut_7], [zAr T 0 m_was 7 g_was_41]] _ _ := G
        replace h_42 : zHd ((r_48 = 0 ∨ r_48 = 1)) := h_42
        refine lv_if_ne (tgt := 53) hx hb dX12_mean_48 (by decide) (fun c_49 => ?_) (fun c_49 => ?_)
        · have c_49n : ¬ r_48.toInt = (0 : Int) := fun q => c_49 ((fa_eq _ _).mpr q)
          refine lv_iload hx hb dX12_mean_53 (lv_at hl 1 rfl) ?_
          refine lv_aload_n hx hb dX12_mean_55 rfl (lv_at hl 3 rfl) ?_
          refine z_get C G clX12 1 rfl 20 (by decide) m_fl_RX12_208 rfl dX12_mean_56 ?_
          refine lv_iadd hx hb dX12_mean_59 ?_
          refine lv_istore (lv' := [(5, .int (u + j_gone_39)), (6, .int (nI w)), (4, .int r_31), (0, .ref mo), (1, .int l_), (2, .int c_), (3, .int u_)]) hx hb dX12_mean_60 hl (by decide) (zLvf_h rfl) (fun ls hl => ?_)
          refine lv_iinc (v := nI (w + 1)) (lv' := [(6, .int (nI (w + 1))), (5, .int (u + j_gone_39)), (4, .int r_31), (0, .ref mo), (1, .int l_), (2, .int c_), (3, .int u_)]) hx hb dX12_mean_62 hl (k := 1) rfl (z_inc w 1) (by decide) (zLvf_h rfl) (fun ls hl => ?_)
          refine lv_goto (tgt := 30) hx hb dX12_mean_65 (by decide) ?_
          have G := G.sub (bs' := [[zAr T 0 m_was 7 g_was_41], [zAr T 0 m_posts 7 g_posts_40], [zAr T 0 m_shut 7 g_shut_7], [zAr T 0 m_here 7 g_here_8], [zO11 mo m_all m_has i_size i_next i_where i_token i_number i_word i_wrong i_farCrossing m_read j_z0_1 j_crossings_2 j_inns_3 m_posts m_shut m_here j_steps_4 j_done_5 j_at_38 j_gone_39 m_was m_came m_seenAt m_rowWorth m_farBy m_used i_everywhere i_again0 i_d0 i_never i_firstCame i_longRun i_moved i_crowd i_l0 i_fitMany i_fitLeast i_fitMost m_fitPost m_fitEnd m_keptPosts i_x0], [zAr T 0 m_all 3952 f_all]]) [5, 3, 4, 0, 1, 2] rfl
          exact ih_30 (w + 1) (u + j_gone_39) j_at_38 j_gone_39 g_posts_40 g_was_41 (show (w + 1) ≤ 16384 ∧ zMP g_posts_40 from ⟨by omega, (by first | with_reducible assumption | assumption)⟩) (show 16384 - (w + 1) < 16384 - w from by omega) _ _ ls G (lv_sub hl [0, 1, 2, 3, 4, 5, 6] rfl)
        · have c_49n : r_48.toInt = (0 : Int) := (fa_eq _ _).mp c_49
          refine lv_iconst (v := (-1)) hx hb dX12_mean_51 (by decide) ?_
          have G := G.sub (bs' := [[zO11 mo m_all m_has i_size i_next i_where i_token i_number i_word i_wrong i_farCrossing m_read j_z0_1 j_crossings_2 j_inns_3 m_posts m_shut m_here j_steps_4 j_done_5 j_at_38 j_gone_39 m_was m_came m_seenAt m_rowWorth m_farBy m_used i_everywhere i_again0 i_d0 i_never i_firstCame i_longRun i_moved i_crowd i_l0 i_fitMany i_fitLeast i_fitMost m_fitPost m_fitEnd m_keptPosts i_x0], [zAr T 0 m_all 3952 f_all], [zAr T 0 m_posts 7 g_posts_40], [zAr T 0 m_shut 7 g_shut_7], [zAr T 0 m_here 7 g_here_8], [zAr T 0 m_was 7 g_was_41]]) [1, 2, 3, 4, 0, 5] rfl
          exact z_back hQz_ (z_iret C hr hlocks G (Nat.le_of_ble_eq_true rfl) (Nat.le_of_ble_eq_true rfl) dX12_mean_52 ⟨j_z0_1, j_crossings_2, j_inns_3, j_steps_4, j_done_5, j_at_38, j_gone_39, g_posts_40, g_shut_7, g_here_8, g_was_41, rfl⟩)
    · have h_28 : (c_.toInt < 0 ∨ j_crossings_2.toInt ≤ c_.toInt) := h_28
      refine lv_if_ne (tgt := 18) hx hb dX12_mean_13 (by decide) (fun q => absurd (by decide) q) (fun _ => ?_)
      refine lv_iconst (v := (-1)) hx hb dX12_mean_16 (by decide) ?_
      have G := G.sub (bs' := [[zO11 mo m_all m_has i_size i_next i_where i_token i_number i_word i_wrong i_farCrossing m_read j_z0_1 j_crossings_2 j_inns_3 m_posts m_shut m_here j_steps_4 j_done_5 i_at i_gone m_was m_came m_seenAt m_rowWorth m_farBy m_used i_everywhere i_again0 i_d0 i_never i_firstCame i_longRun i_moved i_crowd i_l0 i_fitMany i_fitLeast i_fitMost m_fitPost m_fitEnd m_keptPosts i_x0], [zAr T 0 m_all 3952 f_all], [zAr T 0 m_posts 7 g_posts_6], [zAr T 0 m_shut 7 g_shut_7], [zAr T 0 m_here 7 g_here_8], [zAr T 0 m_was 7 f_was]]) [5, 1, 2, 3, 4, 0] rfl
      exact z_back hQz_ (z_iret C hr hlocks G (Nat.le_of_ble_eq_true rfl) (Nat.le_of_ble_eq_true rfl) dX12_mean_17 ⟨j_z0_1, j_crossings_2, j_inns_3, j_steps_4, j_done_5, i_at, i_gone, g_posts_6, g_shut_7, g_here_8, f_was, rfl⟩)
  · have h_23 : (l_.toInt < 0 ∨ (f_all 0).toInt ≤ l_.toInt) := h_23
    refine lv_if_eq (tgt := 16) hx hb dX12_mean_5 (by decide) (fun _ => ?_) (fun q => absurd (by decide) q)
    refine lv_iconst (v := (-1)) hx hb dX12_mean_16 (by decide) ?_
    have G := G.sub (bs' := [[zO11 mo m_all m_has i_size i_next i_where i_token i_number i_word i_wrong i_farCrossing m_read j_z0_1 j_crossings_2 j_inns_3 m_posts m_shut m_here j_steps_4 j_done_5 i_at i_gone m_was m_came m_seenAt m_rowWorth m_farBy m_used i_everywhere i_again0 i_d0 i_never i_firstCame i_longRun i_moved i_crowd i_l0 i_fitMany i_fitLeast i_fitMost m_fitPost m_fitEnd m_keptPosts i_x0], [zAr T 0 m_all 3952 f_all], [zAr T 0 m_posts 7 g_posts_6], [zAr T 0 m_shut 7 g_shut_7], [zAr T 0 m_here 7 g_here_8], [zAr T 0 m_was 7 f_was]]) [1, 2, 3, 4, 5, 0] rfl
    exact z_back hQz_ (z_iret C hr hlocks G (Nat.le_of_ble_eq_true rfl) (Nat.le_of_ble_eq_true rfl) dX12_mean_17 ⟨j_z0_1, j_crossings_2, j_inns_3, j_steps_4, j_done_5, i_at, i_gone, g_posts_6, g_shut_7, g_here_8, f_was, rfl⟩)
set_option maxHeartbeats 4000000 in
set_option maxRecDepth 100000 in
/-- c_m_longest -/
theorem c_m_longest (l : Launch) (T : zTy) (mo : Nat) (m_all : Nat) (m_has : Nat) (i_size : Int32) (i_next : Int32) (i_where : Int32) (i_token : Int32) (i_number : Int32) (i_word : Int32) (i_wrong : Int32) (i_farCrossing : Int32) (m_read : Nat) (i_z0 : Int32) (i_crossings : Int32) (i_inns : Int32) (m_posts : Nat) (m_shut : Nat) (m_here : Nat) (i_steps : Int32) (i_done : Int32) (i_at : Int32) (i_gone : Int32) (m_was : Nat) (m_came : Nat) (m_seenAt : Nat) (m_rowWorth : Nat) (m_farBy : Nat) (m_used : Nat) (i_everywhere : Int32) (i_again0 : Int32) (i_d0 : Int32) (i_never : Int32) (i_firstCame : Int32) (i_longRun : Int32) (i_moved : Int32) (i_crowd : Int32) (i_l0 : Int32) (i_fitMany : Int32) (i_fitLeast : Int32) (i_fitMost : Int32) (m_fitPost : Nat) (m_fitEnd : Nat) (m_keptPosts : Nat) (i_x0 : Int32) (f_all : Nat → Int32) (f_posts : Nat → Int32) (f_shut : Nat → Int32) (f_here : Nat → Int32) (f_was : Nat → Int32) (l_ : Int32) (c_ : Int32) (s_ : Int32) (u_ : Int32) (hB : zBI f_all) : zMi l T yX12_longest cX12_longest 9 (some .int) 6 0 0 [.ref mo, .int l_, .int c_, .int s_, .int u_] [[zO11 mo m_all m_has i_size i_next i_where i_token i_number i_word i_wrong i_farCrossing m_read i_z0 i_crossings i_inns m_posts m_shut m_here i_steps i_done i_at i_gone m_was m_came m_seenAt m_rowWorth m_farBy m_used i_everywhere i_again0 i_d0 i_never i_firstCame i_longRun i_moved i_crowd i_l0 i_fitMany i_fitLeast i_fitMost m_fitPost m_fitEnd m_keptPosts i_x0], [zAr T 0 m_all 3952 f_all], [zAr T 0 m_posts 7 f_posts], [zAr T 0 m_shut 7 f_shut], [zAr T 0 m_here 7 f_here], [zAr T 0 m_was 7 f_was]] (fun (r : Int32) bs => ∃ (j_z0 : Int32) (j_crossings : Int32) (j_inns : Int32) (j_steps : Int32) (j_done : Int32) (j_at : Int32) (j_gone : Int32) (g_posts : Nat → Int32) (g_shut : Nat → Int32) (g_here : Nat → Int32) (g_was : Nat → Int32), bs = [[zO11 mo m_all m_has i_size i_next i_where i_token i_number i_word i_wrong i_farCrossing m_read j_z0 j_crossings j_inns m_posts m_shut m_here j_steps j_done j_at j_gone m_was m_came m_seenAt m_rowWorth m_farBy m_used i_everywhere i_again0 i_d0 i_never i_firstCame i_longRun i_moved i_crowd i_l0 i_fitMany i_fitLeast i_fitMost m_fitPost m_fitEnd m_keptPosts i_x0], [zAr T 0 m_all 3952 f_all], [zAr T 0 m_posts 7 g_posts], [zAr T 0 m_shut 7 g_shut], [zAr T 0 m_here 7 g_here], [zAr T 0 m_was 7 g_was]]) := by
  refine zMi_of (own := RX12) (by decide) rfl (Nat.le_of_ble_eq_true rfl) ?_
  intro p e s m args below meth c A ls C hr hlocks hnm hAe G hl
  refine zHide (fun Qz_ hQz_ => ?_)
  have hx := C.1
  have hb := C.2.1
  have hl : lv_has ls 9 [(0, .ref mo), (1, .int l_), (2, .int c_), (3, .int s_), (4, .int u_)] := hl
  refine lv_aload_n hx hb dX12_longest_0 rfl (lv_at hl 0 rfl) ?_
  refine lv_iload_n hx hb dX12_longest_1 rfl (lv_at hl 1 rfl) ?_
  refine z_Vi (bc := [[zO11 mo m_all m_has i_size i_next i_where i_token i_number i_word i_wrong i_farCrossing m_read i_z0 i_crossings i_inns m_posts m_shut m_here i_steps i_done i_at i_gone m_was m_came m_seenAt m_rowWorth m_farBy m_used i_everywhere i_again0 i_d0 i_never i_firstCame i_longRun i_moved i_crowd i_l0 i_fitMany i_fitLeast i_fitMost m_fitPost m_fitEnd m_keptPosts i_x0], [zAr T 0 m_all 3952 f_all], [zAr T 0 m_posts 7 f_posts], [zAr T 0 m_shut 7 f_shut], [zAr T 0 m_here 7 f_here]]) (br := [[zAr T 0 m_was 7 f_was]]) (As := [.int l_]) (rest := []) C G (c_m_isLand l T mo m_all m_has i_size i_next i_where i_token i_number i_word i_wrong i_farCrossing m_read i_z0 i_crossings i_inns m_posts m_shut m_here i_steps i_done i_at i_gone m_was m_came m_seenAt m_rowWorth m_farBy m_used i_everywhere i_again0 i_d0 i_never i_firstCame i_longRun i_moved i_crowd i_l0 i_fitMany i_fitLeast i_fitMost m_fitPost m_fitEnd m_keptPosts i_x0 f_all f_posts f_shut f_here l_ (by first | with_reducible assumption | with_reducible rfl | omega | assumption | rfl | decide)) (kV_RX12_184 C.2.2.2.2 (Nat.le_of_ble_eq_true rfl) (Nat.le_of_ble_eq_true rfl)) [0, 1, 2, 3, 4] [0, 0, 0, 0, 0] rfl rfl (ci := 11) (qc := (RX12, TX12, 43)) rfl rfl (List.mem_flatten.mpr ⟨_, List.mem_of_getElem? (i := 0) rfl, List.mem_cons_self⟩) rfl rfl hl.1 dX12_longest_2 (Nat.le_of_ble_eq_true rfl) (Nat.le_of_ble_eq_true rfl) (fun r_10 b1 H locs hw G => ?_)
  refine zEx8 hw ?_
  intro j_z0_1 j_crossings_2 j_inns_3 j_steps_4 j_done_5 g_posts_6 g_shut_7 g_here_8
  refine zCu2 ?_
  intro hbs9 hc_9
  clear hw
  subst hbs9
  have G : zS T A s.heap s [[zAr T 0 m_was 7 f_was], [zO11 mo m_all m_has i_size i_next i_where i_token i_number i_word i_wrong i_farCrossing m_read j_z0_1 j_crossings_2 j_inns_3 m_posts m_shut m_here j_steps_4 j_done_5 i_at i_gone m_was m_came m_seenAt m_rowWorth m_farBy m_used i_everywhere i_again0 i_d0 i_never i_firstCame i_longRun i_moved i_crowd i_l0 i_fitMany i_fitLeast i_fitMost m_fitPost m_fitEnd m_keptPosts i_x0], [zAr T 0 m_all 3952 f_all], [zAr T 0 m_posts 7 g_posts_6], [zAr T 0 m_shut 7 g_shut_7], [zAr T 0 m_here 7 g_here_8]] _ _ := G
  rcases hc_9 with ⟨rfl, h_11, h_12, h_13, h_14, h_15, h_16, h_17, h_18, h_19, h_20, h_21, h_22⟩ | ⟨rfl, h_23⟩
  · have h_11 : 0 ≤ l_.toInt := h_11
    have h_12 : l_.toInt ≤ 1 := h_12
    have h_13 : l_.toInt < (f_all 0).toInt := h_13
    have h_14 : j_z0_1.toInt = 610 + 51 * l_.toInt := h_14
    have h_15 : zML f_all j_z0_1 j_crossings_2 := h_15
    have h_16 : zMP g_posts_6 := h_16
    have h_17 : j_inns_3 = f_all (j_z0_1.toInt.toNat + 1) := h_17
    have h_18 : j_steps_4 = 0 := h_18
    have h_19 : j_done_5 = 0 := h_19
    have h_20 : (∀ j, j < 7 → g_posts_6 j = zPt f_all j_z0_1 (nI j)) := h_20
    have h_21 : (∀ j, j < 7 → g_shut_7 j = 0) := h_21
    have h_22 : (∀ j, j < 7 → g_here_8 j = zWk f_all j_z0_1 j) := h_22
    have hLx := h_15
    have hcr := hLx.cr
    have hzx := hLx.1
    have hPx := h_16
    refine lv_if_eq (tgt := 16) hx hb dX12_longest_5 (by decide) (fun q => absurd q (by decide)) (fun _ => ?_)
    refine lv_aload_n hx hb dX12_longest_8 rfl (lv_at hl 0 rfl) ?_
    refine lv_iload_n hx hb dX12_longest_9 rfl (lv_at hl 2 rfl) ?_
    refine z_Vi (bc := [[zO11 mo m_all m_has i_size i_next i_where i_token i_number i_word i_wrong i_farCrossing m_read j_z0_1 j_crossings_2 j_inns_3 m_posts m_shut m_here j_steps_4 j_done_5 i_at i_gone m_was m_came m_seenAt m_rowWorth m_farBy m_used i_everywhere i_again0 i_d0 i_never i_firstCame i_longRun i_moved i_crowd i_l0 i_fitMany i_fitLeast i_fitMost m_fitPost m_fitEnd m_keptPosts i_x0]]) (br := [[zAr T 0 m_was 7 f_was], [zAr T 0 m_all 3952 f_all], [zAr T 0 m_posts 7 g_posts_6], [zAr T 0 m_shut 7 g_shut_7], [zAr T 0 m_here 7 g_here_8]]) (As := [.int c_]) (rest := []) C G (c_m_isCrossing l T mo m_all m_has i_size i_next i_where i_token i_number i_word i_wrong i_farCrossing m_read j_z0_1 j_crossings_2 j_inns_3 m_posts m_shut m_here j_steps_4 j_done_5 i_at i_gone m_was m_came m_seenAt m_rowWorth m_farBy m_used i_everywhere i_again0 i_d0 i_never i_firstCame i_longRun i_moved i_crowd i_l0 i_fitMany i_fitLeast i_fitMost m_fitPost m_fitEnd m_keptPosts i_x0 c_ (by first | with_reducible assumption | with_reducible rfl | omega | assumption | rfl | decide)) (kV_RX12_187 C.2.2.2.2 (Nat.le_of_ble_eq_true rfl) (Nat.le_of_ble_eq_true rfl)) [1] [1] rfl rfl (ci := 11) (qc := (RX12, TX12, 43)) rfl rfl (List.mem_flatten.mpr ⟨_, List.mem_of_getElem? (i := 0) rfl, List.mem_cons_self⟩) rfl rfl hl.1 dX12_longest_10 (Nat.le_of_ble_eq_true rfl) (Nat.le_of_ble_eq_true rfl) (fun r_25 b1 H locs hw G => ?_)
    refine zAn2 hw ?_
    intro hbs9 hc_24
    clear hw
    subst hbs9
    have G : zS T A s.heap s [[zAr T 0 m_was 7 f_was], [zAr T 0 m_all 3952 f_all], [zAr T 0 m_posts 7 g_posts_6], [zAr T 0 m_shut 7 g_shut_7], [zAr T 0 m_here 7 g_here_8], [zO11 mo m_all m_has i_size i_next i_where i_token i_number i_word i_wrong i_farCrossing m_read j_z0_1 j_crossings_2 j_inns_3 m_posts m_shut m_here j_steps_4 j_done_5 i_at i_gone m_was m_came m_seenAt m_rowWorth m_farBy m_used i_everywhere i_again0 i_d0 i_never i_firstCame i_longRun i_moved i_crowd i_l0 i_fitMany i_fitLeast i_fitMost m_fitPost m_fitEnd m_keptPosts i_x0]] _ _ := G
    rcases hc_24 with ⟨rfl, h_26, h_27⟩ | ⟨rfl, h_28⟩
    · have h_26 : 0 ≤ c_.toInt := h_26
      have h_27 : c_.toInt < j_crossings_2.toInt := h_27
      refine lv_if_ne (tgt := 18) hx hb dX12_longest_13 (by decide) (fun _ => ?_) (fun q => absurd q (by decide))
      refine lv_aload_n hx hb dX12_longest_18 rfl (lv_at hl 0 rfl) ?_
      refine z_Vi (bc := [[zO11 mo m_all m_has i_size i_next i_where i_token i_number i_word i_wrong i_farCrossing m_read j_z0_1 j_crossings_2 j_inns_3 m_posts m_shut m_here j_steps_4 j_done_5 i_at i_gone m_was m_came m_seenAt m_rowWorth m_farBy m_used i_everywhere i_again0 i_d0 i_never i_firstCame i_longRun i_moved i_crowd i_l0 i_fitMany i_fitLeast i_fitMost m_fitPost m_fitEnd m_keptPosts i_x0], [zAr T 0 m_all 3952 f_all]]) (br := [[zAr T 0 m_was 7 f_was], [zAr T 0 m_posts 7 g_posts_6], [zAr T 0 m_shut 7 g_shut_7], [zAr T 0 m_here 7 g_here_8]]) (As := []) (rest := []) C G (c_m_waysMany l T mo m_all m_has i_size i_next i_where i_token i_number i_word i_wrong i_farCrossing m_read j_z0_1 j_crossings_2 j_inns_3 m_posts m_shut m_here j_steps_4 j_done_5 i_at i_gone m_was m_came m_seenAt m_rowWorth m_farBy m_used i_everywhere i_again0 i_d0 i_never i_firstCame i_longRun i_moved i_crowd i_l0 i_fitMany i_fitLeast i_fitMost m_fitPost m_fitEnd m_keptPosts i_x0 f_all (by first | with_reducible assumption | with_reducible rfl | omega | assumption | rfl | decide)) (kV_RX12_229 C.2.2.2.2 (Nat.le_of_ble_eq_true rfl) (Nat.le_of_ble_eq_true rfl)) [5, 1] [1, 3] rfl rfl (ci := 11) (qc := (RX12, TX12, 43)) rfl rfl (List.mem_flatten.mpr ⟨_, List.mem_of_getElem? (i := 0) rfl, List.mem_cons_self⟩) rfl rfl hl.1 dX12_longest_19 (Nat.le_of_ble_eq_true rfl) (Nat.le_of_ble_eq_true rfl) (fun r_31 b1 H locs hw G => ?_)
      refine zAn3 hw ?_
      intro hbs9 h_29 h_30
      clear hw
      subst hbs9
      have G : zS T A s.heap s [[zAr T 0 m_was 7 f_was], [zAr T 0 m_posts 7 g_posts_6], [zAr T 0 m_shut 7 g_shut_7], [zAr T 0 m_here 7 g_here_8], [zO11 mo m_all m_has i_size i_next i_where i_token i_number i_word i_wrong i_farCrossing m_read j_z0_1 j_crossings_2 j_inns_3 m_posts m_shut m_here j_steps_4 j_done_5 i_at i_gone m_was m_came m_seenAt m_rowWorth m_farBy m_used i_everywhere i_again0 i_d0 i_never i_firstCame i_longRun i_moved i_crowd i_l0 i_fitMany i_fitLeast i_fitMost m_fitPost m_fitEnd m_keptPosts i_x0], [zAr T 0 m_all 3952 f_all]] _ _ := G
      refine lv_istore (lv' := [(5, .int r_31), (0, .ref mo), (1, .int l_), (2, .int c_), (3, .int s_), (4, .int u_)]) hx hb dX12_longest_22 hl (by decide) (zLvf_h rfl) (fun ls hl => ?_)
      refine lv_iconst (v := (-1)) hx hb dX12_longest_24 (by decide) ?_
      refine lv_istore (lv' := [(6, .int (-1)), (5, .int r_31), (0, .ref mo), (1, .int l_), (2, .int c_), (3, .int s_), (4, .int u_)]) hx hb dX12_longest_25 hl (by decide) (zLvf_h rfl) (fun ls hl => ?_)
      refine lv_iconst (v := 0) hx hb dX12_longest_27 (by decide) ?_
      refine lv_istore (lv' := [(7, .int 0), (6, .int (-1)), (5, .int r_31), (0, .ref mo), (1, .int l_), (2, .int c_), (3, .int s_), (4, .int u_)]) hx hb dX12_longest_28 hl (by decide) (zLvf_h rfl) (fun ls hl => ?_)
      refine lv_iconst (v := 0) hx hb dX12_longest_30 (by decide) ?_
      refine lv_istore (lv' := [(8, .int 0), (7, .int 0), (6, .int (-1)), (5, .int r_31), (0, .ref mo), (1, .int l_), (2, .int c_), (3, .int s_), (4, .int u_)]) hx hb dX12_longest_31 hl (by decide) (zLvf_h rfl) (fun ls hl => ?_)
      refine z_lp7 (T := T) 33 (fun (w : Nat) (x : Int32) (u : Int32) (xat : Int32) (xgone : Int32) (xposts : Nat → Int32) (xwas : Nat → Int32) => [[zAr T 0 m_was 7 xwas], [zAr T 0 m_posts 7 xposts], [zAr T 0 m_shut 7 g_shut_7], [zAr T 0 m_here 7 g_here_8], [zO11 mo m_all m_has i_size i_next i_where i_token i_number i_word i_wrong i_farCrossing m_read j_z0_1 j_crossings_2 j_inns_3 m_posts m_shut m_here j_steps_4 j_done_5 xat xgone m_was m_came m_seenAt m_rowWorth m_farBy m_used i_everywhere i_again0 i_d0 i_never i_firstCame i_longRun i_moved i_crowd i_l0 i_fitMany i_fitLeast i_fitMost m_fitPost m_fitEnd m_keptPosts i_x0], [zAr T 0 m_all 3952 f_all]]) (fun (w : Nat) (x : Int32) (u : Int32) (xat : Int32) (xgone : Int32) (xposts : Nat → Int32) (xwas : Nat → Int32) => [(8, .int (nI w)), (7, .int u), (6, .int x), (5, .int r_31), (0, .ref mo), (1, .int l_), (2, .int c_), (3, .int s_), (4, .int u_)]) (fun (w : Nat) (x : Int32) (u : Int32) (xat : Int32) (xgone : Int32) (xposts : Nat → Int32) (xwas : Nat → Int32) => w ≤ 16384 ∧ zMP xposts ∧ (x.toInt = -1 ∨ 0 ≤ x.toInt)) (fun (w : Nat) (x : Int32) (u : Int32) (xat : Int32) (xgone : Int32) (xposts : Nat → Int32) (xwas : Nat → Int32) => 16384 - w) ?_ 0 (-1) 0 i_at i_gone g_posts_6 f_was (show 0 ≤ 16384 ∧ zMP g_posts_6 ∧ (((-1) : Int32).toInt = -1 ∨ 0 ≤ ((-1) : Int32).toInt) from ⟨by omega, (by first | with_reducible assumption | assumption), Or.inl (by decide)⟩) G (lv_sub hl [0, 1, 2, 3, 4, 5, 6, 7, 8] rfl)
      intro w x u xat xgone xposts xwas hI9 ih_33 H locs ls G hl
      replace hI9 : w ≤ 16384 ∧ zMP xposts ∧ (x.toInt = -1 ∨ 0 ≤ x.toInt) := hI9
      refine zAn3 hI9 ?_
      intro hww hQ hxx
      clear hI9
      replace G : zS T A s.heap s [[zAr T 0 m_was 7 xwas], [zAr T 0 m_posts 7 xposts], [zAr T 0 m_shut 7 g_shut_7], [zAr T 0 m_here 7 g_here_8], [zO11 mo m_all m_has i_size i_next i_where i_token i_number i_word i_wrong i_farCrossing m_read j_z0_1 j_crossings_2 j_inns_3 m_posts m_shut m_here j_steps_4 j_done_5 xat xgone m_was m_came m_seenAt m_rowWorth m_farBy m_used i_everywhere i_again0 i_d0 i_never i_firstCame i_longRun i_moved i_crowd i_l0 i_fitMany i_fitLeast i_fitMost m_fitPost m_fitEnd m_keptPosts i_x0], [zAr T 0 m_all 3952 f_all]] _ _ := G
      replace hl : lv_has ls 9 [(8, .int (nI w)), (7, .int u), (6, .int x), (5, .int r_31), (0, .ref mo), (1, .int l_), (2, .int c_), (3, .int s_), (4, .int u_)] := hl
      refine lv_iload hx hb dX12_longest_33 (lv_at hl 0 rfl) ?_
      refine lv_iload hx hb dX12_longest_35 (lv_at hl 3 rfl) ?_
      refine lv_icmp_ge (tgt := 104) hx hb dX12_longest_37 (by decide) (fun c_32 => ?_) (fun c_32 => ?_)
      · have c_32n : r_31.toInt ≤ (w : Int) := by have q := (fa_le _ _).mp c_32; rw [nI_toInt (n := w) (by omega)] at q; exact q
        refine lv_iload hx hb dX12_longest_104 (lv_at hl 2 rfl) ?_
        refine lv_iconst (v := (-1)) hx hb dX12_longest_106 (by decide) ?_
        refine lv_icmp_ne (tgt := 114) hx hb dX12_longest_107 (by decide) (fun c_33 => ?_) (fun c_33 => ?_)
        · have c_33n : ¬ x.toInt = (-1 : Int) := fun q => c_33 ((fa_eq _ _).mpr q)
          refine lv_iload hx hb dX12_longest_114 (lv_at hl 8 rfl) ?_
          refine lv_if_eq (tgt := 128) hx hb dX12_longest_116 (by decide) (fun c_34 => ?_) (fun c_34 => ?_)
          · have c_34n : u_.toInt = (0 : Int) := (fa_eq _ _).mp c_34
            refine lv_iload hx hb dX12_longest_128 (lv_at hl 1 rfl) ?_
            have G := G.sub (bs' := [[zO11 mo m_all m_has i_size i_next i_where i_token i_number i_word i_wrong i_farCrossing m_read j_z0_1 j_crossings_2 j_inns_3 m_posts m_shut m_here j_steps_4 j_done_5 xat xgone m_was m_came m_seenAt m_rowWorth m_farBy m_used i_everywhere i_again0 i_d0 i_never i_firstCame i_longRun i_moved i_crowd i_l0 i_fitMany i_fitLeast i_fitMost m_fitPost m_fitEnd m_keptPosts i_x0], [zAr T 0 m_all 3952 f_all], [zAr T 0 m_posts 7 xposts], [zAr T 0 m_shut 7 g_shut_7], [zAr T 0 m_here 7 g_here_8], [zAr T 0 m_was 7 xwas]]) [4, 5, 1, 2, 3, 0] rfl
            exact z_back hQz_ (z_iret C hr hlocks G (Nat.le_of_ble_eq_true rfl) (Nat.le_of_ble_eq_true rfl) dX12_longest_130 ⟨j_z0_1, j_crossings_2, j_inns_3, j_steps_4, j_done_5, xat, xgone, xposts, g_shut_7, g_here_8, xwas, rfl⟩)
          · have c_34n : ¬ u_.toInt = (0 : Int) := fun q => c_34 ((fa_eq _ _).mpr q)
            refine lv_aload_n hx hb dX12_longest_119 rfl (lv_at hl 4 rfl) ?_
            refine lv_iload hx hb dX12_longest_120 (lv_at hl 2 rfl) ?_
            refine z_Vi (bc := [[zO11 mo m_all m_has i_size i_next i_where i_token i_number i_word i_wrong i_farCrossing m_read j_z0_1 j_crossings_2 j_inns_3 m_posts m_shut m_here j_steps_4 j_done_5 xat xgone m_was m_came m_seenAt m_rowWorth m_farBy m_used i_everywhere i_again0 i_d0 i_never i_firstCame i_longRun i_moved i_crowd i_l0 i_fitMany i_fitLeast i_fitMost m_fitPost m_fitEnd m_keptPosts i_x0], [zAr T 0 m_all 3952 f_all], [zAr T 0 m_posts 7 xposts]]) (br := [[zAr T 0 m_was 7 xwas], [zAr T 0 m_shut 7 g_shut_7], [zAr T 0 m_here 7 g_here_8]]) (As := [.int x]) (rest := []) C G (c_m_numberOf l T mo m_all m_has i_size i_next i_where i_token i_number i_word i_wrong i_farCrossing m_read j_z0_1 j_crossings_2 j_inns_3 m_posts m_shut m_here j_steps_4 j_done_5 xat xgone m_was m_came m_seenAt m_rowWorth m_farBy m_used i_everywhere i_again0 i_d0 i_never i_firstCame i_longRun i_moved i_crowd i_l0 i_fitMany i_fitLeast i_fitMost m_fitPost m_fitEnd m_keptPosts i_x0 f_all xposts x (by first | with_reducible assumption | with_reducible rfl | omega | assumption | rfl | decide) (by first | with_reducible assumption | with_reducible rfl | omega | assumption | rfl | decide) (by first | with_reducible assumption | with_reducible rfl | omega | assumption | rfl | decide)) (kV_RX12_299 C.2.2.2.2 (Nat.le_of_ble_eq_true rfl) (Nat.le_of_ble_eq_true rfl)) [4, 5, 1] [1, 2, 0] rfl rfl (ci := 11) (qc := (RX12, TX12, 43)) rfl rfl (List.mem_flatten.mpr ⟨_, List.mem_of_getElem? (i := 0) rfl, List.mem_cons_self⟩) rfl rfl hl.1 dX12_longest_122 (Nat.le_of_ble_eq_true rfl) (Nat.le_of_ble_eq_true rfl) (fun r_37 b1 H locs hw G => ?_)
            refine zEx1 hw ?_
            intro g_posts_35
            refine zCu2 ?_
            intro hbs9 h_36
            clear hw
            subst hbs9
            have G : zS T A s.heap s [[zAr T 0 m_was 7 xwas], [zAr T 0 m_shut 7 g_shut_7], [zAr T 0 m_here 7 g_here_8], [zO11 mo m_all m_has i_size i_next i_where i_token i_number i_word i_wrong i_farCrossing m_read j_z0_1 j_crossings_2 j_inns_3 m_posts m_shut m_here j_steps_4 j_done_5 xat xgone m_was m_came m_seenAt m_rowWorth m_farBy m_used i_everywhere i_again0 i_d0 i_never i_firstCame i_longRun i_moved i_crowd i_l0 i_fitMany i_fitLeast i_fitMost m_fitPost m_fitEnd m_keptPosts i_x0], [zAr T 0 m_all 3952 f_all], [zAr T 0 m_posts 7 g_posts_35]] _ _ := G
            refine lv_goto (tgt := 130) hx hb dX12_longest_125 (by decide) ?_
            have G := G.sub (bs' := [[zO11 mo m_all m_has i_size i_next i_where i_token i_number i_word i_wrong i_farCrossing m_read j_z0_1 j_crossings_2 j_inns_3 m_posts m_shut m_here j_steps_4 j_done_5 xat xgone m_was m_came m_seenAt m_rowWorth m_farBy m_used i_everywhere i_again0 i_d0 i_never i_firstCame i_longRun i_moved i_crowd i_l0 i_fitMany i_fitLeast i_fitMost m_fitPost m_fitEnd m_keptPosts i_x0], [zAr T 0 m_all 3952 f_all], [zAr T 0 m_posts 7 g_posts_35], [zAr T 0 m_shut 7 g_shut_7], [zAr T 0 m_here 7 g_here_8], [zAr T 0 m_was 7 xwas]]) [3, 4, 5, 1, 2, 0] rfl
            exact z_back hQz_ (z_iret C hr hlocks G (Nat.le_of_ble_eq_true rfl) (Nat.le_of_ble_eq_true rfl) dX12_longest_130 ⟨j_z0_1, j_crossings_2, j_inns_3, j_steps_4, j_done_5, xat, xgone, g_posts_35, g_shut_7, g_here_8, xwas, rfl⟩)
        · have c_33n : x.toInt = (-1 : Int) := (fa_eq _ _).mp c_33
          refine lv_iconst (v := (-1)) hx hb dX12_longest_110 (by decide) ?_
          refine lv_goto (tgt := 130) hx hb dX12_longest_111 (by decide) ?_
          have G := G.sub (bs' := [[zO11 mo m_all m_has i_size i_next i_where i_token i_number i_word i_wrong i_farCrossing m_read j_z0_1 j_crossings_2 j_inns_3 m_posts m_shut m_here j_steps_4 j_done_5 xat xgone m_was m_came m_seenAt m_rowWorth m_farBy m_used i_everywhere i_again0 i_d0 i_never i_firstCame i_longRun i_moved i_crowd i_l0 i_fitMany i_fitLeast i_fitMost m_fitPost m_fitEnd m_keptPosts i_x0], [zAr T 0 m_all 3952 f_all], [zAr T 0 m_posts 7 xposts], [zAr T 0 m_shut 7 g_shut_7], [zAr T 0 m_here 7 g_here_8], [zAr T 0 m_was 7 xwas]]) [4, 5, 1, 2, 3, 0] rfl
          exact z_back hQz_ (z_iret C hr hlocks G (Nat.le_of_ble_eq_true rfl) (Nat.le_of_ble_eq_true rfl) dX12_longest_130 ⟨j_z0_1, j_crossings_2, j_inns_3, j_steps_4, j_done_5, xat, xgone, xposts, g_shut_7, g_here_8, xwas, rfl⟩)
      · have c_32n : ¬ r_31.toInt ≤ (w : Int) := fun q => c_32 ((fa_le _ _).mpr (by rw [nI_toInt (n := w) (by omega)]; exact q))
        refine lv_aload_n hx hb dX12_longest_40 rfl (lv_at hl 4 rfl) ?_
        refine lv_iload hx hb dX12_longest_41 (lv_at hl 0 rfl) ?_
        have ti_38 : (nI w).toInt = ((w : Nat) : Int) := nI_toInt (by omega)
        refine z_Vv (bc := [[zO11 mo m_all m_has i_size i_next i_where i_token i_number i_word i_wrong i_farCrossing m_read j_z0_1 j_crossings_2 j_inns_3 m_posts m_shut m_here j_steps_4 j_done_5 xat xgone m_was m_came m_seenAt m_rowWorth m_farBy m_used i_everywhere i_again0 i_d0 i_never i_firstCame i_longRun i_moved i_crowd i_l0 i_fitMany i_fitLeast i_fitMost m_fitPost m_fitEnd m_keptPosts i_x0], [zAr T 0 m_all 3952 f_all], [zAr T 0 m_posts 7 xposts]]) (br := [[zAr T 0 m_was 7 xwas], [zAr T 0 m_shut 7 g_shut_7], [zAr T 0 m_here 7 g_here_8]]) (As := [.int (nI w)]) (rest := []) C G (c_m_setsWay l T mo m_all m_has i_size i_next i_where i_token i_number i_word i_wrong i_farCrossing m_read j_z0_1 j_crossings_2 j_inns_3 m_posts m_shut m_here j_steps_4 j_done_5 xat xgone m_was m_came m_seenAt m_rowWorth m_farBy m_used i_everywhere i_again0 i_d0 i_never i_firstCame i_longRun i_moved i_crowd i_l0 i_fitMany i_fitLeast i_fitMost m_fitPost m_fitEnd m_keptPosts i_x0 f_all xposts (nI w) (by first | with_reducible assumption | with_reducible rfl | omega | assumption | rfl | decide) (by first | with_reducible assumption | with_reducible rfl | omega | assumption | rfl | decide) (by first | with_reducible assumption | with_reducible rfl | omega | assumption | rfl | decide)) (kV_RX12_226 C.2.2.2.2 (Nat.le_of_ble_eq_true rfl) (Nat.le_of_ble_eq_true rfl)) [4, 5, 1] [1, 2, 0] rfl rfl (ci := 11) (qc := (RX12, TX12, 43)) rfl rfl (List.mem_flatten.mpr ⟨_, List.mem_of_getElem? (i := 0) rfl, List.mem_cons_self⟩) rfl rfl hl.1 dX12_longest_43 (Nat.le_of_ble_eq_true rfl) (Nat.le_of_ble_eq_true rfl) (fun b1 H locs hw G => ?_)
        refine zEx1 hw ?_
        intro g_posts_39
        refine zCu2 ?_
        intro hbs9 h_40
        clear hw
        subst hbs9
        have G : zS T A s.heap s [[zAr T 0 m_was 7 xwas], [zAr T 0 m_shut 7 g_shut_7], [zAr T 0 m_here 7 g_here_8], [zO11 mo m_all m_has i_size i_next i_where i_token i_number i_word i_wrong i_farCrossing m_read j_z0_1 j_crossings_2 j_inns_3 m_posts m_shut m_here j_steps_4 j_done_5 xat xgone m_was m_came m_seenAt m_rowWorth m_farBy m_used i_everywhere i_again0 i_d0 i_never i_firstCame i_longRun i_moved i_crowd i_l0 i_fitMany i_fitLeast i_fitMost m_fitPost m_fitEnd m_keptPosts i_x0], [zAr T 0 m_all 3952 f_all], [zAr T 0 m_posts 7 g_posts_39]] _ _ := G
        refine lv_aload_n hx hb dX12_longest_46 rfl (lv_at hl 4 rfl) ?_
        refine lv_iload_n hx hb dX12_longest_47 rfl (lv_at hl 6 rfl) ?_
        refine z_Vi (bc := [[zO11 mo m_all m_has i_size i_next i_where i_token i_number i_word i_wrong i_farCrossing m_read j_z0_1 j_crossings_2 j_inns_3 m_posts m_shut m_here j_steps_4 j_done_5 xat xgone m_was m_came m_seenAt m_rowWorth m_farBy m_used i_everywhere i_again0 i_d0 i_never i_firstCame i_longRun i_moved i_crowd i_l0 i_fitMany i_fitLeast i_fitMost m_fitPost m_fitEnd m_keptPosts i_x0], [zAr T 0 m_all 3952 f_all], [zAr T 0 m_posts 7 g_posts_39], [zAr T 0 m_shut 7 g_shut_7], [zAr T 0 m_was 7 xwas]]) (br := [[zAr T 0 m_here 7 g_here_8]]) (As := [.int c_]) (rest := []) C G (c_m_walks l T mo m_all m_has i_size i_next i_where i_token i_number i_word i_wrong i_farCrossing m_read j_z0_1 j_crossings_2 j_inns_3 m_posts m_shut m_here j_steps_4 j_done_5 xat xgone m_was m_came m_seenAt m_rowWorth m_farBy m_used i_everywhere i_again0 i_d0 i_never i_firstCame i_longRun i_moved i_crowd i_l0 i_fitMany i_fitLeast i_fitMost m_fitPost m_fitEnd m_keptPosts i_x0 f_all g_posts_39 g_shut_7 xwas c_ (by first | with_reducible assumption | with_reducible rfl | omega | assumption | rfl | decide) (by first | with_reducible assumption | with_reducible rfl | omega | assumption | rfl | decide) (by first | with_reducible assumption | with_reducible rfl | omega | assumption | rfl | decide) (by first | with_reducible assumption | with_reducible rfl | omega | assumption | rfl | decide)) (kV_RX12_217 C.2.2.2.2 (Nat.le_of_ble_eq_true rfl) (Nat.le_of_ble_eq_true rfl)) [3, 4, 5, 1, 0] [0, 0, 1, 0, 0] rfl rfl (ci := 11) (qc := (RX12, TX12, 43)) rfl rfl (List.mem_flatten.mpr ⟨_, List.mem_of_getElem? (i := 0) rfl, List.mem_cons_self⟩) rfl rfl hl.1 dX12_longest_48 (Nat.le_of_ble_eq_true rfl) (Nat.le_of_ble_eq_true rfl) (fun r_52 b1 H locs hw G => ?_)
        refine zEx4 hw ?_
        intro j_at_42 j_gone_43 g_posts_44 g_was_45
        refine zCu7 ?_
        intro hbs9 h_46 h_47 h_48 h_49 h_50 h_51
        clear hw
        subst hbs9
        have G : zS T A s.heap s [[zAr T 0 m_here 7 g_here_8], [zO11 mo m_all m_has i_size i_next i_where i_token i_number i_word i_wrong i_farCrossing m_read j_z0_1 j_crossings_2 j_inns_3 m_posts m_shut m_here j_steps_4 j_done_5 j_at_42 j_gone_43 m_was m_came m_seenAt m_rowWorth m_farBy m_used i_everywhere i_again0 i_d0 i_never i_firstCame i_longRun i_moved i_crowd i_l0 i_fitMany i_fitLeast i_fitMost m_fitPost m_fitEnd m_keptPosts i_x0], [zAr T 0 m_all 3952 f_all], [zAr T 0 m_posts 7 g_posts_44], [zAr T 0 m_shut 7 g_shut_7], [zAr T 0 m_was 7 g_was_45]] _ _ := G
        replace h_46 : zHd ((r_52 = 0 ∨ r_52 = 1)) := h_46
        refine lv_if_eq (tgt := 98) hx hb dX12_longest_51 (by decide) (fun c_53 => ?_) (fun c_53 => ?_)
        · have c_53n : r_52.toInt = (0 : Int) := (fa_eq _ _).mp c_53
          refine lv_iinc (v := nI (w + 1)) (lv' := [(8, .int (nI (w + 1))), (7, .int u), (6, .int x), (5, .int r_31), (0, .ref mo), (1, .int l_), (2, .int c_), (3, .int s_), (4, .int u_)]) hx hb dX12_longest_98 hl (k := 0) rfl (z_inc w 1) (by decide) (zLvf_h rfl) (fun ls hl => ?_)
          refine lv_goto (tgt := 33) hx hb dX12_longest_101 (by decide) ?_
          have G := G.sub (bs' := [[zAr T 0 m_was 7 g_was_45], [zAr T 0 m_posts 7 g_posts_44], [zAr T 0 m_shut 7 g_shut_7], [zAr T 0 m_here 7 g_here_8], [zO11 mo m_all m_has i_size i_next i_where i_token i_number i_word i_wrong i_farCrossing m_read j_z0_1 j_crossings_2 j_inns_3 m_posts m_shut m_here j_steps_4 j_done_5 j_at_42 j_gone_43 m_was m_came m_seenAt m_rowWorth m_farBy m_used i_everywhere i_again0 i_d0 i_never i_firstCame i_longRun i_moved i_crowd i_l0 i_fitMany i_fitLeast i_fitMost m_fitPost m_fitEnd m_keptPosts i_x0], [zAr T 0 m_all 3952 f_all]]) [5, 3, 4, 0, 1, 2] rfl
          exact ih_33 (w + 1) x u j_at_42 j_gone_43 g_posts_44 g_was_45 (show (w + 1) ≤ 16384 ∧ zMP g_posts_44 ∧ (x.toInt = -1 ∨ 0 ≤ x.toInt) from ⟨by omega, (by first | with_reducible assumption | assumption), by have t9 := nI_toInt (n := w) (by omega); omega⟩) (show 16384 - (w + 1) < 16384 - w from by omega) _ _ ls G (lv_sub hl [0, 1, 2, 3, 4, 5, 6, 7, 8] rfl)
        · have c_53n : ¬ r_52.toInt = (0 : Int) := fun q => c_53 ((fa_eq _ _).mpr q)
          refine lv_iload hx hb dX12_longest_54 (lv_at hl 2 rfl) ?_
          refine lv_iconst (v := (-1)) hx hb dX12_longest_56 (by decide) ?_
          refine lv_icmp_eq (tgt := 88) hx hb dX12_longest_57 (by decide) (fun c_54 => ?_) (fun c_54 => ?_)
          · have c_54n : x.toInt = (-1 : Int) := (fa_eq _ _).mp c_54
            refine lv_iload hx hb dX12_longest_88 (lv_at hl 0 rfl) ?_
            refine lv_istore (lv' := [(6, .int (nI w)), (8, .int (nI w)), (7, .int u), (5, .int r_31), (0, .ref mo), (1, .int l_), (2, .int c_), (3, .int s_), (4, .int u_)]) hx hb dX12_longest_90 hl (by decide) (zLvf_h rfl) (fun ls hl => ?_)
            refine lv_aload_n hx hb dX12_longest_92 rfl (lv_at hl 4 rfl) ?_
            refine z_get C G clX12 1 rfl 20 (by decide) m_fl_RX12_208 rfl dX12_longest_93 ?_
            refine lv_istore (lv' := [(7, .int j_gone_43), (6, .int (nI w)), (8, .int (nI w)), (5, .int r_31), (0, .ref mo), (1, .int l_), (2, .int c_), (3, .int s_), (4, .int u_)]) hx hb dX12_longest_96 hl (by decide) (zLvf_h rfl) (fun ls hl => ?_)
            refine lv_iinc (v := nI (w + 1)) (lv' := [(8, .int (nI (w + 1))), (7, .int j_gone_43), (6, .int (nI w)), (5, .int r_31), (0, .ref mo), (1, .int l_), (2, .int c_), (3, .int s_), (4, .int u_)]) hx hb dX12_longest_98 hl (k := 2) rfl (z_inc w 1) (by decide) (zLvf_h rfl) (fun ls hl => ?_)
            refine lv_goto (tgt := 33) hx hb dX12_longest_101 (by decide) ?_
            have G := G.sub (bs' := [[zAr T 0 m_was 7 g_was_45], [zAr T 0 m_posts 7 g_posts_44], [zAr T 0 m_shut 7 g_shut_7], [zAr T 0 m_here 7 g_here_8], [zO11 mo m_all m_has i_size i_next i_where i_token i_number i_word i_wrong i_farCrossing m_read j_z0_1 j_crossings_2 j_inns_3 m_posts m_shut m_here j_steps_4 j_done_5 j_at_42 j_gone_43 m_was m_came m_seenAt m_rowWorth m_farBy m_used i_everywhere i_again0 i_d0 i_never i_firstCame i_longRun i_moved i_crowd i_l0 i_fitMany i_fitLeast i_fitMost m_fitPost m_fitEnd m_keptPosts i_x0], [zAr T 0 m_all 3952 f_all]]) [5, 3, 4, 0, 1, 2] rfl
            exact ih_33 (w + 1) (nI w) j_gone_43 j_at_42 j_gone_43 g_posts_44 g_was_45 (show (w + 1) ≤ 16384 ∧ zMP g_posts_44 ∧ ((nI w).toInt = -1 ∨ 0 ≤ (nI w).toInt) from ⟨by omega, (by first | with_reducible assumption | assumption), by have t9 := nI_toInt (n := w) (by omega); omega⟩) (show 16384 - (w + 1) < 16384 - w from by omega) _ _ ls G (lv_sub hl [0, 1, 2, 3, 4, 5, 6, 7, 8] rfl)
          · have c_54n : ¬ x.toInt = (-1 : Int) := fun q => c_54 ((fa_eq _ _).mpr q)
            refine lv_iload_n hx hb dX12_longest_60 rfl (lv_at hl 7 rfl) ?_
            refine lv_if_eq (tgt := 76) hx hb dX12_longest_61 (by decide) (fun c_55 => ?_) (fun c_55 => ?_)
            · have c_55n : s_.toInt = (0 : Int) := (fa_eq _ _).mp c_55
              refine lv_aload_n hx hb dX12_longest_76 rfl (lv_at hl 4 rfl) ?_
              refine z_get C G clX12 1 rfl 20 (by decide) m_fl_RX12_208 rfl dX12_longest_77 ?_
              refine lv_iload hx hb dX12_longest_80 (lv_at hl 1 rfl) ?_
              refine lv_icmp_gt (tgt := 88) hx hb dX12_longest_82 (by decide) (fun c_56 => ?_) (fun c_56 => ?_)
              · have c_56n : u.toInt < j_gone_43.toInt := (fa_lt _ _).mp c_56
                refine lv_iload hx hb dX12_longest_88 (lv_at hl 0 rfl) ?_
                refine lv_istore (lv' := [(6, .int (nI w)), (8, .int (nI w)), (7, .int u), (5, .int r_31), (0, .ref mo), (1, .int l_), (2, .int c_), (3, .int s_), (4, .int u_)]) hx hb dX12_longest_90 hl (by decide) (zLvf_h rfl) (fun ls hl => ?_)
                refine lv_aload_n hx hb dX12_longest_92 rfl (lv_at hl 4 rfl) ?_
                refine z_get C G clX12 1 rfl 20 (by decide) m_fl_RX12_208 rfl dX12_longest_93 ?_
                refine lv_istore (lv' := [(7, .int j_gone_43), (6, .int (nI w)), (8, .int (nI w)), (5, .int r_31), (0, .ref mo), (1, .int l_), (2, .int c_), (3, .int s_), (4, .int u_)]) hx hb dX12_longest_96 hl (by decide) (zLvf_h rfl) (fun ls hl => ?_)
                refine lv_iinc (v := nI (w + 1)) (lv' := [(8, .int (nI (w + 1))), (7, .int j_gone_43), (6, .int (nI w)), (5, .int r_31), (0, .ref mo), (1, .int l_), (2, .int c_), (3, .int s_), (4, .int u_)]) hx hb dX12_longest_98 hl (k := 2) rfl (z_inc w 1) (by decide) (zLvf_h rfl) (fun ls hl => ?_)
                refine lv_goto (tgt := 33) hx hb dX12_longest_101 (by decide) ?_
                have G := G.sub (bs' := [[zAr T 0 m_was 7 g_was_45], [zAr T 0 m_posts 7 g_posts_44], [zAr T 0 m_shut 7 g_shut_7], [zAr T 0 m_here 7 g_here_8], [zO11 mo m_all m_has i_size i_next i_where i_token i_number i_word i_wrong i_farCrossing m_read j_z0_1 j_crossings_2 j_inns_3 m_posts m_shut m_here j_steps_4 j_done_5 j_at_42 j_gone_43 m_was m_came m_seenAt m_rowWorth m_farBy m_used i_everywhere i_again0 i_d0 i_never i_firstCame i_longRun i_moved i_crowd i_l0 i_fitMany i_fitLeast i_fitMost m_fitPost m_fitEnd m_keptPosts i_x0], [zAr T 0 m_all 3952 f_all]]) [5, 3, 4, 0, 1, 2] rfl
                exact ih_33 (w + 1) (nI w) j_gone_43 j_at_42 j_gone_43 g_posts_44 g_was_45 (show (w + 1) ≤ 16384 ∧ zMP g_posts_44 ∧ ((nI w).toInt = -1 ∨ 0 ≤ (nI w).toInt) from ⟨by omega, (by first | with_reducible assumption | assumption), by have t9 := nI_toInt (n := w) (by omega); omega⟩) (show 16384 - (w + 1) < 16384 - w from by omega) _ _ ls G (lv_sub hl [0, 1, 2, 3, 4, 5, 6, 7, 8] rfl)
              · have c_56n : ¬ u.toInt < j_gone_43.toInt := fun q => c_56 ((fa_lt _ _).mpr q)
                refine lv_goto (tgt := 98) hx hb dX12_longest_85 (by decide) ?_
                refine lv_iinc (v := nI (w + 1)) (lv' := [(8, .int (nI (w + 1))), (7, .int u), (6, .int x), (5, .int r_31), (0, .ref mo), (1, .int l_), (2, .int c_), (3, .int s_), (4, .int u_)]) hx hb dX12_longest_98 hl (k := 0) rfl (z_inc w 1) (by decide) (zLvf_h rfl) (fun ls hl => ?_)
                refine lv_goto (tgt := 33) hx hb dX12_longest_101 (by decide) ?_
                have G := G.sub (bs' := [[zAr T 0 m_was 7 g_was_45], [zAr T 0 m_posts 7 g_posts_44], [zAr T 0 m_shut 7 g_shut_7], [zAr T 0 m_here 7 g_here_8], [zO11 mo m_all m_has i_size i_next i_where i_token i_number i_word i_wrong i_farCrossing m_read j_z0_1 j_crossings_2 j_inns_3 m_posts m_shut m_here j_steps_4 j_done_5 j_at_42 j_gone_43 m_was m_came m_seenAt m_rowWorth m_farBy m_used i_everywhere i_again0 i_d0 i_never i_firstCame i_longRun i_moved i_crowd i_l0 i_fitMany i_fitLeast i_fitMost m_fitPost m_fitEnd m_keptPosts i_x0], [zAr T 0 m_all 3952 f_all]]) [5, 3, 4, 0, 1, 2] rfl
                exact ih_33 (w + 1) x u j_at_42 j_gone_43 g_posts_44 g_was_45 (show (w + 1) ≤ 16384 ∧ zMP g_posts_44 ∧ (x.toInt = -1 ∨ 0 ≤ x.toInt) from ⟨by omega, (by first | with_reducible assumption | assumption), by have t9 := nI_toInt (n := w) (by omega); omega⟩) (show 16384 - (w + 1) < 16384 - w from by omega) _ _ ls G (lv_sub hl [0, 1, 2, 3, 4, 5, 6, 7, 8] rfl)
            · have c_55n : ¬ s_.toInt = (0 : Int) := fun q => c_55 ((fa_eq _ _).mpr q)
              refine lv_aload_n hx hb dX12_longest_64 rfl (lv_at hl 4 rfl) ?_
              refine z_get C G clX12 1 rfl 20 (by decide) m_fl_RX12_208 rfl dX12_longest_65 ?_
              refine lv_iload hx hb dX12_longest_68 (lv_at hl 1 rfl) ?_
              refine lv_icmp_lt (tgt := 88) hx hb dX12_longest_70 (by decide) (fun c_57 => ?_) (fun c_57 => ?_)
              · have c_57n : j_gone_43.toInt < u.toInt := (fa_lt _ _).mp c_57
                refine lv_iload hx hb dX12_longest_88 (lv_at hl 0 rfl) ?_
                refine lv_istore (lv' := [(6, .int (nI w)), (8, .int (nI w)), (7, .int u), (5, .int r_31), (0, .ref mo), (1, .int l_), (2, .int c_), (3, .int s_), (4, .int u_)]) hx hb dX12_longest_90 hl (by decide) (zLvf_h rfl) (fun ls hl => ?_)
                refine lv_aload_n hx hb dX12_longest_92 rfl (lv_at hl 4 rfl) ?_
                refine z_get C G clX12 1 rfl 20 (by decide) m_fl_RX12_208 rfl dX12_longest_93 ?_
                refine lv_istore (lv' := [(7, .int j_gone_43), (6, .int (nI w)), (8, .int (nI w)), (5, .int r_31), (0, .ref mo), (1, .int l_), (2, .int c_), (3, .int s_), (4, .int u_)]) hx hb dX12_longest_96 hl (by decide) (zLvf_h rfl) (fun ls hl => ?_)
                refine lv_iinc (v := nI (w + 1)) (lv' := [(8, .int (nI (w + 1))), (7, .int j_gone_43), (6, .int (nI w)), (5, .int r_31), (0, .ref mo), (1, .int l_), (2, .int c_), (3, .int s_), (4, .int u_)]) hx hb dX12_longest_98 hl (k := 2) rfl (z_inc w 1) (by decide) (zLvf_h rfl) (fun ls hl => ?_)
                refine lv_goto (tgt := 33) hx hb dX12_longest_101 (by decide) ?_
                have G := G.sub (bs' := [[zAr T 0 m_was 7 g_was_45], [zAr T 0 m_posts 7 g_posts_44], [zAr T 0 m_shut 7 g_shut_7], [zAr T 0 m_here 7 g_here_8], [zO11 mo m_all m_has i_size i_next i_where i_token i_number i_word i_wrong i_farCrossing m_read j_z0_1 j_crossings_2 j_inns_3 m_posts m_shut m_here j_steps_4 j_done_5 j_at_42 j_gone_43 m_was m_came m_seenAt m_rowWorth m_farBy m_used i_everywhere i_again0 i_d0 i_never i_firstCame i_longRun i_moved i_crowd i_l0 i_fitMany i_fitLeast i_fitMost m_fitPost m_fitEnd m_keptPosts i_x0], [zAr T 0 m_all 3952 f_all]]) [5, 3, 4, 0, 1, 2] rfl
                exact ih_33 (w + 1) (nI w) j_gone_43 j_at_42 j_gone_43 g_posts_44 g_was_45 (show (w + 1) ≤ 16384 ∧ zMP g_posts_44 ∧ ((nI w).toInt = -1 ∨ 0 ≤ (nI w).toInt) from ⟨by omega, (by first | with_reducible assumption | assumption), by have t9 := nI_toInt (n := w) (by omega); omega⟩) (show 16384 - (w + 1) < 16384 - w from by omega) _ _ ls G (lv_sub hl [0, 1, 2, 3, 4, 5, 6, 7, 8] rfl)
              · have c_57n : ¬ j_gone_43.toInt < u.toInt := fun q => c_57 ((fa_lt _ _).mpr q)
                refine lv_goto (tgt := 98) hx hb dX12_longest_73 (by decide) ?_
                refine lv_iinc (v := nI (w + 1)) (lv' := [(8, .int (nI (w + 1))), (7, .int u), (6, .int x), (5, .int r_31), (0, .ref mo), (1, .int l_), (2, .int c_), (3, .int s_), (4, .int u_)]) hx hb dX12_longest_98 hl (k := 0) rfl (z_inc w 1) (by decide) (zLvf_h rfl) (fun ls hl => ?_)
                refine lv_goto (tgt := 33) hx hb dX12_longest_101 (by decide) ?_
                have G := G.sub (bs' := [[zAr T 0 m_was 7 g_was_45], [zAr T 0 m_posts 7 g_posts_44], [zAr T 0 m_shut 7 g_shut_7], [zAr T 0 m_here 7 g_here_8], [zO11 mo m_all m_has i_size i_next i_where i_token i_number i_word i_wrong i_farCrossing m_read j_z0_1 j_crossings_2 j_inns_3 m_posts m_shut m_here j_steps_4 j_done_5 j_at_42 j_gone_43 m_was m_came m_seenAt m_rowWorth m_farBy m_used i_everywhere i_again0 i_d0 i_never i_firstCame i_longRun i_moved i_crowd i_l0 i_fitMany i_fitLeast i_fitMost m_fitPost m_fitEnd m_keptPosts i_x0], [zAr T 0 m_all 3952 f_all]]) [5, 3, 4, 0, 1, 2] rfl
                exact ih_33 (w + 1) x u j_at_42 j_gone_43 g_posts_44 g_was_45 (show (w + 1) ≤ 16384 ∧ zMP g_posts_44 ∧ (x.toInt = -1 ∨ 0 ≤ x.toInt) from ⟨by omega, (by first | with_reducible assumption | assumption), by have t9 := nI_toInt (n := w) (by omega); omega⟩) (show 16384 - (w + 1) < 16384 - w from by omega) _ _ ls G (lv_sub hl [0, 1, 2, 3, 4, 5, 6, 7, 8] rfl)
    · have h_28 : (c_.toInt < 0 ∨ j_crossings_2.toInt ≤ c_.toInt) := h_28
      refine lv_if_ne (tgt := 18) hx hb dX12_longest_13 (by decide) (fun q => absurd (by decide) q) (fun _ => ?_)
      refine lv_iconst (v := (-1)) hx hb dX12_longest_16 (by decide) ?_
      have G := G.sub (bs' := [[zO11 mo m_all m_has i_size i_next i_where i_token i_number i_word i_wrong i_farCrossing m_read j_z0_1 j_crossings_2 j_inns_3 m_posts m_shut m_here j_steps_4 j_done_5 i_at i_gone m_was m_came m_seenAt m_rowWorth m_farBy m_used i_everywhere i_again0 i_d0 i_never i_firstCame i_longRun i_moved i_crowd i_l0 i_fitMany i_fitLeast i_fitMost m_fitPost m_fitEnd m_keptPosts i_x0], [zAr T 0 m_all 3952 f_all], [zAr T 0 m_posts 7 g_posts_6], [zAr T 0 m_shut 7 g_shut_7], [zAr T 0 m_here 7 g_here_8], [zAr T 0 m_was 7 f_was]]) [5, 1, 2, 3, 4, 0] rfl
      exact z_back hQz_ (z_iret C hr hlocks G (Nat.le_of_ble_eq_true rfl) (Nat.le_of_ble_eq_true rfl) dX12_longest_17 ⟨j_z0_1, j_crossings_2, j_inns_3, j_steps_4, j_done_5, i_at, i_gone, g_posts_6, g_shut_7, g_here_8, f_was, rfl⟩)
  · have h_23 : (l_.toInt < 0 ∨ (f_all 0).toInt ≤ l_.toInt) := h_23
    refine lv_if_eq (tgt := 16) hx hb dX12_longest_5 (by decide) (fun _ => ?_) (fun q => absurd (by decide) q)
    refine lv_iconst (v := (-1)) hx hb dX12_longest_16 (by decide) ?_
    have G := G.sub (bs' := [[zO11 mo m_all m_has i_size i_next i_where i_token i_number i_word i_wrong i_farCrossing m_read j_z0_1 j_crossings_2 j_inns_3 m_posts m_shut m_here j_steps_4 j_done_5 i_at i_gone m_was m_came m_seenAt m_rowWorth m_farBy m_used i_everywhere i_again0 i_d0 i_never i_firstCame i_longRun i_moved i_crowd i_l0 i_fitMany i_fitLeast i_fitMost m_fitPost m_fitEnd m_keptPosts i_x0], [zAr T 0 m_all 3952 f_all], [zAr T 0 m_posts 7 g_posts_6], [zAr T 0 m_shut 7 g_shut_7], [zAr T 0 m_here 7 g_here_8], [zAr T 0 m_was 7 f_was]]) [1, 2, 3, 4, 5, 0] rfl
    exact z_back hQz_ (z_iret C hr hlocks G (Nat.le_of_ble_eq_true rfl) (Nat.le_of_ble_eq_true rfl) dX12_longest_17 ⟨j_z0_1, j_crossings_2, j_inns_3, j_steps_4, j_done_5, i_at, i_gone, g_posts_6, g_shut_7, g_here_8, f_was, rfl⟩)
set_option maxHeartbeats 4000000 in
set_option maxRecDepth 100000 in
/-- c_m_back -/
theorem c_m_back (l : Launch) (T : zTy) (mo : Nat) (m_all : Nat) (m_has : Nat) (i_size : Int32) (i_next : Int32) (i_where : Int32) (i_token : Int32) (i_number : Int32) (i_word : Int32) (i_wrong : Int32) (i_farCrossing : Int32) (m_read : Nat) (i_z0 : Int32) (i_crossings : Int32) (i_inns : Int32) (m_posts : Nat) (m_shut : Nat) (m_here : Nat) (i_steps : Int32) (i_done : Int32) (i_at : Int32) (i_gone : Int32) (m_was : Nat) (m_came : Nat) (m_seenAt : Nat) (m_rowWorth : Nat) (m_farBy : Nat) (m_used : Nat) (i_everywhere : Int32) (i_again0 : Int32) (i_d0 : Int32) (i_never : Int32) (i_firstCame : Int32) (i_longRun : Int32) (i_moved : Int32) (i_crowd : Int32) (i_l0 : Int32) (i_fitMany : Int32) (i_fitLeast : Int32) (i_fitMost : Int32) (m_fitPost : Nat) (m_fitEnd : Nat) (m_keptPosts : Nat) (i_x0 : Int32) (f_all : Nat → Int32) (f_posts : Nat → Int32) (f_shut : Nat → Int32) (f_here : Nat → Int32) (f_was : Nat → Int32) (l_ : Int32) (c_ : Int32) (hB : zBI f_all) : zMi l T yX12_back cX12_back 6 (some .int) 6 0 0 [.ref mo, .int l_, .int c_] [[zO11 mo m_all m_has i_size i_next i_where i_token i_number i_word i_wrong i_farCrossing m_read i_z0 i_crossings i_inns m_posts m_shut m_here i_steps i_done i_at i_gone m_was m_came m_seenAt m_rowWorth m_farBy m_used i_everywhere i_again0 i_d0 i_never i_firstCame i_longRun i_moved i_crowd i_l0 i_fitMany i_fitLeast i_fitMost m_fitPost m_fitEnd m_keptPosts i_x0], [zAr T 0 m_all 3952 f_all], [zAr T 0 m_posts 7 f_posts], [zAr T 0 m_shut 7 f_shut], [zAr T 0 m_here 7 f_here], [zAr T 0 m_was 7 f_was]] (fun (r : Int32) bs => ∃ (j_z0 : Int32) (j_crossings : Int32) (j_inns : Int32) (j_steps : Int32) (j_done : Int32) (j_at : Int32) (j_gone : Int32) (g_posts : Nat → Int32) (g_shut : Nat → Int32) (g_here : Nat → Int32) (g_was : Nat → Int32), bs = [[zO11 mo m_all m_has i_size i_next i_where i_token i_number i_word i_wrong i_farCrossing m_read j_z0 j_crossings j_inns m_posts m_shut m_here j_steps j_done j_at j_gone m_was m_came m_seenAt m_rowWorth m_farBy m_used i_everywhere i_again0 i_d0 i_never i_firstCame i_longRun i_moved i_crowd i_l0 i_fitMany i_fitLeast i_fitMost m_fitPost m_fitEnd m_keptPosts i_x0], [zAr T 0 m_all 3952 f_all], [zAr T 0 m_posts 7 g_posts], [zAr T 0 m_shut 7 g_shut], [zAr T 0 m_here 7 g_here], [zAr T 0 m_was 7 g_was]]) := by
  refine zMi_of (own := RX12) (by decide) rfl (Nat.le_of_ble_eq_true rfl) ?_
  intro p e s m args below meth c A ls C hr hlocks hnm hAe G hl
  refine zHide (fun Qz_ hQz_ => ?_)
  have hx := C.1
  have hb := C.2.1
  have hl : lv_has ls 6 [(0, .ref mo), (1, .int l_), (2, .int c_)] := hl
  refine lv_aload_n hx hb dX12_back_0 rfl (lv_at hl 0 rfl) ?_
  refine lv_iload_n hx hb dX12_back_1 rfl (lv_at hl 1 rfl) ?_
  refine z_Vi (bc := [[zO11 mo m_all m_has i_size i_next i_where i_token i_number i_word i_wrong i_farCrossing m_read i_z0 i_crossings i_inns m_posts m_shut m_here i_steps i_done i_at i_gone m_was m_came m_seenAt m_rowWorth m_farBy m_used i_everywhere i_again0 i_d0 i_never i_firstCame i_longRun i_moved i_crowd i_l0 i_fitMany i_fitLeast i_fitMost m_fitPost m_fitEnd m_keptPosts i_x0], [zAr T 0 m_all 3952 f_all], [zAr T 0 m_posts 7 f_posts], [zAr T 0 m_shut 7 f_shut], [zAr T 0 m_here 7 f_here]]) (br := [[zAr T 0 m_was 7 f_was]]) (As := [.int l_]) (rest := []) C G (c_m_isLand l T mo m_all m_has i_size i_next i_where i_token i_number i_word i_wrong i_farCrossing m_read i_z0 i_crossings i_inns m_posts m_shut m_here i_steps i_done i_at i_gone m_was m_came m_seenAt m_rowWorth m_farBy m_used i_everywhere i_again0 i_d0 i_never i_firstCame i_longRun i_moved i_crowd i_l0 i_fitMany i_fitLeast i_fitMost m_fitPost m_fitEnd m_keptPosts i_x0 f_all f_posts f_shut f_here l_ (by first | with_reducible assumption | with_reducible rfl | omega | assumption | rfl | decide)) (kV_RX12_184 C.2.2.2.2 (Nat.le_of_ble_eq_true rfl) (Nat.le_of_ble_eq_true rfl)) [0, 1, 2, 3, 4] [0, 0, 0, 0, 0] rfl rfl (ci := 11) (qc := (RX12, TX12, 43)) rfl rfl (List.mem_flatten.mpr ⟨_, List.mem_of_getElem? (i := 0) rfl, List.mem_cons_self⟩) rfl rfl hl.1 dX12_back_2 (Nat.le_of_ble_eq_true rfl) (Nat.le_of_ble_eq_true rfl) (fun r_10 b1 H locs hw G => ?_)
  refine zEx8 hw ?_
  intro j_z0_1 j_crossings_2 j_inns_3 j_steps_4 j_done_5 g_posts_6 g_shut_7 g_here_8
  refine zCu2 ?_
  intro hbs9 hc_9
  clear hw
  subst hbs9
  have G : zS T A s.heap s [[zAr T 0 m_was 7 f_was], [zO11 mo m_all m_has i_size i_next i_where i_token i_number i_word i_wrong i_farCrossing m_read j_z0_1 j_crossings_2 j_inns_3 m_posts m_shut m_here j_steps_4 j_done_5 i_at i_gone m_was m_came m_seenAt m_rowWorth m_farBy m_used i_everywhere i_again0 i_d0 i_never i_firstCame i_longRun i_moved i_crowd i_l0 i_fitMany i_fitLeast i_fitMost m_fitPost m_fitEnd m_keptPosts i_x0], [zAr T 0 m_all 3952 f_all], [zAr T 0 m_posts 7 g_posts_6], [zAr T 0 m_shut 7 g_shut_7], [zAr T 0 m_here 7 g_here_8]] _ _ := G
  rcases hc_9 with ⟨rfl, h_11, h_12, h_13, h_14, h_15, h_16, h_17, h_18, h_19, h_20, h_21, h_22⟩ | ⟨rfl, h_23⟩
  · have h_11 : 0 ≤ l_.toInt := h_11
    have h_12 : l_.toInt ≤ 1 := h_12
    have h_13 : l_.toInt < (f_all 0).toInt := h_13
    have h_14 : j_z0_1.toInt = 610 + 51 * l_.toInt := h_14
    have h_15 : zML f_all j_z0_1 j_crossings_2 := h_15
    have h_16 : zMP g_posts_6 := h_16
    have h_17 : j_inns_3 = f_all (j_z0_1.toInt.toNat + 1) := h_17
    have h_18 : j_steps_4 = 0 := h_18
    have h_19 : j_done_5 = 0 := h_19
    have h_20 : (∀ j, j < 7 → g_posts_6 j = zPt f_all j_z0_1 (nI j)) := h_20
    have h_21 : (∀ j, j < 7 → g_shut_7 j = 0) := h_21
    have h_22 : (∀ j, j < 7 → g_here_8 j = zWk f_all j_z0_1 j) := h_22
    have hLx := h_15
    have hcr := hLx.cr
    have hzx := hLx.1
    have hPx := h_16
    refine lv_if_eq (tgt := 16) hx hb dX12_back_5 (by decide) (fun q => absurd q (by decide)) (fun _ => ?_)
    refine lv_aload_n hx hb dX12_back_8 rfl (lv_at hl 0 rfl) ?_
    refine lv_iload_n hx hb dX12_back_9 rfl (lv_at hl 2 rfl) ?_
    refine z_Vi (bc := [[zO11 mo m_all m_has i_size i_next i_where i_token i_number i_word i_wrong i_farCrossing m_read j_z0_1 j_crossings_2 j_inns_3 m_posts m_shut m_here j_steps_4 j_done_5 i_at i_gone m_was m_came m_seenAt m_rowWorth m_farBy m_used i_everywhere i_again0 i_d0 i_never i_firstCame i_longRun i_moved i_crowd i_l0 i_fitMany i_fitLeast i_fitMost m_fitPost m_fitEnd m_keptPosts i_x0]]) (br := [[zAr T 0 m_was 7 f_was], [zAr T 0 m_all 3952 f_all], [zAr T 0 m_posts 7 g_posts_6], [zAr T 0 m_shut 7 g_shut_7], [zAr T 0 m_here 7 g_here_8]]) (As := [.int c_]) (rest := []) C G (c_m_isCrossing l T mo m_all m_has i_size i_next i_where i_token i_number i_word i_wrong i_farCrossing m_read j_z0_1 j_crossings_2 j_inns_3 m_posts m_shut m_here j_steps_4 j_done_5 i_at i_gone m_was m_came m_seenAt m_rowWorth m_farBy m_used i_everywhere i_again0 i_d0 i_never i_firstCame i_longRun i_moved i_crowd i_l0 i_fitMany i_fitLeast i_fitMost m_fitPost m_fitEnd m_keptPosts i_x0 c_ (by first | with_reducible assumption | with_reducible rfl | omega | assumption | rfl | decide)) (kV_RX12_187 C.2.2.2.2 (Nat.le_of_ble_eq_true rfl) (Nat.le_of_ble_eq_true rfl)) [1] [1] rfl rfl (ci := 11) (qc := (RX12, TX12, 43)) rfl rfl (List.mem_flatten.mpr ⟨_, List.mem_of_getElem? (i := 0) rfl, List.mem_cons_self⟩) rfl rfl hl.1 dX12_back_10 (Nat.le_of_ble_eq_true rfl) (Nat.le_of_ble_eq_true rfl) (fun r_25 b1 H locs hw G => ?_)
    refine zAn2 hw ?_
    intro hbs9 hc_24
    clear hw
    subst hbs9
    have G : zS T A s.heap s [[zAr T 0 m_was 7 f_was], [zAr T 0 m_all 3952 f_all], [zAr T 0 m_posts 7 g_posts_6], [zAr T 0 m_shut 7 g_shut_7], [zAr T 0 m_here 7 g_here_8], [zO11 mo m_all m_has i_size i_next i_where i_token i_number i_word i_wrong i_farCrossing m_read j_z0_1 j_crossings_2 j_inns_3 m_posts m_shut m_here j_steps_4 j_done_5 i_at i_gone m_was m_came m_seenAt m_rowWorth m_farBy m_used i_everywhere i_again0 i_d0 i_never i_firstCame i_longRun i_moved i_crowd i_l0 i_fitMany i_fitLeast i_fitMost m_fitPost m_fitEnd m_keptPosts i_x0]] _ _ := G
    rcases hc_24 with ⟨rfl, h_26, h_27⟩ | ⟨rfl, h_28⟩
    · have h_26 : 0 ≤ c_.toInt := h_26
      have h_27 : c_.toInt < j_crossings_2.toInt := h_27
      refine lv_if_ne (tgt := 18) hx hb dX12_back_13 (by decide) (fun _ => ?_) (fun q => absurd q (by decide))
      refine lv_aload_n hx hb dX12_back_18 rfl (lv_at hl 0 rfl) ?_
      refine z_Vi (bc := [[zO11 mo m_all m_has i_size i_next i_where i_token i_number i_word i_wrong i_farCrossing m_read j_z0_1 j_crossings_2 j_inns_3 m_posts m_shut m_here j_steps_4 j_done_5 i_at i_gone m_was m_came m_seenAt m_rowWorth m_farBy m_used i_everywhere i_again0 i_d0 i_never i_firstCame i_longRun i_moved i_crowd i_l0 i_fitMany i_fitLeast i_fitMost m_fitPost m_fitEnd m_keptPosts i_x0], [zAr T 0 m_all 3952 f_all]]) (br := [[zAr T 0 m_was 7 f_was], [zAr T 0 m_posts 7 g_posts_6], [zAr T 0 m_shut 7 g_shut_7], [zAr T 0 m_here 7 g_here_8]]) (As := []) (rest := []) C G (c_m_waysMany l T mo m_all m_has i_size i_next i_where i_token i_number i_word i_wrong i_farCrossing m_read j_z0_1 j_crossings_2 j_inns_3 m_posts m_shut m_here j_steps_4 j_done_5 i_at i_gone m_was m_came m_seenAt m_rowWorth m_farBy m_used i_everywhere i_again0 i_d0 i_never i_firstCame i_longRun i_moved i_crowd i_l0 i_fitMany i_fitLeast i_fitMost m_fitPost m_fitEnd m_keptPosts i_x0 f_all (by first | with_reducible assumption | with_reducible rfl | omega | assumption | rfl | decide)) (kV_RX12_229 C.2.2.2.2 (Nat.le_of_ble_eq_true rfl) (Nat.le_of_ble_eq_true rfl)) [5, 1] [1, 3] rfl rfl (ci := 11) (qc := (RX12, TX12, 43)) rfl rfl (List.mem_flatten.mpr ⟨_, List.mem_of_getElem? (i := 0) rfl, List.mem_cons_self⟩) rfl rfl hl.1 dX12_back_19 (Nat.le_of_ble_eq_true rfl) (Nat.le_of_ble_eq_true rfl) (fun r_31 b1 H locs hw G => ?_)
      refine zAn3 hw ?_
      intro hbs9 h_29 h_30
      clear hw
      subst hbs9
      have G : zS T A s.heap s [[zAr T 0 m_was 7 f_was], [zAr T 0 m_posts 7 g_posts_6], [zAr T 0 m_shut 7 g_shut_7], [zAr T 0 m_here 7 g_here_8], [zO11 mo m_all m_has i_size i_next i_where i_token i_number i_word i_wrong i_farCrossing m_read j_z0_1 j_crossings_2 j_inns_3 m_posts m_shut m_here j_steps_4 j_done_5 i_at i_gone m_was m_came m_seenAt m_rowWorth m_farBy m_used i_everywhere i_again0 i_d0 i_never i_firstCame i_longRun i_moved i_crowd i_l0 i_fitMany i_fitLeast i_fitMost m_fitPost m_fitEnd m_keptPosts i_x0], [zAr T 0 m_all 3952 f_all]] _ _ := G
      refine lv_istore_n (lv' := [(3, .int r_31), (0, .ref mo), (1, .int l_), (2, .int c_)]) hx hb dX12_back_22 rfl hl (by decide) (zLvf_h rfl) (fun ls hl => ?_)
      refine lv_iconst (v := 0) hx hb dX12_back_23 (by decide) ?_
      refine lv_istore (lv' := [(4, .int 0), (3, .int r_31), (0, .ref mo), (1, .int l_), (2, .int c_)]) hx hb dX12_back_24 hl (by decide) (zLvf_h rfl) (fun ls hl => ?_)
      refine lv_iconst (v := 0) hx hb dX12_back_26 (by decide) ?_
      refine lv_istore (lv' := [(5, .int 0), (4, .int 0), (3, .int r_31), (0, .ref mo), (1, .int l_), (2, .int c_)]) hx hb dX12_back_27 hl (by decide) (zLvf_h rfl) (fun ls hl => ?_)
      refine z_lp6 (T := T) 29 (fun (w : Nat) (u : Int32) (xat : Int32) (xgone : Int32) (xposts : Nat → Int32) (xwas : Nat → Int32) => [[zAr T 0 m_was 7 xwas], [zAr T 0 m_posts 7 xposts], [zAr T 0 m_shut 7 g_shut_7], [zAr T 0 m_here 7 g_here_8], [zO11 mo m_all m_has i_size i_next i_where i_token i_number i_word i_wrong i_farCrossing m_read j_z0_1 j_crossings_2 j_inns_3 m_posts m_shut m_here j_steps_4 j_done_5 xat xgone m_was m_came m_seenAt m_rowWorth m_farBy m_used i_everywhere i_again0 i_d0 i_never i_firstCame i_longRun i_moved i_crowd i_l0 i_fitMany i_fitLeast i_fitMost m_fitPost m_fitEnd m_keptPosts i_x0], [zAr T 0 m_all 3952 f_all]]) (fun (w : Nat) (u : Int32) (xat : Int32) (xgone : Int32) (xposts : Nat → Int32) (xwas : Nat → Int32) => [(5, .int (nI w)), (4, .int u), (3, .int r_31), (0, .ref mo), (1, .int l_), (2, .int c_)]) (fun (w : Nat) (u : Int32) (xat : Int32) (xgone : Int32) (xposts : Nat → Int32) (xwas : Nat → Int32) => w ≤ 16384 ∧ zMP xposts) (fun (w : Nat) (u : Int32) (xat : Int32) (xgone : Int32) (xposts : Nat → Int32) (xwas : Nat → Int32) => 16384 - w) ?_ 0 0 i_at i_gone g_posts_6 f_was (show 0 ≤ 16384 ∧ zMP g_posts_6 from ⟨by omega, (by first | with_reducible assumption | assumption)⟩) G (lv_sub hl [0, 1, 2, 3, 4, 5] rfl)
      intro w u xat xgone xposts xwas hI9 ih_29 H locs ls G hl
      replace hI9 : w ≤ 16384 ∧ zMP xposts := hI9
      refine zAn2 hI9 ?_
      intro hww hQ
      clear hI9
      replace G : zS T A s.heap s [[zAr T 0 m_was 7 xwas], [zAr T 0 m_posts 7 xposts], [zAr T 0 m_shut 7 g_shut_7], [zAr T 0 m_here 7 g_here_8], [zO11 mo m_all m_has i_size i_next i_where i_token i_number i_word i_wrong i_farCrossing m_read j_z0_1 j_crossings_2 j_inns_3 m_posts m_shut m_here j_steps_4 j_done_5 xat xgone m_was m_came m_seenAt m_rowWorth m_farBy m_used i_everywhere i_again0 i_d0 i_never i_firstCame i_longRun i_moved i_crowd i_l0 i_fitMany i_fitLeast i_fitMost m_fitPost m_fitEnd m_keptPosts i_x0], [zAr T 0 m_all 3952 f_all]] _ _ := G
      replace hl : lv_has ls 6 [(5, .int (nI w)), (4, .int u), (3, .int r_31), (0, .ref mo), (1, .int l_), (2, .int c_)] := hl
      refine lv_iload hx hb dX12_back_29 (lv_at hl 0 rfl) ?_
      refine lv_iload_n hx hb dX12_back_31 rfl (lv_at hl 2 rfl) ?_
      refine lv_icmp_ge (tgt := 70) hx hb dX12_back_32 (by decide) (fun c_32 => ?_) (fun c_32 => ?_)
      · have c_32n : r_31.toInt ≤ (w : Int) := by have q := (fa_le _ _).mp c_32; rw [nI_toInt (n := w) (by omega)] at q; exact q
        refine lv_iload hx hb dX12_back_70 (lv_at hl 1 rfl) ?_
        have G := G.sub (bs' := [[zO11 mo m_all m_has i_size i_next i_where i_token i_number i_word i_wrong i_farCrossing m_read j_z0_1 j_crossings_2 j_inns_3 m_posts m_shut m_here j_steps_4 j_done_5 xat xgone m_was m_came m_seenAt m_rowWorth m_farBy m_used i_everywhere i_again0 i_d0 i_never i_firstCame i_longRun i_moved i_crowd i_l0 i_fitMany i_fitLeast i_fitMost m_fitPost m_fitEnd m_keptPosts i_x0], [zAr T 0 m_all 3952 f_all], [zAr T 0 m_posts 7 xposts], [zAr T 0 m_shut 7 g_shut_7], [zAr T 0 m_here 7 g_here_8], [zAr T 0 m_was 7 xwas]]) [4, 5, 1, 2, 3, 0] rfl
        exact z_back hQz_ (z_iret C hr hlocks G (Nat.le_of_ble_eq_true rfl) (Nat.le_of_ble_eq_true rfl) dX12_back_72 ⟨j_z0_1, j_crossings_2, j_inns_3, j_steps_4, j_done_5, xat, xgone, xposts, g_shut_7, g_here_8, xwas, rfl⟩)
      · have c_32n : ¬ r_31.toInt ≤ (w : Int) := fun q => c_32 ((fa_le _ _).mpr (by rw [nI_toInt (n := w) (by omega)]; exact q))
        refine lv_aload_n hx hb dX12_back_35 rfl (lv_at hl 3 rfl) ?_
        refine lv_iload hx hb dX12_back_36 (lv_at hl 0 rfl) ?_
        have ti_33 : (nI w).toInt = ((w : Nat) : Int) := nI_toInt (by omega)
        refine z_Vv (bc := [[zO11 mo m_all m_has i_size i_next i_where i_token i_number i_word i_wrong i_farCrossing m_read j_z0_1 j_crossings_2 j_inns_3 m_posts m_shut m_here j_steps_4 j_done_5 xat xgone m_was m_came m_seenAt m_rowWorth m_farBy m_used i_everywhere i_again0 i_d0 i_never i_firstCame i_longRun i_moved i_crowd i_l0 i_fitMany i_fitLeast i_fitMost m_fitPost m_fitEnd m_keptPosts i_x0], [zAr T 0 m_all 3952 f_all], [zAr T 0 m_posts 7 xposts]]) (br := [[zAr T 0 m_was 7 xwas], [zAr T 0 m_shut 7 g_shut_7], [zAr T 0 m_here 7 g_here_8]]) (As := [.int (nI w)]) (rest := []) C G (c_m_setsWay l T mo m_all m_has i_size i_next i_where i_token i_number i_word i_wrong i_farCrossing m_read j_z0_1 j_crossings_2 j_inns_3 m_posts m_shut m_here j_steps_4 j_done_5 xat xgone m_was m_came m_seenAt m_rowWorth m_farBy m_used i_everywhere i_again0 i_d0 i_never i_firstCame i_longRun i_moved i_crowd i_l0 i_fitMany i_fitLeast i_fitMost m_fitPost m_fitEnd m_keptPosts i_x0 f_all xposts (nI w) (by first | with_reducible assumption | with_reducible rfl | omega | assumption | rfl | decide) (by first | with_reducible assumption | with_reducible rfl | omega | assumption | rfl | decide) (by first | with_reducible assumption | with_reducible rfl | omega | assumption | rfl | decide)) (kV_RX12_226 C.2.2.2.2 (Nat.le_of_ble_eq_true rfl) (Nat.le_of_ble_eq_true rfl)) [4, 5, 1] [1, 2, 0] rfl rfl (ci := 11) (qc := (RX12, TX12, 43)) rfl rfl (List.mem_flatten.mpr ⟨_, List.mem_of_getElem? (i := 0) rfl, List.mem_cons_self⟩) rfl rfl hl.1 dX12_back_38 (Nat.le_of_ble_eq_true rfl) (Nat.le_of_ble_eq_true rfl) (fun b1 H locs hw G => ?_)
        refine zEx1 hw ?_
        intro g_posts_34
        refine zCu2 ?_
        intro hbs9 h_35
        clear hw
        subst hbs9
        have G : zS T A s.heap s [[zAr T 0 m_was 7 xwas], [zAr T 0 m_shut 7 g_shut_7], [zAr T 0 m_here 7 g_here_8], [zO11 mo m_all m_has i_size i_next i_where i_token i_number i_word i_wrong i_farCrossing m_read j_z0_1 j_crossings_2 j_inns_3 m_posts m_shut m_here j_steps_4 j_done_5 xat xgone m_was m_came m_seenAt m_rowWorth m_farBy m_used i_everywhere i_again0 i_d0 i_never i_firstCame i_longRun i_moved i_crowd i_l0 i_fitMany i_fitLeast i_fitMost m_fitPost m_fitEnd m_keptPosts i_x0], [zAr T 0 m_all 3952 f_all], [zAr T 0 m_posts 7 g_posts_34]] _ _ := G
        refine lv_aload_n hx hb dX12_back_41 rfl (lv_at hl 3 rfl) ?_
        refine lv_iload_n hx hb dX12_back_42 rfl (lv_at hl 5 rfl) ?_
        refine z_Vi (bc := [[zO11 mo m_all m_has i_size i_next i_where i_token i_number i_word i_wrong i_farCrossing m_read j_z0_1 j_crossings_2 j_inns_3 m_posts m_shut m_here j_steps_4 j_done_5 xat xgone m_was m_came m_seenAt m_rowWorth m_farBy m_used i_everywhere i_again0 i_d0 i_never i_firstCame i_longRun i_moved i_crowd i_l0 i_fitMany i_fitLeast i_fitMost m_fitPost m_fitEnd m_keptPosts i_x0], [zAr T 0 m_all 3952 f_all], [zAr T 0 m_posts 7 g_posts_34], [zAr T 0 m_shut 7 g_shut_7], [zAr T 0 m_was 7 xwas]]) (br := [[zAr T 0 m_here 7 g_here_8]]) (As := [.int c_]) (rest := []) C G (c_m_walks l T mo m_all m_has i_size i_next i_where i_token i_number i_word i_wrong i_farCrossing m_read j_z0_1 j_crossings_2 j_inns_3 m_posts m_shut m_here j_steps_4 j_done_5 xat xgone m_was m_came m_seenAt m_rowWorth m_farBy m_used i_everywhere i_again0 i_d0 i_never i_firstCame i_longRun i_moved i_crowd i_l0 i_fitMany i_fitLeast i_fitMost m_fitPost m_fitEnd m_keptPosts i_x0 f_all g_posts_34 g_shut_7 xwas c_ (by first | with_reducible assumption | with_reducible rfl | omega | assumption | rfl | decide) (by first | with_reducible assumption | with_reducible rfl | omega | assumption | rfl | decide) (by first | with_reducible assumption | with_reducible rfl | omega | assumption | rfl | decide) (by first | with_reducible assumption | with_reducible rfl | omega | assumption | rfl | decide)) (kV_RX12_217 C.2.2.2.2 (Nat.le_of_ble_eq_true rfl) (Nat.le_of_ble_eq_true rfl)) [3, 4, 5, 1, 0] [0, 0, 1, 0, 0] rfl rfl (ci := 11) (qc := (RX12, TX12, 43)) rfl rfl (List.mem_flatten.mpr ⟨_, List.mem_of_getElem? (i := 0) rfl, List.mem_cons_self⟩) rfl rfl hl.1 dX12_back_43 (Nat.le_of_ble_eq_true rfl) (Nat.le_of_ble_eq_true rfl) (fun r_47 b1 H locs hw G => ?_)
        refine zEx4 hw ?_
        intro j_at_37 j_gone_38 g_posts_39 g_was_40
        refine zCu7 ?_
        intro hbs9 h_41 h_42 h_43 h_44 h_45 h_46
        clear hw
        subst hbs9
        have G : zS T A s.heap s [[zAr T 0 m_here 7 g_here_8], [zO11 mo m_all m_has i_size i_next i_where i_token i_number i_word i_wrong i_farCrossing m_read j_z0_1 j_crossings_2 j_inns_3 m_posts m_shut m_here j_steps_4 j_done_5 j_at_37 j_gone_38 m_was m_came m_seenAt m_rowWorth m_farBy m_used i_everywhere i_again0 i_d0 i_never i_firstCame i_longRun i_moved i_crowd i_l0 i_fitMany i_fitLeast i_fitMost m_fitPost m_fitEnd m_keptPosts i_x0], [zAr T 0 m_all 3952 f_all], [zAr T 0 m_posts 7 g_posts_39], [zAr T 0 m_shut 7 g_shut_7], [zAr T 0 m_was 7 g_was_40]] _ _ := G
        replace h_41 : zHd ((r_47 = 0 ∨ r_47 = 1)) := h_41
        refine lv_pop hx hb dX12_back_46 rfl ?_
        refine lv_iload hx hb dX12_back_47 (lv_at hl 1 rfl) ?_
        refine lv_aload_n hx hb dX12_back_49 rfl (lv_at hl 3 rfl) ?_
        refine z_Vi (bc := [[zO11 mo m_all m_has i_size i_next i_where i_token i_number i_word i_wrong i_farCrossing m_read j_z0_1 j_crossings_2 j_inns_3 m_posts m_shut m_here j_steps_4 j_done_5 j_at_37 j_gone_38 m_was m_came m_seenAt m_rowWorth m_farBy m_used i_everywhere i_again0 i_d0 i_never i_firstCame i_longRun i_moved i_crowd i_l0 i_fitMany i_fitLeast i_fitMost m_fitPost m_fitEnd m_keptPosts i_x0], [zAr T 0 m_all 3952 f_all], [zAr T 0 m_posts 7 g_posts_39]]) (br := [[zAr T 0 m_here 7 g_here_8], [zAr T 0 m_shut 7 g_shut_7], [zAr T 0 m_was 7 g_was_40]]) (As := []) (rest := [.int u]) C G (c_m_unlikeTold l T mo m_all m_has i_size i_next i_where i_token i_number i_word i_wrong i_farCrossing m_read j_z0_1 j_crossings_2 j_inns_3 m_posts m_shut m_here j_steps_4 j_done_5 j_at_37 j_gone_38 m_was m_came m_seenAt m_rowWorth m_farBy m_used i_everywhere i_again0 i_d0 i_never i_firstCame i_longRun i_moved i_crowd i_l0 i_fitMany i_fitLeast i_fitMost m_fitPost m_fitEnd m_keptPosts i_x0 f_all g_posts_39 (by first | with_reducible assumption | with_reducible rfl | omega | assumption | rfl | decide) (by first | with_reducible assumption | with_reducible rfl | omega | assumption | rfl | decide)) (kV_RX12_232 C.2.2.2.2 (Nat.le_of_ble_eq_true rfl) (Nat.le_of_ble_eq_true rfl)) [1, 2, 3] [1, 0, 0] rfl rfl (ci := 11) (qc := (RX12, TX12, 43)) rfl rfl (List.mem_flatten.mpr ⟨_, List.mem_of_getElem? (i := 0) rfl, List.mem_cons_self⟩) rfl rfl hl.1 dX12_back_50 (Nat.le_of_ble_eq_true rfl) (Nat.le_of_ble_eq_true rfl) (fun r_48 b1 H locs hw G => ?_)
        obtain rfl := hw
        have G : zS T A s.heap s [[zAr T 0 m_here 7 g_here_8], [zAr T 0 m_shut 7 g_shut_7], [zAr T 0 m_was 7 g_was_40], [zO11 mo m_all m_has i_size i_next i_where i_token i_number i_word i_wrong i_farCrossing m_read j_z0_1 j_crossings_2 j_inns_3 m_posts m_shut m_here j_steps_4 j_done_5 j_at_37 j_gone_38 m_was m_came m_seenAt m_rowWorth m_farBy m_used i_everywhere i_again0 i_d0 i_never i_firstCame i_longRun i_moved i_crowd i_l0 i_fitMany i_fitLeast i_fitMost m_fitPost m_fitEnd m_keptPosts i_x0], [zAr T 0 m_all 3952 f_all], [zAr T 0 m_posts 7 g_posts_39]] _ _ := G
        refine lv_if_ne (tgt := 60) hx hb dX12_back_53 (by decide) (fun c_49 => ?_) (fun c_49 => ?_)
        · have c_49n : ¬ r_48.toInt = (0 : Int) := fun q => c_49 ((fa_eq _ _).mpr q)
          refine lv_iconst (v := 0) hx hb dX12_back_60 (by decide) ?_
          refine lv_iadd hx hb dX12_back_61 ?_
          refine lv_istore (lv' := [(4, .int (u + 0)), (5, .int (nI w)), (3, .int r_31), (0, .ref mo), (1, .int l_), (2, .int c_)]) hx hb dX12_back_62 hl (by decide) (zLvf_h rfl) (fun ls hl => ?_)
          refine lv_iinc (v := nI (w + 1)) (lv' := [(5, .int (nI (w + 1))), (4, .int (u + 0)), (3, .int r_31), (0, .ref mo), (1, .int l_), (2, .int c_)]) hx hb dX12_back_64 hl (k := 1) rfl (z_inc w 1) (by decide) (zLvf_h rfl) (fun ls hl => ?_)
          refine lv_goto (tgt := 29) hx hb dX12_back_67 (by decide) ?_
          have G := G.sub (bs' := [[zAr T 0 m_was 7 g_was_40], [zAr T 0 m_posts 7 g_posts_39], [zAr T 0 m_shut 7 g_shut_7], [zAr T 0 m_here 7 g_here_8], [zO11 mo m_all m_has i_size i_next i_where i_token i_number i_word i_wrong i_farCrossing m_read j_z0_1 j_crossings_2 j_inns_3 m_posts m_shut m_here j_steps_4 j_done_5 j_at_37 j_gone_38 m_was m_came m_seenAt m_rowWorth m_farBy m_used i_everywhere i_again0 i_d0 i_never i_firstCame i_longRun i_moved i_crowd i_l0 i_fitMany i_fitLeast i_fitMost m_fitPost m_fitEnd m_keptPosts i_x0], [zAr T 0 m_all 3952 f_all]]) [2, 5, 1, 0, 3, 4] rfl
          exact ih_29 (w + 1) (u + 0) j_at_37 j_gone_38 g_posts_39 g_was_40 (show (w + 1) ≤ 16384 ∧ zMP g_posts_39 from ⟨by omega, (by first | with_reducible assumption | assumption)⟩) (show 16384 - (w + 1) < 16384 - w from by omega) _ _ ls G (lv_sub hl [0, 1, 2, 3, 4, 5] rfl)
        · have c_49n : r_48.toInt = (0 : Int) := (fa_eq _ _).mp c_49
          refine lv_iconst (v := 1) hx hb dX12_back_56 (by decide) ?_
          refine lv_goto (tgt := 61) hx hb dX12_back_57 (by decide) ?_
          refine lv_iadd hx hb dX12_back_61 ?_
          refine lv_istore (lv' := [(4, .int (u + 1)), (5, .int (nI w)), (3, .int r_31), (0, .ref mo), (1, .int l_), (2, .int c_)]) hx hb dX12_back_62 hl (by decide) (zLvf_h rfl) (fun ls hl => ?_)
          refine lv_iinc (v := nI (w + 1)) (lv' := [(5, .int (nI (w + 1))), (4, .int (u + 1)), (3, .int r_31), (0, .ref mo), (1, .int l_), (2, .int c_)]) hx hb dX12_back_64 hl (k := 1) rfl (z_inc w 1) (by decide) (zLvf_h rfl) (fun ls hl => ?_)
          refine lv_goto (tgt := 29) hx hb dX12_back_67 (by decide) ?_
          have G := G.sub (bs' := [[zAr T 0 m_was 7 g_was_40], [zAr T 0 m_posts 7 g_posts_39], [zAr T 0 m_shut 7 g_shut_7], [zAr T 0 m_here 7 g_here_8], [zO11 mo m_all m_has i_size i_next i_where i_token i_number i_word i_wrong i_farCrossing m_read j_z0_1 j_crossings_2 j_inns_3 m_posts m_shut m_here j_steps_4 j_done_5 j_at_37 j_gone_38 m_was m_came m_seenAt m_rowWorth m_farBy m_used i_everywhere i_again0 i_d0 i_never i_firstCame i_longRun i_moved i_crowd i_l0 i_fitMany i_fitLeast i_fitMost m_fitPost m_fitEnd m_keptPosts i_x0], [zAr T 0 m_all 3952 f_all]]) [2, 5, 1, 0, 3, 4] rfl
          exact ih_29 (w + 1) (u + 1) j_at_37 j_gone_38 g_posts_39 g_was_40 (show (w + 1) ≤ 16384 ∧ zMP g_posts_39 from ⟨by omega, (by first | with_reducible assumption | assumption)⟩) (show 16384 - (w + 1) < 16384 - w from by omega) _ _ ls G (lv_sub hl [0, 1, 2, 3, 4, 5] rfl)
    · have h_28 : (c_.toInt < 0 ∨ j_crossings_2.toInt ≤ c_.toInt) := h_28
      refine lv_if_ne (tgt := 18) hx hb dX12_back_13 (by decide) (fun q => absurd (by decide) q) (fun _ => ?_)
      refine lv_iconst (v := (-1)) hx hb dX12_back_16 (by decide) ?_
      have G := G.sub (bs' := [[zO11 mo m_all m_has i_size i_next i_where i_token i_number i_word i_wrong i_farCrossing m_read j_z0_1 j_crossings_2 j_inns_3 m_posts m_shut m_here j_steps_4 j_done_5 i_at i_gone m_was m_came m_seenAt m_rowWorth m_farBy m_used i_everywhere i_again0 i_d0 i_never i_firstCame i_longRun i_moved i_crowd i_l0 i_fitMany i_fitLeast i_fitMost m_fitPost m_fitEnd m_keptPosts i_x0], [zAr T 0 m_all 3952 f_all], [zAr T 0 m_posts 7 g_posts_6], [zAr T 0 m_shut 7 g_shut_7], [zAr T 0 m_here 7 g_here_8], [zAr T 0 m_was 7 f_was]]) [5, 1, 2, 3, 4, 0] rfl
      exact z_back hQz_ (z_iret C hr hlocks G (Nat.le_of_ble_eq_true rfl) (Nat.le_of_ble_eq_true rfl) dX12_back_17 ⟨j_z0_1, j_crossings_2, j_inns_3, j_steps_4, j_done_5, i_at, i_gone, g_posts_6, g_shut_7, g_here_8, f_was, rfl⟩)
  · have h_23 : (l_.toInt < 0 ∨ (f_all 0).toInt ≤ l_.toInt) := h_23
    refine lv_if_eq (tgt := 16) hx hb dX12_back_5 (by decide) (fun _ => ?_) (fun q => absurd (by decide) q)
    refine lv_iconst (v := (-1)) hx hb dX12_back_16 (by decide) ?_
    have G := G.sub (bs' := [[zO11 mo m_all m_has i_size i_next i_where i_token i_number i_word i_wrong i_farCrossing m_read j_z0_1 j_crossings_2 j_inns_3 m_posts m_shut m_here j_steps_4 j_done_5 i_at i_gone m_was m_came m_seenAt m_rowWorth m_farBy m_used i_everywhere i_again0 i_d0 i_never i_firstCame i_longRun i_moved i_crowd i_l0 i_fitMany i_fitLeast i_fitMost m_fitPost m_fitEnd m_keptPosts i_x0], [zAr T 0 m_all 3952 f_all], [zAr T 0 m_posts 7 g_posts_6], [zAr T 0 m_shut 7 g_shut_7], [zAr T 0 m_here 7 g_here_8], [zAr T 0 m_was 7 f_was]]) [1, 2, 3, 4, 5, 0] rfl
    exact z_back hQz_ (z_iret C hr hlocks G (Nat.le_of_ble_eq_true rfl) (Nat.le_of_ble_eq_true rfl) dX12_back_17 ⟨j_z0_1, j_crossings_2, j_inns_3, j_steps_4, j_done_5, i_at, i_gone, g_posts_6, g_shut_7, g_here_8, f_was, rfl⟩)
set_option maxHeartbeats 4000000 in
set_option maxRecDepth 100000 in
/-- c_m_roads5 -/
theorem c_m_roads5 (l : Launch) (T : zTy) (mo : Nat) (m_all : Nat) (m_has : Nat) (i_size : Int32) (i_next : Int32) (i_where : Int32) (i_token : Int32) (i_number : Int32) (i_word : Int32) (i_wrong : Int32) (i_farCrossing : Int32) (m_read : Nat) (i_z0 : Int32) (i_crossings : Int32) (i_inns : Int32) (m_posts : Nat) (m_shut : Nat) (m_here : Nat) (i_steps : Int32) (i_done : Int32) (i_at : Int32) (i_gone : Int32) (m_was : Nat) (m_came : Nat) (m_seenAt : Nat) (m_rowWorth : Nat) (m_farBy : Nat) (m_used : Nat) (i_everywhere : Int32) (i_again0 : Int32) (i_d0 : Int32) (i_never : Int32) (i_firstCame : Int32) (i_longRun : Int32) (i_moved : Int32) (i_crowd : Int32) (i_l0 : Int32) (i_fitMany : Int32) (i_fitLeast : Int32) (i_fitMost : Int32) (m_fitPost : Nat) (m_fitEnd : Nat) (m_keptPosts : Nat) (i_x0 : Int32) (f_all : Nat → Int32) (c_ : Int32) (hL : zML f_all i_z0 i_crossings) (hc0 : 0 ≤ c_.toInt) (hc6 : c_.toInt ≤ 6) : zMi l T yX12_roads5 cX12_roads5 2 (some .int) 2 0 0 [.ref mo, .int c_] [[zO11 mo m_all m_has i_size i_next i_where i_token i_number i_word i_wrong i_farCrossing m_read i_z0 i_crossings i_inns m_posts m_shut m_here i_steps i_done i_at i_gone m_was m_came m_seenAt m_rowWorth m_farBy m_used i_everywhere i_again0 i_d0 i_never i_firstCame i_longRun i_moved i_crowd i_l0 i_fitMany i_fitLeast i_fitMost m_fitPost m_fitEnd m_keptPosts i_x0], [zAr T 0 m_all 3952 f_all]] (fun (r : Int32) bs => bs = [[zO11 mo m_all m_has i_size i_next i_where i_token i_number i_word i_wrong i_farCrossing m_read i_z0 i_crossings i_inns m_posts m_shut m_here i_steps i_done i_at i_gone m_was m_came m_seenAt m_rowWorth m_farBy m_used i_everywhere i_again0 i_d0 i_never i_firstCame i_longRun i_moved i_crowd i_l0 i_fitMany i_fitLeast i_fitMost m_fitPost m_fitEnd m_keptPosts i_x0], [zAr T 0 m_all 3952 f_all]] ∧ 0 ≤ r.toInt ∧ r.toInt ≤ 4) := by
  refine zMi_of (own := RX12) (by decide) rfl (Nat.le_of_ble_eq_true rfl) ?_
  intro p e s m args below meth c A ls C hr hlocks hnm hAe G hl
  refine zHide (fun Qz_ hQz_ => ?_)
  have hx := C.1
  have hb := C.2.1
  have hl : lv_has ls 2 [(0, .ref mo), (1, .int c_)] := hl
  refine lv_aload_n hx hb dX12_roads5_0 rfl (lv_at hl 0 rfl) ?_
  refine lv_iload_n hx hb dX12_roads5_1 rfl (lv_at hl 1 rfl) ?_
  refine z_Vi (bc := [[zO11 mo m_all m_has i_size i_next i_where i_token i_number i_word i_wrong i_farCrossing m_read i_z0 i_crossings i_inns m_posts m_shut m_here i_steps i_done i_at i_gone m_was m_came m_seenAt m_rowWorth m_farBy m_used i_everywhere i_again0 i_d0 i_never i_firstCame i_longRun i_moved i_crowd i_l0 i_fitMany i_fitLeast i_fitMost m_fitPost m_fitEnd m_keptPosts i_x0]]) (br := [[zAr T 0 m_all 3952 f_all]]) (As := [.int c_]) (rest := []) C G (c_m_isInn l T mo m_all m_has i_size i_next i_where i_token i_number i_word i_wrong i_farCrossing m_read i_z0 i_crossings i_inns m_posts m_shut m_here i_steps i_done i_at i_gone m_was m_came m_seenAt m_rowWorth m_farBy m_used i_everywhere i_again0 i_d0 i_never i_firstCame i_longRun i_moved i_crowd i_l0 i_fitMany i_fitLeast i_fitMost m_fitPost m_fitEnd m_keptPosts i_x0 c_) (kV_RX12_178 C.2.2.2.2 (Nat.le_of_ble_eq_true rfl) (Nat.le_of_ble_eq_true rfl)) [0] [0] rfl rfl (ci := 11) (qc := (RX12, TX12, 43)) rfl rfl (List.mem_flatten.mpr ⟨_, List.mem_of_getElem? (i := 0) rfl, List.mem_cons_self⟩) rfl rfl hl.1 dX12_roads5_2 (Nat.le_of_ble_eq_true rfl) (Nat.le_of_ble_eq_true rfl) (fun r_2 b1 H locs hw G => ?_)
  refine zAn2 hw ?_
  intro hbs9 hc_1
  clear hw
  subst hbs9
  have G : zS T A s.heap s [[zAr T 0 m_all 3952 f_all], [zO11 mo m_all m_has i_size i_next i_where i_token i_number i_word i_wrong i_farCrossing m_read i_z0 i_crossings i_inns m_posts m_shut m_here i_steps i_done i_at i_gone m_was m_came m_seenAt m_rowWorth m_farBy m_used i_everywhere i_again0 i_d0 i_never i_firstCame i_longRun i_moved i_crowd i_l0 i_fitMany i_fitLeast i_fitMost m_fitPost m_fitEnd m_keptPosts i_x0]] _ _ := G
  rcases hc_1 with ⟨rfl, h_3⟩ | ⟨rfl, h_4⟩
  · have h_3 : zInn i_inns c_ := h_3
    refine lv_if_eq (tgt := 12) hx hb dX12_roads5_5 (by decide) (fun q => absurd q (by decide)) (fun _ => ?_)
    refine lv_iconst (v := 0) hx hb dX12_roads5_8 (by decide) ?_
    refine lv_goto (tgt := 17) hx hb dX12_roads5_9 (by decide) ?_
    have G := G.sub (bs' := [[zO11 mo m_all m_has i_size i_next i_where i_token i_number i_word i_wrong i_farCrossing m_read i_z0 i_crossings i_inns m_posts m_shut m_here i_steps i_done i_at i_gone m_was m_came m_seenAt m_rowWorth m_farBy m_used i_everywhere i_again0 i_d0 i_never i_firstCame i_longRun i_moved i_crowd i_l0 i_fitMany i_fitLeast i_fitMost m_fitPost m_fitEnd m_keptPosts i_x0], [zAr T 0 m_all 3952 f_all]]) [1, 0] rfl
    exact z_back hQz_ (z_iret C hr hlocks G (Nat.le_of_ble_eq_true rfl) (Nat.le_of_ble_eq_true rfl) dX12_roads5_17 ⟨rfl, (by decide), (by decide)⟩)
  · have h_4 : ¬ zInn i_inns c_ := h_4
    refine lv_if_eq (tgt := 12) hx hb dX12_roads5_5 (by decide) (fun _ => ?_) (fun q => absurd (by decide) q)
    refine lv_aload_n hx hb dX12_roads5_12 rfl (lv_at hl 0 rfl) ?_
    refine lv_iload_n hx hb dX12_roads5_13 rfl (lv_at hl 1 rfl) ?_
    refine z_Vi (bc := [[zO11 mo m_all m_has i_size i_next i_where i_token i_number i_word i_wrong i_farCrossing m_read i_z0 i_crossings i_inns m_posts m_shut m_here i_steps i_done i_at i_gone m_was m_came m_seenAt m_rowWorth m_farBy m_used i_everywhere i_again0 i_d0 i_never i_firstCame i_longRun i_moved i_crowd i_l0 i_fitMany i_fitLeast i_fitMost m_fitPost m_fitEnd m_keptPosts i_x0], [zAr T 0 m_all 3952 f_all]]) (br := []) (As := [.int c_]) (rest := []) C G (c_m_roadsOf l T mo m_all m_has i_size i_next i_where i_token i_number i_word i_wrong i_farCrossing m_read i_z0 i_crossings i_inns m_posts m_shut m_here i_steps i_done i_at i_gone m_was m_came m_seenAt m_rowWorth m_farBy m_used i_everywhere i_again0 i_d0 i_never i_firstCame i_longRun i_moved i_crowd i_l0 i_fitMany i_fitLeast i_fitMost m_fitPost m_fitEnd m_keptPosts i_x0 f_all c_ (by first | with_reducible assumption | with_reducible rfl | omega | assumption | rfl | decide) (by first | with_reducible assumption | with_reducible rfl | omega | assumption | rfl | decide) (by first | with_reducible assumption | with_reducible rfl | omega | assumption | rfl | decide)) (kV_RX12_181 C.2.2.2.2 (Nat.le_of_ble_eq_true rfl) (Nat.le_of_ble_eq_true rfl)) [1, 0] [0, 0] rfl rfl (ci := 11) (qc := (RX12, TX12, 43)) rfl rfl (List.mem_flatten.mpr ⟨_, List.mem_of_getElem? (i := 0) rfl, List.mem_cons_self⟩) rfl rfl hl.1 dX12_roads5_14 (Nat.le_of_ble_eq_true rfl) (Nat.le_of_ble_eq_true rfl) (fun r_8 b1 H locs hw G => ?_)
    refine zAn4 hw ?_
    intro hbs9 h_5 h_6 h_7
    clear hw
    subst hbs9
    have G : zS T A s.heap s [[zO11 mo m_all m_has i_size i_next i_where i_token i_number i_word i_wrong i_farCrossing m_read i_z0 i_crossings i_inns m_posts m_shut m_here i_steps i_done i_at i_gone m_was m_came m_seenAt m_rowWorth m_farBy m_used i_everywhere i_again0 i_d0 i_never i_firstCame i_longRun i_moved i_crowd i_l0 i_fitMany i_fitLeast i_fitMost m_fitPost m_fitEnd m_keptPosts i_x0], [zAr T 0 m_all 3952 f_all]] _ _ := G
    subst h_5
    exact z_back hQz_ (z_iret C hr hlocks G (Nat.le_of_ble_eq_true rfl) (Nat.le_of_ble_eq_true rfl) dX12_roads5_17 ⟨rfl, (by first | with_reducible assumption | omega | trivial | assumption), (by first | with_reducible assumption | omega | trivial | assumption)⟩)
set_option maxHeartbeats 4000000 in
set_option maxRecDepth 100000 in
/-- c_m_keys -/
theorem c_m_keys (l : Launch) (T : zTy) (mo : Nat) (m_all : Nat) (m_has : Nat) (i_size : Int32) (i_next : Int32) (i_where : Int32) (i_token : Int32) (i_number : Int32) (i_word : Int32) (i_wrong : Int32) (i_farCrossing : Int32) (m_read : Nat) (i_z0 : Int32) (i_crossings : Int32) (i_inns : Int32) (m_posts : Nat) (m_shut : Nat) (m_here : Nat) (i_steps : Int32) (i_done : Int32) (i_at : Int32) (i_gone : Int32) (m_was : Nat) (m_came : Nat) (m_seenAt : Nat) (m_rowWorth : Nat) (m_farBy : Nat) (m_used : Nat) (i_everywhere : Int32) (i_again0 : Int32) (i_d0 : Int32) (i_never : Int32) (i_firstCame : Int32) (i_longRun : Int32) (i_moved : Int32) (i_crowd : Int32) (i_l0 : Int32) (i_fitMany : Int32) (i_fitLeast : Int32) (i_fitMost : Int32) (m_fitPost : Nat) (m_fitEnd : Nat) (m_keptPosts : Nat) (i_x0 : Int32) (f_all : Nat → Int32) (f_posts : Nat → Int32) (f_shut : Nat → Int32) (f_here : Nat → Int32) (f_was : Nat → Int32) (l_ : Int32) (c_ : Int32) (u_ : Int32) (hB : zBI f_all) : zMi l T yX12_keys cX12_keys 8 (some .int) 5 0 0 [.ref mo, .int l_, .int c_, .int u_] [[zO11 mo m_all m_has i_size i_next i_where i_token i_number i_word i_wrong i_farCrossing m_read i_z0 i_crossings i_inns m_posts m_shut m_here i_steps i_done i_at i_gone m_was m_came m_seenAt m_rowWorth m_farBy m_used i_everywhere i_again0 i_d0 i_never i_firstCame i_longRun i_moved i_crowd i_l0 i_fitMany i_fitLeast i_fitMost m_fitPost m_fitEnd m_keptPosts i_x0], [zAr T 0 m_all 3952 f_all], [zAr T 0 m_posts 7 f_posts], [zAr T 0 m_shut 7 f_shut], [zAr T 0 m_here 7 f_here], [zAr T 0 m_was 7 f_was]] (fun (r : Int32) bs => ∃ (j_z0 : Int32) (j_crossings : Int32) (j_inns : Int32) (j_steps : Int32) (j_done : Int32) (j_at : Int32) (j_gone : Int32) (g_posts : Nat → Int32) (g_shut : Nat → Int32) (g_here : Nat → Int32) (g_was : Nat → Int32), bs = [[zO11 mo m_all m_has i_size i_next i_where i_token i_number i_word i_wrong i_farCrossing m_read j_z0 j_crossings j_inns m_posts m_shut m_here j_steps j_done j_at j_gone m_was m_came m_seenAt m_rowWorth m_farBy m_used i_everywhere i_again0 i_d0 i_never i_firstCame i_longRun i_moved i_crowd i_l0 i_fitMany i_fitLeast i_fitMost m_fitPost m_fitEnd m_keptPosts i_x0], [zAr T 0 m_all 3952 f_all], [zAr T 0 m_posts 7 g_posts], [zAr T 0 m_shut 7 g_shut], [zAr T 0 m_here 7 g_here], [zAr T 0 m_was 7 g_was]]) := by
  refine zMi_of (own := RX12) (by decide) rfl (Nat.le_of_ble_eq_true rfl) ?_
  intro p e s m args below meth c A ls C hr hlocks hnm hAe G hl
  refine zHide (fun Qz_ hQz_ => ?_)
  have hx := C.1
  have hb := C.2.1
  have hl : lv_has ls 8 [(0, .ref mo), (1, .int l_), (2, .int c_), (3, .int u_)] := hl
  refine lv_aload_n hx hb dX12_keys_0 rfl (lv_at hl 0 rfl) ?_
  refine lv_iload_n hx hb dX12_keys_1 rfl (lv_at hl 1 rfl) ?_
  refine z_Vi (bc := [[zO11 mo m_all m_has i_size i_next i_where i_token i_number i_word i_wrong i_farCrossing m_read i_z0 i_crossings i_inns m_posts m_shut m_here i_steps i_done i_at i_gone m_was m_came m_seenAt m_rowWorth m_farBy m_used i_everywhere i_again0 i_d0 i_never i_firstCame i_longRun i_moved i_crowd i_l0 i_fitMany i_fitLeast i_fitMost m_fitPost m_fitEnd m_keptPosts i_x0], [zAr T 0 m_all 3952 f_all], [zAr T 0 m_posts 7 f_posts], [zAr T 0 m_shut 7 f_shut], [zAr T 0 m_here 7 f_here]]) (br := [[zAr T 0 m_was 7 f_was]]) (As := [.int l_]) (rest := []) C G (c_m_isLand l T mo m_all m_has i_size i_next i_where i_token i_number i_word i_wrong i_farCrossing m_read i_z0 i_crossings i_inns m_posts m_shut m_here i_steps i_done i_at i_gone m_was m_came m_seenAt m_rowWorth m_farBy m_used i_everywhere i_again0 i_d0 i_never i_firstCame i_longRun i_moved i_crowd i_l0 i_fitMany i_fitLeast i_fitMost m_fitPost m_fitEnd m_keptPosts i_x0 f_all f_posts f_shut f_here l_ (by first | with_reducible assumption | with_reducible rfl | omega | assumption | rfl | decide)) (kV_RX12_184 C.2.2.2.2 (Nat.le_of_ble_eq_true rfl) (Nat.le_of_ble_eq_true rfl)) [0, 1, 2, 3, 4] [0, 0, 0, 0, 0] rfl rfl (ci := 11) (qc := (RX12, TX12, 43)) rfl rfl (List.mem_flatten.mpr ⟨_, List.mem_of_getElem? (i := 0) rfl, List.mem_cons_self⟩) rfl rfl hl.1 dX12_keys_2 (Nat.le_of_ble_eq_true rfl) (Nat.le_of_ble_eq_true rfl) (fun r_10 b1 H locs hw G => ?_)
  refine zEx8 hw ?_
  intro j_z0_1 j_crossings_2 j_inns_3 j_steps_4 j_done_5 g_posts_6 g_shut_7 g_here_8
  refine zCu2 ?_
  intro hbs9 hc_9
  clear hw
  subst hbs9
  have G : zS T A s.heap s [[zAr T 0 m_was 7 f_was], [zO11 mo m_all m_has i_size i_next i_where i_token i_number i_word i_wrong i_farCrossing m_read j_z0_1 j_crossings_2 j_inns_3 m_posts m_shut m_here j_steps_4 j_done_5 i_at i_gone m_was m_came m_seenAt m_rowWorth m_farBy m_used i_everywhere i_again0 i_d0 i_never i_firstCame i_longRun i_moved i_crowd i_l0 i_fitMany i_fitLeast i_fitMost m_fitPost m_fitEnd m_keptPosts i_x0], [zAr T 0 m_all 3952 f_all], [zAr T 0 m_posts 7 g_posts_6], [zAr T 0 m_shut 7 g_shut_7], [zAr T 0 m_here 7 g_here_8]] _ _ := G
  rcases hc_9 with ⟨rfl, h_11, h_12, h_13, h_14, h_15, h_16, h_17, h_18, h_19, h_20, h_21, h_22⟩ | ⟨rfl, h_23⟩
  · have h_11 : 0 ≤ l_.toInt := h_11
    have h_12 : l_.toInt ≤ 1 := h_12
    have h_13 : l_.toInt < (f_all 0).toInt := h_13
    have h_14 : j_z0_1.toInt = 610 + 51 * l_.toInt := h_14
    have h_15 : zML f_all j_z0_1 j_crossings_2 := h_15
    have h_16 : zMP g_posts_6 := h_16
    have h_17 : j_inns_3 = f_all (j_z0_1.toInt.toNat + 1) := h_17
    have h_18 : j_steps_4 = 0 := h_18
    have h_19 : j_done_5 = 0 := h_19
    have h_20 : (∀ j, j < 7 → g_posts_6 j = zPt f_all j_z0_1 (nI j)) := h_20
    have h_21 : (∀ j, j < 7 → g_shut_7 j = 0) := h_21
    have h_22 : (∀ j, j < 7 → g_here_8 j = zWk f_all j_z0_1 j) := h_22
    have hLx := h_15
    have hcr := hLx.cr
    have hzx := hLx.1
    have hPx := h_16
    refine lv_if_eq (tgt := 24) hx hb dX12_keys_5 (by decide) (fun q => absurd q (by decide)) (fun _ => ?_)
    refine lv_aload_n hx hb dX12_keys_8 rfl (lv_at hl 0 rfl) ?_
    refine lv_iload_n hx hb dX12_keys_9 rfl (lv_at hl 2 rfl) ?_
    refine z_Vi (bc := [[zO11 mo m_all m_has i_size i_next i_where i_token i_number i_word i_wrong i_farCrossing m_read j_z0_1 j_crossings_2 j_inns_3 m_posts m_shut m_here j_steps_4 j_done_5 i_at i_gone m_was m_came m_seenAt m_rowWorth m_farBy m_used i_everywhere i_again0 i_d0 i_never i_firstCame i_longRun i_moved i_crowd i_l0 i_fitMany i_fitLeast i_fitMost m_fitPost m_fitEnd m_keptPosts i_x0]]) (br := [[zAr T 0 m_was 7 f_was], [zAr T 0 m_all 3952 f_all], [zAr T 0 m_posts 7 g_posts_6], [zAr T 0 m_shut 7 g_shut_7], [zAr T 0 m_here 7 g_here_8]]) (As := [.int c_]) (rest := []) C G (c_m_isCrossing l T mo m_all m_has i_size i_next i_where i_token i_number i_word i_wrong i_farCrossing m_read j_z0_1 j_crossings_2 j_inns_3 m_posts m_shut m_here j_steps_4 j_done_5 i_at i_gone m_was m_came m_seenAt m_rowWorth m_farBy m_used i_everywhere i_again0 i_d0 i_never i_firstCame i_longRun i_moved i_crowd i_l0 i_fitMany i_fitLeast i_fitMost m_fitPost m_fitEnd m_keptPosts i_x0 c_ (by first | with_reducible assumption | with_reducible rfl | omega | assumption | rfl | decide)) (kV_RX12_187 C.2.2.2.2 (Nat.le_of_ble_eq_true rfl) (Nat.le_of_ble_eq_true rfl)) [1] [1] rfl rfl (ci := 11) (qc := (RX12, TX12, 43)) rfl rfl (List.mem_flatten.mpr ⟨_, List.mem_of_getElem? (i := 0) rfl, List.mem_cons_self⟩) rfl rfl hl.1 dX12_keys_10 (Nat.le_of_ble_eq_true rfl) (Nat.le_of_ble_eq_true rfl) (fun r_25 b1 H locs hw G => ?_)
    refine zAn2 hw ?_
    intro hbs9 hc_24
    clear hw
    subst hbs9
    have G : zS T A s.heap s [[zAr T 0 m_was 7 f_was], [zAr T 0 m_all 3952 f_all], [zAr T 0 m_posts 7 g_posts_6], [zAr T 0 m_shut 7 g_shut_7], [zAr T 0 m_here 7 g_here_8], [zO11 mo m_all m_has i_size i_next i_where i_token i_number i_word i_wrong i_farCrossing m_read j_z0_1 j_crossings_2 j_inns_3 m_posts m_shut m_here j_steps_4 j_done_5 i_at i_gone m_was m_came m_seenAt m_rowWorth m_farBy m_used i_everywhere i_again0 i_d0 i_never i_firstCame i_longRun i_moved i_crowd i_l0 i_fitMany i_fitLeast i_fitMost m_fitPost m_fitEnd m_keptPosts i_x0]] _ _ := G
    rcases hc_24 with ⟨rfl, h_26, h_27⟩ | ⟨rfl, h_28⟩
    · have h_26 : 0 ≤ c_.toInt := h_26
      have h_27 : c_.toInt < j_crossings_2.toInt := h_27
      refine lv_if_eq (tgt := 24) hx hb dX12_keys_13 (by decide) (fun q => absurd q (by decide)) (fun _ => ?_)
      refine lv_aload_n hx hb dX12_keys_16 rfl (lv_at hl 0 rfl) ?_
      refine lv_iload_n hx hb dX12_keys_17 rfl (lv_at hl 2 rfl) ?_
      refine z_Vi (bc := [[zO11 mo m_all m_has i_size i_next i_where i_token i_number i_word i_wrong i_farCrossing m_read j_z0_1 j_crossings_2 j_inns_3 m_posts m_shut m_here j_steps_4 j_done_5 i_at i_gone m_was m_came m_seenAt m_rowWorth m_farBy m_used i_everywhere i_again0 i_d0 i_never i_firstCame i_longRun i_moved i_crowd i_l0 i_fitMany i_fitLeast i_fitMost m_fitPost m_fitEnd m_keptPosts i_x0], [zAr T 0 m_all 3952 f_all], [zAr T 0 m_posts 7 g_posts_6], [zAr T 0 m_shut 7 g_shut_7], [zAr T 0 m_was 7 f_was]]) (br := [[zAr T 0 m_here 7 g_here_8]]) (As := [.int c_]) (rest := []) C G (c_m_walks l T mo m_all m_has i_size i_next i_where i_token i_number i_word i_wrong i_farCrossing m_read j_z0_1 j_crossings_2 j_inns_3 m_posts m_shut m_here j_steps_4 j_done_5 i_at i_gone m_was m_came m_seenAt m_rowWorth m_farBy m_used i_everywhere i_again0 i_d0 i_never i_firstCame i_longRun i_moved i_crowd i_l0 i_fitMany i_fitLeast i_fitMost m_fitPost m_fitEnd m_keptPosts i_x0 f_all g_posts_6 g_shut_7 f_was c_ (by first | with_reducible assumption | with_reducible rfl | omega | assumption | rfl | decide) (by first | with_reducible assumption | with_reducible rfl | omega | assumption | rfl | decide) (by first | with_reducible assumption | with_reducible rfl | omega | assumption | rfl | decide) (by first | with_reducible assumption | with_reducible rfl | omega | assumption | rfl | decide)) (kV_RX12_217 C.2.2.2.2 (Nat.le_of_ble_eq_true rfl) (Nat.le_of_ble_eq_true rfl)) [5, 1, 2, 3, 0] [0, 0, 0, 0, 1] rfl rfl (ci := 11) (qc := (RX12, TX12, 43)) rfl rfl (List.mem_flatten.mpr ⟨_, List.mem_of_getElem? (i := 0) rfl, List.mem_cons_self⟩) rfl rfl hl.1 dX12_keys_18 (Nat.le_of_ble_eq_true rfl) (Nat.le_of_ble_eq_true rfl) (fun r_39 b1 H locs hw G => ?_)
      refine zEx4 hw ?_
      intro j_at_29 j_gone_30 g_posts_31 g_was_32
      refine zCu7 ?_
      intro hbs9 h_33 h_34 h_35 h_36 h_37 h_38
      clear hw
      subst hbs9
      have G : zS T A s.heap s [[zAr T 0 m_here 7 g_here_8], [zO11 mo m_all m_has i_size i_next i_where i_token i_number i_word i_wrong i_farCrossing m_read j_z0_1 j_crossings_2 j_inns_3 m_posts m_shut m_here j_steps_4 j_done_5 j_at_29 j_gone_30 m_was m_came m_seenAt m_rowWorth m_farBy m_used i_everywhere i_again0 i_d0 i_never i_firstCame i_longRun i_moved i_crowd i_l0 i_fitMany i_fitLeast i_fitMost m_fitPost m_fitEnd m_keptPosts i_x0], [zAr T 0 m_all 3952 f_all], [zAr T 0 m_posts 7 g_posts_31], [zAr T 0 m_shut 7 g_shut_7], [zAr T 0 m_was 7 g_was_32]] _ _ := G
      replace h_33 : zHd ((r_39 = 0 ∨ r_39 = 1)) := h_33
      refine lv_if_ne (tgt := 27) hx hb dX12_keys_21 (by decide) (fun c_40 => ?_) (fun c_40 => ?_)
      · have c_40n : ¬ r_39.toInt = (0 : Int) := fun q => c_40 ((fa_eq _ _).mpr q)
        refine lv_iconst (v := 0) hx hb dX12_keys_27 (by decide) ?_
        refine lv_istore (lv' := [(4, .int 0), (0, .ref mo), (1, .int l_), (2, .int c_), (3, .int u_)]) hx hb dX12_keys_28 hl (by decide) (zLvf_h rfl) (fun ls hl => ?_)
        refine lv_iconst (v := (-1)) hx hb dX12_keys_30 (by decide) ?_
        refine lv_istore (lv' := [(5, .int (-1)), (4, .int 0), (0, .ref mo), (1, .int l_), (2, .int c_), (3, .int u_)]) hx hb dX12_keys_31 hl (by decide) (zLvf_h rfl) (fun ls hl => ?_)
        refine lv_aload_n hx hb dX12_keys_33 rfl (lv_at hl 2 rfl) ?_
        refine z_get C G clX12 1 rfl 12 (by decide) m_fl_RX12_169 rfl dX12_keys_34 ?_
        refine lv_iconst (v := 1) hx hb dX12_keys_37 (by decide) ?_
        refine lv_isub hx hb dX12_keys_38 ?_
        refine lv_topi (fun y_41 ey_41 => ?_)
        have ey_41i : y_41.toInt = j_crossings_2.toInt - (1 : Int) := by rw [ey_41]; exact z_isubI (x := j_crossings_2) (y := (1 : Int32)) (by show -2147483648 ≤ j_crossings_2.toInt - (1 : Int); omega) (by show j_crossings_2.toInt - (1 : Int) < 2147483648; omega)
        refine lv_istore (lv' := [(6, .int y_41), (5, .int (-1)), (4, .int 0), (0, .ref mo), (1, .int l_), (2, .int c_), (3, .int u_)]) hx hb dX12_keys_39 hl (by decide) (zLvf_h rfl) (fun ls hl => ?_)
        refine z_lp11 (T := T) 41 (fun (c9 : Int32) (u : Int32) (b9 : Int32) (xat : Int32) (xgone : Int32) (xsteps : Int32) (xdone : Int32) (xposts : Nat → Int32) (xwas : Nat → Int32) (xshut : Nat → Int32) (xhere : Nat → Int32) => [[zAr T 0 m_here 7 xhere], [zO11 mo m_all m_has i_size i_next i_where i_token i_number i_word i_wrong i_farCrossing m_read j_z0_1 j_crossings_2 j_inns_3 m_posts m_shut m_here xsteps xdone xat xgone m_was m_came m_seenAt m_rowWorth m_farBy m_used i_everywhere i_again0 i_d0 i_never i_firstCame i_longRun i_moved i_crowd i_l0 i_fitMany i_fitLeast i_fitMost m_fitPost m_fitEnd m_keptPosts i_x0], [zAr T 0 m_all 3952 f_all], [zAr T 0 m_posts 7 xposts], [zAr T 0 m_shut 7 xshut], [zAr T 0 m_was 7 xwas]]) (fun (c9 : Int32) (u : Int32) (b9 : Int32) (xat : Int32) (xgone : Int32) (xsteps : Int32) (xdone : Int32) (xposts : Nat → Int32) (xwas : Nat → Int32) (xshut : Nat → Int32) (xhere : Nat → Int32) => [(6, .int c9), (5, .int b9), (4, .int u), (0, .ref mo), (1, .int l_), (2, .int c_), (3, .int u_)]) (fun (c9 : Int32) (u : Int32) (b9 : Int32) (xat : Int32) (xgone : Int32) (xsteps : Int32) (xdone : Int32) (xposts : Nat → Int32) (xwas : Nat → Int32) (xshut : Nat → Int32) (xhere : Nat → Int32) => -1 ≤ c9.toInt ∧ c9.toInt ≤ 6 ∧ zMP xposts) (fun (c9 : Int32) (u : Int32) (b9 : Int32) (xat : Int32) (xgone : Int32) (xsteps : Int32) (xdone : Int32) (xposts : Nat → Int32) (xwas : Nat → Int32) (xshut : Nat → Int32) (xhere : Nat → Int32) => (c9.toInt + 1).toNat) ?_ y_41 0 (-1) j_at_29 j_gone_30 j_steps_4 j_done_5 g_posts_31 g_was_32 g_shut_7 g_here_8 (show -1 ≤ y_41.toInt ∧ y_41.toInt ≤ 6 ∧ zMP g_posts_31 from ⟨by omega, by omega, (by first | with_reducible assumption | assumption)⟩) G (lv_sub hl [0, 1, 2, 3, 4, 5, 6] rfl)
        intro c9 u b9 xat xgone xsteps xdone xposts xwas xshut xhere hI9 ih_41 H locs ls G hl
        replace hI9 : -1 ≤ c9.toInt ∧ c9.toInt ≤ 6 ∧ zMP xposts := hI9
        refine zAn3 hI9 ?_
        intro hc1 hc9 hQ
        clear hI9
        replace G : zS T A s.heap s [[zAr T 0 m_here 7 xhere], [zO11 mo m_all m_has i_size i_next i_where i_token i_number i_word i_wrong i_farCrossing m_read j_z0_1 j_crossings_2 j_inns_3 m_posts m_shut m_here xsteps xdone xat xgone m_was m_came m_seenAt m_rowWorth m_farBy m_used i_everywhere i_again0 i_d0 i_never i_firstCame i_longRun i_moved i_crowd i_l0 i_fitMany i_fitLeast i_fitMost m_fitPost m_fitEnd m_keptPosts i_x0], [zAr T 0 m_all 3952 f_all], [zAr T 0 m_posts 7 xposts], [zAr T 0 m_shut 7 xshut], [zAr T 0 m_was 7 xwas]] _ _ := G
        replace hl : lv_has ls 8 [(6, .int c9), (5, .int b9), (4, .int u), (0, .ref mo), (1, .int l_), (2, .int c_), (3, .int u_)] := hl
        refine lv_iload hx hb dX12_keys_41 (lv_at hl 0 rfl) ?_
        refine lv_if_lt (tgt := 112) hx hb dX12_keys_43 (by decide) (fun c_42 => ?_) (fun c_42 => ?_)
        · have c_42n : c9.toInt < (0 : Int) := (fa_lt _ _).mp c_42
          refine lv_iload_n hx hb dX12_keys_112 rfl (lv_at hl 6 rfl) ?_
          refine lv_if_eq (tgt := 121) hx hb dX12_keys_113 (by decide) (fun c_43 => ?_) (fun c_43 => ?_)
          · have c_43n : u_.toInt = (0 : Int) := (fa_eq _ _).mp c_43
            refine lv_iload hx hb dX12_keys_121 (lv_at hl 2 rfl) ?_
            have G := G.sub (bs' := [[zO11 mo m_all m_has i_size i_next i_where i_token i_number i_word i_wrong i_farCrossing m_read j_z0_1 j_crossings_2 j_inns_3 m_posts m_shut m_here xsteps xdone xat xgone m_was m_came m_seenAt m_rowWorth m_farBy m_used i_everywhere i_again0 i_d0 i_never i_firstCame i_longRun i_moved i_crowd i_l0 i_fitMany i_fitLeast i_fitMost m_fitPost m_fitEnd m_keptPosts i_x0], [zAr T 0 m_all 3952 f_all], [zAr T 0 m_posts 7 xposts], [zAr T 0 m_shut 7 xshut], [zAr T 0 m_here 7 xhere], [zAr T 0 m_was 7 xwas]]) [1, 2, 3, 4, 0, 5] rfl
            exact z_back hQz_ (z_iret C hr hlocks G (Nat.le_of_ble_eq_true rfl) (Nat.le_of_ble_eq_true rfl) dX12_keys_123 ⟨j_z0_1, j_crossings_2, j_inns_3, xsteps, xdone, xat, xgone, xposts, xshut, xhere, xwas, rfl⟩)
          · have c_43n : ¬ u_.toInt = (0 : Int) := fun q => c_43 ((fa_eq _ _).mpr q)
            refine lv_iload hx hb dX12_keys_116 (lv_at hl 1 rfl) ?_
            refine lv_goto (tgt := 123) hx hb dX12_keys_118 (by decide) ?_
            have G := G.sub (bs' := [[zO11 mo m_all m_has i_size i_next i_where i_token i_number i_word i_wrong i_farCrossing m_read j_z0_1 j_crossings_2 j_inns_3 m_posts m_shut m_here xsteps xdone xat xgone m_was m_came m_seenAt m_rowWorth m_farBy m_used i_everywhere i_again0 i_d0 i_never i_firstCame i_longRun i_moved i_crowd i_l0 i_fitMany i_fitLeast i_fitMost m_fitPost m_fitEnd m_keptPosts i_x0], [zAr T 0 m_all 3952 f_all], [zAr T 0 m_posts 7 xposts], [zAr T 0 m_shut 7 xshut], [zAr T 0 m_here 7 xhere], [zAr T 0 m_was 7 xwas]]) [1, 2, 3, 4, 0, 5] rfl
            exact z_back hQz_ (z_iret C hr hlocks G (Nat.le_of_ble_eq_true rfl) (Nat.le_of_ble_eq_true rfl) dX12_keys_123 ⟨j_z0_1, j_crossings_2, j_inns_3, xsteps, xdone, xat, xgone, xposts, xshut, xhere, xwas, rfl⟩)
        · have c_42n : ¬ c9.toInt < (0 : Int) := fun q => c_42 ((fa_lt _ _).mpr q)
          refine lv_aload_n hx hb dX12_keys_46 rfl (lv_at hl 3 rfl) ?_
          refine lv_iload hx hb dX12_keys_47 (lv_at hl 0 rfl) ?_
          refine z_Vi (bc := [[zO11 mo m_all m_has i_size i_next i_where i_token i_number i_word i_wrong i_farCrossing m_read j_z0_1 j_crossings_2 j_inns_3 m_posts m_shut m_here xsteps xdone xat xgone m_was m_came m_seenAt m_rowWorth m_farBy m_used i_everywhere i_again0 i_d0 i_never i_firstCame i_longRun i_moved i_crowd i_l0 i_fitMany i_fitLeast i_fitMost m_fitPost m_fitEnd m_keptPosts i_x0], [zAr T 0 m_all 3952 f_all]]) (br := [[zAr T 0 m_here 7 xhere], [zAr T 0 m_posts 7 xposts], [zAr T 0 m_shut 7 xshut], [zAr T 0 m_was 7 xwas]]) (As := [.int c9]) (rest := []) C G (c_m_roads5 l T mo m_all m_has i_size i_next i_where i_token i_number i_word i_wrong i_farCrossing m_read j_z0_1 j_crossings_2 j_inns_3 m_posts m_shut m_here xsteps xdone xat xgone m_was m_came m_seenAt m_rowWorth m_farBy m_used i_everywhere i_again0 i_d0 i_never i_firstCame i_longRun i_moved i_crowd i_l0 i_fitMany i_fitLeast i_fitMost m_fitPost m_fitEnd m_keptPosts i_x0 f_all c9 (by first | with_reducible assumption | with_reducible rfl | omega | assumption | rfl | decide) (by first | with_reducible assumption | with_reducible rfl | omega | assumption | rfl | decide) (by first | with_reducible assumption | with_reducible rfl | omega | assumption | rfl | decide)) (kV_RX12_255 C.2.2.2.2 (Nat.le_of_ble_eq_true rfl) (Nat.le_of_ble_eq_true rfl)) [1, 2] [1, 0] rfl rfl (ci := 11) (qc := (RX12, TX12, 43)) rfl rfl (List.mem_flatten.mpr ⟨_, List.mem_of_getElem? (i := 0) rfl, List.mem_cons_self⟩) rfl rfl hl.1 dX12_keys_49 (Nat.le_of_ble_eq_true rfl) (Nat.le_of_ble_eq_true rfl) (fun r_46 b1 H locs hw G => ?_)
          refine zAn3 hw ?_
          intro hbs9 h_44 h_45
          clear hw
          subst hbs9
          have G : zS T A s.heap s [[zAr T 0 m_here 7 xhere], [zAr T 0 m_posts 7 xposts], [zAr T 0 m_shut 7 xshut], [zAr T 0 m_was 7 xwas], [zO11 mo m_all m_has i_size i_next i_where i_token i_number i_word i_wrong i_farCrossing m_read j_z0_1 j_crossings_2 j_inns_3 m_posts m_shut m_here xsteps xdone xat xgone m_was m_came m_seenAt m_rowWorth m_farBy m_used i_everywhere i_again0 i_d0 i_never i_firstCame i_longRun i_moved i_crowd i_l0 i_fitMany i_fitLeast i_fitMost m_fitPost m_fitEnd m_keptPosts i_x0], [zAr T 0 m_all 3952 f_all]] _ _ := G
          refine lv_iconst (v := 1) hx hb dX12_keys_52 (by decide) ?_
          refine lv_isub hx hb dX12_keys_53 ?_
          refine lv_topi (fun y_47 ey_47 => ?_)
          have ey_47i : y_47.toInt = r_46.toInt - (1 : Int) := by rw [ey_47]; exact z_isubI (x := r_46) (y := (1 : Int32)) (by show -2147483648 ≤ r_46.toInt - (1 : Int); omega) (by show r_46.toInt - (1 : Int) < 2147483648; omega)
          refine lv_istore (lv' := [(7, .int y_47), (6, .int c9), (5, .int b9), (4, .int u), (0, .ref mo), (1, .int l_), (2, .int c_), (3, .int u_)]) hx hb dX12_keys_54 hl (by decide) (zLvf_h rfl) (fun ls hl => ?_)
          refine z_lp11 (T := T) 56 (fun (k9 : Int32) (u2 : Int32) (d9 : Int32) (yat : Int32) (ygone : Int32) (ysteps : Int32) (ydone : Int32) (yposts : Nat → Int32) (ywas : Nat → Int32) (yshut : Nat → Int32) (yhere : Nat → Int32) => [[zAr T 0 m_here 7 yhere], [zAr T 0 m_posts 7 yposts], [zAr T 0 m_shut 7 yshut], [zAr T 0 m_was 7 ywas], [zO11 mo m_all m_has i_size i_next i_where i_token i_number i_word i_wrong i_farCrossing m_read j_z0_1 j_crossings_2 j_inns_3 m_posts m_shut m_here ysteps ydone yat ygone m_was m_came m_seenAt m_rowWorth m_farBy m_used i_everywhere i_again0 i_d0 i_never i_firstCame i_longRun i_moved i_crowd i_l0 i_fitMany i_fitLeast i_fitMost m_fitPost m_fitEnd m_keptPosts i_x0], [zAr T 0 m_all 3952 f_all]]) (fun (k9 : Int32) (u2 : Int32) (d9 : Int32) (yat : Int32) (ygone : Int32) (ysteps : Int32) (ydone : Int32) (yposts : Nat → Int32) (ywas : Nat → Int32) (yshut : Nat → Int32) (yhere : Nat → Int32) => [(7, .int k9), (6, .int c9), (5, .int d9), (4, .int u2), (0, .ref mo), (1, .int l_), (2, .int c_), (3, .int u_)]) (fun (k9 : Int32) (u2 : Int32) (d9 : Int32) (yat : Int32) (ygone : Int32) (ysteps : Int32) (ydone : Int32) (yposts : Nat → Int32) (ywas : Nat → Int32) (yshut : Nat → Int32) (yhere : Nat → Int32) => -1 ≤ k9.toInt ∧ k9.toInt ≤ 3 ∧ zMP yposts) (fun (k9 : Int32) (u2 : Int32) (d9 : Int32) (yat : Int32) (ygone : Int32) (ysteps : Int32) (ydone : Int32) (yposts : Nat → Int32) (ywas : Nat → Int32) (yshut : Nat → Int32) (yhere : Nat → Int32) => (k9.toInt + 1).toNat) ?_ y_47 u b9 xat xgone xsteps xdone xposts xwas xshut xhere (show -1 ≤ y_47.toInt ∧ y_47.toInt ≤ 3 ∧ zMP xposts from ⟨by omega, by omega, (by first | with_reducible assumption | assumption)⟩) G (lv_sub hl [0, 1, 2, 3, 4, 5, 6, 7] rfl)
          intro k9 u2 d9 yat ygone ysteps ydone yposts ywas yshut yhere hI9 ih_56 H locs ls G hl
          replace hI9 : -1 ≤ k9.toInt ∧ k9.toInt ≤ 3 ∧ zMP yposts := hI9
          refine zAn3 hI9 ?_
          intro hk1 hk9 hQ2
          clear hI9
          replace G : zS T A s.heap s [[zAr T 0 m_here 7 yhere], [zAr T 0 m_posts 7 yposts], [zAr T 0 m_shut 7 yshut], [zAr T 0 m_was 7 ywas], [zO11 mo m_all m_has i_size i_next i_where i_token i_number i_word i_wrong i_farCrossing m_read j_z0_1 j_crossings_2 j_inns_3 m_posts m_shut m_here ysteps ydone yat ygone m_was m_came m_seenAt m_rowWorth m_farBy m_used i_everywhere i_again0 i_d0 i_never i_firstCame i_longRun i_moved i_crowd i_l0 i_fitMany i_fitLeast i_fitMost m_fitPost m_fitEnd m_keptPosts i_x0], [zAr T 0 m_all 3952 f_all]] _ _ := G
          replace hl : lv_has ls 8 [(7, .int k9), (6, .int c9), (5, .int d9), (4, .int u2), (0, .ref mo), (1, .int l_), (2, .int c_), (3, .int u_)] := hl
          refine lv_iload hx hb dX12_keys_56 (lv_at hl 0 rfl) ?_
          refine lv_if_lt (tgt := 106) hx hb dX12_keys_58 (by decide) (fun c_48 => ?_) (fun c_48 => ?_)
          · have c_48n : k9.toInt < (0 : Int) := (fa_lt _ _).mp c_48
            obtain ⟨y_49, ey_49⟩ : ∃ q : Int32, q = c9 + (-1) := ⟨_, rfl⟩
            have ey_49i : y_49.toInt = c9.toInt - 1 := by rw [ey_49]; exact z_iaddI (x := c9) (y := (-1)) (by show -2147483648 ≤ c9.toInt + (-1 : Int); omega) (by show c9.toInt + (-1 : Int) < 2147483648; omega)
            refine lv_iinc (v := y_49) (lv' := [(6, .int y_49), (7, .int k9), (5, .int d9), (4, .int u2), (0, .ref mo), (1, .int l_), (2, .int c_), (3, .int u_)]) hx hb dX12_keys_106 hl (k := 1) rfl ey_49.symm (by decide) (zLvf_h rfl) (fun ls hl => ?_)
            refine lv_goto (tgt := 41) hx hb dX12_keys_109 (by decide) ?_
            have G := G.sub (bs' := [[zAr T 0 m_here 7 yhere], [zO11 mo m_all m_has i_size i_next i_where i_token i_number i_word i_wrong i_farCrossing m_read j_z0_1 j_crossings_2 j_inns_3 m_posts m_shut m_here ysteps ydone yat ygone m_was m_came m_seenAt m_rowWorth m_farBy m_used i_everywhere i_again0 i_d0 i_never i_firstCame i_longRun i_moved i_crowd i_l0 i_fitMany i_fitLeast i_fitMost m_fitPost m_fitEnd m_keptPosts i_x0], [zAr T 0 m_all 3952 f_all], [zAr T 0 m_posts 7 yposts], [zAr T 0 m_shut 7 yshut], [zAr T 0 m_was 7 ywas]]) [0, 4, 5, 1, 2, 3] rfl
            exact ih_41 y_49 u2 d9 yat ygone ysteps ydone yposts ywas yshut yhere (show -1 ≤ y_49.toInt ∧ y_49.toInt ≤ 6 ∧ zMP yposts from ⟨by omega, by omega, (by first | with_reducible assumption | assumption)⟩) (show (y_49.toInt + 1).toNat < (c9.toInt + 1).toNat from by omega) _ _ ls G (lv_sub hl [0, 2, 3, 4, 5, 6, 7] rfl)
          · have c_48n : ¬ k9.toInt < (0 : Int) := fun q => c_48 ((fa_lt _ _).mpr q)
            refine lv_aload_n hx hb dX12_keys_61 rfl (lv_at hl 4 rfl) ?_
            refine z_Vv (bc := [[zO11 mo m_all m_has i_size i_next i_where i_token i_number i_word i_wrong i_farCrossing m_read j_z0_1 j_crossings_2 j_inns_3 m_posts m_shut m_here ysteps ydone yat ygone m_was m_came m_seenAt m_rowWorth m_farBy m_used i_everywhere i_again0 i_d0 i_never i_firstCame i_longRun i_moved i_crowd i_l0 i_fitMany i_fitLeast i_fitMost m_fitPost m_fitEnd m_keptPosts i_x0], [zAr T 0 m_all 3952 f_all], [zAr T 0 m_posts 7 yposts], [zAr T 0 m_shut 7 yshut], [zAr T 0 m_here 7 yhere]]) (br := [[zAr T 0 m_was 7 ywas]]) (As := []) (rest := []) C G (c_m_begins l T mo m_all m_has i_size i_next i_where i_token i_number i_word i_wrong i_farCrossing m_read j_z0_1 j_crossings_2 j_inns_3 m_posts m_shut m_here ysteps ydone yat ygone m_was m_came m_seenAt m_rowWorth m_farBy m_used i_everywhere i_again0 i_d0 i_never i_firstCame i_longRun i_moved i_crowd i_l0 i_fitMany i_fitLeast i_fitMost m_fitPost m_fitEnd m_keptPosts i_x0 f_all yposts yshut yhere (by first | with_reducible assumption | with_reducible rfl | omega | assumption | rfl | decide)) (kV_RX12_175 C.2.2.2.2 (Nat.le_of_ble_eq_true rfl) (Nat.le_of_ble_eq_true rfl)) [4, 5, 1, 2, 0] [0, 0, 0, 1, 0] rfl rfl (ci := 11) (qc := (RX12, TX12, 43)) rfl rfl (List.mem_flatten.mpr ⟨_, List.mem_of_getElem? (i := 0) rfl, List.mem_cons_self⟩) rfl rfl hl.1 dX12_keys_62 (Nat.le_of_ble_eq_true rfl) (Nat.le_of_ble_eq_true rfl) (fun b1 H locs hw G => ?_)
            refine zEx5 hw ?_
            intro j_steps_50 j_done_51 g_posts_52 g_shut_53 g_here_54
            refine zCu7 ?_
            intro hbs9 h_55 h_56 h_57 h_58 h_59 h_60
            clear hw
            subst hbs9
            have G : zS T A s.heap s [[zAr T 0 m_was 7 ywas], [zO11 mo m_all m_has i_size i_next i_where i_token i_number i_word i_wrong i_farCrossing m_read j_z0_1 j_crossings_2 j_inns_3 m_posts m_shut m_here j_steps_50 j_done_51 yat ygone m_was m_came m_seenAt m_rowWorth m_farBy m_used i_everywhere i_again0 i_d0 i_never i_firstCame i_longRun i_moved i_crowd i_l0 i_fitMany i_fitLeast i_fitMost m_fitPost m_fitEnd m_keptPosts i_x0], [zAr T 0 m_all 3952 f_all], [zAr T 0 m_posts 7 g_posts_52], [zAr T 0 m_shut 7 g_shut_53], [zAr T 0 m_here 7 g_here_54]] _ _ := G
            refine lv_aload_n hx hb dX12_keys_65 rfl (lv_at hl 4 rfl) ?_
            refine z_get C G clX12 1 rfl 15 (by decide) m_fl_RX12_23 rfl dX12_keys_66 ?_
            refine lv_iload hx hb dX12_keys_69 (lv_at hl 1 rfl) ?_
            refine lv_iconst (v := 1) hx hb dX12_keys_71 (by decide) ?_
            refine lv_iload hx hb dX12_keys_72 (lv_at hl 0 rfl) ?_
            refine lv_ishl hx hb dX12_keys_74 ?_
            refine z_ist C G 4 rfl (vp_in_iff.mpr ⟨by omega, by omega⟩) dX12_keys_75 (fun H locs G => ?_)
            have G : zS T A s.heap s [[zAr T 0 m_was 7 ywas], [zO11 mo m_all m_has i_size i_next i_where i_token i_number i_word i_wrong i_farCrossing m_read j_z0_1 j_crossings_2 j_inns_3 m_posts m_shut m_here j_steps_50 j_done_51 yat ygone m_was m_came m_seenAt m_rowWorth m_farBy m_used i_everywhere i_again0 i_d0 i_never i_firstCame i_longRun i_moved i_crowd i_l0 i_fitMany i_fitLeast i_fitMost m_fitPost m_fitEnd m_keptPosts i_x0], [zAr T 0 m_all 3952 f_all], [zAr T 0 m_posts 7 g_posts_52], [zAr T 0 m_shut 7 (upd g_shut_53 c9.toNatClampNeg (1 <<< (k9 &&& 31)))], [zAr T 0 m_here 7 g_here_54]] _ _ := G
            refine lv_aload_n hx hb dX12_keys_76 rfl (lv_at hl 4 rfl) ?_
            refine lv_iload_n hx hb dX12_keys_77 rfl (lv_at hl 6 rfl) ?_
            refine z_Vi (bc := [[zO11 mo m_all m_has i_size i_next i_where i_token i_number i_word i_wrong i_farCrossing m_read j_z0_1 j_crossings_2 j_inns_3 m_posts m_shut m_here j_steps_50 j_done_51 yat ygone m_was m_came m_seenAt m_rowWorth m_farBy m_used i_everywhere i_again0 i_d0 i_never i_firstCame i_longRun i_moved i_crowd i_l0 i_fitMany i_fitLeast i_fitMost m_fitPost m_fitEnd m_keptPosts i_x0], [zAr T 0 m_all 3952 f_all], [zAr T 0 m_posts 7 g_posts_52], [zAr T 0 m_shut 7 (upd g_shut_53 c9.toNatClampNeg (1 <<< (k9 &&& 31)))], [zAr T 0 m_was 7 ywas]]) (br := [[zAr T 0 m_here 7 g_here_54]]) (As := [.int c_]) (rest := []) C G (c_m_walks l T mo m_all m_has i_size i_next i_where i_token i_number i_word i_wrong i_farCrossing m_read j_z0_1 j_crossings_2 j_inns_3 m_posts m_shut m_here j_steps_50 j_done_51 yat ygone m_was m_came m_seenAt m_rowWorth m_farBy m_used i_everywhere i_again0 i_d0 i_never i_firstCame i_longRun i_moved i_crowd i_l0 i_fitMany i_fitLeast i_fitMost m_fitPost m_fitEnd m_keptPosts i_x0 f_all g_posts_52 (upd g_shut_53 c9.toNatClampNeg (1 <<< (k9 &&& 31))) ywas c_ (by first | with_reducible assumption | with_reducible rfl | omega | assumption | rfl | decide) (by first | with_reducible assumption | with_reducible rfl | omega | assumption | rfl | decide) (by first | with_reducible assumption | with_reducible rfl | omega | assumption | rfl | decide) (by first | with_reducible assumption | with_reducible rfl | omega | assumption | rfl | decide)) (kV_RX12_217 C.2.2.2.2 (Nat.le_of_ble_eq_true rfl) (Nat.le_of_ble_eq_true rfl)) [1, 2, 3, 4, 0] [0, 0, 0, 0, 0] rfl rfl (ci := 11) (qc := (RX12, TX12, 43)) rfl rfl (List.mem_flatten.mpr ⟨_, List.mem_of_getElem? (i := 0) rfl, List.mem_cons_self⟩) rfl rfl hl.1 dX12_keys_78 (Nat.le_of_ble_eq_true rfl) (Nat.le_of_ble_eq_true rfl) (fun r_72 b1 H locs hw G => ?_)
            refine zEx4 hw ?_
            intro j_at_62 j_gone_63 g_posts_64 g_was_65
            refine zCu7 ?_
            intro hbs9 h_66 h_67 h_68 h_69 h_70 h_71
            clear hw
            subst hbs9
            have G : zS T A s.heap s [[zAr T 0 m_here 7 g_here_54], [zO11 mo m_all m_has i_size i_next i_where i_token i_number i_word i_wrong i_farCrossing m_read j_z0_1 j_crossings_2 j_inns_3 m_posts m_shut m_here j_steps_50 j_done_51 j_at_62 j_gone_63 m_was m_came m_seenAt m_rowWorth m_farBy m_used i_everywhere i_again0 i_d0 i_never i_firstCame i_longRun i_moved i_crowd i_l0 i_fitMany i_fitLeast i_fitMost m_fitPost m_fitEnd m_keptPosts i_x0], [zAr T 0 m_all 3952 f_all], [zAr T 0 m_posts 7 g_posts_64], [zAr T 0 m_shut 7 (upd g_shut_53 c9.toNatClampNeg (1 <<< (k9 &&& 31)))], [zAr T 0 m_was 7 g_was_65]] _ _ := G
            replace h_66 : zHd ((r_72 = 0 ∨ r_72 = 1)) := h_66
            refine lv_if_eq (tgt := 87) hx hb dX12_keys_81 (by decide) (fun c_73 => ?_) (fun c_73 => ?_)
            · have c_73n : r_72.toInt = (0 : Int) := (fa_eq _ _).mp c_73
              refine lv_iinc (v := u2 + 1) (lv' := [(4, .int (u2 + 1)), (7, .int k9), (6, .int c9), (5, .int d9), (0, .ref mo), (1, .int l_), (2, .int c_), (3, .int u_)]) hx hb dX12_keys_87 hl (k := 3) rfl rfl (by decide) (zLvf_h rfl) (fun ls hl => ?_)
              refine lv_bipush (v := 10) hx hb dX12_keys_90 (by decide) ?_
              refine lv_iload hx hb dX12_keys_92 (lv_at hl 2 rfl) ?_
              refine lv_imul hx hb dX12_keys_94 ?_
              refine lv_iload hx hb dX12_keys_95 (lv_at hl 1 rfl) ?_
              refine lv_iadd hx hb dX12_keys_97 ?_
              refine lv_istore (lv' := [(5, .int ((10 * c9) + k9)), (4, .int (u2 + 1)), (7, .int k9), (6, .int c9), (0, .ref mo), (1, .int l_), (2, .int c_), (3, .int u_)]) hx hb dX12_keys_98 hl (by decide) (zLvf_h rfl) (fun ls hl => ?_)
              obtain ⟨y_74, ey_74⟩ : ∃ q : Int32, q = k9 + (-1) := ⟨_, rfl⟩
              have ey_74i : y_74.toInt = k9.toInt - 1 := by rw [ey_74]; exact z_iaddI (x := k9) (y := (-1)) (by show -2147483648 ≤ k9.toInt + (-1 : Int); omega) (by show k9.toInt + (-1 : Int) < 2147483648; omega)
              refine lv_iinc (v := y_74) (lv' := [(7, .int y_74), (5, .int ((10 * c9) + k9)), (4, .int (u2 + 1)), (6, .int c9), (0, .ref mo), (1, .int l_), (2, .int c_), (3, .int u_)]) hx hb dX12_keys_100 hl (k := 2) rfl ey_74.symm (by decide) (zLvf_h rfl) (fun ls hl => ?_)
              refine lv_goto (tgt := 56) hx hb dX12_keys_103 (by decide) ?_
              have G := G.sub (bs' := [[zAr T 0 m_here 7 g_here_54], [zAr T 0 m_posts 7 g_posts_64], [zAr T 0 m_shut 7 (upd g_shut_53 c9.toNatClampNeg (1 <<< (k9 &&& 31)))], [zAr T 0 m_was 7 g_was_65], [zO11 mo m_all m_has i_size i_next i_where i_token i_number i_word i_wrong i_farCrossing m_read j_z0_1 j_crossings_2 j_inns_3 m_posts m_shut m_here j_steps_50 j_done_51 j_at_62 j_gone_63 m_was m_came m_seenAt m_rowWorth m_farBy m_used i_everywhere i_again0 i_d0 i_never i_firstCame i_longRun i_moved i_crowd i_l0 i_fitMany i_fitLeast i_fitMost m_fitPost m_fitEnd m_keptPosts i_x0], [zAr T 0 m_all 3952 f_all]]) [0, 3, 4, 5, 1, 2] rfl
              exact ih_56 y_74 (u2 + 1) ((10 * c9) + k9) j_at_62 j_gone_63 j_steps_50 j_done_51 g_posts_64 g_was_65 (upd g_shut_53 c9.toNatClampNeg (1 <<< (k9 &&& 31))) g_here_54 (show -1 ≤ y_74.toInt ∧ y_74.toInt ≤ 3 ∧ zMP g_posts_64 from ⟨by omega, by omega, (by first | with_reducible assumption | assumption)⟩) (show (y_74.toInt + 1).toNat < (k9.toInt + 1).toNat from by omega) _ _ ls G (lv_sub hl [0, 3, 1, 2, 4, 5, 6, 7] rfl)
            · have c_73n : ¬ r_72.toInt = (0 : Int) := fun q => c_73 ((fa_eq _ _).mpr q)
              refine lv_goto (tgt := 100) hx hb dX12_keys_84 (by decide) ?_
              obtain ⟨y_75, ey_75⟩ : ∃ q : Int32, q = k9 + (-1) := ⟨_, rfl⟩
              have ey_75i : y_75.toInt = k9.toInt - 1 := by rw [ey_75]; exact z_iaddI (x := k9) (y := (-1)) (by show -2147483648 ≤ k9.toInt + (-1 : Int); omega) (by show k9.toInt + (-1 : Int) < 2147483648; omega)
              refine lv_iinc (v := y_75) (lv' := [(7, .int y_75), (6, .int c9), (5, .int d9), (4, .int u2), (0, .ref mo), (1, .int l_), (2, .int c_), (3, .int u_)]) hx hb dX12_keys_100 hl (k := 0) rfl ey_75.symm (by decide) (zLvf_h rfl) (fun ls hl => ?_)
              refine lv_goto (tgt := 56) hx hb dX12_keys_103 (by decide) ?_
              have G := G.sub (bs' := [[zAr T 0 m_here 7 g_here_54], [zAr T 0 m_posts 7 g_posts_64], [zAr T 0 m_shut 7 (upd g_shut_53 c9.toNatClampNeg (1 <<< (k9 &&& 31)))], [zAr T 0 m_was 7 g_was_65], [zO11 mo m_all m_has i_size i_next i_where i_token i_number i_word i_wrong i_farCrossing m_read j_z0_1 j_crossings_2 j_inns_3 m_posts m_shut m_here j_steps_50 j_done_51 j_at_62 j_gone_63 m_was m_came m_seenAt m_rowWorth m_farBy m_used i_everywhere i_again0 i_d0 i_never i_firstCame i_longRun i_moved i_crowd i_l0 i_fitMany i_fitLeast i_fitMost m_fitPost m_fitEnd m_keptPosts i_x0], [zAr T 0 m_all 3952 f_all]]) [0, 3, 4, 5, 1, 2] rfl
              exact ih_56 y_75 u2 d9 j_at_62 j_gone_63 j_steps_50 j_done_51 g_posts_64 g_was_65 (upd g_shut_53 c9.toNatClampNeg (1 <<< (k9 &&& 31))) g_here_54 (show -1 ≤ y_75.toInt ∧ y_75.toInt ≤ 3 ∧ zMP g_posts_64 from ⟨by omega, by omega, (by first | with_reducible assumption | assumption)⟩) (show (y_75.toInt + 1).toNat < (k9.toInt + 1).toNat from by omega) _ _ ls G (lv_sub hl [0, 1, 2, 3, 4, 5, 6, 7] rfl)
      · have c_40n : r_39.toInt = (0 : Int) := (fa_eq _ _).mp c_40
        refine lv_bipush (v := (-2)) hx hb dX12_keys_24 (by decide) ?_
        have G := G.sub (bs' := [[zO11 mo m_all m_has i_size i_next i_where i_token i_number i_word i_wrong i_farCrossing m_read j_z0_1 j_crossings_2 j_inns_3 m_posts m_shut m_here j_steps_4 j_done_5 j_at_29 j_gone_30 m_was m_came m_seenAt m_rowWorth m_farBy m_used i_everywhere i_again0 i_d0 i_never i_firstCame i_longRun i_moved i_crowd i_l0 i_fitMany i_fitLeast i_fitMost m_fitPost m_fitEnd m_keptPosts i_x0], [zAr T 0 m_all 3952 f_all], [zAr T 0 m_posts 7 g_posts_31], [zAr T 0 m_shut 7 g_shut_7], [zAr T 0 m_here 7 g_here_8], [zAr T 0 m_was 7 g_was_32]]) [1, 2, 3, 4, 0, 5] rfl
        exact z_back hQz_ (z_iret C hr hlocks G (Nat.le_of_ble_eq_true rfl) (Nat.le_of_ble_eq_true rfl) dX12_keys_26 ⟨j_z0_1, j_crossings_2, j_inns_3, j_steps_4, j_done_5, j_at_29, j_gone_30, g_posts_31, g_shut_7, g_here_8, g_was_32, rfl⟩)
    · have h_28 : (c_.toInt < 0 ∨ j_crossings_2.toInt ≤ c_.toInt) := h_28
      refine lv_if_eq (tgt := 24) hx hb dX12_keys_13 (by decide) (fun _ => ?_) (fun q => absurd (by decide) q)
      refine lv_bipush (v := (-2)) hx hb dX12_keys_24 (by decide) ?_
      have G := G.sub (bs' := [[zO11 mo m_all m_has i_size i_next i_where i_token i_number i_word i_wrong i_farCrossing m_read j_z0_1 j_crossings_2 j_inns_3 m_posts m_shut m_here j_steps_4 j_done_5 i_at i_gone m_was m_came m_seenAt m_rowWorth m_farBy m_used i_everywhere i_again0 i_d0 i_never i_firstCame i_longRun i_moved i_crowd i_l0 i_fitMany i_fitLeast i_fitMost m_fitPost m_fitEnd m_keptPosts i_x0], [zAr T 0 m_all 3952 f_all], [zAr T 0 m_posts 7 g_posts_6], [zAr T 0 m_shut 7 g_shut_7], [zAr T 0 m_here 7 g_here_8], [zAr T 0 m_was 7 f_was]]) [5, 1, 2, 3, 4, 0] rfl
      exact z_back hQz_ (z_iret C hr hlocks G (Nat.le_of_ble_eq_true rfl) (Nat.le_of_ble_eq_true rfl) dX12_keys_26 ⟨j_z0_1, j_crossings_2, j_inns_3, j_steps_4, j_done_5, i_at, i_gone, g_posts_6, g_shut_7, g_here_8, f_was, rfl⟩)
  · have h_23 : (l_.toInt < 0 ∨ (f_all 0).toInt ≤ l_.toInt) := h_23
    refine lv_if_eq (tgt := 24) hx hb dX12_keys_5 (by decide) (fun _ => ?_) (fun q => absurd (by decide) q)
    refine lv_bipush (v := (-2)) hx hb dX12_keys_24 (by decide) ?_
    have G := G.sub (bs' := [[zO11 mo m_all m_has i_size i_next i_where i_token i_number i_word i_wrong i_farCrossing m_read j_z0_1 j_crossings_2 j_inns_3 m_posts m_shut m_here j_steps_4 j_done_5 i_at i_gone m_was m_came m_seenAt m_rowWorth m_farBy m_used i_everywhere i_again0 i_d0 i_never i_firstCame i_longRun i_moved i_crowd i_l0 i_fitMany i_fitLeast i_fitMost m_fitPost m_fitEnd m_keptPosts i_x0], [zAr T 0 m_all 3952 f_all], [zAr T 0 m_posts 7 g_posts_6], [zAr T 0 m_shut 7 g_shut_7], [zAr T 0 m_here 7 g_here_8], [zAr T 0 m_was 7 f_was]]) [1, 2, 3, 4, 5, 0] rfl
    exact z_back hQz_ (z_iret C hr hlocks G (Nat.le_of_ble_eq_true rfl) (Nat.le_of_ble_eq_true rfl) dX12_keys_26 ⟨j_z0_1, j_crossings_2, j_inns_3, j_steps_4, j_done_5, i_at, i_gone, g_posts_6, g_shut_7, g_here_8, f_was, rfl⟩)
theorem m_co_X12_ledTo : Cond.code yX12_ledTo cX12_ledTo 5 (some .int) ∈ zT := zmem1 zsub_7 104 rfl rfl
theorem m_ml_RX12_248 : Cond.methodLink RX12 248 yX12_ledTo ∈ zT := zmem1 zsub_7 101 rfl rfl
theorem m_im_X12_ledTo : Cond.instanceMethod yX12_ledTo ∈ zT := zmem1 zsub_7 103 rfl rfl
theorem m_se_X12_ledTo : Cond.selects RX12 yX12_ledTo yX12_ledTo ∈ zT := zmem 76 rfl rfl
theorem kV_RX12_248 {R : Room} {s : State} {args : Array Value} {d mc ms : Nat} (hts : ∀ w ∈ zT, w.before args s = true) (h1 : d + 1 ≤ R.frames) (h2 : 8 + (5 + 11) + 40 * d ≤ R.locals) : CallW R s args RX12 RX12 248 yX12_ledTo cX12_ledTo 5 (some .int) (zW yX12_ledTo cX12_ledTo 5 (some .int)) (zR d mc ms) mc ms 2 := z_cwV hts m_co_X12_ledTo m_ml_RX12_248 m_im_X12_ledTo m_se_X12_ledTo m_ii_RX12 (by decide +kernel) h1 h2
theorem dX12_ledTo_0 : decode cX12_ledTo 0 = .ok (.iload_n 1, 1) := zo_27 (by decide +kernel)
theorem dX12_ledTo_1 : decode cX12_ledTo 1 = .ok (.istore_n 3, 1) := zo_62 (by decide +kernel)
theorem dX12_ledTo_2 : decode cX12_ledTo 2 = .ok (.iconst 0, 1) := zo_3 (by decide +kernel)
theorem dX12_ledTo_3 : decode cX12_ledTo 3 = .ok (.istore 4, 2) := zo_54 (by decide +kernel)
theorem dX12_ledTo_5 : decode cX12_ledTo 5 = .ok (.iload 4, 2) := zo_21 (by decide +kernel)
theorem dX12_ledTo_7 : decode cX12_ledTo 7 = .ok (.iload_n 2, 1) := zo_28 (by decide +kernel)
theorem dX12_ledTo_8 : decode cX12_ledTo 8 = .ok (.if_icmp .ge 29, 3) := zo_162 (by decide +kernel)
theorem dX12_ledTo_11 : decode cX12_ledTo 11 = .ok (.aload_n 0, 1) := zo_42 (by decide +kernel)
theorem dX12_ledTo_12 : decode cX12_ledTo 12 = .ok (.iload_n 3, 1) := zo_29 (by decide +kernel)
theorem dX12_ledTo_13 : decode cX12_ledTo 13 = .ok (.invokevirtual 223, 3) := zo_182 (by decide +kernel)
theorem dX12_ledTo_16 : decode cX12_ledTo 16 = .ok (.ifCond .eq 21, 3) := zo_153 (by decide +kernel)
theorem dX12_ledTo_19 : decode cX12_ledTo 19 = .ok (.aload_n 0, 1) := zo_42 (by decide +kernel)
theorem dX12_ledTo_20 : decode cX12_ledTo 20 = .ok (.iload_n 3, 1) := zo_29 (by decide +kernel)
theorem dX12_ledTo_21 : decode cX12_ledTo 21 = .ok (.aload_n 0, 1) := zo_42 (by decide +kernel)
theorem dX12_ledTo_22 : decode cX12_ledTo 22 = .ok (.getfield 20, 3) := zo_180 (by decide +kernel)
theorem dX12_ledTo_25 : decode cX12_ledTo 25 = .ok (.iload_n 3, 1) := zo_29 (by decide +kernel)
theorem dX12_ledTo_26 : decode cX12_ledTo 26 = .ok (.iaload, 1) := zo_46 (by decide +kernel)
theorem dX12_ledTo_27 : decode cX12_ledTo 27 = .ok (.invokevirtual 190, 3) := zo_182 (by decide +kernel)
theorem dX12_ledTo_30 : decode cX12_ledTo 30 = .ok (.istore_n 3, 1) := zo_62 (by decide +kernel)
theorem dX12_ledTo_31 : decode cX12_ledTo 31 = .ok (.iinc 4 1, 3) := zo_132 (by decide +kernel)
theorem dX12_ledTo_34 : decode cX12_ledTo 34 = .ok (.goto (-29), 3) := zo_167 (by decide +kernel)
theorem dX12_ledTo_37 : decode cX12_ledTo 37 = .ok (.iload_n 3, 1) := zo_29 (by decide +kernel)
theorem dX12_ledTo_38 : decode cX12_ledTo 38 = .ok (.ireturn, 1) := zo_172 (by decide +kernel)
theorem dX12_trees_0 : decode cX12_trees 0 = .ok (.aload_n 0, 1) := zo_42 (by decide +kernel)
theorem dX12_trees_1 : decode cX12_trees 1 = .ok (.iload_n 1, 1) := zo_27 (by decide +kernel)
theorem dX12_trees_2 : decode cX12_trees 2 = .ok (.invokevirtual 184, 3) := zo_182 (by decide +kernel)
theorem dX12_trees_5 : decode cX12_trees 5 = .ok (.ifCond .ne 5, 3) := zo_154 (by decide +kernel)
theorem dX12_trees_8 : decode cX12_trees 8 = .ok (.iconst (-1), 1) := zo_2 (by decide +kernel)
theorem dX12_trees_9 : decode cX12_trees 9 = .ok (.ireturn, 1) := zo_172 (by decide +kernel)
theorem dX12_trees_10 : decode cX12_trees 10 = .ok (.aload_n 0, 1) := zo_42 (by decide +kernel)
theorem dX12_trees_11 : decode cX12_trees 11 = .ok (.invokevirtual 229, 3) := zo_182 (by decide +kernel)
theorem dX12_trees_14 : decode cX12_trees 14 = .ok (.istore_n 2, 1) := zo_61 (by decide +kernel)
theorem dX12_trees_15 : decode cX12_trees 15 = .ok (.iconst 0, 1) := zo_3 (by decide +kernel)
theorem dX12_trees_16 : decode cX12_trees 16 = .ok (.istore_n 3, 1) := zo_62 (by decide +kernel)
theorem dX12_trees_17 : decode cX12_trees 17 = .ok (.iconst 0, 1) := zo_3 (by decide +kernel)
theorem dX12_trees_18 : decode cX12_trees 18 = .ok (.istore 4, 2) := zo_54 (by decide +kernel)
theorem dX12_trees_20 : decode cX12_trees 20 = .ok (.iload 4, 2) := zo_21 (by decide +kernel)
theorem dX12_trees_22 : decode cX12_trees 22 = .ok (.iload_n 2, 1) := zo_28 (by decide +kernel)
theorem dX12_trees_23 : decode cX12_trees 23 = .ok (.if_icmp .ge 85, 3) := zo_162 (by decide +kernel)
theorem dX12_trees_26 : decode cX12_trees 26 = .ok (.aload_n 0, 1) := zo_42 (by decide +kernel)
theorem dX12_trees_27 : decode cX12_trees 27 = .ok (.iload 4, 2) := zo_21 (by decide +kernel)
theorem dX12_trees_29 : decode cX12_trees 29 = .ok (.invokevirtual 226, 3) := zo_182 (by decide +kernel)
theorem dX12_trees_32 : decode cX12_trees 32 = .ok (.iconst 1, 1) := zo_4 (by decide +kernel)
theorem dX12_trees_33 : decode cX12_trees 33 = .ok (.istore 5, 2) := zo_54 (by decide +kernel)
theorem dX12_trees_35 : decode cX12_trees 35 = .ok (.iconst 0, 1) := zo_3 (by decide +kernel)
theorem dX12_trees_36 : decode cX12_trees 36 = .ok (.istore 6, 2) := zo_54 (by decide +kernel)
theorem dX12_trees_38 : decode cX12_trees 38 = .ok (.iload 6, 2) := zo_21 (by decide +kernel)
theorem dX12_trees_40 : decode cX12_trees 40 = .ok (.aload_n 0, 1) := zo_42 (by decide +kernel)
theorem dX12_trees_41 : decode cX12_trees 41 = .ok (.getfield 169, 3) := zo_180 (by decide +kernel)
theorem dX12_trees_44 : decode cX12_trees 44 = .ok (.if_icmp .ge 45, 3) := zo_162 (by decide +kernel)
theorem dX12_trees_47 : decode cX12_trees 47 = .ok (.iload 5, 2) := zo_21 (by decide +kernel)
theorem dX12_trees_49 : decode cX12_trees 49 = .ok (.ifCond .eq 40, 3) := zo_153 (by decide +kernel)
theorem dX12_trees_52 : decode cX12_trees 52 = .ok (.aload_n 0, 1) := zo_42 (by decide +kernel)
theorem dX12_trees_53 : decode cX12_trees 53 = .ok (.iload 6, 2) := zo_21 (by decide +kernel)
theorem dX12_trees_55 : decode cX12_trees 55 = .ok (.invokevirtual 223, 3) := zo_182 (by decide +kernel)
theorem dX12_trees_58 : decode cX12_trees 58 = .ok (.ifCond .eq 18, 3) := zo_153 (by decide +kernel)
theorem dX12_trees_61 : decode cX12_trees 61 = .ok (.aload_n 0, 1) := zo_42 (by decide +kernel)
theorem dX12_trees_62 : decode cX12_trees 62 = .ok (.aload_n 0, 1) := zo_42 (by decide +kernel)
theorem dX12_trees_63 : decode cX12_trees 63 = .ok (.iload 6, 2) := zo_21 (by decide +kernel)
theorem dX12_trees_65 : decode cX12_trees 65 = .ok (.bipush 7, 2) := zo_16 (by decide +kernel)
theorem dX12_trees_67 : decode cX12_trees 67 = .ok (.invokevirtual 248, 3) := zo_182 (by decide +kernel)
theorem dX12_trees_70 : decode cX12_trees 70 = .ok (.invokevirtual 178, 3) := zo_182 (by decide +kernel)
theorem dX12_trees_73 : decode cX12_trees 73 = .ok (.ifCond .eq 7, 3) := zo_153 (by decide +kernel)
theorem dX12_trees_76 : decode cX12_trees 76 = .ok (.iconst 1, 1) := zo_4 (by decide +kernel)
theorem dX12_trees_77 : decode cX12_trees 77 = .ok (.goto 4, 3) := zo_167 (by decide +kernel)
theorem dX12_trees_80 : decode cX12_trees 80 = .ok (.iconst 0, 1) := zo_3 (by decide +kernel)
theorem dX12_trees_81 : decode cX12_trees 81 = .ok (.istore 5, 2) := zo_54 (by decide +kernel)
theorem dX12_trees_83 : decode cX12_trees 83 = .ok (.iinc 6 1, 3) := zo_132 (by decide +kernel)
theorem dX12_trees_86 : decode cX12_trees 86 = .ok (.goto (-48), 3) := zo_167 (by decide +kernel)
theorem dX12_trees_89 : decode cX12_trees 89 = .ok (.iload_n 3, 1) := zo_29 (by decide +kernel)
theorem dX12_trees_90 : decode cX12_trees 90 = .ok (.iload 5, 2) := zo_21 (by decide +kernel)
theorem dX12_trees_92 : decode cX12_trees 92 = .ok (.ifCond .eq 7, 3) := zo_153 (by decide +kernel)
theorem dX12_trees_95 : decode cX12_trees 95 = .ok (.iconst 1, 1) := zo_4 (by decide +kernel)
theorem dX12_trees_96 : decode cX12_trees 96 = .ok (.goto 4, 3) := zo_167 (by decide +kernel)
theorem dX12_trees_99 : decode cX12_trees 99 = .ok (.iconst 0, 1) := zo_3 (by decide +kernel)
theorem dX12_trees_100 : decode cX12_trees 100 = .ok (.iadd, 1) := zo_96 (by decide +kernel)
theorem dX12_trees_101 : decode cX12_trees 101 = .ok (.istore_n 3, 1) := zo_62 (by decide +kernel)
theorem dX12_trees_102 : decode cX12_trees 102 = .ok (.iinc 4 1, 3) := zo_132 (by decide +kernel)
theorem dX12_trees_105 : decode cX12_trees 105 = .ok (.goto (-85), 3) := zo_167 (by decide +kernel)
theorem dX12_trees_108 : decode cX12_trees 108 = .ok (.iload_n 3, 1) := zo_29 (by decide +kernel)
theorem dX12_trees_109 : decode cX12_trees 109 = .ok (.ireturn, 1) := zo_172 (by decide +kernel)
def zStp (f : Nat → Int32) (z n : Int32) (p : Nat → Int32) (c : Int32) : Int32 := if ¬ zInn n c ∧ 0 < (zRd f z c).toInt then zLe f z c (p c.toNatClampNeg) else c
def zLed (S : Int32 → Int32) : Nat → Int32 → Int32
  | 0, c => c
  | k + 1, c => S (zLed S k c)
theorem zLed_fix {S : Int32 → Int32} {c : Int32} {k : Nat} (h : S (zLed S k c) = zLed S k c) : ∀ n, k ≤ n → zLed S n c = zLed S k c := by
  intro n
  induction n with
  | zero => intro hn; rw [show k = 0 by omega]
  | succ n ih =>
    intro hn
    by_cases e : k = n + 1
    · rw [e]
    · have := ih (by omega)
      show S (zLed S n c) = _
      rw [this, h]
theorem zLed_add {S : Int32 → Int32} (c : Int32) (a : Nat) : ∀ b, zLed S (a + b) c = zLed S b (zLed S a c)
  | 0 => rfl
  | b + 1 => congrArg S (zLed_add c a b)
theorem zStp_in {f : Nat → Int32} {z cr n : Int32} {p : Nat → Int32} (hL : zML f z cr) (hP : zMP p) {c : Int32} (h0 : 0 ≤ c.toInt) (h6 : c.toInt ≤ 6) : 0 ≤ (zStp f z n p c).toInt ∧ (zStp f z n p c).toInt ≤ 6 := by
  have hcl := z_clI (x := c) h0
  have hp := hP c.toNatClampNeg (by omega)
  unfold zStp
  split
  · exact zMLl hL h0 h6 hp.1 hp.2
  · exact ⟨h0, h6⟩
theorem zLed_in {f : Nat → Int32} {z cr n : Int32} {p : Nat → Int32} (hL : zML f z cr) (hP : zMP p) {c : Int32} (h0 : 0 ≤ c.toInt) (h6 : c.toInt ≤ 6) : ∀ k, 0 ≤ (zLed (zStp f z n p) k c).toInt ∧ (zLed (zStp f z n p) k c).toInt ≤ 6
  | 0 => ⟨h0, h6⟩
  | k + 1 => zStp_in hL hP (zLed_in hL hP h0 h6 k).1 (zLed_in hL hP h0 h6 k).2
/-- seven places, eight steps: what is come to behind seven steps comes again within seven more -/
theorem zLed_ring {S : Int32 → Int32} {c : Int32} (h : ∀ k, 0 ≤ (zLed S k c).toInt ∧ (zLed S k c).toInt ≤ 6) : ∃ q : Nat, 1 ≤ q ∧ q ≤ 7 ∧ zLed S q (zLed S 7 c) = zLed S 7 c := by
  have key : ∃ i j : Nat, i < j ∧ j ≤ 7 ∧ zLed S i c = zLed S j c := by
    refine Classical.byContradiction (fun hn => ?_)
    have inj : ∀ i j : Nat, i < j → j ≤ 7 → ¬ zLed S i c = zLed S j c := fun i j a b e => hn ⟨i, j, a, b, e⟩
    have hnd : ((List.range 8).map (fun i => (zLed S i c).toInt.toNat)).Nodup := by
      refine List.pairwise_map.mpr ((List.pairwise_lt_range (n := 8)).imp_of_mem (fun {a b} ha hb hab e => ?_))
      have h1 := h a
      have h2 := h b
      exact inj a b hab (by have := List.mem_range.mp hb; omega) (Int32.toInt_inj.mp (by omega))
    have hsub : ((List.range 8).map (fun i => (zLed S i c).toInt.toNat)) ⊆ List.range 7 := by
      intro x hx
      obtain ⟨i, -, rfl⟩ := List.mem_map.mp hx
      have h1 := h i
      exact List.mem_range.mpr (by omega)
    have := List.Nodup.length_le_of_subset hnd hsub
    simp at this
  obtain ⟨i, j, hij, hj, e⟩ := key
  refine ⟨j - i, by omega, by omega, ?_⟩
  rw [← zLed_add, show 7 + (j - i) = j + (7 - i) by omega, zLed_add, ← e, ← zLed_add, show i + (7 - i) = 7 by omega]
set_option maxHeartbeats 4000000 in
set_option maxRecDepth 100000 in
/-- c_m_ledTo -/
theorem c_m_ledTo (l : Launch) (T : zTy) (mo : Nat) (m_all : Nat) (m_has : Nat) (i_size : Int32) (i_next : Int32) (i_where : Int32) (i_token : Int32) (i_number : Int32) (i_word : Int32) (i_wrong : Int32) (i_farCrossing : Int32) (m_read : Nat) (i_z0 : Int32) (i_crossings : Int32) (i_inns : Int32) (m_posts : Nat) (m_shut : Nat) (m_here : Nat) (i_steps : Int32) (i_done : Int32) (i_at : Int32) (i_gone : Int32) (m_was : Nat) (m_came : Nat) (m_seenAt : Nat) (m_rowWorth : Nat) (m_farBy : Nat) (m_used : Nat) (i_everywhere : Int32) (i_again0 : Int32) (i_d0 : Int32) (i_never : Int32) (i_firstCame : Int32) (i_longRun : Int32) (i_moved : Int32) (i_crowd : Int32) (i_l0 : Int32) (i_fitMany : Int32) (i_fitLeast : Int32) (i_fitMost : Int32) (m_fitPost : Nat) (m_fitEnd : Nat) (m_keptPosts : Nat) (i_x0 : Int32) (f_all : Nat → Int32) (f_posts : Nat → Int32) (c_ : Int32) (n_ : Int32) (hL : zML f_all i_z0 i_crossings) (hP : zMP f_posts) (hc0 : 0 ≤ c_.toInt) (hc6 : c_.toInt ≤ 6) (hn0 : 0 ≤ n_.toInt) (hn9 : n_.toInt ≤ 100) : zMi l T yX12_ledTo cX12_ledTo 5 (some .int) 3 0 0 [.ref mo, .int c_, .int n_] [[zO11 mo m_all m_has i_size i_next i_where i_token i_number i_word i_wrong i_farCrossing m_read i_z0 i_crossings i_inns m_posts m_shut m_here i_steps i_done i_at i_gone m_was m_came m_seenAt m_rowWorth m_farBy m_used i_everywhere i_again0 i_d0 i_never i_firstCame i_longRun i_moved i_crowd i_l0 i_fitMany i_fitLeast i_fitMost m_fitPost m_fitEnd m_keptPosts i_x0], [zAr T 0 m_all 3952 f_all], [zAr T 0 m_posts 7 f_posts]] (fun (r : Int32) bs => bs = [[zO11 mo m_all m_has i_size i_next i_where i_token i_number i_word i_wrong i_farCrossing m_read i_z0 i_crossings i_inns m_posts m_shut m_here i_steps i_done i_at i_gone m_was m_came m_seenAt m_rowWorth m_farBy m_used i_everywhere i_again0 i_d0 i_never i_firstCame i_longRun i_moved i_crowd i_l0 i_fitMany i_fitLeast i_fitMost m_fitPost m_fitEnd m_keptPosts i_x0], [zAr T 0 m_all 3952 f_all], [zAr T 0 m_posts 7 f_posts]] ∧ r = zLed (zStp f_all i_z0 i_inns f_posts) n_.toNatClampNeg c_ ∧ 0 ≤ r.toInt ∧ r.toInt ≤ 6) := by
  refine zMi_of (own := RX12) (by decide) rfl (Nat.le_of_ble_eq_true rfl) ?_
  intro p e s m args below meth c A ls C hr hlocks hnm hAe G hl
  refine zHide (fun Qz_ hQz_ => ?_)
  have hx := C.1
  have hb := C.2.1
  have hl : lv_has ls 5 [(0, .ref mo), (1, .int c_), (2, .int n_)] := hl
  have hz := hL.1
  have hcr := hL.cr
  have hncl := z_clI (x := n_) (by omega)
  refine lv_iload_n hx hb dX12_ledTo_0 rfl (lv_at hl 1 rfl) ?_
  refine lv_istore_n (lv' := [(3, .int c_), (0, .ref mo), (1, .int c_), (2, .int n_)]) hx hb dX12_ledTo_1 rfl hl (by decide) (zLvf_h rfl) (fun ls hl => ?_)
  refine lv_iconst (v := 0) hx hb dX12_ledTo_2 (by decide) ?_
  refine lv_istore (lv' := [(4, .int 0), (3, .int c_), (0, .ref mo), (1, .int c_), (2, .int n_)]) hx hb dX12_ledTo_3 hl (by decide) (zLvf_h rfl) (fun ls hl => ?_)
  refine z_lp2 (T := T) 5 (fun (k : Nat) (x : Int32) => [[zO11 mo m_all m_has i_size i_next i_where i_token i_number i_word i_wrong i_farCrossing m_read i_z0 i_crossings i_inns m_posts m_shut m_here i_steps i_done i_at i_gone m_was m_came m_seenAt m_rowWorth m_farBy m_used i_everywhere i_again0 i_d0 i_never i_firstCame i_longRun i_moved i_crowd i_l0 i_fitMany i_fitLeast i_fitMost m_fitPost m_fitEnd m_keptPosts i_x0], [zAr T 0 m_all 3952 f_all], [zAr T 0 m_posts 7 f_posts]]) (fun (k : Nat) (x : Int32) => [(4, .int (nI k)), (3, .int x), (0, .ref mo), (1, .int c_), (2, .int n_)]) (fun (k : Nat) (x : Int32) => (k = 0 ∨ (k : Int) ≤ n_.toInt) ∧ x = zLed (zStp f_all i_z0 i_inns f_posts) k c_ ∧ 0 ≤ x.toInt ∧ x.toInt ≤ 6) (fun (k : Nat) (x : Int32) => (n_.toInt - k).toNat) ?_ 0 c_ (show (0 = 0 ∨ (0 : Int) ≤ n_.toInt) ∧ c_ = zLed (zStp f_all i_z0 i_inns f_posts) 0 c_ ∧ 0 ≤ c_.toInt ∧ c_.toInt ≤ 6 from ⟨by omega, rfl, by omega, by omega⟩) G (lv_sub hl [0, 1, 2, 3, 4] rfl)
  intro k x hI9 ih_5 H locs ls G hl
  replace hI9 : (k = 0 ∨ (k : Int) ≤ n_.toInt) ∧ x = zLed (zStp f_all i_z0 i_inns f_posts) k c_ ∧ 0 ≤ x.toInt ∧ x.toInt ≤ 6 := hI9
  refine zAn4 hI9 ?_
  intro hk hq hx0 hx6
  clear hI9
  replace G : zS T A s.heap s [[zO11 mo m_all m_has i_size i_next i_where i_token i_number i_word i_wrong i_farCrossing m_read i_z0 i_crossings i_inns m_posts m_shut m_here i_steps i_done i_at i_gone m_was m_came m_seenAt m_rowWorth m_farBy m_used i_everywhere i_again0 i_d0 i_never i_firstCame i_longRun i_moved i_crowd i_l0 i_fitMany i_fitLeast i_fitMost m_fitPost m_fitEnd m_keptPosts i_x0], [zAr T 0 m_all 3952 f_all], [zAr T 0 m_posts 7 f_posts]] _ _ := G
  replace hl : lv_has ls 5 [(4, .int (nI k)), (3, .int x), (0, .ref mo), (1, .int c_), (2, .int n_)] := hl
  refine lv_iload hx hb dX12_ledTo_5 (lv_at hl 0 rfl) ?_
  refine lv_iload_n hx hb dX12_ledTo_7 rfl (lv_at hl 4 rfl) ?_
  refine lv_icmp_ge (tgt := 37) hx hb dX12_ledTo_8 (by decide) (fun c_1 => ?_) (fun c_1 => ?_)
  · have c_1n : n_.toInt ≤ (k : Int) := by have q := (fa_le _ _).mp c_1; rw [nI_toInt (n := k) (by omega)] at q; exact q
    refine lv_iload_n hx hb dX12_ledTo_37 rfl (lv_at hl 1 rfl) ?_
    exact z_back hQz_ (z_iret C hr hlocks G (Nat.le_of_ble_eq_true rfl) (Nat.le_of_ble_eq_true rfl) dX12_ledTo_38 ⟨rfl, (by first | (rw [show n_.toNatClampNeg = k by omega]; exact hq) | (rw [zLed_fix (k := k) (by rw [← hq]; unfold zStp; rw [if_neg (fun g9 => (show zInn i_inns x ∨ (zRd f_all i_z0 x).toInt ≤ 0 by first | with_reducible assumption | assumption).elim g9.1 (fun g => absurd g9.2 (by omega)))]) n_.toNatClampNeg (by omega)]; exact hq)), (by first | with_reducible assumption | omega | trivial | assumption), (by first | with_reducible assumption | omega | trivial | assumption)⟩)
  · have c_1n : ¬ n_.toInt ≤ (k : Int) := fun q => c_1 ((fa_le _ _).mpr (by rw [nI_toInt (n := k) (by omega)]; exact q))
    have hcx := z_clI (x := x) (by omega)
    have hpx := hP x.toNatClampNeg (by omega)
    refine lv_aload_n hx hb dX12_ledTo_11 rfl (lv_at hl 2 rfl) ?_
    refine lv_iload_n hx hb dX12_ledTo_12 rfl (lv_at hl 1 rfl) ?_
    refine z_Vi (bc := [[zO11 mo m_all m_has i_size i_next i_where i_token i_number i_word i_wrong i_farCrossing m_read i_z0 i_crossings i_inns m_posts m_shut m_here i_steps i_done i_at i_gone m_was m_came m_seenAt m_rowWorth m_farBy m_used i_everywhere i_again0 i_d0 i_never i_firstCame i_longRun i_moved i_crowd i_l0 i_fitMany i_fitLeast i_fitMost m_fitPost m_fitEnd m_keptPosts i_x0], [zAr T 0 m_all 3952 f_all]]) (br := [[zAr T 0 m_posts 7 f_posts]]) (As := [.int x]) (rest := []) C G (c_m_isFree l T mo m_all m_has i_size i_next i_where i_token i_number i_word i_wrong i_farCrossing m_read i_z0 i_crossings i_inns m_posts m_shut m_here i_steps i_done i_at i_gone m_was m_came m_seenAt m_rowWorth m_farBy m_used i_everywhere i_again0 i_d0 i_never i_firstCame i_longRun i_moved i_crowd i_l0 i_fitMany i_fitLeast i_fitMost m_fitPost m_fitEnd m_keptPosts i_x0 f_all x (by first | with_reducible assumption | with_reducible rfl | omega | assumption | rfl | decide) (by first | with_reducible assumption | with_reducible rfl | omega | assumption | rfl | decide) (by first | with_reducible assumption | with_reducible rfl | omega | assumption | rfl | decide)) (kV_RX12_223 C.2.2.2.2 (Nat.le_of_ble_eq_true rfl) (Nat.le_of_ble_eq_true rfl)) [0, 1] [0, 0] rfl rfl (ci := 11) (qc := (RX12, TX12, 43)) rfl rfl (List.mem_flatten.mpr ⟨_, List.mem_of_getElem? (i := 0) rfl, List.mem_cons_self⟩) rfl rfl hl.1 dX12_ledTo_13 (Nat.le_of_ble_eq_true rfl) (Nat.le_of_ble_eq_true rfl) (fun r_3 b1 H locs hw G => ?_)
    refine zAn2 hw ?_
    intro hbs9 hc_2
    clear hw
    subst hbs9
    have G : zS T A s.heap s [[zAr T 0 m_posts 7 f_posts], [zO11 mo m_all m_has i_size i_next i_where i_token i_number i_word i_wrong i_farCrossing m_read i_z0 i_crossings i_inns m_posts m_shut m_here i_steps i_done i_at i_gone m_was m_came m_seenAt m_rowWorth m_farBy m_used i_everywhere i_again0 i_d0 i_never i_firstCame i_longRun i_moved i_crowd i_l0 i_fitMany i_fitLeast i_fitMost m_fitPost m_fitEnd m_keptPosts i_x0], [zAr T 0 m_all 3952 f_all]] _ _ := G
    rcases hc_2 with ⟨rfl, h_4, h_5⟩ | ⟨rfl, h_6⟩
    · have h_4 : ¬ zInn i_inns x := h_4
      have h_5 : 0 < (zRd f_all i_z0 x).toInt := h_5
      refine lv_if_eq (tgt := 37) hx hb dX12_ledTo_16 (by decide) (fun q => absurd q (by decide)) (fun _ => ?_)
      refine lv_aload_n hx hb dX12_ledTo_19 rfl (lv_at hl 2 rfl) ?_
      refine lv_iload_n hx hb dX12_ledTo_20 rfl (lv_at hl 1 rfl) ?_
      refine lv_aload_n hx hb dX12_ledTo_21 rfl (lv_at hl 2 rfl) ?_
      refine z_get C G clX12 1 rfl 14 (by decide) m_fl_RX12_20 rfl dX12_ledTo_22 ?_
      refine lv_iload_n hx hb dX12_ledTo_25 rfl (lv_at hl 1 rfl) ?_
      refine z_ild C G 0 rfl (vp_in_iff.mpr ⟨by omega, by omega⟩) dX12_ledTo_26 ?_
      refine lv_topi (fun v_7 ev_7 => ?_)
      subst ev_7
      refine z_Vi (bc := [[zO11 mo m_all m_has i_size i_next i_where i_token i_number i_word i_wrong i_farCrossing m_read i_z0 i_crossings i_inns m_posts m_shut m_here i_steps i_done i_at i_gone m_was m_came m_seenAt m_rowWorth m_farBy m_used i_everywhere i_again0 i_d0 i_never i_firstCame i_longRun i_moved i_crowd i_l0 i_fitMany i_fitLeast i_fitMost m_fitPost m_fitEnd m_keptPosts i_x0], [zAr T 0 m_all 3952 f_all]]) (br := [[zAr T 0 m_posts 7 f_posts]]) (As := [.int x, .int (f_posts x.toNatClampNeg)]) (rest := []) C G (c_m_leadsTo l T mo m_all m_has i_size i_next i_where i_token i_number i_word i_wrong i_farCrossing m_read i_z0 i_crossings i_inns m_posts m_shut m_here i_steps i_done i_at i_gone m_was m_came m_seenAt m_rowWorth m_farBy m_used i_everywhere i_again0 i_d0 i_never i_firstCame i_longRun i_moved i_crowd i_l0 i_fitMany i_fitLeast i_fitMost m_fitPost m_fitEnd m_keptPosts i_x0 f_all x (f_posts x.toNatClampNeg) (by first | with_reducible assumption | with_reducible rfl | omega | assumption | rfl | decide) (by first | with_reducible assumption | with_reducible rfl | omega | assumption | rfl | decide) (by first | with_reducible assumption | with_reducible rfl | omega | assumption | rfl | decide) (by first | with_reducible assumption | with_reducible rfl | omega | assumption | rfl | decide) (by first | with_reducible assumption | with_reducible rfl | omega | assumption | rfl | decide)) (kV_RX12_190 C.2.2.2.2 (Nat.le_of_ble_eq_true rfl) (Nat.le_of_ble_eq_true rfl)) [1, 2] [1, 0] rfl rfl (ci := 11) (qc := (RX12, TX12, 43)) rfl rfl (List.mem_flatten.mpr ⟨_, List.mem_of_getElem? (i := 0) rfl, List.mem_cons_self⟩) rfl rfl hl.1 dX12_ledTo_27 (Nat.le_of_ble_eq_true rfl) (Nat.le_of_ble_eq_true rfl) (fun r_11 b1 H locs hw G => ?_)
      refine zAn4 hw ?_
      intro hbs9 h_8 h_9 h_10
      clear hw
      subst hbs9
      have G : zS T A s.heap s [[zAr T 0 m_posts 7 f_posts], [zO11 mo m_all m_has i_size i_next i_where i_token i_number i_word i_wrong i_farCrossing m_read i_z0 i_crossings i_inns m_posts m_shut m_here i_steps i_done i_at i_gone m_was m_came m_seenAt m_rowWorth m_farBy m_used i_everywhere i_again0 i_d0 i_never i_firstCame i_longRun i_moved i_crowd i_l0 i_fitMany i_fitLeast i_fitMost m_fitPost m_fitEnd m_keptPosts i_x0], [zAr T 0 m_all 3952 f_all]] _ _ := G
      subst h_8
      refine lv_istore_n (lv' := [(3, .int (zLe f_all i_z0 x (f_posts x.toNatClampNeg))), (4, .int (nI k)), (0, .ref mo), (1, .int c_), (2, .int n_)]) hx hb dX12_ledTo_30 rfl hl (by decide) (zLvf_h rfl) (fun ls hl => ?_)
      refine lv_iinc (v := nI (k + 1)) (lv' := [(4, .int (nI (k + 1))), (3, .int (zLe f_all i_z0 x (f_posts x.toNatClampNeg))), (0, .ref mo), (1, .int c_), (2, .int n_)]) hx hb dX12_ledTo_31 hl (k := 1) rfl (z_inc k 1) (by decide) (zLvf_h rfl) (fun ls hl => ?_)
      refine lv_goto (tgt := 5) hx hb dX12_ledTo_34 (by decide) ?_
      have G := G.sub (bs' := [[zO11 mo m_all m_has i_size i_next i_where i_token i_number i_word i_wrong i_farCrossing m_read i_z0 i_crossings i_inns m_posts m_shut m_here i_steps i_done i_at i_gone m_was m_came m_seenAt m_rowWorth m_farBy m_used i_everywhere i_again0 i_d0 i_never i_firstCame i_longRun i_moved i_crowd i_l0 i_fitMany i_fitLeast i_fitMost m_fitPost m_fitEnd m_keptPosts i_x0], [zAr T 0 m_all 3952 f_all], [zAr T 0 m_posts 7 f_posts]]) [1, 2, 0] rfl
      exact ih_5 (k + 1) (zLe f_all i_z0 x (f_posts x.toNatClampNeg)) (show ((k + 1) = 0 ∨ ((k + 1) : Int) ≤ n_.toInt) ∧ (zLe f_all i_z0 x (f_posts x.toNatClampNeg)) = zLed (zStp f_all i_z0 i_inns f_posts) (k + 1) c_ ∧ 0 ≤ (zLe f_all i_z0 x (f_posts x.toNatClampNeg)).toInt ∧ (zLe f_all i_z0 x (f_posts x.toNatClampNeg)).toInt ≤ 6 from ⟨by omega, (show _ = zStp _ _ _ _ (zLed _ k c_) by rw [← hq]; unfold zStp; rw [if_pos ⟨by first | with_reducible assumption | assumption, by omega⟩]), by omega, by omega⟩) (show (n_.toInt - (k + 1)).toNat < (n_.toInt - k).toNat from by omega) _ _ ls G (lv_sub hl [0, 1, 2, 3, 4] rfl)
    · have h_6 : (zInn i_inns x ∨ (zRd f_all i_z0 x).toInt ≤ 0) := h_6
      refine lv_if_eq (tgt := 37) hx hb dX12_ledTo_16 (by decide) (fun _ => ?_) (fun q => absurd (by decide) q)
      refine lv_iload_n hx hb dX12_ledTo_37 rfl (lv_at hl 1 rfl) ?_
      have G := G.sub (bs' := [[zO11 mo m_all m_has i_size i_next i_where i_token i_number i_word i_wrong i_farCrossing m_read i_z0 i_crossings i_inns m_posts m_shut m_here i_steps i_done i_at i_gone m_was m_came m_seenAt m_rowWorth m_farBy m_used i_everywhere i_again0 i_d0 i_never i_firstCame i_longRun i_moved i_crowd i_l0 i_fitMany i_fitLeast i_fitMost m_fitPost m_fitEnd m_keptPosts i_x0], [zAr T 0 m_all 3952 f_all], [zAr T 0 m_posts 7 f_posts]]) [1, 2, 0] rfl
      exact z_back hQz_ (z_iret C hr hlocks G (Nat.le_of_ble_eq_true rfl) (Nat.le_of_ble_eq_true rfl) dX12_ledTo_38 ⟨rfl, (by first | (rw [show n_.toNatClampNeg = k by omega]; exact hq) | (rw [zLed_fix (k := k) (by rw [← hq]; unfold zStp; rw [if_neg (fun g9 => (show zInn i_inns x ∨ (zRd f_all i_z0 x).toInt ≤ 0 by first | with_reducible assumption | assumption).elim g9.1 (fun g => absurd g9.2 (by omega)))]) n_.toNatClampNeg (by omega)]; exact hq)), (by first | with_reducible assumption | omega | trivial | assumption), (by first | with_reducible assumption | omega | trivial | assumption)⟩)
set_option maxHeartbeats 4000000 in
set_option maxRecDepth 100000 in
/-- c_m_trees -/
theorem c_m_trees (l : Launch) (T : zTy) (mo : Nat) (m_all : Nat) (m_has : Nat) (i_size : Int32) (i_next : Int32) (i_where : Int32) (i_token : Int32) (i_number : Int32) (i_word : Int32) (i_wrong : Int32) (i_farCrossing : Int32) (m_read : Nat) (i_z0 : Int32) (i_crossings : Int32) (i_inns : Int32) (m_posts : Nat) (m_shut : Nat) (m_here : Nat) (i_steps : Int32) (i_done : Int32) (i_at : Int32) (i_gone : Int32) (m_was : Nat) (m_came : Nat) (m_seenAt : Nat) (m_rowWorth : Nat) (m_farBy : Nat) (m_used : Nat) (i_everywhere : Int32) (i_again0 : Int32) (i_d0 : Int32) (i_never : Int32) (i_firstCame : Int32) (i_longRun : Int32) (i_moved : Int32) (i_crowd : Int32) (i_l0 : Int32) (i_fitMany : Int32) (i_fitLeast : Int32) (i_fitMost : Int32) (m_fitPost : Nat) (m_fitEnd : Nat) (m_keptPosts : Nat) (i_x0 : Int32) (f_all : Nat → Int32) (f_posts : Nat → Int32) (f_shut : Nat → Int32) (f_here : Nat → Int32) (l_ : Int32) (hB : zBI f_all) : zMi l T yX12_trees cX12_trees 7 (some .int) 6 0 0 [.ref mo, .int l_] [[zO11 mo m_all m_has i_size i_next i_where i_token i_number i_word i_wrong i_farCrossing m_read i_z0 i_crossings i_inns m_posts m_shut m_here i_steps i_done i_at i_gone m_was m_came m_seenAt m_rowWorth m_farBy m_used i_everywhere i_again0 i_d0 i_never i_firstCame i_longRun i_moved i_crowd i_l0 i_fitMany i_fitLeast i_fitMost m_fitPost m_fitEnd m_keptPosts i_x0], [zAr T 0 m_all 3952 f_all], [zAr T 0 m_posts 7 f_posts], [zAr T 0 m_shut 7 f_shut], [zAr T 0 m_here 7 f_here]] (fun (r : Int32) bs => ∃ (j_z0 : Int32) (j_crossings : Int32) (j_inns : Int32) (j_steps : Int32) (j_done : Int32) (g_posts : Nat → Int32) (g_shut : Nat → Int32) (g_here : Nat → Int32), bs = [[zO11 mo m_all m_has i_size i_next i_where i_token i_number i_word i_wrong i_farCrossing m_read j_z0 j_crossings j_inns m_posts m_shut m_here j_steps j_done i_at i_gone m_was m_came m_seenAt m_rowWorth m_farBy m_used i_everywhere i_again0 i_d0 i_never i_firstCame i_longRun i_moved i_crowd i_l0 i_fitMany i_fitLeast i_fitMost m_fitPost m_fitEnd m_keptPosts i_x0], [zAr T 0 m_all 3952 f_all], [zAr T 0 m_posts 7 g_posts], [zAr T 0 m_shut 7 g_shut], [zAr T 0 m_here 7 g_here]]) := by
  refine zMi_of (own := RX12) (by decide) rfl (Nat.le_of_ble_eq_true rfl) ?_
  intro p e s m args below meth c A ls C hr hlocks hnm hAe G hl
  refine zHide (fun Qz_ hQz_ => ?_)
  have hx := C.1
  have hb := C.2.1
  have hl : lv_has ls 7 [(0, .ref mo), (1, .int l_)] := hl
  refine lv_aload_n hx hb dX12_trees_0 rfl (lv_at hl 0 rfl) ?_
  refine lv_iload_n hx hb dX12_trees_1 rfl (lv_at hl 1 rfl) ?_
  refine z_Vi (bc := [[zO11 mo m_all m_has i_size i_next i_where i_token i_number i_word i_wrong i_farCrossing m_read i_z0 i_crossings i_inns m_posts m_shut m_here i_steps i_done i_at i_gone m_was m_came m_seenAt m_rowWorth m_farBy m_used i_everywhere i_again0 i_d0 i_never i_firstCame i_longRun i_moved i_crowd i_l0 i_fitMany i_fitLeast i_fitMost m_fitPost m_fitEnd m_keptPosts i_x0], [zAr T 0 m_all 3952 f_all], [zAr T 0 m_posts 7 f_posts], [zAr T 0 m_shut 7 f_shut], [zAr T 0 m_here 7 f_here]]) (br := []) (As := [.int l_]) (rest := []) C G (c_m_isLand l T mo m_all m_has i_size i_next i_where i_token i_number i_word i_wrong i_farCrossing m_read i_z0 i_crossings i_inns m_posts m_shut m_here i_steps i_done i_at i_gone m_was m_came m_seenAt m_rowWorth m_farBy m_used i_everywhere i_again0 i_d0 i_never i_firstCame i_longRun i_moved i_crowd i_l0 i_fitMany i_fitLeast i_fitMost m_fitPost m_fitEnd m_keptPosts i_x0 f_all f_posts f_shut f_here l_ (by first | with_reducible assumption | with_reducible rfl | omega | assumption | rfl | decide)) (kV_RX12_184 C.2.2.2.2 (Nat.le_of_ble_eq_true rfl) (Nat.le_of_ble_eq_true rfl)) [0, 1, 2, 3, 4] [0, 0, 0, 0, 0] rfl rfl (ci := 11) (qc := (RX12, TX12, 43)) rfl rfl (List.mem_flatten.mpr ⟨_, List.mem_of_getElem? (i := 0) rfl, List.mem_cons_self⟩) rfl rfl hl.1 dX12_trees_2 (Nat.le_of_ble_eq_true rfl) (Nat.le_of_ble_eq_true rfl) (fun r_10 b1 H locs hw G => ?_)
  refine zEx8 hw ?_
  intro j_z0_1 j_crossings_2 j_inns_3 j_steps_4 j_done_5 g_posts_6 g_shut_7 g_here_8
  refine zCu2 ?_
  intro hbs9 hc_9
  clear hw
  subst hbs9
  have G : zS T A s.heap s [[zO11 mo m_all m_has i_size i_next i_where i_token i_number i_word i_wrong i_farCrossing m_read j_z0_1 j_crossings_2 j_inns_3 m_posts m_shut m_here j_steps_4 j_done_5 i_at i_gone m_was m_came m_seenAt m_rowWorth m_farBy m_used i_everywhere i_again0 i_d0 i_never i_firstCame i_longRun i_moved i_crowd i_l0 i_fitMany i_fitLeast i_fitMost m_fitPost m_fitEnd m_keptPosts i_x0], [zAr T 0 m_all 3952 f_all], [zAr T 0 m_posts 7 g_posts_6], [zAr T 0 m_shut 7 g_shut_7], [zAr T 0 m_here 7 g_here_8]] _ _ := G
  rcases hc_9 with ⟨rfl, h_11, h_12, h_13, h_14, h_15, h_16, h_17, h_18, h_19, h_20, h_21, h_22⟩ | ⟨rfl, h_23⟩
  · have h_11 : 0 ≤ l_.toInt := h_11
    have h_12 : l_.toInt ≤ 1 := h_12
    have h_13 : l_.toInt < (f_all 0).toInt := h_13
    have h_14 : j_z0_1.toInt = 610 + 51 * l_.toInt := h_14
    have h_15 : zML f_all j_z0_1 j_crossings_2 := h_15
    have h_16 : zMP g_posts_6 := h_16
    have h_17 : j_inns_3 = f_all (j_z0_1.toInt.toNat + 1) := h_17
    have h_18 : j_steps_4 = 0 := h_18
    have h_19 : j_done_5 = 0 := h_19
    have h_20 : (∀ j, j < 7 → g_posts_6 j = zPt f_all j_z0_1 (nI j)) := h_20
    have h_21 : (∀ j, j < 7 → g_shut_7 j = 0) := h_21
    have h_22 : (∀ j, j < 7 → g_here_8 j = zWk f_all j_z0_1 j) := h_22
    have hLx := h_15
    have hcr := hLx.cr
    have hzx := hLx.1
    have hPx := h_16
    refine lv_if_ne (tgt := 10) hx hb dX12_trees_5 (by decide) (fun _ => ?_) (fun q => absurd q (by decide))
    refine lv_aload_n hx hb dX12_trees_10 rfl (lv_at hl 0 rfl) ?_
    refine z_Vi (bc := [[zO11 mo m_all m_has i_size i_next i_where i_token i_number i_word i_wrong i_farCrossing m_read j_z0_1 j_crossings_2 j_inns_3 m_posts m_shut m_here j_steps_4 j_done_5 i_at i_gone m_was m_came m_seenAt m_rowWorth m_farBy m_used i_everywhere i_again0 i_d0 i_never i_firstCame i_longRun i_moved i_crowd i_l0 i_fitMany i_fitLeast i_fitMost m_fitPost m_fitEnd m_keptPosts i_x0], [zAr T 0 m_all 3952 f_all]]) (br := [[zAr T 0 m_posts 7 g_posts_6], [zAr T 0 m_shut 7 g_shut_7], [zAr T 0 m_here 7 g_here_8]]) (As := []) (rest := []) C G (c_m_waysMany l T mo m_all m_has i_size i_next i_where i_token i_number i_word i_wrong i_farCrossing m_read j_z0_1 j_crossings_2 j_inns_3 m_posts m_shut m_here j_steps_4 j_done_5 i_at i_gone m_was m_came m_seenAt m_rowWorth m_farBy m_used i_everywhere i_again0 i_d0 i_never i_firstCame i_longRun i_moved i_crowd i_l0 i_fitMany i_fitLeast i_fitMost m_fitPost m_fitEnd m_keptPosts i_x0 f_all (by first | with_reducible assumption | with_reducible rfl | omega | assumption | rfl | decide)) (kV_RX12_229 C.2.2.2.2 (Nat.le_of_ble_eq_true rfl) (Nat.le_of_ble_eq_true rfl)) [0, 1] [0, 0] rfl rfl (ci := 11) (qc := (RX12, TX12, 43)) rfl rfl (List.mem_flatten.mpr ⟨_, List.mem_of_getElem? (i := 0) rfl, List.mem_cons_self⟩) rfl rfl hl.1 dX12_trees_11 (Nat.le_of_ble_eq_true rfl) (Nat.le_of_ble_eq_true rfl) (fun r_26 b1 H locs hw G => ?_)
    refine zAn3 hw ?_
    intro hbs9 h_24 h_25
    clear hw
    subst hbs9
    have G : zS T A s.heap s [[zAr T 0 m_posts 7 g_posts_6], [zAr T 0 m_shut 7 g_shut_7], [zAr T 0 m_here 7 g_here_8], [zO11 mo m_all m_has i_size i_next i_where i_token i_number i_word i_wrong i_farCrossing m_read j_z0_1 j_crossings_2 j_inns_3 m_posts m_shut m_here j_steps_4 j_done_5 i_at i_gone m_was m_came m_seenAt m_rowWorth m_farBy m_used i_everywhere i_again0 i_d0 i_never i_firstCame i_longRun i_moved i_crowd i_l0 i_fitMany i_fitLeast i_fitMost m_fitPost m_fitEnd m_keptPosts i_x0], [zAr T 0 m_all 3952 f_all]] _ _ := G
    refine lv_istore_n (lv' := [(2, .int r_26), (0, .ref mo), (1, .int l_)]) hx hb dX12_trees_14 rfl hl (by decide) (zLvf_h rfl) (fun ls hl => ?_)
    refine lv_iconst (v := 0) hx hb dX12_trees_15 (by decide) ?_
    refine lv_istore_n (lv' := [(3, .int 0), (2, .int r_26), (0, .ref mo), (1, .int l_)]) hx hb dX12_trees_16 rfl hl (by decide) (zLvf_h rfl) (fun ls hl => ?_)
    refine lv_iconst (v := 0) hx hb dX12_trees_17 (by decide) ?_
    refine lv_istore (lv' := [(4, .int 0), (3, .int 0), (2, .int r_26), (0, .ref mo), (1, .int l_)]) hx hb dX12_trees_18 hl (by decide) (zLvf_h rfl) (fun ls hl => ?_)
    refine z_lp3 (T := T) 20 (fun (w : Nat) (u : Int32) (xposts : Nat → Int32) => [[zAr T 0 m_posts 7 xposts], [zAr T 0 m_shut 7 g_shut_7], [zAr T 0 m_here 7 g_here_8], [zO11 mo m_all m_has i_size i_next i_where i_token i_number i_word i_wrong i_farCrossing m_read j_z0_1 j_crossings_2 j_inns_3 m_posts m_shut m_here j_steps_4 j_done_5 i_at i_gone m_was m_came m_seenAt m_rowWorth m_farBy m_used i_everywhere i_again0 i_d0 i_never i_firstCame i_longRun i_moved i_crowd i_l0 i_fitMany i_fitLeast i_fitMost m_fitPost m_fitEnd m_keptPosts i_x0], [zAr T 0 m_all 3952 f_all]]) (fun (w : Nat) (u : Int32) (xposts : Nat → Int32) => [(4, .int (nI w)), (3, .int u), (2, .int r_26), (0, .ref mo), (1, .int l_)]) (fun (w : Nat) (u : Int32) (xposts : Nat → Int32) => w ≤ 16384 ∧ zMP xposts) (fun (w : Nat) (u : Int32) (xposts : Nat → Int32) => 16384 - w) ?_ 0 0 g_posts_6 (show 0 ≤ 16384 ∧ zMP g_posts_6 from ⟨by omega, (by first | with_reducible assumption | assumption)⟩) G (lv_sub hl [0, 1, 2, 3, 4] rfl)
    intro w u xposts hI9 ih_20 H locs ls G hl
    replace hI9 : w ≤ 16384 ∧ zMP xposts := hI9
    refine zAn2 hI9 ?_
    intro hww hQ
    clear hI9
    replace G : zS T A s.heap s [[zAr T 0 m_posts 7 xposts], [zAr T 0 m_shut 7 g_shut_7], [zAr T 0 m_here 7 g_here_8], [zO11 mo m_all m_has i_size i_next i_where i_token i_number i_word i_wrong i_farCrossing m_read j_z0_1 j_crossings_2 j_inns_3 m_posts m_shut m_here j_steps_4 j_done_5 i_at i_gone m_was m_came m_seenAt m_rowWorth m_farBy m_used i_everywhere i_again0 i_d0 i_never i_firstCame i_longRun i_moved i_crowd i_l0 i_fitMany i_fitLeast i_fitMost m_fitPost m_fitEnd m_keptPosts i_x0], [zAr T 0 m_all 3952 f_all]] _ _ := G
    replace hl : lv_has ls 7 [(4, .int (nI w)), (3, .int u), (2, .int r_26), (0, .ref mo), (1, .int l_)] := hl
    refine lv_iload hx hb dX12_trees_20 (lv_at hl 0 rfl) ?_
    refine lv_iload_n hx hb dX12_trees_22 rfl (lv_at hl 2 rfl) ?_
    refine lv_icmp_ge (tgt := 108) hx hb dX12_trees_23 (by decide) (fun c_27 => ?_) (fun c_27 => ?_)
    · have c_27n : r_26.toInt ≤ (w : Int) := by have q := (fa_le _ _).mp c_27; rw [nI_toInt (n := w) (by omega)] at q; exact q
      refine lv_iload_n hx hb dX12_trees_108 rfl (lv_at hl 1 rfl) ?_
      have G := G.sub (bs' := [[zO11 mo m_all m_has i_size i_next i_where i_token i_number i_word i_wrong i_farCrossing m_read j_z0_1 j_crossings_2 j_inns_3 m_posts m_shut m_here j_steps_4 j_done_5 i_at i_gone m_was m_came m_seenAt m_rowWorth m_farBy m_used i_everywhere i_again0 i_d0 i_never i_firstCame i_longRun i_moved i_crowd i_l0 i_fitMany i_fitLeast i_fitMost m_fitPost m_fitEnd m_keptPosts i_x0], [zAr T 0 m_all 3952 f_all], [zAr T 0 m_posts 7 xposts], [zAr T 0 m_shut 7 g_shut_7], [zAr T 0 m_here 7 g_here_8]]) [3, 4, 0, 1, 2] rfl
      exact z_back hQz_ (z_iret C hr hlocks G (Nat.le_of_ble_eq_true rfl) (Nat.le_of_ble_eq_true rfl) dX12_trees_109 ⟨j_z0_1, j_crossings_2, j_inns_3, j_steps_4, j_done_5, xposts, g_shut_7, g_here_8, rfl⟩)
    · have c_27n : ¬ r_26.toInt ≤ (w : Int) := fun q => c_27 ((fa_le _ _).mpr (by rw [nI_toInt (n := w) (by omega)]; exact q))
      refine lv_aload_n hx hb dX12_trees_26 rfl (lv_at hl 3 rfl) ?_
      refine lv_iload hx hb dX12_trees_27 (lv_at hl 0 rfl) ?_
      have ti_28 : (nI w).toInt = ((w : Nat) : Int) := nI_toInt (by omega)
      refine z_Vv (bc := [[zO11 mo m_all m_has i_size i_next i_where i_token i_number i_word i_wrong i_farCrossing m_read j_z0_1 j_crossings_2 j_inns_3 m_posts m_shut m_here j_steps_4 j_done_5 i_at i_gone m_was m_came m_seenAt m_rowWorth m_farBy m_used i_everywhere i_again0 i_d0 i_never i_firstCame i_longRun i_moved i_crowd i_l0 i_fitMany i_fitLeast i_fitMost m_fitPost m_fitEnd m_keptPosts i_x0], [zAr T 0 m_all 3952 f_all], [zAr T 0 m_posts 7 xposts]]) (br := [[zAr T 0 m_shut 7 g_shut_7], [zAr T 0 m_here 7 g_here_8]]) (As := [.int (nI w)]) (rest := []) C G (c_m_setsWay l T mo m_all m_has i_size i_next i_where i_token i_number i_word i_wrong i_farCrossing m_read j_z0_1 j_crossings_2 j_inns_3 m_posts m_shut m_here j_steps_4 j_done_5 i_at i_gone m_was m_came m_seenAt m_rowWorth m_farBy m_used i_everywhere i_again0 i_d0 i_never i_firstCame i_longRun i_moved i_crowd i_l0 i_fitMany i_fitLeast i_fitMost m_fitPost m_fitEnd m_keptPosts i_x0 f_all xposts (nI w) (by first | with_reducible assumption | with_reducible rfl | omega | assumption | rfl | decide) (by first | with_reducible assumption | with_reducible rfl | omega | assumption | rfl | decide) (by first | with_reducible assumption | with_reducible rfl | omega | assumption | rfl | decide)) (kV_RX12_226 C.2.2.2.2 (Nat.le_of_ble_eq_true rfl) (Nat.le_of_ble_eq_true rfl)) [3, 4, 0] [0, 2, 0] rfl rfl (ci := 11) (qc := (RX12, TX12, 43)) rfl rfl (List.mem_flatten.mpr ⟨_, List.mem_of_getElem? (i := 0) rfl, List.mem_cons_self⟩) rfl rfl hl.1 dX12_trees_29 (Nat.le_of_ble_eq_true rfl) (Nat.le_of_ble_eq_true rfl) (fun b1 H locs hw G => ?_)
      refine zEx1 hw ?_
      intro g_posts_29
      refine zCu2 ?_
      intro hbs9 h_30
      clear hw
      subst hbs9
      have G : zS T A s.heap s [[zAr T 0 m_shut 7 g_shut_7], [zAr T 0 m_here 7 g_here_8], [zO11 mo m_all m_has i_size i_next i_where i_token i_number i_word i_wrong i_farCrossing m_read j_z0_1 j_crossings_2 j_inns_3 m_posts m_shut m_here j_steps_4 j_done_5 i_at i_gone m_was m_came m_seenAt m_rowWorth m_farBy m_used i_everywhere i_again0 i_d0 i_never i_firstCame i_longRun i_moved i_crowd i_l0 i_fitMany i_fitLeast i_fitMost m_fitPost m_fitEnd m_keptPosts i_x0], [zAr T 0 m_all 3952 f_all], [zAr T 0 m_posts 7 g_posts_29]] _ _ := G
      refine lv_iconst (v := 1) hx hb dX12_trees_32 (by decide) ?_
      refine lv_istore (lv' := [(5, .int 1), (4, .int (nI w)), (3, .int u), (2, .int r_26), (0, .ref mo), (1, .int l_)]) hx hb dX12_trees_33 hl (by decide) (zLvf_h rfl) (fun ls hl => ?_)
      refine lv_iconst (v := 0) hx hb dX12_trees_35 (by decide) ?_
      refine lv_istore (lv' := [(6, .int 0), (5, .int 1), (4, .int (nI w)), (3, .int u), (2, .int r_26), (0, .ref mo), (1, .int l_)]) hx hb dX12_trees_36 hl (by decide) (zLvf_h rfl) (fun ls hl => ?_)
      refine z_lp2 (T := T) 38 (fun (i : Nat) (b9 : Int32) => [[zAr T 0 m_shut 7 g_shut_7], [zAr T 0 m_here 7 g_here_8], [zO11 mo m_all m_has i_size i_next i_where i_token i_number i_word i_wrong i_farCrossing m_read j_z0_1 j_crossings_2 j_inns_3 m_posts m_shut m_here j_steps_4 j_done_5 i_at i_gone m_was m_came m_seenAt m_rowWorth m_farBy m_used i_everywhere i_again0 i_d0 i_never i_firstCame i_longRun i_moved i_crowd i_l0 i_fitMany i_fitLeast i_fitMost m_fitPost m_fitEnd m_keptPosts i_x0], [zAr T 0 m_all 3952 f_all], [zAr T 0 m_posts 7 g_posts_29]]) (fun (i : Nat) (b9 : Int32) => [(6, .int (nI i)), (5, .int b9), (4, .int (nI w)), (3, .int u), (2, .int r_26), (0, .ref mo), (1, .int l_)]) (fun (i : Nat) (b9 : Int32) => i ≤ 7) (fun (i : Nat) (b9 : Int32) => 7 - i) ?_ 0 1 (show 0 ≤ 7 from by omega) G (lv_sub hl [0, 1, 2, 3, 4, 5, 6] rfl)
      intro i b9 hi ih_38 H locs ls G hl
      replace hi : i ≤ 7 := hi
      replace G : zS T A s.heap s [[zAr T 0 m_shut 7 g_shut_7], [zAr T 0 m_here 7 g_here_8], [zO11 mo m_all m_has i_size i_next i_where i_token i_number i_word i_wrong i_farCrossing m_read j_z0_1 j_crossings_2 j_inns_3 m_posts m_shut m_here j_steps_4 j_done_5 i_at i_gone m_was m_came m_seenAt m_rowWorth m_farBy m_used i_everywhere i_again0 i_d0 i_never i_firstCame i_longRun i_moved i_crowd i_l0 i_fitMany i_fitLeast i_fitMost m_fitPost m_fitEnd m_keptPosts i_x0], [zAr T 0 m_all 3952 f_all], [zAr T 0 m_posts 7 g_posts_29]] _ _ := G
      replace hl : lv_has ls 7 [(6, .int (nI i)), (5, .int b9), (4, .int (nI w)), (3, .int u), (2, .int r_26), (0, .ref mo), (1, .int l_)] := hl
      refine lv_iload hx hb dX12_trees_38 (lv_at hl 0 rfl) ?_
      refine lv_aload_n hx hb dX12_trees_40 rfl (lv_at hl 5 rfl) ?_
      refine z_get C G clX12 2 rfl 12 (by decide) m_fl_RX12_169 rfl dX12_trees_41 ?_
      refine lv_icmp_ge (tgt := 89) hx hb dX12_trees_44 (by decide) (fun c_32 => ?_) (fun c_32 => ?_)
      · have c_32n : j_crossings_2.toInt ≤ (i : Int) := by have q := (fa_le _ _).mp c_32; rw [nI_toInt (n := i) (by omega)] at q; exact q
        refine lv_iload_n hx hb dX12_trees_89 rfl (lv_at hl 3 rfl) ?_
        refine lv_iload hx hb dX12_trees_90 (lv_at hl 1 rfl) ?_
        refine lv_if_eq (tgt := 99) hx hb dX12_trees_92 (by decide) (fun c_33 => ?_) (fun c_33 => ?_)
        · have c_33n : b9.toInt = (0 : Int) := (fa_eq _ _).mp c_33
          refine lv_iconst (v := 0) hx hb dX12_trees_99 (by decide) ?_
          refine lv_iadd hx hb dX12_trees_100 ?_
          refine lv_istore_n (lv' := [(3, .int (u + 0)), (6, .int (nI i)), (5, .int b9), (4, .int (nI w)), (2, .int r_26), (0, .ref mo), (1, .int l_)]) hx hb dX12_trees_101 rfl hl (by decide) (zLvf_h rfl) (fun ls hl => ?_)
          refine lv_iinc (v := nI (w + 1)) (lv' := [(4, .int (nI (w + 1))), (3, .int (u + 0)), (6, .int (nI i)), (5, .int b9), (2, .int r_26), (0, .ref mo), (1, .int l_)]) hx hb dX12_trees_102 hl (k := 3) rfl (z_inc w 1) (by decide) (zLvf_h rfl) (fun ls hl => ?_)
          refine lv_goto (tgt := 20) hx hb dX12_trees_105 (by decide) ?_
          have G := G.sub (bs' := [[zAr T 0 m_posts 7 g_posts_29], [zAr T 0 m_shut 7 g_shut_7], [zAr T 0 m_here 7 g_here_8], [zO11 mo m_all m_has i_size i_next i_where i_token i_number i_word i_wrong i_farCrossing m_read j_z0_1 j_crossings_2 j_inns_3 m_posts m_shut m_here j_steps_4 j_done_5 i_at i_gone m_was m_came m_seenAt m_rowWorth m_farBy m_used i_everywhere i_again0 i_d0 i_never i_firstCame i_longRun i_moved i_crowd i_l0 i_fitMany i_fitLeast i_fitMost m_fitPost m_fitEnd m_keptPosts i_x0], [zAr T 0 m_all 3952 f_all]]) [4, 0, 1, 2, 3] rfl
          exact ih_20 (w + 1) (u + 0) g_posts_29 (show (w + 1) ≤ 16384 ∧ zMP g_posts_29 from ⟨by omega, (by first | with_reducible assumption | assumption)⟩) (show 16384 - (w + 1) < 16384 - w from by omega) _ _ ls G (lv_sub hl [0, 1, 4, 5, 6] rfl)
        · have c_33n : ¬ b9.toInt = (0 : Int) := fun q => c_33 ((fa_eq _ _).mpr q)
          refine lv_iconst (v := 1) hx hb dX12_trees_95 (by decide) ?_
          refine lv_goto (tgt := 100) hx hb dX12_trees_96 (by decide) ?_
          refine lv_iadd hx hb dX12_trees_100 ?_
          refine lv_istore_n (lv' := [(3, .int (u + 1)), (6, .int (nI i)), (5, .int b9), (4, .int (nI w)), (2, .int r_26), (0, .ref mo), (1, .int l_)]) hx hb dX12_trees_101 rfl hl (by decide) (zLvf_h rfl) (fun ls hl => ?_)
          refine lv_iinc (v := nI (w + 1)) (lv' := [(4, .int (nI (w + 1))), (3, .int (u + 1)), (6, .int (nI i)), (5, .int b9), (2, .int r_26), (0, .ref mo), (1, .int l_)]) hx hb dX12_trees_102 hl (k := 3) rfl (z_inc w 1) (by decide) (zLvf_h rfl) (fun ls hl => ?_)
          refine lv_goto (tgt := 20) hx hb dX12_trees_105 (by decide) ?_
          have G := G.sub (bs' := [[zAr T 0 m_posts 7 g_posts_29], [zAr T 0 m_shut 7 g_shut_7], [zAr T 0 m_here 7 g_here_8], [zO11 mo m_all m_has i_size i_next i_where i_token i_number i_word i_wrong i_farCrossing m_read j_z0_1 j_crossings_2 j_inns_3 m_posts m_shut m_here j_steps_4 j_done_5 i_at i_gone m_was m_came m_seenAt m_rowWorth m_farBy m_used i_everywhere i_again0 i_d0 i_never i_firstCame i_longRun i_moved i_crowd i_l0 i_fitMany i_fitLeast i_fitMost m_fitPost m_fitEnd m_keptPosts i_x0], [zAr T 0 m_all 3952 f_all]]) [4, 0, 1, 2, 3] rfl
          exact ih_20 (w + 1) (u + 1) g_posts_29 (show (w + 1) ≤ 16384 ∧ zMP g_posts_29 from ⟨by omega, (by first | with_reducible assumption | assumption)⟩) (show 16384 - (w + 1) < 16384 - w from by omega) _ _ ls G (lv_sub hl [0, 1, 4, 5, 6] rfl)
      · have c_32n : ¬ j_crossings_2.toInt ≤ (i : Int) := fun q => c_32 ((fa_le _ _).mpr (by rw [nI_toInt (n := i) (by omega)]; exact q))
        refine lv_iload hx hb dX12_trees_47 (lv_at hl 1 rfl) ?_
        refine lv_if_eq (tgt := 89) hx hb dX12_trees_49 (by decide) (fun c_34 => ?_) (fun c_34 => ?_)
        · have c_34n : b9.toInt = (0 : Int) := (fa_eq _ _).mp c_34
          refine lv_iload_n hx hb dX12_trees_89 rfl (lv_at hl 3 rfl) ?_
          refine lv_iload hx hb dX12_trees_90 (lv_at hl 1 rfl) ?_
          refine lv_if_eq (tgt := 99) hx hb dX12_trees_92 (by decide) (fun _ => ?_) (fun q => absurd c_34 q)
          refine lv_iconst (v := 0) hx hb dX12_trees_99 (by decide) ?_
          refine lv_iadd hx hb dX12_trees_100 ?_
          refine lv_istore_n (lv' := [(3, .int (u + 0)), (6, .int (nI i)), (5, .int b9), (4, .int (nI w)), (2, .int r_26), (0, .ref mo), (1, .int l_)]) hx hb dX12_trees_101 rfl hl (by decide) (zLvf_h rfl) (fun ls hl => ?_)
          refine lv_iinc (v := nI (w + 1)) (lv' := [(4, .int (nI (w + 1))), (3, .int (u + 0)), (6, .int (nI i)), (5, .int b9), (2, .int r_26), (0, .ref mo), (1, .int l_)]) hx hb dX12_trees_102 hl (k := 3) rfl (z_inc w 1) (by decide) (zLvf_h rfl) (fun ls hl => ?_)
          refine lv_goto (tgt := 20) hx hb dX12_trees_105 (by decide) ?_
          have G := G.sub (bs' := [[zAr T 0 m_posts 7 g_posts_29], [zAr T 0 m_shut 7 g_shut_7], [zAr T 0 m_here 7 g_here_8], [zO11 mo m_all m_has i_size i_next i_where i_token i_number i_word i_wrong i_farCrossing m_read j_z0_1 j_crossings_2 j_inns_3 m_posts m_shut m_here j_steps_4 j_done_5 i_at i_gone m_was m_came m_seenAt m_rowWorth m_farBy m_used i_everywhere i_again0 i_d0 i_never i_firstCame i_longRun i_moved i_crowd i_l0 i_fitMany i_fitLeast i_fitMost m_fitPost m_fitEnd m_keptPosts i_x0], [zAr T 0 m_all 3952 f_all]]) [4, 0, 1, 2, 3] rfl
          exact ih_20 (w + 1) (u + 0) g_posts_29 (show (w + 1) ≤ 16384 ∧ zMP g_posts_29 from ⟨by omega, (by first | with_reducible assumption | assumption)⟩) (show 16384 - (w + 1) < 16384 - w from by omega) _ _ ls G (lv_sub hl [0, 1, 4, 5, 6] rfl)
        · have c_34n : ¬ b9.toInt = (0 : Int) := fun q => c_34 ((fa_eq _ _).mpr q)
          refine lv_aload_n hx hb dX12_trees_52 rfl (lv_at hl 5 rfl) ?_
          refine lv_iload hx hb dX12_trees_53 (lv_at hl 0 rfl) ?_
          have ti_35 : (nI i).toInt = ((i : Nat) : Int) := nI_toInt (by omega)
          refine z_Vi (bc := [[zO11 mo m_all m_has i_size i_next i_where i_token i_number i_word i_wrong i_farCrossing m_read j_z0_1 j_crossings_2 j_inns_3 m_posts m_shut m_here j_steps_4 j_done_5 i_at i_gone m_was m_came m_seenAt m_rowWorth m_farBy m_used i_everywhere i_again0 i_d0 i_never i_firstCame i_longRun i_moved i_crowd i_l0 i_fitMany i_fitLeast i_fitMost m_fitPost m_fitEnd m_keptPosts i_x0], [zAr T 0 m_all 3952 f_all]]) (br := [[zAr T 0 m_shut 7 g_shut_7], [zAr T 0 m_here 7 g_here_8], [zAr T 0 m_posts 7 g_posts_29]]) (As := [.int (nI i)]) (rest := []) C G (c_m_isFree l T mo m_all m_has i_size i_next i_where i_token i_number i_word i_wrong i_farCrossing m_read j_z0_1 j_crossings_2 j_inns_3 m_posts m_shut m_here j_steps_4 j_done_5 i_at i_gone m_was m_came m_seenAt m_rowWorth m_farBy m_used i_everywhere i_again0 i_d0 i_never i_firstCame i_longRun i_moved i_crowd i_l0 i_fitMany i_fitLeast i_fitMost m_fitPost m_fitEnd m_keptPosts i_x0 f_all (nI i) (by first | with_reducible assumption | with_reducible rfl | omega | assumption | rfl | decide) (by first | with_reducible assumption | with_reducible rfl | omega | assumption | rfl | decide) (by first | with_reducible assumption | with_reducible rfl | omega | assumption | rfl | decide)) (kV_RX12_223 C.2.2.2.2 (Nat.le_of_ble_eq_true rfl) (Nat.le_of_ble_eq_true rfl)) [2, 3] [2, 0] rfl rfl (ci := 11) (qc := (RX12, TX12, 43)) rfl rfl (List.mem_flatten.mpr ⟨_, List.mem_of_getElem? (i := 0) rfl, List.mem_cons_self⟩) rfl rfl hl.1 dX12_trees_55 (Nat.le_of_ble_eq_true rfl) (Nat.le_of_ble_eq_true rfl) (fun r_37 b1 H locs hw G => ?_)
          refine zAn2 hw ?_
          intro hbs9 hc_36
          clear hw
          subst hbs9
          have G : zS T A s.heap s [[zAr T 0 m_shut 7 g_shut_7], [zAr T 0 m_here 7 g_here_8], [zAr T 0 m_posts 7 g_posts_29], [zO11 mo m_all m_has i_size i_next i_where i_token i_number i_word i_wrong i_farCrossing m_read j_z0_1 j_crossings_2 j_inns_3 m_posts m_shut m_here j_steps_4 j_done_5 i_at i_gone m_was m_came m_seenAt m_rowWorth m_farBy m_used i_everywhere i_again0 i_d0 i_never i_firstCame i_longRun i_moved i_crowd i_l0 i_fitMany i_fitLeast i_fitMost m_fitPost m_fitEnd m_keptPosts i_x0], [zAr T 0 m_all 3952 f_all]] _ _ := G
          rcases hc_36 with ⟨rfl, h_38, h_39⟩ | ⟨rfl, h_40⟩
          · have h_38 : ¬ zInn j_inns_3 (nI i) := h_38
            have h_39 : 0 < (zRd f_all j_z0_1 (nI i)).toInt := h_39
            refine lv_if_eq (tgt := 76) hx hb dX12_trees_58 (by decide) (fun q => absurd q (by decide)) (fun _ => ?_)
            refine lv_aload_n hx hb dX12_trees_61 rfl (lv_at hl 5 rfl) ?_
            refine lv_aload_n hx hb dX12_trees_62 rfl (lv_at hl 5 rfl) ?_
            refine lv_iload hx hb dX12_trees_63 (lv_at hl 0 rfl) ?_
            refine lv_bipush (v := 7) hx hb dX12_trees_65 (by decide) ?_
            have ti_41 : (nI i).toInt = ((i : Nat) : Int) := nI_toInt (by omega)
            refine z_Vi (bc := [[zO11 mo m_all m_has i_size i_next i_where i_token i_number i_word i_wrong i_farCrossing m_read j_z0_1 j_crossings_2 j_inns_3 m_posts m_shut m_here j_steps_4 j_done_5 i_at i_gone m_was m_came m_seenAt m_rowWorth m_farBy m_used i_everywhere i_again0 i_d0 i_never i_firstCame i_longRun i_moved i_crowd i_l0 i_fitMany i_fitLeast i_fitMost m_fitPost m_fitEnd m_keptPosts i_x0], [zAr T 0 m_all 3952 f_all], [zAr T 0 m_posts 7 g_posts_29]]) (br := [[zAr T 0 m_shut 7 g_shut_7], [zAr T 0 m_here 7 g_here_8]]) (As := [.int (nI i), .int 7]) (rest := [.ref mo]) C G (c_m_ledTo l T mo m_all m_has i_size i_next i_where i_token i_number i_word i_wrong i_farCrossing m_read j_z0_1 j_crossings_2 j_inns_3 m_posts m_shut m_here j_steps_4 j_done_5 i_at i_gone m_was m_came m_seenAt m_rowWorth m_farBy m_used i_everywhere i_again0 i_d0 i_never i_firstCame i_longRun i_moved i_crowd i_l0 i_fitMany i_fitLeast i_fitMost m_fitPost m_fitEnd m_keptPosts i_x0 f_all g_posts_29 (nI i) 7 (by first | with_reducible assumption | with_reducible rfl | omega | assumption | rfl | decide) (by first | with_reducible assumption | with_reducible rfl | omega | assumption | rfl | decide) (by first | with_reducible assumption | with_reducible rfl | omega | assumption | rfl | decide) (by first | with_reducible assumption | with_reducible rfl | omega | assumption | rfl | decide) (by first | with_reducible assumption | with_reducible rfl | omega | assumption | rfl | decide) (by first | with_reducible assumption | with_reducible rfl | omega | assumption | rfl | decide)) (kV_RX12_248 C.2.2.2.2 (Nat.le_of_ble_eq_true rfl) (Nat.le_of_ble_eq_true rfl)) [3, 4, 2] [2, 0, 0] rfl rfl (ci := 11) (qc := (RX12, TX12, 43)) rfl rfl (List.mem_flatten.mpr ⟨_, List.mem_of_getElem? (i := 0) rfl, List.mem_cons_self⟩) rfl rfl hl.1 dX12_trees_67 (Nat.le_of_ble_eq_true rfl) (Nat.le_of_ble_eq_true rfl) (fun r_45 b1 H locs hw G => ?_)
            refine zAn4 hw ?_
            intro hbs9 h_42 h_43 h_44
            clear hw
            subst hbs9
            have G : zS T A s.heap s [[zAr T 0 m_shut 7 g_shut_7], [zAr T 0 m_here 7 g_here_8], [zO11 mo m_all m_has i_size i_next i_where i_token i_number i_word i_wrong i_farCrossing m_read j_z0_1 j_crossings_2 j_inns_3 m_posts m_shut m_here j_steps_4 j_done_5 i_at i_gone m_was m_came m_seenAt m_rowWorth m_farBy m_used i_everywhere i_again0 i_d0 i_never i_firstCame i_longRun i_moved i_crowd i_l0 i_fitMany i_fitLeast i_fitMost m_fitPost m_fitEnd m_keptPosts i_x0], [zAr T 0 m_all 3952 f_all], [zAr T 0 m_posts 7 g_posts_29]] _ _ := G
            subst h_42
            refine z_Vi (bc := [[zO11 mo m_all m_has i_size i_next i_where i_token i_number i_word i_wrong i_farCrossing m_read j_z0_1 j_crossings_2 j_inns_3 m_posts m_shut m_here j_steps_4 j_done_5 i_at i_gone m_was m_came m_seenAt m_rowWorth m_farBy m_used i_everywhere i_again0 i_d0 i_never i_firstCame i_longRun i_moved i_crowd i_l0 i_fitMany i_fitLeast i_fitMost m_fitPost m_fitEnd m_keptPosts i_x0]]) (br := [[zAr T 0 m_shut 7 g_shut_7], [zAr T 0 m_here 7 g_here_8], [zAr T 0 m_all 3952 f_all], [zAr T 0 m_posts 7 g_posts_29]]) (As := [.int (zLed (zStp f_all j_z0_1 j_inns_3 g_posts_29) (7 : Int32).toNatClampNeg (nI i))]) (rest := []) C G (c_m_isInn l T mo m_all m_has i_size i_next i_where i_token i_number i_word i_wrong i_farCrossing m_read j_z0_1 j_crossings_2 j_inns_3 m_posts m_shut m_here j_steps_4 j_done_5 i_at i_gone m_was m_came m_seenAt m_rowWorth m_farBy m_used i_everywhere i_again0 i_d0 i_never i_firstCame i_longRun i_moved i_crowd i_l0 i_fitMany i_fitLeast i_fitMost m_fitPost m_fitEnd m_keptPosts i_x0 (zLed (zStp f_all j_z0_1 j_inns_3 g_posts_29) (7 : Int32).toNatClampNeg (nI i))) (kV_RX12_178 C.2.2.2.2 (Nat.le_of_ble_eq_true rfl) (Nat.le_of_ble_eq_true rfl)) [2] [2] rfl rfl (ci := 11) (qc := (RX12, TX12, 43)) rfl rfl (List.mem_flatten.mpr ⟨_, List.mem_of_getElem? (i := 0) rfl, List.mem_cons_self⟩) rfl rfl hl.1 dX12_trees_70 (Nat.le_of_ble_eq_true rfl) (Nat.le_of_ble_eq_true rfl) (fun r_47 b1 H locs hw G => ?_)
            refine zAn2 hw ?_
            intro hbs9 hc_46
            clear hw
            subst hbs9
            have G : zS T A s.heap s [[zAr T 0 m_shut 7 g_shut_7], [zAr T 0 m_here 7 g_here_8], [zAr T 0 m_all 3952 f_all], [zAr T 0 m_posts 7 g_posts_29], [zO11 mo m_all m_has i_size i_next i_where i_token i_number i_word i_wrong i_farCrossing m_read j_z0_1 j_crossings_2 j_inns_3 m_posts m_shut m_here j_steps_4 j_done_5 i_at i_gone m_was m_came m_seenAt m_rowWorth m_farBy m_used i_everywhere i_again0 i_d0 i_never i_firstCame i_longRun i_moved i_crowd i_l0 i_fitMany i_fitLeast i_fitMost m_fitPost m_fitEnd m_keptPosts i_x0]] _ _ := G
            rcases hc_46 with ⟨rfl, h_48⟩ | ⟨rfl, h_49⟩
            · have h_48 : zInn j_inns_3 (zLed (zStp f_all j_z0_1 j_inns_3 g_posts_29) (7 : Int32).toNatClampNeg (nI i)) := h_48
              refine lv_if_eq (tgt := 80) hx hb dX12_trees_73 (by decide) (fun q => absurd q (by decide)) (fun _ => ?_)
              refine lv_iconst (v := 1) hx hb dX12_trees_76 (by decide) ?_
              refine lv_goto (tgt := 81) hx hb dX12_trees_77 (by decide) ?_
              refine lv_istore (lv' := [(5, .int 1), (6, .int (nI i)), (4, .int (nI w)), (3, .int u), (2, .int r_26), (0, .ref mo), (1, .int l_)]) hx hb dX12_trees_81 hl (by decide) (zLvf_h rfl) (fun ls hl => ?_)
              refine lv_iinc (v := nI (i + 1)) (lv' := [(6, .int (nI (i + 1))), (5, .int 1), (4, .int (nI w)), (3, .int u), (2, .int r_26), (0, .ref mo), (1, .int l_)]) hx hb dX12_trees_83 hl (k := 1) rfl (z_inc i 1) (by decide) (zLvf_h rfl) (fun ls hl => ?_)
              refine lv_goto (tgt := 38) hx hb dX12_trees_86 (by decide) ?_
              have G := G.sub (bs' := [[zAr T 0 m_shut 7 g_shut_7], [zAr T 0 m_here 7 g_here_8], [zO11 mo m_all m_has i_size i_next i_where i_token i_number i_word i_wrong i_farCrossing m_read j_z0_1 j_crossings_2 j_inns_3 m_posts m_shut m_here j_steps_4 j_done_5 i_at i_gone m_was m_came m_seenAt m_rowWorth m_farBy m_used i_everywhere i_again0 i_d0 i_never i_firstCame i_longRun i_moved i_crowd i_l0 i_fitMany i_fitLeast i_fitMost m_fitPost m_fitEnd m_keptPosts i_x0], [zAr T 0 m_all 3952 f_all], [zAr T 0 m_posts 7 g_posts_29]]) [0, 1, 4, 2, 3] rfl
              exact ih_38 (i + 1) 1 (show (i + 1) ≤ 7 from by omega) (show 7 - (i + 1) < 7 - i from by omega) _ _ ls G (lv_sub hl [0, 1, 2, 3, 4, 5, 6] rfl)
            · have h_49 : ¬ zInn j_inns_3 (zLed (zStp f_all j_z0_1 j_inns_3 g_posts_29) (7 : Int32).toNatClampNeg (nI i)) := h_49
              refine lv_if_eq (tgt := 80) hx hb dX12_trees_73 (by decide) (fun _ => ?_) (fun q => absurd (by decide) q)
              refine lv_iconst (v := 0) hx hb dX12_trees_80 (by decide) ?_
              refine lv_istore (lv' := [(5, .int 0), (6, .int (nI i)), (4, .int (nI w)), (3, .int u), (2, .int r_26), (0, .ref mo), (1, .int l_)]) hx hb dX12_trees_81 hl (by decide) (zLvf_h rfl) (fun ls hl => ?_)
              refine lv_iinc (v := nI (i + 1)) (lv' := [(6, .int (nI (i + 1))), (5, .int 0), (4, .int (nI w)), (3, .int u), (2, .int r_26), (0, .ref mo), (1, .int l_)]) hx hb dX12_trees_83 hl (k := 1) rfl (z_inc i 1) (by decide) (zLvf_h rfl) (fun ls hl => ?_)
              refine lv_goto (tgt := 38) hx hb dX12_trees_86 (by decide) ?_
              have G := G.sub (bs' := [[zAr T 0 m_shut 7 g_shut_7], [zAr T 0 m_here 7 g_here_8], [zO11 mo m_all m_has i_size i_next i_where i_token i_number i_word i_wrong i_farCrossing m_read j_z0_1 j_crossings_2 j_inns_3 m_posts m_shut m_here j_steps_4 j_done_5 i_at i_gone m_was m_came m_seenAt m_rowWorth m_farBy m_used i_everywhere i_again0 i_d0 i_never i_firstCame i_longRun i_moved i_crowd i_l0 i_fitMany i_fitLeast i_fitMost m_fitPost m_fitEnd m_keptPosts i_x0], [zAr T 0 m_all 3952 f_all], [zAr T 0 m_posts 7 g_posts_29]]) [0, 1, 4, 2, 3] rfl
              exact ih_38 (i + 1) 0 (show (i + 1) ≤ 7 from by omega) (show 7 - (i + 1) < 7 - i from by omega) _ _ ls G (lv_sub hl [0, 1, 2, 3, 4, 5, 6] rfl)
          · have h_40 : (zInn j_inns_3 (nI i) ∨ (zRd f_all j_z0_1 (nI i)).toInt ≤ 0) := h_40
            refine lv_if_eq (tgt := 76) hx hb dX12_trees_58 (by decide) (fun _ => ?_) (fun q => absurd (by decide) q)
            refine lv_iconst (v := 1) hx hb dX12_trees_76 (by decide) ?_
            refine lv_goto (tgt := 81) hx hb dX12_trees_77 (by decide) ?_
            refine lv_istore (lv' := [(5, .int 1), (6, .int (nI i)), (4, .int (nI w)), (3, .int u), (2, .int r_26), (0, .ref mo), (1, .int l_)]) hx hb dX12_trees_81 hl (by decide) (zLvf_h rfl) (fun ls hl => ?_)
            refine lv_iinc (v := nI (i + 1)) (lv' := [(6, .int (nI (i + 1))), (5, .int 1), (4, .int (nI w)), (3, .int u), (2, .int r_26), (0, .ref mo), (1, .int l_)]) hx hb dX12_trees_83 hl (k := 1) rfl (z_inc i 1) (by decide) (zLvf_h rfl) (fun ls hl => ?_)
            refine lv_goto (tgt := 38) hx hb dX12_trees_86 (by decide) ?_
            have G := G.sub (bs' := [[zAr T 0 m_shut 7 g_shut_7], [zAr T 0 m_here 7 g_here_8], [zO11 mo m_all m_has i_size i_next i_where i_token i_number i_word i_wrong i_farCrossing m_read j_z0_1 j_crossings_2 j_inns_3 m_posts m_shut m_here j_steps_4 j_done_5 i_at i_gone m_was m_came m_seenAt m_rowWorth m_farBy m_used i_everywhere i_again0 i_d0 i_never i_firstCame i_longRun i_moved i_crowd i_l0 i_fitMany i_fitLeast i_fitMost m_fitPost m_fitEnd m_keptPosts i_x0], [zAr T 0 m_all 3952 f_all], [zAr T 0 m_posts 7 g_posts_29]]) [0, 1, 3, 4, 2] rfl
            exact ih_38 (i + 1) 1 (show (i + 1) ≤ 7 from by omega) (show 7 - (i + 1) < 7 - i from by omega) _ _ ls G (lv_sub hl [0, 1, 2, 3, 4, 5, 6] rfl)
  · have h_23 : (l_.toInt < 0 ∨ (f_all 0).toInt ≤ l_.toInt) := h_23
    refine lv_if_ne (tgt := 10) hx hb dX12_trees_5 (by decide) (fun q => absurd (by decide) q) (fun _ => ?_)
    refine lv_iconst (v := (-1)) hx hb dX12_trees_8 (by decide) ?_
    exact z_back hQz_ (z_iret C hr hlocks G (Nat.le_of_ble_eq_true rfl) (Nat.le_of_ble_eq_true rfl) dX12_trees_9 ⟨j_z0_1, j_crossings_2, j_inns_3, j_steps_4, j_done_5, g_posts_6, g_shut_7, g_here_8, rfl⟩)
theorem m_co_X12_gameBy : Cond.code yX12_gameBy cX12_gameBy 6 (some .int) ∈ zT := zmem1 zsub_7 112 rfl rfl
theorem m_ml_RX12_251 : Cond.methodLink RX12 251 yX12_gameBy ∈ zT := zmem1 zsub_7 109 rfl rfl
theorem m_im_X12_gameBy : Cond.instanceMethod yX12_gameBy ∈ zT := zmem1 zsub_7 111 rfl rfl
theorem m_se_X12_gameBy : Cond.selects RX12 yX12_gameBy yX12_gameBy ∈ zT := zmem 77 rfl rfl
theorem kV_RX12_251 {R : Room} {s : State} {args : Array Value} {d mc ms : Nat} (hts : ∀ w ∈ zT, w.before args s = true) (h1 : d + 1 ≤ R.frames) (h2 : 8 + (6 + 11) + 40 * d ≤ R.locals) : CallW R s args RX12 RX12 251 yX12_gameBy cX12_gameBy 6 (some .int) (zW yX12_gameBy cX12_gameBy 6 (some .int)) (zR d mc ms) mc ms 3 := z_cwV hts m_co_X12_gameBy m_ml_RX12_251 m_im_X12_gameBy m_se_X12_gameBy m_ii_RX12 (by decide +kernel) h1 h2
theorem dX12_led_0 : decode cX12_led 0 = .ok (.aload_n 0, 1) := zo_42 (by decide +kernel)
theorem dX12_led_1 : decode cX12_led 1 = .ok (.iload_n 1, 1) := zo_27 (by decide +kernel)
theorem dX12_led_2 : decode cX12_led 2 = .ok (.invokevirtual 184, 3) := zo_182 (by decide +kernel)
theorem dX12_led_5 : decode cX12_led 5 = .ok (.ifCond .eq 20, 3) := zo_153 (by decide +kernel)
theorem dX12_led_8 : decode cX12_led 8 = .ok (.aload_n 0, 1) := zo_42 (by decide +kernel)
theorem dX12_led_9 : decode cX12_led 9 = .ok (.iload_n 2, 1) := zo_28 (by decide +kernel)
theorem dX12_led_10 : decode cX12_led 10 = .ok (.invokevirtual 187, 3) := zo_182 (by decide +kernel)
theorem dX12_led_13 : decode cX12_led 13 = .ok (.ifCond .eq 12, 3) := zo_153 (by decide +kernel)
theorem dX12_led_16 : decode cX12_led 16 = .ok (.iload_n 3, 1) := zo_29 (by decide +kernel)
theorem dX12_led_17 : decode cX12_led 17 = .ok (.iconst 0, 1) := zo_3 (by decide +kernel)
theorem dX12_led_18 : decode cX12_led 18 = .ok (.iconst 2, 1) := zo_5 (by decide +kernel)
theorem dX12_led_19 : decode cX12_led 19 = .ok (.invokestatic 111, 3) := zo_184 (by decide +kernel)
theorem dX12_led_22 : decode cX12_led 22 = .ok (.ifCond .ne 6, 3) := zo_154 (by decide +kernel)
theorem dX12_led_25 : decode cX12_led 25 = .ok (.bipush (-2), 2) := zo_16 (by decide +kernel)
theorem dX12_led_27 : decode cX12_led 27 = .ok (.ireturn, 1) := zo_172 (by decide +kernel)
theorem dX12_led_28 : decode cX12_led 28 = .ok (.aload_n 0, 1) := zo_42 (by decide +kernel)
theorem dX12_led_29 : decode cX12_led 29 = .ok (.iload_n 2, 1) := zo_28 (by decide +kernel)
theorem dX12_led_30 : decode cX12_led 30 = .ok (.bipush 7, 2) := zo_16 (by decide +kernel)
theorem dX12_led_32 : decode cX12_led 32 = .ok (.invokevirtual 248, 3) := zo_182 (by decide +kernel)
theorem dX12_led_35 : decode cX12_led 35 = .ok (.istore 4, 2) := zo_54 (by decide +kernel)
theorem dX12_led_37 : decode cX12_led 37 = .ok (.aload_n 0, 1) := zo_42 (by decide +kernel)
theorem dX12_led_38 : decode cX12_led 38 = .ok (.iload 4, 2) := zo_21 (by decide +kernel)
theorem dX12_led_40 : decode cX12_led 40 = .ok (.invokevirtual 223, 3) := zo_182 (by decide +kernel)
theorem dX12_led_43 : decode cX12_led 43 = .ok (.ifCond .ne 45, 3) := zo_154 (by decide +kernel)
theorem dX12_led_46 : decode cX12_led 46 = .ok (.iconst 0, 1) := zo_3 (by decide +kernel)
theorem dX12_led_47 : decode cX12_led 47 = .ok (.istore 5, 2) := zo_54 (by decide +kernel)
theorem dX12_led_49 : decode cX12_led 49 = .ok (.aload_n 0, 1) := zo_42 (by decide +kernel)
theorem dX12_led_50 : decode cX12_led 50 = .ok (.iload_n 2, 1) := zo_28 (by decide +kernel)
theorem dX12_led_51 : decode cX12_led 51 = .ok (.iload 5, 2) := zo_21 (by decide +kernel)
theorem dX12_led_53 : decode cX12_led 53 = .ok (.invokevirtual 248, 3) := zo_182 (by decide +kernel)
theorem dX12_led_56 : decode cX12_led 56 = .ok (.iload 4, 2) := zo_21 (by decide +kernel)
theorem dX12_led_58 : decode cX12_led 58 = .ok (.if_icmp .eq 9, 3) := zo_159 (by decide +kernel)
theorem dX12_led_61 : decode cX12_led 61 = .ok (.iinc 5 1, 3) := zo_132 (by decide +kernel)
theorem dX12_led_64 : decode cX12_led 64 = .ok (.goto (-15), 3) := zo_167 (by decide +kernel)
theorem dX12_led_67 : decode cX12_led 67 = .ok (.iload_n 3, 1) := zo_29 (by decide +kernel)
theorem dX12_led_68 : decode cX12_led 68 = .ok (.ifCond .ne 8, 3) := zo_154 (by decide +kernel)
theorem dX12_led_71 : decode cX12_led 71 = .ok (.iload 5, 2) := zo_21 (by decide +kernel)
theorem dX12_led_73 : decode cX12_led 73 = .ok (.goto 14, 3) := zo_167 (by decide +kernel)
theorem dX12_led_76 : decode cX12_led 76 = .ok (.iload_n 3, 1) := zo_29 (by decide +kernel)
theorem dX12_led_77 : decode cX12_led 77 = .ok (.iconst 1, 1) := zo_4 (by decide +kernel)
theorem dX12_led_78 : decode cX12_led 78 = .ok (.if_icmp .ne 8, 3) := zo_160 (by decide +kernel)
theorem dX12_led_81 : decode cX12_led 81 = .ok (.iload 4, 2) := zo_21 (by decide +kernel)
theorem dX12_led_83 : decode cX12_led 83 = .ok (.goto 4, 3) := zo_167 (by decide +kernel)
theorem dX12_led_86 : decode cX12_led 86 = .ok (.iconst 0, 1) := zo_3 (by decide +kernel)
theorem dX12_led_87 : decode cX12_led 87 = .ok (.ireturn, 1) := zo_172 (by decide +kernel)
theorem dX12_led_88 : decode cX12_led 88 = .ok (.iconst 1, 1) := zo_4 (by decide +kernel)
theorem dX12_led_89 : decode cX12_led 89 = .ok (.istore 5, 2) := zo_54 (by decide +kernel)
theorem dX12_led_91 : decode cX12_led 91 = .ok (.aload_n 0, 1) := zo_42 (by decide +kernel)
theorem dX12_led_92 : decode cX12_led 92 = .ok (.iload 4, 2) := zo_21 (by decide +kernel)
theorem dX12_led_94 : decode cX12_led 94 = .ok (.iload 5, 2) := zo_21 (by decide +kernel)
theorem dX12_led_96 : decode cX12_led 96 = .ok (.invokevirtual 248, 3) := zo_182 (by decide +kernel)
theorem dX12_led_99 : decode cX12_led 99 = .ok (.iload 4, 2) := zo_21 (by decide +kernel)
theorem dX12_led_101 : decode cX12_led 101 = .ok (.if_icmp .eq 9, 3) := zo_159 (by decide +kernel)
theorem dX12_led_104 : decode cX12_led 104 = .ok (.iinc 5 1, 3) := zo_132 (by decide +kernel)
theorem dX12_led_107 : decode cX12_led 107 = .ok (.goto (-16), 3) := zo_167 (by decide +kernel)
theorem dX12_led_110 : decode cX12_led 110 = .ok (.iload_n 3, 1) := zo_29 (by decide +kernel)
theorem dX12_led_111 : decode cX12_led 111 = .ok (.iconst 2, 1) := zo_5 (by decide +kernel)
theorem dX12_led_112 : decode cX12_led 112 = .ok (.if_icmp .ne 8, 3) := zo_160 (by decide +kernel)
theorem dX12_led_115 : decode cX12_led 115 = .ok (.iload 5, 2) := zo_21 (by decide +kernel)
theorem dX12_led_117 : decode cX12_led 117 = .ok (.goto 4, 3) := zo_167 (by decide +kernel)
theorem dX12_led_120 : decode cX12_led 120 = .ok (.iconst (-1), 1) := zo_2 (by decide +kernel)
theorem dX12_led_121 : decode cX12_led 121 = .ok (.ireturn, 1) := zo_172 (by decide +kernel)
theorem dX12_gameBy_0 : decode cX12_gameBy 0 = .ok (.aload_n 0, 1) := zo_42 (by decide +kernel)
theorem dX12_gameBy_1 : decode cX12_gameBy 1 = .ok (.invokevirtual 175, 3) := zo_182 (by decide +kernel)
theorem dX12_gameBy_4 : decode cX12_gameBy 4 = .ok (.iload_n 2, 1) := zo_28 (by decide +kernel)
theorem dX12_gameBy_5 : decode cX12_gameBy 5 = .ok (.iconst 1, 1) := zo_4 (by decide +kernel)
theorem dX12_gameBy_6 : decode cX12_gameBy 6 = .ok (.isub, 1) := zo_100 (by decide +kernel)
theorem dX12_gameBy_7 : decode cX12_gameBy 7 = .ok (.istore 4, 2) := zo_54 (by decide +kernel)
theorem dX12_gameBy_9 : decode cX12_gameBy 9 = .ok (.iload 4, 2) := zo_21 (by decide +kernel)
theorem dX12_gameBy_11 : decode cX12_gameBy 11 = .ok (.ifCond .lt 57, 3) := zo_155 (by decide +kernel)
theorem dX12_gameBy_14 : decode cX12_gameBy 14 = .ok (.iload_n 1, 1) := zo_27 (by decide +kernel)
theorem dX12_gameBy_15 : decode cX12_gameBy 15 = .ok (.iconst 3, 1) := zo_6 (by decide +kernel)
theorem dX12_gameBy_16 : decode cX12_gameBy 16 = .ok (.iload 4, 2) := zo_21 (by decide +kernel)
theorem dX12_gameBy_18 : decode cX12_gameBy 18 = .ok (.imul, 1) := zo_104 (by decide +kernel)
theorem dX12_gameBy_19 : decode cX12_gameBy 19 = .ok (.ishr, 1) := zo_122 (by decide +kernel)
theorem dX12_gameBy_20 : decode cX12_gameBy 20 = .ok (.bipush 7, 2) := zo_16 (by decide +kernel)
theorem dX12_gameBy_22 : decode cX12_gameBy 22 = .ok (.iand, 1) := zo_126 (by decide +kernel)
theorem dX12_gameBy_23 : decode cX12_gameBy 23 = .ok (.istore 5, 2) := zo_54 (by decide +kernel)
theorem dX12_gameBy_25 : decode cX12_gameBy 25 = .ok (.iload 5, 2) := zo_21 (by decide +kernel)
theorem dX12_gameBy_27 : decode cX12_gameBy 27 = .ok (.bipush 7, 2) := zo_16 (by decide +kernel)
theorem dX12_gameBy_29 : decode cX12_gameBy 29 = .ok (.if_icmp .ne 6, 3) := zo_160 (by decide +kernel)
theorem dX12_gameBy_32 : decode cX12_gameBy 32 = .ok (.goto 30, 3) := zo_167 (by decide +kernel)
theorem dX12_gameBy_35 : decode cX12_gameBy 35 = .ok (.aload_n 0, 1) := zo_42 (by decide +kernel)
theorem dX12_gameBy_36 : decode cX12_gameBy 36 = .ok (.iload 5, 2) := zo_21 (by decide +kernel)
theorem dX12_gameBy_38 : decode cX12_gameBy 38 = .ok (.invokevirtual 187, 3) := zo_182 (by decide +kernel)
theorem dX12_gameBy_41 : decode cX12_gameBy 41 = .ok (.ifCond .eq 12, 3) := zo_153 (by decide +kernel)
theorem dX12_gameBy_44 : decode cX12_gameBy 44 = .ok (.aload_n 0, 1) := zo_42 (by decide +kernel)
theorem dX12_gameBy_45 : decode cX12_gameBy 45 = .ok (.iload 5, 2) := zo_21 (by decide +kernel)
theorem dX12_gameBy_47 : decode cX12_gameBy 47 = .ok (.invokevirtual 223, 3) := zo_182 (by decide +kernel)
theorem dX12_gameBy_50 : decode cX12_gameBy 50 = .ok (.ifCond .ne 5, 3) := zo_154 (by decide +kernel)
theorem dX12_gameBy_53 : decode cX12_gameBy 53 = .ok (.iconst (-1), 1) := zo_2 (by decide +kernel)
theorem dX12_gameBy_54 : decode cX12_gameBy 54 = .ok (.ireturn, 1) := zo_172 (by decide +kernel)
theorem dX12_gameBy_55 : decode cX12_gameBy 55 = .ok (.aload_n 0, 1) := zo_42 (by decide +kernel)
theorem dX12_gameBy_56 : decode cX12_gameBy 56 = .ok (.iload 5, 2) := zo_21 (by decide +kernel)
theorem dX12_gameBy_58 : decode cX12_gameBy 58 = .ok (.invokevirtual 205, 3) := zo_182 (by decide +kernel)
theorem dX12_gameBy_61 : decode cX12_gameBy 61 = .ok (.pop, 1) := zo_87 (by decide +kernel)
theorem dX12_gameBy_62 : decode cX12_gameBy 62 = .ok (.iinc 4 (-1), 3) := zo_132 (by decide +kernel)
theorem dX12_gameBy_65 : decode cX12_gameBy 65 = .ok (.goto (-56), 3) := zo_167 (by decide +kernel)
theorem dX12_gameBy_68 : decode cX12_gameBy 68 = .ok (.aload_n 0, 1) := zo_42 (by decide +kernel)
theorem dX12_gameBy_69 : decode cX12_gameBy 69 = .ok (.iload_n 3, 1) := zo_29 (by decide +kernel)
theorem dX12_gameBy_70 : decode cX12_gameBy 70 = .ok (.invokevirtual 217, 3) := zo_182 (by decide +kernel)
theorem dX12_gameBy_73 : decode cX12_gameBy 73 = .ok (.ifCond .eq 10, 3) := zo_153 (by decide +kernel)
theorem dX12_gameBy_76 : decode cX12_gameBy 76 = .ok (.aload_n 0, 1) := zo_42 (by decide +kernel)
theorem dX12_gameBy_77 : decode cX12_gameBy 77 = .ok (.getfield 208, 3) := zo_180 (by decide +kernel)
theorem dX12_gameBy_80 : decode cX12_gameBy 80 = .ok (.goto 6, 3) := zo_167 (by decide +kernel)
theorem dX12_gameBy_83 : decode cX12_gameBy 83 = .ok (.sipush 500, 3) := zo_17 (by decide +kernel)
theorem dX12_gameBy_86 : decode cX12_gameBy 86 = .ok (.ireturn, 1) := zo_172 (by decide +kernel)
theorem dX12_game_0 : decode cX12_game 0 = .ok (.aload_n 0, 1) := zo_42 (by decide +kernel)
theorem dX12_game_1 : decode cX12_game 1 = .ok (.iload_n 1, 1) := zo_27 (by decide +kernel)
theorem dX12_game_2 : decode cX12_game 2 = .ok (.invokevirtual 184, 3) := zo_182 (by decide +kernel)
theorem dX12_game_5 : decode cX12_game 5 = .ok (.ifCond .eq 20, 3) := zo_153 (by decide +kernel)
theorem dX12_game_8 : decode cX12_game 8 = .ok (.aload_n 0, 1) := zo_42 (by decide +kernel)
theorem dX12_game_9 : decode cX12_game 9 = .ok (.iload_n 2, 1) := zo_28 (by decide +kernel)
theorem dX12_game_10 : decode cX12_game 10 = .ok (.invokevirtual 187, 3) := zo_182 (by decide +kernel)
theorem dX12_game_13 : decode cX12_game 13 = .ok (.ifCond .eq 12, 3) := zo_153 (by decide +kernel)
theorem dX12_game_16 : decode cX12_game 16 = .ok (.iload_n 3, 1) := zo_29 (by decide +kernel)
theorem dX12_game_17 : decode cX12_game 17 = .ok (.iconst 0, 1) := zo_3 (by decide +kernel)
theorem dX12_game_18 : decode cX12_game 18 = .ok (.iconst 3, 1) := zo_6 (by decide +kernel)
theorem dX12_game_19 : decode cX12_game 19 = .ok (.invokestatic 111, 3) := zo_184 (by decide +kernel)
theorem dX12_game_22 : decode cX12_game 22 = .ok (.ifCond .ne 6, 3) := zo_154 (by decide +kernel)
theorem dX12_game_25 : decode cX12_game 25 = .ok (.bipush (-9), 2) := zo_16 (by decide +kernel)
theorem dX12_game_27 : decode cX12_game 27 = .ok (.ireturn, 1) := zo_172 (by decide +kernel)
theorem dX12_game_28 : decode cX12_game 28 = .ok (.iconst 1, 1) := zo_4 (by decide +kernel)
theorem dX12_game_29 : decode cX12_game 29 = .ok (.iconst 3, 1) := zo_6 (by decide +kernel)
theorem dX12_game_30 : decode cX12_game 30 = .ok (.iload_n 3, 1) := zo_29 (by decide +kernel)
theorem dX12_game_31 : decode cX12_game 31 = .ok (.imul, 1) := zo_104 (by decide +kernel)
theorem dX12_game_32 : decode cX12_game 32 = .ok (.ishl, 1) := zo_120 (by decide +kernel)
theorem dX12_game_33 : decode cX12_game 33 = .ok (.istore 5, 2) := zo_54 (by decide +kernel)
theorem dX12_game_35 : decode cX12_game 35 = .ok (.iconst 0, 1) := zo_3 (by decide +kernel)
theorem dX12_game_36 : decode cX12_game 36 = .ok (.istore 6, 2) := zo_54 (by decide +kernel)
theorem dX12_game_38 : decode cX12_game 38 = .ok (.iload 6, 2) := zo_21 (by decide +kernel)
theorem dX12_game_40 : decode cX12_game 40 = .ok (.iload 5, 2) := zo_21 (by decide +kernel)
theorem dX12_game_42 : decode cX12_game 42 = .ok (.if_icmp .ge 24, 3) := zo_162 (by decide +kernel)
theorem dX12_game_45 : decode cX12_game 45 = .ok (.aload_n 0, 1) := zo_42 (by decide +kernel)
theorem dX12_game_46 : decode cX12_game 46 = .ok (.getfield 38, 3) := zo_180 (by decide +kernel)
theorem dX12_game_49 : decode cX12_game 49 = .ok (.iload 6, 2) := zo_21 (by decide +kernel)
theorem dX12_game_51 : decode cX12_game 51 = .ok (.aload_n 0, 1) := zo_42 (by decide +kernel)
theorem dX12_game_52 : decode cX12_game 52 = .ok (.iload 6, 2) := zo_21 (by decide +kernel)
theorem dX12_game_54 : decode cX12_game 54 = .ok (.iload_n 3, 1) := zo_29 (by decide +kernel)
theorem dX12_game_55 : decode cX12_game 55 = .ok (.iload_n 2, 1) := zo_28 (by decide +kernel)
theorem dX12_game_56 : decode cX12_game 56 = .ok (.invokevirtual 251, 3) := zo_182 (by decide +kernel)
theorem dX12_game_59 : decode cX12_game 59 = .ok (.iastore, 1) := zo_79 (by decide +kernel)
theorem dX12_game_60 : decode cX12_game 60 = .ok (.iinc 6 1, 3) := zo_132 (by decide +kernel)
theorem dX12_game_63 : decode cX12_game 63 = .ok (.goto (-25), 3) := zo_167 (by decide +kernel)
theorem dX12_game_66 : decode cX12_game 66 = .ok (.iconst (-1), 1) := zo_2 (by decide +kernel)
theorem dX12_game_67 : decode cX12_game 67 = .ok (.istore 6, 2) := zo_54 (by decide +kernel)
theorem dX12_game_69 : decode cX12_game 69 = .ok (.iload_n 3, 1) := zo_29 (by decide +kernel)
theorem dX12_game_70 : decode cX12_game 70 = .ok (.iconst 1, 1) := zo_4 (by decide +kernel)
theorem dX12_game_71 : decode cX12_game 71 = .ok (.isub, 1) := zo_100 (by decide +kernel)
theorem dX12_game_72 : decode cX12_game 72 = .ok (.istore 7, 2) := zo_54 (by decide +kernel)
theorem dX12_game_74 : decode cX12_game 74 = .ok (.iload 7, 2) := zo_21 (by decide +kernel)
theorem dX12_game_76 : decode cX12_game 76 = .ok (.ifCond .lt 161, 3) := zo_155 (by decide +kernel)
theorem dX12_game_79 : decode cX12_game 79 = .ok (.iload 5, 2) := zo_21 (by decide +kernel)
theorem dX12_game_81 : decode cX12_game 81 = .ok (.bipush 8, 2) := zo_16 (by decide +kernel)
theorem dX12_game_83 : decode cX12_game 83 = .ok (.idiv, 1) := zo_108 (by decide +kernel)
theorem dX12_game_84 : decode cX12_game 84 = .ok (.istore 5, 2) := zo_54 (by decide +kernel)
theorem dX12_game_86 : decode cX12_game 86 = .ok (.iconst 0, 1) := zo_3 (by decide +kernel)
theorem dX12_game_87 : decode cX12_game 87 = .ok (.istore 8, 2) := zo_54 (by decide +kernel)
theorem dX12_game_89 : decode cX12_game 89 = .ok (.iload 8, 2) := zo_21 (by decide +kernel)
theorem dX12_game_91 : decode cX12_game 91 = .ok (.iload 5, 2) := zo_21 (by decide +kernel)
theorem dX12_game_93 : decode cX12_game 93 = .ok (.if_icmp .ge 138, 3) := zo_162 (by decide +kernel)
theorem dX12_game_96 : decode cX12_game 96 = .ok (.iconst (-1), 1) := zo_2 (by decide +kernel)
theorem dX12_game_97 : decode cX12_game 97 = .ok (.istore 6, 2) := zo_54 (by decide +kernel)
theorem dX12_game_99 : decode cX12_game 99 = .ok (.iconst 0, 1) := zo_3 (by decide +kernel)
theorem dX12_game_100 : decode cX12_game 100 = .ok (.istore 9, 2) := zo_54 (by decide +kernel)
theorem dX12_game_102 : decode cX12_game 102 = .ok (.iload 9, 2) := zo_21 (by decide +kernel)
theorem dX12_game_104 : decode cX12_game 104 = .ok (.bipush 8, 2) := zo_16 (by decide +kernel)
theorem dX12_game_106 : decode cX12_game 106 = .ok (.if_icmp .ge 89, 3) := zo_162 (by decide +kernel)
theorem dX12_game_109 : decode cX12_game 109 = .ok (.aload_n 0, 1) := zo_42 (by decide +kernel)
theorem dX12_game_110 : decode cX12_game 110 = .ok (.getfield 38, 3) := zo_180 (by decide +kernel)
theorem dX12_game_113 : decode cX12_game 113 = .ok (.bipush 8, 2) := zo_16 (by decide +kernel)
theorem dX12_game_115 : decode cX12_game 115 = .ok (.iload 8, 2) := zo_21 (by decide +kernel)
theorem dX12_game_117 : decode cX12_game 117 = .ok (.imul, 1) := zo_104 (by decide +kernel)
theorem dX12_game_118 : decode cX12_game 118 = .ok (.iload 9, 2) := zo_21 (by decide +kernel)
theorem dX12_game_120 : decode cX12_game 120 = .ok (.iadd, 1) := zo_96 (by decide +kernel)
theorem dX12_game_121 : decode cX12_game 121 = .ok (.iaload, 1) := zo_46 (by decide +kernel)
theorem dX12_game_122 : decode cX12_game 122 = .ok (.istore 10, 2) := zo_54 (by decide +kernel)
theorem dX12_game_124 : decode cX12_game 124 = .ok (.iload 10, 2) := zo_21 (by decide +kernel)
theorem dX12_game_126 : decode cX12_game 126 = .ok (.iconst (-1), 1) := zo_2 (by decide +kernel)
theorem dX12_game_127 : decode cX12_game 127 = .ok (.if_icmp .eq 62, 3) := zo_159 (by decide +kernel)
theorem dX12_game_130 : decode cX12_game 130 = .ok (.iload 6, 2) := zo_21 (by decide +kernel)
theorem dX12_game_132 : decode cX12_game 132 = .ok (.iconst (-1), 1) := zo_2 (by decide +kernel)
theorem dX12_game_133 : decode cX12_game 133 = .ok (.if_icmp .eq 52, 3) := zo_159 (by decide +kernel)
theorem dX12_game_136 : decode cX12_game 136 = .ok (.iload 7, 2) := zo_21 (by decide +kernel)
theorem dX12_game_138 : decode cX12_game 138 = .ok (.iconst 2, 1) := zo_5 (by decide +kernel)
theorem dX12_game_139 : decode cX12_game 139 = .ok (.irem, 1) := zo_112 (by decide +kernel)
theorem dX12_game_140 : decode cX12_game 140 = .ok (.ifCond .ne 24, 3) := zo_154 (by decide +kernel)
theorem dX12_game_143 : decode cX12_game 143 = .ok (.iload 10, 2) := zo_21 (by decide +kernel)
theorem dX12_game_145 : decode cX12_game 145 = .ok (.aload_n 0, 1) := zo_42 (by decide +kernel)
theorem dX12_game_146 : decode cX12_game 146 = .ok (.getfield 38, 3) := zo_180 (by decide +kernel)
theorem dX12_game_149 : decode cX12_game 149 = .ok (.bipush 8, 2) := zo_16 (by decide +kernel)
theorem dX12_game_151 : decode cX12_game 151 = .ok (.iload 8, 2) := zo_21 (by decide +kernel)
theorem dX12_game_153 : decode cX12_game 153 = .ok (.imul, 1) := zo_104 (by decide +kernel)
theorem dX12_game_154 : decode cX12_game 154 = .ok (.iload 6, 2) := zo_21 (by decide +kernel)
theorem dX12_game_156 : decode cX12_game 156 = .ok (.iadd, 1) := zo_96 (by decide +kernel)
theorem dX12_game_157 : decode cX12_game 157 = .ok (.iaload, 1) := zo_46 (by decide +kernel)
theorem dX12_game_158 : decode cX12_game 158 = .ok (.if_icmp .lt 27, 3) := zo_161 (by decide +kernel)
theorem dX12_game_161 : decode cX12_game 161 = .ok (.goto 28, 3) := zo_167 (by decide +kernel)
theorem dX12_game_164 : decode cX12_game 164 = .ok (.iload 10, 2) := zo_21 (by decide +kernel)
theorem dX12_game_166 : decode cX12_game 166 = .ok (.aload_n 0, 1) := zo_42 (by decide +kernel)
theorem dX12_game_167 : decode cX12_game 167 = .ok (.getfield 38, 3) := zo_180 (by decide +kernel)
theorem dX12_game_170 : decode cX12_game 170 = .ok (.bipush 8, 2) := zo_16 (by decide +kernel)
theorem dX12_game_172 : decode cX12_game 172 = .ok (.iload 8, 2) := zo_21 (by decide +kernel)
theorem dX12_game_174 : decode cX12_game 174 = .ok (.imul, 1) := zo_104 (by decide +kernel)
theorem dX12_game_175 : decode cX12_game 175 = .ok (.iload 6, 2) := zo_21 (by decide +kernel)
theorem dX12_game_177 : decode cX12_game 177 = .ok (.iadd, 1) := zo_96 (by decide +kernel)
theorem dX12_game_178 : decode cX12_game 178 = .ok (.iaload, 1) := zo_46 (by decide +kernel)
theorem dX12_game_179 : decode cX12_game 179 = .ok (.if_icmp .gt 6, 3) := zo_163 (by decide +kernel)
theorem dX12_game_182 : decode cX12_game 182 = .ok (.goto 7, 3) := zo_167 (by decide +kernel)
theorem dX12_game_185 : decode cX12_game 185 = .ok (.iload 9, 2) := zo_21 (by decide +kernel)
theorem dX12_game_187 : decode cX12_game 187 = .ok (.istore 6, 2) := zo_54 (by decide +kernel)
theorem dX12_game_189 : decode cX12_game 189 = .ok (.iinc 9 1, 3) := zo_132 (by decide +kernel)
theorem dX12_game_192 : decode cX12_game 192 = .ok (.goto (-90), 3) := zo_167 (by decide +kernel)
theorem dX12_game_195 : decode cX12_game 195 = .ok (.aload_n 0, 1) := zo_42 (by decide +kernel)
theorem dX12_game_196 : decode cX12_game 196 = .ok (.getfield 38, 3) := zo_180 (by decide +kernel)
theorem dX12_game_199 : decode cX12_game 199 = .ok (.iload 8, 2) := zo_21 (by decide +kernel)
theorem dX12_game_201 : decode cX12_game 201 = .ok (.iload 6, 2) := zo_21 (by decide +kernel)
theorem dX12_game_203 : decode cX12_game 203 = .ok (.iconst (-1), 1) := zo_2 (by decide +kernel)
theorem dX12_game_204 : decode cX12_game 204 = .ok (.if_icmp .ne 7, 3) := zo_160 (by decide +kernel)
theorem dX12_game_207 : decode cX12_game 207 = .ok (.iconst (-1), 1) := zo_2 (by decide +kernel)
theorem dX12_game_208 : decode cX12_game 208 = .ok (.goto 16, 3) := zo_167 (by decide +kernel)
theorem dX12_game_211 : decode cX12_game 211 = .ok (.aload_n 0, 1) := zo_42 (by decide +kernel)
theorem dX12_game_212 : decode cX12_game 212 = .ok (.getfield 38, 3) := zo_180 (by decide +kernel)
theorem dX12_game_215 : decode cX12_game 215 = .ok (.bipush 8, 2) := zo_16 (by decide +kernel)
theorem dX12_game_217 : decode cX12_game 217 = .ok (.iload 8, 2) := zo_21 (by decide +kernel)
theorem dX12_game_219 : decode cX12_game 219 = .ok (.imul, 1) := zo_104 (by decide +kernel)
theorem dX12_game_220 : decode cX12_game 220 = .ok (.iload 6, 2) := zo_21 (by decide +kernel)
theorem dX12_game_222 : decode cX12_game 222 = .ok (.iadd, 1) := zo_96 (by decide +kernel)
theorem dX12_game_223 : decode cX12_game 223 = .ok (.iaload, 1) := zo_46 (by decide +kernel)
theorem dX12_game_224 : decode cX12_game 224 = .ok (.iastore, 1) := zo_79 (by decide +kernel)
theorem dX12_game_225 : decode cX12_game 225 = .ok (.iinc 8 1, 3) := zo_132 (by decide +kernel)
theorem dX12_game_228 : decode cX12_game 228 = .ok (.goto (-139), 3) := zo_167 (by decide +kernel)
theorem dX12_game_231 : decode cX12_game 231 = .ok (.iinc 7 (-1), 3) := zo_132 (by decide +kernel)
theorem dX12_game_234 : decode cX12_game 234 = .ok (.goto (-160), 3) := zo_167 (by decide +kernel)
theorem dX12_game_237 : decode cX12_game 237 = .ok (.iload 4, 2) := zo_21 (by decide +kernel)
theorem dX12_game_239 : decode cX12_game 239 = .ok (.ifCond .ne 12, 3) := zo_154 (by decide +kernel)
theorem dX12_game_242 : decode cX12_game 242 = .ok (.aload_n 0, 1) := zo_42 (by decide +kernel)
theorem dX12_game_243 : decode cX12_game 243 = .ok (.getfield 38, 3) := zo_180 (by decide +kernel)
theorem dX12_game_246 : decode cX12_game 246 = .ok (.iconst 0, 1) := zo_3 (by decide +kernel)
theorem dX12_game_247 : decode cX12_game 247 = .ok (.iaload, 1) := zo_46 (by decide +kernel)
theorem dX12_game_248 : decode cX12_game 248 = .ok (.goto 5, 3) := zo_167 (by decide +kernel)
theorem dX12_game_251 : decode cX12_game 251 = .ok (.iload 6, 2) := zo_21 (by decide +kernel)
theorem dX12_game_253 : decode cX12_game 253 = .ok (.ireturn, 1) := zo_172 (by decide +kernel)

set_option maxHeartbeats 4000000 in
set_option maxRecDepth 100000 in
/-- c_m_walksFar -/
theorem c_m_walksFar (l : Launch) (T : zTy) (mo : Nat) (m_all : Nat) (m_has : Nat) (i_size : Int32) (i_next : Int32) (i_where : Int32) (i_token : Int32) (i_number : Int32) (i_word : Int32) (i_wrong : Int32) (i_farCrossing : Int32) (m_read : Nat) (i_z0 : Int32) (i_crossings : Int32) (i_inns : Int32) (m_posts : Nat) (m_shut : Nat) (m_here : Nat) (i_steps : Int32) (i_done : Int32) (i_at : Int32) (i_gone : Int32) (m_was : Nat) (m_came : Nat) (m_seenAt : Nat) (m_rowWorth : Nat) (m_farBy : Nat) (m_used : Nat) (i_everywhere : Int32) (i_again0 : Int32) (i_d0 : Int32) (i_never : Int32) (i_firstCame : Int32) (i_longRun : Int32) (i_moved : Int32) (i_crowd : Int32) (i_l0 : Int32) (i_fitMany : Int32) (i_fitLeast : Int32) (i_fitMost : Int32) (m_fitPost : Nat) (m_fitEnd : Nat) (m_keptPosts : Nat) (i_x0 : Int32) (f_all : Nat → Int32) (f_posts : Nat → Int32) (f_shut : Nat → Int32) (f_was : Nat → Int32) (f_farBy : Nat → Int32) (f_used : Nat → Int32) (c_ : Int32) (hL : zML f_all i_z0 i_crossings) (hP : zMP f_posts) (hc0 : 0 ≤ c_.toInt) (hc6 : c_.toInt ≤ 6) : zMv l T yX12_walksFar cX12_walksFar 5 4 0 0 [.ref mo, .int c_] [[zO11 mo m_all m_has i_size i_next i_where i_token i_number i_word i_wrong i_farCrossing m_read i_z0 i_crossings i_inns m_posts m_shut m_here i_steps i_done i_at i_gone m_was m_came m_seenAt m_rowWorth m_farBy m_used i_everywhere i_again0 i_d0 i_never i_firstCame i_longRun i_moved i_crowd i_l0 i_fitMany i_fitLeast i_fitMost m_fitPost m_fitEnd m_keptPosts i_x0], [zAr T 0 m_all 3952 f_all], [zAr T 0 m_posts 7 f_posts], [zAr T 0 m_shut 7 f_shut], [zAr T 0 m_was 7 f_was], [zAr T 0 m_farBy 49 f_farBy], [zAr T 0 m_used 7 f_used]] (fun bs => ∃ (j_at : Int32) (j_gone : Int32) (j_everywhere : Int32) (j_again0 : Int32) (g_posts : Nat → Int32) (g_was : Nat → Int32) (g_used : Nat → Int32), bs = [[zO11 mo m_all m_has i_size i_next i_where i_token i_number i_word i_wrong i_farCrossing m_read i_z0 i_crossings i_inns m_posts m_shut m_here i_steps i_done j_at j_gone m_was m_came m_seenAt m_rowWorth m_farBy m_used j_everywhere j_again0 i_d0 i_never i_firstCame i_longRun i_moved i_crowd i_l0 i_fitMany i_fitLeast i_fitMost m_fitPost m_fitEnd m_keptPosts i_x0], [zAr T 0 m_all 3952 f_all], [zAr T 0 m_posts 7 g_posts], [zAr T 0 m_shut 7 f_shut], [zAr T 0 m_was 7 g_was], [zAr T 0 m_farBy 49 f_farBy], [zAr T 0 m_used 7 g_used]] ∧ 0 ≤ j_at.toInt ∧ j_at.toInt ≤ 6 ∧ 0 ≤ j_gone.toInt ∧ j_gone.toInt ≤ 499 ∧ zMP g_posts) := by
  refine zMv_of (own := RX12) (by decide) rfl (Nat.le_of_ble_eq_true rfl) ?_
  intro p e s m args below meth c A ls C hr hlocks hnm hAe G hl
  refine zHide (fun Qz_ hQz_ => ?_)
  have hx := C.1
  have hb := C.2.1
  have hl : lv_has ls 5 [(0, .ref mo), (1, .int c_)] := hl
  have hz := hL.1
  have hcr := hL.cr
  refine lv_aload_n hx hb dX12_walksFar_0 rfl (lv_at hl 0 rfl) ?_
  refine lv_iload_n hx hb dX12_walksFar_1 rfl (lv_at hl 1 rfl) ?_
  refine z_Vi (bc := [[zO11 mo m_all m_has i_size i_next i_where i_token i_number i_word i_wrong i_farCrossing m_read i_z0 i_crossings i_inns m_posts m_shut m_here i_steps i_done i_at i_gone m_was m_came m_seenAt m_rowWorth m_farBy m_used i_everywhere i_again0 i_d0 i_never i_firstCame i_longRun i_moved i_crowd i_l0 i_fitMany i_fitLeast i_fitMost m_fitPost m_fitEnd m_keptPosts i_x0], [zAr T 0 m_farBy 49 f_farBy]]) (br := [[zAr T 0 m_all 3952 f_all], [zAr T 0 m_posts 7 f_posts], [zAr T 0 m_shut 7 f_shut], [zAr T 0 m_was 7 f_was], [zAr T 0 m_used 7 f_used]]) (As := [.int c_]) (rest := []) C G (c_m_reachOf l T mo m_all m_has i_size i_next i_where i_token i_number i_word i_wrong i_farCrossing m_read i_z0 i_crossings i_inns m_posts m_shut m_here i_steps i_done i_at i_gone m_was m_came m_seenAt m_rowWorth m_farBy m_used i_everywhere i_again0 i_d0 i_never i_firstCame i_longRun i_moved i_crowd i_l0 i_fitMany i_fitLeast i_fitMost m_fitPost m_fitEnd m_keptPosts i_x0 f_farBy c_ (by first | with_reducible assumption | with_reducible rfl | omega | assumption | rfl | decide) (by first | with_reducible assumption | with_reducible rfl | omega | assumption | rfl | decide) (by first | with_reducible assumption | with_reducible rfl | omega | assumption | rfl | decide)) (kV_RX12_261 C.2.2.2.2 (Nat.le_of_ble_eq_true rfl) (Nat.le_of_ble_eq_true rfl)) [0, 5] [0, 4] rfl rfl (ci := 11) (qc := (RX12, TX12, 43)) rfl rfl (List.mem_flatten.mpr ⟨_, List.mem_of_getElem? (i := 0) rfl, List.mem_cons_self⟩) rfl rfl hl.1 dX12_walksFar_2 (Nat.le_of_ble_eq_true rfl) (Nat.le_of_ble_eq_true rfl) (fun r_1 b1 H locs hw G => ?_)
  obtain rfl := hw
  have G : zS T A s.heap s [[zAr T 0 m_all 3952 f_all], [zAr T 0 m_posts 7 f_posts], [zAr T 0 m_shut 7 f_shut], [zAr T 0 m_was 7 f_was], [zAr T 0 m_used 7 f_used], [zO11 mo m_all m_has i_size i_next i_where i_token i_number i_word i_wrong i_farCrossing m_read i_z0 i_crossings i_inns m_posts m_shut m_here i_steps i_done i_at i_gone m_was m_came m_seenAt m_rowWorth m_farBy m_used i_everywhere i_again0 i_d0 i_never i_firstCame i_longRun i_moved i_crowd i_l0 i_fitMany i_fitLeast i_fitMost m_fitPost m_fitEnd m_keptPosts i_x0], [zAr T 0 m_farBy 49 f_farBy]] _ _ := G
  refine lv_istore_n (lv' := [(2, .int r_1), (0, .ref mo), (1, .int c_)]) hx hb dX12_walksFar_5 rfl hl (by decide) (zLvf_h rfl) (fun ls hl => ?_)
  refine lv_iconst (v := 1) hx hb dX12_walksFar_6 (by decide) ?_
  refine lv_iload_n hx hb dX12_walksFar_7 rfl (lv_at hl 2 rfl) ?_
  refine lv_ishl hx hb dX12_walksFar_8 ?_
  refine lv_istore_n (lv' := [(3, .int (1 <<< (c_ &&& 31))), (2, .int r_1), (0, .ref mo), (1, .int c_)]) hx hb dX12_walksFar_9 rfl hl (by decide) (zLvf_h rfl) (fun ls hl => ?_)
  refine lv_iconst (v := 0) hx hb dX12_walksFar_10 (by decide) ?_
  refine lv_istore (lv' := [(4, .int 0), (3, .int (1 <<< (c_ &&& 31))), (2, .int r_1), (0, .ref mo), (1, .int c_)]) hx hb dX12_walksFar_11 hl (by decide) (zLvf_h rfl) (fun ls hl => ?_)
  refine z_lp2 (T := T) 13 (fun (i : Nat) (xused : Nat → Int32) => [[zAr T 0 m_all 3952 f_all], [zAr T 0 m_posts 7 f_posts], [zAr T 0 m_shut 7 f_shut], [zAr T 0 m_was 7 f_was], [zAr T 0 m_used 7 xused], [zO11 mo m_all m_has i_size i_next i_where i_token i_number i_word i_wrong i_farCrossing m_read i_z0 i_crossings i_inns m_posts m_shut m_here i_steps i_done i_at i_gone m_was m_came m_seenAt m_rowWorth m_farBy m_used i_everywhere i_again0 i_d0 i_never i_firstCame i_longRun i_moved i_crowd i_l0 i_fitMany i_fitLeast i_fitMost m_fitPost m_fitEnd m_keptPosts i_x0], [zAr T 0 m_farBy 49 f_farBy]]) (fun (i : Nat) (xused : Nat → Int32) => [(4, .int (nI i)), (3, .int (1 <<< (c_ &&& 31))), (2, .int r_1), (0, .ref mo), (1, .int c_)]) (fun (i : Nat) (xused : Nat → Int32) => i ≤ 7) (fun (i : Nat) (xused : Nat → Int32) => 7 - i) ?_ 0 f_used (show 0 ≤ 7 from by omega) G (lv_sub hl [0, 1, 2, 3, 4] rfl)
  intro i xused hi ih_13 H locs ls G hl
  replace hi : i ≤ 7 := hi
  replace G : zS T A s.heap s [[zAr T 0 m_all 3952 f_all], [zAr T 0 m_posts 7 f_posts], [zAr T 0 m_shut 7 f_shut], [zAr T 0 m_was 7 f_was], [zAr T 0 m_used 7 xused], [zO11 mo m_all m_has i_size i_next i_where i_token i_number i_word i_wrong i_farCrossing m_read i_z0 i_crossings i_inns m_posts m_shut m_here i_steps i_done i_at i_gone m_was m_came m_seenAt m_rowWorth m_farBy m_used i_everywhere i_again0 i_d0 i_never i_firstCame i_longRun i_moved i_crowd i_l0 i_fitMany i_fitLeast i_fitMost m_fitPost m_fitEnd m_keptPosts i_x0], [zAr T 0 m_farBy 49 f_farBy]] _ _ := G
  replace hl : lv_has ls 5 [(4, .int (nI i)), (3, .int (1 <<< (c_ &&& 31))), (2, .int r_1), (0, .ref mo), (1, .int c_)] := hl
  refine lv_iload hx hb dX12_walksFar_13 (lv_at hl 0 rfl) ?_
  refine lv_bipush (v := 7) hx hb dX12_walksFar_15 (by decide) ?_
  refine lv_icmp_ge (tgt := 34) hx hb dX12_walksFar_17 (by decide) (fun c_2 => ?_) (fun c_2 => ?_)
  · have c_2n : 7 ≤ i := (nI_leI (a := 7) (b := i) (by omega) (by omega)).mp c_2
    refine lv_aload_n hx hb dX12_walksFar_34 rfl (lv_at hl 3 rfl) ?_
    refine lv_iload_n hx hb dX12_walksFar_35 rfl (lv_at hl 1 rfl) ?_
    refine lv_iload_n hx hb dX12_walksFar_36 rfl (lv_at hl 2 rfl) ?_
    refine lv_icmp_ne (tgt := 44) hx hb dX12_walksFar_37 (by decide) (fun c_3 => ?_) (fun c_3 => ?_)
    · have c_3n : ¬ (1 <<< (c_ &&& 31)).toInt = r_1.toInt := fun q => c_3 ((fa_eq _ _).mpr q)
      refine lv_iconst (v := (-1)) hx hb dX12_walksFar_44 (by decide) ?_
      refine z_put C G clX12 5 rfl 27 (by decide) m_fl_RX12_284 rfl rfl rfl (Nat.le_of_ble_eq_true rfl) dX12_walksFar_45 (fun H locs G => ?_)
      have G : zS T A s.heap s [[zAr T 0 m_all 3952 f_all], [zAr T 0 m_posts 7 f_posts], [zAr T 0 m_shut 7 f_shut], [zAr T 0 m_was 7 f_was], [zAr T 0 m_used 7 xused], [zO11 mo m_all m_has i_size i_next i_where i_token i_number i_word i_wrong i_farCrossing m_read i_z0 i_crossings i_inns m_posts m_shut m_here i_steps i_done i_at i_gone m_was m_came m_seenAt m_rowWorth m_farBy m_used (-1) i_again0 i_d0 i_never i_firstCame i_longRun i_moved i_crowd i_l0 i_fitMany i_fitLeast i_fitMost m_fitPost m_fitEnd m_keptPosts i_x0], [zAr T 0 m_farBy 49 f_farBy]] _ _ := G
      refine lv_aload_n hx hb dX12_walksFar_48 rfl (lv_at hl 3 rfl) ?_
      refine lv_iconst (v := (-1)) hx hb dX12_walksFar_49 (by decide) ?_
      refine z_put C G clX12 5 rfl 28 (by decide) m_fl_RX12_287 rfl rfl rfl (Nat.le_of_ble_eq_true rfl) dX12_walksFar_50 (fun H locs G => ?_)
      have G : zS T A s.heap s [[zAr T 0 m_all 3952 f_all], [zAr T 0 m_posts 7 f_posts], [zAr T 0 m_shut 7 f_shut], [zAr T 0 m_was 7 f_was], [zAr T 0 m_used 7 xused], [zO11 mo m_all m_has i_size i_next i_where i_token i_number i_word i_wrong i_farCrossing m_read i_z0 i_crossings i_inns m_posts m_shut m_here i_steps i_done i_at i_gone m_was m_came m_seenAt m_rowWorth m_farBy m_used (-1) (-1) i_d0 i_never i_firstCame i_longRun i_moved i_crowd i_l0 i_fitMany i_fitLeast i_fitMost m_fitPost m_fitEnd m_keptPosts i_x0], [zAr T 0 m_farBy 49 f_farBy]] _ _ := G
      refine lv_aload_n hx hb dX12_walksFar_53 rfl (lv_at hl 3 rfl) ?_
      refine lv_iload_n hx hb dX12_walksFar_54 rfl (lv_at hl 4 rfl) ?_
      refine z_Vv (bc := [[zO11 mo m_all m_has i_size i_next i_where i_token i_number i_word i_wrong i_farCrossing m_read i_z0 i_crossings i_inns m_posts m_shut m_here i_steps i_done i_at i_gone m_was m_came m_seenAt m_rowWorth m_farBy m_used (-1) (-1) i_d0 i_never i_firstCame i_longRun i_moved i_crowd i_l0 i_fitMany i_fitLeast i_fitMost m_fitPost m_fitEnd m_keptPosts i_x0], [zAr T 0 m_was 7 f_was]]) (br := [[zAr T 0 m_all 3952 f_all], [zAr T 0 m_posts 7 f_posts], [zAr T 0 m_shut 7 f_shut], [zAr T 0 m_used 7 xused], [zAr T 0 m_farBy 49 f_farBy]]) (As := [.int c_]) (rest := []) C G (c_m_puts l T mo m_all m_has i_size i_next i_where i_token i_number i_word i_wrong i_farCrossing m_read i_z0 i_crossings i_inns m_posts m_shut m_here i_steps i_done i_at i_gone m_was m_came m_seenAt m_rowWorth m_farBy m_used (-1) (-1) i_d0 i_never i_firstCame i_longRun i_moved i_crowd i_l0 i_fitMany i_fitLeast i_fitMost m_fitPost m_fitEnd m_keptPosts i_x0 f_was c_) (kV_RX12_211 C.2.2.2.2 (Nat.le_of_ble_eq_true rfl) (Nat.le_of_ble_eq_true rfl)) [5, 3] [3, 1] rfl rfl (ci := 11) (qc := (RX12, TX12, 43)) rfl rfl (List.mem_flatten.mpr ⟨_, List.mem_of_getElem? (i := 0) rfl, List.mem_cons_self⟩) rfl rfl hl.1 dX12_walksFar_55 (Nat.le_of_ble_eq_true rfl) (Nat.le_of_ble_eq_true rfl) (fun b1 H locs hw G => ?_)
      refine zEx1 hw ?_
      intro g_was_4 hbs9
      clear hw
      subst hbs9
      have G : zS T A s.heap s [[zAr T 0 m_all 3952 f_all], [zAr T 0 m_posts 7 f_posts], [zAr T 0 m_shut 7 f_shut], [zAr T 0 m_used 7 xused], [zAr T 0 m_farBy 49 f_farBy], [zO11 mo m_all m_has i_size i_next i_where i_token i_number i_word i_wrong i_farCrossing m_read i_z0 i_crossings i_inns m_posts m_shut m_here i_steps i_done c_ 0 m_was m_came m_seenAt m_rowWorth m_farBy m_used (-1) (-1) i_d0 i_never i_firstCame i_longRun i_moved i_crowd i_l0 i_fitMany i_fitLeast i_fitMost m_fitPost m_fitEnd m_keptPosts i_x0], [zAr T 0 m_was 7 g_was_4]] _ _ := G
      refine lv_iload_n hx hb dX12_walksFar_58 rfl (lv_at hl 4 rfl) ?_
      refine lv_istore (lv' := [(4, .int c_), (3, .int (1 <<< (c_ &&& 31))), (2, .int r_1), (0, .ref mo), (1, .int c_)]) hx hb dX12_walksFar_59 hl (by decide) (zLvf_h rfl) (fun ls hl => ?_)
      refine z_lp9 (T := T) 61 (fun (fr : Int32) (met : Int32) (xat : Int32) (xgone : Int32) (xeverywhere : Int32) (xagain0 : Int32) (xposts : Nat → Int32) (xwas : Nat → Int32) (xused : Nat → Int32) => [[zAr T 0 m_all 3952 f_all], [zAr T 0 m_posts 7 xposts], [zAr T 0 m_shut 7 f_shut], [zAr T 0 m_used 7 xused], [zAr T 0 m_farBy 49 f_farBy], [zO11 mo m_all m_has i_size i_next i_where i_token i_number i_word i_wrong i_farCrossing m_read i_z0 i_crossings i_inns m_posts m_shut m_here i_steps i_done xat xgone m_was m_came m_seenAt m_rowWorth m_farBy m_used xeverywhere xagain0 i_d0 i_never i_firstCame i_longRun i_moved i_crowd i_l0 i_fitMany i_fitLeast i_fitMost m_fitPost m_fitEnd m_keptPosts i_x0], [zAr T 0 m_was 7 xwas]]) (fun (fr : Int32) (met : Int32) (xat : Int32) (xgone : Int32) (xeverywhere : Int32) (xagain0 : Int32) (xposts : Nat → Int32) (xwas : Nat → Int32) (xused : Nat → Int32) => [(4, .int fr), (3, .int met), (2, .int r_1), (0, .ref mo), (1, .int c_)]) (fun (fr : Int32) (met : Int32) (xat : Int32) (xgone : Int32) (xeverywhere : Int32) (xagain0 : Int32) (xposts : Nat → Int32) (xwas : Nat → Int32) (xused : Nat → Int32) => zMP xposts ∧ 0 ≤ fr.toInt ∧ fr.toInt ≤ 6 ∧ 0 ≤ xat.toInt ∧ xat.toInt ≤ 6 ∧ 0 ≤ xgone.toInt ∧ xgone.toInt ≤ 499) (fun (fr : Int32) (met : Int32) (xat : Int32) (xgone : Int32) (xeverywhere : Int32) (xagain0 : Int32) (xposts : Nat → Int32) (xwas : Nat → Int32) (xused : Nat → Int32) => (499 - xgone.toInt).toNat) ?_ c_ (1 <<< (c_ &&& 31)) c_ 0 (-1) (-1) f_posts g_was_4 xused (show zMP f_posts ∧ 0 ≤ c_.toInt ∧ c_.toInt ≤ 6 ∧ 0 ≤ c_.toInt ∧ c_.toInt ≤ 6 ∧ 0 ≤ (0 : Int32).toInt ∧ (0 : Int32).toInt ≤ 499 from ⟨(by first | with_reducible assumption | assumption), by omega, by omega, by omega, by omega, by decide, by decide⟩) G (lv_sub hl [0, 1, 2, 3, 4] rfl)
      intro fr met xat xgone xeverywhere xagain0 xposts xwas xused hI9 ih_61 H locs ls G hl
      replace hI9 : zMP xposts ∧ 0 ≤ fr.toInt ∧ fr.toInt ≤ 6 ∧ 0 ≤ xat.toInt ∧ xat.toInt ≤ 6 ∧ 0 ≤ xgone.toInt ∧ xgone.toInt ≤ 499 := hI9
      refine zAn7 hI9 ?_
      intro hQ hfr0 hfr6 hat0 hat6 hgo0 hgo9
      clear hI9
      replace G : zS T A s.heap s [[zAr T 0 m_all 3952 f_all], [zAr T 0 m_posts 7 xposts], [zAr T 0 m_shut 7 f_shut], [zAr T 0 m_used 7 xused], [zAr T 0 m_farBy 49 f_farBy], [zO11 mo m_all m_has i_size i_next i_where i_token i_number i_word i_wrong i_farCrossing m_read i_z0 i_crossings i_inns m_posts m_shut m_here i_steps i_done xat xgone m_was m_came m_seenAt m_rowWorth m_farBy m_used xeverywhere xagain0 i_d0 i_never i_firstCame i_longRun i_moved i_crowd i_l0 i_fitMany i_fitLeast i_fitMost m_fitPost m_fitEnd m_keptPosts i_x0], [zAr T 0 m_was 7 xwas]] _ _ := G
      replace hl : lv_has ls 5 [(4, .int fr), (3, .int met), (2, .int r_1), (0, .ref mo), (1, .int c_)] := hl
      refine lv_aload_n hx hb dX12_walksFar_61 rfl (lv_at hl 3 rfl) ?_
      refine z_get C G clX12 5 rfl 20 (by decide) m_fl_RX12_208 rfl dX12_walksFar_62 ?_
      refine lv_sipush (v := 499) hx hb dX12_walksFar_65 (by decide) ?_
      refine lv_icmp_ge (tgt := 160) hx hb dX12_walksFar_68 (by decide) (fun c_6 => ?_) (fun c_6 => ?_)
      · have c_6n : (499 : Int) ≤ xgone.toInt := (fa_le _ _).mp c_6
        have G := G.sub (bs' := [[zO11 mo m_all m_has i_size i_next i_where i_token i_number i_word i_wrong i_farCrossing m_read i_z0 i_crossings i_inns m_posts m_shut m_here i_steps i_done xat xgone m_was m_came m_seenAt m_rowWorth m_farBy m_used xeverywhere xagain0 i_d0 i_never i_firstCame i_longRun i_moved i_crowd i_l0 i_fitMany i_fitLeast i_fitMost m_fitPost m_fitEnd m_keptPosts i_x0], [zAr T 0 m_all 3952 f_all], [zAr T 0 m_posts 7 xposts], [zAr T 0 m_shut 7 f_shut], [zAr T 0 m_was 7 xwas], [zAr T 0 m_farBy 49 f_farBy], [zAr T 0 m_used 7 xused]]) [5, 0, 1, 2, 6, 4, 3] rfl
        exact z_back hQz_ (z_vret C hr hlocks G (Nat.le_of_ble_eq_true rfl) (Nat.le_of_ble_eq_true rfl) dX12_walksFar_160 ⟨xat, xgone, xeverywhere, xagain0, xposts, xwas, xused, rfl, (by first | with_reducible assumption | omega | trivial | assumption), (by first | with_reducible assumption | omega | trivial | assumption), (by first | with_reducible assumption | omega | trivial | assumption), (by first | with_reducible assumption | omega | trivial | assumption), (by first | with_reducible assumption | omega | trivial | assumption)⟩)
      · have c_6n : ¬ (499 : Int) ≤ xgone.toInt := fun q => c_6 ((fa_le _ _).mpr q)
        refine lv_aload_n hx hb dX12_walksFar_71 rfl (lv_at hl 3 rfl) ?_
        refine z_Vi (bc := [[zO11 mo m_all m_has i_size i_next i_where i_token i_number i_word i_wrong i_farCrossing m_read i_z0 i_crossings i_inns m_posts m_shut m_here i_steps i_done xat xgone m_was m_came m_seenAt m_rowWorth m_farBy m_used xeverywhere xagain0 i_d0 i_never i_firstCame i_longRun i_moved i_crowd i_l0 i_fitMany i_fitLeast i_fitMost m_fitPost m_fitEnd m_keptPosts i_x0], [zAr T 0 m_all 3952 f_all], [zAr T 0 m_posts 7 xposts], [zAr T 0 m_shut 7 f_shut], [zAr T 0 m_was 7 xwas]]) (br := [[zAr T 0 m_used 7 xused], [zAr T 0 m_farBy 49 f_farBy]]) (As := []) (rest := []) C G (c_m_stepsOn l T mo m_all m_has i_size i_next i_where i_token i_number i_word i_wrong i_farCrossing m_read i_z0 i_crossings i_inns m_posts m_shut m_here i_steps i_done xat xgone m_was m_came m_seenAt m_rowWorth m_farBy m_used xeverywhere xagain0 i_d0 i_never i_firstCame i_longRun i_moved i_crowd i_l0 i_fitMany i_fitLeast i_fitMost m_fitPost m_fitEnd m_keptPosts i_x0 f_all xposts f_shut xwas (by first | with_reducible assumption | with_reducible rfl | omega | assumption | rfl | decide) (by first | with_reducible assumption | with_reducible rfl | omega | assumption | rfl | decide) (by first | with_reducible assumption | with_reducible rfl | omega | assumption | rfl | decide) (by first | with_reducible assumption | with_reducible rfl | omega | assumption | rfl | decide) (by first | with_reducible assumption | with_reducible rfl | omega | assumption | rfl | decide) (by first | with_reducible assumption | with_reducible rfl | omega | assumption | rfl | decide)) (kV_RX12_214 C.2.2.2.2 (Nat.le_of_ble_eq_true rfl) (Nat.le_of_ble_eq_true rfl)) [5, 0, 1, 2, 6] [0, 0, 0, 2, 0] rfl rfl (ci := 11) (qc := (RX12, TX12, 43)) rfl rfl (List.mem_flatten.mpr ⟨_, List.mem_of_getElem? (i := 0) rfl, List.mem_cons_self⟩) rfl rfl hl.1 dX12_walksFar_72 (Nat.le_of_ble_eq_true rfl) (Nat.le_of_ble_eq_true rfl) (fun r_15 b1 H locs hw G => ?_)
        refine zEx4 hw ?_
        intro j_at_7 j_gone_8 g_posts_9 g_was_10
        refine zCu5 ?_
        intro hbs9 h_11 h_12 h_13 hc_14
        clear hw
        subst hbs9
        have G : zS T A s.heap s [[zAr T 0 m_used 7 xused], [zAr T 0 m_farBy 49 f_farBy], [zO11 mo m_all m_has i_size i_next i_where i_token i_number i_word i_wrong i_farCrossing m_read i_z0 i_crossings i_inns m_posts m_shut m_here i_steps i_done j_at_7 j_gone_8 m_was m_came m_seenAt m_rowWorth m_farBy m_used xeverywhere xagain0 i_d0 i_never i_firstCame i_longRun i_moved i_crowd i_l0 i_fitMany i_fitLeast i_fitMost m_fitPost m_fitEnd m_keptPosts i_x0], [zAr T 0 m_all 3952 f_all], [zAr T 0 m_posts 7 g_posts_9], [zAr T 0 m_shut 7 f_shut], [zAr T 0 m_was 7 g_was_10]] _ _ := G
        rcases hc_14 with ⟨rfl, h_16⟩ | ⟨rfl, h_17⟩
        · have h_16 : j_gone_8.toInt = xgone.toInt + 1 := h_16
          refine lv_if_eq (tgt := 160) hx hb dX12_walksFar_75 (by decide) (fun q => absurd q (by decide)) (fun _ => ?_)
          refine lv_aload_n hx hb dX12_walksFar_78 rfl (lv_at hl 3 rfl) ?_
          refine z_get C G clX12 2 rfl 26 (by decide) m_fl_RX12_44 rfl dX12_walksFar_79 ?_
          refine lv_iload hx hb dX12_walksFar_82 (lv_at hl 0 rfl) ?_
          refine lv_dup2_11 hx hb dX12_walksFar_84 rfl rfl ?_
          refine z_ild C G 0 rfl (vp_in_iff.mpr ⟨by omega, by omega⟩) dX12_walksFar_85 ?_
          refine lv_topi (fun v_18 ev_18 => ?_)
          subst ev_18
          refine lv_iconst (v := 1) hx hb dX12_walksFar_86 (by decide) ?_
          refine lv_aload_n hx hb dX12_walksFar_87 rfl (lv_at hl 3 rfl) ?_
          refine z_get C G clX12 2 rfl 14 (by decide) m_fl_RX12_20 rfl dX12_walksFar_88 ?_
          refine lv_iload hx hb dX12_walksFar_91 (lv_at hl 0 rfl) ?_
          refine z_ild C G 4 rfl (vp_in_iff.mpr ⟨by omega, by omega⟩) dX12_walksFar_93 ?_
          refine lv_topi (fun v_19 ev_19 => ?_)
          subst ev_19
          refine lv_ishl hx hb dX12_walksFar_94 ?_
          refine lv_ior hx hb dX12_walksFar_95 ?_
          refine z_ist C G 0 rfl (vp_in_iff.mpr ⟨by omega, by omega⟩) dX12_walksFar_96 (fun H locs G => ?_)
          have G : zS T A s.heap s [[zAr T 0 m_used 7 (upd xused fr.toNatClampNeg ((xused fr.toNatClampNeg) ||| (1 <<< ((g_posts_9 fr.toNatClampNeg) &&& 31))))], [zAr T 0 m_farBy 49 f_farBy], [zO11 mo m_all m_has i_size i_next i_where i_token i_number i_word i_wrong i_farCrossing m_read i_z0 i_crossings i_inns m_posts m_shut m_here i_steps i_done j_at_7 j_gone_8 m_was m_came m_seenAt m_rowWorth m_farBy m_used xeverywhere xagain0 i_d0 i_never i_firstCame i_longRun i_moved i_crowd i_l0 i_fitMany i_fitLeast i_fitMost m_fitPost m_fitEnd m_keptPosts i_x0], [zAr T 0 m_all 3952 f_all], [zAr T 0 m_posts 7 g_posts_9], [zAr T 0 m_shut 7 f_shut], [zAr T 0 m_was 7 g_was_10]] _ _ := G
          refine lv_iload_n hx hb dX12_walksFar_97 rfl (lv_at hl 1 rfl) ?_
          refine lv_iconst (v := 1) hx hb dX12_walksFar_98 (by decide) ?_
          refine lv_aload_n hx hb dX12_walksFar_99 rfl (lv_at hl 3 rfl) ?_
          refine z_get C G clX12 2 rfl 19 (by decide) m_fl_RX12_202 rfl dX12_walksFar_100 ?_
          refine lv_ishl hx hb dX12_walksFar_103 ?_
          refine lv_ior hx hb dX12_walksFar_104 ?_
          refine lv_istore_n (lv' := [(3, .int (met ||| (1 <<< (j_at_7 &&& 31)))), (4, .int fr), (2, .int r_1), (0, .ref mo), (1, .int c_)]) hx hb dX12_walksFar_105 rfl hl (by decide) (zLvf_h rfl) (fun ls hl => ?_)
          refine lv_aload_n hx hb dX12_walksFar_106 rfl (lv_at hl 3 rfl) ?_
          refine z_get C G clX12 2 rfl 27 (by decide) m_fl_RX12_284 rfl dX12_walksFar_107 ?_
          refine lv_iconst (v := (-1)) hx hb dX12_walksFar_110 (by decide) ?_
          refine lv_icmp_ne (tgt := 127) hx hb dX12_walksFar_111 (by decide) (fun c_20 => ?_) (fun c_20 => ?_)
          · have c_20n : ¬ xeverywhere.toInt = (-1 : Int) := fun q => c_20 ((fa_eq _ _).mpr q)
            refine lv_aload_n hx hb dX12_walksFar_127 rfl (lv_at hl 3 rfl) ?_
            refine z_get C G clX12 2 rfl 28 (by decide) m_fl_RX12_287 rfl dX12_walksFar_128 ?_
            refine lv_iconst (v := (-1)) hx hb dX12_walksFar_131 (by decide) ?_
            refine lv_icmp_ne (tgt := 151) hx hb dX12_walksFar_132 (by decide) (fun c_21 => ?_) (fun c_21 => ?_)
            · have c_21n : ¬ xagain0.toInt = (-1 : Int) := fun q => c_21 ((fa_eq _ _).mpr q)
              refine lv_aload_n hx hb dX12_walksFar_151 rfl (lv_at hl 3 rfl) ?_
              refine z_get C G clX12 2 rfl 19 (by decide) m_fl_RX12_202 rfl dX12_walksFar_152 ?_
              refine lv_istore (lv' := [(4, .int j_at_7), (3, .int (met ||| (1 <<< (j_at_7 &&& 31)))), (2, .int r_1), (0, .ref mo), (1, .int c_)]) hx hb dX12_walksFar_155 hl (by decide) (zLvf_h rfl) (fun ls hl => ?_)
              refine lv_goto (tgt := 61) hx hb dX12_walksFar_157 (by decide) ?_
              have G := G.sub (bs' := [[zAr T 0 m_all 3952 f_all], [zAr T 0 m_posts 7 g_posts_9], [zAr T 0 m_shut 7 f_shut], [zAr T 0 m_used 7 (upd xused fr.toNatClampNeg ((xused fr.toNatClampNeg) ||| (1 <<< ((g_posts_9 fr.toNatClampNeg) &&& 31))))], [zAr T 0 m_farBy 49 f_farBy], [zO11 mo m_all m_has i_size i_next i_where i_token i_number i_word i_wrong i_farCrossing m_read i_z0 i_crossings i_inns m_posts m_shut m_here i_steps i_done j_at_7 j_gone_8 m_was m_came m_seenAt m_rowWorth m_farBy m_used xeverywhere xagain0 i_d0 i_never i_firstCame i_longRun i_moved i_crowd i_l0 i_fitMany i_fitLeast i_fitMost m_fitPost m_fitEnd m_keptPosts i_x0], [zAr T 0 m_was 7 g_was_10]]) [3, 4, 5, 0, 1, 2, 6] rfl
              exact ih_61 j_at_7 (met ||| (1 <<< (j_at_7 &&& 31))) j_at_7 j_gone_8 xeverywhere xagain0 g_posts_9 g_was_10 (upd xused fr.toNatClampNeg ((xused fr.toNatClampNeg) ||| (1 <<< ((g_posts_9 fr.toNatClampNeg) &&& 31)))) (show zMP g_posts_9 ∧ 0 ≤ j_at_7.toInt ∧ j_at_7.toInt ≤ 6 ∧ 0 ≤ j_at_7.toInt ∧ j_at_7.toInt ≤ 6 ∧ 0 ≤ j_gone_8.toInt ∧ j_gone_8.toInt ≤ 499 from ⟨(by first | with_reducible assumption | assumption), by omega, by omega, by omega, by omega, by omega, by omega⟩) (show (499 - j_gone_8.toInt).toNat < (499 - xgone.toInt).toNat from by omega) _ _ ls G (lv_sub hl [0, 1, 2, 3, 4] rfl)
            · have c_21n : xagain0.toInt = (-1 : Int) := (fa_eq _ _).mp c_21
              refine lv_aload_n hx hb dX12_walksFar_135 rfl (lv_at hl 3 rfl) ?_
              refine z_get C G clX12 2 rfl 19 (by decide) m_fl_RX12_202 rfl dX12_walksFar_136 ?_
              refine lv_iload_n hx hb dX12_walksFar_139 rfl (lv_at hl 4 rfl) ?_
              refine lv_icmp_ne (tgt := 151) hx hb dX12_walksFar_140 (by decide) (fun c_22 => ?_) (fun c_22 => ?_)
              · have c_22n : ¬ j_at_7.toInt = c_.toInt := fun q => c_22 ((fa_eq _ _).mpr q)
                refine lv_aload_n hx hb dX12_walksFar_151 rfl (lv_at hl 3 rfl) ?_
                refine z_get C G clX12 2 rfl 19 (by decide) m_fl_RX12_202 rfl dX12_walksFar_152 ?_
                refine lv_istore (lv' := [(4, .int j_at_7), (3, .int (met ||| (1 <<< (j_at_7 &&& 31)))), (2, .int r_1), (0, .ref mo), (1, .int c_)]) hx hb dX12_walksFar_155 hl (by decide) (zLvf_h rfl) (fun ls hl => ?_)
                refine lv_goto (tgt := 61) hx hb dX12_walksFar_157 (by decide) ?_
                have G := G.sub (bs' := [[zAr T 0 m_all 3952 f_all], [zAr T 0 m_posts 7 g_posts_9], [zAr T 0 m_shut 7 f_shut], [zAr T 0 m_used 7 (upd xused fr.toNatClampNeg ((xused fr.toNatClampNeg) ||| (1 <<< ((g_posts_9 fr.toNatClampNeg) &&& 31))))], [zAr T 0 m_farBy 49 f_farBy], [zO11 mo m_all m_has i_size i_next i_where i_token i_number i_word i_wrong i_farCrossing m_read i_z0 i_crossings i_inns m_posts m_shut m_here i_steps i_done j_at_7 j_gone_8 m_was m_came m_seenAt m_rowWorth m_farBy m_used xeverywhere xagain0 i_d0 i_never i_firstCame i_longRun i_moved i_crowd i_l0 i_fitMany i_fitLeast i_fitMost m_fitPost m_fitEnd m_keptPosts i_x0], [zAr T 0 m_was 7 g_was_10]]) [3, 4, 5, 0, 1, 2, 6] rfl
                exact ih_61 j_at_7 (met ||| (1 <<< (j_at_7 &&& 31))) j_at_7 j_gone_8 xeverywhere xagain0 g_posts_9 g_was_10 (upd xused fr.toNatClampNeg ((xused fr.toNatClampNeg) ||| (1 <<< ((g_posts_9 fr.toNatClampNeg) &&& 31)))) (show zMP g_posts_9 ∧ 0 ≤ j_at_7.toInt ∧ j_at_7.toInt ≤ 6 ∧ 0 ≤ j_at_7.toInt ∧ j_at_7.toInt ≤ 6 ∧ 0 ≤ j_gone_8.toInt ∧ j_gone_8.toInt ≤ 499 from ⟨(by first | with_reducible assumption | assumption), by omega, by omega, by omega, by omega, by omega, by omega⟩) (show (499 - j_gone_8.toInt).toNat < (499 - xgone.toInt).toNat from by omega) _ _ ls G (lv_sub hl [0, 1, 2, 3, 4] rfl)
              · have c_22n : j_at_7.toInt = c_.toInt := (fa_eq _ _).mp c_22
                refine lv_aload_n hx hb dX12_walksFar_143 rfl (lv_at hl 3 rfl) ?_
                refine lv_aload_n hx hb dX12_walksFar_144 rfl (lv_at hl 3 rfl) ?_
                refine z_get C G clX12 2 rfl 20 (by decide) m_fl_RX12_208 rfl dX12_walksFar_145 ?_
                refine z_put C G clX12 2 rfl 28 (by decide) m_fl_RX12_287 rfl rfl rfl (Nat.le_of_ble_eq_true rfl) dX12_walksFar_148 (fun H locs G => ?_)
                have G : zS T A s.heap s [[zAr T 0 m_used 7 (upd xused fr.toNatClampNeg ((xused fr.toNatClampNeg) ||| (1 <<< ((g_posts_9 fr.toNatClampNeg) &&& 31))))], [zAr T 0 m_farBy 49 f_farBy], [zO11 mo m_all m_has i_size i_next i_where i_token i_number i_word i_wrong i_farCrossing m_read i_z0 i_crossings i_inns m_posts m_shut m_here i_steps i_done j_at_7 j_gone_8 m_was m_came m_seenAt m_rowWorth m_farBy m_used xeverywhere j_gone_8 i_d0 i_never i_firstCame i_longRun i_moved i_crowd i_l0 i_fitMany i_fitLeast i_fitMost m_fitPost m_fitEnd m_keptPosts i_x0], [zAr T 0 m_all 3952 f_all], [zAr T 0 m_posts 7 g_posts_9], [zAr T 0 m_shut 7 f_shut], [zAr T 0 m_was 7 g_was_10]] _ _ := G
                refine lv_aload_n hx hb dX12_walksFar_151 rfl (lv_at hl 3 rfl) ?_
                refine z_get C G clX12 2 rfl 19 (by decide) m_fl_RX12_202 rfl dX12_walksFar_152 ?_
                refine lv_istore (lv' := [(4, .int j_at_7), (3, .int (met ||| (1 <<< (j_at_7 &&& 31)))), (2, .int r_1), (0, .ref mo), (1, .int c_)]) hx hb dX12_walksFar_155 hl (by decide) (zLvf_h rfl) (fun ls hl => ?_)
                refine lv_goto (tgt := 61) hx hb dX12_walksFar_157 (by decide) ?_
                have G := G.sub (bs' := [[zAr T 0 m_all 3952 f_all], [zAr T 0 m_posts 7 g_posts_9], [zAr T 0 m_shut 7 f_shut], [zAr T 0 m_used 7 (upd xused fr.toNatClampNeg ((xused fr.toNatClampNeg) ||| (1 <<< ((g_posts_9 fr.toNatClampNeg) &&& 31))))], [zAr T 0 m_farBy 49 f_farBy], [zO11 mo m_all m_has i_size i_next i_where i_token i_number i_word i_wrong i_farCrossing m_read i_z0 i_crossings i_inns m_posts m_shut m_here i_steps i_done j_at_7 j_gone_8 m_was m_came m_seenAt m_rowWorth m_farBy m_used xeverywhere j_gone_8 i_d0 i_never i_firstCame i_longRun i_moved i_crowd i_l0 i_fitMany i_fitLeast i_fitMost m_fitPost m_fitEnd m_keptPosts i_x0], [zAr T 0 m_was 7 g_was_10]]) [3, 4, 5, 0, 1, 2, 6] rfl
                exact ih_61 j_at_7 (met ||| (1 <<< (j_at_7 &&& 31))) j_at_7 j_gone_8 xeverywhere j_gone_8 g_posts_9 g_was_10 (upd xused fr.toNatClampNeg ((xused fr.toNatClampNeg) ||| (1 <<< ((g_posts_9 fr.toNatClampNeg) &&& 31)))) (show zMP g_posts_9 ∧ 0 ≤ j_at_7.toInt ∧ j_at_7.toInt ≤ 6 ∧ 0 ≤ j_at_7.toInt ∧ j_at_7.toInt ≤ 6 ∧ 0 ≤ j_gone_8.toInt ∧ j_gone_8.toInt ≤ 499 from ⟨(by first | with_reducible assumption | assumption), by omega, by omega, by omega, by omega, by omega, by omega⟩) (show (499 - j_gone_8.toInt).toNat < (499 - xgone.toInt).toNat from by omega) _ _ ls G (lv_sub hl [0, 1, 2, 3, 4] rfl)
          · have c_20n : xeverywhere.toInt = (-1 : Int) := (fa_eq _ _).mp c_20
            refine lv_iload_n hx hb dX12_walksFar_114 rfl (lv_at hl 0 rfl) ?_
            refine lv_iload_n hx hb dX12_walksFar_115 rfl (lv_at hl 2 rfl) ?_
            refine lv_icmp_ne (tgt := 127) hx hb dX12_walksFar_116 (by decide) (fun c_23 => ?_) (fun c_23 => ?_)
            · have c_23n : ¬ (met ||| (1 <<< (j_at_7 &&& 31))).toInt = r_1.toInt := fun q => c_23 ((fa_eq _ _).mpr q)
              refine lv_aload_n hx hb dX12_walksFar_127 rfl (lv_at hl 3 rfl) ?_
              refine z_get C G clX12 2 rfl 28 (by decide) m_fl_RX12_287 rfl dX12_walksFar_128 ?_
              refine lv_iconst (v := (-1)) hx hb dX12_walksFar_131 (by decide) ?_
              refine lv_icmp_ne (tgt := 151) hx hb dX12_walksFar_132 (by decide) (fun c_24 => ?_) (fun c_24 => ?_)
              · have c_24n : ¬ xagain0.toInt = (-1 : Int) := fun q => c_24 ((fa_eq _ _).mpr q)
                refine lv_aload_n hx hb dX12_walksFar_151 rfl (lv_at hl 3 rfl) ?_
                refine z_get C G clX12 2 rfl 19 (by decide) m_fl_RX12_202 rfl dX12_walksFar_152 ?_
                refine lv_istore (lv' := [(4, .int j_at_7), (3, .int (met ||| (1 <<< (j_at_7 &&& 31)))), (2, .int r_1), (0, .ref mo), (1, .int c_)]) hx hb dX12_walksFar_155 hl (by decide) (zLvf_h rfl) (fun ls hl => ?_)
                refine lv_goto (tgt := 61) hx hb dX12_walksFar_157 (by decide) ?_
                have G := G.sub (bs' := [[zAr T 0 m_all 3952 f_all], [zAr T 0 m_posts 7 g_posts_9], [zAr T 0 m_shut 7 f_shut], [zAr T 0 m_used 7 (upd xused fr.toNatClampNeg ((xused fr.toNatClampNeg) ||| (1 <<< ((g_posts_9 fr.toNatClampNeg) &&& 31))))], [zAr T 0 m_farBy 49 f_farBy], [zO11 mo m_all m_has i_size i_next i_where i_token i_number i_word i_wrong i_farCrossing m_read i_z0 i_crossings i_inns m_posts m_shut m_here i_steps i_done j_at_7 j_gone_8 m_was m_came m_seenAt m_rowWorth m_farBy m_used xeverywhere xagain0 i_d0 i_never i_firstCame i_longRun i_moved i_crowd i_l0 i_fitMany i_fitLeast i_fitMost m_fitPost m_fitEnd m_keptPosts i_x0], [zAr T 0 m_was 7 g_was_10]]) [3, 4, 5, 0, 1, 2, 6] rfl
                exact ih_61 j_at_7 (met ||| (1 <<< (j_at_7 &&& 31))) j_at_7 j_gone_8 xeverywhere xagain0 g_posts_9 g_was_10 (upd xused fr.toNatClampNeg ((xused fr.toNatClampNeg) ||| (1 <<< ((g_posts_9 fr.toNatClampNeg) &&& 31)))) (show zMP g_posts_9 ∧ 0 ≤ j_at_7.toInt ∧ j_at_7.toInt ≤ 6 ∧ 0 ≤ j_at_7.toInt ∧ j_at_7.toInt ≤ 6 ∧ 0 ≤ j_gone_8.toInt ∧ j_gone_8.toInt ≤ 499 from ⟨(by first | with_reducible assumption | assumption), by omega, by omega, by omega, by omega, by omega, by omega⟩) (show (499 - j_gone_8.toInt).toNat < (499 - xgone.toInt).toNat from by omega) _ _ ls G (lv_sub hl [0, 1, 2, 3, 4] rfl)
              · have c_24n : xagain0.toInt = (-1 : Int) := (fa_eq _ _).mp c_24
                refine lv_aload_n hx hb dX12_walksFar_135 rfl (lv_at hl 3 rfl) ?_
                refine z_get C G clX12 2 rfl 19 (by decide) m_fl_RX12_202 rfl dX12_walksFar_136 ?_
                refine lv_iload_n hx hb dX12_walksFar_139 rfl (lv_at hl 4 rfl) ?_
                refine lv_icmp_ne (tgt := 151) hx hb dX12_walksFar_140 (by decide) (fun c_25 => ?_) (fun c_25 => ?_)
                · have c_25n : ¬ j_at_7.toInt = c_.toInt := fun q => c_25 ((fa_eq _ _).mpr q)
                  refine lv_aload_n hx hb dX12_walksFar_151 rfl (lv_at hl 3 rfl) ?_
                  refine z_get C G clX12 2 rfl 19 (by decide) m_fl_RX12_202 rfl dX12_walksFar_152 ?_
                  refine lv_istore (lv' := [(4, .int j_at_7), (3, .int (met ||| (1 <<< (j_at_7 &&& 31)))), (2, .int r_1), (0, .ref mo), (1, .int c_)]) hx hb dX12_walksFar_155 hl (by decide) (zLvf_h rfl) (fun ls hl => ?_)
                  refine lv_goto (tgt := 61) hx hb dX12_walksFar_157 (by decide) ?_
                  have G := G.sub (bs' := [[zAr T 0 m_all 3952 f_all], [zAr T 0 m_posts 7 g_posts_9], [zAr T 0 m_shut 7 f_shut], [zAr T 0 m_used 7 (upd xused fr.toNatClampNeg ((xused fr.toNatClampNeg) ||| (1 <<< ((g_posts_9 fr.toNatClampNeg) &&& 31))))], [zAr T 0 m_farBy 49 f_farBy], [zO11 mo m_all m_has i_size i_next i_where i_token i_number i_word i_wrong i_farCrossing m_read i_z0 i_crossings i_inns m_posts m_shut m_here i_steps i_done j_at_7 j_gone_8 m_was m_came m_seenAt m_rowWorth m_farBy m_used xeverywhere xagain0 i_d0 i_never i_firstCame i_longRun i_moved i_crowd i_l0 i_fitMany i_fitLeast i_fitMost m_fitPost m_fitEnd m_keptPosts i_x0], [zAr T 0 m_was 7 g_was_10]]) [3, 4, 5, 0, 1, 2, 6] rfl
                  exact ih_61 j_at_7 (met ||| (1 <<< (j_at_7 &&& 31))) j_at_7 j_gone_8 xeverywhere xagain0 g_posts_9 g_was_10 (upd xused fr.toNatClampNeg ((xused fr.toNatClampNeg) ||| (1 <<< ((g_posts_9 fr.toNatClampNeg) &&& 31)))) (show zMP g_posts_9 ∧ 0 ≤ j_at_7.toInt ∧ j_at_7.toInt ≤ 6 ∧ 0 ≤ j_at_7.toInt ∧ j_at_7.toInt ≤ 6 ∧ 0 ≤ j_gone_8.toInt ∧ j_gone_8.toInt ≤ 499 from ⟨(by first | with_reducible assumption | assumption), by omega, by omega, by omega, by omega, by omega, by omega⟩) (show (499 - j_gone_8.toInt).toNat < (499 - xgone.toInt).toNat from by omega) _ _ ls G (lv_sub hl [0, 1, 2, 3, 4] rfl)
                · have c_25n : j_at_7.toInt = c_.toInt := (fa_eq _ _).mp c_25
                  refine lv_aload_n hx hb dX12_walksFar_143 rfl (lv_at hl 3 rfl) ?_
                  refine lv_aload_n hx hb dX12_walksFar_144 rfl (lv_at hl 3 rfl) ?_
                  refine z_get C G clX12 2 rfl 20 (by decide) m_fl_RX12_208 rfl dX12_walksFar_145 ?_
                  refine z_put C G clX12 2 rfl 28 (by decide) m_fl_RX12_287 rfl rfl rfl (Nat.le_of_ble_eq_true rfl) dX12_walksFar_148 (fun H locs G => ?_)
                  have G : zS T A s.heap s [[zAr T 0 m_used 7 (upd xused fr.toNatClampNeg ((xused fr.toNatClampNeg) ||| (1 <<< ((g_posts_9 fr.toNatClampNeg) &&& 31))))], [zAr T 0 m_farBy 49 f_farBy], [zO11 mo m_all m_has i_size i_next i_where i_token i_number i_word i_wrong i_farCrossing m_read i_z0 i_crossings i_inns m_posts m_shut m_here i_steps i_done j_at_7 j_gone_8 m_was m_came m_seenAt m_rowWorth m_farBy m_used xeverywhere j_gone_8 i_d0 i_never i_firstCame i_longRun i_moved i_crowd i_l0 i_fitMany i_fitLeast i_fitMost m_fitPost m_fitEnd m_keptPosts i_x0], [zAr T 0 m_all 3952 f_all], [zAr T 0 m_posts 7 g_posts_9], [zAr T 0 m_shut 7 f_shut], [zAr T 0 m_was 7 g_was_10]] _ _ := G
                  refine lv_aload_n hx hb dX12_walksFar_151 rfl (lv_at hl 3 rfl) ?_
                  refine z_get C G clX12 2 rfl 19 (by decide) m_fl_RX12_202 rfl dX12_walksFar_152 ?_
                  refine lv_istore (lv' := [(4, .int j_at_7), (3, .int (met ||| (1 <<< (j_at_7 &&& 31)))), (2, .int r_1), (0, .ref mo), (1, .int c_)]) hx hb dX12_walksFar_155 hl (by decide) (zLvf_h rfl) (fun ls hl => ?_)
                  refine lv_goto (tgt := 61) hx hb dX12_walksFar_157 (by decide) ?_
                  have G := G.sub (bs' := [[zAr T 0 m_all 3952 f_all], [zAr T 0 m_posts 7 g_posts_9], [zAr T 0 m_shut 7 f_shut], [zAr T 0 m_used 7 (upd xused fr.toNatClampNeg ((xused fr.toNatClampNeg) ||| (1 <<< ((g_posts_9 fr.toNatClampNeg) &&& 31))))], [zAr T 0 m_farBy 49 f_farBy], [zO11 mo m_all m_has i_size i_next i_where i_token i_number i_word i_wrong i_farCrossing m_read i_z0 i_crossings i_inns m_posts m_shut m_here i_steps i_done j_at_7 j_gone_8 m_was m_came m_seenAt m_rowWorth m_farBy m_used xeverywhere j_gone_8 i_d0 i_never i_firstCame i_longRun i_moved i_crowd i_l0 i_fitMany i_fitLeast i_fitMost m_fitPost m_fitEnd m_keptPosts i_x0], [zAr T 0 m_was 7 g_was_10]]) [3, 4, 5, 0, 1, 2, 6] rfl
                  exact ih_61 j_at_7 (met ||| (1 <<< (j_at_7 &&& 31))) j_at_7 j_gone_8 xeverywhere j_gone_8 g_posts_9 g_was_10 (upd xused fr.toNatClampNeg ((xused fr.toNatClampNeg) ||| (1 <<< ((g_posts_9 fr.toNatClampNeg) &&& 31)))) (show zMP g_posts_9 ∧ 0 ≤ j_at_7.toInt ∧ j_at_7.toInt ≤ 6 ∧ 0 ≤ j_at_7.toInt ∧ j_at_7.toInt ≤ 6 ∧ 0 ≤ j_gone_8.toInt ∧ j_gone_8.toInt ≤ 499 from ⟨(by first | with_reducible assumption | assumption), by omega, by omega, by omega, by omega, by omega, by omega⟩) (show (499 - j_gone_8.toInt).toNat < (499 - xgone.toInt).toNat from by omega) _ _ ls G (lv_sub hl [0, 1, 2, 3, 4] rfl)
            · have c_23n : (met ||| (1 <<< (j_at_7 &&& 31))).toInt = r_1.toInt := (fa_eq _ _).mp c_23
              refine lv_aload_n hx hb dX12_walksFar_119 rfl (lv_at hl 3 rfl) ?_
              refine lv_aload_n hx hb dX12_walksFar_120 rfl (lv_at hl 3 rfl) ?_
              refine z_get C G clX12 2 rfl 20 (by decide) m_fl_RX12_208 rfl dX12_walksFar_121 ?_
              refine z_put C G clX12 2 rfl 27 (by decide) m_fl_RX12_284 rfl rfl rfl (Nat.le_of_ble_eq_true rfl) dX12_walksFar_124 (fun H locs G => ?_)
              have G : zS T A s.heap s [[zAr T 0 m_used 7 (upd xused fr.toNatClampNeg ((xused fr.toNatClampNeg) ||| (1 <<< ((g_posts_9 fr.toNatClampNeg) &&& 31))))], [zAr T 0 m_farBy 49 f_farBy], [zO11 mo m_all m_has i_size i_next i_where i_token i_number i_word i_wrong i_farCrossing m_read i_z0 i_crossings i_inns m_posts m_shut m_here i_steps i_done j_at_7 j_gone_8 m_was m_came m_seenAt m_rowWorth m_farBy m_used j_gone_8 xagain0 i_d0 i_never i_firstCame i_longRun i_moved i_crowd i_l0 i_fitMany i_fitLeast i_fitMost m_fitPost m_fitEnd m_keptPosts i_x0], [zAr T 0 m_all 3952 f_all], [zAr T 0 m_posts 7 g_posts_9], [zAr T 0 m_shut 7 f_shut], [zAr T 0 m_was 7 g_was_10]] _ _ := G
              refine lv_aload_n hx hb dX12_walksFar_127 rfl (lv_at hl 3 rfl) ?_
              refine z_get C G clX12 2 rfl 28 (by decide) m_fl_RX12_287 rfl dX12_walksFar_128 ?_
              refine lv_iconst (v := (-1)) hx hb dX12_walksFar_131 (by decide) ?_
              refine lv_icmp_ne (tgt := 151) hx hb dX12_walksFar_132 (by decide) (fun c_26 => ?_) (fun c_26 => ?_)
              · have c_26n : ¬ xagain0.toInt = (-1 : Int) := fun q => c_26 ((fa_eq _ _).mpr q)
                refine lv_aload_n hx hb dX12_walksFar_151 rfl (lv_at hl 3 rfl) ?_
                refine z_get C G clX12 2 rfl 19 (by decide) m_fl_RX12_202 rfl dX12_walksFar_152 ?_
                refine lv_istore (lv' := [(4, .int j_at_7), (3, .int (met ||| (1 <<< (j_at_7 &&& 31)))), (2, .int r_1), (0, .ref mo), (1, .int c_)]) hx hb dX12_walksFar_155 hl (by decide) (zLvf_h rfl) (fun ls hl => ?_)
                refine lv_goto (tgt := 61) hx hb dX12_walksFar_157 (by decide) ?_
                have G := G.sub (bs' := [[zAr T 0 m_all 3952 f_all], [zAr T 0 m_posts 7 g_posts_9], [zAr T 0 m_shut 7 f_shut], [zAr T 0 m_used 7 (upd xused fr.toNatClampNeg ((xused fr.toNatClampNeg) ||| (1 <<< ((g_posts_9 fr.toNatClampNeg) &&& 31))))], [zAr T 0 m_farBy 49 f_farBy], [zO11 mo m_all m_has i_size i_next i_where i_token i_number i_word i_wrong i_farCrossing m_read i_z0 i_crossings i_inns m_posts m_shut m_here i_steps i_done j_at_7 j_gone_8 m_was m_came m_seenAt m_rowWorth m_farBy m_used j_gone_8 xagain0 i_d0 i_never i_firstCame i_longRun i_moved i_crowd i_l0 i_fitMany i_fitLeast i_fitMost m_fitPost m_fitEnd m_keptPosts i_x0], [zAr T 0 m_was 7 g_was_10]]) [3, 4, 5, 0, 1, 2, 6] rfl
                exact ih_61 j_at_7 (met ||| (1 <<< (j_at_7 &&& 31))) j_at_7 j_gone_8 j_gone_8 xagain0 g_posts_9 g_was_10 (upd xused fr.toNatClampNeg ((xused fr.toNatClampNeg) ||| (1 <<< ((g_posts_9 fr.toNatClampNeg) &&& 31)))) (show zMP g_posts_9 ∧ 0 ≤ j_at_7.toInt ∧ j_at_7.toInt ≤ 6 ∧ 0 ≤ j_at_7.toInt ∧ j_at_7.toInt ≤ 6 ∧ 0 ≤ j_gone_8.toInt ∧ j_gone_8.toInt ≤ 499 from ⟨(by first | with_reducible assumption | assumption), by omega, by omega, by omega, by omega, by omega, by omega⟩) (show (499 - j_gone_8.toInt).toNat < (499 - xgone.toInt).toNat from by omega) _ _ ls G (lv_sub hl [0, 1, 2, 3, 4] rfl)
              · have c_26n : xagain0.toInt = (-1 : Int) := (fa_eq _ _).mp c_26
                refine lv_aload_n hx hb dX12_walksFar_135 rfl (lv_at hl 3 rfl) ?_
                refine z_get C G clX12 2 rfl 19 (by decide) m_fl_RX12_202 rfl dX12_walksFar_136 ?_
                refine lv_iload_n hx hb dX12_walksFar_139 rfl (lv_at hl 4 rfl) ?_
                refine lv_icmp_ne (tgt := 151) hx hb dX12_walksFar_140 (by decide) (fun c_27 => ?_) (fun c_27 => ?_)
                · have c_27n : ¬ j_at_7.toInt = c_.toInt := fun q => c_27 ((fa_eq _ _).mpr q)
                  refine lv_aload_n hx hb dX12_walksFar_151 rfl (lv_at hl 3 rfl) ?_
                  refine z_get C G clX12 2 rfl 19 (by decide) m_fl_RX12_202 rfl dX12_walksFar_152 ?_
                  refine lv_istore (lv' := [(4, .int j_at_7), (3, .int (met ||| (1 <<< (j_at_7 &&& 31)))), (2, .int r_1), (0, .ref mo), (1, .int c_)]) hx hb dX12_walksFar_155 hl (by decide) (zLvf_h rfl) (fun ls hl => ?_)
                  refine lv_goto (tgt := 61) hx hb dX12_walksFar_157 (by decide) ?_
                  have G := G.sub (bs' := [[zAr T 0 m_all 3952 f_all], [zAr T 0 m_posts 7 g_posts_9], [zAr T 0 m_shut 7 f_shut], [zAr T 0 m_used 7 (upd xused fr.toNatClampNeg ((xused fr.toNatClampNeg) ||| (1 <<< ((g_posts_9 fr.toNatClampNeg) &&& 31))))], [zAr T 0 m_farBy 49 f_farBy], [zO11 mo m_all m_has i_size i_next i_where i_token i_number i_word i_wrong i_farCrossing m_read i_z0 i_crossings i_inns m_posts m_shut m_here i_steps i_done j_at_7 j_gone_8 m_was m_came m_seenAt m_rowWorth m_farBy m_used j_gone_8 xagain0 i_d0 i_never i_firstCame i_longRun i_moved i_crowd i_l0 i_fitMany i_fitLeast i_fitMost m_fitPost m_fitEnd m_keptPosts i_x0], [zAr T 0 m_was 7 g_was_10]]) [3, 4, 5, 0, 1, 2, 6] rfl
                  exact ih_61 j_at_7 (met ||| (1 <<< (j_at_7 &&& 31))) j_at_7 j_gone_8 j_gone_8 xagain0 g_posts_9 g_was_10 (upd xused fr.toNatClampNeg ((xused fr.toNatClampNeg) ||| (1 <<< ((g_posts_9 fr.toNatClampNeg) &&& 31)))) (show zMP g_posts_9 ∧ 0 ≤ j_at_7.toInt ∧ j_at_7.toInt ≤ 6 ∧ 0 ≤ j_at_7.toInt ∧ j_at_7.toInt ≤ 6 ∧ 0 ≤ j_gone_8.toInt ∧ j_gone_8.toInt ≤ 499 from ⟨(by first | with_reducible assumption | assumption), by omega, by omega, by omega, by omega, by omega, by omega⟩) (show (499 - j_gone_8.toInt).toNat < (499 - xgone.toInt).toNat from by omega) _ _ ls G (lv_sub hl [0, 1, 2, 3, 4] rfl)
                · have c_27n : j_at_7.toInt = c_.toInt := (fa_eq _ _).mp c_27
                  refine lv_aload_n hx hb dX12_walksFar_143 rfl (lv_at hl 3 rfl) ?_
                  refine lv_aload_n hx hb dX12_walksFar_144 rfl (lv_at hl 3 rfl) ?_
                  refine z_get C G clX12 2 rfl 20 (by decide) m_fl_RX12_208 rfl dX12_walksFar_145 ?_
                  refine z_put C G clX12 2 rfl 28 (by decide) m_fl_RX12_287 rfl rfl rfl (Nat.le_of_ble_eq_true rfl) dX12_walksFar_148 (fun H locs G => ?_)
                  have G : zS T A s.heap s [[zAr T 0 m_used 7 (upd xused fr.toNatClampNeg ((xused fr.toNatClampNeg) ||| (1 <<< ((g_posts_9 fr.toNatClampNeg) &&& 31))))], [zAr T 0 m_farBy 49 f_farBy], [zO11 mo m_all m_has i_size i_next i_where i_token i_number i_word i_wrong i_farCrossing m_read i_z0 i_crossings i_inns m_posts m_shut m_here i_steps i_done j_at_7 j_gone_8 m_was m_came m_seenAt m_rowWorth m_farBy m_used j_gone_8 j_gone_8 i_d0 i_never i_firstCame i_longRun i_moved i_crowd i_l0 i_fitMany i_fitLeast i_fitMost m_fitPost m_fitEnd m_keptPosts i_x0], [zAr T 0 m_all 3952 f_all], [zAr T 0 m_posts 7 g_posts_9], [zAr T 0 m_shut 7 f_shut], [zAr T 0 m_was 7 g_was_10]] _ _ := G
                  refine lv_aload_n hx hb dX12_walksFar_151 rfl (lv_at hl 3 rfl) ?_
                  refine z_get C G clX12 2 rfl 19 (by decide) m_fl_RX12_202 rfl dX12_walksFar_152 ?_
                  refine lv_istore (lv' := [(4, .int j_at_7), (3, .int (met ||| (1 <<< (j_at_7 &&& 31)))), (2, .int r_1), (0, .ref mo), (1, .int c_)]) hx hb dX12_walksFar_155 hl (by decide) (zLvf_h rfl) (fun ls hl => ?_)
                  refine lv_goto (tgt := 61) hx hb dX12_walksFar_157 (by decide) ?_
                  have G := G.sub (bs' := [[zAr T 0 m_all 3952 f_all], [zAr T 0 m_posts 7 g_posts_9], [zAr T 0 m_shut 7 f_shut], [zAr T 0 m_used 7 (upd xused fr.toNatClampNeg ((xused fr.toNatClampNeg) ||| (1 <<< ((g_posts_9 fr.toNatClampNeg) &&& 31))))], [zAr T 0 m_farBy 49 f_farBy], [zO11 mo m_all m_has i_size i_next i_where i_token i_number i_word i_wrong i_farCrossing m_read i_z0 i_crossings i_inns m_posts m_shut m_here i_steps i_done j_at_7 j_gone_8 m_was m_came m_seenAt m_rowWorth m_farBy m_used j_gone_8 j_gone_8 i_d0 i_never i_firstCame i_longRun i_moved i_crowd i_l0 i_fitMany i_fitLeast i_fitMost m_fitPost m_fitEnd m_keptPosts i_x0], [zAr T 0 m_was 7 g_was_10]]) [3, 4, 5, 0, 1, 2, 6] rfl
                  exact ih_61 j_at_7 (met ||| (1 <<< (j_at_7 &&& 31))) j_at_7 j_gone_8 j_gone_8 j_gone_8 g_posts_9 g_was_10 (upd xused fr.toNatClampNeg ((xused fr.toNatClampNeg) ||| (1 <<< ((g_posts_9 fr.toNatClampNeg) &&& 31)))) (show zMP g_posts_9 ∧ 0 ≤ j_at_7.toInt ∧ j_at_7.toInt ≤ 6 ∧ 0 ≤ j_at_7.toInt ∧ j_at_7.toInt ≤ 6 ∧ 0 ≤ j_gone_8.toInt ∧ j_gone_8.toInt ≤ 499 from ⟨(by first | with_reducible assumption | assumption), by omega, by omega, by omega, by omega, by omega, by omega⟩) (show (499 - j_gone_8.toInt).toNat < (499 - xgone.toInt).toNat from by omega) _ _ ls G (lv_sub hl [0, 1, 2, 3, 4] rfl)
        · have h_17 : j_gone_8.toInt = xgone.toInt := h_17
          refine lv_if_eq (tgt := 160) hx hb dX12_walksFar_75 (by decide) (fun _ => ?_) (fun q => absurd (by decide) q)
          have G := G.sub (bs' := [[zO11 mo m_all m_has i_size i_next i_where i_token i_number i_word i_wrong i_farCrossing m_read i_z0 i_crossings i_inns m_posts m_shut m_here i_steps i_done j_at_7 j_gone_8 m_was m_came m_seenAt m_rowWorth m_farBy m_used xeverywhere xagain0 i_d0 i_never i_firstCame i_longRun i_moved i_crowd i_l0 i_fitMany i_fitLeast i_fitMost m_fitPost m_fitEnd m_keptPosts i_x0], [zAr T 0 m_all 3952 f_all], [zAr T 0 m_posts 7 g_posts_9], [zAr T 0 m_shut 7 f_shut], [zAr T 0 m_was 7 g_was_10], [zAr T 0 m_farBy 49 f_farBy], [zAr T 0 m_used 7 xused]]) [2, 3, 4, 5, 6, 1, 0] rfl
          exact z_back hQz_ (z_vret C hr hlocks G (Nat.le_of_ble_eq_true rfl) (Nat.le_of_ble_eq_true rfl) dX12_walksFar_160 ⟨j_at_7, j_gone_8, xeverywhere, xagain0, g_posts_9, g_was_10, xused, rfl, (by first | with_reducible assumption | omega | trivial | assumption), (by first | with_reducible assumption | omega | trivial | assumption), (by first | with_reducible assumption | omega | trivial | assumption), (by first | with_reducible assumption | omega | trivial | assumption), (by first | with_reducible assumption | omega | trivial | assumption)⟩)
    · have c_3n : (1 <<< (c_ &&& 31)).toInt = r_1.toInt := (fa_eq _ _).mp c_3
      refine lv_iconst (v := 0) hx hb dX12_walksFar_40 (by decide) ?_
      refine lv_goto (tgt := 45) hx hb dX12_walksFar_41 (by decide) ?_
      refine z_put C G clX12 5 rfl 27 (by decide) m_fl_RX12_284 rfl rfl rfl (Nat.le_of_ble_eq_true rfl) dX12_walksFar_45 (fun H locs G => ?_)
      have G : zS T A s.heap s [[zAr T 0 m_all 3952 f_all], [zAr T 0 m_posts 7 f_posts], [zAr T 0 m_shut 7 f_shut], [zAr T 0 m_was 7 f_was], [zAr T 0 m_used 7 xused], [zO11 mo m_all m_has i_size i_next i_where i_token i_number i_word i_wrong i_farCrossing m_read i_z0 i_crossings i_inns m_posts m_shut m_here i_steps i_done i_at i_gone m_was m_came m_seenAt m_rowWorth m_farBy m_used 0 i_again0 i_d0 i_never i_firstCame i_longRun i_moved i_crowd i_l0 i_fitMany i_fitLeast i_fitMost m_fitPost m_fitEnd m_keptPosts i_x0], [zAr T 0 m_farBy 49 f_farBy]] _ _ := G
      refine lv_aload_n hx hb dX12_walksFar_48 rfl (lv_at hl 3 rfl) ?_
      refine lv_iconst (v := (-1)) hx hb dX12_walksFar_49 (by decide) ?_
      refine z_put C G clX12 5 rfl 28 (by decide) m_fl_RX12_287 rfl rfl rfl (Nat.le_of_ble_eq_true rfl) dX12_walksFar_50 (fun H locs G => ?_)
      have G : zS T A s.heap s [[zAr T 0 m_all 3952 f_all], [zAr T 0 m_posts 7 f_posts], [zAr T 0 m_shut 7 f_shut], [zAr T 0 m_was 7 f_was], [zAr T 0 m_used 7 xused], [zO11 mo m_all m_has i_size i_next i_where i_token i_number i_word i_wrong i_farCrossing m_read i_z0 i_crossings i_inns m_posts m_shut m_here i_steps i_done i_at i_gone m_was m_came m_seenAt m_rowWorth m_farBy m_used 0 (-1) i_d0 i_never i_firstCame i_longRun i_moved i_crowd i_l0 i_fitMany i_fitLeast i_fitMost m_fitPost m_fitEnd m_keptPosts i_x0], [zAr T 0 m_farBy 49 f_farBy]] _ _ := G
      refine lv_aload_n hx hb dX12_walksFar_53 rfl (lv_at hl 3 rfl) ?_
      refine lv_iload_n hx hb dX12_walksFar_54 rfl (lv_at hl 4 rfl) ?_
      refine z_Vv (bc := [[zO11 mo m_all m_has i_size i_next i_where i_token i_number i_word i_wrong i_farCrossing m_read i_z0 i_crossings i_inns m_posts m_shut m_here i_steps i_done i_at i_gone m_was m_came m_seenAt m_rowWorth m_farBy m_used 0 (-1) i_d0 i_never i_firstCame i_longRun i_moved i_crowd i_l0 i_fitMany i_fitLeast i_fitMost m_fitPost m_fitEnd m_keptPosts i_x0], [zAr T 0 m_was 7 f_was]]) (br := [[zAr T 0 m_all 3952 f_all], [zAr T 0 m_posts 7 f_posts], [zAr T 0 m_shut 7 f_shut], [zAr T 0 m_used 7 xused], [zAr T 0 m_farBy 49 f_farBy]]) (As := [.int c_]) (rest := []) C G (c_m_puts l T mo m_all m_has i_size i_next i_where i_token i_number i_word i_wrong i_farCrossing m_read i_z0 i_crossings i_inns m_posts m_shut m_here i_steps i_done i_at i_gone m_was m_came m_seenAt m_rowWorth m_farBy m_used 0 (-1) i_d0 i_never i_firstCame i_longRun i_moved i_crowd i_l0 i_fitMany i_fitLeast i_fitMost m_fitPost m_fitEnd m_keptPosts i_x0 f_was c_) (kV_RX12_211 C.2.2.2.2 (Nat.le_of_ble_eq_true rfl) (Nat.le_of_ble_eq_true rfl)) [5, 3] [3, 1] rfl rfl (ci := 11) (qc := (RX12, TX12, 43)) rfl rfl (List.mem_flatten.mpr ⟨_, List.mem_of_getElem? (i := 0) rfl, List.mem_cons_self⟩) rfl rfl hl.1 dX12_walksFar_55 (Nat.le_of_ble_eq_true rfl) (Nat.le_of_ble_eq_true rfl) (fun b1 H locs hw G => ?_)
      refine zEx1 hw ?_
      intro g_was_28 hbs9
      clear hw
      subst hbs9
      have G : zS T A s.heap s [[zAr T 0 m_all 3952 f_all], [zAr T 0 m_posts 7 f_posts], [zAr T 0 m_shut 7 f_shut], [zAr T 0 m_used 7 xused], [zAr T 0 m_farBy 49 f_farBy], [zO11 mo m_all m_has i_size i_next i_where i_token i_number i_word i_wrong i_farCrossing m_read i_z0 i_crossings i_inns m_posts m_shut m_here i_steps i_done c_ 0 m_was m_came m_seenAt m_rowWorth m_farBy m_used 0 (-1) i_d0 i_never i_firstCame i_longRun i_moved i_crowd i_l0 i_fitMany i_fitLeast i_fitMost m_fitPost m_fitEnd m_keptPosts i_x0], [zAr T 0 m_was 7 g_was_28]] _ _ := G
      refine lv_iload_n hx hb dX12_walksFar_58 rfl (lv_at hl 4 rfl) ?_
      refine lv_istore (lv' := [(4, .int c_), (3, .int (1 <<< (c_ &&& 31))), (2, .int r_1), (0, .ref mo), (1, .int c_)]) hx hb dX12_walksFar_59 hl (by decide) (zLvf_h rfl) (fun ls hl => ?_)
      refine z_lp9 (T := T) 61 (fun (fr : Int32) (met : Int32) (xat : Int32) (xgone : Int32) (xeverywhere : Int32) (xagain0 : Int32) (xposts : Nat → Int32) (xwas : Nat → Int32) (xused : Nat → Int32) => [[zAr T 0 m_all 3952 f_all], [zAr T 0 m_posts 7 xposts], [zAr T 0 m_shut 7 f_shut], [zAr T 0 m_used 7 xused], [zAr T 0 m_farBy 49 f_farBy], [zO11 mo m_all m_has i_size i_next i_where i_token i_number i_word i_wrong i_farCrossing m_read i_z0 i_crossings i_inns m_posts m_shut m_here i_steps i_done xat xgone m_was m_came m_seenAt m_rowWorth m_farBy m_used xeverywhere xagain0 i_d0 i_never i_firstCame i_longRun i_moved i_crowd i_l0 i_fitMany i_fitLeast i_fitMost m_fitPost m_fitEnd m_keptPosts i_x0], [zAr T 0 m_was 7 xwas]]) (fun (fr : Int32) (met : Int32) (xat : Int32) (xgone : Int32) (xeverywhere : Int32) (xagain0 : Int32) (xposts : Nat → Int32) (xwas : Nat → Int32) (xused : Nat → Int32) => [(4, .int fr), (3, .int met), (2, .int r_1), (0, .ref mo), (1, .int c_)]) (fun (fr : Int32) (met : Int32) (xat : Int32) (xgone : Int32) (xeverywhere : Int32) (xagain0 : Int32) (xposts : Nat → Int32) (xwas : Nat → Int32) (xused : Nat → Int32) => zMP xposts ∧ 0 ≤ fr.toInt ∧ fr.toInt ≤ 6 ∧ 0 ≤ xat.toInt ∧ xat.toInt ≤ 6 ∧ 0 ≤ xgone.toInt ∧ xgone.toInt ≤ 499) (fun (fr : Int32) (met : Int32) (xat : Int32) (xgone : Int32) (xeverywhere : Int32) (xagain0 : Int32) (xposts : Nat → Int32) (xwas : Nat → Int32) (xused : Nat → Int32) => (499 - xgone.toInt).toNat) ?_ c_ (1 <<< (c_ &&& 31)) c_ 0 0 (-1) f_posts g_was_28 xused (show zMP f_posts ∧ 0 ≤ c_.toInt ∧ c_.toInt ≤ 6 ∧ 0 ≤ c_.toInt ∧ c_.toInt ≤ 6 ∧ 0 ≤ (0 : Int32).toInt ∧ (0 : Int32).toInt ≤ 499 from ⟨(by first | with_reducible assumption | assumption), by omega, by omega, by omega, by omega, by decide, by decide⟩) G (lv_sub hl [0, 1, 2, 3, 4] rfl)
      intro fr met xat xgone xeverywhere xagain0 xposts xwas xused hI9 ih_61 H locs ls G hl
      replace hI9 : zMP xposts ∧ 0 ≤ fr.toInt ∧ fr.toInt ≤ 6 ∧ 0 ≤ xat.toInt ∧ xat.toInt ≤ 6 ∧ 0 ≤ xgone.toInt ∧ xgone.toInt ≤ 499 := hI9
      refine zAn7 hI9 ?_
      intro hQ hfr0 hfr6 hat0 hat6 hgo0 hgo9
      clear hI9
      replace G : zS T A s.heap s [[zAr T 0 m_all 3952 f_all], [zAr T 0 m_posts 7 xposts], [zAr T 0 m_shut 7 f_shut], [zAr T 0 m_used 7 xused], [zAr T 0 m_farBy 49 f_farBy], [zO11 mo m_all m_has i_size i_next i_where i_token i_number i_word i_wrong i_farCrossing m_read i_z0 i_crossings i_inns m_posts m_shut m_here i_steps i_done xat xgone m_was m_came m_seenAt m_rowWorth m_farBy m_used xeverywhere xagain0 i_d0 i_never i_firstCame i_longRun i_moved i_crowd i_l0 i_fitMany i_fitLeast i_fitMost m_fitPost m_fitEnd m_keptPosts i_x0], [zAr T 0 m_was 7 xwas]] _ _ := G
      replace hl : lv_has ls 5 [(4, .int fr), (3, .int met), (2, .int r_1), (0, .ref mo), (1, .int c_)] := hl
      refine lv_aload_n hx hb dX12_walksFar_61 rfl (lv_at hl 3 rfl) ?_
      refine z_get C G clX12 5 rfl 20 (by decide) m_fl_RX12_208 rfl dX12_walksFar_62 ?_
      refine lv_sipush (v := 499) hx hb dX12_walksFar_65 (by decide) ?_
      refine lv_icmp_ge (tgt := 160) hx hb dX12_walksFar_68 (by decide) (fun c_30 => ?_) (fun c_30 => ?_)
      · have c_30n : (499 : Int) ≤ xgone.toInt := (fa_le _ _).mp c_30
        have G := G.sub (bs' := [[zO11 mo m_all m_has i_size i_next i_where i_token i_number i_word i_wrong i_farCrossing m_read i_z0 i_crossings i_inns m_posts m_shut m_here i_steps i_done xat xgone m_was m_came m_seenAt m_rowWorth m_farBy m_used xeverywhere xagain0 i_d0 i_never i_firstCame i_longRun i_moved i_crowd i_l0 i_fitMany i_fitLeast i_fitMost m_fitPost m_fitEnd m_keptPosts i_x0], [zAr T 0 m_all 3952 f_all], [zAr T 0 m_posts 7 xposts], [zAr T 0 m_shut 7 f_shut], [zAr T 0 m_was 7 xwas], [zAr T 0 m_farBy 49 f_farBy], [zAr T 0 m_used 7 xused]]) [5, 0, 1, 2, 6, 4, 3] rfl
        exact z_back hQz_ (z_vret C hr hlocks G (Nat.le_of_ble_eq_true rfl) (Nat.le_of_ble_eq_true rfl) dX12_walksFar_160 ⟨xat, xgone, xeverywhere, xagain0, xposts, xwas, xused, rfl, (by first | with_reducible assumption | omega | trivial | assumption), (by first | with_reducible assumption | omega | trivial | assumption), (by first | with_reducible assumption | omega | trivial | assumption), (by first | with_reducible assumption | omega | trivial | assumption), (by first | with_reducible assumption | omega | trivial | assumption)⟩)
      · have c_30n : ¬ (499 : Int) ≤ xgone.toInt := fun q => c_30 ((fa_le _ _).mpr q)
        refine lv_aload_n hx hb dX12_walksFar_71 rfl (lv_at hl 3 rfl) ?_
        refine z_Vi (bc := [[zO11 mo m_all m_has i_size i_next i_where i_token i_number i_word i_wrong i_farCrossing m_read i_z0 i_crossings i_inns m_posts m_shut m_here i_steps i_done xat xgone m_was m_came m_seenAt m_rowWorth m_farBy m_used xeverywhere xagain0 i_d0 i_never i_firstCame i_longRun i_moved i_crowd i_l0 i_fitMany i_fitLeast i_fitMost m_fitPost m_fitEnd m_keptPosts i_x0], [zAr T 0 m_all 3952 f_all], [zAr T 0 m_posts 7 xposts], [zAr T 0 m_shut 7 f_shut], [zAr T 0 m_was 7 xwas]]) (br := [[zAr T 0 m_used 7 xused], [zAr T 0 m_farBy 49 f_farBy]]) (As := []) (rest := []) C G (c_m_stepsOn l T mo m_all m_has i_size i_next i_where i_token i_number i_word i_wrong i_farCrossing m_read i_z0 i_crossings i_inns m_posts m_shut m_here i_steps i_done xat xgone m_was m_came m_seenAt m_rowWorth m_farBy m_used xeverywhere xagain0 i_d0 i_never i_firstCame i_longRun i_moved i_crowd i_l0 i_fitMany i_fitLeast i_fitMost m_fitPost m_fitEnd m_keptPosts i_x0 f_all xposts f_shut xwas (by first | with_reducible assumption | with_reducible rfl | omega | assumption | rfl | decide) (by first | with_reducible assumption | with_reducible rfl | omega | assumption | rfl | decide) (by first | with_reducible assumption | with_reducible rfl | omega | assumption | rfl | decide) (by first | with_reducible assumption | with_reducible rfl | omega | assumption | rfl | decide) (by first | with_reducible assumption | with_reducible rfl | omega | assumption | rfl | decide) (by first | with_reducible assumption | with_reducible rfl | omega | assumption | rfl | decide)) (kV_RX12_214 C.2.2.2.2 (Nat.le_of_ble_eq_true rfl) (Nat.le_of_ble_eq_true rfl)) [5, 0, 1, 2, 6] [0, 0, 0, 2, 0] rfl rfl (ci := 11) (qc := (RX12, TX12, 43)) rfl rfl (List.mem_flatten.mpr ⟨_, List.mem_of_getElem? (i := 0) rfl, List.mem_cons_self⟩) rfl rfl hl.1 dX12_walksFar_72 (Nat.le_of_ble_eq_true rfl) (Nat.le_of_ble_eq_true rfl) (fun r_39 b1 H locs hw G => ?_)
        refine zEx4 hw ?_
        intro j_at_31 j_gone_32 g_posts_33 g_was_34
        refine zCu5 ?_
        intro hbs9 h_35 h_36 h_37 hc_38
        clear hw
        subst hbs9
        have G : zS T A s.heap s [[zAr T 0 m_used 7 xused], [zAr T 0 m_farBy 49 f_farBy], [zO11 mo m_all m_has i_size i_next i_where i_token i_number i_word i_wrong i_farCrossing m_read i_z0 i_crossings i_inns m_posts m_shut m_here i_steps i_done j_at_31 j_gone_32 m_was m_came m_seenAt m_rowWorth m_farBy m_used xeverywhere xagain0 i_d0 i_never i_firstCame i_longRun i_moved i_crowd i_l0 i_fitMany i_fitLeast i_fitMost m_fitPost m_fitEnd m_keptPosts i_x0], [zAr T 0 m_all 3952 f_all], [zAr T 0 m_posts 7 g_posts_33], [zAr T 0 m_shut 7 f_shut], [zAr T 0 m_was 7 g_was_34]] _ _ := G
        rcases hc_38 with ⟨rfl, h_40⟩ | ⟨rfl, h_41⟩
        · have h_40 : j_gone_32.toInt = xgone.toInt + 1 := h_40
          refine lv_if_eq (tgt := 160) hx hb dX12_walksFar_75 (by decide) (fun q => absurd q (by decide)) (fun _ => ?_)
          refine lv_aload_n hx hb dX12_walksFar_78 rfl (lv_at hl 3 rfl) ?_
          refine z_get C G clX12 2 rfl 26 (by decide) m_fl_RX12_44 rfl dX12_walksFar_79 ?_
          refine lv_iload hx hb dX12_walksFar_82 (lv_at hl 0 rfl) ?_
          refine lv_dup2_11 hx hb dX12_walksFar_84 rfl rfl ?_
          refine z_ild C G 0 rfl (vp_in_iff.mpr ⟨by omega, by omega⟩) dX12_walksFar_85 ?_
          refine lv_topi (fun v_42 ev_42 => ?_)
          subst ev_42
          refine lv_iconst (v := 1) hx hb dX12_walksFar_86 (by decide) ?_
          refine lv_aload_n hx hb dX12_walksFar_87 rfl (lv_at hl 3 rfl) ?_
          refine z_get C G clX12 2 rfl 14 (by decide) m_fl_RX12_20 rfl dX12_walksFar_88 ?_
          refine lv_iload hx hb dX12_walksFar_91 (lv_at hl 0 rfl) ?_
          refine z_ild C G 4 rfl (vp_in_iff.mpr ⟨by omega, by omega⟩) dX12_walksFar_93 ?_
          refine lv_topi (fun v_43 ev_43 => ?_)
          subst ev_43
          refine lv_ishl hx hb dX12_walksFar_94 ?_
          refine lv_ior hx hb dX12_walksFar_95 ?_
          refine z_ist C G 0 rfl (vp_in_iff.mpr ⟨by omega, by omega⟩) dX12_walksFar_96 (fun H locs G => ?_)
          have G : zS T A s.heap s [[zAr T 0 m_used 7 (upd xused fr.toNatClampNeg ((xused fr.toNatClampNeg) ||| (1 <<< ((g_posts_33 fr.toNatClampNeg) &&& 31))))], [zAr T 0 m_farBy 49 f_farBy], [zO11 mo m_all m_has i_size i_next i_where i_token i_number i_word i_wrong i_farCrossing m_read i_z0 i_crossings i_inns m_posts m_shut m_here i_steps i_done j_at_31 j_gone_32 m_was m_came m_seenAt m_rowWorth m_farBy m_used xeverywhere xagain0 i_d0 i_never i_firstCame i_longRun i_moved i_crowd i_l0 i_fitMany i_fitLeast i_fitMost m_fitPost m_fitEnd m_keptPosts i_x0], [zAr T 0 m_all 3952 f_all], [zAr T 0 m_posts 7 g_posts_33], [zAr T 0 m_shut 7 f_shut], [zAr T 0 m_was 7 g_was_34]] _ _ := G
          refine lv_iload_n hx hb dX12_walksFar_97 rfl (lv_at hl 1 rfl) ?_
          refine lv_iconst (v := 1) hx hb dX12_walksFar_98 (by decide) ?_
          refine lv_aload_n hx hb dX12_walksFar_99 rfl (lv_at hl 3 rfl) ?_
          refine z_get C G clX12 2 rfl 19 (by decide) m_fl_RX12_202 rfl dX12_walksFar_100 ?_
          refine lv_ishl hx hb dX12_walksFar_103 ?_
          refine lv_ior hx hb dX12_walksFar_104 ?_
          refine lv_istore_n (lv' := [(3, .int (met ||| (1 <<< (j_at_31 &&& 31)))), (4, .int fr), (2, .int r_1), (0, .ref mo), (1, .int c_)]) hx hb dX12_walksFar_105 rfl hl (by decide) (zLvf_h rfl) (fun ls hl => ?_)
          refine lv_aload_n hx hb dX12_walksFar_106 rfl (lv_at hl 3 rfl) ?_
          refine z_get C G clX12 2 rfl 27 (by decide) m_fl_RX12_284 rfl dX12_walksFar_107 ?_
          refine lv_iconst (v := (-1)) hx hb dX12_walksFar_110 (by decide) ?_
          refine lv_icmp_ne (tgt := 127) hx hb dX12_walksFar_111 (by decide) (fun c_44 => ?_) (fun c_44 => ?_)
          · have c_44n : ¬ xeverywhere.toInt = (-1 : Int) := fun q => c_44 ((fa_eq _ _).mpr q)
            refine lv_aload_n hx hb dX12_walksFar_127 rfl (lv_at hl 3 rfl) ?_
            refine z_get C G clX12 2 rfl 28 (by decide) m_fl_RX12_287 rfl dX12_walksFar_128 ?_
            refine lv_iconst (v := (-1)) hx hb dX12_walksFar_131 (by decide) ?_
            refine lv_icmp_ne (tgt := 151) hx hb dX12_walksFar_132 (by decide) (fun c_45 => ?_) (fun c_45 => ?_)
            · have c_45n : ¬ xagain0.toInt = (-1 : Int) := fun q => c_45 ((fa_eq _ _).mpr q)
              refine lv_aload_n hx hb dX12_walksFar_151 rfl (lv_at hl 3 rfl) ?_
              refine z_get C G clX12 2 rfl 19 (by decide) m_fl_RX12_202 rfl dX12_walksFar_152 ?_
              refine lv_istore (lv' := [(4, .int j_at_31), (3, .int (met ||| (1 <<< (j_at_31 &&& 31)))), (2, .int r_1), (0, .ref mo), (1, .int c_)]) hx hb dX12_walksFar_155 hl (by decide) (zLvf_h rfl) (fun ls hl => ?_)
              refine lv_goto (tgt := 61) hx hb dX12_walksFar_157 (by decide) ?_
              have G := G.sub (bs' := [[zAr T 0 m_all 3952 f_all], [zAr T 0 m_posts 7 g_posts_33], [zAr T 0 m_shut 7 f_shut], [zAr T 0 m_used 7 (upd xused fr.toNatClampNeg ((xused fr.toNatClampNeg) ||| (1 <<< ((g_posts_33 fr.toNatClampNeg) &&& 31))))], [zAr T 0 m_farBy 49 f_farBy], [zO11 mo m_all m_has i_size i_next i_where i_token i_number i_word i_wrong i_farCrossing m_read i_z0 i_crossings i_inns m_posts m_shut m_here i_steps i_done j_at_31 j_gone_32 m_was m_came m_seenAt m_rowWorth m_farBy m_used xeverywhere xagain0 i_d0 i_never i_firstCame i_longRun i_moved i_crowd i_l0 i_fitMany i_fitLeast i_fitMost m_fitPost m_fitEnd m_keptPosts i_x0], [zAr T 0 m_was 7 g_was_34]]) [3, 4, 5, 0, 1, 2, 6] rfl
              exact ih_61 j_at_31 (met ||| (1 <<< (j_at_31 &&& 31))) j_at_31 j_gone_32 xeverywhere xagain0 g_posts_33 g_was_34 (upd xused fr.toNatClampNeg ((xused fr.toNatClampNeg) ||| (1 <<< ((g_posts_33 fr.toNatClampNeg) &&& 31)))) (show zMP g_posts_33 ∧ 0 ≤ j_at_31.toInt ∧ j_at_31.toInt ≤ 6 ∧ 0 ≤ j_at_31.toInt ∧ j_at_31.toInt ≤ 6 ∧ 0 ≤ j_gone_32.toInt ∧ j_gone_32.toInt ≤ 499 from ⟨(by first | with_reducible assumption | assumption), by omega, by omega, by omega, by omega, by omega, by omega⟩) (show (499 - j_gone_32.toInt).toNat < (499 - xgone.toInt).toNat from by omega) _ _ ls G (lv_sub hl [0, 1, 2, 3, 4] rfl)
            · have c_45n : xagain0.toInt = (-1 : Int) := (fa_eq _ _).mp c_45
              refine lv_aload_n hx hb dX12_walksFar_135 rfl (lv_at hl 3 rfl) ?_
              refine z_get C G clX12 2 rfl 19 (by decide) m_fl_RX12_202 rfl dX12_walksFar_136 ?_
              refine lv_iload_n hx hb dX12_walksFar_139 rfl (lv_at hl 4 rfl) ?_
              refine lv_icmp_ne (tgt := 151) hx hb dX12_walksFar_140 (by decide) (fun c_46 => ?_) (fun c_46 => ?_)
              · have c_46n : ¬ j_at_31.toInt = c_.toInt := fun q => c_46 ((fa_eq _ _).mpr q)
                refine lv_aload_n hx hb dX12_walksFar_151 rfl (lv_at hl 3 rfl) ?_
                refine z_get C G clX12 2 rfl 19 (by decide) m_fl_RX12_202 rfl dX12_walksFar_152 ?_
                refine lv_istore (lv' := [(4, .int j_at_31), (3, .int (met ||| (1 <<< (j_at_31 &&& 31)))), (2, .int r_1), (0, .ref mo), (1, .int c_)]) hx hb dX12_walksFar_155 hl (by decide) (zLvf_h rfl) (fun ls hl => ?_)
                refine lv_goto (tgt := 61) hx hb dX12_walksFar_157 (by decide) ?_
                have G := G.sub (bs' := [[zAr T 0 m_all 3952 f_all], [zAr T 0 m_posts 7 g_posts_33], [zAr T 0 m_shut 7 f_shut], [zAr T 0 m_used 7 (upd xused fr.toNatClampNeg ((xused fr.toNatClampNeg) ||| (1 <<< ((g_posts_33 fr.toNatClampNeg) &&& 31))))], [zAr T 0 m_farBy 49 f_farBy], [zO11 mo m_all m_has i_size i_next i_where i_token i_number i_word i_wrong i_farCrossing m_read i_z0 i_crossings i_inns m_posts m_shut m_here i_steps i_done j_at_31 j_gone_32 m_was m_came m_seenAt m_rowWorth m_farBy m_used xeverywhere xagain0 i_d0 i_never i_firstCame i_longRun i_moved i_crowd i_l0 i_fitMany i_fitLeast i_fitMost m_fitPost m_fitEnd m_keptPosts i_x0], [zAr T 0 m_was 7 g_was_34]]) [3, 4, 5, 0, 1, 2, 6] rfl
                exact ih_61 j_at_31 (met ||| (1 <<< (j_at_31 &&& 31))) j_at_31 j_gone_32 xeverywhere xagain0 g_posts_33 g_was_34 (upd xused fr.toNatClampNeg ((xused fr.toNatClampNeg) ||| (1 <<< ((g_posts_33 fr.toNatClampNeg) &&& 31)))) (show zMP g_posts_33 ∧ 0 ≤ j_at_31.toInt ∧ j_at_31.toInt ≤ 6 ∧ 0 ≤ j_at_31.toInt ∧ j_at_31.toInt ≤ 6 ∧ 0 ≤ j_gone_32.toInt ∧ j_gone_32.toInt ≤ 499 from ⟨(by first | with_reducible assumption | assumption), by omega, by omega, by omega, by omega, by omega, by omega⟩) (show (499 - j_gone_32.toInt).toNat < (499 - xgone.toInt).toNat from by omega) _ _ ls G (lv_sub hl [0, 1, 2, 3, 4] rfl)
              · have c_46n : j_at_31.toInt = c_.toInt := (fa_eq _ _).mp c_46
                refine lv_aload_n hx hb dX12_walksFar_143 rfl (lv_at hl 3 rfl) ?_
                refine lv_aload_n hx hb dX12_walksFar_144 rfl (lv_at hl 3 rfl) ?_
                refine z_get C G clX12 2 rfl 20 (by decide) m_fl_RX12_208 rfl dX12_walksFar_145 ?_
                refine z_put C G clX12 2 rfl 28 (by decide) m_fl_RX12_287 rfl rfl rfl (Nat.le_of_ble_eq_true rfl) dX12_walksFar_148 (fun H locs G => ?_)
                have G : zS T A s.heap s [[zAr T 0 m_used 7 (upd xused fr.toNatClampNeg ((xused fr.toNatClampNeg) ||| (1 <<< ((g_posts_33 fr.toNatClampNeg) &&& 31))))], [zAr T 0 m_farBy 49 f_farBy], [zO11 mo m_all m_has i_size i_next i_where i_token i_number i_word i_wrong i_farCrossing m_read i_z0 i_crossings i_inns m_posts m_shut m_here i_steps i_done j_at_31 j_gone_32 m_was m_came m_seenAt m_rowWorth m_farBy m_used xeverywhere j_gone_32 i_d0 i_never i_firstCame i_longRun i_moved i_crowd i_l0 i_fitMany i_fitLeast i_fitMost m_fitPost m_fitEnd m_keptPosts i_x0], [zAr T 0 m_all 3952 f_all], [zAr T 0 m_posts 7 g_posts_33], [zAr T 0 m_shut 7 f_shut], [zAr T 0 m_was 7 g_was_34]] _ _ := G
                refine lv_aload_n hx hb dX12_walksFar_151 rfl (lv_at hl 3 rfl) ?_
                refine z_get C G clX12 2 rfl 19 (by decide) m_fl_RX12_202 rfl dX12_walksFar_152 ?_
                refine lv_istore (lv' := [(4, .int j_at_31), (3, .int (met ||| (1 <<< (j_at_31 &&& 31)))), (2, .int r_1), (0, .ref mo), (1, .int c_)]) hx hb dX12_walksFar_155 hl (by decide) (zLvf_h rfl) (fun ls hl => ?_)
                refine lv_goto (tgt := 61) hx hb dX12_walksFar_157 (by decide) ?_
                have G := G.sub (bs' := [[zAr T 0 m_all 3952 f_all], [zAr T 0 m_posts 7 g_posts_33], [zAr T 0 m_shut 7 f_shut], [zAr T 0 m_used 7 (upd xused fr.toNatClampNeg ((xused fr.toNatClampNeg) ||| (1 <<< ((g_posts_33 fr.toNatClampNeg) &&& 31))))], [zAr T 0 m_farBy 49 f_farBy], [zO11 mo m_all m_has i_size i_next i_where i_token i_number i_word i_wrong i_farCrossing m_read i_z0 i_crossings i_inns m_posts m_shut m_here i_steps i_done j_at_31 j_gone_32 m_was m_came m_seenAt m_rowWorth m_farBy m_used xeverywhere j_gone_32 i_d0 i_never i_firstCame i_longRun i_moved i_crowd i_l0 i_fitMany i_fitLeast i_fitMost m_fitPost m_fitEnd m_keptPosts i_x0], [zAr T 0 m_was 7 g_was_34]]) [3, 4, 5, 0, 1, 2, 6] rfl
                exact ih_61 j_at_31 (met ||| (1 <<< (j_at_31 &&& 31))) j_at_31 j_gone_32 xeverywhere j_gone_32 g_posts_33 g_was_34 (upd xused fr.toNatClampNeg ((xused fr.toNatClampNeg) ||| (1 <<< ((g_posts_33 fr.toNatClampNeg) &&& 31)))) (show zMP g_posts_33 ∧ 0 ≤ j_at_31.toInt ∧ j_at_31.toInt ≤ 6 ∧ 0 ≤ j_at_31.toInt ∧ j_at_31.toInt ≤ 6 ∧ 0 ≤ j_gone_32.toInt ∧ j_gone_32.toInt ≤ 499 from ⟨(by first | with_reducible assumption | assumption), by omega, by omega, by omega, by omega, by omega, by omega⟩) (show (499 - j_gone_32.toInt).toNat < (499 - xgone.toInt).toNat from by omega) _ _ ls G (lv_sub hl [0, 1, 2, 3, 4] rfl)
          · have c_44n : xeverywhere.toInt = (-1 : Int) := (fa_eq _ _).mp c_44
            refine lv_iload_n hx hb dX12_walksFar_114 rfl (lv_at hl 0 rfl) ?_
            refine lv_iload_n hx hb dX12_walksFar_115 rfl (lv_at hl 2 rfl) ?_
            refine lv_icmp_ne (tgt := 127) hx hb dX12_walksFar_116 (by decide) (fun c_47 => ?_) (fun c_47 => ?_)
            · have c_47n : ¬ (met ||| (1 <<< (j_at_31 &&& 31))).toInt = r_1.toInt := fun q => c_47 ((fa_eq _ _).mpr q)
              refine lv_aload_n hx hb dX12_walksFar_127 rfl (lv_at hl 3 rfl) ?_
              refine z_get C G clX12 2 rfl 28 (by decide) m_fl_RX12_287 rfl dX12_walksFar_128 ?_
              refine lv_iconst (v := (-1)) hx hb dX12_walksFar_131 (by decide) ?_
              refine lv_icmp_ne (tgt := 151) hx hb dX12_walksFar_132 (by decide) (fun c_48 => ?_) (fun c_48 => ?_)
              · have c_48n : ¬ xagain0.toInt = (-1 : Int) := fun q => c_48 ((fa_eq _ _).mpr q)
                refine lv_aload_n hx hb dX12_walksFar_151 rfl (lv_at hl 3 rfl) ?_
                refine z_get C G clX12 2 rfl 19 (by decide) m_fl_RX12_202 rfl dX12_walksFar_152 ?_
                refine lv_istore (lv' := [(4, .int j_at_31), (3, .int (met ||| (1 <<< (j_at_31 &&& 31)))), (2, .int r_1), (0, .ref mo), (1, .int c_)]) hx hb dX12_walksFar_155 hl (by decide) (zLvf_h rfl) (fun ls hl => ?_)
                refine lv_goto (tgt := 61) hx hb dX12_walksFar_157 (by decide) ?_
                have G := G.sub (bs' := [[zAr T 0 m_all 3952 f_all], [zAr T 0 m_posts 7 g_posts_33], [zAr T 0 m_shut 7 f_shut], [zAr T 0 m_used 7 (upd xused fr.toNatClampNeg ((xused fr.toNatClampNeg) ||| (1 <<< ((g_posts_33 fr.toNatClampNeg) &&& 31))))], [zAr T 0 m_farBy 49 f_farBy], [zO11 mo m_all m_has i_size i_next i_where i_token i_number i_word i_wrong i_farCrossing m_read i_z0 i_crossings i_inns m_posts m_shut m_here i_steps i_done j_at_31 j_gone_32 m_was m_came m_seenAt m_rowWorth m_farBy m_used xeverywhere xagain0 i_d0 i_never i_firstCame i_longRun i_moved i_crowd i_l0 i_fitMany i_fitLeast i_fitMost m_fitPost m_fitEnd m_keptPosts i_x0], [zAr T 0 m_was 7 g_was_34]]) [3, 4, 5, 0, 1, 2, 6] rfl
                exact ih_61 j_at_31 (met ||| (1 <<< (j_at_31 &&& 31))) j_at_31 j_gone_32 xeverywhere xagain0 g_posts_33 g_was_34 (upd xused fr.toNatClampNeg ((xused fr.toNatClampNeg) ||| (1 <<< ((g_posts_33 fr.toNatClampNeg) &&& 31)))) (show zMP g_posts_33 ∧ 0 ≤ j_at_31.toInt ∧ j_at_31.toInt ≤ 6 ∧ 0 ≤ j_at_31.toInt ∧ j_at_31.toInt ≤ 6 ∧ 0 ≤ j_gone_32.toInt ∧ j_gone_32.toInt ≤ 499 from ⟨(by first | with_reducible assumption | assumption), by omega, by omega, by omega, by omega, by omega, by omega⟩) (show (499 - j_gone_32.toInt).toNat < (499 - xgone.toInt).toNat from by omega) _ _ ls G (lv_sub hl [0, 1, 2, 3, 4] rfl)
              · have c_48n : xagain0.toInt = (-1 : Int) := (fa_eq _ _).mp c_48
                refine lv_aload_n hx hb dX12_walksFar_135 rfl (lv_at hl 3 rfl) ?_
                refine z_get C G clX12 2 rfl 19 (by decide) m_fl_RX12_202 rfl dX12_walksFar_136 ?_
                refine lv_iload_n hx hb dX12_walksFar_139 rfl (lv_at hl 4 rfl) ?_
                refine lv_icmp_ne (tgt := 151) hx hb dX12_walksFar_140 (by decide) (fun c_49 => ?_) (fun c_49 => ?_)
                · have c_49n : ¬ j_at_31.toInt = c_.toInt := fun q => c_49 ((fa_eq _ _).mpr q)
                  refine lv_aload_n hx hb dX12_walksFar_151 rfl (lv_at hl 3 rfl) ?_
                  refine z_get C G clX12 2 rfl 19 (by decide) m_fl_RX12_202 rfl dX12_walksFar_152 ?_
                  refine lv_istore (lv' := [(4, .int j_at_31), (3, .int (met ||| (1 <<< (j_at_31 &&& 31)))), (2, .int r_1), (0, .ref mo), (1, .int c_)]) hx hb dX12_walksFar_155 hl (by decide) (zLvf_h rfl) (fun ls hl => ?_)
                  refine lv_goto (tgt := 61) hx hb dX12_walksFar_157 (by decide) ?_
                  have G := G.sub (bs' := [[zAr T 0 m_all 3952 f_all], [zAr T 0 m_posts 7 g_posts_33], [zAr T 0 m_shut 7 f_shut], [zAr T 0 m_used 7 (upd xused fr.toNatClampNeg ((xused fr.toNatClampNeg) ||| (1 <<< ((g_posts_33 fr.toNatClampNeg) &&& 31))))], [zAr T 0 m_farBy 49 f_farBy], [zO11 mo m_all m_has i_size i_next i_where i_token i_number i_word i_wrong i_farCrossing m_read i_z0 i_crossings i_inns m_posts m_shut m_here i_steps i_done j_at_31 j_gone_32 m_was m_came m_seenAt m_rowWorth m_farBy m_used xeverywhere xagain0 i_d0 i_never i_firstCame i_longRun i_moved i_crowd i_l0 i_fitMany i_fitLeast i_fitMost m_fitPost m_fitEnd m_keptPosts i_x0], [zAr T 0 m_was 7 g_was_34]]) [3, 4, 5, 0, 1, 2, 6] rfl
                  exact ih_61 j_at_31 (met ||| (1 <<< (j_at_31 &&& 31))) j_at_31 j_gone_32 xeverywhere xagain0 g_posts_33 g_was_34 (upd xused fr.toNatClampNeg ((xused fr.toNatClampNeg) ||| (1 <<< ((g_posts_33 fr.toNatClampNeg) &&& 31)))) (show zMP g_posts_33 ∧ 0 ≤ j_at_31.toInt ∧ j_at_31.toInt ≤ 6 ∧ 0 ≤ j_at_31.toInt ∧ j_at_31.toInt ≤ 6 ∧ 0 ≤ j_gone_32.toInt ∧ j_gone_32.toInt ≤ 499 from ⟨(by first | with_reducible assumption | assumption), by omega, by omega, by omega, by omega, by omega, by omega⟩) (show (499 - j_gone_32.toInt).toNat < (499 - xgone.toInt).toNat from by omega) _ _ ls G (lv_sub hl [0, 1, 2, 3, 4] rfl)
                · have c_49n : j_at_31.toInt = c_.toInt := (fa_eq _ _).mp c_49
                  refine lv_aload_n hx hb dX12_walksFar_143 rfl (lv_at hl 3 rfl) ?_
                  refine lv_aload_n hx hb dX12_walksFar_144 rfl (lv_at hl 3 rfl) ?_
                  refine z_get C G clX12 2 rfl 20 (by decide) m_fl_RX12_208 rfl dX12_walksFar_145 ?_
                  refine z_put C G clX12 2 rfl 28 (by decide) m_fl_RX12_287 rfl rfl rfl (Nat.le_of_ble_eq_true rfl) dX12_walksFar_148 (fun H locs G => ?_)
                  have G : zS T A s.heap s [[zAr T 0 m_used 7 (upd xused fr.toNatClampNeg ((xused fr.toNatClampNeg) ||| (1 <<< ((g_posts_33 fr.toNatClampNeg) &&& 31))))], [zAr T 0 m_farBy 49 f_farBy], [zO11 mo m_all m_has i_size i_next i_where i_token i_number i_word i_wrong i_farCrossing m_read i_z0 i_crossings i_inns m_posts m_shut m_here i_steps i_done j_at_31 j_gone_32 m_was m_came m_seenAt m_rowWorth m_farBy m_used xeverywhere j_gone_32 i_d0 i_never i_firstCame i_longRun i_moved i_crowd i_l0 i_fitMany i_fitLeast i_fitMost m_fitPost m_fitEnd m_keptPosts i_x0], [zAr T 0 m_all 3952 f_all], [zAr T 0 m_posts 7 g_posts_33], [zAr T 0 m_shut 7 f_shut], [zAr T 0 m_was 7 g_was_34]] _ _ := G
                  refine lv_aload_n hx hb dX12_walksFar_151 rfl (lv_at hl 3 rfl) ?_
                  refine z_get C G clX12 2 rfl 19 (by decide) m_fl_RX12_202 rfl dX12_walksFar_152 ?_
                  refine lv_istore (lv' := [(4, .int j_at_31), (3, .int (met ||| (1 <<< (j_at_31 &&& 31)))), (2, .int r_1), (0, .ref mo), (1, .int c_)]) hx hb dX12_walksFar_155 hl (by decide) (zLvf_h rfl) (fun ls hl => ?_)
                  refine lv_goto (tgt := 61) hx hb dX12_walksFar_157 (by decide) ?_
                  have G := G.sub (bs' := [[zAr T 0 m_all 3952 f_all], [zAr T 0 m_posts 7 g_posts_33], [zAr T 0 m_shut 7 f_shut], [zAr T 0 m_used 7 (upd xused fr.toNatClampNeg ((xused fr.toNatClampNeg) ||| (1 <<< ((g_posts_33 fr.toNatClampNeg) &&& 31))))], [zAr T 0 m_farBy 49 f_farBy], [zO11 mo m_all m_has i_size i_next i_where i_token i_number i_word i_wrong i_farCrossing m_read i_z0 i_crossings i_inns m_posts m_shut m_here i_steps i_done j_at_31 j_gone_32 m_was m_came m_seenAt m_rowWorth m_farBy m_used xeverywhere j_gone_32 i_d0 i_never i_firstCame i_longRun i_moved i_crowd i_l0 i_fitMany i_fitLeast i_fitMost m_fitPost m_fitEnd m_keptPosts i_x0], [zAr T 0 m_was 7 g_was_34]]) [3, 4, 5, 0, 1, 2, 6] rfl
                  exact ih_61 j_at_31 (met ||| (1 <<< (j_at_31 &&& 31))) j_at_31 j_gone_32 xeverywhere j_gone_32 g_posts_33 g_was_34 (upd xused fr.toNatClampNeg ((xused fr.toNatClampNeg) ||| (1 <<< ((g_posts_33 fr.toNatClampNeg) &&& 31)))) (show zMP g_posts_33 ∧ 0 ≤ j_at_31.toInt ∧ j_at_31.toInt ≤ 6 ∧ 0 ≤ j_at_31.toInt ∧ j_at_31.toInt ≤ 6 ∧ 0 ≤ j_gone_32.toInt ∧ j_gone_32.toInt ≤ 499 from ⟨(by first | with_reducible assumption | assumption), by omega, by omega, by omega, by omega, by omega, by omega⟩) (show (499 - j_gone_32.toInt).toNat < (499 - xgone.toInt).toNat from by omega) _ _ ls G (lv_sub hl [0, 1, 2, 3, 4] rfl)
            · have c_47n : (met ||| (1 <<< (j_at_31 &&& 31))).toInt = r_1.toInt := (fa_eq _ _).mp c_47
              refine lv_aload_n hx hb dX12_walksFar_119 rfl (lv_at hl 3 rfl) ?_
              refine lv_aload_n hx hb dX12_walksFar_120 rfl (lv_at hl 3 rfl) ?_
              refine z_get C G clX12 2 rfl 20 (by decide) m_fl_RX12_208 rfl dX12_walksFar_121 ?_
              refine z_put C G clX12 2 rfl 27 (by decide) m_fl_RX12_284 rfl rfl rfl (Nat.le_of_ble_eq_true rfl) dX12_walksFar_124 (fun H locs G => ?_)
              have G : zS T A s.heap s [[zAr T 0 m_used 7 (upd xused fr.toNatClampNeg ((xused fr.toNatClampNeg) ||| (1 <<< ((g_posts_33 fr.toNatClampNeg) &&& 31))))], [zAr T 0 m_farBy 49 f_farBy], [zO11 mo m_all m_has i_size i_next i_where i_token i_number i_word i_wrong i_farCrossing m_read i_z0 i_crossings i_inns m_posts m_shut m_here i_steps i_done j_at_31 j_gone_32 m_was m_came m_seenAt m_rowWorth m_farBy m_used j_gone_32 xagain0 i_d0 i_never i_firstCame i_longRun i_moved i_crowd i_l0 i_fitMany i_fitLeast i_fitMost m_fitPost m_fitEnd m_keptPosts i_x0], [zAr T 0 m_all 3952 f_all], [zAr T 0 m_posts 7 g_posts_33], [zAr T 0 m_shut 7 f_shut], [zAr T 0 m_was 7 g_was_34]] _ _ := G
              refine lv_aload_n hx hb dX12_walksFar_127 rfl (lv_at hl 3 rfl) ?_
              refine z_get C G clX12 2 rfl 28 (by decide) m_fl_RX12_287 rfl dX12_walksFar_128 ?_
              refine lv_iconst (v := (-1)) hx hb dX12_walksFar_131 (by decide) ?_
              refine lv_icmp_ne (tgt := 151) hx hb dX12_walksFar_132 (by decide) (fun c_50 => ?_) (fun c_50 => ?_)
              · have c_50n : ¬ xagain0.toInt = (-1 : Int) := fun q => c_50 ((fa_eq _ _).mpr q)
                refine lv_aload_n hx hb dX12_walksFar_151 rfl (lv_at hl 3 rfl) ?_
                refine z_get C G clX12 2 rfl 19 (by decide) m_fl_RX12_202 rfl dX12_walksFar_152 ?_
                refine lv_istore (lv' := [(4, .int j_at_31), (3, .int (met ||| (1 <<< (j_at_31 &&& 31)))), (2, .int r_1), (0, .ref mo), (1, .int c_)]) hx hb dX12_walksFar_155 hl (by decide) (zLvf_h rfl) (fun ls hl => ?_)
                refine lv_goto (tgt := 61) hx hb dX12_walksFar_157 (by decide) ?_
                have G := G.sub (bs' := [[zAr T 0 m_all 3952 f_all], [zAr T 0 m_posts 7 g_posts_33], [zAr T 0 m_shut 7 f_shut], [zAr T 0 m_used 7 (upd xused fr.toNatClampNeg ((xused fr.toNatClampNeg) ||| (1 <<< ((g_posts_33 fr.toNatClampNeg) &&& 31))))], [zAr T 0 m_farBy 49 f_farBy], [zO11 mo m_all m_has i_size i_next i_where i_token i_number i_word i_wrong i_farCrossing m_read i_z0 i_crossings i_inns m_posts m_shut m_here i_steps i_done j_at_31 j_gone_32 m_was m_came m_seenAt m_rowWorth m_farBy m_used j_gone_32 xagain0 i_d0 i_never i_firstCame i_longRun i_moved i_crowd i_l0 i_fitMany i_fitLeast i_fitMost m_fitPost m_fitEnd m_keptPosts i_x0], [zAr T 0 m_was 7 g_was_34]]) [3, 4, 5, 0, 1, 2, 6] rfl
                exact ih_61 j_at_31 (met ||| (1 <<< (j_at_31 &&& 31))) j_at_31 j_gone_32 j_gone_32 xagain0 g_posts_33 g_was_34 (upd xused fr.toNatClampNeg ((xused fr.toNatClampNeg) ||| (1 <<< ((g_posts_33 fr.toNatClampNeg) &&& 31)))) (show zMP g_posts_33 ∧ 0 ≤ j_at_31.toInt ∧ j_at_31.toInt ≤ 6 ∧ 0 ≤ j_at_31.toInt ∧ j_at_31.toInt ≤ 6 ∧ 0 ≤ j_gone_32.toInt ∧ j_gone_32.toInt ≤ 499 from ⟨(by first | with_reducible assumption | assumption), by omega, by omega, by omega, by omega, by omega, by omega⟩) (show (499 - j_gone_32.toInt).toNat < (499 - xgone.toInt).toNat from by omega) _ _ ls G (lv_sub hl [0, 1, 2, 3, 4] rfl)
              · have c_50n : xagain0.toInt = (-1 : Int) := (fa_eq _ _).mp c_50
                refine lv_aload_n hx hb dX12_walksFar_135 rfl (lv_at hl 3 rfl) ?_
                refine z_get C G clX12 2 rfl 19 (by decide) m_fl_RX12_202 rfl dX12_walksFar_136 ?_
                refine lv_iload_n hx hb dX12_walksFar_139 rfl (lv_at hl 4 rfl) ?_
                refine lv_icmp_ne (tgt := 151) hx hb dX12_walksFar_140 (by decide) (fun c_51 => ?_) (fun c_51 => ?_)
                · have c_51n : ¬ j_at_31.toInt = c_.toInt := fun q => c_51 ((fa_eq _ _).mpr q)
                  refine lv_aload_n hx hb dX12_walksFar_151 rfl (lv_at hl 3 rfl) ?_
                  refine z_get C G clX12 2 rfl 19 (by decide) m_fl_RX12_202 rfl dX12_walksFar_152 ?_
                  refine lv_istore (lv' := [(4, .int j_at_31), (3, .int (met ||| (1 <<< (j_at_31 &&& 31)))), (2, .int r_1), (0, .ref mo), (1, .int c_)]) hx hb dX12_walksFar_155 hl (by decide) (zLvf_h rfl) (fun ls hl => ?_)
                  refine lv_goto (tgt := 61) hx hb dX12_walksFar_157 (by decide) ?_
                  have G := G.sub (bs' := [[zAr T 0 m_all 3952 f_all], [zAr T 0 m_posts 7 g_posts_33], [zAr T 0 m_shut 7 f_shut], [zAr T 0 m_used 7 (upd xused fr.toNatClampNeg ((xused fr.toNatClampNeg) ||| (1 <<< ((g_posts_33 fr.toNatClampNeg) &&& 31))))], [zAr T 0 m_farBy 49 f_farBy], [zO11 mo m_all m_has i_size i_next i_where i_token i_number i_word i_wrong i_farCrossing m_read i_z0 i_crossings i_inns m_posts m_shut m_here i_steps i_done j_at_31 j_gone_32 m_was m_came m_seenAt m_rowWorth m_farBy m_used j_gone_32 xagain0 i_d0 i_never i_firstCame i_longRun i_moved i_crowd i_l0 i_fitMany i_fitLeast i_fitMost m_fitPost m_fitEnd m_keptPosts i_x0], [zAr T 0 m_was 7 g_was_34]]) [3, 4, 5, 0, 1, 2, 6] rfl
                  exact ih_61 j_at_31 (met ||| (1 <<< (j_at_31 &&& 31))) j_at_31 j_gone_32 j_gone_32 xagain0 g_posts_33 g_was_34 (upd xused fr.toNatClampNeg ((xused fr.toNatClampNeg) ||| (1 <<< ((g_posts_33 fr.toNatClampNeg) &&& 31)))) (show zMP g_posts_33 ∧ 0 ≤ j_at_31.toInt ∧ j_at_31.toInt ≤ 6 ∧ 0 ≤ j_at_31.toInt ∧ j_at_31.toInt ≤ 6 ∧ 0 ≤ j_gone_32.toInt ∧ j_gone_32.toInt ≤ 499 from ⟨(by first | with_reducible assumption | assumption), by omega, by omega, by omega, by omega, by omega, by omega⟩) (show (499 - j_gone_32.toInt).toNat < (499 - xgone.toInt).toNat from by omega) _ _ ls G (lv_sub hl [0, 1, 2, 3, 4] rfl)
                · have c_51n : j_at_31.toInt = c_.toInt := (fa_eq _ _).mp c_51
                  refine lv_aload_n hx hb dX12_walksFar_143 rfl (lv_at hl 3 rfl) ?_
                  refine lv_aload_n hx hb dX12_walksFar_144 rfl (lv_at hl 3 rfl) ?_
                  refine z_get C G clX12 2 rfl 20 (by decide) m_fl_RX12_208 rfl dX12_walksFar_145 ?_
                  refine z_put C G clX12 2 rfl 28 (by decide) m_fl_RX12_287 rfl rfl rfl (Nat.le_of_ble_eq_true rfl) dX12_walksFar_148 (fun H locs G => ?_)
                  have G : zS T A s.heap s [[zAr T 0 m_used 7 (upd xused fr.toNatClampNeg ((xused fr.toNatClampNeg) ||| (1 <<< ((g_posts_33 fr.toNatClampNeg) &&& 31))))], [zAr T 0 m_farBy 49 f_farBy], [zO11 mo m_all m_has i_size i_next i_where i_token i_number i_word i_wrong i_farCrossing m_read i_z0 i_crossings i_inns m_posts m_shut m_here i_steps i_done j_at_31 j_gone_32 m_was m_came m_seenAt m_rowWorth m_farBy m_used j_gone_32 j_gone_32 i_d0 i_never i_firstCame i_longRun i_moved i_crowd i_l0 i_fitMany i_fitLeast i_fitMost m_fitPost m_fitEnd m_keptPosts i_x0], [zAr T 0 m_all 3952 f_all], [zAr T 0 m_posts 7 g_posts_33], [zAr T 0 m_shut 7 f_shut], [zAr T 0 m_was 7 g_was_34]] _ _ := G
                  refine lv_aload_n hx hb dX12_walksFar_151 rfl (lv_at hl 3 rfl) ?_
                  refine z_get C G clX12 2 rfl 19 (by decide) m_fl_RX12_202 rfl dX12_walksFar_152 ?_
                  refine lv_istore (lv' := [(4, .int j_at_31), (3, .int (met ||| (1 <<< (j_at_31 &&& 31)))), (2, .int r_1), (0, .ref mo), (1, .int c_)]) hx hb dX12_walksFar_155 hl (by decide) (zLvf_h rfl) (fun ls hl => ?_)
                  refine lv_goto (tgt := 61) hx hb dX12_walksFar_157 (by decide) ?_
                  have G := G.sub (bs' := [[zAr T 0 m_all 3952 f_all], [zAr T 0 m_posts 7 g_posts_33], [zAr T 0 m_shut 7 f_shut], [zAr T 0 m_used 7 (upd xused fr.toNatClampNeg ((xused fr.toNatClampNeg) ||| (1 <<< ((g_posts_33 fr.toNatClampNeg) &&& 31))))], [zAr T 0 m_farBy 49 f_farBy], [zO11 mo m_all m_has i_size i_next i_where i_token i_number i_word i_wrong i_farCrossing m_read i_z0 i_crossings i_inns m_posts m_shut m_here i_steps i_done j_at_31 j_gone_32 m_was m_came m_seenAt m_rowWorth m_farBy m_used j_gone_32 j_gone_32 i_d0 i_never i_firstCame i_longRun i_moved i_crowd i_l0 i_fitMany i_fitLeast i_fitMost m_fitPost m_fitEnd m_keptPosts i_x0], [zAr T 0 m_was 7 g_was_34]]) [3, 4, 5, 0, 1, 2, 6] rfl
                  exact ih_61 j_at_31 (met ||| (1 <<< (j_at_31 &&& 31))) j_at_31 j_gone_32 j_gone_32 j_gone_32 g_posts_33 g_was_34 (upd xused fr.toNatClampNeg ((xused fr.toNatClampNeg) ||| (1 <<< ((g_posts_33 fr.toNatClampNeg) &&& 31)))) (show zMP g_posts_33 ∧ 0 ≤ j_at_31.toInt ∧ j_at_31.toInt ≤ 6 ∧ 0 ≤ j_at_31.toInt ∧ j_at_31.toInt ≤ 6 ∧ 0 ≤ j_gone_32.toInt ∧ j_gone_32.toInt ≤ 499 from ⟨(by first | with_reducible assumption | assumption), by omega, by omega, by omega, by omega, by omega, by omega⟩) (show (499 - j_gone_32.toInt).toNat < (499 - xgone.toInt).toNat from by omega) _ _ ls G (lv_sub hl [0, 1, 2, 3, 4] rfl)
        · have h_41 : j_gone_32.toInt = xgone.toInt := h_41
          refine lv_if_eq (tgt := 160) hx hb dX12_walksFar_75 (by decide) (fun _ => ?_) (fun q => absurd (by decide) q)
          have G := G.sub (bs' := [[zO11 mo m_all m_has i_size i_next i_where i_token i_number i_word i_wrong i_farCrossing m_read i_z0 i_crossings i_inns m_posts m_shut m_here i_steps i_done j_at_31 j_gone_32 m_was m_came m_seenAt m_rowWorth m_farBy m_used xeverywhere xagain0 i_d0 i_never i_firstCame i_longRun i_moved i_crowd i_l0 i_fitMany i_fitLeast i_fitMost m_fitPost m_fitEnd m_keptPosts i_x0], [zAr T 0 m_all 3952 f_all], [zAr T 0 m_posts 7 g_posts_33], [zAr T 0 m_shut 7 f_shut], [zAr T 0 m_was 7 g_was_34], [zAr T 0 m_farBy 49 f_farBy], [zAr T 0 m_used 7 xused]]) [2, 3, 4, 5, 6, 1, 0] rfl
          exact z_back hQz_ (z_vret C hr hlocks G (Nat.le_of_ble_eq_true rfl) (Nat.le_of_ble_eq_true rfl) dX12_walksFar_160 ⟨j_at_31, j_gone_32, xeverywhere, xagain0, g_posts_33, g_was_34, xused, rfl, (by first | with_reducible assumption | omega | trivial | assumption), (by first | with_reducible assumption | omega | trivial | assumption), (by first | with_reducible assumption | omega | trivial | assumption), (by first | with_reducible assumption | omega | trivial | assumption), (by first | with_reducible assumption | omega | trivial | assumption)⟩)
  · have c_2n : ¬ 7 ≤ i := fun q => c_2 ((nI_leI (a := 7) (b := i) (by omega) (by omega)).mpr q)
    refine lv_aload_n hx hb dX12_walksFar_20 rfl (lv_at hl 3 rfl) ?_
    refine z_get C G clX12 5 rfl 26 (by decide) m_fl_RX12_44 rfl dX12_walksFar_21 ?_
    refine lv_iload hx hb dX12_walksFar_24 (lv_at hl 0 rfl) ?_
    refine lv_iconst (v := 0) hx hb dX12_walksFar_26 (by decide) ?_
    refine z_ist C G 4 rfl (vp_in_nI (by omega) (by decide)) dX12_walksFar_27 (fun H locs G => ?_)
    rw [nI_clamp (by omega)] at G
    have G : zS T A s.heap s [[zAr T 0 m_all 3952 f_all], [zAr T 0 m_posts 7 f_posts], [zAr T 0 m_shut 7 f_shut], [zAr T 0 m_was 7 f_was], [zAr T 0 m_used 7 (upd xused i 0)], [zO11 mo m_all m_has i_size i_next i_where i_token i_number i_word i_wrong i_farCrossing m_read i_z0 i_crossings i_inns m_posts m_shut m_here i_steps i_done i_at i_gone m_was m_came m_seenAt m_rowWorth m_farBy m_used i_everywhere i_again0 i_d0 i_never i_firstCame i_longRun i_moved i_crowd i_l0 i_fitMany i_fitLeast i_fitMost m_fitPost m_fitEnd m_keptPosts i_x0], [zAr T 0 m_farBy 49 f_farBy]] _ _ := G
    refine lv_iinc (v := nI (i + 1)) (lv' := [(4, .int (nI (i + 1))), (3, .int (1 <<< (c_ &&& 31))), (2, .int r_1), (0, .ref mo), (1, .int c_)]) hx hb dX12_walksFar_28 hl (k := 0) rfl (z_inc i 1) (by decide) (zLvf_h rfl) (fun ls hl => ?_)
    refine lv_goto (tgt := 13) hx hb dX12_walksFar_31 (by decide) ?_
    exact ih_13 (i + 1) (upd xused i 0) (show (i + 1) ≤ 7 from by omega) (show 7 - (i + 1) < 7 - i from by omega) _ _ ls G (lv_sub hl [0, 1, 2, 3, 4] rfl)
set_option maxHeartbeats 4000000 in
set_option maxRecDepth 100000 in
/-- c_m_unusedOf -/
theorem c_m_unusedOf (l : Launch) (T : zTy) (mo : Nat) (m_all : Nat) (m_has : Nat) (i_size : Int32) (i_next : Int32) (i_where : Int32) (i_token : Int32) (i_number : Int32) (i_word : Int32) (i_wrong : Int32) (i_farCrossing : Int32) (m_read : Nat) (i_z0 : Int32) (i_crossings : Int32) (i_inns : Int32) (m_posts : Nat) (m_shut : Nat) (m_here : Nat) (i_steps : Int32) (i_done : Int32) (i_at : Int32) (i_gone : Int32) (m_was : Nat) (m_came : Nat) (m_seenAt : Nat) (m_rowWorth : Nat) (m_farBy : Nat) (m_used : Nat) (i_everywhere : Int32) (i_again0 : Int32) (i_d0 : Int32) (i_never : Int32) (i_firstCame : Int32) (i_longRun : Int32) (i_moved : Int32) (i_crowd : Int32) (i_l0 : Int32) (i_fitMany : Int32) (i_fitLeast : Int32) (i_fitMost : Int32) (m_fitPost : Nat) (m_fitEnd : Nat) (m_keptPosts : Nat) (i_x0 : Int32) (f_all : Nat → Int32) (f_used : Nat → Int32) (w_ : Int32) (hL : zML f_all i_z0 i_crossings) : zMi l T yX12_unusedOf cX12_unusedOf 5 (some .int) 3 0 0 [.ref mo, .int w_] [[zO11 mo m_all m_has i_size i_next i_where i_token i_number i_word i_wrong i_farCrossing m_read i_z0 i_crossings i_inns m_posts m_shut m_here i_steps i_done i_at i_gone m_was m_came m_seenAt m_rowWorth m_farBy m_used i_everywhere i_again0 i_d0 i_never i_firstCame i_longRun i_moved i_crowd i_l0 i_fitMany i_fitLeast i_fitMost m_fitPost m_fitEnd m_keptPosts i_x0], [zAr T 0 m_all 3952 f_all], [zAr T 0 m_used 7 f_used]] (fun (r : Int32) bs => bs = [[zO11 mo m_all m_has i_size i_next i_where i_token i_number i_word i_wrong i_farCrossing m_read i_z0 i_crossings i_inns m_posts m_shut m_here i_steps i_done i_at i_gone m_was m_came m_seenAt m_rowWorth m_farBy m_used i_everywhere i_again0 i_d0 i_never i_firstCame i_longRun i_moved i_crowd i_l0 i_fitMany i_fitLeast i_fitMost m_fitPost m_fitEnd m_keptPosts i_x0], [zAr T 0 m_all 3952 f_all], [zAr T 0 m_used 7 f_used]]) := by
  refine zMi_of (own := RX12) (by decide) rfl (Nat.le_of_ble_eq_true rfl) ?_
  intro p e s m args below meth c A ls C hr hlocks hnm hAe G hl
  refine zHide (fun Qz_ hQz_ => ?_)
  have hx := C.1
  have hb := C.2.1
  have hl : lv_has ls 5 [(0, .ref mo), (1, .int w_)] := hl
  have hz := hL.1
  have hcr := hL.cr
  refine lv_iconst (v := 0) hx hb dX12_unusedOf_0 (by decide) ?_
  refine lv_istore_n (lv' := [(2, .int 0), (0, .ref mo), (1, .int w_)]) hx hb dX12_unusedOf_1 rfl hl (by decide) (zLvf_h rfl) (fun ls hl => ?_)
  refine lv_iconst (v := 0) hx hb dX12_unusedOf_2 (by decide) ?_
  refine lv_istore_n (lv' := [(3, .int 0), (2, .int 0), (0, .ref mo), (1, .int w_)]) hx hb dX12_unusedOf_3 rfl hl (by decide) (zLvf_h rfl) (fun ls hl => ?_)
  refine z_lp2 (T := T) 4 (fun (i : Nat) (u : Int32) => [[zO11 mo m_all m_has i_size i_next i_where i_token i_number i_word i_wrong i_farCrossing m_read i_z0 i_crossings i_inns m_posts m_shut m_here i_steps i_done i_at i_gone m_was m_came m_seenAt m_rowWorth m_farBy m_used i_everywhere i_again0 i_d0 i_never i_firstCame i_longRun i_moved i_crowd i_l0 i_fitMany i_fitLeast i_fitMost m_fitPost m_fitEnd m_keptPosts i_x0], [zAr T 0 m_all 3952 f_all], [zAr T 0 m_used 7 f_used]]) (fun (i : Nat) (u : Int32) => [(3, .int (nI i)), (2, .int u), (0, .ref mo), (1, .int w_)]) (fun (i : Nat) (u : Int32) => i ≤ 7) (fun (i : Nat) (u : Int32) => 7 - i) ?_ 0 0 (show 0 ≤ 7 from by omega) G (lv_sub hl [0, 1, 2, 3] rfl)
  intro i u hi ih_4 H locs ls G hl
  replace hi : i ≤ 7 := hi
  replace G : zS T A s.heap s [[zO11 mo m_all m_has i_size i_next i_where i_token i_number i_word i_wrong i_farCrossing m_read i_z0 i_crossings i_inns m_posts m_shut m_here i_steps i_done i_at i_gone m_was m_came m_seenAt m_rowWorth m_farBy m_used i_everywhere i_again0 i_d0 i_never i_firstCame i_longRun i_moved i_crowd i_l0 i_fitMany i_fitLeast i_fitMost m_fitPost m_fitEnd m_keptPosts i_x0], [zAr T 0 m_all 3952 f_all], [zAr T 0 m_used 7 f_used]] _ _ := G
  replace hl : lv_has ls 5 [(3, .int (nI i)), (2, .int u), (0, .ref mo), (1, .int w_)] := hl
  refine lv_iload_n hx hb dX12_unusedOf_4 rfl (lv_at hl 0 rfl) ?_
  refine lv_aload_n hx hb dX12_unusedOf_5 rfl (lv_at hl 2 rfl) ?_
  refine z_get C G clX12 0 rfl 12 (by decide) m_fl_RX12_169 rfl dX12_unusedOf_6 ?_
  refine lv_icmp_ge (tgt := 68) hx hb dX12_unusedOf_9 (by decide) (fun c_1 => ?_) (fun c_1 => ?_)
  · have c_1n : i_crossings.toInt ≤ (i : Int) := by have q := (fa_le _ _).mp c_1; rw [nI_toInt (n := i) (by omega)] at q; exact q
    refine lv_iload_n hx hb dX12_unusedOf_68 rfl (lv_at hl 1 rfl) ?_
    exact z_back hQz_ (z_iret C hr hlocks G (Nat.le_of_ble_eq_true rfl) (Nat.le_of_ble_eq_true rfl) dX12_unusedOf_69 rfl)
  · have c_1n : ¬ i_crossings.toInt ≤ (i : Int) := fun q => c_1 ((fa_le _ _).mpr (by rw [nI_toInt (n := i) (by omega)]; exact q))
    refine lv_iconst (v := 0) hx hb dX12_unusedOf_12 (by decide) ?_
    refine lv_istore (lv' := [(4, .int 0), (3, .int (nI i)), (2, .int u), (0, .ref mo), (1, .int w_)]) hx hb dX12_unusedOf_13 hl (by decide) (zLvf_h rfl) (fun ls hl => ?_)
    refine z_lp2 (T := T) 15 (fun (k : Nat) (v : Int32) => [[zO11 mo m_all m_has i_size i_next i_where i_token i_number i_word i_wrong i_farCrossing m_read i_z0 i_crossings i_inns m_posts m_shut m_here i_steps i_done i_at i_gone m_was m_came m_seenAt m_rowWorth m_farBy m_used i_everywhere i_again0 i_d0 i_never i_firstCame i_longRun i_moved i_crowd i_l0 i_fitMany i_fitLeast i_fitMost m_fitPost m_fitEnd m_keptPosts i_x0], [zAr T 0 m_all 3952 f_all], [zAr T 0 m_used 7 f_used]]) (fun (k : Nat) (v : Int32) => [(4, .int (nI k)), (3, .int (nI i)), (2, .int v), (0, .ref mo), (1, .int w_)]) (fun (k : Nat) (v : Int32) => k ≤ 4) (fun (k : Nat) (v : Int32) => 4 - k) ?_ 0 u (show 0 ≤ 4 from by omega) G (lv_sub hl [0, 1, 2, 3, 4] rfl)
    intro k v hk ih_15 H locs ls G hl
    replace hk : k ≤ 4 := hk
    replace G : zS T A s.heap s [[zO11 mo m_all m_has i_size i_next i_where i_token i_number i_word i_wrong i_farCrossing m_read i_z0 i_crossings i_inns m_posts m_shut m_here i_steps i_done i_at i_gone m_was m_came m_seenAt m_rowWorth m_farBy m_used i_everywhere i_again0 i_d0 i_never i_firstCame i_longRun i_moved i_crowd i_l0 i_fitMany i_fitLeast i_fitMost m_fitPost m_fitEnd m_keptPosts i_x0], [zAr T 0 m_all 3952 f_all], [zAr T 0 m_used 7 f_used]] _ _ := G
    replace hl : lv_has ls 5 [(4, .int (nI k)), (3, .int (nI i)), (2, .int v), (0, .ref mo), (1, .int w_)] := hl
    refine lv_iload hx hb dX12_unusedOf_15 (lv_at hl 0 rfl) ?_
    refine lv_aload_n hx hb dX12_unusedOf_17 rfl (lv_at hl 3 rfl) ?_
    refine lv_iload_n hx hb dX12_unusedOf_18 rfl (lv_at hl 1 rfl) ?_
    have ti_2 : (nI i).toInt = ((i : Nat) : Int) := nI_toInt (by omega)
    refine z_Vi (bc := [[zO11 mo m_all m_has i_size i_next i_where i_token i_number i_word i_wrong i_farCrossing m_read i_z0 i_crossings i_inns m_posts m_shut m_here i_steps i_done i_at i_gone m_was m_came m_seenAt m_rowWorth m_farBy m_used i_everywhere i_again0 i_d0 i_never i_firstCame i_longRun i_moved i_crowd i_l0 i_fitMany i_fitLeast i_fitMost m_fitPost m_fitEnd m_keptPosts i_x0], [zAr T 0 m_all 3952 f_all]]) (br := [[zAr T 0 m_used 7 f_used]]) (As := [.int (nI i)]) (rest := [.int (nI k)]) C G (c_m_roads5 l T mo m_all m_has i_size i_next i_where i_token i_number i_word i_wrong i_farCrossing m_read i_z0 i_crossings i_inns m_posts m_shut m_here i_steps i_done i_at i_gone m_was m_came m_seenAt m_rowWorth m_farBy m_used i_everywhere i_again0 i_d0 i_never i_firstCame i_longRun i_moved i_crowd i_l0 i_fitMany i_fitLeast i_fitMost m_fitPost m_fitEnd m_keptPosts i_x0 f_all (nI i) (by first | with_reducible assumption | with_reducible rfl | omega | assumption | rfl | decide) (by first | with_reducible assumption | with_reducible rfl | omega | assumption | rfl | decide) (by first | with_reducible assumption | with_reducible rfl | omega | assumption | rfl | decide)) (kV_RX12_255 C.2.2.2.2 (Nat.le_of_ble_eq_true rfl) (Nat.le_of_ble_eq_true rfl)) [0, 1] [0, 0] rfl rfl (ci := 11) (qc := (RX12, TX12, 43)) rfl rfl (List.mem_flatten.mpr ⟨_, List.mem_of_getElem? (i := 0) rfl, List.mem_cons_self⟩) rfl rfl hl.1 dX12_unusedOf_19 (Nat.le_of_ble_eq_true rfl) (Nat.le_of_ble_eq_true rfl) (fun r_5 b1 H locs hw G => ?_)
    refine zAn3 hw ?_
    intro hbs9 h_3 h_4
    clear hw
    subst hbs9
    have G : zS T A s.heap s [[zAr T 0 m_used 7 f_used], [zO11 mo m_all m_has i_size i_next i_where i_token i_number i_word i_wrong i_farCrossing m_read i_z0 i_crossings i_inns m_posts m_shut m_here i_steps i_done i_at i_gone m_was m_came m_seenAt m_rowWorth m_farBy m_used i_everywhere i_again0 i_d0 i_never i_firstCame i_longRun i_moved i_crowd i_l0 i_fitMany i_fitLeast i_fitMost m_fitPost m_fitEnd m_keptPosts i_x0], [zAr T 0 m_all 3952 f_all]] _ _ := G
    refine lv_icmp_ge (tgt := 62) hx hb dX12_unusedOf_22 (by decide) (fun c_6 => ?_) (fun c_6 => ?_)
    · have c_6n : r_5.toInt ≤ (k : Int) := by have q := (fa_le _ _).mp c_6; rw [nI_toInt (n := k) (by omega)] at q; exact q
      refine lv_iinc (v := nI (i + 1)) (lv' := [(3, .int (nI (i + 1))), (4, .int (nI k)), (2, .int v), (0, .ref mo), (1, .int w_)]) hx hb dX12_unusedOf_62 hl (k := 1) rfl (z_inc i 1) (by decide) (zLvf_h rfl) (fun ls hl => ?_)
      refine lv_goto (tgt := 4) hx hb dX12_unusedOf_65 (by decide) ?_
      have G := G.sub (bs' := [[zO11 mo m_all m_has i_size i_next i_where i_token i_number i_word i_wrong i_farCrossing m_read i_z0 i_crossings i_inns m_posts m_shut m_here i_steps i_done i_at i_gone m_was m_came m_seenAt m_rowWorth m_farBy m_used i_everywhere i_again0 i_d0 i_never i_firstCame i_longRun i_moved i_crowd i_l0 i_fitMany i_fitLeast i_fitMost m_fitPost m_fitEnd m_keptPosts i_x0], [zAr T 0 m_all 3952 f_all], [zAr T 0 m_used 7 f_used]]) [1, 2, 0] rfl
      exact ih_4 (i + 1) v (show (i + 1) ≤ 7 from by omega) (show 7 - (i + 1) < 7 - i from by omega) _ _ ls G (lv_sub hl [0, 2, 3, 4] rfl)
    · have c_6n : ¬ r_5.toInt ≤ (k : Int) := fun q => c_6 ((fa_le _ _).mpr (by rw [nI_toInt (n := k) (by omega)]; exact q))
      refine lv_iload_n hx hb dX12_unusedOf_25 rfl (lv_at hl 2 rfl) ?_
      refine lv_iload_n hx hb dX12_unusedOf_26 rfl (lv_at hl 4 rfl) ?_
      refine lv_iload_n hx hb dX12_unusedOf_27 rfl (lv_at hl 1 rfl) ?_
      refine lv_ishr hx hb dX12_unusedOf_28 ?_
      refine lv_iconst (v := 1) hx hb dX12_unusedOf_29 (by decide) ?_
      refine lv_iand hx hb dX12_unusedOf_30 ?_
      refine lv_iconst (v := 1) hx hb dX12_unusedOf_31 (by decide) ?_
      refine lv_icmp_ne (tgt := 53) hx hb dX12_unusedOf_32 (by decide) (fun c_7 => ?_) (fun c_7 => ?_)
      · have c_7n : ¬ ((w_ >>> ((nI i) &&& 31)) &&& 1).toInt = (1 : Int) := fun q => c_7 ((fa_eq _ _).mpr q)
        refine lv_iconst (v := 0) hx hb dX12_unusedOf_53 (by decide) ?_
        refine lv_iadd hx hb dX12_unusedOf_54 ?_
        refine lv_istore_n (lv' := [(2, .int (v + 0)), (4, .int (nI k)), (3, .int (nI i)), (0, .ref mo), (1, .int w_)]) hx hb dX12_unusedOf_55 rfl hl (by decide) (zLvf_h rfl) (fun ls hl => ?_)
        refine lv_iinc (v := nI (k + 1)) (lv' := [(4, .int (nI (k + 1))), (2, .int (v + 0)), (3, .int (nI i)), (0, .ref mo), (1, .int w_)]) hx hb dX12_unusedOf_56 hl (k := 1) rfl (z_inc k 1) (by decide) (zLvf_h rfl) (fun ls hl => ?_)
        refine lv_goto (tgt := 15) hx hb dX12_unusedOf_59 (by decide) ?_
        have G := G.sub (bs' := [[zO11 mo m_all m_has i_size i_next i_where i_token i_number i_word i_wrong i_farCrossing m_read i_z0 i_crossings i_inns m_posts m_shut m_here i_steps i_done i_at i_gone m_was m_came m_seenAt m_rowWorth m_farBy m_used i_everywhere i_again0 i_d0 i_never i_firstCame i_longRun i_moved i_crowd i_l0 i_fitMany i_fitLeast i_fitMost m_fitPost m_fitEnd m_keptPosts i_x0], [zAr T 0 m_all 3952 f_all], [zAr T 0 m_used 7 f_used]]) [1, 2, 0] rfl
        exact ih_15 (k + 1) (v + 0) (show (k + 1) ≤ 4 from by omega) (show 4 - (k + 1) < 4 - k from by omega) _ _ ls G (lv_sub hl [0, 2, 1, 3, 4] rfl)
      · have c_7n : ((w_ >>> ((nI i) &&& 31)) &&& 1).toInt = (1 : Int) := (fa_eq _ _).mp c_7
        refine lv_aload_n hx hb dX12_unusedOf_35 rfl (lv_at hl 3 rfl) ?_
        refine z_get C G clX12 1 rfl 26 (by decide) m_fl_RX12_44 rfl dX12_unusedOf_36 ?_
        refine lv_iload_n hx hb dX12_unusedOf_39 rfl (lv_at hl 1 rfl) ?_
        refine z_ild C G 0 rfl (vp_in_nI (by omega) (by decide)) dX12_unusedOf_40 ?_
        refine lv_topi (fun v_8 ev_8 => ?_)
        rw [nI_clamp (by omega)] at ev_8
        subst ev_8
        refine lv_iload hx hb dX12_unusedOf_41 (lv_at hl 0 rfl) ?_
        refine lv_ishr hx hb dX12_unusedOf_43 ?_
        refine lv_iconst (v := 1) hx hb dX12_unusedOf_44 (by decide) ?_
        refine lv_iand hx hb dX12_unusedOf_45 ?_
        refine lv_if_ne (tgt := 53) hx hb dX12_unusedOf_46 (by decide) (fun c_9 => ?_) (fun c_9 => ?_)
        · have c_9n : ¬ (((f_used i) >>> ((nI k) &&& 31)) &&& 1).toInt = (0 : Int) := fun q => c_9 ((fa_eq _ _).mpr q)
          refine lv_iconst (v := 0) hx hb dX12_unusedOf_53 (by decide) ?_
          refine lv_iadd hx hb dX12_unusedOf_54 ?_
          refine lv_istore_n (lv' := [(2, .int (v + 0)), (4, .int (nI k)), (3, .int (nI i)), (0, .ref mo), (1, .int w_)]) hx hb dX12_unusedOf_55 rfl hl (by decide) (zLvf_h rfl) (fun ls hl => ?_)
          refine lv_iinc (v := nI (k + 1)) (lv' := [(4, .int (nI (k + 1))), (2, .int (v + 0)), (3, .int (nI i)), (0, .ref mo), (1, .int w_)]) hx hb dX12_unusedOf_56 hl (k := 1) rfl (z_inc k 1) (by decide) (zLvf_h rfl) (fun ls hl => ?_)
          refine lv_goto (tgt := 15) hx hb dX12_unusedOf_59 (by decide) ?_
          have G := G.sub (bs' := [[zO11 mo m_all m_has i_size i_next i_where i_token i_number i_word i_wrong i_farCrossing m_read i_z0 i_crossings i_inns m_posts m_shut m_here i_steps i_done i_at i_gone m_was m_came m_seenAt m_rowWorth m_farBy m_used i_everywhere i_again0 i_d0 i_never i_firstCame i_longRun i_moved i_crowd i_l0 i_fitMany i_fitLeast i_fitMost m_fitPost m_fitEnd m_keptPosts i_x0], [zAr T 0 m_all 3952 f_all], [zAr T 0 m_used 7 f_used]]) [1, 2, 0] rfl
          exact ih_15 (k + 1) (v + 0) (show (k + 1) ≤ 4 from by omega) (show 4 - (k + 1) < 4 - k from by omega) _ _ ls G (lv_sub hl [0, 2, 1, 3, 4] rfl)
        · have c_9n : (((f_used i) >>> ((nI k) &&& 31)) &&& 1).toInt = (0 : Int) := (fa_eq _ _).mp c_9
          refine lv_iconst (v := 1) hx hb dX12_unusedOf_49 (by decide) ?_
          refine lv_goto (tgt := 54) hx hb dX12_unusedOf_50 (by decide) ?_
          refine lv_iadd hx hb dX12_unusedOf_54 ?_
          refine lv_istore_n (lv' := [(2, .int (v + 1)), (4, .int (nI k)), (3, .int (nI i)), (0, .ref mo), (1, .int w_)]) hx hb dX12_unusedOf_55 rfl hl (by decide) (zLvf_h rfl) (fun ls hl => ?_)
          refine lv_iinc (v := nI (k + 1)) (lv' := [(4, .int (nI (k + 1))), (2, .int (v + 1)), (3, .int (nI i)), (0, .ref mo), (1, .int w_)]) hx hb dX12_unusedOf_56 hl (k := 1) rfl (z_inc k 1) (by decide) (zLvf_h rfl) (fun ls hl => ?_)
          refine lv_goto (tgt := 15) hx hb dX12_unusedOf_59 (by decide) ?_
          have G := G.sub (bs' := [[zO11 mo m_all m_has i_size i_next i_where i_token i_number i_word i_wrong i_farCrossing m_read i_z0 i_crossings i_inns m_posts m_shut m_here i_steps i_done i_at i_gone m_was m_came m_seenAt m_rowWorth m_farBy m_used i_everywhere i_again0 i_d0 i_never i_firstCame i_longRun i_moved i_crowd i_l0 i_fitMany i_fitLeast i_fitMost m_fitPost m_fitEnd m_keptPosts i_x0], [zAr T 0 m_all 3952 f_all], [zAr T 0 m_used 7 f_used]]) [1, 2, 0] rfl
          exact ih_15 (k + 1) (v + 1) (show (k + 1) ≤ 4 from by omega) (show 4 - (k + 1) < 4 - k from by omega) _ _ ls G (lv_sub hl [0, 2, 1, 3, 4] rfl)
set_option maxHeartbeats 4000000 in
set_option maxRecDepth 100000 in
/-- c_m_roundOf -/
theorem c_m_roundOf (l : Launch) (T : zTy) (mo : Nat) (m_all : Nat) (m_has : Nat) (i_size : Int32) (i_next : Int32) (i_where : Int32) (i_token : Int32) (i_number : Int32) (i_word : Int32) (i_wrong : Int32) (i_farCrossing : Int32) (m_read : Nat) (i_z0 : Int32) (i_crossings : Int32) (i_inns : Int32) (m_posts : Nat) (m_shut : Nat) (m_here : Nat) (i_steps : Int32) (i_done : Int32) (i_at : Int32) (i_gone : Int32) (m_was : Nat) (m_came : Nat) (m_seenAt : Nat) (m_rowWorth : Nat) (m_farBy : Nat) (m_used : Nat) (i_everywhere : Int32) (i_again0 : Int32) (i_d0 : Int32) (i_never : Int32) (i_firstCame : Int32) (i_longRun : Int32) (i_moved : Int32) (i_crowd : Int32) (i_l0 : Int32) (i_fitMany : Int32) (i_fitLeast : Int32) (i_fitMost : Int32) (m_fitPost : Nat) (m_fitEnd : Nat) (m_keptPosts : Nat) (i_x0 : Int32) (f_all : Nat → Int32) (f_posts : Nat → Int32) (f_shut : Nat → Int32) (f_was : Nat → Int32) (hL : zML f_all i_z0 i_crossings) (hP : zMP f_posts) (ha0 : 0 ≤ i_at.toInt) (ha6 : i_at.toInt ≤ 6) (hgA : 0 ≤ i_gone.toInt) (hgB : i_gone.toInt ≤ 499) : zMi l T yX12_roundOf cX12_roundOf 4 (some .int) 4 0 0 [.ref mo] [[zO11 mo m_all m_has i_size i_next i_where i_token i_number i_word i_wrong i_farCrossing m_read i_z0 i_crossings i_inns m_posts m_shut m_here i_steps i_done i_at i_gone m_was m_came m_seenAt m_rowWorth m_farBy m_used i_everywhere i_again0 i_d0 i_never i_firstCame i_longRun i_moved i_crowd i_l0 i_fitMany i_fitLeast i_fitMost m_fitPost m_fitEnd m_keptPosts i_x0], [zAr T 0 m_all 3952 f_all], [zAr T 0 m_posts 7 f_posts], [zAr T 0 m_shut 7 f_shut], [zAr T 0 m_was 7 f_was]] (fun (r : Int32) bs => ∃ (j_at : Int32) (j_gone : Int32) (g_posts : Nat → Int32) (g_was : Nat → Int32), bs = [[zO11 mo m_all m_has i_size i_next i_where i_token i_number i_word i_wrong i_farCrossing m_read i_z0 i_crossings i_inns m_posts m_shut m_here i_steps i_done j_at j_gone m_was m_came m_seenAt m_rowWorth m_farBy m_used i_everywhere i_again0 i_d0 i_never i_firstCame i_longRun i_moved i_crowd i_l0 i_fitMany i_fitLeast i_fitMost m_fitPost m_fitEnd m_keptPosts i_x0], [zAr T 0 m_all 3952 f_all], [zAr T 0 m_posts 7 g_posts], [zAr T 0 m_shut 7 f_shut], [zAr T 0 m_was 7 g_was]] ∧ zMP g_posts) := by
  refine zMi_of (own := RX12) (by decide) rfl (Nat.le_of_ble_eq_true rfl) ?_
  intro p e s m args below meth c A ls C hr hlocks hnm hAe G hl
  refine zHide (fun Qz_ hQz_ => ?_)
  have hx := C.1
  have hb := C.2.1
  have hl : lv_has ls 4 [(0, .ref mo)] := hl
  have hz := hL.1
  have hcr := hL.cr
  refine lv_aload_n hx hb dX12_roundOf_0 rfl (lv_at hl 0 rfl) ?_
  refine z_get C G clX12 0 rfl 20 (by decide) m_fl_RX12_208 rfl dX12_roundOf_1 ?_
  refine lv_sipush (v := 499) hx hb dX12_roundOf_4 (by decide) ?_
  refine lv_icmp_lt (tgt := 21) hx hb dX12_roundOf_7 (by decide) (fun c_1 => ?_) (fun c_1 => ?_)
  · have c_1n : i_gone.toInt < (499 : Int) := (fa_lt _ _).mp c_1
    refine lv_iconst (v := (-1)) hx hb dX12_roundOf_21 (by decide) ?_
    exact z_back hQz_ (z_iret C hr hlocks G (Nat.le_of_ble_eq_true rfl) (Nat.le_of_ble_eq_true rfl) dX12_roundOf_22 ⟨i_at, i_gone, f_posts, f_was, rfl, (by first | with_reducible assumption | omega | trivial | assumption)⟩)
  · have c_1n : ¬ i_gone.toInt < (499 : Int) := fun q => c_1 ((fa_lt _ _).mpr q)
    refine lv_aload_n hx hb dX12_roundOf_10 rfl (lv_at hl 0 rfl) ?_
    refine lv_aload_n hx hb dX12_roundOf_11 rfl (lv_at hl 0 rfl) ?_
    refine z_get C G clX12 0 rfl 19 (by decide) m_fl_RX12_202 rfl dX12_roundOf_12 ?_
    refine z_Vi (bc := [[zO11 mo m_all m_has i_size i_next i_where i_token i_number i_word i_wrong i_farCrossing m_read i_z0 i_crossings i_inns m_posts m_shut m_here i_steps i_done i_at i_gone m_was m_came m_seenAt m_rowWorth m_farBy m_used i_everywhere i_again0 i_d0 i_never i_firstCame i_longRun i_moved i_crowd i_l0 i_fitMany i_fitLeast i_fitMost m_fitPost m_fitEnd m_keptPosts i_x0]]) (br := [[zAr T 0 m_all 3952 f_all], [zAr T 0 m_posts 7 f_posts], [zAr T 0 m_shut 7 f_shut], [zAr T 0 m_was 7 f_was]]) (As := [.int i_at]) (rest := []) C G (c_m_isInn l T mo m_all m_has i_size i_next i_where i_token i_number i_word i_wrong i_farCrossing m_read i_z0 i_crossings i_inns m_posts m_shut m_here i_steps i_done i_at i_gone m_was m_came m_seenAt m_rowWorth m_farBy m_used i_everywhere i_again0 i_d0 i_never i_firstCame i_longRun i_moved i_crowd i_l0 i_fitMany i_fitLeast i_fitMost m_fitPost m_fitEnd m_keptPosts i_x0 i_at) (kV_RX12_178 C.2.2.2.2 (Nat.le_of_ble_eq_true rfl) (Nat.le_of_ble_eq_true rfl)) [0] [0] rfl rfl (ci := 11) (qc := (RX12, TX12, 43)) rfl rfl (List.mem_flatten.mpr ⟨_, List.mem_of_getElem? (i := 0) rfl, List.mem_cons_self⟩) rfl rfl hl.1 dX12_roundOf_15 (Nat.le_of_ble_eq_true rfl) (Nat.le_of_ble_eq_true rfl) (fun r_3 b1 H locs hw G => ?_)
    refine zAn2 hw ?_
    intro hbs9 hc_2
    clear hw
    subst hbs9
    have G : zS T A s.heap s [[zAr T 0 m_all 3952 f_all], [zAr T 0 m_posts 7 f_posts], [zAr T 0 m_shut 7 f_shut], [zAr T 0 m_was 7 f_was], [zO11 mo m_all m_has i_size i_next i_where i_token i_number i_word i_wrong i_farCrossing m_read i_z0 i_crossings i_inns m_posts m_shut m_here i_steps i_done i_at i_gone m_was m_came m_seenAt m_rowWorth m_farBy m_used i_everywhere i_again0 i_d0 i_never i_firstCame i_longRun i_moved i_crowd i_l0 i_fitMany i_fitLeast i_fitMost m_fitPost m_fitEnd m_keptPosts i_x0]] _ _ := G
    rcases hc_2 with ⟨rfl, h_4⟩ | ⟨rfl, h_5⟩
    · have h_4 : zInn i_inns i_at := h_4
      refine lv_if_eq (tgt := 23) hx hb dX12_roundOf_18 (by decide) (fun q => absurd q (by decide)) (fun _ => ?_)
      refine lv_iconst (v := (-1)) hx hb dX12_roundOf_21 (by decide) ?_
      have G := G.sub (bs' := [[zO11 mo m_all m_has i_size i_next i_where i_token i_number i_word i_wrong i_farCrossing m_read i_z0 i_crossings i_inns m_posts m_shut m_here i_steps i_done i_at i_gone m_was m_came m_seenAt m_rowWorth m_farBy m_used i_everywhere i_again0 i_d0 i_never i_firstCame i_longRun i_moved i_crowd i_l0 i_fitMany i_fitLeast i_fitMost m_fitPost m_fitEnd m_keptPosts i_x0], [zAr T 0 m_all 3952 f_all], [zAr T 0 m_posts 7 f_posts], [zAr T 0 m_shut 7 f_shut], [zAr T 0 m_was 7 f_was]]) [4, 0, 1, 2, 3] rfl
      exact z_back hQz_ (z_iret C hr hlocks G (Nat.le_of_ble_eq_true rfl) (Nat.le_of_ble_eq_true rfl) dX12_roundOf_22 ⟨i_at, i_gone, f_posts, f_was, rfl, (by first | with_reducible assumption | omega | trivial | assumption)⟩)
    · have h_5 : ¬ zInn i_inns i_at := h_5
      refine lv_if_eq (tgt := 23) hx hb dX12_roundOf_18 (by decide) (fun _ => ?_) (fun q => absurd (by decide) q)
      refine lv_aload_n hx hb dX12_roundOf_23 rfl (lv_at hl 0 rfl) ?_
      refine z_get C G clX12 4 rfl 19 (by decide) m_fl_RX12_202 rfl dX12_roundOf_24 ?_
      refine lv_istore_n (lv' := [(1, .int i_at), (0, .ref mo)]) hx hb dX12_roundOf_27 rfl hl (by decide) (zLvf_h rfl) (fun ls hl => ?_)
      refine lv_aload_n hx hb dX12_roundOf_28 rfl (lv_at hl 1 rfl) ?_
      refine z_Vi (bc := [[zO11 mo m_all m_has i_size i_next i_where i_token i_number i_word i_wrong i_farCrossing m_read i_z0 i_crossings i_inns m_posts m_shut m_here i_steps i_done i_at i_gone m_was m_came m_seenAt m_rowWorth m_farBy m_used i_everywhere i_again0 i_d0 i_never i_firstCame i_longRun i_moved i_crowd i_l0 i_fitMany i_fitLeast i_fitMost m_fitPost m_fitEnd m_keptPosts i_x0], [zAr T 0 m_posts 7 f_posts]]) (br := [[zAr T 0 m_all 3952 f_all], [zAr T 0 m_shut 7 f_shut], [zAr T 0 m_was 7 f_was]]) (As := []) (rest := []) C G (c_m_postsNow l T mo m_all m_has i_size i_next i_where i_token i_number i_word i_wrong i_farCrossing m_read i_z0 i_crossings i_inns m_posts m_shut m_here i_steps i_done i_at i_gone m_was m_came m_seenAt m_rowWorth m_farBy m_used i_everywhere i_again0 i_d0 i_never i_firstCame i_longRun i_moved i_crowd i_l0 i_fitMany i_fitLeast i_fitMost m_fitPost m_fitEnd m_keptPosts i_x0 f_posts (by first | with_reducible assumption | with_reducible rfl | omega | assumption | rfl | decide) (by first | with_reducible assumption | with_reducible rfl | omega | assumption | rfl | decide)) (kV_RX12_220 C.2.2.2.2 (Nat.le_of_ble_eq_true rfl) (Nat.le_of_ble_eq_true rfl)) [4, 1] [1, 2] rfl rfl (ci := 11) (qc := (RX12, TX12, 43)) rfl rfl (List.mem_flatten.mpr ⟨_, List.mem_of_getElem? (i := 0) rfl, List.mem_cons_self⟩) rfl rfl hl.1 dX12_roundOf_29 (Nat.le_of_ble_eq_true rfl) (Nat.le_of_ble_eq_true rfl) (fun r_8 b1 H locs hw G => ?_)
      refine zAn3 hw ?_
      intro hbs9 h_6 h_7
      clear hw
      subst hbs9
      have G : zS T A s.heap s [[zAr T 0 m_all 3952 f_all], [zAr T 0 m_shut 7 f_shut], [zAr T 0 m_was 7 f_was], [zO11 mo m_all m_has i_size i_next i_where i_token i_number i_word i_wrong i_farCrossing m_read i_z0 i_crossings i_inns m_posts m_shut m_here i_steps i_done i_at i_gone m_was m_came m_seenAt m_rowWorth m_farBy m_used i_everywhere i_again0 i_d0 i_never i_firstCame i_longRun i_moved i_crowd i_l0 i_fitMany i_fitLeast i_fitMost m_fitPost m_fitEnd m_keptPosts i_x0], [zAr T 0 m_posts 7 f_posts]] _ _ := G
      refine lv_istore_n (lv' := [(2, .int r_8), (1, .int i_at), (0, .ref mo)]) hx hb dX12_roundOf_32 rfl hl (by decide) (zLvf_h rfl) (fun ls hl => ?_)
      refine lv_iconst (v := 1) hx hb dX12_roundOf_33 (by decide) ?_
      refine lv_istore_n (lv' := [(3, .int 1), (2, .int r_8), (1, .int i_at), (0, .ref mo)]) hx hb dX12_roundOf_34 rfl hl (by decide) (zLvf_h rfl) (fun ls hl => ?_)
      refine z_lp5 (T := T) 35 (fun (i : Nat) (xat : Int32) (xgone : Int32) (xposts : Nat → Int32) (xwas : Nat → Int32) => [[zAr T 0 m_all 3952 f_all], [zAr T 0 m_shut 7 f_shut], [zAr T 0 m_was 7 xwas], [zO11 mo m_all m_has i_size i_next i_where i_token i_number i_word i_wrong i_farCrossing m_read i_z0 i_crossings i_inns m_posts m_shut m_here i_steps i_done xat xgone m_was m_came m_seenAt m_rowWorth m_farBy m_used i_everywhere i_again0 i_d0 i_never i_firstCame i_longRun i_moved i_crowd i_l0 i_fitMany i_fitLeast i_fitMost m_fitPost m_fitEnd m_keptPosts i_x0], [zAr T 0 m_posts 7 xposts]]) (fun (i : Nat) (xat : Int32) (xgone : Int32) (xposts : Nat → Int32) (xwas : Nat → Int32) => [(3, .int (nI i)), (2, .int r_8), (1, .int i_at), (0, .ref mo)]) (fun (i : Nat) (xat : Int32) (xgone : Int32) (xposts : Nat → Int32) (xwas : Nat → Int32) => i ≤ 1000 ∧ zMP xposts ∧ 0 ≤ xat.toInt ∧ xat.toInt ≤ 6 ∧ 0 ≤ xgone.toInt ∧ xgone.toInt ≤ 500 + i) (fun (i : Nat) (xat : Int32) (xgone : Int32) (xposts : Nat → Int32) (xwas : Nat → Int32) => 1000 - i) ?_ 1 i_at i_gone f_posts f_was (show 1 ≤ 1000 ∧ zMP f_posts ∧ 0 ≤ i_at.toInt ∧ i_at.toInt ≤ 6 ∧ 0 ≤ i_gone.toInt ∧ i_gone.toInt ≤ 500 + 1 from ⟨by omega, (by first | with_reducible assumption | assumption), by omega, by omega, by omega, by omega⟩) G (lv_sub hl [0, 1, 2, 3] rfl)
      intro i xat xgone xposts xwas hI9 ih_35 H locs ls G hl
      replace hI9 : i ≤ 1000 ∧ zMP xposts ∧ 0 ≤ xat.toInt ∧ xat.toInt ≤ 6 ∧ 0 ≤ xgone.toInt ∧ xgone.toInt ≤ 500 + i := hI9
      refine zAn6 hI9 ?_
      intro hi hQ hat0 hat6 hgo0 hgo9
      clear hI9
      replace G : zS T A s.heap s [[zAr T 0 m_all 3952 f_all], [zAr T 0 m_shut 7 f_shut], [zAr T 0 m_was 7 xwas], [zO11 mo m_all m_has i_size i_next i_where i_token i_number i_word i_wrong i_farCrossing m_read i_z0 i_crossings i_inns m_posts m_shut m_here i_steps i_done xat xgone m_was m_came m_seenAt m_rowWorth m_farBy m_used i_everywhere i_again0 i_d0 i_never i_firstCame i_longRun i_moved i_crowd i_l0 i_fitMany i_fitLeast i_fitMost m_fitPost m_fitEnd m_keptPosts i_x0], [zAr T 0 m_posts 7 xposts]] _ _ := G
      replace hl : lv_has ls 4 [(3, .int (nI i)), (2, .int r_8), (1, .int i_at), (0, .ref mo)] := hl
      refine lv_iload_n hx hb dX12_roundOf_35 rfl (lv_at hl 0 rfl) ?_
      refine lv_sipush (v := 1000) hx hb dX12_roundOf_36 (by decide) ?_
      refine lv_icmp_ge (tgt := 71) hx hb dX12_roundOf_39 (by decide) (fun c_9 => ?_) (fun c_9 => ?_)
      · have c_9n : 1000 ≤ i := (nI_leI (a := 1000) (b := i) (by omega) (by omega)).mp c_9
        refine lv_iconst (v := (-1)) hx hb dX12_roundOf_71 (by decide) ?_
        have G := G.sub (bs' := [[zO11 mo m_all m_has i_size i_next i_where i_token i_number i_word i_wrong i_farCrossing m_read i_z0 i_crossings i_inns m_posts m_shut m_here i_steps i_done xat xgone m_was m_came m_seenAt m_rowWorth m_farBy m_used i_everywhere i_again0 i_d0 i_never i_firstCame i_longRun i_moved i_crowd i_l0 i_fitMany i_fitLeast i_fitMost m_fitPost m_fitEnd m_keptPosts i_x0], [zAr T 0 m_all 3952 f_all], [zAr T 0 m_posts 7 xposts], [zAr T 0 m_shut 7 f_shut], [zAr T 0 m_was 7 xwas]]) [3, 0, 4, 1, 2] rfl
        exact z_back hQz_ (z_iret C hr hlocks G (Nat.le_of_ble_eq_true rfl) (Nat.le_of_ble_eq_true rfl) dX12_roundOf_72 ⟨xat, xgone, xposts, xwas, rfl, (by first | with_reducible assumption | omega | trivial | assumption)⟩)
      · have c_9n : ¬ 1000 ≤ i := fun q => c_9 ((nI_leI (a := 1000) (b := i) (by omega) (by omega)).mpr q)
        refine lv_aload_n hx hb dX12_roundOf_42 rfl (lv_at hl 3 rfl) ?_
        refine z_Vi (bc := [[zO11 mo m_all m_has i_size i_next i_where i_token i_number i_word i_wrong i_farCrossing m_read i_z0 i_crossings i_inns m_posts m_shut m_here i_steps i_done xat xgone m_was m_came m_seenAt m_rowWorth m_farBy m_used i_everywhere i_again0 i_d0 i_never i_firstCame i_longRun i_moved i_crowd i_l0 i_fitMany i_fitLeast i_fitMost m_fitPost m_fitEnd m_keptPosts i_x0], [zAr T 0 m_all 3952 f_all], [zAr T 0 m_posts 7 xposts], [zAr T 0 m_shut 7 f_shut], [zAr T 0 m_was 7 xwas]]) (br := []) (As := []) (rest := []) C G (c_m_stepsOn l T mo m_all m_has i_size i_next i_where i_token i_number i_word i_wrong i_farCrossing m_read i_z0 i_crossings i_inns m_posts m_shut m_here i_steps i_done xat xgone m_was m_came m_seenAt m_rowWorth m_farBy m_used i_everywhere i_again0 i_d0 i_never i_firstCame i_longRun i_moved i_crowd i_l0 i_fitMany i_fitLeast i_fitMost m_fitPost m_fitEnd m_keptPosts i_x0 f_all xposts f_shut xwas (by first | with_reducible assumption | with_reducible rfl | omega | assumption | rfl | decide) (by first | with_reducible assumption | with_reducible rfl | omega | assumption | rfl | decide) (by first | with_reducible assumption | with_reducible rfl | omega | assumption | rfl | decide) (by first | with_reducible assumption | with_reducible rfl | omega | assumption | rfl | decide) (by first | with_reducible assumption | with_reducible rfl | omega | assumption | rfl | decide) (by first | with_reducible assumption | with_reducible rfl | omega | assumption | rfl | decide)) (kV_RX12_214 C.2.2.2.2 (Nat.le_of_ble_eq_true rfl) (Nat.le_of_ble_eq_true rfl)) [3, 0, 4, 1, 2] [0, 0, 0, 0, 0] rfl rfl (ci := 11) (qc := (RX12, TX12, 43)) rfl rfl (List.mem_flatten.mpr ⟨_, List.mem_of_getElem? (i := 0) rfl, List.mem_cons_self⟩) rfl rfl hl.1 dX12_roundOf_43 (Nat.le_of_ble_eq_true rfl) (Nat.le_of_ble_eq_true rfl) (fun r_18 b1 H locs hw G => ?_)
        refine zEx4 hw ?_
        intro j_at_10 j_gone_11 g_posts_12 g_was_13
        refine zCu5 ?_
        intro hbs9 h_14 h_15 h_16 hc_17
        clear hw
        subst hbs9
        have G : zS T A s.heap s [[zO11 mo m_all m_has i_size i_next i_where i_token i_number i_word i_wrong i_farCrossing m_read i_z0 i_crossings i_inns m_posts m_shut m_here i_steps i_done j_at_10 j_gone_11 m_was m_came m_seenAt m_rowWorth m_farBy m_used i_everywhere i_again0 i_d0 i_never i_firstCame i_longRun i_moved i_crowd i_l0 i_fitMany i_fitLeast i_fitMost m_fitPost m_fitEnd m_keptPosts i_x0], [zAr T 0 m_all 3952 f_all], [zAr T 0 m_posts 7 g_posts_12], [zAr T 0 m_shut 7 f_shut], [zAr T 0 m_was 7 g_was_13]] _ _ := G
        rcases hc_17 with ⟨rfl, h_19⟩ | ⟨rfl, h_20⟩
        · have h_19 : j_gone_11.toInt = xgone.toInt + 1 := h_19
          refine lv_pop hx hb dX12_roundOf_46 rfl ?_
          refine lv_aload_n hx hb dX12_roundOf_47 rfl (lv_at hl 3 rfl) ?_
          refine z_get C G clX12 0 rfl 19 (by decide) m_fl_RX12_202 rfl dX12_roundOf_48 ?_
          refine lv_iload_n hx hb dX12_roundOf_51 rfl (lv_at hl 2 rfl) ?_
          refine lv_icmp_ne (tgt := 65) hx hb dX12_roundOf_52 (by decide) (fun c_21 => ?_) (fun c_21 => ?_)
          · have c_21n : ¬ j_at_10.toInt = i_at.toInt := fun q => c_21 ((fa_eq _ _).mpr q)
            refine lv_iinc (v := nI (i + 1)) (lv' := [(3, .int (nI (i + 1))), (2, .int r_8), (1, .int i_at), (0, .ref mo)]) hx hb dX12_roundOf_65 hl (k := 0) rfl (z_inc i 1) (by decide) (zLvf_h rfl) (fun ls hl => ?_)
            refine lv_goto (tgt := 35) hx hb dX12_roundOf_68 (by decide) ?_
            have G := G.sub (bs' := [[zAr T 0 m_all 3952 f_all], [zAr T 0 m_shut 7 f_shut], [zAr T 0 m_was 7 g_was_13], [zO11 mo m_all m_has i_size i_next i_where i_token i_number i_word i_wrong i_farCrossing m_read i_z0 i_crossings i_inns m_posts m_shut m_here i_steps i_done j_at_10 j_gone_11 m_was m_came m_seenAt m_rowWorth m_farBy m_used i_everywhere i_again0 i_d0 i_never i_firstCame i_longRun i_moved i_crowd i_l0 i_fitMany i_fitLeast i_fitMost m_fitPost m_fitEnd m_keptPosts i_x0], [zAr T 0 m_posts 7 g_posts_12]]) [1, 3, 4, 0, 2] rfl
            exact ih_35 (i + 1) j_at_10 j_gone_11 g_posts_12 g_was_13 (show (i + 1) ≤ 1000 ∧ zMP g_posts_12 ∧ 0 ≤ j_at_10.toInt ∧ j_at_10.toInt ≤ 6 ∧ 0 ≤ j_gone_11.toInt ∧ j_gone_11.toInt ≤ 500 + (i + 1) from ⟨by omega, (by first | with_reducible assumption | assumption), by omega, by omega, by omega, by omega⟩) (show 1000 - (i + 1) < 1000 - i from by omega) _ _ ls G (lv_sub hl [0, 1, 2, 3] rfl)
          · have c_21n : j_at_10.toInt = i_at.toInt := (fa_eq _ _).mp c_21
            refine lv_aload_n hx hb dX12_roundOf_55 rfl (lv_at hl 3 rfl) ?_
            refine z_Vi (bc := [[zO11 mo m_all m_has i_size i_next i_where i_token i_number i_word i_wrong i_farCrossing m_read i_z0 i_crossings i_inns m_posts m_shut m_here i_steps i_done j_at_10 j_gone_11 m_was m_came m_seenAt m_rowWorth m_farBy m_used i_everywhere i_again0 i_d0 i_never i_firstCame i_longRun i_moved i_crowd i_l0 i_fitMany i_fitLeast i_fitMost m_fitPost m_fitEnd m_keptPosts i_x0], [zAr T 0 m_posts 7 g_posts_12]]) (br := [[zAr T 0 m_all 3952 f_all], [zAr T 0 m_shut 7 f_shut], [zAr T 0 m_was 7 g_was_13]]) (As := []) (rest := []) C G (c_m_postsNow l T mo m_all m_has i_size i_next i_where i_token i_number i_word i_wrong i_farCrossing m_read i_z0 i_crossings i_inns m_posts m_shut m_here i_steps i_done j_at_10 j_gone_11 m_was m_came m_seenAt m_rowWorth m_farBy m_used i_everywhere i_again0 i_d0 i_never i_firstCame i_longRun i_moved i_crowd i_l0 i_fitMany i_fitLeast i_fitMost m_fitPost m_fitEnd m_keptPosts i_x0 g_posts_12 (by first | with_reducible assumption | with_reducible rfl | omega | assumption | rfl | decide) (by first | with_reducible assumption | with_reducible rfl | omega | assumption | rfl | decide)) (kV_RX12_220 C.2.2.2.2 (Nat.le_of_ble_eq_true rfl) (Nat.le_of_ble_eq_true rfl)) [0, 2] [0, 1] rfl rfl (ci := 11) (qc := (RX12, TX12, 43)) rfl rfl (List.mem_flatten.mpr ⟨_, List.mem_of_getElem? (i := 0) rfl, List.mem_cons_self⟩) rfl rfl hl.1 dX12_roundOf_56 (Nat.le_of_ble_eq_true rfl) (Nat.le_of_ble_eq_true rfl) (fun r_24 b1 H locs hw G => ?_)
            refine zAn3 hw ?_
            intro hbs9 h_22 h_23
            clear hw
            subst hbs9
            have G : zS T A s.heap s [[zAr T 0 m_all 3952 f_all], [zAr T 0 m_shut 7 f_shut], [zAr T 0 m_was 7 g_was_13], [zO11 mo m_all m_has i_size i_next i_where i_token i_number i_word i_wrong i_farCrossing m_read i_z0 i_crossings i_inns m_posts m_shut m_here i_steps i_done j_at_10 j_gone_11 m_was m_came m_seenAt m_rowWorth m_farBy m_used i_everywhere i_again0 i_d0 i_never i_firstCame i_longRun i_moved i_crowd i_l0 i_fitMany i_fitLeast i_fitMost m_fitPost m_fitEnd m_keptPosts i_x0], [zAr T 0 m_posts 7 g_posts_12]] _ _ := G
            refine lv_iload_n hx hb dX12_roundOf_59 rfl (lv_at hl 1 rfl) ?_
            refine lv_icmp_ne (tgt := 65) hx hb dX12_roundOf_60 (by decide) (fun c_25 => ?_) (fun c_25 => ?_)
            · have c_25n : ¬ r_24.toInt = r_8.toInt := fun q => c_25 ((fa_eq _ _).mpr q)
              refine lv_iinc (v := nI (i + 1)) (lv' := [(3, .int (nI (i + 1))), (2, .int r_8), (1, .int i_at), (0, .ref mo)]) hx hb dX12_roundOf_65 hl (k := 0) rfl (z_inc i 1) (by decide) (zLvf_h rfl) (fun ls hl => ?_)
              refine lv_goto (tgt := 35) hx hb dX12_roundOf_68 (by decide) ?_
              exact ih_35 (i + 1) j_at_10 j_gone_11 g_posts_12 g_was_13 (show (i + 1) ≤ 1000 ∧ zMP g_posts_12 ∧ 0 ≤ j_at_10.toInt ∧ j_at_10.toInt ≤ 6 ∧ 0 ≤ j_gone_11.toInt ∧ j_gone_11.toInt ≤ 500 + (i + 1) from ⟨by omega, (by first | with_reducible assumption | assumption), by omega, by omega, by omega, by omega⟩) (show 1000 - (i + 1) < 1000 - i from by omega) _ _ ls G (lv_sub hl [0, 1, 2, 3] rfl)
            · have c_25n : r_24.toInt = r_8.toInt := (fa_eq _ _).mp c_25
              refine lv_iload_n hx hb dX12_roundOf_63 rfl (lv_at hl 0 rfl) ?_
              have G := G.sub (bs' := [[zO11 mo m_all m_has i_size i_next i_where i_token i_number i_word i_wrong i_farCrossing m_read i_z0 i_crossings i_inns m_posts m_shut m_here i_steps i_done j_at_10 j_gone_11 m_was m_came m_seenAt m_rowWorth m_farBy m_used i_everywhere i_again0 i_d0 i_never i_firstCame i_longRun i_moved i_crowd i_l0 i_fitMany i_fitLeast i_fitMost m_fitPost m_fitEnd m_keptPosts i_x0], [zAr T 0 m_all 3952 f_all], [zAr T 0 m_posts 7 g_posts_12], [zAr T 0 m_shut 7 f_shut], [zAr T 0 m_was 7 g_was_13]]) [3, 0, 4, 1, 2] rfl
              exact z_back hQz_ (z_iret C hr hlocks G (Nat.le_of_ble_eq_true rfl) (Nat.le_of_ble_eq_true rfl) dX12_roundOf_64 ⟨j_at_10, j_gone_11, g_posts_12, g_was_13, rfl, (by first | with_reducible assumption | omega | trivial | assumption)⟩)
        · have h_20 : j_gone_11.toInt = xgone.toInt := h_20
          refine lv_pop hx hb dX12_roundOf_46 rfl ?_
          refine lv_aload_n hx hb dX12_roundOf_47 rfl (lv_at hl 3 rfl) ?_
          refine z_get C G clX12 0 rfl 19 (by decide) m_fl_RX12_202 rfl dX12_roundOf_48 ?_
          refine lv_iload_n hx hb dX12_roundOf_51 rfl (lv_at hl 2 rfl) ?_
          refine lv_icmp_ne (tgt := 65) hx hb dX12_roundOf_52 (by decide) (fun c_26 => ?_) (fun c_26 => ?_)
          · have c_26n : ¬ j_at_10.toInt = i_at.toInt := fun q => c_26 ((fa_eq _ _).mpr q)
            refine lv_iinc (v := nI (i + 1)) (lv' := [(3, .int (nI (i + 1))), (2, .int r_8), (1, .int i_at), (0, .ref mo)]) hx hb dX12_roundOf_65 hl (k := 0) rfl (z_inc i 1) (by decide) (zLvf_h rfl) (fun ls hl => ?_)
            refine lv_goto (tgt := 35) hx hb dX12_roundOf_68 (by decide) ?_
            have G := G.sub (bs' := [[zAr T 0 m_all 3952 f_all], [zAr T 0 m_shut 7 f_shut], [zAr T 0 m_was 7 g_was_13], [zO11 mo m_all m_has i_size i_next i_where i_token i_number i_word i_wrong i_farCrossing m_read i_z0 i_crossings i_inns m_posts m_shut m_here i_steps i_done j_at_10 j_gone_11 m_was m_came m_seenAt m_rowWorth m_farBy m_used i_everywhere i_again0 i_d0 i_never i_firstCame i_longRun i_moved i_crowd i_l0 i_fitMany i_fitLeast i_fitMost m_fitPost m_fitEnd m_keptPosts i_x0], [zAr T 0 m_posts 7 g_posts_12]]) [1, 3, 4, 0, 2] rfl
            exact ih_35 (i + 1) j_at_10 j_gone_11 g_posts_12 g_was_13 (show (i + 1) ≤ 1000 ∧ zMP g_posts_12 ∧ 0 ≤ j_at_10.toInt ∧ j_at_10.toInt ≤ 6 ∧ 0 ≤ j_gone_11.toInt ∧ j_gone_11.toInt ≤ 500 + (i + 1) from ⟨by omega, (by first | with_reducible assumption | assumption), by omega, by omega, by omega, by omega⟩) (show 1000 - (i + 1) < 1000 - i from by omega) _ _ ls G (lv_sub hl [0, 1, 2, 3] rfl)
          · have c_26n : j_at_10.toInt = i_at.toInt := (fa_eq _ _).mp c_26
            refine lv_aload_n hx hb dX12_roundOf_55 rfl (lv_at hl 3 rfl) ?_
            refine z_Vi (bc := [[zO11 mo m_all m_has i_size i_next i_where i_token i_number i_word i_wrong i_farCrossing m_read i_z0 i_crossings i_inns m_posts m_shut m_here i_steps i_done j_at_10 j_gone_11 m_was m_came m_seenAt m_rowWorth m_farBy m_used i_everywhere i_again0 i_d0 i_never i_firstCame i_longRun i_moved i_crowd i_l0 i_fitMany i_fitLeast i_fitMost m_fitPost m_fitEnd m_keptPosts i_x0], [zAr T 0 m_posts 7 g_posts_12]]) (br := [[zAr T 0 m_all 3952 f_all], [zAr T 0 m_shut 7 f_shut], [zAr T 0 m_was 7 g_was_13]]) (As := []) (rest := []) C G (c_m_postsNow l T mo m_all m_has i_size i_next i_where i_token i_number i_word i_wrong i_farCrossing m_read i_z0 i_crossings i_inns m_posts m_shut m_here i_steps i_done j_at_10 j_gone_11 m_was m_came m_seenAt m_rowWorth m_farBy m_used i_everywhere i_again0 i_d0 i_never i_firstCame i_longRun i_moved i_crowd i_l0 i_fitMany i_fitLeast i_fitMost m_fitPost m_fitEnd m_keptPosts i_x0 g_posts_12 (by first | with_reducible assumption | with_reducible rfl | omega | assumption | rfl | decide) (by first | with_reducible assumption | with_reducible rfl | omega | assumption | rfl | decide)) (kV_RX12_220 C.2.2.2.2 (Nat.le_of_ble_eq_true rfl) (Nat.le_of_ble_eq_true rfl)) [0, 2] [0, 1] rfl rfl (ci := 11) (qc := (RX12, TX12, 43)) rfl rfl (List.mem_flatten.mpr ⟨_, List.mem_of_getElem? (i := 0) rfl, List.mem_cons_self⟩) rfl rfl hl.1 dX12_roundOf_56 (Nat.le_of_ble_eq_true rfl) (Nat.le_of_ble_eq_true rfl) (fun r_29 b1 H locs hw G => ?_)
            refine zAn3 hw ?_
            intro hbs9 h_27 h_28
            clear hw
            subst hbs9
            have G : zS T A s.heap s [[zAr T 0 m_all 3952 f_all], [zAr T 0 m_shut 7 f_shut], [zAr T 0 m_was 7 g_was_13], [zO11 mo m_all m_has i_size i_next i_where i_token i_number i_word i_wrong i_farCrossing m_read i_z0 i_crossings i_inns m_posts m_shut m_here i_steps i_done j_at_10 j_gone_11 m_was m_came m_seenAt m_rowWorth m_farBy m_used i_everywhere i_again0 i_d0 i_never i_firstCame i_longRun i_moved i_crowd i_l0 i_fitMany i_fitLeast i_fitMost m_fitPost m_fitEnd m_keptPosts i_x0], [zAr T 0 m_posts 7 g_posts_12]] _ _ := G
            refine lv_iload_n hx hb dX12_roundOf_59 rfl (lv_at hl 1 rfl) ?_
            refine lv_icmp_ne (tgt := 65) hx hb dX12_roundOf_60 (by decide) (fun c_30 => ?_) (fun c_30 => ?_)
            · have c_30n : ¬ r_29.toInt = r_8.toInt := fun q => c_30 ((fa_eq _ _).mpr q)
              refine lv_iinc (v := nI (i + 1)) (lv' := [(3, .int (nI (i + 1))), (2, .int r_8), (1, .int i_at), (0, .ref mo)]) hx hb dX12_roundOf_65 hl (k := 0) rfl (z_inc i 1) (by decide) (zLvf_h rfl) (fun ls hl => ?_)
              refine lv_goto (tgt := 35) hx hb dX12_roundOf_68 (by decide) ?_
              exact ih_35 (i + 1) j_at_10 j_gone_11 g_posts_12 g_was_13 (show (i + 1) ≤ 1000 ∧ zMP g_posts_12 ∧ 0 ≤ j_at_10.toInt ∧ j_at_10.toInt ≤ 6 ∧ 0 ≤ j_gone_11.toInt ∧ j_gone_11.toInt ≤ 500 + (i + 1) from ⟨by omega, (by first | with_reducible assumption | assumption), by omega, by omega, by omega, by omega⟩) (show 1000 - (i + 1) < 1000 - i from by omega) _ _ ls G (lv_sub hl [0, 1, 2, 3] rfl)
            · have c_30n : r_29.toInt = r_8.toInt := (fa_eq _ _).mp c_30
              refine lv_iload_n hx hb dX12_roundOf_63 rfl (lv_at hl 0 rfl) ?_
              have G := G.sub (bs' := [[zO11 mo m_all m_has i_size i_next i_where i_token i_number i_word i_wrong i_farCrossing m_read i_z0 i_crossings i_inns m_posts m_shut m_here i_steps i_done j_at_10 j_gone_11 m_was m_came m_seenAt m_rowWorth m_farBy m_used i_everywhere i_again0 i_d0 i_never i_firstCame i_longRun i_moved i_crowd i_l0 i_fitMany i_fitLeast i_fitMost m_fitPost m_fitEnd m_keptPosts i_x0], [zAr T 0 m_all 3952 f_all], [zAr T 0 m_posts 7 g_posts_12], [zAr T 0 m_shut 7 f_shut], [zAr T 0 m_was 7 g_was_13]]) [3, 0, 4, 1, 2] rfl
              exact z_back hQz_ (z_iret C hr hlocks G (Nat.le_of_ble_eq_true rfl) (Nat.le_of_ble_eq_true rfl) dX12_roundOf_64 ⟨j_at_10, j_gone_11, g_posts_12, g_was_13, rfl, (by first | with_reducible assumption | omega | trivial | assumption)⟩)
set_option maxHeartbeats 4000000 in
set_option maxRecDepth 100000 in
/-- c_m_cover -/
theorem c_m_cover (l : Launch) (T : zTy) (mo : Nat) (m_all : Nat) (m_has : Nat) (i_size : Int32) (i_next : Int32) (i_where : Int32) (i_token : Int32) (i_number : Int32) (i_word : Int32) (i_wrong : Int32) (i_farCrossing : Int32) (m_read : Nat) (i_z0 : Int32) (i_crossings : Int32) (i_inns : Int32) (m_posts : Nat) (m_shut : Nat) (m_here : Nat) (i_steps : Int32) (i_done : Int32) (i_at : Int32) (i_gone : Int32) (m_was : Nat) (m_came : Nat) (m_seenAt : Nat) (m_rowWorth : Nat) (m_farBy : Nat) (m_used : Nat) (i_everywhere : Int32) (i_again0 : Int32) (i_d0 : Int32) (i_never : Int32) (i_firstCame : Int32) (i_longRun : Int32) (i_moved : Int32) (i_crowd : Int32) (i_l0 : Int32) (i_fitMany : Int32) (i_fitLeast : Int32) (i_fitMost : Int32) (m_fitPost : Nat) (m_fitEnd : Nat) (m_keptPosts : Nat) (i_x0 : Int32) (f_all : Nat → Int32) (f_posts : Nat → Int32) (f_shut : Nat → Int32) (f_here : Nat → Int32) (f_was : Nat → Int32) (f_farBy : Nat → Int32) (f_used : Nat → Int32) (l_ : Int32) (c_ : Int32) (w_ : Int32) (hB : zBI f_all) : zMi l T yX12_cover cX12_cover 4 (some .int) 5 0 0 [.ref mo, .int l_, .int c_, .int w_] [[zO11 mo m_all m_has i_size i_next i_where i_token i_number i_word i_wrong i_farCrossing m_read i_z0 i_crossings i_inns m_posts m_shut m_here i_steps i_done i_at i_gone m_was m_came m_seenAt m_rowWorth m_farBy m_used i_everywhere i_again0 i_d0 i_never i_firstCame i_longRun i_moved i_crowd i_l0 i_fitMany i_fitLeast i_fitMost m_fitPost m_fitEnd m_keptPosts i_x0], [zAr T 0 m_all 3952 f_all], [zAr T 0 m_posts 7 f_posts], [zAr T 0 m_shut 7 f_shut], [zAr T 0 m_here 7 f_here], [zAr T 0 m_was 7 f_was], [zAr T 0 m_farBy 49 f_farBy], [zAr T 0 m_used 7 f_used]] (fun (r : Int32) bs => ∃ (j_z0 : Int32) (j_crossings : Int32) (j_inns : Int32) (j_steps : Int32) (j_done : Int32) (j_at : Int32) (j_gone : Int32) (j_everywhere : Int32) (j_again0 : Int32) (g_posts : Nat → Int32) (g_shut : Nat → Int32) (g_here : Nat → Int32) (g_was : Nat → Int32) (g_farBy : Nat → Int32) (g_used : Nat → Int32), bs = [[zO11 mo m_all m_has i_size i_next i_where i_token i_number i_word i_wrong i_farCrossing m_read j_z0 j_crossings j_inns m_posts m_shut m_here j_steps j_done j_at j_gone m_was m_came m_seenAt m_rowWorth m_farBy m_used j_everywhere j_again0 i_d0 i_never i_firstCame i_longRun i_moved i_crowd i_l0 i_fitMany i_fitLeast i_fitMost m_fitPost m_fitEnd m_keptPosts i_x0], [zAr T 0 m_all 3952 f_all], [zAr T 0 m_posts 7 g_posts], [zAr T 0 m_shut 7 g_shut], [zAr T 0 m_here 7 g_here], [zAr T 0 m_was 7 g_was], [zAr T 0 m_farBy 49 g_farBy], [zAr T 0 m_used 7 g_used]]) := by
  refine zMi_of (own := RX12) (by decide) rfl (Nat.le_of_ble_eq_true rfl) ?_
  intro p e s m args below meth c A ls C hr hlocks hnm hAe G hl
  refine zHide (fun Qz_ hQz_ => ?_)
  have hx := C.1
  have hb := C.2.1
  have hl : lv_has ls 4 [(0, .ref mo), (1, .int l_), (2, .int c_), (3, .int w_)] := hl
  refine lv_aload_n hx hb dX12_cover_0 rfl (lv_at hl 0 rfl) ?_
  refine lv_iload_n hx hb dX12_cover_1 rfl (lv_at hl 1 rfl) ?_
  refine z_Vi (bc := [[zO11 mo m_all m_has i_size i_next i_where i_token i_number i_word i_wrong i_farCrossing m_read i_z0 i_crossings i_inns m_posts m_shut m_here i_steps i_done i_at i_gone m_was m_came m_seenAt m_rowWorth m_farBy m_used i_everywhere i_again0 i_d0 i_never i_firstCame i_longRun i_moved i_crowd i_l0 i_fitMany i_fitLeast i_fitMost m_fitPost m_fitEnd m_keptPosts i_x0], [zAr T 0 m_all 3952 f_all], [zAr T 0 m_posts 7 f_posts], [zAr T 0 m_shut 7 f_shut], [zAr T 0 m_here 7 f_here]]) (br := [[zAr T 0 m_was 7 f_was], [zAr T 0 m_farBy 49 f_farBy], [zAr T 0 m_used 7 f_used]]) (As := [.int l_]) (rest := []) C G (c_m_isLand l T mo m_all m_has i_size i_next i_where i_token i_number i_word i_wrong i_farCrossing m_read i_z0 i_crossings i_inns m_posts m_shut m_here i_steps i_done i_at i_gone m_was m_came m_seenAt m_rowWorth m_farBy m_used i_everywhere i_again0 i_d0 i_never i_firstCame i_longRun i_moved i_crowd i_l0 i_fitMany i_fitLeast i_fitMost m_fitPost m_fitEnd m_keptPosts i_x0 f_all f_posts f_shut f_here l_ (by first | with_reducible assumption | with_reducible rfl | omega | assumption | rfl | decide)) (kV_RX12_184 C.2.2.2.2 (Nat.le_of_ble_eq_true rfl) (Nat.le_of_ble_eq_true rfl)) [0, 1, 2, 3, 4] [0, 0, 0, 0, 0] rfl rfl (ci := 11) (qc := (RX12, TX12, 43)) rfl rfl (List.mem_flatten.mpr ⟨_, List.mem_of_getElem? (i := 0) rfl, List.mem_cons_self⟩) rfl rfl hl.1 dX12_cover_2 (Nat.le_of_ble_eq_true rfl) (Nat.le_of_ble_eq_true rfl) (fun r_10 b1 H locs hw G => ?_)
  refine zEx8 hw ?_
  intro j_z0_1 j_crossings_2 j_inns_3 j_steps_4 j_done_5 g_posts_6 g_shut_7 g_here_8
  refine zCu2 ?_
  intro hbs9 hc_9
  clear hw
  subst hbs9
  have G : zS T A s.heap s [[zAr T 0 m_was 7 f_was], [zAr T 0 m_farBy 49 f_farBy], [zAr T 0 m_used 7 f_used], [zO11 mo m_all m_has i_size i_next i_where i_token i_number i_word i_wrong i_farCrossing m_read j_z0_1 j_crossings_2 j_inns_3 m_posts m_shut m_here j_steps_4 j_done_5 i_at i_gone m_was m_came m_seenAt m_rowWorth m_farBy m_used i_everywhere i_again0 i_d0 i_never i_firstCame i_longRun i_moved i_crowd i_l0 i_fitMany i_fitLeast i_fitMost m_fitPost m_fitEnd m_keptPosts i_x0], [zAr T 0 m_all 3952 f_all], [zAr T 0 m_posts 7 g_posts_6], [zAr T 0 m_shut 7 g_shut_7], [zAr T 0 m_here 7 g_here_8]] _ _ := G
  rcases hc_9 with ⟨rfl, h_11, h_12, h_13, h_14, h_15, h_16, h_17, h_18, h_19, h_20, h_21, h_22⟩ | ⟨rfl, h_23⟩
  · have h_11 : 0 ≤ l_.toInt := h_11
    have h_12 : l_.toInt ≤ 1 := h_12
    have h_13 : l_.toInt < (f_all 0).toInt := h_13
    have h_14 : j_z0_1.toInt = 610 + 51 * l_.toInt := h_14
    have h_15 : zML f_all j_z0_1 j_crossings_2 := h_15
    have h_16 : zMP g_posts_6 := h_16
    have h_17 : j_inns_3 = f_all (j_z0_1.toInt.toNat + 1) := h_17
    have h_18 : j_steps_4 = 0 := h_18
    have h_19 : j_done_5 = 0 := h_19
    have h_20 : (∀ j, j < 7 → g_posts_6 j = zPt f_all j_z0_1 (nI j)) := h_20
    have h_21 : (∀ j, j < 7 → g_shut_7 j = 0) := h_21
    have h_22 : (∀ j, j < 7 → g_here_8 j = zWk f_all j_z0_1 j) := h_22
    have hLx := h_15
    have hcr := hLx.cr
    have hzx := hLx.1
    have hPx := h_16
    refine lv_if_eq (tgt := 16) hx hb dX12_cover_5 (by decide) (fun q => absurd q (by decide)) (fun _ => ?_)
    refine lv_aload_n hx hb dX12_cover_8 rfl (lv_at hl 0 rfl) ?_
    refine lv_iload_n hx hb dX12_cover_9 rfl (lv_at hl 2 rfl) ?_
    refine z_Vi (bc := [[zO11 mo m_all m_has i_size i_next i_where i_token i_number i_word i_wrong i_farCrossing m_read j_z0_1 j_crossings_2 j_inns_3 m_posts m_shut m_here j_steps_4 j_done_5 i_at i_gone m_was m_came m_seenAt m_rowWorth m_farBy m_used i_everywhere i_again0 i_d0 i_never i_firstCame i_longRun i_moved i_crowd i_l0 i_fitMany i_fitLeast i_fitMost m_fitPost m_fitEnd m_keptPosts i_x0]]) (br := [[zAr T 0 m_was 7 f_was], [zAr T 0 m_farBy 49 f_farBy], [zAr T 0 m_used 7 f_used], [zAr T 0 m_all 3952 f_all], [zAr T 0 m_posts 7 g_posts_6], [zAr T 0 m_shut 7 g_shut_7], [zAr T 0 m_here 7 g_here_8]]) (As := [.int c_]) (rest := []) C G (c_m_isCrossing l T mo m_all m_has i_size i_next i_where i_token i_number i_word i_wrong i_farCrossing m_read j_z0_1 j_crossings_2 j_inns_3 m_posts m_shut m_here j_steps_4 j_done_5 i_at i_gone m_was m_came m_seenAt m_rowWorth m_farBy m_used i_everywhere i_again0 i_d0 i_never i_firstCame i_longRun i_moved i_crowd i_l0 i_fitMany i_fitLeast i_fitMost m_fitPost m_fitEnd m_keptPosts i_x0 c_ (by first | with_reducible assumption | with_reducible rfl | omega | assumption | rfl | decide)) (kV_RX12_187 C.2.2.2.2 (Nat.le_of_ble_eq_true rfl) (Nat.le_of_ble_eq_true rfl)) [3] [3] rfl rfl (ci := 11) (qc := (RX12, TX12, 43)) rfl rfl (List.mem_flatten.mpr ⟨_, List.mem_of_getElem? (i := 0) rfl, List.mem_cons_self⟩) rfl rfl hl.1 dX12_cover_10 (Nat.le_of_ble_eq_true rfl) (Nat.le_of_ble_eq_true rfl) (fun r_25 b1 H locs hw G => ?_)
    refine zAn2 hw ?_
    intro hbs9 hc_24
    clear hw
    subst hbs9
    have G : zS T A s.heap s [[zAr T 0 m_was 7 f_was], [zAr T 0 m_farBy 49 f_farBy], [zAr T 0 m_used 7 f_used], [zAr T 0 m_all 3952 f_all], [zAr T 0 m_posts 7 g_posts_6], [zAr T 0 m_shut 7 g_shut_7], [zAr T 0 m_here 7 g_here_8], [zO11 mo m_all m_has i_size i_next i_where i_token i_number i_word i_wrong i_farCrossing m_read j_z0_1 j_crossings_2 j_inns_3 m_posts m_shut m_here j_steps_4 j_done_5 i_at i_gone m_was m_came m_seenAt m_rowWorth m_farBy m_used i_everywhere i_again0 i_d0 i_never i_firstCame i_longRun i_moved i_crowd i_l0 i_fitMany i_fitLeast i_fitMost m_fitPost m_fitEnd m_keptPosts i_x0]] _ _ := G
    rcases hc_24 with ⟨rfl, h_26, h_27⟩ | ⟨rfl, h_28⟩
    · have h_26 : 0 ≤ c_.toInt := h_26
      have h_27 : c_.toInt < j_crossings_2.toInt := h_27
      refine lv_if_ne (tgt := 19) hx hb dX12_cover_13 (by decide) (fun _ => ?_) (fun q => absurd q (by decide))
      refine lv_aload_n hx hb dX12_cover_19 rfl (lv_at hl 0 rfl) ?_
      refine z_Vv (bc := [[zO11 mo m_all m_has i_size i_next i_where i_token i_number i_word i_wrong i_farCrossing m_read j_z0_1 j_crossings_2 j_inns_3 m_posts m_shut m_here j_steps_4 j_done_5 i_at i_gone m_was m_came m_seenAt m_rowWorth m_farBy m_used i_everywhere i_again0 i_d0 i_never i_firstCame i_longRun i_moved i_crowd i_l0 i_fitMany i_fitLeast i_fitMost m_fitPost m_fitEnd m_keptPosts i_x0], [zAr T 0 m_all 3952 f_all], [zAr T 0 m_farBy 49 f_farBy]]) (br := [[zAr T 0 m_was 7 f_was], [zAr T 0 m_used 7 f_used], [zAr T 0 m_posts 7 g_posts_6], [zAr T 0 m_shut 7 g_shut_7], [zAr T 0 m_here 7 g_here_8]]) (As := []) (rest := []) C G (c_m_laysFar l T mo m_all m_has i_size i_next i_where i_token i_number i_word i_wrong i_farCrossing m_read j_z0_1 j_crossings_2 j_inns_3 m_posts m_shut m_here j_steps_4 j_done_5 i_at i_gone m_was m_came m_seenAt m_rowWorth m_farBy m_used i_everywhere i_again0 i_d0 i_never i_firstCame i_longRun i_moved i_crowd i_l0 i_fitMany i_fitLeast i_fitMost m_fitPost m_fitEnd m_keptPosts i_x0 f_all f_farBy (by first | with_reducible assumption | with_reducible rfl | omega | assumption | rfl | decide)) (kV_RX12_258 C.2.2.2.2 (Nat.le_of_ble_eq_true rfl) (Nat.le_of_ble_eq_true rfl)) [7, 3, 1] [1, 1, 3] rfl rfl (ci := 11) (qc := (RX12, TX12, 43)) rfl rfl (List.mem_flatten.mpr ⟨_, List.mem_of_getElem? (i := 0) rfl, List.mem_cons_self⟩) rfl rfl hl.1 dX12_cover_20 (Nat.le_of_ble_eq_true rfl) (Nat.le_of_ble_eq_true rfl) (fun b1 H locs hw G => ?_)
      refine zEx1 hw ?_
      intro g_farBy_29 hbs9
      clear hw
      subst hbs9
      have G : zS T A s.heap s [[zAr T 0 m_was 7 f_was], [zAr T 0 m_used 7 f_used], [zAr T 0 m_posts 7 g_posts_6], [zAr T 0 m_shut 7 g_shut_7], [zAr T 0 m_here 7 g_here_8], [zO11 mo m_all m_has i_size i_next i_where i_token i_number i_word i_wrong i_farCrossing m_read j_z0_1 j_crossings_2 j_inns_3 m_posts m_shut m_here j_steps_4 j_done_5 i_at i_gone m_was m_came m_seenAt m_rowWorth m_farBy m_used i_everywhere i_again0 i_d0 i_never i_firstCame i_longRun i_moved i_crowd i_l0 i_fitMany i_fitLeast i_fitMost m_fitPost m_fitEnd m_keptPosts i_x0], [zAr T 0 m_all 3952 f_all], [zAr T 0 m_farBy 49 g_farBy_29]] _ _ := G
      refine lv_aload_n hx hb dX12_cover_23 rfl (lv_at hl 0 rfl) ?_
      refine lv_iload_n hx hb dX12_cover_24 rfl (lv_at hl 2 rfl) ?_
      refine z_Vv (bc := [[zO11 mo m_all m_has i_size i_next i_where i_token i_number i_word i_wrong i_farCrossing m_read j_z0_1 j_crossings_2 j_inns_3 m_posts m_shut m_here j_steps_4 j_done_5 i_at i_gone m_was m_came m_seenAt m_rowWorth m_farBy m_used i_everywhere i_again0 i_d0 i_never i_firstCame i_longRun i_moved i_crowd i_l0 i_fitMany i_fitLeast i_fitMost m_fitPost m_fitEnd m_keptPosts i_x0], [zAr T 0 m_all 3952 f_all], [zAr T 0 m_posts 7 g_posts_6], [zAr T 0 m_shut 7 g_shut_7], [zAr T 0 m_was 7 f_was], [zAr T 0 m_farBy 49 g_farBy_29], [zAr T 0 m_used 7 f_used]]) (br := [[zAr T 0 m_here 7 g_here_8]]) (As := [.int c_]) (rest := []) C G (c_m_walksFar l T mo m_all m_has i_size i_next i_where i_token i_number i_word i_wrong i_farCrossing m_read j_z0_1 j_crossings_2 j_inns_3 m_posts m_shut m_here j_steps_4 j_done_5 i_at i_gone m_was m_came m_seenAt m_rowWorth m_farBy m_used i_everywhere i_again0 i_d0 i_never i_firstCame i_longRun i_moved i_crowd i_l0 i_fitMany i_fitLeast i_fitMost m_fitPost m_fitEnd m_keptPosts i_x0 f_all g_posts_6 g_shut_7 f_was g_farBy_29 f_used c_ (by first | with_reducible assumption | with_reducible rfl | omega | assumption | rfl | decide) (by first | with_reducible assumption | with_reducible rfl | omega | assumption | rfl | decide) (by first | with_reducible assumption | with_reducible rfl | omega | assumption | rfl | decide) (by first | with_reducible assumption | with_reducible rfl | omega | assumption | rfl | decide)) (kV_RX12_290 C.2.2.2.2 (Nat.le_of_ble_eq_true rfl) (Nat.le_of_ble_eq_true rfl)) [5, 6, 2, 3, 0, 7, 1] [0, 0, 0, 0, 1, 0, 0] rfl rfl (ci := 11) (qc := (RX12, TX12, 43)) rfl rfl (List.mem_flatten.mpr ⟨_, List.mem_of_getElem? (i := 0) rfl, List.mem_cons_self⟩) rfl rfl hl.1 dX12_cover_25 (Nat.le_of_ble_eq_true rfl) (Nat.le_of_ble_eq_true rfl) (fun b1 H locs hw G => ?_)
      refine zEx7 hw ?_
      intro j_at_31 j_gone_32 j_everywhere_33 j_again0_34 g_posts_35 g_was_36 g_used_37
      refine zCu6 ?_
      intro hbs9 h_38 h_39 h_40 h_41 h_42
      clear hw
      subst hbs9
      have G : zS T A s.heap s [[zAr T 0 m_here 7 g_here_8], [zO11 mo m_all m_has i_size i_next i_where i_token i_number i_word i_wrong i_farCrossing m_read j_z0_1 j_crossings_2 j_inns_3 m_posts m_shut m_here j_steps_4 j_done_5 j_at_31 j_gone_32 m_was m_came m_seenAt m_rowWorth m_farBy m_used j_everywhere_33 j_again0_34 i_d0 i_never i_firstCame i_longRun i_moved i_crowd i_l0 i_fitMany i_fitLeast i_fitMost m_fitPost m_fitEnd m_keptPosts i_x0], [zAr T 0 m_all 3952 f_all], [zAr T 0 m_posts 7 g_posts_35], [zAr T 0 m_shut 7 g_shut_7], [zAr T 0 m_was 7 g_was_36], [zAr T 0 m_farBy 49 g_farBy_29], [zAr T 0 m_used 7 g_used_37]] _ _ := G
      refine lv_iload_n hx hb dX12_cover_28 rfl (lv_at hl 3 rfl) ?_
      by_cases c_44o : w_.toInt < 0 ∨ 3 < w_.toInt
      · refine lv_tableOut (tgt := 85) hx hb dX12_cover_29 c_44o (by decide) ?_
        refine lv_bipush (v := (-2)) hx hb dX12_cover_85 (by decide) ?_
        have G := G.sub (bs' := [[zO11 mo m_all m_has i_size i_next i_where i_token i_number i_word i_wrong i_farCrossing m_read j_z0_1 j_crossings_2 j_inns_3 m_posts m_shut m_here j_steps_4 j_done_5 j_at_31 j_gone_32 m_was m_came m_seenAt m_rowWorth m_farBy m_used j_everywhere_33 j_again0_34 i_d0 i_never i_firstCame i_longRun i_moved i_crowd i_l0 i_fitMany i_fitLeast i_fitMost m_fitPost m_fitEnd m_keptPosts i_x0], [zAr T 0 m_all 3952 f_all], [zAr T 0 m_posts 7 g_posts_35], [zAr T 0 m_shut 7 g_shut_7], [zAr T 0 m_here 7 g_here_8], [zAr T 0 m_was 7 g_was_36], [zAr T 0 m_farBy 49 g_farBy_29], [zAr T 0 m_used 7 g_used_37]]) [1, 2, 3, 4, 0, 5, 6, 7] rfl
        exact z_back hQz_ (z_iret C hr hlocks G (Nat.le_of_ble_eq_true rfl) (Nat.le_of_ble_eq_true rfl) dX12_cover_87 ⟨j_z0_1, j_crossings_2, j_inns_3, j_steps_4, j_done_5, j_at_31, j_gone_32, j_everywhere_33, j_again0_34, g_posts_35, g_shut_7, g_here_8, g_was_36, g_farBy_29, g_used_37, rfl⟩)
      · have c_44r : w_.toInt = 0 ∨ w_.toInt = 1 ∨ w_.toInt = 2 ∨ w_.toInt = 3 := by omega
        rcases c_44r with c_44 | c_44 | c_44 | c_44
        · refine lv_tableIn (tgt := 60) hx hb dX12_cover_29 (by first | (rw [c_44]; decide) | omega) (by first | (rw [c_44]; decide) | omega) (by rw [c_44]; rfl) (by decide) ?_
          refine lv_aload_n hx hb dX12_cover_60 rfl (lv_at hl 0 rfl) ?_
          refine z_get C G clX12 1 rfl 27 (by decide) m_fl_RX12_284 rfl dX12_cover_61 ?_
          have G := G.sub (bs' := [[zO11 mo m_all m_has i_size i_next i_where i_token i_number i_word i_wrong i_farCrossing m_read j_z0_1 j_crossings_2 j_inns_3 m_posts m_shut m_here j_steps_4 j_done_5 j_at_31 j_gone_32 m_was m_came m_seenAt m_rowWorth m_farBy m_used j_everywhere_33 j_again0_34 i_d0 i_never i_firstCame i_longRun i_moved i_crowd i_l0 i_fitMany i_fitLeast i_fitMost m_fitPost m_fitEnd m_keptPosts i_x0], [zAr T 0 m_all 3952 f_all], [zAr T 0 m_posts 7 g_posts_35], [zAr T 0 m_shut 7 g_shut_7], [zAr T 0 m_here 7 g_here_8], [zAr T 0 m_was 7 g_was_36], [zAr T 0 m_farBy 49 g_farBy_29], [zAr T 0 m_used 7 g_used_37]]) [1, 2, 3, 4, 0, 5, 6, 7] rfl
          exact z_back hQz_ (z_iret C hr hlocks G (Nat.le_of_ble_eq_true rfl) (Nat.le_of_ble_eq_true rfl) dX12_cover_64 ⟨j_z0_1, j_crossings_2, j_inns_3, j_steps_4, j_done_5, j_at_31, j_gone_32, j_everywhere_33, j_again0_34, g_posts_35, g_shut_7, g_here_8, g_was_36, g_farBy_29, g_used_37, rfl⟩)
        · refine lv_tableIn (tgt := 65) hx hb dX12_cover_29 (by first | (rw [c_44]; decide) | omega) (by first | (rw [c_44]; decide) | omega) (by rw [c_44]; rfl) (by decide) ?_
          refine lv_aload_n hx hb dX12_cover_65 rfl (lv_at hl 0 rfl) ?_
          refine z_get C G clX12 1 rfl 28 (by decide) m_fl_RX12_287 rfl dX12_cover_66 ?_
          have G := G.sub (bs' := [[zO11 mo m_all m_has i_size i_next i_where i_token i_number i_word i_wrong i_farCrossing m_read j_z0_1 j_crossings_2 j_inns_3 m_posts m_shut m_here j_steps_4 j_done_5 j_at_31 j_gone_32 m_was m_came m_seenAt m_rowWorth m_farBy m_used j_everywhere_33 j_again0_34 i_d0 i_never i_firstCame i_longRun i_moved i_crowd i_l0 i_fitMany i_fitLeast i_fitMost m_fitPost m_fitEnd m_keptPosts i_x0], [zAr T 0 m_all 3952 f_all], [zAr T 0 m_posts 7 g_posts_35], [zAr T 0 m_shut 7 g_shut_7], [zAr T 0 m_here 7 g_here_8], [zAr T 0 m_was 7 g_was_36], [zAr T 0 m_farBy 49 g_farBy_29], [zAr T 0 m_used 7 g_used_37]]) [1, 2, 3, 4, 0, 5, 6, 7] rfl
          exact z_back hQz_ (z_iret C hr hlocks G (Nat.le_of_ble_eq_true rfl) (Nat.le_of_ble_eq_true rfl) dX12_cover_69 ⟨j_z0_1, j_crossings_2, j_inns_3, j_steps_4, j_done_5, j_at_31, j_gone_32, j_everywhere_33, j_again0_34, g_posts_35, g_shut_7, g_here_8, g_was_36, g_farBy_29, g_used_37, rfl⟩)
        · refine lv_tableIn (tgt := 70) hx hb dX12_cover_29 (by first | (rw [c_44]; decide) | omega) (by first | (rw [c_44]; decide) | omega) (by rw [c_44]; rfl) (by decide) ?_
          refine lv_aload_n hx hb dX12_cover_70 rfl (lv_at hl 0 rfl) ?_
          refine lv_aload_n hx hb dX12_cover_71 rfl (lv_at hl 0 rfl) ?_
          refine lv_iload_n hx hb dX12_cover_72 rfl (lv_at hl 2 rfl) ?_
          refine z_Vi (bc := [[zO11 mo m_all m_has i_size i_next i_where i_token i_number i_word i_wrong i_farCrossing m_read j_z0_1 j_crossings_2 j_inns_3 m_posts m_shut m_here j_steps_4 j_done_5 j_at_31 j_gone_32 m_was m_came m_seenAt m_rowWorth m_farBy m_used j_everywhere_33 j_again0_34 i_d0 i_never i_firstCame i_longRun i_moved i_crowd i_l0 i_fitMany i_fitLeast i_fitMost m_fitPost m_fitEnd m_keptPosts i_x0], [zAr T 0 m_farBy 49 g_farBy_29]]) (br := [[zAr T 0 m_here 7 g_here_8], [zAr T 0 m_all 3952 f_all], [zAr T 0 m_posts 7 g_posts_35], [zAr T 0 m_shut 7 g_shut_7], [zAr T 0 m_was 7 g_was_36], [zAr T 0 m_used 7 g_used_37]]) (As := [.int c_]) (rest := [.ref mo]) C G (c_m_reachOf l T mo m_all m_has i_size i_next i_where i_token i_number i_word i_wrong i_farCrossing m_read j_z0_1 j_crossings_2 j_inns_3 m_posts m_shut m_here j_steps_4 j_done_5 j_at_31 j_gone_32 m_was m_came m_seenAt m_rowWorth m_farBy m_used j_everywhere_33 j_again0_34 i_d0 i_never i_firstCame i_longRun i_moved i_crowd i_l0 i_fitMany i_fitLeast i_fitMost m_fitPost m_fitEnd m_keptPosts i_x0 g_farBy_29 c_ (by first | with_reducible assumption | with_reducible rfl | omega | assumption | rfl | decide) (by first | with_reducible assumption | with_reducible rfl | omega | assumption | rfl | decide) (by first | with_reducible assumption | with_reducible rfl | omega | assumption | rfl | decide)) (kV_RX12_261 C.2.2.2.2 (Nat.le_of_ble_eq_true rfl) (Nat.le_of_ble_eq_true rfl)) [1, 6] [1, 4] rfl rfl (ci := 11) (qc := (RX12, TX12, 43)) rfl rfl (List.mem_flatten.mpr ⟨_, List.mem_of_getElem? (i := 0) rfl, List.mem_cons_self⟩) rfl rfl hl.1 dX12_cover_73 (Nat.le_of_ble_eq_true rfl) (Nat.le_of_ble_eq_true rfl) (fun r_45 b1 H locs hw G => ?_)
          obtain rfl := hw
          have G : zS T A s.heap s [[zAr T 0 m_here 7 g_here_8], [zAr T 0 m_all 3952 f_all], [zAr T 0 m_posts 7 g_posts_35], [zAr T 0 m_shut 7 g_shut_7], [zAr T 0 m_was 7 g_was_36], [zAr T 0 m_used 7 g_used_37], [zO11 mo m_all m_has i_size i_next i_where i_token i_number i_word i_wrong i_farCrossing m_read j_z0_1 j_crossings_2 j_inns_3 m_posts m_shut m_here j_steps_4 j_done_5 j_at_31 j_gone_32 m_was m_came m_seenAt m_rowWorth m_farBy m_used j_everywhere_33 j_again0_34 i_d0 i_never i_firstCame i_longRun i_moved i_crowd i_l0 i_fitMany i_fitLeast i_fitMost m_fitPost m_fitEnd m_keptPosts i_x0], [zAr T 0 m_farBy 49 g_farBy_29]] _ _ := G
          refine z_Vi (bc := [[zO11 mo m_all m_has i_size i_next i_where i_token i_number i_word i_wrong i_farCrossing m_read j_z0_1 j_crossings_2 j_inns_3 m_posts m_shut m_here j_steps_4 j_done_5 j_at_31 j_gone_32 m_was m_came m_seenAt m_rowWorth m_farBy m_used j_everywhere_33 j_again0_34 i_d0 i_never i_firstCame i_longRun i_moved i_crowd i_l0 i_fitMany i_fitLeast i_fitMost m_fitPost m_fitEnd m_keptPosts i_x0], [zAr T 0 m_all 3952 f_all], [zAr T 0 m_used 7 g_used_37]]) (br := [[zAr T 0 m_here 7 g_here_8], [zAr T 0 m_posts 7 g_posts_35], [zAr T 0 m_shut 7 g_shut_7], [zAr T 0 m_was 7 g_was_36], [zAr T 0 m_farBy 49 g_farBy_29]]) (As := [.int r_45]) (rest := []) C G (c_m_unusedOf l T mo m_all m_has i_size i_next i_where i_token i_number i_word i_wrong i_farCrossing m_read j_z0_1 j_crossings_2 j_inns_3 m_posts m_shut m_here j_steps_4 j_done_5 j_at_31 j_gone_32 m_was m_came m_seenAt m_rowWorth m_farBy m_used j_everywhere_33 j_again0_34 i_d0 i_never i_firstCame i_longRun i_moved i_crowd i_l0 i_fitMany i_fitLeast i_fitMost m_fitPost m_fitEnd m_keptPosts i_x0 f_all g_used_37 r_45 (by first | with_reducible assumption | with_reducible rfl | omega | assumption | rfl | decide)) (kV_RX12_293 C.2.2.2.2 (Nat.le_of_ble_eq_true rfl) (Nat.le_of_ble_eq_true rfl)) [6, 1, 5] [1, 3, 0] rfl rfl (ci := 11) (qc := (RX12, TX12, 43)) rfl rfl (List.mem_flatten.mpr ⟨_, List.mem_of_getElem? (i := 0) rfl, List.mem_cons_self⟩) rfl rfl hl.1 dX12_cover_76 (Nat.le_of_ble_eq_true rfl) (Nat.le_of_ble_eq_true rfl) (fun r_46 b1 H locs hw G => ?_)
          obtain rfl := hw
          have G : zS T A s.heap s [[zAr T 0 m_here 7 g_here_8], [zAr T 0 m_posts 7 g_posts_35], [zAr T 0 m_shut 7 g_shut_7], [zAr T 0 m_was 7 g_was_36], [zAr T 0 m_farBy 49 g_farBy_29], [zO11 mo m_all m_has i_size i_next i_where i_token i_number i_word i_wrong i_farCrossing m_read j_z0_1 j_crossings_2 j_inns_3 m_posts m_shut m_here j_steps_4 j_done_5 j_at_31 j_gone_32 m_was m_came m_seenAt m_rowWorth m_farBy m_used j_everywhere_33 j_again0_34 i_d0 i_never i_firstCame i_longRun i_moved i_crowd i_l0 i_fitMany i_fitLeast i_fitMost m_fitPost m_fitEnd m_keptPosts i_x0], [zAr T 0 m_all 3952 f_all], [zAr T 0 m_used 7 g_used_37]] _ _ := G
          have G := G.sub (bs' := [[zO11 mo m_all m_has i_size i_next i_where i_token i_number i_word i_wrong i_farCrossing m_read j_z0_1 j_crossings_2 j_inns_3 m_posts m_shut m_here j_steps_4 j_done_5 j_at_31 j_gone_32 m_was m_came m_seenAt m_rowWorth m_farBy m_used j_everywhere_33 j_again0_34 i_d0 i_never i_firstCame i_longRun i_moved i_crowd i_l0 i_fitMany i_fitLeast i_fitMost m_fitPost m_fitEnd m_keptPosts i_x0], [zAr T 0 m_all 3952 f_all], [zAr T 0 m_posts 7 g_posts_35], [zAr T 0 m_shut 7 g_shut_7], [zAr T 0 m_here 7 g_here_8], [zAr T 0 m_was 7 g_was_36], [zAr T 0 m_farBy 49 g_farBy_29], [zAr T 0 m_used 7 g_used_37]]) [5, 6, 1, 2, 0, 3, 4, 7] rfl
          exact z_back hQz_ (z_iret C hr hlocks G (Nat.le_of_ble_eq_true rfl) (Nat.le_of_ble_eq_true rfl) dX12_cover_79 ⟨j_z0_1, j_crossings_2, j_inns_3, j_steps_4, j_done_5, j_at_31, j_gone_32, j_everywhere_33, j_again0_34, g_posts_35, g_shut_7, g_here_8, g_was_36, g_farBy_29, g_used_37, rfl⟩)
        · refine lv_tableIn (tgt := 80) hx hb dX12_cover_29 (by first | (rw [c_44]; decide) | omega) (by first | (rw [c_44]; decide) | omega) (by rw [c_44]; rfl) (by decide) ?_
          refine lv_aload_n hx hb dX12_cover_80 rfl (lv_at hl 0 rfl) ?_
          refine z_Vi (bc := [[zO11 mo m_all m_has i_size i_next i_where i_token i_number i_word i_wrong i_farCrossing m_read j_z0_1 j_crossings_2 j_inns_3 m_posts m_shut m_here j_steps_4 j_done_5 j_at_31 j_gone_32 m_was m_came m_seenAt m_rowWorth m_farBy m_used j_everywhere_33 j_again0_34 i_d0 i_never i_firstCame i_longRun i_moved i_crowd i_l0 i_fitMany i_fitLeast i_fitMost m_fitPost m_fitEnd m_keptPosts i_x0], [zAr T 0 m_all 3952 f_all], [zAr T 0 m_posts 7 g_posts_35], [zAr T 0 m_shut 7 g_shut_7], [zAr T 0 m_was 7 g_was_36]]) (br := [[zAr T 0 m_here 7 g_here_8], [zAr T 0 m_farBy 49 g_farBy_29], [zAr T 0 m_used 7 g_used_37]]) (As := []) (rest := []) C G (c_m_roundOf l T mo m_all m_has i_size i_next i_where i_token i_number i_word i_wrong i_farCrossing m_read j_z0_1 j_crossings_2 j_inns_3 m_posts m_shut m_here j_steps_4 j_done_5 j_at_31 j_gone_32 m_was m_came m_seenAt m_rowWorth m_farBy m_used j_everywhere_33 j_again0_34 i_d0 i_never i_firstCame i_longRun i_moved i_crowd i_l0 i_fitMany i_fitLeast i_fitMost m_fitPost m_fitEnd m_keptPosts i_x0 f_all g_posts_35 g_shut_7 g_was_36 (by first | with_reducible assumption | with_reducible rfl | omega | assumption | rfl | decide) (by first | with_reducible assumption | with_reducible rfl | omega | assumption | rfl | decide) (by first | with_reducible assumption | with_reducible rfl | omega | assumption | rfl | decide) (by first | with_reducible assumption | with_reducible rfl | omega | assumption | rfl | decide) (by first | with_reducible assumption | with_reducible rfl | omega | assumption | rfl | decide) (by first | with_reducible assumption | with_reducible rfl | omega | assumption | rfl | decide)) (kV_RX12_296 C.2.2.2.2 (Nat.le_of_ble_eq_true rfl) (Nat.le_of_ble_eq_true rfl)) [1, 2, 3, 4, 5] [1, 0, 0, 0, 0] rfl rfl (ci := 11) (qc := (RX12, TX12, 43)) rfl rfl (List.mem_flatten.mpr ⟨_, List.mem_of_getElem? (i := 0) rfl, List.mem_cons_self⟩) rfl rfl hl.1 dX12_cover_81 (Nat.le_of_ble_eq_true rfl) (Nat.le_of_ble_eq_true rfl) (fun r_52 b1 H locs hw G => ?_)
          refine zEx4 hw ?_
          intro j_at_47 j_gone_48 g_posts_49 g_was_50
          refine zCu2 ?_
          intro hbs9 h_51
          clear hw
          subst hbs9
          have G : zS T A s.heap s [[zAr T 0 m_here 7 g_here_8], [zAr T 0 m_farBy 49 g_farBy_29], [zAr T 0 m_used 7 g_used_37], [zO11 mo m_all m_has i_size i_next i_where i_token i_number i_word i_wrong i_farCrossing m_read j_z0_1 j_crossings_2 j_inns_3 m_posts m_shut m_here j_steps_4 j_done_5 j_at_47 j_gone_48 m_was m_came m_seenAt m_rowWorth m_farBy m_used j_everywhere_33 j_again0_34 i_d0 i_never i_firstCame i_longRun i_moved i_crowd i_l0 i_fitMany i_fitLeast i_fitMost m_fitPost m_fitEnd m_keptPosts i_x0], [zAr T 0 m_all 3952 f_all], [zAr T 0 m_posts 7 g_posts_49], [zAr T 0 m_shut 7 g_shut_7], [zAr T 0 m_was 7 g_was_50]] _ _ := G
          have G := G.sub (bs' := [[zO11 mo m_all m_has i_size i_next i_where i_token i_number i_word i_wrong i_farCrossing m_read j_z0_1 j_crossings_2 j_inns_3 m_posts m_shut m_here j_steps_4 j_done_5 j_at_47 j_gone_48 m_was m_came m_seenAt m_rowWorth m_farBy m_used j_everywhere_33 j_again0_34 i_d0 i_never i_firstCame i_longRun i_moved i_crowd i_l0 i_fitMany i_fitLeast i_fitMost m_fitPost m_fitEnd m_keptPosts i_x0], [zAr T 0 m_all 3952 f_all], [zAr T 0 m_posts 7 g_posts_49], [zAr T 0 m_shut 7 g_shut_7], [zAr T 0 m_here 7 g_here_8], [zAr T 0 m_was 7 g_was_50], [zAr T 0 m_farBy 49 g_farBy_29], [zAr T 0 m_used 7 g_used_37]]) [3, 4, 5, 6, 0, 7, 1, 2] rfl
          exact z_back hQz_ (z_iret C hr hlocks G (Nat.le_of_ble_eq_true rfl) (Nat.le_of_ble_eq_true rfl) dX12_cover_84 ⟨j_z0_1, j_crossings_2, j_inns_3, j_steps_4, j_done_5, j_at_47, j_gone_48, j_everywhere_33, j_again0_34, g_posts_49, g_shut_7, g_here_8, g_was_50, g_farBy_29, g_used_37, rfl⟩)
    · have h_28 : (c_.toInt < 0 ∨ j_crossings_2.toInt ≤ c_.toInt) := h_28
      refine lv_if_ne (tgt := 19) hx hb dX12_cover_13 (by decide) (fun q => absurd (by decide) q) (fun _ => ?_)
      refine lv_bipush (v := (-2)) hx hb dX12_cover_16 (by decide) ?_
      have G := G.sub (bs' := [[zO11 mo m_all m_has i_size i_next i_where i_token i_number i_word i_wrong i_farCrossing m_read j_z0_1 j_crossings_2 j_inns_3 m_posts m_shut m_here j_steps_4 j_done_5 i_at i_gone m_was m_came m_seenAt m_rowWorth m_farBy m_used i_everywhere i_again0 i_d0 i_never i_firstCame i_longRun i_moved i_crowd i_l0 i_fitMany i_fitLeast i_fitMost m_fitPost m_fitEnd m_keptPosts i_x0], [zAr T 0 m_all 3952 f_all], [zAr T 0 m_posts 7 g_posts_6], [zAr T 0 m_shut 7 g_shut_7], [zAr T 0 m_here 7 g_here_8], [zAr T 0 m_was 7 f_was], [zAr T 0 m_farBy 49 f_farBy], [zAr T 0 m_used 7 f_used]]) [7, 3, 4, 5, 6, 0, 1, 2] rfl
      exact z_back hQz_ (z_iret C hr hlocks G (Nat.le_of_ble_eq_true rfl) (Nat.le_of_ble_eq_true rfl) dX12_cover_18 ⟨j_z0_1, j_crossings_2, j_inns_3, j_steps_4, j_done_5, i_at, i_gone, i_everywhere, i_again0, g_posts_6, g_shut_7, g_here_8, f_was, f_farBy, f_used, rfl⟩)
  · have h_23 : (l_.toInt < 0 ∨ (f_all 0).toInt ≤ l_.toInt) := h_23
    refine lv_if_eq (tgt := 16) hx hb dX12_cover_5 (by decide) (fun _ => ?_) (fun q => absurd (by decide) q)
    refine lv_bipush (v := (-2)) hx hb dX12_cover_16 (by decide) ?_
    have G := G.sub (bs' := [[zO11 mo m_all m_has i_size i_next i_where i_token i_number i_word i_wrong i_farCrossing m_read j_z0_1 j_crossings_2 j_inns_3 m_posts m_shut m_here j_steps_4 j_done_5 i_at i_gone m_was m_came m_seenAt m_rowWorth m_farBy m_used i_everywhere i_again0 i_d0 i_never i_firstCame i_longRun i_moved i_crowd i_l0 i_fitMany i_fitLeast i_fitMost m_fitPost m_fitEnd m_keptPosts i_x0], [zAr T 0 m_all 3952 f_all], [zAr T 0 m_posts 7 g_posts_6], [zAr T 0 m_shut 7 g_shut_7], [zAr T 0 m_here 7 g_here_8], [zAr T 0 m_was 7 f_was], [zAr T 0 m_farBy 49 f_farBy], [zAr T 0 m_used 7 f_used]]) [3, 4, 5, 6, 7, 0, 1, 2] rfl
    exact z_back hQz_ (z_iret C hr hlocks G (Nat.le_of_ble_eq_true rfl) (Nat.le_of_ble_eq_true rfl) dX12_cover_18 ⟨j_z0_1, j_crossings_2, j_inns_3, j_steps_4, j_done_5, i_at, i_gone, i_everywhere, i_again0, g_posts_6, g_shut_7, g_here_8, f_was, f_farBy, f_used, rfl⟩)
theorem m_fl_RX12_302 : Cond.fieldLink RX12 302 (TX12 29).1 (TX12 29).2.1 (TX12 29).2.2.1 ∈ zT := zmem1 zsub_6 24 rfl rfl
theorem m_fl_RX12_360 : Cond.fieldLink RX12 360 (TX12 35).1 (TX12 35).2.1 (TX12 35).2.2.1 ∈ zT := zmem1 zsub_6 30 rfl rfl
theorem m_co_X12_isDay : Cond.code yX12_isDay cX12_isDay 2 (some .boolean) ∈ zT := zmem1 zsub_7 204 rfl rfl
theorem m_ml_RX12_305 : Cond.methodLink RX12 305 yX12_isDay ∈ zT := zmem1 zsub_7 201 rfl rfl
theorem m_im_X12_isDay : Cond.instanceMethod yX12_isDay ∈ zT := zmem1 zsub_7 203 rfl rfl
theorem m_se_X12_isDay : Cond.selects RX12 yX12_isDay yX12_isDay ∈ zT := zmem 91 rfl rfl
theorem m_co_X12_isLog : Cond.code yX12_isLog cX12_isLog 2 (some .boolean) ∈ zT := zmem1 zsub_8 32 rfl rfl
theorem m_ml_RX12_363 : Cond.methodLink RX12 363 yX12_isLog ∈ zT := zmem1 zsub_8 29 rfl rfl
theorem m_im_X12_isLog : Cond.instanceMethod yX12_isLog ∈ zT := zmem1 zsub_8 31 rfl rfl
theorem m_se_X12_isLog : Cond.selects RX12 yX12_isLog yX12_isLog ∈ zT := zmem 104 rfl rfl
theorem m_fl_RX12_308 : Cond.fieldLink RX12 308 (TX12 34).1 (TX12 34).2.1 (TX12 34).2.2.1 ∈ zT := zmem1 zsub_6 29 rfl rfl
theorem m_fl_RX12_311 : Cond.fieldLink RX12 311 (TX12 33).1 (TX12 33).2.1 (TX12 33).2.2.1 ∈ zT := zmem1 zsub_6 28 rfl rfl
theorem m_fl_RX12_314 : Cond.fieldLink RX12 314 (TX12 31).1 (TX12 31).2.1 (TX12 31).2.2.1 ∈ zT := zmem1 zsub_6 26 rfl rfl
theorem m_co_X12_goesFrom : Cond.code yX12_goesFrom cX12_goesFrom 2 none ∈ zT := zmem1 zsub_7 232 rfl rfl
theorem m_ml_RX12_317 : Cond.methodLink RX12 317 yX12_goesFrom ∈ zT := zmem1 zsub_7 229 rfl rfl
theorem m_im_X12_goesFrom : Cond.instanceMethod yX12_goesFrom ∈ zT := zmem1 zsub_7 231 rfl rfl
theorem m_se_X12_goesFrom : Cond.selects RX12 yX12_goesFrom yX12_goesFrom ∈ zT := zmem 97 rfl rfl
theorem m_fl_RX12_320 : Cond.fieldLink RX12 320 (TX12 30).1 (TX12 30).2.1 (TX12 30).2.2.1 ∈ zT := zmem1 zsub_6 25 rfl rfl
theorem m_fl_RX12_323 : Cond.fieldLink RX12 323 (TX12 32).1 (TX12 32).2.1 (TX12 32).2.2.1 ∈ zT := zmem1 zsub_6 27 rfl rfl
theorem m_co_X12_shuts : Cond.code yX12_shuts cX12_shuts 4 (some .boolean) ∈ zT := zmem1 zsub_8 4 rfl rfl
theorem m_ml_RX12_335 : Cond.methodLink RX12 335 yX12_shuts ∈ zT := zmem1 zsub_8 1 rfl rfl
theorem m_im_X12_shuts : Cond.instanceMethod yX12_shuts ∈ zT := zmem1 zsub_8 3 rfl rfl
theorem m_se_X12_shuts : Cond.selects RX12 yX12_shuts yX12_shuts ∈ zT := zmem 100 rfl rfl
theorem m_co_X12_goes : Cond.code yX12_goes cX12_goes 2 (some .boolean) ∈ zT := zmem1 zsub_7 228 rfl rfl
theorem m_ml_RX12_326 : Cond.methodLink RX12 326 yX12_goes ∈ zT := zmem1 zsub_7 225 rfl rfl
theorem m_im_X12_goes : Cond.instanceMethod yX12_goes ∈ zT := zmem1 zsub_7 227 rfl rfl
theorem m_se_X12_goes : Cond.selects RX12 yX12_goes yX12_goes ∈ zT := zmem 96 rfl rfl
theorem m_co_X12_runs0 : Cond.code yX12_runs0 cX12_runs0 2 (some .boolean) ∈ zT := zmem1 zsub_7 236 rfl rfl
theorem m_ml_RX12_329 : Cond.methodLink RX12 329 yX12_runs0 ∈ zT := zmem1 zsub_7 233 rfl rfl
theorem m_im_X12_runs0 : Cond.instanceMethod yX12_runs0 ∈ zT := zmem1 zsub_7 235 rfl rfl
theorem m_se_X12_runs0 : Cond.selects RX12 yX12_runs0 yX12_runs0 ∈ zT := zmem 98 rfl rfl
theorem m_co_X12_adds : Cond.code yX12_adds cX12_adds 2 (some .boolean) ∈ zT := zmem1 zsub_8 0 rfl rfl
theorem m_ml_RX12_332 : Cond.methodLink RX12 332 yX12_adds ∈ zT := zmem1 zsub_7 237 rfl rfl
theorem m_im_X12_adds : Cond.instanceMethod yX12_adds ∈ zT := zmem1 zsub_7 239 rfl rfl
theorem m_se_X12_adds : Cond.selects RX12 yX12_adds yX12_adds ∈ zT := zmem 99 rfl rfl
theorem m_co_X12_looks : Cond.code yX12_looks cX12_looks 2 none ∈ zT := zmem1 zsub_7 220 rfl rfl
theorem m_ml_RX12_339 : Cond.methodLink RX12 339 yX12_looks ∈ zT := zmem1 zsub_7 217 rfl rfl
theorem m_im_X12_looks : Cond.instanceMethod yX12_looks ∈ zT := zmem1 zsub_7 219 rfl rfl
theorem m_se_X12_looks : Cond.selects RX12 yX12_looks yX12_looks ∈ zT := zmem 94 rfl rfl
theorem m_co_X12_beginsDay : Cond.code yX12_beginsDay cX12_beginsDay 1 none ∈ zT := zmem1 zsub_7 216 rfl rfl
theorem m_ml_RX12_342 : Cond.methodLink RX12 342 yX12_beginsDay ∈ zT := zmem1 zsub_7 213 rfl rfl
theorem m_im_X12_beginsDay : Cond.instanceMethod yX12_beginsDay ∈ zT := zmem1 zsub_7 215 rfl rfl
theorem m_se_X12_beginsDay : Cond.selects RX12 yX12_beginsDay yX12_beginsDay ∈ zT := zmem 93 rfl rfl
theorem m_co_X12_does : Cond.code yX12_does cX12_does 4 (some .boolean) ∈ zT := zmem1 zsub_7 224 rfl rfl
theorem m_ml_RX12_345 : Cond.methodLink RX12 345 yX12_does ∈ zT := zmem1 zsub_7 221 rfl rfl
theorem m_im_X12_does : Cond.instanceMethod yX12_does ∈ zT := zmem1 zsub_7 223 rfl rfl
theorem m_se_X12_does : Cond.selects RX12 yX12_does yX12_does ∈ zT := zmem 95 rfl rfl
theorem m_co_X12_walkersOf : Cond.code yX12_walkersOf cX12_walkersOf 4 (some .int) ∈ zT := zmem1 zsub_8 16 rfl rfl
theorem m_ml_RX12_351 : Cond.methodLink RX12 351 yX12_walkersOf ∈ zT := zmem1 zsub_8 13 rfl rfl
theorem m_im_X12_walkersOf : Cond.instanceMethod yX12_walkersOf ∈ zT := zmem1 zsub_8 15 rfl rfl
theorem m_se_X12_walkersOf : Cond.selects RX12 yX12_walkersOf yX12_walkersOf ∈ zT := zmem 102 rfl rfl
theorem m_co_X12_runs : Cond.code yX12_runs cX12_runs 2 none ∈ zT := zmem1 zsub_7 212 rfl rfl
theorem m_ml_RX12_348 : Cond.methodLink RX12 348 yX12_runs ∈ zT := zmem1 zsub_7 209 rfl rfl
theorem m_im_X12_runs : Cond.instanceMethod yX12_runs ∈ zT := zmem1 zsub_7 211 rfl rfl
theorem m_se_X12_runs : Cond.selects RX12 yX12_runs yX12_runs ∈ zT := zmem 92 rfl rfl
theorem m_co_X12_nowOf : Cond.code yX12_nowOf cX12_nowOf 3 (some .int) ∈ zT := zmem1 zsub_8 12 rfl rfl
theorem m_ml_RX12_354 : Cond.methodLink RX12 354 yX12_nowOf ∈ zT := zmem1 zsub_8 9 rfl rfl
theorem m_im_X12_nowOf : Cond.instanceMethod yX12_nowOf ∈ zT := zmem1 zsub_8 11 rfl rfl
theorem m_se_X12_nowOf : Cond.selects RX12 yX12_nowOf yX12_nowOf ∈ zT := zmem 101 rfl rfl
theorem m_co_X12_elsewhere : Cond.code yX12_elsewhere cX12_elsewhere 3 (some .int) ∈ zT := zmem1 zsub_8 24 rfl rfl
theorem m_ml_RX12_357 : Cond.methodLink RX12 357 yX12_elsewhere ∈ zT := zmem1 zsub_8 21 rfl rfl
theorem m_im_X12_elsewhere : Cond.instanceMethod yX12_elsewhere ∈ zT := zmem1 zsub_8 23 rfl rfl
theorem m_se_X12_elsewhere : Cond.selects RX12 yX12_elsewhere yX12_elsewhere ∈ zT := zmem 103 rfl rfl
theorem kV_RX12_305 {R : Room} {s : State} {args : Array Value} {d mc ms : Nat} (hts : ∀ w ∈ zT, w.before args s = true) (h1 : d + 1 ≤ R.frames) (h2 : 8 + (2 + 11) + 40 * d ≤ R.locals) : CallW R s args RX12 RX12 305 yX12_isDay cX12_isDay 2 (some .boolean) (zW yX12_isDay cX12_isDay 2 (some .boolean)) (zR d mc ms) mc ms 1 := z_cwV hts m_co_X12_isDay m_ml_RX12_305 m_im_X12_isDay m_se_X12_isDay m_ii_RX12 (by decide +kernel) h1 h2
theorem kV_RX12_363 {R : Room} {s : State} {args : Array Value} {d mc ms : Nat} (hts : ∀ w ∈ zT, w.before args s = true) (h1 : d + 1 ≤ R.frames) (h2 : 8 + (2 + 11) + 40 * d ≤ R.locals) : CallW R s args RX12 RX12 363 yX12_isLog cX12_isLog 2 (some .boolean) (zW yX12_isLog cX12_isLog 2 (some .boolean)) (zR d mc ms) mc ms 1 := z_cwV hts m_co_X12_isLog m_ml_RX12_363 m_im_X12_isLog m_se_X12_isLog m_ii_RX12 (by decide +kernel) h1 h2
theorem kV_RX12_317 {R : Room} {s : State} {args : Array Value} {d mc ms : Nat} (hts : ∀ w ∈ zT, w.before args s = true) (h1 : d + 1 ≤ R.frames) (h2 : 8 + (2 + 11) + 40 * d ≤ R.locals) : CallW R s args RX12 RX12 317 yX12_goesFrom cX12_goesFrom 2 none (zW yX12_goesFrom cX12_goesFrom 2 none) (zR d mc ms) mc ms 1 := z_cwV hts m_co_X12_goesFrom m_ml_RX12_317 m_im_X12_goesFrom m_se_X12_goesFrom m_ii_RX12 (by decide +kernel) h1 h2
theorem kV_RX12_335 {R : Room} {s : State} {args : Array Value} {d mc ms : Nat} (hts : ∀ w ∈ zT, w.before args s = true) (h1 : d + 1 ≤ R.frames) (h2 : 8 + (4 + 11) + 40 * d ≤ R.locals) : CallW R s args RX12 RX12 335 yX12_shuts cX12_shuts 4 (some .boolean) (zW yX12_shuts cX12_shuts 4 (some .boolean)) (zR d mc ms) mc ms 3 := z_cwV hts m_co_X12_shuts m_ml_RX12_335 m_im_X12_shuts m_se_X12_shuts m_ii_RX12 (by decide +kernel) h1 h2
theorem kV_RX12_326 {R : Room} {s : State} {args : Array Value} {d mc ms : Nat} (hts : ∀ w ∈ zT, w.before args s = true) (h1 : d + 1 ≤ R.frames) (h2 : 8 + (2 + 11) + 40 * d ≤ R.locals) : CallW R s args RX12 RX12 326 yX12_goes cX12_goes 2 (some .boolean) (zW yX12_goes cX12_goes 2 (some .boolean)) (zR d mc ms) mc ms 1 := z_cwV hts m_co_X12_goes m_ml_RX12_326 m_im_X12_goes m_se_X12_goes m_ii_RX12 (by decide +kernel) h1 h2
theorem kV_RX12_329 {R : Room} {s : State} {args : Array Value} {d mc ms : Nat} (hts : ∀ w ∈ zT, w.before args s = true) (h1 : d + 1 ≤ R.frames) (h2 : 8 + (2 + 11) + 40 * d ≤ R.locals) : CallW R s args RX12 RX12 329 yX12_runs0 cX12_runs0 2 (some .boolean) (zW yX12_runs0 cX12_runs0 2 (some .boolean)) (zR d mc ms) mc ms 1 := z_cwV hts m_co_X12_runs0 m_ml_RX12_329 m_im_X12_runs0 m_se_X12_runs0 m_ii_RX12 (by decide +kernel) h1 h2
theorem kV_RX12_332 {R : Room} {s : State} {args : Array Value} {d mc ms : Nat} (hts : ∀ w ∈ zT, w.before args s = true) (h1 : d + 1 ≤ R.frames) (h2 : 8 + (2 + 11) + 40 * d ≤ R.locals) : CallW R s args RX12 RX12 332 yX12_adds cX12_adds 2 (some .boolean) (zW yX12_adds cX12_adds 2 (some .boolean)) (zR d mc ms) mc ms 1 := z_cwV hts m_co_X12_adds m_ml_RX12_332 m_im_X12_adds m_se_X12_adds m_ii_RX12 (by decide +kernel) h1 h2
theorem kV_RX12_339 {R : Room} {s : State} {args : Array Value} {d mc ms : Nat} (hts : ∀ w ∈ zT, w.before args s = true) (h1 : d + 1 ≤ R.frames) (h2 : 8 + (2 + 11) + 40 * d ≤ R.locals) : CallW R s args RX12 RX12 339 yX12_looks cX12_looks 2 none (zW yX12_looks cX12_looks 2 none) (zR d mc ms) mc ms 0 := z_cwV hts m_co_X12_looks m_ml_RX12_339 m_im_X12_looks m_se_X12_looks m_ii_RX12 (by decide +kernel) h1 h2
theorem kV_RX12_342 {R : Room} {s : State} {args : Array Value} {d mc ms : Nat} (hts : ∀ w ∈ zT, w.before args s = true) (h1 : d + 1 ≤ R.frames) (h2 : 8 + (1 + 11) + 40 * d ≤ R.locals) : CallW R s args RX12 RX12 342 yX12_beginsDay cX12_beginsDay 1 none (zW yX12_beginsDay cX12_beginsDay 1 none) (zR d mc ms) mc ms 0 := z_cwV hts m_co_X12_beginsDay m_ml_RX12_342 m_im_X12_beginsDay m_se_X12_beginsDay m_ii_RX12 (by decide +kernel) h1 h2
theorem kV_RX12_345 {R : Room} {s : State} {args : Array Value} {d mc ms : Nat} (hts : ∀ w ∈ zT, w.before args s = true) (h1 : d + 1 ≤ R.frames) (h2 : 8 + (4 + 11) + 40 * d ≤ R.locals) : CallW R s args RX12 RX12 345 yX12_does cX12_does 4 (some .boolean) (zW yX12_does cX12_does 4 (some .boolean)) (zR d mc ms) mc ms 3 := z_cwV hts m_co_X12_does m_ml_RX12_345 m_im_X12_does m_se_X12_does m_ii_RX12 (by decide +kernel) h1 h2
theorem kV_RX12_351 {R : Room} {s : State} {args : Array Value} {d mc ms : Nat} (hts : ∀ w ∈ zT, w.before args s = true) (h1 : d + 1 ≤ R.frames) (h2 : 8 + (4 + 11) + 40 * d ≤ R.locals) : CallW R s args RX12 RX12 351 yX12_walkersOf cX12_walkersOf 4 (some .int) (zW yX12_walkersOf cX12_walkersOf 4 (some .int)) (zR d mc ms) mc ms 1 := z_cwV hts m_co_X12_walkersOf m_ml_RX12_351 m_im_X12_walkersOf m_se_X12_walkersOf m_ii_RX12 (by decide +kernel) h1 h2
theorem kV_RX12_348 {R : Room} {s : State} {args : Array Value} {d mc ms : Nat} (hts : ∀ w ∈ zT, w.before args s = true) (h1 : d + 1 ≤ R.frames) (h2 : 8 + (2 + 11) + 40 * d ≤ R.locals) : CallW R s args RX12 RX12 348 yX12_runs cX12_runs 2 none (zW yX12_runs cX12_runs 2 none) (zR d mc ms) mc ms 1 := z_cwV hts m_co_X12_runs m_ml_RX12_348 m_im_X12_runs m_se_X12_runs m_ii_RX12 (by decide +kernel) h1 h2
theorem kV_RX12_354 {R : Room} {s : State} {args : Array Value} {d mc ms : Nat} (hts : ∀ w ∈ zT, w.before args s = true) (h1 : d + 1 ≤ R.frames) (h2 : 8 + (3 + 11) + 40 * d ≤ R.locals) : CallW R s args RX12 RX12 354 yX12_nowOf cX12_nowOf 3 (some .int) (zW yX12_nowOf cX12_nowOf 3 (some .int)) (zR d mc ms) mc ms 1 := z_cwV hts m_co_X12_nowOf m_ml_RX12_354 m_im_X12_nowOf m_se_X12_nowOf m_ii_RX12 (by decide +kernel) h1 h2
theorem kV_RX12_357 {R : Room} {s : State} {args : Array Value} {d mc ms : Nat} (hts : ∀ w ∈ zT, w.before args s = true) (h1 : d + 1 ≤ R.frames) (h2 : 8 + (3 + 11) + 40 * d ≤ R.locals) : CallW R s args RX12 RX12 357 yX12_elsewhere cX12_elsewhere 3 (some .int) (zW yX12_elsewhere cX12_elsewhere 3 (some .int)) (zR d mc ms) mc ms 0 := z_cwV hts m_co_X12_elsewhere m_ml_RX12_357 m_im_X12_elsewhere m_se_X12_elsewhere m_ii_RX12 (by decide +kernel) h1 h2
theorem dX12_isDay_0 : decode cX12_isDay 0 = .ok (.aload_n 0, 1) := zo_42 (by decide +kernel)
theorem dX12_isDay_1 : decode cX12_isDay 1 = .ok (.iconst 1, 1) := zo_4 (by decide +kernel)
theorem dX12_isDay_2 : decode cX12_isDay 2 = .ok (.iload_n 1, 1) := zo_27 (by decide +kernel)
theorem dX12_isDay_3 : decode cX12_isDay 3 = .ok (.invokevirtual 143, 3) := zo_182 (by decide +kernel)
theorem dX12_isDay_6 : decode cX12_isDay 6 = .ok (.ifCond .ne 5, 3) := zo_154 (by decide +kernel)
theorem dX12_isDay_9 : decode cX12_isDay 9 = .ok (.iconst 0, 1) := zo_3 (by decide +kernel)
theorem dX12_isDay_10 : decode cX12_isDay 10 = .ok (.ireturn, 1) := zo_172 (by decide +kernel)
theorem dX12_isDay_11 : decode cX12_isDay 11 = .ok (.aload_n 0, 1) := zo_42 (by decide +kernel)
theorem dX12_isDay_12 : decode cX12_isDay 12 = .ok (.iconst 1, 1) := zo_4 (by decide +kernel)
theorem dX12_isDay_13 : decode cX12_isDay 13 = .ok (.iload_n 1, 1) := zo_27 (by decide +kernel)
theorem dX12_isDay_14 : decode cX12_isDay 14 = .ok (.invokestatic 163, 3) := zo_184 (by decide +kernel)
theorem dX12_isDay_17 : decode cX12_isDay 17 = .ok (.putfield 302, 3) := zo_181 (by decide +kernel)
theorem dX12_isDay_20 : decode cX12_isDay 20 = .ok (.iconst 1, 1) := zo_4 (by decide +kernel)
theorem dX12_isDay_21 : decode cX12_isDay 21 = .ok (.ireturn, 1) := zo_172 (by decide +kernel)
theorem dX12_isLog_0 : decode cX12_isLog 0 = .ok (.aload_n 0, 1) := zo_42 (by decide +kernel)
theorem dX12_isLog_1 : decode cX12_isLog 1 = .ok (.iconst 2, 1) := zo_5 (by decide +kernel)
theorem dX12_isLog_2 : decode cX12_isLog 2 = .ok (.iload_n 1, 1) := zo_27 (by decide +kernel)
theorem dX12_isLog_3 : decode cX12_isLog 3 = .ok (.invokevirtual 143, 3) := zo_182 (by decide +kernel)
theorem dX12_isLog_6 : decode cX12_isLog 6 = .ok (.ifCond .ne 5, 3) := zo_154 (by decide +kernel)
theorem dX12_isLog_9 : decode cX12_isLog 9 = .ok (.iconst 0, 1) := zo_3 (by decide +kernel)
theorem dX12_isLog_10 : decode cX12_isLog 10 = .ok (.ireturn, 1) := zo_172 (by decide +kernel)
theorem dX12_isLog_11 : decode cX12_isLog 11 = .ok (.aload_n 0, 1) := zo_42 (by decide +kernel)
theorem dX12_isLog_12 : decode cX12_isLog 12 = .ok (.iconst 2, 1) := zo_5 (by decide +kernel)
theorem dX12_isLog_13 : decode cX12_isLog 13 = .ok (.iload_n 1, 1) := zo_27 (by decide +kernel)
theorem dX12_isLog_14 : decode cX12_isLog 14 = .ok (.invokestatic 163, 3) := zo_184 (by decide +kernel)
theorem dX12_isLog_17 : decode cX12_isLog 17 = .ok (.putfield 360, 3) := zo_181 (by decide +kernel)
theorem dX12_isLog_20 : decode cX12_isLog 20 = .ok (.iconst 1, 1) := zo_4 (by decide +kernel)
theorem dX12_isLog_21 : decode cX12_isLog 21 = .ok (.ireturn, 1) := zo_172 (by decide +kernel)
theorem dX12_deed_0 : decode cX12_deed 0 = .ok (.aload_n 0, 1) := zo_42 (by decide +kernel)
theorem dX12_deed_1 : decode cX12_deed 1 = .ok (.iload_n 1, 1) := zo_27 (by decide +kernel)
theorem dX12_deed_2 : decode cX12_deed 2 = .ok (.invokevirtual 305, 3) := zo_182 (by decide +kernel)
theorem dX12_deed_5 : decode cX12_deed 5 = .ok (.ifCond .ne 6, 3) := zo_154 (by decide +kernel)
theorem dX12_deed_8 : decode cX12_deed 8 = .ok (.bipush (-2), 2) := zo_16 (by decide +kernel)
theorem dX12_deed_10 : decode cX12_deed 10 = .ok (.ireturn, 1) := zo_172 (by decide +kernel)
theorem dX12_deed_11 : decode cX12_deed 11 = .ok (.iload_n 2, 1) := zo_28 (by decide +kernel)
theorem dX12_deed_12 : decode cX12_deed 12 = .ok (.iconst (-1), 1) := zo_2 (by decide +kernel)
theorem dX12_deed_13 : decode cX12_deed 13 = .ok (.if_icmp .ne 22, 3) := zo_160 (by decide +kernel)
theorem dX12_deed_16 : decode cX12_deed 16 = .ok (.iload_n 3, 1) := zo_29 (by decide +kernel)
theorem dX12_deed_17 : decode cX12_deed 17 = .ok (.ifCond .ne 15, 3) := zo_154 (by decide +kernel)
theorem dX12_deed_20 : decode cX12_deed 20 = .ok (.aload_n 0, 1) := zo_42 (by decide +kernel)
theorem dX12_deed_21 : decode cX12_deed 21 = .ok (.getfield 7, 3) := zo_180 (by decide +kernel)
theorem dX12_deed_24 : decode cX12_deed 24 = .ok (.aload_n 0, 1) := zo_42 (by decide +kernel)
theorem dX12_deed_25 : decode cX12_deed 25 = .ok (.getfield 302, 3) := zo_180 (by decide +kernel)
theorem dX12_deed_28 : decode cX12_deed 28 = .ok (.iaload, 1) := zo_46 (by decide +kernel)
theorem dX12_deed_29 : decode cX12_deed 29 = .ok (.goto 5, 3) := zo_167 (by decide +kernel)
theorem dX12_deed_32 : decode cX12_deed 32 = .ok (.bipush (-2), 2) := zo_16 (by decide +kernel)
theorem dX12_deed_34 : decode cX12_deed 34 = .ok (.ireturn, 1) := zo_172 (by decide +kernel)
theorem dX12_deed_35 : decode cX12_deed 35 = .ok (.iload_n 2, 1) := zo_28 (by decide +kernel)
theorem dX12_deed_36 : decode cX12_deed 36 = .ok (.iconst 0, 1) := zo_3 (by decide +kernel)
theorem dX12_deed_37 : decode cX12_deed 37 = .ok (.aload_n 0, 1) := zo_42 (by decide +kernel)
theorem dX12_deed_38 : decode cX12_deed 38 = .ok (.getfield 7, 3) := zo_180 (by decide +kernel)
theorem dX12_deed_41 : decode cX12_deed 41 = .ok (.aload_n 0, 1) := zo_42 (by decide +kernel)
theorem dX12_deed_42 : decode cX12_deed 42 = .ok (.getfield 302, 3) := zo_180 (by decide +kernel)
theorem dX12_deed_45 : decode cX12_deed 45 = .ok (.iaload, 1) := zo_46 (by decide +kernel)
theorem dX12_deed_46 : decode cX12_deed 46 = .ok (.iconst 1, 1) := zo_4 (by decide +kernel)
theorem dX12_deed_47 : decode cX12_deed 47 = .ok (.isub, 1) := zo_100 (by decide +kernel)
theorem dX12_deed_48 : decode cX12_deed 48 = .ok (.invokestatic 111, 3) := zo_184 (by decide +kernel)
theorem dX12_deed_51 : decode cX12_deed 51 = .ok (.ifCond .eq 32, 3) := zo_153 (by decide +kernel)
theorem dX12_deed_54 : decode cX12_deed 54 = .ok (.iload_n 3, 1) := zo_29 (by decide +kernel)
theorem dX12_deed_55 : decode cX12_deed 55 = .ok (.iconst 0, 1) := zo_3 (by decide +kernel)
theorem dX12_deed_56 : decode cX12_deed 56 = .ok (.iconst 2, 1) := zo_5 (by decide +kernel)
theorem dX12_deed_57 : decode cX12_deed 57 = .ok (.invokestatic 111, 3) := zo_184 (by decide +kernel)
theorem dX12_deed_60 : decode cX12_deed 60 = .ok (.ifCond .eq 23, 3) := zo_153 (by decide +kernel)
theorem dX12_deed_63 : decode cX12_deed 63 = .ok (.aload_n 0, 1) := zo_42 (by decide +kernel)
theorem dX12_deed_64 : decode cX12_deed 64 = .ok (.getfield 7, 3) := zo_180 (by decide +kernel)
theorem dX12_deed_67 : decode cX12_deed 67 = .ok (.aload_n 0, 1) := zo_42 (by decide +kernel)
theorem dX12_deed_68 : decode cX12_deed 68 = .ok (.getfield 302, 3) := zo_180 (by decide +kernel)
theorem dX12_deed_71 : decode cX12_deed 71 = .ok (.iconst 1, 1) := zo_4 (by decide +kernel)
theorem dX12_deed_72 : decode cX12_deed 72 = .ok (.iadd, 1) := zo_96 (by decide +kernel)
theorem dX12_deed_73 : decode cX12_deed 73 = .ok (.iconst 3, 1) := zo_6 (by decide +kernel)
theorem dX12_deed_74 : decode cX12_deed 74 = .ok (.iload_n 2, 1) := zo_28 (by decide +kernel)
theorem dX12_deed_75 : decode cX12_deed 75 = .ok (.imul, 1) := zo_104 (by decide +kernel)
theorem dX12_deed_76 : decode cX12_deed 76 = .ok (.iadd, 1) := zo_96 (by decide +kernel)
theorem dX12_deed_77 : decode cX12_deed 77 = .ok (.iload_n 3, 1) := zo_29 (by decide +kernel)
theorem dX12_deed_78 : decode cX12_deed 78 = .ok (.iadd, 1) := zo_96 (by decide +kernel)
theorem dX12_deed_79 : decode cX12_deed 79 = .ok (.iaload, 1) := zo_46 (by decide +kernel)
theorem dX12_deed_80 : decode cX12_deed 80 = .ok (.goto 5, 3) := zo_167 (by decide +kernel)
theorem dX12_deed_83 : decode cX12_deed 83 = .ok (.bipush (-2), 2) := zo_16 (by decide +kernel)
theorem dX12_deed_85 : decode cX12_deed 85 = .ok (.ireturn, 1) := zo_172 (by decide +kernel)
theorem dX12_fact_0 : decode cX12_fact 0 = .ok (.aload_n 0, 1) := zo_42 (by decide +kernel)
theorem dX12_fact_1 : decode cX12_fact 1 = .ok (.iload_n 1, 1) := zo_27 (by decide +kernel)
theorem dX12_fact_2 : decode cX12_fact 2 = .ok (.invokevirtual 363, 3) := zo_182 (by decide +kernel)
theorem dX12_fact_5 : decode cX12_fact 5 = .ok (.ifCond .ne 6, 3) := zo_154 (by decide +kernel)
theorem dX12_fact_8 : decode cX12_fact 8 = .ok (.bipush (-2), 2) := zo_16 (by decide +kernel)
theorem dX12_fact_10 : decode cX12_fact 10 = .ok (.ireturn, 1) := zo_172 (by decide +kernel)
theorem dX12_fact_11 : decode cX12_fact 11 = .ok (.iload_n 2, 1) := zo_28 (by decide +kernel)
theorem dX12_fact_12 : decode cX12_fact 12 = .ok (.iconst (-1), 1) := zo_2 (by decide +kernel)
theorem dX12_fact_13 : decode cX12_fact 13 = .ok (.if_icmp .ne 22, 3) := zo_160 (by decide +kernel)
theorem dX12_fact_16 : decode cX12_fact 16 = .ok (.iload_n 3, 1) := zo_29 (by decide +kernel)
theorem dX12_fact_17 : decode cX12_fact 17 = .ok (.ifCond .ne 15, 3) := zo_154 (by decide +kernel)
theorem dX12_fact_20 : decode cX12_fact 20 = .ok (.aload_n 0, 1) := zo_42 (by decide +kernel)
theorem dX12_fact_21 : decode cX12_fact 21 = .ok (.getfield 7, 3) := zo_180 (by decide +kernel)
theorem dX12_fact_24 : decode cX12_fact 24 = .ok (.aload_n 0, 1) := zo_42 (by decide +kernel)
theorem dX12_fact_25 : decode cX12_fact 25 = .ok (.getfield 360, 3) := zo_180 (by decide +kernel)
theorem dX12_fact_28 : decode cX12_fact 28 = .ok (.iaload, 1) := zo_46 (by decide +kernel)
theorem dX12_fact_29 : decode cX12_fact 29 = .ok (.goto 5, 3) := zo_167 (by decide +kernel)
theorem dX12_fact_32 : decode cX12_fact 32 = .ok (.bipush (-2), 2) := zo_16 (by decide +kernel)
theorem dX12_fact_34 : decode cX12_fact 34 = .ok (.ireturn, 1) := zo_172 (by decide +kernel)
theorem dX12_fact_35 : decode cX12_fact 35 = .ok (.iload_n 2, 1) := zo_28 (by decide +kernel)
theorem dX12_fact_36 : decode cX12_fact 36 = .ok (.iconst 0, 1) := zo_3 (by decide +kernel)
theorem dX12_fact_37 : decode cX12_fact 37 = .ok (.aload_n 0, 1) := zo_42 (by decide +kernel)
theorem dX12_fact_38 : decode cX12_fact 38 = .ok (.getfield 7, 3) := zo_180 (by decide +kernel)
theorem dX12_fact_41 : decode cX12_fact 41 = .ok (.aload_n 0, 1) := zo_42 (by decide +kernel)
theorem dX12_fact_42 : decode cX12_fact 42 = .ok (.getfield 360, 3) := zo_180 (by decide +kernel)
theorem dX12_fact_45 : decode cX12_fact 45 = .ok (.iaload, 1) := zo_46 (by decide +kernel)
theorem dX12_fact_46 : decode cX12_fact 46 = .ok (.iconst 1, 1) := zo_4 (by decide +kernel)
theorem dX12_fact_47 : decode cX12_fact 47 = .ok (.isub, 1) := zo_100 (by decide +kernel)
theorem dX12_fact_48 : decode cX12_fact 48 = .ok (.invokestatic 111, 3) := zo_184 (by decide +kernel)
theorem dX12_fact_51 : decode cX12_fact 51 = .ok (.ifCond .eq 32, 3) := zo_153 (by decide +kernel)
theorem dX12_fact_54 : decode cX12_fact 54 = .ok (.iload_n 3, 1) := zo_29 (by decide +kernel)
theorem dX12_fact_55 : decode cX12_fact 55 = .ok (.iconst 0, 1) := zo_3 (by decide +kernel)
theorem dX12_fact_56 : decode cX12_fact 56 = .ok (.iconst 1, 1) := zo_4 (by decide +kernel)
theorem dX12_fact_57 : decode cX12_fact 57 = .ok (.invokestatic 111, 3) := zo_184 (by decide +kernel)
theorem dX12_fact_60 : decode cX12_fact 60 = .ok (.ifCond .eq 23, 3) := zo_153 (by decide +kernel)
theorem dX12_fact_63 : decode cX12_fact 63 = .ok (.aload_n 0, 1) := zo_42 (by decide +kernel)
theorem dX12_fact_64 : decode cX12_fact 64 = .ok (.getfield 7, 3) := zo_180 (by decide +kernel)
theorem dX12_fact_67 : decode cX12_fact 67 = .ok (.aload_n 0, 1) := zo_42 (by decide +kernel)
theorem dX12_fact_68 : decode cX12_fact 68 = .ok (.getfield 360, 3) := zo_180 (by decide +kernel)
theorem dX12_fact_71 : decode cX12_fact 71 = .ok (.iconst 1, 1) := zo_4 (by decide +kernel)
theorem dX12_fact_72 : decode cX12_fact 72 = .ok (.iadd, 1) := zo_96 (by decide +kernel)
theorem dX12_fact_73 : decode cX12_fact 73 = .ok (.iconst 2, 1) := zo_5 (by decide +kernel)
theorem dX12_fact_74 : decode cX12_fact 74 = .ok (.iload_n 2, 1) := zo_28 (by decide +kernel)
theorem dX12_fact_75 : decode cX12_fact 75 = .ok (.imul, 1) := zo_104 (by decide +kernel)
theorem dX12_fact_76 : decode cX12_fact 76 = .ok (.iadd, 1) := zo_96 (by decide +kernel)
theorem dX12_fact_77 : decode cX12_fact 77 = .ok (.iload_n 3, 1) := zo_29 (by decide +kernel)
theorem dX12_fact_78 : decode cX12_fact 78 = .ok (.iadd, 1) := zo_96 (by decide +kernel)
theorem dX12_fact_79 : decode cX12_fact 79 = .ok (.iaload, 1) := zo_46 (by decide +kernel)
theorem dX12_fact_80 : decode cX12_fact 80 = .ok (.goto 5, 3) := zo_167 (by decide +kernel)
theorem dX12_fact_83 : decode cX12_fact 83 = .ok (.bipush (-2), 2) := zo_16 (by decide +kernel)
theorem dX12_fact_85 : decode cX12_fact 85 = .ok (.ireturn, 1) := zo_172 (by decide +kernel)
theorem dX12_looks_0 : decode cX12_looks 0 = .ok (.iconst 0, 1) := zo_3 (by decide +kernel)
theorem dX12_looks_1 : decode cX12_looks 1 = .ok (.istore_n 1, 1) := zo_60 (by decide +kernel)
theorem dX12_looks_2 : decode cX12_looks 2 = .ok (.iload_n 1, 1) := zo_27 (by decide +kernel)
theorem dX12_looks_3 : decode cX12_looks 3 = .ok (.aload_n 0, 1) := zo_42 (by decide +kernel)
theorem dX12_looks_4 : decode cX12_looks 4 = .ok (.getfield 169, 3) := zo_180 (by decide +kernel)
theorem dX12_looks_7 : decode cX12_looks 7 = .ok (.if_icmp .ge 47, 3) := zo_162 (by decide +kernel)
theorem dX12_looks_10 : decode cX12_looks 10 = .ok (.aload_n 0, 1) := zo_42 (by decide +kernel)
theorem dX12_looks_11 : decode cX12_looks 11 = .ok (.aload_n 0, 1) := zo_42 (by decide +kernel)
theorem dX12_looks_12 : decode cX12_looks 12 = .ok (.iload_n 1, 1) := zo_27 (by decide +kernel)
theorem dX12_looks_13 : decode cX12_looks 13 = .ok (.invokevirtual 178, 3) := zo_182 (by decide +kernel)
theorem dX12_looks_16 : decode cX12_looks 16 = .ok (.ifCond .ne 25, 3) := zo_154 (by decide +kernel)
theorem dX12_looks_19 : decode cX12_looks 19 = .ok (.aload_n 0, 1) := zo_42 (by decide +kernel)
theorem dX12_looks_20 : decode cX12_looks 20 = .ok (.getfield 26, 3) := zo_180 (by decide +kernel)
theorem dX12_looks_23 : decode cX12_looks 23 = .ok (.iload_n 1, 1) := zo_27 (by decide +kernel)
theorem dX12_looks_24 : decode cX12_looks 24 = .ok (.iaload, 1) := zo_46 (by decide +kernel)
theorem dX12_looks_25 : decode cX12_looks 25 = .ok (.aload_n 0, 1) := zo_42 (by decide +kernel)
theorem dX12_looks_26 : decode cX12_looks 26 = .ok (.getfield 308, 3) := zo_180 (by decide +kernel)
theorem dX12_looks_29 : decode cX12_looks 29 = .ok (.if_icmp .le 12, 3) := zo_164 (by decide +kernel)
theorem dX12_looks_32 : decode cX12_looks 32 = .ok (.aload_n 0, 1) := zo_42 (by decide +kernel)
theorem dX12_looks_33 : decode cX12_looks 33 = .ok (.getfield 26, 3) := zo_180 (by decide +kernel)
theorem dX12_looks_36 : decode cX12_looks 36 = .ok (.iload_n 1, 1) := zo_27 (by decide +kernel)
theorem dX12_looks_37 : decode cX12_looks 37 = .ok (.iaload, 1) := zo_46 (by decide +kernel)
theorem dX12_looks_38 : decode cX12_looks 38 = .ok (.goto 7, 3) := zo_167 (by decide +kernel)
theorem dX12_looks_41 : decode cX12_looks 41 = .ok (.aload_n 0, 1) := zo_42 (by decide +kernel)
theorem dX12_looks_42 : decode cX12_looks 42 = .ok (.getfield 308, 3) := zo_180 (by decide +kernel)
theorem dX12_looks_45 : decode cX12_looks 45 = .ok (.putfield 308, 3) := zo_181 (by decide +kernel)
theorem dX12_looks_48 : decode cX12_looks 48 = .ok (.iinc 1 1, 3) := zo_132 (by decide +kernel)
theorem dX12_looks_51 : decode cX12_looks 51 = .ok (.goto (-49), 3) := zo_167 (by decide +kernel)
theorem dX12_looks_54 : decode cX12_looks 54 = .ok (.return_, 1) := zo_177 (by decide +kernel)
theorem dX12_goesFrom_0 : decode cX12_goesFrom 0 = .ok (.aload_n 0, 1) := zo_42 (by decide +kernel)
theorem dX12_goesFrom_1 : decode cX12_goesFrom 1 = .ok (.getfield 26, 3) := zo_180 (by decide +kernel)
theorem dX12_goesFrom_4 : decode cX12_goesFrom 4 = .ok (.iload_n 1, 1) := zo_27 (by decide +kernel)
theorem dX12_goesFrom_5 : decode cX12_goesFrom 5 = .ok (.dup2, 1) := zo_92 (by decide +kernel)
theorem dX12_goesFrom_6 : decode cX12_goesFrom 6 = .ok (.iaload, 1) := zo_46 (by decide +kernel)
theorem dX12_goesFrom_7 : decode cX12_goesFrom 7 = .ok (.iconst 1, 1) := zo_4 (by decide +kernel)
theorem dX12_goesFrom_8 : decode cX12_goesFrom 8 = .ok (.isub, 1) := zo_100 (by decide +kernel)
theorem dX12_goesFrom_9 : decode cX12_goesFrom 9 = .ok (.iastore, 1) := zo_79 (by decide +kernel)
theorem dX12_goesFrom_10 : decode cX12_goesFrom 10 = .ok (.aload_n 0, 1) := zo_42 (by decide +kernel)
theorem dX12_goesFrom_11 : decode cX12_goesFrom 11 = .ok (.getfield 26, 3) := zo_180 (by decide +kernel)
theorem dX12_goesFrom_14 : decode cX12_goesFrom 14 = .ok (.aload_n 0, 1) := zo_42 (by decide +kernel)
theorem dX12_goesFrom_15 : decode cX12_goesFrom 15 = .ok (.getfield 202, 3) := zo_180 (by decide +kernel)
theorem dX12_goesFrom_18 : decode cX12_goesFrom 18 = .ok (.dup2, 1) := zo_92 (by decide +kernel)
theorem dX12_goesFrom_19 : decode cX12_goesFrom 19 = .ok (.iaload, 1) := zo_46 (by decide +kernel)
theorem dX12_goesFrom_20 : decode cX12_goesFrom 20 = .ok (.iconst 1, 1) := zo_4 (by decide +kernel)
theorem dX12_goesFrom_21 : decode cX12_goesFrom 21 = .ok (.iadd, 1) := zo_96 (by decide +kernel)
theorem dX12_goesFrom_22 : decode cX12_goesFrom 22 = .ok (.iastore, 1) := zo_79 (by decide +kernel)
theorem dX12_goesFrom_23 : decode cX12_goesFrom 23 = .ok (.aload_n 0, 1) := zo_42 (by decide +kernel)
theorem dX12_goesFrom_24 : decode cX12_goesFrom 24 = .ok (.dup, 1) := zo_89 (by decide +kernel)
theorem dX12_goesFrom_25 : decode cX12_goesFrom 25 = .ok (.getfield 196, 3) := zo_180 (by decide +kernel)
theorem dX12_goesFrom_28 : decode cX12_goesFrom 28 = .ok (.aload_n 0, 1) := zo_42 (by decide +kernel)
theorem dX12_goesFrom_29 : decode cX12_goesFrom 29 = .ok (.getfield 208, 3) := zo_180 (by decide +kernel)
theorem dX12_goesFrom_32 : decode cX12_goesFrom 32 = .ok (.iadd, 1) := zo_96 (by decide +kernel)
theorem dX12_goesFrom_33 : decode cX12_goesFrom 33 = .ok (.putfield 196, 3) := zo_181 (by decide +kernel)
theorem dX12_goesFrom_36 : decode cX12_goesFrom 36 = .ok (.aload_n 0, 1) := zo_42 (by decide +kernel)
theorem dX12_goesFrom_37 : decode cX12_goesFrom 37 = .ok (.dup, 1) := zo_89 (by decide +kernel)
theorem dX12_goesFrom_38 : decode cX12_goesFrom 38 = .ok (.getfield 311, 3) := zo_180 (by decide +kernel)
theorem dX12_goesFrom_41 : decode cX12_goesFrom 41 = .ok (.aload_n 0, 1) := zo_42 (by decide +kernel)
theorem dX12_goesFrom_42 : decode cX12_goesFrom 42 = .ok (.getfield 202, 3) := zo_180 (by decide +kernel)
theorem dX12_goesFrom_45 : decode cX12_goesFrom 45 = .ok (.iload_n 1, 1) := zo_27 (by decide +kernel)
theorem dX12_goesFrom_46 : decode cX12_goesFrom 46 = .ok (.if_icmp .ne 7, 3) := zo_160 (by decide +kernel)
theorem dX12_goesFrom_49 : decode cX12_goesFrom 49 = .ok (.iconst 0, 1) := zo_3 (by decide +kernel)
theorem dX12_goesFrom_50 : decode cX12_goesFrom 50 = .ok (.goto 4, 3) := zo_167 (by decide +kernel)
theorem dX12_goesFrom_53 : decode cX12_goesFrom 53 = .ok (.iconst 1, 1) := zo_4 (by decide +kernel)
theorem dX12_goesFrom_54 : decode cX12_goesFrom 54 = .ok (.iadd, 1) := zo_96 (by decide +kernel)
theorem dX12_goesFrom_55 : decode cX12_goesFrom 55 = .ok (.putfield 311, 3) := zo_181 (by decide +kernel)
theorem dX12_goesFrom_58 : decode cX12_goesFrom 58 = .ok (.aload_n 0, 1) := zo_42 (by decide +kernel)
theorem dX12_goesFrom_59 : decode cX12_goesFrom 59 = .ok (.getfield 314, 3) := zo_180 (by decide +kernel)
theorem dX12_goesFrom_62 : decode cX12_goesFrom 62 = .ok (.iconst (-1), 1) := zo_2 (by decide +kernel)
theorem dX12_goesFrom_63 : decode cX12_goesFrom 63 = .ok (.if_icmp .ne 29, 3) := zo_160 (by decide +kernel)
theorem dX12_goesFrom_66 : decode cX12_goesFrom 66 = .ok (.aload_n 0, 1) := zo_42 (by decide +kernel)
theorem dX12_goesFrom_67 : decode cX12_goesFrom 67 = .ok (.getfield 208, 3) := zo_180 (by decide +kernel)
theorem dX12_goesFrom_70 : decode cX12_goesFrom 70 = .ok (.ifCond .le 22, 3) := zo_158 (by decide +kernel)
theorem dX12_goesFrom_73 : decode cX12_goesFrom 73 = .ok (.aload_n 0, 1) := zo_42 (by decide +kernel)
theorem dX12_goesFrom_74 : decode cX12_goesFrom 74 = .ok (.aload_n 0, 1) := zo_42 (by decide +kernel)
theorem dX12_goesFrom_75 : decode cX12_goesFrom 75 = .ok (.getfield 202, 3) := zo_180 (by decide +kernel)
theorem dX12_goesFrom_78 : decode cX12_goesFrom 78 = .ok (.invokevirtual 178, 3) := zo_182 (by decide +kernel)
theorem dX12_goesFrom_81 : decode cX12_goesFrom 81 = .ok (.ifCond .eq 11, 3) := zo_153 (by decide +kernel)
theorem dX12_goesFrom_84 : decode cX12_goesFrom 84 = .ok (.aload_n 0, 1) := zo_42 (by decide +kernel)
theorem dX12_goesFrom_85 : decode cX12_goesFrom 85 = .ok (.aload_n 0, 1) := zo_42 (by decide +kernel)
theorem dX12_goesFrom_86 : decode cX12_goesFrom 86 = .ok (.getfield 199, 3) := zo_180 (by decide +kernel)
theorem dX12_goesFrom_89 : decode cX12_goesFrom 89 = .ok (.putfield 314, 3) := zo_181 (by decide +kernel)
theorem dX12_goesFrom_92 : decode cX12_goesFrom 92 = .ok (.return_, 1) := zo_177 (by decide +kernel)
theorem dX12_goes_0 : decode cX12_goes 0 = .ok (.aload_n 0, 1) := zo_42 (by decide +kernel)
theorem dX12_goes_1 : decode cX12_goes 1 = .ok (.iload_n 1, 1) := zo_27 (by decide +kernel)
theorem dX12_goes_2 : decode cX12_goes 2 = .ok (.invokevirtual 178, 3) := zo_182 (by decide +kernel)
theorem dX12_goes_5 : decode cX12_goes 5 = .ok (.ifCond .ne 12, 3) := zo_154 (by decide +kernel)
theorem dX12_goes_8 : decode cX12_goes 8 = .ok (.aload_n 0, 1) := zo_42 (by decide +kernel)
theorem dX12_goes_9 : decode cX12_goes 9 = .ok (.getfield 26, 3) := zo_180 (by decide +kernel)
theorem dX12_goes_12 : decode cX12_goes 12 = .ok (.iload_n 1, 1) := zo_27 (by decide +kernel)
theorem dX12_goes_13 : decode cX12_goes 13 = .ok (.iaload, 1) := zo_46 (by decide +kernel)
theorem dX12_goes_14 : decode cX12_goes 14 = .ok (.ifCond .ne 5, 3) := zo_154 (by decide +kernel)
theorem dX12_goes_17 : decode cX12_goes 17 = .ok (.iconst 0, 1) := zo_3 (by decide +kernel)
theorem dX12_goes_18 : decode cX12_goes 18 = .ok (.ireturn, 1) := zo_172 (by decide +kernel)
theorem dX12_goes_19 : decode cX12_goes 19 = .ok (.aload_n 0, 1) := zo_42 (by decide +kernel)
theorem dX12_goes_20 : decode cX12_goes 20 = .ok (.iload_n 1, 1) := zo_27 (by decide +kernel)
theorem dX12_goes_21 : decode cX12_goes 21 = .ok (.invokevirtual 211, 3) := zo_182 (by decide +kernel)
theorem dX12_goes_24 : decode cX12_goes 24 = .ok (.aload_n 0, 1) := zo_42 (by decide +kernel)
theorem dX12_goes_25 : decode cX12_goes 25 = .ok (.invokevirtual 214, 3) := zo_182 (by decide +kernel)
theorem dX12_goes_28 : decode cX12_goes 28 = .ok (.ifCond .ne 5, 3) := zo_154 (by decide +kernel)
theorem dX12_goes_31 : decode cX12_goes 31 = .ok (.iconst 0, 1) := zo_3 (by decide +kernel)
theorem dX12_goes_32 : decode cX12_goes 32 = .ok (.ireturn, 1) := zo_172 (by decide +kernel)
theorem dX12_goes_33 : decode cX12_goes 33 = .ok (.aload_n 0, 1) := zo_42 (by decide +kernel)
theorem dX12_goes_34 : decode cX12_goes 34 = .ok (.iload_n 1, 1) := zo_27 (by decide +kernel)
theorem dX12_goes_35 : decode cX12_goes 35 = .ok (.invokevirtual 317, 3) := zo_182 (by decide +kernel)
theorem dX12_goes_38 : decode cX12_goes 38 = .ok (.iconst 1, 1) := zo_4 (by decide +kernel)
theorem dX12_goes_39 : decode cX12_goes 39 = .ok (.ireturn, 1) := zo_172 (by decide +kernel)
theorem dX12_runs0_0 : decode cX12_runs0 0 = .ok (.aload_n 0, 1) := zo_42 (by decide +kernel)
theorem dX12_runs0_1 : decode cX12_runs0 1 = .ok (.getfield 26, 3) := zo_180 (by decide +kernel)
theorem dX12_runs0_4 : decode cX12_runs0 4 = .ok (.iload_n 1, 1) := zo_27 (by decide +kernel)
theorem dX12_runs0_5 : decode cX12_runs0 5 = .ok (.iaload, 1) := zo_46 (by decide +kernel)
theorem dX12_runs0_6 : decode cX12_runs0 6 = .ok (.ifCond .ne 5, 3) := zo_154 (by decide +kernel)
theorem dX12_runs0_9 : decode cX12_runs0 9 = .ok (.iconst 0, 1) := zo_3 (by decide +kernel)
theorem dX12_runs0_10 : decode cX12_runs0 10 = .ok (.ireturn, 1) := zo_172 (by decide +kernel)
theorem dX12_runs0_11 : decode cX12_runs0 11 = .ok (.aload_n 0, 1) := zo_42 (by decide +kernel)
theorem dX12_runs0_12 : decode cX12_runs0 12 = .ok (.dup, 1) := zo_89 (by decide +kernel)
theorem dX12_runs0_13 : decode cX12_runs0 13 = .ok (.getfield 320, 3) := zo_180 (by decide +kernel)
theorem dX12_runs0_16 : decode cX12_runs0 16 = .ok (.aload_n 0, 1) := zo_42 (by decide +kernel)
theorem dX12_runs0_17 : decode cX12_runs0 17 = .ok (.iload_n 1, 1) := zo_27 (by decide +kernel)
theorem dX12_runs0_18 : decode cX12_runs0 18 = .ok (.invokevirtual 217, 3) := zo_182 (by decide +kernel)
theorem dX12_runs0_21 : decode cX12_runs0 21 = .ok (.ifCond .eq 7, 3) := zo_153 (by decide +kernel)
theorem dX12_runs0_24 : decode cX12_runs0 24 = .ok (.iconst 0, 1) := zo_3 (by decide +kernel)
theorem dX12_runs0_25 : decode cX12_runs0 25 = .ok (.goto 4, 3) := zo_167 (by decide +kernel)
theorem dX12_runs0_28 : decode cX12_runs0 28 = .ok (.iconst 1, 1) := zo_4 (by decide +kernel)
theorem dX12_runs0_29 : decode cX12_runs0 29 = .ok (.iadd, 1) := zo_96 (by decide +kernel)
theorem dX12_runs0_30 : decode cX12_runs0 30 = .ok (.putfield 320, 3) := zo_181 (by decide +kernel)
theorem dX12_runs0_33 : decode cX12_runs0 33 = .ok (.aload_n 0, 1) := zo_42 (by decide +kernel)
theorem dX12_runs0_34 : decode cX12_runs0 34 = .ok (.aload_n 0, 1) := zo_42 (by decide +kernel)
theorem dX12_runs0_35 : decode cX12_runs0 35 = .ok (.getfield 208, 3) := zo_180 (by decide +kernel)
theorem dX12_runs0_38 : decode cX12_runs0 38 = .ok (.aload_n 0, 1) := zo_42 (by decide +kernel)
theorem dX12_runs0_39 : decode cX12_runs0 39 = .ok (.getfield 323, 3) := zo_180 (by decide +kernel)
theorem dX12_runs0_42 : decode cX12_runs0 42 = .ok (.if_icmp .le 10, 3) := zo_164 (by decide +kernel)
theorem dX12_runs0_45 : decode cX12_runs0 45 = .ok (.aload_n 0, 1) := zo_42 (by decide +kernel)
theorem dX12_runs0_46 : decode cX12_runs0 46 = .ok (.getfield 208, 3) := zo_180 (by decide +kernel)
theorem dX12_runs0_49 : decode cX12_runs0 49 = .ok (.goto 7, 3) := zo_167 (by decide +kernel)
theorem dX12_runs0_52 : decode cX12_runs0 52 = .ok (.aload_n 0, 1) := zo_42 (by decide +kernel)
theorem dX12_runs0_53 : decode cX12_runs0 53 = .ok (.getfield 323, 3) := zo_180 (by decide +kernel)
theorem dX12_runs0_56 : decode cX12_runs0 56 = .ok (.putfield 323, 3) := zo_181 (by decide +kernel)
theorem dX12_runs0_59 : decode cX12_runs0 59 = .ok (.aload_n 0, 1) := zo_42 (by decide +kernel)
theorem dX12_runs0_60 : decode cX12_runs0 60 = .ok (.iload_n 1, 1) := zo_27 (by decide +kernel)
theorem dX12_runs0_61 : decode cX12_runs0 61 = .ok (.invokevirtual 317, 3) := zo_182 (by decide +kernel)
theorem dX12_runs0_64 : decode cX12_runs0 64 = .ok (.iconst 1, 1) := zo_4 (by decide +kernel)
theorem dX12_runs0_65 : decode cX12_runs0 65 = .ok (.ireturn, 1) := zo_172 (by decide +kernel)
theorem dX12_adds_0 : decode cX12_adds 0 = .ok (.aload_n 0, 1) := zo_42 (by decide +kernel)
theorem dX12_adds_1 : decode cX12_adds 1 = .ok (.getfield 26, 3) := zo_180 (by decide +kernel)
theorem dX12_adds_4 : decode cX12_adds 4 = .ok (.iload_n 1, 1) := zo_27 (by decide +kernel)
theorem dX12_adds_5 : decode cX12_adds 5 = .ok (.iaload, 1) := zo_46 (by decide +kernel)
theorem dX12_adds_6 : decode cX12_adds 6 = .ok (.bipush 99, 2) := zo_16 (by decide +kernel)
theorem dX12_adds_8 : decode cX12_adds 8 = .ok (.if_icmp .lt 5, 3) := zo_161 (by decide +kernel)
theorem dX12_adds_11 : decode cX12_adds 11 = .ok (.iconst 0, 1) := zo_3 (by decide +kernel)
theorem dX12_adds_12 : decode cX12_adds 12 = .ok (.ireturn, 1) := zo_172 (by decide +kernel)
theorem dX12_adds_13 : decode cX12_adds 13 = .ok (.aload_n 0, 1) := zo_42 (by decide +kernel)
theorem dX12_adds_14 : decode cX12_adds 14 = .ok (.getfield 26, 3) := zo_180 (by decide +kernel)
theorem dX12_adds_17 : decode cX12_adds 17 = .ok (.iload_n 1, 1) := zo_27 (by decide +kernel)
theorem dX12_adds_18 : decode cX12_adds 18 = .ok (.dup2, 1) := zo_92 (by decide +kernel)
theorem dX12_adds_19 : decode cX12_adds 19 = .ok (.iaload, 1) := zo_46 (by decide +kernel)
theorem dX12_adds_20 : decode cX12_adds 20 = .ok (.iconst 1, 1) := zo_4 (by decide +kernel)
theorem dX12_adds_21 : decode cX12_adds 21 = .ok (.iadd, 1) := zo_96 (by decide +kernel)
theorem dX12_adds_22 : decode cX12_adds 22 = .ok (.iastore, 1) := zo_79 (by decide +kernel)
theorem dX12_adds_23 : decode cX12_adds 23 = .ok (.iconst 1, 1) := zo_4 (by decide +kernel)
theorem dX12_adds_24 : decode cX12_adds 24 = .ok (.ireturn, 1) := zo_172 (by decide +kernel)
theorem dX12_shuts_0 : decode cX12_shuts 0 = .ok (.iload_n 2, 1) := zo_28 (by decide +kernel)
theorem dX12_shuts_1 : decode cX12_shuts 1 = .ok (.aload_n 0, 1) := zo_42 (by decide +kernel)
theorem dX12_shuts_2 : decode cX12_shuts 2 = .ok (.iload_n 1, 1) := zo_27 (by decide +kernel)
theorem dX12_shuts_3 : decode cX12_shuts 3 = .ok (.invokevirtual 181, 3) := zo_182 (by decide +kernel)
theorem dX12_shuts_6 : decode cX12_shuts 6 = .ok (.if_icmp .ge 26, 3) := zo_162 (by decide +kernel)
theorem dX12_shuts_9 : decode cX12_shuts 9 = .ok (.aload_n 0, 1) := zo_42 (by decide +kernel)
theorem dX12_shuts_10 : decode cX12_shuts 10 = .ok (.getfield 23, 3) := zo_180 (by decide +kernel)
theorem dX12_shuts_13 : decode cX12_shuts 13 = .ok (.iload_n 1, 1) := zo_27 (by decide +kernel)
theorem dX12_shuts_14 : decode cX12_shuts 14 = .ok (.iaload, 1) := zo_46 (by decide +kernel)
theorem dX12_shuts_15 : decode cX12_shuts 15 = .ok (.iload_n 2, 1) := zo_28 (by decide +kernel)
theorem dX12_shuts_16 : decode cX12_shuts 16 = .ok (.ishr, 1) := zo_122 (by decide +kernel)
theorem dX12_shuts_17 : decode cX12_shuts 17 = .ok (.iconst 1, 1) := zo_4 (by decide +kernel)
theorem dX12_shuts_18 : decode cX12_shuts 18 = .ok (.iand, 1) := zo_126 (by decide +kernel)
theorem dX12_shuts_19 : decode cX12_shuts 19 = .ok (.iconst 1, 1) := zo_4 (by decide +kernel)
theorem dX12_shuts_20 : decode cX12_shuts 20 = .ok (.if_icmp .ne 7, 3) := zo_160 (by decide +kernel)
theorem dX12_shuts_23 : decode cX12_shuts 23 = .ok (.iconst 1, 1) := zo_4 (by decide +kernel)
theorem dX12_shuts_24 : decode cX12_shuts 24 = .ok (.goto 4, 3) := zo_167 (by decide +kernel)
theorem dX12_shuts_27 : decode cX12_shuts 27 = .ok (.iconst 0, 1) := zo_3 (by decide +kernel)
theorem dX12_shuts_28 : decode cX12_shuts 28 = .ok (.iload_n 3, 1) := zo_29 (by decide +kernel)
theorem dX12_shuts_29 : decode cX12_shuts 29 = .ok (.if_icmp .ne 5, 3) := zo_160 (by decide +kernel)
theorem dX12_shuts_32 : decode cX12_shuts 32 = .ok (.iconst 0, 1) := zo_3 (by decide +kernel)
theorem dX12_shuts_33 : decode cX12_shuts 33 = .ok (.ireturn, 1) := zo_172 (by decide +kernel)
theorem dX12_shuts_34 : decode cX12_shuts 34 = .ok (.aload_n 0, 1) := zo_42 (by decide +kernel)
theorem dX12_shuts_35 : decode cX12_shuts 35 = .ok (.getfield 23, 3) := zo_180 (by decide +kernel)
theorem dX12_shuts_38 : decode cX12_shuts 38 = .ok (.iload_n 1, 1) := zo_27 (by decide +kernel)
theorem dX12_shuts_39 : decode cX12_shuts 39 = .ok (.dup2, 1) := zo_92 (by decide +kernel)
theorem dX12_shuts_40 : decode cX12_shuts 40 = .ok (.iaload, 1) := zo_46 (by decide +kernel)
theorem dX12_shuts_41 : decode cX12_shuts 41 = .ok (.iconst 1, 1) := zo_4 (by decide +kernel)
theorem dX12_shuts_42 : decode cX12_shuts 42 = .ok (.iload_n 2, 1) := zo_28 (by decide +kernel)
theorem dX12_shuts_43 : decode cX12_shuts 43 = .ok (.ishl, 1) := zo_120 (by decide +kernel)
theorem dX12_shuts_44 : decode cX12_shuts 44 = .ok (.ixor, 1) := zo_130 (by decide +kernel)
theorem dX12_shuts_45 : decode cX12_shuts 45 = .ok (.iastore, 1) := zo_79 (by decide +kernel)
theorem dX12_shuts_46 : decode cX12_shuts 46 = .ok (.iconst 1, 1) := zo_4 (by decide +kernel)
theorem dX12_shuts_47 : decode cX12_shuts 47 = .ok (.ireturn, 1) := zo_172 (by decide +kernel)
theorem dX12_does_0 : decode cX12_does 0 = .ok (.aload_n 0, 1) := zo_42 (by decide +kernel)
theorem dX12_does_1 : decode cX12_does 1 = .ok (.iload_n 2, 1) := zo_28 (by decide +kernel)
theorem dX12_does_2 : decode cX12_does 2 = .ok (.invokevirtual 187, 3) := zo_182 (by decide +kernel)
theorem dX12_does_5 : decode cX12_does 5 = .ok (.ifCond .ne 5, 3) := zo_154 (by decide +kernel)
theorem dX12_does_8 : decode cX12_does 8 = .ok (.iconst 0, 1) := zo_3 (by decide +kernel)
theorem dX12_does_9 : decode cX12_does 9 = .ok (.ireturn, 1) := zo_172 (by decide +kernel)
theorem dX12_does_10 : decode cX12_does 10 = .ok (.iload_n 1, 1) := zo_27 (by decide +kernel)
theorem dX12_does_11 : decode cX12_does 11 = .ok (.tableswitch 69 0 3 #[29, 35, 41, 63], 29) := by decide +kernel
theorem dX12_does_40 : decode cX12_does 40 = .ok (.aload_n 0, 1) := zo_42 (by decide +kernel)
theorem dX12_does_41 : decode cX12_does 41 = .ok (.iload_n 2, 1) := zo_28 (by decide +kernel)
theorem dX12_does_42 : decode cX12_does 42 = .ok (.invokevirtual 326, 3) := zo_182 (by decide +kernel)
theorem dX12_does_45 : decode cX12_does 45 = .ok (.ireturn, 1) := zo_172 (by decide +kernel)
theorem dX12_does_46 : decode cX12_does 46 = .ok (.aload_n 0, 1) := zo_42 (by decide +kernel)
theorem dX12_does_47 : decode cX12_does 47 = .ok (.iload_n 2, 1) := zo_28 (by decide +kernel)
theorem dX12_does_48 : decode cX12_does 48 = .ok (.invokevirtual 329, 3) := zo_182 (by decide +kernel)
theorem dX12_does_51 : decode cX12_does 51 = .ok (.ireturn, 1) := zo_172 (by decide +kernel)
theorem dX12_does_52 : decode cX12_does 52 = .ok (.aload_n 0, 1) := zo_42 (by decide +kernel)
theorem dX12_does_53 : decode cX12_does 53 = .ok (.iload_n 2, 1) := zo_28 (by decide +kernel)
theorem dX12_does_54 : decode cX12_does 54 = .ok (.invokevirtual 178, 3) := zo_182 (by decide +kernel)
theorem dX12_does_57 : decode cX12_does 57 = .ok (.ifCond .ne 15, 3) := zo_154 (by decide +kernel)
theorem dX12_does_60 : decode cX12_does 60 = .ok (.aload_n 0, 1) := zo_42 (by decide +kernel)
theorem dX12_does_61 : decode cX12_does 61 = .ok (.iload_n 2, 1) := zo_28 (by decide +kernel)
theorem dX12_does_62 : decode cX12_does 62 = .ok (.invokevirtual 205, 3) := zo_182 (by decide +kernel)
theorem dX12_does_65 : decode cX12_does 65 = .ok (.ifCond .eq 7, 3) := zo_153 (by decide +kernel)
theorem dX12_does_68 : decode cX12_does 68 = .ok (.iconst 1, 1) := zo_4 (by decide +kernel)
theorem dX12_does_69 : decode cX12_does 69 = .ok (.goto 4, 3) := zo_167 (by decide +kernel)
theorem dX12_does_72 : decode cX12_does 72 = .ok (.iconst 0, 1) := zo_3 (by decide +kernel)
theorem dX12_does_73 : decode cX12_does 73 = .ok (.ireturn, 1) := zo_172 (by decide +kernel)
theorem dX12_does_74 : decode cX12_does 74 = .ok (.aload_n 0, 1) := zo_42 (by decide +kernel)
theorem dX12_does_75 : decode cX12_does 75 = .ok (.iload_n 2, 1) := zo_28 (by decide +kernel)
theorem dX12_does_76 : decode cX12_does 76 = .ok (.invokevirtual 332, 3) := zo_182 (by decide +kernel)
theorem dX12_does_79 : decode cX12_does 79 = .ok (.ireturn, 1) := zo_172 (by decide +kernel)
theorem dX12_does_80 : decode cX12_does 80 = .ok (.aload_n 0, 1) := zo_42 (by decide +kernel)
theorem dX12_does_81 : decode cX12_does 81 = .ok (.iload_n 2, 1) := zo_28 (by decide +kernel)
theorem dX12_does_82 : decode cX12_does 82 = .ok (.iload_n 3, 1) := zo_29 (by decide +kernel)
theorem dX12_does_83 : decode cX12_does 83 = .ok (.iload_n 1, 1) := zo_27 (by decide +kernel)
theorem dX12_does_84 : decode cX12_does 84 = .ok (.iconst 4, 1) := zo_7 (by decide +kernel)
theorem dX12_does_85 : decode cX12_does 85 = .ok (.if_icmp .ne 7, 3) := zo_160 (by decide +kernel)
theorem dX12_does_88 : decode cX12_does 88 = .ok (.iconst 1, 1) := zo_4 (by decide +kernel)
theorem dX12_does_89 : decode cX12_does 89 = .ok (.goto 4, 3) := zo_167 (by decide +kernel)
theorem dX12_does_92 : decode cX12_does 92 = .ok (.iconst 0, 1) := zo_3 (by decide +kernel)
theorem dX12_does_93 : decode cX12_does 93 = .ok (.invokevirtual 335, 3) := zo_182 (by decide +kernel)
theorem dX12_does_96 : decode cX12_does 96 = .ok (.ireturn, 1) := zo_172 (by decide +kernel)
theorem dX12_beginsDay_0 : decode cX12_beginsDay 0 = .ok (.aload_n 0, 1) := zo_42 (by decide +kernel)
theorem dX12_beginsDay_1 : decode cX12_beginsDay 1 = .ok (.iconst 0, 1) := zo_3 (by decide +kernel)
theorem dX12_beginsDay_2 : decode cX12_beginsDay 2 = .ok (.putfield 320, 3) := zo_181 (by decide +kernel)
theorem dX12_beginsDay_5 : decode cX12_beginsDay 5 = .ok (.aload_n 0, 1) := zo_42 (by decide +kernel)
theorem dX12_beginsDay_6 : decode cX12_beginsDay 6 = .ok (.iconst (-1), 1) := zo_2 (by decide +kernel)
theorem dX12_beginsDay_7 : decode cX12_beginsDay 7 = .ok (.putfield 314, 3) := zo_181 (by decide +kernel)
theorem dX12_beginsDay_10 : decode cX12_beginsDay 10 = .ok (.aload_n 0, 1) := zo_42 (by decide +kernel)
theorem dX12_beginsDay_11 : decode cX12_beginsDay 11 = .ok (.iconst 0, 1) := zo_3 (by decide +kernel)
theorem dX12_beginsDay_12 : decode cX12_beginsDay 12 = .ok (.putfield 323, 3) := zo_181 (by decide +kernel)
theorem dX12_beginsDay_15 : decode cX12_beginsDay 15 = .ok (.aload_n 0, 1) := zo_42 (by decide +kernel)
theorem dX12_beginsDay_16 : decode cX12_beginsDay 16 = .ok (.iconst 0, 1) := zo_3 (by decide +kernel)
theorem dX12_beginsDay_17 : decode cX12_beginsDay 17 = .ok (.putfield 311, 3) := zo_181 (by decide +kernel)
theorem dX12_beginsDay_20 : decode cX12_beginsDay 20 = .ok (.aload_n 0, 1) := zo_42 (by decide +kernel)
theorem dX12_beginsDay_21 : decode cX12_beginsDay 21 = .ok (.iconst 0, 1) := zo_3 (by decide +kernel)
theorem dX12_beginsDay_22 : decode cX12_beginsDay 22 = .ok (.putfield 308, 3) := zo_181 (by decide +kernel)
theorem dX12_beginsDay_25 : decode cX12_beginsDay 25 = .ok (.aload_n 0, 1) := zo_42 (by decide +kernel)
theorem dX12_beginsDay_26 : decode cX12_beginsDay 26 = .ok (.invokevirtual 339, 3) := zo_182 (by decide +kernel)
theorem dX12_beginsDay_29 : decode cX12_beginsDay 29 = .ok (.return_, 1) := zo_177 (by decide +kernel)
theorem dX12_runs_0 : decode cX12_runs 0 = .ok (.aload_n 0, 1) := zo_42 (by decide +kernel)
theorem dX12_runs_1 : decode cX12_runs 1 = .ok (.invokevirtual 342, 3) := zo_182 (by decide +kernel)
theorem dX12_runs_4 : decode cX12_runs 4 = .ok (.aload_n 0, 1) := zo_42 (by decide +kernel)
theorem dX12_runs_5 : decode cX12_runs 5 = .ok (.getfield 199, 3) := zo_180 (by decide +kernel)
theorem dX12_runs_8 : decode cX12_runs 8 = .ok (.iload_n 1, 1) := zo_27 (by decide +kernel)
theorem dX12_runs_9 : decode cX12_runs 9 = .ok (.if_icmp .ge 97, 3) := zo_162 (by decide +kernel)
theorem dX12_runs_12 : decode cX12_runs 12 = .ok (.aload_n 0, 1) := zo_42 (by decide +kernel)
theorem dX12_runs_13 : decode cX12_runs 13 = .ok (.getfield 199, 3) := zo_180 (by decide +kernel)
theorem dX12_runs_16 : decode cX12_runs 16 = .ok (.aload_n 0, 1) := zo_42 (by decide +kernel)
theorem dX12_runs_17 : decode cX12_runs 17 = .ok (.getfield 7, 3) := zo_180 (by decide +kernel)
theorem dX12_runs_20 : decode cX12_runs 20 = .ok (.aload_n 0, 1) := zo_42 (by decide +kernel)
theorem dX12_runs_21 : decode cX12_runs 21 = .ok (.getfield 302, 3) := zo_180 (by decide +kernel)
theorem dX12_runs_24 : decode cX12_runs 24 = .ok (.iaload, 1) := zo_46 (by decide +kernel)
theorem dX12_runs_25 : decode cX12_runs 25 = .ok (.if_icmp .ge 81, 3) := zo_162 (by decide +kernel)
theorem dX12_runs_28 : decode cX12_runs 28 = .ok (.aload_n 0, 1) := zo_42 (by decide +kernel)
theorem dX12_runs_29 : decode cX12_runs 29 = .ok (.aload_n 0, 1) := zo_42 (by decide +kernel)
theorem dX12_runs_30 : decode cX12_runs 30 = .ok (.getfield 7, 3) := zo_180 (by decide +kernel)
theorem dX12_runs_33 : decode cX12_runs 33 = .ok (.aload_n 0, 1) := zo_42 (by decide +kernel)
theorem dX12_runs_34 : decode cX12_runs 34 = .ok (.getfield 302, 3) := zo_180 (by decide +kernel)
theorem dX12_runs_37 : decode cX12_runs 37 = .ok (.iconst 1, 1) := zo_4 (by decide +kernel)
theorem dX12_runs_38 : decode cX12_runs 38 = .ok (.iadd, 1) := zo_96 (by decide +kernel)
theorem dX12_runs_39 : decode cX12_runs 39 = .ok (.iconst 3, 1) := zo_6 (by decide +kernel)
theorem dX12_runs_40 : decode cX12_runs 40 = .ok (.aload_n 0, 1) := zo_42 (by decide +kernel)
theorem dX12_runs_41 : decode cX12_runs 41 = .ok (.getfield 199, 3) := zo_180 (by decide +kernel)
theorem dX12_runs_44 : decode cX12_runs 44 = .ok (.imul, 1) := zo_104 (by decide +kernel)
theorem dX12_runs_45 : decode cX12_runs 45 = .ok (.iadd, 1) := zo_96 (by decide +kernel)
theorem dX12_runs_46 : decode cX12_runs 46 = .ok (.iaload, 1) := zo_46 (by decide +kernel)
theorem dX12_runs_47 : decode cX12_runs 47 = .ok (.aload_n 0, 1) := zo_42 (by decide +kernel)
theorem dX12_runs_48 : decode cX12_runs 48 = .ok (.getfield 7, 3) := zo_180 (by decide +kernel)
theorem dX12_runs_51 : decode cX12_runs 51 = .ok (.aload_n 0, 1) := zo_42 (by decide +kernel)
theorem dX12_runs_52 : decode cX12_runs 52 = .ok (.getfield 302, 3) := zo_180 (by decide +kernel)
theorem dX12_runs_55 : decode cX12_runs 55 = .ok (.iconst 2, 1) := zo_5 (by decide +kernel)
theorem dX12_runs_56 : decode cX12_runs 56 = .ok (.iadd, 1) := zo_96 (by decide +kernel)
theorem dX12_runs_57 : decode cX12_runs 57 = .ok (.iconst 3, 1) := zo_6 (by decide +kernel)
theorem dX12_runs_58 : decode cX12_runs 58 = .ok (.aload_n 0, 1) := zo_42 (by decide +kernel)
theorem dX12_runs_59 : decode cX12_runs 59 = .ok (.getfield 199, 3) := zo_180 (by decide +kernel)
theorem dX12_runs_62 : decode cX12_runs 62 = .ok (.imul, 1) := zo_104 (by decide +kernel)
theorem dX12_runs_63 : decode cX12_runs 63 = .ok (.iadd, 1) := zo_96 (by decide +kernel)
theorem dX12_runs_64 : decode cX12_runs 64 = .ok (.iaload, 1) := zo_46 (by decide +kernel)
theorem dX12_runs_65 : decode cX12_runs 65 = .ok (.aload_n 0, 1) := zo_42 (by decide +kernel)
theorem dX12_runs_66 : decode cX12_runs 66 = .ok (.getfield 7, 3) := zo_180 (by decide +kernel)
theorem dX12_runs_69 : decode cX12_runs 69 = .ok (.aload_n 0, 1) := zo_42 (by decide +kernel)
theorem dX12_runs_70 : decode cX12_runs 70 = .ok (.getfield 302, 3) := zo_180 (by decide +kernel)
theorem dX12_runs_73 : decode cX12_runs 73 = .ok (.iconst 3, 1) := zo_6 (by decide +kernel)
theorem dX12_runs_74 : decode cX12_runs 74 = .ok (.iadd, 1) := zo_96 (by decide +kernel)
theorem dX12_runs_75 : decode cX12_runs 75 = .ok (.iconst 3, 1) := zo_6 (by decide +kernel)
theorem dX12_runs_76 : decode cX12_runs 76 = .ok (.aload_n 0, 1) := zo_42 (by decide +kernel)
theorem dX12_runs_77 : decode cX12_runs 77 = .ok (.getfield 199, 3) := zo_180 (by decide +kernel)
theorem dX12_runs_80 : decode cX12_runs 80 = .ok (.imul, 1) := zo_104 (by decide +kernel)
theorem dX12_runs_81 : decode cX12_runs 81 = .ok (.iadd, 1) := zo_96 (by decide +kernel)
theorem dX12_runs_82 : decode cX12_runs 82 = .ok (.iaload, 1) := zo_46 (by decide +kernel)
theorem dX12_runs_83 : decode cX12_runs 83 = .ok (.invokevirtual 345, 3) := zo_182 (by decide +kernel)
theorem dX12_runs_86 : decode cX12_runs 86 = .ok (.ifCond .eq 20, 3) := zo_153 (by decide +kernel)
theorem dX12_runs_89 : decode cX12_runs 89 = .ok (.aload_n 0, 1) := zo_42 (by decide +kernel)
theorem dX12_runs_90 : decode cX12_runs 90 = .ok (.dup, 1) := zo_89 (by decide +kernel)
theorem dX12_runs_91 : decode cX12_runs 91 = .ok (.getfield 199, 3) := zo_180 (by decide +kernel)
theorem dX12_runs_94 : decode cX12_runs 94 = .ok (.iconst 1, 1) := zo_4 (by decide +kernel)
theorem dX12_runs_95 : decode cX12_runs 95 = .ok (.iadd, 1) := zo_96 (by decide +kernel)
theorem dX12_runs_96 : decode cX12_runs 96 = .ok (.putfield 199, 3) := zo_181 (by decide +kernel)
theorem dX12_runs_99 : decode cX12_runs 99 = .ok (.aload_n 0, 1) := zo_42 (by decide +kernel)
theorem dX12_runs_100 : decode cX12_runs 100 = .ok (.invokevirtual 339, 3) := zo_182 (by decide +kernel)
theorem dX12_runs_103 : decode cX12_runs 103 = .ok (.goto (-99), 3) := zo_167 (by decide +kernel)
theorem dX12_runs_106 : decode cX12_runs 106 = .ok (.return_, 1) := zo_177 (by decide +kernel)
theorem dX12_walkersOf_0 : decode cX12_walkersOf 0 = .ok (.iconst 0, 1) := zo_3 (by decide +kernel)
theorem dX12_walkersOf_1 : decode cX12_walkersOf 1 = .ok (.istore_n 2, 1) := zo_61 (by decide +kernel)
theorem dX12_walkersOf_2 : decode cX12_walkersOf 2 = .ok (.iconst 0, 1) := zo_3 (by decide +kernel)
theorem dX12_walkersOf_3 : decode cX12_walkersOf 3 = .ok (.istore_n 3, 1) := zo_62 (by decide +kernel)
theorem dX12_walkersOf_4 : decode cX12_walkersOf 4 = .ok (.iload_n 3, 1) := zo_29 (by decide +kernel)
theorem dX12_walkersOf_5 : decode cX12_walkersOf 5 = .ok (.aload_n 0, 1) := zo_42 (by decide +kernel)
theorem dX12_walkersOf_6 : decode cX12_walkersOf 6 = .ok (.getfield 169, 3) := zo_180 (by decide +kernel)
theorem dX12_walkersOf_9 : decode cX12_walkersOf 9 = .ok (.if_icmp .ge 34, 3) := zo_162 (by decide +kernel)
theorem dX12_walkersOf_12 : decode cX12_walkersOf 12 = .ok (.iload_n 2, 1) := zo_28 (by decide +kernel)
theorem dX12_walkersOf_13 : decode cX12_walkersOf 13 = .ok (.iload_n 1, 1) := zo_27 (by decide +kernel)
theorem dX12_walkersOf_14 : decode cX12_walkersOf 14 = .ok (.ifCond .eq 11, 3) := zo_153 (by decide +kernel)
theorem dX12_walkersOf_17 : decode cX12_walkersOf 17 = .ok (.aload_n 0, 1) := zo_42 (by decide +kernel)
theorem dX12_walkersOf_18 : decode cX12_walkersOf 18 = .ok (.iload_n 3, 1) := zo_29 (by decide +kernel)
theorem dX12_walkersOf_19 : decode cX12_walkersOf 19 = .ok (.invokevirtual 178, 3) := zo_182 (by decide +kernel)
theorem dX12_walkersOf_22 : decode cX12_walkersOf 22 = .ok (.ifCond .eq 12, 3) := zo_153 (by decide +kernel)
theorem dX12_walkersOf_25 : decode cX12_walkersOf 25 = .ok (.aload_n 0, 1) := zo_42 (by decide +kernel)
theorem dX12_walkersOf_26 : decode cX12_walkersOf 26 = .ok (.getfield 26, 3) := zo_180 (by decide +kernel)
theorem dX12_walkersOf_29 : decode cX12_walkersOf 29 = .ok (.iload_n 3, 1) := zo_29 (by decide +kernel)
theorem dX12_walkersOf_30 : decode cX12_walkersOf 30 = .ok (.iaload, 1) := zo_46 (by decide +kernel)
theorem dX12_walkersOf_31 : decode cX12_walkersOf 31 = .ok (.goto 4, 3) := zo_167 (by decide +kernel)
theorem dX12_walkersOf_34 : decode cX12_walkersOf 34 = .ok (.iconst 0, 1) := zo_3 (by decide +kernel)
theorem dX12_walkersOf_35 : decode cX12_walkersOf 35 = .ok (.iadd, 1) := zo_96 (by decide +kernel)
theorem dX12_walkersOf_36 : decode cX12_walkersOf 36 = .ok (.istore_n 2, 1) := zo_61 (by decide +kernel)
theorem dX12_walkersOf_37 : decode cX12_walkersOf 37 = .ok (.iinc 3 1, 3) := zo_132 (by decide +kernel)
theorem dX12_walkersOf_40 : decode cX12_walkersOf 40 = .ok (.goto (-36), 3) := zo_167 (by decide +kernel)
theorem dX12_walkersOf_43 : decode cX12_walkersOf 43 = .ok (.iload_n 2, 1) := zo_28 (by decide +kernel)
theorem dX12_walkersOf_44 : decode cX12_walkersOf 44 = .ok (.ireturn, 1) := zo_172 (by decide +kernel)
theorem dX12_nowOf_0 : decode cX12_nowOf 0 = .ok (.iload_n 1, 1) := zo_27 (by decide +kernel)
theorem dX12_nowOf_1 : decode cX12_nowOf 1 = .ok (.tableswitch 56 0 3 #[31, 36, 36, 51], 31) := by decide +kernel
theorem dX12_nowOf_32 : decode cX12_nowOf 32 = .ok (.aload_n 0, 1) := zo_42 (by decide +kernel)
theorem dX12_nowOf_33 : decode cX12_nowOf 33 = .ok (.getfield 196, 3) := zo_180 (by decide +kernel)
theorem dX12_nowOf_36 : decode cX12_nowOf 36 = .ok (.ireturn, 1) := zo_172 (by decide +kernel)
theorem dX12_nowOf_37 : decode cX12_nowOf 37 = .ok (.aload_n 0, 1) := zo_42 (by decide +kernel)
theorem dX12_nowOf_38 : decode cX12_nowOf 38 = .ok (.iload_n 1, 1) := zo_27 (by decide +kernel)
theorem dX12_nowOf_39 : decode cX12_nowOf 39 = .ok (.iconst 1, 1) := zo_4 (by decide +kernel)
theorem dX12_nowOf_40 : decode cX12_nowOf 40 = .ok (.if_icmp .ne 7, 3) := zo_160 (by decide +kernel)
theorem dX12_nowOf_43 : decode cX12_nowOf 43 = .ok (.iconst 1, 1) := zo_4 (by decide +kernel)
theorem dX12_nowOf_44 : decode cX12_nowOf 44 = .ok (.goto 4, 3) := zo_167 (by decide +kernel)
theorem dX12_nowOf_47 : decode cX12_nowOf 47 = .ok (.iconst 0, 1) := zo_3 (by decide +kernel)
theorem dX12_nowOf_48 : decode cX12_nowOf 48 = .ok (.invokevirtual 351, 3) := zo_182 (by decide +kernel)
theorem dX12_nowOf_51 : decode cX12_nowOf 51 = .ok (.ireturn, 1) := zo_172 (by decide +kernel)
theorem dX12_nowOf_52 : decode cX12_nowOf 52 = .ok (.aload_n 0, 1) := zo_42 (by decide +kernel)
theorem dX12_nowOf_53 : decode cX12_nowOf 53 = .ok (.getfield 320, 3) := zo_180 (by decide +kernel)
theorem dX12_nowOf_56 : decode cX12_nowOf 56 = .ok (.ireturn, 1) := zo_172 (by decide +kernel)
theorem dX12_nowOf_57 : decode cX12_nowOf 57 = .ok (.iload_n 1, 1) := zo_27 (by decide +kernel)
theorem dX12_nowOf_58 : decode cX12_nowOf 58 = .ok (.bipush 10, 2) := zo_16 (by decide +kernel)
theorem dX12_nowOf_60 : decode cX12_nowOf 60 = .ok (.irem, 1) := zo_112 (by decide +kernel)
theorem dX12_nowOf_61 : decode cX12_nowOf 61 = .ok (.istore_n 2, 1) := zo_61 (by decide +kernel)
theorem dX12_nowOf_62 : decode cX12_nowOf 62 = .ok (.iload_n 1, 1) := zo_27 (by decide +kernel)
theorem dX12_nowOf_63 : decode cX12_nowOf 63 = .ok (.bipush 10, 2) := zo_16 (by decide +kernel)
theorem dX12_nowOf_65 : decode cX12_nowOf 65 = .ok (.bipush 39, 2) := zo_16 (by decide +kernel)
theorem dX12_nowOf_67 : decode cX12_nowOf 67 = .ok (.invokestatic 111, 3) := zo_184 (by decide +kernel)
theorem dX12_nowOf_70 : decode cX12_nowOf 70 = .ok (.ifCond .eq 11, 3) := zo_153 (by decide +kernel)
theorem dX12_nowOf_73 : decode cX12_nowOf 73 = .ok (.aload_n 0, 1) := zo_42 (by decide +kernel)
theorem dX12_nowOf_74 : decode cX12_nowOf 74 = .ok (.iload_n 2, 1) := zo_28 (by decide +kernel)
theorem dX12_nowOf_75 : decode cX12_nowOf 75 = .ok (.invokevirtual 187, 3) := zo_182 (by decide +kernel)
theorem dX12_nowOf_78 : decode cX12_nowOf 78 = .ok (.ifCond .ne 6, 3) := zo_154 (by decide +kernel)
theorem dX12_nowOf_81 : decode cX12_nowOf 81 = .ok (.bipush (-2), 2) := zo_16 (by decide +kernel)
theorem dX12_nowOf_83 : decode cX12_nowOf 83 = .ok (.ireturn, 1) := zo_172 (by decide +kernel)
theorem dX12_nowOf_84 : decode cX12_nowOf 84 = .ok (.iload_n 1, 1) := zo_27 (by decide +kernel)
theorem dX12_nowOf_85 : decode cX12_nowOf 85 = .ok (.bipush 20, 2) := zo_16 (by decide +kernel)
theorem dX12_nowOf_87 : decode cX12_nowOf 87 = .ok (.if_icmp .ge 12, 3) := zo_162 (by decide +kernel)
theorem dX12_nowOf_90 : decode cX12_nowOf 90 = .ok (.aload_n 0, 1) := zo_42 (by decide +kernel)
theorem dX12_nowOf_91 : decode cX12_nowOf 91 = .ok (.getfield 20, 3) := zo_180 (by decide +kernel)
theorem dX12_nowOf_94 : decode cX12_nowOf 94 = .ok (.iload_n 2, 1) := zo_28 (by decide +kernel)
theorem dX12_nowOf_95 : decode cX12_nowOf 95 = .ok (.iaload, 1) := zo_46 (by decide +kernel)
theorem dX12_nowOf_96 : decode cX12_nowOf 96 = .ok (.goto 24, 3) := zo_167 (by decide +kernel)
theorem dX12_nowOf_99 : decode cX12_nowOf 99 = .ok (.iload_n 1, 1) := zo_27 (by decide +kernel)
theorem dX12_nowOf_100 : decode cX12_nowOf 100 = .ok (.bipush 30, 2) := zo_16 (by decide +kernel)
theorem dX12_nowOf_102 : decode cX12_nowOf 102 = .ok (.if_icmp .ge 12, 3) := zo_162 (by decide +kernel)
theorem dX12_nowOf_105 : decode cX12_nowOf 105 = .ok (.aload_n 0, 1) := zo_42 (by decide +kernel)
theorem dX12_nowOf_106 : decode cX12_nowOf 106 = .ok (.getfield 26, 3) := zo_180 (by decide +kernel)
theorem dX12_nowOf_109 : decode cX12_nowOf 109 = .ok (.iload_n 2, 1) := zo_28 (by decide +kernel)
theorem dX12_nowOf_110 : decode cX12_nowOf 110 = .ok (.iaload, 1) := zo_46 (by decide +kernel)
theorem dX12_nowOf_111 : decode cX12_nowOf 111 = .ok (.goto 9, 3) := zo_167 (by decide +kernel)
theorem dX12_nowOf_114 : decode cX12_nowOf 114 = .ok (.aload_n 0, 1) := zo_42 (by decide +kernel)
theorem dX12_nowOf_115 : decode cX12_nowOf 115 = .ok (.getfield 23, 3) := zo_180 (by decide +kernel)
theorem dX12_nowOf_118 : decode cX12_nowOf 118 = .ok (.iload_n 2, 1) := zo_28 (by decide +kernel)
theorem dX12_nowOf_119 : decode cX12_nowOf 119 = .ok (.iaload, 1) := zo_46 (by decide +kernel)
theorem dX12_nowOf_120 : decode cX12_nowOf 120 = .ok (.ireturn, 1) := zo_172 (by decide +kernel)
theorem dX12_elsewhere_0 : decode cX12_elsewhere 0 = .ok (.iconst 0, 1) := zo_3 (by decide +kernel)
theorem dX12_elsewhere_1 : decode cX12_elsewhere 1 = .ok (.istore_n 1, 1) := zo_60 (by decide +kernel)
theorem dX12_elsewhere_2 : decode cX12_elsewhere 2 = .ok (.iconst 0, 1) := zo_3 (by decide +kernel)
theorem dX12_elsewhere_3 : decode cX12_elsewhere 3 = .ok (.istore_n 2, 1) := zo_61 (by decide +kernel)
theorem dX12_elsewhere_4 : decode cX12_elsewhere 4 = .ok (.iload_n 2, 1) := zo_28 (by decide +kernel)
theorem dX12_elsewhere_5 : decode cX12_elsewhere 5 = .ok (.aload_n 0, 1) := zo_42 (by decide +kernel)
theorem dX12_elsewhere_6 : decode cX12_elsewhere 6 = .ok (.getfield 169, 3) := zo_180 (by decide +kernel)
theorem dX12_elsewhere_9 : decode cX12_elsewhere 9 = .ok (.if_icmp .ge 33, 3) := zo_162 (by decide +kernel)
theorem dX12_elsewhere_12 : decode cX12_elsewhere 12 = .ok (.iload_n 1, 1) := zo_27 (by decide +kernel)
theorem dX12_elsewhere_13 : decode cX12_elsewhere 13 = .ok (.aload_n 0, 1) := zo_42 (by decide +kernel)
theorem dX12_elsewhere_14 : decode cX12_elsewhere 14 = .ok (.getfield 20, 3) := zo_180 (by decide +kernel)
theorem dX12_elsewhere_17 : decode cX12_elsewhere 17 = .ok (.iload_n 2, 1) := zo_28 (by decide +kernel)
theorem dX12_elsewhere_18 : decode cX12_elsewhere 18 = .ok (.iaload, 1) := zo_46 (by decide +kernel)
theorem dX12_elsewhere_19 : decode cX12_elsewhere 19 = .ok (.aload_n 0, 1) := zo_42 (by decide +kernel)
theorem dX12_elsewhere_20 : decode cX12_elsewhere 20 = .ok (.iload_n 2, 1) := zo_28 (by decide +kernel)
theorem dX12_elsewhere_21 : decode cX12_elsewhere 21 = .ok (.invokevirtual 193, 3) := zo_182 (by decide +kernel)
theorem dX12_elsewhere_24 : decode cX12_elsewhere 24 = .ok (.if_icmp .ne 7, 3) := zo_160 (by decide +kernel)
theorem dX12_elsewhere_27 : decode cX12_elsewhere 27 = .ok (.iconst 0, 1) := zo_3 (by decide +kernel)
theorem dX12_elsewhere_28 : decode cX12_elsewhere 28 = .ok (.goto 6, 3) := zo_167 (by decide +kernel)
theorem dX12_elsewhere_31 : decode cX12_elsewhere 31 = .ok (.iconst 1, 1) := zo_4 (by decide +kernel)
theorem dX12_elsewhere_32 : decode cX12_elsewhere 32 = .ok (.iload_n 2, 1) := zo_28 (by decide +kernel)
theorem dX12_elsewhere_33 : decode cX12_elsewhere 33 = .ok (.ishl, 1) := zo_120 (by decide +kernel)
theorem dX12_elsewhere_34 : decode cX12_elsewhere 34 = .ok (.ior, 1) := zo_128 (by decide +kernel)
theorem dX12_elsewhere_35 : decode cX12_elsewhere 35 = .ok (.istore_n 1, 1) := zo_60 (by decide +kernel)
theorem dX12_elsewhere_36 : decode cX12_elsewhere 36 = .ok (.iinc 2 1, 3) := zo_132 (by decide +kernel)
theorem dX12_elsewhere_39 : decode cX12_elsewhere 39 = .ok (.goto (-35), 3) := zo_167 (by decide +kernel)
theorem dX12_elsewhere_42 : decode cX12_elsewhere 42 = .ok (.iload_n 1, 1) := zo_27 (by decide +kernel)
theorem dX12_elsewhere_43 : decode cX12_elsewhere 43 = .ok (.ireturn, 1) := zo_172 (by decide +kernel)
theorem dX12_stop_0 : decode cX12_stop 0 = .ok (.aload_n 0, 1) := zo_42 (by decide +kernel)
theorem dX12_stop_1 : decode cX12_stop 1 = .ok (.iload_n 1, 1) := zo_27 (by decide +kernel)
theorem dX12_stop_2 : decode cX12_stop 2 = .ok (.invokevirtual 184, 3) := zo_182 (by decide +kernel)
theorem dX12_stop_5 : decode cX12_stop 5 = .ok (.ifCond .eq 11, 3) := zo_153 (by decide +kernel)
theorem dX12_stop_8 : decode cX12_stop 8 = .ok (.aload_n 0, 1) := zo_42 (by decide +kernel)
theorem dX12_stop_9 : decode cX12_stop 9 = .ok (.iload_n 2, 1) := zo_28 (by decide +kernel)
theorem dX12_stop_10 : decode cX12_stop 10 = .ok (.invokevirtual 305, 3) := zo_182 (by decide +kernel)
theorem dX12_stop_13 : decode cX12_stop 13 = .ok (.ifCond .ne 5, 3) := zo_154 (by decide +kernel)
theorem dX12_stop_16 : decode cX12_stop 16 = .ok (.iconst (-1), 1) := zo_2 (by decide +kernel)
theorem dX12_stop_17 : decode cX12_stop 17 = .ok (.ireturn, 1) := zo_172 (by decide +kernel)
theorem dX12_stop_18 : decode cX12_stop 18 = .ok (.aload_n 0, 1) := zo_42 (by decide +kernel)
theorem dX12_stop_19 : decode cX12_stop 19 = .ok (.bipush 40, 2) := zo_16 (by decide +kernel)
theorem dX12_stop_21 : decode cX12_stop 21 = .ok (.invokevirtual 348, 3) := zo_182 (by decide +kernel)
theorem dX12_stop_24 : decode cX12_stop 24 = .ok (.aload_n 0, 1) := zo_42 (by decide +kernel)
theorem dX12_stop_25 : decode cX12_stop 25 = .ok (.getfield 199, 3) := zo_180 (by decide +kernel)
theorem dX12_stop_28 : decode cX12_stop 28 = .ok (.ireturn, 1) := zo_172 (by decide +kernel)
theorem dX12_state_0 : decode cX12_state 0 = .ok (.aload_n 0, 1) := zo_42 (by decide +kernel)
theorem dX12_state_1 : decode cX12_state 1 = .ok (.iload_n 1, 1) := zo_27 (by decide +kernel)
theorem dX12_state_2 : decode cX12_state 2 = .ok (.invokevirtual 184, 3) := zo_182 (by decide +kernel)
theorem dX12_state_5 : decode cX12_state 5 = .ok (.ifCond .eq 15, 3) := zo_153 (by decide +kernel)
theorem dX12_state_8 : decode cX12_state 8 = .ok (.aload_n 0, 1) := zo_42 (by decide +kernel)
theorem dX12_state_9 : decode cX12_state 9 = .ok (.iload_n 2, 1) := zo_28 (by decide +kernel)
theorem dX12_state_10 : decode cX12_state 10 = .ok (.invokevirtual 305, 3) := zo_182 (by decide +kernel)
theorem dX12_state_13 : decode cX12_state 13 = .ok (.ifCond .eq 7, 3) := zo_153 (by decide +kernel)
theorem dX12_state_16 : decode cX12_state 16 = .ok (.iload_n 3, 1) := zo_29 (by decide +kernel)
theorem dX12_state_17 : decode cX12_state 17 = .ok (.ifCond .ge 6, 3) := zo_156 (by decide +kernel)
theorem dX12_state_20 : decode cX12_state 20 = .ok (.bipush (-2), 2) := zo_16 (by decide +kernel)
theorem dX12_state_22 : decode cX12_state 22 = .ok (.ireturn, 1) := zo_172 (by decide +kernel)
theorem dX12_state_23 : decode cX12_state 23 = .ok (.aload_n 0, 1) := zo_42 (by decide +kernel)
theorem dX12_state_24 : decode cX12_state 24 = .ok (.iload_n 3, 1) := zo_29 (by decide +kernel)
theorem dX12_state_25 : decode cX12_state 25 = .ok (.invokevirtual 348, 3) := zo_182 (by decide +kernel)
theorem dX12_state_28 : decode cX12_state 28 = .ok (.aload_n 0, 1) := zo_42 (by decide +kernel)
theorem dX12_state_29 : decode cX12_state 29 = .ok (.getfield 199, 3) := zo_180 (by decide +kernel)
theorem dX12_state_32 : decode cX12_state 32 = .ok (.iload_n 3, 1) := zo_29 (by decide +kernel)
theorem dX12_state_33 : decode cX12_state 33 = .ok (.if_icmp .ne 12, 3) := zo_160 (by decide +kernel)
theorem dX12_state_36 : decode cX12_state 36 = .ok (.aload_n 0, 1) := zo_42 (by decide +kernel)
theorem dX12_state_37 : decode cX12_state 37 = .ok (.iload 4, 2) := zo_21 (by decide +kernel)
theorem dX12_state_39 : decode cX12_state 39 = .ok (.invokevirtual 354, 3) := zo_182 (by decide +kernel)
theorem dX12_state_42 : decode cX12_state 42 = .ok (.goto 5, 3) := zo_167 (by decide +kernel)
theorem dX12_state_45 : decode cX12_state 45 = .ok (.bipush (-2), 2) := zo_16 (by decide +kernel)
theorem dX12_state_47 : decode cX12_state 47 = .ok (.ireturn, 1) := zo_172 (by decide +kernel)
theorem dX12_after_0 : decode cX12_after 0 = .ok (.aload_n 0, 1) := zo_42 (by decide +kernel)
theorem dX12_after_1 : decode cX12_after 1 = .ok (.iload_n 1, 1) := zo_27 (by decide +kernel)
theorem dX12_after_2 : decode cX12_after 2 = .ok (.invokevirtual 184, 3) := zo_182 (by decide +kernel)
theorem dX12_after_5 : decode cX12_after 5 = .ok (.ifCond .eq 11, 3) := zo_153 (by decide +kernel)
theorem dX12_after_8 : decode cX12_after 8 = .ok (.aload_n 0, 1) := zo_42 (by decide +kernel)
theorem dX12_after_9 : decode cX12_after 9 = .ok (.iload_n 2, 1) := zo_28 (by decide +kernel)
theorem dX12_after_10 : decode cX12_after 10 = .ok (.invokevirtual 305, 3) := zo_182 (by decide +kernel)
theorem dX12_after_13 : decode cX12_after 13 = .ok (.ifCond .ne 6, 3) := zo_154 (by decide +kernel)
theorem dX12_after_16 : decode cX12_after 16 = .ok (.bipush (-2), 2) := zo_16 (by decide +kernel)
theorem dX12_after_18 : decode cX12_after 18 = .ok (.ireturn, 1) := zo_172 (by decide +kernel)
theorem dX12_after_19 : decode cX12_after 19 = .ok (.aload_n 0, 1) := zo_42 (by decide +kernel)
theorem dX12_after_20 : decode cX12_after 20 = .ok (.bipush 40, 2) := zo_16 (by decide +kernel)
theorem dX12_after_22 : decode cX12_after 22 = .ok (.invokevirtual 348, 3) := zo_182 (by decide +kernel)
theorem dX12_after_25 : decode cX12_after 25 = .ok (.iload_n 3, 1) := zo_29 (by decide +kernel)
theorem dX12_after_26 : decode cX12_after 26 = .ok (.tableswitch 59 0 4 #[34, 39, 44, 49, 54], 34) := by decide +kernel
theorem dX12_after_60 : decode cX12_after 60 = .ok (.aload_n 0, 1) := zo_42 (by decide +kernel)
theorem dX12_after_61 : decode cX12_after 61 = .ok (.getfield 314, 3) := zo_180 (by decide +kernel)
theorem dX12_after_64 : decode cX12_after 64 = .ok (.ireturn, 1) := zo_172 (by decide +kernel)
theorem dX12_after_65 : decode cX12_after 65 = .ok (.aload_n 0, 1) := zo_42 (by decide +kernel)
theorem dX12_after_66 : decode cX12_after 66 = .ok (.getfield 323, 3) := zo_180 (by decide +kernel)
theorem dX12_after_69 : decode cX12_after 69 = .ok (.ireturn, 1) := zo_172 (by decide +kernel)
theorem dX12_after_70 : decode cX12_after 70 = .ok (.aload_n 0, 1) := zo_42 (by decide +kernel)
theorem dX12_after_71 : decode cX12_after 71 = .ok (.getfield 311, 3) := zo_180 (by decide +kernel)
theorem dX12_after_74 : decode cX12_after 74 = .ok (.ireturn, 1) := zo_172 (by decide +kernel)
theorem dX12_after_75 : decode cX12_after 75 = .ok (.aload_n 0, 1) := zo_42 (by decide +kernel)
theorem dX12_after_76 : decode cX12_after 76 = .ok (.getfield 308, 3) := zo_180 (by decide +kernel)
theorem dX12_after_79 : decode cX12_after 79 = .ok (.ireturn, 1) := zo_172 (by decide +kernel)
theorem dX12_after_80 : decode cX12_after 80 = .ok (.aload_n 0, 1) := zo_42 (by decide +kernel)
theorem dX12_after_81 : decode cX12_after 81 = .ok (.invokevirtual 357, 3) := zo_182 (by decide +kernel)
theorem dX12_after_84 : decode cX12_after 84 = .ok (.ireturn, 1) := zo_172 (by decide +kernel)
theorem dX12_after_85 : decode cX12_after 85 = .ok (.bipush (-2), 2) := zo_16 (by decide +kernel)
theorem dX12_after_87 : decode cX12_after 87 = .ok (.ireturn, 1) := zo_172 (by decide +kernel)

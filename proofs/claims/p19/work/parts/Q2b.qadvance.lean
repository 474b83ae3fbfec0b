set_option maxHeartbeats 4000000 in
set_option maxRecDepth 100000 in
/-- byteAt -/
theorem c_fm_byteAt (l : Launch) (T : zTy) (mo : Nat) (m_all : Nat) (m_has : Nat) (i_size : Int32) (i_next : Int32) (i_where : Int32) (i_token : Int32) (i_number : Int32) (i_word : Int32) (i_wrong : Int32) (i_farCrossing : Int32) (m_read : Nat) (i_z0 : Int32) (i_crossings : Int32) (i_inns : Int32) (m_posts : Nat) (m_shut : Nat) (m_here : Nat) (i_steps : Int32) (i_done : Int32) (i_at : Int32) (i_gone : Int32) (m_was : Nat) (m_came : Nat) (m_seenAt : Nat) (m_rowWorth : Nat) (m_farBy : Nat) (m_used : Nat) (i_everywhere : Int32) (i_again0 : Int32) (i_d0 : Int32) (i_never : Int32) (i_firstCame : Int32) (i_longRun : Int32) (i_moved : Int32) (i_crowd : Int32) (i_l0 : Int32) (i_fitMany : Int32) (i_fitLeast : Int32) (i_fitMost : Int32) (m_fitPost : Nat) (m_fitEnd : Nat) (m_keptPosts : Nat) (i_x0 : Int32) (f_all : Nat → Int32) (x : Int32) (n : Nat) (qq : Nat) (hsn : i_size = nI n) (hxq : x = nI qq) (hn6 : n ≤ 600) (hq6 : qq ≤ 600) : zMi l T yX12_byteAt cX12_byteAt 2 (some .int) 1 0 0 [.ref mo, .int x] [[zO11 mo m_all m_has i_size i_next i_where i_token i_number i_word i_wrong i_farCrossing m_read i_z0 i_crossings i_inns m_posts m_shut m_here i_steps i_done i_at i_gone m_was m_came m_seenAt m_rowWorth m_farBy m_used i_everywhere i_again0 i_d0 i_never i_firstCame i_longRun i_moved i_crowd i_l0 i_fitMany i_fitLeast i_fitMost m_fitPost m_fitEnd m_keptPosts i_x0], [zAr T 0 m_all 3952 f_all]] (fun (r : Int32) bs => bs = [[zO11 mo m_all m_has i_size i_next i_where i_token i_number i_word i_wrong i_farCrossing m_read i_z0 i_crossings i_inns m_posts m_shut m_here i_steps i_done i_at i_gone m_was m_came m_seenAt m_rowWorth m_farBy m_used i_everywhere i_again0 i_d0 i_never i_firstCame i_longRun i_moved i_crowd i_l0 i_fitMany i_fitLeast i_fitMost m_fitPost m_fitEnd m_keptPosts i_x0], [zAr T 0 m_all 3952 f_all]] ∧ r = zBt f_all n qq) := by
  refine zMi_of (own := RX12) (by decide) rfl (Nat.le_of_ble_eq_true rfl) ?_
  intro p e s m args below meth c A ls C hr hlocks hnm hAe G hl
  refine zHide (fun Q9 hQ9 => ?_)
  have hx := C.1
  have hb := C.2.1
  have hl : lv_has ls 2 [(0, .ref mo), (1, .int x)] := hl
  subst hsn
  subst hxq
  refine lv_iload_n hx hb dX12_byteAt_0 rfl (lv_at hl 1 rfl) ?_
  refine lv_aload_n hx hb dX12_byteAt_1 rfl (lv_at hl 0 rfl) ?_
  refine z_get C G clX12 0 rfl 2 (by decide) m_fl_RX12_56 rfl dX12_byteAt_2 ?_
  refine lv_icmp_ge (tgt := 20) hx hb dX12_byteAt_5 (by decide) (fun c_1 => ?_) (fun c_1 => ?_)
  · have c_1n : n ≤ qq := (nI_leI (a := n) (b := qq) (by omega) (by omega)).mp c_1
    refine lv_iconst (v := (-1)) hx hb dX12_byteAt_20 (by decide) ?_
    exact z_back hQ9 (z_iret C hr hlocks G (Nat.le_of_ble_eq_true rfl) (Nat.le_of_ble_eq_true rfl) dX12_byteAt_21 ⟨rfl, (by unfold zBt; rw [if_neg (by omega)])⟩)
  · have c_1n : ¬ n ≤ qq := fun q => c_1 ((nI_leI (a := n) (b := qq) (by omega) (by omega)).mpr q)
    refine lv_aload_n hx hb dX12_byteAt_8 rfl (lv_at hl 0 rfl) ?_
    refine z_get C G clX12 0 rfl 0 (by decide) m_fl_RX12_7 rfl dX12_byteAt_9 ?_
    refine lv_bipush (v := 10) hx hb dX12_byteAt_12 (by decide) ?_
    refine lv_iload_n hx hb dX12_byteAt_14 rfl (lv_at hl 1 rfl) ?_
    refine lv_iadd hx hb dX12_byteAt_15 ?_
    refine lv_topi (fun y_2 ey_2 => ?_)
    obtain rfl : y_2 = nI (10 + qq) := ey_2.trans (z_iaddn 10 qq rfl rfl)
    refine z_ild C G 1 rfl (vp_in_nI (by omega) (by omega)) dX12_byteAt_16 ?_
    refine lv_topi (fun v_3 ev_3 => ?_)
    rw [nI_clamp (by omega)] at ev_3
    subst ev_3
    refine lv_goto (tgt := 21) hx hb dX12_byteAt_17 (by decide) ?_
    exact z_back hQ9 (z_iret C hr hlocks G (Nat.le_of_ble_eq_true rfl) (Nat.le_of_ble_eq_true rfl) dX12_byteAt_21 ⟨rfl, (by unfold zBt; rw [if_pos (by omega)])⟩)
set_option maxHeartbeats 4000000 in
set_option maxRecDepth 100000 in
/-- c_fm_advance -/
theorem c_fm_advance (l : Launch) (T : zTy) (mo : Nat) (m_all : Nat) (m_has : Nat) (i_size : Int32) (i_next : Int32) (i_where : Int32) (i_token : Int32) (i_number : Int32) (i_word : Int32) (i_wrong : Int32) (i_farCrossing : Int32) (m_read : Nat) (i_z0 : Int32) (i_crossings : Int32) (i_inns : Int32) (m_posts : Nat) (m_shut : Nat) (m_here : Nat) (i_steps : Int32) (i_done : Int32) (i_at : Int32) (i_gone : Int32) (m_was : Nat) (m_came : Nat) (m_seenAt : Nat) (m_rowWorth : Nat) (m_farBy : Nat) (m_used : Nat) (i_everywhere : Int32) (i_again0 : Int32) (i_d0 : Int32) (i_never : Int32) (i_firstCame : Int32) (i_longRun : Int32) (i_moved : Int32) (i_crowd : Int32) (i_l0 : Int32) (i_fitMany : Int32) (i_fitLeast : Int32) (i_fitMost : Int32) (m_fitPost : Nat) (m_fitEnd : Nat) (m_keptPosts : Nat) (i_x0 : Int32) (f_all : Nat → Int32) (pp : Nat) (n : Nat) (k : pT) (hsn : i_size = nI n) (hp : i_next = nI pp) (hpn : pp ≤ n) (hn6 : n ≤ 600) (hk : k = tkT (fun j => f_all (10 + j)) n) (hby : ∀ j, j < n → 0 ≤ (f_all (10 + j)).toInt) : zMv l T yX12_advance cX12_advance 4 4 0 0 [.ref mo] [[zO11 mo m_all m_has i_size i_next i_where i_token i_number i_word i_wrong i_farCrossing m_read i_z0 i_crossings i_inns m_posts m_shut m_here i_steps i_done i_at i_gone m_was m_came m_seenAt m_rowWorth m_farBy m_used i_everywhere i_again0 i_d0 i_never i_firstCame i_longRun i_moved i_crowd i_l0 i_fitMany i_fitLeast i_fitMost m_fitPost m_fitEnd m_keptPosts i_x0], [zAr T 0 m_all 3952 f_all]] (fun bs => ∃ (j_next : Int32) (j_where : Int32) (j_token : Int32) (j_number : Int32) (j_word : Int32), bs = [[zO11 mo m_all m_has i_size j_next j_where j_token j_number j_word i_wrong i_farCrossing m_read i_z0 i_crossings i_inns m_posts m_shut m_here i_steps i_done i_at i_gone m_was m_came m_seenAt m_rowWorth m_farBy m_used i_everywhere i_again0 i_d0 i_never i_firstCame i_longRun i_moved i_crowd i_l0 i_fitMany i_fitLeast i_fitMost m_fitPost m_fitEnd m_keptPosts i_x0], [zAr T 0 m_all 3952 f_all]] ∧ 0 ≤ j_next.toInt ∧ j_next.toInt ≤ i_size.toInt ∧ i_next.toInt ≤ j_next.toInt ∧ (j_token.toInt = 0 ∨ i_next.toInt < j_next.toInt) ∧ 0 ≤ j_token.toInt ∧ j_token.toInt ≤ 4 ∧ zTokR k pp j_next j_where j_token j_number j_word) := by
  refine zMv_of (own := RX12) (by decide) rfl (Nat.le_of_ble_eq_true rfl) ?_
  intro p e s m args below meth c A ls C hr hlocks hnm hAe G hl
  refine zHide (fun Q9 hQ9 => ?_)
  have hx := C.1
  have hb := C.2.1
  have hl : lv_has ls 4 [(0, .ref mo)] := hl
  subst hsn
  subst hp
  subst hk
  refine z_lp1 (T := T) 0 (fun (x : Nat) => [[zO11 mo m_all m_has (nI n) (nI x) i_where i_token i_number i_word i_wrong i_farCrossing m_read i_z0 i_crossings i_inns m_posts m_shut m_here i_steps i_done i_at i_gone m_was m_came m_seenAt m_rowWorth m_farBy m_used i_everywhere i_again0 i_d0 i_never i_firstCame i_longRun i_moved i_crowd i_l0 i_fitMany i_fitLeast i_fitMost m_fitPost m_fitEnd m_keptPosts i_x0], [zAr T 0 m_all 3952 f_all]]) (fun (x : Nat) => [(0, .ref mo)]) (fun (x : Nat) => (pp ≤ x ∧ x ≤ n) ∧ (∀ j, pp ≤ j → j < x → tkB (f_all (10 + j)) = true)) (fun (x : Nat) => n - x) ?_ pp (show (pp ≤ pp ∧ pp ≤ n) ∧ (∀ j, pp ≤ j → j < pp → tkB (f_all (10 + j)) = true) from ⟨(by omega), (fun j h1 h2 => by omega)⟩) G (lv_sub hl [0] rfl)
  intro x hI9 ih_0 H locs ls G hl
  replace hI9 : (pp ≤ x ∧ x ≤ n) ∧ (∀ j, pp ≤ j → j < x → tkB (f_all (10 + j)) = true) := hI9
  refine zAn2 hI9 ?_
  intro hxq hall
  clear hI9
  replace G : zS T A s.heap s [[zO11 mo m_all m_has (nI n) (nI x) i_where i_token i_number i_word i_wrong i_farCrossing m_read i_z0 i_crossings i_inns m_posts m_shut m_here i_steps i_done i_at i_gone m_was m_came m_seenAt m_rowWorth m_farBy m_used i_everywhere i_again0 i_d0 i_never i_firstCame i_longRun i_moved i_crowd i_l0 i_fitMany i_fitLeast i_fitMost m_fitPost m_fitEnd m_keptPosts i_x0], [zAr T 0 m_all 3952 f_all]] _ _ := G
  replace hl : lv_has ls 4 [(0, .ref mo)] := hl
  refine lv_aload_n hx hb dX12_advance_0 rfl (lv_at hl 0 rfl) ?_
  refine lv_aload_n hx hb dX12_advance_1 rfl (lv_at hl 0 rfl) ?_
  refine z_get C G clX12 0 rfl 3 (by decide) m_fl_RX12_70 rfl dX12_advance_2 ?_
  refine z_Vi (bc := [[zO11 mo m_all m_has (nI n) (nI x) i_where i_token i_number i_word i_wrong i_farCrossing m_read i_z0 i_crossings i_inns m_posts m_shut m_here i_steps i_done i_at i_gone m_was m_came m_seenAt m_rowWorth m_farBy m_used i_everywhere i_again0 i_d0 i_never i_firstCame i_longRun i_moved i_crowd i_l0 i_fitMany i_fitLeast i_fitMost m_fitPost m_fitEnd m_keptPosts i_x0], [zAr T 0 m_all 3952 f_all]]) (br := []) (As := [.int (nI x)]) (rest := []) C G (c_fm_byteAt l T mo m_all m_has (nI n) (nI x) i_where i_token i_number i_word i_wrong i_farCrossing m_read i_z0 i_crossings i_inns m_posts m_shut m_here i_steps i_done i_at i_gone m_was m_came m_seenAt m_rowWorth m_farBy m_used i_everywhere i_again0 i_d0 i_never i_firstCame i_longRun i_moved i_crowd i_l0 i_fitMany i_fitLeast i_fitMost m_fitPost m_fitEnd m_keptPosts i_x0 f_all (nI x) n x rfl rfl (by first | with_reducible assumption | with_reducible rfl | omega | assumption | rfl) (by first | with_reducible assumption | with_reducible rfl | omega | assumption | rfl)) (kV_RX12_73 C.2.2.2.2 (Nat.le_of_ble_eq_true rfl) (Nat.le_of_ble_eq_true rfl)) [0, 1] [0, 0] rfl rfl (ci := 11) (qc := (RX12, TX12, 43)) rfl rfl (List.mem_flatten.mpr ⟨_, List.mem_of_getElem? (i := 0) rfl, List.mem_cons_self⟩) rfl rfl hl.1 dX12_advance_5 (Nat.le_of_ble_eq_true rfl) (Nat.le_of_ble_eq_true rfl) (fun r_2 b1 H locs hw G => ?_)
  refine zAn2 hw ?_
  intro hbs9 h_1
  clear hw
  subst hbs9
  have G : zS T A s.heap s [[zO11 mo m_all m_has (nI n) (nI x) i_where i_token i_number i_word i_wrong i_farCrossing m_read i_z0 i_crossings i_inns m_posts m_shut m_here i_steps i_done i_at i_gone m_was m_came m_seenAt m_rowWorth m_farBy m_used i_everywhere i_again0 i_d0 i_never i_firstCame i_longRun i_moved i_crowd i_l0 i_fitMany i_fitLeast i_fitMost m_fitPost m_fitEnd m_keptPosts i_x0], [zAr T 0 m_all 3952 f_all]] _ _ := G
  subst h_1
  refine lv_bipush (v := 10) hx hb dX12_advance_8 (by decide) ?_
  refine lv_icmp_eq (tgt := 26) hx hb dX12_advance_10 (by decide) (fun c_3 => ?_) (fun c_3 => ?_)
  · have c_3n : (zBt f_all n x).toInt = (10 : Int) := (fa_eq _ _).mp c_3
    have hz9 := zBt_B (show (zBt f_all n x).toInt = 10 ∨ (zBt f_all n x).toInt = 32 by omega)
    have hlt := hz9.1
    refine lv_aload_n hx hb dX12_advance_26 rfl (lv_at hl 0 rfl) ?_
    refine lv_dup hx hb dX12_advance_27 rfl ?_
    refine z_get C G clX12 0 rfl 3 (by decide) m_fl_RX12_70 rfl dX12_advance_28 ?_
    refine lv_iconst (v := 1) hx hb dX12_advance_31 (by decide) ?_
    refine lv_iadd hx hb dX12_advance_32 ?_
    refine lv_topi (fun y_4 ey_4 => ?_)
    obtain rfl : y_4 = nI (x + 1) := ey_4.trans (z_iaddn x 1 rfl rfl)
    refine z_put C G clX12 0 rfl 3 (by decide) m_fl_RX12_70 rfl rfl rfl (Nat.le_of_ble_eq_true rfl) dX12_advance_33 (fun H locs G => ?_)
    have G : zS T A s.heap s [[zO11 mo m_all m_has (nI n) (nI (x + 1)) i_where i_token i_number i_word i_wrong i_farCrossing m_read i_z0 i_crossings i_inns m_posts m_shut m_here i_steps i_done i_at i_gone m_was m_came m_seenAt m_rowWorth m_farBy m_used i_everywhere i_again0 i_d0 i_never i_firstCame i_longRun i_moved i_crowd i_l0 i_fitMany i_fitLeast i_fitMost m_fitPost m_fitEnd m_keptPosts i_x0], [zAr T 0 m_all 3952 f_all]] _ _ := G
    refine lv_goto (tgt := 0) hx hb dX12_advance_36 (by decide) ?_
    exact ih_0 (x + 1) (show (pp ≤ (x + 1) ∧ (x + 1) ≤ n) ∧ (∀ j, pp ≤ j → j < (x + 1) → tkB (f_all (10 + j)) = true) from ⟨(by omega), (z_allS (f := (fun j => f_all (10 + j))) hall hz9.2)⟩) (show n - (x + 1) < n - x from by omega) _ _ ls G (lv_sub hl [0] rfl)
  · have c_3n : ¬ (zBt f_all n x).toInt = (10 : Int) := fun q => c_3 ((fa_eq _ _).mpr q)
    refine lv_aload_n hx hb dX12_advance_13 rfl (lv_at hl 0 rfl) ?_
    refine lv_aload_n hx hb dX12_advance_14 rfl (lv_at hl 0 rfl) ?_
    refine z_get C G clX12 0 rfl 3 (by decide) m_fl_RX12_70 rfl dX12_advance_15 ?_
    refine z_Vi (bc := [[zO11 mo m_all m_has (nI n) (nI x) i_where i_token i_number i_word i_wrong i_farCrossing m_read i_z0 i_crossings i_inns m_posts m_shut m_here i_steps i_done i_at i_gone m_was m_came m_seenAt m_rowWorth m_farBy m_used i_everywhere i_again0 i_d0 i_never i_firstCame i_longRun i_moved i_crowd i_l0 i_fitMany i_fitLeast i_fitMost m_fitPost m_fitEnd m_keptPosts i_x0], [zAr T 0 m_all 3952 f_all]]) (br := []) (As := [.int (nI x)]) (rest := []) C G (c_fm_byteAt l T mo m_all m_has (nI n) (nI x) i_where i_token i_number i_word i_wrong i_farCrossing m_read i_z0 i_crossings i_inns m_posts m_shut m_here i_steps i_done i_at i_gone m_was m_came m_seenAt m_rowWorth m_farBy m_used i_everywhere i_again0 i_d0 i_never i_firstCame i_longRun i_moved i_crowd i_l0 i_fitMany i_fitLeast i_fitMost m_fitPost m_fitEnd m_keptPosts i_x0 f_all (nI x) n x rfl rfl (by first | with_reducible assumption | with_reducible rfl | omega | assumption | rfl) (by first | with_reducible assumption | with_reducible rfl | omega | assumption | rfl)) (kV_RX12_73 C.2.2.2.2 (Nat.le_of_ble_eq_true rfl) (Nat.le_of_ble_eq_true rfl)) [0, 1] [0, 0] rfl rfl (ci := 11) (qc := (RX12, TX12, 43)) rfl rfl (List.mem_flatten.mpr ⟨_, List.mem_of_getElem? (i := 0) rfl, List.mem_cons_self⟩) rfl rfl hl.1 dX12_advance_18 (Nat.le_of_ble_eq_true rfl) (Nat.le_of_ble_eq_true rfl) (fun r_6 b1 H locs hw G => ?_)
    refine zAn2 hw ?_
    intro hbs9 h_5
    clear hw
    subst hbs9
    have G : zS T A s.heap s [[zO11 mo m_all m_has (nI n) (nI x) i_where i_token i_number i_word i_wrong i_farCrossing m_read i_z0 i_crossings i_inns m_posts m_shut m_here i_steps i_done i_at i_gone m_was m_came m_seenAt m_rowWorth m_farBy m_used i_everywhere i_again0 i_d0 i_never i_firstCame i_longRun i_moved i_crowd i_l0 i_fitMany i_fitLeast i_fitMost m_fitPost m_fitEnd m_keptPosts i_x0], [zAr T 0 m_all 3952 f_all]] _ _ := G
    subst h_5
    refine lv_bipush (v := 32) hx hb dX12_advance_21 (by decide) ?_
    refine lv_icmp_ne (tgt := 39) hx hb dX12_advance_23 (by decide) (fun c_7 => ?_) (fun c_7 => ?_)
    · have c_7n : ¬ (zBt f_all n x).toInt = (32 : Int) := fun q => c_7 ((fa_eq _ _).mpr q)
      have hB : zRun tkB (fun j => f_all (10 + j)) n pp x := ⟨hxq.1, Or.inl hxq.2, hall, fun h9 => zBt_nB h9 (by omega) (by omega)⟩
      refine lv_aload_n hx hb dX12_advance_39 rfl (lv_at hl 0 rfl) ?_
      refine lv_aload_n hx hb dX12_advance_40 rfl (lv_at hl 0 rfl) ?_
      refine z_get C G clX12 0 rfl 3 (by decide) m_fl_RX12_70 rfl dX12_advance_41 ?_
      refine z_put C G clX12 0 rfl 4 (by decide) m_fl_RX12_77 rfl rfl rfl (Nat.le_of_ble_eq_true rfl) dX12_advance_44 (fun H locs G => ?_)
      have G : zS T A s.heap s [[zO11 mo m_all m_has (nI n) (nI x) (nI x) i_token i_number i_word i_wrong i_farCrossing m_read i_z0 i_crossings i_inns m_posts m_shut m_here i_steps i_done i_at i_gone m_was m_came m_seenAt m_rowWorth m_farBy m_used i_everywhere i_again0 i_d0 i_never i_firstCame i_longRun i_moved i_crowd i_l0 i_fitMany i_fitLeast i_fitMost m_fitPost m_fitEnd m_keptPosts i_x0], [zAr T 0 m_all 3952 f_all]] _ _ := G
      refine lv_aload_n hx hb dX12_advance_47 rfl (lv_at hl 0 rfl) ?_
      refine lv_aload_n hx hb dX12_advance_48 rfl (lv_at hl 0 rfl) ?_
      refine z_get C G clX12 0 rfl 3 (by decide) m_fl_RX12_70 rfl dX12_advance_49 ?_
      refine z_Vi (bc := [[zO11 mo m_all m_has (nI n) (nI x) (nI x) i_token i_number i_word i_wrong i_farCrossing m_read i_z0 i_crossings i_inns m_posts m_shut m_here i_steps i_done i_at i_gone m_was m_came m_seenAt m_rowWorth m_farBy m_used i_everywhere i_again0 i_d0 i_never i_firstCame i_longRun i_moved i_crowd i_l0 i_fitMany i_fitLeast i_fitMost m_fitPost m_fitEnd m_keptPosts i_x0], [zAr T 0 m_all 3952 f_all]]) (br := []) (As := [.int (nI x)]) (rest := []) C G (c_fm_byteAt l T mo m_all m_has (nI n) (nI x) (nI x) i_token i_number i_word i_wrong i_farCrossing m_read i_z0 i_crossings i_inns m_posts m_shut m_here i_steps i_done i_at i_gone m_was m_came m_seenAt m_rowWorth m_farBy m_used i_everywhere i_again0 i_d0 i_never i_firstCame i_longRun i_moved i_crowd i_l0 i_fitMany i_fitLeast i_fitMost m_fitPost m_fitEnd m_keptPosts i_x0 f_all (nI x) n x rfl rfl (by first | with_reducible assumption | with_reducible rfl | omega | assumption | rfl) (by first | with_reducible assumption | with_reducible rfl | omega | assumption | rfl)) (kV_RX12_73 C.2.2.2.2 (Nat.le_of_ble_eq_true rfl) (Nat.le_of_ble_eq_true rfl)) [0, 1] [0, 0] rfl rfl (ci := 11) (qc := (RX12, TX12, 43)) rfl rfl (List.mem_flatten.mpr ⟨_, List.mem_of_getElem? (i := 0) rfl, List.mem_cons_self⟩) rfl rfl hl.1 dX12_advance_52 (Nat.le_of_ble_eq_true rfl) (Nat.le_of_ble_eq_true rfl) (fun r_9 b1 H locs hw G => ?_)
      refine zAn2 hw ?_
      intro hbs9 h_8
      clear hw
      subst hbs9
      have G : zS T A s.heap s [[zO11 mo m_all m_has (nI n) (nI x) (nI x) i_token i_number i_word i_wrong i_farCrossing m_read i_z0 i_crossings i_inns m_posts m_shut m_here i_steps i_done i_at i_gone m_was m_came m_seenAt m_rowWorth m_farBy m_used i_everywhere i_again0 i_d0 i_never i_firstCame i_longRun i_moved i_crowd i_l0 i_fitMany i_fitLeast i_fitMost m_fitPost m_fitEnd m_keptPosts i_x0], [zAr T 0 m_all 3952 f_all]] _ _ := G
      subst h_8
      refine lv_istore_n (lv' := [(1, .int (zBt f_all n x)), (0, .ref mo)]) hx hb dX12_advance_55 rfl hl (by decide) rfl (fun ls hl => ?_)
      refine lv_iload_n hx hb dX12_advance_56 rfl (lv_at hl 0 rfl) ?_
      refine lv_if_ge (tgt := 68) hx hb dX12_advance_57 (by decide) (fun c_10 => ?_) (fun c_10 => ?_)
      · have c_10n : (0 : Int) ≤ (zBt f_all n x).toInt := (fa_le _ _).mp c_10
        have hlt : x < n := zBt_lt (f := f_all) (by omega)
        have hbx : zBt f_all n x = f_all (10 + x) := zBt_e hlt
        refine lv_iload_n hx hb dX12_advance_68 rfl (lv_at hl 0 rfl) ?_
        refine z_Si (bc := []) (br := [[zO11 mo m_all m_has (nI n) (nI x) (nI x) i_token i_number i_word i_wrong i_farCrossing m_read i_z0 i_crossings i_inns m_posts m_shut m_here i_steps i_done i_at i_gone m_was m_came m_seenAt m_rowWorth m_farBy m_used i_everywhere i_again0 i_d0 i_never i_firstCame i_longRun i_moved i_crowd i_l0 i_fitMany i_fitLeast i_fitMost m_fitPost m_fitEnd m_keptPosts i_x0], [zAr T 0 m_all 3952 f_all]]) (As := [.int (zBt f_all n x)]) (rest := []) C G (c_m_isLetter l T (zBt f_all n x)) (kS_RX12_83 C.2.2.2.2 (Nat.le_of_ble_eq_true rfl) (Nat.le_of_ble_eq_true rfl)) [] [] rfl rfl rfl rfl hl.1 dX12_advance_69 (Nat.le_of_ble_eq_true rfl) (Nat.le_of_ble_eq_true rfl) (fun r_12 b1 H locs hw G => ?_)
        refine zAn2 hw ?_
        intro hbs9 hc_11
        clear hw
        subst hbs9
        have G : zS T A s.heap s [[zO11 mo m_all m_has (nI n) (nI x) (nI x) i_token i_number i_word i_wrong i_farCrossing m_read i_z0 i_crossings i_inns m_posts m_shut m_here i_steps i_done i_at i_gone m_was m_came m_seenAt m_rowWorth m_farBy m_used i_everywhere i_again0 i_d0 i_never i_firstCame i_longRun i_moved i_crowd i_l0 i_fitMany i_fitLeast i_fitMost m_fitPost m_fitEnd m_keptPosts i_x0], [zAr T 0 m_all 3952 f_all]] _ _ := G
        rcases hc_11 with ⟨rfl, h_13, h_14⟩ | ⟨rfl, h_15⟩
        · have h_13 : 97 ≤ (zBt f_all n x).toInt := h_13
          have h_14 : (zBt f_all n x).toInt ≤ 122 := h_14
          refine lv_if_eq (tgt := 186) hx hb dX12_advance_72 (by decide) (fun q => absurd q (by decide)) (fun _ => ?_)
          refine lv_lconst (v := 0) hx hb dX12_advance_75 (by decide) ?_
          refine lv_lstore_n (lv' := [(2, .long 0), (1, .int (zBt f_all n x)), (0, .ref mo)]) hx hb dX12_advance_76 rfl hl (by decide) rfl (fun ls hl => ?_)
          refine z_lp2 (T := T) 77 (fun (y : Nat) (v : Int64) => [[zO11 mo m_all m_has (nI n) (nI y) (nI x) i_token i_number i_word i_wrong i_farCrossing m_read i_z0 i_crossings i_inns m_posts m_shut m_here i_steps i_done i_at i_gone m_was m_came m_seenAt m_rowWorth m_farBy m_used i_everywhere i_again0 i_d0 i_never i_firstCame i_longRun i_moved i_crowd i_l0 i_fitMany i_fitLeast i_fitMost m_fitPost m_fitEnd m_keptPosts i_x0], [zAr T 0 m_all 3952 f_all]]) (fun (y : Nat) (v : Int64) => [(2, .long v), (1, .int (zBt f_all n x)), (0, .ref mo)]) (fun (y : Nat) (v : Int64) => (x ≤ y ∧ y ≤ n) ∧ (∀ j, x ≤ j → j < y → tkL (f_all (10 + j)) = true) ∧ v.toInt = zVal (fun j => f_all (10 + j)) x (min (y - x) 8)) (fun (y : Nat) (v : Int64) => n - y) ?_ x 0 (show (x ≤ x ∧ x ≤ n) ∧ (∀ j, x ≤ j → j < x → tkL (f_all (10 + j)) = true) ∧ (0 : Int32).toInt = zVal (fun j => f_all (10 + j)) x (min (x - x) 8) from ⟨(by omega), (fun j h1 h2 => by omega), zVal_0⟩) G (lv_sub hl [0, 1, 2] rfl)
          intro y v hI9 ih_77 H locs ls G hl
          replace hI9 : (x ≤ y ∧ y ≤ n) ∧ (∀ j, x ≤ j → j < y → tkL (f_all (10 + j)) = true) ∧ v.toInt = zVal (fun j => f_all (10 + j)) x (min (y - x) 8) := hI9
          refine zAn3 hI9 ?_
          intro hyq hally hvv
          clear hI9
          replace G : zS T A s.heap s [[zO11 mo m_all m_has (nI n) (nI y) (nI x) i_token i_number i_word i_wrong i_farCrossing m_read i_z0 i_crossings i_inns m_posts m_shut m_here i_steps i_done i_at i_gone m_was m_came m_seenAt m_rowWorth m_farBy m_used i_everywhere i_again0 i_d0 i_never i_firstCame i_longRun i_moved i_crowd i_l0 i_fitMany i_fitLeast i_fitMost m_fitPost m_fitEnd m_keptPosts i_x0], [zAr T 0 m_all 3952 f_all]] _ _ := G
          replace hl : lv_has ls 4 [(2, .long v), (1, .int (zBt f_all n x)), (0, .ref mo)] := hl
          refine lv_aload_n hx hb dX12_advance_77 rfl (lv_at hl 2 rfl) ?_
          refine lv_aload_n hx hb dX12_advance_78 rfl (lv_at hl 2 rfl) ?_
          refine z_get C G clX12 0 rfl 3 (by decide) m_fl_RX12_70 rfl dX12_advance_79 ?_
          refine z_Vi (bc := [[zO11 mo m_all m_has (nI n) (nI y) (nI x) i_token i_number i_word i_wrong i_farCrossing m_read i_z0 i_crossings i_inns m_posts m_shut m_here i_steps i_done i_at i_gone m_was m_came m_seenAt m_rowWorth m_farBy m_used i_everywhere i_again0 i_d0 i_never i_firstCame i_longRun i_moved i_crowd i_l0 i_fitMany i_fitLeast i_fitMost m_fitPost m_fitEnd m_keptPosts i_x0], [zAr T 0 m_all 3952 f_all]]) (br := []) (As := [.int (nI y)]) (rest := []) C G (c_fm_byteAt l T mo m_all m_has (nI n) (nI y) (nI x) i_token i_number i_word i_wrong i_farCrossing m_read i_z0 i_crossings i_inns m_posts m_shut m_here i_steps i_done i_at i_gone m_was m_came m_seenAt m_rowWorth m_farBy m_used i_everywhere i_again0 i_d0 i_never i_firstCame i_longRun i_moved i_crowd i_l0 i_fitMany i_fitLeast i_fitMost m_fitPost m_fitEnd m_keptPosts i_x0 f_all (nI y) n y rfl rfl (by first | with_reducible assumption | with_reducible rfl | omega | assumption | rfl) (by first | with_reducible assumption | with_reducible rfl | omega | assumption | rfl)) (kV_RX12_73 C.2.2.2.2 (Nat.le_of_ble_eq_true rfl) (Nat.le_of_ble_eq_true rfl)) [0, 1] [0, 0] rfl rfl (ci := 11) (qc := (RX12, TX12, 43)) rfl rfl (List.mem_flatten.mpr ⟨_, List.mem_of_getElem? (i := 0) rfl, List.mem_cons_self⟩) rfl rfl hl.1 dX12_advance_82 (Nat.le_of_ble_eq_true rfl) (Nat.le_of_ble_eq_true rfl) (fun r_17 b1 H locs hw G => ?_)
          refine zAn2 hw ?_
          intro hbs9 h_16
          clear hw
          subst hbs9
          have G : zS T A s.heap s [[zO11 mo m_all m_has (nI n) (nI y) (nI x) i_token i_number i_word i_wrong i_farCrossing m_read i_z0 i_crossings i_inns m_posts m_shut m_here i_steps i_done i_at i_gone m_was m_came m_seenAt m_rowWorth m_farBy m_used i_everywhere i_again0 i_d0 i_never i_firstCame i_longRun i_moved i_crowd i_l0 i_fitMany i_fitLeast i_fitMost m_fitPost m_fitEnd m_keptPosts i_x0], [zAr T 0 m_all 3952 f_all]] _ _ := G
          subst h_16
          refine z_Si (bc := []) (br := [[zO11 mo m_all m_has (nI n) (nI y) (nI x) i_token i_number i_word i_wrong i_farCrossing m_read i_z0 i_crossings i_inns m_posts m_shut m_here i_steps i_done i_at i_gone m_was m_came m_seenAt m_rowWorth m_farBy m_used i_everywhere i_again0 i_d0 i_never i_firstCame i_longRun i_moved i_crowd i_l0 i_fitMany i_fitLeast i_fitMost m_fitPost m_fitEnd m_keptPosts i_x0], [zAr T 0 m_all 3952 f_all]]) (As := [.int (zBt f_all n y)]) (rest := []) C G (c_m_isLetter l T (zBt f_all n y)) (kS_RX12_83 C.2.2.2.2 (Nat.le_of_ble_eq_true rfl) (Nat.le_of_ble_eq_true rfl)) [] [] rfl rfl rfl rfl hl.1 dX12_advance_85 (Nat.le_of_ble_eq_true rfl) (Nat.le_of_ble_eq_true rfl) (fun r_19 b1 H locs hw G => ?_)
          refine zAn2 hw ?_
          intro hbs9 hc_18
          clear hw
          subst hbs9
          have G : zS T A s.heap s [[zO11 mo m_all m_has (nI n) (nI y) (nI x) i_token i_number i_word i_wrong i_farCrossing m_read i_z0 i_crossings i_inns m_posts m_shut m_here i_steps i_done i_at i_gone m_was m_came m_seenAt m_rowWorth m_farBy m_used i_everywhere i_again0 i_d0 i_never i_firstCame i_longRun i_moved i_crowd i_l0 i_fitMany i_fitLeast i_fitMost m_fitPost m_fitEnd m_keptPosts i_x0], [zAr T 0 m_all 3952 f_all]] _ _ := G
          rcases hc_18 with ⟨rfl, h_20, h_21⟩ | ⟨rfl, h_22⟩
          · have h_20 : 97 ≤ (zBt f_all n y).toInt := h_20
            have h_21 : (zBt f_all n y).toInt ≤ 122 := h_21
            have hlz := zBt_L h_20 h_21
            refine lv_if_eq (tgt := 138) hx hb dX12_advance_88 (by decide) (fun q => absurd q (by decide)) (fun _ => ?_)
            refine lv_aload_n hx hb dX12_advance_91 rfl (lv_at hl 2 rfl) ?_
            refine z_get C G clX12 0 rfl 3 (by decide) m_fl_RX12_70 rfl dX12_advance_92 ?_
            refine lv_aload_n hx hb dX12_advance_95 rfl (lv_at hl 2 rfl) ?_
            refine z_get C G clX12 0 rfl 4 (by decide) m_fl_RX12_77 rfl dX12_advance_96 ?_
            refine lv_isub hx hb dX12_advance_99 ?_
            refine lv_topi (fun y_23 ey_23 => ?_)
            have ey_23i : y_23.toInt = (y : Int) - (x : Int) := by rw [ey_23]; exact (z_isubI (x := (nI y)) (y := (nI x)) (by rw [nI_toInt (n := y) (by omega), nI_toInt (n := x) (by omega)]; show -2147483648 ≤ (y : Int) - (x : Int); omega) (by rw [nI_toInt (n := y) (by omega), nI_toInt (n := x) (by omega)]; show (y : Int) - (x : Int) < 2147483648; omega)).trans (by rw [nI_toInt (n := y) (by omega), nI_toInt (n := x) (by omega)] <;> rfl)
            refine lv_bipush (v := 8) hx hb dX12_advance_100 (by decide) ?_
            refine lv_icmp_ge (tgt := 125) hx hb dX12_advance_102 (by decide) (fun c_24 => ?_) (fun c_24 => ?_)
            · have c_24n : (8 : Int) ≤ y_23.toInt := (fa_le _ _).mp c_24
              refine lv_aload_n hx hb dX12_advance_125 rfl (lv_at hl 2 rfl) ?_
              refine lv_dup hx hb dX12_advance_126 rfl ?_
              refine z_get C G clX12 0 rfl 3 (by decide) m_fl_RX12_70 rfl dX12_advance_127 ?_
              refine lv_iconst (v := 1) hx hb dX12_advance_130 (by decide) ?_
              refine lv_iadd hx hb dX12_advance_131 ?_
              refine lv_topi (fun y_25 ey_25 => ?_)
              obtain rfl : y_25 = nI (y + 1) := ey_25.trans (z_iaddn y 1 rfl rfl)
              refine z_put C G clX12 0 rfl 3 (by decide) m_fl_RX12_70 rfl rfl rfl (Nat.le_of_ble_eq_true rfl) dX12_advance_132 (fun H locs G => ?_)
              have G : zS T A s.heap s [[zO11 mo m_all m_has (nI n) (nI (y + 1)) (nI x) i_token i_number i_word i_wrong i_farCrossing m_read i_z0 i_crossings i_inns m_posts m_shut m_here i_steps i_done i_at i_gone m_was m_came m_seenAt m_rowWorth m_farBy m_used i_everywhere i_again0 i_d0 i_never i_firstCame i_longRun i_moved i_crowd i_l0 i_fitMany i_fitLeast i_fitMost m_fitPost m_fitEnd m_keptPosts i_x0], [zAr T 0 m_all 3952 f_all]] _ _ := G
              refine lv_goto (tgt := 77) hx hb dX12_advance_135 (by decide) ?_
              exact ih_77 (y + 1) v (show (x ≤ (y + 1) ∧ (y + 1) ≤ n) ∧ (∀ j, x ≤ j → j < (y + 1) → tkL (f_all (10 + j)) = true) ∧ v.toInt = zVal (fun j => f_all (10 + j)) x (min ((y + 1) - x) 8) from ⟨(by omega), (z_allS (f := (fun j => f_all (10 + j))) hally hlz.2), (zVal_b hvv (by omega))⟩) (show n - (y + 1) < n - y from by omega) _ _ ls G (lv_sub hl [0, 1, 2] rfl)
            · have c_24n : ¬ (8 : Int) ≤ y_23.toInt := fun q => c_24 ((fa_le _ _).mpr q)
              refine lv_ldc2 (v := 32) hx hb C.2.2.2.1 (C.2.2.2.2 _ m_kl_RX12_87) dX12_advance_105 ?_
              refine lv_lload_n hx hb dX12_advance_108 rfl (lv_at hl 0 rfl) ?_
              refine lv_lmul hx hb dX12_advance_109 ?_
              refine lv_aload_n hx hb dX12_advance_110 rfl (lv_at hl 2 rfl) ?_
              refine lv_aload_n hx hb dX12_advance_111 rfl (lv_at hl 2 rfl) ?_
              refine z_get C G clX12 0 rfl 3 (by decide) m_fl_RX12_70 rfl dX12_advance_112 ?_
              refine z_Vi (bc := [[zO11 mo m_all m_has (nI n) (nI y) (nI x) i_token i_number i_word i_wrong i_farCrossing m_read i_z0 i_crossings i_inns m_posts m_shut m_here i_steps i_done i_at i_gone m_was m_came m_seenAt m_rowWorth m_farBy m_used i_everywhere i_again0 i_d0 i_never i_firstCame i_longRun i_moved i_crowd i_l0 i_fitMany i_fitLeast i_fitMost m_fitPost m_fitEnd m_keptPosts i_x0], [zAr T 0 m_all 3952 f_all]]) (br := []) (As := [.int (nI y)]) (rest := [.long ((32 : Int64) * v)]) C G (c_fm_byteAt l T mo m_all m_has (nI n) (nI y) (nI x) i_token i_number i_word i_wrong i_farCrossing m_read i_z0 i_crossings i_inns m_posts m_shut m_here i_steps i_done i_at i_gone m_was m_came m_seenAt m_rowWorth m_farBy m_used i_everywhere i_again0 i_d0 i_never i_firstCame i_longRun i_moved i_crowd i_l0 i_fitMany i_fitLeast i_fitMost m_fitPost m_fitEnd m_keptPosts i_x0 f_all (nI y) n y rfl rfl (by first | with_reducible assumption | with_reducible rfl | omega | assumption | rfl) (by first | with_reducible assumption | with_reducible rfl | omega | assumption | rfl)) (kV_RX12_73 C.2.2.2.2 (Nat.le_of_ble_eq_true rfl) (Nat.le_of_ble_eq_true rfl)) [0, 1] [0, 0] rfl rfl (ci := 11) (qc := (RX12, TX12, 43)) rfl rfl (List.mem_flatten.mpr ⟨_, List.mem_of_getElem? (i := 0) rfl, List.mem_cons_self⟩) rfl rfl hl.1 dX12_advance_115 (Nat.le_of_ble_eq_true rfl) (Nat.le_of_ble_eq_true rfl) (fun r_27 b1 H locs hw G => ?_)
              refine zAn2 hw ?_
              intro hbs9 h_26
              clear hw
              subst hbs9
              have G : zS T A s.heap s [[zO11 mo m_all m_has (nI n) (nI y) (nI x) i_token i_number i_word i_wrong i_farCrossing m_read i_z0 i_crossings i_inns m_posts m_shut m_here i_steps i_done i_at i_gone m_was m_came m_seenAt m_rowWorth m_farBy m_used i_everywhere i_again0 i_d0 i_never i_firstCame i_longRun i_moved i_crowd i_l0 i_fitMany i_fitLeast i_fitMost m_fitPost m_fitEnd m_keptPosts i_x0], [zAr T 0 m_all 3952 f_all]] _ _ := G
              subst h_26
              refine lv_i2l hx hb dX12_advance_118 rfl ?_
              refine lv_ladd hx hb dX12_advance_119 ?_
              refine lv_ldc2 (v := 96) hx hb C.2.2.2.1 (C.2.2.2.2 _ m_kl_RX12_89) dX12_advance_120 ?_
              refine lv_lsub hx hb dX12_advance_123 ?_
              refine lv_lstore_n (lv' := [(2, .long ((((32 : Int64) * v) + ((zBt f_all n y).toInt64)) - (96 : Int64))), (1, .int (zBt f_all n x)), (0, .ref mo)]) hx hb dX12_advance_124 rfl hl (by decide) rfl (fun ls hl => ?_)
              refine lv_aload_n hx hb dX12_advance_125 rfl (lv_at hl 2 rfl) ?_
              refine lv_dup hx hb dX12_advance_126 rfl ?_
              refine z_get C G clX12 0 rfl 3 (by decide) m_fl_RX12_70 rfl dX12_advance_127 ?_
              refine lv_iconst (v := 1) hx hb dX12_advance_130 (by decide) ?_
              refine lv_iadd hx hb dX12_advance_131 ?_
              refine lv_topi (fun y_28 ey_28 => ?_)
              obtain rfl : y_28 = nI (y + 1) := ey_28.trans (z_iaddn y 1 rfl rfl)
              refine z_put C G clX12 0 rfl 3 (by decide) m_fl_RX12_70 rfl rfl rfl (Nat.le_of_ble_eq_true rfl) dX12_advance_132 (fun H locs G => ?_)
              have G : zS T A s.heap s [[zO11 mo m_all m_has (nI n) (nI (y + 1)) (nI x) i_token i_number i_word i_wrong i_farCrossing m_read i_z0 i_crossings i_inns m_posts m_shut m_here i_steps i_done i_at i_gone m_was m_came m_seenAt m_rowWorth m_farBy m_used i_everywhere i_again0 i_d0 i_never i_firstCame i_longRun i_moved i_crowd i_l0 i_fitMany i_fitLeast i_fitMost m_fitPost m_fitEnd m_keptPosts i_x0], [zAr T 0 m_all 3952 f_all]] _ _ := G
              refine lv_goto (tgt := 77) hx hb dX12_advance_135 (by decide) ?_
              exact ih_77 (y + 1) ((((32 : Int64) * v) + ((zBt f_all n y).toInt64)) - (96 : Int64)) (show (x ≤ (y + 1) ∧ (y + 1) ≤ n) ∧ (∀ j, x ≤ j → j < (y + 1) → tkL (f_all (10 + j)) = true) ∧ ((((32 : Int64) * v) + ((zBt f_all n y).toInt64)) - (96 : Int64)).toInt = zVal (fun j => f_all (10 + j)) x (min ((y + 1) - x) 8) from ⟨(by omega), (z_allS (f := (fun j => f_all (10 + j))) hally hlz.2), (zVal_a hyq.1 hally (zBt_e hlz.1) hlz.2 hvv (by omega))⟩) (show n - (y + 1) < n - y from by omega) _ _ ls G (lv_sub hl [0, 1, 2] rfl)
          · have h_22 : ((zBt f_all n y).toInt < 97 ∨ 122 < (zBt f_all n y).toInt) := h_22
            refine lv_if_eq (tgt := 138) hx hb dX12_advance_88 (by decide) (fun _ => ?_) (fun q => absurd (by decide) q)
            have hL : zRun tkL (fun j => f_all (10 + j)) n x y := ⟨hyq.1, Or.inl hyq.2, hally, fun h9 => zBt_nL h9 (by omega)⟩
            have hlx := tkL_iff.mpr (show 97 ≤ (f_all (10 + x)).toInt ∧ (f_all (10 + x)).toInt ≤ 122 by rw [← hbx]; omega)
            refine lv_aload_n hx hb dX12_advance_138 rfl (lv_at hl 2 rfl) ?_
            refine lv_aload_n hx hb dX12_advance_139 rfl (lv_at hl 2 rfl) ?_
            refine z_get C G clX12 0 rfl 3 (by decide) m_fl_RX12_70 rfl dX12_advance_140 ?_
            refine lv_aload_n hx hb dX12_advance_143 rfl (lv_at hl 2 rfl) ?_
            refine z_get C G clX12 0 rfl 4 (by decide) m_fl_RX12_77 rfl dX12_advance_144 ?_
            refine lv_isub hx hb dX12_advance_147 ?_
            refine lv_topi (fun y_29 ey_29 => ?_)
            have ey_29i : y_29.toInt = (y : Int) - (x : Int) := by rw [ey_29]; exact (z_isubI (x := (nI y)) (y := (nI x)) (by rw [nI_toInt (n := y) (by omega), nI_toInt (n := x) (by omega)]; show -2147483648 ≤ (y : Int) - (x : Int); omega) (by rw [nI_toInt (n := y) (by omega), nI_toInt (n := x) (by omega)]; show (y : Int) - (x : Int) < 2147483648; omega)).trans (by rw [nI_toInt (n := y) (by omega), nI_toInt (n := x) (by omega)] <;> rfl)
            refine lv_bipush (v := 8) hx hb dX12_advance_148 (by decide) ?_
            refine lv_icmp_le (tgt := 158) hx hb dX12_advance_150 (by decide) (fun c_30 => ?_) (fun c_30 => ?_)
            · have c_30n : y_29.toInt ≤ (8 : Int) := (fa_le _ _).mp c_30
              refine lv_lload_n hx hb dX12_advance_158 rfl (lv_at hl 0 rfl) ?_
              refine z_Si (bc := []) (br := [[zO11 mo m_all m_has (nI n) (nI y) (nI x) i_token i_number i_word i_wrong i_farCrossing m_read i_z0 i_crossings i_inns m_posts m_shut m_here i_steps i_done i_at i_gone m_was m_came m_seenAt m_rowWorth m_farBy m_used i_everywhere i_again0 i_d0 i_never i_firstCame i_longRun i_moved i_crowd i_l0 i_fitMany i_fitLeast i_fitMost m_fitPost m_fitEnd m_keptPosts i_x0], [zAr T 0 m_all 3952 f_all]]) (As := [.long v]) (rest := [.ref mo]) C G (c_m_wordOf l T v) (kS_RX12_91 C.2.2.2.2 (Nat.le_of_ble_eq_true rfl) (Nat.le_of_ble_eq_true rfl)) [] [] rfl rfl rfl rfl hl.1 dX12_advance_159 (Nat.le_of_ble_eq_true rfl) (Nat.le_of_ble_eq_true rfl) (fun r_32 b1 H locs hw G => ?_)
              refine zAn2 hw ?_
              intro hbs9 h_31
              clear hw
              subst hbs9
              have G : zS T A s.heap s [[zO11 mo m_all m_has (nI n) (nI y) (nI x) i_token i_number i_word i_wrong i_farCrossing m_read i_z0 i_crossings i_inns m_posts m_shut m_here i_steps i_done i_at i_gone m_was m_came m_seenAt m_rowWorth m_farBy m_used i_everywhere i_again0 i_d0 i_never i_firstCame i_longRun i_moved i_crowd i_l0 i_fitMany i_fitLeast i_fitMost m_fitPost m_fitEnd m_keptPosts i_x0], [zAr T 0 m_all 3952 f_all]] _ _ := G
              subst h_31
              refine z_put C G clX12 0 rfl 7 (by decide) m_fl_RX12_95 rfl rfl rfl (Nat.le_of_ble_eq_true rfl) dX12_advance_162 (fun H locs G => ?_)
              have G : zS T A s.heap s [[zO11 mo m_all m_has (nI n) (nI y) (nI x) i_token i_number (zWord v) i_wrong i_farCrossing m_read i_z0 i_crossings i_inns m_posts m_shut m_here i_steps i_done i_at i_gone m_was m_came m_seenAt m_rowWorth m_farBy m_used i_everywhere i_again0 i_d0 i_never i_firstCame i_longRun i_moved i_crowd i_l0 i_fitMany i_fitLeast i_fitMost m_fitPost m_fitEnd m_keptPosts i_x0], [zAr T 0 m_all 3952 f_all]] _ _ := G
              have hwat : (zWord v).toInt = (zWordAt (fun j => f_all (10 + j)) x y : Int) := zWord_at hyq.1 hally (by rw [hvv, show min (y - x) 8 = y - x by omega])
              have hwin := zWordAt_in (fun j => f_all (10 + j)) x y
              refine lv_aload_n hx hb dX12_advance_165 rfl (lv_at hl 2 rfl) ?_
              refine lv_aload_n hx hb dX12_advance_166 rfl (lv_at hl 2 rfl) ?_
              refine z_get C G clX12 0 rfl 7 (by decide) m_fl_RX12_95 rfl dX12_advance_167 ?_
              refine lv_bipush (v := 99) hx hb dX12_advance_170 (by decide) ?_
              refine lv_icmp_ne (tgt := 179) hx hb dX12_advance_172 (by decide) (fun c_33 => ?_) (fun c_33 => ?_)
              · have c_33n : ¬ (zWord v).toInt = (99 : Int) := fun q => c_33 ((fa_eq _ _).mpr q)
                refine lv_iconst (v := 3) hx hb dX12_advance_179 (by decide) ?_
                refine z_put C G clX12 0 rfl 5 (by decide) m_fl_RX12_80 rfl rfl rfl (Nat.le_of_ble_eq_true rfl) dX12_advance_180 (fun H locs G => ?_)
                have G : zS T A s.heap s [[zO11 mo m_all m_has (nI n) (nI y) (nI x) 3 i_number (zWord v) i_wrong i_farCrossing m_read i_z0 i_crossings i_inns m_posts m_shut m_here i_steps i_done i_at i_gone m_was m_came m_seenAt m_rowWorth m_farBy m_used i_everywhere i_again0 i_d0 i_never i_firstCame i_longRun i_moved i_crowd i_l0 i_fitMany i_fitLeast i_fitMost m_fitPost m_fitEnd m_keptPosts i_x0], [zAr T 0 m_all 3952 f_all]] _ _ := G
                refine lv_goto (tgt := 311) hx hb dX12_advance_183 (by decide) ?_
                have hT9 : zTokR (tkT (fun j => f_all (10 + j)) n) pp (nI y) (nI x) (3 : Int32) i_number (zWord v) := zTokR_of 3 (tk_L hB hlt hlx hL) (by rw [if_pos rfl, if_neg (by omega)]) (fun h9 _ => absurd h9 (by decide)) (fun _ => z_nI hwat (by omega)) (by decide)
                have hO9 := zTokR_old (tkT_ok _ _) hpn hn6 hT9
                exact z_back hQ9 (z_vret C hr hlocks G (Nat.le_of_ble_eq_true rfl) (Nat.le_of_ble_eq_true rfl) dX12_advance_311 ⟨(nI y), (nI x), 3, i_number, (zWord v), rfl, hO9.1, hO9.2.1, hO9.2.2.1, hO9.2.2.2.1, hO9.2.2.2.2.1, hO9.2.2.2.2.2, hT9⟩)
              · have c_33n : (zWord v).toInt = (99 : Int) := (fa_eq _ _).mp c_33
                refine lv_iconst (v := 4) hx hb dX12_advance_175 (by decide) ?_
                refine lv_goto (tgt := 180) hx hb dX12_advance_176 (by decide) ?_
                refine z_put C G clX12 0 rfl 5 (by decide) m_fl_RX12_80 rfl rfl rfl (Nat.le_of_ble_eq_true rfl) dX12_advance_180 (fun H locs G => ?_)
                have G : zS T A s.heap s [[zO11 mo m_all m_has (nI n) (nI y) (nI x) 4 i_number (zWord v) i_wrong i_farCrossing m_read i_z0 i_crossings i_inns m_posts m_shut m_here i_steps i_done i_at i_gone m_was m_came m_seenAt m_rowWorth m_farBy m_used i_everywhere i_again0 i_d0 i_never i_firstCame i_longRun i_moved i_crowd i_l0 i_fitMany i_fitLeast i_fitMost m_fitPost m_fitEnd m_keptPosts i_x0], [zAr T 0 m_all 3952 f_all]] _ _ := G
                refine lv_goto (tgt := 311) hx hb dX12_advance_183 (by decide) ?_
                have hT9 : zTokR (tkT (fun j => f_all (10 + j)) n) pp (nI y) (nI x) (4 : Int32) i_number (zWord v) := zTokR_of 4 (tk_L hB hlt hlx hL) (by rw [if_pos rfl, if_pos (by omega)]) (fun h9 _ => absurd h9 (by decide)) (fun h9 => absurd h9 (by decide)) (by decide)
                have hO9 := zTokR_old (tkT_ok _ _) hpn hn6 hT9
                exact z_back hQ9 (z_vret C hr hlocks G (Nat.le_of_ble_eq_true rfl) (Nat.le_of_ble_eq_true rfl) dX12_advance_311 ⟨(nI y), (nI x), 4, i_number, (zWord v), rfl, hO9.1, hO9.2.1, hO9.2.2.1, hO9.2.2.2.1, hO9.2.2.2.2.1, hO9.2.2.2.2.2, hT9⟩)
            · have c_30n : ¬ y_29.toInt ≤ (8 : Int) := fun q => c_30 ((fa_le _ _).mpr q)
              refine lv_bipush (v := 99) hx hb dX12_advance_153 (by decide) ?_
              refine lv_goto (tgt := 162) hx hb dX12_advance_155 (by decide) ?_
              refine z_put C G clX12 0 rfl 7 (by decide) m_fl_RX12_95 rfl rfl rfl (Nat.le_of_ble_eq_true rfl) dX12_advance_162 (fun H locs G => ?_)
              have G : zS T A s.heap s [[zO11 mo m_all m_has (nI n) (nI y) (nI x) i_token i_number 99 i_wrong i_farCrossing m_read i_z0 i_crossings i_inns m_posts m_shut m_here i_steps i_done i_at i_gone m_was m_came m_seenAt m_rowWorth m_farBy m_used i_everywhere i_again0 i_d0 i_never i_firstCame i_longRun i_moved i_crowd i_l0 i_fitMany i_fitLeast i_fitMost m_fitPost m_fitEnd m_keptPosts i_x0], [zAr T 0 m_all 3952 f_all]] _ _ := G
              have hwat : (99 : Int) = (zWordAt (fun j => f_all (10 + j)) x y : Int) := by rw [zWd_long (by omega)]; rfl
              refine lv_aload_n hx hb dX12_advance_165 rfl (lv_at hl 2 rfl) ?_
              refine lv_aload_n hx hb dX12_advance_166 rfl (lv_at hl 2 rfl) ?_
              refine z_get C G clX12 0 rfl 7 (by decide) m_fl_RX12_95 rfl dX12_advance_167 ?_
              refine lv_bipush (v := 99) hx hb dX12_advance_170 (by decide) ?_
              refine lv_icmp_ne (tgt := 179) hx hb dX12_advance_172 (by decide) (fun q => absurd (by decide) q) (fun _ => ?_)
              refine lv_iconst (v := 4) hx hb dX12_advance_175 (by decide) ?_
              refine lv_goto (tgt := 180) hx hb dX12_advance_176 (by decide) ?_
              refine z_put C G clX12 0 rfl 5 (by decide) m_fl_RX12_80 rfl rfl rfl (Nat.le_of_ble_eq_true rfl) dX12_advance_180 (fun H locs G => ?_)
              have G : zS T A s.heap s [[zO11 mo m_all m_has (nI n) (nI y) (nI x) 4 i_number 99 i_wrong i_farCrossing m_read i_z0 i_crossings i_inns m_posts m_shut m_here i_steps i_done i_at i_gone m_was m_came m_seenAt m_rowWorth m_farBy m_used i_everywhere i_again0 i_d0 i_never i_firstCame i_longRun i_moved i_crowd i_l0 i_fitMany i_fitLeast i_fitMost m_fitPost m_fitEnd m_keptPosts i_x0], [zAr T 0 m_all 3952 f_all]] _ _ := G
              refine lv_goto (tgt := 311) hx hb dX12_advance_183 (by decide) ?_
              have hT9 : zTokR (tkT (fun j => f_all (10 + j)) n) pp (nI y) (nI x) (4 : Int32) i_number (99 : Int32) := zTokR_of 4 (tk_L hB hlt hlx hL) (by rw [if_pos rfl, if_pos (by omega)]) (fun h9 _ => absurd h9 (by decide)) (fun h9 => absurd h9 (by decide)) (by decide)
              have hO9 := zTokR_old (tkT_ok _ _) hpn hn6 hT9
              exact z_back hQ9 (z_vret C hr hlocks G (Nat.le_of_ble_eq_true rfl) (Nat.le_of_ble_eq_true rfl) dX12_advance_311 ⟨(nI y), (nI x), 4, i_number, 99, rfl, hO9.1, hO9.2.1, hO9.2.2.1, hO9.2.2.2.1, hO9.2.2.2.2.1, hO9.2.2.2.2.2, hT9⟩)
        · have h_15 : ((zBt f_all n x).toInt < 97 ∨ 122 < (zBt f_all n x).toInt) := h_15
          refine lv_if_eq (tgt := 186) hx hb dX12_advance_72 (by decide) (fun _ => ?_) (fun q => absurd (by decide) q)
          refine lv_iload_n hx hb dX12_advance_186 rfl (lv_at hl 0 rfl) ?_
          refine z_Si (bc := []) (br := [[zO11 mo m_all m_has (nI n) (nI x) (nI x) i_token i_number i_word i_wrong i_farCrossing m_read i_z0 i_crossings i_inns m_posts m_shut m_here i_steps i_done i_at i_gone m_was m_came m_seenAt m_rowWorth m_farBy m_used i_everywhere i_again0 i_d0 i_never i_firstCame i_longRun i_moved i_crowd i_l0 i_fitMany i_fitLeast i_fitMost m_fitPost m_fitEnd m_keptPosts i_x0], [zAr T 0 m_all 3952 f_all]]) (As := [.int (zBt f_all n x)]) (rest := []) C G (c_m_isDigit l T (zBt f_all n x)) (kS_RX12_98 C.2.2.2.2 (Nat.le_of_ble_eq_true rfl) (Nat.le_of_ble_eq_true rfl)) [] [] rfl rfl rfl rfl hl.1 dX12_advance_187 (Nat.le_of_ble_eq_true rfl) (Nat.le_of_ble_eq_true rfl) (fun r_35 b1 H locs hw G => ?_)
          refine zAn2 hw ?_
          intro hbs9 hc_34
          clear hw
          subst hbs9
          have G : zS T A s.heap s [[zO11 mo m_all m_has (nI n) (nI x) (nI x) i_token i_number i_word i_wrong i_farCrossing m_read i_z0 i_crossings i_inns m_posts m_shut m_here i_steps i_done i_at i_gone m_was m_came m_seenAt m_rowWorth m_farBy m_used i_everywhere i_again0 i_d0 i_never i_firstCame i_longRun i_moved i_crowd i_l0 i_fitMany i_fitLeast i_fitMost m_fitPost m_fitEnd m_keptPosts i_x0], [zAr T 0 m_all 3952 f_all]] _ _ := G
          rcases hc_34 with ⟨rfl, h_36, h_37⟩ | ⟨rfl, h_38⟩
          · have h_36 : 48 ≤ (zBt f_all n x).toInt := h_36
            have h_37 : (zBt f_all n x).toInt ≤ 57 := h_37
            refine lv_if_eq (tgt := 286) hx hb dX12_advance_190 (by decide) (fun q => absurd q (by decide)) (fun _ => ?_)
            refine lv_aload_n hx hb dX12_advance_193 rfl (lv_at hl 1 rfl) ?_
            refine lv_iconst (v := 0) hx hb dX12_advance_194 (by decide) ?_
            refine z_put C G clX12 0 rfl 6 (by decide) m_fl_RX12_101 rfl rfl rfl (Nat.le_of_ble_eq_true rfl) dX12_advance_195 (fun H locs G => ?_)
            have G : zS T A s.heap s [[zO11 mo m_all m_has (nI n) (nI x) (nI x) i_token 0 i_word i_wrong i_farCrossing m_read i_z0 i_crossings i_inns m_posts m_shut m_here i_steps i_done i_at i_gone m_was m_came m_seenAt m_rowWorth m_farBy m_used i_everywhere i_again0 i_d0 i_never i_firstCame i_longRun i_moved i_crowd i_l0 i_fitMany i_fitLeast i_fitMost m_fitPost m_fitEnd m_keptPosts i_x0], [zAr T 0 m_all 3952 f_all]] _ _ := G
            refine z_lp2 (T := T) 198 (fun (z : Nat) (nu : Int32) => [[zO11 mo m_all m_has (nI n) (nI z) (nI x) i_token nu i_word i_wrong i_farCrossing m_read i_z0 i_crossings i_inns m_posts m_shut m_here i_steps i_done i_at i_gone m_was m_came m_seenAt m_rowWorth m_farBy m_used i_everywhere i_again0 i_d0 i_never i_firstCame i_longRun i_moved i_crowd i_l0 i_fitMany i_fitLeast i_fitMost m_fitPost m_fitEnd m_keptPosts i_x0], [zAr T 0 m_all 3952 f_all]]) (fun (z : Nat) (nu : Int32) => [(1, .int (zBt f_all n x)), (0, .ref mo)]) (fun (z : Nat) (nu : Int32) => (x ≤ z ∧ z ≤ n) ∧ (∀ j, x ≤ j → j < z → tkD (f_all (10 + j)) = true) ∧ nu.toInt = tkV (fun j => f_all (10 + j)) x (min z (x + 2))) (fun (z : Nat) (nu : Int32) => n - z) ?_ x 0 (show (x ≤ x ∧ x ≤ n) ∧ (∀ j, x ≤ j → j < x → tkD (f_all (10 + j)) = true) ∧ (0 : Int32).toInt = tkV (fun j => f_all (10 + j)) x (min x (x + 2)) from ⟨(by omega), (fun j h1 h2 => by omega), (tkV_0 (by omega)).symm⟩) G (lv_sub hl [0, 1] rfl)
            intro z nu hI9 ih_198 H locs ls G hl
            replace hI9 : (x ≤ z ∧ z ≤ n) ∧ (∀ j, x ≤ j → j < z → tkD (f_all (10 + j)) = true) ∧ nu.toInt = tkV (fun j => f_all (10 + j)) x (min z (x + 2)) := hI9
            refine zAn3 hI9 ?_
            intro hzq hallz hnu
            clear hI9
            replace G : zS T A s.heap s [[zO11 mo m_all m_has (nI n) (nI z) (nI x) i_token nu i_word i_wrong i_farCrossing m_read i_z0 i_crossings i_inns m_posts m_shut m_here i_steps i_done i_at i_gone m_was m_came m_seenAt m_rowWorth m_farBy m_used i_everywhere i_again0 i_d0 i_never i_firstCame i_longRun i_moved i_crowd i_l0 i_fitMany i_fitLeast i_fitMost m_fitPost m_fitEnd m_keptPosts i_x0], [zAr T 0 m_all 3952 f_all]] _ _ := G
            replace hl : lv_has ls 4 [(1, .int (zBt f_all n x)), (0, .ref mo)] := hl
            refine lv_aload_n hx hb dX12_advance_198 rfl (lv_at hl 1 rfl) ?_
            refine lv_aload_n hx hb dX12_advance_199 rfl (lv_at hl 1 rfl) ?_
            refine z_get C G clX12 0 rfl 3 (by decide) m_fl_RX12_70 rfl dX12_advance_200 ?_
            refine z_Vi (bc := [[zO11 mo m_all m_has (nI n) (nI z) (nI x) i_token nu i_word i_wrong i_farCrossing m_read i_z0 i_crossings i_inns m_posts m_shut m_here i_steps i_done i_at i_gone m_was m_came m_seenAt m_rowWorth m_farBy m_used i_everywhere i_again0 i_d0 i_never i_firstCame i_longRun i_moved i_crowd i_l0 i_fitMany i_fitLeast i_fitMost m_fitPost m_fitEnd m_keptPosts i_x0], [zAr T 0 m_all 3952 f_all]]) (br := []) (As := [.int (nI z)]) (rest := []) C G (c_fm_byteAt l T mo m_all m_has (nI n) (nI z) (nI x) i_token nu i_word i_wrong i_farCrossing m_read i_z0 i_crossings i_inns m_posts m_shut m_here i_steps i_done i_at i_gone m_was m_came m_seenAt m_rowWorth m_farBy m_used i_everywhere i_again0 i_d0 i_never i_firstCame i_longRun i_moved i_crowd i_l0 i_fitMany i_fitLeast i_fitMost m_fitPost m_fitEnd m_keptPosts i_x0 f_all (nI z) n z rfl rfl (by first | with_reducible assumption | with_reducible rfl | omega | assumption | rfl) (by first | with_reducible assumption | with_reducible rfl | omega | assumption | rfl)) (kV_RX12_73 C.2.2.2.2 (Nat.le_of_ble_eq_true rfl) (Nat.le_of_ble_eq_true rfl)) [0, 1] [0, 0] rfl rfl (ci := 11) (qc := (RX12, TX12, 43)) rfl rfl (List.mem_flatten.mpr ⟨_, List.mem_of_getElem? (i := 0) rfl, List.mem_cons_self⟩) rfl rfl hl.1 dX12_advance_203 (Nat.le_of_ble_eq_true rfl) (Nat.le_of_ble_eq_true rfl) (fun r_40 b1 H locs hw G => ?_)
            refine zAn2 hw ?_
            intro hbs9 h_39
            clear hw
            subst hbs9
            have G : zS T A s.heap s [[zO11 mo m_all m_has (nI n) (nI z) (nI x) i_token nu i_word i_wrong i_farCrossing m_read i_z0 i_crossings i_inns m_posts m_shut m_here i_steps i_done i_at i_gone m_was m_came m_seenAt m_rowWorth m_farBy m_used i_everywhere i_again0 i_d0 i_never i_firstCame i_longRun i_moved i_crowd i_l0 i_fitMany i_fitLeast i_fitMost m_fitPost m_fitEnd m_keptPosts i_x0], [zAr T 0 m_all 3952 f_all]] _ _ := G
            subst h_39
            refine z_Si (bc := []) (br := [[zO11 mo m_all m_has (nI n) (nI z) (nI x) i_token nu i_word i_wrong i_farCrossing m_read i_z0 i_crossings i_inns m_posts m_shut m_here i_steps i_done i_at i_gone m_was m_came m_seenAt m_rowWorth m_farBy m_used i_everywhere i_again0 i_d0 i_never i_firstCame i_longRun i_moved i_crowd i_l0 i_fitMany i_fitLeast i_fitMost m_fitPost m_fitEnd m_keptPosts i_x0], [zAr T 0 m_all 3952 f_all]]) (As := [.int (zBt f_all n z)]) (rest := []) C G (c_m_isDigit l T (zBt f_all n z)) (kS_RX12_98 C.2.2.2.2 (Nat.le_of_ble_eq_true rfl) (Nat.le_of_ble_eq_true rfl)) [] [] rfl rfl rfl rfl hl.1 dX12_advance_206 (Nat.le_of_ble_eq_true rfl) (Nat.le_of_ble_eq_true rfl) (fun r_42 b1 H locs hw G => ?_)
            refine zAn2 hw ?_
            intro hbs9 hc_41
            clear hw
            subst hbs9
            have G : zS T A s.heap s [[zO11 mo m_all m_has (nI n) (nI z) (nI x) i_token nu i_word i_wrong i_farCrossing m_read i_z0 i_crossings i_inns m_posts m_shut m_here i_steps i_done i_at i_gone m_was m_came m_seenAt m_rowWorth m_farBy m_used i_everywhere i_again0 i_d0 i_never i_firstCame i_longRun i_moved i_crowd i_l0 i_fitMany i_fitLeast i_fitMost m_fitPost m_fitEnd m_keptPosts i_x0], [zAr T 0 m_all 3952 f_all]] _ _ := G
            rcases hc_41 with ⟨rfl, h_43, h_44⟩ | ⟨rfl, h_45⟩
            · have h_43 : 48 ≤ (zBt f_all n z).toInt := h_43
              have h_44 : (zBt f_all n z).toInt ≤ 57 := h_44
              have hdz := zBt_D h_43 h_44
              have hnb := tkV_b2 hzq.1 hallz hnu
              refine lv_if_eq (tgt := 261) hx hb dX12_advance_209 (by decide) (fun q => absurd q (by decide)) (fun _ => ?_)
              refine lv_aload_n hx hb dX12_advance_212 rfl (lv_at hl 1 rfl) ?_
              refine z_get C G clX12 0 rfl 3 (by decide) m_fl_RX12_70 rfl dX12_advance_213 ?_
              refine lv_aload_n hx hb dX12_advance_216 rfl (lv_at hl 1 rfl) ?_
              refine z_get C G clX12 0 rfl 4 (by decide) m_fl_RX12_77 rfl dX12_advance_217 ?_
              refine lv_isub hx hb dX12_advance_220 ?_
              refine lv_topi (fun y_46 ey_46 => ?_)
              have ey_46i : y_46.toInt = (z : Int) - (x : Int) := by rw [ey_46]; exact (z_isubI (x := (nI z)) (y := (nI x)) (by rw [nI_toInt (n := z) (by omega), nI_toInt (n := x) (by omega)]; show -2147483648 ≤ (z : Int) - (x : Int); omega) (by rw [nI_toInt (n := z) (by omega), nI_toInt (n := x) (by omega)]; show (z : Int) - (x : Int) < 2147483648; omega)).trans (by rw [nI_toInt (n := z) (by omega), nI_toInt (n := x) (by omega)] <;> rfl)
              refine lv_iconst (v := 2) hx hb dX12_advance_221 (by decide) ?_
              refine lv_icmp_ge (tgt := 248) hx hb dX12_advance_222 (by decide) (fun c_47 => ?_) (fun c_47 => ?_)
              · have c_47n : (2 : Int) ≤ y_46.toInt := (fa_le _ _).mp c_47
                refine lv_aload_n hx hb dX12_advance_248 rfl (lv_at hl 1 rfl) ?_
                refine lv_dup hx hb dX12_advance_249 rfl ?_
                refine z_get C G clX12 0 rfl 3 (by decide) m_fl_RX12_70 rfl dX12_advance_250 ?_
                refine lv_iconst (v := 1) hx hb dX12_advance_253 (by decide) ?_
                refine lv_iadd hx hb dX12_advance_254 ?_
                refine lv_topi (fun y_48 ey_48 => ?_)
                obtain rfl : y_48 = nI (z + 1) := ey_48.trans (z_iaddn z 1 rfl rfl)
                refine z_put C G clX12 0 rfl 3 (by decide) m_fl_RX12_70 rfl rfl rfl (Nat.le_of_ble_eq_true rfl) dX12_advance_255 (fun H locs G => ?_)
                have G : zS T A s.heap s [[zO11 mo m_all m_has (nI n) (nI (z + 1)) (nI x) i_token nu i_word i_wrong i_farCrossing m_read i_z0 i_crossings i_inns m_posts m_shut m_here i_steps i_done i_at i_gone m_was m_came m_seenAt m_rowWorth m_farBy m_used i_everywhere i_again0 i_d0 i_never i_firstCame i_longRun i_moved i_crowd i_l0 i_fitMany i_fitLeast i_fitMost m_fitPost m_fitEnd m_keptPosts i_x0], [zAr T 0 m_all 3952 f_all]] _ _ := G
                refine lv_goto (tgt := 198) hx hb dX12_advance_258 (by decide) ?_
                exact ih_198 (z + 1) nu (show (x ≤ (z + 1) ∧ (z + 1) ≤ n) ∧ (∀ j, x ≤ j → j < (z + 1) → tkD (f_all (10 + j)) = true) ∧ nu.toInt = tkV (fun j => f_all (10 + j)) x (min (z + 1) (x + 2)) from ⟨(by omega), (z_allS (f := (fun j => f_all (10 + j))) hallz hdz.2), (by rw [hnu, show min z (x + 2) = min (z + 1) (x + 2) by omega])⟩) (show n - (z + 1) < n - z from by omega) _ _ ls G (lv_sub hl [0, 1] rfl)
              · have c_47n : ¬ (2 : Int) ≤ y_46.toInt := fun q => c_47 ((fa_le _ _).mpr q)
                refine lv_aload_n hx hb dX12_advance_225 rfl (lv_at hl 1 rfl) ?_
                refine lv_bipush (v := 10) hx hb dX12_advance_226 (by decide) ?_
                refine lv_aload_n hx hb dX12_advance_228 rfl (lv_at hl 1 rfl) ?_
                refine z_get C G clX12 0 rfl 6 (by decide) m_fl_RX12_101 rfl dX12_advance_229 ?_
                refine lv_imul hx hb dX12_advance_232 ?_
                refine lv_topi (fun y_49 ey_49 => ?_)
                have ey_49i : y_49.toInt = (10 : Int) * nu.toInt := by rw [ey_49]; exact z_imulI (x := (10 : Int32)) (y := nu) (by show -2147483648 ≤ (10 : Int) * nu.toInt; omega) (by show (10 : Int) * nu.toInt < 2147483648; omega)
                refine lv_aload_n hx hb dX12_advance_233 rfl (lv_at hl 1 rfl) ?_
                refine lv_aload_n hx hb dX12_advance_234 rfl (lv_at hl 1 rfl) ?_
                refine z_get C G clX12 0 rfl 3 (by decide) m_fl_RX12_70 rfl dX12_advance_235 ?_
                refine z_Vi (bc := [[zO11 mo m_all m_has (nI n) (nI z) (nI x) i_token nu i_word i_wrong i_farCrossing m_read i_z0 i_crossings i_inns m_posts m_shut m_here i_steps i_done i_at i_gone m_was m_came m_seenAt m_rowWorth m_farBy m_used i_everywhere i_again0 i_d0 i_never i_firstCame i_longRun i_moved i_crowd i_l0 i_fitMany i_fitLeast i_fitMost m_fitPost m_fitEnd m_keptPosts i_x0], [zAr T 0 m_all 3952 f_all]]) (br := []) (As := [.int (nI z)]) (rest := [.int y_49, .ref mo]) C G (c_fm_byteAt l T mo m_all m_has (nI n) (nI z) (nI x) i_token nu i_word i_wrong i_farCrossing m_read i_z0 i_crossings i_inns m_posts m_shut m_here i_steps i_done i_at i_gone m_was m_came m_seenAt m_rowWorth m_farBy m_used i_everywhere i_again0 i_d0 i_never i_firstCame i_longRun i_moved i_crowd i_l0 i_fitMany i_fitLeast i_fitMost m_fitPost m_fitEnd m_keptPosts i_x0 f_all (nI z) n z rfl rfl (by first | with_reducible assumption | with_reducible rfl | omega | assumption | rfl) (by first | with_reducible assumption | with_reducible rfl | omega | assumption | rfl)) (kV_RX12_73 C.2.2.2.2 (Nat.le_of_ble_eq_true rfl) (Nat.le_of_ble_eq_true rfl)) [0, 1] [0, 0] rfl rfl (ci := 11) (qc := (RX12, TX12, 43)) rfl rfl (List.mem_flatten.mpr ⟨_, List.mem_of_getElem? (i := 0) rfl, List.mem_cons_self⟩) rfl rfl hl.1 dX12_advance_238 (Nat.le_of_ble_eq_true rfl) (Nat.le_of_ble_eq_true rfl) (fun r_51 b1 H locs hw G => ?_)
                refine zAn2 hw ?_
                intro hbs9 h_50
                clear hw
                subst hbs9
                have G : zS T A s.heap s [[zO11 mo m_all m_has (nI n) (nI z) (nI x) i_token nu i_word i_wrong i_farCrossing m_read i_z0 i_crossings i_inns m_posts m_shut m_here i_steps i_done i_at i_gone m_was m_came m_seenAt m_rowWorth m_farBy m_used i_everywhere i_again0 i_d0 i_never i_firstCame i_longRun i_moved i_crowd i_l0 i_fitMany i_fitLeast i_fitMost m_fitPost m_fitEnd m_keptPosts i_x0], [zAr T 0 m_all 3952 f_all]] _ _ := G
                subst h_50
                refine lv_iadd hx hb dX12_advance_241 ?_
                refine lv_topi (fun y_52 ey_52 => ?_)
                have ey_52i : y_52.toInt = y_49.toInt + (zBt f_all n z).toInt := by rw [ey_52]; exact z_iaddI (x := y_49) (y := (zBt f_all n z)) (by show -2147483648 ≤ y_49.toInt + (zBt f_all n z).toInt; omega) (by show y_49.toInt + (zBt f_all n z).toInt < 2147483648; omega)
                refine lv_bipush (v := 48) hx hb dX12_advance_242 (by decide) ?_
                refine lv_isub hx hb dX12_advance_244 ?_
                refine lv_topi (fun y_53 ey_53 => ?_)
                have ey_53i : y_53.toInt = y_52.toInt - (48 : Int) := by rw [ey_53]; exact z_isubI (x := y_52) (y := (48 : Int32)) (by show -2147483648 ≤ y_52.toInt - (48 : Int); omega) (by show y_52.toInt - (48 : Int) < 2147483648; omega)
                refine z_put C G clX12 0 rfl 6 (by decide) m_fl_RX12_101 rfl rfl rfl (Nat.le_of_ble_eq_true rfl) dX12_advance_245 (fun H locs G => ?_)
                have G : zS T A s.heap s [[zO11 mo m_all m_has (nI n) (nI z) (nI x) i_token y_53 i_word i_wrong i_farCrossing m_read i_z0 i_crossings i_inns m_posts m_shut m_here i_steps i_done i_at i_gone m_was m_came m_seenAt m_rowWorth m_farBy m_used i_everywhere i_again0 i_d0 i_never i_firstCame i_longRun i_moved i_crowd i_l0 i_fitMany i_fitLeast i_fitMost m_fitPost m_fitEnd m_keptPosts i_x0], [zAr T 0 m_all 3952 f_all]] _ _ := G
                refine lv_aload_n hx hb dX12_advance_248 rfl (lv_at hl 1 rfl) ?_
                refine lv_dup hx hb dX12_advance_249 rfl ?_
                refine z_get C G clX12 0 rfl 3 (by decide) m_fl_RX12_70 rfl dX12_advance_250 ?_
                refine lv_iconst (v := 1) hx hb dX12_advance_253 (by decide) ?_
                refine lv_iadd hx hb dX12_advance_254 ?_
                refine lv_topi (fun y_54 ey_54 => ?_)
                obtain rfl : y_54 = nI (z + 1) := ey_54.trans (z_iaddn z 1 rfl rfl)
                refine z_put C G clX12 0 rfl 3 (by decide) m_fl_RX12_70 rfl rfl rfl (Nat.le_of_ble_eq_true rfl) dX12_advance_255 (fun H locs G => ?_)
                have G : zS T A s.heap s [[zO11 mo m_all m_has (nI n) (nI (z + 1)) (nI x) i_token y_53 i_word i_wrong i_farCrossing m_read i_z0 i_crossings i_inns m_posts m_shut m_here i_steps i_done i_at i_gone m_was m_came m_seenAt m_rowWorth m_farBy m_used i_everywhere i_again0 i_d0 i_never i_firstCame i_longRun i_moved i_crowd i_l0 i_fitMany i_fitLeast i_fitMost m_fitPost m_fitEnd m_keptPosts i_x0], [zAr T 0 m_all 3952 f_all]] _ _ := G
                refine lv_goto (tgt := 198) hx hb dX12_advance_258 (by decide) ?_
                exact ih_198 (z + 1) y_53 (show (x ≤ (z + 1) ∧ (z + 1) ≤ n) ∧ (∀ j, x ≤ j → j < (z + 1) → tkD (f_all (10 + j)) = true) ∧ y_53.toInt = tkV (fun j => f_all (10 + j)) x (min (z + 1) (x + 2)) from ⟨(by omega), (z_allS (f := (fun j => f_all (10 + j))) hallz hdz.2), (tkV_m hzq.1 (by omega) hnu (by rw [← zBt_e (f := f_all) hdz.1]; omega))⟩) (show n - (z + 1) < n - z from by omega) _ _ ls G (lv_sub hl [0, 1] rfl)
            · have h_45 : ((zBt f_all n z).toInt < 48 ∨ 57 < (zBt f_all n z).toInt) := h_45
              refine lv_if_eq (tgt := 261) hx hb dX12_advance_209 (by decide) (fun _ => ?_) (fun q => absurd (by decide) q)
              have hD : zRun tkD (fun j => f_all (10 + j)) n x z := ⟨hzq.1, Or.inl hzq.2, hallz, fun h9 => zBt_nD h9 (by omega)⟩
              have hnl := tkL_f (show (f_all (10 + x)).toInt < 97 ∨ 122 < (f_all (10 + x)).toInt by rw [← hbx]; omega)
              have hdx := tkD_iff.mpr (show 48 ≤ (f_all (10 + x)).toInt ∧ (f_all (10 + x)).toInt ≤ 57 by rw [← hbx]; omega)
              refine lv_aload_n hx hb dX12_advance_261 rfl (lv_at hl 1 rfl) ?_
              refine lv_aload_n hx hb dX12_advance_262 rfl (lv_at hl 1 rfl) ?_
              refine z_get C G clX12 0 rfl 3 (by decide) m_fl_RX12_70 rfl dX12_advance_263 ?_
              refine lv_aload_n hx hb dX12_advance_266 rfl (lv_at hl 1 rfl) ?_
              refine z_get C G clX12 0 rfl 4 (by decide) m_fl_RX12_77 rfl dX12_advance_267 ?_
              refine lv_isub hx hb dX12_advance_270 ?_
              refine lv_topi (fun y_55 ey_55 => ?_)
              have ey_55i : y_55.toInt = (z : Int) - (x : Int) := by rw [ey_55]; exact (z_isubI (x := (nI z)) (y := (nI x)) (by rw [nI_toInt (n := z) (by omega), nI_toInt (n := x) (by omega)]; show -2147483648 ≤ (z : Int) - (x : Int); omega) (by rw [nI_toInt (n := z) (by omega), nI_toInt (n := x) (by omega)]; show (z : Int) - (x : Int) < 2147483648; omega)).trans (by rw [nI_toInt (n := z) (by omega), nI_toInt (n := x) (by omega)] <;> rfl)
              refine lv_iconst (v := 2) hx hb dX12_advance_271 (by decide) ?_
              refine lv_icmp_le (tgt := 279) hx hb dX12_advance_272 (by decide) (fun c_56 => ?_) (fun c_56 => ?_)
              · have c_56n : y_55.toInt ≤ (2 : Int) := (fa_le _ _).mp c_56
                refine lv_iconst (v := 1) hx hb dX12_advance_279 (by decide) ?_
                refine z_put C G clX12 0 rfl 5 (by decide) m_fl_RX12_80 rfl rfl rfl (Nat.le_of_ble_eq_true rfl) dX12_advance_280 (fun H locs G => ?_)
                have G : zS T A s.heap s [[zO11 mo m_all m_has (nI n) (nI z) (nI x) 1 nu i_word i_wrong i_farCrossing m_read i_z0 i_crossings i_inns m_posts m_shut m_here i_steps i_done i_at i_gone m_was m_came m_seenAt m_rowWorth m_farBy m_used i_everywhere i_again0 i_d0 i_never i_firstCame i_longRun i_moved i_crowd i_l0 i_fitMany i_fitLeast i_fitMost m_fitPost m_fitEnd m_keptPosts i_x0], [zAr T 0 m_all 3952 f_all]] _ _ := G
                refine lv_goto (tgt := 311) hx hb dX12_advance_283 (by decide) ?_
                have hT9 : zTokR (tkT (fun j => f_all (10 + j)) n) pp (nI z) (nI x) (1 : Int32) nu i_word := (by have hd9 := tk_D hB hlt hnl hdx hD; rw [if_pos (show  z - x ≤ 2 by omega), if_pos (show  z - x ≤ 2 by omega)] at hd9; exact zTokR_of 1 hd9 (by decide) (fun _ _ => tk_of (by rw [hnu, show min z (x + 2) = z by omega])) (fun h9 => absurd h9 (by decide)) (by decide))
                have hO9 := zTokR_old (tkT_ok _ _) hpn hn6 hT9
                exact z_back hQ9 (z_vret C hr hlocks G (Nat.le_of_ble_eq_true rfl) (Nat.le_of_ble_eq_true rfl) dX12_advance_311 ⟨(nI z), (nI x), 1, nu, i_word, rfl, hO9.1, hO9.2.1, hO9.2.2.1, hO9.2.2.2.1, hO9.2.2.2.2.1, hO9.2.2.2.2.2, hT9⟩)
              · have c_56n : ¬ y_55.toInt ≤ (2 : Int) := fun q => c_56 ((fa_le _ _).mpr q)
                refine lv_iconst (v := 4) hx hb dX12_advance_275 (by decide) ?_
                refine lv_goto (tgt := 280) hx hb dX12_advance_276 (by decide) ?_
                refine z_put C G clX12 0 rfl 5 (by decide) m_fl_RX12_80 rfl rfl rfl (Nat.le_of_ble_eq_true rfl) dX12_advance_280 (fun H locs G => ?_)
                have G : zS T A s.heap s [[zO11 mo m_all m_has (nI n) (nI z) (nI x) 4 nu i_word i_wrong i_farCrossing m_read i_z0 i_crossings i_inns m_posts m_shut m_here i_steps i_done i_at i_gone m_was m_came m_seenAt m_rowWorth m_farBy m_used i_everywhere i_again0 i_d0 i_never i_firstCame i_longRun i_moved i_crowd i_l0 i_fitMany i_fitLeast i_fitMost m_fitPost m_fitEnd m_keptPosts i_x0], [zAr T 0 m_all 3952 f_all]] _ _ := G
                refine lv_goto (tgt := 311) hx hb dX12_advance_283 (by decide) ?_
                have hT9 : zTokR (tkT (fun j => f_all (10 + j)) n) pp (nI z) (nI x) (4 : Int32) nu i_word := (by have hd9 := tk_D hB hlt hnl hdx hD; rw [if_neg (show ¬ z - x ≤ 2 by omega), if_neg (show ¬ z - x ≤ 2 by omega)] at hd9; exact zTokR_of 4 hd9 (by decide) (fun h9 _ => absurd h9 (by decide)) (fun h9 => absurd h9 (by decide)) (by decide))
                have hO9 := zTokR_old (tkT_ok _ _) hpn hn6 hT9
                exact z_back hQ9 (z_vret C hr hlocks G (Nat.le_of_ble_eq_true rfl) (Nat.le_of_ble_eq_true rfl) dX12_advance_311 ⟨(nI z), (nI x), 4, nu, i_word, rfl, hO9.1, hO9.2.1, hO9.2.2.1, hO9.2.2.2.1, hO9.2.2.2.2.1, hO9.2.2.2.2.2, hT9⟩)
          · have h_38 : ((zBt f_all n x).toInt < 48 ∨ 57 < (zBt f_all n x).toInt) := h_38
            refine lv_if_eq (tgt := 286) hx hb dX12_advance_190 (by decide) (fun _ => ?_) (fun q => absurd (by decide) q)
            have hnl := tkL_f (show (f_all (10 + x)).toInt < 97 ∨ 122 < (f_all (10 + x)).toInt by rw [← hbx]; omega)
            have hnd := tkD_f (show (f_all (10 + x)).toInt < 48 ∨ 57 < (f_all (10 + x)).toInt by rw [← hbx]; omega)
            refine lv_aload_n hx hb dX12_advance_286 rfl (lv_at hl 1 rfl) ?_
            refine lv_dup hx hb dX12_advance_287 rfl ?_
            refine z_get C G clX12 0 rfl 3 (by decide) m_fl_RX12_70 rfl dX12_advance_288 ?_
            refine lv_iconst (v := 1) hx hb dX12_advance_291 (by decide) ?_
            refine lv_iadd hx hb dX12_advance_292 ?_
            refine lv_topi (fun y_57 ey_57 => ?_)
            obtain rfl : y_57 = nI (x + 1) := ey_57.trans (z_iaddn x 1 rfl rfl)
            refine z_put C G clX12 0 rfl 3 (by decide) m_fl_RX12_70 rfl rfl rfl (Nat.le_of_ble_eq_true rfl) dX12_advance_293 (fun H locs G => ?_)
            have G : zS T A s.heap s [[zO11 mo m_all m_has (nI n) (nI (x + 1)) (nI x) i_token i_number i_word i_wrong i_farCrossing m_read i_z0 i_crossings i_inns m_posts m_shut m_here i_steps i_done i_at i_gone m_was m_came m_seenAt m_rowWorth m_farBy m_used i_everywhere i_again0 i_d0 i_never i_firstCame i_longRun i_moved i_crowd i_l0 i_fitMany i_fitLeast i_fitMost m_fitPost m_fitEnd m_keptPosts i_x0], [zAr T 0 m_all 3952 f_all]] _ _ := G
            refine lv_aload_n hx hb dX12_advance_296 rfl (lv_at hl 1 rfl) ?_
            refine lv_iload_n hx hb dX12_advance_297 rfl (lv_at hl 0 rfl) ?_
            refine lv_bipush (v := 59) hx hb dX12_advance_298 (by decide) ?_
            refine lv_icmp_ne (tgt := 307) hx hb dX12_advance_300 (by decide) (fun c_58 => ?_) (fun c_58 => ?_)
            · have c_58n : ¬ (zBt f_all n x).toInt = (59 : Int) := fun q => c_58 ((fa_eq _ _).mpr q)
              refine lv_iconst (v := 4) hx hb dX12_advance_307 (by decide) ?_
              refine z_put C G clX12 0 rfl 5 (by decide) m_fl_RX12_80 rfl rfl rfl (Nat.le_of_ble_eq_true rfl) dX12_advance_308 (fun H locs G => ?_)
              have G : zS T A s.heap s [[zO11 mo m_all m_has (nI n) (nI (x + 1)) (nI x) 4 i_number i_word i_wrong i_farCrossing m_read i_z0 i_crossings i_inns m_posts m_shut m_here i_steps i_done i_at i_gone m_was m_came m_seenAt m_rowWorth m_farBy m_used i_everywhere i_again0 i_d0 i_never i_firstCame i_longRun i_moved i_crowd i_l0 i_fitMany i_fitLeast i_fitMost m_fitPost m_fitEnd m_keptPosts i_x0], [zAr T 0 m_all 3952 f_all]] _ _ := G
              have hT9 : zTokR (tkT (fun j => f_all (10 + j)) n) pp (nI (x + 1)) (nI x) (4 : Int32) i_number i_word := (by have hs9 := tk_S hB hlt hnl hnd; rw [if_neg (show ¬ (f_all (10 + x)).toInt = 59 by rw [← hbx]; omega)] at hs9; exact zTokR_of 4 hs9 (by decide) (fun h9 _ => absurd h9 (by decide)) (fun h9 => absurd h9 (by decide)) (by decide))
              have hO9 := zTokR_old (tkT_ok _ _) hpn hn6 hT9
              exact z_back hQ9 (z_vret C hr hlocks G (Nat.le_of_ble_eq_true rfl) (Nat.le_of_ble_eq_true rfl) dX12_advance_311 ⟨(nI (x + 1)), (nI x), 4, i_number, i_word, rfl, hO9.1, hO9.2.1, hO9.2.2.1, hO9.2.2.2.1, hO9.2.2.2.2.1, hO9.2.2.2.2.2, hT9⟩)
            · have c_58n : (zBt f_all n x).toInt = (59 : Int) := (fa_eq _ _).mp c_58
              refine lv_iconst (v := 2) hx hb dX12_advance_303 (by decide) ?_
              refine lv_goto (tgt := 308) hx hb dX12_advance_304 (by decide) ?_
              refine z_put C G clX12 0 rfl 5 (by decide) m_fl_RX12_80 rfl rfl rfl (Nat.le_of_ble_eq_true rfl) dX12_advance_308 (fun H locs G => ?_)
              have G : zS T A s.heap s [[zO11 mo m_all m_has (nI n) (nI (x + 1)) (nI x) 2 i_number i_word i_wrong i_farCrossing m_read i_z0 i_crossings i_inns m_posts m_shut m_here i_steps i_done i_at i_gone m_was m_came m_seenAt m_rowWorth m_farBy m_used i_everywhere i_again0 i_d0 i_never i_firstCame i_longRun i_moved i_crowd i_l0 i_fitMany i_fitLeast i_fitMost m_fitPost m_fitEnd m_keptPosts i_x0], [zAr T 0 m_all 3952 f_all]] _ _ := G
              have hT9 : zTokR (tkT (fun j => f_all (10 + j)) n) pp (nI (x + 1)) (nI x) (2 : Int32) i_number i_word := (by have hs9 := tk_S hB hlt hnl hnd; rw [if_pos (show  (f_all (10 + x)).toInt = 59 by rw [← hbx]; omega)] at hs9; exact zTokR_of 2 hs9 (by decide) (fun h9 _ => absurd h9 (by decide)) (fun h9 => absurd h9 (by decide)) (by decide))
              have hO9 := zTokR_old (tkT_ok _ _) hpn hn6 hT9
              exact z_back hQ9 (z_vret C hr hlocks G (Nat.le_of_ble_eq_true rfl) (Nat.le_of_ble_eq_true rfl) dX12_advance_311 ⟨(nI (x + 1)), (nI x), 2, i_number, i_word, rfl, hO9.1, hO9.2.1, hO9.2.2.1, hO9.2.2.2.1, hO9.2.2.2.2.1, hO9.2.2.2.2.2, hT9⟩)
      · have c_10n : ¬ (0 : Int) ≤ (zBt f_all n x).toInt := fun q => c_10 ((fa_le _ _).mpr q)
        refine lv_aload_n hx hb dX12_advance_60 rfl (lv_at hl 1 rfl) ?_
        refine lv_iconst (v := 0) hx hb dX12_advance_61 (by decide) ?_
        refine z_put C G clX12 0 rfl 5 (by decide) m_fl_RX12_80 rfl rfl rfl (Nat.le_of_ble_eq_true rfl) dX12_advance_62 (fun H locs G => ?_)
        have G : zS T A s.heap s [[zO11 mo m_all m_has (nI n) (nI x) (nI x) 0 i_number i_word i_wrong i_farCrossing m_read i_z0 i_crossings i_inns m_posts m_shut m_here i_steps i_done i_at i_gone m_was m_came m_seenAt m_rowWorth m_farBy m_used i_everywhere i_again0 i_d0 i_never i_firstCame i_longRun i_moved i_crowd i_l0 i_fitMany i_fitLeast i_fitMost m_fitPost m_fitEnd m_keptPosts i_x0], [zAr T 0 m_all 3952 f_all]] _ _ := G
        refine lv_goto (tgt := 311) hx hb dX12_advance_65 (by decide) ?_
        have hT9 : zTokR (tkT (fun j => f_all (10 + j)) n) pp (nI x) (nI x) (0 : Int32) i_number i_word := zTokR_of 0 (tk_0 hB (zBt_neg hby (by omega))) (by decide) (fun h9 _ => absurd h9 (by decide)) (fun h9 => absurd h9 (by decide)) (by decide)
        have hO9 := zTokR_old (tkT_ok _ _) hpn hn6 hT9
        exact z_back hQ9 (z_vret C hr hlocks G (Nat.le_of_ble_eq_true rfl) (Nat.le_of_ble_eq_true rfl) dX12_advance_311 ⟨(nI x), (nI x), 0, i_number, i_word, rfl, hO9.1, hO9.2.1, hO9.2.2.1, hO9.2.2.2.1, hO9.2.2.2.2.1, hO9.2.2.2.2.2, hT9⟩)
    · have c_7n : (zBt f_all n x).toInt = (32 : Int) := (fa_eq _ _).mp c_7
      have hz9 := zBt_B (show (zBt f_all n x).toInt = 10 ∨ (zBt f_all n x).toInt = 32 by omega)
      have hlt := hz9.1
      refine lv_aload_n hx hb dX12_advance_26 rfl (lv_at hl 0 rfl) ?_
      refine lv_dup hx hb dX12_advance_27 rfl ?_
      refine z_get C G clX12 0 rfl 3 (by decide) m_fl_RX12_70 rfl dX12_advance_28 ?_
      refine lv_iconst (v := 1) hx hb dX12_advance_31 (by decide) ?_
      refine lv_iadd hx hb dX12_advance_32 ?_
      refine lv_topi (fun y_59 ey_59 => ?_)
      obtain rfl : y_59 = nI (x + 1) := ey_59.trans (z_iaddn x 1 rfl rfl)
      refine z_put C G clX12 0 rfl 3 (by decide) m_fl_RX12_70 rfl rfl rfl (Nat.le_of_ble_eq_true rfl) dX12_advance_33 (fun H locs G => ?_)
      have G : zS T A s.heap s [[zO11 mo m_all m_has (nI n) (nI (x + 1)) i_where i_token i_number i_word i_wrong i_farCrossing m_read i_z0 i_crossings i_inns m_posts m_shut m_here i_steps i_done i_at i_gone m_was m_came m_seenAt m_rowWorth m_farBy m_used i_everywhere i_again0 i_d0 i_never i_firstCame i_longRun i_moved i_crowd i_l0 i_fitMany i_fitLeast i_fitMost m_fitPost m_fitEnd m_keptPosts i_x0], [zAr T 0 m_all 3952 f_all]] _ _ := G
      refine lv_goto (tgt := 0) hx hb dX12_advance_36 (by decide) ?_
      exact ih_0 (x + 1) (show (pp ≤ (x + 1) ∧ (x + 1) ≤ n) ∧ (∀ j, pp ≤ j → j < (x + 1) → tkB (f_all (10 + j)) = true) from ⟨(by omega), (z_allS (f := (fun j => f_all (10 + j))) hall hz9.2)⟩) (show n - (x + 1) < n - x from by omega) _ _ ls G (lv_sub hl [0] rfl)
/-! LINES of the reference -/
theorem pWord_r {k : pT} {lo hi : Nat} {a : pS} (h : (pWord k lo hi a).2.2.1.toInt = 0) : a.2.1.toInt = 0 ∧ pTk k a.1 = 3 ∧ (lo ≤ pWd k a.1 ∧ pWd k a.1 ≤ hi) ∧ pWord k lo hi a = (pWd k a.1, pAdv k a) := by
  by_cases c : ¬ a.2.1.toInt = 0 ∨ ¬ pTk k a.1 = 3 ∨ ¬ (lo ≤ pWd k a.1 ∧ pWd k a.1 ≤ hi)
  · rw [pWord_e c] at h
    by_cases c2 : a.2.1.toInt = 0
    · rw [pEnds_y c2] at h
      exact absurd (show (1 : Int32).toInt = 0 from h) (by decide)
    · rw [pEnds_n c2] at h
      exact absurd h c2
  · have c0 : a.2.1.toInt = 0 := Decidable.byContradiction (fun z => c (Or.inl z))
    have c1 : pTk k a.1 = 3 := Decidable.byContradiction (fun z => c (Or.inr (Or.inl z)))
    have c2 : lo ≤ pWd k a.1 ∧ pWd k a.1 ≤ hi := Decidable.byContradiction (fun z => c (Or.inr (Or.inr z)))
    exact ⟨c0, c1, c2, pWord_i c0 c1 c2⟩
theorem pWord_1 (k : pT) (lo hi : Nat) (a : pS) : (pWord k lo hi a).1 ≤ hi := by
  unfold pWord
  split
  · exact Nat.zero_le _
  · rename_i c
    exact (Decidable.byContradiction (fun z => c (Or.inr (Or.inr z))) : lo ≤ pWd k a.1 ∧ pWd k a.1 ≤ hi).2
theorem pRow_y {k : pT} {j i : Nat} {a : pS} {f : Nat → Int32} {v : Int32} (h1 : (f 0).toInt < 7) (h2 : min j 4 < 4) (hi : i = 23 + 4 * (f 0).toInt.toNat + min j 4) (hv : v = (pCr k (pAt k j a)).1) : upd f i v = pRow k j a f := by
  unfold pRow
  rw [if_pos ⟨h1, h2⟩, hi, hv]
theorem pRow_n {k : pT} {j : Nat} {a : pS} {f : Nat → Int32} (h : ¬ ((f 0).toInt < 7 ∧ min j 4 < 4)) : f = pRow k j a f := (if_neg h).symm
theorem pAt_y {k : pT} {j : Nat} {a : pS} (h : min j 4 = 4) : pAt k j a = pAlso 3 (nI (pWh k a.1)) a := if_pos h
theorem pAt_n {k : pT} {j : Nat} {a : pS} (h : ¬ min j 4 = 4) : pAt k j a = a := if_neg h
section PLL
variable {k : pT} {a d : pS} {w : Nat} {f : Nat → Int32}
theorem pLand_w (h : pWord k 1 4 a = (w, d)) (hb : ¬ d.2.1.toInt = 0) : pLand k a f = (pEndL k d, f) := by
  unfold pLand
  rw [h]
  show (pEndL k (pOther k w (nI (pWh k a.1)) d f).1, (pOther k w (nI (pWh k a.1)) d f).2) = _
  rw [pOther_b hb]
theorem pLand_c (h : pWord k 1 4 a = (w, d)) (hb : d.2.1.toInt = 0) (hw : w = 1) : pLand k a f = (pEndL k (pCross k (nI (pWh k a.1)) d f).1, (pCross k (nI (pWh k a.1)) d f).2) := by
  have e : pOther k w (nI (pWh k a.1)) d f = pCross k (nI (pWh k a.1)) d f := (if_neg (fun z => z hb)).trans (if_pos hw)
  unfold pLand
  rw [h]
  show (pEndL k (pOther k w (nI (pWh k a.1)) d f).1, (pOther k w (nI (pWh k a.1)) d f).2) = _
  rw [e]
theorem pLand_i (h : pWord k 1 4 a = (w, d)) (hb : d.2.1.toInt = 0) (hw : w = 4) : pLand k a f = (pEndL k (pInn k d f).1, (pInn k d f).2) := by
  have e : pOther k w (nI (pWh k a.1)) d f = pInn k d f := (if_neg (fun z => z hb)).trans ((if_neg (by omega)).trans (if_pos hw))
  unfold pLand
  rw [h]
  show (pEndL k (pOther k w (nI (pWh k a.1)) d f).1, (pOther k w (nI (pWh k a.1)) d f).2) = _
  rw [e]
theorem pLand_p (h : pWord k 1 4 a = (w, d)) (hb : d.2.1.toInt = 0) (hw : w = 2 ∨ w = 3) : pLand k a f = (pEndL k (pPW k w d f).1, (pPW k w d f).2) := by
  have e : pOther k w (nI (pWh k a.1)) d f = pPW k w d f := (if_neg (fun z => z hb)).trans ((if_neg (by omega)).trans (if_neg (by omega)))
  unfold pLand
  rw [h]
  show (pEndL k (pOther k w (nI (pWh k a.1)) d f).1, (pOther k w (nI (pWh k a.1)) d f).2) = _
  rw [e]
end PLL

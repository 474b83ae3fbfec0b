def zWk (f : Nat → Int32) (z : Int32) (c : Nat) : Int32 := f (z.toInt.toNat + (16 + c))
theorem z_upS0 {x f : Nat → Int32} {i : Nat} {v : Int32} (h : ∀ j, j < i → x j = f j) (hv : v = f i) : ∀ j, j < i + 1 → upd x i v j = f j := by
  intro j hj
  unfold upd
  split
  · rename_i e
    rw [e]
    exact hv
  · exact h j (by omega)
set_option maxHeartbeats 4000000 in
set_option maxRecDepth 100000 in
/-- c_m_begins -/
theorem c_m_begins (l : Launch) (T : zTy) (mo : Nat) (m_all : Nat) (m_has : Nat) (i_size : Int32) (i_next : Int32) (i_where : Int32) (i_token : Int32) (i_number : Int32) (i_word : Int32) (i_wrong : Int32) (i_farCrossing : Int32) (m_read : Nat) (i_z0 : Int32) (i_crossings : Int32) (i_inns : Int32) (m_posts : Nat) (m_shut : Nat) (m_here : Nat) (i_steps : Int32) (i_done : Int32) (i_at : Int32) (i_gone : Int32) (m_was : Nat) (m_came : Nat) (m_seenAt : Nat) (m_rowWorth : Nat) (m_farBy : Nat) (m_used : Nat) (i_everywhere : Int32) (i_again0 : Int32) (i_d0 : Int32) (i_never : Int32) (i_firstCame : Int32) (i_longRun : Int32) (i_moved : Int32) (i_crowd : Int32) (i_l0 : Int32) (i_fitMany : Int32) (i_fitLeast : Int32) (i_fitMost : Int32) (m_fitPost : Nat) (m_fitEnd : Nat) (m_keptPosts : Nat) (i_x0 : Int32) (f_all : Nat → Int32) (f_posts : Nat → Int32) (f_shut : Nat → Int32) (f_here : Nat → Int32) (hL : zML f_all i_z0 i_crossings) : zMv l T yX12_begins cX12_begins 2 2 0 0 [.ref mo] [[zO11 mo m_all m_has i_size i_next i_where i_token i_number i_word i_wrong i_farCrossing m_read i_z0 i_crossings i_inns m_posts m_shut m_here i_steps i_done i_at i_gone m_was m_came m_seenAt m_rowWorth m_farBy m_used i_everywhere i_again0 i_d0 i_never i_firstCame i_longRun i_moved i_crowd i_l0 i_fitMany i_fitLeast i_fitMost m_fitPost m_fitEnd m_keptPosts i_x0], [zAr T 0 m_all 3952 f_all], [zAr T 0 m_posts 7 f_posts], [zAr T 0 m_shut 7 f_shut], [zAr T 0 m_here 7 f_here]] (fun bs => ∃ (j_steps : Int32) (j_done : Int32) (g_posts : Nat → Int32) (g_shut : Nat → Int32) (g_here : Nat → Int32), bs = [[zO11 mo m_all m_has i_size i_next i_where i_token i_number i_word i_wrong i_farCrossing m_read i_z0 i_crossings i_inns m_posts m_shut m_here j_steps j_done i_at i_gone m_was m_came m_seenAt m_rowWorth m_farBy m_used i_everywhere i_again0 i_d0 i_never i_firstCame i_longRun i_moved i_crowd i_l0 i_fitMany i_fitLeast i_fitMost m_fitPost m_fitEnd m_keptPosts i_x0], [zAr T 0 m_all 3952 f_all], [zAr T 0 m_posts 7 g_posts], [zAr T 0 m_shut 7 g_shut], [zAr T 0 m_here 7 g_here]] ∧ j_steps = 0 ∧ j_done = 0 ∧ (∀ j, j < 7 → g_posts j = zPt f_all i_z0 (nI j)) ∧ (∀ j, j < 7 → g_shut j = 0) ∧ (∀ j, j < 7 → g_here j = zWk f_all i_z0 j) ∧ zMP g_posts) := by
  refine zMv_of (own := RX12) (by decide) rfl (Nat.le_of_ble_eq_true rfl) ?_
  intro p e s m args below meth c A ls C hr hlocks hnm hAe G hl
  refine zHide (fun Q9 hQ9 => ?_)
  have hx := C.1
  have hb := C.2.1
  have hl : lv_has ls 2 [(0, .ref mo)] := hl
  have hz := hL.1
  have hcr := hL.cr
  refine lv_aload_n hx hb dX12_begins_0 rfl (lv_at hl 0 rfl) ?_
  refine lv_iconst (v := 0) hx hb dX12_begins_1 (by decide) ?_
  refine z_put C G clX12 0 rfl 17 (by decide) m_fl_RX12_196 rfl rfl rfl (Nat.le_of_ble_eq_true rfl) dX12_begins_2 (fun H locs G => ?_)
  have G : zS T A s.heap s [[zO11 mo m_all m_has i_size i_next i_where i_token i_number i_word i_wrong i_farCrossing m_read i_z0 i_crossings i_inns m_posts m_shut m_here 0 i_done i_at i_gone m_was m_came m_seenAt m_rowWorth m_farBy m_used i_everywhere i_again0 i_d0 i_never i_firstCame i_longRun i_moved i_crowd i_l0 i_fitMany i_fitLeast i_fitMost m_fitPost m_fitEnd m_keptPosts i_x0], [zAr T 0 m_all 3952 f_all], [zAr T 0 m_posts 7 f_posts], [zAr T 0 m_shut 7 f_shut], [zAr T 0 m_here 7 f_here]] _ _ := G
  refine lv_aload_n hx hb dX12_begins_5 rfl (lv_at hl 0 rfl) ?_
  refine lv_iconst (v := 0) hx hb dX12_begins_6 (by decide) ?_
  refine z_put C G clX12 0 rfl 18 (by decide) m_fl_RX12_199 rfl rfl rfl (Nat.le_of_ble_eq_true rfl) dX12_begins_7 (fun H locs G => ?_)
  have G : zS T A s.heap s [[zO11 mo m_all m_has i_size i_next i_where i_token i_number i_word i_wrong i_farCrossing m_read i_z0 i_crossings i_inns m_posts m_shut m_here 0 0 i_at i_gone m_was m_came m_seenAt m_rowWorth m_farBy m_used i_everywhere i_again0 i_d0 i_never i_firstCame i_longRun i_moved i_crowd i_l0 i_fitMany i_fitLeast i_fitMost m_fitPost m_fitEnd m_keptPosts i_x0], [zAr T 0 m_all 3952 f_all], [zAr T 0 m_posts 7 f_posts], [zAr T 0 m_shut 7 f_shut], [zAr T 0 m_here 7 f_here]] _ _ := G
  refine lv_iconst (v := 0) hx hb dX12_begins_10 (by decide) ?_
  refine lv_istore_n (lv' := [(1, .int 0), (0, .ref mo)]) hx hb dX12_begins_11 rfl hl (by decide) rfl (fun ls hl => ?_)
  refine z_lp4 (T := T) 12 (fun (i : Nat) (xp : Nat → Int32) (xs : Nat → Int32) (xh : Nat → Int32) => [[zO11 mo m_all m_has i_size i_next i_where i_token i_number i_word i_wrong i_farCrossing m_read i_z0 i_crossings i_inns m_posts m_shut m_here 0 0 i_at i_gone m_was m_came m_seenAt m_rowWorth m_farBy m_used i_everywhere i_again0 i_d0 i_never i_firstCame i_longRun i_moved i_crowd i_l0 i_fitMany i_fitLeast i_fitMost m_fitPost m_fitEnd m_keptPosts i_x0], [zAr T 0 m_all 3952 f_all], [zAr T 0 m_posts 7 xp], [zAr T 0 m_shut 7 xs], [zAr T 0 m_here 7 xh]]) (fun (i : Nat) (xp : Nat → Int32) (xs : Nat → Int32) (xh : Nat → Int32) => [(1, .int (nI i)), (0, .ref mo)]) (fun (i : Nat) (xp : Nat → Int32) (xs : Nat → Int32) (xh : Nat → Int32) => i ≤ 7 ∧ (∀ j, j < i → xp j = zPt f_all i_z0 (nI j)) ∧ (∀ j, j < i → xs j = 0) ∧ (∀ j, j < i → xh j = zWk f_all i_z0 j)) (fun (i : Nat) (xp : Nat → Int32) (xs : Nat → Int32) (xh : Nat → Int32) => 7 - i) ?_ 0 f_posts f_shut f_here (show 0 ≤ 7 ∧ (∀ j, j < 0 → f_posts j = zPt f_all i_z0 (nI j)) ∧ (∀ j, j < 0 → f_shut j = 0) ∧ (∀ j, j < 0 → f_here j = zWk f_all i_z0 j) from ⟨by omega, fun j hj => absurd hj (by omega), fun j hj => absurd hj (by omega), fun j hj => absurd hj (by omega)⟩) G (lv_sub hl [0, 1] rfl)
  intro i xp xs xh hI9 ih_12 H locs ls G hl
  replace hI9 : i ≤ 7 ∧ (∀ j, j < i → xp j = zPt f_all i_z0 (nI j)) ∧ (∀ j, j < i → xs j = 0) ∧ (∀ j, j < i → xh j = zWk f_all i_z0 j) := hI9
  refine zAn4 hI9 ?_
  intro hi hQ hT hH
  clear hI9
  replace G : zS T A s.heap s [[zO11 mo m_all m_has i_size i_next i_where i_token i_number i_word i_wrong i_farCrossing m_read i_z0 i_crossings i_inns m_posts m_shut m_here 0 0 i_at i_gone m_was m_came m_seenAt m_rowWorth m_farBy m_used i_everywhere i_again0 i_d0 i_never i_firstCame i_longRun i_moved i_crowd i_l0 i_fitMany i_fitLeast i_fitMost m_fitPost m_fitEnd m_keptPosts i_x0], [zAr T 0 m_all 3952 f_all], [zAr T 0 m_posts 7 xp], [zAr T 0 m_shut 7 xs], [zAr T 0 m_here 7 xh]] _ _ := G
  replace hl : lv_has ls 2 [(1, .int (nI i)), (0, .ref mo)] := hl
  refine lv_iload_n hx hb dX12_begins_12 rfl (lv_at hl 0 rfl) ?_
  refine lv_bipush (v := 7) hx hb dX12_begins_13 (by decide) ?_
  refine lv_icmp_ge (tgt := 62) hx hb dX12_begins_15 (by decide) (fun c_1 => ?_) (fun c_1 => ?_)
  · have c_1n : 7 ≤ i := (nI_leI (a := 7) (b := i) (by omega) (by omega)).mp c_1
    exact z_back hQ9 (z_vret C hr hlocks G (Nat.le_of_ble_eq_true rfl) (Nat.le_of_ble_eq_true rfl) dX12_begins_62 ⟨0, 0, xp, xs, xh, rfl, (by first | with_reducible assumption | omega | trivial | assumption), (by first | with_reducible assumption | omega | trivial | assumption), (fun j hj => hQ j (by omega)), (fun j hj => hT j (by omega)), (fun j hj => hH j (by omega)), (fun c hc => by rw [hQ c (by omega)]; have t9 := nI_toInt (n := c) (by omega); exact zMLp hL (by omega) (by omega))⟩)
  · have c_1n : ¬ 7 ≤ i := fun q => c_1 ((nI_leI (a := 7) (b := i) (by omega) (by omega)).mpr q)
    refine lv_aload_n hx hb dX12_begins_18 rfl (lv_at hl 1 rfl) ?_
    refine z_get C G clX12 0 rfl 14 (by decide) m_fl_RX12_20 rfl dX12_begins_19 ?_
    refine lv_iload_n hx hb dX12_begins_22 rfl (lv_at hl 0 rfl) ?_
    refine lv_aload_n hx hb dX12_begins_23 rfl (lv_at hl 1 rfl) ?_
    refine lv_iload_n hx hb dX12_begins_24 rfl (lv_at hl 0 rfl) ?_
    have ti_2 : (nI i).toInt = ((i : Nat) : Int) := nI_toInt (by omega)
    refine z_Vi (bc := [[zO11 mo m_all m_has i_size i_next i_where i_token i_number i_word i_wrong i_farCrossing m_read i_z0 i_crossings i_inns m_posts m_shut m_here 0 0 i_at i_gone m_was m_came m_seenAt m_rowWorth m_farBy m_used i_everywhere i_again0 i_d0 i_never i_firstCame i_longRun i_moved i_crowd i_l0 i_fitMany i_fitLeast i_fitMost m_fitPost m_fitEnd m_keptPosts i_x0], [zAr T 0 m_all 3952 f_all]]) (br := [[zAr T 0 m_posts 7 xp], [zAr T 0 m_shut 7 xs], [zAr T 0 m_here 7 xh]]) (As := [.int (nI i)]) (rest := [.int (nI i), .ref m_posts]) C G (c_m_postTold l T mo m_all m_has i_size i_next i_where i_token i_number i_word i_wrong i_farCrossing m_read i_z0 i_crossings i_inns m_posts m_shut m_here 0 0 i_at i_gone m_was m_came m_seenAt m_rowWorth m_farBy m_used i_everywhere i_again0 i_d0 i_never i_firstCame i_longRun i_moved i_crowd i_l0 i_fitMany i_fitLeast i_fitMost m_fitPost m_fitEnd m_keptPosts i_x0 f_all (nI i) (by first | with_reducible assumption | with_reducible rfl | omega | assumption | rfl | decide) (by first | with_reducible assumption | with_reducible rfl | omega | assumption | rfl | decide) (by first | with_reducible assumption | with_reducible rfl | omega | assumption | rfl | decide)) (kV_RX12_193 C.2.2.2.2 (Nat.le_of_ble_eq_true rfl) (Nat.le_of_ble_eq_true rfl)) [0, 1] [0, 0] rfl rfl (ci := 11) (qc := (RX12, TX12, 43)) rfl rfl (List.mem_flatten.mpr ⟨_, List.mem_of_getElem? (i := 0) rfl, List.mem_cons_self⟩) rfl rfl hl.1 dX12_begins_25 (Nat.le_of_ble_eq_true rfl) (Nat.le_of_ble_eq_true rfl) (fun r_6 b1 H locs hw G => ?_)
    refine zAn4 hw ?_
    intro hbs9 h_3 h_4 h_5
    clear hw
    subst hbs9
    have G : zS T A s.heap s [[zAr T 0 m_posts 7 xp], [zAr T 0 m_shut 7 xs], [zAr T 0 m_here 7 xh], [zO11 mo m_all m_has i_size i_next i_where i_token i_number i_word i_wrong i_farCrossing m_read i_z0 i_crossings i_inns m_posts m_shut m_here 0 0 i_at i_gone m_was m_came m_seenAt m_rowWorth m_farBy m_used i_everywhere i_again0 i_d0 i_never i_firstCame i_longRun i_moved i_crowd i_l0 i_fitMany i_fitLeast i_fitMost m_fitPost m_fitEnd m_keptPosts i_x0], [zAr T 0 m_all 3952 f_all]] _ _ := G
    subst h_3
    refine z_ist C G 0 rfl (vp_in_nI (by omega) (by omega)) dX12_begins_28 (fun H locs G => ?_)
    rw [nI_clamp (by omega)] at G
    have G : zS T A s.heap s [[zAr T 0 m_posts 7 (upd xp i (zPt f_all i_z0 (nI i)))], [zAr T 0 m_shut 7 xs], [zAr T 0 m_here 7 xh], [zO11 mo m_all m_has i_size i_next i_where i_token i_number i_word i_wrong i_farCrossing m_read i_z0 i_crossings i_inns m_posts m_shut m_here 0 0 i_at i_gone m_was m_came m_seenAt m_rowWorth m_farBy m_used i_everywhere i_again0 i_d0 i_never i_firstCame i_longRun i_moved i_crowd i_l0 i_fitMany i_fitLeast i_fitMost m_fitPost m_fitEnd m_keptPosts i_x0], [zAr T 0 m_all 3952 f_all]] _ _ := G
    refine lv_aload_n hx hb dX12_begins_29 rfl (lv_at hl 1 rfl) ?_
    refine z_get C G clX12 3 rfl 15 (by decide) m_fl_RX12_23 rfl dX12_begins_30 ?_
    refine lv_iload_n hx hb dX12_begins_33 rfl (lv_at hl 0 rfl) ?_
    refine lv_iconst (v := 0) hx hb dX12_begins_34 (by decide) ?_
    refine z_ist C G 1 rfl (vp_in_nI (by omega) (by omega)) dX12_begins_35 (fun H locs G => ?_)
    rw [nI_clamp (by omega)] at G
    have G : zS T A s.heap s [[zAr T 0 m_posts 7 (upd xp i (zPt f_all i_z0 (nI i)))], [zAr T 0 m_shut 7 (upd xs i 0)], [zAr T 0 m_here 7 xh], [zO11 mo m_all m_has i_size i_next i_where i_token i_number i_word i_wrong i_farCrossing m_read i_z0 i_crossings i_inns m_posts m_shut m_here 0 0 i_at i_gone m_was m_came m_seenAt m_rowWorth m_farBy m_used i_everywhere i_again0 i_d0 i_never i_firstCame i_longRun i_moved i_crowd i_l0 i_fitMany i_fitLeast i_fitMost m_fitPost m_fitEnd m_keptPosts i_x0], [zAr T 0 m_all 3952 f_all]] _ _ := G
    refine lv_aload_n hx hb dX12_begins_36 rfl (lv_at hl 1 rfl) ?_
    refine z_get C G clX12 3 rfl 16 (by decide) m_fl_RX12_26 rfl dX12_begins_37 ?_
    refine lv_iload_n hx hb dX12_begins_40 rfl (lv_at hl 0 rfl) ?_
    refine lv_aload_n hx hb dX12_begins_41 rfl (lv_at hl 1 rfl) ?_
    refine z_get C G clX12 3 rfl 0 (by decide) m_fl_RX12_7 rfl dX12_begins_42 ?_
    refine lv_aload_n hx hb dX12_begins_45 rfl (lv_at hl 1 rfl) ?_
    refine z_get C G clX12 3 rfl 11 (by decide) m_fl_RX12_166 rfl dX12_begins_46 ?_
    refine lv_bipush (v := 16) hx hb dX12_begins_49 (by decide) ?_
    refine lv_iadd hx hb dX12_begins_51 ?_
    refine lv_topi (fun y_7 ey_7 => ?_)
    have ey_7i : y_7.toInt = i_z0.toInt + (16 : Int) := by rw [ey_7]; exact z_iaddI (x := i_z0) (y := (16 : Int32)) (by show -2147483648 ≤ i_z0.toInt + (16 : Int); omega) (by show i_z0.toInt + (16 : Int) < 2147483648; omega)
    refine lv_iload_n hx hb dX12_begins_52 rfl (lv_at hl 0 rfl) ?_
    refine lv_iadd hx hb dX12_begins_53 ?_
    refine lv_topi (fun y_8 ey_8 => ?_)
    have ey_8i : y_8.toInt = y_7.toInt + (i : Int) := by rw [ey_8]; exact (z_iaddI (x := y_7) (y := (nI i)) (by rw [nI_toInt (n := i) (by omega)]; show -2147483648 ≤ y_7.toInt + (i : Int); omega) (by rw [nI_toInt (n := i) (by omega)]; show y_7.toInt + (i : Int) < 2147483648; omega)).trans (by rw [nI_toInt (n := i) (by omega)] <;> rfl)
    refine z_ild C G 4 rfl (vp_in_iff.mpr ⟨by omega, by omega⟩) dX12_begins_54 ?_
    refine lv_topi (fun v_9 ev_9 => ?_)
    subst ev_9
    refine z_ist C G 2 rfl (vp_in_nI (by omega) (by omega)) dX12_begins_55 (fun H locs G => ?_)
    rw [nI_clamp (by omega)] at G
    have G : zS T A s.heap s [[zAr T 0 m_posts 7 (upd xp i (zPt f_all i_z0 (nI i)))], [zAr T 0 m_shut 7 (upd xs i 0)], [zAr T 0 m_here 7 (upd xh i (f_all y_8.toNatClampNeg))], [zO11 mo m_all m_has i_size i_next i_where i_token i_number i_word i_wrong i_farCrossing m_read i_z0 i_crossings i_inns m_posts m_shut m_here 0 0 i_at i_gone m_was m_came m_seenAt m_rowWorth m_farBy m_used i_everywhere i_again0 i_d0 i_never i_firstCame i_longRun i_moved i_crowd i_l0 i_fitMany i_fitLeast i_fitMost m_fitPost m_fitEnd m_keptPosts i_x0], [zAr T 0 m_all 3952 f_all]] _ _ := G
    refine lv_iinc (v := nI (i + 1)) (lv' := [(1, .int (nI (i + 1))), (0, .ref mo)]) hx hb dX12_begins_56 hl (k := 0) rfl (z_inc i 1) (by decide) rfl (fun ls hl => ?_)
    refine lv_goto (tgt := 12) hx hb dX12_begins_59 (by decide) ?_
    have G := G.sub (bs' := [[zO11 mo m_all m_has i_size i_next i_where i_token i_number i_word i_wrong i_farCrossing m_read i_z0 i_crossings i_inns m_posts m_shut m_here 0 0 i_at i_gone m_was m_came m_seenAt m_rowWorth m_farBy m_used i_everywhere i_again0 i_d0 i_never i_firstCame i_longRun i_moved i_crowd i_l0 i_fitMany i_fitLeast i_fitMost m_fitPost m_fitEnd m_keptPosts i_x0], [zAr T 0 m_all 3952 f_all], [zAr T 0 m_posts 7 (upd xp i (zPt f_all i_z0 (nI i)))], [zAr T 0 m_shut 7 (upd xs i 0)], [zAr T 0 m_here 7 (upd xh i (f_all y_8.toNatClampNeg))]]) [3, 4, 0, 1, 2] rfl
    exact ih_12 (i + 1) (upd xp i (zPt f_all i_z0 (nI i))) (upd xs i 0) (upd xh i (f_all y_8.toNatClampNeg)) (show (i + 1) ≤ 7 ∧ (∀ j, j < (i + 1) → (upd xp i (zPt f_all i_z0 (nI i))) j = zPt f_all i_z0 (nI j)) ∧ (∀ j, j < (i + 1) → (upd xs i 0) j = 0) ∧ (∀ j, j < (i + 1) → (upd xh i (f_all y_8.toNatClampNeg)) j = zWk f_all i_z0 j) from ⟨by omega, z_upS0 hQ rfl, z_upS0 (f := fun _ => 0) hT rfl, z_upS0 hH (congrArg f_all (by show y_8.toInt.toNat = _; omega))⟩) (show 7 - (i + 1) < 7 - i from by omega) _ _ ls G (lv_sub hl [0, 1] rfl)
theorem zBI_ld {f : Nat → Int32} (h : zBI f) (k : Nat) (hk : k < 2) : zML f (nI (610 + 51 * k)) (f (610 + 51 * k)) := by
  have e : (nI (610 + 51 * k)).toInt = ((610 + 51 * k : Nat) : Int) := nI_toInt (by omega)
  have e2 : (nI (610 + 51 * k)).toInt.toNat = 610 + 51 * k := by omega
  refine ⟨by omega, by rw [e2], ?_⟩
  rw [e2]
  exact h.2.2.1 k hk
set_option maxHeartbeats 4000000 in
set_option maxRecDepth 100000 in
/-- c_m_isLand -/
theorem c_m_isLand (l : Launch) (T : zTy) (mo : Nat) (m_all : Nat) (m_has : Nat) (i_size : Int32) (i_next : Int32) (i_where : Int32) (i_token : Int32) (i_number : Int32) (i_word : Int32) (i_wrong : Int32) (i_farCrossing : Int32) (m_read : Nat) (i_z0 : Int32) (i_crossings : Int32) (i_inns : Int32) (m_posts : Nat) (m_shut : Nat) (m_here : Nat) (i_steps : Int32) (i_done : Int32) (i_at : Int32) (i_gone : Int32) (m_was : Nat) (m_came : Nat) (m_seenAt : Nat) (m_rowWorth : Nat) (m_farBy : Nat) (m_used : Nat) (i_everywhere : Int32) (i_again0 : Int32) (i_d0 : Int32) (i_never : Int32) (i_firstCame : Int32) (i_longRun : Int32) (i_moved : Int32) (i_crowd : Int32) (i_l0 : Int32) (i_fitMany : Int32) (i_fitLeast : Int32) (i_fitMost : Int32) (m_fitPost : Nat) (m_fitEnd : Nat) (m_keptPosts : Nat) (i_x0 : Int32) (f_all : Nat → Int32) (f_posts : Nat → Int32) (f_shut : Nat → Int32) (f_here : Nat → Int32) (ld_ : Int32) (hB : zBI f_all) : zMi l T yX12_isLand cX12_isLand 2 (some .boolean) 3 0 0 [.ref mo, .int ld_] [[zO11 mo m_all m_has i_size i_next i_where i_token i_number i_word i_wrong i_farCrossing m_read i_z0 i_crossings i_inns m_posts m_shut m_here i_steps i_done i_at i_gone m_was m_came m_seenAt m_rowWorth m_farBy m_used i_everywhere i_again0 i_d0 i_never i_firstCame i_longRun i_moved i_crowd i_l0 i_fitMany i_fitLeast i_fitMost m_fitPost m_fitEnd m_keptPosts i_x0], [zAr T 0 m_all 3952 f_all], [zAr T 0 m_posts 7 f_posts], [zAr T 0 m_shut 7 f_shut], [zAr T 0 m_here 7 f_here]] (fun (r : Int32) bs => ∃ (j_z0 : Int32) (j_crossings : Int32) (j_inns : Int32) (j_steps : Int32) (j_done : Int32) (g_posts : Nat → Int32) (g_shut : Nat → Int32) (g_here : Nat → Int32), bs = [[zO11 mo m_all m_has i_size i_next i_where i_token i_number i_word i_wrong i_farCrossing m_read j_z0 j_crossings j_inns m_posts m_shut m_here j_steps j_done i_at i_gone m_was m_came m_seenAt m_rowWorth m_farBy m_used i_everywhere i_again0 i_d0 i_never i_firstCame i_longRun i_moved i_crowd i_l0 i_fitMany i_fitLeast i_fitMost m_fitPost m_fitEnd m_keptPosts i_x0], [zAr T 0 m_all 3952 f_all], [zAr T 0 m_posts 7 g_posts], [zAr T 0 m_shut 7 g_shut], [zAr T 0 m_here 7 g_here]] ∧ ((r = 1 ∧ 0 ≤ ld_.toInt ∧ ld_.toInt ≤ 1 ∧ ld_.toInt < (f_all 0).toInt ∧ j_z0.toInt = 610 + 51 * ld_.toInt ∧ zML f_all j_z0 j_crossings ∧ zMP g_posts ∧ j_inns = f_all (j_z0.toInt.toNat + 1) ∧ j_steps = 0 ∧ j_done = 0 ∧ (∀ j, j < 7 → g_posts j = zPt f_all j_z0 (nI j)) ∧ (∀ j, j < 7 → g_shut j = 0) ∧ (∀ j, j < 7 → g_here j = zWk f_all j_z0 j)) ∨ (r = 0 ∧ (ld_.toInt < 0 ∨ (f_all 0).toInt ≤ ld_.toInt)))) := by
  refine zMi_of (own := RX12) (by decide) rfl (Nat.le_of_ble_eq_true rfl) ?_
  intro p e s m args below meth c A ls C hr hlocks hnm hAe G hl
  refine zHide (fun Q9 hQ9 => ?_)
  have hx := C.1
  have hb := C.2.1
  have hl : lv_has ls 2 [(0, .ref mo), (1, .int ld_)] := hl
  have hB0 := hB.2.1 0 (by decide)
  refine lv_aload_n hx hb dX12_isLand_0 rfl (lv_at hl 0 rfl) ?_
  refine lv_iconst (v := 0) hx hb dX12_isLand_1 (by decide) ?_
  refine lv_iload_n hx hb dX12_isLand_2 rfl (lv_at hl 1 rfl) ?_
  refine z_Vi (bc := [[zO11 mo m_all m_has i_size i_next i_where i_token i_number i_word i_wrong i_farCrossing m_read i_z0 i_crossings i_inns m_posts m_shut m_here i_steps i_done i_at i_gone m_was m_came m_seenAt m_rowWorth m_farBy m_used i_everywhere i_again0 i_d0 i_never i_firstCame i_longRun i_moved i_crowd i_l0 i_fitMany i_fitLeast i_fitMost m_fitPost m_fitEnd m_keptPosts i_x0], [zAr T 0 m_all 3952 f_all]]) (br := [[zAr T 0 m_posts 7 f_posts], [zAr T 0 m_shut 7 f_shut], [zAr T 0 m_here 7 f_here]]) (As := [.int 0, .int ld_]) (rest := []) C G (c_m_isOf0 l T mo m_all m_has i_size i_next i_where i_token i_number i_word i_wrong i_farCrossing m_read i_z0 i_crossings i_inns m_posts m_shut m_here i_steps i_done i_at i_gone m_was m_came m_seenAt m_rowWorth m_farBy m_used i_everywhere i_again0 i_d0 i_never i_firstCame i_longRun i_moved i_crowd i_l0 i_fitMany i_fitLeast i_fitMost m_fitPost m_fitEnd m_keptPosts i_x0 f_all ld_ hB0) (kV_RX12_143 C.2.2.2.2 (Nat.le_of_ble_eq_true rfl) (Nat.le_of_ble_eq_true rfl)) [0, 1] [0, 0] rfl rfl (ci := 11) (qc := (RX12, TX12, 43)) rfl rfl (List.mem_flatten.mpr ⟨_, List.mem_of_getElem? (i := 0) rfl, List.mem_cons_self⟩) rfl rfl hl.1 dX12_isLand_3 (Nat.le_of_ble_eq_true rfl) (Nat.le_of_ble_eq_true rfl) (fun r_2 b1 H locs hw G => ?_)
  refine zAn2 hw ?_
  intro hbs9 hc_1
  clear hw
  subst hbs9
  have G : zS T A s.heap s [[zAr T 0 m_posts 7 f_posts], [zAr T 0 m_shut 7 f_shut], [zAr T 0 m_here 7 f_here], [zO11 mo m_all m_has i_size i_next i_where i_token i_number i_word i_wrong i_farCrossing m_read i_z0 i_crossings i_inns m_posts m_shut m_here i_steps i_done i_at i_gone m_was m_came m_seenAt m_rowWorth m_farBy m_used i_everywhere i_again0 i_d0 i_never i_firstCame i_longRun i_moved i_crowd i_l0 i_fitMany i_fitLeast i_fitMost m_fitPost m_fitEnd m_keptPosts i_x0], [zAr T 0 m_all 3952 f_all]] _ _ := G
  rcases hc_1 with ⟨rfl, h_3, h_4⟩ | ⟨rfl, h_5⟩
  · have h_3 : 0 ≤ ld_.toInt := h_3
    have h_4 : ld_.toInt < (f_all 0).toInt := h_4
    refine lv_if_ne (tgt := 11) hx hb dX12_isLand_6 (by decide) (fun _ => ?_) (fun q => absurd q (by decide))
    rcases (show ld_.toInt = 0 ∨ ld_.toInt = 1 from by omega) with hk | hk
    · obtain rfl : ld_ = 0 := Int32.toInt_inj.mp hk
      have hLk : zML f_all 610 (f_all 610) := zBI_ld hB 0 (by decide)
      refine lv_aload_n hx hb dX12_isLand_11 rfl (lv_at hl 0 rfl) ?_
      refine lv_iconst (v := 0) hx hb dX12_isLand_12 (by decide) ?_
      refine lv_iload_n hx hb dX12_isLand_13 rfl (lv_at hl 1 rfl) ?_
      refine z_Si (bc := []) (br := [[zAr T 0 m_posts 7 f_posts], [zAr T 0 m_shut 7 f_shut], [zAr T 0 m_here 7 f_here], [zO11 mo m_all m_has i_size i_next i_where i_token i_number i_word i_wrong i_farCrossing m_read i_z0 i_crossings i_inns m_posts m_shut m_here i_steps i_done i_at i_gone m_was m_came m_seenAt m_rowWorth m_farBy m_used i_everywhere i_again0 i_d0 i_never i_firstCame i_longRun i_moved i_crowd i_l0 i_fitMany i_fitLeast i_fitMost m_fitPost m_fitEnd m_keptPosts i_x0], [zAr T 0 m_all 3952 f_all]]) (As := [.int 0, .int 0]) (rest := [.ref mo]) C G (c_m_placeOf00 l T) (kS_RX12_163 C.2.2.2.2 (Nat.le_of_ble_eq_true rfl) (Nat.le_of_ble_eq_true rfl)) [] [] rfl rfl rfl rfl hl.1 dX12_isLand_14 (Nat.le_of_ble_eq_true rfl) (Nat.le_of_ble_eq_true rfl) (fun r_7 b1 H locs hw G => ?_)
      refine zAn2 hw ?_
      intro hbs9 h_6
      clear hw
      subst hbs9
      have G : zS T A s.heap s [[zAr T 0 m_posts 7 f_posts], [zAr T 0 m_shut 7 f_shut], [zAr T 0 m_here 7 f_here], [zO11 mo m_all m_has i_size i_next i_where i_token i_number i_word i_wrong i_farCrossing m_read i_z0 i_crossings i_inns m_posts m_shut m_here i_steps i_done i_at i_gone m_was m_came m_seenAt m_rowWorth m_farBy m_used i_everywhere i_again0 i_d0 i_never i_firstCame i_longRun i_moved i_crowd i_l0 i_fitMany i_fitLeast i_fitMost m_fitPost m_fitEnd m_keptPosts i_x0], [zAr T 0 m_all 3952 f_all]] _ _ := G
      subst h_6
      refine z_put C G clX12 3 rfl 11 (by decide) m_fl_RX12_166 rfl rfl rfl (Nat.le_of_ble_eq_true rfl) dX12_isLand_17 (fun H locs G => ?_)
      have G : zS T A s.heap s [[zAr T 0 m_posts 7 f_posts], [zAr T 0 m_shut 7 f_shut], [zAr T 0 m_here 7 f_here], [zO11 mo m_all m_has i_size i_next i_where i_token i_number i_word i_wrong i_farCrossing m_read 610 i_crossings i_inns m_posts m_shut m_here i_steps i_done i_at i_gone m_was m_came m_seenAt m_rowWorth m_farBy m_used i_everywhere i_again0 i_d0 i_never i_firstCame i_longRun i_moved i_crowd i_l0 i_fitMany i_fitLeast i_fitMost m_fitPost m_fitEnd m_keptPosts i_x0], [zAr T 0 m_all 3952 f_all]] _ _ := G
      refine lv_aload_n hx hb dX12_isLand_20 rfl (lv_at hl 0 rfl) ?_
      refine lv_aload_n hx hb dX12_isLand_21 rfl (lv_at hl 0 rfl) ?_
      refine z_get C G clX12 3 rfl 0 (by decide) m_fl_RX12_7 rfl dX12_isLand_22 ?_
      refine lv_aload_n hx hb dX12_isLand_25 rfl (lv_at hl 0 rfl) ?_
      refine z_get C G clX12 3 rfl 11 (by decide) m_fl_RX12_166 rfl dX12_isLand_26 ?_
      refine z_ild C G 4 rfl (vp_in_nI (n := 610) (by decide) (by decide)) dX12_isLand_29 ?_
      refine lv_topi (fun v_8 ev_8 => ?_)
      rw [show ((610 : Int32).toNatClampNeg) = 610 from rfl] at ev_8
      subst ev_8
      refine z_put C G clX12 3 rfl 12 (by decide) m_fl_RX12_169 rfl rfl rfl (Nat.le_of_ble_eq_true rfl) dX12_isLand_30 (fun H locs G => ?_)
      have G : zS T A s.heap s [[zAr T 0 m_posts 7 f_posts], [zAr T 0 m_shut 7 f_shut], [zAr T 0 m_here 7 f_here], [zO11 mo m_all m_has i_size i_next i_where i_token i_number i_word i_wrong i_farCrossing m_read 610 (f_all 610) i_inns m_posts m_shut m_here i_steps i_done i_at i_gone m_was m_came m_seenAt m_rowWorth m_farBy m_used i_everywhere i_again0 i_d0 i_never i_firstCame i_longRun i_moved i_crowd i_l0 i_fitMany i_fitLeast i_fitMost m_fitPost m_fitEnd m_keptPosts i_x0], [zAr T 0 m_all 3952 f_all]] _ _ := G
      refine lv_aload_n hx hb dX12_isLand_33 rfl (lv_at hl 0 rfl) ?_
      refine lv_aload_n hx hb dX12_isLand_34 rfl (lv_at hl 0 rfl) ?_
      refine z_get C G clX12 3 rfl 0 (by decide) m_fl_RX12_7 rfl dX12_isLand_35 ?_
      refine lv_aload_n hx hb dX12_isLand_38 rfl (lv_at hl 0 rfl) ?_
      refine z_get C G clX12 3 rfl 11 (by decide) m_fl_RX12_166 rfl dX12_isLand_39 ?_
      refine lv_iconst (v := 1) hx hb dX12_isLand_42 (by decide) ?_
      refine lv_iadd hx hb dX12_isLand_43 ?_
      refine lv_topi (fun y_9 ey_9 => ?_)
      obtain rfl : y_9 = 611 := ey_9.trans (by decide)
      refine z_ild C G 4 rfl (vp_in_nI (n := 611) (by decide) (by decide)) dX12_isLand_44 ?_
      refine lv_topi (fun v_10 ev_10 => ?_)
      rw [show ((611 : Int32).toNatClampNeg) = 611 from rfl] at ev_10
      subst ev_10
      refine z_put C G clX12 3 rfl 13 (by decide) m_fl_RX12_172 rfl rfl rfl (Nat.le_of_ble_eq_true rfl) dX12_isLand_45 (fun H locs G => ?_)
      have G : zS T A s.heap s [[zAr T 0 m_posts 7 f_posts], [zAr T 0 m_shut 7 f_shut], [zAr T 0 m_here 7 f_here], [zO11 mo m_all m_has i_size i_next i_where i_token i_number i_word i_wrong i_farCrossing m_read 610 (f_all 610) (f_all 611) m_posts m_shut m_here i_steps i_done i_at i_gone m_was m_came m_seenAt m_rowWorth m_farBy m_used i_everywhere i_again0 i_d0 i_never i_firstCame i_longRun i_moved i_crowd i_l0 i_fitMany i_fitLeast i_fitMost m_fitPost m_fitEnd m_keptPosts i_x0], [zAr T 0 m_all 3952 f_all]] _ _ := G
      refine lv_aload_n hx hb dX12_isLand_48 rfl (lv_at hl 0 rfl) ?_
      refine z_Vv (bc := [[zO11 mo m_all m_has i_size i_next i_where i_token i_number i_word i_wrong i_farCrossing m_read 610 (f_all 610) (f_all 611) m_posts m_shut m_here i_steps i_done i_at i_gone m_was m_came m_seenAt m_rowWorth m_farBy m_used i_everywhere i_again0 i_d0 i_never i_firstCame i_longRun i_moved i_crowd i_l0 i_fitMany i_fitLeast i_fitMost m_fitPost m_fitEnd m_keptPosts i_x0], [zAr T 0 m_all 3952 f_all], [zAr T 0 m_posts 7 f_posts], [zAr T 0 m_shut 7 f_shut], [zAr T 0 m_here 7 f_here]]) (br := []) (As := []) (rest := []) C G (c_m_begins l T mo m_all m_has i_size i_next i_where i_token i_number i_word i_wrong i_farCrossing m_read 610 (f_all 610) (f_all 611) m_posts m_shut m_here i_steps i_done i_at i_gone m_was m_came m_seenAt m_rowWorth m_farBy m_used i_everywhere i_again0 i_d0 i_never i_firstCame i_longRun i_moved i_crowd i_l0 i_fitMany i_fitLeast i_fitMost m_fitPost m_fitEnd m_keptPosts i_x0 f_all f_posts f_shut f_here hLk) (kV_RX12_175 C.2.2.2.2 (Nat.le_of_ble_eq_true rfl) (Nat.le_of_ble_eq_true rfl)) [3, 4, 0, 1, 2] [0, 0, 0, 0, 0] rfl rfl (ci := 11) (qc := (RX12, TX12, 43)) rfl rfl (List.mem_flatten.mpr ⟨_, List.mem_of_getElem? (i := 0) rfl, List.mem_cons_self⟩) rfl rfl hl.1 dX12_isLand_49 (Nat.le_of_ble_eq_true rfl) (Nat.le_of_ble_eq_true rfl) (fun b1 H locs hw G => ?_)
      refine zEx5 hw ?_
      intro j_steps_11 j_done_12 g_posts_13 g_shut_14 g_here_15
      refine zCu7 ?_
      intro hbs9 h_16 h_17 h_18 h_19 h_20 h_21
      clear hw
      subst hbs9
      have G : zS T A s.heap s [[zO11 mo m_all m_has i_size i_next i_where i_token i_number i_word i_wrong i_farCrossing m_read 610 (f_all 610) (f_all 611) m_posts m_shut m_here j_steps_11 j_done_12 i_at i_gone m_was m_came m_seenAt m_rowWorth m_farBy m_used i_everywhere i_again0 i_d0 i_never i_firstCame i_longRun i_moved i_crowd i_l0 i_fitMany i_fitLeast i_fitMost m_fitPost m_fitEnd m_keptPosts i_x0], [zAr T 0 m_all 3952 f_all], [zAr T 0 m_posts 7 g_posts_13], [zAr T 0 m_shut 7 g_shut_14], [zAr T 0 m_here 7 g_here_15]] _ _ := G
      refine lv_iconst (v := 1) hx hb dX12_isLand_52 (by decide) ?_
      exact z_back hQ9 (z_zret C hr hlocks G (Nat.le_of_ble_eq_true rfl) (Nat.le_of_ble_eq_true rfl) dX12_isLand_53 rfl ⟨610, (f_all 610), (f_all 611), j_steps_11, j_done_12, g_posts_13, g_shut_14, g_here_15, rfl, (Or.inl (⟨rfl, (by decide), (by decide), (by first | with_reducible assumption | omega | assumption), (by decide), hLk, (by assumption), rfl, (by first | rfl | assumption), (by first | rfl | assumption), (by assumption), (by assumption), (by assumption)⟩))⟩)
    · obtain rfl : ld_ = 1 := Int32.toInt_inj.mp hk
      have hLk : zML f_all 661 (f_all 661) := zBI_ld hB 1 (by decide)
      refine lv_aload_n hx hb dX12_isLand_11 rfl (lv_at hl 0 rfl) ?_
      refine lv_iconst (v := 0) hx hb dX12_isLand_12 (by decide) ?_
      refine lv_iload_n hx hb dX12_isLand_13 rfl (lv_at hl 1 rfl) ?_
      refine z_Si (bc := []) (br := [[zAr T 0 m_posts 7 f_posts], [zAr T 0 m_shut 7 f_shut], [zAr T 0 m_here 7 f_here], [zO11 mo m_all m_has i_size i_next i_where i_token i_number i_word i_wrong i_farCrossing m_read i_z0 i_crossings i_inns m_posts m_shut m_here i_steps i_done i_at i_gone m_was m_came m_seenAt m_rowWorth m_farBy m_used i_everywhere i_again0 i_d0 i_never i_firstCame i_longRun i_moved i_crowd i_l0 i_fitMany i_fitLeast i_fitMost m_fitPost m_fitEnd m_keptPosts i_x0], [zAr T 0 m_all 3952 f_all]]) (As := [.int 0, .int 1]) (rest := [.ref mo]) C G (c_m_placeOf01 l T) (kS_RX12_163 C.2.2.2.2 (Nat.le_of_ble_eq_true rfl) (Nat.le_of_ble_eq_true rfl)) [] [] rfl rfl rfl rfl hl.1 dX12_isLand_14 (Nat.le_of_ble_eq_true rfl) (Nat.le_of_ble_eq_true rfl) (fun r_24 b1 H locs hw G => ?_)
      refine zAn2 hw ?_
      intro hbs9 h_23
      clear hw
      subst hbs9
      have G : zS T A s.heap s [[zAr T 0 m_posts 7 f_posts], [zAr T 0 m_shut 7 f_shut], [zAr T 0 m_here 7 f_here], [zO11 mo m_all m_has i_size i_next i_where i_token i_number i_word i_wrong i_farCrossing m_read i_z0 i_crossings i_inns m_posts m_shut m_here i_steps i_done i_at i_gone m_was m_came m_seenAt m_rowWorth m_farBy m_used i_everywhere i_again0 i_d0 i_never i_firstCame i_longRun i_moved i_crowd i_l0 i_fitMany i_fitLeast i_fitMost m_fitPost m_fitEnd m_keptPosts i_x0], [zAr T 0 m_all 3952 f_all]] _ _ := G
      subst h_23
      refine z_put C G clX12 3 rfl 11 (by decide) m_fl_RX12_166 rfl rfl rfl (Nat.le_of_ble_eq_true rfl) dX12_isLand_17 (fun H locs G => ?_)
      have G : zS T A s.heap s [[zAr T 0 m_posts 7 f_posts], [zAr T 0 m_shut 7 f_shut], [zAr T 0 m_here 7 f_here], [zO11 mo m_all m_has i_size i_next i_where i_token i_number i_word i_wrong i_farCrossing m_read 661 i_crossings i_inns m_posts m_shut m_here i_steps i_done i_at i_gone m_was m_came m_seenAt m_rowWorth m_farBy m_used i_everywhere i_again0 i_d0 i_never i_firstCame i_longRun i_moved i_crowd i_l0 i_fitMany i_fitLeast i_fitMost m_fitPost m_fitEnd m_keptPosts i_x0], [zAr T 0 m_all 3952 f_all]] _ _ := G
      refine lv_aload_n hx hb dX12_isLand_20 rfl (lv_at hl 0 rfl) ?_
      refine lv_aload_n hx hb dX12_isLand_21 rfl (lv_at hl 0 rfl) ?_
      refine z_get C G clX12 3 rfl 0 (by decide) m_fl_RX12_7 rfl dX12_isLand_22 ?_
      refine lv_aload_n hx hb dX12_isLand_25 rfl (lv_at hl 0 rfl) ?_
      refine z_get C G clX12 3 rfl 11 (by decide) m_fl_RX12_166 rfl dX12_isLand_26 ?_
      refine z_ild C G 4 rfl (vp_in_nI (n := 661) (by decide) (by decide)) dX12_isLand_29 ?_
      refine lv_topi (fun v_25 ev_25 => ?_)
      rw [show ((661 : Int32).toNatClampNeg) = 661 from rfl] at ev_25
      subst ev_25
      refine z_put C G clX12 3 rfl 12 (by decide) m_fl_RX12_169 rfl rfl rfl (Nat.le_of_ble_eq_true rfl) dX12_isLand_30 (fun H locs G => ?_)
      have G : zS T A s.heap s [[zAr T 0 m_posts 7 f_posts], [zAr T 0 m_shut 7 f_shut], [zAr T 0 m_here 7 f_here], [zO11 mo m_all m_has i_size i_next i_where i_token i_number i_word i_wrong i_farCrossing m_read 661 (f_all 661) i_inns m_posts m_shut m_here i_steps i_done i_at i_gone m_was m_came m_seenAt m_rowWorth m_farBy m_used i_everywhere i_again0 i_d0 i_never i_firstCame i_longRun i_moved i_crowd i_l0 i_fitMany i_fitLeast i_fitMost m_fitPost m_fitEnd m_keptPosts i_x0], [zAr T 0 m_all 3952 f_all]] _ _ := G
      refine lv_aload_n hx hb dX12_isLand_33 rfl (lv_at hl 0 rfl) ?_
      refine lv_aload_n hx hb dX12_isLand_34 rfl (lv_at hl 0 rfl) ?_
      refine z_get C G clX12 3 rfl 0 (by decide) m_fl_RX12_7 rfl dX12_isLand_35 ?_
      refine lv_aload_n hx hb dX12_isLand_38 rfl (lv_at hl 0 rfl) ?_
      refine z_get C G clX12 3 rfl 11 (by decide) m_fl_RX12_166 rfl dX12_isLand_39 ?_
      refine lv_iconst (v := 1) hx hb dX12_isLand_42 (by decide) ?_
      refine lv_iadd hx hb dX12_isLand_43 ?_
      refine lv_topi (fun y_26 ey_26 => ?_)
      obtain rfl : y_26 = 662 := ey_26.trans (by decide)
      refine z_ild C G 4 rfl (vp_in_nI (n := 662) (by decide) (by decide)) dX12_isLand_44 ?_
      refine lv_topi (fun v_27 ev_27 => ?_)
      rw [show ((662 : Int32).toNatClampNeg) = 662 from rfl] at ev_27
      subst ev_27
      refine z_put C G clX12 3 rfl 13 (by decide) m_fl_RX12_172 rfl rfl rfl (Nat.le_of_ble_eq_true rfl) dX12_isLand_45 (fun H locs G => ?_)
      have G : zS T A s.heap s [[zAr T 0 m_posts 7 f_posts], [zAr T 0 m_shut 7 f_shut], [zAr T 0 m_here 7 f_here], [zO11 mo m_all m_has i_size i_next i_where i_token i_number i_word i_wrong i_farCrossing m_read 661 (f_all 661) (f_all 662) m_posts m_shut m_here i_steps i_done i_at i_gone m_was m_came m_seenAt m_rowWorth m_farBy m_used i_everywhere i_again0 i_d0 i_never i_firstCame i_longRun i_moved i_crowd i_l0 i_fitMany i_fitLeast i_fitMost m_fitPost m_fitEnd m_keptPosts i_x0], [zAr T 0 m_all 3952 f_all]] _ _ := G
      refine lv_aload_n hx hb dX12_isLand_48 rfl (lv_at hl 0 rfl) ?_
      refine z_Vv (bc := [[zO11 mo m_all m_has i_size i_next i_where i_token i_number i_word i_wrong i_farCrossing m_read 661 (f_all 661) (f_all 662) m_posts m_shut m_here i_steps i_done i_at i_gone m_was m_came m_seenAt m_rowWorth m_farBy m_used i_everywhere i_again0 i_d0 i_never i_firstCame i_longRun i_moved i_crowd i_l0 i_fitMany i_fitLeast i_fitMost m_fitPost m_fitEnd m_keptPosts i_x0], [zAr T 0 m_all 3952 f_all], [zAr T 0 m_posts 7 f_posts], [zAr T 0 m_shut 7 f_shut], [zAr T 0 m_here 7 f_here]]) (br := []) (As := []) (rest := []) C G (c_m_begins l T mo m_all m_has i_size i_next i_where i_token i_number i_word i_wrong i_farCrossing m_read 661 (f_all 661) (f_all 662) m_posts m_shut m_here i_steps i_done i_at i_gone m_was m_came m_seenAt m_rowWorth m_farBy m_used i_everywhere i_again0 i_d0 i_never i_firstCame i_longRun i_moved i_crowd i_l0 i_fitMany i_fitLeast i_fitMost m_fitPost m_fitEnd m_keptPosts i_x0 f_all f_posts f_shut f_here hLk) (kV_RX12_175 C.2.2.2.2 (Nat.le_of_ble_eq_true rfl) (Nat.le_of_ble_eq_true rfl)) [3, 4, 0, 1, 2] [0, 0, 0, 0, 0] rfl rfl (ci := 11) (qc := (RX12, TX12, 43)) rfl rfl (List.mem_flatten.mpr ⟨_, List.mem_of_getElem? (i := 0) rfl, List.mem_cons_self⟩) rfl rfl hl.1 dX12_isLand_49 (Nat.le_of_ble_eq_true rfl) (Nat.le_of_ble_eq_true rfl) (fun b1 H locs hw G => ?_)
      refine zEx5 hw ?_
      intro j_steps_28 j_done_29 g_posts_30 g_shut_31 g_here_32
      refine zCu7 ?_
      intro hbs9 h_33 h_34 h_35 h_36 h_37 h_38
      clear hw
      subst hbs9
      have G : zS T A s.heap s [[zO11 mo m_all m_has i_size i_next i_where i_token i_number i_word i_wrong i_farCrossing m_read 661 (f_all 661) (f_all 662) m_posts m_shut m_here j_steps_28 j_done_29 i_at i_gone m_was m_came m_seenAt m_rowWorth m_farBy m_used i_everywhere i_again0 i_d0 i_never i_firstCame i_longRun i_moved i_crowd i_l0 i_fitMany i_fitLeast i_fitMost m_fitPost m_fitEnd m_keptPosts i_x0], [zAr T 0 m_all 3952 f_all], [zAr T 0 m_posts 7 g_posts_30], [zAr T 0 m_shut 7 g_shut_31], [zAr T 0 m_here 7 g_here_32]] _ _ := G
      refine lv_iconst (v := 1) hx hb dX12_isLand_52 (by decide) ?_
      exact z_back hQ9 (z_zret C hr hlocks G (Nat.le_of_ble_eq_true rfl) (Nat.le_of_ble_eq_true rfl) dX12_isLand_53 rfl ⟨661, (f_all 661), (f_all 662), j_steps_28, j_done_29, g_posts_30, g_shut_31, g_here_32, rfl, (Or.inl (⟨rfl, (by decide), (by decide), (by first | with_reducible assumption | omega | assumption), (by decide), hLk, (by assumption), rfl, (by first | rfl | assumption), (by first | rfl | assumption), (by assumption), (by assumption), (by assumption)⟩))⟩)
  · have h_5 : (ld_.toInt < 0 ∨ (f_all 0).toInt ≤ ld_.toInt) := h_5
    refine lv_if_ne (tgt := 11) hx hb dX12_isLand_6 (by decide) (fun q => absurd (by decide) q) (fun _ => ?_)
    refine lv_iconst (v := 0) hx hb dX12_isLand_9 (by decide) ?_
    have G := G.sub (bs' := [[zO11 mo m_all m_has i_size i_next i_where i_token i_number i_word i_wrong i_farCrossing m_read i_z0 i_crossings i_inns m_posts m_shut m_here i_steps i_done i_at i_gone m_was m_came m_seenAt m_rowWorth m_farBy m_used i_everywhere i_again0 i_d0 i_never i_firstCame i_longRun i_moved i_crowd i_l0 i_fitMany i_fitLeast i_fitMost m_fitPost m_fitEnd m_keptPosts i_x0], [zAr T 0 m_all 3952 f_all], [zAr T 0 m_posts 7 f_posts], [zAr T 0 m_shut 7 f_shut], [zAr T 0 m_here 7 f_here]]) [3, 4, 0, 1, 2] rfl
    exact z_back hQ9 (z_zret C hr hlocks G (Nat.le_of_ble_eq_true rfl) (Nat.le_of_ble_eq_true rfl) dX12_isLand_10 rfl ⟨i_z0, i_crossings, i_inns, i_steps, i_done, f_posts, f_shut, f_here, rfl, (Or.inr (⟨rfl, (by first | with_reducible assumption | omega | assumption)⟩))⟩)
set_option maxHeartbeats 4000000 in
set_option maxRecDepth 100000 in
/-- c_m_turns -/
theorem c_m_turns (l : Launch) (T : zTy) (mo : Nat) (m_all : Nat) (m_has : Nat) (i_size : Int32) (i_next : Int32) (i_where : Int32) (i_token : Int32) (i_number : Int32) (i_word : Int32) (i_wrong : Int32) (i_farCrossing : Int32) (m_read : Nat) (i_z0 : Int32) (i_crossings : Int32) (i_inns : Int32) (m_posts : Nat) (m_shut : Nat) (m_here : Nat) (i_steps : Int32) (i_done : Int32) (i_at : Int32) (i_gone : Int32) (m_was : Nat) (m_came : Nat) (m_seenAt : Nat) (m_rowWorth : Nat) (m_farBy : Nat) (m_used : Nat) (i_everywhere : Int32) (i_again0 : Int32) (i_d0 : Int32) (i_never : Int32) (i_firstCame : Int32) (i_longRun : Int32) (i_moved : Int32) (i_crowd : Int32) (i_l0 : Int32) (i_fitMany : Int32) (i_fitLeast : Int32) (i_fitMost : Int32) (m_fitPost : Nat) (m_fitEnd : Nat) (m_keptPosts : Nat) (i_x0 : Int32) (f_all : Nat → Int32) (f_posts : Nat → Int32) (f_shut : Nat → Int32) (c_ : Int32) (hL : zML f_all i_z0 i_crossings) (hc0 : 0 ≤ c_.toInt) (hc6 : c_.toInt ≤ 6) (hP : zMP f_posts) : zMi l T yX12_turns cX12_turns 5 (some .boolean) 2 0 0 [.ref mo, .int c_] [[zO11 mo m_all m_has i_size i_next i_where i_token i_number i_word i_wrong i_farCrossing m_read i_z0 i_crossings i_inns m_posts m_shut m_here i_steps i_done i_at i_gone m_was m_came m_seenAt m_rowWorth m_farBy m_used i_everywhere i_again0 i_d0 i_never i_firstCame i_longRun i_moved i_crowd i_l0 i_fitMany i_fitLeast i_fitMost m_fitPost m_fitEnd m_keptPosts i_x0], [zAr T 0 m_all 3952 f_all], [zAr T 0 m_posts 7 f_posts], [zAr T 0 m_shut 7 f_shut]] (fun (r : Int32) bs => ∃ (g_posts : Nat → Int32), bs = [[zO11 mo m_all m_has i_size i_next i_where i_token i_number i_word i_wrong i_farCrossing m_read i_z0 i_crossings i_inns m_posts m_shut m_here i_steps i_done i_at i_gone m_was m_came m_seenAt m_rowWorth m_farBy m_used i_everywhere i_again0 i_d0 i_never i_firstCame i_longRun i_moved i_crowd i_l0 i_fitMany i_fitLeast i_fitMost m_fitPost m_fitEnd m_keptPosts i_x0], [zAr T 0 m_all 3952 f_all], [zAr T 0 m_posts 7 g_posts], [zAr T 0 m_shut 7 f_shut]] ∧ zMP g_posts ∧ ((r = 1 ∧ 0 < (zRd f_all i_z0 c_).toInt) ∨ (r = 0))) := by
  refine zMi_of (own := RX12) (by decide) rfl (Nat.le_of_ble_eq_true rfl) ?_
  intro p e s m args below meth c A ls C hr hlocks hnm hAe G hl
  refine zHide (fun Q9 hQ9 => ?_)
  have hx := C.1
  have hb := C.2.1
  have hl : lv_has ls 5 [(0, .ref mo), (1, .int c_)] := hl
  have hz := hL.1
  have hcr := hL.cr
  have hcl := z_clI (x := c_) (by omega)
  have hpc := hP c_.toNatClampNeg (by omega)
  refine lv_aload_n hx hb dX12_turns_0 rfl (lv_at hl 0 rfl) ?_
  refine lv_iload_n hx hb dX12_turns_1 rfl (lv_at hl 1 rfl) ?_
  refine z_Vi (bc := [[zO11 mo m_all m_has i_size i_next i_where i_token i_number i_word i_wrong i_farCrossing m_read i_z0 i_crossings i_inns m_posts m_shut m_here i_steps i_done i_at i_gone m_was m_came m_seenAt m_rowWorth m_farBy m_used i_everywhere i_again0 i_d0 i_never i_firstCame i_longRun i_moved i_crowd i_l0 i_fitMany i_fitLeast i_fitMost m_fitPost m_fitEnd m_keptPosts i_x0], [zAr T 0 m_all 3952 f_all]]) (br := [[zAr T 0 m_posts 7 f_posts], [zAr T 0 m_shut 7 f_shut]]) (As := [.int c_]) (rest := []) C G (c_m_roadsOf l T mo m_all m_has i_size i_next i_where i_token i_number i_word i_wrong i_farCrossing m_read i_z0 i_crossings i_inns m_posts m_shut m_here i_steps i_done i_at i_gone m_was m_came m_seenAt m_rowWorth m_farBy m_used i_everywhere i_again0 i_d0 i_never i_firstCame i_longRun i_moved i_crowd i_l0 i_fitMany i_fitLeast i_fitMost m_fitPost m_fitEnd m_keptPosts i_x0 f_all c_ (by first | with_reducible assumption | with_reducible rfl | omega | assumption | rfl | decide) (by first | with_reducible assumption | with_reducible rfl | omega | assumption | rfl | decide) (by first | with_reducible assumption | with_reducible rfl | omega | assumption | rfl | decide)) (kV_RX12_181 C.2.2.2.2 (Nat.le_of_ble_eq_true rfl) (Nat.le_of_ble_eq_true rfl)) [0, 1] [0, 0] rfl rfl (ci := 11) (qc := (RX12, TX12, 43)) rfl rfl (List.mem_flatten.mpr ⟨_, List.mem_of_getElem? (i := 0) rfl, List.mem_cons_self⟩) rfl rfl hl.1 dX12_turns_2 (Nat.le_of_ble_eq_true rfl) (Nat.le_of_ble_eq_true rfl) (fun r_4 b1 H locs hw G => ?_)
  refine zAn4 hw ?_
  intro hbs9 h_1 h_2 h_3
  clear hw
  subst hbs9
  have G : zS T A s.heap s [[zAr T 0 m_posts 7 f_posts], [zAr T 0 m_shut 7 f_shut], [zO11 mo m_all m_has i_size i_next i_where i_token i_number i_word i_wrong i_farCrossing m_read i_z0 i_crossings i_inns m_posts m_shut m_here i_steps i_done i_at i_gone m_was m_came m_seenAt m_rowWorth m_farBy m_used i_everywhere i_again0 i_d0 i_never i_firstCame i_longRun i_moved i_crowd i_l0 i_fitMany i_fitLeast i_fitMost m_fitPost m_fitEnd m_keptPosts i_x0], [zAr T 0 m_all 3952 f_all]] _ _ := G
  subst h_1
  refine lv_istore_n (lv' := [(2, .int (zRd f_all i_z0 c_)), (0, .ref mo), (1, .int c_)]) hx hb dX12_turns_5 rfl hl (by decide) rfl (fun ls hl => ?_)
  refine lv_iconst (v := 1) hx hb dX12_turns_6 (by decide) ?_
  refine lv_istore_n (lv' := [(3, .int 1), (2, .int (zRd f_all i_z0 c_)), (0, .ref mo), (1, .int c_)]) hx hb dX12_turns_7 rfl hl (by decide) rfl (fun ls hl => ?_)
  refine z_lp1 (T := T) 8 (fun (i : Nat) => [[zAr T 0 m_posts 7 f_posts], [zAr T 0 m_shut 7 f_shut], [zO11 mo m_all m_has i_size i_next i_where i_token i_number i_word i_wrong i_farCrossing m_read i_z0 i_crossings i_inns m_posts m_shut m_here i_steps i_done i_at i_gone m_was m_came m_seenAt m_rowWorth m_farBy m_used i_everywhere i_again0 i_d0 i_never i_firstCame i_longRun i_moved i_crowd i_l0 i_fitMany i_fitLeast i_fitMost m_fitPost m_fitEnd m_keptPosts i_x0], [zAr T 0 m_all 3952 f_all]]) (fun (i : Nat) => [(3, .int (nI i)), (2, .int (zRd f_all i_z0 c_)), (0, .ref mo), (1, .int c_)]) (fun (i : Nat) => 1 ≤ i ∧ i ≤ 5) (fun (i : Nat) => 6 - i) ?_ 1 (show 1 ≤ 1 ∧ 1 ≤ 5 from ⟨by omega, by omega⟩) G (lv_sub hl [0, 1, 2, 3] rfl)
  intro i hI9 ih_8 H locs ls G hl
  replace hI9 : 1 ≤ i ∧ i ≤ 5 := hI9
  refine zAn2 hI9 ?_
  intro hi hi5
  clear hI9
  replace G : zS T A s.heap s [[zAr T 0 m_posts 7 f_posts], [zAr T 0 m_shut 7 f_shut], [zO11 mo m_all m_has i_size i_next i_where i_token i_number i_word i_wrong i_farCrossing m_read i_z0 i_crossings i_inns m_posts m_shut m_here i_steps i_done i_at i_gone m_was m_came m_seenAt m_rowWorth m_farBy m_used i_everywhere i_again0 i_d0 i_never i_firstCame i_longRun i_moved i_crowd i_l0 i_fitMany i_fitLeast i_fitMost m_fitPost m_fitEnd m_keptPosts i_x0], [zAr T 0 m_all 3952 f_all]] _ _ := G
  replace hl : lv_has ls 5 [(3, .int (nI i)), (2, .int (zRd f_all i_z0 c_)), (0, .ref mo), (1, .int c_)] := hl
  refine lv_iload_n hx hb dX12_turns_8 rfl (lv_at hl 0 rfl) ?_
  refine lv_iload_n hx hb dX12_turns_9 rfl (lv_at hl 1 rfl) ?_
  refine lv_icmp_gt (tgt := 59) hx hb dX12_turns_10 (by decide) (fun c_5 => ?_) (fun c_5 => ?_)
  · have c_5n : (zRd f_all i_z0 c_).toInt < (i : Int) := by have q := (fa_lt _ _).mp c_5; rw [nI_toInt (n := i) (by omega)] at q; exact q
    refine lv_iconst (v := 0) hx hb dX12_turns_59 (by decide) ?_
    have G := G.sub (bs' := [[zO11 mo m_all m_has i_size i_next i_where i_token i_number i_word i_wrong i_farCrossing m_read i_z0 i_crossings i_inns m_posts m_shut m_here i_steps i_done i_at i_gone m_was m_came m_seenAt m_rowWorth m_farBy m_used i_everywhere i_again0 i_d0 i_never i_firstCame i_longRun i_moved i_crowd i_l0 i_fitMany i_fitLeast i_fitMost m_fitPost m_fitEnd m_keptPosts i_x0], [zAr T 0 m_all 3952 f_all], [zAr T 0 m_posts 7 f_posts], [zAr T 0 m_shut 7 f_shut]]) [2, 3, 0, 1] rfl
    exact z_back hQ9 (z_zret C hr hlocks G (Nat.le_of_ble_eq_true rfl) (Nat.le_of_ble_eq_true rfl) dX12_turns_60 rfl ⟨f_posts, rfl, (by first | with_reducible assumption | omega | trivial | assumption), (Or.inr rfl)⟩)
  · have c_5n : ¬ (zRd f_all i_z0 c_).toInt < (i : Int) := fun q => c_5 ((fa_lt _ _).mpr (by rw [nI_toInt (n := i) (by omega)]; exact q))
    refine lv_aload_n hx hb dX12_turns_13 rfl (lv_at hl 2 rfl) ?_
    refine z_get C G clX12 2 rfl 14 (by decide) m_fl_RX12_20 rfl dX12_turns_14 ?_
    refine lv_iload_n hx hb dX12_turns_17 rfl (lv_at hl 3 rfl) ?_
    refine z_ild C G 0 rfl (vp_in_iff.mpr ⟨by omega, by omega⟩) dX12_turns_18 ?_
    refine lv_topi (fun v_6 ev_6 => ?_)
    subst ev_6
    refine lv_iload_n hx hb dX12_turns_19 rfl (lv_at hl 0 rfl) ?_
    refine lv_iadd hx hb dX12_turns_20 ?_
    refine lv_topi (fun y_7 ey_7 => ?_)
    have ey_7i : y_7.toInt = (f_posts c_.toNatClampNeg).toInt + (i : Int) := by rw [ey_7]; exact (z_iaddI (x := (f_posts c_.toNatClampNeg)) (y := (nI i)) (by rw [nI_toInt (n := i) (by omega)]; show -2147483648 ≤ (f_posts c_.toNatClampNeg).toInt + (i : Int); omega) (by rw [nI_toInt (n := i) (by omega)]; show (f_posts c_.toNatClampNeg).toInt + (i : Int) < 2147483648; omega)).trans (by rw [nI_toInt (n := i) (by omega)] <;> rfl)
    refine lv_iload_n hx hb dX12_turns_21 rfl (lv_at hl 1 rfl) ?_
    refine lv_irem hx hb dX12_turns_22 (fun q => absurd (congrArg Int32.toInt q) (by show ¬ _ = (0 : Int); omega)) ?_
    have hrm := zRem (x := y_7) (y := zRd f_all i_z0 c_) (by omega) (by omega)
    refine lv_istore (lv' := [(4, .int (y_7 - y_7 / (zRd f_all i_z0 c_) * (zRd f_all i_z0 c_))), (3, .int (nI i)), (2, .int (zRd f_all i_z0 c_)), (0, .ref mo), (1, .int c_)]) hx hb dX12_turns_23 hl (by decide) rfl (fun ls hl => ?_)
    refine lv_aload_n hx hb dX12_turns_25 rfl (lv_at hl 3 rfl) ?_
    refine z_get C G clX12 2 rfl 15 (by decide) m_fl_RX12_23 rfl dX12_turns_26 ?_
    refine lv_iload_n hx hb dX12_turns_29 rfl (lv_at hl 4 rfl) ?_
    refine z_ild C G 1 rfl (vp_in_iff.mpr ⟨by omega, by omega⟩) dX12_turns_30 ?_
    refine lv_topi (fun v_8 ev_8 => ?_)
    subst ev_8
    refine lv_iload hx hb dX12_turns_31 (lv_at hl 0 rfl) ?_
    refine lv_ishr hx hb dX12_turns_33 ?_
    refine lv_iconst (v := 1) hx hb dX12_turns_34 (by decide) ?_
    refine lv_iand hx hb dX12_turns_35 ?_
    refine lv_iconst (v := 1) hx hb dX12_turns_36 (by decide) ?_
    refine lv_icmp_ne (tgt := 43) hx hb dX12_turns_37 (by decide) (fun c_9 => ?_) (fun c_9 => ?_)
    · have c_9n : ¬ (((f_shut c_.toNatClampNeg) >>> ((y_7 - y_7 / (zRd f_all i_z0 c_) * (zRd f_all i_z0 c_)) &&& 31)) &&& 1).toInt = (1 : Int) := fun q => c_9 ((fa_eq _ _).mpr q)
      refine lv_aload_n hx hb dX12_turns_43 rfl (lv_at hl 3 rfl) ?_
      refine z_get C G clX12 2 rfl 14 (by decide) m_fl_RX12_20 rfl dX12_turns_44 ?_
      refine lv_iload_n hx hb dX12_turns_47 rfl (lv_at hl 4 rfl) ?_
      refine lv_iload hx hb dX12_turns_48 (lv_at hl 0 rfl) ?_
      refine z_ist C G 0 rfl (vp_in_iff.mpr ⟨by omega, by omega⟩) dX12_turns_50 (fun H locs G => ?_)
      have G : zS T A s.heap s [[zAr T 0 m_posts 7 (upd f_posts c_.toNatClampNeg (y_7 - y_7 / (zRd f_all i_z0 c_) * (zRd f_all i_z0 c_)))], [zAr T 0 m_shut 7 f_shut], [zO11 mo m_all m_has i_size i_next i_where i_token i_number i_word i_wrong i_farCrossing m_read i_z0 i_crossings i_inns m_posts m_shut m_here i_steps i_done i_at i_gone m_was m_came m_seenAt m_rowWorth m_farBy m_used i_everywhere i_again0 i_d0 i_never i_firstCame i_longRun i_moved i_crowd i_l0 i_fitMany i_fitLeast i_fitMost m_fitPost m_fitEnd m_keptPosts i_x0], [zAr T 0 m_all 3952 f_all]] _ _ := G
      refine lv_iconst (v := 1) hx hb dX12_turns_51 (by decide) ?_
      have G := G.sub (bs' := [[zO11 mo m_all m_has i_size i_next i_where i_token i_number i_word i_wrong i_farCrossing m_read i_z0 i_crossings i_inns m_posts m_shut m_here i_steps i_done i_at i_gone m_was m_came m_seenAt m_rowWorth m_farBy m_used i_everywhere i_again0 i_d0 i_never i_firstCame i_longRun i_moved i_crowd i_l0 i_fitMany i_fitLeast i_fitMost m_fitPost m_fitEnd m_keptPosts i_x0], [zAr T 0 m_all 3952 f_all], [zAr T 0 m_posts 7 (upd f_posts c_.toNatClampNeg (y_7 - y_7 / (zRd f_all i_z0 c_) * (zRd f_all i_z0 c_)))], [zAr T 0 m_shut 7 f_shut]]) [2, 3, 0, 1] rfl
      exact z_back hQ9 (z_zret C hr hlocks G (Nat.le_of_ble_eq_true rfl) (Nat.le_of_ble_eq_true rfl) dX12_turns_52 rfl ⟨(upd f_posts c_.toNatClampNeg (y_7 - y_7 / (zRd f_all i_z0 c_) * (zRd f_all i_z0 c_))), rfl, (zMP_upd hP (by omega)), (Or.inl (⟨rfl, (by first | with_reducible assumption | omega | assumption)⟩))⟩)
    · have c_9n : (((f_shut c_.toNatClampNeg) >>> ((y_7 - y_7 / (zRd f_all i_z0 c_) * (zRd f_all i_z0 c_)) &&& 31)) &&& 1).toInt = (1 : Int) := (fa_eq _ _).mp c_9
      refine lv_goto (tgt := 53) hx hb dX12_turns_40 (by decide) ?_
      refine lv_iinc (v := nI (i + 1)) (lv' := [(3, .int (nI (i + 1))), (4, .int (y_7 - y_7 / (zRd f_all i_z0 c_) * (zRd f_all i_z0 c_))), (2, .int (zRd f_all i_z0 c_)), (0, .ref mo), (1, .int c_)]) hx hb dX12_turns_53 hl (k := 1) rfl (z_inc i 1) (by decide) rfl (fun ls hl => ?_)
      refine lv_goto (tgt := 8) hx hb dX12_turns_56 (by decide) ?_
      exact ih_8 (i + 1) (show 1 ≤ (i + 1) ∧ (i + 1) ≤ 5 from ⟨by omega, by omega⟩) (show 6 - (i + 1) < 6 - i from by omega) _ _ ls G (lv_sub hl [0, 2, 3, 4] rfl)
set_option maxHeartbeats 4000000 in
set_option maxRecDepth 100000 in
/-- c_m_stepsOn -/
theorem c_m_stepsOn (l : Launch) (T : zTy) (mo : Nat) (m_all : Nat) (m_has : Nat) (i_size : Int32) (i_next : Int32) (i_where : Int32) (i_token : Int32) (i_number : Int32) (i_word : Int32) (i_wrong : Int32) (i_farCrossing : Int32) (m_read : Nat) (i_z0 : Int32) (i_crossings : Int32) (i_inns : Int32) (m_posts : Nat) (m_shut : Nat) (m_here : Nat) (i_steps : Int32) (i_done : Int32) (i_at : Int32) (i_gone : Int32) (m_was : Nat) (m_came : Nat) (m_seenAt : Nat) (m_rowWorth : Nat) (m_farBy : Nat) (m_used : Nat) (i_everywhere : Int32) (i_again0 : Int32) (i_d0 : Int32) (i_never : Int32) (i_firstCame : Int32) (i_longRun : Int32) (i_moved : Int32) (i_crowd : Int32) (i_l0 : Int32) (i_fitMany : Int32) (i_fitLeast : Int32) (i_fitMost : Int32) (m_fitPost : Nat) (m_fitEnd : Nat) (m_keptPosts : Nat) (i_x0 : Int32) (f_all : Nat → Int32) (f_posts : Nat → Int32) (f_shut : Nat → Int32) (f_was : Nat → Int32) (hL : zML f_all i_z0 i_crossings) (ha0 : 0 ≤ i_at.toInt) (ha6 : i_at.toInt ≤ 6) (hg0 : 0 ≤ i_gone.toInt) (hg9 : i_gone.toInt ≤ 100000) (hP : zMP f_posts) : zMi l T yX12_stepsOn cX12_stepsOn 1 (some .boolean) 3 0 0 [.ref mo] [[zO11 mo m_all m_has i_size i_next i_where i_token i_number i_word i_wrong i_farCrossing m_read i_z0 i_crossings i_inns m_posts m_shut m_here i_steps i_done i_at i_gone m_was m_came m_seenAt m_rowWorth m_farBy m_used i_everywhere i_again0 i_d0 i_never i_firstCame i_longRun i_moved i_crowd i_l0 i_fitMany i_fitLeast i_fitMost m_fitPost m_fitEnd m_keptPosts i_x0], [zAr T 0 m_all 3952 f_all], [zAr T 0 m_posts 7 f_posts], [zAr T 0 m_shut 7 f_shut], [zAr T 0 m_was 7 f_was]] (fun (r : Int32) bs => ∃ (j_at : Int32) (j_gone : Int32) (g_posts : Nat → Int32) (g_was : Nat → Int32), bs = [[zO11 mo m_all m_has i_size i_next i_where i_token i_number i_word i_wrong i_farCrossing m_read i_z0 i_crossings i_inns m_posts m_shut m_here i_steps i_done j_at j_gone m_was m_came m_seenAt m_rowWorth m_farBy m_used i_everywhere i_again0 i_d0 i_never i_firstCame i_longRun i_moved i_crowd i_l0 i_fitMany i_fitLeast i_fitMost m_fitPost m_fitEnd m_keptPosts i_x0], [zAr T 0 m_all 3952 f_all], [zAr T 0 m_posts 7 g_posts], [zAr T 0 m_shut 7 f_shut], [zAr T 0 m_was 7 g_was]] ∧ zMP g_posts ∧ 0 ≤ j_at.toInt ∧ j_at.toInt ≤ 6 ∧ ((r = 1 ∧ j_gone.toInt = i_gone.toInt + 1) ∨ (r = 0 ∧ j_gone.toInt = i_gone.toInt))) := by
  refine zMi_of (own := RX12) (by decide) rfl (Nat.le_of_ble_eq_true rfl) ?_
  intro p e s m args below meth c A ls C hr hlocks hnm hAe G hl
  refine zHide (fun Q9 hQ9 => ?_)
  have hx := C.1
  have hb := C.2.1
  have hl : lv_has ls 1 [(0, .ref mo)] := hl
  have hz := hL.1
  have hcr := hL.cr
  refine lv_aload_n hx hb dX12_stepsOn_0 rfl (lv_at hl 0 rfl) ?_
  refine lv_aload_n hx hb dX12_stepsOn_1 rfl (lv_at hl 0 rfl) ?_
  refine z_get C G clX12 0 rfl 19 (by decide) m_fl_RX12_202 rfl dX12_stepsOn_2 ?_
  refine z_Vi (bc := [[zO11 mo m_all m_has i_size i_next i_where i_token i_number i_word i_wrong i_farCrossing m_read i_z0 i_crossings i_inns m_posts m_shut m_here i_steps i_done i_at i_gone m_was m_came m_seenAt m_rowWorth m_farBy m_used i_everywhere i_again0 i_d0 i_never i_firstCame i_longRun i_moved i_crowd i_l0 i_fitMany i_fitLeast i_fitMost m_fitPost m_fitEnd m_keptPosts i_x0]]) (br := [[zAr T 0 m_all 3952 f_all], [zAr T 0 m_posts 7 f_posts], [zAr T 0 m_shut 7 f_shut], [zAr T 0 m_was 7 f_was]]) (As := [.int i_at]) (rest := []) C G (c_m_isInn l T mo m_all m_has i_size i_next i_where i_token i_number i_word i_wrong i_farCrossing m_read i_z0 i_crossings i_inns m_posts m_shut m_here i_steps i_done i_at i_gone m_was m_came m_seenAt m_rowWorth m_farBy m_used i_everywhere i_again0 i_d0 i_never i_firstCame i_longRun i_moved i_crowd i_l0 i_fitMany i_fitLeast i_fitMost m_fitPost m_fitEnd m_keptPosts i_x0 i_at) (kV_RX12_178 C.2.2.2.2 (Nat.le_of_ble_eq_true rfl) (Nat.le_of_ble_eq_true rfl)) [0] [0] rfl rfl (ci := 11) (qc := (RX12, TX12, 43)) rfl rfl (List.mem_flatten.mpr ⟨_, List.mem_of_getElem? (i := 0) rfl, List.mem_cons_self⟩) rfl rfl hl.1 dX12_stepsOn_5 (Nat.le_of_ble_eq_true rfl) (Nat.le_of_ble_eq_true rfl) (fun r_2 b1 H locs hw G => ?_)
  refine zAn2 hw ?_
  intro hbs9 hc_1
  clear hw
  subst hbs9
  have G : zS T A s.heap s [[zAr T 0 m_all 3952 f_all], [zAr T 0 m_posts 7 f_posts], [zAr T 0 m_shut 7 f_shut], [zAr T 0 m_was 7 f_was], [zO11 mo m_all m_has i_size i_next i_where i_token i_number i_word i_wrong i_farCrossing m_read i_z0 i_crossings i_inns m_posts m_shut m_here i_steps i_done i_at i_gone m_was m_came m_seenAt m_rowWorth m_farBy m_used i_everywhere i_again0 i_d0 i_never i_firstCame i_longRun i_moved i_crowd i_l0 i_fitMany i_fitLeast i_fitMost m_fitPost m_fitEnd m_keptPosts i_x0]] _ _ := G
  rcases hc_1 with ⟨rfl, h_3⟩ | ⟨rfl, h_4⟩
  · have h_3 : zInn i_inns i_at := h_3
    refine lv_if_ne (tgt := 22) hx hb dX12_stepsOn_8 (by decide) (fun _ => ?_) (fun q => absurd q (by decide))
    refine lv_iconst (v := 0) hx hb dX12_stepsOn_22 (by decide) ?_
    have G := G.sub (bs' := [[zO11 mo m_all m_has i_size i_next i_where i_token i_number i_word i_wrong i_farCrossing m_read i_z0 i_crossings i_inns m_posts m_shut m_here i_steps i_done i_at i_gone m_was m_came m_seenAt m_rowWorth m_farBy m_used i_everywhere i_again0 i_d0 i_never i_firstCame i_longRun i_moved i_crowd i_l0 i_fitMany i_fitLeast i_fitMost m_fitPost m_fitEnd m_keptPosts i_x0], [zAr T 0 m_all 3952 f_all], [zAr T 0 m_posts 7 f_posts], [zAr T 0 m_shut 7 f_shut], [zAr T 0 m_was 7 f_was]]) [4, 0, 1, 2, 3] rfl
    exact z_back hQ9 (z_zret C hr hlocks G (Nat.le_of_ble_eq_true rfl) (Nat.le_of_ble_eq_true rfl) dX12_stepsOn_23 rfl ⟨i_at, i_gone, f_posts, f_was, rfl, (by first | with_reducible assumption | omega | trivial | assumption), (by first | with_reducible assumption | omega | trivial | assumption), (by first | with_reducible assumption | omega | trivial | assumption), (Or.inr (⟨rfl, (by first | with_reducible assumption | omega | assumption)⟩))⟩)
  · have h_4 : ¬ zInn i_inns i_at := h_4
    refine lv_if_ne (tgt := 22) hx hb dX12_stepsOn_8 (by decide) (fun q => absurd (by decide) q) (fun _ => ?_)
    refine lv_aload_n hx hb dX12_stepsOn_11 rfl (lv_at hl 0 rfl) ?_
    refine lv_aload_n hx hb dX12_stepsOn_12 rfl (lv_at hl 0 rfl) ?_
    refine z_get C G clX12 4 rfl 19 (by decide) m_fl_RX12_202 rfl dX12_stepsOn_13 ?_
    refine z_Vi (bc := [[zO11 mo m_all m_has i_size i_next i_where i_token i_number i_word i_wrong i_farCrossing m_read i_z0 i_crossings i_inns m_posts m_shut m_here i_steps i_done i_at i_gone m_was m_came m_seenAt m_rowWorth m_farBy m_used i_everywhere i_again0 i_d0 i_never i_firstCame i_longRun i_moved i_crowd i_l0 i_fitMany i_fitLeast i_fitMost m_fitPost m_fitEnd m_keptPosts i_x0], [zAr T 0 m_all 3952 f_all], [zAr T 0 m_posts 7 f_posts], [zAr T 0 m_shut 7 f_shut]]) (br := [[zAr T 0 m_was 7 f_was]]) (As := [.int i_at]) (rest := []) C G (c_m_turns l T mo m_all m_has i_size i_next i_where i_token i_number i_word i_wrong i_farCrossing m_read i_z0 i_crossings i_inns m_posts m_shut m_here i_steps i_done i_at i_gone m_was m_came m_seenAt m_rowWorth m_farBy m_used i_everywhere i_again0 i_d0 i_never i_firstCame i_longRun i_moved i_crowd i_l0 i_fitMany i_fitLeast i_fitMost m_fitPost m_fitEnd m_keptPosts i_x0 f_all f_posts f_shut i_at (by first | with_reducible assumption | with_reducible rfl | omega | assumption | rfl | decide) (by first | with_reducible assumption | with_reducible rfl | omega | assumption | rfl | decide) (by first | with_reducible assumption | with_reducible rfl | omega | assumption | rfl | decide) (by first | with_reducible assumption | with_reducible rfl | omega | assumption | rfl | decide)) (kV_RX12_205 C.2.2.2.2 (Nat.le_of_ble_eq_true rfl) (Nat.le_of_ble_eq_true rfl)) [4, 0, 1, 2] [0, 0, 0, 1] rfl rfl (ci := 11) (qc := (RX12, TX12, 43)) rfl rfl (List.mem_flatten.mpr ⟨_, List.mem_of_getElem? (i := 0) rfl, List.mem_cons_self⟩) rfl rfl hl.1 dX12_stepsOn_16 (Nat.le_of_ble_eq_true rfl) (Nat.le_of_ble_eq_true rfl) (fun r_8 b1 H locs hw G => ?_)
    refine zEx1 hw ?_
    intro g_posts_5
    refine zCu3 ?_
    intro hbs9 h_6 hc_7
    clear hw
    subst hbs9
    have G : zS T A s.heap s [[zAr T 0 m_was 7 f_was], [zO11 mo m_all m_has i_size i_next i_where i_token i_number i_word i_wrong i_farCrossing m_read i_z0 i_crossings i_inns m_posts m_shut m_here i_steps i_done i_at i_gone m_was m_came m_seenAt m_rowWorth m_farBy m_used i_everywhere i_again0 i_d0 i_never i_firstCame i_longRun i_moved i_crowd i_l0 i_fitMany i_fitLeast i_fitMost m_fitPost m_fitEnd m_keptPosts i_x0], [zAr T 0 m_all 3952 f_all], [zAr T 0 m_posts 7 g_posts_5], [zAr T 0 m_shut 7 f_shut]] _ _ := G
    rcases hc_7 with ⟨rfl, h_9⟩ | rfl
    · have h_9 : 0 < (zRd f_all i_z0 i_at).toInt := h_9
      refine lv_if_ne (tgt := 24) hx hb dX12_stepsOn_19 (by decide) (fun _ => ?_) (fun q => absurd q (by decide))
      have hcl := z_clI (x := i_at) (by omega)
      have hpa : 0 ≤ (g_posts_5 i_at.toNatClampNeg).toInt ∧ (g_posts_5 i_at.toNatClampNeg).toInt ≤ 3 := (show zMP g_posts_5 by assumption) i_at.toNatClampNeg (by omega)
      refine lv_aload_n hx hb dX12_stepsOn_24 rfl (lv_at hl 0 rfl) ?_
      refine lv_aload_n hx hb dX12_stepsOn_25 rfl (lv_at hl 0 rfl) ?_
      refine lv_aload_n hx hb dX12_stepsOn_26 rfl (lv_at hl 0 rfl) ?_
      refine z_get C G clX12 1 rfl 19 (by decide) m_fl_RX12_202 rfl dX12_stepsOn_27 ?_
      refine lv_aload_n hx hb dX12_stepsOn_30 rfl (lv_at hl 0 rfl) ?_
      refine z_get C G clX12 1 rfl 14 (by decide) m_fl_RX12_20 rfl dX12_stepsOn_31 ?_
      refine lv_aload_n hx hb dX12_stepsOn_34 rfl (lv_at hl 0 rfl) ?_
      refine z_get C G clX12 1 rfl 19 (by decide) m_fl_RX12_202 rfl dX12_stepsOn_35 ?_
      refine z_ild C G 3 rfl (vp_in_iff.mpr ⟨by omega, by omega⟩) dX12_stepsOn_38 ?_
      refine lv_topi (fun v_10 ev_10 => ?_)
      subst ev_10
      refine z_Vi (bc := [[zO11 mo m_all m_has i_size i_next i_where i_token i_number i_word i_wrong i_farCrossing m_read i_z0 i_crossings i_inns m_posts m_shut m_here i_steps i_done i_at i_gone m_was m_came m_seenAt m_rowWorth m_farBy m_used i_everywhere i_again0 i_d0 i_never i_firstCame i_longRun i_moved i_crowd i_l0 i_fitMany i_fitLeast i_fitMost m_fitPost m_fitEnd m_keptPosts i_x0], [zAr T 0 m_all 3952 f_all]]) (br := [[zAr T 0 m_was 7 f_was], [zAr T 0 m_posts 7 g_posts_5], [zAr T 0 m_shut 7 f_shut]]) (As := [.int i_at, .int (g_posts_5 i_at.toNatClampNeg)]) (rest := [.ref mo]) C G (c_m_leadsTo l T mo m_all m_has i_size i_next i_where i_token i_number i_word i_wrong i_farCrossing m_read i_z0 i_crossings i_inns m_posts m_shut m_here i_steps i_done i_at i_gone m_was m_came m_seenAt m_rowWorth m_farBy m_used i_everywhere i_again0 i_d0 i_never i_firstCame i_longRun i_moved i_crowd i_l0 i_fitMany i_fitLeast i_fitMost m_fitPost m_fitEnd m_keptPosts i_x0 f_all i_at (g_posts_5 i_at.toNatClampNeg) (by first | with_reducible assumption | with_reducible rfl | omega | assumption | rfl | decide) (by first | with_reducible assumption | with_reducible rfl | omega | assumption | rfl | decide) (by first | with_reducible assumption | with_reducible rfl | omega | assumption | rfl | decide) (by first | with_reducible assumption | with_reducible rfl | omega | assumption | rfl | decide) (by first | with_reducible assumption | with_reducible rfl | omega | assumption | rfl | decide)) (kV_RX12_190 C.2.2.2.2 (Nat.le_of_ble_eq_true rfl) (Nat.le_of_ble_eq_true rfl)) [1, 2] [1, 0] rfl rfl (ci := 11) (qc := (RX12, TX12, 43)) rfl rfl (List.mem_flatten.mpr ⟨_, List.mem_of_getElem? (i := 0) rfl, List.mem_cons_self⟩) rfl rfl hl.1 dX12_stepsOn_39 (Nat.le_of_ble_eq_true rfl) (Nat.le_of_ble_eq_true rfl) (fun r_14 b1 H locs hw G => ?_)
      refine zAn4 hw ?_
      intro hbs9 h_11 h_12 h_13
      clear hw
      subst hbs9
      have G : zS T A s.heap s [[zAr T 0 m_was 7 f_was], [zAr T 0 m_posts 7 g_posts_5], [zAr T 0 m_shut 7 f_shut], [zO11 mo m_all m_has i_size i_next i_where i_token i_number i_word i_wrong i_farCrossing m_read i_z0 i_crossings i_inns m_posts m_shut m_here i_steps i_done i_at i_gone m_was m_came m_seenAt m_rowWorth m_farBy m_used i_everywhere i_again0 i_d0 i_never i_firstCame i_longRun i_moved i_crowd i_l0 i_fitMany i_fitLeast i_fitMost m_fitPost m_fitEnd m_keptPosts i_x0], [zAr T 0 m_all 3952 f_all]] _ _ := G
      subst h_11
      refine z_put C G clX12 3 rfl 19 (by decide) m_fl_RX12_202 rfl rfl rfl (Nat.le_of_ble_eq_true rfl) dX12_stepsOn_42 (fun H locs G => ?_)
      have G : zS T A s.heap s [[zAr T 0 m_was 7 f_was], [zAr T 0 m_posts 7 g_posts_5], [zAr T 0 m_shut 7 f_shut], [zO11 mo m_all m_has i_size i_next i_where i_token i_number i_word i_wrong i_farCrossing m_read i_z0 i_crossings i_inns m_posts m_shut m_here i_steps i_done (zLe f_all i_z0 i_at (g_posts_5 i_at.toNatClampNeg)) i_gone m_was m_came m_seenAt m_rowWorth m_farBy m_used i_everywhere i_again0 i_d0 i_never i_firstCame i_longRun i_moved i_crowd i_l0 i_fitMany i_fitLeast i_fitMost m_fitPost m_fitEnd m_keptPosts i_x0], [zAr T 0 m_all 3952 f_all]] _ _ := G
      refine lv_aload_n hx hb dX12_stepsOn_45 rfl (lv_at hl 0 rfl) ?_
      refine lv_dup hx hb dX12_stepsOn_46 rfl ?_
      refine z_get C G clX12 3 rfl 20 (by decide) m_fl_RX12_208 rfl dX12_stepsOn_47 ?_
      refine lv_iconst (v := 1) hx hb dX12_stepsOn_50 (by decide) ?_
      refine lv_iadd hx hb dX12_stepsOn_51 ?_
      refine lv_topi (fun y_15 ey_15 => ?_)
      have ey_15i : y_15.toInt = i_gone.toInt + (1 : Int) := by rw [ey_15]; exact z_iaddI (x := i_gone) (y := (1 : Int32)) (by show -2147483648 ≤ i_gone.toInt + (1 : Int); omega) (by show i_gone.toInt + (1 : Int) < 2147483648; omega)
      refine z_put C G clX12 3 rfl 20 (by decide) m_fl_RX12_208 rfl rfl rfl (Nat.le_of_ble_eq_true rfl) dX12_stepsOn_52 (fun H locs G => ?_)
      have G : zS T A s.heap s [[zAr T 0 m_was 7 f_was], [zAr T 0 m_posts 7 g_posts_5], [zAr T 0 m_shut 7 f_shut], [zO11 mo m_all m_has i_size i_next i_where i_token i_number i_word i_wrong i_farCrossing m_read i_z0 i_crossings i_inns m_posts m_shut m_here i_steps i_done (zLe f_all i_z0 i_at (g_posts_5 i_at.toNatClampNeg)) y_15 m_was m_came m_seenAt m_rowWorth m_farBy m_used i_everywhere i_again0 i_d0 i_never i_firstCame i_longRun i_moved i_crowd i_l0 i_fitMany i_fitLeast i_fitMost m_fitPost m_fitEnd m_keptPosts i_x0], [zAr T 0 m_all 3952 f_all]] _ _ := G
      refine lv_aload_n hx hb dX12_stepsOn_55 rfl (lv_at hl 0 rfl) ?_
      refine z_get C G clX12 3 rfl 21 (by decide) m_fl_RX12_29 rfl dX12_stepsOn_56 ?_
      refine lv_aload_n hx hb dX12_stepsOn_59 rfl (lv_at hl 0 rfl) ?_
      refine z_get C G clX12 3 rfl 19 (by decide) m_fl_RX12_202 rfl dX12_stepsOn_60 ?_
      refine lv_dup2_11 hx hb dX12_stepsOn_63 rfl rfl ?_
      refine z_ild C G 0 rfl (vp_in_iff.mpr ⟨by omega, by omega⟩) dX12_stepsOn_64 ?_
      refine lv_topi (fun v_16 ev_16 => ?_)
      subst ev_16
      refine lv_iconst (v := 1) hx hb dX12_stepsOn_65 (by decide) ?_
      refine lv_iadd hx hb dX12_stepsOn_66 ?_
      refine z_ist C G 0 rfl (vp_in_iff.mpr ⟨by omega, by omega⟩) dX12_stepsOn_67 (fun H locs G => ?_)
      have G : zS T A s.heap s [[zAr T 0 m_was 7 (upd f_was (zLe f_all i_z0 i_at (g_posts_5 i_at.toNatClampNeg)).toNatClampNeg ((f_was (zLe f_all i_z0 i_at (g_posts_5 i_at.toNatClampNeg)).toNatClampNeg) + 1))], [zAr T 0 m_posts 7 g_posts_5], [zAr T 0 m_shut 7 f_shut], [zO11 mo m_all m_has i_size i_next i_where i_token i_number i_word i_wrong i_farCrossing m_read i_z0 i_crossings i_inns m_posts m_shut m_here i_steps i_done (zLe f_all i_z0 i_at (g_posts_5 i_at.toNatClampNeg)) y_15 m_was m_came m_seenAt m_rowWorth m_farBy m_used i_everywhere i_again0 i_d0 i_never i_firstCame i_longRun i_moved i_crowd i_l0 i_fitMany i_fitLeast i_fitMost m_fitPost m_fitEnd m_keptPosts i_x0], [zAr T 0 m_all 3952 f_all]] _ _ := G
      refine lv_iconst (v := 1) hx hb dX12_stepsOn_68 (by decide) ?_
      have G := G.sub (bs' := [[zO11 mo m_all m_has i_size i_next i_where i_token i_number i_word i_wrong i_farCrossing m_read i_z0 i_crossings i_inns m_posts m_shut m_here i_steps i_done (zLe f_all i_z0 i_at (g_posts_5 i_at.toNatClampNeg)) y_15 m_was m_came m_seenAt m_rowWorth m_farBy m_used i_everywhere i_again0 i_d0 i_never i_firstCame i_longRun i_moved i_crowd i_l0 i_fitMany i_fitLeast i_fitMost m_fitPost m_fitEnd m_keptPosts i_x0], [zAr T 0 m_all 3952 f_all], [zAr T 0 m_posts 7 g_posts_5], [zAr T 0 m_shut 7 f_shut], [zAr T 0 m_was 7 (upd f_was (zLe f_all i_z0 i_at (g_posts_5 i_at.toNatClampNeg)).toNatClampNeg ((f_was (zLe f_all i_z0 i_at (g_posts_5 i_at.toNatClampNeg)).toNatClampNeg) + 1))]]) [3, 4, 1, 2, 0] rfl
      exact z_back hQ9 (z_zret C hr hlocks G (Nat.le_of_ble_eq_true rfl) (Nat.le_of_ble_eq_true rfl) dX12_stepsOn_69 rfl ⟨(zLe f_all i_z0 i_at (g_posts_5 i_at.toNatClampNeg)), y_15, g_posts_5, (upd f_was (zLe f_all i_z0 i_at (g_posts_5 i_at.toNatClampNeg)).toNatClampNeg ((f_was (zLe f_all i_z0 i_at (g_posts_5 i_at.toNatClampNeg)).toNatClampNeg) + 1)), rfl, (by first | with_reducible assumption | omega | trivial | assumption), (by first | with_reducible assumption | omega | trivial | assumption), (by first | with_reducible assumption | omega | trivial | assumption), (Or.inl (⟨rfl, (by first | with_reducible assumption | omega | assumption)⟩))⟩)
    · refine lv_if_ne (tgt := 24) hx hb dX12_stepsOn_19 (by decide) (fun q => absurd (by decide) q) (fun _ => ?_)
      refine lv_iconst (v := 0) hx hb dX12_stepsOn_22 (by decide) ?_
      have G := G.sub (bs' := [[zO11 mo m_all m_has i_size i_next i_where i_token i_number i_word i_wrong i_farCrossing m_read i_z0 i_crossings i_inns m_posts m_shut m_here i_steps i_done i_at i_gone m_was m_came m_seenAt m_rowWorth m_farBy m_used i_everywhere i_again0 i_d0 i_never i_firstCame i_longRun i_moved i_crowd i_l0 i_fitMany i_fitLeast i_fitMost m_fitPost m_fitEnd m_keptPosts i_x0], [zAr T 0 m_all 3952 f_all], [zAr T 0 m_posts 7 g_posts_5], [zAr T 0 m_shut 7 f_shut], [zAr T 0 m_was 7 f_was]]) [1, 2, 3, 4, 0] rfl
      exact z_back hQ9 (z_zret C hr hlocks G (Nat.le_of_ble_eq_true rfl) (Nat.le_of_ble_eq_true rfl) dX12_stepsOn_23 rfl ⟨i_at, i_gone, g_posts_5, f_was, rfl, (by first | with_reducible assumption | omega | trivial | assumption), (by first | with_reducible assumption | omega | trivial | assumption), (by first | with_reducible assumption | omega | trivial | assumption), (Or.inr (⟨rfl, (by first | with_reducible assumption | omega | assumption)⟩))⟩)
theorem m_co_X12_puts : Cond.code yX12_puts cX12_puts 3 none ∈ zT := zmem1 zsub_7 23 rfl rfl
theorem m_ml_RX12_211 : Cond.methodLink RX12 211 yX12_puts ∈ zT := zmem1 zsub_7 20 rfl rfl
theorem m_im_X12_puts : Cond.instanceMethod yX12_puts ∈ zT := zmem1 zsub_7 22 rfl rfl
theorem m_se_X12_puts : Cond.selects RX12 yX12_puts yX12_puts ∈ zT := zmem 66 rfl rfl
theorem m_co_X12_stepsOn : Cond.code yX12_stepsOn cX12_stepsOn 1 (some .boolean) ∈ zT := zmem1 zsub_7 27 rfl rfl
theorem m_ml_RX12_214 : Cond.methodLink RX12 214 yX12_stepsOn ∈ zT := zmem1 zsub_7 24 rfl rfl
theorem m_im_X12_stepsOn : Cond.instanceMethod yX12_stepsOn ∈ zT := zmem1 zsub_7 26 rfl rfl
theorem m_se_X12_stepsOn : Cond.selects RX12 yX12_stepsOn yX12_stepsOn ∈ zT := zmem 67 rfl rfl
theorem m_co_X12_isFree : Cond.code yX12_isFree cX12_isFree 2 (some .boolean) ∈ zT := zmem1 zsub_7 71 rfl rfl
theorem m_ml_RX12_223 : Cond.methodLink RX12 223 yX12_isFree ∈ zT := zmem1 zsub_7 68 rfl rfl
theorem m_im_X12_isFree : Cond.instanceMethod yX12_isFree ∈ zT := zmem1 zsub_7 70 rfl rfl
theorem m_se_X12_isFree : Cond.selects RX12 yX12_isFree yX12_isFree ∈ zT := zmem 73 rfl rfl
theorem kV_RX12_211 {R : Room} {s : State} {args : Array Value} {d mc ms : Nat} (hts : ∀ w ∈ zT, w.before args s = true) (h1 : d + 1 ≤ R.frames) (h2 : 8 + (3 + 11) + 40 * d ≤ R.locals) : CallW R s args RX12 RX12 211 yX12_puts cX12_puts 3 none (zW yX12_puts cX12_puts 3 none) (zR d mc ms) mc ms 1 := z_cwV hts m_co_X12_puts m_ml_RX12_211 m_im_X12_puts m_se_X12_puts m_ii_RX12 (by decide +kernel) h1 h2
theorem kV_RX12_214 {R : Room} {s : State} {args : Array Value} {d mc ms : Nat} (hts : ∀ w ∈ zT, w.before args s = true) (h1 : d + 1 ≤ R.frames) (h2 : 8 + (1 + 11) + 40 * d ≤ R.locals) : CallW R s args RX12 RX12 214 yX12_stepsOn cX12_stepsOn 1 (some .boolean) (zW yX12_stepsOn cX12_stepsOn 1 (some .boolean)) (zR d mc ms) mc ms 0 := z_cwV hts m_co_X12_stepsOn m_ml_RX12_214 m_im_X12_stepsOn m_se_X12_stepsOn m_ii_RX12 (by decide +kernel) h1 h2
theorem kV_RX12_223 {R : Room} {s : State} {args : Array Value} {d mc ms : Nat} (hts : ∀ w ∈ zT, w.before args s = true) (h1 : d + 1 ≤ R.frames) (h2 : 8 + (2 + 11) + 40 * d ≤ R.locals) : CallW R s args RX12 RX12 223 yX12_isFree cX12_isFree 2 (some .boolean) (zW yX12_isFree cX12_isFree 2 (some .boolean)) (zR d mc ms) mc ms 1 := z_cwV hts m_co_X12_isFree m_ml_RX12_223 m_im_X12_isFree m_se_X12_isFree m_ii_RX12 (by decide +kernel) h1 h2
theorem dX12_puts_0 : decode cX12_puts 0 = .ok (.aload_n 0, 1) := zo_42 (by decide +kernel)
theorem dX12_puts_1 : decode cX12_puts 1 = .ok (.iload_n 1, 1) := zo_27 (by decide +kernel)
theorem dX12_puts_2 : decode cX12_puts 2 = .ok (.putfield 202, 3) := zo_181 (by decide +kernel)
theorem dX12_puts_5 : decode cX12_puts 5 = .ok (.aload_n 0, 1) := zo_42 (by decide +kernel)
theorem dX12_puts_6 : decode cX12_puts 6 = .ok (.iconst 0, 1) := zo_3 (by decide +kernel)
theorem dX12_puts_7 : decode cX12_puts 7 = .ok (.putfield 208, 3) := zo_181 (by decide +kernel)
theorem dX12_puts_10 : decode cX12_puts 10 = .ok (.iconst 0, 1) := zo_3 (by decide +kernel)
theorem dX12_puts_11 : decode cX12_puts 11 = .ok (.istore_n 2, 1) := zo_61 (by decide +kernel)
theorem dX12_puts_12 : decode cX12_puts 12 = .ok (.iload_n 2, 1) := zo_28 (by decide +kernel)
theorem dX12_puts_13 : decode cX12_puts 13 = .ok (.bipush 7, 2) := zo_16 (by decide +kernel)
theorem dX12_puts_15 : decode cX12_puts 15 = .ok (.if_icmp .ge 25, 3) := zo_162 (by decide +kernel)
theorem dX12_puts_18 : decode cX12_puts 18 = .ok (.aload_n 0, 1) := zo_42 (by decide +kernel)
theorem dX12_puts_19 : decode cX12_puts 19 = .ok (.getfield 29, 3) := zo_180 (by decide +kernel)
theorem dX12_puts_22 : decode cX12_puts 22 = .ok (.iload_n 2, 1) := zo_28 (by decide +kernel)
theorem dX12_puts_23 : decode cX12_puts 23 = .ok (.iload_n 2, 1) := zo_28 (by decide +kernel)
theorem dX12_puts_24 : decode cX12_puts 24 = .ok (.iload_n 1, 1) := zo_27 (by decide +kernel)
theorem dX12_puts_25 : decode cX12_puts 25 = .ok (.if_icmp .ne 7, 3) := zo_160 (by decide +kernel)
theorem dX12_puts_28 : decode cX12_puts 28 = .ok (.iconst 1, 1) := zo_4 (by decide +kernel)
theorem dX12_puts_29 : decode cX12_puts 29 = .ok (.goto 4, 3) := zo_167 (by decide +kernel)
theorem dX12_puts_32 : decode cX12_puts 32 = .ok (.iconst 0, 1) := zo_3 (by decide +kernel)
theorem dX12_puts_33 : decode cX12_puts 33 = .ok (.iastore, 1) := zo_79 (by decide +kernel)
theorem dX12_puts_34 : decode cX12_puts 34 = .ok (.iinc 2 1, 3) := zo_132 (by decide +kernel)
theorem dX12_puts_37 : decode cX12_puts 37 = .ok (.goto (-25), 3) := zo_167 (by decide +kernel)
theorem dX12_puts_40 : decode cX12_puts 40 = .ok (.return_, 1) := zo_177 (by decide +kernel)
theorem dX12_walks_0 : decode cX12_walks 0 = .ok (.aload_n 0, 1) := zo_42 (by decide +kernel)
theorem dX12_walks_1 : decode cX12_walks 1 = .ok (.iload_n 1, 1) := zo_27 (by decide +kernel)
theorem dX12_walks_2 : decode cX12_walks 2 = .ok (.invokevirtual 211, 3) := zo_182 (by decide +kernel)
theorem dX12_walks_5 : decode cX12_walks 5 = .ok (.iconst 1, 1) := zo_4 (by decide +kernel)
theorem dX12_walks_6 : decode cX12_walks 6 = .ok (.istore_n 2, 1) := zo_61 (by decide +kernel)
theorem dX12_walks_7 : decode cX12_walks 7 = .ok (.aload_n 0, 1) := zo_42 (by decide +kernel)
theorem dX12_walks_8 : decode cX12_walks 8 = .ok (.getfield 208, 3) := zo_180 (by decide +kernel)
theorem dX12_walks_11 : decode cX12_walks 11 = .ok (.sipush 499, 3) := zo_17 (by decide +kernel)
theorem dX12_walks_14 : decode cX12_walks 14 = .ok (.if_icmp .ge 15, 3) := zo_162 (by decide +kernel)
theorem dX12_walks_17 : decode cX12_walks 17 = .ok (.iload_n 2, 1) := zo_28 (by decide +kernel)
theorem dX12_walks_18 : decode cX12_walks 18 = .ok (.ifCond .eq 11, 3) := zo_153 (by decide +kernel)
theorem dX12_walks_21 : decode cX12_walks 21 = .ok (.aload_n 0, 1) := zo_42 (by decide +kernel)
theorem dX12_walks_22 : decode cX12_walks 22 = .ok (.invokevirtual 214, 3) := zo_182 (by decide +kernel)
theorem dX12_walks_25 : decode cX12_walks 25 = .ok (.istore_n 2, 1) := zo_61 (by decide +kernel)
theorem dX12_walks_26 : decode cX12_walks 26 = .ok (.goto (-19), 3) := zo_167 (by decide +kernel)
theorem dX12_walks_29 : decode cX12_walks 29 = .ok (.aload_n 0, 1) := zo_42 (by decide +kernel)
theorem dX12_walks_30 : decode cX12_walks 30 = .ok (.aload_n 0, 1) := zo_42 (by decide +kernel)
theorem dX12_walks_31 : decode cX12_walks 31 = .ok (.getfield 202, 3) := zo_180 (by decide +kernel)
theorem dX12_walks_34 : decode cX12_walks 34 = .ok (.invokevirtual 178, 3) := zo_182 (by decide +kernel)
theorem dX12_walks_37 : decode cX12_walks 37 = .ok (.ireturn, 1) := zo_172 (by decide +kernel)
theorem dX12_postsNow_0 : decode cX12_postsNow 0 = .ok (.iconst 0, 1) := zo_3 (by decide +kernel)
theorem dX12_postsNow_1 : decode cX12_postsNow 1 = .ok (.istore_n 1, 1) := zo_60 (by decide +kernel)
theorem dX12_postsNow_2 : decode cX12_postsNow 2 = .ok (.iconst 0, 1) := zo_3 (by decide +kernel)
theorem dX12_postsNow_3 : decode cX12_postsNow 3 = .ok (.istore_n 2, 1) := zo_61 (by decide +kernel)
theorem dX12_postsNow_4 : decode cX12_postsNow 4 = .ok (.iload_n 2, 1) := zo_28 (by decide +kernel)
theorem dX12_postsNow_5 : decode cX12_postsNow 5 = .ok (.aload_n 0, 1) := zo_42 (by decide +kernel)
theorem dX12_postsNow_6 : decode cX12_postsNow 6 = .ok (.getfield 169, 3) := zo_180 (by decide +kernel)
theorem dX12_postsNow_9 : decode cX12_postsNow 9 = .ok (.if_icmp .ge 20, 3) := zo_162 (by decide +kernel)
theorem dX12_postsNow_12 : decode cX12_postsNow 12 = .ok (.iconst 4, 1) := zo_7 (by decide +kernel)
theorem dX12_postsNow_13 : decode cX12_postsNow 13 = .ok (.iload_n 1, 1) := zo_27 (by decide +kernel)
theorem dX12_postsNow_14 : decode cX12_postsNow 14 = .ok (.imul, 1) := zo_104 (by decide +kernel)
theorem dX12_postsNow_15 : decode cX12_postsNow 15 = .ok (.aload_n 0, 1) := zo_42 (by decide +kernel)
theorem dX12_postsNow_16 : decode cX12_postsNow 16 = .ok (.getfield 20, 3) := zo_180 (by decide +kernel)
theorem dX12_postsNow_19 : decode cX12_postsNow 19 = .ok (.iload_n 2, 1) := zo_28 (by decide +kernel)
theorem dX12_postsNow_20 : decode cX12_postsNow 20 = .ok (.iaload, 1) := zo_46 (by decide +kernel)
theorem dX12_postsNow_21 : decode cX12_postsNow 21 = .ok (.iadd, 1) := zo_96 (by decide +kernel)
theorem dX12_postsNow_22 : decode cX12_postsNow 22 = .ok (.istore_n 1, 1) := zo_60 (by decide +kernel)
theorem dX12_postsNow_23 : decode cX12_postsNow 23 = .ok (.iinc 2 1, 3) := zo_132 (by decide +kernel)
theorem dX12_postsNow_26 : decode cX12_postsNow 26 = .ok (.goto (-22), 3) := zo_167 (by decide +kernel)
theorem dX12_postsNow_29 : decode cX12_postsNow 29 = .ok (.iload_n 1, 1) := zo_27 (by decide +kernel)
theorem dX12_postsNow_30 : decode cX12_postsNow 30 = .ok (.ireturn, 1) := zo_172 (by decide +kernel)
theorem dX12_waysMany_0 : decode cX12_waysMany 0 = .ok (.iconst 1, 1) := zo_4 (by decide +kernel)
theorem dX12_waysMany_1 : decode cX12_waysMany 1 = .ok (.istore_n 1, 1) := zo_60 (by decide +kernel)
theorem dX12_waysMany_2 : decode cX12_waysMany 2 = .ok (.iconst 0, 1) := zo_3 (by decide +kernel)
theorem dX12_waysMany_3 : decode cX12_waysMany 3 = .ok (.istore_n 2, 1) := zo_61 (by decide +kernel)
theorem dX12_waysMany_4 : decode cX12_waysMany 4 = .ok (.iload_n 2, 1) := zo_28 (by decide +kernel)
theorem dX12_waysMany_5 : decode cX12_waysMany 5 = .ok (.aload_n 0, 1) := zo_42 (by decide +kernel)
theorem dX12_waysMany_6 : decode cX12_waysMany 6 = .ok (.getfield 169, 3) := zo_180 (by decide +kernel)
theorem dX12_waysMany_9 : decode cX12_waysMany 9 = .ok (.if_icmp .ge 29, 3) := zo_162 (by decide +kernel)
theorem dX12_waysMany_12 : decode cX12_waysMany 12 = .ok (.iload_n 1, 1) := zo_27 (by decide +kernel)
theorem dX12_waysMany_13 : decode cX12_waysMany 13 = .ok (.aload_n 0, 1) := zo_42 (by decide +kernel)
theorem dX12_waysMany_14 : decode cX12_waysMany 14 = .ok (.iload_n 2, 1) := zo_28 (by decide +kernel)
theorem dX12_waysMany_15 : decode cX12_waysMany 15 = .ok (.invokevirtual 223, 3) := zo_182 (by decide +kernel)
theorem dX12_waysMany_18 : decode cX12_waysMany 18 = .ok (.ifCond .eq 11, 3) := zo_153 (by decide +kernel)
theorem dX12_waysMany_21 : decode cX12_waysMany 21 = .ok (.aload_n 0, 1) := zo_42 (by decide +kernel)
theorem dX12_waysMany_22 : decode cX12_waysMany 22 = .ok (.iload_n 2, 1) := zo_28 (by decide +kernel)
theorem dX12_waysMany_23 : decode cX12_waysMany 23 = .ok (.invokevirtual 181, 3) := zo_182 (by decide +kernel)
theorem dX12_waysMany_26 : decode cX12_waysMany 26 = .ok (.goto 4, 3) := zo_167 (by decide +kernel)
theorem dX12_waysMany_29 : decode cX12_waysMany 29 = .ok (.iconst 1, 1) := zo_4 (by decide +kernel)
theorem dX12_waysMany_30 : decode cX12_waysMany 30 = .ok (.imul, 1) := zo_104 (by decide +kernel)
theorem dX12_waysMany_31 : decode cX12_waysMany 31 = .ok (.istore_n 1, 1) := zo_60 (by decide +kernel)
theorem dX12_waysMany_32 : decode cX12_waysMany 32 = .ok (.iinc 2 1, 3) := zo_132 (by decide +kernel)
theorem dX12_waysMany_35 : decode cX12_waysMany 35 = .ok (.goto (-31), 3) := zo_167 (by decide +kernel)
theorem dX12_waysMany_38 : decode cX12_waysMany 38 = .ok (.iload_n 1, 1) := zo_27 (by decide +kernel)
theorem dX12_waysMany_39 : decode cX12_waysMany 39 = .ok (.ireturn, 1) := zo_172 (by decide +kernel)
theorem dX12_setsWay_0 : decode cX12_setsWay 0 = .ok (.iload_n 1, 1) := zo_27 (by decide +kernel)
theorem dX12_setsWay_1 : decode cX12_setsWay 1 = .ok (.istore_n 2, 1) := zo_61 (by decide +kernel)
theorem dX12_setsWay_2 : decode cX12_setsWay 2 = .ok (.aload_n 0, 1) := zo_42 (by decide +kernel)
theorem dX12_setsWay_3 : decode cX12_setsWay 3 = .ok (.getfield 169, 3) := zo_180 (by decide +kernel)
theorem dX12_setsWay_6 : decode cX12_setsWay 6 = .ok (.iconst 1, 1) := zo_4 (by decide +kernel)
theorem dX12_setsWay_7 : decode cX12_setsWay 7 = .ok (.isub, 1) := zo_100 (by decide +kernel)
theorem dX12_setsWay_8 : decode cX12_setsWay 8 = .ok (.istore_n 3, 1) := zo_62 (by decide +kernel)
theorem dX12_setsWay_9 : decode cX12_setsWay 9 = .ok (.iload_n 3, 1) := zo_29 (by decide +kernel)
theorem dX12_setsWay_10 : decode cX12_setsWay 10 = .ok (.ifCond .lt 54, 3) := zo_155 (by decide +kernel)
theorem dX12_setsWay_13 : decode cX12_setsWay 13 = .ok (.aload_n 0, 1) := zo_42 (by decide +kernel)
theorem dX12_setsWay_14 : decode cX12_setsWay 14 = .ok (.getfield 20, 3) := zo_180 (by decide +kernel)
theorem dX12_setsWay_17 : decode cX12_setsWay 17 = .ok (.iload_n 3, 1) := zo_29 (by decide +kernel)
theorem dX12_setsWay_18 : decode cX12_setsWay 18 = .ok (.aload_n 0, 1) := zo_42 (by decide +kernel)
theorem dX12_setsWay_19 : decode cX12_setsWay 19 = .ok (.iload_n 3, 1) := zo_29 (by decide +kernel)
theorem dX12_setsWay_20 : decode cX12_setsWay 20 = .ok (.invokevirtual 223, 3) := zo_182 (by decide +kernel)
theorem dX12_setsWay_23 : decode cX12_setsWay 23 = .ok (.ifCond .eq 13, 3) := zo_153 (by decide +kernel)
theorem dX12_setsWay_26 : decode cX12_setsWay 26 = .ok (.iload_n 2, 1) := zo_28 (by decide +kernel)
theorem dX12_setsWay_27 : decode cX12_setsWay 27 = .ok (.aload_n 0, 1) := zo_42 (by decide +kernel)
theorem dX12_setsWay_28 : decode cX12_setsWay 28 = .ok (.iload_n 3, 1) := zo_29 (by decide +kernel)
theorem dX12_setsWay_29 : decode cX12_setsWay 29 = .ok (.invokevirtual 181, 3) := zo_182 (by decide +kernel)
theorem dX12_setsWay_32 : decode cX12_setsWay 32 = .ok (.irem, 1) := zo_112 (by decide +kernel)
theorem dX12_setsWay_33 : decode cX12_setsWay 33 = .ok (.goto 4, 3) := zo_167 (by decide +kernel)
theorem dX12_setsWay_36 : decode cX12_setsWay 36 = .ok (.iconst 0, 1) := zo_3 (by decide +kernel)
theorem dX12_setsWay_37 : decode cX12_setsWay 37 = .ok (.iastore, 1) := zo_79 (by decide +kernel)
theorem dX12_setsWay_38 : decode cX12_setsWay 38 = .ok (.iload_n 2, 1) := zo_28 (by decide +kernel)
theorem dX12_setsWay_39 : decode cX12_setsWay 39 = .ok (.aload_n 0, 1) := zo_42 (by decide +kernel)
theorem dX12_setsWay_40 : decode cX12_setsWay 40 = .ok (.iload_n 3, 1) := zo_29 (by decide +kernel)
theorem dX12_setsWay_41 : decode cX12_setsWay 41 = .ok (.invokevirtual 223, 3) := zo_182 (by decide +kernel)
theorem dX12_setsWay_44 : decode cX12_setsWay 44 = .ok (.ifCond .eq 11, 3) := zo_153 (by decide +kernel)
theorem dX12_setsWay_47 : decode cX12_setsWay 47 = .ok (.aload_n 0, 1) := zo_42 (by decide +kernel)
theorem dX12_setsWay_48 : decode cX12_setsWay 48 = .ok (.iload_n 3, 1) := zo_29 (by decide +kernel)
theorem dX12_setsWay_49 : decode cX12_setsWay 49 = .ok (.invokevirtual 181, 3) := zo_182 (by decide +kernel)
theorem dX12_setsWay_52 : decode cX12_setsWay 52 = .ok (.goto 4, 3) := zo_167 (by decide +kernel)
theorem dX12_setsWay_55 : decode cX12_setsWay 55 = .ok (.iconst 1, 1) := zo_4 (by decide +kernel)
theorem dX12_setsWay_56 : decode cX12_setsWay 56 = .ok (.idiv, 1) := zo_108 (by decide +kernel)
theorem dX12_setsWay_57 : decode cX12_setsWay 57 = .ok (.istore_n 2, 1) := zo_61 (by decide +kernel)
theorem dX12_setsWay_58 : decode cX12_setsWay 58 = .ok (.iinc 3 (-1), 3) := zo_132 (by decide +kernel)
theorem dX12_setsWay_61 : decode cX12_setsWay 61 = .ok (.goto (-52), 3) := zo_167 (by decide +kernel)
theorem dX12_setsWay_64 : decode cX12_setsWay 64 = .ok (.return_, 1) := zo_177 (by decide +kernel)

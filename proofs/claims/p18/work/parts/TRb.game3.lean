theorem gUp {x : Nat → Int32} {g : Nat → Int} {w : Nat} {v : Int32} (h : ∀ p, p < w → (x p).toInt = g p) (hv : v.toInt = g w) : ∀ p, p < w + 1 → (upd x w v p).toInt = g p := by
  intro p hp
  by_cases q : p = w
  · rw [z_eq q, q]
    exact hv
  · rw [z_ne q]
    exact h p (by omega)
theorem gUk {x f : Nat → Int32} {w : Nat} {v : Int32} (h : ∀ p, w ≤ p → x p = f p) : ∀ p, w + 1 ≤ p → upd x w v p = f p := fun p hp => (z_ne (by omega)).trans (h p (by omega))
set_option maxHeartbeats 4000000 in
set_option maxRecDepth 100000 in
/-- c_fm_game -/
theorem c_fm_game (l : Launch) (T : zTy) (mo : Nat) (m_all : Nat) (m_has : Nat) (i_size : Int32) (i_next : Int32) (i_where : Int32) (i_token : Int32) (i_number : Int32) (i_word : Int32) (i_wrong : Int32) (i_farCrossing : Int32) (m_read : Nat) (i_z0 : Int32) (i_crossings : Int32) (i_inns : Int32) (m_posts : Nat) (m_shut : Nat) (m_here : Nat) (i_steps : Int32) (i_done : Int32) (i_at : Int32) (i_gone : Int32) (m_was : Nat) (m_came : Nat) (m_seenAt : Nat) (m_rowWorth : Nat) (m_farBy : Nat) (m_used : Nat) (i_everywhere : Int32) (i_again0 : Int32) (i_d0 : Int32) (i_never : Int32) (i_firstCame : Int32) (i_longRun : Int32) (i_moved : Int32) (i_crowd : Int32) (i_l0 : Int32) (i_fitMany : Int32) (i_fitLeast : Int32) (i_fitMost : Int32) (m_fitPost : Nat) (m_fitEnd : Nat) (m_keptPosts : Nat) (i_x0 : Int32) (f_all : Nat → Int32) (f_posts : Nat → Int32) (f_shut : Nat → Int32) (f_here : Nat → Int32) (f_was : Nat → Int32) (f_rowWorth : Nat → Int32) (l_ : Int32) (c_ : Int32) (n_ : Int32) (f_ : Int32) (hB : zBI f_all) (hVA : zVA f_all) (hVZ0 : zVZ f_all 610 (f_all 610)) (hVZ1 : zVZ f_all 661 (f_all 661)) : zMi l T yX12_game cX12_game 11 (some .int) 6 0 0 [.ref mo, .int l_, .int c_, .int n_, .int f_] [[zO11 mo m_all m_has i_size i_next i_where i_token i_number i_word i_wrong i_farCrossing m_read i_z0 i_crossings i_inns m_posts m_shut m_here i_steps i_done i_at i_gone m_was m_came m_seenAt m_rowWorth m_farBy m_used i_everywhere i_again0 i_d0 i_never i_firstCame i_longRun i_moved i_crowd i_l0 i_fitMany i_fitLeast i_fitMost m_fitPost m_fitEnd m_keptPosts i_x0], [zAr T 0 m_all 3952 f_all], [zAr T 0 m_posts 7 f_posts], [zAr T 0 m_shut 7 f_shut], [zAr T 0 m_here 7 f_here], [zAr T 0 m_was 7 f_was], [zAr T 0 m_rowWorth 512 f_rowWorth]] (fun (r : Int32) bs => ∃ (j_z0 : Int32) (j_crossings : Int32) (j_inns : Int32) (j_steps : Int32) (j_done : Int32) (j_at : Int32) (j_gone : Int32) (g_posts : Nat → Int32) (g_shut : Nat → Int32) (g_here : Nat → Int32) (g_was : Nat → Int32) (g_rowWorth : Nat → Int32), bs = [[zO11 mo m_all m_has i_size i_next i_where i_token i_number i_word i_wrong i_farCrossing m_read j_z0 j_crossings j_inns m_posts m_shut m_here j_steps j_done j_at j_gone m_was m_came m_seenAt m_rowWorth m_farBy m_used i_everywhere i_again0 i_d0 i_never i_firstCame i_longRun i_moved i_crowd i_l0 i_fitMany i_fitLeast i_fitMost m_fitPost m_fitEnd m_keptPosts i_x0], [zAr T 0 m_all 3952 f_all], [zAr T 0 m_posts 7 g_posts], [zAr T 0 m_shut 7 g_shut], [zAr T 0 m_here 7 g_here], [zAr T 0 m_was 7 g_was], [zAr T 0 m_rowWorth 512 g_rowWorth]] ∧ ((l_.toInt < 0 ∨ (f_all 0).toInt ≤ l_.toInt) ∧ r = -9 ∨ l_.toInt = 0 ∧ 0 < (f_all 0).toInt ∧ r = pGame f_all 610 c_ n_ f_ ∨ l_.toInt = 1 ∧ 1 < (f_all 0).toInt ∧ r = pGame f_all 661 c_ n_ f_)) := by
  refine zMi_of (own := RX12) (by decide) rfl (Nat.le_of_ble_eq_true rfl) ?_
  intro p e s m args below meth c A ls C hr hlocks hnm hAe G hl
  refine zHide (fun Qz_ hQz_ => ?_)
  have hx := C.1
  have hb := C.2.1
  have hl : lv_has ls 11 [(0, .ref mo), (1, .int l_), (2, .int c_), (3, .int n_), (4, .int f_)] := hl
  refine lv_aload_n hx hb dX12_game_0 rfl (lv_at hl 0 rfl) ?_
  refine lv_iload_n hx hb dX12_game_1 rfl (lv_at hl 1 rfl) ?_
  refine z_Vi (bc := [[zO11 mo m_all m_has i_size i_next i_where i_token i_number i_word i_wrong i_farCrossing m_read i_z0 i_crossings i_inns m_posts m_shut m_here i_steps i_done i_at i_gone m_was m_came m_seenAt m_rowWorth m_farBy m_used i_everywhere i_again0 i_d0 i_never i_firstCame i_longRun i_moved i_crowd i_l0 i_fitMany i_fitLeast i_fitMost m_fitPost m_fitEnd m_keptPosts i_x0], [zAr T 0 m_all 3952 f_all], [zAr T 0 m_posts 7 f_posts], [zAr T 0 m_shut 7 f_shut], [zAr T 0 m_here 7 f_here]]) (br := [[zAr T 0 m_was 7 f_was], [zAr T 0 m_rowWorth 512 f_rowWorth]]) (As := [.int l_]) (rest := []) C G (c_m_isLand l T mo m_all m_has i_size i_next i_where i_token i_number i_word i_wrong i_farCrossing m_read i_z0 i_crossings i_inns m_posts m_shut m_here i_steps i_done i_at i_gone m_was m_came m_seenAt m_rowWorth m_farBy m_used i_everywhere i_again0 i_d0 i_never i_firstCame i_longRun i_moved i_crowd i_l0 i_fitMany i_fitLeast i_fitMost m_fitPost m_fitEnd m_keptPosts i_x0 f_all f_posts f_shut f_here l_ (by first | with_reducible assumption | with_reducible rfl | omega | assumption | rfl | decide)) (kV_RX12_184 C.2.2.2.2 (Nat.le_of_ble_eq_true rfl) (Nat.le_of_ble_eq_true rfl)) [0, 1, 2, 3, 4] [0, 0, 0, 0, 0] rfl rfl (ci := 11) (qc := (RX12, TX12, 43)) rfl rfl (List.mem_flatten.mpr ⟨_, List.mem_of_getElem? (i := 0) rfl, List.mem_cons_self⟩) rfl rfl hl.1 dX12_game_2 (Nat.le_of_ble_eq_true rfl) (Nat.le_of_ble_eq_true rfl) (fun r_10 b1 H locs hw G => ?_)
  refine zEx8 hw ?_
  intro j_z0_1 j_crossings_2 j_inns_3 j_steps_4 j_done_5 g_posts_6 g_shut_7 g_here_8
  refine zCu2 ?_
  intro hbs9 hc_9
  clear hw
  subst hbs9
  have G : zS T A s.heap s [[zAr T 0 m_was 7 f_was], [zAr T 0 m_rowWorth 512 f_rowWorth], [zO11 mo m_all m_has i_size i_next i_where i_token i_number i_word i_wrong i_farCrossing m_read j_z0_1 j_crossings_2 j_inns_3 m_posts m_shut m_here j_steps_4 j_done_5 i_at i_gone m_was m_came m_seenAt m_rowWorth m_farBy m_used i_everywhere i_again0 i_d0 i_never i_firstCame i_longRun i_moved i_crowd i_l0 i_fitMany i_fitLeast i_fitMost m_fitPost m_fitEnd m_keptPosts i_x0], [zAr T 0 m_all 3952 f_all], [zAr T 0 m_posts 7 g_posts_6], [zAr T 0 m_shut 7 g_shut_7], [zAr T 0 m_here 7 g_here_8]] _ _ := G
  rcases hc_9 with ⟨rfl, h_11, h_12, h_13, h_14, h_15, h_16, h_17, h_18, h_19, h_20, h_21, h_22⟩ | ⟨rfl, h_23⟩
  · have h_11 : 0 ≤ l_.toInt := h_11
    have h_12 : l_.toInt ≤ 1 := h_12
    have h_13 : l_.toInt < (f_all 0).toInt := h_13
    have h_14 : j_z0_1.toInt = 610 + 51 * l_.toInt := h_14
    have h_15 : zML f_all j_z0_1 j_crossings_2 := h_15
    have h_16 : zMP g_posts_6 := h_16
    have h_17 : j_inns_3 = f_all (j_z0_1.toInt.toNat + 1) := h_17
    have h_18 : j_steps_4 = 0 := h_18
    have h_19 : j_done_5 = 0 := h_19
    have h_20 : (∀ j, j < 7 → g_posts_6 j = zPt f_all j_z0_1 (nI j)) := h_20
    have h_21 : (∀ j, j < 7 → g_shut_7 j = 0) := h_21
    have h_22 : (∀ j, j < 7 → g_here_8 j = zWk f_all j_z0_1 j) := h_22
    have hLx := h_15
    have hcr := hLx.cr
    have hzx := hLx.1
    have hPx := h_16
    have hVx : zMV (zRo f_all j_z0_1) g_posts_6 := zVA_z hVA hzx h_20
    refine lv_if_eq (tgt := 25) hx hb dX12_game_5 (by decide) (fun q => absurd q (by decide)) (fun _ => ?_)
    rcases (show l_.toInt = 0 ∨ l_.toInt = 1 from by have hq9 := hB.2.1 0 (by decide); omega) with hkk | hkk
    · obtain rfl : j_z0_1 = 610 := Int32.toInt_inj.mp (by show j_z0_1.toInt = 610; omega)
      have hcx : j_crossings_2.toInt = (f_all 610).toInt := by rw [hLx.2.1]; rfl
      have hVz : zVZ f_all 610 j_crossings_2 := by rw [hLx.2.1]; exact hVZ0
      have hWe : (zWo f_all 610 j_inns_3) = pW f_all 610 := congrArg (zWo f_all 610) h_17
      have hS0 : ∀ j, j < 7 → g_shut_7 j = 0 := h_21
      have hNz : 1 ≤ aPr (zWo f_all 610 j_inns_3) 7 := aPr_p _
      have hNi : j_inns_3 = f_all (610 + 1) := h_17
      refine lv_aload_n hx hb dX12_game_8 rfl (lv_at hl 0 rfl) ?_
      refine lv_iload_n hx hb dX12_game_9 rfl (lv_at hl 2 rfl) ?_
      refine z_Vi (bc := [[zO11 mo m_all m_has i_size i_next i_where i_token i_number i_word i_wrong i_farCrossing m_read 610 j_crossings_2 j_inns_3 m_posts m_shut m_here j_steps_4 j_done_5 i_at i_gone m_was m_came m_seenAt m_rowWorth m_farBy m_used i_everywhere i_again0 i_d0 i_never i_firstCame i_longRun i_moved i_crowd i_l0 i_fitMany i_fitLeast i_fitMost m_fitPost m_fitEnd m_keptPosts i_x0]]) (br := [[zAr T 0 m_was 7 f_was], [zAr T 0 m_rowWorth 512 f_rowWorth], [zAr T 0 m_all 3952 f_all], [zAr T 0 m_posts 7 g_posts_6], [zAr T 0 m_shut 7 g_shut_7], [zAr T 0 m_here 7 g_here_8]]) (As := [.int c_]) (rest := []) C G (c_m_isCrossing l T mo m_all m_has i_size i_next i_where i_token i_number i_word i_wrong i_farCrossing m_read 610 j_crossings_2 j_inns_3 m_posts m_shut m_here j_steps_4 j_done_5 i_at i_gone m_was m_came m_seenAt m_rowWorth m_farBy m_used i_everywhere i_again0 i_d0 i_never i_firstCame i_longRun i_moved i_crowd i_l0 i_fitMany i_fitLeast i_fitMost m_fitPost m_fitEnd m_keptPosts i_x0 c_ (by first | with_reducible assumption | with_reducible rfl | omega | assumption | rfl | decide)) (kV_RX12_187 C.2.2.2.2 (Nat.le_of_ble_eq_true rfl) (Nat.le_of_ble_eq_true rfl)) [2] [2] rfl rfl (ci := 11) (qc := (RX12, TX12, 43)) rfl rfl (List.mem_flatten.mpr ⟨_, List.mem_of_getElem? (i := 0) rfl, List.mem_cons_self⟩) rfl rfl hl.1 dX12_game_10 (Nat.le_of_ble_eq_true rfl) (Nat.le_of_ble_eq_true rfl) (fun r_25 b1 H locs hw G => ?_)
      refine zAn2 hw ?_
      intro hbs9 hc_24
      clear hw
      subst hbs9
      have G : zS T A s.heap s [[zAr T 0 m_was 7 f_was], [zAr T 0 m_rowWorth 512 f_rowWorth], [zAr T 0 m_all 3952 f_all], [zAr T 0 m_posts 7 g_posts_6], [zAr T 0 m_shut 7 g_shut_7], [zAr T 0 m_here 7 g_here_8], [zO11 mo m_all m_has i_size i_next i_where i_token i_number i_word i_wrong i_farCrossing m_read 610 j_crossings_2 j_inns_3 m_posts m_shut m_here j_steps_4 j_done_5 i_at i_gone m_was m_came m_seenAt m_rowWorth m_farBy m_used i_everywhere i_again0 i_d0 i_never i_firstCame i_longRun i_moved i_crowd i_l0 i_fitMany i_fitLeast i_fitMost m_fitPost m_fitEnd m_keptPosts i_x0]] _ _ := G
      rcases hc_24 with ⟨rfl, h_26, h_27⟩ | ⟨rfl, h_28⟩
      · have h_26 : 0 ≤ c_.toInt := h_26
        have h_27 : c_.toInt < j_crossings_2.toInt := h_27
        refine lv_if_eq (tgt := 25) hx hb dX12_game_13 (by decide) (fun q => absurd q (by decide)) (fun _ => ?_)
        refine lv_iload_n hx hb dX12_game_16 rfl (lv_at hl 3 rfl) ?_
        refine lv_iconst (v := 0) hx hb dX12_game_17 (by decide) ?_
        refine lv_iconst (v := 3) hx hb dX12_game_18 (by decide) ?_
        refine z_Si (bc := []) (br := [[zAr T 0 m_was 7 f_was], [zAr T 0 m_rowWorth 512 f_rowWorth], [zAr T 0 m_all 3952 f_all], [zAr T 0 m_posts 7 g_posts_6], [zAr T 0 m_shut 7 g_shut_7], [zAr T 0 m_here 7 g_here_8], [zO11 mo m_all m_has i_size i_next i_where i_token i_number i_word i_wrong i_farCrossing m_read 610 j_crossings_2 j_inns_3 m_posts m_shut m_here j_steps_4 j_done_5 i_at i_gone m_was m_came m_seenAt m_rowWorth m_farBy m_used i_everywhere i_again0 i_d0 i_never i_firstCame i_longRun i_moved i_crowd i_l0 i_fitMany i_fitLeast i_fitMost m_fitPost m_fitEnd m_keptPosts i_x0]]) (As := [.int n_, .int 0, .int 3]) (rest := []) C G (c_m_isIn l T n_ 0 3) (kS_RX12_111 C.2.2.2.2 (Nat.le_of_ble_eq_true rfl) (Nat.le_of_ble_eq_true rfl)) [] [] rfl rfl rfl rfl hl.1 dX12_game_19 (Nat.le_of_ble_eq_true rfl) (Nat.le_of_ble_eq_true rfl) (fun r_30 b1 H locs hw G => ?_)
        refine zAn2 hw ?_
        intro hbs9 hc_29
        clear hw
        subst hbs9
        have G : zS T A s.heap s [[zAr T 0 m_was 7 f_was], [zAr T 0 m_rowWorth 512 f_rowWorth], [zAr T 0 m_all 3952 f_all], [zAr T 0 m_posts 7 g_posts_6], [zAr T 0 m_shut 7 g_shut_7], [zAr T 0 m_here 7 g_here_8], [zO11 mo m_all m_has i_size i_next i_where i_token i_number i_word i_wrong i_farCrossing m_read 610 j_crossings_2 j_inns_3 m_posts m_shut m_here j_steps_4 j_done_5 i_at i_gone m_was m_came m_seenAt m_rowWorth m_farBy m_used i_everywhere i_again0 i_d0 i_never i_firstCame i_longRun i_moved i_crowd i_l0 i_fitMany i_fitLeast i_fitMost m_fitPost m_fitEnd m_keptPosts i_x0]] _ _ := G
        rcases hc_29 with ⟨rfl, h_31, h_32⟩ | ⟨rfl, h_33⟩
        · have h_31 : (0 : Int) ≤ n_.toInt := h_31
          have h_32 : n_.toInt ≤ (3 : Int) := h_32
          refine lv_if_ne (tgt := 28) hx hb dX12_game_22 (by decide) (fun _ => ?_) (fun q => absurd q (by decide))
          rcases (show n_.toInt = 0 ∨ n_.toInt = 1 ∨ n_.toInt = 2 ∨ n_.toInt = 3 from by omega) with hnn9 | hnn9 | hnn9 | hnn9
          · obtain rfl : n_ = 0 := Int32.toInt_inj.mp hnn9
            refine lv_iconst (v := 1) hx hb dX12_game_28 (by decide) ?_
            refine lv_iconst (v := 3) hx hb dX12_game_29 (by decide) ?_
            refine lv_iload_n hx hb dX12_game_30 rfl (lv_at hl 3 rfl) ?_
            refine lv_imul hx hb dX12_game_31 ?_
            refine lv_topi (fun y_34 ey_34 => ?_)
            obtain rfl : y_34 = 0 := ey_34.trans (by decide)
            refine lv_ishl hx hb dX12_game_32 ?_
            refine lv_topi (fun y_35 ey_35 => ?_)
            obtain rfl : y_35 = 1 := ey_35.trans (by decide)
            refine lv_istore (lv' := [(5, .int 1), (0, .ref mo), (1, .int l_), (2, .int c_), (3, .int 0), (4, .int f_)]) hx hb dX12_game_33 hl (by decide) (zLvf_h rfl) (fun ls hl => ?_)
            refine lv_iconst (v := 0) hx hb dX12_game_35 (by decide) ?_
            refine lv_istore (lv' := [(6, .int 0), (5, .int 1), (0, .ref mo), (1, .int l_), (2, .int c_), (3, .int 0), (4, .int f_)]) hx hb dX12_game_36 hl (by decide) (zLvf_h rfl) (fun ls hl => ?_)
            refine z_lp10 (T := T) 38 (fun (w : Nat) (xat : Int32) (xgone : Int32) (xsteps : Int32) (xdone : Int32) (xposts : Nat → Int32) (xshut : Nat → Int32) (xhere : Nat → Int32) (xwas : Nat → Int32) (xrowWorth : Nat → Int32) => [[zAr T 0 m_was 7 xwas], [zAr T 0 m_rowWorth 512 xrowWorth], [zAr T 0 m_all 3952 f_all], [zAr T 0 m_posts 7 xposts], [zAr T 0 m_shut 7 xshut], [zAr T 0 m_here 7 xhere], [zO11 mo m_all m_has i_size i_next i_where i_token i_number i_word i_wrong i_farCrossing m_read 610 j_crossings_2 j_inns_3 m_posts m_shut m_here xsteps xdone xat xgone m_was m_came m_seenAt m_rowWorth m_farBy m_used i_everywhere i_again0 i_d0 i_never i_firstCame i_longRun i_moved i_crowd i_l0 i_fitMany i_fitLeast i_fitMost m_fitPost m_fitEnd m_keptPosts i_x0]]) (fun (w : Nat) (xat : Int32) (xgone : Int32) (xsteps : Int32) (xdone : Int32) (xposts : Nat → Int32) (xshut : Nat → Int32) (xhere : Nat → Int32) (xwas : Nat → Int32) (xrowWorth : Nat → Int32) => [(6, .int (nI w)), (5, .int 1), (0, .ref mo), (1, .int l_), (2, .int c_), (3, .int 0), (4, .int f_)]) (fun (w : Nat) (xat : Int32) (xgone : Int32) (xsteps : Int32) (xdone : Int32) (xposts : Nat → Int32) (xshut : Nat → Int32) (xhere : Nat → Int32) (xwas : Nat → Int32) (xrowWorth : Nat → Int32) => w ≤ 1 ∧ (∀ p, p < w → (xrowWorth p).toInt = gRw (zWo f_all 610 j_inns_3) (zLo f_all 610) j_inns_3 c_ (aRs (zWo f_all 610 j_inns_3) (zPo f_all 610) 7) 0 true 0 p)) (fun (w : Nat) (xat : Int32) (xgone : Int32) (xsteps : Int32) (xdone : Int32) (xposts : Nat → Int32) (xshut : Nat → Int32) (xhere : Nat → Int32) (xwas : Nat → Int32) (xrowWorth : Nat → Int32) => 1 - w) ?_ 0 i_at i_gone j_steps_4 j_done_5 g_posts_6 g_shut_7 g_here_8 f_was f_rowWorth (show 0 ≤ 1 ∧ (∀ p, p < 0 → (f_rowWorth p).toInt = gRw (zWo f_all 610 j_inns_3) (zLo f_all 610) j_inns_3 c_ (aRs (zWo f_all 610 j_inns_3) (zPo f_all 610) 7) 0 true 0 p) from ⟨by omega, (fun p hp => absurd hp (Nat.not_lt_zero _))⟩) G (lv_sub hl [0, 1, 2, 3, 4, 5, 6] rfl)
            intro w xat xgone xsteps xdone xposts xshut xhere xwas xrowWorth hI9 ih_38 H locs ls G hl
            replace hI9 : w ≤ 1 ∧ (∀ p, p < w → (xrowWorth p).toInt = gRw (zWo f_all 610 j_inns_3) (zLo f_all 610) j_inns_3 c_ (aRs (zWo f_all 610 j_inns_3) (zPo f_all 610) 7) 0 true 0 p) := hI9
            refine zAn2 hI9 ?_
            intro hww hrow
            clear hI9
            replace G : zS T A s.heap s [[zAr T 0 m_was 7 xwas], [zAr T 0 m_rowWorth 512 xrowWorth], [zAr T 0 m_all 3952 f_all], [zAr T 0 m_posts 7 xposts], [zAr T 0 m_shut 7 xshut], [zAr T 0 m_here 7 xhere], [zO11 mo m_all m_has i_size i_next i_where i_token i_number i_word i_wrong i_farCrossing m_read 610 j_crossings_2 j_inns_3 m_posts m_shut m_here xsteps xdone xat xgone m_was m_came m_seenAt m_rowWorth m_farBy m_used i_everywhere i_again0 i_d0 i_never i_firstCame i_longRun i_moved i_crowd i_l0 i_fitMany i_fitLeast i_fitMost m_fitPost m_fitEnd m_keptPosts i_x0]] _ _ := G
            replace hl : lv_has ls 11 [(6, .int (nI w)), (5, .int 1), (0, .ref mo), (1, .int l_), (2, .int c_), (3, .int 0), (4, .int f_)] := hl
            refine lv_iload hx hb dX12_game_38 (lv_at hl 0 rfl) ?_
            refine lv_iload hx hb dX12_game_40 (lv_at hl 1 rfl) ?_
            refine lv_icmp_ge (tgt := 66) hx hb dX12_game_42 (by decide) (fun c_36 => ?_) (fun c_36 => ?_)
            · have c_36n : 1 ≤ w := (nI_leI (a := 1) (b := w) (by omega) (by omega)).mp c_36
              refine lv_iconst (v := (-1)) hx hb dX12_game_66 (by decide) ?_
              refine lv_istore (lv' := [(6, .int (-1)), (5, .int 1), (0, .ref mo), (1, .int l_), (2, .int c_), (3, .int 0), (4, .int f_)]) hx hb dX12_game_67 hl (by decide) (zLvf_h rfl) (fun ls hl => ?_)
              refine lv_iload_n hx hb dX12_game_69 rfl (lv_at hl 5 rfl) ?_
              refine lv_iconst (v := 1) hx hb dX12_game_70 (by decide) ?_
              refine lv_isub hx hb dX12_game_71 ?_
              refine lv_topi (fun y_37 ey_37 => ?_)
              obtain rfl : y_37 = (-1) := ey_37.trans (by decide)
              refine lv_istore (lv' := [(7, .int (-1)), (6, .int (-1)), (5, .int 1), (0, .ref mo), (1, .int l_), (2, .int c_), (3, .int 0), (4, .int f_)]) hx hb dX12_game_72 hl (by decide) (zLvf_h rfl) (fun ls hl => ?_)
              refine lv_iload hx hb dX12_game_74 (lv_at hl 0 rfl) ?_
              refine lv_if_lt (tgt := 237) hx hb dX12_game_76 (by decide) (fun _ => ?_) (fun q => absurd (by decide) q)
              refine lv_iload hx hb dX12_game_237 (lv_at hl 7 rfl) ?_
              refine lv_if_ne (tgt := 251) hx hb dX12_game_239 (by decide) (fun c_38 => ?_) (fun c_38 => ?_)
              · have c_38n : ¬ f_.toInt = (0 : Int) := fun q => c_38 ((fa_eq _ _).mpr q)
                refine lv_iload hx hb dX12_game_251 (lv_at hl 1 rfl) ?_
                have G := G.sub (bs' := [[zO11 mo m_all m_has i_size i_next i_where i_token i_number i_word i_wrong i_farCrossing m_read 610 j_crossings_2 j_inns_3 m_posts m_shut m_here xsteps xdone xat xgone m_was m_came m_seenAt m_rowWorth m_farBy m_used i_everywhere i_again0 i_d0 i_never i_firstCame i_longRun i_moved i_crowd i_l0 i_fitMany i_fitLeast i_fitMost m_fitPost m_fitEnd m_keptPosts i_x0], [zAr T 0 m_all 3952 f_all], [zAr T 0 m_posts 7 xposts], [zAr T 0 m_shut 7 xshut], [zAr T 0 m_here 7 xhere], [zAr T 0 m_was 7 xwas], [zAr T 0 m_rowWorth 512 xrowWorth]]) [6, 2, 3, 4, 5, 0, 1] rfl
                exact z_back hQz_ (z_iret C hr hlocks G (Nat.le_of_ble_eq_true rfl) (Nat.le_of_ble_eq_true rfl) dX12_game_253 ⟨610, j_crossings_2, j_inns_3, xsteps, xdone, xat, xgone, xposts, xshut, xhere, xwas, xrowWorth, rfl, (Or.inr (Or.inl ⟨by first | with_reducible assumption | assumption, by omega, (by
                                                                have q6 : rGame (zWo f_all 610 j_inns_3) (zLo f_all 610) (zPo f_all 610) j_inns_3 c_ 0 f_ = rGame (pW f_all 610) (zLo f_all 610) (zPo f_all 610) (f_all (610 + 1)) c_ 0 f_ := by rw [← hWe, ← hNi]
                                                                unfold pGame
                                                                rw [if_pos (by show (0 ≤ c_.toInt ∧ c_.toInt < (f_all 610).toInt) ∧ 0 ≤ (0 : Int32).toInt ∧ (0 : Int32).toInt ≤ 3; exact ⟨⟨by omega, by omega⟩, by decide, by decide⟩)]
                                                                refine Eq.trans ?_ q6
                                                                unfold rGame
                                                                rw [if_neg (by first | with_reducible assumption | assumption), if_pos (by decide)])⟩))⟩)
              · have c_38n : f_.toInt = (0 : Int) := (fa_eq _ _).mp c_38
                refine lv_aload_n hx hb dX12_game_242 rfl (lv_at hl 3 rfl) ?_
                refine z_get C G clX12 6 rfl 24 (by decide) m_fl_RX12_38 rfl dX12_game_243 ?_
                refine lv_iconst (v := 0) hx hb dX12_game_246 (by decide) ?_
                refine z_ild C G 1 rfl (vp_in_nI (n := 0) (by decide) (by decide)) dX12_game_247 ?_
                refine lv_topi (fun v_39 ev_39 => ?_)
                rw [show ((0 : Int32).toNatClampNeg) = 0 from rfl] at ev_39
                subst ev_39
                refine lv_goto (tgt := 253) hx hb dX12_game_248 (by decide) ?_
                have G := G.sub (bs' := [[zO11 mo m_all m_has i_size i_next i_where i_token i_number i_word i_wrong i_farCrossing m_read 610 j_crossings_2 j_inns_3 m_posts m_shut m_here xsteps xdone xat xgone m_was m_came m_seenAt m_rowWorth m_farBy m_used i_everywhere i_again0 i_d0 i_never i_firstCame i_longRun i_moved i_crowd i_l0 i_fitMany i_fitLeast i_fitMost m_fitPost m_fitEnd m_keptPosts i_x0], [zAr T 0 m_all 3952 f_all], [zAr T 0 m_posts 7 xposts], [zAr T 0 m_shut 7 xshut], [zAr T 0 m_here 7 xhere], [zAr T 0 m_was 7 xwas], [zAr T 0 m_rowWorth 512 xrowWorth]]) [6, 2, 3, 4, 5, 0, 1] rfl
                exact z_back hQz_ (z_iret C hr hlocks G (Nat.le_of_ble_eq_true rfl) (Nat.le_of_ble_eq_true rfl) dX12_game_253 ⟨610, j_crossings_2, j_inns_3, xsteps, xdone, xat, xgone, xposts, xshut, xhere, xwas, xrowWorth, rfl, (Or.inr (Or.inl ⟨by first | with_reducible assumption | assumption, by omega, (by
                                                                have q6 : rGame (zWo f_all 610 j_inns_3) (zLo f_all 610) (zPo f_all 610) j_inns_3 c_ 0 f_ = rGame (pW f_all 610) (zLo f_all 610) (zPo f_all 610) (f_all (610 + 1)) c_ 0 f_ := by rw [← hWe, ← hNi]
                                                                unfold pGame
                                                                rw [if_pos (by show (0 ≤ c_.toInt ∧ c_.toInt < (f_all 610).toInt) ∧ 0 ≤ (0 : Int32).toInt ∧ (0 : Int32).toInt ≤ 3; exact ⟨⟨by omega, by omega⟩, by decide, by decide⟩)]
                                                                refine Eq.trans ?_ q6
                                                                unfold rGame
                                                                rw [if_pos (by first | with_reducible assumption | assumption)]
                                                                have q8 := gV_0 (W := (zWo f_all 610 j_inns_3)) (L := (zLo f_all 610)) (inn := j_inns_3) (x := c_) 0 true (aRs (zWo f_all 610 j_inns_3) (zPo f_all 610) 7)
                                                                have q5 := Int32.toInt_lt (xrowWorth 0)
                                                                have q7 : (xrowWorth 0).toInt = gV (zWo f_all 610 j_inns_3) (zLo f_all 610) j_inns_3 c_ 0 true (aRs (zWo f_all 610 j_inns_3) (zPo f_all 610) 7) := (hrow 0 (by omega)).trans (if_pos rfl)
                                                                exact z_nI (m := (gV (zWo f_all 610 j_inns_3) (zLo f_all 610) j_inns_3 c_ 0 true (aRs (zWo f_all 610 j_inns_3) (zPo f_all 610) 7)).toNat) (by omega) (by omega))⟩))⟩)
            · have c_36n : ¬ 1 ≤ w := fun q => c_36 ((nI_leI (a := 1) (b := w) (by omega) (by omega)).mpr q)
              refine lv_aload_n hx hb dX12_game_45 rfl (lv_at hl 2 rfl) ?_
              refine z_get C G clX12 6 rfl 24 (by decide) m_fl_RX12_38 rfl dX12_game_46 ?_
              refine lv_iload hx hb dX12_game_49 (lv_at hl 0 rfl) ?_
              refine lv_aload_n hx hb dX12_game_51 rfl (lv_at hl 2 rfl) ?_
              refine lv_iload hx hb dX12_game_52 (lv_at hl 0 rfl) ?_
              refine lv_iload_n hx hb dX12_game_54 rfl (lv_at hl 5 rfl) ?_
              refine lv_iload_n hx hb dX12_game_55 rfl (lv_at hl 4 rfl) ?_
              have ti_40 : (nI w).toInt = ((w : Nat) : Int) := nI_toInt (by omega)
              refine z_Vi (bc := [[zO11 mo m_all m_has i_size i_next i_where i_token i_number i_word i_wrong i_farCrossing m_read 610 j_crossings_2 j_inns_3 m_posts m_shut m_here xsteps xdone xat xgone m_was m_came m_seenAt m_rowWorth m_farBy m_used i_everywhere i_again0 i_d0 i_never i_firstCame i_longRun i_moved i_crowd i_l0 i_fitMany i_fitLeast i_fitMost m_fitPost m_fitEnd m_keptPosts i_x0], [zAr T 0 m_all 3952 f_all], [zAr T 0 m_posts 7 xposts], [zAr T 0 m_shut 7 xshut], [zAr T 0 m_here 7 xhere], [zAr T 0 m_was 7 xwas]]) (br := [[zAr T 0 m_rowWorth 512 xrowWorth]]) (As := [.int (nI w), .int 0, .int c_]) (rest := [.int (nI w), .ref m_rowWorth]) C G (c_fm_gameBy0 l T mo m_all m_has i_size i_next i_where i_token i_number i_word i_wrong i_farCrossing m_read 610 j_crossings_2 j_inns_3 m_posts m_shut m_here xsteps xdone xat xgone m_was m_came m_seenAt m_rowWorth m_farBy m_used i_everywhere i_again0 i_d0 i_never i_firstCame i_longRun i_moved i_crowd i_l0 i_fitMany i_fitLeast i_fitMost m_fitPost m_fitEnd m_keptPosts i_x0 f_all xposts xshut xhere xwas w c_ hLx (by first | with_reducible assumption | with_reducible rfl | omega | assumption | rfl | decide) (by first | with_reducible assumption | with_reducible rfl | omega | assumption | rfl | decide) hVA hVz (by first | with_reducible assumption | with_reducible rfl | omega | assumption | rfl | decide)) (kV_RX12_251 C.2.2.2.2 (Nat.le_of_ble_eq_true rfl) (Nat.le_of_ble_eq_true rfl)) [6, 2, 3, 4, 5, 0] [0, 1, 0, 0, 0, 0] rfl rfl (ci := 11) (qc := (RX12, TX12, 43)) rfl rfl (List.mem_flatten.mpr ⟨_, List.mem_of_getElem? (i := 0) rfl, List.mem_cons_self⟩) rfl rfl hl.1 dX12_game_56 (Nat.le_of_ble_eq_true rfl) (Nat.le_of_ble_eq_true rfl) (fun r_50 b1 H locs hw G => ?_)
              refine zEx8 hw ?_
              intro j_steps_41 j_done_42 j_at_43 j_gone_44 g_posts_45 g_shut_46 g_here_47 g_was_48
              refine zCu2 ?_
              intro hbs9 h_49
              clear hw
              subst hbs9
              have G : zS T A s.heap s [[zAr T 0 m_rowWorth 512 xrowWorth], [zO11 mo m_all m_has i_size i_next i_where i_token i_number i_word i_wrong i_farCrossing m_read 610 j_crossings_2 j_inns_3 m_posts m_shut m_here j_steps_41 j_done_42 j_at_43 j_gone_44 m_was m_came m_seenAt m_rowWorth m_farBy m_used i_everywhere i_again0 i_d0 i_never i_firstCame i_longRun i_moved i_crowd i_l0 i_fitMany i_fitLeast i_fitMost m_fitPost m_fitEnd m_keptPosts i_x0], [zAr T 0 m_all 3952 f_all], [zAr T 0 m_posts 7 g_posts_45], [zAr T 0 m_shut 7 g_shut_46], [zAr T 0 m_here 7 g_here_47], [zAr T 0 m_was 7 g_was_48]] _ _ := G
              have hgb9 : r_50.toInt = gRw (zWo f_all 610 j_inns_3) (zLo f_all 610) j_inns_3 c_ (aRs (zWo f_all 610 j_inns_3) (zPo f_all 610) 7) 0 true 0 w := h_49
              refine z_ist C G 0 rfl (vp_in_nI (by omega) (by decide)) dX12_game_59 (fun H locs G => ?_)
              rw [nI_clamp (by omega)] at G
              have G : zS T A s.heap s [[zAr T 0 m_rowWorth 512 (upd xrowWorth w r_50)], [zO11 mo m_all m_has i_size i_next i_where i_token i_number i_word i_wrong i_farCrossing m_read 610 j_crossings_2 j_inns_3 m_posts m_shut m_here j_steps_41 j_done_42 j_at_43 j_gone_44 m_was m_came m_seenAt m_rowWorth m_farBy m_used i_everywhere i_again0 i_d0 i_never i_firstCame i_longRun i_moved i_crowd i_l0 i_fitMany i_fitLeast i_fitMost m_fitPost m_fitEnd m_keptPosts i_x0], [zAr T 0 m_all 3952 f_all], [zAr T 0 m_posts 7 g_posts_45], [zAr T 0 m_shut 7 g_shut_46], [zAr T 0 m_here 7 g_here_47], [zAr T 0 m_was 7 g_was_48]] _ _ := G
              refine lv_iinc (v := nI (w + 1)) (lv' := [(6, .int (nI (w + 1))), (5, .int 1), (0, .ref mo), (1, .int l_), (2, .int c_), (3, .int 0), (4, .int f_)]) hx hb dX12_game_60 hl (k := 0) rfl (z_inc w 1) (by decide) (zLvf_h rfl) (fun ls hl => ?_)
              refine lv_goto (tgt := 38) hx hb dX12_game_63 (by decide) ?_
              have G := G.sub (bs' := [[zAr T 0 m_was 7 g_was_48], [zAr T 0 m_rowWorth 512 (upd xrowWorth w r_50)], [zAr T 0 m_all 3952 f_all], [zAr T 0 m_posts 7 g_posts_45], [zAr T 0 m_shut 7 g_shut_46], [zAr T 0 m_here 7 g_here_47], [zO11 mo m_all m_has i_size i_next i_where i_token i_number i_word i_wrong i_farCrossing m_read 610 j_crossings_2 j_inns_3 m_posts m_shut m_here j_steps_41 j_done_42 j_at_43 j_gone_44 m_was m_came m_seenAt m_rowWorth m_farBy m_used i_everywhere i_again0 i_d0 i_never i_firstCame i_longRun i_moved i_crowd i_l0 i_fitMany i_fitLeast i_fitMost m_fitPost m_fitEnd m_keptPosts i_x0]]) [6, 0, 2, 3, 4, 5, 1] rfl
              exact ih_38 (w + 1) j_at_43 j_gone_44 j_steps_41 j_done_42 g_posts_45 g_shut_46 g_here_47 g_was_48 (upd xrowWorth w r_50) (show (w + 1) ≤ 1 ∧ (∀ p, p < (w + 1) → ((upd xrowWorth w r_50) p).toInt = gRw (zWo f_all 610 j_inns_3) (zLo f_all 610) j_inns_3 c_ (aRs (zWo f_all 610 j_inns_3) (zPo f_all 610) 7) 0 true 0 p) from ⟨by omega, (gUp hrow hgb9)⟩) (show 1 - (w + 1) < 1 - w from by omega) _ _ ls G (lv_sub hl [0, 1, 2, 3, 4, 5, 6] rfl)
          · obtain rfl : n_ = 1 := Int32.toInt_inj.mp hnn9
            refine lv_iconst (v := 1) hx hb dX12_game_28 (by decide) ?_
            refine lv_iconst (v := 3) hx hb dX12_game_29 (by decide) ?_
            refine lv_iload_n hx hb dX12_game_30 rfl (lv_at hl 3 rfl) ?_
            refine lv_imul hx hb dX12_game_31 ?_
            refine lv_topi (fun y_51 ey_51 => ?_)
            obtain rfl : y_51 = 3 := ey_51.trans (by decide)
            refine lv_ishl hx hb dX12_game_32 ?_
            refine lv_topi (fun y_52 ey_52 => ?_)
            obtain rfl : y_52 = 8 := ey_52.trans (by decide)
            refine lv_istore (lv' := [(5, .int 8), (0, .ref mo), (1, .int l_), (2, .int c_), (3, .int 1), (4, .int f_)]) hx hb dX12_game_33 hl (by decide) (zLvf_h rfl) (fun ls hl => ?_)
            refine lv_iconst (v := 0) hx hb dX12_game_35 (by decide) ?_
            refine lv_istore (lv' := [(6, .int 0), (5, .int 8), (0, .ref mo), (1, .int l_), (2, .int c_), (3, .int 1), (4, .int f_)]) hx hb dX12_game_36 hl (by decide) (zLvf_h rfl) (fun ls hl => ?_)
            refine z_lp10 (T := T) 38 (fun (w : Nat) (xat : Int32) (xgone : Int32) (xsteps : Int32) (xdone : Int32) (xposts : Nat → Int32) (xshut : Nat → Int32) (xhere : Nat → Int32) (xwas : Nat → Int32) (xrowWorth : Nat → Int32) => [[zAr T 0 m_was 7 xwas], [zAr T 0 m_rowWorth 512 xrowWorth], [zAr T 0 m_all 3952 f_all], [zAr T 0 m_posts 7 xposts], [zAr T 0 m_shut 7 xshut], [zAr T 0 m_here 7 xhere], [zO11 mo m_all m_has i_size i_next i_where i_token i_number i_word i_wrong i_farCrossing m_read 610 j_crossings_2 j_inns_3 m_posts m_shut m_here xsteps xdone xat xgone m_was m_came m_seenAt m_rowWorth m_farBy m_used i_everywhere i_again0 i_d0 i_never i_firstCame i_longRun i_moved i_crowd i_l0 i_fitMany i_fitLeast i_fitMost m_fitPost m_fitEnd m_keptPosts i_x0]]) (fun (w : Nat) (xat : Int32) (xgone : Int32) (xsteps : Int32) (xdone : Int32) (xposts : Nat → Int32) (xshut : Nat → Int32) (xhere : Nat → Int32) (xwas : Nat → Int32) (xrowWorth : Nat → Int32) => [(6, .int (nI w)), (5, .int 8), (0, .ref mo), (1, .int l_), (2, .int c_), (3, .int 1), (4, .int f_)]) (fun (w : Nat) (xat : Int32) (xgone : Int32) (xsteps : Int32) (xdone : Int32) (xposts : Nat → Int32) (xshut : Nat → Int32) (xhere : Nat → Int32) (xwas : Nat → Int32) (xrowWorth : Nat → Int32) => w ≤ 8 ∧ (∀ p, p < w → (xrowWorth p).toInt = gRw (zWo f_all 610 j_inns_3) (zLo f_all 610) j_inns_3 c_ (aRs (zWo f_all 610 j_inns_3) (zPo f_all 610) 7) 0 false 1 p)) (fun (w : Nat) (xat : Int32) (xgone : Int32) (xsteps : Int32) (xdone : Int32) (xposts : Nat → Int32) (xshut : Nat → Int32) (xhere : Nat → Int32) (xwas : Nat → Int32) (xrowWorth : Nat → Int32) => 8 - w) ?_ 0 i_at i_gone j_steps_4 j_done_5 g_posts_6 g_shut_7 g_here_8 f_was f_rowWorth (show 0 ≤ 8 ∧ (∀ p, p < 0 → (f_rowWorth p).toInt = gRw (zWo f_all 610 j_inns_3) (zLo f_all 610) j_inns_3 c_ (aRs (zWo f_all 610 j_inns_3) (zPo f_all 610) 7) 0 false 1 p) from ⟨by omega, (fun p hp => absurd hp (Nat.not_lt_zero _))⟩) G (lv_sub hl [0, 1, 2, 3, 4, 5, 6] rfl)
            intro w xat xgone xsteps xdone xposts xshut xhere xwas xrowWorth hI9 ih_38 H locs ls G hl
            replace hI9 : w ≤ 8 ∧ (∀ p, p < w → (xrowWorth p).toInt = gRw (zWo f_all 610 j_inns_3) (zLo f_all 610) j_inns_3 c_ (aRs (zWo f_all 610 j_inns_3) (zPo f_all 610) 7) 0 false 1 p) := hI9
            refine zAn2 hI9 ?_
            intro hww hrow
            clear hI9
            replace G : zS T A s.heap s [[zAr T 0 m_was 7 xwas], [zAr T 0 m_rowWorth 512 xrowWorth], [zAr T 0 m_all 3952 f_all], [zAr T 0 m_posts 7 xposts], [zAr T 0 m_shut 7 xshut], [zAr T 0 m_here 7 xhere], [zO11 mo m_all m_has i_size i_next i_where i_token i_number i_word i_wrong i_farCrossing m_read 610 j_crossings_2 j_inns_3 m_posts m_shut m_here xsteps xdone xat xgone m_was m_came m_seenAt m_rowWorth m_farBy m_used i_everywhere i_again0 i_d0 i_never i_firstCame i_longRun i_moved i_crowd i_l0 i_fitMany i_fitLeast i_fitMost m_fitPost m_fitEnd m_keptPosts i_x0]] _ _ := G
            replace hl : lv_has ls 11 [(6, .int (nI w)), (5, .int 8), (0, .ref mo), (1, .int l_), (2, .int c_), (3, .int 1), (4, .int f_)] := hl
            refine lv_iload hx hb dX12_game_38 (lv_at hl 0 rfl) ?_
            refine lv_iload hx hb dX12_game_40 (lv_at hl 1 rfl) ?_
            refine lv_icmp_ge (tgt := 66) hx hb dX12_game_42 (by decide) (fun c_53 => ?_) (fun c_53 => ?_)
            · have c_53n : 8 ≤ w := (nI_leI (a := 8) (b := w) (by omega) (by omega)).mp c_53
              refine lv_iconst (v := (-1)) hx hb dX12_game_66 (by decide) ?_
              refine lv_istore (lv' := [(6, .int (-1)), (5, .int 8), (0, .ref mo), (1, .int l_), (2, .int c_), (3, .int 1), (4, .int f_)]) hx hb dX12_game_67 hl (by decide) (zLvf_h rfl) (fun ls hl => ?_)
              refine lv_iload_n hx hb dX12_game_69 rfl (lv_at hl 5 rfl) ?_
              refine lv_iconst (v := 1) hx hb dX12_game_70 (by decide) ?_
              refine lv_isub hx hb dX12_game_71 ?_
              refine lv_topi (fun y_54 ey_54 => ?_)
              obtain rfl : y_54 = 0 := ey_54.trans (by decide)
              refine lv_istore (lv' := [(7, .int 0), (6, .int (-1)), (5, .int 8), (0, .ref mo), (1, .int l_), (2, .int c_), (3, .int 1), (4, .int f_)]) hx hb dX12_game_72 hl (by decide) (zLvf_h rfl) (fun ls hl => ?_)
              refine lv_iload hx hb dX12_game_74 (lv_at hl 0 rfl) ?_
              refine lv_if_lt (tgt := 237) hx hb dX12_game_76 (by decide) (fun q => absurd q (by decide)) (fun _ => ?_)
              refine lv_iload hx hb dX12_game_79 (lv_at hl 2 rfl) ?_
              refine lv_bipush (v := 8) hx hb dX12_game_81 (by decide) ?_
              refine lv_idiv hx hb dX12_game_83 (by decide) ?_
              refine lv_topi (fun y_55 ey_55 => ?_)
              obtain rfl : y_55 = 1 := ey_55.trans (by decide)
              refine lv_istore (lv' := [(5, .int 1), (7, .int 0), (6, .int (-1)), (0, .ref mo), (1, .int l_), (2, .int c_), (3, .int 1), (4, .int f_)]) hx hb dX12_game_84 hl (by decide) (zLvf_h rfl) (fun ls hl => ?_)
              refine lv_iconst (v := 0) hx hb dX12_game_86 (by decide) ?_
              refine lv_istore (lv' := [(8, .int 0), (5, .int 1), (7, .int 0), (6, .int (-1)), (0, .ref mo), (1, .int l_), (2, .int c_), (3, .int 1), (4, .int f_)]) hx hb dX12_game_87 hl (by decide) (zLvf_h rfl) (fun ls hl => ?_)
              have hF0 : ∀ p, p < 8 → (xrowWorth p).toInt = gRw (zWo f_all 610 j_inns_3) (zLo f_all 610) j_inns_3 c_ (aRs (zWo f_all 610 j_inns_3) (zPo f_all 610) 7) 0 (!true) 1 p := fun p hp => hrow p (by omega)
              refine z_lp3 (T := T) 89 (fun (w : Nat) (x : Int32) (xr0 : Nat → Int32) => [[zAr T 0 m_was 7 xwas], [zAr T 0 m_rowWorth 512 xr0], [zAr T 0 m_all 3952 f_all], [zAr T 0 m_posts 7 xposts], [zAr T 0 m_shut 7 xshut], [zAr T 0 m_here 7 xhere], [zO11 mo m_all m_has i_size i_next i_where i_token i_number i_word i_wrong i_farCrossing m_read 610 j_crossings_2 j_inns_3 m_posts m_shut m_here xsteps xdone xat xgone m_was m_came m_seenAt m_rowWorth m_farBy m_used i_everywhere i_again0 i_d0 i_never i_firstCame i_longRun i_moved i_crowd i_l0 i_fitMany i_fitLeast i_fitMost m_fitPost m_fitEnd m_keptPosts i_x0]]) (fun (w : Nat) (x : Int32) (xr0 : Nat → Int32) => [(8, .int (nI w)), (5, .int 1), (7, .int 0), (6, .int x), (0, .ref mo), (1, .int l_), (2, .int c_), (3, .int 1), (4, .int f_)]) (fun (w : Nat) (x : Int32) (xr0 : Nat → Int32) => w ≤ 1 ∧ (∀ p, p < w → (xr0 p).toInt = gRw (zWo f_all 610 j_inns_3) (zLo f_all 610) j_inns_3 c_ (aRs (zWo f_all 610 j_inns_3) (zPo f_all 610) 7) 1 true 0 p) ∧ (∀ p, w ≤ p → xr0 p = xrowWorth p) ∧ (0 < w → x.toInt = gIx (gOp (zWo f_all 610 j_inns_3) (aRs (zWo f_all 610 j_inns_3) (zPo f_all 610) 7) 0 (w - 1)) (gVp (zWo f_all 610 j_inns_3) (zLo f_all 610) j_inns_3 c_ (aRs (zWo f_all 610 j_inns_3) (zPo f_all 610) 7) 0 true 0 (w - 1)) true 8)) (fun (w : Nat) (x : Int32) (xr0 : Nat → Int32) => 1 - w) ?_ 0 (-1) xrowWorth (show 0 ≤ 1 ∧ (∀ p, p < 0 → (xrowWorth p).toInt = gRw (zWo f_all 610 j_inns_3) (zLo f_all 610) j_inns_3 c_ (aRs (zWo f_all 610 j_inns_3) (zPo f_all 610) 7) 1 true 0 p) ∧ (∀ p, 0 ≤ p → xrowWorth p = xrowWorth p) ∧ (0 < 0 → ((-1) : Int32).toInt = gIx (gOp (zWo f_all 610 j_inns_3) (aRs (zWo f_all 610 j_inns_3) (zPo f_all 610) 7) 0 (0 - 1)) (gVp (zWo f_all 610 j_inns_3) (zLo f_all 610) j_inns_3 c_ (aRs (zWo f_all 610 j_inns_3) (zPo f_all 610) 7) 0 true 0 (0 - 1)) true 8) from ⟨by omega, (fun p hp => absurd hp (Nat.not_lt_zero _)), (fun _ _ => rfl), (fun q9 => absurd q9 (Nat.lt_irrefl _))⟩) G (lv_sub hl [0, 1, 2, 3, 4, 5, 6, 7, 8] rfl)
              intro w x xr0 hI9 ih_89 H locs ls G hl
              replace hI9 : w ≤ 1 ∧ (∀ p, p < w → (xr0 p).toInt = gRw (zWo f_all 610 j_inns_3) (zLo f_all 610) j_inns_3 c_ (aRs (zWo f_all 610 j_inns_3) (zPo f_all 610) 7) 1 true 0 p) ∧ (∀ p, w ≤ p → xr0 p = xrowWorth p) ∧ (0 < w → x.toInt = gIx (gOp (zWo f_all 610 j_inns_3) (aRs (zWo f_all 610 j_inns_3) (zPo f_all 610) 7) 0 (w - 1)) (gVp (zWo f_all 610 j_inns_3) (zLo f_all 610) j_inns_3 c_ (aRs (zWo f_all 610 j_inns_3) (zPo f_all 610) 7) 0 true 0 (w - 1)) true 8) := hI9
              refine zAn4 hI9 ?_
              intro hww hwr0 hxF0 hx6
              clear hI9
              replace G : zS T A s.heap s [[zAr T 0 m_was 7 xwas], [zAr T 0 m_rowWorth 512 xr0], [zAr T 0 m_all 3952 f_all], [zAr T 0 m_posts 7 xposts], [zAr T 0 m_shut 7 xshut], [zAr T 0 m_here 7 xhere], [zO11 mo m_all m_has i_size i_next i_where i_token i_number i_word i_wrong i_farCrossing m_read 610 j_crossings_2 j_inns_3 m_posts m_shut m_here xsteps xdone xat xgone m_was m_came m_seenAt m_rowWorth m_farBy m_used i_everywhere i_again0 i_d0 i_never i_firstCame i_longRun i_moved i_crowd i_l0 i_fitMany i_fitLeast i_fitMost m_fitPost m_fitEnd m_keptPosts i_x0]] _ _ := G
              replace hl : lv_has ls 11 [(8, .int (nI w)), (5, .int 1), (7, .int 0), (6, .int x), (0, .ref mo), (1, .int l_), (2, .int c_), (3, .int 1), (4, .int f_)] := hl
              refine lv_iload hx hb dX12_game_89 (lv_at hl 0 rfl) ?_
              refine lv_iload hx hb dX12_game_91 (lv_at hl 1 rfl) ?_
              refine lv_icmp_ge (tgt := 231) hx hb dX12_game_93 (by decide) (fun c_56 => ?_) (fun c_56 => ?_)
              · have c_56n : 1 ≤ w := (nI_leI (a := 1) (b := w) (by omega) (by omega)).mp c_56
                refine lv_iinc (v := (-1)) (lv' := [(7, .int (-1)), (8, .int (nI w)), (5, .int 1), (6, .int x), (0, .ref mo), (1, .int l_), (2, .int c_), (3, .int 1), (4, .int f_)]) hx hb dX12_game_231 hl (k := 2) rfl (by decide) (by decide) (zLvf_h rfl) (fun ls hl => ?_)
                refine lv_goto (tgt := 74) hx hb dX12_game_234 (by decide) ?_
                refine lv_iload hx hb dX12_game_74 (lv_at hl 0 rfl) ?_
                refine lv_if_lt (tgt := 237) hx hb dX12_game_76 (by decide) (fun _ => ?_) (fun q => absurd (by decide) q)
                refine lv_iload hx hb dX12_game_237 (lv_at hl 8 rfl) ?_
                refine lv_if_ne (tgt := 251) hx hb dX12_game_239 (by decide) (fun c_57 => ?_) (fun c_57 => ?_)
                · have c_57n : ¬ f_.toInt = (0 : Int) := fun q => c_57 ((fa_eq _ _).mpr q)
                  refine lv_iload hx hb dX12_game_251 (lv_at hl 3 rfl) ?_
                  have G := G.sub (bs' := [[zO11 mo m_all m_has i_size i_next i_where i_token i_number i_word i_wrong i_farCrossing m_read 610 j_crossings_2 j_inns_3 m_posts m_shut m_here xsteps xdone xat xgone m_was m_came m_seenAt m_rowWorth m_farBy m_used i_everywhere i_again0 i_d0 i_never i_firstCame i_longRun i_moved i_crowd i_l0 i_fitMany i_fitLeast i_fitMost m_fitPost m_fitEnd m_keptPosts i_x0], [zAr T 0 m_all 3952 f_all], [zAr T 0 m_posts 7 xposts], [zAr T 0 m_shut 7 xshut], [zAr T 0 m_here 7 xhere], [zAr T 0 m_was 7 xwas], [zAr T 0 m_rowWorth 512 xr0]]) [6, 2, 3, 4, 5, 0, 1] rfl
                  exact z_back hQz_ (z_iret C hr hlocks G (Nat.le_of_ble_eq_true rfl) (Nat.le_of_ble_eq_true rfl) dX12_game_253 ⟨610, j_crossings_2, j_inns_3, xsteps, xdone, xat, xgone, xposts, xshut, xhere, xwas, xr0, rfl, (Or.inr (Or.inl ⟨by first | with_reducible assumption | assumption, by omega, (by
                                                                have q6 : rGame (zWo f_all 610 j_inns_3) (zLo f_all 610) (zPo f_all 610) j_inns_3 c_ 1 f_ = rGame (pW f_all 610) (zLo f_all 610) (zPo f_all 610) (f_all (610 + 1)) c_ 1 f_ := by rw [← hWe, ← hNi]
                                                                unfold pGame
                                                                rw [if_pos (by show (0 ≤ c_.toInt ∧ c_.toInt < (f_all 610).toInt) ∧ 0 ≤ (1 : Int32).toInt ∧ (1 : Int32).toInt ≤ 3; exact ⟨⟨by omega, by omega⟩, by decide, by decide⟩)]
                                                                refine Eq.trans ?_ q6
                                                                unfold rGame
                                                                rw [if_neg (by first | with_reducible assumption | assumption), if_neg (by decide)]
                                                                have q9 := hx6 (by omega)
                                                                have q5 := Int32.toInt_lt x
                                                                rw [show w - 1 = 0 by omega] at q9
                                                                have q7 : x.toInt = gIx (gOk (zWo f_all 610 j_inns_3)) (fun c => gV (zWo f_all 610 j_inns_3) (zLo f_all 610) j_inns_3 c_ 0 false (gTn (zWo f_all 610 j_inns_3) (aRs (zWo f_all 610 j_inns_3) (zPo f_all 610) 7) c)) true 8 := q9.trans (gIx_cg 8 (fun c _ => ⟨rfl, rfl⟩))
                                                                have q8 := gIx_7 (ok := gOk (zWo f_all 610 j_inns_3)) (v := (fun c => gV (zWo f_all 610 j_inns_3) (zLo f_all 610) j_inns_3 c_ 0 false (gTn (zWo f_all 610 j_inns_3) (aRs (zWo f_all 610 j_inns_3) (zPo f_all 610) 7) c))) (mn := true) (fun c => gV_0 _ _ _) gOk_7
                                                                exact z_nI (m := (gIx (gOk (zWo f_all 610 j_inns_3)) (fun c => gV (zWo f_all 610 j_inns_3) (zLo f_all 610) j_inns_3 c_ 0 false (gTn (zWo f_all 610 j_inns_3) (aRs (zWo f_all 610 j_inns_3) (zPo f_all 610) 7) c)) true 8).toNat) (by omega) (by omega))⟩))⟩)
                · have c_57n : f_.toInt = (0 : Int) := (fa_eq _ _).mp c_57
                  refine lv_aload_n hx hb dX12_game_242 rfl (lv_at hl 4 rfl) ?_
                  refine z_get C G clX12 6 rfl 24 (by decide) m_fl_RX12_38 rfl dX12_game_243 ?_
                  refine lv_iconst (v := 0) hx hb dX12_game_246 (by decide) ?_
                  refine z_ild C G 1 rfl (vp_in_nI (n := 0) (by decide) (by decide)) dX12_game_247 ?_
                  refine lv_topi (fun v_58 ev_58 => ?_)
                  rw [show ((0 : Int32).toNatClampNeg) = 0 from rfl] at ev_58
                  subst ev_58
                  refine lv_goto (tgt := 253) hx hb dX12_game_248 (by decide) ?_
                  have G := G.sub (bs' := [[zO11 mo m_all m_has i_size i_next i_where i_token i_number i_word i_wrong i_farCrossing m_read 610 j_crossings_2 j_inns_3 m_posts m_shut m_here xsteps xdone xat xgone m_was m_came m_seenAt m_rowWorth m_farBy m_used i_everywhere i_again0 i_d0 i_never i_firstCame i_longRun i_moved i_crowd i_l0 i_fitMany i_fitLeast i_fitMost m_fitPost m_fitEnd m_keptPosts i_x0], [zAr T 0 m_all 3952 f_all], [zAr T 0 m_posts 7 xposts], [zAr T 0 m_shut 7 xshut], [zAr T 0 m_here 7 xhere], [zAr T 0 m_was 7 xwas], [zAr T 0 m_rowWorth 512 xr0]]) [6, 2, 3, 4, 5, 0, 1] rfl
                  exact z_back hQz_ (z_iret C hr hlocks G (Nat.le_of_ble_eq_true rfl) (Nat.le_of_ble_eq_true rfl) dX12_game_253 ⟨610, j_crossings_2, j_inns_3, xsteps, xdone, xat, xgone, xposts, xshut, xhere, xwas, xr0, rfl, (Or.inr (Or.inl ⟨by first | with_reducible assumption | assumption, by omega, (by
                                                                have q6 : rGame (zWo f_all 610 j_inns_3) (zLo f_all 610) (zPo f_all 610) j_inns_3 c_ 1 f_ = rGame (pW f_all 610) (zLo f_all 610) (zPo f_all 610) (f_all (610 + 1)) c_ 1 f_ := by rw [← hWe, ← hNi]
                                                                unfold pGame
                                                                rw [if_pos (by show (0 ≤ c_.toInt ∧ c_.toInt < (f_all 610).toInt) ∧ 0 ≤ (1 : Int32).toInt ∧ (1 : Int32).toInt ≤ 3; exact ⟨⟨by omega, by omega⟩, by decide, by decide⟩)]
                                                                refine Eq.trans ?_ q6
                                                                unfold rGame
                                                                rw [if_pos (by first | with_reducible assumption | assumption)]
                                                                have q8 := gV_0 (W := (zWo f_all 610 j_inns_3)) (L := (zLo f_all 610)) (inn := j_inns_3) (x := c_) 1 true (aRs (zWo f_all 610 j_inns_3) (zPo f_all 610) 7)
                                                                have q5 := Int32.toInt_lt (xr0 0)
                                                                have q7 : (xr0 0).toInt = gV (zWo f_all 610 j_inns_3) (zLo f_all 610) j_inns_3 c_ 1 true (aRs (zWo f_all 610 j_inns_3) (zPo f_all 610) 7) := (hwr0 0 (by omega)).trans (if_pos rfl)
                                                                exact z_nI (m := (gV (zWo f_all 610 j_inns_3) (zLo f_all 610) j_inns_3 c_ 1 true (aRs (zWo f_all 610 j_inns_3) (zPo f_all 610) 7)).toNat) (by omega) (by omega))⟩))⟩)
              · have c_56n : ¬ 1 ≤ w := fun q => c_56 ((nI_leI (a := 1) (b := w) (by omega) (by omega)).mpr q)
                refine lv_iconst (v := (-1)) hx hb dX12_game_96 (by decide) ?_
                refine lv_istore (lv' := [(6, .int (-1)), (8, .int (nI w)), (5, .int 1), (7, .int 0), (0, .ref mo), (1, .int l_), (2, .int c_), (3, .int 1), (4, .int f_)]) hx hb dX12_game_97 hl (by decide) (zLvf_h rfl) (fun ls hl => ?_)
                refine lv_iconst (v := 0) hx hb dX12_game_99 (by decide) ?_
                refine lv_istore (lv' := [(9, .int 0), (6, .int (-1)), (8, .int (nI w)), (5, .int 1), (7, .int 0), (0, .ref mo), (1, .int l_), (2, .int c_), (3, .int 1), (4, .int f_)]) hx hb dX12_game_100 hl (by decide) (zLvf_h rfl) (fun ls hl => ?_)
                refine z_lp2 (T := T) 102 (fun (i : Nat) (x : Int32) => [[zAr T 0 m_was 7 xwas], [zAr T 0 m_rowWorth 512 xr0], [zAr T 0 m_all 3952 f_all], [zAr T 0 m_posts 7 xposts], [zAr T 0 m_shut 7 xshut], [zAr T 0 m_here 7 xhere], [zO11 mo m_all m_has i_size i_next i_where i_token i_number i_word i_wrong i_farCrossing m_read 610 j_crossings_2 j_inns_3 m_posts m_shut m_here xsteps xdone xat xgone m_was m_came m_seenAt m_rowWorth m_farBy m_used i_everywhere i_again0 i_d0 i_never i_firstCame i_longRun i_moved i_crowd i_l0 i_fitMany i_fitLeast i_fitMost m_fitPost m_fitEnd m_keptPosts i_x0]]) (fun (i : Nat) (x : Int32) => [(9, .int (nI i)), (6, .int x), (8, .int (nI w)), (5, .int 1), (7, .int 0), (0, .ref mo), (1, .int l_), (2, .int c_), (3, .int 1), (4, .int f_)]) (fun (i : Nat) (x : Int32) => i ≤ 8 ∧ x.toInt = gIx (gOp (zWo f_all 610 j_inns_3) (aRs (zWo f_all 610 j_inns_3) (zPo f_all 610) 7) 0 w) (gVp (zWo f_all 610 j_inns_3) (zLo f_all 610) j_inns_3 c_ (aRs (zWo f_all 610 j_inns_3) (zPo f_all 610) 7) 0 true 0 w) true i) (fun (i : Nat) (x : Int32) => 8 - i) ?_ 0 (-1) (show 0 ≤ 8 ∧ ((-1) : Int32).toInt = gIx (gOp (zWo f_all 610 j_inns_3) (aRs (zWo f_all 610 j_inns_3) (zPo f_all 610) 7) 0 w) (gVp (zWo f_all 610 j_inns_3) (zLo f_all 610) j_inns_3 c_ (aRs (zWo f_all 610 j_inns_3) (zPo f_all 610) 7) 0 true 0 w) true 0 from ⟨by omega, rfl⟩) G (lv_sub hl [0, 1, 2, 3, 4, 5, 6, 7, 8, 9] rfl)
                intro i x hI9 ih_102 H locs ls G hl
                replace hI9 : i ≤ 8 ∧ x.toInt = gIx (gOp (zWo f_all 610 j_inns_3) (aRs (zWo f_all 610 j_inns_3) (zPo f_all 610) 7) 0 w) (gVp (zWo f_all 610 j_inns_3) (zLo f_all 610) j_inns_3 c_ (aRs (zWo f_all 610 j_inns_3) (zPo f_all 610) 7) 0 true 0 w) true i := hI9
                refine zAn2 hI9 ?_
                intro hi hxb
                clear hI9
                replace G : zS T A s.heap s [[zAr T 0 m_was 7 xwas], [zAr T 0 m_rowWorth 512 xr0], [zAr T 0 m_all 3952 f_all], [zAr T 0 m_posts 7 xposts], [zAr T 0 m_shut 7 xshut], [zAr T 0 m_here 7 xhere], [zO11 mo m_all m_has i_size i_next i_where i_token i_number i_word i_wrong i_farCrossing m_read 610 j_crossings_2 j_inns_3 m_posts m_shut m_here xsteps xdone xat xgone m_was m_came m_seenAt m_rowWorth m_farBy m_used i_everywhere i_again0 i_d0 i_never i_firstCame i_longRun i_moved i_crowd i_l0 i_fitMany i_fitLeast i_fitMost m_fitPost m_fitEnd m_keptPosts i_x0]] _ _ := G
                replace hl : lv_has ls 11 [(9, .int (nI i)), (6, .int x), (8, .int (nI w)), (5, .int 1), (7, .int 0), (0, .ref mo), (1, .int l_), (2, .int c_), (3, .int 1), (4, .int f_)] := hl
                refine lv_iload hx hb dX12_game_102 (lv_at hl 0 rfl) ?_
                refine lv_bipush (v := 8) hx hb dX12_game_104 (by decide) ?_
                refine lv_icmp_ge (tgt := 195) hx hb dX12_game_106 (by decide) (fun c_59 => ?_) (fun c_59 => ?_)
                · have c_59n : 8 ≤ i := (nI_leI (a := 8) (b := i) (by omega) (by omega)).mp c_59
                  have hb89 : x.toInt = gIx (gOp (zWo f_all 610 j_inns_3) (aRs (zWo f_all 610 j_inns_3) (zPo f_all 610) 7) 0 w) (gVp (zWo f_all 610 j_inns_3) (zLo f_all 610) j_inns_3 c_ (aRs (zWo f_all 610 j_inns_3) (zPo f_all 610) 7) 0 true 0 w) true 8 := by rw [hxb, show i = 8 by omega]
                  have hle9 := gLx_e (fun c => gVp_0 c) hb89.symm
                  have hrs9 := gRw_s (W := (zWo f_all 610 j_inns_3)) (L := (zLo f_all 610)) (inn := j_inns_3) (x := c_) (t0 := (aRs (zWo f_all 610 j_inns_3) (zPo f_all 610) 7)) (m := 0) (mn := true) (k := 0) (p := w)
                  have hxk9 := gIx_ok (ok := (gOp (zWo f_all 610 j_inns_3) (aRs (zWo f_all 610 j_inns_3) (zPo f_all 610) 7) 0 w)) (v := (gVp (zWo f_all 610 j_inns_3) (zLo f_all 610) j_inns_3 c_ (aRs (zWo f_all 610 j_inns_3) (zPo f_all 610) 7) 0 true 0 w)) (mn := true) 8
                  rw [← hb89] at hxk9
                  refine lv_aload_n hx hb dX12_game_195 rfl (lv_at hl 5 rfl) ?_
                  refine z_get C G clX12 6 rfl 24 (by decide) m_fl_RX12_38 rfl dX12_game_196 ?_
                  refine lv_iload hx hb dX12_game_199 (lv_at hl 2 rfl) ?_
                  refine lv_iload hx hb dX12_game_201 (lv_at hl 1 rfl) ?_
                  refine lv_iconst (v := (-1)) hx hb dX12_game_203 (by decide) ?_
                  refine lv_icmp_ne (tgt := 211) hx hb dX12_game_204 (by decide) (fun c_60 => ?_) (fun c_60 => ?_)
                  · have c_60n : ¬ x.toInt = (-1 : Int) := fun q => c_60 ((fa_eq _ _).mpr q)
                    refine lv_aload_n hx hb dX12_game_211 rfl (lv_at hl 5 rfl) ?_
                    refine z_get C G clX12 6 rfl 24 (by decide) m_fl_RX12_38 rfl dX12_game_212 ?_
                    refine lv_bipush (v := 8) hx hb dX12_game_215 (by decide) ?_
                    refine lv_iload hx hb dX12_game_217 (lv_at hl 2 rfl) ?_
                    refine lv_imul hx hb dX12_game_219 ?_
                    refine lv_topi (fun y_61 ey_61 => ?_)
                    obtain rfl : y_61 = nI (8 * w) := ey_61.trans (z_imuln 8 w rfl rfl)
                    refine lv_iload hx hb dX12_game_220 (lv_at hl 1 rfl) ?_
                    refine lv_iadd hx hb dX12_game_222 ?_
                    refine lv_topi (fun y_62 ey_62 => ?_)
                    have ey_62i : y_62.toInt = ((8 * w) : Int) + x.toInt := by rw [ey_62]; exact (z_iaddI (x := (nI (8 * w))) (y := x) (by rw [nI_toInt (n := 8 * w) (by omega)]; show -2147483648 ≤ ((8 * w) : Int) + x.toInt; omega) (by rw [nI_toInt (n := 8 * w) (by omega)]; show ((8 * w) : Int) + x.toInt < 2147483648; omega)).trans (by rw [nI_toInt (n := 8 * w) (by omega)] <;> rfl)
                    refine z_ild C G 1 rfl (vp_in_iff.mpr ⟨by omega, by omega⟩) dX12_game_223 ?_
                    refine lv_topi (fun v_63 ev_63 => ?_)
                    subst ev_63
                    have hxy9 := hxk9.resolve_left (by first | omega | (intro q9; omega))
                    have hw9 : (xr0 y_62.toNatClampNeg).toInt = (gVp (zWo f_all 610 j_inns_3) (zLo f_all 610) j_inns_3 c_ (aRs (zWo f_all 610 j_inns_3) (zPo f_all 610) 7) 0 true 0 w) x.toInt.toNat := by rw [(show y_62.toNatClampNeg = 8 * w + x.toInt.toNat from by have q4 := z_clI (x := y_62) (by omega); omega), hxF0 (8 * w + x.toInt.toNat) (by omega)]; exact ((hF0 (8 * w + x.toInt.toNat) (by omega)).trans (gRw_c (by omega))).trans (if_pos hxy9.2.2)
                    have hnv9 : (xr0 y_62.toNatClampNeg).toInt = gRw (zWo f_all 610 j_inns_3) (zLo f_all 610) j_inns_3 c_ (aRs (zWo f_all 610 j_inns_3) (zPo f_all 610) 7) 1 true 0 w := by rw [hrs9, hle9.2 (by omega)]; exact hw9
                    refine z_ist C G 1 rfl (vp_in_nI (by omega) (by decide)) dX12_game_224 (fun H locs G => ?_)
                    rw [nI_clamp (by omega)] at G
                    have G : zS T A s.heap s [[zAr T 0 m_was 7 xwas], [zAr T 0 m_rowWorth 512 (upd xr0 w (xr0 y_62.toNatClampNeg))], [zAr T 0 m_all 3952 f_all], [zAr T 0 m_posts 7 xposts], [zAr T 0 m_shut 7 xshut], [zAr T 0 m_here 7 xhere], [zO11 mo m_all m_has i_size i_next i_where i_token i_number i_word i_wrong i_farCrossing m_read 610 j_crossings_2 j_inns_3 m_posts m_shut m_here xsteps xdone xat xgone m_was m_came m_seenAt m_rowWorth m_farBy m_used i_everywhere i_again0 i_d0 i_never i_firstCame i_longRun i_moved i_crowd i_l0 i_fitMany i_fitLeast i_fitMost m_fitPost m_fitEnd m_keptPosts i_x0]] _ _ := G
                    refine lv_iinc (v := nI (w + 1)) (lv' := [(8, .int (nI (w + 1))), (9, .int (nI i)), (6, .int x), (5, .int 1), (7, .int 0), (0, .ref mo), (1, .int l_), (2, .int c_), (3, .int 1), (4, .int f_)]) hx hb dX12_game_225 hl (k := 2) rfl (z_inc w 1) (by decide) (zLvf_h rfl) (fun ls hl => ?_)
                    refine lv_goto (tgt := 89) hx hb dX12_game_228 (by decide) ?_
                    exact ih_89 (w + 1) x (upd xr0 w (xr0 y_62.toNatClampNeg)) (show (w + 1) ≤ 1 ∧ (∀ p, p < (w + 1) → ((upd xr0 w (xr0 y_62.toNatClampNeg)) p).toInt = gRw (zWo f_all 610 j_inns_3) (zLo f_all 610) j_inns_3 c_ (aRs (zWo f_all 610 j_inns_3) (zPo f_all 610) 7) 1 true 0 p) ∧ (∀ p, (w + 1) ≤ p → (upd xr0 w (xr0 y_62.toNatClampNeg)) p = xrowWorth p) ∧ (0 < (w + 1) → x.toInt = gIx (gOp (zWo f_all 610 j_inns_3) (aRs (zWo f_all 610 j_inns_3) (zPo f_all 610) 7) 0 ((w + 1) - 1)) (gVp (zWo f_all 610 j_inns_3) (zLo f_all 610) j_inns_3 c_ (aRs (zWo f_all 610 j_inns_3) (zPo f_all 610) 7) 0 true 0 ((w + 1) - 1)) true 8) from ⟨by omega, (gUp hwr0 hnv9), (gUk hxF0), (fun _ => hb89)⟩) (show 1 - (w + 1) < 1 - w from by omega) _ _ ls G (lv_sub hl [0, 3, 4, 2, 5, 6, 7, 8, 9] rfl)
                  · have c_60n : x.toInt = (-1 : Int) := (fa_eq _ _).mp c_60
                    refine lv_iconst (v := (-1)) hx hb dX12_game_207 (by decide) ?_
                    refine lv_goto (tgt := 224) hx hb dX12_game_208 (by decide) ?_
                    have hnv9 : ((-1) : Int32).toInt = gRw (zWo f_all 610 j_inns_3) (zLo f_all 610) j_inns_3 c_ (aRs (zWo f_all 610 j_inns_3) (zPo f_all 610) 7) 1 true 0 w := by rw [hrs9, hle9.1 (by omega)]; rfl
                    refine z_ist C G 1 rfl (vp_in_nI (by omega) (by decide)) dX12_game_224 (fun H locs G => ?_)
                    rw [nI_clamp (by omega)] at G
                    have G : zS T A s.heap s [[zAr T 0 m_was 7 xwas], [zAr T 0 m_rowWorth 512 (upd xr0 w (-1))], [zAr T 0 m_all 3952 f_all], [zAr T 0 m_posts 7 xposts], [zAr T 0 m_shut 7 xshut], [zAr T 0 m_here 7 xhere], [zO11 mo m_all m_has i_size i_next i_where i_token i_number i_word i_wrong i_farCrossing m_read 610 j_crossings_2 j_inns_3 m_posts m_shut m_here xsteps xdone xat xgone m_was m_came m_seenAt m_rowWorth m_farBy m_used i_everywhere i_again0 i_d0 i_never i_firstCame i_longRun i_moved i_crowd i_l0 i_fitMany i_fitLeast i_fitMost m_fitPost m_fitEnd m_keptPosts i_x0]] _ _ := G
                    refine lv_iinc (v := nI (w + 1)) (lv' := [(8, .int (nI (w + 1))), (9, .int (nI i)), (6, .int x), (5, .int 1), (7, .int 0), (0, .ref mo), (1, .int l_), (2, .int c_), (3, .int 1), (4, .int f_)]) hx hb dX12_game_225 hl (k := 2) rfl (z_inc w 1) (by decide) (zLvf_h rfl) (fun ls hl => ?_)
                    refine lv_goto (tgt := 89) hx hb dX12_game_228 (by decide) ?_
                    exact ih_89 (w + 1) x (upd xr0 w (-1)) (show (w + 1) ≤ 1 ∧ (∀ p, p < (w + 1) → ((upd xr0 w (-1)) p).toInt = gRw (zWo f_all 610 j_inns_3) (zLo f_all 610) j_inns_3 c_ (aRs (zWo f_all 610 j_inns_3) (zPo f_all 610) 7) 1 true 0 p) ∧ (∀ p, (w + 1) ≤ p → (upd xr0 w (-1)) p = xrowWorth p) ∧ (0 < (w + 1) → x.toInt = gIx (gOp (zWo f_all 610 j_inns_3) (aRs (zWo f_all 610 j_inns_3) (zPo f_all 610) 7) 0 ((w + 1) - 1)) (gVp (zWo f_all 610 j_inns_3) (zLo f_all 610) j_inns_3 c_ (aRs (zWo f_all 610 j_inns_3) (zPo f_all 610) 7) 0 true 0 ((w + 1) - 1)) true 8) from ⟨by omega, (gUp hwr0 hnv9), (gUk hxF0), (fun _ => hb89)⟩) (show 1 - (w + 1) < 1 - w from by omega) _ _ ls G (lv_sub hl [0, 3, 4, 2, 5, 6, 7, 8, 9] rfl)
                · have c_59n : ¬ 8 ≤ i := fun q => c_59 ((nI_leI (a := 8) (b := i) (by omega) (by omega)).mpr q)
                  refine lv_aload_n hx hb dX12_game_109 rfl (lv_at hl 5 rfl) ?_
                  refine z_get C G clX12 6 rfl 24 (by decide) m_fl_RX12_38 rfl dX12_game_110 ?_
                  refine lv_bipush (v := 8) hx hb dX12_game_113 (by decide) ?_
                  refine lv_iload hx hb dX12_game_115 (lv_at hl 2 rfl) ?_
                  refine lv_imul hx hb dX12_game_117 ?_
                  refine lv_topi (fun y_64 ey_64 => ?_)
                  obtain rfl : y_64 = nI (8 * w) := ey_64.trans (z_imuln 8 w rfl rfl)
                  refine lv_iload hx hb dX12_game_118 (lv_at hl 0 rfl) ?_
                  refine lv_iadd hx hb dX12_game_120 ?_
                  refine lv_topi (fun y_65 ey_65 => ?_)
                  obtain rfl : y_65 = nI ((8 * w) + i) := ey_65.trans (z_iaddn (8 * w) i rfl rfl)
                  refine z_ild C G 1 rfl (vp_in_nI (by omega) (by decide)) dX12_game_121 ?_
                  refine lv_topi (fun v_66 ev_66 => ?_)
                  rw [nI_clamp (by omega)] at ev_66
                  subst ev_66
                  have hv9 : (xr0 ((8 * w) + i)).toInt = if (gOp (zWo f_all 610 j_inns_3) (aRs (zWo f_all 610 j_inns_3) (zPo f_all 610) 7) 0 w) i = true then (gVp (zWo f_all 610 j_inns_3) (zLo f_all 610) j_inns_3 c_ (aRs (zWo f_all 610 j_inns_3) (zPo f_all 610) 7) 0 true 0 w) i else -1 := by rw [(show ((8 * w) + i) = 8 * w + i from by omega), hxF0 (8 * w + i) (by omega)]; exact (hF0 (8 * w + i) (by omega)).trans (gRw_c (by omega))
                  have hxk9 := gIx_ok (ok := (gOp (zWo f_all 610 j_inns_3) (aRs (zWo f_all 610 j_inns_3) (zPo f_all 610) 7) 0 w)) (v := (gVp (zWo f_all 610 j_inns_3) (zLo f_all 610) j_inns_3 c_ (aRs (zWo f_all 610 j_inns_3) (zPo f_all 610) 7) 0 true 0 w)) (mn := true) i
                  rw [← hxb] at hxk9
                  refine lv_istore (lv' := [(10, .int (xr0 ((8 * w) + i))), (9, .int (nI i)), (6, .int x), (8, .int (nI w)), (5, .int 1), (7, .int 0), (0, .ref mo), (1, .int l_), (2, .int c_), (3, .int 1), (4, .int f_)]) hx hb dX12_game_122 hl (by decide) (zLvf_h rfl) (fun ls hl => ?_)
                  refine lv_iload hx hb dX12_game_124 (lv_at hl 0 rfl) ?_
                  refine lv_iconst (v := (-1)) hx hb dX12_game_126 (by decide) ?_
                  refine lv_icmp_eq (tgt := 189) hx hb dX12_game_127 (by decide) (fun c_67 => ?_) (fun c_67 => ?_)
                  · have c_67n : (xr0 ((8 * w) + i)).toInt = (-1 : Int) := (fa_eq _ _).mp c_67
                    have hxn9 : x.toInt = gIx (gOp (zWo f_all 610 j_inns_3) (aRs (zWo f_all 610 j_inns_3) (zPo f_all 610) 7) 0 w) (gVp (zWo f_all 610 j_inns_3) (zLo f_all 610) j_inns_3 c_ (aRs (zWo f_all 610 j_inns_3) (zPo f_all 610) 7) 0 true 0 w) true (i + 1) := (gLx_n (fun c => gVp_0 c) hxb.symm hv9 (by first | exact Or.inl (by omega) | exact Or.inr ⟨by omega, by rw [if_pos rfl]; omega⟩)).symm
                    refine lv_iinc (v := nI (i + 1)) (lv' := [(9, .int (nI (i + 1))), (10, .int (xr0 ((8 * w) + i))), (6, .int x), (8, .int (nI w)), (5, .int 1), (7, .int 0), (0, .ref mo), (1, .int l_), (2, .int c_), (3, .int 1), (4, .int f_)]) hx hb dX12_game_189 hl (k := 1) rfl (z_inc i 1) (by decide) (zLvf_h rfl) (fun ls hl => ?_)
                    refine lv_goto (tgt := 102) hx hb dX12_game_192 (by decide) ?_
                    exact ih_102 (i + 1) x (show (i + 1) ≤ 8 ∧ x.toInt = gIx (gOp (zWo f_all 610 j_inns_3) (aRs (zWo f_all 610 j_inns_3) (zPo f_all 610) 7) 0 w) (gVp (zWo f_all 610 j_inns_3) (zLo f_all 610) j_inns_3 c_ (aRs (zWo f_all 610 j_inns_3) (zPo f_all 610) 7) 0 true 0 w) true (i + 1) from ⟨by omega, hxn9⟩) (show 8 - (i + 1) < 8 - i from by omega) _ _ ls G (lv_sub hl [0, 2, 3, 4, 5, 6, 7, 8, 9, 10] rfl)
                  · have c_67n : ¬ (xr0 ((8 * w) + i)).toInt = (-1 : Int) := fun q => c_67 ((fa_eq _ _).mpr q)
                    refine lv_iload hx hb dX12_game_130 (lv_at hl 2 rfl) ?_
                    refine lv_iconst (v := (-1)) hx hb dX12_game_132 (by decide) ?_
                    refine lv_icmp_eq (tgt := 185) hx hb dX12_game_133 (by decide) (fun c_68 => ?_) (fun c_68 => ?_)
                    · have c_68n : x.toInt = (-1 : Int) := (fa_eq _ _).mp c_68
                      refine lv_iload hx hb dX12_game_185 (lv_at hl 1 rfl) ?_
                      refine lv_istore (lv' := [(6, .int (nI i)), (10, .int (xr0 ((8 * w) + i))), (9, .int (nI i)), (8, .int (nI w)), (5, .int 1), (7, .int 0), (0, .ref mo), (1, .int l_), (2, .int c_), (3, .int 1), (4, .int f_)]) hx hb dX12_game_187 hl (by decide) (zLvf_h rfl) (fun ls hl => ?_)
                      have tii9 := nI_toInt (n := i) (by omega)
                      have hxn9 : (nI i).toInt = gIx (gOp (zWo f_all 610 j_inns_3) (aRs (zWo f_all 610 j_inns_3) (zPo f_all 610) 7) 0 w) (gVp (zWo f_all 610 j_inns_3) (zLo f_all 610) j_inns_3 c_ (aRs (zWo f_all 610 j_inns_3) (zPo f_all 610) 7) 0 true 0 w) true (i + 1) := tii9.trans (gLx_y hxb.symm hv9 (by omega) (by first | exact Or.inl (by omega) | exact Or.inr (by rw [if_pos rfl]; omega))).symm
                      refine lv_iinc (v := nI (i + 1)) (lv' := [(9, .int (nI (i + 1))), (6, .int (nI i)), (10, .int (xr0 ((8 * w) + i))), (8, .int (nI w)), (5, .int 1), (7, .int 0), (0, .ref mo), (1, .int l_), (2, .int c_), (3, .int 1), (4, .int f_)]) hx hb dX12_game_189 hl (k := 2) rfl (z_inc i 1) (by decide) (zLvf_h rfl) (fun ls hl => ?_)
                      refine lv_goto (tgt := 102) hx hb dX12_game_192 (by decide) ?_
                      exact ih_102 (i + 1) (nI i) (show (i + 1) ≤ 8 ∧ (nI i).toInt = gIx (gOp (zWo f_all 610 j_inns_3) (aRs (zWo f_all 610 j_inns_3) (zPo f_all 610) 7) 0 w) (gVp (zWo f_all 610 j_inns_3) (zLo f_all 610) j_inns_3 c_ (aRs (zWo f_all 610 j_inns_3) (zPo f_all 610) 7) 0 true 0 w) true (i + 1) from ⟨by omega, hxn9⟩) (show 8 - (i + 1) < 8 - i from by omega) _ _ ls G (lv_sub hl [0, 1, 3, 4, 5, 6, 7, 8, 9, 10] rfl)
                    · have c_68n : ¬ x.toInt = (-1 : Int) := fun q => c_68 ((fa_eq _ _).mpr q)
                      refine lv_iload hx hb dX12_game_136 (lv_at hl 5 rfl) ?_
                      refine lv_iconst (v := 2) hx hb dX12_game_138 (by decide) ?_
                      refine lv_irem hx hb dX12_game_139 (by decide) ?_
                      refine lv_topi (fun y_69 ey_69 => ?_)
                      obtain rfl : y_69 = 0 := ey_69.trans (by decide)
                      refine lv_if_ne (tgt := 164) hx hb dX12_game_140 (by decide) (fun q => absurd (by decide) q) (fun _ => ?_)
                      refine lv_iload hx hb dX12_game_143 (lv_at hl 0 rfl) ?_
                      refine lv_aload_n hx hb dX12_game_145 rfl (lv_at hl 6 rfl) ?_
                      refine z_get C G clX12 6 rfl 24 (by decide) m_fl_RX12_38 rfl dX12_game_146 ?_
                      refine lv_bipush (v := 8) hx hb dX12_game_149 (by decide) ?_
                      refine lv_iload hx hb dX12_game_151 (lv_at hl 3 rfl) ?_
                      refine lv_imul hx hb dX12_game_153 ?_
                      refine lv_topi (fun y_70 ey_70 => ?_)
                      obtain rfl : y_70 = nI (8 * w) := ey_70.trans (z_imuln 8 w rfl rfl)
                      refine lv_iload hx hb dX12_game_154 (lv_at hl 2 rfl) ?_
                      refine lv_iadd hx hb dX12_game_156 ?_
                      refine lv_topi (fun y_71 ey_71 => ?_)
                      have ey_71i : y_71.toInt = ((8 * w) : Int) + x.toInt := by rw [ey_71]; exact (z_iaddI (x := (nI (8 * w))) (y := x) (by rw [nI_toInt (n := 8 * w) (by omega)]; show -2147483648 ≤ ((8 * w) : Int) + x.toInt; omega) (by rw [nI_toInt (n := 8 * w) (by omega)]; show ((8 * w) : Int) + x.toInt < 2147483648; omega)).trans (by rw [nI_toInt (n := 8 * w) (by omega)] <;> rfl)
                      refine z_ild C G 1 rfl (vp_in_iff.mpr ⟨by omega, by omega⟩) dX12_game_157 ?_
                      refine lv_topi (fun v_72 ev_72 => ?_)
                      subst ev_72
                      have hxy9 := hxk9.resolve_left (by first | omega | (intro q9; omega))
                      have hw9 : (xr0 y_71.toNatClampNeg).toInt = (gVp (zWo f_all 610 j_inns_3) (zLo f_all 610) j_inns_3 c_ (aRs (zWo f_all 610 j_inns_3) (zPo f_all 610) 7) 0 true 0 w) x.toInt.toNat := by rw [(show y_71.toNatClampNeg = 8 * w + x.toInt.toNat from by have q4 := z_clI (x := y_71) (by omega); omega), hxF0 (8 * w + x.toInt.toNat) (by omega)]; exact ((hF0 (8 * w + x.toInt.toNat) (by omega)).trans (gRw_c (by omega))).trans (if_pos hxy9.2.2)
                      refine lv_icmp_lt (tgt := 185) hx hb dX12_game_158 (by decide) (fun c_73 => ?_) (fun c_73 => ?_)
                      · have c_73n : (xr0 ((8 * w) + i)).toInt < (xr0 y_71.toNatClampNeg).toInt := (fa_lt _ _).mp c_73
                        refine lv_iload hx hb dX12_game_185 (lv_at hl 1 rfl) ?_
                        refine lv_istore (lv' := [(6, .int (nI i)), (10, .int (xr0 ((8 * w) + i))), (9, .int (nI i)), (8, .int (nI w)), (5, .int 1), (7, .int 0), (0, .ref mo), (1, .int l_), (2, .int c_), (3, .int 1), (4, .int f_)]) hx hb dX12_game_187 hl (by decide) (zLvf_h rfl) (fun ls hl => ?_)
                        have tii9 := nI_toInt (n := i) (by omega)
                        have hxn9 : (nI i).toInt = gIx (gOp (zWo f_all 610 j_inns_3) (aRs (zWo f_all 610 j_inns_3) (zPo f_all 610) 7) 0 w) (gVp (zWo f_all 610 j_inns_3) (zLo f_all 610) j_inns_3 c_ (aRs (zWo f_all 610 j_inns_3) (zPo f_all 610) 7) 0 true 0 w) true (i + 1) := tii9.trans (gLx_y hxb.symm hv9 (by omega) (by first | exact Or.inl (by omega) | exact Or.inr (by rw [if_pos rfl]; omega))).symm
                        refine lv_iinc (v := nI (i + 1)) (lv' := [(9, .int (nI (i + 1))), (6, .int (nI i)), (10, .int (xr0 ((8 * w) + i))), (8, .int (nI w)), (5, .int 1), (7, .int 0), (0, .ref mo), (1, .int l_), (2, .int c_), (3, .int 1), (4, .int f_)]) hx hb dX12_game_189 hl (k := 2) rfl (z_inc i 1) (by decide) (zLvf_h rfl) (fun ls hl => ?_)
                        refine lv_goto (tgt := 102) hx hb dX12_game_192 (by decide) ?_
                        exact ih_102 (i + 1) (nI i) (show (i + 1) ≤ 8 ∧ (nI i).toInt = gIx (gOp (zWo f_all 610 j_inns_3) (aRs (zWo f_all 610 j_inns_3) (zPo f_all 610) 7) 0 w) (gVp (zWo f_all 610 j_inns_3) (zLo f_all 610) j_inns_3 c_ (aRs (zWo f_all 610 j_inns_3) (zPo f_all 610) 7) 0 true 0 w) true (i + 1) from ⟨by omega, hxn9⟩) (show 8 - (i + 1) < 8 - i from by omega) _ _ ls G (lv_sub hl [0, 1, 3, 4, 5, 6, 7, 8, 9, 10] rfl)
                      · have c_73n : ¬ (xr0 ((8 * w) + i)).toInt < (xr0 y_71.toNatClampNeg).toInt := fun q => c_73 ((fa_lt _ _).mpr q)
                        refine lv_goto (tgt := 189) hx hb dX12_game_161 (by decide) ?_
                        have hxn9 : x.toInt = gIx (gOp (zWo f_all 610 j_inns_3) (aRs (zWo f_all 610 j_inns_3) (zPo f_all 610) 7) 0 w) (gVp (zWo f_all 610 j_inns_3) (zLo f_all 610) j_inns_3 c_ (aRs (zWo f_all 610 j_inns_3) (zPo f_all 610) 7) 0 true 0 w) true (i + 1) := (gLx_n (fun c => gVp_0 c) hxb.symm hv9 (by first | exact Or.inl (by omega) | exact Or.inr ⟨by omega, by rw [if_pos rfl]; omega⟩)).symm
                        refine lv_iinc (v := nI (i + 1)) (lv' := [(9, .int (nI (i + 1))), (10, .int (xr0 ((8 * w) + i))), (6, .int x), (8, .int (nI w)), (5, .int 1), (7, .int 0), (0, .ref mo), (1, .int l_), (2, .int c_), (3, .int 1), (4, .int f_)]) hx hb dX12_game_189 hl (k := 1) rfl (z_inc i 1) (by decide) (zLvf_h rfl) (fun ls hl => ?_)
                        refine lv_goto (tgt := 102) hx hb dX12_game_192 (by decide) ?_
                        exact ih_102 (i + 1) x (show (i + 1) ≤ 8 ∧ x.toInt = gIx (gOp (zWo f_all 610 j_inns_3) (aRs (zWo f_all 610 j_inns_3) (zPo f_all 610) 7) 0 w) (gVp (zWo f_all 610 j_inns_3) (zLo f_all 610) j_inns_3 c_ (aRs (zWo f_all 610 j_inns_3) (zPo f_all 610) 7) 0 true 0 w) true (i + 1) from ⟨by omega, hxn9⟩) (show 8 - (i + 1) < 8 - i from by omega) _ _ ls G (lv_sub hl [0, 2, 3, 4, 5, 6, 7, 8, 9, 10] rfl)
            · have c_53n : ¬ 8 ≤ w := fun q => c_53 ((nI_leI (a := 8) (b := w) (by omega) (by omega)).mpr q)
              refine lv_aload_n hx hb dX12_game_45 rfl (lv_at hl 2 rfl) ?_
              refine z_get C G clX12 6 rfl 24 (by decide) m_fl_RX12_38 rfl dX12_game_46 ?_
              refine lv_iload hx hb dX12_game_49 (lv_at hl 0 rfl) ?_
              refine lv_aload_n hx hb dX12_game_51 rfl (lv_at hl 2 rfl) ?_
              refine lv_iload hx hb dX12_game_52 (lv_at hl 0 rfl) ?_
              refine lv_iload_n hx hb dX12_game_54 rfl (lv_at hl 5 rfl) ?_
              refine lv_iload_n hx hb dX12_game_55 rfl (lv_at hl 4 rfl) ?_
              have ti_74 : (nI w).toInt = ((w : Nat) : Int) := nI_toInt (by omega)
              refine z_Vi (bc := [[zO11 mo m_all m_has i_size i_next i_where i_token i_number i_word i_wrong i_farCrossing m_read 610 j_crossings_2 j_inns_3 m_posts m_shut m_here xsteps xdone xat xgone m_was m_came m_seenAt m_rowWorth m_farBy m_used i_everywhere i_again0 i_d0 i_never i_firstCame i_longRun i_moved i_crowd i_l0 i_fitMany i_fitLeast i_fitMost m_fitPost m_fitEnd m_keptPosts i_x0], [zAr T 0 m_all 3952 f_all], [zAr T 0 m_posts 7 xposts], [zAr T 0 m_shut 7 xshut], [zAr T 0 m_here 7 xhere], [zAr T 0 m_was 7 xwas]]) (br := [[zAr T 0 m_rowWorth 512 xrowWorth]]) (As := [.int (nI w), .int 1, .int c_]) (rest := [.int (nI w), .ref m_rowWorth]) C G (c_fm_gameBy1 l T mo m_all m_has i_size i_next i_where i_token i_number i_word i_wrong i_farCrossing m_read 610 j_crossings_2 j_inns_3 m_posts m_shut m_here xsteps xdone xat xgone m_was m_came m_seenAt m_rowWorth m_farBy m_used i_everywhere i_again0 i_d0 i_never i_firstCame i_longRun i_moved i_crowd i_l0 i_fitMany i_fitLeast i_fitMost m_fitPost m_fitEnd m_keptPosts i_x0 f_all xposts xshut xhere xwas w c_ hLx (by first | with_reducible assumption | with_reducible rfl | omega | assumption | rfl | decide) (by first | with_reducible assumption | with_reducible rfl | omega | assumption | rfl | decide) hVA hVz (by first | with_reducible assumption | with_reducible rfl | omega | assumption | rfl | decide)) (kV_RX12_251 C.2.2.2.2 (Nat.le_of_ble_eq_true rfl) (Nat.le_of_ble_eq_true rfl)) [6, 2, 3, 4, 5, 0] [0, 1, 0, 0, 0, 0] rfl rfl (ci := 11) (qc := (RX12, TX12, 43)) rfl rfl (List.mem_flatten.mpr ⟨_, List.mem_of_getElem? (i := 0) rfl, List.mem_cons_self⟩) rfl rfl hl.1 dX12_game_56 (Nat.le_of_ble_eq_true rfl) (Nat.le_of_ble_eq_true rfl) (fun r_84 b1 H locs hw G => ?_)
              refine zEx8 hw ?_
              intro j_steps_75 j_done_76 j_at_77 j_gone_78 g_posts_79 g_shut_80 g_here_81 g_was_82
              refine zCu2 ?_
              intro hbs9 h_83
              clear hw
              subst hbs9
              have G : zS T A s.heap s [[zAr T 0 m_rowWorth 512 xrowWorth], [zO11 mo m_all m_has i_size i_next i_where i_token i_number i_word i_wrong i_farCrossing m_read 610 j_crossings_2 j_inns_3 m_posts m_shut m_here j_steps_75 j_done_76 j_at_77 j_gone_78 m_was m_came m_seenAt m_rowWorth m_farBy m_used i_everywhere i_again0 i_d0 i_never i_firstCame i_longRun i_moved i_crowd i_l0 i_fitMany i_fitLeast i_fitMost m_fitPost m_fitEnd m_keptPosts i_x0], [zAr T 0 m_all 3952 f_all], [zAr T 0 m_posts 7 g_posts_79], [zAr T 0 m_shut 7 g_shut_80], [zAr T 0 m_here 7 g_here_81], [zAr T 0 m_was 7 g_was_82]] _ _ := G
              have hgb9 : r_84.toInt = gRw (zWo f_all 610 j_inns_3) (zLo f_all 610) j_inns_3 c_ (aRs (zWo f_all 610 j_inns_3) (zPo f_all 610) 7) 0 false 1 w := h_83
              refine z_ist C G 0 rfl (vp_in_nI (by omega) (by decide)) dX12_game_59 (fun H locs G => ?_)
              rw [nI_clamp (by omega)] at G
              have G : zS T A s.heap s [[zAr T 0 m_rowWorth 512 (upd xrowWorth w r_84)], [zO11 mo m_all m_has i_size i_next i_where i_token i_number i_word i_wrong i_farCrossing m_read 610 j_crossings_2 j_inns_3 m_posts m_shut m_here j_steps_75 j_done_76 j_at_77 j_gone_78 m_was m_came m_seenAt m_rowWorth m_farBy m_used i_everywhere i_again0 i_d0 i_never i_firstCame i_longRun i_moved i_crowd i_l0 i_fitMany i_fitLeast i_fitMost m_fitPost m_fitEnd m_keptPosts i_x0], [zAr T 0 m_all 3952 f_all], [zAr T 0 m_posts 7 g_posts_79], [zAr T 0 m_shut 7 g_shut_80], [zAr T 0 m_here 7 g_here_81], [zAr T 0 m_was 7 g_was_82]] _ _ := G
              refine lv_iinc (v := nI (w + 1)) (lv' := [(6, .int (nI (w + 1))), (5, .int 8), (0, .ref mo), (1, .int l_), (2, .int c_), (3, .int 1), (4, .int f_)]) hx hb dX12_game_60 hl (k := 0) rfl (z_inc w 1) (by decide) (zLvf_h rfl) (fun ls hl => ?_)
              refine lv_goto (tgt := 38) hx hb dX12_game_63 (by decide) ?_
              have G := G.sub (bs' := [[zAr T 0 m_was 7 g_was_82], [zAr T 0 m_rowWorth 512 (upd xrowWorth w r_84)], [zAr T 0 m_all 3952 f_all], [zAr T 0 m_posts 7 g_posts_79], [zAr T 0 m_shut 7 g_shut_80], [zAr T 0 m_here 7 g_here_81], [zO11 mo m_all m_has i_size i_next i_where i_token i_number i_word i_wrong i_farCrossing m_read 610 j_crossings_2 j_inns_3 m_posts m_shut m_here j_steps_75 j_done_76 j_at_77 j_gone_78 m_was m_came m_seenAt m_rowWorth m_farBy m_used i_everywhere i_again0 i_d0 i_never i_firstCame i_longRun i_moved i_crowd i_l0 i_fitMany i_fitLeast i_fitMost m_fitPost m_fitEnd m_keptPosts i_x0]]) [6, 0, 2, 3, 4, 5, 1] rfl
              exact ih_38 (w + 1) j_at_77 j_gone_78 j_steps_75 j_done_76 g_posts_79 g_shut_80 g_here_81 g_was_82 (upd xrowWorth w r_84) (show (w + 1) ≤ 8 ∧ (∀ p, p < (w + 1) → ((upd xrowWorth w r_84) p).toInt = gRw (zWo f_all 610 j_inns_3) (zLo f_all 610) j_inns_3 c_ (aRs (zWo f_all 610 j_inns_3) (zPo f_all 610) 7) 0 false 1 p) from ⟨by omega, (gUp hrow hgb9)⟩) (show 8 - (w + 1) < 8 - w from by omega) _ _ ls G (lv_sub hl [0, 1, 2, 3, 4, 5, 6] rfl)
          · obtain rfl : n_ = 2 := Int32.toInt_inj.mp hnn9
            refine lv_iconst (v := 1) hx hb dX12_game_28 (by decide) ?_
            refine lv_iconst (v := 3) hx hb dX12_game_29 (by decide) ?_
            refine lv_iload_n hx hb dX12_game_30 rfl (lv_at hl 3 rfl) ?_
            refine lv_imul hx hb dX12_game_31 ?_
            refine lv_topi (fun y_85 ey_85 => ?_)
            obtain rfl : y_85 = 6 := ey_85.trans (by decide)
            refine lv_ishl hx hb dX12_game_32 ?_
            refine lv_topi (fun y_86 ey_86 => ?_)
            obtain rfl : y_86 = 64 := ey_86.trans (by decide)
            refine lv_istore (lv' := [(5, .int 64), (0, .ref mo), (1, .int l_), (2, .int c_), (3, .int 2), (4, .int f_)]) hx hb dX12_game_33 hl (by decide) (zLvf_h rfl) (fun ls hl => ?_)
            refine lv_iconst (v := 0) hx hb dX12_game_35 (by decide) ?_
            refine lv_istore (lv' := [(6, .int 0), (5, .int 64), (0, .ref mo), (1, .int l_), (2, .int c_), (3, .int 2), (4, .int f_)]) hx hb dX12_game_36 hl (by decide) (zLvf_h rfl) (fun ls hl => ?_)
            refine z_lp10 (T := T) 38 (fun (w : Nat) (xat : Int32) (xgone : Int32) (xsteps : Int32) (xdone : Int32) (xposts : Nat → Int32) (xshut : Nat → Int32) (xhere : Nat → Int32) (xwas : Nat → Int32) (xrowWorth : Nat → Int32) => [[zAr T 0 m_was 7 xwas], [zAr T 0 m_rowWorth 512 xrowWorth], [zAr T 0 m_all 3952 f_all], [zAr T 0 m_posts 7 xposts], [zAr T 0 m_shut 7 xshut], [zAr T 0 m_here 7 xhere], [zO11 mo m_all m_has i_size i_next i_where i_token i_number i_word i_wrong i_farCrossing m_read 610 j_crossings_2 j_inns_3 m_posts m_shut m_here xsteps xdone xat xgone m_was m_came m_seenAt m_rowWorth m_farBy m_used i_everywhere i_again0 i_d0 i_never i_firstCame i_longRun i_moved i_crowd i_l0 i_fitMany i_fitLeast i_fitMost m_fitPost m_fitEnd m_keptPosts i_x0]]) (fun (w : Nat) (xat : Int32) (xgone : Int32) (xsteps : Int32) (xdone : Int32) (xposts : Nat → Int32) (xshut : Nat → Int32) (xhere : Nat → Int32) (xwas : Nat → Int32) (xrowWorth : Nat → Int32) => [(6, .int (nI w)), (5, .int 64), (0, .ref mo), (1, .int l_), (2, .int c_), (3, .int 2), (4, .int f_)]) (fun (w : Nat) (xat : Int32) (xgone : Int32) (xsteps : Int32) (xdone : Int32) (xposts : Nat → Int32) (xshut : Nat → Int32) (xhere : Nat → Int32) (xwas : Nat → Int32) (xrowWorth : Nat → Int32) => w ≤ 64 ∧ (∀ p, p < w → (xrowWorth p).toInt = gRw (zWo f_all 610 j_inns_3) (zLo f_all 610) j_inns_3 c_ (aRs (zWo f_all 610 j_inns_3) (zPo f_all 610) 7) 0 true 2 p)) (fun (w : Nat) (xat : Int32) (xgone : Int32) (xsteps : Int32) (xdone : Int32) (xposts : Nat → Int32) (xshut : Nat → Int32) (xhere : Nat → Int32) (xwas : Nat → Int32) (xrowWorth : Nat → Int32) => 64 - w) ?_ 0 i_at i_gone j_steps_4 j_done_5 g_posts_6 g_shut_7 g_here_8 f_was f_rowWorth (show 0 ≤ 64 ∧ (∀ p, p < 0 → (f_rowWorth p).toInt = gRw (zWo f_all 610 j_inns_3) (zLo f_all 610) j_inns_3 c_ (aRs (zWo f_all 610 j_inns_3) (zPo f_all 610) 7) 0 true 2 p) from ⟨by omega, (fun p hp => absurd hp (Nat.not_lt_zero _))⟩) G (lv_sub hl [0, 1, 2, 3, 4, 5, 6] rfl)
            intro w xat xgone xsteps xdone xposts xshut xhere xwas xrowWorth hI9 ih_38 H locs ls G hl
            replace hI9 : w ≤ 64 ∧ (∀ p, p < w → (xrowWorth p).toInt = gRw (zWo f_all 610 j_inns_3) (zLo f_all 610) j_inns_3 c_ (aRs (zWo f_all 610 j_inns_3) (zPo f_all 610) 7) 0 true 2 p) := hI9
            refine zAn2 hI9 ?_
            intro hww hrow
            clear hI9
            replace G : zS T A s.heap s [[zAr T 0 m_was 7 xwas], [zAr T 0 m_rowWorth 512 xrowWorth], [zAr T 0 m_all 3952 f_all], [zAr T 0 m_posts 7 xposts], [zAr T 0 m_shut 7 xshut], [zAr T 0 m_here 7 xhere], [zO11 mo m_all m_has i_size i_next i_where i_token i_number i_word i_wrong i_farCrossing m_read 610 j_crossings_2 j_inns_3 m_posts m_shut m_here xsteps xdone xat xgone m_was m_came m_seenAt m_rowWorth m_farBy m_used i_everywhere i_again0 i_d0 i_never i_firstCame i_longRun i_moved i_crowd i_l0 i_fitMany i_fitLeast i_fitMost m_fitPost m_fitEnd m_keptPosts i_x0]] _ _ := G
            replace hl : lv_has ls 11 [(6, .int (nI w)), (5, .int 64), (0, .ref mo), (1, .int l_), (2, .int c_), (3, .int 2), (4, .int f_)] := hl
            refine lv_iload hx hb dX12_game_38 (lv_at hl 0 rfl) ?_
            refine lv_iload hx hb dX12_game_40 (lv_at hl 1 rfl) ?_
            refine lv_icmp_ge (tgt := 66) hx hb dX12_game_42 (by decide) (fun c_87 => ?_) (fun c_87 => ?_)
            · have c_87n : 64 ≤ w := (nI_leI (a := 64) (b := w) (by omega) (by omega)).mp c_87
              refine lv_iconst (v := (-1)) hx hb dX12_game_66 (by decide) ?_
              refine lv_istore (lv' := [(6, .int (-1)), (5, .int 64), (0, .ref mo), (1, .int l_), (2, .int c_), (3, .int 2), (4, .int f_)]) hx hb dX12_game_67 hl (by decide) (zLvf_h rfl) (fun ls hl => ?_)
              refine lv_iload_n hx hb dX12_game_69 rfl (lv_at hl 5 rfl) ?_
              refine lv_iconst (v := 1) hx hb dX12_game_70 (by decide) ?_
              refine lv_isub hx hb dX12_game_71 ?_
              refine lv_topi (fun y_88 ey_88 => ?_)
              obtain rfl : y_88 = 1 := ey_88.trans (by decide)
              refine lv_istore (lv' := [(7, .int 1), (6, .int (-1)), (5, .int 64), (0, .ref mo), (1, .int l_), (2, .int c_), (3, .int 2), (4, .int f_)]) hx hb dX12_game_72 hl (by decide) (zLvf_h rfl) (fun ls hl => ?_)
              refine lv_iload hx hb dX12_game_74 (lv_at hl 0 rfl) ?_
              refine lv_if_lt (tgt := 237) hx hb dX12_game_76 (by decide) (fun q => absurd q (by decide)) (fun _ => ?_)
              refine lv_iload hx hb dX12_game_79 (lv_at hl 2 rfl) ?_
              refine lv_bipush (v := 8) hx hb dX12_game_81 (by decide) ?_
              refine lv_idiv hx hb dX12_game_83 (by decide) ?_
              refine lv_topi (fun y_89 ey_89 => ?_)
              obtain rfl : y_89 = 8 := ey_89.trans (by decide)
              refine lv_istore (lv' := [(5, .int 8), (7, .int 1), (6, .int (-1)), (0, .ref mo), (1, .int l_), (2, .int c_), (3, .int 2), (4, .int f_)]) hx hb dX12_game_84 hl (by decide) (zLvf_h rfl) (fun ls hl => ?_)
              refine lv_iconst (v := 0) hx hb dX12_game_86 (by decide) ?_
              refine lv_istore (lv' := [(8, .int 0), (5, .int 8), (7, .int 1), (6, .int (-1)), (0, .ref mo), (1, .int l_), (2, .int c_), (3, .int 2), (4, .int f_)]) hx hb dX12_game_87 hl (by decide) (zLvf_h rfl) (fun ls hl => ?_)
              have hF1 : ∀ p, p < 64 → (xrowWorth p).toInt = gRw (zWo f_all 610 j_inns_3) (zLo f_all 610) j_inns_3 c_ (aRs (zWo f_all 610 j_inns_3) (zPo f_all 610) 7) 0 (!false) 2 p := fun p hp => hrow p (by omega)
              refine z_lp3 (T := T) 89 (fun (w : Nat) (x : Int32) (xr1 : Nat → Int32) => [[zAr T 0 m_was 7 xwas], [zAr T 0 m_rowWorth 512 xr1], [zAr T 0 m_all 3952 f_all], [zAr T 0 m_posts 7 xposts], [zAr T 0 m_shut 7 xshut], [zAr T 0 m_here 7 xhere], [zO11 mo m_all m_has i_size i_next i_where i_token i_number i_word i_wrong i_farCrossing m_read 610 j_crossings_2 j_inns_3 m_posts m_shut m_here xsteps xdone xat xgone m_was m_came m_seenAt m_rowWorth m_farBy m_used i_everywhere i_again0 i_d0 i_never i_firstCame i_longRun i_moved i_crowd i_l0 i_fitMany i_fitLeast i_fitMost m_fitPost m_fitEnd m_keptPosts i_x0]]) (fun (w : Nat) (x : Int32) (xr1 : Nat → Int32) => [(8, .int (nI w)), (5, .int 8), (7, .int 1), (6, .int x), (0, .ref mo), (1, .int l_), (2, .int c_), (3, .int 2), (4, .int f_)]) (fun (w : Nat) (x : Int32) (xr1 : Nat → Int32) => w ≤ 8 ∧ (∀ p, p < w → (xr1 p).toInt = gRw (zWo f_all 610 j_inns_3) (zLo f_all 610) j_inns_3 c_ (aRs (zWo f_all 610 j_inns_3) (zPo f_all 610) 7) 1 false 1 p) ∧ (∀ p, w ≤ p → xr1 p = xrowWorth p) ∧ (0 < w → x.toInt = gIx (gOp (zWo f_all 610 j_inns_3) (aRs (zWo f_all 610 j_inns_3) (zPo f_all 610) 7) 1 (w - 1)) (gVp (zWo f_all 610 j_inns_3) (zLo f_all 610) j_inns_3 c_ (aRs (zWo f_all 610 j_inns_3) (zPo f_all 610) 7) 0 false 1 (w - 1)) false 8)) (fun (w : Nat) (x : Int32) (xr1 : Nat → Int32) => 8 - w) ?_ 0 (-1) xrowWorth (show 0 ≤ 8 ∧ (∀ p, p < 0 → (xrowWorth p).toInt = gRw (zWo f_all 610 j_inns_3) (zLo f_all 610) j_inns_3 c_ (aRs (zWo f_all 610 j_inns_3) (zPo f_all 610) 7) 1 false 1 p) ∧ (∀ p, 0 ≤ p → xrowWorth p = xrowWorth p) ∧ (0 < 0 → ((-1) : Int32).toInt = gIx (gOp (zWo f_all 610 j_inns_3) (aRs (zWo f_all 610 j_inns_3) (zPo f_all 610) 7) 1 (0 - 1)) (gVp (zWo f_all 610 j_inns_3) (zLo f_all 610) j_inns_3 c_ (aRs (zWo f_all 610 j_inns_3) (zPo f_all 610) 7) 0 false 1 (0 - 1)) false 8) from ⟨by omega, (fun p hp => absurd hp (Nat.not_lt_zero _)), (fun _ _ => rfl), (fun q9 => absurd q9 (Nat.lt_irrefl _))⟩) G (lv_sub hl [0, 1, 2, 3, 4, 5, 6, 7, 8] rfl)
              intro w x xr1 hI9 ih_89 H locs ls G hl
              replace hI9 : w ≤ 8 ∧ (∀ p, p < w → (xr1 p).toInt = gRw (zWo f_all 610 j_inns_3) (zLo f_all 610) j_inns_3 c_ (aRs (zWo f_all 610 j_inns_3) (zPo f_all 610) 7) 1 false 1 p) ∧ (∀ p, w ≤ p → xr1 p = xrowWorth p) ∧ (0 < w → x.toInt = gIx (gOp (zWo f_all 610 j_inns_3) (aRs (zWo f_all 610 j_inns_3) (zPo f_all 610) 7) 1 (w - 1)) (gVp (zWo f_all 610 j_inns_3) (zLo f_all 610) j_inns_3 c_ (aRs (zWo f_all 610 j_inns_3) (zPo f_all 610) 7) 0 false 1 (w - 1)) false 8) := hI9
              refine zAn4 hI9 ?_
              intro hww hwr1 hxF1 hx6
              clear hI9
              replace G : zS T A s.heap s [[zAr T 0 m_was 7 xwas], [zAr T 0 m_rowWorth 512 xr1], [zAr T 0 m_all 3952 f_all], [zAr T 0 m_posts 7 xposts], [zAr T 0 m_shut 7 xshut], [zAr T 0 m_here 7 xhere], [zO11 mo m_all m_has i_size i_next i_where i_token i_number i_word i_wrong i_farCrossing m_read 610 j_crossings_2 j_inns_3 m_posts m_shut m_here xsteps xdone xat xgone m_was m_came m_seenAt m_rowWorth m_farBy m_used i_everywhere i_again0 i_d0 i_never i_firstCame i_longRun i_moved i_crowd i_l0 i_fitMany i_fitLeast i_fitMost m_fitPost m_fitEnd m_keptPosts i_x0]] _ _ := G
              replace hl : lv_has ls 11 [(8, .int (nI w)), (5, .int 8), (7, .int 1), (6, .int x), (0, .ref mo), (1, .int l_), (2, .int c_), (3, .int 2), (4, .int f_)] := hl
              refine lv_iload hx hb dX12_game_89 (lv_at hl 0 rfl) ?_
              refine lv_iload hx hb dX12_game_91 (lv_at hl 1 rfl) ?_
              refine lv_icmp_ge (tgt := 231) hx hb dX12_game_93 (by decide) (fun c_90 => ?_) (fun c_90 => ?_)
              · have c_90n : 8 ≤ w := (nI_leI (a := 8) (b := w) (by omega) (by omega)).mp c_90
                refine lv_iinc (v := 0) (lv' := [(7, .int 0), (8, .int (nI w)), (5, .int 8), (6, .int x), (0, .ref mo), (1, .int l_), (2, .int c_), (3, .int 2), (4, .int f_)]) hx hb dX12_game_231 hl (k := 2) rfl (by decide) (by decide) (zLvf_h rfl) (fun ls hl => ?_)
                refine lv_goto (tgt := 74) hx hb dX12_game_234 (by decide) ?_
                refine lv_iload hx hb dX12_game_74 (lv_at hl 0 rfl) ?_
                refine lv_if_lt (tgt := 237) hx hb dX12_game_76 (by decide) (fun q => absurd q (by decide)) (fun _ => ?_)
                refine lv_iload hx hb dX12_game_79 (lv_at hl 2 rfl) ?_
                refine lv_bipush (v := 8) hx hb dX12_game_81 (by decide) ?_
                refine lv_idiv hx hb dX12_game_83 (by decide) ?_
                refine lv_topi (fun y_91 ey_91 => ?_)
                obtain rfl : y_91 = 1 := ey_91.trans (by decide)
                refine lv_istore (lv' := [(5, .int 1), (7, .int 0), (8, .int (nI w)), (6, .int x), (0, .ref mo), (1, .int l_), (2, .int c_), (3, .int 2), (4, .int f_)]) hx hb dX12_game_84 hl (by decide) (zLvf_h rfl) (fun ls hl => ?_)
                refine lv_iconst (v := 0) hx hb dX12_game_86 (by decide) ?_
                refine lv_istore (lv' := [(8, .int 0), (5, .int 1), (7, .int 0), (6, .int x), (0, .ref mo), (1, .int l_), (2, .int c_), (3, .int 2), (4, .int f_)]) hx hb dX12_game_87 hl (by decide) (zLvf_h rfl) (fun ls hl => ?_)
                have hF0 : ∀ p, p < 8 → (xr1 p).toInt = gRw (zWo f_all 610 j_inns_3) (zLo f_all 610) j_inns_3 c_ (aRs (zWo f_all 610 j_inns_3) (zPo f_all 610) 7) 1 (!true) 1 p := fun p hp => hwr1 p (by omega)
                refine z_lp3 (T := T) 89 (fun (w : Nat) (x : Int32) (xr0 : Nat → Int32) => [[zAr T 0 m_was 7 xwas], [zAr T 0 m_rowWorth 512 xr0], [zAr T 0 m_all 3952 f_all], [zAr T 0 m_posts 7 xposts], [zAr T 0 m_shut 7 xshut], [zAr T 0 m_here 7 xhere], [zO11 mo m_all m_has i_size i_next i_where i_token i_number i_word i_wrong i_farCrossing m_read 610 j_crossings_2 j_inns_3 m_posts m_shut m_here xsteps xdone xat xgone m_was m_came m_seenAt m_rowWorth m_farBy m_used i_everywhere i_again0 i_d0 i_never i_firstCame i_longRun i_moved i_crowd i_l0 i_fitMany i_fitLeast i_fitMost m_fitPost m_fitEnd m_keptPosts i_x0]]) (fun (w : Nat) (x : Int32) (xr0 : Nat → Int32) => [(8, .int (nI w)), (5, .int 1), (7, .int 0), (6, .int x), (0, .ref mo), (1, .int l_), (2, .int c_), (3, .int 2), (4, .int f_)]) (fun (w : Nat) (x : Int32) (xr0 : Nat → Int32) => w ≤ 1 ∧ (∀ p, p < w → (xr0 p).toInt = gRw (zWo f_all 610 j_inns_3) (zLo f_all 610) j_inns_3 c_ (aRs (zWo f_all 610 j_inns_3) (zPo f_all 610) 7) 2 true 0 p) ∧ (∀ p, w ≤ p → xr0 p = xr1 p) ∧ (0 < w → x.toInt = gIx (gOp (zWo f_all 610 j_inns_3) (aRs (zWo f_all 610 j_inns_3) (zPo f_all 610) 7) 0 (w - 1)) (gVp (zWo f_all 610 j_inns_3) (zLo f_all 610) j_inns_3 c_ (aRs (zWo f_all 610 j_inns_3) (zPo f_all 610) 7) 1 true 0 (w - 1)) true 8)) (fun (w : Nat) (x : Int32) (xr0 : Nat → Int32) => 1 - w) ?_ 0 x xr1 (show 0 ≤ 1 ∧ (∀ p, p < 0 → (xr1 p).toInt = gRw (zWo f_all 610 j_inns_3) (zLo f_all 610) j_inns_3 c_ (aRs (zWo f_all 610 j_inns_3) (zPo f_all 610) 7) 2 true 0 p) ∧ (∀ p, 0 ≤ p → xr1 p = xr1 p) ∧ (0 < 0 → x.toInt = gIx (gOp (zWo f_all 610 j_inns_3) (aRs (zWo f_all 610 j_inns_3) (zPo f_all 610) 7) 0 (0 - 1)) (gVp (zWo f_all 610 j_inns_3) (zLo f_all 610) j_inns_3 c_ (aRs (zWo f_all 610 j_inns_3) (zPo f_all 610) 7) 1 true 0 (0 - 1)) true 8) from ⟨by omega, (fun p hp => absurd hp (Nat.not_lt_zero _)), (fun _ _ => rfl), (fun q9 => absurd q9 (Nat.lt_irrefl _))⟩) G (lv_sub hl [0, 1, 2, 3, 4, 5, 6, 7, 8] rfl)
                intro w x xr0 hI9 ih_89 H locs ls G hl
                replace hI9 : w ≤ 1 ∧ (∀ p, p < w → (xr0 p).toInt = gRw (zWo f_all 610 j_inns_3) (zLo f_all 610) j_inns_3 c_ (aRs (zWo f_all 610 j_inns_3) (zPo f_all 610) 7) 2 true 0 p) ∧ (∀ p, w ≤ p → xr0 p = xr1 p) ∧ (0 < w → x.toInt = gIx (gOp (zWo f_all 610 j_inns_3) (aRs (zWo f_all 610 j_inns_3) (zPo f_all 610) 7) 0 (w - 1)) (gVp (zWo f_all 610 j_inns_3) (zLo f_all 610) j_inns_3 c_ (aRs (zWo f_all 610 j_inns_3) (zPo f_all 610) 7) 1 true 0 (w - 1)) true 8) := hI9
                refine zAn4 hI9 ?_
                intro hww hwr0 hxF0 hx6
                clear hI9
                replace G : zS T A s.heap s [[zAr T 0 m_was 7 xwas], [zAr T 0 m_rowWorth 512 xr0], [zAr T 0 m_all 3952 f_all], [zAr T 0 m_posts 7 xposts], [zAr T 0 m_shut 7 xshut], [zAr T 0 m_here 7 xhere], [zO11 mo m_all m_has i_size i_next i_where i_token i_number i_word i_wrong i_farCrossing m_read 610 j_crossings_2 j_inns_3 m_posts m_shut m_here xsteps xdone xat xgone m_was m_came m_seenAt m_rowWorth m_farBy m_used i_everywhere i_again0 i_d0 i_never i_firstCame i_longRun i_moved i_crowd i_l0 i_fitMany i_fitLeast i_fitMost m_fitPost m_fitEnd m_keptPosts i_x0]] _ _ := G
                replace hl : lv_has ls 11 [(8, .int (nI w)), (5, .int 1), (7, .int 0), (6, .int x), (0, .ref mo), (1, .int l_), (2, .int c_), (3, .int 2), (4, .int f_)] := hl
                refine lv_iload hx hb dX12_game_89 (lv_at hl 0 rfl) ?_
                refine lv_iload hx hb dX12_game_91 (lv_at hl 1 rfl) ?_
                refine lv_icmp_ge (tgt := 231) hx hb dX12_game_93 (by decide) (fun c_92 => ?_) (fun c_92 => ?_)
                · have c_92n : 1 ≤ w := (nI_leI (a := 1) (b := w) (by omega) (by omega)).mp c_92
                  refine lv_iinc (v := (-1)) (lv' := [(7, .int (-1)), (8, .int (nI w)), (5, .int 1), (6, .int x), (0, .ref mo), (1, .int l_), (2, .int c_), (3, .int 2), (4, .int f_)]) hx hb dX12_game_231 hl (k := 2) rfl (by decide) (by decide) (zLvf_h rfl) (fun ls hl => ?_)
                  refine lv_goto (tgt := 74) hx hb dX12_game_234 (by decide) ?_
                  refine lv_iload hx hb dX12_game_74 (lv_at hl 0 rfl) ?_
                  refine lv_if_lt (tgt := 237) hx hb dX12_game_76 (by decide) (fun _ => ?_) (fun q => absurd (by decide) q)
                  refine lv_iload hx hb dX12_game_237 (lv_at hl 8 rfl) ?_
                  refine lv_if_ne (tgt := 251) hx hb dX12_game_239 (by decide) (fun c_93 => ?_) (fun c_93 => ?_)
                  · have c_93n : ¬ f_.toInt = (0 : Int) := fun q => c_93 ((fa_eq _ _).mpr q)
                    refine lv_iload hx hb dX12_game_251 (lv_at hl 3 rfl) ?_
                    have G := G.sub (bs' := [[zO11 mo m_all m_has i_size i_next i_where i_token i_number i_word i_wrong i_farCrossing m_read 610 j_crossings_2 j_inns_3 m_posts m_shut m_here xsteps xdone xat xgone m_was m_came m_seenAt m_rowWorth m_farBy m_used i_everywhere i_again0 i_d0 i_never i_firstCame i_longRun i_moved i_crowd i_l0 i_fitMany i_fitLeast i_fitMost m_fitPost m_fitEnd m_keptPosts i_x0], [zAr T 0 m_all 3952 f_all], [zAr T 0 m_posts 7 xposts], [zAr T 0 m_shut 7 xshut], [zAr T 0 m_here 7 xhere], [zAr T 0 m_was 7 xwas], [zAr T 0 m_rowWorth 512 xr0]]) [6, 2, 3, 4, 5, 0, 1] rfl
                    exact z_back hQz_ (z_iret C hr hlocks G (Nat.le_of_ble_eq_true rfl) (Nat.le_of_ble_eq_true rfl) dX12_game_253 ⟨610, j_crossings_2, j_inns_3, xsteps, xdone, xat, xgone, xposts, xshut, xhere, xwas, xr0, rfl, (Or.inr (Or.inl ⟨by first | with_reducible assumption | assumption, by omega, (by
                                                                have q6 : rGame (zWo f_all 610 j_inns_3) (zLo f_all 610) (zPo f_all 610) j_inns_3 c_ 2 f_ = rGame (pW f_all 610) (zLo f_all 610) (zPo f_all 610) (f_all (610 + 1)) c_ 2 f_ := by rw [← hWe, ← hNi]
                                                                unfold pGame
                                                                rw [if_pos (by show (0 ≤ c_.toInt ∧ c_.toInt < (f_all 610).toInt) ∧ 0 ≤ (2 : Int32).toInt ∧ (2 : Int32).toInt ≤ 3; exact ⟨⟨by omega, by omega⟩, by decide, by decide⟩)]
                                                                refine Eq.trans ?_ q6
                                                                unfold rGame
                                                                rw [if_neg (by first | with_reducible assumption | assumption), if_neg (by decide)]
                                                                have q9 := hx6 (by omega)
                                                                have q5 := Int32.toInt_lt x
                                                                rw [show w - 1 = 0 by omega] at q9
                                                                have q7 : x.toInt = gIx (gOk (zWo f_all 610 j_inns_3)) (fun c => gV (zWo f_all 610 j_inns_3) (zLo f_all 610) j_inns_3 c_ 1 false (gTn (zWo f_all 610 j_inns_3) (aRs (zWo f_all 610 j_inns_3) (zPo f_all 610) 7) c)) true 8 := q9.trans (gIx_cg 8 (fun c _ => ⟨rfl, rfl⟩))
                                                                have q8 := gIx_7 (ok := gOk (zWo f_all 610 j_inns_3)) (v := (fun c => gV (zWo f_all 610 j_inns_3) (zLo f_all 610) j_inns_3 c_ 1 false (gTn (zWo f_all 610 j_inns_3) (aRs (zWo f_all 610 j_inns_3) (zPo f_all 610) 7) c))) (mn := true) (fun c => gV_0 _ _ _) gOk_7
                                                                exact z_nI (m := (gIx (gOk (zWo f_all 610 j_inns_3)) (fun c => gV (zWo f_all 610 j_inns_3) (zLo f_all 610) j_inns_3 c_ 1 false (gTn (zWo f_all 610 j_inns_3) (aRs (zWo f_all 610 j_inns_3) (zPo f_all 610) 7) c)) true 8).toNat) (by omega) (by omega))⟩))⟩)
                  · have c_93n : f_.toInt = (0 : Int) := (fa_eq _ _).mp c_93
                    refine lv_aload_n hx hb dX12_game_242 rfl (lv_at hl 4 rfl) ?_
                    refine z_get C G clX12 6 rfl 24 (by decide) m_fl_RX12_38 rfl dX12_game_243 ?_
                    refine lv_iconst (v := 0) hx hb dX12_game_246 (by decide) ?_
                    refine z_ild C G 1 rfl (vp_in_nI (n := 0) (by decide) (by decide)) dX12_game_247 ?_
                    refine lv_topi (fun v_94 ev_94 => ?_)
                    rw [show ((0 : Int32).toNatClampNeg) = 0 from rfl] at ev_94
                    subst ev_94
                    refine lv_goto (tgt := 253) hx hb dX12_game_248 (by decide) ?_
                    have G := G.sub (bs' := [[zO11 mo m_all m_has i_size i_next i_where i_token i_number i_word i_wrong i_farCrossing m_read 610 j_crossings_2 j_inns_3 m_posts m_shut m_here xsteps xdone xat xgone m_was m_came m_seenAt m_rowWorth m_farBy m_used i_everywhere i_again0 i_d0 i_never i_firstCame i_longRun i_moved i_crowd i_l0 i_fitMany i_fitLeast i_fitMost m_fitPost m_fitEnd m_keptPosts i_x0], [zAr T 0 m_all 3952 f_all], [zAr T 0 m_posts 7 xposts], [zAr T 0 m_shut 7 xshut], [zAr T 0 m_here 7 xhere], [zAr T 0 m_was 7 xwas], [zAr T 0 m_rowWorth 512 xr0]]) [6, 2, 3, 4, 5, 0, 1] rfl
                    exact z_back hQz_ (z_iret C hr hlocks G (Nat.le_of_ble_eq_true rfl) (Nat.le_of_ble_eq_true rfl) dX12_game_253 ⟨610, j_crossings_2, j_inns_3, xsteps, xdone, xat, xgone, xposts, xshut, xhere, xwas, xr0, rfl, (Or.inr (Or.inl ⟨by first | with_reducible assumption | assumption, by omega, (by
                                                                have q6 : rGame (zWo f_all 610 j_inns_3) (zLo f_all 610) (zPo f_all 610) j_inns_3 c_ 2 f_ = rGame (pW f_all 610) (zLo f_all 610) (zPo f_all 610) (f_all (610 + 1)) c_ 2 f_ := by rw [← hWe, ← hNi]
                                                                unfold pGame
                                                                rw [if_pos (by show (0 ≤ c_.toInt ∧ c_.toInt < (f_all 610).toInt) ∧ 0 ≤ (2 : Int32).toInt ∧ (2 : Int32).toInt ≤ 3; exact ⟨⟨by omega, by omega⟩, by decide, by decide⟩)]
                                                                refine Eq.trans ?_ q6
                                                                unfold rGame
                                                                rw [if_pos (by first | with_reducible assumption | assumption)]
                                                                have q8 := gV_0 (W := (zWo f_all 610 j_inns_3)) (L := (zLo f_all 610)) (inn := j_inns_3) (x := c_) 2 true (aRs (zWo f_all 610 j_inns_3) (zPo f_all 610) 7)
                                                                have q5 := Int32.toInt_lt (xr0 0)
                                                                have q7 : (xr0 0).toInt = gV (zWo f_all 610 j_inns_3) (zLo f_all 610) j_inns_3 c_ 2 true (aRs (zWo f_all 610 j_inns_3) (zPo f_all 610) 7) := (hwr0 0 (by omega)).trans (if_pos rfl)
                                                                exact z_nI (m := (gV (zWo f_all 610 j_inns_3) (zLo f_all 610) j_inns_3 c_ 2 true (aRs (zWo f_all 610 j_inns_3) (zPo f_all 610) 7)).toNat) (by omega) (by omega))⟩))⟩)
                · have c_92n : ¬ 1 ≤ w := fun q => c_92 ((nI_leI (a := 1) (b := w) (by omega) (by omega)).mpr q)
                  refine lv_iconst (v := (-1)) hx hb dX12_game_96 (by decide) ?_
                  refine lv_istore (lv' := [(6, .int (-1)), (8, .int (nI w)), (5, .int 1), (7, .int 0), (0, .ref mo), (1, .int l_), (2, .int c_), (3, .int 2), (4, .int f_)]) hx hb dX12_game_97 hl (by decide) (zLvf_h rfl) (fun ls hl => ?_)
                  refine lv_iconst (v := 0) hx hb dX12_game_99 (by decide) ?_
                  refine lv_istore (lv' := [(9, .int 0), (6, .int (-1)), (8, .int (nI w)), (5, .int 1), (7, .int 0), (0, .ref mo), (1, .int l_), (2, .int c_), (3, .int 2), (4, .int f_)]) hx hb dX12_game_100 hl (by decide) (zLvf_h rfl) (fun ls hl => ?_)
                  refine z_lp2 (T := T) 102 (fun (i : Nat) (x : Int32) => [[zAr T 0 m_was 7 xwas], [zAr T 0 m_rowWorth 512 xr0], [zAr T 0 m_all 3952 f_all], [zAr T 0 m_posts 7 xposts], [zAr T 0 m_shut 7 xshut], [zAr T 0 m_here 7 xhere], [zO11 mo m_all m_has i_size i_next i_where i_token i_number i_word i_wrong i_farCrossing m_read 610 j_crossings_2 j_inns_3 m_posts m_shut m_here xsteps xdone xat xgone m_was m_came m_seenAt m_rowWorth m_farBy m_used i_everywhere i_again0 i_d0 i_never i_firstCame i_longRun i_moved i_crowd i_l0 i_fitMany i_fitLeast i_fitMost m_fitPost m_fitEnd m_keptPosts i_x0]]) (fun (i : Nat) (x : Int32) => [(9, .int (nI i)), (6, .int x), (8, .int (nI w)), (5, .int 1), (7, .int 0), (0, .ref mo), (1, .int l_), (2, .int c_), (3, .int 2), (4, .int f_)]) (fun (i : Nat) (x : Int32) => i ≤ 8 ∧ x.toInt = gIx (gOp (zWo f_all 610 j_inns_3) (aRs (zWo f_all 610 j_inns_3) (zPo f_all 610) 7) 0 w) (gVp (zWo f_all 610 j_inns_3) (zLo f_all 610) j_inns_3 c_ (aRs (zWo f_all 610 j_inns_3) (zPo f_all 610) 7) 1 true 0 w) true i) (fun (i : Nat) (x : Int32) => 8 - i) ?_ 0 (-1) (show 0 ≤ 8 ∧ ((-1) : Int32).toInt = gIx (gOp (zWo f_all 610 j_inns_3) (aRs (zWo f_all 610 j_inns_3) (zPo f_all 610) 7) 0 w) (gVp (zWo f_all 610 j_inns_3) (zLo f_all 610) j_inns_3 c_ (aRs (zWo f_all 610 j_inns_3) (zPo f_all 610) 7) 1 true 0 w) true 0 from ⟨by omega, rfl⟩) G (lv_sub hl [0, 1, 2, 3, 4, 5, 6, 7, 8, 9] rfl)
                  intro i x hI9 ih_102 H locs ls G hl
                  replace hI9 : i ≤ 8 ∧ x.toInt = gIx (gOp (zWo f_all 610 j_inns_3) (aRs (zWo f_all 610 j_inns_3) (zPo f_all 610) 7) 0 w) (gVp (zWo f_all 610 j_inns_3) (zLo f_all 610) j_inns_3 c_ (aRs (zWo f_all 610 j_inns_3) (zPo f_all 610) 7) 1 true 0 w) true i := hI9
                  refine zAn2 hI9 ?_
                  intro hi hxb
                  clear hI9
                  replace G : zS T A s.heap s [[zAr T 0 m_was 7 xwas], [zAr T 0 m_rowWorth 512 xr0], [zAr T 0 m_all 3952 f_all], [zAr T 0 m_posts 7 xposts], [zAr T 0 m_shut 7 xshut], [zAr T 0 m_here 7 xhere], [zO11 mo m_all m_has i_size i_next i_where i_token i_number i_word i_wrong i_farCrossing m_read 610 j_crossings_2 j_inns_3 m_posts m_shut m_here xsteps xdone xat xgone m_was m_came m_seenAt m_rowWorth m_farBy m_used i_everywhere i_again0 i_d0 i_never i_firstCame i_longRun i_moved i_crowd i_l0 i_fitMany i_fitLeast i_fitMost m_fitPost m_fitEnd m_keptPosts i_x0]] _ _ := G
                  replace hl : lv_has ls 11 [(9, .int (nI i)), (6, .int x), (8, .int (nI w)), (5, .int 1), (7, .int 0), (0, .ref mo), (1, .int l_), (2, .int c_), (3, .int 2), (4, .int f_)] := hl
                  refine lv_iload hx hb dX12_game_102 (lv_at hl 0 rfl) ?_
                  refine lv_bipush (v := 8) hx hb dX12_game_104 (by decide) ?_
                  refine lv_icmp_ge (tgt := 195) hx hb dX12_game_106 (by decide) (fun c_95 => ?_) (fun c_95 => ?_)
                  · have c_95n : 8 ≤ i := (nI_leI (a := 8) (b := i) (by omega) (by omega)).mp c_95
                    have hb89 : x.toInt = gIx (gOp (zWo f_all 610 j_inns_3) (aRs (zWo f_all 610 j_inns_3) (zPo f_all 610) 7) 0 w) (gVp (zWo f_all 610 j_inns_3) (zLo f_all 610) j_inns_3 c_ (aRs (zWo f_all 610 j_inns_3) (zPo f_all 610) 7) 1 true 0 w) true 8 := by rw [hxb, show i = 8 by omega]
                    have hle9 := gLx_e (fun c => gVp_0 c) hb89.symm
                    have hrs9 := gRw_s (W := (zWo f_all 610 j_inns_3)) (L := (zLo f_all 610)) (inn := j_inns_3) (x := c_) (t0 := (aRs (zWo f_all 610 j_inns_3) (zPo f_all 610) 7)) (m := 1) (mn := true) (k := 0) (p := w)
                    have hxk9 := gIx_ok (ok := (gOp (zWo f_all 610 j_inns_3) (aRs (zWo f_all 610 j_inns_3) (zPo f_all 610) 7) 0 w)) (v := (gVp (zWo f_all 610 j_inns_3) (zLo f_all 610) j_inns_3 c_ (aRs (zWo f_all 610 j_inns_3) (zPo f_all 610) 7) 1 true 0 w)) (mn := true) 8
                    rw [← hb89] at hxk9
                    refine lv_aload_n hx hb dX12_game_195 rfl (lv_at hl 5 rfl) ?_
                    refine z_get C G clX12 6 rfl 24 (by decide) m_fl_RX12_38 rfl dX12_game_196 ?_
                    refine lv_iload hx hb dX12_game_199 (lv_at hl 2 rfl) ?_
                    refine lv_iload hx hb dX12_game_201 (lv_at hl 1 rfl) ?_
                    refine lv_iconst (v := (-1)) hx hb dX12_game_203 (by decide) ?_
                    refine lv_icmp_ne (tgt := 211) hx hb dX12_game_204 (by decide) (fun c_96 => ?_) (fun c_96 => ?_)
                    · have c_96n : ¬ x.toInt = (-1 : Int) := fun q => c_96 ((fa_eq _ _).mpr q)
                      refine lv_aload_n hx hb dX12_game_211 rfl (lv_at hl 5 rfl) ?_
                      refine z_get C G clX12 6 rfl 24 (by decide) m_fl_RX12_38 rfl dX12_game_212 ?_
                      refine lv_bipush (v := 8) hx hb dX12_game_215 (by decide) ?_
                      refine lv_iload hx hb dX12_game_217 (lv_at hl 2 rfl) ?_
                      refine lv_imul hx hb dX12_game_219 ?_
                      refine lv_topi (fun y_97 ey_97 => ?_)
                      obtain rfl : y_97 = nI (8 * w) := ey_97.trans (z_imuln 8 w rfl rfl)
                      refine lv_iload hx hb dX12_game_220 (lv_at hl 1 rfl) ?_
                      refine lv_iadd hx hb dX12_game_222 ?_
                      refine lv_topi (fun y_98 ey_98 => ?_)
                      have ey_98i : y_98.toInt = ((8 * w) : Int) + x.toInt := by rw [ey_98]; exact (z_iaddI (x := (nI (8 * w))) (y := x) (by rw [nI_toInt (n := 8 * w) (by omega)]; show -2147483648 ≤ ((8 * w) : Int) + x.toInt; omega) (by rw [nI_toInt (n := 8 * w) (by omega)]; show ((8 * w) : Int) + x.toInt < 2147483648; omega)).trans (by rw [nI_toInt (n := 8 * w) (by omega)] <;> rfl)
                      refine z_ild C G 1 rfl (vp_in_iff.mpr ⟨by omega, by omega⟩) dX12_game_223 ?_
                      refine lv_topi (fun v_99 ev_99 => ?_)
                      subst ev_99
                      have hxy9 := hxk9.resolve_left (by first | omega | (intro q9; omega))
                      have hw9 : (xr0 y_98.toNatClampNeg).toInt = (gVp (zWo f_all 610 j_inns_3) (zLo f_all 610) j_inns_3 c_ (aRs (zWo f_all 610 j_inns_3) (zPo f_all 610) 7) 1 true 0 w) x.toInt.toNat := by rw [(show y_98.toNatClampNeg = 8 * w + x.toInt.toNat from by have q4 := z_clI (x := y_98) (by omega); omega), hxF0 (8 * w + x.toInt.toNat) (by omega)]; exact ((hF0 (8 * w + x.toInt.toNat) (by omega)).trans (gRw_c (by omega))).trans (if_pos hxy9.2.2)
                      have hnv9 : (xr0 y_98.toNatClampNeg).toInt = gRw (zWo f_all 610 j_inns_3) (zLo f_all 610) j_inns_3 c_ (aRs (zWo f_all 610 j_inns_3) (zPo f_all 610) 7) 2 true 0 w := by rw [hrs9, hle9.2 (by omega)]; exact hw9
                      refine z_ist C G 1 rfl (vp_in_nI (by omega) (by decide)) dX12_game_224 (fun H locs G => ?_)
                      rw [nI_clamp (by omega)] at G
                      have G : zS T A s.heap s [[zAr T 0 m_was 7 xwas], [zAr T 0 m_rowWorth 512 (upd xr0 w (xr0 y_98.toNatClampNeg))], [zAr T 0 m_all 3952 f_all], [zAr T 0 m_posts 7 xposts], [zAr T 0 m_shut 7 xshut], [zAr T 0 m_here 7 xhere], [zO11 mo m_all m_has i_size i_next i_where i_token i_number i_word i_wrong i_farCrossing m_read 610 j_crossings_2 j_inns_3 m_posts m_shut m_here xsteps xdone xat xgone m_was m_came m_seenAt m_rowWorth m_farBy m_used i_everywhere i_again0 i_d0 i_never i_firstCame i_longRun i_moved i_crowd i_l0 i_fitMany i_fitLeast i_fitMost m_fitPost m_fitEnd m_keptPosts i_x0]] _ _ := G
                      refine lv_iinc (v := nI (w + 1)) (lv' := [(8, .int (nI (w + 1))), (9, .int (nI i)), (6, .int x), (5, .int 1), (7, .int 0), (0, .ref mo), (1, .int l_), (2, .int c_), (3, .int 2), (4, .int f_)]) hx hb dX12_game_225 hl (k := 2) rfl (z_inc w 1) (by decide) (zLvf_h rfl) (fun ls hl => ?_)
                      refine lv_goto (tgt := 89) hx hb dX12_game_228 (by decide) ?_
                      exact ih_89 (w + 1) x (upd xr0 w (xr0 y_98.toNatClampNeg)) (show (w + 1) ≤ 1 ∧ (∀ p, p < (w + 1) → ((upd xr0 w (xr0 y_98.toNatClampNeg)) p).toInt = gRw (zWo f_all 610 j_inns_3) (zLo f_all 610) j_inns_3 c_ (aRs (zWo f_all 610 j_inns_3) (zPo f_all 610) 7) 2 true 0 p) ∧ (∀ p, (w + 1) ≤ p → (upd xr0 w (xr0 y_98.toNatClampNeg)) p = xr1 p) ∧ (0 < (w + 1) → x.toInt = gIx (gOp (zWo f_all 610 j_inns_3) (aRs (zWo f_all 610 j_inns_3) (zPo f_all 610) 7) 0 ((w + 1) - 1)) (gVp (zWo f_all 610 j_inns_3) (zLo f_all 610) j_inns_3 c_ (aRs (zWo f_all 610 j_inns_3) (zPo f_all 610) 7) 1 true 0 ((w + 1) - 1)) true 8) from ⟨by omega, (gUp hwr0 hnv9), (gUk hxF0), (fun _ => hb89)⟩) (show 1 - (w + 1) < 1 - w from by omega) _ _ ls G (lv_sub hl [0, 3, 4, 2, 5, 6, 7, 8, 9] rfl)
                    · have c_96n : x.toInt = (-1 : Int) := (fa_eq _ _).mp c_96
                      refine lv_iconst (v := (-1)) hx hb dX12_game_207 (by decide) ?_
                      refine lv_goto (tgt := 224) hx hb dX12_game_208 (by decide) ?_
                      have hnv9 : ((-1) : Int32).toInt = gRw (zWo f_all 610 j_inns_3) (zLo f_all 610) j_inns_3 c_ (aRs (zWo f_all 610 j_inns_3) (zPo f_all 610) 7) 2 true 0 w := by rw [hrs9, hle9.1 (by omega)]; rfl
                      refine z_ist C G 1 rfl (vp_in_nI (by omega) (by decide)) dX12_game_224 (fun H locs G => ?_)
                      rw [nI_clamp (by omega)] at G
                      have G : zS T A s.heap s [[zAr T 0 m_was 7 xwas], [zAr T 0 m_rowWorth 512 (upd xr0 w (-1))], [zAr T 0 m_all 3952 f_all], [zAr T 0 m_posts 7 xposts], [zAr T 0 m_shut 7 xshut], [zAr T 0 m_here 7 xhere], [zO11 mo m_all m_has i_size i_next i_where i_token i_number i_word i_wrong i_farCrossing m_read 610 j_crossings_2 j_inns_3 m_posts m_shut m_here xsteps xdone xat xgone m_was m_came m_seenAt m_rowWorth m_farBy m_used i_everywhere i_again0 i_d0 i_never i_firstCame i_longRun i_moved i_crowd i_l0 i_fitMany i_fitLeast i_fitMost m_fitPost m_fitEnd m_keptPosts i_x0]] _ _ := G
                      refine lv_iinc (v := nI (w + 1)) (lv' := [(8, .int (nI (w + 1))), (9, .int (nI i)), (6, .int x), (5, .int 1), (7, .int 0), (0, .ref mo), (1, .int l_), (2, .int c_), (3, .int 2), (4, .int f_)]) hx hb dX12_game_225 hl (k := 2) rfl (z_inc w 1) (by decide) (zLvf_h rfl) (fun ls hl => ?_)
                      refine lv_goto (tgt := 89) hx hb dX12_game_228 (by decide) ?_
                      exact ih_89 (w + 1) x (upd xr0 w (-1)) (show (w + 1) ≤ 1 ∧ (∀ p, p < (w + 1) → ((upd xr0 w (-1)) p).toInt = gRw (zWo f_all 610 j_inns_3) (zLo f_all 610) j_inns_3 c_ (aRs (zWo f_all 610 j_inns_3) (zPo f_all 610) 7) 2 true 0 p) ∧ (∀ p, (w + 1) ≤ p → (upd xr0 w (-1)) p = xr1 p) ∧ (0 < (w + 1) → x.toInt = gIx (gOp (zWo f_all 610 j_inns_3) (aRs (zWo f_all 610 j_inns_3) (zPo f_all 610) 7) 0 ((w + 1) - 1)) (gVp (zWo f_all 610 j_inns_3) (zLo f_all 610) j_inns_3 c_ (aRs (zWo f_all 610 j_inns_3) (zPo f_all 610) 7) 1 true 0 ((w + 1) - 1)) true 8) from ⟨by omega, (gUp hwr0 hnv9), (gUk hxF0), (fun _ => hb89)⟩) (show 1 - (w + 1) < 1 - w from by omega) _ _ ls G (lv_sub hl [0, 3, 4, 2, 5, 6, 7, 8, 9] rfl)
                  · have c_95n : ¬ 8 ≤ i := fun q => c_95 ((nI_leI (a := 8) (b := i) (by omega) (by omega)).mpr q)
                    refine lv_aload_n hx hb dX12_game_109 rfl (lv_at hl 5 rfl) ?_
                    refine z_get C G clX12 6 rfl 24 (by decide) m_fl_RX12_38 rfl dX12_game_110 ?_
                    refine lv_bipush (v := 8) hx hb dX12_game_113 (by decide) ?_
                    refine lv_iload hx hb dX12_game_115 (lv_at hl 2 rfl) ?_
                    refine lv_imul hx hb dX12_game_117 ?_
                    refine lv_topi (fun y_100 ey_100 => ?_)
                    obtain rfl : y_100 = nI (8 * w) := ey_100.trans (z_imuln 8 w rfl rfl)
                    refine lv_iload hx hb dX12_game_118 (lv_at hl 0 rfl) ?_
                    refine lv_iadd hx hb dX12_game_120 ?_
                    refine lv_topi (fun y_101 ey_101 => ?_)
                    obtain rfl : y_101 = nI ((8 * w) + i) := ey_101.trans (z_iaddn (8 * w) i rfl rfl)
                    refine z_ild C G 1 rfl (vp_in_nI (by omega) (by decide)) dX12_game_121 ?_
                    refine lv_topi (fun v_102 ev_102 => ?_)
                    rw [nI_clamp (by omega)] at ev_102
                    subst ev_102
                    have hv9 : (xr0 ((8 * w) + i)).toInt = if (gOp (zWo f_all 610 j_inns_3) (aRs (zWo f_all 610 j_inns_3) (zPo f_all 610) 7) 0 w) i = true then (gVp (zWo f_all 610 j_inns_3) (zLo f_all 610) j_inns_3 c_ (aRs (zWo f_all 610 j_inns_3) (zPo f_all 610) 7) 1 true 0 w) i else -1 := by rw [(show ((8 * w) + i) = 8 * w + i from by omega), hxF0 (8 * w + i) (by omega)]; exact (hF0 (8 * w + i) (by omega)).trans (gRw_c (by omega))
                    have hxk9 := gIx_ok (ok := (gOp (zWo f_all 610 j_inns_3) (aRs (zWo f_all 610 j_inns_3) (zPo f_all 610) 7) 0 w)) (v := (gVp (zWo f_all 610 j_inns_3) (zLo f_all 610) j_inns_3 c_ (aRs (zWo f_all 610 j_inns_3) (zPo f_all 610) 7) 1 true 0 w)) (mn := true) i
                    rw [← hxb] at hxk9
                    refine lv_istore (lv' := [(10, .int (xr0 ((8 * w) + i))), (9, .int (nI i)), (6, .int x), (8, .int (nI w)), (5, .int 1), (7, .int 0), (0, .ref mo), (1, .int l_), (2, .int c_), (3, .int 2), (4, .int f_)]) hx hb dX12_game_122 hl (by decide) (zLvf_h rfl) (fun ls hl => ?_)
                    refine lv_iload hx hb dX12_game_124 (lv_at hl 0 rfl) ?_
                    refine lv_iconst (v := (-1)) hx hb dX12_game_126 (by decide) ?_
                    refine lv_icmp_eq (tgt := 189) hx hb dX12_game_127 (by decide) (fun c_103 => ?_) (fun c_103 => ?_)
                    · have c_103n : (xr0 ((8 * w) + i)).toInt = (-1 : Int) := (fa_eq _ _).mp c_103
                      have hxn9 : x.toInt = gIx (gOp (zWo f_all 610 j_inns_3) (aRs (zWo f_all 610 j_inns_3) (zPo f_all 610) 7) 0 w) (gVp (zWo f_all 610 j_inns_3) (zLo f_all 610) j_inns_3 c_ (aRs (zWo f_all 610 j_inns_3) (zPo f_all 610) 7) 1 true 0 w) true (i + 1) := (gLx_n (fun c => gVp_0 c) hxb.symm hv9 (by first | exact Or.inl (by omega) | exact Or.inr ⟨by omega, by rw [if_pos rfl]; omega⟩)).symm
                      refine lv_iinc (v := nI (i + 1)) (lv' := [(9, .int (nI (i + 1))), (10, .int (xr0 ((8 * w) + i))), (6, .int x), (8, .int (nI w)), (5, .int 1), (7, .int 0), (0, .ref mo), (1, .int l_), (2, .int c_), (3, .int 2), (4, .int f_)]) hx hb dX12_game_189 hl (k := 1) rfl (z_inc i 1) (by decide) (zLvf_h rfl) (fun ls hl => ?_)
                      refine lv_goto (tgt := 102) hx hb dX12_game_192 (by decide) ?_
                      exact ih_102 (i + 1) x (show (i + 1) ≤ 8 ∧ x.toInt = gIx (gOp (zWo f_all 610 j_inns_3) (aRs (zWo f_all 610 j_inns_3) (zPo f_all 610) 7) 0 w) (gVp (zWo f_all 610 j_inns_3) (zLo f_all 610) j_inns_3 c_ (aRs (zWo f_all 610 j_inns_3) (zPo f_all 610) 7) 1 true 0 w) true (i + 1) from ⟨by omega, hxn9⟩) (show 8 - (i + 1) < 8 - i from by omega) _ _ ls G (lv_sub hl [0, 2, 3, 4, 5, 6, 7, 8, 9, 10] rfl)
                    · have c_103n : ¬ (xr0 ((8 * w) + i)).toInt = (-1 : Int) := fun q => c_103 ((fa_eq _ _).mpr q)
                      refine lv_iload hx hb dX12_game_130 (lv_at hl 2 rfl) ?_
                      refine lv_iconst (v := (-1)) hx hb dX12_game_132 (by decide) ?_
                      refine lv_icmp_eq (tgt := 185) hx hb dX12_game_133 (by decide) (fun c_104 => ?_) (fun c_104 => ?_)
                      · have c_104n : x.toInt = (-1 : Int) := (fa_eq _ _).mp c_104
                        refine lv_iload hx hb dX12_game_185 (lv_at hl 1 rfl) ?_
                        refine lv_istore (lv' := [(6, .int (nI i)), (10, .int (xr0 ((8 * w) + i))), (9, .int (nI i)), (8, .int (nI w)), (5, .int 1), (7, .int 0), (0, .ref mo), (1, .int l_), (2, .int c_), (3, .int 2), (4, .int f_)]) hx hb dX12_game_187 hl (by decide) (zLvf_h rfl) (fun ls hl => ?_)
                        have tii9 := nI_toInt (n := i) (by omega)
                        have hxn9 : (nI i).toInt = gIx (gOp (zWo f_all 610 j_inns_3) (aRs (zWo f_all 610 j_inns_3) (zPo f_all 610) 7) 0 w) (gVp (zWo f_all 610 j_inns_3) (zLo f_all 610) j_inns_3 c_ (aRs (zWo f_all 610 j_inns_3) (zPo f_all 610) 7) 1 true 0 w) true (i + 1) := tii9.trans (gLx_y hxb.symm hv9 (by omega) (by first | exact Or.inl (by omega) | exact Or.inr (by rw [if_pos rfl]; omega))).symm
                        refine lv_iinc (v := nI (i + 1)) (lv' := [(9, .int (nI (i + 1))), (6, .int (nI i)), (10, .int (xr0 ((8 * w) + i))), (8, .int (nI w)), (5, .int 1), (7, .int 0), (0, .ref mo), (1, .int l_), (2, .int c_), (3, .int 2), (4, .int f_)]) hx hb dX12_game_189 hl (k := 2) rfl (z_inc i 1) (by decide) (zLvf_h rfl) (fun ls hl => ?_)
                        refine lv_goto (tgt := 102) hx hb dX12_game_192 (by decide) ?_
                        exact ih_102 (i + 1) (nI i) (show (i + 1) ≤ 8 ∧ (nI i).toInt = gIx (gOp (zWo f_all 610 j_inns_3) (aRs (zWo f_all 610 j_inns_3) (zPo f_all 610) 7) 0 w) (gVp (zWo f_all 610 j_inns_3) (zLo f_all 610) j_inns_3 c_ (aRs (zWo f_all 610 j_inns_3) (zPo f_all 610) 7) 1 true 0 w) true (i + 1) from ⟨by omega, hxn9⟩) (show 8 - (i + 1) < 8 - i from by omega) _ _ ls G (lv_sub hl [0, 1, 3, 4, 5, 6, 7, 8, 9, 10] rfl)
                      · have c_104n : ¬ x.toInt = (-1 : Int) := fun q => c_104 ((fa_eq _ _).mpr q)
                        refine lv_iload hx hb dX12_game_136 (lv_at hl 5 rfl) ?_
                        refine lv_iconst (v := 2) hx hb dX12_game_138 (by decide) ?_
                        refine lv_irem hx hb dX12_game_139 (by decide) ?_
                        refine lv_topi (fun y_105 ey_105 => ?_)
                        obtain rfl : y_105 = 0 := ey_105.trans (by decide)
                        refine lv_if_ne (tgt := 164) hx hb dX12_game_140 (by decide) (fun q => absurd (by decide) q) (fun _ => ?_)
                        refine lv_iload hx hb dX12_game_143 (lv_at hl 0 rfl) ?_
                        refine lv_aload_n hx hb dX12_game_145 rfl (lv_at hl 6 rfl) ?_
                        refine z_get C G clX12 6 rfl 24 (by decide) m_fl_RX12_38 rfl dX12_game_146 ?_
                        refine lv_bipush (v := 8) hx hb dX12_game_149 (by decide) ?_
                        refine lv_iload hx hb dX12_game_151 (lv_at hl 3 rfl) ?_
                        refine lv_imul hx hb dX12_game_153 ?_
                        refine lv_topi (fun y_106 ey_106 => ?_)
                        obtain rfl : y_106 = nI (8 * w) := ey_106.trans (z_imuln 8 w rfl rfl)
                        refine lv_iload hx hb dX12_game_154 (lv_at hl 2 rfl) ?_
                        refine lv_iadd hx hb dX12_game_156 ?_
                        refine lv_topi (fun y_107 ey_107 => ?_)
                        have ey_107i : y_107.toInt = ((8 * w) : Int) + x.toInt := by rw [ey_107]; exact (z_iaddI (x := (nI (8 * w))) (y := x) (by rw [nI_toInt (n := 8 * w) (by omega)]; show -2147483648 ≤ ((8 * w) : Int) + x.toInt; omega) (by rw [nI_toInt (n := 8 * w) (by omega)]; show ((8 * w) : Int) + x.toInt < 2147483648; omega)).trans (by rw [nI_toInt (n := 8 * w) (by omega)] <;> rfl)
                        refine z_ild C G 1 rfl (vp_in_iff.mpr ⟨by omega, by omega⟩) dX12_game_157 ?_
                        refine lv_topi (fun v_108 ev_108 => ?_)
                        subst ev_108
                        have hxy9 := hxk9.resolve_left (by first | omega | (intro q9; omega))
                        have hw9 : (xr0 y_107.toNatClampNeg).toInt = (gVp (zWo f_all 610 j_inns_3) (zLo f_all 610) j_inns_3 c_ (aRs (zWo f_all 610 j_inns_3) (zPo f_all 610) 7) 1 true 0 w) x.toInt.toNat := by rw [(show y_107.toNatClampNeg = 8 * w + x.toInt.toNat from by have q4 := z_clI (x := y_107) (by omega); omega), hxF0 (8 * w + x.toInt.toNat) (by omega)]; exact ((hF0 (8 * w + x.toInt.toNat) (by omega)).trans (gRw_c (by omega))).trans (if_pos hxy9.2.2)
                        refine lv_icmp_lt (tgt := 185) hx hb dX12_game_158 (by decide) (fun c_109 => ?_) (fun c_109 => ?_)
                        · have c_109n : (xr0 ((8 * w) + i)).toInt < (xr0 y_107.toNatClampNeg).toInt := (fa_lt _ _).mp c_109
                          refine lv_iload hx hb dX12_game_185 (lv_at hl 1 rfl) ?_
                          refine lv_istore (lv' := [(6, .int (nI i)), (10, .int (xr0 ((8 * w) + i))), (9, .int (nI i)), (8, .int (nI w)), (5, .int 1), (7, .int 0), (0, .ref mo), (1, .int l_), (2, .int c_), (3, .int 2), (4, .int f_)]) hx hb dX12_game_187 hl (by decide) (zLvf_h rfl) (fun ls hl => ?_)
                          have tii9 := nI_toInt (n := i) (by omega)
                          have hxn9 : (nI i).toInt = gIx (gOp (zWo f_all 610 j_inns_3) (aRs (zWo f_all 610 j_inns_3) (zPo f_all 610) 7) 0 w) (gVp (zWo f_all 610 j_inns_3) (zLo f_all 610) j_inns_3 c_ (aRs (zWo f_all 610 j_inns_3) (zPo f_all 610) 7) 1 true 0 w) true (i + 1) := tii9.trans (gLx_y hxb.symm hv9 (by omega) (by first | exact Or.inl (by omega) | exact Or.inr (by rw [if_pos rfl]; omega))).symm
                          refine lv_iinc (v := nI (i + 1)) (lv' := [(9, .int (nI (i + 1))), (6, .int (nI i)), (10, .int (xr0 ((8 * w) + i))), (8, .int (nI w)), (5, .int 1), (7, .int 0), (0, .ref mo), (1, .int l_), (2, .int c_), (3, .int 2), (4, .int f_)]) hx hb dX12_game_189 hl (k := 2) rfl (z_inc i 1) (by decide) (zLvf_h rfl) (fun ls hl => ?_)
                          refine lv_goto (tgt := 102) hx hb dX12_game_192 (by decide) ?_
                          exact ih_102 (i + 1) (nI i) (show (i + 1) ≤ 8 ∧ (nI i).toInt = gIx (gOp (zWo f_all 610 j_inns_3) (aRs (zWo f_all 610 j_inns_3) (zPo f_all 610) 7) 0 w) (gVp (zWo f_all 610 j_inns_3) (zLo f_all 610) j_inns_3 c_ (aRs (zWo f_all 610 j_inns_3) (zPo f_all 610) 7) 1 true 0 w) true (i + 1) from ⟨by omega, hxn9⟩) (show 8 - (i + 1) < 8 - i from by omega) _ _ ls G (lv_sub hl [0, 1, 3, 4, 5, 6, 7, 8, 9, 10] rfl)
                        · have c_109n : ¬ (xr0 ((8 * w) + i)).toInt < (xr0 y_107.toNatClampNeg).toInt := fun q => c_109 ((fa_lt _ _).mpr q)
                          refine lv_goto (tgt := 189) hx hb dX12_game_161 (by decide) ?_
                          have hxn9 : x.toInt = gIx (gOp (zWo f_all 610 j_inns_3) (aRs (zWo f_all 610 j_inns_3) (zPo f_all 610) 7) 0 w) (gVp (zWo f_all 610 j_inns_3) (zLo f_all 610) j_inns_3 c_ (aRs (zWo f_all 610 j_inns_3) (zPo f_all 610) 7) 1 true 0 w) true (i + 1) := (gLx_n (fun c => gVp_0 c) hxb.symm hv9 (by first | exact Or.inl (by omega) | exact Or.inr ⟨by omega, by rw [if_pos rfl]; omega⟩)).symm
                          refine lv_iinc (v := nI (i + 1)) (lv' := [(9, .int (nI (i + 1))), (10, .int (xr0 ((8 * w) + i))), (6, .int x), (8, .int (nI w)), (5, .int 1), (7, .int 0), (0, .ref mo), (1, .int l_), (2, .int c_), (3, .int 2), (4, .int f_)]) hx hb dX12_game_189 hl (k := 1) rfl (z_inc i 1) (by decide) (zLvf_h rfl) (fun ls hl => ?_)
                          refine lv_goto (tgt := 102) hx hb dX12_game_192 (by decide) ?_
                          exact ih_102 (i + 1) x (show (i + 1) ≤ 8 ∧ x.toInt = gIx (gOp (zWo f_all 610 j_inns_3) (aRs (zWo f_all 610 j_inns_3) (zPo f_all 610) 7) 0 w) (gVp (zWo f_all 610 j_inns_3) (zLo f_all 610) j_inns_3 c_ (aRs (zWo f_all 610 j_inns_3) (zPo f_all 610) 7) 1 true 0 w) true (i + 1) from ⟨by omega, hxn9⟩) (show 8 - (i + 1) < 8 - i from by omega) _ _ ls G (lv_sub hl [0, 2, 3, 4, 5, 6, 7, 8, 9, 10] rfl)
              · have c_90n : ¬ 8 ≤ w := fun q => c_90 ((nI_leI (a := 8) (b := w) (by omega) (by omega)).mpr q)
                refine lv_iconst (v := (-1)) hx hb dX12_game_96 (by decide) ?_
                refine lv_istore (lv' := [(6, .int (-1)), (8, .int (nI w)), (5, .int 8), (7, .int 1), (0, .ref mo), (1, .int l_), (2, .int c_), (3, .int 2), (4, .int f_)]) hx hb dX12_game_97 hl (by decide) (zLvf_h rfl) (fun ls hl => ?_)
                refine lv_iconst (v := 0) hx hb dX12_game_99 (by decide) ?_
                refine lv_istore (lv' := [(9, .int 0), (6, .int (-1)), (8, .int (nI w)), (5, .int 8), (7, .int 1), (0, .ref mo), (1, .int l_), (2, .int c_), (3, .int 2), (4, .int f_)]) hx hb dX12_game_100 hl (by decide) (zLvf_h rfl) (fun ls hl => ?_)
                refine z_lp2 (T := T) 102 (fun (i : Nat) (x : Int32) => [[zAr T 0 m_was 7 xwas], [zAr T 0 m_rowWorth 512 xr1], [zAr T 0 m_all 3952 f_all], [zAr T 0 m_posts 7 xposts], [zAr T 0 m_shut 7 xshut], [zAr T 0 m_here 7 xhere], [zO11 mo m_all m_has i_size i_next i_where i_token i_number i_word i_wrong i_farCrossing m_read 610 j_crossings_2 j_inns_3 m_posts m_shut m_here xsteps xdone xat xgone m_was m_came m_seenAt m_rowWorth m_farBy m_used i_everywhere i_again0 i_d0 i_never i_firstCame i_longRun i_moved i_crowd i_l0 i_fitMany i_fitLeast i_fitMost m_fitPost m_fitEnd m_keptPosts i_x0]]) (fun (i : Nat) (x : Int32) => [(9, .int (nI i)), (6, .int x), (8, .int (nI w)), (5, .int 8), (7, .int 1), (0, .ref mo), (1, .int l_), (2, .int c_), (3, .int 2), (4, .int f_)]) (fun (i : Nat) (x : Int32) => i ≤ 8 ∧ x.toInt = gIx (gOp (zWo f_all 610 j_inns_3) (aRs (zWo f_all 610 j_inns_3) (zPo f_all 610) 7) 1 w) (gVp (zWo f_all 610 j_inns_3) (zLo f_all 610) j_inns_3 c_ (aRs (zWo f_all 610 j_inns_3) (zPo f_all 610) 7) 0 false 1 w) false i) (fun (i : Nat) (x : Int32) => 8 - i) ?_ 0 (-1) (show 0 ≤ 8 ∧ ((-1) : Int32).toInt = gIx (gOp (zWo f_all 610 j_inns_3) (aRs (zWo f_all 610 j_inns_3) (zPo f_all 610) 7) 1 w) (gVp (zWo f_all 610 j_inns_3) (zLo f_all 610) j_inns_3 c_ (aRs (zWo f_all 610 j_inns_3) (zPo f_all 610) 7) 0 false 1 w) false 0 from ⟨by omega, rfl⟩) G (lv_sub hl [0, 1, 2, 3, 4, 5, 6, 7, 8, 9] rfl)
                intro i x hI9 ih_102 H locs ls G hl
                replace hI9 : i ≤ 8 ∧ x.toInt = gIx (gOp (zWo f_all 610 j_inns_3) (aRs (zWo f_all 610 j_inns_3) (zPo f_all 610) 7) 1 w) (gVp (zWo f_all 610 j_inns_3) (zLo f_all 610) j_inns_3 c_ (aRs (zWo f_all 610 j_inns_3) (zPo f_all 610) 7) 0 false 1 w) false i := hI9
                refine zAn2 hI9 ?_
                intro hi hxb
                clear hI9
                replace G : zS T A s.heap s [[zAr T 0 m_was 7 xwas], [zAr T 0 m_rowWorth 512 xr1], [zAr T 0 m_all 3952 f_all], [zAr T 0 m_posts 7 xposts], [zAr T 0 m_shut 7 xshut], [zAr T 0 m_here 7 xhere], [zO11 mo m_all m_has i_size i_next i_where i_token i_number i_word i_wrong i_farCrossing m_read 610 j_crossings_2 j_inns_3 m_posts m_shut m_here xsteps xdone xat xgone m_was m_came m_seenAt m_rowWorth m_farBy m_used i_everywhere i_again0 i_d0 i_never i_firstCame i_longRun i_moved i_crowd i_l0 i_fitMany i_fitLeast i_fitMost m_fitPost m_fitEnd m_keptPosts i_x0]] _ _ := G
                replace hl : lv_has ls 11 [(9, .int (nI i)), (6, .int x), (8, .int (nI w)), (5, .int 8), (7, .int 1), (0, .ref mo), (1, .int l_), (2, .int c_), (3, .int 2), (4, .int f_)] := hl
                refine lv_iload hx hb dX12_game_102 (lv_at hl 0 rfl) ?_
                refine lv_bipush (v := 8) hx hb dX12_game_104 (by decide) ?_
                refine lv_icmp_ge (tgt := 195) hx hb dX12_game_106 (by decide) (fun c_110 => ?_) (fun c_110 => ?_)
                · have c_110n : 8 ≤ i := (nI_leI (a := 8) (b := i) (by omega) (by omega)).mp c_110
                  have hb89 : x.toInt = gIx (gOp (zWo f_all 610 j_inns_3) (aRs (zWo f_all 610 j_inns_3) (zPo f_all 610) 7) 1 w) (gVp (zWo f_all 610 j_inns_3) (zLo f_all 610) j_inns_3 c_ (aRs (zWo f_all 610 j_inns_3) (zPo f_all 610) 7) 0 false 1 w) false 8 := by rw [hxb, show i = 8 by omega]
                  have hle9 := gLx_e (fun c => gVp_0 c) hb89.symm
                  have hrs9 := gRw_s (W := (zWo f_all 610 j_inns_3)) (L := (zLo f_all 610)) (inn := j_inns_3) (x := c_) (t0 := (aRs (zWo f_all 610 j_inns_3) (zPo f_all 610) 7)) (m := 0) (mn := false) (k := 1) (p := w)
                  have hxk9 := gIx_ok (ok := (gOp (zWo f_all 610 j_inns_3) (aRs (zWo f_all 610 j_inns_3) (zPo f_all 610) 7) 1 w)) (v := (gVp (zWo f_all 610 j_inns_3) (zLo f_all 610) j_inns_3 c_ (aRs (zWo f_all 610 j_inns_3) (zPo f_all 610) 7) 0 false 1 w)) (mn := false) 8
                  rw [← hb89] at hxk9
                  refine lv_aload_n hx hb dX12_game_195 rfl (lv_at hl 5 rfl) ?_
                  refine z_get C G clX12 6 rfl 24 (by decide) m_fl_RX12_38 rfl dX12_game_196 ?_
                  refine lv_iload hx hb dX12_game_199 (lv_at hl 2 rfl) ?_
                  refine lv_iload hx hb dX12_game_201 (lv_at hl 1 rfl) ?_
                  refine lv_iconst (v := (-1)) hx hb dX12_game_203 (by decide) ?_
                  refine lv_icmp_ne (tgt := 211) hx hb dX12_game_204 (by decide) (fun c_111 => ?_) (fun c_111 => ?_)
                  · have c_111n : ¬ x.toInt = (-1 : Int) := fun q => c_111 ((fa_eq _ _).mpr q)
                    refine lv_aload_n hx hb dX12_game_211 rfl (lv_at hl 5 rfl) ?_
                    refine z_get C G clX12 6 rfl 24 (by decide) m_fl_RX12_38 rfl dX12_game_212 ?_
                    refine lv_bipush (v := 8) hx hb dX12_game_215 (by decide) ?_
                    refine lv_iload hx hb dX12_game_217 (lv_at hl 2 rfl) ?_
                    refine lv_imul hx hb dX12_game_219 ?_
                    refine lv_topi (fun y_112 ey_112 => ?_)
                    obtain rfl : y_112 = nI (8 * w) := ey_112.trans (z_imuln 8 w rfl rfl)
                    refine lv_iload hx hb dX12_game_220 (lv_at hl 1 rfl) ?_
                    refine lv_iadd hx hb dX12_game_222 ?_
                    refine lv_topi (fun y_113 ey_113 => ?_)
                    have ey_113i : y_113.toInt = ((8 * w) : Int) + x.toInt := by rw [ey_113]; exact (z_iaddI (x := (nI (8 * w))) (y := x) (by rw [nI_toInt (n := 8 * w) (by omega)]; show -2147483648 ≤ ((8 * w) : Int) + x.toInt; omega) (by rw [nI_toInt (n := 8 * w) (by omega)]; show ((8 * w) : Int) + x.toInt < 2147483648; omega)).trans (by rw [nI_toInt (n := 8 * w) (by omega)] <;> rfl)
                    refine z_ild C G 1 rfl (vp_in_iff.mpr ⟨by omega, by omega⟩) dX12_game_223 ?_
                    refine lv_topi (fun v_114 ev_114 => ?_)
                    subst ev_114
                    have hxy9 := hxk9.resolve_left (by first | omega | (intro q9; omega))
                    have hw9 : (xr1 y_113.toNatClampNeg).toInt = (gVp (zWo f_all 610 j_inns_3) (zLo f_all 610) j_inns_3 c_ (aRs (zWo f_all 610 j_inns_3) (zPo f_all 610) 7) 0 false 1 w) x.toInt.toNat := by rw [(show y_113.toNatClampNeg = 8 * w + x.toInt.toNat from by have q4 := z_clI (x := y_113) (by omega); omega), hxF1 (8 * w + x.toInt.toNat) (by omega)]; exact ((hF1 (8 * w + x.toInt.toNat) (by omega)).trans (gRw_c (by omega))).trans (if_pos hxy9.2.2)
                    have hnv9 : (xr1 y_113.toNatClampNeg).toInt = gRw (zWo f_all 610 j_inns_3) (zLo f_all 610) j_inns_3 c_ (aRs (zWo f_all 610 j_inns_3) (zPo f_all 610) 7) 1 false 1 w := by rw [hrs9, hle9.2 (by omega)]; exact hw9
                    refine z_ist C G 1 rfl (vp_in_nI (by omega) (by decide)) dX12_game_224 (fun H locs G => ?_)
                    rw [nI_clamp (by omega)] at G
                    have G : zS T A s.heap s [[zAr T 0 m_was 7 xwas], [zAr T 0 m_rowWorth 512 (upd xr1 w (xr1 y_113.toNatClampNeg))], [zAr T 0 m_all 3952 f_all], [zAr T 0 m_posts 7 xposts], [zAr T 0 m_shut 7 xshut], [zAr T 0 m_here 7 xhere], [zO11 mo m_all m_has i_size i_next i_where i_token i_number i_word i_wrong i_farCrossing m_read 610 j_crossings_2 j_inns_3 m_posts m_shut m_here xsteps xdone xat xgone m_was m_came m_seenAt m_rowWorth m_farBy m_used i_everywhere i_again0 i_d0 i_never i_firstCame i_longRun i_moved i_crowd i_l0 i_fitMany i_fitLeast i_fitMost m_fitPost m_fitEnd m_keptPosts i_x0]] _ _ := G
                    refine lv_iinc (v := nI (w + 1)) (lv' := [(8, .int (nI (w + 1))), (9, .int (nI i)), (6, .int x), (5, .int 8), (7, .int 1), (0, .ref mo), (1, .int l_), (2, .int c_), (3, .int 2), (4, .int f_)]) hx hb dX12_game_225 hl (k := 2) rfl (z_inc w 1) (by decide) (zLvf_h rfl) (fun ls hl => ?_)
                    refine lv_goto (tgt := 89) hx hb dX12_game_228 (by decide) ?_
                    exact ih_89 (w + 1) x (upd xr1 w (xr1 y_113.toNatClampNeg)) (show (w + 1) ≤ 8 ∧ (∀ p, p < (w + 1) → ((upd xr1 w (xr1 y_113.toNatClampNeg)) p).toInt = gRw (zWo f_all 610 j_inns_3) (zLo f_all 610) j_inns_3 c_ (aRs (zWo f_all 610 j_inns_3) (zPo f_all 610) 7) 1 false 1 p) ∧ (∀ p, (w + 1) ≤ p → (upd xr1 w (xr1 y_113.toNatClampNeg)) p = xrowWorth p) ∧ (0 < (w + 1) → x.toInt = gIx (gOp (zWo f_all 610 j_inns_3) (aRs (zWo f_all 610 j_inns_3) (zPo f_all 610) 7) 1 ((w + 1) - 1)) (gVp (zWo f_all 610 j_inns_3) (zLo f_all 610) j_inns_3 c_ (aRs (zWo f_all 610 j_inns_3) (zPo f_all 610) 7) 0 false 1 ((w + 1) - 1)) false 8) from ⟨by omega, (gUp hwr1 hnv9), (gUk hxF1), (fun _ => hb89)⟩) (show 8 - (w + 1) < 8 - w from by omega) _ _ ls G (lv_sub hl [0, 3, 4, 2, 5, 6, 7, 8, 9] rfl)
                  · have c_111n : x.toInt = (-1 : Int) := (fa_eq _ _).mp c_111
                    refine lv_iconst (v := (-1)) hx hb dX12_game_207 (by decide) ?_
                    refine lv_goto (tgt := 224) hx hb dX12_game_208 (by decide) ?_
                    have hnv9 : ((-1) : Int32).toInt = gRw (zWo f_all 610 j_inns_3) (zLo f_all 610) j_inns_3 c_ (aRs (zWo f_all 610 j_inns_3) (zPo f_all 610) 7) 1 false 1 w := by rw [hrs9, hle9.1 (by omega)]; rfl
                    refine z_ist C G 1 rfl (vp_in_nI (by omega) (by decide)) dX12_game_224 (fun H locs G => ?_)
                    rw [nI_clamp (by omega)] at G
                    have G : zS T A s.heap s [[zAr T 0 m_was 7 xwas], [zAr T 0 m_rowWorth 512 (upd xr1 w (-1))], [zAr T 0 m_all 3952 f_all], [zAr T 0 m_posts 7 xposts], [zAr T 0 m_shut 7 xshut], [zAr T 0 m_here 7 xhere], [zO11 mo m_all m_has i_size i_next i_where i_token i_number i_word i_wrong i_farCrossing m_read 610 j_crossings_2 j_inns_3 m_posts m_shut m_here xsteps xdone xat xgone m_was m_came m_seenAt m_rowWorth m_farBy m_used i_everywhere i_again0 i_d0 i_never i_firstCame i_longRun i_moved i_crowd i_l0 i_fitMany i_fitLeast i_fitMost m_fitPost m_fitEnd m_keptPosts i_x0]] _ _ := G
                    refine lv_iinc (v := nI (w + 1)) (lv' := [(8, .int (nI (w + 1))), (9, .int (nI i)), (6, .int x), (5, .int 8), (7, .int 1), (0, .ref mo), (1, .int l_), (2, .int c_), (3, .int 2), (4, .int f_)]) hx hb dX12_game_225 hl (k := 2) rfl (z_inc w 1) (by decide) (zLvf_h rfl) (fun ls hl => ?_)
                    refine lv_goto (tgt := 89) hx hb dX12_game_228 (by decide) ?_
                    exact ih_89 (w + 1) x (upd xr1 w (-1)) (show (w + 1) ≤ 8 ∧ (∀ p, p < (w + 1) → ((upd xr1 w (-1)) p).toInt = gRw (zWo f_all 610 j_inns_3) (zLo f_all 610) j_inns_3 c_ (aRs (zWo f_all 610 j_inns_3) (zPo f_all 610) 7) 1 false 1 p) ∧ (∀ p, (w + 1) ≤ p → (upd xr1 w (-1)) p = xrowWorth p) ∧ (0 < (w + 1) → x.toInt = gIx (gOp (zWo f_all 610 j_inns_3) (aRs (zWo f_all 610 j_inns_3) (zPo f_all 610) 7) 1 ((w + 1) - 1)) (gVp (zWo f_all 610 j_inns_3) (zLo f_all 610) j_inns_3 c_ (aRs (zWo f_all 610 j_inns_3) (zPo f_all 610) 7) 0 false 1 ((w + 1) - 1)) false 8) from ⟨by omega, (gUp hwr1 hnv9), (gUk hxF1), (fun _ => hb89)⟩) (show 8 - (w + 1) < 8 - w from by omega) _ _ ls G (lv_sub hl [0, 3, 4, 2, 5, 6, 7, 8, 9] rfl)
                · have c_110n : ¬ 8 ≤ i := fun q => c_110 ((nI_leI (a := 8) (b := i) (by omega) (by omega)).mpr q)
                  refine lv_aload_n hx hb dX12_game_109 rfl (lv_at hl 5 rfl) ?_
                  refine z_get C G clX12 6 rfl 24 (by decide) m_fl_RX12_38 rfl dX12_game_110 ?_
                  refine lv_bipush (v := 8) hx hb dX12_game_113 (by decide) ?_
                  refine lv_iload hx hb dX12_game_115 (lv_at hl 2 rfl) ?_
                  refine lv_imul hx hb dX12_game_117 ?_
                  refine lv_topi (fun y_115 ey_115 => ?_)
                  obtain rfl : y_115 = nI (8 * w) := ey_115.trans (z_imuln 8 w rfl rfl)
                  refine lv_iload hx hb dX12_game_118 (lv_at hl 0 rfl) ?_
                  refine lv_iadd hx hb dX12_game_120 ?_
                  refine lv_topi (fun y_116 ey_116 => ?_)
                  obtain rfl : y_116 = nI ((8 * w) + i) := ey_116.trans (z_iaddn (8 * w) i rfl rfl)
                  refine z_ild C G 1 rfl (vp_in_nI (by omega) (by decide)) dX12_game_121 ?_
                  refine lv_topi (fun v_117 ev_117 => ?_)
                  rw [nI_clamp (by omega)] at ev_117
                  subst ev_117
                  have hv9 : (xr1 ((8 * w) + i)).toInt = if (gOp (zWo f_all 610 j_inns_3) (aRs (zWo f_all 610 j_inns_3) (zPo f_all 610) 7) 1 w) i = true then (gVp (zWo f_all 610 j_inns_3) (zLo f_all 610) j_inns_3 c_ (aRs (zWo f_all 610 j_inns_3) (zPo f_all 610) 7) 0 false 1 w) i else -1 := by rw [(show ((8 * w) + i) = 8 * w + i from by omega), hxF1 (8 * w + i) (by omega)]; exact (hF1 (8 * w + i) (by omega)).trans (gRw_c (by omega))
                  have hxk9 := gIx_ok (ok := (gOp (zWo f_all 610 j_inns_3) (aRs (zWo f_all 610 j_inns_3) (zPo f_all 610) 7) 1 w)) (v := (gVp (zWo f_all 610 j_inns_3) (zLo f_all 610) j_inns_3 c_ (aRs (zWo f_all 610 j_inns_3) (zPo f_all 610) 7) 0 false 1 w)) (mn := false) i
                  rw [← hxb] at hxk9
                  refine lv_istore (lv' := [(10, .int (xr1 ((8 * w) + i))), (9, .int (nI i)), (6, .int x), (8, .int (nI w)), (5, .int 8), (7, .int 1), (0, .ref mo), (1, .int l_), (2, .int c_), (3, .int 2), (4, .int f_)]) hx hb dX12_game_122 hl (by decide) (zLvf_h rfl) (fun ls hl => ?_)
                  refine lv_iload hx hb dX12_game_124 (lv_at hl 0 rfl) ?_
                  refine lv_iconst (v := (-1)) hx hb dX12_game_126 (by decide) ?_
                  refine lv_icmp_eq (tgt := 189) hx hb dX12_game_127 (by decide) (fun c_118 => ?_) (fun c_118 => ?_)
                  · have c_118n : (xr1 ((8 * w) + i)).toInt = (-1 : Int) := (fa_eq _ _).mp c_118
                    have hxn9 : x.toInt = gIx (gOp (zWo f_all 610 j_inns_3) (aRs (zWo f_all 610 j_inns_3) (zPo f_all 610) 7) 1 w) (gVp (zWo f_all 610 j_inns_3) (zLo f_all 610) j_inns_3 c_ (aRs (zWo f_all 610 j_inns_3) (zPo f_all 610) 7) 0 false 1 w) false (i + 1) := (gLx_n (fun c => gVp_0 c) hxb.symm hv9 (by first | exact Or.inl (by omega) | exact Or.inr ⟨by omega, by rw [if_neg (by decide)]; omega⟩)).symm
                    refine lv_iinc (v := nI (i + 1)) (lv' := [(9, .int (nI (i + 1))), (10, .int (xr1 ((8 * w) + i))), (6, .int x), (8, .int (nI w)), (5, .int 8), (7, .int 1), (0, .ref mo), (1, .int l_), (2, .int c_), (3, .int 2), (4, .int f_)]) hx hb dX12_game_189 hl (k := 1) rfl (z_inc i 1) (by decide) (zLvf_h rfl) (fun ls hl => ?_)
                    refine lv_goto (tgt := 102) hx hb dX12_game_192 (by decide) ?_
                    exact ih_102 (i + 1) x (show (i + 1) ≤ 8 ∧ x.toInt = gIx (gOp (zWo f_all 610 j_inns_3) (aRs (zWo f_all 610 j_inns_3) (zPo f_all 610) 7) 1 w) (gVp (zWo f_all 610 j_inns_3) (zLo f_all 610) j_inns_3 c_ (aRs (zWo f_all 610 j_inns_3) (zPo f_all 610) 7) 0 false 1 w) false (i + 1) from ⟨by omega, hxn9⟩) (show 8 - (i + 1) < 8 - i from by omega) _ _ ls G (lv_sub hl [0, 2, 3, 4, 5, 6, 7, 8, 9, 10] rfl)
                  · have c_118n : ¬ (xr1 ((8 * w) + i)).toInt = (-1 : Int) := fun q => c_118 ((fa_eq _ _).mpr q)
                    refine lv_iload hx hb dX12_game_130 (lv_at hl 2 rfl) ?_
                    refine lv_iconst (v := (-1)) hx hb dX12_game_132 (by decide) ?_
                    refine lv_icmp_eq (tgt := 185) hx hb dX12_game_133 (by decide) (fun c_119 => ?_) (fun c_119 => ?_)
                    · have c_119n : x.toInt = (-1 : Int) := (fa_eq _ _).mp c_119
                      refine lv_iload hx hb dX12_game_185 (lv_at hl 1 rfl) ?_
                      refine lv_istore (lv' := [(6, .int (nI i)), (10, .int (xr1 ((8 * w) + i))), (9, .int (nI i)), (8, .int (nI w)), (5, .int 8), (7, .int 1), (0, .ref mo), (1, .int l_), (2, .int c_), (3, .int 2), (4, .int f_)]) hx hb dX12_game_187 hl (by decide) (zLvf_h rfl) (fun ls hl => ?_)
                      have tii9 := nI_toInt (n := i) (by omega)
                      have hxn9 : (nI i).toInt = gIx (gOp (zWo f_all 610 j_inns_3) (aRs (zWo f_all 610 j_inns_3) (zPo f_all 610) 7) 1 w) (gVp (zWo f_all 610 j_inns_3) (zLo f_all 610) j_inns_3 c_ (aRs (zWo f_all 610 j_inns_3) (zPo f_all 610) 7) 0 false 1 w) false (i + 1) := tii9.trans (gLx_y hxb.symm hv9 (by omega) (by first | exact Or.inl (by omega) | exact Or.inr (by rw [if_neg (by decide)]; omega))).symm
                      refine lv_iinc (v := nI (i + 1)) (lv' := [(9, .int (nI (i + 1))), (6, .int (nI i)), (10, .int (xr1 ((8 * w) + i))), (8, .int (nI w)), (5, .int 8), (7, .int 1), (0, .ref mo), (1, .int l_), (2, .int c_), (3, .int 2), (4, .int f_)]) hx hb dX12_game_189 hl (k := 2) rfl (z_inc i 1) (by decide) (zLvf_h rfl) (fun ls hl => ?_)
                      refine lv_goto (tgt := 102) hx hb dX12_game_192 (by decide) ?_
                      exact ih_102 (i + 1) (nI i) (show (i + 1) ≤ 8 ∧ (nI i).toInt = gIx (gOp (zWo f_all 610 j_inns_3) (aRs (zWo f_all 610 j_inns_3) (zPo f_all 610) 7) 1 w) (gVp (zWo f_all 610 j_inns_3) (zLo f_all 610) j_inns_3 c_ (aRs (zWo f_all 610 j_inns_3) (zPo f_all 610) 7) 0 false 1 w) false (i + 1) from ⟨by omega, hxn9⟩) (show 8 - (i + 1) < 8 - i from by omega) _ _ ls G (lv_sub hl [0, 1, 3, 4, 5, 6, 7, 8, 9, 10] rfl)
                    · have c_119n : ¬ x.toInt = (-1 : Int) := fun q => c_119 ((fa_eq _ _).mpr q)
                      refine lv_iload hx hb dX12_game_136 (lv_at hl 5 rfl) ?_
                      refine lv_iconst (v := 2) hx hb dX12_game_138 (by decide) ?_
                      refine lv_irem hx hb dX12_game_139 (by decide) ?_
                      refine lv_topi (fun y_120 ey_120 => ?_)
                      obtain rfl : y_120 = 1 := ey_120.trans (by decide)
                      refine lv_if_ne (tgt := 164) hx hb dX12_game_140 (by decide) (fun _ => ?_) (fun q => absurd q (by decide))
                      refine lv_iload hx hb dX12_game_164 (lv_at hl 0 rfl) ?_
                      refine lv_aload_n hx hb dX12_game_166 rfl (lv_at hl 6 rfl) ?_
                      refine z_get C G clX12 6 rfl 24 (by decide) m_fl_RX12_38 rfl dX12_game_167 ?_
                      refine lv_bipush (v := 8) hx hb dX12_game_170 (by decide) ?_
                      refine lv_iload hx hb dX12_game_172 (lv_at hl 3 rfl) ?_
                      refine lv_imul hx hb dX12_game_174 ?_
                      refine lv_topi (fun y_121 ey_121 => ?_)
                      obtain rfl : y_121 = nI (8 * w) := ey_121.trans (z_imuln 8 w rfl rfl)
                      refine lv_iload hx hb dX12_game_175 (lv_at hl 2 rfl) ?_
                      refine lv_iadd hx hb dX12_game_177 ?_
                      refine lv_topi (fun y_122 ey_122 => ?_)
                      have ey_122i : y_122.toInt = ((8 * w) : Int) + x.toInt := by rw [ey_122]; exact (z_iaddI (x := (nI (8 * w))) (y := x) (by rw [nI_toInt (n := 8 * w) (by omega)]; show -2147483648 ≤ ((8 * w) : Int) + x.toInt; omega) (by rw [nI_toInt (n := 8 * w) (by omega)]; show ((8 * w) : Int) + x.toInt < 2147483648; omega)).trans (by rw [nI_toInt (n := 8 * w) (by omega)] <;> rfl)
                      refine z_ild C G 1 rfl (vp_in_iff.mpr ⟨by omega, by omega⟩) dX12_game_178 ?_
                      refine lv_topi (fun v_123 ev_123 => ?_)
                      subst ev_123
                      have hxy9 := hxk9.resolve_left (by first | omega | (intro q9; omega))
                      have hw9 : (xr1 y_122.toNatClampNeg).toInt = (gVp (zWo f_all 610 j_inns_3) (zLo f_all 610) j_inns_3 c_ (aRs (zWo f_all 610 j_inns_3) (zPo f_all 610) 7) 0 false 1 w) x.toInt.toNat := by rw [(show y_122.toNatClampNeg = 8 * w + x.toInt.toNat from by have q4 := z_clI (x := y_122) (by omega); omega), hxF1 (8 * w + x.toInt.toNat) (by omega)]; exact ((hF1 (8 * w + x.toInt.toNat) (by omega)).trans (gRw_c (by omega))).trans (if_pos hxy9.2.2)
                      refine lv_icmp_gt (tgt := 185) hx hb dX12_game_179 (by decide) (fun c_124 => ?_) (fun c_124 => ?_)
                      · have c_124n : (xr1 y_122.toNatClampNeg).toInt < (xr1 ((8 * w) + i)).toInt := (fa_lt _ _).mp c_124
                        refine lv_iload hx hb dX12_game_185 (lv_at hl 1 rfl) ?_
                        refine lv_istore (lv' := [(6, .int (nI i)), (10, .int (xr1 ((8 * w) + i))), (9, .int (nI i)), (8, .int (nI w)), (5, .int 8), (7, .int 1), (0, .ref mo), (1, .int l_), (2, .int c_), (3, .int 2), (4, .int f_)]) hx hb dX12_game_187 hl (by decide) (zLvf_h rfl) (fun ls hl => ?_)
                        have tii9 := nI_toInt (n := i) (by omega)
                        have hxn9 : (nI i).toInt = gIx (gOp (zWo f_all 610 j_inns_3) (aRs (zWo f_all 610 j_inns_3) (zPo f_all 610) 7) 1 w) (gVp (zWo f_all 610 j_inns_3) (zLo f_all 610) j_inns_3 c_ (aRs (zWo f_all 610 j_inns_3) (zPo f_all 610) 7) 0 false 1 w) false (i + 1) := tii9.trans (gLx_y hxb.symm hv9 (by omega) (by first | exact Or.inl (by omega) | exact Or.inr (by rw [if_neg (by decide)]; omega))).symm
                        refine lv_iinc (v := nI (i + 1)) (lv' := [(9, .int (nI (i + 1))), (6, .int (nI i)), (10, .int (xr1 ((8 * w) + i))), (8, .int (nI w)), (5, .int 8), (7, .int 1), (0, .ref mo), (1, .int l_), (2, .int c_), (3, .int 2), (4, .int f_)]) hx hb dX12_game_189 hl (k := 2) rfl (z_inc i 1) (by decide) (zLvf_h rfl) (fun ls hl => ?_)
                        refine lv_goto (tgt := 102) hx hb dX12_game_192 (by decide) ?_
                        exact ih_102 (i + 1) (nI i) (show (i + 1) ≤ 8 ∧ (nI i).toInt = gIx (gOp (zWo f_all 610 j_inns_3) (aRs (zWo f_all 610 j_inns_3) (zPo f_all 610) 7) 1 w) (gVp (zWo f_all 610 j_inns_3) (zLo f_all 610) j_inns_3 c_ (aRs (zWo f_all 610 j_inns_3) (zPo f_all 610) 7) 0 false 1 w) false (i + 1) from ⟨by omega, hxn9⟩) (show 8 - (i + 1) < 8 - i from by omega) _ _ ls G (lv_sub hl [0, 1, 3, 4, 5, 6, 7, 8, 9, 10] rfl)
                      · have c_124n : ¬ (xr1 y_122.toNatClampNeg).toInt < (xr1 ((8 * w) + i)).toInt := fun q => c_124 ((fa_lt _ _).mpr q)
                        refine lv_goto (tgt := 189) hx hb dX12_game_182 (by decide) ?_
                        have hxn9 : x.toInt = gIx (gOp (zWo f_all 610 j_inns_3) (aRs (zWo f_all 610 j_inns_3) (zPo f_all 610) 7) 1 w) (gVp (zWo f_all 610 j_inns_3) (zLo f_all 610) j_inns_3 c_ (aRs (zWo f_all 610 j_inns_3) (zPo f_all 610) 7) 0 false 1 w) false (i + 1) := (gLx_n (fun c => gVp_0 c) hxb.symm hv9 (by first | exact Or.inl (by omega) | exact Or.inr ⟨by omega, by rw [if_neg (by decide)]; omega⟩)).symm
                        refine lv_iinc (v := nI (i + 1)) (lv' := [(9, .int (nI (i + 1))), (10, .int (xr1 ((8 * w) + i))), (6, .int x), (8, .int (nI w)), (5, .int 8), (7, .int 1), (0, .ref mo), (1, .int l_), (2, .int c_), (3, .int 2), (4, .int f_)]) hx hb dX12_game_189 hl (k := 1) rfl (z_inc i 1) (by decide) (zLvf_h rfl) (fun ls hl => ?_)
                        refine lv_goto (tgt := 102) hx hb dX12_game_192 (by decide) ?_
                        exact ih_102 (i + 1) x (show (i + 1) ≤ 8 ∧ x.toInt = gIx (gOp (zWo f_all 610 j_inns_3) (aRs (zWo f_all 610 j_inns_3) (zPo f_all 610) 7) 1 w) (gVp (zWo f_all 610 j_inns_3) (zLo f_all 610) j_inns_3 c_ (aRs (zWo f_all 610 j_inns_3) (zPo f_all 610) 7) 0 false 1 w) false (i + 1) from ⟨by omega, hxn9⟩) (show 8 - (i + 1) < 8 - i from by omega) _ _ ls G (lv_sub hl [0, 2, 3, 4, 5, 6, 7, 8, 9, 10] rfl)
            · have c_87n : ¬ 64 ≤ w := fun q => c_87 ((nI_leI (a := 64) (b := w) (by omega) (by omega)).mpr q)
              refine lv_aload_n hx hb dX12_game_45 rfl (lv_at hl 2 rfl) ?_
              refine z_get C G clX12 6 rfl 24 (by decide) m_fl_RX12_38 rfl dX12_game_46 ?_
              refine lv_iload hx hb dX12_game_49 (lv_at hl 0 rfl) ?_
              refine lv_aload_n hx hb dX12_game_51 rfl (lv_at hl 2 rfl) ?_
              refine lv_iload hx hb dX12_game_52 (lv_at hl 0 rfl) ?_
              refine lv_iload_n hx hb dX12_game_54 rfl (lv_at hl 5 rfl) ?_
              refine lv_iload_n hx hb dX12_game_55 rfl (lv_at hl 4 rfl) ?_
              have ti_125 : (nI w).toInt = ((w : Nat) : Int) := nI_toInt (by omega)
              refine z_Vi (bc := [[zO11 mo m_all m_has i_size i_next i_where i_token i_number i_word i_wrong i_farCrossing m_read 610 j_crossings_2 j_inns_3 m_posts m_shut m_here xsteps xdone xat xgone m_was m_came m_seenAt m_rowWorth m_farBy m_used i_everywhere i_again0 i_d0 i_never i_firstCame i_longRun i_moved i_crowd i_l0 i_fitMany i_fitLeast i_fitMost m_fitPost m_fitEnd m_keptPosts i_x0], [zAr T 0 m_all 3952 f_all], [zAr T 0 m_posts 7 xposts], [zAr T 0 m_shut 7 xshut], [zAr T 0 m_here 7 xhere], [zAr T 0 m_was 7 xwas]]) (br := [[zAr T 0 m_rowWorth 512 xrowWorth]]) (As := [.int (nI w), .int 2, .int c_]) (rest := [.int (nI w), .ref m_rowWorth]) C G (c_fm_gameBy2 l T mo m_all m_has i_size i_next i_where i_token i_number i_word i_wrong i_farCrossing m_read 610 j_crossings_2 j_inns_3 m_posts m_shut m_here xsteps xdone xat xgone m_was m_came m_seenAt m_rowWorth m_farBy m_used i_everywhere i_again0 i_d0 i_never i_firstCame i_longRun i_moved i_crowd i_l0 i_fitMany i_fitLeast i_fitMost m_fitPost m_fitEnd m_keptPosts i_x0 f_all xposts xshut xhere xwas w c_ hLx (by first | with_reducible assumption | with_reducible rfl | omega | assumption | rfl | decide) (by first | with_reducible assumption | with_reducible rfl | omega | assumption | rfl | decide) hVA hVz (by first | with_reducible assumption | with_reducible rfl | omega | assumption | rfl | decide)) (kV_RX12_251 C.2.2.2.2 (Nat.le_of_ble_eq_true rfl) (Nat.le_of_ble_eq_true rfl)) [6, 2, 3, 4, 5, 0] [0, 1, 0, 0, 0, 0] rfl rfl (ci := 11) (qc := (RX12, TX12, 43)) rfl rfl (List.mem_flatten.mpr ⟨_, List.mem_of_getElem? (i := 0) rfl, List.mem_cons_self⟩) rfl rfl hl.1 dX12_game_56 (Nat.le_of_ble_eq_true rfl) (Nat.le_of_ble_eq_true rfl) (fun r_135 b1 H locs hw G => ?_)
              refine zEx8 hw ?_
              intro j_steps_126 j_done_127 j_at_128 j_gone_129 g_posts_130 g_shut_131 g_here_132 g_was_133
              refine zCu2 ?_
              intro hbs9 h_134
              clear hw
              subst hbs9
              have G : zS T A s.heap s [[zAr T 0 m_rowWorth 512 xrowWorth], [zO11 mo m_all m_has i_size i_next i_where i_token i_number i_word i_wrong i_farCrossing m_read 610 j_crossings_2 j_inns_3 m_posts m_shut m_here j_steps_126 j_done_127 j_at_128 j_gone_129 m_was m_came m_seenAt m_rowWorth m_farBy m_used i_everywhere i_again0 i_d0 i_never i_firstCame i_longRun i_moved i_crowd i_l0 i_fitMany i_fitLeast i_fitMost m_fitPost m_fitEnd m_keptPosts i_x0], [zAr T 0 m_all 3952 f_all], [zAr T 0 m_posts 7 g_posts_130], [zAr T 0 m_shut 7 g_shut_131], [zAr T 0 m_here 7 g_here_132], [zAr T 0 m_was 7 g_was_133]] _ _ := G
              have hgb9 : r_135.toInt = gRw (zWo f_all 610 j_inns_3) (zLo f_all 610) j_inns_3 c_ (aRs (zWo f_all 610 j_inns_3) (zPo f_all 610) 7) 0 true 2 w := h_134
              refine z_ist C G 0 rfl (vp_in_nI (by omega) (by decide)) dX12_game_59 (fun H locs G => ?_)
              rw [nI_clamp (by omega)] at G
              have G : zS T A s.heap s [[zAr T 0 m_rowWorth 512 (upd xrowWorth w r_135)], [zO11 mo m_all m_has i_size i_next i_where i_token i_number i_word i_wrong i_farCrossing m_read 610 j_crossings_2 j_inns_3 m_posts m_shut m_here j_steps_126 j_done_127 j_at_128 j_gone_129 m_was m_came m_seenAt m_rowWorth m_farBy m_used i_everywhere i_again0 i_d0 i_never i_firstCame i_longRun i_moved i_crowd i_l0 i_fitMany i_fitLeast i_fitMost m_fitPost m_fitEnd m_keptPosts i_x0], [zAr T 0 m_all 3952 f_all], [zAr T 0 m_posts 7 g_posts_130], [zAr T 0 m_shut 7 g_shut_131], [zAr T 0 m_here 7 g_here_132], [zAr T 0 m_was 7 g_was_133]] _ _ := G
              refine lv_iinc (v := nI (w + 1)) (lv' := [(6, .int (nI (w + 1))), (5, .int 64), (0, .ref mo), (1, .int l_), (2, .int c_), (3, .int 2), (4, .int f_)]) hx hb dX12_game_60 hl (k := 0) rfl (z_inc w 1) (by decide) (zLvf_h rfl) (fun ls hl => ?_)
              refine lv_goto (tgt := 38) hx hb dX12_game_63 (by decide) ?_
              have G := G.sub (bs' := [[zAr T 0 m_was 7 g_was_133], [zAr T 0 m_rowWorth 512 (upd xrowWorth w r_135)], [zAr T 0 m_all 3952 f_all], [zAr T 0 m_posts 7 g_posts_130], [zAr T 0 m_shut 7 g_shut_131], [zAr T 0 m_here 7 g_here_132], [zO11 mo m_all m_has i_size i_next i_where i_token i_number i_word i_wrong i_farCrossing m_read 610 j_crossings_2 j_inns_3 m_posts m_shut m_here j_steps_126 j_done_127 j_at_128 j_gone_129 m_was m_came m_seenAt m_rowWorth m_farBy m_used i_everywhere i_again0 i_d0 i_never i_firstCame i_longRun i_moved i_crowd i_l0 i_fitMany i_fitLeast i_fitMost m_fitPost m_fitEnd m_keptPosts i_x0]]) [6, 0, 2, 3, 4, 5, 1] rfl
              exact ih_38 (w + 1) j_at_128 j_gone_129 j_steps_126 j_done_127 g_posts_130 g_shut_131 g_here_132 g_was_133 (upd xrowWorth w r_135) (show (w + 1) ≤ 64 ∧ (∀ p, p < (w + 1) → ((upd xrowWorth w r_135) p).toInt = gRw (zWo f_all 610 j_inns_3) (zLo f_all 610) j_inns_3 c_ (aRs (zWo f_all 610 j_inns_3) (zPo f_all 610) 7) 0 true 2 p) from ⟨by omega, (gUp hrow hgb9)⟩) (show 64 - (w + 1) < 64 - w from by omega) _ _ ls G (lv_sub hl [0, 1, 2, 3, 4, 5, 6] rfl)
          · obtain rfl : n_ = 3 := Int32.toInt_inj.mp hnn9
            refine lv_iconst (v := 1) hx hb dX12_game_28 (by decide) ?_
            refine lv_iconst (v := 3) hx hb dX12_game_29 (by decide) ?_
            refine lv_iload_n hx hb dX12_game_30 rfl (lv_at hl 3 rfl) ?_
            refine lv_imul hx hb dX12_game_31 ?_
            refine lv_topi (fun y_136 ey_136 => ?_)
            obtain rfl : y_136 = 9 := ey_136.trans (by decide)
            refine lv_ishl hx hb dX12_game_32 ?_
            refine lv_topi (fun y_137 ey_137 => ?_)
            obtain rfl : y_137 = 512 := ey_137.trans (by decide)
            refine lv_istore (lv' := [(5, .int 512), (0, .ref mo), (1, .int l_), (2, .int c_), (3, .int 3), (4, .int f_)]) hx hb dX12_game_33 hl (by decide) (zLvf_h rfl) (fun ls hl => ?_)
            refine lv_iconst (v := 0) hx hb dX12_game_35 (by decide) ?_
            refine lv_istore (lv' := [(6, .int 0), (5, .int 512), (0, .ref mo), (1, .int l_), (2, .int c_), (3, .int 3), (4, .int f_)]) hx hb dX12_game_36 hl (by decide) (zLvf_h rfl) (fun ls hl => ?_)
            refine z_lp10 (T := T) 38 (fun (w : Nat) (xat : Int32) (xgone : Int32) (xsteps : Int32) (xdone : Int32) (xposts : Nat → Int32) (xshut : Nat → Int32) (xhere : Nat → Int32) (xwas : Nat → Int32) (xrowWorth : Nat → Int32) => [[zAr T 0 m_was 7 xwas], [zAr T 0 m_rowWorth 512 xrowWorth], [zAr T 0 m_all 3952 f_all], [zAr T 0 m_posts 7 xposts], [zAr T 0 m_shut 7 xshut], [zAr T 0 m_here 7 xhere], [zO11 mo m_all m_has i_size i_next i_where i_token i_number i_word i_wrong i_farCrossing m_read 610 j_crossings_2 j_inns_3 m_posts m_shut m_here xsteps xdone xat xgone m_was m_came m_seenAt m_rowWorth m_farBy m_used i_everywhere i_again0 i_d0 i_never i_firstCame i_longRun i_moved i_crowd i_l0 i_fitMany i_fitLeast i_fitMost m_fitPost m_fitEnd m_keptPosts i_x0]]) (fun (w : Nat) (xat : Int32) (xgone : Int32) (xsteps : Int32) (xdone : Int32) (xposts : Nat → Int32) (xshut : Nat → Int32) (xhere : Nat → Int32) (xwas : Nat → Int32) (xrowWorth : Nat → Int32) => [(6, .int (nI w)), (5, .int 512), (0, .ref mo), (1, .int l_), (2, .int c_), (3, .int 3), (4, .int f_)]) (fun (w : Nat) (xat : Int32) (xgone : Int32) (xsteps : Int32) (xdone : Int32) (xposts : Nat → Int32) (xshut : Nat → Int32) (xhere : Nat → Int32) (xwas : Nat → Int32) (xrowWorth : Nat → Int32) => w ≤ 512 ∧ (∀ p, p < w → (xrowWorth p).toInt = gRw (zWo f_all 610 j_inns_3) (zLo f_all 610) j_inns_3 c_ (aRs (zWo f_all 610 j_inns_3) (zPo f_all 610) 7) 0 false 3 p)) (fun (w : Nat) (xat : Int32) (xgone : Int32) (xsteps : Int32) (xdone : Int32) (xposts : Nat → Int32) (xshut : Nat → Int32) (xhere : Nat → Int32) (xwas : Nat → Int32) (xrowWorth : Nat → Int32) => 512 - w) ?_ 0 i_at i_gone j_steps_4 j_done_5 g_posts_6 g_shut_7 g_here_8 f_was f_rowWorth (show 0 ≤ 512 ∧ (∀ p, p < 0 → (f_rowWorth p).toInt = gRw (zWo f_all 610 j_inns_3) (zLo f_all 610) j_inns_3 c_ (aRs (zWo f_all 610 j_inns_3) (zPo f_all 610) 7) 0 false 3 p) from ⟨by omega, (fun p hp => absurd hp (Nat.not_lt_zero _))⟩) G (lv_sub hl [0, 1, 2, 3, 4, 5, 6] rfl)
            intro w xat xgone xsteps xdone xposts xshut xhere xwas xrowWorth hI9 ih_38 H locs ls G hl
            replace hI9 : w ≤ 512 ∧ (∀ p, p < w → (xrowWorth p).toInt = gRw (zWo f_all 610 j_inns_3) (zLo f_all 610) j_inns_3 c_ (aRs (zWo f_all 610 j_inns_3) (zPo f_all 610) 7) 0 false 3 p) := hI9
            refine zAn2 hI9 ?_
            intro hww hrow
            clear hI9
            replace G : zS T A s.heap s [[zAr T 0 m_was 7 xwas], [zAr T 0 m_rowWorth 512 xrowWorth], [zAr T 0 m_all 3952 f_all], [zAr T 0 m_posts 7 xposts], [zAr T 0 m_shut 7 xshut], [zAr T 0 m_here 7 xhere], [zO11 mo m_all m_has i_size i_next i_where i_token i_number i_word i_wrong i_farCrossing m_read 610 j_crossings_2 j_inns_3 m_posts m_shut m_here xsteps xdone xat xgone m_was m_came m_seenAt m_rowWorth m_farBy m_used i_everywhere i_again0 i_d0 i_never i_firstCame i_longRun i_moved i_crowd i_l0 i_fitMany i_fitLeast i_fitMost m_fitPost m_fitEnd m_keptPosts i_x0]] _ _ := G
            replace hl : lv_has ls 11 [(6, .int (nI w)), (5, .int 512), (0, .ref mo), (1, .int l_), (2, .int c_), (3, .int 3), (4, .int f_)] := hl
            refine lv_iload hx hb dX12_game_38 (lv_at hl 0 rfl) ?_
            refine lv_iload hx hb dX12_game_40 (lv_at hl 1 rfl) ?_
            refine lv_icmp_ge (tgt := 66) hx hb dX12_game_42 (by decide) (fun c_138 => ?_) (fun c_138 => ?_)
            · have c_138n : 512 ≤ w := (nI_leI (a := 512) (b := w) (by omega) (by omega)).mp c_138
              refine lv_iconst (v := (-1)) hx hb dX12_game_66 (by decide) ?_
              refine lv_istore (lv' := [(6, .int (-1)), (5, .int 512), (0, .ref mo), (1, .int l_), (2, .int c_), (3, .int 3), (4, .int f_)]) hx hb dX12_game_67 hl (by decide) (zLvf_h rfl) (fun ls hl => ?_)
              refine lv_iload_n hx hb dX12_game_69 rfl (lv_at hl 5 rfl) ?_
              refine lv_iconst (v := 1) hx hb dX12_game_70 (by decide) ?_
              refine lv_isub hx hb dX12_game_71 ?_
              refine lv_topi (fun y_139 ey_139 => ?_)
              obtain rfl : y_139 = 2 := ey_139.trans (by decide)
              refine lv_istore (lv' := [(7, .int 2), (6, .int (-1)), (5, .int 512), (0, .ref mo), (1, .int l_), (2, .int c_), (3, .int 3), (4, .int f_)]) hx hb dX12_game_72 hl (by decide) (zLvf_h rfl) (fun ls hl => ?_)
              refine lv_iload hx hb dX12_game_74 (lv_at hl 0 rfl) ?_
              refine lv_if_lt (tgt := 237) hx hb dX12_game_76 (by decide) (fun q => absurd q (by decide)) (fun _ => ?_)
              refine lv_iload hx hb dX12_game_79 (lv_at hl 2 rfl) ?_
              refine lv_bipush (v := 8) hx hb dX12_game_81 (by decide) ?_
              refine lv_idiv hx hb dX12_game_83 (by decide) ?_
              refine lv_topi (fun y_140 ey_140 => ?_)
              obtain rfl : y_140 = 64 := ey_140.trans (by decide)
              refine lv_istore (lv' := [(5, .int 64), (7, .int 2), (6, .int (-1)), (0, .ref mo), (1, .int l_), (2, .int c_), (3, .int 3), (4, .int f_)]) hx hb dX12_game_84 hl (by decide) (zLvf_h rfl) (fun ls hl => ?_)
              refine lv_iconst (v := 0) hx hb dX12_game_86 (by decide) ?_
              refine lv_istore (lv' := [(8, .int 0), (5, .int 64), (7, .int 2), (6, .int (-1)), (0, .ref mo), (1, .int l_), (2, .int c_), (3, .int 3), (4, .int f_)]) hx hb dX12_game_87 hl (by decide) (zLvf_h rfl) (fun ls hl => ?_)
              have hF2 : ∀ p, p < 512 → (xrowWorth p).toInt = gRw (zWo f_all 610 j_inns_3) (zLo f_all 610) j_inns_3 c_ (aRs (zWo f_all 610 j_inns_3) (zPo f_all 610) 7) 0 (!true) 3 p := fun p hp => hrow p (by omega)
              refine z_lp3 (T := T) 89 (fun (w : Nat) (x : Int32) (xr2 : Nat → Int32) => [[zAr T 0 m_was 7 xwas], [zAr T 0 m_rowWorth 512 xr2], [zAr T 0 m_all 3952 f_all], [zAr T 0 m_posts 7 xposts], [zAr T 0 m_shut 7 xshut], [zAr T 0 m_here 7 xhere], [zO11 mo m_all m_has i_size i_next i_where i_token i_number i_word i_wrong i_farCrossing m_read 610 j_crossings_2 j_inns_3 m_posts m_shut m_here xsteps xdone xat xgone m_was m_came m_seenAt m_rowWorth m_farBy m_used i_everywhere i_again0 i_d0 i_never i_firstCame i_longRun i_moved i_crowd i_l0 i_fitMany i_fitLeast i_fitMost m_fitPost m_fitEnd m_keptPosts i_x0]]) (fun (w : Nat) (x : Int32) (xr2 : Nat → Int32) => [(8, .int (nI w)), (5, .int 64), (7, .int 2), (6, .int x), (0, .ref mo), (1, .int l_), (2, .int c_), (3, .int 3), (4, .int f_)]) (fun (w : Nat) (x : Int32) (xr2 : Nat → Int32) => w ≤ 64 ∧ (∀ p, p < w → (xr2 p).toInt = gRw (zWo f_all 610 j_inns_3) (zLo f_all 610) j_inns_3 c_ (aRs (zWo f_all 610 j_inns_3) (zPo f_all 610) 7) 1 true 2 p) ∧ (∀ p, w ≤ p → xr2 p = xrowWorth p) ∧ (0 < w → x.toInt = gIx (gOp (zWo f_all 610 j_inns_3) (aRs (zWo f_all 610 j_inns_3) (zPo f_all 610) 7) 2 (w - 1)) (gVp (zWo f_all 610 j_inns_3) (zLo f_all 610) j_inns_3 c_ (aRs (zWo f_all 610 j_inns_3) (zPo f_all 610) 7) 0 true 2 (w - 1)) true 8)) (fun (w : Nat) (x : Int32) (xr2 : Nat → Int32) => 64 - w) ?_ 0 (-1) xrowWorth (show 0 ≤ 64 ∧ (∀ p, p < 0 → (xrowWorth p).toInt = gRw (zWo f_all 610 j_inns_3) (zLo f_all 610) j_inns_3 c_ (aRs (zWo f_all 610 j_inns_3) (zPo f_all 610) 7) 1 true 2 p) ∧ (∀ p, 0 ≤ p → xrowWorth p = xrowWorth p) ∧ (0 < 0 → ((-1) : Int32).toInt = gIx (gOp (zWo f_all 610 j_inns_3) (aRs (zWo f_all 610 j_inns_3) (zPo f_all 610) 7) 2 (0 - 1)) (gVp (zWo f_all 610 j_inns_3) (zLo f_all 610) j_inns_3 c_ (aRs (zWo f_all 610 j_inns_3) (zPo f_all 610) 7) 0 true 2 (0 - 1)) true 8) from ⟨by omega, (fun p hp => absurd hp (Nat.not_lt_zero _)), (fun _ _ => rfl), (fun q9 => absurd q9 (Nat.lt_irrefl _))⟩) G (lv_sub hl [0, 1, 2, 3, 4, 5, 6, 7, 8] rfl)
              intro w x xr2 hI9 ih_89 H locs ls G hl
              replace hI9 : w ≤ 64 ∧ (∀ p, p < w → (xr2 p).toInt = gRw (zWo f_all 610 j_inns_3) (zLo f_all 610) j_inns_3 c_ (aRs (zWo f_all 610 j_inns_3) (zPo f_all 610) 7) 1 true 2 p) ∧ (∀ p, w ≤ p → xr2 p = xrowWorth p) ∧ (0 < w → x.toInt = gIx (gOp (zWo f_all 610 j_inns_3) (aRs (zWo f_all 610 j_inns_3) (zPo f_all 610) 7) 2 (w - 1)) (gVp (zWo f_all 610 j_inns_3) (zLo f_all 610) j_inns_3 c_ (aRs (zWo f_all 610 j_inns_3) (zPo f_all 610) 7) 0 true 2 (w - 1)) true 8) := hI9
              refine zAn4 hI9 ?_
              intro hww hwr2 hxF2 hx6
              clear hI9
              replace G : zS T A s.heap s [[zAr T 0 m_was 7 xwas], [zAr T 0 m_rowWorth 512 xr2], [zAr T 0 m_all 3952 f_all], [zAr T 0 m_posts 7 xposts], [zAr T 0 m_shut 7 xshut], [zAr T 0 m_here 7 xhere], [zO11 mo m_all m_has i_size i_next i_where i_token i_number i_word i_wrong i_farCrossing m_read 610 j_crossings_2 j_inns_3 m_posts m_shut m_here xsteps xdone xat xgone m_was m_came m_seenAt m_rowWorth m_farBy m_used i_everywhere i_again0 i_d0 i_never i_firstCame i_longRun i_moved i_crowd i_l0 i_fitMany i_fitLeast i_fitMost m_fitPost m_fitEnd m_keptPosts i_x0]] _ _ := G
              replace hl : lv_has ls 11 [(8, .int (nI w)), (5, .int 64), (7, .int 2), (6, .int x), (0, .ref mo), (1, .int l_), (2, .int c_), (3, .int 3), (4, .int f_)] := hl
              refine lv_iload hx hb dX12_game_89 (lv_at hl 0 rfl) ?_
              refine lv_iload hx hb dX12_game_91 (lv_at hl 1 rfl) ?_
              refine lv_icmp_ge (tgt := 231) hx hb dX12_game_93 (by decide) (fun c_141 => ?_) (fun c_141 => ?_)
              · have c_141n : 64 ≤ w := (nI_leI (a := 64) (b := w) (by omega) (by omega)).mp c_141
                refine lv_iinc (v := 1) (lv' := [(7, .int 1), (8, .int (nI w)), (5, .int 64), (6, .int x), (0, .ref mo), (1, .int l_), (2, .int c_), (3, .int 3), (4, .int f_)]) hx hb dX12_game_231 hl (k := 2) rfl (by decide) (by decide) (zLvf_h rfl) (fun ls hl => ?_)
                refine lv_goto (tgt := 74) hx hb dX12_game_234 (by decide) ?_
                refine lv_iload hx hb dX12_game_74 (lv_at hl 0 rfl) ?_
                refine lv_if_lt (tgt := 237) hx hb dX12_game_76 (by decide) (fun q => absurd q (by decide)) (fun _ => ?_)
                refine lv_iload hx hb dX12_game_79 (lv_at hl 2 rfl) ?_
                refine lv_bipush (v := 8) hx hb dX12_game_81 (by decide) ?_
                refine lv_idiv hx hb dX12_game_83 (by decide) ?_
                refine lv_topi (fun y_142 ey_142 => ?_)
                obtain rfl : y_142 = 8 := ey_142.trans (by decide)
                refine lv_istore (lv' := [(5, .int 8), (7, .int 1), (8, .int (nI w)), (6, .int x), (0, .ref mo), (1, .int l_), (2, .int c_), (3, .int 3), (4, .int f_)]) hx hb dX12_game_84 hl (by decide) (zLvf_h rfl) (fun ls hl => ?_)
                refine lv_iconst (v := 0) hx hb dX12_game_86 (by decide) ?_
                refine lv_istore (lv' := [(8, .int 0), (5, .int 8), (7, .int 1), (6, .int x), (0, .ref mo), (1, .int l_), (2, .int c_), (3, .int 3), (4, .int f_)]) hx hb dX12_game_87 hl (by decide) (zLvf_h rfl) (fun ls hl => ?_)
                have hF1 : ∀ p, p < 64 → (xr2 p).toInt = gRw (zWo f_all 610 j_inns_3) (zLo f_all 610) j_inns_3 c_ (aRs (zWo f_all 610 j_inns_3) (zPo f_all 610) 7) 1 (!false) 2 p := fun p hp => hwr2 p (by omega)
                refine z_lp3 (T := T) 89 (fun (w : Nat) (x : Int32) (xr1 : Nat → Int32) => [[zAr T 0 m_was 7 xwas], [zAr T 0 m_rowWorth 512 xr1], [zAr T 0 m_all 3952 f_all], [zAr T 0 m_posts 7 xposts], [zAr T 0 m_shut 7 xshut], [zAr T 0 m_here 7 xhere], [zO11 mo m_all m_has i_size i_next i_where i_token i_number i_word i_wrong i_farCrossing m_read 610 j_crossings_2 j_inns_3 m_posts m_shut m_here xsteps xdone xat xgone m_was m_came m_seenAt m_rowWorth m_farBy m_used i_everywhere i_again0 i_d0 i_never i_firstCame i_longRun i_moved i_crowd i_l0 i_fitMany i_fitLeast i_fitMost m_fitPost m_fitEnd m_keptPosts i_x0]]) (fun (w : Nat) (x : Int32) (xr1 : Nat → Int32) => [(8, .int (nI w)), (5, .int 8), (7, .int 1), (6, .int x), (0, .ref mo), (1, .int l_), (2, .int c_), (3, .int 3), (4, .int f_)]) (fun (w : Nat) (x : Int32) (xr1 : Nat → Int32) => w ≤ 8 ∧ (∀ p, p < w → (xr1 p).toInt = gRw (zWo f_all 610 j_inns_3) (zLo f_all 610) j_inns_3 c_ (aRs (zWo f_all 610 j_inns_3) (zPo f_all 610) 7) 2 false 1 p) ∧ (∀ p, w ≤ p → xr1 p = xr2 p) ∧ (0 < w → x.toInt = gIx (gOp (zWo f_all 610 j_inns_3) (aRs (zWo f_all 610 j_inns_3) (zPo f_all 610) 7) 1 (w - 1)) (gVp (zWo f_all 610 j_inns_3) (zLo f_all 610) j_inns_3 c_ (aRs (zWo f_all 610 j_inns_3) (zPo f_all 610) 7) 1 false 1 (w - 1)) false 8)) (fun (w : Nat) (x : Int32) (xr1 : Nat → Int32) => 8 - w) ?_ 0 x xr2 (show 0 ≤ 8 ∧ (∀ p, p < 0 → (xr2 p).toInt = gRw (zWo f_all 610 j_inns_3) (zLo f_all 610) j_inns_3 c_ (aRs (zWo f_all 610 j_inns_3) (zPo f_all 610) 7) 2 false 1 p) ∧ (∀ p, 0 ≤ p → xr2 p = xr2 p) ∧ (0 < 0 → x.toInt = gIx (gOp (zWo f_all 610 j_inns_3) (aRs (zWo f_all 610 j_inns_3) (zPo f_all 610) 7) 1 (0 - 1)) (gVp (zWo f_all 610 j_inns_3) (zLo f_all 610) j_inns_3 c_ (aRs (zWo f_all 610 j_inns_3) (zPo f_all 610) 7) 1 false 1 (0 - 1)) false 8) from ⟨by omega, (fun p hp => absurd hp (Nat.not_lt_zero _)), (fun _ _ => rfl), (fun q9 => absurd q9 (Nat.lt_irrefl _))⟩) G (lv_sub hl [0, 1, 2, 3, 4, 5, 6, 7, 8] rfl)
                intro w x xr1 hI9 ih_89 H locs ls G hl
                replace hI9 : w ≤ 8 ∧ (∀ p, p < w → (xr1 p).toInt = gRw (zWo f_all 610 j_inns_3) (zLo f_all 610) j_inns_3 c_ (aRs (zWo f_all 610 j_inns_3) (zPo f_all 610) 7) 2 false 1 p) ∧ (∀ p, w ≤ p → xr1 p = xr2 p) ∧ (0 < w → x.toInt = gIx (gOp (zWo f_all 610 j_inns_3) (aRs (zWo f_all 610 j_inns_3) (zPo f_all 610) 7) 1 (w - 1)) (gVp (zWo f_all 610 j_inns_3) (zLo f_all 610) j_inns_3 c_ (aRs (zWo f_all 610 j_inns_3) (zPo f_all 610) 7) 1 false 1 (w - 1)) false 8) := hI9
                refine zAn4 hI9 ?_
                intro hww hwr1 hxF1 hx6
                clear hI9
                replace G : zS T A s.heap s [[zAr T 0 m_was 7 xwas], [zAr T 0 m_rowWorth 512 xr1], [zAr T 0 m_all 3952 f_all], [zAr T 0 m_posts 7 xposts], [zAr T 0 m_shut 7 xshut], [zAr T 0 m_here 7 xhere], [zO11 mo m_all m_has i_size i_next i_where i_token i_number i_word i_wrong i_farCrossing m_read 610 j_crossings_2 j_inns_3 m_posts m_shut m_here xsteps xdone xat xgone m_was m_came m_seenAt m_rowWorth m_farBy m_used i_everywhere i_again0 i_d0 i_never i_firstCame i_longRun i_moved i_crowd i_l0 i_fitMany i_fitLeast i_fitMost m_fitPost m_fitEnd m_keptPosts i_x0]] _ _ := G
                replace hl : lv_has ls 11 [(8, .int (nI w)), (5, .int 8), (7, .int 1), (6, .int x), (0, .ref mo), (1, .int l_), (2, .int c_), (3, .int 3), (4, .int f_)] := hl
                refine lv_iload hx hb dX12_game_89 (lv_at hl 0 rfl) ?_
                refine lv_iload hx hb dX12_game_91 (lv_at hl 1 rfl) ?_
                refine lv_icmp_ge (tgt := 231) hx hb dX12_game_93 (by decide) (fun c_143 => ?_) (fun c_143 => ?_)
                · have c_143n : 8 ≤ w := (nI_leI (a := 8) (b := w) (by omega) (by omega)).mp c_143
                  refine lv_iinc (v := 0) (lv' := [(7, .int 0), (8, .int (nI w)), (5, .int 8), (6, .int x), (0, .ref mo), (1, .int l_), (2, .int c_), (3, .int 3), (4, .int f_)]) hx hb dX12_game_231 hl (k := 2) rfl (by decide) (by decide) (zLvf_h rfl) (fun ls hl => ?_)
                  refine lv_goto (tgt := 74) hx hb dX12_game_234 (by decide) ?_
                  refine lv_iload hx hb dX12_game_74 (lv_at hl 0 rfl) ?_
                  refine lv_if_lt (tgt := 237) hx hb dX12_game_76 (by decide) (fun q => absurd q (by decide)) (fun _ => ?_)
                  refine lv_iload hx hb dX12_game_79 (lv_at hl 2 rfl) ?_
                  refine lv_bipush (v := 8) hx hb dX12_game_81 (by decide) ?_
                  refine lv_idiv hx hb dX12_game_83 (by decide) ?_
                  refine lv_topi (fun y_144 ey_144 => ?_)
                  obtain rfl : y_144 = 1 := ey_144.trans (by decide)
                  refine lv_istore (lv' := [(5, .int 1), (7, .int 0), (8, .int (nI w)), (6, .int x), (0, .ref mo), (1, .int l_), (2, .int c_), (3, .int 3), (4, .int f_)]) hx hb dX12_game_84 hl (by decide) (zLvf_h rfl) (fun ls hl => ?_)
                  refine lv_iconst (v := 0) hx hb dX12_game_86 (by decide) ?_
                  refine lv_istore (lv' := [(8, .int 0), (5, .int 1), (7, .int 0), (6, .int x), (0, .ref mo), (1, .int l_), (2, .int c_), (3, .int 3), (4, .int f_)]) hx hb dX12_game_87 hl (by decide) (zLvf_h rfl) (fun ls hl => ?_)
                  have hF0 : ∀ p, p < 8 → (xr1 p).toInt = gRw (zWo f_all 610 j_inns_3) (zLo f_all 610) j_inns_3 c_ (aRs (zWo f_all 610 j_inns_3) (zPo f_all 610) 7) 2 (!true) 1 p := fun p hp => hwr1 p (by omega)
                  refine z_lp3 (T := T) 89 (fun (w : Nat) (x : Int32) (xr0 : Nat → Int32) => [[zAr T 0 m_was 7 xwas], [zAr T 0 m_rowWorth 512 xr0], [zAr T 0 m_all 3952 f_all], [zAr T 0 m_posts 7 xposts], [zAr T 0 m_shut 7 xshut], [zAr T 0 m_here 7 xhere], [zO11 mo m_all m_has i_size i_next i_where i_token i_number i_word i_wrong i_farCrossing m_read 610 j_crossings_2 j_inns_3 m_posts m_shut m_here xsteps xdone xat xgone m_was m_came m_seenAt m_rowWorth m_farBy m_used i_everywhere i_again0 i_d0 i_never i_firstCame i_longRun i_moved i_crowd i_l0 i_fitMany i_fitLeast i_fitMost m_fitPost m_fitEnd m_keptPosts i_x0]]) (fun (w : Nat) (x : Int32) (xr0 : Nat → Int32) => [(8, .int (nI w)), (5, .int 1), (7, .int 0), (6, .int x), (0, .ref mo), (1, .int l_), (2, .int c_), (3, .int 3), (4, .int f_)]) (fun (w : Nat) (x : Int32) (xr0 : Nat → Int32) => w ≤ 1 ∧ (∀ p, p < w → (xr0 p).toInt = gRw (zWo f_all 610 j_inns_3) (zLo f_all 610) j_inns_3 c_ (aRs (zWo f_all 610 j_inns_3) (zPo f_all 610) 7) 3 true 0 p) ∧ (∀ p, w ≤ p → xr0 p = xr1 p) ∧ (0 < w → x.toInt = gIx (gOp (zWo f_all 610 j_inns_3) (aRs (zWo f_all 610 j_inns_3) (zPo f_all 610) 7) 0 (w - 1)) (gVp (zWo f_all 610 j_inns_3) (zLo f_all 610) j_inns_3 c_ (aRs (zWo f_all 610 j_inns_3) (zPo f_all 610) 7) 2 true 0 (w - 1)) true 8)) (fun (w : Nat) (x : Int32) (xr0 : Nat → Int32) => 1 - w) ?_ 0 x xr1 (show 0 ≤ 1 ∧ (∀ p, p < 0 → (xr1 p).toInt = gRw (zWo f_all 610 j_inns_3) (zLo f_all 610) j_inns_3 c_ (aRs (zWo f_all 610 j_inns_3) (zPo f_all 610) 7) 3 true 0 p) ∧ (∀ p, 0 ≤ p → xr1 p = xr1 p) ∧ (0 < 0 → x.toInt = gIx (gOp (zWo f_all 610 j_inns_3) (aRs (zWo f_all 610 j_inns_3) (zPo f_all 610) 7) 0 (0 - 1)) (gVp (zWo f_all 610 j_inns_3) (zLo f_all 610) j_inns_3 c_ (aRs (zWo f_all 610 j_inns_3) (zPo f_all 610) 7) 2 true 0 (0 - 1)) true 8) from ⟨by omega, (fun p hp => absurd hp (Nat.not_lt_zero _)), (fun _ _ => rfl), (fun q9 => absurd q9 (Nat.lt_irrefl _))⟩) G (lv_sub hl [0, 1, 2, 3, 4, 5, 6, 7, 8] rfl)
                  intro w x xr0 hI9 ih_89 H locs ls G hl
                  replace hI9 : w ≤ 1 ∧ (∀ p, p < w → (xr0 p).toInt = gRw (zWo f_all 610 j_inns_3) (zLo f_all 610) j_inns_3 c_ (aRs (zWo f_all 610 j_inns_3) (zPo f_all 610) 7) 3 true 0 p) ∧ (∀ p, w ≤ p → xr0 p = xr1 p) ∧ (0 < w → x.toInt = gIx (gOp (zWo f_all 610 j_inns_3) (aRs (zWo f_all 610 j_inns_3) (zPo f_all 610) 7) 0 (w - 1)) (gVp (zWo f_all 610 j_inns_3) (zLo f_all 610) j_inns_3 c_ (aRs (zWo f_all 610 j_inns_3) (zPo f_all 610) 7) 2 true 0 (w - 1)) true 8) := hI9
                  refine zAn4 hI9 ?_
                  intro hww hwr0 hxF0 hx6
                  clear hI9
                  replace G : zS T A s.heap s [[zAr T 0 m_was 7 xwas], [zAr T 0 m_rowWorth 512 xr0], [zAr T 0 m_all 3952 f_all], [zAr T 0 m_posts 7 xposts], [zAr T 0 m_shut 7 xshut], [zAr T 0 m_here 7 xhere], [zO11 mo m_all m_has i_size i_next i_where i_token i_number i_word i_wrong i_farCrossing m_read 610 j_crossings_2 j_inns_3 m_posts m_shut m_here xsteps xdone xat xgone m_was m_came m_seenAt m_rowWorth m_farBy m_used i_everywhere i_again0 i_d0 i_never i_firstCame i_longRun i_moved i_crowd i_l0 i_fitMany i_fitLeast i_fitMost m_fitPost m_fitEnd m_keptPosts i_x0]] _ _ := G
                  replace hl : lv_has ls 11 [(8, .int (nI w)), (5, .int 1), (7, .int 0), (6, .int x), (0, .ref mo), (1, .int l_), (2, .int c_), (3, .int 3), (4, .int f_)] := hl
                  refine lv_iload hx hb dX12_game_89 (lv_at hl 0 rfl) ?_
                  refine lv_iload hx hb dX12_game_91 (lv_at hl 1 rfl) ?_
                  refine lv_icmp_ge (tgt := 231) hx hb dX12_game_93 (by decide) (fun c_145 => ?_) (fun c_145 => ?_)
                  · have c_145n : 1 ≤ w := (nI_leI (a := 1) (b := w) (by omega) (by omega)).mp c_145
                    refine lv_iinc (v := (-1)) (lv' := [(7, .int (-1)), (8, .int (nI w)), (5, .int 1), (6, .int x), (0, .ref mo), (1, .int l_), (2, .int c_), (3, .int 3), (4, .int f_)]) hx hb dX12_game_231 hl (k := 2) rfl (by decide) (by decide) (zLvf_h rfl) (fun ls hl => ?_)
                    refine lv_goto (tgt := 74) hx hb dX12_game_234 (by decide) ?_
                    refine lv_iload hx hb dX12_game_74 (lv_at hl 0 rfl) ?_
                    refine lv_if_lt (tgt := 237) hx hb dX12_game_76 (by decide) (fun _ => ?_) (fun q => absurd (by decide) q)
                    refine lv_iload hx hb dX12_game_237 (lv_at hl 8 rfl) ?_
                    refine lv_if_ne (tgt := 251) hx hb dX12_game_239 (by decide) (fun c_146 => ?_) (fun c_146 => ?_)
                    · have c_146n : ¬ f_.toInt = (0 : Int) := fun q => c_146 ((fa_eq _ _).mpr q)
                      refine lv_iload hx hb dX12_game_251 (lv_at hl 3 rfl) ?_
                      have G := G.sub (bs' := [[zO11 mo m_all m_has i_size i_next i_where i_token i_number i_word i_wrong i_farCrossing m_read 610 j_crossings_2 j_inns_3 m_posts m_shut m_here xsteps xdone xat xgone m_was m_came m_seenAt m_rowWorth m_farBy m_used i_everywhere i_again0 i_d0 i_never i_firstCame i_longRun i_moved i_crowd i_l0 i_fitMany i_fitLeast i_fitMost m_fitPost m_fitEnd m_keptPosts i_x0], [zAr T 0 m_all 3952 f_all], [zAr T 0 m_posts 7 xposts], [zAr T 0 m_shut 7 xshut], [zAr T 0 m_here 7 xhere], [zAr T 0 m_was 7 xwas], [zAr T 0 m_rowWorth 512 xr0]]) [6, 2, 3, 4, 5, 0, 1] rfl
                      exact z_back hQz_ (z_iret C hr hlocks G (Nat.le_of_ble_eq_true rfl) (Nat.le_of_ble_eq_true rfl) dX12_game_253 ⟨610, j_crossings_2, j_inns_3, xsteps, xdone, xat, xgone, xposts, xshut, xhere, xwas, xr0, rfl, (Or.inr (Or.inl ⟨by first | with_reducible assumption | assumption, by omega, (by
                                                                have q6 : rGame (zWo f_all 610 j_inns_3) (zLo f_all 610) (zPo f_all 610) j_inns_3 c_ 3 f_ = rGame (pW f_all 610) (zLo f_all 610) (zPo f_all 610) (f_all (610 + 1)) c_ 3 f_ := by rw [← hWe, ← hNi]
                                                                unfold pGame
                                                                rw [if_pos (by show (0 ≤ c_.toInt ∧ c_.toInt < (f_all 610).toInt) ∧ 0 ≤ (3 : Int32).toInt ∧ (3 : Int32).toInt ≤ 3; exact ⟨⟨by omega, by omega⟩, by decide, by decide⟩)]
                                                                refine Eq.trans ?_ q6
                                                                unfold rGame
                                                                rw [if_neg (by first | with_reducible assumption | assumption), if_neg (by decide)]
                                                                have q9 := hx6 (by omega)
                                                                have q5 := Int32.toInt_lt x
                                                                rw [show w - 1 = 0 by omega] at q9
                                                                have q7 : x.toInt = gIx (gOk (zWo f_all 610 j_inns_3)) (fun c => gV (zWo f_all 610 j_inns_3) (zLo f_all 610) j_inns_3 c_ 2 false (gTn (zWo f_all 610 j_inns_3) (aRs (zWo f_all 610 j_inns_3) (zPo f_all 610) 7) c)) true 8 := q9.trans (gIx_cg 8 (fun c _ => ⟨rfl, rfl⟩))
                                                                have q8 := gIx_7 (ok := gOk (zWo f_all 610 j_inns_3)) (v := (fun c => gV (zWo f_all 610 j_inns_3) (zLo f_all 610) j_inns_3 c_ 2 false (gTn (zWo f_all 610 j_inns_3) (aRs (zWo f_all 610 j_inns_3) (zPo f_all 610) 7) c))) (mn := true) (fun c => gV_0 _ _ _) gOk_7
                                                                exact z_nI (m := (gIx (gOk (zWo f_all 610 j_inns_3)) (fun c => gV (zWo f_all 610 j_inns_3) (zLo f_all 610) j_inns_3 c_ 2 false (gTn (zWo f_all 610 j_inns_3) (aRs (zWo f_all 610 j_inns_3) (zPo f_all 610) 7) c)) true 8).toNat) (by omega) (by omega))⟩))⟩)
                    · have c_146n : f_.toInt = (0 : Int) := (fa_eq _ _).mp c_146
                      refine lv_aload_n hx hb dX12_game_242 rfl (lv_at hl 4 rfl) ?_
                      refine z_get C G clX12 6 rfl 24 (by decide) m_fl_RX12_38 rfl dX12_game_243 ?_
                      refine lv_iconst (v := 0) hx hb dX12_game_246 (by decide) ?_
                      refine z_ild C G 1 rfl (vp_in_nI (n := 0) (by decide) (by decide)) dX12_game_247 ?_
                      refine lv_topi (fun v_147 ev_147 => ?_)
                      rw [show ((0 : Int32).toNatClampNeg) = 0 from rfl] at ev_147
                      subst ev_147
                      refine lv_goto (tgt := 253) hx hb dX12_game_248 (by decide) ?_
                      have G := G.sub (bs' := [[zO11 mo m_all m_has i_size i_next i_where i_token i_number i_word i_wrong i_farCrossing m_read 610 j_crossings_2 j_inns_3 m_posts m_shut m_here xsteps xdone xat xgone m_was m_came m_seenAt m_rowWorth m_farBy m_used i_everywhere i_again0 i_d0 i_never i_firstCame i_longRun i_moved i_crowd i_l0 i_fitMany i_fitLeast i_fitMost m_fitPost m_fitEnd m_keptPosts i_x0], [zAr T 0 m_all 3952 f_all], [zAr T 0 m_posts 7 xposts], [zAr T 0 m_shut 7 xshut], [zAr T 0 m_here 7 xhere], [zAr T 0 m_was 7 xwas], [zAr T 0 m_rowWorth 512 xr0]]) [6, 2, 3, 4, 5, 0, 1] rfl
                      exact z_back hQz_ (z_iret C hr hlocks G (Nat.le_of_ble_eq_true rfl) (Nat.le_of_ble_eq_true rfl) dX12_game_253 ⟨610, j_crossings_2, j_inns_3, xsteps, xdone, xat, xgone, xposts, xshut, xhere, xwas, xr0, rfl, (Or.inr (Or.inl ⟨by first | with_reducible assumption | assumption, by omega, (by
                                                                have q6 : rGame (zWo f_all 610 j_inns_3) (zLo f_all 610) (zPo f_all 610) j_inns_3 c_ 3 f_ = rGame (pW f_all 610) (zLo f_all 610) (zPo f_all 610) (f_all (610 + 1)) c_ 3 f_ := by rw [← hWe, ← hNi]
                                                                unfold pGame
                                                                rw [if_pos (by show (0 ≤ c_.toInt ∧ c_.toInt < (f_all 610).toInt) ∧ 0 ≤ (3 : Int32).toInt ∧ (3 : Int32).toInt ≤ 3; exact ⟨⟨by omega, by omega⟩, by decide, by decide⟩)]
                                                                refine Eq.trans ?_ q6
                                                                unfold rGame
                                                                rw [if_pos (by first | with_reducible assumption | assumption)]
                                                                have q8 := gV_0 (W := (zWo f_all 610 j_inns_3)) (L := (zLo f_all 610)) (inn := j_inns_3) (x := c_) 3 true (aRs (zWo f_all 610 j_inns_3) (zPo f_all 610) 7)
                                                                have q5 := Int32.toInt_lt (xr0 0)
                                                                have q7 : (xr0 0).toInt = gV (zWo f_all 610 j_inns_3) (zLo f_all 610) j_inns_3 c_ 3 true (aRs (zWo f_all 610 j_inns_3) (zPo f_all 610) 7) := (hwr0 0 (by omega)).trans (if_pos rfl)
                                                                exact z_nI (m := (gV (zWo f_all 610 j_inns_3) (zLo f_all 610) j_inns_3 c_ 3 true (aRs (zWo f_all 610 j_inns_3) (zPo f_all 610) 7)).toNat) (by omega) (by omega))⟩))⟩)
                  · have c_145n : ¬ 1 ≤ w := fun q => c_145 ((nI_leI (a := 1) (b := w) (by omega) (by omega)).mpr q)
                    refine lv_iconst (v := (-1)) hx hb dX12_game_96 (by decide) ?_
                    refine lv_istore (lv' := [(6, .int (-1)), (8, .int (nI w)), (5, .int 1), (7, .int 0), (0, .ref mo), (1, .int l_), (2, .int c_), (3, .int 3), (4, .int f_)]) hx hb dX12_game_97 hl (by decide) (zLvf_h rfl) (fun ls hl => ?_)
                    refine lv_iconst (v := 0) hx hb dX12_game_99 (by decide) ?_
                    refine lv_istore (lv' := [(9, .int 0), (6, .int (-1)), (8, .int (nI w)), (5, .int 1), (7, .int 0), (0, .ref mo), (1, .int l_), (2, .int c_), (3, .int 3), (4, .int f_)]) hx hb dX12_game_100 hl (by decide) (zLvf_h rfl) (fun ls hl => ?_)
                    refine z_lp2 (T := T) 102 (fun (i : Nat) (x : Int32) => [[zAr T 0 m_was 7 xwas], [zAr T 0 m_rowWorth 512 xr0], [zAr T 0 m_all 3952 f_all], [zAr T 0 m_posts 7 xposts], [zAr T 0 m_shut 7 xshut], [zAr T 0 m_here 7 xhere], [zO11 mo m_all m_has i_size i_next i_where i_token i_number i_word i_wrong i_farCrossing m_read 610 j_crossings_2 j_inns_3 m_posts m_shut m_here xsteps xdone xat xgone m_was m_came m_seenAt m_rowWorth m_farBy m_used i_everywhere i_again0 i_d0 i_never i_firstCame i_longRun i_moved i_crowd i_l0 i_fitMany i_fitLeast i_fitMost m_fitPost m_fitEnd m_keptPosts i_x0]]) (fun (i : Nat) (x : Int32) => [(9, .int (nI i)), (6, .int x), (8, .int (nI w)), (5, .int 1), (7, .int 0), (0, .ref mo), (1, .int l_), (2, .int c_), (3, .int 3), (4, .int f_)]) (fun (i : Nat) (x : Int32) => i ≤ 8 ∧ x.toInt = gIx (gOp (zWo f_all 610 j_inns_3) (aRs (zWo f_all 610 j_inns_3) (zPo f_all 610) 7) 0 w) (gVp (zWo f_all 610 j_inns_3) (zLo f_all 610) j_inns_3 c_ (aRs (zWo f_all 610 j_inns_3) (zPo f_all 610) 7) 2 true 0 w) true i) (fun (i : Nat) (x : Int32) => 8 - i) ?_ 0 (-1) (show 0 ≤ 8 ∧ ((-1) : Int32).toInt = gIx (gOp (zWo f_all 610 j_inns_3) (aRs (zWo f_all 610 j_inns_3) (zPo f_all 610) 7) 0 w) (gVp (zWo f_all 610 j_inns_3) (zLo f_all 610) j_inns_3 c_ (aRs (zWo f_all 610 j_inns_3) (zPo f_all 610) 7) 2 true 0 w) true 0 from ⟨by omega, rfl⟩) G (lv_sub hl [0, 1, 2, 3, 4, 5, 6, 7, 8, 9] rfl)
                    intro i x hI9 ih_102 H locs ls G hl
                    replace hI9 : i ≤ 8 ∧ x.toInt = gIx (gOp (zWo f_all 610 j_inns_3) (aRs (zWo f_all 610 j_inns_3) (zPo f_all 610) 7) 0 w) (gVp (zWo f_all 610 j_inns_3) (zLo f_all 610) j_inns_3 c_ (aRs (zWo f_all 610 j_inns_3) (zPo f_all 610) 7) 2 true 0 w) true i := hI9
                    refine zAn2 hI9 ?_
                    intro hi hxb
                    clear hI9
                    replace G : zS T A s.heap s [[zAr T 0 m_was 7 xwas], [zAr T 0 m_rowWorth 512 xr0], [zAr T 0 m_all 3952 f_all], [zAr T 0 m_posts 7 xposts], [zAr T 0 m_shut 7 xshut], [zAr T 0 m_here 7 xhere], [zO11 mo m_all m_has i_size i_next i_where i_token i_number i_word i_wrong i_farCrossing m_read 610 j_crossings_2 j_inns_3 m_posts m_shut m_here xsteps xdone xat xgone m_was m_came m_seenAt m_rowWorth m_farBy m_used i_everywhere i_again0 i_d0 i_never i_firstCame i_longRun i_moved i_crowd i_l0 i_fitMany i_fitLeast i_fitMost m_fitPost m_fitEnd m_keptPosts i_x0]] _ _ := G
                    replace hl : lv_has ls 11 [(9, .int (nI i)), (6, .int x), (8, .int (nI w)), (5, .int 1), (7, .int 0), (0, .ref mo), (1, .int l_), (2, .int c_), (3, .int 3), (4, .int f_)] := hl
                    refine lv_iload hx hb dX12_game_102 (lv_at hl 0 rfl) ?_
                    refine lv_bipush (v := 8) hx hb dX12_game_104 (by decide) ?_
                    refine lv_icmp_ge (tgt := 195) hx hb dX12_game_106 (by decide) (fun c_148 => ?_) (fun c_148 => ?_)
                    · have c_148n : 8 ≤ i := (nI_leI (a := 8) (b := i) (by omega) (by omega)).mp c_148
                      have hb89 : x.toInt = gIx (gOp (zWo f_all 610 j_inns_3) (aRs (zWo f_all 610 j_inns_3) (zPo f_all 610) 7) 0 w) (gVp (zWo f_all 610 j_inns_3) (zLo f_all 610) j_inns_3 c_ (aRs (zWo f_all 610 j_inns_3) (zPo f_all 610) 7) 2 true 0 w) true 8 := by rw [hxb, show i = 8 by omega]
                      have hle9 := gLx_e (fun c => gVp_0 c) hb89.symm
                      have hrs9 := gRw_s (W := (zWo f_all 610 j_inns_3)) (L := (zLo f_all 610)) (inn := j_inns_3) (x := c_) (t0 := (aRs (zWo f_all 610 j_inns_3) (zPo f_all 610) 7)) (m := 2) (mn := true) (k := 0) (p := w)
                      have hxk9 := gIx_ok (ok := (gOp (zWo f_all 610 j_inns_3) (aRs (zWo f_all 610 j_inns_3) (zPo f_all 610) 7) 0 w)) (v := (gVp (zWo f_all 610 j_inns_3) (zLo f_all 610) j_inns_3 c_ (aRs (zWo f_all 610 j_inns_3) (zPo f_all 610) 7) 2 true 0 w)) (mn := true) 8
                      rw [← hb89] at hxk9
                      refine lv_aload_n hx hb dX12_game_195 rfl (lv_at hl 5 rfl) ?_
                      refine z_get C G clX12 6 rfl 24 (by decide) m_fl_RX12_38 rfl dX12_game_196 ?_
                      refine lv_iload hx hb dX12_game_199 (lv_at hl 2 rfl) ?_
                      refine lv_iload hx hb dX12_game_201 (lv_at hl 1 rfl) ?_
                      refine lv_iconst (v := (-1)) hx hb dX12_game_203 (by decide) ?_
                      refine lv_icmp_ne (tgt := 211) hx hb dX12_game_204 (by decide) (fun c_149 => ?_) (fun c_149 => ?_)
                      · have c_149n : ¬ x.toInt = (-1 : Int) := fun q => c_149 ((fa_eq _ _).mpr q)
                        refine lv_aload_n hx hb dX12_game_211 rfl (lv_at hl 5 rfl) ?_
                        refine z_get C G clX12 6 rfl 24 (by decide) m_fl_RX12_38 rfl dX12_game_212 ?_
                        refine lv_bipush (v := 8) hx hb dX12_game_215 (by decide) ?_
                        refine lv_iload hx hb dX12_game_217 (lv_at hl 2 rfl) ?_
                        refine lv_imul hx hb dX12_game_219 ?_
                        refine lv_topi (fun y_150 ey_150 => ?_)
                        obtain rfl : y_150 = nI (8 * w) := ey_150.trans (z_imuln 8 w rfl rfl)
                        refine lv_iload hx hb dX12_game_220 (lv_at hl 1 rfl) ?_
                        refine lv_iadd hx hb dX12_game_222 ?_
                        refine lv_topi (fun y_151 ey_151 => ?_)
                        have ey_151i : y_151.toInt = ((8 * w) : Int) + x.toInt := by rw [ey_151]; exact (z_iaddI (x := (nI (8 * w))) (y := x) (by rw [nI_toInt (n := 8 * w) (by omega)]; show -2147483648 ≤ ((8 * w) : Int) + x.toInt; omega) (by rw [nI_toInt (n := 8 * w) (by omega)]; show ((8 * w) : Int) + x.toInt < 2147483648; omega)).trans (by rw [nI_toInt (n := 8 * w) (by omega)] <;> rfl)
                        refine z_ild C G 1 rfl (vp_in_iff.mpr ⟨by omega, by omega⟩) dX12_game_223 ?_
                        refine lv_topi (fun v_152 ev_152 => ?_)
                        subst ev_152
                        have hxy9 := hxk9.resolve_left (by first | omega | (intro q9; omega))
                        have hw9 : (xr0 y_151.toNatClampNeg).toInt = (gVp (zWo f_all 610 j_inns_3) (zLo f_all 610) j_inns_3 c_ (aRs (zWo f_all 610 j_inns_3) (zPo f_all 610) 7) 2 true 0 w) x.toInt.toNat := by rw [(show y_151.toNatClampNeg = 8 * w + x.toInt.toNat from by have q4 := z_clI (x := y_151) (by omega); omega), hxF0 (8 * w + x.toInt.toNat) (by omega)]; exact ((hF0 (8 * w + x.toInt.toNat) (by omega)).trans (gRw_c (by omega))).trans (if_pos hxy9.2.2)
                        have hnv9 : (xr0 y_151.toNatClampNeg).toInt = gRw (zWo f_all 610 j_inns_3) (zLo f_all 610) j_inns_3 c_ (aRs (zWo f_all 610 j_inns_3) (zPo f_all 610) 7) 3 true 0 w := by rw [hrs9, hle9.2 (by omega)]; exact hw9
                        refine z_ist C G 1 rfl (vp_in_nI (by omega) (by decide)) dX12_game_224 (fun H locs G => ?_)
                        rw [nI_clamp (by omega)] at G
                        have G : zS T A s.heap s [[zAr T 0 m_was 7 xwas], [zAr T 0 m_rowWorth 512 (upd xr0 w (xr0 y_151.toNatClampNeg))], [zAr T 0 m_all 3952 f_all], [zAr T 0 m_posts 7 xposts], [zAr T 0 m_shut 7 xshut], [zAr T 0 m_here 7 xhere], [zO11 mo m_all m_has i_size i_next i_where i_token i_number i_word i_wrong i_farCrossing m_read 610 j_crossings_2 j_inns_3 m_posts m_shut m_here xsteps xdone xat xgone m_was m_came m_seenAt m_rowWorth m_farBy m_used i_everywhere i_again0 i_d0 i_never i_firstCame i_longRun i_moved i_crowd i_l0 i_fitMany i_fitLeast i_fitMost m_fitPost m_fitEnd m_keptPosts i_x0]] _ _ := G
                        refine lv_iinc (v := nI (w + 1)) (lv' := [(8, .int (nI (w + 1))), (9, .int (nI i)), (6, .int x), (5, .int 1), (7, .int 0), (0, .ref mo), (1, .int l_), (2, .int c_), (3, .int 3), (4, .int f_)]) hx hb dX12_game_225 hl (k := 2) rfl (z_inc w 1) (by decide) (zLvf_h rfl) (fun ls hl => ?_)
                        refine lv_goto (tgt := 89) hx hb dX12_game_228 (by decide) ?_
                        exact ih_89 (w + 1) x (upd xr0 w (xr0 y_151.toNatClampNeg)) (show (w + 1) ≤ 1 ∧ (∀ p, p < (w + 1) → ((upd xr0 w (xr0 y_151.toNatClampNeg)) p).toInt = gRw (zWo f_all 610 j_inns_3) (zLo f_all 610) j_inns_3 c_ (aRs (zWo f_all 610 j_inns_3) (zPo f_all 610) 7) 3 true 0 p) ∧ (∀ p, (w + 1) ≤ p → (upd xr0 w (xr0 y_151.toNatClampNeg)) p = xr1 p) ∧ (0 < (w + 1) → x.toInt = gIx (gOp (zWo f_all 610 j_inns_3) (aRs (zWo f_all 610 j_inns_3) (zPo f_all 610) 7) 0 ((w + 1) - 1)) (gVp (zWo f_all 610 j_inns_3) (zLo f_all 610) j_inns_3 c_ (aRs (zWo f_all 610 j_inns_3) (zPo f_all 610) 7) 2 true 0 ((w + 1) - 1)) true 8) from ⟨by omega, (gUp hwr0 hnv9), (gUk hxF0), (fun _ => hb89)⟩) (show 1 - (w + 1) < 1 - w from by omega) _ _ ls G (lv_sub hl [0, 3, 4, 2, 5, 6, 7, 8, 9] rfl)
                      · have c_149n : x.toInt = (-1 : Int) := (fa_eq _ _).mp c_149
                        refine lv_iconst (v := (-1)) hx hb dX12_game_207 (by decide) ?_
                        refine lv_goto (tgt := 224) hx hb dX12_game_208 (by decide) ?_
                        have hnv9 : ((-1) : Int32).toInt = gRw (zWo f_all 610 j_inns_3) (zLo f_all 610) j_inns_3 c_ (aRs (zWo f_all 610 j_inns_3) (zPo f_all 610) 7) 3 true 0 w := by rw [hrs9, hle9.1 (by omega)]; rfl
                        refine z_ist C G 1 rfl (vp_in_nI (by omega) (by decide)) dX12_game_224 (fun H locs G => ?_)
                        rw [nI_clamp (by omega)] at G
                        have G : zS T A s.heap s [[zAr T 0 m_was 7 xwas], [zAr T 0 m_rowWorth 512 (upd xr0 w (-1))], [zAr T 0 m_all 3952 f_all], [zAr T 0 m_posts 7 xposts], [zAr T 0 m_shut 7 xshut], [zAr T 0 m_here 7 xhere], [zO11 mo m_all m_has i_size i_next i_where i_token i_number i_word i_wrong i_farCrossing m_read 610 j_crossings_2 j_inns_3 m_posts m_shut m_here xsteps xdone xat xgone m_was m_came m_seenAt m_rowWorth m_farBy m_used i_everywhere i_again0 i_d0 i_never i_firstCame i_longRun i_moved i_crowd i_l0 i_fitMany i_fitLeast i_fitMost m_fitPost m_fitEnd m_keptPosts i_x0]] _ _ := G
                        refine lv_iinc (v := nI (w + 1)) (lv' := [(8, .int (nI (w + 1))), (9, .int (nI i)), (6, .int x), (5, .int 1), (7, .int 0), (0, .ref mo), (1, .int l_), (2, .int c_), (3, .int 3), (4, .int f_)]) hx hb dX12_game_225 hl (k := 2) rfl (z_inc w 1) (by decide) (zLvf_h rfl) (fun ls hl => ?_)
                        refine lv_goto (tgt := 89) hx hb dX12_game_228 (by decide) ?_
                        exact ih_89 (w + 1) x (upd xr0 w (-1)) (show (w + 1) ≤ 1 ∧ (∀ p, p < (w + 1) → ((upd xr0 w (-1)) p).toInt = gRw (zWo f_all 610 j_inns_3) (zLo f_all 610) j_inns_3 c_ (aRs (zWo f_all 610 j_inns_3) (zPo f_all 610) 7) 3 true 0 p) ∧ (∀ p, (w + 1) ≤ p → (upd xr0 w (-1)) p = xr1 p) ∧ (0 < (w + 1) → x.toInt = gIx (gOp (zWo f_all 610 j_inns_3) (aRs (zWo f_all 610 j_inns_3) (zPo f_all 610) 7) 0 ((w + 1) - 1)) (gVp (zWo f_all 610 j_inns_3) (zLo f_all 610) j_inns_3 c_ (aRs (zWo f_all 610 j_inns_3) (zPo f_all 610) 7) 2 true 0 ((w + 1) - 1)) true 8) from ⟨by omega, (gUp hwr0 hnv9), (gUk hxF0), (fun _ => hb89)⟩) (show 1 - (w + 1) < 1 - w from by omega) _ _ ls G (lv_sub hl [0, 3, 4, 2, 5, 6, 7, 8, 9] rfl)
                    · have c_148n : ¬ 8 ≤ i := fun q => c_148 ((nI_leI (a := 8) (b := i) (by omega) (by omega)).mpr q)
                      refine lv_aload_n hx hb dX12_game_109 rfl (lv_at hl 5 rfl) ?_
                      refine z_get C G clX12 6 rfl 24 (by decide) m_fl_RX12_38 rfl dX12_game_110 ?_
                      refine lv_bipush (v := 8) hx hb dX12_game_113 (by decide) ?_
                      refine lv_iload hx hb dX12_game_115 (lv_at hl 2 rfl) ?_
                      refine lv_imul hx hb dX12_game_117 ?_
                      refine lv_topi (fun y_153 ey_153 => ?_)
                      obtain rfl : y_153 = nI (8 * w) := ey_153.trans (z_imuln 8 w rfl rfl)
                      refine lv_iload hx hb dX12_game_118 (lv_at hl 0 rfl) ?_
                      refine lv_iadd hx hb dX12_game_120 ?_
                      refine lv_topi (fun y_154 ey_154 => ?_)
                      obtain rfl : y_154 = nI ((8 * w) + i) := ey_154.trans (z_iaddn (8 * w) i rfl rfl)
                      refine z_ild C G 1 rfl (vp_in_nI (by omega) (by decide)) dX12_game_121 ?_
                      refine lv_topi (fun v_155 ev_155 => ?_)
                      rw [nI_clamp (by omega)] at ev_155
                      subst ev_155
                      have hv9 : (xr0 ((8 * w) + i)).toInt = if (gOp (zWo f_all 610 j_inns_3) (aRs (zWo f_all 610 j_inns_3) (zPo f_all 610) 7) 0 w) i = true then (gVp (zWo f_all 610 j_inns_3) (zLo f_all 610) j_inns_3 c_ (aRs (zWo f_all 610 j_inns_3) (zPo f_all 610) 7) 2 true 0 w) i else -1 := by rw [(show ((8 * w) + i) = 8 * w + i from by omega), hxF0 (8 * w + i) (by omega)]; exact (hF0 (8 * w + i) (by omega)).trans (gRw_c (by omega))
                      have hxk9 := gIx_ok (ok := (gOp (zWo f_all 610 j_inns_3) (aRs (zWo f_all 610 j_inns_3) (zPo f_all 610) 7) 0 w)) (v := (gVp (zWo f_all 610 j_inns_3) (zLo f_all 610) j_inns_3 c_ (aRs (zWo f_all 610 j_inns_3) (zPo f_all 610) 7) 2 true 0 w)) (mn := true) i
                      rw [← hxb] at hxk9
                      refine lv_istore (lv' := [(10, .int (xr0 ((8 * w) + i))), (9, .int (nI i)), (6, .int x), (8, .int (nI w)), (5, .int 1), (7, .int 0), (0, .ref mo), (1, .int l_), (2, .int c_), (3, .int 3), (4, .int f_)]) hx hb dX12_game_122 hl (by decide) (zLvf_h rfl) (fun ls hl => ?_)
                      refine lv_iload hx hb dX12_game_124 (lv_at hl 0 rfl) ?_
                      refine lv_iconst (v := (-1)) hx hb dX12_game_126 (by decide) ?_
                      refine lv_icmp_eq (tgt := 189) hx hb dX12_game_127 (by decide) (fun c_156 => ?_) (fun c_156 => ?_)
                      · have c_156n : (xr0 ((8 * w) + i)).toInt = (-1 : Int) := (fa_eq _ _).mp c_156
                        have hxn9 : x.toInt = gIx (gOp (zWo f_all 610 j_inns_3) (aRs (zWo f_all 610 j_inns_3) (zPo f_all 610) 7) 0 w) (gVp (zWo f_all 610 j_inns_3) (zLo f_all 610) j_inns_3 c_ (aRs (zWo f_all 610 j_inns_3) (zPo f_all 610) 7) 2 true 0 w) true (i + 1) := (gLx_n (fun c => gVp_0 c) hxb.symm hv9 (by first | exact Or.inl (by omega) | exact Or.inr ⟨by omega, by rw [if_pos rfl]; omega⟩)).symm
                        refine lv_iinc (v := nI (i + 1)) (lv' := [(9, .int (nI (i + 1))), (10, .int (xr0 ((8 * w) + i))), (6, .int x), (8, .int (nI w)), (5, .int 1), (7, .int 0), (0, .ref mo), (1, .int l_), (2, .int c_), (3, .int 3), (4, .int f_)]) hx hb dX12_game_189 hl (k := 1) rfl (z_inc i 1) (by decide) (zLvf_h rfl) (fun ls hl => ?_)
                        refine lv_goto (tgt := 102) hx hb dX12_game_192 (by decide) ?_
                        exact ih_102 (i + 1) x (show (i + 1) ≤ 8 ∧ x.toInt = gIx (gOp (zWo f_all 610 j_inns_3) (aRs (zWo f_all 610 j_inns_3) (zPo f_all 610) 7) 0 w) (gVp (zWo f_all 610 j_inns_3) (zLo f_all 610) j_inns_3 c_ (aRs (zWo f_all 610 j_inns_3) (zPo f_all 610) 7) 2 true 0 w) true (i + 1) from ⟨by omega, hxn9⟩) (show 8 - (i + 1) < 8 - i from by omega) _ _ ls G (lv_sub hl [0, 2, 3, 4, 5, 6, 7, 8, 9, 10] rfl)
                      · have c_156n : ¬ (xr0 ((8 * w) + i)).toInt = (-1 : Int) := fun q => c_156 ((fa_eq _ _).mpr q)
                        refine lv_iload hx hb dX12_game_130 (lv_at hl 2 rfl) ?_
                        refine lv_iconst (v := (-1)) hx hb dX12_game_132 (by decide) ?_
                        refine lv_icmp_eq (tgt := 185) hx hb dX12_game_133 (by decide) (fun c_157 => ?_) (fun c_157 => ?_)
                        · have c_157n : x.toInt = (-1 : Int) := (fa_eq _ _).mp c_157
                          refine lv_iload hx hb dX12_game_185 (lv_at hl 1 rfl) ?_
                          refine lv_istore (lv' := [(6, .int (nI i)), (10, .int (xr0 ((8 * w) + i))), (9, .int (nI i)), (8, .int (nI w)), (5, .int 1), (7, .int 0), (0, .ref mo), (1, .int l_), (2, .int c_), (3, .int 3), (4, .int f_)]) hx hb dX12_game_187 hl (by decide) (zLvf_h rfl) (fun ls hl => ?_)
                          have tii9 := nI_toInt (n := i) (by omega)
                          have hxn9 : (nI i).toInt = gIx (gOp (zWo f_all 610 j_inns_3) (aRs (zWo f_all 610 j_inns_3) (zPo f_all 610) 7) 0 w) (gVp (zWo f_all 610 j_inns_3) (zLo f_all 610) j_inns_3 c_ (aRs (zWo f_all 610 j_inns_3) (zPo f_all 610) 7) 2 true 0 w) true (i + 1) := tii9.trans (gLx_y hxb.symm hv9 (by omega) (by first | exact Or.inl (by omega) | exact Or.inr (by rw [if_pos rfl]; omega))).symm
                          refine lv_iinc (v := nI (i + 1)) (lv' := [(9, .int (nI (i + 1))), (6, .int (nI i)), (10, .int (xr0 ((8 * w) + i))), (8, .int (nI w)), (5, .int 1), (7, .int 0), (0, .ref mo), (1, .int l_), (2, .int c_), (3, .int 3), (4, .int f_)]) hx hb dX12_game_189 hl (k := 2) rfl (z_inc i 1) (by decide) (zLvf_h rfl) (fun ls hl => ?_)
                          refine lv_goto (tgt := 102) hx hb dX12_game_192 (by decide) ?_
                          exact ih_102 (i + 1) (nI i) (show (i + 1) ≤ 8 ∧ (nI i).toInt = gIx (gOp (zWo f_all 610 j_inns_3) (aRs (zWo f_all 610 j_inns_3) (zPo f_all 610) 7) 0 w) (gVp (zWo f_all 610 j_inns_3) (zLo f_all 610) j_inns_3 c_ (aRs (zWo f_all 610 j_inns_3) (zPo f_all 610) 7) 2 true 0 w) true (i + 1) from ⟨by omega, hxn9⟩) (show 8 - (i + 1) < 8 - i from by omega) _ _ ls G (lv_sub hl [0, 1, 3, 4, 5, 6, 7, 8, 9, 10] rfl)
                        · have c_157n : ¬ x.toInt = (-1 : Int) := fun q => c_157 ((fa_eq _ _).mpr q)
                          refine lv_iload hx hb dX12_game_136 (lv_at hl 5 rfl) ?_
                          refine lv_iconst (v := 2) hx hb dX12_game_138 (by decide) ?_
                          refine lv_irem hx hb dX12_game_139 (by decide) ?_
                          refine lv_topi (fun y_158 ey_158 => ?_)
                          obtain rfl : y_158 = 0 := ey_158.trans (by decide)
                          refine lv_if_ne (tgt := 164) hx hb dX12_game_140 (by decide) (fun q => absurd (by decide) q) (fun _ => ?_)
                          refine lv_iload hx hb dX12_game_143 (lv_at hl 0 rfl) ?_
                          refine lv_aload_n hx hb dX12_game_145 rfl (lv_at hl 6 rfl) ?_
                          refine z_get C G clX12 6 rfl 24 (by decide) m_fl_RX12_38 rfl dX12_game_146 ?_
                          refine lv_bipush (v := 8) hx hb dX12_game_149 (by decide) ?_
                          refine lv_iload hx hb dX12_game_151 (lv_at hl 3 rfl) ?_
                          refine lv_imul hx hb dX12_game_153 ?_
                          refine lv_topi (fun y_159 ey_159 => ?_)
                          obtain rfl : y_159 = nI (8 * w) := ey_159.trans (z_imuln 8 w rfl rfl)
                          refine lv_iload hx hb dX12_game_154 (lv_at hl 2 rfl) ?_
                          refine lv_iadd hx hb dX12_game_156 ?_
                          refine lv_topi (fun y_160 ey_160 => ?_)
                          have ey_160i : y_160.toInt = ((8 * w) : Int) + x.toInt := by rw [ey_160]; exact (z_iaddI (x := (nI (8 * w))) (y := x) (by rw [nI_toInt (n := 8 * w) (by omega)]; show -2147483648 ≤ ((8 * w) : Int) + x.toInt; omega) (by rw [nI_toInt (n := 8 * w) (by omega)]; show ((8 * w) : Int) + x.toInt < 2147483648; omega)).trans (by rw [nI_toInt (n := 8 * w) (by omega)] <;> rfl)
                          refine z_ild C G 1 rfl (vp_in_iff.mpr ⟨by omega, by omega⟩) dX12_game_157 ?_
                          refine lv_topi (fun v_161 ev_161 => ?_)
                          subst ev_161
                          have hxy9 := hxk9.resolve_left (by first | omega | (intro q9; omega))
                          have hw9 : (xr0 y_160.toNatClampNeg).toInt = (gVp (zWo f_all 610 j_inns_3) (zLo f_all 610) j_inns_3 c_ (aRs (zWo f_all 610 j_inns_3) (zPo f_all 610) 7) 2 true 0 w) x.toInt.toNat := by rw [(show y_160.toNatClampNeg = 8 * w + x.toInt.toNat from by have q4 := z_clI (x := y_160) (by omega); omega), hxF0 (8 * w + x.toInt.toNat) (by omega)]; exact ((hF0 (8 * w + x.toInt.toNat) (by omega)).trans (gRw_c (by omega))).trans (if_pos hxy9.2.2)
                          refine lv_icmp_lt (tgt := 185) hx hb dX12_game_158 (by decide) (fun c_162 => ?_) (fun c_162 => ?_)
                          · have c_162n : (xr0 ((8 * w) + i)).toInt < (xr0 y_160.toNatClampNeg).toInt := (fa_lt _ _).mp c_162
                            refine lv_iload hx hb dX12_game_185 (lv_at hl 1 rfl) ?_
                            refine lv_istore (lv' := [(6, .int (nI i)), (10, .int (xr0 ((8 * w) + i))), (9, .int (nI i)), (8, .int (nI w)), (5, .int 1), (7, .int 0), (0, .ref mo), (1, .int l_), (2, .int c_), (3, .int 3), (4, .int f_)]) hx hb dX12_game_187 hl (by decide) (zLvf_h rfl) (fun ls hl => ?_)
                            have tii9 := nI_toInt (n := i) (by omega)
                            have hxn9 : (nI i).toInt = gIx (gOp (zWo f_all 610 j_inns_3) (aRs (zWo f_all 610 j_inns_3) (zPo f_all 610) 7) 0 w) (gVp (zWo f_all 610 j_inns_3) (zLo f_all 610) j_inns_3 c_ (aRs (zWo f_all 610 j_inns_3) (zPo f_all 610) 7) 2 true 0 w) true (i + 1) := tii9.trans (gLx_y hxb.symm hv9 (by omega) (by first | exact Or.inl (by omega) | exact Or.inr (by rw [if_pos rfl]; omega))).symm
                            refine lv_iinc (v := nI (i + 1)) (lv' := [(9, .int (nI (i + 1))), (6, .int (nI i)), (10, .int (xr0 ((8 * w) + i))), (8, .int (nI w)), (5, .int 1), (7, .int 0), (0, .ref mo), (1, .int l_), (2, .int c_), (3, .int 3), (4, .int f_)]) hx hb dX12_game_189 hl (k := 2) rfl (z_inc i 1) (by decide) (zLvf_h rfl) (fun ls hl => ?_)
                            refine lv_goto (tgt := 102) hx hb dX12_game_192 (by decide) ?_
                            exact ih_102 (i + 1) (nI i) (show (i + 1) ≤ 8 ∧ (nI i).toInt = gIx (gOp (zWo f_all 610 j_inns_3) (aRs (zWo f_all 610 j_inns_3) (zPo f_all 610) 7) 0 w) (gVp (zWo f_all 610 j_inns_3) (zLo f_all 610) j_inns_3 c_ (aRs (zWo f_all 610 j_inns_3) (zPo f_all 610) 7) 2 true 0 w) true (i + 1) from ⟨by omega, hxn9⟩) (show 8 - (i + 1) < 8 - i from by omega) _ _ ls G (lv_sub hl [0, 1, 3, 4, 5, 6, 7, 8, 9, 10] rfl)
                          · have c_162n : ¬ (xr0 ((8 * w) + i)).toInt < (xr0 y_160.toNatClampNeg).toInt := fun q => c_162 ((fa_lt _ _).mpr q)
                            refine lv_goto (tgt := 189) hx hb dX12_game_161 (by decide) ?_
                            have hxn9 : x.toInt = gIx (gOp (zWo f_all 610 j_inns_3) (aRs (zWo f_all 610 j_inns_3) (zPo f_all 610) 7) 0 w) (gVp (zWo f_all 610 j_inns_3) (zLo f_all 610) j_inns_3 c_ (aRs (zWo f_all 610 j_inns_3) (zPo f_all 610) 7) 2 true 0 w) true (i + 1) := (gLx_n (fun c => gVp_0 c) hxb.symm hv9 (by first | exact Or.inl (by omega) | exact Or.inr ⟨by omega, by rw [if_pos rfl]; omega⟩)).symm
                            refine lv_iinc (v := nI (i + 1)) (lv' := [(9, .int (nI (i + 1))), (10, .int (xr0 ((8 * w) + i))), (6, .int x), (8, .int (nI w)), (5, .int 1), (7, .int 0), (0, .ref mo), (1, .int l_), (2, .int c_), (3, .int 3), (4, .int f_)]) hx hb dX12_game_189 hl (k := 1) rfl (z_inc i 1) (by decide) (zLvf_h rfl) (fun ls hl => ?_)
                            refine lv_goto (tgt := 102) hx hb dX12_game_192 (by decide) ?_
                            exact ih_102 (i + 1) x (show (i + 1) ≤ 8 ∧ x.toInt = gIx (gOp (zWo f_all 610 j_inns_3) (aRs (zWo f_all 610 j_inns_3) (zPo f_all 610) 7) 0 w) (gVp (zWo f_all 610 j_inns_3) (zLo f_all 610) j_inns_3 c_ (aRs (zWo f_all 610 j_inns_3) (zPo f_all 610) 7) 2 true 0 w) true (i + 1) from ⟨by omega, hxn9⟩) (show 8 - (i + 1) < 8 - i from by omega) _ _ ls G (lv_sub hl [0, 2, 3, 4, 5, 6, 7, 8, 9, 10] rfl)
                · have c_143n : ¬ 8 ≤ w := fun q => c_143 ((nI_leI (a := 8) (b := w) (by omega) (by omega)).mpr q)
                  refine lv_iconst (v := (-1)) hx hb dX12_game_96 (by decide) ?_
                  refine lv_istore (lv' := [(6, .int (-1)), (8, .int (nI w)), (5, .int 8), (7, .int 1), (0, .ref mo), (1, .int l_), (2, .int c_), (3, .int 3), (4, .int f_)]) hx hb dX12_game_97 hl (by decide) (zLvf_h rfl) (fun ls hl => ?_)
                  refine lv_iconst (v := 0) hx hb dX12_game_99 (by decide) ?_
                  refine lv_istore (lv' := [(9, .int 0), (6, .int (-1)), (8, .int (nI w)), (5, .int 8), (7, .int 1), (0, .ref mo), (1, .int l_), (2, .int c_), (3, .int 3), (4, .int f_)]) hx hb dX12_game_100 hl (by decide) (zLvf_h rfl) (fun ls hl => ?_)
                  refine z_lp2 (T := T) 102 (fun (i : Nat) (x : Int32) => [[zAr T 0 m_was 7 xwas], [zAr T 0 m_rowWorth 512 xr1], [zAr T 0 m_all 3952 f_all], [zAr T 0 m_posts 7 xposts], [zAr T 0 m_shut 7 xshut], [zAr T 0 m_here 7 xhere], [zO11 mo m_all m_has i_size i_next i_where i_token i_number i_word i_wrong i_farCrossing m_read 610 j_crossings_2 j_inns_3 m_posts m_shut m_here xsteps xdone xat xgone m_was m_came m_seenAt m_rowWorth m_farBy m_used i_everywhere i_again0 i_d0 i_never i_firstCame i_longRun i_moved i_crowd i_l0 i_fitMany i_fitLeast i_fitMost m_fitPost m_fitEnd m_keptPosts i_x0]]) (fun (i : Nat) (x : Int32) => [(9, .int (nI i)), (6, .int x), (8, .int (nI w)), (5, .int 8), (7, .int 1), (0, .ref mo), (1, .int l_), (2, .int c_), (3, .int 3), (4, .int f_)]) (fun (i : Nat) (x : Int32) => i ≤ 8 ∧ x.toInt = gIx (gOp (zWo f_all 610 j_inns_3) (aRs (zWo f_all 610 j_inns_3) (zPo f_all 610) 7) 1 w) (gVp (zWo f_all 610 j_inns_3) (zLo f_all 610) j_inns_3 c_ (aRs (zWo f_all 610 j_inns_3) (zPo f_all 610) 7) 1 false 1 w) false i) (fun (i : Nat) (x : Int32) => 8 - i) ?_ 0 (-1) (show 0 ≤ 8 ∧ ((-1) : Int32).toInt = gIx (gOp (zWo f_all 610 j_inns_3) (aRs (zWo f_all 610 j_inns_3) (zPo f_all 610) 7) 1 w) (gVp (zWo f_all 610 j_inns_3) (zLo f_all 610) j_inns_3 c_ (aRs (zWo f_all 610 j_inns_3) (zPo f_all 610) 7) 1 false 1 w) false 0 from ⟨by omega, rfl⟩) G (lv_sub hl [0, 1, 2, 3, 4, 5, 6, 7, 8, 9] rfl)
                  intro i x hI9 ih_102 H locs ls G hl
                  replace hI9 : i ≤ 8 ∧ x.toInt = gIx (gOp (zWo f_all 610 j_inns_3) (aRs (zWo f_all 610 j_inns_3) (zPo f_all 610) 7) 1 w) (gVp (zWo f_all 610 j_inns_3) (zLo f_all 610) j_inns_3 c_ (aRs (zWo f_all 610 j_inns_3) (zPo f_all 610) 7) 1 false 1 w) false i := hI9
                  refine zAn2 hI9 ?_
                  intro hi hxb
                  clear hI9
                  replace G : zS T A s.heap s [[zAr T 0 m_was 7 xwas], [zAr T 0 m_rowWorth 512 xr1], [zAr T 0 m_all 3952 f_all], [zAr T 0 m_posts 7 xposts], [zAr T 0 m_shut 7 xshut], [zAr T 0 m_here 7 xhere], [zO11 mo m_all m_has i_size i_next i_where i_token i_number i_word i_wrong i_farCrossing m_read 610 j_crossings_2 j_inns_3 m_posts m_shut m_here xsteps xdone xat xgone m_was m_came m_seenAt m_rowWorth m_farBy m_used i_everywhere i_again0 i_d0 i_never i_firstCame i_longRun i_moved i_crowd i_l0 i_fitMany i_fitLeast i_fitMost m_fitPost m_fitEnd m_keptPosts i_x0]] _ _ := G
                  replace hl : lv_has ls 11 [(9, .int (nI i)), (6, .int x), (8, .int (nI w)), (5, .int 8), (7, .int 1), (0, .ref mo), (1, .int l_), (2, .int c_), (3, .int 3), (4, .int f_)] := hl
                  refine lv_iload hx hb dX12_game_102 (lv_at hl 0 rfl) ?_
                  refine lv_bipush (v := 8) hx hb dX12_game_104 (by decide) ?_
                  refine lv_icmp_ge (tgt := 195) hx hb dX12_game_106 (by decide) (fun c_163 => ?_) (fun c_163 => ?_)
                  · have c_163n : 8 ≤ i := (nI_leI (a := 8) (b := i) (by omega) (by omega)).mp c_163
                    have hb89 : x.toInt = gIx (gOp (zWo f_all 610 j_inns_3) (aRs (zWo f_all 610 j_inns_3) (zPo f_all 610) 7) 1 w) (gVp (zWo f_all 610 j_inns_3) (zLo f_all 610) j_inns_3 c_ (aRs (zWo f_all 610 j_inns_3) (zPo f_all 610) 7) 1 false 1 w) false 8 := by rw [hxb, show i = 8 by omega]
                    have hle9 := gLx_e (fun c => gVp_0 c) hb89.symm
                    have hrs9 := gRw_s (W := (zWo f_all 610 j_inns_3)) (L := (zLo f_all 610)) (inn := j_inns_3) (x := c_) (t0 := (aRs (zWo f_all 610 j_inns_3) (zPo f_all 610) 7)) (m := 1) (mn := false) (k := 1) (p := w)
                    have hxk9 := gIx_ok (ok := (gOp (zWo f_all 610 j_inns_3) (aRs (zWo f_all 610 j_inns_3) (zPo f_all 610) 7) 1 w)) (v := (gVp (zWo f_all 610 j_inns_3) (zLo f_all 610) j_inns_3 c_ (aRs (zWo f_all 610 j_inns_3) (zPo f_all 610) 7) 1 false 1 w)) (mn := false) 8
                    rw [← hb89] at hxk9
                    refine lv_aload_n hx hb dX12_game_195 rfl (lv_at hl 5 rfl) ?_
                    refine z_get C G clX12 6 rfl 24 (by decide) m_fl_RX12_38 rfl dX12_game_196 ?_
                    refine lv_iload hx hb dX12_game_199 (lv_at hl 2 rfl) ?_
                    refine lv_iload hx hb dX12_game_201 (lv_at hl 1 rfl) ?_
                    refine lv_iconst (v := (-1)) hx hb dX12_game_203 (by decide) ?_
                    refine lv_icmp_ne (tgt := 211) hx hb dX12_game_204 (by decide) (fun c_164 => ?_) (fun c_164 => ?_)
                    · have c_164n : ¬ x.toInt = (-1 : Int) := fun q => c_164 ((fa_eq _ _).mpr q)
                      refine lv_aload_n hx hb dX12_game_211 rfl (lv_at hl 5 rfl) ?_
                      refine z_get C G clX12 6 rfl 24 (by decide) m_fl_RX12_38 rfl dX12_game_212 ?_
                      refine lv_bipush (v := 8) hx hb dX12_game_215 (by decide) ?_
                      refine lv_iload hx hb dX12_game_217 (lv_at hl 2 rfl) ?_
                      refine lv_imul hx hb dX12_game_219 ?_
                      refine lv_topi (fun y_165 ey_165 => ?_)
                      obtain rfl : y_165 = nI (8 * w) := ey_165.trans (z_imuln 8 w rfl rfl)
                      refine lv_iload hx hb dX12_game_220 (lv_at hl 1 rfl) ?_
                      refine lv_iadd hx hb dX12_game_222 ?_
                      refine lv_topi (fun y_166 ey_166 => ?_)
                      have ey_166i : y_166.toInt = ((8 * w) : Int) + x.toInt := by rw [ey_166]; exact (z_iaddI (x := (nI (8 * w))) (y := x) (by rw [nI_toInt (n := 8 * w) (by omega)]; show -2147483648 ≤ ((8 * w) : Int) + x.toInt; omega) (by rw [nI_toInt (n := 8 * w) (by omega)]; show ((8 * w) : Int) + x.toInt < 2147483648; omega)).trans (by rw [nI_toInt (n := 8 * w) (by omega)] <;> rfl)
                      refine z_ild C G 1 rfl (vp_in_iff.mpr ⟨by omega, by omega⟩) dX12_game_223 ?_
                      refine lv_topi (fun v_167 ev_167 => ?_)
                      subst ev_167
                      have hxy9 := hxk9.resolve_left (by first | omega | (intro q9; omega))
                      have hw9 : (xr1 y_166.toNatClampNeg).toInt = (gVp (zWo f_all 610 j_inns_3) (zLo f_all 610) j_inns_3 c_ (aRs (zWo f_all 610 j_inns_3) (zPo f_all 610) 7) 1 false 1 w) x.toInt.toNat := by rw [(show y_166.toNatClampNeg = 8 * w + x.toInt.toNat from by have q4 := z_clI (x := y_166) (by omega); omega), hxF1 (8 * w + x.toInt.toNat) (by omega)]; exact ((hF1 (8 * w + x.toInt.toNat) (by omega)).trans (gRw_c (by omega))).trans (if_pos hxy9.2.2)
                      have hnv9 : (xr1 y_166.toNatClampNeg).toInt = gRw (zWo f_all 610 j_inns_3) (zLo f_all 610) j_inns_3 c_ (aRs (zWo f_all 610 j_inns_3) (zPo f_all 610) 7) 2 false 1 w := by rw [hrs9, hle9.2 (by omega)]; exact hw9
                      refine z_ist C G 1 rfl (vp_in_nI (by omega) (by decide)) dX12_game_224 (fun H locs G => ?_)
                      rw [nI_clamp (by omega)] at G
                      have G : zS T A s.heap s [[zAr T 0 m_was 7 xwas], [zAr T 0 m_rowWorth 512 (upd xr1 w (xr1 y_166.toNatClampNeg))], [zAr T 0 m_all 3952 f_all], [zAr T 0 m_posts 7 xposts], [zAr T 0 m_shut 7 xshut], [zAr T 0 m_here 7 xhere], [zO11 mo m_all m_has i_size i_next i_where i_token i_number i_word i_wrong i_farCrossing m_read 610 j_crossings_2 j_inns_3 m_posts m_shut m_here xsteps xdone xat xgone m_was m_came m_seenAt m_rowWorth m_farBy m_used i_everywhere i_again0 i_d0 i_never i_firstCame i_longRun i_moved i_crowd i_l0 i_fitMany i_fitLeast i_fitMost m_fitPost m_fitEnd m_keptPosts i_x0]] _ _ := G
                      refine lv_iinc (v := nI (w + 1)) (lv' := [(8, .int (nI (w + 1))), (9, .int (nI i)), (6, .int x), (5, .int 8), (7, .int 1), (0, .ref mo), (1, .int l_), (2, .int c_), (3, .int 3), (4, .int f_)]) hx hb dX12_game_225 hl (k := 2) rfl (z_inc w 1) (by decide) (zLvf_h rfl) (fun ls hl => ?_)
                      refine lv_goto (tgt := 89) hx hb dX12_game_228 (by decide) ?_
                      exact ih_89 (w + 1) x (upd xr1 w (xr1 y_166.toNatClampNeg)) (show (w + 1) ≤ 8 ∧ (∀ p, p < (w + 1) → ((upd xr1 w (xr1 y_166.toNatClampNeg)) p).toInt = gRw (zWo f_all 610 j_inns_3) (zLo f_all 610) j_inns_3 c_ (aRs (zWo f_all 610 j_inns_3) (zPo f_all 610) 7) 2 false 1 p) ∧ (∀ p, (w + 1) ≤ p → (upd xr1 w (xr1 y_166.toNatClampNeg)) p = xr2 p) ∧ (0 < (w + 1) → x.toInt = gIx (gOp (zWo f_all 610 j_inns_3) (aRs (zWo f_all 610 j_inns_3) (zPo f_all 610) 7) 1 ((w + 1) - 1)) (gVp (zWo f_all 610 j_inns_3) (zLo f_all 610) j_inns_3 c_ (aRs (zWo f_all 610 j_inns_3) (zPo f_all 610) 7) 1 false 1 ((w + 1) - 1)) false 8) from ⟨by omega, (gUp hwr1 hnv9), (gUk hxF1), (fun _ => hb89)⟩) (show 8 - (w + 1) < 8 - w from by omega) _ _ ls G (lv_sub hl [0, 3, 4, 2, 5, 6, 7, 8, 9] rfl)
                    · have c_164n : x.toInt = (-1 : Int) := (fa_eq _ _).mp c_164
                      refine lv_iconst (v := (-1)) hx hb dX12_game_207 (by decide) ?_
                      refine lv_goto (tgt := 224) hx hb dX12_game_208 (by decide) ?_
                      have hnv9 : ((-1) : Int32).toInt = gRw (zWo f_all 610 j_inns_3) (zLo f_all 610) j_inns_3 c_ (aRs (zWo f_all 610 j_inns_3) (zPo f_all 610) 7) 2 false 1 w := by rw [hrs9, hle9.1 (by omega)]; rfl
                      refine z_ist C G 1 rfl (vp_in_nI (by omega) (by decide)) dX12_game_224 (fun H locs G => ?_)
                      rw [nI_clamp (by omega)] at G
                      have G : zS T A s.heap s [[zAr T 0 m_was 7 xwas], [zAr T 0 m_rowWorth 512 (upd xr1 w (-1))], [zAr T 0 m_all 3952 f_all], [zAr T 0 m_posts 7 xposts], [zAr T 0 m_shut 7 xshut], [zAr T 0 m_here 7 xhere], [zO11 mo m_all m_has i_size i_next i_where i_token i_number i_word i_wrong i_farCrossing m_read 610 j_crossings_2 j_inns_3 m_posts m_shut m_here xsteps xdone xat xgone m_was m_came m_seenAt m_rowWorth m_farBy m_used i_everywhere i_again0 i_d0 i_never i_firstCame i_longRun i_moved i_crowd i_l0 i_fitMany i_fitLeast i_fitMost m_fitPost m_fitEnd m_keptPosts i_x0]] _ _ := G
                      refine lv_iinc (v := nI (w + 1)) (lv' := [(8, .int (nI (w + 1))), (9, .int (nI i)), (6, .int x), (5, .int 8), (7, .int 1), (0, .ref mo), (1, .int l_), (2, .int c_), (3, .int 3), (4, .int f_)]) hx hb dX12_game_225 hl (k := 2) rfl (z_inc w 1) (by decide) (zLvf_h rfl) (fun ls hl => ?_)
                      refine lv_goto (tgt := 89) hx hb dX12_game_228 (by decide) ?_
                      exact ih_89 (w + 1) x (upd xr1 w (-1)) (show (w + 1) ≤ 8 ∧ (∀ p, p < (w + 1) → ((upd xr1 w (-1)) p).toInt = gRw (zWo f_all 610 j_inns_3) (zLo f_all 610) j_inns_3 c_ (aRs (zWo f_all 610 j_inns_3) (zPo f_all 610) 7) 2 false 1 p) ∧ (∀ p, (w + 1) ≤ p → (upd xr1 w (-1)) p = xr2 p) ∧ (0 < (w + 1) → x.toInt = gIx (gOp (zWo f_all 610 j_inns_3) (aRs (zWo f_all 610 j_inns_3) (zPo f_all 610) 7) 1 ((w + 1) - 1)) (gVp (zWo f_all 610 j_inns_3) (zLo f_all 610) j_inns_3 c_ (aRs (zWo f_all 610 j_inns_3) (zPo f_all 610) 7) 1 false 1 ((w + 1) - 1)) false 8) from ⟨by omega, (gUp hwr1 hnv9), (gUk hxF1), (fun _ => hb89)⟩) (show 8 - (w + 1) < 8 - w from by omega) _ _ ls G (lv_sub hl [0, 3, 4, 2, 5, 6, 7, 8, 9] rfl)
                  · have c_163n : ¬ 8 ≤ i := fun q => c_163 ((nI_leI (a := 8) (b := i) (by omega) (by omega)).mpr q)
                    refine lv_aload_n hx hb dX12_game_109 rfl (lv_at hl 5 rfl) ?_
                    refine z_get C G clX12 6 rfl 24 (by decide) m_fl_RX12_38 rfl dX12_game_110 ?_
                    refine lv_bipush (v := 8) hx hb dX12_game_113 (by decide) ?_
                    refine lv_iload hx hb dX12_game_115 (lv_at hl 2 rfl) ?_
                    refine lv_imul hx hb dX12_game_117 ?_
                    refine lv_topi (fun y_168 ey_168 => ?_)
                    obtain rfl : y_168 = nI (8 * w) := ey_168.trans (z_imuln 8 w rfl rfl)
                    refine lv_iload hx hb dX12_game_118 (lv_at hl 0 rfl) ?_
                    refine lv_iadd hx hb dX12_game_120 ?_
                    refine lv_topi (fun y_169 ey_169 => ?_)
                    obtain rfl : y_169 = nI ((8 * w) + i) := ey_169.trans (z_iaddn (8 * w) i rfl rfl)
                    refine z_ild C G 1 rfl (vp_in_nI (by omega) (by decide)) dX12_game_121 ?_
                    refine lv_topi (fun v_170 ev_170 => ?_)
                    rw [nI_clamp (by omega)] at ev_170
                    subst ev_170
                    have hv9 : (xr1 ((8 * w) + i)).toInt = if (gOp (zWo f_all 610 j_inns_3) (aRs (zWo f_all 610 j_inns_3) (zPo f_all 610) 7) 1 w) i = true then (gVp (zWo f_all 610 j_inns_3) (zLo f_all 610) j_inns_3 c_ (aRs (zWo f_all 610 j_inns_3) (zPo f_all 610) 7) 1 false 1 w) i else -1 := by rw [(show ((8 * w) + i) = 8 * w + i from by omega), hxF1 (8 * w + i) (by omega)]; exact (hF1 (8 * w + i) (by omega)).trans (gRw_c (by omega))
                    have hxk9 := gIx_ok (ok := (gOp (zWo f_all 610 j_inns_3) (aRs (zWo f_all 610 j_inns_3) (zPo f_all 610) 7) 1 w)) (v := (gVp (zWo f_all 610 j_inns_3) (zLo f_all 610) j_inns_3 c_ (aRs (zWo f_all 610 j_inns_3) (zPo f_all 610) 7) 1 false 1 w)) (mn := false) i
                    rw [← hxb] at hxk9
                    refine lv_istore (lv' := [(10, .int (xr1 ((8 * w) + i))), (9, .int (nI i)), (6, .int x), (8, .int (nI w)), (5, .int 8), (7, .int 1), (0, .ref mo), (1, .int l_), (2, .int c_), (3, .int 3), (4, .int f_)]) hx hb dX12_game_122 hl (by decide) (zLvf_h rfl) (fun ls hl => ?_)
                    refine lv_iload hx hb dX12_game_124 (lv_at hl 0 rfl) ?_
                    refine lv_iconst (v := (-1)) hx hb dX12_game_126 (by decide) ?_
                    refine lv_icmp_eq (tgt := 189) hx hb dX12_game_127 (by decide) (fun c_171 => ?_) (fun c_171 => ?_)
                    · have c_171n : (xr1 ((8 * w) + i)).toInt = (-1 : Int) := (fa_eq _ _).mp c_171
                      have hxn9 : x.toInt = gIx (gOp (zWo f_all 610 j_inns_3) (aRs (zWo f_all 610 j_inns_3) (zPo f_all 610) 7) 1 w) (gVp (zWo f_all 610 j_inns_3) (zLo f_all 610) j_inns_3 c_ (aRs (zWo f_all 610 j_inns_3) (zPo f_all 610) 7) 1 false 1 w) false (i + 1) := (gLx_n (fun c => gVp_0 c) hxb.symm hv9 (by first | exact Or.inl (by omega) | exact Or.inr ⟨by omega, by rw [if_neg (by decide)]; omega⟩)).symm
                      refine lv_iinc (v := nI (i + 1)) (lv' := [(9, .int (nI (i + 1))), (10, .int (xr1 ((8 * w) + i))), (6, .int x), (8, .int (nI w)), (5, .int 8), (7, .int 1), (0, .ref mo), (1, .int l_), (2, .int c_), (3, .int 3), (4, .int f_)]) hx hb dX12_game_189 hl (k := 1) rfl (z_inc i 1) (by decide) (zLvf_h rfl) (fun ls hl => ?_)
                      refine lv_goto (tgt := 102) hx hb dX12_game_192 (by decide) ?_
                      exact ih_102 (i + 1) x (show (i + 1) ≤ 8 ∧ x.toInt = gIx (gOp (zWo f_all 610 j_inns_3) (aRs (zWo f_all 610 j_inns_3) (zPo f_all 610) 7) 1 w) (gVp (zWo f_all 610 j_inns_3) (zLo f_all 610) j_inns_3 c_ (aRs (zWo f_all 610 j_inns_3) (zPo f_all 610) 7) 1 false 1 w) false (i + 1) from ⟨by omega, hxn9⟩) (show 8 - (i + 1) < 8 - i from by omega) _ _ ls G (lv_sub hl [0, 2, 3, 4, 5, 6, 7, 8, 9, 10] rfl)
                    · have c_171n : ¬ (xr1 ((8 * w) + i)).toInt = (-1 : Int) := fun q => c_171 ((fa_eq _ _).mpr q)
                      refine lv_iload hx hb dX12_game_130 (lv_at hl 2 rfl) ?_
                      refine lv_iconst (v := (-1)) hx hb dX12_game_132 (by decide) ?_
                      refine lv_icmp_eq (tgt := 185) hx hb dX12_game_133 (by decide) (fun c_172 => ?_) (fun c_172 => ?_)
                      · have c_172n : x.toInt = (-1 : Int) := (fa_eq _ _).mp c_172
                        refine lv_iload hx hb dX12_game_185 (lv_at hl 1 rfl) ?_
                        refine lv_istore (lv' := [(6, .int (nI i)), (10, .int (xr1 ((8 * w) + i))), (9, .int (nI i)), (8, .int (nI w)), (5, .int 8), (7, .int 1), (0, .ref mo), (1, .int l_), (2, .int c_), (3, .int 3), (4, .int f_)]) hx hb dX12_game_187 hl (by decide) (zLvf_h rfl) (fun ls hl => ?_)
                        have tii9 := nI_toInt (n := i) (by omega)
                        have hxn9 : (nI i).toInt = gIx (gOp (zWo f_all 610 j_inns_3) (aRs (zWo f_all 610 j_inns_3) (zPo f_all 610) 7) 1 w) (gVp (zWo f_all 610 j_inns_3) (zLo f_all 610) j_inns_3 c_ (aRs (zWo f_all 610 j_inns_3) (zPo f_all 610) 7) 1 false 1 w) false (i + 1) := tii9.trans (gLx_y hxb.symm hv9 (by omega) (by first | exact Or.inl (by omega) | exact Or.inr (by rw [if_neg (by decide)]; omega))).symm
                        refine lv_iinc (v := nI (i + 1)) (lv' := [(9, .int (nI (i + 1))), (6, .int (nI i)), (10, .int (xr1 ((8 * w) + i))), (8, .int (nI w)), (5, .int 8), (7, .int 1), (0, .ref mo), (1, .int l_), (2, .int c_), (3, .int 3), (4, .int f_)]) hx hb dX12_game_189 hl (k := 2) rfl (z_inc i 1) (by decide) (zLvf_h rfl) (fun ls hl => ?_)
                        refine lv_goto (tgt := 102) hx hb dX12_game_192 (by decide) ?_
                        exact ih_102 (i + 1) (nI i) (show (i + 1) ≤ 8 ∧ (nI i).toInt = gIx (gOp (zWo f_all 610 j_inns_3) (aRs (zWo f_all 610 j_inns_3) (zPo f_all 610) 7) 1 w) (gVp (zWo f_all 610 j_inns_3) (zLo f_all 610) j_inns_3 c_ (aRs (zWo f_all 610 j_inns_3) (zPo f_all 610) 7) 1 false 1 w) false (i + 1) from ⟨by omega, hxn9⟩) (show 8 - (i + 1) < 8 - i from by omega) _ _ ls G (lv_sub hl [0, 1, 3, 4, 5, 6, 7, 8, 9, 10] rfl)
                      · have c_172n : ¬ x.toInt = (-1 : Int) := fun q => c_172 ((fa_eq _ _).mpr q)
                        refine lv_iload hx hb dX12_game_136 (lv_at hl 5 rfl) ?_
                        refine lv_iconst (v := 2) hx hb dX12_game_138 (by decide) ?_
                        refine lv_irem hx hb dX12_game_139 (by decide) ?_
                        refine lv_topi (fun y_173 ey_173 => ?_)
                        obtain rfl : y_173 = 1 := ey_173.trans (by decide)
                        refine lv_if_ne (tgt := 164) hx hb dX12_game_140 (by decide) (fun _ => ?_) (fun q => absurd q (by decide))
                        refine lv_iload hx hb dX12_game_164 (lv_at hl 0 rfl) ?_
                        refine lv_aload_n hx hb dX12_game_166 rfl (lv_at hl 6 rfl) ?_
                        refine z_get C G clX12 6 rfl 24 (by decide) m_fl_RX12_38 rfl dX12_game_167 ?_
                        refine lv_bipush (v := 8) hx hb dX12_game_170 (by decide) ?_
                        refine lv_iload hx hb dX12_game_172 (lv_at hl 3 rfl) ?_
                        refine lv_imul hx hb dX12_game_174 ?_
                        refine lv_topi (fun y_174 ey_174 => ?_)
                        obtain rfl : y_174 = nI (8 * w) := ey_174.trans (z_imuln 8 w rfl rfl)
                        refine lv_iload hx hb dX12_game_175 (lv_at hl 2 rfl) ?_
                        refine lv_iadd hx hb dX12_game_177 ?_
                        refine lv_topi (fun y_175 ey_175 => ?_)
                        have ey_175i : y_175.toInt = ((8 * w) : Int) + x.toInt := by rw [ey_175]; exact (z_iaddI (x := (nI (8 * w))) (y := x) (by rw [nI_toInt (n := 8 * w) (by omega)]; show -2147483648 ≤ ((8 * w) : Int) + x.toInt; omega) (by rw [nI_toInt (n := 8 * w) (by omega)]; show ((8 * w) : Int) + x.toInt < 2147483648; omega)).trans (by rw [nI_toInt (n := 8 * w) (by omega)] <;> rfl)
                        refine z_ild C G 1 rfl (vp_in_iff.mpr ⟨by omega, by omega⟩) dX12_game_178 ?_
                        refine lv_topi (fun v_176 ev_176 => ?_)
                        subst ev_176
                        have hxy9 := hxk9.resolve_left (by first | omega | (intro q9; omega))
                        have hw9 : (xr1 y_175.toNatClampNeg).toInt = (gVp (zWo f_all 610 j_inns_3) (zLo f_all 610) j_inns_3 c_ (aRs (zWo f_all 610 j_inns_3) (zPo f_all 610) 7) 1 false 1 w) x.toInt.toNat := by rw [(show y_175.toNatClampNeg = 8 * w + x.toInt.toNat from by have q4 := z_clI (x := y_175) (by omega); omega), hxF1 (8 * w + x.toInt.toNat) (by omega)]; exact ((hF1 (8 * w + x.toInt.toNat) (by omega)).trans (gRw_c (by omega))).trans (if_pos hxy9.2.2)
                        refine lv_icmp_gt (tgt := 185) hx hb dX12_game_179 (by decide) (fun c_177 => ?_) (fun c_177 => ?_)
                        · have c_177n : (xr1 y_175.toNatClampNeg).toInt < (xr1 ((8 * w) + i)).toInt := (fa_lt _ _).mp c_177
                          refine lv_iload hx hb dX12_game_185 (lv_at hl 1 rfl) ?_
                          refine lv_istore (lv' := [(6, .int (nI i)), (10, .int (xr1 ((8 * w) + i))), (9, .int (nI i)), (8, .int (nI w)), (5, .int 8), (7, .int 1), (0, .ref mo), (1, .int l_), (2, .int c_), (3, .int 3), (4, .int f_)]) hx hb dX12_game_187 hl (by decide) (zLvf_h rfl) (fun ls hl => ?_)
                          have tii9 := nI_toInt (n := i) (by omega)
                          have hxn9 : (nI i).toInt = gIx (gOp (zWo f_all 610 j_inns_3) (aRs (zWo f_all 610 j_inns_3) (zPo f_all 610) 7) 1 w) (gVp (zWo f_all 610 j_inns_3) (zLo f_all 610) j_inns_3 c_ (aRs (zWo f_all 610 j_inns_3) (zPo f_all 610) 7) 1 false 1 w) false (i + 1) := tii9.trans (gLx_y hxb.symm hv9 (by omega) (by first | exact Or.inl (by omega) | exact Or.inr (by rw [if_neg (by decide)]; omega))).symm
                          refine lv_iinc (v := nI (i + 1)) (lv' := [(9, .int (nI (i + 1))), (6, .int (nI i)), (10, .int (xr1 ((8 * w) + i))), (8, .int (nI w)), (5, .int 8), (7, .int 1), (0, .ref mo), (1, .int l_), (2, .int c_), (3, .int 3), (4, .int f_)]) hx hb dX12_game_189 hl (k := 2) rfl (z_inc i 1) (by decide) (zLvf_h rfl) (fun ls hl => ?_)
                          refine lv_goto (tgt := 102) hx hb dX12_game_192 (by decide) ?_
                          exact ih_102 (i + 1) (nI i) (show (i + 1) ≤ 8 ∧ (nI i).toInt = gIx (gOp (zWo f_all 610 j_inns_3) (aRs (zWo f_all 610 j_inns_3) (zPo f_all 610) 7) 1 w) (gVp (zWo f_all 610 j_inns_3) (zLo f_all 610) j_inns_3 c_ (aRs (zWo f_all 610 j_inns_3) (zPo f_all 610) 7) 1 false 1 w) false (i + 1) from ⟨by omega, hxn9⟩) (show 8 - (i + 1) < 8 - i from by omega) _ _ ls G (lv_sub hl [0, 1, 3, 4, 5, 6, 7, 8, 9, 10] rfl)
                        · have c_177n : ¬ (xr1 y_175.toNatClampNeg).toInt < (xr1 ((8 * w) + i)).toInt := fun q => c_177 ((fa_lt _ _).mpr q)
                          refine lv_goto (tgt := 189) hx hb dX12_game_182 (by decide) ?_
                          have hxn9 : x.toInt = gIx (gOp (zWo f_all 610 j_inns_3) (aRs (zWo f_all 610 j_inns_3) (zPo f_all 610) 7) 1 w) (gVp (zWo f_all 610 j_inns_3) (zLo f_all 610) j_inns_3 c_ (aRs (zWo f_all 610 j_inns_3) (zPo f_all 610) 7) 1 false 1 w) false (i + 1) := (gLx_n (fun c => gVp_0 c) hxb.symm hv9 (by first | exact Or.inl (by omega) | exact Or.inr ⟨by omega, by rw [if_neg (by decide)]; omega⟩)).symm
                          refine lv_iinc (v := nI (i + 1)) (lv' := [(9, .int (nI (i + 1))), (10, .int (xr1 ((8 * w) + i))), (6, .int x), (8, .int (nI w)), (5, .int 8), (7, .int 1), (0, .ref mo), (1, .int l_), (2, .int c_), (3, .int 3), (4, .int f_)]) hx hb dX12_game_189 hl (k := 1) rfl (z_inc i 1) (by decide) (zLvf_h rfl) (fun ls hl => ?_)
                          refine lv_goto (tgt := 102) hx hb dX12_game_192 (by decide) ?_
                          exact ih_102 (i + 1) x (show (i + 1) ≤ 8 ∧ x.toInt = gIx (gOp (zWo f_all 610 j_inns_3) (aRs (zWo f_all 610 j_inns_3) (zPo f_all 610) 7) 1 w) (gVp (zWo f_all 610 j_inns_3) (zLo f_all 610) j_inns_3 c_ (aRs (zWo f_all 610 j_inns_3) (zPo f_all 610) 7) 1 false 1 w) false (i + 1) from ⟨by omega, hxn9⟩) (show 8 - (i + 1) < 8 - i from by omega) _ _ ls G (lv_sub hl [0, 2, 3, 4, 5, 6, 7, 8, 9, 10] rfl)
              · have c_141n : ¬ 64 ≤ w := fun q => c_141 ((nI_leI (a := 64) (b := w) (by omega) (by omega)).mpr q)
                refine lv_iconst (v := (-1)) hx hb dX12_game_96 (by decide) ?_
                refine lv_istore (lv' := [(6, .int (-1)), (8, .int (nI w)), (5, .int 64), (7, .int 2), (0, .ref mo), (1, .int l_), (2, .int c_), (3, .int 3), (4, .int f_)]) hx hb dX12_game_97 hl (by decide) (zLvf_h rfl) (fun ls hl => ?_)
                refine lv_iconst (v := 0) hx hb dX12_game_99 (by decide) ?_
                refine lv_istore (lv' := [(9, .int 0), (6, .int (-1)), (8, .int (nI w)), (5, .int 64), (7, .int 2), (0, .ref mo), (1, .int l_), (2, .int c_), (3, .int 3), (4, .int f_)]) hx hb dX12_game_100 hl (by decide) (zLvf_h rfl) (fun ls hl => ?_)
                refine z_lp2 (T := T) 102 (fun (i : Nat) (x : Int32) => [[zAr T 0 m_was 7 xwas], [zAr T 0 m_rowWorth 512 xr2], [zAr T 0 m_all 3952 f_all], [zAr T 0 m_posts 7 xposts], [zAr T 0 m_shut 7 xshut], [zAr T 0 m_here 7 xhere], [zO11 mo m_all m_has i_size i_next i_where i_token i_number i_word i_wrong i_farCrossing m_read 610 j_crossings_2 j_inns_3 m_posts m_shut m_here xsteps xdone xat xgone m_was m_came m_seenAt m_rowWorth m_farBy m_used i_everywhere i_again0 i_d0 i_never i_firstCame i_longRun i_moved i_crowd i_l0 i_fitMany i_fitLeast i_fitMost m_fitPost m_fitEnd m_keptPosts i_x0]]) (fun (i : Nat) (x : Int32) => [(9, .int (nI i)), (6, .int x), (8, .int (nI w)), (5, .int 64), (7, .int 2), (0, .ref mo), (1, .int l_), (2, .int c_), (3, .int 3), (4, .int f_)]) (fun (i : Nat) (x : Int32) => i ≤ 8 ∧ x.toInt = gIx (gOp (zWo f_all 610 j_inns_3) (aRs (zWo f_all 610 j_inns_3) (zPo f_all 610) 7) 2 w) (gVp (zWo f_all 610 j_inns_3) (zLo f_all 610) j_inns_3 c_ (aRs (zWo f_all 610 j_inns_3) (zPo f_all 610) 7) 0 true 2 w) true i) (fun (i : Nat) (x : Int32) => 8 - i) ?_ 0 (-1) (show 0 ≤ 8 ∧ ((-1) : Int32).toInt = gIx (gOp (zWo f_all 610 j_inns_3) (aRs (zWo f_all 610 j_inns_3) (zPo f_all 610) 7) 2 w) (gVp (zWo f_all 610 j_inns_3) (zLo f_all 610) j_inns_3 c_ (aRs (zWo f_all 610 j_inns_3) (zPo f_all 610) 7) 0 true 2 w) true 0 from ⟨by omega, rfl⟩) G (lv_sub hl [0, 1, 2, 3, 4, 5, 6, 7, 8, 9] rfl)
                intro i x hI9 ih_102 H locs ls G hl
                replace hI9 : i ≤ 8 ∧ x.toInt = gIx (gOp (zWo f_all 610 j_inns_3) (aRs (zWo f_all 610 j_inns_3) (zPo f_all 610) 7) 2 w) (gVp (zWo f_all 610 j_inns_3) (zLo f_all 610) j_inns_3 c_ (aRs (zWo f_all 610 j_inns_3) (zPo f_all 610) 7) 0 true 2 w) true i := hI9
                refine zAn2 hI9 ?_
                intro hi hxb
                clear hI9
                replace G : zS T A s.heap s [[zAr T 0 m_was 7 xwas], [zAr T 0 m_rowWorth 512 xr2], [zAr T 0 m_all 3952 f_all], [zAr T 0 m_posts 7 xposts], [zAr T 0 m_shut 7 xshut], [zAr T 0 m_here 7 xhere], [zO11 mo m_all m_has i_size i_next i_where i_token i_number i_word i_wrong i_farCrossing m_read 610 j_crossings_2 j_inns_3 m_posts m_shut m_here xsteps xdone xat xgone m_was m_came m_seenAt m_rowWorth m_farBy m_used i_everywhere i_again0 i_d0 i_never i_firstCame i_longRun i_moved i_crowd i_l0 i_fitMany i_fitLeast i_fitMost m_fitPost m_fitEnd m_keptPosts i_x0]] _ _ := G
                replace hl : lv_has ls 11 [(9, .int (nI i)), (6, .int x), (8, .int (nI w)), (5, .int 64), (7, .int 2), (0, .ref mo), (1, .int l_), (2, .int c_), (3, .int 3), (4, .int f_)] := hl
                refine lv_iload hx hb dX12_game_102 (lv_at hl 0 rfl) ?_
                refine lv_bipush (v := 8) hx hb dX12_game_104 (by decide) ?_
                refine lv_icmp_ge (tgt := 195) hx hb dX12_game_106 (by decide) (fun c_178 => ?_) (fun c_178 => ?_)
                · have c_178n : 8 ≤ i := (nI_leI (a := 8) (b := i) (by omega) (by omega)).mp c_178
                  have hb89 : x.toInt = gIx (gOp (zWo f_all 610 j_inns_3) (aRs (zWo f_all 610 j_inns_3) (zPo f_all 610) 7) 2 w) (gVp (zWo f_all 610 j_inns_3) (zLo f_all 610) j_inns_3 c_ (aRs (zWo f_all 610 j_inns_3) (zPo f_all 610) 7) 0 true 2 w) true 8 := by rw [hxb, show i = 8 by omega]
                  have hle9 := gLx_e (fun c => gVp_0 c) hb89.symm
                  have hrs9 := gRw_s (W := (zWo f_all 610 j_inns_3)) (L := (zLo f_all 610)) (inn := j_inns_3) (x := c_) (t0 := (aRs (zWo f_all 610 j_inns_3) (zPo f_all 610) 7)) (m := 0) (mn := true) (k := 2) (p := w)
                  have hxk9 := gIx_ok (ok := (gOp (zWo f_all 610 j_inns_3) (aRs (zWo f_all 610 j_inns_3) (zPo f_all 610) 7) 2 w)) (v := (gVp (zWo f_all 610 j_inns_3) (zLo f_all 610) j_inns_3 c_ (aRs (zWo f_all 610 j_inns_3) (zPo f_all 610) 7) 0 true 2 w)) (mn := true) 8
                  rw [← hb89] at hxk9
                  refine lv_aload_n hx hb dX12_game_195 rfl (lv_at hl 5 rfl) ?_
                  refine z_get C G clX12 6 rfl 24 (by decide) m_fl_RX12_38 rfl dX12_game_196 ?_
                  refine lv_iload hx hb dX12_game_199 (lv_at hl 2 rfl) ?_
                  refine lv_iload hx hb dX12_game_201 (lv_at hl 1 rfl) ?_
                  refine lv_iconst (v := (-1)) hx hb dX12_game_203 (by decide) ?_
                  refine lv_icmp_ne (tgt := 211) hx hb dX12_game_204 (by decide) (fun c_179 => ?_) (fun c_179 => ?_)
                  · have c_179n : ¬ x.toInt = (-1 : Int) := fun q => c_179 ((fa_eq _ _).mpr q)
                    refine lv_aload_n hx hb dX12_game_211 rfl (lv_at hl 5 rfl) ?_
                    refine z_get C G clX12 6 rfl 24 (by decide) m_fl_RX12_38 rfl dX12_game_212 ?_
                    refine lv_bipush (v := 8) hx hb dX12_game_215 (by decide) ?_
                    refine lv_iload hx hb dX12_game_217 (lv_at hl 2 rfl) ?_
                    refine lv_imul hx hb dX12_game_219 ?_
                    refine lv_topi (fun y_180 ey_180 => ?_)
                    obtain rfl : y_180 = nI (8 * w) := ey_180.trans (z_imuln 8 w rfl rfl)
                    refine lv_iload hx hb dX12_game_220 (lv_at hl 1 rfl) ?_
                    refine lv_iadd hx hb dX12_game_222 ?_
                    refine lv_topi (fun y_181 ey_181 => ?_)
                    have ey_181i : y_181.toInt = ((8 * w) : Int) + x.toInt := by rw [ey_181]; exact (z_iaddI (x := (nI (8 * w))) (y := x) (by rw [nI_toInt (n := 8 * w) (by omega)]; show -2147483648 ≤ ((8 * w) : Int) + x.toInt; omega) (by rw [nI_toInt (n := 8 * w) (by omega)]; show ((8 * w) : Int) + x.toInt < 2147483648; omega)).trans (by rw [nI_toInt (n := 8 * w) (by omega)] <;> rfl)
                    refine z_ild C G 1 rfl (vp_in_iff.mpr ⟨by omega, by omega⟩) dX12_game_223 ?_
                    refine lv_topi (fun v_182 ev_182 => ?_)
                    subst ev_182
                    have hxy9 := hxk9.resolve_left (by first | omega | (intro q9; omega))
                    have hw9 : (xr2 y_181.toNatClampNeg).toInt = (gVp (zWo f_all 610 j_inns_3) (zLo f_all 610) j_inns_3 c_ (aRs (zWo f_all 610 j_inns_3) (zPo f_all 610) 7) 0 true 2 w) x.toInt.toNat := by rw [(show y_181.toNatClampNeg = 8 * w + x.toInt.toNat from by have q4 := z_clI (x := y_181) (by omega); omega), hxF2 (8 * w + x.toInt.toNat) (by omega)]; exact ((hF2 (8 * w + x.toInt.toNat) (by omega)).trans (gRw_c (by omega))).trans (if_pos hxy9.2.2)
                    have hnv9 : (xr2 y_181.toNatClampNeg).toInt = gRw (zWo f_all 610 j_inns_3) (zLo f_all 610) j_inns_3 c_ (aRs (zWo f_all 610 j_inns_3) (zPo f_all 610) 7) 1 true 2 w := by rw [hrs9, hle9.2 (by omega)]; exact hw9
                    refine z_ist C G 1 rfl (vp_in_nI (by omega) (by decide)) dX12_game_224 (fun H locs G => ?_)
                    rw [nI_clamp (by omega)] at G
                    have G : zS T A s.heap s [[zAr T 0 m_was 7 xwas], [zAr T 0 m_rowWorth 512 (upd xr2 w (xr2 y_181.toNatClampNeg))], [zAr T 0 m_all 3952 f_all], [zAr T 0 m_posts 7 xposts], [zAr T 0 m_shut 7 xshut], [zAr T 0 m_here 7 xhere], [zO11 mo m_all m_has i_size i_next i_where i_token i_number i_word i_wrong i_farCrossing m_read 610 j_crossings_2 j_inns_3 m_posts m_shut m_here xsteps xdone xat xgone m_was m_came m_seenAt m_rowWorth m_farBy m_used i_everywhere i_again0 i_d0 i_never i_firstCame i_longRun i_moved i_crowd i_l0 i_fitMany i_fitLeast i_fitMost m_fitPost m_fitEnd m_keptPosts i_x0]] _ _ := G
                    refine lv_iinc (v := nI (w + 1)) (lv' := [(8, .int (nI (w + 1))), (9, .int (nI i)), (6, .int x), (5, .int 64), (7, .int 2), (0, .ref mo), (1, .int l_), (2, .int c_), (3, .int 3), (4, .int f_)]) hx hb dX12_game_225 hl (k := 2) rfl (z_inc w 1) (by decide) (zLvf_h rfl) (fun ls hl => ?_)
                    refine lv_goto (tgt := 89) hx hb dX12_game_228 (by decide) ?_
                    exact ih_89 (w + 1) x (upd xr2 w (xr2 y_181.toNatClampNeg)) (show (w + 1) ≤ 64 ∧ (∀ p, p < (w + 1) → ((upd xr2 w (xr2 y_181.toNatClampNeg)) p).toInt = gRw (zWo f_all 610 j_inns_3) (zLo f_all 610) j_inns_3 c_ (aRs (zWo f_all 610 j_inns_3) (zPo f_all 610) 7) 1 true 2 p) ∧ (∀ p, (w + 1) ≤ p → (upd xr2 w (xr2 y_181.toNatClampNeg)) p = xrowWorth p) ∧ (0 < (w + 1) → x.toInt = gIx (gOp (zWo f_all 610 j_inns_3) (aRs (zWo f_all 610 j_inns_3) (zPo f_all 610) 7) 2 ((w + 1) - 1)) (gVp (zWo f_all 610 j_inns_3) (zLo f_all 610) j_inns_3 c_ (aRs (zWo f_all 610 j_inns_3) (zPo f_all 610) 7) 0 true 2 ((w + 1) - 1)) true 8) from ⟨by omega, (gUp hwr2 hnv9), (gUk hxF2), (fun _ => hb89)⟩) (show 64 - (w + 1) < 64 - w from by omega) _ _ ls G (lv_sub hl [0, 3, 4, 2, 5, 6, 7, 8, 9] rfl)
                  · have c_179n : x.toInt = (-1 : Int) := (fa_eq _ _).mp c_179
                    refine lv_iconst (v := (-1)) hx hb dX12_game_207 (by decide) ?_
                    refine lv_goto (tgt := 224) hx hb dX12_game_208 (by decide) ?_
                    have hnv9 : ((-1) : Int32).toInt = gRw (zWo f_all 610 j_inns_3) (zLo f_all 610) j_inns_3 c_ (aRs (zWo f_all 610 j_inns_3) (zPo f_all 610) 7) 1 true 2 w := by rw [hrs9, hle9.1 (by omega)]; rfl
                    refine z_ist C G 1 rfl (vp_in_nI (by omega) (by decide)) dX12_game_224 (fun H locs G => ?_)
                    rw [nI_clamp (by omega)] at G
                    have G : zS T A s.heap s [[zAr T 0 m_was 7 xwas], [zAr T 0 m_rowWorth 512 (upd xr2 w (-1))], [zAr T 0 m_all 3952 f_all], [zAr T 0 m_posts 7 xposts], [zAr T 0 m_shut 7 xshut], [zAr T 0 m_here 7 xhere], [zO11 mo m_all m_has i_size i_next i_where i_token i_number i_word i_wrong i_farCrossing m_read 610 j_crossings_2 j_inns_3 m_posts m_shut m_here xsteps xdone xat xgone m_was m_came m_seenAt m_rowWorth m_farBy m_used i_everywhere i_again0 i_d0 i_never i_firstCame i_longRun i_moved i_crowd i_l0 i_fitMany i_fitLeast i_fitMost m_fitPost m_fitEnd m_keptPosts i_x0]] _ _ := G
                    refine lv_iinc (v := nI (w + 1)) (lv' := [(8, .int (nI (w + 1))), (9, .int (nI i)), (6, .int x), (5, .int 64), (7, .int 2), (0, .ref mo), (1, .int l_), (2, .int c_), (3, .int 3), (4, .int f_)]) hx hb dX12_game_225 hl (k := 2) rfl (z_inc w 1) (by decide) (zLvf_h rfl) (fun ls hl => ?_)
                    refine lv_goto (tgt := 89) hx hb dX12_game_228 (by decide) ?_
                    exact ih_89 (w + 1) x (upd xr2 w (-1)) (show (w + 1) ≤ 64 ∧ (∀ p, p < (w + 1) → ((upd xr2 w (-1)) p).toInt = gRw (zWo f_all 610 j_inns_3) (zLo f_all 610) j_inns_3 c_ (aRs (zWo f_all 610 j_inns_3) (zPo f_all 610) 7) 1 true 2 p) ∧ (∀ p, (w + 1) ≤ p → (upd xr2 w (-1)) p = xrowWorth p) ∧ (0 < (w + 1) → x.toInt = gIx (gOp (zWo f_all 610 j_inns_3) (aRs (zWo f_all 610 j_inns_3) (zPo f_all 610) 7) 2 ((w + 1) - 1)) (gVp (zWo f_all 610 j_inns_3) (zLo f_all 610) j_inns_3 c_ (aRs (zWo f_all 610 j_inns_3) (zPo f_all 610) 7) 0 true 2 ((w + 1) - 1)) true 8) from ⟨by omega, (gUp hwr2 hnv9), (gUk hxF2), (fun _ => hb89)⟩) (show 64 - (w + 1) < 64 - w from by omega) _ _ ls G (lv_sub hl [0, 3, 4, 2, 5, 6, 7, 8, 9] rfl)
                · have c_178n : ¬ 8 ≤ i := fun q => c_178 ((nI_leI (a := 8) (b := i) (by omega) (by omega)).mpr q)
                  refine lv_aload_n hx hb dX12_game_109 rfl (lv_at hl 5 rfl) ?_
                  refine z_get C G clX12 6 rfl 24 (by decide) m_fl_RX12_38 rfl dX12_game_110 ?_
                  refine lv_bipush (v := 8) hx hb dX12_game_113 (by decide) ?_
                  refine lv_iload hx hb dX12_game_115 (lv_at hl 2 rfl) ?_
                  refine lv_imul hx hb dX12_game_117 ?_
                  refine lv_topi (fun y_183 ey_183 => ?_)
                  obtain rfl : y_183 = nI (8 * w) := ey_183.trans (z_imuln 8 w rfl rfl)
                  refine lv_iload hx hb dX12_game_118 (lv_at hl 0 rfl) ?_
                  refine lv_iadd hx hb dX12_game_120 ?_
                  refine lv_topi (fun y_184 ey_184 => ?_)
                  obtain rfl : y_184 = nI ((8 * w) + i) := ey_184.trans (z_iaddn (8 * w) i rfl rfl)
                  refine z_ild C G 1 rfl (vp_in_nI (by omega) (by decide)) dX12_game_121 ?_
                  refine lv_topi (fun v_185 ev_185 => ?_)
                  rw [nI_clamp (by omega)] at ev_185
                  subst ev_185
                  have hv9 : (xr2 ((8 * w) + i)).toInt = if (gOp (zWo f_all 610 j_inns_3) (aRs (zWo f_all 610 j_inns_3) (zPo f_all 610) 7) 2 w) i = true then (gVp (zWo f_all 610 j_inns_3) (zLo f_all 610) j_inns_3 c_ (aRs (zWo f_all 610 j_inns_3) (zPo f_all 610) 7) 0 true 2 w) i else -1 := by rw [(show ((8 * w) + i) = 8 * w + i from by omega), hxF2 (8 * w + i) (by omega)]; exact (hF2 (8 * w + i) (by omega)).trans (gRw_c (by omega))
                  have hxk9 := gIx_ok (ok := (gOp (zWo f_all 610 j_inns_3) (aRs (zWo f_all 610 j_inns_3) (zPo f_all 610) 7) 2 w)) (v := (gVp (zWo f_all 610 j_inns_3) (zLo f_all 610) j_inns_3 c_ (aRs (zWo f_all 610 j_inns_3) (zPo f_all 610) 7) 0 true 2 w)) (mn := true) i
                  rw [← hxb] at hxk9
                  refine lv_istore (lv' := [(10, .int (xr2 ((8 * w) + i))), (9, .int (nI i)), (6, .int x), (8, .int (nI w)), (5, .int 64), (7, .int 2), (0, .ref mo), (1, .int l_), (2, .int c_), (3, .int 3), (4, .int f_)]) hx hb dX12_game_122 hl (by decide) (zLvf_h rfl) (fun ls hl => ?_)
                  refine lv_iload hx hb dX12_game_124 (lv_at hl 0 rfl) ?_
                  refine lv_iconst (v := (-1)) hx hb dX12_game_126 (by decide) ?_
                  refine lv_icmp_eq (tgt := 189) hx hb dX12_game_127 (by decide) (fun c_186 => ?_) (fun c_186 => ?_)
                  · have c_186n : (xr2 ((8 * w) + i)).toInt = (-1 : Int) := (fa_eq _ _).mp c_186
                    have hxn9 : x.toInt = gIx (gOp (zWo f_all 610 j_inns_3) (aRs (zWo f_all 610 j_inns_3) (zPo f_all 610) 7) 2 w) (gVp (zWo f_all 610 j_inns_3) (zLo f_all 610) j_inns_3 c_ (aRs (zWo f_all 610 j_inns_3) (zPo f_all 610) 7) 0 true 2 w) true (i + 1) := (gLx_n (fun c => gVp_0 c) hxb.symm hv9 (by first | exact Or.inl (by omega) | exact Or.inr ⟨by omega, by rw [if_pos rfl]; omega⟩)).symm
                    refine lv_iinc (v := nI (i + 1)) (lv' := [(9, .int (nI (i + 1))), (10, .int (xr2 ((8 * w) + i))), (6, .int x), (8, .int (nI w)), (5, .int 64), (7, .int 2), (0, .ref mo), (1, .int l_), (2, .int c_), (3, .int 3), (4, .int f_)]) hx hb dX12_game_189 hl (k := 1) rfl (z_inc i 1) (by decide) (zLvf_h rfl) (fun ls hl => ?_)
                    refine lv_goto (tgt := 102) hx hb dX12_game_192 (by decide) ?_
                    exact ih_102 (i + 1) x (show (i + 1) ≤ 8 ∧ x.toInt = gIx (gOp (zWo f_all 610 j_inns_3) (aRs (zWo f_all 610 j_inns_3) (zPo f_all 610) 7) 2 w) (gVp (zWo f_all 610 j_inns_3) (zLo f_all 610) j_inns_3 c_ (aRs (zWo f_all 610 j_inns_3) (zPo f_all 610) 7) 0 true 2 w) true (i + 1) from ⟨by omega, hxn9⟩) (show 8 - (i + 1) < 8 - i from by omega) _ _ ls G (lv_sub hl [0, 2, 3, 4, 5, 6, 7, 8, 9, 10] rfl)
                  · have c_186n : ¬ (xr2 ((8 * w) + i)).toInt = (-1 : Int) := fun q => c_186 ((fa_eq _ _).mpr q)
                    refine lv_iload hx hb dX12_game_130 (lv_at hl 2 rfl) ?_
                    refine lv_iconst (v := (-1)) hx hb dX12_game_132 (by decide) ?_
                    refine lv_icmp_eq (tgt := 185) hx hb dX12_game_133 (by decide) (fun c_187 => ?_) (fun c_187 => ?_)
                    · have c_187n : x.toInt = (-1 : Int) := (fa_eq _ _).mp c_187
                      refine lv_iload hx hb dX12_game_185 (lv_at hl 1 rfl) ?_
                      refine lv_istore (lv' := [(6, .int (nI i)), (10, .int (xr2 ((8 * w) + i))), (9, .int (nI i)), (8, .int (nI w)), (5, .int 64), (7, .int 2), (0, .ref mo), (1, .int l_), (2, .int c_), (3, .int 3), (4, .int f_)]) hx hb dX12_game_187 hl (by decide) (zLvf_h rfl) (fun ls hl => ?_)
                      have tii9 := nI_toInt (n := i) (by omega)
                      have hxn9 : (nI i).toInt = gIx (gOp (zWo f_all 610 j_inns_3) (aRs (zWo f_all 610 j_inns_3) (zPo f_all 610) 7) 2 w) (gVp (zWo f_all 610 j_inns_3) (zLo f_all 610) j_inns_3 c_ (aRs (zWo f_all 610 j_inns_3) (zPo f_all 610) 7) 0 true 2 w) true (i + 1) := tii9.trans (gLx_y hxb.symm hv9 (by omega) (by first | exact Or.inl (by omega) | exact Or.inr (by rw [if_pos rfl]; omega))).symm
                      refine lv_iinc (v := nI (i + 1)) (lv' := [(9, .int (nI (i + 1))), (6, .int (nI i)), (10, .int (xr2 ((8 * w) + i))), (8, .int (nI w)), (5, .int 64), (7, .int 2), (0, .ref mo), (1, .int l_), (2, .int c_), (3, .int 3), (4, .int f_)]) hx hb dX12_game_189 hl (k := 2) rfl (z_inc i 1) (by decide) (zLvf_h rfl) (fun ls hl => ?_)
                      refine lv_goto (tgt := 102) hx hb dX12_game_192 (by decide) ?_
                      exact ih_102 (i + 1) (nI i) (show (i + 1) ≤ 8 ∧ (nI i).toInt = gIx (gOp (zWo f_all 610 j_inns_3) (aRs (zWo f_all 610 j_inns_3) (zPo f_all 610) 7) 2 w) (gVp (zWo f_all 610 j_inns_3) (zLo f_all 610) j_inns_3 c_ (aRs (zWo f_all 610 j_inns_3) (zPo f_all 610) 7) 0 true 2 w) true (i + 1) from ⟨by omega, hxn9⟩) (show 8 - (i + 1) < 8 - i from by omega) _ _ ls G (lv_sub hl [0, 1, 3, 4, 5, 6, 7, 8, 9, 10] rfl)
                    · have c_187n : ¬ x.toInt = (-1 : Int) := fun q => c_187 ((fa_eq _ _).mpr q)
                      refine lv_iload hx hb dX12_game_136 (lv_at hl 5 rfl) ?_
                      refine lv_iconst (v := 2) hx hb dX12_game_138 (by decide) ?_
                      refine lv_irem hx hb dX12_game_139 (by decide) ?_
                      refine lv_topi (fun y_188 ey_188 => ?_)
                      obtain rfl : y_188 = 0 := ey_188.trans (by decide)
                      refine lv_if_ne (tgt := 164) hx hb dX12_game_140 (by decide) (fun q => absurd (by decide) q) (fun _ => ?_)
                      refine lv_iload hx hb dX12_game_143 (lv_at hl 0 rfl) ?_
                      refine lv_aload_n hx hb dX12_game_145 rfl (lv_at hl 6 rfl) ?_
                      refine z_get C G clX12 6 rfl 24 (by decide) m_fl_RX12_38 rfl dX12_game_146 ?_
                      refine lv_bipush (v := 8) hx hb dX12_game_149 (by decide) ?_
                      refine lv_iload hx hb dX12_game_151 (lv_at hl 3 rfl) ?_
                      refine lv_imul hx hb dX12_game_153 ?_
                      refine lv_topi (fun y_189 ey_189 => ?_)
                      obtain rfl : y_189 = nI (8 * w) := ey_189.trans (z_imuln 8 w rfl rfl)
                      refine lv_iload hx hb dX12_game_154 (lv_at hl 2 rfl) ?_
                      refine lv_iadd hx hb dX12_game_156 ?_
                      refine lv_topi (fun y_190 ey_190 => ?_)
                      have ey_190i : y_190.toInt = ((8 * w) : Int) + x.toInt := by rw [ey_190]; exact (z_iaddI (x := (nI (8 * w))) (y := x) (by rw [nI_toInt (n := 8 * w) (by omega)]; show -2147483648 ≤ ((8 * w) : Int) + x.toInt; omega) (by rw [nI_toInt (n := 8 * w) (by omega)]; show ((8 * w) : Int) + x.toInt < 2147483648; omega)).trans (by rw [nI_toInt (n := 8 * w) (by omega)] <;> rfl)
                      refine z_ild C G 1 rfl (vp_in_iff.mpr ⟨by omega, by omega⟩) dX12_game_157 ?_
                      refine lv_topi (fun v_191 ev_191 => ?_)
                      subst ev_191
                      have hxy9 := hxk9.resolve_left (by first | omega | (intro q9; omega))
                      have hw9 : (xr2 y_190.toNatClampNeg).toInt = (gVp (zWo f_all 610 j_inns_3) (zLo f_all 610) j_inns_3 c_ (aRs (zWo f_all 610 j_inns_3) (zPo f_all 610) 7) 0 true 2 w) x.toInt.toNat := by rw [(show y_190.toNatClampNeg = 8 * w + x.toInt.toNat from by have q4 := z_clI (x := y_190) (by omega); omega), hxF2 (8 * w + x.toInt.toNat) (by omega)]; exact ((hF2 (8 * w + x.toInt.toNat) (by omega)).trans (gRw_c (by omega))).trans (if_pos hxy9.2.2)
                      refine lv_icmp_lt (tgt := 185) hx hb dX12_game_158 (by decide) (fun c_192 => ?_) (fun c_192 => ?_)
                      · have c_192n : (xr2 ((8 * w) + i)).toInt < (xr2 y_190.toNatClampNeg).toInt := (fa_lt _ _).mp c_192
                        refine lv_iload hx hb dX12_game_185 (lv_at hl 1 rfl) ?_
                        refine lv_istore (lv' := [(6, .int (nI i)), (10, .int (xr2 ((8 * w) + i))), (9, .int (nI i)), (8, .int (nI w)), (5, .int 64), (7, .int 2), (0, .ref mo), (1, .int l_), (2, .int c_), (3, .int 3), (4, .int f_)]) hx hb dX12_game_187 hl (by decide) (zLvf_h rfl) (fun ls hl => ?_)
                        have tii9 := nI_toInt (n := i) (by omega)
                        have hxn9 : (nI i).toInt = gIx (gOp (zWo f_all 610 j_inns_3) (aRs (zWo f_all 610 j_inns_3) (zPo f_all 610) 7) 2 w) (gVp (zWo f_all 610 j_inns_3) (zLo f_all 610) j_inns_3 c_ (aRs (zWo f_all 610 j_inns_3) (zPo f_all 610) 7) 0 true 2 w) true (i + 1) := tii9.trans (gLx_y hxb.symm hv9 (by omega) (by first | exact Or.inl (by omega) | exact Or.inr (by rw [if_pos rfl]; omega))).symm
                        refine lv_iinc (v := nI (i + 1)) (lv' := [(9, .int (nI (i + 1))), (6, .int (nI i)), (10, .int (xr2 ((8 * w) + i))), (8, .int (nI w)), (5, .int 64), (7, .int 2), (0, .ref mo), (1, .int l_), (2, .int c_), (3, .int 3), (4, .int f_)]) hx hb dX12_game_189 hl (k := 2) rfl (z_inc i 1) (by decide) (zLvf_h rfl) (fun ls hl => ?_)
                        refine lv_goto (tgt := 102) hx hb dX12_game_192 (by decide) ?_
                        exact ih_102 (i + 1) (nI i) (show (i + 1) ≤ 8 ∧ (nI i).toInt = gIx (gOp (zWo f_all 610 j_inns_3) (aRs (zWo f_all 610 j_inns_3) (zPo f_all 610) 7) 2 w) (gVp (zWo f_all 610 j_inns_3) (zLo f_all 610) j_inns_3 c_ (aRs (zWo f_all 610 j_inns_3) (zPo f_all 610) 7) 0 true 2 w) true (i + 1) from ⟨by omega, hxn9⟩) (show 8 - (i + 1) < 8 - i from by omega) _ _ ls G (lv_sub hl [0, 1, 3, 4, 5, 6, 7, 8, 9, 10] rfl)
                      · have c_192n : ¬ (xr2 ((8 * w) + i)).toInt < (xr2 y_190.toNatClampNeg).toInt := fun q => c_192 ((fa_lt _ _).mpr q)
                        refine lv_goto (tgt := 189) hx hb dX12_game_161 (by decide) ?_
                        have hxn9 : x.toInt = gIx (gOp (zWo f_all 610 j_inns_3) (aRs (zWo f_all 610 j_inns_3) (zPo f_all 610) 7) 2 w) (gVp (zWo f_all 610 j_inns_3) (zLo f_all 610) j_inns_3 c_ (aRs (zWo f_all 610 j_inns_3) (zPo f_all 610) 7) 0 true 2 w) true (i + 1) := (gLx_n (fun c => gVp_0 c) hxb.symm hv9 (by first | exact Or.inl (by omega) | exact Or.inr ⟨by omega, by rw [if_pos rfl]; omega⟩)).symm
                        refine lv_iinc (v := nI (i + 1)) (lv' := [(9, .int (nI (i + 1))), (10, .int (xr2 ((8 * w) + i))), (6, .int x), (8, .int (nI w)), (5, .int 64), (7, .int 2), (0, .ref mo), (1, .int l_), (2, .int c_), (3, .int 3), (4, .int f_)]) hx hb dX12_game_189 hl (k := 1) rfl (z_inc i 1) (by decide) (zLvf_h rfl) (fun ls hl => ?_)
                        refine lv_goto (tgt := 102) hx hb dX12_game_192 (by decide) ?_
                        exact ih_102 (i + 1) x (show (i + 1) ≤ 8 ∧ x.toInt = gIx (gOp (zWo f_all 610 j_inns_3) (aRs (zWo f_all 610 j_inns_3) (zPo f_all 610) 7) 2 w) (gVp (zWo f_all 610 j_inns_3) (zLo f_all 610) j_inns_3 c_ (aRs (zWo f_all 610 j_inns_3) (zPo f_all 610) 7) 0 true 2 w) true (i + 1) from ⟨by omega, hxn9⟩) (show 8 - (i + 1) < 8 - i from by omega) _ _ ls G (lv_sub hl [0, 2, 3, 4, 5, 6, 7, 8, 9, 10] rfl)
            · have c_138n : ¬ 512 ≤ w := fun q => c_138 ((nI_leI (a := 512) (b := w) (by omega) (by omega)).mpr q)
              refine lv_aload_n hx hb dX12_game_45 rfl (lv_at hl 2 rfl) ?_
              refine z_get C G clX12 6 rfl 24 (by decide) m_fl_RX12_38 rfl dX12_game_46 ?_
              refine lv_iload hx hb dX12_game_49 (lv_at hl 0 rfl) ?_
              refine lv_aload_n hx hb dX12_game_51 rfl (lv_at hl 2 rfl) ?_
              refine lv_iload hx hb dX12_game_52 (lv_at hl 0 rfl) ?_
              refine lv_iload_n hx hb dX12_game_54 rfl (lv_at hl 5 rfl) ?_
              refine lv_iload_n hx hb dX12_game_55 rfl (lv_at hl 4 rfl) ?_
              have ti_193 : (nI w).toInt = ((w : Nat) : Int) := nI_toInt (by omega)
              refine z_Vi (bc := [[zO11 mo m_all m_has i_size i_next i_where i_token i_number i_word i_wrong i_farCrossing m_read 610 j_crossings_2 j_inns_3 m_posts m_shut m_here xsteps xdone xat xgone m_was m_came m_seenAt m_rowWorth m_farBy m_used i_everywhere i_again0 i_d0 i_never i_firstCame i_longRun i_moved i_crowd i_l0 i_fitMany i_fitLeast i_fitMost m_fitPost m_fitEnd m_keptPosts i_x0], [zAr T 0 m_all 3952 f_all], [zAr T 0 m_posts 7 xposts], [zAr T 0 m_shut 7 xshut], [zAr T 0 m_here 7 xhere], [zAr T 0 m_was 7 xwas]]) (br := [[zAr T 0 m_rowWorth 512 xrowWorth]]) (As := [.int (nI w), .int 3, .int c_]) (rest := [.int (nI w), .ref m_rowWorth]) C G (c_fm_gameBy3 l T mo m_all m_has i_size i_next i_where i_token i_number i_word i_wrong i_farCrossing m_read 610 j_crossings_2 j_inns_3 m_posts m_shut m_here xsteps xdone xat xgone m_was m_came m_seenAt m_rowWorth m_farBy m_used i_everywhere i_again0 i_d0 i_never i_firstCame i_longRun i_moved i_crowd i_l0 i_fitMany i_fitLeast i_fitMost m_fitPost m_fitEnd m_keptPosts i_x0 f_all xposts xshut xhere xwas w c_ hLx (by first | with_reducible assumption | with_reducible rfl | omega | assumption | rfl | decide) (by first | with_reducible assumption | with_reducible rfl | omega | assumption | rfl | decide) hVA hVz (by first | with_reducible assumption | with_reducible rfl | omega | assumption | rfl | decide)) (kV_RX12_251 C.2.2.2.2 (Nat.le_of_ble_eq_true rfl) (Nat.le_of_ble_eq_true rfl)) [6, 2, 3, 4, 5, 0] [0, 1, 0, 0, 0, 0] rfl rfl (ci := 11) (qc := (RX12, TX12, 43)) rfl rfl (List.mem_flatten.mpr ⟨_, List.mem_of_getElem? (i := 0) rfl, List.mem_cons_self⟩) rfl rfl hl.1 dX12_game_56 (Nat.le_of_ble_eq_true rfl) (Nat.le_of_ble_eq_true rfl) (fun r_203 b1 H locs hw G => ?_)
              refine zEx8 hw ?_
              intro j_steps_194 j_done_195 j_at_196 j_gone_197 g_posts_198 g_shut_199 g_here_200 g_was_201
              refine zCu2 ?_
              intro hbs9 h_202
              clear hw
              subst hbs9
              have G : zS T A s.heap s [[zAr T 0 m_rowWorth 512 xrowWorth], [zO11 mo m_all m_has i_size i_next i_where i_token i_number i_word i_wrong i_farCrossing m_read 610 j_crossings_2 j_inns_3 m_posts m_shut m_here j_steps_194 j_done_195 j_at_196 j_gone_197 m_was m_came m_seenAt m_rowWorth m_farBy m_used i_everywhere i_again0 i_d0 i_never i_firstCame i_longRun i_moved i_crowd i_l0 i_fitMany i_fitLeast i_fitMost m_fitPost m_fitEnd m_keptPosts i_x0], [zAr T 0 m_all 3952 f_all], [zAr T 0 m_posts 7 g_posts_198], [zAr T 0 m_shut 7 g_shut_199], [zAr T 0 m_here 7 g_here_200], [zAr T 0 m_was 7 g_was_201]] _ _ := G
              have hgb9 : r_203.toInt = gRw (zWo f_all 610 j_inns_3) (zLo f_all 610) j_inns_3 c_ (aRs (zWo f_all 610 j_inns_3) (zPo f_all 610) 7) 0 false 3 w := h_202
              refine z_ist C G 0 rfl (vp_in_nI (by omega) (by decide)) dX12_game_59 (fun H locs G => ?_)
              rw [nI_clamp (by omega)] at G
              have G : zS T A s.heap s [[zAr T 0 m_rowWorth 512 (upd xrowWorth w r_203)], [zO11 mo m_all m_has i_size i_next i_where i_token i_number i_word i_wrong i_farCrossing m_read 610 j_crossings_2 j_inns_3 m_posts m_shut m_here j_steps_194 j_done_195 j_at_196 j_gone_197 m_was m_came m_seenAt m_rowWorth m_farBy m_used i_everywhere i_again0 i_d0 i_never i_firstCame i_longRun i_moved i_crowd i_l0 i_fitMany i_fitLeast i_fitMost m_fitPost m_fitEnd m_keptPosts i_x0], [zAr T 0 m_all 3952 f_all], [zAr T 0 m_posts 7 g_posts_198], [zAr T 0 m_shut 7 g_shut_199], [zAr T 0 m_here 7 g_here_200], [zAr T 0 m_was 7 g_was_201]] _ _ := G
              refine lv_iinc (v := nI (w + 1)) (lv' := [(6, .int (nI (w + 1))), (5, .int 512), (0, .ref mo), (1, .int l_), (2, .int c_), (3, .int 3), (4, .int f_)]) hx hb dX12_game_60 hl (k := 0) rfl (z_inc w 1) (by decide) (zLvf_h rfl) (fun ls hl => ?_)
              refine lv_goto (tgt := 38) hx hb dX12_game_63 (by decide) ?_
              have G := G.sub (bs' := [[zAr T 0 m_was 7 g_was_201], [zAr T 0 m_rowWorth 512 (upd xrowWorth w r_203)], [zAr T 0 m_all 3952 f_all], [zAr T 0 m_posts 7 g_posts_198], [zAr T 0 m_shut 7 g_shut_199], [zAr T 0 m_here 7 g_here_200], [zO11 mo m_all m_has i_size i_next i_where i_token i_number i_word i_wrong i_farCrossing m_read 610 j_crossings_2 j_inns_3 m_posts m_shut m_here j_steps_194 j_done_195 j_at_196 j_gone_197 m_was m_came m_seenAt m_rowWorth m_farBy m_used i_everywhere i_again0 i_d0 i_never i_firstCame i_longRun i_moved i_crowd i_l0 i_fitMany i_fitLeast i_fitMost m_fitPost m_fitEnd m_keptPosts i_x0]]) [6, 0, 2, 3, 4, 5, 1] rfl
              exact ih_38 (w + 1) j_at_196 j_gone_197 j_steps_194 j_done_195 g_posts_198 g_shut_199 g_here_200 g_was_201 (upd xrowWorth w r_203) (show (w + 1) ≤ 512 ∧ (∀ p, p < (w + 1) → ((upd xrowWorth w r_203) p).toInt = gRw (zWo f_all 610 j_inns_3) (zLo f_all 610) j_inns_3 c_ (aRs (zWo f_all 610 j_inns_3) (zPo f_all 610) 7) 0 false 3 p) from ⟨by omega, (gUp hrow hgb9)⟩) (show 512 - (w + 1) < 512 - w from by omega) _ _ ls G (lv_sub hl [0, 1, 2, 3, 4, 5, 6] rfl)
        · have h_33 : (n_.toInt < (0 : Int) ∨ (3 : Int) < n_.toInt) := h_33
          refine lv_if_ne (tgt := 28) hx hb dX12_game_22 (by decide) (fun q => absurd (by decide) q) (fun _ => ?_)
          refine lv_bipush (v := (-9)) hx hb dX12_game_25 (by decide) ?_
          have G := G.sub (bs' := [[zO11 mo m_all m_has i_size i_next i_where i_token i_number i_word i_wrong i_farCrossing m_read 610 j_crossings_2 j_inns_3 m_posts m_shut m_here j_steps_4 j_done_5 i_at i_gone m_was m_came m_seenAt m_rowWorth m_farBy m_used i_everywhere i_again0 i_d0 i_never i_firstCame i_longRun i_moved i_crowd i_l0 i_fitMany i_fitLeast i_fitMost m_fitPost m_fitEnd m_keptPosts i_x0], [zAr T 0 m_all 3952 f_all], [zAr T 0 m_posts 7 g_posts_6], [zAr T 0 m_shut 7 g_shut_7], [zAr T 0 m_here 7 g_here_8], [zAr T 0 m_was 7 f_was], [zAr T 0 m_rowWorth 512 f_rowWorth]]) [6, 2, 3, 4, 5, 0, 1] rfl
          exact z_back hQz_ (z_iret C hr hlocks G (Nat.le_of_ble_eq_true rfl) (Nat.le_of_ble_eq_true rfl) dX12_game_27 ⟨610, j_crossings_2, j_inns_3, j_steps_4, j_done_5, i_at, i_gone, g_posts_6, g_shut_7, g_here_8, f_was, f_rowWorth, rfl, (Or.inr (Or.inl ⟨by first | with_reducible assumption | assumption, by omega, (by unfold pGame; rw [if_neg (fun q8 => by have q8 : (0 ≤ c_.toInt ∧ c_.toInt < (f_all 610).toInt) ∧ 0 ≤ n_.toInt ∧ n_.toInt ≤ 3 := q8; omega)])⟩))⟩)
      · have h_28 : (c_.toInt < 0 ∨ j_crossings_2.toInt ≤ c_.toInt) := h_28
        refine lv_if_eq (tgt := 25) hx hb dX12_game_13 (by decide) (fun _ => ?_) (fun q => absurd (by decide) q)
        refine lv_bipush (v := (-9)) hx hb dX12_game_25 (by decide) ?_
        have G := G.sub (bs' := [[zO11 mo m_all m_has i_size i_next i_where i_token i_number i_word i_wrong i_farCrossing m_read 610 j_crossings_2 j_inns_3 m_posts m_shut m_here j_steps_4 j_done_5 i_at i_gone m_was m_came m_seenAt m_rowWorth m_farBy m_used i_everywhere i_again0 i_d0 i_never i_firstCame i_longRun i_moved i_crowd i_l0 i_fitMany i_fitLeast i_fitMost m_fitPost m_fitEnd m_keptPosts i_x0], [zAr T 0 m_all 3952 f_all], [zAr T 0 m_posts 7 g_posts_6], [zAr T 0 m_shut 7 g_shut_7], [zAr T 0 m_here 7 g_here_8], [zAr T 0 m_was 7 f_was], [zAr T 0 m_rowWorth 512 f_rowWorth]]) [6, 2, 3, 4, 5, 0, 1] rfl
        exact z_back hQz_ (z_iret C hr hlocks G (Nat.le_of_ble_eq_true rfl) (Nat.le_of_ble_eq_true rfl) dX12_game_27 ⟨610, j_crossings_2, j_inns_3, j_steps_4, j_done_5, i_at, i_gone, g_posts_6, g_shut_7, g_here_8, f_was, f_rowWorth, rfl, (Or.inr (Or.inl ⟨by first | with_reducible assumption | assumption, by omega, (by unfold pGame; rw [if_neg (fun q8 => by have q8 : (0 ≤ c_.toInt ∧ c_.toInt < (f_all 610).toInt) ∧ 0 ≤ n_.toInt ∧ n_.toInt ≤ 3 := q8; omega)])⟩))⟩)
    · obtain rfl : j_z0_1 = 661 := Int32.toInt_inj.mp (by show j_z0_1.toInt = 661; omega)
      have hcx : j_crossings_2.toInt = (f_all 661).toInt := by rw [hLx.2.1]; rfl
      have hVz : zVZ f_all 661 j_crossings_2 := by rw [hLx.2.1]; exact hVZ1
      have hWe : (zWo f_all 661 j_inns_3) = pW f_all 661 := congrArg (zWo f_all 661) h_17
      have hS0 : ∀ j, j < 7 → g_shut_7 j = 0 := h_21
      have hNz : 1 ≤ aPr (zWo f_all 661 j_inns_3) 7 := aPr_p _
      have hNi : j_inns_3 = f_all (661 + 1) := h_17
      refine lv_aload_n hx hb dX12_game_8 rfl (lv_at hl 0 rfl) ?_
      refine lv_iload_n hx hb dX12_game_9 rfl (lv_at hl 2 rfl) ?_
      refine z_Vi (bc := [[zO11 mo m_all m_has i_size i_next i_where i_token i_number i_word i_wrong i_farCrossing m_read 661 j_crossings_2 j_inns_3 m_posts m_shut m_here j_steps_4 j_done_5 i_at i_gone m_was m_came m_seenAt m_rowWorth m_farBy m_used i_everywhere i_again0 i_d0 i_never i_firstCame i_longRun i_moved i_crowd i_l0 i_fitMany i_fitLeast i_fitMost m_fitPost m_fitEnd m_keptPosts i_x0]]) (br := [[zAr T 0 m_was 7 f_was], [zAr T 0 m_rowWorth 512 f_rowWorth], [zAr T 0 m_all 3952 f_all], [zAr T 0 m_posts 7 g_posts_6], [zAr T 0 m_shut 7 g_shut_7], [zAr T 0 m_here 7 g_here_8]]) (As := [.int c_]) (rest := []) C G (c_m_isCrossing l T mo m_all m_has i_size i_next i_where i_token i_number i_word i_wrong i_farCrossing m_read 661 j_crossings_2 j_inns_3 m_posts m_shut m_here j_steps_4 j_done_5 i_at i_gone m_was m_came m_seenAt m_rowWorth m_farBy m_used i_everywhere i_again0 i_d0 i_never i_firstCame i_longRun i_moved i_crowd i_l0 i_fitMany i_fitLeast i_fitMost m_fitPost m_fitEnd m_keptPosts i_x0 c_ (by first | with_reducible assumption | with_reducible rfl | omega | assumption | rfl | decide)) (kV_RX12_187 C.2.2.2.2 (Nat.le_of_ble_eq_true rfl) (Nat.le_of_ble_eq_true rfl)) [2] [2] rfl rfl (ci := 11) (qc := (RX12, TX12, 43)) rfl rfl (List.mem_flatten.mpr ⟨_, List.mem_of_getElem? (i := 0) rfl, List.mem_cons_self⟩) rfl rfl hl.1 dX12_game_10 (Nat.le_of_ble_eq_true rfl) (Nat.le_of_ble_eq_true rfl) (fun r_205 b1 H locs hw G => ?_)
      refine zAn2 hw ?_
      intro hbs9 hc_204
      clear hw
      subst hbs9
      have G : zS T A s.heap s [[zAr T 0 m_was 7 f_was], [zAr T 0 m_rowWorth 512 f_rowWorth], [zAr T 0 m_all 3952 f_all], [zAr T 0 m_posts 7 g_posts_6], [zAr T 0 m_shut 7 g_shut_7], [zAr T 0 m_here 7 g_here_8], [zO11 mo m_all m_has i_size i_next i_where i_token i_number i_word i_wrong i_farCrossing m_read 661 j_crossings_2 j_inns_3 m_posts m_shut m_here j_steps_4 j_done_5 i_at i_gone m_was m_came m_seenAt m_rowWorth m_farBy m_used i_everywhere i_again0 i_d0 i_never i_firstCame i_longRun i_moved i_crowd i_l0 i_fitMany i_fitLeast i_fitMost m_fitPost m_fitEnd m_keptPosts i_x0]] _ _ := G
      rcases hc_204 with ⟨rfl, h_206, h_207⟩ | ⟨rfl, h_208⟩
      · have h_206 : 0 ≤ c_.toInt := h_206
        have h_207 : c_.toInt < j_crossings_2.toInt := h_207
        refine lv_if_eq (tgt := 25) hx hb dX12_game_13 (by decide) (fun q => absurd q (by decide)) (fun _ => ?_)
        refine lv_iload_n hx hb dX12_game_16 rfl (lv_at hl 3 rfl) ?_
        refine lv_iconst (v := 0) hx hb dX12_game_17 (by decide) ?_
        refine lv_iconst (v := 3) hx hb dX12_game_18 (by decide) ?_
        refine z_Si (bc := []) (br := [[zAr T 0 m_was 7 f_was], [zAr T 0 m_rowWorth 512 f_rowWorth], [zAr T 0 m_all 3952 f_all], [zAr T 0 m_posts 7 g_posts_6], [zAr T 0 m_shut 7 g_shut_7], [zAr T 0 m_here 7 g_here_8], [zO11 mo m_all m_has i_size i_next i_where i_token i_number i_word i_wrong i_farCrossing m_read 661 j_crossings_2 j_inns_3 m_posts m_shut m_here j_steps_4 j_done_5 i_at i_gone m_was m_came m_seenAt m_rowWorth m_farBy m_used i_everywhere i_again0 i_d0 i_never i_firstCame i_longRun i_moved i_crowd i_l0 i_fitMany i_fitLeast i_fitMost m_fitPost m_fitEnd m_keptPosts i_x0]]) (As := [.int n_, .int 0, .int 3]) (rest := []) C G (c_m_isIn l T n_ 0 3) (kS_RX12_111 C.2.2.2.2 (Nat.le_of_ble_eq_true rfl) (Nat.le_of_ble_eq_true rfl)) [] [] rfl rfl rfl rfl hl.1 dX12_game_19 (Nat.le_of_ble_eq_true rfl) (Nat.le_of_ble_eq_true rfl) (fun r_210 b1 H locs hw G => ?_)
        refine zAn2 hw ?_
        intro hbs9 hc_209
        clear hw
        subst hbs9
        have G : zS T A s.heap s [[zAr T 0 m_was 7 f_was], [zAr T 0 m_rowWorth 512 f_rowWorth], [zAr T 0 m_all 3952 f_all], [zAr T 0 m_posts 7 g_posts_6], [zAr T 0 m_shut 7 g_shut_7], [zAr T 0 m_here 7 g_here_8], [zO11 mo m_all m_has i_size i_next i_where i_token i_number i_word i_wrong i_farCrossing m_read 661 j_crossings_2 j_inns_3 m_posts m_shut m_here j_steps_4 j_done_5 i_at i_gone m_was m_came m_seenAt m_rowWorth m_farBy m_used i_everywhere i_again0 i_d0 i_never i_firstCame i_longRun i_moved i_crowd i_l0 i_fitMany i_fitLeast i_fitMost m_fitPost m_fitEnd m_keptPosts i_x0]] _ _ := G
        rcases hc_209 with ⟨rfl, h_211, h_212⟩ | ⟨rfl, h_213⟩
        · have h_211 : (0 : Int) ≤ n_.toInt := h_211
          have h_212 : n_.toInt ≤ (3 : Int) := h_212
          refine lv_if_ne (tgt := 28) hx hb dX12_game_22 (by decide) (fun _ => ?_) (fun q => absurd q (by decide))
          rcases (show n_.toInt = 0 ∨ n_.toInt = 1 ∨ n_.toInt = 2 ∨ n_.toInt = 3 from by omega) with hnn9 | hnn9 | hnn9 | hnn9
          · obtain rfl : n_ = 0 := Int32.toInt_inj.mp hnn9
            refine lv_iconst (v := 1) hx hb dX12_game_28 (by decide) ?_
            refine lv_iconst (v := 3) hx hb dX12_game_29 (by decide) ?_
            refine lv_iload_n hx hb dX12_game_30 rfl (lv_at hl 3 rfl) ?_
            refine lv_imul hx hb dX12_game_31 ?_
            refine lv_topi (fun y_214 ey_214 => ?_)
            obtain rfl : y_214 = 0 := ey_214.trans (by decide)
            refine lv_ishl hx hb dX12_game_32 ?_
            refine lv_topi (fun y_215 ey_215 => ?_)
            obtain rfl : y_215 = 1 := ey_215.trans (by decide)
            refine lv_istore (lv' := [(5, .int 1), (0, .ref mo), (1, .int l_), (2, .int c_), (3, .int 0), (4, .int f_)]) hx hb dX12_game_33 hl (by decide) (zLvf_h rfl) (fun ls hl => ?_)
            refine lv_iconst (v := 0) hx hb dX12_game_35 (by decide) ?_
            refine lv_istore (lv' := [(6, .int 0), (5, .int 1), (0, .ref mo), (1, .int l_), (2, .int c_), (3, .int 0), (4, .int f_)]) hx hb dX12_game_36 hl (by decide) (zLvf_h rfl) (fun ls hl => ?_)
            refine z_lp10 (T := T) 38 (fun (w : Nat) (xat : Int32) (xgone : Int32) (xsteps : Int32) (xdone : Int32) (xposts : Nat → Int32) (xshut : Nat → Int32) (xhere : Nat → Int32) (xwas : Nat → Int32) (xrowWorth : Nat → Int32) => [[zAr T 0 m_was 7 xwas], [zAr T 0 m_rowWorth 512 xrowWorth], [zAr T 0 m_all 3952 f_all], [zAr T 0 m_posts 7 xposts], [zAr T 0 m_shut 7 xshut], [zAr T 0 m_here 7 xhere], [zO11 mo m_all m_has i_size i_next i_where i_token i_number i_word i_wrong i_farCrossing m_read 661 j_crossings_2 j_inns_3 m_posts m_shut m_here xsteps xdone xat xgone m_was m_came m_seenAt m_rowWorth m_farBy m_used i_everywhere i_again0 i_d0 i_never i_firstCame i_longRun i_moved i_crowd i_l0 i_fitMany i_fitLeast i_fitMost m_fitPost m_fitEnd m_keptPosts i_x0]]) (fun (w : Nat) (xat : Int32) (xgone : Int32) (xsteps : Int32) (xdone : Int32) (xposts : Nat → Int32) (xshut : Nat → Int32) (xhere : Nat → Int32) (xwas : Nat → Int32) (xrowWorth : Nat → Int32) => [(6, .int (nI w)), (5, .int 1), (0, .ref mo), (1, .int l_), (2, .int c_), (3, .int 0), (4, .int f_)]) (fun (w : Nat) (xat : Int32) (xgone : Int32) (xsteps : Int32) (xdone : Int32) (xposts : Nat → Int32) (xshut : Nat → Int32) (xhere : Nat → Int32) (xwas : Nat → Int32) (xrowWorth : Nat → Int32) => w ≤ 1 ∧ (∀ p, p < w → (xrowWorth p).toInt = gRw (zWo f_all 661 j_inns_3) (zLo f_all 661) j_inns_3 c_ (aRs (zWo f_all 661 j_inns_3) (zPo f_all 661) 7) 0 true 0 p)) (fun (w : Nat) (xat : Int32) (xgone : Int32) (xsteps : Int32) (xdone : Int32) (xposts : Nat → Int32) (xshut : Nat → Int32) (xhere : Nat → Int32) (xwas : Nat → Int32) (xrowWorth : Nat → Int32) => 1 - w) ?_ 0 i_at i_gone j_steps_4 j_done_5 g_posts_6 g_shut_7 g_here_8 f_was f_rowWorth (show 0 ≤ 1 ∧ (∀ p, p < 0 → (f_rowWorth p).toInt = gRw (zWo f_all 661 j_inns_3) (zLo f_all 661) j_inns_3 c_ (aRs (zWo f_all 661 j_inns_3) (zPo f_all 661) 7) 0 true 0 p) from ⟨by omega, (fun p hp => absurd hp (Nat.not_lt_zero _))⟩) G (lv_sub hl [0, 1, 2, 3, 4, 5, 6] rfl)
            intro w xat xgone xsteps xdone xposts xshut xhere xwas xrowWorth hI9 ih_38 H locs ls G hl
            replace hI9 : w ≤ 1 ∧ (∀ p, p < w → (xrowWorth p).toInt = gRw (zWo f_all 661 j_inns_3) (zLo f_all 661) j_inns_3 c_ (aRs (zWo f_all 661 j_inns_3) (zPo f_all 661) 7) 0 true 0 p) := hI9
            refine zAn2 hI9 ?_
            intro hww hrow
            clear hI9
            replace G : zS T A s.heap s [[zAr T 0 m_was 7 xwas], [zAr T 0 m_rowWorth 512 xrowWorth], [zAr T 0 m_all 3952 f_all], [zAr T 0 m_posts 7 xposts], [zAr T 0 m_shut 7 xshut], [zAr T 0 m_here 7 xhere], [zO11 mo m_all m_has i_size i_next i_where i_token i_number i_word i_wrong i_farCrossing m_read 661 j_crossings_2 j_inns_3 m_posts m_shut m_here xsteps xdone xat xgone m_was m_came m_seenAt m_rowWorth m_farBy m_used i_everywhere i_again0 i_d0 i_never i_firstCame i_longRun i_moved i_crowd i_l0 i_fitMany i_fitLeast i_fitMost m_fitPost m_fitEnd m_keptPosts i_x0]] _ _ := G
            replace hl : lv_has ls 11 [(6, .int (nI w)), (5, .int 1), (0, .ref mo), (1, .int l_), (2, .int c_), (3, .int 0), (4, .int f_)] := hl
            refine lv_iload hx hb dX12_game_38 (lv_at hl 0 rfl) ?_
            refine lv_iload hx hb dX12_game_40 (lv_at hl 1 rfl) ?_
            refine lv_icmp_ge (tgt := 66) hx hb dX12_game_42 (by decide) (fun c_216 => ?_) (fun c_216 => ?_)
            · have c_216n : 1 ≤ w := (nI_leI (a := 1) (b := w) (by omega) (by omega)).mp c_216
              refine lv_iconst (v := (-1)) hx hb dX12_game_66 (by decide) ?_
              refine lv_istore (lv' := [(6, .int (-1)), (5, .int 1), (0, .ref mo), (1, .int l_), (2, .int c_), (3, .int 0), (4, .int f_)]) hx hb dX12_game_67 hl (by decide) (zLvf_h rfl) (fun ls hl => ?_)
              refine lv_iload_n hx hb dX12_game_69 rfl (lv_at hl 5 rfl) ?_
              refine lv_iconst (v := 1) hx hb dX12_game_70 (by decide) ?_
              refine lv_isub hx hb dX12_game_71 ?_
              refine lv_topi (fun y_217 ey_217 => ?_)
              obtain rfl : y_217 = (-1) := ey_217.trans (by decide)
              refine lv_istore (lv' := [(7, .int (-1)), (6, .int (-1)), (5, .int 1), (0, .ref mo), (1, .int l_), (2, .int c_), (3, .int 0), (4, .int f_)]) hx hb dX12_game_72 hl (by decide) (zLvf_h rfl) (fun ls hl => ?_)
              refine lv_iload hx hb dX12_game_74 (lv_at hl 0 rfl) ?_
              refine lv_if_lt (tgt := 237) hx hb dX12_game_76 (by decide) (fun _ => ?_) (fun q => absurd (by decide) q)
              refine lv_iload hx hb dX12_game_237 (lv_at hl 7 rfl) ?_
              refine lv_if_ne (tgt := 251) hx hb dX12_game_239 (by decide) (fun c_218 => ?_) (fun c_218 => ?_)
              · have c_218n : ¬ f_.toInt = (0 : Int) := fun q => c_218 ((fa_eq _ _).mpr q)
                refine lv_iload hx hb dX12_game_251 (lv_at hl 1 rfl) ?_
                have G := G.sub (bs' := [[zO11 mo m_all m_has i_size i_next i_where i_token i_number i_word i_wrong i_farCrossing m_read 661 j_crossings_2 j_inns_3 m_posts m_shut m_here xsteps xdone xat xgone m_was m_came m_seenAt m_rowWorth m_farBy m_used i_everywhere i_again0 i_d0 i_never i_firstCame i_longRun i_moved i_crowd i_l0 i_fitMany i_fitLeast i_fitMost m_fitPost m_fitEnd m_keptPosts i_x0], [zAr T 0 m_all 3952 f_all], [zAr T 0 m_posts 7 xposts], [zAr T 0 m_shut 7 xshut], [zAr T 0 m_here 7 xhere], [zAr T 0 m_was 7 xwas], [zAr T 0 m_rowWorth 512 xrowWorth]]) [6, 2, 3, 4, 5, 0, 1] rfl
                exact z_back hQz_ (z_iret C hr hlocks G (Nat.le_of_ble_eq_true rfl) (Nat.le_of_ble_eq_true rfl) dX12_game_253 ⟨661, j_crossings_2, j_inns_3, xsteps, xdone, xat, xgone, xposts, xshut, xhere, xwas, xrowWorth, rfl, (Or.inr (Or.inr ⟨by first | with_reducible assumption | assumption, by omega, (by
                                                                have q6 : rGame (zWo f_all 661 j_inns_3) (zLo f_all 661) (zPo f_all 661) j_inns_3 c_ 0 f_ = rGame (pW f_all 661) (zLo f_all 661) (zPo f_all 661) (f_all (661 + 1)) c_ 0 f_ := by rw [← hWe, ← hNi]
                                                                unfold pGame
                                                                rw [if_pos (by show (0 ≤ c_.toInt ∧ c_.toInt < (f_all 661).toInt) ∧ 0 ≤ (0 : Int32).toInt ∧ (0 : Int32).toInt ≤ 3; exact ⟨⟨by omega, by omega⟩, by decide, by decide⟩)]
                                                                refine Eq.trans ?_ q6
                                                                unfold rGame
                                                                rw [if_neg (by first | with_reducible assumption | assumption), if_pos (by decide)])⟩))⟩)
              · have c_218n : f_.toInt = (0 : Int) := (fa_eq _ _).mp c_218
                refine lv_aload_n hx hb dX12_game_242 rfl (lv_at hl 3 rfl) ?_
                refine z_get C G clX12 6 rfl 24 (by decide) m_fl_RX12_38 rfl dX12_game_243 ?_
                refine lv_iconst (v := 0) hx hb dX12_game_246 (by decide) ?_
                refine z_ild C G 1 rfl (vp_in_nI (n := 0) (by decide) (by decide)) dX12_game_247 ?_
                refine lv_topi (fun v_219 ev_219 => ?_)
                rw [show ((0 : Int32).toNatClampNeg) = 0 from rfl] at ev_219
                subst ev_219
                refine lv_goto (tgt := 253) hx hb dX12_game_248 (by decide) ?_
                have G := G.sub (bs' := [[zO11 mo m_all m_has i_size i_next i_where i_token i_number i_word i_wrong i_farCrossing m_read 661 j_crossings_2 j_inns_3 m_posts m_shut m_here xsteps xdone xat xgone m_was m_came m_seenAt m_rowWorth m_farBy m_used i_everywhere i_again0 i_d0 i_never i_firstCame i_longRun i_moved i_crowd i_l0 i_fitMany i_fitLeast i_fitMost m_fitPost m_fitEnd m_keptPosts i_x0], [zAr T 0 m_all 3952 f_all], [zAr T 0 m_posts 7 xposts], [zAr T 0 m_shut 7 xshut], [zAr T 0 m_here 7 xhere], [zAr T 0 m_was 7 xwas], [zAr T 0 m_rowWorth 512 xrowWorth]]) [6, 2, 3, 4, 5, 0, 1] rfl
                exact z_back hQz_ (z_iret C hr hlocks G (Nat.le_of_ble_eq_true rfl) (Nat.le_of_ble_eq_true rfl) dX12_game_253 ⟨661, j_crossings_2, j_inns_3, xsteps, xdone, xat, xgone, xposts, xshut, xhere, xwas, xrowWorth, rfl, (Or.inr (Or.inr ⟨by first | with_reducible assumption | assumption, by omega, (by
                                                                have q6 : rGame (zWo f_all 661 j_inns_3) (zLo f_all 661) (zPo f_all 661) j_inns_3 c_ 0 f_ = rGame (pW f_all 661) (zLo f_all 661) (zPo f_all 661) (f_all (661 + 1)) c_ 0 f_ := by rw [← hWe, ← hNi]
                                                                unfold pGame
                                                                rw [if_pos (by show (0 ≤ c_.toInt ∧ c_.toInt < (f_all 661).toInt) ∧ 0 ≤ (0 : Int32).toInt ∧ (0 : Int32).toInt ≤ 3; exact ⟨⟨by omega, by omega⟩, by decide, by decide⟩)]
                                                                refine Eq.trans ?_ q6
                                                                unfold rGame
                                                                rw [if_pos (by first | with_reducible assumption | assumption)]
                                                                have q8 := gV_0 (W := (zWo f_all 661 j_inns_3)) (L := (zLo f_all 661)) (inn := j_inns_3) (x := c_) 0 true (aRs (zWo f_all 661 j_inns_3) (zPo f_all 661) 7)
                                                                have q5 := Int32.toInt_lt (xrowWorth 0)
                                                                have q7 : (xrowWorth 0).toInt = gV (zWo f_all 661 j_inns_3) (zLo f_all 661) j_inns_3 c_ 0 true (aRs (zWo f_all 661 j_inns_3) (zPo f_all 661) 7) := (hrow 0 (by omega)).trans (if_pos rfl)
                                                                exact z_nI (m := (gV (zWo f_all 661 j_inns_3) (zLo f_all 661) j_inns_3 c_ 0 true (aRs (zWo f_all 661 j_inns_3) (zPo f_all 661) 7)).toNat) (by omega) (by omega))⟩))⟩)
            · have c_216n : ¬ 1 ≤ w := fun q => c_216 ((nI_leI (a := 1) (b := w) (by omega) (by omega)).mpr q)
              refine lv_aload_n hx hb dX12_game_45 rfl (lv_at hl 2 rfl) ?_
              refine z_get C G clX12 6 rfl 24 (by decide) m_fl_RX12_38 rfl dX12_game_46 ?_
              refine lv_iload hx hb dX12_game_49 (lv_at hl 0 rfl) ?_
              refine lv_aload_n hx hb dX12_game_51 rfl (lv_at hl 2 rfl) ?_
              refine lv_iload hx hb dX12_game_52 (lv_at hl 0 rfl) ?_
              refine lv_iload_n hx hb dX12_game_54 rfl (lv_at hl 5 rfl) ?_
              refine lv_iload_n hx hb dX12_game_55 rfl (lv_at hl 4 rfl) ?_
              have ti_220 : (nI w).toInt = ((w : Nat) : Int) := nI_toInt (by omega)
              refine z_Vi (bc := [[zO11 mo m_all m_has i_size i_next i_where i_token i_number i_word i_wrong i_farCrossing m_read 661 j_crossings_2 j_inns_3 m_posts m_shut m_here xsteps xdone xat xgone m_was m_came m_seenAt m_rowWorth m_farBy m_used i_everywhere i_again0 i_d0 i_never i_firstCame i_longRun i_moved i_crowd i_l0 i_fitMany i_fitLeast i_fitMost m_fitPost m_fitEnd m_keptPosts i_x0], [zAr T 0 m_all 3952 f_all], [zAr T 0 m_posts 7 xposts], [zAr T 0 m_shut 7 xshut], [zAr T 0 m_here 7 xhere], [zAr T 0 m_was 7 xwas]]) (br := [[zAr T 0 m_rowWorth 512 xrowWorth]]) (As := [.int (nI w), .int 0, .int c_]) (rest := [.int (nI w), .ref m_rowWorth]) C G (c_fm_gameBy0 l T mo m_all m_has i_size i_next i_where i_token i_number i_word i_wrong i_farCrossing m_read 661 j_crossings_2 j_inns_3 m_posts m_shut m_here xsteps xdone xat xgone m_was m_came m_seenAt m_rowWorth m_farBy m_used i_everywhere i_again0 i_d0 i_never i_firstCame i_longRun i_moved i_crowd i_l0 i_fitMany i_fitLeast i_fitMost m_fitPost m_fitEnd m_keptPosts i_x0 f_all xposts xshut xhere xwas w c_ hLx (by first | with_reducible assumption | with_reducible rfl | omega | assumption | rfl | decide) (by first | with_reducible assumption | with_reducible rfl | omega | assumption | rfl | decide) hVA hVz (by first | with_reducible assumption | with_reducible rfl | omega | assumption | rfl | decide)) (kV_RX12_251 C.2.2.2.2 (Nat.le_of_ble_eq_true rfl) (Nat.le_of_ble_eq_true rfl)) [6, 2, 3, 4, 5, 0] [0, 1, 0, 0, 0, 0] rfl rfl (ci := 11) (qc := (RX12, TX12, 43)) rfl rfl (List.mem_flatten.mpr ⟨_, List.mem_of_getElem? (i := 0) rfl, List.mem_cons_self⟩) rfl rfl hl.1 dX12_game_56 (Nat.le_of_ble_eq_true rfl) (Nat.le_of_ble_eq_true rfl) (fun r_230 b1 H locs hw G => ?_)
              refine zEx8 hw ?_
              intro j_steps_221 j_done_222 j_at_223 j_gone_224 g_posts_225 g_shut_226 g_here_227 g_was_228
              refine zCu2 ?_
              intro hbs9 h_229
              clear hw
              subst hbs9
              have G : zS T A s.heap s [[zAr T 0 m_rowWorth 512 xrowWorth], [zO11 mo m_all m_has i_size i_next i_where i_token i_number i_word i_wrong i_farCrossing m_read 661 j_crossings_2 j_inns_3 m_posts m_shut m_here j_steps_221 j_done_222 j_at_223 j_gone_224 m_was m_came m_seenAt m_rowWorth m_farBy m_used i_everywhere i_again0 i_d0 i_never i_firstCame i_longRun i_moved i_crowd i_l0 i_fitMany i_fitLeast i_fitMost m_fitPost m_fitEnd m_keptPosts i_x0], [zAr T 0 m_all 3952 f_all], [zAr T 0 m_posts 7 g_posts_225], [zAr T 0 m_shut 7 g_shut_226], [zAr T 0 m_here 7 g_here_227], [zAr T 0 m_was 7 g_was_228]] _ _ := G
              have hgb9 : r_230.toInt = gRw (zWo f_all 661 j_inns_3) (zLo f_all 661) j_inns_3 c_ (aRs (zWo f_all 661 j_inns_3) (zPo f_all 661) 7) 0 true 0 w := h_229
              refine z_ist C G 0 rfl (vp_in_nI (by omega) (by decide)) dX12_game_59 (fun H locs G => ?_)
              rw [nI_clamp (by omega)] at G
              have G : zS T A s.heap s [[zAr T 0 m_rowWorth 512 (upd xrowWorth w r_230)], [zO11 mo m_all m_has i_size i_next i_where i_token i_number i_word i_wrong i_farCrossing m_read 661 j_crossings_2 j_inns_3 m_posts m_shut m_here j_steps_221 j_done_222 j_at_223 j_gone_224 m_was m_came m_seenAt m_rowWorth m_farBy m_used i_everywhere i_again0 i_d0 i_never i_firstCame i_longRun i_moved i_crowd i_l0 i_fitMany i_fitLeast i_fitMost m_fitPost m_fitEnd m_keptPosts i_x0], [zAr T 0 m_all 3952 f_all], [zAr T 0 m_posts 7 g_posts_225], [zAr T 0 m_shut 7 g_shut_226], [zAr T 0 m_here 7 g_here_227], [zAr T 0 m_was 7 g_was_228]] _ _ := G
              refine lv_iinc (v := nI (w + 1)) (lv' := [(6, .int (nI (w + 1))), (5, .int 1), (0, .ref mo), (1, .int l_), (2, .int c_), (3, .int 0), (4, .int f_)]) hx hb dX12_game_60 hl (k := 0) rfl (z_inc w 1) (by decide) (zLvf_h rfl) (fun ls hl => ?_)
              refine lv_goto (tgt := 38) hx hb dX12_game_63 (by decide) ?_
              have G := G.sub (bs' := [[zAr T 0 m_was 7 g_was_228], [zAr T 0 m_rowWorth 512 (upd xrowWorth w r_230)], [zAr T 0 m_all 3952 f_all], [zAr T 0 m_posts 7 g_posts_225], [zAr T 0 m_shut 7 g_shut_226], [zAr T 0 m_here 7 g_here_227], [zO11 mo m_all m_has i_size i_next i_where i_token i_number i_word i_wrong i_farCrossing m_read 661 j_crossings_2 j_inns_3 m_posts m_shut m_here j_steps_221 j_done_222 j_at_223 j_gone_224 m_was m_came m_seenAt m_rowWorth m_farBy m_used i_everywhere i_again0 i_d0 i_never i_firstCame i_longRun i_moved i_crowd i_l0 i_fitMany i_fitLeast i_fitMost m_fitPost m_fitEnd m_keptPosts i_x0]]) [6, 0, 2, 3, 4, 5, 1] rfl
              exact ih_38 (w + 1) j_at_223 j_gone_224 j_steps_221 j_done_222 g_posts_225 g_shut_226 g_here_227 g_was_228 (upd xrowWorth w r_230) (show (w + 1) ≤ 1 ∧ (∀ p, p < (w + 1) → ((upd xrowWorth w r_230) p).toInt = gRw (zWo f_all 661 j_inns_3) (zLo f_all 661) j_inns_3 c_ (aRs (zWo f_all 661 j_inns_3) (zPo f_all 661) 7) 0 true 0 p) from ⟨by omega, (gUp hrow hgb9)⟩) (show 1 - (w + 1) < 1 - w from by omega) _ _ ls G (lv_sub hl [0, 1, 2, 3, 4, 5, 6] rfl)
          · obtain rfl : n_ = 1 := Int32.toInt_inj.mp hnn9
            refine lv_iconst (v := 1) hx hb dX12_game_28 (by decide) ?_
            refine lv_iconst (v := 3) hx hb dX12_game_29 (by decide) ?_
            refine lv_iload_n hx hb dX12_game_30 rfl (lv_at hl 3 rfl) ?_
            refine lv_imul hx hb dX12_game_31 ?_
            refine lv_topi (fun y_231 ey_231 => ?_)
            obtain rfl : y_231 = 3 := ey_231.trans (by decide)
            refine lv_ishl hx hb dX12_game_32 ?_
            refine lv_topi (fun y_232 ey_232 => ?_)
            obtain rfl : y_232 = 8 := ey_232.trans (by decide)
            refine lv_istore (lv' := [(5, .int 8), (0, .ref mo), (1, .int l_), (2, .int c_), (3, .int 1), (4, .int f_)]) hx hb dX12_game_33 hl (by decide) (zLvf_h rfl) (fun ls hl => ?_)
            refine lv_iconst (v := 0) hx hb dX12_game_35 (by decide) ?_
            refine lv_istore (lv' := [(6, .int 0), (5, .int 8), (0, .ref mo), (1, .int l_), (2, .int c_), (3, .int 1), (4, .int f_)]) hx hb dX12_game_36 hl (by decide) (zLvf_h rfl) (fun ls hl => ?_)
            refine z_lp10 (T := T) 38 (fun (w : Nat) (xat : Int32) (xgone : Int32) (xsteps : Int32) (xdone : Int32) (xposts : Nat → Int32) (xshut : Nat → Int32) (xhere : Nat → Int32) (xwas : Nat → Int32) (xrowWorth : Nat → Int32) => [[zAr T 0 m_was 7 xwas], [zAr T 0 m_rowWorth 512 xrowWorth], [zAr T 0 m_all 3952 f_all], [zAr T 0 m_posts 7 xposts], [zAr T 0 m_shut 7 xshut], [zAr T 0 m_here 7 xhere], [zO11 mo m_all m_has i_size i_next i_where i_token i_number i_word i_wrong i_farCrossing m_read 661 j_crossings_2 j_inns_3 m_posts m_shut m_here xsteps xdone xat xgone m_was m_came m_seenAt m_rowWorth m_farBy m_used i_everywhere i_again0 i_d0 i_never i_firstCame i_longRun i_moved i_crowd i_l0 i_fitMany i_fitLeast i_fitMost m_fitPost m_fitEnd m_keptPosts i_x0]]) (fun (w : Nat) (xat : Int32) (xgone : Int32) (xsteps : Int32) (xdone : Int32) (xposts : Nat → Int32) (xshut : Nat → Int32) (xhere : Nat → Int32) (xwas : Nat → Int32) (xrowWorth : Nat → Int32) => [(6, .int (nI w)), (5, .int 8), (0, .ref mo), (1, .int l_), (2, .int c_), (3, .int 1), (4, .int f_)]) (fun (w : Nat) (xat : Int32) (xgone : Int32) (xsteps : Int32) (xdone : Int32) (xposts : Nat → Int32) (xshut : Nat → Int32) (xhere : Nat → Int32) (xwas : Nat → Int32) (xrowWorth : Nat → Int32) => w ≤ 8 ∧ (∀ p, p < w → (xrowWorth p).toInt = gRw (zWo f_all 661 j_inns_3) (zLo f_all 661) j_inns_3 c_ (aRs (zWo f_all 661 j_inns_3) (zPo f_all 661) 7) 0 false 1 p)) (fun (w : Nat) (xat : Int32) (xgone : Int32) (xsteps : Int32) (xdone : Int32) (xposts : Nat → Int32) (xshut : Nat → Int32) (xhere : Nat → Int32) (xwas : Nat → Int32) (xrowWorth : Nat → Int32) => 8 - w) ?_ 0 i_at i_gone j_steps_4 j_done_5 g_posts_6 g_shut_7 g_here_8 f_was f_rowWorth (show 0 ≤ 8 ∧ (∀ p, p < 0 → (f_rowWorth p).toInt = gRw (zWo f_all 661 j_inns_3) (zLo f_all 661) j_inns_3 c_ (aRs (zWo f_all 661 j_inns_3) (zPo f_all 661) 7) 0 false 1 p) from ⟨by omega, (fun p hp => absurd hp (Nat.not_lt_zero _))⟩) G (lv_sub hl [0, 1, 2, 3, 4, 5, 6] rfl)
            intro w xat xgone xsteps xdone xposts xshut xhere xwas xrowWorth hI9 ih_38 H locs ls G hl
            replace hI9 : w ≤ 8 ∧ (∀ p, p < w → (xrowWorth p).toInt = gRw (zWo f_all 661 j_inns_3) (zLo f_all 661) j_inns_3 c_ (aRs (zWo f_all 661 j_inns_3) (zPo f_all 661) 7) 0 false 1 p) := hI9
            refine zAn2 hI9 ?_
            intro hww hrow
            clear hI9
            replace G : zS T A s.heap s [[zAr T 0 m_was 7 xwas], [zAr T 0 m_rowWorth 512 xrowWorth], [zAr T 0 m_all 3952 f_all], [zAr T 0 m_posts 7 xposts], [zAr T 0 m_shut 7 xshut], [zAr T 0 m_here 7 xhere], [zO11 mo m_all m_has i_size i_next i_where i_token i_number i_word i_wrong i_farCrossing m_read 661 j_crossings_2 j_inns_3 m_posts m_shut m_here xsteps xdone xat xgone m_was m_came m_seenAt m_rowWorth m_farBy m_used i_everywhere i_again0 i_d0 i_never i_firstCame i_longRun i_moved i_crowd i_l0 i_fitMany i_fitLeast i_fitMost m_fitPost m_fitEnd m_keptPosts i_x0]] _ _ := G
            replace hl : lv_has ls 11 [(6, .int (nI w)), (5, .int 8), (0, .ref mo), (1, .int l_), (2, .int c_), (3, .int 1), (4, .int f_)] := hl
            refine lv_iload hx hb dX12_game_38 (lv_at hl 0 rfl) ?_
            refine lv_iload hx hb dX12_game_40 (lv_at hl 1 rfl) ?_
            refine lv_icmp_ge (tgt := 66) hx hb dX12_game_42 (by decide) (fun c_233 => ?_) (fun c_233 => ?_)
            · have c_233n : 8 ≤ w := (nI_leI (a := 8) (b := w) (by omega) (by omega)).mp c_233
              refine lv_iconst (v := (-1)) hx hb dX12_game_66 (by decide) ?_
              refine lv_istore (lv' := [(6, .int (-1)), (5, .int 8), (0, .ref mo), (1, .int l_), (2, .int c_), (3, .int 1), (4, .int f_)]) hx hb dX12_game_67 hl (by decide) (zLvf_h rfl) (fun ls hl => ?_)
              refine lv_iload_n hx hb dX12_game_69 rfl (lv_at hl 5 rfl) ?_
              refine lv_iconst (v := 1) hx hb dX12_game_70 (by decide) ?_
              refine lv_isub hx hb dX12_game_71 ?_
              refine lv_topi (fun y_234 ey_234 => ?_)
              obtain rfl : y_234 = 0 := ey_234.trans (by decide)
              refine lv_istore (lv' := [(7, .int 0), (6, .int (-1)), (5, .int 8), (0, .ref mo), (1, .int l_), (2, .int c_), (3, .int 1), (4, .int f_)]) hx hb dX12_game_72 hl (by decide) (zLvf_h rfl) (fun ls hl => ?_)
              refine lv_iload hx hb dX12_game_74 (lv_at hl 0 rfl) ?_
              refine lv_if_lt (tgt := 237) hx hb dX12_game_76 (by decide) (fun q => absurd q (by decide)) (fun _ => ?_)
              refine lv_iload hx hb dX12_game_79 (lv_at hl 2 rfl) ?_
              refine lv_bipush (v := 8) hx hb dX12_game_81 (by decide) ?_
              refine lv_idiv hx hb dX12_game_83 (by decide) ?_
              refine lv_topi (fun y_235 ey_235 => ?_)
              obtain rfl : y_235 = 1 := ey_235.trans (by decide)
              refine lv_istore (lv' := [(5, .int 1), (7, .int 0), (6, .int (-1)), (0, .ref mo), (1, .int l_), (2, .int c_), (3, .int 1), (4, .int f_)]) hx hb dX12_game_84 hl (by decide) (zLvf_h rfl) (fun ls hl => ?_)
              refine lv_iconst (v := 0) hx hb dX12_game_86 (by decide) ?_
              refine lv_istore (lv' := [(8, .int 0), (5, .int 1), (7, .int 0), (6, .int (-1)), (0, .ref mo), (1, .int l_), (2, .int c_), (3, .int 1), (4, .int f_)]) hx hb dX12_game_87 hl (by decide) (zLvf_h rfl) (fun ls hl => ?_)
              have hF0 : ∀ p, p < 8 → (xrowWorth p).toInt = gRw (zWo f_all 661 j_inns_3) (zLo f_all 661) j_inns_3 c_ (aRs (zWo f_all 661 j_inns_3) (zPo f_all 661) 7) 0 (!true) 1 p := fun p hp => hrow p (by omega)
              refine z_lp3 (T := T) 89 (fun (w : Nat) (x : Int32) (xr0 : Nat → Int32) => [[zAr T 0 m_was 7 xwas], [zAr T 0 m_rowWorth 512 xr0], [zAr T 0 m_all 3952 f_all], [zAr T 0 m_posts 7 xposts], [zAr T 0 m_shut 7 xshut], [zAr T 0 m_here 7 xhere], [zO11 mo m_all m_has i_size i_next i_where i_token i_number i_word i_wrong i_farCrossing m_read 661 j_crossings_2 j_inns_3 m_posts m_shut m_here xsteps xdone xat xgone m_was m_came m_seenAt m_rowWorth m_farBy m_used i_everywhere i_again0 i_d0 i_never i_firstCame i_longRun i_moved i_crowd i_l0 i_fitMany i_fitLeast i_fitMost m_fitPost m_fitEnd m_keptPosts i_x0]]) (fun (w : Nat) (x : Int32) (xr0 : Nat → Int32) => [(8, .int (nI w)), (5, .int 1), (7, .int 0), (6, .int x), (0, .ref mo), (1, .int l_), (2, .int c_), (3, .int 1), (4, .int f_)]) (fun (w : Nat) (x : Int32) (xr0 : Nat → Int32) => w ≤ 1 ∧ (∀ p, p < w → (xr0 p).toInt = gRw (zWo f_all 661 j_inns_3) (zLo f_all 661) j_inns_3 c_ (aRs (zWo f_all 661 j_inns_3) (zPo f_all 661) 7) 1 true 0 p) ∧ (∀ p, w ≤ p → xr0 p = xrowWorth p) ∧ (0 < w → x.toInt = gIx (gOp (zWo f_all 661 j_inns_3) (aRs (zWo f_all 661 j_inns_3) (zPo f_all 661) 7) 0 (w - 1)) (gVp (zWo f_all 661 j_inns_3) (zLo f_all 661) j_inns_3 c_ (aRs (zWo f_all 661 j_inns_3) (zPo f_all 661) 7) 0 true 0 (w - 1)) true 8)) (fun (w : Nat) (x : Int32) (xr0 : Nat → Int32) => 1 - w) ?_ 0 (-1) xrowWorth (show 0 ≤ 1 ∧ (∀ p, p < 0 → (xrowWorth p).toInt = gRw (zWo f_all 661 j_inns_3) (zLo f_all 661) j_inns_3 c_ (aRs (zWo f_all 661 j_inns_3) (zPo f_all 661) 7) 1 true 0 p) ∧ (∀ p, 0 ≤ p → xrowWorth p = xrowWorth p) ∧ (0 < 0 → ((-1) : Int32).toInt = gIx (gOp (zWo f_all 661 j_inns_3) (aRs (zWo f_all 661 j_inns_3) (zPo f_all 661) 7) 0 (0 - 1)) (gVp (zWo f_all 661 j_inns_3) (zLo f_all 661) j_inns_3 c_ (aRs (zWo f_all 661 j_inns_3) (zPo f_all 661) 7) 0 true 0 (0 - 1)) true 8) from ⟨by omega, (fun p hp => absurd hp (Nat.not_lt_zero _)), (fun _ _ => rfl), (fun q9 => absurd q9 (Nat.lt_irrefl _))⟩) G (lv_sub hl [0, 1, 2, 3, 4, 5, 6, 7, 8] rfl)
              intro w x xr0 hI9 ih_89 H locs ls G hl
              replace hI9 : w ≤ 1 ∧ (∀ p, p < w → (xr0 p).toInt = gRw (zWo f_all 661 j_inns_3) (zLo f_all 661) j_inns_3 c_ (aRs (zWo f_all 661 j_inns_3) (zPo f_all 661) 7) 1 true 0 p) ∧ (∀ p, w ≤ p → xr0 p = xrowWorth p) ∧ (0 < w → x.toInt = gIx (gOp (zWo f_all 661 j_inns_3) (aRs (zWo f_all 661 j_inns_3) (zPo f_all 661) 7) 0 (w - 1)) (gVp (zWo f_all 661 j_inns_3) (zLo f_all 661) j_inns_3 c_ (aRs (zWo f_all 661 j_inns_3) (zPo f_all 661) 7) 0 true 0 (w - 1)) true 8) := hI9
              refine zAn4 hI9 ?_
              intro hww hwr0 hxF0 hx6
              clear hI9
              replace G : zS T A s.heap s [[zAr T 0 m_was 7 xwas], [zAr T 0 m_rowWorth 512 xr0], [zAr T 0 m_all 3952 f_all], [zAr T 0 m_posts 7 xposts], [zAr T 0 m_shut 7 xshut], [zAr T 0 m_here 7 xhere], [zO11 mo m_all m_has i_size i_next i_where i_token i_number i_word i_wrong i_farCrossing m_read 661 j_crossings_2 j_inns_3 m_posts m_shut m_here xsteps xdone xat xgone m_was m_came m_seenAt m_rowWorth m_farBy m_used i_everywhere i_again0 i_d0 i_never i_firstCame i_longRun i_moved i_crowd i_l0 i_fitMany i_fitLeast i_fitMost m_fitPost m_fitEnd m_keptPosts i_x0]] _ _ := G
              replace hl : lv_has ls 11 [(8, .int (nI w)), (5, .int 1), (7, .int 0), (6, .int x), (0, .ref mo), (1, .int l_), (2, .int c_), (3, .int 1), (4, .int f_)] := hl
              refine lv_iload hx hb dX12_game_89 (lv_at hl 0 rfl) ?_
              refine lv_iload hx hb dX12_game_91 (lv_at hl 1 rfl) ?_
              refine lv_icmp_ge (tgt := 231) hx hb dX12_game_93 (by decide) (fun c_236 => ?_) (fun c_236 => ?_)
              · have c_236n : 1 ≤ w := (nI_leI (a := 1) (b := w) (by omega) (by omega)).mp c_236
                refine lv_iinc (v := (-1)) (lv' := [(7, .int (-1)), (8, .int (nI w)), (5, .int 1), (6, .int x), (0, .ref mo), (1, .int l_), (2, .int c_), (3, .int 1), (4, .int f_)]) hx hb dX12_game_231 hl (k := 2) rfl (by decide) (by decide) (zLvf_h rfl) (fun ls hl => ?_)
                refine lv_goto (tgt := 74) hx hb dX12_game_234 (by decide) ?_
                refine lv_iload hx hb dX12_game_74 (lv_at hl 0 rfl) ?_
                refine lv_if_lt (tgt := 237) hx hb dX12_game_76 (by decide) (fun _ => ?_) (fun q => absurd (by decide) q)
                refine lv_iload hx hb dX12_game_237 (lv_at hl 8 rfl) ?_
                refine lv_if_ne (tgt := 251) hx hb dX12_game_239 (by decide) (fun c_237 => ?_) (fun c_237 => ?_)
                · have c_237n : ¬ f_.toInt = (0 : Int) := fun q => c_237 ((fa_eq _ _).mpr q)
                  refine lv_iload hx hb dX12_game_251 (lv_at hl 3 rfl) ?_
                  have G := G.sub (bs' := [[zO11 mo m_all m_has i_size i_next i_where i_token i_number i_word i_wrong i_farCrossing m_read 661 j_crossings_2 j_inns_3 m_posts m_shut m_here xsteps xdone xat xgone m_was m_came m_seenAt m_rowWorth m_farBy m_used i_everywhere i_again0 i_d0 i_never i_firstCame i_longRun i_moved i_crowd i_l0 i_fitMany i_fitLeast i_fitMost m_fitPost m_fitEnd m_keptPosts i_x0], [zAr T 0 m_all 3952 f_all], [zAr T 0 m_posts 7 xposts], [zAr T 0 m_shut 7 xshut], [zAr T 0 m_here 7 xhere], [zAr T 0 m_was 7 xwas], [zAr T 0 m_rowWorth 512 xr0]]) [6, 2, 3, 4, 5, 0, 1] rfl
                  exact z_back hQz_ (z_iret C hr hlocks G (Nat.le_of_ble_eq_true rfl) (Nat.le_of_ble_eq_true rfl) dX12_game_253 ⟨661, j_crossings_2, j_inns_3, xsteps, xdone, xat, xgone, xposts, xshut, xhere, xwas, xr0, rfl, (Or.inr (Or.inr ⟨by first | with_reducible assumption | assumption, by omega, (by
                                                                have q6 : rGame (zWo f_all 661 j_inns_3) (zLo f_all 661) (zPo f_all 661) j_inns_3 c_ 1 f_ = rGame (pW f_all 661) (zLo f_all 661) (zPo f_all 661) (f_all (661 + 1)) c_ 1 f_ := by rw [← hWe, ← hNi]
                                                                unfold pGame
                                                                rw [if_pos (by show (0 ≤ c_.toInt ∧ c_.toInt < (f_all 661).toInt) ∧ 0 ≤ (1 : Int32).toInt ∧ (1 : Int32).toInt ≤ 3; exact ⟨⟨by omega, by omega⟩, by decide, by decide⟩)]
                                                                refine Eq.trans ?_ q6
                                                                unfold rGame
                                                                rw [if_neg (by first | with_reducible assumption | assumption), if_neg (by decide)]
                                                                have q9 := hx6 (by omega)
                                                                have q5 := Int32.toInt_lt x
                                                                rw [show w - 1 = 0 by omega] at q9
                                                                have q7 : x.toInt = gIx (gOk (zWo f_all 661 j_inns_3)) (fun c => gV (zWo f_all 661 j_inns_3) (zLo f_all 661) j_inns_3 c_ 0 false (gTn (zWo f_all 661 j_inns_3) (aRs (zWo f_all 661 j_inns_3) (zPo f_all 661) 7) c)) true 8 := q9.trans (gIx_cg 8 (fun c _ => ⟨rfl, rfl⟩))
                                                                have q8 := gIx_7 (ok := gOk (zWo f_all 661 j_inns_3)) (v := (fun c => gV (zWo f_all 661 j_inns_3) (zLo f_all 661) j_inns_3 c_ 0 false (gTn (zWo f_all 661 j_inns_3) (aRs (zWo f_all 661 j_inns_3) (zPo f_all 661) 7) c))) (mn := true) (fun c => gV_0 _ _ _) gOk_7
                                                                exact z_nI (m := (gIx (gOk (zWo f_all 661 j_inns_3)) (fun c => gV (zWo f_all 661 j_inns_3) (zLo f_all 661) j_inns_3 c_ 0 false (gTn (zWo f_all 661 j_inns_3) (aRs (zWo f_all 661 j_inns_3) (zPo f_all 661) 7) c)) true 8).toNat) (by omega) (by omega))⟩))⟩)
                · have c_237n : f_.toInt = (0 : Int) := (fa_eq _ _).mp c_237
                  refine lv_aload_n hx hb dX12_game_242 rfl (lv_at hl 4 rfl) ?_
                  refine z_get C G clX12 6 rfl 24 (by decide) m_fl_RX12_38 rfl dX12_game_243 ?_
                  refine lv_iconst (v := 0) hx hb dX12_game_246 (by decide) ?_
                  refine z_ild C G 1 rfl (vp_in_nI (n := 0) (by decide) (by decide)) dX12_game_247 ?_
                  refine lv_topi (fun v_238 ev_238 => ?_)
                  rw [show ((0 : Int32).toNatClampNeg) = 0 from rfl] at ev_238
                  subst ev_238
                  refine lv_goto (tgt := 253) hx hb dX12_game_248 (by decide) ?_
                  have G := G.sub (bs' := [[zO11 mo m_all m_has i_size i_next i_where i_token i_number i_word i_wrong i_farCrossing m_read 661 j_crossings_2 j_inns_3 m_posts m_shut m_here xsteps xdone xat xgone m_was m_came m_seenAt m_rowWorth m_farBy m_used i_everywhere i_again0 i_d0 i_never i_firstCame i_longRun i_moved i_crowd i_l0 i_fitMany i_fitLeast i_fitMost m_fitPost m_fitEnd m_keptPosts i_x0], [zAr T 0 m_all 3952 f_all], [zAr T 0 m_posts 7 xposts], [zAr T 0 m_shut 7 xshut], [zAr T 0 m_here 7 xhere], [zAr T 0 m_was 7 xwas], [zAr T 0 m_rowWorth 512 xr0]]) [6, 2, 3, 4, 5, 0, 1] rfl
                  exact z_back hQz_ (z_iret C hr hlocks G (Nat.le_of_ble_eq_true rfl) (Nat.le_of_ble_eq_true rfl) dX12_game_253 ⟨661, j_crossings_2, j_inns_3, xsteps, xdone, xat, xgone, xposts, xshut, xhere, xwas, xr0, rfl, (Or.inr (Or.inr ⟨by first | with_reducible assumption | assumption, by omega, (by
                                                                have q6 : rGame (zWo f_all 661 j_inns_3) (zLo f_all 661) (zPo f_all 661) j_inns_3 c_ 1 f_ = rGame (pW f_all 661) (zLo f_all 661) (zPo f_all 661) (f_all (661 + 1)) c_ 1 f_ := by rw [← hWe, ← hNi]
                                                                unfold pGame
                                                                rw [if_pos (by show (0 ≤ c_.toInt ∧ c_.toInt < (f_all 661).toInt) ∧ 0 ≤ (1 : Int32).toInt ∧ (1 : Int32).toInt ≤ 3; exact ⟨⟨by omega, by omega⟩, by decide, by decide⟩)]
                                                                refine Eq.trans ?_ q6
                                                                unfold rGame
                                                                rw [if_pos (by first | with_reducible assumption | assumption)]
                                                                have q8 := gV_0 (W := (zWo f_all 661 j_inns_3)) (L := (zLo f_all 661)) (inn := j_inns_3) (x := c_) 1 true (aRs (zWo f_all 661 j_inns_3) (zPo f_all 661) 7)
                                                                have q5 := Int32.toInt_lt (xr0 0)
                                                                have q7 : (xr0 0).toInt = gV (zWo f_all 661 j_inns_3) (zLo f_all 661) j_inns_3 c_ 1 true (aRs (zWo f_all 661 j_inns_3) (zPo f_all 661) 7) := (hwr0 0 (by omega)).trans (if_pos rfl)
                                                                exact z_nI (m := (gV (zWo f_all 661 j_inns_3) (zLo f_all 661) j_inns_3 c_ 1 true (aRs (zWo f_all 661 j_inns_3) (zPo f_all 661) 7)).toNat) (by omega) (by omega))⟩))⟩)
              · have c_236n : ¬ 1 ≤ w := fun q => c_236 ((nI_leI (a := 1) (b := w) (by omega) (by omega)).mpr q)
                refine lv_iconst (v := (-1)) hx hb dX12_game_96 (by decide) ?_
                refine lv_istore (lv' := [(6, .int (-1)), (8, .int (nI w)), (5, .int 1), (7, .int 0), (0, .ref mo), (1, .int l_), (2, .int c_), (3, .int 1), (4, .int f_)]) hx hb dX12_game_97 hl (by decide) (zLvf_h rfl) (fun ls hl => ?_)
                refine lv_iconst (v := 0) hx hb dX12_game_99 (by decide) ?_
                refine lv_istore (lv' := [(9, .int 0), (6, .int (-1)), (8, .int (nI w)), (5, .int 1), (7, .int 0), (0, .ref mo), (1, .int l_), (2, .int c_), (3, .int 1), (4, .int f_)]) hx hb dX12_game_100 hl (by decide) (zLvf_h rfl) (fun ls hl => ?_)
                refine z_lp2 (T := T) 102 (fun (i : Nat) (x : Int32) => [[zAr T 0 m_was 7 xwas], [zAr T 0 m_rowWorth 512 xr0], [zAr T 0 m_all 3952 f_all], [zAr T 0 m_posts 7 xposts], [zAr T 0 m_shut 7 xshut], [zAr T 0 m_here 7 xhere], [zO11 mo m_all m_has i_size i_next i_where i_token i_number i_word i_wrong i_farCrossing m_read 661 j_crossings_2 j_inns_3 m_posts m_shut m_here xsteps xdone xat xgone m_was m_came m_seenAt m_rowWorth m_farBy m_used i_everywhere i_again0 i_d0 i_never i_firstCame i_longRun i_moved i_crowd i_l0 i_fitMany i_fitLeast i_fitMost m_fitPost m_fitEnd m_keptPosts i_x0]]) (fun (i : Nat) (x : Int32) => [(9, .int (nI i)), (6, .int x), (8, .int (nI w)), (5, .int 1), (7, .int 0), (0, .ref mo), (1, .int l_), (2, .int c_), (3, .int 1), (4, .int f_)]) (fun (i : Nat) (x : Int32) => i ≤ 8 ∧ x.toInt = gIx (gOp (zWo f_all 661 j_inns_3) (aRs (zWo f_all 661 j_inns_3) (zPo f_all 661) 7) 0 w) (gVp (zWo f_all 661 j_inns_3) (zLo f_all 661) j_inns_3 c_ (aRs (zWo f_all 661 j_inns_3) (zPo f_all 661) 7) 0 true 0 w) true i) (fun (i : Nat) (x : Int32) => 8 - i) ?_ 0 (-1) (show 0 ≤ 8 ∧ ((-1) : Int32).toInt = gIx (gOp (zWo f_all 661 j_inns_3) (aRs (zWo f_all 661 j_inns_3) (zPo f_all 661) 7) 0 w) (gVp (zWo f_all 661 j_inns_3) (zLo f_all 661) j_inns_3 c_ (aRs (zWo f_all 661 j_inns_3) (zPo f_all 661) 7) 0 true 0 w) true 0 from ⟨by omega, rfl⟩) G (lv_sub hl [0, 1, 2, 3, 4, 5, 6, 7, 8, 9] rfl)
                intro i x hI9 ih_102 H locs ls G hl
                replace hI9 : i ≤ 8 ∧ x.toInt = gIx (gOp (zWo f_all 661 j_inns_3) (aRs (zWo f_all 661 j_inns_3) (zPo f_all 661) 7) 0 w) (gVp (zWo f_all 661 j_inns_3) (zLo f_all 661) j_inns_3 c_ (aRs (zWo f_all 661 j_inns_3) (zPo f_all 661) 7) 0 true 0 w) true i := hI9
                refine zAn2 hI9 ?_
                intro hi hxb
                clear hI9
                replace G : zS T A s.heap s [[zAr T 0 m_was 7 xwas], [zAr T 0 m_rowWorth 512 xr0], [zAr T 0 m_all 3952 f_all], [zAr T 0 m_posts 7 xposts], [zAr T 0 m_shut 7 xshut], [zAr T 0 m_here 7 xhere], [zO11 mo m_all m_has i_size i_next i_where i_token i_number i_word i_wrong i_farCrossing m_read 661 j_crossings_2 j_inns_3 m_posts m_shut m_here xsteps xdone xat xgone m_was m_came m_seenAt m_rowWorth m_farBy m_used i_everywhere i_again0 i_d0 i_never i_firstCame i_longRun i_moved i_crowd i_l0 i_fitMany i_fitLeast i_fitMost m_fitPost m_fitEnd m_keptPosts i_x0]] _ _ := G
                replace hl : lv_has ls 11 [(9, .int (nI i)), (6, .int x), (8, .int (nI w)), (5, .int 1), (7, .int 0), (0, .ref mo), (1, .int l_), (2, .int c_), (3, .int 1), (4, .int f_)] := hl
                refine lv_iload hx hb dX12_game_102 (lv_at hl 0 rfl) ?_
                refine lv_bipush (v := 8) hx hb dX12_game_104 (by decide) ?_
                refine lv_icmp_ge (tgt := 195) hx hb dX12_game_106 (by decide) (fun c_239 => ?_) (fun c_239 => ?_)
                · have c_239n : 8 ≤ i := (nI_leI (a := 8) (b := i) (by omega) (by omega)).mp c_239
                  have hb89 : x.toInt = gIx (gOp (zWo f_all 661 j_inns_3) (aRs (zWo f_all 661 j_inns_3) (zPo f_all 661) 7) 0 w) (gVp (zWo f_all 661 j_inns_3) (zLo f_all 661) j_inns_3 c_ (aRs (zWo f_all 661 j_inns_3) (zPo f_all 661) 7) 0 true 0 w) true 8 := by rw [hxb, show i = 8 by omega]
                  have hle9 := gLx_e (fun c => gVp_0 c) hb89.symm
                  have hrs9 := gRw_s (W := (zWo f_all 661 j_inns_3)) (L := (zLo f_all 661)) (inn := j_inns_3) (x := c_) (t0 := (aRs (zWo f_all 661 j_inns_3) (zPo f_all 661) 7)) (m := 0) (mn := true) (k := 0) (p := w)
                  have hxk9 := gIx_ok (ok := (gOp (zWo f_all 661 j_inns_3) (aRs (zWo f_all 661 j_inns_3) (zPo f_all 661) 7) 0 w)) (v := (gVp (zWo f_all 661 j_inns_3) (zLo f_all 661) j_inns_3 c_ (aRs (zWo f_all 661 j_inns_3) (zPo f_all 661) 7) 0 true 0 w)) (mn := true) 8
                  rw [← hb89] at hxk9
                  refine lv_aload_n hx hb dX12_game_195 rfl (lv_at hl 5 rfl) ?_
                  refine z_get C G clX12 6 rfl 24 (by decide) m_fl_RX12_38 rfl dX12_game_196 ?_
                  refine lv_iload hx hb dX12_game_199 (lv_at hl 2 rfl) ?_
                  refine lv_iload hx hb dX12_game_201 (lv_at hl 1 rfl) ?_
                  refine lv_iconst (v := (-1)) hx hb dX12_game_203 (by decide) ?_
                  refine lv_icmp_ne (tgt := 211) hx hb dX12_game_204 (by decide) (fun c_240 => ?_) (fun c_240 => ?_)
                  · have c_240n : ¬ x.toInt = (-1 : Int) := fun q => c_240 ((fa_eq _ _).mpr q)
                    refine lv_aload_n hx hb dX12_game_211 rfl (lv_at hl 5 rfl) ?_
                    refine z_get C G clX12 6 rfl 24 (by decide) m_fl_RX12_38 rfl dX12_game_212 ?_
                    refine lv_bipush (v := 8) hx hb dX12_game_215 (by decide) ?_
                    refine lv_iload hx hb dX12_game_217 (lv_at hl 2 rfl) ?_
                    refine lv_imul hx hb dX12_game_219 ?_
                    refine lv_topi (fun y_241 ey_241 => ?_)
                    obtain rfl : y_241 = nI (8 * w) := ey_241.trans (z_imuln 8 w rfl rfl)
                    refine lv_iload hx hb dX12_game_220 (lv_at hl 1 rfl) ?_
                    refine lv_iadd hx hb dX12_game_222 ?_
                    refine lv_topi (fun y_242 ey_242 => ?_)
                    have ey_242i : y_242.toInt = ((8 * w) : Int) + x.toInt := by rw [ey_242]; exact (z_iaddI (x := (nI (8 * w))) (y := x) (by rw [nI_toInt (n := 8 * w) (by omega)]; show -2147483648 ≤ ((8 * w) : Int) + x.toInt; omega) (by rw [nI_toInt (n := 8 * w) (by omega)]; show ((8 * w) : Int) + x.toInt < 2147483648; omega)).trans (by rw [nI_toInt (n := 8 * w) (by omega)] <;> rfl)
                    refine z_ild C G 1 rfl (vp_in_iff.mpr ⟨by omega, by omega⟩) dX12_game_223 ?_
                    refine lv_topi (fun v_243 ev_243 => ?_)
                    subst ev_243
                    have hxy9 := hxk9.resolve_left (by first | omega | (intro q9; omega))
                    have hw9 : (xr0 y_242.toNatClampNeg).toInt = (gVp (zWo f_all 661 j_inns_3) (zLo f_all 661) j_inns_3 c_ (aRs (zWo f_all 661 j_inns_3) (zPo f_all 661) 7) 0 true 0 w) x.toInt.toNat := by rw [(show y_242.toNatClampNeg = 8 * w + x.toInt.toNat from by have q4 := z_clI (x := y_242) (by omega); omega), hxF0 (8 * w + x.toInt.toNat) (by omega)]; exact ((hF0 (8 * w + x.toInt.toNat) (by omega)).trans (gRw_c (by omega))).trans (if_pos hxy9.2.2)
                    have hnv9 : (xr0 y_242.toNatClampNeg).toInt = gRw (zWo f_all 661 j_inns_3) (zLo f_all 661) j_inns_3 c_ (aRs (zWo f_all 661 j_inns_3) (zPo f_all 661) 7) 1 true 0 w := by rw [hrs9, hle9.2 (by omega)]; exact hw9
                    refine z_ist C G 1 rfl (vp_in_nI (by omega) (by decide)) dX12_game_224 (fun H locs G => ?_)
                    rw [nI_clamp (by omega)] at G
                    have G : zS T A s.heap s [[zAr T 0 m_was 7 xwas], [zAr T 0 m_rowWorth 512 (upd xr0 w (xr0 y_242.toNatClampNeg))], [zAr T 0 m_all 3952 f_all], [zAr T 0 m_posts 7 xposts], [zAr T 0 m_shut 7 xshut], [zAr T 0 m_here 7 xhere], [zO11 mo m_all m_has i_size i_next i_where i_token i_number i_word i_wrong i_farCrossing m_read 661 j_crossings_2 j_inns_3 m_posts m_shut m_here xsteps xdone xat xgone m_was m_came m_seenAt m_rowWorth m_farBy m_used i_everywhere i_again0 i_d0 i_never i_firstCame i_longRun i_moved i_crowd i_l0 i_fitMany i_fitLeast i_fitMost m_fitPost m_fitEnd m_keptPosts i_x0]] _ _ := G
                    refine lv_iinc (v := nI (w + 1)) (lv' := [(8, .int (nI (w + 1))), (9, .int (nI i)), (6, .int x), (5, .int 1), (7, .int 0), (0, .ref mo), (1, .int l_), (2, .int c_), (3, .int 1), (4, .int f_)]) hx hb dX12_game_225 hl (k := 2) rfl (z_inc w 1) (by decide) (zLvf_h rfl) (fun ls hl => ?_)
                    refine lv_goto (tgt := 89) hx hb dX12_game_228 (by decide) ?_
                    exact ih_89 (w + 1) x (upd xr0 w (xr0 y_242.toNatClampNeg)) (show (w + 1) ≤ 1 ∧ (∀ p, p < (w + 1) → ((upd xr0 w (xr0 y_242.toNatClampNeg)) p).toInt = gRw (zWo f_all 661 j_inns_3) (zLo f_all 661) j_inns_3 c_ (aRs (zWo f_all 661 j_inns_3) (zPo f_all 661) 7) 1 true 0 p) ∧ (∀ p, (w + 1) ≤ p → (upd xr0 w (xr0 y_242.toNatClampNeg)) p = xrowWorth p) ∧ (0 < (w + 1) → x.toInt = gIx (gOp (zWo f_all 661 j_inns_3) (aRs (zWo f_all 661 j_inns_3) (zPo f_all 661) 7) 0 ((w + 1) - 1)) (gVp (zWo f_all 661 j_inns_3) (zLo f_all 661) j_inns_3 c_ (aRs (zWo f_all 661 j_inns_3) (zPo f_all 661) 7) 0 true 0 ((w + 1) - 1)) true 8) from ⟨by omega, (gUp hwr0 hnv9), (gUk hxF0), (fun _ => hb89)⟩) (show 1 - (w + 1) < 1 - w from by omega) _ _ ls G (lv_sub hl [0, 3, 4, 2, 5, 6, 7, 8, 9] rfl)
                  · have c_240n : x.toInt = (-1 : Int) := (fa_eq _ _).mp c_240
                    refine lv_iconst (v := (-1)) hx hb dX12_game_207 (by decide) ?_
                    refine lv_goto (tgt := 224) hx hb dX12_game_208 (by decide) ?_
                    have hnv9 : ((-1) : Int32).toInt = gRw (zWo f_all 661 j_inns_3) (zLo f_all 661) j_inns_3 c_ (aRs (zWo f_all 661 j_inns_3) (zPo f_all 661) 7) 1 true 0 w := by rw [hrs9, hle9.1 (by omega)]; rfl
                    refine z_ist C G 1 rfl (vp_in_nI (by omega) (by decide)) dX12_game_224 (fun H locs G => ?_)
                    rw [nI_clamp (by omega)] at G
                    have G : zS T A s.heap s [[zAr T 0 m_was 7 xwas], [zAr T 0 m_rowWorth 512 (upd xr0 w (-1))], [zAr T 0 m_all 3952 f_all], [zAr T 0 m_posts 7 xposts], [zAr T 0 m_shut 7 xshut], [zAr T 0 m_here 7 xhere], [zO11 mo m_all m_has i_size i_next i_where i_token i_number i_word i_wrong i_farCrossing m_read 661 j_crossings_2 j_inns_3 m_posts m_shut m_here xsteps xdone xat xgone m_was m_came m_seenAt m_rowWorth m_farBy m_used i_everywhere i_again0 i_d0 i_never i_firstCame i_longRun i_moved i_crowd i_l0 i_fitMany i_fitLeast i_fitMost m_fitPost m_fitEnd m_keptPosts i_x0]] _ _ := G
                    refine lv_iinc (v := nI (w + 1)) (lv' := [(8, .int (nI (w + 1))), (9, .int (nI i)), (6, .int x), (5, .int 1), (7, .int 0), (0, .ref mo), (1, .int l_), (2, .int c_), (3, .int 1), (4, .int f_)]) hx hb dX12_game_225 hl (k := 2) rfl (z_inc w 1) (by decide) (zLvf_h rfl) (fun ls hl => ?_)
                    refine lv_goto (tgt := 89) hx hb dX12_game_228 (by decide) ?_
                    exact ih_89 (w + 1) x (upd xr0 w (-1)) (show (w + 1) ≤ 1 ∧ (∀ p, p < (w + 1) → ((upd xr0 w (-1)) p).toInt = gRw (zWo f_all 661 j_inns_3) (zLo f_all 661) j_inns_3 c_ (aRs (zWo f_all 661 j_inns_3) (zPo f_all 661) 7) 1 true 0 p) ∧ (∀ p, (w + 1) ≤ p → (upd xr0 w (-1)) p = xrowWorth p) ∧ (0 < (w + 1) → x.toInt = gIx (gOp (zWo f_all 661 j_inns_3) (aRs (zWo f_all 661 j_inns_3) (zPo f_all 661) 7) 0 ((w + 1) - 1)) (gVp (zWo f_all 661 j_inns_3) (zLo f_all 661) j_inns_3 c_ (aRs (zWo f_all 661 j_inns_3) (zPo f_all 661) 7) 0 true 0 ((w + 1) - 1)) true 8) from ⟨by omega, (gUp hwr0 hnv9), (gUk hxF0), (fun _ => hb89)⟩) (show 1 - (w + 1) < 1 - w from by omega) _ _ ls G (lv_sub hl [0, 3, 4, 2, 5, 6, 7, 8, 9] rfl)
                · have c_239n : ¬ 8 ≤ i := fun q => c_239 ((nI_leI (a := 8) (b := i) (by omega) (by omega)).mpr q)
                  refine lv_aload_n hx hb dX12_game_109 rfl (lv_at hl 5 rfl) ?_
                  refine z_get C G clX12 6 rfl 24 (by decide) m_fl_RX12_38 rfl dX12_game_110 ?_
                  refine lv_bipush (v := 8) hx hb dX12_game_113 (by decide) ?_
                  refine lv_iload hx hb dX12_game_115 (lv_at hl 2 rfl) ?_
                  refine lv_imul hx hb dX12_game_117 ?_
                  refine lv_topi (fun y_244 ey_244 => ?_)
                  obtain rfl : y_244 = nI (8 * w) := ey_244.trans (z_imuln 8 w rfl rfl)
                  refine lv_iload hx hb dX12_game_118 (lv_at hl 0 rfl) ?_
                  refine lv_iadd hx hb dX12_game_120 ?_
                  refine lv_topi (fun y_245 ey_245 => ?_)
                  obtain rfl : y_245 = nI ((8 * w) + i) := ey_245.trans (z_iaddn (8 * w) i rfl rfl)
                  refine z_ild C G 1 rfl (vp_in_nI (by omega) (by decide)) dX12_game_121 ?_
                  refine lv_topi (fun v_246 ev_246 => ?_)
                  rw [nI_clamp (by omega)] at ev_246
                  subst ev_246
                  have hv9 : (xr0 ((8 * w) + i)).toInt = if (gOp (zWo f_all 661 j_inns_3) (aRs (zWo f_all 661 j_inns_3) (zPo f_all 661) 7) 0 w) i = true then (gVp (zWo f_all 661 j_inns_3) (zLo f_all 661) j_inns_3 c_ (aRs (zWo f_all 661 j_inns_3) (zPo f_all 661) 7) 0 true 0 w) i else -1 := by rw [(show ((8 * w) + i) = 8 * w + i from by omega), hxF0 (8 * w + i) (by omega)]; exact (hF0 (8 * w + i) (by omega)).trans (gRw_c (by omega))
                  have hxk9 := gIx_ok (ok := (gOp (zWo f_all 661 j_inns_3) (aRs (zWo f_all 661 j_inns_3) (zPo f_all 661) 7) 0 w)) (v := (gVp (zWo f_all 661 j_inns_3) (zLo f_all 661) j_inns_3 c_ (aRs (zWo f_all 661 j_inns_3) (zPo f_all 661) 7) 0 true 0 w)) (mn := true) i
                  rw [← hxb] at hxk9
                  refine lv_istore (lv' := [(10, .int (xr0 ((8 * w) + i))), (9, .int (nI i)), (6, .int x), (8, .int (nI w)), (5, .int 1), (7, .int 0), (0, .ref mo), (1, .int l_), (2, .int c_), (3, .int 1), (4, .int f_)]) hx hb dX12_game_122 hl (by decide) (zLvf_h rfl) (fun ls hl => ?_)
                  refine lv_iload hx hb dX12_game_124 (lv_at hl 0 rfl) ?_
                  refine lv_iconst (v := (-1)) hx hb dX12_game_126 (by decide) ?_
                  refine lv_icmp_eq (tgt := 189) hx hb dX12_game_127 (by decide) (fun c_247 => ?_) (fun c_247 => ?_)
                  · have c_247n : (xr0 ((8 * w) + i)).toInt = (-1 : Int) := (fa_eq _ _).mp c_247
                    have hxn9 : x.toInt = gIx (gOp (zWo f_all 661 j_inns_3) (aRs (zWo f_all 661 j_inns_3) (zPo f_all 661) 7) 0 w) (gVp (zWo f_all 661 j_inns_3) (zLo f_all 661) j_inns_3 c_ (aRs (zWo f_all 661 j_inns_3) (zPo f_all 661) 7) 0 true 0 w) true (i + 1) := (gLx_n (fun c => gVp_0 c) hxb.symm hv9 (by first | exact Or.inl (by omega) | exact Or.inr ⟨by omega, by rw [if_pos rfl]; omega⟩)).symm
                    refine lv_iinc (v := nI (i + 1)) (lv' := [(9, .int (nI (i + 1))), (10, .int (xr0 ((8 * w) + i))), (6, .int x), (8, .int (nI w)), (5, .int 1), (7, .int 0), (0, .ref mo), (1, .int l_), (2, .int c_), (3, .int 1), (4, .int f_)]) hx hb dX12_game_189 hl (k := 1) rfl (z_inc i 1) (by decide) (zLvf_h rfl) (fun ls hl => ?_)
                    refine lv_goto (tgt := 102) hx hb dX12_game_192 (by decide) ?_
                    exact ih_102 (i + 1) x (show (i + 1) ≤ 8 ∧ x.toInt = gIx (gOp (zWo f_all 661 j_inns_3) (aRs (zWo f_all 661 j_inns_3) (zPo f_all 661) 7) 0 w) (gVp (zWo f_all 661 j_inns_3) (zLo f_all 661) j_inns_3 c_ (aRs (zWo f_all 661 j_inns_3) (zPo f_all 661) 7) 0 true 0 w) true (i + 1) from ⟨by omega, hxn9⟩) (show 8 - (i + 1) < 8 - i from by omega) _ _ ls G (lv_sub hl [0, 2, 3, 4, 5, 6, 7, 8, 9, 10] rfl)
                  · have c_247n : ¬ (xr0 ((8 * w) + i)).toInt = (-1 : Int) := fun q => c_247 ((fa_eq _ _).mpr q)
                    refine lv_iload hx hb dX12_game_130 (lv_at hl 2 rfl) ?_
                    refine lv_iconst (v := (-1)) hx hb dX12_game_132 (by decide) ?_
                    refine lv_icmp_eq (tgt := 185) hx hb dX12_game_133 (by decide) (fun c_248 => ?_) (fun c_248 => ?_)
                    · have c_248n : x.toInt = (-1 : Int) := (fa_eq _ _).mp c_248
                      refine lv_iload hx hb dX12_game_185 (lv_at hl 1 rfl) ?_
                      refine lv_istore (lv' := [(6, .int (nI i)), (10, .int (xr0 ((8 * w) + i))), (9, .int (nI i)), (8, .int (nI w)), (5, .int 1), (7, .int 0), (0, .ref mo), (1, .int l_), (2, .int c_), (3, .int 1), (4, .int f_)]) hx hb dX12_game_187 hl (by decide) (zLvf_h rfl) (fun ls hl => ?_)
                      have tii9 := nI_toInt (n := i) (by omega)
                      have hxn9 : (nI i).toInt = gIx (gOp (zWo f_all 661 j_inns_3) (aRs (zWo f_all 661 j_inns_3) (zPo f_all 661) 7) 0 w) (gVp (zWo f_all 661 j_inns_3) (zLo f_all 661) j_inns_3 c_ (aRs (zWo f_all 661 j_inns_3) (zPo f_all 661) 7) 0 true 0 w) true (i + 1) := tii9.trans (gLx_y hxb.symm hv9 (by omega) (by first | exact Or.inl (by omega) | exact Or.inr (by rw [if_pos rfl]; omega))).symm
                      refine lv_iinc (v := nI (i + 1)) (lv' := [(9, .int (nI (i + 1))), (6, .int (nI i)), (10, .int (xr0 ((8 * w) + i))), (8, .int (nI w)), (5, .int 1), (7, .int 0), (0, .ref mo), (1, .int l_), (2, .int c_), (3, .int 1), (4, .int f_)]) hx hb dX12_game_189 hl (k := 2) rfl (z_inc i 1) (by decide) (zLvf_h rfl) (fun ls hl => ?_)
                      refine lv_goto (tgt := 102) hx hb dX12_game_192 (by decide) ?_
                      exact ih_102 (i + 1) (nI i) (show (i + 1) ≤ 8 ∧ (nI i).toInt = gIx (gOp (zWo f_all 661 j_inns_3) (aRs (zWo f_all 661 j_inns_3) (zPo f_all 661) 7) 0 w) (gVp (zWo f_all 661 j_inns_3) (zLo f_all 661) j_inns_3 c_ (aRs (zWo f_all 661 j_inns_3) (zPo f_all 661) 7) 0 true 0 w) true (i + 1) from ⟨by omega, hxn9⟩) (show 8 - (i + 1) < 8 - i from by omega) _ _ ls G (lv_sub hl [0, 1, 3, 4, 5, 6, 7, 8, 9, 10] rfl)
                    · have c_248n : ¬ x.toInt = (-1 : Int) := fun q => c_248 ((fa_eq _ _).mpr q)
                      refine lv_iload hx hb dX12_game_136 (lv_at hl 5 rfl) ?_
                      refine lv_iconst (v := 2) hx hb dX12_game_138 (by decide) ?_
                      refine lv_irem hx hb dX12_game_139 (by decide) ?_
                      refine lv_topi (fun y_249 ey_249 => ?_)
                      obtain rfl : y_249 = 0 := ey_249.trans (by decide)
                      refine lv_if_ne (tgt := 164) hx hb dX12_game_140 (by decide) (fun q => absurd (by decide) q) (fun _ => ?_)
                      refine lv_iload hx hb dX12_game_143 (lv_at hl 0 rfl) ?_
                      refine lv_aload_n hx hb dX12_game_145 rfl (lv_at hl 6 rfl) ?_
                      refine z_get C G clX12 6 rfl 24 (by decide) m_fl_RX12_38 rfl dX12_game_146 ?_
                      refine lv_bipush (v := 8) hx hb dX12_game_149 (by decide) ?_
                      refine lv_iload hx hb dX12_game_151 (lv_at hl 3 rfl) ?_
                      refine lv_imul hx hb dX12_game_153 ?_
                      refine lv_topi (fun y_250 ey_250 => ?_)
                      obtain rfl : y_250 = nI (8 * w) := ey_250.trans (z_imuln 8 w rfl rfl)
                      refine lv_iload hx hb dX12_game_154 (lv_at hl 2 rfl) ?_
                      refine lv_iadd hx hb dX12_game_156 ?_
                      refine lv_topi (fun y_251 ey_251 => ?_)
                      have ey_251i : y_251.toInt = ((8 * w) : Int) + x.toInt := by rw [ey_251]; exact (z_iaddI (x := (nI (8 * w))) (y := x) (by rw [nI_toInt (n := 8 * w) (by omega)]; show -2147483648 ≤ ((8 * w) : Int) + x.toInt; omega) (by rw [nI_toInt (n := 8 * w) (by omega)]; show ((8 * w) : Int) + x.toInt < 2147483648; omega)).trans (by rw [nI_toInt (n := 8 * w) (by omega)] <;> rfl)
                      refine z_ild C G 1 rfl (vp_in_iff.mpr ⟨by omega, by omega⟩) dX12_game_157 ?_
                      refine lv_topi (fun v_252 ev_252 => ?_)
                      subst ev_252
                      have hxy9 := hxk9.resolve_left (by first | omega | (intro q9; omega))
                      have hw9 : (xr0 y_251.toNatClampNeg).toInt = (gVp (zWo f_all 661 j_inns_3) (zLo f_all 661) j_inns_3 c_ (aRs (zWo f_all 661 j_inns_3) (zPo f_all 661) 7) 0 true 0 w) x.toInt.toNat := by rw [(show y_251.toNatClampNeg = 8 * w + x.toInt.toNat from by have q4 := z_clI (x := y_251) (by omega); omega), hxF0 (8 * w + x.toInt.toNat) (by omega)]; exact ((hF0 (8 * w + x.toInt.toNat) (by omega)).trans (gRw_c (by omega))).trans (if_pos hxy9.2.2)
                      refine lv_icmp_lt (tgt := 185) hx hb dX12_game_158 (by decide) (fun c_253 => ?_) (fun c_253 => ?_)
                      · have c_253n : (xr0 ((8 * w) + i)).toInt < (xr0 y_251.toNatClampNeg).toInt := (fa_lt _ _).mp c_253
                        refine lv_iload hx hb dX12_game_185 (lv_at hl 1 rfl) ?_
                        refine lv_istore (lv' := [(6, .int (nI i)), (10, .int (xr0 ((8 * w) + i))), (9, .int (nI i)), (8, .int (nI w)), (5, .int 1), (7, .int 0), (0, .ref mo), (1, .int l_), (2, .int c_), (3, .int 1), (4, .int f_)]) hx hb dX12_game_187 hl (by decide) (zLvf_h rfl) (fun ls hl => ?_)
                        have tii9 := nI_toInt (n := i) (by omega)
                        have hxn9 : (nI i).toInt = gIx (gOp (zWo f_all 661 j_inns_3) (aRs (zWo f_all 661 j_inns_3) (zPo f_all 661) 7) 0 w) (gVp (zWo f_all 661 j_inns_3) (zLo f_all 661) j_inns_3 c_ (aRs (zWo f_all 661 j_inns_3) (zPo f_all 661) 7) 0 true 0 w) true (i + 1) := tii9.trans (gLx_y hxb.symm hv9 (by omega) (by first | exact Or.inl (by omega) | exact Or.inr (by rw [if_pos rfl]; omega))).symm
                        refine lv_iinc (v := nI (i + 1)) (lv' := [(9, .int (nI (i + 1))), (6, .int (nI i)), (10, .int (xr0 ((8 * w) + i))), (8, .int (nI w)), (5, .int 1), (7, .int 0), (0, .ref mo), (1, .int l_), (2, .int c_), (3, .int 1), (4, .int f_)]) hx hb dX12_game_189 hl (k := 2) rfl (z_inc i 1) (by decide) (zLvf_h rfl) (fun ls hl => ?_)
                        refine lv_goto (tgt := 102) hx hb dX12_game_192 (by decide) ?_
                        exact ih_102 (i + 1) (nI i) (show (i + 1) ≤ 8 ∧ (nI i).toInt = gIx (gOp (zWo f_all 661 j_inns_3) (aRs (zWo f_all 661 j_inns_3) (zPo f_all 661) 7) 0 w) (gVp (zWo f_all 661 j_inns_3) (zLo f_all 661) j_inns_3 c_ (aRs (zWo f_all 661 j_inns_3) (zPo f_all 661) 7) 0 true 0 w) true (i + 1) from ⟨by omega, hxn9⟩) (show 8 - (i + 1) < 8 - i from by omega) _ _ ls G (lv_sub hl [0, 1, 3, 4, 5, 6, 7, 8, 9, 10] rfl)
                      · have c_253n : ¬ (xr0 ((8 * w) + i)).toInt < (xr0 y_251.toNatClampNeg).toInt := fun q => c_253 ((fa_lt _ _).mpr q)
                        refine lv_goto (tgt := 189) hx hb dX12_game_161 (by decide) ?_
                        have hxn9 : x.toInt = gIx (gOp (zWo f_all 661 j_inns_3) (aRs (zWo f_all 661 j_inns_3) (zPo f_all 661) 7) 0 w) (gVp (zWo f_all 661 j_inns_3) (zLo f_all 661) j_inns_3 c_ (aRs (zWo f_all 661 j_inns_3) (zPo f_all 661) 7) 0 true 0 w) true (i + 1) := (gLx_n (fun c => gVp_0 c) hxb.symm hv9 (by first | exact Or.inl (by omega) | exact Or.inr ⟨by omega, by rw [if_pos rfl]; omega⟩)).symm
                        refine lv_iinc (v := nI (i + 1)) (lv' := [(9, .int (nI (i + 1))), (10, .int (xr0 ((8 * w) + i))), (6, .int x), (8, .int (nI w)), (5, .int 1), (7, .int 0), (0, .ref mo), (1, .int l_), (2, .int c_), (3, .int 1), (4, .int f_)]) hx hb dX12_game_189 hl (k := 1) rfl (z_inc i 1) (by decide) (zLvf_h rfl) (fun ls hl => ?_)
                        refine lv_goto (tgt := 102) hx hb dX12_game_192 (by decide) ?_
                        exact ih_102 (i + 1) x (show (i + 1) ≤ 8 ∧ x.toInt = gIx (gOp (zWo f_all 661 j_inns_3) (aRs (zWo f_all 661 j_inns_3) (zPo f_all 661) 7) 0 w) (gVp (zWo f_all 661 j_inns_3) (zLo f_all 661) j_inns_3 c_ (aRs (zWo f_all 661 j_inns_3) (zPo f_all 661) 7) 0 true 0 w) true (i + 1) from ⟨by omega, hxn9⟩) (show 8 - (i + 1) < 8 - i from by omega) _ _ ls G (lv_sub hl [0, 2, 3, 4, 5, 6, 7, 8, 9, 10] rfl)
            · have c_233n : ¬ 8 ≤ w := fun q => c_233 ((nI_leI (a := 8) (b := w) (by omega) (by omega)).mpr q)
              refine lv_aload_n hx hb dX12_game_45 rfl (lv_at hl 2 rfl) ?_
              refine z_get C G clX12 6 rfl 24 (by decide) m_fl_RX12_38 rfl dX12_game_46 ?_
              refine lv_iload hx hb dX12_game_49 (lv_at hl 0 rfl) ?_
              refine lv_aload_n hx hb dX12_game_51 rfl (lv_at hl 2 rfl) ?_
              refine lv_iload hx hb dX12_game_52 (lv_at hl 0 rfl) ?_
              refine lv_iload_n hx hb dX12_game_54 rfl (lv_at hl 5 rfl) ?_
              refine lv_iload_n hx hb dX12_game_55 rfl (lv_at hl 4 rfl) ?_
              have ti_254 : (nI w).toInt = ((w : Nat) : Int) := nI_toInt (by omega)
              refine z_Vi (bc := [[zO11 mo m_all m_has i_size i_next i_where i_token i_number i_word i_wrong i_farCrossing m_read 661 j_crossings_2 j_inns_3 m_posts m_shut m_here xsteps xdone xat xgone m_was m_came m_seenAt m_rowWorth m_farBy m_used i_everywhere i_again0 i_d0 i_never i_firstCame i_longRun i_moved i_crowd i_l0 i_fitMany i_fitLeast i_fitMost m_fitPost m_fitEnd m_keptPosts i_x0], [zAr T 0 m_all 3952 f_all], [zAr T 0 m_posts 7 xposts], [zAr T 0 m_shut 7 xshut], [zAr T 0 m_here 7 xhere], [zAr T 0 m_was 7 xwas]]) (br := [[zAr T 0 m_rowWorth 512 xrowWorth]]) (As := [.int (nI w), .int 1, .int c_]) (rest := [.int (nI w), .ref m_rowWorth]) C G (c_fm_gameBy1 l T mo m_all m_has i_size i_next i_where i_token i_number i_word i_wrong i_farCrossing m_read 661 j_crossings_2 j_inns_3 m_posts m_shut m_here xsteps xdone xat xgone m_was m_came m_seenAt m_rowWorth m_farBy m_used i_everywhere i_again0 i_d0 i_never i_firstCame i_longRun i_moved i_crowd i_l0 i_fitMany i_fitLeast i_fitMost m_fitPost m_fitEnd m_keptPosts i_x0 f_all xposts xshut xhere xwas w c_ hLx (by first | with_reducible assumption | with_reducible rfl | omega | assumption | rfl | decide) (by first | with_reducible assumption | with_reducible rfl | omega | assumption | rfl | decide) hVA hVz (by first | with_reducible assumption | with_reducible rfl | omega | assumption | rfl | decide)) (kV_RX12_251 C.2.2.2.2 (Nat.le_of_ble_eq_true rfl) (Nat.le_of_ble_eq_true rfl)) [6, 2, 3, 4, 5, 0] [0, 1, 0, 0, 0, 0] rfl rfl (ci := 11) (qc := (RX12, TX12, 43)) rfl rfl (List.mem_flatten.mpr ⟨_, List.mem_of_getElem? (i := 0) rfl, List.mem_cons_self⟩) rfl rfl hl.1 dX12_game_56 (Nat.le_of_ble_eq_true rfl) (Nat.le_of_ble_eq_true rfl) (fun r_264 b1 H locs hw G => ?_)
              refine zEx8 hw ?_
              intro j_steps_255 j_done_256 j_at_257 j_gone_258 g_posts_259 g_shut_260 g_here_261 g_was_262
              refine zCu2 ?_
              intro hbs9 h_263
              clear hw
              subst hbs9
              have G : zS T A s.heap s [[zAr T 0 m_rowWorth 512 xrowWorth], [zO11 mo m_all m_has i_size i_next i_where i_token i_number i_word i_wrong i_farCrossing m_read 661 j_crossings_2 j_inns_3 m_posts m_shut m_here j_steps_255 j_done_256 j_at_257 j_gone_258 m_was m_came m_seenAt m_rowWorth m_farBy m_used i_everywhere i_again0 i_d0 i_never i_firstCame i_longRun i_moved i_crowd i_l0 i_fitMany i_fitLeast i_fitMost m_fitPost m_fitEnd m_keptPosts i_x0], [zAr T 0 m_all 3952 f_all], [zAr T 0 m_posts 7 g_posts_259], [zAr T 0 m_shut 7 g_shut_260], [zAr T 0 m_here 7 g_here_261], [zAr T 0 m_was 7 g_was_262]] _ _ := G
              have hgb9 : r_264.toInt = gRw (zWo f_all 661 j_inns_3) (zLo f_all 661) j_inns_3 c_ (aRs (zWo f_all 661 j_inns_3) (zPo f_all 661) 7) 0 false 1 w := h_263
              refine z_ist C G 0 rfl (vp_in_nI (by omega) (by decide)) dX12_game_59 (fun H locs G => ?_)
              rw [nI_clamp (by omega)] at G
              have G : zS T A s.heap s [[zAr T 0 m_rowWorth 512 (upd xrowWorth w r_264)], [zO11 mo m_all m_has i_size i_next i_where i_token i_number i_word i_wrong i_farCrossing m_read 661 j_crossings_2 j_inns_3 m_posts m_shut m_here j_steps_255 j_done_256 j_at_257 j_gone_258 m_was m_came m_seenAt m_rowWorth m_farBy m_used i_everywhere i_again0 i_d0 i_never i_firstCame i_longRun i_moved i_crowd i_l0 i_fitMany i_fitLeast i_fitMost m_fitPost m_fitEnd m_keptPosts i_x0], [zAr T 0 m_all 3952 f_all], [zAr T 0 m_posts 7 g_posts_259], [zAr T 0 m_shut 7 g_shut_260], [zAr T 0 m_here 7 g_here_261], [zAr T 0 m_was 7 g_was_262]] _ _ := G
              refine lv_iinc (v := nI (w + 1)) (lv' := [(6, .int (nI (w + 1))), (5, .int 8), (0, .ref mo), (1, .int l_), (2, .int c_), (3, .int 1), (4, .int f_)]) hx hb dX12_game_60 hl (k := 0) rfl (z_inc w 1) (by decide) (zLvf_h rfl) (fun ls hl => ?_)
              refine lv_goto (tgt := 38) hx hb dX12_game_63 (by decide) ?_
              have G := G.sub (bs' := [[zAr T 0 m_was 7 g_was_262], [zAr T 0 m_rowWorth 512 (upd xrowWorth w r_264)], [zAr T 0 m_all 3952 f_all], [zAr T 0 m_posts 7 g_posts_259], [zAr T 0 m_shut 7 g_shut_260], [zAr T 0 m_here 7 g_here_261], [zO11 mo m_all m_has i_size i_next i_where i_token i_number i_word i_wrong i_farCrossing m_read 661 j_crossings_2 j_inns_3 m_posts m_shut m_here j_steps_255 j_done_256 j_at_257 j_gone_258 m_was m_came m_seenAt m_rowWorth m_farBy m_used i_everywhere i_again0 i_d0 i_never i_firstCame i_longRun i_moved i_crowd i_l0 i_fitMany i_fitLeast i_fitMost m_fitPost m_fitEnd m_keptPosts i_x0]]) [6, 0, 2, 3, 4, 5, 1] rfl
              exact ih_38 (w + 1) j_at_257 j_gone_258 j_steps_255 j_done_256 g_posts_259 g_shut_260 g_here_261 g_was_262 (upd xrowWorth w r_264) (show (w + 1) ≤ 8 ∧ (∀ p, p < (w + 1) → ((upd xrowWorth w r_264) p).toInt = gRw (zWo f_all 661 j_inns_3) (zLo f_all 661) j_inns_3 c_ (aRs (zWo f_all 661 j_inns_3) (zPo f_all 661) 7) 0 false 1 p) from ⟨by omega, (gUp hrow hgb9)⟩) (show 8 - (w + 1) < 8 - w from by omega) _ _ ls G (lv_sub hl [0, 1, 2, 3, 4, 5, 6] rfl)
          · obtain rfl : n_ = 2 := Int32.toInt_inj.mp hnn9
            refine lv_iconst (v := 1) hx hb dX12_game_28 (by decide) ?_
            refine lv_iconst (v := 3) hx hb dX12_game_29 (by decide) ?_
            refine lv_iload_n hx hb dX12_game_30 rfl (lv_at hl 3 rfl) ?_
            refine lv_imul hx hb dX12_game_31 ?_
            refine lv_topi (fun y_265 ey_265 => ?_)
            obtain rfl : y_265 = 6 := ey_265.trans (by decide)
            refine lv_ishl hx hb dX12_game_32 ?_
            refine lv_topi (fun y_266 ey_266 => ?_)
            obtain rfl : y_266 = 64 := ey_266.trans (by decide)
            refine lv_istore (lv' := [(5, .int 64), (0, .ref mo), (1, .int l_), (2, .int c_), (3, .int 2), (4, .int f_)]) hx hb dX12_game_33 hl (by decide) (zLvf_h rfl) (fun ls hl => ?_)
            refine lv_iconst (v := 0) hx hb dX12_game_35 (by decide) ?_
            refine lv_istore (lv' := [(6, .int 0), (5, .int 64), (0, .ref mo), (1, .int l_), (2, .int c_), (3, .int 2), (4, .int f_)]) hx hb dX12_game_36 hl (by decide) (zLvf_h rfl) (fun ls hl => ?_)
            refine z_lp10 (T := T) 38 (fun (w : Nat) (xat : Int32) (xgone : Int32) (xsteps : Int32) (xdone : Int32) (xposts : Nat → Int32) (xshut : Nat → Int32) (xhere : Nat → Int32) (xwas : Nat → Int32) (xrowWorth : Nat → Int32) => [[zAr T 0 m_was 7 xwas], [zAr T 0 m_rowWorth 512 xrowWorth], [zAr T 0 m_all 3952 f_all], [zAr T 0 m_posts 7 xposts], [zAr T 0 m_shut 7 xshut], [zAr T 0 m_here 7 xhere], [zO11 mo m_all m_has i_size i_next i_where i_token i_number i_word i_wrong i_farCrossing m_read 661 j_crossings_2 j_inns_3 m_posts m_shut m_here xsteps xdone xat xgone m_was m_came m_seenAt m_rowWorth m_farBy m_used i_everywhere i_again0 i_d0 i_never i_firstCame i_longRun i_moved i_crowd i_l0 i_fitMany i_fitLeast i_fitMost m_fitPost m_fitEnd m_keptPosts i_x0]]) (fun (w : Nat) (xat : Int32) (xgone : Int32) (xsteps : Int32) (xdone : Int32) (xposts : Nat → Int32) (xshut : Nat → Int32) (xhere : Nat → Int32) (xwas : Nat → Int32) (xrowWorth : Nat → Int32) => [(6, .int (nI w)), (5, .int 64), (0, .ref mo), (1, .int l_), (2, .int c_), (3, .int 2), (4, .int f_)]) (fun (w : Nat) (xat : Int32) (xgone : Int32) (xsteps : Int32) (xdone : Int32) (xposts : Nat → Int32) (xshut : Nat → Int32) (xhere : Nat → Int32) (xwas : Nat → Int32) (xrowWorth : Nat → Int32) => w ≤ 64 ∧ (∀ p, p < w → (xrowWorth p).toInt = gRw (zWo f_all 661 j_inns_3) (zLo f_all 661) j_inns_3 c_ (aRs (zWo f_all 661 j_inns_3) (zPo f_all 661) 7) 0 true 2 p)) (fun (w : Nat) (xat : Int32) (xgone : Int32) (xsteps : Int32) (xdone : Int32) (xposts : Nat → Int32) (xshut : Nat → Int32) (xhere : Nat → Int32) (xwas : Nat → Int32) (xrowWorth : Nat → Int32) => 64 - w) ?_ 0 i_at i_gone j_steps_4 j_done_5 g_posts_6 g_shut_7 g_here_8 f_was f_rowWorth (show 0 ≤ 64 ∧ (∀ p, p < 0 → (f_rowWorth p).toInt = gRw (zWo f_all 661 j_inns_3) (zLo f_all 661) j_inns_3 c_ (aRs (zWo f_all 661 j_inns_3) (zPo f_all 661) 7) 0 true 2 p) from ⟨by omega, (fun p hp => absurd hp (Nat.not_lt_zero _))⟩) G (lv_sub hl [0, 1, 2, 3, 4, 5, 6] rfl)
            intro w xat xgone xsteps xdone xposts xshut xhere xwas xrowWorth hI9 ih_38 H locs ls G hl
            replace hI9 : w ≤ 64 ∧ (∀ p, p < w → (xrowWorth p).toInt = gRw (zWo f_all 661 j_inns_3) (zLo f_all 661) j_inns_3 c_ (aRs (zWo f_all 661 j_inns_3) (zPo f_all 661) 7) 0 true 2 p) := hI9
            refine zAn2 hI9 ?_
            intro hww hrow
            clear hI9
            replace G : zS T A s.heap s [[zAr T 0 m_was 7 xwas], [zAr T 0 m_rowWorth 512 xrowWorth], [zAr T 0 m_all 3952 f_all], [zAr T 0 m_posts 7 xposts], [zAr T 0 m_shut 7 xshut], [zAr T 0 m_here 7 xhere], [zO11 mo m_all m_has i_size i_next i_where i_token i_number i_word i_wrong i_farCrossing m_read 661 j_crossings_2 j_inns_3 m_posts m_shut m_here xsteps xdone xat xgone m_was m_came m_seenAt m_rowWorth m_farBy m_used i_everywhere i_again0 i_d0 i_never i_firstCame i_longRun i_moved i_crowd i_l0 i_fitMany i_fitLeast i_fitMost m_fitPost m_fitEnd m_keptPosts i_x0]] _ _ := G
            replace hl : lv_has ls 11 [(6, .int (nI w)), (5, .int 64), (0, .ref mo), (1, .int l_), (2, .int c_), (3, .int 2), (4, .int f_)] := hl
            refine lv_iload hx hb dX12_game_38 (lv_at hl 0 rfl) ?_
            refine lv_iload hx hb dX12_game_40 (lv_at hl 1 rfl) ?_
            refine lv_icmp_ge (tgt := 66) hx hb dX12_game_42 (by decide) (fun c_267 => ?_) (fun c_267 => ?_)
            · have c_267n : 64 ≤ w := (nI_leI (a := 64) (b := w) (by omega) (by omega)).mp c_267
              refine lv_iconst (v := (-1)) hx hb dX12_game_66 (by decide) ?_
              refine lv_istore (lv' := [(6, .int (-1)), (5, .int 64), (0, .ref mo), (1, .int l_), (2, .int c_), (3, .int 2), (4, .int f_)]) hx hb dX12_game_67 hl (by decide) (zLvf_h rfl) (fun ls hl => ?_)
              refine lv_iload_n hx hb dX12_game_69 rfl (lv_at hl 5 rfl) ?_
              refine lv_iconst (v := 1) hx hb dX12_game_70 (by decide) ?_
              refine lv_isub hx hb dX12_game_71 ?_
              refine lv_topi (fun y_268 ey_268 => ?_)
              obtain rfl : y_268 = 1 := ey_268.trans (by decide)
              refine lv_istore (lv' := [(7, .int 1), (6, .int (-1)), (5, .int 64), (0, .ref mo), (1, .int l_), (2, .int c_), (3, .int 2), (4, .int f_)]) hx hb dX12_game_72 hl (by decide) (zLvf_h rfl) (fun ls hl => ?_)
              refine lv_iload hx hb dX12_game_74 (lv_at hl 0 rfl) ?_
              refine lv_if_lt (tgt := 237) hx hb dX12_game_76 (by decide) (fun q => absurd q (by decide)) (fun _ => ?_)
              refine lv_iload hx hb dX12_game_79 (lv_at hl 2 rfl) ?_
              refine lv_bipush (v := 8) hx hb dX12_game_81 (by decide) ?_
              refine lv_idiv hx hb dX12_game_83 (by decide) ?_
              refine lv_topi (fun y_269 ey_269 => ?_)
              obtain rfl : y_269 = 8 := ey_269.trans (by decide)
              refine lv_istore (lv' := [(5, .int 8), (7, .int 1), (6, .int (-1)), (0, .ref mo), (1, .int l_), (2, .int c_), (3, .int 2), (4, .int f_)]) hx hb dX12_game_84 hl (by decide) (zLvf_h rfl) (fun ls hl => ?_)
              refine lv_iconst (v := 0) hx hb dX12_game_86 (by decide) ?_
              refine lv_istore (lv' := [(8, .int 0), (5, .int 8), (7, .int 1), (6, .int (-1)), (0, .ref mo), (1, .int l_), (2, .int c_), (3, .int 2), (4, .int f_)]) hx hb dX12_game_87 hl (by decide) (zLvf_h rfl) (fun ls hl => ?_)
              have hF1 : ∀ p, p < 64 → (xrowWorth p).toInt = gRw (zWo f_all 661 j_inns_3) (zLo f_all 661) j_inns_3 c_ (aRs (zWo f_all 661 j_inns_3) (zPo f_all 661) 7) 0 (!false) 2 p := fun p hp => hrow p (by omega)
              refine z_lp3 (T := T) 89 (fun (w : Nat) (x : Int32) (xr1 : Nat → Int32) => [[zAr T 0 m_was 7 xwas], [zAr T 0 m_rowWorth 512 xr1], [zAr T 0 m_all 3952 f_all], [zAr T 0 m_posts 7 xposts], [zAr T 0 m_shut 7 xshut], [zAr T 0 m_here 7 xhere], [zO11 mo m_all m_has i_size i_next i_where i_token i_number i_word i_wrong i_farCrossing m_read 661 j_crossings_2 j_inns_3 m_posts m_shut m_here xsteps xdone xat xgone m_was m_came m_seenAt m_rowWorth m_farBy m_used i_everywhere i_again0 i_d0 i_never i_firstCame i_longRun i_moved i_crowd i_l0 i_fitMany i_fitLeast i_fitMost m_fitPost m_fitEnd m_keptPosts i_x0]]) (fun (w : Nat) (x : Int32) (xr1 : Nat → Int32) => [(8, .int (nI w)), (5, .int 8), (7, .int 1), (6, .int x), (0, .ref mo), (1, .int l_), (2, .int c_), (3, .int 2), (4, .int f_)]) (fun (w : Nat) (x : Int32) (xr1 : Nat → Int32) => w ≤ 8 ∧ (∀ p, p < w → (xr1 p).toInt = gRw (zWo f_all 661 j_inns_3) (zLo f_all 661) j_inns_3 c_ (aRs (zWo f_all 661 j_inns_3) (zPo f_all 661) 7) 1 false 1 p) ∧ (∀ p, w ≤ p → xr1 p = xrowWorth p) ∧ (0 < w → x.toInt = gIx (gOp (zWo f_all 661 j_inns_3) (aRs (zWo f_all 661 j_inns_3) (zPo f_all 661) 7) 1 (w - 1)) (gVp (zWo f_all 661 j_inns_3) (zLo f_all 661) j_inns_3 c_ (aRs (zWo f_all 661 j_inns_3) (zPo f_all 661) 7) 0 false 1 (w - 1)) false 8)) (fun (w : Nat) (x : Int32) (xr1 : Nat → Int32) => 8 - w) ?_ 0 (-1) xrowWorth (show 0 ≤ 8 ∧ (∀ p, p < 0 → (xrowWorth p).toInt = gRw (zWo f_all 661 j_inns_3) (zLo f_all 661) j_inns_3 c_ (aRs (zWo f_all 661 j_inns_3) (zPo f_all 661) 7) 1 false 1 p) ∧ (∀ p, 0 ≤ p → xrowWorth p = xrowWorth p) ∧ (0 < 0 → ((-1) : Int32).toInt = gIx (gOp (zWo f_all 661 j_inns_3) (aRs (zWo f_all 661 j_inns_3) (zPo f_all 661) 7) 1 (0 - 1)) (gVp (zWo f_all 661 j_inns_3) (zLo f_all 661) j_inns_3 c_ (aRs (zWo f_all 661 j_inns_3) (zPo f_all 661) 7) 0 false 1 (0 - 1)) false 8) from ⟨by omega, (fun p hp => absurd hp (Nat.not_lt_zero _)), (fun _ _ => rfl), (fun q9 => absurd q9 (Nat.lt_irrefl _))⟩) G (lv_sub hl [0, 1, 2, 3, 4, 5, 6, 7, 8] rfl)
              intro w x xr1 hI9 ih_89 H locs ls G hl
              replace hI9 : w ≤ 8 ∧ (∀ p, p < w → (xr1 p).toInt = gRw (zWo f_all 661 j_inns_3) (zLo f_all 661) j_inns_3 c_ (aRs (zWo f_all 661 j_inns_3) (zPo f_all 661) 7) 1 false 1 p) ∧ (∀ p, w ≤ p → xr1 p = xrowWorth p) ∧ (0 < w → x.toInt = gIx (gOp (zWo f_all 661 j_inns_3) (aRs (zWo f_all 661 j_inns_3) (zPo f_all 661) 7) 1 (w - 1)) (gVp (zWo f_all 661 j_inns_3) (zLo f_all 661) j_inns_3 c_ (aRs (zWo f_all 661 j_inns_3) (zPo f_all 661) 7) 0 false 1 (w - 1)) false 8) := hI9
              refine zAn4 hI9 ?_
              intro hww hwr1 hxF1 hx6
              clear hI9
              replace G : zS T A s.heap s [[zAr T 0 m_was 7 xwas], [zAr T 0 m_rowWorth 512 xr1], [zAr T 0 m_all 3952 f_all], [zAr T 0 m_posts 7 xposts], [zAr T 0 m_shut 7 xshut], [zAr T 0 m_here 7 xhere], [zO11 mo m_all m_has i_size i_next i_where i_token i_number i_word i_wrong i_farCrossing m_read 661 j_crossings_2 j_inns_3 m_posts m_shut m_here xsteps xdone xat xgone m_was m_came m_seenAt m_rowWorth m_farBy m_used i_everywhere i_again0 i_d0 i_never i_firstCame i_longRun i_moved i_crowd i_l0 i_fitMany i_fitLeast i_fitMost m_fitPost m_fitEnd m_keptPosts i_x0]] _ _ := G
              replace hl : lv_has ls 11 [(8, .int (nI w)), (5, .int 8), (7, .int 1), (6, .int x), (0, .ref mo), (1, .int l_), (2, .int c_), (3, .int 2), (4, .int f_)] := hl
              refine lv_iload hx hb dX12_game_89 (lv_at hl 0 rfl) ?_
              refine lv_iload hx hb dX12_game_91 (lv_at hl 1 rfl) ?_
              refine lv_icmp_ge (tgt := 231) hx hb dX12_game_93 (by decide) (fun c_270 => ?_) (fun c_270 => ?_)
              · have c_270n : 8 ≤ w := (nI_leI (a := 8) (b := w) (by omega) (by omega)).mp c_270
                refine lv_iinc (v := 0) (lv' := [(7, .int 0), (8, .int (nI w)), (5, .int 8), (6, .int x), (0, .ref mo), (1, .int l_), (2, .int c_), (3, .int 2), (4, .int f_)]) hx hb dX12_game_231 hl (k := 2) rfl (by decide) (by decide) (zLvf_h rfl) (fun ls hl => ?_)
                refine lv_goto (tgt := 74) hx hb dX12_game_234 (by decide) ?_
                refine lv_iload hx hb dX12_game_74 (lv_at hl 0 rfl) ?_
                refine lv_if_lt (tgt := 237) hx hb dX12_game_76 (by decide) (fun q => absurd q (by decide)) (fun _ => ?_)
                refine lv_iload hx hb dX12_game_79 (lv_at hl 2 rfl) ?_
                refine lv_bipush (v := 8) hx hb dX12_game_81 (by decide) ?_
                refine lv_idiv hx hb dX12_game_83 (by decide) ?_
                refine lv_topi (fun y_271 ey_271 => ?_)
                obtain rfl : y_271 = 1 := ey_271.trans (by decide)
                refine lv_istore (lv' := [(5, .int 1), (7, .int 0), (8, .int (nI w)), (6, .int x), (0, .ref mo), (1, .int l_), (2, .int c_), (3, .int 2), (4, .int f_)]) hx hb dX12_game_84 hl (by decide) (zLvf_h rfl) (fun ls hl => ?_)
                refine lv_iconst (v := 0) hx hb dX12_game_86 (by decide) ?_
                refine lv_istore (lv' := [(8, .int 0), (5, .int 1), (7, .int 0), (6, .int x), (0, .ref mo), (1, .int l_), (2, .int c_), (3, .int 2), (4, .int f_)]) hx hb dX12_game_87 hl (by decide) (zLvf_h rfl) (fun ls hl => ?_)
                have hF0 : ∀ p, p < 8 → (xr1 p).toInt = gRw (zWo f_all 661 j_inns_3) (zLo f_all 661) j_inns_3 c_ (aRs (zWo f_all 661 j_inns_3) (zPo f_all 661) 7) 1 (!true) 1 p := fun p hp => hwr1 p (by omega)
                refine z_lp3 (T := T) 89 (fun (w : Nat) (x : Int32) (xr0 : Nat → Int32) => [[zAr T 0 m_was 7 xwas], [zAr T 0 m_rowWorth 512 xr0], [zAr T 0 m_all 3952 f_all], [zAr T 0 m_posts 7 xposts], [zAr T 0 m_shut 7 xshut], [zAr T 0 m_here 7 xhere], [zO11 mo m_all m_has i_size i_next i_where i_token i_number i_word i_wrong i_farCrossing m_read 661 j_crossings_2 j_inns_3 m_posts m_shut m_here xsteps xdone xat xgone m_was m_came m_seenAt m_rowWorth m_farBy m_used i_everywhere i_again0 i_d0 i_never i_firstCame i_longRun i_moved i_crowd i_l0 i_fitMany i_fitLeast i_fitMost m_fitPost m_fitEnd m_keptPosts i_x0]]) (fun (w : Nat) (x : Int32) (xr0 : Nat → Int32) => [(8, .int (nI w)), (5, .int 1), (7, .int 0), (6, .int x), (0, .ref mo), (1, .int l_), (2, .int c_), (3, .int 2), (4, .int f_)]) (fun (w : Nat) (x : Int32) (xr0 : Nat → Int32) => w ≤ 1 ∧ (∀ p, p < w → (xr0 p).toInt = gRw (zWo f_all 661 j_inns_3) (zLo f_all 661) j_inns_3 c_ (aRs (zWo f_all 661 j_inns_3) (zPo f_all 661) 7) 2 true 0 p) ∧ (∀ p, w ≤ p → xr0 p = xr1 p) ∧ (0 < w → x.toInt = gIx (gOp (zWo f_all 661 j_inns_3) (aRs (zWo f_all 661 j_inns_3) (zPo f_all 661) 7) 0 (w - 1)) (gVp (zWo f_all 661 j_inns_3) (zLo f_all 661) j_inns_3 c_ (aRs (zWo f_all 661 j_inns_3) (zPo f_all 661) 7) 1 true 0 (w - 1)) true 8)) (fun (w : Nat) (x : Int32) (xr0 : Nat → Int32) => 1 - w) ?_ 0 x xr1 (show 0 ≤ 1 ∧ (∀ p, p < 0 → (xr1 p).toInt = gRw (zWo f_all 661 j_inns_3) (zLo f_all 661) j_inns_3 c_ (aRs (zWo f_all 661 j_inns_3) (zPo f_all 661) 7) 2 true 0 p) ∧ (∀ p, 0 ≤ p → xr1 p = xr1 p) ∧ (0 < 0 → x.toInt = gIx (gOp (zWo f_all 661 j_inns_3) (aRs (zWo f_all 661 j_inns_3) (zPo f_all 661) 7) 0 (0 - 1)) (gVp (zWo f_all 661 j_inns_3) (zLo f_all 661) j_inns_3 c_ (aRs (zWo f_all 661 j_inns_3) (zPo f_all 661) 7) 1 true 0 (0 - 1)) true 8) from ⟨by omega, (fun p hp => absurd hp (Nat.not_lt_zero _)), (fun _ _ => rfl), (fun q9 => absurd q9 (Nat.lt_irrefl _))⟩) G (lv_sub hl [0, 1, 2, 3, 4, 5, 6, 7, 8] rfl)
                intro w x xr0 hI9 ih_89 H locs ls G hl
                replace hI9 : w ≤ 1 ∧ (∀ p, p < w → (xr0 p).toInt = gRw (zWo f_all 661 j_inns_3) (zLo f_all 661) j_inns_3 c_ (aRs (zWo f_all 661 j_inns_3) (zPo f_all 661) 7) 2 true 0 p) ∧ (∀ p, w ≤ p → xr0 p = xr1 p) ∧ (0 < w → x.toInt = gIx (gOp (zWo f_all 661 j_inns_3) (aRs (zWo f_all 661 j_inns_3) (zPo f_all 661) 7) 0 (w - 1)) (gVp (zWo f_all 661 j_inns_3) (zLo f_all 661) j_inns_3 c_ (aRs (zWo f_all 661 j_inns_3) (zPo f_all 661) 7) 1 true 0 (w - 1)) true 8) := hI9
                refine zAn4 hI9 ?_
                intro hww hwr0 hxF0 hx6
                clear hI9
                replace G : zS T A s.heap s [[zAr T 0 m_was 7 xwas], [zAr T 0 m_rowWorth 512 xr0], [zAr T 0 m_all 3952 f_all], [zAr T 0 m_posts 7 xposts], [zAr T 0 m_shut 7 xshut], [zAr T 0 m_here 7 xhere], [zO11 mo m_all m_has i_size i_next i_where i_token i_number i_word i_wrong i_farCrossing m_read 661 j_crossings_2 j_inns_3 m_posts m_shut m_here xsteps xdone xat xgone m_was m_came m_seenAt m_rowWorth m_farBy m_used i_everywhere i_again0 i_d0 i_never i_firstCame i_longRun i_moved i_crowd i_l0 i_fitMany i_fitLeast i_fitMost m_fitPost m_fitEnd m_keptPosts i_x0]] _ _ := G
                replace hl : lv_has ls 11 [(8, .int (nI w)), (5, .int 1), (7, .int 0), (6, .int x), (0, .ref mo), (1, .int l_), (2, .int c_), (3, .int 2), (4, .int f_)] := hl
                refine lv_iload hx hb dX12_game_89 (lv_at hl 0 rfl) ?_
                refine lv_iload hx hb dX12_game_91 (lv_at hl 1 rfl) ?_
                refine lv_icmp_ge (tgt := 231) hx hb dX12_game_93 (by decide) (fun c_272 => ?_) (fun c_272 => ?_)
                · have c_272n : 1 ≤ w := (nI_leI (a := 1) (b := w) (by omega) (by omega)).mp c_272
                  refine lv_iinc (v := (-1)) (lv' := [(7, .int (-1)), (8, .int (nI w)), (5, .int 1), (6, .int x), (0, .ref mo), (1, .int l_), (2, .int c_), (3, .int 2), (4, .int f_)]) hx hb dX12_game_231 hl (k := 2) rfl (by decide) (by decide) (zLvf_h rfl) (fun ls hl => ?_)
                  refine lv_goto (tgt := 74) hx hb dX12_game_234 (by decide) ?_
                  refine lv_iload hx hb dX12_game_74 (lv_at hl 0 rfl) ?_
                  refine lv_if_lt (tgt := 237) hx hb dX12_game_76 (by decide) (fun _ => ?_) (fun q => absurd (by decide) q)
                  refine lv_iload hx hb dX12_game_237 (lv_at hl 8 rfl) ?_
                  refine lv_if_ne (tgt := 251) hx hb dX12_game_239 (by decide) (fun c_273 => ?_) (fun c_273 => ?_)
                  · have c_273n : ¬ f_.toInt = (0 : Int) := fun q => c_273 ((fa_eq _ _).mpr q)
                    refine lv_iload hx hb dX12_game_251 (lv_at hl 3 rfl) ?_
                    have G := G.sub (bs' := [[zO11 mo m_all m_has i_size i_next i_where i_token i_number i_word i_wrong i_farCrossing m_read 661 j_crossings_2 j_inns_3 m_posts m_shut m_here xsteps xdone xat xgone m_was m_came m_seenAt m_rowWorth m_farBy m_used i_everywhere i_again0 i_d0 i_never i_firstCame i_longRun i_moved i_crowd i_l0 i_fitMany i_fitLeast i_fitMost m_fitPost m_fitEnd m_keptPosts i_x0], [zAr T 0 m_all 3952 f_all], [zAr T 0 m_posts 7 xposts], [zAr T 0 m_shut 7 xshut], [zAr T 0 m_here 7 xhere], [zAr T 0 m_was 7 xwas], [zAr T 0 m_rowWorth 512 xr0]]) [6, 2, 3, 4, 5, 0, 1] rfl
                    exact z_back hQz_ (z_iret C hr hlocks G (Nat.le_of_ble_eq_true rfl) (Nat.le_of_ble_eq_true rfl) dX12_game_253 ⟨661, j_crossings_2, j_inns_3, xsteps, xdone, xat, xgone, xposts, xshut, xhere, xwas, xr0, rfl, (Or.inr (Or.inr ⟨by first | with_reducible assumption | assumption, by omega, (by
                                                                have q6 : rGame (zWo f_all 661 j_inns_3) (zLo f_all 661) (zPo f_all 661) j_inns_3 c_ 2 f_ = rGame (pW f_all 661) (zLo f_all 661) (zPo f_all 661) (f_all (661 + 1)) c_ 2 f_ := by rw [← hWe, ← hNi]
                                                                unfold pGame
                                                                rw [if_pos (by show (0 ≤ c_.toInt ∧ c_.toInt < (f_all 661).toInt) ∧ 0 ≤ (2 : Int32).toInt ∧ (2 : Int32).toInt ≤ 3; exact ⟨⟨by omega, by omega⟩, by decide, by decide⟩)]
                                                                refine Eq.trans ?_ q6
                                                                unfold rGame
                                                                rw [if_neg (by first | with_reducible assumption | assumption), if_neg (by decide)]
                                                                have q9 := hx6 (by omega)
                                                                have q5 := Int32.toInt_lt x
                                                                rw [show w - 1 = 0 by omega] at q9
                                                                have q7 : x.toInt = gIx (gOk (zWo f_all 661 j_inns_3)) (fun c => gV (zWo f_all 661 j_inns_3) (zLo f_all 661) j_inns_3 c_ 1 false (gTn (zWo f_all 661 j_inns_3) (aRs (zWo f_all 661 j_inns_3) (zPo f_all 661) 7) c)) true 8 := q9.trans (gIx_cg 8 (fun c _ => ⟨rfl, rfl⟩))
                                                                have q8 := gIx_7 (ok := gOk (zWo f_all 661 j_inns_3)) (v := (fun c => gV (zWo f_all 661 j_inns_3) (zLo f_all 661) j_inns_3 c_ 1 false (gTn (zWo f_all 661 j_inns_3) (aRs (zWo f_all 661 j_inns_3) (zPo f_all 661) 7) c))) (mn := true) (fun c => gV_0 _ _ _) gOk_7
                                                                exact z_nI (m := (gIx (gOk (zWo f_all 661 j_inns_3)) (fun c => gV (zWo f_all 661 j_inns_3) (zLo f_all 661) j_inns_3 c_ 1 false (gTn (zWo f_all 661 j_inns_3) (aRs (zWo f_all 661 j_inns_3) (zPo f_all 661) 7) c)) true 8).toNat) (by omega) (by omega))⟩))⟩)
                  · have c_273n : f_.toInt = (0 : Int) := (fa_eq _ _).mp c_273
                    refine lv_aload_n hx hb dX12_game_242 rfl (lv_at hl 4 rfl) ?_
                    refine z_get C G clX12 6 rfl 24 (by decide) m_fl_RX12_38 rfl dX12_game_243 ?_
                    refine lv_iconst (v := 0) hx hb dX12_game_246 (by decide) ?_
                    refine z_ild C G 1 rfl (vp_in_nI (n := 0) (by decide) (by decide)) dX12_game_247 ?_
                    refine lv_topi (fun v_274 ev_274 => ?_)
                    rw [show ((0 : Int32).toNatClampNeg) = 0 from rfl] at ev_274
                    subst ev_274
                    refine lv_goto (tgt := 253) hx hb dX12_game_248 (by decide) ?_
                    have G := G.sub (bs' := [[zO11 mo m_all m_has i_size i_next i_where i_token i_number i_word i_wrong i_farCrossing m_read 661 j_crossings_2 j_inns_3 m_posts m_shut m_here xsteps xdone xat xgone m_was m_came m_seenAt m_rowWorth m_farBy m_used i_everywhere i_again0 i_d0 i_never i_firstCame i_longRun i_moved i_crowd i_l0 i_fitMany i_fitLeast i_fitMost m_fitPost m_fitEnd m_keptPosts i_x0], [zAr T 0 m_all 3952 f_all], [zAr T 0 m_posts 7 xposts], [zAr T 0 m_shut 7 xshut], [zAr T 0 m_here 7 xhere], [zAr T 0 m_was 7 xwas], [zAr T 0 m_rowWorth 512 xr0]]) [6, 2, 3, 4, 5, 0, 1] rfl
                    exact z_back hQz_ (z_iret C hr hlocks G (Nat.le_of_ble_eq_true rfl) (Nat.le_of_ble_eq_true rfl) dX12_game_253 ⟨661, j_crossings_2, j_inns_3, xsteps, xdone, xat, xgone, xposts, xshut, xhere, xwas, xr0, rfl, (Or.inr (Or.inr ⟨by first | with_reducible assumption | assumption, by omega, (by
                                                                have q6 : rGame (zWo f_all 661 j_inns_3) (zLo f_all 661) (zPo f_all 661) j_inns_3 c_ 2 f_ = rGame (pW f_all 661) (zLo f_all 661) (zPo f_all 661) (f_all (661 + 1)) c_ 2 f_ := by rw [← hWe, ← hNi]
                                                                unfold pGame
                                                                rw [if_pos (by show (0 ≤ c_.toInt ∧ c_.toInt < (f_all 661).toInt) ∧ 0 ≤ (2 : Int32).toInt ∧ (2 : Int32).toInt ≤ 3; exact ⟨⟨by omega, by omega⟩, by decide, by decide⟩)]
                                                                refine Eq.trans ?_ q6
                                                                unfold rGame
                                                                rw [if_pos (by first | with_reducible assumption | assumption)]
                                                                have q8 := gV_0 (W := (zWo f_all 661 j_inns_3)) (L := (zLo f_all 661)) (inn := j_inns_3) (x := c_) 2 true (aRs (zWo f_all 661 j_inns_3) (zPo f_all 661) 7)
                                                                have q5 := Int32.toInt_lt (xr0 0)
                                                                have q7 : (xr0 0).toInt = gV (zWo f_all 661 j_inns_3) (zLo f_all 661) j_inns_3 c_ 2 true (aRs (zWo f_all 661 j_inns_3) (zPo f_all 661) 7) := (hwr0 0 (by omega)).trans (if_pos rfl)
                                                                exact z_nI (m := (gV (zWo f_all 661 j_inns_3) (zLo f_all 661) j_inns_3 c_ 2 true (aRs (zWo f_all 661 j_inns_3) (zPo f_all 661) 7)).toNat) (by omega) (by omega))⟩))⟩)
                · have c_272n : ¬ 1 ≤ w := fun q => c_272 ((nI_leI (a := 1) (b := w) (by omega) (by omega)).mpr q)
                  refine lv_iconst (v := (-1)) hx hb dX12_game_96 (by decide) ?_
                  refine lv_istore (lv' := [(6, .int (-1)), (8, .int (nI w)), (5, .int 1), (7, .int 0), (0, .ref mo), (1, .int l_), (2, .int c_), (3, .int 2), (4, .int f_)]) hx hb dX12_game_97 hl (by decide) (zLvf_h rfl) (fun ls hl => ?_)
                  refine lv_iconst (v := 0) hx hb dX12_game_99 (by decide) ?_
                  refine lv_istore (lv' := [(9, .int 0), (6, .int (-1)), (8, .int (nI w)), (5, .int 1), (7, .int 0), (0, .ref mo), (1, .int l_), (2, .int c_), (3, .int 2), (4, .int f_)]) hx hb dX12_game_100 hl (by decide) (zLvf_h rfl) (fun ls hl => ?_)
                  refine z_lp2 (T := T) 102 (fun (i : Nat) (x : Int32) => [[zAr T 0 m_was 7 xwas], [zAr T 0 m_rowWorth 512 xr0], [zAr T 0 m_all 3952 f_all], [zAr T 0 m_posts 7 xposts], [zAr T 0 m_shut 7 xshut], [zAr T 0 m_here 7 xhere], [zO11 mo m_all m_has i_size i_next i_where i_token i_number i_word i_wrong i_farCrossing m_read 661 j_crossings_2 j_inns_3 m_posts m_shut m_here xsteps xdone xat xgone m_was m_came m_seenAt m_rowWorth m_farBy m_used i_everywhere i_again0 i_d0 i_never i_firstCame i_longRun i_moved i_crowd i_l0 i_fitMany i_fitLeast i_fitMost m_fitPost m_fitEnd m_keptPosts i_x0]]) (fun (i : Nat) (x : Int32) => [(9, .int (nI i)), (6, .int x), (8, .int (nI w)), (5, .int 1), (7, .int 0), (0, .ref mo), (1, .int l_), (2, .int c_), (3, .int 2), (4, .int f_)]) (fun (i : Nat) (x : Int32) => i ≤ 8 ∧ x.toInt = gIx (gOp (zWo f_all 661 j_inns_3) (aRs (zWo f_all 661 j_inns_3) (zPo f_all 661) 7) 0 w) (gVp (zWo f_all 661 j_inns_3) (zLo f_all 661) j_inns_3 c_ (aRs (zWo f_all 661 j_inns_3) (zPo f_all 661) 7) 1 true 0 w) true i) (fun (i : Nat) (x : Int32) => 8 - i) ?_ 0 (-1) (show 0 ≤ 8 ∧ ((-1) : Int32).toInt = gIx (gOp (zWo f_all 661 j_inns_3) (aRs (zWo f_all 661 j_inns_3) (zPo f_all 661) 7) 0 w) (gVp (zWo f_all 661 j_inns_3) (zLo f_all 661) j_inns_3 c_ (aRs (zWo f_all 661 j_inns_3) (zPo f_all 661) 7) 1 true 0 w) true 0 from ⟨by omega, rfl⟩) G (lv_sub hl [0, 1, 2, 3, 4, 5, 6, 7, 8, 9] rfl)
                  intro i x hI9 ih_102 H locs ls G hl
                  replace hI9 : i ≤ 8 ∧ x.toInt = gIx (gOp (zWo f_all 661 j_inns_3) (aRs (zWo f_all 661 j_inns_3) (zPo f_all 661) 7) 0 w) (gVp (zWo f_all 661 j_inns_3) (zLo f_all 661) j_inns_3 c_ (aRs (zWo f_all 661 j_inns_3) (zPo f_all 661) 7) 1 true 0 w) true i := hI9
                  refine zAn2 hI9 ?_
                  intro hi hxb
                  clear hI9
                  replace G : zS T A s.heap s [[zAr T 0 m_was 7 xwas], [zAr T 0 m_rowWorth 512 xr0], [zAr T 0 m_all 3952 f_all], [zAr T 0 m_posts 7 xposts], [zAr T 0 m_shut 7 xshut], [zAr T 0 m_here 7 xhere], [zO11 mo m_all m_has i_size i_next i_where i_token i_number i_word i_wrong i_farCrossing m_read 661 j_crossings_2 j_inns_3 m_posts m_shut m_here xsteps xdone xat xgone m_was m_came m_seenAt m_rowWorth m_farBy m_used i_everywhere i_again0 i_d0 i_never i_firstCame i_longRun i_moved i_crowd i_l0 i_fitMany i_fitLeast i_fitMost m_fitPost m_fitEnd m_keptPosts i_x0]] _ _ := G
                  replace hl : lv_has ls 11 [(9, .int (nI i)), (6, .int x), (8, .int (nI w)), (5, .int 1), (7, .int 0), (0, .ref mo), (1, .int l_), (2, .int c_), (3, .int 2), (4, .int f_)] := hl
                  refine lv_iload hx hb dX12_game_102 (lv_at hl 0 rfl) ?_
                  refine lv_bipush (v := 8) hx hb dX12_game_104 (by decide) ?_
                  refine lv_icmp_ge (tgt := 195) hx hb dX12_game_106 (by decide) (fun c_275 => ?_) (fun c_275 => ?_)
                  · have c_275n : 8 ≤ i := (nI_leI (a := 8) (b := i) (by omega) (by omega)).mp c_275
                    have hb89 : x.toInt = gIx (gOp (zWo f_all 661 j_inns_3) (aRs (zWo f_all 661 j_inns_3) (zPo f_all 661) 7) 0 w) (gVp (zWo f_all 661 j_inns_3) (zLo f_all 661) j_inns_3 c_ (aRs (zWo f_all 661 j_inns_3) (zPo f_all 661) 7) 1 true 0 w) true 8 := by rw [hxb, show i = 8 by omega]
                    have hle9 := gLx_e (fun c => gVp_0 c) hb89.symm
                    have hrs9 := gRw_s (W := (zWo f_all 661 j_inns_3)) (L := (zLo f_all 661)) (inn := j_inns_3) (x := c_) (t0 := (aRs (zWo f_all 661 j_inns_3) (zPo f_all 661) 7)) (m := 1) (mn := true) (k := 0) (p := w)
                    have hxk9 := gIx_ok (ok := (gOp (zWo f_all 661 j_inns_3) (aRs (zWo f_all 661 j_inns_3) (zPo f_all 661) 7) 0 w)) (v := (gVp (zWo f_all 661 j_inns_3) (zLo f_all 661) j_inns_3 c_ (aRs (zWo f_all 661 j_inns_3) (zPo f_all 661) 7) 1 true 0 w)) (mn := true) 8
                    rw [← hb89] at hxk9
                    refine lv_aload_n hx hb dX12_game_195 rfl (lv_at hl 5 rfl) ?_
                    refine z_get C G clX12 6 rfl 24 (by decide) m_fl_RX12_38 rfl dX12_game_196 ?_
                    refine lv_iload hx hb dX12_game_199 (lv_at hl 2 rfl) ?_
                    refine lv_iload hx hb dX12_game_201 (lv_at hl 1 rfl) ?_
                    refine lv_iconst (v := (-1)) hx hb dX12_game_203 (by decide) ?_
                    refine lv_icmp_ne (tgt := 211) hx hb dX12_game_204 (by decide) (fun c_276 => ?_) (fun c_276 => ?_)
                    · have c_276n : ¬ x.toInt = (-1 : Int) := fun q => c_276 ((fa_eq _ _).mpr q)
                      refine lv_aload_n hx hb dX12_game_211 rfl (lv_at hl 5 rfl) ?_
                      refine z_get C G clX12 6 rfl 24 (by decide) m_fl_RX12_38 rfl dX12_game_212 ?_
                      refine lv_bipush (v := 8) hx hb dX12_game_215 (by decide) ?_
                      refine lv_iload hx hb dX12_game_217 (lv_at hl 2 rfl) ?_
                      refine lv_imul hx hb dX12_game_219 ?_
                      refine lv_topi (fun y_277 ey_277 => ?_)
                      obtain rfl : y_277 = nI (8 * w) := ey_277.trans (z_imuln 8 w rfl rfl)
                      refine lv_iload hx hb dX12_game_220 (lv_at hl 1 rfl) ?_
                      refine lv_iadd hx hb dX12_game_222 ?_
                      refine lv_topi (fun y_278 ey_278 => ?_)
                      have ey_278i : y_278.toInt = ((8 * w) : Int) + x.toInt := by rw [ey_278]; exact (z_iaddI (x := (nI (8 * w))) (y := x) (by rw [nI_toInt (n := 8 * w) (by omega)]; show -2147483648 ≤ ((8 * w) : Int) + x.toInt; omega) (by rw [nI_toInt (n := 8 * w) (by omega)]; show ((8 * w) : Int) + x.toInt < 2147483648; omega)).trans (by rw [nI_toInt (n := 8 * w) (by omega)] <;> rfl)
                      refine z_ild C G 1 rfl (vp_in_iff.mpr ⟨by omega, by omega⟩) dX12_game_223 ?_
                      refine lv_topi (fun v_279 ev_279 => ?_)
                      subst ev_279
                      have hxy9 := hxk9.resolve_left (by first | omega | (intro q9; omega))
                      have hw9 : (xr0 y_278.toNatClampNeg).toInt = (gVp (zWo f_all 661 j_inns_3) (zLo f_all 661) j_inns_3 c_ (aRs (zWo f_all 661 j_inns_3) (zPo f_all 661) 7) 1 true 0 w) x.toInt.toNat := by rw [(show y_278.toNatClampNeg = 8 * w + x.toInt.toNat from by have q4 := z_clI (x := y_278) (by omega); omega), hxF0 (8 * w + x.toInt.toNat) (by omega)]; exact ((hF0 (8 * w + x.toInt.toNat) (by omega)).trans (gRw_c (by omega))).trans (if_pos hxy9.2.2)
                      have hnv9 : (xr0 y_278.toNatClampNeg).toInt = gRw (zWo f_all 661 j_inns_3) (zLo f_all 661) j_inns_3 c_ (aRs (zWo f_all 661 j_inns_3) (zPo f_all 661) 7) 2 true 0 w := by rw [hrs9, hle9.2 (by omega)]; exact hw9
                      refine z_ist C G 1 rfl (vp_in_nI (by omega) (by decide)) dX12_game_224 (fun H locs G => ?_)
                      rw [nI_clamp (by omega)] at G
                      have G : zS T A s.heap s [[zAr T 0 m_was 7 xwas], [zAr T 0 m_rowWorth 512 (upd xr0 w (xr0 y_278.toNatClampNeg))], [zAr T 0 m_all 3952 f_all], [zAr T 0 m_posts 7 xposts], [zAr T 0 m_shut 7 xshut], [zAr T 0 m_here 7 xhere], [zO11 mo m_all m_has i_size i_next i_where i_token i_number i_word i_wrong i_farCrossing m_read 661 j_crossings_2 j_inns_3 m_posts m_shut m_here xsteps xdone xat xgone m_was m_came m_seenAt m_rowWorth m_farBy m_used i_everywhere i_again0 i_d0 i_never i_firstCame i_longRun i_moved i_crowd i_l0 i_fitMany i_fitLeast i_fitMost m_fitPost m_fitEnd m_keptPosts i_x0]] _ _ := G
                      refine lv_iinc (v := nI (w + 1)) (lv' := [(8, .int (nI (w + 1))), (9, .int (nI i)), (6, .int x), (5, .int 1), (7, .int 0), (0, .ref mo), (1, .int l_), (2, .int c_), (3, .int 2), (4, .int f_)]) hx hb dX12_game_225 hl (k := 2) rfl (z_inc w 1) (by decide) (zLvf_h rfl) (fun ls hl => ?_)
                      refine lv_goto (tgt := 89) hx hb dX12_game_228 (by decide) ?_
                      exact ih_89 (w + 1) x (upd xr0 w (xr0 y_278.toNatClampNeg)) (show (w + 1) ≤ 1 ∧ (∀ p, p < (w + 1) → ((upd xr0 w (xr0 y_278.toNatClampNeg)) p).toInt = gRw (zWo f_all 661 j_inns_3) (zLo f_all 661) j_inns_3 c_ (aRs (zWo f_all 661 j_inns_3) (zPo f_all 661) 7) 2 true 0 p) ∧ (∀ p, (w + 1) ≤ p → (upd xr0 w (xr0 y_278.toNatClampNeg)) p = xr1 p) ∧ (0 < (w + 1) → x.toInt = gIx (gOp (zWo f_all 661 j_inns_3) (aRs (zWo f_all 661 j_inns_3) (zPo f_all 661) 7) 0 ((w + 1) - 1)) (gVp (zWo f_all 661 j_inns_3) (zLo f_all 661) j_inns_3 c_ (aRs (zWo f_all 661 j_inns_3) (zPo f_all 661) 7) 1 true 0 ((w + 1) - 1)) true 8) from ⟨by omega, (gUp hwr0 hnv9), (gUk hxF0), (fun _ => hb89)⟩) (show 1 - (w + 1) < 1 - w from by omega) _ _ ls G (lv_sub hl [0, 3, 4, 2, 5, 6, 7, 8, 9] rfl)
                    · have c_276n : x.toInt = (-1 : Int) := (fa_eq _ _).mp c_276
                      refine lv_iconst (v := (-1)) hx hb dX12_game_207 (by decide) ?_
                      refine lv_goto (tgt := 224) hx hb dX12_game_208 (by decide) ?_
                      have hnv9 : ((-1) : Int32).toInt = gRw (zWo f_all 661 j_inns_3) (zLo f_all 661) j_inns_3 c_ (aRs (zWo f_all 661 j_inns_3) (zPo f_all 661) 7) 2 true 0 w := by rw [hrs9, hle9.1 (by omega)]; rfl
                      refine z_ist C G 1 rfl (vp_in_nI (by omega) (by decide)) dX12_game_224 (fun H locs G => ?_)
                      rw [nI_clamp (by omega)] at G
                      have G : zS T A s.heap s [[zAr T 0 m_was 7 xwas], [zAr T 0 m_rowWorth 512 (upd xr0 w (-1))], [zAr T 0 m_all 3952 f_all], [zAr T 0 m_posts 7 xposts], [zAr T 0 m_shut 7 xshut], [zAr T 0 m_here 7 xhere], [zO11 mo m_all m_has i_size i_next i_where i_token i_number i_word i_wrong i_farCrossing m_read 661 j_crossings_2 j_inns_3 m_posts m_shut m_here xsteps xdone xat xgone m_was m_came m_seenAt m_rowWorth m_farBy m_used i_everywhere i_again0 i_d0 i_never i_firstCame i_longRun i_moved i_crowd i_l0 i_fitMany i_fitLeast i_fitMost m_fitPost m_fitEnd m_keptPosts i_x0]] _ _ := G
                      refine lv_iinc (v := nI (w + 1)) (lv' := [(8, .int (nI (w + 1))), (9, .int (nI i)), (6, .int x), (5, .int 1), (7, .int 0), (0, .ref mo), (1, .int l_), (2, .int c_), (3, .int 2), (4, .int f_)]) hx hb dX12_game_225 hl (k := 2) rfl (z_inc w 1) (by decide) (zLvf_h rfl) (fun ls hl => ?_)
                      refine lv_goto (tgt := 89) hx hb dX12_game_228 (by decide) ?_
                      exact ih_89 (w + 1) x (upd xr0 w (-1)) (show (w + 1) ≤ 1 ∧ (∀ p, p < (w + 1) → ((upd xr0 w (-1)) p).toInt = gRw (zWo f_all 661 j_inns_3) (zLo f_all 661) j_inns_3 c_ (aRs (zWo f_all 661 j_inns_3) (zPo f_all 661) 7) 2 true 0 p) ∧ (∀ p, (w + 1) ≤ p → (upd xr0 w (-1)) p = xr1 p) ∧ (0 < (w + 1) → x.toInt = gIx (gOp (zWo f_all 661 j_inns_3) (aRs (zWo f_all 661 j_inns_3) (zPo f_all 661) 7) 0 ((w + 1) - 1)) (gVp (zWo f_all 661 j_inns_3) (zLo f_all 661) j_inns_3 c_ (aRs (zWo f_all 661 j_inns_3) (zPo f_all 661) 7) 1 true 0 ((w + 1) - 1)) true 8) from ⟨by omega, (gUp hwr0 hnv9), (gUk hxF0), (fun _ => hb89)⟩) (show 1 - (w + 1) < 1 - w from by omega) _ _ ls G (lv_sub hl [0, 3, 4, 2, 5, 6, 7, 8, 9] rfl)
                  · have c_275n : ¬ 8 ≤ i := fun q => c_275 ((nI_leI (a := 8) (b := i) (by omega) (by omega)).mpr q)
                    refine lv_aload_n hx hb dX12_game_109 rfl (lv_at hl 5 rfl) ?_
                    refine z_get C G clX12 6 rfl 24 (by decide) m_fl_RX12_38 rfl dX12_game_110 ?_
                    refine lv_bipush (v := 8) hx hb dX12_game_113 (by decide) ?_
                    refine lv_iload hx hb dX12_game_115 (lv_at hl 2 rfl) ?_
                    refine lv_imul hx hb dX12_game_117 ?_
                    refine lv_topi (fun y_280 ey_280 => ?_)
                    obtain rfl : y_280 = nI (8 * w) := ey_280.trans (z_imuln 8 w rfl rfl)
                    refine lv_iload hx hb dX12_game_118 (lv_at hl 0 rfl) ?_
                    refine lv_iadd hx hb dX12_game_120 ?_
                    refine lv_topi (fun y_281 ey_281 => ?_)
                    obtain rfl : y_281 = nI ((8 * w) + i) := ey_281.trans (z_iaddn (8 * w) i rfl rfl)
                    refine z_ild C G 1 rfl (vp_in_nI (by omega) (by decide)) dX12_game_121 ?_
                    refine lv_topi (fun v_282 ev_282 => ?_)
                    rw [nI_clamp (by omega)] at ev_282
                    subst ev_282
                    have hv9 : (xr0 ((8 * w) + i)).toInt = if (gOp (zWo f_all 661 j_inns_3) (aRs (zWo f_all 661 j_inns_3) (zPo f_all 661) 7) 0 w) i = true then (gVp (zWo f_all 661 j_inns_3) (zLo f_all 661) j_inns_3 c_ (aRs (zWo f_all 661 j_inns_3) (zPo f_all 661) 7) 1 true 0 w) i else -1 := by rw [(show ((8 * w) + i) = 8 * w + i from by omega), hxF0 (8 * w + i) (by omega)]; exact (hF0 (8 * w + i) (by omega)).trans (gRw_c (by omega))
                    have hxk9 := gIx_ok (ok := (gOp (zWo f_all 661 j_inns_3) (aRs (zWo f_all 661 j_inns_3) (zPo f_all 661) 7) 0 w)) (v := (gVp (zWo f_all 661 j_inns_3) (zLo f_all 661) j_inns_3 c_ (aRs (zWo f_all 661 j_inns_3) (zPo f_all 661) 7) 1 true 0 w)) (mn := true) i
                    rw [← hxb] at hxk9
                    refine lv_istore (lv' := [(10, .int (xr0 ((8 * w) + i))), (9, .int (nI i)), (6, .int x), (8, .int (nI w)), (5, .int 1), (7, .int 0), (0, .ref mo), (1, .int l_), (2, .int c_), (3, .int 2), (4, .int f_)]) hx hb dX12_game_122 hl (by decide) (zLvf_h rfl) (fun ls hl => ?_)
                    refine lv_iload hx hb dX12_game_124 (lv_at hl 0 rfl) ?_
                    refine lv_iconst (v := (-1)) hx hb dX12_game_126 (by decide) ?_
                    refine lv_icmp_eq (tgt := 189) hx hb dX12_game_127 (by decide) (fun c_283 => ?_) (fun c_283 => ?_)
                    · have c_283n : (xr0 ((8 * w) + i)).toInt = (-1 : Int) := (fa_eq _ _).mp c_283
                      have hxn9 : x.toInt = gIx (gOp (zWo f_all 661 j_inns_3) (aRs (zWo f_all 661 j_inns_3) (zPo f_all 661) 7) 0 w) (gVp (zWo f_all 661 j_inns_3) (zLo f_all 661) j_inns_3 c_ (aRs (zWo f_all 661 j_inns_3) (zPo f_all 661) 7) 1 true 0 w) true (i + 1) := (gLx_n (fun c => gVp_0 c) hxb.symm hv9 (by first | exact Or.inl (by omega) | exact Or.inr ⟨by omega, by rw [if_pos rfl]; omega⟩)).symm
                      refine lv_iinc (v := nI (i + 1)) (lv' := [(9, .int (nI (i + 1))), (10, .int (xr0 ((8 * w) + i))), (6, .int x), (8, .int (nI w)), (5, .int 1), (7, .int 0), (0, .ref mo), (1, .int l_), (2, .int c_), (3, .int 2), (4, .int f_)]) hx hb dX12_game_189 hl (k := 1) rfl (z_inc i 1) (by decide) (zLvf_h rfl) (fun ls hl => ?_)
                      refine lv_goto (tgt := 102) hx hb dX12_game_192 (by decide) ?_
                      exact ih_102 (i + 1) x (show (i + 1) ≤ 8 ∧ x.toInt = gIx (gOp (zWo f_all 661 j_inns_3) (aRs (zWo f_all 661 j_inns_3) (zPo f_all 661) 7) 0 w) (gVp (zWo f_all 661 j_inns_3) (zLo f_all 661) j_inns_3 c_ (aRs (zWo f_all 661 j_inns_3) (zPo f_all 661) 7) 1 true 0 w) true (i + 1) from ⟨by omega, hxn9⟩) (show 8 - (i + 1) < 8 - i from by omega) _ _ ls G (lv_sub hl [0, 2, 3, 4, 5, 6, 7, 8, 9, 10] rfl)
                    · have c_283n : ¬ (xr0 ((8 * w) + i)).toInt = (-1 : Int) := fun q => c_283 ((fa_eq _ _).mpr q)
                      refine lv_iload hx hb dX12_game_130 (lv_at hl 2 rfl) ?_
                      refine lv_iconst (v := (-1)) hx hb dX12_game_132 (by decide) ?_
                      refine lv_icmp_eq (tgt := 185) hx hb dX12_game_133 (by decide) (fun c_284 => ?_) (fun c_284 => ?_)
                      · have c_284n : x.toInt = (-1 : Int) := (fa_eq _ _).mp c_284
                        refine lv_iload hx hb dX12_game_185 (lv_at hl 1 rfl) ?_
                        refine lv_istore (lv' := [(6, .int (nI i)), (10, .int (xr0 ((8 * w) + i))), (9, .int (nI i)), (8, .int (nI w)), (5, .int 1), (7, .int 0), (0, .ref mo), (1, .int l_), (2, .int c_), (3, .int 2), (4, .int f_)]) hx hb dX12_game_187 hl (by decide) (zLvf_h rfl) (fun ls hl => ?_)
                        have tii9 := nI_toInt (n := i) (by omega)
                        have hxn9 : (nI i).toInt = gIx (gOp (zWo f_all 661 j_inns_3) (aRs (zWo f_all 661 j_inns_3) (zPo f_all 661) 7) 0 w) (gVp (zWo f_all 661 j_inns_3) (zLo f_all 661) j_inns_3 c_ (aRs (zWo f_all 661 j_inns_3) (zPo f_all 661) 7) 1 true 0 w) true (i + 1) := tii9.trans (gLx_y hxb.symm hv9 (by omega) (by first | exact Or.inl (by omega) | exact Or.inr (by rw [if_pos rfl]; omega))).symm
                        refine lv_iinc (v := nI (i + 1)) (lv' := [(9, .int (nI (i + 1))), (6, .int (nI i)), (10, .int (xr0 ((8 * w) + i))), (8, .int (nI w)), (5, .int 1), (7, .int 0), (0, .ref mo), (1, .int l_), (2, .int c_), (3, .int 2), (4, .int f_)]) hx hb dX12_game_189 hl (k := 2) rfl (z_inc i 1) (by decide) (zLvf_h rfl) (fun ls hl => ?_)
                        refine lv_goto (tgt := 102) hx hb dX12_game_192 (by decide) ?_
                        exact ih_102 (i + 1) (nI i) (show (i + 1) ≤ 8 ∧ (nI i).toInt = gIx (gOp (zWo f_all 661 j_inns_3) (aRs (zWo f_all 661 j_inns_3) (zPo f_all 661) 7) 0 w) (gVp (zWo f_all 661 j_inns_3) (zLo f_all 661) j_inns_3 c_ (aRs (zWo f_all 661 j_inns_3) (zPo f_all 661) 7) 1 true 0 w) true (i + 1) from ⟨by omega, hxn9⟩) (show 8 - (i + 1) < 8 - i from by omega) _ _ ls G (lv_sub hl [0, 1, 3, 4, 5, 6, 7, 8, 9, 10] rfl)
                      · have c_284n : ¬ x.toInt = (-1 : Int) := fun q => c_284 ((fa_eq _ _).mpr q)
                        refine lv_iload hx hb dX12_game_136 (lv_at hl 5 rfl) ?_
                        refine lv_iconst (v := 2) hx hb dX12_game_138 (by decide) ?_
                        refine lv_irem hx hb dX12_game_139 (by decide) ?_
                        refine lv_topi (fun y_285 ey_285 => ?_)
                        obtain rfl : y_285 = 0 := ey_285.trans (by decide)
                        refine lv_if_ne (tgt := 164) hx hb dX12_game_140 (by decide) (fun q => absurd (by decide) q) (fun _ => ?_)
                        refine lv_iload hx hb dX12_game_143 (lv_at hl 0 rfl) ?_
                        refine lv_aload_n hx hb dX12_game_145 rfl (lv_at hl 6 rfl) ?_
                        refine z_get C G clX12 6 rfl 24 (by decide) m_fl_RX12_38 rfl dX12_game_146 ?_
                        refine lv_bipush (v := 8) hx hb dX12_game_149 (by decide) ?_
                        refine lv_iload hx hb dX12_game_151 (lv_at hl 3 rfl) ?_
                        refine lv_imul hx hb dX12_game_153 ?_
                        refine lv_topi (fun y_286 ey_286 => ?_)
                        obtain rfl : y_286 = nI (8 * w) := ey_286.trans (z_imuln 8 w rfl rfl)
                        refine lv_iload hx hb dX12_game_154 (lv_at hl 2 rfl) ?_
                        refine lv_iadd hx hb dX12_game_156 ?_
                        refine lv_topi (fun y_287 ey_287 => ?_)
                        have ey_287i : y_287.toInt = ((8 * w) : Int) + x.toInt := by rw [ey_287]; exact (z_iaddI (x := (nI (8 * w))) (y := x) (by rw [nI_toInt (n := 8 * w) (by omega)]; show -2147483648 ≤ ((8 * w) : Int) + x.toInt; omega) (by rw [nI_toInt (n := 8 * w) (by omega)]; show ((8 * w) : Int) + x.toInt < 2147483648; omega)).trans (by rw [nI_toInt (n := 8 * w) (by omega)] <;> rfl)
                        refine z_ild C G 1 rfl (vp_in_iff.mpr ⟨by omega, by omega⟩) dX12_game_157 ?_
                        refine lv_topi (fun v_288 ev_288 => ?_)
                        subst ev_288
                        have hxy9 := hxk9.resolve_left (by first | omega | (intro q9; omega))
                        have hw9 : (xr0 y_287.toNatClampNeg).toInt = (gVp (zWo f_all 661 j_inns_3) (zLo f_all 661) j_inns_3 c_ (aRs (zWo f_all 661 j_inns_3) (zPo f_all 661) 7) 1 true 0 w) x.toInt.toNat := by rw [(show y_287.toNatClampNeg = 8 * w + x.toInt.toNat from by have q4 := z_clI (x := y_287) (by omega); omega), hxF0 (8 * w + x.toInt.toNat) (by omega)]; exact ((hF0 (8 * w + x.toInt.toNat) (by omega)).trans (gRw_c (by omega))).trans (if_pos hxy9.2.2)
                        refine lv_icmp_lt (tgt := 185) hx hb dX12_game_158 (by decide) (fun c_289 => ?_) (fun c_289 => ?_)
                        · have c_289n : (xr0 ((8 * w) + i)).toInt < (xr0 y_287.toNatClampNeg).toInt := (fa_lt _ _).mp c_289
                          refine lv_iload hx hb dX12_game_185 (lv_at hl 1 rfl) ?_
                          refine lv_istore (lv' := [(6, .int (nI i)), (10, .int (xr0 ((8 * w) + i))), (9, .int (nI i)), (8, .int (nI w)), (5, .int 1), (7, .int 0), (0, .ref mo), (1, .int l_), (2, .int c_), (3, .int 2), (4, .int f_)]) hx hb dX12_game_187 hl (by decide) (zLvf_h rfl) (fun ls hl => ?_)
                          have tii9 := nI_toInt (n := i) (by omega)
                          have hxn9 : (nI i).toInt = gIx (gOp (zWo f_all 661 j_inns_3) (aRs (zWo f_all 661 j_inns_3) (zPo f_all 661) 7) 0 w) (gVp (zWo f_all 661 j_inns_3) (zLo f_all 661) j_inns_3 c_ (aRs (zWo f_all 661 j_inns_3) (zPo f_all 661) 7) 1 true 0 w) true (i + 1) := tii9.trans (gLx_y hxb.symm hv9 (by omega) (by first | exact Or.inl (by omega) | exact Or.inr (by rw [if_pos rfl]; omega))).symm
                          refine lv_iinc (v := nI (i + 1)) (lv' := [(9, .int (nI (i + 1))), (6, .int (nI i)), (10, .int (xr0 ((8 * w) + i))), (8, .int (nI w)), (5, .int 1), (7, .int 0), (0, .ref mo), (1, .int l_), (2, .int c_), (3, .int 2), (4, .int f_)]) hx hb dX12_game_189 hl (k := 2) rfl (z_inc i 1) (by decide) (zLvf_h rfl) (fun ls hl => ?_)
                          refine lv_goto (tgt := 102) hx hb dX12_game_192 (by decide) ?_
                          exact ih_102 (i + 1) (nI i) (show (i + 1) ≤ 8 ∧ (nI i).toInt = gIx (gOp (zWo f_all 661 j_inns_3) (aRs (zWo f_all 661 j_inns_3) (zPo f_all 661) 7) 0 w) (gVp (zWo f_all 661 j_inns_3) (zLo f_all 661) j_inns_3 c_ (aRs (zWo f_all 661 j_inns_3) (zPo f_all 661) 7) 1 true 0 w) true (i + 1) from ⟨by omega, hxn9⟩) (show 8 - (i + 1) < 8 - i from by omega) _ _ ls G (lv_sub hl [0, 1, 3, 4, 5, 6, 7, 8, 9, 10] rfl)
                        · have c_289n : ¬ (xr0 ((8 * w) + i)).toInt < (xr0 y_287.toNatClampNeg).toInt := fun q => c_289 ((fa_lt _ _).mpr q)
                          refine lv_goto (tgt := 189) hx hb dX12_game_161 (by decide) ?_
                          have hxn9 : x.toInt = gIx (gOp (zWo f_all 661 j_inns_3) (aRs (zWo f_all 661 j_inns_3) (zPo f_all 661) 7) 0 w) (gVp (zWo f_all 661 j_inns_3) (zLo f_all 661) j_inns_3 c_ (aRs (zWo f_all 661 j_inns_3) (zPo f_all 661) 7) 1 true 0 w) true (i + 1) := (gLx_n (fun c => gVp_0 c) hxb.symm hv9 (by first | exact Or.inl (by omega) | exact Or.inr ⟨by omega, by rw [if_pos rfl]; omega⟩)).symm
                          refine lv_iinc (v := nI (i + 1)) (lv' := [(9, .int (nI (i + 1))), (10, .int (xr0 ((8 * w) + i))), (6, .int x), (8, .int (nI w)), (5, .int 1), (7, .int 0), (0, .ref mo), (1, .int l_), (2, .int c_), (3, .int 2), (4, .int f_)]) hx hb dX12_game_189 hl (k := 1) rfl (z_inc i 1) (by decide) (zLvf_h rfl) (fun ls hl => ?_)
                          refine lv_goto (tgt := 102) hx hb dX12_game_192 (by decide) ?_
                          exact ih_102 (i + 1) x (show (i + 1) ≤ 8 ∧ x.toInt = gIx (gOp (zWo f_all 661 j_inns_3) (aRs (zWo f_all 661 j_inns_3) (zPo f_all 661) 7) 0 w) (gVp (zWo f_all 661 j_inns_3) (zLo f_all 661) j_inns_3 c_ (aRs (zWo f_all 661 j_inns_3) (zPo f_all 661) 7) 1 true 0 w) true (i + 1) from ⟨by omega, hxn9⟩) (show 8 - (i + 1) < 8 - i from by omega) _ _ ls G (lv_sub hl [0, 2, 3, 4, 5, 6, 7, 8, 9, 10] rfl)
              · have c_270n : ¬ 8 ≤ w := fun q => c_270 ((nI_leI (a := 8) (b := w) (by omega) (by omega)).mpr q)
                refine lv_iconst (v := (-1)) hx hb dX12_game_96 (by decide) ?_
                refine lv_istore (lv' := [(6, .int (-1)), (8, .int (nI w)), (5, .int 8), (7, .int 1), (0, .ref mo), (1, .int l_), (2, .int c_), (3, .int 2), (4, .int f_)]) hx hb dX12_game_97 hl (by decide) (zLvf_h rfl) (fun ls hl => ?_)
                refine lv_iconst (v := 0) hx hb dX12_game_99 (by decide) ?_
                refine lv_istore (lv' := [(9, .int 0), (6, .int (-1)), (8, .int (nI w)), (5, .int 8), (7, .int 1), (0, .ref mo), (1, .int l_), (2, .int c_), (3, .int 2), (4, .int f_)]) hx hb dX12_game_100 hl (by decide) (zLvf_h rfl) (fun ls hl => ?_)
                refine z_lp2 (T := T) 102 (fun (i : Nat) (x : Int32) => [[zAr T 0 m_was 7 xwas], [zAr T 0 m_rowWorth 512 xr1], [zAr T 0 m_all 3952 f_all], [zAr T 0 m_posts 7 xposts], [zAr T 0 m_shut 7 xshut], [zAr T 0 m_here 7 xhere], [zO11 mo m_all m_has i_size i_next i_where i_token i_number i_word i_wrong i_farCrossing m_read 661 j_crossings_2 j_inns_3 m_posts m_shut m_here xsteps xdone xat xgone m_was m_came m_seenAt m_rowWorth m_farBy m_used i_everywhere i_again0 i_d0 i_never i_firstCame i_longRun i_moved i_crowd i_l0 i_fitMany i_fitLeast i_fitMost m_fitPost m_fitEnd m_keptPosts i_x0]]) (fun (i : Nat) (x : Int32) => [(9, .int (nI i)), (6, .int x), (8, .int (nI w)), (5, .int 8), (7, .int 1), (0, .ref mo), (1, .int l_), (2, .int c_), (3, .int 2), (4, .int f_)]) (fun (i : Nat) (x : Int32) => i ≤ 8 ∧ x.toInt = gIx (gOp (zWo f_all 661 j_inns_3) (aRs (zWo f_all 661 j_inns_3) (zPo f_all 661) 7) 1 w) (gVp (zWo f_all 661 j_inns_3) (zLo f_all 661) j_inns_3 c_ (aRs (zWo f_all 661 j_inns_3) (zPo f_all 661) 7) 0 false 1 w) false i) (fun (i : Nat) (x : Int32) => 8 - i) ?_ 0 (-1) (show 0 ≤ 8 ∧ ((-1) : Int32).toInt = gIx (gOp (zWo f_all 661 j_inns_3) (aRs (zWo f_all 661 j_inns_3) (zPo f_all 661) 7) 1 w) (gVp (zWo f_all 661 j_inns_3) (zLo f_all 661) j_inns_3 c_ (aRs (zWo f_all 661 j_inns_3) (zPo f_all 661) 7) 0 false 1 w) false 0 from ⟨by omega, rfl⟩) G (lv_sub hl [0, 1, 2, 3, 4, 5, 6, 7, 8, 9] rfl)
                intro i x hI9 ih_102 H locs ls G hl
                replace hI9 : i ≤ 8 ∧ x.toInt = gIx (gOp (zWo f_all 661 j_inns_3) (aRs (zWo f_all 661 j_inns_3) (zPo f_all 661) 7) 1 w) (gVp (zWo f_all 661 j_inns_3) (zLo f_all 661) j_inns_3 c_ (aRs (zWo f_all 661 j_inns_3) (zPo f_all 661) 7) 0 false 1 w) false i := hI9
                refine zAn2 hI9 ?_
                intro hi hxb
                clear hI9
                replace G : zS T A s.heap s [[zAr T 0 m_was 7 xwas], [zAr T 0 m_rowWorth 512 xr1], [zAr T 0 m_all 3952 f_all], [zAr T 0 m_posts 7 xposts], [zAr T 0 m_shut 7 xshut], [zAr T 0 m_here 7 xhere], [zO11 mo m_all m_has i_size i_next i_where i_token i_number i_word i_wrong i_farCrossing m_read 661 j_crossings_2 j_inns_3 m_posts m_shut m_here xsteps xdone xat xgone m_was m_came m_seenAt m_rowWorth m_farBy m_used i_everywhere i_again0 i_d0 i_never i_firstCame i_longRun i_moved i_crowd i_l0 i_fitMany i_fitLeast i_fitMost m_fitPost m_fitEnd m_keptPosts i_x0]] _ _ := G
                replace hl : lv_has ls 11 [(9, .int (nI i)), (6, .int x), (8, .int (nI w)), (5, .int 8), (7, .int 1), (0, .ref mo), (1, .int l_), (2, .int c_), (3, .int 2), (4, .int f_)] := hl
                refine lv_iload hx hb dX12_game_102 (lv_at hl 0 rfl) ?_
                refine lv_bipush (v := 8) hx hb dX12_game_104 (by decide) ?_
                refine lv_icmp_ge (tgt := 195) hx hb dX12_game_106 (by decide) (fun c_290 => ?_) (fun c_290 => ?_)
                · have c_290n : 8 ≤ i := (nI_leI (a := 8) (b := i) (by omega) (by omega)).mp c_290
                  have hb89 : x.toInt = gIx (gOp (zWo f_all 661 j_inns_3) (aRs (zWo f_all 661 j_inns_3) (zPo f_all 661) 7) 1 w) (gVp (zWo f_all 661 j_inns_3) (zLo f_all 661) j_inns_3 c_ (aRs (zWo f_all 661 j_inns_3) (zPo f_all 661) 7) 0 false 1 w) false 8 := by rw [hxb, show i = 8 by omega]
                  have hle9 := gLx_e (fun c => gVp_0 c) hb89.symm
                  have hrs9 := gRw_s (W := (zWo f_all 661 j_inns_3)) (L := (zLo f_all 661)) (inn := j_inns_3) (x := c_) (t0 := (aRs (zWo f_all 661 j_inns_3) (zPo f_all 661) 7)) (m := 0) (mn := false) (k := 1) (p := w)
                  have hxk9 := gIx_ok (ok := (gOp (zWo f_all 661 j_inns_3) (aRs (zWo f_all 661 j_inns_3) (zPo f_all 661) 7) 1 w)) (v := (gVp (zWo f_all 661 j_inns_3) (zLo f_all 661) j_inns_3 c_ (aRs (zWo f_all 661 j_inns_3) (zPo f_all 661) 7) 0 false 1 w)) (mn := false) 8
                  rw [← hb89] at hxk9
                  refine lv_aload_n hx hb dX12_game_195 rfl (lv_at hl 5 rfl) ?_
                  refine z_get C G clX12 6 rfl 24 (by decide) m_fl_RX12_38 rfl dX12_game_196 ?_
                  refine lv_iload hx hb dX12_game_199 (lv_at hl 2 rfl) ?_
                  refine lv_iload hx hb dX12_game_201 (lv_at hl 1 rfl) ?_
                  refine lv_iconst (v := (-1)) hx hb dX12_game_203 (by decide) ?_
                  refine lv_icmp_ne (tgt := 211) hx hb dX12_game_204 (by decide) (fun c_291 => ?_) (fun c_291 => ?_)
                  · have c_291n : ¬ x.toInt = (-1 : Int) := fun q => c_291 ((fa_eq _ _).mpr q)
                    refine lv_aload_n hx hb dX12_game_211 rfl (lv_at hl 5 rfl) ?_
                    refine z_get C G clX12 6 rfl 24 (by decide) m_fl_RX12_38 rfl dX12_game_212 ?_
                    refine lv_bipush (v := 8) hx hb dX12_game_215 (by decide) ?_
                    refine lv_iload hx hb dX12_game_217 (lv_at hl 2 rfl) ?_
                    refine lv_imul hx hb dX12_game_219 ?_
                    refine lv_topi (fun y_292 ey_292 => ?_)
                    obtain rfl : y_292 = nI (8 * w) := ey_292.trans (z_imuln 8 w rfl rfl)
                    refine lv_iload hx hb dX12_game_220 (lv_at hl 1 rfl) ?_
                    refine lv_iadd hx hb dX12_game_222 ?_
                    refine lv_topi (fun y_293 ey_293 => ?_)
                    have ey_293i : y_293.toInt = ((8 * w) : Int) + x.toInt := by rw [ey_293]; exact (z_iaddI (x := (nI (8 * w))) (y := x) (by rw [nI_toInt (n := 8 * w) (by omega)]; show -2147483648 ≤ ((8 * w) : Int) + x.toInt; omega) (by rw [nI_toInt (n := 8 * w) (by omega)]; show ((8 * w) : Int) + x.toInt < 2147483648; omega)).trans (by rw [nI_toInt (n := 8 * w) (by omega)] <;> rfl)
                    refine z_ild C G 1 rfl (vp_in_iff.mpr ⟨by omega, by omega⟩) dX12_game_223 ?_
                    refine lv_topi (fun v_294 ev_294 => ?_)
                    subst ev_294
                    have hxy9 := hxk9.resolve_left (by first | omega | (intro q9; omega))
                    have hw9 : (xr1 y_293.toNatClampNeg).toInt = (gVp (zWo f_all 661 j_inns_3) (zLo f_all 661) j_inns_3 c_ (aRs (zWo f_all 661 j_inns_3) (zPo f_all 661) 7) 0 false 1 w) x.toInt.toNat := by rw [(show y_293.toNatClampNeg = 8 * w + x.toInt.toNat from by have q4 := z_clI (x := y_293) (by omega); omega), hxF1 (8 * w + x.toInt.toNat) (by omega)]; exact ((hF1 (8 * w + x.toInt.toNat) (by omega)).trans (gRw_c (by omega))).trans (if_pos hxy9.2.2)
                    have hnv9 : (xr1 y_293.toNatClampNeg).toInt = gRw (zWo f_all 661 j_inns_3) (zLo f_all 661) j_inns_3 c_ (aRs (zWo f_all 661 j_inns_3) (zPo f_all 661) 7) 1 false 1 w := by rw [hrs9, hle9.2 (by omega)]; exact hw9
                    refine z_ist C G 1 rfl (vp_in_nI (by omega) (by decide)) dX12_game_224 (fun H locs G => ?_)
                    rw [nI_clamp (by omega)] at G
                    have G : zS T A s.heap s [[zAr T 0 m_was 7 xwas], [zAr T 0 m_rowWorth 512 (upd xr1 w (xr1 y_293.toNatClampNeg))], [zAr T 0 m_all 3952 f_all], [zAr T 0 m_posts 7 xposts], [zAr T 0 m_shut 7 xshut], [zAr T 0 m_here 7 xhere], [zO11 mo m_all m_has i_size i_next i_where i_token i_number i_word i_wrong i_farCrossing m_read 661 j_crossings_2 j_inns_3 m_posts m_shut m_here xsteps xdone xat xgone m_was m_came m_seenAt m_rowWorth m_farBy m_used i_everywhere i_again0 i_d0 i_never i_firstCame i_longRun i_moved i_crowd i_l0 i_fitMany i_fitLeast i_fitMost m_fitPost m_fitEnd m_keptPosts i_x0]] _ _ := G
                    refine lv_iinc (v := nI (w + 1)) (lv' := [(8, .int (nI (w + 1))), (9, .int (nI i)), (6, .int x), (5, .int 8), (7, .int 1), (0, .ref mo), (1, .int l_), (2, .int c_), (3, .int 2), (4, .int f_)]) hx hb dX12_game_225 hl (k := 2) rfl (z_inc w 1) (by decide) (zLvf_h rfl) (fun ls hl => ?_)
                    refine lv_goto (tgt := 89) hx hb dX12_game_228 (by decide) ?_
                    exact ih_89 (w + 1) x (upd xr1 w (xr1 y_293.toNatClampNeg)) (show (w + 1) ≤ 8 ∧ (∀ p, p < (w + 1) → ((upd xr1 w (xr1 y_293.toNatClampNeg)) p).toInt = gRw (zWo f_all 661 j_inns_3) (zLo f_all 661) j_inns_3 c_ (aRs (zWo f_all 661 j_inns_3) (zPo f_all 661) 7) 1 false 1 p) ∧ (∀ p, (w + 1) ≤ p → (upd xr1 w (xr1 y_293.toNatClampNeg)) p = xrowWorth p) ∧ (0 < (w + 1) → x.toInt = gIx (gOp (zWo f_all 661 j_inns_3) (aRs (zWo f_all 661 j_inns_3) (zPo f_all 661) 7) 1 ((w + 1) - 1)) (gVp (zWo f_all 661 j_inns_3) (zLo f_all 661) j_inns_3 c_ (aRs (zWo f_all 661 j_inns_3) (zPo f_all 661) 7) 0 false 1 ((w + 1) - 1)) false 8) from ⟨by omega, (gUp hwr1 hnv9), (gUk hxF1), (fun _ => hb89)⟩) (show 8 - (w + 1) < 8 - w from by omega) _ _ ls G (lv_sub hl [0, 3, 4, 2, 5, 6, 7, 8, 9] rfl)
                  · have c_291n : x.toInt = (-1 : Int) := (fa_eq _ _).mp c_291
                    refine lv_iconst (v := (-1)) hx hb dX12_game_207 (by decide) ?_
                    refine lv_goto (tgt := 224) hx hb dX12_game_208 (by decide) ?_
                    have hnv9 : ((-1) : Int32).toInt = gRw (zWo f_all 661 j_inns_3) (zLo f_all 661) j_inns_3 c_ (aRs (zWo f_all 661 j_inns_3) (zPo f_all 661) 7) 1 false 1 w := by rw [hrs9, hle9.1 (by omega)]; rfl
                    refine z_ist C G 1 rfl (vp_in_nI (by omega) (by decide)) dX12_game_224 (fun H locs G => ?_)
                    rw [nI_clamp (by omega)] at G
                    have G : zS T A s.heap s [[zAr T 0 m_was 7 xwas], [zAr T 0 m_rowWorth 512 (upd xr1 w (-1))], [zAr T 0 m_all 3952 f_all], [zAr T 0 m_posts 7 xposts], [zAr T 0 m_shut 7 xshut], [zAr T 0 m_here 7 xhere], [zO11 mo m_all m_has i_size i_next i_where i_token i_number i_word i_wrong i_farCrossing m_read 661 j_crossings_2 j_inns_3 m_posts m_shut m_here xsteps xdone xat xgone m_was m_came m_seenAt m_rowWorth m_farBy m_used i_everywhere i_again0 i_d0 i_never i_firstCame i_longRun i_moved i_crowd i_l0 i_fitMany i_fitLeast i_fitMost m_fitPost m_fitEnd m_keptPosts i_x0]] _ _ := G
                    refine lv_iinc (v := nI (w + 1)) (lv' := [(8, .int (nI (w + 1))), (9, .int (nI i)), (6, .int x), (5, .int 8), (7, .int 1), (0, .ref mo), (1, .int l_), (2, .int c_), (3, .int 2), (4, .int f_)]) hx hb dX12_game_225 hl (k := 2) rfl (z_inc w 1) (by decide) (zLvf_h rfl) (fun ls hl => ?_)
                    refine lv_goto (tgt := 89) hx hb dX12_game_228 (by decide) ?_
                    exact ih_89 (w + 1) x (upd xr1 w (-1)) (show (w + 1) ≤ 8 ∧ (∀ p, p < (w + 1) → ((upd xr1 w (-1)) p).toInt = gRw (zWo f_all 661 j_inns_3) (zLo f_all 661) j_inns_3 c_ (aRs (zWo f_all 661 j_inns_3) (zPo f_all 661) 7) 1 false 1 p) ∧ (∀ p, (w + 1) ≤ p → (upd xr1 w (-1)) p = xrowWorth p) ∧ (0 < (w + 1) → x.toInt = gIx (gOp (zWo f_all 661 j_inns_3) (aRs (zWo f_all 661 j_inns_3) (zPo f_all 661) 7) 1 ((w + 1) - 1)) (gVp (zWo f_all 661 j_inns_3) (zLo f_all 661) j_inns_3 c_ (aRs (zWo f_all 661 j_inns_3) (zPo f_all 661) 7) 0 false 1 ((w + 1) - 1)) false 8) from ⟨by omega, (gUp hwr1 hnv9), (gUk hxF1), (fun _ => hb89)⟩) (show 8 - (w + 1) < 8 - w from by omega) _ _ ls G (lv_sub hl [0, 3, 4, 2, 5, 6, 7, 8, 9] rfl)
                · have c_290n : ¬ 8 ≤ i := fun q => c_290 ((nI_leI (a := 8) (b := i) (by omega) (by omega)).mpr q)
                  refine lv_aload_n hx hb dX12_game_109 rfl (lv_at hl 5 rfl) ?_
                  refine z_get C G clX12 6 rfl 24 (by decide) m_fl_RX12_38 rfl dX12_game_110 ?_
                  refine lv_bipush (v := 8) hx hb dX12_game_113 (by decide) ?_
                  refine lv_iload hx hb dX12_game_115 (lv_at hl 2 rfl) ?_
                  refine lv_imul hx hb dX12_game_117 ?_
                  refine lv_topi (fun y_295 ey_295 => ?_)
                  obtain rfl : y_295 = nI (8 * w) := ey_295.trans (z_imuln 8 w rfl rfl)
                  refine lv_iload hx hb dX12_game_118 (lv_at hl 0 rfl) ?_
                  refine lv_iadd hx hb dX12_game_120 ?_
                  refine lv_topi (fun y_296 ey_296 => ?_)
                  obtain rfl : y_296 = nI ((8 * w) + i) := ey_296.trans (z_iaddn (8 * w) i rfl rfl)
                  refine z_ild C G 1 rfl (vp_in_nI (by omega) (by decide)) dX12_game_121 ?_
                  refine lv_topi (fun v_297 ev_297 => ?_)
                  rw [nI_clamp (by omega)] at ev_297
                  subst ev_297
                  have hv9 : (xr1 ((8 * w) + i)).toInt = if (gOp (zWo f_all 661 j_inns_3) (aRs (zWo f_all 661 j_inns_3) (zPo f_all 661) 7) 1 w) i = true then (gVp (zWo f_all 661 j_inns_3) (zLo f_all 661) j_inns_3 c_ (aRs (zWo f_all 661 j_inns_3) (zPo f_all 661) 7) 0 false 1 w) i else -1 := by rw [(show ((8 * w) + i) = 8 * w + i from by omega), hxF1 (8 * w + i) (by omega)]; exact (hF1 (8 * w + i) (by omega)).trans (gRw_c (by omega))
                  have hxk9 := gIx_ok (ok := (gOp (zWo f_all 661 j_inns_3) (aRs (zWo f_all 661 j_inns_3) (zPo f_all 661) 7) 1 w)) (v := (gVp (zWo f_all 661 j_inns_3) (zLo f_all 661) j_inns_3 c_ (aRs (zWo f_all 661 j_inns_3) (zPo f_all 661) 7) 0 false 1 w)) (mn := false) i
                  rw [← hxb] at hxk9
                  refine lv_istore (lv' := [(10, .int (xr1 ((8 * w) + i))), (9, .int (nI i)), (6, .int x), (8, .int (nI w)), (5, .int 8), (7, .int 1), (0, .ref mo), (1, .int l_), (2, .int c_), (3, .int 2), (4, .int f_)]) hx hb dX12_game_122 hl (by decide) (zLvf_h rfl) (fun ls hl => ?_)
                  refine lv_iload hx hb dX12_game_124 (lv_at hl 0 rfl) ?_
                  refine lv_iconst (v := (-1)) hx hb dX12_game_126 (by decide) ?_
                  refine lv_icmp_eq (tgt := 189) hx hb dX12_game_127 (by decide) (fun c_298 => ?_) (fun c_298 => ?_)
                  · have c_298n : (xr1 ((8 * w) + i)).toInt = (-1 : Int) := (fa_eq _ _).mp c_298
                    have hxn9 : x.toInt = gIx (gOp (zWo f_all 661 j_inns_3) (aRs (zWo f_all 661 j_inns_3) (zPo f_all 661) 7) 1 w) (gVp (zWo f_all 661 j_inns_3) (zLo f_all 661) j_inns_3 c_ (aRs (zWo f_all 661 j_inns_3) (zPo f_all 661) 7) 0 false 1 w) false (i + 1) := (gLx_n (fun c => gVp_0 c) hxb.symm hv9 (by first | exact Or.inl (by omega) | exact Or.inr ⟨by omega, by rw [if_neg (by decide)]; omega⟩)).symm
                    refine lv_iinc (v := nI (i + 1)) (lv' := [(9, .int (nI (i + 1))), (10, .int (xr1 ((8 * w) + i))), (6, .int x), (8, .int (nI w)), (5, .int 8), (7, .int 1), (0, .ref mo), (1, .int l_), (2, .int c_), (3, .int 2), (4, .int f_)]) hx hb dX12_game_189 hl (k := 1) rfl (z_inc i 1) (by decide) (zLvf_h rfl) (fun ls hl => ?_)
                    refine lv_goto (tgt := 102) hx hb dX12_game_192 (by decide) ?_
                    exact ih_102 (i + 1) x (show (i + 1) ≤ 8 ∧ x.toInt = gIx (gOp (zWo f_all 661 j_inns_3) (aRs (zWo f_all 661 j_inns_3) (zPo f_all 661) 7) 1 w) (gVp (zWo f_all 661 j_inns_3) (zLo f_all 661) j_inns_3 c_ (aRs (zWo f_all 661 j_inns_3) (zPo f_all 661) 7) 0 false 1 w) false (i + 1) from ⟨by omega, hxn9⟩) (show 8 - (i + 1) < 8 - i from by omega) _ _ ls G (lv_sub hl [0, 2, 3, 4, 5, 6, 7, 8, 9, 10] rfl)
                  · have c_298n : ¬ (xr1 ((8 * w) + i)).toInt = (-1 : Int) := fun q => c_298 ((fa_eq _ _).mpr q)
                    refine lv_iload hx hb dX12_game_130 (lv_at hl 2 rfl) ?_
                    refine lv_iconst (v := (-1)) hx hb dX12_game_132 (by decide) ?_
                    refine lv_icmp_eq (tgt := 185) hx hb dX12_game_133 (by decide) (fun c_299 => ?_) (fun c_299 => ?_)
                    · have c_299n : x.toInt = (-1 : Int) := (fa_eq _ _).mp c_299
                      refine lv_iload hx hb dX12_game_185 (lv_at hl 1 rfl) ?_
                      refine lv_istore (lv' := [(6, .int (nI i)), (10, .int (xr1 ((8 * w) + i))), (9, .int (nI i)), (8, .int (nI w)), (5, .int 8), (7, .int 1), (0, .ref mo), (1, .int l_), (2, .int c_), (3, .int 2), (4, .int f_)]) hx hb dX12_game_187 hl (by decide) (zLvf_h rfl) (fun ls hl => ?_)
                      have tii9 := nI_toInt (n := i) (by omega)
                      have hxn9 : (nI i).toInt = gIx (gOp (zWo f_all 661 j_inns_3) (aRs (zWo f_all 661 j_inns_3) (zPo f_all 661) 7) 1 w) (gVp (zWo f_all 661 j_inns_3) (zLo f_all 661) j_inns_3 c_ (aRs (zWo f_all 661 j_inns_3) (zPo f_all 661) 7) 0 false 1 w) false (i + 1) := tii9.trans (gLx_y hxb.symm hv9 (by omega) (by first | exact Or.inl (by omega) | exact Or.inr (by rw [if_neg (by decide)]; omega))).symm
                      refine lv_iinc (v := nI (i + 1)) (lv' := [(9, .int (nI (i + 1))), (6, .int (nI i)), (10, .int (xr1 ((8 * w) + i))), (8, .int (nI w)), (5, .int 8), (7, .int 1), (0, .ref mo), (1, .int l_), (2, .int c_), (3, .int 2), (4, .int f_)]) hx hb dX12_game_189 hl (k := 2) rfl (z_inc i 1) (by decide) (zLvf_h rfl) (fun ls hl => ?_)
                      refine lv_goto (tgt := 102) hx hb dX12_game_192 (by decide) ?_
                      exact ih_102 (i + 1) (nI i) (show (i + 1) ≤ 8 ∧ (nI i).toInt = gIx (gOp (zWo f_all 661 j_inns_3) (aRs (zWo f_all 661 j_inns_3) (zPo f_all 661) 7) 1 w) (gVp (zWo f_all 661 j_inns_3) (zLo f_all 661) j_inns_3 c_ (aRs (zWo f_all 661 j_inns_3) (zPo f_all 661) 7) 0 false 1 w) false (i + 1) from ⟨by omega, hxn9⟩) (show 8 - (i + 1) < 8 - i from by omega) _ _ ls G (lv_sub hl [0, 1, 3, 4, 5, 6, 7, 8, 9, 10] rfl)
                    · have c_299n : ¬ x.toInt = (-1 : Int) := fun q => c_299 ((fa_eq _ _).mpr q)
                      refine lv_iload hx hb dX12_game_136 (lv_at hl 5 rfl) ?_
                      refine lv_iconst (v := 2) hx hb dX12_game_138 (by decide) ?_
                      refine lv_irem hx hb dX12_game_139 (by decide) ?_
                      refine lv_topi (fun y_300 ey_300 => ?_)
                      obtain rfl : y_300 = 1 := ey_300.trans (by decide)
                      refine lv_if_ne (tgt := 164) hx hb dX12_game_140 (by decide) (fun _ => ?_) (fun q => absurd q (by decide))
                      refine lv_iload hx hb dX12_game_164 (lv_at hl 0 rfl) ?_
                      refine lv_aload_n hx hb dX12_game_166 rfl (lv_at hl 6 rfl) ?_
                      refine z_get C G clX12 6 rfl 24 (by decide) m_fl_RX12_38 rfl dX12_game_167 ?_
                      refine lv_bipush (v := 8) hx hb dX12_game_170 (by decide) ?_
                      refine lv_iload hx hb dX12_game_172 (lv_at hl 3 rfl) ?_
                      refine lv_imul hx hb dX12_game_174 ?_
                      refine lv_topi (fun y_301 ey_301 => ?_)
                      obtain rfl : y_301 = nI (8 * w) := ey_301.trans (z_imuln 8 w rfl rfl)
                      refine lv_iload hx hb dX12_game_175 (lv_at hl 2 rfl) ?_
                      refine lv_iadd hx hb dX12_game_177 ?_
                      refine lv_topi (fun y_302 ey_302 => ?_)
                      have ey_302i : y_302.toInt = ((8 * w) : Int) + x.toInt := by rw [ey_302]; exact (z_iaddI (x := (nI (8 * w))) (y := x) (by rw [nI_toInt (n := 8 * w) (by omega)]; show -2147483648 ≤ ((8 * w) : Int) + x.toInt; omega) (by rw [nI_toInt (n := 8 * w) (by omega)]; show ((8 * w) : Int) + x.toInt < 2147483648; omega)).trans (by rw [nI_toInt (n := 8 * w) (by omega)] <;> rfl)
                      refine z_ild C G 1 rfl (vp_in_iff.mpr ⟨by omega, by omega⟩) dX12_game_178 ?_
                      refine lv_topi (fun v_303 ev_303 => ?_)
                      subst ev_303
                      have hxy9 := hxk9.resolve_left (by first | omega | (intro q9; omega))
                      have hw9 : (xr1 y_302.toNatClampNeg).toInt = (gVp (zWo f_all 661 j_inns_3) (zLo f_all 661) j_inns_3 c_ (aRs (zWo f_all 661 j_inns_3) (zPo f_all 661) 7) 0 false 1 w) x.toInt.toNat := by rw [(show y_302.toNatClampNeg = 8 * w + x.toInt.toNat from by have q4 := z_clI (x := y_302) (by omega); omega), hxF1 (8 * w + x.toInt.toNat) (by omega)]; exact ((hF1 (8 * w + x.toInt.toNat) (by omega)).trans (gRw_c (by omega))).trans (if_pos hxy9.2.2)
                      refine lv_icmp_gt (tgt := 185) hx hb dX12_game_179 (by decide) (fun c_304 => ?_) (fun c_304 => ?_)
                      · have c_304n : (xr1 y_302.toNatClampNeg).toInt < (xr1 ((8 * w) + i)).toInt := (fa_lt _ _).mp c_304
                        refine lv_iload hx hb dX12_game_185 (lv_at hl 1 rfl) ?_
                        refine lv_istore (lv' := [(6, .int (nI i)), (10, .int (xr1 ((8 * w) + i))), (9, .int (nI i)), (8, .int (nI w)), (5, .int 8), (7, .int 1), (0, .ref mo), (1, .int l_), (2, .int c_), (3, .int 2), (4, .int f_)]) hx hb dX12_game_187 hl (by decide) (zLvf_h rfl) (fun ls hl => ?_)
                        have tii9 := nI_toInt (n := i) (by omega)
                        have hxn9 : (nI i).toInt = gIx (gOp (zWo f_all 661 j_inns_3) (aRs (zWo f_all 661 j_inns_3) (zPo f_all 661) 7) 1 w) (gVp (zWo f_all 661 j_inns_3) (zLo f_all 661) j_inns_3 c_ (aRs (zWo f_all 661 j_inns_3) (zPo f_all 661) 7) 0 false 1 w) false (i + 1) := tii9.trans (gLx_y hxb.symm hv9 (by omega) (by first | exact Or.inl (by omega) | exact Or.inr (by rw [if_neg (by decide)]; omega))).symm
                        refine lv_iinc (v := nI (i + 1)) (lv' := [(9, .int (nI (i + 1))), (6, .int (nI i)), (10, .int (xr1 ((8 * w) + i))), (8, .int (nI w)), (5, .int 8), (7, .int 1), (0, .ref mo), (1, .int l_), (2, .int c_), (3, .int 2), (4, .int f_)]) hx hb dX12_game_189 hl (k := 2) rfl (z_inc i 1) (by decide) (zLvf_h rfl) (fun ls hl => ?_)
                        refine lv_goto (tgt := 102) hx hb dX12_game_192 (by decide) ?_
                        exact ih_102 (i + 1) (nI i) (show (i + 1) ≤ 8 ∧ (nI i).toInt = gIx (gOp (zWo f_all 661 j_inns_3) (aRs (zWo f_all 661 j_inns_3) (zPo f_all 661) 7) 1 w) (gVp (zWo f_all 661 j_inns_3) (zLo f_all 661) j_inns_3 c_ (aRs (zWo f_all 661 j_inns_3) (zPo f_all 661) 7) 0 false 1 w) false (i + 1) from ⟨by omega, hxn9⟩) (show 8 - (i + 1) < 8 - i from by omega) _ _ ls G (lv_sub hl [0, 1, 3, 4, 5, 6, 7, 8, 9, 10] rfl)
                      · have c_304n : ¬ (xr1 y_302.toNatClampNeg).toInt < (xr1 ((8 * w) + i)).toInt := fun q => c_304 ((fa_lt _ _).mpr q)
                        refine lv_goto (tgt := 189) hx hb dX12_game_182 (by decide) ?_
                        have hxn9 : x.toInt = gIx (gOp (zWo f_all 661 j_inns_3) (aRs (zWo f_all 661 j_inns_3) (zPo f_all 661) 7) 1 w) (gVp (zWo f_all 661 j_inns_3) (zLo f_all 661) j_inns_3 c_ (aRs (zWo f_all 661 j_inns_3) (zPo f_all 661) 7) 0 false 1 w) false (i + 1) := (gLx_n (fun c => gVp_0 c) hxb.symm hv9 (by first | exact Or.inl (by omega) | exact Or.inr ⟨by omega, by rw [if_neg (by decide)]; omega⟩)).symm
                        refine lv_iinc (v := nI (i + 1)) (lv' := [(9, .int (nI (i + 1))), (10, .int (xr1 ((8 * w) + i))), (6, .int x), (8, .int (nI w)), (5, .int 8), (7, .int 1), (0, .ref mo), (1, .int l_), (2, .int c_), (3, .int 2), (4, .int f_)]) hx hb dX12_game_189 hl (k := 1) rfl (z_inc i 1) (by decide) (zLvf_h rfl) (fun ls hl => ?_)
                        refine lv_goto (tgt := 102) hx hb dX12_game_192 (by decide) ?_
                        exact ih_102 (i + 1) x (show (i + 1) ≤ 8 ∧ x.toInt = gIx (gOp (zWo f_all 661 j_inns_3) (aRs (zWo f_all 661 j_inns_3) (zPo f_all 661) 7) 1 w) (gVp (zWo f_all 661 j_inns_3) (zLo f_all 661) j_inns_3 c_ (aRs (zWo f_all 661 j_inns_3) (zPo f_all 661) 7) 0 false 1 w) false (i + 1) from ⟨by omega, hxn9⟩) (show 8 - (i + 1) < 8 - i from by omega) _ _ ls G (lv_sub hl [0, 2, 3, 4, 5, 6, 7, 8, 9, 10] rfl)
            · have c_267n : ¬ 64 ≤ w := fun q => c_267 ((nI_leI (a := 64) (b := w) (by omega) (by omega)).mpr q)
              refine lv_aload_n hx hb dX12_game_45 rfl (lv_at hl 2 rfl) ?_
              refine z_get C G clX12 6 rfl 24 (by decide) m_fl_RX12_38 rfl dX12_game_46 ?_
              refine lv_iload hx hb dX12_game_49 (lv_at hl 0 rfl) ?_
              refine lv_aload_n hx hb dX12_game_51 rfl (lv_at hl 2 rfl) ?_
              refine lv_iload hx hb dX12_game_52 (lv_at hl 0 rfl) ?_
              refine lv_iload_n hx hb dX12_game_54 rfl (lv_at hl 5 rfl) ?_
              refine lv_iload_n hx hb dX12_game_55 rfl (lv_at hl 4 rfl) ?_
              have ti_305 : (nI w).toInt = ((w : Nat) : Int) := nI_toInt (by omega)
              refine z_Vi (bc := [[zO11 mo m_all m_has i_size i_next i_where i_token i_number i_word i_wrong i_farCrossing m_read 661 j_crossings_2 j_inns_3 m_posts m_shut m_here xsteps xdone xat xgone m_was m_came m_seenAt m_rowWorth m_farBy m_used i_everywhere i_again0 i_d0 i_never i_firstCame i_longRun i_moved i_crowd i_l0 i_fitMany i_fitLeast i_fitMost m_fitPost m_fitEnd m_keptPosts i_x0], [zAr T 0 m_all 3952 f_all], [zAr T 0 m_posts 7 xposts], [zAr T 0 m_shut 7 xshut], [zAr T 0 m_here 7 xhere], [zAr T 0 m_was 7 xwas]]) (br := [[zAr T 0 m_rowWorth 512 xrowWorth]]) (As := [.int (nI w), .int 2, .int c_]) (rest := [.int (nI w), .ref m_rowWorth]) C G (c_fm_gameBy2 l T mo m_all m_has i_size i_next i_where i_token i_number i_word i_wrong i_farCrossing m_read 661 j_crossings_2 j_inns_3 m_posts m_shut m_here xsteps xdone xat xgone m_was m_came m_seenAt m_rowWorth m_farBy m_used i_everywhere i_again0 i_d0 i_never i_firstCame i_longRun i_moved i_crowd i_l0 i_fitMany i_fitLeast i_fitMost m_fitPost m_fitEnd m_keptPosts i_x0 f_all xposts xshut xhere xwas w c_ hLx (by first | with_reducible assumption | with_reducible rfl | omega | assumption | rfl | decide) (by first | with_reducible assumption | with_reducible rfl | omega | assumption | rfl | decide) hVA hVz (by first | with_reducible assumption | with_reducible rfl | omega | assumption | rfl | decide)) (kV_RX12_251 C.2.2.2.2 (Nat.le_of_ble_eq_true rfl) (Nat.le_of_ble_eq_true rfl)) [6, 2, 3, 4, 5, 0] [0, 1, 0, 0, 0, 0] rfl rfl (ci := 11) (qc := (RX12, TX12, 43)) rfl rfl (List.mem_flatten.mpr ⟨_, List.mem_of_getElem? (i := 0) rfl, List.mem_cons_self⟩) rfl rfl hl.1 dX12_game_56 (Nat.le_of_ble_eq_true rfl) (Nat.le_of_ble_eq_true rfl) (fun r_315 b1 H locs hw G => ?_)
              refine zEx8 hw ?_
              intro j_steps_306 j_done_307 j_at_308 j_gone_309 g_posts_310 g_shut_311 g_here_312 g_was_313
              refine zCu2 ?_
              intro hbs9 h_314
              clear hw
              subst hbs9
              have G : zS T A s.heap s [[zAr T 0 m_rowWorth 512 xrowWorth], [zO11 mo m_all m_has i_size i_next i_where i_token i_number i_word i_wrong i_farCrossing m_read 661 j_crossings_2 j_inns_3 m_posts m_shut m_here j_steps_306 j_done_307 j_at_308 j_gone_309 m_was m_came m_seenAt m_rowWorth m_farBy m_used i_everywhere i_again0 i_d0 i_never i_firstCame i_longRun i_moved i_crowd i_l0 i_fitMany i_fitLeast i_fitMost m_fitPost m_fitEnd m_keptPosts i_x0], [zAr T 0 m_all 3952 f_all], [zAr T 0 m_posts 7 g_posts_310], [zAr T 0 m_shut 7 g_shut_311], [zAr T 0 m_here 7 g_here_312], [zAr T 0 m_was 7 g_was_313]] _ _ := G
              have hgb9 : r_315.toInt = gRw (zWo f_all 661 j_inns_3) (zLo f_all 661) j_inns_3 c_ (aRs (zWo f_all 661 j_inns_3) (zPo f_all 661) 7) 0 true 2 w := h_314
              refine z_ist C G 0 rfl (vp_in_nI (by omega) (by decide)) dX12_game_59 (fun H locs G => ?_)
              rw [nI_clamp (by omega)] at G
              have G : zS T A s.heap s [[zAr T 0 m_rowWorth 512 (upd xrowWorth w r_315)], [zO11 mo m_all m_has i_size i_next i_where i_token i_number i_word i_wrong i_farCrossing m_read 661 j_crossings_2 j_inns_3 m_posts m_shut m_here j_steps_306 j_done_307 j_at_308 j_gone_309 m_was m_came m_seenAt m_rowWorth m_farBy m_used i_everywhere i_again0 i_d0 i_never i_firstCame i_longRun i_moved i_crowd i_l0 i_fitMany i_fitLeast i_fitMost m_fitPost m_fitEnd m_keptPosts i_x0], [zAr T 0 m_all 3952 f_all], [zAr T 0 m_posts 7 g_posts_310], [zAr T 0 m_shut 7 g_shut_311], [zAr T 0 m_here 7 g_here_312], [zAr T 0 m_was 7 g_was_313]] _ _ := G
              refine lv_iinc (v := nI (w + 1)) (lv' := [(6, .int (nI (w + 1))), (5, .int 64), (0, .ref mo), (1, .int l_), (2, .int c_), (3, .int 2), (4, .int f_)]) hx hb dX12_game_60 hl (k := 0) rfl (z_inc w 1) (by decide) (zLvf_h rfl) (fun ls hl => ?_)
              refine lv_goto (tgt := 38) hx hb dX12_game_63 (by decide) ?_
              have G := G.sub (bs' := [[zAr T 0 m_was 7 g_was_313], [zAr T 0 m_rowWorth 512 (upd xrowWorth w r_315)], [zAr T 0 m_all 3952 f_all], [zAr T 0 m_posts 7 g_posts_310], [zAr T 0 m_shut 7 g_shut_311], [zAr T 0 m_here 7 g_here_312], [zO11 mo m_all m_has i_size i_next i_where i_token i_number i_word i_wrong i_farCrossing m_read 661 j_crossings_2 j_inns_3 m_posts m_shut m_here j_steps_306 j_done_307 j_at_308 j_gone_309 m_was m_came m_seenAt m_rowWorth m_farBy m_used i_everywhere i_again0 i_d0 i_never i_firstCame i_longRun i_moved i_crowd i_l0 i_fitMany i_fitLeast i_fitMost m_fitPost m_fitEnd m_keptPosts i_x0]]) [6, 0, 2, 3, 4, 5, 1] rfl
              exact ih_38 (w + 1) j_at_308 j_gone_309 j_steps_306 j_done_307 g_posts_310 g_shut_311 g_here_312 g_was_313 (upd xrowWorth w r_315) (show (w + 1) ≤ 64 ∧ (∀ p, p < (w + 1) → ((upd xrowWorth w r_315) p).toInt = gRw (zWo f_all 661 j_inns_3) (zLo f_all 661) j_inns_3 c_ (aRs (zWo f_all 661 j_inns_3) (zPo f_all 661) 7) 0 true 2 p) from ⟨by omega, (gUp hrow hgb9)⟩) (show 64 - (w + 1) < 64 - w from by omega) _ _ ls G (lv_sub hl [0, 1, 2, 3, 4, 5, 6] rfl)
          · obtain rfl : n_ = 3 := Int32.toInt_inj.mp hnn9
            refine lv_iconst (v := 1) hx hb dX12_game_28 (by decide) ?_
            refine lv_iconst (v := 3) hx hb dX12_game_29 (by decide) ?_
            refine lv_iload_n hx hb dX12_game_30 rfl (lv_at hl 3 rfl) ?_
            refine lv_imul hx hb dX12_game_31 ?_
            refine lv_topi (fun y_316 ey_316 => ?_)
            obtain rfl : y_316 = 9 := ey_316.trans (by decide)
            refine lv_ishl hx hb dX12_game_32 ?_
            refine lv_topi (fun y_317 ey_317 => ?_)
            obtain rfl : y_317 = 512 := ey_317.trans (by decide)
            refine lv_istore (lv' := [(5, .int 512), (0, .ref mo), (1, .int l_), (2, .int c_), (3, .int 3), (4, .int f_)]) hx hb dX12_game_33 hl (by decide) (zLvf_h rfl) (fun ls hl => ?_)
            refine lv_iconst (v := 0) hx hb dX12_game_35 (by decide) ?_
            refine lv_istore (lv' := [(6, .int 0), (5, .int 512), (0, .ref mo), (1, .int l_), (2, .int c_), (3, .int 3), (4, .int f_)]) hx hb dX12_game_36 hl (by decide) (zLvf_h rfl) (fun ls hl => ?_)
            refine z_lp10 (T := T) 38 (fun (w : Nat) (xat : Int32) (xgone : Int32) (xsteps : Int32) (xdone : Int32) (xposts : Nat → Int32) (xshut : Nat → Int32) (xhere : Nat → Int32) (xwas : Nat → Int32) (xrowWorth : Nat → Int32) => [[zAr T 0 m_was 7 xwas], [zAr T 0 m_rowWorth 512 xrowWorth], [zAr T 0 m_all 3952 f_all], [zAr T 0 m_posts 7 xposts], [zAr T 0 m_shut 7 xshut], [zAr T 0 m_here 7 xhere], [zO11 mo m_all m_has i_size i_next i_where i_token i_number i_word i_wrong i_farCrossing m_read 661 j_crossings_2 j_inns_3 m_posts m_shut m_here xsteps xdone xat xgone m_was m_came m_seenAt m_rowWorth m_farBy m_used i_everywhere i_again0 i_d0 i_never i_firstCame i_longRun i_moved i_crowd i_l0 i_fitMany i_fitLeast i_fitMost m_fitPost m_fitEnd m_keptPosts i_x0]]) (fun (w : Nat) (xat : Int32) (xgone : Int32) (xsteps : Int32) (xdone : Int32) (xposts : Nat → Int32) (xshut : Nat → Int32) (xhere : Nat → Int32) (xwas : Nat → Int32) (xrowWorth : Nat → Int32) => [(6, .int (nI w)), (5, .int 512), (0, .ref mo), (1, .int l_), (2, .int c_), (3, .int 3), (4, .int f_)]) (fun (w : Nat) (xat : Int32) (xgone : Int32) (xsteps : Int32) (xdone : Int32) (xposts : Nat → Int32) (xshut : Nat → Int32) (xhere : Nat → Int32) (xwas : Nat → Int32) (xrowWorth : Nat → Int32) => w ≤ 512 ∧ (∀ p, p < w → (xrowWorth p).toInt = gRw (zWo f_all 661 j_inns_3) (zLo f_all 661) j_inns_3 c_ (aRs (zWo f_all 661 j_inns_3) (zPo f_all 661) 7) 0 false 3 p)) (fun (w : Nat) (xat : Int32) (xgone : Int32) (xsteps : Int32) (xdone : Int32) (xposts : Nat → Int32) (xshut : Nat → Int32) (xhere : Nat → Int32) (xwas : Nat → Int32) (xrowWorth : Nat → Int32) => 512 - w) ?_ 0 i_at i_gone j_steps_4 j_done_5 g_posts_6 g_shut_7 g_here_8 f_was f_rowWorth (show 0 ≤ 512 ∧ (∀ p, p < 0 → (f_rowWorth p).toInt = gRw (zWo f_all 661 j_inns_3) (zLo f_all 661) j_inns_3 c_ (aRs (zWo f_all 661 j_inns_3) (zPo f_all 661) 7) 0 false 3 p) from ⟨by omega, (fun p hp => absurd hp (Nat.not_lt_zero _))⟩) G (lv_sub hl [0, 1, 2, 3, 4, 5, 6] rfl)
            intro w xat xgone xsteps xdone xposts xshut xhere xwas xrowWorth hI9 ih_38 H locs ls G hl
            replace hI9 : w ≤ 512 ∧ (∀ p, p < w → (xrowWorth p).toInt = gRw (zWo f_all 661 j_inns_3) (zLo f_all 661) j_inns_3 c_ (aRs (zWo f_all 661 j_inns_3) (zPo f_all 661) 7) 0 false 3 p) := hI9
            refine zAn2 hI9 ?_
            intro hww hrow
            clear hI9
            replace G : zS T A s.heap s [[zAr T 0 m_was 7 xwas], [zAr T 0 m_rowWorth 512 xrowWorth], [zAr T 0 m_all 3952 f_all], [zAr T 0 m_posts 7 xposts], [zAr T 0 m_shut 7 xshut], [zAr T 0 m_here 7 xhere], [zO11 mo m_all m_has i_size i_next i_where i_token i_number i_word i_wrong i_farCrossing m_read 661 j_crossings_2 j_inns_3 m_posts m_shut m_here xsteps xdone xat xgone m_was m_came m_seenAt m_rowWorth m_farBy m_used i_everywhere i_again0 i_d0 i_never i_firstCame i_longRun i_moved i_crowd i_l0 i_fitMany i_fitLeast i_fitMost m_fitPost m_fitEnd m_keptPosts i_x0]] _ _ := G
            replace hl : lv_has ls 11 [(6, .int (nI w)), (5, .int 512), (0, .ref mo), (1, .int l_), (2, .int c_), (3, .int 3), (4, .int f_)] := hl
            refine lv_iload hx hb dX12_game_38 (lv_at hl 0 rfl) ?_
            refine lv_iload hx hb dX12_game_40 (lv_at hl 1 rfl) ?_
            refine lv_icmp_ge (tgt := 66) hx hb dX12_game_42 (by decide) (fun c_318 => ?_) (fun c_318 => ?_)
            · have c_318n : 512 ≤ w := (nI_leI (a := 512) (b := w) (by omega) (by omega)).mp c_318
              refine lv_iconst (v := (-1)) hx hb dX12_game_66 (by decide) ?_
              refine lv_istore (lv' := [(6, .int (-1)), (5, .int 512), (0, .ref mo), (1, .int l_), (2, .int c_), (3, .int 3), (4, .int f_)]) hx hb dX12_game_67 hl (by decide) (zLvf_h rfl) (fun ls hl => ?_)
              refine lv_iload_n hx hb dX12_game_69 rfl (lv_at hl 5 rfl) ?_
              refine lv_iconst (v := 1) hx hb dX12_game_70 (by decide) ?_
              refine lv_isub hx hb dX12_game_71 ?_
              refine lv_topi (fun y_319 ey_319 => ?_)
              obtain rfl : y_319 = 2 := ey_319.trans (by decide)
              refine lv_istore (lv' := [(7, .int 2), (6, .int (-1)), (5, .int 512), (0, .ref mo), (1, .int l_), (2, .int c_), (3, .int 3), (4, .int f_)]) hx hb dX12_game_72 hl (by decide) (zLvf_h rfl) (fun ls hl => ?_)
              refine lv_iload hx hb dX12_game_74 (lv_at hl 0 rfl) ?_
              refine lv_if_lt (tgt := 237) hx hb dX12_game_76 (by decide) (fun q => absurd q (by decide)) (fun _ => ?_)
              refine lv_iload hx hb dX12_game_79 (lv_at hl 2 rfl) ?_
              refine lv_bipush (v := 8) hx hb dX12_game_81 (by decide) ?_
              refine lv_idiv hx hb dX12_game_83 (by decide) ?_
              refine lv_topi (fun y_320 ey_320 => ?_)
              obtain rfl : y_320 = 64 := ey_320.trans (by decide)
              refine lv_istore (lv' := [(5, .int 64), (7, .int 2), (6, .int (-1)), (0, .ref mo), (1, .int l_), (2, .int c_), (3, .int 3), (4, .int f_)]) hx hb dX12_game_84 hl (by decide) (zLvf_h rfl) (fun ls hl => ?_)
              refine lv_iconst (v := 0) hx hb dX12_game_86 (by decide) ?_
              refine lv_istore (lv' := [(8, .int 0), (5, .int 64), (7, .int 2), (6, .int (-1)), (0, .ref mo), (1, .int l_), (2, .int c_), (3, .int 3), (4, .int f_)]) hx hb dX12_game_87 hl (by decide) (zLvf_h rfl) (fun ls hl => ?_)
              have hF2 : ∀ p, p < 512 → (xrowWorth p).toInt = gRw (zWo f_all 661 j_inns_3) (zLo f_all 661) j_inns_3 c_ (aRs (zWo f_all 661 j_inns_3) (zPo f_all 661) 7) 0 (!true) 3 p := fun p hp => hrow p (by omega)
              refine z_lp3 (T := T) 89 (fun (w : Nat) (x : Int32) (xr2 : Nat → Int32) => [[zAr T 0 m_was 7 xwas], [zAr T 0 m_rowWorth 512 xr2], [zAr T 0 m_all 3952 f_all], [zAr T 0 m_posts 7 xposts], [zAr T 0 m_shut 7 xshut], [zAr T 0 m_here 7 xhere], [zO11 mo m_all m_has i_size i_next i_where i_token i_number i_word i_wrong i_farCrossing m_read 661 j_crossings_2 j_inns_3 m_posts m_shut m_here xsteps xdone xat xgone m_was m_came m_seenAt m_rowWorth m_farBy m_used i_everywhere i_again0 i_d0 i_never i_firstCame i_longRun i_moved i_crowd i_l0 i_fitMany i_fitLeast i_fitMost m_fitPost m_fitEnd m_keptPosts i_x0]]) (fun (w : Nat) (x : Int32) (xr2 : Nat → Int32) => [(8, .int (nI w)), (5, .int 64), (7, .int 2), (6, .int x), (0, .ref mo), (1, .int l_), (2, .int c_), (3, .int 3), (4, .int f_)]) (fun (w : Nat) (x : Int32) (xr2 : Nat → Int32) => w ≤ 64 ∧ (∀ p, p < w → (xr2 p).toInt = gRw (zWo f_all 661 j_inns_3) (zLo f_all 661) j_inns_3 c_ (aRs (zWo f_all 661 j_inns_3) (zPo f_all 661) 7) 1 true 2 p) ∧ (∀ p, w ≤ p → xr2 p = xrowWorth p) ∧ (0 < w → x.toInt = gIx (gOp (zWo f_all 661 j_inns_3) (aRs (zWo f_all 661 j_inns_3) (zPo f_all 661) 7) 2 (w - 1)) (gVp (zWo f_all 661 j_inns_3) (zLo f_all 661) j_inns_3 c_ (aRs (zWo f_all 661 j_inns_3) (zPo f_all 661) 7) 0 true 2 (w - 1)) true 8)) (fun (w : Nat) (x : Int32) (xr2 : Nat → Int32) => 64 - w) ?_ 0 (-1) xrowWorth (show 0 ≤ 64 ∧ (∀ p, p < 0 → (xrowWorth p).toInt = gRw (zWo f_all 661 j_inns_3) (zLo f_all 661) j_inns_3 c_ (aRs (zWo f_all 661 j_inns_3) (zPo f_all 661) 7) 1 true 2 p) ∧ (∀ p, 0 ≤ p → xrowWorth p = xrowWorth p) ∧ (0 < 0 → ((-1) : Int32).toInt = gIx (gOp (zWo f_all 661 j_inns_3) (aRs (zWo f_all 661 j_inns_3) (zPo f_all 661) 7) 2 (0 - 1)) (gVp (zWo f_all 661 j_inns_3) (zLo f_all 661) j_inns_3 c_ (aRs (zWo f_all 661 j_inns_3) (zPo f_all 661) 7) 0 true 2 (0 - 1)) true 8) from ⟨by omega, (fun p hp => absurd hp (Nat.not_lt_zero _)), (fun _ _ => rfl), (fun q9 => absurd q9 (Nat.lt_irrefl _))⟩) G (lv_sub hl [0, 1, 2, 3, 4, 5, 6, 7, 8] rfl)
              intro w x xr2 hI9 ih_89 H locs ls G hl
              replace hI9 : w ≤ 64 ∧ (∀ p, p < w → (xr2 p).toInt = gRw (zWo f_all 661 j_inns_3) (zLo f_all 661) j_inns_3 c_ (aRs (zWo f_all 661 j_inns_3) (zPo f_all 661) 7) 1 true 2 p) ∧ (∀ p, w ≤ p → xr2 p = xrowWorth p) ∧ (0 < w → x.toInt = gIx (gOp (zWo f_all 661 j_inns_3) (aRs (zWo f_all 661 j_inns_3) (zPo f_all 661) 7) 2 (w - 1)) (gVp (zWo f_all 661 j_inns_3) (zLo f_all 661) j_inns_3 c_ (aRs (zWo f_all 661 j_inns_3) (zPo f_all 661) 7) 0 true 2 (w - 1)) true 8) := hI9
              refine zAn4 hI9 ?_
              intro hww hwr2 hxF2 hx6
              clear hI9
              replace G : zS T A s.heap s [[zAr T 0 m_was 7 xwas], [zAr T 0 m_rowWorth 512 xr2], [zAr T 0 m_all 3952 f_all], [zAr T 0 m_posts 7 xposts], [zAr T 0 m_shut 7 xshut], [zAr T 0 m_here 7 xhere], [zO11 mo m_all m_has i_size i_next i_where i_token i_number i_word i_wrong i_farCrossing m_read 661 j_crossings_2 j_inns_3 m_posts m_shut m_here xsteps xdone xat xgone m_was m_came m_seenAt m_rowWorth m_farBy m_used i_everywhere i_again0 i_d0 i_never i_firstCame i_longRun i_moved i_crowd i_l0 i_fitMany i_fitLeast i_fitMost m_fitPost m_fitEnd m_keptPosts i_x0]] _ _ := G
              replace hl : lv_has ls 11 [(8, .int (nI w)), (5, .int 64), (7, .int 2), (6, .int x), (0, .ref mo), (1, .int l_), (2, .int c_), (3, .int 3), (4, .int f_)] := hl
              refine lv_iload hx hb dX12_game_89 (lv_at hl 0 rfl) ?_
              refine lv_iload hx hb dX12_game_91 (lv_at hl 1 rfl) ?_
              refine lv_icmp_ge (tgt := 231) hx hb dX12_game_93 (by decide) (fun c_321 => ?_) (fun c_321 => ?_)
              · have c_321n : 64 ≤ w := (nI_leI (a := 64) (b := w) (by omega) (by omega)).mp c_321
                refine lv_iinc (v := 1) (lv' := [(7, .int 1), (8, .int (nI w)), (5, .int 64), (6, .int x), (0, .ref mo), (1, .int l_), (2, .int c_), (3, .int 3), (4, .int f_)]) hx hb dX12_game_231 hl (k := 2) rfl (by decide) (by decide) (zLvf_h rfl) (fun ls hl => ?_)
                refine lv_goto (tgt := 74) hx hb dX12_game_234 (by decide) ?_
                refine lv_iload hx hb dX12_game_74 (lv_at hl 0 rfl) ?_
                refine lv_if_lt (tgt := 237) hx hb dX12_game_76 (by decide) (fun q => absurd q (by decide)) (fun _ => ?_)
                refine lv_iload hx hb dX12_game_79 (lv_at hl 2 rfl) ?_
                refine lv_bipush (v := 8) hx hb dX12_game_81 (by decide) ?_
                refine lv_idiv hx hb dX12_game_83 (by decide) ?_
                refine lv_topi (fun y_322 ey_322 => ?_)
                obtain rfl : y_322 = 8 := ey_322.trans (by decide)
                refine lv_istore (lv' := [(5, .int 8), (7, .int 1), (8, .int (nI w)), (6, .int x), (0, .ref mo), (1, .int l_), (2, .int c_), (3, .int 3), (4, .int f_)]) hx hb dX12_game_84 hl (by decide) (zLvf_h rfl) (fun ls hl => ?_)
                refine lv_iconst (v := 0) hx hb dX12_game_86 (by decide) ?_
                refine lv_istore (lv' := [(8, .int 0), (5, .int 8), (7, .int 1), (6, .int x), (0, .ref mo), (1, .int l_), (2, .int c_), (3, .int 3), (4, .int f_)]) hx hb dX12_game_87 hl (by decide) (zLvf_h rfl) (fun ls hl => ?_)
                have hF1 : ∀ p, p < 64 → (xr2 p).toInt = gRw (zWo f_all 661 j_inns_3) (zLo f_all 661) j_inns_3 c_ (aRs (zWo f_all 661 j_inns_3) (zPo f_all 661) 7) 1 (!false) 2 p := fun p hp => hwr2 p (by omega)
                refine z_lp3 (T := T) 89 (fun (w : Nat) (x : Int32) (xr1 : Nat → Int32) => [[zAr T 0 m_was 7 xwas], [zAr T 0 m_rowWorth 512 xr1], [zAr T 0 m_all 3952 f_all], [zAr T 0 m_posts 7 xposts], [zAr T 0 m_shut 7 xshut], [zAr T 0 m_here 7 xhere], [zO11 mo m_all m_has i_size i_next i_where i_token i_number i_word i_wrong i_farCrossing m_read 661 j_crossings_2 j_inns_3 m_posts m_shut m_here xsteps xdone xat xgone m_was m_came m_seenAt m_rowWorth m_farBy m_used i_everywhere i_again0 i_d0 i_never i_firstCame i_longRun i_moved i_crowd i_l0 i_fitMany i_fitLeast i_fitMost m_fitPost m_fitEnd m_keptPosts i_x0]]) (fun (w : Nat) (x : Int32) (xr1 : Nat → Int32) => [(8, .int (nI w)), (5, .int 8), (7, .int 1), (6, .int x), (0, .ref mo), (1, .int l_), (2, .int c_), (3, .int 3), (4, .int f_)]) (fun (w : Nat) (x : Int32) (xr1 : Nat → Int32) => w ≤ 8 ∧ (∀ p, p < w → (xr1 p).toInt = gRw (zWo f_all 661 j_inns_3) (zLo f_all 661) j_inns_3 c_ (aRs (zWo f_all 661 j_inns_3) (zPo f_all 661) 7) 2 false 1 p) ∧ (∀ p, w ≤ p → xr1 p = xr2 p) ∧ (0 < w → x.toInt = gIx (gOp (zWo f_all 661 j_inns_3) (aRs (zWo f_all 661 j_inns_3) (zPo f_all 661) 7) 1 (w - 1)) (gVp (zWo f_all 661 j_inns_3) (zLo f_all 661) j_inns_3 c_ (aRs (zWo f_all 661 j_inns_3) (zPo f_all 661) 7) 1 false 1 (w - 1)) false 8)) (fun (w : Nat) (x : Int32) (xr1 : Nat → Int32) => 8 - w) ?_ 0 x xr2 (show 0 ≤ 8 ∧ (∀ p, p < 0 → (xr2 p).toInt = gRw (zWo f_all 661 j_inns_3) (zLo f_all 661) j_inns_3 c_ (aRs (zWo f_all 661 j_inns_3) (zPo f_all 661) 7) 2 false 1 p) ∧ (∀ p, 0 ≤ p → xr2 p = xr2 p) ∧ (0 < 0 → x.toInt = gIx (gOp (zWo f_all 661 j_inns_3) (aRs (zWo f_all 661 j_inns_3) (zPo f_all 661) 7) 1 (0 - 1)) (gVp (zWo f_all 661 j_inns_3) (zLo f_all 661) j_inns_3 c_ (aRs (zWo f_all 661 j_inns_3) (zPo f_all 661) 7) 1 false 1 (0 - 1)) false 8) from ⟨by omega, (fun p hp => absurd hp (Nat.not_lt_zero _)), (fun _ _ => rfl), (fun q9 => absurd q9 (Nat.lt_irrefl _))⟩) G (lv_sub hl [0, 1, 2, 3, 4, 5, 6, 7, 8] rfl)
                intro w x xr1 hI9 ih_89 H locs ls G hl
                replace hI9 : w ≤ 8 ∧ (∀ p, p < w → (xr1 p).toInt = gRw (zWo f_all 661 j_inns_3) (zLo f_all 661) j_inns_3 c_ (aRs (zWo f_all 661 j_inns_3) (zPo f_all 661) 7) 2 false 1 p) ∧ (∀ p, w ≤ p → xr1 p = xr2 p) ∧ (0 < w → x.toInt = gIx (gOp (zWo f_all 661 j_inns_3) (aRs (zWo f_all 661 j_inns_3) (zPo f_all 661) 7) 1 (w - 1)) (gVp (zWo f_all 661 j_inns_3) (zLo f_all 661) j_inns_3 c_ (aRs (zWo f_all 661 j_inns_3) (zPo f_all 661) 7) 1 false 1 (w - 1)) false 8) := hI9
                refine zAn4 hI9 ?_
                intro hww hwr1 hxF1 hx6
                clear hI9
                replace G : zS T A s.heap s [[zAr T 0 m_was 7 xwas], [zAr T 0 m_rowWorth 512 xr1], [zAr T 0 m_all 3952 f_all], [zAr T 0 m_posts 7 xposts], [zAr T 0 m_shut 7 xshut], [zAr T 0 m_here 7 xhere], [zO11 mo m_all m_has i_size i_next i_where i_token i_number i_word i_wrong i_farCrossing m_read 661 j_crossings_2 j_inns_3 m_posts m_shut m_here xsteps xdone xat xgone m_was m_came m_seenAt m_rowWorth m_farBy m_used i_everywhere i_again0 i_d0 i_never i_firstCame i_longRun i_moved i_crowd i_l0 i_fitMany i_fitLeast i_fitMost m_fitPost m_fitEnd m_keptPosts i_x0]] _ _ := G
                replace hl : lv_has ls 11 [(8, .int (nI w)), (5, .int 8), (7, .int 1), (6, .int x), (0, .ref mo), (1, .int l_), (2, .int c_), (3, .int 3), (4, .int f_)] := hl
                refine lv_iload hx hb dX12_game_89 (lv_at hl 0 rfl) ?_
                refine lv_iload hx hb dX12_game_91 (lv_at hl 1 rfl) ?_
                refine lv_icmp_ge (tgt := 231) hx hb dX12_game_93 (by decide) (fun c_323 => ?_) (fun c_323 => ?_)
                · have c_323n : 8 ≤ w := (nI_leI (a := 8) (b := w) (by omega) (by omega)).mp c_323
                  refine lv_iinc (v := 0) (lv' := [(7, .int 0), (8, .int (nI w)), (5, .int 8), (6, .int x), (0, .ref mo), (1, .int l_), (2, .int c_), (3, .int 3), (4, .int f_)]) hx hb dX12_game_231 hl (k := 2) rfl (by decide) (by decide) (zLvf_h rfl) (fun ls hl => ?_)
                  refine lv_goto (tgt := 74) hx hb dX12_game_234 (by decide) ?_
                  refine lv_iload hx hb dX12_game_74 (lv_at hl 0 rfl) ?_
                  refine lv_if_lt (tgt := 237) hx hb dX12_game_76 (by decide) (fun q => absurd q (by decide)) (fun _ => ?_)
                  refine lv_iload hx hb dX12_game_79 (lv_at hl 2 rfl) ?_
                  refine lv_bipush (v := 8) hx hb dX12_game_81 (by decide) ?_
                  refine lv_idiv hx hb dX12_game_83 (by decide) ?_
                  refine lv_topi (fun y_324 ey_324 => ?_)
                  obtain rfl : y_324 = 1 := ey_324.trans (by decide)
                  refine lv_istore (lv' := [(5, .int 1), (7, .int 0), (8, .int (nI w)), (6, .int x), (0, .ref mo), (1, .int l_), (2, .int c_), (3, .int 3), (4, .int f_)]) hx hb dX12_game_84 hl (by decide) (zLvf_h rfl) (fun ls hl => ?_)
                  refine lv_iconst (v := 0) hx hb dX12_game_86 (by decide) ?_
                  refine lv_istore (lv' := [(8, .int 0), (5, .int 1), (7, .int 0), (6, .int x), (0, .ref mo), (1, .int l_), (2, .int c_), (3, .int 3), (4, .int f_)]) hx hb dX12_game_87 hl (by decide) (zLvf_h rfl) (fun ls hl => ?_)
                  have hF0 : ∀ p, p < 8 → (xr1 p).toInt = gRw (zWo f_all 661 j_inns_3) (zLo f_all 661) j_inns_3 c_ (aRs (zWo f_all 661 j_inns_3) (zPo f_all 661) 7) 2 (!true) 1 p := fun p hp => hwr1 p (by omega)
                  refine z_lp3 (T := T) 89 (fun (w : Nat) (x : Int32) (xr0 : Nat → Int32) => [[zAr T 0 m_was 7 xwas], [zAr T 0 m_rowWorth 512 xr0], [zAr T 0 m_all 3952 f_all], [zAr T 0 m_posts 7 xposts], [zAr T 0 m_shut 7 xshut], [zAr T 0 m_here 7 xhere], [zO11 mo m_all m_has i_size i_next i_where i_token i_number i_word i_wrong i_farCrossing m_read 661 j_crossings_2 j_inns_3 m_posts m_shut m_here xsteps xdone xat xgone m_was m_came m_seenAt m_rowWorth m_farBy m_used i_everywhere i_again0 i_d0 i_never i_firstCame i_longRun i_moved i_crowd i_l0 i_fitMany i_fitLeast i_fitMost m_fitPost m_fitEnd m_keptPosts i_x0]]) (fun (w : Nat) (x : Int32) (xr0 : Nat → Int32) => [(8, .int (nI w)), (5, .int 1), (7, .int 0), (6, .int x), (0, .ref mo), (1, .int l_), (2, .int c_), (3, .int 3), (4, .int f_)]) (fun (w : Nat) (x : Int32) (xr0 : Nat → Int32) => w ≤ 1 ∧ (∀ p, p < w → (xr0 p).toInt = gRw (zWo f_all 661 j_inns_3) (zLo f_all 661) j_inns_3 c_ (aRs (zWo f_all 661 j_inns_3) (zPo f_all 661) 7) 3 true 0 p) ∧ (∀ p, w ≤ p → xr0 p = xr1 p) ∧ (0 < w → x.toInt = gIx (gOp (zWo f_all 661 j_inns_3) (aRs (zWo f_all 661 j_inns_3) (zPo f_all 661) 7) 0 (w - 1)) (gVp (zWo f_all 661 j_inns_3) (zLo f_all 661) j_inns_3 c_ (aRs (zWo f_all 661 j_inns_3) (zPo f_all 661) 7) 2 true 0 (w - 1)) true 8)) (fun (w : Nat) (x : Int32) (xr0 : Nat → Int32) => 1 - w) ?_ 0 x xr1 (show 0 ≤ 1 ∧ (∀ p, p < 0 → (xr1 p).toInt = gRw (zWo f_all 661 j_inns_3) (zLo f_all 661) j_inns_3 c_ (aRs (zWo f_all 661 j_inns_3) (zPo f_all 661) 7) 3 true 0 p) ∧ (∀ p, 0 ≤ p → xr1 p = xr1 p) ∧ (0 < 0 → x.toInt = gIx (gOp (zWo f_all 661 j_inns_3) (aRs (zWo f_all 661 j_inns_3) (zPo f_all 661) 7) 0 (0 - 1)) (gVp (zWo f_all 661 j_inns_3) (zLo f_all 661) j_inns_3 c_ (aRs (zWo f_all 661 j_inns_3) (zPo f_all 661) 7) 2 true 0 (0 - 1)) true 8) from ⟨by omega, (fun p hp => absurd hp (Nat.not_lt_zero _)), (fun _ _ => rfl), (fun q9 => absurd q9 (Nat.lt_irrefl _))⟩) G (lv_sub hl [0, 1, 2, 3, 4, 5, 6, 7, 8] rfl)
                  intro w x xr0 hI9 ih_89 H locs ls G hl
                  replace hI9 : w ≤ 1 ∧ (∀ p, p < w → (xr0 p).toInt = gRw (zWo f_all 661 j_inns_3) (zLo f_all 661) j_inns_3 c_ (aRs (zWo f_all 661 j_inns_3) (zPo f_all 661) 7) 3 true 0 p) ∧ (∀ p, w ≤ p → xr0 p = xr1 p) ∧ (0 < w → x.toInt = gIx (gOp (zWo f_all 661 j_inns_3) (aRs (zWo f_all 661 j_inns_3) (zPo f_all 661) 7) 0 (w - 1)) (gVp (zWo f_all 661 j_inns_3) (zLo f_all 661) j_inns_3 c_ (aRs (zWo f_all 661 j_inns_3) (zPo f_all 661) 7) 2 true 0 (w - 1)) true 8) := hI9
                  refine zAn4 hI9 ?_
                  intro hww hwr0 hxF0 hx6
                  clear hI9
                  replace G : zS T A s.heap s [[zAr T 0 m_was 7 xwas], [zAr T 0 m_rowWorth 512 xr0], [zAr T 0 m_all 3952 f_all], [zAr T 0 m_posts 7 xposts], [zAr T 0 m_shut 7 xshut], [zAr T 0 m_here 7 xhere], [zO11 mo m_all m_has i_size i_next i_where i_token i_number i_word i_wrong i_farCrossing m_read 661 j_crossings_2 j_inns_3 m_posts m_shut m_here xsteps xdone xat xgone m_was m_came m_seenAt m_rowWorth m_farBy m_used i_everywhere i_again0 i_d0 i_never i_firstCame i_longRun i_moved i_crowd i_l0 i_fitMany i_fitLeast i_fitMost m_fitPost m_fitEnd m_keptPosts i_x0]] _ _ := G
                  replace hl : lv_has ls 11 [(8, .int (nI w)), (5, .int 1), (7, .int 0), (6, .int x), (0, .ref mo), (1, .int l_), (2, .int c_), (3, .int 3), (4, .int f_)] := hl
                  refine lv_iload hx hb dX12_game_89 (lv_at hl 0 rfl) ?_
                  refine lv_iload hx hb dX12_game_91 (lv_at hl 1 rfl) ?_
                  refine lv_icmp_ge (tgt := 231) hx hb dX12_game_93 (by decide) (fun c_325 => ?_) (fun c_325 => ?_)
                  · have c_325n : 1 ≤ w := (nI_leI (a := 1) (b := w) (by omega) (by omega)).mp c_325
                    refine lv_iinc (v := (-1)) (lv' := [(7, .int (-1)), (8, .int (nI w)), (5, .int 1), (6, .int x), (0, .ref mo), (1, .int l_), (2, .int c_), (3, .int 3), (4, .int f_)]) hx hb dX12_game_231 hl (k := 2) rfl (by decide) (by decide) (zLvf_h rfl) (fun ls hl => ?_)
                    refine lv_goto (tgt := 74) hx hb dX12_game_234 (by decide) ?_
                    refine lv_iload hx hb dX12_game_74 (lv_at hl 0 rfl) ?_
                    refine lv_if_lt (tgt := 237) hx hb dX12_game_76 (by decide) (fun _ => ?_) (fun q => absurd (by decide) q)
                    refine lv_iload hx hb dX12_game_237 (lv_at hl 8 rfl) ?_
                    refine lv_if_ne (tgt := 251) hx hb dX12_game_239 (by decide) (fun c_326 => ?_) (fun c_326 => ?_)
                    · have c_326n : ¬ f_.toInt = (0 : Int) := fun q => c_326 ((fa_eq _ _).mpr q)
                      refine lv_iload hx hb dX12_game_251 (lv_at hl 3 rfl) ?_
                      have G := G.sub (bs' := [[zO11 mo m_all m_has i_size i_next i_where i_token i_number i_word i_wrong i_farCrossing m_read 661 j_crossings_2 j_inns_3 m_posts m_shut m_here xsteps xdone xat xgone m_was m_came m_seenAt m_rowWorth m_farBy m_used i_everywhere i_again0 i_d0 i_never i_firstCame i_longRun i_moved i_crowd i_l0 i_fitMany i_fitLeast i_fitMost m_fitPost m_fitEnd m_keptPosts i_x0], [zAr T 0 m_all 3952 f_all], [zAr T 0 m_posts 7 xposts], [zAr T 0 m_shut 7 xshut], [zAr T 0 m_here 7 xhere], [zAr T 0 m_was 7 xwas], [zAr T 0 m_rowWorth 512 xr0]]) [6, 2, 3, 4, 5, 0, 1] rfl
                      exact z_back hQz_ (z_iret C hr hlocks G (Nat.le_of_ble_eq_true rfl) (Nat.le_of_ble_eq_true rfl) dX12_game_253 ⟨661, j_crossings_2, j_inns_3, xsteps, xdone, xat, xgone, xposts, xshut, xhere, xwas, xr0, rfl, (Or.inr (Or.inr ⟨by first | with_reducible assumption | assumption, by omega, (by
                                                                have q6 : rGame (zWo f_all 661 j_inns_3) (zLo f_all 661) (zPo f_all 661) j_inns_3 c_ 3 f_ = rGame (pW f_all 661) (zLo f_all 661) (zPo f_all 661) (f_all (661 + 1)) c_ 3 f_ := by rw [← hWe, ← hNi]
                                                                unfold pGame
                                                                rw [if_pos (by show (0 ≤ c_.toInt ∧ c_.toInt < (f_all 661).toInt) ∧ 0 ≤ (3 : Int32).toInt ∧ (3 : Int32).toInt ≤ 3; exact ⟨⟨by omega, by omega⟩, by decide, by decide⟩)]
                                                                refine Eq.trans ?_ q6
                                                                unfold rGame
                                                                rw [if_neg (by first | with_reducible assumption | assumption), if_neg (by decide)]
                                                                have q9 := hx6 (by omega)
                                                                have q5 := Int32.toInt_lt x
                                                                rw [show w - 1 = 0 by omega] at q9
                                                                have q7 : x.toInt = gIx (gOk (zWo f_all 661 j_inns_3)) (fun c => gV (zWo f_all 661 j_inns_3) (zLo f_all 661) j_inns_3 c_ 2 false (gTn (zWo f_all 661 j_inns_3) (aRs (zWo f_all 661 j_inns_3) (zPo f_all 661) 7) c)) true 8 := q9.trans (gIx_cg 8 (fun c _ => ⟨rfl, rfl⟩))
                                                                have q8 := gIx_7 (ok := gOk (zWo f_all 661 j_inns_3)) (v := (fun c => gV (zWo f_all 661 j_inns_3) (zLo f_all 661) j_inns_3 c_ 2 false (gTn (zWo f_all 661 j_inns_3) (aRs (zWo f_all 661 j_inns_3) (zPo f_all 661) 7) c))) (mn := true) (fun c => gV_0 _ _ _) gOk_7
                                                                exact z_nI (m := (gIx (gOk (zWo f_all 661 j_inns_3)) (fun c => gV (zWo f_all 661 j_inns_3) (zLo f_all 661) j_inns_3 c_ 2 false (gTn (zWo f_all 661 j_inns_3) (aRs (zWo f_all 661 j_inns_3) (zPo f_all 661) 7) c)) true 8).toNat) (by omega) (by omega))⟩))⟩)
                    · have c_326n : f_.toInt = (0 : Int) := (fa_eq _ _).mp c_326
                      refine lv_aload_n hx hb dX12_game_242 rfl (lv_at hl 4 rfl) ?_
                      refine z_get C G clX12 6 rfl 24 (by decide) m_fl_RX12_38 rfl dX12_game_243 ?_
                      refine lv_iconst (v := 0) hx hb dX12_game_246 (by decide) ?_
                      refine z_ild C G 1 rfl (vp_in_nI (n := 0) (by decide) (by decide)) dX12_game_247 ?_
                      refine lv_topi (fun v_327 ev_327 => ?_)
                      rw [show ((0 : Int32).toNatClampNeg) = 0 from rfl] at ev_327
                      subst ev_327
                      refine lv_goto (tgt := 253) hx hb dX12_game_248 (by decide) ?_
                      have G := G.sub (bs' := [[zO11 mo m_all m_has i_size i_next i_where i_token i_number i_word i_wrong i_farCrossing m_read 661 j_crossings_2 j_inns_3 m_posts m_shut m_here xsteps xdone xat xgone m_was m_came m_seenAt m_rowWorth m_farBy m_used i_everywhere i_again0 i_d0 i_never i_firstCame i_longRun i_moved i_crowd i_l0 i_fitMany i_fitLeast i_fitMost m_fitPost m_fitEnd m_keptPosts i_x0], [zAr T 0 m_all 3952 f_all], [zAr T 0 m_posts 7 xposts], [zAr T 0 m_shut 7 xshut], [zAr T 0 m_here 7 xhere], [zAr T 0 m_was 7 xwas], [zAr T 0 m_rowWorth 512 xr0]]) [6, 2, 3, 4, 5, 0, 1] rfl
                      exact z_back hQz_ (z_iret C hr hlocks G (Nat.le_of_ble_eq_true rfl) (Nat.le_of_ble_eq_true rfl) dX12_game_253 ⟨661, j_crossings_2, j_inns_3, xsteps, xdone, xat, xgone, xposts, xshut, xhere, xwas, xr0, rfl, (Or.inr (Or.inr ⟨by first | with_reducible assumption | assumption, by omega, (by
                                                                have q6 : rGame (zWo f_all 661 j_inns_3) (zLo f_all 661) (zPo f_all 661) j_inns_3 c_ 3 f_ = rGame (pW f_all 661) (zLo f_all 661) (zPo f_all 661) (f_all (661 + 1)) c_ 3 f_ := by rw [← hWe, ← hNi]
                                                                unfold pGame
                                                                rw [if_pos (by show (0 ≤ c_.toInt ∧ c_.toInt < (f_all 661).toInt) ∧ 0 ≤ (3 : Int32).toInt ∧ (3 : Int32).toInt ≤ 3; exact ⟨⟨by omega, by omega⟩, by decide, by decide⟩)]
                                                                refine Eq.trans ?_ q6
                                                                unfold rGame
                                                                rw [if_pos (by first | with_reducible assumption | assumption)]
                                                                have q8 := gV_0 (W := (zWo f_all 661 j_inns_3)) (L := (zLo f_all 661)) (inn := j_inns_3) (x := c_) 3 true (aRs (zWo f_all 661 j_inns_3) (zPo f_all 661) 7)
                                                                have q5 := Int32.toInt_lt (xr0 0)
                                                                have q7 : (xr0 0).toInt = gV (zWo f_all 661 j_inns_3) (zLo f_all 661) j_inns_3 c_ 3 true (aRs (zWo f_all 661 j_inns_3) (zPo f_all 661) 7) := (hwr0 0 (by omega)).trans (if_pos rfl)
                                                                exact z_nI (m := (gV (zWo f_all 661 j_inns_3) (zLo f_all 661) j_inns_3 c_ 3 true (aRs (zWo f_all 661 j_inns_3) (zPo f_all 661) 7)).toNat) (by omega) (by omega))⟩))⟩)
                  · have c_325n : ¬ 1 ≤ w := fun q => c_325 ((nI_leI (a := 1) (b := w) (by omega) (by omega)).mpr q)
                    refine lv_iconst (v := (-1)) hx hb dX12_game_96 (by decide) ?_
                    refine lv_istore (lv' := [(6, .int (-1)), (8, .int (nI w)), (5, .int 1), (7, .int 0), (0, .ref mo), (1, .int l_), (2, .int c_), (3, .int 3), (4, .int f_)]) hx hb dX12_game_97 hl (by decide) (zLvf_h rfl) (fun ls hl => ?_)
                    refine lv_iconst (v := 0) hx hb dX12_game_99 (by decide) ?_
                    refine lv_istore (lv' := [(9, .int 0), (6, .int (-1)), (8, .int (nI w)), (5, .int 1), (7, .int 0), (0, .ref mo), (1, .int l_), (2, .int c_), (3, .int 3), (4, .int f_)]) hx hb dX12_game_100 hl (by decide) (zLvf_h rfl) (fun ls hl => ?_)
                    refine z_lp2 (T := T) 102 (fun (i : Nat) (x : Int32) => [[zAr T 0 m_was 7 xwas], [zAr T 0 m_rowWorth 512 xr0], [zAr T 0 m_all 3952 f_all], [zAr T 0 m_posts 7 xposts], [zAr T 0 m_shut 7 xshut], [zAr T 0 m_here 7 xhere], [zO11 mo m_all m_has i_size i_next i_where i_token i_number i_word i_wrong i_farCrossing m_read 661 j_crossings_2 j_inns_3 m_posts m_shut m_here xsteps xdone xat xgone m_was m_came m_seenAt m_rowWorth m_farBy m_used i_everywhere i_again0 i_d0 i_never i_firstCame i_longRun i_moved i_crowd i_l0 i_fitMany i_fitLeast i_fitMost m_fitPost m_fitEnd m_keptPosts i_x0]]) (fun (i : Nat) (x : Int32) => [(9, .int (nI i)), (6, .int x), (8, .int (nI w)), (5, .int 1), (7, .int 0), (0, .ref mo), (1, .int l_), (2, .int c_), (3, .int 3), (4, .int f_)]) (fun (i : Nat) (x : Int32) => i ≤ 8 ∧ x.toInt = gIx (gOp (zWo f_all 661 j_inns_3) (aRs (zWo f_all 661 j_inns_3) (zPo f_all 661) 7) 0 w) (gVp (zWo f_all 661 j_inns_3) (zLo f_all 661) j_inns_3 c_ (aRs (zWo f_all 661 j_inns_3) (zPo f_all 661) 7) 2 true 0 w) true i) (fun (i : Nat) (x : Int32) => 8 - i) ?_ 0 (-1) (show 0 ≤ 8 ∧ ((-1) : Int32).toInt = gIx (gOp (zWo f_all 661 j_inns_3) (aRs (zWo f_all 661 j_inns_3) (zPo f_all 661) 7) 0 w) (gVp (zWo f_all 661 j_inns_3) (zLo f_all 661) j_inns_3 c_ (aRs (zWo f_all 661 j_inns_3) (zPo f_all 661) 7) 2 true 0 w) true 0 from ⟨by omega, rfl⟩) G (lv_sub hl [0, 1, 2, 3, 4, 5, 6, 7, 8, 9] rfl)
                    intro i x hI9 ih_102 H locs ls G hl
                    replace hI9 : i ≤ 8 ∧ x.toInt = gIx (gOp (zWo f_all 661 j_inns_3) (aRs (zWo f_all 661 j_inns_3) (zPo f_all 661) 7) 0 w) (gVp (zWo f_all 661 j_inns_3) (zLo f_all 661) j_inns_3 c_ (aRs (zWo f_all 661 j_inns_3) (zPo f_all 661) 7) 2 true 0 w) true i := hI9
                    refine zAn2 hI9 ?_
                    intro hi hxb
                    clear hI9
                    replace G : zS T A s.heap s [[zAr T 0 m_was 7 xwas], [zAr T 0 m_rowWorth 512 xr0], [zAr T 0 m_all 3952 f_all], [zAr T 0 m_posts 7 xposts], [zAr T 0 m_shut 7 xshut], [zAr T 0 m_here 7 xhere], [zO11 mo m_all m_has i_size i_next i_where i_token i_number i_word i_wrong i_farCrossing m_read 661 j_crossings_2 j_inns_3 m_posts m_shut m_here xsteps xdone xat xgone m_was m_came m_seenAt m_rowWorth m_farBy m_used i_everywhere i_again0 i_d0 i_never i_firstCame i_longRun i_moved i_crowd i_l0 i_fitMany i_fitLeast i_fitMost m_fitPost m_fitEnd m_keptPosts i_x0]] _ _ := G
                    replace hl : lv_has ls 11 [(9, .int (nI i)), (6, .int x), (8, .int (nI w)), (5, .int 1), (7, .int 0), (0, .ref mo), (1, .int l_), (2, .int c_), (3, .int 3), (4, .int f_)] := hl
                    refine lv_iload hx hb dX12_game_102 (lv_at hl 0 rfl) ?_
                    refine lv_bipush (v := 8) hx hb dX12_game_104 (by decide) ?_
                    refine lv_icmp_ge (tgt := 195) hx hb dX12_game_106 (by decide) (fun c_328 => ?_) (fun c_328 => ?_)
                    · have c_328n : 8 ≤ i := (nI_leI (a := 8) (b := i) (by omega) (by omega)).mp c_328
                      have hb89 : x.toInt = gIx (gOp (zWo f_all 661 j_inns_3) (aRs (zWo f_all 661 j_inns_3) (zPo f_all 661) 7) 0 w) (gVp (zWo f_all 661 j_inns_3) (zLo f_all 661) j_inns_3 c_ (aRs (zWo f_all 661 j_inns_3) (zPo f_all 661) 7) 2 true 0 w) true 8 := by rw [hxb, show i = 8 by omega]
                      have hle9 := gLx_e (fun c => gVp_0 c) hb89.symm
                      have hrs9 := gRw_s (W := (zWo f_all 661 j_inns_3)) (L := (zLo f_all 661)) (inn := j_inns_3) (x := c_) (t0 := (aRs (zWo f_all 661 j_inns_3) (zPo f_all 661) 7)) (m := 2) (mn := true) (k := 0) (p := w)
                      have hxk9 := gIx_ok (ok := (gOp (zWo f_all 661 j_inns_3) (aRs (zWo f_all 661 j_inns_3) (zPo f_all 661) 7) 0 w)) (v := (gVp (zWo f_all 661 j_inns_3) (zLo f_all 661) j_inns_3 c_ (aRs (zWo f_all 661 j_inns_3) (zPo f_all 661) 7) 2 true 0 w)) (mn := true) 8
                      rw [← hb89] at hxk9
                      refine lv_aload_n hx hb dX12_game_195 rfl (lv_at hl 5 rfl) ?_
                      refine z_get C G clX12 6 rfl 24 (by decide) m_fl_RX12_38 rfl dX12_game_196 ?_
                      refine lv_iload hx hb dX12_game_199 (lv_at hl 2 rfl) ?_
                      refine lv_iload hx hb dX12_game_201 (lv_at hl 1 rfl) ?_
                      refine lv_iconst (v := (-1)) hx hb dX12_game_203 (by decide) ?_
                      refine lv_icmp_ne (tgt := 211) hx hb dX12_game_204 (by decide) (fun c_329 => ?_) (fun c_329 => ?_)
                      · have c_329n : ¬ x.toInt = (-1 : Int) := fun q => c_329 ((fa_eq _ _).mpr q)
                        refine lv_aload_n hx hb dX12_game_211 rfl (lv_at hl 5 rfl) ?_
                        refine z_get C G clX12 6 rfl 24 (by decide) m_fl_RX12_38 rfl dX12_game_212 ?_
                        refine lv_bipush (v := 8) hx hb dX12_game_215 (by decide) ?_
                        refine lv_iload hx hb dX12_game_217 (lv_at hl 2 rfl) ?_
                        refine lv_imul hx hb dX12_game_219 ?_
                        refine lv_topi (fun y_330 ey_330 => ?_)
                        obtain rfl : y_330 = nI (8 * w) := ey_330.trans (z_imuln 8 w rfl rfl)
                        refine lv_iload hx hb dX12_game_220 (lv_at hl 1 rfl) ?_
                        refine lv_iadd hx hb dX12_game_222 ?_
                        refine lv_topi (fun y_331 ey_331 => ?_)
                        have ey_331i : y_331.toInt = ((8 * w) : Int) + x.toInt := by rw [ey_331]; exact (z_iaddI (x := (nI (8 * w))) (y := x) (by rw [nI_toInt (n := 8 * w) (by omega)]; show -2147483648 ≤ ((8 * w) : Int) + x.toInt; omega) (by rw [nI_toInt (n := 8 * w) (by omega)]; show ((8 * w) : Int) + x.toInt < 2147483648; omega)).trans (by rw [nI_toInt (n := 8 * w) (by omega)] <;> rfl)
                        refine z_ild C G 1 rfl (vp_in_iff.mpr ⟨by omega, by omega⟩) dX12_game_223 ?_
                        refine lv_topi (fun v_332 ev_332 => ?_)
                        subst ev_332
                        have hxy9 := hxk9.resolve_left (by first | omega | (intro q9; omega))
                        have hw9 : (xr0 y_331.toNatClampNeg).toInt = (gVp (zWo f_all 661 j_inns_3) (zLo f_all 661) j_inns_3 c_ (aRs (zWo f_all 661 j_inns_3) (zPo f_all 661) 7) 2 true 0 w) x.toInt.toNat := by rw [(show y_331.toNatClampNeg = 8 * w + x.toInt.toNat from by have q4 := z_clI (x := y_331) (by omega); omega), hxF0 (8 * w + x.toInt.toNat) (by omega)]; exact ((hF0 (8 * w + x.toInt.toNat) (by omega)).trans (gRw_c (by omega))).trans (if_pos hxy9.2.2)
                        have hnv9 : (xr0 y_331.toNatClampNeg).toInt = gRw (zWo f_all 661 j_inns_3) (zLo f_all 661) j_inns_3 c_ (aRs (zWo f_all 661 j_inns_3) (zPo f_all 661) 7) 3 true 0 w := by rw [hrs9, hle9.2 (by omega)]; exact hw9
                        refine z_ist C G 1 rfl (vp_in_nI (by omega) (by decide)) dX12_game_224 (fun H locs G => ?_)
                        rw [nI_clamp (by omega)] at G
                        have G : zS T A s.heap s [[zAr T 0 m_was 7 xwas], [zAr T 0 m_rowWorth 512 (upd xr0 w (xr0 y_331.toNatClampNeg))], [zAr T 0 m_all 3952 f_all], [zAr T 0 m_posts 7 xposts], [zAr T 0 m_shut 7 xshut], [zAr T 0 m_here 7 xhere], [zO11 mo m_all m_has i_size i_next i_where i_token i_number i_word i_wrong i_farCrossing m_read 661 j_crossings_2 j_inns_3 m_posts m_shut m_here xsteps xdone xat xgone m_was m_came m_seenAt m_rowWorth m_farBy m_used i_everywhere i_again0 i_d0 i_never i_firstCame i_longRun i_moved i_crowd i_l0 i_fitMany i_fitLeast i_fitMost m_fitPost m_fitEnd m_keptPosts i_x0]] _ _ := G
                        refine lv_iinc (v := nI (w + 1)) (lv' := [(8, .int (nI (w + 1))), (9, .int (nI i)), (6, .int x), (5, .int 1), (7, .int 0), (0, .ref mo), (1, .int l_), (2, .int c_), (3, .int 3), (4, .int f_)]) hx hb dX12_game_225 hl (k := 2) rfl (z_inc w 1) (by decide) (zLvf_h rfl) (fun ls hl => ?_)
                        refine lv_goto (tgt := 89) hx hb dX12_game_228 (by decide) ?_
                        exact ih_89 (w + 1) x (upd xr0 w (xr0 y_331.toNatClampNeg)) (show (w + 1) ≤ 1 ∧ (∀ p, p < (w + 1) → ((upd xr0 w (xr0 y_331.toNatClampNeg)) p).toInt = gRw (zWo f_all 661 j_inns_3) (zLo f_all 661) j_inns_3 c_ (aRs (zWo f_all 661 j_inns_3) (zPo f_all 661) 7) 3 true 0 p) ∧ (∀ p, (w + 1) ≤ p → (upd xr0 w (xr0 y_331.toNatClampNeg)) p = xr1 p) ∧ (0 < (w + 1) → x.toInt = gIx (gOp (zWo f_all 661 j_inns_3) (aRs (zWo f_all 661 j_inns_3) (zPo f_all 661) 7) 0 ((w + 1) - 1)) (gVp (zWo f_all 661 j_inns_3) (zLo f_all 661) j_inns_3 c_ (aRs (zWo f_all 661 j_inns_3) (zPo f_all 661) 7) 2 true 0 ((w + 1) - 1)) true 8) from ⟨by omega, (gUp hwr0 hnv9), (gUk hxF0), (fun _ => hb89)⟩) (show 1 - (w + 1) < 1 - w from by omega) _ _ ls G (lv_sub hl [0, 3, 4, 2, 5, 6, 7, 8, 9] rfl)
                      · have c_329n : x.toInt = (-1 : Int) := (fa_eq _ _).mp c_329
                        refine lv_iconst (v := (-1)) hx hb dX12_game_207 (by decide) ?_
                        refine lv_goto (tgt := 224) hx hb dX12_game_208 (by decide) ?_
                        have hnv9 : ((-1) : Int32).toInt = gRw (zWo f_all 661 j_inns_3) (zLo f_all 661) j_inns_3 c_ (aRs (zWo f_all 661 j_inns_3) (zPo f_all 661) 7) 3 true 0 w := by rw [hrs9, hle9.1 (by omega)]; rfl
                        refine z_ist C G 1 rfl (vp_in_nI (by omega) (by decide)) dX12_game_224 (fun H locs G => ?_)
                        rw [nI_clamp (by omega)] at G
                        have G : zS T A s.heap s [[zAr T 0 m_was 7 xwas], [zAr T 0 m_rowWorth 512 (upd xr0 w (-1))], [zAr T 0 m_all 3952 f_all], [zAr T 0 m_posts 7 xposts], [zAr T 0 m_shut 7 xshut], [zAr T 0 m_here 7 xhere], [zO11 mo m_all m_has i_size i_next i_where i_token i_number i_word i_wrong i_farCrossing m_read 661 j_crossings_2 j_inns_3 m_posts m_shut m_here xsteps xdone xat xgone m_was m_came m_seenAt m_rowWorth m_farBy m_used i_everywhere i_again0 i_d0 i_never i_firstCame i_longRun i_moved i_crowd i_l0 i_fitMany i_fitLeast i_fitMost m_fitPost m_fitEnd m_keptPosts i_x0]] _ _ := G
                        refine lv_iinc (v := nI (w + 1)) (lv' := [(8, .int (nI (w + 1))), (9, .int (nI i)), (6, .int x), (5, .int 1), (7, .int 0), (0, .ref mo), (1, .int l_), (2, .int c_), (3, .int 3), (4, .int f_)]) hx hb dX12_game_225 hl (k := 2) rfl (z_inc w 1) (by decide) (zLvf_h rfl) (fun ls hl => ?_)
                        refine lv_goto (tgt := 89) hx hb dX12_game_228 (by decide) ?_
                        exact ih_89 (w + 1) x (upd xr0 w (-1)) (show (w + 1) ≤ 1 ∧ (∀ p, p < (w + 1) → ((upd xr0 w (-1)) p).toInt = gRw (zWo f_all 661 j_inns_3) (zLo f_all 661) j_inns_3 c_ (aRs (zWo f_all 661 j_inns_3) (zPo f_all 661) 7) 3 true 0 p) ∧ (∀ p, (w + 1) ≤ p → (upd xr0 w (-1)) p = xr1 p) ∧ (0 < (w + 1) → x.toInt = gIx (gOp (zWo f_all 661 j_inns_3) (aRs (zWo f_all 661 j_inns_3) (zPo f_all 661) 7) 0 ((w + 1) - 1)) (gVp (zWo f_all 661 j_inns_3) (zLo f_all 661) j_inns_3 c_ (aRs (zWo f_all 661 j_inns_3) (zPo f_all 661) 7) 2 true 0 ((w + 1) - 1)) true 8) from ⟨by omega, (gUp hwr0 hnv9), (gUk hxF0), (fun _ => hb89)⟩) (show 1 - (w + 1) < 1 - w from by omega) _ _ ls G (lv_sub hl [0, 3, 4, 2, 5, 6, 7, 8, 9] rfl)
                    · have c_328n : ¬ 8 ≤ i := fun q => c_328 ((nI_leI (a := 8) (b := i) (by omega) (by omega)).mpr q)
                      refine lv_aload_n hx hb dX12_game_109 rfl (lv_at hl 5 rfl) ?_
                      refine z_get C G clX12 6 rfl 24 (by decide) m_fl_RX12_38 rfl dX12_game_110 ?_
                      refine lv_bipush (v := 8) hx hb dX12_game_113 (by decide) ?_
                      refine lv_iload hx hb dX12_game_115 (lv_at hl 2 rfl) ?_
                      refine lv_imul hx hb dX12_game_117 ?_
                      refine lv_topi (fun y_333 ey_333 => ?_)
                      obtain rfl : y_333 = nI (8 * w) := ey_333.trans (z_imuln 8 w rfl rfl)
                      refine lv_iload hx hb dX12_game_118 (lv_at hl 0 rfl) ?_
                      refine lv_iadd hx hb dX12_game_120 ?_
                      refine lv_topi (fun y_334 ey_334 => ?_)
                      obtain rfl : y_334 = nI ((8 * w) + i) := ey_334.trans (z_iaddn (8 * w) i rfl rfl)
                      refine z_ild C G 1 rfl (vp_in_nI (by omega) (by decide)) dX12_game_121 ?_
                      refine lv_topi (fun v_335 ev_335 => ?_)
                      rw [nI_clamp (by omega)] at ev_335
                      subst ev_335
                      have hv9 : (xr0 ((8 * w) + i)).toInt = if (gOp (zWo f_all 661 j_inns_3) (aRs (zWo f_all 661 j_inns_3) (zPo f_all 661) 7) 0 w) i = true then (gVp (zWo f_all 661 j_inns_3) (zLo f_all 661) j_inns_3 c_ (aRs (zWo f_all 661 j_inns_3) (zPo f_all 661) 7) 2 true 0 w) i else -1 := by rw [(show ((8 * w) + i) = 8 * w + i from by omega), hxF0 (8 * w + i) (by omega)]; exact (hF0 (8 * w + i) (by omega)).trans (gRw_c (by omega))
                      have hxk9 := gIx_ok (ok := (gOp (zWo f_all 661 j_inns_3) (aRs (zWo f_all 661 j_inns_3) (zPo f_all 661) 7) 0 w)) (v := (gVp (zWo f_all 661 j_inns_3) (zLo f_all 661) j_inns_3 c_ (aRs (zWo f_all 661 j_inns_3) (zPo f_all 661) 7) 2 true 0 w)) (mn := true) i
                      rw [← hxb] at hxk9
                      refine lv_istore (lv' := [(10, .int (xr0 ((8 * w) + i))), (9, .int (nI i)), (6, .int x), (8, .int (nI w)), (5, .int 1), (7, .int 0), (0, .ref mo), (1, .int l_), (2, .int c_), (3, .int 3), (4, .int f_)]) hx hb dX12_game_122 hl (by decide) (zLvf_h rfl) (fun ls hl => ?_)
                      refine lv_iload hx hb dX12_game_124 (lv_at hl 0 rfl) ?_
                      refine lv_iconst (v := (-1)) hx hb dX12_game_126 (by decide) ?_
                      refine lv_icmp_eq (tgt := 189) hx hb dX12_game_127 (by decide) (fun c_336 => ?_) (fun c_336 => ?_)
                      · have c_336n : (xr0 ((8 * w) + i)).toInt = (-1 : Int) := (fa_eq _ _).mp c_336
                        have hxn9 : x.toInt = gIx (gOp (zWo f_all 661 j_inns_3) (aRs (zWo f_all 661 j_inns_3) (zPo f_all 661) 7) 0 w) (gVp (zWo f_all 661 j_inns_3) (zLo f_all 661) j_inns_3 c_ (aRs (zWo f_all 661 j_inns_3) (zPo f_all 661) 7) 2 true 0 w) true (i + 1) := (gLx_n (fun c => gVp_0 c) hxb.symm hv9 (by first | exact Or.inl (by omega) | exact Or.inr ⟨by omega, by rw [if_pos rfl]; omega⟩)).symm
                        refine lv_iinc (v := nI (i + 1)) (lv' := [(9, .int (nI (i + 1))), (10, .int (xr0 ((8 * w) + i))), (6, .int x), (8, .int (nI w)), (5, .int 1), (7, .int 0), (0, .ref mo), (1, .int l_), (2, .int c_), (3, .int 3), (4, .int f_)]) hx hb dX12_game_189 hl (k := 1) rfl (z_inc i 1) (by decide) (zLvf_h rfl) (fun ls hl => ?_)
                        refine lv_goto (tgt := 102) hx hb dX12_game_192 (by decide) ?_
                        exact ih_102 (i + 1) x (show (i + 1) ≤ 8 ∧ x.toInt = gIx (gOp (zWo f_all 661 j_inns_3) (aRs (zWo f_all 661 j_inns_3) (zPo f_all 661) 7) 0 w) (gVp (zWo f_all 661 j_inns_3) (zLo f_all 661) j_inns_3 c_ (aRs (zWo f_all 661 j_inns_3) (zPo f_all 661) 7) 2 true 0 w) true (i + 1) from ⟨by omega, hxn9⟩) (show 8 - (i + 1) < 8 - i from by omega) _ _ ls G (lv_sub hl [0, 2, 3, 4, 5, 6, 7, 8, 9, 10] rfl)
                      · have c_336n : ¬ (xr0 ((8 * w) + i)).toInt = (-1 : Int) := fun q => c_336 ((fa_eq _ _).mpr q)
                        refine lv_iload hx hb dX12_game_130 (lv_at hl 2 rfl) ?_
                        refine lv_iconst (v := (-1)) hx hb dX12_game_132 (by decide) ?_
                        refine lv_icmp_eq (tgt := 185) hx hb dX12_game_133 (by decide) (fun c_337 => ?_) (fun c_337 => ?_)
                        · have c_337n : x.toInt = (-1 : Int) := (fa_eq _ _).mp c_337
                          refine lv_iload hx hb dX12_game_185 (lv_at hl 1 rfl) ?_
                          refine lv_istore (lv' := [(6, .int (nI i)), (10, .int (xr0 ((8 * w) + i))), (9, .int (nI i)), (8, .int (nI w)), (5, .int 1), (7, .int 0), (0, .ref mo), (1, .int l_), (2, .int c_), (3, .int 3), (4, .int f_)]) hx hb dX12_game_187 hl (by decide) (zLvf_h rfl) (fun ls hl => ?_)
                          have tii9 := nI_toInt (n := i) (by omega)
                          have hxn9 : (nI i).toInt = gIx (gOp (zWo f_all 661 j_inns_3) (aRs (zWo f_all 661 j_inns_3) (zPo f_all 661) 7) 0 w) (gVp (zWo f_all 661 j_inns_3) (zLo f_all 661) j_inns_3 c_ (aRs (zWo f_all 661 j_inns_3) (zPo f_all 661) 7) 2 true 0 w) true (i + 1) := tii9.trans (gLx_y hxb.symm hv9 (by omega) (by first | exact Or.inl (by omega) | exact Or.inr (by rw [if_pos rfl]; omega))).symm
                          refine lv_iinc (v := nI (i + 1)) (lv' := [(9, .int (nI (i + 1))), (6, .int (nI i)), (10, .int (xr0 ((8 * w) + i))), (8, .int (nI w)), (5, .int 1), (7, .int 0), (0, .ref mo), (1, .int l_), (2, .int c_), (3, .int 3), (4, .int f_)]) hx hb dX12_game_189 hl (k := 2) rfl (z_inc i 1) (by decide) (zLvf_h rfl) (fun ls hl => ?_)
                          refine lv_goto (tgt := 102) hx hb dX12_game_192 (by decide) ?_
                          exact ih_102 (i + 1) (nI i) (show (i + 1) ≤ 8 ∧ (nI i).toInt = gIx (gOp (zWo f_all 661 j_inns_3) (aRs (zWo f_all 661 j_inns_3) (zPo f_all 661) 7) 0 w) (gVp (zWo f_all 661 j_inns_3) (zLo f_all 661) j_inns_3 c_ (aRs (zWo f_all 661 j_inns_3) (zPo f_all 661) 7) 2 true 0 w) true (i + 1) from ⟨by omega, hxn9⟩) (show 8 - (i + 1) < 8 - i from by omega) _ _ ls G (lv_sub hl [0, 1, 3, 4, 5, 6, 7, 8, 9, 10] rfl)
                        · have c_337n : ¬ x.toInt = (-1 : Int) := fun q => c_337 ((fa_eq _ _).mpr q)
                          refine lv_iload hx hb dX12_game_136 (lv_at hl 5 rfl) ?_
                          refine lv_iconst (v := 2) hx hb dX12_game_138 (by decide) ?_
                          refine lv_irem hx hb dX12_game_139 (by decide) ?_
                          refine lv_topi (fun y_338 ey_338 => ?_)
                          obtain rfl : y_338 = 0 := ey_338.trans (by decide)
                          refine lv_if_ne (tgt := 164) hx hb dX12_game_140 (by decide) (fun q => absurd (by decide) q) (fun _ => ?_)
                          refine lv_iload hx hb dX12_game_143 (lv_at hl 0 rfl) ?_
                          refine lv_aload_n hx hb dX12_game_145 rfl (lv_at hl 6 rfl) ?_
                          refine z_get C G clX12 6 rfl 24 (by decide) m_fl_RX12_38 rfl dX12_game_146 ?_
                          refine lv_bipush (v := 8) hx hb dX12_game_149 (by decide) ?_
                          refine lv_iload hx hb dX12_game_151 (lv_at hl 3 rfl) ?_
                          refine lv_imul hx hb dX12_game_153 ?_
                          refine lv_topi (fun y_339 ey_339 => ?_)
                          obtain rfl : y_339 = nI (8 * w) := ey_339.trans (z_imuln 8 w rfl rfl)
                          refine lv_iload hx hb dX12_game_154 (lv_at hl 2 rfl) ?_
                          refine lv_iadd hx hb dX12_game_156 ?_
                          refine lv_topi (fun y_340 ey_340 => ?_)
                          have ey_340i : y_340.toInt = ((8 * w) : Int) + x.toInt := by rw [ey_340]; exact (z_iaddI (x := (nI (8 * w))) (y := x) (by rw [nI_toInt (n := 8 * w) (by omega)]; show -2147483648 ≤ ((8 * w) : Int) + x.toInt; omega) (by rw [nI_toInt (n := 8 * w) (by omega)]; show ((8 * w) : Int) + x.toInt < 2147483648; omega)).trans (by rw [nI_toInt (n := 8 * w) (by omega)] <;> rfl)
                          refine z_ild C G 1 rfl (vp_in_iff.mpr ⟨by omega, by omega⟩) dX12_game_157 ?_
                          refine lv_topi (fun v_341 ev_341 => ?_)
                          subst ev_341
                          have hxy9 := hxk9.resolve_left (by first | omega | (intro q9; omega))
                          have hw9 : (xr0 y_340.toNatClampNeg).toInt = (gVp (zWo f_all 661 j_inns_3) (zLo f_all 661) j_inns_3 c_ (aRs (zWo f_all 661 j_inns_3) (zPo f_all 661) 7) 2 true 0 w) x.toInt.toNat := by rw [(show y_340.toNatClampNeg = 8 * w + x.toInt.toNat from by have q4 := z_clI (x := y_340) (by omega); omega), hxF0 (8 * w + x.toInt.toNat) (by omega)]; exact ((hF0 (8 * w + x.toInt.toNat) (by omega)).trans (gRw_c (by omega))).trans (if_pos hxy9.2.2)
                          refine lv_icmp_lt (tgt := 185) hx hb dX12_game_158 (by decide) (fun c_342 => ?_) (fun c_342 => ?_)
                          · have c_342n : (xr0 ((8 * w) + i)).toInt < (xr0 y_340.toNatClampNeg).toInt := (fa_lt _ _).mp c_342
                            refine lv_iload hx hb dX12_game_185 (lv_at hl 1 rfl) ?_
                            refine lv_istore (lv' := [(6, .int (nI i)), (10, .int (xr0 ((8 * w) + i))), (9, .int (nI i)), (8, .int (nI w)), (5, .int 1), (7, .int 0), (0, .ref mo), (1, .int l_), (2, .int c_), (3, .int 3), (4, .int f_)]) hx hb dX12_game_187 hl (by decide) (zLvf_h rfl) (fun ls hl => ?_)
                            have tii9 := nI_toInt (n := i) (by omega)
                            have hxn9 : (nI i).toInt = gIx (gOp (zWo f_all 661 j_inns_3) (aRs (zWo f_all 661 j_inns_3) (zPo f_all 661) 7) 0 w) (gVp (zWo f_all 661 j_inns_3) (zLo f_all 661) j_inns_3 c_ (aRs (zWo f_all 661 j_inns_3) (zPo f_all 661) 7) 2 true 0 w) true (i + 1) := tii9.trans (gLx_y hxb.symm hv9 (by omega) (by first | exact Or.inl (by omega) | exact Or.inr (by rw [if_pos rfl]; omega))).symm
                            refine lv_iinc (v := nI (i + 1)) (lv' := [(9, .int (nI (i + 1))), (6, .int (nI i)), (10, .int (xr0 ((8 * w) + i))), (8, .int (nI w)), (5, .int 1), (7, .int 0), (0, .ref mo), (1, .int l_), (2, .int c_), (3, .int 3), (4, .int f_)]) hx hb dX12_game_189 hl (k := 2) rfl (z_inc i 1) (by decide) (zLvf_h rfl) (fun ls hl => ?_)
                            refine lv_goto (tgt := 102) hx hb dX12_game_192 (by decide) ?_
                            exact ih_102 (i + 1) (nI i) (show (i + 1) ≤ 8 ∧ (nI i).toInt = gIx (gOp (zWo f_all 661 j_inns_3) (aRs (zWo f_all 661 j_inns_3) (zPo f_all 661) 7) 0 w) (gVp (zWo f_all 661 j_inns_3) (zLo f_all 661) j_inns_3 c_ (aRs (zWo f_all 661 j_inns_3) (zPo f_all 661) 7) 2 true 0 w) true (i + 1) from ⟨by omega, hxn9⟩) (show 8 - (i + 1) < 8 - i from by omega) _ _ ls G (lv_sub hl [0, 1, 3, 4, 5, 6, 7, 8, 9, 10] rfl)
                          · have c_342n : ¬ (xr0 ((8 * w) + i)).toInt < (xr0 y_340.toNatClampNeg).toInt := fun q => c_342 ((fa_lt _ _).mpr q)
                            refine lv_goto (tgt := 189) hx hb dX12_game_161 (by decide) ?_
                            have hxn9 : x.toInt = gIx (gOp (zWo f_all 661 j_inns_3) (aRs (zWo f_all 661 j_inns_3) (zPo f_all 661) 7) 0 w) (gVp (zWo f_all 661 j_inns_3) (zLo f_all 661) j_inns_3 c_ (aRs (zWo f_all 661 j_inns_3) (zPo f_all 661) 7) 2 true 0 w) true (i + 1) := (gLx_n (fun c => gVp_0 c) hxb.symm hv9 (by first | exact Or.inl (by omega) | exact Or.inr ⟨by omega, by rw [if_pos rfl]; omega⟩)).symm
                            refine lv_iinc (v := nI (i + 1)) (lv' := [(9, .int (nI (i + 1))), (10, .int (xr0 ((8 * w) + i))), (6, .int x), (8, .int (nI w)), (5, .int 1), (7, .int 0), (0, .ref mo), (1, .int l_), (2, .int c_), (3, .int 3), (4, .int f_)]) hx hb dX12_game_189 hl (k := 1) rfl (z_inc i 1) (by decide) (zLvf_h rfl) (fun ls hl => ?_)
                            refine lv_goto (tgt := 102) hx hb dX12_game_192 (by decide) ?_
                            exact ih_102 (i + 1) x (show (i + 1) ≤ 8 ∧ x.toInt = gIx (gOp (zWo f_all 661 j_inns_3) (aRs (zWo f_all 661 j_inns_3) (zPo f_all 661) 7) 0 w) (gVp (zWo f_all 661 j_inns_3) (zLo f_all 661) j_inns_3 c_ (aRs (zWo f_all 661 j_inns_3) (zPo f_all 661) 7) 2 true 0 w) true (i + 1) from ⟨by omega, hxn9⟩) (show 8 - (i + 1) < 8 - i from by omega) _ _ ls G (lv_sub hl [0, 2, 3, 4, 5, 6, 7, 8, 9, 10] rfl)
                · have c_323n : ¬ 8 ≤ w := fun q => c_323 ((nI_leI (a := 8) (b := w) (by omega) (by omega)).mpr q)
                  refine lv_iconst (v := (-1)) hx hb dX12_game_96 (by decide) ?_
                  refine lv_istore (lv' := [(6, .int (-1)), (8, .int (nI w)), (5, .int 8), (7, .int 1), (0, .ref mo), (1, .int l_), (2, .int c_), (3, .int 3), (4, .int f_)]) hx hb dX12_game_97 hl (by decide) (zLvf_h rfl) (fun ls hl => ?_)
                  refine lv_iconst (v := 0) hx hb dX12_game_99 (by decide) ?_
                  refine lv_istore (lv' := [(9, .int 0), (6, .int (-1)), (8, .int (nI w)), (5, .int 8), (7, .int 1), (0, .ref mo), (1, .int l_), (2, .int c_), (3, .int 3), (4, .int f_)]) hx hb dX12_game_100 hl (by decide) (zLvf_h rfl) (fun ls hl => ?_)
                  refine z_lp2 (T := T) 102 (fun (i : Nat) (x : Int32) => [[zAr T 0 m_was 7 xwas], [zAr T 0 m_rowWorth 512 xr1], [zAr T 0 m_all 3952 f_all], [zAr T 0 m_posts 7 xposts], [zAr T 0 m_shut 7 xshut], [zAr T 0 m_here 7 xhere], [zO11 mo m_all m_has i_size i_next i_where i_token i_number i_word i_wrong i_farCrossing m_read 661 j_crossings_2 j_inns_3 m_posts m_shut m_here xsteps xdone xat xgone m_was m_came m_seenAt m_rowWorth m_farBy m_used i_everywhere i_again0 i_d0 i_never i_firstCame i_longRun i_moved i_crowd i_l0 i_fitMany i_fitLeast i_fitMost m_fitPost m_fitEnd m_keptPosts i_x0]]) (fun (i : Nat) (x : Int32) => [(9, .int (nI i)), (6, .int x), (8, .int (nI w)), (5, .int 8), (7, .int 1), (0, .ref mo), (1, .int l_), (2, .int c_), (3, .int 3), (4, .int f_)]) (fun (i : Nat) (x : Int32) => i ≤ 8 ∧ x.toInt = gIx (gOp (zWo f_all 661 j_inns_3) (aRs (zWo f_all 661 j_inns_3) (zPo f_all 661) 7) 1 w) (gVp (zWo f_all 661 j_inns_3) (zLo f_all 661) j_inns_3 c_ (aRs (zWo f_all 661 j_inns_3) (zPo f_all 661) 7) 1 false 1 w) false i) (fun (i : Nat) (x : Int32) => 8 - i) ?_ 0 (-1) (show 0 ≤ 8 ∧ ((-1) : Int32).toInt = gIx (gOp (zWo f_all 661 j_inns_3) (aRs (zWo f_all 661 j_inns_3) (zPo f_all 661) 7) 1 w) (gVp (zWo f_all 661 j_inns_3) (zLo f_all 661) j_inns_3 c_ (aRs (zWo f_all 661 j_inns_3) (zPo f_all 661) 7) 1 false 1 w) false 0 from ⟨by omega, rfl⟩) G (lv_sub hl [0, 1, 2, 3, 4, 5, 6, 7, 8, 9] rfl)
                  intro i x hI9 ih_102 H locs ls G hl
                  replace hI9 : i ≤ 8 ∧ x.toInt = gIx (gOp (zWo f_all 661 j_inns_3) (aRs (zWo f_all 661 j_inns_3) (zPo f_all 661) 7) 1 w) (gVp (zWo f_all 661 j_inns_3) (zLo f_all 661) j_inns_3 c_ (aRs (zWo f_all 661 j_inns_3) (zPo f_all 661) 7) 1 false 1 w) false i := hI9
                  refine zAn2 hI9 ?_
                  intro hi hxb
                  clear hI9
                  replace G : zS T A s.heap s [[zAr T 0 m_was 7 xwas], [zAr T 0 m_rowWorth 512 xr1], [zAr T 0 m_all 3952 f_all], [zAr T 0 m_posts 7 xposts], [zAr T 0 m_shut 7 xshut], [zAr T 0 m_here 7 xhere], [zO11 mo m_all m_has i_size i_next i_where i_token i_number i_word i_wrong i_farCrossing m_read 661 j_crossings_2 j_inns_3 m_posts m_shut m_here xsteps xdone xat xgone m_was m_came m_seenAt m_rowWorth m_farBy m_used i_everywhere i_again0 i_d0 i_never i_firstCame i_longRun i_moved i_crowd i_l0 i_fitMany i_fitLeast i_fitMost m_fitPost m_fitEnd m_keptPosts i_x0]] _ _ := G
                  replace hl : lv_has ls 11 [(9, .int (nI i)), (6, .int x), (8, .int (nI w)), (5, .int 8), (7, .int 1), (0, .ref mo), (1, .int l_), (2, .int c_), (3, .int 3), (4, .int f_)] := hl
                  refine lv_iload hx hb dX12_game_102 (lv_at hl 0 rfl) ?_
                  refine lv_bipush (v := 8) hx hb dX12_game_104 (by decide) ?_
                  refine lv_icmp_ge (tgt := 195) hx hb dX12_game_106 (by decide) (fun c_343 => ?_) (fun c_343 => ?_)
                  · have c_343n : 8 ≤ i := (nI_leI (a := 8) (b := i) (by omega) (by omega)).mp c_343
                    have hb89 : x.toInt = gIx (gOp (zWo f_all 661 j_inns_3) (aRs (zWo f_all 661 j_inns_3) (zPo f_all 661) 7) 1 w) (gVp (zWo f_all 661 j_inns_3) (zLo f_all 661) j_inns_3 c_ (aRs (zWo f_all 661 j_inns_3) (zPo f_all 661) 7) 1 false 1 w) false 8 := by rw [hxb, show i = 8 by omega]
                    have hle9 := gLx_e (fun c => gVp_0 c) hb89.symm
                    have hrs9 := gRw_s (W := (zWo f_all 661 j_inns_3)) (L := (zLo f_all 661)) (inn := j_inns_3) (x := c_) (t0 := (aRs (zWo f_all 661 j_inns_3) (zPo f_all 661) 7)) (m := 1) (mn := false) (k := 1) (p := w)
                    have hxk9 := gIx_ok (ok := (gOp (zWo f_all 661 j_inns_3) (aRs (zWo f_all 661 j_inns_3) (zPo f_all 661) 7) 1 w)) (v := (gVp (zWo f_all 661 j_inns_3) (zLo f_all 661) j_inns_3 c_ (aRs (zWo f_all 661 j_inns_3) (zPo f_all 661) 7) 1 false 1 w)) (mn := false) 8
                    rw [← hb89] at hxk9
                    refine lv_aload_n hx hb dX12_game_195 rfl (lv_at hl 5 rfl) ?_
                    refine z_get C G clX12 6 rfl 24 (by decide) m_fl_RX12_38 rfl dX12_game_196 ?_
                    refine lv_iload hx hb dX12_game_199 (lv_at hl 2 rfl) ?_
                    refine lv_iload hx hb dX12_game_201 (lv_at hl 1 rfl) ?_
                    refine lv_iconst (v := (-1)) hx hb dX12_game_203 (by decide) ?_
                    refine lv_icmp_ne (tgt := 211) hx hb dX12_game_204 (by decide) (fun c_344 => ?_) (fun c_344 => ?_)
                    · have c_344n : ¬ x.toInt = (-1 : Int) := fun q => c_344 ((fa_eq _ _).mpr q)
                      refine lv_aload_n hx hb dX12_game_211 rfl (lv_at hl 5 rfl) ?_
                      refine z_get C G clX12 6 rfl 24 (by decide) m_fl_RX12_38 rfl dX12_game_212 ?_
                      refine lv_bipush (v := 8) hx hb dX12_game_215 (by decide) ?_
                      refine lv_iload hx hb dX12_game_217 (lv_at hl 2 rfl) ?_
                      refine lv_imul hx hb dX12_game_219 ?_
                      refine lv_topi (fun y_345 ey_345 => ?_)
                      obtain rfl : y_345 = nI (8 * w) := ey_345.trans (z_imuln 8 w rfl rfl)
                      refine lv_iload hx hb dX12_game_220 (lv_at hl 1 rfl) ?_
                      refine lv_iadd hx hb dX12_game_222 ?_
                      refine lv_topi (fun y_346 ey_346 => ?_)
                      have ey_346i : y_346.toInt = ((8 * w) : Int) + x.toInt := by rw [ey_346]; exact (z_iaddI (x := (nI (8 * w))) (y := x) (by rw [nI_toInt (n := 8 * w) (by omega)]; show -2147483648 ≤ ((8 * w) : Int) + x.toInt; omega) (by rw [nI_toInt (n := 8 * w) (by omega)]; show ((8 * w) : Int) + x.toInt < 2147483648; omega)).trans (by rw [nI_toInt (n := 8 * w) (by omega)] <;> rfl)
                      refine z_ild C G 1 rfl (vp_in_iff.mpr ⟨by omega, by omega⟩) dX12_game_223 ?_
                      refine lv_topi (fun v_347 ev_347 => ?_)
                      subst ev_347
                      have hxy9 := hxk9.resolve_left (by first | omega | (intro q9; omega))
                      have hw9 : (xr1 y_346.toNatClampNeg).toInt = (gVp (zWo f_all 661 j_inns_3) (zLo f_all 661) j_inns_3 c_ (aRs (zWo f_all 661 j_inns_3) (zPo f_all 661) 7) 1 false 1 w) x.toInt.toNat := by rw [(show y_346.toNatClampNeg = 8 * w + x.toInt.toNat from by have q4 := z_clI (x := y_346) (by omega); omega), hxF1 (8 * w + x.toInt.toNat) (by omega)]; exact ((hF1 (8 * w + x.toInt.toNat) (by omega)).trans (gRw_c (by omega))).trans (if_pos hxy9.2.2)
                      have hnv9 : (xr1 y_346.toNatClampNeg).toInt = gRw (zWo f_all 661 j_inns_3) (zLo f_all 661) j_inns_3 c_ (aRs (zWo f_all 661 j_inns_3) (zPo f_all 661) 7) 2 false 1 w := by rw [hrs9, hle9.2 (by omega)]; exact hw9
                      refine z_ist C G 1 rfl (vp_in_nI (by omega) (by decide)) dX12_game_224 (fun H locs G => ?_)
                      rw [nI_clamp (by omega)] at G
                      have G : zS T A s.heap s [[zAr T 0 m_was 7 xwas], [zAr T 0 m_rowWorth 512 (upd xr1 w (xr1 y_346.toNatClampNeg))], [zAr T 0 m_all 3952 f_all], [zAr T 0 m_posts 7 xposts], [zAr T 0 m_shut 7 xshut], [zAr T 0 m_here 7 xhere], [zO11 mo m_all m_has i_size i_next i_where i_token i_number i_word i_wrong i_farCrossing m_read 661 j_crossings_2 j_inns_3 m_posts m_shut m_here xsteps xdone xat xgone m_was m_came m_seenAt m_rowWorth m_farBy m_used i_everywhere i_again0 i_d0 i_never i_firstCame i_longRun i_moved i_crowd i_l0 i_fitMany i_fitLeast i_fitMost m_fitPost m_fitEnd m_keptPosts i_x0]] _ _ := G
                      refine lv_iinc (v := nI (w + 1)) (lv' := [(8, .int (nI (w + 1))), (9, .int (nI i)), (6, .int x), (5, .int 8), (7, .int 1), (0, .ref mo), (1, .int l_), (2, .int c_), (3, .int 3), (4, .int f_)]) hx hb dX12_game_225 hl (k := 2) rfl (z_inc w 1) (by decide) (zLvf_h rfl) (fun ls hl => ?_)
                      refine lv_goto (tgt := 89) hx hb dX12_game_228 (by decide) ?_
                      exact ih_89 (w + 1) x (upd xr1 w (xr1 y_346.toNatClampNeg)) (show (w + 1) ≤ 8 ∧ (∀ p, p < (w + 1) → ((upd xr1 w (xr1 y_346.toNatClampNeg)) p).toInt = gRw (zWo f_all 661 j_inns_3) (zLo f_all 661) j_inns_3 c_ (aRs (zWo f_all 661 j_inns_3) (zPo f_all 661) 7) 2 false 1 p) ∧ (∀ p, (w + 1) ≤ p → (upd xr1 w (xr1 y_346.toNatClampNeg)) p = xr2 p) ∧ (0 < (w + 1) → x.toInt = gIx (gOp (zWo f_all 661 j_inns_3) (aRs (zWo f_all 661 j_inns_3) (zPo f_all 661) 7) 1 ((w + 1) - 1)) (gVp (zWo f_all 661 j_inns_3) (zLo f_all 661) j_inns_3 c_ (aRs (zWo f_all 661 j_inns_3) (zPo f_all 661) 7) 1 false 1 ((w + 1) - 1)) false 8) from ⟨by omega, (gUp hwr1 hnv9), (gUk hxF1), (fun _ => hb89)⟩) (show 8 - (w + 1) < 8 - w from by omega) _ _ ls G (lv_sub hl [0, 3, 4, 2, 5, 6, 7, 8, 9] rfl)
                    · have c_344n : x.toInt = (-1 : Int) := (fa_eq _ _).mp c_344
                      refine lv_iconst (v := (-1)) hx hb dX12_game_207 (by decide) ?_
                      refine lv_goto (tgt := 224) hx hb dX12_game_208 (by decide) ?_
                      have hnv9 : ((-1) : Int32).toInt = gRw (zWo f_all 661 j_inns_3) (zLo f_all 661) j_inns_3 c_ (aRs (zWo f_all 661 j_inns_3) (zPo f_all 661) 7) 2 false 1 w := by rw [hrs9, hle9.1 (by omega)]; rfl
                      refine z_ist C G 1 rfl (vp_in_nI (by omega) (by decide)) dX12_game_224 (fun H locs G => ?_)
                      rw [nI_clamp (by omega)] at G
                      have G : zS T A s.heap s [[zAr T 0 m_was 7 xwas], [zAr T 0 m_rowWorth 512 (upd xr1 w (-1))], [zAr T 0 m_all 3952 f_all], [zAr T 0 m_posts 7 xposts], [zAr T 0 m_shut 7 xshut], [zAr T 0 m_here 7 xhere], [zO11 mo m_all m_has i_size i_next i_where i_token i_number i_word i_wrong i_farCrossing m_read 661 j_crossings_2 j_inns_3 m_posts m_shut m_here xsteps xdone xat xgone m_was m_came m_seenAt m_rowWorth m_farBy m_used i_everywhere i_again0 i_d0 i_never i_firstCame i_longRun i_moved i_crowd i_l0 i_fitMany i_fitLeast i_fitMost m_fitPost m_fitEnd m_keptPosts i_x0]] _ _ := G
                      refine lv_iinc (v := nI (w + 1)) (lv' := [(8, .int (nI (w + 1))), (9, .int (nI i)), (6, .int x), (5, .int 8), (7, .int 1), (0, .ref mo), (1, .int l_), (2, .int c_), (3, .int 3), (4, .int f_)]) hx hb dX12_game_225 hl (k := 2) rfl (z_inc w 1) (by decide) (zLvf_h rfl) (fun ls hl => ?_)
                      refine lv_goto (tgt := 89) hx hb dX12_game_228 (by decide) ?_
                      exact ih_89 (w + 1) x (upd xr1 w (-1)) (show (w + 1) ≤ 8 ∧ (∀ p, p < (w + 1) → ((upd xr1 w (-1)) p).toInt = gRw (zWo f_all 661 j_inns_3) (zLo f_all 661) j_inns_3 c_ (aRs (zWo f_all 661 j_inns_3) (zPo f_all 661) 7) 2 false 1 p) ∧ (∀ p, (w + 1) ≤ p → (upd xr1 w (-1)) p = xr2 p) ∧ (0 < (w + 1) → x.toInt = gIx (gOp (zWo f_all 661 j_inns_3) (aRs (zWo f_all 661 j_inns_3) (zPo f_all 661) 7) 1 ((w + 1) - 1)) (gVp (zWo f_all 661 j_inns_3) (zLo f_all 661) j_inns_3 c_ (aRs (zWo f_all 661 j_inns_3) (zPo f_all 661) 7) 1 false 1 ((w + 1) - 1)) false 8) from ⟨by omega, (gUp hwr1 hnv9), (gUk hxF1), (fun _ => hb89)⟩) (show 8 - (w + 1) < 8 - w from by omega) _ _ ls G (lv_sub hl [0, 3, 4, 2, 5, 6, 7, 8, 9] rfl)
                  · have c_343n : ¬ 8 ≤ i := fun q => c_343 ((nI_leI (a := 8) (b := i) (by omega) (by omega)).mpr q)
                    refine lv_aload_n hx hb dX12_game_109 rfl (lv_at hl 5 rfl) ?_
                    refine z_get C G clX12 6 rfl 24 (by decide) m_fl_RX12_38 rfl dX12_game_110 ?_
                    refine lv_bipush (v := 8) hx hb dX12_game_113 (by decide) ?_
                    refine lv_iload hx hb dX12_game_115 (lv_at hl 2 rfl) ?_
                    refine lv_imul hx hb dX12_game_117 ?_
                    refine lv_topi (fun y_348 ey_348 => ?_)
                    obtain rfl : y_348 = nI (8 * w) := ey_348.trans (z_imuln 8 w rfl rfl)
                    refine lv_iload hx hb dX12_game_118 (lv_at hl 0 rfl) ?_
                    refine lv_iadd hx hb dX12_game_120 ?_
                    refine lv_topi (fun y_349 ey_349 => ?_)
                    obtain rfl : y_349 = nI ((8 * w) + i) := ey_349.trans (z_iaddn (8 * w) i rfl rfl)
                    refine z_ild C G 1 rfl (vp_in_nI (by omega) (by decide)) dX12_game_121 ?_
                    refine lv_topi (fun v_350 ev_350 => ?_)
                    rw [nI_clamp (by omega)] at ev_350
                    subst ev_350
                    have hv9 : (xr1 ((8 * w) + i)).toInt = if (gOp (zWo f_all 661 j_inns_3) (aRs (zWo f_all 661 j_inns_3) (zPo f_all 661) 7) 1 w) i = true then (gVp (zWo f_all 661 j_inns_3) (zLo f_all 661) j_inns_3 c_ (aRs (zWo f_all 661 j_inns_3) (zPo f_all 661) 7) 1 false 1 w) i else -1 := by rw [(show ((8 * w) + i) = 8 * w + i from by omega), hxF1 (8 * w + i) (by omega)]; exact (hF1 (8 * w + i) (by omega)).trans (gRw_c (by omega))
                    have hxk9 := gIx_ok (ok := (gOp (zWo f_all 661 j_inns_3) (aRs (zWo f_all 661 j_inns_3) (zPo f_all 661) 7) 1 w)) (v := (gVp (zWo f_all 661 j_inns_3) (zLo f_all 661) j_inns_3 c_ (aRs (zWo f_all 661 j_inns_3) (zPo f_all 661) 7) 1 false 1 w)) (mn := false) i
                    rw [← hxb] at hxk9
                    refine lv_istore (lv' := [(10, .int (xr1 ((8 * w) + i))), (9, .int (nI i)), (6, .int x), (8, .int (nI w)), (5, .int 8), (7, .int 1), (0, .ref mo), (1, .int l_), (2, .int c_), (3, .int 3), (4, .int f_)]) hx hb dX12_game_122 hl (by decide) (zLvf_h rfl) (fun ls hl => ?_)
                    refine lv_iload hx hb dX12_game_124 (lv_at hl 0 rfl) ?_
                    refine lv_iconst (v := (-1)) hx hb dX12_game_126 (by decide) ?_
                    refine lv_icmp_eq (tgt := 189) hx hb dX12_game_127 (by decide) (fun c_351 => ?_) (fun c_351 => ?_)
                    · have c_351n : (xr1 ((8 * w) + i)).toInt = (-1 : Int) := (fa_eq _ _).mp c_351
                      have hxn9 : x.toInt = gIx (gOp (zWo f_all 661 j_inns_3) (aRs (zWo f_all 661 j_inns_3) (zPo f_all 661) 7) 1 w) (gVp (zWo f_all 661 j_inns_3) (zLo f_all 661) j_inns_3 c_ (aRs (zWo f_all 661 j_inns_3) (zPo f_all 661) 7) 1 false 1 w) false (i + 1) := (gLx_n (fun c => gVp_0 c) hxb.symm hv9 (by first | exact Or.inl (by omega) | exact Or.inr ⟨by omega, by rw [if_neg (by decide)]; omega⟩)).symm
                      refine lv_iinc (v := nI (i + 1)) (lv' := [(9, .int (nI (i + 1))), (10, .int (xr1 ((8 * w) + i))), (6, .int x), (8, .int (nI w)), (5, .int 8), (7, .int 1), (0, .ref mo), (1, .int l_), (2, .int c_), (3, .int 3), (4, .int f_)]) hx hb dX12_game_189 hl (k := 1) rfl (z_inc i 1) (by decide) (zLvf_h rfl) (fun ls hl => ?_)
                      refine lv_goto (tgt := 102) hx hb dX12_game_192 (by decide) ?_
                      exact ih_102 (i + 1) x (show (i + 1) ≤ 8 ∧ x.toInt = gIx (gOp (zWo f_all 661 j_inns_3) (aRs (zWo f_all 661 j_inns_3) (zPo f_all 661) 7) 1 w) (gVp (zWo f_all 661 j_inns_3) (zLo f_all 661) j_inns_3 c_ (aRs (zWo f_all 661 j_inns_3) (zPo f_all 661) 7) 1 false 1 w) false (i + 1) from ⟨by omega, hxn9⟩) (show 8 - (i + 1) < 8 - i from by omega) _ _ ls G (lv_sub hl [0, 2, 3, 4, 5, 6, 7, 8, 9, 10] rfl)
                    · have c_351n : ¬ (xr1 ((8 * w) + i)).toInt = (-1 : Int) := fun q => c_351 ((fa_eq _ _).mpr q)
                      refine lv_iload hx hb dX12_game_130 (lv_at hl 2 rfl) ?_
                      refine lv_iconst (v := (-1)) hx hb dX12_game_132 (by decide) ?_
                      refine lv_icmp_eq (tgt := 185) hx hb dX12_game_133 (by decide) (fun c_352 => ?_) (fun c_352 => ?_)
                      · have c_352n : x.toInt = (-1 : Int) := (fa_eq _ _).mp c_352
                        refine lv_iload hx hb dX12_game_185 (lv_at hl 1 rfl) ?_
                        refine lv_istore (lv' := [(6, .int (nI i)), (10, .int (xr1 ((8 * w) + i))), (9, .int (nI i)), (8, .int (nI w)), (5, .int 8), (7, .int 1), (0, .ref mo), (1, .int l_), (2, .int c_), (3, .int 3), (4, .int f_)]) hx hb dX12_game_187 hl (by decide) (zLvf_h rfl) (fun ls hl => ?_)
                        have tii9 := nI_toInt (n := i) (by omega)
                        have hxn9 : (nI i).toInt = gIx (gOp (zWo f_all 661 j_inns_3) (aRs (zWo f_all 661 j_inns_3) (zPo f_all 661) 7) 1 w) (gVp (zWo f_all 661 j_inns_3) (zLo f_all 661) j_inns_3 c_ (aRs (zWo f_all 661 j_inns_3) (zPo f_all 661) 7) 1 false 1 w) false (i + 1) := tii9.trans (gLx_y hxb.symm hv9 (by omega) (by first | exact Or.inl (by omega) | exact Or.inr (by rw [if_neg (by decide)]; omega))).symm
                        refine lv_iinc (v := nI (i + 1)) (lv' := [(9, .int (nI (i + 1))), (6, .int (nI i)), (10, .int (xr1 ((8 * w) + i))), (8, .int (nI w)), (5, .int 8), (7, .int 1), (0, .ref mo), (1, .int l_), (2, .int c_), (3, .int 3), (4, .int f_)]) hx hb dX12_game_189 hl (k := 2) rfl (z_inc i 1) (by decide) (zLvf_h rfl) (fun ls hl => ?_)
                        refine lv_goto (tgt := 102) hx hb dX12_game_192 (by decide) ?_
                        exact ih_102 (i + 1) (nI i) (show (i + 1) ≤ 8 ∧ (nI i).toInt = gIx (gOp (zWo f_all 661 j_inns_3) (aRs (zWo f_all 661 j_inns_3) (zPo f_all 661) 7) 1 w) (gVp (zWo f_all 661 j_inns_3) (zLo f_all 661) j_inns_3 c_ (aRs (zWo f_all 661 j_inns_3) (zPo f_all 661) 7) 1 false 1 w) false (i + 1) from ⟨by omega, hxn9⟩) (show 8 - (i + 1) < 8 - i from by omega) _ _ ls G (lv_sub hl [0, 1, 3, 4, 5, 6, 7, 8, 9, 10] rfl)
                      · have c_352n : ¬ x.toInt = (-1 : Int) := fun q => c_352 ((fa_eq _ _).mpr q)
                        refine lv_iload hx hb dX12_game_136 (lv_at hl 5 rfl) ?_
                        refine lv_iconst (v := 2) hx hb dX12_game_138 (by decide) ?_
                        refine lv_irem hx hb dX12_game_139 (by decide) ?_
                        refine lv_topi (fun y_353 ey_353 => ?_)
                        obtain rfl : y_353 = 1 := ey_353.trans (by decide)
                        refine lv_if_ne (tgt := 164) hx hb dX12_game_140 (by decide) (fun _ => ?_) (fun q => absurd q (by decide))
                        refine lv_iload hx hb dX12_game_164 (lv_at hl 0 rfl) ?_
                        refine lv_aload_n hx hb dX12_game_166 rfl (lv_at hl 6 rfl) ?_
                        refine z_get C G clX12 6 rfl 24 (by decide) m_fl_RX12_38 rfl dX12_game_167 ?_
                        refine lv_bipush (v := 8) hx hb dX12_game_170 (by decide) ?_
                        refine lv_iload hx hb dX12_game_172 (lv_at hl 3 rfl) ?_
                        refine lv_imul hx hb dX12_game_174 ?_
                        refine lv_topi (fun y_354 ey_354 => ?_)
                        obtain rfl : y_354 = nI (8 * w) := ey_354.trans (z_imuln 8 w rfl rfl)
                        refine lv_iload hx hb dX12_game_175 (lv_at hl 2 rfl) ?_
                        refine lv_iadd hx hb dX12_game_177 ?_
                        refine lv_topi (fun y_355 ey_355 => ?_)
                        have ey_355i : y_355.toInt = ((8 * w) : Int) + x.toInt := by rw [ey_355]; exact (z_iaddI (x := (nI (8 * w))) (y := x) (by rw [nI_toInt (n := 8 * w) (by omega)]; show -2147483648 ≤ ((8 * w) : Int) + x.toInt; omega) (by rw [nI_toInt (n := 8 * w) (by omega)]; show ((8 * w) : Int) + x.toInt < 2147483648; omega)).trans (by rw [nI_toInt (n := 8 * w) (by omega)] <;> rfl)
                        refine z_ild C G 1 rfl (vp_in_iff.mpr ⟨by omega, by omega⟩) dX12_game_178 ?_
                        refine lv_topi (fun v_356 ev_356 => ?_)
                        subst ev_356
                        have hxy9 := hxk9.resolve_left (by first | omega | (intro q9; omega))
                        have hw9 : (xr1 y_355.toNatClampNeg).toInt = (gVp (zWo f_all 661 j_inns_3) (zLo f_all 661) j_inns_3 c_ (aRs (zWo f_all 661 j_inns_3) (zPo f_all 661) 7) 1 false 1 w) x.toInt.toNat := by rw [(show y_355.toNatClampNeg = 8 * w + x.toInt.toNat from by have q4 := z_clI (x := y_355) (by omega); omega), hxF1 (8 * w + x.toInt.toNat) (by omega)]; exact ((hF1 (8 * w + x.toInt.toNat) (by omega)).trans (gRw_c (by omega))).trans (if_pos hxy9.2.2)
                        refine lv_icmp_gt (tgt := 185) hx hb dX12_game_179 (by decide) (fun c_357 => ?_) (fun c_357 => ?_)
                        · have c_357n : (xr1 y_355.toNatClampNeg).toInt < (xr1 ((8 * w) + i)).toInt := (fa_lt _ _).mp c_357
                          refine lv_iload hx hb dX12_game_185 (lv_at hl 1 rfl) ?_
                          refine lv_istore (lv' := [(6, .int (nI i)), (10, .int (xr1 ((8 * w) + i))), (9, .int (nI i)), (8, .int (nI w)), (5, .int 8), (7, .int 1), (0, .ref mo), (1, .int l_), (2, .int c_), (3, .int 3), (4, .int f_)]) hx hb dX12_game_187 hl (by decide) (zLvf_h rfl) (fun ls hl => ?_)
                          have tii9 := nI_toInt (n := i) (by omega)
                          have hxn9 : (nI i).toInt = gIx (gOp (zWo f_all 661 j_inns_3) (aRs (zWo f_all 661 j_inns_3) (zPo f_all 661) 7) 1 w) (gVp (zWo f_all 661 j_inns_3) (zLo f_all 661) j_inns_3 c_ (aRs (zWo f_all 661 j_inns_3) (zPo f_all 661) 7) 1 false 1 w) false (i + 1) := tii9.trans (gLx_y hxb.symm hv9 (by omega) (by first | exact Or.inl (by omega) | exact Or.inr (by rw [if_neg (by decide)]; omega))).symm
                          refine lv_iinc (v := nI (i + 1)) (lv' := [(9, .int (nI (i + 1))), (6, .int (nI i)), (10, .int (xr1 ((8 * w) + i))), (8, .int (nI w)), (5, .int 8), (7, .int 1), (0, .ref mo), (1, .int l_), (2, .int c_), (3, .int 3), (4, .int f_)]) hx hb dX12_game_189 hl (k := 2) rfl (z_inc i 1) (by decide) (zLvf_h rfl) (fun ls hl => ?_)
                          refine lv_goto (tgt := 102) hx hb dX12_game_192 (by decide) ?_
                          exact ih_102 (i + 1) (nI i) (show (i + 1) ≤ 8 ∧ (nI i).toInt = gIx (gOp (zWo f_all 661 j_inns_3) (aRs (zWo f_all 661 j_inns_3) (zPo f_all 661) 7) 1 w) (gVp (zWo f_all 661 j_inns_3) (zLo f_all 661) j_inns_3 c_ (aRs (zWo f_all 661 j_inns_3) (zPo f_all 661) 7) 1 false 1 w) false (i + 1) from ⟨by omega, hxn9⟩) (show 8 - (i + 1) < 8 - i from by omega) _ _ ls G (lv_sub hl [0, 1, 3, 4, 5, 6, 7, 8, 9, 10] rfl)
                        · have c_357n : ¬ (xr1 y_355.toNatClampNeg).toInt < (xr1 ((8 * w) + i)).toInt := fun q => c_357 ((fa_lt _ _).mpr q)
                          refine lv_goto (tgt := 189) hx hb dX12_game_182 (by decide) ?_
                          have hxn9 : x.toInt = gIx (gOp (zWo f_all 661 j_inns_3) (aRs (zWo f_all 661 j_inns_3) (zPo f_all 661) 7) 1 w) (gVp (zWo f_all 661 j_inns_3) (zLo f_all 661) j_inns_3 c_ (aRs (zWo f_all 661 j_inns_3) (zPo f_all 661) 7) 1 false 1 w) false (i + 1) := (gLx_n (fun c => gVp_0 c) hxb.symm hv9 (by first | exact Or.inl (by omega) | exact Or.inr ⟨by omega, by rw [if_neg (by decide)]; omega⟩)).symm
                          refine lv_iinc (v := nI (i + 1)) (lv' := [(9, .int (nI (i + 1))), (10, .int (xr1 ((8 * w) + i))), (6, .int x), (8, .int (nI w)), (5, .int 8), (7, .int 1), (0, .ref mo), (1, .int l_), (2, .int c_), (3, .int 3), (4, .int f_)]) hx hb dX12_game_189 hl (k := 1) rfl (z_inc i 1) (by decide) (zLvf_h rfl) (fun ls hl => ?_)
                          refine lv_goto (tgt := 102) hx hb dX12_game_192 (by decide) ?_
                          exact ih_102 (i + 1) x (show (i + 1) ≤ 8 ∧ x.toInt = gIx (gOp (zWo f_all 661 j_inns_3) (aRs (zWo f_all 661 j_inns_3) (zPo f_all 661) 7) 1 w) (gVp (zWo f_all 661 j_inns_3) (zLo f_all 661) j_inns_3 c_ (aRs (zWo f_all 661 j_inns_3) (zPo f_all 661) 7) 1 false 1 w) false (i + 1) from ⟨by omega, hxn9⟩) (show 8 - (i + 1) < 8 - i from by omega) _ _ ls G (lv_sub hl [0, 2, 3, 4, 5, 6, 7, 8, 9, 10] rfl)
              · have c_321n : ¬ 64 ≤ w := fun q => c_321 ((nI_leI (a := 64) (b := w) (by omega) (by omega)).mpr q)
                refine lv_iconst (v := (-1)) hx hb dX12_game_96 (by decide) ?_
                refine lv_istore (lv' := [(6, .int (-1)), (8, .int (nI w)), (5, .int 64), (7, .int 2), (0, .ref mo), (1, .int l_), (2, .int c_), (3, .int 3), (4, .int f_)]) hx hb dX12_game_97 hl (by decide) (zLvf_h rfl) (fun ls hl => ?_)
                refine lv_iconst (v := 0) hx hb dX12_game_99 (by decide) ?_
                refine lv_istore (lv' := [(9, .int 0), (6, .int (-1)), (8, .int (nI w)), (5, .int 64), (7, .int 2), (0, .ref mo), (1, .int l_), (2, .int c_), (3, .int 3), (4, .int f_)]) hx hb dX12_game_100 hl (by decide) (zLvf_h rfl) (fun ls hl => ?_)
                refine z_lp2 (T := T) 102 (fun (i : Nat) (x : Int32) => [[zAr T 0 m_was 7 xwas], [zAr T 0 m_rowWorth 512 xr2], [zAr T 0 m_all 3952 f_all], [zAr T 0 m_posts 7 xposts], [zAr T 0 m_shut 7 xshut], [zAr T 0 m_here 7 xhere], [zO11 mo m_all m_has i_size i_next i_where i_token i_number i_word i_wrong i_farCrossing m_read 661 j_crossings_2 j_inns_3 m_posts m_shut m_here xsteps xdone xat xgone m_was m_came m_seenAt m_rowWorth m_farBy m_used i_everywhere i_again0 i_d0 i_never i_firstCame i_longRun i_moved i_crowd i_l0 i_fitMany i_fitLeast i_fitMost m_fitPost m_fitEnd m_keptPosts i_x0]]) (fun (i : Nat) (x : Int32) => [(9, .int (nI i)), (6, .int x), (8, .int (nI w)), (5, .int 64), (7, .int 2), (0, .ref mo), (1, .int l_), (2, .int c_), (3, .int 3), (4, .int f_)]) (fun (i : Nat) (x : Int32) => i ≤ 8 ∧ x.toInt = gIx (gOp (zWo f_all 661 j_inns_3) (aRs (zWo f_all 661 j_inns_3) (zPo f_all 661) 7) 2 w) (gVp (zWo f_all 661 j_inns_3) (zLo f_all 661) j_inns_3 c_ (aRs (zWo f_all 661 j_inns_3) (zPo f_all 661) 7) 0 true 2 w) true i) (fun (i : Nat) (x : Int32) => 8 - i) ?_ 0 (-1) (show 0 ≤ 8 ∧ ((-1) : Int32).toInt = gIx (gOp (zWo f_all 661 j_inns_3) (aRs (zWo f_all 661 j_inns_3) (zPo f_all 661) 7) 2 w) (gVp (zWo f_all 661 j_inns_3) (zLo f_all 661) j_inns_3 c_ (aRs (zWo f_all 661 j_inns_3) (zPo f_all 661) 7) 0 true 2 w) true 0 from ⟨by omega, rfl⟩) G (lv_sub hl [0, 1, 2, 3, 4, 5, 6, 7, 8, 9] rfl)
                intro i x hI9 ih_102 H locs ls G hl
                replace hI9 : i ≤ 8 ∧ x.toInt = gIx (gOp (zWo f_all 661 j_inns_3) (aRs (zWo f_all 661 j_inns_3) (zPo f_all 661) 7) 2 w) (gVp (zWo f_all 661 j_inns_3) (zLo f_all 661) j_inns_3 c_ (aRs (zWo f_all 661 j_inns_3) (zPo f_all 661) 7) 0 true 2 w) true i := hI9
                refine zAn2 hI9 ?_
                intro hi hxb
                clear hI9
                replace G : zS T A s.heap s [[zAr T 0 m_was 7 xwas], [zAr T 0 m_rowWorth 512 xr2], [zAr T 0 m_all 3952 f_all], [zAr T 0 m_posts 7 xposts], [zAr T 0 m_shut 7 xshut], [zAr T 0 m_here 7 xhere], [zO11 mo m_all m_has i_size i_next i_where i_token i_number i_word i_wrong i_farCrossing m_read 661 j_crossings_2 j_inns_3 m_posts m_shut m_here xsteps xdone xat xgone m_was m_came m_seenAt m_rowWorth m_farBy m_used i_everywhere i_again0 i_d0 i_never i_firstCame i_longRun i_moved i_crowd i_l0 i_fitMany i_fitLeast i_fitMost m_fitPost m_fitEnd m_keptPosts i_x0]] _ _ := G
                replace hl : lv_has ls 11 [(9, .int (nI i)), (6, .int x), (8, .int (nI w)), (5, .int 64), (7, .int 2), (0, .ref mo), (1, .int l_), (2, .int c_), (3, .int 3), (4, .int f_)] := hl
                refine lv_iload hx hb dX12_game_102 (lv_at hl 0 rfl) ?_
                refine lv_bipush (v := 8) hx hb dX12_game_104 (by decide) ?_
                refine lv_icmp_ge (tgt := 195) hx hb dX12_game_106 (by decide) (fun c_358 => ?_) (fun c_358 => ?_)
                · have c_358n : 8 ≤ i := (nI_leI (a := 8) (b := i) (by omega) (by omega)).mp c_358
                  have hb89 : x.toInt = gIx (gOp (zWo f_all 661 j_inns_3) (aRs (zWo f_all 661 j_inns_3) (zPo f_all 661) 7) 2 w) (gVp (zWo f_all 661 j_inns_3) (zLo f_all 661) j_inns_3 c_ (aRs (zWo f_all 661 j_inns_3) (zPo f_all 661) 7) 0 true 2 w) true 8 := by rw [hxb, show i = 8 by omega]
                  have hle9 := gLx_e (fun c => gVp_0 c) hb89.symm
                  have hrs9 := gRw_s (W := (zWo f_all 661 j_inns_3)) (L := (zLo f_all 661)) (inn := j_inns_3) (x := c_) (t0 := (aRs (zWo f_all 661 j_inns_3) (zPo f_all 661) 7)) (m := 0) (mn := true) (k := 2) (p := w)
                  have hxk9 := gIx_ok (ok := (gOp (zWo f_all 661 j_inns_3) (aRs (zWo f_all 661 j_inns_3) (zPo f_all 661) 7) 2 w)) (v := (gVp (zWo f_all 661 j_inns_3) (zLo f_all 661) j_inns_3 c_ (aRs (zWo f_all 661 j_inns_3) (zPo f_all 661) 7) 0 true 2 w)) (mn := true) 8
                  rw [← hb89] at hxk9
                  refine lv_aload_n hx hb dX12_game_195 rfl (lv_at hl 5 rfl) ?_
                  refine z_get C G clX12 6 rfl 24 (by decide) m_fl_RX12_38 rfl dX12_game_196 ?_
                  refine lv_iload hx hb dX12_game_199 (lv_at hl 2 rfl) ?_
                  refine lv_iload hx hb dX12_game_201 (lv_at hl 1 rfl) ?_
                  refine lv_iconst (v := (-1)) hx hb dX12_game_203 (by decide) ?_
                  refine lv_icmp_ne (tgt := 211) hx hb dX12_game_204 (by decide) (fun c_359 => ?_) (fun c_359 => ?_)
                  · have c_359n : ¬ x.toInt = (-1 : Int) := fun q => c_359 ((fa_eq _ _).mpr q)
                    refine lv_aload_n hx hb dX12_game_211 rfl (lv_at hl 5 rfl) ?_
                    refine z_get C G clX12 6 rfl 24 (by decide) m_fl_RX12_38 rfl dX12_game_212 ?_
                    refine lv_bipush (v := 8) hx hb dX12_game_215 (by decide) ?_
                    refine lv_iload hx hb dX12_game_217 (lv_at hl 2 rfl) ?_
                    refine lv_imul hx hb dX12_game_219 ?_
                    refine lv_topi (fun y_360 ey_360 => ?_)
                    obtain rfl : y_360 = nI (8 * w) := ey_360.trans (z_imuln 8 w rfl rfl)
                    refine lv_iload hx hb dX12_game_220 (lv_at hl 1 rfl) ?_
                    refine lv_iadd hx hb dX12_game_222 ?_
                    refine lv_topi (fun y_361 ey_361 => ?_)
                    have ey_361i : y_361.toInt = ((8 * w) : Int) + x.toInt := by rw [ey_361]; exact (z_iaddI (x := (nI (8 * w))) (y := x) (by rw [nI_toInt (n := 8 * w) (by omega)]; show -2147483648 ≤ ((8 * w) : Int) + x.toInt; omega) (by rw [nI_toInt (n := 8 * w) (by omega)]; show ((8 * w) : Int) + x.toInt < 2147483648; omega)).trans (by rw [nI_toInt (n := 8 * w) (by omega)] <;> rfl)
                    refine z_ild C G 1 rfl (vp_in_iff.mpr ⟨by omega, by omega⟩) dX12_game_223 ?_
                    refine lv_topi (fun v_362 ev_362 => ?_)
                    subst ev_362
                    have hxy9 := hxk9.resolve_left (by first | omega | (intro q9; omega))
                    have hw9 : (xr2 y_361.toNatClampNeg).toInt = (gVp (zWo f_all 661 j_inns_3) (zLo f_all 661) j_inns_3 c_ (aRs (zWo f_all 661 j_inns_3) (zPo f_all 661) 7) 0 true 2 w) x.toInt.toNat := by rw [(show y_361.toNatClampNeg = 8 * w + x.toInt.toNat from by have q4 := z_clI (x := y_361) (by omega); omega), hxF2 (8 * w + x.toInt.toNat) (by omega)]; exact ((hF2 (8 * w + x.toInt.toNat) (by omega)).trans (gRw_c (by omega))).trans (if_pos hxy9.2.2)
                    have hnv9 : (xr2 y_361.toNatClampNeg).toInt = gRw (zWo f_all 661 j_inns_3) (zLo f_all 661) j_inns_3 c_ (aRs (zWo f_all 661 j_inns_3) (zPo f_all 661) 7) 1 true 2 w := by rw [hrs9, hle9.2 (by omega)]; exact hw9
                    refine z_ist C G 1 rfl (vp_in_nI (by omega) (by decide)) dX12_game_224 (fun H locs G => ?_)
                    rw [nI_clamp (by omega)] at G
                    have G : zS T A s.heap s [[zAr T 0 m_was 7 xwas], [zAr T 0 m_rowWorth 512 (upd xr2 w (xr2 y_361.toNatClampNeg))], [zAr T 0 m_all 3952 f_all], [zAr T 0 m_posts 7 xposts], [zAr T 0 m_shut 7 xshut], [zAr T 0 m_here 7 xhere], [zO11 mo m_all m_has i_size i_next i_where i_token i_number i_word i_wrong i_farCrossing m_read 661 j_crossings_2 j_inns_3 m_posts m_shut m_here xsteps xdone xat xgone m_was m_came m_seenAt m_rowWorth m_farBy m_used i_everywhere i_again0 i_d0 i_never i_firstCame i_longRun i_moved i_crowd i_l0 i_fitMany i_fitLeast i_fitMost m_fitPost m_fitEnd m_keptPosts i_x0]] _ _ := G
                    refine lv_iinc (v := nI (w + 1)) (lv' := [(8, .int (nI (w + 1))), (9, .int (nI i)), (6, .int x), (5, .int 64), (7, .int 2), (0, .ref mo), (1, .int l_), (2, .int c_), (3, .int 3), (4, .int f_)]) hx hb dX12_game_225 hl (k := 2) rfl (z_inc w 1) (by decide) (zLvf_h rfl) (fun ls hl => ?_)
                    refine lv_goto (tgt := 89) hx hb dX12_game_228 (by decide) ?_
                    exact ih_89 (w + 1) x (upd xr2 w (xr2 y_361.toNatClampNeg)) (show (w + 1) ≤ 64 ∧ (∀ p, p < (w + 1) → ((upd xr2 w (xr2 y_361.toNatClampNeg)) p).toInt = gRw (zWo f_all 661 j_inns_3) (zLo f_all 661) j_inns_3 c_ (aRs (zWo f_all 661 j_inns_3) (zPo f_all 661) 7) 1 true 2 p) ∧ (∀ p, (w + 1) ≤ p → (upd xr2 w (xr2 y_361.toNatClampNeg)) p = xrowWorth p) ∧ (0 < (w + 1) → x.toInt = gIx (gOp (zWo f_all 661 j_inns_3) (aRs (zWo f_all 661 j_inns_3) (zPo f_all 661) 7) 2 ((w + 1) - 1)) (gVp (zWo f_all 661 j_inns_3) (zLo f_all 661) j_inns_3 c_ (aRs (zWo f_all 661 j_inns_3) (zPo f_all 661) 7) 0 true 2 ((w + 1) - 1)) true 8) from ⟨by omega, (gUp hwr2 hnv9), (gUk hxF2), (fun _ => hb89)⟩) (show 64 - (w + 1) < 64 - w from by omega) _ _ ls G (lv_sub hl [0, 3, 4, 2, 5, 6, 7, 8, 9] rfl)
                  · have c_359n : x.toInt = (-1 : Int) := (fa_eq _ _).mp c_359
                    refine lv_iconst (v := (-1)) hx hb dX12_game_207 (by decide) ?_
                    refine lv_goto (tgt := 224) hx hb dX12_game_208 (by decide) ?_
                    have hnv9 : ((-1) : Int32).toInt = gRw (zWo f_all 661 j_inns_3) (zLo f_all 661) j_inns_3 c_ (aRs (zWo f_all 661 j_inns_3) (zPo f_all 661) 7) 1 true 2 w := by rw [hrs9, hle9.1 (by omega)]; rfl
                    refine z_ist C G 1 rfl (vp_in_nI (by omega) (by decide)) dX12_game_224 (fun H locs G => ?_)
                    rw [nI_clamp (by omega)] at G
                    have G : zS T A s.heap s [[zAr T 0 m_was 7 xwas], [zAr T 0 m_rowWorth 512 (upd xr2 w (-1))], [zAr T 0 m_all 3952 f_all], [zAr T 0 m_posts 7 xposts], [zAr T 0 m_shut 7 xshut], [zAr T 0 m_here 7 xhere], [zO11 mo m_all m_has i_size i_next i_where i_token i_number i_word i_wrong i_farCrossing m_read 661 j_crossings_2 j_inns_3 m_posts m_shut m_here xsteps xdone xat xgone m_was m_came m_seenAt m_rowWorth m_farBy m_used i_everywhere i_again0 i_d0 i_never i_firstCame i_longRun i_moved i_crowd i_l0 i_fitMany i_fitLeast i_fitMost m_fitPost m_fitEnd m_keptPosts i_x0]] _ _ := G
                    refine lv_iinc (v := nI (w + 1)) (lv' := [(8, .int (nI (w + 1))), (9, .int (nI i)), (6, .int x), (5, .int 64), (7, .int 2), (0, .ref mo), (1, .int l_), (2, .int c_), (3, .int 3), (4, .int f_)]) hx hb dX12_game_225 hl (k := 2) rfl (z_inc w 1) (by decide) (zLvf_h rfl) (fun ls hl => ?_)
                    refine lv_goto (tgt := 89) hx hb dX12_game_228 (by decide) ?_
                    exact ih_89 (w + 1) x (upd xr2 w (-1)) (show (w + 1) ≤ 64 ∧ (∀ p, p < (w + 1) → ((upd xr2 w (-1)) p).toInt = gRw (zWo f_all 661 j_inns_3) (zLo f_all 661) j_inns_3 c_ (aRs (zWo f_all 661 j_inns_3) (zPo f_all 661) 7) 1 true 2 p) ∧ (∀ p, (w + 1) ≤ p → (upd xr2 w (-1)) p = xrowWorth p) ∧ (0 < (w + 1) → x.toInt = gIx (gOp (zWo f_all 661 j_inns_3) (aRs (zWo f_all 661 j_inns_3) (zPo f_all 661) 7) 2 ((w + 1) - 1)) (gVp (zWo f_all 661 j_inns_3) (zLo f_all 661) j_inns_3 c_ (aRs (zWo f_all 661 j_inns_3) (zPo f_all 661) 7) 0 true 2 ((w + 1) - 1)) true 8) from ⟨by omega, (gUp hwr2 hnv9), (gUk hxF2), (fun _ => hb89)⟩) (show 64 - (w + 1) < 64 - w from by omega) _ _ ls G (lv_sub hl [0, 3, 4, 2, 5, 6, 7, 8, 9] rfl)
                · have c_358n : ¬ 8 ≤ i := fun q => c_358 ((nI_leI (a := 8) (b := i) (by omega) (by omega)).mpr q)
                  refine lv_aload_n hx hb dX12_game_109 rfl (lv_at hl 5 rfl) ?_
                  refine z_get C G clX12 6 rfl 24 (by decide) m_fl_RX12_38 rfl dX12_game_110 ?_
                  refine lv_bipush (v := 8) hx hb dX12_game_113 (by decide) ?_
                  refine lv_iload hx hb dX12_game_115 (lv_at hl 2 rfl) ?_
                  refine lv_imul hx hb dX12_game_117 ?_
                  refine lv_topi (fun y_363 ey_363 => ?_)
                  obtain rfl : y_363 = nI (8 * w) := ey_363.trans (z_imuln 8 w rfl rfl)
                  refine lv_iload hx hb dX12_game_118 (lv_at hl 0 rfl) ?_
                  refine lv_iadd hx hb dX12_game_120 ?_
                  refine lv_topi (fun y_364 ey_364 => ?_)
                  obtain rfl : y_364 = nI ((8 * w) + i) := ey_364.trans (z_iaddn (8 * w) i rfl rfl)
                  refine z_ild C G 1 rfl (vp_in_nI (by omega) (by decide)) dX12_game_121 ?_
                  refine lv_topi (fun v_365 ev_365 => ?_)
                  rw [nI_clamp (by omega)] at ev_365
                  subst ev_365
                  have hv9 : (xr2 ((8 * w) + i)).toInt = if (gOp (zWo f_all 661 j_inns_3) (aRs (zWo f_all 661 j_inns_3) (zPo f_all 661) 7) 2 w) i = true then (gVp (zWo f_all 661 j_inns_3) (zLo f_all 661) j_inns_3 c_ (aRs (zWo f_all 661 j_inns_3) (zPo f_all 661) 7) 0 true 2 w) i else -1 := by rw [(show ((8 * w) + i) = 8 * w + i from by omega), hxF2 (8 * w + i) (by omega)]; exact (hF2 (8 * w + i) (by omega)).trans (gRw_c (by omega))
                  have hxk9 := gIx_ok (ok := (gOp (zWo f_all 661 j_inns_3) (aRs (zWo f_all 661 j_inns_3) (zPo f_all 661) 7) 2 w)) (v := (gVp (zWo f_all 661 j_inns_3) (zLo f_all 661) j_inns_3 c_ (aRs (zWo f_all 661 j_inns_3) (zPo f_all 661) 7) 0 true 2 w)) (mn := true) i
                  rw [← hxb] at hxk9
                  refine lv_istore (lv' := [(10, .int (xr2 ((8 * w) + i))), (9, .int (nI i)), (6, .int x), (8, .int (nI w)), (5, .int 64), (7, .int 2), (0, .ref mo), (1, .int l_), (2, .int c_), (3, .int 3), (4, .int f_)]) hx hb dX12_game_122 hl (by decide) (zLvf_h rfl) (fun ls hl => ?_)
                  refine lv_iload hx hb dX12_game_124 (lv_at hl 0 rfl) ?_
                  refine lv_iconst (v := (-1)) hx hb dX12_game_126 (by decide) ?_
                  refine lv_icmp_eq (tgt := 189) hx hb dX12_game_127 (by decide) (fun c_366 => ?_) (fun c_366 => ?_)
                  · have c_366n : (xr2 ((8 * w) + i)).toInt = (-1 : Int) := (fa_eq _ _).mp c_366
                    have hxn9 : x.toInt = gIx (gOp (zWo f_all 661 j_inns_3) (aRs (zWo f_all 661 j_inns_3) (zPo f_all 661) 7) 2 w) (gVp (zWo f_all 661 j_inns_3) (zLo f_all 661) j_inns_3 c_ (aRs (zWo f_all 661 j_inns_3) (zPo f_all 661) 7) 0 true 2 w) true (i + 1) := (gLx_n (fun c => gVp_0 c) hxb.symm hv9 (by first | exact Or.inl (by omega) | exact Or.inr ⟨by omega, by rw [if_pos rfl]; omega⟩)).symm
                    refine lv_iinc (v := nI (i + 1)) (lv' := [(9, .int (nI (i + 1))), (10, .int (xr2 ((8 * w) + i))), (6, .int x), (8, .int (nI w)), (5, .int 64), (7, .int 2), (0, .ref mo), (1, .int l_), (2, .int c_), (3, .int 3), (4, .int f_)]) hx hb dX12_game_189 hl (k := 1) rfl (z_inc i 1) (by decide) (zLvf_h rfl) (fun ls hl => ?_)
                    refine lv_goto (tgt := 102) hx hb dX12_game_192 (by decide) ?_
                    exact ih_102 (i + 1) x (show (i + 1) ≤ 8 ∧ x.toInt = gIx (gOp (zWo f_all 661 j_inns_3) (aRs (zWo f_all 661 j_inns_3) (zPo f_all 661) 7) 2 w) (gVp (zWo f_all 661 j_inns_3) (zLo f_all 661) j_inns_3 c_ (aRs (zWo f_all 661 j_inns_3) (zPo f_all 661) 7) 0 true 2 w) true (i + 1) from ⟨by omega, hxn9⟩) (show 8 - (i + 1) < 8 - i from by omega) _ _ ls G (lv_sub hl [0, 2, 3, 4, 5, 6, 7, 8, 9, 10] rfl)
                  · have c_366n : ¬ (xr2 ((8 * w) + i)).toInt = (-1 : Int) := fun q => c_366 ((fa_eq _ _).mpr q)
                    refine lv_iload hx hb dX12_game_130 (lv_at hl 2 rfl) ?_
                    refine lv_iconst (v := (-1)) hx hb dX12_game_132 (by decide) ?_
                    refine lv_icmp_eq (tgt := 185) hx hb dX12_game_133 (by decide) (fun c_367 => ?_) (fun c_367 => ?_)
                    · have c_367n : x.toInt = (-1 : Int) := (fa_eq _ _).mp c_367
                      refine lv_iload hx hb dX12_game_185 (lv_at hl 1 rfl) ?_
                      refine lv_istore (lv' := [(6, .int (nI i)), (10, .int (xr2 ((8 * w) + i))), (9, .int (nI i)), (8, .int (nI w)), (5, .int 64), (7, .int 2), (0, .ref mo), (1, .int l_), (2, .int c_), (3, .int 3), (4, .int f_)]) hx hb dX12_game_187 hl (by decide) (zLvf_h rfl) (fun ls hl => ?_)
                      have tii9 := nI_toInt (n := i) (by omega)
                      have hxn9 : (nI i).toInt = gIx (gOp (zWo f_all 661 j_inns_3) (aRs (zWo f_all 661 j_inns_3) (zPo f_all 661) 7) 2 w) (gVp (zWo f_all 661 j_inns_3) (zLo f_all 661) j_inns_3 c_ (aRs (zWo f_all 661 j_inns_3) (zPo f_all 661) 7) 0 true 2 w) true (i + 1) := tii9.trans (gLx_y hxb.symm hv9 (by omega) (by first | exact Or.inl (by omega) | exact Or.inr (by rw [if_pos rfl]; omega))).symm
                      refine lv_iinc (v := nI (i + 1)) (lv' := [(9, .int (nI (i + 1))), (6, .int (nI i)), (10, .int (xr2 ((8 * w) + i))), (8, .int (nI w)), (5, .int 64), (7, .int 2), (0, .ref mo), (1, .int l_), (2, .int c_), (3, .int 3), (4, .int f_)]) hx hb dX12_game_189 hl (k := 2) rfl (z_inc i 1) (by decide) (zLvf_h rfl) (fun ls hl => ?_)
                      refine lv_goto (tgt := 102) hx hb dX12_game_192 (by decide) ?_
                      exact ih_102 (i + 1) (nI i) (show (i + 1) ≤ 8 ∧ (nI i).toInt = gIx (gOp (zWo f_all 661 j_inns_3) (aRs (zWo f_all 661 j_inns_3) (zPo f_all 661) 7) 2 w) (gVp (zWo f_all 661 j_inns_3) (zLo f_all 661) j_inns_3 c_ (aRs (zWo f_all 661 j_inns_3) (zPo f_all 661) 7) 0 true 2 w) true (i + 1) from ⟨by omega, hxn9⟩) (show 8 - (i + 1) < 8 - i from by omega) _ _ ls G (lv_sub hl [0, 1, 3, 4, 5, 6, 7, 8, 9, 10] rfl)
                    · have c_367n : ¬ x.toInt = (-1 : Int) := fun q => c_367 ((fa_eq _ _).mpr q)
                      refine lv_iload hx hb dX12_game_136 (lv_at hl 5 rfl) ?_
                      refine lv_iconst (v := 2) hx hb dX12_game_138 (by decide) ?_
                      refine lv_irem hx hb dX12_game_139 (by decide) ?_
                      refine lv_topi (fun y_368 ey_368 => ?_)
                      obtain rfl : y_368 = 0 := ey_368.trans (by decide)
                      refine lv_if_ne (tgt := 164) hx hb dX12_game_140 (by decide) (fun q => absurd (by decide) q) (fun _ => ?_)
                      refine lv_iload hx hb dX12_game_143 (lv_at hl 0 rfl) ?_
                      refine lv_aload_n hx hb dX12_game_145 rfl (lv_at hl 6 rfl) ?_
                      refine z_get C G clX12 6 rfl 24 (by decide) m_fl_RX12_38 rfl dX12_game_146 ?_
                      refine lv_bipush (v := 8) hx hb dX12_game_149 (by decide) ?_
                      refine lv_iload hx hb dX12_game_151 (lv_at hl 3 rfl) ?_
                      refine lv_imul hx hb dX12_game_153 ?_
                      refine lv_topi (fun y_369 ey_369 => ?_)
                      obtain rfl : y_369 = nI (8 * w) := ey_369.trans (z_imuln 8 w rfl rfl)
                      refine lv_iload hx hb dX12_game_154 (lv_at hl 2 rfl) ?_
                      refine lv_iadd hx hb dX12_game_156 ?_
                      refine lv_topi (fun y_370 ey_370 => ?_)
                      have ey_370i : y_370.toInt = ((8 * w) : Int) + x.toInt := by rw [ey_370]; exact (z_iaddI (x := (nI (8 * w))) (y := x) (by rw [nI_toInt (n := 8 * w) (by omega)]; show -2147483648 ≤ ((8 * w) : Int) + x.toInt; omega) (by rw [nI_toInt (n := 8 * w) (by omega)]; show ((8 * w) : Int) + x.toInt < 2147483648; omega)).trans (by rw [nI_toInt (n := 8 * w) (by omega)] <;> rfl)
                      refine z_ild C G 1 rfl (vp_in_iff.mpr ⟨by omega, by omega⟩) dX12_game_157 ?_
                      refine lv_topi (fun v_371 ev_371 => ?_)
                      subst ev_371
                      have hxy9 := hxk9.resolve_left (by first | omega | (intro q9; omega))
                      have hw9 : (xr2 y_370.toNatClampNeg).toInt = (gVp (zWo f_all 661 j_inns_3) (zLo f_all 661) j_inns_3 c_ (aRs (zWo f_all 661 j_inns_3) (zPo f_all 661) 7) 0 true 2 w) x.toInt.toNat := by rw [(show y_370.toNatClampNeg = 8 * w + x.toInt.toNat from by have q4 := z_clI (x := y_370) (by omega); omega), hxF2 (8 * w + x.toInt.toNat) (by omega)]; exact ((hF2 (8 * w + x.toInt.toNat) (by omega)).trans (gRw_c (by omega))).trans (if_pos hxy9.2.2)
                      refine lv_icmp_lt (tgt := 185) hx hb dX12_game_158 (by decide) (fun c_372 => ?_) (fun c_372 => ?_)
                      · have c_372n : (xr2 ((8 * w) + i)).toInt < (xr2 y_370.toNatClampNeg).toInt := (fa_lt _ _).mp c_372
                        refine lv_iload hx hb dX12_game_185 (lv_at hl 1 rfl) ?_
                        refine lv_istore (lv' := [(6, .int (nI i)), (10, .int (xr2 ((8 * w) + i))), (9, .int (nI i)), (8, .int (nI w)), (5, .int 64), (7, .int 2), (0, .ref mo), (1, .int l_), (2, .int c_), (3, .int 3), (4, .int f_)]) hx hb dX12_game_187 hl (by decide) (zLvf_h rfl) (fun ls hl => ?_)
                        have tii9 := nI_toInt (n := i) (by omega)
                        have hxn9 : (nI i).toInt = gIx (gOp (zWo f_all 661 j_inns_3) (aRs (zWo f_all 661 j_inns_3) (zPo f_all 661) 7) 2 w) (gVp (zWo f_all 661 j_inns_3) (zLo f_all 661) j_inns_3 c_ (aRs (zWo f_all 661 j_inns_3) (zPo f_all 661) 7) 0 true 2 w) true (i + 1) := tii9.trans (gLx_y hxb.symm hv9 (by omega) (by first | exact Or.inl (by omega) | exact Or.inr (by rw [if_pos rfl]; omega))).symm
                        refine lv_iinc (v := nI (i + 1)) (lv' := [(9, .int (nI (i + 1))), (6, .int (nI i)), (10, .int (xr2 ((8 * w) + i))), (8, .int (nI w)), (5, .int 64), (7, .int 2), (0, .ref mo), (1, .int l_), (2, .int c_), (3, .int 3), (4, .int f_)]) hx hb dX12_game_189 hl (k := 2) rfl (z_inc i 1) (by decide) (zLvf_h rfl) (fun ls hl => ?_)
                        refine lv_goto (tgt := 102) hx hb dX12_game_192 (by decide) ?_
                        exact ih_102 (i + 1) (nI i) (show (i + 1) ≤ 8 ∧ (nI i).toInt = gIx (gOp (zWo f_all 661 j_inns_3) (aRs (zWo f_all 661 j_inns_3) (zPo f_all 661) 7) 2 w) (gVp (zWo f_all 661 j_inns_3) (zLo f_all 661) j_inns_3 c_ (aRs (zWo f_all 661 j_inns_3) (zPo f_all 661) 7) 0 true 2 w) true (i + 1) from ⟨by omega, hxn9⟩) (show 8 - (i + 1) < 8 - i from by omega) _ _ ls G (lv_sub hl [0, 1, 3, 4, 5, 6, 7, 8, 9, 10] rfl)
                      · have c_372n : ¬ (xr2 ((8 * w) + i)).toInt < (xr2 y_370.toNatClampNeg).toInt := fun q => c_372 ((fa_lt _ _).mpr q)
                        refine lv_goto (tgt := 189) hx hb dX12_game_161 (by decide) ?_
                        have hxn9 : x.toInt = gIx (gOp (zWo f_all 661 j_inns_3) (aRs (zWo f_all 661 j_inns_3) (zPo f_all 661) 7) 2 w) (gVp (zWo f_all 661 j_inns_3) (zLo f_all 661) j_inns_3 c_ (aRs (zWo f_all 661 j_inns_3) (zPo f_all 661) 7) 0 true 2 w) true (i + 1) := (gLx_n (fun c => gVp_0 c) hxb.symm hv9 (by first | exact Or.inl (by omega) | exact Or.inr ⟨by omega, by rw [if_pos rfl]; omega⟩)).symm
                        refine lv_iinc (v := nI (i + 1)) (lv' := [(9, .int (nI (i + 1))), (10, .int (xr2 ((8 * w) + i))), (6, .int x), (8, .int (nI w)), (5, .int 64), (7, .int 2), (0, .ref mo), (1, .int l_), (2, .int c_), (3, .int 3), (4, .int f_)]) hx hb dX12_game_189 hl (k := 1) rfl (z_inc i 1) (by decide) (zLvf_h rfl) (fun ls hl => ?_)
                        refine lv_goto (tgt := 102) hx hb dX12_game_192 (by decide) ?_
                        exact ih_102 (i + 1) x (show (i + 1) ≤ 8 ∧ x.toInt = gIx (gOp (zWo f_all 661 j_inns_3) (aRs (zWo f_all 661 j_inns_3) (zPo f_all 661) 7) 2 w) (gVp (zWo f_all 661 j_inns_3) (zLo f_all 661) j_inns_3 c_ (aRs (zWo f_all 661 j_inns_3) (zPo f_all 661) 7) 0 true 2 w) true (i + 1) from ⟨by omega, hxn9⟩) (show 8 - (i + 1) < 8 - i from by omega) _ _ ls G (lv_sub hl [0, 2, 3, 4, 5, 6, 7, 8, 9, 10] rfl)
            · have c_318n : ¬ 512 ≤ w := fun q => c_318 ((nI_leI (a := 512) (b := w) (by omega) (by omega)).mpr q)
              refine lv_aload_n hx hb dX12_game_45 rfl (lv_at hl 2 rfl) ?_
              refine z_get C G clX12 6 rfl 24 (by decide) m_fl_RX12_38 rfl dX12_game_46 ?_
              refine lv_iload hx hb dX12_game_49 (lv_at hl 0 rfl) ?_
              refine lv_aload_n hx hb dX12_game_51 rfl (lv_at hl 2 rfl) ?_
              refine lv_iload hx hb dX12_game_52 (lv_at hl 0 rfl) ?_
              refine lv_iload_n hx hb dX12_game_54 rfl (lv_at hl 5 rfl) ?_
              refine lv_iload_n hx hb dX12_game_55 rfl (lv_at hl 4 rfl) ?_
              have ti_373 : (nI w).toInt = ((w : Nat) : Int) := nI_toInt (by omega)
              refine z_Vi (bc := [[zO11 mo m_all m_has i_size i_next i_where i_token i_number i_word i_wrong i_farCrossing m_read 661 j_crossings_2 j_inns_3 m_posts m_shut m_here xsteps xdone xat xgone m_was m_came m_seenAt m_rowWorth m_farBy m_used i_everywhere i_again0 i_d0 i_never i_firstCame i_longRun i_moved i_crowd i_l0 i_fitMany i_fitLeast i_fitMost m_fitPost m_fitEnd m_keptPosts i_x0], [zAr T 0 m_all 3952 f_all], [zAr T 0 m_posts 7 xposts], [zAr T 0 m_shut 7 xshut], [zAr T 0 m_here 7 xhere], [zAr T 0 m_was 7 xwas]]) (br := [[zAr T 0 m_rowWorth 512 xrowWorth]]) (As := [.int (nI w), .int 3, .int c_]) (rest := [.int (nI w), .ref m_rowWorth]) C G (c_fm_gameBy3 l T mo m_all m_has i_size i_next i_where i_token i_number i_word i_wrong i_farCrossing m_read 661 j_crossings_2 j_inns_3 m_posts m_shut m_here xsteps xdone xat xgone m_was m_came m_seenAt m_rowWorth m_farBy m_used i_everywhere i_again0 i_d0 i_never i_firstCame i_longRun i_moved i_crowd i_l0 i_fitMany i_fitLeast i_fitMost m_fitPost m_fitEnd m_keptPosts i_x0 f_all xposts xshut xhere xwas w c_ hLx (by first | with_reducible assumption | with_reducible rfl | omega | assumption | rfl | decide) (by first | with_reducible assumption | with_reducible rfl | omega | assumption | rfl | decide) hVA hVz (by first | with_reducible assumption | with_reducible rfl | omega | assumption | rfl | decide)) (kV_RX12_251 C.2.2.2.2 (Nat.le_of_ble_eq_true rfl) (Nat.le_of_ble_eq_true rfl)) [6, 2, 3, 4, 5, 0] [0, 1, 0, 0, 0, 0] rfl rfl (ci := 11) (qc := (RX12, TX12, 43)) rfl rfl (List.mem_flatten.mpr ⟨_, List.mem_of_getElem? (i := 0) rfl, List.mem_cons_self⟩) rfl rfl hl.1 dX12_game_56 (Nat.le_of_ble_eq_true rfl) (Nat.le_of_ble_eq_true rfl) (fun r_383 b1 H locs hw G => ?_)
              refine zEx8 hw ?_
              intro j_steps_374 j_done_375 j_at_376 j_gone_377 g_posts_378 g_shut_379 g_here_380 g_was_381
              refine zCu2 ?_
              intro hbs9 h_382
              clear hw
              subst hbs9
              have G : zS T A s.heap s [[zAr T 0 m_rowWorth 512 xrowWorth], [zO11 mo m_all m_has i_size i_next i_where i_token i_number i_word i_wrong i_farCrossing m_read 661 j_crossings_2 j_inns_3 m_posts m_shut m_here j_steps_374 j_done_375 j_at_376 j_gone_377 m_was m_came m_seenAt m_rowWorth m_farBy m_used i_everywhere i_again0 i_d0 i_never i_firstCame i_longRun i_moved i_crowd i_l0 i_fitMany i_fitLeast i_fitMost m_fitPost m_fitEnd m_keptPosts i_x0], [zAr T 0 m_all 3952 f_all], [zAr T 0 m_posts 7 g_posts_378], [zAr T 0 m_shut 7 g_shut_379], [zAr T 0 m_here 7 g_here_380], [zAr T 0 m_was 7 g_was_381]] _ _ := G
              have hgb9 : r_383.toInt = gRw (zWo f_all 661 j_inns_3) (zLo f_all 661) j_inns_3 c_ (aRs (zWo f_all 661 j_inns_3) (zPo f_all 661) 7) 0 false 3 w := h_382
              refine z_ist C G 0 rfl (vp_in_nI (by omega) (by decide)) dX12_game_59 (fun H locs G => ?_)
              rw [nI_clamp (by omega)] at G
              have G : zS T A s.heap s [[zAr T 0 m_rowWorth 512 (upd xrowWorth w r_383)], [zO11 mo m_all m_has i_size i_next i_where i_token i_number i_word i_wrong i_farCrossing m_read 661 j_crossings_2 j_inns_3 m_posts m_shut m_here j_steps_374 j_done_375 j_at_376 j_gone_377 m_was m_came m_seenAt m_rowWorth m_farBy m_used i_everywhere i_again0 i_d0 i_never i_firstCame i_longRun i_moved i_crowd i_l0 i_fitMany i_fitLeast i_fitMost m_fitPost m_fitEnd m_keptPosts i_x0], [zAr T 0 m_all 3952 f_all], [zAr T 0 m_posts 7 g_posts_378], [zAr T 0 m_shut 7 g_shut_379], [zAr T 0 m_here 7 g_here_380], [zAr T 0 m_was 7 g_was_381]] _ _ := G
              refine lv_iinc (v := nI (w + 1)) (lv' := [(6, .int (nI (w + 1))), (5, .int 512), (0, .ref mo), (1, .int l_), (2, .int c_), (3, .int 3), (4, .int f_)]) hx hb dX12_game_60 hl (k := 0) rfl (z_inc w 1) (by decide) (zLvf_h rfl) (fun ls hl => ?_)
              refine lv_goto (tgt := 38) hx hb dX12_game_63 (by decide) ?_
              have G := G.sub (bs' := [[zAr T 0 m_was 7 g_was_381], [zAr T 0 m_rowWorth 512 (upd xrowWorth w r_383)], [zAr T 0 m_all 3952 f_all], [zAr T 0 m_posts 7 g_posts_378], [zAr T 0 m_shut 7 g_shut_379], [zAr T 0 m_here 7 g_here_380], [zO11 mo m_all m_has i_size i_next i_where i_token i_number i_word i_wrong i_farCrossing m_read 661 j_crossings_2 j_inns_3 m_posts m_shut m_here j_steps_374 j_done_375 j_at_376 j_gone_377 m_was m_came m_seenAt m_rowWorth m_farBy m_used i_everywhere i_again0 i_d0 i_never i_firstCame i_longRun i_moved i_crowd i_l0 i_fitMany i_fitLeast i_fitMost m_fitPost m_fitEnd m_keptPosts i_x0]]) [6, 0, 2, 3, 4, 5, 1] rfl
              exact ih_38 (w + 1) j_at_376 j_gone_377 j_steps_374 j_done_375 g_posts_378 g_shut_379 g_here_380 g_was_381 (upd xrowWorth w r_383) (show (w + 1) ≤ 512 ∧ (∀ p, p < (w + 1) → ((upd xrowWorth w r_383) p).toInt = gRw (zWo f_all 661 j_inns_3) (zLo f_all 661) j_inns_3 c_ (aRs (zWo f_all 661 j_inns_3) (zPo f_all 661) 7) 0 false 3 p) from ⟨by omega, (gUp hrow hgb9)⟩) (show 512 - (w + 1) < 512 - w from by omega) _ _ ls G (lv_sub hl [0, 1, 2, 3, 4, 5, 6] rfl)
        · have h_213 : (n_.toInt < (0 : Int) ∨ (3 : Int) < n_.toInt) := h_213
          refine lv_if_ne (tgt := 28) hx hb dX12_game_22 (by decide) (fun q => absurd (by decide) q) (fun _ => ?_)
          refine lv_bipush (v := (-9)) hx hb dX12_game_25 (by decide) ?_
          have G := G.sub (bs' := [[zO11 mo m_all m_has i_size i_next i_where i_token i_number i_word i_wrong i_farCrossing m_read 661 j_crossings_2 j_inns_3 m_posts m_shut m_here j_steps_4 j_done_5 i_at i_gone m_was m_came m_seenAt m_rowWorth m_farBy m_used i_everywhere i_again0 i_d0 i_never i_firstCame i_longRun i_moved i_crowd i_l0 i_fitMany i_fitLeast i_fitMost m_fitPost m_fitEnd m_keptPosts i_x0], [zAr T 0 m_all 3952 f_all], [zAr T 0 m_posts 7 g_posts_6], [zAr T 0 m_shut 7 g_shut_7], [zAr T 0 m_here 7 g_here_8], [zAr T 0 m_was 7 f_was], [zAr T 0 m_rowWorth 512 f_rowWorth]]) [6, 2, 3, 4, 5, 0, 1] rfl
          exact z_back hQz_ (z_iret C hr hlocks G (Nat.le_of_ble_eq_true rfl) (Nat.le_of_ble_eq_true rfl) dX12_game_27 ⟨661, j_crossings_2, j_inns_3, j_steps_4, j_done_5, i_at, i_gone, g_posts_6, g_shut_7, g_here_8, f_was, f_rowWorth, rfl, (Or.inr (Or.inr ⟨by first | with_reducible assumption | assumption, by omega, (by unfold pGame; rw [if_neg (fun q8 => by have q8 : (0 ≤ c_.toInt ∧ c_.toInt < (f_all 661).toInt) ∧ 0 ≤ n_.toInt ∧ n_.toInt ≤ 3 := q8; omega)])⟩))⟩)
      · have h_208 : (c_.toInt < 0 ∨ j_crossings_2.toInt ≤ c_.toInt) := h_208
        refine lv_if_eq (tgt := 25) hx hb dX12_game_13 (by decide) (fun _ => ?_) (fun q => absurd (by decide) q)
        refine lv_bipush (v := (-9)) hx hb dX12_game_25 (by decide) ?_
        have G := G.sub (bs' := [[zO11 mo m_all m_has i_size i_next i_where i_token i_number i_word i_wrong i_farCrossing m_read 661 j_crossings_2 j_inns_3 m_posts m_shut m_here j_steps_4 j_done_5 i_at i_gone m_was m_came m_seenAt m_rowWorth m_farBy m_used i_everywhere i_again0 i_d0 i_never i_firstCame i_longRun i_moved i_crowd i_l0 i_fitMany i_fitLeast i_fitMost m_fitPost m_fitEnd m_keptPosts i_x0], [zAr T 0 m_all 3952 f_all], [zAr T 0 m_posts 7 g_posts_6], [zAr T 0 m_shut 7 g_shut_7], [zAr T 0 m_here 7 g_here_8], [zAr T 0 m_was 7 f_was], [zAr T 0 m_rowWorth 512 f_rowWorth]]) [6, 2, 3, 4, 5, 0, 1] rfl
        exact z_back hQz_ (z_iret C hr hlocks G (Nat.le_of_ble_eq_true rfl) (Nat.le_of_ble_eq_true rfl) dX12_game_27 ⟨661, j_crossings_2, j_inns_3, j_steps_4, j_done_5, i_at, i_gone, g_posts_6, g_shut_7, g_here_8, f_was, f_rowWorth, rfl, (Or.inr (Or.inr ⟨by first | with_reducible assumption | assumption, by omega, (by unfold pGame; rw [if_neg (fun q8 => by have q8 : (0 ≤ c_.toInt ∧ c_.toInt < (f_all 661).toInt) ∧ 0 ≤ n_.toInt ∧ n_.toInt ≤ 3 := q8; omega)])⟩))⟩)
  · have h_23 : (l_.toInt < 0 ∨ (f_all 0).toInt ≤ l_.toInt) := h_23
    refine lv_if_eq (tgt := 25) hx hb dX12_game_5 (by decide) (fun _ => ?_) (fun q => absurd (by decide) q)
    refine lv_bipush (v := (-9)) hx hb dX12_game_25 (by decide) ?_
    have G := G.sub (bs' := [[zO11 mo m_all m_has i_size i_next i_where i_token i_number i_word i_wrong i_farCrossing m_read j_z0_1 j_crossings_2 j_inns_3 m_posts m_shut m_here j_steps_4 j_done_5 i_at i_gone m_was m_came m_seenAt m_rowWorth m_farBy m_used i_everywhere i_again0 i_d0 i_never i_firstCame i_longRun i_moved i_crowd i_l0 i_fitMany i_fitLeast i_fitMost m_fitPost m_fitEnd m_keptPosts i_x0], [zAr T 0 m_all 3952 f_all], [zAr T 0 m_posts 7 g_posts_6], [zAr T 0 m_shut 7 g_shut_7], [zAr T 0 m_here 7 g_here_8], [zAr T 0 m_was 7 f_was], [zAr T 0 m_rowWorth 512 f_rowWorth]]) [2, 3, 4, 5, 6, 0, 1] rfl
    exact z_back hQz_ (z_iret C hr hlocks G (Nat.le_of_ble_eq_true rfl) (Nat.le_of_ble_eq_true rfl) dX12_game_27 ⟨j_z0_1, j_crossings_2, j_inns_3, j_steps_4, j_done_5, i_at, i_gone, g_posts_6, g_shut_7, g_here_8, f_was, f_rowWorth, rfl, (Or.inl ⟨by first | with_reducible assumption | assumption, rfl⟩)⟩)
theorem aT_cg {W V L M : Nat → Int32} (h : ∀ j, j < 7 → W j = V j) (hL : zLs W L M) (h4 : ∀ j, j < 7 → (W j).toInt ≤ 4) (n i : Nat) : aT W L n i = aT V M n i := by
  unfold aT
  rw [aN_cg h hL h4]
theorem zTab_cg {cr inn cr' inn' wy pc : Int32} {k1 k2 k3 k1' k2' k3' f1 f2 f5 : Nat → Int32} {n : Nat} (hI : zLI cr k1 k3) (hI' : zLI cr' k1' k3') (hW : ∀ j, j < 7 → aW cr inn k1 j = aW cr' inn' k1' j) (hL : zLs (aW cr inn k1) k2 k2') (h : zTab cr inn k1 k2 wy pc f1 f2 f5 n) : zTab cr' inn' k1' k2' wy pc f1 f2 f5 n := by
  obtain ⟨h1, h2, h3, h4, h5⟩ := h
  have p : ∀ m, aPr (aW cr inn k1) m = aPr (aW cr' inn' k1') m := aPr_cg hW
  have w4 : ∀ j, j < 7 → (aW cr inn k1 j).toInt ≤ 4 := fun j _ => (zWays_le (inn := inn) hI (nI j)).2
  refine ⟨?_, ?_, ⟨fun c hc => ?_, fun c hc => ?_⟩, ?_, fun j hj => ?_⟩
  · rw [h1, zWy_z hI, zWy_z hI', p]
  · rw [h2, zPl_z hI, zPl_z hI', p]
  · rw [h3.1 c hc, aCh_z hI, aCh_z hI', aCh_cg (hW c hc)]
  · rw [h3.2 c hc, aWyN_z hI _ (by omega), aWyN_z hI' _ (by omega), p]
  · rw [← p]
    exact h4
  · rw [← p] at hj
    rw [h5 j hj, aT_cg hW hL w4]
theorem zTb_k {cr inn cr' inn' wy pc md md' : Int32} {k1 k2 k3 k4 k1' k2' k3' k4' f g f1 f2 f5 : Nat → Int32} {n B : Nat} (hB : B = 610 ∨ B = 661) (h : md = 0 ∨ zTab cr inn k1 k2 wy pc f1 f2 f5 n) (hm : md' = 0 ∨ md' = md ∧ ∀ j, j < 51 → g (B + j) = f (B + j)) (a : zLnd cr inn k1 k2 k3 k4 (fun j => f (B + j))) (a' : zLnd cr' inn' k1' k2' k3' k4' (fun j => g (B + j))) (hF : zLF (fun j => f (B + j))) (hI : zLI cr k1 k3) (hI' : zLI cr' k1' k3') : md' = 0 ∨ zTab cr' inn' k1' k2' wy pc f1 f2 f5 n := by
  rcases hm with hm | ⟨hm, hg⟩
  · exact Or.inl hm
  · rcases h with h | h
    · exact Or.inl (hm.trans h)
    · refine Or.inr ?_
      have hz : (nI B).toInt.toNat = B := by
        rw [nI_toInt (by omega)]
        rfl
      have hF' : zLF (fun j => g (B + j)) := zLF_cg (fun j hj => hg j hj) hF
      obtain ⟨b1, b2, -, -, -, -⟩ := zLnd_w a hF hz
      obtain ⟨d1, d2, -, -, -, -⟩ := zLnd_w a' hF' hz
      have e : ∀ j, j < 51 → g ((nI B).toInt.toNat + j) = f ((nI B).toInt.toNat + j) := fun j hj => by
        rw [hz]
        exact hg j hj
      have hp : ∀ j, j < 7 → pW f (nI B) j = pW g (nI B) j := fun j hj => by
        unfold pW zWo zRo
        rw [e 1 (by decide), e (2 + j) (by omega)]
      have hW : ∀ j, j < 7 → aW cr inn k1 j = aW cr' inn' k1' j := fun j hj => (b1 j hj).trans ((hp j hj).trans (d1 j hj).symm)
      have w4 : ∀ j, j < 7 → (aW cr inn k1 j).toInt ≤ 4 := fun j _ => (zWays_le (inn := inn) hI (nI j)).2
      refine zTab_cg hI hI' hW (fun j r hj hr hq => ?_) h
      have x1 : k2 (4 * j + r) = zLo f (nI B) (4 * j + r) := b2 j r hj hr hq
      have hq2 : (r : Int) < (kW cr' inn' k1' j).toInt := by
        have t : aW cr inn k1 j = kW cr' inn' k1' j := hW j hj
        rw [← t]
        exact hq
      have x2 : k2' (4 * j + r) = zLo g (nI B) (4 * j + r) := d2 j r hj hr hq2
      rw [x1, x2]
      exact (e (23 + (4 * j + r)) (by omega)).symm
theorem zText_l {z : pS × (Nat → Int32)} {s : Nat} {at_ r : Int32} {f g : Nat → Int32} (hs : s < 3) (h : zText z s at_ f g r) (hq : r.toInt < 0 ∨ ¬ s = 0) (h0 : 0 ≤ (f s).toInt) : ∀ j, 610 ≤ j → j < 712 → g j = f j := by
  intro j h1 h2
  have hd : ∀ a b, pHd f a b j = f j := fun a b => by
    unfold pHd
    rw [z_ne (by omega), z_ne (by omega), z_ne (by omega)]
  rcases h with ⟨_, _, e⟩ | ⟨_, _, _, e⟩ | ⟨ok, _, er, e⟩
  · rw [e j (by omega), hd]
  · rw [e j (by omega), hd]
  · rw [e j (by omega)]
    have s0 : ¬ s = 0 := by
      rcases hq with q | q
      · exfalso
        rw [er] at q
        unfold pNr at q
        unfold pOkAt at ok
        by_cases c : at_.toInt = -1
        · rw [if_pos c] at q
          omega
        · rw [if_neg c] at q ok
          omega
      · exact q
    have c : ∀ G : Nat → Int32, pCnt s at_ G j = G j := fun G => by
      unfold pCnt
      split
      · exact z_ne (by omega)
      · rfl
    unfold pPut
    rw [if_neg, c, hd]
    intro q
    have q1 := q.1
    unfold pBase at q1
    rw [if_neg s0] at q1
    split at q1 <;> omega


theorem zDe_nh {cr inn d x y : Int32} {W Ro L : Nat → Int32} {D : zK} (h : ¬ zHas cr x) : zDe cr inn W Ro L d x y D = none := by
  unfold zDe
  by_cases h0 : d.toInt = 0
  · rw [if_pos h0]
    exact if_neg (fun q => h q.1.1)
  rw [if_neg h0]
  by_cases h1 : d.toInt = 1
  · rw [if_pos h1]
    exact if_neg (fun q => h q.1)
  rw [if_neg h1]
  by_cases h2 : d.toInt = 2
  · rw [if_pos h2]
    exact if_neg (fun q => h q.1)
  rw [if_neg h2]
  by_cases h3 : d.toInt = 3
  · rw [if_pos h3]
    exact if_neg (fun q => h q.1)
  rw [if_neg h3]
  by_cases h4 : d.toInt = 4
  · rw [if_pos h4]
    exact if_neg (fun q => h q.1)
  rw [if_neg h4]
  by_cases h5 : d.toInt = 5
  · rw [if_pos h5]
    exact if_neg (fun q => h q.1)
  rw [if_neg h5]
theorem zPost_inn {P S f : Nat → Int32} {z n x : Int32} (h : zBit n x = 1) (h0 : 0 ≤ x.toInt) (h6 : x.toInt ≤ 6) : P = zPost P S (zWo f z n) x := by
  unfold zPost
  rw [if_pos (zTurn_inn h h0 h6)]
set_option maxHeartbeats 4000000 in
set_option maxRecDepth 100000 in
/-- c_fm_does -/
theorem c_fm_does (l : Launch) (T : zTy) (mo : Nat) (m_all : Nat) (m_has : Nat) (i_size : Int32) (i_next : Int32) (i_where : Int32) (i_token : Int32) (i_number : Int32) (i_word : Int32) (i_wrong : Int32) (i_farCrossing : Int32) (m_read : Nat) (i_z0 : Int32) (i_crossings : Int32) (i_inns : Int32) (m_posts : Nat) (m_shut : Nat) (m_here : Nat) (i_steps : Int32) (i_done : Int32) (i_at : Int32) (i_gone : Int32) (m_was : Nat) (m_came : Nat) (m_seenAt : Nat) (m_rowWorth : Nat) (m_farBy : Nat) (m_used : Nat) (i_everywhere : Int32) (i_again0 : Int32) (i_d0 : Int32) (i_never : Int32) (i_firstCame : Int32) (i_longRun : Int32) (i_moved : Int32) (i_crowd : Int32) (i_l0 : Int32) (i_fitMany : Int32) (i_fitLeast : Int32) (i_fitMost : Int32) (m_fitPost : Nat) (m_fitEnd : Nat) (m_keptPosts : Nat) (i_x0 : Int32) (f_all : Nat → Int32) (f_posts : Nat → Int32) (f_shut : Nat → Int32) (f_here : Nat → Int32) (f_was : Nat → Int32) (d_ : Int32) (a_ : Int32) (b_ : Int32) (hL : zML f_all i_z0 i_crossings) (hP : zMP f_posts) (hV : zMV (zRo f_all i_z0) f_posts) (hH : zHB 100000 f_here) (hd0 : 0 ≤ d_.toInt) (hd5 : d_.toInt ≤ 5) (hb3 : 4 ≤ d_.toInt → 0 ≤ b_.toInt ∧ b_.toInt ≤ 3) (hS5 : zS15 f_shut) : zMi l T yX12_does cX12_does 4 (some .boolean) 6 0 0 [.ref mo, .int d_, .int a_, .int b_] [[(mo, .inr (11, [.ref m_all, .ref m_has, .int i_size, .int i_next, .int i_where, .int i_token, .int i_number, .int i_word, .int i_wrong, .int i_farCrossing, .ref m_read, .int i_z0, .int i_crossings, .int i_inns, .ref m_posts, .ref m_shut, .ref m_here, .int i_steps, .int i_done, .int i_at, .int i_gone, .ref m_was, .ref m_came, .ref m_seenAt, .ref m_rowWorth, .ref m_farBy, .ref m_used, .int i_everywhere, .int i_again0, .int i_d0, .int i_never, .int i_firstCame, .int i_longRun, .int i_moved, .int i_crowd, .int i_l0, .int i_fitMany, .int i_fitLeast, .int i_fitMost, .ref m_fitPost, .ref m_fitEnd, .ref m_keptPosts, .int i_x0]))], [(m_all, .inl (T.2 0, 3952, .inl f_all))], [(m_posts, .inl (T.2 0, 7, .inl f_posts))], [(m_shut, .inl (T.2 0, 7, .inl f_shut))], [(m_here, .inl (T.2 0, 7, .inl f_here))], [(m_was, .inl (T.2 0, 7, .inl f_was))]] (fun (r : Int32) bs => ∃ (j_at : Int32) (j_gone : Int32) (j_steps : Int32) (j_moved : Int32) (j_firstCame : Int32) (j_never : Int32) (j_longRun : Int32) (g_posts : Nat → Int32) (g_shut : Nat → Int32) (g_here : Nat → Int32) (g_was : Nat → Int32), bs = [[(mo, .inr (11, [.ref m_all, .ref m_has, .int i_size, .int i_next, .int i_where, .int i_token, .int i_number, .int i_word, .int i_wrong, .int i_farCrossing, .ref m_read, .int i_z0, .int i_crossings, .int i_inns, .ref m_posts, .ref m_shut, .ref m_here, .int j_steps, .int i_done, .int j_at, .int j_gone, .ref m_was, .ref m_came, .ref m_seenAt, .ref m_rowWorth, .ref m_farBy, .ref m_used, .int i_everywhere, .int i_again0, .int i_d0, .int j_never, .int j_firstCame, .int j_longRun, .int j_moved, .int i_crowd, .int i_l0, .int i_fitMany, .int i_fitLeast, .int i_fitMost, .ref m_fitPost, .ref m_fitEnd, .ref m_keptPosts, .int i_x0]))], [(m_all, .inl (T.2 0, 3952, .inl f_all))], [(m_posts, .inl (T.2 0, 7, .inl g_posts))], [(m_shut, .inl (T.2 0, 7, .inl g_shut))], [(m_here, .inl (T.2 0, 7, .inl g_here))], [(m_was, .inl (T.2 0, 7, .inl g_was))]] ∧ (r = 1 ∧ zDe i_crossings i_inns (zWo f_all i_z0 i_inns) (zRo f_all i_z0) (zLo f_all i_z0) d_ a_ b_ (f_posts, f_shut, f_here, i_steps, i_never) = some (g_posts, g_shut, g_here, j_steps, j_never) ∨ r = 0 ∧ zDe i_crossings i_inns (zWo f_all i_z0 i_inns) (zRo f_all i_z0) (zLo f_all i_z0) d_ a_ b_ (f_posts, f_shut, f_here, i_steps, i_never) = none ∧ g_posts = f_posts ∧ g_shut = f_shut ∧ g_here = f_here ∧ j_steps = i_steps ∧ j_never = i_never) ∧ zMV (zRo f_all i_z0) g_posts ∧ zMP g_posts ∧ (∀ m : Int, m ≤ 100000 → zHB m f_here → zHB (m + 1) g_here) ∧ zS15 g_shut) := by
  refine zMi_of (own := RX12) (by decide) rfl (Nat.le_of_ble_eq_true rfl) ?_
  intro p e s m args below meth c A ls C hr hlocks hnm hAe G hl
  have hx := C.1
  have hb := C.2.1
  have hl : lv_has ls 4 [(0, .ref mo), (1, .int d_), (2, .int a_), (3, .int b_)] := hl
  have hz := hL.1
  have hcr := hL.cr
  refine lv_aload_n hx hb dX12_does_0 rfl (lv_at hl 0 rfl) ?_
  refine lv_iload_n hx hb dX12_does_1 rfl (lv_at hl 2 rfl) ?_
  refine z_Vi (bc := [[(mo, .inr (11, [.ref m_all, .ref m_has, .int i_size, .int i_next, .int i_where, .int i_token, .int i_number, .int i_word, .int i_wrong, .int i_farCrossing, .ref m_read, .int i_z0, .int i_crossings, .int i_inns, .ref m_posts, .ref m_shut, .ref m_here, .int i_steps, .int i_done, .int i_at, .int i_gone, .ref m_was, .ref m_came, .ref m_seenAt, .ref m_rowWorth, .ref m_farBy, .ref m_used, .int i_everywhere, .int i_again0, .int i_d0, .int i_never, .int i_firstCame, .int i_longRun, .int i_moved, .int i_crowd, .int i_l0, .int i_fitMany, .int i_fitLeast, .int i_fitMost, .ref m_fitPost, .ref m_fitEnd, .ref m_keptPosts, .int i_x0]))]]) (br := [[(m_all, .inl (T.2 0, 3952, .inl f_all))], [(m_posts, .inl (T.2 0, 7, .inl f_posts))], [(m_shut, .inl (T.2 0, 7, .inl f_shut))], [(m_here, .inl (T.2 0, 7, .inl f_here))], [(m_was, .inl (T.2 0, 7, .inl f_was))]]) (As := [.int a_]) (rest := []) C G (c_m_isCrossing l T mo m_all m_has i_size i_next i_where i_token i_number i_word i_wrong i_farCrossing m_read i_z0 i_crossings i_inns m_posts m_shut m_here i_steps i_done i_at i_gone m_was m_came m_seenAt m_rowWorth m_farBy m_used i_everywhere i_again0 i_d0 i_never i_firstCame i_longRun i_moved i_crowd i_l0 i_fitMany i_fitLeast i_fitMost m_fitPost m_fitEnd m_keptPosts i_x0 a_ (by first | with_reducible assumption | with_reducible rfl | omega | assumption | rfl)) (kV_RX12_187 C.2.2.2.2 (Nat.le_of_ble_eq_true rfl) (Nat.le_of_ble_eq_true rfl)) [0] [1, 2, 3, 4, 5] rfl rfl (ci := 11) (qc := (RX12, TX12, 43)) rfl rfl (List.mem_flatten.mpr ⟨_, List.mem_of_getElem? (i := 0) rfl, List.mem_cons_self⟩) rfl rfl hl.1 dX12_does_2 (Nat.le_of_ble_eq_true rfl) (Nat.le_of_ble_eq_true rfl) (fun r_2 b1 H locs hw G => ?_)
  obtain ⟨rfl, hc_1⟩ := hw
  have G : zS T A s.heap s [[(m_all, .inl (T.2 0, 3952, .inl f_all))], [(m_posts, .inl (T.2 0, 7, .inl f_posts))], [(m_shut, .inl (T.2 0, 7, .inl f_shut))], [(m_here, .inl (T.2 0, 7, .inl f_here))], [(m_was, .inl (T.2 0, 7, .inl f_was))], [(mo, .inr (11, [.ref m_all, .ref m_has, .int i_size, .int i_next, .int i_where, .int i_token, .int i_number, .int i_word, .int i_wrong, .int i_farCrossing, .ref m_read, .int i_z0, .int i_crossings, .int i_inns, .ref m_posts, .ref m_shut, .ref m_here, .int i_steps, .int i_done, .int i_at, .int i_gone, .ref m_was, .ref m_came, .ref m_seenAt, .ref m_rowWorth, .ref m_farBy, .ref m_used, .int i_everywhere, .int i_again0, .int i_d0, .int i_never, .int i_firstCame, .int i_longRun, .int i_moved, .int i_crowd, .int i_l0, .int i_fitMany, .int i_fitLeast, .int i_fitMost, .ref m_fitPost, .ref m_fitEnd, .ref m_keptPosts, .int i_x0]))]] _ _ := G
  rcases hc_1 with ⟨rfl, h_3, h_4⟩ | ⟨rfl, h_5⟩
  · have h_3 : 0 ≤ a_.toInt := h_3
    have h_4 : a_.toInt < i_crossings.toInt := h_4
    refine lv_if_ne (tgt := 10) hx hb dX12_does_5 (by decide) (fun _ => ?_) (fun q => absurd q (by decide))
    refine lv_iload_n hx hb dX12_does_10 rfl (lv_at hl 1 rfl) ?_
    by_cases c_6o : d_.toInt < 0 ∨ 3 < d_.toInt
    · refine lv_tableOut (tgt := 80) hx hb dX12_does_11 c_6o (by decide) ?_
      refine lv_aload_n hx hb dX12_does_80 rfl (lv_at hl 0 rfl) ?_
      refine lv_iload_n hx hb dX12_does_81 rfl (lv_at hl 2 rfl) ?_
      refine lv_iload_n hx hb dX12_does_82 rfl (lv_at hl 3 rfl) ?_
      refine lv_iload_n hx hb dX12_does_83 rfl (lv_at hl 1 rfl) ?_
      refine lv_iconst (v := 4) hx hb dX12_does_84 (by decide) ?_
      refine lv_icmp_ne (tgt := 92) hx hb dX12_does_85 (by decide) (fun c_7 => ?_) (fun c_7 => ?_)
      · have c_7n : ¬ d_.toInt = (4 : Int) := fun q => c_7 ((fa_eq _ _).mpr q)
        refine lv_iconst (v := 0) hx hb dX12_does_92 (by decide) ?_
        refine z_Vi (bc := [[(mo, .inr (11, [.ref m_all, .ref m_has, .int i_size, .int i_next, .int i_where, .int i_token, .int i_number, .int i_word, .int i_wrong, .int i_farCrossing, .ref m_read, .int i_z0, .int i_crossings, .int i_inns, .ref m_posts, .ref m_shut, .ref m_here, .int i_steps, .int i_done, .int i_at, .int i_gone, .ref m_was, .ref m_came, .ref m_seenAt, .ref m_rowWorth, .ref m_farBy, .ref m_used, .int i_everywhere, .int i_again0, .int i_d0, .int i_never, .int i_firstCame, .int i_longRun, .int i_moved, .int i_crowd, .int i_l0, .int i_fitMany, .int i_fitLeast, .int i_fitMost, .ref m_fitPost, .ref m_fitEnd, .ref m_keptPosts, .int i_x0]))], [(m_all, .inl (T.2 0, 3952, .inl f_all))], [(m_shut, .inl (T.2 0, 7, .inl f_shut))]]) (br := [[(m_posts, .inl (T.2 0, 7, .inl f_posts))], [(m_here, .inl (T.2 0, 7, .inl f_here))], [(m_was, .inl (T.2 0, 7, .inl f_was))]]) (As := [.int a_, .int b_, .int 0]) (rest := []) C G (c_fm_shuts0 l T mo m_all m_has i_size i_next i_where i_token i_number i_word i_wrong i_farCrossing m_read i_z0 i_crossings i_inns m_posts m_shut m_here i_steps i_done i_at i_gone m_was m_came m_seenAt m_rowWorth m_farBy m_used i_everywhere i_again0 i_d0 i_never i_firstCame i_longRun i_moved i_crowd i_l0 i_fitMany i_fitLeast i_fitMost m_fitPost m_fitEnd m_keptPosts i_x0 f_all f_shut a_ b_ (by first | with_reducible assumption | with_reducible rfl | omega | assumption | rfl) (by first | with_reducible assumption | with_reducible rfl | omega | assumption | rfl) (by first | with_reducible assumption | with_reducible rfl | omega | assumption | rfl) (by first | with_reducible assumption | with_reducible rfl | omega | assumption | rfl) (hb3 (by omega)).1 (hb3 (by omega)).2 (by first | with_reducible assumption | with_reducible rfl | omega | assumption | rfl)) (kV_RX12_335 C.2.2.2.2 (Nat.le_of_ble_eq_true rfl) (Nat.le_of_ble_eq_true rfl)) [5, 0, 2] [1, 3, 4] rfl rfl (ci := 11) (qc := (RX12, TX12, 43)) rfl rfl (List.mem_flatten.mpr ⟨_, List.mem_of_getElem? (i := 0) rfl, List.mem_cons_self⟩) rfl rfl hl.1 dX12_does_93 (Nat.le_of_ble_eq_true rfl) (Nat.le_of_ble_eq_true rfl) (fun r_11 b1 H locs hw G => ?_)
        obtain ⟨g_shut_8, rfl, h_9, h_10⟩ := hw
        have G : zS T A s.heap s [[(m_posts, .inl (T.2 0, 7, .inl f_posts))], [(m_here, .inl (T.2 0, 7, .inl f_here))], [(m_was, .inl (T.2 0, 7, .inl f_was))], [(mo, .inr (11, [.ref m_all, .ref m_has, .int i_size, .int i_next, .int i_where, .int i_token, .int i_number, .int i_word, .int i_wrong, .int i_farCrossing, .ref m_read, .int i_z0, .int i_crossings, .int i_inns, .ref m_posts, .ref m_shut, .ref m_here, .int i_steps, .int i_done, .int i_at, .int i_gone, .ref m_was, .ref m_came, .ref m_seenAt, .ref m_rowWorth, .ref m_farBy, .ref m_used, .int i_everywhere, .int i_again0, .int i_d0, .int i_never, .int i_firstCame, .int i_longRun, .int i_moved, .int i_crowd, .int i_l0, .int i_fitMany, .int i_fitLeast, .int i_fitMost, .ref m_fitPost, .ref m_fitEnd, .ref m_keptPosts, .int i_x0]))], [(m_all, .inl (T.2 0, 3952, .inl f_all))], [(m_shut, .inl (T.2 0, 7, .inl g_shut_8))]] _ _ := G
        have G := G.sub (bs' := [[(mo, .inr (11, [.ref m_all, .ref m_has, .int i_size, .int i_next, .int i_where, .int i_token, .int i_number, .int i_word, .int i_wrong, .int i_farCrossing, .ref m_read, .int i_z0, .int i_crossings, .int i_inns, .ref m_posts, .ref m_shut, .ref m_here, .int i_steps, .int i_done, .int i_at, .int i_gone, .ref m_was, .ref m_came, .ref m_seenAt, .ref m_rowWorth, .ref m_farBy, .ref m_used, .int i_everywhere, .int i_again0, .int i_d0, .int i_never, .int i_firstCame, .int i_longRun, .int i_moved, .int i_crowd, .int i_l0, .int i_fitMany, .int i_fitLeast, .int i_fitMost, .ref m_fitPost, .ref m_fitEnd, .ref m_keptPosts, .int i_x0]))], [(m_all, .inl (T.2 0, 3952, .inl f_all))], [(m_posts, .inl (T.2 0, 7, .inl f_posts))], [(m_shut, .inl (T.2 0, 7, .inl g_shut_8))], [(m_here, .inl (T.2 0, 7, .inl f_here))], [(m_was, .inl (T.2 0, 7, .inl f_was))]]) [3, 4, 0, 5, 1, 2] rfl
        exact z_zret C hr hlocks G (Nat.le_of_ble_eq_true rfl) (Nat.le_of_ble_eq_true rfl) dX12_does_96 (by rcases h_9 f_posts f_here i_steps i_never with q | q <;> rw [q.1] <;> rfl) ⟨i_at, i_gone, i_steps, i_moved, i_firstCame, i_never, i_longRun, f_posts, g_shut_8, f_here, f_was, rfl, ((h_9 f_posts f_here i_steps i_never).elim (fun q8 => Or.inl ⟨q8.1, (zDe_k5 (by omega)).trans q8.2⟩) (fun q8 => Or.inr ⟨q8.1, (zDe_k5 (by omega)).trans q8.2.1, rfl, q8.2.2, rfl, rfl, rfl⟩)), hV, hP, (fun m hm hx => zHB_m hx (by omega)), h_10⟩
      · have c_7n : d_.toInt = (4 : Int) := (fa_eq _ _).mp c_7
        refine lv_iconst (v := 1) hx hb dX12_does_88 (by decide) ?_
        refine lv_goto (tgt := 93) hx hb dX12_does_89 (by decide) ?_
        refine z_Vi (bc := [[(mo, .inr (11, [.ref m_all, .ref m_has, .int i_size, .int i_next, .int i_where, .int i_token, .int i_number, .int i_word, .int i_wrong, .int i_farCrossing, .ref m_read, .int i_z0, .int i_crossings, .int i_inns, .ref m_posts, .ref m_shut, .ref m_here, .int i_steps, .int i_done, .int i_at, .int i_gone, .ref m_was, .ref m_came, .ref m_seenAt, .ref m_rowWorth, .ref m_farBy, .ref m_used, .int i_everywhere, .int i_again0, .int i_d0, .int i_never, .int i_firstCame, .int i_longRun, .int i_moved, .int i_crowd, .int i_l0, .int i_fitMany, .int i_fitLeast, .int i_fitMost, .ref m_fitPost, .ref m_fitEnd, .ref m_keptPosts, .int i_x0]))], [(m_all, .inl (T.2 0, 3952, .inl f_all))], [(m_shut, .inl (T.2 0, 7, .inl f_shut))]]) (br := [[(m_posts, .inl (T.2 0, 7, .inl f_posts))], [(m_here, .inl (T.2 0, 7, .inl f_here))], [(m_was, .inl (T.2 0, 7, .inl f_was))]]) (As := [.int a_, .int b_, .int 1]) (rest := []) C G (c_fm_shuts1 l T mo m_all m_has i_size i_next i_where i_token i_number i_word i_wrong i_farCrossing m_read i_z0 i_crossings i_inns m_posts m_shut m_here i_steps i_done i_at i_gone m_was m_came m_seenAt m_rowWorth m_farBy m_used i_everywhere i_again0 i_d0 i_never i_firstCame i_longRun i_moved i_crowd i_l0 i_fitMany i_fitLeast i_fitMost m_fitPost m_fitEnd m_keptPosts i_x0 f_all f_shut a_ b_ (by first | with_reducible assumption | with_reducible rfl | omega | assumption | rfl) (by first | with_reducible assumption | with_reducible rfl | omega | assumption | rfl) (by first | with_reducible assumption | with_reducible rfl | omega | assumption | rfl) (by first | with_reducible assumption | with_reducible rfl | omega | assumption | rfl) (hb3 (by omega)).1 (hb3 (by omega)).2 (by first | with_reducible assumption | with_reducible rfl | omega | assumption | rfl)) (kV_RX12_335 C.2.2.2.2 (Nat.le_of_ble_eq_true rfl) (Nat.le_of_ble_eq_true rfl)) [5, 0, 2] [1, 3, 4] rfl rfl (ci := 11) (qc := (RX12, TX12, 43)) rfl rfl (List.mem_flatten.mpr ⟨_, List.mem_of_getElem? (i := 0) rfl, List.mem_cons_self⟩) rfl rfl hl.1 dX12_does_93 (Nat.le_of_ble_eq_true rfl) (Nat.le_of_ble_eq_true rfl) (fun r_15 b1 H locs hw G => ?_)
        obtain ⟨g_shut_12, rfl, h_13, h_14⟩ := hw
        have G : zS T A s.heap s [[(m_posts, .inl (T.2 0, 7, .inl f_posts))], [(m_here, .inl (T.2 0, 7, .inl f_here))], [(m_was, .inl (T.2 0, 7, .inl f_was))], [(mo, .inr (11, [.ref m_all, .ref m_has, .int i_size, .int i_next, .int i_where, .int i_token, .int i_number, .int i_word, .int i_wrong, .int i_farCrossing, .ref m_read, .int i_z0, .int i_crossings, .int i_inns, .ref m_posts, .ref m_shut, .ref m_here, .int i_steps, .int i_done, .int i_at, .int i_gone, .ref m_was, .ref m_came, .ref m_seenAt, .ref m_rowWorth, .ref m_farBy, .ref m_used, .int i_everywhere, .int i_again0, .int i_d0, .int i_never, .int i_firstCame, .int i_longRun, .int i_moved, .int i_crowd, .int i_l0, .int i_fitMany, .int i_fitLeast, .int i_fitMost, .ref m_fitPost, .ref m_fitEnd, .ref m_keptPosts, .int i_x0]))], [(m_all, .inl (T.2 0, 3952, .inl f_all))], [(m_shut, .inl (T.2 0, 7, .inl g_shut_12))]] _ _ := G
        have G := G.sub (bs' := [[(mo, .inr (11, [.ref m_all, .ref m_has, .int i_size, .int i_next, .int i_where, .int i_token, .int i_number, .int i_word, .int i_wrong, .int i_farCrossing, .ref m_read, .int i_z0, .int i_crossings, .int i_inns, .ref m_posts, .ref m_shut, .ref m_here, .int i_steps, .int i_done, .int i_at, .int i_gone, .ref m_was, .ref m_came, .ref m_seenAt, .ref m_rowWorth, .ref m_farBy, .ref m_used, .int i_everywhere, .int i_again0, .int i_d0, .int i_never, .int i_firstCame, .int i_longRun, .int i_moved, .int i_crowd, .int i_l0, .int i_fitMany, .int i_fitLeast, .int i_fitMost, .ref m_fitPost, .ref m_fitEnd, .ref m_keptPosts, .int i_x0]))], [(m_all, .inl (T.2 0, 3952, .inl f_all))], [(m_posts, .inl (T.2 0, 7, .inl f_posts))], [(m_shut, .inl (T.2 0, 7, .inl g_shut_12))], [(m_here, .inl (T.2 0, 7, .inl f_here))], [(m_was, .inl (T.2 0, 7, .inl f_was))]]) [3, 4, 0, 5, 1, 2] rfl
        exact z_zret C hr hlocks G (Nat.le_of_ble_eq_true rfl) (Nat.le_of_ble_eq_true rfl) dX12_does_96 (by rcases h_13 f_posts f_here i_steps i_never with q | q <;> rw [q.1] <;> rfl) ⟨i_at, i_gone, i_steps, i_moved, i_firstCame, i_never, i_longRun, f_posts, g_shut_12, f_here, f_was, rfl, ((h_13 f_posts f_here i_steps i_never).elim (fun q8 => Or.inl ⟨q8.1, (zDe_k4 (by omega)).trans q8.2⟩) (fun q8 => Or.inr ⟨q8.1, (zDe_k4 (by omega)).trans q8.2.1, rfl, q8.2.2, rfl, rfl, rfl⟩)), hV, hP, (fun m hm hx => zHB_m hx (by omega)), h_14⟩
    · have c_6r : d_.toInt = 0 ∨ d_.toInt = 1 ∨ d_.toInt = 2 ∨ d_.toInt = 3 := by omega
      rcases c_6r with c_6 | c_6 | c_6 | c_6
      · refine lv_tableIn (tgt := 40) hx hb dX12_does_11 (by omega) (by omega) (by rw [c_6]; rfl) (by decide) ?_
        refine lv_aload_n hx hb dX12_does_40 rfl (lv_at hl 0 rfl) ?_
        refine lv_iload_n hx hb dX12_does_41 rfl (lv_at hl 2 rfl) ?_
        refine z_Vi (bc := [[(mo, .inr (11, [.ref m_all, .ref m_has, .int i_size, .int i_next, .int i_where, .int i_token, .int i_number, .int i_word, .int i_wrong, .int i_farCrossing, .ref m_read, .int i_z0, .int i_crossings, .int i_inns, .ref m_posts, .ref m_shut, .ref m_here, .int i_steps, .int i_done, .int i_at, .int i_gone, .ref m_was, .ref m_came, .ref m_seenAt, .ref m_rowWorth, .ref m_farBy, .ref m_used, .int i_everywhere, .int i_again0, .int i_d0, .int i_never, .int i_firstCame, .int i_longRun, .int i_moved, .int i_crowd, .int i_l0, .int i_fitMany, .int i_fitLeast, .int i_fitMost, .ref m_fitPost, .ref m_fitEnd, .ref m_keptPosts, .int i_x0]))], [(m_all, .inl (T.2 0, 3952, .inl f_all))], [(m_posts, .inl (T.2 0, 7, .inl f_posts))], [(m_shut, .inl (T.2 0, 7, .inl f_shut))], [(m_here, .inl (T.2 0, 7, .inl f_here))], [(m_was, .inl (T.2 0, 7, .inl f_was))]]) (br := []) (As := [.int a_]) (rest := []) C G (c_fm_goes l T mo m_all m_has i_size i_next i_where i_token i_number i_word i_wrong i_farCrossing m_read i_z0 i_crossings i_inns m_posts m_shut m_here i_steps i_done i_at i_gone m_was m_came m_seenAt m_rowWorth m_farBy m_used i_everywhere i_again0 i_d0 i_never i_firstCame i_longRun i_moved i_crowd i_l0 i_fitMany i_fitLeast i_fitMost m_fitPost m_fitEnd m_keptPosts i_x0 f_all f_posts f_shut f_here f_was a_ (by first | with_reducible assumption | with_reducible rfl | omega | assumption | rfl) (by first | with_reducible assumption | with_reducible rfl | omega | assumption | rfl) (by first | with_reducible assumption | with_reducible rfl | omega | assumption | rfl) (by first | with_reducible assumption | with_reducible rfl | omega | assumption | rfl) (by first | with_reducible assumption | with_reducible rfl | omega | assumption | rfl) (by first | with_reducible assumption | with_reducible rfl | omega | assumption | rfl) (by first | with_reducible assumption | with_reducible rfl | omega | assumption | rfl)) (kV_RX12_326 C.2.2.2.2 (Nat.le_of_ble_eq_true rfl) (Nat.le_of_ble_eq_true rfl)) [5, 0, 1, 2, 3, 4] [] rfl rfl (ci := 11) (qc := (RX12, TX12, 43)) rfl rfl (List.mem_flatten.mpr ⟨_, List.mem_of_getElem? (i := 0) rfl, List.mem_cons_self⟩) rfl rfl hl.1 dX12_does_42 (Nat.le_of_ble_eq_true rfl) (Nat.le_of_ble_eq_true rfl) (fun r_28 b1 H locs hw G => ?_)
        obtain ⟨j_at_16, j_gone_17, j_steps_18, j_moved_19, j_firstCame_20, g_posts_21, g_here_22, g_was_23, rfl, h_24, h_25, h_26, h_27⟩ := hw
        have G : zS T A s.heap s [[(mo, .inr (11, [.ref m_all, .ref m_has, .int i_size, .int i_next, .int i_where, .int i_token, .int i_number, .int i_word, .int i_wrong, .int i_farCrossing, .ref m_read, .int i_z0, .int i_crossings, .int i_inns, .ref m_posts, .ref m_shut, .ref m_here, .int j_steps_18, .int i_done, .int j_at_16, .int j_gone_17, .ref m_was, .ref m_came, .ref m_seenAt, .ref m_rowWorth, .ref m_farBy, .ref m_used, .int i_everywhere, .int i_again0, .int i_d0, .int i_never, .int j_firstCame_20, .int i_longRun, .int j_moved_19, .int i_crowd, .int i_l0, .int i_fitMany, .int i_fitLeast, .int i_fitMost, .ref m_fitPost, .ref m_fitEnd, .ref m_keptPosts, .int i_x0]))], [(m_all, .inl (T.2 0, 3952, .inl f_all))], [(m_posts, .inl (T.2 0, 7, .inl g_posts_21))], [(m_shut, .inl (T.2 0, 7, .inl f_shut))], [(m_here, .inl (T.2 0, 7, .inl g_here_22))], [(m_was, .inl (T.2 0, 7, .inl g_was_23))]] _ _ := G
        exact z_zret C hr hlocks G (Nat.le_of_ble_eq_true rfl) (Nat.le_of_ble_eq_true rfl) dX12_does_45 (by rcases h_24 with q | q <;> rw [q.1] <;> rfl) ⟨j_at_16, j_gone_17, j_steps_18, j_moved_19, j_firstCame_20, i_never, i_longRun, g_posts_21, f_shut, g_here_22, g_was_23, rfl, ((h_24).elim (fun q8 => Or.inl ⟨q8.1, (zDe_k0 (by omega)).trans q8.2⟩) (fun q8 => Or.inr ⟨q8.1, (zDe_k0 (by omega)).trans q8.2.1, q8.2.2.1, rfl, q8.2.2.2.1, q8.2.2.2.2, rfl⟩)), h_25, h_26, h_27, hS5⟩
      · refine lv_tableIn (tgt := 46) hx hb dX12_does_11 (by omega) (by omega) (by rw [c_6]; rfl) (by decide) ?_
        refine lv_aload_n hx hb dX12_does_46 rfl (lv_at hl 0 rfl) ?_
        refine lv_iload_n hx hb dX12_does_47 rfl (lv_at hl 2 rfl) ?_
        refine z_Vi (bc := [[(mo, .inr (11, [.ref m_all, .ref m_has, .int i_size, .int i_next, .int i_where, .int i_token, .int i_number, .int i_word, .int i_wrong, .int i_farCrossing, .ref m_read, .int i_z0, .int i_crossings, .int i_inns, .ref m_posts, .ref m_shut, .ref m_here, .int i_steps, .int i_done, .int i_at, .int i_gone, .ref m_was, .ref m_came, .ref m_seenAt, .ref m_rowWorth, .ref m_farBy, .ref m_used, .int i_everywhere, .int i_again0, .int i_d0, .int i_never, .int i_firstCame, .int i_longRun, .int i_moved, .int i_crowd, .int i_l0, .int i_fitMany, .int i_fitLeast, .int i_fitMost, .ref m_fitPost, .ref m_fitEnd, .ref m_keptPosts, .int i_x0]))], [(m_all, .inl (T.2 0, 3952, .inl f_all))], [(m_posts, .inl (T.2 0, 7, .inl f_posts))], [(m_shut, .inl (T.2 0, 7, .inl f_shut))], [(m_here, .inl (T.2 0, 7, .inl f_here))], [(m_was, .inl (T.2 0, 7, .inl f_was))]]) (br := []) (As := [.int a_]) (rest := []) C G (c_fm_runs0 l T mo m_all m_has i_size i_next i_where i_token i_number i_word i_wrong i_farCrossing m_read i_z0 i_crossings i_inns m_posts m_shut m_here i_steps i_done i_at i_gone m_was m_came m_seenAt m_rowWorth m_farBy m_used i_everywhere i_again0 i_d0 i_never i_firstCame i_longRun i_moved i_crowd i_l0 i_fitMany i_fitLeast i_fitMost m_fitPost m_fitEnd m_keptPosts i_x0 f_all f_posts f_shut f_here f_was a_ (by first | with_reducible assumption | with_reducible rfl | omega | assumption | rfl) (by first | with_reducible assumption | with_reducible rfl | omega | assumption | rfl) (by first | with_reducible assumption | with_reducible rfl | omega | assumption | rfl) (by first | with_reducible assumption | with_reducible rfl | omega | assumption | rfl) (by first | with_reducible assumption | with_reducible rfl | omega | assumption | rfl) (by first | with_reducible assumption | with_reducible rfl | omega | assumption | rfl) (by first | with_reducible assumption | with_reducible rfl | omega | assumption | rfl)) (kV_RX12_329 C.2.2.2.2 (Nat.le_of_ble_eq_true rfl) (Nat.le_of_ble_eq_true rfl)) [5, 0, 1, 2, 3, 4] [] rfl rfl (ci := 11) (qc := (RX12, TX12, 43)) rfl rfl (List.mem_flatten.mpr ⟨_, List.mem_of_getElem? (i := 0) rfl, List.mem_cons_self⟩) rfl rfl hl.1 dX12_does_48 (Nat.le_of_ble_eq_true rfl) (Nat.le_of_ble_eq_true rfl) (fun r_43 b1 H locs hw G => ?_)
        obtain ⟨j_at_29, j_gone_30, j_steps_31, j_moved_32, j_firstCame_33, j_never_34, j_longRun_35, g_posts_36, g_here_37, g_was_38, rfl, h_39, h_40, h_41, h_42⟩ := hw
        have G : zS T A s.heap s [[(mo, .inr (11, [.ref m_all, .ref m_has, .int i_size, .int i_next, .int i_where, .int i_token, .int i_number, .int i_word, .int i_wrong, .int i_farCrossing, .ref m_read, .int i_z0, .int i_crossings, .int i_inns, .ref m_posts, .ref m_shut, .ref m_here, .int j_steps_31, .int i_done, .int j_at_29, .int j_gone_30, .ref m_was, .ref m_came, .ref m_seenAt, .ref m_rowWorth, .ref m_farBy, .ref m_used, .int i_everywhere, .int i_again0, .int i_d0, .int j_never_34, .int j_firstCame_33, .int j_longRun_35, .int j_moved_32, .int i_crowd, .int i_l0, .int i_fitMany, .int i_fitLeast, .int i_fitMost, .ref m_fitPost, .ref m_fitEnd, .ref m_keptPosts, .int i_x0]))], [(m_all, .inl (T.2 0, 3952, .inl f_all))], [(m_posts, .inl (T.2 0, 7, .inl g_posts_36))], [(m_shut, .inl (T.2 0, 7, .inl f_shut))], [(m_here, .inl (T.2 0, 7, .inl g_here_37))], [(m_was, .inl (T.2 0, 7, .inl g_was_38))]] _ _ := G
        exact z_zret C hr hlocks G (Nat.le_of_ble_eq_true rfl) (Nat.le_of_ble_eq_true rfl) dX12_does_51 (by rcases h_39 with q | q <;> rw [q.1] <;> rfl) ⟨j_at_29, j_gone_30, j_steps_31, j_moved_32, j_firstCame_33, j_never_34, j_longRun_35, g_posts_36, f_shut, g_here_37, g_was_38, rfl, ((h_39).elim (fun q8 => Or.inl ⟨q8.1, (zDe_k1 (by omega)).trans q8.2⟩) (fun q8 => Or.inr ⟨q8.1, (zDe_k1 (by omega)).trans q8.2.1, q8.2.2.1, rfl, q8.2.2.2.1, q8.2.2.2.2.1, q8.2.2.2.2.2⟩)), h_40, h_41, h_42, hS5⟩
      · refine lv_tableIn (tgt := 52) hx hb dX12_does_11 (by omega) (by omega) (by rw [c_6]; rfl) (by decide) ?_
        refine lv_aload_n hx hb dX12_does_52 rfl (lv_at hl 0 rfl) ?_
        refine lv_iload_n hx hb dX12_does_53 rfl (lv_at hl 2 rfl) ?_
        refine z_Vi (bc := [[(mo, .inr (11, [.ref m_all, .ref m_has, .int i_size, .int i_next, .int i_where, .int i_token, .int i_number, .int i_word, .int i_wrong, .int i_farCrossing, .ref m_read, .int i_z0, .int i_crossings, .int i_inns, .ref m_posts, .ref m_shut, .ref m_here, .int i_steps, .int i_done, .int i_at, .int i_gone, .ref m_was, .ref m_came, .ref m_seenAt, .ref m_rowWorth, .ref m_farBy, .ref m_used, .int i_everywhere, .int i_again0, .int i_d0, .int i_never, .int i_firstCame, .int i_longRun, .int i_moved, .int i_crowd, .int i_l0, .int i_fitMany, .int i_fitLeast, .int i_fitMost, .ref m_fitPost, .ref m_fitEnd, .ref m_keptPosts, .int i_x0]))]]) (br := [[(m_all, .inl (T.2 0, 3952, .inl f_all))], [(m_posts, .inl (T.2 0, 7, .inl f_posts))], [(m_shut, .inl (T.2 0, 7, .inl f_shut))], [(m_here, .inl (T.2 0, 7, .inl f_here))], [(m_was, .inl (T.2 0, 7, .inl f_was))]]) (As := [.int a_]) (rest := []) C G (c_m_isInn l T mo m_all m_has i_size i_next i_where i_token i_number i_word i_wrong i_farCrossing m_read i_z0 i_crossings i_inns m_posts m_shut m_here i_steps i_done i_at i_gone m_was m_came m_seenAt m_rowWorth m_farBy m_used i_everywhere i_again0 i_d0 i_never i_firstCame i_longRun i_moved i_crowd i_l0 i_fitMany i_fitLeast i_fitMost m_fitPost m_fitEnd m_keptPosts i_x0 a_) (kV_RX12_178 C.2.2.2.2 (Nat.le_of_ble_eq_true rfl) (Nat.le_of_ble_eq_true rfl)) [5] [0, 1, 2, 3, 4] rfl rfl (ci := 11) (qc := (RX12, TX12, 43)) rfl rfl (List.mem_flatten.mpr ⟨_, List.mem_of_getElem? (i := 0) rfl, List.mem_cons_self⟩) rfl rfl hl.1 dX12_does_54 (Nat.le_of_ble_eq_true rfl) (Nat.le_of_ble_eq_true rfl) (fun r_45 b1 H locs hw G => ?_)
        obtain ⟨rfl, hc_44⟩ := hw
        have G : zS T A s.heap s [[(m_all, .inl (T.2 0, 3952, .inl f_all))], [(m_posts, .inl (T.2 0, 7, .inl f_posts))], [(m_shut, .inl (T.2 0, 7, .inl f_shut))], [(m_here, .inl (T.2 0, 7, .inl f_here))], [(m_was, .inl (T.2 0, 7, .inl f_was))], [(mo, .inr (11, [.ref m_all, .ref m_has, .int i_size, .int i_next, .int i_where, .int i_token, .int i_number, .int i_word, .int i_wrong, .int i_farCrossing, .ref m_read, .int i_z0, .int i_crossings, .int i_inns, .ref m_posts, .ref m_shut, .ref m_here, .int i_steps, .int i_done, .int i_at, .int i_gone, .ref m_was, .ref m_came, .ref m_seenAt, .ref m_rowWorth, .ref m_farBy, .ref m_used, .int i_everywhere, .int i_again0, .int i_d0, .int i_never, .int i_firstCame, .int i_longRun, .int i_moved, .int i_crowd, .int i_l0, .int i_fitMany, .int i_fitLeast, .int i_fitMost, .ref m_fitPost, .ref m_fitEnd, .ref m_keptPosts, .int i_x0]))]] _ _ := G
        rcases hc_44 with ⟨rfl, h_46⟩ | ⟨rfl, h_47⟩
        · have h_46 : zInn i_inns a_ := h_46
          refine lv_if_ne (tgt := 72) hx hb dX12_does_57 (by decide) (fun _ => ?_) (fun q => absurd q (by decide))
          refine lv_iconst (v := 0) hx hb dX12_does_72 (by decide) ?_
          have G := G.sub (bs' := [[(mo, .inr (11, [.ref m_all, .ref m_has, .int i_size, .int i_next, .int i_where, .int i_token, .int i_number, .int i_word, .int i_wrong, .int i_farCrossing, .ref m_read, .int i_z0, .int i_crossings, .int i_inns, .ref m_posts, .ref m_shut, .ref m_here, .int i_steps, .int i_done, .int i_at, .int i_gone, .ref m_was, .ref m_came, .ref m_seenAt, .ref m_rowWorth, .ref m_farBy, .ref m_used, .int i_everywhere, .int i_again0, .int i_d0, .int i_never, .int i_firstCame, .int i_longRun, .int i_moved, .int i_crowd, .int i_l0, .int i_fitMany, .int i_fitLeast, .int i_fitMost, .ref m_fitPost, .ref m_fitEnd, .ref m_keptPosts, .int i_x0]))], [(m_all, .inl (T.2 0, 3952, .inl f_all))], [(m_posts, .inl (T.2 0, 7, .inl f_posts))], [(m_shut, .inl (T.2 0, 7, .inl f_shut))], [(m_here, .inl (T.2 0, 7, .inl f_here))], [(m_was, .inl (T.2 0, 7, .inl f_was))]]) [5, 0, 1, 2, 3, 4] rfl
          exact z_zret C hr hlocks G (Nat.le_of_ble_eq_true rfl) (Nat.le_of_ble_eq_true rfl) dX12_does_73 rfl ⟨i_at, i_gone, i_steps, i_moved, i_firstCame, i_never, i_longRun, f_posts, f_shut, f_here, f_was, rfl, (Or.inr ⟨rfl, (zDe_k2 (by omega)).trans (zTuF_n (zTurn_inn (by assumption) (by omega) (by omega)) (zPost_inn (by assumption) (by omega) (by omega))).1, rfl, rfl, rfl, rfl, rfl⟩), hV, hP, (fun m hm hx => zHB_m hx (by omega)), hS5⟩
        · have h_47 : ¬ zInn i_inns a_ := h_47
          refine lv_if_ne (tgt := 72) hx hb dX12_does_57 (by decide) (fun q => absurd (by decide) q) (fun _ => ?_)
          refine lv_aload_n hx hb dX12_does_60 rfl (lv_at hl 0 rfl) ?_
          refine lv_iload_n hx hb dX12_does_61 rfl (lv_at hl 2 rfl) ?_
          refine z_Vi (bc := [[(mo, .inr (11, [.ref m_all, .ref m_has, .int i_size, .int i_next, .int i_where, .int i_token, .int i_number, .int i_word, .int i_wrong, .int i_farCrossing, .ref m_read, .int i_z0, .int i_crossings, .int i_inns, .ref m_posts, .ref m_shut, .ref m_here, .int i_steps, .int i_done, .int i_at, .int i_gone, .ref m_was, .ref m_came, .ref m_seenAt, .ref m_rowWorth, .ref m_farBy, .ref m_used, .int i_everywhere, .int i_again0, .int i_d0, .int i_never, .int i_firstCame, .int i_longRun, .int i_moved, .int i_crowd, .int i_l0, .int i_fitMany, .int i_fitLeast, .int i_fitMost, .ref m_fitPost, .ref m_fitEnd, .ref m_keptPosts, .int i_x0]))], [(m_all, .inl (T.2 0, 3952, .inl f_all))], [(m_posts, .inl (T.2 0, 7, .inl f_posts))], [(m_shut, .inl (T.2 0, 7, .inl f_shut))]]) (br := [[(m_here, .inl (T.2 0, 7, .inl f_here))], [(m_was, .inl (T.2 0, 7, .inl f_was))]]) (As := [.int a_]) (rest := []) C G (c_fm_turns l T mo m_all m_has i_size i_next i_where i_token i_number i_word i_wrong i_farCrossing m_read i_z0 i_crossings i_inns m_posts m_shut m_here i_steps i_done i_at i_gone m_was m_came m_seenAt m_rowWorth m_farBy m_used i_everywhere i_again0 i_d0 i_never i_firstCame i_longRun i_moved i_crowd i_l0 i_fitMany i_fitLeast i_fitMost m_fitPost m_fitEnd m_keptPosts i_x0 f_all f_posts f_shut a_ (by first | with_reducible assumption | with_reducible rfl | omega | assumption | rfl) (by first | with_reducible assumption | with_reducible rfl | omega | assumption | rfl) (by first | with_reducible assumption | with_reducible rfl | omega | assumption | rfl) (by first | with_reducible assumption | with_reducible rfl | omega | assumption | rfl) (by first | with_reducible assumption | with_reducible rfl | omega | assumption | rfl)) (kV_RX12_205 C.2.2.2.2 (Nat.le_of_ble_eq_true rfl) (Nat.le_of_ble_eq_true rfl)) [5, 0, 1, 2] [3, 4] rfl rfl (ci := 11) (qc := (RX12, TX12, 43)) rfl rfl (List.mem_flatten.mpr ⟨_, List.mem_of_getElem? (i := 0) rfl, List.mem_cons_self⟩) rfl rfl hl.1 dX12_does_62 (Nat.le_of_ble_eq_true rfl) (Nat.le_of_ble_eq_true rfl) (fun r_53 b1 H locs hw G => ?_)
          obtain ⟨g_posts_48, rfl, h_49, h_50, h_51, hc_52⟩ := hw
          have G : zS T A s.heap s [[(m_here, .inl (T.2 0, 7, .inl f_here))], [(m_was, .inl (T.2 0, 7, .inl f_was))], [(mo, .inr (11, [.ref m_all, .ref m_has, .int i_size, .int i_next, .int i_where, .int i_token, .int i_number, .int i_word, .int i_wrong, .int i_farCrossing, .ref m_read, .int i_z0, .int i_crossings, .int i_inns, .ref m_posts, .ref m_shut, .ref m_here, .int i_steps, .int i_done, .int i_at, .int i_gone, .ref m_was, .ref m_came, .ref m_seenAt, .ref m_rowWorth, .ref m_farBy, .ref m_used, .int i_everywhere, .int i_again0, .int i_d0, .int i_never, .int i_firstCame, .int i_longRun, .int i_moved, .int i_crowd, .int i_l0, .int i_fitMany, .int i_fitLeast, .int i_fitMost, .ref m_fitPost, .ref m_fitEnd, .ref m_keptPosts, .int i_x0]))], [(m_all, .inl (T.2 0, 3952, .inl f_all))], [(m_posts, .inl (T.2 0, 7, .inl g_posts_48))], [(m_shut, .inl (T.2 0, 7, .inl f_shut))]] _ _ := G
          rcases hc_52 with ⟨rfl, h_54, h_55⟩ | ⟨rfl, h_56⟩
          · have h_54 : ¬ zTurn f_posts f_shut (zRo f_all i_z0) a_ = -1 := h_54
            have h_55 : 0 < (zRd f_all i_z0 a_).toInt := h_55
            refine lv_if_eq (tgt := 72) hx hb dX12_does_65 (by decide) (fun q => absurd q (by decide)) (fun _ => ?_)
            refine lv_iconst (v := 1) hx hb dX12_does_68 (by decide) ?_
            refine lv_goto (tgt := 73) hx hb dX12_does_69 (by decide) ?_
            have G := G.sub (bs' := [[(mo, .inr (11, [.ref m_all, .ref m_has, .int i_size, .int i_next, .int i_where, .int i_token, .int i_number, .int i_word, .int i_wrong, .int i_farCrossing, .ref m_read, .int i_z0, .int i_crossings, .int i_inns, .ref m_posts, .ref m_shut, .ref m_here, .int i_steps, .int i_done, .int i_at, .int i_gone, .ref m_was, .ref m_came, .ref m_seenAt, .ref m_rowWorth, .ref m_farBy, .ref m_used, .int i_everywhere, .int i_again0, .int i_d0, .int i_never, .int i_firstCame, .int i_longRun, .int i_moved, .int i_crowd, .int i_l0, .int i_fitMany, .int i_fitLeast, .int i_fitMost, .ref m_fitPost, .ref m_fitEnd, .ref m_keptPosts, .int i_x0]))], [(m_all, .inl (T.2 0, 3952, .inl f_all))], [(m_posts, .inl (T.2 0, 7, .inl g_posts_48))], [(m_shut, .inl (T.2 0, 7, .inl f_shut))], [(m_here, .inl (T.2 0, 7, .inl f_here))], [(m_was, .inl (T.2 0, 7, .inl f_was))]]) [2, 3, 4, 5, 0, 1] rfl
            exact z_zret C hr hlocks G (Nat.le_of_ble_eq_true rfl) (Nat.le_of_ble_eq_true rfl) dX12_does_73 rfl ⟨i_at, i_gone, i_steps, i_moved, i_firstCame, i_never, i_longRun, g_posts_48, f_shut, f_here, f_was, rfl, (Or.inl ⟨rfl, (zDe_k2 (by omega)).trans (zTuF_i ⟨⟨by omega, by omega, by omega⟩, fun q8 => h_54 ((zTurn_wo (show ¬ zBit i_inns a_ = 1 by assumption) (by omega) (by omega)).symm.trans q8)⟩ (h_51.trans (zPost_wo (show ¬ zBit i_inns a_ = 1 by assumption) (by omega) (by omega)).symm))⟩), h_50, h_49, (fun m hm hx => zHB_m hx (by omega)), hS5⟩
          · have h_56 : zTurn f_posts f_shut (zRo f_all i_z0) a_ = -1 := h_56
            refine lv_if_eq (tgt := 72) hx hb dX12_does_65 (by decide) (fun _ => ?_) (fun q => absurd (by decide) q)
            refine lv_iconst (v := 0) hx hb dX12_does_72 (by decide) ?_
            have G := G.sub (bs' := [[(mo, .inr (11, [.ref m_all, .ref m_has, .int i_size, .int i_next, .int i_where, .int i_token, .int i_number, .int i_word, .int i_wrong, .int i_farCrossing, .ref m_read, .int i_z0, .int i_crossings, .int i_inns, .ref m_posts, .ref m_shut, .ref m_here, .int i_steps, .int i_done, .int i_at, .int i_gone, .ref m_was, .ref m_came, .ref m_seenAt, .ref m_rowWorth, .ref m_farBy, .ref m_used, .int i_everywhere, .int i_again0, .int i_d0, .int i_never, .int i_firstCame, .int i_longRun, .int i_moved, .int i_crowd, .int i_l0, .int i_fitMany, .int i_fitLeast, .int i_fitMost, .ref m_fitPost, .ref m_fitEnd, .ref m_keptPosts, .int i_x0]))], [(m_all, .inl (T.2 0, 3952, .inl f_all))], [(m_posts, .inl (T.2 0, 7, .inl g_posts_48))], [(m_shut, .inl (T.2 0, 7, .inl f_shut))], [(m_here, .inl (T.2 0, 7, .inl f_here))], [(m_was, .inl (T.2 0, 7, .inl f_was))]]) [2, 3, 4, 5, 0, 1] rfl
            exact z_zret C hr hlocks G (Nat.le_of_ble_eq_true rfl) (Nat.le_of_ble_eq_true rfl) dX12_does_73 rfl ⟨i_at, i_gone, i_steps, i_moved, i_firstCame, i_never, i_longRun, g_posts_48, f_shut, f_here, f_was, rfl, (Or.inr ⟨rfl, (zDe_k2 (by omega)).trans (zTuF_n (cr := i_crossings) (H := f_here) (st := i_steps) (nv := i_never) ((zTurn_wo (show ¬ zBit i_inns a_ = 1 by assumption) (by omega) (by omega)).trans h_56) (h_51.trans (zPost_wo (show ¬ zBit i_inns a_ = 1 by assumption) (by omega) (by omega)).symm)).1, (zTuF_n (cr := i_crossings) (H := f_here) (st := i_steps) (nv := i_never) ((zTurn_wo (show ¬ zBit i_inns a_ = 1 by assumption) (by omega) (by omega)).trans h_56) (h_51.trans (zPost_wo (show ¬ zBit i_inns a_ = 1 by assumption) (by omega) (by omega)).symm)).2, rfl, rfl, rfl, rfl⟩), h_50, h_49, (fun m hm hx => zHB_m hx (by omega)), hS5⟩
      · refine lv_tableIn (tgt := 74) hx hb dX12_does_11 (by omega) (by omega) (by rw [c_6]; rfl) (by decide) ?_
        refine lv_aload_n hx hb dX12_does_74 rfl (lv_at hl 0 rfl) ?_
        refine lv_iload_n hx hb dX12_does_75 rfl (lv_at hl 2 rfl) ?_
        refine z_Vi (bc := [[(mo, .inr (11, [.ref m_all, .ref m_has, .int i_size, .int i_next, .int i_where, .int i_token, .int i_number, .int i_word, .int i_wrong, .int i_farCrossing, .ref m_read, .int i_z0, .int i_crossings, .int i_inns, .ref m_posts, .ref m_shut, .ref m_here, .int i_steps, .int i_done, .int i_at, .int i_gone, .ref m_was, .ref m_came, .ref m_seenAt, .ref m_rowWorth, .ref m_farBy, .ref m_used, .int i_everywhere, .int i_again0, .int i_d0, .int i_never, .int i_firstCame, .int i_longRun, .int i_moved, .int i_crowd, .int i_l0, .int i_fitMany, .int i_fitLeast, .int i_fitMost, .ref m_fitPost, .ref m_fitEnd, .ref m_keptPosts, .int i_x0]))], [(m_here, .inl (T.2 0, 7, .inl f_here))]]) (br := [[(m_all, .inl (T.2 0, 3952, .inl f_all))], [(m_posts, .inl (T.2 0, 7, .inl f_posts))], [(m_shut, .inl (T.2 0, 7, .inl f_shut))], [(m_was, .inl (T.2 0, 7, .inl f_was))]]) (As := [.int a_]) (rest := []) C G (c_fm_adds l T mo m_all m_has i_size i_next i_where i_token i_number i_word i_wrong i_farCrossing m_read i_z0 i_crossings i_inns m_posts m_shut m_here i_steps i_done i_at i_gone m_was m_came m_seenAt m_rowWorth m_farBy m_used i_everywhere i_again0 i_d0 i_never i_firstCame i_longRun i_moved i_crowd i_l0 i_fitMany i_fitLeast i_fitMost m_fitPost m_fitEnd m_keptPosts i_x0 f_here a_ (by first | with_reducible assumption | with_reducible rfl | omega | assumption | rfl) (by first | with_reducible assumption | with_reducible rfl | omega | assumption | rfl) (by first | with_reducible assumption | with_reducible rfl | omega | assumption | rfl) (by first | with_reducible assumption | with_reducible rfl | omega | assumption | rfl)) (kV_RX12_332 C.2.2.2.2 (Nat.le_of_ble_eq_true rfl) (Nat.le_of_ble_eq_true rfl)) [5, 3] [0, 1, 2, 4] rfl rfl (ci := 11) (qc := (RX12, TX12, 43)) rfl rfl (List.mem_flatten.mpr ⟨_, List.mem_of_getElem? (i := 0) rfl, List.mem_cons_self⟩) rfl rfl hl.1 dX12_does_76 (Nat.le_of_ble_eq_true rfl) (Nat.le_of_ble_eq_true rfl) (fun r_60 b1 H locs hw G => ?_)
        obtain ⟨g_here_57, rfl, h_58, h_59⟩ := hw
        have G : zS T A s.heap s [[(m_all, .inl (T.2 0, 3952, .inl f_all))], [(m_posts, .inl (T.2 0, 7, .inl f_posts))], [(m_shut, .inl (T.2 0, 7, .inl f_shut))], [(m_was, .inl (T.2 0, 7, .inl f_was))], [(mo, .inr (11, [.ref m_all, .ref m_has, .int i_size, .int i_next, .int i_where, .int i_token, .int i_number, .int i_word, .int i_wrong, .int i_farCrossing, .ref m_read, .int i_z0, .int i_crossings, .int i_inns, .ref m_posts, .ref m_shut, .ref m_here, .int i_steps, .int i_done, .int i_at, .int i_gone, .ref m_was, .ref m_came, .ref m_seenAt, .ref m_rowWorth, .ref m_farBy, .ref m_used, .int i_everywhere, .int i_again0, .int i_d0, .int i_never, .int i_firstCame, .int i_longRun, .int i_moved, .int i_crowd, .int i_l0, .int i_fitMany, .int i_fitLeast, .int i_fitMost, .ref m_fitPost, .ref m_fitEnd, .ref m_keptPosts, .int i_x0]))], [(m_here, .inl (T.2 0, 7, .inl g_here_57))]] _ _ := G
        have G := G.sub (bs' := [[(mo, .inr (11, [.ref m_all, .ref m_has, .int i_size, .int i_next, .int i_where, .int i_token, .int i_number, .int i_word, .int i_wrong, .int i_farCrossing, .ref m_read, .int i_z0, .int i_crossings, .int i_inns, .ref m_posts, .ref m_shut, .ref m_here, .int i_steps, .int i_done, .int i_at, .int i_gone, .ref m_was, .ref m_came, .ref m_seenAt, .ref m_rowWorth, .ref m_farBy, .ref m_used, .int i_everywhere, .int i_again0, .int i_d0, .int i_never, .int i_firstCame, .int i_longRun, .int i_moved, .int i_crowd, .int i_l0, .int i_fitMany, .int i_fitLeast, .int i_fitMost, .ref m_fitPost, .ref m_fitEnd, .ref m_keptPosts, .int i_x0]))], [(m_all, .inl (T.2 0, 3952, .inl f_all))], [(m_posts, .inl (T.2 0, 7, .inl f_posts))], [(m_shut, .inl (T.2 0, 7, .inl f_shut))], [(m_here, .inl (T.2 0, 7, .inl g_here_57))], [(m_was, .inl (T.2 0, 7, .inl f_was))]]) [4, 0, 1, 2, 5, 3] rfl
        exact z_zret C hr hlocks G (Nat.le_of_ble_eq_true rfl) (Nat.le_of_ble_eq_true rfl) dX12_does_79 (by rcases h_58 f_posts f_shut i_steps i_never with q | q <;> rw [q.1] <;> rfl) ⟨i_at, i_gone, i_steps, i_moved, i_firstCame, i_never, i_longRun, f_posts, f_shut, g_here_57, f_was, rfl, ((h_58 f_posts f_shut i_steps i_never).elim (fun q8 => Or.inl ⟨q8.1, (zDe_k3 (by omega)).trans q8.2⟩) (fun q8 => Or.inr ⟨q8.1, (zDe_k3 (by omega)).trans q8.2.1, rfl, rfl, q8.2.2, rfl, rfl⟩)), hV, hP, h_59, hS5⟩
  · have h_5 : (a_.toInt < 0 ∨ i_crossings.toInt ≤ a_.toInt) := h_5
    refine lv_if_ne (tgt := 10) hx hb dX12_does_5 (by decide) (fun q => absurd (by decide) q) (fun _ => ?_)
    refine lv_iconst (v := 0) hx hb dX12_does_8 (by decide) ?_
    have G := G.sub (bs' := [[(mo, .inr (11, [.ref m_all, .ref m_has, .int i_size, .int i_next, .int i_where, .int i_token, .int i_number, .int i_word, .int i_wrong, .int i_farCrossing, .ref m_read, .int i_z0, .int i_crossings, .int i_inns, .ref m_posts, .ref m_shut, .ref m_here, .int i_steps, .int i_done, .int i_at, .int i_gone, .ref m_was, .ref m_came, .ref m_seenAt, .ref m_rowWorth, .ref m_farBy, .ref m_used, .int i_everywhere, .int i_again0, .int i_d0, .int i_never, .int i_firstCame, .int i_longRun, .int i_moved, .int i_crowd, .int i_l0, .int i_fitMany, .int i_fitLeast, .int i_fitMost, .ref m_fitPost, .ref m_fitEnd, .ref m_keptPosts, .int i_x0]))], [(m_all, .inl (T.2 0, 3952, .inl f_all))], [(m_posts, .inl (T.2 0, 7, .inl f_posts))], [(m_shut, .inl (T.2 0, 7, .inl f_shut))], [(m_here, .inl (T.2 0, 7, .inl f_here))], [(m_was, .inl (T.2 0, 7, .inl f_was))]]) [5, 0, 1, 2, 3, 4] rfl
    exact z_zret C hr hlocks G (Nat.le_of_ble_eq_true rfl) (Nat.le_of_ble_eq_true rfl) dX12_does_9 rfl ⟨i_at, i_gone, i_steps, i_moved, i_firstCame, i_never, i_longRun, f_posts, f_shut, f_here, f_was, rfl, (Or.inr ⟨rfl, zDe_nh (fun q8 => by have q7 := q8.2.1; have q6 := q8.1; omega), rfl, rfl, rfl, rfl, rfl⟩), hV, hP, (fun m hm hx => zHB_m hx (by omega)), hS5⟩
/-- a day's deeds as they can be told -/
def zDyv (f : Nat → Int32) (d : Nat) : Prop := ∀ j : Nat, (j : Int) < (f d).toInt → (0 ≤ (f (d + (1 + 3 * j))).toInt ∧ (f (d + (1 + 3 * j))).toInt ≤ 5) ∧ (4 ≤ (f (d + (1 + 3 * j))).toInt → 0 ≤ (f (d + (3 + 3 * j))).toInt ∧ (f (d + (3 + 3 * j))).toInt ≤ 3)
set_option maxHeartbeats 4000000 in
set_option maxRecDepth 100000 in
/-- c_fm_beginsDay -/
theorem c_fm_beginsDay (l : Launch) (T : zTy) (mo : Nat) (m_all : Nat) (m_has : Nat) (i_size : Int32) (i_next : Int32) (i_where : Int32) (i_token : Int32) (i_number : Int32) (i_word : Int32) (i_wrong : Int32) (i_farCrossing : Int32) (m_read : Nat) (i_z0 : Int32) (i_crossings : Int32) (i_inns : Int32) (m_posts : Nat) (m_shut : Nat) (m_here : Nat) (i_steps : Int32) (i_done : Int32) (i_at : Int32) (i_gone : Int32) (m_was : Nat) (m_came : Nat) (m_seenAt : Nat) (m_rowWorth : Nat) (m_farBy : Nat) (m_used : Nat) (i_everywhere : Int32) (i_again0 : Int32) (i_d0 : Int32) (i_never : Int32) (i_firstCame : Int32) (i_longRun : Int32) (i_moved : Int32) (i_crowd : Int32) (i_l0 : Int32) (i_fitMany : Int32) (i_fitLeast : Int32) (i_fitMost : Int32) (m_fitPost : Nat) (m_fitEnd : Nat) (m_keptPosts : Nat) (i_x0 : Int32) (f_here : Nat → Int32) (hcr : 0 ≤ i_crossings.toInt ∧ i_crossings.toInt ≤ 7) : zMv l T yX12_beginsDay cX12_beginsDay 1 3 0 0 [.ref mo] [[(mo, .inr (11, [.ref m_all, .ref m_has, .int i_size, .int i_next, .int i_where, .int i_token, .int i_number, .int i_word, .int i_wrong, .int i_farCrossing, .ref m_read, .int i_z0, .int i_crossings, .int i_inns, .ref m_posts, .ref m_shut, .ref m_here, .int i_steps, .int i_done, .int i_at, .int i_gone, .ref m_was, .ref m_came, .ref m_seenAt, .ref m_rowWorth, .ref m_farBy, .ref m_used, .int i_everywhere, .int i_again0, .int i_d0, .int i_never, .int i_firstCame, .int i_longRun, .int i_moved, .int i_crowd, .int i_l0, .int i_fitMany, .int i_fitLeast, .int i_fitMost, .ref m_fitPost, .ref m_fitEnd, .ref m_keptPosts, .int i_x0]))], [(m_here, .inl (T.2 0, 7, .inl f_here))]] (fun bs => ∃ (j_never : Int32) (j_firstCame : Int32) (j_longRun : Int32) (j_moved : Int32) (j_crowd : Int32), bs = [[(mo, .inr (11, [.ref m_all, .ref m_has, .int i_size, .int i_next, .int i_where, .int i_token, .int i_number, .int i_word, .int i_wrong, .int i_farCrossing, .ref m_read, .int i_z0, .int i_crossings, .int i_inns, .ref m_posts, .ref m_shut, .ref m_here, .int i_steps, .int i_done, .int i_at, .int i_gone, .ref m_was, .ref m_came, .ref m_seenAt, .ref m_rowWorth, .ref m_farBy, .ref m_used, .int i_everywhere, .int i_again0, .int i_d0, .int j_never, .int j_firstCame, .int j_longRun, .int j_moved, .int j_crowd, .int i_l0, .int i_fitMany, .int i_fitLeast, .int i_fitMost, .ref m_fitPost, .ref m_fitEnd, .ref m_keptPosts, .int i_x0]))], [(m_here, .inl (T.2 0, 7, .inl f_here))]] ∧ j_never = 0 ∧ j_firstCame = -1) := by
  refine zMv_of (own := RX12) (by decide) rfl (Nat.le_of_ble_eq_true rfl) ?_
  intro p e s m args below meth c A ls C hr hlocks hnm hAe G hl
  have hx := C.1
  have hb := C.2.1
  have hl : lv_has ls 1 [(0, .ref mo)] := hl
  refine lv_aload_n hx hb dX12_beginsDay_0 rfl (lv_at hl 0 rfl) ?_
  refine lv_iconst (v := 0) hx hb dX12_beginsDay_1 (by decide) ?_
  refine z_put C G clX12 0 rfl 30 (by decide) m_fl_RX12_320 rfl rfl rfl (Nat.le_of_ble_eq_true rfl) dX12_beginsDay_2 (fun H locs G => ?_)
  have G : zS T A s.heap s [[(mo, .inr (11, [.ref m_all, .ref m_has, .int i_size, .int i_next, .int i_where, .int i_token, .int i_number, .int i_word, .int i_wrong, .int i_farCrossing, .ref m_read, .int i_z0, .int i_crossings, .int i_inns, .ref m_posts, .ref m_shut, .ref m_here, .int i_steps, .int i_done, .int i_at, .int i_gone, .ref m_was, .ref m_came, .ref m_seenAt, .ref m_rowWorth, .ref m_farBy, .ref m_used, .int i_everywhere, .int i_again0, .int i_d0, .int 0, .int i_firstCame, .int i_longRun, .int i_moved, .int i_crowd, .int i_l0, .int i_fitMany, .int i_fitLeast, .int i_fitMost, .ref m_fitPost, .ref m_fitEnd, .ref m_keptPosts, .int i_x0]))], [(m_here, .inl (T.2 0, 7, .inl f_here))]] _ _ := G
  refine lv_aload_n hx hb dX12_beginsDay_5 rfl (lv_at hl 0 rfl) ?_
  refine lv_iconst (v := (-1)) hx hb dX12_beginsDay_6 (by decide) ?_
  refine z_put C G clX12 0 rfl 31 (by decide) m_fl_RX12_314 rfl rfl rfl (Nat.le_of_ble_eq_true rfl) dX12_beginsDay_7 (fun H locs G => ?_)
  have G : zS T A s.heap s [[(mo, .inr (11, [.ref m_all, .ref m_has, .int i_size, .int i_next, .int i_where, .int i_token, .int i_number, .int i_word, .int i_wrong, .int i_farCrossing, .ref m_read, .int i_z0, .int i_crossings, .int i_inns, .ref m_posts, .ref m_shut, .ref m_here, .int i_steps, .int i_done, .int i_at, .int i_gone, .ref m_was, .ref m_came, .ref m_seenAt, .ref m_rowWorth, .ref m_farBy, .ref m_used, .int i_everywhere, .int i_again0, .int i_d0, .int 0, .int (-1), .int i_longRun, .int i_moved, .int i_crowd, .int i_l0, .int i_fitMany, .int i_fitLeast, .int i_fitMost, .ref m_fitPost, .ref m_fitEnd, .ref m_keptPosts, .int i_x0]))], [(m_here, .inl (T.2 0, 7, .inl f_here))]] _ _ := G
  refine lv_aload_n hx hb dX12_beginsDay_10 rfl (lv_at hl 0 rfl) ?_
  refine lv_iconst (v := 0) hx hb dX12_beginsDay_11 (by decide) ?_
  refine z_put C G clX12 0 rfl 32 (by decide) m_fl_RX12_323 rfl rfl rfl (Nat.le_of_ble_eq_true rfl) dX12_beginsDay_12 (fun H locs G => ?_)
  have G : zS T A s.heap s [[(mo, .inr (11, [.ref m_all, .ref m_has, .int i_size, .int i_next, .int i_where, .int i_token, .int i_number, .int i_word, .int i_wrong, .int i_farCrossing, .ref m_read, .int i_z0, .int i_crossings, .int i_inns, .ref m_posts, .ref m_shut, .ref m_here, .int i_steps, .int i_done, .int i_at, .int i_gone, .ref m_was, .ref m_came, .ref m_seenAt, .ref m_rowWorth, .ref m_farBy, .ref m_used, .int i_everywhere, .int i_again0, .int i_d0, .int 0, .int (-1), .int 0, .int i_moved, .int i_crowd, .int i_l0, .int i_fitMany, .int i_fitLeast, .int i_fitMost, .ref m_fitPost, .ref m_fitEnd, .ref m_keptPosts, .int i_x0]))], [(m_here, .inl (T.2 0, 7, .inl f_here))]] _ _ := G
  refine lv_aload_n hx hb dX12_beginsDay_15 rfl (lv_at hl 0 rfl) ?_
  refine lv_iconst (v := 0) hx hb dX12_beginsDay_16 (by decide) ?_
  refine z_put C G clX12 0 rfl 33 (by decide) m_fl_RX12_311 rfl rfl rfl (Nat.le_of_ble_eq_true rfl) dX12_beginsDay_17 (fun H locs G => ?_)
  have G : zS T A s.heap s [[(mo, .inr (11, [.ref m_all, .ref m_has, .int i_size, .int i_next, .int i_where, .int i_token, .int i_number, .int i_word, .int i_wrong, .int i_farCrossing, .ref m_read, .int i_z0, .int i_crossings, .int i_inns, .ref m_posts, .ref m_shut, .ref m_here, .int i_steps, .int i_done, .int i_at, .int i_gone, .ref m_was, .ref m_came, .ref m_seenAt, .ref m_rowWorth, .ref m_farBy, .ref m_used, .int i_everywhere, .int i_again0, .int i_d0, .int 0, .int (-1), .int 0, .int 0, .int i_crowd, .int i_l0, .int i_fitMany, .int i_fitLeast, .int i_fitMost, .ref m_fitPost, .ref m_fitEnd, .ref m_keptPosts, .int i_x0]))], [(m_here, .inl (T.2 0, 7, .inl f_here))]] _ _ := G
  refine lv_aload_n hx hb dX12_beginsDay_20 rfl (lv_at hl 0 rfl) ?_
  refine lv_iconst (v := 0) hx hb dX12_beginsDay_21 (by decide) ?_
  refine z_put C G clX12 0 rfl 34 (by decide) m_fl_RX12_308 rfl rfl rfl (Nat.le_of_ble_eq_true rfl) dX12_beginsDay_22 (fun H locs G => ?_)
  have G : zS T A s.heap s [[(mo, .inr (11, [.ref m_all, .ref m_has, .int i_size, .int i_next, .int i_where, .int i_token, .int i_number, .int i_word, .int i_wrong, .int i_farCrossing, .ref m_read, .int i_z0, .int i_crossings, .int i_inns, .ref m_posts, .ref m_shut, .ref m_here, .int i_steps, .int i_done, .int i_at, .int i_gone, .ref m_was, .ref m_came, .ref m_seenAt, .ref m_rowWorth, .ref m_farBy, .ref m_used, .int i_everywhere, .int i_again0, .int i_d0, .int 0, .int (-1), .int 0, .int 0, .int 0, .int i_l0, .int i_fitMany, .int i_fitLeast, .int i_fitMost, .ref m_fitPost, .ref m_fitEnd, .ref m_keptPosts, .int i_x0]))], [(m_here, .inl (T.2 0, 7, .inl f_here))]] _ _ := G
  refine lv_aload_n hx hb dX12_beginsDay_25 rfl (lv_at hl 0 rfl) ?_
  refine z_Vv (bc := [[(mo, .inr (11, [.ref m_all, .ref m_has, .int i_size, .int i_next, .int i_where, .int i_token, .int i_number, .int i_word, .int i_wrong, .int i_farCrossing, .ref m_read, .int i_z0, .int i_crossings, .int i_inns, .ref m_posts, .ref m_shut, .ref m_here, .int i_steps, .int i_done, .int i_at, .int i_gone, .ref m_was, .ref m_came, .ref m_seenAt, .ref m_rowWorth, .ref m_farBy, .ref m_used, .int i_everywhere, .int i_again0, .int i_d0, .int 0, .int (-1), .int 0, .int 0, .int 0, .int i_l0, .int i_fitMany, .int i_fitLeast, .int i_fitMost, .ref m_fitPost, .ref m_fitEnd, .ref m_keptPosts, .int i_x0]))], [(m_here, .inl (T.2 0, 7, .inl f_here))]]) (br := []) (As := []) (rest := []) C G (c_m_looks l T mo m_all m_has i_size i_next i_where i_token i_number i_word i_wrong i_farCrossing m_read i_z0 i_crossings i_inns m_posts m_shut m_here i_steps i_done i_at i_gone m_was m_came m_seenAt m_rowWorth m_farBy m_used i_everywhere i_again0 i_d0 0 (-1) 0 0 0 i_l0 i_fitMany i_fitLeast i_fitMost m_fitPost m_fitEnd m_keptPosts i_x0 f_here (by first | with_reducible assumption | with_reducible rfl | omega | assumption | rfl)) (kV_RX12_339 C.2.2.2.2 (Nat.le_of_ble_eq_true rfl) (Nat.le_of_ble_eq_true rfl)) [0, 1] [] rfl rfl (ci := 11) (qc := (RX12, TX12, 43)) rfl rfl (List.mem_flatten.mpr ⟨_, List.mem_of_getElem? (i := 0) rfl, List.mem_cons_self⟩) rfl rfl hl.1 dX12_beginsDay_26 (Nat.le_of_ble_eq_true rfl) (Nat.le_of_ble_eq_true rfl) (fun b1 H locs hw G => ?_)
  obtain ⟨j_crowd_1, rfl⟩ := hw
  have G : zS T A s.heap s [[(mo, .inr (11, [.ref m_all, .ref m_has, .int i_size, .int i_next, .int i_where, .int i_token, .int i_number, .int i_word, .int i_wrong, .int i_farCrossing, .ref m_read, .int i_z0, .int i_crossings, .int i_inns, .ref m_posts, .ref m_shut, .ref m_here, .int i_steps, .int i_done, .int i_at, .int i_gone, .ref m_was, .ref m_came, .ref m_seenAt, .ref m_rowWorth, .ref m_farBy, .ref m_used, .int i_everywhere, .int i_again0, .int i_d0, .int 0, .int (-1), .int 0, .int 0, .int j_crowd_1, .int i_l0, .int i_fitMany, .int i_fitLeast, .int i_fitMost, .ref m_fitPost, .ref m_fitEnd, .ref m_keptPosts, .int i_x0]))], [(m_here, .inl (T.2 0, 7, .inl f_here))]] _ _ := G
  exact z_vret C hr hlocks G (Nat.le_of_ble_eq_true rfl) (Nat.le_of_ble_eq_true rfl) dX12_beginsDay_29 ⟨0, (-1), 0, 0, j_crowd_1, rfl, rfl, rfl⟩
set_option maxHeartbeats 4000000 in
set_option maxRecDepth 100000 in
/-- c_fm_runs -/
theorem c_fm_runs (l : Launch) (T : zTy) (mo : Nat) (m_all : Nat) (m_has : Nat) (i_size : Int32) (i_next : Int32) (i_where : Int32) (i_token : Int32) (i_number : Int32) (i_word : Int32) (i_wrong : Int32) (i_farCrossing : Int32) (m_read : Nat) (i_z0 : Int32) (i_crossings : Int32) (i_inns : Int32) (m_posts : Nat) (m_shut : Nat) (m_here : Nat) (i_steps : Int32) (i_done : Int32) (i_at : Int32) (i_gone : Int32) (m_was : Nat) (m_came : Nat) (m_seenAt : Nat) (m_rowWorth : Nat) (m_farBy : Nat) (m_used : Nat) (i_everywhere : Int32) (i_again0 : Int32) (i_d0 : Int32) (i_never : Int32) (i_firstCame : Int32) (i_longRun : Int32) (i_moved : Int32) (i_crowd : Int32) (i_l0 : Int32) (i_fitMany : Int32) (i_fitLeast : Int32) (i_fitMost : Int32) (m_fitPost : Nat) (m_fitEnd : Nat) (m_keptPosts : Nat) (i_x0 : Int32) (f_all : Nat → Int32) (f_posts : Nat → Int32) (f_shut : Nat → Int32) (f_here : Nat → Int32) (f_was : Nat → Int32) (n_ : Int32) (hL : zML f_all i_z0 i_crossings) (hP : zMP f_posts) (hV : zMV (zRo f_all i_z0) f_posts) (hD : zMD f_all i_d0) (hdn0 : i_done = 0) (hH9 : zHB 9 f_here) (hS0 : zS15 f_shut) (hDv : zDyv f_all i_d0.toNatClampNeg) : zMv l T yX12_runs cX12_runs 2 7 0 0 [.ref mo, .int n_] [[(mo, .inr (11, [.ref m_all, .ref m_has, .int i_size, .int i_next, .int i_where, .int i_token, .int i_number, .int i_word, .int i_wrong, .int i_farCrossing, .ref m_read, .int i_z0, .int i_crossings, .int i_inns, .ref m_posts, .ref m_shut, .ref m_here, .int i_steps, .int i_done, .int i_at, .int i_gone, .ref m_was, .ref m_came, .ref m_seenAt, .ref m_rowWorth, .ref m_farBy, .ref m_used, .int i_everywhere, .int i_again0, .int i_d0, .int i_never, .int i_firstCame, .int i_longRun, .int i_moved, .int i_crowd, .int i_l0, .int i_fitMany, .int i_fitLeast, .int i_fitMost, .ref m_fitPost, .ref m_fitEnd, .ref m_keptPosts, .int i_x0]))], [(m_all, .inl (T.2 0, 3952, .inl f_all))], [(m_posts, .inl (T.2 0, 7, .inl f_posts))], [(m_shut, .inl (T.2 0, 7, .inl f_shut))], [(m_here, .inl (T.2 0, 7, .inl f_here))], [(m_was, .inl (T.2 0, 7, .inl f_was))]] (fun bs => ∃ (j_at : Int32) (j_gone : Int32) (j_steps : Int32) (j_moved : Int32) (j_firstCame : Int32) (j_never : Int32) (j_longRun : Int32) (j_crowd : Int32) (j_done : Int32) (g_posts : Nat → Int32) (g_shut : Nat → Int32) (g_here : Nat → Int32) (g_was : Nat → Int32), bs = [[(mo, .inr (11, [.ref m_all, .ref m_has, .int i_size, .int i_next, .int i_where, .int i_token, .int i_number, .int i_word, .int i_wrong, .int i_farCrossing, .ref m_read, .int i_z0, .int i_crossings, .int i_inns, .ref m_posts, .ref m_shut, .ref m_here, .int j_steps, .int j_done, .int j_at, .int j_gone, .ref m_was, .ref m_came, .ref m_seenAt, .ref m_rowWorth, .ref m_farBy, .ref m_used, .int i_everywhere, .int i_again0, .int i_d0, .int j_never, .int j_firstCame, .int j_longRun, .int j_moved, .int j_crowd, .int i_l0, .int i_fitMany, .int i_fitLeast, .int i_fitMost, .ref m_fitPost, .ref m_fitEnd, .ref m_keptPosts, .int i_x0]))], [(m_all, .inl (T.2 0, 3952, .inl f_all))], [(m_posts, .inl (T.2 0, 7, .inl g_posts))], [(m_shut, .inl (T.2 0, 7, .inl g_shut))], [(m_here, .inl (T.2 0, 7, .inl g_here))], [(m_was, .inl (T.2 0, 7, .inl g_was))]] ∧ 0 ≤ j_done.toInt ∧ j_done.toInt ≤ 40 ∧ j_done = nI (zDayN (fun k D => zDe i_crossings i_inns (zWo f_all i_z0 i_inns) (zRo f_all i_z0) (zLo f_all i_z0) (f_all (i_d0.toNatClampNeg + (1 + 3 * k))) (f_all (i_d0.toNatClampNeg + (2 + 3 * k))) (f_all (i_d0.toNatClampNeg + (3 + 3 * k))) D) (min (min n_.toInt (f_all i_d0.toNatClampNeg).toInt) 40).toNat 0 (f_posts, f_shut, f_here, i_steps, 0)).1 ∧ (g_posts, g_shut, g_here, j_steps, j_never) = (zDayN (fun k D => zDe i_crossings i_inns (zWo f_all i_z0 i_inns) (zRo f_all i_z0) (zLo f_all i_z0) (f_all (i_d0.toNatClampNeg + (1 + 3 * k))) (f_all (i_d0.toNatClampNeg + (2 + 3 * k))) (f_all (i_d0.toNatClampNeg + (3 + 3 * k))) D) (min (min n_.toInt (f_all i_d0.toNatClampNeg).toInt) 40).toNat 0 (f_posts, f_shut, f_here, i_steps, 0)).2 ∧ zMP g_posts) := by
  refine zMv_of (own := RX12) (by decide) rfl (Nat.le_of_ble_eq_true rfl) ?_
  intro p e s m args below meth c A ls C hr hlocks hnm hAe G hl
  have hx := C.1
  have hb := C.2.1
  have hl : lv_has ls 2 [(0, .ref mo), (1, .int n_)] := hl
  have hz := hL.1
  have hcr := hL.cr
  have hDa := hD.1
  have hDb := hD.2
  have hcd := z_clI (x := i_d0) (by omega)
  have hdn1 : i_done.toInt = 0 := by rw [hdn0]; rfl
  refine lv_aload_n hx hb dX12_runs_0 rfl (lv_at hl 0 rfl) ?_
  refine z_Vv (bc := [[(mo, .inr (11, [.ref m_all, .ref m_has, .int i_size, .int i_next, .int i_where, .int i_token, .int i_number, .int i_word, .int i_wrong, .int i_farCrossing, .ref m_read, .int i_z0, .int i_crossings, .int i_inns, .ref m_posts, .ref m_shut, .ref m_here, .int i_steps, .int i_done, .int i_at, .int i_gone, .ref m_was, .ref m_came, .ref m_seenAt, .ref m_rowWorth, .ref m_farBy, .ref m_used, .int i_everywhere, .int i_again0, .int i_d0, .int i_never, .int i_firstCame, .int i_longRun, .int i_moved, .int i_crowd, .int i_l0, .int i_fitMany, .int i_fitLeast, .int i_fitMost, .ref m_fitPost, .ref m_fitEnd, .ref m_keptPosts, .int i_x0]))], [(m_here, .inl (T.2 0, 7, .inl f_here))]]) (br := [[(m_all, .inl (T.2 0, 3952, .inl f_all))], [(m_posts, .inl (T.2 0, 7, .inl f_posts))], [(m_shut, .inl (T.2 0, 7, .inl f_shut))], [(m_was, .inl (T.2 0, 7, .inl f_was))]]) (As := []) (rest := []) C G (c_fm_beginsDay l T mo m_all m_has i_size i_next i_where i_token i_number i_word i_wrong i_farCrossing m_read i_z0 i_crossings i_inns m_posts m_shut m_here i_steps i_done i_at i_gone m_was m_came m_seenAt m_rowWorth m_farBy m_used i_everywhere i_again0 i_d0 i_never i_firstCame i_longRun i_moved i_crowd i_l0 i_fitMany i_fitLeast i_fitMost m_fitPost m_fitEnd m_keptPosts i_x0 f_here (by first | with_reducible assumption | with_reducible rfl | omega | assumption | rfl)) (kV_RX12_342 C.2.2.2.2 (Nat.le_of_ble_eq_true rfl) (Nat.le_of_ble_eq_true rfl)) [0, 4] [1, 2, 3, 5] rfl rfl (ci := 11) (qc := (RX12, TX12, 43)) rfl rfl (List.mem_flatten.mpr ⟨_, List.mem_of_getElem? (i := 0) rfl, List.mem_cons_self⟩) rfl rfl hl.1 dX12_runs_1 (Nat.le_of_ble_eq_true rfl) (Nat.le_of_ble_eq_true rfl) (fun b1 H locs hw G => ?_)
  obtain ⟨j_never_1, j_firstCame_2, j_longRun_3, j_moved_4, j_crowd_5, rfl, h_6, h_7⟩ := hw
  have G : zS T A s.heap s [[(m_all, .inl (T.2 0, 3952, .inl f_all))], [(m_posts, .inl (T.2 0, 7, .inl f_posts))], [(m_shut, .inl (T.2 0, 7, .inl f_shut))], [(m_was, .inl (T.2 0, 7, .inl f_was))], [(mo, .inr (11, [.ref m_all, .ref m_has, .int i_size, .int i_next, .int i_where, .int i_token, .int i_number, .int i_word, .int i_wrong, .int i_farCrossing, .ref m_read, .int i_z0, .int i_crossings, .int i_inns, .ref m_posts, .ref m_shut, .ref m_here, .int i_steps, .int i_done, .int i_at, .int i_gone, .ref m_was, .ref m_came, .ref m_seenAt, .ref m_rowWorth, .ref m_farBy, .ref m_used, .int i_everywhere, .int i_again0, .int i_d0, .int j_never_1, .int j_firstCame_2, .int j_longRun_3, .int j_moved_4, .int j_crowd_5, .int i_l0, .int i_fitMany, .int i_fitLeast, .int i_fitMost, .ref m_fitPost, .ref m_fitEnd, .ref m_keptPosts, .int i_x0]))], [(m_here, .inl (T.2 0, 7, .inl f_here))]] _ _ := G
  refine z_loop (T := T) (α := Int32 × Int32 × Int32 × Int32 × Int32 × Int32 × Int32 × Int32 × Int32 × (Nat → Int32) × (Nat → Int32) × (Nat → Int32) × (Nat → Int32)) 4 (fun (xat, xgone, xsteps, xmoved, xfirstCame, xnever, xlongRun, xcrowd, xdone, xposts, xshut, xhere, xwas) => [[(m_all, .inl (T.2 0, 3952, .inl f_all))], [(m_posts, .inl (T.2 0, 7, .inl xposts))], [(m_shut, .inl (T.2 0, 7, .inl xshut))], [(m_was, .inl (T.2 0, 7, .inl xwas))], [(mo, .inr (11, [.ref m_all, .ref m_has, .int i_size, .int i_next, .int i_where, .int i_token, .int i_number, .int i_word, .int i_wrong, .int i_farCrossing, .ref m_read, .int i_z0, .int i_crossings, .int i_inns, .ref m_posts, .ref m_shut, .ref m_here, .int xsteps, .int xdone, .int xat, .int xgone, .ref m_was, .ref m_came, .ref m_seenAt, .ref m_rowWorth, .ref m_farBy, .ref m_used, .int i_everywhere, .int i_again0, .int i_d0, .int xnever, .int xfirstCame, .int xlongRun, .int xmoved, .int xcrowd, .int i_l0, .int i_fitMany, .int i_fitLeast, .int i_fitMost, .ref m_fitPost, .ref m_fitEnd, .ref m_keptPosts, .int i_x0]))], [(m_here, .inl (T.2 0, 7, .inl xhere))]]) (fun (xat, xgone, xsteps, xmoved, xfirstCame, xnever, xlongRun, xcrowd, xdone, xposts, xshut, xhere, xwas) => [(0, .ref mo), (1, .int n_)]) (fun (xat, xgone, xsteps, xmoved, xfirstCame, xnever, xlongRun, xcrowd, xdone, xposts, xshut, xhere, xwas) => zMP xposts ∧ 0 ≤ xdone.toInt ∧ xdone.toInt ≤ 40 ∧ zMV (zRo f_all i_z0) xposts ∧ zS15 xshut ∧ zHB (9 + xdone.toInt) xhere ∧ zDayN (fun k D => zDe i_crossings i_inns (zWo f_all i_z0 i_inns) (zRo f_all i_z0) (zLo f_all i_z0) (f_all (i_d0.toNatClampNeg + (1 + 3 * k))) (f_all (i_d0.toNatClampNeg + (2 + 3 * k))) (f_all (i_d0.toNatClampNeg + (3 + 3 * k))) D) (min (min n_.toInt (f_all i_d0.toNatClampNeg).toInt) 40).toNat 0 (f_posts, f_shut, f_here, i_steps, 0) = zDayN (fun k D => zDe i_crossings i_inns (zWo f_all i_z0 i_inns) (zRo f_all i_z0) (zLo f_all i_z0) (f_all (i_d0.toNatClampNeg + (1 + 3 * k))) (f_all (i_d0.toNatClampNeg + (2 + 3 * k))) (f_all (i_d0.toNatClampNeg + (3 + 3 * k))) D) ((min (min n_.toInt (f_all i_d0.toNatClampNeg).toInt) 40).toNat - xdone.toInt.toNat) xdone.toInt.toNat (xposts, xshut, xhere, xsteps, xnever)) (fun (xat, xgone, xsteps, xmoved, xfirstCame, xnever, xlongRun, xcrowd, xdone, xposts, xshut, xhere, xwas) => ((f_all i_d0.toNatClampNeg).toInt - xdone.toInt).toNat) ?_ (i_at, i_gone, i_steps, j_moved_4, j_firstCame_2, j_never_1, j_longRun_3, j_crowd_5, i_done, f_posts, f_shut, f_here, f_was) (show zMP f_posts ∧ 0 ≤ i_done.toInt ∧ i_done.toInt ≤ 40 ∧ zMV (zRo f_all i_z0) f_posts ∧ zS15 f_shut ∧ zHB (9 + i_done.toInt) f_here ∧ zDayN (fun k D => zDe i_crossings i_inns (zWo f_all i_z0 i_inns) (zRo f_all i_z0) (zLo f_all i_z0) (f_all (i_d0.toNatClampNeg + (1 + 3 * k))) (f_all (i_d0.toNatClampNeg + (2 + 3 * k))) (f_all (i_d0.toNatClampNeg + (3 + 3 * k))) D) (min (min n_.toInt (f_all i_d0.toNatClampNeg).toInt) 40).toNat 0 (f_posts, f_shut, f_here, i_steps, 0) = zDayN (fun k D => zDe i_crossings i_inns (zWo f_all i_z0 i_inns) (zRo f_all i_z0) (zLo f_all i_z0) (f_all (i_d0.toNatClampNeg + (1 + 3 * k))) (f_all (i_d0.toNatClampNeg + (2 + 3 * k))) (f_all (i_d0.toNatClampNeg + (3 + 3 * k))) D) ((min (min n_.toInt (f_all i_d0.toNatClampNeg).toInt) 40).toNat - i_done.toInt.toNat) i_done.toInt.toNat (f_posts, f_shut, f_here, i_steps, j_never_1) from ⟨hP, by omega, by omega, hV, hS0, (zHB_m hH9 (by omega)), (by rw [h_6, hdn0]; rfl)⟩) G (lv_sub hl [0, 1] rfl)
  rintro ⟨xat, xgone, xsteps, xmoved, xfirstCame, xnever, xlongRun, xcrowd, xdone, xposts, xshut, xhere, xwas⟩ ⟨hQ, hdo0, hdo9, hVx, hSx, hHx, hR⟩ ih_4 H locs ls G hl
  replace hQ : zMP xposts := hQ
  replace hdo0 : 0 ≤ xdone.toInt := hdo0
  replace hdo9 : xdone.toInt ≤ 40 := hdo9
  replace hVx : zMV (zRo f_all i_z0) xposts := hVx
  replace hSx : zS15 xshut := hSx
  replace hHx : zHB (9 + xdone.toInt) xhere := hHx
  replace hR : zDayN (fun k D => zDe i_crossings i_inns (zWo f_all i_z0 i_inns) (zRo f_all i_z0) (zLo f_all i_z0) (f_all (i_d0.toNatClampNeg + (1 + 3 * k))) (f_all (i_d0.toNatClampNeg + (2 + 3 * k))) (f_all (i_d0.toNatClampNeg + (3 + 3 * k))) D) (min (min n_.toInt (f_all i_d0.toNatClampNeg).toInt) 40).toNat 0 (f_posts, f_shut, f_here, i_steps, 0) = zDayN (fun k D => zDe i_crossings i_inns (zWo f_all i_z0 i_inns) (zRo f_all i_z0) (zLo f_all i_z0) (f_all (i_d0.toNatClampNeg + (1 + 3 * k))) (f_all (i_d0.toNatClampNeg + (2 + 3 * k))) (f_all (i_d0.toNatClampNeg + (3 + 3 * k))) D) ((min (min n_.toInt (f_all i_d0.toNatClampNeg).toInt) 40).toNat - xdone.toInt.toNat) xdone.toInt.toNat (xposts, xshut, xhere, xsteps, xnever) := hR
  replace G : zS T A s.heap s [[(m_all, .inl (T.2 0, 3952, .inl f_all))], [(m_posts, .inl (T.2 0, 7, .inl xposts))], [(m_shut, .inl (T.2 0, 7, .inl xshut))], [(m_was, .inl (T.2 0, 7, .inl xwas))], [(mo, .inr (11, [.ref m_all, .ref m_has, .int i_size, .int i_next, .int i_where, .int i_token, .int i_number, .int i_word, .int i_wrong, .int i_farCrossing, .ref m_read, .int i_z0, .int i_crossings, .int i_inns, .ref m_posts, .ref m_shut, .ref m_here, .int xsteps, .int xdone, .int xat, .int xgone, .ref m_was, .ref m_came, .ref m_seenAt, .ref m_rowWorth, .ref m_farBy, .ref m_used, .int i_everywhere, .int i_again0, .int i_d0, .int xnever, .int xfirstCame, .int xlongRun, .int xmoved, .int xcrowd, .int i_l0, .int i_fitMany, .int i_fitLeast, .int i_fitMost, .ref m_fitPost, .ref m_fitEnd, .ref m_keptPosts, .int i_x0]))], [(m_here, .inl (T.2 0, 7, .inl xhere))]] _ _ := G
  replace hl : lv_has ls 2 [(0, .ref mo), (1, .int n_)] := hl
  refine lv_aload_n hx hb dX12_runs_4 rfl (lv_at hl 0 rfl) ?_
  refine z_get C G clX12 4 rfl 18 (by decide) m_fl_RX12_199 rfl dX12_runs_5 ?_
  refine lv_iload_n hx hb dX12_runs_8 rfl (lv_at hl 1 rfl) ?_
  refine lv_icmp_ge (tgt := 106) hx hb dX12_runs_9 (by decide) (fun c_9 => ?_) (fun c_9 => ?_)
  · have c_9n : n_.toInt ≤ xdone.toInt := (fa_le _ _).mp c_9
    have hE : zDayN (fun k D => zDe i_crossings i_inns (zWo f_all i_z0 i_inns) (zRo f_all i_z0) (zLo f_all i_z0) (f_all (i_d0.toNatClampNeg + (1 + 3 * k))) (f_all (i_d0.toNatClampNeg + (2 + 3 * k))) (f_all (i_d0.toNatClampNeg + (3 + 3 * k))) D) (min (min n_.toInt (f_all i_d0.toNatClampNeg).toInt) 40).toNat 0 (f_posts, f_shut, f_here, i_steps, 0) = (xdone.toInt.toNat, (xposts, xshut, xhere, xsteps, xnever)) := hR.trans (by rw [show (min (min n_.toInt (f_all i_d0.toNatClampNeg).toInt) 40).toNat - xdone.toInt.toNat = 0 by omega]; rfl)
    have G := G.sub (bs' := [[(mo, .inr (11, [.ref m_all, .ref m_has, .int i_size, .int i_next, .int i_where, .int i_token, .int i_number, .int i_word, .int i_wrong, .int i_farCrossing, .ref m_read, .int i_z0, .int i_crossings, .int i_inns, .ref m_posts, .ref m_shut, .ref m_here, .int xsteps, .int xdone, .int xat, .int xgone, .ref m_was, .ref m_came, .ref m_seenAt, .ref m_rowWorth, .ref m_farBy, .ref m_used, .int i_everywhere, .int i_again0, .int i_d0, .int xnever, .int xfirstCame, .int xlongRun, .int xmoved, .int xcrowd, .int i_l0, .int i_fitMany, .int i_fitLeast, .int i_fitMost, .ref m_fitPost, .ref m_fitEnd, .ref m_keptPosts, .int i_x0]))], [(m_all, .inl (T.2 0, 3952, .inl f_all))], [(m_posts, .inl (T.2 0, 7, .inl xposts))], [(m_shut, .inl (T.2 0, 7, .inl xshut))], [(m_here, .inl (T.2 0, 7, .inl xhere))], [(m_was, .inl (T.2 0, 7, .inl xwas))]]) [4, 0, 1, 2, 5, 3] rfl
    exact z_vret C hr hlocks G (Nat.le_of_ble_eq_true rfl) (Nat.le_of_ble_eq_true rfl) dX12_runs_106 ⟨xat, xgone, xsteps, xmoved, xfirstCame, xnever, xlongRun, xcrowd, xdone, xposts, xshut, xhere, xwas, rfl, (by first | with_reducible assumption | omega | trivial | assumption), (by first | with_reducible assumption | omega | trivial | assumption), (by rw [hE]; exact z_nI (by omega) (by omega)), (by rw [hE]), hQ⟩
  · have c_9n : ¬ n_.toInt ≤ xdone.toInt := fun q => c_9 ((fa_le _ _).mpr q)
    refine lv_aload_n hx hb dX12_runs_12 rfl (lv_at hl 0 rfl) ?_
    refine z_get C G clX12 4 rfl 18 (by decide) m_fl_RX12_199 rfl dX12_runs_13 ?_
    refine lv_aload_n hx hb dX12_runs_16 rfl (lv_at hl 0 rfl) ?_
    refine z_get C G clX12 4 rfl 0 (by decide) m_fl_RX12_7 rfl dX12_runs_17 ?_
    refine lv_aload_n hx hb dX12_runs_20 rfl (lv_at hl 0 rfl) ?_
    refine z_get C G clX12 4 rfl 29 (by decide) m_fl_RX12_302 rfl dX12_runs_21 ?_
    refine z_ild C G 0 rfl (vp_in_iff.mpr ⟨by omega, by omega⟩) dX12_runs_24 ?_
    refine lv_topi (fun v_10 ev_10 => ?_)
    subst ev_10
    refine lv_icmp_ge (tgt := 106) hx hb dX12_runs_25 (by decide) (fun c_11 => ?_) (fun c_11 => ?_)
    · have c_11n : (f_all i_d0.toNatClampNeg).toInt ≤ xdone.toInt := (fa_le _ _).mp c_11
      have hE : zDayN (fun k D => zDe i_crossings i_inns (zWo f_all i_z0 i_inns) (zRo f_all i_z0) (zLo f_all i_z0) (f_all (i_d0.toNatClampNeg + (1 + 3 * k))) (f_all (i_d0.toNatClampNeg + (2 + 3 * k))) (f_all (i_d0.toNatClampNeg + (3 + 3 * k))) D) (min (min n_.toInt (f_all i_d0.toNatClampNeg).toInt) 40).toNat 0 (f_posts, f_shut, f_here, i_steps, 0) = (xdone.toInt.toNat, (xposts, xshut, xhere, xsteps, xnever)) := hR.trans (by rw [show (min (min n_.toInt (f_all i_d0.toNatClampNeg).toInt) 40).toNat - xdone.toInt.toNat = 0 by omega]; rfl)
      have G := G.sub (bs' := [[(mo, .inr (11, [.ref m_all, .ref m_has, .int i_size, .int i_next, .int i_where, .int i_token, .int i_number, .int i_word, .int i_wrong, .int i_farCrossing, .ref m_read, .int i_z0, .int i_crossings, .int i_inns, .ref m_posts, .ref m_shut, .ref m_here, .int xsteps, .int xdone, .int xat, .int xgone, .ref m_was, .ref m_came, .ref m_seenAt, .ref m_rowWorth, .ref m_farBy, .ref m_used, .int i_everywhere, .int i_again0, .int i_d0, .int xnever, .int xfirstCame, .int xlongRun, .int xmoved, .int xcrowd, .int i_l0, .int i_fitMany, .int i_fitLeast, .int i_fitMost, .ref m_fitPost, .ref m_fitEnd, .ref m_keptPosts, .int i_x0]))], [(m_all, .inl (T.2 0, 3952, .inl f_all))], [(m_posts, .inl (T.2 0, 7, .inl xposts))], [(m_shut, .inl (T.2 0, 7, .inl xshut))], [(m_here, .inl (T.2 0, 7, .inl xhere))], [(m_was, .inl (T.2 0, 7, .inl xwas))]]) [4, 0, 1, 2, 5, 3] rfl
      exact z_vret C hr hlocks G (Nat.le_of_ble_eq_true rfl) (Nat.le_of_ble_eq_true rfl) dX12_runs_106 ⟨xat, xgone, xsteps, xmoved, xfirstCame, xnever, xlongRun, xcrowd, xdone, xposts, xshut, xhere, xwas, rfl, (by first | with_reducible assumption | omega | trivial | assumption), (by first | with_reducible assumption | omega | trivial | assumption), (by rw [hE]; exact z_nI (by omega) (by omega)), (by rw [hE]), hQ⟩
    · have c_11n : ¬ (f_all i_d0.toNatClampNeg).toInt ≤ xdone.toInt := fun q => c_11 ((fa_le _ _).mpr q)
      refine lv_aload_n hx hb dX12_runs_28 rfl (lv_at hl 0 rfl) ?_
      refine lv_aload_n hx hb dX12_runs_29 rfl (lv_at hl 0 rfl) ?_
      refine z_get C G clX12 4 rfl 0 (by decide) m_fl_RX12_7 rfl dX12_runs_30 ?_
      refine lv_aload_n hx hb dX12_runs_33 rfl (lv_at hl 0 rfl) ?_
      refine z_get C G clX12 4 rfl 29 (by decide) m_fl_RX12_302 rfl dX12_runs_34 ?_
      refine lv_iconst (v := 1) hx hb dX12_runs_37 (by decide) ?_
      refine lv_iadd hx hb dX12_runs_38 ?_
      refine lv_topi (fun y_12 ey_12 => ?_)
      have ey_12i : y_12.toInt = i_d0.toInt + (1 : Int) := by rw [ey_12]; exact z_iaddI (x := i_d0) (y := (1 : Int32)) (by show -2147483648 ≤ i_d0.toInt + (1 : Int); omega) (by show i_d0.toInt + (1 : Int) < 2147483648; omega)
      refine lv_iconst (v := 3) hx hb dX12_runs_39 (by decide) ?_
      refine lv_aload_n hx hb dX12_runs_40 rfl (lv_at hl 0 rfl) ?_
      refine z_get C G clX12 4 rfl 18 (by decide) m_fl_RX12_199 rfl dX12_runs_41 ?_
      refine lv_imul hx hb dX12_runs_44 ?_
      refine lv_topi (fun y_13 ey_13 => ?_)
      have ey_13i : y_13.toInt = (3 : Int) * xdone.toInt := by rw [ey_13]; exact z_imulI (x := (3 : Int32)) (y := xdone) (by show -2147483648 ≤ (3 : Int) * xdone.toInt; omega) (by show (3 : Int) * xdone.toInt < 2147483648; omega)
      refine lv_iadd hx hb dX12_runs_45 ?_
      refine lv_topi (fun y_14 ey_14 => ?_)
      have ey_14i : y_14.toInt = y_12.toInt + y_13.toInt := by rw [ey_14]; exact z_iaddI (x := y_12) (y := y_13) (by show -2147483648 ≤ y_12.toInt + y_13.toInt; omega) (by show y_12.toInt + y_13.toInt < 2147483648; omega)
      refine z_ild C G 0 rfl (vp_in_iff.mpr ⟨by omega, by omega⟩) dX12_runs_46 ?_
      refine lv_topi (fun v_15 ev_15 => ?_)
      subst ev_15
      refine lv_aload_n hx hb dX12_runs_47 rfl (lv_at hl 0 rfl) ?_
      refine z_get C G clX12 4 rfl 0 (by decide) m_fl_RX12_7 rfl dX12_runs_48 ?_
      refine lv_aload_n hx hb dX12_runs_51 rfl (lv_at hl 0 rfl) ?_
      refine z_get C G clX12 4 rfl 29 (by decide) m_fl_RX12_302 rfl dX12_runs_52 ?_
      refine lv_iconst (v := 2) hx hb dX12_runs_55 (by decide) ?_
      refine lv_iadd hx hb dX12_runs_56 ?_
      refine lv_topi (fun y_16 ey_16 => ?_)
      have ey_16i : y_16.toInt = i_d0.toInt + (2 : Int) := by rw [ey_16]; exact z_iaddI (x := i_d0) (y := (2 : Int32)) (by show -2147483648 ≤ i_d0.toInt + (2 : Int); omega) (by show i_d0.toInt + (2 : Int) < 2147483648; omega)
      refine lv_iconst (v := 3) hx hb dX12_runs_57 (by decide) ?_
      refine lv_aload_n hx hb dX12_runs_58 rfl (lv_at hl 0 rfl) ?_
      refine z_get C G clX12 4 rfl 18 (by decide) m_fl_RX12_199 rfl dX12_runs_59 ?_
      refine lv_imul hx hb dX12_runs_62 ?_
      refine lv_topi (fun y_17 ey_17 => ?_)
      have ey_17i : y_17.toInt = (3 : Int) * xdone.toInt := by rw [ey_17]; exact z_imulI (x := (3 : Int32)) (y := xdone) (by show -2147483648 ≤ (3 : Int) * xdone.toInt; omega) (by show (3 : Int) * xdone.toInt < 2147483648; omega)
      refine lv_iadd hx hb dX12_runs_63 ?_
      refine lv_topi (fun y_18 ey_18 => ?_)
      have ey_18i : y_18.toInt = y_16.toInt + y_17.toInt := by rw [ey_18]; exact z_iaddI (x := y_16) (y := y_17) (by show -2147483648 ≤ y_16.toInt + y_17.toInt; omega) (by show y_16.toInt + y_17.toInt < 2147483648; omega)
      refine z_ild C G 0 rfl (vp_in_iff.mpr ⟨by omega, by omega⟩) dX12_runs_64 ?_
      refine lv_topi (fun v_19 ev_19 => ?_)
      subst ev_19
      refine lv_aload_n hx hb dX12_runs_65 rfl (lv_at hl 0 rfl) ?_
      refine z_get C G clX12 4 rfl 0 (by decide) m_fl_RX12_7 rfl dX12_runs_66 ?_
      refine lv_aload_n hx hb dX12_runs_69 rfl (lv_at hl 0 rfl) ?_
      refine z_get C G clX12 4 rfl 29 (by decide) m_fl_RX12_302 rfl dX12_runs_70 ?_
      refine lv_iconst (v := 3) hx hb dX12_runs_73 (by decide) ?_
      refine lv_iadd hx hb dX12_runs_74 ?_
      refine lv_topi (fun y_20 ey_20 => ?_)
      have ey_20i : y_20.toInt = i_d0.toInt + (3 : Int) := by rw [ey_20]; exact z_iaddI (x := i_d0) (y := (3 : Int32)) (by show -2147483648 ≤ i_d0.toInt + (3 : Int); omega) (by show i_d0.toInt + (3 : Int) < 2147483648; omega)
      refine lv_iconst (v := 3) hx hb dX12_runs_75 (by decide) ?_
      refine lv_aload_n hx hb dX12_runs_76 rfl (lv_at hl 0 rfl) ?_
      refine z_get C G clX12 4 rfl 18 (by decide) m_fl_RX12_199 rfl dX12_runs_77 ?_
      refine lv_imul hx hb dX12_runs_80 ?_
      refine lv_topi (fun y_21 ey_21 => ?_)
      have ey_21i : y_21.toInt = (3 : Int) * xdone.toInt := by rw [ey_21]; exact z_imulI (x := (3 : Int32)) (y := xdone) (by show -2147483648 ≤ (3 : Int) * xdone.toInt; omega) (by show (3 : Int) * xdone.toInt < 2147483648; omega)
      refine lv_iadd hx hb dX12_runs_81 ?_
      refine lv_topi (fun y_22 ey_22 => ?_)
      have ey_22i : y_22.toInt = y_20.toInt + y_21.toInt := by rw [ey_22]; exact z_iaddI (x := y_20) (y := y_21) (by show -2147483648 ≤ y_20.toInt + y_21.toInt; omega) (by show y_20.toInt + y_21.toInt < 2147483648; omega)
      refine z_ild C G 0 rfl (vp_in_iff.mpr ⟨by omega, by omega⟩) dX12_runs_82 ?_
      refine lv_topi (fun v_23 ev_23 => ?_)
      subst ev_23
      have hKn : (xdone.toInt.toNat : Int) < (f_all i_d0.toNatClampNeg).toInt := by omega
      have hDk := hDv xdone.toInt.toNat hKn
      have hk1 : f_all y_14.toNatClampNeg = f_all (i_d0.toNatClampNeg + (1 + 3 * xdone.toInt.toNat)) := congrArg f_all (by have q8 := z_clI (x := y_14) (by omega); omega)
      have hk2 : f_all y_18.toNatClampNeg = f_all (i_d0.toNatClampNeg + (2 + 3 * xdone.toInt.toNat)) := congrArg f_all (by have q8 := z_clI (x := y_18) (by omega); omega)
      have hk3 : f_all y_22.toNatClampNeg = f_all (i_d0.toNatClampNeg + (3 + 3 * xdone.toInt.toNat)) := congrArg f_all (by have q8 := z_clI (x := y_22) (by omega); omega)
      refine z_Vi (bc := [[(mo, .inr (11, [.ref m_all, .ref m_has, .int i_size, .int i_next, .int i_where, .int i_token, .int i_number, .int i_word, .int i_wrong, .int i_farCrossing, .ref m_read, .int i_z0, .int i_crossings, .int i_inns, .ref m_posts, .ref m_shut, .ref m_here, .int xsteps, .int xdone, .int xat, .int xgone, .ref m_was, .ref m_came, .ref m_seenAt, .ref m_rowWorth, .ref m_farBy, .ref m_used, .int i_everywhere, .int i_again0, .int i_d0, .int xnever, .int xfirstCame, .int xlongRun, .int xmoved, .int xcrowd, .int i_l0, .int i_fitMany, .int i_fitLeast, .int i_fitMost, .ref m_fitPost, .ref m_fitEnd, .ref m_keptPosts, .int i_x0]))], [(m_all, .inl (T.2 0, 3952, .inl f_all))], [(m_posts, .inl (T.2 0, 7, .inl xposts))], [(m_shut, .inl (T.2 0, 7, .inl xshut))], [(m_here, .inl (T.2 0, 7, .inl xhere))], [(m_was, .inl (T.2 0, 7, .inl xwas))]]) (br := []) (As := [.int (f_all y_14.toNatClampNeg), .int (f_all y_18.toNatClampNeg), .int (f_all y_22.toNatClampNeg)]) (rest := []) C G (c_fm_does l T mo m_all m_has i_size i_next i_where i_token i_number i_word i_wrong i_farCrossing m_read i_z0 i_crossings i_inns m_posts m_shut m_here xsteps xdone xat xgone m_was m_came m_seenAt m_rowWorth m_farBy m_used i_everywhere i_again0 i_d0 xnever xfirstCame xlongRun xmoved xcrowd i_l0 i_fitMany i_fitLeast i_fitMost m_fitPost m_fitEnd m_keptPosts i_x0 f_all xposts xshut xhere xwas (f_all y_14.toNatClampNeg) (f_all y_18.toNatClampNeg) (f_all y_22.toNatClampNeg) (by first | with_reducible assumption | with_reducible rfl | omega | assumption | rfl) hQ hVx (zHB_m hHx (by omega)) (by rw [hk1]; exact hDk.1.1) (by rw [hk1]; exact hDk.1.2) (by rw [hk1, hk3]; exact hDk.2) hSx) (kV_RX12_345 C.2.2.2.2 (Nat.le_of_ble_eq_true rfl) (Nat.le_of_ble_eq_true rfl)) [4, 0, 1, 2, 5, 3] [] rfl rfl (ci := 11) (qc := (RX12, TX12, 43)) rfl rfl (List.mem_flatten.mpr ⟨_, List.mem_of_getElem? (i := 0) rfl, List.mem_cons_self⟩) rfl rfl hl.1 dX12_runs_83 (Nat.le_of_ble_eq_true rfl) (Nat.le_of_ble_eq_true rfl) (fun r_40 b1 H locs hw G => ?_)
      obtain ⟨j_at_24, j_gone_25, j_steps_26, j_moved_27, j_firstCame_28, j_never_29, j_longRun_30, g_posts_31, g_shut_32, g_here_33, g_was_34, rfl, h_35, h_36, h_37, h_38, h_39⟩ := hw
      have G : zS T A s.heap s [[(mo, .inr (11, [.ref m_all, .ref m_has, .int i_size, .int i_next, .int i_where, .int i_token, .int i_number, .int i_word, .int i_wrong, .int i_farCrossing, .ref m_read, .int i_z0, .int i_crossings, .int i_inns, .ref m_posts, .ref m_shut, .ref m_here, .int j_steps_26, .int xdone, .int j_at_24, .int j_gone_25, .ref m_was, .ref m_came, .ref m_seenAt, .ref m_rowWorth, .ref m_farBy, .ref m_used, .int i_everywhere, .int i_again0, .int i_d0, .int j_never_29, .int j_firstCame_28, .int j_longRun_30, .int j_moved_27, .int xcrowd, .int i_l0, .int i_fitMany, .int i_fitLeast, .int i_fitMost, .ref m_fitPost, .ref m_fitEnd, .ref m_keptPosts, .int i_x0]))], [(m_all, .inl (T.2 0, 3952, .inl f_all))], [(m_posts, .inl (T.2 0, 7, .inl g_posts_31))], [(m_shut, .inl (T.2 0, 7, .inl g_shut_32))], [(m_here, .inl (T.2 0, 7, .inl g_here_33))], [(m_was, .inl (T.2 0, 7, .inl g_was_34))]] _ _ := G
      have hdo := h_35
      rw [hk1, hk2, hk3] at hdo
      refine lv_if_eq (tgt := 106) hx hb dX12_runs_86 (by decide) (fun c_41 => ?_) (fun c_41 => ?_)
      · have c_41n : r_40.toInt = (0 : Int) := (fa_eq _ _).mp c_41
        have hs := hdo.resolve_left (fun q8 => by have e8 : r_40.toInt = 1 := (by rw [q8.1]; rfl); omega)
        have hE : zDayN (fun k D => zDe i_crossings i_inns (zWo f_all i_z0 i_inns) (zRo f_all i_z0) (zLo f_all i_z0) (f_all (i_d0.toNatClampNeg + (1 + 3 * k))) (f_all (i_d0.toNatClampNeg + (2 + 3 * k))) (f_all (i_d0.toNatClampNeg + (3 + 3 * k))) D) (min (min n_.toInt (f_all i_d0.toNatClampNeg).toInt) 40).toNat 0 (f_posts, f_shut, f_here, i_steps, 0) = (xdone.toInt.toNat, (xposts, xshut, xhere, xsteps, xnever)) := hR.trans (zDayN_n hs.2.1)
        exact z_vret C hr hlocks G (Nat.le_of_ble_eq_true rfl) (Nat.le_of_ble_eq_true rfl) dX12_runs_106 ⟨j_at_24, j_gone_25, j_steps_26, j_moved_27, j_firstCame_28, j_never_29, j_longRun_30, xcrowd, xdone, g_posts_31, g_shut_32, g_here_33, g_was_34, rfl, (by first | with_reducible assumption | omega | trivial | assumption), (by first | with_reducible assumption | omega | trivial | assumption), (by rw [hE]; exact z_nI (by omega) (by omega)), (by rw [hE, hs.2.2.1, hs.2.2.2.1, hs.2.2.2.2.1, hs.2.2.2.2.2.1, hs.2.2.2.2.2.2]), h_37⟩
      · have c_41n : ¬ r_40.toInt = (0 : Int) := fun q => c_41 ((fa_eq _ _).mpr q)
        have hs := hdo.resolve_right (fun q8 => by have e8 : r_40.toInt = 0 := (by rw [q8.1]; rfl); omega)
        refine lv_aload_n hx hb dX12_runs_89 rfl (lv_at hl 0 rfl) ?_
        refine lv_dup hx hb dX12_runs_90 rfl ?_
        refine z_get C G clX12 0 rfl 18 (by decide) m_fl_RX12_199 rfl dX12_runs_91 ?_
        refine lv_iconst (v := 1) hx hb dX12_runs_94 (by decide) ?_
        refine lv_iadd hx hb dX12_runs_95 ?_
        refine lv_topi (fun y_42 ey_42 => ?_)
        have ey_42i : y_42.toInt = xdone.toInt + (1 : Int) := by rw [ey_42]; exact z_iaddI (x := xdone) (y := (1 : Int32)) (by show -2147483648 ≤ xdone.toInt + (1 : Int); omega) (by show xdone.toInt + (1 : Int) < 2147483648; omega)
        refine z_put C G clX12 0 rfl 18 (by decide) m_fl_RX12_199 rfl rfl rfl (Nat.le_of_ble_eq_true rfl) dX12_runs_96 (fun H locs G => ?_)
        have G : zS T A s.heap s [[(mo, .inr (11, [.ref m_all, .ref m_has, .int i_size, .int i_next, .int i_where, .int i_token, .int i_number, .int i_word, .int i_wrong, .int i_farCrossing, .ref m_read, .int i_z0, .int i_crossings, .int i_inns, .ref m_posts, .ref m_shut, .ref m_here, .int j_steps_26, .int y_42, .int j_at_24, .int j_gone_25, .ref m_was, .ref m_came, .ref m_seenAt, .ref m_rowWorth, .ref m_farBy, .ref m_used, .int i_everywhere, .int i_again0, .int i_d0, .int j_never_29, .int j_firstCame_28, .int j_longRun_30, .int j_moved_27, .int xcrowd, .int i_l0, .int i_fitMany, .int i_fitLeast, .int i_fitMost, .ref m_fitPost, .ref m_fitEnd, .ref m_keptPosts, .int i_x0]))], [(m_all, .inl (T.2 0, 3952, .inl f_all))], [(m_posts, .inl (T.2 0, 7, .inl g_posts_31))], [(m_shut, .inl (T.2 0, 7, .inl g_shut_32))], [(m_here, .inl (T.2 0, 7, .inl g_here_33))], [(m_was, .inl (T.2 0, 7, .inl g_was_34))]] _ _ := G
        refine lv_aload_n hx hb dX12_runs_99 rfl (lv_at hl 0 rfl) ?_
        refine z_Vv (bc := [[(mo, .inr (11, [.ref m_all, .ref m_has, .int i_size, .int i_next, .int i_where, .int i_token, .int i_number, .int i_word, .int i_wrong, .int i_farCrossing, .ref m_read, .int i_z0, .int i_crossings, .int i_inns, .ref m_posts, .ref m_shut, .ref m_here, .int j_steps_26, .int y_42, .int j_at_24, .int j_gone_25, .ref m_was, .ref m_came, .ref m_seenAt, .ref m_rowWorth, .ref m_farBy, .ref m_used, .int i_everywhere, .int i_again0, .int i_d0, .int j_never_29, .int j_firstCame_28, .int j_longRun_30, .int j_moved_27, .int xcrowd, .int i_l0, .int i_fitMany, .int i_fitLeast, .int i_fitMost, .ref m_fitPost, .ref m_fitEnd, .ref m_keptPosts, .int i_x0]))], [(m_here, .inl (T.2 0, 7, .inl g_here_33))]]) (br := [[(m_all, .inl (T.2 0, 3952, .inl f_all))], [(m_posts, .inl (T.2 0, 7, .inl g_posts_31))], [(m_shut, .inl (T.2 0, 7, .inl g_shut_32))], [(m_was, .inl (T.2 0, 7, .inl g_was_34))]]) (As := []) (rest := []) C G (c_m_looks l T mo m_all m_has i_size i_next i_where i_token i_number i_word i_wrong i_farCrossing m_read i_z0 i_crossings i_inns m_posts m_shut m_here j_steps_26 y_42 j_at_24 j_gone_25 m_was m_came m_seenAt m_rowWorth m_farBy m_used i_everywhere i_again0 i_d0 j_never_29 j_firstCame_28 j_longRun_30 j_moved_27 xcrowd i_l0 i_fitMany i_fitLeast i_fitMost m_fitPost m_fitEnd m_keptPosts i_x0 g_here_33 (by first | with_reducible assumption | with_reducible rfl | omega | assumption | rfl)) (kV_RX12_339 C.2.2.2.2 (Nat.le_of_ble_eq_true rfl) (Nat.le_of_ble_eq_true rfl)) [0, 4] [1, 2, 3, 5] rfl rfl (ci := 11) (qc := (RX12, TX12, 43)) rfl rfl (List.mem_flatten.mpr ⟨_, List.mem_of_getElem? (i := 0) rfl, List.mem_cons_self⟩) rfl rfl hl.1 dX12_runs_100 (Nat.le_of_ble_eq_true rfl) (Nat.le_of_ble_eq_true rfl) (fun b1 H locs hw G => ?_)
        obtain ⟨j_crowd_43, rfl⟩ := hw
        have G : zS T A s.heap s [[(m_all, .inl (T.2 0, 3952, .inl f_all))], [(m_posts, .inl (T.2 0, 7, .inl g_posts_31))], [(m_shut, .inl (T.2 0, 7, .inl g_shut_32))], [(m_was, .inl (T.2 0, 7, .inl g_was_34))], [(mo, .inr (11, [.ref m_all, .ref m_has, .int i_size, .int i_next, .int i_where, .int i_token, .int i_number, .int i_word, .int i_wrong, .int i_farCrossing, .ref m_read, .int i_z0, .int i_crossings, .int i_inns, .ref m_posts, .ref m_shut, .ref m_here, .int j_steps_26, .int y_42, .int j_at_24, .int j_gone_25, .ref m_was, .ref m_came, .ref m_seenAt, .ref m_rowWorth, .ref m_farBy, .ref m_used, .int i_everywhere, .int i_again0, .int i_d0, .int j_never_29, .int j_firstCame_28, .int j_longRun_30, .int j_moved_27, .int j_crowd_43, .int i_l0, .int i_fitMany, .int i_fitLeast, .int i_fitMost, .ref m_fitPost, .ref m_fitEnd, .ref m_keptPosts, .int i_x0]))], [(m_here, .inl (T.2 0, 7, .inl g_here_33))]] _ _ := G
        refine lv_goto (tgt := 4) hx hb dX12_runs_103 (by decide) ?_
        exact ih_4 (j_at_24, j_gone_25, j_steps_26, j_moved_27, j_firstCame_28, j_never_29, j_longRun_30, j_crowd_43, y_42, g_posts_31, g_shut_32, g_here_33, g_was_34) (show zMP g_posts_31 ∧ 0 ≤ y_42.toInt ∧ y_42.toInt ≤ 40 ∧ zMV (zRo f_all i_z0) g_posts_31 ∧ zS15 g_shut_32 ∧ zHB (9 + y_42.toInt) g_here_33 ∧ zDayN (fun k D => zDe i_crossings i_inns (zWo f_all i_z0 i_inns) (zRo f_all i_z0) (zLo f_all i_z0) (f_all (i_d0.toNatClampNeg + (1 + 3 * k))) (f_all (i_d0.toNatClampNeg + (2 + 3 * k))) (f_all (i_d0.toNatClampNeg + (3 + 3 * k))) D) (min (min n_.toInt (f_all i_d0.toNatClampNeg).toInt) 40).toNat 0 (f_posts, f_shut, f_here, i_steps, 0) = zDayN (fun k D => zDe i_crossings i_inns (zWo f_all i_z0 i_inns) (zRo f_all i_z0) (zLo f_all i_z0) (f_all (i_d0.toNatClampNeg + (1 + 3 * k))) (f_all (i_d0.toNatClampNeg + (2 + 3 * k))) (f_all (i_d0.toNatClampNeg + (3 + 3 * k))) D) ((min (min n_.toInt (f_all i_d0.toNatClampNeg).toInt) 40).toNat - y_42.toInt.toNat) y_42.toInt.toNat (g_posts_31, g_shut_32, g_here_33, j_steps_26, j_never_29) from ⟨h_37, by omega, by omega, h_36, h_39, (zHB_m (h_38 (9 + xdone.toInt) (by omega) hHx) (by omega)), (hR.trans (by rw [show (min (min n_.toInt (f_all i_d0.toNatClampNeg).toInt) 40).toNat - xdone.toInt.toNat = ((min (min n_.toInt (f_all i_d0.toNatClampNeg).toInt) 40).toNat - y_42.toInt.toNat) + 1 by omega]; exact (zDayN_s hs.2).trans (by rw [show xdone.toInt.toNat + 1 = y_42.toInt.toNat by omega])))⟩) (show ((f_all i_d0.toNatClampNeg).toInt - y_42.toInt).toNat < ((f_all i_d0.toNatClampNeg).toInt - xdone.toInt).toNat from by omega) _ _ ls G (lv_sub hl [0, 1] rfl)
def zDR (R : Nat → Int32) : Prop := ∀ j : Nat, (j : Int) < (R 0).toInt → (0 ≤ (R (1 + 3 * j)).toInt ∧ (R (1 + 3 * j)).toInt ≤ 5) ∧ (4 ≤ (R (1 + 3 * j)).toInt → 0 ≤ (R (3 + 3 * j)).toInt ∧ (R (3 + 3 * j)).toInt ≤ 3)
theorem zDR_cg {R R' : Nat → Int32} (e : ∀ j, j < 121 → R' j = R j) (h0 : (R 0).toInt ≤ 40) (h : zDR R) : zDR R' := by
  intro j hj
  rw [e 0 (by decide)] at hj
  rw [e _ (by omega), e _ (by omega)]
  exact h j hj
section PZ
variable {k : pT} {a : pS}
theorem pEnds_z (h : pBk a) : ¬ (pEnds k a).2.2.1.toInt = 0 := by
  unfold pEnds
  split
  · show ¬ (1 : Int32).toInt = 0
    decide
  · rename_i q
    exact h q
theorem pAlso_zz {kd w : Int32} (h : pBk a) (hk : ¬ kd.toInt = 0) : ¬ (pAlso kd w a).2.2.1.toInt = 0 := by
  unfold pAlso
  split
  · rename_i q
    intro z
    rcases q with q | q
    · exact h q z
    · exact q.1 z
  · exact hk
theorem pNum_z {lo hi : Int32} (h : pBk a) (q : (pNum k lo hi a).2.2.2.1.toInt = 0) : a.2.2.1.toInt = 0 ∧ lo.toInt ≤ (pNum k lo hi a).1.toInt ∧ (pNum k lo hi a).1.toInt ≤ hi.toInt := by
  unfold pNum at q ⊢
  split at q
  · exact absurd q (pEnds_z h)
  · split at q
    · rename_i c1 c2
      rw [if_neg c1, if_pos c2]
      exact ⟨q, c2.1, c2.2⟩
    · exact absurd q (pAlso_zz (kd := 2) (w := nI (pWh k a.1)) h (by decide))
theorem pWord_z {lo hi : Nat} (h : pBk a) (q : (pWord k lo hi a).2.2.2.1.toInt = 0) : a.2.2.1.toInt = 0 ∧ lo ≤ (pWord k lo hi a).1 ∧ (pWord k lo hi a).1 ≤ hi := by
  unfold pWord at q ⊢
  split at q
  · exact absurd q (pEnds_z h)
  · rename_i c1
    rw [if_neg c1]
    exact ⟨q, by omega⟩
theorem pEndL_z (h : pBk a) (q : (pEndL k a).2.2.1.toInt = 0) : a.2.2.1.toInt = 0 := by
  unfold pEndL at q
  split at q
  · exact q
  · exact absurd q (pEnds_z h)
theorem pDB_z {m : Int} {w : Int32} {f : Nat → Int32} (h : pBk a) (q : (pDB m w f a).2.2.1.toInt = 0) : a.2.2.1.toInt = 0 ∧ (f 0).toInt < m := by
  unfold pDB at q
  split at q
  · exact absurd q (pAlso_zz h (by decide))
  · exact ⟨q, by omega⟩
theorem pBk_dy {d : Nat} (h : pBk a) : pBk (pDY k d a).2 := by
  unfold pDY
  split
  · exact pBk_num h
  · exact h
theorem pBk_day {f : Nat → Int32} (h : pBk a) : pBk (pDay k a f).1 := pBk_endL (pBk_dy (pBk_num (pBk_db (pBk_word h))))
/-- what holds of a day's row while there is no fault -/
def zDJ (a : pS) (f : Nat → Int32) : Prop := a.2.2.1.toInt = 0 → zDR f ∧ 0 ≤ (f 0).toInt ∧ (f 0).toInt ≤ 40
theorem zDJ_day {f : Nat → Int32} (h : pBk a) (hJ : zDJ a f) : zDJ (pDay k a f).1 (pDay k a f).2 := by
  intro q
  have b1 := pBk_word (k := k) (lo := 5) (hi := 10) h
  have b2 := pBk_db (m := 40) (w := nI (pWh k a.1)) (f := f) b1
  have b3 := pBk_num (k := k) (lo := 0) (hi := 6) b2
  have q1 : (pDY k (pWord k 5 10 a).1 (pNum k 0 6 (pDB 40 (nI (pWh k a.1)) f (pWord k 5 10 a).2)).2).2.2.2.1.toInt = 0 := pEndL_z (pBk_dy b3) q
  have q2 : (pNum k 0 6 (pDB 40 (nI (pWh k a.1)) f (pWord k 5 10 a).2)).2.2.2.1.toInt = 0 ∧ (8 < (pWord k 5 10 a).1 → 0 ≤ (pDY k (pWord k 5 10 a).1 (pNum k 0 6 (pDB 40 (nI (pWh k a.1)) f (pWord k 5 10 a).2)).2).1.toInt ∧ (pDY k (pWord k 5 10 a).1 (pNum k 0 6 (pDB 40 (nI (pWh k a.1)) f (pWord k 5 10 a).2)).2).1.toInt ≤ 3) := by
    unfold pDY at q1 ⊢
    by_cases c : 8 < (pWord k 5 10 a).1
    · rw [if_pos c] at q1 ⊢
      have t := pNum_z b3 q1
      exact ⟨t.1, fun _ => ⟨t.2.1, t.2.2⟩⟩
    · rw [if_neg c] at q1
      exact ⟨q1, fun z => absurd z c⟩
  have q3 := pNum_z b2 q2.1
  have q4 := pDB_z b1 q3.1
  have q5 := pWord_z h q4.1
  have hf := hJ q5.1
  have e : (pDay k a f).2 = if (f 0).toInt < 40 then upd (upd (upd (upd f (1 + 3 * (f 0).toInt.toNat) (nI (pWord k 5 10 a).1 - 5)) (2 + 3 * (f 0).toInt.toNat) (pNum k 0 6 (pDB 40 (nI (pWh k a.1)) f (pWord k 5 10 a).2)).1) (3 + 3 * (f 0).toInt.toNat) (pDY k (pWord k 5 10 a).1 (pNum k 0 6 (pDB 40 (nI (pWh k a.1)) f (pWord k 5 10 a).2)).2).1) 0 (f 0 + 1) else f := rfl
  rw [e, if_pos q4.2]
  have e1 : (f 0 + 1).toInt = (f 0).toInt + 1 := (z_iaddI (x := f 0) (y := 1) (by show -2147483648 ≤ (f 0).toInt + 1; omega) (by show (f 0).toInt + 1 < 2147483648; omega))
  have e2 := nI_toInt (n := (pWord k 5 10 a).1) (by omega)
  have e5 : (5 : Int32).toInt = 5 := rfl
  have e3 : (nI (pWord k 5 10 a).1 - 5).toInt = ((pWord k 5 10 a).1 : Int) - 5 := (z_isubI (x := nI (pWord k 5 10 a).1) (y := 5) (by rw [e5, e2]; omega) (by rw [e5, e2]; omega)).trans (by rw [e5, e2])
  refine ⟨fun j hj => ?_, by rw [z_eq rfl, e1]; omega⟩
  rw [z_eq rfl, e1] at hj
  rw [z_ne (show ¬ 1 + 3 * j = 0 by omega), z_ne (show ¬ 1 + 3 * j = 3 + 3 * (f 0).toInt.toNat by omega), z_ne (show ¬ 1 + 3 * j = 2 + 3 * (f 0).toInt.toNat by omega), z_ne (show ¬ 3 + 3 * j = 0 by omega)]
  by_cases t : j = (f 0).toInt.toNat
  · rw [z_eq (show 1 + 3 * j = 1 + 3 * (f 0).toInt.toNat by omega), z_eq (show 3 + 3 * j = 3 + 3 * (f 0).toInt.toNat by omega), e3]
    exact ⟨⟨by omega, by omega⟩, fun z => q2.2 (by omega)⟩
  · rw [z_ne (show ¬ 1 + 3 * j = 1 + 3 * (f 0).toInt.toNat by omega), z_ne (show ¬ 3 + 3 * j = 3 + 3 * (f 0).toInt.toNat by omega), z_ne (show ¬ 3 + 3 * j = 2 + 3 * (f 0).toInt.toNat by omega), z_ne (show ¬ 3 + 3 * j = 1 + 3 * (f 0).toInt.toNat by omega)]
    exact hf.1 j (by omega)
theorem zDJ_lines : ∀ (i : Nat) (a : pS) (f : Nat → Int32), pBk a → zDJ a f → zDJ (pLines k 1 i a f).1 (pLines k 1 i a f).2
  | 0, a, f, _, h => h
  | i + 1, a, f, hb, h => by
    unfold pLines
    split
    · have e : pLine k 1 a f = pDay k a f := by
        unfold pLine
        rw [if_neg (by decide), if_pos rfl]
      refine zDJ_lines i _ _ ?_ ?_
      · rw [e]; exact pBk_day hb
      · rw [e]; exact zDJ_day hb h
    · exact h
end PZ
theorem pRead_D {k : pT} {n : Nat} (h : (pRead k n 1).1.2.2.1.toInt = 0) : zDR (pRead k n 1).2 ∧ (((pRead k n 1).2 0).toInt ≤ 40) := by
  have hJ : zDJ (pLines k 1 601 (0, 0, 0, -1, -1) (fun _ => 0)).1 (pLines k 1 601 (0, 0, 0, -1, -1) (fun _ => 0)).2 := zDJ_lines 601 _ _ (fun q => absurd rfl q) (fun _ => ⟨fun j hj => absurd hj (by show ¬ (j : Int) < (0 : Int32).toInt; have : (0 : Int32).toInt = 0 := rfl; omega), by decide⟩)
  have e4 : ∀ (a : pS) (f : Nat → Int32), pF4 n 1 a f = a := fun a f => by
    unfold pF4
    rw [if_neg (fun z => absurd z.1 (by decide))]
  have e5 : ∀ (a : pS) (f : Nat → Int32), pF5 n 1 a f = a := fun a f => by
    unfold pF5
    rw [if_neg (fun z => absurd z.1 (by decide))]
  have h : (pF5 n 1 (pF4 n 1 (pLines k 1 601 (0, 0, 0, -1, -1) (fun _ => 0)).1 (pLines k 1 601 (0, 0, 0, -1, -1) (fun _ => 0)).2) (pLines k 1 601 (0, 0, 0, -1, -1) (fun _ => 0)).2).2.2.1.toInt = 0 := h
  rw [e4, e5] at h
  exact ⟨(hJ h).1, (hJ h).2.2⟩
/-- so of each day that is kept -/
def zVD (f : Nat → Int32) : Prop := ∀ i k, i < 4 → k < 2 → zDR (fun j => f (988 * i + (712 + 121 * k + j))) ∧ (f (988 * i + (712 + 121 * k))).toInt ≤ 40
theorem zVD_c {f g : Nat → Int32} {a b : Nat} (e : ∀ j, j < 121 → g (b + j) = f (a + j)) (h : zDR (fun j => f (a + j)) ∧ (f a).toInt ≤ 40) : zDR (fun j => g (b + j)) ∧ (g b).toInt ≤ 40 := by
  have e0 := e 0 (by decide)
  refine ⟨zDR_cg (R := fun j => f (a + j)) e h.2 h.1, ?_⟩
  have e0 : g b = f a := e0
  rw [e0]
  exact h.2
theorem zVD_low {f g : Nat → Int32} (hV : zVD f) (e : ∀ j, 610 ≤ j → g j = f j) : zVD g := fun i q hi hq => by
  have h := hV i q hi hq
  have a : ∀ (G : Nat → Int32), (zDR (fun j => G (988 * i + (712 + 121 * q + j))) ∧ (G (988 * i + (712 + 121 * q))).toInt ≤ 40) = (zDR (fun j => G (988 * i + (712 + 121 * q) + j)) ∧ (G (988 * i + (712 + 121 * q))).toInt ≤ 40) := fun G => by
    rw [show (fun j => G (988 * i + (712 + 121 * q + j))) = (fun j => G (988 * i + (712 + 121 * q) + j)) from funext fun j => congrArg G (by omega)]
  rw [a] at h ⊢
  exact zVD_c (fun j _ => e _ (by omega)) h
theorem zVD_a {f : Nat → Int32} (b q : Nat) : (zDR (fun j => f (b + (712 + 121 * q + j))) ∧ (f (b + (712 + 121 * q))).toInt ≤ 40) = (zDR (fun j => f (b + (712 + 121 * q) + j)) ∧ (f (b + (712 + 121 * q))).toInt ≤ 40) := by
  rw [show (fun j => f (b + (712 + 121 * q + j))) = (fun j => f (b + (712 + 121 * q) + j)) from funext fun j => congrArg f (by omega)]
theorem zVD_to {f g : Nat → Int32} {a b q : Nat} (e : ∀ j, j < 121 → g (b + (712 + 121 * q) + j) = f (a + (712 + 121 * q) + j)) (h : zDR (fun j => f (a + (712 + 121 * q + j))) ∧ (f (a + (712 + 121 * q))).toInt ≤ 40) : zDR (fun j => g (b + (712 + 121 * q + j))) ∧ (g (b + (712 + 121 * q))).toInt ≤ 40 := by
  rw [zVD_a] at h ⊢
  exact zVD_c e h
theorem pNr_lt {s : Nat} {at_ : Int32} {f : Nat → Int32} (h : pOkAt s at_ f) (h2 : (f s).toInt ≤ 2) : (pNr s at_ f).toInt.toNat < 2 := by
  unfold pOkAt at h
  unfold pNr
  by_cases q : at_.toInt = -1
  · rw [if_pos q] at h ⊢
    omega
  · rw [if_neg q] at h ⊢
    omega
theorem zVD_text {k : pT} {n s : Nat} {at_ r : Int32} {f g : Nat → Int32} (hV : zVD f) (hs : s < 3) (h2 : ∀ q, q < 3 → (f q).toInt ≤ 2) (F2 : zText (pRead k n s) s at_ f g r) (T2 : ∀ j, 988 ≤ j → g j = f j) : zVD g := by
  have ho : ∀ (a b : Int32) (j : Nat), 7 ≤ j → pHd f a b j = f j := fun a b j hj => by
    unfold pHd
    rw [z_ne (by omega), z_ne (by omega), z_ne (by omega)]
  rcases F2 with ⟨-, -, z⟩ | ⟨-, -, -, z⟩ | ⟨w, y, -, z⟩
  · refine zVD_low hV (fun j hj => ?_)
    by_cases q : j < 988
    · rw [z j q, ho _ _ _ (by omega)]
    · exact T2 j (by omega)
  · refine zVD_low hV (fun j hj => ?_)
    by_cases q : j < 988
    · rw [z j q, ho _ _ _ (by omega)]
    · exact T2 j (by omega)
  · have hc2 : ∀ (G : Nat → Int32) (j : Nat), 7 ≤ j → pCnt s at_ G j = G j := fun G j hj => by
      unfold pCnt
      split
      · exact z_ne (by omega)
      · rfl
    intro i q hi hq
    by_cases e : i = 0
    · by_cases hs0 : s = 1 ∧ (pNr 1 at_ f).toInt.toNat = q
      · obtain ⟨hs0, hn⟩ := hs0
        subst hs0
        have t := pRead_D y
        have hg : ∀ j, j < 121 → g (988 * i + (712 + 121 * q) + j) = (pRead k n 1).2 j := fun j hj => by
          rw [z _ (by omega), hn]
          unfold pPut
          have hp : pBase 1 q = 712 + 121 * q := rfl
          have hz : pSize 1 = 121 := rfl
          rw [hp, hz, if_pos (by omega)]
          exact congrArg _ (by omega)
        rw [zVD_a]
        refine ⟨zDR_cg hg t.2 t.1, ?_⟩
        have h0 : g (988 * i + (712 + 121 * q)) = (pRead k n 1).2 0 := hg 0 (by decide)
        rw [h0]
        exact t.2
      · refine zVD_to (fun j hj => ?_) (hV i q hi hq)
        rw [z _ (by omega)]
        have hx : ¬ (pBase s (pNr s at_ f).toInt.toNat ≤ 988 * i + (712 + 121 * q) + j ∧ 988 * i + (712 + 121 * q) + j < pBase s (pNr s at_ f).toInt.toNat + pSize s) := by
          rcases (show s = 0 ∨ s = 1 ∨ s = 2 by omega) with t | t | t
          · subst t
            have hp : pBase 0 (pNr 0 at_ f).toInt.toNat = 610 + 51 * (pNr 0 at_ f).toInt.toNat := rfl
            have hz : pSize 0 = 51 := rfl
            have hb := pNr_lt w (h2 0 (by decide))
            rw [hp, hz]
            omega
          · subst t
            have hp : pBase 1 (pNr 1 at_ f).toInt.toNat = 712 + 121 * (pNr 1 at_ f).toInt.toNat := rfl
            have hz : pSize 1 = 121 := rfl
            rw [hp, hz]
            have hn : ¬ (pNr 1 at_ f).toInt.toNat = q := fun w => hs0 ⟨rfl, w⟩
            omega
          · subst t
            have hp : pBase 2 (pNr 2 at_ f).toInt.toNat = 954 + 17 * (pNr 2 at_ f).toInt.toNat := rfl
            rw [hp]
            omega
        unfold pPut
        rw [if_neg hx, hc2 _ _ (by omega), ho _ _ _ (by omega)]
    · exact zVD_to (fun j _ => T2 _ (by omega)) (hV i q hi hq)
theorem zVD_feed {p : Nat} {a b c d e r : Int32} {f g : Nat → Int32} (hV : zVD f) (hp6 : p ≤ 600) (F2 : 580 < p ∧ r = -1 ∧ g = f ∨ p ≤ 580 ∧ r = nI (p + 20) ∧ zFeedR p a b c d e f g) : zVD g := by
  rcases F2 with ⟨-, -, y⟩ | ⟨hp5, -, y⟩
  · rw [y]; exact hV
  · obtain ⟨-, -, z3⟩ := y
    exact zVD_low hV (fun j hj => z3 j (by omega) (by omega))
theorem zVD_end {n r : Int32} {f g : Nat → Int32} (hV : zVD f) (F2 : (n.toInt < 0 ∨ (f 4).toInt < n.toInt) ∧ r.toInt = -1 ∧ g = f ∨ (0 ≤ n.toInt ∧ n.toInt ≤ (f 4).toInt) ∧ g = upd f 4 n ∧ r = n) : zVD g := by
  rcases F2 with ⟨-, -, y⟩ | ⟨-, y, -⟩
  · rw [y]; exact hV
  · rw [y]; exact zVD_low hV (fun j hj => z_ne (by omega))
theorem zVD_hd {f g : Nat → Int32} (hV : zVD f) (hg : g = upd (upd (upd f 4 0) 5 0) 6 (-1)) : zVD g := by
  rw [hg]
  exact zVD_low hV (fun j hj => by rw [z_ne (by omega), z_ne (by omega), z_ne (by omega)])
theorem zVD_img {f g : Nat → Int32} {k : Nat} (hk : k < 3) (hV : zVD f) (c1 : ∀ j, j < 988 → g (988 * (k + 1) + j) = f j) (c2 : ∀ j, (j < 988 * (k + 1) ∨ 988 * (k + 1) + 988 ≤ j) → g j = f j) : zVD g := by
  intro i q hi hq
  by_cases e : i = k + 1
  · subst e
    refine zVD_to (a := 988 * 0) (fun j hj => ?_) (hV 0 q (by decide) hq)
    rw [show 988 * (k + 1) + (712 + 121 * q) + j = 988 * (k + 1) + (712 + 121 * q + j) by omega, c1 _ (by omega)]
    exact congrArg f (by omega)
  · have : i < k + 1 ∨ k + 1 < i := by omega
    exact zVD_to (fun j _ => c2 _ (by omega)) (hV i q hi hq)
theorem zVD_ag {K : Nat} {x r' : Int32} {fh f g : Nat → Int32} (hV : zVD f) (hx : x.toInt = (K : Int)) (hK : K < 3) (F2 : r' = 0 ∧ (x.toInt < 0 ∨ 3 ≤ x.toInt ∨ fh x.toNatClampNeg = 0) ∧ g = f ∨ r' = 1 ∧ (0 ≤ x.toInt ∧ x.toInt < 3) ∧ ¬ fh x.toNatClampNeg = 0 ∧ (∀ j, j < 988 → g j = f (988 * (x.toNatClampNeg + 1) + j)) ∧ ∀ j, 988 ≤ j → g j = f j) : zVD g := by
  have e : x.toNatClampNeg = K := by have := z_clI (x := x) (by omega); omega
  rw [e] at F2
  rcases F2 with ⟨-, -, z⟩ | ⟨-, -, -, z, z2⟩
  · rw [z]; exact hV
  · intro i q hi hq
    by_cases e : i = 0
    · refine zVD_to (a := 988 * (K + 1)) (fun j hj => ?_) (hV (K + 1) q (by omega) hq)
      rw [z _ (by omega)]
      exact congrArg f (by omega)
    · exact zVD_to (fun j _ => z2 _ (by omega)) (hV i q hi hq)
theorem zVD_st : zVD (upd (fun _ => 0) 6 (-1)) := fun i q _ _ => by
  have o : ∀ j, ¬ j = 6 → upd (fun _ => (0 : Int32)) 6 (-1) j = 0 := fun j h => if_neg h
  have z0 : (0 : Int32).toInt = 0 := rfl
  refine ⟨fun j hj => ?_, by rw [o _ (by omega), z0]; decide⟩
  have hj : (j : Int) < (upd (fun _ => (0 : Int32)) 6 (-1) (988 * i + (712 + 121 * q + 0))).toInt := hj
  rw [o _ (by omega), z0] at hj
  omega
def zKe (D E : zK) : Prop := (∀ j, j < 7 → D.1 j = E.1 j) ∧ (∀ j, j < 7 → D.2.1 j = E.2.1 j) ∧ (∀ j, j < 7 → D.2.2.1 j = E.2.2.1 j) ∧ D.2.2.2 = E.2.2.2
def zOe (W : Nat → Int32) (a b : Option zK) : Prop := (a = none ∧ b = none) ∨ ∃ D E : zK, a = some D ∧ b = some E ∧ zKe D E ∧ zP3 D.1 W
theorem zMvH_cg {H H' : Nat → Int32} (h : ∀ j, j < 7 → H j = H' j) (x y : Int32) : ∀ j, j < 7 → zMvH H x y j = zMvH H' x y j := by
  have g : ∀ j, j < 7 → upd H x.toNatClampNeg (H x.toNatClampNeg - 1) j = upd H' x.toNatClampNeg (H' x.toNatClampNeg - 1) j := by
    intro j hj
    by_cases e : j = x.toNatClampNeg
    · rw [z_eq e, z_eq e, ← e, h j hj]
    · rw [z_ne e, z_ne e, h j hj]
  intro j hj
  unfold zMvH
  by_cases e : j = y.toNatClampNeg
  · rw [z_eq e, z_eq e, ← e, g j hj]
  · rw [z_ne e, z_ne e, g j hj]
theorem zUp_cg {H H' : Nat → Int32} {k : Nat} {v v' : Int32} (h : ∀ j, j < 7 → H j = H' j) (hv : v = v') : ∀ j, j < 7 → upd H k v j = upd H' k v' j := by
  intro j hj
  by_cases e : j = k
  · rw [z_eq e, z_eq e, hv]
  · rw [z_ne e, z_ne e, h j hj]
theorem zKe_i {P P' S S' H H' : Nat → Int32} {a a' b b' : Int32} (p : ∀ j, j < 7 → P j = P' j) (s : ∀ j, j < 7 → S j = S' j) (w : ∀ j, j < 7 → H j = H' j) (e1 : a = a') (e2 : b = b') : zKe (P, S, H, a, b) (P', S', H', a', b') := by
  subst e1
  subst e2
  exact ⟨p, s, w, rfl⟩
theorem zOe_i {W : Nat → Int32} {D E : zK} (h : zKe D E) (h2 : zP3 D.1 W) : zOe W (some D) (some E) := Or.inr ⟨D, E, rfl, rfl, h, h2⟩
section ZCG
variable {cr inn x y : Int32} {W W' L L' Ro Ro' : Nat → Int32} {D E : zK}
theorem zGoF_cg (h3 : ∀ j, j < 7 → W j = W' j) (hl : zLs W L L') (hI : zP3 D.1 W) (h : zKe D E) : zOe W (zGoF cr W L x D) (zGoF cr W' L' x E) := by
  obtain ⟨p, s, w, e⟩ := h
  have eS := zStep_cg hI p s h3 hl x
  unfold zGoF
  by_cases q : (zHas cr x ∧ 1 ≤ (D.2.2.1 x.toNatClampNeg).toInt) ∧ ¬ zStep D.1 D.2.1 W L x = -1
  · have ex := z_clI q.1.1.1
    have eH := w x.toNatClampNeg (by have := q.1.1.2.2; omega)
    rw [if_pos q, if_pos ⟨⟨q.1.1, by rw [← eH]; exact q.1.2⟩, by rw [← eS]; exact q.2⟩]
    exact zOe_i (zKe_i (zPost_cg p s h3 x) s (by rw [← eS]; exact zMvH_cg w x _) (congrArg (fun q => q.1 + 1) e) (congrArg (fun q => q.2) e)) (zPost_I hI x)
  · refine Or.inl ⟨if_neg q, if_neg (fun z => q ?_)⟩
    have ex := z_clI z.1.1.1
    have eH := w x.toNatClampNeg (by have := z.1.1.2.2; omega)
    exact ⟨⟨z.1.1, by rw [eH]; exact z.1.2⟩, by rw [eS]; exact z.2⟩
theorem zRuF_cg (h3 : ∀ j, j < 7 → W j = W' j) (hl : zLs W L L') (hI : zP3 D.1 W) (h : zKe D E) : zOe W (zRuF cr inn W L x D) (zRuF cr inn W' L' x E) := by
  obtain ⟨p, s, w, e⟩ := h
  have eR := zRunN_cg s h3 hl 499 D.1 E.1 x 0 hI p
  by_cases q : zHas cr x ∧ 1 ≤ (D.2.2.1 x.toNatClampNeg).toInt
  · have ex := z_clI q.1.1
    have eH := w x.toNatClampNeg (by have := q.1.2.2; omega)
    have a1 : zRuF cr inn W L x D = some ((zRunN D.2.1 W L 499 D.1 x 0).1, D.2.1, zMvH D.2.2.1 x (zRunN D.2.1 W L 499 D.1 x 0).2.1, D.2.2.2.1 + nI (zRunN D.2.1 W L 499 D.1 x 0).2.2, if zBit inn (zRunN D.2.1 W L 499 D.1 x 0).2.1 = 1 then D.2.2.2.2 else D.2.2.2.2 + 1) := if_pos q
    have a2 : zRuF cr inn W' L' x E = some ((zRunN E.2.1 W' L' 499 E.1 x 0).1, E.2.1, zMvH E.2.2.1 x (zRunN E.2.1 W' L' 499 E.1 x 0).2.1, E.2.2.2.1 + nI (zRunN E.2.1 W' L' 499 E.1 x 0).2.2, if zBit inn (zRunN E.2.1 W' L' 499 E.1 x 0).2.1 = 1 then E.2.2.2.2 else E.2.2.2.2 + 1) := if_pos ⟨q.1, by rw [← eH]; exact q.2⟩
    rw [a1, a2, ← eR.2]
    exact zOe_i (zKe_i eR.1 s (zMvH_cg w x _) (congrArg (fun q => q.1 + nI (zRunN D.2.1 W L 499 D.1 x 0).2.2) e) (congrArg (fun q => if zBit inn (zRunN D.2.1 W L 499 D.1 x 0).2.1 = 1 then q.2 else q.2 + 1) e)) (zRunN_I _ _ _ _ hI)
  · refine Or.inl ⟨if_neg q, if_neg (fun z => q ?_)⟩
    have ex := z_clI z.1.1
    have eH := w x.toNatClampNeg (by have := z.1.2.2; omega)
    exact ⟨z.1, by rw [eH]; exact z.2⟩
theorem zTuF_cg (h3 : ∀ j, j < 7 → W j = W' j) (hI : zP3 D.1 W) (h : zKe D E) : zOe W (zTuF cr W x D) (zTuF cr W' x E) := by
  obtain ⟨p, s, w, e⟩ := h
  have eT := zTurn_cg p s h3 x
  unfold zTuF
  by_cases q : zHas cr x ∧ ¬ zTurn D.1 D.2.1 W x = -1
  · rw [if_pos q, if_pos ⟨q.1, by rw [← eT]; exact q.2⟩]
    exact Or.inr ⟨_, _, rfl, rfl, ⟨zPost_cg p s h3 x, s, w, e⟩, zPost_I hI x⟩
  · refine Or.inl ⟨if_neg q, if_neg (fun z => q ⟨z.1, by rw [eT]; exact z.2⟩)⟩
theorem zAdF_cg (hI : zP3 D.1 W) (h : zKe D E) : zOe W (zAdF cr x D) (zAdF cr x E) := by
  obtain ⟨p, s, w, e⟩ := h
  unfold zAdF
  by_cases q : zHas cr x ∧ (D.2.2.1 x.toNatClampNeg).toInt < 99
  · have ex := z_clI q.1.1
    have eH := w x.toNatClampNeg (by have := q.1.2.2; omega)
    rw [if_pos q, if_pos ⟨q.1, by rw [← eH]; exact q.2⟩]
    exact Or.inr ⟨_, _, rfl, rfl, ⟨p, s, zUp_cg w (by rw [eH]), e⟩, hI⟩
  · refine Or.inl ⟨if_neg q, if_neg (fun z => q ?_)⟩
    have ex := z_clI z.1.1
    have eH := w x.toNatClampNeg (by have := z.1.2.2; omega)
    exact ⟨z.1, by rw [eH]; exact z.2⟩
theorem zShF_cg (hr : ∀ j, j < 7 → Ro j = Ro' j) (hI : zP3 D.1 W) (h : zKe D E) : zOe W (zShF cr Ro x y D) (zShF cr Ro' x y E) := by
  obtain ⟨p, s, w, e⟩ := h
  unfold zShF
  by_cases q : zHas cr x ∧ (0 ≤ y.toInt ∧ y.toInt < (Ro x.toNatClampNeg).toInt ∧ y.toInt < 4) ∧ zBit (D.2.1 x.toNatClampNeg) y = 0
  · have ex := z_clI q.1.1
    have eS := s x.toNatClampNeg (by have := q.1.2.2; omega)
    have eR := hr x.toNatClampNeg (by have := q.1.2.2; omega)
    rw [if_pos q, if_pos ⟨q.1, by rw [← eR]; exact q.2.1, by rw [← eS]; exact q.2.2⟩]
    exact Or.inr ⟨_, _, rfl, rfl, ⟨p, zUp_cg s (by rw [eS]), w, e⟩, hI⟩
  · refine Or.inl ⟨if_neg q, if_neg (fun z => q ?_)⟩
    have ex := z_clI z.1.1
    have eS := s x.toNatClampNeg (by have := z.1.2.2; omega)
    have eR := hr x.toNatClampNeg (by have := z.1.2.2; omega)
    exact ⟨z.1, by rw [eR]; exact z.2.1, by rw [eS]; exact z.2.2⟩
theorem zOpF_cg (hr : ∀ j, j < 7 → Ro j = Ro' j) (hI : zP3 D.1 W) (h : zKe D E) : zOe W (zOpF cr Ro x y D) (zOpF cr Ro' x y E) := by
  obtain ⟨p, s, w, e⟩ := h
  unfold zOpF
  by_cases q : zHas cr x ∧ (0 ≤ y.toInt ∧ y.toInt < (Ro x.toNatClampNeg).toInt ∧ y.toInt < 4) ∧ ¬ zBit (D.2.1 x.toNatClampNeg) y = 0
  · have ex := z_clI q.1.1
    have eS := s x.toNatClampNeg (by have := q.1.2.2; omega)
    have eR := hr x.toNatClampNeg (by have := q.1.2.2; omega)
    rw [if_pos q, if_pos ⟨q.1, by rw [← eR]; exact q.2.1, by rw [← eS]; exact q.2.2⟩]
    exact Or.inr ⟨_, _, rfl, rfl, ⟨p, zUp_cg s (by rw [eS]), w, e⟩, hI⟩
  · refine Or.inl ⟨if_neg q, if_neg (fun z => q ?_)⟩
    have ex := z_clI z.1.1
    have eS := s x.toNatClampNeg (by have := z.1.2.2; omega)
    have eR := hr x.toNatClampNeg (by have := z.1.2.2; omega)
    exact ⟨z.1, by rw [eR]; exact z.2.1, by rw [eS]; exact z.2.2⟩
theorem zDe_cg (h3 : ∀ j, j < 7 → W j = W' j) (hr : ∀ j, j < 7 → Ro j = Ro' j) (hl : zLs W L L') (d : Int32) (hI : zP3 D.1 W) (h : zKe D E) : zOe W (zDe cr inn W Ro L d x y D) (zDe cr inn W' Ro' L' d x y E) := by
  by_cases d0 : d.toInt = 0
  · rw [zDe_k0 d0, zDe_k0 d0]; exact zGoF_cg h3 hl hI h
  by_cases d1 : d.toInt = 1
  · rw [zDe_k1 d1, zDe_k1 d1]; exact zRuF_cg h3 hl hI h
  by_cases d2 : d.toInt = 2
  · rw [zDe_k2 d2, zDe_k2 d2]; exact zTuF_cg h3 hI h
  by_cases d3 : d.toInt = 3
  · rw [zDe_k3 d3, zDe_k3 d3]; exact zAdF_cg hI h
  by_cases d4 : d.toInt = 4
  · rw [zDe_k4 d4, zDe_k4 d4]; exact zShF_cg hr hI h
  by_cases d5 : d.toInt = 5
  · rw [zDe_k5 d5, zDe_k5 d5]; exact zOpF_cg hr hI h
  rw [zDe_kn (by omega), zDe_kn (by omega)]
  exact Or.inl ⟨rfl, rfl⟩
end ZCG
theorem zDayN_cg {W : Nat → Int32} {F F' : Nat → zK → Option zK} : ∀ (n k : Nat) (D E : zK), zP3 D.1 W → zKe D E → (∀ j, k ≤ j → j < k + n → ∀ D E, zP3 D.1 W → zKe D E → zOe W (F j D) (F' j E)) → (zDayN F n k D).1 = (zDayN F' n k E).1 ∧ zKe (zDayN F n k D).2 (zDayN F' n k E).2
  | 0, k, D, E, _, h, _ => ⟨rfl, h⟩
  | n + 1, k, D, E, hI, h, hF => by
    rcases hF k (Nat.le_refl k) (by omega) D E hI h with ⟨a, b⟩ | ⟨D2, E2, a, b, h2, hI2⟩
    · rw [zDayN_n a, zDayN_n b]
      exact ⟨rfl, h⟩
    · rw [zDayN_s a, zDayN_s b]
      exact zDayN_cg n (k + 1) D2 E2 hI2 h2 (fun j h1 h3 => hF j (by omega) (by omega))
/-- what holds of a day's run, told by the class's rows; told by the record's -/
def kDay (cr inn : Int32) (k1 k2 k3 k4 : Nat → Int32) (dd : Int32) (d1 d2 d3 : Nat → Int32) (n : Int32) (Q : Nat × zK → Prop) : Prop := ∃ P0 S0 W0 H0 : Nat → Int32, (zP3 P0 W0 ∧ (∀ j, j < 7 → P0 j = k3 j) ∧ (∀ j, j < 7 → S0 j = 0) ∧ (∀ j, j < 7 → W0 j = zWays cr inn k1 (nI j)) ∧ ∀ j, j < 7 → H0 j = k4 j) ∧ Q (zDayN (fun k D => zDe cr inn W0 k1 k2 (d1 k) (d2 k) (d3 k) D) (min (min n.toInt dd.toInt) 40).toNat 0 (P0, S0, H0, 0, 0))
def pDay9 (f : Nat → Int32) (z : Int32) (d : Nat) (n : Int32) (Q : Nat × zK → Prop) : Prop := ∃ P0 S0 H0 : Nat → Int32, ((∀ j, j < 7 → P0 j = zPo f z j) ∧ (∀ j, j < 7 → S0 j = 0) ∧ ∀ j, j < 7 → H0 j = f (z.toInt.toNat + (16 + j))) ∧ Q (zDayN (fun k D => zDe (f z.toInt.toNat) (f (z.toInt.toNat + 1)) (pW f z) (zRo f z) (zLo f z) (f (d + (1 + 3 * k))) (f (d + (2 + 3 * k))) (f (d + (3 + 3 * k))) D) (min (min n.toInt (f d).toInt) 40).toNat 0 (P0, S0, H0, 0, 0))
theorem kDay_e {cr inn z dd n : Int32} {k1 k2 k3 k4 d1 d2 d3 f : Nat → Int32} {B d : Nat} {Q Q' : Nat × zK → Prop} (h : zLnd cr inn k1 k2 k3 k4 (fun j => f (B + j))) (hF : zLF (fun j => f (B + j))) (hz : z.toInt.toNat = B) (hd : zDyd dd d1 d2 d3 (fun j => f (d + j))) (F1 : kDay cr inn k1 k2 k3 k4 dd d1 d2 d3 n Q) (F2 : pDay9 f z d n Q') : ∃ R R' : Nat × zK, Q R ∧ Q' R' ∧ R.1 = R'.1 ∧ zKe R.2 R'.2 := by
  obtain ⟨a1, a2, a3, a4, a5, a6⟩ := zLnd_w h hF hz
  obtain ⟨-, -, -, hk, -⟩ := h
  obtain ⟨e0, -, e1⟩ := hd
  have e0 : dd = f d := e0
  have e1 : ∀ j : Nat, (j : Int) < (f d).toInt → d1 j = f (d + (1 + 3 * j)) ∧ d2 j = f (d + (2 + 3 * j)) ∧ d3 j = f (d + (3 + 3 * j)) := e1
  obtain ⟨P0, S0, W0, H0, ⟨b0, b1, b2, b3, b4⟩, x⟩ := F1
  obtain ⟨P1, S1, H1, ⟨c1, c2, c4⟩, y⟩ := F2
  refine ⟨_, _, x, y, ?_⟩
  rw [← a5, ← a6, ← e0]
  refine zDayN_cg (W := W0) _ 0 _ _ b0 ⟨fun j hj => (b1 j hj).trans ((a3 j hj).trans (c1 j hj).symm), fun j hj => (b2 j hj).trans (c2 j hj).symm, fun j hj => (b4 j hj).trans ((hk j hj).2.2.trans ?_), rfl⟩ ?_
  · show f (B + (16 + j)) = H1 j
    rw [c4 j hj, hz]
  · intro j _ hj D E hI hDE
    have t := e1 j (by rw [← e0]; omega)
    show zOe W0 (zDe cr inn W0 k1 k2 (d1 j) (d2 j) (d3 j) D) (zDe cr inn (pW f z) (zRo f z) (zLo f z) (f (d + (1 + 3 * j))) (f (d + (2 + 3 * j))) (f (d + (3 + 3 * j))) E)
    rw [t.1, t.2.1, t.2.2]
    refine zDe_cg (fun q hq => (b3 q hq).trans (a1 q hq)) (fun q hq => (hk q hq).1.trans ?_) (zLs_c a2 (fun q hq => b3 q hq)) _ hI hDE
    unfold zRo
    rw [hz]
theorem zA_4 {r r' x y no : Int32} {fk f : Nat → Int32} {A0 A1 A2 A3 B0 B1 B2 B3 : Int32 → Prop} (hk : fk 0 = f 0) (hk1 : fk 1 = f 1) (hq : (f 0).toInt ≤ 2) (hq1 : (f 1).toInt ≤ 2) (F1 : ((x.toInt < 0 ∨ (fk 0).toInt ≤ x.toInt ∨ 2 ≤ x.toInt) ∨ (y.toInt < 0 ∨ (fk 1).toInt ≤ y.toInt ∨ 2 ≤ y.toInt)) ∧ r = no ∨ (x.toInt = 0 ∧ 0 < (fk 0).toInt) ∧ (y.toInt = 0 ∧ 0 < (fk 1).toInt) ∧ A0 r ∨ (x.toInt = 0 ∧ 0 < (fk 0).toInt) ∧ (y.toInt = 1 ∧ 1 < (fk 1).toInt) ∧ A1 r ∨ (x.toInt = 1 ∧ 1 < (fk 0).toInt) ∧ (y.toInt = 0 ∧ 0 < (fk 1).toInt) ∧ A2 r ∨ (x.toInt = 1 ∧ 1 < (fk 0).toInt) ∧ (y.toInt = 1 ∧ 1 < (fk 1).toInt) ∧ A3 r) (F2 : ((x.toInt < 0 ∨ (f 0).toInt ≤ x.toInt) ∨ (y.toInt < 0 ∨ (f 1).toInt ≤ y.toInt)) ∧ r' = no ∨ (x.toInt = 0 ∧ 0 < (f 0).toInt) ∧ (y.toInt = 0 ∧ 0 < (f 1).toInt) ∧ B0 r' ∨ (x.toInt = 0 ∧ 0 < (f 0).toInt) ∧ (y.toInt = 1 ∧ 1 < (f 1).toInt) ∧ B1 r' ∨ (x.toInt = 1 ∧ 1 < (f 0).toInt) ∧ (y.toInt = 0 ∧ 0 < (f 1).toInt) ∧ B2 r' ∨ (x.toInt = 1 ∧ 1 < (f 0).toInt) ∧ (y.toInt = 1 ∧ 1 < (f 1).toInt) ∧ B3 r') (e0 : A0 r → B0 r' → r = r') (e1 : A1 r → B1 r' → r = r') (e2 : A2 r → B2 r' → r = r') (e3 : A3 r → B3 r' → r = r') : r = r' := by
  rw [hk, hk1] at F1
  rcases F1 with ⟨a, b⟩ | ⟨a, b, c⟩ | ⟨a, b, c⟩ | ⟨a, b, c⟩ | ⟨a, b, c⟩ <;> rcases F2 with ⟨d, e⟩ | ⟨d, e, g⟩ | ⟨d, e, g⟩ | ⟨d, e, g⟩ | ⟨d, e, g⟩ <;> first | (exfalso; omega) | (rw [b, e]; done) | exact e0 c g | exact e1 c g | exact e2 c g | exact e3 c g
theorem zVD_0 {f : Nat → Int32} (h : zVD f) (q : Nat) (hq : q < 2) : zDyv f (712 + 121 * q) := by
  have t := (h 0 q (by decide) hq).1
  intro j hj
  have a := t j
  have e0 : f (988 * 0 + (712 + 121 * q + 0)) = f (712 + 121 * q) := congrArg f (by omega)
  have e1 : f (988 * 0 + (712 + 121 * q + (1 + 3 * j))) = f (712 + 121 * q + (1 + 3 * j)) := congrArg f (by omega)
  have e3 : f (988 * 0 + (712 + 121 * q + (3 + 3 * j))) = f (712 + 121 * q + (3 + 3 * j)) := congrArg f (by omega)
  have a : (j : Int) < (f (988 * 0 + (712 + 121 * q + 0))).toInt → (0 ≤ (f (988 * 0 + (712 + 121 * q + (1 + 3 * j)))).toInt ∧ (f (988 * 0 + (712 + 121 * q + (1 + 3 * j)))).toInt ≤ 5) ∧ (4 ≤ (f (988 * 0 + (712 + 121 * q + (1 + 3 * j)))).toInt → 0 ≤ (f (988 * 0 + (712 + 121 * q + (3 + 3 * j)))).toInt ∧ (f (988 * 0 + (712 + 121 * q + (3 + 3 * j)))).toInt ≤ 3) := a
  rw [e0, e1, e3] at a
  exact a hj
theorem zWk_b {f H : Nat → Int32} {z cr : Int32} (h : zML f z cr) (e : ∀ j, j < 7 → H j = zWk f z j) : zHB 9 H := fun j hj => by
  rw [e j hj]
  exact (h.2.2.2.1 j hj).2.2
theorem zS0_b {S : Nat → Int32} (e : ∀ j, j < 7 → S j = 0) : zS15 S := fun j hj => by
  rw [e j hj]
  decide
/-- walkers of the first crossings, of inns alone (b) or of all -/
def zSumW (inn b : Int32) (H : Nat → Int32) : Nat → Int32
  | 0 => 0
  | i + 1 => zSumW inn b H i + (if b = 0 ∨ zBit inn (nI i) = 1 then H i else 0)
theorem zSumW_y {inn b u : Int32} {H : Nat → Int32} {i : Nat} (h : u = zSumW inn b H i) (q : b = 0 ∨ zBit inn (nI i) = 1) : u + H i = zSumW inn b H (i + 1) := by
  rw [zSumW, if_pos q, h]
theorem zSumW_n {inn b u : Int32} {H : Nat → Int32} {i : Nat} (h : u = zSumW inn b H i) (q : ¬ b = 0) (q2 : ¬ zBit inn (nI i) = 1) : u + 0 = zSumW inn b H (i + 1) := by
  rw [zSumW, if_neg (fun z => z.elim q q2), h]
theorem zSumW_cg {inn b : Int32} {H H' : Nat → Int32} (h : ∀ j, j < 7 → H j = H' j) : ∀ i, i ≤ 7 → zSumW inn b H i = zSumW inn b H' i
  | 0, _ => rfl
  | i + 1, hi => by rw [zSumW, zSumW, zSumW_cg h i (by omega), h i (by omega)]
/-- what is told of a day's state -/
def zNow (cr inn : Int32) (D : zK) (w : Int32) : Int32 := if w.toInt = 0 then D.2.2.2.1 else if w.toInt = 1 then zSumW inn 1 D.2.2.1 cr.toInt.toNat else if w.toInt = 2 then zSumW inn 0 D.2.2.1 cr.toInt.toNat else if w.toInt = 3 then D.2.2.2.2 else if 10 ≤ w.toInt ∧ w.toInt < 40 ∧ w.toInt % 10 < cr.toInt then (if w.toInt < 20 then D.1 (w.toInt % 10).toNat else if w.toInt < 30 then D.2.2.1 (w.toInt % 10).toNat else D.2.1 (w.toInt % 10).toNat) else -2
section ZNOW
variable {cr inn w st nv : Int32} {P S H : Nat → Int32} {i : Nat}
theorem zNow_0 (h : w.toInt = 0) : st = zNow cr inn (P, S, H, st, nv) w := (if_pos h).symm
theorem zNow_1 (h : w.toInt = 1) : zSumW inn 1 H cr.toInt.toNat = zNow cr inn (P, S, H, st, nv) w := by
  unfold zNow
  rw [if_neg (by omega), if_pos h]
theorem zNow_2 (h : w.toInt = 2) : zSumW inn 0 H cr.toInt.toNat = zNow cr inn (P, S, H, st, nv) w := by
  unfold zNow
  rw [if_neg (by omega), if_neg (by omega), if_pos h]
theorem zNow_3 (h : w.toInt = 3) : nv = zNow cr inn (P, S, H, st, nv) w := by
  unfold zNow
  rw [if_neg (by omega), if_neg (by omega), if_neg (by omega), if_pos h]
theorem zNow_p (h : 10 ≤ w.toInt ∧ w.toInt < 20 ∧ w.toInt % 10 < cr.toInt) (e : (i : Int) = w.toInt % 10) : P i = zNow cr inn (P, S, H, st, nv) w := by
  unfold zNow
  rw [if_neg (by omega), if_neg (by omega), if_neg (by omega), if_neg (by omega), if_pos ⟨h.1, by omega, h.2.2⟩, if_pos h.2.1]
  exact congrArg P (by omega)
theorem zNow_h (h : 20 ≤ w.toInt ∧ w.toInt < 30 ∧ w.toInt % 10 < cr.toInt) (e : (i : Int) = w.toInt % 10) : H i = zNow cr inn (P, S, H, st, nv) w := by
  unfold zNow
  rw [if_neg (by omega), if_neg (by omega), if_neg (by omega), if_neg (by omega), if_pos ⟨by omega, by omega, h.2.2⟩, if_neg (by omega), if_pos h.2.1]
  exact congrArg H (by omega)
theorem zNow_s (h : 30 ≤ w.toInt ∧ w.toInt < 40 ∧ w.toInt % 10 < cr.toInt) (e : (i : Int) = w.toInt % 10) : S i = zNow cr inn (P, S, H, st, nv) w := by
  unfold zNow
  rw [if_neg (by omega), if_neg (by omega), if_neg (by omega), if_neg (by omega), if_pos ⟨by omega, by omega, h.2.2⟩, if_neg (by omega), if_neg (by omega)]
  exact congrArg S (by omega)
theorem zNow_n (h : w.toInt < 0 ∨ 3 < w.toInt) (q : w.toInt < 10 ∨ 39 < w.toInt ∨ cr.toInt ≤ w.toInt % 10) : -2 = zNow cr inn (P, S, H, st, nv) w := by
  unfold zNow
  rw [if_neg (by omega), if_neg (by omega), if_neg (by omega), if_neg (by omega), if_neg (by omega)]
end ZNOW
theorem zNow_cg {cr inn w : Int32} {D E : zK} (hc : 0 ≤ cr.toInt ∧ cr.toInt ≤ 7) (h : zKe D E) : zNow cr inn D w = zNow cr inn E w := by
  obtain ⟨p, s, H, e⟩ := h
  unfold zNow
  rw [zSumW_cg H _ (by omega), zSumW_cg H _ (by omega), e]
  by_cases q : 10 ≤ w.toInt ∧ w.toInt < 40 ∧ w.toInt % 10 < cr.toInt
  · rw [p _ (by omega), s _ (by omega), H _ (by omega)]
  · rw [if_neg q, if_neg q]
theorem zDayN_le {F : Nat → zK → Option zK} : ∀ (n k : Nat) (D : zK), (zDayN F n k D).1 ≤ k + n
  | 0, k, D => Nat.le_refl _
  | n + 1, k, D => by
    cases h : F k D with
    | none => rw [zDayN_n h]; show k ≤ k + (n + 1); omega
    | some E =>
      rw [zDayN_s h]
      have := zDayN_le (F := F) n (k + 1) E
      omega
def kState (cr inn : Int32) (k1 k2 k3 k4 : Nat → Int32) (dd : Int32) (d1 d2 d3 : Nat → Int32) (n w r : Int32) : Prop := ((n.toInt < 0 ∨ dd.toInt < n.toInt) ∧ r = -2) ∨ ((0 ≤ n.toInt ∧ n.toInt ≤ dd.toInt) ∧ kDay cr inn k1 k2 k3 k4 dd d1 d2 d3 n (fun R => (¬ nI R.1 = n ∧ r = -2) ∨ (nI R.1 = n ∧ r = zNow cr inn R.2 w)))
def pState (f : Nat → Int32) (z : Int32) (d : Nat) (n w r : Int32) : Prop := (n.toInt < 0 ∧ r = -2) ∨ (0 ≤ n.toInt ∧ pDay9 f z d n (fun R => (¬ nI R.1 = n ∧ r = -2) ∨ (nI R.1 = n ∧ r = zNow (f z.toInt.toNat) (f (z.toInt.toNat + 1)) R.2 w)))
theorem kState_e {cr inn z dd n w r r' : Int32} {k1 k2 k3 k4 d1 d2 d3 f : Nat → Int32} {B d : Nat} (h : zLnd cr inn k1 k2 k3 k4 (fun j => f (B + j))) (hF : zLF (fun j => f (B + j))) (hz : z.toInt.toNat = B) (hd : zDyd dd d1 d2 d3 (fun j => f (d + j))) (F1 : kState cr inn k1 k2 k3 k4 dd d1 d2 d3 n w r) (F2 : pState f z d n w r') : r = r' := by
  have e0 : dd = f d := hd.1
  have hd0 : 0 ≤ (f d).toInt := hd.2.1.1
  have hc : 0 ≤ (f B).toInt ∧ (f B).toInt ≤ 7 := hF.1
  have w := zLnd_w h hF hz
  rcases F1 with ⟨a, x⟩ | ⟨a, x⟩ <;> rcases F2 with ⟨b, y⟩ | ⟨b, y⟩
  · rw [x, y]
  · obtain ⟨P1, S1, H1, -, y⟩ := y
    have t := zDayN_le (F := fun k D => zDe (f z.toInt.toNat) (f (z.toInt.toNat + 1)) (pW f z) (zRo f z) (zLo f z) (f (d + (1 + 3 * k))) (f (d + (2 + 3 * k))) (f (d + (3 + 3 * k))) D) (min (min n.toInt (f d).toInt) 40).toNat 0 (P1, S1, H1, 0, 0)
    rw [x]
    rcases y with ⟨-, y⟩ | ⟨q, -⟩
    · exact y.symm
    · exfalso
      have e := congrArg Int32.toInt q
      rw [nI_toInt (by omega)] at e
      rw [e0] at a
      omega
  · exfalso; omega
  · obtain ⟨R, R', x, y, e, eK⟩ := kDay_e h hF hz hd x y
    rcases x with ⟨p, x⟩ | ⟨p, x⟩ <;> rcases y with ⟨q, y⟩ | ⟨q, y⟩
    · rw [x, y]
    · exact absurd (by rw [e]; exact q) p
    · exact absurd (by rw [← e]; exact p) q
    · rw [x, y, ← w.2.2.2.2.1, ← w.2.2.2.2.2]
      exact zNow_cg (by rw [w.2.2.2.2.1, hz]; exact hc) eK
set_option maxHeartbeats 4000000 in
set_option maxRecDepth 100000 in
/-- c_f_walkersInAll -/
theorem c_f_walkersInAll (l : Launch) (T : zTy) (h : Nat) (po : Nat) (la : Nat) (fw : Nat → Int32) (v0 : Int32) (v1 : Int32) (v2 : Int32) (v3 : Int32) (v4 : Int32) (v5 : Int32) (v6 : Int32) (v7 : Int32) (wc : va_W) (cr : Int32) (inn : Int32) (k1 : Nat → Int32) (k2 : Nat → Int32) (k3 : Nat → Int32) (k4 : Nat → Int32) (z : va_W) (b : Int32) (hc : bCourse T h po la fw v0 v1 v2 v3 v4 v5 v6 v7 wc) (hz : bLand T la cr inn k1 k2 k3 k4 z) (hI : zLI cr k1 k3) : zMi l T yX1_walkersInAll cX1_walkersInAll 4 (some .int) 3 0 0 [.ref h, .int b] [wc, z] (fun (r : Int32) bs => bs = [wc, z] ∧ r = zSumW inn b fw cr.toInt.toNat) := by
  refine zMi_of (own := RX1) (by decide) rfl (Nat.le_of_ble_eq_true rfl) ?_
  intro p e s m args below meth c A ls C hr hlocks hnm hAe G hl
  have hx := C.1
  have hb := C.2.1
  have hl : lv_has ls 4 [(0, .ref h), (1, .int b)] := hl
  have hcr := hI.1
  refine lv_iconst (v := 0) hx hb dX1_walkersInAll_0 (by decide) ?_
  refine lv_istore_n (lv' := [(2, .int 0), (0, .ref h), (1, .int b)]) hx hb dX1_walkersInAll_1 rfl hl (by decide) rfl (fun ls hl => ?_)
  refine lv_iconst (v := 0) hx hb dX1_walkersInAll_2 (by decide) ?_
  refine lv_istore_n (lv' := [(3, .int 0), (2, .int 0), (0, .ref h), (1, .int b)]) hx hb dX1_walkersInAll_3 rfl hl (by decide) rfl (fun ls hl => ?_)
  obtain ⟨a1_1, rfl⟩ := hc
  have G : zS T A s.heap s [[(h, .inr (1, [.ref po, .ref a1_1, .int v0, .ref la, .int v1, .int v2, .int v3, .int v4, .int v5, .int v6, .int v7]))], [(a1_1, .inl (T.2 0, 7, .inl fw))], z] _ _ := G.re rfl
  obtain ⟨a1_2, a2_3, a3_4, a4_5, rfl⟩ := hz
  have G : zS T A s.heap s [[(h, .inr (1, [.ref po, .ref a1_1, .int v0, .ref la, .int v1, .int v2, .int v3, .int v4, .int v5, .int v6, .int v7]))], [(a1_1, .inl (T.2 0, 7, .inl fw))], [(la, .inr (4, [.int cr, .int inn, .ref a1_2, .ref a2_3, .ref a3_4, .ref a4_5]))], [(a1_2, .inl (T.2 0, 7, .inl k1))], [(a2_3, .inl (T.2 0, 28, .inl k2))], [(a3_4, .inl (T.2 0, 7, .inl k3))], [(a4_5, .inl (T.2 0, 7, .inl k4))]] _ _ := G.re rfl
  have hw_6 : bCourse T h po la fw v0 v1 v2 v3 v4 v5 v6 v7 [(h, .inr (1, [.ref po, .ref a1_1, .int v0, .ref la, .int v1, .int v2, .int v3, .int v4, .int v5, .int v6, .int v7])), (a1_1, .inl (T.2 0, 7, .inl fw))] := ⟨a1_1, rfl⟩
  have G : zS T A s.heap s [[(h, .inr (1, [.ref po, .ref a1_1, .int v0, .ref la, .int v1, .int v2, .int v3, .int v4, .int v5, .int v6, .int v7])), (a1_1, .inl (T.2 0, 7, .inl fw))], [(la, .inr (4, [.int cr, .int inn, .ref a1_2, .ref a2_3, .ref a3_4, .ref a4_5]))], [(a1_2, .inl (T.2 0, 7, .inl k1))], [(a2_3, .inl (T.2 0, 28, .inl k2))], [(a3_4, .inl (T.2 0, 7, .inl k3))], [(a4_5, .inl (T.2 0, 7, .inl k4))]] _ _ := G.re rfl
  have hw_7 : bLand T la cr inn k1 k2 k3 k4 [(la, .inr (4, [.int cr, .int inn, .ref a1_2, .ref a2_3, .ref a3_4, .ref a4_5])), (a1_2, .inl (T.2 0, 7, .inl k1)), (a2_3, .inl (T.2 0, 28, .inl k2)), (a3_4, .inl (T.2 0, 7, .inl k3)), (a4_5, .inl (T.2 0, 7, .inl k4))] := ⟨a1_2, a2_3, a3_4, a4_5, rfl⟩
  have G : zS T A s.heap s [[(h, .inr (1, [.ref po, .ref a1_1, .int v0, .ref la, .int v1, .int v2, .int v3, .int v4, .int v5, .int v6, .int v7])), (a1_1, .inl (T.2 0, 7, .inl fw))], [(la, .inr (4, [.int cr, .int inn, .ref a1_2, .ref a2_3, .ref a3_4, .ref a4_5])), (a1_2, .inl (T.2 0, 7, .inl k1)), (a2_3, .inl (T.2 0, 28, .inl k2)), (a3_4, .inl (T.2 0, 7, .inl k3)), (a4_5, .inl (T.2 0, 7, .inl k4))]] _ _ := G.re rfl
  refine z_loop (T := T) (α := Nat × Int32) 4 (fun (i, u) => [[(h, .inr (1, [.ref po, .ref a1_1, .int v0, .ref la, .int v1, .int v2, .int v3, .int v4, .int v5, .int v6, .int v7])), (a1_1, .inl (T.2 0, 7, .inl fw))], [(la, .inr (4, [.int cr, .int inn, .ref a1_2, .ref a2_3, .ref a3_4, .ref a4_5])), (a1_2, .inl (T.2 0, 7, .inl k1)), (a2_3, .inl (T.2 0, 28, .inl k2)), (a3_4, .inl (T.2 0, 7, .inl k3)), (a4_5, .inl (T.2 0, 7, .inl k4))]]) (fun (i, u) => [(3, .int (nI i)), (2, .int u), (0, .ref h), (1, .int b)]) (fun (i, u) => i ≤ cr.toInt.toNat ∧ i ≤ 7 ∧ u = zSumW inn b fw i) (fun (i, u) => 7 - i) ?_ (0, 0) (show 0 ≤ cr.toInt.toNat ∧ 0 ≤ 7 ∧ 0 = zSumW inn b fw 0 from ⟨by omega, by omega, rfl⟩) G (lv_sub hl [0, 1, 2, 3] rfl)
  rintro ⟨i, u⟩ ⟨hi, hi7, hU⟩ ih_4 H locs ls G hl
  replace hi : i ≤ cr.toInt.toNat := hi
  replace hi7 : i ≤ 7 := hi7
  replace hU : u = zSumW inn b fw i := hU
  replace G : zS T A s.heap s [[(h, .inr (1, [.ref po, .ref a1_1, .int v0, .ref la, .int v1, .int v2, .int v3, .int v4, .int v5, .int v6, .int v7])), (a1_1, .inl (T.2 0, 7, .inl fw))], [(la, .inr (4, [.int cr, .int inn, .ref a1_2, .ref a2_3, .ref a3_4, .ref a4_5])), (a1_2, .inl (T.2 0, 7, .inl k1)), (a2_3, .inl (T.2 0, 28, .inl k2)), (a3_4, .inl (T.2 0, 7, .inl k3)), (a4_5, .inl (T.2 0, 7, .inl k4))]] _ _ := G
  replace hl : lv_has ls 4 [(3, .int (nI i)), (2, .int u), (0, .ref h), (1, .int b)] := hl
  refine lv_iload_n hx hb dX1_walkersInAll_4 rfl (lv_at hl 0 rfl) ?_
  refine lv_aload_n hx hb dX1_walkersInAll_5 rfl (lv_at hl 2 rfl) ?_
  have G : zS T A s.heap s [[(h, .inr (1, [.ref po, .ref a1_1, .int v0, .ref la, .int v1, .int v2, .int v3, .int v4, .int v5, .int v6, .int v7]))], [(a1_1, .inl (T.2 0, 7, .inl fw))], [(la, .inr (4, [.int cr, .int inn, .ref a1_2, .ref a2_3, .ref a3_4, .ref a4_5])), (a1_2, .inl (T.2 0, 7, .inl k1)), (a2_3, .inl (T.2 0, 28, .inl k2)), (a3_4, .inl (T.2 0, 7, .inl k3)), (a4_5, .inl (T.2 0, 7, .inl k4))]] _ _ := G.re rfl
  refine z_get C G clX1 0 rfl 3 (by decide) m_fl_RX1_25 rfl dX1_walkersInAll_6 ?_
  have G : zS T A s.heap s [[(h, .inr (1, [.ref po, .ref a1_1, .int v0, .ref la, .int v1, .int v2, .int v3, .int v4, .int v5, .int v6, .int v7]))], [(a1_1, .inl (T.2 0, 7, .inl fw))], [(la, .inr (4, [.int cr, .int inn, .ref a1_2, .ref a2_3, .ref a3_4, .ref a4_5]))], [(a1_2, .inl (T.2 0, 7, .inl k1))], [(a2_3, .inl (T.2 0, 28, .inl k2))], [(a3_4, .inl (T.2 0, 7, .inl k3))], [(a4_5, .inl (T.2 0, 7, .inl k4))]] _ _ := G.re rfl
  refine z_get C G clX4 2 rfl 0 (by decide) m_fl_RX1_88 rfl dX1_walkersInAll_9 ?_
  refine lv_icmp_ge (tgt := 55) hx hb dX1_walkersInAll_12 (by decide) (fun c_8 => ?_) (fun c_8 => ?_)
  · have c_8n : cr.toInt ≤ (i : Int) := by have q := (fa_le _ _).mp c_8; rw [nI_toInt (n := i) (by omega)] at q; exact q
    refine lv_iload_n hx hb dX1_walkersInAll_55 rfl (lv_at hl 1 rfl) ?_
    have hw_9 : bCourse T h po la fw v0 v1 v2 v3 v4 v5 v6 v7 [(h, .inr (1, [.ref po, .ref a1_1, .int v0, .ref la, .int v1, .int v2, .int v3, .int v4, .int v5, .int v6, .int v7])), (a1_1, .inl (T.2 0, 7, .inl fw))] := ⟨a1_1, rfl⟩
    have G : zS T A s.heap s [[(h, .inr (1, [.ref po, .ref a1_1, .int v0, .ref la, .int v1, .int v2, .int v3, .int v4, .int v5, .int v6, .int v7])), (a1_1, .inl (T.2 0, 7, .inl fw))], [(la, .inr (4, [.int cr, .int inn, .ref a1_2, .ref a2_3, .ref a3_4, .ref a4_5]))], [(a1_2, .inl (T.2 0, 7, .inl k1))], [(a2_3, .inl (T.2 0, 28, .inl k2))], [(a3_4, .inl (T.2 0, 7, .inl k3))], [(a4_5, .inl (T.2 0, 7, .inl k4))]] _ _ := G.re rfl
    have hw_10 : bLand T la cr inn k1 k2 k3 k4 [(la, .inr (4, [.int cr, .int inn, .ref a1_2, .ref a2_3, .ref a3_4, .ref a4_5])), (a1_2, .inl (T.2 0, 7, .inl k1)), (a2_3, .inl (T.2 0, 28, .inl k2)), (a3_4, .inl (T.2 0, 7, .inl k3)), (a4_5, .inl (T.2 0, 7, .inl k4))] := ⟨a1_2, a2_3, a3_4, a4_5, rfl⟩
    have G : zS T A s.heap s [[(h, .inr (1, [.ref po, .ref a1_1, .int v0, .ref la, .int v1, .int v2, .int v3, .int v4, .int v5, .int v6, .int v7])), (a1_1, .inl (T.2 0, 7, .inl fw))], [(la, .inr (4, [.int cr, .int inn, .ref a1_2, .ref a2_3, .ref a3_4, .ref a4_5])), (a1_2, .inl (T.2 0, 7, .inl k1)), (a2_3, .inl (T.2 0, 28, .inl k2)), (a3_4, .inl (T.2 0, 7, .inl k3)), (a4_5, .inl (T.2 0, 7, .inl k4))]] _ _ := G.re rfl
    exact z_iret C hr hlocks G (Nat.le_of_ble_eq_true rfl) (Nat.le_of_ble_eq_true rfl) dX1_walkersInAll_56 ⟨rfl, (by rw [hU, show i = cr.toInt.toNat by omega])⟩
  · have c_8n : ¬ cr.toInt ≤ (i : Int) := fun q => c_8 ((fa_le _ _).mpr (by rw [nI_toInt (n := i) (by omega)]; exact q))
    refine lv_iload_n hx hb dX1_walkersInAll_15 rfl (lv_at hl 0 rfl) ?_
    refine lv_bipush (v := 7) hx hb dX1_walkersInAll_16 (by decide) ?_
    refine lv_icmp_ge (tgt := 55) hx hb dX1_walkersInAll_18 (by decide) (fun c_11 => ?_) (fun c_11 => ?_)
    · have c_11n : 7 ≤ i := (nI_leI (a := 7) (b := i) (by omega) (by omega)).mp c_11
      refine lv_iload_n hx hb dX1_walkersInAll_55 rfl (lv_at hl 1 rfl) ?_
      have hw_12 : bCourse T h po la fw v0 v1 v2 v3 v4 v5 v6 v7 [(h, .inr (1, [.ref po, .ref a1_1, .int v0, .ref la, .int v1, .int v2, .int v3, .int v4, .int v5, .int v6, .int v7])), (a1_1, .inl (T.2 0, 7, .inl fw))] := ⟨a1_1, rfl⟩
      have G : zS T A s.heap s [[(h, .inr (1, [.ref po, .ref a1_1, .int v0, .ref la, .int v1, .int v2, .int v3, .int v4, .int v5, .int v6, .int v7])), (a1_1, .inl (T.2 0, 7, .inl fw))], [(la, .inr (4, [.int cr, .int inn, .ref a1_2, .ref a2_3, .ref a3_4, .ref a4_5]))], [(a1_2, .inl (T.2 0, 7, .inl k1))], [(a2_3, .inl (T.2 0, 28, .inl k2))], [(a3_4, .inl (T.2 0, 7, .inl k3))], [(a4_5, .inl (T.2 0, 7, .inl k4))]] _ _ := G.re rfl
      have hw_13 : bLand T la cr inn k1 k2 k3 k4 [(la, .inr (4, [.int cr, .int inn, .ref a1_2, .ref a2_3, .ref a3_4, .ref a4_5])), (a1_2, .inl (T.2 0, 7, .inl k1)), (a2_3, .inl (T.2 0, 28, .inl k2)), (a3_4, .inl (T.2 0, 7, .inl k3)), (a4_5, .inl (T.2 0, 7, .inl k4))] := ⟨a1_2, a2_3, a3_4, a4_5, rfl⟩
      have G : zS T A s.heap s [[(h, .inr (1, [.ref po, .ref a1_1, .int v0, .ref la, .int v1, .int v2, .int v3, .int v4, .int v5, .int v6, .int v7])), (a1_1, .inl (T.2 0, 7, .inl fw))], [(la, .inr (4, [.int cr, .int inn, .ref a1_2, .ref a2_3, .ref a3_4, .ref a4_5])), (a1_2, .inl (T.2 0, 7, .inl k1)), (a2_3, .inl (T.2 0, 28, .inl k2)), (a3_4, .inl (T.2 0, 7, .inl k3)), (a4_5, .inl (T.2 0, 7, .inl k4))]] _ _ := G.re rfl
      exact z_iret C hr hlocks G (Nat.le_of_ble_eq_true rfl) (Nat.le_of_ble_eq_true rfl) dX1_walkersInAll_56 ⟨rfl, (by rw [hU, show i = cr.toInt.toNat by omega])⟩
    · have c_11n : ¬ 7 ≤ i := fun q => c_11 ((nI_leI (a := 7) (b := i) (by omega) (by omega)).mpr q)
      refine lv_iload_n hx hb dX1_walkersInAll_21 rfl (lv_at hl 1 rfl) ?_
      refine lv_iload_n hx hb dX1_walkersInAll_22 rfl (lv_at hl 3 rfl) ?_
      refine lv_if_eq (tgt := 37) hx hb dX1_walkersInAll_23 (by decide) (fun c_14 => ?_) (fun c_14 => ?_)
      · have c_14n : b.toInt = (0 : Int) := (fa_eq _ _).mp c_14
        refine lv_aload_n hx hb dX1_walkersInAll_37 rfl (lv_at hl 2 rfl) ?_
        refine z_get C G clX1 0 rfl 1 (by decide) m_fl_RX1_18 rfl dX1_walkersInAll_38 ?_
        refine lv_iload_n hx hb dX1_walkersInAll_41 rfl (lv_at hl 0 rfl) ?_
        refine z_ild C G 1 rfl (vp_in_nI (by omega) (by omega)) dX1_walkersInAll_42 ?_
        refine lv_topi (fun v_15 ev_15 => ?_)
        rw [nI_clamp (by omega)] at ev_15
        subst ev_15
        refine lv_goto (tgt := 47) hx hb dX1_walkersInAll_43 (by decide) ?_
        refine lv_iadd hx hb dX1_walkersInAll_47 ?_
        refine lv_istore_n (lv' := [(2, .int (u + (fw i))), (3, .int (nI i)), (0, .ref h), (1, .int b)]) hx hb dX1_walkersInAll_48 rfl hl (by decide) rfl (fun ls hl => ?_)
        refine lv_iinc (v := nI (i + 1)) (lv' := [(3, .int (nI (i + 1))), (2, .int (u + (fw i))), (0, .ref h), (1, .int b)]) hx hb dX1_walkersInAll_49 hl (k := 1) rfl (z_inc i 1) (by decide) rfl (fun ls hl => ?_)
        refine lv_goto (tgt := 4) hx hb dX1_walkersInAll_52 (by decide) ?_
        have hw_16 : bCourse T h po la fw v0 v1 v2 v3 v4 v5 v6 v7 [(h, .inr (1, [.ref po, .ref a1_1, .int v0, .ref la, .int v1, .int v2, .int v3, .int v4, .int v5, .int v6, .int v7])), (a1_1, .inl (T.2 0, 7, .inl fw))] := ⟨a1_1, rfl⟩
        have G : zS T A s.heap s [[(h, .inr (1, [.ref po, .ref a1_1, .int v0, .ref la, .int v1, .int v2, .int v3, .int v4, .int v5, .int v6, .int v7])), (a1_1, .inl (T.2 0, 7, .inl fw))], [(la, .inr (4, [.int cr, .int inn, .ref a1_2, .ref a2_3, .ref a3_4, .ref a4_5]))], [(a1_2, .inl (T.2 0, 7, .inl k1))], [(a2_3, .inl (T.2 0, 28, .inl k2))], [(a3_4, .inl (T.2 0, 7, .inl k3))], [(a4_5, .inl (T.2 0, 7, .inl k4))]] _ _ := G.re rfl
        have hw_17 : bLand T la cr inn k1 k2 k3 k4 [(la, .inr (4, [.int cr, .int inn, .ref a1_2, .ref a2_3, .ref a3_4, .ref a4_5])), (a1_2, .inl (T.2 0, 7, .inl k1)), (a2_3, .inl (T.2 0, 28, .inl k2)), (a3_4, .inl (T.2 0, 7, .inl k3)), (a4_5, .inl (T.2 0, 7, .inl k4))] := ⟨a1_2, a2_3, a3_4, a4_5, rfl⟩
        have G : zS T A s.heap s [[(h, .inr (1, [.ref po, .ref a1_1, .int v0, .ref la, .int v1, .int v2, .int v3, .int v4, .int v5, .int v6, .int v7])), (a1_1, .inl (T.2 0, 7, .inl fw))], [(la, .inr (4, [.int cr, .int inn, .ref a1_2, .ref a2_3, .ref a3_4, .ref a4_5])), (a1_2, .inl (T.2 0, 7, .inl k1)), (a2_3, .inl (T.2 0, 28, .inl k2)), (a3_4, .inl (T.2 0, 7, .inl k3)), (a4_5, .inl (T.2 0, 7, .inl k4))]] _ _ := G.re rfl
        exact ih_4 ((i + 1), (u + (fw i))) (show (i + 1) ≤ cr.toInt.toNat ∧ (i + 1) ≤ 7 ∧ (u + (fw i)) = zSumW inn b fw (i + 1) from ⟨by omega, by omega, (zSumW_y hU (by first | exact Or.inl (by assumption) | exact Or.inr (by assumption) | exact Or.inr (zBit_p (by assumption))))⟩) (show 7 - (i + 1) < 7 - i from by omega) _ _ ls G (lv_sub hl [0, 1, 2, 3] rfl)
      · have c_14n : ¬ b.toInt = (0 : Int) := fun q => c_14 ((fa_eq _ _).mpr q)
        refine lv_aload_n hx hb dX1_walkersInAll_26 rfl (lv_at hl 2 rfl) ?_
        refine z_get C G clX1 0 rfl 3 (by decide) m_fl_RX1_25 rfl dX1_walkersInAll_27 ?_
        refine lv_iload_n hx hb dX1_walkersInAll_30 rfl (lv_at hl 0 rfl) ?_
        have hw_18 : bLand T la cr inn k1 k2 k3 k4 [(la, .inr (4, [.int cr, .int inn, .ref a1_2, .ref a2_3, .ref a3_4, .ref a4_5])), (a1_2, .inl (T.2 0, 7, .inl k1)), (a2_3, .inl (T.2 0, 28, .inl k2)), (a3_4, .inl (T.2 0, 7, .inl k3)), (a4_5, .inl (T.2 0, 7, .inl k4))] := ⟨a1_2, a2_3, a3_4, a4_5, rfl⟩
        have G : zS T A s.heap s [[(h, .inr (1, [.ref po, .ref a1_1, .int v0, .ref la, .int v1, .int v2, .int v3, .int v4, .int v5, .int v6, .int v7]))], [(a1_1, .inl (T.2 0, 7, .inl fw))], [(la, .inr (4, [.int cr, .int inn, .ref a1_2, .ref a2_3, .ref a3_4, .ref a4_5])), (a1_2, .inl (T.2 0, 7, .inl k1)), (a2_3, .inl (T.2 0, 28, .inl k2)), (a3_4, .inl (T.2 0, 7, .inl k3)), (a4_5, .inl (T.2 0, 7, .inl k4))]] _ _ := G.re rfl
        refine z_Vi (bc := [[(la, .inr (4, [.int cr, .int inn, .ref a1_2, .ref a2_3, .ref a3_4, .ref a4_5])), (a1_2, .inl (T.2 0, 7, .inl k1)), (a2_3, .inl (T.2 0, 28, .inl k2)), (a3_4, .inl (T.2 0, 7, .inl k3)), (a4_5, .inl (T.2 0, 7, .inl k4))]]) (br := [[(h, .inr (1, [.ref po, .ref a1_1, .int v0, .ref la, .int v1, .int v2, .int v3, .int v4, .int v5, .int v6, .int v7]))], [(a1_1, .inl (T.2 0, 7, .inl fw))]]) (As := [.int (nI i)]) (rest := [.int u]) C G (c_isInn l T la cr inn k1 k2 k3 k4 ([(la, .inr (4, [.int cr, .int inn, .ref a1_2, .ref a2_3, .ref a3_4, .ref a4_5])), (a1_2, .inl (T.2 0, 7, .inl k1)), (a2_3, .inl (T.2 0, 28, .inl k2)), (a3_4, .inl (T.2 0, 7, .inl k3)), (a4_5, .inl (T.2 0, 7, .inl k4))]) (nI i) hw_18) (kV_RX1_135 C.2.2.2.2 (Nat.le_of_ble_eq_true rfl) (Nat.le_of_ble_eq_true rfl)) [2] [0, 1] rfl rfl (ci := 4) (qc := (RX4, TX4, 6)) rfl rfl (List.mem_flatten.mpr ⟨_, List.mem_of_getElem? (i := 0) rfl, (bLand_mem hw_18).choose_spec⟩) rfl rfl hl.1 dX1_walkersInAll_31 (Nat.le_of_ble_eq_true rfl) (Nat.le_of_ble_eq_true rfl) (fun r_20 b1 H locs hw G => ?_)
        obtain ⟨rfl, hc_19⟩ := hw
        have G : zS T A s.heap s [[(h, .inr (1, [.ref po, .ref a1_1, .int v0, .ref la, .int v1, .int v2, .int v3, .int v4, .int v5, .int v6, .int v7]))], [(a1_1, .inl (T.2 0, 7, .inl fw))], [(la, .inr (4, [.int cr, .int inn, .ref a1_2, .ref a2_3, .ref a3_4, .ref a4_5])), (a1_2, .inl (T.2 0, 7, .inl k1)), (a2_3, .inl (T.2 0, 28, .inl k2)), (a3_4, .inl (T.2 0, 7, .inl k3)), (a4_5, .inl (T.2 0, 7, .inl k4))]] _ _ := G
        rcases hc_19 with ⟨rfl, h_21, h_22, h_23, h_24⟩ | ⟨rfl, h_25⟩
        · have h_21 : 0 ≤ (nI i).toInt := h_21
          have h_22 : (nI i).toInt < cr.toInt := h_22
          have h_23 : (nI i).toInt < 7 := h_23
          have h_24 : ¬ zBit inn (nI i) = 0 := h_24
          refine lv_if_eq (tgt := 46) hx hb dX1_walkersInAll_34 (by decide) (fun q => absurd q (by decide)) (fun _ => ?_)
          refine lv_aload_n hx hb dX1_walkersInAll_37 rfl (lv_at hl 2 rfl) ?_
          refine z_get C G clX1 0 rfl 1 (by decide) m_fl_RX1_18 rfl dX1_walkersInAll_38 ?_
          refine lv_iload_n hx hb dX1_walkersInAll_41 rfl (lv_at hl 0 rfl) ?_
          refine z_ild C G 1 rfl (vp_in_nI (by omega) (by omega)) dX1_walkersInAll_42 ?_
          refine lv_topi (fun v_26 ev_26 => ?_)
          rw [nI_clamp (by omega)] at ev_26
          subst ev_26
          refine lv_goto (tgt := 47) hx hb dX1_walkersInAll_43 (by decide) ?_
          refine lv_iadd hx hb dX1_walkersInAll_47 ?_
          refine lv_istore_n (lv' := [(2, .int (u + (fw i))), (3, .int (nI i)), (0, .ref h), (1, .int b)]) hx hb dX1_walkersInAll_48 rfl hl (by decide) rfl (fun ls hl => ?_)
          refine lv_iinc (v := nI (i + 1)) (lv' := [(3, .int (nI (i + 1))), (2, .int (u + (fw i))), (0, .ref h), (1, .int b)]) hx hb dX1_walkersInAll_49 hl (k := 1) rfl (z_inc i 1) (by decide) rfl (fun ls hl => ?_)
          refine lv_goto (tgt := 4) hx hb dX1_walkersInAll_52 (by decide) ?_
          have hw_27 : bCourse T h po la fw v0 v1 v2 v3 v4 v5 v6 v7 [(h, .inr (1, [.ref po, .ref a1_1, .int v0, .ref la, .int v1, .int v2, .int v3, .int v4, .int v5, .int v6, .int v7])), (a1_1, .inl (T.2 0, 7, .inl fw))] := ⟨a1_1, rfl⟩
          have G : zS T A s.heap s [[(h, .inr (1, [.ref po, .ref a1_1, .int v0, .ref la, .int v1, .int v2, .int v3, .int v4, .int v5, .int v6, .int v7])), (a1_1, .inl (T.2 0, 7, .inl fw))], [(la, .inr (4, [.int cr, .int inn, .ref a1_2, .ref a2_3, .ref a3_4, .ref a4_5])), (a1_2, .inl (T.2 0, 7, .inl k1)), (a2_3, .inl (T.2 0, 28, .inl k2)), (a3_4, .inl (T.2 0, 7, .inl k3)), (a4_5, .inl (T.2 0, 7, .inl k4))]] _ _ := G.re rfl
          exact ih_4 ((i + 1), (u + (fw i))) (show (i + 1) ≤ cr.toInt.toNat ∧ (i + 1) ≤ 7 ∧ (u + (fw i)) = zSumW inn b fw (i + 1) from ⟨by omega, by omega, (zSumW_y hU (by first | exact Or.inl (by assumption) | exact Or.inr (by assumption) | exact Or.inr (zBit_p (by assumption))))⟩) (show 7 - (i + 1) < 7 - i from by omega) _ _ ls G (lv_sub hl [0, 1, 2, 3] rfl)
        · have h_25 : ((nI i).toInt < 0 ∨ cr.toInt ≤ (nI i).toInt ∨ 7 ≤ (nI i).toInt ∨ zBit inn (nI i) = 0) := h_25
          have ti9 := nI_toInt (n := i) (by omega)
          have hni := h_25
          refine lv_if_eq (tgt := 46) hx hb dX1_walkersInAll_34 (by decide) (fun _ => ?_) (fun q => absurd (by decide) q)
          refine lv_iconst (v := 0) hx hb dX1_walkersInAll_46 (by decide) ?_
          refine lv_iadd hx hb dX1_walkersInAll_47 ?_
          refine lv_istore_n (lv' := [(2, .int (u + 0)), (3, .int (nI i)), (0, .ref h), (1, .int b)]) hx hb dX1_walkersInAll_48 rfl hl (by decide) rfl (fun ls hl => ?_)
          refine lv_iinc (v := nI (i + 1)) (lv' := [(3, .int (nI (i + 1))), (2, .int (u + 0)), (0, .ref h), (1, .int b)]) hx hb dX1_walkersInAll_49 hl (k := 1) rfl (z_inc i 1) (by decide) rfl (fun ls hl => ?_)
          refine lv_goto (tgt := 4) hx hb dX1_walkersInAll_52 (by decide) ?_
          have hw_28 : bCourse T h po la fw v0 v1 v2 v3 v4 v5 v6 v7 [(h, .inr (1, [.ref po, .ref a1_1, .int v0, .ref la, .int v1, .int v2, .int v3, .int v4, .int v5, .int v6, .int v7])), (a1_1, .inl (T.2 0, 7, .inl fw))] := ⟨a1_1, rfl⟩
          have G : zS T A s.heap s [[(h, .inr (1, [.ref po, .ref a1_1, .int v0, .ref la, .int v1, .int v2, .int v3, .int v4, .int v5, .int v6, .int v7])), (a1_1, .inl (T.2 0, 7, .inl fw))], [(la, .inr (4, [.int cr, .int inn, .ref a1_2, .ref a2_3, .ref a3_4, .ref a4_5])), (a1_2, .inl (T.2 0, 7, .inl k1)), (a2_3, .inl (T.2 0, 28, .inl k2)), (a3_4, .inl (T.2 0, 7, .inl k3)), (a4_5, .inl (T.2 0, 7, .inl k4))]] _ _ := G.re rfl
          exact ih_4 ((i + 1), (u + 0)) (show (i + 1) ≤ cr.toInt.toNat ∧ (i + 1) ≤ 7 ∧ (u + 0) = zSumW inn b fw (i + 1) from ⟨by omega, by omega, (zSumW_n hU (by assumption) (by first | assumption | exact fun q8 => zBit_o q8 (by first | assumption | (rcases hni with e9 | e9 | e9 | e9 <;> first | (exfalso; omega) | exact e9))))⟩) (show 7 - (i + 1) < 7 - i from by omega) _ _ ls G (lv_sub hl [0, 1, 2, 3] rfl)
set_option maxHeartbeats 4000000 in
set_option maxRecDepth 100000 in
/-- c_f_Course_told -/
theorem c_f_Course_told (l : Launch) (T : zTy) (h : Nat) (po : Nat) (la : Nat) (fw : Nat → Int32) (v0 : Int32) (v1 : Int32) (v2 : Int32) (v3 : Int32) (v4 : Int32) (v5 : Int32) (v6 : Int32) (v7 : Int32) (wc : va_W) (f1 : Nat → Int32) (f2 : Nat → Int32) (f3 : Nat → Int32) (st : Int32) (wh : Int32) (wp : va_W) (cr : Int32) (inn : Int32) (k1 : Nat → Int32) (k2 : Nat → Int32) (k3 : Nat → Int32) (k4 : Nat → Int32) (z : va_W) (x : Int32) (hc : bCourse T h po la fw v0 v1 v2 v3 v4 v5 v6 v7 wc) (hp : bPosts T po la f1 f2 f3 st wh wp) (hz : bLand T la cr inn k1 k2 k3 k4 z) (hI : zLI cr k1 k3) : zMi l T yX1_told cX1_told 3 (some .int) 4 0 0 [.ref h, .int x] [wc, wp, z] (fun (r : Int32) bs => bs = [wc, wp, z] ∧ r = zNow cr inn (f1, f2, fw, v0, v1) x) := by
  refine zMi_of (own := RX1) (by decide) rfl (Nat.le_of_ble_eq_true rfl) ?_
  intro p e s m args below meth c A ls C hr hlocks hnm hAe G hl
  have hx := C.1
  have hb := C.2.1
  have hl : lv_has ls 3 [(0, .ref h), (1, .int x)] := hl
  have hcr := hI.1
  refine lv_iload_n hx hb dX1_told_0 rfl (lv_at hl 1 rfl) ?_
  by_cases c_1o : x.toInt < 0 ∨ 3 < x.toInt
  · refine lv_tableOut (tgt := 54) hx hb dX1_told_1 c_1o (by decide) ?_
    rcases (show x.toInt < 0 ∨ 0 ≤ x.toInt by omega) with hxs | hxs
    · have hdx := zDvN hxs
      refine lv_iload_n hx hb dX1_told_54 rfl (lv_at hl 1 rfl) ?_
      refine lv_bipush (v := 10) hx hb dX1_told_55 (by decide) ?_
      refine lv_irem hx hb dX1_told_57 (by decide) ?_
      refine lv_istore_n (lv' := [(2, .int (x - x / 10 * 10)), (0, .ref h), (1, .int x)]) hx hb dX1_told_58 rfl hl (by decide) rfl (fun ls hl => ?_)
      refine lv_aload_n hx hb dX1_told_59 rfl (lv_at hl 1 rfl) ?_
      obtain ⟨a1_2, rfl⟩ := hc
      have G : zS T A s.heap s [[(h, .inr (1, [.ref po, .ref a1_2, .int v0, .ref la, .int v1, .int v2, .int v3, .int v4, .int v5, .int v6, .int v7]))], [(a1_2, .inl (T.2 0, 7, .inl fw))], wp, z] _ _ := G.re rfl
      refine z_get C G clX1 0 rfl 3 (by decide) m_fl_RX1_25 rfl dX1_told_60 ?_
      refine lv_iload_n hx hb dX1_told_63 rfl (lv_at hl 0 rfl) ?_
      refine z_Vi (bc := [z]) (br := [[(h, .inr (1, [.ref po, .ref a1_2, .int v0, .ref la, .int v1, .int v2, .int v3, .int v4, .int v5, .int v6, .int v7]))], [(a1_2, .inl (T.2 0, 7, .inl fw))], wp]) (As := [.int (x - x / 10 * 10)]) (rest := []) C G (c_has l T la cr inn k1 k2 k3 k4 z (x - x / 10 * 10) hz) (kV_RX1_112 C.2.2.2.2 (Nat.le_of_ble_eq_true rfl) (Nat.le_of_ble_eq_true rfl)) [3] [0, 1, 2] rfl rfl (ci := 4) (qc := (RX4, TX4, 6)) rfl rfl (List.mem_flatten.mpr ⟨_, List.mem_of_getElem? (i := 0) rfl, (bLand_mem hz).choose_spec⟩) rfl rfl hl.1 dX1_told_64 (Nat.le_of_ble_eq_true rfl) (Nat.le_of_ble_eq_true rfl) (fun r_4 b1 H locs hw G => ?_)
      obtain ⟨rfl, hc_3⟩ := hw
      have G : zS T A s.heap s [[(h, .inr (1, [.ref po, .ref a1_2, .int v0, .ref la, .int v1, .int v2, .int v3, .int v4, .int v5, .int v6, .int v7]))], [(a1_2, .inl (T.2 0, 7, .inl fw))], wp, z] _ _ := G
      rcases hc_3 with ⟨rfl, h_5, h_6, h_7⟩ | ⟨rfl, h_8⟩
      · have h_5 : 0 ≤ (x - x / 10 * 10).toInt := h_5
        have h_6 : (x - x / 10 * 10).toInt < cr.toInt := h_6
        have h_7 : (x - x / 10 * 10).toInt < 7 := h_7
        refine lv_if_ne (tgt := 73) hx hb dX1_told_67 (by decide) (fun _ => ?_) (fun q => absurd q (by decide))
        refine lv_iload_n hx hb dX1_told_73 rfl (lv_at hl 2 rfl) ?_
        refine lv_bipush (v := 10) hx hb dX1_told_74 (by decide) ?_
        refine lv_idiv hx hb dX1_told_76 (by decide) ?_
        by_cases c_9o : (x / 10).toInt < 1 ∨ 3 < (x / 10).toInt
        · refine lv_tableOut (tgt := 131) hx hb dX1_told_77 c_9o (by decide) ?_
          refine lv_bipush (v := (-2)) hx hb dX1_told_131 (by decide) ?_
          have hw_10 : bCourse T h po la fw v0 v1 v2 v3 v4 v5 v6 v7 [(h, .inr (1, [.ref po, .ref a1_2, .int v0, .ref la, .int v1, .int v2, .int v3, .int v4, .int v5, .int v6, .int v7])), (a1_2, .inl (T.2 0, 7, .inl fw))] := ⟨a1_2, rfl⟩
          have G : zS T A s.heap s [[(h, .inr (1, [.ref po, .ref a1_2, .int v0, .ref la, .int v1, .int v2, .int v3, .int v4, .int v5, .int v6, .int v7])), (a1_2, .inl (T.2 0, 7, .inl fw))], wp, z] _ _ := G.re rfl
          exact z_iret C hr hlocks G (Nat.le_of_ble_eq_true rfl) (Nat.le_of_ble_eq_true rfl) dX1_told_133 ⟨rfl, (zNow_n (by omega) (by omega))⟩
        · have c_9r : (x / 10).toInt = 1 ∨ (x / 10).toInt = 2 ∨ (x / 10).toInt = 3 := by omega
          rcases c_9r with c_9 | c_9 | c_9
          · refine lv_tableIn (tgt := 104) hx hb dX1_told_77 (by omega) (by omega) (by rw [c_9]; rfl) (by decide) ?_
            refine lv_aload_n hx hb dX1_told_104 rfl (lv_at hl 1 rfl) ?_
            refine z_get C G clX1 0 rfl 0 (by decide) m_fl_RX1_12 rfl dX1_told_105 ?_
            obtain ⟨a1_11, a2_12, a3_13, rfl⟩ := hp
            have G : zS T A s.heap s [[(h, .inr (1, [.ref po, .ref a1_2, .int v0, .ref la, .int v1, .int v2, .int v3, .int v4, .int v5, .int v6, .int v7]))], [(a1_2, .inl (T.2 0, 7, .inl fw))], [(po, .inr (6, [.ref la, .ref a1_11, .ref a2_12, .int st, .int wh, .ref a3_13]))], [(a1_11, .inl (T.2 0, 7, .inl f1))], [(a2_12, .inl (T.2 0, 7, .inl f2))], [(a3_13, .inl (T.2 0, 7, .inl f3))], z] _ _ := G.re rfl
            refine z_get C G clX6 2 rfl 1 (by decide) m_fl_RX1_154 rfl dX1_told_108 ?_
            refine lv_iload_n hx hb dX1_told_111 rfl (lv_at hl 0 rfl) ?_
            refine z_ild C G 3 rfl (vp_in_iff.mpr ⟨by omega, by omega⟩) dX1_told_112 ?_
            refine lv_topi (fun v_14 ev_14 => ?_)
            subst ev_14
            have hw_15 : bCourse T h po la fw v0 v1 v2 v3 v4 v5 v6 v7 [(h, .inr (1, [.ref po, .ref a1_2, .int v0, .ref la, .int v1, .int v2, .int v3, .int v4, .int v5, .int v6, .int v7])), (a1_2, .inl (T.2 0, 7, .inl fw))] := ⟨a1_2, rfl⟩
            have G : zS T A s.heap s [[(h, .inr (1, [.ref po, .ref a1_2, .int v0, .ref la, .int v1, .int v2, .int v3, .int v4, .int v5, .int v6, .int v7])), (a1_2, .inl (T.2 0, 7, .inl fw))], [(po, .inr (6, [.ref la, .ref a1_11, .ref a2_12, .int st, .int wh, .ref a3_13]))], [(a1_11, .inl (T.2 0, 7, .inl f1))], [(a2_12, .inl (T.2 0, 7, .inl f2))], [(a3_13, .inl (T.2 0, 7, .inl f3))], z] _ _ := G.re rfl
            have hw_16 : bPosts T po la f1 f2 f3 st wh [(po, .inr (6, [.ref la, .ref a1_11, .ref a2_12, .int st, .int wh, .ref a3_13])), (a1_11, .inl (T.2 0, 7, .inl f1)), (a2_12, .inl (T.2 0, 7, .inl f2)), (a3_13, .inl (T.2 0, 7, .inl f3))] := ⟨a1_11, a2_12, a3_13, rfl⟩
            have G : zS T A s.heap s [[(h, .inr (1, [.ref po, .ref a1_2, .int v0, .ref la, .int v1, .int v2, .int v3, .int v4, .int v5, .int v6, .int v7])), (a1_2, .inl (T.2 0, 7, .inl fw))], [(po, .inr (6, [.ref la, .ref a1_11, .ref a2_12, .int st, .int wh, .ref a3_13])), (a1_11, .inl (T.2 0, 7, .inl f1)), (a2_12, .inl (T.2 0, 7, .inl f2)), (a3_13, .inl (T.2 0, 7, .inl f3))], z] _ _ := G.re rfl
            exact z_iret C hr hlocks G (Nat.le_of_ble_eq_true rfl) (Nat.le_of_ble_eq_true rfl) dX1_told_113 ⟨rfl, (by exfalso; omega)⟩
          · refine lv_tableIn (tgt := 114) hx hb dX1_told_77 (by omega) (by omega) (by rw [c_9]; rfl) (by decide) ?_
            refine lv_aload_n hx hb dX1_told_114 rfl (lv_at hl 1 rfl) ?_
            refine z_get C G clX1 0 rfl 1 (by decide) m_fl_RX1_18 rfl dX1_told_115 ?_
            refine lv_iload_n hx hb dX1_told_118 rfl (lv_at hl 0 rfl) ?_
            refine z_ild C G 1 rfl (vp_in_iff.mpr ⟨by omega, by omega⟩) dX1_told_119 ?_
            refine lv_topi (fun v_17 ev_17 => ?_)
            subst ev_17
            have hw_18 : bCourse T h po la fw v0 v1 v2 v3 v4 v5 v6 v7 [(h, .inr (1, [.ref po, .ref a1_2, .int v0, .ref la, .int v1, .int v2, .int v3, .int v4, .int v5, .int v6, .int v7])), (a1_2, .inl (T.2 0, 7, .inl fw))] := ⟨a1_2, rfl⟩
            have G : zS T A s.heap s [[(h, .inr (1, [.ref po, .ref a1_2, .int v0, .ref la, .int v1, .int v2, .int v3, .int v4, .int v5, .int v6, .int v7])), (a1_2, .inl (T.2 0, 7, .inl fw))], wp, z] _ _ := G.re rfl
            exact z_iret C hr hlocks G (Nat.le_of_ble_eq_true rfl) (Nat.le_of_ble_eq_true rfl) dX1_told_120 ⟨rfl, (by exfalso; omega)⟩
          · refine lv_tableIn (tgt := 121) hx hb dX1_told_77 (by omega) (by omega) (by rw [c_9]; rfl) (by decide) ?_
            refine lv_aload_n hx hb dX1_told_121 rfl (lv_at hl 1 rfl) ?_
            refine z_get C G clX1 0 rfl 0 (by decide) m_fl_RX1_12 rfl dX1_told_122 ?_
            obtain ⟨a1_19, a2_20, a3_21, rfl⟩ := hp
            have G : zS T A s.heap s [[(h, .inr (1, [.ref po, .ref a1_2, .int v0, .ref la, .int v1, .int v2, .int v3, .int v4, .int v5, .int v6, .int v7]))], [(a1_2, .inl (T.2 0, 7, .inl fw))], [(po, .inr (6, [.ref la, .ref a1_19, .ref a2_20, .int st, .int wh, .ref a3_21]))], [(a1_19, .inl (T.2 0, 7, .inl f1))], [(a2_20, .inl (T.2 0, 7, .inl f2))], [(a3_21, .inl (T.2 0, 7, .inl f3))], z] _ _ := G.re rfl
            refine z_get C G clX6 2 rfl 2 (by decide) m_fl_RX1_157 rfl dX1_told_125 ?_
            refine lv_iload_n hx hb dX1_told_128 rfl (lv_at hl 0 rfl) ?_
            refine z_ild C G 4 rfl (vp_in_iff.mpr ⟨by omega, by omega⟩) dX1_told_129 ?_
            refine lv_topi (fun v_22 ev_22 => ?_)
            subst ev_22
            have hw_23 : bCourse T h po la fw v0 v1 v2 v3 v4 v5 v6 v7 [(h, .inr (1, [.ref po, .ref a1_2, .int v0, .ref la, .int v1, .int v2, .int v3, .int v4, .int v5, .int v6, .int v7])), (a1_2, .inl (T.2 0, 7, .inl fw))] := ⟨a1_2, rfl⟩
            have G : zS T A s.heap s [[(h, .inr (1, [.ref po, .ref a1_2, .int v0, .ref la, .int v1, .int v2, .int v3, .int v4, .int v5, .int v6, .int v7])), (a1_2, .inl (T.2 0, 7, .inl fw))], [(po, .inr (6, [.ref la, .ref a1_19, .ref a2_20, .int st, .int wh, .ref a3_21]))], [(a1_19, .inl (T.2 0, 7, .inl f1))], [(a2_20, .inl (T.2 0, 7, .inl f2))], [(a3_21, .inl (T.2 0, 7, .inl f3))], z] _ _ := G.re rfl
            have hw_24 : bPosts T po la f1 f2 f3 st wh [(po, .inr (6, [.ref la, .ref a1_19, .ref a2_20, .int st, .int wh, .ref a3_21])), (a1_19, .inl (T.2 0, 7, .inl f1)), (a2_20, .inl (T.2 0, 7, .inl f2)), (a3_21, .inl (T.2 0, 7, .inl f3))] := ⟨a1_19, a2_20, a3_21, rfl⟩
            have G : zS T A s.heap s [[(h, .inr (1, [.ref po, .ref a1_2, .int v0, .ref la, .int v1, .int v2, .int v3, .int v4, .int v5, .int v6, .int v7])), (a1_2, .inl (T.2 0, 7, .inl fw))], [(po, .inr (6, [.ref la, .ref a1_19, .ref a2_20, .int st, .int wh, .ref a3_21])), (a1_19, .inl (T.2 0, 7, .inl f1)), (a2_20, .inl (T.2 0, 7, .inl f2)), (a3_21, .inl (T.2 0, 7, .inl f3))], z] _ _ := G.re rfl
            exact z_iret C hr hlocks G (Nat.le_of_ble_eq_true rfl) (Nat.le_of_ble_eq_true rfl) dX1_told_130 ⟨rfl, (by exfalso; omega)⟩
      · have h_8 : ((x - x / 10 * 10).toInt < 0 ∨ cr.toInt ≤ (x - x / 10 * 10).toInt ∨ 7 ≤ (x - x / 10 * 10).toInt) := h_8
        refine lv_if_ne (tgt := 73) hx hb dX1_told_67 (by decide) (fun q => absurd (by decide) q) (fun _ => ?_)
        refine lv_bipush (v := (-2)) hx hb dX1_told_70 (by decide) ?_
        have hw_25 : bCourse T h po la fw v0 v1 v2 v3 v4 v5 v6 v7 [(h, .inr (1, [.ref po, .ref a1_2, .int v0, .ref la, .int v1, .int v2, .int v3, .int v4, .int v5, .int v6, .int v7])), (a1_2, .inl (T.2 0, 7, .inl fw))] := ⟨a1_2, rfl⟩
        have G : zS T A s.heap s [[(h, .inr (1, [.ref po, .ref a1_2, .int v0, .ref la, .int v1, .int v2, .int v3, .int v4, .int v5, .int v6, .int v7])), (a1_2, .inl (T.2 0, 7, .inl fw))], wp, z] _ _ := G.re rfl
        exact z_iret C hr hlocks G (Nat.le_of_ble_eq_true rfl) (Nat.le_of_ble_eq_true rfl) dX1_told_72 ⟨rfl, (zNow_n (by omega) (by omega))⟩
    · have hdx := zDv hxs
      have hrx := zRm hxs
      refine lv_iload_n hx hb dX1_told_54 rfl (lv_at hl 1 rfl) ?_
      refine lv_bipush (v := 10) hx hb dX1_told_55 (by decide) ?_
      refine lv_irem hx hb dX1_told_57 (by decide) ?_
      refine lv_istore_n (lv' := [(2, .int (x - x / 10 * 10)), (0, .ref h), (1, .int x)]) hx hb dX1_told_58 rfl hl (by decide) rfl (fun ls hl => ?_)
      refine lv_aload_n hx hb dX1_told_59 rfl (lv_at hl 1 rfl) ?_
      obtain ⟨a1_26, rfl⟩ := hc
      have G : zS T A s.heap s [[(h, .inr (1, [.ref po, .ref a1_26, .int v0, .ref la, .int v1, .int v2, .int v3, .int v4, .int v5, .int v6, .int v7]))], [(a1_26, .inl (T.2 0, 7, .inl fw))], wp, z] _ _ := G.re rfl
      refine z_get C G clX1 0 rfl 3 (by decide) m_fl_RX1_25 rfl dX1_told_60 ?_
      refine lv_iload_n hx hb dX1_told_63 rfl (lv_at hl 0 rfl) ?_
      refine z_Vi (bc := [z]) (br := [[(h, .inr (1, [.ref po, .ref a1_26, .int v0, .ref la, .int v1, .int v2, .int v3, .int v4, .int v5, .int v6, .int v7]))], [(a1_26, .inl (T.2 0, 7, .inl fw))], wp]) (As := [.int (x - x / 10 * 10)]) (rest := []) C G (c_has l T la cr inn k1 k2 k3 k4 z (x - x / 10 * 10) hz) (kV_RX1_112 C.2.2.2.2 (Nat.le_of_ble_eq_true rfl) (Nat.le_of_ble_eq_true rfl)) [3] [0, 1, 2] rfl rfl (ci := 4) (qc := (RX4, TX4, 6)) rfl rfl (List.mem_flatten.mpr ⟨_, List.mem_of_getElem? (i := 0) rfl, (bLand_mem hz).choose_spec⟩) rfl rfl hl.1 dX1_told_64 (Nat.le_of_ble_eq_true rfl) (Nat.le_of_ble_eq_true rfl) (fun r_28 b1 H locs hw G => ?_)
      obtain ⟨rfl, hc_27⟩ := hw
      have G : zS T A s.heap s [[(h, .inr (1, [.ref po, .ref a1_26, .int v0, .ref la, .int v1, .int v2, .int v3, .int v4, .int v5, .int v6, .int v7]))], [(a1_26, .inl (T.2 0, 7, .inl fw))], wp, z] _ _ := G
      rcases hc_27 with ⟨rfl, h_29, h_30, h_31⟩ | ⟨rfl, h_32⟩
      · have h_29 : 0 ≤ (x - x / 10 * 10).toInt := h_29
        have h_30 : (x - x / 10 * 10).toInt < cr.toInt := h_30
        have h_31 : (x - x / 10 * 10).toInt < 7 := h_31
        refine lv_if_ne (tgt := 73) hx hb dX1_told_67 (by decide) (fun _ => ?_) (fun q => absurd q (by decide))
        refine lv_iload_n hx hb dX1_told_73 rfl (lv_at hl 2 rfl) ?_
        refine lv_bipush (v := 10) hx hb dX1_told_74 (by decide) ?_
        refine lv_idiv hx hb dX1_told_76 (by decide) ?_
        by_cases c_33o : (x / 10).toInt < 1 ∨ 3 < (x / 10).toInt
        · refine lv_tableOut (tgt := 131) hx hb dX1_told_77 c_33o (by decide) ?_
          refine lv_bipush (v := (-2)) hx hb dX1_told_131 (by decide) ?_
          have hw_34 : bCourse T h po la fw v0 v1 v2 v3 v4 v5 v6 v7 [(h, .inr (1, [.ref po, .ref a1_26, .int v0, .ref la, .int v1, .int v2, .int v3, .int v4, .int v5, .int v6, .int v7])), (a1_26, .inl (T.2 0, 7, .inl fw))] := ⟨a1_26, rfl⟩
          have G : zS T A s.heap s [[(h, .inr (1, [.ref po, .ref a1_26, .int v0, .ref la, .int v1, .int v2, .int v3, .int v4, .int v5, .int v6, .int v7])), (a1_26, .inl (T.2 0, 7, .inl fw))], wp, z] _ _ := G.re rfl
          exact z_iret C hr hlocks G (Nat.le_of_ble_eq_true rfl) (Nat.le_of_ble_eq_true rfl) dX1_told_133 ⟨rfl, (zNow_n (by omega) (by omega))⟩
        · have c_33r : (x / 10).toInt = 1 ∨ (x / 10).toInt = 2 ∨ (x / 10).toInt = 3 := by omega
          rcases c_33r with c_33 | c_33 | c_33
          · refine lv_tableIn (tgt := 104) hx hb dX1_told_77 (by omega) (by omega) (by rw [c_33]; rfl) (by decide) ?_
            refine lv_aload_n hx hb dX1_told_104 rfl (lv_at hl 1 rfl) ?_
            refine z_get C G clX1 0 rfl 0 (by decide) m_fl_RX1_12 rfl dX1_told_105 ?_
            obtain ⟨a1_35, a2_36, a3_37, rfl⟩ := hp
            have G : zS T A s.heap s [[(h, .inr (1, [.ref po, .ref a1_26, .int v0, .ref la, .int v1, .int v2, .int v3, .int v4, .int v5, .int v6, .int v7]))], [(a1_26, .inl (T.2 0, 7, .inl fw))], [(po, .inr (6, [.ref la, .ref a1_35, .ref a2_36, .int st, .int wh, .ref a3_37]))], [(a1_35, .inl (T.2 0, 7, .inl f1))], [(a2_36, .inl (T.2 0, 7, .inl f2))], [(a3_37, .inl (T.2 0, 7, .inl f3))], z] _ _ := G.re rfl
            refine z_get C G clX6 2 rfl 1 (by decide) m_fl_RX1_154 rfl dX1_told_108 ?_
            refine lv_iload_n hx hb dX1_told_111 rfl (lv_at hl 0 rfl) ?_
            refine z_ild C G 3 rfl (vp_in_iff.mpr ⟨by omega, by omega⟩) dX1_told_112 ?_
            refine lv_topi (fun v_38 ev_38 => ?_)
            subst ev_38
            have hw_39 : bCourse T h po la fw v0 v1 v2 v3 v4 v5 v6 v7 [(h, .inr (1, [.ref po, .ref a1_26, .int v0, .ref la, .int v1, .int v2, .int v3, .int v4, .int v5, .int v6, .int v7])), (a1_26, .inl (T.2 0, 7, .inl fw))] := ⟨a1_26, rfl⟩
            have G : zS T A s.heap s [[(h, .inr (1, [.ref po, .ref a1_26, .int v0, .ref la, .int v1, .int v2, .int v3, .int v4, .int v5, .int v6, .int v7])), (a1_26, .inl (T.2 0, 7, .inl fw))], [(po, .inr (6, [.ref la, .ref a1_35, .ref a2_36, .int st, .int wh, .ref a3_37]))], [(a1_35, .inl (T.2 0, 7, .inl f1))], [(a2_36, .inl (T.2 0, 7, .inl f2))], [(a3_37, .inl (T.2 0, 7, .inl f3))], z] _ _ := G.re rfl
            have hw_40 : bPosts T po la f1 f2 f3 st wh [(po, .inr (6, [.ref la, .ref a1_35, .ref a2_36, .int st, .int wh, .ref a3_37])), (a1_35, .inl (T.2 0, 7, .inl f1)), (a2_36, .inl (T.2 0, 7, .inl f2)), (a3_37, .inl (T.2 0, 7, .inl f3))] := ⟨a1_35, a2_36, a3_37, rfl⟩
            have G : zS T A s.heap s [[(h, .inr (1, [.ref po, .ref a1_26, .int v0, .ref la, .int v1, .int v2, .int v3, .int v4, .int v5, .int v6, .int v7])), (a1_26, .inl (T.2 0, 7, .inl fw))], [(po, .inr (6, [.ref la, .ref a1_35, .ref a2_36, .int st, .int wh, .ref a3_37])), (a1_35, .inl (T.2 0, 7, .inl f1)), (a2_36, .inl (T.2 0, 7, .inl f2)), (a3_37, .inl (T.2 0, 7, .inl f3))], z] _ _ := G.re rfl
            exact z_iret C hr hlocks G (Nat.le_of_ble_eq_true rfl) (Nat.le_of_ble_eq_true rfl) dX1_told_113 ⟨rfl, (zNow_p (by omega) (by have q8 := z_clI (x := x - x / 10 * 10) (by omega); omega))⟩
          · refine lv_tableIn (tgt := 114) hx hb dX1_told_77 (by omega) (by omega) (by rw [c_33]; rfl) (by decide) ?_
            refine lv_aload_n hx hb dX1_told_114 rfl (lv_at hl 1 rfl) ?_
            refine z_get C G clX1 0 rfl 1 (by decide) m_fl_RX1_18 rfl dX1_told_115 ?_
            refine lv_iload_n hx hb dX1_told_118 rfl (lv_at hl 0 rfl) ?_
            refine z_ild C G 1 rfl (vp_in_iff.mpr ⟨by omega, by omega⟩) dX1_told_119 ?_
            refine lv_topi (fun v_41 ev_41 => ?_)
            subst ev_41
            have hw_42 : bCourse T h po la fw v0 v1 v2 v3 v4 v5 v6 v7 [(h, .inr (1, [.ref po, .ref a1_26, .int v0, .ref la, .int v1, .int v2, .int v3, .int v4, .int v5, .int v6, .int v7])), (a1_26, .inl (T.2 0, 7, .inl fw))] := ⟨a1_26, rfl⟩
            have G : zS T A s.heap s [[(h, .inr (1, [.ref po, .ref a1_26, .int v0, .ref la, .int v1, .int v2, .int v3, .int v4, .int v5, .int v6, .int v7])), (a1_26, .inl (T.2 0, 7, .inl fw))], wp, z] _ _ := G.re rfl
            exact z_iret C hr hlocks G (Nat.le_of_ble_eq_true rfl) (Nat.le_of_ble_eq_true rfl) dX1_told_120 ⟨rfl, (zNow_h (by omega) (by have q8 := z_clI (x := x - x / 10 * 10) (by omega); omega))⟩
          · refine lv_tableIn (tgt := 121) hx hb dX1_told_77 (by omega) (by omega) (by rw [c_33]; rfl) (by decide) ?_
            refine lv_aload_n hx hb dX1_told_121 rfl (lv_at hl 1 rfl) ?_
            refine z_get C G clX1 0 rfl 0 (by decide) m_fl_RX1_12 rfl dX1_told_122 ?_
            obtain ⟨a1_43, a2_44, a3_45, rfl⟩ := hp
            have G : zS T A s.heap s [[(h, .inr (1, [.ref po, .ref a1_26, .int v0, .ref la, .int v1, .int v2, .int v3, .int v4, .int v5, .int v6, .int v7]))], [(a1_26, .inl (T.2 0, 7, .inl fw))], [(po, .inr (6, [.ref la, .ref a1_43, .ref a2_44, .int st, .int wh, .ref a3_45]))], [(a1_43, .inl (T.2 0, 7, .inl f1))], [(a2_44, .inl (T.2 0, 7, .inl f2))], [(a3_45, .inl (T.2 0, 7, .inl f3))], z] _ _ := G.re rfl
            refine z_get C G clX6 2 rfl 2 (by decide) m_fl_RX1_157 rfl dX1_told_125 ?_
            refine lv_iload_n hx hb dX1_told_128 rfl (lv_at hl 0 rfl) ?_
            refine z_ild C G 4 rfl (vp_in_iff.mpr ⟨by omega, by omega⟩) dX1_told_129 ?_
            refine lv_topi (fun v_46 ev_46 => ?_)
            subst ev_46
            have hw_47 : bCourse T h po la fw v0 v1 v2 v3 v4 v5 v6 v7 [(h, .inr (1, [.ref po, .ref a1_26, .int v0, .ref la, .int v1, .int v2, .int v3, .int v4, .int v5, .int v6, .int v7])), (a1_26, .inl (T.2 0, 7, .inl fw))] := ⟨a1_26, rfl⟩
            have G : zS T A s.heap s [[(h, .inr (1, [.ref po, .ref a1_26, .int v0, .ref la, .int v1, .int v2, .int v3, .int v4, .int v5, .int v6, .int v7])), (a1_26, .inl (T.2 0, 7, .inl fw))], [(po, .inr (6, [.ref la, .ref a1_43, .ref a2_44, .int st, .int wh, .ref a3_45]))], [(a1_43, .inl (T.2 0, 7, .inl f1))], [(a2_44, .inl (T.2 0, 7, .inl f2))], [(a3_45, .inl (T.2 0, 7, .inl f3))], z] _ _ := G.re rfl
            have hw_48 : bPosts T po la f1 f2 f3 st wh [(po, .inr (6, [.ref la, .ref a1_43, .ref a2_44, .int st, .int wh, .ref a3_45])), (a1_43, .inl (T.2 0, 7, .inl f1)), (a2_44, .inl (T.2 0, 7, .inl f2)), (a3_45, .inl (T.2 0, 7, .inl f3))] := ⟨a1_43, a2_44, a3_45, rfl⟩
            have G : zS T A s.heap s [[(h, .inr (1, [.ref po, .ref a1_26, .int v0, .ref la, .int v1, .int v2, .int v3, .int v4, .int v5, .int v6, .int v7])), (a1_26, .inl (T.2 0, 7, .inl fw))], [(po, .inr (6, [.ref la, .ref a1_43, .ref a2_44, .int st, .int wh, .ref a3_45])), (a1_43, .inl (T.2 0, 7, .inl f1)), (a2_44, .inl (T.2 0, 7, .inl f2)), (a3_45, .inl (T.2 0, 7, .inl f3))], z] _ _ := G.re rfl
            exact z_iret C hr hlocks G (Nat.le_of_ble_eq_true rfl) (Nat.le_of_ble_eq_true rfl) dX1_told_130 ⟨rfl, (zNow_s (by omega) (by have q8 := z_clI (x := x - x / 10 * 10) (by omega); omega))⟩
      · have h_32 : ((x - x / 10 * 10).toInt < 0 ∨ cr.toInt ≤ (x - x / 10 * 10).toInt ∨ 7 ≤ (x - x / 10 * 10).toInt) := h_32
        refine lv_if_ne (tgt := 73) hx hb dX1_told_67 (by decide) (fun q => absurd (by decide) q) (fun _ => ?_)
        refine lv_bipush (v := (-2)) hx hb dX1_told_70 (by decide) ?_
        have hw_49 : bCourse T h po la fw v0 v1 v2 v3 v4 v5 v6 v7 [(h, .inr (1, [.ref po, .ref a1_26, .int v0, .ref la, .int v1, .int v2, .int v3, .int v4, .int v5, .int v6, .int v7])), (a1_26, .inl (T.2 0, 7, .inl fw))] := ⟨a1_26, rfl⟩
        have G : zS T A s.heap s [[(h, .inr (1, [.ref po, .ref a1_26, .int v0, .ref la, .int v1, .int v2, .int v3, .int v4, .int v5, .int v6, .int v7])), (a1_26, .inl (T.2 0, 7, .inl fw))], wp, z] _ _ := G.re rfl
        exact z_iret C hr hlocks G (Nat.le_of_ble_eq_true rfl) (Nat.le_of_ble_eq_true rfl) dX1_told_72 ⟨rfl, (zNow_n (by omega) (by omega))⟩
  · have c_1r : x.toInt = 0 ∨ x.toInt = 1 ∨ x.toInt = 2 ∨ x.toInt = 3 := by omega
    rcases c_1r with c_1 | c_1 | c_1 | c_1
    · refine lv_tableIn (tgt := 32) hx hb dX1_told_1 (by omega) (by omega) (by rw [c_1]; rfl) (by decide) ?_
      refine lv_aload_n hx hb dX1_told_32 rfl (lv_at hl 0 rfl) ?_
      obtain ⟨a1_50, rfl⟩ := hc
      have G : zS T A s.heap s [[(h, .inr (1, [.ref po, .ref a1_50, .int v0, .ref la, .int v1, .int v2, .int v3, .int v4, .int v5, .int v6, .int v7]))], [(a1_50, .inl (T.2 0, 7, .inl fw))], wp, z] _ _ := G.re rfl
      refine z_get C G clX1 0 rfl 2 (by decide) m_fl_RX1_34 rfl dX1_told_33 ?_
      have hw_51 : bCourse T h po la fw v0 v1 v2 v3 v4 v5 v6 v7 [(h, .inr (1, [.ref po, .ref a1_50, .int v0, .ref la, .int v1, .int v2, .int v3, .int v4, .int v5, .int v6, .int v7])), (a1_50, .inl (T.2 0, 7, .inl fw))] := ⟨a1_50, rfl⟩
      have G : zS T A s.heap s [[(h, .inr (1, [.ref po, .ref a1_50, .int v0, .ref la, .int v1, .int v2, .int v3, .int v4, .int v5, .int v6, .int v7])), (a1_50, .inl (T.2 0, 7, .inl fw))], wp, z] _ _ := G.re rfl
      exact z_iret C hr hlocks G (Nat.le_of_ble_eq_true rfl) (Nat.le_of_ble_eq_true rfl) dX1_told_36 ⟨rfl, (zNow_0 (by omega))⟩
    · refine lv_tableIn (tgt := 37) hx hb dX1_told_1 (by omega) (by omega) (by rw [c_1]; rfl) (by decide) ?_
      refine lv_aload_n hx hb dX1_told_37 rfl (lv_at hl 0 rfl) ?_
      refine lv_iconst (v := 1) hx hb dX1_told_38 (by decide) ?_
      refine z_Vi (bc := [wc, z]) (br := [wp]) (As := [.int 1]) (rest := []) C G (c_f_walkersInAll l T h po la fw v0 v1 v2 v3 v4 v5 v6 v7 wc cr inn k1 k2 k3 k4 z 1 hc hz (by first | with_reducible assumption | with_reducible rfl | omega | assumption | rfl)) (kV_RX1_150 C.2.2.2.2 (Nat.le_of_ble_eq_true rfl) (Nat.le_of_ble_eq_true rfl)) [0, 2] [1] rfl rfl (ci := 1) (qc := (RX1, TX1, 11)) rfl rfl (List.mem_flatten.mpr ⟨_, List.mem_of_getElem? (i := 0) rfl, (bCourse_mem hc).choose_spec⟩) rfl rfl hl.1 dX1_told_39 (Nat.le_of_ble_eq_true rfl) (Nat.le_of_ble_eq_true rfl) (fun r_53 b1 H locs hw G => ?_)
      obtain ⟨rfl, h_52⟩ := hw
      have G : zS T A s.heap s [wp, wc, z] _ _ := G
      subst h_52
      have G := G.sub (bs' := [wc, wp, z]) [1, 0, 2] rfl
      exact z_iret C hr hlocks G (Nat.le_of_ble_eq_true rfl) (Nat.le_of_ble_eq_true rfl) dX1_told_42 ⟨rfl, (zNow_1 (by omega))⟩
    · refine lv_tableIn (tgt := 43) hx hb dX1_told_1 (by omega) (by omega) (by rw [c_1]; rfl) (by decide) ?_
      refine lv_aload_n hx hb dX1_told_43 rfl (lv_at hl 0 rfl) ?_
      refine lv_iconst (v := 0) hx hb dX1_told_44 (by decide) ?_
      refine z_Vi (bc := [wc, z]) (br := [wp]) (As := [.int 0]) (rest := []) C G (c_f_walkersInAll l T h po la fw v0 v1 v2 v3 v4 v5 v6 v7 wc cr inn k1 k2 k3 k4 z 0 hc hz (by first | with_reducible assumption | with_reducible rfl | omega | assumption | rfl)) (kV_RX1_150 C.2.2.2.2 (Nat.le_of_ble_eq_true rfl) (Nat.le_of_ble_eq_true rfl)) [0, 2] [1] rfl rfl (ci := 1) (qc := (RX1, TX1, 11)) rfl rfl (List.mem_flatten.mpr ⟨_, List.mem_of_getElem? (i := 0) rfl, (bCourse_mem hc).choose_spec⟩) rfl rfl hl.1 dX1_told_45 (Nat.le_of_ble_eq_true rfl) (Nat.le_of_ble_eq_true rfl) (fun r_55 b1 H locs hw G => ?_)
      obtain ⟨rfl, h_54⟩ := hw
      have G : zS T A s.heap s [wp, wc, z] _ _ := G
      subst h_54
      have G := G.sub (bs' := [wc, wp, z]) [1, 0, 2] rfl
      exact z_iret C hr hlocks G (Nat.le_of_ble_eq_true rfl) (Nat.le_of_ble_eq_true rfl) dX1_told_48 ⟨rfl, (zNow_2 (by omega))⟩
    · refine lv_tableIn (tgt := 49) hx hb dX1_told_1 (by omega) (by omega) (by rw [c_1]; rfl) (by decide) ?_
      refine lv_aload_n hx hb dX1_told_49 rfl (lv_at hl 0 rfl) ?_
      obtain ⟨a1_56, rfl⟩ := hc
      have G : zS T A s.heap s [[(h, .inr (1, [.ref po, .ref a1_56, .int v0, .ref la, .int v1, .int v2, .int v3, .int v4, .int v5, .int v6, .int v7]))], [(a1_56, .inl (T.2 0, 7, .inl fw))], wp, z] _ _ := G.re rfl
      refine z_get C G clX1 0 rfl 4 (by decide) m_fl_RX1_38 rfl dX1_told_50 ?_
      have hw_57 : bCourse T h po la fw v0 v1 v2 v3 v4 v5 v6 v7 [(h, .inr (1, [.ref po, .ref a1_56, .int v0, .ref la, .int v1, .int v2, .int v3, .int v4, .int v5, .int v6, .int v7])), (a1_56, .inl (T.2 0, 7, .inl fw))] := ⟨a1_56, rfl⟩
      have G : zS T A s.heap s [[(h, .inr (1, [.ref po, .ref a1_56, .int v0, .ref la, .int v1, .int v2, .int v3, .int v4, .int v5, .int v6, .int v7])), (a1_56, .inl (T.2 0, 7, .inl fw))], wp, z] _ _ := G.re rfl
      exact z_iret C hr hlocks G (Nat.le_of_ble_eq_true rfl) (Nat.le_of_ble_eq_true rfl) dX1_told_53 ⟨rfl, (zNow_3 (by omega))⟩
set_option maxHeartbeats 4000000 in
set_option maxRecDepth 100000 in
/-- c_f_state -/
theorem c_f_state (l : Launch) (T : zTy) (xo : Nat) (t : Nat) (im : Nat) (mk : Nat) (rd : Nat) (po : Nat) (co : Nat) (tr : Nat) (wa : Nat) (wb_ : Nat) (fi : Nat) (cd : Nat) (l0 : Nat) (l1 : Nat) (d0 : Nat) (d1 : Nat) (g0 : Nat) (g1 : Nat) (ln : Int32) (fl : Int32) (pl : Int32) (ft : Nat → Int32) (fk : Nat → Int32) (wt : va_W) (cr0_ : Int32) (inn0_ : Int32) (k10_ : Nat → Int32) (k20_ : Nat → Int32) (k30_ : Nat → Int32) (k40_ : Nat → Int32) (z0_ : va_W) (cr1_ : Int32) (inn1_ : Int32) (k11_ : Nat → Int32) (k21_ : Nat → Int32) (k31_ : Nat → Int32) (k41_ : Nat → Int32) (z1_ : va_W) (dd0_ : Int32) (p10_ : Nat → Int32) (p20_ : Nat → Int32) (p30_ : Nat → Int32) (wd0_ : va_W) (dd1_ : Int32) (p11_ : Nat → Int32) (p21_ : Nat → Int32) (p31_ : Nat → Int32) (wd1_ : va_W) (cpo : Nat) (cla : Nat) (cfw : Nat → Int32) (v0 : Int32) (v1 : Int32) (v2 : Int32) (v3 : Int32) (v4 : Int32) (v5 : Int32) (v6 : Int32) (v7 : Int32) (wc : va_W) (cpl : Nat) (cf1 : Nat → Int32) (cf2 : Nat → Int32) (cf3 : Nat → Int32) (cst : Int32) (cwh : Int32) (wcp : va_W) (i1 : Int32) (i2 : Int32) (n : Int32) (w_ : Int32) (ht : bTold T t l0 l1 d0 d1 g0 g1 ln fl pl ft fk wt) (hK : zKT fk) (hz0_ : bLand T l0 cr0_ inn0_ k10_ k20_ k30_ k40_ z0_) (hI0_ : zLI cr0_ k10_ k30_) (hz1_ : bLand T l1 cr1_ inn1_ k11_ k21_ k31_ k41_ z1_) (hI1_ : zLI cr1_ k11_ k31_) (hd0_ : bDay T d0 dd0_ p10_ p20_ p30_ wd0_) (hd1_ : bDay T d1 dd1_ p11_ p21_ p31_ wd1_) (hc : bCourse T co cpo cla cfw v0 v1 v2 v3 v4 v5 v6 v7 wc) (hcp : bPosts T cpo cpl cf1 cf2 cf3 cst cwh wcp) (hLq0 : zLq cr0_ k10_ k20_) (hLq1 : zLq cr1_ k11_ k21_) : zMi l T yX11_state cX11_state 7 (some .int) 8 0 0 [.ref xo, .int i1, .int i2, .int n, .int w_] [[(xo, .inr (10, [.ref t, .ref im, .ref mk, .ref rd, .ref po, .ref co, .ref tr, .ref wa, .ref wb_, .ref fi, .ref cd]))], wt, z0_, z1_, wd0_, wd1_, wc, wcp] (fun (r : Int32) bs => ∃ (cla_2 : Nat) (cfw_2 : Nat → Int32) (v0_2 : Int32) (v1_2 : Int32) (v2_2 : Int32) (v3_2 : Int32) (v4_2 : Int32) (v5_2 : Int32) (v6_2 : Int32) (v7_2 : Int32) (wc_2 : va_W) (cpl_2 : Nat) (cf1_2 : Nat → Int32) (cf2_2 : Nat → Int32) (cf3_2 : Nat → Int32) (cst_2 : Int32) (cwh_2 : Int32) (wcp_2 : va_W), bs = [[(xo, .inr (10, [.ref t, .ref im, .ref mk, .ref rd, .ref po, .ref co, .ref tr, .ref wa, .ref wb_, .ref fi, .ref cd]))], wt, z0_, z1_, wd0_, wd1_, wc_2, wcp_2] ∧ bCourse T co cpo cla_2 cfw_2 v0_2 v1_2 v2_2 v3_2 v4_2 v5_2 v6_2 v7_2 wc_2 ∧ bPosts T cpo cpl_2 cf1_2 cf2_2 cf3_2 cst_2 cwh_2 wcp_2 ∧ (((i1.toInt < 0 ∨ (fk 0).toInt ≤ i1.toInt ∨ 2 ≤ i1.toInt) ∨ (i2.toInt < 0 ∨ (fk 1).toInt ≤ i2.toInt ∨ 2 ≤ i2.toInt)) ∧ r = -2 ∨ (i1.toInt = 0 ∧ 0 < (fk 0).toInt) ∧ (i2.toInt = 0 ∧ 0 < (fk 1).toInt) ∧ kState cr0_ inn0_ k10_ k20_ k30_ k40_ dd0_ p10_ p20_ p30_ n w_ r ∨ (i1.toInt = 0 ∧ 0 < (fk 0).toInt) ∧ (i2.toInt = 1 ∧ 1 < (fk 1).toInt) ∧ kState cr0_ inn0_ k10_ k20_ k30_ k40_ dd1_ p11_ p21_ p31_ n w_ r ∨ (i1.toInt = 1 ∧ 1 < (fk 0).toInt) ∧ (i2.toInt = 0 ∧ 0 < (fk 1).toInt) ∧ kState cr1_ inn1_ k11_ k21_ k31_ k41_ dd0_ p10_ p20_ p30_ n w_ r ∨ (i1.toInt = 1 ∧ 1 < (fk 0).toInt) ∧ (i2.toInt = 1 ∧ 1 < (fk 1).toInt) ∧ kState cr1_ inn1_ k11_ k21_ k31_ k41_ dd1_ p11_ p21_ p31_ n w_ r)) := by
  refine zMi_of (own := RX11) (by decide) rfl (Nat.le_of_ble_eq_true rfl) ?_
  intro p e s m args below meth c A ls C hr hlocks hnm hAe G hl
  have hx := C.1
  have hb := C.2.1
  have hl : lv_has ls 7 [(0, .ref xo), (1, .int i1), (2, .int i2), (3, .int n), (4, .int w_)] := hl
  refine lv_aload_n hx hb dX11_state_0 rfl (lv_at hl 0 rfl) ?_
  refine z_get C G clX11 0 rfl 0 (by decide) m_fl_RX11_10 rfl dX11_state_1 ?_
  refine lv_iload_n hx hb dX11_state_4 rfl (lv_at hl 1 rfl) ?_
  refine z_Vq (bc := [wt]) (br := [[(xo, .inr (10, [.ref t, .ref im, .ref mk, .ref rd, .ref po, .ref co, .ref tr, .ref wa, .ref wb_, .ref fi, .ref cd]))], z0_, z1_, wd0_, wd1_, wc, wcp]) (As := [.int i1]) (rest := []) C G (c_landAt l T t l0 l1 d0 d1 g0 g1 ln fl pl ft fk wt i1 ht) (kV_RX11_121 C.2.2.2.2 (Nat.le_of_ble_eq_true rfl) (Nat.le_of_ble_eq_true rfl)) [1] [0, 2, 3, 4, 5, 6, 7] rfl rfl (ci := 8) (qc := (RX9, TX9, 8)) rfl rfl (List.mem_flatten.mpr ⟨_, List.mem_of_getElem? (i := 0) rfl, (bTold_mem ht).choose_spec⟩) rfl rfl hl.1 dX11_state_5 (Nat.le_of_ble_eq_true rfl) (Nat.le_of_ble_eq_true rfl) (fun r_2 b1 H locs hw G => ?_)
  obtain ⟨rfl, hc_1⟩ := hw
  have G : zS T A s.heap s [[(xo, .inr (10, [.ref t, .ref im, .ref mk, .ref rd, .ref po, .ref co, .ref tr, .ref wa, .ref wb_, .ref fi, .ref cd]))], z0_, z1_, wd0_, wd1_, wc, wcp, wt] _ _ := G
  rcases hc_1 with ⟨rfl, h_3⟩ | ⟨rfl, h_4, h_5⟩ | ⟨rfl, h_6, h_7⟩
  · have h_3 : (i1.toInt < 0 ∨ (fk 0).toInt ≤ i1.toInt ∨ 2 ≤ i1.toInt) := h_3
    refine lv_astoreN (lv' := [(5, .null), (0, .ref xo), (1, .int i1), (2, .int i2), (3, .int n), (4, .int w_)]) hx hb dX11_state_8 hl (by decide) rfl (fun ls hl => ?_)
    refine lv_aload_n hx hb dX11_state_10 rfl (lv_at hl 1 rfl) ?_
    refine z_get C G clX11 0 rfl 0 (by decide) m_fl_RX11_10 rfl dX11_state_11 ?_
    refine lv_iload_n hx hb dX11_state_14 rfl (lv_at hl 3 rfl) ?_
    refine z_Vq (bc := [wt]) (br := [[(xo, .inr (10, [.ref t, .ref im, .ref mk, .ref rd, .ref po, .ref co, .ref tr, .ref wa, .ref wb_, .ref fi, .ref cd]))], z0_, z1_, wd0_, wd1_, wc, wcp]) (As := [.int i2]) (rest := []) C G (c_dayAt l T t l0 l1 d0 d1 g0 g1 ln fl pl ft fk wt i2 ht) (kV_RX11_130 C.2.2.2.2 (Nat.le_of_ble_eq_true rfl) (Nat.le_of_ble_eq_true rfl)) [7] [0, 1, 2, 3, 4, 5, 6] rfl rfl (ci := 8) (qc := (RX9, TX9, 8)) rfl rfl (List.mem_flatten.mpr ⟨_, List.mem_of_getElem? (i := 0) rfl, (bTold_mem ht).choose_spec⟩) rfl rfl hl.1 dX11_state_15 (Nat.le_of_ble_eq_true rfl) (Nat.le_of_ble_eq_true rfl) (fun r_9 b1 H locs hw G => ?_)
    obtain ⟨rfl, hc_8⟩ := hw
    have G : zS T A s.heap s [[(xo, .inr (10, [.ref t, .ref im, .ref mk, .ref rd, .ref po, .ref co, .ref tr, .ref wa, .ref wb_, .ref fi, .ref cd]))], z0_, z1_, wd0_, wd1_, wc, wcp, wt] _ _ := G
    rcases hc_8 with ⟨rfl, h_10⟩ | ⟨rfl, h_11, h_12⟩ | ⟨rfl, h_13, h_14⟩
    · have h_10 : (i2.toInt < 0 ∨ (fk 1).toInt ≤ i2.toInt ∨ 2 ≤ i2.toInt) := h_10
      refine lv_astoreN (lv' := [(6, .null), (5, .null), (0, .ref xo), (1, .int i1), (2, .int i2), (3, .int n), (4, .int w_)]) hx hb dX11_state_18 hl (by decide) rfl (fun ls hl => ?_)
      refine lv_aloadN hx hb dX11_state_20 (lv_at hl 1 rfl) ?_
      refine lv_ifnullN (tgt := 43) hx hb dX11_state_22 (by decide) ?_
      refine lv_bipush (v := (-2)) hx hb dX11_state_43 (by decide) ?_
      have G := G.sub (bs' := [[(xo, .inr (10, [.ref t, .ref im, .ref mk, .ref rd, .ref po, .ref co, .ref tr, .ref wa, .ref wb_, .ref fi, .ref cd]))], wt, z0_, z1_, wd0_, wd1_, wc, wcp]) [0, 7, 1, 2, 3, 4, 5, 6] rfl
      exact z_iret C hr hlocks G (Nat.le_of_ble_eq_true rfl) (Nat.le_of_ble_eq_true rfl) dX11_state_45 ⟨cla, cfw, v0, v1, v2, v3, v4, v5, v6, v7, wc, cpl, cf1, cf2, cf3, cst, cwh, wcp, rfl, hc, hcp, (Or.inl ⟨Or.inl (by assumption), rfl⟩)⟩
    · have h_11 : i2.toInt = 0 := h_11
      have h_12 : 0 < (fk 1).toInt := h_12
      refine lv_astore (lv' := [(6, .ref d0), (5, .null), (0, .ref xo), (1, .int i1), (2, .int i2), (3, .int n), (4, .int w_)]) hx hb dX11_state_18 hl (by decide) rfl (fun ls hl => ?_)
      refine lv_aloadN hx hb dX11_state_20 (lv_at hl 1 rfl) ?_
      refine lv_ifnullN (tgt := 43) hx hb dX11_state_22 (by decide) ?_
      refine lv_bipush (v := (-2)) hx hb dX11_state_43 (by decide) ?_
      have G := G.sub (bs' := [[(xo, .inr (10, [.ref t, .ref im, .ref mk, .ref rd, .ref po, .ref co, .ref tr, .ref wa, .ref wb_, .ref fi, .ref cd]))], wt, z0_, z1_, wd0_, wd1_, wc, wcp]) [0, 7, 1, 2, 3, 4, 5, 6] rfl
      exact z_iret C hr hlocks G (Nat.le_of_ble_eq_true rfl) (Nat.le_of_ble_eq_true rfl) dX11_state_45 ⟨cla, cfw, v0, v1, v2, v3, v4, v5, v6, v7, wc, cpl, cf1, cf2, cf3, cst, cwh, wcp, rfl, hc, hcp, (Or.inl ⟨Or.inl (by assumption), rfl⟩)⟩
    · have h_13 : i2.toInt = 1 := h_13
      have h_14 : 1 < (fk 1).toInt := h_14
      refine lv_astore (lv' := [(6, .ref d1), (5, .null), (0, .ref xo), (1, .int i1), (2, .int i2), (3, .int n), (4, .int w_)]) hx hb dX11_state_18 hl (by decide) rfl (fun ls hl => ?_)
      refine lv_aloadN hx hb dX11_state_20 (lv_at hl 1 rfl) ?_
      refine lv_ifnullN (tgt := 43) hx hb dX11_state_22 (by decide) ?_
      refine lv_bipush (v := (-2)) hx hb dX11_state_43 (by decide) ?_
      have G := G.sub (bs' := [[(xo, .inr (10, [.ref t, .ref im, .ref mk, .ref rd, .ref po, .ref co, .ref tr, .ref wa, .ref wb_, .ref fi, .ref cd]))], wt, z0_, z1_, wd0_, wd1_, wc, wcp]) [0, 7, 1, 2, 3, 4, 5, 6] rfl
      exact z_iret C hr hlocks G (Nat.le_of_ble_eq_true rfl) (Nat.le_of_ble_eq_true rfl) dX11_state_45 ⟨cla, cfw, v0, v1, v2, v3, v4, v5, v6, v7, wc, cpl, cf1, cf2, cf3, cst, cwh, wcp, rfl, hc, hcp, (Or.inl ⟨Or.inl (by assumption), rfl⟩)⟩
  · have h_4 : i1.toInt = 0 := h_4
    have h_5 : 0 < (fk 0).toInt := h_5
    refine lv_astore (lv' := [(5, .ref l0), (0, .ref xo), (1, .int i1), (2, .int i2), (3, .int n), (4, .int w_)]) hx hb dX11_state_8 hl (by decide) rfl (fun ls hl => ?_)
    refine lv_aload_n hx hb dX11_state_10 rfl (lv_at hl 1 rfl) ?_
    refine z_get C G clX11 0 rfl 0 (by decide) m_fl_RX11_10 rfl dX11_state_11 ?_
    refine lv_iload_n hx hb dX11_state_14 rfl (lv_at hl 3 rfl) ?_
    refine z_Vq (bc := [wt]) (br := [[(xo, .inr (10, [.ref t, .ref im, .ref mk, .ref rd, .ref po, .ref co, .ref tr, .ref wa, .ref wb_, .ref fi, .ref cd]))], z0_, z1_, wd0_, wd1_, wc, wcp]) (As := [.int i2]) (rest := []) C G (c_dayAt l T t l0 l1 d0 d1 g0 g1 ln fl pl ft fk wt i2 ht) (kV_RX11_130 C.2.2.2.2 (Nat.le_of_ble_eq_true rfl) (Nat.le_of_ble_eq_true rfl)) [7] [0, 1, 2, 3, 4, 5, 6] rfl rfl (ci := 8) (qc := (RX9, TX9, 8)) rfl rfl (List.mem_flatten.mpr ⟨_, List.mem_of_getElem? (i := 0) rfl, (bTold_mem ht).choose_spec⟩) rfl rfl hl.1 dX11_state_15 (Nat.le_of_ble_eq_true rfl) (Nat.le_of_ble_eq_true rfl) (fun r_16 b1 H locs hw G => ?_)
    obtain ⟨rfl, hc_15⟩ := hw
    have G : zS T A s.heap s [[(xo, .inr (10, [.ref t, .ref im, .ref mk, .ref rd, .ref po, .ref co, .ref tr, .ref wa, .ref wb_, .ref fi, .ref cd]))], z0_, z1_, wd0_, wd1_, wc, wcp, wt] _ _ := G
    rcases hc_15 with ⟨rfl, h_17⟩ | ⟨rfl, h_18, h_19⟩ | ⟨rfl, h_20, h_21⟩
    · have h_17 : (i2.toInt < 0 ∨ (fk 1).toInt ≤ i2.toInt ∨ 2 ≤ i2.toInt) := h_17
      refine lv_astoreN (lv' := [(6, .null), (5, .ref l0), (0, .ref xo), (1, .int i1), (2, .int i2), (3, .int n), (4, .int w_)]) hx hb dX11_state_18 hl (by decide) rfl (fun ls hl => ?_)
      refine lv_aload hx hb dX11_state_20 (lv_at hl 1 rfl) ?_
      refine lv_ifnull hx hb dX11_state_22 ?_
      refine lv_aloadN hx hb dX11_state_25 (lv_at hl 0 rfl) ?_
      refine lv_ifnullN (tgt := 43) hx hb dX11_state_27 (by decide) ?_
      refine lv_bipush (v := (-2)) hx hb dX11_state_43 (by decide) ?_
      have G := G.sub (bs' := [[(xo, .inr (10, [.ref t, .ref im, .ref mk, .ref rd, .ref po, .ref co, .ref tr, .ref wa, .ref wb_, .ref fi, .ref cd]))], wt, z0_, z1_, wd0_, wd1_, wc, wcp]) [0, 7, 1, 2, 3, 4, 5, 6] rfl
      exact z_iret C hr hlocks G (Nat.le_of_ble_eq_true rfl) (Nat.le_of_ble_eq_true rfl) dX11_state_45 ⟨cla, cfw, v0, v1, v2, v3, v4, v5, v6, v7, wc, cpl, cf1, cf2, cf3, cst, cwh, wcp, rfl, hc, hcp, (Or.inl ⟨Or.inr (by assumption), rfl⟩)⟩
    · have h_18 : i2.toInt = 0 := h_18
      have h_19 : 0 < (fk 1).toInt := h_19
      refine lv_astore (lv' := [(6, .ref d0), (5, .ref l0), (0, .ref xo), (1, .int i1), (2, .int i2), (3, .int n), (4, .int w_)]) hx hb dX11_state_18 hl (by decide) rfl (fun ls hl => ?_)
      refine lv_aload hx hb dX11_state_20 (lv_at hl 1 rfl) ?_
      refine lv_ifnull hx hb dX11_state_22 ?_
      refine lv_aload hx hb dX11_state_25 (lv_at hl 0 rfl) ?_
      refine lv_ifnull hx hb dX11_state_27 ?_
      refine lv_iload_n hx hb dX11_state_30 rfl (lv_at hl 5 rfl) ?_
      refine lv_if_lt (tgt := 43) hx hb dX11_state_31 (by decide) (fun c_22 => ?_) (fun c_22 => ?_)
      · have c_22n : n.toInt < (0 : Int) := (fa_lt _ _).mp c_22
        refine lv_bipush (v := (-2)) hx hb dX11_state_43 (by decide) ?_
        have G := G.sub (bs' := [[(xo, .inr (10, [.ref t, .ref im, .ref mk, .ref rd, .ref po, .ref co, .ref tr, .ref wa, .ref wb_, .ref fi, .ref cd]))], wt, z0_, z1_, wd0_, wd1_, wc, wcp]) [0, 7, 1, 2, 3, 4, 5, 6] rfl
        exact z_iret C hr hlocks G (Nat.le_of_ble_eq_true rfl) (Nat.le_of_ble_eq_true rfl) dX11_state_45 ⟨cla, cfw, v0, v1, v2, v3, v4, v5, v6, v7, wc, cpl, cf1, cf2, cf3, cst, cwh, wcp, rfl, hc, hcp, (Or.inr (Or.inl ⟨⟨by assumption, by assumption⟩, ⟨by assumption, by assumption⟩, Or.inl ⟨by omega, rfl⟩⟩))⟩
      · have c_22n : ¬ n.toInt < (0 : Int) := fun q => c_22 ((fa_lt _ _).mpr q)
        refine lv_iload_n hx hb dX11_state_34 rfl (lv_at hl 5 rfl) ?_
        refine lv_aload hx hb dX11_state_35 (lv_at hl 0 rfl) ?_
        obtain ⟨a1_23, a2_24, a3_25, rfl⟩ := hd0_
        have G : zS T A s.heap s [[(xo, .inr (10, [.ref t, .ref im, .ref mk, .ref rd, .ref po, .ref co, .ref tr, .ref wa, .ref wb_, .ref fi, .ref cd]))], z0_, z1_, [(d0, .inr (2, [.int dd0_, .ref a1_23, .ref a2_24, .ref a3_25]))], [(a1_23, .inl (T.2 0, 40, .inl p10_))], [(a2_24, .inl (T.2 0, 40, .inl p20_))], [(a3_25, .inl (T.2 0, 40, .inl p30_))], wd1_, wc, wcp, wt] _ _ := G.re rfl
        refine z_get C G clX2 3 rfl 0 (by decide) m_fl_RX11_149 rfl dX11_state_37 ?_
        refine lv_icmp_le (tgt := 46) hx hb dX11_state_40 (by decide) (fun c_26 => ?_) (fun c_26 => ?_)
        · have c_26n : n.toInt ≤ dd0_.toInt := (fa_le _ _).mp c_26
          refine lv_aload_n hx hb dX11_state_46 rfl (lv_at hl 2 rfl) ?_
          refine z_get C G clX11 0 rfl 5 (by decide) m_fl_RX11_41 rfl dX11_state_47 ?_
          refine lv_aload hx hb dX11_state_50 (lv_at hl 1 rfl) ?_
          refine lv_aload hx hb dX11_state_52 (lv_at hl 0 rfl) ?_
          refine lv_iload_n hx hb dX11_state_54 rfl (lv_at hl 5 rfl) ?_
          have hw_27 : bDay T d0 dd0_ p10_ p20_ p30_ [(d0, .inr (2, [.int dd0_, .ref a1_23, .ref a2_24, .ref a3_25])), (a1_23, .inl (T.2 0, 40, .inl p10_)), (a2_24, .inl (T.2 0, 40, .inl p20_)), (a3_25, .inl (T.2 0, 40, .inl p30_))] := ⟨a1_23, a2_24, a3_25, rfl⟩
          have G : zS T A s.heap s [[(xo, .inr (10, [.ref t, .ref im, .ref mk, .ref rd, .ref po, .ref co, .ref tr, .ref wa, .ref wb_, .ref fi, .ref cd]))], z0_, z1_, [(d0, .inr (2, [.int dd0_, .ref a1_23, .ref a2_24, .ref a3_25])), (a1_23, .inl (T.2 0, 40, .inl p10_)), (a2_24, .inl (T.2 0, 40, .inl p20_)), (a3_25, .inl (T.2 0, 40, .inl p30_))], wd1_, wc, wcp, wt] _ _ := G.re rfl
          refine z_Vi (bc := [wc, wcp, z0_, [(d0, .inr (2, [.int dd0_, .ref a1_23, .ref a2_24, .ref a3_25])), (a1_23, .inl (T.2 0, 40, .inl p10_)), (a2_24, .inl (T.2 0, 40, .inl p20_)), (a3_25, .inl (T.2 0, 40, .inl p30_))]]) (br := [[(xo, .inr (10, [.ref t, .ref im, .ref mk, .ref rd, .ref po, .ref co, .ref tr, .ref wa, .ref wb_, .ref fi, .ref cd]))], z1_, wd1_, wt]) (As := [.ref l0, .ref d0, .int n]) (rest := []) C G (c_f_goThrough l T co cpo cla cfw v0 v1 v2 v3 v4 v5 v6 v7 wc cpl cf1 cf2 cf3 cst cwh wcp l0 cr0_ inn0_ k10_ k20_ k30_ k40_ z0_ d0 dd0_ p10_ p20_ p30_ ([(d0, .inr (2, [.int dd0_, .ref a1_23, .ref a2_24, .ref a3_25])), (a1_23, .inl (T.2 0, 40, .inl p10_)), (a2_24, .inl (T.2 0, 40, .inl p20_)), (a3_25, .inl (T.2 0, 40, .inl p30_))]) n hc hcp hz0_ (by first | with_reducible assumption | with_reducible rfl | omega | assumption | rfl) hw_27 hLq0) (kV_RX11_145 C.2.2.2.2 (Nat.le_of_ble_eq_true rfl) (Nat.le_of_ble_eq_true rfl)) [5, 6, 1, 3] [0, 2, 4, 7] rfl rfl (ci := 1) (qc := (RX1, TX1, 11)) rfl rfl (List.mem_flatten.mpr ⟨_, List.mem_of_getElem? (i := 0) rfl, (bCourse_mem hc).choose_spec⟩) rfl rfl hl.1 dX11_state_55 (Nat.le_of_ble_eq_true rfl) (Nat.le_of_ble_eq_true rfl) (fun r_48 b1 H locs hw G => ?_)
          obtain ⟨wc2_28, gw_29, u0_30, u1_31, u2_32, u3_33, u4_34, u5_35, u6_36, u7_37, wp2_38, g1_39, g2_40, g3_41, sa_42, wa_43, rfl, h_44, h_45, h_46, h_47⟩ := hw
          have G : zS T A s.heap s [[(xo, .inr (10, [.ref t, .ref im, .ref mk, .ref rd, .ref po, .ref co, .ref tr, .ref wa, .ref wb_, .ref fi, .ref cd]))], z1_, wd1_, wt, wc2_28, wp2_38, z0_, [(d0, .inr (2, [.int dd0_, .ref a1_23, .ref a2_24, .ref a3_25])), (a1_23, .inl (T.2 0, 40, .inl p10_)), (a2_24, .inl (T.2 0, 40, .inl p20_)), (a3_25, .inl (T.2 0, 40, .inl p30_))]] _ _ := G
          obtain ⟨P0_, S0_, W0_, H0_, hst, hrr, hdd⟩ := h_47
          refine lv_iload_n hx hb dX11_state_58 rfl (lv_at hl 5 rfl) ?_
          refine lv_icmp_ne (tgt := 74) hx hb dX11_state_59 (by decide) (fun c_49 => ?_) (fun c_49 => ?_)
          · have c_49n : ¬ r_48.toInt = n.toInt := fun q => c_49 ((fa_eq _ _).mpr q)
            refine lv_bipush (v := (-2)) hx hb dX11_state_74 (by decide) ?_
            have G := G.sub (bs' := [[(xo, .inr (10, [.ref t, .ref im, .ref mk, .ref rd, .ref po, .ref co, .ref tr, .ref wa, .ref wb_, .ref fi, .ref cd]))], wt, z0_, z1_, [(d0, .inr (2, [.int dd0_, .ref a1_23, .ref a2_24, .ref a3_25])), (a1_23, .inl (T.2 0, 40, .inl p10_)), (a2_24, .inl (T.2 0, 40, .inl p20_)), (a3_25, .inl (T.2 0, 40, .inl p30_))], wd1_, wc2_28, wp2_38]) [0, 3, 6, 1, 7, 2, 4, 5] rfl
            exact z_iret C hr hlocks G (Nat.le_of_ble_eq_true rfl) (Nat.le_of_ble_eq_true rfl) dX11_state_76 ⟨l0, gw_29, u0_30, u1_31, u2_32, u3_33, u4_34, u5_35, u6_36, u7_37, wc2_28, l0, g1_39, g2_40, g3_41, sa_42, wa_43, wp2_38, rfl, h_44, h_45, (Or.inr (Or.inl ⟨⟨by assumption, by assumption⟩, ⟨by assumption, by assumption⟩, Or.inr ⟨⟨by omega, by omega⟩, P0_, S0_, W0_, H0_, hst, Or.inl ⟨fun q8 => absurd (hrr.trans q8) (by assumption), rfl⟩⟩⟩))⟩
          · have c_49n : r_48.toInt = n.toInt := (fa_eq _ _).mp c_49
            refine lv_aload_n hx hb dX11_state_62 rfl (lv_at hl 2 rfl) ?_
            refine z_get C G clX11 0 rfl 5 (by decide) m_fl_RX11_41 rfl dX11_state_63 ?_
            refine lv_iload hx hb dX11_state_66 (lv_at hl 6 rfl) ?_
            refine z_Vi (bc := [wc2_28, wp2_38, z0_]) (br := [[(xo, .inr (10, [.ref t, .ref im, .ref mk, .ref rd, .ref po, .ref co, .ref tr, .ref wa, .ref wb_, .ref fi, .ref cd]))], z1_, wd1_, wt, [(d0, .inr (2, [.int dd0_, .ref a1_23, .ref a2_24, .ref a3_25])), (a1_23, .inl (T.2 0, 40, .inl p10_)), (a2_24, .inl (T.2 0, 40, .inl p20_)), (a3_25, .inl (T.2 0, 40, .inl p30_))]]) (As := [.int w_]) (rest := []) C G (c_f_Course_told l T co cpo l0 gw_29 u0_30 u1_31 u2_32 u3_33 u4_34 u5_35 u6_36 u7_37 wc2_28 g1_39 g2_40 g3_41 sa_42 wa_43 wp2_38 cr0_ inn0_ k10_ k20_ k30_ k40_ z0_ w_ h_44 h_45 hz0_ (by first | with_reducible assumption | with_reducible rfl | omega | assumption | rfl)) (kV_RX11_152 C.2.2.2.2 (Nat.le_of_ble_eq_true rfl) (Nat.le_of_ble_eq_true rfl)) [4, 5, 6] [0, 1, 2, 3, 7] rfl rfl (ci := 1) (qc := (RX1, TX1, 11)) rfl rfl (List.mem_flatten.mpr ⟨_, List.mem_of_getElem? (i := 0) rfl, (bCourse_mem h_44).choose_spec⟩) rfl rfl hl.1 dX11_state_68 (Nat.le_of_ble_eq_true rfl) (Nat.le_of_ble_eq_true rfl) (fun r_51 b1 H locs hw G => ?_)
            obtain ⟨rfl, h_50⟩ := hw
            have G : zS T A s.heap s [[(xo, .inr (10, [.ref t, .ref im, .ref mk, .ref rd, .ref po, .ref co, .ref tr, .ref wa, .ref wb_, .ref fi, .ref cd]))], z1_, wd1_, wt, [(d0, .inr (2, [.int dd0_, .ref a1_23, .ref a2_24, .ref a3_25])), (a1_23, .inl (T.2 0, 40, .inl p10_)), (a2_24, .inl (T.2 0, 40, .inl p20_)), (a3_25, .inl (T.2 0, 40, .inl p30_))], wc2_28, wp2_38, z0_] _ _ := G
            subst h_50
            refine lv_goto (tgt := 76) hx hb dX11_state_71 (by decide) ?_
            have G := G.sub (bs' := [[(xo, .inr (10, [.ref t, .ref im, .ref mk, .ref rd, .ref po, .ref co, .ref tr, .ref wa, .ref wb_, .ref fi, .ref cd]))], wt, z0_, z1_, [(d0, .inr (2, [.int dd0_, .ref a1_23, .ref a2_24, .ref a3_25])), (a1_23, .inl (T.2 0, 40, .inl p10_)), (a2_24, .inl (T.2 0, 40, .inl p20_)), (a3_25, .inl (T.2 0, 40, .inl p30_))], wd1_, wc2_28, wp2_38]) [0, 3, 7, 1, 4, 2, 5, 6] rfl
            exact z_iret C hr hlocks G (Nat.le_of_ble_eq_true rfl) (Nat.le_of_ble_eq_true rfl) dX11_state_76 ⟨l0, gw_29, u0_30, u1_31, u2_32, u3_33, u4_34, u5_35, u6_36, u7_37, wc2_28, l0, g1_39, g2_40, g3_41, sa_42, wa_43, wp2_38, rfl, h_44, h_45, (Or.inr (Or.inl ⟨⟨by assumption, by assumption⟩, ⟨by assumption, by assumption⟩, Or.inr ⟨⟨by omega, by omega⟩, P0_, S0_, W0_, H0_, hst, Or.inr ⟨hrr.symm.trans (by assumption), by rw [← hdd]⟩⟩⟩))⟩
        · have c_26n : ¬ n.toInt ≤ dd0_.toInt := fun q => c_26 ((fa_le _ _).mpr q)
          refine lv_bipush (v := (-2)) hx hb dX11_state_43 (by decide) ?_
          have hw_52 : bDay T d0 dd0_ p10_ p20_ p30_ [(d0, .inr (2, [.int dd0_, .ref a1_23, .ref a2_24, .ref a3_25])), (a1_23, .inl (T.2 0, 40, .inl p10_)), (a2_24, .inl (T.2 0, 40, .inl p20_)), (a3_25, .inl (T.2 0, 40, .inl p30_))] := ⟨a1_23, a2_24, a3_25, rfl⟩
          have G : zS T A s.heap s [[(xo, .inr (10, [.ref t, .ref im, .ref mk, .ref rd, .ref po, .ref co, .ref tr, .ref wa, .ref wb_, .ref fi, .ref cd]))], z0_, z1_, [(d0, .inr (2, [.int dd0_, .ref a1_23, .ref a2_24, .ref a3_25])), (a1_23, .inl (T.2 0, 40, .inl p10_)), (a2_24, .inl (T.2 0, 40, .inl p20_)), (a3_25, .inl (T.2 0, 40, .inl p30_))], wd1_, wc, wcp, wt] _ _ := G.re rfl
          have G := G.sub (bs' := [[(xo, .inr (10, [.ref t, .ref im, .ref mk, .ref rd, .ref po, .ref co, .ref tr, .ref wa, .ref wb_, .ref fi, .ref cd]))], wt, z0_, z1_, [(d0, .inr (2, [.int dd0_, .ref a1_23, .ref a2_24, .ref a3_25])), (a1_23, .inl (T.2 0, 40, .inl p10_)), (a2_24, .inl (T.2 0, 40, .inl p20_)), (a3_25, .inl (T.2 0, 40, .inl p30_))], wd1_, wc, wcp]) [0, 7, 1, 2, 3, 4, 5, 6] rfl
          exact z_iret C hr hlocks G (Nat.le_of_ble_eq_true rfl) (Nat.le_of_ble_eq_true rfl) dX11_state_45 ⟨cla, cfw, v0, v1, v2, v3, v4, v5, v6, v7, wc, cpl, cf1, cf2, cf3, cst, cwh, wcp, rfl, hc, hcp, (Or.inr (Or.inl ⟨⟨by assumption, by assumption⟩, ⟨by assumption, by assumption⟩, Or.inl ⟨by omega, rfl⟩⟩))⟩
    · have h_20 : i2.toInt = 1 := h_20
      have h_21 : 1 < (fk 1).toInt := h_21
      refine lv_astore (lv' := [(6, .ref d1), (5, .ref l0), (0, .ref xo), (1, .int i1), (2, .int i2), (3, .int n), (4, .int w_)]) hx hb dX11_state_18 hl (by decide) rfl (fun ls hl => ?_)
      refine lv_aload hx hb dX11_state_20 (lv_at hl 1 rfl) ?_
      refine lv_ifnull hx hb dX11_state_22 ?_
      refine lv_aload hx hb dX11_state_25 (lv_at hl 0 rfl) ?_
      refine lv_ifnull hx hb dX11_state_27 ?_
      refine lv_iload_n hx hb dX11_state_30 rfl (lv_at hl 5 rfl) ?_
      refine lv_if_lt (tgt := 43) hx hb dX11_state_31 (by decide) (fun c_53 => ?_) (fun c_53 => ?_)
      · have c_53n : n.toInt < (0 : Int) := (fa_lt _ _).mp c_53
        refine lv_bipush (v := (-2)) hx hb dX11_state_43 (by decide) ?_
        have G := G.sub (bs' := [[(xo, .inr (10, [.ref t, .ref im, .ref mk, .ref rd, .ref po, .ref co, .ref tr, .ref wa, .ref wb_, .ref fi, .ref cd]))], wt, z0_, z1_, wd0_, wd1_, wc, wcp]) [0, 7, 1, 2, 3, 4, 5, 6] rfl
        exact z_iret C hr hlocks G (Nat.le_of_ble_eq_true rfl) (Nat.le_of_ble_eq_true rfl) dX11_state_45 ⟨cla, cfw, v0, v1, v2, v3, v4, v5, v6, v7, wc, cpl, cf1, cf2, cf3, cst, cwh, wcp, rfl, hc, hcp, (Or.inr (Or.inr (Or.inl ⟨⟨by assumption, by assumption⟩, ⟨by assumption, by assumption⟩, Or.inl ⟨by omega, rfl⟩⟩)))⟩
      · have c_53n : ¬ n.toInt < (0 : Int) := fun q => c_53 ((fa_lt _ _).mpr q)
        refine lv_iload_n hx hb dX11_state_34 rfl (lv_at hl 5 rfl) ?_
        refine lv_aload hx hb dX11_state_35 (lv_at hl 0 rfl) ?_
        obtain ⟨a1_54, a2_55, a3_56, rfl⟩ := hd1_
        have G : zS T A s.heap s [[(xo, .inr (10, [.ref t, .ref im, .ref mk, .ref rd, .ref po, .ref co, .ref tr, .ref wa, .ref wb_, .ref fi, .ref cd]))], z0_, z1_, wd0_, [(d1, .inr (2, [.int dd1_, .ref a1_54, .ref a2_55, .ref a3_56]))], [(a1_54, .inl (T.2 0, 40, .inl p11_))], [(a2_55, .inl (T.2 0, 40, .inl p21_))], [(a3_56, .inl (T.2 0, 40, .inl p31_))], wc, wcp, wt] _ _ := G.re rfl
        refine z_get C G clX2 4 rfl 0 (by decide) m_fl_RX11_149 rfl dX11_state_37 ?_
        refine lv_icmp_le (tgt := 46) hx hb dX11_state_40 (by decide) (fun c_57 => ?_) (fun c_57 => ?_)
        · have c_57n : n.toInt ≤ dd1_.toInt := (fa_le _ _).mp c_57
          refine lv_aload_n hx hb dX11_state_46 rfl (lv_at hl 2 rfl) ?_
          refine z_get C G clX11 0 rfl 5 (by decide) m_fl_RX11_41 rfl dX11_state_47 ?_
          refine lv_aload hx hb dX11_state_50 (lv_at hl 1 rfl) ?_
          refine lv_aload hx hb dX11_state_52 (lv_at hl 0 rfl) ?_
          refine lv_iload_n hx hb dX11_state_54 rfl (lv_at hl 5 rfl) ?_
          have hw_58 : bDay T d1 dd1_ p11_ p21_ p31_ [(d1, .inr (2, [.int dd1_, .ref a1_54, .ref a2_55, .ref a3_56])), (a1_54, .inl (T.2 0, 40, .inl p11_)), (a2_55, .inl (T.2 0, 40, .inl p21_)), (a3_56, .inl (T.2 0, 40, .inl p31_))] := ⟨a1_54, a2_55, a3_56, rfl⟩
          have G : zS T A s.heap s [[(xo, .inr (10, [.ref t, .ref im, .ref mk, .ref rd, .ref po, .ref co, .ref tr, .ref wa, .ref wb_, .ref fi, .ref cd]))], z0_, z1_, wd0_, [(d1, .inr (2, [.int dd1_, .ref a1_54, .ref a2_55, .ref a3_56])), (a1_54, .inl (T.2 0, 40, .inl p11_)), (a2_55, .inl (T.2 0, 40, .inl p21_)), (a3_56, .inl (T.2 0, 40, .inl p31_))], wc, wcp, wt] _ _ := G.re rfl
          refine z_Vi (bc := [wc, wcp, z0_, [(d1, .inr (2, [.int dd1_, .ref a1_54, .ref a2_55, .ref a3_56])), (a1_54, .inl (T.2 0, 40, .inl p11_)), (a2_55, .inl (T.2 0, 40, .inl p21_)), (a3_56, .inl (T.2 0, 40, .inl p31_))]]) (br := [[(xo, .inr (10, [.ref t, .ref im, .ref mk, .ref rd, .ref po, .ref co, .ref tr, .ref wa, .ref wb_, .ref fi, .ref cd]))], z1_, wd0_, wt]) (As := [.ref l0, .ref d1, .int n]) (rest := []) C G (c_f_goThrough l T co cpo cla cfw v0 v1 v2 v3 v4 v5 v6 v7 wc cpl cf1 cf2 cf3 cst cwh wcp l0 cr0_ inn0_ k10_ k20_ k30_ k40_ z0_ d1 dd1_ p11_ p21_ p31_ ([(d1, .inr (2, [.int dd1_, .ref a1_54, .ref a2_55, .ref a3_56])), (a1_54, .inl (T.2 0, 40, .inl p11_)), (a2_55, .inl (T.2 0, 40, .inl p21_)), (a3_56, .inl (T.2 0, 40, .inl p31_))]) n hc hcp hz0_ (by first | with_reducible assumption | with_reducible rfl | omega | assumption | rfl) hw_58 hLq0) (kV_RX11_145 C.2.2.2.2 (Nat.le_of_ble_eq_true rfl) (Nat.le_of_ble_eq_true rfl)) [5, 6, 1, 4] [0, 2, 3, 7] rfl rfl (ci := 1) (qc := (RX1, TX1, 11)) rfl rfl (List.mem_flatten.mpr ⟨_, List.mem_of_getElem? (i := 0) rfl, (bCourse_mem hc).choose_spec⟩) rfl rfl hl.1 dX11_state_55 (Nat.le_of_ble_eq_true rfl) (Nat.le_of_ble_eq_true rfl) (fun r_79 b1 H locs hw G => ?_)
          obtain ⟨wc2_59, gw_60, u0_61, u1_62, u2_63, u3_64, u4_65, u5_66, u6_67, u7_68, wp2_69, g1_70, g2_71, g3_72, sa_73, wa_74, rfl, h_75, h_76, h_77, h_78⟩ := hw
          have G : zS T A s.heap s [[(xo, .inr (10, [.ref t, .ref im, .ref mk, .ref rd, .ref po, .ref co, .ref tr, .ref wa, .ref wb_, .ref fi, .ref cd]))], z1_, wd0_, wt, wc2_59, wp2_69, z0_, [(d1, .inr (2, [.int dd1_, .ref a1_54, .ref a2_55, .ref a3_56])), (a1_54, .inl (T.2 0, 40, .inl p11_)), (a2_55, .inl (T.2 0, 40, .inl p21_)), (a3_56, .inl (T.2 0, 40, .inl p31_))]] _ _ := G
          obtain ⟨P0_, S0_, W0_, H0_, hst, hrr, hdd⟩ := h_78
          refine lv_iload_n hx hb dX11_state_58 rfl (lv_at hl 5 rfl) ?_
          refine lv_icmp_ne (tgt := 74) hx hb dX11_state_59 (by decide) (fun c_80 => ?_) (fun c_80 => ?_)
          · have c_80n : ¬ r_79.toInt = n.toInt := fun q => c_80 ((fa_eq _ _).mpr q)
            refine lv_bipush (v := (-2)) hx hb dX11_state_74 (by decide) ?_
            have G := G.sub (bs' := [[(xo, .inr (10, [.ref t, .ref im, .ref mk, .ref rd, .ref po, .ref co, .ref tr, .ref wa, .ref wb_, .ref fi, .ref cd]))], wt, z0_, z1_, wd0_, [(d1, .inr (2, [.int dd1_, .ref a1_54, .ref a2_55, .ref a3_56])), (a1_54, .inl (T.2 0, 40, .inl p11_)), (a2_55, .inl (T.2 0, 40, .inl p21_)), (a3_56, .inl (T.2 0, 40, .inl p31_))], wc2_59, wp2_69]) [0, 3, 6, 1, 2, 7, 4, 5] rfl
            exact z_iret C hr hlocks G (Nat.le_of_ble_eq_true rfl) (Nat.le_of_ble_eq_true rfl) dX11_state_76 ⟨l0, gw_60, u0_61, u1_62, u2_63, u3_64, u4_65, u5_66, u6_67, u7_68, wc2_59, l0, g1_70, g2_71, g3_72, sa_73, wa_74, wp2_69, rfl, h_75, h_76, (Or.inr (Or.inr (Or.inl ⟨⟨by assumption, by assumption⟩, ⟨by assumption, by assumption⟩, Or.inr ⟨⟨by omega, by omega⟩, P0_, S0_, W0_, H0_, hst, Or.inl ⟨fun q8 => absurd (hrr.trans q8) (by assumption), rfl⟩⟩⟩)))⟩
          · have c_80n : r_79.toInt = n.toInt := (fa_eq _ _).mp c_80
            refine lv_aload_n hx hb dX11_state_62 rfl (lv_at hl 2 rfl) ?_
            refine z_get C G clX11 0 rfl 5 (by decide) m_fl_RX11_41 rfl dX11_state_63 ?_
            refine lv_iload hx hb dX11_state_66 (lv_at hl 6 rfl) ?_
            refine z_Vi (bc := [wc2_59, wp2_69, z0_]) (br := [[(xo, .inr (10, [.ref t, .ref im, .ref mk, .ref rd, .ref po, .ref co, .ref tr, .ref wa, .ref wb_, .ref fi, .ref cd]))], z1_, wd0_, wt, [(d1, .inr (2, [.int dd1_, .ref a1_54, .ref a2_55, .ref a3_56])), (a1_54, .inl (T.2 0, 40, .inl p11_)), (a2_55, .inl (T.2 0, 40, .inl p21_)), (a3_56, .inl (T.2 0, 40, .inl p31_))]]) (As := [.int w_]) (rest := []) C G (c_f_Course_told l T co cpo l0 gw_60 u0_61 u1_62 u2_63 u3_64 u4_65 u5_66 u6_67 u7_68 wc2_59 g1_70 g2_71 g3_72 sa_73 wa_74 wp2_69 cr0_ inn0_ k10_ k20_ k30_ k40_ z0_ w_ h_75 h_76 hz0_ (by first | with_reducible assumption | with_reducible rfl | omega | assumption | rfl)) (kV_RX11_152 C.2.2.2.2 (Nat.le_of_ble_eq_true rfl) (Nat.le_of_ble_eq_true rfl)) [4, 5, 6] [0, 1, 2, 3, 7] rfl rfl (ci := 1) (qc := (RX1, TX1, 11)) rfl rfl (List.mem_flatten.mpr ⟨_, List.mem_of_getElem? (i := 0) rfl, (bCourse_mem h_75).choose_spec⟩) rfl rfl hl.1 dX11_state_68 (Nat.le_of_ble_eq_true rfl) (Nat.le_of_ble_eq_true rfl) (fun r_82 b1 H locs hw G => ?_)
            obtain ⟨rfl, h_81⟩ := hw
            have G : zS T A s.heap s [[(xo, .inr (10, [.ref t, .ref im, .ref mk, .ref rd, .ref po, .ref co, .ref tr, .ref wa, .ref wb_, .ref fi, .ref cd]))], z1_, wd0_, wt, [(d1, .inr (2, [.int dd1_, .ref a1_54, .ref a2_55, .ref a3_56])), (a1_54, .inl (T.2 0, 40, .inl p11_)), (a2_55, .inl (T.2 0, 40, .inl p21_)), (a3_56, .inl (T.2 0, 40, .inl p31_))], wc2_59, wp2_69, z0_] _ _ := G
            subst h_81
            refine lv_goto (tgt := 76) hx hb dX11_state_71 (by decide) ?_
            have G := G.sub (bs' := [[(xo, .inr (10, [.ref t, .ref im, .ref mk, .ref rd, .ref po, .ref co, .ref tr, .ref wa, .ref wb_, .ref fi, .ref cd]))], wt, z0_, z1_, wd0_, [(d1, .inr (2, [.int dd1_, .ref a1_54, .ref a2_55, .ref a3_56])), (a1_54, .inl (T.2 0, 40, .inl p11_)), (a2_55, .inl (T.2 0, 40, .inl p21_)), (a3_56, .inl (T.2 0, 40, .inl p31_))], wc2_59, wp2_69]) [0, 3, 7, 1, 2, 4, 5, 6] rfl
            exact z_iret C hr hlocks G (Nat.le_of_ble_eq_true rfl) (Nat.le_of_ble_eq_true rfl) dX11_state_76 ⟨l0, gw_60, u0_61, u1_62, u2_63, u3_64, u4_65, u5_66, u6_67, u7_68, wc2_59, l0, g1_70, g2_71, g3_72, sa_73, wa_74, wp2_69, rfl, h_75, h_76, (Or.inr (Or.inr (Or.inl ⟨⟨by assumption, by assumption⟩, ⟨by assumption, by assumption⟩, Or.inr ⟨⟨by omega, by omega⟩, P0_, S0_, W0_, H0_, hst, Or.inr ⟨hrr.symm.trans (by assumption), by rw [← hdd]⟩⟩⟩)))⟩
        · have c_57n : ¬ n.toInt ≤ dd1_.toInt := fun q => c_57 ((fa_le _ _).mpr q)
          refine lv_bipush (v := (-2)) hx hb dX11_state_43 (by decide) ?_
          have hw_83 : bDay T d1 dd1_ p11_ p21_ p31_ [(d1, .inr (2, [.int dd1_, .ref a1_54, .ref a2_55, .ref a3_56])), (a1_54, .inl (T.2 0, 40, .inl p11_)), (a2_55, .inl (T.2 0, 40, .inl p21_)), (a3_56, .inl (T.2 0, 40, .inl p31_))] := ⟨a1_54, a2_55, a3_56, rfl⟩
          have G : zS T A s.heap s [[(xo, .inr (10, [.ref t, .ref im, .ref mk, .ref rd, .ref po, .ref co, .ref tr, .ref wa, .ref wb_, .ref fi, .ref cd]))], z0_, z1_, wd0_, [(d1, .inr (2, [.int dd1_, .ref a1_54, .ref a2_55, .ref a3_56])), (a1_54, .inl (T.2 0, 40, .inl p11_)), (a2_55, .inl (T.2 0, 40, .inl p21_)), (a3_56, .inl (T.2 0, 40, .inl p31_))], wc, wcp, wt] _ _ := G.re rfl
          have G := G.sub (bs' := [[(xo, .inr (10, [.ref t, .ref im, .ref mk, .ref rd, .ref po, .ref co, .ref tr, .ref wa, .ref wb_, .ref fi, .ref cd]))], wt, z0_, z1_, wd0_, [(d1, .inr (2, [.int dd1_, .ref a1_54, .ref a2_55, .ref a3_56])), (a1_54, .inl (T.2 0, 40, .inl p11_)), (a2_55, .inl (T.2 0, 40, .inl p21_)), (a3_56, .inl (T.2 0, 40, .inl p31_))], wc, wcp]) [0, 7, 1, 2, 3, 4, 5, 6] rfl
          exact z_iret C hr hlocks G (Nat.le_of_ble_eq_true rfl) (Nat.le_of_ble_eq_true rfl) dX11_state_45 ⟨cla, cfw, v0, v1, v2, v3, v4, v5, v6, v7, wc, cpl, cf1, cf2, cf3, cst, cwh, wcp, rfl, hc, hcp, (Or.inr (Or.inr (Or.inl ⟨⟨by assumption, by assumption⟩, ⟨by assumption, by assumption⟩, Or.inl ⟨by omega, rfl⟩⟩)))⟩
  · have h_6 : i1.toInt = 1 := h_6
    have h_7 : 1 < (fk 0).toInt := h_7
    refine lv_astore (lv' := [(5, .ref l1), (0, .ref xo), (1, .int i1), (2, .int i2), (3, .int n), (4, .int w_)]) hx hb dX11_state_8 hl (by decide) rfl (fun ls hl => ?_)
    refine lv_aload_n hx hb dX11_state_10 rfl (lv_at hl 1 rfl) ?_
    refine z_get C G clX11 0 rfl 0 (by decide) m_fl_RX11_10 rfl dX11_state_11 ?_
    refine lv_iload_n hx hb dX11_state_14 rfl (lv_at hl 3 rfl) ?_
    refine z_Vq (bc := [wt]) (br := [[(xo, .inr (10, [.ref t, .ref im, .ref mk, .ref rd, .ref po, .ref co, .ref tr, .ref wa, .ref wb_, .ref fi, .ref cd]))], z0_, z1_, wd0_, wd1_, wc, wcp]) (As := [.int i2]) (rest := []) C G (c_dayAt l T t l0 l1 d0 d1 g0 g1 ln fl pl ft fk wt i2 ht) (kV_RX11_130 C.2.2.2.2 (Nat.le_of_ble_eq_true rfl) (Nat.le_of_ble_eq_true rfl)) [7] [0, 1, 2, 3, 4, 5, 6] rfl rfl (ci := 8) (qc := (RX9, TX9, 8)) rfl rfl (List.mem_flatten.mpr ⟨_, List.mem_of_getElem? (i := 0) rfl, (bTold_mem ht).choose_spec⟩) rfl rfl hl.1 dX11_state_15 (Nat.le_of_ble_eq_true rfl) (Nat.le_of_ble_eq_true rfl) (fun r_85 b1 H locs hw G => ?_)
    obtain ⟨rfl, hc_84⟩ := hw
    have G : zS T A s.heap s [[(xo, .inr (10, [.ref t, .ref im, .ref mk, .ref rd, .ref po, .ref co, .ref tr, .ref wa, .ref wb_, .ref fi, .ref cd]))], z0_, z1_, wd0_, wd1_, wc, wcp, wt] _ _ := G
    rcases hc_84 with ⟨rfl, h_86⟩ | ⟨rfl, h_87, h_88⟩ | ⟨rfl, h_89, h_90⟩
    · have h_86 : (i2.toInt < 0 ∨ (fk 1).toInt ≤ i2.toInt ∨ 2 ≤ i2.toInt) := h_86
      refine lv_astoreN (lv' := [(6, .null), (5, .ref l1), (0, .ref xo), (1, .int i1), (2, .int i2), (3, .int n), (4, .int w_)]) hx hb dX11_state_18 hl (by decide) rfl (fun ls hl => ?_)
      refine lv_aload hx hb dX11_state_20 (lv_at hl 1 rfl) ?_
      refine lv_ifnull hx hb dX11_state_22 ?_
      refine lv_aloadN hx hb dX11_state_25 (lv_at hl 0 rfl) ?_
      refine lv_ifnullN (tgt := 43) hx hb dX11_state_27 (by decide) ?_
      refine lv_bipush (v := (-2)) hx hb dX11_state_43 (by decide) ?_
      have G := G.sub (bs' := [[(xo, .inr (10, [.ref t, .ref im, .ref mk, .ref rd, .ref po, .ref co, .ref tr, .ref wa, .ref wb_, .ref fi, .ref cd]))], wt, z0_, z1_, wd0_, wd1_, wc, wcp]) [0, 7, 1, 2, 3, 4, 5, 6] rfl
      exact z_iret C hr hlocks G (Nat.le_of_ble_eq_true rfl) (Nat.le_of_ble_eq_true rfl) dX11_state_45 ⟨cla, cfw, v0, v1, v2, v3, v4, v5, v6, v7, wc, cpl, cf1, cf2, cf3, cst, cwh, wcp, rfl, hc, hcp, (Or.inl ⟨Or.inr (by assumption), rfl⟩)⟩
    · have h_87 : i2.toInt = 0 := h_87
      have h_88 : 0 < (fk 1).toInt := h_88
      refine lv_astore (lv' := [(6, .ref d0), (5, .ref l1), (0, .ref xo), (1, .int i1), (2, .int i2), (3, .int n), (4, .int w_)]) hx hb dX11_state_18 hl (by decide) rfl (fun ls hl => ?_)
      refine lv_aload hx hb dX11_state_20 (lv_at hl 1 rfl) ?_
      refine lv_ifnull hx hb dX11_state_22 ?_
      refine lv_aload hx hb dX11_state_25 (lv_at hl 0 rfl) ?_
      refine lv_ifnull hx hb dX11_state_27 ?_
      refine lv_iload_n hx hb dX11_state_30 rfl (lv_at hl 5 rfl) ?_
      refine lv_if_lt (tgt := 43) hx hb dX11_state_31 (by decide) (fun c_91 => ?_) (fun c_91 => ?_)
      · have c_91n : n.toInt < (0 : Int) := (fa_lt _ _).mp c_91
        refine lv_bipush (v := (-2)) hx hb dX11_state_43 (by decide) ?_
        have G := G.sub (bs' := [[(xo, .inr (10, [.ref t, .ref im, .ref mk, .ref rd, .ref po, .ref co, .ref tr, .ref wa, .ref wb_, .ref fi, .ref cd]))], wt, z0_, z1_, wd0_, wd1_, wc, wcp]) [0, 7, 1, 2, 3, 4, 5, 6] rfl
        exact z_iret C hr hlocks G (Nat.le_of_ble_eq_true rfl) (Nat.le_of_ble_eq_true rfl) dX11_state_45 ⟨cla, cfw, v0, v1, v2, v3, v4, v5, v6, v7, wc, cpl, cf1, cf2, cf3, cst, cwh, wcp, rfl, hc, hcp, (Or.inr (Or.inr (Or.inr (Or.inl ⟨⟨by assumption, by assumption⟩, ⟨by assumption, by assumption⟩, Or.inl ⟨by omega, rfl⟩⟩))))⟩
      · have c_91n : ¬ n.toInt < (0 : Int) := fun q => c_91 ((fa_lt _ _).mpr q)
        refine lv_iload_n hx hb dX11_state_34 rfl (lv_at hl 5 rfl) ?_
        refine lv_aload hx hb dX11_state_35 (lv_at hl 0 rfl) ?_
        obtain ⟨a1_92, a2_93, a3_94, rfl⟩ := hd0_
        have G : zS T A s.heap s [[(xo, .inr (10, [.ref t, .ref im, .ref mk, .ref rd, .ref po, .ref co, .ref tr, .ref wa, .ref wb_, .ref fi, .ref cd]))], z0_, z1_, [(d0, .inr (2, [.int dd0_, .ref a1_92, .ref a2_93, .ref a3_94]))], [(a1_92, .inl (T.2 0, 40, .inl p10_))], [(a2_93, .inl (T.2 0, 40, .inl p20_))], [(a3_94, .inl (T.2 0, 40, .inl p30_))], wd1_, wc, wcp, wt] _ _ := G.re rfl
        refine z_get C G clX2 3 rfl 0 (by decide) m_fl_RX11_149 rfl dX11_state_37 ?_
        refine lv_icmp_le (tgt := 46) hx hb dX11_state_40 (by decide) (fun c_95 => ?_) (fun c_95 => ?_)
        · have c_95n : n.toInt ≤ dd0_.toInt := (fa_le _ _).mp c_95
          refine lv_aload_n hx hb dX11_state_46 rfl (lv_at hl 2 rfl) ?_
          refine z_get C G clX11 0 rfl 5 (by decide) m_fl_RX11_41 rfl dX11_state_47 ?_
          refine lv_aload hx hb dX11_state_50 (lv_at hl 1 rfl) ?_
          refine lv_aload hx hb dX11_state_52 (lv_at hl 0 rfl) ?_
          refine lv_iload_n hx hb dX11_state_54 rfl (lv_at hl 5 rfl) ?_
          have hw_96 : bDay T d0 dd0_ p10_ p20_ p30_ [(d0, .inr (2, [.int dd0_, .ref a1_92, .ref a2_93, .ref a3_94])), (a1_92, .inl (T.2 0, 40, .inl p10_)), (a2_93, .inl (T.2 0, 40, .inl p20_)), (a3_94, .inl (T.2 0, 40, .inl p30_))] := ⟨a1_92, a2_93, a3_94, rfl⟩
          have G : zS T A s.heap s [[(xo, .inr (10, [.ref t, .ref im, .ref mk, .ref rd, .ref po, .ref co, .ref tr, .ref wa, .ref wb_, .ref fi, .ref cd]))], z0_, z1_, [(d0, .inr (2, [.int dd0_, .ref a1_92, .ref a2_93, .ref a3_94])), (a1_92, .inl (T.2 0, 40, .inl p10_)), (a2_93, .inl (T.2 0, 40, .inl p20_)), (a3_94, .inl (T.2 0, 40, .inl p30_))], wd1_, wc, wcp, wt] _ _ := G.re rfl
          refine z_Vi (bc := [wc, wcp, z1_, [(d0, .inr (2, [.int dd0_, .ref a1_92, .ref a2_93, .ref a3_94])), (a1_92, .inl (T.2 0, 40, .inl p10_)), (a2_93, .inl (T.2 0, 40, .inl p20_)), (a3_94, .inl (T.2 0, 40, .inl p30_))]]) (br := [[(xo, .inr (10, [.ref t, .ref im, .ref mk, .ref rd, .ref po, .ref co, .ref tr, .ref wa, .ref wb_, .ref fi, .ref cd]))], z0_, wd1_, wt]) (As := [.ref l1, .ref d0, .int n]) (rest := []) C G (c_f_goThrough l T co cpo cla cfw v0 v1 v2 v3 v4 v5 v6 v7 wc cpl cf1 cf2 cf3 cst cwh wcp l1 cr1_ inn1_ k11_ k21_ k31_ k41_ z1_ d0 dd0_ p10_ p20_ p30_ ([(d0, .inr (2, [.int dd0_, .ref a1_92, .ref a2_93, .ref a3_94])), (a1_92, .inl (T.2 0, 40, .inl p10_)), (a2_93, .inl (T.2 0, 40, .inl p20_)), (a3_94, .inl (T.2 0, 40, .inl p30_))]) n hc hcp hz1_ (by first | with_reducible assumption | with_reducible rfl | omega | assumption | rfl) hw_96 hLq1) (kV_RX11_145 C.2.2.2.2 (Nat.le_of_ble_eq_true rfl) (Nat.le_of_ble_eq_true rfl)) [5, 6, 2, 3] [0, 1, 4, 7] rfl rfl (ci := 1) (qc := (RX1, TX1, 11)) rfl rfl (List.mem_flatten.mpr ⟨_, List.mem_of_getElem? (i := 0) rfl, (bCourse_mem hc).choose_spec⟩) rfl rfl hl.1 dX11_state_55 (Nat.le_of_ble_eq_true rfl) (Nat.le_of_ble_eq_true rfl) (fun r_117 b1 H locs hw G => ?_)
          obtain ⟨wc2_97, gw_98, u0_99, u1_100, u2_101, u3_102, u4_103, u5_104, u6_105, u7_106, wp2_107, g1_108, g2_109, g3_110, sa_111, wa_112, rfl, h_113, h_114, h_115, h_116⟩ := hw
          have G : zS T A s.heap s [[(xo, .inr (10, [.ref t, .ref im, .ref mk, .ref rd, .ref po, .ref co, .ref tr, .ref wa, .ref wb_, .ref fi, .ref cd]))], z0_, wd1_, wt, wc2_97, wp2_107, z1_, [(d0, .inr (2, [.int dd0_, .ref a1_92, .ref a2_93, .ref a3_94])), (a1_92, .inl (T.2 0, 40, .inl p10_)), (a2_93, .inl (T.2 0, 40, .inl p20_)), (a3_94, .inl (T.2 0, 40, .inl p30_))]] _ _ := G
          obtain ⟨P0_, S0_, W0_, H0_, hst, hrr, hdd⟩ := h_116
          refine lv_iload_n hx hb dX11_state_58 rfl (lv_at hl 5 rfl) ?_
          refine lv_icmp_ne (tgt := 74) hx hb dX11_state_59 (by decide) (fun c_118 => ?_) (fun c_118 => ?_)
          · have c_118n : ¬ r_117.toInt = n.toInt := fun q => c_118 ((fa_eq _ _).mpr q)
            refine lv_bipush (v := (-2)) hx hb dX11_state_74 (by decide) ?_
            have G := G.sub (bs' := [[(xo, .inr (10, [.ref t, .ref im, .ref mk, .ref rd, .ref po, .ref co, .ref tr, .ref wa, .ref wb_, .ref fi, .ref cd]))], wt, z0_, z1_, [(d0, .inr (2, [.int dd0_, .ref a1_92, .ref a2_93, .ref a3_94])), (a1_92, .inl (T.2 0, 40, .inl p10_)), (a2_93, .inl (T.2 0, 40, .inl p20_)), (a3_94, .inl (T.2 0, 40, .inl p30_))], wd1_, wc2_97, wp2_107]) [0, 3, 1, 6, 7, 2, 4, 5] rfl
            exact z_iret C hr hlocks G (Nat.le_of_ble_eq_true rfl) (Nat.le_of_ble_eq_true rfl) dX11_state_76 ⟨l1, gw_98, u0_99, u1_100, u2_101, u3_102, u4_103, u5_104, u6_105, u7_106, wc2_97, l1, g1_108, g2_109, g3_110, sa_111, wa_112, wp2_107, rfl, h_113, h_114, (Or.inr (Or.inr (Or.inr (Or.inl ⟨⟨by assumption, by assumption⟩, ⟨by assumption, by assumption⟩, Or.inr ⟨⟨by omega, by omega⟩, P0_, S0_, W0_, H0_, hst, Or.inl ⟨fun q8 => absurd (hrr.trans q8) (by assumption), rfl⟩⟩⟩))))⟩
          · have c_118n : r_117.toInt = n.toInt := (fa_eq _ _).mp c_118
            refine lv_aload_n hx hb dX11_state_62 rfl (lv_at hl 2 rfl) ?_
            refine z_get C G clX11 0 rfl 5 (by decide) m_fl_RX11_41 rfl dX11_state_63 ?_
            refine lv_iload hx hb dX11_state_66 (lv_at hl 6 rfl) ?_
            refine z_Vi (bc := [wc2_97, wp2_107, z1_]) (br := [[(xo, .inr (10, [.ref t, .ref im, .ref mk, .ref rd, .ref po, .ref co, .ref tr, .ref wa, .ref wb_, .ref fi, .ref cd]))], z0_, wd1_, wt, [(d0, .inr (2, [.int dd0_, .ref a1_92, .ref a2_93, .ref a3_94])), (a1_92, .inl (T.2 0, 40, .inl p10_)), (a2_93, .inl (T.2 0, 40, .inl p20_)), (a3_94, .inl (T.2 0, 40, .inl p30_))]]) (As := [.int w_]) (rest := []) C G (c_f_Course_told l T co cpo l1 gw_98 u0_99 u1_100 u2_101 u3_102 u4_103 u5_104 u6_105 u7_106 wc2_97 g1_108 g2_109 g3_110 sa_111 wa_112 wp2_107 cr1_ inn1_ k11_ k21_ k31_ k41_ z1_ w_ h_113 h_114 hz1_ (by first | with_reducible assumption | with_reducible rfl | omega | assumption | rfl)) (kV_RX11_152 C.2.2.2.2 (Nat.le_of_ble_eq_true rfl) (Nat.le_of_ble_eq_true rfl)) [4, 5, 6] [0, 1, 2, 3, 7] rfl rfl (ci := 1) (qc := (RX1, TX1, 11)) rfl rfl (List.mem_flatten.mpr ⟨_, List.mem_of_getElem? (i := 0) rfl, (bCourse_mem h_113).choose_spec⟩) rfl rfl hl.1 dX11_state_68 (Nat.le_of_ble_eq_true rfl) (Nat.le_of_ble_eq_true rfl) (fun r_120 b1 H locs hw G => ?_)
            obtain ⟨rfl, h_119⟩ := hw
            have G : zS T A s.heap s [[(xo, .inr (10, [.ref t, .ref im, .ref mk, .ref rd, .ref po, .ref co, .ref tr, .ref wa, .ref wb_, .ref fi, .ref cd]))], z0_, wd1_, wt, [(d0, .inr (2, [.int dd0_, .ref a1_92, .ref a2_93, .ref a3_94])), (a1_92, .inl (T.2 0, 40, .inl p10_)), (a2_93, .inl (T.2 0, 40, .inl p20_)), (a3_94, .inl (T.2 0, 40, .inl p30_))], wc2_97, wp2_107, z1_] _ _ := G
            subst h_119
            refine lv_goto (tgt := 76) hx hb dX11_state_71 (by decide) ?_
            have G := G.sub (bs' := [[(xo, .inr (10, [.ref t, .ref im, .ref mk, .ref rd, .ref po, .ref co, .ref tr, .ref wa, .ref wb_, .ref fi, .ref cd]))], wt, z0_, z1_, [(d0, .inr (2, [.int dd0_, .ref a1_92, .ref a2_93, .ref a3_94])), (a1_92, .inl (T.2 0, 40, .inl p10_)), (a2_93, .inl (T.2 0, 40, .inl p20_)), (a3_94, .inl (T.2 0, 40, .inl p30_))], wd1_, wc2_97, wp2_107]) [0, 3, 1, 7, 4, 2, 5, 6] rfl
            exact z_iret C hr hlocks G (Nat.le_of_ble_eq_true rfl) (Nat.le_of_ble_eq_true rfl) dX11_state_76 ⟨l1, gw_98, u0_99, u1_100, u2_101, u3_102, u4_103, u5_104, u6_105, u7_106, wc2_97, l1, g1_108, g2_109, g3_110, sa_111, wa_112, wp2_107, rfl, h_113, h_114, (Or.inr (Or.inr (Or.inr (Or.inl ⟨⟨by assumption, by assumption⟩, ⟨by assumption, by assumption⟩, Or.inr ⟨⟨by omega, by omega⟩, P0_, S0_, W0_, H0_, hst, Or.inr ⟨hrr.symm.trans (by assumption), by rw [← hdd]⟩⟩⟩))))⟩
        · have c_95n : ¬ n.toInt ≤ dd0_.toInt := fun q => c_95 ((fa_le _ _).mpr q)
          refine lv_bipush (v := (-2)) hx hb dX11_state_43 (by decide) ?_
          have hw_121 : bDay T d0 dd0_ p10_ p20_ p30_ [(d0, .inr (2, [.int dd0_, .ref a1_92, .ref a2_93, .ref a3_94])), (a1_92, .inl (T.2 0, 40, .inl p10_)), (a2_93, .inl (T.2 0, 40, .inl p20_)), (a3_94, .inl (T.2 0, 40, .inl p30_))] := ⟨a1_92, a2_93, a3_94, rfl⟩
          have G : zS T A s.heap s [[(xo, .inr (10, [.ref t, .ref im, .ref mk, .ref rd, .ref po, .ref co, .ref tr, .ref wa, .ref wb_, .ref fi, .ref cd]))], z0_, z1_, [(d0, .inr (2, [.int dd0_, .ref a1_92, .ref a2_93, .ref a3_94])), (a1_92, .inl (T.2 0, 40, .inl p10_)), (a2_93, .inl (T.2 0, 40, .inl p20_)), (a3_94, .inl (T.2 0, 40, .inl p30_))], wd1_, wc, wcp, wt] _ _ := G.re rfl
          have G := G.sub (bs' := [[(xo, .inr (10, [.ref t, .ref im, .ref mk, .ref rd, .ref po, .ref co, .ref tr, .ref wa, .ref wb_, .ref fi, .ref cd]))], wt, z0_, z1_, [(d0, .inr (2, [.int dd0_, .ref a1_92, .ref a2_93, .ref a3_94])), (a1_92, .inl (T.2 0, 40, .inl p10_)), (a2_93, .inl (T.2 0, 40, .inl p20_)), (a3_94, .inl (T.2 0, 40, .inl p30_))], wd1_, wc, wcp]) [0, 7, 1, 2, 3, 4, 5, 6] rfl
          exact z_iret C hr hlocks G (Nat.le_of_ble_eq_true rfl) (Nat.le_of_ble_eq_true rfl) dX11_state_45 ⟨cla, cfw, v0, v1, v2, v3, v4, v5, v6, v7, wc, cpl, cf1, cf2, cf3, cst, cwh, wcp, rfl, hc, hcp, (Or.inr (Or.inr (Or.inr (Or.inl ⟨⟨by assumption, by assumption⟩, ⟨by assumption, by assumption⟩, Or.inl ⟨by omega, rfl⟩⟩))))⟩
    · have h_89 : i2.toInt = 1 := h_89
      have h_90 : 1 < (fk 1).toInt := h_90
      refine lv_astore (lv' := [(6, .ref d1), (5, .ref l1), (0, .ref xo), (1, .int i1), (2, .int i2), (3, .int n), (4, .int w_)]) hx hb dX11_state_18 hl (by decide) rfl (fun ls hl => ?_)
      refine lv_aload hx hb dX11_state_20 (lv_at hl 1 rfl) ?_
      refine lv_ifnull hx hb dX11_state_22 ?_
      refine lv_aload hx hb dX11_state_25 (lv_at hl 0 rfl) ?_
      refine lv_ifnull hx hb dX11_state_27 ?_
      refine lv_iload_n hx hb dX11_state_30 rfl (lv_at hl 5 rfl) ?_
      refine lv_if_lt (tgt := 43) hx hb dX11_state_31 (by decide) (fun c_122 => ?_) (fun c_122 => ?_)
      · have c_122n : n.toInt < (0 : Int) := (fa_lt _ _).mp c_122
        refine lv_bipush (v := (-2)) hx hb dX11_state_43 (by decide) ?_
        have G := G.sub (bs' := [[(xo, .inr (10, [.ref t, .ref im, .ref mk, .ref rd, .ref po, .ref co, .ref tr, .ref wa, .ref wb_, .ref fi, .ref cd]))], wt, z0_, z1_, wd0_, wd1_, wc, wcp]) [0, 7, 1, 2, 3, 4, 5, 6] rfl
        exact z_iret C hr hlocks G (Nat.le_of_ble_eq_true rfl) (Nat.le_of_ble_eq_true rfl) dX11_state_45 ⟨cla, cfw, v0, v1, v2, v3, v4, v5, v6, v7, wc, cpl, cf1, cf2, cf3, cst, cwh, wcp, rfl, hc, hcp, (Or.inr (Or.inr (Or.inr (Or.inr (⟨⟨by assumption, by assumption⟩, ⟨by assumption, by assumption⟩, Or.inl ⟨by omega, rfl⟩⟩)))))⟩
      · have c_122n : ¬ n.toInt < (0 : Int) := fun q => c_122 ((fa_lt _ _).mpr q)
        refine lv_iload_n hx hb dX11_state_34 rfl (lv_at hl 5 rfl) ?_
        refine lv_aload hx hb dX11_state_35 (lv_at hl 0 rfl) ?_
        obtain ⟨a1_123, a2_124, a3_125, rfl⟩ := hd1_
        have G : zS T A s.heap s [[(xo, .inr (10, [.ref t, .ref im, .ref mk, .ref rd, .ref po, .ref co, .ref tr, .ref wa, .ref wb_, .ref fi, .ref cd]))], z0_, z1_, wd0_, [(d1, .inr (2, [.int dd1_, .ref a1_123, .ref a2_124, .ref a3_125]))], [(a1_123, .inl (T.2 0, 40, .inl p11_))], [(a2_124, .inl (T.2 0, 40, .inl p21_))], [(a3_125, .inl (T.2 0, 40, .inl p31_))], wc, wcp, wt] _ _ := G.re rfl
        refine z_get C G clX2 4 rfl 0 (by decide) m_fl_RX11_149 rfl dX11_state_37 ?_
        refine lv_icmp_le (tgt := 46) hx hb dX11_state_40 (by decide) (fun c_126 => ?_) (fun c_126 => ?_)
        · have c_126n : n.toInt ≤ dd1_.toInt := (fa_le _ _).mp c_126
          refine lv_aload_n hx hb dX11_state_46 rfl (lv_at hl 2 rfl) ?_
          refine z_get C G clX11 0 rfl 5 (by decide) m_fl_RX11_41 rfl dX11_state_47 ?_
          refine lv_aload hx hb dX11_state_50 (lv_at hl 1 rfl) ?_
          refine lv_aload hx hb dX11_state_52 (lv_at hl 0 rfl) ?_
          refine lv_iload_n hx hb dX11_state_54 rfl (lv_at hl 5 rfl) ?_
          have hw_127 : bDay T d1 dd1_ p11_ p21_ p31_ [(d1, .inr (2, [.int dd1_, .ref a1_123, .ref a2_124, .ref a3_125])), (a1_123, .inl (T.2 0, 40, .inl p11_)), (a2_124, .inl (T.2 0, 40, .inl p21_)), (a3_125, .inl (T.2 0, 40, .inl p31_))] := ⟨a1_123, a2_124, a3_125, rfl⟩
          have G : zS T A s.heap s [[(xo, .inr (10, [.ref t, .ref im, .ref mk, .ref rd, .ref po, .ref co, .ref tr, .ref wa, .ref wb_, .ref fi, .ref cd]))], z0_, z1_, wd0_, [(d1, .inr (2, [.int dd1_, .ref a1_123, .ref a2_124, .ref a3_125])), (a1_123, .inl (T.2 0, 40, .inl p11_)), (a2_124, .inl (T.2 0, 40, .inl p21_)), (a3_125, .inl (T.2 0, 40, .inl p31_))], wc, wcp, wt] _ _ := G.re rfl
          refine z_Vi (bc := [wc, wcp, z1_, [(d1, .inr (2, [.int dd1_, .ref a1_123, .ref a2_124, .ref a3_125])), (a1_123, .inl (T.2 0, 40, .inl p11_)), (a2_124, .inl (T.2 0, 40, .inl p21_)), (a3_125, .inl (T.2 0, 40, .inl p31_))]]) (br := [[(xo, .inr (10, [.ref t, .ref im, .ref mk, .ref rd, .ref po, .ref co, .ref tr, .ref wa, .ref wb_, .ref fi, .ref cd]))], z0_, wd0_, wt]) (As := [.ref l1, .ref d1, .int n]) (rest := []) C G (c_f_goThrough l T co cpo cla cfw v0 v1 v2 v3 v4 v5 v6 v7 wc cpl cf1 cf2 cf3 cst cwh wcp l1 cr1_ inn1_ k11_ k21_ k31_ k41_ z1_ d1 dd1_ p11_ p21_ p31_ ([(d1, .inr (2, [.int dd1_, .ref a1_123, .ref a2_124, .ref a3_125])), (a1_123, .inl (T.2 0, 40, .inl p11_)), (a2_124, .inl (T.2 0, 40, .inl p21_)), (a3_125, .inl (T.2 0, 40, .inl p31_))]) n hc hcp hz1_ (by first | with_reducible assumption | with_reducible rfl | omega | assumption | rfl) hw_127 hLq1) (kV_RX11_145 C.2.2.2.2 (Nat.le_of_ble_eq_true rfl) (Nat.le_of_ble_eq_true rfl)) [5, 6, 2, 4] [0, 1, 3, 7] rfl rfl (ci := 1) (qc := (RX1, TX1, 11)) rfl rfl (List.mem_flatten.mpr ⟨_, List.mem_of_getElem? (i := 0) rfl, (bCourse_mem hc).choose_spec⟩) rfl rfl hl.1 dX11_state_55 (Nat.le_of_ble_eq_true rfl) (Nat.le_of_ble_eq_true rfl) (fun r_148 b1 H locs hw G => ?_)
          obtain ⟨wc2_128, gw_129, u0_130, u1_131, u2_132, u3_133, u4_134, u5_135, u6_136, u7_137, wp2_138, g1_139, g2_140, g3_141, sa_142, wa_143, rfl, h_144, h_145, h_146, h_147⟩ := hw
          have G : zS T A s.heap s [[(xo, .inr (10, [.ref t, .ref im, .ref mk, .ref rd, .ref po, .ref co, .ref tr, .ref wa, .ref wb_, .ref fi, .ref cd]))], z0_, wd0_, wt, wc2_128, wp2_138, z1_, [(d1, .inr (2, [.int dd1_, .ref a1_123, .ref a2_124, .ref a3_125])), (a1_123, .inl (T.2 0, 40, .inl p11_)), (a2_124, .inl (T.2 0, 40, .inl p21_)), (a3_125, .inl (T.2 0, 40, .inl p31_))]] _ _ := G
          obtain ⟨P0_, S0_, W0_, H0_, hst, hrr, hdd⟩ := h_147
          refine lv_iload_n hx hb dX11_state_58 rfl (lv_at hl 5 rfl) ?_
          refine lv_icmp_ne (tgt := 74) hx hb dX11_state_59 (by decide) (fun c_149 => ?_) (fun c_149 => ?_)
          · have c_149n : ¬ r_148.toInt = n.toInt := fun q => c_149 ((fa_eq _ _).mpr q)
            refine lv_bipush (v := (-2)) hx hb dX11_state_74 (by decide) ?_
            have G := G.sub (bs' := [[(xo, .inr (10, [.ref t, .ref im, .ref mk, .ref rd, .ref po, .ref co, .ref tr, .ref wa, .ref wb_, .ref fi, .ref cd]))], wt, z0_, z1_, wd0_, [(d1, .inr (2, [.int dd1_, .ref a1_123, .ref a2_124, .ref a3_125])), (a1_123, .inl (T.2 0, 40, .inl p11_)), (a2_124, .inl (T.2 0, 40, .inl p21_)), (a3_125, .inl (T.2 0, 40, .inl p31_))], wc2_128, wp2_138]) [0, 3, 1, 6, 2, 7, 4, 5] rfl
            exact z_iret C hr hlocks G (Nat.le_of_ble_eq_true rfl) (Nat.le_of_ble_eq_true rfl) dX11_state_76 ⟨l1, gw_129, u0_130, u1_131, u2_132, u3_133, u4_134, u5_135, u6_136, u7_137, wc2_128, l1, g1_139, g2_140, g3_141, sa_142, wa_143, wp2_138, rfl, h_144, h_145, (Or.inr (Or.inr (Or.inr (Or.inr (⟨⟨by assumption, by assumption⟩, ⟨by assumption, by assumption⟩, Or.inr ⟨⟨by omega, by omega⟩, P0_, S0_, W0_, H0_, hst, Or.inl ⟨fun q8 => absurd (hrr.trans q8) (by assumption), rfl⟩⟩⟩)))))⟩
          · have c_149n : r_148.toInt = n.toInt := (fa_eq _ _).mp c_149
            refine lv_aload_n hx hb dX11_state_62 rfl (lv_at hl 2 rfl) ?_
            refine z_get C G clX11 0 rfl 5 (by decide) m_fl_RX11_41 rfl dX11_state_63 ?_
            refine lv_iload hx hb dX11_state_66 (lv_at hl 6 rfl) ?_
            refine z_Vi (bc := [wc2_128, wp2_138, z1_]) (br := [[(xo, .inr (10, [.ref t, .ref im, .ref mk, .ref rd, .ref po, .ref co, .ref tr, .ref wa, .ref wb_, .ref fi, .ref cd]))], z0_, wd0_, wt, [(d1, .inr (2, [.int dd1_, .ref a1_123, .ref a2_124, .ref a3_125])), (a1_123, .inl (T.2 0, 40, .inl p11_)), (a2_124, .inl (T.2 0, 40, .inl p21_)), (a3_125, .inl (T.2 0, 40, .inl p31_))]]) (As := [.int w_]) (rest := []) C G (c_f_Course_told l T co cpo l1 gw_129 u0_130 u1_131 u2_132 u3_133 u4_134 u5_135 u6_136 u7_137 wc2_128 g1_139 g2_140 g3_141 sa_142 wa_143 wp2_138 cr1_ inn1_ k11_ k21_ k31_ k41_ z1_ w_ h_144 h_145 hz1_ (by first | with_reducible assumption | with_reducible rfl | omega | assumption | rfl)) (kV_RX11_152 C.2.2.2.2 (Nat.le_of_ble_eq_true rfl) (Nat.le_of_ble_eq_true rfl)) [4, 5, 6] [0, 1, 2, 3, 7] rfl rfl (ci := 1) (qc := (RX1, TX1, 11)) rfl rfl (List.mem_flatten.mpr ⟨_, List.mem_of_getElem? (i := 0) rfl, (bCourse_mem h_144).choose_spec⟩) rfl rfl hl.1 dX11_state_68 (Nat.le_of_ble_eq_true rfl) (Nat.le_of_ble_eq_true rfl) (fun r_151 b1 H locs hw G => ?_)
            obtain ⟨rfl, h_150⟩ := hw
            have G : zS T A s.heap s [[(xo, .inr (10, [.ref t, .ref im, .ref mk, .ref rd, .ref po, .ref co, .ref tr, .ref wa, .ref wb_, .ref fi, .ref cd]))], z0_, wd0_, wt, [(d1, .inr (2, [.int dd1_, .ref a1_123, .ref a2_124, .ref a3_125])), (a1_123, .inl (T.2 0, 40, .inl p11_)), (a2_124, .inl (T.2 0, 40, .inl p21_)), (a3_125, .inl (T.2 0, 40, .inl p31_))], wc2_128, wp2_138, z1_] _ _ := G
            subst h_150
            refine lv_goto (tgt := 76) hx hb dX11_state_71 (by decide) ?_
            have G := G.sub (bs' := [[(xo, .inr (10, [.ref t, .ref im, .ref mk, .ref rd, .ref po, .ref co, .ref tr, .ref wa, .ref wb_, .ref fi, .ref cd]))], wt, z0_, z1_, wd0_, [(d1, .inr (2, [.int dd1_, .ref a1_123, .ref a2_124, .ref a3_125])), (a1_123, .inl (T.2 0, 40, .inl p11_)), (a2_124, .inl (T.2 0, 40, .inl p21_)), (a3_125, .inl (T.2 0, 40, .inl p31_))], wc2_128, wp2_138]) [0, 3, 1, 7, 2, 4, 5, 6] rfl
            exact z_iret C hr hlocks G (Nat.le_of_ble_eq_true rfl) (Nat.le_of_ble_eq_true rfl) dX11_state_76 ⟨l1, gw_129, u0_130, u1_131, u2_132, u3_133, u4_134, u5_135, u6_136, u7_137, wc2_128, l1, g1_139, g2_140, g3_141, sa_142, wa_143, wp2_138, rfl, h_144, h_145, (Or.inr (Or.inr (Or.inr (Or.inr (⟨⟨by assumption, by assumption⟩, ⟨by assumption, by assumption⟩, Or.inr ⟨⟨by omega, by omega⟩, P0_, S0_, W0_, H0_, hst, Or.inr ⟨hrr.symm.trans (by assumption), by rw [← hdd]⟩⟩⟩)))))⟩
        · have c_126n : ¬ n.toInt ≤ dd1_.toInt := fun q => c_126 ((fa_le _ _).mpr q)
          refine lv_bipush (v := (-2)) hx hb dX11_state_43 (by decide) ?_
          have hw_152 : bDay T d1 dd1_ p11_ p21_ p31_ [(d1, .inr (2, [.int dd1_, .ref a1_123, .ref a2_124, .ref a3_125])), (a1_123, .inl (T.2 0, 40, .inl p11_)), (a2_124, .inl (T.2 0, 40, .inl p21_)), (a3_125, .inl (T.2 0, 40, .inl p31_))] := ⟨a1_123, a2_124, a3_125, rfl⟩
          have G : zS T A s.heap s [[(xo, .inr (10, [.ref t, .ref im, .ref mk, .ref rd, .ref po, .ref co, .ref tr, .ref wa, .ref wb_, .ref fi, .ref cd]))], z0_, z1_, wd0_, [(d1, .inr (2, [.int dd1_, .ref a1_123, .ref a2_124, .ref a3_125])), (a1_123, .inl (T.2 0, 40, .inl p11_)), (a2_124, .inl (T.2 0, 40, .inl p21_)), (a3_125, .inl (T.2 0, 40, .inl p31_))], wc, wcp, wt] _ _ := G.re rfl
          have G := G.sub (bs' := [[(xo, .inr (10, [.ref t, .ref im, .ref mk, .ref rd, .ref po, .ref co, .ref tr, .ref wa, .ref wb_, .ref fi, .ref cd]))], wt, z0_, z1_, wd0_, [(d1, .inr (2, [.int dd1_, .ref a1_123, .ref a2_124, .ref a3_125])), (a1_123, .inl (T.2 0, 40, .inl p11_)), (a2_124, .inl (T.2 0, 40, .inl p21_)), (a3_125, .inl (T.2 0, 40, .inl p31_))], wc, wcp]) [0, 7, 1, 2, 3, 4, 5, 6] rfl
          exact z_iret C hr hlocks G (Nat.le_of_ble_eq_true rfl) (Nat.le_of_ble_eq_true rfl) dX11_state_45 ⟨cla, cfw, v0, v1, v2, v3, v4, v5, v6, v7, wc, cpl, cf1, cf2, cf3, cst, cwh, wcp, rfl, hc, hcp, (Or.inr (Or.inr (Or.inr (Or.inr (⟨⟨by assumption, by assumption⟩, ⟨by assumption, by assumption⟩, Or.inl ⟨by omega, rfl⟩⟩)))))⟩
set_option maxHeartbeats 4000000 in
set_option maxRecDepth 100000 in
/-- c_fm_walkersOf -/
theorem c_fm_walkersOf (l : Launch) (T : zTy) (mo : Nat) (m_all : Nat) (m_has : Nat) (i_size : Int32) (i_next : Int32) (i_where : Int32) (i_token : Int32) (i_number : Int32) (i_word : Int32) (i_wrong : Int32) (i_farCrossing : Int32) (m_read : Nat) (i_z0 : Int32) (i_crossings : Int32) (i_inns : Int32) (m_posts : Nat) (m_shut : Nat) (m_here : Nat) (i_steps : Int32) (i_done : Int32) (i_at : Int32) (i_gone : Int32) (m_was : Nat) (m_came : Nat) (m_seenAt : Nat) (m_rowWorth : Nat) (m_farBy : Nat) (m_used : Nat) (i_everywhere : Int32) (i_again0 : Int32) (i_d0 : Int32) (i_never : Int32) (i_firstCame : Int32) (i_longRun : Int32) (i_moved : Int32) (i_crowd : Int32) (i_l0 : Int32) (i_fitMany : Int32) (i_fitLeast : Int32) (i_fitMost : Int32) (m_fitPost : Nat) (m_fitEnd : Nat) (m_keptPosts : Nat) (i_x0 : Int32) (f_here : Nat → Int32) (w_ : Int32) (hcr : 0 ≤ i_crossings.toInt ∧ i_crossings.toInt ≤ 7) : zMi l T yX12_walkersOf cX12_walkersOf 4 (some .int) 2 0 0 [.ref mo, .int w_] [[(mo, .inr (11, [.ref m_all, .ref m_has, .int i_size, .int i_next, .int i_where, .int i_token, .int i_number, .int i_word, .int i_wrong, .int i_farCrossing, .ref m_read, .int i_z0, .int i_crossings, .int i_inns, .ref m_posts, .ref m_shut, .ref m_here, .int i_steps, .int i_done, .int i_at, .int i_gone, .ref m_was, .ref m_came, .ref m_seenAt, .ref m_rowWorth, .ref m_farBy, .ref m_used, .int i_everywhere, .int i_again0, .int i_d0, .int i_never, .int i_firstCame, .int i_longRun, .int i_moved, .int i_crowd, .int i_l0, .int i_fitMany, .int i_fitLeast, .int i_fitMost, .ref m_fitPost, .ref m_fitEnd, .ref m_keptPosts, .int i_x0]))], [(m_here, .inl (T.2 0, 7, .inl f_here))]] (fun (r : Int32) bs => bs = [[(mo, .inr (11, [.ref m_all, .ref m_has, .int i_size, .int i_next, .int i_where, .int i_token, .int i_number, .int i_word, .int i_wrong, .int i_farCrossing, .ref m_read, .int i_z0, .int i_crossings, .int i_inns, .ref m_posts, .ref m_shut, .ref m_here, .int i_steps, .int i_done, .int i_at, .int i_gone, .ref m_was, .ref m_came, .ref m_seenAt, .ref m_rowWorth, .ref m_farBy, .ref m_used, .int i_everywhere, .int i_again0, .int i_d0, .int i_never, .int i_firstCame, .int i_longRun, .int i_moved, .int i_crowd, .int i_l0, .int i_fitMany, .int i_fitLeast, .int i_fitMost, .ref m_fitPost, .ref m_fitEnd, .ref m_keptPosts, .int i_x0]))], [(m_here, .inl (T.2 0, 7, .inl f_here))]] ∧ r = zSumW i_inns w_ f_here i_crossings.toInt.toNat) := by
  refine zMi_of (own := RX12) (by decide) rfl (Nat.le_of_ble_eq_true rfl) ?_
  intro p e s m args below meth c A ls C hr hlocks hnm hAe G hl
  have hx := C.1
  have hb := C.2.1
  have hl : lv_has ls 4 [(0, .ref mo), (1, .int w_)] := hl
  refine lv_iconst (v := 0) hx hb dX12_walkersOf_0 (by decide) ?_
  refine lv_istore_n (lv' := [(2, .int 0), (0, .ref mo), (1, .int w_)]) hx hb dX12_walkersOf_1 rfl hl (by decide) rfl (fun ls hl => ?_)
  refine lv_iconst (v := 0) hx hb dX12_walkersOf_2 (by decide) ?_
  refine lv_istore_n (lv' := [(3, .int 0), (2, .int 0), (0, .ref mo), (1, .int w_)]) hx hb dX12_walkersOf_3 rfl hl (by decide) rfl (fun ls hl => ?_)
  refine z_loop (T := T) (α := Nat × Int32) 4 (fun (i, u) => [[(mo, .inr (11, [.ref m_all, .ref m_has, .int i_size, .int i_next, .int i_where, .int i_token, .int i_number, .int i_word, .int i_wrong, .int i_farCrossing, .ref m_read, .int i_z0, .int i_crossings, .int i_inns, .ref m_posts, .ref m_shut, .ref m_here, .int i_steps, .int i_done, .int i_at, .int i_gone, .ref m_was, .ref m_came, .ref m_seenAt, .ref m_rowWorth, .ref m_farBy, .ref m_used, .int i_everywhere, .int i_again0, .int i_d0, .int i_never, .int i_firstCame, .int i_longRun, .int i_moved, .int i_crowd, .int i_l0, .int i_fitMany, .int i_fitLeast, .int i_fitMost, .ref m_fitPost, .ref m_fitEnd, .ref m_keptPosts, .int i_x0]))], [(m_here, .inl (T.2 0, 7, .inl f_here))]]) (fun (i, u) => [(3, .int (nI i)), (2, .int u), (0, .ref mo), (1, .int w_)]) (fun (i, u) => i ≤ 7 ∧ (i : Int) ≤ i_crossings.toInt ∧ u = zSumW i_inns w_ f_here i) (fun (i, u) => 7 - i) ?_ (0, 0) (show 0 ≤ 7 ∧ (0 : Int) ≤ i_crossings.toInt ∧ 0 = zSumW i_inns w_ f_here 0 from ⟨by omega, by omega, rfl⟩) G (lv_sub hl [0, 1, 2, 3] rfl)
  rintro ⟨i, u⟩ ⟨hi, hic, hU⟩ ih_4 H locs ls G hl
  replace hi : i ≤ 7 := hi
  replace hic : (i : Int) ≤ i_crossings.toInt := hic
  replace hU : u = zSumW i_inns w_ f_here i := hU
  replace G : zS T A s.heap s [[(mo, .inr (11, [.ref m_all, .ref m_has, .int i_size, .int i_next, .int i_where, .int i_token, .int i_number, .int i_word, .int i_wrong, .int i_farCrossing, .ref m_read, .int i_z0, .int i_crossings, .int i_inns, .ref m_posts, .ref m_shut, .ref m_here, .int i_steps, .int i_done, .int i_at, .int i_gone, .ref m_was, .ref m_came, .ref m_seenAt, .ref m_rowWorth, .ref m_farBy, .ref m_used, .int i_everywhere, .int i_again0, .int i_d0, .int i_never, .int i_firstCame, .int i_longRun, .int i_moved, .int i_crowd, .int i_l0, .int i_fitMany, .int i_fitLeast, .int i_fitMost, .ref m_fitPost, .ref m_fitEnd, .ref m_keptPosts, .int i_x0]))], [(m_here, .inl (T.2 0, 7, .inl f_here))]] _ _ := G
  replace hl : lv_has ls 4 [(3, .int (nI i)), (2, .int u), (0, .ref mo), (1, .int w_)] := hl
  refine lv_iload_n hx hb dX12_walkersOf_4 rfl (lv_at hl 0 rfl) ?_
  refine lv_aload_n hx hb dX12_walkersOf_5 rfl (lv_at hl 2 rfl) ?_
  refine z_get C G clX12 0 rfl 12 (by decide) m_fl_RX12_169 rfl dX12_walkersOf_6 ?_
  refine lv_icmp_ge (tgt := 43) hx hb dX12_walkersOf_9 (by decide) (fun c_1 => ?_) (fun c_1 => ?_)
  · have c_1n : i_crossings.toInt ≤ (i : Int) := by have q := (fa_le _ _).mp c_1; rw [nI_toInt (n := i) (by omega)] at q; exact q
    refine lv_iload_n hx hb dX12_walkersOf_43 rfl (lv_at hl 1 rfl) ?_
    exact z_iret C hr hlocks G (Nat.le_of_ble_eq_true rfl) (Nat.le_of_ble_eq_true rfl) dX12_walkersOf_44 ⟨rfl, (by rw [hU, show i = i_crossings.toInt.toNat by omega])⟩
  · have c_1n : ¬ i_crossings.toInt ≤ (i : Int) := fun q => c_1 ((fa_le _ _).mpr (by rw [nI_toInt (n := i) (by omega)]; exact q))
    refine lv_iload_n hx hb dX12_walkersOf_12 rfl (lv_at hl 1 rfl) ?_
    refine lv_iload_n hx hb dX12_walkersOf_13 rfl (lv_at hl 3 rfl) ?_
    refine lv_if_eq (tgt := 25) hx hb dX12_walkersOf_14 (by decide) (fun c_2 => ?_) (fun c_2 => ?_)
    · have c_2n : w_.toInt = (0 : Int) := (fa_eq _ _).mp c_2
      refine lv_aload_n hx hb dX12_walkersOf_25 rfl (lv_at hl 2 rfl) ?_
      refine z_get C G clX12 0 rfl 16 (by decide) m_fl_RX12_26 rfl dX12_walkersOf_26 ?_
      refine lv_iload_n hx hb dX12_walkersOf_29 rfl (lv_at hl 0 rfl) ?_
      refine z_ild C G 1 rfl (vp_in_nI (by omega) (by omega)) dX12_walkersOf_30 ?_
      refine lv_topi (fun v_3 ev_3 => ?_)
      rw [nI_clamp (by omega)] at ev_3
      subst ev_3
      refine lv_goto (tgt := 35) hx hb dX12_walkersOf_31 (by decide) ?_
      refine lv_iadd hx hb dX12_walkersOf_35 ?_
      refine lv_istore_n (lv' := [(2, .int (u + (f_here i))), (3, .int (nI i)), (0, .ref mo), (1, .int w_)]) hx hb dX12_walkersOf_36 rfl hl (by decide) rfl (fun ls hl => ?_)
      refine lv_iinc (v := nI (i + 1)) (lv' := [(3, .int (nI (i + 1))), (2, .int (u + (f_here i))), (0, .ref mo), (1, .int w_)]) hx hb dX12_walkersOf_37 hl (k := 1) rfl (z_inc i 1) (by decide) rfl (fun ls hl => ?_)
      refine lv_goto (tgt := 4) hx hb dX12_walkersOf_40 (by decide) ?_
      exact ih_4 ((i + 1), (u + (f_here i))) (show (i + 1) ≤ 7 ∧ ((i + 1) : Int) ≤ i_crossings.toInt ∧ (u + (f_here i)) = zSumW i_inns w_ f_here (i + 1) from ⟨by omega, by omega, (zSumW_y hU (by first | exact Or.inl (by assumption) | exact Or.inr (by assumption)))⟩) (show 7 - (i + 1) < 7 - i from by omega) _ _ ls G (lv_sub hl [0, 1, 2, 3] rfl)
    · have c_2n : ¬ w_.toInt = (0 : Int) := fun q => c_2 ((fa_eq _ _).mpr q)
      refine lv_aload_n hx hb dX12_walkersOf_17 rfl (lv_at hl 2 rfl) ?_
      refine lv_iload_n hx hb dX12_walkersOf_18 rfl (lv_at hl 0 rfl) ?_
      refine z_Vi (bc := [[(mo, .inr (11, [.ref m_all, .ref m_has, .int i_size, .int i_next, .int i_where, .int i_token, .int i_number, .int i_word, .int i_wrong, .int i_farCrossing, .ref m_read, .int i_z0, .int i_crossings, .int i_inns, .ref m_posts, .ref m_shut, .ref m_here, .int i_steps, .int i_done, .int i_at, .int i_gone, .ref m_was, .ref m_came, .ref m_seenAt, .ref m_rowWorth, .ref m_farBy, .ref m_used, .int i_everywhere, .int i_again0, .int i_d0, .int i_never, .int i_firstCame, .int i_longRun, .int i_moved, .int i_crowd, .int i_l0, .int i_fitMany, .int i_fitLeast, .int i_fitMost, .ref m_fitPost, .ref m_fitEnd, .ref m_keptPosts, .int i_x0]))]]) (br := [[(m_here, .inl (T.2 0, 7, .inl f_here))]]) (As := [.int (nI i)]) (rest := [.int u]) C G (c_m_isInn l T mo m_all m_has i_size i_next i_where i_token i_number i_word i_wrong i_farCrossing m_read i_z0 i_crossings i_inns m_posts m_shut m_here i_steps i_done i_at i_gone m_was m_came m_seenAt m_rowWorth m_farBy m_used i_everywhere i_again0 i_d0 i_never i_firstCame i_longRun i_moved i_crowd i_l0 i_fitMany i_fitLeast i_fitMost m_fitPost m_fitEnd m_keptPosts i_x0 (nI i)) (kV_RX12_178 C.2.2.2.2 (Nat.le_of_ble_eq_true rfl) (Nat.le_of_ble_eq_true rfl)) [0] [1] rfl rfl (ci := 11) (qc := (RX12, TX12, 43)) rfl rfl (List.mem_flatten.mpr ⟨_, List.mem_of_getElem? (i := 0) rfl, List.mem_cons_self⟩) rfl rfl hl.1 dX12_walkersOf_19 (Nat.le_of_ble_eq_true rfl) (Nat.le_of_ble_eq_true rfl) (fun r_5 b1 H locs hw G => ?_)
      obtain ⟨rfl, hc_4⟩ := hw
      have G : zS T A s.heap s [[(m_here, .inl (T.2 0, 7, .inl f_here))], [(mo, .inr (11, [.ref m_all, .ref m_has, .int i_size, .int i_next, .int i_where, .int i_token, .int i_number, .int i_word, .int i_wrong, .int i_farCrossing, .ref m_read, .int i_z0, .int i_crossings, .int i_inns, .ref m_posts, .ref m_shut, .ref m_here, .int i_steps, .int i_done, .int i_at, .int i_gone, .ref m_was, .ref m_came, .ref m_seenAt, .ref m_rowWorth, .ref m_farBy, .ref m_used, .int i_everywhere, .int i_again0, .int i_d0, .int i_never, .int i_firstCame, .int i_longRun, .int i_moved, .int i_crowd, .int i_l0, .int i_fitMany, .int i_fitLeast, .int i_fitMost, .ref m_fitPost, .ref m_fitEnd, .ref m_keptPosts, .int i_x0]))]] _ _ := G
      rcases hc_4 with ⟨rfl, h_6⟩ | ⟨rfl, h_7⟩
      · have h_6 : zInn i_inns (nI i) := h_6
        refine lv_if_eq (tgt := 34) hx hb dX12_walkersOf_22 (by decide) (fun q => absurd q (by decide)) (fun _ => ?_)
        refine lv_aload_n hx hb dX12_walkersOf_25 rfl (lv_at hl 2 rfl) ?_
        refine z_get C G clX12 1 rfl 16 (by decide) m_fl_RX12_26 rfl dX12_walkersOf_26 ?_
        refine lv_iload_n hx hb dX12_walkersOf_29 rfl (lv_at hl 0 rfl) ?_
        refine z_ild C G 0 rfl (vp_in_nI (by omega) (by omega)) dX12_walkersOf_30 ?_
        refine lv_topi (fun v_8 ev_8 => ?_)
        rw [nI_clamp (by omega)] at ev_8
        subst ev_8
        refine lv_goto (tgt := 35) hx hb dX12_walkersOf_31 (by decide) ?_
        refine lv_iadd hx hb dX12_walkersOf_35 ?_
        refine lv_istore_n (lv' := [(2, .int (u + (f_here i))), (3, .int (nI i)), (0, .ref mo), (1, .int w_)]) hx hb dX12_walkersOf_36 rfl hl (by decide) rfl (fun ls hl => ?_)
        refine lv_iinc (v := nI (i + 1)) (lv' := [(3, .int (nI (i + 1))), (2, .int (u + (f_here i))), (0, .ref mo), (1, .int w_)]) hx hb dX12_walkersOf_37 hl (k := 1) rfl (z_inc i 1) (by decide) rfl (fun ls hl => ?_)
        refine lv_goto (tgt := 4) hx hb dX12_walkersOf_40 (by decide) ?_
        have G := G.sub (bs' := [[(mo, .inr (11, [.ref m_all, .ref m_has, .int i_size, .int i_next, .int i_where, .int i_token, .int i_number, .int i_word, .int i_wrong, .int i_farCrossing, .ref m_read, .int i_z0, .int i_crossings, .int i_inns, .ref m_posts, .ref m_shut, .ref m_here, .int i_steps, .int i_done, .int i_at, .int i_gone, .ref m_was, .ref m_came, .ref m_seenAt, .ref m_rowWorth, .ref m_farBy, .ref m_used, .int i_everywhere, .int i_again0, .int i_d0, .int i_never, .int i_firstCame, .int i_longRun, .int i_moved, .int i_crowd, .int i_l0, .int i_fitMany, .int i_fitLeast, .int i_fitMost, .ref m_fitPost, .ref m_fitEnd, .ref m_keptPosts, .int i_x0]))], [(m_here, .inl (T.2 0, 7, .inl f_here))]]) [1, 0] rfl
        exact ih_4 ((i + 1), (u + (f_here i))) (show (i + 1) ≤ 7 ∧ ((i + 1) : Int) ≤ i_crossings.toInt ∧ (u + (f_here i)) = zSumW i_inns w_ f_here (i + 1) from ⟨by omega, by omega, (zSumW_y hU (by first | exact Or.inl (by assumption) | exact Or.inr (by assumption)))⟩) (show 7 - (i + 1) < 7 - i from by omega) _ _ ls G (lv_sub hl [0, 1, 2, 3] rfl)
      · have h_7 : ¬ zInn i_inns (nI i) := h_7
        refine lv_if_eq (tgt := 34) hx hb dX12_walkersOf_22 (by decide) (fun _ => ?_) (fun q => absurd (by decide) q)
        refine lv_iconst (v := 0) hx hb dX12_walkersOf_34 (by decide) ?_
        refine lv_iadd hx hb dX12_walkersOf_35 ?_
        refine lv_istore_n (lv' := [(2, .int (u + 0)), (3, .int (nI i)), (0, .ref mo), (1, .int w_)]) hx hb dX12_walkersOf_36 rfl hl (by decide) rfl (fun ls hl => ?_)
        refine lv_iinc (v := nI (i + 1)) (lv' := [(3, .int (nI (i + 1))), (2, .int (u + 0)), (0, .ref mo), (1, .int w_)]) hx hb dX12_walkersOf_37 hl (k := 1) rfl (z_inc i 1) (by decide) rfl (fun ls hl => ?_)
        refine lv_goto (tgt := 4) hx hb dX12_walkersOf_40 (by decide) ?_
        have G := G.sub (bs' := [[(mo, .inr (11, [.ref m_all, .ref m_has, .int i_size, .int i_next, .int i_where, .int i_token, .int i_number, .int i_word, .int i_wrong, .int i_farCrossing, .ref m_read, .int i_z0, .int i_crossings, .int i_inns, .ref m_posts, .ref m_shut, .ref m_here, .int i_steps, .int i_done, .int i_at, .int i_gone, .ref m_was, .ref m_came, .ref m_seenAt, .ref m_rowWorth, .ref m_farBy, .ref m_used, .int i_everywhere, .int i_again0, .int i_d0, .int i_never, .int i_firstCame, .int i_longRun, .int i_moved, .int i_crowd, .int i_l0, .int i_fitMany, .int i_fitLeast, .int i_fitMost, .ref m_fitPost, .ref m_fitEnd, .ref m_keptPosts, .int i_x0]))], [(m_here, .inl (T.2 0, 7, .inl f_here))]]) [1, 0] rfl
        exact ih_4 ((i + 1), (u + 0)) (show (i + 1) ≤ 7 ∧ ((i + 1) : Int) ≤ i_crossings.toInt ∧ (u + 0) = zSumW i_inns w_ f_here (i + 1) from ⟨by omega, by omega, (zSumW_n hU (by assumption) (by assumption))⟩) (show 7 - (i + 1) < 7 - i from by omega) _ _ ls G (lv_sub hl [0, 1, 2, 3] rfl)
set_option maxHeartbeats 4000000 in
set_option maxRecDepth 100000 in
/-- c_fm_nowOf -/
theorem c_fm_nowOf (l : Launch) (T : zTy) (mo : Nat) (m_all : Nat) (m_has : Nat) (i_size : Int32) (i_next : Int32) (i_where : Int32) (i_token : Int32) (i_number : Int32) (i_word : Int32) (i_wrong : Int32) (i_farCrossing : Int32) (m_read : Nat) (i_z0 : Int32) (i_crossings : Int32) (i_inns : Int32) (m_posts : Nat) (m_shut : Nat) (m_here : Nat) (i_steps : Int32) (i_done : Int32) (i_at : Int32) (i_gone : Int32) (m_was : Nat) (m_came : Nat) (m_seenAt : Nat) (m_rowWorth : Nat) (m_farBy : Nat) (m_used : Nat) (i_everywhere : Int32) (i_again0 : Int32) (i_d0 : Int32) (i_never : Int32) (i_firstCame : Int32) (i_longRun : Int32) (i_moved : Int32) (i_crowd : Int32) (i_l0 : Int32) (i_fitMany : Int32) (i_fitLeast : Int32) (i_fitMost : Int32) (m_fitPost : Nat) (m_fitEnd : Nat) (m_keptPosts : Nat) (i_x0 : Int32) (f_posts : Nat → Int32) (f_here : Nat → Int32) (f_shut : Nat → Int32) (w_ : Int32) (hcr : 0 ≤ i_crossings.toInt ∧ i_crossings.toInt ≤ 7) : zMi l T yX12_nowOf cX12_nowOf 3 (some .int) 3 0 0 [.ref mo, .int w_] [[(mo, .inr (11, [.ref m_all, .ref m_has, .int i_size, .int i_next, .int i_where, .int i_token, .int i_number, .int i_word, .int i_wrong, .int i_farCrossing, .ref m_read, .int i_z0, .int i_crossings, .int i_inns, .ref m_posts, .ref m_shut, .ref m_here, .int i_steps, .int i_done, .int i_at, .int i_gone, .ref m_was, .ref m_came, .ref m_seenAt, .ref m_rowWorth, .ref m_farBy, .ref m_used, .int i_everywhere, .int i_again0, .int i_d0, .int i_never, .int i_firstCame, .int i_longRun, .int i_moved, .int i_crowd, .int i_l0, .int i_fitMany, .int i_fitLeast, .int i_fitMost, .ref m_fitPost, .ref m_fitEnd, .ref m_keptPosts, .int i_x0]))], [(m_posts, .inl (T.2 0, 7, .inl f_posts))], [(m_here, .inl (T.2 0, 7, .inl f_here))], [(m_shut, .inl (T.2 0, 7, .inl f_shut))]] (fun (r : Int32) bs => bs = [[(mo, .inr (11, [.ref m_all, .ref m_has, .int i_size, .int i_next, .int i_where, .int i_token, .int i_number, .int i_word, .int i_wrong, .int i_farCrossing, .ref m_read, .int i_z0, .int i_crossings, .int i_inns, .ref m_posts, .ref m_shut, .ref m_here, .int i_steps, .int i_done, .int i_at, .int i_gone, .ref m_was, .ref m_came, .ref m_seenAt, .ref m_rowWorth, .ref m_farBy, .ref m_used, .int i_everywhere, .int i_again0, .int i_d0, .int i_never, .int i_firstCame, .int i_longRun, .int i_moved, .int i_crowd, .int i_l0, .int i_fitMany, .int i_fitLeast, .int i_fitMost, .ref m_fitPost, .ref m_fitEnd, .ref m_keptPosts, .int i_x0]))], [(m_posts, .inl (T.2 0, 7, .inl f_posts))], [(m_here, .inl (T.2 0, 7, .inl f_here))], [(m_shut, .inl (T.2 0, 7, .inl f_shut))]] ∧ r = zNow i_crossings i_inns (f_posts, f_shut, f_here, i_steps, i_never) w_) := by
  refine zMi_of (own := RX12) (by decide) rfl (Nat.le_of_ble_eq_true rfl) ?_
  intro p e s m args below meth c A ls C hr hlocks hnm hAe G hl
  have hx := C.1
  have hb := C.2.1
  have hl : lv_has ls 3 [(0, .ref mo), (1, .int w_)] := hl
  refine lv_iload_n hx hb dX12_nowOf_0 rfl (lv_at hl 1 rfl) ?_
  by_cases c_1o : w_.toInt < 0 ∨ 3 < w_.toInt
  · refine lv_tableOut (tgt := 57) hx hb dX12_nowOf_1 c_1o (by decide) ?_
    have hdl := Int32.toInt_lt w_
    have hdg := Int32.le_toInt w_
    refine lv_iload_n hx hb dX12_nowOf_57 rfl (lv_at hl 1 rfl) ?_
    refine lv_bipush (v := 10) hx hb dX12_nowOf_58 (by decide) ?_
    refine lv_irem hx hb dX12_nowOf_60 (by decide) ?_
    refine lv_istore_n (lv' := [(2, .int (w_ - w_ / 10 * 10)), (0, .ref mo), (1, .int w_)]) hx hb dX12_nowOf_61 rfl hl (by decide) rfl (fun ls hl => ?_)
    refine lv_iload_n hx hb dX12_nowOf_62 rfl (lv_at hl 2 rfl) ?_
    refine lv_bipush (v := 10) hx hb dX12_nowOf_63 (by decide) ?_
    refine lv_bipush (v := 39) hx hb dX12_nowOf_65 (by decide) ?_
    refine z_Si (bc := []) (br := [[(mo, .inr (11, [.ref m_all, .ref m_has, .int i_size, .int i_next, .int i_where, .int i_token, .int i_number, .int i_word, .int i_wrong, .int i_farCrossing, .ref m_read, .int i_z0, .int i_crossings, .int i_inns, .ref m_posts, .ref m_shut, .ref m_here, .int i_steps, .int i_done, .int i_at, .int i_gone, .ref m_was, .ref m_came, .ref m_seenAt, .ref m_rowWorth, .ref m_farBy, .ref m_used, .int i_everywhere, .int i_again0, .int i_d0, .int i_never, .int i_firstCame, .int i_longRun, .int i_moved, .int i_crowd, .int i_l0, .int i_fitMany, .int i_fitLeast, .int i_fitMost, .ref m_fitPost, .ref m_fitEnd, .ref m_keptPosts, .int i_x0]))], [(m_posts, .inl (T.2 0, 7, .inl f_posts))], [(m_here, .inl (T.2 0, 7, .inl f_here))], [(m_shut, .inl (T.2 0, 7, .inl f_shut))]]) (As := [.int w_, .int 10, .int 39]) (rest := []) C G (c_m_isIn l T w_ 10 39) (kS_RX12_111 C.2.2.2.2 (Nat.le_of_ble_eq_true rfl) (Nat.le_of_ble_eq_true rfl)) [] [0, 1, 2, 3] rfl rfl rfl rfl hl.1 dX12_nowOf_67 (Nat.le_of_ble_eq_true rfl) (Nat.le_of_ble_eq_true rfl) (fun r_3 b1 H locs hw G => ?_)
    obtain ⟨rfl, hc_2⟩ := hw
    have G : zS T A s.heap s [[(mo, .inr (11, [.ref m_all, .ref m_has, .int i_size, .int i_next, .int i_where, .int i_token, .int i_number, .int i_word, .int i_wrong, .int i_farCrossing, .ref m_read, .int i_z0, .int i_crossings, .int i_inns, .ref m_posts, .ref m_shut, .ref m_here, .int i_steps, .int i_done, .int i_at, .int i_gone, .ref m_was, .ref m_came, .ref m_seenAt, .ref m_rowWorth, .ref m_farBy, .ref m_used, .int i_everywhere, .int i_again0, .int i_d0, .int i_never, .int i_firstCame, .int i_longRun, .int i_moved, .int i_crowd, .int i_l0, .int i_fitMany, .int i_fitLeast, .int i_fitMost, .ref m_fitPost, .ref m_fitEnd, .ref m_keptPosts, .int i_x0]))], [(m_posts, .inl (T.2 0, 7, .inl f_posts))], [(m_here, .inl (T.2 0, 7, .inl f_here))], [(m_shut, .inl (T.2 0, 7, .inl f_shut))]] _ _ := G
    rcases hc_2 with ⟨rfl, h_4, h_5⟩ | ⟨rfl, h_6⟩
    · have h_4 : (10 : Int) ≤ w_.toInt := h_4
      have h_5 : w_.toInt ≤ (39 : Int) := h_5
      refine lv_if_eq (tgt := 81) hx hb dX12_nowOf_70 (by decide) (fun q => absurd q (by decide)) (fun _ => ?_)
      refine lv_aload_n hx hb dX12_nowOf_73 rfl (lv_at hl 1 rfl) ?_
      refine lv_iload_n hx hb dX12_nowOf_74 rfl (lv_at hl 0 rfl) ?_
      refine z_Vi (bc := [[(mo, .inr (11, [.ref m_all, .ref m_has, .int i_size, .int i_next, .int i_where, .int i_token, .int i_number, .int i_word, .int i_wrong, .int i_farCrossing, .ref m_read, .int i_z0, .int i_crossings, .int i_inns, .ref m_posts, .ref m_shut, .ref m_here, .int i_steps, .int i_done, .int i_at, .int i_gone, .ref m_was, .ref m_came, .ref m_seenAt, .ref m_rowWorth, .ref m_farBy, .ref m_used, .int i_everywhere, .int i_again0, .int i_d0, .int i_never, .int i_firstCame, .int i_longRun, .int i_moved, .int i_crowd, .int i_l0, .int i_fitMany, .int i_fitLeast, .int i_fitMost, .ref m_fitPost, .ref m_fitEnd, .ref m_keptPosts, .int i_x0]))]]) (br := [[(m_posts, .inl (T.2 0, 7, .inl f_posts))], [(m_here, .inl (T.2 0, 7, .inl f_here))], [(m_shut, .inl (T.2 0, 7, .inl f_shut))]]) (As := [.int (w_ - w_ / 10 * 10)]) (rest := []) C G (c_m_isCrossing l T mo m_all m_has i_size i_next i_where i_token i_number i_word i_wrong i_farCrossing m_read i_z0 i_crossings i_inns m_posts m_shut m_here i_steps i_done i_at i_gone m_was m_came m_seenAt m_rowWorth m_farBy m_used i_everywhere i_again0 i_d0 i_never i_firstCame i_longRun i_moved i_crowd i_l0 i_fitMany i_fitLeast i_fitMost m_fitPost m_fitEnd m_keptPosts i_x0 (w_ - w_ / 10 * 10) (by first | with_reducible assumption | with_reducible rfl | omega | assumption | rfl)) (kV_RX12_187 C.2.2.2.2 (Nat.le_of_ble_eq_true rfl) (Nat.le_of_ble_eq_true rfl)) [0] [1, 2, 3] rfl rfl (ci := 11) (qc := (RX12, TX12, 43)) rfl rfl (List.mem_flatten.mpr ⟨_, List.mem_of_getElem? (i := 0) rfl, List.mem_cons_self⟩) rfl rfl hl.1 dX12_nowOf_75 (Nat.le_of_ble_eq_true rfl) (Nat.le_of_ble_eq_true rfl) (fun r_8 b1 H locs hw G => ?_)
      obtain ⟨rfl, hc_7⟩ := hw
      have G : zS T A s.heap s [[(m_posts, .inl (T.2 0, 7, .inl f_posts))], [(m_here, .inl (T.2 0, 7, .inl f_here))], [(m_shut, .inl (T.2 0, 7, .inl f_shut))], [(mo, .inr (11, [.ref m_all, .ref m_has, .int i_size, .int i_next, .int i_where, .int i_token, .int i_number, .int i_word, .int i_wrong, .int i_farCrossing, .ref m_read, .int i_z0, .int i_crossings, .int i_inns, .ref m_posts, .ref m_shut, .ref m_here, .int i_steps, .int i_done, .int i_at, .int i_gone, .ref m_was, .ref m_came, .ref m_seenAt, .ref m_rowWorth, .ref m_farBy, .ref m_used, .int i_everywhere, .int i_again0, .int i_d0, .int i_never, .int i_firstCame, .int i_longRun, .int i_moved, .int i_crowd, .int i_l0, .int i_fitMany, .int i_fitLeast, .int i_fitMost, .ref m_fitPost, .ref m_fitEnd, .ref m_keptPosts, .int i_x0]))]] _ _ := G
      rcases hc_7 with ⟨rfl, h_9, h_10⟩ | ⟨rfl, h_11⟩
      · have h_9 : 0 ≤ (w_ - w_ / 10 * 10).toInt := h_9
        have h_10 : (w_ - w_ / 10 * 10).toInt < i_crossings.toInt := h_10
        refine lv_if_ne (tgt := 84) hx hb dX12_nowOf_78 (by decide) (fun _ => ?_) (fun q => absurd q (by decide))
        have hrx := zRm (x := w_) (by omega)
        refine lv_iload_n hx hb dX12_nowOf_84 rfl (lv_at hl 2 rfl) ?_
        refine lv_bipush (v := 20) hx hb dX12_nowOf_85 (by decide) ?_
        refine lv_icmp_ge (tgt := 99) hx hb dX12_nowOf_87 (by decide) (fun c_12 => ?_) (fun c_12 => ?_)
        · have c_12n : (20 : Int) ≤ w_.toInt := (fa_le _ _).mp c_12
          refine lv_iload_n hx hb dX12_nowOf_99 rfl (lv_at hl 2 rfl) ?_
          refine lv_bipush (v := 30) hx hb dX12_nowOf_100 (by decide) ?_
          refine lv_icmp_ge (tgt := 114) hx hb dX12_nowOf_102 (by decide) (fun c_13 => ?_) (fun c_13 => ?_)
          · have c_13n : (30 : Int) ≤ w_.toInt := (fa_le _ _).mp c_13
            refine lv_aload_n hx hb dX12_nowOf_114 rfl (lv_at hl 1 rfl) ?_
            refine z_get C G clX12 3 rfl 15 (by decide) m_fl_RX12_23 rfl dX12_nowOf_115 ?_
            refine lv_iload_n hx hb dX12_nowOf_118 rfl (lv_at hl 0 rfl) ?_
            refine z_ild C G 2 rfl (vp_in_iff.mpr ⟨by omega, by omega⟩) dX12_nowOf_119 ?_
            refine lv_topi (fun v_14 ev_14 => ?_)
            subst ev_14
            have G := G.sub (bs' := [[(mo, .inr (11, [.ref m_all, .ref m_has, .int i_size, .int i_next, .int i_where, .int i_token, .int i_number, .int i_word, .int i_wrong, .int i_farCrossing, .ref m_read, .int i_z0, .int i_crossings, .int i_inns, .ref m_posts, .ref m_shut, .ref m_here, .int i_steps, .int i_done, .int i_at, .int i_gone, .ref m_was, .ref m_came, .ref m_seenAt, .ref m_rowWorth, .ref m_farBy, .ref m_used, .int i_everywhere, .int i_again0, .int i_d0, .int i_never, .int i_firstCame, .int i_longRun, .int i_moved, .int i_crowd, .int i_l0, .int i_fitMany, .int i_fitLeast, .int i_fitMost, .ref m_fitPost, .ref m_fitEnd, .ref m_keptPosts, .int i_x0]))], [(m_posts, .inl (T.2 0, 7, .inl f_posts))], [(m_here, .inl (T.2 0, 7, .inl f_here))], [(m_shut, .inl (T.2 0, 7, .inl f_shut))]]) [3, 0, 1, 2] rfl
            exact z_iret C hr hlocks G (Nat.le_of_ble_eq_true rfl) (Nat.le_of_ble_eq_true rfl) dX12_nowOf_120 ⟨rfl, (zNow_s (by omega) (by have q8 := z_clI (x := w_ - w_ / 10 * 10) (by omega); omega))⟩
          · have c_13n : ¬ (30 : Int) ≤ w_.toInt := fun q => c_13 ((fa_le _ _).mpr q)
            refine lv_aload_n hx hb dX12_nowOf_105 rfl (lv_at hl 1 rfl) ?_
            refine z_get C G clX12 3 rfl 16 (by decide) m_fl_RX12_26 rfl dX12_nowOf_106 ?_
            refine lv_iload_n hx hb dX12_nowOf_109 rfl (lv_at hl 0 rfl) ?_
            refine z_ild C G 1 rfl (vp_in_iff.mpr ⟨by omega, by omega⟩) dX12_nowOf_110 ?_
            refine lv_topi (fun v_15 ev_15 => ?_)
            subst ev_15
            refine lv_goto (tgt := 120) hx hb dX12_nowOf_111 (by decide) ?_
            have G := G.sub (bs' := [[(mo, .inr (11, [.ref m_all, .ref m_has, .int i_size, .int i_next, .int i_where, .int i_token, .int i_number, .int i_word, .int i_wrong, .int i_farCrossing, .ref m_read, .int i_z0, .int i_crossings, .int i_inns, .ref m_posts, .ref m_shut, .ref m_here, .int i_steps, .int i_done, .int i_at, .int i_gone, .ref m_was, .ref m_came, .ref m_seenAt, .ref m_rowWorth, .ref m_farBy, .ref m_used, .int i_everywhere, .int i_again0, .int i_d0, .int i_never, .int i_firstCame, .int i_longRun, .int i_moved, .int i_crowd, .int i_l0, .int i_fitMany, .int i_fitLeast, .int i_fitMost, .ref m_fitPost, .ref m_fitEnd, .ref m_keptPosts, .int i_x0]))], [(m_posts, .inl (T.2 0, 7, .inl f_posts))], [(m_here, .inl (T.2 0, 7, .inl f_here))], [(m_shut, .inl (T.2 0, 7, .inl f_shut))]]) [3, 0, 1, 2] rfl
            exact z_iret C hr hlocks G (Nat.le_of_ble_eq_true rfl) (Nat.le_of_ble_eq_true rfl) dX12_nowOf_120 ⟨rfl, (zNow_h (by omega) (by have q8 := z_clI (x := w_ - w_ / 10 * 10) (by omega); omega))⟩
        · have c_12n : ¬ (20 : Int) ≤ w_.toInt := fun q => c_12 ((fa_le _ _).mpr q)
          refine lv_aload_n hx hb dX12_nowOf_90 rfl (lv_at hl 1 rfl) ?_
          refine z_get C G clX12 3 rfl 14 (by decide) m_fl_RX12_20 rfl dX12_nowOf_91 ?_
          refine lv_iload_n hx hb dX12_nowOf_94 rfl (lv_at hl 0 rfl) ?_
          refine z_ild C G 0 rfl (vp_in_iff.mpr ⟨by omega, by omega⟩) dX12_nowOf_95 ?_
          refine lv_topi (fun v_16 ev_16 => ?_)
          subst ev_16
          refine lv_goto (tgt := 120) hx hb dX12_nowOf_96 (by decide) ?_
          have G := G.sub (bs' := [[(mo, .inr (11, [.ref m_all, .ref m_has, .int i_size, .int i_next, .int i_where, .int i_token, .int i_number, .int i_word, .int i_wrong, .int i_farCrossing, .ref m_read, .int i_z0, .int i_crossings, .int i_inns, .ref m_posts, .ref m_shut, .ref m_here, .int i_steps, .int i_done, .int i_at, .int i_gone, .ref m_was, .ref m_came, .ref m_seenAt, .ref m_rowWorth, .ref m_farBy, .ref m_used, .int i_everywhere, .int i_again0, .int i_d0, .int i_never, .int i_firstCame, .int i_longRun, .int i_moved, .int i_crowd, .int i_l0, .int i_fitMany, .int i_fitLeast, .int i_fitMost, .ref m_fitPost, .ref m_fitEnd, .ref m_keptPosts, .int i_x0]))], [(m_posts, .inl (T.2 0, 7, .inl f_posts))], [(m_here, .inl (T.2 0, 7, .inl f_here))], [(m_shut, .inl (T.2 0, 7, .inl f_shut))]]) [3, 0, 1, 2] rfl
          exact z_iret C hr hlocks G (Nat.le_of_ble_eq_true rfl) (Nat.le_of_ble_eq_true rfl) dX12_nowOf_120 ⟨rfl, (zNow_p (by omega) (by have q8 := z_clI (x := w_ - w_ / 10 * 10) (by omega); omega))⟩
      · have h_11 : ((w_ - w_ / 10 * 10).toInt < 0 ∨ i_crossings.toInt ≤ (w_ - w_ / 10 * 10).toInt) := h_11
        refine lv_if_ne (tgt := 84) hx hb dX12_nowOf_78 (by decide) (fun q => absurd (by decide) q) (fun _ => ?_)
        refine lv_bipush (v := (-2)) hx hb dX12_nowOf_81 (by decide) ?_
        have G := G.sub (bs' := [[(mo, .inr (11, [.ref m_all, .ref m_has, .int i_size, .int i_next, .int i_where, .int i_token, .int i_number, .int i_word, .int i_wrong, .int i_farCrossing, .ref m_read, .int i_z0, .int i_crossings, .int i_inns, .ref m_posts, .ref m_shut, .ref m_here, .int i_steps, .int i_done, .int i_at, .int i_gone, .ref m_was, .ref m_came, .ref m_seenAt, .ref m_rowWorth, .ref m_farBy, .ref m_used, .int i_everywhere, .int i_again0, .int i_d0, .int i_never, .int i_firstCame, .int i_longRun, .int i_moved, .int i_crowd, .int i_l0, .int i_fitMany, .int i_fitLeast, .int i_fitMost, .ref m_fitPost, .ref m_fitEnd, .ref m_keptPosts, .int i_x0]))], [(m_posts, .inl (T.2 0, 7, .inl f_posts))], [(m_here, .inl (T.2 0, 7, .inl f_here))], [(m_shut, .inl (T.2 0, 7, .inl f_shut))]]) [3, 0, 1, 2] rfl
        exact z_iret C hr hlocks G (Nat.le_of_ble_eq_true rfl) (Nat.le_of_ble_eq_true rfl) dX12_nowOf_83 ⟨rfl, (zNow_n (by omega) (by first | omega | (by_cases q7 : w_.toInt < 10 <;> first | omega | (have hrx := zRm (x := w_) (by omega); omega))))⟩
    · have h_6 : (w_.toInt < (10 : Int) ∨ (39 : Int) < w_.toInt) := h_6
      refine lv_if_eq (tgt := 81) hx hb dX12_nowOf_70 (by decide) (fun _ => ?_) (fun q => absurd (by decide) q)
      refine lv_bipush (v := (-2)) hx hb dX12_nowOf_81 (by decide) ?_
      exact z_iret C hr hlocks G (Nat.le_of_ble_eq_true rfl) (Nat.le_of_ble_eq_true rfl) dX12_nowOf_83 ⟨rfl, (zNow_n (by omega) (by first | omega | (by_cases q7 : w_.toInt < 10 <;> first | omega | (have hrx := zRm (x := w_) (by omega); omega))))⟩
  · have c_1r : w_.toInt = 0 ∨ w_.toInt = 1 ∨ w_.toInt = 2 ∨ w_.toInt = 3 := by omega
    rcases c_1r with c_1 | c_1 | c_1 | c_1
    · refine lv_tableIn (tgt := 32) hx hb dX12_nowOf_1 (by omega) (by omega) (by rw [c_1]; rfl) (by decide) ?_
      refine lv_aload_n hx hb dX12_nowOf_32 rfl (lv_at hl 0 rfl) ?_
      refine z_get C G clX12 0 rfl 17 (by decide) m_fl_RX12_196 rfl dX12_nowOf_33 ?_
      exact z_iret C hr hlocks G (Nat.le_of_ble_eq_true rfl) (Nat.le_of_ble_eq_true rfl) dX12_nowOf_36 ⟨rfl, (zNow_0 (by omega))⟩
    · refine lv_tableIn (tgt := 37) hx hb dX12_nowOf_1 (by omega) (by omega) (by rw [c_1]; rfl) (by decide) ?_
      refine lv_aload_n hx hb dX12_nowOf_37 rfl (lv_at hl 0 rfl) ?_
      refine lv_iload_n hx hb dX12_nowOf_38 rfl (lv_at hl 1 rfl) ?_
      refine lv_iconst (v := 1) hx hb dX12_nowOf_39 (by decide) ?_
      refine lv_icmp_ne (tgt := 47) hx hb dX12_nowOf_40 (by decide) (fun c_17 => ?_) (fun c_17 => ?_)
      · have c_17n : ¬ w_.toInt = (1 : Int) := fun q => c_17 ((fa_eq _ _).mpr q)
        refine lv_iconst (v := 0) hx hb dX12_nowOf_47 (by decide) ?_
        refine z_Vi (bc := [[(mo, .inr (11, [.ref m_all, .ref m_has, .int i_size, .int i_next, .int i_where, .int i_token, .int i_number, .int i_word, .int i_wrong, .int i_farCrossing, .ref m_read, .int i_z0, .int i_crossings, .int i_inns, .ref m_posts, .ref m_shut, .ref m_here, .int i_steps, .int i_done, .int i_at, .int i_gone, .ref m_was, .ref m_came, .ref m_seenAt, .ref m_rowWorth, .ref m_farBy, .ref m_used, .int i_everywhere, .int i_again0, .int i_d0, .int i_never, .int i_firstCame, .int i_longRun, .int i_moved, .int i_crowd, .int i_l0, .int i_fitMany, .int i_fitLeast, .int i_fitMost, .ref m_fitPost, .ref m_fitEnd, .ref m_keptPosts, .int i_x0]))], [(m_here, .inl (T.2 0, 7, .inl f_here))]]) (br := [[(m_posts, .inl (T.2 0, 7, .inl f_posts))], [(m_shut, .inl (T.2 0, 7, .inl f_shut))]]) (As := [.int 0]) (rest := []) C G (c_fm_walkersOf l T mo m_all m_has i_size i_next i_where i_token i_number i_word i_wrong i_farCrossing m_read i_z0 i_crossings i_inns m_posts m_shut m_here i_steps i_done i_at i_gone m_was m_came m_seenAt m_rowWorth m_farBy m_used i_everywhere i_again0 i_d0 i_never i_firstCame i_longRun i_moved i_crowd i_l0 i_fitMany i_fitLeast i_fitMost m_fitPost m_fitEnd m_keptPosts i_x0 f_here 0 (by first | with_reducible assumption | with_reducible rfl | omega | assumption | rfl)) (kV_RX12_351 C.2.2.2.2 (Nat.le_of_ble_eq_true rfl) (Nat.le_of_ble_eq_true rfl)) [0, 2] [1, 3] rfl rfl (ci := 11) (qc := (RX12, TX12, 43)) rfl rfl (List.mem_flatten.mpr ⟨_, List.mem_of_getElem? (i := 0) rfl, List.mem_cons_self⟩) rfl rfl hl.1 dX12_nowOf_48 (Nat.le_of_ble_eq_true rfl) (Nat.le_of_ble_eq_true rfl) (fun r_19 b1 H locs hw G => ?_)
        obtain ⟨rfl, h_18⟩ := hw
        have G : zS T A s.heap s [[(m_posts, .inl (T.2 0, 7, .inl f_posts))], [(m_shut, .inl (T.2 0, 7, .inl f_shut))], [(mo, .inr (11, [.ref m_all, .ref m_has, .int i_size, .int i_next, .int i_where, .int i_token, .int i_number, .int i_word, .int i_wrong, .int i_farCrossing, .ref m_read, .int i_z0, .int i_crossings, .int i_inns, .ref m_posts, .ref m_shut, .ref m_here, .int i_steps, .int i_done, .int i_at, .int i_gone, .ref m_was, .ref m_came, .ref m_seenAt, .ref m_rowWorth, .ref m_farBy, .ref m_used, .int i_everywhere, .int i_again0, .int i_d0, .int i_never, .int i_firstCame, .int i_longRun, .int i_moved, .int i_crowd, .int i_l0, .int i_fitMany, .int i_fitLeast, .int i_fitMost, .ref m_fitPost, .ref m_fitEnd, .ref m_keptPosts, .int i_x0]))], [(m_here, .inl (T.2 0, 7, .inl f_here))]] _ _ := G
        have G := G.sub (bs' := [[(mo, .inr (11, [.ref m_all, .ref m_has, .int i_size, .int i_next, .int i_where, .int i_token, .int i_number, .int i_word, .int i_wrong, .int i_farCrossing, .ref m_read, .int i_z0, .int i_crossings, .int i_inns, .ref m_posts, .ref m_shut, .ref m_here, .int i_steps, .int i_done, .int i_at, .int i_gone, .ref m_was, .ref m_came, .ref m_seenAt, .ref m_rowWorth, .ref m_farBy, .ref m_used, .int i_everywhere, .int i_again0, .int i_d0, .int i_never, .int i_firstCame, .int i_longRun, .int i_moved, .int i_crowd, .int i_l0, .int i_fitMany, .int i_fitLeast, .int i_fitMost, .ref m_fitPost, .ref m_fitEnd, .ref m_keptPosts, .int i_x0]))], [(m_posts, .inl (T.2 0, 7, .inl f_posts))], [(m_here, .inl (T.2 0, 7, .inl f_here))], [(m_shut, .inl (T.2 0, 7, .inl f_shut))]]) [2, 0, 3, 1] rfl
        exact z_iret C hr hlocks G (Nat.le_of_ble_eq_true rfl) (Nat.le_of_ble_eq_true rfl) dX12_nowOf_51 ⟨rfl, (by rw [h_18]; first | exact zNow_1 (by omega) | exact zNow_2 (by omega))⟩
      · have c_17n : w_.toInt = (1 : Int) := (fa_eq _ _).mp c_17
        refine lv_iconst (v := 1) hx hb dX12_nowOf_43 (by decide) ?_
        refine lv_goto (tgt := 48) hx hb dX12_nowOf_44 (by decide) ?_
        refine z_Vi (bc := [[(mo, .inr (11, [.ref m_all, .ref m_has, .int i_size, .int i_next, .int i_where, .int i_token, .int i_number, .int i_word, .int i_wrong, .int i_farCrossing, .ref m_read, .int i_z0, .int i_crossings, .int i_inns, .ref m_posts, .ref m_shut, .ref m_here, .int i_steps, .int i_done, .int i_at, .int i_gone, .ref m_was, .ref m_came, .ref m_seenAt, .ref m_rowWorth, .ref m_farBy, .ref m_used, .int i_everywhere, .int i_again0, .int i_d0, .int i_never, .int i_firstCame, .int i_longRun, .int i_moved, .int i_crowd, .int i_l0, .int i_fitMany, .int i_fitLeast, .int i_fitMost, .ref m_fitPost, .ref m_fitEnd, .ref m_keptPosts, .int i_x0]))], [(m_here, .inl (T.2 0, 7, .inl f_here))]]) (br := [[(m_posts, .inl (T.2 0, 7, .inl f_posts))], [(m_shut, .inl (T.2 0, 7, .inl f_shut))]]) (As := [.int 1]) (rest := []) C G (c_fm_walkersOf l T mo m_all m_has i_size i_next i_where i_token i_number i_word i_wrong i_farCrossing m_read i_z0 i_crossings i_inns m_posts m_shut m_here i_steps i_done i_at i_gone m_was m_came m_seenAt m_rowWorth m_farBy m_used i_everywhere i_again0 i_d0 i_never i_firstCame i_longRun i_moved i_crowd i_l0 i_fitMany i_fitLeast i_fitMost m_fitPost m_fitEnd m_keptPosts i_x0 f_here 1 (by first | with_reducible assumption | with_reducible rfl | omega | assumption | rfl)) (kV_RX12_351 C.2.2.2.2 (Nat.le_of_ble_eq_true rfl) (Nat.le_of_ble_eq_true rfl)) [0, 2] [1, 3] rfl rfl (ci := 11) (qc := (RX12, TX12, 43)) rfl rfl (List.mem_flatten.mpr ⟨_, List.mem_of_getElem? (i := 0) rfl, List.mem_cons_self⟩) rfl rfl hl.1 dX12_nowOf_48 (Nat.le_of_ble_eq_true rfl) (Nat.le_of_ble_eq_true rfl) (fun r_21 b1 H locs hw G => ?_)
        obtain ⟨rfl, h_20⟩ := hw
        have G : zS T A s.heap s [[(m_posts, .inl (T.2 0, 7, .inl f_posts))], [(m_shut, .inl (T.2 0, 7, .inl f_shut))], [(mo, .inr (11, [.ref m_all, .ref m_has, .int i_size, .int i_next, .int i_where, .int i_token, .int i_number, .int i_word, .int i_wrong, .int i_farCrossing, .ref m_read, .int i_z0, .int i_crossings, .int i_inns, .ref m_posts, .ref m_shut, .ref m_here, .int i_steps, .int i_done, .int i_at, .int i_gone, .ref m_was, .ref m_came, .ref m_seenAt, .ref m_rowWorth, .ref m_farBy, .ref m_used, .int i_everywhere, .int i_again0, .int i_d0, .int i_never, .int i_firstCame, .int i_longRun, .int i_moved, .int i_crowd, .int i_l0, .int i_fitMany, .int i_fitLeast, .int i_fitMost, .ref m_fitPost, .ref m_fitEnd, .ref m_keptPosts, .int i_x0]))], [(m_here, .inl (T.2 0, 7, .inl f_here))]] _ _ := G
        have G := G.sub (bs' := [[(mo, .inr (11, [.ref m_all, .ref m_has, .int i_size, .int i_next, .int i_where, .int i_token, .int i_number, .int i_word, .int i_wrong, .int i_farCrossing, .ref m_read, .int i_z0, .int i_crossings, .int i_inns, .ref m_posts, .ref m_shut, .ref m_here, .int i_steps, .int i_done, .int i_at, .int i_gone, .ref m_was, .ref m_came, .ref m_seenAt, .ref m_rowWorth, .ref m_farBy, .ref m_used, .int i_everywhere, .int i_again0, .int i_d0, .int i_never, .int i_firstCame, .int i_longRun, .int i_moved, .int i_crowd, .int i_l0, .int i_fitMany, .int i_fitLeast, .int i_fitMost, .ref m_fitPost, .ref m_fitEnd, .ref m_keptPosts, .int i_x0]))], [(m_posts, .inl (T.2 0, 7, .inl f_posts))], [(m_here, .inl (T.2 0, 7, .inl f_here))], [(m_shut, .inl (T.2 0, 7, .inl f_shut))]]) [2, 0, 3, 1] rfl
        exact z_iret C hr hlocks G (Nat.le_of_ble_eq_true rfl) (Nat.le_of_ble_eq_true rfl) dX12_nowOf_51 ⟨rfl, (by rw [h_20]; first | exact zNow_1 (by omega) | exact zNow_2 (by omega))⟩
    · refine lv_tableIn (tgt := 37) hx hb dX12_nowOf_1 (by omega) (by omega) (by rw [c_1]; rfl) (by decide) ?_
      refine lv_aload_n hx hb dX12_nowOf_37 rfl (lv_at hl 0 rfl) ?_
      refine lv_iload_n hx hb dX12_nowOf_38 rfl (lv_at hl 1 rfl) ?_
      refine lv_iconst (v := 1) hx hb dX12_nowOf_39 (by decide) ?_
      refine lv_icmp_ne (tgt := 47) hx hb dX12_nowOf_40 (by decide) (fun c_22 => ?_) (fun c_22 => ?_)
      · have c_22n : ¬ w_.toInt = (1 : Int) := fun q => c_22 ((fa_eq _ _).mpr q)
        refine lv_iconst (v := 0) hx hb dX12_nowOf_47 (by decide) ?_
        refine z_Vi (bc := [[(mo, .inr (11, [.ref m_all, .ref m_has, .int i_size, .int i_next, .int i_where, .int i_token, .int i_number, .int i_word, .int i_wrong, .int i_farCrossing, .ref m_read, .int i_z0, .int i_crossings, .int i_inns, .ref m_posts, .ref m_shut, .ref m_here, .int i_steps, .int i_done, .int i_at, .int i_gone, .ref m_was, .ref m_came, .ref m_seenAt, .ref m_rowWorth, .ref m_farBy, .ref m_used, .int i_everywhere, .int i_again0, .int i_d0, .int i_never, .int i_firstCame, .int i_longRun, .int i_moved, .int i_crowd, .int i_l0, .int i_fitMany, .int i_fitLeast, .int i_fitMost, .ref m_fitPost, .ref m_fitEnd, .ref m_keptPosts, .int i_x0]))], [(m_here, .inl (T.2 0, 7, .inl f_here))]]) (br := [[(m_posts, .inl (T.2 0, 7, .inl f_posts))], [(m_shut, .inl (T.2 0, 7, .inl f_shut))]]) (As := [.int 0]) (rest := []) C G (c_fm_walkersOf l T mo m_all m_has i_size i_next i_where i_token i_number i_word i_wrong i_farCrossing m_read i_z0 i_crossings i_inns m_posts m_shut m_here i_steps i_done i_at i_gone m_was m_came m_seenAt m_rowWorth m_farBy m_used i_everywhere i_again0 i_d0 i_never i_firstCame i_longRun i_moved i_crowd i_l0 i_fitMany i_fitLeast i_fitMost m_fitPost m_fitEnd m_keptPosts i_x0 f_here 0 (by first | with_reducible assumption | with_reducible rfl | omega | assumption | rfl)) (kV_RX12_351 C.2.2.2.2 (Nat.le_of_ble_eq_true rfl) (Nat.le_of_ble_eq_true rfl)) [0, 2] [1, 3] rfl rfl (ci := 11) (qc := (RX12, TX12, 43)) rfl rfl (List.mem_flatten.mpr ⟨_, List.mem_of_getElem? (i := 0) rfl, List.mem_cons_self⟩) rfl rfl hl.1 dX12_nowOf_48 (Nat.le_of_ble_eq_true rfl) (Nat.le_of_ble_eq_true rfl) (fun r_24 b1 H locs hw G => ?_)
        obtain ⟨rfl, h_23⟩ := hw
        have G : zS T A s.heap s [[(m_posts, .inl (T.2 0, 7, .inl f_posts))], [(m_shut, .inl (T.2 0, 7, .inl f_shut))], [(mo, .inr (11, [.ref m_all, .ref m_has, .int i_size, .int i_next, .int i_where, .int i_token, .int i_number, .int i_word, .int i_wrong, .int i_farCrossing, .ref m_read, .int i_z0, .int i_crossings, .int i_inns, .ref m_posts, .ref m_shut, .ref m_here, .int i_steps, .int i_done, .int i_at, .int i_gone, .ref m_was, .ref m_came, .ref m_seenAt, .ref m_rowWorth, .ref m_farBy, .ref m_used, .int i_everywhere, .int i_again0, .int i_d0, .int i_never, .int i_firstCame, .int i_longRun, .int i_moved, .int i_crowd, .int i_l0, .int i_fitMany, .int i_fitLeast, .int i_fitMost, .ref m_fitPost, .ref m_fitEnd, .ref m_keptPosts, .int i_x0]))], [(m_here, .inl (T.2 0, 7, .inl f_here))]] _ _ := G
        have G := G.sub (bs' := [[(mo, .inr (11, [.ref m_all, .ref m_has, .int i_size, .int i_next, .int i_where, .int i_token, .int i_number, .int i_word, .int i_wrong, .int i_farCrossing, .ref m_read, .int i_z0, .int i_crossings, .int i_inns, .ref m_posts, .ref m_shut, .ref m_here, .int i_steps, .int i_done, .int i_at, .int i_gone, .ref m_was, .ref m_came, .ref m_seenAt, .ref m_rowWorth, .ref m_farBy, .ref m_used, .int i_everywhere, .int i_again0, .int i_d0, .int i_never, .int i_firstCame, .int i_longRun, .int i_moved, .int i_crowd, .int i_l0, .int i_fitMany, .int i_fitLeast, .int i_fitMost, .ref m_fitPost, .ref m_fitEnd, .ref m_keptPosts, .int i_x0]))], [(m_posts, .inl (T.2 0, 7, .inl f_posts))], [(m_here, .inl (T.2 0, 7, .inl f_here))], [(m_shut, .inl (T.2 0, 7, .inl f_shut))]]) [2, 0, 3, 1] rfl
        exact z_iret C hr hlocks G (Nat.le_of_ble_eq_true rfl) (Nat.le_of_ble_eq_true rfl) dX12_nowOf_51 ⟨rfl, (by rw [h_23]; first | exact zNow_1 (by omega) | exact zNow_2 (by omega))⟩
      · have c_22n : w_.toInt = (1 : Int) := (fa_eq _ _).mp c_22
        refine lv_iconst (v := 1) hx hb dX12_nowOf_43 (by decide) ?_
        refine lv_goto (tgt := 48) hx hb dX12_nowOf_44 (by decide) ?_
        refine z_Vi (bc := [[(mo, .inr (11, [.ref m_all, .ref m_has, .int i_size, .int i_next, .int i_where, .int i_token, .int i_number, .int i_word, .int i_wrong, .int i_farCrossing, .ref m_read, .int i_z0, .int i_crossings, .int i_inns, .ref m_posts, .ref m_shut, .ref m_here, .int i_steps, .int i_done, .int i_at, .int i_gone, .ref m_was, .ref m_came, .ref m_seenAt, .ref m_rowWorth, .ref m_farBy, .ref m_used, .int i_everywhere, .int i_again0, .int i_d0, .int i_never, .int i_firstCame, .int i_longRun, .int i_moved, .int i_crowd, .int i_l0, .int i_fitMany, .int i_fitLeast, .int i_fitMost, .ref m_fitPost, .ref m_fitEnd, .ref m_keptPosts, .int i_x0]))], [(m_here, .inl (T.2 0, 7, .inl f_here))]]) (br := [[(m_posts, .inl (T.2 0, 7, .inl f_posts))], [(m_shut, .inl (T.2 0, 7, .inl f_shut))]]) (As := [.int 1]) (rest := []) C G (c_fm_walkersOf l T mo m_all m_has i_size i_next i_where i_token i_number i_word i_wrong i_farCrossing m_read i_z0 i_crossings i_inns m_posts m_shut m_here i_steps i_done i_at i_gone m_was m_came m_seenAt m_rowWorth m_farBy m_used i_everywhere i_again0 i_d0 i_never i_firstCame i_longRun i_moved i_crowd i_l0 i_fitMany i_fitLeast i_fitMost m_fitPost m_fitEnd m_keptPosts i_x0 f_here 1 (by first | with_reducible assumption | with_reducible rfl | omega | assumption | rfl)) (kV_RX12_351 C.2.2.2.2 (Nat.le_of_ble_eq_true rfl) (Nat.le_of_ble_eq_true rfl)) [0, 2] [1, 3] rfl rfl (ci := 11) (qc := (RX12, TX12, 43)) rfl rfl (List.mem_flatten.mpr ⟨_, List.mem_of_getElem? (i := 0) rfl, List.mem_cons_self⟩) rfl rfl hl.1 dX12_nowOf_48 (Nat.le_of_ble_eq_true rfl) (Nat.le_of_ble_eq_true rfl) (fun r_26 b1 H locs hw G => ?_)
        obtain ⟨rfl, h_25⟩ := hw
        have G : zS T A s.heap s [[(m_posts, .inl (T.2 0, 7, .inl f_posts))], [(m_shut, .inl (T.2 0, 7, .inl f_shut))], [(mo, .inr (11, [.ref m_all, .ref m_has, .int i_size, .int i_next, .int i_where, .int i_token, .int i_number, .int i_word, .int i_wrong, .int i_farCrossing, .ref m_read, .int i_z0, .int i_crossings, .int i_inns, .ref m_posts, .ref m_shut, .ref m_here, .int i_steps, .int i_done, .int i_at, .int i_gone, .ref m_was, .ref m_came, .ref m_seenAt, .ref m_rowWorth, .ref m_farBy, .ref m_used, .int i_everywhere, .int i_again0, .int i_d0, .int i_never, .int i_firstCame, .int i_longRun, .int i_moved, .int i_crowd, .int i_l0, .int i_fitMany, .int i_fitLeast, .int i_fitMost, .ref m_fitPost, .ref m_fitEnd, .ref m_keptPosts, .int i_x0]))], [(m_here, .inl (T.2 0, 7, .inl f_here))]] _ _ := G
        have G := G.sub (bs' := [[(mo, .inr (11, [.ref m_all, .ref m_has, .int i_size, .int i_next, .int i_where, .int i_token, .int i_number, .int i_word, .int i_wrong, .int i_farCrossing, .ref m_read, .int i_z0, .int i_crossings, .int i_inns, .ref m_posts, .ref m_shut, .ref m_here, .int i_steps, .int i_done, .int i_at, .int i_gone, .ref m_was, .ref m_came, .ref m_seenAt, .ref m_rowWorth, .ref m_farBy, .ref m_used, .int i_everywhere, .int i_again0, .int i_d0, .int i_never, .int i_firstCame, .int i_longRun, .int i_moved, .int i_crowd, .int i_l0, .int i_fitMany, .int i_fitLeast, .int i_fitMost, .ref m_fitPost, .ref m_fitEnd, .ref m_keptPosts, .int i_x0]))], [(m_posts, .inl (T.2 0, 7, .inl f_posts))], [(m_here, .inl (T.2 0, 7, .inl f_here))], [(m_shut, .inl (T.2 0, 7, .inl f_shut))]]) [2, 0, 3, 1] rfl
        exact z_iret C hr hlocks G (Nat.le_of_ble_eq_true rfl) (Nat.le_of_ble_eq_true rfl) dX12_nowOf_51 ⟨rfl, (by rw [h_25]; first | exact zNow_1 (by omega) | exact zNow_2 (by omega))⟩
    · refine lv_tableIn (tgt := 52) hx hb dX12_nowOf_1 (by omega) (by omega) (by rw [c_1]; rfl) (by decide) ?_
      refine lv_aload_n hx hb dX12_nowOf_52 rfl (lv_at hl 0 rfl) ?_
      refine z_get C G clX12 0 rfl 30 (by decide) m_fl_RX12_320 rfl dX12_nowOf_53 ?_
      exact z_iret C hr hlocks G (Nat.le_of_ble_eq_true rfl) (Nat.le_of_ble_eq_true rfl) dX12_nowOf_56 ⟨rfl, (zNow_3 (by omega))⟩
set_option maxHeartbeats 4000000 in
set_option maxRecDepth 100000 in
/-- c_fm_state -/
theorem c_fm_state (l : Launch) (T : zTy) (mo : Nat) (m_all : Nat) (m_has : Nat) (i_size : Int32) (i_next : Int32) (i_where : Int32) (i_token : Int32) (i_number : Int32) (i_word : Int32) (i_wrong : Int32) (i_farCrossing : Int32) (m_read : Nat) (i_z0 : Int32) (i_crossings : Int32) (i_inns : Int32) (m_posts : Nat) (m_shut : Nat) (m_here : Nat) (i_steps : Int32) (i_done : Int32) (i_at : Int32) (i_gone : Int32) (m_was : Nat) (m_came : Nat) (m_seenAt : Nat) (m_rowWorth : Nat) (m_farBy : Nat) (m_used : Nat) (i_everywhere : Int32) (i_again0 : Int32) (i_d0 : Int32) (i_never : Int32) (i_firstCame : Int32) (i_longRun : Int32) (i_moved : Int32) (i_crowd : Int32) (i_l0 : Int32) (i_fitMany : Int32) (i_fitLeast : Int32) (i_fitMost : Int32) (m_fitPost : Nat) (m_fitEnd : Nat) (m_keptPosts : Nat) (i_x0 : Int32) (f_all : Nat → Int32) (f_posts : Nat → Int32) (f_shut : Nat → Int32) (f_here : Nat → Int32) (f_was : Nat → Int32) (l_ : Int32) (k_ : Int32) (n_ : Int32) (w_ : Int32) (hB : zBI f_all) (hVA : zVA f_all) (hVD : zVD f_all) : zMi l T yX12_state cX12_state 5 (some .int) 8 0 0 [.ref mo, .int l_, .int k_, .int n_, .int w_] [[(mo, .inr (11, [.ref m_all, .ref m_has, .int i_size, .int i_next, .int i_where, .int i_token, .int i_number, .int i_word, .int i_wrong, .int i_farCrossing, .ref m_read, .int i_z0, .int i_crossings, .int i_inns, .ref m_posts, .ref m_shut, .ref m_here, .int i_steps, .int i_done, .int i_at, .int i_gone, .ref m_was, .ref m_came, .ref m_seenAt, .ref m_rowWorth, .ref m_farBy, .ref m_used, .int i_everywhere, .int i_again0, .int i_d0, .int i_never, .int i_firstCame, .int i_longRun, .int i_moved, .int i_crowd, .int i_l0, .int i_fitMany, .int i_fitLeast, .int i_fitMost, .ref m_fitPost, .ref m_fitEnd, .ref m_keptPosts, .int i_x0]))], [(m_all, .inl (T.2 0, 3952, .inl f_all))], [(m_posts, .inl (T.2 0, 7, .inl f_posts))], [(m_shut, .inl (T.2 0, 7, .inl f_shut))], [(m_here, .inl (T.2 0, 7, .inl f_here))], [(m_was, .inl (T.2 0, 7, .inl f_was))]] (fun (r : Int32) bs => ∃ (j_z0 : Int32) (j_crossings : Int32) (j_inns : Int32) (j_steps : Int32) (j_done : Int32) (j_at : Int32) (j_gone : Int32) (j_d0 : Int32) (j_never : Int32) (j_firstCame : Int32) (j_longRun : Int32) (j_moved : Int32) (j_crowd : Int32) (g_posts : Nat → Int32) (g_shut : Nat → Int32) (g_here : Nat → Int32) (g_was : Nat → Int32), bs = [[(mo, .inr (11, [.ref m_all, .ref m_has, .int i_size, .int i_next, .int i_where, .int i_token, .int i_number, .int i_word, .int i_wrong, .int i_farCrossing, .ref m_read, .int j_z0, .int j_crossings, .int j_inns, .ref m_posts, .ref m_shut, .ref m_here, .int j_steps, .int j_done, .int j_at, .int j_gone, .ref m_was, .ref m_came, .ref m_seenAt, .ref m_rowWorth, .ref m_farBy, .ref m_used, .int i_everywhere, .int i_again0, .int j_d0, .int j_never, .int j_firstCame, .int j_longRun, .int j_moved, .int j_crowd, .int i_l0, .int i_fitMany, .int i_fitLeast, .int i_fitMost, .ref m_fitPost, .ref m_fitEnd, .ref m_keptPosts, .int i_x0]))], [(m_all, .inl (T.2 0, 3952, .inl f_all))], [(m_posts, .inl (T.2 0, 7, .inl g_posts))], [(m_shut, .inl (T.2 0, 7, .inl g_shut))], [(m_here, .inl (T.2 0, 7, .inl g_here))], [(m_was, .inl (T.2 0, 7, .inl g_was))]] ∧ (((l_.toInt < 0 ∨ (f_all 0).toInt ≤ l_.toInt) ∨ (k_.toInt < 0 ∨ (f_all 1).toInt ≤ k_.toInt)) ∧ r = -2 ∨ (l_.toInt = 0 ∧ 0 < (f_all 0).toInt) ∧ (k_.toInt = 0 ∧ 0 < (f_all 1).toInt) ∧ pState f_all 610 712 n_ w_ r ∨ (l_.toInt = 0 ∧ 0 < (f_all 0).toInt) ∧ (k_.toInt = 1 ∧ 1 < (f_all 1).toInt) ∧ pState f_all 610 833 n_ w_ r ∨ (l_.toInt = 1 ∧ 1 < (f_all 0).toInt) ∧ (k_.toInt = 0 ∧ 0 < (f_all 1).toInt) ∧ pState f_all 661 712 n_ w_ r ∨ (l_.toInt = 1 ∧ 1 < (f_all 0).toInt) ∧ (k_.toInt = 1 ∧ 1 < (f_all 1).toInt) ∧ pState f_all 661 833 n_ w_ r)) := by
  refine zMi_of (own := RX12) (by decide) rfl (Nat.le_of_ble_eq_true rfl) ?_
  intro p e s m args below meth c A ls C hr hlocks hnm hAe G hl
  have hx := C.1
  have hb := C.2.1
  have hl : lv_has ls 5 [(0, .ref mo), (1, .int l_), (2, .int k_), (3, .int n_), (4, .int w_)] := hl
  refine lv_aload_n hx hb dX12_state_0 rfl (lv_at hl 0 rfl) ?_
  refine lv_iload_n hx hb dX12_state_1 rfl (lv_at hl 1 rfl) ?_
  refine z_Vi (bc := [[(mo, .inr (11, [.ref m_all, .ref m_has, .int i_size, .int i_next, .int i_where, .int i_token, .int i_number, .int i_word, .int i_wrong, .int i_farCrossing, .ref m_read, .int i_z0, .int i_crossings, .int i_inns, .ref m_posts, .ref m_shut, .ref m_here, .int i_steps, .int i_done, .int i_at, .int i_gone, .ref m_was, .ref m_came, .ref m_seenAt, .ref m_rowWorth, .ref m_farBy, .ref m_used, .int i_everywhere, .int i_again0, .int i_d0, .int i_never, .int i_firstCame, .int i_longRun, .int i_moved, .int i_crowd, .int i_l0, .int i_fitMany, .int i_fitLeast, .int i_fitMost, .ref m_fitPost, .ref m_fitEnd, .ref m_keptPosts, .int i_x0]))], [(m_all, .inl (T.2 0, 3952, .inl f_all))], [(m_posts, .inl (T.2 0, 7, .inl f_posts))], [(m_shut, .inl (T.2 0, 7, .inl f_shut))], [(m_here, .inl (T.2 0, 7, .inl f_here))]]) (br := [[(m_was, .inl (T.2 0, 7, .inl f_was))]]) (As := [.int l_]) (rest := []) C G (c_m_isLand l T mo m_all m_has i_size i_next i_where i_token i_number i_word i_wrong i_farCrossing m_read i_z0 i_crossings i_inns m_posts m_shut m_here i_steps i_done i_at i_gone m_was m_came m_seenAt m_rowWorth m_farBy m_used i_everywhere i_again0 i_d0 i_never i_firstCame i_longRun i_moved i_crowd i_l0 i_fitMany i_fitLeast i_fitMost m_fitPost m_fitEnd m_keptPosts i_x0 f_all f_posts f_shut f_here l_ (by first | with_reducible assumption | with_reducible rfl | omega | assumption | rfl)) (kV_RX12_184 C.2.2.2.2 (Nat.le_of_ble_eq_true rfl) (Nat.le_of_ble_eq_true rfl)) [0, 1, 2, 3, 4] [5] rfl rfl (ci := 11) (qc := (RX12, TX12, 43)) rfl rfl (List.mem_flatten.mpr ⟨_, List.mem_of_getElem? (i := 0) rfl, List.mem_cons_self⟩) rfl rfl hl.1 dX12_state_2 (Nat.le_of_ble_eq_true rfl) (Nat.le_of_ble_eq_true rfl) (fun r_10 b1 H locs hw G => ?_)
  obtain ⟨j_z0_1, j_crossings_2, j_inns_3, j_steps_4, j_done_5, g_posts_6, g_shut_7, g_here_8, rfl, hc_9⟩ := hw
  have G : zS T A s.heap s [[(m_was, .inl (T.2 0, 7, .inl f_was))], [(mo, .inr (11, [.ref m_all, .ref m_has, .int i_size, .int i_next, .int i_where, .int i_token, .int i_number, .int i_word, .int i_wrong, .int i_farCrossing, .ref m_read, .int j_z0_1, .int j_crossings_2, .int j_inns_3, .ref m_posts, .ref m_shut, .ref m_here, .int j_steps_4, .int j_done_5, .int i_at, .int i_gone, .ref m_was, .ref m_came, .ref m_seenAt, .ref m_rowWorth, .ref m_farBy, .ref m_used, .int i_everywhere, .int i_again0, .int i_d0, .int i_never, .int i_firstCame, .int i_longRun, .int i_moved, .int i_crowd, .int i_l0, .int i_fitMany, .int i_fitLeast, .int i_fitMost, .ref m_fitPost, .ref m_fitEnd, .ref m_keptPosts, .int i_x0]))], [(m_all, .inl (T.2 0, 3952, .inl f_all))], [(m_posts, .inl (T.2 0, 7, .inl g_posts_6))], [(m_shut, .inl (T.2 0, 7, .inl g_shut_7))], [(m_here, .inl (T.2 0, 7, .inl g_here_8))]] _ _ := G
  rcases hc_9 with ⟨rfl, h_11, h_12, h_13, h_14, h_15, h_16, h_17, h_18, h_19, h_20, h_21, h_22⟩ | ⟨rfl, h_23⟩
  · have h_11 : 0 ≤ l_.toInt := h_11
    have h_12 : l_.toInt ≤ 1 := h_12
    have h_13 : l_.toInt < (f_all 0).toInt := h_13
    have h_14 : j_z0_1.toInt = 610 + 51 * l_.toInt := h_14
    have h_15 : zML f_all j_z0_1 j_crossings_2 := h_15
    have h_16 : zMP g_posts_6 := h_16
    have h_17 : j_inns_3 = f_all (j_z0_1.toInt.toNat + 1) := h_17
    have h_18 : j_steps_4 = 0 := h_18
    have h_19 : j_done_5 = 0 := h_19
    have h_20 : (∀ j, j < 7 → g_posts_6 j = zPt f_all j_z0_1 (nI j)) := h_20
    have h_21 : (∀ j, j < 7 → g_shut_7 j = 0) := h_21
    have h_22 : (∀ j, j < 7 → g_here_8 j = zWk f_all j_z0_1 j) := h_22
    have hLx := h_15
    have hcr := hLx.cr
    have hzx := hLx.1
    have hPx := h_16
    have hVx : zMV (zRo f_all j_z0_1) g_posts_6 := zVA_z hVA hzx h_20
    refine lv_if_eq (tgt := 20) hx hb dX12_state_5 (by decide) (fun q => absurd q (by decide)) (fun _ => ?_)
    rcases (show l_.toInt = 0 ∨ l_.toInt = 1 from by have hq9 := hB.2.1 0 (by decide); omega) with hkk | hkk
    · obtain rfl : j_z0_1 = 610 := Int32.toInt_inj.mp (by show j_z0_1.toInt = 610; omega)
      have hcx : j_crossings_2.toInt = (f_all 610).toInt := by rw [hLx.2.1]; rfl
      have hQP : zP3 g_posts_6 (zWo f_all 610 j_inns_3) := zP3_m hLx hPx
      refine lv_aload_n hx hb dX12_state_8 rfl (lv_at hl 0 rfl) ?_
      refine lv_iload_n hx hb dX12_state_9 rfl (lv_at hl 2 rfl) ?_
      refine z_Vi (bc := [[(mo, .inr (11, [.ref m_all, .ref m_has, .int i_size, .int i_next, .int i_where, .int i_token, .int i_number, .int i_word, .int i_wrong, .int i_farCrossing, .ref m_read, .int 610, .int j_crossings_2, .int j_inns_3, .ref m_posts, .ref m_shut, .ref m_here, .int j_steps_4, .int j_done_5, .int i_at, .int i_gone, .ref m_was, .ref m_came, .ref m_seenAt, .ref m_rowWorth, .ref m_farBy, .ref m_used, .int i_everywhere, .int i_again0, .int i_d0, .int i_never, .int i_firstCame, .int i_longRun, .int i_moved, .int i_crowd, .int i_l0, .int i_fitMany, .int i_fitLeast, .int i_fitMost, .ref m_fitPost, .ref m_fitEnd, .ref m_keptPosts, .int i_x0]))], [(m_all, .inl (T.2 0, 3952, .inl f_all))]]) (br := [[(m_was, .inl (T.2 0, 7, .inl f_was))], [(m_posts, .inl (T.2 0, 7, .inl g_posts_6))], [(m_shut, .inl (T.2 0, 7, .inl g_shut_7))], [(m_here, .inl (T.2 0, 7, .inl g_here_8))]]) (As := [.int k_]) (rest := []) C G (c_m_isDay l T mo m_all m_has i_size i_next i_where i_token i_number i_word i_wrong i_farCrossing m_read 610 j_crossings_2 j_inns_3 m_posts m_shut m_here j_steps_4 j_done_5 i_at i_gone m_was m_came m_seenAt m_rowWorth m_farBy m_used i_everywhere i_again0 i_d0 i_never i_firstCame i_longRun i_moved i_crowd i_l0 i_fitMany i_fitLeast i_fitMost m_fitPost m_fitEnd m_keptPosts i_x0 f_all k_ (by first | with_reducible assumption | with_reducible rfl | omega | assumption | rfl)) (kV_RX12_305 C.2.2.2.2 (Nat.le_of_ble_eq_true rfl) (Nat.le_of_ble_eq_true rfl)) [1, 2] [0, 3, 4, 5] rfl rfl (ci := 11) (qc := (RX12, TX12, 43)) rfl rfl (List.mem_flatten.mpr ⟨_, List.mem_of_getElem? (i := 0) rfl, List.mem_cons_self⟩) rfl rfl hl.1 dX12_state_10 (Nat.le_of_ble_eq_true rfl) (Nat.le_of_ble_eq_true rfl) (fun r_26 b1 H locs hw G => ?_)
      obtain ⟨j_d0_24, rfl, hc_25⟩ := hw
      have G : zS T A s.heap s [[(m_was, .inl (T.2 0, 7, .inl f_was))], [(m_posts, .inl (T.2 0, 7, .inl g_posts_6))], [(m_shut, .inl (T.2 0, 7, .inl g_shut_7))], [(m_here, .inl (T.2 0, 7, .inl g_here_8))], [(mo, .inr (11, [.ref m_all, .ref m_has, .int i_size, .int i_next, .int i_where, .int i_token, .int i_number, .int i_word, .int i_wrong, .int i_farCrossing, .ref m_read, .int 610, .int j_crossings_2, .int j_inns_3, .ref m_posts, .ref m_shut, .ref m_here, .int j_steps_4, .int j_done_5, .int i_at, .int i_gone, .ref m_was, .ref m_came, .ref m_seenAt, .ref m_rowWorth, .ref m_farBy, .ref m_used, .int i_everywhere, .int i_again0, .int j_d0_24, .int i_never, .int i_firstCame, .int i_longRun, .int i_moved, .int i_crowd, .int i_l0, .int i_fitMany, .int i_fitLeast, .int i_fitMost, .ref m_fitPost, .ref m_fitEnd, .ref m_keptPosts, .int i_x0]))], [(m_all, .inl (T.2 0, 3952, .inl f_all))]] _ _ := G
      rcases hc_25 with ⟨rfl, h_27, h_28, h_29, h_30⟩ | ⟨rfl, h_31⟩
      · have h_27 : 0 ≤ k_.toInt := h_27
        have h_28 : k_.toInt < (f_all 1).toInt := h_28
        have h_29 : j_d0_24.toInt = 712 + 121 * k_.toInt := h_29
        have h_30 : zMD f_all j_d0_24 := h_30
        have hD := h_30
        have hDa := hD.1
        have hDb := hD.2
        refine lv_if_eq (tgt := 20) hx hb dX12_state_13 (by decide) (fun q => absurd q (by decide)) (fun _ => ?_)
        rcases (show k_.toInt = 0 ∨ k_.toInt = 1 from by have hq9 := hB.2.1 1 (by decide); omega) with hkd | hkd
        · obtain rfl : j_d0_24 = 712 := Int32.toInt_inj.mp (by show j_d0_24.toInt = 712; omega)
          have hDv : zDyv f_all 712 := zVD_0 hVD 0 (by decide)
          refine lv_iload_n hx hb dX12_state_16 rfl (lv_at hl 3 rfl) ?_
          refine lv_if_ge (tgt := 23) hx hb dX12_state_17 (by decide) (fun c_32 => ?_) (fun c_32 => ?_)
          · have c_32n : (0 : Int) ≤ n_.toInt := (fa_le _ _).mp c_32
            refine lv_aload_n hx hb dX12_state_23 rfl (lv_at hl 0 rfl) ?_
            refine lv_iload_n hx hb dX12_state_24 rfl (lv_at hl 3 rfl) ?_
            refine z_Vv (bc := [[(mo, .inr (11, [.ref m_all, .ref m_has, .int i_size, .int i_next, .int i_where, .int i_token, .int i_number, .int i_word, .int i_wrong, .int i_farCrossing, .ref m_read, .int 610, .int j_crossings_2, .int j_inns_3, .ref m_posts, .ref m_shut, .ref m_here, .int j_steps_4, .int j_done_5, .int i_at, .int i_gone, .ref m_was, .ref m_came, .ref m_seenAt, .ref m_rowWorth, .ref m_farBy, .ref m_used, .int i_everywhere, .int i_again0, .int 712, .int i_never, .int i_firstCame, .int i_longRun, .int i_moved, .int i_crowd, .int i_l0, .int i_fitMany, .int i_fitLeast, .int i_fitMost, .ref m_fitPost, .ref m_fitEnd, .ref m_keptPosts, .int i_x0]))], [(m_all, .inl (T.2 0, 3952, .inl f_all))], [(m_posts, .inl (T.2 0, 7, .inl g_posts_6))], [(m_shut, .inl (T.2 0, 7, .inl g_shut_7))], [(m_here, .inl (T.2 0, 7, .inl g_here_8))], [(m_was, .inl (T.2 0, 7, .inl f_was))]]) (br := []) (As := [.int n_]) (rest := []) C G (c_fm_runs l T mo m_all m_has i_size i_next i_where i_token i_number i_word i_wrong i_farCrossing m_read 610 j_crossings_2 j_inns_3 m_posts m_shut m_here j_steps_4 j_done_5 i_at i_gone m_was m_came m_seenAt m_rowWorth m_farBy m_used i_everywhere i_again0 712 i_never i_firstCame i_longRun i_moved i_crowd i_l0 i_fitMany i_fitLeast i_fitMost m_fitPost m_fitEnd m_keptPosts i_x0 f_all g_posts_6 g_shut_7 g_here_8 f_was n_ (by first | with_reducible assumption | with_reducible rfl | omega | assumption | rfl) (by first | with_reducible assumption | with_reducible rfl | omega | assumption | rfl) hVx hD h_19 (zWk_b hLx h_22) (zS0_b h_21) hDv) (kV_RX12_348 C.2.2.2.2 (Nat.le_of_ble_eq_true rfl) (Nat.le_of_ble_eq_true rfl)) [4, 5, 1, 2, 3, 0] [] rfl rfl (ci := 11) (qc := (RX12, TX12, 43)) rfl rfl (List.mem_flatten.mpr ⟨_, List.mem_of_getElem? (i := 0) rfl, List.mem_cons_self⟩) rfl rfl hl.1 dX12_state_25 (Nat.le_of_ble_eq_true rfl) (Nat.le_of_ble_eq_true rfl) (fun b1 H locs hw G => ?_)
            obtain ⟨j_at_33, j_gone_34, j_steps_35, j_moved_36, j_firstCame_37, j_never_38, j_longRun_39, j_crowd_40, j_done_41, g_posts_42, g_shut_43, g_here_44, g_was_45, rfl, h_46, h_47, h_48, h_49, h_50⟩ := hw
            have G : zS T A s.heap s [[(mo, .inr (11, [.ref m_all, .ref m_has, .int i_size, .int i_next, .int i_where, .int i_token, .int i_number, .int i_word, .int i_wrong, .int i_farCrossing, .ref m_read, .int 610, .int j_crossings_2, .int j_inns_3, .ref m_posts, .ref m_shut, .ref m_here, .int j_steps_35, .int j_done_41, .int j_at_33, .int j_gone_34, .ref m_was, .ref m_came, .ref m_seenAt, .ref m_rowWorth, .ref m_farBy, .ref m_used, .int i_everywhere, .int i_again0, .int 712, .int j_never_38, .int j_firstCame_37, .int j_longRun_39, .int j_moved_36, .int j_crowd_40, .int i_l0, .int i_fitMany, .int i_fitLeast, .int i_fitMost, .ref m_fitPost, .ref m_fitEnd, .ref m_keptPosts, .int i_x0]))], [(m_all, .inl (T.2 0, 3952, .inl f_all))], [(m_posts, .inl (T.2 0, 7, .inl g_posts_42))], [(m_shut, .inl (T.2 0, 7, .inl g_shut_43))], [(m_here, .inl (T.2 0, 7, .inl g_here_44))], [(m_was, .inl (T.2 0, 7, .inl g_was_45))]] _ _ := G
            refine lv_aload_n hx hb dX12_state_28 rfl (lv_at hl 0 rfl) ?_
            refine z_get C G clX12 0 rfl 18 (by decide) m_fl_RX12_199 rfl dX12_state_29 ?_
            refine lv_iload_n hx hb dX12_state_32 rfl (lv_at hl 3 rfl) ?_
            refine lv_icmp_ne (tgt := 45) hx hb dX12_state_33 (by decide) (fun c_52 => ?_) (fun c_52 => ?_)
            · have c_52n : ¬ j_done_41.toInt = n_.toInt := fun q => c_52 ((fa_eq _ _).mpr q)
              refine lv_bipush (v := (-2)) hx hb dX12_state_45 (by decide) ?_
              exact z_iret C hr hlocks G (Nat.le_of_ble_eq_true rfl) (Nat.le_of_ble_eq_true rfl) dX12_state_47 ⟨610, j_crossings_2, j_inns_3, j_steps_35, j_done_41, j_at_33, j_gone_34, 712, j_never_38, j_firstCame_37, j_longRun_39, j_moved_36, j_crowd_40, g_posts_42, g_shut_43, g_here_44, g_was_45, rfl, (Or.inr (Or.inl ⟨⟨by assumption, by omega⟩, ⟨by assumption, by omega⟩, Or.inr ⟨by omega, g_posts_6, g_shut_7, g_here_8, ⟨zPt_o h_20, h_21, fun j hj => (h_22 j hj).trans rfl⟩, by rw [show pW f_all 610 = zWo f_all 610 j_inns_3 from congrArg (zWo f_all 610) h_17.symm]; rw [show f_all ((610 : Int32).toInt.toNat) = j_crossings_2 from hLx.2.1.symm, show f_all ((610 : Int32).toInt.toNat + 1) = j_inns_3 from h_17.symm]; have q8 := h_48; have q7 := h_49; rw [h_18] at q8 q7; exact Or.inl ⟨fun q9 => absurd (q8.trans q9) (by assumption), rfl⟩⟩⟩))⟩
            · have c_52n : j_done_41.toInt = n_.toInt := (fa_eq _ _).mp c_52
              refine lv_aload_n hx hb dX12_state_36 rfl (lv_at hl 0 rfl) ?_
              refine lv_iload hx hb dX12_state_37 (lv_at hl 4 rfl) ?_
              refine z_Vi (bc := [[(mo, .inr (11, [.ref m_all, .ref m_has, .int i_size, .int i_next, .int i_where, .int i_token, .int i_number, .int i_word, .int i_wrong, .int i_farCrossing, .ref m_read, .int 610, .int j_crossings_2, .int j_inns_3, .ref m_posts, .ref m_shut, .ref m_here, .int j_steps_35, .int j_done_41, .int j_at_33, .int j_gone_34, .ref m_was, .ref m_came, .ref m_seenAt, .ref m_rowWorth, .ref m_farBy, .ref m_used, .int i_everywhere, .int i_again0, .int 712, .int j_never_38, .int j_firstCame_37, .int j_longRun_39, .int j_moved_36, .int j_crowd_40, .int i_l0, .int i_fitMany, .int i_fitLeast, .int i_fitMost, .ref m_fitPost, .ref m_fitEnd, .ref m_keptPosts, .int i_x0]))], [(m_posts, .inl (T.2 0, 7, .inl g_posts_42))], [(m_here, .inl (T.2 0, 7, .inl g_here_44))], [(m_shut, .inl (T.2 0, 7, .inl g_shut_43))]]) (br := [[(m_all, .inl (T.2 0, 3952, .inl f_all))], [(m_was, .inl (T.2 0, 7, .inl g_was_45))]]) (As := [.int w_]) (rest := []) C G (c_fm_nowOf l T mo m_all m_has i_size i_next i_where i_token i_number i_word i_wrong i_farCrossing m_read 610 j_crossings_2 j_inns_3 m_posts m_shut m_here j_steps_35 j_done_41 j_at_33 j_gone_34 m_was m_came m_seenAt m_rowWorth m_farBy m_used i_everywhere i_again0 712 j_never_38 j_firstCame_37 j_longRun_39 j_moved_36 j_crowd_40 i_l0 i_fitMany i_fitLeast i_fitMost m_fitPost m_fitEnd m_keptPosts i_x0 g_posts_42 g_here_44 g_shut_43 w_ (by first | with_reducible assumption | with_reducible rfl | omega | assumption | rfl)) (kV_RX12_354 C.2.2.2.2 (Nat.le_of_ble_eq_true rfl) (Nat.le_of_ble_eq_true rfl)) [0, 2, 4, 3] [1, 5] rfl rfl (ci := 11) (qc := (RX12, TX12, 43)) rfl rfl (List.mem_flatten.mpr ⟨_, List.mem_of_getElem? (i := 0) rfl, List.mem_cons_self⟩) rfl rfl hl.1 dX12_state_39 (Nat.le_of_ble_eq_true rfl) (Nat.le_of_ble_eq_true rfl) (fun r_54 b1 H locs hw G => ?_)
              obtain ⟨rfl, h_53⟩ := hw
              have G : zS T A s.heap s [[(m_all, .inl (T.2 0, 3952, .inl f_all))], [(m_was, .inl (T.2 0, 7, .inl g_was_45))], [(mo, .inr (11, [.ref m_all, .ref m_has, .int i_size, .int i_next, .int i_where, .int i_token, .int i_number, .int i_word, .int i_wrong, .int i_farCrossing, .ref m_read, .int 610, .int j_crossings_2, .int j_inns_3, .ref m_posts, .ref m_shut, .ref m_here, .int j_steps_35, .int j_done_41, .int j_at_33, .int j_gone_34, .ref m_was, .ref m_came, .ref m_seenAt, .ref m_rowWorth, .ref m_farBy, .ref m_used, .int i_everywhere, .int i_again0, .int 712, .int j_never_38, .int j_firstCame_37, .int j_longRun_39, .int j_moved_36, .int j_crowd_40, .int i_l0, .int i_fitMany, .int i_fitLeast, .int i_fitMost, .ref m_fitPost, .ref m_fitEnd, .ref m_keptPosts, .int i_x0]))], [(m_posts, .inl (T.2 0, 7, .inl g_posts_42))], [(m_here, .inl (T.2 0, 7, .inl g_here_44))], [(m_shut, .inl (T.2 0, 7, .inl g_shut_43))]] _ _ := G
              refine lv_goto (tgt := 47) hx hb dX12_state_42 (by decide) ?_
              have G := G.sub (bs' := [[(mo, .inr (11, [.ref m_all, .ref m_has, .int i_size, .int i_next, .int i_where, .int i_token, .int i_number, .int i_word, .int i_wrong, .int i_farCrossing, .ref m_read, .int 610, .int j_crossings_2, .int j_inns_3, .ref m_posts, .ref m_shut, .ref m_here, .int j_steps_35, .int j_done_41, .int j_at_33, .int j_gone_34, .ref m_was, .ref m_came, .ref m_seenAt, .ref m_rowWorth, .ref m_farBy, .ref m_used, .int i_everywhere, .int i_again0, .int 712, .int j_never_38, .int j_firstCame_37, .int j_longRun_39, .int j_moved_36, .int j_crowd_40, .int i_l0, .int i_fitMany, .int i_fitLeast, .int i_fitMost, .ref m_fitPost, .ref m_fitEnd, .ref m_keptPosts, .int i_x0]))], [(m_all, .inl (T.2 0, 3952, .inl f_all))], [(m_posts, .inl (T.2 0, 7, .inl g_posts_42))], [(m_shut, .inl (T.2 0, 7, .inl g_shut_43))], [(m_here, .inl (T.2 0, 7, .inl g_here_44))], [(m_was, .inl (T.2 0, 7, .inl g_was_45))]]) [2, 0, 3, 5, 4, 1] rfl
              exact z_iret C hr hlocks G (Nat.le_of_ble_eq_true rfl) (Nat.le_of_ble_eq_true rfl) dX12_state_47 ⟨610, j_crossings_2, j_inns_3, j_steps_35, j_done_41, j_at_33, j_gone_34, 712, j_never_38, j_firstCame_37, j_longRun_39, j_moved_36, j_crowd_40, g_posts_42, g_shut_43, g_here_44, g_was_45, rfl, (Or.inr (Or.inl ⟨⟨by assumption, by omega⟩, ⟨by assumption, by omega⟩, Or.inr ⟨by omega, g_posts_6, g_shut_7, g_here_8, ⟨zPt_o h_20, h_21, fun j hj => (h_22 j hj).trans rfl⟩, by rw [show pW f_all 610 = zWo f_all 610 j_inns_3 from congrArg (zWo f_all 610) h_17.symm]; rw [show f_all ((610 : Int32).toInt.toNat) = j_crossings_2 from hLx.2.1.symm, show f_all ((610 : Int32).toInt.toNat + 1) = j_inns_3 from h_17.symm]; have q8 := h_48; have q7 := h_49; rw [h_18] at q8 q7; exact Or.inr ⟨q8.symm.trans (by assumption), (h_53).trans (congrArg (fun D9 => zNow _ _ D9 w_) q7)⟩⟩⟩))⟩
          · have c_32n : ¬ (0 : Int) ≤ n_.toInt := fun q => c_32 ((fa_le _ _).mpr q)
            refine lv_bipush (v := (-2)) hx hb dX12_state_20 (by decide) ?_
            have G := G.sub (bs' := [[(mo, .inr (11, [.ref m_all, .ref m_has, .int i_size, .int i_next, .int i_where, .int i_token, .int i_number, .int i_word, .int i_wrong, .int i_farCrossing, .ref m_read, .int 610, .int j_crossings_2, .int j_inns_3, .ref m_posts, .ref m_shut, .ref m_here, .int j_steps_4, .int j_done_5, .int i_at, .int i_gone, .ref m_was, .ref m_came, .ref m_seenAt, .ref m_rowWorth, .ref m_farBy, .ref m_used, .int i_everywhere, .int i_again0, .int 712, .int i_never, .int i_firstCame, .int i_longRun, .int i_moved, .int i_crowd, .int i_l0, .int i_fitMany, .int i_fitLeast, .int i_fitMost, .ref m_fitPost, .ref m_fitEnd, .ref m_keptPosts, .int i_x0]))], [(m_all, .inl (T.2 0, 3952, .inl f_all))], [(m_posts, .inl (T.2 0, 7, .inl g_posts_6))], [(m_shut, .inl (T.2 0, 7, .inl g_shut_7))], [(m_here, .inl (T.2 0, 7, .inl g_here_8))], [(m_was, .inl (T.2 0, 7, .inl f_was))]]) [4, 5, 1, 2, 3, 0] rfl
            exact z_iret C hr hlocks G (Nat.le_of_ble_eq_true rfl) (Nat.le_of_ble_eq_true rfl) dX12_state_22 ⟨610, j_crossings_2, j_inns_3, j_steps_4, j_done_5, i_at, i_gone, 712, i_never, i_firstCame, i_longRun, i_moved, i_crowd, g_posts_6, g_shut_7, g_here_8, f_was, rfl, (Or.inr (Or.inl ⟨⟨by assumption, by omega⟩, ⟨by assumption, by omega⟩, Or.inl ⟨by omega, rfl⟩⟩))⟩
        · obtain rfl : j_d0_24 = 833 := Int32.toInt_inj.mp (by show j_d0_24.toInt = 833; omega)
          have hDv : zDyv f_all 833 := zVD_0 hVD 1 (by decide)
          refine lv_iload_n hx hb dX12_state_16 rfl (lv_at hl 3 rfl) ?_
          refine lv_if_ge (tgt := 23) hx hb dX12_state_17 (by decide) (fun c_55 => ?_) (fun c_55 => ?_)
          · have c_55n : (0 : Int) ≤ n_.toInt := (fa_le _ _).mp c_55
            refine lv_aload_n hx hb dX12_state_23 rfl (lv_at hl 0 rfl) ?_
            refine lv_iload_n hx hb dX12_state_24 rfl (lv_at hl 3 rfl) ?_
            refine z_Vv (bc := [[(mo, .inr (11, [.ref m_all, .ref m_has, .int i_size, .int i_next, .int i_where, .int i_token, .int i_number, .int i_word, .int i_wrong, .int i_farCrossing, .ref m_read, .int 610, .int j_crossings_2, .int j_inns_3, .ref m_posts, .ref m_shut, .ref m_here, .int j_steps_4, .int j_done_5, .int i_at, .int i_gone, .ref m_was, .ref m_came, .ref m_seenAt, .ref m_rowWorth, .ref m_farBy, .ref m_used, .int i_everywhere, .int i_again0, .int 833, .int i_never, .int i_firstCame, .int i_longRun, .int i_moved, .int i_crowd, .int i_l0, .int i_fitMany, .int i_fitLeast, .int i_fitMost, .ref m_fitPost, .ref m_fitEnd, .ref m_keptPosts, .int i_x0]))], [(m_all, .inl (T.2 0, 3952, .inl f_all))], [(m_posts, .inl (T.2 0, 7, .inl g_posts_6))], [(m_shut, .inl (T.2 0, 7, .inl g_shut_7))], [(m_here, .inl (T.2 0, 7, .inl g_here_8))], [(m_was, .inl (T.2 0, 7, .inl f_was))]]) (br := []) (As := [.int n_]) (rest := []) C G (c_fm_runs l T mo m_all m_has i_size i_next i_where i_token i_number i_word i_wrong i_farCrossing m_read 610 j_crossings_2 j_inns_3 m_posts m_shut m_here j_steps_4 j_done_5 i_at i_gone m_was m_came m_seenAt m_rowWorth m_farBy m_used i_everywhere i_again0 833 i_never i_firstCame i_longRun i_moved i_crowd i_l0 i_fitMany i_fitLeast i_fitMost m_fitPost m_fitEnd m_keptPosts i_x0 f_all g_posts_6 g_shut_7 g_here_8 f_was n_ (by first | with_reducible assumption | with_reducible rfl | omega | assumption | rfl) (by first | with_reducible assumption | with_reducible rfl | omega | assumption | rfl) hVx hD h_19 (zWk_b hLx h_22) (zS0_b h_21) hDv) (kV_RX12_348 C.2.2.2.2 (Nat.le_of_ble_eq_true rfl) (Nat.le_of_ble_eq_true rfl)) [4, 5, 1, 2, 3, 0] [] rfl rfl (ci := 11) (qc := (RX12, TX12, 43)) rfl rfl (List.mem_flatten.mpr ⟨_, List.mem_of_getElem? (i := 0) rfl, List.mem_cons_self⟩) rfl rfl hl.1 dX12_state_25 (Nat.le_of_ble_eq_true rfl) (Nat.le_of_ble_eq_true rfl) (fun b1 H locs hw G => ?_)
            obtain ⟨j_at_56, j_gone_57, j_steps_58, j_moved_59, j_firstCame_60, j_never_61, j_longRun_62, j_crowd_63, j_done_64, g_posts_65, g_shut_66, g_here_67, g_was_68, rfl, h_69, h_70, h_71, h_72, h_73⟩ := hw
            have G : zS T A s.heap s [[(mo, .inr (11, [.ref m_all, .ref m_has, .int i_size, .int i_next, .int i_where, .int i_token, .int i_number, .int i_word, .int i_wrong, .int i_farCrossing, .ref m_read, .int 610, .int j_crossings_2, .int j_inns_3, .ref m_posts, .ref m_shut, .ref m_here, .int j_steps_58, .int j_done_64, .int j_at_56, .int j_gone_57, .ref m_was, .ref m_came, .ref m_seenAt, .ref m_rowWorth, .ref m_farBy, .ref m_used, .int i_everywhere, .int i_again0, .int 833, .int j_never_61, .int j_firstCame_60, .int j_longRun_62, .int j_moved_59, .int j_crowd_63, .int i_l0, .int i_fitMany, .int i_fitLeast, .int i_fitMost, .ref m_fitPost, .ref m_fitEnd, .ref m_keptPosts, .int i_x0]))], [(m_all, .inl (T.2 0, 3952, .inl f_all))], [(m_posts, .inl (T.2 0, 7, .inl g_posts_65))], [(m_shut, .inl (T.2 0, 7, .inl g_shut_66))], [(m_here, .inl (T.2 0, 7, .inl g_here_67))], [(m_was, .inl (T.2 0, 7, .inl g_was_68))]] _ _ := G
            refine lv_aload_n hx hb dX12_state_28 rfl (lv_at hl 0 rfl) ?_
            refine z_get C G clX12 0 rfl 18 (by decide) m_fl_RX12_199 rfl dX12_state_29 ?_
            refine lv_iload_n hx hb dX12_state_32 rfl (lv_at hl 3 rfl) ?_
            refine lv_icmp_ne (tgt := 45) hx hb dX12_state_33 (by decide) (fun c_75 => ?_) (fun c_75 => ?_)
            · have c_75n : ¬ j_done_64.toInt = n_.toInt := fun q => c_75 ((fa_eq _ _).mpr q)
              refine lv_bipush (v := (-2)) hx hb dX12_state_45 (by decide) ?_
              exact z_iret C hr hlocks G (Nat.le_of_ble_eq_true rfl) (Nat.le_of_ble_eq_true rfl) dX12_state_47 ⟨610, j_crossings_2, j_inns_3, j_steps_58, j_done_64, j_at_56, j_gone_57, 833, j_never_61, j_firstCame_60, j_longRun_62, j_moved_59, j_crowd_63, g_posts_65, g_shut_66, g_here_67, g_was_68, rfl, (Or.inr (Or.inr (Or.inl ⟨⟨by assumption, by omega⟩, ⟨by assumption, by omega⟩, Or.inr ⟨by omega, g_posts_6, g_shut_7, g_here_8, ⟨zPt_o h_20, h_21, fun j hj => (h_22 j hj).trans rfl⟩, by rw [show pW f_all 610 = zWo f_all 610 j_inns_3 from congrArg (zWo f_all 610) h_17.symm]; rw [show f_all ((610 : Int32).toInt.toNat) = j_crossings_2 from hLx.2.1.symm, show f_all ((610 : Int32).toInt.toNat + 1) = j_inns_3 from h_17.symm]; have q8 := h_71; have q7 := h_72; rw [h_18] at q8 q7; exact Or.inl ⟨fun q9 => absurd (q8.trans q9) (by assumption), rfl⟩⟩⟩)))⟩
            · have c_75n : j_done_64.toInt = n_.toInt := (fa_eq _ _).mp c_75
              refine lv_aload_n hx hb dX12_state_36 rfl (lv_at hl 0 rfl) ?_
              refine lv_iload hx hb dX12_state_37 (lv_at hl 4 rfl) ?_
              refine z_Vi (bc := [[(mo, .inr (11, [.ref m_all, .ref m_has, .int i_size, .int i_next, .int i_where, .int i_token, .int i_number, .int i_word, .int i_wrong, .int i_farCrossing, .ref m_read, .int 610, .int j_crossings_2, .int j_inns_3, .ref m_posts, .ref m_shut, .ref m_here, .int j_steps_58, .int j_done_64, .int j_at_56, .int j_gone_57, .ref m_was, .ref m_came, .ref m_seenAt, .ref m_rowWorth, .ref m_farBy, .ref m_used, .int i_everywhere, .int i_again0, .int 833, .int j_never_61, .int j_firstCame_60, .int j_longRun_62, .int j_moved_59, .int j_crowd_63, .int i_l0, .int i_fitMany, .int i_fitLeast, .int i_fitMost, .ref m_fitPost, .ref m_fitEnd, .ref m_keptPosts, .int i_x0]))], [(m_posts, .inl (T.2 0, 7, .inl g_posts_65))], [(m_here, .inl (T.2 0, 7, .inl g_here_67))], [(m_shut, .inl (T.2 0, 7, .inl g_shut_66))]]) (br := [[(m_all, .inl (T.2 0, 3952, .inl f_all))], [(m_was, .inl (T.2 0, 7, .inl g_was_68))]]) (As := [.int w_]) (rest := []) C G (c_fm_nowOf l T mo m_all m_has i_size i_next i_where i_token i_number i_word i_wrong i_farCrossing m_read 610 j_crossings_2 j_inns_3 m_posts m_shut m_here j_steps_58 j_done_64 j_at_56 j_gone_57 m_was m_came m_seenAt m_rowWorth m_farBy m_used i_everywhere i_again0 833 j_never_61 j_firstCame_60 j_longRun_62 j_moved_59 j_crowd_63 i_l0 i_fitMany i_fitLeast i_fitMost m_fitPost m_fitEnd m_keptPosts i_x0 g_posts_65 g_here_67 g_shut_66 w_ (by first | with_reducible assumption | with_reducible rfl | omega | assumption | rfl)) (kV_RX12_354 C.2.2.2.2 (Nat.le_of_ble_eq_true rfl) (Nat.le_of_ble_eq_true rfl)) [0, 2, 4, 3] [1, 5] rfl rfl (ci := 11) (qc := (RX12, TX12, 43)) rfl rfl (List.mem_flatten.mpr ⟨_, List.mem_of_getElem? (i := 0) rfl, List.mem_cons_self⟩) rfl rfl hl.1 dX12_state_39 (Nat.le_of_ble_eq_true rfl) (Nat.le_of_ble_eq_true rfl) (fun r_77 b1 H locs hw G => ?_)
              obtain ⟨rfl, h_76⟩ := hw
              have G : zS T A s.heap s [[(m_all, .inl (T.2 0, 3952, .inl f_all))], [(m_was, .inl (T.2 0, 7, .inl g_was_68))], [(mo, .inr (11, [.ref m_all, .ref m_has, .int i_size, .int i_next, .int i_where, .int i_token, .int i_number, .int i_word, .int i_wrong, .int i_farCrossing, .ref m_read, .int 610, .int j_crossings_2, .int j_inns_3, .ref m_posts, .ref m_shut, .ref m_here, .int j_steps_58, .int j_done_64, .int j_at_56, .int j_gone_57, .ref m_was, .ref m_came, .ref m_seenAt, .ref m_rowWorth, .ref m_farBy, .ref m_used, .int i_everywhere, .int i_again0, .int 833, .int j_never_61, .int j_firstCame_60, .int j_longRun_62, .int j_moved_59, .int j_crowd_63, .int i_l0, .int i_fitMany, .int i_fitLeast, .int i_fitMost, .ref m_fitPost, .ref m_fitEnd, .ref m_keptPosts, .int i_x0]))], [(m_posts, .inl (T.2 0, 7, .inl g_posts_65))], [(m_here, .inl (T.2 0, 7, .inl g_here_67))], [(m_shut, .inl (T.2 0, 7, .inl g_shut_66))]] _ _ := G
              refine lv_goto (tgt := 47) hx hb dX12_state_42 (by decide) ?_
              have G := G.sub (bs' := [[(mo, .inr (11, [.ref m_all, .ref m_has, .int i_size, .int i_next, .int i_where, .int i_token, .int i_number, .int i_word, .int i_wrong, .int i_farCrossing, .ref m_read, .int 610, .int j_crossings_2, .int j_inns_3, .ref m_posts, .ref m_shut, .ref m_here, .int j_steps_58, .int j_done_64, .int j_at_56, .int j_gone_57, .ref m_was, .ref m_came, .ref m_seenAt, .ref m_rowWorth, .ref m_farBy, .ref m_used, .int i_everywhere, .int i_again0, .int 833, .int j_never_61, .int j_firstCame_60, .int j_longRun_62, .int j_moved_59, .int j_crowd_63, .int i_l0, .int i_fitMany, .int i_fitLeast, .int i_fitMost, .ref m_fitPost, .ref m_fitEnd, .ref m_keptPosts, .int i_x0]))], [(m_all, .inl (T.2 0, 3952, .inl f_all))], [(m_posts, .inl (T.2 0, 7, .inl g_posts_65))], [(m_shut, .inl (T.2 0, 7, .inl g_shut_66))], [(m_here, .inl (T.2 0, 7, .inl g_here_67))], [(m_was, .inl (T.2 0, 7, .inl g_was_68))]]) [2, 0, 3, 5, 4, 1] rfl
              exact z_iret C hr hlocks G (Nat.le_of_ble_eq_true rfl) (Nat.le_of_ble_eq_true rfl) dX12_state_47 ⟨610, j_crossings_2, j_inns_3, j_steps_58, j_done_64, j_at_56, j_gone_57, 833, j_never_61, j_firstCame_60, j_longRun_62, j_moved_59, j_crowd_63, g_posts_65, g_shut_66, g_here_67, g_was_68, rfl, (Or.inr (Or.inr (Or.inl ⟨⟨by assumption, by omega⟩, ⟨by assumption, by omega⟩, Or.inr ⟨by omega, g_posts_6, g_shut_7, g_here_8, ⟨zPt_o h_20, h_21, fun j hj => (h_22 j hj).trans rfl⟩, by rw [show pW f_all 610 = zWo f_all 610 j_inns_3 from congrArg (zWo f_all 610) h_17.symm]; rw [show f_all ((610 : Int32).toInt.toNat) = j_crossings_2 from hLx.2.1.symm, show f_all ((610 : Int32).toInt.toNat + 1) = j_inns_3 from h_17.symm]; have q8 := h_71; have q7 := h_72; rw [h_18] at q8 q7; exact Or.inr ⟨q8.symm.trans (by assumption), (h_76).trans (congrArg (fun D9 => zNow _ _ D9 w_) q7)⟩⟩⟩)))⟩
          · have c_55n : ¬ (0 : Int) ≤ n_.toInt := fun q => c_55 ((fa_le _ _).mpr q)
            refine lv_bipush (v := (-2)) hx hb dX12_state_20 (by decide) ?_
            have G := G.sub (bs' := [[(mo, .inr (11, [.ref m_all, .ref m_has, .int i_size, .int i_next, .int i_where, .int i_token, .int i_number, .int i_word, .int i_wrong, .int i_farCrossing, .ref m_read, .int 610, .int j_crossings_2, .int j_inns_3, .ref m_posts, .ref m_shut, .ref m_here, .int j_steps_4, .int j_done_5, .int i_at, .int i_gone, .ref m_was, .ref m_came, .ref m_seenAt, .ref m_rowWorth, .ref m_farBy, .ref m_used, .int i_everywhere, .int i_again0, .int 833, .int i_never, .int i_firstCame, .int i_longRun, .int i_moved, .int i_crowd, .int i_l0, .int i_fitMany, .int i_fitLeast, .int i_fitMost, .ref m_fitPost, .ref m_fitEnd, .ref m_keptPosts, .int i_x0]))], [(m_all, .inl (T.2 0, 3952, .inl f_all))], [(m_posts, .inl (T.2 0, 7, .inl g_posts_6))], [(m_shut, .inl (T.2 0, 7, .inl g_shut_7))], [(m_here, .inl (T.2 0, 7, .inl g_here_8))], [(m_was, .inl (T.2 0, 7, .inl f_was))]]) [4, 5, 1, 2, 3, 0] rfl
            exact z_iret C hr hlocks G (Nat.le_of_ble_eq_true rfl) (Nat.le_of_ble_eq_true rfl) dX12_state_22 ⟨610, j_crossings_2, j_inns_3, j_steps_4, j_done_5, i_at, i_gone, 833, i_never, i_firstCame, i_longRun, i_moved, i_crowd, g_posts_6, g_shut_7, g_here_8, f_was, rfl, (Or.inr (Or.inr (Or.inl ⟨⟨by assumption, by omega⟩, ⟨by assumption, by omega⟩, Or.inl ⟨by omega, rfl⟩⟩)))⟩
      · have h_31 : (k_.toInt < 0 ∨ (f_all 1).toInt ≤ k_.toInt) := h_31
        refine lv_if_eq (tgt := 20) hx hb dX12_state_13 (by decide) (fun _ => ?_) (fun q => absurd (by decide) q)
        refine lv_bipush (v := (-2)) hx hb dX12_state_20 (by decide) ?_
        have G := G.sub (bs' := [[(mo, .inr (11, [.ref m_all, .ref m_has, .int i_size, .int i_next, .int i_where, .int i_token, .int i_number, .int i_word, .int i_wrong, .int i_farCrossing, .ref m_read, .int 610, .int j_crossings_2, .int j_inns_3, .ref m_posts, .ref m_shut, .ref m_here, .int j_steps_4, .int j_done_5, .int i_at, .int i_gone, .ref m_was, .ref m_came, .ref m_seenAt, .ref m_rowWorth, .ref m_farBy, .ref m_used, .int i_everywhere, .int i_again0, .int j_d0_24, .int i_never, .int i_firstCame, .int i_longRun, .int i_moved, .int i_crowd, .int i_l0, .int i_fitMany, .int i_fitLeast, .int i_fitMost, .ref m_fitPost, .ref m_fitEnd, .ref m_keptPosts, .int i_x0]))], [(m_all, .inl (T.2 0, 3952, .inl f_all))], [(m_posts, .inl (T.2 0, 7, .inl g_posts_6))], [(m_shut, .inl (T.2 0, 7, .inl g_shut_7))], [(m_here, .inl (T.2 0, 7, .inl g_here_8))], [(m_was, .inl (T.2 0, 7, .inl f_was))]]) [4, 5, 1, 2, 3, 0] rfl
        exact z_iret C hr hlocks G (Nat.le_of_ble_eq_true rfl) (Nat.le_of_ble_eq_true rfl) dX12_state_22 ⟨610, j_crossings_2, j_inns_3, j_steps_4, j_done_5, i_at, i_gone, j_d0_24, i_never, i_firstCame, i_longRun, i_moved, i_crowd, g_posts_6, g_shut_7, g_here_8, f_was, rfl, (Or.inl ⟨Or.inr (by assumption), rfl⟩)⟩
    · obtain rfl : j_z0_1 = 661 := Int32.toInt_inj.mp (by show j_z0_1.toInt = 661; omega)
      have hcx : j_crossings_2.toInt = (f_all 661).toInt := by rw [hLx.2.1]; rfl
      have hQP : zP3 g_posts_6 (zWo f_all 661 j_inns_3) := zP3_m hLx hPx
      refine lv_aload_n hx hb dX12_state_8 rfl (lv_at hl 0 rfl) ?_
      refine lv_iload_n hx hb dX12_state_9 rfl (lv_at hl 2 rfl) ?_
      refine z_Vi (bc := [[(mo, .inr (11, [.ref m_all, .ref m_has, .int i_size, .int i_next, .int i_where, .int i_token, .int i_number, .int i_word, .int i_wrong, .int i_farCrossing, .ref m_read, .int 661, .int j_crossings_2, .int j_inns_3, .ref m_posts, .ref m_shut, .ref m_here, .int j_steps_4, .int j_done_5, .int i_at, .int i_gone, .ref m_was, .ref m_came, .ref m_seenAt, .ref m_rowWorth, .ref m_farBy, .ref m_used, .int i_everywhere, .int i_again0, .int i_d0, .int i_never, .int i_firstCame, .int i_longRun, .int i_moved, .int i_crowd, .int i_l0, .int i_fitMany, .int i_fitLeast, .int i_fitMost, .ref m_fitPost, .ref m_fitEnd, .ref m_keptPosts, .int i_x0]))], [(m_all, .inl (T.2 0, 3952, .inl f_all))]]) (br := [[(m_was, .inl (T.2 0, 7, .inl f_was))], [(m_posts, .inl (T.2 0, 7, .inl g_posts_6))], [(m_shut, .inl (T.2 0, 7, .inl g_shut_7))], [(m_here, .inl (T.2 0, 7, .inl g_here_8))]]) (As := [.int k_]) (rest := []) C G (c_m_isDay l T mo m_all m_has i_size i_next i_where i_token i_number i_word i_wrong i_farCrossing m_read 661 j_crossings_2 j_inns_3 m_posts m_shut m_here j_steps_4 j_done_5 i_at i_gone m_was m_came m_seenAt m_rowWorth m_farBy m_used i_everywhere i_again0 i_d0 i_never i_firstCame i_longRun i_moved i_crowd i_l0 i_fitMany i_fitLeast i_fitMost m_fitPost m_fitEnd m_keptPosts i_x0 f_all k_ (by first | with_reducible assumption | with_reducible rfl | omega | assumption | rfl)) (kV_RX12_305 C.2.2.2.2 (Nat.le_of_ble_eq_true rfl) (Nat.le_of_ble_eq_true rfl)) [1, 2] [0, 3, 4, 5] rfl rfl (ci := 11) (qc := (RX12, TX12, 43)) rfl rfl (List.mem_flatten.mpr ⟨_, List.mem_of_getElem? (i := 0) rfl, List.mem_cons_self⟩) rfl rfl hl.1 dX12_state_10 (Nat.le_of_ble_eq_true rfl) (Nat.le_of_ble_eq_true rfl) (fun r_80 b1 H locs hw G => ?_)
      obtain ⟨j_d0_78, rfl, hc_79⟩ := hw
      have G : zS T A s.heap s [[(m_was, .inl (T.2 0, 7, .inl f_was))], [(m_posts, .inl (T.2 0, 7, .inl g_posts_6))], [(m_shut, .inl (T.2 0, 7, .inl g_shut_7))], [(m_here, .inl (T.2 0, 7, .inl g_here_8))], [(mo, .inr (11, [.ref m_all, .ref m_has, .int i_size, .int i_next, .int i_where, .int i_token, .int i_number, .int i_word, .int i_wrong, .int i_farCrossing, .ref m_read, .int 661, .int j_crossings_2, .int j_inns_3, .ref m_posts, .ref m_shut, .ref m_here, .int j_steps_4, .int j_done_5, .int i_at, .int i_gone, .ref m_was, .ref m_came, .ref m_seenAt, .ref m_rowWorth, .ref m_farBy, .ref m_used, .int i_everywhere, .int i_again0, .int j_d0_78, .int i_never, .int i_firstCame, .int i_longRun, .int i_moved, .int i_crowd, .int i_l0, .int i_fitMany, .int i_fitLeast, .int i_fitMost, .ref m_fitPost, .ref m_fitEnd, .ref m_keptPosts, .int i_x0]))], [(m_all, .inl (T.2 0, 3952, .inl f_all))]] _ _ := G
      rcases hc_79 with ⟨rfl, h_81, h_82, h_83, h_84⟩ | ⟨rfl, h_85⟩
      · have h_81 : 0 ≤ k_.toInt := h_81
        have h_82 : k_.toInt < (f_all 1).toInt := h_82
        have h_83 : j_d0_78.toInt = 712 + 121 * k_.toInt := h_83
        have h_84 : zMD f_all j_d0_78 := h_84
        have hD := h_84
        have hDa := hD.1
        have hDb := hD.2
        refine lv_if_eq (tgt := 20) hx hb dX12_state_13 (by decide) (fun q => absurd q (by decide)) (fun _ => ?_)
        rcases (show k_.toInt = 0 ∨ k_.toInt = 1 from by have hq9 := hB.2.1 1 (by decide); omega) with hkd | hkd
        · obtain rfl : j_d0_78 = 712 := Int32.toInt_inj.mp (by show j_d0_78.toInt = 712; omega)
          have hDv : zDyv f_all 712 := zVD_0 hVD 0 (by decide)
          refine lv_iload_n hx hb dX12_state_16 rfl (lv_at hl 3 rfl) ?_
          refine lv_if_ge (tgt := 23) hx hb dX12_state_17 (by decide) (fun c_86 => ?_) (fun c_86 => ?_)
          · have c_86n : (0 : Int) ≤ n_.toInt := (fa_le _ _).mp c_86
            refine lv_aload_n hx hb dX12_state_23 rfl (lv_at hl 0 rfl) ?_
            refine lv_iload_n hx hb dX12_state_24 rfl (lv_at hl 3 rfl) ?_
            refine z_Vv (bc := [[(mo, .inr (11, [.ref m_all, .ref m_has, .int i_size, .int i_next, .int i_where, .int i_token, .int i_number, .int i_word, .int i_wrong, .int i_farCrossing, .ref m_read, .int 661, .int j_crossings_2, .int j_inns_3, .ref m_posts, .ref m_shut, .ref m_here, .int j_steps_4, .int j_done_5, .int i_at, .int i_gone, .ref m_was, .ref m_came, .ref m_seenAt, .ref m_rowWorth, .ref m_farBy, .ref m_used, .int i_everywhere, .int i_again0, .int 712, .int i_never, .int i_firstCame, .int i_longRun, .int i_moved, .int i_crowd, .int i_l0, .int i_fitMany, .int i_fitLeast, .int i_fitMost, .ref m_fitPost, .ref m_fitEnd, .ref m_keptPosts, .int i_x0]))], [(m_all, .inl (T.2 0, 3952, .inl f_all))], [(m_posts, .inl (T.2 0, 7, .inl g_posts_6))], [(m_shut, .inl (T.2 0, 7, .inl g_shut_7))], [(m_here, .inl (T.2 0, 7, .inl g_here_8))], [(m_was, .inl (T.2 0, 7, .inl f_was))]]) (br := []) (As := [.int n_]) (rest := []) C G (c_fm_runs l T mo m_all m_has i_size i_next i_where i_token i_number i_word i_wrong i_farCrossing m_read 661 j_crossings_2 j_inns_3 m_posts m_shut m_here j_steps_4 j_done_5 i_at i_gone m_was m_came m_seenAt m_rowWorth m_farBy m_used i_everywhere i_again0 712 i_never i_firstCame i_longRun i_moved i_crowd i_l0 i_fitMany i_fitLeast i_fitMost m_fitPost m_fitEnd m_keptPosts i_x0 f_all g_posts_6 g_shut_7 g_here_8 f_was n_ (by first | with_reducible assumption | with_reducible rfl | omega | assumption | rfl) (by first | with_reducible assumption | with_reducible rfl | omega | assumption | rfl) hVx hD h_19 (zWk_b hLx h_22) (zS0_b h_21) hDv) (kV_RX12_348 C.2.2.2.2 (Nat.le_of_ble_eq_true rfl) (Nat.le_of_ble_eq_true rfl)) [4, 5, 1, 2, 3, 0] [] rfl rfl (ci := 11) (qc := (RX12, TX12, 43)) rfl rfl (List.mem_flatten.mpr ⟨_, List.mem_of_getElem? (i := 0) rfl, List.mem_cons_self⟩) rfl rfl hl.1 dX12_state_25 (Nat.le_of_ble_eq_true rfl) (Nat.le_of_ble_eq_true rfl) (fun b1 H locs hw G => ?_)
            obtain ⟨j_at_87, j_gone_88, j_steps_89, j_moved_90, j_firstCame_91, j_never_92, j_longRun_93, j_crowd_94, j_done_95, g_posts_96, g_shut_97, g_here_98, g_was_99, rfl, h_100, h_101, h_102, h_103, h_104⟩ := hw
            have G : zS T A s.heap s [[(mo, .inr (11, [.ref m_all, .ref m_has, .int i_size, .int i_next, .int i_where, .int i_token, .int i_number, .int i_word, .int i_wrong, .int i_farCrossing, .ref m_read, .int 661, .int j_crossings_2, .int j_inns_3, .ref m_posts, .ref m_shut, .ref m_here, .int j_steps_89, .int j_done_95, .int j_at_87, .int j_gone_88, .ref m_was, .ref m_came, .ref m_seenAt, .ref m_rowWorth, .ref m_farBy, .ref m_used, .int i_everywhere, .int i_again0, .int 712, .int j_never_92, .int j_firstCame_91, .int j_longRun_93, .int j_moved_90, .int j_crowd_94, .int i_l0, .int i_fitMany, .int i_fitLeast, .int i_fitMost, .ref m_fitPost, .ref m_fitEnd, .ref m_keptPosts, .int i_x0]))], [(m_all, .inl (T.2 0, 3952, .inl f_all))], [(m_posts, .inl (T.2 0, 7, .inl g_posts_96))], [(m_shut, .inl (T.2 0, 7, .inl g_shut_97))], [(m_here, .inl (T.2 0, 7, .inl g_here_98))], [(m_was, .inl (T.2 0, 7, .inl g_was_99))]] _ _ := G
            refine lv_aload_n hx hb dX12_state_28 rfl (lv_at hl 0 rfl) ?_
            refine z_get C G clX12 0 rfl 18 (by decide) m_fl_RX12_199 rfl dX12_state_29 ?_
            refine lv_iload_n hx hb dX12_state_32 rfl (lv_at hl 3 rfl) ?_
            refine lv_icmp_ne (tgt := 45) hx hb dX12_state_33 (by decide) (fun c_106 => ?_) (fun c_106 => ?_)
            · have c_106n : ¬ j_done_95.toInt = n_.toInt := fun q => c_106 ((fa_eq _ _).mpr q)
              refine lv_bipush (v := (-2)) hx hb dX12_state_45 (by decide) ?_
              exact z_iret C hr hlocks G (Nat.le_of_ble_eq_true rfl) (Nat.le_of_ble_eq_true rfl) dX12_state_47 ⟨661, j_crossings_2, j_inns_3, j_steps_89, j_done_95, j_at_87, j_gone_88, 712, j_never_92, j_firstCame_91, j_longRun_93, j_moved_90, j_crowd_94, g_posts_96, g_shut_97, g_here_98, g_was_99, rfl, (Or.inr (Or.inr (Or.inr (Or.inl ⟨⟨by assumption, by omega⟩, ⟨by assumption, by omega⟩, Or.inr ⟨by omega, g_posts_6, g_shut_7, g_here_8, ⟨zPt_o h_20, h_21, fun j hj => (h_22 j hj).trans rfl⟩, by rw [show pW f_all 661 = zWo f_all 661 j_inns_3 from congrArg (zWo f_all 661) h_17.symm]; rw [show f_all ((661 : Int32).toInt.toNat) = j_crossings_2 from hLx.2.1.symm, show f_all ((661 : Int32).toInt.toNat + 1) = j_inns_3 from h_17.symm]; have q8 := h_102; have q7 := h_103; rw [h_18] at q8 q7; exact Or.inl ⟨fun q9 => absurd (q8.trans q9) (by assumption), rfl⟩⟩⟩))))⟩
            · have c_106n : j_done_95.toInt = n_.toInt := (fa_eq _ _).mp c_106
              refine lv_aload_n hx hb dX12_state_36 rfl (lv_at hl 0 rfl) ?_
              refine lv_iload hx hb dX12_state_37 (lv_at hl 4 rfl) ?_
              refine z_Vi (bc := [[(mo, .inr (11, [.ref m_all, .ref m_has, .int i_size, .int i_next, .int i_where, .int i_token, .int i_number, .int i_word, .int i_wrong, .int i_farCrossing, .ref m_read, .int 661, .int j_crossings_2, .int j_inns_3, .ref m_posts, .ref m_shut, .ref m_here, .int j_steps_89, .int j_done_95, .int j_at_87, .int j_gone_88, .ref m_was, .ref m_came, .ref m_seenAt, .ref m_rowWorth, .ref m_farBy, .ref m_used, .int i_everywhere, .int i_again0, .int 712, .int j_never_92, .int j_firstCame_91, .int j_longRun_93, .int j_moved_90, .int j_crowd_94, .int i_l0, .int i_fitMany, .int i_fitLeast, .int i_fitMost, .ref m_fitPost, .ref m_fitEnd, .ref m_keptPosts, .int i_x0]))], [(m_posts, .inl (T.2 0, 7, .inl g_posts_96))], [(m_here, .inl (T.2 0, 7, .inl g_here_98))], [(m_shut, .inl (T.2 0, 7, .inl g_shut_97))]]) (br := [[(m_all, .inl (T.2 0, 3952, .inl f_all))], [(m_was, .inl (T.2 0, 7, .inl g_was_99))]]) (As := [.int w_]) (rest := []) C G (c_fm_nowOf l T mo m_all m_has i_size i_next i_where i_token i_number i_word i_wrong i_farCrossing m_read 661 j_crossings_2 j_inns_3 m_posts m_shut m_here j_steps_89 j_done_95 j_at_87 j_gone_88 m_was m_came m_seenAt m_rowWorth m_farBy m_used i_everywhere i_again0 712 j_never_92 j_firstCame_91 j_longRun_93 j_moved_90 j_crowd_94 i_l0 i_fitMany i_fitLeast i_fitMost m_fitPost m_fitEnd m_keptPosts i_x0 g_posts_96 g_here_98 g_shut_97 w_ (by first | with_reducible assumption | with_reducible rfl | omega | assumption | rfl)) (kV_RX12_354 C.2.2.2.2 (Nat.le_of_ble_eq_true rfl) (Nat.le_of_ble_eq_true rfl)) [0, 2, 4, 3] [1, 5] rfl rfl (ci := 11) (qc := (RX12, TX12, 43)) rfl rfl (List.mem_flatten.mpr ⟨_, List.mem_of_getElem? (i := 0) rfl, List.mem_cons_self⟩) rfl rfl hl.1 dX12_state_39 (Nat.le_of_ble_eq_true rfl) (Nat.le_of_ble_eq_true rfl) (fun r_108 b1 H locs hw G => ?_)
              obtain ⟨rfl, h_107⟩ := hw
              have G : zS T A s.heap s [[(m_all, .inl (T.2 0, 3952, .inl f_all))], [(m_was, .inl (T.2 0, 7, .inl g_was_99))], [(mo, .inr (11, [.ref m_all, .ref m_has, .int i_size, .int i_next, .int i_where, .int i_token, .int i_number, .int i_word, .int i_wrong, .int i_farCrossing, .ref m_read, .int 661, .int j_crossings_2, .int j_inns_3, .ref m_posts, .ref m_shut, .ref m_here, .int j_steps_89, .int j_done_95, .int j_at_87, .int j_gone_88, .ref m_was, .ref m_came, .ref m_seenAt, .ref m_rowWorth, .ref m_farBy, .ref m_used, .int i_everywhere, .int i_again0, .int 712, .int j_never_92, .int j_firstCame_91, .int j_longRun_93, .int j_moved_90, .int j_crowd_94, .int i_l0, .int i_fitMany, .int i_fitLeast, .int i_fitMost, .ref m_fitPost, .ref m_fitEnd, .ref m_keptPosts, .int i_x0]))], [(m_posts, .inl (T.2 0, 7, .inl g_posts_96))], [(m_here, .inl (T.2 0, 7, .inl g_here_98))], [(m_shut, .inl (T.2 0, 7, .inl g_shut_97))]] _ _ := G
              refine lv_goto (tgt := 47) hx hb dX12_state_42 (by decide) ?_
              have G := G.sub (bs' := [[(mo, .inr (11, [.ref m_all, .ref m_has, .int i_size, .int i_next, .int i_where, .int i_token, .int i_number, .int i_word, .int i_wrong, .int i_farCrossing, .ref m_read, .int 661, .int j_crossings_2, .int j_inns_3, .ref m_posts, .ref m_shut, .ref m_here, .int j_steps_89, .int j_done_95, .int j_at_87, .int j_gone_88, .ref m_was, .ref m_came, .ref m_seenAt, .ref m_rowWorth, .ref m_farBy, .ref m_used, .int i_everywhere, .int i_again0, .int 712, .int j_never_92, .int j_firstCame_91, .int j_longRun_93, .int j_moved_90, .int j_crowd_94, .int i_l0, .int i_fitMany, .int i_fitLeast, .int i_fitMost, .ref m_fitPost, .ref m_fitEnd, .ref m_keptPosts, .int i_x0]))], [(m_all, .inl (T.2 0, 3952, .inl f_all))], [(m_posts, .inl (T.2 0, 7, .inl g_posts_96))], [(m_shut, .inl (T.2 0, 7, .inl g_shut_97))], [(m_here, .inl (T.2 0, 7, .inl g_here_98))], [(m_was, .inl (T.2 0, 7, .inl g_was_99))]]) [2, 0, 3, 5, 4, 1] rfl
              exact z_iret C hr hlocks G (Nat.le_of_ble_eq_true rfl) (Nat.le_of_ble_eq_true rfl) dX12_state_47 ⟨661, j_crossings_2, j_inns_3, j_steps_89, j_done_95, j_at_87, j_gone_88, 712, j_never_92, j_firstCame_91, j_longRun_93, j_moved_90, j_crowd_94, g_posts_96, g_shut_97, g_here_98, g_was_99, rfl, (Or.inr (Or.inr (Or.inr (Or.inl ⟨⟨by assumption, by omega⟩, ⟨by assumption, by omega⟩, Or.inr ⟨by omega, g_posts_6, g_shut_7, g_here_8, ⟨zPt_o h_20, h_21, fun j hj => (h_22 j hj).trans rfl⟩, by rw [show pW f_all 661 = zWo f_all 661 j_inns_3 from congrArg (zWo f_all 661) h_17.symm]; rw [show f_all ((661 : Int32).toInt.toNat) = j_crossings_2 from hLx.2.1.symm, show f_all ((661 : Int32).toInt.toNat + 1) = j_inns_3 from h_17.symm]; have q8 := h_102; have q7 := h_103; rw [h_18] at q8 q7; exact Or.inr ⟨q8.symm.trans (by assumption), (h_107).trans (congrArg (fun D9 => zNow _ _ D9 w_) q7)⟩⟩⟩))))⟩
          · have c_86n : ¬ (0 : Int) ≤ n_.toInt := fun q => c_86 ((fa_le _ _).mpr q)
            refine lv_bipush (v := (-2)) hx hb dX12_state_20 (by decide) ?_
            have G := G.sub (bs' := [[(mo, .inr (11, [.ref m_all, .ref m_has, .int i_size, .int i_next, .int i_where, .int i_token, .int i_number, .int i_word, .int i_wrong, .int i_farCrossing, .ref m_read, .int 661, .int j_crossings_2, .int j_inns_3, .ref m_posts, .ref m_shut, .ref m_here, .int j_steps_4, .int j_done_5, .int i_at, .int i_gone, .ref m_was, .ref m_came, .ref m_seenAt, .ref m_rowWorth, .ref m_farBy, .ref m_used, .int i_everywhere, .int i_again0, .int 712, .int i_never, .int i_firstCame, .int i_longRun, .int i_moved, .int i_crowd, .int i_l0, .int i_fitMany, .int i_fitLeast, .int i_fitMost, .ref m_fitPost, .ref m_fitEnd, .ref m_keptPosts, .int i_x0]))], [(m_all, .inl (T.2 0, 3952, .inl f_all))], [(m_posts, .inl (T.2 0, 7, .inl g_posts_6))], [(m_shut, .inl (T.2 0, 7, .inl g_shut_7))], [(m_here, .inl (T.2 0, 7, .inl g_here_8))], [(m_was, .inl (T.2 0, 7, .inl f_was))]]) [4, 5, 1, 2, 3, 0] rfl
            exact z_iret C hr hlocks G (Nat.le_of_ble_eq_true rfl) (Nat.le_of_ble_eq_true rfl) dX12_state_22 ⟨661, j_crossings_2, j_inns_3, j_steps_4, j_done_5, i_at, i_gone, 712, i_never, i_firstCame, i_longRun, i_moved, i_crowd, g_posts_6, g_shut_7, g_here_8, f_was, rfl, (Or.inr (Or.inr (Or.inr (Or.inl ⟨⟨by assumption, by omega⟩, ⟨by assumption, by omega⟩, Or.inl ⟨by omega, rfl⟩⟩))))⟩
        · obtain rfl : j_d0_78 = 833 := Int32.toInt_inj.mp (by show j_d0_78.toInt = 833; omega)
          have hDv : zDyv f_all 833 := zVD_0 hVD 1 (by decide)
          refine lv_iload_n hx hb dX12_state_16 rfl (lv_at hl 3 rfl) ?_
          refine lv_if_ge (tgt := 23) hx hb dX12_state_17 (by decide) (fun c_109 => ?_) (fun c_109 => ?_)
          · have c_109n : (0 : Int) ≤ n_.toInt := (fa_le _ _).mp c_109
            refine lv_aload_n hx hb dX12_state_23 rfl (lv_at hl 0 rfl) ?_
            refine lv_iload_n hx hb dX12_state_24 rfl (lv_at hl 3 rfl) ?_
            refine z_Vv (bc := [[(mo, .inr (11, [.ref m_all, .ref m_has, .int i_size, .int i_next, .int i_where, .int i_token, .int i_number, .int i_word, .int i_wrong, .int i_farCrossing, .ref m_read, .int 661, .int j_crossings_2, .int j_inns_3, .ref m_posts, .ref m_shut, .ref m_here, .int j_steps_4, .int j_done_5, .int i_at, .int i_gone, .ref m_was, .ref m_came, .ref m_seenAt, .ref m_rowWorth, .ref m_farBy, .ref m_used, .int i_everywhere, .int i_again0, .int 833, .int i_never, .int i_firstCame, .int i_longRun, .int i_moved, .int i_crowd, .int i_l0, .int i_fitMany, .int i_fitLeast, .int i_fitMost, .ref m_fitPost, .ref m_fitEnd, .ref m_keptPosts, .int i_x0]))], [(m_all, .inl (T.2 0, 3952, .inl f_all))], [(m_posts, .inl (T.2 0, 7, .inl g_posts_6))], [(m_shut, .inl (T.2 0, 7, .inl g_shut_7))], [(m_here, .inl (T.2 0, 7, .inl g_here_8))], [(m_was, .inl (T.2 0, 7, .inl f_was))]]) (br := []) (As := [.int n_]) (rest := []) C G (c_fm_runs l T mo m_all m_has i_size i_next i_where i_token i_number i_word i_wrong i_farCrossing m_read 661 j_crossings_2 j_inns_3 m_posts m_shut m_here j_steps_4 j_done_5 i_at i_gone m_was m_came m_seenAt m_rowWorth m_farBy m_used i_everywhere i_again0 833 i_never i_firstCame i_longRun i_moved i_crowd i_l0 i_fitMany i_fitLeast i_fitMost m_fitPost m_fitEnd m_keptPosts i_x0 f_all g_posts_6 g_shut_7 g_here_8 f_was n_ (by first | with_reducible assumption | with_reducible rfl | omega | assumption | rfl) (by first | with_reducible assumption | with_reducible rfl | omega | assumption | rfl) hVx hD h_19 (zWk_b hLx h_22) (zS0_b h_21) hDv) (kV_RX12_348 C.2.2.2.2 (Nat.le_of_ble_eq_true rfl) (Nat.le_of_ble_eq_true rfl)) [4, 5, 1, 2, 3, 0] [] rfl rfl (ci := 11) (qc := (RX12, TX12, 43)) rfl rfl (List.mem_flatten.mpr ⟨_, List.mem_of_getElem? (i := 0) rfl, List.mem_cons_self⟩) rfl rfl hl.1 dX12_state_25 (Nat.le_of_ble_eq_true rfl) (Nat.le_of_ble_eq_true rfl) (fun b1 H locs hw G => ?_)
            obtain ⟨j_at_110, j_gone_111, j_steps_112, j_moved_113, j_firstCame_114, j_never_115, j_longRun_116, j_crowd_117, j_done_118, g_posts_119, g_shut_120, g_here_121, g_was_122, rfl, h_123, h_124, h_125, h_126, h_127⟩ := hw
            have G : zS T A s.heap s [[(mo, .inr (11, [.ref m_all, .ref m_has, .int i_size, .int i_next, .int i_where, .int i_token, .int i_number, .int i_word, .int i_wrong, .int i_farCrossing, .ref m_read, .int 661, .int j_crossings_2, .int j_inns_3, .ref m_posts, .ref m_shut, .ref m_here, .int j_steps_112, .int j_done_118, .int j_at_110, .int j_gone_111, .ref m_was, .ref m_came, .ref m_seenAt, .ref m_rowWorth, .ref m_farBy, .ref m_used, .int i_everywhere, .int i_again0, .int 833, .int j_never_115, .int j_firstCame_114, .int j_longRun_116, .int j_moved_113, .int j_crowd_117, .int i_l0, .int i_fitMany, .int i_fitLeast, .int i_fitMost, .ref m_fitPost, .ref m_fitEnd, .ref m_keptPosts, .int i_x0]))], [(m_all, .inl (T.2 0, 3952, .inl f_all))], [(m_posts, .inl (T.2 0, 7, .inl g_posts_119))], [(m_shut, .inl (T.2 0, 7, .inl g_shut_120))], [(m_here, .inl (T.2 0, 7, .inl g_here_121))], [(m_was, .inl (T.2 0, 7, .inl g_was_122))]] _ _ := G
            refine lv_aload_n hx hb dX12_state_28 rfl (lv_at hl 0 rfl) ?_
            refine z_get C G clX12 0 rfl 18 (by decide) m_fl_RX12_199 rfl dX12_state_29 ?_
            refine lv_iload_n hx hb dX12_state_32 rfl (lv_at hl 3 rfl) ?_
            refine lv_icmp_ne (tgt := 45) hx hb dX12_state_33 (by decide) (fun c_129 => ?_) (fun c_129 => ?_)
            · have c_129n : ¬ j_done_118.toInt = n_.toInt := fun q => c_129 ((fa_eq _ _).mpr q)
              refine lv_bipush (v := (-2)) hx hb dX12_state_45 (by decide) ?_
              exact z_iret C hr hlocks G (Nat.le_of_ble_eq_true rfl) (Nat.le_of_ble_eq_true rfl) dX12_state_47 ⟨661, j_crossings_2, j_inns_3, j_steps_112, j_done_118, j_at_110, j_gone_111, 833, j_never_115, j_firstCame_114, j_longRun_116, j_moved_113, j_crowd_117, g_posts_119, g_shut_120, g_here_121, g_was_122, rfl, (Or.inr (Or.inr (Or.inr (Or.inr (⟨⟨by assumption, by omega⟩, ⟨by assumption, by omega⟩, Or.inr ⟨by omega, g_posts_6, g_shut_7, g_here_8, ⟨zPt_o h_20, h_21, fun j hj => (h_22 j hj).trans rfl⟩, by rw [show pW f_all 661 = zWo f_all 661 j_inns_3 from congrArg (zWo f_all 661) h_17.symm]; rw [show f_all ((661 : Int32).toInt.toNat) = j_crossings_2 from hLx.2.1.symm, show f_all ((661 : Int32).toInt.toNat + 1) = j_inns_3 from h_17.symm]; have q8 := h_125; have q7 := h_126; rw [h_18] at q8 q7; exact Or.inl ⟨fun q9 => absurd (q8.trans q9) (by assumption), rfl⟩⟩⟩)))))⟩
            · have c_129n : j_done_118.toInt = n_.toInt := (fa_eq _ _).mp c_129
              refine lv_aload_n hx hb dX12_state_36 rfl (lv_at hl 0 rfl) ?_
              refine lv_iload hx hb dX12_state_37 (lv_at hl 4 rfl) ?_
              refine z_Vi (bc := [[(mo, .inr (11, [.ref m_all, .ref m_has, .int i_size, .int i_next, .int i_where, .int i_token, .int i_number, .int i_word, .int i_wrong, .int i_farCrossing, .ref m_read, .int 661, .int j_crossings_2, .int j_inns_3, .ref m_posts, .ref m_shut, .ref m_here, .int j_steps_112, .int j_done_118, .int j_at_110, .int j_gone_111, .ref m_was, .ref m_came, .ref m_seenAt, .ref m_rowWorth, .ref m_farBy, .ref m_used, .int i_everywhere, .int i_again0, .int 833, .int j_never_115, .int j_firstCame_114, .int j_longRun_116, .int j_moved_113, .int j_crowd_117, .int i_l0, .int i_fitMany, .int i_fitLeast, .int i_fitMost, .ref m_fitPost, .ref m_fitEnd, .ref m_keptPosts, .int i_x0]))], [(m_posts, .inl (T.2 0, 7, .inl g_posts_119))], [(m_here, .inl (T.2 0, 7, .inl g_here_121))], [(m_shut, .inl (T.2 0, 7, .inl g_shut_120))]]) (br := [[(m_all, .inl (T.2 0, 3952, .inl f_all))], [(m_was, .inl (T.2 0, 7, .inl g_was_122))]]) (As := [.int w_]) (rest := []) C G (c_fm_nowOf l T mo m_all m_has i_size i_next i_where i_token i_number i_word i_wrong i_farCrossing m_read 661 j_crossings_2 j_inns_3 m_posts m_shut m_here j_steps_112 j_done_118 j_at_110 j_gone_111 m_was m_came m_seenAt m_rowWorth m_farBy m_used i_everywhere i_again0 833 j_never_115 j_firstCame_114 j_longRun_116 j_moved_113 j_crowd_117 i_l0 i_fitMany i_fitLeast i_fitMost m_fitPost m_fitEnd m_keptPosts i_x0 g_posts_119 g_here_121 g_shut_120 w_ (by first | with_reducible assumption | with_reducible rfl | omega | assumption | rfl)) (kV_RX12_354 C.2.2.2.2 (Nat.le_of_ble_eq_true rfl) (Nat.le_of_ble_eq_true rfl)) [0, 2, 4, 3] [1, 5] rfl rfl (ci := 11) (qc := (RX12, TX12, 43)) rfl rfl (List.mem_flatten.mpr ⟨_, List.mem_of_getElem? (i := 0) rfl, List.mem_cons_self⟩) rfl rfl hl.1 dX12_state_39 (Nat.le_of_ble_eq_true rfl) (Nat.le_of_ble_eq_true rfl) (fun r_131 b1 H locs hw G => ?_)
              obtain ⟨rfl, h_130⟩ := hw
              have G : zS T A s.heap s [[(m_all, .inl (T.2 0, 3952, .inl f_all))], [(m_was, .inl (T.2 0, 7, .inl g_was_122))], [(mo, .inr (11, [.ref m_all, .ref m_has, .int i_size, .int i_next, .int i_where, .int i_token, .int i_number, .int i_word, .int i_wrong, .int i_farCrossing, .ref m_read, .int 661, .int j_crossings_2, .int j_inns_3, .ref m_posts, .ref m_shut, .ref m_here, .int j_steps_112, .int j_done_118, .int j_at_110, .int j_gone_111, .ref m_was, .ref m_came, .ref m_seenAt, .ref m_rowWorth, .ref m_farBy, .ref m_used, .int i_everywhere, .int i_again0, .int 833, .int j_never_115, .int j_firstCame_114, .int j_longRun_116, .int j_moved_113, .int j_crowd_117, .int i_l0, .int i_fitMany, .int i_fitLeast, .int i_fitMost, .ref m_fitPost, .ref m_fitEnd, .ref m_keptPosts, .int i_x0]))], [(m_posts, .inl (T.2 0, 7, .inl g_posts_119))], [(m_here, .inl (T.2 0, 7, .inl g_here_121))], [(m_shut, .inl (T.2 0, 7, .inl g_shut_120))]] _ _ := G
              refine lv_goto (tgt := 47) hx hb dX12_state_42 (by decide) ?_
              have G := G.sub (bs' := [[(mo, .inr (11, [.ref m_all, .ref m_has, .int i_size, .int i_next, .int i_where, .int i_token, .int i_number, .int i_word, .int i_wrong, .int i_farCrossing, .ref m_read, .int 661, .int j_crossings_2, .int j_inns_3, .ref m_posts, .ref m_shut, .ref m_here, .int j_steps_112, .int j_done_118, .int j_at_110, .int j_gone_111, .ref m_was, .ref m_came, .ref m_seenAt, .ref m_rowWorth, .ref m_farBy, .ref m_used, .int i_everywhere, .int i_again0, .int 833, .int j_never_115, .int j_firstCame_114, .int j_longRun_116, .int j_moved_113, .int j_crowd_117, .int i_l0, .int i_fitMany, .int i_fitLeast, .int i_fitMost, .ref m_fitPost, .ref m_fitEnd, .ref m_keptPosts, .int i_x0]))], [(m_all, .inl (T.2 0, 3952, .inl f_all))], [(m_posts, .inl (T.2 0, 7, .inl g_posts_119))], [(m_shut, .inl (T.2 0, 7, .inl g_shut_120))], [(m_here, .inl (T.2 0, 7, .inl g_here_121))], [(m_was, .inl (T.2 0, 7, .inl g_was_122))]]) [2, 0, 3, 5, 4, 1] rfl
              exact z_iret C hr hlocks G (Nat.le_of_ble_eq_true rfl) (Nat.le_of_ble_eq_true rfl) dX12_state_47 ⟨661, j_crossings_2, j_inns_3, j_steps_112, j_done_118, j_at_110, j_gone_111, 833, j_never_115, j_firstCame_114, j_longRun_116, j_moved_113, j_crowd_117, g_posts_119, g_shut_120, g_here_121, g_was_122, rfl, (Or.inr (Or.inr (Or.inr (Or.inr (⟨⟨by assumption, by omega⟩, ⟨by assumption, by omega⟩, Or.inr ⟨by omega, g_posts_6, g_shut_7, g_here_8, ⟨zPt_o h_20, h_21, fun j hj => (h_22 j hj).trans rfl⟩, by rw [show pW f_all 661 = zWo f_all 661 j_inns_3 from congrArg (zWo f_all 661) h_17.symm]; rw [show f_all ((661 : Int32).toInt.toNat) = j_crossings_2 from hLx.2.1.symm, show f_all ((661 : Int32).toInt.toNat + 1) = j_inns_3 from h_17.symm]; have q8 := h_125; have q7 := h_126; rw [h_18] at q8 q7; exact Or.inr ⟨q8.symm.trans (by assumption), (h_130).trans (congrArg (fun D9 => zNow _ _ D9 w_) q7)⟩⟩⟩)))))⟩
          · have c_109n : ¬ (0 : Int) ≤ n_.toInt := fun q => c_109 ((fa_le _ _).mpr q)
            refine lv_bipush (v := (-2)) hx hb dX12_state_20 (by decide) ?_
            have G := G.sub (bs' := [[(mo, .inr (11, [.ref m_all, .ref m_has, .int i_size, .int i_next, .int i_where, .int i_token, .int i_number, .int i_word, .int i_wrong, .int i_farCrossing, .ref m_read, .int 661, .int j_crossings_2, .int j_inns_3, .ref m_posts, .ref m_shut, .ref m_here, .int j_steps_4, .int j_done_5, .int i_at, .int i_gone, .ref m_was, .ref m_came, .ref m_seenAt, .ref m_rowWorth, .ref m_farBy, .ref m_used, .int i_everywhere, .int i_again0, .int 833, .int i_never, .int i_firstCame, .int i_longRun, .int i_moved, .int i_crowd, .int i_l0, .int i_fitMany, .int i_fitLeast, .int i_fitMost, .ref m_fitPost, .ref m_fitEnd, .ref m_keptPosts, .int i_x0]))], [(m_all, .inl (T.2 0, 3952, .inl f_all))], [(m_posts, .inl (T.2 0, 7, .inl g_posts_6))], [(m_shut, .inl (T.2 0, 7, .inl g_shut_7))], [(m_here, .inl (T.2 0, 7, .inl g_here_8))], [(m_was, .inl (T.2 0, 7, .inl f_was))]]) [4, 5, 1, 2, 3, 0] rfl
            exact z_iret C hr hlocks G (Nat.le_of_ble_eq_true rfl) (Nat.le_of_ble_eq_true rfl) dX12_state_22 ⟨661, j_crossings_2, j_inns_3, j_steps_4, j_done_5, i_at, i_gone, 833, i_never, i_firstCame, i_longRun, i_moved, i_crowd, g_posts_6, g_shut_7, g_here_8, f_was, rfl, (Or.inr (Or.inr (Or.inr (Or.inr (⟨⟨by assumption, by omega⟩, ⟨by assumption, by omega⟩, Or.inl ⟨by omega, rfl⟩⟩)))))⟩
      · have h_85 : (k_.toInt < 0 ∨ (f_all 1).toInt ≤ k_.toInt) := h_85
        refine lv_if_eq (tgt := 20) hx hb dX12_state_13 (by decide) (fun _ => ?_) (fun q => absurd (by decide) q)
        refine lv_bipush (v := (-2)) hx hb dX12_state_20 (by decide) ?_
        have G := G.sub (bs' := [[(mo, .inr (11, [.ref m_all, .ref m_has, .int i_size, .int i_next, .int i_where, .int i_token, .int i_number, .int i_word, .int i_wrong, .int i_farCrossing, .ref m_read, .int 661, .int j_crossings_2, .int j_inns_3, .ref m_posts, .ref m_shut, .ref m_here, .int j_steps_4, .int j_done_5, .int i_at, .int i_gone, .ref m_was, .ref m_came, .ref m_seenAt, .ref m_rowWorth, .ref m_farBy, .ref m_used, .int i_everywhere, .int i_again0, .int j_d0_78, .int i_never, .int i_firstCame, .int i_longRun, .int i_moved, .int i_crowd, .int i_l0, .int i_fitMany, .int i_fitLeast, .int i_fitMost, .ref m_fitPost, .ref m_fitEnd, .ref m_keptPosts, .int i_x0]))], [(m_all, .inl (T.2 0, 3952, .inl f_all))], [(m_posts, .inl (T.2 0, 7, .inl g_posts_6))], [(m_shut, .inl (T.2 0, 7, .inl g_shut_7))], [(m_here, .inl (T.2 0, 7, .inl g_here_8))], [(m_was, .inl (T.2 0, 7, .inl f_was))]]) [4, 5, 1, 2, 3, 0] rfl
        exact z_iret C hr hlocks G (Nat.le_of_ble_eq_true rfl) (Nat.le_of_ble_eq_true rfl) dX12_state_22 ⟨661, j_crossings_2, j_inns_3, j_steps_4, j_done_5, i_at, i_gone, j_d0_78, i_never, i_firstCame, i_longRun, i_moved, i_crowd, g_posts_6, g_shut_7, g_here_8, f_was, rfl, (Or.inl ⟨Or.inr (by assumption), rfl⟩)⟩
  · have h_23 : (l_.toInt < 0 ∨ (f_all 0).toInt ≤ l_.toInt) := h_23
    refine lv_if_eq (tgt := 20) hx hb dX12_state_5 (by decide) (fun _ => ?_) (fun q => absurd (by decide) q)
    refine lv_bipush (v := (-2)) hx hb dX12_state_20 (by decide) ?_
    have G := G.sub (bs' := [[(mo, .inr (11, [.ref m_all, .ref m_has, .int i_size, .int i_next, .int i_where, .int i_token, .int i_number, .int i_word, .int i_wrong, .int i_farCrossing, .ref m_read, .int j_z0_1, .int j_crossings_2, .int j_inns_3, .ref m_posts, .ref m_shut, .ref m_here, .int j_steps_4, .int j_done_5, .int i_at, .int i_gone, .ref m_was, .ref m_came, .ref m_seenAt, .ref m_rowWorth, .ref m_farBy, .ref m_used, .int i_everywhere, .int i_again0, .int i_d0, .int i_never, .int i_firstCame, .int i_longRun, .int i_moved, .int i_crowd, .int i_l0, .int i_fitMany, .int i_fitLeast, .int i_fitMost, .ref m_fitPost, .ref m_fitEnd, .ref m_keptPosts, .int i_x0]))], [(m_all, .inl (T.2 0, 3952, .inl f_all))], [(m_posts, .inl (T.2 0, 7, .inl g_posts_6))], [(m_shut, .inl (T.2 0, 7, .inl g_shut_7))], [(m_here, .inl (T.2 0, 7, .inl g_here_8))], [(m_was, .inl (T.2 0, 7, .inl f_was))]]) [1, 2, 3, 4, 5, 0] rfl
    exact z_iret C hr hlocks G (Nat.le_of_ble_eq_true rfl) (Nat.le_of_ble_eq_true rfl) dX12_state_22 ⟨j_z0_1, j_crossings_2, j_inns_3, j_steps_4, j_done_5, i_at, i_gone, i_d0, i_never, i_firstCame, i_longRun, i_moved, i_crowd, g_posts_6, g_shut_7, g_here_8, f_was, rfl, (Or.inl ⟨Or.inl (by assumption), rfl⟩)⟩
section ZL2
variable {p : Program} {l : Launch} {e : Env} {R : Room} {s : State} {m : MethodId} {args : Array Value} {below : List Frame} {meth : Method} {c : Code} {Q : State → Prop}
variable {nL : Nat} {T : zTy} {A : Nat → Prop} {H0 : Heap}
theorem z_loopR {α : Type} (pc : Nat) (Wd : α → List va_W) (Lv : α → List (Nat × Value)) (Cl Sl : α → Nat) (Inv : α → Prop) (mu : α → Nat)
    (step : ∀ a : α, Inv a → (∀ b : α, Inv b → mu b < mu a → ∀ (H : Heap) (locs : List Loc) (ls : Array Slot), zS T A H0 s (Wd b) H locs → lv_has ls nL (Lv b) → W p l e R s m args below meth c H locs (Cl b) (Sl b) Q (F0 m pc ls [])) → ∀ (H : Heap) (locs : List Loc) (ls : Array Slot), zS T A H0 s (Wd a) H locs → lv_has ls nL (Lv a) → W p l e R s m args below meth c H locs (Cl a) (Sl a) Q (F0 m pc ls []))
    (a : α) (ha : Inv a) {H : Heap} {locs : List Loc} {ls : Array Slot} (G : zS T A H0 s (Wd a) H locs) (hl : lv_has ls nL (Lv a)) : W p l e R s m args below meth c H locs (Cl a) (Sl a) Q (F0 m pc ls []) := by
  have key : ∀ (n : Nat) (a : α), mu a < n → Inv a → ∀ (H : Heap) (locs : List Loc) (ls : Array Slot), zS T A H0 s (Wd a) H locs → lv_has ls nL (Lv a) → W p l e R s m args below meth c H locs (Cl a) (Sl a) Q (F0 m pc ls []) := by
    intro n
    induction n with
    | zero => intro a h; exact absurd h (Nat.not_lt_zero _)
    | succ n ih => intro a h ha; exact step a ha (fun b hb hlt => ih b (by omega) hb)
  exact key (mu a + 1) a (Nat.lt_succ_self _) ha H locs ls G hl
end ZL2
def zAI (f : Nat → Int32) : Prop := ∀ i, i < 4 → zBI (fun j => f (988 * i + j))
abbrev zHs (fm fh : Nat → Int32) : Prop := ∀ k, k < 3 → (fm k = 0 ↔ fh k = 0)
abbrev zIn6 (x : Int32) : Prop := 0 ≤ x.toInt ∧ x.toInt ≤ 600
theorem zBI_cg {f g : Nat → Int32} (e : ∀ j, j < 988 → g j = f j) (h : zBI f) : zBI g :=
  ⟨by rw [e 4 (by decide)]; exact h.1, fun q hq => by rw [e q (by omega)]; exact h.2.1 q hq, fun k hk => zLF_cg (fun j hj => e _ (by omega)) (h.2.2.1 k hk), fun k hk => zCF_cg (e _ (by omega)) (h.2.2.2.1 k hk), fun k hk => zCF_cg (e _ (by omega)) (h.2.2.2.2 k hk)⟩
theorem zAI_0 {f : Nat → Int32} (h : zAI f) : zBI f := zBI_cg (fun j _ => (congrArg f (by omega)).symm) (h 0 (by decide))
theorem zAI_low {f g : Nat → Int32} (h : zAI f) (h0 : zBI g) (ho : ∀ j, 988 ≤ j → g j = f j) : zAI g := by
  intro i hi
  by_cases e : i = 0
  · subst e
    exact zBI_cg (fun j _ => congrArg g (by omega)) h0
  · exact zBI_cg (fun j _ => ho _ (by omega)) (h i hi)
theorem zBI_fd {f g : Nat → Int32} (h : zBI f) (h4 : zIn6 (g 4)) (ho : ∀ j, (j < 10 ∨ 610 ≤ j) → j ≠ 4 → g j = f j) : zBI g :=
  ⟨h4, fun q hq => by rw [ho q (by omega) (by omega)]; exact h.2.1 q hq, fun k hk => zLF_cg (fun j hj => ho _ (by omega) (by omega)) (h.2.2.1 k hk), fun k hk => zCF_cg (ho _ (by omega) (by omega)) (h.2.2.2.1 k hk), fun k hk => zCF_cg (ho _ (by omega) (by omega)) (h.2.2.2.2 k hk)⟩
theorem zHs_upd {fm fh : Nat → Int32} (h : zHs fm fh) (k : Nat) : zHs (upd fm k 1) (upd fh k 1) := by
  intro j hj
  unfold upd
  split
  · exact Iff.rfl
  · exact h j hj
theorem zNA_mono {c : Prop} [Decidable c] {md : Int32} {n : Nat} {cr inn : Int32} {k1 : Nat → Int32} (h : zPw n) : n ≤ zNA c md n (zPl cr inn k1) := by
  unfold zNA zMk zNl
  split
  · split
    · split
      · exact Nat.le_refl _
      · have := zNl_room (pl := zPl cr inn k1) h (zPl_le cr inn k1) (by assumption)
        omega
    · exact Nat.le_refl _
  · exact Nat.le_refl _
theorem zFnN_up {wy : Int32} {n : Nat} (hn : n ≤ 16384) (hw : (n : Int) < wy.toInt) : ∀ (f k : Nat), k ≤ 10 → 11 ≤ f + k → n ≤ zFnN wy f (16 * 2 ^ k)
  | 0, k, h, h2 => by omega
  | f + 1, k, h, h2 => by
    rw [zFnN]
    split
    · rename_i q
      have hk : k < 10 := by
        rcases Nat.lt_or_ge k 10 with z | z
        · exact z
        · have e : k = 10 := by omega
          subst e
          exact absurd q.2 (by decide)
      rw [show 2 * (16 * 2 ^ k) = 16 * 2 ^ (k + 1) by rw [Nat.pow_succ]; omega]
      exact zFnN_up hn hw f (k + 1) (by omega) (by omega)
    · rename_i q
      rcases Nat.lt_or_ge 16383 (16 * 2 ^ k) with z | z
      · omega
      · have : ¬ ((16 * 2 ^ k : Nat) : Int) < wy.toInt := fun y => q ⟨y, z⟩
        omega
theorem zNF_mono {c : Prop} [Decidable c] {n : Nat} {wy : Int32} (h : zFw n) : n ≤ zNF c n wy := by
  unfold zNF zFl
  split
  · split
    · exact Nat.le_refl _
    · have e : (16 * 2 ^ 0 : Nat) = 16 := by decide
      have := zFnN_up (wy := wy) (zFw_le h) (by omega) 11 0 (by decide) (by decide)
      rw [e] at this
      exact this
  · exact Nat.le_refl _
theorem zNF_fw {c : Prop} [Decidable c] {n : Nat} {wy : Int32} (h : zFw n) : zFw (zNF c n wy) := by
  unfold zNF
  split
  · exact zFl_pw h
  · exact h
/-! THE LAW'S STEPS, with all that is told kept equal -/
theorem zTR_by {ln : Int32} {fl : Int32} {pl : Int32} {ft : Nat → Int32} {fk : Nat → Int32} {cr_L0 : Int32} {inn_L0 : Int32} {k1_L0 : Nat → Int32} {k2_L0 : Nat → Int32} {k3_L0 : Nat → Int32} {k4_L0 : Nat → Int32} {cr_L1 : Int32} {inn_L1 : Int32} {k1_L1 : Nat → Int32} {k2_L1 : Nat → Int32} {k3_L1 : Nat → Int32} {k4_L1 : Nat → Int32} {dd_D0 : Int32} {p1_D0 : Nat → Int32} {p2_D0 : Nat → Int32} {p3_D0 : Nat → Int32} {dd_D1 : Int32} {p1_D1 : Nat → Int32} {p2_D1 : Nat → Int32} {p3_D1 : Nat → Int32} {gg_G0 : Int32} {q1_G0 : Nat → Int32} {q2_G0 : Nat → Int32} {gg_G1 : Int32} {q1_G1 : Nat → Int32} {q2_G1 : Nat → Int32} {G : Nat → Int32} (h : zTR ln fl pl ft fk cr_L0 inn_L0 k1_L0 k2_L0 k3_L0 k4_L0 cr_L1 inn_L1 k1_L1 k2_L1 k3_L1 k4_L1 dd_D0 p1_D0 p2_D0 p3_D0 dd_D1 p1_D1 p2_D1 p3_D1 gg_G0 q1_G0 q2_G0 gg_G1 q1_G1 q2_G1 G) : ∀ j, j < 600 → 0 ≤ (G (10 + j)).toInt := by
  intro j hj
  rcases (h.1.2.2.2.2 j hj).1 with ⟨e, a⟩ | ⟨-, a⟩
  · rw [e]; exact a
  · omega
theorem zTR_tk {ln : Int32} {fl : Int32} {pl : Int32} {ft : Nat → Int32} {fk : Nat → Int32} {cr_L0 : Int32} {inn_L0 : Int32} {k1_L0 : Nat → Int32} {k2_L0 : Nat → Int32} {k3_L0 : Nat → Int32} {k4_L0 : Nat → Int32} {cr_L1 : Int32} {inn_L1 : Int32} {k1_L1 : Nat → Int32} {k2_L1 : Nat → Int32} {k3_L1 : Nat → Int32} {k4_L1 : Nat → Int32} {dd_D0 : Int32} {p1_D0 : Nat → Int32} {p2_D0 : Nat → Int32} {p3_D0 : Nat → Int32} {dd_D1 : Int32} {p1_D1 : Nat → Int32} {p2_D1 : Nat → Int32} {p3_D1 : Nat → Int32} {gg_G0 : Int32} {q1_G0 : Nat → Int32} {q2_G0 : Nat → Int32} {gg_G1 : Int32} {q1_G1 : Nat → Int32} {q2_G1 : Nat → Int32} {G : Nat → Int32} (h : zTR ln fl pl ft fk cr_L0 inn_L0 k1_L0 k2_L0 k3_L0 k4_L0 cr_L1 inn_L1 k1_L1 k2_L1 k3_L1 k4_L1 dd_D0 p1_D0 p2_D0 p3_D0 dd_D1 p1_D1 p2_D1 p3_D1 gg_G0 q1_G0 q2_G0 gg_G1 q1_G1 q2_G1 G) {n : Nat} (hn : n ≤ 600) : tkT ft n = tkT (fun j => G (10 + j)) n := tkT_cg (fun j hj => (h.1.2.2.2.2 j (by omega)).1)
theorem zAI_at {f : Nat → Int32} (h : zAI f) : zIn6 (f 4) := (zAI_0 h).1
theorem zM_feed {ln : Int32} {fl : Int32} {pl : Int32} {ft : Nat → Int32} {fk : Nat → Int32} {cr_L0 : Int32} {inn_L0 : Int32} {k1_L0 : Nat → Int32} {k2_L0 : Nat → Int32} {k3_L0 : Nat → Int32} {k4_L0 : Nat → Int32} {cr_L1 : Int32} {inn_L1 : Int32} {k1_L1 : Nat → Int32} {k2_L1 : Nat → Int32} {k3_L1 : Nat → Int32} {k4_L1 : Nat → Int32} {dd_D0 : Int32} {p1_D0 : Nat → Int32} {p2_D0 : Nat → Int32} {p3_D0 : Nat → Int32} {dd_D1 : Int32} {p1_D1 : Nat → Int32} {p2_D1 : Nat → Int32} {p3_D1 : Nat → Int32} {gg_G0 : Int32} {q1_G0 : Nat → Int32} {q2_G0 : Nat → Int32} {gg_G1 : Int32} {q1_G1 : Nat → Int32} {q2_G1 : Nat → Int32} {p : Nat} {a b c d e u r r' : Int32} {g g' f : Nat → Int32} (hT : zTR ln fl pl ft fk cr_L0 inn_L0 k1_L0 k2_L0 k3_L0 k4_L0 cr_L1 inn_L1 k1_L1 k2_L1 k3_L1 k4_L1 dd_D0 p1_D0 p2_D0 p3_D0 dd_D1 p1_D1 p2_D1 p3_D1 gg_G0 q1_G0 q2_G0 gg_G1 q1_G1 q2_G1 f) (hA : zAI f) (hp : ln = nI p) (hp6 : p ≤ 600) (F1 : 580 < p ∧ r = -1 ∧ u = nI p ∧ g' = ft ∨ p ≤ 580 ∧ r = nI (p + 20) ∧ u = nI (p + 20) ∧ g' = zFeedC p a b c d e ft) (F2 : 580 < p ∧ r' = -1 ∧ g = f ∨ p ≤ 580 ∧ r' = nI (p + 20) ∧ zFeedR p a b c d e f g) : r = r' ∧ zAI g ∧ zTR u fl pl g' fk cr_L0 inn_L0 k1_L0 k2_L0 k3_L0 k4_L0 cr_L1 inn_L1 k1_L1 k2_L1 k3_L1 k4_L1 dd_D0 p1_D0 p2_D0 p3_D0 dd_D1 p1_D1 p2_D1 p3_D1 gg_G0 q1_G0 q2_G0 gg_G1 q1_G1 q2_G1 g ∧ ∀ j, 988 ≤ j → g j = f j := by
  rcases F1 with ⟨x1, x2, x3, x4⟩ | ⟨x1, x2, x3, x4⟩ <;> rcases F2 with ⟨y1, y2, y3⟩ | ⟨y1, y2, y3⟩
  · subst x4
    subst y3
    exact ⟨x2.trans y2.symm, hA, by rw [x3, ← hp]; exact hT, fun _ _ => rfl⟩
  · omega
  · omega
  · obtain ⟨z1, z2, z3⟩ := y3
    obtain ⟨⟨a1, a2, a3, a4, a5⟩, h1, h2, h3, h4, h5, h6⟩ := hT
    have ho : ∀ j, (j < 10 ∨ 610 ≤ j) → ¬ j = 4 → g j = f j := fun j q1 q2 => z3 j (by omega) q2
    have e4 : (nI (p + 20)).toInt = ((p + 20 : Nat) : Int) := nI_toInt (by omega)
    refine ⟨x2.trans y2.symm, zAI_low hA (zBI_fd (zAI_0 hA) (by rw [z1]; exact ⟨by omega, by omega⟩) ho) (fun j hj => ho j (by omega) (by omega)), ⟨⟨x3.trans z1.symm, a2.trans (ho _ (by omega) (by omega)).symm, a3.trans (ho _ (by omega) (by omega)).symm, fun j hj => (a4 j hj).trans (ho _ (by omega) (by omega)).symm, fun j hj => ?_⟩, zLnd_cg h1 (fun j hj => ho _ (by omega) (by omega)), zLnd_cg h2 (fun j hj => ho _ (by omega) (by omega)), zDyd_cg h3 (fun j hj => ho _ (by omega) (by omega)), zDyd_cg h4 (fun j hj => ho _ (by omega) (by omega)), zLgd_cg h5 (fun j hj => ho _ (by omega) (by omega)), zLgd_cg h6 (fun j hj => ho _ (by omega) (by omega))⟩, fun j hj => ho j (by omega) (by omega)⟩
    rw [x4]
    by_cases q : p ≤ j ∧ j < p + 20
    · have e1 := zFeed_be (p := p) (i := j - p) (a := a) (b := b) (c := c) (d := d) (e := e) (f := ft) (by omega)
      have e2 := z2 (j - p) (by omega)
      rw [show p + (j - p) = j by omega] at e1 e2
      rw [e1, e2]
      exact ⟨zBe_b _, by rw [Int8.toInt8_toInt32]⟩
    · rw [zFeedC_o (by omega), z3 _ (by omega) (by omega)]
      exact a5 j hj
theorem zM_end {ln : Int32} {fl : Int32} {pl : Int32} {ft : Nat → Int32} {fk : Nat → Int32} {cr_L0 : Int32} {inn_L0 : Int32} {k1_L0 : Nat → Int32} {k2_L0 : Nat → Int32} {k3_L0 : Nat → Int32} {k4_L0 : Nat → Int32} {cr_L1 : Int32} {inn_L1 : Int32} {k1_L1 : Nat → Int32} {k2_L1 : Nat → Int32} {k3_L1 : Nat → Int32} {k4_L1 : Nat → Int32} {dd_D0 : Int32} {p1_D0 : Nat → Int32} {p2_D0 : Nat → Int32} {p3_D0 : Nat → Int32} {dd_D1 : Int32} {p1_D1 : Nat → Int32} {p2_D1 : Nat → Int32} {p3_D1 : Nat → Int32} {gg_G0 : Int32} {q1_G0 : Nat → Int32} {q2_G0 : Nat → Int32} {gg_G1 : Int32} {q1_G1 : Nat → Int32} {q2_G1 : Nat → Int32} {u n r r' : Int32} {g f : Nat → Int32} (hT : zTR ln fl pl ft fk cr_L0 inn_L0 k1_L0 k2_L0 k3_L0 k4_L0 cr_L1 inn_L1 k1_L1 k2_L1 k3_L1 k4_L1 dd_D0 p1_D0 p2_D0 p3_D0 dd_D1 p1_D1 p2_D1 p3_D1 gg_G0 q1_G0 q2_G0 gg_G1 q1_G1 q2_G1 f) (hA : zAI f) (F1 : (n.toInt < 0 ∨ ln.toInt < n.toInt) ∧ r.toInt = -1 ∧ u = ln ∨ (0 ≤ n.toInt ∧ n.toInt ≤ ln.toInt) ∧ u = n ∧ r = n) (F2 : (n.toInt < 0 ∨ (f 4).toInt < n.toInt) ∧ r'.toInt = -1 ∧ g = f ∨ (0 ≤ n.toInt ∧ n.toInt ≤ (f 4).toInt) ∧ g = upd f 4 n ∧ r' = n) : r = r' ∧ zAI g ∧ zTR u fl pl ft fk cr_L0 inn_L0 k1_L0 k2_L0 k3_L0 k4_L0 cr_L1 inn_L1 k1_L1 k2_L1 k3_L1 k4_L1 dd_D0 p1_D0 p2_D0 p3_D0 dd_D1 p1_D1 p2_D1 p3_D1 gg_G0 q1_G0 q2_G0 gg_G1 q1_G1 q2_G1 g ∧ ∀ j, 988 ≤ j → g j = f j := by
  have b := zAI_at hA
  have e4 : ln = f 4 := hT.1.1
  have e4i : ln.toInt = (f 4).toInt := by rw [e4]
  rcases F1 with ⟨x1, x2, x3⟩ | ⟨x1, x2, x3⟩ <;> rcases F2 with ⟨y1, y2, y3⟩ | ⟨y1, y2, y3⟩
  · subst y3
    exact ⟨Int32.toInt_inj.mp (by omega), hA, by rw [x3]; exact hT, fun _ _ => rfl⟩
  · omega
  · omega
  · obtain ⟨⟨a1, a2, a3, a4, a5⟩, h1, h2, h3, h4, h5, h6⟩ := hT
    have ho : ∀ j, ¬ j = 4 → g j = f j := fun j q => by rw [y2]; exact z_ne q
    have k4 : g 4 = n := by rw [y2]; exact z_eq rfl
    exact ⟨x3.trans y3.symm, zAI_low hA (zBI_fd (zAI_0 hA) (by rw [k4]; exact ⟨by omega, by omega⟩) (fun j _ q => ho j q)) (fun j hj => ho j (by omega)), ⟨⟨x2.trans k4.symm, a2.trans (ho _ (by omega)).symm, a3.trans (ho _ (by omega)).symm, fun j hj => (a4 j hj).trans (ho _ (by omega)).symm, fun j hj => by rw [ho _ (by omega)]; exact a5 j hj⟩, zLnd_cg h1 (fun j hj => ho _ (by omega)), zLnd_cg h2 (fun j hj => ho _ (by omega)), zDyd_cg h3 (fun j hj => ho _ (by omega)), zDyd_cg h4 (fun j hj => ho _ (by omega)), zLgd_cg h5 (fun j hj => ho _ (by omega)), zLgd_cg h6 (fun j hj => ho _ (by omega))⟩, fun j hj => ho j (by omega)⟩
theorem zText_u {z : pS × (Nat → Int32)} {s : Nat} {at_ r r' : Int32} {f G G' : Nat → Int32} (h : zText z s at_ f G r) (h' : zText z s at_ f G' r') : r = r' ∧ ∀ j, j < 988 → G' j = G j := by
  rcases h with ⟨a1, a2, a3⟩ | ⟨a1, a0, a2, a3⟩ | ⟨a1, a0, a2, a3⟩ <;> rcases h' with ⟨b1, b2, b3⟩ | ⟨b1, b0, b2, b3⟩ | ⟨b1, b0, b2, b3⟩
  · exact ⟨a2.trans b2.symm, fun j hj => (b3 j hj).trans (a3 j hj).symm⟩
  · exact absurd b1 a1
  · exact absurd b1 a1
  · exact absurd a1 b1
  · exact ⟨a2.trans b2.symm, fun j hj => (b3 j hj).trans (a3 j hj).symm⟩
  · exact absurd b0 a0
  · exact absurd a1 b1
  · exact absurd a0 b0
  · exact ⟨a2.trans b2.symm, fun j hj => (b3 j hj).trans (a3 j hj).symm⟩
theorem zM_text {ln : Int32} {fl : Int32} {pl : Int32} {ft : Nat → Int32} {fk : Nat → Int32} {cr_L0 : Int32} {inn_L0 : Int32} {k1_L0 : Nat → Int32} {k2_L0 : Nat → Int32} {k3_L0 : Nat → Int32} {k4_L0 : Nat → Int32} {cr_L1 : Int32} {inn_L1 : Int32} {k1_L1 : Nat → Int32} {k2_L1 : Nat → Int32} {k3_L1 : Nat → Int32} {k4_L1 : Nat → Int32} {dd_D0 : Int32} {p1_D0 : Nat → Int32} {p2_D0 : Nat → Int32} {p3_D0 : Nat → Int32} {dd_D1 : Int32} {p1_D1 : Nat → Int32} {p2_D1 : Nat → Int32} {p3_D1 : Nat → Int32} {gg_G0 : Int32} {q1_G0 : Nat → Int32} {q2_G0 : Nat → Int32} {gg_G1 : Int32} {q1_G1 : Nat → Int32} {q2_G1 : Nat → Int32} {z : pS × (Nat → Int32)} {s : Nat} {at_ r r' : Int32} {g f : Nat → Int32} (hA : zAI f) (F1 : ∃ G2, zText z s at_ f G2 r ∧ zTR ln fl pl ft fk cr_L0 inn_L0 k1_L0 k2_L0 k3_L0 k4_L0 cr_L1 inn_L1 k1_L1 k2_L1 k3_L1 k4_L1 dd_D0 p1_D0 p2_D0 p3_D0 dd_D1 p1_D1 p2_D1 p3_D1 gg_G0 q1_G0 q2_G0 gg_G1 q1_G1 q2_G1 G2) (F2 : zText z s at_ f g r') (T0 : zBI g) (T2 : ∀ j, 988 ≤ j → g j = f j) : r = r' ∧ zAI g ∧ zTR ln fl pl ft fk cr_L0 inn_L0 k1_L0 k2_L0 k3_L0 k4_L0 cr_L1 inn_L1 k1_L1 k2_L1 k3_L1 k4_L1 dd_D0 p1_D0 p2_D0 p3_D0 dd_D1 p1_D1 p2_D1 p3_D1 gg_G0 q1_G0 q2_G0 gg_G1 q1_G1 q2_G1 g ∧ ∀ j, 988 ≤ j → g j = f j := by
  obtain ⟨G2, x1, x2⟩ := F1
  have q := zText_u x1 F2
  exact ⟨q.1, zAI_low hA T0 T2, zTR_cg x2 q.2, T2⟩
theorem zM_textN {ln : Int32} {fl : Int32} {pl : Int32} {ft : Nat → Int32} {fk : Nat → Int32} {cr_L0 : Int32} {inn_L0 : Int32} {k1_L0 : Nat → Int32} {k2_L0 : Nat → Int32} {k3_L0 : Nat → Int32} {k4_L0 : Nat → Int32} {cr_L1 : Int32} {inn_L1 : Int32} {k1_L1 : Nat → Int32} {k2_L1 : Nat → Int32} {k3_L1 : Nat → Int32} {k4_L1 : Nat → Int32} {dd_D0 : Int32} {p1_D0 : Nat → Int32} {p2_D0 : Nat → Int32} {p3_D0 : Nat → Int32} {dd_D1 : Int32} {p1_D1 : Nat → Int32} {p2_D1 : Nat → Int32} {p3_D1 : Nat → Int32} {gg_G0 : Int32} {q1_G0 : Nat → Int32} {q2_G0 : Nat → Int32} {gg_G1 : Int32} {q1_G1 : Nat → Int32} {q2_G1 : Nat → Int32} {g f : Nat → Int32} (hT : zTR ln fl pl ft fk cr_L0 inn_L0 k1_L0 k2_L0 k3_L0 k4_L0 cr_L1 inn_L1 k1_L1 k2_L1 k3_L1 k4_L1 dd_D0 p1_D0 p2_D0 p3_D0 dd_D1 p1_D1 p2_D1 p3_D1 gg_G0 q1_G0 q2_G0 gg_G1 q1_G1 q2_G1 f) (hA : zAI f) (hg : g = upd (upd (upd f 4 0) 5 0) 6 (-1)) : zAI g ∧ zTR 0 0 (-1) ft fk cr_L0 inn_L0 k1_L0 k2_L0 k3_L0 k4_L0 cr_L1 inn_L1 k1_L1 k2_L1 k3_L1 k4_L1 dd_D0 p1_D0 p2_D0 p3_D0 dd_D1 p1_D1 p2_D1 p3_D1 gg_G0 q1_G0 q2_G0 gg_G1 q1_G1 q2_G1 g ∧ ∀ j, 988 ≤ j → g j = f j := by
  have ho : ∀ j, 7 ≤ j → g j = f j := fun j q => by rw [hg, z_ne (by omega), z_ne (by omega), z_ne (by omega)]
  refine ⟨zAI_low hA (zBI_hd (zAI_0 hA) (by rw [hg]; rfl) (fun q hq => ?_) ho) (fun j hj => ho j (by omega)), by rw [hg]; exact zTR_hd hT, fun j hj => ho j (by omega)⟩
  rw [hg, z_ne (by omega), z_ne (by omega), z_ne (by omega)]
  exact (zAI_0 hA).2.1 q hq
theorem zM_keep {ln : Int32} {fl : Int32} {pl : Int32} {ft : Nat → Int32} {fk : Nat → Int32} {cr_L0 : Int32} {inn_L0 : Int32} {k1_L0 : Nat → Int32} {k2_L0 : Nat → Int32} {k3_L0 : Nat → Int32} {k4_L0 : Nat → Int32} {cr_L1 : Int32} {inn_L1 : Int32} {k1_L1 : Nat → Int32} {k2_L1 : Nat → Int32} {k3_L1 : Nat → Int32} {k4_L1 : Nat → Int32} {dd_D0 : Int32} {p1_D0 : Nat → Int32} {p2_D0 : Nat → Int32} {p3_D0 : Nat → Int32} {dd_D1 : Int32} {p1_D1 : Nat → Int32} {p2_D1 : Nat → Int32} {p3_D1 : Nat → Int32} {gg_G0 : Int32} {q1_G0 : Nat → Int32} {q2_G0 : Nat → Int32} {gg_G1 : Int32} {q1_G1 : Nat → Int32} {q2_G1 : Nat → Int32} {c : Prop} {b : Nat} {g f : Nat → Int32} (h : c → zTR ln fl pl ft fk cr_L0 inn_L0 k1_L0 k2_L0 k3_L0 k4_L0 cr_L1 inn_L1 k1_L1 k2_L1 k3_L1 k4_L1 dd_D0 p1_D0 p2_D0 p3_D0 dd_D1 p1_D1 p2_D1 p3_D1 gg_G0 q1_G0 q2_G0 gg_G1 q1_G1 q2_G1 (fun j => f (b + j))) (hb : 988 ≤ b) (T2 : ∀ j, 988 ≤ j → g j = f j) : c → zTR ln fl pl ft fk cr_L0 inn_L0 k1_L0 k2_L0 k3_L0 k4_L0 cr_L1 inn_L1 k1_L1 k2_L1 k3_L1 k4_L1 dd_D0 p1_D0 p2_D0 p3_D0 dd_D1 p1_D1 p2_D1 p3_D1 gg_G0 q1_G0 q2_G0 gg_G1 q1_G1 q2_G1 (fun j => g (b + j)) := fun z => zTR_cg (h z) (fun j _ => T2 _ (by omega))
theorem zAI_img {f g : Nat → Int32} {k : Nat} (hk : k < 3) (hA : zAI f) (c1 : ∀ j, j < 988 → g (988 * (k + 1) + j) = f j) (c2 : ∀ j, (j < 988 * (k + 1) ∨ 988 * (k + 1) + 988 ≤ j) → g j = f j) : zAI g := by
  intro i hi
  by_cases e : i = k + 1
  · subst e
    exact zBI_cg c1 (zAI_0 hA)
  · have : i < k + 1 ∨ k + 1 < i := by omega
    exact zBI_cg (fun j hj => c2 _ (by omega)) (hA i hi)
theorem zM_low {ln : Int32} {fl : Int32} {pl : Int32} {ft : Nat → Int32} {fk : Nat → Int32} {cr_L0 : Int32} {inn_L0 : Int32} {k1_L0 : Nat → Int32} {k2_L0 : Nat → Int32} {k3_L0 : Nat → Int32} {k4_L0 : Nat → Int32} {cr_L1 : Int32} {inn_L1 : Int32} {k1_L1 : Nat → Int32} {k2_L1 : Nat → Int32} {k3_L1 : Nat → Int32} {k4_L1 : Nat → Int32} {dd_D0 : Int32} {p1_D0 : Nat → Int32} {p2_D0 : Nat → Int32} {p3_D0 : Nat → Int32} {dd_D1 : Int32} {p1_D1 : Nat → Int32} {p2_D1 : Nat → Int32} {p3_D1 : Nat → Int32} {gg_G0 : Int32} {q1_G0 : Nat → Int32} {q2_G0 : Nat → Int32} {gg_G1 : Int32} {q1_G1 : Nat → Int32} {q2_G1 : Nat → Int32} {g f : Nat → Int32} (h : zTR ln fl pl ft fk cr_L0 inn_L0 k1_L0 k2_L0 k3_L0 k4_L0 cr_L1 inn_L1 k1_L1 k2_L1 k3_L1 k4_L1 dd_D0 p1_D0 p2_D0 p3_D0 dd_D1 p1_D1 p2_D1 p3_D1 gg_G0 q1_G0 q2_G0 gg_G1 q1_G1 q2_G1 f) (c : ∀ j, j < 988 → g j = f j) : zTR ln fl pl ft fk cr_L0 inn_L0 k1_L0 k2_L0 k3_L0 k4_L0 cr_L1 inn_L1 k1_L1 k2_L1 k3_L1 k4_L1 dd_D0 p1_D0 p2_D0 p3_D0 dd_D1 p1_D1 p2_D1 p3_D1 gg_G0 q1_G0 q2_G0 gg_G1 q1_G1 q2_G1 g := zTR_cg h c
theorem zM_imk {ln : Int32} {fl : Int32} {pl : Int32} {ft : Nat → Int32} {fk : Nat → Int32} {cr_L0 : Int32} {inn_L0 : Int32} {k1_L0 : Nat → Int32} {k2_L0 : Nat → Int32} {k3_L0 : Nat → Int32} {k4_L0 : Nat → Int32} {cr_L1 : Int32} {inn_L1 : Int32} {k1_L1 : Nat → Int32} {k2_L1 : Nat → Int32} {k3_L1 : Nat → Int32} {k4_L1 : Nat → Int32} {dd_D0 : Int32} {p1_D0 : Nat → Int32} {p2_D0 : Nat → Int32} {p3_D0 : Nat → Int32} {dd_D1 : Int32} {p1_D1 : Nat → Int32} {p2_D1 : Nat → Int32} {p3_D1 : Nat → Int32} {gg_G0 : Int32} {q1_G0 : Nat → Int32} {q2_G0 : Nat → Int32} {gg_G1 : Int32} {q1_G1 : Nat → Int32} {q2_G1 : Nat → Int32} {fm f g : Nat → Int32} {k b : Nat} (h : zTR ln fl pl ft fk cr_L0 inn_L0 k1_L0 k2_L0 k3_L0 k4_L0 cr_L1 inn_L1 k1_L1 k2_L1 k3_L1 k4_L1 dd_D0 p1_D0 p2_D0 p3_D0 dd_D1 p1_D1 p2_D1 p3_D1 gg_G0 q1_G0 q2_G0 gg_G1 q1_G1 q2_G1 f) (c1 : ∀ j, j < 988 → g (b + j) = f j) : ¬ upd fm k 1 k = 0 → zTR ln fl pl ft fk cr_L0 inn_L0 k1_L0 k2_L0 k3_L0 k4_L0 cr_L1 inn_L1 k1_L1 k2_L1 k3_L1 k4_L1 dd_D0 p1_D0 p2_D0 p3_D0 dd_D1 p1_D1 p2_D1 p3_D1 gg_G0 q1_G0 q2_G0 gg_G1 q1_G1 q2_G1 (fun j => g (b + j)) := fun _ => zTR_cg h c1
theorem zM_imo {ln : Int32} {fl : Int32} {pl : Int32} {ft : Nat → Int32} {fk : Nat → Int32} {cr_L0 : Int32} {inn_L0 : Int32} {k1_L0 : Nat → Int32} {k2_L0 : Nat → Int32} {k3_L0 : Nat → Int32} {k4_L0 : Nat → Int32} {cr_L1 : Int32} {inn_L1 : Int32} {k1_L1 : Nat → Int32} {k2_L1 : Nat → Int32} {k3_L1 : Nat → Int32} {k4_L1 : Nat → Int32} {dd_D0 : Int32} {p1_D0 : Nat → Int32} {p2_D0 : Nat → Int32} {p3_D0 : Nat → Int32} {dd_D1 : Int32} {p1_D1 : Nat → Int32} {p2_D1 : Nat → Int32} {p3_D1 : Nat → Int32} {gg_G0 : Int32} {q1_G0 : Nat → Int32} {q2_G0 : Nat → Int32} {gg_G1 : Int32} {q1_G1 : Nat → Int32} {q2_G1 : Nat → Int32} {fm f g : Nat → Int32} {i k b : Nat} (hik : ¬ i = k) (h : ¬ fm i = 0 → zTR ln fl pl ft fk cr_L0 inn_L0 k1_L0 k2_L0 k3_L0 k4_L0 cr_L1 inn_L1 k1_L1 k2_L1 k3_L1 k4_L1 dd_D0 p1_D0 p2_D0 p3_D0 dd_D1 p1_D1 p2_D1 p3_D1 gg_G0 q1_G0 q2_G0 gg_G1 q1_G1 q2_G1 (fun j => f (b + j))) (c2 : ∀ j, j < 988 → g (b + j) = f (b + j)) : ¬ upd fm k 1 i = 0 → zTR ln fl pl ft fk cr_L0 inn_L0 k1_L0 k2_L0 k3_L0 k4_L0 cr_L1 inn_L1 k1_L1 k2_L1 k3_L1 k4_L1 dd_D0 p1_D0 p2_D0 p3_D0 dd_D1 p1_D1 p2_D1 p3_D1 gg_G0 q1_G0 q2_G0 gg_G1 q1_G1 q2_G1 (fun j => g (b + j)) := fun z => zTR_cg (h (by rw [z_ne hik] at z; exact z)) c2
theorem zM_again {ln : Int32} {fl : Int32} {pl : Int32} {ft : Nat → Int32} {fk : Nat → Int32} {cr_L0 : Int32} {inn_L0 : Int32} {k1_L0 : Nat → Int32} {k2_L0 : Nat → Int32} {k3_L0 : Nat → Int32} {k4_L0 : Nat → Int32} {cr_L1 : Int32} {inn_L1 : Int32} {k1_L1 : Nat → Int32} {k2_L1 : Nat → Int32} {k3_L1 : Nat → Int32} {k4_L1 : Nat → Int32} {dd_D0 : Int32} {p1_D0 : Nat → Int32} {p2_D0 : Nat → Int32} {p3_D0 : Nat → Int32} {dd_D1 : Int32} {p1_D1 : Nat → Int32} {p2_D1 : Nat → Int32} {p3_D1 : Nat → Int32} {gg_G0 : Int32} {q1_G0 : Nat → Int32} {q2_G0 : Nat → Int32} {gg_G1 : Int32} {q1_G1 : Nat → Int32} {q2_G1 : Nat → Int32} {K b : Nat} {x r r' : Int32} {fm fh f g : Nat → Int32} (hA : zAI f) (hH : fm K = 0 ↔ fh K = 0) (hx : x.toInt = (K : Int)) (hK : K < 3) (hb : b = 988 * (K + 1)) (F1 : fm K = 0 ∧ r = 0 ∧ zTR ln fl pl ft fk cr_L0 inn_L0 k1_L0 k2_L0 k3_L0 k4_L0 cr_L1 inn_L1 k1_L1 k2_L1 k3_L1 k4_L1 dd_D0 p1_D0 p2_D0 p3_D0 dd_D1 p1_D1 p2_D1 p3_D1 gg_G0 q1_G0 q2_G0 gg_G1 q1_G1 q2_G1 f ∨ ¬ fm K = 0 ∧ r = 1 ∧ zTR ln fl pl ft fk cr_L0 inn_L0 k1_L0 k2_L0 k3_L0 k4_L0 cr_L1 inn_L1 k1_L1 k2_L1 k3_L1 k4_L1 dd_D0 p1_D0 p2_D0 p3_D0 dd_D1 p1_D1 p2_D1 p3_D1 gg_G0 q1_G0 q2_G0 gg_G1 q1_G1 q2_G1 (fun j => f (b + j))) (F2 : r' = 0 ∧ (x.toInt < 0 ∨ 3 ≤ x.toInt ∨ fh x.toNatClampNeg = 0) ∧ g = f ∨ r' = 1 ∧ (0 ≤ x.toInt ∧ x.toInt < 3) ∧ ¬ fh x.toNatClampNeg = 0 ∧ (∀ j, j < 988 → g j = f (988 * (x.toNatClampNeg + 1) + j)) ∧ ∀ j, 988 ≤ j → g j = f j) : r = r' ∧ zAI g ∧ zTR ln fl pl ft fk cr_L0 inn_L0 k1_L0 k2_L0 k3_L0 k4_L0 cr_L1 inn_L1 k1_L1 k2_L1 k3_L1 k4_L1 dd_D0 p1_D0 p2_D0 p3_D0 dd_D1 p1_D1 p2_D1 p3_D1 gg_G0 q1_G0 q2_G0 gg_G1 q1_G1 q2_G1 g ∧ ∀ j, 988 ≤ j → g j = f j := by
  subst hb
  have e : x.toNatClampNeg = K := by have := z_clI (x := x) (by omega); omega
  rw [e] at F2
  rcases F1 with ⟨a1, a2, a3⟩ | ⟨a1, a2, a3⟩ <;> rcases F2 with ⟨b1, b2, b3⟩ | ⟨b1, b2, b3, b4, b5⟩
  · exact ⟨a2.trans b1.symm, by rw [b3]; exact hA, by rw [b3]; exact a3, fun j _ => by rw [b3]⟩
  · exact absurd (hH.mp a1) b3
  · rcases b2 with q | q | q
    · omega
    · omega
    · exact absurd (hH.mpr q) a1
  · exact ⟨a2.trans b1.symm, zAI_low hA (zBI_cg b4 (hA (K + 1) (by omega))) b5, zTR_cg a3 b4, b5⟩
theorem zM_imr {K : Nat} {x r' : Int32} {fh gh f g : Nat → Int32} (hx : x.toInt = (K : Int)) (hK : K < 3) (F2 : r' = 0 ∧ (x.toInt < 0 ∨ 3 ≤ x.toInt) ∧ g = f ∧ gh = fh ∨ r' = 1 ∧ (0 ≤ x.toInt ∧ x.toInt < 3) ∧ (∀ j, j < 988 → g (988 * (x.toNatClampNeg + 1) + j) = f j) ∧ (∀ j, (j < 988 * (x.toNatClampNeg + 1) ∨ 988 * (x.toNatClampNeg + 1) + 988 ≤ j) → g j = f j) ∧ gh = upd fh x.toNatClampNeg 1) : r' = 1 ∧ (∀ j, j < 988 → g (988 * (K + 1) + j) = f j) ∧ (∀ j, (j < 988 * (K + 1) ∨ 988 * (K + 1) + 988 ≤ j) → g j = f j) ∧ gh = upd fh K 1 := by
  have e : x.toNatClampNeg = K := by have := z_clI (x := x) (by omega); omega
  rw [e] at F2
  rcases F2 with ⟨a, b, -⟩ | ⟨a, -, b, c, d⟩
  · omega
  · exact ⟨a, b, c, d⟩
theorem zM_imN {x r' : Int32} {fh gh f g : Nat → Int32} (hx : x.toInt < 0 ∨ 2 < x.toInt) (F2 : r' = 0 ∧ (x.toInt < 0 ∨ 3 ≤ x.toInt) ∧ g = f ∧ gh = fh ∨ r' = 1 ∧ (0 ≤ x.toInt ∧ x.toInt < 3) ∧ (∀ j, j < 988 → g (988 * (x.toNatClampNeg + 1) + j) = f j) ∧ (∀ j, (j < 988 * (x.toNatClampNeg + 1) ∨ 988 * (x.toNatClampNeg + 1) + 988 ≤ j) → g j = f j) ∧ gh = upd fh x.toNatClampNeg 1) : (0 : Int32) = r' ∧ g = f ∧ gh = fh := by
  rcases F2 with ⟨a, -, b, c⟩ | ⟨-, b, -⟩
  · exact ⟨a.symm, b, c⟩
  · omega
theorem zM_agN {x r' : Int32} {fh f g : Nat → Int32} (hx : x.toInt < 0 ∨ 2 < x.toInt) (F2 : r' = 0 ∧ (x.toInt < 0 ∨ 3 ≤ x.toInt ∨ fh x.toNatClampNeg = 0) ∧ g = f ∨ r' = 1 ∧ (0 ≤ x.toInt ∧ x.toInt < 3) ∧ ¬ fh x.toNatClampNeg = 0 ∧ (∀ j, j < 988 → g j = f (988 * (x.toNatClampNeg + 1) + j)) ∧ ∀ j, 988 ≤ j → g j = f j) : (0 : Int32) = r' ∧ g = f := by
  rcases F2 with ⟨a, -, b⟩ | ⟨-, b, -⟩
  · exact ⟨a.symm, b⟩
  · omega
set_option maxHeartbeats 4000000 in
set_option maxRecDepth 100000 in
/-- c_f_textN -/
theorem c_f_textN (l : Launch) (T : zTy) (xo : Nat) (t : Nat) (im : Nat) (mk : Nat) (rd : Nat) (po : Nat) (co : Nat) (tr : Nat) (wa : Nat) (wb_ : Nat) (fi : Nat) (cd : Nat) (l0 : Nat) (l1 : Nat) (d0 : Nat) (d1 : Nat) (g0 : Nat) (g1 : Nat) (ln : Int32) (fl : Int32) (pl : Int32) (ft : Nat → Int32) (fk : Nat → Int32) (wt : va_W) (i1 : Int32) (at_ : Int32) (ht : bTold T t l0 l1 d0 d1 g0 g1 ln fl pl ft fk wt) (hK : zKT fk) (hso : i1.toInt < 0 ∨ 2 < i1.toInt) : zMi l T yX11_text cX11_text 5 (some .int) 9 0 0 [.ref xo, .int i1, .int at_] [[(xo, .inr (10, [.ref t, .ref im, .ref mk, .ref rd, .ref po, .ref co, .ref tr, .ref wa, .ref wb_, .ref fi, .ref cd]))], wt] (fun (r : Int32) bs => ∃ (wt_2 : va_W), bs = [[(xo, .inr (10, [.ref t, .ref im, .ref mk, .ref rd, .ref po, .ref co, .ref tr, .ref wa, .ref wb_, .ref fi, .ref cd]))], wt_2] ∧ bTold T t l0 l1 d0 d1 g0 g1 0 0 (-1) ft fk wt_2 ∧ r = -2) := by
  refine zMi_of (own := RX11) (by decide) rfl (Nat.le_of_ble_eq_true rfl) ?_
  intro p e s m args below meth c A ls C hr hlocks hnm hAe G hl
  have hx := C.1
  have hb := C.2.1
  have hl : lv_has ls 5 [(0, .ref xo), (1, .int i1), (2, .int at_)] := hl
  refine lv_aload_n hx hb dX11_text_0 rfl (lv_at hl 0 rfl) ?_
  refine z_get C G clX11 0 rfl 0 (by decide) m_fl_RX11_10 rfl dX11_text_1 ?_
  refine lv_iload_n hx hb dX11_text_4 rfl (lv_at hl 1 rfl) ?_
  refine lv_iload_n hx hb dX11_text_5 rfl (lv_at hl 2 rfl) ?_
  refine z_Vi (bc := [wt]) (br := [[(xo, .inr (10, [.ref t, .ref im, .ref mk, .ref rd, .ref po, .ref co, .ref tr, .ref wa, .ref wb_, .ref fi, .ref cd]))]]) (As := [.int i1, .int at_]) (rest := []) C G (c_placeFor l T t l0 l1 d0 d1 g0 g1 ln fl pl ft fk wt i1 at_ ht (by first | with_reducible assumption | with_reducible rfl | omega | assumption | rfl)) (kV_RX11_81 C.2.2.2.2 (Nat.le_of_ble_eq_true rfl) (Nat.le_of_ble_eq_true rfl)) [1] [0] rfl rfl (ci := 8) (qc := (RX9, TX9, 8)) rfl rfl (List.mem_flatten.mpr ⟨_, List.mem_of_getElem? (i := 0) rfl, (bTold_mem ht).choose_spec⟩) rfl rfl hl.1 dX11_text_6 (Nat.le_of_ble_eq_true rfl) (Nat.le_of_ble_eq_true rfl) (fun r_2 b1 H locs hw G => ?_)
  obtain ⟨rfl, h_1⟩ := hw
  have G : zS T A s.heap s [[(xo, .inr (10, [.ref t, .ref im, .ref mk, .ref rd, .ref po, .ref co, .ref tr, .ref wa, .ref wb_, .ref fi, .ref cd]))], wt] _ _ := G
  have hr9 : r_2.toInt = -2 := by have := h_1; omega
  refine lv_istore_n (lv' := [(3, .int r_2), (0, .ref xo), (1, .int i1), (2, .int at_)]) hx hb dX11_text_9 rfl hl (by decide) rfl (fun ls hl => ?_)
  refine lv_aload_n hx hb dX11_text_10 rfl (lv_at hl 1 rfl) ?_
  refine z_get C G clX11 0 rfl 0 (by decide) m_fl_RX11_10 rfl dX11_text_11 ?_
  obtain ⟨a1_3, a2_4, a3_5, a4_6, a5_7, q1_8, q2_9, q3_10, rfl, h_11, h_12, h_13, h_14, h_15, h_16⟩ := ht
  have G : zS T A s.heap s [[(xo, .inr (10, [.ref t, .ref im, .ref mk, .ref rd, .ref po, .ref co, .ref tr, .ref wa, .ref wb_, .ref fi, .ref cd]))], [(t, .inr (8, [.ref a1_3, .int ln, .int fl, .int pl, .ref a2_4, .ref a3_5, .ref a4_6, .ref a5_7]))], [(a1_3, .inl (T.2 1, 600, .inl ft))], [(a2_4, .inl (T.2 0, 3, .inl fk))], [(a3_5, .inl (T.2 3, 2, .inr (.inr (.inr (.inr q1_8)))))], [(a4_6, .inl (T.2 4, 2, .inr (.inr (.inr (.inr q2_9)))))], [(a5_7, .inl (T.2 5, 2, .inr (.inr (.inr (.inr q3_10)))))]] _ _ := G.re rfl
  refine z_get C G clX9 1 rfl 1 (by decide) m_fl_RX11_73 rfl dX11_text_14 ?_
  refine lv_istore (lv' := [(4, .int ln), (3, .int r_2), (0, .ref xo), (1, .int i1), (2, .int at_)]) hx hb dX11_text_17 hl (by decide) rfl (fun ls hl => ?_)
  refine lv_aload_n hx hb dX11_text_19 rfl (lv_at hl 2 rfl) ?_
  refine z_get C G clX11 0 rfl 0 (by decide) m_fl_RX11_10 rfl dX11_text_20 ?_
  refine lv_iconst (v := 0) hx hb dX11_text_23 (by decide) ?_
  refine z_put C G clX9 1 rfl 1 (by decide) m_fl_RX11_73 rfl rfl rfl (Nat.le_of_ble_eq_true rfl) dX11_text_24 (fun H locs G => ?_)
  have G : zS T A s.heap s [[(xo, .inr (10, [.ref t, .ref im, .ref mk, .ref rd, .ref po, .ref co, .ref tr, .ref wa, .ref wb_, .ref fi, .ref cd]))], [(t, .inr (8, [.ref a1_3, .int 0, .int fl, .int pl, .ref a2_4, .ref a3_5, .ref a4_6, .ref a5_7]))], [(a1_3, .inl (T.2 1, 600, .inl ft))], [(a2_4, .inl (T.2 0, 3, .inl fk))], [(a3_5, .inl (T.2 3, 2, .inr (.inr (.inr (.inr q1_8)))))], [(a4_6, .inl (T.2 4, 2, .inr (.inr (.inr (.inr q2_9)))))], [(a5_7, .inl (T.2 5, 2, .inr (.inr (.inr (.inr q3_10)))))]] _ _ := G
  refine lv_aload_n hx hb dX11_text_27 rfl (lv_at hl 2 rfl) ?_
  refine z_get C G clX11 0 rfl 0 (by decide) m_fl_RX11_10 rfl dX11_text_28 ?_
  refine lv_iconst (v := 0) hx hb dX11_text_31 (by decide) ?_
  refine z_put C G clX9 1 rfl 2 (by decide) m_fl_RX11_85 rfl rfl rfl (Nat.le_of_ble_eq_true rfl) dX11_text_32 (fun H locs G => ?_)
  have G : zS T A s.heap s [[(xo, .inr (10, [.ref t, .ref im, .ref mk, .ref rd, .ref po, .ref co, .ref tr, .ref wa, .ref wb_, .ref fi, .ref cd]))], [(t, .inr (8, [.ref a1_3, .int 0, .int 0, .int pl, .ref a2_4, .ref a3_5, .ref a4_6, .ref a5_7]))], [(a1_3, .inl (T.2 1, 600, .inl ft))], [(a2_4, .inl (T.2 0, 3, .inl fk))], [(a3_5, .inl (T.2 3, 2, .inr (.inr (.inr (.inr q1_8)))))], [(a4_6, .inl (T.2 4, 2, .inr (.inr (.inr (.inr q2_9)))))], [(a5_7, .inl (T.2 5, 2, .inr (.inr (.inr (.inr q3_10)))))]] _ _ := G
  refine lv_aload_n hx hb dX11_text_35 rfl (lv_at hl 2 rfl) ?_
  refine z_get C G clX11 0 rfl 0 (by decide) m_fl_RX11_10 rfl dX11_text_36 ?_
  refine lv_iconst (v := (-1)) hx hb dX11_text_39 (by decide) ?_
  refine z_put C G clX9 1 rfl 3 (by decide) m_fl_RX11_88 rfl rfl rfl (Nat.le_of_ble_eq_true rfl) dX11_text_40 (fun H locs G => ?_)
  have G : zS T A s.heap s [[(xo, .inr (10, [.ref t, .ref im, .ref mk, .ref rd, .ref po, .ref co, .ref tr, .ref wa, .ref wb_, .ref fi, .ref cd]))], [(t, .inr (8, [.ref a1_3, .int 0, .int 0, .int (-1), .ref a2_4, .ref a3_5, .ref a4_6, .ref a5_7]))], [(a1_3, .inl (T.2 1, 600, .inl ft))], [(a2_4, .inl (T.2 0, 3, .inl fk))], [(a3_5, .inl (T.2 3, 2, .inr (.inr (.inr (.inr q1_8)))))], [(a4_6, .inl (T.2 4, 2, .inr (.inr (.inr (.inr q2_9)))))], [(a5_7, .inl (T.2 5, 2, .inr (.inr (.inr (.inr q3_10)))))]] _ _ := G
  refine lv_iload_n hx hb dX11_text_43 rfl (lv_at hl 1 rfl) ?_
  refine lv_bipush (v := (-2)) hx hb dX11_text_44 (by decide) ?_
  refine lv_icmp_ne (tgt := 52) hx hb dX11_text_46 (by decide) (fun q => absurd ((fa_eq r_2 ((-2) : Int32)).mpr (by show r_2.toInt = (-2 : Int); omega)) q) (fun _ => ?_)
  refine lv_bipush (v := (-2)) hx hb dX11_text_49 (by decide) ?_
  have hw_17 : bTold T t l0 l1 d0 d1 g0 g1 0 0 (-1) ft fk [(t, .inr (8, [.ref a1_3, .int 0, .int 0, .int (-1), .ref a2_4, .ref a3_5, .ref a4_6, .ref a5_7])), (a1_3, .inl (T.2 1, 600, .inl ft)), (a2_4, .inl (T.2 0, 3, .inl fk)), (a3_5, .inl (T.2 3, 2, .inr (.inr (.inr (.inr q1_8))))), (a4_6, .inl (T.2 4, 2, .inr (.inr (.inr (.inr q2_9))))), (a5_7, .inl (T.2 5, 2, .inr (.inr (.inr (.inr q3_10)))))] := ⟨a1_3, a2_4, a3_5, a4_6, a5_7, q1_8, q2_9, q3_10, rfl, h_11, h_12, h_13, h_14, h_15, h_16⟩
  have G : zS T A s.heap s [[(xo, .inr (10, [.ref t, .ref im, .ref mk, .ref rd, .ref po, .ref co, .ref tr, .ref wa, .ref wb_, .ref fi, .ref cd]))], [(t, .inr (8, [.ref a1_3, .int 0, .int 0, .int (-1), .ref a2_4, .ref a3_5, .ref a4_6, .ref a5_7])), (a1_3, .inl (T.2 1, 600, .inl ft)), (a2_4, .inl (T.2 0, 3, .inl fk)), (a3_5, .inl (T.2 3, 2, .inr (.inr (.inr (.inr q1_8))))), (a4_6, .inl (T.2 4, 2, .inr (.inr (.inr (.inr q2_9))))), (a5_7, .inl (T.2 5, 2, .inr (.inr (.inr (.inr q3_10)))))]] _ _ := G.re rfl
  exact z_iret C hr hlocks G (Nat.le_of_ble_eq_true rfl) (Nat.le_of_ble_eq_true rfl) dX11_text_51 ⟨([(t, .inr (8, [.ref a1_3, .int 0, .int 0, .int (-1), .ref a2_4, .ref a3_5, .ref a4_6, .ref a5_7])), (a1_3, .inl (T.2 1, 600, .inl ft)), (a2_4, .inl (T.2 0, 3, .inl fk)), (a3_5, .inl (T.2 3, 2, .inr (.inr (.inr (.inr q1_8))))), (a4_6, .inl (T.2 4, 2, .inr (.inr (.inr (.inr q2_9))))), (a5_7, .inl (T.2 5, 2, .inr (.inr (.inr (.inr q3_10)))))]), rfl, hw_17, rfl⟩
set_option maxHeartbeats 4000000 in
set_option maxRecDepth 100000 in
/-- c_fm_textN -/
theorem c_fm_textN (l : Launch) (T : zTy) (mo : Nat) (m_all : Nat) (m_has : Nat) (i_size : Int32) (i_next : Int32) (i_where : Int32) (i_token : Int32) (i_number : Int32) (i_word : Int32) (i_wrong : Int32) (i_farCrossing : Int32) (m_read : Nat) (i_z0 : Int32) (i_crossings : Int32) (i_inns : Int32) (m_posts : Nat) (m_shut : Nat) (m_here : Nat) (i_steps : Int32) (i_done : Int32) (i_at : Int32) (i_gone : Int32) (m_was : Nat) (m_came : Nat) (m_seenAt : Nat) (m_rowWorth : Nat) (m_farBy : Nat) (m_used : Nat) (i_everywhere : Int32) (i_again0 : Int32) (i_d0 : Int32) (i_never : Int32) (i_firstCame : Int32) (i_longRun : Int32) (i_moved : Int32) (i_crowd : Int32) (i_l0 : Int32) (i_fitMany : Int32) (i_fitLeast : Int32) (i_fitMost : Int32) (m_fitPost : Nat) (m_fitEnd : Nat) (m_keptPosts : Nat) (i_x0 : Int32) (f_all : Nat → Int32) (f_read : Nat → Int32) (so_ : Int32) (at_ : Int32) (hso : so_.toInt < 0 ∨ 2 < so_.toInt) : zMi l T yX12_text cX12_text 5 (some .int) 9 0 0 [.ref mo, .int so_, .int at_] [[(mo, .inr (11, [.ref m_all, .ref m_has, .int i_size, .int i_next, .int i_where, .int i_token, .int i_number, .int i_word, .int i_wrong, .int i_farCrossing, .ref m_read, .int i_z0, .int i_crossings, .int i_inns, .ref m_posts, .ref m_shut, .ref m_here, .int i_steps, .int i_done, .int i_at, .int i_gone, .ref m_was, .ref m_came, .ref m_seenAt, .ref m_rowWorth, .ref m_farBy, .ref m_used, .int i_everywhere, .int i_again0, .int i_d0, .int i_never, .int i_firstCame, .int i_longRun, .int i_moved, .int i_crowd, .int i_l0, .int i_fitMany, .int i_fitLeast, .int i_fitMost, .ref m_fitPost, .ref m_fitEnd, .ref m_keptPosts, .int i_x0]))], [(m_all, .inl (T.2 0, 3952, .inl f_all))], [(m_read, .inl (T.2 0, 121, .inl f_read))]] (fun (r : Int32) bs => ∃ (j_size : Int32) (g_all : Nat → Int32), bs = [[(mo, .inr (11, [.ref m_all, .ref m_has, .int j_size, .int i_next, .int i_where, .int i_token, .int i_number, .int i_word, .int i_wrong, .int i_farCrossing, .ref m_read, .int i_z0, .int i_crossings, .int i_inns, .ref m_posts, .ref m_shut, .ref m_here, .int i_steps, .int i_done, .int i_at, .int i_gone, .ref m_was, .ref m_came, .ref m_seenAt, .ref m_rowWorth, .ref m_farBy, .ref m_used, .int i_everywhere, .int i_again0, .int i_d0, .int i_never, .int i_firstCame, .int i_longRun, .int i_moved, .int i_crowd, .int i_l0, .int i_fitMany, .int i_fitLeast, .int i_fitMost, .ref m_fitPost, .ref m_fitEnd, .ref m_keptPosts, .int i_x0]))], [(m_all, .inl (T.2 0, 3952, .inl g_all))], [(m_read, .inl (T.2 0, 121, .inl f_read))]] ∧ r = -2 ∧ g_all = upd (upd (upd f_all 4 0) 5 0) 6 (-1)) := by
  refine zMi_of (own := RX12) (by decide) rfl (Nat.le_of_ble_eq_true rfl) ?_
  intro p e s m args below meth c A ls C hr hlocks hnm hAe G hl
  have hx := C.1
  have hb := C.2.1
  have hl : lv_has ls 5 [(0, .ref mo), (1, .int so_), (2, .int at_)] := hl
  refine lv_aload_n hx hb dX12_text_0 rfl (lv_at hl 0 rfl) ?_
  refine lv_aload_n hx hb dX12_text_1 rfl (lv_at hl 0 rfl) ?_
  refine z_get C G clX12 0 rfl 0 (by decide) m_fl_RX12_7 rfl dX12_text_2 ?_
  refine lv_iconst (v := 4) hx hb dX12_text_5 (by decide) ?_
  refine z_ild C G 1 rfl (vp_in_nI (n := 4) (by decide) (by decide)) dX12_text_6 ?_
  refine lv_topi (fun v_1 ev_1 => ?_)
  rw [show ((4 : Int32).toNatClampNeg) = 4 from rfl] at ev_1
  subst ev_1
  refine z_put C G clX12 0 rfl 2 (by decide) m_fl_RX12_56 rfl rfl rfl (Nat.le_of_ble_eq_true rfl) dX12_text_7 (fun H locs G => ?_)
  have G : zS T A s.heap s [[(mo, .inr (11, [.ref m_all, .ref m_has, .int (f_all 4), .int i_next, .int i_where, .int i_token, .int i_number, .int i_word, .int i_wrong, .int i_farCrossing, .ref m_read, .int i_z0, .int i_crossings, .int i_inns, .ref m_posts, .ref m_shut, .ref m_here, .int i_steps, .int i_done, .int i_at, .int i_gone, .ref m_was, .ref m_came, .ref m_seenAt, .ref m_rowWorth, .ref m_farBy, .ref m_used, .int i_everywhere, .int i_again0, .int i_d0, .int i_never, .int i_firstCame, .int i_longRun, .int i_moved, .int i_crowd, .int i_l0, .int i_fitMany, .int i_fitLeast, .int i_fitMost, .ref m_fitPost, .ref m_fitEnd, .ref m_keptPosts, .int i_x0]))], [(m_all, .inl (T.2 0, 3952, .inl f_all))], [(m_read, .inl (T.2 0, 121, .inl f_read))]] _ _ := G
  refine lv_aload_n hx hb dX12_text_10 rfl (lv_at hl 0 rfl) ?_
  refine z_get C G clX12 0 rfl 0 (by decide) m_fl_RX12_7 rfl dX12_text_11 ?_
  refine lv_iconst (v := 4) hx hb dX12_text_14 (by decide) ?_
  refine lv_iconst (v := 0) hx hb dX12_text_15 (by decide) ?_
  refine z_ist C G 1 rfl (vp_in_nI (n := 4) (by decide) (by decide)) dX12_text_16 (fun H locs G => ?_)
  have G : zS T A s.heap s [[(mo, .inr (11, [.ref m_all, .ref m_has, .int (f_all 4), .int i_next, .int i_where, .int i_token, .int i_number, .int i_word, .int i_wrong, .int i_farCrossing, .ref m_read, .int i_z0, .int i_crossings, .int i_inns, .ref m_posts, .ref m_shut, .ref m_here, .int i_steps, .int i_done, .int i_at, .int i_gone, .ref m_was, .ref m_came, .ref m_seenAt, .ref m_rowWorth, .ref m_farBy, .ref m_used, .int i_everywhere, .int i_again0, .int i_d0, .int i_never, .int i_firstCame, .int i_longRun, .int i_moved, .int i_crowd, .int i_l0, .int i_fitMany, .int i_fitLeast, .int i_fitMost, .ref m_fitPost, .ref m_fitEnd, .ref m_keptPosts, .int i_x0]))], [(m_all, .inl (T.2 0, 3952, .inl (upd f_all 4 0)))], [(m_read, .inl (T.2 0, 121, .inl f_read))]] _ _ := G
  refine lv_aload_n hx hb dX12_text_17 rfl (lv_at hl 0 rfl) ?_
  refine z_get C G clX12 0 rfl 0 (by decide) m_fl_RX12_7 rfl dX12_text_18 ?_
  refine lv_iconst (v := 5) hx hb dX12_text_21 (by decide) ?_
  refine lv_iconst (v := 0) hx hb dX12_text_22 (by decide) ?_
  refine z_ist C G 1 rfl (vp_in_nI (n := 5) (by decide) (by decide)) dX12_text_23 (fun H locs G => ?_)
  have G : zS T A s.heap s [[(mo, .inr (11, [.ref m_all, .ref m_has, .int (f_all 4), .int i_next, .int i_where, .int i_token, .int i_number, .int i_word, .int i_wrong, .int i_farCrossing, .ref m_read, .int i_z0, .int i_crossings, .int i_inns, .ref m_posts, .ref m_shut, .ref m_here, .int i_steps, .int i_done, .int i_at, .int i_gone, .ref m_was, .ref m_came, .ref m_seenAt, .ref m_rowWorth, .ref m_farBy, .ref m_used, .int i_everywhere, .int i_again0, .int i_d0, .int i_never, .int i_firstCame, .int i_longRun, .int i_moved, .int i_crowd, .int i_l0, .int i_fitMany, .int i_fitLeast, .int i_fitMost, .ref m_fitPost, .ref m_fitEnd, .ref m_keptPosts, .int i_x0]))], [(m_all, .inl (T.2 0, 3952, .inl (upd (upd f_all 4 0) 5 0)))], [(m_read, .inl (T.2 0, 121, .inl f_read))]] _ _ := G
  refine lv_aload_n hx hb dX12_text_24 rfl (lv_at hl 0 rfl) ?_
  refine z_get C G clX12 0 rfl 0 (by decide) m_fl_RX12_7 rfl dX12_text_25 ?_
  refine lv_bipush (v := 6) hx hb dX12_text_28 (by decide) ?_
  refine lv_iconst (v := (-1)) hx hb dX12_text_30 (by decide) ?_
  refine z_ist C G 1 rfl (vp_in_nI (n := 6) (by decide) (by decide)) dX12_text_31 (fun H locs G => ?_)
  have G : zS T A s.heap s [[(mo, .inr (11, [.ref m_all, .ref m_has, .int (f_all 4), .int i_next, .int i_where, .int i_token, .int i_number, .int i_word, .int i_wrong, .int i_farCrossing, .ref m_read, .int i_z0, .int i_crossings, .int i_inns, .ref m_posts, .ref m_shut, .ref m_here, .int i_steps, .int i_done, .int i_at, .int i_gone, .ref m_was, .ref m_came, .ref m_seenAt, .ref m_rowWorth, .ref m_farBy, .ref m_used, .int i_everywhere, .int i_again0, .int i_d0, .int i_never, .int i_firstCame, .int i_longRun, .int i_moved, .int i_crowd, .int i_l0, .int i_fitMany, .int i_fitLeast, .int i_fitMost, .ref m_fitPost, .ref m_fitEnd, .ref m_keptPosts, .int i_x0]))], [(m_all, .inl (T.2 0, 3952, .inl (upd (upd (upd f_all 4 0) 5 0) 6 (-1))))], [(m_read, .inl (T.2 0, 121, .inl f_read))]] _ _ := G
  refine lv_iload_n hx hb dX12_text_32 rfl (lv_at hl 1 rfl) ?_
  refine lv_iconst (v := 0) hx hb dX12_text_33 (by decide) ?_
  refine lv_iconst (v := 2) hx hb dX12_text_34 (by decide) ?_
  refine z_Si (bc := []) (br := [[(mo, .inr (11, [.ref m_all, .ref m_has, .int (f_all 4), .int i_next, .int i_where, .int i_token, .int i_number, .int i_word, .int i_wrong, .int i_farCrossing, .ref m_read, .int i_z0, .int i_crossings, .int i_inns, .ref m_posts, .ref m_shut, .ref m_here, .int i_steps, .int i_done, .int i_at, .int i_gone, .ref m_was, .ref m_came, .ref m_seenAt, .ref m_rowWorth, .ref m_farBy, .ref m_used, .int i_everywhere, .int i_again0, .int i_d0, .int i_never, .int i_firstCame, .int i_longRun, .int i_moved, .int i_crowd, .int i_l0, .int i_fitMany, .int i_fitLeast, .int i_fitMost, .ref m_fitPost, .ref m_fitEnd, .ref m_keptPosts, .int i_x0]))], [(m_all, .inl (T.2 0, 3952, .inl (upd (upd (upd f_all 4 0) 5 0) 6 (-1))))], [(m_read, .inl (T.2 0, 121, .inl f_read))]]) (As := [.int so_, .int 0, .int 2]) (rest := []) C G (c_m_isIn l T so_ 0 2) (kS_RX12_111 C.2.2.2.2 (Nat.le_of_ble_eq_true rfl) (Nat.le_of_ble_eq_true rfl)) [] [0, 1, 2] rfl rfl rfl rfl hl.1 dX12_text_35 (Nat.le_of_ble_eq_true rfl) (Nat.le_of_ble_eq_true rfl) (fun r_3 b1 H locs hw G => ?_)
  obtain ⟨rfl, hc_2⟩ := hw
  have G : zS T A s.heap s [[(mo, .inr (11, [.ref m_all, .ref m_has, .int (f_all 4), .int i_next, .int i_where, .int i_token, .int i_number, .int i_word, .int i_wrong, .int i_farCrossing, .ref m_read, .int i_z0, .int i_crossings, .int i_inns, .ref m_posts, .ref m_shut, .ref m_here, .int i_steps, .int i_done, .int i_at, .int i_gone, .ref m_was, .ref m_came, .ref m_seenAt, .ref m_rowWorth, .ref m_farBy, .ref m_used, .int i_everywhere, .int i_again0, .int i_d0, .int i_never, .int i_firstCame, .int i_longRun, .int i_moved, .int i_crowd, .int i_l0, .int i_fitMany, .int i_fitLeast, .int i_fitMost, .ref m_fitPost, .ref m_fitEnd, .ref m_keptPosts, .int i_x0]))], [(m_all, .inl (T.2 0, 3952, .inl (upd (upd (upd f_all 4 0) 5 0) 6 (-1))))], [(m_read, .inl (T.2 0, 121, .inl f_read))]] _ _ := G
  rcases hc_2 with ⟨rfl, h_4, h_5⟩ | ⟨rfl, h_6⟩
  · have h_4 : (0 : Int) ≤ so_.toInt := h_4
    have h_5 : so_.toInt ≤ (2 : Int) := h_5
    refine lv_if_eq (tgt := 68) hx hb dX12_text_38 (by decide) (fun q => absurd q (by decide)) (fun _ => ?_)
    exact absurd (show (0 : Int) = 1 by omega) (by decide)
  · have h_6 : (so_.toInt < (0 : Int) ∨ (2 : Int) < so_.toInt) := h_6
    refine lv_if_eq (tgt := 68) hx hb dX12_text_38 (by decide) (fun _ => ?_) (fun q => absurd (by decide) q)
    refine lv_bipush (v := (-2)) hx hb dX12_text_68 (by decide) ?_
    exact z_iret C hr hlocks G (Nat.le_of_ble_eq_true rfl) (Nat.le_of_ble_eq_true rfl) dX12_text_70 ⟨(f_all 4), (upd (upd (upd f_all 4 0) 5 0) 6 (-1)), rfl, rfl, rfl⟩

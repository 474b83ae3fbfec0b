theorem m_co_X12_ledTo : Cond.code yX12_ledTo cX12_ledTo 5 (some .int) ∈ zT := zmem1 zsub_7 104 rfl rfl
theorem m_ml_RX12_248 : Cond.methodLink RX12 248 yX12_ledTo ∈ zT := zmem1 zsub_7 101 rfl rfl
theorem m_im_X12_ledTo : Cond.instanceMethod yX12_ledTo ∈ zT := zmem1 zsub_7 103 rfl rfl
theorem m_se_X12_ledTo : Cond.selects RX12 yX12_ledTo yX12_ledTo ∈ zT := zmem 76 rfl rfl
theorem kV_RX12_248 {R : Room} {s : State} {args : Array Value} {d mc ms : Nat} (hts : ∀ w ∈ zT, w.before args s = true) (h1 : d + 1 ≤ R.frames) (h2 : 8 + (5 + 11) + 40 * d ≤ R.locals) : CallW R s args RX12 RX12 248 yX12_ledTo cX12_ledTo 5 (some .int) (zW yX12_ledTo cX12_ledTo 5 (some .int)) (zR d mc ms) mc ms 2 := z_cwV hts m_co_X12_ledTo m_ml_RX12_248 m_im_X12_ledTo m_se_X12_ledTo m_ii_RX12 (by decide +kernel) h1 h2
theorem dX12_ledTo_0 : decode cX12_ledTo 0 = .ok (.iload_n 1, 1) := zo_27 (by decide +kernel)
theorem dX12_ledTo_1 : decode cX12_ledTo 1 = .ok (.istore_n 3, 1) := zo_62 (by decide +kernel)
theorem dX12_ledTo_2 : decode cX12_ledTo 2 = .ok (.iconst 0, 1) := zo_3 (by decide +kernel)
theorem dX12_ledTo_3 : decode cX12_ledTo 3 = .ok (.istore 4, 2) := zo_54 (by decide +kernel)
theorem dX12_ledTo_5 : decode cX12_ledTo 5 = .ok (.iload 4, 2) := zo_21 (by decide +kernel)
theorem dX12_ledTo_7 : decode cX12_ledTo 7 = .ok (.iload_n 2, 1) := zo_28 (by decide +kernel)
theorem dX12_ledTo_8 : decode cX12_ledTo 8 = .ok (.if_icmp .ge 29, 3) := zo_162 (by decide +kernel)
theorem dX12_ledTo_11 : decode cX12_ledTo 11 = .ok (.aload_n 0, 1) := zo_42 (by decide +kernel)
theorem dX12_ledTo_12 : decode cX12_ledTo 12 = .ok (.iload_n 3, 1) := zo_29 (by decide +kernel)
theorem dX12_ledTo_13 : decode cX12_ledTo 13 = .ok (.invokevirtual 223, 3) := zo_182 (by decide +kernel)
theorem dX12_ledTo_16 : decode cX12_ledTo 16 = .ok (.ifCond .eq 21, 3) := zo_153 (by decide +kernel)
theorem dX12_ledTo_19 : decode cX12_ledTo 19 = .ok (.aload_n 0, 1) := zo_42 (by decide +kernel)
theorem dX12_ledTo_20 : decode cX12_ledTo 20 = .ok (.iload_n 3, 1) := zo_29 (by decide +kernel)
theorem dX12_ledTo_21 : decode cX12_ledTo 21 = .ok (.aload_n 0, 1) := zo_42 (by decide +kernel)
theorem dX12_ledTo_22 : decode cX12_ledTo 22 = .ok (.getfield 20, 3) := zo_180 (by decide +kernel)
theorem dX12_ledTo_25 : decode cX12_ledTo 25 = .ok (.iload_n 3, 1) := zo_29 (by decide +kernel)
theorem dX12_ledTo_26 : decode cX12_ledTo 26 = .ok (.iaload, 1) := zo_46 (by decide +kernel)
theorem dX12_ledTo_27 : decode cX12_ledTo 27 = .ok (.invokevirtual 190, 3) := zo_182 (by decide +kernel)
theorem dX12_ledTo_30 : decode cX12_ledTo 30 = .ok (.istore_n 3, 1) := zo_62 (by decide +kernel)
theorem dX12_ledTo_31 : decode cX12_ledTo 31 = .ok (.iinc 4 1, 3) := zo_132 (by decide +kernel)
theorem dX12_ledTo_34 : decode cX12_ledTo 34 = .ok (.goto (-29), 3) := zo_167 (by decide +kernel)
theorem dX12_ledTo_37 : decode cX12_ledTo 37 = .ok (.iload_n 3, 1) := zo_29 (by decide +kernel)
theorem dX12_ledTo_38 : decode cX12_ledTo 38 = .ok (.ireturn, 1) := zo_172 (by decide +kernel)
theorem dX12_trees_0 : decode cX12_trees 0 = .ok (.aload_n 0, 1) := zo_42 (by decide +kernel)
theorem dX12_trees_1 : decode cX12_trees 1 = .ok (.iload_n 1, 1) := zo_27 (by decide +kernel)
theorem dX12_trees_2 : decode cX12_trees 2 = .ok (.invokevirtual 184, 3) := zo_182 (by decide +kernel)
theorem dX12_trees_5 : decode cX12_trees 5 = .ok (.ifCond .ne 5, 3) := zo_154 (by decide +kernel)
theorem dX12_trees_8 : decode cX12_trees 8 = .ok (.iconst (-1), 1) := zo_2 (by decide +kernel)
theorem dX12_trees_9 : decode cX12_trees 9 = .ok (.ireturn, 1) := zo_172 (by decide +kernel)
theorem dX12_trees_10 : decode cX12_trees 10 = .ok (.aload_n 0, 1) := zo_42 (by decide +kernel)
theorem dX12_trees_11 : decode cX12_trees 11 = .ok (.invokevirtual 229, 3) := zo_182 (by decide +kernel)
theorem dX12_trees_14 : decode cX12_trees 14 = .ok (.istore_n 2, 1) := zo_61 (by decide +kernel)
theorem dX12_trees_15 : decode cX12_trees 15 = .ok (.iconst 0, 1) := zo_3 (by decide +kernel)
theorem dX12_trees_16 : decode cX12_trees 16 = .ok (.istore_n 3, 1) := zo_62 (by decide +kernel)
theorem dX12_trees_17 : decode cX12_trees 17 = .ok (.iconst 0, 1) := zo_3 (by decide +kernel)
theorem dX12_trees_18 : decode cX12_trees 18 = .ok (.istore 4, 2) := zo_54 (by decide +kernel)
theorem dX12_trees_20 : decode cX12_trees 20 = .ok (.iload 4, 2) := zo_21 (by decide +kernel)
theorem dX12_trees_22 : decode cX12_trees 22 = .ok (.iload_n 2, 1) := zo_28 (by decide +kernel)
theorem dX12_trees_23 : decode cX12_trees 23 = .ok (.if_icmp .ge 85, 3) := zo_162 (by decide +kernel)
theorem dX12_trees_26 : decode cX12_trees 26 = .ok (.aload_n 0, 1) := zo_42 (by decide +kernel)
theorem dX12_trees_27 : decode cX12_trees 27 = .ok (.iload 4, 2) := zo_21 (by decide +kernel)
theorem dX12_trees_29 : decode cX12_trees 29 = .ok (.invokevirtual 226, 3) := zo_182 (by decide +kernel)
theorem dX12_trees_32 : decode cX12_trees 32 = .ok (.iconst 1, 1) := zo_4 (by decide +kernel)
theorem dX12_trees_33 : decode cX12_trees 33 = .ok (.istore 5, 2) := zo_54 (by decide +kernel)
theorem dX12_trees_35 : decode cX12_trees 35 = .ok (.iconst 0, 1) := zo_3 (by decide +kernel)
theorem dX12_trees_36 : decode cX12_trees 36 = .ok (.istore 6, 2) := zo_54 (by decide +kernel)
theorem dX12_trees_38 : decode cX12_trees 38 = .ok (.iload 6, 2) := zo_21 (by decide +kernel)
theorem dX12_trees_40 : decode cX12_trees 40 = .ok (.aload_n 0, 1) := zo_42 (by decide +kernel)
theorem dX12_trees_41 : decode cX12_trees 41 = .ok (.getfield 169, 3) := zo_180 (by decide +kernel)
theorem dX12_trees_44 : decode cX12_trees 44 = .ok (.if_icmp .ge 45, 3) := zo_162 (by decide +kernel)
theorem dX12_trees_47 : decode cX12_trees 47 = .ok (.iload 5, 2) := zo_21 (by decide +kernel)
theorem dX12_trees_49 : decode cX12_trees 49 = .ok (.ifCond .eq 40, 3) := zo_153 (by decide +kernel)
theorem dX12_trees_52 : decode cX12_trees 52 = .ok (.aload_n 0, 1) := zo_42 (by decide +kernel)
theorem dX12_trees_53 : decode cX12_trees 53 = .ok (.iload 6, 2) := zo_21 (by decide +kernel)
theorem dX12_trees_55 : decode cX12_trees 55 = .ok (.invokevirtual 223, 3) := zo_182 (by decide +kernel)
theorem dX12_trees_58 : decode cX12_trees 58 = .ok (.ifCond .eq 18, 3) := zo_153 (by decide +kernel)
theorem dX12_trees_61 : decode cX12_trees 61 = .ok (.aload_n 0, 1) := zo_42 (by decide +kernel)
theorem dX12_trees_62 : decode cX12_trees 62 = .ok (.aload_n 0, 1) := zo_42 (by decide +kernel)
theorem dX12_trees_63 : decode cX12_trees 63 = .ok (.iload 6, 2) := zo_21 (by decide +kernel)
theorem dX12_trees_65 : decode cX12_trees 65 = .ok (.bipush 7, 2) := zo_16 (by decide +kernel)
theorem dX12_trees_67 : decode cX12_trees 67 = .ok (.invokevirtual 248, 3) := zo_182 (by decide +kernel)
theorem dX12_trees_70 : decode cX12_trees 70 = .ok (.invokevirtual 178, 3) := zo_182 (by decide +kernel)
theorem dX12_trees_73 : decode cX12_trees 73 = .ok (.ifCond .eq 7, 3) := zo_153 (by decide +kernel)
theorem dX12_trees_76 : decode cX12_trees 76 = .ok (.iconst 1, 1) := zo_4 (by decide +kernel)
theorem dX12_trees_77 : decode cX12_trees 77 = .ok (.goto 4, 3) := zo_167 (by decide +kernel)
theorem dX12_trees_80 : decode cX12_trees 80 = .ok (.iconst 0, 1) := zo_3 (by decide +kernel)
theorem dX12_trees_81 : decode cX12_trees 81 = .ok (.istore 5, 2) := zo_54 (by decide +kernel)
theorem dX12_trees_83 : decode cX12_trees 83 = .ok (.iinc 6 1, 3) := zo_132 (by decide +kernel)
theorem dX12_trees_86 : decode cX12_trees 86 = .ok (.goto (-48), 3) := zo_167 (by decide +kernel)
theorem dX12_trees_89 : decode cX12_trees 89 = .ok (.iload_n 3, 1) := zo_29 (by decide +kernel)
theorem dX12_trees_90 : decode cX12_trees 90 = .ok (.iload 5, 2) := zo_21 (by decide +kernel)
theorem dX12_trees_92 : decode cX12_trees 92 = .ok (.ifCond .eq 7, 3) := zo_153 (by decide +kernel)
theorem dX12_trees_95 : decode cX12_trees 95 = .ok (.iconst 1, 1) := zo_4 (by decide +kernel)
theorem dX12_trees_96 : decode cX12_trees 96 = .ok (.goto 4, 3) := zo_167 (by decide +kernel)
theorem dX12_trees_99 : decode cX12_trees 99 = .ok (.iconst 0, 1) := zo_3 (by decide +kernel)
theorem dX12_trees_100 : decode cX12_trees 100 = .ok (.iadd, 1) := zo_96 (by decide +kernel)
theorem dX12_trees_101 : decode cX12_trees 101 = .ok (.istore_n 3, 1) := zo_62 (by decide +kernel)
theorem dX12_trees_102 : decode cX12_trees 102 = .ok (.iinc 4 1, 3) := zo_132 (by decide +kernel)
theorem dX12_trees_105 : decode cX12_trees 105 = .ok (.goto (-85), 3) := zo_167 (by decide +kernel)
theorem dX12_trees_108 : decode cX12_trees 108 = .ok (.iload_n 3, 1) := zo_29 (by decide +kernel)
theorem dX12_trees_109 : decode cX12_trees 109 = .ok (.ireturn, 1) := zo_172 (by decide +kernel)
def zStp (f : Nat → Int32) (z n : Int32) (p : Nat → Int32) (c : Int32) : Int32 := if ¬ zInn n c ∧ 0 < (zRd f z c).toInt then zLe f z c (p c.toNatClampNeg) else c
def zLed (S : Int32 → Int32) : Nat → Int32 → Int32
  | 0, c => c
  | k + 1, c => S (zLed S k c)
theorem zLed_fix {S : Int32 → Int32} {c : Int32} {k : Nat} (h : S (zLed S k c) = zLed S k c) : ∀ n, k ≤ n → zLed S n c = zLed S k c := by
  intro n
  induction n with
  | zero => intro hn; rw [show k = 0 by omega]
  | succ n ih =>
    intro hn
    by_cases e : k = n + 1
    · rw [e]
    · have := ih (by omega)
      show S (zLed S n c) = _
      rw [this, h]
theorem zLed_add {S : Int32 → Int32} (c : Int32) (a : Nat) : ∀ b, zLed S (a + b) c = zLed S b (zLed S a c)
  | 0 => rfl
  | b + 1 => congrArg S (zLed_add c a b)
theorem zStp_in {f : Nat → Int32} {z cr n : Int32} {p : Nat → Int32} (hL : zML f z cr) (hP : zMP p) {c : Int32} (h0 : 0 ≤ c.toInt) (h6 : c.toInt ≤ 6) : 0 ≤ (zStp f z n p c).toInt ∧ (zStp f z n p c).toInt ≤ 6 := by
  have hcl := z_clI (x := c) h0
  have hp := hP c.toNatClampNeg (by omega)
  unfold zStp
  split
  · exact zMLl hL h0 h6 hp.1 hp.2
  · exact ⟨h0, h6⟩
theorem zLed_in {f : Nat → Int32} {z cr n : Int32} {p : Nat → Int32} (hL : zML f z cr) (hP : zMP p) {c : Int32} (h0 : 0 ≤ c.toInt) (h6 : c.toInt ≤ 6) : ∀ k, 0 ≤ (zLed (zStp f z n p) k c).toInt ∧ (zLed (zStp f z n p) k c).toInt ≤ 6
  | 0 => ⟨h0, h6⟩
  | k + 1 => zStp_in hL hP (zLed_in hL hP h0 h6 k).1 (zLed_in hL hP h0 h6 k).2
/-- seven places, eight steps: what is come to behind seven steps comes again within seven more -/
theorem zLed_ring {S : Int32 → Int32} {c : Int32} (h : ∀ k, 0 ≤ (zLed S k c).toInt ∧ (zLed S k c).toInt ≤ 6) : ∃ q : Nat, 1 ≤ q ∧ q ≤ 7 ∧ zLed S q (zLed S 7 c) = zLed S 7 c := by
  have key : ∃ i j : Nat, i < j ∧ j ≤ 7 ∧ zLed S i c = zLed S j c := by
    refine Classical.byContradiction (fun hn => ?_)
    have inj : ∀ i j : Nat, i < j → j ≤ 7 → ¬ zLed S i c = zLed S j c := fun i j a b e => hn ⟨i, j, a, b, e⟩
    have hnd : ((List.range 8).map (fun i => (zLed S i c).toInt.toNat)).Nodup := by
      refine List.pairwise_map.mpr ((List.pairwise_lt_range (n := 8)).imp_of_mem (fun {a b} ha hb hab e => ?_))
      have h1 := h a
      have h2 := h b
      exact inj a b hab (by have := List.mem_range.mp hb; omega) (Int32.toInt_inj.mp (by omega))
    have hsub : ((List.range 8).map (fun i => (zLed S i c).toInt.toNat)) ⊆ List.range 7 := by
      intro x hx
      obtain ⟨i, -, rfl⟩ := List.mem_map.mp hx
      have h1 := h i
      exact List.mem_range.mpr (by omega)
    have := List.Nodup.length_le_of_subset hnd hsub
    simp at this
  obtain ⟨i, j, hij, hj, e⟩ := key
  refine ⟨j - i, by omega, by omega, ?_⟩
  rw [← zLed_add, show 7 + (j - i) = j + (7 - i) by omega, zLed_add, ← e, ← zLed_add, show i + (7 - i) = 7 by omega]
set_option maxHeartbeats 4000000 in
set_option maxRecDepth 100000 in
/-- c_m_ledTo -/
theorem c_m_ledTo (l : Launch) (T : zTy) (mo : Nat) (m_all : Nat) (m_has : Nat) (i_size : Int32) (i_next : Int32) (i_where : Int32) (i_token : Int32) (i_number : Int32) (i_word : Int32) (i_wrong : Int32) (i_farCrossing : Int32) (m_read : Nat) (i_z0 : Int32) (i_crossings : Int32) (i_inns : Int32) (m_posts : Nat) (m_shut : Nat) (m_here : Nat) (i_steps : Int32) (i_done : Int32) (i_at : Int32) (i_gone : Int32) (m_was : Nat) (m_came : Nat) (m_seenAt : Nat) (m_rowWorth : Nat) (m_farBy : Nat) (m_used : Nat) (i_everywhere : Int32) (i_again0 : Int32) (i_d0 : Int32) (i_never : Int32) (i_firstCame : Int32) (i_longRun : Int32) (i_moved : Int32) (i_crowd : Int32) (i_l0 : Int32) (i_fitMany : Int32) (i_fitLeast : Int32) (i_fitMost : Int32) (m_fitPost : Nat) (m_fitEnd : Nat) (m_keptPosts : Nat) (i_x0 : Int32) (f_all : Nat → Int32) (f_posts : Nat → Int32) (c_ : Int32) (n_ : Int32) (hL : zML f_all i_z0 i_crossings) (hP : zMP f_posts) (hc0 : 0 ≤ c_.toInt) (hc6 : c_.toInt ≤ 6) (hn0 : 0 ≤ n_.toInt) (hn9 : n_.toInt ≤ 100) : zMi l T yX12_ledTo cX12_ledTo 5 (some .int) 3 0 0 [.ref mo, .int c_, .int n_] [[zO11 mo m_all m_has i_size i_next i_where i_token i_number i_word i_wrong i_farCrossing m_read i_z0 i_crossings i_inns m_posts m_shut m_here i_steps i_done i_at i_gone m_was m_came m_seenAt m_rowWorth m_farBy m_used i_everywhere i_again0 i_d0 i_never i_firstCame i_longRun i_moved i_crowd i_l0 i_fitMany i_fitLeast i_fitMost m_fitPost m_fitEnd m_keptPosts i_x0], [zAr T 0 m_all 3952 f_all], [zAr T 0 m_posts 7 f_posts]] (fun (r : Int32) bs => bs = [[zO11 mo m_all m_has i_size i_next i_where i_token i_number i_word i_wrong i_farCrossing m_read i_z0 i_crossings i_inns m_posts m_shut m_here i_steps i_done i_at i_gone m_was m_came m_seenAt m_rowWorth m_farBy m_used i_everywhere i_again0 i_d0 i_never i_firstCame i_longRun i_moved i_crowd i_l0 i_fitMany i_fitLeast i_fitMost m_fitPost m_fitEnd m_keptPosts i_x0], [zAr T 0 m_all 3952 f_all], [zAr T 0 m_posts 7 f_posts]] ∧ r = zLed (zStp f_all i_z0 i_inns f_posts) n_.toNatClampNeg c_ ∧ 0 ≤ r.toInt ∧ r.toInt ≤ 6) := by
  refine zMi_of (own := RX12) (by decide) rfl (Nat.le_of_ble_eq_true rfl) ?_
  intro p e s m args below meth c A ls C hr hlocks hnm hAe G hl
  refine zHide (fun Q9 hQ9 => ?_)
  have hx := C.1
  have hb := C.2.1
  have hl : lv_has ls 5 [(0, .ref mo), (1, .int c_), (2, .int n_)] := hl
  have hz := hL.1
  have hcr := hL.cr
  have hncl := z_clI (x := n_) (by omega)
  refine lv_iload_n hx hb dX12_ledTo_0 rfl (lv_at hl 1 rfl) ?_
  refine lv_istore_n (lv' := [(3, .int c_), (0, .ref mo), (1, .int c_), (2, .int n_)]) hx hb dX12_ledTo_1 rfl hl (by decide) rfl (fun ls hl => ?_)
  refine lv_iconst (v := 0) hx hb dX12_ledTo_2 (by decide) ?_
  refine lv_istore (lv' := [(4, .int 0), (3, .int c_), (0, .ref mo), (1, .int c_), (2, .int n_)]) hx hb dX12_ledTo_3 hl (by decide) rfl (fun ls hl => ?_)
  refine z_lp2 (T := T) 5 (fun (k : Nat) (x : Int32) => [[zO11 mo m_all m_has i_size i_next i_where i_token i_number i_word i_wrong i_farCrossing m_read i_z0 i_crossings i_inns m_posts m_shut m_here i_steps i_done i_at i_gone m_was m_came m_seenAt m_rowWorth m_farBy m_used i_everywhere i_again0 i_d0 i_never i_firstCame i_longRun i_moved i_crowd i_l0 i_fitMany i_fitLeast i_fitMost m_fitPost m_fitEnd m_keptPosts i_x0], [zAr T 0 m_all 3952 f_all], [zAr T 0 m_posts 7 f_posts]]) (fun (k : Nat) (x : Int32) => [(4, .int (nI k)), (3, .int x), (0, .ref mo), (1, .int c_), (2, .int n_)]) (fun (k : Nat) (x : Int32) => (k = 0 ∨ (k : Int) ≤ n_.toInt) ∧ x = zLed (zStp f_all i_z0 i_inns f_posts) k c_ ∧ 0 ≤ x.toInt ∧ x.toInt ≤ 6) (fun (k : Nat) (x : Int32) => (n_.toInt - k).toNat) ?_ 0 c_ (show (0 = 0 ∨ (0 : Int) ≤ n_.toInt) ∧ c_ = zLed (zStp f_all i_z0 i_inns f_posts) 0 c_ ∧ 0 ≤ c_.toInt ∧ c_.toInt ≤ 6 from ⟨by omega, rfl, by omega, by omega⟩) G (lv_sub hl [0, 1, 2, 3, 4] rfl)
  intro k x hI9 ih_5 H locs ls G hl
  replace hI9 : (k = 0 ∨ (k : Int) ≤ n_.toInt) ∧ x = zLed (zStp f_all i_z0 i_inns f_posts) k c_ ∧ 0 ≤ x.toInt ∧ x.toInt ≤ 6 := hI9
  refine zAn4 hI9 ?_
  intro hk hq hx0 hx6
  clear hI9
  replace G : zS T A s.heap s [[zO11 mo m_all m_has i_size i_next i_where i_token i_number i_word i_wrong i_farCrossing m_read i_z0 i_crossings i_inns m_posts m_shut m_here i_steps i_done i_at i_gone m_was m_came m_seenAt m_rowWorth m_farBy m_used i_everywhere i_again0 i_d0 i_never i_firstCame i_longRun i_moved i_crowd i_l0 i_fitMany i_fitLeast i_fitMost m_fitPost m_fitEnd m_keptPosts i_x0], [zAr T 0 m_all 3952 f_all], [zAr T 0 m_posts 7 f_posts]] _ _ := G
  replace hl : lv_has ls 5 [(4, .int (nI k)), (3, .int x), (0, .ref mo), (1, .int c_), (2, .int n_)] := hl
  refine lv_iload hx hb dX12_ledTo_5 (lv_at hl 0 rfl) ?_
  refine lv_iload_n hx hb dX12_ledTo_7 rfl (lv_at hl 4 rfl) ?_
  refine lv_icmp_ge (tgt := 37) hx hb dX12_ledTo_8 (by decide) (fun c_1 => ?_) (fun c_1 => ?_)
  · have c_1n : n_.toInt ≤ (k : Int) := by have q := (fa_le _ _).mp c_1; rw [nI_toInt (n := k) (by omega)] at q; exact q
    refine lv_iload_n hx hb dX12_ledTo_37 rfl (lv_at hl 1 rfl) ?_
    exact z_back hQ9 (z_iret C hr hlocks G (Nat.le_of_ble_eq_true rfl) (Nat.le_of_ble_eq_true rfl) dX12_ledTo_38 ⟨rfl, (by first | (rw [show n_.toNatClampNeg = k by omega]; exact hq) | (rw [zLed_fix (k := k) (by rw [← hq]; unfold zStp; rw [if_neg (fun g9 => (show zInn i_inns x ∨ (zRd f_all i_z0 x).toInt ≤ 0 by assumption).elim g9.1 (fun g => absurd g9.2 (by omega)))]) n_.toNatClampNeg (by omega)]; exact hq)), (by first | with_reducible assumption | omega | trivial | assumption), (by first | with_reducible assumption | omega | trivial | assumption)⟩)
  · have c_1n : ¬ n_.toInt ≤ (k : Int) := fun q => c_1 ((fa_le _ _).mpr (by rw [nI_toInt (n := k) (by omega)]; exact q))
    have hcx := z_clI (x := x) (by omega)
    have hpx := hP x.toNatClampNeg (by omega)
    refine lv_aload_n hx hb dX12_ledTo_11 rfl (lv_at hl 2 rfl) ?_
    refine lv_iload_n hx hb dX12_ledTo_12 rfl (lv_at hl 1 rfl) ?_
    refine z_Vi (bc := [[zO11 mo m_all m_has i_size i_next i_where i_token i_number i_word i_wrong i_farCrossing m_read i_z0 i_crossings i_inns m_posts m_shut m_here i_steps i_done i_at i_gone m_was m_came m_seenAt m_rowWorth m_farBy m_used i_everywhere i_again0 i_d0 i_never i_firstCame i_longRun i_moved i_crowd i_l0 i_fitMany i_fitLeast i_fitMost m_fitPost m_fitEnd m_keptPosts i_x0], [zAr T 0 m_all 3952 f_all]]) (br := [[zAr T 0 m_posts 7 f_posts]]) (As := [.int x]) (rest := []) C G (c_m_isFree l T mo m_all m_has i_size i_next i_where i_token i_number i_word i_wrong i_farCrossing m_read i_z0 i_crossings i_inns m_posts m_shut m_here i_steps i_done i_at i_gone m_was m_came m_seenAt m_rowWorth m_farBy m_used i_everywhere i_again0 i_d0 i_never i_firstCame i_longRun i_moved i_crowd i_l0 i_fitMany i_fitLeast i_fitMost m_fitPost m_fitEnd m_keptPosts i_x0 f_all x (by first | with_reducible assumption | with_reducible rfl | omega | assumption | rfl | decide) (by first | with_reducible assumption | with_reducible rfl | omega | assumption | rfl | decide) (by first | with_reducible assumption | with_reducible rfl | omega | assumption | rfl | decide)) (kV_RX12_223 C.2.2.2.2 (Nat.le_of_ble_eq_true rfl) (Nat.le_of_ble_eq_true rfl)) [0, 1] [0, 0] rfl rfl (ci := 11) (qc := (RX12, TX12, 43)) rfl rfl (List.mem_flatten.mpr ⟨_, List.mem_of_getElem? (i := 0) rfl, List.mem_cons_self⟩) rfl rfl hl.1 dX12_ledTo_13 (Nat.le_of_ble_eq_true rfl) (Nat.le_of_ble_eq_true rfl) (fun r_3 b1 H locs hw G => ?_)
    refine zAn2 hw ?_
    intro hbs9 hc_2
    clear hw
    subst hbs9
    have G : zS T A s.heap s [[zAr T 0 m_posts 7 f_posts], [zO11 mo m_all m_has i_size i_next i_where i_token i_number i_word i_wrong i_farCrossing m_read i_z0 i_crossings i_inns m_posts m_shut m_here i_steps i_done i_at i_gone m_was m_came m_seenAt m_rowWorth m_farBy m_used i_everywhere i_again0 i_d0 i_never i_firstCame i_longRun i_moved i_crowd i_l0 i_fitMany i_fitLeast i_fitMost m_fitPost m_fitEnd m_keptPosts i_x0], [zAr T 0 m_all 3952 f_all]] _ _ := G
    rcases hc_2 with ⟨rfl, h_4, h_5⟩ | ⟨rfl, h_6⟩
    · have h_4 : ¬ zInn i_inns x := h_4
      have h_5 : 0 < (zRd f_all i_z0 x).toInt := h_5
      refine lv_if_eq (tgt := 37) hx hb dX12_ledTo_16 (by decide) (fun q => absurd q (by decide)) (fun _ => ?_)
      refine lv_aload_n hx hb dX12_ledTo_19 rfl (lv_at hl 2 rfl) ?_
      refine lv_iload_n hx hb dX12_ledTo_20 rfl (lv_at hl 1 rfl) ?_
      refine lv_aload_n hx hb dX12_ledTo_21 rfl (lv_at hl 2 rfl) ?_
      refine z_get C G clX12 1 rfl 14 (by decide) m_fl_RX12_20 rfl dX12_ledTo_22 ?_
      refine lv_iload_n hx hb dX12_ledTo_25 rfl (lv_at hl 1 rfl) ?_
      refine z_ild C G 0 rfl (vp_in_iff.mpr ⟨by omega, by omega⟩) dX12_ledTo_26 ?_
      refine lv_topi (fun v_7 ev_7 => ?_)
      subst ev_7
      refine z_Vi (bc := [[zO11 mo m_all m_has i_size i_next i_where i_token i_number i_word i_wrong i_farCrossing m_read i_z0 i_crossings i_inns m_posts m_shut m_here i_steps i_done i_at i_gone m_was m_came m_seenAt m_rowWorth m_farBy m_used i_everywhere i_again0 i_d0 i_never i_firstCame i_longRun i_moved i_crowd i_l0 i_fitMany i_fitLeast i_fitMost m_fitPost m_fitEnd m_keptPosts i_x0], [zAr T 0 m_all 3952 f_all]]) (br := [[zAr T 0 m_posts 7 f_posts]]) (As := [.int x, .int (f_posts x.toNatClampNeg)]) (rest := []) C G (c_m_leadsTo l T mo m_all m_has i_size i_next i_where i_token i_number i_word i_wrong i_farCrossing m_read i_z0 i_crossings i_inns m_posts m_shut m_here i_steps i_done i_at i_gone m_was m_came m_seenAt m_rowWorth m_farBy m_used i_everywhere i_again0 i_d0 i_never i_firstCame i_longRun i_moved i_crowd i_l0 i_fitMany i_fitLeast i_fitMost m_fitPost m_fitEnd m_keptPosts i_x0 f_all x (f_posts x.toNatClampNeg) (by first | with_reducible assumption | with_reducible rfl | omega | assumption | rfl | decide) (by first | with_reducible assumption | with_reducible rfl | omega | assumption | rfl | decide) (by first | with_reducible assumption | with_reducible rfl | omega | assumption | rfl | decide) (by first | with_reducible assumption | with_reducible rfl | omega | assumption | rfl | decide) (by first | with_reducible assumption | with_reducible rfl | omega | assumption | rfl | decide)) (kV_RX12_190 C.2.2.2.2 (Nat.le_of_ble_eq_true rfl) (Nat.le_of_ble_eq_true rfl)) [1, 2] [1, 0] rfl rfl (ci := 11) (qc := (RX12, TX12, 43)) rfl rfl (List.mem_flatten.mpr ⟨_, List.mem_of_getElem? (i := 0) rfl, List.mem_cons_self⟩) rfl rfl hl.1 dX12_ledTo_27 (Nat.le_of_ble_eq_true rfl) (Nat.le_of_ble_eq_true rfl) (fun r_11 b1 H locs hw G => ?_)
      refine zAn4 hw ?_
      intro hbs9 h_8 h_9 h_10
      clear hw
      subst hbs9
      have G : zS T A s.heap s [[zAr T 0 m_posts 7 f_posts], [zO11 mo m_all m_has i_size i_next i_where i_token i_number i_word i_wrong i_farCrossing m_read i_z0 i_crossings i_inns m_posts m_shut m_here i_steps i_done i_at i_gone m_was m_came m_seenAt m_rowWorth m_farBy m_used i_everywhere i_again0 i_d0 i_never i_firstCame i_longRun i_moved i_crowd i_l0 i_fitMany i_fitLeast i_fitMost m_fitPost m_fitEnd m_keptPosts i_x0], [zAr T 0 m_all 3952 f_all]] _ _ := G
      subst h_8
      refine lv_istore_n (lv' := [(3, .int (zLe f_all i_z0 x (f_posts x.toNatClampNeg))), (4, .int (nI k)), (0, .ref mo), (1, .int c_), (2, .int n_)]) hx hb dX12_ledTo_30 rfl hl (by decide) rfl (fun ls hl => ?_)
      refine lv_iinc (v := nI (k + 1)) (lv' := [(4, .int (nI (k + 1))), (3, .int (zLe f_all i_z0 x (f_posts x.toNatClampNeg))), (0, .ref mo), (1, .int c_), (2, .int n_)]) hx hb dX12_ledTo_31 hl (k := 1) rfl (z_inc k 1) (by decide) rfl (fun ls hl => ?_)
      refine lv_goto (tgt := 5) hx hb dX12_ledTo_34 (by decide) ?_
      have G := G.sub (bs' := [[zO11 mo m_all m_has i_size i_next i_where i_token i_number i_word i_wrong i_farCrossing m_read i_z0 i_crossings i_inns m_posts m_shut m_here i_steps i_done i_at i_gone m_was m_came m_seenAt m_rowWorth m_farBy m_used i_everywhere i_again0 i_d0 i_never i_firstCame i_longRun i_moved i_crowd i_l0 i_fitMany i_fitLeast i_fitMost m_fitPost m_fitEnd m_keptPosts i_x0], [zAr T 0 m_all 3952 f_all], [zAr T 0 m_posts 7 f_posts]]) [1, 2, 0] rfl
      exact ih_5 (k + 1) (zLe f_all i_z0 x (f_posts x.toNatClampNeg)) (show ((k + 1) = 0 ∨ ((k + 1) : Int) ≤ n_.toInt) ∧ (zLe f_all i_z0 x (f_posts x.toNatClampNeg)) = zLed (zStp f_all i_z0 i_inns f_posts) (k + 1) c_ ∧ 0 ≤ (zLe f_all i_z0 x (f_posts x.toNatClampNeg)).toInt ∧ (zLe f_all i_z0 x (f_posts x.toNatClampNeg)).toInt ≤ 6 from ⟨by omega, (show _ = zStp _ _ _ _ (zLed _ k c_) by rw [← hq]; unfold zStp; rw [if_pos ⟨by assumption, by omega⟩]), by omega, by omega⟩) (show (n_.toInt - (k + 1)).toNat < (n_.toInt - k).toNat from by omega) _ _ ls G (lv_sub hl [0, 1, 2, 3, 4] rfl)
    · have h_6 : (zInn i_inns x ∨ (zRd f_all i_z0 x).toInt ≤ 0) := h_6
      refine lv_if_eq (tgt := 37) hx hb dX12_ledTo_16 (by decide) (fun _ => ?_) (fun q => absurd (by decide) q)
      refine lv_iload_n hx hb dX12_ledTo_37 rfl (lv_at hl 1 rfl) ?_
      have G := G.sub (bs' := [[zO11 mo m_all m_has i_size i_next i_where i_token i_number i_word i_wrong i_farCrossing m_read i_z0 i_crossings i_inns m_posts m_shut m_here i_steps i_done i_at i_gone m_was m_came m_seenAt m_rowWorth m_farBy m_used i_everywhere i_again0 i_d0 i_never i_firstCame i_longRun i_moved i_crowd i_l0 i_fitMany i_fitLeast i_fitMost m_fitPost m_fitEnd m_keptPosts i_x0], [zAr T 0 m_all 3952 f_all], [zAr T 0 m_posts 7 f_posts]]) [1, 2, 0] rfl
      exact z_back hQ9 (z_iret C hr hlocks G (Nat.le_of_ble_eq_true rfl) (Nat.le_of_ble_eq_true rfl) dX12_ledTo_38 ⟨rfl, (by first | (rw [show n_.toNatClampNeg = k by omega]; exact hq) | (rw [zLed_fix (k := k) (by rw [← hq]; unfold zStp; rw [if_neg (fun g9 => (show zInn i_inns x ∨ (zRd f_all i_z0 x).toInt ≤ 0 by assumption).elim g9.1 (fun g => absurd g9.2 (by omega)))]) n_.toNatClampNeg (by omega)]; exact hq)), (by first | with_reducible assumption | omega | trivial | assumption), (by first | with_reducible assumption | omega | trivial | assumption)⟩)
set_option maxHeartbeats 4000000 in
set_option maxRecDepth 100000 in
/-- c_m_trees -/
theorem c_m_trees (l : Launch) (T : zTy) (mo : Nat) (m_all : Nat) (m_has : Nat) (i_size : Int32) (i_next : Int32) (i_where : Int32) (i_token : Int32) (i_number : Int32) (i_word : Int32) (i_wrong : Int32) (i_farCrossing : Int32) (m_read : Nat) (i_z0 : Int32) (i_crossings : Int32) (i_inns : Int32) (m_posts : Nat) (m_shut : Nat) (m_here : Nat) (i_steps : Int32) (i_done : Int32) (i_at : Int32) (i_gone : Int32) (m_was : Nat) (m_came : Nat) (m_seenAt : Nat) (m_rowWorth : Nat) (m_farBy : Nat) (m_used : Nat) (i_everywhere : Int32) (i_again0 : Int32) (i_d0 : Int32) (i_never : Int32) (i_firstCame : Int32) (i_longRun : Int32) (i_moved : Int32) (i_crowd : Int32) (i_l0 : Int32) (i_fitMany : Int32) (i_fitLeast : Int32) (i_fitMost : Int32) (m_fitPost : Nat) (m_fitEnd : Nat) (m_keptPosts : Nat) (i_x0 : Int32) (f_all : Nat → Int32) (f_posts : Nat → Int32) (f_shut : Nat → Int32) (f_here : Nat → Int32) (l_ : Int32) (hB : zBI f_all) : zMi l T yX12_trees cX12_trees 7 (some .int) 6 0 0 [.ref mo, .int l_] [[zO11 mo m_all m_has i_size i_next i_where i_token i_number i_word i_wrong i_farCrossing m_read i_z0 i_crossings i_inns m_posts m_shut m_here i_steps i_done i_at i_gone m_was m_came m_seenAt m_rowWorth m_farBy m_used i_everywhere i_again0 i_d0 i_never i_firstCame i_longRun i_moved i_crowd i_l0 i_fitMany i_fitLeast i_fitMost m_fitPost m_fitEnd m_keptPosts i_x0], [zAr T 0 m_all 3952 f_all], [zAr T 0 m_posts 7 f_posts], [zAr T 0 m_shut 7 f_shut], [zAr T 0 m_here 7 f_here]] (fun (r : Int32) bs => ∃ (j_z0 : Int32) (j_crossings : Int32) (j_inns : Int32) (j_steps : Int32) (j_done : Int32) (g_posts : Nat → Int32) (g_shut : Nat → Int32) (g_here : Nat → Int32), bs = [[zO11 mo m_all m_has i_size i_next i_where i_token i_number i_word i_wrong i_farCrossing m_read j_z0 j_crossings j_inns m_posts m_shut m_here j_steps j_done i_at i_gone m_was m_came m_seenAt m_rowWorth m_farBy m_used i_everywhere i_again0 i_d0 i_never i_firstCame i_longRun i_moved i_crowd i_l0 i_fitMany i_fitLeast i_fitMost m_fitPost m_fitEnd m_keptPosts i_x0], [zAr T 0 m_all 3952 f_all], [zAr T 0 m_posts 7 g_posts], [zAr T 0 m_shut 7 g_shut], [zAr T 0 m_here 7 g_here]]) := by
  refine zMi_of (own := RX12) (by decide) rfl (Nat.le_of_ble_eq_true rfl) ?_
  intro p e s m args below meth c A ls C hr hlocks hnm hAe G hl
  refine zHide (fun Q9 hQ9 => ?_)
  have hx := C.1
  have hb := C.2.1
  have hl : lv_has ls 7 [(0, .ref mo), (1, .int l_)] := hl
  refine lv_aload_n hx hb dX12_trees_0 rfl (lv_at hl 0 rfl) ?_
  refine lv_iload_n hx hb dX12_trees_1 rfl (lv_at hl 1 rfl) ?_
  refine z_Vi (bc := [[zO11 mo m_all m_has i_size i_next i_where i_token i_number i_word i_wrong i_farCrossing m_read i_z0 i_crossings i_inns m_posts m_shut m_here i_steps i_done i_at i_gone m_was m_came m_seenAt m_rowWorth m_farBy m_used i_everywhere i_again0 i_d0 i_never i_firstCame i_longRun i_moved i_crowd i_l0 i_fitMany i_fitLeast i_fitMost m_fitPost m_fitEnd m_keptPosts i_x0], [zAr T 0 m_all 3952 f_all], [zAr T 0 m_posts 7 f_posts], [zAr T 0 m_shut 7 f_shut], [zAr T 0 m_here 7 f_here]]) (br := []) (As := [.int l_]) (rest := []) C G (c_m_isLand l T mo m_all m_has i_size i_next i_where i_token i_number i_word i_wrong i_farCrossing m_read i_z0 i_crossings i_inns m_posts m_shut m_here i_steps i_done i_at i_gone m_was m_came m_seenAt m_rowWorth m_farBy m_used i_everywhere i_again0 i_d0 i_never i_firstCame i_longRun i_moved i_crowd i_l0 i_fitMany i_fitLeast i_fitMost m_fitPost m_fitEnd m_keptPosts i_x0 f_all f_posts f_shut f_here l_ (by first | with_reducible assumption | with_reducible rfl | omega | assumption | rfl | decide)) (kV_RX12_184 C.2.2.2.2 (Nat.le_of_ble_eq_true rfl) (Nat.le_of_ble_eq_true rfl)) [0, 1, 2, 3, 4] [0, 0, 0, 0, 0] rfl rfl (ci := 11) (qc := (RX12, TX12, 43)) rfl rfl (List.mem_flatten.mpr ⟨_, List.mem_of_getElem? (i := 0) rfl, List.mem_cons_self⟩) rfl rfl hl.1 dX12_trees_2 (Nat.le_of_ble_eq_true rfl) (Nat.le_of_ble_eq_true rfl) (fun r_10 b1 H locs hw G => ?_)
  refine zEx8 hw ?_
  intro j_z0_1 j_crossings_2 j_inns_3 j_steps_4 j_done_5 g_posts_6 g_shut_7 g_here_8
  refine zCu2 ?_
  intro hbs9 hc_9
  clear hw
  subst hbs9
  have G : zS T A s.heap s [[zO11 mo m_all m_has i_size i_next i_where i_token i_number i_word i_wrong i_farCrossing m_read j_z0_1 j_crossings_2 j_inns_3 m_posts m_shut m_here j_steps_4 j_done_5 i_at i_gone m_was m_came m_seenAt m_rowWorth m_farBy m_used i_everywhere i_again0 i_d0 i_never i_firstCame i_longRun i_moved i_crowd i_l0 i_fitMany i_fitLeast i_fitMost m_fitPost m_fitEnd m_keptPosts i_x0], [zAr T 0 m_all 3952 f_all], [zAr T 0 m_posts 7 g_posts_6], [zAr T 0 m_shut 7 g_shut_7], [zAr T 0 m_here 7 g_here_8]] _ _ := G
  rcases hc_9 with ⟨rfl, h_11, h_12, h_13, h_14, h_15, h_16, h_17, h_18, h_19, h_20, h_21, h_22⟩ | ⟨rfl, h_23⟩
  · have h_11 : 0 ≤ l_.toInt := h_11
    have h_12 : l_.toInt ≤ 1 := h_12
    have h_13 : l_.toInt < (f_all 0).toInt := h_13
    have h_14 : j_z0_1.toInt = 610 + 51 * l_.toInt := h_14
    have h_15 : zML f_all j_z0_1 j_crossings_2 := h_15
    have h_16 : zMP g_posts_6 := h_16
    have h_17 : j_inns_3 = f_all (j_z0_1.toInt.toNat + 1) := h_17
    have h_18 : j_steps_4 = 0 := h_18
    have h_19 : j_done_5 = 0 := h_19
    have h_20 : (∀ j, j < 7 → g_posts_6 j = zPt f_all j_z0_1 (nI j)) := h_20
    have h_21 : (∀ j, j < 7 → g_shut_7 j = 0) := h_21
    have h_22 : (∀ j, j < 7 → g_here_8 j = zWk f_all j_z0_1 j) := h_22
    have hLx := h_15
    have hcr := hLx.cr
    have hzx := hLx.1
    have hPx := h_16
    refine lv_if_ne (tgt := 10) hx hb dX12_trees_5 (by decide) (fun _ => ?_) (fun q => absurd q (by decide))
    refine lv_aload_n hx hb dX12_trees_10 rfl (lv_at hl 0 rfl) ?_
    refine z_Vi (bc := [[zO11 mo m_all m_has i_size i_next i_where i_token i_number i_word i_wrong i_farCrossing m_read j_z0_1 j_crossings_2 j_inns_3 m_posts m_shut m_here j_steps_4 j_done_5 i_at i_gone m_was m_came m_seenAt m_rowWorth m_farBy m_used i_everywhere i_again0 i_d0 i_never i_firstCame i_longRun i_moved i_crowd i_l0 i_fitMany i_fitLeast i_fitMost m_fitPost m_fitEnd m_keptPosts i_x0], [zAr T 0 m_all 3952 f_all]]) (br := [[zAr T 0 m_posts 7 g_posts_6], [zAr T 0 m_shut 7 g_shut_7], [zAr T 0 m_here 7 g_here_8]]) (As := []) (rest := []) C G (c_m_waysMany l T mo m_all m_has i_size i_next i_where i_token i_number i_word i_wrong i_farCrossing m_read j_z0_1 j_crossings_2 j_inns_3 m_posts m_shut m_here j_steps_4 j_done_5 i_at i_gone m_was m_came m_seenAt m_rowWorth m_farBy m_used i_everywhere i_again0 i_d0 i_never i_firstCame i_longRun i_moved i_crowd i_l0 i_fitMany i_fitLeast i_fitMost m_fitPost m_fitEnd m_keptPosts i_x0 f_all (by first | with_reducible assumption | with_reducible rfl | omega | assumption | rfl | decide)) (kV_RX12_229 C.2.2.2.2 (Nat.le_of_ble_eq_true rfl) (Nat.le_of_ble_eq_true rfl)) [0, 1] [0, 0] rfl rfl (ci := 11) (qc := (RX12, TX12, 43)) rfl rfl (List.mem_flatten.mpr ⟨_, List.mem_of_getElem? (i := 0) rfl, List.mem_cons_self⟩) rfl rfl hl.1 dX12_trees_11 (Nat.le_of_ble_eq_true rfl) (Nat.le_of_ble_eq_true rfl) (fun r_26 b1 H locs hw G => ?_)
    refine zAn3 hw ?_
    intro hbs9 h_24 h_25
    clear hw
    subst hbs9
    have G : zS T A s.heap s [[zAr T 0 m_posts 7 g_posts_6], [zAr T 0 m_shut 7 g_shut_7], [zAr T 0 m_here 7 g_here_8], [zO11 mo m_all m_has i_size i_next i_where i_token i_number i_word i_wrong i_farCrossing m_read j_z0_1 j_crossings_2 j_inns_3 m_posts m_shut m_here j_steps_4 j_done_5 i_at i_gone m_was m_came m_seenAt m_rowWorth m_farBy m_used i_everywhere i_again0 i_d0 i_never i_firstCame i_longRun i_moved i_crowd i_l0 i_fitMany i_fitLeast i_fitMost m_fitPost m_fitEnd m_keptPosts i_x0], [zAr T 0 m_all 3952 f_all]] _ _ := G
    refine lv_istore_n (lv' := [(2, .int r_26), (0, .ref mo), (1, .int l_)]) hx hb dX12_trees_14 rfl hl (by decide) rfl (fun ls hl => ?_)
    refine lv_iconst (v := 0) hx hb dX12_trees_15 (by decide) ?_
    refine lv_istore_n (lv' := [(3, .int 0), (2, .int r_26), (0, .ref mo), (1, .int l_)]) hx hb dX12_trees_16 rfl hl (by decide) rfl (fun ls hl => ?_)
    refine lv_iconst (v := 0) hx hb dX12_trees_17 (by decide) ?_
    refine lv_istore (lv' := [(4, .int 0), (3, .int 0), (2, .int r_26), (0, .ref mo), (1, .int l_)]) hx hb dX12_trees_18 hl (by decide) rfl (fun ls hl => ?_)
    refine z_lp3 (T := T) 20 (fun (w : Nat) (u : Int32) (xposts : Nat → Int32) => [[zAr T 0 m_posts 7 xposts], [zAr T 0 m_shut 7 g_shut_7], [zAr T 0 m_here 7 g_here_8], [zO11 mo m_all m_has i_size i_next i_where i_token i_number i_word i_wrong i_farCrossing m_read j_z0_1 j_crossings_2 j_inns_3 m_posts m_shut m_here j_steps_4 j_done_5 i_at i_gone m_was m_came m_seenAt m_rowWorth m_farBy m_used i_everywhere i_again0 i_d0 i_never i_firstCame i_longRun i_moved i_crowd i_l0 i_fitMany i_fitLeast i_fitMost m_fitPost m_fitEnd m_keptPosts i_x0], [zAr T 0 m_all 3952 f_all]]) (fun (w : Nat) (u : Int32) (xposts : Nat → Int32) => [(4, .int (nI w)), (3, .int u), (2, .int r_26), (0, .ref mo), (1, .int l_)]) (fun (w : Nat) (u : Int32) (xposts : Nat → Int32) => w ≤ 16384 ∧ zMP xposts) (fun (w : Nat) (u : Int32) (xposts : Nat → Int32) => 16384 - w) ?_ 0 0 g_posts_6 (show 0 ≤ 16384 ∧ zMP g_posts_6 from ⟨by omega, (by assumption)⟩) G (lv_sub hl [0, 1, 2, 3, 4] rfl)
    intro w u xposts hI9 ih_20 H locs ls G hl
    replace hI9 : w ≤ 16384 ∧ zMP xposts := hI9
    refine zAn2 hI9 ?_
    intro hww hQ
    clear hI9
    replace G : zS T A s.heap s [[zAr T 0 m_posts 7 xposts], [zAr T 0 m_shut 7 g_shut_7], [zAr T 0 m_here 7 g_here_8], [zO11 mo m_all m_has i_size i_next i_where i_token i_number i_word i_wrong i_farCrossing m_read j_z0_1 j_crossings_2 j_inns_3 m_posts m_shut m_here j_steps_4 j_done_5 i_at i_gone m_was m_came m_seenAt m_rowWorth m_farBy m_used i_everywhere i_again0 i_d0 i_never i_firstCame i_longRun i_moved i_crowd i_l0 i_fitMany i_fitLeast i_fitMost m_fitPost m_fitEnd m_keptPosts i_x0], [zAr T 0 m_all 3952 f_all]] _ _ := G
    replace hl : lv_has ls 7 [(4, .int (nI w)), (3, .int u), (2, .int r_26), (0, .ref mo), (1, .int l_)] := hl
    refine lv_iload hx hb dX12_trees_20 (lv_at hl 0 rfl) ?_
    refine lv_iload_n hx hb dX12_trees_22 rfl (lv_at hl 2 rfl) ?_
    refine lv_icmp_ge (tgt := 108) hx hb dX12_trees_23 (by decide) (fun c_27 => ?_) (fun c_27 => ?_)
    · have c_27n : r_26.toInt ≤ (w : Int) := by have q := (fa_le _ _).mp c_27; rw [nI_toInt (n := w) (by omega)] at q; exact q
      refine lv_iload_n hx hb dX12_trees_108 rfl (lv_at hl 1 rfl) ?_
      have G := G.sub (bs' := [[zO11 mo m_all m_has i_size i_next i_where i_token i_number i_word i_wrong i_farCrossing m_read j_z0_1 j_crossings_2 j_inns_3 m_posts m_shut m_here j_steps_4 j_done_5 i_at i_gone m_was m_came m_seenAt m_rowWorth m_farBy m_used i_everywhere i_again0 i_d0 i_never i_firstCame i_longRun i_moved i_crowd i_l0 i_fitMany i_fitLeast i_fitMost m_fitPost m_fitEnd m_keptPosts i_x0], [zAr T 0 m_all 3952 f_all], [zAr T 0 m_posts 7 xposts], [zAr T 0 m_shut 7 g_shut_7], [zAr T 0 m_here 7 g_here_8]]) [3, 4, 0, 1, 2] rfl
      exact z_back hQ9 (z_iret C hr hlocks G (Nat.le_of_ble_eq_true rfl) (Nat.le_of_ble_eq_true rfl) dX12_trees_109 ⟨j_z0_1, j_crossings_2, j_inns_3, j_steps_4, j_done_5, xposts, g_shut_7, g_here_8, rfl⟩)
    · have c_27n : ¬ r_26.toInt ≤ (w : Int) := fun q => c_27 ((fa_le _ _).mpr (by rw [nI_toInt (n := w) (by omega)]; exact q))
      refine lv_aload_n hx hb dX12_trees_26 rfl (lv_at hl 3 rfl) ?_
      refine lv_iload hx hb dX12_trees_27 (lv_at hl 0 rfl) ?_
      have ti_28 : (nI w).toInt = ((w : Nat) : Int) := nI_toInt (by omega)
      refine z_Vv (bc := [[zO11 mo m_all m_has i_size i_next i_where i_token i_number i_word i_wrong i_farCrossing m_read j_z0_1 j_crossings_2 j_inns_3 m_posts m_shut m_here j_steps_4 j_done_5 i_at i_gone m_was m_came m_seenAt m_rowWorth m_farBy m_used i_everywhere i_again0 i_d0 i_never i_firstCame i_longRun i_moved i_crowd i_l0 i_fitMany i_fitLeast i_fitMost m_fitPost m_fitEnd m_keptPosts i_x0], [zAr T 0 m_all 3952 f_all], [zAr T 0 m_posts 7 xposts]]) (br := [[zAr T 0 m_shut 7 g_shut_7], [zAr T 0 m_here 7 g_here_8]]) (As := [.int (nI w)]) (rest := []) C G (c_m_setsWay l T mo m_all m_has i_size i_next i_where i_token i_number i_word i_wrong i_farCrossing m_read j_z0_1 j_crossings_2 j_inns_3 m_posts m_shut m_here j_steps_4 j_done_5 i_at i_gone m_was m_came m_seenAt m_rowWorth m_farBy m_used i_everywhere i_again0 i_d0 i_never i_firstCame i_longRun i_moved i_crowd i_l0 i_fitMany i_fitLeast i_fitMost m_fitPost m_fitEnd m_keptPosts i_x0 f_all xposts (nI w) (by first | with_reducible assumption | with_reducible rfl | omega | assumption | rfl | decide) (by first | with_reducible assumption | with_reducible rfl | omega | assumption | rfl | decide) (by first | with_reducible assumption | with_reducible rfl | omega | assumption | rfl | decide)) (kV_RX12_226 C.2.2.2.2 (Nat.le_of_ble_eq_true rfl) (Nat.le_of_ble_eq_true rfl)) [3, 4, 0] [0, 2, 0] rfl rfl (ci := 11) (qc := (RX12, TX12, 43)) rfl rfl (List.mem_flatten.mpr ⟨_, List.mem_of_getElem? (i := 0) rfl, List.mem_cons_self⟩) rfl rfl hl.1 dX12_trees_29 (Nat.le_of_ble_eq_true rfl) (Nat.le_of_ble_eq_true rfl) (fun b1 H locs hw G => ?_)
      refine zEx1 hw ?_
      intro g_posts_29
      refine zCu2 ?_
      intro hbs9 h_30
      clear hw
      subst hbs9
      have G : zS T A s.heap s [[zAr T 0 m_shut 7 g_shut_7], [zAr T 0 m_here 7 g_here_8], [zO11 mo m_all m_has i_size i_next i_where i_token i_number i_word i_wrong i_farCrossing m_read j_z0_1 j_crossings_2 j_inns_3 m_posts m_shut m_here j_steps_4 j_done_5 i_at i_gone m_was m_came m_seenAt m_rowWorth m_farBy m_used i_everywhere i_again0 i_d0 i_never i_firstCame i_longRun i_moved i_crowd i_l0 i_fitMany i_fitLeast i_fitMost m_fitPost m_fitEnd m_keptPosts i_x0], [zAr T 0 m_all 3952 f_all], [zAr T 0 m_posts 7 g_posts_29]] _ _ := G
      refine lv_iconst (v := 1) hx hb dX12_trees_32 (by decide) ?_
      refine lv_istore (lv' := [(5, .int 1), (4, .int (nI w)), (3, .int u), (2, .int r_26), (0, .ref mo), (1, .int l_)]) hx hb dX12_trees_33 hl (by decide) rfl (fun ls hl => ?_)
      refine lv_iconst (v := 0) hx hb dX12_trees_35 (by decide) ?_
      refine lv_istore (lv' := [(6, .int 0), (5, .int 1), (4, .int (nI w)), (3, .int u), (2, .int r_26), (0, .ref mo), (1, .int l_)]) hx hb dX12_trees_36 hl (by decide) rfl (fun ls hl => ?_)
      refine z_lp2 (T := T) 38 (fun (i : Nat) (b9 : Int32) => [[zAr T 0 m_shut 7 g_shut_7], [zAr T 0 m_here 7 g_here_8], [zO11 mo m_all m_has i_size i_next i_where i_token i_number i_word i_wrong i_farCrossing m_read j_z0_1 j_crossings_2 j_inns_3 m_posts m_shut m_here j_steps_4 j_done_5 i_at i_gone m_was m_came m_seenAt m_rowWorth m_farBy m_used i_everywhere i_again0 i_d0 i_never i_firstCame i_longRun i_moved i_crowd i_l0 i_fitMany i_fitLeast i_fitMost m_fitPost m_fitEnd m_keptPosts i_x0], [zAr T 0 m_all 3952 f_all], [zAr T 0 m_posts 7 g_posts_29]]) (fun (i : Nat) (b9 : Int32) => [(6, .int (nI i)), (5, .int b9), (4, .int (nI w)), (3, .int u), (2, .int r_26), (0, .ref mo), (1, .int l_)]) (fun (i : Nat) (b9 : Int32) => i ≤ 7) (fun (i : Nat) (b9 : Int32) => 7 - i) ?_ 0 1 (show 0 ≤ 7 from by omega) G (lv_sub hl [0, 1, 2, 3, 4, 5, 6] rfl)
      intro i b9 hi ih_38 H locs ls G hl
      replace hi : i ≤ 7 := hi
      replace G : zS T A s.heap s [[zAr T 0 m_shut 7 g_shut_7], [zAr T 0 m_here 7 g_here_8], [zO11 mo m_all m_has i_size i_next i_where i_token i_number i_word i_wrong i_farCrossing m_read j_z0_1 j_crossings_2 j_inns_3 m_posts m_shut m_here j_steps_4 j_done_5 i_at i_gone m_was m_came m_seenAt m_rowWorth m_farBy m_used i_everywhere i_again0 i_d0 i_never i_firstCame i_longRun i_moved i_crowd i_l0 i_fitMany i_fitLeast i_fitMost m_fitPost m_fitEnd m_keptPosts i_x0], [zAr T 0 m_all 3952 f_all], [zAr T 0 m_posts 7 g_posts_29]] _ _ := G
      replace hl : lv_has ls 7 [(6, .int (nI i)), (5, .int b9), (4, .int (nI w)), (3, .int u), (2, .int r_26), (0, .ref mo), (1, .int l_)] := hl
      refine lv_iload hx hb dX12_trees_38 (lv_at hl 0 rfl) ?_
      refine lv_aload_n hx hb dX12_trees_40 rfl (lv_at hl 5 rfl) ?_
      refine z_get C G clX12 2 rfl 12 (by decide) m_fl_RX12_169 rfl dX12_trees_41 ?_
      refine lv_icmp_ge (tgt := 89) hx hb dX12_trees_44 (by decide) (fun c_32 => ?_) (fun c_32 => ?_)
      · have c_32n : j_crossings_2.toInt ≤ (i : Int) := by have q := (fa_le _ _).mp c_32; rw [nI_toInt (n := i) (by omega)] at q; exact q
        refine lv_iload_n hx hb dX12_trees_89 rfl (lv_at hl 3 rfl) ?_
        refine lv_iload hx hb dX12_trees_90 (lv_at hl 1 rfl) ?_
        refine lv_if_eq (tgt := 99) hx hb dX12_trees_92 (by decide) (fun c_33 => ?_) (fun c_33 => ?_)
        · have c_33n : b9.toInt = (0 : Int) := (fa_eq _ _).mp c_33
          refine lv_iconst (v := 0) hx hb dX12_trees_99 (by decide) ?_
          refine lv_iadd hx hb dX12_trees_100 ?_
          refine lv_istore_n (lv' := [(3, .int (u + 0)), (6, .int (nI i)), (5, .int b9), (4, .int (nI w)), (2, .int r_26), (0, .ref mo), (1, .int l_)]) hx hb dX12_trees_101 rfl hl (by decide) rfl (fun ls hl => ?_)
          refine lv_iinc (v := nI (w + 1)) (lv' := [(4, .int (nI (w + 1))), (3, .int (u + 0)), (6, .int (nI i)), (5, .int b9), (2, .int r_26), (0, .ref mo), (1, .int l_)]) hx hb dX12_trees_102 hl (k := 3) rfl (z_inc w 1) (by decide) rfl (fun ls hl => ?_)
          refine lv_goto (tgt := 20) hx hb dX12_trees_105 (by decide) ?_
          have G := G.sub (bs' := [[zAr T 0 m_posts 7 g_posts_29], [zAr T 0 m_shut 7 g_shut_7], [zAr T 0 m_here 7 g_here_8], [zO11 mo m_all m_has i_size i_next i_where i_token i_number i_word i_wrong i_farCrossing m_read j_z0_1 j_crossings_2 j_inns_3 m_posts m_shut m_here j_steps_4 j_done_5 i_at i_gone m_was m_came m_seenAt m_rowWorth m_farBy m_used i_everywhere i_again0 i_d0 i_never i_firstCame i_longRun i_moved i_crowd i_l0 i_fitMany i_fitLeast i_fitMost m_fitPost m_fitEnd m_keptPosts i_x0], [zAr T 0 m_all 3952 f_all]]) [4, 0, 1, 2, 3] rfl
          exact ih_20 (w + 1) (u + 0) g_posts_29 (show (w + 1) ≤ 16384 ∧ zMP g_posts_29 from ⟨by omega, (by assumption)⟩) (show 16384 - (w + 1) < 16384 - w from by omega) _ _ ls G (lv_sub hl [0, 1, 4, 5, 6] rfl)
        · have c_33n : ¬ b9.toInt = (0 : Int) := fun q => c_33 ((fa_eq _ _).mpr q)
          refine lv_iconst (v := 1) hx hb dX12_trees_95 (by decide) ?_
          refine lv_goto (tgt := 100) hx hb dX12_trees_96 (by decide) ?_
          refine lv_iadd hx hb dX12_trees_100 ?_
          refine lv_istore_n (lv' := [(3, .int (u + 1)), (6, .int (nI i)), (5, .int b9), (4, .int (nI w)), (2, .int r_26), (0, .ref mo), (1, .int l_)]) hx hb dX12_trees_101 rfl hl (by decide) rfl (fun ls hl => ?_)
          refine lv_iinc (v := nI (w + 1)) (lv' := [(4, .int (nI (w + 1))), (3, .int (u + 1)), (6, .int (nI i)), (5, .int b9), (2, .int r_26), (0, .ref mo), (1, .int l_)]) hx hb dX12_trees_102 hl (k := 3) rfl (z_inc w 1) (by decide) rfl (fun ls hl => ?_)
          refine lv_goto (tgt := 20) hx hb dX12_trees_105 (by decide) ?_
          have G := G.sub (bs' := [[zAr T 0 m_posts 7 g_posts_29], [zAr T 0 m_shut 7 g_shut_7], [zAr T 0 m_here 7 g_here_8], [zO11 mo m_all m_has i_size i_next i_where i_token i_number i_word i_wrong i_farCrossing m_read j_z0_1 j_crossings_2 j_inns_3 m_posts m_shut m_here j_steps_4 j_done_5 i_at i_gone m_was m_came m_seenAt m_rowWorth m_farBy m_used i_everywhere i_again0 i_d0 i_never i_firstCame i_longRun i_moved i_crowd i_l0 i_fitMany i_fitLeast i_fitMost m_fitPost m_fitEnd m_keptPosts i_x0], [zAr T 0 m_all 3952 f_all]]) [4, 0, 1, 2, 3] rfl
          exact ih_20 (w + 1) (u + 1) g_posts_29 (show (w + 1) ≤ 16384 ∧ zMP g_posts_29 from ⟨by omega, (by assumption)⟩) (show 16384 - (w + 1) < 16384 - w from by omega) _ _ ls G (lv_sub hl [0, 1, 4, 5, 6] rfl)
      · have c_32n : ¬ j_crossings_2.toInt ≤ (i : Int) := fun q => c_32 ((fa_le _ _).mpr (by rw [nI_toInt (n := i) (by omega)]; exact q))
        refine lv_iload hx hb dX12_trees_47 (lv_at hl 1 rfl) ?_
        refine lv_if_eq (tgt := 89) hx hb dX12_trees_49 (by decide) (fun c_34 => ?_) (fun c_34 => ?_)
        · have c_34n : b9.toInt = (0 : Int) := (fa_eq _ _).mp c_34
          refine lv_iload_n hx hb dX12_trees_89 rfl (lv_at hl 3 rfl) ?_
          refine lv_iload hx hb dX12_trees_90 (lv_at hl 1 rfl) ?_
          refine lv_if_eq (tgt := 99) hx hb dX12_trees_92 (by decide) (fun _ => ?_) (fun q => absurd c_34 q)
          refine lv_iconst (v := 0) hx hb dX12_trees_99 (by decide) ?_
          refine lv_iadd hx hb dX12_trees_100 ?_
          refine lv_istore_n (lv' := [(3, .int (u + 0)), (6, .int (nI i)), (5, .int b9), (4, .int (nI w)), (2, .int r_26), (0, .ref mo), (1, .int l_)]) hx hb dX12_trees_101 rfl hl (by decide) rfl (fun ls hl => ?_)
          refine lv_iinc (v := nI (w + 1)) (lv' := [(4, .int (nI (w + 1))), (3, .int (u + 0)), (6, .int (nI i)), (5, .int b9), (2, .int r_26), (0, .ref mo), (1, .int l_)]) hx hb dX12_trees_102 hl (k := 3) rfl (z_inc w 1) (by decide) rfl (fun ls hl => ?_)
          refine lv_goto (tgt := 20) hx hb dX12_trees_105 (by decide) ?_
          have G := G.sub (bs' := [[zAr T 0 m_posts 7 g_posts_29], [zAr T 0 m_shut 7 g_shut_7], [zAr T 0 m_here 7 g_here_8], [zO11 mo m_all m_has i_size i_next i_where i_token i_number i_word i_wrong i_farCrossing m_read j_z0_1 j_crossings_2 j_inns_3 m_posts m_shut m_here j_steps_4 j_done_5 i_at i_gone m_was m_came m_seenAt m_rowWorth m_farBy m_used i_everywhere i_again0 i_d0 i_never i_firstCame i_longRun i_moved i_crowd i_l0 i_fitMany i_fitLeast i_fitMost m_fitPost m_fitEnd m_keptPosts i_x0], [zAr T 0 m_all 3952 f_all]]) [4, 0, 1, 2, 3] rfl
          exact ih_20 (w + 1) (u + 0) g_posts_29 (show (w + 1) ≤ 16384 ∧ zMP g_posts_29 from ⟨by omega, (by assumption)⟩) (show 16384 - (w + 1) < 16384 - w from by omega) _ _ ls G (lv_sub hl [0, 1, 4, 5, 6] rfl)
        · have c_34n : ¬ b9.toInt = (0 : Int) := fun q => c_34 ((fa_eq _ _).mpr q)
          refine lv_aload_n hx hb dX12_trees_52 rfl (lv_at hl 5 rfl) ?_
          refine lv_iload hx hb dX12_trees_53 (lv_at hl 0 rfl) ?_
          have ti_35 : (nI i).toInt = ((i : Nat) : Int) := nI_toInt (by omega)
          refine z_Vi (bc := [[zO11 mo m_all m_has i_size i_next i_where i_token i_number i_word i_wrong i_farCrossing m_read j_z0_1 j_crossings_2 j_inns_3 m_posts m_shut m_here j_steps_4 j_done_5 i_at i_gone m_was m_came m_seenAt m_rowWorth m_farBy m_used i_everywhere i_again0 i_d0 i_never i_firstCame i_longRun i_moved i_crowd i_l0 i_fitMany i_fitLeast i_fitMost m_fitPost m_fitEnd m_keptPosts i_x0], [zAr T 0 m_all 3952 f_all]]) (br := [[zAr T 0 m_shut 7 g_shut_7], [zAr T 0 m_here 7 g_here_8], [zAr T 0 m_posts 7 g_posts_29]]) (As := [.int (nI i)]) (rest := []) C G (c_m_isFree l T mo m_all m_has i_size i_next i_where i_token i_number i_word i_wrong i_farCrossing m_read j_z0_1 j_crossings_2 j_inns_3 m_posts m_shut m_here j_steps_4 j_done_5 i_at i_gone m_was m_came m_seenAt m_rowWorth m_farBy m_used i_everywhere i_again0 i_d0 i_never i_firstCame i_longRun i_moved i_crowd i_l0 i_fitMany i_fitLeast i_fitMost m_fitPost m_fitEnd m_keptPosts i_x0 f_all (nI i) (by first | with_reducible assumption | with_reducible rfl | omega | assumption | rfl | decide) (by first | with_reducible assumption | with_reducible rfl | omega | assumption | rfl | decide) (by first | with_reducible assumption | with_reducible rfl | omega | assumption | rfl | decide)) (kV_RX12_223 C.2.2.2.2 (Nat.le_of_ble_eq_true rfl) (Nat.le_of_ble_eq_true rfl)) [2, 3] [2, 0] rfl rfl (ci := 11) (qc := (RX12, TX12, 43)) rfl rfl (List.mem_flatten.mpr ⟨_, List.mem_of_getElem? (i := 0) rfl, List.mem_cons_self⟩) rfl rfl hl.1 dX12_trees_55 (Nat.le_of_ble_eq_true rfl) (Nat.le_of_ble_eq_true rfl) (fun r_37 b1 H locs hw G => ?_)
          refine zAn2 hw ?_
          intro hbs9 hc_36
          clear hw
          subst hbs9
          have G : zS T A s.heap s [[zAr T 0 m_shut 7 g_shut_7], [zAr T 0 m_here 7 g_here_8], [zAr T 0 m_posts 7 g_posts_29], [zO11 mo m_all m_has i_size i_next i_where i_token i_number i_word i_wrong i_farCrossing m_read j_z0_1 j_crossings_2 j_inns_3 m_posts m_shut m_here j_steps_4 j_done_5 i_at i_gone m_was m_came m_seenAt m_rowWorth m_farBy m_used i_everywhere i_again0 i_d0 i_never i_firstCame i_longRun i_moved i_crowd i_l0 i_fitMany i_fitLeast i_fitMost m_fitPost m_fitEnd m_keptPosts i_x0], [zAr T 0 m_all 3952 f_all]] _ _ := G
          rcases hc_36 with ⟨rfl, h_38, h_39⟩ | ⟨rfl, h_40⟩
          · have h_38 : ¬ zInn j_inns_3 (nI i) := h_38
            have h_39 : 0 < (zRd f_all j_z0_1 (nI i)).toInt := h_39
            refine lv_if_eq (tgt := 76) hx hb dX12_trees_58 (by decide) (fun q => absurd q (by decide)) (fun _ => ?_)
            refine lv_aload_n hx hb dX12_trees_61 rfl (lv_at hl 5 rfl) ?_
            refine lv_aload_n hx hb dX12_trees_62 rfl (lv_at hl 5 rfl) ?_
            refine lv_iload hx hb dX12_trees_63 (lv_at hl 0 rfl) ?_
            refine lv_bipush (v := 7) hx hb dX12_trees_65 (by decide) ?_
            have ti_41 : (nI i).toInt = ((i : Nat) : Int) := nI_toInt (by omega)
            refine z_Vi (bc := [[zO11 mo m_all m_has i_size i_next i_where i_token i_number i_word i_wrong i_farCrossing m_read j_z0_1 j_crossings_2 j_inns_3 m_posts m_shut m_here j_steps_4 j_done_5 i_at i_gone m_was m_came m_seenAt m_rowWorth m_farBy m_used i_everywhere i_again0 i_d0 i_never i_firstCame i_longRun i_moved i_crowd i_l0 i_fitMany i_fitLeast i_fitMost m_fitPost m_fitEnd m_keptPosts i_x0], [zAr T 0 m_all 3952 f_all], [zAr T 0 m_posts 7 g_posts_29]]) (br := [[zAr T 0 m_shut 7 g_shut_7], [zAr T 0 m_here 7 g_here_8]]) (As := [.int (nI i), .int 7]) (rest := [.ref mo]) C G (c_m_ledTo l T mo m_all m_has i_size i_next i_where i_token i_number i_word i_wrong i_farCrossing m_read j_z0_1 j_crossings_2 j_inns_3 m_posts m_shut m_here j_steps_4 j_done_5 i_at i_gone m_was m_came m_seenAt m_rowWorth m_farBy m_used i_everywhere i_again0 i_d0 i_never i_firstCame i_longRun i_moved i_crowd i_l0 i_fitMany i_fitLeast i_fitMost m_fitPost m_fitEnd m_keptPosts i_x0 f_all g_posts_29 (nI i) 7 (by first | with_reducible assumption | with_reducible rfl | omega | assumption | rfl | decide) (by first | with_reducible assumption | with_reducible rfl | omega | assumption | rfl | decide) (by first | with_reducible assumption | with_reducible rfl | omega | assumption | rfl | decide) (by first | with_reducible assumption | with_reducible rfl | omega | assumption | rfl | decide) (by first | with_reducible assumption | with_reducible rfl | omega | assumption | rfl | decide) (by first | with_reducible assumption | with_reducible rfl | omega | assumption | rfl | decide)) (kV_RX12_248 C.2.2.2.2 (Nat.le_of_ble_eq_true rfl) (Nat.le_of_ble_eq_true rfl)) [3, 4, 2] [2, 0, 0] rfl rfl (ci := 11) (qc := (RX12, TX12, 43)) rfl rfl (List.mem_flatten.mpr ⟨_, List.mem_of_getElem? (i := 0) rfl, List.mem_cons_self⟩) rfl rfl hl.1 dX12_trees_67 (Nat.le_of_ble_eq_true rfl) (Nat.le_of_ble_eq_true rfl) (fun r_45 b1 H locs hw G => ?_)
            refine zAn4 hw ?_
            intro hbs9 h_42 h_43 h_44
            clear hw
            subst hbs9
            have G : zS T A s.heap s [[zAr T 0 m_shut 7 g_shut_7], [zAr T 0 m_here 7 g_here_8], [zO11 mo m_all m_has i_size i_next i_where i_token i_number i_word i_wrong i_farCrossing m_read j_z0_1 j_crossings_2 j_inns_3 m_posts m_shut m_here j_steps_4 j_done_5 i_at i_gone m_was m_came m_seenAt m_rowWorth m_farBy m_used i_everywhere i_again0 i_d0 i_never i_firstCame i_longRun i_moved i_crowd i_l0 i_fitMany i_fitLeast i_fitMost m_fitPost m_fitEnd m_keptPosts i_x0], [zAr T 0 m_all 3952 f_all], [zAr T 0 m_posts 7 g_posts_29]] _ _ := G
            subst h_42
            refine z_Vi (bc := [[zO11 mo m_all m_has i_size i_next i_where i_token i_number i_word i_wrong i_farCrossing m_read j_z0_1 j_crossings_2 j_inns_3 m_posts m_shut m_here j_steps_4 j_done_5 i_at i_gone m_was m_came m_seenAt m_rowWorth m_farBy m_used i_everywhere i_again0 i_d0 i_never i_firstCame i_longRun i_moved i_crowd i_l0 i_fitMany i_fitLeast i_fitMost m_fitPost m_fitEnd m_keptPosts i_x0]]) (br := [[zAr T 0 m_shut 7 g_shut_7], [zAr T 0 m_here 7 g_here_8], [zAr T 0 m_all 3952 f_all], [zAr T 0 m_posts 7 g_posts_29]]) (As := [.int (zLed (zStp f_all j_z0_1 j_inns_3 g_posts_29) (7 : Int32).toNatClampNeg (nI i))]) (rest := []) C G (c_m_isInn l T mo m_all m_has i_size i_next i_where i_token i_number i_word i_wrong i_farCrossing m_read j_z0_1 j_crossings_2 j_inns_3 m_posts m_shut m_here j_steps_4 j_done_5 i_at i_gone m_was m_came m_seenAt m_rowWorth m_farBy m_used i_everywhere i_again0 i_d0 i_never i_firstCame i_longRun i_moved i_crowd i_l0 i_fitMany i_fitLeast i_fitMost m_fitPost m_fitEnd m_keptPosts i_x0 (zLed (zStp f_all j_z0_1 j_inns_3 g_posts_29) (7 : Int32).toNatClampNeg (nI i))) (kV_RX12_178 C.2.2.2.2 (Nat.le_of_ble_eq_true rfl) (Nat.le_of_ble_eq_true rfl)) [2] [2] rfl rfl (ci := 11) (qc := (RX12, TX12, 43)) rfl rfl (List.mem_flatten.mpr ⟨_, List.mem_of_getElem? (i := 0) rfl, List.mem_cons_self⟩) rfl rfl hl.1 dX12_trees_70 (Nat.le_of_ble_eq_true rfl) (Nat.le_of_ble_eq_true rfl) (fun r_47 b1 H locs hw G => ?_)
            refine zAn2 hw ?_
            intro hbs9 hc_46
            clear hw
            subst hbs9
            have G : zS T A s.heap s [[zAr T 0 m_shut 7 g_shut_7], [zAr T 0 m_here 7 g_here_8], [zAr T 0 m_all 3952 f_all], [zAr T 0 m_posts 7 g_posts_29], [zO11 mo m_all m_has i_size i_next i_where i_token i_number i_word i_wrong i_farCrossing m_read j_z0_1 j_crossings_2 j_inns_3 m_posts m_shut m_here j_steps_4 j_done_5 i_at i_gone m_was m_came m_seenAt m_rowWorth m_farBy m_used i_everywhere i_again0 i_d0 i_never i_firstCame i_longRun i_moved i_crowd i_l0 i_fitMany i_fitLeast i_fitMost m_fitPost m_fitEnd m_keptPosts i_x0]] _ _ := G
            rcases hc_46 with ⟨rfl, h_48⟩ | ⟨rfl, h_49⟩
            · have h_48 : zInn j_inns_3 (zLed (zStp f_all j_z0_1 j_inns_3 g_posts_29) (7 : Int32).toNatClampNeg (nI i)) := h_48
              refine lv_if_eq (tgt := 80) hx hb dX12_trees_73 (by decide) (fun q => absurd q (by decide)) (fun _ => ?_)
              refine lv_iconst (v := 1) hx hb dX12_trees_76 (by decide) ?_
              refine lv_goto (tgt := 81) hx hb dX12_trees_77 (by decide) ?_
              refine lv_istore (lv' := [(5, .int 1), (6, .int (nI i)), (4, .int (nI w)), (3, .int u), (2, .int r_26), (0, .ref mo), (1, .int l_)]) hx hb dX12_trees_81 hl (by decide) rfl (fun ls hl => ?_)
              refine lv_iinc (v := nI (i + 1)) (lv' := [(6, .int (nI (i + 1))), (5, .int 1), (4, .int (nI w)), (3, .int u), (2, .int r_26), (0, .ref mo), (1, .int l_)]) hx hb dX12_trees_83 hl (k := 1) rfl (z_inc i 1) (by decide) rfl (fun ls hl => ?_)
              refine lv_goto (tgt := 38) hx hb dX12_trees_86 (by decide) ?_
              have G := G.sub (bs' := [[zAr T 0 m_shut 7 g_shut_7], [zAr T 0 m_here 7 g_here_8], [zO11 mo m_all m_has i_size i_next i_where i_token i_number i_word i_wrong i_farCrossing m_read j_z0_1 j_crossings_2 j_inns_3 m_posts m_shut m_here j_steps_4 j_done_5 i_at i_gone m_was m_came m_seenAt m_rowWorth m_farBy m_used i_everywhere i_again0 i_d0 i_never i_firstCame i_longRun i_moved i_crowd i_l0 i_fitMany i_fitLeast i_fitMost m_fitPost m_fitEnd m_keptPosts i_x0], [zAr T 0 m_all 3952 f_all], [zAr T 0 m_posts 7 g_posts_29]]) [0, 1, 4, 2, 3] rfl
              exact ih_38 (i + 1) 1 (show (i + 1) ≤ 7 from by omega) (show 7 - (i + 1) < 7 - i from by omega) _ _ ls G (lv_sub hl [0, 1, 2, 3, 4, 5, 6] rfl)
            · have h_49 : ¬ zInn j_inns_3 (zLed (zStp f_all j_z0_1 j_inns_3 g_posts_29) (7 : Int32).toNatClampNeg (nI i)) := h_49
              refine lv_if_eq (tgt := 80) hx hb dX12_trees_73 (by decide) (fun _ => ?_) (fun q => absurd (by decide) q)
              refine lv_iconst (v := 0) hx hb dX12_trees_80 (by decide) ?_
              refine lv_istore (lv' := [(5, .int 0), (6, .int (nI i)), (4, .int (nI w)), (3, .int u), (2, .int r_26), (0, .ref mo), (1, .int l_)]) hx hb dX12_trees_81 hl (by decide) rfl (fun ls hl => ?_)
              refine lv_iinc (v := nI (i + 1)) (lv' := [(6, .int (nI (i + 1))), (5, .int 0), (4, .int (nI w)), (3, .int u), (2, .int r_26), (0, .ref mo), (1, .int l_)]) hx hb dX12_trees_83 hl (k := 1) rfl (z_inc i 1) (by decide) rfl (fun ls hl => ?_)
              refine lv_goto (tgt := 38) hx hb dX12_trees_86 (by decide) ?_
              have G := G.sub (bs' := [[zAr T 0 m_shut 7 g_shut_7], [zAr T 0 m_here 7 g_here_8], [zO11 mo m_all m_has i_size i_next i_where i_token i_number i_word i_wrong i_farCrossing m_read j_z0_1 j_crossings_2 j_inns_3 m_posts m_shut m_here j_steps_4 j_done_5 i_at i_gone m_was m_came m_seenAt m_rowWorth m_farBy m_used i_everywhere i_again0 i_d0 i_never i_firstCame i_longRun i_moved i_crowd i_l0 i_fitMany i_fitLeast i_fitMost m_fitPost m_fitEnd m_keptPosts i_x0], [zAr T 0 m_all 3952 f_all], [zAr T 0 m_posts 7 g_posts_29]]) [0, 1, 4, 2, 3] rfl
              exact ih_38 (i + 1) 0 (show (i + 1) ≤ 7 from by omega) (show 7 - (i + 1) < 7 - i from by omega) _ _ ls G (lv_sub hl [0, 1, 2, 3, 4, 5, 6] rfl)
          · have h_40 : (zInn j_inns_3 (nI i) ∨ (zRd f_all j_z0_1 (nI i)).toInt ≤ 0) := h_40
            refine lv_if_eq (tgt := 76) hx hb dX12_trees_58 (by decide) (fun _ => ?_) (fun q => absurd (by decide) q)
            refine lv_iconst (v := 1) hx hb dX12_trees_76 (by decide) ?_
            refine lv_goto (tgt := 81) hx hb dX12_trees_77 (by decide) ?_
            refine lv_istore (lv' := [(5, .int 1), (6, .int (nI i)), (4, .int (nI w)), (3, .int u), (2, .int r_26), (0, .ref mo), (1, .int l_)]) hx hb dX12_trees_81 hl (by decide) rfl (fun ls hl => ?_)
            refine lv_iinc (v := nI (i + 1)) (lv' := [(6, .int (nI (i + 1))), (5, .int 1), (4, .int (nI w)), (3, .int u), (2, .int r_26), (0, .ref mo), (1, .int l_)]) hx hb dX12_trees_83 hl (k := 1) rfl (z_inc i 1) (by decide) rfl (fun ls hl => ?_)
            refine lv_goto (tgt := 38) hx hb dX12_trees_86 (by decide) ?_
            have G := G.sub (bs' := [[zAr T 0 m_shut 7 g_shut_7], [zAr T 0 m_here 7 g_here_8], [zO11 mo m_all m_has i_size i_next i_where i_token i_number i_word i_wrong i_farCrossing m_read j_z0_1 j_crossings_2 j_inns_3 m_posts m_shut m_here j_steps_4 j_done_5 i_at i_gone m_was m_came m_seenAt m_rowWorth m_farBy m_used i_everywhere i_again0 i_d0 i_never i_firstCame i_longRun i_moved i_crowd i_l0 i_fitMany i_fitLeast i_fitMost m_fitPost m_fitEnd m_keptPosts i_x0], [zAr T 0 m_all 3952 f_all], [zAr T 0 m_posts 7 g_posts_29]]) [0, 1, 3, 4, 2] rfl
            exact ih_38 (i + 1) 1 (show (i + 1) ≤ 7 from by omega) (show 7 - (i + 1) < 7 - i from by omega) _ _ ls G (lv_sub hl [0, 1, 2, 3, 4, 5, 6] rfl)
  · have h_23 : (l_.toInt < 0 ∨ (f_all 0).toInt ≤ l_.toInt) := h_23
    refine lv_if_ne (tgt := 10) hx hb dX12_trees_5 (by decide) (fun q => absurd (by decide) q) (fun _ => ?_)
    refine lv_iconst (v := (-1)) hx hb dX12_trees_8 (by decide) ?_
    exact z_back hQ9 (z_iret C hr hlocks G (Nat.le_of_ble_eq_true rfl) (Nat.le_of_ble_eq_true rfl) dX12_trees_9 ⟨j_z0_1, j_crossings_2, j_inns_3, j_steps_4, j_done_5, g_posts_6, g_shut_7, g_here_8, rfl⟩)
theorem m_co_X12_gameBy : Cond.code yX12_gameBy cX12_gameBy 6 (some .int) ∈ zT := zmem1 zsub_7 112 rfl rfl
theorem m_ml_RX12_251 : Cond.methodLink RX12 251 yX12_gameBy ∈ zT := zmem1 zsub_7 109 rfl rfl
theorem m_im_X12_gameBy : Cond.instanceMethod yX12_gameBy ∈ zT := zmem1 zsub_7 111 rfl rfl
theorem m_se_X12_gameBy : Cond.selects RX12 yX12_gameBy yX12_gameBy ∈ zT := zmem 77 rfl rfl
theorem kV_RX12_251 {R : Room} {s : State} {args : Array Value} {d mc ms : Nat} (hts : ∀ w ∈ zT, w.before args s = true) (h1 : d + 1 ≤ R.frames) (h2 : 8 + (6 + 11) + 40 * d ≤ R.locals) : CallW R s args RX12 RX12 251 yX12_gameBy cX12_gameBy 6 (some .int) (zW yX12_gameBy cX12_gameBy 6 (some .int)) (zR d mc ms) mc ms 3 := z_cwV hts m_co_X12_gameBy m_ml_RX12_251 m_im_X12_gameBy m_se_X12_gameBy m_ii_RX12 (by decide +kernel) h1 h2
theorem dX12_led_0 : decode cX12_led 0 = .ok (.aload_n 0, 1) := zo_42 (by decide +kernel)
theorem dX12_led_1 : decode cX12_led 1 = .ok (.iload_n 1, 1) := zo_27 (by decide +kernel)
theorem dX12_led_2 : decode cX12_led 2 = .ok (.invokevirtual 184, 3) := zo_182 (by decide +kernel)
theorem dX12_led_5 : decode cX12_led 5 = .ok (.ifCond .eq 20, 3) := zo_153 (by decide +kernel)
theorem dX12_led_8 : decode cX12_led 8 = .ok (.aload_n 0, 1) := zo_42 (by decide +kernel)
theorem dX12_led_9 : decode cX12_led 9 = .ok (.iload_n 2, 1) := zo_28 (by decide +kernel)
theorem dX12_led_10 : decode cX12_led 10 = .ok (.invokevirtual 187, 3) := zo_182 (by decide +kernel)
theorem dX12_led_13 : decode cX12_led 13 = .ok (.ifCond .eq 12, 3) := zo_153 (by decide +kernel)
theorem dX12_led_16 : decode cX12_led 16 = .ok (.iload_n 3, 1) := zo_29 (by decide +kernel)
theorem dX12_led_17 : decode cX12_led 17 = .ok (.iconst 0, 1) := zo_3 (by decide +kernel)
theorem dX12_led_18 : decode cX12_led 18 = .ok (.iconst 2, 1) := zo_5 (by decide +kernel)
theorem dX12_led_19 : decode cX12_led 19 = .ok (.invokestatic 111, 3) := zo_184 (by decide +kernel)
theorem dX12_led_22 : decode cX12_led 22 = .ok (.ifCond .ne 6, 3) := zo_154 (by decide +kernel)
theorem dX12_led_25 : decode cX12_led 25 = .ok (.bipush (-2), 2) := zo_16 (by decide +kernel)
theorem dX12_led_27 : decode cX12_led 27 = .ok (.ireturn, 1) := zo_172 (by decide +kernel)
theorem dX12_led_28 : decode cX12_led 28 = .ok (.aload_n 0, 1) := zo_42 (by decide +kernel)
theorem dX12_led_29 : decode cX12_led 29 = .ok (.iload_n 2, 1) := zo_28 (by decide +kernel)
theorem dX12_led_30 : decode cX12_led 30 = .ok (.bipush 7, 2) := zo_16 (by decide +kernel)
theorem dX12_led_32 : decode cX12_led 32 = .ok (.invokevirtual 248, 3) := zo_182 (by decide +kernel)
theorem dX12_led_35 : decode cX12_led 35 = .ok (.istore 4, 2) := zo_54 (by decide +kernel)
theorem dX12_led_37 : decode cX12_led 37 = .ok (.aload_n 0, 1) := zo_42 (by decide +kernel)
theorem dX12_led_38 : decode cX12_led 38 = .ok (.iload 4, 2) := zo_21 (by decide +kernel)
theorem dX12_led_40 : decode cX12_led 40 = .ok (.invokevirtual 223, 3) := zo_182 (by decide +kernel)
theorem dX12_led_43 : decode cX12_led 43 = .ok (.ifCond .ne 45, 3) := zo_154 (by decide +kernel)
theorem dX12_led_46 : decode cX12_led 46 = .ok (.iconst 0, 1) := zo_3 (by decide +kernel)
theorem dX12_led_47 : decode cX12_led 47 = .ok (.istore 5, 2) := zo_54 (by decide +kernel)
theorem dX12_led_49 : decode cX12_led 49 = .ok (.aload_n 0, 1) := zo_42 (by decide +kernel)
theorem dX12_led_50 : decode cX12_led 50 = .ok (.iload_n 2, 1) := zo_28 (by decide +kernel)
theorem dX12_led_51 : decode cX12_led 51 = .ok (.iload 5, 2) := zo_21 (by decide +kernel)
theorem dX12_led_53 : decode cX12_led 53 = .ok (.invokevirtual 248, 3) := zo_182 (by decide +kernel)
theorem dX12_led_56 : decode cX12_led 56 = .ok (.iload 4, 2) := zo_21 (by decide +kernel)
theorem dX12_led_58 : decode cX12_led 58 = .ok (.if_icmp .eq 9, 3) := zo_159 (by decide +kernel)
theorem dX12_led_61 : decode cX12_led 61 = .ok (.iinc 5 1, 3) := zo_132 (by decide +kernel)
theorem dX12_led_64 : decode cX12_led 64 = .ok (.goto (-15), 3) := zo_167 (by decide +kernel)
theorem dX12_led_67 : decode cX12_led 67 = .ok (.iload_n 3, 1) := zo_29 (by decide +kernel)
theorem dX12_led_68 : decode cX12_led 68 = .ok (.ifCond .ne 8, 3) := zo_154 (by decide +kernel)
theorem dX12_led_71 : decode cX12_led 71 = .ok (.iload 5, 2) := zo_21 (by decide +kernel)
theorem dX12_led_73 : decode cX12_led 73 = .ok (.goto 14, 3) := zo_167 (by decide +kernel)
theorem dX12_led_76 : decode cX12_led 76 = .ok (.iload_n 3, 1) := zo_29 (by decide +kernel)
theorem dX12_led_77 : decode cX12_led 77 = .ok (.iconst 1, 1) := zo_4 (by decide +kernel)
theorem dX12_led_78 : decode cX12_led 78 = .ok (.if_icmp .ne 8, 3) := zo_160 (by decide +kernel)
theorem dX12_led_81 : decode cX12_led 81 = .ok (.iload 4, 2) := zo_21 (by decide +kernel)
theorem dX12_led_83 : decode cX12_led 83 = .ok (.goto 4, 3) := zo_167 (by decide +kernel)
theorem dX12_led_86 : decode cX12_led 86 = .ok (.iconst 0, 1) := zo_3 (by decide +kernel)
theorem dX12_led_87 : decode cX12_led 87 = .ok (.ireturn, 1) := zo_172 (by decide +kernel)
theorem dX12_led_88 : decode cX12_led 88 = .ok (.iconst 1, 1) := zo_4 (by decide +kernel)
theorem dX12_led_89 : decode cX12_led 89 = .ok (.istore 5, 2) := zo_54 (by decide +kernel)
theorem dX12_led_91 : decode cX12_led 91 = .ok (.aload_n 0, 1) := zo_42 (by decide +kernel)
theorem dX12_led_92 : decode cX12_led 92 = .ok (.iload 4, 2) := zo_21 (by decide +kernel)
theorem dX12_led_94 : decode cX12_led 94 = .ok (.iload 5, 2) := zo_21 (by decide +kernel)
theorem dX12_led_96 : decode cX12_led 96 = .ok (.invokevirtual 248, 3) := zo_182 (by decide +kernel)
theorem dX12_led_99 : decode cX12_led 99 = .ok (.iload 4, 2) := zo_21 (by decide +kernel)
theorem dX12_led_101 : decode cX12_led 101 = .ok (.if_icmp .eq 9, 3) := zo_159 (by decide +kernel)
theorem dX12_led_104 : decode cX12_led 104 = .ok (.iinc 5 1, 3) := zo_132 (by decide +kernel)
theorem dX12_led_107 : decode cX12_led 107 = .ok (.goto (-16), 3) := zo_167 (by decide +kernel)
theorem dX12_led_110 : decode cX12_led 110 = .ok (.iload_n 3, 1) := zo_29 (by decide +kernel)
theorem dX12_led_111 : decode cX12_led 111 = .ok (.iconst 2, 1) := zo_5 (by decide +kernel)
theorem dX12_led_112 : decode cX12_led 112 = .ok (.if_icmp .ne 8, 3) := zo_160 (by decide +kernel)
theorem dX12_led_115 : decode cX12_led 115 = .ok (.iload 5, 2) := zo_21 (by decide +kernel)
theorem dX12_led_117 : decode cX12_led 117 = .ok (.goto 4, 3) := zo_167 (by decide +kernel)
theorem dX12_led_120 : decode cX12_led 120 = .ok (.iconst (-1), 1) := zo_2 (by decide +kernel)
theorem dX12_led_121 : decode cX12_led 121 = .ok (.ireturn, 1) := zo_172 (by decide +kernel)
theorem dX12_gameBy_0 : decode cX12_gameBy 0 = .ok (.aload_n 0, 1) := zo_42 (by decide +kernel)
theorem dX12_gameBy_1 : decode cX12_gameBy 1 = .ok (.invokevirtual 175, 3) := zo_182 (by decide +kernel)
theorem dX12_gameBy_4 : decode cX12_gameBy 4 = .ok (.iload_n 2, 1) := zo_28 (by decide +kernel)
theorem dX12_gameBy_5 : decode cX12_gameBy 5 = .ok (.iconst 1, 1) := zo_4 (by decide +kernel)
theorem dX12_gameBy_6 : decode cX12_gameBy 6 = .ok (.isub, 1) := zo_100 (by decide +kernel)
theorem dX12_gameBy_7 : decode cX12_gameBy 7 = .ok (.istore 4, 2) := zo_54 (by decide +kernel)
theorem dX12_gameBy_9 : decode cX12_gameBy 9 = .ok (.iload 4, 2) := zo_21 (by decide +kernel)
theorem dX12_gameBy_11 : decode cX12_gameBy 11 = .ok (.ifCond .lt 57, 3) := zo_155 (by decide +kernel)
theorem dX12_gameBy_14 : decode cX12_gameBy 14 = .ok (.iload_n 1, 1) := zo_27 (by decide +kernel)
theorem dX12_gameBy_15 : decode cX12_gameBy 15 = .ok (.iconst 3, 1) := zo_6 (by decide +kernel)
theorem dX12_gameBy_16 : decode cX12_gameBy 16 = .ok (.iload 4, 2) := zo_21 (by decide +kernel)
theorem dX12_gameBy_18 : decode cX12_gameBy 18 = .ok (.imul, 1) := zo_104 (by decide +kernel)
theorem dX12_gameBy_19 : decode cX12_gameBy 19 = .ok (.ishr, 1) := zo_122 (by decide +kernel)
theorem dX12_gameBy_20 : decode cX12_gameBy 20 = .ok (.bipush 7, 2) := zo_16 (by decide +kernel)
theorem dX12_gameBy_22 : decode cX12_gameBy 22 = .ok (.iand, 1) := zo_126 (by decide +kernel)
theorem dX12_gameBy_23 : decode cX12_gameBy 23 = .ok (.istore 5, 2) := zo_54 (by decide +kernel)
theorem dX12_gameBy_25 : decode cX12_gameBy 25 = .ok (.iload 5, 2) := zo_21 (by decide +kernel)
theorem dX12_gameBy_27 : decode cX12_gameBy 27 = .ok (.bipush 7, 2) := zo_16 (by decide +kernel)
theorem dX12_gameBy_29 : decode cX12_gameBy 29 = .ok (.if_icmp .ne 6, 3) := zo_160 (by decide +kernel)
theorem dX12_gameBy_32 : decode cX12_gameBy 32 = .ok (.goto 30, 3) := zo_167 (by decide +kernel)
theorem dX12_gameBy_35 : decode cX12_gameBy 35 = .ok (.aload_n 0, 1) := zo_42 (by decide +kernel)
theorem dX12_gameBy_36 : decode cX12_gameBy 36 = .ok (.iload 5, 2) := zo_21 (by decide +kernel)
theorem dX12_gameBy_38 : decode cX12_gameBy 38 = .ok (.invokevirtual 187, 3) := zo_182 (by decide +kernel)
theorem dX12_gameBy_41 : decode cX12_gameBy 41 = .ok (.ifCond .eq 12, 3) := zo_153 (by decide +kernel)
theorem dX12_gameBy_44 : decode cX12_gameBy 44 = .ok (.aload_n 0, 1) := zo_42 (by decide +kernel)
theorem dX12_gameBy_45 : decode cX12_gameBy 45 = .ok (.iload 5, 2) := zo_21 (by decide +kernel)
theorem dX12_gameBy_47 : decode cX12_gameBy 47 = .ok (.invokevirtual 223, 3) := zo_182 (by decide +kernel)
theorem dX12_gameBy_50 : decode cX12_gameBy 50 = .ok (.ifCond .ne 5, 3) := zo_154 (by decide +kernel)
theorem dX12_gameBy_53 : decode cX12_gameBy 53 = .ok (.iconst (-1), 1) := zo_2 (by decide +kernel)
theorem dX12_gameBy_54 : decode cX12_gameBy 54 = .ok (.ireturn, 1) := zo_172 (by decide +kernel)
theorem dX12_gameBy_55 : decode cX12_gameBy 55 = .ok (.aload_n 0, 1) := zo_42 (by decide +kernel)
theorem dX12_gameBy_56 : decode cX12_gameBy 56 = .ok (.iload 5, 2) := zo_21 (by decide +kernel)
theorem dX12_gameBy_58 : decode cX12_gameBy 58 = .ok (.invokevirtual 205, 3) := zo_182 (by decide +kernel)
theorem dX12_gameBy_61 : decode cX12_gameBy 61 = .ok (.pop, 1) := zo_87 (by decide +kernel)
theorem dX12_gameBy_62 : decode cX12_gameBy 62 = .ok (.iinc 4 (-1), 3) := zo_132 (by decide +kernel)
theorem dX12_gameBy_65 : decode cX12_gameBy 65 = .ok (.goto (-56), 3) := zo_167 (by decide +kernel)
theorem dX12_gameBy_68 : decode cX12_gameBy 68 = .ok (.aload_n 0, 1) := zo_42 (by decide +kernel)
theorem dX12_gameBy_69 : decode cX12_gameBy 69 = .ok (.iload_n 3, 1) := zo_29 (by decide +kernel)
theorem dX12_gameBy_70 : decode cX12_gameBy 70 = .ok (.invokevirtual 217, 3) := zo_182 (by decide +kernel)
theorem dX12_gameBy_73 : decode cX12_gameBy 73 = .ok (.ifCond .eq 10, 3) := zo_153 (by decide +kernel)
theorem dX12_gameBy_76 : decode cX12_gameBy 76 = .ok (.aload_n 0, 1) := zo_42 (by decide +kernel)
theorem dX12_gameBy_77 : decode cX12_gameBy 77 = .ok (.getfield 208, 3) := zo_180 (by decide +kernel)
theorem dX12_gameBy_80 : decode cX12_gameBy 80 = .ok (.goto 6, 3) := zo_167 (by decide +kernel)
theorem dX12_gameBy_83 : decode cX12_gameBy 83 = .ok (.sipush 500, 3) := zo_17 (by decide +kernel)
theorem dX12_gameBy_86 : decode cX12_gameBy 86 = .ok (.ireturn, 1) := zo_172 (by decide +kernel)
theorem dX12_game_0 : decode cX12_game 0 = .ok (.aload_n 0, 1) := zo_42 (by decide +kernel)
theorem dX12_game_1 : decode cX12_game 1 = .ok (.iload_n 1, 1) := zo_27 (by decide +kernel)
theorem dX12_game_2 : decode cX12_game 2 = .ok (.invokevirtual 184, 3) := zo_182 (by decide +kernel)
theorem dX12_game_5 : decode cX12_game 5 = .ok (.ifCond .eq 20, 3) := zo_153 (by decide +kernel)
theorem dX12_game_8 : decode cX12_game 8 = .ok (.aload_n 0, 1) := zo_42 (by decide +kernel)
theorem dX12_game_9 : decode cX12_game 9 = .ok (.iload_n 2, 1) := zo_28 (by decide +kernel)
theorem dX12_game_10 : decode cX12_game 10 = .ok (.invokevirtual 187, 3) := zo_182 (by decide +kernel)
theorem dX12_game_13 : decode cX12_game 13 = .ok (.ifCond .eq 12, 3) := zo_153 (by decide +kernel)
theorem dX12_game_16 : decode cX12_game 16 = .ok (.iload_n 3, 1) := zo_29 (by decide +kernel)
theorem dX12_game_17 : decode cX12_game 17 = .ok (.iconst 0, 1) := zo_3 (by decide +kernel)
theorem dX12_game_18 : decode cX12_game 18 = .ok (.iconst 3, 1) := zo_6 (by decide +kernel)
theorem dX12_game_19 : decode cX12_game 19 = .ok (.invokestatic 111, 3) := zo_184 (by decide +kernel)
theorem dX12_game_22 : decode cX12_game 22 = .ok (.ifCond .ne 6, 3) := zo_154 (by decide +kernel)
theorem dX12_game_25 : decode cX12_game 25 = .ok (.bipush (-9), 2) := zo_16 (by decide +kernel)
theorem dX12_game_27 : decode cX12_game 27 = .ok (.ireturn, 1) := zo_172 (by decide +kernel)
theorem dX12_game_28 : decode cX12_game 28 = .ok (.iconst 1, 1) := zo_4 (by decide +kernel)
theorem dX12_game_29 : decode cX12_game 29 = .ok (.iconst 3, 1) := zo_6 (by decide +kernel)
theorem dX12_game_30 : decode cX12_game 30 = .ok (.iload_n 3, 1) := zo_29 (by decide +kernel)
theorem dX12_game_31 : decode cX12_game 31 = .ok (.imul, 1) := zo_104 (by decide +kernel)
theorem dX12_game_32 : decode cX12_game 32 = .ok (.ishl, 1) := zo_120 (by decide +kernel)
theorem dX12_game_33 : decode cX12_game 33 = .ok (.istore 5, 2) := zo_54 (by decide +kernel)
theorem dX12_game_35 : decode cX12_game 35 = .ok (.iconst 0, 1) := zo_3 (by decide +kernel)
theorem dX12_game_36 : decode cX12_game 36 = .ok (.istore 6, 2) := zo_54 (by decide +kernel)
theorem dX12_game_38 : decode cX12_game 38 = .ok (.iload 6, 2) := zo_21 (by decide +kernel)
theorem dX12_game_40 : decode cX12_game 40 = .ok (.iload 5, 2) := zo_21 (by decide +kernel)
theorem dX12_game_42 : decode cX12_game 42 = .ok (.if_icmp .ge 24, 3) := zo_162 (by decide +kernel)
theorem dX12_game_45 : decode cX12_game 45 = .ok (.aload_n 0, 1) := zo_42 (by decide +kernel)
theorem dX12_game_46 : decode cX12_game 46 = .ok (.getfield 38, 3) := zo_180 (by decide +kernel)
theorem dX12_game_49 : decode cX12_game 49 = .ok (.iload 6, 2) := zo_21 (by decide +kernel)
theorem dX12_game_51 : decode cX12_game 51 = .ok (.aload_n 0, 1) := zo_42 (by decide +kernel)
theorem dX12_game_52 : decode cX12_game 52 = .ok (.iload 6, 2) := zo_21 (by decide +kernel)
theorem dX12_game_54 : decode cX12_game 54 = .ok (.iload_n 3, 1) := zo_29 (by decide +kernel)
theorem dX12_game_55 : decode cX12_game 55 = .ok (.iload_n 2, 1) := zo_28 (by decide +kernel)
theorem dX12_game_56 : decode cX12_game 56 = .ok (.invokevirtual 251, 3) := zo_182 (by decide +kernel)
theorem dX12_game_59 : decode cX12_game 59 = .ok (.iastore, 1) := zo_79 (by decide +kernel)
theorem dX12_game_60 : decode cX12_game 60 = .ok (.iinc 6 1, 3) := zo_132 (by decide +kernel)
theorem dX12_game_63 : decode cX12_game 63 = .ok (.goto (-25), 3) := zo_167 (by decide +kernel)
theorem dX12_game_66 : decode cX12_game 66 = .ok (.iconst (-1), 1) := zo_2 (by decide +kernel)
theorem dX12_game_67 : decode cX12_game 67 = .ok (.istore 6, 2) := zo_54 (by decide +kernel)
theorem dX12_game_69 : decode cX12_game 69 = .ok (.iload_n 3, 1) := zo_29 (by decide +kernel)
theorem dX12_game_70 : decode cX12_game 70 = .ok (.iconst 1, 1) := zo_4 (by decide +kernel)
theorem dX12_game_71 : decode cX12_game 71 = .ok (.isub, 1) := zo_100 (by decide +kernel)
theorem dX12_game_72 : decode cX12_game 72 = .ok (.istore 7, 2) := zo_54 (by decide +kernel)
theorem dX12_game_74 : decode cX12_game 74 = .ok (.iload 7, 2) := zo_21 (by decide +kernel)
theorem dX12_game_76 : decode cX12_game 76 = .ok (.ifCond .lt 161, 3) := zo_155 (by decide +kernel)
theorem dX12_game_79 : decode cX12_game 79 = .ok (.iload 5, 2) := zo_21 (by decide +kernel)
theorem dX12_game_81 : decode cX12_game 81 = .ok (.bipush 8, 2) := zo_16 (by decide +kernel)
theorem dX12_game_83 : decode cX12_game 83 = .ok (.idiv, 1) := zo_108 (by decide +kernel)
theorem dX12_game_84 : decode cX12_game 84 = .ok (.istore 5, 2) := zo_54 (by decide +kernel)
theorem dX12_game_86 : decode cX12_game 86 = .ok (.iconst 0, 1) := zo_3 (by decide +kernel)
theorem dX12_game_87 : decode cX12_game 87 = .ok (.istore 8, 2) := zo_54 (by decide +kernel)
theorem dX12_game_89 : decode cX12_game 89 = .ok (.iload 8, 2) := zo_21 (by decide +kernel)
theorem dX12_game_91 : decode cX12_game 91 = .ok (.iload 5, 2) := zo_21 (by decide +kernel)
theorem dX12_game_93 : decode cX12_game 93 = .ok (.if_icmp .ge 138, 3) := zo_162 (by decide +kernel)
theorem dX12_game_96 : decode cX12_game 96 = .ok (.iconst (-1), 1) := zo_2 (by decide +kernel)
theorem dX12_game_97 : decode cX12_game 97 = .ok (.istore 6, 2) := zo_54 (by decide +kernel)
theorem dX12_game_99 : decode cX12_game 99 = .ok (.iconst 0, 1) := zo_3 (by decide +kernel)
theorem dX12_game_100 : decode cX12_game 100 = .ok (.istore 9, 2) := zo_54 (by decide +kernel)
theorem dX12_game_102 : decode cX12_game 102 = .ok (.iload 9, 2) := zo_21 (by decide +kernel)
theorem dX12_game_104 : decode cX12_game 104 = .ok (.bipush 8, 2) := zo_16 (by decide +kernel)
theorem dX12_game_106 : decode cX12_game 106 = .ok (.if_icmp .ge 89, 3) := zo_162 (by decide +kernel)
theorem dX12_game_109 : decode cX12_game 109 = .ok (.aload_n 0, 1) := zo_42 (by decide +kernel)
theorem dX12_game_110 : decode cX12_game 110 = .ok (.getfield 38, 3) := zo_180 (by decide +kernel)
theorem dX12_game_113 : decode cX12_game 113 = .ok (.bipush 8, 2) := zo_16 (by decide +kernel)
theorem dX12_game_115 : decode cX12_game 115 = .ok (.iload 8, 2) := zo_21 (by decide +kernel)
theorem dX12_game_117 : decode cX12_game 117 = .ok (.imul, 1) := zo_104 (by decide +kernel)
theorem dX12_game_118 : decode cX12_game 118 = .ok (.iload 9, 2) := zo_21 (by decide +kernel)
theorem dX12_game_120 : decode cX12_game 120 = .ok (.iadd, 1) := zo_96 (by decide +kernel)
theorem dX12_game_121 : decode cX12_game 121 = .ok (.iaload, 1) := zo_46 (by decide +kernel)
theorem dX12_game_122 : decode cX12_game 122 = .ok (.istore 10, 2) := zo_54 (by decide +kernel)
theorem dX12_game_124 : decode cX12_game 124 = .ok (.iload 10, 2) := zo_21 (by decide +kernel)
theorem dX12_game_126 : decode cX12_game 126 = .ok (.iconst (-1), 1) := zo_2 (by decide +kernel)
theorem dX12_game_127 : decode cX12_game 127 = .ok (.if_icmp .eq 62, 3) := zo_159 (by decide +kernel)
theorem dX12_game_130 : decode cX12_game 130 = .ok (.iload 6, 2) := zo_21 (by decide +kernel)
theorem dX12_game_132 : decode cX12_game 132 = .ok (.iconst (-1), 1) := zo_2 (by decide +kernel)
theorem dX12_game_133 : decode cX12_game 133 = .ok (.if_icmp .eq 52, 3) := zo_159 (by decide +kernel)
theorem dX12_game_136 : decode cX12_game 136 = .ok (.iload 7, 2) := zo_21 (by decide +kernel)
theorem dX12_game_138 : decode cX12_game 138 = .ok (.iconst 2, 1) := zo_5 (by decide +kernel)
theorem dX12_game_139 : decode cX12_game 139 = .ok (.irem, 1) := zo_112 (by decide +kernel)
theorem dX12_game_140 : decode cX12_game 140 = .ok (.ifCond .ne 24, 3) := zo_154 (by decide +kernel)
theorem dX12_game_143 : decode cX12_game 143 = .ok (.iload 10, 2) := zo_21 (by decide +kernel)
theorem dX12_game_145 : decode cX12_game 145 = .ok (.aload_n 0, 1) := zo_42 (by decide +kernel)
theorem dX12_game_146 : decode cX12_game 146 = .ok (.getfield 38, 3) := zo_180 (by decide +kernel)
theorem dX12_game_149 : decode cX12_game 149 = .ok (.bipush 8, 2) := zo_16 (by decide +kernel)
theorem dX12_game_151 : decode cX12_game 151 = .ok (.iload 8, 2) := zo_21 (by decide +kernel)
theorem dX12_game_153 : decode cX12_game 153 = .ok (.imul, 1) := zo_104 (by decide +kernel)
theorem dX12_game_154 : decode cX12_game 154 = .ok (.iload 6, 2) := zo_21 (by decide +kernel)
theorem dX12_game_156 : decode cX12_game 156 = .ok (.iadd, 1) := zo_96 (by decide +kernel)
theorem dX12_game_157 : decode cX12_game 157 = .ok (.iaload, 1) := zo_46 (by decide +kernel)
theorem dX12_game_158 : decode cX12_game 158 = .ok (.if_icmp .lt 27, 3) := zo_161 (by decide +kernel)
theorem dX12_game_161 : decode cX12_game 161 = .ok (.goto 28, 3) := zo_167 (by decide +kernel)
theorem dX12_game_164 : decode cX12_game 164 = .ok (.iload 10, 2) := zo_21 (by decide +kernel)
theorem dX12_game_166 : decode cX12_game 166 = .ok (.aload_n 0, 1) := zo_42 (by decide +kernel)
theorem dX12_game_167 : decode cX12_game 167 = .ok (.getfield 38, 3) := zo_180 (by decide +kernel)
theorem dX12_game_170 : decode cX12_game 170 = .ok (.bipush 8, 2) := zo_16 (by decide +kernel)
theorem dX12_game_172 : decode cX12_game 172 = .ok (.iload 8, 2) := zo_21 (by decide +kernel)
theorem dX12_game_174 : decode cX12_game 174 = .ok (.imul, 1) := zo_104 (by decide +kernel)
theorem dX12_game_175 : decode cX12_game 175 = .ok (.iload 6, 2) := zo_21 (by decide +kernel)
theorem dX12_game_177 : decode cX12_game 177 = .ok (.iadd, 1) := zo_96 (by decide +kernel)
theorem dX12_game_178 : decode cX12_game 178 = .ok (.iaload, 1) := zo_46 (by decide +kernel)
theorem dX12_game_179 : decode cX12_game 179 = .ok (.if_icmp .gt 6, 3) := zo_163 (by decide +kernel)
theorem dX12_game_182 : decode cX12_game 182 = .ok (.goto 7, 3) := zo_167 (by decide +kernel)
theorem dX12_game_185 : decode cX12_game 185 = .ok (.iload 9, 2) := zo_21 (by decide +kernel)
theorem dX12_game_187 : decode cX12_game 187 = .ok (.istore 6, 2) := zo_54 (by decide +kernel)
theorem dX12_game_189 : decode cX12_game 189 = .ok (.iinc 9 1, 3) := zo_132 (by decide +kernel)
theorem dX12_game_192 : decode cX12_game 192 = .ok (.goto (-90), 3) := zo_167 (by decide +kernel)
theorem dX12_game_195 : decode cX12_game 195 = .ok (.aload_n 0, 1) := zo_42 (by decide +kernel)
theorem dX12_game_196 : decode cX12_game 196 = .ok (.getfield 38, 3) := zo_180 (by decide +kernel)
theorem dX12_game_199 : decode cX12_game 199 = .ok (.iload 8, 2) := zo_21 (by decide +kernel)
theorem dX12_game_201 : decode cX12_game 201 = .ok (.iload 6, 2) := zo_21 (by decide +kernel)
theorem dX12_game_203 : decode cX12_game 203 = .ok (.iconst (-1), 1) := zo_2 (by decide +kernel)
theorem dX12_game_204 : decode cX12_game 204 = .ok (.if_icmp .ne 7, 3) := zo_160 (by decide +kernel)
theorem dX12_game_207 : decode cX12_game 207 = .ok (.iconst (-1), 1) := zo_2 (by decide +kernel)
theorem dX12_game_208 : decode cX12_game 208 = .ok (.goto 16, 3) := zo_167 (by decide +kernel)
theorem dX12_game_211 : decode cX12_game 211 = .ok (.aload_n 0, 1) := zo_42 (by decide +kernel)
theorem dX12_game_212 : decode cX12_game 212 = .ok (.getfield 38, 3) := zo_180 (by decide +kernel)
theorem dX12_game_215 : decode cX12_game 215 = .ok (.bipush 8, 2) := zo_16 (by decide +kernel)
theorem dX12_game_217 : decode cX12_game 217 = .ok (.iload 8, 2) := zo_21 (by decide +kernel)
theorem dX12_game_219 : decode cX12_game 219 = .ok (.imul, 1) := zo_104 (by decide +kernel)
theorem dX12_game_220 : decode cX12_game 220 = .ok (.iload 6, 2) := zo_21 (by decide +kernel)
theorem dX12_game_222 : decode cX12_game 222 = .ok (.iadd, 1) := zo_96 (by decide +kernel)
theorem dX12_game_223 : decode cX12_game 223 = .ok (.iaload, 1) := zo_46 (by decide +kernel)
theorem dX12_game_224 : decode cX12_game 224 = .ok (.iastore, 1) := zo_79 (by decide +kernel)
theorem dX12_game_225 : decode cX12_game 225 = .ok (.iinc 8 1, 3) := zo_132 (by decide +kernel)
theorem dX12_game_228 : decode cX12_game 228 = .ok (.goto (-139), 3) := zo_167 (by decide +kernel)
theorem dX12_game_231 : decode cX12_game 231 = .ok (.iinc 7 (-1), 3) := zo_132 (by decide +kernel)
theorem dX12_game_234 : decode cX12_game 234 = .ok (.goto (-160), 3) := zo_167 (by decide +kernel)
theorem dX12_game_237 : decode cX12_game 237 = .ok (.iload 4, 2) := zo_21 (by decide +kernel)
theorem dX12_game_239 : decode cX12_game 239 = .ok (.ifCond .ne 12, 3) := zo_154 (by decide +kernel)
theorem dX12_game_242 : decode cX12_game 242 = .ok (.aload_n 0, 1) := zo_42 (by decide +kernel)
theorem dX12_game_243 : decode cX12_game 243 = .ok (.getfield 38, 3) := zo_180 (by decide +kernel)
theorem dX12_game_246 : decode cX12_game 246 = .ok (.iconst 0, 1) := zo_3 (by decide +kernel)
theorem dX12_game_247 : decode cX12_game 247 = .ok (.iaload, 1) := zo_46 (by decide +kernel)
theorem dX12_game_248 : decode cX12_game 248 = .ok (.goto 5, 3) := zo_167 (by decide +kernel)
theorem dX12_game_251 : decode cX12_game 251 = .ok (.iload 6, 2) := zo_21 (by decide +kernel)
theorem dX12_game_253 : decode cX12_game 253 = .ok (.ireturn, 1) := zo_172 (by decide +kernel)

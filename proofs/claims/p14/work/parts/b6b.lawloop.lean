/-! THE CLAIM OUT OF ONE WALK OF THE LAW'S BODY. Your part is whole_start (and what it stands on); all else here is the same for every law, but numbers. -/
def R_law : String := "TurnedPostsLaw"
def lw_P (b : Addr) (xs : List Int32) (args : Array Value) (s : State) : Prop := args = #[.ref b] ∧ s.IntsAt b xs ∧ xs.length ≤ 3072 ∧ (Jvm.Cond.and given_1 narrow_1).before args s = true
def lw_Q (_ : Array Value) (s : State) (o : Outcome) (t : State) : Prop := o = .returned (some (.int 1)) ∧ Framed s o t [] 600000 7302250
def lw_Z (below : List Frame) (a : Array Value) (s : State) : State → Prop := fun t => ∃ o, t.status = .running ∧ Ended t below o ∧ lw_Q a s o t
/-- the law's own end, with 1 on the stack, nothing written that was there before, its room as the claim has it -/
theorem lw_ret {p : Program} {l : Launch} {e : Env} {s : State} {m : MethodId} {below : List Frame} {meth : Method} {c : Code} {b : Nat} (hx : p.tables.exec = Jvm.exec) (hb : c.code = code) (hr : meth.sig.returnType = ret) (hlocks : meth.locks = false) {pc : Nat} {H : Heap} {ls : Array Slot} (hdg : decode code pc = .ok (.ireturn, 1)) : W p l e room_1 s m #[Value.ref b] below meth c H [] 600000 7302250 (lw_Z below #[Value.ref b] s) (F0 m pc ls [.int 1]) := by
  intro T hT X
  obtain ⟨fs, hret, hrun, hended, hW, hframe⟩ := X.leave (v := some (.int 1)) (hlocks := hlocks) (fun h => by rw [hr] at h; cases h)
  have hmeth' : T.vm.method? m = some meth := X.method'
  refine ⟨T.setFrames fs, ?_, .returned (some (.int 1)), hrun, hended, rfl, ⟨_, rfl⟩, hW, hframe⟩
  jvm_step X.here [X.here.top, hx, hb, hdg, hmeth', hr, ret, narrow_b1]
  (try refine ⟨rfl, ?_⟩); (try refine ⟨rfl, ?_⟩)
  first | (intro acts; rw [hret _ acts rfl rfl rfl]) | rw [hret _ _ rfl rfl rfl]
  exact Steps.refl _
/-- what holds at the law's entry: the machine, the code, the tables' words (any of lw_tbl by 'hts w (by decide +kernel)'), the script of L ints xs at the cell b, what the Statement gives of the start (any of its parts by flat_of_before) -/
def lw_At (p : Program) (s : State) (m : MethodId) (meth : Method) (c : Code) (b L : Nat) (xs : Nat → Int32) : Prop :=
  p.tables.exec = Jvm.exec ∧ c.code = code ∧ meth.sig.returnType = ret ∧ c.maxLocals = 4 ∧ s.vm.findClass R_law = some m.cls ∧ (∀ w ∈ lw_tbl, w.before #[Value.ref b] s = true) ∧ va_X b L xs s s.heap ∧ b < s.heap.size ∧ meth.locks = false ∧ (Jvm.Cond.and given_1 narrow_1).before #[Value.ref b] s = true

theorem zInv_le {T : zTy} {xo mo n4A n4B m1f : Nat} {bs : List va_W} (hI : zInv T xo mo n4A n4B m1f bs) : n4A ≤ 131072 ∧ n4B ≤ 131072 ∧ m1f ≤ 16384 := by
  refine hI _ ?_
  intro t im mk rd po co tr wa wb_ fi cd wt l0 l1 d0 d1 g0 g1 ln fl pl ft fk z0_ cr0_ inn0_ k10_ k20_ k30_ k40_ z1_ cr1_ inn1_ k11_ k21_ k31_ k41_ wd0_ dd0_ p10_ p20_ p30_ wd1_ dd1_ p11_ p21_ p31_ wg0_ gg0_ q10_ q20_ wg1_ gg1_ q11_ q21_ rl rdd rg r0 r1 tq r2 r3 r4 r5 r6 r7 r8 z wd wg wwA mdA wwB mdB wff e0f e1f wc cpo wcp wr tpo wrp wp fcd m0 wta l0a l1a d0a d1a g0a g1a lna fla pla fta fka z0_a cr0_a inn0_a k10_a k20_a k30_a k40_a z1_a cr1_a inn1_a k11_a k21_a k31_a k41_a wd0_a dd0_a p10_a p20_a p30_a wd1_a dd1_a p11_a p21_a p31_a wg0_a gg0_a q10_a q20_a wg1_a gg1_a q11_a q21_a qi fmk m1 wtb l0b l1b d0b d1b g0b g1b lnb flb plb ftb fkb z0_b cr0_b inn0_b k10_b k20_b k30_b k40_b z1_b cr1_b inn1_b k11_b k21_b k31_b k41_b wd0_b dd0_b p10_b p20_b p30_b wd1_b dd1_b p11_b p21_b p31_b wg0_b gg0_b q10_b q20_b wg1_b gg1_b q11_b q21_b m2 wtc l0c l1c d0c d1c g0c g1c lnc flc plc ftc fkc z0_c cr0_c inn0_c k10_c k20_c k30_c k40_c z1_c cr1_c inn1_c k11_c k21_c k31_c k41_c wd0_c dd0_c p10_c p20_c p30_c wd1_c dd1_c p11_c p21_c p31_c wg0_c gg0_c q10_c q20_c wg1_c gg1_c q11_c q21_c m_all m_has i_size i_next i_where i_token i_number i_word i_wrong i_farCrossing m_read i_z0 i_crossings i_inns m_posts m_shut m_here i_steps i_done i_at i_gone m_was m_came m_seenAt m_rowWorth m_farBy m_used i_everywhere i_again0 i_d0 i_never i_firstCame i_longRun i_moved i_crowd i_l0 i_fitMany i_fitLeast i_fitMost m_fitPost m_fitEnd m_keptPosts i_x0 f_all f_has f_read f_posts f_shut f_here f_was f_came f_seenAt f_rowWorth f_farBy f_used f_fitPost f_fitEnd f_keptPosts _ ht hK hz0_ hI0_ hz1_ hI1_ hd0_ hd1_ hg0_ hg1_ H_z H_wd H_wg H_wwA H_wwB H_wff H_wc H_wcp H_wr H_wrp H_wp hta hKa hz0_a hI0_a hz1_a hI1_a hd0_a hd1_a hg0_a hg1_a htb hKb hz0_b hI0_b hz1_b hI1_b hd0_b hd1_b hg0_b hg1_b htc hKc hz0_c hI0_c hz1_c hI1_c hd0_c hd1_c hg0_c hg1_c hm0 hm1 hm2 hFI hAI hHs hT hTa hTb hTc hV hVD
  obtain ⟨_, _, _, _, _, _, _, _, _, _, q1, _⟩ := H_wwA
  obtain ⟨_, _, _, _, _, _, _, _, _, _, q2, _⟩ := H_wwB
  obtain ⟨_, _, _, _, _, _, _, q3, _⟩ := H_wff
  exact ⟨zPw_le q1, zPw_le q2, zFw_le q3⟩
set_option maxHeartbeats 40000000 in
set_option maxRecDepth 100000 in
theorem z_from18 (l : Launch) {p : Program} {e : Env} {s : State} {m : MethodId} {b : Nat} {below : List Frame} {meth : Method} {c : Code} {T : zTy} {A : Nat → Prop} {L : Nat} {xs : Nat → Int32} (hx : p.tables.exec = Jvm.exec) (hb : c.code = cL_law) (hr : meth.sig.returnType = ret) (hlocks : meth.locks = false) (C : CallFix p m c cL_law 4 s #[Value.ref b] zT RL) (hX : va_X b L xs s s.heap) (hbl : b < s.heap.size) (hbA : ¬ A b) (hAe : A = fun q => s.heap.size ≤ q) (hL : L ≤ 3072) {xo mo : Nat} (a : Nat × List va_W × Nat × Nat × Nat) (ha : a.1 ≤ L ∧ zInv T xo mo a.2.2.1 a.2.2.2.1 a.2.2.2.2 a.2.1) {H : Heap} {locs : List Loc} {ls : Array Slot} (G : zS T A s.heap s a.2.1 H locs) (hl : lv_has ls 4 [(0, .ref b), (1, .ref xo), (2, .ref mo), (3, .int (nI a.1))]) : W p l e room_1 s m #[Value.ref b] below meth c H locs (220 + 2 * a.1) (27000 + 6 * (a.2.2.1 + a.2.2.2.1) + 2 * a.2.2.2.2) (lw_Z below #[Value.ref b] s) (F0 m 18 ls []) := by
  refine z_loopR (nL := 4) 18 (fun a : Nat × List va_W × Nat × Nat × Nat => a.2.1) (fun a => [(0, .ref b), (1, .ref xo), (2, .ref mo), (3, .int (nI a.1))]) (fun a => 220 + 2 * a.1) (fun a => 27000 + 6 * (a.2.2.1 + a.2.2.2.1) + 2 * a.2.2.2.2) (fun a => a.1 ≤ L ∧ zInv T xo mo a.2.2.1 a.2.2.2.1 a.2.2.2.2 a.2.1) (fun a => L - a.1) ?_ a ha G hl
  rintro ⟨i, bs, n4A, n4B, m1f⟩ ⟨hi, hI⟩ kn H locs ls G hl
  have hi : i ≤ L := hi
  have hI : zInv T xo mo n4A n4B m1f bs := hI
  have G : zS T A s.heap s bs H locs := G
  have hl : lv_has ls 4 [(0, .ref b), (1, .ref xo), (2, .ref mo), (3, .int (nI i))] := hl
  show W p l e room_1 s m #[Value.ref b] below meth c H locs (220 + 2 * i) (27000 + 6 * (n4A + n4B) + 2 * m1f) (lw_Z below #[Value.ref b] s) (F0 m 18 ls [])
  obtain ⟨hnA, hnB, hmf⟩ := zInv_le hI
  have kk : ∀ (n1 n2 n3 : Nat) (bs1 : List va_W), zInv T xo mo n1 n2 n3 bs1 → ∀ (H1 : Heap) (locs1 : List Loc) (ls1 : Array Slot), zS T A s.heap s bs1 H1 locs1 → lv_has ls1 4 [(0, .ref b), (1, .ref xo), (2, .ref mo), (3, .int (nI i))] → i + 6 ≤ L → W p l e room_1 s m #[Value.ref b] below meth c H1 locs1 (220 + 2 * i + 12) (27000 + 6 * (n1 + n2) + 2 * n3) (lw_Z below #[Value.ref b] s) (F0 m 1767 ls1 []) := by
    intro n1 n2 n3 bs1 hI1 H1 locs1 ls1 G hl hi6
    refine lv_iinc (v := nI (i + 6)) (lv' := [(3, .int (nI (i + 6))), (0, .ref b), (1, .ref xo), (2, .ref mo)]) hx hb dL_law_1767 hl (k := 3) rfl (z_inc i 6) (by decide) (zLvf_h rfl) (fun ls hl => ?_)
    refine lv_goto (tgt := 18) hx hb dL_law_1770 (by decide) ?_
    refine W.widen (k := 220 + 2 * (i + 6)) (n := 27000 + 6 * (n1 + n2) + 2 * n3) (by omega) (by omega) ?_
    exact kn ⟨i + 6, bs1, n1, n2, n3⟩ ⟨by show i + 6 ≤ L; omega, hI1⟩ (by show L - (i + 6) < L - i; omega) _ _ _ G (lv_sub hl [1, 2, 3, 0] rfl)
  have h6 : ((nI L) - 6).toInt = (L : Int) - 6 := pk_sub_toInt (b := 6) (by omega) (by omega)
  refine lv_iload_n hx hb dL_law_18 rfl (lv_at hl 3 rfl) ?_
  refine lv_aload_n hx hb dL_law_19 rfl (lv_at hl 0 rfl) ?_
  refine va_slen hx hb hX hbl hbA G.2.2.2.1 dL_law_20 ?_
  refine lv_bipush (v := 6) hx hb dL_law_21 (by decide) ?_
  refine lv_isub hx hb dL_law_23 ?_
  refine lv_icmp_gt (tgt := 1773) hx hb dL_law_24 (by decide) (fun c_1 => ?_) (fun c_1 => ?_)
  · have c_1n : ((nI L) - 6).toInt < (i : Int) := by have q := (fa_lt _ _).mp c_1; rw [nI_toInt (n := i) (by omega)] at q; exact q
    refine lv_iconst (v := 1) hx hb dL_law_1773 (by decide) ?_
    refine va_forget (fun q hq => by have h9 := G.2.2.2.1.2.2 q hq; rw [hAe] at h9; exact h9) ?_
    refine W.widen (k := 600000) (n := 7302250) (by omega) (by omega) ?_
    exact lw_ret hx hb hr hlocks dL_law_1774
  · have c_1n : ¬ ((nI L) - 6).toInt < (i : Int) := fun q => c_1 ((fa_lt _ _).mpr (by rw [nI_toInt (n := i) (by omega)]; exact q))
    have hi6 : i + 6 ≤ L := by omega
    have kk := fun n1 n2 n3 bs1 hI1 H1 locs1 ls1 G1 hl1 => kk n1 n2 n3 bs1 hI1 H1 locs1 ls1 G1 hl1 hi6
    refine lv_aload_n hx hb dL_law_27 rfl (lv_at hl 0 rfl) ?_
    refine lv_iload_n hx hb dL_law_28 rfl (lv_at hl 3 rfl) ?_
    refine va_sld hx hb hX hbl hbA G.2.2.2.1 (vp_in_nI (by omega) (by omega)) dL_law_29 ?_
    refine lv_topi (fun v_2 ev_2 => ?_)
    rw [nI_clamp (by omega)] at ev_2
    have ev_2 : v_2 = xs i := ev_2
    subst ev_2
    refine lv_bipush (v := 63) hx hb dL_law_30 (by decide) ?_
    refine lv_iand hx hb dL_law_32 ?_
    by_cases co : ((xs i) &&& 63).toInt < 0 ∨ 34 < ((xs i) &&& 63).toInt
    · refine lv_tableOut (tgt := 1767) hx hb dL_law_33 co (by decide) ?_
      refine W.widen (k := 220 + 2 * i + 12) (n := 27000 + 6 * (n4A + n4B) + 2 * m1f) (by omega) (by omega) ?_
      exact kk n4A n4B m1f bs hI _ _ _ G hl
    · obtain ⟨k, hk⟩ : ∃ k : Nat, ((xs i) &&& 63).toInt = (k : Int) := ⟨((xs i) &&& 63).toInt.toNat, by omega⟩
      have hk2 : k < 35 := by omega
      clear co
      match k, hk, hk2 with
      | 0, h, _ =>
        have h : ((xs i) &&& 63).toInt = 0 := h
        refine lv_tableIn (tgt := 188) hx hb dL_law_33 (by omega) (by omega) (by rw [h]; rfl) (by decide) ?_
        exact z_case_feed l hx hb C hX hbl hbA hL hi6 hnA hnB hmf hI G hl kk
      | 1, h, _ =>
        have h : ((xs i) &&& 63).toInt = 1 := h
        refine lv_tableIn (tgt := 251) hx hb dL_law_33 (by omega) (by omega) (by rw [h]; rfl) (by decide) ?_
        exact z_case_end l hx hb C hX hbl hbA hL hi6 hnA hnB hmf hI G hl kk
      | 2, h, _ =>
        have h : ((xs i) &&& 63).toInt = 2 := h
        refine lv_tableIn (tgt := 274) hx hb dL_law_33 (by omega) (by omega) (by rw [h]; rfl) (by decide) ?_
        exact z_case_text l hx hb C hX hbl hbA hL hi6 hnA hnB hmf hI G hl kk
      | 3, h, _ =>
        have h : ((xs i) &&& 63).toInt = 3 := h
        refine lv_tableIn (tgt := 307) hx hb dL_law_33 (by omega) (by omega) (by rw [h]; rfl) (by decide) ?_
        exact z_case_fault l hx hb C hX hbl hbA hL hi6 hnA hnB hmf hI G hl kk
      | 4, h, _ =>
        have h : ((xs i) &&& 63).toInt = 4 := h
        refine lv_tableIn (tgt := 330) hx hb dL_law_33 (by omega) (by omega) (by rw [h]; rfl) (by decide) ?_
        exact z_case_land l hx hb C hX hbl hbA hL hi6 hnA hnB hmf hI G hl kk
      | 5, h, _ =>
        have h : ((xs i) &&& 63).toInt = 5 := h
        refine lv_tableIn (tgt := 363) hx hb dL_law_33 (by omega) (by omega) (by rw [h]; rfl) (by decide) ?_
        exact z_case_deed l hx hb C hX hbl hbA hL hi6 hnA hnB hmf hI G hl kk
      | 6, h, _ =>
        have h : ((xs i) &&& 63).toInt = 6 := h
        refine lv_tableIn (tgt := 406) hx hb dL_law_33 (by omega) (by omega) (by rw [h]; rfl) (by decide) ?_
        exact z_case_stop l hx hb C hX hbl hbA hL hi6 hnA hnB hmf hI G hl kk
      | 7, h, _ =>
        have h : ((xs i) &&& 63).toInt = 7 := h
        refine lv_tableIn (tgt := 439) hx hb dL_law_33 (by omega) (by omega) (by rw [h]; rfl) (by decide) ?_
        exact z_case_state l hx hb C hX hbl hbA hL hi6 hnA hnB hmf hI G hl kk
      | 8, h, _ =>
        have h : ((xs i) &&& 63).toInt = 8 := h
        refine lv_tableIn (tgt := 492) hx hb dL_law_33 (by omega) (by omega) (by rw [h]; rfl) (by decide) ?_
        exact z_case_walk l hx hb C hX hbl hbA hL hi6 hnA hnB hmf hI G hl kk
      | 9, h, _ =>
        have h : ((xs i) &&& 63).toInt = 9 := h
        refine lv_tableIn (tgt := 535) hx hb dL_law_33 (by omega) (by omega) (by rw [h]; rfl) (by decide) ?_
        exact z_case_endOf l hx hb C hX hbl hbA hL hi6 hnA hnB hmf hI G hl kk
      | 10, h, _ =>
        have h : ((xs i) &&& 63).toInt = 10 := h
        refine lv_tableIn (tgt := 568) hx hb dL_law_33 (by omega) (by omega) (by rw [h]; rfl) (by decide) ?_
        exact z_case_come l hx hb C hX hbl hbA hL hi6 hnA hnB hmf hI G hl kk
      | 11, h, _ =>
        have h : ((xs i) &&& 63).toInt = 11 := h
        refine lv_tableIn (tgt := 611) hx hb dL_law_33 (by omega) (by omega) (by rw [h]; rfl) (by decide) ?_
        exact z_case_period l hx hb C hX hbl hbA hL hi6 hnA hnB hmf hI G hl kk
      | 12, h, _ =>
        have h : ((xs i) &&& 63).toInt = 12 := h
        refine lv_tableIn (tgt := 670) hx hb dL_law_33 (by omega) (by omega) (by rw [h]; rfl) (by decide) ?_
        exact z_case_set l hx hb C hX hbl hbA hL hi6 hnA hnB hmf hI G hl kk
      | 13, h, _ =>
        have h : ((xs i) &&& 63).toInt = 13 := h
        refine lv_tableIn (tgt := 723) hx hb dL_law_33 (by omega) (by omega) (by rw [h]; rfl) (by decide) ?_
        exact z_case_lot l hx hb C hX hbl hbA hL hi6 hnA hnB hmf hI G hl kk
      | 14, h, _ =>
        have h : ((xs i) &&& 63).toInt = 14 := h
        refine lv_tableIn (tgt := 792) hx hb dL_law_33 (by omega) (by omega) (by rw [h]; rfl) (by decide) ?_
        exact z_case_mean l hx hb C hX hbl hbA hL hi6 hnA hnB hmf hI G hl kk
      | 15, h, _ =>
        have h : ((xs i) &&& 63).toInt = 15 := h
        refine lv_tableIn (tgt := 851) hx hb dL_law_33 (by omega) (by omega) (by rw [h]; rfl) (by decide) ?_
        exact z_case_trees l hx hb C hX hbl hbA hL hi6 hnA hnB hmf hI G hl kk
      | 16, h, _ =>
        have h : ((xs i) &&& 63).toInt = 16 := h
        refine lv_tableIn (tgt := 874) hx hb dL_law_33 (by omega) (by omega) (by rw [h]; rfl) (by decide) ?_
        exact z_case_game l hx hb C hX hbl hbA hL hi6 hnA hnB hmf hI G hl kk
      | 17, h, _ =>
        have h : ((xs i) &&& 63).toInt = 17 := h
        refine lv_tableIn (tgt := 943) hx hb dL_law_33 (by omega) (by omega) (by rw [h]; rfl) (by decide) ?_
        exact z_case_fact l hx hb C hX hbl hbA hL hi6 hnA hnB hmf hI G hl kk
      | 18, h, _ =>
        have h : ((xs i) &&& 63).toInt = 18 := h
        refine lv_tableIn (tgt := 986) hx hb dL_law_33 (by omega) (by omega) (by rw [h]; rfl) (by decide) ?_
        exact z_case_fits l hx hb C hX hbl hbA hL hi6 hnA hnB hmf hI G hl kk
      | 19, h, _ =>
        have h : ((xs i) &&& 63).toInt = 19 := h
        refine lv_tableIn (tgt := 1029) hx hb dL_law_33 (by omega) (by omega) (by rw [h]; rfl) (by decide) ?_
        exact z_case_drawn l hx hb C hX hbl hbA hL hi6 hnA hnB hmf hI G hl kk
      | 20, h, _ =>
        have h : ((xs i) &&& 63).toInt = 20 := h
        refine lv_tableIn (tgt := 1082) hx hb dL_law_33 (by omega) (by omega) (by rw [h]; rfl) (by decide) ?_
        exact z_case_far l hx hb C hX hbl hbA hL hi6 hnA hnB hmf hI G hl kk
      | 21, h, _ =>
        have h : ((xs i) &&& 63).toInt = 21 := h
        refine lv_tableIn (tgt := 1125) hx hb dL_law_33 (by omega) (by omega) (by rw [h]; rfl) (by decide) ?_
        exact z_case_reach l hx hb C hX hbl hbA hL hi6 hnA hnB hmf hI G hl kk
      | 22, h, _ =>
        have h : ((xs i) &&& 63).toInt = 22 := h
        refine lv_tableIn (tgt := 1168) hx hb dL_law_33 (by omega) (by omega) (by rw [h]; rfl) (by decide) ?_
        exact z_case_classes l hx hb C hX hbl hbA hL hi6 hnA hnB hmf hI G hl kk
      | 23, h, _ =>
        have h : ((xs i) &&& 63).toInt = 23 := h
        refine lv_tableIn (tgt := 1201) hx hb dL_law_33 (by omega) (by omega) (by rw [h]; rfl) (by decide) ?_
        exact z_case_led l hx hb C hX hbl hbA hL hi6 hnA hnB hmf hI G hl kk
      | 24, h, _ =>
        have h : ((xs i) &&& 63).toInt = 24 := h
        refine lv_tableIn (tgt := 1244) hx hb dL_law_33 (by omega) (by omega) (by rw [h]; rfl) (by decide) ?_
        exact z_case_cover l hx hb C hX hbl hbA hL hi6 hnA hnB hmf hI G hl kk
      | 25, h, _ =>
        have h : ((xs i) &&& 63).toInt = 25 := h
        refine lv_tableIn (tgt := 1287) hx hb dL_law_33 (by omega) (by omega) (by rw [h]; rfl) (by decide) ?_
        exact z_case_share l hx hb C hX hbl hbA hL hi6 hnA hnB hmf hI G hl kk
      | 26, h, _ =>
        have h : ((xs i) &&& 63).toInt = 26 := h
        refine lv_tableIn (tgt := 1340) hx hb dL_law_33 (by omega) (by omega) (by rw [h]; rfl) (by decide) ?_
        exact z_case_longest l hx hb C hX hbl hbA hL hi6 hnA hnB hmf hI G hl kk
      | 27, h, _ =>
        have h : ((xs i) &&& 63).toInt = 27 := h
        refine lv_tableIn (tgt := 1425) hx hb dL_law_33 (by omega) (by omega) (by rw [h]; rfl) (by decide) ?_
        exact z_case_back l hx hb C hX hbl hbA hL hi6 hnA hnB hmf hI G hl kk
      | 28, h, _ =>
        have h : ((xs i) &&& 63).toInt = 28 := h
        refine lv_tableIn (tgt := 1458) hx hb dL_law_33 (by omega) (by omega) (by rw [h]; rfl) (by decide) ?_
        exact z_case_keys l hx hb C hX hbl hbA hL hi6 hnA hnB hmf hI G hl kk
      | 29, h, _ =>
        have h : ((xs i) &&& 63).toInt = 29 := h
        refine lv_tableIn (tgt := 1517) hx hb dL_law_33 (by omega) (by omega) (by rw [h]; rfl) (by decide) ?_
        exact z_case_after l hx hb C hX hbl hbA hL hi6 hnA hnB hmf hI G hl kk
      | 30, h, _ =>
        have h : ((xs i) &&& 63).toInt = 30 := h
        refine lv_tableIn (tgt := 1560) hx hb dL_law_33 (by omega) (by omega) (by rw [h]; rfl) (by decide) ?_
        exact z_case_odds l hx hb C hX hbl hbA hL hi6 hnA hnB hmf hI G hl kk
      | 31, h, _ =>
        have h : ((xs i) &&& 63).toInt = 31 := h
        refine lv_tableIn (tgt := 1639) hx hb dL_law_33 (by omega) (by omega) (by rw [h]; rfl) (by decide) ?_
        exact z_case_least l hx hb C hX hbl hbA hL hi6 hnA hnB hmf hI G hl kk
      | 32, h, _ =>
        have h : ((xs i) &&& 63).toInt = 32 := h
        refine lv_tableIn (tgt := 1698) hx hb dL_law_33 (by omega) (by omega) (by rw [h]; rfl) (by decide) ?_
        exact z_case_count l hx hb C hX hbl hbA hL hi6 hnA hnB hmf hI G hl kk
      | 33, h, _ =>
        have h : ((xs i) &&& 63).toInt = 33 := h
        refine lv_tableIn (tgt := 1721) hx hb dL_law_33 (by omega) (by omega) (by rw [h]; rfl) (by decide) ?_
        exact z_case_image l hx hb C hX hbl hbA hL hi6 hnA hnB hmf hI G hl kk
      | 34, h, _ =>
        have h : ((xs i) &&& 63).toInt = 34 := h
        refine lv_tableIn (tgt := 1744) hx hb dL_law_33 (by omega) (by omega) (by rw [h]; rfl) (by decide) ?_
        exact z_case_again l hx hb C hX hbl hbA hL hi6 hnA hnB hmf hI G hl kk
      | k + 35, _, h => exact absurd h (by omega)


theorem z_arrP {s : State} {args : Array Value} {ty : FieldType} (hp : ty = .int ∨ ty = .byte ∨ ty = .boolean) (h : (Cond.arrayClass ty).before args s = true) : ∃ cA : ClassId, ArrOfT s cA ty ∧ va_RA s cA ty := by
  obtain ⟨cA, kA, comp, h1, h2, h3⟩ := Cond.arrayClass_spec h
  refine ⟨cA, fun n z => ⟨fun k h9 => (by rcases hp with rfl | rfl | rfl <;> cases h9), kA, h2, comp, h3⟩, ?_⟩
  rcases hp with rfl | rfl | rfl <;> exact h1
theorem z_arrO {s : State} {args : Array Value} {C : String} (h : (Cond.arrayOver (.object C)).before args s = true) : ∃ cA : ClassId, ArrOfT s cA (.object C) ∧ va_RA s cA (.object C) := by
  obtain ⟨comp, c, k, h1, h2, h3, h4, h5⟩ := Cond.arrayOver_spec h
  exact ⟨c, fun n z => ⟨fun k h => (by cases h), k, h3, comp, h4⟩, k, comp, h3, h4, h1, h5⟩
theorem z_nst_in : ∀ q ∈ zNst, Cond.methodLinkNest q.1 q.2.1 q.2.2.1 q.2.2.2 ∈ lw_tbl := by decide +kernel
theorem z_ao_in : ∀ C ∈ zAOs, Cond.arrayOver (.object C) ∈ lw_tbl := by decide +kernel
/-- the tables' words at the law's start: the classes' numbers and slots, the rows' classes -/
theorem z_start {s : State} {args : Array Value} (hts : ∀ w ∈ lw_tbl, w.before args s = true) : ∃ T : zTy, va_K T.1 vwCl (zTys T) s ∧ zX s := by
  have hz : ∀ w ∈ zT, w.before args s = true := fun w hw => hts w (List.mem_filter.mp hw).1
  obtain ⟨c0, i0, k0⟩ := u_known (C := RX0) (T := TX0) (N := 10) (n := 10) hz clX0.2.1 (hz _ m_in_RX0)
  obtain ⟨c1, i1, k1⟩ := u_known (C := RX1) (T := TX1) (N := 11) (n := 11) hz clX1.2.1 (hz _ m_in_RX1)
  obtain ⟨c2, i2, k2⟩ := u_known (C := RX2) (T := TX2) (N := 4) (n := 4) hz clX2.2.1 (hz _ m_in_RX2)
  obtain ⟨c3, i3, k3⟩ := u_known (C := RX3) (T := TX3) (N := 8) (n := 8) hz clX3.2.1 (hz _ m_in_RX3)
  obtain ⟨c4, i4, k4⟩ := u_known (C := RX4) (T := TX4) (N := 6) (n := 6) hz clX4.2.1 (hz _ m_in_RX4)
  obtain ⟨c5, i5, k5⟩ := u_known (C := RX5) (T := TX5) (N := 3) (n := 3) hz clX5.2.1 (hz _ m_in_RX5)
  obtain ⟨c6, i6, k6⟩ := u_known (C := RX6) (T := TX6) (N := 6) (n := 6) hz clX6.2.1 (hz _ m_in_RX6)
  obtain ⟨c7, i7, k7⟩ := u_known (C := RX7) (T := TX7) (N := 13) (n := 13) hz clX7.2.1 (hz _ m_in_RX7)
  obtain ⟨c8, i8, k8⟩ := u_known (C := RX9) (T := TX9) (N := 8) (n := 8) hz clX9.2.1 (hz _ m_in_RX9)
  obtain ⟨c9, i9, k9⟩ := u_known (C := RX10) (T := TX10) (N := 8) (n := 8) hz clX10.2.1 (hz _ m_in_RX10)
  obtain ⟨c10, i10, k10⟩ := u_known (C := RX11) (T := TX11) (N := 11) (n := 11) hz clX11.2.1 (hz _ m_in_RX11)
  obtain ⟨c11, i11, k11⟩ := u_known (C := RX12) (T := TX12) (N := 43) (n := 43) hz clX12.2.1 (hz _ m_in_RX12)
  obtain ⟨r0, a0⟩ := z_arrP (ty := .int) (by simp) (hz _ m_ar_int)
  obtain ⟨r1, a1⟩ := z_arrP (ty := .byte) (by simp) (hz _ m_ar_byte)
  obtain ⟨r2, a2⟩ := z_arrP (ty := .boolean) (by simp) (hz _ m_ar_boolean)
  obtain ⟨r3, a3⟩ := z_arrO (C := "TurnedPosts$Land") (hts _ (z_ao_in _ (List.mem_of_getElem? (i := 0) rfl)))
  obtain ⟨r4, a4⟩ := z_arrO (C := "TurnedPosts$Day") (hts _ (z_ao_in _ (List.mem_of_getElem? (i := 1) rfl)))
  obtain ⟨r5, a5⟩ := z_arrO (C := "TurnedPosts$Log") (hts _ (z_ao_in _ (List.mem_of_getElem? (i := 2) rfl)))
  obtain ⟨r6, a6⟩ := z_arrO (C := "TurnedPosts$Told") (hts _ (z_ao_in _ (List.mem_of_getElem? (i := 3) rfl)))
  refine ⟨((fun k => match k with | 0 => c0 | 1 => c1 | 2 => c2 | 3 => c3 | 4 => c4 | 5 => c5 | 6 => c6 | 7 => c7 | 8 => c8 | 9 => c9 | 10 => c10 | _ => c11, fun k => match k with | 0 => i0 | 1 => i1 | 2 => i2 | 3 => i3 | 4 => i4 | 5 => i5 | 6 => i6 | 7 => i7 | 8 => i8 | 9 => i9 | 10 => i10 | _ => i11), fun k => match k with | 0 => r0 | 1 => r1 | 2 => r2 | 3 => r3 | 4 => r4 | 5 => r5 | _ => r6), ⟨?_, ?_⟩, fun q hq => va_Nw.of rfl (hts _ (z_nst_in q hq)), fun C hC => va_AO.of (hts _ (z_ao_in C hC))⟩
  · intro k q hq
    match k, hq with
    | 0, hq => cases hq; exact k0
    | 1, hq => cases hq; exact k1
    | 2, hq => cases hq; exact k2
    | 3, hq => cases hq; exact k3
    | 4, hq => cases hq; exact k4
    | 5, hq => cases hq; exact k5
    | 6, hq => cases hq; exact k6
    | 7, hq => cases hq; exact k7
    | 8, hq => cases hq; exact k8
    | 9, hq => cases hq; exact k9
    | 10, hq => cases hq; exact k10
    | 11, hq => cases hq; exact k11
    | k + 12, hq => simp [vwCl] at hq
  · intro k q hq
    match k, hq with
    | 0, hq => cases hq; exact a0
    | 1, hq => cases hq; exact a1
    | 2, hq => cases hq; exact a2
    | 3, hq => cases hq; exact a3
    | 4, hq => cases hq; exact a4
    | 5, hq => cases hq; exact a5
    | 6, hq => cases hq; exact a6
    | k + 7, hq => simp at hq
/-! THE CLAIM OUT OF ONE WALK OF THE LAW'S BODY. Your part is whole_start (and what it stands on); all else here is the same for every law, but numbers. -/
def R_law : String := "TurnedPostsLaw"
def lw_P (b : Addr) (xs : List Int32) (args : Array Value) (s : State) : Prop := args = #[.ref b] ∧ s.IntsAt b xs ∧ xs.length ≤ 6 ∧ (Jvm.Cond.and given_1 narrow_1).before args s = true
def lw_Q (_ : Array Value) (s : State) (o : Outcome) (t : State) : Prop := o = .returned (some (.int 1)) ∧ Framed s o t [] 600000 7302250
def lw_Z (below : List Frame) (a : Array Value) (s : State) : State → Prop := fun t => ∃ o, t.status = .running ∧ Ended t below o ∧ lw_Q a s o t
/-- the law's own end, with 1 on the stack, nothing written that was there before, its room as the claim has it -/
theorem lw_ret {p : Program} {l : Launch} {e : Env} {s : State} {m : MethodId} {below : List Frame} {meth : Method} {c : Code} {b : Nat} (hx : p.tables.exec = Jvm.exec) (hb : c.code = code) (hr : meth.sig.returnType = ret) (hlocks : meth.locks = false) {pc : Nat} {H : Heap} {ls : Array Slot} (hdg : decode code pc = .ok (.ireturn, 1)) : W p l e room_1 s m #[Value.ref b] below meth c H [] 600000 7302250 (lw_Z below #[Value.ref b] s) (F0 m pc ls [.int 1]) := by
  intro T hT X
  obtain ⟨fs, hret, hrun, hended, hW, hframe⟩ := X.leave (v := some (.int 1)) (hlocks := hlocks) (fun h => by rw [hr] at h; cases h)
  have hmeth' : T.vm.method? m = some meth := X.method'
  refine ⟨T.setFrames fs, ?_, .returned (some (.int 1)), hrun, hended, rfl, ⟨_, rfl⟩, hW, hframe⟩
  jvm_step X.here [X.here.top, hx, hb, hdg, hmeth', hr, ret, narrow_b1]
  (try refine ⟨rfl, ?_⟩); (try refine ⟨rfl, ?_⟩)
  first | (intro acts; rw [hret _ acts rfl rfl rfl]) | rw [hret _ _ rfl rfl rfl]
  exact Steps.refl _
/-- what holds at the law's entry: the machine, the code, the tables' words (any of lw_tbl by 'hts w (by decide +kernel)'), the script of L ints xs at the cell b, what the Statement gives of the start (any of its parts by flat_of_before) -/
def lw_At (p : Program) (s : State) (m : MethodId) (meth : Method) (c : Code) (b L : Nat) (xs : Nat → Int32) : Prop :=
  p.tables.exec = Jvm.exec ∧ c.code = code ∧ meth.sig.returnType = ret ∧ c.maxLocals = 4 ∧ s.vm.findClass R_law = some m.cls ∧ (∀ w ∈ lw_tbl, w.before #[Value.ref b] s = true) ∧ va_X b L xs s s.heap ∧ b < s.heap.size ∧ meth.locks = false ∧ (Jvm.Cond.and given_1 narrow_1).before #[Value.ref b] s = true

set_option maxHeartbeats 40000000 in
set_option maxRecDepth 100000 in
theorem whole_start {p : Program} {e : Env} {s : State} {m : MethodId} {below : List Frame} {meth : Method} {c : Code} (l : Launch) (hflags : l.flags = flags0) {b L : Nat} {xs : Nat → Int32} (hL : L ≤ 6) (C0 : lw_At p s m meth c b L xs) : W p l e room_1 s m #[Value.ref b] below meth c s.heap [] 0 0 (lw_Z below #[Value.ref b] s) (entryFrame m ([Value.ref b] : List Value).toArray 4) := by
  obtain ⟨hx, hb, hr, hml, hown, hts, hX, hbl, hlocks, hgv⟩ := id C0
  have C : CallFix p m c cL_law 4 s #[Value.ref b] zT RL := ⟨hx, hb, hml, hown, fun w hw => hts w (List.mem_filter.mp hw).1⟩
  obtain ⟨T, hK0, hZ0⟩ := z_start hts
  obtain ⟨A, hAe⟩ : ∃ A : Nat → Prop, A = fun q => s.heap.size ≤ q := ⟨_, rfl⟩
  have hbA : ¬ A b := by rw [hAe]; exact Nat.not_le.mpr hbl
  have G : zS T A s.heap s [] s.heap [] := ⟨hK0, (fun k q h => by simp at h), ⟨fun i j p q h => by simp at h, fun k q h => by simp at h⟩, va_S.rf, (by rw [hAe]; exact fun _ h => h), hZ0⟩
  have hl := lv_entry ([.ref b]) (n := 4) (Nat.le_of_ble_eq_true rfl)
  rw [lg_entry_eq]
  generalize (lg_sl ([.ref b]) ++ List.replicate (4 - (lg_sl ([.ref b])).length) Slot.unset).toArray = ls at hl ⊢
  have hl : lv_has ls 4 [(0, .ref b)] := hl
  have hL : L ≤ 6 := hL
  refine z_new C G clX11 (fs := [.null, .null, .null, .null, .null, .null, .null, .null, .null, .null, .null]) m_cl_RL_7 m_in_RX11 m_ii_RX11 (fun j hj => by match j, hj with | 0, _ => rfl | 1, _ => rfl | 2, _ => rfl | 3, _ => rfl | 4, _ => rfl | 5, _ => rfl | 6, _ => rfl | 7, _ => rfl | 8, _ => rfl | 9, _ => rfl | 10, _ => rfl | j + 11, h => exact absurd h (by omega)) (Nat.le_of_ble_eq_true rfl) (Nat.le_of_ble_eq_true rfl) dL_law_0 (fun q_1 H G => ?_)
  have G : zS T A s.heap s [[(q_1, .inr (10, [.null, .null, .null, .null, .null, .null, .null, .null, .null, .null, .null]))]] _ _ := G
  refine lv_dup hx hb dL_law_3 rfl ?_
  refine z_Iv (bc := [[(q_1, .inr (10, [.null, .null, .null, .null, .null, .null, .null, .null, .null, .null, .null]))]]) (br := []) (As := []) (rest := [.ref q_1]) C G (c_x_init l T q_1) (kI_RL_9 C.2.2.2.2 (Nat.le_of_ble_eq_true rfl) (Nat.le_of_ble_eq_true rfl)) [0] [] rfl rfl rfl rfl hl.1 dL_law_4 (Nat.le_of_ble_eq_true rfl) (Nat.le_of_ble_eq_true rfl) (fun b1 H locs hw G => ?_)
  obtain ⟨t0_2, ia_3, im_4, rd_5, po_6, co_7, tr_8, wa_9, wb_10, fi_11, cd_12, a1p_13, a2p_14, a3p_15, a4p_16, a5p_17, f1p_18, f3p_19, f4p_20, f5p_21, l0p_22, l1p_23, d0p_24, d1p_25, g0p_26, g1p_27, w1p_28, w2p_29, w3p_30, w4p_31, w5p_32, w6p_33, fq_34, i0_35, i1_36, i2_37, u0_38, u1_39, u2_40, v_41, z1_42, z2_43, z3_44, w1_45, w2_46, w3_47, rfl, h_48, h_49, h_50, h_51, h_52, h_53, h_54, h_55, h_56, h_57, h_58, h_59, h_60, h_61, h_62, h_63, h_64, h_65, h_66, h_67, h_68, h_69, h_70, h_71, h_72⟩ := hw
  have G : zS T A s.heap s [[(q_1, .inr (10, [.ref t0_2, .ref ia_3, .ref im_4, .ref rd_5, .ref po_6, .ref co_7, .ref tr_8, .ref wa_9, .ref wb_10, .ref fi_11, .ref cd_12]))], [(t0_2, .inr (8, [.ref a1p_13, .int 0, .int 0, .int (-1), .ref a2p_14, .ref a3p_15, .ref a4p_16, .ref a5p_17]))], [(a1p_13, .inl (T.2 1, 600, .inl f1p_18))], [(a2p_14, .inl (T.2 0, 3, .inl (fun _ => 0)))], [(a3p_15, .inl (T.2 3, 2, .inr (.inr (.inr (.inr f3p_19)))))], [(a4p_16, .inl (T.2 4, 2, .inr (.inr (.inr (.inr f4p_20)))))], [(a5p_17, .inl (T.2 5, 2, .inr (.inr (.inr (.inr f5p_21)))))], w1p_28, w2p_29, w3p_30, w4p_31, w5p_32, w6p_33, [(ia_3, .inl (T.2 6, 3, .inr (.inr (.inr (.inr fq_34)))))], u0_38, u1_39, u2_40, [(im_4, .inl (T.2 2, 3, .inl (fun _ => 0)))], v_41, z1_42, z2_43, z3_44, w1_45, w2_46, w3_47, [(cd_12, .inl (T.2 0, 1000, .inl (fun _ => 0)))]] _ _ := G
  refine lv_astore_n (lv' := [(1, .ref q_1), (0, .ref b)]) hx hb dL_law_7 rfl hl (by decide) rfl (fun ls hl => ?_)
  refine z_new C G clX12 (fs := [.null, .null, .int 0, .int 0, .int 0, .int 0, .int 0, .int 0, .int 0, .int 0, .null, .int 0, .int 0, .int 0, .null, .null, .null, .int 0, .int 0, .int 0, .int 0, .null, .null, .null, .null, .null, .null, .int 0, .int 0, .int 0, .int 0, .int 0, .int 0, .int 0, .int 0, .int 0, .int 0, .int 0, .int 0, .null, .null, .null, .int 0]) m_cl_RL_10 m_in_RX12 m_ii_RX12 (fun j hj => by match j, hj with | 0, _ => rfl | 1, _ => rfl | 2, _ => rfl | 3, _ => rfl | 4, _ => rfl | 5, _ => rfl | 6, _ => rfl | 7, _ => rfl | 8, _ => rfl | 9, _ => rfl | 10, _ => rfl | 11, _ => rfl | 12, _ => rfl | 13, _ => rfl | 14, _ => rfl | 15, _ => rfl | 16, _ => rfl | 17, _ => rfl | 18, _ => rfl | 19, _ => rfl | 20, _ => rfl | 21, _ => rfl | 22, _ => rfl | 23, _ => rfl | 24, _ => rfl | 25, _ => rfl | 26, _ => rfl | 27, _ => rfl | 28, _ => rfl | 29, _ => rfl | 30, _ => rfl | 31, _ => rfl | 32, _ => rfl | 33, _ => rfl | 34, _ => rfl | 35, _ => rfl | 36, _ => rfl | 37, _ => rfl | 38, _ => rfl | 39, _ => rfl | 40, _ => rfl | 41, _ => rfl | 42, _ => rfl | j + 43, h => exact absurd h (by omega)) (Nat.le_of_ble_eq_true rfl) (Nat.le_of_ble_eq_true rfl) dL_law_8 (fun q_74 H G => ?_)
  have G : zS T A s.heap s [[(q_1, .inr (10, [.ref t0_2, .ref ia_3, .ref im_4, .ref rd_5, .ref po_6, .ref co_7, .ref tr_8, .ref wa_9, .ref wb_10, .ref fi_11, .ref cd_12]))], [(t0_2, .inr (8, [.ref a1p_13, .int 0, .int 0, .int (-1), .ref a2p_14, .ref a3p_15, .ref a4p_16, .ref a5p_17]))], [(a1p_13, .inl (T.2 1, 600, .inl f1p_18))], [(a2p_14, .inl (T.2 0, 3, .inl (fun _ => 0)))], [(a3p_15, .inl (T.2 3, 2, .inr (.inr (.inr (.inr f3p_19)))))], [(a4p_16, .inl (T.2 4, 2, .inr (.inr (.inr (.inr f4p_20)))))], [(a5p_17, .inl (T.2 5, 2, .inr (.inr (.inr (.inr f5p_21)))))], w1p_28, w2p_29, w3p_30, w4p_31, w5p_32, w6p_33, [(ia_3, .inl (T.2 6, 3, .inr (.inr (.inr (.inr fq_34)))))], u0_38, u1_39, u2_40, [(im_4, .inl (T.2 2, 3, .inl (fun _ => 0)))], v_41, z1_42, z2_43, z3_44, w1_45, w2_46, w3_47, [(cd_12, .inl (T.2 0, 1000, .inl (fun _ => 0)))], [(q_74, .inr (11, [.null, .null, .int 0, .int 0, .int 0, .int 0, .int 0, .int 0, .int 0, .int 0, .null, .int 0, .int 0, .int 0, .null, .null, .null, .int 0, .int 0, .int 0, .int 0, .null, .null, .null, .null, .null, .null, .int 0, .int 0, .int 0, .int 0, .int 0, .int 0, .int 0, .int 0, .int 0, .int 0, .int 0, .int 0, .null, .null, .null, .int 0]))]] _ _ := G
  refine lv_dup hx hb dL_law_11 rfl ?_
  refine z_Iv (bc := [[(q_74, .inr (11, [.null, .null, .int 0, .int 0, .int 0, .int 0, .int 0, .int 0, .int 0, .int 0, .null, .int 0, .int 0, .int 0, .null, .null, .null, .int 0, .int 0, .int 0, .int 0, .null, .null, .null, .null, .null, .null, .int 0, .int 0, .int 0, .int 0, .int 0, .int 0, .int 0, .int 0, .int 0, .int 0, .int 0, .int 0, .null, .null, .null, .int 0]))]]) (br := [[(q_1, .inr (10, [.ref t0_2, .ref ia_3, .ref im_4, .ref rd_5, .ref po_6, .ref co_7, .ref tr_8, .ref wa_9, .ref wb_10, .ref fi_11, .ref cd_12]))], [(t0_2, .inr (8, [.ref a1p_13, .int 0, .int 0, .int (-1), .ref a2p_14, .ref a3p_15, .ref a4p_16, .ref a5p_17]))], [(a1p_13, .inl (T.2 1, 600, .inl f1p_18))], [(a2p_14, .inl (T.2 0, 3, .inl (fun _ => 0)))], [(a3p_15, .inl (T.2 3, 2, .inr (.inr (.inr (.inr f3p_19)))))], [(a4p_16, .inl (T.2 4, 2, .inr (.inr (.inr (.inr f4p_20)))))], [(a5p_17, .inl (T.2 5, 2, .inr (.inr (.inr (.inr f5p_21)))))], w1p_28, w2p_29, w3p_30, w4p_31, w5p_32, w6p_33, [(ia_3, .inl (T.2 6, 3, .inr (.inr (.inr (.inr fq_34)))))], u0_38, u1_39, u2_40, [(im_4, .inl (T.2 2, 3, .inl (fun _ => 0)))], v_41, z1_42, z2_43, z3_44, w1_45, w2_46, w3_47, [(cd_12, .inl (T.2 0, 1000, .inl (fun _ => 0)))]]) (As := []) (rest := [.ref q_74]) C G (c_m_init l T q_74) (kI_RL_12 C.2.2.2.2 (Nat.le_of_ble_eq_true rfl) (Nat.le_of_ble_eq_true rfl)) [26] [0, 1, 2, 3, 4, 5, 6, 7, 8, 9, 10, 11, 12, 13, 14, 15, 16, 17, 18, 19, 20, 21, 22, 23, 24, 25] rfl rfl rfl rfl hl.1 dL_law_12 (Nat.le_of_ble_eq_true rfl) (Nat.le_of_ble_eq_true rfl) (fun b1 H locs hw G => ?_)
  obtain ⟨r_all_75, r_has_76, r_read_77, r_posts_78, r_shut_79, r_here_80, r_was_81, r_came_82, r_seenAt_83, r_rowWorth_84, r_farBy_85, r_used_86, r_fitPost_87, r_fitEnd_88, r_keptPosts_89, rfl⟩ := hw
  have G : zS T A s.heap s [[(q_1, .inr (10, [.ref t0_2, .ref ia_3, .ref im_4, .ref rd_5, .ref po_6, .ref co_7, .ref tr_8, .ref wa_9, .ref wb_10, .ref fi_11, .ref cd_12]))], [(t0_2, .inr (8, [.ref a1p_13, .int 0, .int 0, .int (-1), .ref a2p_14, .ref a3p_15, .ref a4p_16, .ref a5p_17]))], [(a1p_13, .inl (T.2 1, 600, .inl f1p_18))], [(a2p_14, .inl (T.2 0, 3, .inl (fun _ => 0)))], [(a3p_15, .inl (T.2 3, 2, .inr (.inr (.inr (.inr f3p_19)))))], [(a4p_16, .inl (T.2 4, 2, .inr (.inr (.inr (.inr f4p_20)))))], [(a5p_17, .inl (T.2 5, 2, .inr (.inr (.inr (.inr f5p_21)))))], w1p_28, w2p_29, w3p_30, w4p_31, w5p_32, w6p_33, [(ia_3, .inl (T.2 6, 3, .inr (.inr (.inr (.inr fq_34)))))], u0_38, u1_39, u2_40, [(im_4, .inl (T.2 2, 3, .inl (fun _ => 0)))], v_41, z1_42, z2_43, z3_44, w1_45, w2_46, w3_47, [(cd_12, .inl (T.2 0, 1000, .inl (fun _ => 0)))], [(q_74, .inr (11, [.ref r_all_75, .ref r_has_76, .int 0, .int 0, .int 0, .int 0, .int 0, .int 0, .int 0, .int 0, .ref r_read_77, .int 0, .int 0, .int 0, .ref r_posts_78, .ref r_shut_79, .ref r_here_80, .int 0, .int 0, .int 0, .int 0, .ref r_was_81, .ref r_came_82, .ref r_seenAt_83, .ref r_rowWorth_84, .ref r_farBy_85, .ref r_used_86, .int 0, .int 0, .int 0, .int 0, .int 0, .int 0, .int 0, .int 0, .int 0, .int 0, .int 0, .int 0, .ref r_fitPost_87, .ref r_fitEnd_88, .ref r_keptPosts_89, .int 0]))], [(r_all_75, .inl (T.2 0, 3952, .inl (upd (fun _ => 0) 6 (-1))))], [(r_has_76, .inl (T.2 2, 3, .inl (fun _ => 0)))], [(r_read_77, .inl (T.2 0, 121, .inl (fun _ => 0)))], [(r_posts_78, .inl (T.2 0, 7, .inl (fun _ => 0)))], [(r_shut_79, .inl (T.2 0, 7, .inl (fun _ => 0)))], [(r_here_80, .inl (T.2 0, 7, .inl (fun _ => 0)))], [(r_was_81, .inl (T.2 0, 7, .inl (fun _ => 0)))], [(r_came_82, .inl (T.2 0, 7, .inl (fun _ => 0)))], [(r_seenAt_83, .inl (T.2 0, 16384, .inl (fun _ => 0)))], [(r_rowWorth_84, .inl (T.2 0, 512, .inl (fun _ => 0)))], [(r_farBy_85, .inl (T.2 0, 49, .inl (fun _ => 0)))], [(r_used_86, .inl (T.2 0, 7, .inl (fun _ => 0)))], [(r_fitPost_87, .inl (T.2 0, 28, .inl (fun _ => 0)))], [(r_fitEnd_88, .inl (T.2 0, 49, .inl (fun _ => 0)))], [(r_keptPosts_89, .inl (T.2 0, 7, .inl (fun _ => 0)))]] _ _ := G
  refine lv_astore_n (lv' := [(2, .ref q_74), (1, .ref q_1), (0, .ref b)]) hx hb dL_law_15 rfl hl (by decide) rfl (fun ls hl => ?_)
  refine lv_iconst (v := 0) hx hb dL_law_16 (by decide) ?_
  refine lv_istore_n (lv' := [(3, .int 0), (2, .ref q_74), (1, .ref q_1), (0, .ref b)]) hx hb dL_law_17 rfl hl (by decide) rfl (fun ls hl => ?_)
  refine lv_iload_n hx hb dL_law_18 rfl (lv_at hl 0 rfl) ?_
  refine lv_aload_n hx hb dL_law_19 rfl (lv_at hl 3 rfl) ?_
  refine va_slen hx hb hX hbl hbA G.2.2.2.1 dL_law_20 ?_
  refine lv_bipush (v := 6) hx hb dL_law_21 (by decide) ?_
  refine lv_isub hx hb dL_law_23 ?_
  refine lv_icmp_gt (tgt := 1773) hx hb dL_law_24 (by decide) (fun c_91 => ?_) (fun c_91 => ?_)
  · have c_91n : ((nI L) - 6).toInt < (0 : Int) := (fa_lt _ _).mp c_91
    refine lv_iconst (v := 1) hx hb dL_law_1773 (by decide) ?_
    refine va_forget (fun q hq => by have h9 := G.2.2.2.1.2.2 q hq; rw [hAe] at h9; exact h9) ?_
    refine W.widen (k := 600000) (n := 7302250) (Nat.le_of_ble_eq_true rfl) (Nat.le_of_ble_eq_true rfl) ?_
    exact lw_ret hx hb hr hlocks dL_law_1774
  · have c_91n : ¬ ((nI L) - 6).toInt < (0 : Int) := fun q => c_91 ((fa_lt _ _).mpr q)
    have h6 : (nI L - 6).toInt = (L : Int) - 6 := pk_sub_toInt (b := 6) (by omega) (by omega)
    obtain rfl : L = 6 := by omega
    refine lv_aload_n hx hb dL_law_27 rfl (lv_at hl 3 rfl) ?_
    refine lv_iload_n hx hb dL_law_28 rfl (lv_at hl 0 rfl) ?_
    refine va_sld hx hb hX hbl hbA G.2.2.2.1 (vp_in_nI (n := 0) (by decide) (by decide)) dL_law_29 ?_
    refine lv_topi (fun v_92 ev_92 => ?_)
    have ev_92 : v_92 = xs 0 := ev_92
    subst ev_92
    refine lv_bipush (v := 63) hx hb dL_law_30 (by decide) ?_
    refine lv_iand hx hb dL_law_32 ?_
    refine lv_topi (fun op_92 eop_92 => ?_)
    by_cases c_94o : op_92.toInt < 0 ∨ 34 < op_92.toInt
    · refine lv_tableOut (tgt := 1767) hx hb dL_law_33 c_94o (by decide) ?_
      refine lv_iinc (v := 6) (lv' := [(3, .int 6), (2, .ref q_74), (1, .ref q_1), (0, .ref b)]) hx hb dL_law_1767 hl (k := 0) rfl (by decide) (by decide) rfl (fun ls hl => ?_)
      refine lv_goto (tgt := 18) hx hb dL_law_1770 (by decide) ?_
      refine lv_iload_n hx hb dL_law_18 rfl (lv_at hl 0 rfl) ?_
      refine lv_aload_n hx hb dL_law_19 rfl (lv_at hl 3 rfl) ?_
      refine va_slen hx hb hX hbl hbA G.2.2.2.1 dL_law_20 ?_
      refine lv_bipush (v := 6) hx hb dL_law_21 (by decide) ?_
      refine lv_isub hx hb dL_law_23 ?_
      refine lv_topi (fun y_95 ey_95 => ?_)
      obtain rfl : y_95 = 0 := ey_95.trans (by decide)
      refine lv_icmp_gt (tgt := 1773) hx hb dL_law_24 (by decide) (fun _ => ?_) (fun q => absurd (by decide) q)
      refine lv_iconst (v := 1) hx hb dL_law_1773 (by decide) ?_
      refine va_forget (fun q hq => by have h9 := G.2.2.2.1.2.2 q hq; rw [hAe] at h9; exact h9) ?_
      refine W.widen (k := 600000) (n := 7302250) (Nat.le_of_ble_eq_true rfl) (Nat.le_of_ble_eq_true rfl) ?_
      exact lw_ret hx hb hr hlocks dL_law_1774
    · have c_94r : op_92.toInt = 0 ∨ op_92.toInt = 1 ∨ op_92.toInt = 2 ∨ op_92.toInt = 3 ∨ op_92.toInt = 4 ∨ op_92.toInt = 5 ∨ op_92.toInt = 6 ∨ op_92.toInt = 7 ∨ op_92.toInt = 8 ∨ op_92.toInt = 9 ∨ op_92.toInt = 10 ∨ op_92.toInt = 11 ∨ op_92.toInt = 12 ∨ op_92.toInt = 13 ∨ op_92.toInt = 14 ∨ op_92.toInt = 15 ∨ op_92.toInt = 16 ∨ op_92.toInt = 17 ∨ op_92.toInt = 18 ∨ op_92.toInt = 19 ∨ op_92.toInt = 20 ∨ op_92.toInt = 21 ∨ op_92.toInt = 22 ∨ op_92.toInt = 23 ∨ op_92.toInt = 24 ∨ op_92.toInt = 25 ∨ op_92.toInt = 26 ∨ op_92.toInt = 27 ∨ op_92.toInt = 28 ∨ op_92.toInt = 29 ∨ op_92.toInt = 30 ∨ op_92.toInt = 31 ∨ op_92.toInt = 32 ∨ op_92.toInt = 33 ∨ op_92.toInt = 34 := by omega
      rcases c_94r with c_94 | c_94 | c_94 | c_94 | c_94 | c_94 | c_94 | c_94 | c_94 | c_94 | c_94 | c_94 | c_94 | c_94 | c_94 | c_94 | c_94 | c_94 | c_94 | c_94 | c_94 | c_94 | c_94 | c_94 | c_94 | c_94 | c_94 | c_94 | c_94 | c_94 | c_94 | c_94 | c_94 | c_94 | c_94
      · refine lv_tableIn (tgt := 188) hx hb dL_law_33 (by omega) (by omega) (by rw [c_94]; rfl) (by decide) ?_
        refine lv_aload_n hx hb dL_law_188 rfl (lv_at hl 2 rfl) ?_
        refine lv_aload_n hx hb dL_law_189 rfl (lv_at hl 3 rfl) ?_
        refine lv_iload_n hx hb dL_law_190 rfl (lv_at hl 0 rfl) ?_
        refine lv_iconst (v := 1) hx hb dL_law_191 (by decide) ?_
        refine lv_iadd hx hb dL_law_192 ?_
        refine lv_topi (fun y_96 ey_96 => ?_)
        obtain rfl : y_96 = 1 := ey_96.trans (by decide)
        refine va_sld hx hb hX hbl hbA G.2.2.2.1 (vp_in_nI (n := 1) (by decide) (by decide)) dL_law_193 ?_
        refine lv_topi (fun v_97 ev_97 => ?_)
        have ev_97 : v_97 = xs 1 := ev_97
        subst ev_97
        refine lv_aload_n hx hb dL_law_194 rfl (lv_at hl 3 rfl) ?_
        refine lv_iload_n hx hb dL_law_195 rfl (lv_at hl 0 rfl) ?_
        refine lv_iconst (v := 2) hx hb dL_law_196 (by decide) ?_
        refine lv_iadd hx hb dL_law_197 ?_
        refine lv_topi (fun y_98 ey_98 => ?_)
        obtain rfl : y_98 = 2 := ey_98.trans (by decide)
        refine va_sld hx hb hX hbl hbA G.2.2.2.1 (vp_in_nI (n := 2) (by decide) (by decide)) dL_law_198 ?_
        refine lv_topi (fun v_99 ev_99 => ?_)
        have ev_99 : v_99 = xs 2 := ev_99
        subst ev_99
        refine lv_aload_n hx hb dL_law_199 rfl (lv_at hl 3 rfl) ?_
        refine lv_iload_n hx hb dL_law_200 rfl (lv_at hl 0 rfl) ?_
        refine lv_iconst (v := 3) hx hb dL_law_201 (by decide) ?_
        refine lv_iadd hx hb dL_law_202 ?_
        refine lv_topi (fun y_100 ey_100 => ?_)
        obtain rfl : y_100 = 3 := ey_100.trans (by decide)
        refine va_sld hx hb hX hbl hbA G.2.2.2.1 (vp_in_nI (n := 3) (by decide) (by decide)) dL_law_203 ?_
        refine lv_topi (fun v_101 ev_101 => ?_)
        have ev_101 : v_101 = xs 3 := ev_101
        subst ev_101
        refine lv_aload_n hx hb dL_law_204 rfl (lv_at hl 3 rfl) ?_
        refine lv_iload_n hx hb dL_law_205 rfl (lv_at hl 0 rfl) ?_
        refine lv_iconst (v := 4) hx hb dL_law_206 (by decide) ?_
        refine lv_iadd hx hb dL_law_207 ?_
        refine lv_topi (fun y_102 ey_102 => ?_)
        obtain rfl : y_102 = 4 := ey_102.trans (by decide)
        refine va_sld hx hb hX hbl hbA G.2.2.2.1 (vp_in_nI (n := 4) (by decide) (by decide)) dL_law_208 ?_
        refine lv_topi (fun v_103 ev_103 => ?_)
        have ev_103 : v_103 = xs 4 := ev_103
        subst ev_103
        refine lv_aload_n hx hb dL_law_209 rfl (lv_at hl 3 rfl) ?_
        refine lv_iload_n hx hb dL_law_210 rfl (lv_at hl 0 rfl) ?_
        refine lv_iconst (v := 5) hx hb dL_law_211 (by decide) ?_
        refine lv_iadd hx hb dL_law_212 ?_
        refine lv_topi (fun y_104 ey_104 => ?_)
        obtain rfl : y_104 = 5 := ey_104.trans (by decide)
        refine va_sld hx hb hX hbl hbA G.2.2.2.1 (vp_in_nI (n := 5) (by decide) (by decide)) dL_law_213 ?_
        refine lv_topi (fun v_105 ev_105 => ?_)
        have ev_105 : v_105 = xs 5 := ev_105
        subst ev_105
        refine z_Vi (bc := [[(q_1, .inr (10, [.ref t0_2, .ref ia_3, .ref im_4, .ref rd_5, .ref po_6, .ref co_7, .ref tr_8, .ref wa_9, .ref wb_10, .ref fi_11, .ref cd_12]))], [(t0_2, .inr (8, [.ref a1p_13, .int 0, .int 0, .int (-1), .ref a2p_14, .ref a3p_15, .ref a4p_16, .ref a5p_17]))], [(a1p_13, .inl (T.2 1, 600, .inl f1p_18))]]) (br := [[(a2p_14, .inl (T.2 0, 3, .inl (fun _ => 0)))], [(a3p_15, .inl (T.2 3, 2, .inr (.inr (.inr (.inr f3p_19)))))], [(a4p_16, .inl (T.2 4, 2, .inr (.inr (.inr (.inr f4p_20)))))], [(a5p_17, .inl (T.2 5, 2, .inr (.inr (.inr (.inr f5p_21)))))], w1p_28, w2p_29, w3p_30, w4p_31, w5p_32, w6p_33, [(ia_3, .inl (T.2 6, 3, .inr (.inr (.inr (.inr fq_34)))))], u0_38, u1_39, u2_40, [(im_4, .inl (T.2 2, 3, .inl (fun _ => 0)))], v_41, z1_42, z2_43, z3_44, w1_45, w2_46, w3_47, [(cd_12, .inl (T.2 0, 1000, .inl (fun _ => 0)))], [(q_74, .inr (11, [.ref r_all_75, .ref r_has_76, .int 0, .int 0, .int 0, .int 0, .int 0, .int 0, .int 0, .int 0, .ref r_read_77, .int 0, .int 0, .int 0, .ref r_posts_78, .ref r_shut_79, .ref r_here_80, .int 0, .int 0, .int 0, .int 0, .ref r_was_81, .ref r_came_82, .ref r_seenAt_83, .ref r_rowWorth_84, .ref r_farBy_85, .ref r_used_86, .int 0, .int 0, .int 0, .int 0, .int 0, .int 0, .int 0, .int 0, .int 0, .int 0, .int 0, .int 0, .ref r_fitPost_87, .ref r_fitEnd_88, .ref r_keptPosts_89, .int 0]))], [(r_all_75, .inl (T.2 0, 3952, .inl (upd (fun _ => 0) 6 (-1))))], [(r_has_76, .inl (T.2 2, 3, .inl (fun _ => 0)))], [(r_read_77, .inl (T.2 0, 121, .inl (fun _ => 0)))], [(r_posts_78, .inl (T.2 0, 7, .inl (fun _ => 0)))], [(r_shut_79, .inl (T.2 0, 7, .inl (fun _ => 0)))], [(r_here_80, .inl (T.2 0, 7, .inl (fun _ => 0)))], [(r_was_81, .inl (T.2 0, 7, .inl (fun _ => 0)))], [(r_came_82, .inl (T.2 0, 7, .inl (fun _ => 0)))], [(r_seenAt_83, .inl (T.2 0, 16384, .inl (fun _ => 0)))], [(r_rowWorth_84, .inl (T.2 0, 512, .inl (fun _ => 0)))], [(r_farBy_85, .inl (T.2 0, 49, .inl (fun _ => 0)))], [(r_used_86, .inl (T.2 0, 7, .inl (fun _ => 0)))], [(r_fitPost_87, .inl (T.2 0, 28, .inl (fun _ => 0)))], [(r_fitEnd_88, .inl (T.2 0, 49, .inl (fun _ => 0)))], [(r_keptPosts_89, .inl (T.2 0, 7, .inl (fun _ => 0)))]]) (As := [.int (xs 1), .int (xs 2), .int (xs 3), .int (xs 4), .int (xs 5)]) (rest := []) C G (c_x_feed l T q_1 t0_2 ia_3 im_4 rd_5 po_6 co_7 tr_8 wa_9 wb_10 fi_11 cd_12 a1p_13 a2p_14 a3p_15 a4p_16 a5p_17 f1p_18 (xs 1) (xs 2) (xs 3) (xs 4) (xs 5)) (kV_RL_13 C.2.2.2.2 (Nat.le_of_ble_eq_true rfl) (Nat.le_of_ble_eq_true rfl)) [0, 1, 2] [3, 4, 5, 6, 7, 8, 9, 10, 11, 12, 13, 14, 15, 16, 17, 18, 19, 20, 21, 22, 23, 24, 25, 26, 27, 28, 29, 30, 31, 32, 33, 34, 35, 36, 37, 38, 39, 40, 41] rfl rfl (ci := 10) (qc := (RX11, TX11, 11)) rfl rfl (List.mem_flatten.mpr ⟨_, List.mem_of_getElem? (i := 0) rfl, List.mem_cons_self⟩) rfl rfl hl.1 dL_law_214 (Nat.le_of_ble_eq_true rfl) (Nat.le_of_ble_eq_true rfl) (fun r_107 b1 H locs hw G => ?_)
        obtain ⟨rfl, h_106⟩ := hw
        have G : zS T A s.heap s [[(a2p_14, .inl (T.2 0, 3, .inl (fun _ => 0)))], [(a3p_15, .inl (T.2 3, 2, .inr (.inr (.inr (.inr f3p_19)))))], [(a4p_16, .inl (T.2 4, 2, .inr (.inr (.inr (.inr f4p_20)))))], [(a5p_17, .inl (T.2 5, 2, .inr (.inr (.inr (.inr f5p_21)))))], w1p_28, w2p_29, w3p_30, w4p_31, w5p_32, w6p_33, [(ia_3, .inl (T.2 6, 3, .inr (.inr (.inr (.inr fq_34)))))], u0_38, u1_39, u2_40, [(im_4, .inl (T.2 2, 3, .inl (fun _ => 0)))], v_41, z1_42, z2_43, z3_44, w1_45, w2_46, w3_47, [(cd_12, .inl (T.2 0, 1000, .inl (fun _ => 0)))], [(q_74, .inr (11, [.ref r_all_75, .ref r_has_76, .int 0, .int 0, .int 0, .int 0, .int 0, .int 0, .int 0, .int 0, .ref r_read_77, .int 0, .int 0, .int 0, .ref r_posts_78, .ref r_shut_79, .ref r_here_80, .int 0, .int 0, .int 0, .int 0, .ref r_was_81, .ref r_came_82, .ref r_seenAt_83, .ref r_rowWorth_84, .ref r_farBy_85, .ref r_used_86, .int 0, .int 0, .int 0, .int 0, .int 0, .int 0, .int 0, .int 0, .int 0, .int 0, .int 0, .int 0, .ref r_fitPost_87, .ref r_fitEnd_88, .ref r_keptPosts_89, .int 0]))], [(r_all_75, .inl (T.2 0, 3952, .inl (upd (fun _ => 0) 6 (-1))))], [(r_has_76, .inl (T.2 2, 3, .inl (fun _ => 0)))], [(r_read_77, .inl (T.2 0, 121, .inl (fun _ => 0)))], [(r_posts_78, .inl (T.2 0, 7, .inl (fun _ => 0)))], [(r_shut_79, .inl (T.2 0, 7, .inl (fun _ => 0)))], [(r_here_80, .inl (T.2 0, 7, .inl (fun _ => 0)))], [(r_was_81, .inl (T.2 0, 7, .inl (fun _ => 0)))], [(r_came_82, .inl (T.2 0, 7, .inl (fun _ => 0)))], [(r_seenAt_83, .inl (T.2 0, 16384, .inl (fun _ => 0)))], [(r_rowWorth_84, .inl (T.2 0, 512, .inl (fun _ => 0)))], [(r_farBy_85, .inl (T.2 0, 49, .inl (fun _ => 0)))], [(r_used_86, .inl (T.2 0, 7, .inl (fun _ => 0)))], [(r_fitPost_87, .inl (T.2 0, 28, .inl (fun _ => 0)))], [(r_fitEnd_88, .inl (T.2 0, 49, .inl (fun _ => 0)))], [(r_keptPosts_89, .inl (T.2 0, 7, .inl (fun _ => 0)))]] _ _ := G
        subst h_106
        refine lv_aload_n hx hb dL_law_217 rfl (lv_at hl 1 rfl) ?_
        refine lv_aload_n hx hb dL_law_218 rfl (lv_at hl 3 rfl) ?_
        refine lv_iload_n hx hb dL_law_219 rfl (lv_at hl 0 rfl) ?_
        refine lv_iconst (v := 1) hx hb dL_law_220 (by decide) ?_
        refine lv_iadd hx hb dL_law_221 ?_
        refine lv_topi (fun y_108 ey_108 => ?_)
        obtain rfl : y_108 = 1 := ey_108.trans (by decide)
        refine va_sld hx hb hX hbl hbA G.2.2.2.1 (vp_in_nI (n := 1) (by decide) (by decide)) dL_law_222 ?_
        refine lv_topi (fun v_109 ev_109 => ?_)
        have ev_109 : v_109 = xs 1 := ev_109
        subst ev_109
        refine lv_aload_n hx hb dL_law_223 rfl (lv_at hl 3 rfl) ?_
        refine lv_iload_n hx hb dL_law_224 rfl (lv_at hl 0 rfl) ?_
        refine lv_iconst (v := 2) hx hb dL_law_225 (by decide) ?_
        refine lv_iadd hx hb dL_law_226 ?_
        refine lv_topi (fun y_110 ey_110 => ?_)
        obtain rfl : y_110 = 2 := ey_110.trans (by decide)
        refine va_sld hx hb hX hbl hbA G.2.2.2.1 (vp_in_nI (n := 2) (by decide) (by decide)) dL_law_227 ?_
        refine lv_topi (fun v_111 ev_111 => ?_)
        have ev_111 : v_111 = xs 2 := ev_111
        subst ev_111
        refine lv_aload_n hx hb dL_law_228 rfl (lv_at hl 3 rfl) ?_
        refine lv_iload_n hx hb dL_law_229 rfl (lv_at hl 0 rfl) ?_
        refine lv_iconst (v := 3) hx hb dL_law_230 (by decide) ?_
        refine lv_iadd hx hb dL_law_231 ?_
        refine lv_topi (fun y_112 ey_112 => ?_)
        obtain rfl : y_112 = 3 := ey_112.trans (by decide)
        refine va_sld hx hb hX hbl hbA G.2.2.2.1 (vp_in_nI (n := 3) (by decide) (by decide)) dL_law_232 ?_
        refine lv_topi (fun v_113 ev_113 => ?_)
        have ev_113 : v_113 = xs 3 := ev_113
        subst ev_113
        refine lv_aload_n hx hb dL_law_233 rfl (lv_at hl 3 rfl) ?_
        refine lv_iload_n hx hb dL_law_234 rfl (lv_at hl 0 rfl) ?_
        refine lv_iconst (v := 4) hx hb dL_law_235 (by decide) ?_
        refine lv_iadd hx hb dL_law_236 ?_
        refine lv_topi (fun y_114 ey_114 => ?_)
        obtain rfl : y_114 = 4 := ey_114.trans (by decide)
        refine va_sld hx hb hX hbl hbA G.2.2.2.1 (vp_in_nI (n := 4) (by decide) (by decide)) dL_law_237 ?_
        refine lv_topi (fun v_115 ev_115 => ?_)
        have ev_115 : v_115 = xs 4 := ev_115
        subst ev_115
        refine lv_aload_n hx hb dL_law_238 rfl (lv_at hl 3 rfl) ?_
        refine lv_iload_n hx hb dL_law_239 rfl (lv_at hl 0 rfl) ?_
        refine lv_iconst (v := 5) hx hb dL_law_240 (by decide) ?_
        refine lv_iadd hx hb dL_law_241 ?_
        refine lv_topi (fun y_116 ey_116 => ?_)
        obtain rfl : y_116 = 5 := ey_116.trans (by decide)
        refine va_sld hx hb hX hbl hbA G.2.2.2.1 (vp_in_nI (n := 5) (by decide) (by decide)) dL_law_242 ?_
        refine lv_topi (fun v_117 ev_117 => ?_)
        have ev_117 : v_117 = xs 5 := ev_117
        subst ev_117
        refine z_Vi (bc := [[(q_74, .inr (11, [.ref r_all_75, .ref r_has_76, .int 0, .int 0, .int 0, .int 0, .int 0, .int 0, .int 0, .int 0, .ref r_read_77, .int 0, .int 0, .int 0, .ref r_posts_78, .ref r_shut_79, .ref r_here_80, .int 0, .int 0, .int 0, .int 0, .ref r_was_81, .ref r_came_82, .ref r_seenAt_83, .ref r_rowWorth_84, .ref r_farBy_85, .ref r_used_86, .int 0, .int 0, .int 0, .int 0, .int 0, .int 0, .int 0, .int 0, .int 0, .int 0, .int 0, .int 0, .ref r_fitPost_87, .ref r_fitEnd_88, .ref r_keptPosts_89, .int 0]))], [(r_all_75, .inl (T.2 0, 3952, .inl (upd (fun _ => 0) 6 (-1))))]]) (br := [[(a2p_14, .inl (T.2 0, 3, .inl (fun _ => 0)))], [(a3p_15, .inl (T.2 3, 2, .inr (.inr (.inr (.inr f3p_19)))))], [(a4p_16, .inl (T.2 4, 2, .inr (.inr (.inr (.inr f4p_20)))))], [(a5p_17, .inl (T.2 5, 2, .inr (.inr (.inr (.inr f5p_21)))))], w1p_28, w2p_29, w3p_30, w4p_31, w5p_32, w6p_33, [(ia_3, .inl (T.2 6, 3, .inr (.inr (.inr (.inr fq_34)))))], u0_38, u1_39, u2_40, [(im_4, .inl (T.2 2, 3, .inl (fun _ => 0)))], v_41, z1_42, z2_43, z3_44, w1_45, w2_46, w3_47, [(cd_12, .inl (T.2 0, 1000, .inl (fun _ => 0)))], [(r_has_76, .inl (T.2 2, 3, .inl (fun _ => 0)))], [(r_read_77, .inl (T.2 0, 121, .inl (fun _ => 0)))], [(r_posts_78, .inl (T.2 0, 7, .inl (fun _ => 0)))], [(r_shut_79, .inl (T.2 0, 7, .inl (fun _ => 0)))], [(r_here_80, .inl (T.2 0, 7, .inl (fun _ => 0)))], [(r_was_81, .inl (T.2 0, 7, .inl (fun _ => 0)))], [(r_came_82, .inl (T.2 0, 7, .inl (fun _ => 0)))], [(r_seenAt_83, .inl (T.2 0, 16384, .inl (fun _ => 0)))], [(r_rowWorth_84, .inl (T.2 0, 512, .inl (fun _ => 0)))], [(r_farBy_85, .inl (T.2 0, 49, .inl (fun _ => 0)))], [(r_used_86, .inl (T.2 0, 7, .inl (fun _ => 0)))], [(r_fitPost_87, .inl (T.2 0, 28, .inl (fun _ => 0)))], [(r_fitEnd_88, .inl (T.2 0, 49, .inl (fun _ => 0)))], [(r_keptPosts_89, .inl (T.2 0, 7, .inl (fun _ => 0)))]]) (As := [.int (xs 1), .int (xs 2), .int (xs 3), .int (xs 4), .int (xs 5)]) (rest := [.int 20]) C G (c_m_feed l T q_74 r_all_75 r_has_76 r_read_77 r_posts_78 r_shut_79 r_here_80 r_was_81 r_came_82 r_seenAt_83 r_rowWorth_84 r_farBy_85 r_used_86 r_fitPost_87 r_fitEnd_88 r_keptPosts_89 (xs 1) (xs 2) (xs 3) (xs 4) (xs 5)) (kV_RL_17 C.2.2.2.2 (Nat.le_of_ble_eq_true rfl) (Nat.le_of_ble_eq_true rfl)) [23, 24] [0, 1, 2, 3, 4, 5, 6, 7, 8, 9, 10, 11, 12, 13, 14, 15, 16, 17, 18, 19, 20, 21, 22, 25, 26, 27, 28, 29, 30, 31, 32, 33, 34, 35, 36, 37, 38] rfl rfl (ci := 11) (qc := (RX12, TX12, 43)) rfl rfl (List.mem_flatten.mpr ⟨_, List.mem_of_getElem? (i := 0) rfl, List.mem_cons_self⟩) rfl rfl hl.1 dL_law_243 (Nat.le_of_ble_eq_true rfl) (Nat.le_of_ble_eq_true rfl) (fun r_119 b1 H locs hw G => ?_)
        obtain ⟨rfl, h_118⟩ := hw
        have G : zS T A s.heap s [[(a2p_14, .inl (T.2 0, 3, .inl (fun _ => 0)))], [(a3p_15, .inl (T.2 3, 2, .inr (.inr (.inr (.inr f3p_19)))))], [(a4p_16, .inl (T.2 4, 2, .inr (.inr (.inr (.inr f4p_20)))))], [(a5p_17, .inl (T.2 5, 2, .inr (.inr (.inr (.inr f5p_21)))))], w1p_28, w2p_29, w3p_30, w4p_31, w5p_32, w6p_33, [(ia_3, .inl (T.2 6, 3, .inr (.inr (.inr (.inr fq_34)))))], u0_38, u1_39, u2_40, [(im_4, .inl (T.2 2, 3, .inl (fun _ => 0)))], v_41, z1_42, z2_43, z3_44, w1_45, w2_46, w3_47, [(cd_12, .inl (T.2 0, 1000, .inl (fun _ => 0)))], [(r_has_76, .inl (T.2 2, 3, .inl (fun _ => 0)))], [(r_read_77, .inl (T.2 0, 121, .inl (fun _ => 0)))], [(r_posts_78, .inl (T.2 0, 7, .inl (fun _ => 0)))], [(r_shut_79, .inl (T.2 0, 7, .inl (fun _ => 0)))], [(r_here_80, .inl (T.2 0, 7, .inl (fun _ => 0)))], [(r_was_81, .inl (T.2 0, 7, .inl (fun _ => 0)))], [(r_came_82, .inl (T.2 0, 7, .inl (fun _ => 0)))], [(r_seenAt_83, .inl (T.2 0, 16384, .inl (fun _ => 0)))], [(r_rowWorth_84, .inl (T.2 0, 512, .inl (fun _ => 0)))], [(r_farBy_85, .inl (T.2 0, 49, .inl (fun _ => 0)))], [(r_used_86, .inl (T.2 0, 7, .inl (fun _ => 0)))], [(r_fitPost_87, .inl (T.2 0, 28, .inl (fun _ => 0)))], [(r_fitEnd_88, .inl (T.2 0, 49, .inl (fun _ => 0)))], [(r_keptPosts_89, .inl (T.2 0, 7, .inl (fun _ => 0)))]] _ _ := G
        subst h_118
        refine lv_icmp_eq (tgt := 1767) hx hb dL_law_246 (by decide) (fun _ => ?_) (fun q => absurd (by decide) q)
        refine lv_iinc (v := 6) (lv' := [(3, .int 6), (2, .ref q_74), (1, .ref q_1), (0, .ref b)]) hx hb dL_law_1767 hl (k := 0) rfl (by decide) (by decide) rfl (fun ls hl => ?_)
        refine lv_goto (tgt := 18) hx hb dL_law_1770 (by decide) ?_
        refine lv_iload_n hx hb dL_law_18 rfl (lv_at hl 0 rfl) ?_
        refine lv_aload_n hx hb dL_law_19 rfl (lv_at hl 3 rfl) ?_
        refine va_slen hx hb hX hbl hbA G.2.2.2.1 dL_law_20 ?_
        refine lv_bipush (v := 6) hx hb dL_law_21 (by decide) ?_
        refine lv_isub hx hb dL_law_23 ?_
        refine lv_topi (fun y_120 ey_120 => ?_)
        obtain rfl : y_120 = 0 := ey_120.trans (by decide)
        refine lv_icmp_gt (tgt := 1773) hx hb dL_law_24 (by decide) (fun _ => ?_) (fun q => absurd (by decide) q)
        refine lv_iconst (v := 1) hx hb dL_law_1773 (by decide) ?_
        refine va_forget (fun q hq => by have h9 := G.2.2.2.1.2.2 q hq; rw [hAe] at h9; exact h9) ?_
        refine W.widen (k := 600000) (n := 7302250) (Nat.le_of_ble_eq_true rfl) (Nat.le_of_ble_eq_true rfl) ?_
        exact lw_ret hx hb hr hlocks dL_law_1774
      · refine lv_tableIn (tgt := 251) hx hb dL_law_33 (by omega) (by omega) (by rw [c_94]; rfl) (by decide) ?_
        refine lv_aload_n hx hb dL_law_251 rfl (lv_at hl 2 rfl) ?_
        refine lv_aload_n hx hb dL_law_252 rfl (lv_at hl 3 rfl) ?_
        refine lv_iload_n hx hb dL_law_253 rfl (lv_at hl 0 rfl) ?_
        refine lv_iconst (v := 1) hx hb dL_law_254 (by decide) ?_
        refine lv_iadd hx hb dL_law_255 ?_
        refine lv_topi (fun y_121 ey_121 => ?_)
        obtain rfl : y_121 = 1 := ey_121.trans (by decide)
        refine va_sld hx hb hX hbl hbA G.2.2.2.1 (vp_in_nI (n := 1) (by decide) (by decide)) dL_law_256 ?_
        refine lv_topi (fun v_122 ev_122 => ?_)
        have ev_122 : v_122 = xs 1 := ev_122
        subst ev_122
        refine z_Vi (bc := [[(q_1, .inr (10, [.ref t0_2, .ref ia_3, .ref im_4, .ref rd_5, .ref po_6, .ref co_7, .ref tr_8, .ref wa_9, .ref wb_10, .ref fi_11, .ref cd_12]))], [(t0_2, .inr (8, [.ref a1p_13, .int 0, .int 0, .int (-1), .ref a2p_14, .ref a3p_15, .ref a4p_16, .ref a5p_17]))]]) (br := [[(a1p_13, .inl (T.2 1, 600, .inl f1p_18))], [(a2p_14, .inl (T.2 0, 3, .inl (fun _ => 0)))], [(a3p_15, .inl (T.2 3, 2, .inr (.inr (.inr (.inr f3p_19)))))], [(a4p_16, .inl (T.2 4, 2, .inr (.inr (.inr (.inr f4p_20)))))], [(a5p_17, .inl (T.2 5, 2, .inr (.inr (.inr (.inr f5p_21)))))], w1p_28, w2p_29, w3p_30, w4p_31, w5p_32, w6p_33, [(ia_3, .inl (T.2 6, 3, .inr (.inr (.inr (.inr fq_34)))))], u0_38, u1_39, u2_40, [(im_4, .inl (T.2 2, 3, .inl (fun _ => 0)))], v_41, z1_42, z2_43, z3_44, w1_45, w2_46, w3_47, [(cd_12, .inl (T.2 0, 1000, .inl (fun _ => 0)))], [(q_74, .inr (11, [.ref r_all_75, .ref r_has_76, .int 0, .int 0, .int 0, .int 0, .int 0, .int 0, .int 0, .int 0, .ref r_read_77, .int 0, .int 0, .int 0, .ref r_posts_78, .ref r_shut_79, .ref r_here_80, .int 0, .int 0, .int 0, .int 0, .ref r_was_81, .ref r_came_82, .ref r_seenAt_83, .ref r_rowWorth_84, .ref r_farBy_85, .ref r_used_86, .int 0, .int 0, .int 0, .int 0, .int 0, .int 0, .int 0, .int 0, .int 0, .int 0, .int 0, .int 0, .ref r_fitPost_87, .ref r_fitEnd_88, .ref r_keptPosts_89, .int 0]))], [(r_all_75, .inl (T.2 0, 3952, .inl (upd (fun _ => 0) 6 (-1))))], [(r_has_76, .inl (T.2 2, 3, .inl (fun _ => 0)))], [(r_read_77, .inl (T.2 0, 121, .inl (fun _ => 0)))], [(r_posts_78, .inl (T.2 0, 7, .inl (fun _ => 0)))], [(r_shut_79, .inl (T.2 0, 7, .inl (fun _ => 0)))], [(r_here_80, .inl (T.2 0, 7, .inl (fun _ => 0)))], [(r_was_81, .inl (T.2 0, 7, .inl (fun _ => 0)))], [(r_came_82, .inl (T.2 0, 7, .inl (fun _ => 0)))], [(r_seenAt_83, .inl (T.2 0, 16384, .inl (fun _ => 0)))], [(r_rowWorth_84, .inl (T.2 0, 512, .inl (fun _ => 0)))], [(r_farBy_85, .inl (T.2 0, 49, .inl (fun _ => 0)))], [(r_used_86, .inl (T.2 0, 7, .inl (fun _ => 0)))], [(r_fitPost_87, .inl (T.2 0, 28, .inl (fun _ => 0)))], [(r_fitEnd_88, .inl (T.2 0, 49, .inl (fun _ => 0)))], [(r_keptPosts_89, .inl (T.2 0, 7, .inl (fun _ => 0)))]]) (As := [.int (xs 1)]) (rest := []) C G (c_x_end l T q_1 t0_2 ia_3 im_4 rd_5 po_6 co_7 tr_8 wa_9 wb_10 fi_11 cd_12 a1p_13 a2p_14 a3p_15 a4p_16 a5p_17 (xs 1)) (kV_RL_18 C.2.2.2.2 (Nat.le_of_ble_eq_true rfl) (Nat.le_of_ble_eq_true rfl)) [0, 1] [2, 3, 4, 5, 6, 7, 8, 9, 10, 11, 12, 13, 14, 15, 16, 17, 18, 19, 20, 21, 22, 23, 24, 25, 26, 27, 28, 29, 30, 31, 32, 33, 34, 35, 36, 37, 38, 39, 40, 41] rfl rfl (ci := 10) (qc := (RX11, TX11, 11)) rfl rfl (List.mem_flatten.mpr ⟨_, List.mem_of_getElem? (i := 0) rfl, List.mem_cons_self⟩) rfl rfl hl.1 dL_law_257 (Nat.le_of_ble_eq_true rfl) (Nat.le_of_ble_eq_true rfl) (fun r_124 b1 H locs hw G => ?_)
        obtain ⟨rfl, h_123⟩ := hw
        have G : zS T A s.heap s [[(a1p_13, .inl (T.2 1, 600, .inl f1p_18))], [(a2p_14, .inl (T.2 0, 3, .inl (fun _ => 0)))], [(a3p_15, .inl (T.2 3, 2, .inr (.inr (.inr (.inr f3p_19)))))], [(a4p_16, .inl (T.2 4, 2, .inr (.inr (.inr (.inr f4p_20)))))], [(a5p_17, .inl (T.2 5, 2, .inr (.inr (.inr (.inr f5p_21)))))], w1p_28, w2p_29, w3p_30, w4p_31, w5p_32, w6p_33, [(ia_3, .inl (T.2 6, 3, .inr (.inr (.inr (.inr fq_34)))))], u0_38, u1_39, u2_40, [(im_4, .inl (T.2 2, 3, .inl (fun _ => 0)))], v_41, z1_42, z2_43, z3_44, w1_45, w2_46, w3_47, [(cd_12, .inl (T.2 0, 1000, .inl (fun _ => 0)))], [(q_74, .inr (11, [.ref r_all_75, .ref r_has_76, .int 0, .int 0, .int 0, .int 0, .int 0, .int 0, .int 0, .int 0, .ref r_read_77, .int 0, .int 0, .int 0, .ref r_posts_78, .ref r_shut_79, .ref r_here_80, .int 0, .int 0, .int 0, .int 0, .ref r_was_81, .ref r_came_82, .ref r_seenAt_83, .ref r_rowWorth_84, .ref r_farBy_85, .ref r_used_86, .int 0, .int 0, .int 0, .int 0, .int 0, .int 0, .int 0, .int 0, .int 0, .int 0, .int 0, .int 0, .ref r_fitPost_87, .ref r_fitEnd_88, .ref r_keptPosts_89, .int 0]))], [(r_all_75, .inl (T.2 0, 3952, .inl (upd (fun _ => 0) 6 (-1))))], [(r_has_76, .inl (T.2 2, 3, .inl (fun _ => 0)))], [(r_read_77, .inl (T.2 0, 121, .inl (fun _ => 0)))], [(r_posts_78, .inl (T.2 0, 7, .inl (fun _ => 0)))], [(r_shut_79, .inl (T.2 0, 7, .inl (fun _ => 0)))], [(r_here_80, .inl (T.2 0, 7, .inl (fun _ => 0)))], [(r_was_81, .inl (T.2 0, 7, .inl (fun _ => 0)))], [(r_came_82, .inl (T.2 0, 7, .inl (fun _ => 0)))], [(r_seenAt_83, .inl (T.2 0, 16384, .inl (fun _ => 0)))], [(r_rowWorth_84, .inl (T.2 0, 512, .inl (fun _ => 0)))], [(r_farBy_85, .inl (T.2 0, 49, .inl (fun _ => 0)))], [(r_used_86, .inl (T.2 0, 7, .inl (fun _ => 0)))], [(r_fitPost_87, .inl (T.2 0, 28, .inl (fun _ => 0)))], [(r_fitEnd_88, .inl (T.2 0, 49, .inl (fun _ => 0)))], [(r_keptPosts_89, .inl (T.2 0, 7, .inl (fun _ => 0)))]] _ _ := G
        subst h_123
        refine lv_aload_n hx hb dL_law_260 rfl (lv_at hl 1 rfl) ?_
        refine lv_aload_n hx hb dL_law_261 rfl (lv_at hl 3 rfl) ?_
        refine lv_iload_n hx hb dL_law_262 rfl (lv_at hl 0 rfl) ?_
        refine lv_iconst (v := 1) hx hb dL_law_263 (by decide) ?_
        refine lv_iadd hx hb dL_law_264 ?_
        refine lv_topi (fun y_125 ey_125 => ?_)
        obtain rfl : y_125 = 1 := ey_125.trans (by decide)
        refine va_sld hx hb hX hbl hbA G.2.2.2.1 (vp_in_nI (n := 1) (by decide) (by decide)) dL_law_265 ?_
        refine lv_topi (fun v_126 ev_126 => ?_)
        have ev_126 : v_126 = xs 1 := ev_126
        subst ev_126
        refine z_Vi (bc := [[(q_74, .inr (11, [.ref r_all_75, .ref r_has_76, .int 0, .int 0, .int 0, .int 0, .int 0, .int 0, .int 0, .int 0, .ref r_read_77, .int 0, .int 0, .int 0, .ref r_posts_78, .ref r_shut_79, .ref r_here_80, .int 0, .int 0, .int 0, .int 0, .ref r_was_81, .ref r_came_82, .ref r_seenAt_83, .ref r_rowWorth_84, .ref r_farBy_85, .ref r_used_86, .int 0, .int 0, .int 0, .int 0, .int 0, .int 0, .int 0, .int 0, .int 0, .int 0, .int 0, .int 0, .ref r_fitPost_87, .ref r_fitEnd_88, .ref r_keptPosts_89, .int 0]))], [(r_all_75, .inl (T.2 0, 3952, .inl (upd (fun _ => 0) 6 (-1))))]]) (br := [[(a1p_13, .inl (T.2 1, 600, .inl f1p_18))], [(a2p_14, .inl (T.2 0, 3, .inl (fun _ => 0)))], [(a3p_15, .inl (T.2 3, 2, .inr (.inr (.inr (.inr f3p_19)))))], [(a4p_16, .inl (T.2 4, 2, .inr (.inr (.inr (.inr f4p_20)))))], [(a5p_17, .inl (T.2 5, 2, .inr (.inr (.inr (.inr f5p_21)))))], w1p_28, w2p_29, w3p_30, w4p_31, w5p_32, w6p_33, [(ia_3, .inl (T.2 6, 3, .inr (.inr (.inr (.inr fq_34)))))], u0_38, u1_39, u2_40, [(im_4, .inl (T.2 2, 3, .inl (fun _ => 0)))], v_41, z1_42, z2_43, z3_44, w1_45, w2_46, w3_47, [(cd_12, .inl (T.2 0, 1000, .inl (fun _ => 0)))], [(r_has_76, .inl (T.2 2, 3, .inl (fun _ => 0)))], [(r_read_77, .inl (T.2 0, 121, .inl (fun _ => 0)))], [(r_posts_78, .inl (T.2 0, 7, .inl (fun _ => 0)))], [(r_shut_79, .inl (T.2 0, 7, .inl (fun _ => 0)))], [(r_here_80, .inl (T.2 0, 7, .inl (fun _ => 0)))], [(r_was_81, .inl (T.2 0, 7, .inl (fun _ => 0)))], [(r_came_82, .inl (T.2 0, 7, .inl (fun _ => 0)))], [(r_seenAt_83, .inl (T.2 0, 16384, .inl (fun _ => 0)))], [(r_rowWorth_84, .inl (T.2 0, 512, .inl (fun _ => 0)))], [(r_farBy_85, .inl (T.2 0, 49, .inl (fun _ => 0)))], [(r_used_86, .inl (T.2 0, 7, .inl (fun _ => 0)))], [(r_fitPost_87, .inl (T.2 0, 28, .inl (fun _ => 0)))], [(r_fitEnd_88, .inl (T.2 0, 49, .inl (fun _ => 0)))], [(r_keptPosts_89, .inl (T.2 0, 7, .inl (fun _ => 0)))]]) (As := [.int (xs 1)]) (rest := [.int (zEnd (xs 1))]) C G (c_m_end l T q_74 r_all_75 r_has_76 r_read_77 r_posts_78 r_shut_79 r_here_80 r_was_81 r_came_82 r_seenAt_83 r_rowWorth_84 r_farBy_85 r_used_86 r_fitPost_87 r_fitEnd_88 r_keptPosts_89 (xs 1)) (kV_RL_22 C.2.2.2.2 (Nat.le_of_ble_eq_true rfl) (Nat.le_of_ble_eq_true rfl)) [24, 25] [0, 1, 2, 3, 4, 5, 6, 7, 8, 9, 10, 11, 12, 13, 14, 15, 16, 17, 18, 19, 20, 21, 22, 23, 26, 27, 28, 29, 30, 31, 32, 33, 34, 35, 36, 37, 38, 39] rfl rfl (ci := 11) (qc := (RX12, TX12, 43)) rfl rfl (List.mem_flatten.mpr ⟨_, List.mem_of_getElem? (i := 0) rfl, List.mem_cons_self⟩) rfl rfl hl.1 dL_law_266 (Nat.le_of_ble_eq_true rfl) (Nat.le_of_ble_eq_true rfl) (fun r_128 b1 H locs hw G => ?_)
        obtain ⟨rfl, h_127⟩ := hw
        have G : zS T A s.heap s [[(a1p_13, .inl (T.2 1, 600, .inl f1p_18))], [(a2p_14, .inl (T.2 0, 3, .inl (fun _ => 0)))], [(a3p_15, .inl (T.2 3, 2, .inr (.inr (.inr (.inr f3p_19)))))], [(a4p_16, .inl (T.2 4, 2, .inr (.inr (.inr (.inr f4p_20)))))], [(a5p_17, .inl (T.2 5, 2, .inr (.inr (.inr (.inr f5p_21)))))], w1p_28, w2p_29, w3p_30, w4p_31, w5p_32, w6p_33, [(ia_3, .inl (T.2 6, 3, .inr (.inr (.inr (.inr fq_34)))))], u0_38, u1_39, u2_40, [(im_4, .inl (T.2 2, 3, .inl (fun _ => 0)))], v_41, z1_42, z2_43, z3_44, w1_45, w2_46, w3_47, [(cd_12, .inl (T.2 0, 1000, .inl (fun _ => 0)))], [(r_has_76, .inl (T.2 2, 3, .inl (fun _ => 0)))], [(r_read_77, .inl (T.2 0, 121, .inl (fun _ => 0)))], [(r_posts_78, .inl (T.2 0, 7, .inl (fun _ => 0)))], [(r_shut_79, .inl (T.2 0, 7, .inl (fun _ => 0)))], [(r_here_80, .inl (T.2 0, 7, .inl (fun _ => 0)))], [(r_was_81, .inl (T.2 0, 7, .inl (fun _ => 0)))], [(r_came_82, .inl (T.2 0, 7, .inl (fun _ => 0)))], [(r_seenAt_83, .inl (T.2 0, 16384, .inl (fun _ => 0)))], [(r_rowWorth_84, .inl (T.2 0, 512, .inl (fun _ => 0)))], [(r_farBy_85, .inl (T.2 0, 49, .inl (fun _ => 0)))], [(r_used_86, .inl (T.2 0, 7, .inl (fun _ => 0)))], [(r_fitPost_87, .inl (T.2 0, 28, .inl (fun _ => 0)))], [(r_fitEnd_88, .inl (T.2 0, 49, .inl (fun _ => 0)))], [(r_keptPosts_89, .inl (T.2 0, 7, .inl (fun _ => 0)))]] _ _ := G
        subst h_127
        refine lv_icmp_eq (tgt := 1767) hx hb dL_law_269 (by decide) (fun _ => ?_) (fun q => absurd rfl q)
        refine lv_iinc (v := 6) (lv' := [(3, .int 6), (2, .ref q_74), (1, .ref q_1), (0, .ref b)]) hx hb dL_law_1767 hl (k := 0) rfl (by decide) (by decide) rfl (fun ls hl => ?_)
        refine lv_goto (tgt := 18) hx hb dL_law_1770 (by decide) ?_
        refine lv_iload_n hx hb dL_law_18 rfl (lv_at hl 0 rfl) ?_
        refine lv_aload_n hx hb dL_law_19 rfl (lv_at hl 3 rfl) ?_
        refine va_slen hx hb hX hbl hbA G.2.2.2.1 dL_law_20 ?_
        refine lv_bipush (v := 6) hx hb dL_law_21 (by decide) ?_
        refine lv_isub hx hb dL_law_23 ?_
        refine lv_topi (fun y_129 ey_129 => ?_)
        obtain rfl : y_129 = 0 := ey_129.trans (by decide)
        refine lv_icmp_gt (tgt := 1773) hx hb dL_law_24 (by decide) (fun _ => ?_) (fun q => absurd (by decide) q)
        refine lv_iconst (v := 1) hx hb dL_law_1773 (by decide) ?_
        refine va_forget (fun q hq => by have h9 := G.2.2.2.1.2.2 q hq; rw [hAe] at h9; exact h9) ?_
        refine W.widen (k := 600000) (n := 7302250) (Nat.le_of_ble_eq_true rfl) (Nat.le_of_ble_eq_true rfl) ?_
        exact lw_ret hx hb hr hlocks dL_law_1774
      · refine lv_tableIn (tgt := 274) hx hb dL_law_33 (by omega) (by omega) (by rw [c_94]; rfl) (by decide) ?_
        refine lv_aload_n hx hb dL_law_274 rfl (lv_at hl 2 rfl) ?_
        refine lv_aload_n hx hb dL_law_275 rfl (lv_at hl 3 rfl) ?_
        refine lv_iload_n hx hb dL_law_276 rfl (lv_at hl 0 rfl) ?_
        refine lv_iconst (v := 1) hx hb dL_law_277 (by decide) ?_
        refine lv_iadd hx hb dL_law_278 ?_
        refine lv_topi (fun y_130 ey_130 => ?_)
        obtain rfl : y_130 = 1 := ey_130.trans (by decide)
        refine va_sld hx hb hX hbl hbA G.2.2.2.1 (vp_in_nI (n := 1) (by decide) (by decide)) dL_law_279 ?_
        refine lv_topi (fun v_131 ev_131 => ?_)
        have ev_131 : v_131 = xs 1 := ev_131
        subst ev_131
        refine lv_aload_n hx hb dL_law_280 rfl (lv_at hl 3 rfl) ?_
        refine lv_iload_n hx hb dL_law_281 rfl (lv_at hl 0 rfl) ?_
        refine lv_iconst (v := 2) hx hb dL_law_282 (by decide) ?_
        refine lv_iadd hx hb dL_law_283 ?_
        refine lv_topi (fun y_132 ey_132 => ?_)
        obtain rfl : y_132 = 2 := ey_132.trans (by decide)
        refine va_sld hx hb hX hbl hbA G.2.2.2.1 (vp_in_nI (n := 2) (by decide) (by decide)) dL_law_284 ?_
        refine lv_topi (fun v_133 ev_133 => ?_)
        have ev_133 : v_133 = xs 2 := ev_133
        subst ev_133
        refine z_Vi (bc := [[(q_1, .inr (10, [.ref t0_2, .ref ia_3, .ref im_4, .ref rd_5, .ref po_6, .ref co_7, .ref tr_8, .ref wa_9, .ref wb_10, .ref fi_11, .ref cd_12]))], [(t0_2, .inr (8, [.ref a1p_13, .int 0, .int 0, .int (-1), .ref a2p_14, .ref a3p_15, .ref a4p_16, .ref a5p_17]))], [(a1p_13, .inl (T.2 1, 600, .inl f1p_18))], [(a2p_14, .inl (T.2 0, 3, .inl (fun _ => 0)))], [(a3p_15, .inl (T.2 3, 2, .inr (.inr (.inr (.inr f3p_19)))))], [(a4p_16, .inl (T.2 4, 2, .inr (.inr (.inr (.inr f4p_20)))))], [(a5p_17, .inl (T.2 5, 2, .inr (.inr (.inr (.inr f5p_21)))))], w1p_28, w2p_29, w3p_30, w4p_31, w5p_32, w6p_33, v_41, w1_45, w2_46, w3_47]) (br := [[(ia_3, .inl (T.2 6, 3, .inr (.inr (.inr (.inr fq_34)))))], u0_38, u1_39, u2_40, [(im_4, .inl (T.2 2, 3, .inl (fun _ => 0)))], z1_42, z2_43, z3_44, [(cd_12, .inl (T.2 0, 1000, .inl (fun _ => 0)))], [(q_74, .inr (11, [.ref r_all_75, .ref r_has_76, .int 0, .int 0, .int 0, .int 0, .int 0, .int 0, .int 0, .int 0, .ref r_read_77, .int 0, .int 0, .int 0, .ref r_posts_78, .ref r_shut_79, .ref r_here_80, .int 0, .int 0, .int 0, .int 0, .ref r_was_81, .ref r_came_82, .ref r_seenAt_83, .ref r_rowWorth_84, .ref r_farBy_85, .ref r_used_86, .int 0, .int 0, .int 0, .int 0, .int 0, .int 0, .int 0, .int 0, .int 0, .int 0, .int 0, .int 0, .ref r_fitPost_87, .ref r_fitEnd_88, .ref r_keptPosts_89, .int 0]))], [(r_all_75, .inl (T.2 0, 3952, .inl (upd (fun _ => 0) 6 (-1))))], [(r_has_76, .inl (T.2 2, 3, .inl (fun _ => 0)))], [(r_read_77, .inl (T.2 0, 121, .inl (fun _ => 0)))], [(r_posts_78, .inl (T.2 0, 7, .inl (fun _ => 0)))], [(r_shut_79, .inl (T.2 0, 7, .inl (fun _ => 0)))], [(r_here_80, .inl (T.2 0, 7, .inl (fun _ => 0)))], [(r_was_81, .inl (T.2 0, 7, .inl (fun _ => 0)))], [(r_came_82, .inl (T.2 0, 7, .inl (fun _ => 0)))], [(r_seenAt_83, .inl (T.2 0, 16384, .inl (fun _ => 0)))], [(r_rowWorth_84, .inl (T.2 0, 512, .inl (fun _ => 0)))], [(r_farBy_85, .inl (T.2 0, 49, .inl (fun _ => 0)))], [(r_used_86, .inl (T.2 0, 7, .inl (fun _ => 0)))], [(r_fitPost_87, .inl (T.2 0, 28, .inl (fun _ => 0)))], [(r_fitEnd_88, .inl (T.2 0, 49, .inl (fun _ => 0)))], [(r_keptPosts_89, .inl (T.2 0, 7, .inl (fun _ => 0)))]]) (As := [.int (xs 1), .int (xs 2)]) (rest := []) C G (c_x_text l T q_1 t0_2 ia_3 im_4 rd_5 po_6 co_7 tr_8 wa_9 wb_10 fi_11 cd_12 a1p_13 a2p_14 a3p_15 a4p_16 a5p_17 f1p_18 f3p_19 f4p_20 f5p_21 l0p_22 l1p_23 d0p_24 d1p_25 g0p_26 g1p_27 w1p_28 w2p_29 w3p_30 w4p_31 w5p_32 w6p_33 v_41 w1_45 w2_46 w3_47 (xs 1) (xs 2) h_48 h_49 h_50 h_51 h_52 h_53 h_54 h_55 h_56 h_57 h_58 h_59 h_66 h_70 h_71 h_72) (kV_RL_23 C.2.2.2.2 (Nat.le_of_ble_eq_true rfl) (Nat.le_of_ble_eq_true rfl)) [0, 1, 2, 3, 4, 5, 6, 7, 8, 9, 10, 11, 12, 18, 22, 23, 24] [13, 14, 15, 16, 17, 19, 20, 21, 25, 26, 27, 28, 29, 30, 31, 32, 33, 34, 35, 36, 37, 38, 39, 40, 41] rfl rfl (ci := 10) (qc := (RX11, TX11, 11)) rfl rfl (List.mem_flatten.mpr ⟨_, List.mem_of_getElem? (i := 0) rfl, List.mem_cons_self⟩) rfl rfl hl.1 dL_law_285 (Nat.le_of_ble_eq_true rfl) (Nat.le_of_ble_eq_true rfl) (fun r_135 b1 H locs hw G => ?_)
        obtain ⟨rfl, h_134⟩ := hw
        have G : zS T A s.heap s [[(ia_3, .inl (T.2 6, 3, .inr (.inr (.inr (.inr fq_34)))))], u0_38, u1_39, u2_40, [(im_4, .inl (T.2 2, 3, .inl (fun _ => 0)))], z1_42, z2_43, z3_44, [(cd_12, .inl (T.2 0, 1000, .inl (fun _ => 0)))], [(q_74, .inr (11, [.ref r_all_75, .ref r_has_76, .int 0, .int 0, .int 0, .int 0, .int 0, .int 0, .int 0, .int 0, .ref r_read_77, .int 0, .int 0, .int 0, .ref r_posts_78, .ref r_shut_79, .ref r_here_80, .int 0, .int 0, .int 0, .int 0, .ref r_was_81, .ref r_came_82, .ref r_seenAt_83, .ref r_rowWorth_84, .ref r_farBy_85, .ref r_used_86, .int 0, .int 0, .int 0, .int 0, .int 0, .int 0, .int 0, .int 0, .int 0, .int 0, .int 0, .int 0, .ref r_fitPost_87, .ref r_fitEnd_88, .ref r_keptPosts_89, .int 0]))], [(r_all_75, .inl (T.2 0, 3952, .inl (upd (fun _ => 0) 6 (-1))))], [(r_has_76, .inl (T.2 2, 3, .inl (fun _ => 0)))], [(r_read_77, .inl (T.2 0, 121, .inl (fun _ => 0)))], [(r_posts_78, .inl (T.2 0, 7, .inl (fun _ => 0)))], [(r_shut_79, .inl (T.2 0, 7, .inl (fun _ => 0)))], [(r_here_80, .inl (T.2 0, 7, .inl (fun _ => 0)))], [(r_was_81, .inl (T.2 0, 7, .inl (fun _ => 0)))], [(r_came_82, .inl (T.2 0, 7, .inl (fun _ => 0)))], [(r_seenAt_83, .inl (T.2 0, 16384, .inl (fun _ => 0)))], [(r_rowWorth_84, .inl (T.2 0, 512, .inl (fun _ => 0)))], [(r_farBy_85, .inl (T.2 0, 49, .inl (fun _ => 0)))], [(r_used_86, .inl (T.2 0, 7, .inl (fun _ => 0)))], [(r_fitPost_87, .inl (T.2 0, 28, .inl (fun _ => 0)))], [(r_fitEnd_88, .inl (T.2 0, 49, .inl (fun _ => 0)))], [(r_keptPosts_89, .inl (T.2 0, 7, .inl (fun _ => 0)))]] _ _ := G
        subst h_134
        refine lv_aload_n hx hb dL_law_288 rfl (lv_at hl 1 rfl) ?_
        refine lv_aload_n hx hb dL_law_289 rfl (lv_at hl 3 rfl) ?_
        refine lv_iload_n hx hb dL_law_290 rfl (lv_at hl 0 rfl) ?_
        refine lv_iconst (v := 1) hx hb dL_law_291 (by decide) ?_
        refine lv_iadd hx hb dL_law_292 ?_
        refine lv_topi (fun y_136 ey_136 => ?_)
        obtain rfl : y_136 = 1 := ey_136.trans (by decide)
        refine va_sld hx hb hX hbl hbA G.2.2.2.1 (vp_in_nI (n := 1) (by decide) (by decide)) dL_law_293 ?_
        refine lv_topi (fun v_137 ev_137 => ?_)
        have ev_137 : v_137 = xs 1 := ev_137
        subst ev_137
        refine lv_aload_n hx hb dL_law_294 rfl (lv_at hl 3 rfl) ?_
        refine lv_iload_n hx hb dL_law_295 rfl (lv_at hl 0 rfl) ?_
        refine lv_iconst (v := 2) hx hb dL_law_296 (by decide) ?_
        refine lv_iadd hx hb dL_law_297 ?_
        refine lv_topi (fun y_138 ey_138 => ?_)
        obtain rfl : y_138 = 2 := ey_138.trans (by decide)
        refine va_sld hx hb hX hbl hbA G.2.2.2.1 (vp_in_nI (n := 2) (by decide) (by decide)) dL_law_298 ?_
        refine lv_topi (fun v_139 ev_139 => ?_)
        have ev_139 : v_139 = xs 2 := ev_139
        subst ev_139
        refine z_Vi (bc := [[(q_74, .inr (11, [.ref r_all_75, .ref r_has_76, .int 0, .int 0, .int 0, .int 0, .int 0, .int 0, .int 0, .int 0, .ref r_read_77, .int 0, .int 0, .int 0, .ref r_posts_78, .ref r_shut_79, .ref r_here_80, .int 0, .int 0, .int 0, .int 0, .ref r_was_81, .ref r_came_82, .ref r_seenAt_83, .ref r_rowWorth_84, .ref r_farBy_85, .ref r_used_86, .int 0, .int 0, .int 0, .int 0, .int 0, .int 0, .int 0, .int 0, .int 0, .int 0, .int 0, .int 0, .ref r_fitPost_87, .ref r_fitEnd_88, .ref r_keptPosts_89, .int 0]))], [(r_all_75, .inl (T.2 0, 3952, .inl (upd (fun _ => 0) 6 (-1))))], [(r_read_77, .inl (T.2 0, 121, .inl (fun _ => 0)))]]) (br := [[(ia_3, .inl (T.2 6, 3, .inr (.inr (.inr (.inr fq_34)))))], u0_38, u1_39, u2_40, [(im_4, .inl (T.2 2, 3, .inl (fun _ => 0)))], z1_42, z2_43, z3_44, [(cd_12, .inl (T.2 0, 1000, .inl (fun _ => 0)))], [(r_has_76, .inl (T.2 2, 3, .inl (fun _ => 0)))], [(r_posts_78, .inl (T.2 0, 7, .inl (fun _ => 0)))], [(r_shut_79, .inl (T.2 0, 7, .inl (fun _ => 0)))], [(r_here_80, .inl (T.2 0, 7, .inl (fun _ => 0)))], [(r_was_81, .inl (T.2 0, 7, .inl (fun _ => 0)))], [(r_came_82, .inl (T.2 0, 7, .inl (fun _ => 0)))], [(r_seenAt_83, .inl (T.2 0, 16384, .inl (fun _ => 0)))], [(r_rowWorth_84, .inl (T.2 0, 512, .inl (fun _ => 0)))], [(r_farBy_85, .inl (T.2 0, 49, .inl (fun _ => 0)))], [(r_used_86, .inl (T.2 0, 7, .inl (fun _ => 0)))], [(r_fitPost_87, .inl (T.2 0, 28, .inl (fun _ => 0)))], [(r_fitEnd_88, .inl (T.2 0, 49, .inl (fun _ => 0)))], [(r_keptPosts_89, .inl (T.2 0, 7, .inl (fun _ => 0)))]]) (As := [.int (xs 1), .int (xs 2)]) (rest := [.int (zRes (xs 1) (xs 2))]) C G (c_m_text l T q_74 r_all_75 r_has_76 r_read_77 r_posts_78 r_shut_79 r_here_80 r_was_81 r_came_82 r_seenAt_83 r_rowWorth_84 r_farBy_85 r_used_86 r_fitPost_87 r_fitEnd_88 r_keptPosts_89 (xs 1) (xs 2)) (kV_RL_27 C.2.2.2.2 (Nat.le_of_ble_eq_true rfl) (Nat.le_of_ble_eq_true rfl)) [9, 10, 12] [0, 1, 2, 3, 4, 5, 6, 7, 8, 11, 13, 14, 15, 16, 17, 18, 19, 20, 21, 22, 23, 24] rfl rfl (ci := 11) (qc := (RX12, TX12, 43)) rfl rfl (List.mem_flatten.mpr ⟨_, List.mem_of_getElem? (i := 0) rfl, List.mem_cons_self⟩) rfl rfl hl.1 dL_law_299 (Nat.le_of_ble_eq_true rfl) (Nat.le_of_ble_eq_true rfl) (fun r_141 b1 H locs hw G => ?_)
        obtain ⟨rfl, h_140⟩ := hw
        have G : zS T A s.heap s [[(ia_3, .inl (T.2 6, 3, .inr (.inr (.inr (.inr fq_34)))))], u0_38, u1_39, u2_40, [(im_4, .inl (T.2 2, 3, .inl (fun _ => 0)))], z1_42, z2_43, z3_44, [(cd_12, .inl (T.2 0, 1000, .inl (fun _ => 0)))], [(r_has_76, .inl (T.2 2, 3, .inl (fun _ => 0)))], [(r_posts_78, .inl (T.2 0, 7, .inl (fun _ => 0)))], [(r_shut_79, .inl (T.2 0, 7, .inl (fun _ => 0)))], [(r_here_80, .inl (T.2 0, 7, .inl (fun _ => 0)))], [(r_was_81, .inl (T.2 0, 7, .inl (fun _ => 0)))], [(r_came_82, .inl (T.2 0, 7, .inl (fun _ => 0)))], [(r_seenAt_83, .inl (T.2 0, 16384, .inl (fun _ => 0)))], [(r_rowWorth_84, .inl (T.2 0, 512, .inl (fun _ => 0)))], [(r_farBy_85, .inl (T.2 0, 49, .inl (fun _ => 0)))], [(r_used_86, .inl (T.2 0, 7, .inl (fun _ => 0)))], [(r_fitPost_87, .inl (T.2 0, 28, .inl (fun _ => 0)))], [(r_fitEnd_88, .inl (T.2 0, 49, .inl (fun _ => 0)))], [(r_keptPosts_89, .inl (T.2 0, 7, .inl (fun _ => 0)))]] _ _ := G
        subst h_140
        refine lv_icmp_eq (tgt := 1767) hx hb dL_law_302 (by decide) (fun _ => ?_) (fun q => absurd rfl q)
        refine lv_iinc (v := 6) (lv' := [(3, .int 6), (2, .ref q_74), (1, .ref q_1), (0, .ref b)]) hx hb dL_law_1767 hl (k := 0) rfl (by decide) (by decide) rfl (fun ls hl => ?_)
        refine lv_goto (tgt := 18) hx hb dL_law_1770 (by decide) ?_
        refine lv_iload_n hx hb dL_law_18 rfl (lv_at hl 0 rfl) ?_
        refine lv_aload_n hx hb dL_law_19 rfl (lv_at hl 3 rfl) ?_
        refine va_slen hx hb hX hbl hbA G.2.2.2.1 dL_law_20 ?_
        refine lv_bipush (v := 6) hx hb dL_law_21 (by decide) ?_
        refine lv_isub hx hb dL_law_23 ?_
        refine lv_topi (fun y_142 ey_142 => ?_)
        obtain rfl : y_142 = 0 := ey_142.trans (by decide)
        refine lv_icmp_gt (tgt := 1773) hx hb dL_law_24 (by decide) (fun _ => ?_) (fun q => absurd (by decide) q)
        refine lv_iconst (v := 1) hx hb dL_law_1773 (by decide) ?_
        refine va_forget (fun q hq => by have h9 := G.2.2.2.1.2.2 q hq; rw [hAe] at h9; exact h9) ?_
        refine W.widen (k := 600000) (n := 7302250) (Nat.le_of_ble_eq_true rfl) (Nat.le_of_ble_eq_true rfl) ?_
        exact lw_ret hx hb hr hlocks dL_law_1774
      · refine lv_tableIn (tgt := 307) hx hb dL_law_33 (by omega) (by omega) (by rw [c_94]; rfl) (by decide) ?_
        refine lv_aload_n hx hb dL_law_307 rfl (lv_at hl 2 rfl) ?_
        refine lv_aload_n hx hb dL_law_308 rfl (lv_at hl 3 rfl) ?_
        refine lv_iload_n hx hb dL_law_309 rfl (lv_at hl 0 rfl) ?_
        refine lv_iconst (v := 1) hx hb dL_law_310 (by decide) ?_
        refine lv_iadd hx hb dL_law_311 ?_
        refine lv_topi (fun y_143 ey_143 => ?_)
        obtain rfl : y_143 = 1 := ey_143.trans (by decide)
        refine va_sld hx hb hX hbl hbA G.2.2.2.1 (vp_in_nI (n := 1) (by decide) (by decide)) dL_law_312 ?_
        refine lv_topi (fun v_144 ev_144 => ?_)
        have ev_144 : v_144 = xs 1 := ev_144
        subst ev_144
        refine z_Vi (bc := [[(q_1, .inr (10, [.ref t0_2, .ref ia_3, .ref im_4, .ref rd_5, .ref po_6, .ref co_7, .ref tr_8, .ref wa_9, .ref wb_10, .ref fi_11, .ref cd_12]))], [(t0_2, .inr (8, [.ref a1p_13, .int 0, .int 0, .int (-1), .ref a2p_14, .ref a3p_15, .ref a4p_16, .ref a5p_17]))]]) (br := [[(a1p_13, .inl (T.2 1, 600, .inl f1p_18))], [(a2p_14, .inl (T.2 0, 3, .inl (fun _ => 0)))], [(a3p_15, .inl (T.2 3, 2, .inr (.inr (.inr (.inr f3p_19)))))], [(a4p_16, .inl (T.2 4, 2, .inr (.inr (.inr (.inr f4p_20)))))], [(a5p_17, .inl (T.2 5, 2, .inr (.inr (.inr (.inr f5p_21)))))], w1p_28, w2p_29, w3p_30, w4p_31, w5p_32, w6p_33, [(ia_3, .inl (T.2 6, 3, .inr (.inr (.inr (.inr fq_34)))))], u0_38, u1_39, u2_40, [(im_4, .inl (T.2 2, 3, .inl (fun _ => 0)))], v_41, z1_42, z2_43, z3_44, w1_45, w2_46, w3_47, [(cd_12, .inl (T.2 0, 1000, .inl (fun _ => 0)))], [(q_74, .inr (11, [.ref r_all_75, .ref r_has_76, .int 0, .int 0, .int 0, .int 0, .int 0, .int 0, .int 0, .int 0, .ref r_read_77, .int 0, .int 0, .int 0, .ref r_posts_78, .ref r_shut_79, .ref r_here_80, .int 0, .int 0, .int 0, .int 0, .ref r_was_81, .ref r_came_82, .ref r_seenAt_83, .ref r_rowWorth_84, .ref r_farBy_85, .ref r_used_86, .int 0, .int 0, .int 0, .int 0, .int 0, .int 0, .int 0, .int 0, .int 0, .int 0, .int 0, .int 0, .ref r_fitPost_87, .ref r_fitEnd_88, .ref r_keptPosts_89, .int 0]))], [(r_all_75, .inl (T.2 0, 3952, .inl (upd (fun _ => 0) 6 (-1))))], [(r_has_76, .inl (T.2 2, 3, .inl (fun _ => 0)))], [(r_read_77, .inl (T.2 0, 121, .inl (fun _ => 0)))], [(r_posts_78, .inl (T.2 0, 7, .inl (fun _ => 0)))], [(r_shut_79, .inl (T.2 0, 7, .inl (fun _ => 0)))], [(r_here_80, .inl (T.2 0, 7, .inl (fun _ => 0)))], [(r_was_81, .inl (T.2 0, 7, .inl (fun _ => 0)))], [(r_came_82, .inl (T.2 0, 7, .inl (fun _ => 0)))], [(r_seenAt_83, .inl (T.2 0, 16384, .inl (fun _ => 0)))], [(r_rowWorth_84, .inl (T.2 0, 512, .inl (fun _ => 0)))], [(r_farBy_85, .inl (T.2 0, 49, .inl (fun _ => 0)))], [(r_used_86, .inl (T.2 0, 7, .inl (fun _ => 0)))], [(r_fitPost_87, .inl (T.2 0, 28, .inl (fun _ => 0)))], [(r_fitEnd_88, .inl (T.2 0, 49, .inl (fun _ => 0)))], [(r_keptPosts_89, .inl (T.2 0, 7, .inl (fun _ => 0)))]]) (As := [.int (xs 1)]) (rest := []) C G (c_x_fault l T q_1 t0_2 ia_3 im_4 rd_5 po_6 co_7 tr_8 wa_9 wb_10 fi_11 cd_12 a1p_13 a2p_14 a3p_15 a4p_16 a5p_17 (xs 1)) (kV_RL_28 C.2.2.2.2 (Nat.le_of_ble_eq_true rfl) (Nat.le_of_ble_eq_true rfl)) [0, 1] [2, 3, 4, 5, 6, 7, 8, 9, 10, 11, 12, 13, 14, 15, 16, 17, 18, 19, 20, 21, 22, 23, 24, 25, 26, 27, 28, 29, 30, 31, 32, 33, 34, 35, 36, 37, 38, 39, 40, 41] rfl rfl (ci := 10) (qc := (RX11, TX11, 11)) rfl rfl (List.mem_flatten.mpr ⟨_, List.mem_of_getElem? (i := 0) rfl, List.mem_cons_self⟩) rfl rfl hl.1 dL_law_313 (Nat.le_of_ble_eq_true rfl) (Nat.le_of_ble_eq_true rfl) (fun r_146 b1 H locs hw G => ?_)
        obtain ⟨rfl, h_145⟩ := hw
        have G : zS T A s.heap s [[(a1p_13, .inl (T.2 1, 600, .inl f1p_18))], [(a2p_14, .inl (T.2 0, 3, .inl (fun _ => 0)))], [(a3p_15, .inl (T.2 3, 2, .inr (.inr (.inr (.inr f3p_19)))))], [(a4p_16, .inl (T.2 4, 2, .inr (.inr (.inr (.inr f4p_20)))))], [(a5p_17, .inl (T.2 5, 2, .inr (.inr (.inr (.inr f5p_21)))))], w1p_28, w2p_29, w3p_30, w4p_31, w5p_32, w6p_33, [(ia_3, .inl (T.2 6, 3, .inr (.inr (.inr (.inr fq_34)))))], u0_38, u1_39, u2_40, [(im_4, .inl (T.2 2, 3, .inl (fun _ => 0)))], v_41, z1_42, z2_43, z3_44, w1_45, w2_46, w3_47, [(cd_12, .inl (T.2 0, 1000, .inl (fun _ => 0)))], [(q_74, .inr (11, [.ref r_all_75, .ref r_has_76, .int 0, .int 0, .int 0, .int 0, .int 0, .int 0, .int 0, .int 0, .ref r_read_77, .int 0, .int 0, .int 0, .ref r_posts_78, .ref r_shut_79, .ref r_here_80, .int 0, .int 0, .int 0, .int 0, .ref r_was_81, .ref r_came_82, .ref r_seenAt_83, .ref r_rowWorth_84, .ref r_farBy_85, .ref r_used_86, .int 0, .int 0, .int 0, .int 0, .int 0, .int 0, .int 0, .int 0, .int 0, .int 0, .int 0, .int 0, .ref r_fitPost_87, .ref r_fitEnd_88, .ref r_keptPosts_89, .int 0]))], [(r_all_75, .inl (T.2 0, 3952, .inl (upd (fun _ => 0) 6 (-1))))], [(r_has_76, .inl (T.2 2, 3, .inl (fun _ => 0)))], [(r_read_77, .inl (T.2 0, 121, .inl (fun _ => 0)))], [(r_posts_78, .inl (T.2 0, 7, .inl (fun _ => 0)))], [(r_shut_79, .inl (T.2 0, 7, .inl (fun _ => 0)))], [(r_here_80, .inl (T.2 0, 7, .inl (fun _ => 0)))], [(r_was_81, .inl (T.2 0, 7, .inl (fun _ => 0)))], [(r_came_82, .inl (T.2 0, 7, .inl (fun _ => 0)))], [(r_seenAt_83, .inl (T.2 0, 16384, .inl (fun _ => 0)))], [(r_rowWorth_84, .inl (T.2 0, 512, .inl (fun _ => 0)))], [(r_farBy_85, .inl (T.2 0, 49, .inl (fun _ => 0)))], [(r_used_86, .inl (T.2 0, 7, .inl (fun _ => 0)))], [(r_fitPost_87, .inl (T.2 0, 28, .inl (fun _ => 0)))], [(r_fitEnd_88, .inl (T.2 0, 49, .inl (fun _ => 0)))], [(r_keptPosts_89, .inl (T.2 0, 7, .inl (fun _ => 0)))]] _ _ := G
        subst h_145
        refine lv_aload_n hx hb dL_law_316 rfl (lv_at hl 1 rfl) ?_
        refine lv_aload_n hx hb dL_law_317 rfl (lv_at hl 3 rfl) ?_
        refine lv_iload_n hx hb dL_law_318 rfl (lv_at hl 0 rfl) ?_
        refine lv_iconst (v := 1) hx hb dL_law_319 (by decide) ?_
        refine lv_iadd hx hb dL_law_320 ?_
        refine lv_topi (fun y_147 ey_147 => ?_)
        obtain rfl : y_147 = 1 := ey_147.trans (by decide)
        refine va_sld hx hb hX hbl hbA G.2.2.2.1 (vp_in_nI (n := 1) (by decide) (by decide)) dL_law_321 ?_
        refine lv_topi (fun v_148 ev_148 => ?_)
        have ev_148 : v_148 = xs 1 := ev_148
        subst ev_148
        refine z_Vi (bc := [[(q_74, .inr (11, [.ref r_all_75, .ref r_has_76, .int 0, .int 0, .int 0, .int 0, .int 0, .int 0, .int 0, .int 0, .ref r_read_77, .int 0, .int 0, .int 0, .ref r_posts_78, .ref r_shut_79, .ref r_here_80, .int 0, .int 0, .int 0, .int 0, .ref r_was_81, .ref r_came_82, .ref r_seenAt_83, .ref r_rowWorth_84, .ref r_farBy_85, .ref r_used_86, .int 0, .int 0, .int 0, .int 0, .int 0, .int 0, .int 0, .int 0, .int 0, .int 0, .int 0, .int 0, .ref r_fitPost_87, .ref r_fitEnd_88, .ref r_keptPosts_89, .int 0]))], [(r_all_75, .inl (T.2 0, 3952, .inl (upd (fun _ => 0) 6 (-1))))]]) (br := [[(a1p_13, .inl (T.2 1, 600, .inl f1p_18))], [(a2p_14, .inl (T.2 0, 3, .inl (fun _ => 0)))], [(a3p_15, .inl (T.2 3, 2, .inr (.inr (.inr (.inr f3p_19)))))], [(a4p_16, .inl (T.2 4, 2, .inr (.inr (.inr (.inr f4p_20)))))], [(a5p_17, .inl (T.2 5, 2, .inr (.inr (.inr (.inr f5p_21)))))], w1p_28, w2p_29, w3p_30, w4p_31, w5p_32, w6p_33, [(ia_3, .inl (T.2 6, 3, .inr (.inr (.inr (.inr fq_34)))))], u0_38, u1_39, u2_40, [(im_4, .inl (T.2 2, 3, .inl (fun _ => 0)))], v_41, z1_42, z2_43, z3_44, w1_45, w2_46, w3_47, [(cd_12, .inl (T.2 0, 1000, .inl (fun _ => 0)))], [(r_has_76, .inl (T.2 2, 3, .inl (fun _ => 0)))], [(r_read_77, .inl (T.2 0, 121, .inl (fun _ => 0)))], [(r_posts_78, .inl (T.2 0, 7, .inl (fun _ => 0)))], [(r_shut_79, .inl (T.2 0, 7, .inl (fun _ => 0)))], [(r_here_80, .inl (T.2 0, 7, .inl (fun _ => 0)))], [(r_was_81, .inl (T.2 0, 7, .inl (fun _ => 0)))], [(r_came_82, .inl (T.2 0, 7, .inl (fun _ => 0)))], [(r_seenAt_83, .inl (T.2 0, 16384, .inl (fun _ => 0)))], [(r_rowWorth_84, .inl (T.2 0, 512, .inl (fun _ => 0)))], [(r_farBy_85, .inl (T.2 0, 49, .inl (fun _ => 0)))], [(r_used_86, .inl (T.2 0, 7, .inl (fun _ => 0)))], [(r_fitPost_87, .inl (T.2 0, 28, .inl (fun _ => 0)))], [(r_fitEnd_88, .inl (T.2 0, 49, .inl (fun _ => 0)))], [(r_keptPosts_89, .inl (T.2 0, 7, .inl (fun _ => 0)))]]) (As := [.int (xs 1)]) (rest := [.int (zFault (xs 1))]) C G (c_m_fault l T q_74 r_all_75 r_has_76 r_read_77 r_posts_78 r_shut_79 r_here_80 r_was_81 r_came_82 r_seenAt_83 r_rowWorth_84 r_farBy_85 r_used_86 r_fitPost_87 r_fitEnd_88 r_keptPosts_89 (xs 1)) (kV_RL_31 C.2.2.2.2 (Nat.le_of_ble_eq_true rfl) (Nat.le_of_ble_eq_true rfl)) [24, 25] [0, 1, 2, 3, 4, 5, 6, 7, 8, 9, 10, 11, 12, 13, 14, 15, 16, 17, 18, 19, 20, 21, 22, 23, 26, 27, 28, 29, 30, 31, 32, 33, 34, 35, 36, 37, 38, 39] rfl rfl (ci := 11) (qc := (RX12, TX12, 43)) rfl rfl (List.mem_flatten.mpr ⟨_, List.mem_of_getElem? (i := 0) rfl, List.mem_cons_self⟩) rfl rfl hl.1 dL_law_322 (Nat.le_of_ble_eq_true rfl) (Nat.le_of_ble_eq_true rfl) (fun r_150 b1 H locs hw G => ?_)
        obtain ⟨rfl, h_149⟩ := hw
        have G : zS T A s.heap s [[(a1p_13, .inl (T.2 1, 600, .inl f1p_18))], [(a2p_14, .inl (T.2 0, 3, .inl (fun _ => 0)))], [(a3p_15, .inl (T.2 3, 2, .inr (.inr (.inr (.inr f3p_19)))))], [(a4p_16, .inl (T.2 4, 2, .inr (.inr (.inr (.inr f4p_20)))))], [(a5p_17, .inl (T.2 5, 2, .inr (.inr (.inr (.inr f5p_21)))))], w1p_28, w2p_29, w3p_30, w4p_31, w5p_32, w6p_33, [(ia_3, .inl (T.2 6, 3, .inr (.inr (.inr (.inr fq_34)))))], u0_38, u1_39, u2_40, [(im_4, .inl (T.2 2, 3, .inl (fun _ => 0)))], v_41, z1_42, z2_43, z3_44, w1_45, w2_46, w3_47, [(cd_12, .inl (T.2 0, 1000, .inl (fun _ => 0)))], [(r_has_76, .inl (T.2 2, 3, .inl (fun _ => 0)))], [(r_read_77, .inl (T.2 0, 121, .inl (fun _ => 0)))], [(r_posts_78, .inl (T.2 0, 7, .inl (fun _ => 0)))], [(r_shut_79, .inl (T.2 0, 7, .inl (fun _ => 0)))], [(r_here_80, .inl (T.2 0, 7, .inl (fun _ => 0)))], [(r_was_81, .inl (T.2 0, 7, .inl (fun _ => 0)))], [(r_came_82, .inl (T.2 0, 7, .inl (fun _ => 0)))], [(r_seenAt_83, .inl (T.2 0, 16384, .inl (fun _ => 0)))], [(r_rowWorth_84, .inl (T.2 0, 512, .inl (fun _ => 0)))], [(r_farBy_85, .inl (T.2 0, 49, .inl (fun _ => 0)))], [(r_used_86, .inl (T.2 0, 7, .inl (fun _ => 0)))], [(r_fitPost_87, .inl (T.2 0, 28, .inl (fun _ => 0)))], [(r_fitEnd_88, .inl (T.2 0, 49, .inl (fun _ => 0)))], [(r_keptPosts_89, .inl (T.2 0, 7, .inl (fun _ => 0)))]] _ _ := G
        subst h_149
        refine lv_icmp_eq (tgt := 1767) hx hb dL_law_325 (by decide) (fun _ => ?_) (fun q => absurd rfl q)
        refine lv_iinc (v := 6) (lv' := [(3, .int 6), (2, .ref q_74), (1, .ref q_1), (0, .ref b)]) hx hb dL_law_1767 hl (k := 0) rfl (by decide) (by decide) rfl (fun ls hl => ?_)
        refine lv_goto (tgt := 18) hx hb dL_law_1770 (by decide) ?_
        refine lv_iload_n hx hb dL_law_18 rfl (lv_at hl 0 rfl) ?_
        refine lv_aload_n hx hb dL_law_19 rfl (lv_at hl 3 rfl) ?_
        refine va_slen hx hb hX hbl hbA G.2.2.2.1 dL_law_20 ?_
        refine lv_bipush (v := 6) hx hb dL_law_21 (by decide) ?_
        refine lv_isub hx hb dL_law_23 ?_
        refine lv_topi (fun y_151 ey_151 => ?_)
        obtain rfl : y_151 = 0 := ey_151.trans (by decide)
        refine lv_icmp_gt (tgt := 1773) hx hb dL_law_24 (by decide) (fun _ => ?_) (fun q => absurd (by decide) q)
        refine lv_iconst (v := 1) hx hb dL_law_1773 (by decide) ?_
        refine va_forget (fun q hq => by have h9 := G.2.2.2.1.2.2 q hq; rw [hAe] at h9; exact h9) ?_
        refine W.widen (k := 600000) (n := 7302250) (Nat.le_of_ble_eq_true rfl) (Nat.le_of_ble_eq_true rfl) ?_
        exact lw_ret hx hb hr hlocks dL_law_1774
      · refine lv_tableIn (tgt := 330) hx hb dL_law_33 (by omega) (by omega) (by rw [c_94]; rfl) (by decide) ?_
        refine lv_aload_n hx hb dL_law_330 rfl (lv_at hl 2 rfl) ?_
        refine lv_aload_n hx hb dL_law_331 rfl (lv_at hl 3 rfl) ?_
        refine lv_iload_n hx hb dL_law_332 rfl (lv_at hl 0 rfl) ?_
        refine lv_iconst (v := 1) hx hb dL_law_333 (by decide) ?_
        refine lv_iadd hx hb dL_law_334 ?_
        refine lv_topi (fun y_152 ey_152 => ?_)
        obtain rfl : y_152 = 1 := ey_152.trans (by decide)
        refine va_sld hx hb hX hbl hbA G.2.2.2.1 (vp_in_nI (n := 1) (by decide) (by decide)) dL_law_335 ?_
        refine lv_topi (fun v_153 ev_153 => ?_)
        have ev_153 : v_153 = xs 1 := ev_153
        subst ev_153
        refine lv_aload_n hx hb dL_law_336 rfl (lv_at hl 3 rfl) ?_
        refine lv_iload_n hx hb dL_law_337 rfl (lv_at hl 0 rfl) ?_
        refine lv_iconst (v := 2) hx hb dL_law_338 (by decide) ?_
        refine lv_iadd hx hb dL_law_339 ?_
        refine lv_topi (fun y_154 ey_154 => ?_)
        obtain rfl : y_154 = 2 := ey_154.trans (by decide)
        refine va_sld hx hb hX hbl hbA G.2.2.2.1 (vp_in_nI (n := 2) (by decide) (by decide)) dL_law_340 ?_
        refine lv_topi (fun v_155 ev_155 => ?_)
        have ev_155 : v_155 = xs 2 := ev_155
        subst ev_155
        refine z_Vi (bc := [[(q_1, .inr (10, [.ref t0_2, .ref ia_3, .ref im_4, .ref rd_5, .ref po_6, .ref co_7, .ref tr_8, .ref wa_9, .ref wb_10, .ref fi_11, .ref cd_12]))], [(t0_2, .inr (8, [.ref a1p_13, .int 0, .int 0, .int (-1), .ref a2p_14, .ref a3p_15, .ref a4p_16, .ref a5p_17]))], [(a2p_14, .inl (T.2 0, 3, .inl (fun _ => 0)))]]) (br := [[(a1p_13, .inl (T.2 1, 600, .inl f1p_18))], [(a3p_15, .inl (T.2 3, 2, .inr (.inr (.inr (.inr f3p_19)))))], [(a4p_16, .inl (T.2 4, 2, .inr (.inr (.inr (.inr f4p_20)))))], [(a5p_17, .inl (T.2 5, 2, .inr (.inr (.inr (.inr f5p_21)))))], w1p_28, w2p_29, w3p_30, w4p_31, w5p_32, w6p_33, [(ia_3, .inl (T.2 6, 3, .inr (.inr (.inr (.inr fq_34)))))], u0_38, u1_39, u2_40, [(im_4, .inl (T.2 2, 3, .inl (fun _ => 0)))], v_41, z1_42, z2_43, z3_44, w1_45, w2_46, w3_47, [(cd_12, .inl (T.2 0, 1000, .inl (fun _ => 0)))], [(q_74, .inr (11, [.ref r_all_75, .ref r_has_76, .int 0, .int 0, .int 0, .int 0, .int 0, .int 0, .int 0, .int 0, .ref r_read_77, .int 0, .int 0, .int 0, .ref r_posts_78, .ref r_shut_79, .ref r_here_80, .int 0, .int 0, .int 0, .int 0, .ref r_was_81, .ref r_came_82, .ref r_seenAt_83, .ref r_rowWorth_84, .ref r_farBy_85, .ref r_used_86, .int 0, .int 0, .int 0, .int 0, .int 0, .int 0, .int 0, .int 0, .int 0, .int 0, .int 0, .int 0, .ref r_fitPost_87, .ref r_fitEnd_88, .ref r_keptPosts_89, .int 0]))], [(r_all_75, .inl (T.2 0, 3952, .inl (upd (fun _ => 0) 6 (-1))))], [(r_has_76, .inl (T.2 2, 3, .inl (fun _ => 0)))], [(r_read_77, .inl (T.2 0, 121, .inl (fun _ => 0)))], [(r_posts_78, .inl (T.2 0, 7, .inl (fun _ => 0)))], [(r_shut_79, .inl (T.2 0, 7, .inl (fun _ => 0)))], [(r_here_80, .inl (T.2 0, 7, .inl (fun _ => 0)))], [(r_was_81, .inl (T.2 0, 7, .inl (fun _ => 0)))], [(r_came_82, .inl (T.2 0, 7, .inl (fun _ => 0)))], [(r_seenAt_83, .inl (T.2 0, 16384, .inl (fun _ => 0)))], [(r_rowWorth_84, .inl (T.2 0, 512, .inl (fun _ => 0)))], [(r_farBy_85, .inl (T.2 0, 49, .inl (fun _ => 0)))], [(r_used_86, .inl (T.2 0, 7, .inl (fun _ => 0)))], [(r_fitPost_87, .inl (T.2 0, 28, .inl (fun _ => 0)))], [(r_fitEnd_88, .inl (T.2 0, 49, .inl (fun _ => 0)))], [(r_keptPosts_89, .inl (T.2 0, 7, .inl (fun _ => 0)))]]) (As := [.int (xs 1), .int (xs 2)]) (rest := []) C G (c_x_land l T q_1 t0_2 ia_3 im_4 rd_5 po_6 co_7 tr_8 wa_9 wb_10 fi_11 cd_12 a1p_13 a2p_14 a3p_15 a4p_16 a5p_17 (xs 1) (xs 2)) (kV_RL_32 C.2.2.2.2 (Nat.le_of_ble_eq_true rfl) (Nat.le_of_ble_eq_true rfl)) [0, 1, 3] [2, 4, 5, 6, 7, 8, 9, 10, 11, 12, 13, 14, 15, 16, 17, 18, 19, 20, 21, 22, 23, 24, 25, 26, 27, 28, 29, 30, 31, 32, 33, 34, 35, 36, 37, 38, 39, 40, 41] rfl rfl (ci := 10) (qc := (RX11, TX11, 11)) rfl rfl (List.mem_flatten.mpr ⟨_, List.mem_of_getElem? (i := 0) rfl, List.mem_cons_self⟩) rfl rfl hl.1 dL_law_341 (Nat.le_of_ble_eq_true rfl) (Nat.le_of_ble_eq_true rfl) (fun r_157 b1 H locs hw G => ?_)
        obtain ⟨rfl, h_156⟩ := hw
        have G : zS T A s.heap s [[(a1p_13, .inl (T.2 1, 600, .inl f1p_18))], [(a3p_15, .inl (T.2 3, 2, .inr (.inr (.inr (.inr f3p_19)))))], [(a4p_16, .inl (T.2 4, 2, .inr (.inr (.inr (.inr f4p_20)))))], [(a5p_17, .inl (T.2 5, 2, .inr (.inr (.inr (.inr f5p_21)))))], w1p_28, w2p_29, w3p_30, w4p_31, w5p_32, w6p_33, [(ia_3, .inl (T.2 6, 3, .inr (.inr (.inr (.inr fq_34)))))], u0_38, u1_39, u2_40, [(im_4, .inl (T.2 2, 3, .inl (fun _ => 0)))], v_41, z1_42, z2_43, z3_44, w1_45, w2_46, w3_47, [(cd_12, .inl (T.2 0, 1000, .inl (fun _ => 0)))], [(q_74, .inr (11, [.ref r_all_75, .ref r_has_76, .int 0, .int 0, .int 0, .int 0, .int 0, .int 0, .int 0, .int 0, .ref r_read_77, .int 0, .int 0, .int 0, .ref r_posts_78, .ref r_shut_79, .ref r_here_80, .int 0, .int 0, .int 0, .int 0, .ref r_was_81, .ref r_came_82, .ref r_seenAt_83, .ref r_rowWorth_84, .ref r_farBy_85, .ref r_used_86, .int 0, .int 0, .int 0, .int 0, .int 0, .int 0, .int 0, .int 0, .int 0, .int 0, .int 0, .int 0, .ref r_fitPost_87, .ref r_fitEnd_88, .ref r_keptPosts_89, .int 0]))], [(r_all_75, .inl (T.2 0, 3952, .inl (upd (fun _ => 0) 6 (-1))))], [(r_has_76, .inl (T.2 2, 3, .inl (fun _ => 0)))], [(r_read_77, .inl (T.2 0, 121, .inl (fun _ => 0)))], [(r_posts_78, .inl (T.2 0, 7, .inl (fun _ => 0)))], [(r_shut_79, .inl (T.2 0, 7, .inl (fun _ => 0)))], [(r_here_80, .inl (T.2 0, 7, .inl (fun _ => 0)))], [(r_was_81, .inl (T.2 0, 7, .inl (fun _ => 0)))], [(r_came_82, .inl (T.2 0, 7, .inl (fun _ => 0)))], [(r_seenAt_83, .inl (T.2 0, 16384, .inl (fun _ => 0)))], [(r_rowWorth_84, .inl (T.2 0, 512, .inl (fun _ => 0)))], [(r_farBy_85, .inl (T.2 0, 49, .inl (fun _ => 0)))], [(r_used_86, .inl (T.2 0, 7, .inl (fun _ => 0)))], [(r_fitPost_87, .inl (T.2 0, 28, .inl (fun _ => 0)))], [(r_fitEnd_88, .inl (T.2 0, 49, .inl (fun _ => 0)))], [(r_keptPosts_89, .inl (T.2 0, 7, .inl (fun _ => 0)))]] _ _ := G
        subst h_156
        refine lv_aload_n hx hb dL_law_344 rfl (lv_at hl 1 rfl) ?_
        refine lv_aload_n hx hb dL_law_345 rfl (lv_at hl 3 rfl) ?_
        refine lv_iload_n hx hb dL_law_346 rfl (lv_at hl 0 rfl) ?_
        refine lv_iconst (v := 1) hx hb dL_law_347 (by decide) ?_
        refine lv_iadd hx hb dL_law_348 ?_
        refine lv_topi (fun y_158 ey_158 => ?_)
        obtain rfl : y_158 = 1 := ey_158.trans (by decide)
        refine va_sld hx hb hX hbl hbA G.2.2.2.1 (vp_in_nI (n := 1) (by decide) (by decide)) dL_law_349 ?_
        refine lv_topi (fun v_159 ev_159 => ?_)
        have ev_159 : v_159 = xs 1 := ev_159
        subst ev_159
        refine lv_aload_n hx hb dL_law_350 rfl (lv_at hl 3 rfl) ?_
        refine lv_iload_n hx hb dL_law_351 rfl (lv_at hl 0 rfl) ?_
        refine lv_iconst (v := 2) hx hb dL_law_352 (by decide) ?_
        refine lv_iadd hx hb dL_law_353 ?_
        refine lv_topi (fun y_160 ey_160 => ?_)
        obtain rfl : y_160 = 2 := ey_160.trans (by decide)
        refine va_sld hx hb hX hbl hbA G.2.2.2.1 (vp_in_nI (n := 2) (by decide) (by decide)) dL_law_354 ?_
        refine lv_topi (fun v_161 ev_161 => ?_)
        have ev_161 : v_161 = xs 2 := ev_161
        subst ev_161
        refine z_Vi (bc := [[(q_74, .inr (11, [.ref r_all_75, .ref r_has_76, .int 0, .int 0, .int 0, .int 0, .int 0, .int 0, .int 0, .int 0, .ref r_read_77, .int 0, .int 0, .int 0, .ref r_posts_78, .ref r_shut_79, .ref r_here_80, .int 0, .int 0, .int 0, .int 0, .ref r_was_81, .ref r_came_82, .ref r_seenAt_83, .ref r_rowWorth_84, .ref r_farBy_85, .ref r_used_86, .int 0, .int 0, .int 0, .int 0, .int 0, .int 0, .int 0, .int 0, .int 0, .int 0, .int 0, .int 0, .ref r_fitPost_87, .ref r_fitEnd_88, .ref r_keptPosts_89, .int 0]))], [(r_all_75, .inl (T.2 0, 3952, .inl (upd (fun _ => 0) 6 (-1))))]]) (br := [[(a1p_13, .inl (T.2 1, 600, .inl f1p_18))], [(a3p_15, .inl (T.2 3, 2, .inr (.inr (.inr (.inr f3p_19)))))], [(a4p_16, .inl (T.2 4, 2, .inr (.inr (.inr (.inr f4p_20)))))], [(a5p_17, .inl (T.2 5, 2, .inr (.inr (.inr (.inr f5p_21)))))], w1p_28, w2p_29, w3p_30, w4p_31, w5p_32, w6p_33, [(ia_3, .inl (T.2 6, 3, .inr (.inr (.inr (.inr fq_34)))))], u0_38, u1_39, u2_40, [(im_4, .inl (T.2 2, 3, .inl (fun _ => 0)))], v_41, z1_42, z2_43, z3_44, w1_45, w2_46, w3_47, [(cd_12, .inl (T.2 0, 1000, .inl (fun _ => 0)))], [(r_has_76, .inl (T.2 2, 3, .inl (fun _ => 0)))], [(r_read_77, .inl (T.2 0, 121, .inl (fun _ => 0)))], [(r_posts_78, .inl (T.2 0, 7, .inl (fun _ => 0)))], [(r_shut_79, .inl (T.2 0, 7, .inl (fun _ => 0)))], [(r_here_80, .inl (T.2 0, 7, .inl (fun _ => 0)))], [(r_was_81, .inl (T.2 0, 7, .inl (fun _ => 0)))], [(r_came_82, .inl (T.2 0, 7, .inl (fun _ => 0)))], [(r_seenAt_83, .inl (T.2 0, 16384, .inl (fun _ => 0)))], [(r_rowWorth_84, .inl (T.2 0, 512, .inl (fun _ => 0)))], [(r_farBy_85, .inl (T.2 0, 49, .inl (fun _ => 0)))], [(r_used_86, .inl (T.2 0, 7, .inl (fun _ => 0)))], [(r_fitPost_87, .inl (T.2 0, 28, .inl (fun _ => 0)))], [(r_fitEnd_88, .inl (T.2 0, 49, .inl (fun _ => 0)))], [(r_keptPosts_89, .inl (T.2 0, 7, .inl (fun _ => 0)))]]) (As := [.int (xs 1), .int (xs 2)]) (rest := [.int (-1)]) C G (c_m_land l T q_74 r_all_75 r_has_76 r_read_77 r_posts_78 r_shut_79 r_here_80 r_was_81 r_came_82 r_seenAt_83 r_rowWorth_84 r_farBy_85 r_used_86 r_fitPost_87 r_fitEnd_88 r_keptPosts_89 (xs 1) (xs 2)) (kV_RL_35 C.2.2.2.2 (Nat.le_of_ble_eq_true rfl) (Nat.le_of_ble_eq_true rfl)) [23, 24] [0, 1, 2, 3, 4, 5, 6, 7, 8, 9, 10, 11, 12, 13, 14, 15, 16, 17, 18, 19, 20, 21, 22, 25, 26, 27, 28, 29, 30, 31, 32, 33, 34, 35, 36, 37, 38] rfl rfl (ci := 11) (qc := (RX12, TX12, 43)) rfl rfl (List.mem_flatten.mpr ⟨_, List.mem_of_getElem? (i := 0) rfl, List.mem_cons_self⟩) rfl rfl hl.1 dL_law_355 (Nat.le_of_ble_eq_true rfl) (Nat.le_of_ble_eq_true rfl) (fun r_163 b1 H locs hw G => ?_)
        obtain ⟨rfl, h_162⟩ := hw
        have G : zS T A s.heap s [[(a1p_13, .inl (T.2 1, 600, .inl f1p_18))], [(a3p_15, .inl (T.2 3, 2, .inr (.inr (.inr (.inr f3p_19)))))], [(a4p_16, .inl (T.2 4, 2, .inr (.inr (.inr (.inr f4p_20)))))], [(a5p_17, .inl (T.2 5, 2, .inr (.inr (.inr (.inr f5p_21)))))], w1p_28, w2p_29, w3p_30, w4p_31, w5p_32, w6p_33, [(ia_3, .inl (T.2 6, 3, .inr (.inr (.inr (.inr fq_34)))))], u0_38, u1_39, u2_40, [(im_4, .inl (T.2 2, 3, .inl (fun _ => 0)))], v_41, z1_42, z2_43, z3_44, w1_45, w2_46, w3_47, [(cd_12, .inl (T.2 0, 1000, .inl (fun _ => 0)))], [(r_has_76, .inl (T.2 2, 3, .inl (fun _ => 0)))], [(r_read_77, .inl (T.2 0, 121, .inl (fun _ => 0)))], [(r_posts_78, .inl (T.2 0, 7, .inl (fun _ => 0)))], [(r_shut_79, .inl (T.2 0, 7, .inl (fun _ => 0)))], [(r_here_80, .inl (T.2 0, 7, .inl (fun _ => 0)))], [(r_was_81, .inl (T.2 0, 7, .inl (fun _ => 0)))], [(r_came_82, .inl (T.2 0, 7, .inl (fun _ => 0)))], [(r_seenAt_83, .inl (T.2 0, 16384, .inl (fun _ => 0)))], [(r_rowWorth_84, .inl (T.2 0, 512, .inl (fun _ => 0)))], [(r_farBy_85, .inl (T.2 0, 49, .inl (fun _ => 0)))], [(r_used_86, .inl (T.2 0, 7, .inl (fun _ => 0)))], [(r_fitPost_87, .inl (T.2 0, 28, .inl (fun _ => 0)))], [(r_fitEnd_88, .inl (T.2 0, 49, .inl (fun _ => 0)))], [(r_keptPosts_89, .inl (T.2 0, 7, .inl (fun _ => 0)))]] _ _ := G
        subst h_162
        refine lv_icmp_eq (tgt := 1767) hx hb dL_law_358 (by decide) (fun _ => ?_) (fun q => absurd (by decide) q)
        refine lv_iinc (v := 6) (lv' := [(3, .int 6), (2, .ref q_74), (1, .ref q_1), (0, .ref b)]) hx hb dL_law_1767 hl (k := 0) rfl (by decide) (by decide) rfl (fun ls hl => ?_)
        refine lv_goto (tgt := 18) hx hb dL_law_1770 (by decide) ?_
        refine lv_iload_n hx hb dL_law_18 rfl (lv_at hl 0 rfl) ?_
        refine lv_aload_n hx hb dL_law_19 rfl (lv_at hl 3 rfl) ?_
        refine va_slen hx hb hX hbl hbA G.2.2.2.1 dL_law_20 ?_
        refine lv_bipush (v := 6) hx hb dL_law_21 (by decide) ?_
        refine lv_isub hx hb dL_law_23 ?_
        refine lv_topi (fun y_164 ey_164 => ?_)
        obtain rfl : y_164 = 0 := ey_164.trans (by decide)
        refine lv_icmp_gt (tgt := 1773) hx hb dL_law_24 (by decide) (fun _ => ?_) (fun q => absurd (by decide) q)
        refine lv_iconst (v := 1) hx hb dL_law_1773 (by decide) ?_
        refine va_forget (fun q hq => by have h9 := G.2.2.2.1.2.2 q hq; rw [hAe] at h9; exact h9) ?_
        refine W.widen (k := 600000) (n := 7302250) (Nat.le_of_ble_eq_true rfl) (Nat.le_of_ble_eq_true rfl) ?_
        exact lw_ret hx hb hr hlocks dL_law_1774
      · refine lv_tableIn (tgt := 363) hx hb dL_law_33 (by omega) (by omega) (by rw [c_94]; rfl) (by decide) ?_
        refine lv_aload_n hx hb dL_law_363 rfl (lv_at hl 2 rfl) ?_
        refine lv_aload_n hx hb dL_law_364 rfl (lv_at hl 3 rfl) ?_
        refine lv_iload_n hx hb dL_law_365 rfl (lv_at hl 0 rfl) ?_
        refine lv_iconst (v := 1) hx hb dL_law_366 (by decide) ?_
        refine lv_iadd hx hb dL_law_367 ?_
        refine lv_topi (fun y_165 ey_165 => ?_)
        obtain rfl : y_165 = 1 := ey_165.trans (by decide)
        refine va_sld hx hb hX hbl hbA G.2.2.2.1 (vp_in_nI (n := 1) (by decide) (by decide)) dL_law_368 ?_
        refine lv_topi (fun v_166 ev_166 => ?_)
        have ev_166 : v_166 = xs 1 := ev_166
        subst ev_166
        refine lv_aload_n hx hb dL_law_369 rfl (lv_at hl 3 rfl) ?_
        refine lv_iload_n hx hb dL_law_370 rfl (lv_at hl 0 rfl) ?_
        refine lv_iconst (v := 2) hx hb dL_law_371 (by decide) ?_
        refine lv_iadd hx hb dL_law_372 ?_
        refine lv_topi (fun y_167 ey_167 => ?_)
        obtain rfl : y_167 = 2 := ey_167.trans (by decide)
        refine va_sld hx hb hX hbl hbA G.2.2.2.1 (vp_in_nI (n := 2) (by decide) (by decide)) dL_law_373 ?_
        refine lv_topi (fun v_168 ev_168 => ?_)
        have ev_168 : v_168 = xs 2 := ev_168
        subst ev_168
        refine lv_aload_n hx hb dL_law_374 rfl (lv_at hl 3 rfl) ?_
        refine lv_iload_n hx hb dL_law_375 rfl (lv_at hl 0 rfl) ?_
        refine lv_iconst (v := 3) hx hb dL_law_376 (by decide) ?_
        refine lv_iadd hx hb dL_law_377 ?_
        refine lv_topi (fun y_169 ey_169 => ?_)
        obtain rfl : y_169 = 3 := ey_169.trans (by decide)
        refine va_sld hx hb hX hbl hbA G.2.2.2.1 (vp_in_nI (n := 3) (by decide) (by decide)) dL_law_378 ?_
        refine lv_topi (fun v_170 ev_170 => ?_)
        have ev_170 : v_170 = xs 3 := ev_170
        subst ev_170
        refine z_Vi (bc := [[(q_1, .inr (10, [.ref t0_2, .ref ia_3, .ref im_4, .ref rd_5, .ref po_6, .ref co_7, .ref tr_8, .ref wa_9, .ref wb_10, .ref fi_11, .ref cd_12]))], [(t0_2, .inr (8, [.ref a1p_13, .int 0, .int 0, .int (-1), .ref a2p_14, .ref a3p_15, .ref a4p_16, .ref a5p_17]))], [(a2p_14, .inl (T.2 0, 3, .inl (fun _ => 0)))]]) (br := [[(a1p_13, .inl (T.2 1, 600, .inl f1p_18))], [(a3p_15, .inl (T.2 3, 2, .inr (.inr (.inr (.inr f3p_19)))))], [(a4p_16, .inl (T.2 4, 2, .inr (.inr (.inr (.inr f4p_20)))))], [(a5p_17, .inl (T.2 5, 2, .inr (.inr (.inr (.inr f5p_21)))))], w1p_28, w2p_29, w3p_30, w4p_31, w5p_32, w6p_33, [(ia_3, .inl (T.2 6, 3, .inr (.inr (.inr (.inr fq_34)))))], u0_38, u1_39, u2_40, [(im_4, .inl (T.2 2, 3, .inl (fun _ => 0)))], v_41, z1_42, z2_43, z3_44, w1_45, w2_46, w3_47, [(cd_12, .inl (T.2 0, 1000, .inl (fun _ => 0)))], [(q_74, .inr (11, [.ref r_all_75, .ref r_has_76, .int 0, .int 0, .int 0, .int 0, .int 0, .int 0, .int 0, .int 0, .ref r_read_77, .int 0, .int 0, .int 0, .ref r_posts_78, .ref r_shut_79, .ref r_here_80, .int 0, .int 0, .int 0, .int 0, .ref r_was_81, .ref r_came_82, .ref r_seenAt_83, .ref r_rowWorth_84, .ref r_farBy_85, .ref r_used_86, .int 0, .int 0, .int 0, .int 0, .int 0, .int 0, .int 0, .int 0, .int 0, .int 0, .int 0, .int 0, .ref r_fitPost_87, .ref r_fitEnd_88, .ref r_keptPosts_89, .int 0]))], [(r_all_75, .inl (T.2 0, 3952, .inl (upd (fun _ => 0) 6 (-1))))], [(r_has_76, .inl (T.2 2, 3, .inl (fun _ => 0)))], [(r_read_77, .inl (T.2 0, 121, .inl (fun _ => 0)))], [(r_posts_78, .inl (T.2 0, 7, .inl (fun _ => 0)))], [(r_shut_79, .inl (T.2 0, 7, .inl (fun _ => 0)))], [(r_here_80, .inl (T.2 0, 7, .inl (fun _ => 0)))], [(r_was_81, .inl (T.2 0, 7, .inl (fun _ => 0)))], [(r_came_82, .inl (T.2 0, 7, .inl (fun _ => 0)))], [(r_seenAt_83, .inl (T.2 0, 16384, .inl (fun _ => 0)))], [(r_rowWorth_84, .inl (T.2 0, 512, .inl (fun _ => 0)))], [(r_farBy_85, .inl (T.2 0, 49, .inl (fun _ => 0)))], [(r_used_86, .inl (T.2 0, 7, .inl (fun _ => 0)))], [(r_fitPost_87, .inl (T.2 0, 28, .inl (fun _ => 0)))], [(r_fitEnd_88, .inl (T.2 0, 49, .inl (fun _ => 0)))], [(r_keptPosts_89, .inl (T.2 0, 7, .inl (fun _ => 0)))]]) (As := [.int (xs 1), .int (xs 2), .int (xs 3)]) (rest := []) C G (c_x_deed l T q_1 t0_2 ia_3 im_4 rd_5 po_6 co_7 tr_8 wa_9 wb_10 fi_11 cd_12 a1p_13 a2p_14 a3p_15 a4p_16 a5p_17 (xs 1) (xs 2) (xs 3)) (kV_RL_36 C.2.2.2.2 (Nat.le_of_ble_eq_true rfl) (Nat.le_of_ble_eq_true rfl)) [0, 1, 3] [2, 4, 5, 6, 7, 8, 9, 10, 11, 12, 13, 14, 15, 16, 17, 18, 19, 20, 21, 22, 23, 24, 25, 26, 27, 28, 29, 30, 31, 32, 33, 34, 35, 36, 37, 38, 39, 40, 41] rfl rfl (ci := 10) (qc := (RX11, TX11, 11)) rfl rfl (List.mem_flatten.mpr ⟨_, List.mem_of_getElem? (i := 0) rfl, List.mem_cons_self⟩) rfl rfl hl.1 dL_law_379 (Nat.le_of_ble_eq_true rfl) (Nat.le_of_ble_eq_true rfl) (fun r_172 b1 H locs hw G => ?_)
        obtain ⟨rfl, h_171⟩ := hw
        have G : zS T A s.heap s [[(a1p_13, .inl (T.2 1, 600, .inl f1p_18))], [(a3p_15, .inl (T.2 3, 2, .inr (.inr (.inr (.inr f3p_19)))))], [(a4p_16, .inl (T.2 4, 2, .inr (.inr (.inr (.inr f4p_20)))))], [(a5p_17, .inl (T.2 5, 2, .inr (.inr (.inr (.inr f5p_21)))))], w1p_28, w2p_29, w3p_30, w4p_31, w5p_32, w6p_33, [(ia_3, .inl (T.2 6, 3, .inr (.inr (.inr (.inr fq_34)))))], u0_38, u1_39, u2_40, [(im_4, .inl (T.2 2, 3, .inl (fun _ => 0)))], v_41, z1_42, z2_43, z3_44, w1_45, w2_46, w3_47, [(cd_12, .inl (T.2 0, 1000, .inl (fun _ => 0)))], [(q_74, .inr (11, [.ref r_all_75, .ref r_has_76, .int 0, .int 0, .int 0, .int 0, .int 0, .int 0, .int 0, .int 0, .ref r_read_77, .int 0, .int 0, .int 0, .ref r_posts_78, .ref r_shut_79, .ref r_here_80, .int 0, .int 0, .int 0, .int 0, .ref r_was_81, .ref r_came_82, .ref r_seenAt_83, .ref r_rowWorth_84, .ref r_farBy_85, .ref r_used_86, .int 0, .int 0, .int 0, .int 0, .int 0, .int 0, .int 0, .int 0, .int 0, .int 0, .int 0, .int 0, .ref r_fitPost_87, .ref r_fitEnd_88, .ref r_keptPosts_89, .int 0]))], [(r_all_75, .inl (T.2 0, 3952, .inl (upd (fun _ => 0) 6 (-1))))], [(r_has_76, .inl (T.2 2, 3, .inl (fun _ => 0)))], [(r_read_77, .inl (T.2 0, 121, .inl (fun _ => 0)))], [(r_posts_78, .inl (T.2 0, 7, .inl (fun _ => 0)))], [(r_shut_79, .inl (T.2 0, 7, .inl (fun _ => 0)))], [(r_here_80, .inl (T.2 0, 7, .inl (fun _ => 0)))], [(r_was_81, .inl (T.2 0, 7, .inl (fun _ => 0)))], [(r_came_82, .inl (T.2 0, 7, .inl (fun _ => 0)))], [(r_seenAt_83, .inl (T.2 0, 16384, .inl (fun _ => 0)))], [(r_rowWorth_84, .inl (T.2 0, 512, .inl (fun _ => 0)))], [(r_farBy_85, .inl (T.2 0, 49, .inl (fun _ => 0)))], [(r_used_86, .inl (T.2 0, 7, .inl (fun _ => 0)))], [(r_fitPost_87, .inl (T.2 0, 28, .inl (fun _ => 0)))], [(r_fitEnd_88, .inl (T.2 0, 49, .inl (fun _ => 0)))], [(r_keptPosts_89, .inl (T.2 0, 7, .inl (fun _ => 0)))]] _ _ := G
        subst h_171
        refine lv_aload_n hx hb dL_law_382 rfl (lv_at hl 1 rfl) ?_
        refine lv_aload_n hx hb dL_law_383 rfl (lv_at hl 3 rfl) ?_
        refine lv_iload_n hx hb dL_law_384 rfl (lv_at hl 0 rfl) ?_
        refine lv_iconst (v := 1) hx hb dL_law_385 (by decide) ?_
        refine lv_iadd hx hb dL_law_386 ?_
        refine lv_topi (fun y_173 ey_173 => ?_)
        obtain rfl : y_173 = 1 := ey_173.trans (by decide)
        refine va_sld hx hb hX hbl hbA G.2.2.2.1 (vp_in_nI (n := 1) (by decide) (by decide)) dL_law_387 ?_
        refine lv_topi (fun v_174 ev_174 => ?_)
        have ev_174 : v_174 = xs 1 := ev_174
        subst ev_174
        refine lv_aload_n hx hb dL_law_388 rfl (lv_at hl 3 rfl) ?_
        refine lv_iload_n hx hb dL_law_389 rfl (lv_at hl 0 rfl) ?_
        refine lv_iconst (v := 2) hx hb dL_law_390 (by decide) ?_
        refine lv_iadd hx hb dL_law_391 ?_
        refine lv_topi (fun y_175 ey_175 => ?_)
        obtain rfl : y_175 = 2 := ey_175.trans (by decide)
        refine va_sld hx hb hX hbl hbA G.2.2.2.1 (vp_in_nI (n := 2) (by decide) (by decide)) dL_law_392 ?_
        refine lv_topi (fun v_176 ev_176 => ?_)
        have ev_176 : v_176 = xs 2 := ev_176
        subst ev_176
        refine lv_aload_n hx hb dL_law_393 rfl (lv_at hl 3 rfl) ?_
        refine lv_iload_n hx hb dL_law_394 rfl (lv_at hl 0 rfl) ?_
        refine lv_iconst (v := 3) hx hb dL_law_395 (by decide) ?_
        refine lv_iadd hx hb dL_law_396 ?_
        refine lv_topi (fun y_177 ey_177 => ?_)
        obtain rfl : y_177 = 3 := ey_177.trans (by decide)
        refine va_sld hx hb hX hbl hbA G.2.2.2.1 (vp_in_nI (n := 3) (by decide) (by decide)) dL_law_397 ?_
        refine lv_topi (fun v_178 ev_178 => ?_)
        have ev_178 : v_178 = xs 3 := ev_178
        subst ev_178
        refine z_Vi (bc := [[(q_74, .inr (11, [.ref r_all_75, .ref r_has_76, .int 0, .int 0, .int 0, .int 0, .int 0, .int 0, .int 0, .int 0, .ref r_read_77, .int 0, .int 0, .int 0, .ref r_posts_78, .ref r_shut_79, .ref r_here_80, .int 0, .int 0, .int 0, .int 0, .ref r_was_81, .ref r_came_82, .ref r_seenAt_83, .ref r_rowWorth_84, .ref r_farBy_85, .ref r_used_86, .int 0, .int 0, .int 0, .int 0, .int 0, .int 0, .int 0, .int 0, .int 0, .int 0, .int 0, .int 0, .ref r_fitPost_87, .ref r_fitEnd_88, .ref r_keptPosts_89, .int 0]))], [(r_all_75, .inl (T.2 0, 3952, .inl (upd (fun _ => 0) 6 (-1))))]]) (br := [[(a1p_13, .inl (T.2 1, 600, .inl f1p_18))], [(a3p_15, .inl (T.2 3, 2, .inr (.inr (.inr (.inr f3p_19)))))], [(a4p_16, .inl (T.2 4, 2, .inr (.inr (.inr (.inr f4p_20)))))], [(a5p_17, .inl (T.2 5, 2, .inr (.inr (.inr (.inr f5p_21)))))], w1p_28, w2p_29, w3p_30, w4p_31, w5p_32, w6p_33, [(ia_3, .inl (T.2 6, 3, .inr (.inr (.inr (.inr fq_34)))))], u0_38, u1_39, u2_40, [(im_4, .inl (T.2 2, 3, .inl (fun _ => 0)))], v_41, z1_42, z2_43, z3_44, w1_45, w2_46, w3_47, [(cd_12, .inl (T.2 0, 1000, .inl (fun _ => 0)))], [(r_has_76, .inl (T.2 2, 3, .inl (fun _ => 0)))], [(r_read_77, .inl (T.2 0, 121, .inl (fun _ => 0)))], [(r_posts_78, .inl (T.2 0, 7, .inl (fun _ => 0)))], [(r_shut_79, .inl (T.2 0, 7, .inl (fun _ => 0)))], [(r_here_80, .inl (T.2 0, 7, .inl (fun _ => 0)))], [(r_was_81, .inl (T.2 0, 7, .inl (fun _ => 0)))], [(r_came_82, .inl (T.2 0, 7, .inl (fun _ => 0)))], [(r_seenAt_83, .inl (T.2 0, 16384, .inl (fun _ => 0)))], [(r_rowWorth_84, .inl (T.2 0, 512, .inl (fun _ => 0)))], [(r_farBy_85, .inl (T.2 0, 49, .inl (fun _ => 0)))], [(r_used_86, .inl (T.2 0, 7, .inl (fun _ => 0)))], [(r_fitPost_87, .inl (T.2 0, 28, .inl (fun _ => 0)))], [(r_fitEnd_88, .inl (T.2 0, 49, .inl (fun _ => 0)))], [(r_keptPosts_89, .inl (T.2 0, 7, .inl (fun _ => 0)))]]) (As := [.int (xs 1), .int (xs 2), .int (xs 3)]) (rest := [.int (-2)]) C G (c_m_deed l T q_74 r_all_75 r_has_76 r_read_77 r_posts_78 r_shut_79 r_here_80 r_was_81 r_came_82 r_seenAt_83 r_rowWorth_84 r_farBy_85 r_used_86 r_fitPost_87 r_fitEnd_88 r_keptPosts_89 (xs 1) (xs 2) (xs 3)) (kV_RL_40 C.2.2.2.2 (Nat.le_of_ble_eq_true rfl) (Nat.le_of_ble_eq_true rfl)) [23, 24] [0, 1, 2, 3, 4, 5, 6, 7, 8, 9, 10, 11, 12, 13, 14, 15, 16, 17, 18, 19, 20, 21, 22, 25, 26, 27, 28, 29, 30, 31, 32, 33, 34, 35, 36, 37, 38] rfl rfl (ci := 11) (qc := (RX12, TX12, 43)) rfl rfl (List.mem_flatten.mpr ⟨_, List.mem_of_getElem? (i := 0) rfl, List.mem_cons_self⟩) rfl rfl hl.1 dL_law_398 (Nat.le_of_ble_eq_true rfl) (Nat.le_of_ble_eq_true rfl) (fun r_180 b1 H locs hw G => ?_)
        obtain ⟨rfl, h_179⟩ := hw
        have G : zS T A s.heap s [[(a1p_13, .inl (T.2 1, 600, .inl f1p_18))], [(a3p_15, .inl (T.2 3, 2, .inr (.inr (.inr (.inr f3p_19)))))], [(a4p_16, .inl (T.2 4, 2, .inr (.inr (.inr (.inr f4p_20)))))], [(a5p_17, .inl (T.2 5, 2, .inr (.inr (.inr (.inr f5p_21)))))], w1p_28, w2p_29, w3p_30, w4p_31, w5p_32, w6p_33, [(ia_3, .inl (T.2 6, 3, .inr (.inr (.inr (.inr fq_34)))))], u0_38, u1_39, u2_40, [(im_4, .inl (T.2 2, 3, .inl (fun _ => 0)))], v_41, z1_42, z2_43, z3_44, w1_45, w2_46, w3_47, [(cd_12, .inl (T.2 0, 1000, .inl (fun _ => 0)))], [(r_has_76, .inl (T.2 2, 3, .inl (fun _ => 0)))], [(r_read_77, .inl (T.2 0, 121, .inl (fun _ => 0)))], [(r_posts_78, .inl (T.2 0, 7, .inl (fun _ => 0)))], [(r_shut_79, .inl (T.2 0, 7, .inl (fun _ => 0)))], [(r_here_80, .inl (T.2 0, 7, .inl (fun _ => 0)))], [(r_was_81, .inl (T.2 0, 7, .inl (fun _ => 0)))], [(r_came_82, .inl (T.2 0, 7, .inl (fun _ => 0)))], [(r_seenAt_83, .inl (T.2 0, 16384, .inl (fun _ => 0)))], [(r_rowWorth_84, .inl (T.2 0, 512, .inl (fun _ => 0)))], [(r_farBy_85, .inl (T.2 0, 49, .inl (fun _ => 0)))], [(r_used_86, .inl (T.2 0, 7, .inl (fun _ => 0)))], [(r_fitPost_87, .inl (T.2 0, 28, .inl (fun _ => 0)))], [(r_fitEnd_88, .inl (T.2 0, 49, .inl (fun _ => 0)))], [(r_keptPosts_89, .inl (T.2 0, 7, .inl (fun _ => 0)))]] _ _ := G
        subst h_179
        refine lv_icmp_eq (tgt := 1767) hx hb dL_law_401 (by decide) (fun _ => ?_) (fun q => absurd (by decide) q)
        refine lv_iinc (v := 6) (lv' := [(3, .int 6), (2, .ref q_74), (1, .ref q_1), (0, .ref b)]) hx hb dL_law_1767 hl (k := 0) rfl (by decide) (by decide) rfl (fun ls hl => ?_)
        refine lv_goto (tgt := 18) hx hb dL_law_1770 (by decide) ?_
        refine lv_iload_n hx hb dL_law_18 rfl (lv_at hl 0 rfl) ?_
        refine lv_aload_n hx hb dL_law_19 rfl (lv_at hl 3 rfl) ?_
        refine va_slen hx hb hX hbl hbA G.2.2.2.1 dL_law_20 ?_
        refine lv_bipush (v := 6) hx hb dL_law_21 (by decide) ?_
        refine lv_isub hx hb dL_law_23 ?_
        refine lv_topi (fun y_181 ey_181 => ?_)
        obtain rfl : y_181 = 0 := ey_181.trans (by decide)
        refine lv_icmp_gt (tgt := 1773) hx hb dL_law_24 (by decide) (fun _ => ?_) (fun q => absurd (by decide) q)
        refine lv_iconst (v := 1) hx hb dL_law_1773 (by decide) ?_
        refine va_forget (fun q hq => by have h9 := G.2.2.2.1.2.2 q hq; rw [hAe] at h9; exact h9) ?_
        refine W.widen (k := 600000) (n := 7302250) (Nat.le_of_ble_eq_true rfl) (Nat.le_of_ble_eq_true rfl) ?_
        exact lw_ret hx hb hr hlocks dL_law_1774
      · refine lv_tableIn (tgt := 406) hx hb dL_law_33 (by omega) (by omega) (by rw [c_94]; rfl) (by decide) ?_
        refine lv_aload_n hx hb dL_law_406 rfl (lv_at hl 2 rfl) ?_
        refine lv_aload_n hx hb dL_law_407 rfl (lv_at hl 3 rfl) ?_
        refine lv_iload_n hx hb dL_law_408 rfl (lv_at hl 0 rfl) ?_
        refine lv_iconst (v := 1) hx hb dL_law_409 (by decide) ?_
        refine lv_iadd hx hb dL_law_410 ?_
        refine lv_topi (fun y_182 ey_182 => ?_)
        obtain rfl : y_182 = 1 := ey_182.trans (by decide)
        refine va_sld hx hb hX hbl hbA G.2.2.2.1 (vp_in_nI (n := 1) (by decide) (by decide)) dL_law_411 ?_
        refine lv_topi (fun v_183 ev_183 => ?_)
        have ev_183 : v_183 = xs 1 := ev_183
        subst ev_183
        refine lv_aload_n hx hb dL_law_412 rfl (lv_at hl 3 rfl) ?_
        refine lv_iload_n hx hb dL_law_413 rfl (lv_at hl 0 rfl) ?_
        refine lv_iconst (v := 2) hx hb dL_law_414 (by decide) ?_
        refine lv_iadd hx hb dL_law_415 ?_
        refine lv_topi (fun y_184 ey_184 => ?_)
        obtain rfl : y_184 = 2 := ey_184.trans (by decide)
        refine va_sld hx hb hX hbl hbA G.2.2.2.1 (vp_in_nI (n := 2) (by decide) (by decide)) dL_law_416 ?_
        refine lv_topi (fun v_185 ev_185 => ?_)
        have ev_185 : v_185 = xs 2 := ev_185
        subst ev_185
        refine z_Vi (bc := [[(q_1, .inr (10, [.ref t0_2, .ref ia_3, .ref im_4, .ref rd_5, .ref po_6, .ref co_7, .ref tr_8, .ref wa_9, .ref wb_10, .ref fi_11, .ref cd_12]))], [(t0_2, .inr (8, [.ref a1p_13, .int 0, .int 0, .int (-1), .ref a2p_14, .ref a3p_15, .ref a4p_16, .ref a5p_17]))], [(a2p_14, .inl (T.2 0, 3, .inl (fun _ => 0)))]]) (br := [[(a1p_13, .inl (T.2 1, 600, .inl f1p_18))], [(a3p_15, .inl (T.2 3, 2, .inr (.inr (.inr (.inr f3p_19)))))], [(a4p_16, .inl (T.2 4, 2, .inr (.inr (.inr (.inr f4p_20)))))], [(a5p_17, .inl (T.2 5, 2, .inr (.inr (.inr (.inr f5p_21)))))], w1p_28, w2p_29, w3p_30, w4p_31, w5p_32, w6p_33, [(ia_3, .inl (T.2 6, 3, .inr (.inr (.inr (.inr fq_34)))))], u0_38, u1_39, u2_40, [(im_4, .inl (T.2 2, 3, .inl (fun _ => 0)))], v_41, z1_42, z2_43, z3_44, w1_45, w2_46, w3_47, [(cd_12, .inl (T.2 0, 1000, .inl (fun _ => 0)))], [(q_74, .inr (11, [.ref r_all_75, .ref r_has_76, .int 0, .int 0, .int 0, .int 0, .int 0, .int 0, .int 0, .int 0, .ref r_read_77, .int 0, .int 0, .int 0, .ref r_posts_78, .ref r_shut_79, .ref r_here_80, .int 0, .int 0, .int 0, .int 0, .ref r_was_81, .ref r_came_82, .ref r_seenAt_83, .ref r_rowWorth_84, .ref r_farBy_85, .ref r_used_86, .int 0, .int 0, .int 0, .int 0, .int 0, .int 0, .int 0, .int 0, .int 0, .int 0, .int 0, .int 0, .ref r_fitPost_87, .ref r_fitEnd_88, .ref r_keptPosts_89, .int 0]))], [(r_all_75, .inl (T.2 0, 3952, .inl (upd (fun _ => 0) 6 (-1))))], [(r_has_76, .inl (T.2 2, 3, .inl (fun _ => 0)))], [(r_read_77, .inl (T.2 0, 121, .inl (fun _ => 0)))], [(r_posts_78, .inl (T.2 0, 7, .inl (fun _ => 0)))], [(r_shut_79, .inl (T.2 0, 7, .inl (fun _ => 0)))], [(r_here_80, .inl (T.2 0, 7, .inl (fun _ => 0)))], [(r_was_81, .inl (T.2 0, 7, .inl (fun _ => 0)))], [(r_came_82, .inl (T.2 0, 7, .inl (fun _ => 0)))], [(r_seenAt_83, .inl (T.2 0, 16384, .inl (fun _ => 0)))], [(r_rowWorth_84, .inl (T.2 0, 512, .inl (fun _ => 0)))], [(r_farBy_85, .inl (T.2 0, 49, .inl (fun _ => 0)))], [(r_used_86, .inl (T.2 0, 7, .inl (fun _ => 0)))], [(r_fitPost_87, .inl (T.2 0, 28, .inl (fun _ => 0)))], [(r_fitEnd_88, .inl (T.2 0, 49, .inl (fun _ => 0)))], [(r_keptPosts_89, .inl (T.2 0, 7, .inl (fun _ => 0)))]]) (As := [.int (xs 1), .int (xs 2)]) (rest := []) C G (c_x_stop l T q_1 t0_2 ia_3 im_4 rd_5 po_6 co_7 tr_8 wa_9 wb_10 fi_11 cd_12 a1p_13 a2p_14 a3p_15 a4p_16 a5p_17 (xs 1) (xs 2)) (kV_RL_41 C.2.2.2.2 (Nat.le_of_ble_eq_true rfl) (Nat.le_of_ble_eq_true rfl)) [0, 1, 3] [2, 4, 5, 6, 7, 8, 9, 10, 11, 12, 13, 14, 15, 16, 17, 18, 19, 20, 21, 22, 23, 24, 25, 26, 27, 28, 29, 30, 31, 32, 33, 34, 35, 36, 37, 38, 39, 40, 41] rfl rfl (ci := 10) (qc := (RX11, TX11, 11)) rfl rfl (List.mem_flatten.mpr ⟨_, List.mem_of_getElem? (i := 0) rfl, List.mem_cons_self⟩) rfl rfl hl.1 dL_law_417 (Nat.le_of_ble_eq_true rfl) (Nat.le_of_ble_eq_true rfl) (fun r_187 b1 H locs hw G => ?_)
        obtain ⟨rfl, h_186⟩ := hw
        have G : zS T A s.heap s [[(a1p_13, .inl (T.2 1, 600, .inl f1p_18))], [(a3p_15, .inl (T.2 3, 2, .inr (.inr (.inr (.inr f3p_19)))))], [(a4p_16, .inl (T.2 4, 2, .inr (.inr (.inr (.inr f4p_20)))))], [(a5p_17, .inl (T.2 5, 2, .inr (.inr (.inr (.inr f5p_21)))))], w1p_28, w2p_29, w3p_30, w4p_31, w5p_32, w6p_33, [(ia_3, .inl (T.2 6, 3, .inr (.inr (.inr (.inr fq_34)))))], u0_38, u1_39, u2_40, [(im_4, .inl (T.2 2, 3, .inl (fun _ => 0)))], v_41, z1_42, z2_43, z3_44, w1_45, w2_46, w3_47, [(cd_12, .inl (T.2 0, 1000, .inl (fun _ => 0)))], [(q_74, .inr (11, [.ref r_all_75, .ref r_has_76, .int 0, .int 0, .int 0, .int 0, .int 0, .int 0, .int 0, .int 0, .ref r_read_77, .int 0, .int 0, .int 0, .ref r_posts_78, .ref r_shut_79, .ref r_here_80, .int 0, .int 0, .int 0, .int 0, .ref r_was_81, .ref r_came_82, .ref r_seenAt_83, .ref r_rowWorth_84, .ref r_farBy_85, .ref r_used_86, .int 0, .int 0, .int 0, .int 0, .int 0, .int 0, .int 0, .int 0, .int 0, .int 0, .int 0, .int 0, .ref r_fitPost_87, .ref r_fitEnd_88, .ref r_keptPosts_89, .int 0]))], [(r_all_75, .inl (T.2 0, 3952, .inl (upd (fun _ => 0) 6 (-1))))], [(r_has_76, .inl (T.2 2, 3, .inl (fun _ => 0)))], [(r_read_77, .inl (T.2 0, 121, .inl (fun _ => 0)))], [(r_posts_78, .inl (T.2 0, 7, .inl (fun _ => 0)))], [(r_shut_79, .inl (T.2 0, 7, .inl (fun _ => 0)))], [(r_here_80, .inl (T.2 0, 7, .inl (fun _ => 0)))], [(r_was_81, .inl (T.2 0, 7, .inl (fun _ => 0)))], [(r_came_82, .inl (T.2 0, 7, .inl (fun _ => 0)))], [(r_seenAt_83, .inl (T.2 0, 16384, .inl (fun _ => 0)))], [(r_rowWorth_84, .inl (T.2 0, 512, .inl (fun _ => 0)))], [(r_farBy_85, .inl (T.2 0, 49, .inl (fun _ => 0)))], [(r_used_86, .inl (T.2 0, 7, .inl (fun _ => 0)))], [(r_fitPost_87, .inl (T.2 0, 28, .inl (fun _ => 0)))], [(r_fitEnd_88, .inl (T.2 0, 49, .inl (fun _ => 0)))], [(r_keptPosts_89, .inl (T.2 0, 7, .inl (fun _ => 0)))]] _ _ := G
        subst h_186
        refine lv_aload_n hx hb dL_law_420 rfl (lv_at hl 1 rfl) ?_
        refine lv_aload_n hx hb dL_law_421 rfl (lv_at hl 3 rfl) ?_
        refine lv_iload_n hx hb dL_law_422 rfl (lv_at hl 0 rfl) ?_
        refine lv_iconst (v := 1) hx hb dL_law_423 (by decide) ?_
        refine lv_iadd hx hb dL_law_424 ?_
        refine lv_topi (fun y_188 ey_188 => ?_)
        obtain rfl : y_188 = 1 := ey_188.trans (by decide)
        refine va_sld hx hb hX hbl hbA G.2.2.2.1 (vp_in_nI (n := 1) (by decide) (by decide)) dL_law_425 ?_
        refine lv_topi (fun v_189 ev_189 => ?_)
        have ev_189 : v_189 = xs 1 := ev_189
        subst ev_189
        refine lv_aload_n hx hb dL_law_426 rfl (lv_at hl 3 rfl) ?_
        refine lv_iload_n hx hb dL_law_427 rfl (lv_at hl 0 rfl) ?_
        refine lv_iconst (v := 2) hx hb dL_law_428 (by decide) ?_
        refine lv_iadd hx hb dL_law_429 ?_
        refine lv_topi (fun y_190 ey_190 => ?_)
        obtain rfl : y_190 = 2 := ey_190.trans (by decide)
        refine va_sld hx hb hX hbl hbA G.2.2.2.1 (vp_in_nI (n := 2) (by decide) (by decide)) dL_law_430 ?_
        refine lv_topi (fun v_191 ev_191 => ?_)
        have ev_191 : v_191 = xs 2 := ev_191
        subst ev_191
        refine z_Vi (bc := [[(q_74, .inr (11, [.ref r_all_75, .ref r_has_76, .int 0, .int 0, .int 0, .int 0, .int 0, .int 0, .int 0, .int 0, .ref r_read_77, .int 0, .int 0, .int 0, .ref r_posts_78, .ref r_shut_79, .ref r_here_80, .int 0, .int 0, .int 0, .int 0, .ref r_was_81, .ref r_came_82, .ref r_seenAt_83, .ref r_rowWorth_84, .ref r_farBy_85, .ref r_used_86, .int 0, .int 0, .int 0, .int 0, .int 0, .int 0, .int 0, .int 0, .int 0, .int 0, .int 0, .int 0, .ref r_fitPost_87, .ref r_fitEnd_88, .ref r_keptPosts_89, .int 0]))], [(r_all_75, .inl (T.2 0, 3952, .inl (upd (fun _ => 0) 6 (-1))))]]) (br := [[(a1p_13, .inl (T.2 1, 600, .inl f1p_18))], [(a3p_15, .inl (T.2 3, 2, .inr (.inr (.inr (.inr f3p_19)))))], [(a4p_16, .inl (T.2 4, 2, .inr (.inr (.inr (.inr f4p_20)))))], [(a5p_17, .inl (T.2 5, 2, .inr (.inr (.inr (.inr f5p_21)))))], w1p_28, w2p_29, w3p_30, w4p_31, w5p_32, w6p_33, [(ia_3, .inl (T.2 6, 3, .inr (.inr (.inr (.inr fq_34)))))], u0_38, u1_39, u2_40, [(im_4, .inl (T.2 2, 3, .inl (fun _ => 0)))], v_41, z1_42, z2_43, z3_44, w1_45, w2_46, w3_47, [(cd_12, .inl (T.2 0, 1000, .inl (fun _ => 0)))], [(r_has_76, .inl (T.2 2, 3, .inl (fun _ => 0)))], [(r_read_77, .inl (T.2 0, 121, .inl (fun _ => 0)))], [(r_posts_78, .inl (T.2 0, 7, .inl (fun _ => 0)))], [(r_shut_79, .inl (T.2 0, 7, .inl (fun _ => 0)))], [(r_here_80, .inl (T.2 0, 7, .inl (fun _ => 0)))], [(r_was_81, .inl (T.2 0, 7, .inl (fun _ => 0)))], [(r_came_82, .inl (T.2 0, 7, .inl (fun _ => 0)))], [(r_seenAt_83, .inl (T.2 0, 16384, .inl (fun _ => 0)))], [(r_rowWorth_84, .inl (T.2 0, 512, .inl (fun _ => 0)))], [(r_farBy_85, .inl (T.2 0, 49, .inl (fun _ => 0)))], [(r_used_86, .inl (T.2 0, 7, .inl (fun _ => 0)))], [(r_fitPost_87, .inl (T.2 0, 28, .inl (fun _ => 0)))], [(r_fitEnd_88, .inl (T.2 0, 49, .inl (fun _ => 0)))], [(r_keptPosts_89, .inl (T.2 0, 7, .inl (fun _ => 0)))]]) (As := [.int (xs 1), .int (xs 2)]) (rest := [.int (-1)]) C G (c_m_stop l T q_74 r_all_75 r_has_76 r_read_77 r_posts_78 r_shut_79 r_here_80 r_was_81 r_came_82 r_seenAt_83 r_rowWorth_84 r_farBy_85 r_used_86 r_fitPost_87 r_fitEnd_88 r_keptPosts_89 (xs 1) (xs 2)) (kV_RL_44 C.2.2.2.2 (Nat.le_of_ble_eq_true rfl) (Nat.le_of_ble_eq_true rfl)) [23, 24] [0, 1, 2, 3, 4, 5, 6, 7, 8, 9, 10, 11, 12, 13, 14, 15, 16, 17, 18, 19, 20, 21, 22, 25, 26, 27, 28, 29, 30, 31, 32, 33, 34, 35, 36, 37, 38] rfl rfl (ci := 11) (qc := (RX12, TX12, 43)) rfl rfl (List.mem_flatten.mpr ⟨_, List.mem_of_getElem? (i := 0) rfl, List.mem_cons_self⟩) rfl rfl hl.1 dL_law_431 (Nat.le_of_ble_eq_true rfl) (Nat.le_of_ble_eq_true rfl) (fun r_193 b1 H locs hw G => ?_)
        obtain ⟨rfl, h_192⟩ := hw
        have G : zS T A s.heap s [[(a1p_13, .inl (T.2 1, 600, .inl f1p_18))], [(a3p_15, .inl (T.2 3, 2, .inr (.inr (.inr (.inr f3p_19)))))], [(a4p_16, .inl (T.2 4, 2, .inr (.inr (.inr (.inr f4p_20)))))], [(a5p_17, .inl (T.2 5, 2, .inr (.inr (.inr (.inr f5p_21)))))], w1p_28, w2p_29, w3p_30, w4p_31, w5p_32, w6p_33, [(ia_3, .inl (T.2 6, 3, .inr (.inr (.inr (.inr fq_34)))))], u0_38, u1_39, u2_40, [(im_4, .inl (T.2 2, 3, .inl (fun _ => 0)))], v_41, z1_42, z2_43, z3_44, w1_45, w2_46, w3_47, [(cd_12, .inl (T.2 0, 1000, .inl (fun _ => 0)))], [(r_has_76, .inl (T.2 2, 3, .inl (fun _ => 0)))], [(r_read_77, .inl (T.2 0, 121, .inl (fun _ => 0)))], [(r_posts_78, .inl (T.2 0, 7, .inl (fun _ => 0)))], [(r_shut_79, .inl (T.2 0, 7, .inl (fun _ => 0)))], [(r_here_80, .inl (T.2 0, 7, .inl (fun _ => 0)))], [(r_was_81, .inl (T.2 0, 7, .inl (fun _ => 0)))], [(r_came_82, .inl (T.2 0, 7, .inl (fun _ => 0)))], [(r_seenAt_83, .inl (T.2 0, 16384, .inl (fun _ => 0)))], [(r_rowWorth_84, .inl (T.2 0, 512, .inl (fun _ => 0)))], [(r_farBy_85, .inl (T.2 0, 49, .inl (fun _ => 0)))], [(r_used_86, .inl (T.2 0, 7, .inl (fun _ => 0)))], [(r_fitPost_87, .inl (T.2 0, 28, .inl (fun _ => 0)))], [(r_fitEnd_88, .inl (T.2 0, 49, .inl (fun _ => 0)))], [(r_keptPosts_89, .inl (T.2 0, 7, .inl (fun _ => 0)))]] _ _ := G
        subst h_192
        refine lv_icmp_eq (tgt := 1767) hx hb dL_law_434 (by decide) (fun _ => ?_) (fun q => absurd (by decide) q)
        refine lv_iinc (v := 6) (lv' := [(3, .int 6), (2, .ref q_74), (1, .ref q_1), (0, .ref b)]) hx hb dL_law_1767 hl (k := 0) rfl (by decide) (by decide) rfl (fun ls hl => ?_)
        refine lv_goto (tgt := 18) hx hb dL_law_1770 (by decide) ?_
        refine lv_iload_n hx hb dL_law_18 rfl (lv_at hl 0 rfl) ?_
        refine lv_aload_n hx hb dL_law_19 rfl (lv_at hl 3 rfl) ?_
        refine va_slen hx hb hX hbl hbA G.2.2.2.1 dL_law_20 ?_
        refine lv_bipush (v := 6) hx hb dL_law_21 (by decide) ?_
        refine lv_isub hx hb dL_law_23 ?_
        refine lv_topi (fun y_194 ey_194 => ?_)
        obtain rfl : y_194 = 0 := ey_194.trans (by decide)
        refine lv_icmp_gt (tgt := 1773) hx hb dL_law_24 (by decide) (fun _ => ?_) (fun q => absurd (by decide) q)
        refine lv_iconst (v := 1) hx hb dL_law_1773 (by decide) ?_
        refine va_forget (fun q hq => by have h9 := G.2.2.2.1.2.2 q hq; rw [hAe] at h9; exact h9) ?_
        refine W.widen (k := 600000) (n := 7302250) (Nat.le_of_ble_eq_true rfl) (Nat.le_of_ble_eq_true rfl) ?_
        exact lw_ret hx hb hr hlocks dL_law_1774
      · refine lv_tableIn (tgt := 439) hx hb dL_law_33 (by omega) (by omega) (by rw [c_94]; rfl) (by decide) ?_
        refine lv_aload_n hx hb dL_law_439 rfl (lv_at hl 2 rfl) ?_
        refine lv_aload_n hx hb dL_law_440 rfl (lv_at hl 3 rfl) ?_
        refine lv_iload_n hx hb dL_law_441 rfl (lv_at hl 0 rfl) ?_
        refine lv_iconst (v := 1) hx hb dL_law_442 (by decide) ?_
        refine lv_iadd hx hb dL_law_443 ?_
        refine lv_topi (fun y_195 ey_195 => ?_)
        obtain rfl : y_195 = 1 := ey_195.trans (by decide)
        refine va_sld hx hb hX hbl hbA G.2.2.2.1 (vp_in_nI (n := 1) (by decide) (by decide)) dL_law_444 ?_
        refine lv_topi (fun v_196 ev_196 => ?_)
        have ev_196 : v_196 = xs 1 := ev_196
        subst ev_196
        refine lv_aload_n hx hb dL_law_445 rfl (lv_at hl 3 rfl) ?_
        refine lv_iload_n hx hb dL_law_446 rfl (lv_at hl 0 rfl) ?_
        refine lv_iconst (v := 2) hx hb dL_law_447 (by decide) ?_
        refine lv_iadd hx hb dL_law_448 ?_
        refine lv_topi (fun y_197 ey_197 => ?_)
        obtain rfl : y_197 = 2 := ey_197.trans (by decide)
        refine va_sld hx hb hX hbl hbA G.2.2.2.1 (vp_in_nI (n := 2) (by decide) (by decide)) dL_law_449 ?_
        refine lv_topi (fun v_198 ev_198 => ?_)
        have ev_198 : v_198 = xs 2 := ev_198
        subst ev_198
        refine lv_aload_n hx hb dL_law_450 rfl (lv_at hl 3 rfl) ?_
        refine lv_iload_n hx hb dL_law_451 rfl (lv_at hl 0 rfl) ?_
        refine lv_iconst (v := 3) hx hb dL_law_452 (by decide) ?_
        refine lv_iadd hx hb dL_law_453 ?_
        refine lv_topi (fun y_199 ey_199 => ?_)
        obtain rfl : y_199 = 3 := ey_199.trans (by decide)
        refine va_sld hx hb hX hbl hbA G.2.2.2.1 (vp_in_nI (n := 3) (by decide) (by decide)) dL_law_454 ?_
        refine lv_topi (fun v_200 ev_200 => ?_)
        have ev_200 : v_200 = xs 3 := ev_200
        subst ev_200
        refine lv_aload_n hx hb dL_law_455 rfl (lv_at hl 3 rfl) ?_
        refine lv_iload_n hx hb dL_law_456 rfl (lv_at hl 0 rfl) ?_
        refine lv_iconst (v := 4) hx hb dL_law_457 (by decide) ?_
        refine lv_iadd hx hb dL_law_458 ?_
        refine lv_topi (fun y_201 ey_201 => ?_)
        obtain rfl : y_201 = 4 := ey_201.trans (by decide)
        refine va_sld hx hb hX hbl hbA G.2.2.2.1 (vp_in_nI (n := 4) (by decide) (by decide)) dL_law_459 ?_
        refine lv_topi (fun v_202 ev_202 => ?_)
        have ev_202 : v_202 = xs 4 := ev_202
        subst ev_202
        refine z_Vi (bc := [[(q_1, .inr (10, [.ref t0_2, .ref ia_3, .ref im_4, .ref rd_5, .ref po_6, .ref co_7, .ref tr_8, .ref wa_9, .ref wb_10, .ref fi_11, .ref cd_12]))], [(t0_2, .inr (8, [.ref a1p_13, .int 0, .int 0, .int (-1), .ref a2p_14, .ref a3p_15, .ref a4p_16, .ref a5p_17]))], [(a2p_14, .inl (T.2 0, 3, .inl (fun _ => 0)))]]) (br := [[(a1p_13, .inl (T.2 1, 600, .inl f1p_18))], [(a3p_15, .inl (T.2 3, 2, .inr (.inr (.inr (.inr f3p_19)))))], [(a4p_16, .inl (T.2 4, 2, .inr (.inr (.inr (.inr f4p_20)))))], [(a5p_17, .inl (T.2 5, 2, .inr (.inr (.inr (.inr f5p_21)))))], w1p_28, w2p_29, w3p_30, w4p_31, w5p_32, w6p_33, [(ia_3, .inl (T.2 6, 3, .inr (.inr (.inr (.inr fq_34)))))], u0_38, u1_39, u2_40, [(im_4, .inl (T.2 2, 3, .inl (fun _ => 0)))], v_41, z1_42, z2_43, z3_44, w1_45, w2_46, w3_47, [(cd_12, .inl (T.2 0, 1000, .inl (fun _ => 0)))], [(q_74, .inr (11, [.ref r_all_75, .ref r_has_76, .int 0, .int 0, .int 0, .int 0, .int 0, .int 0, .int 0, .int 0, .ref r_read_77, .int 0, .int 0, .int 0, .ref r_posts_78, .ref r_shut_79, .ref r_here_80, .int 0, .int 0, .int 0, .int 0, .ref r_was_81, .ref r_came_82, .ref r_seenAt_83, .ref r_rowWorth_84, .ref r_farBy_85, .ref r_used_86, .int 0, .int 0, .int 0, .int 0, .int 0, .int 0, .int 0, .int 0, .int 0, .int 0, .int 0, .int 0, .ref r_fitPost_87, .ref r_fitEnd_88, .ref r_keptPosts_89, .int 0]))], [(r_all_75, .inl (T.2 0, 3952, .inl (upd (fun _ => 0) 6 (-1))))], [(r_has_76, .inl (T.2 2, 3, .inl (fun _ => 0)))], [(r_read_77, .inl (T.2 0, 121, .inl (fun _ => 0)))], [(r_posts_78, .inl (T.2 0, 7, .inl (fun _ => 0)))], [(r_shut_79, .inl (T.2 0, 7, .inl (fun _ => 0)))], [(r_here_80, .inl (T.2 0, 7, .inl (fun _ => 0)))], [(r_was_81, .inl (T.2 0, 7, .inl (fun _ => 0)))], [(r_came_82, .inl (T.2 0, 7, .inl (fun _ => 0)))], [(r_seenAt_83, .inl (T.2 0, 16384, .inl (fun _ => 0)))], [(r_rowWorth_84, .inl (T.2 0, 512, .inl (fun _ => 0)))], [(r_farBy_85, .inl (T.2 0, 49, .inl (fun _ => 0)))], [(r_used_86, .inl (T.2 0, 7, .inl (fun _ => 0)))], [(r_fitPost_87, .inl (T.2 0, 28, .inl (fun _ => 0)))], [(r_fitEnd_88, .inl (T.2 0, 49, .inl (fun _ => 0)))], [(r_keptPosts_89, .inl (T.2 0, 7, .inl (fun _ => 0)))]]) (As := [.int (xs 1), .int (xs 2), .int (xs 3), .int (xs 4)]) (rest := []) C G (c_x_state l T q_1 t0_2 ia_3 im_4 rd_5 po_6 co_7 tr_8 wa_9 wb_10 fi_11 cd_12 a1p_13 a2p_14 a3p_15 a4p_16 a5p_17 (xs 1) (xs 2) (xs 3) (xs 4)) (kV_RL_45 C.2.2.2.2 (Nat.le_of_ble_eq_true rfl) (Nat.le_of_ble_eq_true rfl)) [0, 1, 3] [2, 4, 5, 6, 7, 8, 9, 10, 11, 12, 13, 14, 15, 16, 17, 18, 19, 20, 21, 22, 23, 24, 25, 26, 27, 28, 29, 30, 31, 32, 33, 34, 35, 36, 37, 38, 39, 40, 41] rfl rfl (ci := 10) (qc := (RX11, TX11, 11)) rfl rfl (List.mem_flatten.mpr ⟨_, List.mem_of_getElem? (i := 0) rfl, List.mem_cons_self⟩) rfl rfl hl.1 dL_law_460 (Nat.le_of_ble_eq_true rfl) (Nat.le_of_ble_eq_true rfl) (fun r_204 b1 H locs hw G => ?_)
        obtain ⟨rfl, h_203⟩ := hw
        have G : zS T A s.heap s [[(a1p_13, .inl (T.2 1, 600, .inl f1p_18))], [(a3p_15, .inl (T.2 3, 2, .inr (.inr (.inr (.inr f3p_19)))))], [(a4p_16, .inl (T.2 4, 2, .inr (.inr (.inr (.inr f4p_20)))))], [(a5p_17, .inl (T.2 5, 2, .inr (.inr (.inr (.inr f5p_21)))))], w1p_28, w2p_29, w3p_30, w4p_31, w5p_32, w6p_33, [(ia_3, .inl (T.2 6, 3, .inr (.inr (.inr (.inr fq_34)))))], u0_38, u1_39, u2_40, [(im_4, .inl (T.2 2, 3, .inl (fun _ => 0)))], v_41, z1_42, z2_43, z3_44, w1_45, w2_46, w3_47, [(cd_12, .inl (T.2 0, 1000, .inl (fun _ => 0)))], [(q_74, .inr (11, [.ref r_all_75, .ref r_has_76, .int 0, .int 0, .int 0, .int 0, .int 0, .int 0, .int 0, .int 0, .ref r_read_77, .int 0, .int 0, .int 0, .ref r_posts_78, .ref r_shut_79, .ref r_here_80, .int 0, .int 0, .int 0, .int 0, .ref r_was_81, .ref r_came_82, .ref r_seenAt_83, .ref r_rowWorth_84, .ref r_farBy_85, .ref r_used_86, .int 0, .int 0, .int 0, .int 0, .int 0, .int 0, .int 0, .int 0, .int 0, .int 0, .int 0, .int 0, .ref r_fitPost_87, .ref r_fitEnd_88, .ref r_keptPosts_89, .int 0]))], [(r_all_75, .inl (T.2 0, 3952, .inl (upd (fun _ => 0) 6 (-1))))], [(r_has_76, .inl (T.2 2, 3, .inl (fun _ => 0)))], [(r_read_77, .inl (T.2 0, 121, .inl (fun _ => 0)))], [(r_posts_78, .inl (T.2 0, 7, .inl (fun _ => 0)))], [(r_shut_79, .inl (T.2 0, 7, .inl (fun _ => 0)))], [(r_here_80, .inl (T.2 0, 7, .inl (fun _ => 0)))], [(r_was_81, .inl (T.2 0, 7, .inl (fun _ => 0)))], [(r_came_82, .inl (T.2 0, 7, .inl (fun _ => 0)))], [(r_seenAt_83, .inl (T.2 0, 16384, .inl (fun _ => 0)))], [(r_rowWorth_84, .inl (T.2 0, 512, .inl (fun _ => 0)))], [(r_farBy_85, .inl (T.2 0, 49, .inl (fun _ => 0)))], [(r_used_86, .inl (T.2 0, 7, .inl (fun _ => 0)))], [(r_fitPost_87, .inl (T.2 0, 28, .inl (fun _ => 0)))], [(r_fitEnd_88, .inl (T.2 0, 49, .inl (fun _ => 0)))], [(r_keptPosts_89, .inl (T.2 0, 7, .inl (fun _ => 0)))]] _ _ := G
        subst h_203
        refine lv_aload_n hx hb dL_law_463 rfl (lv_at hl 1 rfl) ?_
        refine lv_aload_n hx hb dL_law_464 rfl (lv_at hl 3 rfl) ?_
        refine lv_iload_n hx hb dL_law_465 rfl (lv_at hl 0 rfl) ?_
        refine lv_iconst (v := 1) hx hb dL_law_466 (by decide) ?_
        refine lv_iadd hx hb dL_law_467 ?_
        refine lv_topi (fun y_205 ey_205 => ?_)
        obtain rfl : y_205 = 1 := ey_205.trans (by decide)
        refine va_sld hx hb hX hbl hbA G.2.2.2.1 (vp_in_nI (n := 1) (by decide) (by decide)) dL_law_468 ?_
        refine lv_topi (fun v_206 ev_206 => ?_)
        have ev_206 : v_206 = xs 1 := ev_206
        subst ev_206
        refine lv_aload_n hx hb dL_law_469 rfl (lv_at hl 3 rfl) ?_
        refine lv_iload_n hx hb dL_law_470 rfl (lv_at hl 0 rfl) ?_
        refine lv_iconst (v := 2) hx hb dL_law_471 (by decide) ?_
        refine lv_iadd hx hb dL_law_472 ?_
        refine lv_topi (fun y_207 ey_207 => ?_)
        obtain rfl : y_207 = 2 := ey_207.trans (by decide)
        refine va_sld hx hb hX hbl hbA G.2.2.2.1 (vp_in_nI (n := 2) (by decide) (by decide)) dL_law_473 ?_
        refine lv_topi (fun v_208 ev_208 => ?_)
        have ev_208 : v_208 = xs 2 := ev_208
        subst ev_208
        refine lv_aload_n hx hb dL_law_474 rfl (lv_at hl 3 rfl) ?_
        refine lv_iload_n hx hb dL_law_475 rfl (lv_at hl 0 rfl) ?_
        refine lv_iconst (v := 3) hx hb dL_law_476 (by decide) ?_
        refine lv_iadd hx hb dL_law_477 ?_
        refine lv_topi (fun y_209 ey_209 => ?_)
        obtain rfl : y_209 = 3 := ey_209.trans (by decide)
        refine va_sld hx hb hX hbl hbA G.2.2.2.1 (vp_in_nI (n := 3) (by decide) (by decide)) dL_law_478 ?_
        refine lv_topi (fun v_210 ev_210 => ?_)
        have ev_210 : v_210 = xs 3 := ev_210
        subst ev_210
        refine lv_aload_n hx hb dL_law_479 rfl (lv_at hl 3 rfl) ?_
        refine lv_iload_n hx hb dL_law_480 rfl (lv_at hl 0 rfl) ?_
        refine lv_iconst (v := 4) hx hb dL_law_481 (by decide) ?_
        refine lv_iadd hx hb dL_law_482 ?_
        refine lv_topi (fun y_211 ey_211 => ?_)
        obtain rfl : y_211 = 4 := ey_211.trans (by decide)
        refine va_sld hx hb hX hbl hbA G.2.2.2.1 (vp_in_nI (n := 4) (by decide) (by decide)) dL_law_483 ?_
        refine lv_topi (fun v_212 ev_212 => ?_)
        have ev_212 : v_212 = xs 4 := ev_212
        subst ev_212
        refine z_Vi (bc := [[(q_74, .inr (11, [.ref r_all_75, .ref r_has_76, .int 0, .int 0, .int 0, .int 0, .int 0, .int 0, .int 0, .int 0, .ref r_read_77, .int 0, .int 0, .int 0, .ref r_posts_78, .ref r_shut_79, .ref r_here_80, .int 0, .int 0, .int 0, .int 0, .ref r_was_81, .ref r_came_82, .ref r_seenAt_83, .ref r_rowWorth_84, .ref r_farBy_85, .ref r_used_86, .int 0, .int 0, .int 0, .int 0, .int 0, .int 0, .int 0, .int 0, .int 0, .int 0, .int 0, .int 0, .ref r_fitPost_87, .ref r_fitEnd_88, .ref r_keptPosts_89, .int 0]))], [(r_all_75, .inl (T.2 0, 3952, .inl (upd (fun _ => 0) 6 (-1))))]]) (br := [[(a1p_13, .inl (T.2 1, 600, .inl f1p_18))], [(a3p_15, .inl (T.2 3, 2, .inr (.inr (.inr (.inr f3p_19)))))], [(a4p_16, .inl (T.2 4, 2, .inr (.inr (.inr (.inr f4p_20)))))], [(a5p_17, .inl (T.2 5, 2, .inr (.inr (.inr (.inr f5p_21)))))], w1p_28, w2p_29, w3p_30, w4p_31, w5p_32, w6p_33, [(ia_3, .inl (T.2 6, 3, .inr (.inr (.inr (.inr fq_34)))))], u0_38, u1_39, u2_40, [(im_4, .inl (T.2 2, 3, .inl (fun _ => 0)))], v_41, z1_42, z2_43, z3_44, w1_45, w2_46, w3_47, [(cd_12, .inl (T.2 0, 1000, .inl (fun _ => 0)))], [(r_has_76, .inl (T.2 2, 3, .inl (fun _ => 0)))], [(r_read_77, .inl (T.2 0, 121, .inl (fun _ => 0)))], [(r_posts_78, .inl (T.2 0, 7, .inl (fun _ => 0)))], [(r_shut_79, .inl (T.2 0, 7, .inl (fun _ => 0)))], [(r_here_80, .inl (T.2 0, 7, .inl (fun _ => 0)))], [(r_was_81, .inl (T.2 0, 7, .inl (fun _ => 0)))], [(r_came_82, .inl (T.2 0, 7, .inl (fun _ => 0)))], [(r_seenAt_83, .inl (T.2 0, 16384, .inl (fun _ => 0)))], [(r_rowWorth_84, .inl (T.2 0, 512, .inl (fun _ => 0)))], [(r_farBy_85, .inl (T.2 0, 49, .inl (fun _ => 0)))], [(r_used_86, .inl (T.2 0, 7, .inl (fun _ => 0)))], [(r_fitPost_87, .inl (T.2 0, 28, .inl (fun _ => 0)))], [(r_fitEnd_88, .inl (T.2 0, 49, .inl (fun _ => 0)))], [(r_keptPosts_89, .inl (T.2 0, 7, .inl (fun _ => 0)))]]) (As := [.int (xs 1), .int (xs 2), .int (xs 3), .int (xs 4)]) (rest := [.int (-2)]) C G (c_m_state l T q_74 r_all_75 r_has_76 r_read_77 r_posts_78 r_shut_79 r_here_80 r_was_81 r_came_82 r_seenAt_83 r_rowWorth_84 r_farBy_85 r_used_86 r_fitPost_87 r_fitEnd_88 r_keptPosts_89 (xs 1) (xs 2) (xs 3) (xs 4)) (kV_RL_49 C.2.2.2.2 (Nat.le_of_ble_eq_true rfl) (Nat.le_of_ble_eq_true rfl)) [23, 24] [0, 1, 2, 3, 4, 5, 6, 7, 8, 9, 10, 11, 12, 13, 14, 15, 16, 17, 18, 19, 20, 21, 22, 25, 26, 27, 28, 29, 30, 31, 32, 33, 34, 35, 36, 37, 38] rfl rfl (ci := 11) (qc := (RX12, TX12, 43)) rfl rfl (List.mem_flatten.mpr ⟨_, List.mem_of_getElem? (i := 0) rfl, List.mem_cons_self⟩) rfl rfl hl.1 dL_law_484 (Nat.le_of_ble_eq_true rfl) (Nat.le_of_ble_eq_true rfl) (fun r_214 b1 H locs hw G => ?_)
        obtain ⟨rfl, h_213⟩ := hw
        have G : zS T A s.heap s [[(a1p_13, .inl (T.2 1, 600, .inl f1p_18))], [(a3p_15, .inl (T.2 3, 2, .inr (.inr (.inr (.inr f3p_19)))))], [(a4p_16, .inl (T.2 4, 2, .inr (.inr (.inr (.inr f4p_20)))))], [(a5p_17, .inl (T.2 5, 2, .inr (.inr (.inr (.inr f5p_21)))))], w1p_28, w2p_29, w3p_30, w4p_31, w5p_32, w6p_33, [(ia_3, .inl (T.2 6, 3, .inr (.inr (.inr (.inr fq_34)))))], u0_38, u1_39, u2_40, [(im_4, .inl (T.2 2, 3, .inl (fun _ => 0)))], v_41, z1_42, z2_43, z3_44, w1_45, w2_46, w3_47, [(cd_12, .inl (T.2 0, 1000, .inl (fun _ => 0)))], [(r_has_76, .inl (T.2 2, 3, .inl (fun _ => 0)))], [(r_read_77, .inl (T.2 0, 121, .inl (fun _ => 0)))], [(r_posts_78, .inl (T.2 0, 7, .inl (fun _ => 0)))], [(r_shut_79, .inl (T.2 0, 7, .inl (fun _ => 0)))], [(r_here_80, .inl (T.2 0, 7, .inl (fun _ => 0)))], [(r_was_81, .inl (T.2 0, 7, .inl (fun _ => 0)))], [(r_came_82, .inl (T.2 0, 7, .inl (fun _ => 0)))], [(r_seenAt_83, .inl (T.2 0, 16384, .inl (fun _ => 0)))], [(r_rowWorth_84, .inl (T.2 0, 512, .inl (fun _ => 0)))], [(r_farBy_85, .inl (T.2 0, 49, .inl (fun _ => 0)))], [(r_used_86, .inl (T.2 0, 7, .inl (fun _ => 0)))], [(r_fitPost_87, .inl (T.2 0, 28, .inl (fun _ => 0)))], [(r_fitEnd_88, .inl (T.2 0, 49, .inl (fun _ => 0)))], [(r_keptPosts_89, .inl (T.2 0, 7, .inl (fun _ => 0)))]] _ _ := G
        subst h_213
        refine lv_icmp_eq (tgt := 1767) hx hb dL_law_487 (by decide) (fun _ => ?_) (fun q => absurd (by decide) q)
        refine lv_iinc (v := 6) (lv' := [(3, .int 6), (2, .ref q_74), (1, .ref q_1), (0, .ref b)]) hx hb dL_law_1767 hl (k := 0) rfl (by decide) (by decide) rfl (fun ls hl => ?_)
        refine lv_goto (tgt := 18) hx hb dL_law_1770 (by decide) ?_
        refine lv_iload_n hx hb dL_law_18 rfl (lv_at hl 0 rfl) ?_
        refine lv_aload_n hx hb dL_law_19 rfl (lv_at hl 3 rfl) ?_
        refine va_slen hx hb hX hbl hbA G.2.2.2.1 dL_law_20 ?_
        refine lv_bipush (v := 6) hx hb dL_law_21 (by decide) ?_
        refine lv_isub hx hb dL_law_23 ?_
        refine lv_topi (fun y_215 ey_215 => ?_)
        obtain rfl : y_215 = 0 := ey_215.trans (by decide)
        refine lv_icmp_gt (tgt := 1773) hx hb dL_law_24 (by decide) (fun _ => ?_) (fun q => absurd (by decide) q)
        refine lv_iconst (v := 1) hx hb dL_law_1773 (by decide) ?_
        refine va_forget (fun q hq => by have h9 := G.2.2.2.1.2.2 q hq; rw [hAe] at h9; exact h9) ?_
        refine W.widen (k := 600000) (n := 7302250) (Nat.le_of_ble_eq_true rfl) (Nat.le_of_ble_eq_true rfl) ?_
        exact lw_ret hx hb hr hlocks dL_law_1774
      · refine lv_tableIn (tgt := 492) hx hb dL_law_33 (by omega) (by omega) (by rw [c_94]; rfl) (by decide) ?_
        refine lv_aload_n hx hb dL_law_492 rfl (lv_at hl 2 rfl) ?_
        refine lv_aload_n hx hb dL_law_493 rfl (lv_at hl 3 rfl) ?_
        refine lv_iload_n hx hb dL_law_494 rfl (lv_at hl 0 rfl) ?_
        refine lv_iconst (v := 1) hx hb dL_law_495 (by decide) ?_
        refine lv_iadd hx hb dL_law_496 ?_
        refine lv_topi (fun y_216 ey_216 => ?_)
        obtain rfl : y_216 = 1 := ey_216.trans (by decide)
        refine va_sld hx hb hX hbl hbA G.2.2.2.1 (vp_in_nI (n := 1) (by decide) (by decide)) dL_law_497 ?_
        refine lv_topi (fun v_217 ev_217 => ?_)
        have ev_217 : v_217 = xs 1 := ev_217
        subst ev_217
        refine lv_aload_n hx hb dL_law_498 rfl (lv_at hl 3 rfl) ?_
        refine lv_iload_n hx hb dL_law_499 rfl (lv_at hl 0 rfl) ?_
        refine lv_iconst (v := 2) hx hb dL_law_500 (by decide) ?_
        refine lv_iadd hx hb dL_law_501 ?_
        refine lv_topi (fun y_218 ey_218 => ?_)
        obtain rfl : y_218 = 2 := ey_218.trans (by decide)
        refine va_sld hx hb hX hbl hbA G.2.2.2.1 (vp_in_nI (n := 2) (by decide) (by decide)) dL_law_502 ?_
        refine lv_topi (fun v_219 ev_219 => ?_)
        have ev_219 : v_219 = xs 2 := ev_219
        subst ev_219
        refine lv_aload_n hx hb dL_law_503 rfl (lv_at hl 3 rfl) ?_
        refine lv_iload_n hx hb dL_law_504 rfl (lv_at hl 0 rfl) ?_
        refine lv_iconst (v := 3) hx hb dL_law_505 (by decide) ?_
        refine lv_iadd hx hb dL_law_506 ?_
        refine lv_topi (fun y_220 ey_220 => ?_)
        obtain rfl : y_220 = 3 := ey_220.trans (by decide)
        refine va_sld hx hb hX hbl hbA G.2.2.2.1 (vp_in_nI (n := 3) (by decide) (by decide)) dL_law_507 ?_
        refine lv_topi (fun v_221 ev_221 => ?_)
        have ev_221 : v_221 = xs 3 := ev_221
        subst ev_221
        refine z_Vi (bc := [[(q_1, .inr (10, [.ref t0_2, .ref ia_3, .ref im_4, .ref rd_5, .ref po_6, .ref co_7, .ref tr_8, .ref wa_9, .ref wb_10, .ref fi_11, .ref cd_12]))], [(t0_2, .inr (8, [.ref a1p_13, .int 0, .int 0, .int (-1), .ref a2p_14, .ref a3p_15, .ref a4p_16, .ref a5p_17]))], [(a2p_14, .inl (T.2 0, 3, .inl (fun _ => 0)))]]) (br := [[(a1p_13, .inl (T.2 1, 600, .inl f1p_18))], [(a3p_15, .inl (T.2 3, 2, .inr (.inr (.inr (.inr f3p_19)))))], [(a4p_16, .inl (T.2 4, 2, .inr (.inr (.inr (.inr f4p_20)))))], [(a5p_17, .inl (T.2 5, 2, .inr (.inr (.inr (.inr f5p_21)))))], w1p_28, w2p_29, w3p_30, w4p_31, w5p_32, w6p_33, [(ia_3, .inl (T.2 6, 3, .inr (.inr (.inr (.inr fq_34)))))], u0_38, u1_39, u2_40, [(im_4, .inl (T.2 2, 3, .inl (fun _ => 0)))], v_41, z1_42, z2_43, z3_44, w1_45, w2_46, w3_47, [(cd_12, .inl (T.2 0, 1000, .inl (fun _ => 0)))], [(q_74, .inr (11, [.ref r_all_75, .ref r_has_76, .int 0, .int 0, .int 0, .int 0, .int 0, .int 0, .int 0, .int 0, .ref r_read_77, .int 0, .int 0, .int 0, .ref r_posts_78, .ref r_shut_79, .ref r_here_80, .int 0, .int 0, .int 0, .int 0, .ref r_was_81, .ref r_came_82, .ref r_seenAt_83, .ref r_rowWorth_84, .ref r_farBy_85, .ref r_used_86, .int 0, .int 0, .int 0, .int 0, .int 0, .int 0, .int 0, .int 0, .int 0, .int 0, .int 0, .int 0, .ref r_fitPost_87, .ref r_fitEnd_88, .ref r_keptPosts_89, .int 0]))], [(r_all_75, .inl (T.2 0, 3952, .inl (upd (fun _ => 0) 6 (-1))))], [(r_has_76, .inl (T.2 2, 3, .inl (fun _ => 0)))], [(r_read_77, .inl (T.2 0, 121, .inl (fun _ => 0)))], [(r_posts_78, .inl (T.2 0, 7, .inl (fun _ => 0)))], [(r_shut_79, .inl (T.2 0, 7, .inl (fun _ => 0)))], [(r_here_80, .inl (T.2 0, 7, .inl (fun _ => 0)))], [(r_was_81, .inl (T.2 0, 7, .inl (fun _ => 0)))], [(r_came_82, .inl (T.2 0, 7, .inl (fun _ => 0)))], [(r_seenAt_83, .inl (T.2 0, 16384, .inl (fun _ => 0)))], [(r_rowWorth_84, .inl (T.2 0, 512, .inl (fun _ => 0)))], [(r_farBy_85, .inl (T.2 0, 49, .inl (fun _ => 0)))], [(r_used_86, .inl (T.2 0, 7, .inl (fun _ => 0)))], [(r_fitPost_87, .inl (T.2 0, 28, .inl (fun _ => 0)))], [(r_fitEnd_88, .inl (T.2 0, 49, .inl (fun _ => 0)))], [(r_keptPosts_89, .inl (T.2 0, 7, .inl (fun _ => 0)))]]) (As := [.int (xs 1), .int (xs 2), .int (xs 3)]) (rest := []) C G (c_x_walk l T q_1 t0_2 ia_3 im_4 rd_5 po_6 co_7 tr_8 wa_9 wb_10 fi_11 cd_12 a1p_13 a2p_14 a3p_15 a4p_16 a5p_17 (xs 1) (xs 2) (xs 3)) (kV_RL_50 C.2.2.2.2 (Nat.le_of_ble_eq_true rfl) (Nat.le_of_ble_eq_true rfl)) [0, 1, 3] [2, 4, 5, 6, 7, 8, 9, 10, 11, 12, 13, 14, 15, 16, 17, 18, 19, 20, 21, 22, 23, 24, 25, 26, 27, 28, 29, 30, 31, 32, 33, 34, 35, 36, 37, 38, 39, 40, 41] rfl rfl (ci := 10) (qc := (RX11, TX11, 11)) rfl rfl (List.mem_flatten.mpr ⟨_, List.mem_of_getElem? (i := 0) rfl, List.mem_cons_self⟩) rfl rfl hl.1 dL_law_508 (Nat.le_of_ble_eq_true rfl) (Nat.le_of_ble_eq_true rfl) (fun r_223 b1 H locs hw G => ?_)
        obtain ⟨rfl, h_222⟩ := hw
        have G : zS T A s.heap s [[(a1p_13, .inl (T.2 1, 600, .inl f1p_18))], [(a3p_15, .inl (T.2 3, 2, .inr (.inr (.inr (.inr f3p_19)))))], [(a4p_16, .inl (T.2 4, 2, .inr (.inr (.inr (.inr f4p_20)))))], [(a5p_17, .inl (T.2 5, 2, .inr (.inr (.inr (.inr f5p_21)))))], w1p_28, w2p_29, w3p_30, w4p_31, w5p_32, w6p_33, [(ia_3, .inl (T.2 6, 3, .inr (.inr (.inr (.inr fq_34)))))], u0_38, u1_39, u2_40, [(im_4, .inl (T.2 2, 3, .inl (fun _ => 0)))], v_41, z1_42, z2_43, z3_44, w1_45, w2_46, w3_47, [(cd_12, .inl (T.2 0, 1000, .inl (fun _ => 0)))], [(q_74, .inr (11, [.ref r_all_75, .ref r_has_76, .int 0, .int 0, .int 0, .int 0, .int 0, .int 0, .int 0, .int 0, .ref r_read_77, .int 0, .int 0, .int 0, .ref r_posts_78, .ref r_shut_79, .ref r_here_80, .int 0, .int 0, .int 0, .int 0, .ref r_was_81, .ref r_came_82, .ref r_seenAt_83, .ref r_rowWorth_84, .ref r_farBy_85, .ref r_used_86, .int 0, .int 0, .int 0, .int 0, .int 0, .int 0, .int 0, .int 0, .int 0, .int 0, .int 0, .int 0, .ref r_fitPost_87, .ref r_fitEnd_88, .ref r_keptPosts_89, .int 0]))], [(r_all_75, .inl (T.2 0, 3952, .inl (upd (fun _ => 0) 6 (-1))))], [(r_has_76, .inl (T.2 2, 3, .inl (fun _ => 0)))], [(r_read_77, .inl (T.2 0, 121, .inl (fun _ => 0)))], [(r_posts_78, .inl (T.2 0, 7, .inl (fun _ => 0)))], [(r_shut_79, .inl (T.2 0, 7, .inl (fun _ => 0)))], [(r_here_80, .inl (T.2 0, 7, .inl (fun _ => 0)))], [(r_was_81, .inl (T.2 0, 7, .inl (fun _ => 0)))], [(r_came_82, .inl (T.2 0, 7, .inl (fun _ => 0)))], [(r_seenAt_83, .inl (T.2 0, 16384, .inl (fun _ => 0)))], [(r_rowWorth_84, .inl (T.2 0, 512, .inl (fun _ => 0)))], [(r_farBy_85, .inl (T.2 0, 49, .inl (fun _ => 0)))], [(r_used_86, .inl (T.2 0, 7, .inl (fun _ => 0)))], [(r_fitPost_87, .inl (T.2 0, 28, .inl (fun _ => 0)))], [(r_fitEnd_88, .inl (T.2 0, 49, .inl (fun _ => 0)))], [(r_keptPosts_89, .inl (T.2 0, 7, .inl (fun _ => 0)))]] _ _ := G
        subst h_222
        refine lv_aload_n hx hb dL_law_511 rfl (lv_at hl 1 rfl) ?_
        refine lv_aload_n hx hb dL_law_512 rfl (lv_at hl 3 rfl) ?_
        refine lv_iload_n hx hb dL_law_513 rfl (lv_at hl 0 rfl) ?_
        refine lv_iconst (v := 1) hx hb dL_law_514 (by decide) ?_
        refine lv_iadd hx hb dL_law_515 ?_
        refine lv_topi (fun y_224 ey_224 => ?_)
        obtain rfl : y_224 = 1 := ey_224.trans (by decide)
        refine va_sld hx hb hX hbl hbA G.2.2.2.1 (vp_in_nI (n := 1) (by decide) (by decide)) dL_law_516 ?_
        refine lv_topi (fun v_225 ev_225 => ?_)
        have ev_225 : v_225 = xs 1 := ev_225
        subst ev_225
        refine lv_aload_n hx hb dL_law_517 rfl (lv_at hl 3 rfl) ?_
        refine lv_iload_n hx hb dL_law_518 rfl (lv_at hl 0 rfl) ?_
        refine lv_iconst (v := 2) hx hb dL_law_519 (by decide) ?_
        refine lv_iadd hx hb dL_law_520 ?_
        refine lv_topi (fun y_226 ey_226 => ?_)
        obtain rfl : y_226 = 2 := ey_226.trans (by decide)
        refine va_sld hx hb hX hbl hbA G.2.2.2.1 (vp_in_nI (n := 2) (by decide) (by decide)) dL_law_521 ?_
        refine lv_topi (fun v_227 ev_227 => ?_)
        have ev_227 : v_227 = xs 2 := ev_227
        subst ev_227
        refine lv_aload_n hx hb dL_law_522 rfl (lv_at hl 3 rfl) ?_
        refine lv_iload_n hx hb dL_law_523 rfl (lv_at hl 0 rfl) ?_
        refine lv_iconst (v := 3) hx hb dL_law_524 (by decide) ?_
        refine lv_iadd hx hb dL_law_525 ?_
        refine lv_topi (fun y_228 ey_228 => ?_)
        obtain rfl : y_228 = 3 := ey_228.trans (by decide)
        refine va_sld hx hb hX hbl hbA G.2.2.2.1 (vp_in_nI (n := 3) (by decide) (by decide)) dL_law_526 ?_
        refine lv_topi (fun v_229 ev_229 => ?_)
        have ev_229 : v_229 = xs 3 := ev_229
        subst ev_229
        refine z_Vi (bc := [[(q_74, .inr (11, [.ref r_all_75, .ref r_has_76, .int 0, .int 0, .int 0, .int 0, .int 0, .int 0, .int 0, .int 0, .ref r_read_77, .int 0, .int 0, .int 0, .ref r_posts_78, .ref r_shut_79, .ref r_here_80, .int 0, .int 0, .int 0, .int 0, .ref r_was_81, .ref r_came_82, .ref r_seenAt_83, .ref r_rowWorth_84, .ref r_farBy_85, .ref r_used_86, .int 0, .int 0, .int 0, .int 0, .int 0, .int 0, .int 0, .int 0, .int 0, .int 0, .int 0, .int 0, .ref r_fitPost_87, .ref r_fitEnd_88, .ref r_keptPosts_89, .int 0]))], [(r_all_75, .inl (T.2 0, 3952, .inl (upd (fun _ => 0) 6 (-1))))]]) (br := [[(a1p_13, .inl (T.2 1, 600, .inl f1p_18))], [(a3p_15, .inl (T.2 3, 2, .inr (.inr (.inr (.inr f3p_19)))))], [(a4p_16, .inl (T.2 4, 2, .inr (.inr (.inr (.inr f4p_20)))))], [(a5p_17, .inl (T.2 5, 2, .inr (.inr (.inr (.inr f5p_21)))))], w1p_28, w2p_29, w3p_30, w4p_31, w5p_32, w6p_33, [(ia_3, .inl (T.2 6, 3, .inr (.inr (.inr (.inr fq_34)))))], u0_38, u1_39, u2_40, [(im_4, .inl (T.2 2, 3, .inl (fun _ => 0)))], v_41, z1_42, z2_43, z3_44, w1_45, w2_46, w3_47, [(cd_12, .inl (T.2 0, 1000, .inl (fun _ => 0)))], [(r_has_76, .inl (T.2 2, 3, .inl (fun _ => 0)))], [(r_read_77, .inl (T.2 0, 121, .inl (fun _ => 0)))], [(r_posts_78, .inl (T.2 0, 7, .inl (fun _ => 0)))], [(r_shut_79, .inl (T.2 0, 7, .inl (fun _ => 0)))], [(r_here_80, .inl (T.2 0, 7, .inl (fun _ => 0)))], [(r_was_81, .inl (T.2 0, 7, .inl (fun _ => 0)))], [(r_came_82, .inl (T.2 0, 7, .inl (fun _ => 0)))], [(r_seenAt_83, .inl (T.2 0, 16384, .inl (fun _ => 0)))], [(r_rowWorth_84, .inl (T.2 0, 512, .inl (fun _ => 0)))], [(r_farBy_85, .inl (T.2 0, 49, .inl (fun _ => 0)))], [(r_used_86, .inl (T.2 0, 7, .inl (fun _ => 0)))], [(r_fitPost_87, .inl (T.2 0, 28, .inl (fun _ => 0)))], [(r_fitEnd_88, .inl (T.2 0, 49, .inl (fun _ => 0)))], [(r_keptPosts_89, .inl (T.2 0, 7, .inl (fun _ => 0)))]]) (As := [.int (xs 1), .int (xs 2), .int (xs 3)]) (rest := [.int (-2)]) C G (c_m_walk l T q_74 r_all_75 r_has_76 r_read_77 r_posts_78 r_shut_79 r_here_80 r_was_81 r_came_82 r_seenAt_83 r_rowWorth_84 r_farBy_85 r_used_86 r_fitPost_87 r_fitEnd_88 r_keptPosts_89 (xs 1) (xs 2) (xs 3)) (kV_RL_53 C.2.2.2.2 (Nat.le_of_ble_eq_true rfl) (Nat.le_of_ble_eq_true rfl)) [23, 24] [0, 1, 2, 3, 4, 5, 6, 7, 8, 9, 10, 11, 12, 13, 14, 15, 16, 17, 18, 19, 20, 21, 22, 25, 26, 27, 28, 29, 30, 31, 32, 33, 34, 35, 36, 37, 38] rfl rfl (ci := 11) (qc := (RX12, TX12, 43)) rfl rfl (List.mem_flatten.mpr ⟨_, List.mem_of_getElem? (i := 0) rfl, List.mem_cons_self⟩) rfl rfl hl.1 dL_law_527 (Nat.le_of_ble_eq_true rfl) (Nat.le_of_ble_eq_true rfl) (fun r_231 b1 H locs hw G => ?_)
        obtain ⟨rfl, h_230⟩ := hw
        have G : zS T A s.heap s [[(a1p_13, .inl (T.2 1, 600, .inl f1p_18))], [(a3p_15, .inl (T.2 3, 2, .inr (.inr (.inr (.inr f3p_19)))))], [(a4p_16, .inl (T.2 4, 2, .inr (.inr (.inr (.inr f4p_20)))))], [(a5p_17, .inl (T.2 5, 2, .inr (.inr (.inr (.inr f5p_21)))))], w1p_28, w2p_29, w3p_30, w4p_31, w5p_32, w6p_33, [(ia_3, .inl (T.2 6, 3, .inr (.inr (.inr (.inr fq_34)))))], u0_38, u1_39, u2_40, [(im_4, .inl (T.2 2, 3, .inl (fun _ => 0)))], v_41, z1_42, z2_43, z3_44, w1_45, w2_46, w3_47, [(cd_12, .inl (T.2 0, 1000, .inl (fun _ => 0)))], [(r_has_76, .inl (T.2 2, 3, .inl (fun _ => 0)))], [(r_read_77, .inl (T.2 0, 121, .inl (fun _ => 0)))], [(r_posts_78, .inl (T.2 0, 7, .inl (fun _ => 0)))], [(r_shut_79, .inl (T.2 0, 7, .inl (fun _ => 0)))], [(r_here_80, .inl (T.2 0, 7, .inl (fun _ => 0)))], [(r_was_81, .inl (T.2 0, 7, .inl (fun _ => 0)))], [(r_came_82, .inl (T.2 0, 7, .inl (fun _ => 0)))], [(r_seenAt_83, .inl (T.2 0, 16384, .inl (fun _ => 0)))], [(r_rowWorth_84, .inl (T.2 0, 512, .inl (fun _ => 0)))], [(r_farBy_85, .inl (T.2 0, 49, .inl (fun _ => 0)))], [(r_used_86, .inl (T.2 0, 7, .inl (fun _ => 0)))], [(r_fitPost_87, .inl (T.2 0, 28, .inl (fun _ => 0)))], [(r_fitEnd_88, .inl (T.2 0, 49, .inl (fun _ => 0)))], [(r_keptPosts_89, .inl (T.2 0, 7, .inl (fun _ => 0)))]] _ _ := G
        subst h_230
        refine lv_icmp_eq (tgt := 1767) hx hb dL_law_530 (by decide) (fun _ => ?_) (fun q => absurd (by decide) q)
        refine lv_iinc (v := 6) (lv' := [(3, .int 6), (2, .ref q_74), (1, .ref q_1), (0, .ref b)]) hx hb dL_law_1767 hl (k := 0) rfl (by decide) (by decide) rfl (fun ls hl => ?_)
        refine lv_goto (tgt := 18) hx hb dL_law_1770 (by decide) ?_
        refine lv_iload_n hx hb dL_law_18 rfl (lv_at hl 0 rfl) ?_
        refine lv_aload_n hx hb dL_law_19 rfl (lv_at hl 3 rfl) ?_
        refine va_slen hx hb hX hbl hbA G.2.2.2.1 dL_law_20 ?_
        refine lv_bipush (v := 6) hx hb dL_law_21 (by decide) ?_
        refine lv_isub hx hb dL_law_23 ?_
        refine lv_topi (fun y_232 ey_232 => ?_)
        obtain rfl : y_232 = 0 := ey_232.trans (by decide)
        refine lv_icmp_gt (tgt := 1773) hx hb dL_law_24 (by decide) (fun _ => ?_) (fun q => absurd (by decide) q)
        refine lv_iconst (v := 1) hx hb dL_law_1773 (by decide) ?_
        refine va_forget (fun q hq => by have h9 := G.2.2.2.1.2.2 q hq; rw [hAe] at h9; exact h9) ?_
        refine W.widen (k := 600000) (n := 7302250) (Nat.le_of_ble_eq_true rfl) (Nat.le_of_ble_eq_true rfl) ?_
        exact lw_ret hx hb hr hlocks dL_law_1774
      · refine lv_tableIn (tgt := 535) hx hb dL_law_33 (by omega) (by omega) (by rw [c_94]; rfl) (by decide) ?_
        refine lv_aload_n hx hb dL_law_535 rfl (lv_at hl 2 rfl) ?_
        refine lv_aload_n hx hb dL_law_536 rfl (lv_at hl 3 rfl) ?_
        refine lv_iload_n hx hb dL_law_537 rfl (lv_at hl 0 rfl) ?_
        refine lv_iconst (v := 1) hx hb dL_law_538 (by decide) ?_
        refine lv_iadd hx hb dL_law_539 ?_
        refine lv_topi (fun y_233 ey_233 => ?_)
        obtain rfl : y_233 = 1 := ey_233.trans (by decide)
        refine va_sld hx hb hX hbl hbA G.2.2.2.1 (vp_in_nI (n := 1) (by decide) (by decide)) dL_law_540 ?_
        refine lv_topi (fun v_234 ev_234 => ?_)
        have ev_234 : v_234 = xs 1 := ev_234
        subst ev_234
        refine lv_aload_n hx hb dL_law_541 rfl (lv_at hl 3 rfl) ?_
        refine lv_iload_n hx hb dL_law_542 rfl (lv_at hl 0 rfl) ?_
        refine lv_iconst (v := 2) hx hb dL_law_543 (by decide) ?_
        refine lv_iadd hx hb dL_law_544 ?_
        refine lv_topi (fun y_235 ey_235 => ?_)
        obtain rfl : y_235 = 2 := ey_235.trans (by decide)
        refine va_sld hx hb hX hbl hbA G.2.2.2.1 (vp_in_nI (n := 2) (by decide) (by decide)) dL_law_545 ?_
        refine lv_topi (fun v_236 ev_236 => ?_)
        have ev_236 : v_236 = xs 2 := ev_236
        subst ev_236
        refine z_Vi (bc := [[(q_1, .inr (10, [.ref t0_2, .ref ia_3, .ref im_4, .ref rd_5, .ref po_6, .ref co_7, .ref tr_8, .ref wa_9, .ref wb_10, .ref fi_11, .ref cd_12]))], [(t0_2, .inr (8, [.ref a1p_13, .int 0, .int 0, .int (-1), .ref a2p_14, .ref a3p_15, .ref a4p_16, .ref a5p_17]))], [(a2p_14, .inl (T.2 0, 3, .inl (fun _ => 0)))]]) (br := [[(a1p_13, .inl (T.2 1, 600, .inl f1p_18))], [(a3p_15, .inl (T.2 3, 2, .inr (.inr (.inr (.inr f3p_19)))))], [(a4p_16, .inl (T.2 4, 2, .inr (.inr (.inr (.inr f4p_20)))))], [(a5p_17, .inl (T.2 5, 2, .inr (.inr (.inr (.inr f5p_21)))))], w1p_28, w2p_29, w3p_30, w4p_31, w5p_32, w6p_33, [(ia_3, .inl (T.2 6, 3, .inr (.inr (.inr (.inr fq_34)))))], u0_38, u1_39, u2_40, [(im_4, .inl (T.2 2, 3, .inl (fun _ => 0)))], v_41, z1_42, z2_43, z3_44, w1_45, w2_46, w3_47, [(cd_12, .inl (T.2 0, 1000, .inl (fun _ => 0)))], [(q_74, .inr (11, [.ref r_all_75, .ref r_has_76, .int 0, .int 0, .int 0, .int 0, .int 0, .int 0, .int 0, .int 0, .ref r_read_77, .int 0, .int 0, .int 0, .ref r_posts_78, .ref r_shut_79, .ref r_here_80, .int 0, .int 0, .int 0, .int 0, .ref r_was_81, .ref r_came_82, .ref r_seenAt_83, .ref r_rowWorth_84, .ref r_farBy_85, .ref r_used_86, .int 0, .int 0, .int 0, .int 0, .int 0, .int 0, .int 0, .int 0, .int 0, .int 0, .int 0, .int 0, .ref r_fitPost_87, .ref r_fitEnd_88, .ref r_keptPosts_89, .int 0]))], [(r_all_75, .inl (T.2 0, 3952, .inl (upd (fun _ => 0) 6 (-1))))], [(r_has_76, .inl (T.2 2, 3, .inl (fun _ => 0)))], [(r_read_77, .inl (T.2 0, 121, .inl (fun _ => 0)))], [(r_posts_78, .inl (T.2 0, 7, .inl (fun _ => 0)))], [(r_shut_79, .inl (T.2 0, 7, .inl (fun _ => 0)))], [(r_here_80, .inl (T.2 0, 7, .inl (fun _ => 0)))], [(r_was_81, .inl (T.2 0, 7, .inl (fun _ => 0)))], [(r_came_82, .inl (T.2 0, 7, .inl (fun _ => 0)))], [(r_seenAt_83, .inl (T.2 0, 16384, .inl (fun _ => 0)))], [(r_rowWorth_84, .inl (T.2 0, 512, .inl (fun _ => 0)))], [(r_farBy_85, .inl (T.2 0, 49, .inl (fun _ => 0)))], [(r_used_86, .inl (T.2 0, 7, .inl (fun _ => 0)))], [(r_fitPost_87, .inl (T.2 0, 28, .inl (fun _ => 0)))], [(r_fitEnd_88, .inl (T.2 0, 49, .inl (fun _ => 0)))], [(r_keptPosts_89, .inl (T.2 0, 7, .inl (fun _ => 0)))]]) (As := [.int (xs 1), .int (xs 2)]) (rest := []) C G (c_x_endOf l T q_1 t0_2 ia_3 im_4 rd_5 po_6 co_7 tr_8 wa_9 wb_10 fi_11 cd_12 a1p_13 a2p_14 a3p_15 a4p_16 a5p_17 (xs 1) (xs 2)) (kV_RL_54 C.2.2.2.2 (Nat.le_of_ble_eq_true rfl) (Nat.le_of_ble_eq_true rfl)) [0, 1, 3] [2, 4, 5, 6, 7, 8, 9, 10, 11, 12, 13, 14, 15, 16, 17, 18, 19, 20, 21, 22, 23, 24, 25, 26, 27, 28, 29, 30, 31, 32, 33, 34, 35, 36, 37, 38, 39, 40, 41] rfl rfl (ci := 10) (qc := (RX11, TX11, 11)) rfl rfl (List.mem_flatten.mpr ⟨_, List.mem_of_getElem? (i := 0) rfl, List.mem_cons_self⟩) rfl rfl hl.1 dL_law_546 (Nat.le_of_ble_eq_true rfl) (Nat.le_of_ble_eq_true rfl) (fun r_238 b1 H locs hw G => ?_)
        obtain ⟨rfl, h_237⟩ := hw
        have G : zS T A s.heap s [[(a1p_13, .inl (T.2 1, 600, .inl f1p_18))], [(a3p_15, .inl (T.2 3, 2, .inr (.inr (.inr (.inr f3p_19)))))], [(a4p_16, .inl (T.2 4, 2, .inr (.inr (.inr (.inr f4p_20)))))], [(a5p_17, .inl (T.2 5, 2, .inr (.inr (.inr (.inr f5p_21)))))], w1p_28, w2p_29, w3p_30, w4p_31, w5p_32, w6p_33, [(ia_3, .inl (T.2 6, 3, .inr (.inr (.inr (.inr fq_34)))))], u0_38, u1_39, u2_40, [(im_4, .inl (T.2 2, 3, .inl (fun _ => 0)))], v_41, z1_42, z2_43, z3_44, w1_45, w2_46, w3_47, [(cd_12, .inl (T.2 0, 1000, .inl (fun _ => 0)))], [(q_74, .inr (11, [.ref r_all_75, .ref r_has_76, .int 0, .int 0, .int 0, .int 0, .int 0, .int 0, .int 0, .int 0, .ref r_read_77, .int 0, .int 0, .int 0, .ref r_posts_78, .ref r_shut_79, .ref r_here_80, .int 0, .int 0, .int 0, .int 0, .ref r_was_81, .ref r_came_82, .ref r_seenAt_83, .ref r_rowWorth_84, .ref r_farBy_85, .ref r_used_86, .int 0, .int 0, .int 0, .int 0, .int 0, .int 0, .int 0, .int 0, .int 0, .int 0, .int 0, .int 0, .ref r_fitPost_87, .ref r_fitEnd_88, .ref r_keptPosts_89, .int 0]))], [(r_all_75, .inl (T.2 0, 3952, .inl (upd (fun _ => 0) 6 (-1))))], [(r_has_76, .inl (T.2 2, 3, .inl (fun _ => 0)))], [(r_read_77, .inl (T.2 0, 121, .inl (fun _ => 0)))], [(r_posts_78, .inl (T.2 0, 7, .inl (fun _ => 0)))], [(r_shut_79, .inl (T.2 0, 7, .inl (fun _ => 0)))], [(r_here_80, .inl (T.2 0, 7, .inl (fun _ => 0)))], [(r_was_81, .inl (T.2 0, 7, .inl (fun _ => 0)))], [(r_came_82, .inl (T.2 0, 7, .inl (fun _ => 0)))], [(r_seenAt_83, .inl (T.2 0, 16384, .inl (fun _ => 0)))], [(r_rowWorth_84, .inl (T.2 0, 512, .inl (fun _ => 0)))], [(r_farBy_85, .inl (T.2 0, 49, .inl (fun _ => 0)))], [(r_used_86, .inl (T.2 0, 7, .inl (fun _ => 0)))], [(r_fitPost_87, .inl (T.2 0, 28, .inl (fun _ => 0)))], [(r_fitEnd_88, .inl (T.2 0, 49, .inl (fun _ => 0)))], [(r_keptPosts_89, .inl (T.2 0, 7, .inl (fun _ => 0)))]] _ _ := G
        subst h_237
        refine lv_aload_n hx hb dL_law_549 rfl (lv_at hl 1 rfl) ?_
        refine lv_aload_n hx hb dL_law_550 rfl (lv_at hl 3 rfl) ?_
        refine lv_iload_n hx hb dL_law_551 rfl (lv_at hl 0 rfl) ?_
        refine lv_iconst (v := 1) hx hb dL_law_552 (by decide) ?_
        refine lv_iadd hx hb dL_law_553 ?_
        refine lv_topi (fun y_239 ey_239 => ?_)
        obtain rfl : y_239 = 1 := ey_239.trans (by decide)
        refine va_sld hx hb hX hbl hbA G.2.2.2.1 (vp_in_nI (n := 1) (by decide) (by decide)) dL_law_554 ?_
        refine lv_topi (fun v_240 ev_240 => ?_)
        have ev_240 : v_240 = xs 1 := ev_240
        subst ev_240
        refine lv_aload_n hx hb dL_law_555 rfl (lv_at hl 3 rfl) ?_
        refine lv_iload_n hx hb dL_law_556 rfl (lv_at hl 0 rfl) ?_
        refine lv_iconst (v := 2) hx hb dL_law_557 (by decide) ?_
        refine lv_iadd hx hb dL_law_558 ?_
        refine lv_topi (fun y_241 ey_241 => ?_)
        obtain rfl : y_241 = 2 := ey_241.trans (by decide)
        refine va_sld hx hb hX hbl hbA G.2.2.2.1 (vp_in_nI (n := 2) (by decide) (by decide)) dL_law_559 ?_
        refine lv_topi (fun v_242 ev_242 => ?_)
        have ev_242 : v_242 = xs 2 := ev_242
        subst ev_242
        refine z_Vi (bc := [[(q_74, .inr (11, [.ref r_all_75, .ref r_has_76, .int 0, .int 0, .int 0, .int 0, .int 0, .int 0, .int 0, .int 0, .ref r_read_77, .int 0, .int 0, .int 0, .ref r_posts_78, .ref r_shut_79, .ref r_here_80, .int 0, .int 0, .int 0, .int 0, .ref r_was_81, .ref r_came_82, .ref r_seenAt_83, .ref r_rowWorth_84, .ref r_farBy_85, .ref r_used_86, .int 0, .int 0, .int 0, .int 0, .int 0, .int 0, .int 0, .int 0, .int 0, .int 0, .int 0, .int 0, .ref r_fitPost_87, .ref r_fitEnd_88, .ref r_keptPosts_89, .int 0]))], [(r_all_75, .inl (T.2 0, 3952, .inl (upd (fun _ => 0) 6 (-1))))]]) (br := [[(a1p_13, .inl (T.2 1, 600, .inl f1p_18))], [(a3p_15, .inl (T.2 3, 2, .inr (.inr (.inr (.inr f3p_19)))))], [(a4p_16, .inl (T.2 4, 2, .inr (.inr (.inr (.inr f4p_20)))))], [(a5p_17, .inl (T.2 5, 2, .inr (.inr (.inr (.inr f5p_21)))))], w1p_28, w2p_29, w3p_30, w4p_31, w5p_32, w6p_33, [(ia_3, .inl (T.2 6, 3, .inr (.inr (.inr (.inr fq_34)))))], u0_38, u1_39, u2_40, [(im_4, .inl (T.2 2, 3, .inl (fun _ => 0)))], v_41, z1_42, z2_43, z3_44, w1_45, w2_46, w3_47, [(cd_12, .inl (T.2 0, 1000, .inl (fun _ => 0)))], [(r_has_76, .inl (T.2 2, 3, .inl (fun _ => 0)))], [(r_read_77, .inl (T.2 0, 121, .inl (fun _ => 0)))], [(r_posts_78, .inl (T.2 0, 7, .inl (fun _ => 0)))], [(r_shut_79, .inl (T.2 0, 7, .inl (fun _ => 0)))], [(r_here_80, .inl (T.2 0, 7, .inl (fun _ => 0)))], [(r_was_81, .inl (T.2 0, 7, .inl (fun _ => 0)))], [(r_came_82, .inl (T.2 0, 7, .inl (fun _ => 0)))], [(r_seenAt_83, .inl (T.2 0, 16384, .inl (fun _ => 0)))], [(r_rowWorth_84, .inl (T.2 0, 512, .inl (fun _ => 0)))], [(r_farBy_85, .inl (T.2 0, 49, .inl (fun _ => 0)))], [(r_used_86, .inl (T.2 0, 7, .inl (fun _ => 0)))], [(r_fitPost_87, .inl (T.2 0, 28, .inl (fun _ => 0)))], [(r_fitEnd_88, .inl (T.2 0, 49, .inl (fun _ => 0)))], [(r_keptPosts_89, .inl (T.2 0, 7, .inl (fun _ => 0)))]]) (As := [.int (xs 1), .int (xs 2)]) (rest := [.int (-2)]) C G (c_m_endOf l T q_74 r_all_75 r_has_76 r_read_77 r_posts_78 r_shut_79 r_here_80 r_was_81 r_came_82 r_seenAt_83 r_rowWorth_84 r_farBy_85 r_used_86 r_fitPost_87 r_fitEnd_88 r_keptPosts_89 (xs 1) (xs 2)) (kV_RL_57 C.2.2.2.2 (Nat.le_of_ble_eq_true rfl) (Nat.le_of_ble_eq_true rfl)) [23, 24] [0, 1, 2, 3, 4, 5, 6, 7, 8, 9, 10, 11, 12, 13, 14, 15, 16, 17, 18, 19, 20, 21, 22, 25, 26, 27, 28, 29, 30, 31, 32, 33, 34, 35, 36, 37, 38] rfl rfl (ci := 11) (qc := (RX12, TX12, 43)) rfl rfl (List.mem_flatten.mpr ⟨_, List.mem_of_getElem? (i := 0) rfl, List.mem_cons_self⟩) rfl rfl hl.1 dL_law_560 (Nat.le_of_ble_eq_true rfl) (Nat.le_of_ble_eq_true rfl) (fun r_244 b1 H locs hw G => ?_)
        obtain ⟨rfl, h_243⟩ := hw
        have G : zS T A s.heap s [[(a1p_13, .inl (T.2 1, 600, .inl f1p_18))], [(a3p_15, .inl (T.2 3, 2, .inr (.inr (.inr (.inr f3p_19)))))], [(a4p_16, .inl (T.2 4, 2, .inr (.inr (.inr (.inr f4p_20)))))], [(a5p_17, .inl (T.2 5, 2, .inr (.inr (.inr (.inr f5p_21)))))], w1p_28, w2p_29, w3p_30, w4p_31, w5p_32, w6p_33, [(ia_3, .inl (T.2 6, 3, .inr (.inr (.inr (.inr fq_34)))))], u0_38, u1_39, u2_40, [(im_4, .inl (T.2 2, 3, .inl (fun _ => 0)))], v_41, z1_42, z2_43, z3_44, w1_45, w2_46, w3_47, [(cd_12, .inl (T.2 0, 1000, .inl (fun _ => 0)))], [(r_has_76, .inl (T.2 2, 3, .inl (fun _ => 0)))], [(r_read_77, .inl (T.2 0, 121, .inl (fun _ => 0)))], [(r_posts_78, .inl (T.2 0, 7, .inl (fun _ => 0)))], [(r_shut_79, .inl (T.2 0, 7, .inl (fun _ => 0)))], [(r_here_80, .inl (T.2 0, 7, .inl (fun _ => 0)))], [(r_was_81, .inl (T.2 0, 7, .inl (fun _ => 0)))], [(r_came_82, .inl (T.2 0, 7, .inl (fun _ => 0)))], [(r_seenAt_83, .inl (T.2 0, 16384, .inl (fun _ => 0)))], [(r_rowWorth_84, .inl (T.2 0, 512, .inl (fun _ => 0)))], [(r_farBy_85, .inl (T.2 0, 49, .inl (fun _ => 0)))], [(r_used_86, .inl (T.2 0, 7, .inl (fun _ => 0)))], [(r_fitPost_87, .inl (T.2 0, 28, .inl (fun _ => 0)))], [(r_fitEnd_88, .inl (T.2 0, 49, .inl (fun _ => 0)))], [(r_keptPosts_89, .inl (T.2 0, 7, .inl (fun _ => 0)))]] _ _ := G
        subst h_243
        refine lv_icmp_eq (tgt := 1767) hx hb dL_law_563 (by decide) (fun _ => ?_) (fun q => absurd (by decide) q)
        refine lv_iinc (v := 6) (lv' := [(3, .int 6), (2, .ref q_74), (1, .ref q_1), (0, .ref b)]) hx hb dL_law_1767 hl (k := 0) rfl (by decide) (by decide) rfl (fun ls hl => ?_)
        refine lv_goto (tgt := 18) hx hb dL_law_1770 (by decide) ?_
        refine lv_iload_n hx hb dL_law_18 rfl (lv_at hl 0 rfl) ?_
        refine lv_aload_n hx hb dL_law_19 rfl (lv_at hl 3 rfl) ?_
        refine va_slen hx hb hX hbl hbA G.2.2.2.1 dL_law_20 ?_
        refine lv_bipush (v := 6) hx hb dL_law_21 (by decide) ?_
        refine lv_isub hx hb dL_law_23 ?_
        refine lv_topi (fun y_245 ey_245 => ?_)
        obtain rfl : y_245 = 0 := ey_245.trans (by decide)
        refine lv_icmp_gt (tgt := 1773) hx hb dL_law_24 (by decide) (fun _ => ?_) (fun q => absurd (by decide) q)
        refine lv_iconst (v := 1) hx hb dL_law_1773 (by decide) ?_
        refine va_forget (fun q hq => by have h9 := G.2.2.2.1.2.2 q hq; rw [hAe] at h9; exact h9) ?_
        refine W.widen (k := 600000) (n := 7302250) (Nat.le_of_ble_eq_true rfl) (Nat.le_of_ble_eq_true rfl) ?_
        exact lw_ret hx hb hr hlocks dL_law_1774
      · refine lv_tableIn (tgt := 568) hx hb dL_law_33 (by omega) (by omega) (by rw [c_94]; rfl) (by decide) ?_
        refine lv_aload_n hx hb dL_law_568 rfl (lv_at hl 2 rfl) ?_
        refine lv_aload_n hx hb dL_law_569 rfl (lv_at hl 3 rfl) ?_
        refine lv_iload_n hx hb dL_law_570 rfl (lv_at hl 0 rfl) ?_
        refine lv_iconst (v := 1) hx hb dL_law_571 (by decide) ?_
        refine lv_iadd hx hb dL_law_572 ?_
        refine lv_topi (fun y_246 ey_246 => ?_)
        obtain rfl : y_246 = 1 := ey_246.trans (by decide)
        refine va_sld hx hb hX hbl hbA G.2.2.2.1 (vp_in_nI (n := 1) (by decide) (by decide)) dL_law_573 ?_
        refine lv_topi (fun v_247 ev_247 => ?_)
        have ev_247 : v_247 = xs 1 := ev_247
        subst ev_247
        refine lv_aload_n hx hb dL_law_574 rfl (lv_at hl 3 rfl) ?_
        refine lv_iload_n hx hb dL_law_575 rfl (lv_at hl 0 rfl) ?_
        refine lv_iconst (v := 2) hx hb dL_law_576 (by decide) ?_
        refine lv_iadd hx hb dL_law_577 ?_
        refine lv_topi (fun y_248 ey_248 => ?_)
        obtain rfl : y_248 = 2 := ey_248.trans (by decide)
        refine va_sld hx hb hX hbl hbA G.2.2.2.1 (vp_in_nI (n := 2) (by decide) (by decide)) dL_law_578 ?_
        refine lv_topi (fun v_249 ev_249 => ?_)
        have ev_249 : v_249 = xs 2 := ev_249
        subst ev_249
        refine lv_aload_n hx hb dL_law_579 rfl (lv_at hl 3 rfl) ?_
        refine lv_iload_n hx hb dL_law_580 rfl (lv_at hl 0 rfl) ?_
        refine lv_iconst (v := 3) hx hb dL_law_581 (by decide) ?_
        refine lv_iadd hx hb dL_law_582 ?_
        refine lv_topi (fun y_250 ey_250 => ?_)
        obtain rfl : y_250 = 3 := ey_250.trans (by decide)
        refine va_sld hx hb hX hbl hbA G.2.2.2.1 (vp_in_nI (n := 3) (by decide) (by decide)) dL_law_583 ?_
        refine lv_topi (fun v_251 ev_251 => ?_)
        have ev_251 : v_251 = xs 3 := ev_251
        subst ev_251
        refine z_Vi (bc := [[(q_1, .inr (10, [.ref t0_2, .ref ia_3, .ref im_4, .ref rd_5, .ref po_6, .ref co_7, .ref tr_8, .ref wa_9, .ref wb_10, .ref fi_11, .ref cd_12]))], [(t0_2, .inr (8, [.ref a1p_13, .int 0, .int 0, .int (-1), .ref a2p_14, .ref a3p_15, .ref a4p_16, .ref a5p_17]))], [(a2p_14, .inl (T.2 0, 3, .inl (fun _ => 0)))]]) (br := [[(a1p_13, .inl (T.2 1, 600, .inl f1p_18))], [(a3p_15, .inl (T.2 3, 2, .inr (.inr (.inr (.inr f3p_19)))))], [(a4p_16, .inl (T.2 4, 2, .inr (.inr (.inr (.inr f4p_20)))))], [(a5p_17, .inl (T.2 5, 2, .inr (.inr (.inr (.inr f5p_21)))))], w1p_28, w2p_29, w3p_30, w4p_31, w5p_32, w6p_33, [(ia_3, .inl (T.2 6, 3, .inr (.inr (.inr (.inr fq_34)))))], u0_38, u1_39, u2_40, [(im_4, .inl (T.2 2, 3, .inl (fun _ => 0)))], v_41, z1_42, z2_43, z3_44, w1_45, w2_46, w3_47, [(cd_12, .inl (T.2 0, 1000, .inl (fun _ => 0)))], [(q_74, .inr (11, [.ref r_all_75, .ref r_has_76, .int 0, .int 0, .int 0, .int 0, .int 0, .int 0, .int 0, .int 0, .ref r_read_77, .int 0, .int 0, .int 0, .ref r_posts_78, .ref r_shut_79, .ref r_here_80, .int 0, .int 0, .int 0, .int 0, .ref r_was_81, .ref r_came_82, .ref r_seenAt_83, .ref r_rowWorth_84, .ref r_farBy_85, .ref r_used_86, .int 0, .int 0, .int 0, .int 0, .int 0, .int 0, .int 0, .int 0, .int 0, .int 0, .int 0, .int 0, .ref r_fitPost_87, .ref r_fitEnd_88, .ref r_keptPosts_89, .int 0]))], [(r_all_75, .inl (T.2 0, 3952, .inl (upd (fun _ => 0) 6 (-1))))], [(r_has_76, .inl (T.2 2, 3, .inl (fun _ => 0)))], [(r_read_77, .inl (T.2 0, 121, .inl (fun _ => 0)))], [(r_posts_78, .inl (T.2 0, 7, .inl (fun _ => 0)))], [(r_shut_79, .inl (T.2 0, 7, .inl (fun _ => 0)))], [(r_here_80, .inl (T.2 0, 7, .inl (fun _ => 0)))], [(r_was_81, .inl (T.2 0, 7, .inl (fun _ => 0)))], [(r_came_82, .inl (T.2 0, 7, .inl (fun _ => 0)))], [(r_seenAt_83, .inl (T.2 0, 16384, .inl (fun _ => 0)))], [(r_rowWorth_84, .inl (T.2 0, 512, .inl (fun _ => 0)))], [(r_farBy_85, .inl (T.2 0, 49, .inl (fun _ => 0)))], [(r_used_86, .inl (T.2 0, 7, .inl (fun _ => 0)))], [(r_fitPost_87, .inl (T.2 0, 28, .inl (fun _ => 0)))], [(r_fitEnd_88, .inl (T.2 0, 49, .inl (fun _ => 0)))], [(r_keptPosts_89, .inl (T.2 0, 7, .inl (fun _ => 0)))]]) (As := [.int (xs 1), .int (xs 2), .int (xs 3)]) (rest := []) C G (c_x_come l T q_1 t0_2 ia_3 im_4 rd_5 po_6 co_7 tr_8 wa_9 wb_10 fi_11 cd_12 a1p_13 a2p_14 a3p_15 a4p_16 a5p_17 (xs 1) (xs 2) (xs 3)) (kV_RL_58 C.2.2.2.2 (Nat.le_of_ble_eq_true rfl) (Nat.le_of_ble_eq_true rfl)) [0, 1, 3] [2, 4, 5, 6, 7, 8, 9, 10, 11, 12, 13, 14, 15, 16, 17, 18, 19, 20, 21, 22, 23, 24, 25, 26, 27, 28, 29, 30, 31, 32, 33, 34, 35, 36, 37, 38, 39, 40, 41] rfl rfl (ci := 10) (qc := (RX11, TX11, 11)) rfl rfl (List.mem_flatten.mpr ⟨_, List.mem_of_getElem? (i := 0) rfl, List.mem_cons_self⟩) rfl rfl hl.1 dL_law_584 (Nat.le_of_ble_eq_true rfl) (Nat.le_of_ble_eq_true rfl) (fun r_253 b1 H locs hw G => ?_)
        obtain ⟨rfl, h_252⟩ := hw
        have G : zS T A s.heap s [[(a1p_13, .inl (T.2 1, 600, .inl f1p_18))], [(a3p_15, .inl (T.2 3, 2, .inr (.inr (.inr (.inr f3p_19)))))], [(a4p_16, .inl (T.2 4, 2, .inr (.inr (.inr (.inr f4p_20)))))], [(a5p_17, .inl (T.2 5, 2, .inr (.inr (.inr (.inr f5p_21)))))], w1p_28, w2p_29, w3p_30, w4p_31, w5p_32, w6p_33, [(ia_3, .inl (T.2 6, 3, .inr (.inr (.inr (.inr fq_34)))))], u0_38, u1_39, u2_40, [(im_4, .inl (T.2 2, 3, .inl (fun _ => 0)))], v_41, z1_42, z2_43, z3_44, w1_45, w2_46, w3_47, [(cd_12, .inl (T.2 0, 1000, .inl (fun _ => 0)))], [(q_74, .inr (11, [.ref r_all_75, .ref r_has_76, .int 0, .int 0, .int 0, .int 0, .int 0, .int 0, .int 0, .int 0, .ref r_read_77, .int 0, .int 0, .int 0, .ref r_posts_78, .ref r_shut_79, .ref r_here_80, .int 0, .int 0, .int 0, .int 0, .ref r_was_81, .ref r_came_82, .ref r_seenAt_83, .ref r_rowWorth_84, .ref r_farBy_85, .ref r_used_86, .int 0, .int 0, .int 0, .int 0, .int 0, .int 0, .int 0, .int 0, .int 0, .int 0, .int 0, .int 0, .ref r_fitPost_87, .ref r_fitEnd_88, .ref r_keptPosts_89, .int 0]))], [(r_all_75, .inl (T.2 0, 3952, .inl (upd (fun _ => 0) 6 (-1))))], [(r_has_76, .inl (T.2 2, 3, .inl (fun _ => 0)))], [(r_read_77, .inl (T.2 0, 121, .inl (fun _ => 0)))], [(r_posts_78, .inl (T.2 0, 7, .inl (fun _ => 0)))], [(r_shut_79, .inl (T.2 0, 7, .inl (fun _ => 0)))], [(r_here_80, .inl (T.2 0, 7, .inl (fun _ => 0)))], [(r_was_81, .inl (T.2 0, 7, .inl (fun _ => 0)))], [(r_came_82, .inl (T.2 0, 7, .inl (fun _ => 0)))], [(r_seenAt_83, .inl (T.2 0, 16384, .inl (fun _ => 0)))], [(r_rowWorth_84, .inl (T.2 0, 512, .inl (fun _ => 0)))], [(r_farBy_85, .inl (T.2 0, 49, .inl (fun _ => 0)))], [(r_used_86, .inl (T.2 0, 7, .inl (fun _ => 0)))], [(r_fitPost_87, .inl (T.2 0, 28, .inl (fun _ => 0)))], [(r_fitEnd_88, .inl (T.2 0, 49, .inl (fun _ => 0)))], [(r_keptPosts_89, .inl (T.2 0, 7, .inl (fun _ => 0)))]] _ _ := G
        subst h_252
        refine lv_aload_n hx hb dL_law_587 rfl (lv_at hl 1 rfl) ?_
        refine lv_aload_n hx hb dL_law_588 rfl (lv_at hl 3 rfl) ?_
        refine lv_iload_n hx hb dL_law_589 rfl (lv_at hl 0 rfl) ?_
        refine lv_iconst (v := 1) hx hb dL_law_590 (by decide) ?_
        refine lv_iadd hx hb dL_law_591 ?_
        refine lv_topi (fun y_254 ey_254 => ?_)
        obtain rfl : y_254 = 1 := ey_254.trans (by decide)
        refine va_sld hx hb hX hbl hbA G.2.2.2.1 (vp_in_nI (n := 1) (by decide) (by decide)) dL_law_592 ?_
        refine lv_topi (fun v_255 ev_255 => ?_)
        have ev_255 : v_255 = xs 1 := ev_255
        subst ev_255
        refine lv_aload_n hx hb dL_law_593 rfl (lv_at hl 3 rfl) ?_
        refine lv_iload_n hx hb dL_law_594 rfl (lv_at hl 0 rfl) ?_
        refine lv_iconst (v := 2) hx hb dL_law_595 (by decide) ?_
        refine lv_iadd hx hb dL_law_596 ?_
        refine lv_topi (fun y_256 ey_256 => ?_)
        obtain rfl : y_256 = 2 := ey_256.trans (by decide)
        refine va_sld hx hb hX hbl hbA G.2.2.2.1 (vp_in_nI (n := 2) (by decide) (by decide)) dL_law_597 ?_
        refine lv_topi (fun v_257 ev_257 => ?_)
        have ev_257 : v_257 = xs 2 := ev_257
        subst ev_257
        refine lv_aload_n hx hb dL_law_598 rfl (lv_at hl 3 rfl) ?_
        refine lv_iload_n hx hb dL_law_599 rfl (lv_at hl 0 rfl) ?_
        refine lv_iconst (v := 3) hx hb dL_law_600 (by decide) ?_
        refine lv_iadd hx hb dL_law_601 ?_
        refine lv_topi (fun y_258 ey_258 => ?_)
        obtain rfl : y_258 = 3 := ey_258.trans (by decide)
        refine va_sld hx hb hX hbl hbA G.2.2.2.1 (vp_in_nI (n := 3) (by decide) (by decide)) dL_law_602 ?_
        refine lv_topi (fun v_259 ev_259 => ?_)
        have ev_259 : v_259 = xs 3 := ev_259
        subst ev_259
        refine z_Vi (bc := [[(q_74, .inr (11, [.ref r_all_75, .ref r_has_76, .int 0, .int 0, .int 0, .int 0, .int 0, .int 0, .int 0, .int 0, .ref r_read_77, .int 0, .int 0, .int 0, .ref r_posts_78, .ref r_shut_79, .ref r_here_80, .int 0, .int 0, .int 0, .int 0, .ref r_was_81, .ref r_came_82, .ref r_seenAt_83, .ref r_rowWorth_84, .ref r_farBy_85, .ref r_used_86, .int 0, .int 0, .int 0, .int 0, .int 0, .int 0, .int 0, .int 0, .int 0, .int 0, .int 0, .int 0, .ref r_fitPost_87, .ref r_fitEnd_88, .ref r_keptPosts_89, .int 0]))], [(r_all_75, .inl (T.2 0, 3952, .inl (upd (fun _ => 0) 6 (-1))))]]) (br := [[(a1p_13, .inl (T.2 1, 600, .inl f1p_18))], [(a3p_15, .inl (T.2 3, 2, .inr (.inr (.inr (.inr f3p_19)))))], [(a4p_16, .inl (T.2 4, 2, .inr (.inr (.inr (.inr f4p_20)))))], [(a5p_17, .inl (T.2 5, 2, .inr (.inr (.inr (.inr f5p_21)))))], w1p_28, w2p_29, w3p_30, w4p_31, w5p_32, w6p_33, [(ia_3, .inl (T.2 6, 3, .inr (.inr (.inr (.inr fq_34)))))], u0_38, u1_39, u2_40, [(im_4, .inl (T.2 2, 3, .inl (fun _ => 0)))], v_41, z1_42, z2_43, z3_44, w1_45, w2_46, w3_47, [(cd_12, .inl (T.2 0, 1000, .inl (fun _ => 0)))], [(r_has_76, .inl (T.2 2, 3, .inl (fun _ => 0)))], [(r_read_77, .inl (T.2 0, 121, .inl (fun _ => 0)))], [(r_posts_78, .inl (T.2 0, 7, .inl (fun _ => 0)))], [(r_shut_79, .inl (T.2 0, 7, .inl (fun _ => 0)))], [(r_here_80, .inl (T.2 0, 7, .inl (fun _ => 0)))], [(r_was_81, .inl (T.2 0, 7, .inl (fun _ => 0)))], [(r_came_82, .inl (T.2 0, 7, .inl (fun _ => 0)))], [(r_seenAt_83, .inl (T.2 0, 16384, .inl (fun _ => 0)))], [(r_rowWorth_84, .inl (T.2 0, 512, .inl (fun _ => 0)))], [(r_farBy_85, .inl (T.2 0, 49, .inl (fun _ => 0)))], [(r_used_86, .inl (T.2 0, 7, .inl (fun _ => 0)))], [(r_fitPost_87, .inl (T.2 0, 28, .inl (fun _ => 0)))], [(r_fitEnd_88, .inl (T.2 0, 49, .inl (fun _ => 0)))], [(r_keptPosts_89, .inl (T.2 0, 7, .inl (fun _ => 0)))]]) (As := [.int (xs 1), .int (xs 2), .int (xs 3)]) (rest := [.int (-1)]) C G (c_m_come l T q_74 r_all_75 r_has_76 r_read_77 r_posts_78 r_shut_79 r_here_80 r_was_81 r_came_82 r_seenAt_83 r_rowWorth_84 r_farBy_85 r_used_86 r_fitPost_87 r_fitEnd_88 r_keptPosts_89 (xs 1) (xs 2) (xs 3)) (kV_RL_61 C.2.2.2.2 (Nat.le_of_ble_eq_true rfl) (Nat.le_of_ble_eq_true rfl)) [23, 24] [0, 1, 2, 3, 4, 5, 6, 7, 8, 9, 10, 11, 12, 13, 14, 15, 16, 17, 18, 19, 20, 21, 22, 25, 26, 27, 28, 29, 30, 31, 32, 33, 34, 35, 36, 37, 38] rfl rfl (ci := 11) (qc := (RX12, TX12, 43)) rfl rfl (List.mem_flatten.mpr ⟨_, List.mem_of_getElem? (i := 0) rfl, List.mem_cons_self⟩) rfl rfl hl.1 dL_law_603 (Nat.le_of_ble_eq_true rfl) (Nat.le_of_ble_eq_true rfl) (fun r_261 b1 H locs hw G => ?_)
        obtain ⟨rfl, h_260⟩ := hw
        have G : zS T A s.heap s [[(a1p_13, .inl (T.2 1, 600, .inl f1p_18))], [(a3p_15, .inl (T.2 3, 2, .inr (.inr (.inr (.inr f3p_19)))))], [(a4p_16, .inl (T.2 4, 2, .inr (.inr (.inr (.inr f4p_20)))))], [(a5p_17, .inl (T.2 5, 2, .inr (.inr (.inr (.inr f5p_21)))))], w1p_28, w2p_29, w3p_30, w4p_31, w5p_32, w6p_33, [(ia_3, .inl (T.2 6, 3, .inr (.inr (.inr (.inr fq_34)))))], u0_38, u1_39, u2_40, [(im_4, .inl (T.2 2, 3, .inl (fun _ => 0)))], v_41, z1_42, z2_43, z3_44, w1_45, w2_46, w3_47, [(cd_12, .inl (T.2 0, 1000, .inl (fun _ => 0)))], [(r_has_76, .inl (T.2 2, 3, .inl (fun _ => 0)))], [(r_read_77, .inl (T.2 0, 121, .inl (fun _ => 0)))], [(r_posts_78, .inl (T.2 0, 7, .inl (fun _ => 0)))], [(r_shut_79, .inl (T.2 0, 7, .inl (fun _ => 0)))], [(r_here_80, .inl (T.2 0, 7, .inl (fun _ => 0)))], [(r_was_81, .inl (T.2 0, 7, .inl (fun _ => 0)))], [(r_came_82, .inl (T.2 0, 7, .inl (fun _ => 0)))], [(r_seenAt_83, .inl (T.2 0, 16384, .inl (fun _ => 0)))], [(r_rowWorth_84, .inl (T.2 0, 512, .inl (fun _ => 0)))], [(r_farBy_85, .inl (T.2 0, 49, .inl (fun _ => 0)))], [(r_used_86, .inl (T.2 0, 7, .inl (fun _ => 0)))], [(r_fitPost_87, .inl (T.2 0, 28, .inl (fun _ => 0)))], [(r_fitEnd_88, .inl (T.2 0, 49, .inl (fun _ => 0)))], [(r_keptPosts_89, .inl (T.2 0, 7, .inl (fun _ => 0)))]] _ _ := G
        subst h_260
        refine lv_icmp_eq (tgt := 1767) hx hb dL_law_606 (by decide) (fun _ => ?_) (fun q => absurd (by decide) q)
        refine lv_iinc (v := 6) (lv' := [(3, .int 6), (2, .ref q_74), (1, .ref q_1), (0, .ref b)]) hx hb dL_law_1767 hl (k := 0) rfl (by decide) (by decide) rfl (fun ls hl => ?_)
        refine lv_goto (tgt := 18) hx hb dL_law_1770 (by decide) ?_
        refine lv_iload_n hx hb dL_law_18 rfl (lv_at hl 0 rfl) ?_
        refine lv_aload_n hx hb dL_law_19 rfl (lv_at hl 3 rfl) ?_
        refine va_slen hx hb hX hbl hbA G.2.2.2.1 dL_law_20 ?_
        refine lv_bipush (v := 6) hx hb dL_law_21 (by decide) ?_
        refine lv_isub hx hb dL_law_23 ?_
        refine lv_topi (fun y_262 ey_262 => ?_)
        obtain rfl : y_262 = 0 := ey_262.trans (by decide)
        refine lv_icmp_gt (tgt := 1773) hx hb dL_law_24 (by decide) (fun _ => ?_) (fun q => absurd (by decide) q)
        refine lv_iconst (v := 1) hx hb dL_law_1773 (by decide) ?_
        refine va_forget (fun q hq => by have h9 := G.2.2.2.1.2.2 q hq; rw [hAe] at h9; exact h9) ?_
        refine W.widen (k := 600000) (n := 7302250) (Nat.le_of_ble_eq_true rfl) (Nat.le_of_ble_eq_true rfl) ?_
        exact lw_ret hx hb hr hlocks dL_law_1774
      · refine lv_tableIn (tgt := 611) hx hb dL_law_33 (by omega) (by omega) (by rw [c_94]; rfl) (by decide) ?_
        refine lv_aload_n hx hb dL_law_611 rfl (lv_at hl 2 rfl) ?_
        refine lv_aload_n hx hb dL_law_612 rfl (lv_at hl 3 rfl) ?_
        refine lv_iload_n hx hb dL_law_613 rfl (lv_at hl 0 rfl) ?_
        refine lv_iconst (v := 1) hx hb dL_law_614 (by decide) ?_
        refine lv_iadd hx hb dL_law_615 ?_
        refine lv_topi (fun y_263 ey_263 => ?_)
        obtain rfl : y_263 = 1 := ey_263.trans (by decide)
        refine va_sld hx hb hX hbl hbA G.2.2.2.1 (vp_in_nI (n := 1) (by decide) (by decide)) dL_law_616 ?_
        refine lv_topi (fun v_264 ev_264 => ?_)
        have ev_264 : v_264 = xs 1 := ev_264
        subst ev_264
        refine lv_aload_n hx hb dL_law_617 rfl (lv_at hl 3 rfl) ?_
        refine lv_iload_n hx hb dL_law_618 rfl (lv_at hl 0 rfl) ?_
        refine lv_iconst (v := 2) hx hb dL_law_619 (by decide) ?_
        refine lv_iadd hx hb dL_law_620 ?_
        refine lv_topi (fun y_265 ey_265 => ?_)
        obtain rfl : y_265 = 2 := ey_265.trans (by decide)
        refine va_sld hx hb hX hbl hbA G.2.2.2.1 (vp_in_nI (n := 2) (by decide) (by decide)) dL_law_621 ?_
        refine lv_topi (fun v_266 ev_266 => ?_)
        have ev_266 : v_266 = xs 2 := ev_266
        subst ev_266
        refine lv_aload_n hx hb dL_law_622 rfl (lv_at hl 3 rfl) ?_
        refine lv_iload_n hx hb dL_law_623 rfl (lv_at hl 0 rfl) ?_
        refine lv_iconst (v := 3) hx hb dL_law_624 (by decide) ?_
        refine lv_iadd hx hb dL_law_625 ?_
        refine lv_topi (fun y_267 ey_267 => ?_)
        obtain rfl : y_267 = 3 := ey_267.trans (by decide)
        refine va_sld hx hb hX hbl hbA G.2.2.2.1 (vp_in_nI (n := 3) (by decide) (by decide)) dL_law_626 ?_
        refine lv_topi (fun v_268 ev_268 => ?_)
        have ev_268 : v_268 = xs 3 := ev_268
        subst ev_268
        refine lv_if_eq (tgt := 634) hx hb dL_law_627 (by decide) (fun c_269 => ?_) (fun c_269 => ?_)
        · have c_269n : (xs 3).toInt = (0 : Int) := (fa_eq _ _).mp c_269
          refine lv_iconst (v := 0) hx hb dL_law_634 (by decide) ?_
          refine z_Vi (bc := [[(q_1, .inr (10, [.ref t0_2, .ref ia_3, .ref im_4, .ref rd_5, .ref po_6, .ref co_7, .ref tr_8, .ref wa_9, .ref wb_10, .ref fi_11, .ref cd_12]))], [(t0_2, .inr (8, [.ref a1p_13, .int 0, .int 0, .int (-1), .ref a2p_14, .ref a3p_15, .ref a4p_16, .ref a5p_17]))], [(a2p_14, .inl (T.2 0, 3, .inl (fun _ => 0)))]]) (br := [[(a1p_13, .inl (T.2 1, 600, .inl f1p_18))], [(a3p_15, .inl (T.2 3, 2, .inr (.inr (.inr (.inr f3p_19)))))], [(a4p_16, .inl (T.2 4, 2, .inr (.inr (.inr (.inr f4p_20)))))], [(a5p_17, .inl (T.2 5, 2, .inr (.inr (.inr (.inr f5p_21)))))], w1p_28, w2p_29, w3p_30, w4p_31, w5p_32, w6p_33, [(ia_3, .inl (T.2 6, 3, .inr (.inr (.inr (.inr fq_34)))))], u0_38, u1_39, u2_40, [(im_4, .inl (T.2 2, 3, .inl (fun _ => 0)))], v_41, z1_42, z2_43, z3_44, w1_45, w2_46, w3_47, [(cd_12, .inl (T.2 0, 1000, .inl (fun _ => 0)))], [(q_74, .inr (11, [.ref r_all_75, .ref r_has_76, .int 0, .int 0, .int 0, .int 0, .int 0, .int 0, .int 0, .int 0, .ref r_read_77, .int 0, .int 0, .int 0, .ref r_posts_78, .ref r_shut_79, .ref r_here_80, .int 0, .int 0, .int 0, .int 0, .ref r_was_81, .ref r_came_82, .ref r_seenAt_83, .ref r_rowWorth_84, .ref r_farBy_85, .ref r_used_86, .int 0, .int 0, .int 0, .int 0, .int 0, .int 0, .int 0, .int 0, .int 0, .int 0, .int 0, .int 0, .ref r_fitPost_87, .ref r_fitEnd_88, .ref r_keptPosts_89, .int 0]))], [(r_all_75, .inl (T.2 0, 3952, .inl (upd (fun _ => 0) 6 (-1))))], [(r_has_76, .inl (T.2 2, 3, .inl (fun _ => 0)))], [(r_read_77, .inl (T.2 0, 121, .inl (fun _ => 0)))], [(r_posts_78, .inl (T.2 0, 7, .inl (fun _ => 0)))], [(r_shut_79, .inl (T.2 0, 7, .inl (fun _ => 0)))], [(r_here_80, .inl (T.2 0, 7, .inl (fun _ => 0)))], [(r_was_81, .inl (T.2 0, 7, .inl (fun _ => 0)))], [(r_came_82, .inl (T.2 0, 7, .inl (fun _ => 0)))], [(r_seenAt_83, .inl (T.2 0, 16384, .inl (fun _ => 0)))], [(r_rowWorth_84, .inl (T.2 0, 512, .inl (fun _ => 0)))], [(r_farBy_85, .inl (T.2 0, 49, .inl (fun _ => 0)))], [(r_used_86, .inl (T.2 0, 7, .inl (fun _ => 0)))], [(r_fitPost_87, .inl (T.2 0, 28, .inl (fun _ => 0)))], [(r_fitEnd_88, .inl (T.2 0, 49, .inl (fun _ => 0)))], [(r_keptPosts_89, .inl (T.2 0, 7, .inl (fun _ => 0)))]]) (As := [.int (xs 1), .int (xs 2), .int 0]) (rest := []) C G (c_x_period l T q_1 t0_2 ia_3 im_4 rd_5 po_6 co_7 tr_8 wa_9 wb_10 fi_11 cd_12 a1p_13 a2p_14 a3p_15 a4p_16 a5p_17 (xs 1) (xs 2) 0) (kV_RL_62 C.2.2.2.2 (Nat.le_of_ble_eq_true rfl) (Nat.le_of_ble_eq_true rfl)) [0, 1, 3] [2, 4, 5, 6, 7, 8, 9, 10, 11, 12, 13, 14, 15, 16, 17, 18, 19, 20, 21, 22, 23, 24, 25, 26, 27, 28, 29, 30, 31, 32, 33, 34, 35, 36, 37, 38, 39, 40, 41] rfl rfl (ci := 10) (qc := (RX11, TX11, 11)) rfl rfl (List.mem_flatten.mpr ⟨_, List.mem_of_getElem? (i := 0) rfl, List.mem_cons_self⟩) rfl rfl hl.1 dL_law_635 (Nat.le_of_ble_eq_true rfl) (Nat.le_of_ble_eq_true rfl) (fun r_271 b1 H locs hw G => ?_)
          obtain ⟨rfl, h_270⟩ := hw
          have G : zS T A s.heap s [[(a1p_13, .inl (T.2 1, 600, .inl f1p_18))], [(a3p_15, .inl (T.2 3, 2, .inr (.inr (.inr (.inr f3p_19)))))], [(a4p_16, .inl (T.2 4, 2, .inr (.inr (.inr (.inr f4p_20)))))], [(a5p_17, .inl (T.2 5, 2, .inr (.inr (.inr (.inr f5p_21)))))], w1p_28, w2p_29, w3p_30, w4p_31, w5p_32, w6p_33, [(ia_3, .inl (T.2 6, 3, .inr (.inr (.inr (.inr fq_34)))))], u0_38, u1_39, u2_40, [(im_4, .inl (T.2 2, 3, .inl (fun _ => 0)))], v_41, z1_42, z2_43, z3_44, w1_45, w2_46, w3_47, [(cd_12, .inl (T.2 0, 1000, .inl (fun _ => 0)))], [(q_74, .inr (11, [.ref r_all_75, .ref r_has_76, .int 0, .int 0, .int 0, .int 0, .int 0, .int 0, .int 0, .int 0, .ref r_read_77, .int 0, .int 0, .int 0, .ref r_posts_78, .ref r_shut_79, .ref r_here_80, .int 0, .int 0, .int 0, .int 0, .ref r_was_81, .ref r_came_82, .ref r_seenAt_83, .ref r_rowWorth_84, .ref r_farBy_85, .ref r_used_86, .int 0, .int 0, .int 0, .int 0, .int 0, .int 0, .int 0, .int 0, .int 0, .int 0, .int 0, .int 0, .ref r_fitPost_87, .ref r_fitEnd_88, .ref r_keptPosts_89, .int 0]))], [(r_all_75, .inl (T.2 0, 3952, .inl (upd (fun _ => 0) 6 (-1))))], [(r_has_76, .inl (T.2 2, 3, .inl (fun _ => 0)))], [(r_read_77, .inl (T.2 0, 121, .inl (fun _ => 0)))], [(r_posts_78, .inl (T.2 0, 7, .inl (fun _ => 0)))], [(r_shut_79, .inl (T.2 0, 7, .inl (fun _ => 0)))], [(r_here_80, .inl (T.2 0, 7, .inl (fun _ => 0)))], [(r_was_81, .inl (T.2 0, 7, .inl (fun _ => 0)))], [(r_came_82, .inl (T.2 0, 7, .inl (fun _ => 0)))], [(r_seenAt_83, .inl (T.2 0, 16384, .inl (fun _ => 0)))], [(r_rowWorth_84, .inl (T.2 0, 512, .inl (fun _ => 0)))], [(r_farBy_85, .inl (T.2 0, 49, .inl (fun _ => 0)))], [(r_used_86, .inl (T.2 0, 7, .inl (fun _ => 0)))], [(r_fitPost_87, .inl (T.2 0, 28, .inl (fun _ => 0)))], [(r_fitEnd_88, .inl (T.2 0, 49, .inl (fun _ => 0)))], [(r_keptPosts_89, .inl (T.2 0, 7, .inl (fun _ => 0)))]] _ _ := G
          subst h_270
          refine lv_aload_n hx hb dL_law_638 rfl (lv_at hl 1 rfl) ?_
          refine lv_aload_n hx hb dL_law_639 rfl (lv_at hl 3 rfl) ?_
          refine lv_iload_n hx hb dL_law_640 rfl (lv_at hl 0 rfl) ?_
          refine lv_iconst (v := 1) hx hb dL_law_641 (by decide) ?_
          refine lv_iadd hx hb dL_law_642 ?_
          refine lv_topi (fun y_272 ey_272 => ?_)
          obtain rfl : y_272 = 1 := ey_272.trans (by decide)
          refine va_sld hx hb hX hbl hbA G.2.2.2.1 (vp_in_nI (n := 1) (by decide) (by decide)) dL_law_643 ?_
          refine lv_topi (fun v_273 ev_273 => ?_)
          have ev_273 : v_273 = xs 1 := ev_273
          subst ev_273
          refine lv_aload_n hx hb dL_law_644 rfl (lv_at hl 3 rfl) ?_
          refine lv_iload_n hx hb dL_law_645 rfl (lv_at hl 0 rfl) ?_
          refine lv_iconst (v := 2) hx hb dL_law_646 (by decide) ?_
          refine lv_iadd hx hb dL_law_647 ?_
          refine lv_topi (fun y_274 ey_274 => ?_)
          obtain rfl : y_274 = 2 := ey_274.trans (by decide)
          refine va_sld hx hb hX hbl hbA G.2.2.2.1 (vp_in_nI (n := 2) (by decide) (by decide)) dL_law_648 ?_
          refine lv_topi (fun v_275 ev_275 => ?_)
          have ev_275 : v_275 = xs 2 := ev_275
          subst ev_275
          refine lv_aload_n hx hb dL_law_649 rfl (lv_at hl 3 rfl) ?_
          refine lv_iload_n hx hb dL_law_650 rfl (lv_at hl 0 rfl) ?_
          refine lv_iconst (v := 3) hx hb dL_law_651 (by decide) ?_
          refine lv_iadd hx hb dL_law_652 ?_
          refine lv_topi (fun y_276 ey_276 => ?_)
          obtain rfl : y_276 = 3 := ey_276.trans (by decide)
          refine va_sld hx hb hX hbl hbA G.2.2.2.1 (vp_in_nI (n := 3) (by decide) (by decide)) dL_law_653 ?_
          refine lv_topi (fun v_277 ev_277 => ?_)
          have ev_277 : v_277 = xs 3 := ev_277
          subst ev_277
          refine lv_if_eq (tgt := 661) hx hb dL_law_654 (by decide) (fun _ => ?_) (fun q => absurd c_269 q)
          refine lv_iconst (v := 0) hx hb dL_law_661 (by decide) ?_
          refine z_Vi (bc := [[(q_74, .inr (11, [.ref r_all_75, .ref r_has_76, .int 0, .int 0, .int 0, .int 0, .int 0, .int 0, .int 0, .int 0, .ref r_read_77, .int 0, .int 0, .int 0, .ref r_posts_78, .ref r_shut_79, .ref r_here_80, .int 0, .int 0, .int 0, .int 0, .ref r_was_81, .ref r_came_82, .ref r_seenAt_83, .ref r_rowWorth_84, .ref r_farBy_85, .ref r_used_86, .int 0, .int 0, .int 0, .int 0, .int 0, .int 0, .int 0, .int 0, .int 0, .int 0, .int 0, .int 0, .ref r_fitPost_87, .ref r_fitEnd_88, .ref r_keptPosts_89, .int 0]))], [(r_all_75, .inl (T.2 0, 3952, .inl (upd (fun _ => 0) 6 (-1))))]]) (br := [[(a1p_13, .inl (T.2 1, 600, .inl f1p_18))], [(a3p_15, .inl (T.2 3, 2, .inr (.inr (.inr (.inr f3p_19)))))], [(a4p_16, .inl (T.2 4, 2, .inr (.inr (.inr (.inr f4p_20)))))], [(a5p_17, .inl (T.2 5, 2, .inr (.inr (.inr (.inr f5p_21)))))], w1p_28, w2p_29, w3p_30, w4p_31, w5p_32, w6p_33, [(ia_3, .inl (T.2 6, 3, .inr (.inr (.inr (.inr fq_34)))))], u0_38, u1_39, u2_40, [(im_4, .inl (T.2 2, 3, .inl (fun _ => 0)))], v_41, z1_42, z2_43, z3_44, w1_45, w2_46, w3_47, [(cd_12, .inl (T.2 0, 1000, .inl (fun _ => 0)))], [(r_has_76, .inl (T.2 2, 3, .inl (fun _ => 0)))], [(r_read_77, .inl (T.2 0, 121, .inl (fun _ => 0)))], [(r_posts_78, .inl (T.2 0, 7, .inl (fun _ => 0)))], [(r_shut_79, .inl (T.2 0, 7, .inl (fun _ => 0)))], [(r_here_80, .inl (T.2 0, 7, .inl (fun _ => 0)))], [(r_was_81, .inl (T.2 0, 7, .inl (fun _ => 0)))], [(r_came_82, .inl (T.2 0, 7, .inl (fun _ => 0)))], [(r_seenAt_83, .inl (T.2 0, 16384, .inl (fun _ => 0)))], [(r_rowWorth_84, .inl (T.2 0, 512, .inl (fun _ => 0)))], [(r_farBy_85, .inl (T.2 0, 49, .inl (fun _ => 0)))], [(r_used_86, .inl (T.2 0, 7, .inl (fun _ => 0)))], [(r_fitPost_87, .inl (T.2 0, 28, .inl (fun _ => 0)))], [(r_fitEnd_88, .inl (T.2 0, 49, .inl (fun _ => 0)))], [(r_keptPosts_89, .inl (T.2 0, 7, .inl (fun _ => 0)))]]) (As := [.int (xs 1), .int (xs 2), .int 0]) (rest := [.int (-1)]) C G (c_m_period l T q_74 r_all_75 r_has_76 r_read_77 r_posts_78 r_shut_79 r_here_80 r_was_81 r_came_82 r_seenAt_83 r_rowWorth_84 r_farBy_85 r_used_86 r_fitPost_87 r_fitEnd_88 r_keptPosts_89 (xs 1) (xs 2) 0) (kV_RL_66 C.2.2.2.2 (Nat.le_of_ble_eq_true rfl) (Nat.le_of_ble_eq_true rfl)) [23, 24] [0, 1, 2, 3, 4, 5, 6, 7, 8, 9, 10, 11, 12, 13, 14, 15, 16, 17, 18, 19, 20, 21, 22, 25, 26, 27, 28, 29, 30, 31, 32, 33, 34, 35, 36, 37, 38] rfl rfl (ci := 11) (qc := (RX12, TX12, 43)) rfl rfl (List.mem_flatten.mpr ⟨_, List.mem_of_getElem? (i := 0) rfl, List.mem_cons_self⟩) rfl rfl hl.1 dL_law_662 (Nat.le_of_ble_eq_true rfl) (Nat.le_of_ble_eq_true rfl) (fun r_279 b1 H locs hw G => ?_)
          obtain ⟨rfl, h_278⟩ := hw
          have G : zS T A s.heap s [[(a1p_13, .inl (T.2 1, 600, .inl f1p_18))], [(a3p_15, .inl (T.2 3, 2, .inr (.inr (.inr (.inr f3p_19)))))], [(a4p_16, .inl (T.2 4, 2, .inr (.inr (.inr (.inr f4p_20)))))], [(a5p_17, .inl (T.2 5, 2, .inr (.inr (.inr (.inr f5p_21)))))], w1p_28, w2p_29, w3p_30, w4p_31, w5p_32, w6p_33, [(ia_3, .inl (T.2 6, 3, .inr (.inr (.inr (.inr fq_34)))))], u0_38, u1_39, u2_40, [(im_4, .inl (T.2 2, 3, .inl (fun _ => 0)))], v_41, z1_42, z2_43, z3_44, w1_45, w2_46, w3_47, [(cd_12, .inl (T.2 0, 1000, .inl (fun _ => 0)))], [(r_has_76, .inl (T.2 2, 3, .inl (fun _ => 0)))], [(r_read_77, .inl (T.2 0, 121, .inl (fun _ => 0)))], [(r_posts_78, .inl (T.2 0, 7, .inl (fun _ => 0)))], [(r_shut_79, .inl (T.2 0, 7, .inl (fun _ => 0)))], [(r_here_80, .inl (T.2 0, 7, .inl (fun _ => 0)))], [(r_was_81, .inl (T.2 0, 7, .inl (fun _ => 0)))], [(r_came_82, .inl (T.2 0, 7, .inl (fun _ => 0)))], [(r_seenAt_83, .inl (T.2 0, 16384, .inl (fun _ => 0)))], [(r_rowWorth_84, .inl (T.2 0, 512, .inl (fun _ => 0)))], [(r_farBy_85, .inl (T.2 0, 49, .inl (fun _ => 0)))], [(r_used_86, .inl (T.2 0, 7, .inl (fun _ => 0)))], [(r_fitPost_87, .inl (T.2 0, 28, .inl (fun _ => 0)))], [(r_fitEnd_88, .inl (T.2 0, 49, .inl (fun _ => 0)))], [(r_keptPosts_89, .inl (T.2 0, 7, .inl (fun _ => 0)))]] _ _ := G
          subst h_278
          refine lv_icmp_eq (tgt := 1767) hx hb dL_law_665 (by decide) (fun _ => ?_) (fun q => absurd (by decide) q)
          refine lv_iinc (v := 6) (lv' := [(3, .int 6), (2, .ref q_74), (1, .ref q_1), (0, .ref b)]) hx hb dL_law_1767 hl (k := 0) rfl (by decide) (by decide) rfl (fun ls hl => ?_)
          refine lv_goto (tgt := 18) hx hb dL_law_1770 (by decide) ?_
          refine lv_iload_n hx hb dL_law_18 rfl (lv_at hl 0 rfl) ?_
          refine lv_aload_n hx hb dL_law_19 rfl (lv_at hl 3 rfl) ?_
          refine va_slen hx hb hX hbl hbA G.2.2.2.1 dL_law_20 ?_
          refine lv_bipush (v := 6) hx hb dL_law_21 (by decide) ?_
          refine lv_isub hx hb dL_law_23 ?_
          refine lv_topi (fun y_280 ey_280 => ?_)
          obtain rfl : y_280 = 0 := ey_280.trans (by decide)
          refine lv_icmp_gt (tgt := 1773) hx hb dL_law_24 (by decide) (fun _ => ?_) (fun q => absurd (by decide) q)
          refine lv_iconst (v := 1) hx hb dL_law_1773 (by decide) ?_
          refine va_forget (fun q hq => by have h9 := G.2.2.2.1.2.2 q hq; rw [hAe] at h9; exact h9) ?_
          refine W.widen (k := 600000) (n := 7302250) (Nat.le_of_ble_eq_true rfl) (Nat.le_of_ble_eq_true rfl) ?_
          exact lw_ret hx hb hr hlocks dL_law_1774
        · have c_269n : ¬ (xs 3).toInt = (0 : Int) := fun q => c_269 ((fa_eq _ _).mpr q)
          refine lv_iconst (v := 1) hx hb dL_law_630 (by decide) ?_
          refine lv_goto (tgt := 635) hx hb dL_law_631 (by decide) ?_
          refine z_Vi (bc := [[(q_1, .inr (10, [.ref t0_2, .ref ia_3, .ref im_4, .ref rd_5, .ref po_6, .ref co_7, .ref tr_8, .ref wa_9, .ref wb_10, .ref fi_11, .ref cd_12]))], [(t0_2, .inr (8, [.ref a1p_13, .int 0, .int 0, .int (-1), .ref a2p_14, .ref a3p_15, .ref a4p_16, .ref a5p_17]))], [(a2p_14, .inl (T.2 0, 3, .inl (fun _ => 0)))]]) (br := [[(a1p_13, .inl (T.2 1, 600, .inl f1p_18))], [(a3p_15, .inl (T.2 3, 2, .inr (.inr (.inr (.inr f3p_19)))))], [(a4p_16, .inl (T.2 4, 2, .inr (.inr (.inr (.inr f4p_20)))))], [(a5p_17, .inl (T.2 5, 2, .inr (.inr (.inr (.inr f5p_21)))))], w1p_28, w2p_29, w3p_30, w4p_31, w5p_32, w6p_33, [(ia_3, .inl (T.2 6, 3, .inr (.inr (.inr (.inr fq_34)))))], u0_38, u1_39, u2_40, [(im_4, .inl (T.2 2, 3, .inl (fun _ => 0)))], v_41, z1_42, z2_43, z3_44, w1_45, w2_46, w3_47, [(cd_12, .inl (T.2 0, 1000, .inl (fun _ => 0)))], [(q_74, .inr (11, [.ref r_all_75, .ref r_has_76, .int 0, .int 0, .int 0, .int 0, .int 0, .int 0, .int 0, .int 0, .ref r_read_77, .int 0, .int 0, .int 0, .ref r_posts_78, .ref r_shut_79, .ref r_here_80, .int 0, .int 0, .int 0, .int 0, .ref r_was_81, .ref r_came_82, .ref r_seenAt_83, .ref r_rowWorth_84, .ref r_farBy_85, .ref r_used_86, .int 0, .int 0, .int 0, .int 0, .int 0, .int 0, .int 0, .int 0, .int 0, .int 0, .int 0, .int 0, .ref r_fitPost_87, .ref r_fitEnd_88, .ref r_keptPosts_89, .int 0]))], [(r_all_75, .inl (T.2 0, 3952, .inl (upd (fun _ => 0) 6 (-1))))], [(r_has_76, .inl (T.2 2, 3, .inl (fun _ => 0)))], [(r_read_77, .inl (T.2 0, 121, .inl (fun _ => 0)))], [(r_posts_78, .inl (T.2 0, 7, .inl (fun _ => 0)))], [(r_shut_79, .inl (T.2 0, 7, .inl (fun _ => 0)))], [(r_here_80, .inl (T.2 0, 7, .inl (fun _ => 0)))], [(r_was_81, .inl (T.2 0, 7, .inl (fun _ => 0)))], [(r_came_82, .inl (T.2 0, 7, .inl (fun _ => 0)))], [(r_seenAt_83, .inl (T.2 0, 16384, .inl (fun _ => 0)))], [(r_rowWorth_84, .inl (T.2 0, 512, .inl (fun _ => 0)))], [(r_farBy_85, .inl (T.2 0, 49, .inl (fun _ => 0)))], [(r_used_86, .inl (T.2 0, 7, .inl (fun _ => 0)))], [(r_fitPost_87, .inl (T.2 0, 28, .inl (fun _ => 0)))], [(r_fitEnd_88, .inl (T.2 0, 49, .inl (fun _ => 0)))], [(r_keptPosts_89, .inl (T.2 0, 7, .inl (fun _ => 0)))]]) (As := [.int (xs 1), .int (xs 2), .int 1]) (rest := []) C G (c_x_period l T q_1 t0_2 ia_3 im_4 rd_5 po_6 co_7 tr_8 wa_9 wb_10 fi_11 cd_12 a1p_13 a2p_14 a3p_15 a4p_16 a5p_17 (xs 1) (xs 2) 1) (kV_RL_62 C.2.2.2.2 (Nat.le_of_ble_eq_true rfl) (Nat.le_of_ble_eq_true rfl)) [0, 1, 3] [2, 4, 5, 6, 7, 8, 9, 10, 11, 12, 13, 14, 15, 16, 17, 18, 19, 20, 21, 22, 23, 24, 25, 26, 27, 28, 29, 30, 31, 32, 33, 34, 35, 36, 37, 38, 39, 40, 41] rfl rfl (ci := 10) (qc := (RX11, TX11, 11)) rfl rfl (List.mem_flatten.mpr ⟨_, List.mem_of_getElem? (i := 0) rfl, List.mem_cons_self⟩) rfl rfl hl.1 dL_law_635 (Nat.le_of_ble_eq_true rfl) (Nat.le_of_ble_eq_true rfl) (fun r_282 b1 H locs hw G => ?_)
          obtain ⟨rfl, h_281⟩ := hw
          have G : zS T A s.heap s [[(a1p_13, .inl (T.2 1, 600, .inl f1p_18))], [(a3p_15, .inl (T.2 3, 2, .inr (.inr (.inr (.inr f3p_19)))))], [(a4p_16, .inl (T.2 4, 2, .inr (.inr (.inr (.inr f4p_20)))))], [(a5p_17, .inl (T.2 5, 2, .inr (.inr (.inr (.inr f5p_21)))))], w1p_28, w2p_29, w3p_30, w4p_31, w5p_32, w6p_33, [(ia_3, .inl (T.2 6, 3, .inr (.inr (.inr (.inr fq_34)))))], u0_38, u1_39, u2_40, [(im_4, .inl (T.2 2, 3, .inl (fun _ => 0)))], v_41, z1_42, z2_43, z3_44, w1_45, w2_46, w3_47, [(cd_12, .inl (T.2 0, 1000, .inl (fun _ => 0)))], [(q_74, .inr (11, [.ref r_all_75, .ref r_has_76, .int 0, .int 0, .int 0, .int 0, .int 0, .int 0, .int 0, .int 0, .ref r_read_77, .int 0, .int 0, .int 0, .ref r_posts_78, .ref r_shut_79, .ref r_here_80, .int 0, .int 0, .int 0, .int 0, .ref r_was_81, .ref r_came_82, .ref r_seenAt_83, .ref r_rowWorth_84, .ref r_farBy_85, .ref r_used_86, .int 0, .int 0, .int 0, .int 0, .int 0, .int 0, .int 0, .int 0, .int 0, .int 0, .int 0, .int 0, .ref r_fitPost_87, .ref r_fitEnd_88, .ref r_keptPosts_89, .int 0]))], [(r_all_75, .inl (T.2 0, 3952, .inl (upd (fun _ => 0) 6 (-1))))], [(r_has_76, .inl (T.2 2, 3, .inl (fun _ => 0)))], [(r_read_77, .inl (T.2 0, 121, .inl (fun _ => 0)))], [(r_posts_78, .inl (T.2 0, 7, .inl (fun _ => 0)))], [(r_shut_79, .inl (T.2 0, 7, .inl (fun _ => 0)))], [(r_here_80, .inl (T.2 0, 7, .inl (fun _ => 0)))], [(r_was_81, .inl (T.2 0, 7, .inl (fun _ => 0)))], [(r_came_82, .inl (T.2 0, 7, .inl (fun _ => 0)))], [(r_seenAt_83, .inl (T.2 0, 16384, .inl (fun _ => 0)))], [(r_rowWorth_84, .inl (T.2 0, 512, .inl (fun _ => 0)))], [(r_farBy_85, .inl (T.2 0, 49, .inl (fun _ => 0)))], [(r_used_86, .inl (T.2 0, 7, .inl (fun _ => 0)))], [(r_fitPost_87, .inl (T.2 0, 28, .inl (fun _ => 0)))], [(r_fitEnd_88, .inl (T.2 0, 49, .inl (fun _ => 0)))], [(r_keptPosts_89, .inl (T.2 0, 7, .inl (fun _ => 0)))]] _ _ := G
          subst h_281
          refine lv_aload_n hx hb dL_law_638 rfl (lv_at hl 1 rfl) ?_
          refine lv_aload_n hx hb dL_law_639 rfl (lv_at hl 3 rfl) ?_
          refine lv_iload_n hx hb dL_law_640 rfl (lv_at hl 0 rfl) ?_
          refine lv_iconst (v := 1) hx hb dL_law_641 (by decide) ?_
          refine lv_iadd hx hb dL_law_642 ?_
          refine lv_topi (fun y_283 ey_283 => ?_)
          obtain rfl : y_283 = 1 := ey_283.trans (by decide)
          refine va_sld hx hb hX hbl hbA G.2.2.2.1 (vp_in_nI (n := 1) (by decide) (by decide)) dL_law_643 ?_
          refine lv_topi (fun v_284 ev_284 => ?_)
          have ev_284 : v_284 = xs 1 := ev_284
          subst ev_284
          refine lv_aload_n hx hb dL_law_644 rfl (lv_at hl 3 rfl) ?_
          refine lv_iload_n hx hb dL_law_645 rfl (lv_at hl 0 rfl) ?_
          refine lv_iconst (v := 2) hx hb dL_law_646 (by decide) ?_
          refine lv_iadd hx hb dL_law_647 ?_
          refine lv_topi (fun y_285 ey_285 => ?_)
          obtain rfl : y_285 = 2 := ey_285.trans (by decide)
          refine va_sld hx hb hX hbl hbA G.2.2.2.1 (vp_in_nI (n := 2) (by decide) (by decide)) dL_law_648 ?_
          refine lv_topi (fun v_286 ev_286 => ?_)
          have ev_286 : v_286 = xs 2 := ev_286
          subst ev_286
          refine lv_aload_n hx hb dL_law_649 rfl (lv_at hl 3 rfl) ?_
          refine lv_iload_n hx hb dL_law_650 rfl (lv_at hl 0 rfl) ?_
          refine lv_iconst (v := 3) hx hb dL_law_651 (by decide) ?_
          refine lv_iadd hx hb dL_law_652 ?_
          refine lv_topi (fun y_287 ey_287 => ?_)
          obtain rfl : y_287 = 3 := ey_287.trans (by decide)
          refine va_sld hx hb hX hbl hbA G.2.2.2.1 (vp_in_nI (n := 3) (by decide) (by decide)) dL_law_653 ?_
          refine lv_topi (fun v_288 ev_288 => ?_)
          have ev_288 : v_288 = xs 3 := ev_288
          subst ev_288
          refine lv_if_eq (tgt := 661) hx hb dL_law_654 (by decide) (fun q => absurd q c_269) (fun _ => ?_)
          refine lv_iconst (v := 1) hx hb dL_law_657 (by decide) ?_
          refine lv_goto (tgt := 662) hx hb dL_law_658 (by decide) ?_
          refine z_Vi (bc := [[(q_74, .inr (11, [.ref r_all_75, .ref r_has_76, .int 0, .int 0, .int 0, .int 0, .int 0, .int 0, .int 0, .int 0, .ref r_read_77, .int 0, .int 0, .int 0, .ref r_posts_78, .ref r_shut_79, .ref r_here_80, .int 0, .int 0, .int 0, .int 0, .ref r_was_81, .ref r_came_82, .ref r_seenAt_83, .ref r_rowWorth_84, .ref r_farBy_85, .ref r_used_86, .int 0, .int 0, .int 0, .int 0, .int 0, .int 0, .int 0, .int 0, .int 0, .int 0, .int 0, .int 0, .ref r_fitPost_87, .ref r_fitEnd_88, .ref r_keptPosts_89, .int 0]))], [(r_all_75, .inl (T.2 0, 3952, .inl (upd (fun _ => 0) 6 (-1))))]]) (br := [[(a1p_13, .inl (T.2 1, 600, .inl f1p_18))], [(a3p_15, .inl (T.2 3, 2, .inr (.inr (.inr (.inr f3p_19)))))], [(a4p_16, .inl (T.2 4, 2, .inr (.inr (.inr (.inr f4p_20)))))], [(a5p_17, .inl (T.2 5, 2, .inr (.inr (.inr (.inr f5p_21)))))], w1p_28, w2p_29, w3p_30, w4p_31, w5p_32, w6p_33, [(ia_3, .inl (T.2 6, 3, .inr (.inr (.inr (.inr fq_34)))))], u0_38, u1_39, u2_40, [(im_4, .inl (T.2 2, 3, .inl (fun _ => 0)))], v_41, z1_42, z2_43, z3_44, w1_45, w2_46, w3_47, [(cd_12, .inl (T.2 0, 1000, .inl (fun _ => 0)))], [(r_has_76, .inl (T.2 2, 3, .inl (fun _ => 0)))], [(r_read_77, .inl (T.2 0, 121, .inl (fun _ => 0)))], [(r_posts_78, .inl (T.2 0, 7, .inl (fun _ => 0)))], [(r_shut_79, .inl (T.2 0, 7, .inl (fun _ => 0)))], [(r_here_80, .inl (T.2 0, 7, .inl (fun _ => 0)))], [(r_was_81, .inl (T.2 0, 7, .inl (fun _ => 0)))], [(r_came_82, .inl (T.2 0, 7, .inl (fun _ => 0)))], [(r_seenAt_83, .inl (T.2 0, 16384, .inl (fun _ => 0)))], [(r_rowWorth_84, .inl (T.2 0, 512, .inl (fun _ => 0)))], [(r_farBy_85, .inl (T.2 0, 49, .inl (fun _ => 0)))], [(r_used_86, .inl (T.2 0, 7, .inl (fun _ => 0)))], [(r_fitPost_87, .inl (T.2 0, 28, .inl (fun _ => 0)))], [(r_fitEnd_88, .inl (T.2 0, 49, .inl (fun _ => 0)))], [(r_keptPosts_89, .inl (T.2 0, 7, .inl (fun _ => 0)))]]) (As := [.int (xs 1), .int (xs 2), .int 1]) (rest := [.int (-1)]) C G (c_m_period l T q_74 r_all_75 r_has_76 r_read_77 r_posts_78 r_shut_79 r_here_80 r_was_81 r_came_82 r_seenAt_83 r_rowWorth_84 r_farBy_85 r_used_86 r_fitPost_87 r_fitEnd_88 r_keptPosts_89 (xs 1) (xs 2) 1) (kV_RL_66 C.2.2.2.2 (Nat.le_of_ble_eq_true rfl) (Nat.le_of_ble_eq_true rfl)) [23, 24] [0, 1, 2, 3, 4, 5, 6, 7, 8, 9, 10, 11, 12, 13, 14, 15, 16, 17, 18, 19, 20, 21, 22, 25, 26, 27, 28, 29, 30, 31, 32, 33, 34, 35, 36, 37, 38] rfl rfl (ci := 11) (qc := (RX12, TX12, 43)) rfl rfl (List.mem_flatten.mpr ⟨_, List.mem_of_getElem? (i := 0) rfl, List.mem_cons_self⟩) rfl rfl hl.1 dL_law_662 (Nat.le_of_ble_eq_true rfl) (Nat.le_of_ble_eq_true rfl) (fun r_290 b1 H locs hw G => ?_)
          obtain ⟨rfl, h_289⟩ := hw
          have G : zS T A s.heap s [[(a1p_13, .inl (T.2 1, 600, .inl f1p_18))], [(a3p_15, .inl (T.2 3, 2, .inr (.inr (.inr (.inr f3p_19)))))], [(a4p_16, .inl (T.2 4, 2, .inr (.inr (.inr (.inr f4p_20)))))], [(a5p_17, .inl (T.2 5, 2, .inr (.inr (.inr (.inr f5p_21)))))], w1p_28, w2p_29, w3p_30, w4p_31, w5p_32, w6p_33, [(ia_3, .inl (T.2 6, 3, .inr (.inr (.inr (.inr fq_34)))))], u0_38, u1_39, u2_40, [(im_4, .inl (T.2 2, 3, .inl (fun _ => 0)))], v_41, z1_42, z2_43, z3_44, w1_45, w2_46, w3_47, [(cd_12, .inl (T.2 0, 1000, .inl (fun _ => 0)))], [(r_has_76, .inl (T.2 2, 3, .inl (fun _ => 0)))], [(r_read_77, .inl (T.2 0, 121, .inl (fun _ => 0)))], [(r_posts_78, .inl (T.2 0, 7, .inl (fun _ => 0)))], [(r_shut_79, .inl (T.2 0, 7, .inl (fun _ => 0)))], [(r_here_80, .inl (T.2 0, 7, .inl (fun _ => 0)))], [(r_was_81, .inl (T.2 0, 7, .inl (fun _ => 0)))], [(r_came_82, .inl (T.2 0, 7, .inl (fun _ => 0)))], [(r_seenAt_83, .inl (T.2 0, 16384, .inl (fun _ => 0)))], [(r_rowWorth_84, .inl (T.2 0, 512, .inl (fun _ => 0)))], [(r_farBy_85, .inl (T.2 0, 49, .inl (fun _ => 0)))], [(r_used_86, .inl (T.2 0, 7, .inl (fun _ => 0)))], [(r_fitPost_87, .inl (T.2 0, 28, .inl (fun _ => 0)))], [(r_fitEnd_88, .inl (T.2 0, 49, .inl (fun _ => 0)))], [(r_keptPosts_89, .inl (T.2 0, 7, .inl (fun _ => 0)))]] _ _ := G
          subst h_289
          refine lv_icmp_eq (tgt := 1767) hx hb dL_law_665 (by decide) (fun _ => ?_) (fun q => absurd (by decide) q)
          refine lv_iinc (v := 6) (lv' := [(3, .int 6), (2, .ref q_74), (1, .ref q_1), (0, .ref b)]) hx hb dL_law_1767 hl (k := 0) rfl (by decide) (by decide) rfl (fun ls hl => ?_)
          refine lv_goto (tgt := 18) hx hb dL_law_1770 (by decide) ?_
          refine lv_iload_n hx hb dL_law_18 rfl (lv_at hl 0 rfl) ?_
          refine lv_aload_n hx hb dL_law_19 rfl (lv_at hl 3 rfl) ?_
          refine va_slen hx hb hX hbl hbA G.2.2.2.1 dL_law_20 ?_
          refine lv_bipush (v := 6) hx hb dL_law_21 (by decide) ?_
          refine lv_isub hx hb dL_law_23 ?_
          refine lv_topi (fun y_291 ey_291 => ?_)
          obtain rfl : y_291 = 0 := ey_291.trans (by decide)
          refine lv_icmp_gt (tgt := 1773) hx hb dL_law_24 (by decide) (fun _ => ?_) (fun q => absurd (by decide) q)
          refine lv_iconst (v := 1) hx hb dL_law_1773 (by decide) ?_
          refine va_forget (fun q hq => by have h9 := G.2.2.2.1.2.2 q hq; rw [hAe] at h9; exact h9) ?_
          refine W.widen (k := 600000) (n := 7302250) (Nat.le_of_ble_eq_true rfl) (Nat.le_of_ble_eq_true rfl) ?_
          exact lw_ret hx hb hr hlocks dL_law_1774
      · refine lv_tableIn (tgt := 670) hx hb dL_law_33 (by omega) (by omega) (by rw [c_94]; rfl) (by decide) ?_
        refine lv_aload_n hx hb dL_law_670 rfl (lv_at hl 2 rfl) ?_
        refine lv_aload_n hx hb dL_law_671 rfl (lv_at hl 3 rfl) ?_
        refine lv_iload_n hx hb dL_law_672 rfl (lv_at hl 0 rfl) ?_
        refine lv_iconst (v := 1) hx hb dL_law_673 (by decide) ?_
        refine lv_iadd hx hb dL_law_674 ?_
        refine lv_topi (fun y_292 ey_292 => ?_)
        obtain rfl : y_292 = 1 := ey_292.trans (by decide)
        refine va_sld hx hb hX hbl hbA G.2.2.2.1 (vp_in_nI (n := 1) (by decide) (by decide)) dL_law_675 ?_
        refine lv_topi (fun v_293 ev_293 => ?_)
        have ev_293 : v_293 = xs 1 := ev_293
        subst ev_293
        refine lv_aload_n hx hb dL_law_676 rfl (lv_at hl 3 rfl) ?_
        refine lv_iload_n hx hb dL_law_677 rfl (lv_at hl 0 rfl) ?_
        refine lv_iconst (v := 2) hx hb dL_law_678 (by decide) ?_
        refine lv_iadd hx hb dL_law_679 ?_
        refine lv_topi (fun y_294 ey_294 => ?_)
        obtain rfl : y_294 = 2 := ey_294.trans (by decide)
        refine va_sld hx hb hX hbl hbA G.2.2.2.1 (vp_in_nI (n := 2) (by decide) (by decide)) dL_law_680 ?_
        refine lv_topi (fun v_295 ev_295 => ?_)
        have ev_295 : v_295 = xs 2 := ev_295
        subst ev_295
        refine lv_aload_n hx hb dL_law_681 rfl (lv_at hl 3 rfl) ?_
        refine lv_iload_n hx hb dL_law_682 rfl (lv_at hl 0 rfl) ?_
        refine lv_iconst (v := 3) hx hb dL_law_683 (by decide) ?_
        refine lv_iadd hx hb dL_law_684 ?_
        refine lv_topi (fun y_296 ey_296 => ?_)
        obtain rfl : y_296 = 3 := ey_296.trans (by decide)
        refine va_sld hx hb hX hbl hbA G.2.2.2.1 (vp_in_nI (n := 3) (by decide) (by decide)) dL_law_685 ?_
        refine lv_topi (fun v_297 ev_297 => ?_)
        have ev_297 : v_297 = xs 3 := ev_297
        subst ev_297
        refine lv_aload_n hx hb dL_law_686 rfl (lv_at hl 3 rfl) ?_
        refine lv_iload_n hx hb dL_law_687 rfl (lv_at hl 0 rfl) ?_
        refine lv_iconst (v := 4) hx hb dL_law_688 (by decide) ?_
        refine lv_iadd hx hb dL_law_689 ?_
        refine lv_topi (fun y_298 ey_298 => ?_)
        obtain rfl : y_298 = 4 := ey_298.trans (by decide)
        refine va_sld hx hb hX hbl hbA G.2.2.2.1 (vp_in_nI (n := 4) (by decide) (by decide)) dL_law_690 ?_
        refine lv_topi (fun v_299 ev_299 => ?_)
        have ev_299 : v_299 = xs 4 := ev_299
        subst ev_299
        refine z_Vi (bc := [[(q_1, .inr (10, [.ref t0_2, .ref ia_3, .ref im_4, .ref rd_5, .ref po_6, .ref co_7, .ref tr_8, .ref wa_9, .ref wb_10, .ref fi_11, .ref cd_12]))], [(t0_2, .inr (8, [.ref a1p_13, .int 0, .int 0, .int (-1), .ref a2p_14, .ref a3p_15, .ref a4p_16, .ref a5p_17]))], [(a2p_14, .inl (T.2 0, 3, .inl (fun _ => 0)))]]) (br := [[(a1p_13, .inl (T.2 1, 600, .inl f1p_18))], [(a3p_15, .inl (T.2 3, 2, .inr (.inr (.inr (.inr f3p_19)))))], [(a4p_16, .inl (T.2 4, 2, .inr (.inr (.inr (.inr f4p_20)))))], [(a5p_17, .inl (T.2 5, 2, .inr (.inr (.inr (.inr f5p_21)))))], w1p_28, w2p_29, w3p_30, w4p_31, w5p_32, w6p_33, [(ia_3, .inl (T.2 6, 3, .inr (.inr (.inr (.inr fq_34)))))], u0_38, u1_39, u2_40, [(im_4, .inl (T.2 2, 3, .inl (fun _ => 0)))], v_41, z1_42, z2_43, z3_44, w1_45, w2_46, w3_47, [(cd_12, .inl (T.2 0, 1000, .inl (fun _ => 0)))], [(q_74, .inr (11, [.ref r_all_75, .ref r_has_76, .int 0, .int 0, .int 0, .int 0, .int 0, .int 0, .int 0, .int 0, .ref r_read_77, .int 0, .int 0, .int 0, .ref r_posts_78, .ref r_shut_79, .ref r_here_80, .int 0, .int 0, .int 0, .int 0, .ref r_was_81, .ref r_came_82, .ref r_seenAt_83, .ref r_rowWorth_84, .ref r_farBy_85, .ref r_used_86, .int 0, .int 0, .int 0, .int 0, .int 0, .int 0, .int 0, .int 0, .int 0, .int 0, .int 0, .int 0, .ref r_fitPost_87, .ref r_fitEnd_88, .ref r_keptPosts_89, .int 0]))], [(r_all_75, .inl (T.2 0, 3952, .inl (upd (fun _ => 0) 6 (-1))))], [(r_has_76, .inl (T.2 2, 3, .inl (fun _ => 0)))], [(r_read_77, .inl (T.2 0, 121, .inl (fun _ => 0)))], [(r_posts_78, .inl (T.2 0, 7, .inl (fun _ => 0)))], [(r_shut_79, .inl (T.2 0, 7, .inl (fun _ => 0)))], [(r_here_80, .inl (T.2 0, 7, .inl (fun _ => 0)))], [(r_was_81, .inl (T.2 0, 7, .inl (fun _ => 0)))], [(r_came_82, .inl (T.2 0, 7, .inl (fun _ => 0)))], [(r_seenAt_83, .inl (T.2 0, 16384, .inl (fun _ => 0)))], [(r_rowWorth_84, .inl (T.2 0, 512, .inl (fun _ => 0)))], [(r_farBy_85, .inl (T.2 0, 49, .inl (fun _ => 0)))], [(r_used_86, .inl (T.2 0, 7, .inl (fun _ => 0)))], [(r_fitPost_87, .inl (T.2 0, 28, .inl (fun _ => 0)))], [(r_fitEnd_88, .inl (T.2 0, 49, .inl (fun _ => 0)))], [(r_keptPosts_89, .inl (T.2 0, 7, .inl (fun _ => 0)))]]) (As := [.int (xs 1), .int (xs 2), .int (xs 3), .int (xs 4)]) (rest := []) C G (c_x_set l T q_1 t0_2 ia_3 im_4 rd_5 po_6 co_7 tr_8 wa_9 wb_10 fi_11 cd_12 a1p_13 a2p_14 a3p_15 a4p_16 a5p_17 (xs 1) (xs 2) (xs 3) (xs 4)) (kV_RL_67 C.2.2.2.2 (Nat.le_of_ble_eq_true rfl) (Nat.le_of_ble_eq_true rfl)) [0, 1, 3] [2, 4, 5, 6, 7, 8, 9, 10, 11, 12, 13, 14, 15, 16, 17, 18, 19, 20, 21, 22, 23, 24, 25, 26, 27, 28, 29, 30, 31, 32, 33, 34, 35, 36, 37, 38, 39, 40, 41] rfl rfl (ci := 10) (qc := (RX11, TX11, 11)) rfl rfl (List.mem_flatten.mpr ⟨_, List.mem_of_getElem? (i := 0) rfl, List.mem_cons_self⟩) rfl rfl hl.1 dL_law_691 (Nat.le_of_ble_eq_true rfl) (Nat.le_of_ble_eq_true rfl) (fun r_301 b1 H locs hw G => ?_)
        obtain ⟨rfl, h_300⟩ := hw
        have G : zS T A s.heap s [[(a1p_13, .inl (T.2 1, 600, .inl f1p_18))], [(a3p_15, .inl (T.2 3, 2, .inr (.inr (.inr (.inr f3p_19)))))], [(a4p_16, .inl (T.2 4, 2, .inr (.inr (.inr (.inr f4p_20)))))], [(a5p_17, .inl (T.2 5, 2, .inr (.inr (.inr (.inr f5p_21)))))], w1p_28, w2p_29, w3p_30, w4p_31, w5p_32, w6p_33, [(ia_3, .inl (T.2 6, 3, .inr (.inr (.inr (.inr fq_34)))))], u0_38, u1_39, u2_40, [(im_4, .inl (T.2 2, 3, .inl (fun _ => 0)))], v_41, z1_42, z2_43, z3_44, w1_45, w2_46, w3_47, [(cd_12, .inl (T.2 0, 1000, .inl (fun _ => 0)))], [(q_74, .inr (11, [.ref r_all_75, .ref r_has_76, .int 0, .int 0, .int 0, .int 0, .int 0, .int 0, .int 0, .int 0, .ref r_read_77, .int 0, .int 0, .int 0, .ref r_posts_78, .ref r_shut_79, .ref r_here_80, .int 0, .int 0, .int 0, .int 0, .ref r_was_81, .ref r_came_82, .ref r_seenAt_83, .ref r_rowWorth_84, .ref r_farBy_85, .ref r_used_86, .int 0, .int 0, .int 0, .int 0, .int 0, .int 0, .int 0, .int 0, .int 0, .int 0, .int 0, .int 0, .ref r_fitPost_87, .ref r_fitEnd_88, .ref r_keptPosts_89, .int 0]))], [(r_all_75, .inl (T.2 0, 3952, .inl (upd (fun _ => 0) 6 (-1))))], [(r_has_76, .inl (T.2 2, 3, .inl (fun _ => 0)))], [(r_read_77, .inl (T.2 0, 121, .inl (fun _ => 0)))], [(r_posts_78, .inl (T.2 0, 7, .inl (fun _ => 0)))], [(r_shut_79, .inl (T.2 0, 7, .inl (fun _ => 0)))], [(r_here_80, .inl (T.2 0, 7, .inl (fun _ => 0)))], [(r_was_81, .inl (T.2 0, 7, .inl (fun _ => 0)))], [(r_came_82, .inl (T.2 0, 7, .inl (fun _ => 0)))], [(r_seenAt_83, .inl (T.2 0, 16384, .inl (fun _ => 0)))], [(r_rowWorth_84, .inl (T.2 0, 512, .inl (fun _ => 0)))], [(r_farBy_85, .inl (T.2 0, 49, .inl (fun _ => 0)))], [(r_used_86, .inl (T.2 0, 7, .inl (fun _ => 0)))], [(r_fitPost_87, .inl (T.2 0, 28, .inl (fun _ => 0)))], [(r_fitEnd_88, .inl (T.2 0, 49, .inl (fun _ => 0)))], [(r_keptPosts_89, .inl (T.2 0, 7, .inl (fun _ => 0)))]] _ _ := G
        subst h_300
        refine lv_aload_n hx hb dL_law_694 rfl (lv_at hl 1 rfl) ?_
        refine lv_aload_n hx hb dL_law_695 rfl (lv_at hl 3 rfl) ?_
        refine lv_iload_n hx hb dL_law_696 rfl (lv_at hl 0 rfl) ?_
        refine lv_iconst (v := 1) hx hb dL_law_697 (by decide) ?_
        refine lv_iadd hx hb dL_law_698 ?_
        refine lv_topi (fun y_302 ey_302 => ?_)
        obtain rfl : y_302 = 1 := ey_302.trans (by decide)
        refine va_sld hx hb hX hbl hbA G.2.2.2.1 (vp_in_nI (n := 1) (by decide) (by decide)) dL_law_699 ?_
        refine lv_topi (fun v_303 ev_303 => ?_)
        have ev_303 : v_303 = xs 1 := ev_303
        subst ev_303
        refine lv_aload_n hx hb dL_law_700 rfl (lv_at hl 3 rfl) ?_
        refine lv_iload_n hx hb dL_law_701 rfl (lv_at hl 0 rfl) ?_
        refine lv_iconst (v := 2) hx hb dL_law_702 (by decide) ?_
        refine lv_iadd hx hb dL_law_703 ?_
        refine lv_topi (fun y_304 ey_304 => ?_)
        obtain rfl : y_304 = 2 := ey_304.trans (by decide)
        refine va_sld hx hb hX hbl hbA G.2.2.2.1 (vp_in_nI (n := 2) (by decide) (by decide)) dL_law_704 ?_
        refine lv_topi (fun v_305 ev_305 => ?_)
        have ev_305 : v_305 = xs 2 := ev_305
        subst ev_305
        refine lv_aload_n hx hb dL_law_705 rfl (lv_at hl 3 rfl) ?_
        refine lv_iload_n hx hb dL_law_706 rfl (lv_at hl 0 rfl) ?_
        refine lv_iconst (v := 3) hx hb dL_law_707 (by decide) ?_
        refine lv_iadd hx hb dL_law_708 ?_
        refine lv_topi (fun y_306 ey_306 => ?_)
        obtain rfl : y_306 = 3 := ey_306.trans (by decide)
        refine va_sld hx hb hX hbl hbA G.2.2.2.1 (vp_in_nI (n := 3) (by decide) (by decide)) dL_law_709 ?_
        refine lv_topi (fun v_307 ev_307 => ?_)
        have ev_307 : v_307 = xs 3 := ev_307
        subst ev_307
        refine lv_aload_n hx hb dL_law_710 rfl (lv_at hl 3 rfl) ?_
        refine lv_iload_n hx hb dL_law_711 rfl (lv_at hl 0 rfl) ?_
        refine lv_iconst (v := 4) hx hb dL_law_712 (by decide) ?_
        refine lv_iadd hx hb dL_law_713 ?_
        refine lv_topi (fun y_308 ey_308 => ?_)
        obtain rfl : y_308 = 4 := ey_308.trans (by decide)
        refine va_sld hx hb hX hbl hbA G.2.2.2.1 (vp_in_nI (n := 4) (by decide) (by decide)) dL_law_714 ?_
        refine lv_topi (fun v_309 ev_309 => ?_)
        have ev_309 : v_309 = xs 4 := ev_309
        subst ev_309
        refine z_Vi (bc := [[(q_74, .inr (11, [.ref r_all_75, .ref r_has_76, .int 0, .int 0, .int 0, .int 0, .int 0, .int 0, .int 0, .int 0, .ref r_read_77, .int 0, .int 0, .int 0, .ref r_posts_78, .ref r_shut_79, .ref r_here_80, .int 0, .int 0, .int 0, .int 0, .ref r_was_81, .ref r_came_82, .ref r_seenAt_83, .ref r_rowWorth_84, .ref r_farBy_85, .ref r_used_86, .int 0, .int 0, .int 0, .int 0, .int 0, .int 0, .int 0, .int 0, .int 0, .int 0, .int 0, .int 0, .ref r_fitPost_87, .ref r_fitEnd_88, .ref r_keptPosts_89, .int 0]))], [(r_all_75, .inl (T.2 0, 3952, .inl (upd (fun _ => 0) 6 (-1))))]]) (br := [[(a1p_13, .inl (T.2 1, 600, .inl f1p_18))], [(a3p_15, .inl (T.2 3, 2, .inr (.inr (.inr (.inr f3p_19)))))], [(a4p_16, .inl (T.2 4, 2, .inr (.inr (.inr (.inr f4p_20)))))], [(a5p_17, .inl (T.2 5, 2, .inr (.inr (.inr (.inr f5p_21)))))], w1p_28, w2p_29, w3p_30, w4p_31, w5p_32, w6p_33, [(ia_3, .inl (T.2 6, 3, .inr (.inr (.inr (.inr fq_34)))))], u0_38, u1_39, u2_40, [(im_4, .inl (T.2 2, 3, .inl (fun _ => 0)))], v_41, z1_42, z2_43, z3_44, w1_45, w2_46, w3_47, [(cd_12, .inl (T.2 0, 1000, .inl (fun _ => 0)))], [(r_has_76, .inl (T.2 2, 3, .inl (fun _ => 0)))], [(r_read_77, .inl (T.2 0, 121, .inl (fun _ => 0)))], [(r_posts_78, .inl (T.2 0, 7, .inl (fun _ => 0)))], [(r_shut_79, .inl (T.2 0, 7, .inl (fun _ => 0)))], [(r_here_80, .inl (T.2 0, 7, .inl (fun _ => 0)))], [(r_was_81, .inl (T.2 0, 7, .inl (fun _ => 0)))], [(r_came_82, .inl (T.2 0, 7, .inl (fun _ => 0)))], [(r_seenAt_83, .inl (T.2 0, 16384, .inl (fun _ => 0)))], [(r_rowWorth_84, .inl (T.2 0, 512, .inl (fun _ => 0)))], [(r_farBy_85, .inl (T.2 0, 49, .inl (fun _ => 0)))], [(r_used_86, .inl (T.2 0, 7, .inl (fun _ => 0)))], [(r_fitPost_87, .inl (T.2 0, 28, .inl (fun _ => 0)))], [(r_fitEnd_88, .inl (T.2 0, 49, .inl (fun _ => 0)))], [(r_keptPosts_89, .inl (T.2 0, 7, .inl (fun _ => 0)))]]) (As := [.int (xs 1), .int (xs 2), .int (xs 3), .int (xs 4)]) (rest := [.int (-1)]) C G (c_m_set l T q_74 r_all_75 r_has_76 r_read_77 r_posts_78 r_shut_79 r_here_80 r_was_81 r_came_82 r_seenAt_83 r_rowWorth_84 r_farBy_85 r_used_86 r_fitPost_87 r_fitEnd_88 r_keptPosts_89 (xs 1) (xs 2) (xs 3) (xs 4)) (kV_RL_70 C.2.2.2.2 (Nat.le_of_ble_eq_true rfl) (Nat.le_of_ble_eq_true rfl)) [23, 24] [0, 1, 2, 3, 4, 5, 6, 7, 8, 9, 10, 11, 12, 13, 14, 15, 16, 17, 18, 19, 20, 21, 22, 25, 26, 27, 28, 29, 30, 31, 32, 33, 34, 35, 36, 37, 38] rfl rfl (ci := 11) (qc := (RX12, TX12, 43)) rfl rfl (List.mem_flatten.mpr ⟨_, List.mem_of_getElem? (i := 0) rfl, List.mem_cons_self⟩) rfl rfl hl.1 dL_law_715 (Nat.le_of_ble_eq_true rfl) (Nat.le_of_ble_eq_true rfl) (fun r_311 b1 H locs hw G => ?_)
        obtain ⟨rfl, h_310⟩ := hw
        have G : zS T A s.heap s [[(a1p_13, .inl (T.2 1, 600, .inl f1p_18))], [(a3p_15, .inl (T.2 3, 2, .inr (.inr (.inr (.inr f3p_19)))))], [(a4p_16, .inl (T.2 4, 2, .inr (.inr (.inr (.inr f4p_20)))))], [(a5p_17, .inl (T.2 5, 2, .inr (.inr (.inr (.inr f5p_21)))))], w1p_28, w2p_29, w3p_30, w4p_31, w5p_32, w6p_33, [(ia_3, .inl (T.2 6, 3, .inr (.inr (.inr (.inr fq_34)))))], u0_38, u1_39, u2_40, [(im_4, .inl (T.2 2, 3, .inl (fun _ => 0)))], v_41, z1_42, z2_43, z3_44, w1_45, w2_46, w3_47, [(cd_12, .inl (T.2 0, 1000, .inl (fun _ => 0)))], [(r_has_76, .inl (T.2 2, 3, .inl (fun _ => 0)))], [(r_read_77, .inl (T.2 0, 121, .inl (fun _ => 0)))], [(r_posts_78, .inl (T.2 0, 7, .inl (fun _ => 0)))], [(r_shut_79, .inl (T.2 0, 7, .inl (fun _ => 0)))], [(r_here_80, .inl (T.2 0, 7, .inl (fun _ => 0)))], [(r_was_81, .inl (T.2 0, 7, .inl (fun _ => 0)))], [(r_came_82, .inl (T.2 0, 7, .inl (fun _ => 0)))], [(r_seenAt_83, .inl (T.2 0, 16384, .inl (fun _ => 0)))], [(r_rowWorth_84, .inl (T.2 0, 512, .inl (fun _ => 0)))], [(r_farBy_85, .inl (T.2 0, 49, .inl (fun _ => 0)))], [(r_used_86, .inl (T.2 0, 7, .inl (fun _ => 0)))], [(r_fitPost_87, .inl (T.2 0, 28, .inl (fun _ => 0)))], [(r_fitEnd_88, .inl (T.2 0, 49, .inl (fun _ => 0)))], [(r_keptPosts_89, .inl (T.2 0, 7, .inl (fun _ => 0)))]] _ _ := G
        subst h_310
        refine lv_icmp_eq (tgt := 1767) hx hb dL_law_718 (by decide) (fun _ => ?_) (fun q => absurd (by decide) q)
        refine lv_iinc (v := 6) (lv' := [(3, .int 6), (2, .ref q_74), (1, .ref q_1), (0, .ref b)]) hx hb dL_law_1767 hl (k := 0) rfl (by decide) (by decide) rfl (fun ls hl => ?_)
        refine lv_goto (tgt := 18) hx hb dL_law_1770 (by decide) ?_
        refine lv_iload_n hx hb dL_law_18 rfl (lv_at hl 0 rfl) ?_
        refine lv_aload_n hx hb dL_law_19 rfl (lv_at hl 3 rfl) ?_
        refine va_slen hx hb hX hbl hbA G.2.2.2.1 dL_law_20 ?_
        refine lv_bipush (v := 6) hx hb dL_law_21 (by decide) ?_
        refine lv_isub hx hb dL_law_23 ?_
        refine lv_topi (fun y_312 ey_312 => ?_)
        obtain rfl : y_312 = 0 := ey_312.trans (by decide)
        refine lv_icmp_gt (tgt := 1773) hx hb dL_law_24 (by decide) (fun _ => ?_) (fun q => absurd (by decide) q)
        refine lv_iconst (v := 1) hx hb dL_law_1773 (by decide) ?_
        refine va_forget (fun q hq => by have h9 := G.2.2.2.1.2.2 q hq; rw [hAe] at h9; exact h9) ?_
        refine W.widen (k := 600000) (n := 7302250) (Nat.le_of_ble_eq_true rfl) (Nat.le_of_ble_eq_true rfl) ?_
        exact lw_ret hx hb hr hlocks dL_law_1774
      · refine lv_tableIn (tgt := 723) hx hb dL_law_33 (by omega) (by omega) (by rw [c_94]; rfl) (by decide) ?_
        refine lv_aload_n hx hb dL_law_723 rfl (lv_at hl 2 rfl) ?_
        refine lv_aload_n hx hb dL_law_724 rfl (lv_at hl 3 rfl) ?_
        refine lv_iload_n hx hb dL_law_725 rfl (lv_at hl 0 rfl) ?_
        refine lv_iconst (v := 1) hx hb dL_law_726 (by decide) ?_
        refine lv_iadd hx hb dL_law_727 ?_
        refine lv_topi (fun y_313 ey_313 => ?_)
        obtain rfl : y_313 = 1 := ey_313.trans (by decide)
        refine va_sld hx hb hX hbl hbA G.2.2.2.1 (vp_in_nI (n := 1) (by decide) (by decide)) dL_law_728 ?_
        refine lv_topi (fun v_314 ev_314 => ?_)
        have ev_314 : v_314 = xs 1 := ev_314
        subst ev_314
        refine lv_aload_n hx hb dL_law_729 rfl (lv_at hl 3 rfl) ?_
        refine lv_iload_n hx hb dL_law_730 rfl (lv_at hl 0 rfl) ?_
        refine lv_iconst (v := 2) hx hb dL_law_731 (by decide) ?_
        refine lv_iadd hx hb dL_law_732 ?_
        refine lv_topi (fun y_315 ey_315 => ?_)
        obtain rfl : y_315 = 2 := ey_315.trans (by decide)
        refine va_sld hx hb hX hbl hbA G.2.2.2.1 (vp_in_nI (n := 2) (by decide) (by decide)) dL_law_733 ?_
        refine lv_topi (fun v_316 ev_316 => ?_)
        have ev_316 : v_316 = xs 2 := ev_316
        subst ev_316
        refine lv_aload_n hx hb dL_law_734 rfl (lv_at hl 3 rfl) ?_
        refine lv_iload_n hx hb dL_law_735 rfl (lv_at hl 0 rfl) ?_
        refine lv_iconst (v := 3) hx hb dL_law_736 (by decide) ?_
        refine lv_iadd hx hb dL_law_737 ?_
        refine lv_topi (fun y_317 ey_317 => ?_)
        obtain rfl : y_317 = 3 := ey_317.trans (by decide)
        refine va_sld hx hb hX hbl hbA G.2.2.2.1 (vp_in_nI (n := 3) (by decide) (by decide)) dL_law_738 ?_
        refine lv_topi (fun v_318 ev_318 => ?_)
        have ev_318 : v_318 = xs 3 := ev_318
        subst ev_318
        refine lv_aload_n hx hb dL_law_739 rfl (lv_at hl 3 rfl) ?_
        refine lv_iload_n hx hb dL_law_740 rfl (lv_at hl 0 rfl) ?_
        refine lv_iconst (v := 4) hx hb dL_law_741 (by decide) ?_
        refine lv_iadd hx hb dL_law_742 ?_
        refine lv_topi (fun y_319 ey_319 => ?_)
        obtain rfl : y_319 = 4 := ey_319.trans (by decide)
        refine va_sld hx hb hX hbl hbA G.2.2.2.1 (vp_in_nI (n := 4) (by decide) (by decide)) dL_law_743 ?_
        refine lv_topi (fun v_320 ev_320 => ?_)
        have ev_320 : v_320 = xs 4 := ev_320
        subst ev_320
        refine lv_if_eq (tgt := 751) hx hb dL_law_744 (by decide) (fun c_321 => ?_) (fun c_321 => ?_)
        · have c_321n : (xs 4).toInt = (0 : Int) := (fa_eq _ _).mp c_321
          refine lv_iconst (v := 0) hx hb dL_law_751 (by decide) ?_
          refine z_Vi (bc := [[(q_1, .inr (10, [.ref t0_2, .ref ia_3, .ref im_4, .ref rd_5, .ref po_6, .ref co_7, .ref tr_8, .ref wa_9, .ref wb_10, .ref fi_11, .ref cd_12]))], [(t0_2, .inr (8, [.ref a1p_13, .int 0, .int 0, .int (-1), .ref a2p_14, .ref a3p_15, .ref a4p_16, .ref a5p_17]))], [(a2p_14, .inl (T.2 0, 3, .inl (fun _ => 0)))]]) (br := [[(a1p_13, .inl (T.2 1, 600, .inl f1p_18))], [(a3p_15, .inl (T.2 3, 2, .inr (.inr (.inr (.inr f3p_19)))))], [(a4p_16, .inl (T.2 4, 2, .inr (.inr (.inr (.inr f4p_20)))))], [(a5p_17, .inl (T.2 5, 2, .inr (.inr (.inr (.inr f5p_21)))))], w1p_28, w2p_29, w3p_30, w4p_31, w5p_32, w6p_33, [(ia_3, .inl (T.2 6, 3, .inr (.inr (.inr (.inr fq_34)))))], u0_38, u1_39, u2_40, [(im_4, .inl (T.2 2, 3, .inl (fun _ => 0)))], v_41, z1_42, z2_43, z3_44, w1_45, w2_46, w3_47, [(cd_12, .inl (T.2 0, 1000, .inl (fun _ => 0)))], [(q_74, .inr (11, [.ref r_all_75, .ref r_has_76, .int 0, .int 0, .int 0, .int 0, .int 0, .int 0, .int 0, .int 0, .ref r_read_77, .int 0, .int 0, .int 0, .ref r_posts_78, .ref r_shut_79, .ref r_here_80, .int 0, .int 0, .int 0, .int 0, .ref r_was_81, .ref r_came_82, .ref r_seenAt_83, .ref r_rowWorth_84, .ref r_farBy_85, .ref r_used_86, .int 0, .int 0, .int 0, .int 0, .int 0, .int 0, .int 0, .int 0, .int 0, .int 0, .int 0, .int 0, .ref r_fitPost_87, .ref r_fitEnd_88, .ref r_keptPosts_89, .int 0]))], [(r_all_75, .inl (T.2 0, 3952, .inl (upd (fun _ => 0) 6 (-1))))], [(r_has_76, .inl (T.2 2, 3, .inl (fun _ => 0)))], [(r_read_77, .inl (T.2 0, 121, .inl (fun _ => 0)))], [(r_posts_78, .inl (T.2 0, 7, .inl (fun _ => 0)))], [(r_shut_79, .inl (T.2 0, 7, .inl (fun _ => 0)))], [(r_here_80, .inl (T.2 0, 7, .inl (fun _ => 0)))], [(r_was_81, .inl (T.2 0, 7, .inl (fun _ => 0)))], [(r_came_82, .inl (T.2 0, 7, .inl (fun _ => 0)))], [(r_seenAt_83, .inl (T.2 0, 16384, .inl (fun _ => 0)))], [(r_rowWorth_84, .inl (T.2 0, 512, .inl (fun _ => 0)))], [(r_farBy_85, .inl (T.2 0, 49, .inl (fun _ => 0)))], [(r_used_86, .inl (T.2 0, 7, .inl (fun _ => 0)))], [(r_fitPost_87, .inl (T.2 0, 28, .inl (fun _ => 0)))], [(r_fitEnd_88, .inl (T.2 0, 49, .inl (fun _ => 0)))], [(r_keptPosts_89, .inl (T.2 0, 7, .inl (fun _ => 0)))]]) (As := [.int (xs 1), .int (xs 2), .int (xs 3), .int 0]) (rest := []) C G (c_x_lot l T q_1 t0_2 ia_3 im_4 rd_5 po_6 co_7 tr_8 wa_9 wb_10 fi_11 cd_12 a1p_13 a2p_14 a3p_15 a4p_16 a5p_17 (xs 1) (xs 2) (xs 3) 0) (kV_RL_71 C.2.2.2.2 (Nat.le_of_ble_eq_true rfl) (Nat.le_of_ble_eq_true rfl)) [0, 1, 3] [2, 4, 5, 6, 7, 8, 9, 10, 11, 12, 13, 14, 15, 16, 17, 18, 19, 20, 21, 22, 23, 24, 25, 26, 27, 28, 29, 30, 31, 32, 33, 34, 35, 36, 37, 38, 39, 40, 41] rfl rfl (ci := 10) (qc := (RX11, TX11, 11)) rfl rfl (List.mem_flatten.mpr ⟨_, List.mem_of_getElem? (i := 0) rfl, List.mem_cons_self⟩) rfl rfl hl.1 dL_law_752 (Nat.le_of_ble_eq_true rfl) (Nat.le_of_ble_eq_true rfl) (fun r_323 b1 H locs hw G => ?_)
          obtain ⟨rfl, h_322⟩ := hw
          have G : zS T A s.heap s [[(a1p_13, .inl (T.2 1, 600, .inl f1p_18))], [(a3p_15, .inl (T.2 3, 2, .inr (.inr (.inr (.inr f3p_19)))))], [(a4p_16, .inl (T.2 4, 2, .inr (.inr (.inr (.inr f4p_20)))))], [(a5p_17, .inl (T.2 5, 2, .inr (.inr (.inr (.inr f5p_21)))))], w1p_28, w2p_29, w3p_30, w4p_31, w5p_32, w6p_33, [(ia_3, .inl (T.2 6, 3, .inr (.inr (.inr (.inr fq_34)))))], u0_38, u1_39, u2_40, [(im_4, .inl (T.2 2, 3, .inl (fun _ => 0)))], v_41, z1_42, z2_43, z3_44, w1_45, w2_46, w3_47, [(cd_12, .inl (T.2 0, 1000, .inl (fun _ => 0)))], [(q_74, .inr (11, [.ref r_all_75, .ref r_has_76, .int 0, .int 0, .int 0, .int 0, .int 0, .int 0, .int 0, .int 0, .ref r_read_77, .int 0, .int 0, .int 0, .ref r_posts_78, .ref r_shut_79, .ref r_here_80, .int 0, .int 0, .int 0, .int 0, .ref r_was_81, .ref r_came_82, .ref r_seenAt_83, .ref r_rowWorth_84, .ref r_farBy_85, .ref r_used_86, .int 0, .int 0, .int 0, .int 0, .int 0, .int 0, .int 0, .int 0, .int 0, .int 0, .int 0, .int 0, .ref r_fitPost_87, .ref r_fitEnd_88, .ref r_keptPosts_89, .int 0]))], [(r_all_75, .inl (T.2 0, 3952, .inl (upd (fun _ => 0) 6 (-1))))], [(r_has_76, .inl (T.2 2, 3, .inl (fun _ => 0)))], [(r_read_77, .inl (T.2 0, 121, .inl (fun _ => 0)))], [(r_posts_78, .inl (T.2 0, 7, .inl (fun _ => 0)))], [(r_shut_79, .inl (T.2 0, 7, .inl (fun _ => 0)))], [(r_here_80, .inl (T.2 0, 7, .inl (fun _ => 0)))], [(r_was_81, .inl (T.2 0, 7, .inl (fun _ => 0)))], [(r_came_82, .inl (T.2 0, 7, .inl (fun _ => 0)))], [(r_seenAt_83, .inl (T.2 0, 16384, .inl (fun _ => 0)))], [(r_rowWorth_84, .inl (T.2 0, 512, .inl (fun _ => 0)))], [(r_farBy_85, .inl (T.2 0, 49, .inl (fun _ => 0)))], [(r_used_86, .inl (T.2 0, 7, .inl (fun _ => 0)))], [(r_fitPost_87, .inl (T.2 0, 28, .inl (fun _ => 0)))], [(r_fitEnd_88, .inl (T.2 0, 49, .inl (fun _ => 0)))], [(r_keptPosts_89, .inl (T.2 0, 7, .inl (fun _ => 0)))]] _ _ := G
          subst h_322
          refine lv_aload_n hx hb dL_law_755 rfl (lv_at hl 1 rfl) ?_
          refine lv_aload_n hx hb dL_law_756 rfl (lv_at hl 3 rfl) ?_
          refine lv_iload_n hx hb dL_law_757 rfl (lv_at hl 0 rfl) ?_
          refine lv_iconst (v := 1) hx hb dL_law_758 (by decide) ?_
          refine lv_iadd hx hb dL_law_759 ?_
          refine lv_topi (fun y_324 ey_324 => ?_)
          obtain rfl : y_324 = 1 := ey_324.trans (by decide)
          refine va_sld hx hb hX hbl hbA G.2.2.2.1 (vp_in_nI (n := 1) (by decide) (by decide)) dL_law_760 ?_
          refine lv_topi (fun v_325 ev_325 => ?_)
          have ev_325 : v_325 = xs 1 := ev_325
          subst ev_325
          refine lv_aload_n hx hb dL_law_761 rfl (lv_at hl 3 rfl) ?_
          refine lv_iload_n hx hb dL_law_762 rfl (lv_at hl 0 rfl) ?_
          refine lv_iconst (v := 2) hx hb dL_law_763 (by decide) ?_
          refine lv_iadd hx hb dL_law_764 ?_
          refine lv_topi (fun y_326 ey_326 => ?_)
          obtain rfl : y_326 = 2 := ey_326.trans (by decide)
          refine va_sld hx hb hX hbl hbA G.2.2.2.1 (vp_in_nI (n := 2) (by decide) (by decide)) dL_law_765 ?_
          refine lv_topi (fun v_327 ev_327 => ?_)
          have ev_327 : v_327 = xs 2 := ev_327
          subst ev_327
          refine lv_aload_n hx hb dL_law_766 rfl (lv_at hl 3 rfl) ?_
          refine lv_iload_n hx hb dL_law_767 rfl (lv_at hl 0 rfl) ?_
          refine lv_iconst (v := 3) hx hb dL_law_768 (by decide) ?_
          refine lv_iadd hx hb dL_law_769 ?_
          refine lv_topi (fun y_328 ey_328 => ?_)
          obtain rfl : y_328 = 3 := ey_328.trans (by decide)
          refine va_sld hx hb hX hbl hbA G.2.2.2.1 (vp_in_nI (n := 3) (by decide) (by decide)) dL_law_770 ?_
          refine lv_topi (fun v_329 ev_329 => ?_)
          have ev_329 : v_329 = xs 3 := ev_329
          subst ev_329
          refine lv_aload_n hx hb dL_law_771 rfl (lv_at hl 3 rfl) ?_
          refine lv_iload_n hx hb dL_law_772 rfl (lv_at hl 0 rfl) ?_
          refine lv_iconst (v := 4) hx hb dL_law_773 (by decide) ?_
          refine lv_iadd hx hb dL_law_774 ?_
          refine lv_topi (fun y_330 ey_330 => ?_)
          obtain rfl : y_330 = 4 := ey_330.trans (by decide)
          refine va_sld hx hb hX hbl hbA G.2.2.2.1 (vp_in_nI (n := 4) (by decide) (by decide)) dL_law_775 ?_
          refine lv_topi (fun v_331 ev_331 => ?_)
          have ev_331 : v_331 = xs 4 := ev_331
          subst ev_331
          refine lv_if_eq (tgt := 783) hx hb dL_law_776 (by decide) (fun _ => ?_) (fun q => absurd c_321 q)
          refine lv_iconst (v := 0) hx hb dL_law_783 (by decide) ?_
          refine z_Vi (bc := [[(q_74, .inr (11, [.ref r_all_75, .ref r_has_76, .int 0, .int 0, .int 0, .int 0, .int 0, .int 0, .int 0, .int 0, .ref r_read_77, .int 0, .int 0, .int 0, .ref r_posts_78, .ref r_shut_79, .ref r_here_80, .int 0, .int 0, .int 0, .int 0, .ref r_was_81, .ref r_came_82, .ref r_seenAt_83, .ref r_rowWorth_84, .ref r_farBy_85, .ref r_used_86, .int 0, .int 0, .int 0, .int 0, .int 0, .int 0, .int 0, .int 0, .int 0, .int 0, .int 0, .int 0, .ref r_fitPost_87, .ref r_fitEnd_88, .ref r_keptPosts_89, .int 0]))], [(r_all_75, .inl (T.2 0, 3952, .inl (upd (fun _ => 0) 6 (-1))))]]) (br := [[(a1p_13, .inl (T.2 1, 600, .inl f1p_18))], [(a3p_15, .inl (T.2 3, 2, .inr (.inr (.inr (.inr f3p_19)))))], [(a4p_16, .inl (T.2 4, 2, .inr (.inr (.inr (.inr f4p_20)))))], [(a5p_17, .inl (T.2 5, 2, .inr (.inr (.inr (.inr f5p_21)))))], w1p_28, w2p_29, w3p_30, w4p_31, w5p_32, w6p_33, [(ia_3, .inl (T.2 6, 3, .inr (.inr (.inr (.inr fq_34)))))], u0_38, u1_39, u2_40, [(im_4, .inl (T.2 2, 3, .inl (fun _ => 0)))], v_41, z1_42, z2_43, z3_44, w1_45, w2_46, w3_47, [(cd_12, .inl (T.2 0, 1000, .inl (fun _ => 0)))], [(r_has_76, .inl (T.2 2, 3, .inl (fun _ => 0)))], [(r_read_77, .inl (T.2 0, 121, .inl (fun _ => 0)))], [(r_posts_78, .inl (T.2 0, 7, .inl (fun _ => 0)))], [(r_shut_79, .inl (T.2 0, 7, .inl (fun _ => 0)))], [(r_here_80, .inl (T.2 0, 7, .inl (fun _ => 0)))], [(r_was_81, .inl (T.2 0, 7, .inl (fun _ => 0)))], [(r_came_82, .inl (T.2 0, 7, .inl (fun _ => 0)))], [(r_seenAt_83, .inl (T.2 0, 16384, .inl (fun _ => 0)))], [(r_rowWorth_84, .inl (T.2 0, 512, .inl (fun _ => 0)))], [(r_farBy_85, .inl (T.2 0, 49, .inl (fun _ => 0)))], [(r_used_86, .inl (T.2 0, 7, .inl (fun _ => 0)))], [(r_fitPost_87, .inl (T.2 0, 28, .inl (fun _ => 0)))], [(r_fitEnd_88, .inl (T.2 0, 49, .inl (fun _ => 0)))], [(r_keptPosts_89, .inl (T.2 0, 7, .inl (fun _ => 0)))]]) (As := [.int (xs 1), .int (xs 2), .int (xs 3), .int 0]) (rest := [.int (-1)]) C G (c_m_lot l T q_74 r_all_75 r_has_76 r_read_77 r_posts_78 r_shut_79 r_here_80 r_was_81 r_came_82 r_seenAt_83 r_rowWorth_84 r_farBy_85 r_used_86 r_fitPost_87 r_fitEnd_88 r_keptPosts_89 (xs 1) (xs 2) (xs 3) 0) (kV_RL_75 C.2.2.2.2 (Nat.le_of_ble_eq_true rfl) (Nat.le_of_ble_eq_true rfl)) [23, 24] [0, 1, 2, 3, 4, 5, 6, 7, 8, 9, 10, 11, 12, 13, 14, 15, 16, 17, 18, 19, 20, 21, 22, 25, 26, 27, 28, 29, 30, 31, 32, 33, 34, 35, 36, 37, 38] rfl rfl (ci := 11) (qc := (RX12, TX12, 43)) rfl rfl (List.mem_flatten.mpr ⟨_, List.mem_of_getElem? (i := 0) rfl, List.mem_cons_self⟩) rfl rfl hl.1 dL_law_784 (Nat.le_of_ble_eq_true rfl) (Nat.le_of_ble_eq_true rfl) (fun r_333 b1 H locs hw G => ?_)
          obtain ⟨rfl, h_332⟩ := hw
          have G : zS T A s.heap s [[(a1p_13, .inl (T.2 1, 600, .inl f1p_18))], [(a3p_15, .inl (T.2 3, 2, .inr (.inr (.inr (.inr f3p_19)))))], [(a4p_16, .inl (T.2 4, 2, .inr (.inr (.inr (.inr f4p_20)))))], [(a5p_17, .inl (T.2 5, 2, .inr (.inr (.inr (.inr f5p_21)))))], w1p_28, w2p_29, w3p_30, w4p_31, w5p_32, w6p_33, [(ia_3, .inl (T.2 6, 3, .inr (.inr (.inr (.inr fq_34)))))], u0_38, u1_39, u2_40, [(im_4, .inl (T.2 2, 3, .inl (fun _ => 0)))], v_41, z1_42, z2_43, z3_44, w1_45, w2_46, w3_47, [(cd_12, .inl (T.2 0, 1000, .inl (fun _ => 0)))], [(r_has_76, .inl (T.2 2, 3, .inl (fun _ => 0)))], [(r_read_77, .inl (T.2 0, 121, .inl (fun _ => 0)))], [(r_posts_78, .inl (T.2 0, 7, .inl (fun _ => 0)))], [(r_shut_79, .inl (T.2 0, 7, .inl (fun _ => 0)))], [(r_here_80, .inl (T.2 0, 7, .inl (fun _ => 0)))], [(r_was_81, .inl (T.2 0, 7, .inl (fun _ => 0)))], [(r_came_82, .inl (T.2 0, 7, .inl (fun _ => 0)))], [(r_seenAt_83, .inl (T.2 0, 16384, .inl (fun _ => 0)))], [(r_rowWorth_84, .inl (T.2 0, 512, .inl (fun _ => 0)))], [(r_farBy_85, .inl (T.2 0, 49, .inl (fun _ => 0)))], [(r_used_86, .inl (T.2 0, 7, .inl (fun _ => 0)))], [(r_fitPost_87, .inl (T.2 0, 28, .inl (fun _ => 0)))], [(r_fitEnd_88, .inl (T.2 0, 49, .inl (fun _ => 0)))], [(r_keptPosts_89, .inl (T.2 0, 7, .inl (fun _ => 0)))]] _ _ := G
          subst h_332
          refine lv_icmp_eq (tgt := 1767) hx hb dL_law_787 (by decide) (fun _ => ?_) (fun q => absurd (by decide) q)
          refine lv_iinc (v := 6) (lv' := [(3, .int 6), (2, .ref q_74), (1, .ref q_1), (0, .ref b)]) hx hb dL_law_1767 hl (k := 0) rfl (by decide) (by decide) rfl (fun ls hl => ?_)
          refine lv_goto (tgt := 18) hx hb dL_law_1770 (by decide) ?_
          refine lv_iload_n hx hb dL_law_18 rfl (lv_at hl 0 rfl) ?_
          refine lv_aload_n hx hb dL_law_19 rfl (lv_at hl 3 rfl) ?_
          refine va_slen hx hb hX hbl hbA G.2.2.2.1 dL_law_20 ?_
          refine lv_bipush (v := 6) hx hb dL_law_21 (by decide) ?_
          refine lv_isub hx hb dL_law_23 ?_
          refine lv_topi (fun y_334 ey_334 => ?_)
          obtain rfl : y_334 = 0 := ey_334.trans (by decide)
          refine lv_icmp_gt (tgt := 1773) hx hb dL_law_24 (by decide) (fun _ => ?_) (fun q => absurd (by decide) q)
          refine lv_iconst (v := 1) hx hb dL_law_1773 (by decide) ?_
          refine va_forget (fun q hq => by have h9 := G.2.2.2.1.2.2 q hq; rw [hAe] at h9; exact h9) ?_
          refine W.widen (k := 600000) (n := 7302250) (Nat.le_of_ble_eq_true rfl) (Nat.le_of_ble_eq_true rfl) ?_
          exact lw_ret hx hb hr hlocks dL_law_1774
        · have c_321n : ¬ (xs 4).toInt = (0 : Int) := fun q => c_321 ((fa_eq _ _).mpr q)
          refine lv_iconst (v := 1) hx hb dL_law_747 (by decide) ?_
          refine lv_goto (tgt := 752) hx hb dL_law_748 (by decide) ?_
          refine z_Vi (bc := [[(q_1, .inr (10, [.ref t0_2, .ref ia_3, .ref im_4, .ref rd_5, .ref po_6, .ref co_7, .ref tr_8, .ref wa_9, .ref wb_10, .ref fi_11, .ref cd_12]))], [(t0_2, .inr (8, [.ref a1p_13, .int 0, .int 0, .int (-1), .ref a2p_14, .ref a3p_15, .ref a4p_16, .ref a5p_17]))], [(a2p_14, .inl (T.2 0, 3, .inl (fun _ => 0)))]]) (br := [[(a1p_13, .inl (T.2 1, 600, .inl f1p_18))], [(a3p_15, .inl (T.2 3, 2, .inr (.inr (.inr (.inr f3p_19)))))], [(a4p_16, .inl (T.2 4, 2, .inr (.inr (.inr (.inr f4p_20)))))], [(a5p_17, .inl (T.2 5, 2, .inr (.inr (.inr (.inr f5p_21)))))], w1p_28, w2p_29, w3p_30, w4p_31, w5p_32, w6p_33, [(ia_3, .inl (T.2 6, 3, .inr (.inr (.inr (.inr fq_34)))))], u0_38, u1_39, u2_40, [(im_4, .inl (T.2 2, 3, .inl (fun _ => 0)))], v_41, z1_42, z2_43, z3_44, w1_45, w2_46, w3_47, [(cd_12, .inl (T.2 0, 1000, .inl (fun _ => 0)))], [(q_74, .inr (11, [.ref r_all_75, .ref r_has_76, .int 0, .int 0, .int 0, .int 0, .int 0, .int 0, .int 0, .int 0, .ref r_read_77, .int 0, .int 0, .int 0, .ref r_posts_78, .ref r_shut_79, .ref r_here_80, .int 0, .int 0, .int 0, .int 0, .ref r_was_81, .ref r_came_82, .ref r_seenAt_83, .ref r_rowWorth_84, .ref r_farBy_85, .ref r_used_86, .int 0, .int 0, .int 0, .int 0, .int 0, .int 0, .int 0, .int 0, .int 0, .int 0, .int 0, .int 0, .ref r_fitPost_87, .ref r_fitEnd_88, .ref r_keptPosts_89, .int 0]))], [(r_all_75, .inl (T.2 0, 3952, .inl (upd (fun _ => 0) 6 (-1))))], [(r_has_76, .inl (T.2 2, 3, .inl (fun _ => 0)))], [(r_read_77, .inl (T.2 0, 121, .inl (fun _ => 0)))], [(r_posts_78, .inl (T.2 0, 7, .inl (fun _ => 0)))], [(r_shut_79, .inl (T.2 0, 7, .inl (fun _ => 0)))], [(r_here_80, .inl (T.2 0, 7, .inl (fun _ => 0)))], [(r_was_81, .inl (T.2 0, 7, .inl (fun _ => 0)))], [(r_came_82, .inl (T.2 0, 7, .inl (fun _ => 0)))], [(r_seenAt_83, .inl (T.2 0, 16384, .inl (fun _ => 0)))], [(r_rowWorth_84, .inl (T.2 0, 512, .inl (fun _ => 0)))], [(r_farBy_85, .inl (T.2 0, 49, .inl (fun _ => 0)))], [(r_used_86, .inl (T.2 0, 7, .inl (fun _ => 0)))], [(r_fitPost_87, .inl (T.2 0, 28, .inl (fun _ => 0)))], [(r_fitEnd_88, .inl (T.2 0, 49, .inl (fun _ => 0)))], [(r_keptPosts_89, .inl (T.2 0, 7, .inl (fun _ => 0)))]]) (As := [.int (xs 1), .int (xs 2), .int (xs 3), .int 1]) (rest := []) C G (c_x_lot l T q_1 t0_2 ia_3 im_4 rd_5 po_6 co_7 tr_8 wa_9 wb_10 fi_11 cd_12 a1p_13 a2p_14 a3p_15 a4p_16 a5p_17 (xs 1) (xs 2) (xs 3) 1) (kV_RL_71 C.2.2.2.2 (Nat.le_of_ble_eq_true rfl) (Nat.le_of_ble_eq_true rfl)) [0, 1, 3] [2, 4, 5, 6, 7, 8, 9, 10, 11, 12, 13, 14, 15, 16, 17, 18, 19, 20, 21, 22, 23, 24, 25, 26, 27, 28, 29, 30, 31, 32, 33, 34, 35, 36, 37, 38, 39, 40, 41] rfl rfl (ci := 10) (qc := (RX11, TX11, 11)) rfl rfl (List.mem_flatten.mpr ⟨_, List.mem_of_getElem? (i := 0) rfl, List.mem_cons_self⟩) rfl rfl hl.1 dL_law_752 (Nat.le_of_ble_eq_true rfl) (Nat.le_of_ble_eq_true rfl) (fun r_336 b1 H locs hw G => ?_)
          obtain ⟨rfl, h_335⟩ := hw
          have G : zS T A s.heap s [[(a1p_13, .inl (T.2 1, 600, .inl f1p_18))], [(a3p_15, .inl (T.2 3, 2, .inr (.inr (.inr (.inr f3p_19)))))], [(a4p_16, .inl (T.2 4, 2, .inr (.inr (.inr (.inr f4p_20)))))], [(a5p_17, .inl (T.2 5, 2, .inr (.inr (.inr (.inr f5p_21)))))], w1p_28, w2p_29, w3p_30, w4p_31, w5p_32, w6p_33, [(ia_3, .inl (T.2 6, 3, .inr (.inr (.inr (.inr fq_34)))))], u0_38, u1_39, u2_40, [(im_4, .inl (T.2 2, 3, .inl (fun _ => 0)))], v_41, z1_42, z2_43, z3_44, w1_45, w2_46, w3_47, [(cd_12, .inl (T.2 0, 1000, .inl (fun _ => 0)))], [(q_74, .inr (11, [.ref r_all_75, .ref r_has_76, .int 0, .int 0, .int 0, .int 0, .int 0, .int 0, .int 0, .int 0, .ref r_read_77, .int 0, .int 0, .int 0, .ref r_posts_78, .ref r_shut_79, .ref r_here_80, .int 0, .int 0, .int 0, .int 0, .ref r_was_81, .ref r_came_82, .ref r_seenAt_83, .ref r_rowWorth_84, .ref r_farBy_85, .ref r_used_86, .int 0, .int 0, .int 0, .int 0, .int 0, .int 0, .int 0, .int 0, .int 0, .int 0, .int 0, .int 0, .ref r_fitPost_87, .ref r_fitEnd_88, .ref r_keptPosts_89, .int 0]))], [(r_all_75, .inl (T.2 0, 3952, .inl (upd (fun _ => 0) 6 (-1))))], [(r_has_76, .inl (T.2 2, 3, .inl (fun _ => 0)))], [(r_read_77, .inl (T.2 0, 121, .inl (fun _ => 0)))], [(r_posts_78, .inl (T.2 0, 7, .inl (fun _ => 0)))], [(r_shut_79, .inl (T.2 0, 7, .inl (fun _ => 0)))], [(r_here_80, .inl (T.2 0, 7, .inl (fun _ => 0)))], [(r_was_81, .inl (T.2 0, 7, .inl (fun _ => 0)))], [(r_came_82, .inl (T.2 0, 7, .inl (fun _ => 0)))], [(r_seenAt_83, .inl (T.2 0, 16384, .inl (fun _ => 0)))], [(r_rowWorth_84, .inl (T.2 0, 512, .inl (fun _ => 0)))], [(r_farBy_85, .inl (T.2 0, 49, .inl (fun _ => 0)))], [(r_used_86, .inl (T.2 0, 7, .inl (fun _ => 0)))], [(r_fitPost_87, .inl (T.2 0, 28, .inl (fun _ => 0)))], [(r_fitEnd_88, .inl (T.2 0, 49, .inl (fun _ => 0)))], [(r_keptPosts_89, .inl (T.2 0, 7, .inl (fun _ => 0)))]] _ _ := G
          subst h_335
          refine lv_aload_n hx hb dL_law_755 rfl (lv_at hl 1 rfl) ?_
          refine lv_aload_n hx hb dL_law_756 rfl (lv_at hl 3 rfl) ?_
          refine lv_iload_n hx hb dL_law_757 rfl (lv_at hl 0 rfl) ?_
          refine lv_iconst (v := 1) hx hb dL_law_758 (by decide) ?_
          refine lv_iadd hx hb dL_law_759 ?_
          refine lv_topi (fun y_337 ey_337 => ?_)
          obtain rfl : y_337 = 1 := ey_337.trans (by decide)
          refine va_sld hx hb hX hbl hbA G.2.2.2.1 (vp_in_nI (n := 1) (by decide) (by decide)) dL_law_760 ?_
          refine lv_topi (fun v_338 ev_338 => ?_)
          have ev_338 : v_338 = xs 1 := ev_338
          subst ev_338
          refine lv_aload_n hx hb dL_law_761 rfl (lv_at hl 3 rfl) ?_
          refine lv_iload_n hx hb dL_law_762 rfl (lv_at hl 0 rfl) ?_
          refine lv_iconst (v := 2) hx hb dL_law_763 (by decide) ?_
          refine lv_iadd hx hb dL_law_764 ?_
          refine lv_topi (fun y_339 ey_339 => ?_)
          obtain rfl : y_339 = 2 := ey_339.trans (by decide)
          refine va_sld hx hb hX hbl hbA G.2.2.2.1 (vp_in_nI (n := 2) (by decide) (by decide)) dL_law_765 ?_
          refine lv_topi (fun v_340 ev_340 => ?_)
          have ev_340 : v_340 = xs 2 := ev_340
          subst ev_340
          refine lv_aload_n hx hb dL_law_766 rfl (lv_at hl 3 rfl) ?_
          refine lv_iload_n hx hb dL_law_767 rfl (lv_at hl 0 rfl) ?_
          refine lv_iconst (v := 3) hx hb dL_law_768 (by decide) ?_
          refine lv_iadd hx hb dL_law_769 ?_
          refine lv_topi (fun y_341 ey_341 => ?_)
          obtain rfl : y_341 = 3 := ey_341.trans (by decide)
          refine va_sld hx hb hX hbl hbA G.2.2.2.1 (vp_in_nI (n := 3) (by decide) (by decide)) dL_law_770 ?_
          refine lv_topi (fun v_342 ev_342 => ?_)
          have ev_342 : v_342 = xs 3 := ev_342
          subst ev_342
          refine lv_aload_n hx hb dL_law_771 rfl (lv_at hl 3 rfl) ?_
          refine lv_iload_n hx hb dL_law_772 rfl (lv_at hl 0 rfl) ?_
          refine lv_iconst (v := 4) hx hb dL_law_773 (by decide) ?_
          refine lv_iadd hx hb dL_law_774 ?_
          refine lv_topi (fun y_343 ey_343 => ?_)
          obtain rfl : y_343 = 4 := ey_343.trans (by decide)
          refine va_sld hx hb hX hbl hbA G.2.2.2.1 (vp_in_nI (n := 4) (by decide) (by decide)) dL_law_775 ?_
          refine lv_topi (fun v_344 ev_344 => ?_)
          have ev_344 : v_344 = xs 4 := ev_344
          subst ev_344
          refine lv_if_eq (tgt := 783) hx hb dL_law_776 (by decide) (fun q => absurd q c_321) (fun _ => ?_)
          refine lv_iconst (v := 1) hx hb dL_law_779 (by decide) ?_
          refine lv_goto (tgt := 784) hx hb dL_law_780 (by decide) ?_
          refine z_Vi (bc := [[(q_74, .inr (11, [.ref r_all_75, .ref r_has_76, .int 0, .int 0, .int 0, .int 0, .int 0, .int 0, .int 0, .int 0, .ref r_read_77, .int 0, .int 0, .int 0, .ref r_posts_78, .ref r_shut_79, .ref r_here_80, .int 0, .int 0, .int 0, .int 0, .ref r_was_81, .ref r_came_82, .ref r_seenAt_83, .ref r_rowWorth_84, .ref r_farBy_85, .ref r_used_86, .int 0, .int 0, .int 0, .int 0, .int 0, .int 0, .int 0, .int 0, .int 0, .int 0, .int 0, .int 0, .ref r_fitPost_87, .ref r_fitEnd_88, .ref r_keptPosts_89, .int 0]))], [(r_all_75, .inl (T.2 0, 3952, .inl (upd (fun _ => 0) 6 (-1))))]]) (br := [[(a1p_13, .inl (T.2 1, 600, .inl f1p_18))], [(a3p_15, .inl (T.2 3, 2, .inr (.inr (.inr (.inr f3p_19)))))], [(a4p_16, .inl (T.2 4, 2, .inr (.inr (.inr (.inr f4p_20)))))], [(a5p_17, .inl (T.2 5, 2, .inr (.inr (.inr (.inr f5p_21)))))], w1p_28, w2p_29, w3p_30, w4p_31, w5p_32, w6p_33, [(ia_3, .inl (T.2 6, 3, .inr (.inr (.inr (.inr fq_34)))))], u0_38, u1_39, u2_40, [(im_4, .inl (T.2 2, 3, .inl (fun _ => 0)))], v_41, z1_42, z2_43, z3_44, w1_45, w2_46, w3_47, [(cd_12, .inl (T.2 0, 1000, .inl (fun _ => 0)))], [(r_has_76, .inl (T.2 2, 3, .inl (fun _ => 0)))], [(r_read_77, .inl (T.2 0, 121, .inl (fun _ => 0)))], [(r_posts_78, .inl (T.2 0, 7, .inl (fun _ => 0)))], [(r_shut_79, .inl (T.2 0, 7, .inl (fun _ => 0)))], [(r_here_80, .inl (T.2 0, 7, .inl (fun _ => 0)))], [(r_was_81, .inl (T.2 0, 7, .inl (fun _ => 0)))], [(r_came_82, .inl (T.2 0, 7, .inl (fun _ => 0)))], [(r_seenAt_83, .inl (T.2 0, 16384, .inl (fun _ => 0)))], [(r_rowWorth_84, .inl (T.2 0, 512, .inl (fun _ => 0)))], [(r_farBy_85, .inl (T.2 0, 49, .inl (fun _ => 0)))], [(r_used_86, .inl (T.2 0, 7, .inl (fun _ => 0)))], [(r_fitPost_87, .inl (T.2 0, 28, .inl (fun _ => 0)))], [(r_fitEnd_88, .inl (T.2 0, 49, .inl (fun _ => 0)))], [(r_keptPosts_89, .inl (T.2 0, 7, .inl (fun _ => 0)))]]) (As := [.int (xs 1), .int (xs 2), .int (xs 3), .int 1]) (rest := [.int (-1)]) C G (c_m_lot l T q_74 r_all_75 r_has_76 r_read_77 r_posts_78 r_shut_79 r_here_80 r_was_81 r_came_82 r_seenAt_83 r_rowWorth_84 r_farBy_85 r_used_86 r_fitPost_87 r_fitEnd_88 r_keptPosts_89 (xs 1) (xs 2) (xs 3) 1) (kV_RL_75 C.2.2.2.2 (Nat.le_of_ble_eq_true rfl) (Nat.le_of_ble_eq_true rfl)) [23, 24] [0, 1, 2, 3, 4, 5, 6, 7, 8, 9, 10, 11, 12, 13, 14, 15, 16, 17, 18, 19, 20, 21, 22, 25, 26, 27, 28, 29, 30, 31, 32, 33, 34, 35, 36, 37, 38] rfl rfl (ci := 11) (qc := (RX12, TX12, 43)) rfl rfl (List.mem_flatten.mpr ⟨_, List.mem_of_getElem? (i := 0) rfl, List.mem_cons_self⟩) rfl rfl hl.1 dL_law_784 (Nat.le_of_ble_eq_true rfl) (Nat.le_of_ble_eq_true rfl) (fun r_346 b1 H locs hw G => ?_)
          obtain ⟨rfl, h_345⟩ := hw
          have G : zS T A s.heap s [[(a1p_13, .inl (T.2 1, 600, .inl f1p_18))], [(a3p_15, .inl (T.2 3, 2, .inr (.inr (.inr (.inr f3p_19)))))], [(a4p_16, .inl (T.2 4, 2, .inr (.inr (.inr (.inr f4p_20)))))], [(a5p_17, .inl (T.2 5, 2, .inr (.inr (.inr (.inr f5p_21)))))], w1p_28, w2p_29, w3p_30, w4p_31, w5p_32, w6p_33, [(ia_3, .inl (T.2 6, 3, .inr (.inr (.inr (.inr fq_34)))))], u0_38, u1_39, u2_40, [(im_4, .inl (T.2 2, 3, .inl (fun _ => 0)))], v_41, z1_42, z2_43, z3_44, w1_45, w2_46, w3_47, [(cd_12, .inl (T.2 0, 1000, .inl (fun _ => 0)))], [(r_has_76, .inl (T.2 2, 3, .inl (fun _ => 0)))], [(r_read_77, .inl (T.2 0, 121, .inl (fun _ => 0)))], [(r_posts_78, .inl (T.2 0, 7, .inl (fun _ => 0)))], [(r_shut_79, .inl (T.2 0, 7, .inl (fun _ => 0)))], [(r_here_80, .inl (T.2 0, 7, .inl (fun _ => 0)))], [(r_was_81, .inl (T.2 0, 7, .inl (fun _ => 0)))], [(r_came_82, .inl (T.2 0, 7, .inl (fun _ => 0)))], [(r_seenAt_83, .inl (T.2 0, 16384, .inl (fun _ => 0)))], [(r_rowWorth_84, .inl (T.2 0, 512, .inl (fun _ => 0)))], [(r_farBy_85, .inl (T.2 0, 49, .inl (fun _ => 0)))], [(r_used_86, .inl (T.2 0, 7, .inl (fun _ => 0)))], [(r_fitPost_87, .inl (T.2 0, 28, .inl (fun _ => 0)))], [(r_fitEnd_88, .inl (T.2 0, 49, .inl (fun _ => 0)))], [(r_keptPosts_89, .inl (T.2 0, 7, .inl (fun _ => 0)))]] _ _ := G
          subst h_345
          refine lv_icmp_eq (tgt := 1767) hx hb dL_law_787 (by decide) (fun _ => ?_) (fun q => absurd (by decide) q)
          refine lv_iinc (v := 6) (lv' := [(3, .int 6), (2, .ref q_74), (1, .ref q_1), (0, .ref b)]) hx hb dL_law_1767 hl (k := 0) rfl (by decide) (by decide) rfl (fun ls hl => ?_)
          refine lv_goto (tgt := 18) hx hb dL_law_1770 (by decide) ?_
          refine lv_iload_n hx hb dL_law_18 rfl (lv_at hl 0 rfl) ?_
          refine lv_aload_n hx hb dL_law_19 rfl (lv_at hl 3 rfl) ?_
          refine va_slen hx hb hX hbl hbA G.2.2.2.1 dL_law_20 ?_
          refine lv_bipush (v := 6) hx hb dL_law_21 (by decide) ?_
          refine lv_isub hx hb dL_law_23 ?_
          refine lv_topi (fun y_347 ey_347 => ?_)
          obtain rfl : y_347 = 0 := ey_347.trans (by decide)
          refine lv_icmp_gt (tgt := 1773) hx hb dL_law_24 (by decide) (fun _ => ?_) (fun q => absurd (by decide) q)
          refine lv_iconst (v := 1) hx hb dL_law_1773 (by decide) ?_
          refine va_forget (fun q hq => by have h9 := G.2.2.2.1.2.2 q hq; rw [hAe] at h9; exact h9) ?_
          refine W.widen (k := 600000) (n := 7302250) (Nat.le_of_ble_eq_true rfl) (Nat.le_of_ble_eq_true rfl) ?_
          exact lw_ret hx hb hr hlocks dL_law_1774
      · refine lv_tableIn (tgt := 792) hx hb dL_law_33 (by omega) (by omega) (by rw [c_94]; rfl) (by decide) ?_
        refine lv_aload_n hx hb dL_law_792 rfl (lv_at hl 2 rfl) ?_
        refine lv_aload_n hx hb dL_law_793 rfl (lv_at hl 3 rfl) ?_
        refine lv_iload_n hx hb dL_law_794 rfl (lv_at hl 0 rfl) ?_
        refine lv_iconst (v := 1) hx hb dL_law_795 (by decide) ?_
        refine lv_iadd hx hb dL_law_796 ?_
        refine lv_topi (fun y_348 ey_348 => ?_)
        obtain rfl : y_348 = 1 := ey_348.trans (by decide)
        refine va_sld hx hb hX hbl hbA G.2.2.2.1 (vp_in_nI (n := 1) (by decide) (by decide)) dL_law_797 ?_
        refine lv_topi (fun v_349 ev_349 => ?_)
        have ev_349 : v_349 = xs 1 := ev_349
        subst ev_349
        refine lv_aload_n hx hb dL_law_798 rfl (lv_at hl 3 rfl) ?_
        refine lv_iload_n hx hb dL_law_799 rfl (lv_at hl 0 rfl) ?_
        refine lv_iconst (v := 2) hx hb dL_law_800 (by decide) ?_
        refine lv_iadd hx hb dL_law_801 ?_
        refine lv_topi (fun y_350 ey_350 => ?_)
        obtain rfl : y_350 = 2 := ey_350.trans (by decide)
        refine va_sld hx hb hX hbl hbA G.2.2.2.1 (vp_in_nI (n := 2) (by decide) (by decide)) dL_law_802 ?_
        refine lv_topi (fun v_351 ev_351 => ?_)
        have ev_351 : v_351 = xs 2 := ev_351
        subst ev_351
        refine lv_aload_n hx hb dL_law_803 rfl (lv_at hl 3 rfl) ?_
        refine lv_iload_n hx hb dL_law_804 rfl (lv_at hl 0 rfl) ?_
        refine lv_iconst (v := 3) hx hb dL_law_805 (by decide) ?_
        refine lv_iadd hx hb dL_law_806 ?_
        refine lv_topi (fun y_352 ey_352 => ?_)
        obtain rfl : y_352 = 3 := ey_352.trans (by decide)
        refine va_sld hx hb hX hbl hbA G.2.2.2.1 (vp_in_nI (n := 3) (by decide) (by decide)) dL_law_807 ?_
        refine lv_topi (fun v_353 ev_353 => ?_)
        have ev_353 : v_353 = xs 3 := ev_353
        subst ev_353
        refine lv_if_eq (tgt := 815) hx hb dL_law_808 (by decide) (fun c_354 => ?_) (fun c_354 => ?_)
        · have c_354n : (xs 3).toInt = (0 : Int) := (fa_eq _ _).mp c_354
          refine lv_iconst (v := 0) hx hb dL_law_815 (by decide) ?_
          refine z_Vi (bc := [[(q_1, .inr (10, [.ref t0_2, .ref ia_3, .ref im_4, .ref rd_5, .ref po_6, .ref co_7, .ref tr_8, .ref wa_9, .ref wb_10, .ref fi_11, .ref cd_12]))], [(t0_2, .inr (8, [.ref a1p_13, .int 0, .int 0, .int (-1), .ref a2p_14, .ref a3p_15, .ref a4p_16, .ref a5p_17]))], [(a2p_14, .inl (T.2 0, 3, .inl (fun _ => 0)))]]) (br := [[(a1p_13, .inl (T.2 1, 600, .inl f1p_18))], [(a3p_15, .inl (T.2 3, 2, .inr (.inr (.inr (.inr f3p_19)))))], [(a4p_16, .inl (T.2 4, 2, .inr (.inr (.inr (.inr f4p_20)))))], [(a5p_17, .inl (T.2 5, 2, .inr (.inr (.inr (.inr f5p_21)))))], w1p_28, w2p_29, w3p_30, w4p_31, w5p_32, w6p_33, [(ia_3, .inl (T.2 6, 3, .inr (.inr (.inr (.inr fq_34)))))], u0_38, u1_39, u2_40, [(im_4, .inl (T.2 2, 3, .inl (fun _ => 0)))], v_41, z1_42, z2_43, z3_44, w1_45, w2_46, w3_47, [(cd_12, .inl (T.2 0, 1000, .inl (fun _ => 0)))], [(q_74, .inr (11, [.ref r_all_75, .ref r_has_76, .int 0, .int 0, .int 0, .int 0, .int 0, .int 0, .int 0, .int 0, .ref r_read_77, .int 0, .int 0, .int 0, .ref r_posts_78, .ref r_shut_79, .ref r_here_80, .int 0, .int 0, .int 0, .int 0, .ref r_was_81, .ref r_came_82, .ref r_seenAt_83, .ref r_rowWorth_84, .ref r_farBy_85, .ref r_used_86, .int 0, .int 0, .int 0, .int 0, .int 0, .int 0, .int 0, .int 0, .int 0, .int 0, .int 0, .int 0, .ref r_fitPost_87, .ref r_fitEnd_88, .ref r_keptPosts_89, .int 0]))], [(r_all_75, .inl (T.2 0, 3952, .inl (upd (fun _ => 0) 6 (-1))))], [(r_has_76, .inl (T.2 2, 3, .inl (fun _ => 0)))], [(r_read_77, .inl (T.2 0, 121, .inl (fun _ => 0)))], [(r_posts_78, .inl (T.2 0, 7, .inl (fun _ => 0)))], [(r_shut_79, .inl (T.2 0, 7, .inl (fun _ => 0)))], [(r_here_80, .inl (T.2 0, 7, .inl (fun _ => 0)))], [(r_was_81, .inl (T.2 0, 7, .inl (fun _ => 0)))], [(r_came_82, .inl (T.2 0, 7, .inl (fun _ => 0)))], [(r_seenAt_83, .inl (T.2 0, 16384, .inl (fun _ => 0)))], [(r_rowWorth_84, .inl (T.2 0, 512, .inl (fun _ => 0)))], [(r_farBy_85, .inl (T.2 0, 49, .inl (fun _ => 0)))], [(r_used_86, .inl (T.2 0, 7, .inl (fun _ => 0)))], [(r_fitPost_87, .inl (T.2 0, 28, .inl (fun _ => 0)))], [(r_fitEnd_88, .inl (T.2 0, 49, .inl (fun _ => 0)))], [(r_keptPosts_89, .inl (T.2 0, 7, .inl (fun _ => 0)))]]) (As := [.int (xs 1), .int (xs 2), .int 0]) (rest := []) C G (c_x_mean l T q_1 t0_2 ia_3 im_4 rd_5 po_6 co_7 tr_8 wa_9 wb_10 fi_11 cd_12 a1p_13 a2p_14 a3p_15 a4p_16 a5p_17 (xs 1) (xs 2) 0) (kV_RL_76 C.2.2.2.2 (Nat.le_of_ble_eq_true rfl) (Nat.le_of_ble_eq_true rfl)) [0, 1, 3] [2, 4, 5, 6, 7, 8, 9, 10, 11, 12, 13, 14, 15, 16, 17, 18, 19, 20, 21, 22, 23, 24, 25, 26, 27, 28, 29, 30, 31, 32, 33, 34, 35, 36, 37, 38, 39, 40, 41] rfl rfl (ci := 10) (qc := (RX11, TX11, 11)) rfl rfl (List.mem_flatten.mpr ⟨_, List.mem_of_getElem? (i := 0) rfl, List.mem_cons_self⟩) rfl rfl hl.1 dL_law_816 (Nat.le_of_ble_eq_true rfl) (Nat.le_of_ble_eq_true rfl) (fun r_356 b1 H locs hw G => ?_)
          obtain ⟨rfl, h_355⟩ := hw
          have G : zS T A s.heap s [[(a1p_13, .inl (T.2 1, 600, .inl f1p_18))], [(a3p_15, .inl (T.2 3, 2, .inr (.inr (.inr (.inr f3p_19)))))], [(a4p_16, .inl (T.2 4, 2, .inr (.inr (.inr (.inr f4p_20)))))], [(a5p_17, .inl (T.2 5, 2, .inr (.inr (.inr (.inr f5p_21)))))], w1p_28, w2p_29, w3p_30, w4p_31, w5p_32, w6p_33, [(ia_3, .inl (T.2 6, 3, .inr (.inr (.inr (.inr fq_34)))))], u0_38, u1_39, u2_40, [(im_4, .inl (T.2 2, 3, .inl (fun _ => 0)))], v_41, z1_42, z2_43, z3_44, w1_45, w2_46, w3_47, [(cd_12, .inl (T.2 0, 1000, .inl (fun _ => 0)))], [(q_74, .inr (11, [.ref r_all_75, .ref r_has_76, .int 0, .int 0, .int 0, .int 0, .int 0, .int 0, .int 0, .int 0, .ref r_read_77, .int 0, .int 0, .int 0, .ref r_posts_78, .ref r_shut_79, .ref r_here_80, .int 0, .int 0, .int 0, .int 0, .ref r_was_81, .ref r_came_82, .ref r_seenAt_83, .ref r_rowWorth_84, .ref r_farBy_85, .ref r_used_86, .int 0, .int 0, .int 0, .int 0, .int 0, .int 0, .int 0, .int 0, .int 0, .int 0, .int 0, .int 0, .ref r_fitPost_87, .ref r_fitEnd_88, .ref r_keptPosts_89, .int 0]))], [(r_all_75, .inl (T.2 0, 3952, .inl (upd (fun _ => 0) 6 (-1))))], [(r_has_76, .inl (T.2 2, 3, .inl (fun _ => 0)))], [(r_read_77, .inl (T.2 0, 121, .inl (fun _ => 0)))], [(r_posts_78, .inl (T.2 0, 7, .inl (fun _ => 0)))], [(r_shut_79, .inl (T.2 0, 7, .inl (fun _ => 0)))], [(r_here_80, .inl (T.2 0, 7, .inl (fun _ => 0)))], [(r_was_81, .inl (T.2 0, 7, .inl (fun _ => 0)))], [(r_came_82, .inl (T.2 0, 7, .inl (fun _ => 0)))], [(r_seenAt_83, .inl (T.2 0, 16384, .inl (fun _ => 0)))], [(r_rowWorth_84, .inl (T.2 0, 512, .inl (fun _ => 0)))], [(r_farBy_85, .inl (T.2 0, 49, .inl (fun _ => 0)))], [(r_used_86, .inl (T.2 0, 7, .inl (fun _ => 0)))], [(r_fitPost_87, .inl (T.2 0, 28, .inl (fun _ => 0)))], [(r_fitEnd_88, .inl (T.2 0, 49, .inl (fun _ => 0)))], [(r_keptPosts_89, .inl (T.2 0, 7, .inl (fun _ => 0)))]] _ _ := G
          subst h_355
          refine lv_aload_n hx hb dL_law_819 rfl (lv_at hl 1 rfl) ?_
          refine lv_aload_n hx hb dL_law_820 rfl (lv_at hl 3 rfl) ?_
          refine lv_iload_n hx hb dL_law_821 rfl (lv_at hl 0 rfl) ?_
          refine lv_iconst (v := 1) hx hb dL_law_822 (by decide) ?_
          refine lv_iadd hx hb dL_law_823 ?_
          refine lv_topi (fun y_357 ey_357 => ?_)
          obtain rfl : y_357 = 1 := ey_357.trans (by decide)
          refine va_sld hx hb hX hbl hbA G.2.2.2.1 (vp_in_nI (n := 1) (by decide) (by decide)) dL_law_824 ?_
          refine lv_topi (fun v_358 ev_358 => ?_)
          have ev_358 : v_358 = xs 1 := ev_358
          subst ev_358
          refine lv_aload_n hx hb dL_law_825 rfl (lv_at hl 3 rfl) ?_
          refine lv_iload_n hx hb dL_law_826 rfl (lv_at hl 0 rfl) ?_
          refine lv_iconst (v := 2) hx hb dL_law_827 (by decide) ?_
          refine lv_iadd hx hb dL_law_828 ?_
          refine lv_topi (fun y_359 ey_359 => ?_)
          obtain rfl : y_359 = 2 := ey_359.trans (by decide)
          refine va_sld hx hb hX hbl hbA G.2.2.2.1 (vp_in_nI (n := 2) (by decide) (by decide)) dL_law_829 ?_
          refine lv_topi (fun v_360 ev_360 => ?_)
          have ev_360 : v_360 = xs 2 := ev_360
          subst ev_360
          refine lv_aload_n hx hb dL_law_830 rfl (lv_at hl 3 rfl) ?_
          refine lv_iload_n hx hb dL_law_831 rfl (lv_at hl 0 rfl) ?_
          refine lv_iconst (v := 3) hx hb dL_law_832 (by decide) ?_
          refine lv_iadd hx hb dL_law_833 ?_
          refine lv_topi (fun y_361 ey_361 => ?_)
          obtain rfl : y_361 = 3 := ey_361.trans (by decide)
          refine va_sld hx hb hX hbl hbA G.2.2.2.1 (vp_in_nI (n := 3) (by decide) (by decide)) dL_law_834 ?_
          refine lv_topi (fun v_362 ev_362 => ?_)
          have ev_362 : v_362 = xs 3 := ev_362
          subst ev_362
          refine lv_if_eq (tgt := 842) hx hb dL_law_835 (by decide) (fun _ => ?_) (fun q => absurd c_354 q)
          refine lv_iconst (v := 0) hx hb dL_law_842 (by decide) ?_
          refine z_Vi (bc := [[(q_74, .inr (11, [.ref r_all_75, .ref r_has_76, .int 0, .int 0, .int 0, .int 0, .int 0, .int 0, .int 0, .int 0, .ref r_read_77, .int 0, .int 0, .int 0, .ref r_posts_78, .ref r_shut_79, .ref r_here_80, .int 0, .int 0, .int 0, .int 0, .ref r_was_81, .ref r_came_82, .ref r_seenAt_83, .ref r_rowWorth_84, .ref r_farBy_85, .ref r_used_86, .int 0, .int 0, .int 0, .int 0, .int 0, .int 0, .int 0, .int 0, .int 0, .int 0, .int 0, .int 0, .ref r_fitPost_87, .ref r_fitEnd_88, .ref r_keptPosts_89, .int 0]))], [(r_all_75, .inl (T.2 0, 3952, .inl (upd (fun _ => 0) 6 (-1))))]]) (br := [[(a1p_13, .inl (T.2 1, 600, .inl f1p_18))], [(a3p_15, .inl (T.2 3, 2, .inr (.inr (.inr (.inr f3p_19)))))], [(a4p_16, .inl (T.2 4, 2, .inr (.inr (.inr (.inr f4p_20)))))], [(a5p_17, .inl (T.2 5, 2, .inr (.inr (.inr (.inr f5p_21)))))], w1p_28, w2p_29, w3p_30, w4p_31, w5p_32, w6p_33, [(ia_3, .inl (T.2 6, 3, .inr (.inr (.inr (.inr fq_34)))))], u0_38, u1_39, u2_40, [(im_4, .inl (T.2 2, 3, .inl (fun _ => 0)))], v_41, z1_42, z2_43, z3_44, w1_45, w2_46, w3_47, [(cd_12, .inl (T.2 0, 1000, .inl (fun _ => 0)))], [(r_has_76, .inl (T.2 2, 3, .inl (fun _ => 0)))], [(r_read_77, .inl (T.2 0, 121, .inl (fun _ => 0)))], [(r_posts_78, .inl (T.2 0, 7, .inl (fun _ => 0)))], [(r_shut_79, .inl (T.2 0, 7, .inl (fun _ => 0)))], [(r_here_80, .inl (T.2 0, 7, .inl (fun _ => 0)))], [(r_was_81, .inl (T.2 0, 7, .inl (fun _ => 0)))], [(r_came_82, .inl (T.2 0, 7, .inl (fun _ => 0)))], [(r_seenAt_83, .inl (T.2 0, 16384, .inl (fun _ => 0)))], [(r_rowWorth_84, .inl (T.2 0, 512, .inl (fun _ => 0)))], [(r_farBy_85, .inl (T.2 0, 49, .inl (fun _ => 0)))], [(r_used_86, .inl (T.2 0, 7, .inl (fun _ => 0)))], [(r_fitPost_87, .inl (T.2 0, 28, .inl (fun _ => 0)))], [(r_fitEnd_88, .inl (T.2 0, 49, .inl (fun _ => 0)))], [(r_keptPosts_89, .inl (T.2 0, 7, .inl (fun _ => 0)))]]) (As := [.int (xs 1), .int (xs 2), .int 0]) (rest := [.int (-1)]) C G (c_m_mean l T q_74 r_all_75 r_has_76 r_read_77 r_posts_78 r_shut_79 r_here_80 r_was_81 r_came_82 r_seenAt_83 r_rowWorth_84 r_farBy_85 r_used_86 r_fitPost_87 r_fitEnd_88 r_keptPosts_89 (xs 1) (xs 2) 0) (kV_RL_79 C.2.2.2.2 (Nat.le_of_ble_eq_true rfl) (Nat.le_of_ble_eq_true rfl)) [23, 24] [0, 1, 2, 3, 4, 5, 6, 7, 8, 9, 10, 11, 12, 13, 14, 15, 16, 17, 18, 19, 20, 21, 22, 25, 26, 27, 28, 29, 30, 31, 32, 33, 34, 35, 36, 37, 38] rfl rfl (ci := 11) (qc := (RX12, TX12, 43)) rfl rfl (List.mem_flatten.mpr ⟨_, List.mem_of_getElem? (i := 0) rfl, List.mem_cons_self⟩) rfl rfl hl.1 dL_law_843 (Nat.le_of_ble_eq_true rfl) (Nat.le_of_ble_eq_true rfl) (fun r_364 b1 H locs hw G => ?_)
          obtain ⟨rfl, h_363⟩ := hw
          have G : zS T A s.heap s [[(a1p_13, .inl (T.2 1, 600, .inl f1p_18))], [(a3p_15, .inl (T.2 3, 2, .inr (.inr (.inr (.inr f3p_19)))))], [(a4p_16, .inl (T.2 4, 2, .inr (.inr (.inr (.inr f4p_20)))))], [(a5p_17, .inl (T.2 5, 2, .inr (.inr (.inr (.inr f5p_21)))))], w1p_28, w2p_29, w3p_30, w4p_31, w5p_32, w6p_33, [(ia_3, .inl (T.2 6, 3, .inr (.inr (.inr (.inr fq_34)))))], u0_38, u1_39, u2_40, [(im_4, .inl (T.2 2, 3, .inl (fun _ => 0)))], v_41, z1_42, z2_43, z3_44, w1_45, w2_46, w3_47, [(cd_12, .inl (T.2 0, 1000, .inl (fun _ => 0)))], [(r_has_76, .inl (T.2 2, 3, .inl (fun _ => 0)))], [(r_read_77, .inl (T.2 0, 121, .inl (fun _ => 0)))], [(r_posts_78, .inl (T.2 0, 7, .inl (fun _ => 0)))], [(r_shut_79, .inl (T.2 0, 7, .inl (fun _ => 0)))], [(r_here_80, .inl (T.2 0, 7, .inl (fun _ => 0)))], [(r_was_81, .inl (T.2 0, 7, .inl (fun _ => 0)))], [(r_came_82, .inl (T.2 0, 7, .inl (fun _ => 0)))], [(r_seenAt_83, .inl (T.2 0, 16384, .inl (fun _ => 0)))], [(r_rowWorth_84, .inl (T.2 0, 512, .inl (fun _ => 0)))], [(r_farBy_85, .inl (T.2 0, 49, .inl (fun _ => 0)))], [(r_used_86, .inl (T.2 0, 7, .inl (fun _ => 0)))], [(r_fitPost_87, .inl (T.2 0, 28, .inl (fun _ => 0)))], [(r_fitEnd_88, .inl (T.2 0, 49, .inl (fun _ => 0)))], [(r_keptPosts_89, .inl (T.2 0, 7, .inl (fun _ => 0)))]] _ _ := G
          subst h_363
          refine lv_icmp_eq (tgt := 1767) hx hb dL_law_846 (by decide) (fun _ => ?_) (fun q => absurd (by decide) q)
          refine lv_iinc (v := 6) (lv' := [(3, .int 6), (2, .ref q_74), (1, .ref q_1), (0, .ref b)]) hx hb dL_law_1767 hl (k := 0) rfl (by decide) (by decide) rfl (fun ls hl => ?_)
          refine lv_goto (tgt := 18) hx hb dL_law_1770 (by decide) ?_
          refine lv_iload_n hx hb dL_law_18 rfl (lv_at hl 0 rfl) ?_
          refine lv_aload_n hx hb dL_law_19 rfl (lv_at hl 3 rfl) ?_
          refine va_slen hx hb hX hbl hbA G.2.2.2.1 dL_law_20 ?_
          refine lv_bipush (v := 6) hx hb dL_law_21 (by decide) ?_
          refine lv_isub hx hb dL_law_23 ?_
          refine lv_topi (fun y_365 ey_365 => ?_)
          obtain rfl : y_365 = 0 := ey_365.trans (by decide)
          refine lv_icmp_gt (tgt := 1773) hx hb dL_law_24 (by decide) (fun _ => ?_) (fun q => absurd (by decide) q)
          refine lv_iconst (v := 1) hx hb dL_law_1773 (by decide) ?_
          refine va_forget (fun q hq => by have h9 := G.2.2.2.1.2.2 q hq; rw [hAe] at h9; exact h9) ?_
          refine W.widen (k := 600000) (n := 7302250) (Nat.le_of_ble_eq_true rfl) (Nat.le_of_ble_eq_true rfl) ?_
          exact lw_ret hx hb hr hlocks dL_law_1774
        · have c_354n : ¬ (xs 3).toInt = (0 : Int) := fun q => c_354 ((fa_eq _ _).mpr q)
          refine lv_iconst (v := 1) hx hb dL_law_811 (by decide) ?_
          refine lv_goto (tgt := 816) hx hb dL_law_812 (by decide) ?_
          refine z_Vi (bc := [[(q_1, .inr (10, [.ref t0_2, .ref ia_3, .ref im_4, .ref rd_5, .ref po_6, .ref co_7, .ref tr_8, .ref wa_9, .ref wb_10, .ref fi_11, .ref cd_12]))], [(t0_2, .inr (8, [.ref a1p_13, .int 0, .int 0, .int (-1), .ref a2p_14, .ref a3p_15, .ref a4p_16, .ref a5p_17]))], [(a2p_14, .inl (T.2 0, 3, .inl (fun _ => 0)))]]) (br := [[(a1p_13, .inl (T.2 1, 600, .inl f1p_18))], [(a3p_15, .inl (T.2 3, 2, .inr (.inr (.inr (.inr f3p_19)))))], [(a4p_16, .inl (T.2 4, 2, .inr (.inr (.inr (.inr f4p_20)))))], [(a5p_17, .inl (T.2 5, 2, .inr (.inr (.inr (.inr f5p_21)))))], w1p_28, w2p_29, w3p_30, w4p_31, w5p_32, w6p_33, [(ia_3, .inl (T.2 6, 3, .inr (.inr (.inr (.inr fq_34)))))], u0_38, u1_39, u2_40, [(im_4, .inl (T.2 2, 3, .inl (fun _ => 0)))], v_41, z1_42, z2_43, z3_44, w1_45, w2_46, w3_47, [(cd_12, .inl (T.2 0, 1000, .inl (fun _ => 0)))], [(q_74, .inr (11, [.ref r_all_75, .ref r_has_76, .int 0, .int 0, .int 0, .int 0, .int 0, .int 0, .int 0, .int 0, .ref r_read_77, .int 0, .int 0, .int 0, .ref r_posts_78, .ref r_shut_79, .ref r_here_80, .int 0, .int 0, .int 0, .int 0, .ref r_was_81, .ref r_came_82, .ref r_seenAt_83, .ref r_rowWorth_84, .ref r_farBy_85, .ref r_used_86, .int 0, .int 0, .int 0, .int 0, .int 0, .int 0, .int 0, .int 0, .int 0, .int 0, .int 0, .int 0, .ref r_fitPost_87, .ref r_fitEnd_88, .ref r_keptPosts_89, .int 0]))], [(r_all_75, .inl (T.2 0, 3952, .inl (upd (fun _ => 0) 6 (-1))))], [(r_has_76, .inl (T.2 2, 3, .inl (fun _ => 0)))], [(r_read_77, .inl (T.2 0, 121, .inl (fun _ => 0)))], [(r_posts_78, .inl (T.2 0, 7, .inl (fun _ => 0)))], [(r_shut_79, .inl (T.2 0, 7, .inl (fun _ => 0)))], [(r_here_80, .inl (T.2 0, 7, .inl (fun _ => 0)))], [(r_was_81, .inl (T.2 0, 7, .inl (fun _ => 0)))], [(r_came_82, .inl (T.2 0, 7, .inl (fun _ => 0)))], [(r_seenAt_83, .inl (T.2 0, 16384, .inl (fun _ => 0)))], [(r_rowWorth_84, .inl (T.2 0, 512, .inl (fun _ => 0)))], [(r_farBy_85, .inl (T.2 0, 49, .inl (fun _ => 0)))], [(r_used_86, .inl (T.2 0, 7, .inl (fun _ => 0)))], [(r_fitPost_87, .inl (T.2 0, 28, .inl (fun _ => 0)))], [(r_fitEnd_88, .inl (T.2 0, 49, .inl (fun _ => 0)))], [(r_keptPosts_89, .inl (T.2 0, 7, .inl (fun _ => 0)))]]) (As := [.int (xs 1), .int (xs 2), .int 1]) (rest := []) C G (c_x_mean l T q_1 t0_2 ia_3 im_4 rd_5 po_6 co_7 tr_8 wa_9 wb_10 fi_11 cd_12 a1p_13 a2p_14 a3p_15 a4p_16 a5p_17 (xs 1) (xs 2) 1) (kV_RL_76 C.2.2.2.2 (Nat.le_of_ble_eq_true rfl) (Nat.le_of_ble_eq_true rfl)) [0, 1, 3] [2, 4, 5, 6, 7, 8, 9, 10, 11, 12, 13, 14, 15, 16, 17, 18, 19, 20, 21, 22, 23, 24, 25, 26, 27, 28, 29, 30, 31, 32, 33, 34, 35, 36, 37, 38, 39, 40, 41] rfl rfl (ci := 10) (qc := (RX11, TX11, 11)) rfl rfl (List.mem_flatten.mpr ⟨_, List.mem_of_getElem? (i := 0) rfl, List.mem_cons_self⟩) rfl rfl hl.1 dL_law_816 (Nat.le_of_ble_eq_true rfl) (Nat.le_of_ble_eq_true rfl) (fun r_367 b1 H locs hw G => ?_)
          obtain ⟨rfl, h_366⟩ := hw
          have G : zS T A s.heap s [[(a1p_13, .inl (T.2 1, 600, .inl f1p_18))], [(a3p_15, .inl (T.2 3, 2, .inr (.inr (.inr (.inr f3p_19)))))], [(a4p_16, .inl (T.2 4, 2, .inr (.inr (.inr (.inr f4p_20)))))], [(a5p_17, .inl (T.2 5, 2, .inr (.inr (.inr (.inr f5p_21)))))], w1p_28, w2p_29, w3p_30, w4p_31, w5p_32, w6p_33, [(ia_3, .inl (T.2 6, 3, .inr (.inr (.inr (.inr fq_34)))))], u0_38, u1_39, u2_40, [(im_4, .inl (T.2 2, 3, .inl (fun _ => 0)))], v_41, z1_42, z2_43, z3_44, w1_45, w2_46, w3_47, [(cd_12, .inl (T.2 0, 1000, .inl (fun _ => 0)))], [(q_74, .inr (11, [.ref r_all_75, .ref r_has_76, .int 0, .int 0, .int 0, .int 0, .int 0, .int 0, .int 0, .int 0, .ref r_read_77, .int 0, .int 0, .int 0, .ref r_posts_78, .ref r_shut_79, .ref r_here_80, .int 0, .int 0, .int 0, .int 0, .ref r_was_81, .ref r_came_82, .ref r_seenAt_83, .ref r_rowWorth_84, .ref r_farBy_85, .ref r_used_86, .int 0, .int 0, .int 0, .int 0, .int 0, .int 0, .int 0, .int 0, .int 0, .int 0, .int 0, .int 0, .ref r_fitPost_87, .ref r_fitEnd_88, .ref r_keptPosts_89, .int 0]))], [(r_all_75, .inl (T.2 0, 3952, .inl (upd (fun _ => 0) 6 (-1))))], [(r_has_76, .inl (T.2 2, 3, .inl (fun _ => 0)))], [(r_read_77, .inl (T.2 0, 121, .inl (fun _ => 0)))], [(r_posts_78, .inl (T.2 0, 7, .inl (fun _ => 0)))], [(r_shut_79, .inl (T.2 0, 7, .inl (fun _ => 0)))], [(r_here_80, .inl (T.2 0, 7, .inl (fun _ => 0)))], [(r_was_81, .inl (T.2 0, 7, .inl (fun _ => 0)))], [(r_came_82, .inl (T.2 0, 7, .inl (fun _ => 0)))], [(r_seenAt_83, .inl (T.2 0, 16384, .inl (fun _ => 0)))], [(r_rowWorth_84, .inl (T.2 0, 512, .inl (fun _ => 0)))], [(r_farBy_85, .inl (T.2 0, 49, .inl (fun _ => 0)))], [(r_used_86, .inl (T.2 0, 7, .inl (fun _ => 0)))], [(r_fitPost_87, .inl (T.2 0, 28, .inl (fun _ => 0)))], [(r_fitEnd_88, .inl (T.2 0, 49, .inl (fun _ => 0)))], [(r_keptPosts_89, .inl (T.2 0, 7, .inl (fun _ => 0)))]] _ _ := G
          subst h_366
          refine lv_aload_n hx hb dL_law_819 rfl (lv_at hl 1 rfl) ?_
          refine lv_aload_n hx hb dL_law_820 rfl (lv_at hl 3 rfl) ?_
          refine lv_iload_n hx hb dL_law_821 rfl (lv_at hl 0 rfl) ?_
          refine lv_iconst (v := 1) hx hb dL_law_822 (by decide) ?_
          refine lv_iadd hx hb dL_law_823 ?_
          refine lv_topi (fun y_368 ey_368 => ?_)
          obtain rfl : y_368 = 1 := ey_368.trans (by decide)
          refine va_sld hx hb hX hbl hbA G.2.2.2.1 (vp_in_nI (n := 1) (by decide) (by decide)) dL_law_824 ?_
          refine lv_topi (fun v_369 ev_369 => ?_)
          have ev_369 : v_369 = xs 1 := ev_369
          subst ev_369
          refine lv_aload_n hx hb dL_law_825 rfl (lv_at hl 3 rfl) ?_
          refine lv_iload_n hx hb dL_law_826 rfl (lv_at hl 0 rfl) ?_
          refine lv_iconst (v := 2) hx hb dL_law_827 (by decide) ?_
          refine lv_iadd hx hb dL_law_828 ?_
          refine lv_topi (fun y_370 ey_370 => ?_)
          obtain rfl : y_370 = 2 := ey_370.trans (by decide)
          refine va_sld hx hb hX hbl hbA G.2.2.2.1 (vp_in_nI (n := 2) (by decide) (by decide)) dL_law_829 ?_
          refine lv_topi (fun v_371 ev_371 => ?_)
          have ev_371 : v_371 = xs 2 := ev_371
          subst ev_371
          refine lv_aload_n hx hb dL_law_830 rfl (lv_at hl 3 rfl) ?_
          refine lv_iload_n hx hb dL_law_831 rfl (lv_at hl 0 rfl) ?_
          refine lv_iconst (v := 3) hx hb dL_law_832 (by decide) ?_
          refine lv_iadd hx hb dL_law_833 ?_
          refine lv_topi (fun y_372 ey_372 => ?_)
          obtain rfl : y_372 = 3 := ey_372.trans (by decide)
          refine va_sld hx hb hX hbl hbA G.2.2.2.1 (vp_in_nI (n := 3) (by decide) (by decide)) dL_law_834 ?_
          refine lv_topi (fun v_373 ev_373 => ?_)
          have ev_373 : v_373 = xs 3 := ev_373
          subst ev_373
          refine lv_if_eq (tgt := 842) hx hb dL_law_835 (by decide) (fun q => absurd q c_354) (fun _ => ?_)
          refine lv_iconst (v := 1) hx hb dL_law_838 (by decide) ?_
          refine lv_goto (tgt := 843) hx hb dL_law_839 (by decide) ?_
          refine z_Vi (bc := [[(q_74, .inr (11, [.ref r_all_75, .ref r_has_76, .int 0, .int 0, .int 0, .int 0, .int 0, .int 0, .int 0, .int 0, .ref r_read_77, .int 0, .int 0, .int 0, .ref r_posts_78, .ref r_shut_79, .ref r_here_80, .int 0, .int 0, .int 0, .int 0, .ref r_was_81, .ref r_came_82, .ref r_seenAt_83, .ref r_rowWorth_84, .ref r_farBy_85, .ref r_used_86, .int 0, .int 0, .int 0, .int 0, .int 0, .int 0, .int 0, .int 0, .int 0, .int 0, .int 0, .int 0, .ref r_fitPost_87, .ref r_fitEnd_88, .ref r_keptPosts_89, .int 0]))], [(r_all_75, .inl (T.2 0, 3952, .inl (upd (fun _ => 0) 6 (-1))))]]) (br := [[(a1p_13, .inl (T.2 1, 600, .inl f1p_18))], [(a3p_15, .inl (T.2 3, 2, .inr (.inr (.inr (.inr f3p_19)))))], [(a4p_16, .inl (T.2 4, 2, .inr (.inr (.inr (.inr f4p_20)))))], [(a5p_17, .inl (T.2 5, 2, .inr (.inr (.inr (.inr f5p_21)))))], w1p_28, w2p_29, w3p_30, w4p_31, w5p_32, w6p_33, [(ia_3, .inl (T.2 6, 3, .inr (.inr (.inr (.inr fq_34)))))], u0_38, u1_39, u2_40, [(im_4, .inl (T.2 2, 3, .inl (fun _ => 0)))], v_41, z1_42, z2_43, z3_44, w1_45, w2_46, w3_47, [(cd_12, .inl (T.2 0, 1000, .inl (fun _ => 0)))], [(r_has_76, .inl (T.2 2, 3, .inl (fun _ => 0)))], [(r_read_77, .inl (T.2 0, 121, .inl (fun _ => 0)))], [(r_posts_78, .inl (T.2 0, 7, .inl (fun _ => 0)))], [(r_shut_79, .inl (T.2 0, 7, .inl (fun _ => 0)))], [(r_here_80, .inl (T.2 0, 7, .inl (fun _ => 0)))], [(r_was_81, .inl (T.2 0, 7, .inl (fun _ => 0)))], [(r_came_82, .inl (T.2 0, 7, .inl (fun _ => 0)))], [(r_seenAt_83, .inl (T.2 0, 16384, .inl (fun _ => 0)))], [(r_rowWorth_84, .inl (T.2 0, 512, .inl (fun _ => 0)))], [(r_farBy_85, .inl (T.2 0, 49, .inl (fun _ => 0)))], [(r_used_86, .inl (T.2 0, 7, .inl (fun _ => 0)))], [(r_fitPost_87, .inl (T.2 0, 28, .inl (fun _ => 0)))], [(r_fitEnd_88, .inl (T.2 0, 49, .inl (fun _ => 0)))], [(r_keptPosts_89, .inl (T.2 0, 7, .inl (fun _ => 0)))]]) (As := [.int (xs 1), .int (xs 2), .int 1]) (rest := [.int (-1)]) C G (c_m_mean l T q_74 r_all_75 r_has_76 r_read_77 r_posts_78 r_shut_79 r_here_80 r_was_81 r_came_82 r_seenAt_83 r_rowWorth_84 r_farBy_85 r_used_86 r_fitPost_87 r_fitEnd_88 r_keptPosts_89 (xs 1) (xs 2) 1) (kV_RL_79 C.2.2.2.2 (Nat.le_of_ble_eq_true rfl) (Nat.le_of_ble_eq_true rfl)) [23, 24] [0, 1, 2, 3, 4, 5, 6, 7, 8, 9, 10, 11, 12, 13, 14, 15, 16, 17, 18, 19, 20, 21, 22, 25, 26, 27, 28, 29, 30, 31, 32, 33, 34, 35, 36, 37, 38] rfl rfl (ci := 11) (qc := (RX12, TX12, 43)) rfl rfl (List.mem_flatten.mpr ⟨_, List.mem_of_getElem? (i := 0) rfl, List.mem_cons_self⟩) rfl rfl hl.1 dL_law_843 (Nat.le_of_ble_eq_true rfl) (Nat.le_of_ble_eq_true rfl) (fun r_375 b1 H locs hw G => ?_)
          obtain ⟨rfl, h_374⟩ := hw
          have G : zS T A s.heap s [[(a1p_13, .inl (T.2 1, 600, .inl f1p_18))], [(a3p_15, .inl (T.2 3, 2, .inr (.inr (.inr (.inr f3p_19)))))], [(a4p_16, .inl (T.2 4, 2, .inr (.inr (.inr (.inr f4p_20)))))], [(a5p_17, .inl (T.2 5, 2, .inr (.inr (.inr (.inr f5p_21)))))], w1p_28, w2p_29, w3p_30, w4p_31, w5p_32, w6p_33, [(ia_3, .inl (T.2 6, 3, .inr (.inr (.inr (.inr fq_34)))))], u0_38, u1_39, u2_40, [(im_4, .inl (T.2 2, 3, .inl (fun _ => 0)))], v_41, z1_42, z2_43, z3_44, w1_45, w2_46, w3_47, [(cd_12, .inl (T.2 0, 1000, .inl (fun _ => 0)))], [(r_has_76, .inl (T.2 2, 3, .inl (fun _ => 0)))], [(r_read_77, .inl (T.2 0, 121, .inl (fun _ => 0)))], [(r_posts_78, .inl (T.2 0, 7, .inl (fun _ => 0)))], [(r_shut_79, .inl (T.2 0, 7, .inl (fun _ => 0)))], [(r_here_80, .inl (T.2 0, 7, .inl (fun _ => 0)))], [(r_was_81, .inl (T.2 0, 7, .inl (fun _ => 0)))], [(r_came_82, .inl (T.2 0, 7, .inl (fun _ => 0)))], [(r_seenAt_83, .inl (T.2 0, 16384, .inl (fun _ => 0)))], [(r_rowWorth_84, .inl (T.2 0, 512, .inl (fun _ => 0)))], [(r_farBy_85, .inl (T.2 0, 49, .inl (fun _ => 0)))], [(r_used_86, .inl (T.2 0, 7, .inl (fun _ => 0)))], [(r_fitPost_87, .inl (T.2 0, 28, .inl (fun _ => 0)))], [(r_fitEnd_88, .inl (T.2 0, 49, .inl (fun _ => 0)))], [(r_keptPosts_89, .inl (T.2 0, 7, .inl (fun _ => 0)))]] _ _ := G
          subst h_374
          refine lv_icmp_eq (tgt := 1767) hx hb dL_law_846 (by decide) (fun _ => ?_) (fun q => absurd (by decide) q)
          refine lv_iinc (v := 6) (lv' := [(3, .int 6), (2, .ref q_74), (1, .ref q_1), (0, .ref b)]) hx hb dL_law_1767 hl (k := 0) rfl (by decide) (by decide) rfl (fun ls hl => ?_)
          refine lv_goto (tgt := 18) hx hb dL_law_1770 (by decide) ?_
          refine lv_iload_n hx hb dL_law_18 rfl (lv_at hl 0 rfl) ?_
          refine lv_aload_n hx hb dL_law_19 rfl (lv_at hl 3 rfl) ?_
          refine va_slen hx hb hX hbl hbA G.2.2.2.1 dL_law_20 ?_
          refine lv_bipush (v := 6) hx hb dL_law_21 (by decide) ?_
          refine lv_isub hx hb dL_law_23 ?_
          refine lv_topi (fun y_376 ey_376 => ?_)
          obtain rfl : y_376 = 0 := ey_376.trans (by decide)
          refine lv_icmp_gt (tgt := 1773) hx hb dL_law_24 (by decide) (fun _ => ?_) (fun q => absurd (by decide) q)
          refine lv_iconst (v := 1) hx hb dL_law_1773 (by decide) ?_
          refine va_forget (fun q hq => by have h9 := G.2.2.2.1.2.2 q hq; rw [hAe] at h9; exact h9) ?_
          refine W.widen (k := 600000) (n := 7302250) (Nat.le_of_ble_eq_true rfl) (Nat.le_of_ble_eq_true rfl) ?_
          exact lw_ret hx hb hr hlocks dL_law_1774
      · refine lv_tableIn (tgt := 851) hx hb dL_law_33 (by omega) (by omega) (by rw [c_94]; rfl) (by decide) ?_
        refine lv_aload_n hx hb dL_law_851 rfl (lv_at hl 2 rfl) ?_
        refine lv_aload_n hx hb dL_law_852 rfl (lv_at hl 3 rfl) ?_
        refine lv_iload_n hx hb dL_law_853 rfl (lv_at hl 0 rfl) ?_
        refine lv_iconst (v := 1) hx hb dL_law_854 (by decide) ?_
        refine lv_iadd hx hb dL_law_855 ?_
        refine lv_topi (fun y_377 ey_377 => ?_)
        obtain rfl : y_377 = 1 := ey_377.trans (by decide)
        refine va_sld hx hb hX hbl hbA G.2.2.2.1 (vp_in_nI (n := 1) (by decide) (by decide)) dL_law_856 ?_
        refine lv_topi (fun v_378 ev_378 => ?_)
        have ev_378 : v_378 = xs 1 := ev_378
        subst ev_378
        refine z_Vi (bc := [[(q_1, .inr (10, [.ref t0_2, .ref ia_3, .ref im_4, .ref rd_5, .ref po_6, .ref co_7, .ref tr_8, .ref wa_9, .ref wb_10, .ref fi_11, .ref cd_12]))], [(t0_2, .inr (8, [.ref a1p_13, .int 0, .int 0, .int (-1), .ref a2p_14, .ref a3p_15, .ref a4p_16, .ref a5p_17]))], [(a2p_14, .inl (T.2 0, 3, .inl (fun _ => 0)))]]) (br := [[(a1p_13, .inl (T.2 1, 600, .inl f1p_18))], [(a3p_15, .inl (T.2 3, 2, .inr (.inr (.inr (.inr f3p_19)))))], [(a4p_16, .inl (T.2 4, 2, .inr (.inr (.inr (.inr f4p_20)))))], [(a5p_17, .inl (T.2 5, 2, .inr (.inr (.inr (.inr f5p_21)))))], w1p_28, w2p_29, w3p_30, w4p_31, w5p_32, w6p_33, [(ia_3, .inl (T.2 6, 3, .inr (.inr (.inr (.inr fq_34)))))], u0_38, u1_39, u2_40, [(im_4, .inl (T.2 2, 3, .inl (fun _ => 0)))], v_41, z1_42, z2_43, z3_44, w1_45, w2_46, w3_47, [(cd_12, .inl (T.2 0, 1000, .inl (fun _ => 0)))], [(q_74, .inr (11, [.ref r_all_75, .ref r_has_76, .int 0, .int 0, .int 0, .int 0, .int 0, .int 0, .int 0, .int 0, .ref r_read_77, .int 0, .int 0, .int 0, .ref r_posts_78, .ref r_shut_79, .ref r_here_80, .int 0, .int 0, .int 0, .int 0, .ref r_was_81, .ref r_came_82, .ref r_seenAt_83, .ref r_rowWorth_84, .ref r_farBy_85, .ref r_used_86, .int 0, .int 0, .int 0, .int 0, .int 0, .int 0, .int 0, .int 0, .int 0, .int 0, .int 0, .int 0, .ref r_fitPost_87, .ref r_fitEnd_88, .ref r_keptPosts_89, .int 0]))], [(r_all_75, .inl (T.2 0, 3952, .inl (upd (fun _ => 0) 6 (-1))))], [(r_has_76, .inl (T.2 2, 3, .inl (fun _ => 0)))], [(r_read_77, .inl (T.2 0, 121, .inl (fun _ => 0)))], [(r_posts_78, .inl (T.2 0, 7, .inl (fun _ => 0)))], [(r_shut_79, .inl (T.2 0, 7, .inl (fun _ => 0)))], [(r_here_80, .inl (T.2 0, 7, .inl (fun _ => 0)))], [(r_was_81, .inl (T.2 0, 7, .inl (fun _ => 0)))], [(r_came_82, .inl (T.2 0, 7, .inl (fun _ => 0)))], [(r_seenAt_83, .inl (T.2 0, 16384, .inl (fun _ => 0)))], [(r_rowWorth_84, .inl (T.2 0, 512, .inl (fun _ => 0)))], [(r_farBy_85, .inl (T.2 0, 49, .inl (fun _ => 0)))], [(r_used_86, .inl (T.2 0, 7, .inl (fun _ => 0)))], [(r_fitPost_87, .inl (T.2 0, 28, .inl (fun _ => 0)))], [(r_fitEnd_88, .inl (T.2 0, 49, .inl (fun _ => 0)))], [(r_keptPosts_89, .inl (T.2 0, 7, .inl (fun _ => 0)))]]) (As := [.int (xs 1)]) (rest := []) C G (c_x_trees l T q_1 t0_2 ia_3 im_4 rd_5 po_6 co_7 tr_8 wa_9 wb_10 fi_11 cd_12 a1p_13 a2p_14 a3p_15 a4p_16 a5p_17 (xs 1)) (kV_RL_80 C.2.2.2.2 (Nat.le_of_ble_eq_true rfl) (Nat.le_of_ble_eq_true rfl)) [0, 1, 3] [2, 4, 5, 6, 7, 8, 9, 10, 11, 12, 13, 14, 15, 16, 17, 18, 19, 20, 21, 22, 23, 24, 25, 26, 27, 28, 29, 30, 31, 32, 33, 34, 35, 36, 37, 38, 39, 40, 41] rfl rfl (ci := 10) (qc := (RX11, TX11, 11)) rfl rfl (List.mem_flatten.mpr ⟨_, List.mem_of_getElem? (i := 0) rfl, List.mem_cons_self⟩) rfl rfl hl.1 dL_law_857 (Nat.le_of_ble_eq_true rfl) (Nat.le_of_ble_eq_true rfl) (fun r_380 b1 H locs hw G => ?_)
        obtain ⟨rfl, h_379⟩ := hw
        have G : zS T A s.heap s [[(a1p_13, .inl (T.2 1, 600, .inl f1p_18))], [(a3p_15, .inl (T.2 3, 2, .inr (.inr (.inr (.inr f3p_19)))))], [(a4p_16, .inl (T.2 4, 2, .inr (.inr (.inr (.inr f4p_20)))))], [(a5p_17, .inl (T.2 5, 2, .inr (.inr (.inr (.inr f5p_21)))))], w1p_28, w2p_29, w3p_30, w4p_31, w5p_32, w6p_33, [(ia_3, .inl (T.2 6, 3, .inr (.inr (.inr (.inr fq_34)))))], u0_38, u1_39, u2_40, [(im_4, .inl (T.2 2, 3, .inl (fun _ => 0)))], v_41, z1_42, z2_43, z3_44, w1_45, w2_46, w3_47, [(cd_12, .inl (T.2 0, 1000, .inl (fun _ => 0)))], [(q_74, .inr (11, [.ref r_all_75, .ref r_has_76, .int 0, .int 0, .int 0, .int 0, .int 0, .int 0, .int 0, .int 0, .ref r_read_77, .int 0, .int 0, .int 0, .ref r_posts_78, .ref r_shut_79, .ref r_here_80, .int 0, .int 0, .int 0, .int 0, .ref r_was_81, .ref r_came_82, .ref r_seenAt_83, .ref r_rowWorth_84, .ref r_farBy_85, .ref r_used_86, .int 0, .int 0, .int 0, .int 0, .int 0, .int 0, .int 0, .int 0, .int 0, .int 0, .int 0, .int 0, .ref r_fitPost_87, .ref r_fitEnd_88, .ref r_keptPosts_89, .int 0]))], [(r_all_75, .inl (T.2 0, 3952, .inl (upd (fun _ => 0) 6 (-1))))], [(r_has_76, .inl (T.2 2, 3, .inl (fun _ => 0)))], [(r_read_77, .inl (T.2 0, 121, .inl (fun _ => 0)))], [(r_posts_78, .inl (T.2 0, 7, .inl (fun _ => 0)))], [(r_shut_79, .inl (T.2 0, 7, .inl (fun _ => 0)))], [(r_here_80, .inl (T.2 0, 7, .inl (fun _ => 0)))], [(r_was_81, .inl (T.2 0, 7, .inl (fun _ => 0)))], [(r_came_82, .inl (T.2 0, 7, .inl (fun _ => 0)))], [(r_seenAt_83, .inl (T.2 0, 16384, .inl (fun _ => 0)))], [(r_rowWorth_84, .inl (T.2 0, 512, .inl (fun _ => 0)))], [(r_farBy_85, .inl (T.2 0, 49, .inl (fun _ => 0)))], [(r_used_86, .inl (T.2 0, 7, .inl (fun _ => 0)))], [(r_fitPost_87, .inl (T.2 0, 28, .inl (fun _ => 0)))], [(r_fitEnd_88, .inl (T.2 0, 49, .inl (fun _ => 0)))], [(r_keptPosts_89, .inl (T.2 0, 7, .inl (fun _ => 0)))]] _ _ := G
        subst h_379
        refine lv_aload_n hx hb dL_law_860 rfl (lv_at hl 1 rfl) ?_
        refine lv_aload_n hx hb dL_law_861 rfl (lv_at hl 3 rfl) ?_
        refine lv_iload_n hx hb dL_law_862 rfl (lv_at hl 0 rfl) ?_
        refine lv_iconst (v := 1) hx hb dL_law_863 (by decide) ?_
        refine lv_iadd hx hb dL_law_864 ?_
        refine lv_topi (fun y_381 ey_381 => ?_)
        obtain rfl : y_381 = 1 := ey_381.trans (by decide)
        refine va_sld hx hb hX hbl hbA G.2.2.2.1 (vp_in_nI (n := 1) (by decide) (by decide)) dL_law_865 ?_
        refine lv_topi (fun v_382 ev_382 => ?_)
        have ev_382 : v_382 = xs 1 := ev_382
        subst ev_382
        refine z_Vi (bc := [[(q_74, .inr (11, [.ref r_all_75, .ref r_has_76, .int 0, .int 0, .int 0, .int 0, .int 0, .int 0, .int 0, .int 0, .ref r_read_77, .int 0, .int 0, .int 0, .ref r_posts_78, .ref r_shut_79, .ref r_here_80, .int 0, .int 0, .int 0, .int 0, .ref r_was_81, .ref r_came_82, .ref r_seenAt_83, .ref r_rowWorth_84, .ref r_farBy_85, .ref r_used_86, .int 0, .int 0, .int 0, .int 0, .int 0, .int 0, .int 0, .int 0, .int 0, .int 0, .int 0, .int 0, .ref r_fitPost_87, .ref r_fitEnd_88, .ref r_keptPosts_89, .int 0]))], [(r_all_75, .inl (T.2 0, 3952, .inl (upd (fun _ => 0) 6 (-1))))]]) (br := [[(a1p_13, .inl (T.2 1, 600, .inl f1p_18))], [(a3p_15, .inl (T.2 3, 2, .inr (.inr (.inr (.inr f3p_19)))))], [(a4p_16, .inl (T.2 4, 2, .inr (.inr (.inr (.inr f4p_20)))))], [(a5p_17, .inl (T.2 5, 2, .inr (.inr (.inr (.inr f5p_21)))))], w1p_28, w2p_29, w3p_30, w4p_31, w5p_32, w6p_33, [(ia_3, .inl (T.2 6, 3, .inr (.inr (.inr (.inr fq_34)))))], u0_38, u1_39, u2_40, [(im_4, .inl (T.2 2, 3, .inl (fun _ => 0)))], v_41, z1_42, z2_43, z3_44, w1_45, w2_46, w3_47, [(cd_12, .inl (T.2 0, 1000, .inl (fun _ => 0)))], [(r_has_76, .inl (T.2 2, 3, .inl (fun _ => 0)))], [(r_read_77, .inl (T.2 0, 121, .inl (fun _ => 0)))], [(r_posts_78, .inl (T.2 0, 7, .inl (fun _ => 0)))], [(r_shut_79, .inl (T.2 0, 7, .inl (fun _ => 0)))], [(r_here_80, .inl (T.2 0, 7, .inl (fun _ => 0)))], [(r_was_81, .inl (T.2 0, 7, .inl (fun _ => 0)))], [(r_came_82, .inl (T.2 0, 7, .inl (fun _ => 0)))], [(r_seenAt_83, .inl (T.2 0, 16384, .inl (fun _ => 0)))], [(r_rowWorth_84, .inl (T.2 0, 512, .inl (fun _ => 0)))], [(r_farBy_85, .inl (T.2 0, 49, .inl (fun _ => 0)))], [(r_used_86, .inl (T.2 0, 7, .inl (fun _ => 0)))], [(r_fitPost_87, .inl (T.2 0, 28, .inl (fun _ => 0)))], [(r_fitEnd_88, .inl (T.2 0, 49, .inl (fun _ => 0)))], [(r_keptPosts_89, .inl (T.2 0, 7, .inl (fun _ => 0)))]]) (As := [.int (xs 1)]) (rest := [.int (-1)]) C G (c_m_trees l T q_74 r_all_75 r_has_76 r_read_77 r_posts_78 r_shut_79 r_here_80 r_was_81 r_came_82 r_seenAt_83 r_rowWorth_84 r_farBy_85 r_used_86 r_fitPost_87 r_fitEnd_88 r_keptPosts_89 (xs 1)) (kV_RL_83 C.2.2.2.2 (Nat.le_of_ble_eq_true rfl) (Nat.le_of_ble_eq_true rfl)) [23, 24] [0, 1, 2, 3, 4, 5, 6, 7, 8, 9, 10, 11, 12, 13, 14, 15, 16, 17, 18, 19, 20, 21, 22, 25, 26, 27, 28, 29, 30, 31, 32, 33, 34, 35, 36, 37, 38] rfl rfl (ci := 11) (qc := (RX12, TX12, 43)) rfl rfl (List.mem_flatten.mpr ⟨_, List.mem_of_getElem? (i := 0) rfl, List.mem_cons_self⟩) rfl rfl hl.1 dL_law_866 (Nat.le_of_ble_eq_true rfl) (Nat.le_of_ble_eq_true rfl) (fun r_384 b1 H locs hw G => ?_)
        obtain ⟨rfl, h_383⟩ := hw
        have G : zS T A s.heap s [[(a1p_13, .inl (T.2 1, 600, .inl f1p_18))], [(a3p_15, .inl (T.2 3, 2, .inr (.inr (.inr (.inr f3p_19)))))], [(a4p_16, .inl (T.2 4, 2, .inr (.inr (.inr (.inr f4p_20)))))], [(a5p_17, .inl (T.2 5, 2, .inr (.inr (.inr (.inr f5p_21)))))], w1p_28, w2p_29, w3p_30, w4p_31, w5p_32, w6p_33, [(ia_3, .inl (T.2 6, 3, .inr (.inr (.inr (.inr fq_34)))))], u0_38, u1_39, u2_40, [(im_4, .inl (T.2 2, 3, .inl (fun _ => 0)))], v_41, z1_42, z2_43, z3_44, w1_45, w2_46, w3_47, [(cd_12, .inl (T.2 0, 1000, .inl (fun _ => 0)))], [(r_has_76, .inl (T.2 2, 3, .inl (fun _ => 0)))], [(r_read_77, .inl (T.2 0, 121, .inl (fun _ => 0)))], [(r_posts_78, .inl (T.2 0, 7, .inl (fun _ => 0)))], [(r_shut_79, .inl (T.2 0, 7, .inl (fun _ => 0)))], [(r_here_80, .inl (T.2 0, 7, .inl (fun _ => 0)))], [(r_was_81, .inl (T.2 0, 7, .inl (fun _ => 0)))], [(r_came_82, .inl (T.2 0, 7, .inl (fun _ => 0)))], [(r_seenAt_83, .inl (T.2 0, 16384, .inl (fun _ => 0)))], [(r_rowWorth_84, .inl (T.2 0, 512, .inl (fun _ => 0)))], [(r_farBy_85, .inl (T.2 0, 49, .inl (fun _ => 0)))], [(r_used_86, .inl (T.2 0, 7, .inl (fun _ => 0)))], [(r_fitPost_87, .inl (T.2 0, 28, .inl (fun _ => 0)))], [(r_fitEnd_88, .inl (T.2 0, 49, .inl (fun _ => 0)))], [(r_keptPosts_89, .inl (T.2 0, 7, .inl (fun _ => 0)))]] _ _ := G
        subst h_383
        refine lv_icmp_eq (tgt := 1767) hx hb dL_law_869 (by decide) (fun _ => ?_) (fun q => absurd (by decide) q)
        refine lv_iinc (v := 6) (lv' := [(3, .int 6), (2, .ref q_74), (1, .ref q_1), (0, .ref b)]) hx hb dL_law_1767 hl (k := 0) rfl (by decide) (by decide) rfl (fun ls hl => ?_)
        refine lv_goto (tgt := 18) hx hb dL_law_1770 (by decide) ?_
        refine lv_iload_n hx hb dL_law_18 rfl (lv_at hl 0 rfl) ?_
        refine lv_aload_n hx hb dL_law_19 rfl (lv_at hl 3 rfl) ?_
        refine va_slen hx hb hX hbl hbA G.2.2.2.1 dL_law_20 ?_
        refine lv_bipush (v := 6) hx hb dL_law_21 (by decide) ?_
        refine lv_isub hx hb dL_law_23 ?_
        refine lv_topi (fun y_385 ey_385 => ?_)
        obtain rfl : y_385 = 0 := ey_385.trans (by decide)
        refine lv_icmp_gt (tgt := 1773) hx hb dL_law_24 (by decide) (fun _ => ?_) (fun q => absurd (by decide) q)
        refine lv_iconst (v := 1) hx hb dL_law_1773 (by decide) ?_
        refine va_forget (fun q hq => by have h9 := G.2.2.2.1.2.2 q hq; rw [hAe] at h9; exact h9) ?_
        refine W.widen (k := 600000) (n := 7302250) (Nat.le_of_ble_eq_true rfl) (Nat.le_of_ble_eq_true rfl) ?_
        exact lw_ret hx hb hr hlocks dL_law_1774
      · refine lv_tableIn (tgt := 874) hx hb dL_law_33 (by omega) (by omega) (by rw [c_94]; rfl) (by decide) ?_
        refine lv_aload_n hx hb dL_law_874 rfl (lv_at hl 2 rfl) ?_
        refine lv_aload_n hx hb dL_law_875 rfl (lv_at hl 3 rfl) ?_
        refine lv_iload_n hx hb dL_law_876 rfl (lv_at hl 0 rfl) ?_
        refine lv_iconst (v := 1) hx hb dL_law_877 (by decide) ?_
        refine lv_iadd hx hb dL_law_878 ?_
        refine lv_topi (fun y_386 ey_386 => ?_)
        obtain rfl : y_386 = 1 := ey_386.trans (by decide)
        refine va_sld hx hb hX hbl hbA G.2.2.2.1 (vp_in_nI (n := 1) (by decide) (by decide)) dL_law_879 ?_
        refine lv_topi (fun v_387 ev_387 => ?_)
        have ev_387 : v_387 = xs 1 := ev_387
        subst ev_387
        refine lv_aload_n hx hb dL_law_880 rfl (lv_at hl 3 rfl) ?_
        refine lv_iload_n hx hb dL_law_881 rfl (lv_at hl 0 rfl) ?_
        refine lv_iconst (v := 2) hx hb dL_law_882 (by decide) ?_
        refine lv_iadd hx hb dL_law_883 ?_
        refine lv_topi (fun y_388 ey_388 => ?_)
        obtain rfl : y_388 = 2 := ey_388.trans (by decide)
        refine va_sld hx hb hX hbl hbA G.2.2.2.1 (vp_in_nI (n := 2) (by decide) (by decide)) dL_law_884 ?_
        refine lv_topi (fun v_389 ev_389 => ?_)
        have ev_389 : v_389 = xs 2 := ev_389
        subst ev_389
        refine lv_aload_n hx hb dL_law_885 rfl (lv_at hl 3 rfl) ?_
        refine lv_iload_n hx hb dL_law_886 rfl (lv_at hl 0 rfl) ?_
        refine lv_iconst (v := 3) hx hb dL_law_887 (by decide) ?_
        refine lv_iadd hx hb dL_law_888 ?_
        refine lv_topi (fun y_390 ey_390 => ?_)
        obtain rfl : y_390 = 3 := ey_390.trans (by decide)
        refine va_sld hx hb hX hbl hbA G.2.2.2.1 (vp_in_nI (n := 3) (by decide) (by decide)) dL_law_889 ?_
        refine lv_topi (fun v_391 ev_391 => ?_)
        have ev_391 : v_391 = xs 3 := ev_391
        subst ev_391
        refine lv_aload_n hx hb dL_law_890 rfl (lv_at hl 3 rfl) ?_
        refine lv_iload_n hx hb dL_law_891 rfl (lv_at hl 0 rfl) ?_
        refine lv_iconst (v := 4) hx hb dL_law_892 (by decide) ?_
        refine lv_iadd hx hb dL_law_893 ?_
        refine lv_topi (fun y_392 ey_392 => ?_)
        obtain rfl : y_392 = 4 := ey_392.trans (by decide)
        refine va_sld hx hb hX hbl hbA G.2.2.2.1 (vp_in_nI (n := 4) (by decide) (by decide)) dL_law_894 ?_
        refine lv_topi (fun v_393 ev_393 => ?_)
        have ev_393 : v_393 = xs 4 := ev_393
        subst ev_393
        refine lv_if_eq (tgt := 902) hx hb dL_law_895 (by decide) (fun c_394 => ?_) (fun c_394 => ?_)
        · have c_394n : (xs 4).toInt = (0 : Int) := (fa_eq _ _).mp c_394
          refine lv_iconst (v := 0) hx hb dL_law_902 (by decide) ?_
          refine z_Vi (bc := [[(q_1, .inr (10, [.ref t0_2, .ref ia_3, .ref im_4, .ref rd_5, .ref po_6, .ref co_7, .ref tr_8, .ref wa_9, .ref wb_10, .ref fi_11, .ref cd_12]))], [(t0_2, .inr (8, [.ref a1p_13, .int 0, .int 0, .int (-1), .ref a2p_14, .ref a3p_15, .ref a4p_16, .ref a5p_17]))], [(a2p_14, .inl (T.2 0, 3, .inl (fun _ => 0)))]]) (br := [[(a1p_13, .inl (T.2 1, 600, .inl f1p_18))], [(a3p_15, .inl (T.2 3, 2, .inr (.inr (.inr (.inr f3p_19)))))], [(a4p_16, .inl (T.2 4, 2, .inr (.inr (.inr (.inr f4p_20)))))], [(a5p_17, .inl (T.2 5, 2, .inr (.inr (.inr (.inr f5p_21)))))], w1p_28, w2p_29, w3p_30, w4p_31, w5p_32, w6p_33, [(ia_3, .inl (T.2 6, 3, .inr (.inr (.inr (.inr fq_34)))))], u0_38, u1_39, u2_40, [(im_4, .inl (T.2 2, 3, .inl (fun _ => 0)))], v_41, z1_42, z2_43, z3_44, w1_45, w2_46, w3_47, [(cd_12, .inl (T.2 0, 1000, .inl (fun _ => 0)))], [(q_74, .inr (11, [.ref r_all_75, .ref r_has_76, .int 0, .int 0, .int 0, .int 0, .int 0, .int 0, .int 0, .int 0, .ref r_read_77, .int 0, .int 0, .int 0, .ref r_posts_78, .ref r_shut_79, .ref r_here_80, .int 0, .int 0, .int 0, .int 0, .ref r_was_81, .ref r_came_82, .ref r_seenAt_83, .ref r_rowWorth_84, .ref r_farBy_85, .ref r_used_86, .int 0, .int 0, .int 0, .int 0, .int 0, .int 0, .int 0, .int 0, .int 0, .int 0, .int 0, .int 0, .ref r_fitPost_87, .ref r_fitEnd_88, .ref r_keptPosts_89, .int 0]))], [(r_all_75, .inl (T.2 0, 3952, .inl (upd (fun _ => 0) 6 (-1))))], [(r_has_76, .inl (T.2 2, 3, .inl (fun _ => 0)))], [(r_read_77, .inl (T.2 0, 121, .inl (fun _ => 0)))], [(r_posts_78, .inl (T.2 0, 7, .inl (fun _ => 0)))], [(r_shut_79, .inl (T.2 0, 7, .inl (fun _ => 0)))], [(r_here_80, .inl (T.2 0, 7, .inl (fun _ => 0)))], [(r_was_81, .inl (T.2 0, 7, .inl (fun _ => 0)))], [(r_came_82, .inl (T.2 0, 7, .inl (fun _ => 0)))], [(r_seenAt_83, .inl (T.2 0, 16384, .inl (fun _ => 0)))], [(r_rowWorth_84, .inl (T.2 0, 512, .inl (fun _ => 0)))], [(r_farBy_85, .inl (T.2 0, 49, .inl (fun _ => 0)))], [(r_used_86, .inl (T.2 0, 7, .inl (fun _ => 0)))], [(r_fitPost_87, .inl (T.2 0, 28, .inl (fun _ => 0)))], [(r_fitEnd_88, .inl (T.2 0, 49, .inl (fun _ => 0)))], [(r_keptPosts_89, .inl (T.2 0, 7, .inl (fun _ => 0)))]]) (As := [.int (xs 1), .int (xs 2), .int (xs 3), .int 0]) (rest := []) C G (c_x_game l T q_1 t0_2 ia_3 im_4 rd_5 po_6 co_7 tr_8 wa_9 wb_10 fi_11 cd_12 a1p_13 a2p_14 a3p_15 a4p_16 a5p_17 (xs 1) (xs 2) (xs 3) 0) (kV_RL_84 C.2.2.2.2 (Nat.le_of_ble_eq_true rfl) (Nat.le_of_ble_eq_true rfl)) [0, 1, 3] [2, 4, 5, 6, 7, 8, 9, 10, 11, 12, 13, 14, 15, 16, 17, 18, 19, 20, 21, 22, 23, 24, 25, 26, 27, 28, 29, 30, 31, 32, 33, 34, 35, 36, 37, 38, 39, 40, 41] rfl rfl (ci := 10) (qc := (RX11, TX11, 11)) rfl rfl (List.mem_flatten.mpr ⟨_, List.mem_of_getElem? (i := 0) rfl, List.mem_cons_self⟩) rfl rfl hl.1 dL_law_903 (Nat.le_of_ble_eq_true rfl) (Nat.le_of_ble_eq_true rfl) (fun r_396 b1 H locs hw G => ?_)
          obtain ⟨rfl, h_395⟩ := hw
          have G : zS T A s.heap s [[(a1p_13, .inl (T.2 1, 600, .inl f1p_18))], [(a3p_15, .inl (T.2 3, 2, .inr (.inr (.inr (.inr f3p_19)))))], [(a4p_16, .inl (T.2 4, 2, .inr (.inr (.inr (.inr f4p_20)))))], [(a5p_17, .inl (T.2 5, 2, .inr (.inr (.inr (.inr f5p_21)))))], w1p_28, w2p_29, w3p_30, w4p_31, w5p_32, w6p_33, [(ia_3, .inl (T.2 6, 3, .inr (.inr (.inr (.inr fq_34)))))], u0_38, u1_39, u2_40, [(im_4, .inl (T.2 2, 3, .inl (fun _ => 0)))], v_41, z1_42, z2_43, z3_44, w1_45, w2_46, w3_47, [(cd_12, .inl (T.2 0, 1000, .inl (fun _ => 0)))], [(q_74, .inr (11, [.ref r_all_75, .ref r_has_76, .int 0, .int 0, .int 0, .int 0, .int 0, .int 0, .int 0, .int 0, .ref r_read_77, .int 0, .int 0, .int 0, .ref r_posts_78, .ref r_shut_79, .ref r_here_80, .int 0, .int 0, .int 0, .int 0, .ref r_was_81, .ref r_came_82, .ref r_seenAt_83, .ref r_rowWorth_84, .ref r_farBy_85, .ref r_used_86, .int 0, .int 0, .int 0, .int 0, .int 0, .int 0, .int 0, .int 0, .int 0, .int 0, .int 0, .int 0, .ref r_fitPost_87, .ref r_fitEnd_88, .ref r_keptPosts_89, .int 0]))], [(r_all_75, .inl (T.2 0, 3952, .inl (upd (fun _ => 0) 6 (-1))))], [(r_has_76, .inl (T.2 2, 3, .inl (fun _ => 0)))], [(r_read_77, .inl (T.2 0, 121, .inl (fun _ => 0)))], [(r_posts_78, .inl (T.2 0, 7, .inl (fun _ => 0)))], [(r_shut_79, .inl (T.2 0, 7, .inl (fun _ => 0)))], [(r_here_80, .inl (T.2 0, 7, .inl (fun _ => 0)))], [(r_was_81, .inl (T.2 0, 7, .inl (fun _ => 0)))], [(r_came_82, .inl (T.2 0, 7, .inl (fun _ => 0)))], [(r_seenAt_83, .inl (T.2 0, 16384, .inl (fun _ => 0)))], [(r_rowWorth_84, .inl (T.2 0, 512, .inl (fun _ => 0)))], [(r_farBy_85, .inl (T.2 0, 49, .inl (fun _ => 0)))], [(r_used_86, .inl (T.2 0, 7, .inl (fun _ => 0)))], [(r_fitPost_87, .inl (T.2 0, 28, .inl (fun _ => 0)))], [(r_fitEnd_88, .inl (T.2 0, 49, .inl (fun _ => 0)))], [(r_keptPosts_89, .inl (T.2 0, 7, .inl (fun _ => 0)))]] _ _ := G
          subst h_395
          refine lv_aload_n hx hb dL_law_906 rfl (lv_at hl 1 rfl) ?_
          refine lv_aload_n hx hb dL_law_907 rfl (lv_at hl 3 rfl) ?_
          refine lv_iload_n hx hb dL_law_908 rfl (lv_at hl 0 rfl) ?_
          refine lv_iconst (v := 1) hx hb dL_law_909 (by decide) ?_
          refine lv_iadd hx hb dL_law_910 ?_
          refine lv_topi (fun y_397 ey_397 => ?_)
          obtain rfl : y_397 = 1 := ey_397.trans (by decide)
          refine va_sld hx hb hX hbl hbA G.2.2.2.1 (vp_in_nI (n := 1) (by decide) (by decide)) dL_law_911 ?_
          refine lv_topi (fun v_398 ev_398 => ?_)
          have ev_398 : v_398 = xs 1 := ev_398
          subst ev_398
          refine lv_aload_n hx hb dL_law_912 rfl (lv_at hl 3 rfl) ?_
          refine lv_iload_n hx hb dL_law_913 rfl (lv_at hl 0 rfl) ?_
          refine lv_iconst (v := 2) hx hb dL_law_914 (by decide) ?_
          refine lv_iadd hx hb dL_law_915 ?_
          refine lv_topi (fun y_399 ey_399 => ?_)
          obtain rfl : y_399 = 2 := ey_399.trans (by decide)
          refine va_sld hx hb hX hbl hbA G.2.2.2.1 (vp_in_nI (n := 2) (by decide) (by decide)) dL_law_916 ?_
          refine lv_topi (fun v_400 ev_400 => ?_)
          have ev_400 : v_400 = xs 2 := ev_400
          subst ev_400
          refine lv_aload_n hx hb dL_law_917 rfl (lv_at hl 3 rfl) ?_
          refine lv_iload_n hx hb dL_law_918 rfl (lv_at hl 0 rfl) ?_
          refine lv_iconst (v := 3) hx hb dL_law_919 (by decide) ?_
          refine lv_iadd hx hb dL_law_920 ?_
          refine lv_topi (fun y_401 ey_401 => ?_)
          obtain rfl : y_401 = 3 := ey_401.trans (by decide)
          refine va_sld hx hb hX hbl hbA G.2.2.2.1 (vp_in_nI (n := 3) (by decide) (by decide)) dL_law_921 ?_
          refine lv_topi (fun v_402 ev_402 => ?_)
          have ev_402 : v_402 = xs 3 := ev_402
          subst ev_402
          refine lv_aload_n hx hb dL_law_922 rfl (lv_at hl 3 rfl) ?_
          refine lv_iload_n hx hb dL_law_923 rfl (lv_at hl 0 rfl) ?_
          refine lv_iconst (v := 4) hx hb dL_law_924 (by decide) ?_
          refine lv_iadd hx hb dL_law_925 ?_
          refine lv_topi (fun y_403 ey_403 => ?_)
          obtain rfl : y_403 = 4 := ey_403.trans (by decide)
          refine va_sld hx hb hX hbl hbA G.2.2.2.1 (vp_in_nI (n := 4) (by decide) (by decide)) dL_law_926 ?_
          refine lv_topi (fun v_404 ev_404 => ?_)
          have ev_404 : v_404 = xs 4 := ev_404
          subst ev_404
          refine lv_if_eq (tgt := 934) hx hb dL_law_927 (by decide) (fun _ => ?_) (fun q => absurd c_394 q)
          refine lv_iconst (v := 0) hx hb dL_law_934 (by decide) ?_
          refine z_Vi (bc := [[(q_74, .inr (11, [.ref r_all_75, .ref r_has_76, .int 0, .int 0, .int 0, .int 0, .int 0, .int 0, .int 0, .int 0, .ref r_read_77, .int 0, .int 0, .int 0, .ref r_posts_78, .ref r_shut_79, .ref r_here_80, .int 0, .int 0, .int 0, .int 0, .ref r_was_81, .ref r_came_82, .ref r_seenAt_83, .ref r_rowWorth_84, .ref r_farBy_85, .ref r_used_86, .int 0, .int 0, .int 0, .int 0, .int 0, .int 0, .int 0, .int 0, .int 0, .int 0, .int 0, .int 0, .ref r_fitPost_87, .ref r_fitEnd_88, .ref r_keptPosts_89, .int 0]))], [(r_all_75, .inl (T.2 0, 3952, .inl (upd (fun _ => 0) 6 (-1))))]]) (br := [[(a1p_13, .inl (T.2 1, 600, .inl f1p_18))], [(a3p_15, .inl (T.2 3, 2, .inr (.inr (.inr (.inr f3p_19)))))], [(a4p_16, .inl (T.2 4, 2, .inr (.inr (.inr (.inr f4p_20)))))], [(a5p_17, .inl (T.2 5, 2, .inr (.inr (.inr (.inr f5p_21)))))], w1p_28, w2p_29, w3p_30, w4p_31, w5p_32, w6p_33, [(ia_3, .inl (T.2 6, 3, .inr (.inr (.inr (.inr fq_34)))))], u0_38, u1_39, u2_40, [(im_4, .inl (T.2 2, 3, .inl (fun _ => 0)))], v_41, z1_42, z2_43, z3_44, w1_45, w2_46, w3_47, [(cd_12, .inl (T.2 0, 1000, .inl (fun _ => 0)))], [(r_has_76, .inl (T.2 2, 3, .inl (fun _ => 0)))], [(r_read_77, .inl (T.2 0, 121, .inl (fun _ => 0)))], [(r_posts_78, .inl (T.2 0, 7, .inl (fun _ => 0)))], [(r_shut_79, .inl (T.2 0, 7, .inl (fun _ => 0)))], [(r_here_80, .inl (T.2 0, 7, .inl (fun _ => 0)))], [(r_was_81, .inl (T.2 0, 7, .inl (fun _ => 0)))], [(r_came_82, .inl (T.2 0, 7, .inl (fun _ => 0)))], [(r_seenAt_83, .inl (T.2 0, 16384, .inl (fun _ => 0)))], [(r_rowWorth_84, .inl (T.2 0, 512, .inl (fun _ => 0)))], [(r_farBy_85, .inl (T.2 0, 49, .inl (fun _ => 0)))], [(r_used_86, .inl (T.2 0, 7, .inl (fun _ => 0)))], [(r_fitPost_87, .inl (T.2 0, 28, .inl (fun _ => 0)))], [(r_fitEnd_88, .inl (T.2 0, 49, .inl (fun _ => 0)))], [(r_keptPosts_89, .inl (T.2 0, 7, .inl (fun _ => 0)))]]) (As := [.int (xs 1), .int (xs 2), .int (xs 3), .int 0]) (rest := [.int (-9)]) C G (c_m_game l T q_74 r_all_75 r_has_76 r_read_77 r_posts_78 r_shut_79 r_here_80 r_was_81 r_came_82 r_seenAt_83 r_rowWorth_84 r_farBy_85 r_used_86 r_fitPost_87 r_fitEnd_88 r_keptPosts_89 (xs 1) (xs 2) (xs 3) 0) (kV_RL_87 C.2.2.2.2 (Nat.le_of_ble_eq_true rfl) (Nat.le_of_ble_eq_true rfl)) [23, 24] [0, 1, 2, 3, 4, 5, 6, 7, 8, 9, 10, 11, 12, 13, 14, 15, 16, 17, 18, 19, 20, 21, 22, 25, 26, 27, 28, 29, 30, 31, 32, 33, 34, 35, 36, 37, 38] rfl rfl (ci := 11) (qc := (RX12, TX12, 43)) rfl rfl (List.mem_flatten.mpr ⟨_, List.mem_of_getElem? (i := 0) rfl, List.mem_cons_self⟩) rfl rfl hl.1 dL_law_935 (Nat.le_of_ble_eq_true rfl) (Nat.le_of_ble_eq_true rfl) (fun r_406 b1 H locs hw G => ?_)
          obtain ⟨rfl, h_405⟩ := hw
          have G : zS T A s.heap s [[(a1p_13, .inl (T.2 1, 600, .inl f1p_18))], [(a3p_15, .inl (T.2 3, 2, .inr (.inr (.inr (.inr f3p_19)))))], [(a4p_16, .inl (T.2 4, 2, .inr (.inr (.inr (.inr f4p_20)))))], [(a5p_17, .inl (T.2 5, 2, .inr (.inr (.inr (.inr f5p_21)))))], w1p_28, w2p_29, w3p_30, w4p_31, w5p_32, w6p_33, [(ia_3, .inl (T.2 6, 3, .inr (.inr (.inr (.inr fq_34)))))], u0_38, u1_39, u2_40, [(im_4, .inl (T.2 2, 3, .inl (fun _ => 0)))], v_41, z1_42, z2_43, z3_44, w1_45, w2_46, w3_47, [(cd_12, .inl (T.2 0, 1000, .inl (fun _ => 0)))], [(r_has_76, .inl (T.2 2, 3, .inl (fun _ => 0)))], [(r_read_77, .inl (T.2 0, 121, .inl (fun _ => 0)))], [(r_posts_78, .inl (T.2 0, 7, .inl (fun _ => 0)))], [(r_shut_79, .inl (T.2 0, 7, .inl (fun _ => 0)))], [(r_here_80, .inl (T.2 0, 7, .inl (fun _ => 0)))], [(r_was_81, .inl (T.2 0, 7, .inl (fun _ => 0)))], [(r_came_82, .inl (T.2 0, 7, .inl (fun _ => 0)))], [(r_seenAt_83, .inl (T.2 0, 16384, .inl (fun _ => 0)))], [(r_rowWorth_84, .inl (T.2 0, 512, .inl (fun _ => 0)))], [(r_farBy_85, .inl (T.2 0, 49, .inl (fun _ => 0)))], [(r_used_86, .inl (T.2 0, 7, .inl (fun _ => 0)))], [(r_fitPost_87, .inl (T.2 0, 28, .inl (fun _ => 0)))], [(r_fitEnd_88, .inl (T.2 0, 49, .inl (fun _ => 0)))], [(r_keptPosts_89, .inl (T.2 0, 7, .inl (fun _ => 0)))]] _ _ := G
          subst h_405
          refine lv_icmp_eq (tgt := 1767) hx hb dL_law_938 (by decide) (fun _ => ?_) (fun q => absurd (by decide) q)
          refine lv_iinc (v := 6) (lv' := [(3, .int 6), (2, .ref q_74), (1, .ref q_1), (0, .ref b)]) hx hb dL_law_1767 hl (k := 0) rfl (by decide) (by decide) rfl (fun ls hl => ?_)
          refine lv_goto (tgt := 18) hx hb dL_law_1770 (by decide) ?_
          refine lv_iload_n hx hb dL_law_18 rfl (lv_at hl 0 rfl) ?_
          refine lv_aload_n hx hb dL_law_19 rfl (lv_at hl 3 rfl) ?_
          refine va_slen hx hb hX hbl hbA G.2.2.2.1 dL_law_20 ?_
          refine lv_bipush (v := 6) hx hb dL_law_21 (by decide) ?_
          refine lv_isub hx hb dL_law_23 ?_
          refine lv_topi (fun y_407 ey_407 => ?_)
          obtain rfl : y_407 = 0 := ey_407.trans (by decide)
          refine lv_icmp_gt (tgt := 1773) hx hb dL_law_24 (by decide) (fun _ => ?_) (fun q => absurd (by decide) q)
          refine lv_iconst (v := 1) hx hb dL_law_1773 (by decide) ?_
          refine va_forget (fun q hq => by have h9 := G.2.2.2.1.2.2 q hq; rw [hAe] at h9; exact h9) ?_
          refine W.widen (k := 600000) (n := 7302250) (Nat.le_of_ble_eq_true rfl) (Nat.le_of_ble_eq_true rfl) ?_
          exact lw_ret hx hb hr hlocks dL_law_1774
        · have c_394n : ¬ (xs 4).toInt = (0 : Int) := fun q => c_394 ((fa_eq _ _).mpr q)
          refine lv_iconst (v := 1) hx hb dL_law_898 (by decide) ?_
          refine lv_goto (tgt := 903) hx hb dL_law_899 (by decide) ?_
          refine z_Vi (bc := [[(q_1, .inr (10, [.ref t0_2, .ref ia_3, .ref im_4, .ref rd_5, .ref po_6, .ref co_7, .ref tr_8, .ref wa_9, .ref wb_10, .ref fi_11, .ref cd_12]))], [(t0_2, .inr (8, [.ref a1p_13, .int 0, .int 0, .int (-1), .ref a2p_14, .ref a3p_15, .ref a4p_16, .ref a5p_17]))], [(a2p_14, .inl (T.2 0, 3, .inl (fun _ => 0)))]]) (br := [[(a1p_13, .inl (T.2 1, 600, .inl f1p_18))], [(a3p_15, .inl (T.2 3, 2, .inr (.inr (.inr (.inr f3p_19)))))], [(a4p_16, .inl (T.2 4, 2, .inr (.inr (.inr (.inr f4p_20)))))], [(a5p_17, .inl (T.2 5, 2, .inr (.inr (.inr (.inr f5p_21)))))], w1p_28, w2p_29, w3p_30, w4p_31, w5p_32, w6p_33, [(ia_3, .inl (T.2 6, 3, .inr (.inr (.inr (.inr fq_34)))))], u0_38, u1_39, u2_40, [(im_4, .inl (T.2 2, 3, .inl (fun _ => 0)))], v_41, z1_42, z2_43, z3_44, w1_45, w2_46, w3_47, [(cd_12, .inl (T.2 0, 1000, .inl (fun _ => 0)))], [(q_74, .inr (11, [.ref r_all_75, .ref r_has_76, .int 0, .int 0, .int 0, .int 0, .int 0, .int 0, .int 0, .int 0, .ref r_read_77, .int 0, .int 0, .int 0, .ref r_posts_78, .ref r_shut_79, .ref r_here_80, .int 0, .int 0, .int 0, .int 0, .ref r_was_81, .ref r_came_82, .ref r_seenAt_83, .ref r_rowWorth_84, .ref r_farBy_85, .ref r_used_86, .int 0, .int 0, .int 0, .int 0, .int 0, .int 0, .int 0, .int 0, .int 0, .int 0, .int 0, .int 0, .ref r_fitPost_87, .ref r_fitEnd_88, .ref r_keptPosts_89, .int 0]))], [(r_all_75, .inl (T.2 0, 3952, .inl (upd (fun _ => 0) 6 (-1))))], [(r_has_76, .inl (T.2 2, 3, .inl (fun _ => 0)))], [(r_read_77, .inl (T.2 0, 121, .inl (fun _ => 0)))], [(r_posts_78, .inl (T.2 0, 7, .inl (fun _ => 0)))], [(r_shut_79, .inl (T.2 0, 7, .inl (fun _ => 0)))], [(r_here_80, .inl (T.2 0, 7, .inl (fun _ => 0)))], [(r_was_81, .inl (T.2 0, 7, .inl (fun _ => 0)))], [(r_came_82, .inl (T.2 0, 7, .inl (fun _ => 0)))], [(r_seenAt_83, .inl (T.2 0, 16384, .inl (fun _ => 0)))], [(r_rowWorth_84, .inl (T.2 0, 512, .inl (fun _ => 0)))], [(r_farBy_85, .inl (T.2 0, 49, .inl (fun _ => 0)))], [(r_used_86, .inl (T.2 0, 7, .inl (fun _ => 0)))], [(r_fitPost_87, .inl (T.2 0, 28, .inl (fun _ => 0)))], [(r_fitEnd_88, .inl (T.2 0, 49, .inl (fun _ => 0)))], [(r_keptPosts_89, .inl (T.2 0, 7, .inl (fun _ => 0)))]]) (As := [.int (xs 1), .int (xs 2), .int (xs 3), .int 1]) (rest := []) C G (c_x_game l T q_1 t0_2 ia_3 im_4 rd_5 po_6 co_7 tr_8 wa_9 wb_10 fi_11 cd_12 a1p_13 a2p_14 a3p_15 a4p_16 a5p_17 (xs 1) (xs 2) (xs 3) 1) (kV_RL_84 C.2.2.2.2 (Nat.le_of_ble_eq_true rfl) (Nat.le_of_ble_eq_true rfl)) [0, 1, 3] [2, 4, 5, 6, 7, 8, 9, 10, 11, 12, 13, 14, 15, 16, 17, 18, 19, 20, 21, 22, 23, 24, 25, 26, 27, 28, 29, 30, 31, 32, 33, 34, 35, 36, 37, 38, 39, 40, 41] rfl rfl (ci := 10) (qc := (RX11, TX11, 11)) rfl rfl (List.mem_flatten.mpr ⟨_, List.mem_of_getElem? (i := 0) rfl, List.mem_cons_self⟩) rfl rfl hl.1 dL_law_903 (Nat.le_of_ble_eq_true rfl) (Nat.le_of_ble_eq_true rfl) (fun r_409 b1 H locs hw G => ?_)
          obtain ⟨rfl, h_408⟩ := hw
          have G : zS T A s.heap s [[(a1p_13, .inl (T.2 1, 600, .inl f1p_18))], [(a3p_15, .inl (T.2 3, 2, .inr (.inr (.inr (.inr f3p_19)))))], [(a4p_16, .inl (T.2 4, 2, .inr (.inr (.inr (.inr f4p_20)))))], [(a5p_17, .inl (T.2 5, 2, .inr (.inr (.inr (.inr f5p_21)))))], w1p_28, w2p_29, w3p_30, w4p_31, w5p_32, w6p_33, [(ia_3, .inl (T.2 6, 3, .inr (.inr (.inr (.inr fq_34)))))], u0_38, u1_39, u2_40, [(im_4, .inl (T.2 2, 3, .inl (fun _ => 0)))], v_41, z1_42, z2_43, z3_44, w1_45, w2_46, w3_47, [(cd_12, .inl (T.2 0, 1000, .inl (fun _ => 0)))], [(q_74, .inr (11, [.ref r_all_75, .ref r_has_76, .int 0, .int 0, .int 0, .int 0, .int 0, .int 0, .int 0, .int 0, .ref r_read_77, .int 0, .int 0, .int 0, .ref r_posts_78, .ref r_shut_79, .ref r_here_80, .int 0, .int 0, .int 0, .int 0, .ref r_was_81, .ref r_came_82, .ref r_seenAt_83, .ref r_rowWorth_84, .ref r_farBy_85, .ref r_used_86, .int 0, .int 0, .int 0, .int 0, .int 0, .int 0, .int 0, .int 0, .int 0, .int 0, .int 0, .int 0, .ref r_fitPost_87, .ref r_fitEnd_88, .ref r_keptPosts_89, .int 0]))], [(r_all_75, .inl (T.2 0, 3952, .inl (upd (fun _ => 0) 6 (-1))))], [(r_has_76, .inl (T.2 2, 3, .inl (fun _ => 0)))], [(r_read_77, .inl (T.2 0, 121, .inl (fun _ => 0)))], [(r_posts_78, .inl (T.2 0, 7, .inl (fun _ => 0)))], [(r_shut_79, .inl (T.2 0, 7, .inl (fun _ => 0)))], [(r_here_80, .inl (T.2 0, 7, .inl (fun _ => 0)))], [(r_was_81, .inl (T.2 0, 7, .inl (fun _ => 0)))], [(r_came_82, .inl (T.2 0, 7, .inl (fun _ => 0)))], [(r_seenAt_83, .inl (T.2 0, 16384, .inl (fun _ => 0)))], [(r_rowWorth_84, .inl (T.2 0, 512, .inl (fun _ => 0)))], [(r_farBy_85, .inl (T.2 0, 49, .inl (fun _ => 0)))], [(r_used_86, .inl (T.2 0, 7, .inl (fun _ => 0)))], [(r_fitPost_87, .inl (T.2 0, 28, .inl (fun _ => 0)))], [(r_fitEnd_88, .inl (T.2 0, 49, .inl (fun _ => 0)))], [(r_keptPosts_89, .inl (T.2 0, 7, .inl (fun _ => 0)))]] _ _ := G
          subst h_408
          refine lv_aload_n hx hb dL_law_906 rfl (lv_at hl 1 rfl) ?_
          refine lv_aload_n hx hb dL_law_907 rfl (lv_at hl 3 rfl) ?_
          refine lv_iload_n hx hb dL_law_908 rfl (lv_at hl 0 rfl) ?_
          refine lv_iconst (v := 1) hx hb dL_law_909 (by decide) ?_
          refine lv_iadd hx hb dL_law_910 ?_
          refine lv_topi (fun y_410 ey_410 => ?_)
          obtain rfl : y_410 = 1 := ey_410.trans (by decide)
          refine va_sld hx hb hX hbl hbA G.2.2.2.1 (vp_in_nI (n := 1) (by decide) (by decide)) dL_law_911 ?_
          refine lv_topi (fun v_411 ev_411 => ?_)
          have ev_411 : v_411 = xs 1 := ev_411
          subst ev_411
          refine lv_aload_n hx hb dL_law_912 rfl (lv_at hl 3 rfl) ?_
          refine lv_iload_n hx hb dL_law_913 rfl (lv_at hl 0 rfl) ?_
          refine lv_iconst (v := 2) hx hb dL_law_914 (by decide) ?_
          refine lv_iadd hx hb dL_law_915 ?_
          refine lv_topi (fun y_412 ey_412 => ?_)
          obtain rfl : y_412 = 2 := ey_412.trans (by decide)
          refine va_sld hx hb hX hbl hbA G.2.2.2.1 (vp_in_nI (n := 2) (by decide) (by decide)) dL_law_916 ?_
          refine lv_topi (fun v_413 ev_413 => ?_)
          have ev_413 : v_413 = xs 2 := ev_413
          subst ev_413
          refine lv_aload_n hx hb dL_law_917 rfl (lv_at hl 3 rfl) ?_
          refine lv_iload_n hx hb dL_law_918 rfl (lv_at hl 0 rfl) ?_
          refine lv_iconst (v := 3) hx hb dL_law_919 (by decide) ?_
          refine lv_iadd hx hb dL_law_920 ?_
          refine lv_topi (fun y_414 ey_414 => ?_)
          obtain rfl : y_414 = 3 := ey_414.trans (by decide)
          refine va_sld hx hb hX hbl hbA G.2.2.2.1 (vp_in_nI (n := 3) (by decide) (by decide)) dL_law_921 ?_
          refine lv_topi (fun v_415 ev_415 => ?_)
          have ev_415 : v_415 = xs 3 := ev_415
          subst ev_415
          refine lv_aload_n hx hb dL_law_922 rfl (lv_at hl 3 rfl) ?_
          refine lv_iload_n hx hb dL_law_923 rfl (lv_at hl 0 rfl) ?_
          refine lv_iconst (v := 4) hx hb dL_law_924 (by decide) ?_
          refine lv_iadd hx hb dL_law_925 ?_
          refine lv_topi (fun y_416 ey_416 => ?_)
          obtain rfl : y_416 = 4 := ey_416.trans (by decide)
          refine va_sld hx hb hX hbl hbA G.2.2.2.1 (vp_in_nI (n := 4) (by decide) (by decide)) dL_law_926 ?_
          refine lv_topi (fun v_417 ev_417 => ?_)
          have ev_417 : v_417 = xs 4 := ev_417
          subst ev_417
          refine lv_if_eq (tgt := 934) hx hb dL_law_927 (by decide) (fun q => absurd q c_394) (fun _ => ?_)
          refine lv_iconst (v := 1) hx hb dL_law_930 (by decide) ?_
          refine lv_goto (tgt := 935) hx hb dL_law_931 (by decide) ?_
          refine z_Vi (bc := [[(q_74, .inr (11, [.ref r_all_75, .ref r_has_76, .int 0, .int 0, .int 0, .int 0, .int 0, .int 0, .int 0, .int 0, .ref r_read_77, .int 0, .int 0, .int 0, .ref r_posts_78, .ref r_shut_79, .ref r_here_80, .int 0, .int 0, .int 0, .int 0, .ref r_was_81, .ref r_came_82, .ref r_seenAt_83, .ref r_rowWorth_84, .ref r_farBy_85, .ref r_used_86, .int 0, .int 0, .int 0, .int 0, .int 0, .int 0, .int 0, .int 0, .int 0, .int 0, .int 0, .int 0, .ref r_fitPost_87, .ref r_fitEnd_88, .ref r_keptPosts_89, .int 0]))], [(r_all_75, .inl (T.2 0, 3952, .inl (upd (fun _ => 0) 6 (-1))))]]) (br := [[(a1p_13, .inl (T.2 1, 600, .inl f1p_18))], [(a3p_15, .inl (T.2 3, 2, .inr (.inr (.inr (.inr f3p_19)))))], [(a4p_16, .inl (T.2 4, 2, .inr (.inr (.inr (.inr f4p_20)))))], [(a5p_17, .inl (T.2 5, 2, .inr (.inr (.inr (.inr f5p_21)))))], w1p_28, w2p_29, w3p_30, w4p_31, w5p_32, w6p_33, [(ia_3, .inl (T.2 6, 3, .inr (.inr (.inr (.inr fq_34)))))], u0_38, u1_39, u2_40, [(im_4, .inl (T.2 2, 3, .inl (fun _ => 0)))], v_41, z1_42, z2_43, z3_44, w1_45, w2_46, w3_47, [(cd_12, .inl (T.2 0, 1000, .inl (fun _ => 0)))], [(r_has_76, .inl (T.2 2, 3, .inl (fun _ => 0)))], [(r_read_77, .inl (T.2 0, 121, .inl (fun _ => 0)))], [(r_posts_78, .inl (T.2 0, 7, .inl (fun _ => 0)))], [(r_shut_79, .inl (T.2 0, 7, .inl (fun _ => 0)))], [(r_here_80, .inl (T.2 0, 7, .inl (fun _ => 0)))], [(r_was_81, .inl (T.2 0, 7, .inl (fun _ => 0)))], [(r_came_82, .inl (T.2 0, 7, .inl (fun _ => 0)))], [(r_seenAt_83, .inl (T.2 0, 16384, .inl (fun _ => 0)))], [(r_rowWorth_84, .inl (T.2 0, 512, .inl (fun _ => 0)))], [(r_farBy_85, .inl (T.2 0, 49, .inl (fun _ => 0)))], [(r_used_86, .inl (T.2 0, 7, .inl (fun _ => 0)))], [(r_fitPost_87, .inl (T.2 0, 28, .inl (fun _ => 0)))], [(r_fitEnd_88, .inl (T.2 0, 49, .inl (fun _ => 0)))], [(r_keptPosts_89, .inl (T.2 0, 7, .inl (fun _ => 0)))]]) (As := [.int (xs 1), .int (xs 2), .int (xs 3), .int 1]) (rest := [.int (-9)]) C G (c_m_game l T q_74 r_all_75 r_has_76 r_read_77 r_posts_78 r_shut_79 r_here_80 r_was_81 r_came_82 r_seenAt_83 r_rowWorth_84 r_farBy_85 r_used_86 r_fitPost_87 r_fitEnd_88 r_keptPosts_89 (xs 1) (xs 2) (xs 3) 1) (kV_RL_87 C.2.2.2.2 (Nat.le_of_ble_eq_true rfl) (Nat.le_of_ble_eq_true rfl)) [23, 24] [0, 1, 2, 3, 4, 5, 6, 7, 8, 9, 10, 11, 12, 13, 14, 15, 16, 17, 18, 19, 20, 21, 22, 25, 26, 27, 28, 29, 30, 31, 32, 33, 34, 35, 36, 37, 38] rfl rfl (ci := 11) (qc := (RX12, TX12, 43)) rfl rfl (List.mem_flatten.mpr ⟨_, List.mem_of_getElem? (i := 0) rfl, List.mem_cons_self⟩) rfl rfl hl.1 dL_law_935 (Nat.le_of_ble_eq_true rfl) (Nat.le_of_ble_eq_true rfl) (fun r_419 b1 H locs hw G => ?_)
          obtain ⟨rfl, h_418⟩ := hw
          have G : zS T A s.heap s [[(a1p_13, .inl (T.2 1, 600, .inl f1p_18))], [(a3p_15, .inl (T.2 3, 2, .inr (.inr (.inr (.inr f3p_19)))))], [(a4p_16, .inl (T.2 4, 2, .inr (.inr (.inr (.inr f4p_20)))))], [(a5p_17, .inl (T.2 5, 2, .inr (.inr (.inr (.inr f5p_21)))))], w1p_28, w2p_29, w3p_30, w4p_31, w5p_32, w6p_33, [(ia_3, .inl (T.2 6, 3, .inr (.inr (.inr (.inr fq_34)))))], u0_38, u1_39, u2_40, [(im_4, .inl (T.2 2, 3, .inl (fun _ => 0)))], v_41, z1_42, z2_43, z3_44, w1_45, w2_46, w3_47, [(cd_12, .inl (T.2 0, 1000, .inl (fun _ => 0)))], [(r_has_76, .inl (T.2 2, 3, .inl (fun _ => 0)))], [(r_read_77, .inl (T.2 0, 121, .inl (fun _ => 0)))], [(r_posts_78, .inl (T.2 0, 7, .inl (fun _ => 0)))], [(r_shut_79, .inl (T.2 0, 7, .inl (fun _ => 0)))], [(r_here_80, .inl (T.2 0, 7, .inl (fun _ => 0)))], [(r_was_81, .inl (T.2 0, 7, .inl (fun _ => 0)))], [(r_came_82, .inl (T.2 0, 7, .inl (fun _ => 0)))], [(r_seenAt_83, .inl (T.2 0, 16384, .inl (fun _ => 0)))], [(r_rowWorth_84, .inl (T.2 0, 512, .inl (fun _ => 0)))], [(r_farBy_85, .inl (T.2 0, 49, .inl (fun _ => 0)))], [(r_used_86, .inl (T.2 0, 7, .inl (fun _ => 0)))], [(r_fitPost_87, .inl (T.2 0, 28, .inl (fun _ => 0)))], [(r_fitEnd_88, .inl (T.2 0, 49, .inl (fun _ => 0)))], [(r_keptPosts_89, .inl (T.2 0, 7, .inl (fun _ => 0)))]] _ _ := G
          subst h_418
          refine lv_icmp_eq (tgt := 1767) hx hb dL_law_938 (by decide) (fun _ => ?_) (fun q => absurd (by decide) q)
          refine lv_iinc (v := 6) (lv' := [(3, .int 6), (2, .ref q_74), (1, .ref q_1), (0, .ref b)]) hx hb dL_law_1767 hl (k := 0) rfl (by decide) (by decide) rfl (fun ls hl => ?_)
          refine lv_goto (tgt := 18) hx hb dL_law_1770 (by decide) ?_
          refine lv_iload_n hx hb dL_law_18 rfl (lv_at hl 0 rfl) ?_
          refine lv_aload_n hx hb dL_law_19 rfl (lv_at hl 3 rfl) ?_
          refine va_slen hx hb hX hbl hbA G.2.2.2.1 dL_law_20 ?_
          refine lv_bipush (v := 6) hx hb dL_law_21 (by decide) ?_
          refine lv_isub hx hb dL_law_23 ?_
          refine lv_topi (fun y_420 ey_420 => ?_)
          obtain rfl : y_420 = 0 := ey_420.trans (by decide)
          refine lv_icmp_gt (tgt := 1773) hx hb dL_law_24 (by decide) (fun _ => ?_) (fun q => absurd (by decide) q)
          refine lv_iconst (v := 1) hx hb dL_law_1773 (by decide) ?_
          refine va_forget (fun q hq => by have h9 := G.2.2.2.1.2.2 q hq; rw [hAe] at h9; exact h9) ?_
          refine W.widen (k := 600000) (n := 7302250) (Nat.le_of_ble_eq_true rfl) (Nat.le_of_ble_eq_true rfl) ?_
          exact lw_ret hx hb hr hlocks dL_law_1774
      · refine lv_tableIn (tgt := 943) hx hb dL_law_33 (by omega) (by omega) (by rw [c_94]; rfl) (by decide) ?_
        refine lv_aload_n hx hb dL_law_943 rfl (lv_at hl 2 rfl) ?_
        refine lv_aload_n hx hb dL_law_944 rfl (lv_at hl 3 rfl) ?_
        refine lv_iload_n hx hb dL_law_945 rfl (lv_at hl 0 rfl) ?_
        refine lv_iconst (v := 1) hx hb dL_law_946 (by decide) ?_
        refine lv_iadd hx hb dL_law_947 ?_
        refine lv_topi (fun y_421 ey_421 => ?_)
        obtain rfl : y_421 = 1 := ey_421.trans (by decide)
        refine va_sld hx hb hX hbl hbA G.2.2.2.1 (vp_in_nI (n := 1) (by decide) (by decide)) dL_law_948 ?_
        refine lv_topi (fun v_422 ev_422 => ?_)
        have ev_422 : v_422 = xs 1 := ev_422
        subst ev_422
        refine lv_aload_n hx hb dL_law_949 rfl (lv_at hl 3 rfl) ?_
        refine lv_iload_n hx hb dL_law_950 rfl (lv_at hl 0 rfl) ?_
        refine lv_iconst (v := 2) hx hb dL_law_951 (by decide) ?_
        refine lv_iadd hx hb dL_law_952 ?_
        refine lv_topi (fun y_423 ey_423 => ?_)
        obtain rfl : y_423 = 2 := ey_423.trans (by decide)
        refine va_sld hx hb hX hbl hbA G.2.2.2.1 (vp_in_nI (n := 2) (by decide) (by decide)) dL_law_953 ?_
        refine lv_topi (fun v_424 ev_424 => ?_)
        have ev_424 : v_424 = xs 2 := ev_424
        subst ev_424
        refine lv_aload_n hx hb dL_law_954 rfl (lv_at hl 3 rfl) ?_
        refine lv_iload_n hx hb dL_law_955 rfl (lv_at hl 0 rfl) ?_
        refine lv_iconst (v := 3) hx hb dL_law_956 (by decide) ?_
        refine lv_iadd hx hb dL_law_957 ?_
        refine lv_topi (fun y_425 ey_425 => ?_)
        obtain rfl : y_425 = 3 := ey_425.trans (by decide)
        refine va_sld hx hb hX hbl hbA G.2.2.2.1 (vp_in_nI (n := 3) (by decide) (by decide)) dL_law_958 ?_
        refine lv_topi (fun v_426 ev_426 => ?_)
        have ev_426 : v_426 = xs 3 := ev_426
        subst ev_426
        refine z_Vi (bc := [[(q_1, .inr (10, [.ref t0_2, .ref ia_3, .ref im_4, .ref rd_5, .ref po_6, .ref co_7, .ref tr_8, .ref wa_9, .ref wb_10, .ref fi_11, .ref cd_12]))], [(t0_2, .inr (8, [.ref a1p_13, .int 0, .int 0, .int (-1), .ref a2p_14, .ref a3p_15, .ref a4p_16, .ref a5p_17]))], [(a2p_14, .inl (T.2 0, 3, .inl (fun _ => 0)))]]) (br := [[(a1p_13, .inl (T.2 1, 600, .inl f1p_18))], [(a3p_15, .inl (T.2 3, 2, .inr (.inr (.inr (.inr f3p_19)))))], [(a4p_16, .inl (T.2 4, 2, .inr (.inr (.inr (.inr f4p_20)))))], [(a5p_17, .inl (T.2 5, 2, .inr (.inr (.inr (.inr f5p_21)))))], w1p_28, w2p_29, w3p_30, w4p_31, w5p_32, w6p_33, [(ia_3, .inl (T.2 6, 3, .inr (.inr (.inr (.inr fq_34)))))], u0_38, u1_39, u2_40, [(im_4, .inl (T.2 2, 3, .inl (fun _ => 0)))], v_41, z1_42, z2_43, z3_44, w1_45, w2_46, w3_47, [(cd_12, .inl (T.2 0, 1000, .inl (fun _ => 0)))], [(q_74, .inr (11, [.ref r_all_75, .ref r_has_76, .int 0, .int 0, .int 0, .int 0, .int 0, .int 0, .int 0, .int 0, .ref r_read_77, .int 0, .int 0, .int 0, .ref r_posts_78, .ref r_shut_79, .ref r_here_80, .int 0, .int 0, .int 0, .int 0, .ref r_was_81, .ref r_came_82, .ref r_seenAt_83, .ref r_rowWorth_84, .ref r_farBy_85, .ref r_used_86, .int 0, .int 0, .int 0, .int 0, .int 0, .int 0, .int 0, .int 0, .int 0, .int 0, .int 0, .int 0, .ref r_fitPost_87, .ref r_fitEnd_88, .ref r_keptPosts_89, .int 0]))], [(r_all_75, .inl (T.2 0, 3952, .inl (upd (fun _ => 0) 6 (-1))))], [(r_has_76, .inl (T.2 2, 3, .inl (fun _ => 0)))], [(r_read_77, .inl (T.2 0, 121, .inl (fun _ => 0)))], [(r_posts_78, .inl (T.2 0, 7, .inl (fun _ => 0)))], [(r_shut_79, .inl (T.2 0, 7, .inl (fun _ => 0)))], [(r_here_80, .inl (T.2 0, 7, .inl (fun _ => 0)))], [(r_was_81, .inl (T.2 0, 7, .inl (fun _ => 0)))], [(r_came_82, .inl (T.2 0, 7, .inl (fun _ => 0)))], [(r_seenAt_83, .inl (T.2 0, 16384, .inl (fun _ => 0)))], [(r_rowWorth_84, .inl (T.2 0, 512, .inl (fun _ => 0)))], [(r_farBy_85, .inl (T.2 0, 49, .inl (fun _ => 0)))], [(r_used_86, .inl (T.2 0, 7, .inl (fun _ => 0)))], [(r_fitPost_87, .inl (T.2 0, 28, .inl (fun _ => 0)))], [(r_fitEnd_88, .inl (T.2 0, 49, .inl (fun _ => 0)))], [(r_keptPosts_89, .inl (T.2 0, 7, .inl (fun _ => 0)))]]) (As := [.int (xs 1), .int (xs 2), .int (xs 3)]) (rest := []) C G (c_x_fact l T q_1 t0_2 ia_3 im_4 rd_5 po_6 co_7 tr_8 wa_9 wb_10 fi_11 cd_12 a1p_13 a2p_14 a3p_15 a4p_16 a5p_17 (xs 1) (xs 2) (xs 3)) (kV_RL_88 C.2.2.2.2 (Nat.le_of_ble_eq_true rfl) (Nat.le_of_ble_eq_true rfl)) [0, 1, 3] [2, 4, 5, 6, 7, 8, 9, 10, 11, 12, 13, 14, 15, 16, 17, 18, 19, 20, 21, 22, 23, 24, 25, 26, 27, 28, 29, 30, 31, 32, 33, 34, 35, 36, 37, 38, 39, 40, 41] rfl rfl (ci := 10) (qc := (RX11, TX11, 11)) rfl rfl (List.mem_flatten.mpr ⟨_, List.mem_of_getElem? (i := 0) rfl, List.mem_cons_self⟩) rfl rfl hl.1 dL_law_959 (Nat.le_of_ble_eq_true rfl) (Nat.le_of_ble_eq_true rfl) (fun r_428 b1 H locs hw G => ?_)
        obtain ⟨rfl, h_427⟩ := hw
        have G : zS T A s.heap s [[(a1p_13, .inl (T.2 1, 600, .inl f1p_18))], [(a3p_15, .inl (T.2 3, 2, .inr (.inr (.inr (.inr f3p_19)))))], [(a4p_16, .inl (T.2 4, 2, .inr (.inr (.inr (.inr f4p_20)))))], [(a5p_17, .inl (T.2 5, 2, .inr (.inr (.inr (.inr f5p_21)))))], w1p_28, w2p_29, w3p_30, w4p_31, w5p_32, w6p_33, [(ia_3, .inl (T.2 6, 3, .inr (.inr (.inr (.inr fq_34)))))], u0_38, u1_39, u2_40, [(im_4, .inl (T.2 2, 3, .inl (fun _ => 0)))], v_41, z1_42, z2_43, z3_44, w1_45, w2_46, w3_47, [(cd_12, .inl (T.2 0, 1000, .inl (fun _ => 0)))], [(q_74, .inr (11, [.ref r_all_75, .ref r_has_76, .int 0, .int 0, .int 0, .int 0, .int 0, .int 0, .int 0, .int 0, .ref r_read_77, .int 0, .int 0, .int 0, .ref r_posts_78, .ref r_shut_79, .ref r_here_80, .int 0, .int 0, .int 0, .int 0, .ref r_was_81, .ref r_came_82, .ref r_seenAt_83, .ref r_rowWorth_84, .ref r_farBy_85, .ref r_used_86, .int 0, .int 0, .int 0, .int 0, .int 0, .int 0, .int 0, .int 0, .int 0, .int 0, .int 0, .int 0, .ref r_fitPost_87, .ref r_fitEnd_88, .ref r_keptPosts_89, .int 0]))], [(r_all_75, .inl (T.2 0, 3952, .inl (upd (fun _ => 0) 6 (-1))))], [(r_has_76, .inl (T.2 2, 3, .inl (fun _ => 0)))], [(r_read_77, .inl (T.2 0, 121, .inl (fun _ => 0)))], [(r_posts_78, .inl (T.2 0, 7, .inl (fun _ => 0)))], [(r_shut_79, .inl (T.2 0, 7, .inl (fun _ => 0)))], [(r_here_80, .inl (T.2 0, 7, .inl (fun _ => 0)))], [(r_was_81, .inl (T.2 0, 7, .inl (fun _ => 0)))], [(r_came_82, .inl (T.2 0, 7, .inl (fun _ => 0)))], [(r_seenAt_83, .inl (T.2 0, 16384, .inl (fun _ => 0)))], [(r_rowWorth_84, .inl (T.2 0, 512, .inl (fun _ => 0)))], [(r_farBy_85, .inl (T.2 0, 49, .inl (fun _ => 0)))], [(r_used_86, .inl (T.2 0, 7, .inl (fun _ => 0)))], [(r_fitPost_87, .inl (T.2 0, 28, .inl (fun _ => 0)))], [(r_fitEnd_88, .inl (T.2 0, 49, .inl (fun _ => 0)))], [(r_keptPosts_89, .inl (T.2 0, 7, .inl (fun _ => 0)))]] _ _ := G
        subst h_427
        refine lv_aload_n hx hb dL_law_962 rfl (lv_at hl 1 rfl) ?_
        refine lv_aload_n hx hb dL_law_963 rfl (lv_at hl 3 rfl) ?_
        refine lv_iload_n hx hb dL_law_964 rfl (lv_at hl 0 rfl) ?_
        refine lv_iconst (v := 1) hx hb dL_law_965 (by decide) ?_
        refine lv_iadd hx hb dL_law_966 ?_
        refine lv_topi (fun y_429 ey_429 => ?_)
        obtain rfl : y_429 = 1 := ey_429.trans (by decide)
        refine va_sld hx hb hX hbl hbA G.2.2.2.1 (vp_in_nI (n := 1) (by decide) (by decide)) dL_law_967 ?_
        refine lv_topi (fun v_430 ev_430 => ?_)
        have ev_430 : v_430 = xs 1 := ev_430
        subst ev_430
        refine lv_aload_n hx hb dL_law_968 rfl (lv_at hl 3 rfl) ?_
        refine lv_iload_n hx hb dL_law_969 rfl (lv_at hl 0 rfl) ?_
        refine lv_iconst (v := 2) hx hb dL_law_970 (by decide) ?_
        refine lv_iadd hx hb dL_law_971 ?_
        refine lv_topi (fun y_431 ey_431 => ?_)
        obtain rfl : y_431 = 2 := ey_431.trans (by decide)
        refine va_sld hx hb hX hbl hbA G.2.2.2.1 (vp_in_nI (n := 2) (by decide) (by decide)) dL_law_972 ?_
        refine lv_topi (fun v_432 ev_432 => ?_)
        have ev_432 : v_432 = xs 2 := ev_432
        subst ev_432
        refine lv_aload_n hx hb dL_law_973 rfl (lv_at hl 3 rfl) ?_
        refine lv_iload_n hx hb dL_law_974 rfl (lv_at hl 0 rfl) ?_
        refine lv_iconst (v := 3) hx hb dL_law_975 (by decide) ?_
        refine lv_iadd hx hb dL_law_976 ?_
        refine lv_topi (fun y_433 ey_433 => ?_)
        obtain rfl : y_433 = 3 := ey_433.trans (by decide)
        refine va_sld hx hb hX hbl hbA G.2.2.2.1 (vp_in_nI (n := 3) (by decide) (by decide)) dL_law_977 ?_
        refine lv_topi (fun v_434 ev_434 => ?_)
        have ev_434 : v_434 = xs 3 := ev_434
        subst ev_434
        refine z_Vi (bc := [[(q_74, .inr (11, [.ref r_all_75, .ref r_has_76, .int 0, .int 0, .int 0, .int 0, .int 0, .int 0, .int 0, .int 0, .ref r_read_77, .int 0, .int 0, .int 0, .ref r_posts_78, .ref r_shut_79, .ref r_here_80, .int 0, .int 0, .int 0, .int 0, .ref r_was_81, .ref r_came_82, .ref r_seenAt_83, .ref r_rowWorth_84, .ref r_farBy_85, .ref r_used_86, .int 0, .int 0, .int 0, .int 0, .int 0, .int 0, .int 0, .int 0, .int 0, .int 0, .int 0, .int 0, .ref r_fitPost_87, .ref r_fitEnd_88, .ref r_keptPosts_89, .int 0]))], [(r_all_75, .inl (T.2 0, 3952, .inl (upd (fun _ => 0) 6 (-1))))]]) (br := [[(a1p_13, .inl (T.2 1, 600, .inl f1p_18))], [(a3p_15, .inl (T.2 3, 2, .inr (.inr (.inr (.inr f3p_19)))))], [(a4p_16, .inl (T.2 4, 2, .inr (.inr (.inr (.inr f4p_20)))))], [(a5p_17, .inl (T.2 5, 2, .inr (.inr (.inr (.inr f5p_21)))))], w1p_28, w2p_29, w3p_30, w4p_31, w5p_32, w6p_33, [(ia_3, .inl (T.2 6, 3, .inr (.inr (.inr (.inr fq_34)))))], u0_38, u1_39, u2_40, [(im_4, .inl (T.2 2, 3, .inl (fun _ => 0)))], v_41, z1_42, z2_43, z3_44, w1_45, w2_46, w3_47, [(cd_12, .inl (T.2 0, 1000, .inl (fun _ => 0)))], [(r_has_76, .inl (T.2 2, 3, .inl (fun _ => 0)))], [(r_read_77, .inl (T.2 0, 121, .inl (fun _ => 0)))], [(r_posts_78, .inl (T.2 0, 7, .inl (fun _ => 0)))], [(r_shut_79, .inl (T.2 0, 7, .inl (fun _ => 0)))], [(r_here_80, .inl (T.2 0, 7, .inl (fun _ => 0)))], [(r_was_81, .inl (T.2 0, 7, .inl (fun _ => 0)))], [(r_came_82, .inl (T.2 0, 7, .inl (fun _ => 0)))], [(r_seenAt_83, .inl (T.2 0, 16384, .inl (fun _ => 0)))], [(r_rowWorth_84, .inl (T.2 0, 512, .inl (fun _ => 0)))], [(r_farBy_85, .inl (T.2 0, 49, .inl (fun _ => 0)))], [(r_used_86, .inl (T.2 0, 7, .inl (fun _ => 0)))], [(r_fitPost_87, .inl (T.2 0, 28, .inl (fun _ => 0)))], [(r_fitEnd_88, .inl (T.2 0, 49, .inl (fun _ => 0)))], [(r_keptPosts_89, .inl (T.2 0, 7, .inl (fun _ => 0)))]]) (As := [.int (xs 1), .int (xs 2), .int (xs 3)]) (rest := [.int (-2)]) C G (c_m_fact l T q_74 r_all_75 r_has_76 r_read_77 r_posts_78 r_shut_79 r_here_80 r_was_81 r_came_82 r_seenAt_83 r_rowWorth_84 r_farBy_85 r_used_86 r_fitPost_87 r_fitEnd_88 r_keptPosts_89 (xs 1) (xs 2) (xs 3)) (kV_RL_91 C.2.2.2.2 (Nat.le_of_ble_eq_true rfl) (Nat.le_of_ble_eq_true rfl)) [23, 24] [0, 1, 2, 3, 4, 5, 6, 7, 8, 9, 10, 11, 12, 13, 14, 15, 16, 17, 18, 19, 20, 21, 22, 25, 26, 27, 28, 29, 30, 31, 32, 33, 34, 35, 36, 37, 38] rfl rfl (ci := 11) (qc := (RX12, TX12, 43)) rfl rfl (List.mem_flatten.mpr ⟨_, List.mem_of_getElem? (i := 0) rfl, List.mem_cons_self⟩) rfl rfl hl.1 dL_law_978 (Nat.le_of_ble_eq_true rfl) (Nat.le_of_ble_eq_true rfl) (fun r_436 b1 H locs hw G => ?_)
        obtain ⟨rfl, h_435⟩ := hw
        have G : zS T A s.heap s [[(a1p_13, .inl (T.2 1, 600, .inl f1p_18))], [(a3p_15, .inl (T.2 3, 2, .inr (.inr (.inr (.inr f3p_19)))))], [(a4p_16, .inl (T.2 4, 2, .inr (.inr (.inr (.inr f4p_20)))))], [(a5p_17, .inl (T.2 5, 2, .inr (.inr (.inr (.inr f5p_21)))))], w1p_28, w2p_29, w3p_30, w4p_31, w5p_32, w6p_33, [(ia_3, .inl (T.2 6, 3, .inr (.inr (.inr (.inr fq_34)))))], u0_38, u1_39, u2_40, [(im_4, .inl (T.2 2, 3, .inl (fun _ => 0)))], v_41, z1_42, z2_43, z3_44, w1_45, w2_46, w3_47, [(cd_12, .inl (T.2 0, 1000, .inl (fun _ => 0)))], [(r_has_76, .inl (T.2 2, 3, .inl (fun _ => 0)))], [(r_read_77, .inl (T.2 0, 121, .inl (fun _ => 0)))], [(r_posts_78, .inl (T.2 0, 7, .inl (fun _ => 0)))], [(r_shut_79, .inl (T.2 0, 7, .inl (fun _ => 0)))], [(r_here_80, .inl (T.2 0, 7, .inl (fun _ => 0)))], [(r_was_81, .inl (T.2 0, 7, .inl (fun _ => 0)))], [(r_came_82, .inl (T.2 0, 7, .inl (fun _ => 0)))], [(r_seenAt_83, .inl (T.2 0, 16384, .inl (fun _ => 0)))], [(r_rowWorth_84, .inl (T.2 0, 512, .inl (fun _ => 0)))], [(r_farBy_85, .inl (T.2 0, 49, .inl (fun _ => 0)))], [(r_used_86, .inl (T.2 0, 7, .inl (fun _ => 0)))], [(r_fitPost_87, .inl (T.2 0, 28, .inl (fun _ => 0)))], [(r_fitEnd_88, .inl (T.2 0, 49, .inl (fun _ => 0)))], [(r_keptPosts_89, .inl (T.2 0, 7, .inl (fun _ => 0)))]] _ _ := G
        subst h_435
        refine lv_icmp_eq (tgt := 1767) hx hb dL_law_981 (by decide) (fun _ => ?_) (fun q => absurd (by decide) q)
        refine lv_iinc (v := 6) (lv' := [(3, .int 6), (2, .ref q_74), (1, .ref q_1), (0, .ref b)]) hx hb dL_law_1767 hl (k := 0) rfl (by decide) (by decide) rfl (fun ls hl => ?_)
        refine lv_goto (tgt := 18) hx hb dL_law_1770 (by decide) ?_
        refine lv_iload_n hx hb dL_law_18 rfl (lv_at hl 0 rfl) ?_
        refine lv_aload_n hx hb dL_law_19 rfl (lv_at hl 3 rfl) ?_
        refine va_slen hx hb hX hbl hbA G.2.2.2.1 dL_law_20 ?_
        refine lv_bipush (v := 6) hx hb dL_law_21 (by decide) ?_
        refine lv_isub hx hb dL_law_23 ?_
        refine lv_topi (fun y_437 ey_437 => ?_)
        obtain rfl : y_437 = 0 := ey_437.trans (by decide)
        refine lv_icmp_gt (tgt := 1773) hx hb dL_law_24 (by decide) (fun _ => ?_) (fun q => absurd (by decide) q)
        refine lv_iconst (v := 1) hx hb dL_law_1773 (by decide) ?_
        refine va_forget (fun q hq => by have h9 := G.2.2.2.1.2.2 q hq; rw [hAe] at h9; exact h9) ?_
        refine W.widen (k := 600000) (n := 7302250) (Nat.le_of_ble_eq_true rfl) (Nat.le_of_ble_eq_true rfl) ?_
        exact lw_ret hx hb hr hlocks dL_law_1774
      · refine lv_tableIn (tgt := 986) hx hb dL_law_33 (by omega) (by omega) (by rw [c_94]; rfl) (by decide) ?_
        refine lv_aload_n hx hb dL_law_986 rfl (lv_at hl 2 rfl) ?_
        refine lv_aload_n hx hb dL_law_987 rfl (lv_at hl 3 rfl) ?_
        refine lv_iload_n hx hb dL_law_988 rfl (lv_at hl 0 rfl) ?_
        refine lv_iconst (v := 1) hx hb dL_law_989 (by decide) ?_
        refine lv_iadd hx hb dL_law_990 ?_
        refine lv_topi (fun y_438 ey_438 => ?_)
        obtain rfl : y_438 = 1 := ey_438.trans (by decide)
        refine va_sld hx hb hX hbl hbA G.2.2.2.1 (vp_in_nI (n := 1) (by decide) (by decide)) dL_law_991 ?_
        refine lv_topi (fun v_439 ev_439 => ?_)
        have ev_439 : v_439 = xs 1 := ev_439
        subst ev_439
        refine lv_aload_n hx hb dL_law_992 rfl (lv_at hl 3 rfl) ?_
        refine lv_iload_n hx hb dL_law_993 rfl (lv_at hl 0 rfl) ?_
        refine lv_iconst (v := 2) hx hb dL_law_994 (by decide) ?_
        refine lv_iadd hx hb dL_law_995 ?_
        refine lv_topi (fun y_440 ey_440 => ?_)
        obtain rfl : y_440 = 2 := ey_440.trans (by decide)
        refine va_sld hx hb hX hbl hbA G.2.2.2.1 (vp_in_nI (n := 2) (by decide) (by decide)) dL_law_996 ?_
        refine lv_topi (fun v_441 ev_441 => ?_)
        have ev_441 : v_441 = xs 2 := ev_441
        subst ev_441
        refine lv_aload_n hx hb dL_law_997 rfl (lv_at hl 3 rfl) ?_
        refine lv_iload_n hx hb dL_law_998 rfl (lv_at hl 0 rfl) ?_
        refine lv_iconst (v := 3) hx hb dL_law_999 (by decide) ?_
        refine lv_iadd hx hb dL_law_1000 ?_
        refine lv_topi (fun y_442 ey_442 => ?_)
        obtain rfl : y_442 = 3 := ey_442.trans (by decide)
        refine va_sld hx hb hX hbl hbA G.2.2.2.1 (vp_in_nI (n := 3) (by decide) (by decide)) dL_law_1001 ?_
        refine lv_topi (fun v_443 ev_443 => ?_)
        have ev_443 : v_443 = xs 3 := ev_443
        subst ev_443
        refine z_Vi (bc := [[(q_1, .inr (10, [.ref t0_2, .ref ia_3, .ref im_4, .ref rd_5, .ref po_6, .ref co_7, .ref tr_8, .ref wa_9, .ref wb_10, .ref fi_11, .ref cd_12]))], [(t0_2, .inr (8, [.ref a1p_13, .int 0, .int 0, .int (-1), .ref a2p_14, .ref a3p_15, .ref a4p_16, .ref a5p_17]))], [(a2p_14, .inl (T.2 0, 3, .inl (fun _ => 0)))]]) (br := [[(a1p_13, .inl (T.2 1, 600, .inl f1p_18))], [(a3p_15, .inl (T.2 3, 2, .inr (.inr (.inr (.inr f3p_19)))))], [(a4p_16, .inl (T.2 4, 2, .inr (.inr (.inr (.inr f4p_20)))))], [(a5p_17, .inl (T.2 5, 2, .inr (.inr (.inr (.inr f5p_21)))))], w1p_28, w2p_29, w3p_30, w4p_31, w5p_32, w6p_33, [(ia_3, .inl (T.2 6, 3, .inr (.inr (.inr (.inr fq_34)))))], u0_38, u1_39, u2_40, [(im_4, .inl (T.2 2, 3, .inl (fun _ => 0)))], v_41, z1_42, z2_43, z3_44, w1_45, w2_46, w3_47, [(cd_12, .inl (T.2 0, 1000, .inl (fun _ => 0)))], [(q_74, .inr (11, [.ref r_all_75, .ref r_has_76, .int 0, .int 0, .int 0, .int 0, .int 0, .int 0, .int 0, .int 0, .ref r_read_77, .int 0, .int 0, .int 0, .ref r_posts_78, .ref r_shut_79, .ref r_here_80, .int 0, .int 0, .int 0, .int 0, .ref r_was_81, .ref r_came_82, .ref r_seenAt_83, .ref r_rowWorth_84, .ref r_farBy_85, .ref r_used_86, .int 0, .int 0, .int 0, .int 0, .int 0, .int 0, .int 0, .int 0, .int 0, .int 0, .int 0, .int 0, .ref r_fitPost_87, .ref r_fitEnd_88, .ref r_keptPosts_89, .int 0]))], [(r_all_75, .inl (T.2 0, 3952, .inl (upd (fun _ => 0) 6 (-1))))], [(r_has_76, .inl (T.2 2, 3, .inl (fun _ => 0)))], [(r_read_77, .inl (T.2 0, 121, .inl (fun _ => 0)))], [(r_posts_78, .inl (T.2 0, 7, .inl (fun _ => 0)))], [(r_shut_79, .inl (T.2 0, 7, .inl (fun _ => 0)))], [(r_here_80, .inl (T.2 0, 7, .inl (fun _ => 0)))], [(r_was_81, .inl (T.2 0, 7, .inl (fun _ => 0)))], [(r_came_82, .inl (T.2 0, 7, .inl (fun _ => 0)))], [(r_seenAt_83, .inl (T.2 0, 16384, .inl (fun _ => 0)))], [(r_rowWorth_84, .inl (T.2 0, 512, .inl (fun _ => 0)))], [(r_farBy_85, .inl (T.2 0, 49, .inl (fun _ => 0)))], [(r_used_86, .inl (T.2 0, 7, .inl (fun _ => 0)))], [(r_fitPost_87, .inl (T.2 0, 28, .inl (fun _ => 0)))], [(r_fitEnd_88, .inl (T.2 0, 49, .inl (fun _ => 0)))], [(r_keptPosts_89, .inl (T.2 0, 7, .inl (fun _ => 0)))]]) (As := [.int (xs 1), .int (xs 2), .int (xs 3)]) (rest := []) C G (c_x_fits l T q_1 t0_2 ia_3 im_4 rd_5 po_6 co_7 tr_8 wa_9 wb_10 fi_11 cd_12 a1p_13 a2p_14 a3p_15 a4p_16 a5p_17 (xs 1) (xs 2) (xs 3)) (kV_RL_92 C.2.2.2.2 (Nat.le_of_ble_eq_true rfl) (Nat.le_of_ble_eq_true rfl)) [0, 1, 3] [2, 4, 5, 6, 7, 8, 9, 10, 11, 12, 13, 14, 15, 16, 17, 18, 19, 20, 21, 22, 23, 24, 25, 26, 27, 28, 29, 30, 31, 32, 33, 34, 35, 36, 37, 38, 39, 40, 41] rfl rfl (ci := 10) (qc := (RX11, TX11, 11)) rfl rfl (List.mem_flatten.mpr ⟨_, List.mem_of_getElem? (i := 0) rfl, List.mem_cons_self⟩) rfl rfl hl.1 dL_law_1002 (Nat.le_of_ble_eq_true rfl) (Nat.le_of_ble_eq_true rfl) (fun r_445 b1 H locs hw G => ?_)
        obtain ⟨rfl, h_444⟩ := hw
        have G : zS T A s.heap s [[(a1p_13, .inl (T.2 1, 600, .inl f1p_18))], [(a3p_15, .inl (T.2 3, 2, .inr (.inr (.inr (.inr f3p_19)))))], [(a4p_16, .inl (T.2 4, 2, .inr (.inr (.inr (.inr f4p_20)))))], [(a5p_17, .inl (T.2 5, 2, .inr (.inr (.inr (.inr f5p_21)))))], w1p_28, w2p_29, w3p_30, w4p_31, w5p_32, w6p_33, [(ia_3, .inl (T.2 6, 3, .inr (.inr (.inr (.inr fq_34)))))], u0_38, u1_39, u2_40, [(im_4, .inl (T.2 2, 3, .inl (fun _ => 0)))], v_41, z1_42, z2_43, z3_44, w1_45, w2_46, w3_47, [(cd_12, .inl (T.2 0, 1000, .inl (fun _ => 0)))], [(q_74, .inr (11, [.ref r_all_75, .ref r_has_76, .int 0, .int 0, .int 0, .int 0, .int 0, .int 0, .int 0, .int 0, .ref r_read_77, .int 0, .int 0, .int 0, .ref r_posts_78, .ref r_shut_79, .ref r_here_80, .int 0, .int 0, .int 0, .int 0, .ref r_was_81, .ref r_came_82, .ref r_seenAt_83, .ref r_rowWorth_84, .ref r_farBy_85, .ref r_used_86, .int 0, .int 0, .int 0, .int 0, .int 0, .int 0, .int 0, .int 0, .int 0, .int 0, .int 0, .int 0, .ref r_fitPost_87, .ref r_fitEnd_88, .ref r_keptPosts_89, .int 0]))], [(r_all_75, .inl (T.2 0, 3952, .inl (upd (fun _ => 0) 6 (-1))))], [(r_has_76, .inl (T.2 2, 3, .inl (fun _ => 0)))], [(r_read_77, .inl (T.2 0, 121, .inl (fun _ => 0)))], [(r_posts_78, .inl (T.2 0, 7, .inl (fun _ => 0)))], [(r_shut_79, .inl (T.2 0, 7, .inl (fun _ => 0)))], [(r_here_80, .inl (T.2 0, 7, .inl (fun _ => 0)))], [(r_was_81, .inl (T.2 0, 7, .inl (fun _ => 0)))], [(r_came_82, .inl (T.2 0, 7, .inl (fun _ => 0)))], [(r_seenAt_83, .inl (T.2 0, 16384, .inl (fun _ => 0)))], [(r_rowWorth_84, .inl (T.2 0, 512, .inl (fun _ => 0)))], [(r_farBy_85, .inl (T.2 0, 49, .inl (fun _ => 0)))], [(r_used_86, .inl (T.2 0, 7, .inl (fun _ => 0)))], [(r_fitPost_87, .inl (T.2 0, 28, .inl (fun _ => 0)))], [(r_fitEnd_88, .inl (T.2 0, 49, .inl (fun _ => 0)))], [(r_keptPosts_89, .inl (T.2 0, 7, .inl (fun _ => 0)))]] _ _ := G
        subst h_444
        refine lv_aload_n hx hb dL_law_1005 rfl (lv_at hl 1 rfl) ?_
        refine lv_aload_n hx hb dL_law_1006 rfl (lv_at hl 3 rfl) ?_
        refine lv_iload_n hx hb dL_law_1007 rfl (lv_at hl 0 rfl) ?_
        refine lv_iconst (v := 1) hx hb dL_law_1008 (by decide) ?_
        refine lv_iadd hx hb dL_law_1009 ?_
        refine lv_topi (fun y_446 ey_446 => ?_)
        obtain rfl : y_446 = 1 := ey_446.trans (by decide)
        refine va_sld hx hb hX hbl hbA G.2.2.2.1 (vp_in_nI (n := 1) (by decide) (by decide)) dL_law_1010 ?_
        refine lv_topi (fun v_447 ev_447 => ?_)
        have ev_447 : v_447 = xs 1 := ev_447
        subst ev_447
        refine lv_aload_n hx hb dL_law_1011 rfl (lv_at hl 3 rfl) ?_
        refine lv_iload_n hx hb dL_law_1012 rfl (lv_at hl 0 rfl) ?_
        refine lv_iconst (v := 2) hx hb dL_law_1013 (by decide) ?_
        refine lv_iadd hx hb dL_law_1014 ?_
        refine lv_topi (fun y_448 ey_448 => ?_)
        obtain rfl : y_448 = 2 := ey_448.trans (by decide)
        refine va_sld hx hb hX hbl hbA G.2.2.2.1 (vp_in_nI (n := 2) (by decide) (by decide)) dL_law_1015 ?_
        refine lv_topi (fun v_449 ev_449 => ?_)
        have ev_449 : v_449 = xs 2 := ev_449
        subst ev_449
        refine lv_aload_n hx hb dL_law_1016 rfl (lv_at hl 3 rfl) ?_
        refine lv_iload_n hx hb dL_law_1017 rfl (lv_at hl 0 rfl) ?_
        refine lv_iconst (v := 3) hx hb dL_law_1018 (by decide) ?_
        refine lv_iadd hx hb dL_law_1019 ?_
        refine lv_topi (fun y_450 ey_450 => ?_)
        obtain rfl : y_450 = 3 := ey_450.trans (by decide)
        refine va_sld hx hb hX hbl hbA G.2.2.2.1 (vp_in_nI (n := 3) (by decide) (by decide)) dL_law_1020 ?_
        refine lv_topi (fun v_451 ev_451 => ?_)
        have ev_451 : v_451 = xs 3 := ev_451
        subst ev_451
        refine z_Vi (bc := [[(q_74, .inr (11, [.ref r_all_75, .ref r_has_76, .int 0, .int 0, .int 0, .int 0, .int 0, .int 0, .int 0, .int 0, .ref r_read_77, .int 0, .int 0, .int 0, .ref r_posts_78, .ref r_shut_79, .ref r_here_80, .int 0, .int 0, .int 0, .int 0, .ref r_was_81, .ref r_came_82, .ref r_seenAt_83, .ref r_rowWorth_84, .ref r_farBy_85, .ref r_used_86, .int 0, .int 0, .int 0, .int 0, .int 0, .int 0, .int 0, .int 0, .int 0, .int 0, .int 0, .int 0, .ref r_fitPost_87, .ref r_fitEnd_88, .ref r_keptPosts_89, .int 0]))], [(r_all_75, .inl (T.2 0, 3952, .inl (upd (fun _ => 0) 6 (-1))))]]) (br := [[(a1p_13, .inl (T.2 1, 600, .inl f1p_18))], [(a3p_15, .inl (T.2 3, 2, .inr (.inr (.inr (.inr f3p_19)))))], [(a4p_16, .inl (T.2 4, 2, .inr (.inr (.inr (.inr f4p_20)))))], [(a5p_17, .inl (T.2 5, 2, .inr (.inr (.inr (.inr f5p_21)))))], w1p_28, w2p_29, w3p_30, w4p_31, w5p_32, w6p_33, [(ia_3, .inl (T.2 6, 3, .inr (.inr (.inr (.inr fq_34)))))], u0_38, u1_39, u2_40, [(im_4, .inl (T.2 2, 3, .inl (fun _ => 0)))], v_41, z1_42, z2_43, z3_44, w1_45, w2_46, w3_47, [(cd_12, .inl (T.2 0, 1000, .inl (fun _ => 0)))], [(r_has_76, .inl (T.2 2, 3, .inl (fun _ => 0)))], [(r_read_77, .inl (T.2 0, 121, .inl (fun _ => 0)))], [(r_posts_78, .inl (T.2 0, 7, .inl (fun _ => 0)))], [(r_shut_79, .inl (T.2 0, 7, .inl (fun _ => 0)))], [(r_here_80, .inl (T.2 0, 7, .inl (fun _ => 0)))], [(r_was_81, .inl (T.2 0, 7, .inl (fun _ => 0)))], [(r_came_82, .inl (T.2 0, 7, .inl (fun _ => 0)))], [(r_seenAt_83, .inl (T.2 0, 16384, .inl (fun _ => 0)))], [(r_rowWorth_84, .inl (T.2 0, 512, .inl (fun _ => 0)))], [(r_farBy_85, .inl (T.2 0, 49, .inl (fun _ => 0)))], [(r_used_86, .inl (T.2 0, 7, .inl (fun _ => 0)))], [(r_fitPost_87, .inl (T.2 0, 28, .inl (fun _ => 0)))], [(r_fitEnd_88, .inl (T.2 0, 49, .inl (fun _ => 0)))], [(r_keptPosts_89, .inl (T.2 0, 7, .inl (fun _ => 0)))]]) (As := [.int (xs 1), .int (xs 2), .int (xs 3)]) (rest := [.int (-2)]) C G (c_m_fits l T q_74 r_all_75 r_has_76 r_read_77 r_posts_78 r_shut_79 r_here_80 r_was_81 r_came_82 r_seenAt_83 r_rowWorth_84 r_farBy_85 r_used_86 r_fitPost_87 r_fitEnd_88 r_keptPosts_89 (xs 1) (xs 2) (xs 3)) (kV_RL_95 C.2.2.2.2 (Nat.le_of_ble_eq_true rfl) (Nat.le_of_ble_eq_true rfl)) [23, 24] [0, 1, 2, 3, 4, 5, 6, 7, 8, 9, 10, 11, 12, 13, 14, 15, 16, 17, 18, 19, 20, 21, 22, 25, 26, 27, 28, 29, 30, 31, 32, 33, 34, 35, 36, 37, 38] rfl rfl (ci := 11) (qc := (RX12, TX12, 43)) rfl rfl (List.mem_flatten.mpr ⟨_, List.mem_of_getElem? (i := 0) rfl, List.mem_cons_self⟩) rfl rfl hl.1 dL_law_1021 (Nat.le_of_ble_eq_true rfl) (Nat.le_of_ble_eq_true rfl) (fun r_453 b1 H locs hw G => ?_)
        obtain ⟨rfl, h_452⟩ := hw
        have G : zS T A s.heap s [[(a1p_13, .inl (T.2 1, 600, .inl f1p_18))], [(a3p_15, .inl (T.2 3, 2, .inr (.inr (.inr (.inr f3p_19)))))], [(a4p_16, .inl (T.2 4, 2, .inr (.inr (.inr (.inr f4p_20)))))], [(a5p_17, .inl (T.2 5, 2, .inr (.inr (.inr (.inr f5p_21)))))], w1p_28, w2p_29, w3p_30, w4p_31, w5p_32, w6p_33, [(ia_3, .inl (T.2 6, 3, .inr (.inr (.inr (.inr fq_34)))))], u0_38, u1_39, u2_40, [(im_4, .inl (T.2 2, 3, .inl (fun _ => 0)))], v_41, z1_42, z2_43, z3_44, w1_45, w2_46, w3_47, [(cd_12, .inl (T.2 0, 1000, .inl (fun _ => 0)))], [(r_has_76, .inl (T.2 2, 3, .inl (fun _ => 0)))], [(r_read_77, .inl (T.2 0, 121, .inl (fun _ => 0)))], [(r_posts_78, .inl (T.2 0, 7, .inl (fun _ => 0)))], [(r_shut_79, .inl (T.2 0, 7, .inl (fun _ => 0)))], [(r_here_80, .inl (T.2 0, 7, .inl (fun _ => 0)))], [(r_was_81, .inl (T.2 0, 7, .inl (fun _ => 0)))], [(r_came_82, .inl (T.2 0, 7, .inl (fun _ => 0)))], [(r_seenAt_83, .inl (T.2 0, 16384, .inl (fun _ => 0)))], [(r_rowWorth_84, .inl (T.2 0, 512, .inl (fun _ => 0)))], [(r_farBy_85, .inl (T.2 0, 49, .inl (fun _ => 0)))], [(r_used_86, .inl (T.2 0, 7, .inl (fun _ => 0)))], [(r_fitPost_87, .inl (T.2 0, 28, .inl (fun _ => 0)))], [(r_fitEnd_88, .inl (T.2 0, 49, .inl (fun _ => 0)))], [(r_keptPosts_89, .inl (T.2 0, 7, .inl (fun _ => 0)))]] _ _ := G
        subst h_452
        refine lv_icmp_eq (tgt := 1767) hx hb dL_law_1024 (by decide) (fun _ => ?_) (fun q => absurd (by decide) q)
        refine lv_iinc (v := 6) (lv' := [(3, .int 6), (2, .ref q_74), (1, .ref q_1), (0, .ref b)]) hx hb dL_law_1767 hl (k := 0) rfl (by decide) (by decide) rfl (fun ls hl => ?_)
        refine lv_goto (tgt := 18) hx hb dL_law_1770 (by decide) ?_
        refine lv_iload_n hx hb dL_law_18 rfl (lv_at hl 0 rfl) ?_
        refine lv_aload_n hx hb dL_law_19 rfl (lv_at hl 3 rfl) ?_
        refine va_slen hx hb hX hbl hbA G.2.2.2.1 dL_law_20 ?_
        refine lv_bipush (v := 6) hx hb dL_law_21 (by decide) ?_
        refine lv_isub hx hb dL_law_23 ?_
        refine lv_topi (fun y_454 ey_454 => ?_)
        obtain rfl : y_454 = 0 := ey_454.trans (by decide)
        refine lv_icmp_gt (tgt := 1773) hx hb dL_law_24 (by decide) (fun _ => ?_) (fun q => absurd (by decide) q)
        refine lv_iconst (v := 1) hx hb dL_law_1773 (by decide) ?_
        refine va_forget (fun q hq => by have h9 := G.2.2.2.1.2.2 q hq; rw [hAe] at h9; exact h9) ?_
        refine W.widen (k := 600000) (n := 7302250) (Nat.le_of_ble_eq_true rfl) (Nat.le_of_ble_eq_true rfl) ?_
        exact lw_ret hx hb hr hlocks dL_law_1774
      · refine lv_tableIn (tgt := 1029) hx hb dL_law_33 (by omega) (by omega) (by rw [c_94]; rfl) (by decide) ?_
        refine lv_aload_n hx hb dL_law_1029 rfl (lv_at hl 2 rfl) ?_
        refine lv_aload_n hx hb dL_law_1030 rfl (lv_at hl 3 rfl) ?_
        refine lv_iload_n hx hb dL_law_1031 rfl (lv_at hl 0 rfl) ?_
        refine lv_iconst (v := 1) hx hb dL_law_1032 (by decide) ?_
        refine lv_iadd hx hb dL_law_1033 ?_
        refine lv_topi (fun y_455 ey_455 => ?_)
        obtain rfl : y_455 = 1 := ey_455.trans (by decide)
        refine va_sld hx hb hX hbl hbA G.2.2.2.1 (vp_in_nI (n := 1) (by decide) (by decide)) dL_law_1034 ?_
        refine lv_topi (fun v_456 ev_456 => ?_)
        have ev_456 : v_456 = xs 1 := ev_456
        subst ev_456
        refine lv_aload_n hx hb dL_law_1035 rfl (lv_at hl 3 rfl) ?_
        refine lv_iload_n hx hb dL_law_1036 rfl (lv_at hl 0 rfl) ?_
        refine lv_iconst (v := 2) hx hb dL_law_1037 (by decide) ?_
        refine lv_iadd hx hb dL_law_1038 ?_
        refine lv_topi (fun y_457 ey_457 => ?_)
        obtain rfl : y_457 = 2 := ey_457.trans (by decide)
        refine va_sld hx hb hX hbl hbA G.2.2.2.1 (vp_in_nI (n := 2) (by decide) (by decide)) dL_law_1039 ?_
        refine lv_topi (fun v_458 ev_458 => ?_)
        have ev_458 : v_458 = xs 2 := ev_458
        subst ev_458
        refine lv_aload_n hx hb dL_law_1040 rfl (lv_at hl 3 rfl) ?_
        refine lv_iload_n hx hb dL_law_1041 rfl (lv_at hl 0 rfl) ?_
        refine lv_iconst (v := 3) hx hb dL_law_1042 (by decide) ?_
        refine lv_iadd hx hb dL_law_1043 ?_
        refine lv_topi (fun y_459 ey_459 => ?_)
        obtain rfl : y_459 = 3 := ey_459.trans (by decide)
        refine va_sld hx hb hX hbl hbA G.2.2.2.1 (vp_in_nI (n := 3) (by decide) (by decide)) dL_law_1044 ?_
        refine lv_topi (fun v_460 ev_460 => ?_)
        have ev_460 : v_460 = xs 3 := ev_460
        subst ev_460
        refine lv_aload_n hx hb dL_law_1045 rfl (lv_at hl 3 rfl) ?_
        refine lv_iload_n hx hb dL_law_1046 rfl (lv_at hl 0 rfl) ?_
        refine lv_iconst (v := 4) hx hb dL_law_1047 (by decide) ?_
        refine lv_iadd hx hb dL_law_1048 ?_
        refine lv_topi (fun y_461 ey_461 => ?_)
        obtain rfl : y_461 = 4 := ey_461.trans (by decide)
        refine va_sld hx hb hX hbl hbA G.2.2.2.1 (vp_in_nI (n := 4) (by decide) (by decide)) dL_law_1049 ?_
        refine lv_topi (fun v_462 ev_462 => ?_)
        have ev_462 : v_462 = xs 4 := ev_462
        subst ev_462
        refine z_Vi (bc := [[(q_1, .inr (10, [.ref t0_2, .ref ia_3, .ref im_4, .ref rd_5, .ref po_6, .ref co_7, .ref tr_8, .ref wa_9, .ref wb_10, .ref fi_11, .ref cd_12]))], [(t0_2, .inr (8, [.ref a1p_13, .int 0, .int 0, .int (-1), .ref a2p_14, .ref a3p_15, .ref a4p_16, .ref a5p_17]))], [(a2p_14, .inl (T.2 0, 3, .inl (fun _ => 0)))]]) (br := [[(a1p_13, .inl (T.2 1, 600, .inl f1p_18))], [(a3p_15, .inl (T.2 3, 2, .inr (.inr (.inr (.inr f3p_19)))))], [(a4p_16, .inl (T.2 4, 2, .inr (.inr (.inr (.inr f4p_20)))))], [(a5p_17, .inl (T.2 5, 2, .inr (.inr (.inr (.inr f5p_21)))))], w1p_28, w2p_29, w3p_30, w4p_31, w5p_32, w6p_33, [(ia_3, .inl (T.2 6, 3, .inr (.inr (.inr (.inr fq_34)))))], u0_38, u1_39, u2_40, [(im_4, .inl (T.2 2, 3, .inl (fun _ => 0)))], v_41, z1_42, z2_43, z3_44, w1_45, w2_46, w3_47, [(cd_12, .inl (T.2 0, 1000, .inl (fun _ => 0)))], [(q_74, .inr (11, [.ref r_all_75, .ref r_has_76, .int 0, .int 0, .int 0, .int 0, .int 0, .int 0, .int 0, .int 0, .ref r_read_77, .int 0, .int 0, .int 0, .ref r_posts_78, .ref r_shut_79, .ref r_here_80, .int 0, .int 0, .int 0, .int 0, .ref r_was_81, .ref r_came_82, .ref r_seenAt_83, .ref r_rowWorth_84, .ref r_farBy_85, .ref r_used_86, .int 0, .int 0, .int 0, .int 0, .int 0, .int 0, .int 0, .int 0, .int 0, .int 0, .int 0, .int 0, .ref r_fitPost_87, .ref r_fitEnd_88, .ref r_keptPosts_89, .int 0]))], [(r_all_75, .inl (T.2 0, 3952, .inl (upd (fun _ => 0) 6 (-1))))], [(r_has_76, .inl (T.2 2, 3, .inl (fun _ => 0)))], [(r_read_77, .inl (T.2 0, 121, .inl (fun _ => 0)))], [(r_posts_78, .inl (T.2 0, 7, .inl (fun _ => 0)))], [(r_shut_79, .inl (T.2 0, 7, .inl (fun _ => 0)))], [(r_here_80, .inl (T.2 0, 7, .inl (fun _ => 0)))], [(r_was_81, .inl (T.2 0, 7, .inl (fun _ => 0)))], [(r_came_82, .inl (T.2 0, 7, .inl (fun _ => 0)))], [(r_seenAt_83, .inl (T.2 0, 16384, .inl (fun _ => 0)))], [(r_rowWorth_84, .inl (T.2 0, 512, .inl (fun _ => 0)))], [(r_farBy_85, .inl (T.2 0, 49, .inl (fun _ => 0)))], [(r_used_86, .inl (T.2 0, 7, .inl (fun _ => 0)))], [(r_fitPost_87, .inl (T.2 0, 28, .inl (fun _ => 0)))], [(r_fitEnd_88, .inl (T.2 0, 49, .inl (fun _ => 0)))], [(r_keptPosts_89, .inl (T.2 0, 7, .inl (fun _ => 0)))]]) (As := [.int (xs 1), .int (xs 2), .int (xs 3), .int (xs 4)]) (rest := []) C G (c_x_drawn l T q_1 t0_2 ia_3 im_4 rd_5 po_6 co_7 tr_8 wa_9 wb_10 fi_11 cd_12 a1p_13 a2p_14 a3p_15 a4p_16 a5p_17 (xs 1) (xs 2) (xs 3) (xs 4)) (kV_RL_96 C.2.2.2.2 (Nat.le_of_ble_eq_true rfl) (Nat.le_of_ble_eq_true rfl)) [0, 1, 3] [2, 4, 5, 6, 7, 8, 9, 10, 11, 12, 13, 14, 15, 16, 17, 18, 19, 20, 21, 22, 23, 24, 25, 26, 27, 28, 29, 30, 31, 32, 33, 34, 35, 36, 37, 38, 39, 40, 41] rfl rfl (ci := 10) (qc := (RX11, TX11, 11)) rfl rfl (List.mem_flatten.mpr ⟨_, List.mem_of_getElem? (i := 0) rfl, List.mem_cons_self⟩) rfl rfl hl.1 dL_law_1050 (Nat.le_of_ble_eq_true rfl) (Nat.le_of_ble_eq_true rfl) (fun r_464 b1 H locs hw G => ?_)
        obtain ⟨rfl, h_463⟩ := hw
        have G : zS T A s.heap s [[(a1p_13, .inl (T.2 1, 600, .inl f1p_18))], [(a3p_15, .inl (T.2 3, 2, .inr (.inr (.inr (.inr f3p_19)))))], [(a4p_16, .inl (T.2 4, 2, .inr (.inr (.inr (.inr f4p_20)))))], [(a5p_17, .inl (T.2 5, 2, .inr (.inr (.inr (.inr f5p_21)))))], w1p_28, w2p_29, w3p_30, w4p_31, w5p_32, w6p_33, [(ia_3, .inl (T.2 6, 3, .inr (.inr (.inr (.inr fq_34)))))], u0_38, u1_39, u2_40, [(im_4, .inl (T.2 2, 3, .inl (fun _ => 0)))], v_41, z1_42, z2_43, z3_44, w1_45, w2_46, w3_47, [(cd_12, .inl (T.2 0, 1000, .inl (fun _ => 0)))], [(q_74, .inr (11, [.ref r_all_75, .ref r_has_76, .int 0, .int 0, .int 0, .int 0, .int 0, .int 0, .int 0, .int 0, .ref r_read_77, .int 0, .int 0, .int 0, .ref r_posts_78, .ref r_shut_79, .ref r_here_80, .int 0, .int 0, .int 0, .int 0, .ref r_was_81, .ref r_came_82, .ref r_seenAt_83, .ref r_rowWorth_84, .ref r_farBy_85, .ref r_used_86, .int 0, .int 0, .int 0, .int 0, .int 0, .int 0, .int 0, .int 0, .int 0, .int 0, .int 0, .int 0, .ref r_fitPost_87, .ref r_fitEnd_88, .ref r_keptPosts_89, .int 0]))], [(r_all_75, .inl (T.2 0, 3952, .inl (upd (fun _ => 0) 6 (-1))))], [(r_has_76, .inl (T.2 2, 3, .inl (fun _ => 0)))], [(r_read_77, .inl (T.2 0, 121, .inl (fun _ => 0)))], [(r_posts_78, .inl (T.2 0, 7, .inl (fun _ => 0)))], [(r_shut_79, .inl (T.2 0, 7, .inl (fun _ => 0)))], [(r_here_80, .inl (T.2 0, 7, .inl (fun _ => 0)))], [(r_was_81, .inl (T.2 0, 7, .inl (fun _ => 0)))], [(r_came_82, .inl (T.2 0, 7, .inl (fun _ => 0)))], [(r_seenAt_83, .inl (T.2 0, 16384, .inl (fun _ => 0)))], [(r_rowWorth_84, .inl (T.2 0, 512, .inl (fun _ => 0)))], [(r_farBy_85, .inl (T.2 0, 49, .inl (fun _ => 0)))], [(r_used_86, .inl (T.2 0, 7, .inl (fun _ => 0)))], [(r_fitPost_87, .inl (T.2 0, 28, .inl (fun _ => 0)))], [(r_fitEnd_88, .inl (T.2 0, 49, .inl (fun _ => 0)))], [(r_keptPosts_89, .inl (T.2 0, 7, .inl (fun _ => 0)))]] _ _ := G
        subst h_463
        refine lv_aload_n hx hb dL_law_1053 rfl (lv_at hl 1 rfl) ?_
        refine lv_aload_n hx hb dL_law_1054 rfl (lv_at hl 3 rfl) ?_
        refine lv_iload_n hx hb dL_law_1055 rfl (lv_at hl 0 rfl) ?_
        refine lv_iconst (v := 1) hx hb dL_law_1056 (by decide) ?_
        refine lv_iadd hx hb dL_law_1057 ?_
        refine lv_topi (fun y_465 ey_465 => ?_)
        obtain rfl : y_465 = 1 := ey_465.trans (by decide)
        refine va_sld hx hb hX hbl hbA G.2.2.2.1 (vp_in_nI (n := 1) (by decide) (by decide)) dL_law_1058 ?_
        refine lv_topi (fun v_466 ev_466 => ?_)
        have ev_466 : v_466 = xs 1 := ev_466
        subst ev_466
        refine lv_aload_n hx hb dL_law_1059 rfl (lv_at hl 3 rfl) ?_
        refine lv_iload_n hx hb dL_law_1060 rfl (lv_at hl 0 rfl) ?_
        refine lv_iconst (v := 2) hx hb dL_law_1061 (by decide) ?_
        refine lv_iadd hx hb dL_law_1062 ?_
        refine lv_topi (fun y_467 ey_467 => ?_)
        obtain rfl : y_467 = 2 := ey_467.trans (by decide)
        refine va_sld hx hb hX hbl hbA G.2.2.2.1 (vp_in_nI (n := 2) (by decide) (by decide)) dL_law_1063 ?_
        refine lv_topi (fun v_468 ev_468 => ?_)
        have ev_468 : v_468 = xs 2 := ev_468
        subst ev_468
        refine lv_aload_n hx hb dL_law_1064 rfl (lv_at hl 3 rfl) ?_
        refine lv_iload_n hx hb dL_law_1065 rfl (lv_at hl 0 rfl) ?_
        refine lv_iconst (v := 3) hx hb dL_law_1066 (by decide) ?_
        refine lv_iadd hx hb dL_law_1067 ?_
        refine lv_topi (fun y_469 ey_469 => ?_)
        obtain rfl : y_469 = 3 := ey_469.trans (by decide)
        refine va_sld hx hb hX hbl hbA G.2.2.2.1 (vp_in_nI (n := 3) (by decide) (by decide)) dL_law_1068 ?_
        refine lv_topi (fun v_470 ev_470 => ?_)
        have ev_470 : v_470 = xs 3 := ev_470
        subst ev_470
        refine lv_aload_n hx hb dL_law_1069 rfl (lv_at hl 3 rfl) ?_
        refine lv_iload_n hx hb dL_law_1070 rfl (lv_at hl 0 rfl) ?_
        refine lv_iconst (v := 4) hx hb dL_law_1071 (by decide) ?_
        refine lv_iadd hx hb dL_law_1072 ?_
        refine lv_topi (fun y_471 ey_471 => ?_)
        obtain rfl : y_471 = 4 := ey_471.trans (by decide)
        refine va_sld hx hb hX hbl hbA G.2.2.2.1 (vp_in_nI (n := 4) (by decide) (by decide)) dL_law_1073 ?_
        refine lv_topi (fun v_472 ev_472 => ?_)
        have ev_472 : v_472 = xs 4 := ev_472
        subst ev_472
        refine z_Vi (bc := [[(q_74, .inr (11, [.ref r_all_75, .ref r_has_76, .int 0, .int 0, .int 0, .int 0, .int 0, .int 0, .int 0, .int 0, .ref r_read_77, .int 0, .int 0, .int 0, .ref r_posts_78, .ref r_shut_79, .ref r_here_80, .int 0, .int 0, .int 0, .int 0, .ref r_was_81, .ref r_came_82, .ref r_seenAt_83, .ref r_rowWorth_84, .ref r_farBy_85, .ref r_used_86, .int 0, .int 0, .int 0, .int 0, .int 0, .int 0, .int 0, .int 0, .int 0, .int 0, .int 0, .int 0, .ref r_fitPost_87, .ref r_fitEnd_88, .ref r_keptPosts_89, .int 0]))], [(r_all_75, .inl (T.2 0, 3952, .inl (upd (fun _ => 0) 6 (-1))))]]) (br := [[(a1p_13, .inl (T.2 1, 600, .inl f1p_18))], [(a3p_15, .inl (T.2 3, 2, .inr (.inr (.inr (.inr f3p_19)))))], [(a4p_16, .inl (T.2 4, 2, .inr (.inr (.inr (.inr f4p_20)))))], [(a5p_17, .inl (T.2 5, 2, .inr (.inr (.inr (.inr f5p_21)))))], w1p_28, w2p_29, w3p_30, w4p_31, w5p_32, w6p_33, [(ia_3, .inl (T.2 6, 3, .inr (.inr (.inr (.inr fq_34)))))], u0_38, u1_39, u2_40, [(im_4, .inl (T.2 2, 3, .inl (fun _ => 0)))], v_41, z1_42, z2_43, z3_44, w1_45, w2_46, w3_47, [(cd_12, .inl (T.2 0, 1000, .inl (fun _ => 0)))], [(r_has_76, .inl (T.2 2, 3, .inl (fun _ => 0)))], [(r_read_77, .inl (T.2 0, 121, .inl (fun _ => 0)))], [(r_posts_78, .inl (T.2 0, 7, .inl (fun _ => 0)))], [(r_shut_79, .inl (T.2 0, 7, .inl (fun _ => 0)))], [(r_here_80, .inl (T.2 0, 7, .inl (fun _ => 0)))], [(r_was_81, .inl (T.2 0, 7, .inl (fun _ => 0)))], [(r_came_82, .inl (T.2 0, 7, .inl (fun _ => 0)))], [(r_seenAt_83, .inl (T.2 0, 16384, .inl (fun _ => 0)))], [(r_rowWorth_84, .inl (T.2 0, 512, .inl (fun _ => 0)))], [(r_farBy_85, .inl (T.2 0, 49, .inl (fun _ => 0)))], [(r_used_86, .inl (T.2 0, 7, .inl (fun _ => 0)))], [(r_fitPost_87, .inl (T.2 0, 28, .inl (fun _ => 0)))], [(r_fitEnd_88, .inl (T.2 0, 49, .inl (fun _ => 0)))], [(r_keptPosts_89, .inl (T.2 0, 7, .inl (fun _ => 0)))]]) (As := [.int (xs 1), .int (xs 2), .int (xs 3), .int (xs 4)]) (rest := [.int (-2)]) C G (c_m_drawn l T q_74 r_all_75 r_has_76 r_read_77 r_posts_78 r_shut_79 r_here_80 r_was_81 r_came_82 r_seenAt_83 r_rowWorth_84 r_farBy_85 r_used_86 r_fitPost_87 r_fitEnd_88 r_keptPosts_89 (xs 1) (xs 2) (xs 3) (xs 4)) (kV_RL_99 C.2.2.2.2 (Nat.le_of_ble_eq_true rfl) (Nat.le_of_ble_eq_true rfl)) [23, 24] [0, 1, 2, 3, 4, 5, 6, 7, 8, 9, 10, 11, 12, 13, 14, 15, 16, 17, 18, 19, 20, 21, 22, 25, 26, 27, 28, 29, 30, 31, 32, 33, 34, 35, 36, 37, 38] rfl rfl (ci := 11) (qc := (RX12, TX12, 43)) rfl rfl (List.mem_flatten.mpr ⟨_, List.mem_of_getElem? (i := 0) rfl, List.mem_cons_self⟩) rfl rfl hl.1 dL_law_1074 (Nat.le_of_ble_eq_true rfl) (Nat.le_of_ble_eq_true rfl) (fun r_474 b1 H locs hw G => ?_)
        obtain ⟨rfl, h_473⟩ := hw
        have G : zS T A s.heap s [[(a1p_13, .inl (T.2 1, 600, .inl f1p_18))], [(a3p_15, .inl (T.2 3, 2, .inr (.inr (.inr (.inr f3p_19)))))], [(a4p_16, .inl (T.2 4, 2, .inr (.inr (.inr (.inr f4p_20)))))], [(a5p_17, .inl (T.2 5, 2, .inr (.inr (.inr (.inr f5p_21)))))], w1p_28, w2p_29, w3p_30, w4p_31, w5p_32, w6p_33, [(ia_3, .inl (T.2 6, 3, .inr (.inr (.inr (.inr fq_34)))))], u0_38, u1_39, u2_40, [(im_4, .inl (T.2 2, 3, .inl (fun _ => 0)))], v_41, z1_42, z2_43, z3_44, w1_45, w2_46, w3_47, [(cd_12, .inl (T.2 0, 1000, .inl (fun _ => 0)))], [(r_has_76, .inl (T.2 2, 3, .inl (fun _ => 0)))], [(r_read_77, .inl (T.2 0, 121, .inl (fun _ => 0)))], [(r_posts_78, .inl (T.2 0, 7, .inl (fun _ => 0)))], [(r_shut_79, .inl (T.2 0, 7, .inl (fun _ => 0)))], [(r_here_80, .inl (T.2 0, 7, .inl (fun _ => 0)))], [(r_was_81, .inl (T.2 0, 7, .inl (fun _ => 0)))], [(r_came_82, .inl (T.2 0, 7, .inl (fun _ => 0)))], [(r_seenAt_83, .inl (T.2 0, 16384, .inl (fun _ => 0)))], [(r_rowWorth_84, .inl (T.2 0, 512, .inl (fun _ => 0)))], [(r_farBy_85, .inl (T.2 0, 49, .inl (fun _ => 0)))], [(r_used_86, .inl (T.2 0, 7, .inl (fun _ => 0)))], [(r_fitPost_87, .inl (T.2 0, 28, .inl (fun _ => 0)))], [(r_fitEnd_88, .inl (T.2 0, 49, .inl (fun _ => 0)))], [(r_keptPosts_89, .inl (T.2 0, 7, .inl (fun _ => 0)))]] _ _ := G
        subst h_473
        refine lv_icmp_eq (tgt := 1767) hx hb dL_law_1077 (by decide) (fun _ => ?_) (fun q => absurd (by decide) q)
        refine lv_iinc (v := 6) (lv' := [(3, .int 6), (2, .ref q_74), (1, .ref q_1), (0, .ref b)]) hx hb dL_law_1767 hl (k := 0) rfl (by decide) (by decide) rfl (fun ls hl => ?_)
        refine lv_goto (tgt := 18) hx hb dL_law_1770 (by decide) ?_
        refine lv_iload_n hx hb dL_law_18 rfl (lv_at hl 0 rfl) ?_
        refine lv_aload_n hx hb dL_law_19 rfl (lv_at hl 3 rfl) ?_
        refine va_slen hx hb hX hbl hbA G.2.2.2.1 dL_law_20 ?_
        refine lv_bipush (v := 6) hx hb dL_law_21 (by decide) ?_
        refine lv_isub hx hb dL_law_23 ?_
        refine lv_topi (fun y_475 ey_475 => ?_)
        obtain rfl : y_475 = 0 := ey_475.trans (by decide)
        refine lv_icmp_gt (tgt := 1773) hx hb dL_law_24 (by decide) (fun _ => ?_) (fun q => absurd (by decide) q)
        refine lv_iconst (v := 1) hx hb dL_law_1773 (by decide) ?_
        refine va_forget (fun q hq => by have h9 := G.2.2.2.1.2.2 q hq; rw [hAe] at h9; exact h9) ?_
        refine W.widen (k := 600000) (n := 7302250) (Nat.le_of_ble_eq_true rfl) (Nat.le_of_ble_eq_true rfl) ?_
        exact lw_ret hx hb hr hlocks dL_law_1774
      · refine lv_tableIn (tgt := 1082) hx hb dL_law_33 (by omega) (by omega) (by rw [c_94]; rfl) (by decide) ?_
        refine lv_aload_n hx hb dL_law_1082 rfl (lv_at hl 2 rfl) ?_
        refine lv_aload_n hx hb dL_law_1083 rfl (lv_at hl 3 rfl) ?_
        refine lv_iload_n hx hb dL_law_1084 rfl (lv_at hl 0 rfl) ?_
        refine lv_iconst (v := 1) hx hb dL_law_1085 (by decide) ?_
        refine lv_iadd hx hb dL_law_1086 ?_
        refine lv_topi (fun y_476 ey_476 => ?_)
        obtain rfl : y_476 = 1 := ey_476.trans (by decide)
        refine va_sld hx hb hX hbl hbA G.2.2.2.1 (vp_in_nI (n := 1) (by decide) (by decide)) dL_law_1087 ?_
        refine lv_topi (fun v_477 ev_477 => ?_)
        have ev_477 : v_477 = xs 1 := ev_477
        subst ev_477
        refine lv_aload_n hx hb dL_law_1088 rfl (lv_at hl 3 rfl) ?_
        refine lv_iload_n hx hb dL_law_1089 rfl (lv_at hl 0 rfl) ?_
        refine lv_iconst (v := 2) hx hb dL_law_1090 (by decide) ?_
        refine lv_iadd hx hb dL_law_1091 ?_
        refine lv_topi (fun y_478 ey_478 => ?_)
        obtain rfl : y_478 = 2 := ey_478.trans (by decide)
        refine va_sld hx hb hX hbl hbA G.2.2.2.1 (vp_in_nI (n := 2) (by decide) (by decide)) dL_law_1092 ?_
        refine lv_topi (fun v_479 ev_479 => ?_)
        have ev_479 : v_479 = xs 2 := ev_479
        subst ev_479
        refine lv_aload_n hx hb dL_law_1093 rfl (lv_at hl 3 rfl) ?_
        refine lv_iload_n hx hb dL_law_1094 rfl (lv_at hl 0 rfl) ?_
        refine lv_iconst (v := 3) hx hb dL_law_1095 (by decide) ?_
        refine lv_iadd hx hb dL_law_1096 ?_
        refine lv_topi (fun y_480 ey_480 => ?_)
        obtain rfl : y_480 = 3 := ey_480.trans (by decide)
        refine va_sld hx hb hX hbl hbA G.2.2.2.1 (vp_in_nI (n := 3) (by decide) (by decide)) dL_law_1097 ?_
        refine lv_topi (fun v_481 ev_481 => ?_)
        have ev_481 : v_481 = xs 3 := ev_481
        subst ev_481
        refine z_Vi (bc := [[(q_1, .inr (10, [.ref t0_2, .ref ia_3, .ref im_4, .ref rd_5, .ref po_6, .ref co_7, .ref tr_8, .ref wa_9, .ref wb_10, .ref fi_11, .ref cd_12]))], [(t0_2, .inr (8, [.ref a1p_13, .int 0, .int 0, .int (-1), .ref a2p_14, .ref a3p_15, .ref a4p_16, .ref a5p_17]))], [(a2p_14, .inl (T.2 0, 3, .inl (fun _ => 0)))]]) (br := [[(a1p_13, .inl (T.2 1, 600, .inl f1p_18))], [(a3p_15, .inl (T.2 3, 2, .inr (.inr (.inr (.inr f3p_19)))))], [(a4p_16, .inl (T.2 4, 2, .inr (.inr (.inr (.inr f4p_20)))))], [(a5p_17, .inl (T.2 5, 2, .inr (.inr (.inr (.inr f5p_21)))))], w1p_28, w2p_29, w3p_30, w4p_31, w5p_32, w6p_33, [(ia_3, .inl (T.2 6, 3, .inr (.inr (.inr (.inr fq_34)))))], u0_38, u1_39, u2_40, [(im_4, .inl (T.2 2, 3, .inl (fun _ => 0)))], v_41, z1_42, z2_43, z3_44, w1_45, w2_46, w3_47, [(cd_12, .inl (T.2 0, 1000, .inl (fun _ => 0)))], [(q_74, .inr (11, [.ref r_all_75, .ref r_has_76, .int 0, .int 0, .int 0, .int 0, .int 0, .int 0, .int 0, .int 0, .ref r_read_77, .int 0, .int 0, .int 0, .ref r_posts_78, .ref r_shut_79, .ref r_here_80, .int 0, .int 0, .int 0, .int 0, .ref r_was_81, .ref r_came_82, .ref r_seenAt_83, .ref r_rowWorth_84, .ref r_farBy_85, .ref r_used_86, .int 0, .int 0, .int 0, .int 0, .int 0, .int 0, .int 0, .int 0, .int 0, .int 0, .int 0, .int 0, .ref r_fitPost_87, .ref r_fitEnd_88, .ref r_keptPosts_89, .int 0]))], [(r_all_75, .inl (T.2 0, 3952, .inl (upd (fun _ => 0) 6 (-1))))], [(r_has_76, .inl (T.2 2, 3, .inl (fun _ => 0)))], [(r_read_77, .inl (T.2 0, 121, .inl (fun _ => 0)))], [(r_posts_78, .inl (T.2 0, 7, .inl (fun _ => 0)))], [(r_shut_79, .inl (T.2 0, 7, .inl (fun _ => 0)))], [(r_here_80, .inl (T.2 0, 7, .inl (fun _ => 0)))], [(r_was_81, .inl (T.2 0, 7, .inl (fun _ => 0)))], [(r_came_82, .inl (T.2 0, 7, .inl (fun _ => 0)))], [(r_seenAt_83, .inl (T.2 0, 16384, .inl (fun _ => 0)))], [(r_rowWorth_84, .inl (T.2 0, 512, .inl (fun _ => 0)))], [(r_farBy_85, .inl (T.2 0, 49, .inl (fun _ => 0)))], [(r_used_86, .inl (T.2 0, 7, .inl (fun _ => 0)))], [(r_fitPost_87, .inl (T.2 0, 28, .inl (fun _ => 0)))], [(r_fitEnd_88, .inl (T.2 0, 49, .inl (fun _ => 0)))], [(r_keptPosts_89, .inl (T.2 0, 7, .inl (fun _ => 0)))]]) (As := [.int (xs 1), .int (xs 2), .int (xs 3)]) (rest := []) C G (c_x_far l T q_1 t0_2 ia_3 im_4 rd_5 po_6 co_7 tr_8 wa_9 wb_10 fi_11 cd_12 a1p_13 a2p_14 a3p_15 a4p_16 a5p_17 (xs 1) (xs 2) (xs 3)) (kV_RL_100 C.2.2.2.2 (Nat.le_of_ble_eq_true rfl) (Nat.le_of_ble_eq_true rfl)) [0, 1, 3] [2, 4, 5, 6, 7, 8, 9, 10, 11, 12, 13, 14, 15, 16, 17, 18, 19, 20, 21, 22, 23, 24, 25, 26, 27, 28, 29, 30, 31, 32, 33, 34, 35, 36, 37, 38, 39, 40, 41] rfl rfl (ci := 10) (qc := (RX11, TX11, 11)) rfl rfl (List.mem_flatten.mpr ⟨_, List.mem_of_getElem? (i := 0) rfl, List.mem_cons_self⟩) rfl rfl hl.1 dL_law_1098 (Nat.le_of_ble_eq_true rfl) (Nat.le_of_ble_eq_true rfl) (fun r_483 b1 H locs hw G => ?_)
        obtain ⟨rfl, h_482⟩ := hw
        have G : zS T A s.heap s [[(a1p_13, .inl (T.2 1, 600, .inl f1p_18))], [(a3p_15, .inl (T.2 3, 2, .inr (.inr (.inr (.inr f3p_19)))))], [(a4p_16, .inl (T.2 4, 2, .inr (.inr (.inr (.inr f4p_20)))))], [(a5p_17, .inl (T.2 5, 2, .inr (.inr (.inr (.inr f5p_21)))))], w1p_28, w2p_29, w3p_30, w4p_31, w5p_32, w6p_33, [(ia_3, .inl (T.2 6, 3, .inr (.inr (.inr (.inr fq_34)))))], u0_38, u1_39, u2_40, [(im_4, .inl (T.2 2, 3, .inl (fun _ => 0)))], v_41, z1_42, z2_43, z3_44, w1_45, w2_46, w3_47, [(cd_12, .inl (T.2 0, 1000, .inl (fun _ => 0)))], [(q_74, .inr (11, [.ref r_all_75, .ref r_has_76, .int 0, .int 0, .int 0, .int 0, .int 0, .int 0, .int 0, .int 0, .ref r_read_77, .int 0, .int 0, .int 0, .ref r_posts_78, .ref r_shut_79, .ref r_here_80, .int 0, .int 0, .int 0, .int 0, .ref r_was_81, .ref r_came_82, .ref r_seenAt_83, .ref r_rowWorth_84, .ref r_farBy_85, .ref r_used_86, .int 0, .int 0, .int 0, .int 0, .int 0, .int 0, .int 0, .int 0, .int 0, .int 0, .int 0, .int 0, .ref r_fitPost_87, .ref r_fitEnd_88, .ref r_keptPosts_89, .int 0]))], [(r_all_75, .inl (T.2 0, 3952, .inl (upd (fun _ => 0) 6 (-1))))], [(r_has_76, .inl (T.2 2, 3, .inl (fun _ => 0)))], [(r_read_77, .inl (T.2 0, 121, .inl (fun _ => 0)))], [(r_posts_78, .inl (T.2 0, 7, .inl (fun _ => 0)))], [(r_shut_79, .inl (T.2 0, 7, .inl (fun _ => 0)))], [(r_here_80, .inl (T.2 0, 7, .inl (fun _ => 0)))], [(r_was_81, .inl (T.2 0, 7, .inl (fun _ => 0)))], [(r_came_82, .inl (T.2 0, 7, .inl (fun _ => 0)))], [(r_seenAt_83, .inl (T.2 0, 16384, .inl (fun _ => 0)))], [(r_rowWorth_84, .inl (T.2 0, 512, .inl (fun _ => 0)))], [(r_farBy_85, .inl (T.2 0, 49, .inl (fun _ => 0)))], [(r_used_86, .inl (T.2 0, 7, .inl (fun _ => 0)))], [(r_fitPost_87, .inl (T.2 0, 28, .inl (fun _ => 0)))], [(r_fitEnd_88, .inl (T.2 0, 49, .inl (fun _ => 0)))], [(r_keptPosts_89, .inl (T.2 0, 7, .inl (fun _ => 0)))]] _ _ := G
        subst h_482
        refine lv_aload_n hx hb dL_law_1101 rfl (lv_at hl 1 rfl) ?_
        refine lv_aload_n hx hb dL_law_1102 rfl (lv_at hl 3 rfl) ?_
        refine lv_iload_n hx hb dL_law_1103 rfl (lv_at hl 0 rfl) ?_
        refine lv_iconst (v := 1) hx hb dL_law_1104 (by decide) ?_
        refine lv_iadd hx hb dL_law_1105 ?_
        refine lv_topi (fun y_484 ey_484 => ?_)
        obtain rfl : y_484 = 1 := ey_484.trans (by decide)
        refine va_sld hx hb hX hbl hbA G.2.2.2.1 (vp_in_nI (n := 1) (by decide) (by decide)) dL_law_1106 ?_
        refine lv_topi (fun v_485 ev_485 => ?_)
        have ev_485 : v_485 = xs 1 := ev_485
        subst ev_485
        refine lv_aload_n hx hb dL_law_1107 rfl (lv_at hl 3 rfl) ?_
        refine lv_iload_n hx hb dL_law_1108 rfl (lv_at hl 0 rfl) ?_
        refine lv_iconst (v := 2) hx hb dL_law_1109 (by decide) ?_
        refine lv_iadd hx hb dL_law_1110 ?_
        refine lv_topi (fun y_486 ey_486 => ?_)
        obtain rfl : y_486 = 2 := ey_486.trans (by decide)
        refine va_sld hx hb hX hbl hbA G.2.2.2.1 (vp_in_nI (n := 2) (by decide) (by decide)) dL_law_1111 ?_
        refine lv_topi (fun v_487 ev_487 => ?_)
        have ev_487 : v_487 = xs 2 := ev_487
        subst ev_487
        refine lv_aload_n hx hb dL_law_1112 rfl (lv_at hl 3 rfl) ?_
        refine lv_iload_n hx hb dL_law_1113 rfl (lv_at hl 0 rfl) ?_
        refine lv_iconst (v := 3) hx hb dL_law_1114 (by decide) ?_
        refine lv_iadd hx hb dL_law_1115 ?_
        refine lv_topi (fun y_488 ey_488 => ?_)
        obtain rfl : y_488 = 3 := ey_488.trans (by decide)
        refine va_sld hx hb hX hbl hbA G.2.2.2.1 (vp_in_nI (n := 3) (by decide) (by decide)) dL_law_1116 ?_
        refine lv_topi (fun v_489 ev_489 => ?_)
        have ev_489 : v_489 = xs 3 := ev_489
        subst ev_489
        refine z_Vi (bc := [[(q_74, .inr (11, [.ref r_all_75, .ref r_has_76, .int 0, .int 0, .int 0, .int 0, .int 0, .int 0, .int 0, .int 0, .ref r_read_77, .int 0, .int 0, .int 0, .ref r_posts_78, .ref r_shut_79, .ref r_here_80, .int 0, .int 0, .int 0, .int 0, .ref r_was_81, .ref r_came_82, .ref r_seenAt_83, .ref r_rowWorth_84, .ref r_farBy_85, .ref r_used_86, .int 0, .int 0, .int 0, .int 0, .int 0, .int 0, .int 0, .int 0, .int 0, .int 0, .int 0, .int 0, .ref r_fitPost_87, .ref r_fitEnd_88, .ref r_keptPosts_89, .int 0]))], [(r_all_75, .inl (T.2 0, 3952, .inl (upd (fun _ => 0) 6 (-1))))]]) (br := [[(a1p_13, .inl (T.2 1, 600, .inl f1p_18))], [(a3p_15, .inl (T.2 3, 2, .inr (.inr (.inr (.inr f3p_19)))))], [(a4p_16, .inl (T.2 4, 2, .inr (.inr (.inr (.inr f4p_20)))))], [(a5p_17, .inl (T.2 5, 2, .inr (.inr (.inr (.inr f5p_21)))))], w1p_28, w2p_29, w3p_30, w4p_31, w5p_32, w6p_33, [(ia_3, .inl (T.2 6, 3, .inr (.inr (.inr (.inr fq_34)))))], u0_38, u1_39, u2_40, [(im_4, .inl (T.2 2, 3, .inl (fun _ => 0)))], v_41, z1_42, z2_43, z3_44, w1_45, w2_46, w3_47, [(cd_12, .inl (T.2 0, 1000, .inl (fun _ => 0)))], [(r_has_76, .inl (T.2 2, 3, .inl (fun _ => 0)))], [(r_read_77, .inl (T.2 0, 121, .inl (fun _ => 0)))], [(r_posts_78, .inl (T.2 0, 7, .inl (fun _ => 0)))], [(r_shut_79, .inl (T.2 0, 7, .inl (fun _ => 0)))], [(r_here_80, .inl (T.2 0, 7, .inl (fun _ => 0)))], [(r_was_81, .inl (T.2 0, 7, .inl (fun _ => 0)))], [(r_came_82, .inl (T.2 0, 7, .inl (fun _ => 0)))], [(r_seenAt_83, .inl (T.2 0, 16384, .inl (fun _ => 0)))], [(r_rowWorth_84, .inl (T.2 0, 512, .inl (fun _ => 0)))], [(r_farBy_85, .inl (T.2 0, 49, .inl (fun _ => 0)))], [(r_used_86, .inl (T.2 0, 7, .inl (fun _ => 0)))], [(r_fitPost_87, .inl (T.2 0, 28, .inl (fun _ => 0)))], [(r_fitEnd_88, .inl (T.2 0, 49, .inl (fun _ => 0)))], [(r_keptPosts_89, .inl (T.2 0, 7, .inl (fun _ => 0)))]]) (As := [.int (xs 1), .int (xs 2), .int (xs 3)]) (rest := [.int (-1)]) C G (c_m_far l T q_74 r_all_75 r_has_76 r_read_77 r_posts_78 r_shut_79 r_here_80 r_was_81 r_came_82 r_seenAt_83 r_rowWorth_84 r_farBy_85 r_used_86 r_fitPost_87 r_fitEnd_88 r_keptPosts_89 (xs 1) (xs 2) (xs 3)) (kV_RL_103 C.2.2.2.2 (Nat.le_of_ble_eq_true rfl) (Nat.le_of_ble_eq_true rfl)) [23, 24] [0, 1, 2, 3, 4, 5, 6, 7, 8, 9, 10, 11, 12, 13, 14, 15, 16, 17, 18, 19, 20, 21, 22, 25, 26, 27, 28, 29, 30, 31, 32, 33, 34, 35, 36, 37, 38] rfl rfl (ci := 11) (qc := (RX12, TX12, 43)) rfl rfl (List.mem_flatten.mpr ⟨_, List.mem_of_getElem? (i := 0) rfl, List.mem_cons_self⟩) rfl rfl hl.1 dL_law_1117 (Nat.le_of_ble_eq_true rfl) (Nat.le_of_ble_eq_true rfl) (fun r_491 b1 H locs hw G => ?_)
        obtain ⟨rfl, h_490⟩ := hw
        have G : zS T A s.heap s [[(a1p_13, .inl (T.2 1, 600, .inl f1p_18))], [(a3p_15, .inl (T.2 3, 2, .inr (.inr (.inr (.inr f3p_19)))))], [(a4p_16, .inl (T.2 4, 2, .inr (.inr (.inr (.inr f4p_20)))))], [(a5p_17, .inl (T.2 5, 2, .inr (.inr (.inr (.inr f5p_21)))))], w1p_28, w2p_29, w3p_30, w4p_31, w5p_32, w6p_33, [(ia_3, .inl (T.2 6, 3, .inr (.inr (.inr (.inr fq_34)))))], u0_38, u1_39, u2_40, [(im_4, .inl (T.2 2, 3, .inl (fun _ => 0)))], v_41, z1_42, z2_43, z3_44, w1_45, w2_46, w3_47, [(cd_12, .inl (T.2 0, 1000, .inl (fun _ => 0)))], [(r_has_76, .inl (T.2 2, 3, .inl (fun _ => 0)))], [(r_read_77, .inl (T.2 0, 121, .inl (fun _ => 0)))], [(r_posts_78, .inl (T.2 0, 7, .inl (fun _ => 0)))], [(r_shut_79, .inl (T.2 0, 7, .inl (fun _ => 0)))], [(r_here_80, .inl (T.2 0, 7, .inl (fun _ => 0)))], [(r_was_81, .inl (T.2 0, 7, .inl (fun _ => 0)))], [(r_came_82, .inl (T.2 0, 7, .inl (fun _ => 0)))], [(r_seenAt_83, .inl (T.2 0, 16384, .inl (fun _ => 0)))], [(r_rowWorth_84, .inl (T.2 0, 512, .inl (fun _ => 0)))], [(r_farBy_85, .inl (T.2 0, 49, .inl (fun _ => 0)))], [(r_used_86, .inl (T.2 0, 7, .inl (fun _ => 0)))], [(r_fitPost_87, .inl (T.2 0, 28, .inl (fun _ => 0)))], [(r_fitEnd_88, .inl (T.2 0, 49, .inl (fun _ => 0)))], [(r_keptPosts_89, .inl (T.2 0, 7, .inl (fun _ => 0)))]] _ _ := G
        subst h_490
        refine lv_icmp_eq (tgt := 1767) hx hb dL_law_1120 (by decide) (fun _ => ?_) (fun q => absurd (by decide) q)
        refine lv_iinc (v := 6) (lv' := [(3, .int 6), (2, .ref q_74), (1, .ref q_1), (0, .ref b)]) hx hb dL_law_1767 hl (k := 0) rfl (by decide) (by decide) rfl (fun ls hl => ?_)
        refine lv_goto (tgt := 18) hx hb dL_law_1770 (by decide) ?_
        refine lv_iload_n hx hb dL_law_18 rfl (lv_at hl 0 rfl) ?_
        refine lv_aload_n hx hb dL_law_19 rfl (lv_at hl 3 rfl) ?_
        refine va_slen hx hb hX hbl hbA G.2.2.2.1 dL_law_20 ?_
        refine lv_bipush (v := 6) hx hb dL_law_21 (by decide) ?_
        refine lv_isub hx hb dL_law_23 ?_
        refine lv_topi (fun y_492 ey_492 => ?_)
        obtain rfl : y_492 = 0 := ey_492.trans (by decide)
        refine lv_icmp_gt (tgt := 1773) hx hb dL_law_24 (by decide) (fun _ => ?_) (fun q => absurd (by decide) q)
        refine lv_iconst (v := 1) hx hb dL_law_1773 (by decide) ?_
        refine va_forget (fun q hq => by have h9 := G.2.2.2.1.2.2 q hq; rw [hAe] at h9; exact h9) ?_
        refine W.widen (k := 600000) (n := 7302250) (Nat.le_of_ble_eq_true rfl) (Nat.le_of_ble_eq_true rfl) ?_
        exact lw_ret hx hb hr hlocks dL_law_1774
      · refine lv_tableIn (tgt := 1125) hx hb dL_law_33 (by omega) (by omega) (by rw [c_94]; rfl) (by decide) ?_
        refine lv_aload_n hx hb dL_law_1125 rfl (lv_at hl 2 rfl) ?_
        refine lv_aload_n hx hb dL_law_1126 rfl (lv_at hl 3 rfl) ?_
        refine lv_iload_n hx hb dL_law_1127 rfl (lv_at hl 0 rfl) ?_
        refine lv_iconst (v := 1) hx hb dL_law_1128 (by decide) ?_
        refine lv_iadd hx hb dL_law_1129 ?_
        refine lv_topi (fun y_493 ey_493 => ?_)
        obtain rfl : y_493 = 1 := ey_493.trans (by decide)
        refine va_sld hx hb hX hbl hbA G.2.2.2.1 (vp_in_nI (n := 1) (by decide) (by decide)) dL_law_1130 ?_
        refine lv_topi (fun v_494 ev_494 => ?_)
        have ev_494 : v_494 = xs 1 := ev_494
        subst ev_494
        refine lv_aload_n hx hb dL_law_1131 rfl (lv_at hl 3 rfl) ?_
        refine lv_iload_n hx hb dL_law_1132 rfl (lv_at hl 0 rfl) ?_
        refine lv_iconst (v := 2) hx hb dL_law_1133 (by decide) ?_
        refine lv_iadd hx hb dL_law_1134 ?_
        refine lv_topi (fun y_495 ey_495 => ?_)
        obtain rfl : y_495 = 2 := ey_495.trans (by decide)
        refine va_sld hx hb hX hbl hbA G.2.2.2.1 (vp_in_nI (n := 2) (by decide) (by decide)) dL_law_1135 ?_
        refine lv_topi (fun v_496 ev_496 => ?_)
        have ev_496 : v_496 = xs 2 := ev_496
        subst ev_496
        refine lv_aload_n hx hb dL_law_1136 rfl (lv_at hl 3 rfl) ?_
        refine lv_iload_n hx hb dL_law_1137 rfl (lv_at hl 0 rfl) ?_
        refine lv_iconst (v := 3) hx hb dL_law_1138 (by decide) ?_
        refine lv_iadd hx hb dL_law_1139 ?_
        refine lv_topi (fun y_497 ey_497 => ?_)
        obtain rfl : y_497 = 3 := ey_497.trans (by decide)
        refine va_sld hx hb hX hbl hbA G.2.2.2.1 (vp_in_nI (n := 3) (by decide) (by decide)) dL_law_1140 ?_
        refine lv_topi (fun v_498 ev_498 => ?_)
        have ev_498 : v_498 = xs 3 := ev_498
        subst ev_498
        refine z_Vi (bc := [[(q_1, .inr (10, [.ref t0_2, .ref ia_3, .ref im_4, .ref rd_5, .ref po_6, .ref co_7, .ref tr_8, .ref wa_9, .ref wb_10, .ref fi_11, .ref cd_12]))], [(t0_2, .inr (8, [.ref a1p_13, .int 0, .int 0, .int (-1), .ref a2p_14, .ref a3p_15, .ref a4p_16, .ref a5p_17]))], [(a2p_14, .inl (T.2 0, 3, .inl (fun _ => 0)))]]) (br := [[(a1p_13, .inl (T.2 1, 600, .inl f1p_18))], [(a3p_15, .inl (T.2 3, 2, .inr (.inr (.inr (.inr f3p_19)))))], [(a4p_16, .inl (T.2 4, 2, .inr (.inr (.inr (.inr f4p_20)))))], [(a5p_17, .inl (T.2 5, 2, .inr (.inr (.inr (.inr f5p_21)))))], w1p_28, w2p_29, w3p_30, w4p_31, w5p_32, w6p_33, [(ia_3, .inl (T.2 6, 3, .inr (.inr (.inr (.inr fq_34)))))], u0_38, u1_39, u2_40, [(im_4, .inl (T.2 2, 3, .inl (fun _ => 0)))], v_41, z1_42, z2_43, z3_44, w1_45, w2_46, w3_47, [(cd_12, .inl (T.2 0, 1000, .inl (fun _ => 0)))], [(q_74, .inr (11, [.ref r_all_75, .ref r_has_76, .int 0, .int 0, .int 0, .int 0, .int 0, .int 0, .int 0, .int 0, .ref r_read_77, .int 0, .int 0, .int 0, .ref r_posts_78, .ref r_shut_79, .ref r_here_80, .int 0, .int 0, .int 0, .int 0, .ref r_was_81, .ref r_came_82, .ref r_seenAt_83, .ref r_rowWorth_84, .ref r_farBy_85, .ref r_used_86, .int 0, .int 0, .int 0, .int 0, .int 0, .int 0, .int 0, .int 0, .int 0, .int 0, .int 0, .int 0, .ref r_fitPost_87, .ref r_fitEnd_88, .ref r_keptPosts_89, .int 0]))], [(r_all_75, .inl (T.2 0, 3952, .inl (upd (fun _ => 0) 6 (-1))))], [(r_has_76, .inl (T.2 2, 3, .inl (fun _ => 0)))], [(r_read_77, .inl (T.2 0, 121, .inl (fun _ => 0)))], [(r_posts_78, .inl (T.2 0, 7, .inl (fun _ => 0)))], [(r_shut_79, .inl (T.2 0, 7, .inl (fun _ => 0)))], [(r_here_80, .inl (T.2 0, 7, .inl (fun _ => 0)))], [(r_was_81, .inl (T.2 0, 7, .inl (fun _ => 0)))], [(r_came_82, .inl (T.2 0, 7, .inl (fun _ => 0)))], [(r_seenAt_83, .inl (T.2 0, 16384, .inl (fun _ => 0)))], [(r_rowWorth_84, .inl (T.2 0, 512, .inl (fun _ => 0)))], [(r_farBy_85, .inl (T.2 0, 49, .inl (fun _ => 0)))], [(r_used_86, .inl (T.2 0, 7, .inl (fun _ => 0)))], [(r_fitPost_87, .inl (T.2 0, 28, .inl (fun _ => 0)))], [(r_fitEnd_88, .inl (T.2 0, 49, .inl (fun _ => 0)))], [(r_keptPosts_89, .inl (T.2 0, 7, .inl (fun _ => 0)))]]) (As := [.int (xs 1), .int (xs 2), .int (xs 3)]) (rest := []) C G (c_x_reach l T q_1 t0_2 ia_3 im_4 rd_5 po_6 co_7 tr_8 wa_9 wb_10 fi_11 cd_12 a1p_13 a2p_14 a3p_15 a4p_16 a5p_17 (xs 1) (xs 2) (xs 3)) (kV_RL_104 C.2.2.2.2 (Nat.le_of_ble_eq_true rfl) (Nat.le_of_ble_eq_true rfl)) [0, 1, 3] [2, 4, 5, 6, 7, 8, 9, 10, 11, 12, 13, 14, 15, 16, 17, 18, 19, 20, 21, 22, 23, 24, 25, 26, 27, 28, 29, 30, 31, 32, 33, 34, 35, 36, 37, 38, 39, 40, 41] rfl rfl (ci := 10) (qc := (RX11, TX11, 11)) rfl rfl (List.mem_flatten.mpr ⟨_, List.mem_of_getElem? (i := 0) rfl, List.mem_cons_self⟩) rfl rfl hl.1 dL_law_1141 (Nat.le_of_ble_eq_true rfl) (Nat.le_of_ble_eq_true rfl) (fun r_500 b1 H locs hw G => ?_)
        obtain ⟨rfl, h_499⟩ := hw
        have G : zS T A s.heap s [[(a1p_13, .inl (T.2 1, 600, .inl f1p_18))], [(a3p_15, .inl (T.2 3, 2, .inr (.inr (.inr (.inr f3p_19)))))], [(a4p_16, .inl (T.2 4, 2, .inr (.inr (.inr (.inr f4p_20)))))], [(a5p_17, .inl (T.2 5, 2, .inr (.inr (.inr (.inr f5p_21)))))], w1p_28, w2p_29, w3p_30, w4p_31, w5p_32, w6p_33, [(ia_3, .inl (T.2 6, 3, .inr (.inr (.inr (.inr fq_34)))))], u0_38, u1_39, u2_40, [(im_4, .inl (T.2 2, 3, .inl (fun _ => 0)))], v_41, z1_42, z2_43, z3_44, w1_45, w2_46, w3_47, [(cd_12, .inl (T.2 0, 1000, .inl (fun _ => 0)))], [(q_74, .inr (11, [.ref r_all_75, .ref r_has_76, .int 0, .int 0, .int 0, .int 0, .int 0, .int 0, .int 0, .int 0, .ref r_read_77, .int 0, .int 0, .int 0, .ref r_posts_78, .ref r_shut_79, .ref r_here_80, .int 0, .int 0, .int 0, .int 0, .ref r_was_81, .ref r_came_82, .ref r_seenAt_83, .ref r_rowWorth_84, .ref r_farBy_85, .ref r_used_86, .int 0, .int 0, .int 0, .int 0, .int 0, .int 0, .int 0, .int 0, .int 0, .int 0, .int 0, .int 0, .ref r_fitPost_87, .ref r_fitEnd_88, .ref r_keptPosts_89, .int 0]))], [(r_all_75, .inl (T.2 0, 3952, .inl (upd (fun _ => 0) 6 (-1))))], [(r_has_76, .inl (T.2 2, 3, .inl (fun _ => 0)))], [(r_read_77, .inl (T.2 0, 121, .inl (fun _ => 0)))], [(r_posts_78, .inl (T.2 0, 7, .inl (fun _ => 0)))], [(r_shut_79, .inl (T.2 0, 7, .inl (fun _ => 0)))], [(r_here_80, .inl (T.2 0, 7, .inl (fun _ => 0)))], [(r_was_81, .inl (T.2 0, 7, .inl (fun _ => 0)))], [(r_came_82, .inl (T.2 0, 7, .inl (fun _ => 0)))], [(r_seenAt_83, .inl (T.2 0, 16384, .inl (fun _ => 0)))], [(r_rowWorth_84, .inl (T.2 0, 512, .inl (fun _ => 0)))], [(r_farBy_85, .inl (T.2 0, 49, .inl (fun _ => 0)))], [(r_used_86, .inl (T.2 0, 7, .inl (fun _ => 0)))], [(r_fitPost_87, .inl (T.2 0, 28, .inl (fun _ => 0)))], [(r_fitEnd_88, .inl (T.2 0, 49, .inl (fun _ => 0)))], [(r_keptPosts_89, .inl (T.2 0, 7, .inl (fun _ => 0)))]] _ _ := G
        subst h_499
        refine lv_aload_n hx hb dL_law_1144 rfl (lv_at hl 1 rfl) ?_
        refine lv_aload_n hx hb dL_law_1145 rfl (lv_at hl 3 rfl) ?_
        refine lv_iload_n hx hb dL_law_1146 rfl (lv_at hl 0 rfl) ?_
        refine lv_iconst (v := 1) hx hb dL_law_1147 (by decide) ?_
        refine lv_iadd hx hb dL_law_1148 ?_
        refine lv_topi (fun y_501 ey_501 => ?_)
        obtain rfl : y_501 = 1 := ey_501.trans (by decide)
        refine va_sld hx hb hX hbl hbA G.2.2.2.1 (vp_in_nI (n := 1) (by decide) (by decide)) dL_law_1149 ?_
        refine lv_topi (fun v_502 ev_502 => ?_)
        have ev_502 : v_502 = xs 1 := ev_502
        subst ev_502
        refine lv_aload_n hx hb dL_law_1150 rfl (lv_at hl 3 rfl) ?_
        refine lv_iload_n hx hb dL_law_1151 rfl (lv_at hl 0 rfl) ?_
        refine lv_iconst (v := 2) hx hb dL_law_1152 (by decide) ?_
        refine lv_iadd hx hb dL_law_1153 ?_
        refine lv_topi (fun y_503 ey_503 => ?_)
        obtain rfl : y_503 = 2 := ey_503.trans (by decide)
        refine va_sld hx hb hX hbl hbA G.2.2.2.1 (vp_in_nI (n := 2) (by decide) (by decide)) dL_law_1154 ?_
        refine lv_topi (fun v_504 ev_504 => ?_)
        have ev_504 : v_504 = xs 2 := ev_504
        subst ev_504
        refine lv_aload_n hx hb dL_law_1155 rfl (lv_at hl 3 rfl) ?_
        refine lv_iload_n hx hb dL_law_1156 rfl (lv_at hl 0 rfl) ?_
        refine lv_iconst (v := 3) hx hb dL_law_1157 (by decide) ?_
        refine lv_iadd hx hb dL_law_1158 ?_
        refine lv_topi (fun y_505 ey_505 => ?_)
        obtain rfl : y_505 = 3 := ey_505.trans (by decide)
        refine va_sld hx hb hX hbl hbA G.2.2.2.1 (vp_in_nI (n := 3) (by decide) (by decide)) dL_law_1159 ?_
        refine lv_topi (fun v_506 ev_506 => ?_)
        have ev_506 : v_506 = xs 3 := ev_506
        subst ev_506
        refine z_Vi (bc := [[(q_74, .inr (11, [.ref r_all_75, .ref r_has_76, .int 0, .int 0, .int 0, .int 0, .int 0, .int 0, .int 0, .int 0, .ref r_read_77, .int 0, .int 0, .int 0, .ref r_posts_78, .ref r_shut_79, .ref r_here_80, .int 0, .int 0, .int 0, .int 0, .ref r_was_81, .ref r_came_82, .ref r_seenAt_83, .ref r_rowWorth_84, .ref r_farBy_85, .ref r_used_86, .int 0, .int 0, .int 0, .int 0, .int 0, .int 0, .int 0, .int 0, .int 0, .int 0, .int 0, .int 0, .ref r_fitPost_87, .ref r_fitEnd_88, .ref r_keptPosts_89, .int 0]))], [(r_all_75, .inl (T.2 0, 3952, .inl (upd (fun _ => 0) 6 (-1))))]]) (br := [[(a1p_13, .inl (T.2 1, 600, .inl f1p_18))], [(a3p_15, .inl (T.2 3, 2, .inr (.inr (.inr (.inr f3p_19)))))], [(a4p_16, .inl (T.2 4, 2, .inr (.inr (.inr (.inr f4p_20)))))], [(a5p_17, .inl (T.2 5, 2, .inr (.inr (.inr (.inr f5p_21)))))], w1p_28, w2p_29, w3p_30, w4p_31, w5p_32, w6p_33, [(ia_3, .inl (T.2 6, 3, .inr (.inr (.inr (.inr fq_34)))))], u0_38, u1_39, u2_40, [(im_4, .inl (T.2 2, 3, .inl (fun _ => 0)))], v_41, z1_42, z2_43, z3_44, w1_45, w2_46, w3_47, [(cd_12, .inl (T.2 0, 1000, .inl (fun _ => 0)))], [(r_has_76, .inl (T.2 2, 3, .inl (fun _ => 0)))], [(r_read_77, .inl (T.2 0, 121, .inl (fun _ => 0)))], [(r_posts_78, .inl (T.2 0, 7, .inl (fun _ => 0)))], [(r_shut_79, .inl (T.2 0, 7, .inl (fun _ => 0)))], [(r_here_80, .inl (T.2 0, 7, .inl (fun _ => 0)))], [(r_was_81, .inl (T.2 0, 7, .inl (fun _ => 0)))], [(r_came_82, .inl (T.2 0, 7, .inl (fun _ => 0)))], [(r_seenAt_83, .inl (T.2 0, 16384, .inl (fun _ => 0)))], [(r_rowWorth_84, .inl (T.2 0, 512, .inl (fun _ => 0)))], [(r_farBy_85, .inl (T.2 0, 49, .inl (fun _ => 0)))], [(r_used_86, .inl (T.2 0, 7, .inl (fun _ => 0)))], [(r_fitPost_87, .inl (T.2 0, 28, .inl (fun _ => 0)))], [(r_fitEnd_88, .inl (T.2 0, 49, .inl (fun _ => 0)))], [(r_keptPosts_89, .inl (T.2 0, 7, .inl (fun _ => 0)))]]) (As := [.int (xs 1), .int (xs 2), .int (xs 3)]) (rest := [.int (-2)]) C G (c_m_reach l T q_74 r_all_75 r_has_76 r_read_77 r_posts_78 r_shut_79 r_here_80 r_was_81 r_came_82 r_seenAt_83 r_rowWorth_84 r_farBy_85 r_used_86 r_fitPost_87 r_fitEnd_88 r_keptPosts_89 (xs 1) (xs 2) (xs 3)) (kV_RL_107 C.2.2.2.2 (Nat.le_of_ble_eq_true rfl) (Nat.le_of_ble_eq_true rfl)) [23, 24] [0, 1, 2, 3, 4, 5, 6, 7, 8, 9, 10, 11, 12, 13, 14, 15, 16, 17, 18, 19, 20, 21, 22, 25, 26, 27, 28, 29, 30, 31, 32, 33, 34, 35, 36, 37, 38] rfl rfl (ci := 11) (qc := (RX12, TX12, 43)) rfl rfl (List.mem_flatten.mpr ⟨_, List.mem_of_getElem? (i := 0) rfl, List.mem_cons_self⟩) rfl rfl hl.1 dL_law_1160 (Nat.le_of_ble_eq_true rfl) (Nat.le_of_ble_eq_true rfl) (fun r_508 b1 H locs hw G => ?_)
        obtain ⟨rfl, h_507⟩ := hw
        have G : zS T A s.heap s [[(a1p_13, .inl (T.2 1, 600, .inl f1p_18))], [(a3p_15, .inl (T.2 3, 2, .inr (.inr (.inr (.inr f3p_19)))))], [(a4p_16, .inl (T.2 4, 2, .inr (.inr (.inr (.inr f4p_20)))))], [(a5p_17, .inl (T.2 5, 2, .inr (.inr (.inr (.inr f5p_21)))))], w1p_28, w2p_29, w3p_30, w4p_31, w5p_32, w6p_33, [(ia_3, .inl (T.2 6, 3, .inr (.inr (.inr (.inr fq_34)))))], u0_38, u1_39, u2_40, [(im_4, .inl (T.2 2, 3, .inl (fun _ => 0)))], v_41, z1_42, z2_43, z3_44, w1_45, w2_46, w3_47, [(cd_12, .inl (T.2 0, 1000, .inl (fun _ => 0)))], [(r_has_76, .inl (T.2 2, 3, .inl (fun _ => 0)))], [(r_read_77, .inl (T.2 0, 121, .inl (fun _ => 0)))], [(r_posts_78, .inl (T.2 0, 7, .inl (fun _ => 0)))], [(r_shut_79, .inl (T.2 0, 7, .inl (fun _ => 0)))], [(r_here_80, .inl (T.2 0, 7, .inl (fun _ => 0)))], [(r_was_81, .inl (T.2 0, 7, .inl (fun _ => 0)))], [(r_came_82, .inl (T.2 0, 7, .inl (fun _ => 0)))], [(r_seenAt_83, .inl (T.2 0, 16384, .inl (fun _ => 0)))], [(r_rowWorth_84, .inl (T.2 0, 512, .inl (fun _ => 0)))], [(r_farBy_85, .inl (T.2 0, 49, .inl (fun _ => 0)))], [(r_used_86, .inl (T.2 0, 7, .inl (fun _ => 0)))], [(r_fitPost_87, .inl (T.2 0, 28, .inl (fun _ => 0)))], [(r_fitEnd_88, .inl (T.2 0, 49, .inl (fun _ => 0)))], [(r_keptPosts_89, .inl (T.2 0, 7, .inl (fun _ => 0)))]] _ _ := G
        subst h_507
        refine lv_icmp_eq (tgt := 1767) hx hb dL_law_1163 (by decide) (fun _ => ?_) (fun q => absurd (by decide) q)
        refine lv_iinc (v := 6) (lv' := [(3, .int 6), (2, .ref q_74), (1, .ref q_1), (0, .ref b)]) hx hb dL_law_1767 hl (k := 0) rfl (by decide) (by decide) rfl (fun ls hl => ?_)
        refine lv_goto (tgt := 18) hx hb dL_law_1770 (by decide) ?_
        refine lv_iload_n hx hb dL_law_18 rfl (lv_at hl 0 rfl) ?_
        refine lv_aload_n hx hb dL_law_19 rfl (lv_at hl 3 rfl) ?_
        refine va_slen hx hb hX hbl hbA G.2.2.2.1 dL_law_20 ?_
        refine lv_bipush (v := 6) hx hb dL_law_21 (by decide) ?_
        refine lv_isub hx hb dL_law_23 ?_
        refine lv_topi (fun y_509 ey_509 => ?_)
        obtain rfl : y_509 = 0 := ey_509.trans (by decide)
        refine lv_icmp_gt (tgt := 1773) hx hb dL_law_24 (by decide) (fun _ => ?_) (fun q => absurd (by decide) q)
        refine lv_iconst (v := 1) hx hb dL_law_1773 (by decide) ?_
        refine va_forget (fun q hq => by have h9 := G.2.2.2.1.2.2 q hq; rw [hAe] at h9; exact h9) ?_
        refine W.widen (k := 600000) (n := 7302250) (Nat.le_of_ble_eq_true rfl) (Nat.le_of_ble_eq_true rfl) ?_
        exact lw_ret hx hb hr hlocks dL_law_1774
      · refine lv_tableIn (tgt := 1168) hx hb dL_law_33 (by omega) (by omega) (by rw [c_94]; rfl) (by decide) ?_
        refine lv_aload_n hx hb dL_law_1168 rfl (lv_at hl 2 rfl) ?_
        refine lv_aload_n hx hb dL_law_1169 rfl (lv_at hl 3 rfl) ?_
        refine lv_iload_n hx hb dL_law_1170 rfl (lv_at hl 0 rfl) ?_
        refine lv_iconst (v := 1) hx hb dL_law_1171 (by decide) ?_
        refine lv_iadd hx hb dL_law_1172 ?_
        refine lv_topi (fun y_510 ey_510 => ?_)
        obtain rfl : y_510 = 1 := ey_510.trans (by decide)
        refine va_sld hx hb hX hbl hbA G.2.2.2.1 (vp_in_nI (n := 1) (by decide) (by decide)) dL_law_1173 ?_
        refine lv_topi (fun v_511 ev_511 => ?_)
        have ev_511 : v_511 = xs 1 := ev_511
        subst ev_511
        refine lv_aload_n hx hb dL_law_1174 rfl (lv_at hl 3 rfl) ?_
        refine lv_iload_n hx hb dL_law_1175 rfl (lv_at hl 0 rfl) ?_
        refine lv_iconst (v := 2) hx hb dL_law_1176 (by decide) ?_
        refine lv_iadd hx hb dL_law_1177 ?_
        refine lv_topi (fun y_512 ey_512 => ?_)
        obtain rfl : y_512 = 2 := ey_512.trans (by decide)
        refine va_sld hx hb hX hbl hbA G.2.2.2.1 (vp_in_nI (n := 2) (by decide) (by decide)) dL_law_1178 ?_
        refine lv_topi (fun v_513 ev_513 => ?_)
        have ev_513 : v_513 = xs 2 := ev_513
        subst ev_513
        refine z_Vi (bc := [[(q_1, .inr (10, [.ref t0_2, .ref ia_3, .ref im_4, .ref rd_5, .ref po_6, .ref co_7, .ref tr_8, .ref wa_9, .ref wb_10, .ref fi_11, .ref cd_12]))], [(t0_2, .inr (8, [.ref a1p_13, .int 0, .int 0, .int (-1), .ref a2p_14, .ref a3p_15, .ref a4p_16, .ref a5p_17]))], [(a2p_14, .inl (T.2 0, 3, .inl (fun _ => 0)))]]) (br := [[(a1p_13, .inl (T.2 1, 600, .inl f1p_18))], [(a3p_15, .inl (T.2 3, 2, .inr (.inr (.inr (.inr f3p_19)))))], [(a4p_16, .inl (T.2 4, 2, .inr (.inr (.inr (.inr f4p_20)))))], [(a5p_17, .inl (T.2 5, 2, .inr (.inr (.inr (.inr f5p_21)))))], w1p_28, w2p_29, w3p_30, w4p_31, w5p_32, w6p_33, [(ia_3, .inl (T.2 6, 3, .inr (.inr (.inr (.inr fq_34)))))], u0_38, u1_39, u2_40, [(im_4, .inl (T.2 2, 3, .inl (fun _ => 0)))], v_41, z1_42, z2_43, z3_44, w1_45, w2_46, w3_47, [(cd_12, .inl (T.2 0, 1000, .inl (fun _ => 0)))], [(q_74, .inr (11, [.ref r_all_75, .ref r_has_76, .int 0, .int 0, .int 0, .int 0, .int 0, .int 0, .int 0, .int 0, .ref r_read_77, .int 0, .int 0, .int 0, .ref r_posts_78, .ref r_shut_79, .ref r_here_80, .int 0, .int 0, .int 0, .int 0, .ref r_was_81, .ref r_came_82, .ref r_seenAt_83, .ref r_rowWorth_84, .ref r_farBy_85, .ref r_used_86, .int 0, .int 0, .int 0, .int 0, .int 0, .int 0, .int 0, .int 0, .int 0, .int 0, .int 0, .int 0, .ref r_fitPost_87, .ref r_fitEnd_88, .ref r_keptPosts_89, .int 0]))], [(r_all_75, .inl (T.2 0, 3952, .inl (upd (fun _ => 0) 6 (-1))))], [(r_has_76, .inl (T.2 2, 3, .inl (fun _ => 0)))], [(r_read_77, .inl (T.2 0, 121, .inl (fun _ => 0)))], [(r_posts_78, .inl (T.2 0, 7, .inl (fun _ => 0)))], [(r_shut_79, .inl (T.2 0, 7, .inl (fun _ => 0)))], [(r_here_80, .inl (T.2 0, 7, .inl (fun _ => 0)))], [(r_was_81, .inl (T.2 0, 7, .inl (fun _ => 0)))], [(r_came_82, .inl (T.2 0, 7, .inl (fun _ => 0)))], [(r_seenAt_83, .inl (T.2 0, 16384, .inl (fun _ => 0)))], [(r_rowWorth_84, .inl (T.2 0, 512, .inl (fun _ => 0)))], [(r_farBy_85, .inl (T.2 0, 49, .inl (fun _ => 0)))], [(r_used_86, .inl (T.2 0, 7, .inl (fun _ => 0)))], [(r_fitPost_87, .inl (T.2 0, 28, .inl (fun _ => 0)))], [(r_fitEnd_88, .inl (T.2 0, 49, .inl (fun _ => 0)))], [(r_keptPosts_89, .inl (T.2 0, 7, .inl (fun _ => 0)))]]) (As := [.int (xs 1), .int (xs 2)]) (rest := []) C G (c_x_classes l T q_1 t0_2 ia_3 im_4 rd_5 po_6 co_7 tr_8 wa_9 wb_10 fi_11 cd_12 a1p_13 a2p_14 a3p_15 a4p_16 a5p_17 (xs 1) (xs 2)) (kV_RL_108 C.2.2.2.2 (Nat.le_of_ble_eq_true rfl) (Nat.le_of_ble_eq_true rfl)) [0, 1, 3] [2, 4, 5, 6, 7, 8, 9, 10, 11, 12, 13, 14, 15, 16, 17, 18, 19, 20, 21, 22, 23, 24, 25, 26, 27, 28, 29, 30, 31, 32, 33, 34, 35, 36, 37, 38, 39, 40, 41] rfl rfl (ci := 10) (qc := (RX11, TX11, 11)) rfl rfl (List.mem_flatten.mpr ⟨_, List.mem_of_getElem? (i := 0) rfl, List.mem_cons_self⟩) rfl rfl hl.1 dL_law_1179 (Nat.le_of_ble_eq_true rfl) (Nat.le_of_ble_eq_true rfl) (fun r_515 b1 H locs hw G => ?_)
        obtain ⟨rfl, h_514⟩ := hw
        have G : zS T A s.heap s [[(a1p_13, .inl (T.2 1, 600, .inl f1p_18))], [(a3p_15, .inl (T.2 3, 2, .inr (.inr (.inr (.inr f3p_19)))))], [(a4p_16, .inl (T.2 4, 2, .inr (.inr (.inr (.inr f4p_20)))))], [(a5p_17, .inl (T.2 5, 2, .inr (.inr (.inr (.inr f5p_21)))))], w1p_28, w2p_29, w3p_30, w4p_31, w5p_32, w6p_33, [(ia_3, .inl (T.2 6, 3, .inr (.inr (.inr (.inr fq_34)))))], u0_38, u1_39, u2_40, [(im_4, .inl (T.2 2, 3, .inl (fun _ => 0)))], v_41, z1_42, z2_43, z3_44, w1_45, w2_46, w3_47, [(cd_12, .inl (T.2 0, 1000, .inl (fun _ => 0)))], [(q_74, .inr (11, [.ref r_all_75, .ref r_has_76, .int 0, .int 0, .int 0, .int 0, .int 0, .int 0, .int 0, .int 0, .ref r_read_77, .int 0, .int 0, .int 0, .ref r_posts_78, .ref r_shut_79, .ref r_here_80, .int 0, .int 0, .int 0, .int 0, .ref r_was_81, .ref r_came_82, .ref r_seenAt_83, .ref r_rowWorth_84, .ref r_farBy_85, .ref r_used_86, .int 0, .int 0, .int 0, .int 0, .int 0, .int 0, .int 0, .int 0, .int 0, .int 0, .int 0, .int 0, .ref r_fitPost_87, .ref r_fitEnd_88, .ref r_keptPosts_89, .int 0]))], [(r_all_75, .inl (T.2 0, 3952, .inl (upd (fun _ => 0) 6 (-1))))], [(r_has_76, .inl (T.2 2, 3, .inl (fun _ => 0)))], [(r_read_77, .inl (T.2 0, 121, .inl (fun _ => 0)))], [(r_posts_78, .inl (T.2 0, 7, .inl (fun _ => 0)))], [(r_shut_79, .inl (T.2 0, 7, .inl (fun _ => 0)))], [(r_here_80, .inl (T.2 0, 7, .inl (fun _ => 0)))], [(r_was_81, .inl (T.2 0, 7, .inl (fun _ => 0)))], [(r_came_82, .inl (T.2 0, 7, .inl (fun _ => 0)))], [(r_seenAt_83, .inl (T.2 0, 16384, .inl (fun _ => 0)))], [(r_rowWorth_84, .inl (T.2 0, 512, .inl (fun _ => 0)))], [(r_farBy_85, .inl (T.2 0, 49, .inl (fun _ => 0)))], [(r_used_86, .inl (T.2 0, 7, .inl (fun _ => 0)))], [(r_fitPost_87, .inl (T.2 0, 28, .inl (fun _ => 0)))], [(r_fitEnd_88, .inl (T.2 0, 49, .inl (fun _ => 0)))], [(r_keptPosts_89, .inl (T.2 0, 7, .inl (fun _ => 0)))]] _ _ := G
        subst h_514
        refine lv_aload_n hx hb dL_law_1182 rfl (lv_at hl 1 rfl) ?_
        refine lv_aload_n hx hb dL_law_1183 rfl (lv_at hl 3 rfl) ?_
        refine lv_iload_n hx hb dL_law_1184 rfl (lv_at hl 0 rfl) ?_
        refine lv_iconst (v := 1) hx hb dL_law_1185 (by decide) ?_
        refine lv_iadd hx hb dL_law_1186 ?_
        refine lv_topi (fun y_516 ey_516 => ?_)
        obtain rfl : y_516 = 1 := ey_516.trans (by decide)
        refine va_sld hx hb hX hbl hbA G.2.2.2.1 (vp_in_nI (n := 1) (by decide) (by decide)) dL_law_1187 ?_
        refine lv_topi (fun v_517 ev_517 => ?_)
        have ev_517 : v_517 = xs 1 := ev_517
        subst ev_517
        refine lv_aload_n hx hb dL_law_1188 rfl (lv_at hl 3 rfl) ?_
        refine lv_iload_n hx hb dL_law_1189 rfl (lv_at hl 0 rfl) ?_
        refine lv_iconst (v := 2) hx hb dL_law_1190 (by decide) ?_
        refine lv_iadd hx hb dL_law_1191 ?_
        refine lv_topi (fun y_518 ey_518 => ?_)
        obtain rfl : y_518 = 2 := ey_518.trans (by decide)
        refine va_sld hx hb hX hbl hbA G.2.2.2.1 (vp_in_nI (n := 2) (by decide) (by decide)) dL_law_1192 ?_
        refine lv_topi (fun v_519 ev_519 => ?_)
        have ev_519 : v_519 = xs 2 := ev_519
        subst ev_519
        refine z_Vi (bc := [[(q_74, .inr (11, [.ref r_all_75, .ref r_has_76, .int 0, .int 0, .int 0, .int 0, .int 0, .int 0, .int 0, .int 0, .ref r_read_77, .int 0, .int 0, .int 0, .ref r_posts_78, .ref r_shut_79, .ref r_here_80, .int 0, .int 0, .int 0, .int 0, .ref r_was_81, .ref r_came_82, .ref r_seenAt_83, .ref r_rowWorth_84, .ref r_farBy_85, .ref r_used_86, .int 0, .int 0, .int 0, .int 0, .int 0, .int 0, .int 0, .int 0, .int 0, .int 0, .int 0, .int 0, .ref r_fitPost_87, .ref r_fitEnd_88, .ref r_keptPosts_89, .int 0]))], [(r_all_75, .inl (T.2 0, 3952, .inl (upd (fun _ => 0) 6 (-1))))]]) (br := [[(a1p_13, .inl (T.2 1, 600, .inl f1p_18))], [(a3p_15, .inl (T.2 3, 2, .inr (.inr (.inr (.inr f3p_19)))))], [(a4p_16, .inl (T.2 4, 2, .inr (.inr (.inr (.inr f4p_20)))))], [(a5p_17, .inl (T.2 5, 2, .inr (.inr (.inr (.inr f5p_21)))))], w1p_28, w2p_29, w3p_30, w4p_31, w5p_32, w6p_33, [(ia_3, .inl (T.2 6, 3, .inr (.inr (.inr (.inr fq_34)))))], u0_38, u1_39, u2_40, [(im_4, .inl (T.2 2, 3, .inl (fun _ => 0)))], v_41, z1_42, z2_43, z3_44, w1_45, w2_46, w3_47, [(cd_12, .inl (T.2 0, 1000, .inl (fun _ => 0)))], [(r_has_76, .inl (T.2 2, 3, .inl (fun _ => 0)))], [(r_read_77, .inl (T.2 0, 121, .inl (fun _ => 0)))], [(r_posts_78, .inl (T.2 0, 7, .inl (fun _ => 0)))], [(r_shut_79, .inl (T.2 0, 7, .inl (fun _ => 0)))], [(r_here_80, .inl (T.2 0, 7, .inl (fun _ => 0)))], [(r_was_81, .inl (T.2 0, 7, .inl (fun _ => 0)))], [(r_came_82, .inl (T.2 0, 7, .inl (fun _ => 0)))], [(r_seenAt_83, .inl (T.2 0, 16384, .inl (fun _ => 0)))], [(r_rowWorth_84, .inl (T.2 0, 512, .inl (fun _ => 0)))], [(r_farBy_85, .inl (T.2 0, 49, .inl (fun _ => 0)))], [(r_used_86, .inl (T.2 0, 7, .inl (fun _ => 0)))], [(r_fitPost_87, .inl (T.2 0, 28, .inl (fun _ => 0)))], [(r_fitEnd_88, .inl (T.2 0, 49, .inl (fun _ => 0)))], [(r_keptPosts_89, .inl (T.2 0, 7, .inl (fun _ => 0)))]]) (As := [.int (xs 1), .int (xs 2)]) (rest := [.int (-2)]) C G (c_m_classes l T q_74 r_all_75 r_has_76 r_read_77 r_posts_78 r_shut_79 r_here_80 r_was_81 r_came_82 r_seenAt_83 r_rowWorth_84 r_farBy_85 r_used_86 r_fitPost_87 r_fitEnd_88 r_keptPosts_89 (xs 1) (xs 2)) (kV_RL_111 C.2.2.2.2 (Nat.le_of_ble_eq_true rfl) (Nat.le_of_ble_eq_true rfl)) [23, 24] [0, 1, 2, 3, 4, 5, 6, 7, 8, 9, 10, 11, 12, 13, 14, 15, 16, 17, 18, 19, 20, 21, 22, 25, 26, 27, 28, 29, 30, 31, 32, 33, 34, 35, 36, 37, 38] rfl rfl (ci := 11) (qc := (RX12, TX12, 43)) rfl rfl (List.mem_flatten.mpr ⟨_, List.mem_of_getElem? (i := 0) rfl, List.mem_cons_self⟩) rfl rfl hl.1 dL_law_1193 (Nat.le_of_ble_eq_true rfl) (Nat.le_of_ble_eq_true rfl) (fun r_521 b1 H locs hw G => ?_)
        obtain ⟨rfl, h_520⟩ := hw
        have G : zS T A s.heap s [[(a1p_13, .inl (T.2 1, 600, .inl f1p_18))], [(a3p_15, .inl (T.2 3, 2, .inr (.inr (.inr (.inr f3p_19)))))], [(a4p_16, .inl (T.2 4, 2, .inr (.inr (.inr (.inr f4p_20)))))], [(a5p_17, .inl (T.2 5, 2, .inr (.inr (.inr (.inr f5p_21)))))], w1p_28, w2p_29, w3p_30, w4p_31, w5p_32, w6p_33, [(ia_3, .inl (T.2 6, 3, .inr (.inr (.inr (.inr fq_34)))))], u0_38, u1_39, u2_40, [(im_4, .inl (T.2 2, 3, .inl (fun _ => 0)))], v_41, z1_42, z2_43, z3_44, w1_45, w2_46, w3_47, [(cd_12, .inl (T.2 0, 1000, .inl (fun _ => 0)))], [(r_has_76, .inl (T.2 2, 3, .inl (fun _ => 0)))], [(r_read_77, .inl (T.2 0, 121, .inl (fun _ => 0)))], [(r_posts_78, .inl (T.2 0, 7, .inl (fun _ => 0)))], [(r_shut_79, .inl (T.2 0, 7, .inl (fun _ => 0)))], [(r_here_80, .inl (T.2 0, 7, .inl (fun _ => 0)))], [(r_was_81, .inl (T.2 0, 7, .inl (fun _ => 0)))], [(r_came_82, .inl (T.2 0, 7, .inl (fun _ => 0)))], [(r_seenAt_83, .inl (T.2 0, 16384, .inl (fun _ => 0)))], [(r_rowWorth_84, .inl (T.2 0, 512, .inl (fun _ => 0)))], [(r_farBy_85, .inl (T.2 0, 49, .inl (fun _ => 0)))], [(r_used_86, .inl (T.2 0, 7, .inl (fun _ => 0)))], [(r_fitPost_87, .inl (T.2 0, 28, .inl (fun _ => 0)))], [(r_fitEnd_88, .inl (T.2 0, 49, .inl (fun _ => 0)))], [(r_keptPosts_89, .inl (T.2 0, 7, .inl (fun _ => 0)))]] _ _ := G
        subst h_520
        refine lv_icmp_eq (tgt := 1767) hx hb dL_law_1196 (by decide) (fun _ => ?_) (fun q => absurd (by decide) q)
        refine lv_iinc (v := 6) (lv' := [(3, .int 6), (2, .ref q_74), (1, .ref q_1), (0, .ref b)]) hx hb dL_law_1767 hl (k := 0) rfl (by decide) (by decide) rfl (fun ls hl => ?_)
        refine lv_goto (tgt := 18) hx hb dL_law_1770 (by decide) ?_
        refine lv_iload_n hx hb dL_law_18 rfl (lv_at hl 0 rfl) ?_
        refine lv_aload_n hx hb dL_law_19 rfl (lv_at hl 3 rfl) ?_
        refine va_slen hx hb hX hbl hbA G.2.2.2.1 dL_law_20 ?_
        refine lv_bipush (v := 6) hx hb dL_law_21 (by decide) ?_
        refine lv_isub hx hb dL_law_23 ?_
        refine lv_topi (fun y_522 ey_522 => ?_)
        obtain rfl : y_522 = 0 := ey_522.trans (by decide)
        refine lv_icmp_gt (tgt := 1773) hx hb dL_law_24 (by decide) (fun _ => ?_) (fun q => absurd (by decide) q)
        refine lv_iconst (v := 1) hx hb dL_law_1773 (by decide) ?_
        refine va_forget (fun q hq => by have h9 := G.2.2.2.1.2.2 q hq; rw [hAe] at h9; exact h9) ?_
        refine W.widen (k := 600000) (n := 7302250) (Nat.le_of_ble_eq_true rfl) (Nat.le_of_ble_eq_true rfl) ?_
        exact lw_ret hx hb hr hlocks dL_law_1774
      · refine lv_tableIn (tgt := 1201) hx hb dL_law_33 (by omega) (by omega) (by rw [c_94]; rfl) (by decide) ?_
        refine lv_aload_n hx hb dL_law_1201 rfl (lv_at hl 2 rfl) ?_
        refine lv_aload_n hx hb dL_law_1202 rfl (lv_at hl 3 rfl) ?_
        refine lv_iload_n hx hb dL_law_1203 rfl (lv_at hl 0 rfl) ?_
        refine lv_iconst (v := 1) hx hb dL_law_1204 (by decide) ?_
        refine lv_iadd hx hb dL_law_1205 ?_
        refine lv_topi (fun y_523 ey_523 => ?_)
        obtain rfl : y_523 = 1 := ey_523.trans (by decide)
        refine va_sld hx hb hX hbl hbA G.2.2.2.1 (vp_in_nI (n := 1) (by decide) (by decide)) dL_law_1206 ?_
        refine lv_topi (fun v_524 ev_524 => ?_)
        have ev_524 : v_524 = xs 1 := ev_524
        subst ev_524
        refine lv_aload_n hx hb dL_law_1207 rfl (lv_at hl 3 rfl) ?_
        refine lv_iload_n hx hb dL_law_1208 rfl (lv_at hl 0 rfl) ?_
        refine lv_iconst (v := 2) hx hb dL_law_1209 (by decide) ?_
        refine lv_iadd hx hb dL_law_1210 ?_
        refine lv_topi (fun y_525 ey_525 => ?_)
        obtain rfl : y_525 = 2 := ey_525.trans (by decide)
        refine va_sld hx hb hX hbl hbA G.2.2.2.1 (vp_in_nI (n := 2) (by decide) (by decide)) dL_law_1211 ?_
        refine lv_topi (fun v_526 ev_526 => ?_)
        have ev_526 : v_526 = xs 2 := ev_526
        subst ev_526
        refine lv_aload_n hx hb dL_law_1212 rfl (lv_at hl 3 rfl) ?_
        refine lv_iload_n hx hb dL_law_1213 rfl (lv_at hl 0 rfl) ?_
        refine lv_iconst (v := 3) hx hb dL_law_1214 (by decide) ?_
        refine lv_iadd hx hb dL_law_1215 ?_
        refine lv_topi (fun y_527 ey_527 => ?_)
        obtain rfl : y_527 = 3 := ey_527.trans (by decide)
        refine va_sld hx hb hX hbl hbA G.2.2.2.1 (vp_in_nI (n := 3) (by decide) (by decide)) dL_law_1216 ?_
        refine lv_topi (fun v_528 ev_528 => ?_)
        have ev_528 : v_528 = xs 3 := ev_528
        subst ev_528
        refine z_Vi (bc := [[(q_1, .inr (10, [.ref t0_2, .ref ia_3, .ref im_4, .ref rd_5, .ref po_6, .ref co_7, .ref tr_8, .ref wa_9, .ref wb_10, .ref fi_11, .ref cd_12]))], [(t0_2, .inr (8, [.ref a1p_13, .int 0, .int 0, .int (-1), .ref a2p_14, .ref a3p_15, .ref a4p_16, .ref a5p_17]))], [(a2p_14, .inl (T.2 0, 3, .inl (fun _ => 0)))]]) (br := [[(a1p_13, .inl (T.2 1, 600, .inl f1p_18))], [(a3p_15, .inl (T.2 3, 2, .inr (.inr (.inr (.inr f3p_19)))))], [(a4p_16, .inl (T.2 4, 2, .inr (.inr (.inr (.inr f4p_20)))))], [(a5p_17, .inl (T.2 5, 2, .inr (.inr (.inr (.inr f5p_21)))))], w1p_28, w2p_29, w3p_30, w4p_31, w5p_32, w6p_33, [(ia_3, .inl (T.2 6, 3, .inr (.inr (.inr (.inr fq_34)))))], u0_38, u1_39, u2_40, [(im_4, .inl (T.2 2, 3, .inl (fun _ => 0)))], v_41, z1_42, z2_43, z3_44, w1_45, w2_46, w3_47, [(cd_12, .inl (T.2 0, 1000, .inl (fun _ => 0)))], [(q_74, .inr (11, [.ref r_all_75, .ref r_has_76, .int 0, .int 0, .int 0, .int 0, .int 0, .int 0, .int 0, .int 0, .ref r_read_77, .int 0, .int 0, .int 0, .ref r_posts_78, .ref r_shut_79, .ref r_here_80, .int 0, .int 0, .int 0, .int 0, .ref r_was_81, .ref r_came_82, .ref r_seenAt_83, .ref r_rowWorth_84, .ref r_farBy_85, .ref r_used_86, .int 0, .int 0, .int 0, .int 0, .int 0, .int 0, .int 0, .int 0, .int 0, .int 0, .int 0, .int 0, .ref r_fitPost_87, .ref r_fitEnd_88, .ref r_keptPosts_89, .int 0]))], [(r_all_75, .inl (T.2 0, 3952, .inl (upd (fun _ => 0) 6 (-1))))], [(r_has_76, .inl (T.2 2, 3, .inl (fun _ => 0)))], [(r_read_77, .inl (T.2 0, 121, .inl (fun _ => 0)))], [(r_posts_78, .inl (T.2 0, 7, .inl (fun _ => 0)))], [(r_shut_79, .inl (T.2 0, 7, .inl (fun _ => 0)))], [(r_here_80, .inl (T.2 0, 7, .inl (fun _ => 0)))], [(r_was_81, .inl (T.2 0, 7, .inl (fun _ => 0)))], [(r_came_82, .inl (T.2 0, 7, .inl (fun _ => 0)))], [(r_seenAt_83, .inl (T.2 0, 16384, .inl (fun _ => 0)))], [(r_rowWorth_84, .inl (T.2 0, 512, .inl (fun _ => 0)))], [(r_farBy_85, .inl (T.2 0, 49, .inl (fun _ => 0)))], [(r_used_86, .inl (T.2 0, 7, .inl (fun _ => 0)))], [(r_fitPost_87, .inl (T.2 0, 28, .inl (fun _ => 0)))], [(r_fitEnd_88, .inl (T.2 0, 49, .inl (fun _ => 0)))], [(r_keptPosts_89, .inl (T.2 0, 7, .inl (fun _ => 0)))]]) (As := [.int (xs 1), .int (xs 2), .int (xs 3)]) (rest := []) C G (c_x_led l T q_1 t0_2 ia_3 im_4 rd_5 po_6 co_7 tr_8 wa_9 wb_10 fi_11 cd_12 a1p_13 a2p_14 a3p_15 a4p_16 a5p_17 (xs 1) (xs 2) (xs 3)) (kV_RL_112 C.2.2.2.2 (Nat.le_of_ble_eq_true rfl) (Nat.le_of_ble_eq_true rfl)) [0, 1, 3] [2, 4, 5, 6, 7, 8, 9, 10, 11, 12, 13, 14, 15, 16, 17, 18, 19, 20, 21, 22, 23, 24, 25, 26, 27, 28, 29, 30, 31, 32, 33, 34, 35, 36, 37, 38, 39, 40, 41] rfl rfl (ci := 10) (qc := (RX11, TX11, 11)) rfl rfl (List.mem_flatten.mpr ⟨_, List.mem_of_getElem? (i := 0) rfl, List.mem_cons_self⟩) rfl rfl hl.1 dL_law_1217 (Nat.le_of_ble_eq_true rfl) (Nat.le_of_ble_eq_true rfl) (fun r_530 b1 H locs hw G => ?_)
        obtain ⟨rfl, h_529⟩ := hw
        have G : zS T A s.heap s [[(a1p_13, .inl (T.2 1, 600, .inl f1p_18))], [(a3p_15, .inl (T.2 3, 2, .inr (.inr (.inr (.inr f3p_19)))))], [(a4p_16, .inl (T.2 4, 2, .inr (.inr (.inr (.inr f4p_20)))))], [(a5p_17, .inl (T.2 5, 2, .inr (.inr (.inr (.inr f5p_21)))))], w1p_28, w2p_29, w3p_30, w4p_31, w5p_32, w6p_33, [(ia_3, .inl (T.2 6, 3, .inr (.inr (.inr (.inr fq_34)))))], u0_38, u1_39, u2_40, [(im_4, .inl (T.2 2, 3, .inl (fun _ => 0)))], v_41, z1_42, z2_43, z3_44, w1_45, w2_46, w3_47, [(cd_12, .inl (T.2 0, 1000, .inl (fun _ => 0)))], [(q_74, .inr (11, [.ref r_all_75, .ref r_has_76, .int 0, .int 0, .int 0, .int 0, .int 0, .int 0, .int 0, .int 0, .ref r_read_77, .int 0, .int 0, .int 0, .ref r_posts_78, .ref r_shut_79, .ref r_here_80, .int 0, .int 0, .int 0, .int 0, .ref r_was_81, .ref r_came_82, .ref r_seenAt_83, .ref r_rowWorth_84, .ref r_farBy_85, .ref r_used_86, .int 0, .int 0, .int 0, .int 0, .int 0, .int 0, .int 0, .int 0, .int 0, .int 0, .int 0, .int 0, .ref r_fitPost_87, .ref r_fitEnd_88, .ref r_keptPosts_89, .int 0]))], [(r_all_75, .inl (T.2 0, 3952, .inl (upd (fun _ => 0) 6 (-1))))], [(r_has_76, .inl (T.2 2, 3, .inl (fun _ => 0)))], [(r_read_77, .inl (T.2 0, 121, .inl (fun _ => 0)))], [(r_posts_78, .inl (T.2 0, 7, .inl (fun _ => 0)))], [(r_shut_79, .inl (T.2 0, 7, .inl (fun _ => 0)))], [(r_here_80, .inl (T.2 0, 7, .inl (fun _ => 0)))], [(r_was_81, .inl (T.2 0, 7, .inl (fun _ => 0)))], [(r_came_82, .inl (T.2 0, 7, .inl (fun _ => 0)))], [(r_seenAt_83, .inl (T.2 0, 16384, .inl (fun _ => 0)))], [(r_rowWorth_84, .inl (T.2 0, 512, .inl (fun _ => 0)))], [(r_farBy_85, .inl (T.2 0, 49, .inl (fun _ => 0)))], [(r_used_86, .inl (T.2 0, 7, .inl (fun _ => 0)))], [(r_fitPost_87, .inl (T.2 0, 28, .inl (fun _ => 0)))], [(r_fitEnd_88, .inl (T.2 0, 49, .inl (fun _ => 0)))], [(r_keptPosts_89, .inl (T.2 0, 7, .inl (fun _ => 0)))]] _ _ := G
        subst h_529
        refine lv_aload_n hx hb dL_law_1220 rfl (lv_at hl 1 rfl) ?_
        refine lv_aload_n hx hb dL_law_1221 rfl (lv_at hl 3 rfl) ?_
        refine lv_iload_n hx hb dL_law_1222 rfl (lv_at hl 0 rfl) ?_
        refine lv_iconst (v := 1) hx hb dL_law_1223 (by decide) ?_
        refine lv_iadd hx hb dL_law_1224 ?_
        refine lv_topi (fun y_531 ey_531 => ?_)
        obtain rfl : y_531 = 1 := ey_531.trans (by decide)
        refine va_sld hx hb hX hbl hbA G.2.2.2.1 (vp_in_nI (n := 1) (by decide) (by decide)) dL_law_1225 ?_
        refine lv_topi (fun v_532 ev_532 => ?_)
        have ev_532 : v_532 = xs 1 := ev_532
        subst ev_532
        refine lv_aload_n hx hb dL_law_1226 rfl (lv_at hl 3 rfl) ?_
        refine lv_iload_n hx hb dL_law_1227 rfl (lv_at hl 0 rfl) ?_
        refine lv_iconst (v := 2) hx hb dL_law_1228 (by decide) ?_
        refine lv_iadd hx hb dL_law_1229 ?_
        refine lv_topi (fun y_533 ey_533 => ?_)
        obtain rfl : y_533 = 2 := ey_533.trans (by decide)
        refine va_sld hx hb hX hbl hbA G.2.2.2.1 (vp_in_nI (n := 2) (by decide) (by decide)) dL_law_1230 ?_
        refine lv_topi (fun v_534 ev_534 => ?_)
        have ev_534 : v_534 = xs 2 := ev_534
        subst ev_534
        refine lv_aload_n hx hb dL_law_1231 rfl (lv_at hl 3 rfl) ?_
        refine lv_iload_n hx hb dL_law_1232 rfl (lv_at hl 0 rfl) ?_
        refine lv_iconst (v := 3) hx hb dL_law_1233 (by decide) ?_
        refine lv_iadd hx hb dL_law_1234 ?_
        refine lv_topi (fun y_535 ey_535 => ?_)
        obtain rfl : y_535 = 3 := ey_535.trans (by decide)
        refine va_sld hx hb hX hbl hbA G.2.2.2.1 (vp_in_nI (n := 3) (by decide) (by decide)) dL_law_1235 ?_
        refine lv_topi (fun v_536 ev_536 => ?_)
        have ev_536 : v_536 = xs 3 := ev_536
        subst ev_536
        refine z_Vi (bc := [[(q_74, .inr (11, [.ref r_all_75, .ref r_has_76, .int 0, .int 0, .int 0, .int 0, .int 0, .int 0, .int 0, .int 0, .ref r_read_77, .int 0, .int 0, .int 0, .ref r_posts_78, .ref r_shut_79, .ref r_here_80, .int 0, .int 0, .int 0, .int 0, .ref r_was_81, .ref r_came_82, .ref r_seenAt_83, .ref r_rowWorth_84, .ref r_farBy_85, .ref r_used_86, .int 0, .int 0, .int 0, .int 0, .int 0, .int 0, .int 0, .int 0, .int 0, .int 0, .int 0, .int 0, .ref r_fitPost_87, .ref r_fitEnd_88, .ref r_keptPosts_89, .int 0]))], [(r_all_75, .inl (T.2 0, 3952, .inl (upd (fun _ => 0) 6 (-1))))]]) (br := [[(a1p_13, .inl (T.2 1, 600, .inl f1p_18))], [(a3p_15, .inl (T.2 3, 2, .inr (.inr (.inr (.inr f3p_19)))))], [(a4p_16, .inl (T.2 4, 2, .inr (.inr (.inr (.inr f4p_20)))))], [(a5p_17, .inl (T.2 5, 2, .inr (.inr (.inr (.inr f5p_21)))))], w1p_28, w2p_29, w3p_30, w4p_31, w5p_32, w6p_33, [(ia_3, .inl (T.2 6, 3, .inr (.inr (.inr (.inr fq_34)))))], u0_38, u1_39, u2_40, [(im_4, .inl (T.2 2, 3, .inl (fun _ => 0)))], v_41, z1_42, z2_43, z3_44, w1_45, w2_46, w3_47, [(cd_12, .inl (T.2 0, 1000, .inl (fun _ => 0)))], [(r_has_76, .inl (T.2 2, 3, .inl (fun _ => 0)))], [(r_read_77, .inl (T.2 0, 121, .inl (fun _ => 0)))], [(r_posts_78, .inl (T.2 0, 7, .inl (fun _ => 0)))], [(r_shut_79, .inl (T.2 0, 7, .inl (fun _ => 0)))], [(r_here_80, .inl (T.2 0, 7, .inl (fun _ => 0)))], [(r_was_81, .inl (T.2 0, 7, .inl (fun _ => 0)))], [(r_came_82, .inl (T.2 0, 7, .inl (fun _ => 0)))], [(r_seenAt_83, .inl (T.2 0, 16384, .inl (fun _ => 0)))], [(r_rowWorth_84, .inl (T.2 0, 512, .inl (fun _ => 0)))], [(r_farBy_85, .inl (T.2 0, 49, .inl (fun _ => 0)))], [(r_used_86, .inl (T.2 0, 7, .inl (fun _ => 0)))], [(r_fitPost_87, .inl (T.2 0, 28, .inl (fun _ => 0)))], [(r_fitEnd_88, .inl (T.2 0, 49, .inl (fun _ => 0)))], [(r_keptPosts_89, .inl (T.2 0, 7, .inl (fun _ => 0)))]]) (As := [.int (xs 1), .int (xs 2), .int (xs 3)]) (rest := [.int (-2)]) C G (c_m_led l T q_74 r_all_75 r_has_76 r_read_77 r_posts_78 r_shut_79 r_here_80 r_was_81 r_came_82 r_seenAt_83 r_rowWorth_84 r_farBy_85 r_used_86 r_fitPost_87 r_fitEnd_88 r_keptPosts_89 (xs 1) (xs 2) (xs 3)) (kV_RL_115 C.2.2.2.2 (Nat.le_of_ble_eq_true rfl) (Nat.le_of_ble_eq_true rfl)) [23, 24] [0, 1, 2, 3, 4, 5, 6, 7, 8, 9, 10, 11, 12, 13, 14, 15, 16, 17, 18, 19, 20, 21, 22, 25, 26, 27, 28, 29, 30, 31, 32, 33, 34, 35, 36, 37, 38] rfl rfl (ci := 11) (qc := (RX12, TX12, 43)) rfl rfl (List.mem_flatten.mpr ⟨_, List.mem_of_getElem? (i := 0) rfl, List.mem_cons_self⟩) rfl rfl hl.1 dL_law_1236 (Nat.le_of_ble_eq_true rfl) (Nat.le_of_ble_eq_true rfl) (fun r_538 b1 H locs hw G => ?_)
        obtain ⟨rfl, h_537⟩ := hw
        have G : zS T A s.heap s [[(a1p_13, .inl (T.2 1, 600, .inl f1p_18))], [(a3p_15, .inl (T.2 3, 2, .inr (.inr (.inr (.inr f3p_19)))))], [(a4p_16, .inl (T.2 4, 2, .inr (.inr (.inr (.inr f4p_20)))))], [(a5p_17, .inl (T.2 5, 2, .inr (.inr (.inr (.inr f5p_21)))))], w1p_28, w2p_29, w3p_30, w4p_31, w5p_32, w6p_33, [(ia_3, .inl (T.2 6, 3, .inr (.inr (.inr (.inr fq_34)))))], u0_38, u1_39, u2_40, [(im_4, .inl (T.2 2, 3, .inl (fun _ => 0)))], v_41, z1_42, z2_43, z3_44, w1_45, w2_46, w3_47, [(cd_12, .inl (T.2 0, 1000, .inl (fun _ => 0)))], [(r_has_76, .inl (T.2 2, 3, .inl (fun _ => 0)))], [(r_read_77, .inl (T.2 0, 121, .inl (fun _ => 0)))], [(r_posts_78, .inl (T.2 0, 7, .inl (fun _ => 0)))], [(r_shut_79, .inl (T.2 0, 7, .inl (fun _ => 0)))], [(r_here_80, .inl (T.2 0, 7, .inl (fun _ => 0)))], [(r_was_81, .inl (T.2 0, 7, .inl (fun _ => 0)))], [(r_came_82, .inl (T.2 0, 7, .inl (fun _ => 0)))], [(r_seenAt_83, .inl (T.2 0, 16384, .inl (fun _ => 0)))], [(r_rowWorth_84, .inl (T.2 0, 512, .inl (fun _ => 0)))], [(r_farBy_85, .inl (T.2 0, 49, .inl (fun _ => 0)))], [(r_used_86, .inl (T.2 0, 7, .inl (fun _ => 0)))], [(r_fitPost_87, .inl (T.2 0, 28, .inl (fun _ => 0)))], [(r_fitEnd_88, .inl (T.2 0, 49, .inl (fun _ => 0)))], [(r_keptPosts_89, .inl (T.2 0, 7, .inl (fun _ => 0)))]] _ _ := G
        subst h_537
        refine lv_icmp_eq (tgt := 1767) hx hb dL_law_1239 (by decide) (fun _ => ?_) (fun q => absurd (by decide) q)
        refine lv_iinc (v := 6) (lv' := [(3, .int 6), (2, .ref q_74), (1, .ref q_1), (0, .ref b)]) hx hb dL_law_1767 hl (k := 0) rfl (by decide) (by decide) rfl (fun ls hl => ?_)
        refine lv_goto (tgt := 18) hx hb dL_law_1770 (by decide) ?_
        refine lv_iload_n hx hb dL_law_18 rfl (lv_at hl 0 rfl) ?_
        refine lv_aload_n hx hb dL_law_19 rfl (lv_at hl 3 rfl) ?_
        refine va_slen hx hb hX hbl hbA G.2.2.2.1 dL_law_20 ?_
        refine lv_bipush (v := 6) hx hb dL_law_21 (by decide) ?_
        refine lv_isub hx hb dL_law_23 ?_
        refine lv_topi (fun y_539 ey_539 => ?_)
        obtain rfl : y_539 = 0 := ey_539.trans (by decide)
        refine lv_icmp_gt (tgt := 1773) hx hb dL_law_24 (by decide) (fun _ => ?_) (fun q => absurd (by decide) q)
        refine lv_iconst (v := 1) hx hb dL_law_1773 (by decide) ?_
        refine va_forget (fun q hq => by have h9 := G.2.2.2.1.2.2 q hq; rw [hAe] at h9; exact h9) ?_
        refine W.widen (k := 600000) (n := 7302250) (Nat.le_of_ble_eq_true rfl) (Nat.le_of_ble_eq_true rfl) ?_
        exact lw_ret hx hb hr hlocks dL_law_1774
      · refine lv_tableIn (tgt := 1244) hx hb dL_law_33 (by omega) (by omega) (by rw [c_94]; rfl) (by decide) ?_
        refine lv_aload_n hx hb dL_law_1244 rfl (lv_at hl 2 rfl) ?_
        refine lv_aload_n hx hb dL_law_1245 rfl (lv_at hl 3 rfl) ?_
        refine lv_iload_n hx hb dL_law_1246 rfl (lv_at hl 0 rfl) ?_
        refine lv_iconst (v := 1) hx hb dL_law_1247 (by decide) ?_
        refine lv_iadd hx hb dL_law_1248 ?_
        refine lv_topi (fun y_540 ey_540 => ?_)
        obtain rfl : y_540 = 1 := ey_540.trans (by decide)
        refine va_sld hx hb hX hbl hbA G.2.2.2.1 (vp_in_nI (n := 1) (by decide) (by decide)) dL_law_1249 ?_
        refine lv_topi (fun v_541 ev_541 => ?_)
        have ev_541 : v_541 = xs 1 := ev_541
        subst ev_541
        refine lv_aload_n hx hb dL_law_1250 rfl (lv_at hl 3 rfl) ?_
        refine lv_iload_n hx hb dL_law_1251 rfl (lv_at hl 0 rfl) ?_
        refine lv_iconst (v := 2) hx hb dL_law_1252 (by decide) ?_
        refine lv_iadd hx hb dL_law_1253 ?_
        refine lv_topi (fun y_542 ey_542 => ?_)
        obtain rfl : y_542 = 2 := ey_542.trans (by decide)
        refine va_sld hx hb hX hbl hbA G.2.2.2.1 (vp_in_nI (n := 2) (by decide) (by decide)) dL_law_1254 ?_
        refine lv_topi (fun v_543 ev_543 => ?_)
        have ev_543 : v_543 = xs 2 := ev_543
        subst ev_543
        refine lv_aload_n hx hb dL_law_1255 rfl (lv_at hl 3 rfl) ?_
        refine lv_iload_n hx hb dL_law_1256 rfl (lv_at hl 0 rfl) ?_
        refine lv_iconst (v := 3) hx hb dL_law_1257 (by decide) ?_
        refine lv_iadd hx hb dL_law_1258 ?_
        refine lv_topi (fun y_544 ey_544 => ?_)
        obtain rfl : y_544 = 3 := ey_544.trans (by decide)
        refine va_sld hx hb hX hbl hbA G.2.2.2.1 (vp_in_nI (n := 3) (by decide) (by decide)) dL_law_1259 ?_
        refine lv_topi (fun v_545 ev_545 => ?_)
        have ev_545 : v_545 = xs 3 := ev_545
        subst ev_545
        refine z_Vi (bc := [[(q_1, .inr (10, [.ref t0_2, .ref ia_3, .ref im_4, .ref rd_5, .ref po_6, .ref co_7, .ref tr_8, .ref wa_9, .ref wb_10, .ref fi_11, .ref cd_12]))], [(t0_2, .inr (8, [.ref a1p_13, .int 0, .int 0, .int (-1), .ref a2p_14, .ref a3p_15, .ref a4p_16, .ref a5p_17]))], [(a2p_14, .inl (T.2 0, 3, .inl (fun _ => 0)))]]) (br := [[(a1p_13, .inl (T.2 1, 600, .inl f1p_18))], [(a3p_15, .inl (T.2 3, 2, .inr (.inr (.inr (.inr f3p_19)))))], [(a4p_16, .inl (T.2 4, 2, .inr (.inr (.inr (.inr f4p_20)))))], [(a5p_17, .inl (T.2 5, 2, .inr (.inr (.inr (.inr f5p_21)))))], w1p_28, w2p_29, w3p_30, w4p_31, w5p_32, w6p_33, [(ia_3, .inl (T.2 6, 3, .inr (.inr (.inr (.inr fq_34)))))], u0_38, u1_39, u2_40, [(im_4, .inl (T.2 2, 3, .inl (fun _ => 0)))], v_41, z1_42, z2_43, z3_44, w1_45, w2_46, w3_47, [(cd_12, .inl (T.2 0, 1000, .inl (fun _ => 0)))], [(q_74, .inr (11, [.ref r_all_75, .ref r_has_76, .int 0, .int 0, .int 0, .int 0, .int 0, .int 0, .int 0, .int 0, .ref r_read_77, .int 0, .int 0, .int 0, .ref r_posts_78, .ref r_shut_79, .ref r_here_80, .int 0, .int 0, .int 0, .int 0, .ref r_was_81, .ref r_came_82, .ref r_seenAt_83, .ref r_rowWorth_84, .ref r_farBy_85, .ref r_used_86, .int 0, .int 0, .int 0, .int 0, .int 0, .int 0, .int 0, .int 0, .int 0, .int 0, .int 0, .int 0, .ref r_fitPost_87, .ref r_fitEnd_88, .ref r_keptPosts_89, .int 0]))], [(r_all_75, .inl (T.2 0, 3952, .inl (upd (fun _ => 0) 6 (-1))))], [(r_has_76, .inl (T.2 2, 3, .inl (fun _ => 0)))], [(r_read_77, .inl (T.2 0, 121, .inl (fun _ => 0)))], [(r_posts_78, .inl (T.2 0, 7, .inl (fun _ => 0)))], [(r_shut_79, .inl (T.2 0, 7, .inl (fun _ => 0)))], [(r_here_80, .inl (T.2 0, 7, .inl (fun _ => 0)))], [(r_was_81, .inl (T.2 0, 7, .inl (fun _ => 0)))], [(r_came_82, .inl (T.2 0, 7, .inl (fun _ => 0)))], [(r_seenAt_83, .inl (T.2 0, 16384, .inl (fun _ => 0)))], [(r_rowWorth_84, .inl (T.2 0, 512, .inl (fun _ => 0)))], [(r_farBy_85, .inl (T.2 0, 49, .inl (fun _ => 0)))], [(r_used_86, .inl (T.2 0, 7, .inl (fun _ => 0)))], [(r_fitPost_87, .inl (T.2 0, 28, .inl (fun _ => 0)))], [(r_fitEnd_88, .inl (T.2 0, 49, .inl (fun _ => 0)))], [(r_keptPosts_89, .inl (T.2 0, 7, .inl (fun _ => 0)))]]) (As := [.int (xs 1), .int (xs 2), .int (xs 3)]) (rest := []) C G (c_x_cover l T q_1 t0_2 ia_3 im_4 rd_5 po_6 co_7 tr_8 wa_9 wb_10 fi_11 cd_12 a1p_13 a2p_14 a3p_15 a4p_16 a5p_17 (xs 1) (xs 2) (xs 3)) (kV_RL_116 C.2.2.2.2 (Nat.le_of_ble_eq_true rfl) (Nat.le_of_ble_eq_true rfl)) [0, 1, 3] [2, 4, 5, 6, 7, 8, 9, 10, 11, 12, 13, 14, 15, 16, 17, 18, 19, 20, 21, 22, 23, 24, 25, 26, 27, 28, 29, 30, 31, 32, 33, 34, 35, 36, 37, 38, 39, 40, 41] rfl rfl (ci := 10) (qc := (RX11, TX11, 11)) rfl rfl (List.mem_flatten.mpr ⟨_, List.mem_of_getElem? (i := 0) rfl, List.mem_cons_self⟩) rfl rfl hl.1 dL_law_1260 (Nat.le_of_ble_eq_true rfl) (Nat.le_of_ble_eq_true rfl) (fun r_547 b1 H locs hw G => ?_)
        obtain ⟨rfl, h_546⟩ := hw
        have G : zS T A s.heap s [[(a1p_13, .inl (T.2 1, 600, .inl f1p_18))], [(a3p_15, .inl (T.2 3, 2, .inr (.inr (.inr (.inr f3p_19)))))], [(a4p_16, .inl (T.2 4, 2, .inr (.inr (.inr (.inr f4p_20)))))], [(a5p_17, .inl (T.2 5, 2, .inr (.inr (.inr (.inr f5p_21)))))], w1p_28, w2p_29, w3p_30, w4p_31, w5p_32, w6p_33, [(ia_3, .inl (T.2 6, 3, .inr (.inr (.inr (.inr fq_34)))))], u0_38, u1_39, u2_40, [(im_4, .inl (T.2 2, 3, .inl (fun _ => 0)))], v_41, z1_42, z2_43, z3_44, w1_45, w2_46, w3_47, [(cd_12, .inl (T.2 0, 1000, .inl (fun _ => 0)))], [(q_74, .inr (11, [.ref r_all_75, .ref r_has_76, .int 0, .int 0, .int 0, .int 0, .int 0, .int 0, .int 0, .int 0, .ref r_read_77, .int 0, .int 0, .int 0, .ref r_posts_78, .ref r_shut_79, .ref r_here_80, .int 0, .int 0, .int 0, .int 0, .ref r_was_81, .ref r_came_82, .ref r_seenAt_83, .ref r_rowWorth_84, .ref r_farBy_85, .ref r_used_86, .int 0, .int 0, .int 0, .int 0, .int 0, .int 0, .int 0, .int 0, .int 0, .int 0, .int 0, .int 0, .ref r_fitPost_87, .ref r_fitEnd_88, .ref r_keptPosts_89, .int 0]))], [(r_all_75, .inl (T.2 0, 3952, .inl (upd (fun _ => 0) 6 (-1))))], [(r_has_76, .inl (T.2 2, 3, .inl (fun _ => 0)))], [(r_read_77, .inl (T.2 0, 121, .inl (fun _ => 0)))], [(r_posts_78, .inl (T.2 0, 7, .inl (fun _ => 0)))], [(r_shut_79, .inl (T.2 0, 7, .inl (fun _ => 0)))], [(r_here_80, .inl (T.2 0, 7, .inl (fun _ => 0)))], [(r_was_81, .inl (T.2 0, 7, .inl (fun _ => 0)))], [(r_came_82, .inl (T.2 0, 7, .inl (fun _ => 0)))], [(r_seenAt_83, .inl (T.2 0, 16384, .inl (fun _ => 0)))], [(r_rowWorth_84, .inl (T.2 0, 512, .inl (fun _ => 0)))], [(r_farBy_85, .inl (T.2 0, 49, .inl (fun _ => 0)))], [(r_used_86, .inl (T.2 0, 7, .inl (fun _ => 0)))], [(r_fitPost_87, .inl (T.2 0, 28, .inl (fun _ => 0)))], [(r_fitEnd_88, .inl (T.2 0, 49, .inl (fun _ => 0)))], [(r_keptPosts_89, .inl (T.2 0, 7, .inl (fun _ => 0)))]] _ _ := G
        subst h_546
        refine lv_aload_n hx hb dL_law_1263 rfl (lv_at hl 1 rfl) ?_
        refine lv_aload_n hx hb dL_law_1264 rfl (lv_at hl 3 rfl) ?_
        refine lv_iload_n hx hb dL_law_1265 rfl (lv_at hl 0 rfl) ?_
        refine lv_iconst (v := 1) hx hb dL_law_1266 (by decide) ?_
        refine lv_iadd hx hb dL_law_1267 ?_
        refine lv_topi (fun y_548 ey_548 => ?_)
        obtain rfl : y_548 = 1 := ey_548.trans (by decide)
        refine va_sld hx hb hX hbl hbA G.2.2.2.1 (vp_in_nI (n := 1) (by decide) (by decide)) dL_law_1268 ?_
        refine lv_topi (fun v_549 ev_549 => ?_)
        have ev_549 : v_549 = xs 1 := ev_549
        subst ev_549
        refine lv_aload_n hx hb dL_law_1269 rfl (lv_at hl 3 rfl) ?_
        refine lv_iload_n hx hb dL_law_1270 rfl (lv_at hl 0 rfl) ?_
        refine lv_iconst (v := 2) hx hb dL_law_1271 (by decide) ?_
        refine lv_iadd hx hb dL_law_1272 ?_
        refine lv_topi (fun y_550 ey_550 => ?_)
        obtain rfl : y_550 = 2 := ey_550.trans (by decide)
        refine va_sld hx hb hX hbl hbA G.2.2.2.1 (vp_in_nI (n := 2) (by decide) (by decide)) dL_law_1273 ?_
        refine lv_topi (fun v_551 ev_551 => ?_)
        have ev_551 : v_551 = xs 2 := ev_551
        subst ev_551
        refine lv_aload_n hx hb dL_law_1274 rfl (lv_at hl 3 rfl) ?_
        refine lv_iload_n hx hb dL_law_1275 rfl (lv_at hl 0 rfl) ?_
        refine lv_iconst (v := 3) hx hb dL_law_1276 (by decide) ?_
        refine lv_iadd hx hb dL_law_1277 ?_
        refine lv_topi (fun y_552 ey_552 => ?_)
        obtain rfl : y_552 = 3 := ey_552.trans (by decide)
        refine va_sld hx hb hX hbl hbA G.2.2.2.1 (vp_in_nI (n := 3) (by decide) (by decide)) dL_law_1278 ?_
        refine lv_topi (fun v_553 ev_553 => ?_)
        have ev_553 : v_553 = xs 3 := ev_553
        subst ev_553
        refine z_Vi (bc := [[(q_74, .inr (11, [.ref r_all_75, .ref r_has_76, .int 0, .int 0, .int 0, .int 0, .int 0, .int 0, .int 0, .int 0, .ref r_read_77, .int 0, .int 0, .int 0, .ref r_posts_78, .ref r_shut_79, .ref r_here_80, .int 0, .int 0, .int 0, .int 0, .ref r_was_81, .ref r_came_82, .ref r_seenAt_83, .ref r_rowWorth_84, .ref r_farBy_85, .ref r_used_86, .int 0, .int 0, .int 0, .int 0, .int 0, .int 0, .int 0, .int 0, .int 0, .int 0, .int 0, .int 0, .ref r_fitPost_87, .ref r_fitEnd_88, .ref r_keptPosts_89, .int 0]))], [(r_all_75, .inl (T.2 0, 3952, .inl (upd (fun _ => 0) 6 (-1))))]]) (br := [[(a1p_13, .inl (T.2 1, 600, .inl f1p_18))], [(a3p_15, .inl (T.2 3, 2, .inr (.inr (.inr (.inr f3p_19)))))], [(a4p_16, .inl (T.2 4, 2, .inr (.inr (.inr (.inr f4p_20)))))], [(a5p_17, .inl (T.2 5, 2, .inr (.inr (.inr (.inr f5p_21)))))], w1p_28, w2p_29, w3p_30, w4p_31, w5p_32, w6p_33, [(ia_3, .inl (T.2 6, 3, .inr (.inr (.inr (.inr fq_34)))))], u0_38, u1_39, u2_40, [(im_4, .inl (T.2 2, 3, .inl (fun _ => 0)))], v_41, z1_42, z2_43, z3_44, w1_45, w2_46, w3_47, [(cd_12, .inl (T.2 0, 1000, .inl (fun _ => 0)))], [(r_has_76, .inl (T.2 2, 3, .inl (fun _ => 0)))], [(r_read_77, .inl (T.2 0, 121, .inl (fun _ => 0)))], [(r_posts_78, .inl (T.2 0, 7, .inl (fun _ => 0)))], [(r_shut_79, .inl (T.2 0, 7, .inl (fun _ => 0)))], [(r_here_80, .inl (T.2 0, 7, .inl (fun _ => 0)))], [(r_was_81, .inl (T.2 0, 7, .inl (fun _ => 0)))], [(r_came_82, .inl (T.2 0, 7, .inl (fun _ => 0)))], [(r_seenAt_83, .inl (T.2 0, 16384, .inl (fun _ => 0)))], [(r_rowWorth_84, .inl (T.2 0, 512, .inl (fun _ => 0)))], [(r_farBy_85, .inl (T.2 0, 49, .inl (fun _ => 0)))], [(r_used_86, .inl (T.2 0, 7, .inl (fun _ => 0)))], [(r_fitPost_87, .inl (T.2 0, 28, .inl (fun _ => 0)))], [(r_fitEnd_88, .inl (T.2 0, 49, .inl (fun _ => 0)))], [(r_keptPosts_89, .inl (T.2 0, 7, .inl (fun _ => 0)))]]) (As := [.int (xs 1), .int (xs 2), .int (xs 3)]) (rest := [.int (-2)]) C G (c_m_cover l T q_74 r_all_75 r_has_76 r_read_77 r_posts_78 r_shut_79 r_here_80 r_was_81 r_came_82 r_seenAt_83 r_rowWorth_84 r_farBy_85 r_used_86 r_fitPost_87 r_fitEnd_88 r_keptPosts_89 (xs 1) (xs 2) (xs 3)) (kV_RL_119 C.2.2.2.2 (Nat.le_of_ble_eq_true rfl) (Nat.le_of_ble_eq_true rfl)) [23, 24] [0, 1, 2, 3, 4, 5, 6, 7, 8, 9, 10, 11, 12, 13, 14, 15, 16, 17, 18, 19, 20, 21, 22, 25, 26, 27, 28, 29, 30, 31, 32, 33, 34, 35, 36, 37, 38] rfl rfl (ci := 11) (qc := (RX12, TX12, 43)) rfl rfl (List.mem_flatten.mpr ⟨_, List.mem_of_getElem? (i := 0) rfl, List.mem_cons_self⟩) rfl rfl hl.1 dL_law_1279 (Nat.le_of_ble_eq_true rfl) (Nat.le_of_ble_eq_true rfl) (fun r_555 b1 H locs hw G => ?_)
        obtain ⟨rfl, h_554⟩ := hw
        have G : zS T A s.heap s [[(a1p_13, .inl (T.2 1, 600, .inl f1p_18))], [(a3p_15, .inl (T.2 3, 2, .inr (.inr (.inr (.inr f3p_19)))))], [(a4p_16, .inl (T.2 4, 2, .inr (.inr (.inr (.inr f4p_20)))))], [(a5p_17, .inl (T.2 5, 2, .inr (.inr (.inr (.inr f5p_21)))))], w1p_28, w2p_29, w3p_30, w4p_31, w5p_32, w6p_33, [(ia_3, .inl (T.2 6, 3, .inr (.inr (.inr (.inr fq_34)))))], u0_38, u1_39, u2_40, [(im_4, .inl (T.2 2, 3, .inl (fun _ => 0)))], v_41, z1_42, z2_43, z3_44, w1_45, w2_46, w3_47, [(cd_12, .inl (T.2 0, 1000, .inl (fun _ => 0)))], [(r_has_76, .inl (T.2 2, 3, .inl (fun _ => 0)))], [(r_read_77, .inl (T.2 0, 121, .inl (fun _ => 0)))], [(r_posts_78, .inl (T.2 0, 7, .inl (fun _ => 0)))], [(r_shut_79, .inl (T.2 0, 7, .inl (fun _ => 0)))], [(r_here_80, .inl (T.2 0, 7, .inl (fun _ => 0)))], [(r_was_81, .inl (T.2 0, 7, .inl (fun _ => 0)))], [(r_came_82, .inl (T.2 0, 7, .inl (fun _ => 0)))], [(r_seenAt_83, .inl (T.2 0, 16384, .inl (fun _ => 0)))], [(r_rowWorth_84, .inl (T.2 0, 512, .inl (fun _ => 0)))], [(r_farBy_85, .inl (T.2 0, 49, .inl (fun _ => 0)))], [(r_used_86, .inl (T.2 0, 7, .inl (fun _ => 0)))], [(r_fitPost_87, .inl (T.2 0, 28, .inl (fun _ => 0)))], [(r_fitEnd_88, .inl (T.2 0, 49, .inl (fun _ => 0)))], [(r_keptPosts_89, .inl (T.2 0, 7, .inl (fun _ => 0)))]] _ _ := G
        subst h_554
        refine lv_icmp_eq (tgt := 1767) hx hb dL_law_1282 (by decide) (fun _ => ?_) (fun q => absurd (by decide) q)
        refine lv_iinc (v := 6) (lv' := [(3, .int 6), (2, .ref q_74), (1, .ref q_1), (0, .ref b)]) hx hb dL_law_1767 hl (k := 0) rfl (by decide) (by decide) rfl (fun ls hl => ?_)
        refine lv_goto (tgt := 18) hx hb dL_law_1770 (by decide) ?_
        refine lv_iload_n hx hb dL_law_18 rfl (lv_at hl 0 rfl) ?_
        refine lv_aload_n hx hb dL_law_19 rfl (lv_at hl 3 rfl) ?_
        refine va_slen hx hb hX hbl hbA G.2.2.2.1 dL_law_20 ?_
        refine lv_bipush (v := 6) hx hb dL_law_21 (by decide) ?_
        refine lv_isub hx hb dL_law_23 ?_
        refine lv_topi (fun y_556 ey_556 => ?_)
        obtain rfl : y_556 = 0 := ey_556.trans (by decide)
        refine lv_icmp_gt (tgt := 1773) hx hb dL_law_24 (by decide) (fun _ => ?_) (fun q => absurd (by decide) q)
        refine lv_iconst (v := 1) hx hb dL_law_1773 (by decide) ?_
        refine va_forget (fun q hq => by have h9 := G.2.2.2.1.2.2 q hq; rw [hAe] at h9; exact h9) ?_
        refine W.widen (k := 600000) (n := 7302250) (Nat.le_of_ble_eq_true rfl) (Nat.le_of_ble_eq_true rfl) ?_
        exact lw_ret hx hb hr hlocks dL_law_1774
      · refine lv_tableIn (tgt := 1287) hx hb dL_law_33 (by omega) (by omega) (by rw [c_94]; rfl) (by decide) ?_
        refine lv_aload_n hx hb dL_law_1287 rfl (lv_at hl 2 rfl) ?_
        refine lv_aload_n hx hb dL_law_1288 rfl (lv_at hl 3 rfl) ?_
        refine lv_iload_n hx hb dL_law_1289 rfl (lv_at hl 0 rfl) ?_
        refine lv_iconst (v := 1) hx hb dL_law_1290 (by decide) ?_
        refine lv_iadd hx hb dL_law_1291 ?_
        refine lv_topi (fun y_557 ey_557 => ?_)
        obtain rfl : y_557 = 1 := ey_557.trans (by decide)
        refine va_sld hx hb hX hbl hbA G.2.2.2.1 (vp_in_nI (n := 1) (by decide) (by decide)) dL_law_1292 ?_
        refine lv_topi (fun v_558 ev_558 => ?_)
        have ev_558 : v_558 = xs 1 := ev_558
        subst ev_558
        refine lv_aload_n hx hb dL_law_1293 rfl (lv_at hl 3 rfl) ?_
        refine lv_iload_n hx hb dL_law_1294 rfl (lv_at hl 0 rfl) ?_
        refine lv_iconst (v := 2) hx hb dL_law_1295 (by decide) ?_
        refine lv_iadd hx hb dL_law_1296 ?_
        refine lv_topi (fun y_559 ey_559 => ?_)
        obtain rfl : y_559 = 2 := ey_559.trans (by decide)
        refine va_sld hx hb hX hbl hbA G.2.2.2.1 (vp_in_nI (n := 2) (by decide) (by decide)) dL_law_1297 ?_
        refine lv_topi (fun v_560 ev_560 => ?_)
        have ev_560 : v_560 = xs 2 := ev_560
        subst ev_560
        refine lv_aload_n hx hb dL_law_1298 rfl (lv_at hl 3 rfl) ?_
        refine lv_iload_n hx hb dL_law_1299 rfl (lv_at hl 0 rfl) ?_
        refine lv_iconst (v := 3) hx hb dL_law_1300 (by decide) ?_
        refine lv_iadd hx hb dL_law_1301 ?_
        refine lv_topi (fun y_561 ey_561 => ?_)
        obtain rfl : y_561 = 3 := ey_561.trans (by decide)
        refine va_sld hx hb hX hbl hbA G.2.2.2.1 (vp_in_nI (n := 3) (by decide) (by decide)) dL_law_1302 ?_
        refine lv_topi (fun v_562 ev_562 => ?_)
        have ev_562 : v_562 = xs 3 := ev_562
        subst ev_562
        refine lv_aload_n hx hb dL_law_1303 rfl (lv_at hl 3 rfl) ?_
        refine lv_iload_n hx hb dL_law_1304 rfl (lv_at hl 0 rfl) ?_
        refine lv_iconst (v := 4) hx hb dL_law_1305 (by decide) ?_
        refine lv_iadd hx hb dL_law_1306 ?_
        refine lv_topi (fun y_563 ey_563 => ?_)
        obtain rfl : y_563 = 4 := ey_563.trans (by decide)
        refine va_sld hx hb hX hbl hbA G.2.2.2.1 (vp_in_nI (n := 4) (by decide) (by decide)) dL_law_1307 ?_
        refine lv_topi (fun v_564 ev_564 => ?_)
        have ev_564 : v_564 = xs 4 := ev_564
        subst ev_564
        refine z_Vi (bc := [[(q_1, .inr (10, [.ref t0_2, .ref ia_3, .ref im_4, .ref rd_5, .ref po_6, .ref co_7, .ref tr_8, .ref wa_9, .ref wb_10, .ref fi_11, .ref cd_12]))], [(t0_2, .inr (8, [.ref a1p_13, .int 0, .int 0, .int (-1), .ref a2p_14, .ref a3p_15, .ref a4p_16, .ref a5p_17]))], [(a2p_14, .inl (T.2 0, 3, .inl (fun _ => 0)))]]) (br := [[(a1p_13, .inl (T.2 1, 600, .inl f1p_18))], [(a3p_15, .inl (T.2 3, 2, .inr (.inr (.inr (.inr f3p_19)))))], [(a4p_16, .inl (T.2 4, 2, .inr (.inr (.inr (.inr f4p_20)))))], [(a5p_17, .inl (T.2 5, 2, .inr (.inr (.inr (.inr f5p_21)))))], w1p_28, w2p_29, w3p_30, w4p_31, w5p_32, w6p_33, [(ia_3, .inl (T.2 6, 3, .inr (.inr (.inr (.inr fq_34)))))], u0_38, u1_39, u2_40, [(im_4, .inl (T.2 2, 3, .inl (fun _ => 0)))], v_41, z1_42, z2_43, z3_44, w1_45, w2_46, w3_47, [(cd_12, .inl (T.2 0, 1000, .inl (fun _ => 0)))], [(q_74, .inr (11, [.ref r_all_75, .ref r_has_76, .int 0, .int 0, .int 0, .int 0, .int 0, .int 0, .int 0, .int 0, .ref r_read_77, .int 0, .int 0, .int 0, .ref r_posts_78, .ref r_shut_79, .ref r_here_80, .int 0, .int 0, .int 0, .int 0, .ref r_was_81, .ref r_came_82, .ref r_seenAt_83, .ref r_rowWorth_84, .ref r_farBy_85, .ref r_used_86, .int 0, .int 0, .int 0, .int 0, .int 0, .int 0, .int 0, .int 0, .int 0, .int 0, .int 0, .int 0, .ref r_fitPost_87, .ref r_fitEnd_88, .ref r_keptPosts_89, .int 0]))], [(r_all_75, .inl (T.2 0, 3952, .inl (upd (fun _ => 0) 6 (-1))))], [(r_has_76, .inl (T.2 2, 3, .inl (fun _ => 0)))], [(r_read_77, .inl (T.2 0, 121, .inl (fun _ => 0)))], [(r_posts_78, .inl (T.2 0, 7, .inl (fun _ => 0)))], [(r_shut_79, .inl (T.2 0, 7, .inl (fun _ => 0)))], [(r_here_80, .inl (T.2 0, 7, .inl (fun _ => 0)))], [(r_was_81, .inl (T.2 0, 7, .inl (fun _ => 0)))], [(r_came_82, .inl (T.2 0, 7, .inl (fun _ => 0)))], [(r_seenAt_83, .inl (T.2 0, 16384, .inl (fun _ => 0)))], [(r_rowWorth_84, .inl (T.2 0, 512, .inl (fun _ => 0)))], [(r_farBy_85, .inl (T.2 0, 49, .inl (fun _ => 0)))], [(r_used_86, .inl (T.2 0, 7, .inl (fun _ => 0)))], [(r_fitPost_87, .inl (T.2 0, 28, .inl (fun _ => 0)))], [(r_fitEnd_88, .inl (T.2 0, 49, .inl (fun _ => 0)))], [(r_keptPosts_89, .inl (T.2 0, 7, .inl (fun _ => 0)))]]) (As := [.int (xs 1), .int (xs 2), .int (xs 3), .int (xs 4)]) (rest := []) C G (c_x_share l T q_1 t0_2 ia_3 im_4 rd_5 po_6 co_7 tr_8 wa_9 wb_10 fi_11 cd_12 a1p_13 a2p_14 a3p_15 a4p_16 a5p_17 (xs 1) (xs 2) (xs 3) (xs 4)) (kV_RL_120 C.2.2.2.2 (Nat.le_of_ble_eq_true rfl) (Nat.le_of_ble_eq_true rfl)) [0, 1, 3] [2, 4, 5, 6, 7, 8, 9, 10, 11, 12, 13, 14, 15, 16, 17, 18, 19, 20, 21, 22, 23, 24, 25, 26, 27, 28, 29, 30, 31, 32, 33, 34, 35, 36, 37, 38, 39, 40, 41] rfl rfl (ci := 10) (qc := (RX11, TX11, 11)) rfl rfl (List.mem_flatten.mpr ⟨_, List.mem_of_getElem? (i := 0) rfl, List.mem_cons_self⟩) rfl rfl hl.1 dL_law_1308 (Nat.le_of_ble_eq_true rfl) (Nat.le_of_ble_eq_true rfl) (fun r_566 b1 H locs hw G => ?_)
        obtain ⟨rfl, h_565⟩ := hw
        have G : zS T A s.heap s [[(a1p_13, .inl (T.2 1, 600, .inl f1p_18))], [(a3p_15, .inl (T.2 3, 2, .inr (.inr (.inr (.inr f3p_19)))))], [(a4p_16, .inl (T.2 4, 2, .inr (.inr (.inr (.inr f4p_20)))))], [(a5p_17, .inl (T.2 5, 2, .inr (.inr (.inr (.inr f5p_21)))))], w1p_28, w2p_29, w3p_30, w4p_31, w5p_32, w6p_33, [(ia_3, .inl (T.2 6, 3, .inr (.inr (.inr (.inr fq_34)))))], u0_38, u1_39, u2_40, [(im_4, .inl (T.2 2, 3, .inl (fun _ => 0)))], v_41, z1_42, z2_43, z3_44, w1_45, w2_46, w3_47, [(cd_12, .inl (T.2 0, 1000, .inl (fun _ => 0)))], [(q_74, .inr (11, [.ref r_all_75, .ref r_has_76, .int 0, .int 0, .int 0, .int 0, .int 0, .int 0, .int 0, .int 0, .ref r_read_77, .int 0, .int 0, .int 0, .ref r_posts_78, .ref r_shut_79, .ref r_here_80, .int 0, .int 0, .int 0, .int 0, .ref r_was_81, .ref r_came_82, .ref r_seenAt_83, .ref r_rowWorth_84, .ref r_farBy_85, .ref r_used_86, .int 0, .int 0, .int 0, .int 0, .int 0, .int 0, .int 0, .int 0, .int 0, .int 0, .int 0, .int 0, .ref r_fitPost_87, .ref r_fitEnd_88, .ref r_keptPosts_89, .int 0]))], [(r_all_75, .inl (T.2 0, 3952, .inl (upd (fun _ => 0) 6 (-1))))], [(r_has_76, .inl (T.2 2, 3, .inl (fun _ => 0)))], [(r_read_77, .inl (T.2 0, 121, .inl (fun _ => 0)))], [(r_posts_78, .inl (T.2 0, 7, .inl (fun _ => 0)))], [(r_shut_79, .inl (T.2 0, 7, .inl (fun _ => 0)))], [(r_here_80, .inl (T.2 0, 7, .inl (fun _ => 0)))], [(r_was_81, .inl (T.2 0, 7, .inl (fun _ => 0)))], [(r_came_82, .inl (T.2 0, 7, .inl (fun _ => 0)))], [(r_seenAt_83, .inl (T.2 0, 16384, .inl (fun _ => 0)))], [(r_rowWorth_84, .inl (T.2 0, 512, .inl (fun _ => 0)))], [(r_farBy_85, .inl (T.2 0, 49, .inl (fun _ => 0)))], [(r_used_86, .inl (T.2 0, 7, .inl (fun _ => 0)))], [(r_fitPost_87, .inl (T.2 0, 28, .inl (fun _ => 0)))], [(r_fitEnd_88, .inl (T.2 0, 49, .inl (fun _ => 0)))], [(r_keptPosts_89, .inl (T.2 0, 7, .inl (fun _ => 0)))]] _ _ := G
        subst h_565
        refine lv_aload_n hx hb dL_law_1311 rfl (lv_at hl 1 rfl) ?_
        refine lv_aload_n hx hb dL_law_1312 rfl (lv_at hl 3 rfl) ?_
        refine lv_iload_n hx hb dL_law_1313 rfl (lv_at hl 0 rfl) ?_
        refine lv_iconst (v := 1) hx hb dL_law_1314 (by decide) ?_
        refine lv_iadd hx hb dL_law_1315 ?_
        refine lv_topi (fun y_567 ey_567 => ?_)
        obtain rfl : y_567 = 1 := ey_567.trans (by decide)
        refine va_sld hx hb hX hbl hbA G.2.2.2.1 (vp_in_nI (n := 1) (by decide) (by decide)) dL_law_1316 ?_
        refine lv_topi (fun v_568 ev_568 => ?_)
        have ev_568 : v_568 = xs 1 := ev_568
        subst ev_568
        refine lv_aload_n hx hb dL_law_1317 rfl (lv_at hl 3 rfl) ?_
        refine lv_iload_n hx hb dL_law_1318 rfl (lv_at hl 0 rfl) ?_
        refine lv_iconst (v := 2) hx hb dL_law_1319 (by decide) ?_
        refine lv_iadd hx hb dL_law_1320 ?_
        refine lv_topi (fun y_569 ey_569 => ?_)
        obtain rfl : y_569 = 2 := ey_569.trans (by decide)
        refine va_sld hx hb hX hbl hbA G.2.2.2.1 (vp_in_nI (n := 2) (by decide) (by decide)) dL_law_1321 ?_
        refine lv_topi (fun v_570 ev_570 => ?_)
        have ev_570 : v_570 = xs 2 := ev_570
        subst ev_570
        refine lv_aload_n hx hb dL_law_1322 rfl (lv_at hl 3 rfl) ?_
        refine lv_iload_n hx hb dL_law_1323 rfl (lv_at hl 0 rfl) ?_
        refine lv_iconst (v := 3) hx hb dL_law_1324 (by decide) ?_
        refine lv_iadd hx hb dL_law_1325 ?_
        refine lv_topi (fun y_571 ey_571 => ?_)
        obtain rfl : y_571 = 3 := ey_571.trans (by decide)
        refine va_sld hx hb hX hbl hbA G.2.2.2.1 (vp_in_nI (n := 3) (by decide) (by decide)) dL_law_1326 ?_
        refine lv_topi (fun v_572 ev_572 => ?_)
        have ev_572 : v_572 = xs 3 := ev_572
        subst ev_572
        refine lv_aload_n hx hb dL_law_1327 rfl (lv_at hl 3 rfl) ?_
        refine lv_iload_n hx hb dL_law_1328 rfl (lv_at hl 0 rfl) ?_
        refine lv_iconst (v := 4) hx hb dL_law_1329 (by decide) ?_
        refine lv_iadd hx hb dL_law_1330 ?_
        refine lv_topi (fun y_573 ey_573 => ?_)
        obtain rfl : y_573 = 4 := ey_573.trans (by decide)
        refine va_sld hx hb hX hbl hbA G.2.2.2.1 (vp_in_nI (n := 4) (by decide) (by decide)) dL_law_1331 ?_
        refine lv_topi (fun v_574 ev_574 => ?_)
        have ev_574 : v_574 = xs 4 := ev_574
        subst ev_574
        refine z_Vi (bc := [[(q_74, .inr (11, [.ref r_all_75, .ref r_has_76, .int 0, .int 0, .int 0, .int 0, .int 0, .int 0, .int 0, .int 0, .ref r_read_77, .int 0, .int 0, .int 0, .ref r_posts_78, .ref r_shut_79, .ref r_here_80, .int 0, .int 0, .int 0, .int 0, .ref r_was_81, .ref r_came_82, .ref r_seenAt_83, .ref r_rowWorth_84, .ref r_farBy_85, .ref r_used_86, .int 0, .int 0, .int 0, .int 0, .int 0, .int 0, .int 0, .int 0, .int 0, .int 0, .int 0, .int 0, .ref r_fitPost_87, .ref r_fitEnd_88, .ref r_keptPosts_89, .int 0]))], [(r_all_75, .inl (T.2 0, 3952, .inl (upd (fun _ => 0) 6 (-1))))]]) (br := [[(a1p_13, .inl (T.2 1, 600, .inl f1p_18))], [(a3p_15, .inl (T.2 3, 2, .inr (.inr (.inr (.inr f3p_19)))))], [(a4p_16, .inl (T.2 4, 2, .inr (.inr (.inr (.inr f4p_20)))))], [(a5p_17, .inl (T.2 5, 2, .inr (.inr (.inr (.inr f5p_21)))))], w1p_28, w2p_29, w3p_30, w4p_31, w5p_32, w6p_33, [(ia_3, .inl (T.2 6, 3, .inr (.inr (.inr (.inr fq_34)))))], u0_38, u1_39, u2_40, [(im_4, .inl (T.2 2, 3, .inl (fun _ => 0)))], v_41, z1_42, z2_43, z3_44, w1_45, w2_46, w3_47, [(cd_12, .inl (T.2 0, 1000, .inl (fun _ => 0)))], [(r_has_76, .inl (T.2 2, 3, .inl (fun _ => 0)))], [(r_read_77, .inl (T.2 0, 121, .inl (fun _ => 0)))], [(r_posts_78, .inl (T.2 0, 7, .inl (fun _ => 0)))], [(r_shut_79, .inl (T.2 0, 7, .inl (fun _ => 0)))], [(r_here_80, .inl (T.2 0, 7, .inl (fun _ => 0)))], [(r_was_81, .inl (T.2 0, 7, .inl (fun _ => 0)))], [(r_came_82, .inl (T.2 0, 7, .inl (fun _ => 0)))], [(r_seenAt_83, .inl (T.2 0, 16384, .inl (fun _ => 0)))], [(r_rowWorth_84, .inl (T.2 0, 512, .inl (fun _ => 0)))], [(r_farBy_85, .inl (T.2 0, 49, .inl (fun _ => 0)))], [(r_used_86, .inl (T.2 0, 7, .inl (fun _ => 0)))], [(r_fitPost_87, .inl (T.2 0, 28, .inl (fun _ => 0)))], [(r_fitEnd_88, .inl (T.2 0, 49, .inl (fun _ => 0)))], [(r_keptPosts_89, .inl (T.2 0, 7, .inl (fun _ => 0)))]]) (As := [.int (xs 1), .int (xs 2), .int (xs 3), .int (xs 4)]) (rest := [.int (-1)]) C G (c_m_share l T q_74 r_all_75 r_has_76 r_read_77 r_posts_78 r_shut_79 r_here_80 r_was_81 r_came_82 r_seenAt_83 r_rowWorth_84 r_farBy_85 r_used_86 r_fitPost_87 r_fitEnd_88 r_keptPosts_89 (xs 1) (xs 2) (xs 3) (xs 4)) (kV_RL_123 C.2.2.2.2 (Nat.le_of_ble_eq_true rfl) (Nat.le_of_ble_eq_true rfl)) [23, 24] [0, 1, 2, 3, 4, 5, 6, 7, 8, 9, 10, 11, 12, 13, 14, 15, 16, 17, 18, 19, 20, 21, 22, 25, 26, 27, 28, 29, 30, 31, 32, 33, 34, 35, 36, 37, 38] rfl rfl (ci := 11) (qc := (RX12, TX12, 43)) rfl rfl (List.mem_flatten.mpr ⟨_, List.mem_of_getElem? (i := 0) rfl, List.mem_cons_self⟩) rfl rfl hl.1 dL_law_1332 (Nat.le_of_ble_eq_true rfl) (Nat.le_of_ble_eq_true rfl) (fun r_576 b1 H locs hw G => ?_)
        obtain ⟨rfl, h_575⟩ := hw
        have G : zS T A s.heap s [[(a1p_13, .inl (T.2 1, 600, .inl f1p_18))], [(a3p_15, .inl (T.2 3, 2, .inr (.inr (.inr (.inr f3p_19)))))], [(a4p_16, .inl (T.2 4, 2, .inr (.inr (.inr (.inr f4p_20)))))], [(a5p_17, .inl (T.2 5, 2, .inr (.inr (.inr (.inr f5p_21)))))], w1p_28, w2p_29, w3p_30, w4p_31, w5p_32, w6p_33, [(ia_3, .inl (T.2 6, 3, .inr (.inr (.inr (.inr fq_34)))))], u0_38, u1_39, u2_40, [(im_4, .inl (T.2 2, 3, .inl (fun _ => 0)))], v_41, z1_42, z2_43, z3_44, w1_45, w2_46, w3_47, [(cd_12, .inl (T.2 0, 1000, .inl (fun _ => 0)))], [(r_has_76, .inl (T.2 2, 3, .inl (fun _ => 0)))], [(r_read_77, .inl (T.2 0, 121, .inl (fun _ => 0)))], [(r_posts_78, .inl (T.2 0, 7, .inl (fun _ => 0)))], [(r_shut_79, .inl (T.2 0, 7, .inl (fun _ => 0)))], [(r_here_80, .inl (T.2 0, 7, .inl (fun _ => 0)))], [(r_was_81, .inl (T.2 0, 7, .inl (fun _ => 0)))], [(r_came_82, .inl (T.2 0, 7, .inl (fun _ => 0)))], [(r_seenAt_83, .inl (T.2 0, 16384, .inl (fun _ => 0)))], [(r_rowWorth_84, .inl (T.2 0, 512, .inl (fun _ => 0)))], [(r_farBy_85, .inl (T.2 0, 49, .inl (fun _ => 0)))], [(r_used_86, .inl (T.2 0, 7, .inl (fun _ => 0)))], [(r_fitPost_87, .inl (T.2 0, 28, .inl (fun _ => 0)))], [(r_fitEnd_88, .inl (T.2 0, 49, .inl (fun _ => 0)))], [(r_keptPosts_89, .inl (T.2 0, 7, .inl (fun _ => 0)))]] _ _ := G
        subst h_575
        refine lv_icmp_eq (tgt := 1767) hx hb dL_law_1335 (by decide) (fun _ => ?_) (fun q => absurd (by decide) q)
        refine lv_iinc (v := 6) (lv' := [(3, .int 6), (2, .ref q_74), (1, .ref q_1), (0, .ref b)]) hx hb dL_law_1767 hl (k := 0) rfl (by decide) (by decide) rfl (fun ls hl => ?_)
        refine lv_goto (tgt := 18) hx hb dL_law_1770 (by decide) ?_
        refine lv_iload_n hx hb dL_law_18 rfl (lv_at hl 0 rfl) ?_
        refine lv_aload_n hx hb dL_law_19 rfl (lv_at hl 3 rfl) ?_
        refine va_slen hx hb hX hbl hbA G.2.2.2.1 dL_law_20 ?_
        refine lv_bipush (v := 6) hx hb dL_law_21 (by decide) ?_
        refine lv_isub hx hb dL_law_23 ?_
        refine lv_topi (fun y_577 ey_577 => ?_)
        obtain rfl : y_577 = 0 := ey_577.trans (by decide)
        refine lv_icmp_gt (tgt := 1773) hx hb dL_law_24 (by decide) (fun _ => ?_) (fun q => absurd (by decide) q)
        refine lv_iconst (v := 1) hx hb dL_law_1773 (by decide) ?_
        refine va_forget (fun q hq => by have h9 := G.2.2.2.1.2.2 q hq; rw [hAe] at h9; exact h9) ?_
        refine W.widen (k := 600000) (n := 7302250) (Nat.le_of_ble_eq_true rfl) (Nat.le_of_ble_eq_true rfl) ?_
        exact lw_ret hx hb hr hlocks dL_law_1774
      · refine lv_tableIn (tgt := 1340) hx hb dL_law_33 (by omega) (by omega) (by rw [c_94]; rfl) (by decide) ?_
        refine lv_aload_n hx hb dL_law_1340 rfl (lv_at hl 2 rfl) ?_
        refine lv_aload_n hx hb dL_law_1341 rfl (lv_at hl 3 rfl) ?_
        refine lv_iload_n hx hb dL_law_1342 rfl (lv_at hl 0 rfl) ?_
        refine lv_iconst (v := 1) hx hb dL_law_1343 (by decide) ?_
        refine lv_iadd hx hb dL_law_1344 ?_
        refine lv_topi (fun y_578 ey_578 => ?_)
        obtain rfl : y_578 = 1 := ey_578.trans (by decide)
        refine va_sld hx hb hX hbl hbA G.2.2.2.1 (vp_in_nI (n := 1) (by decide) (by decide)) dL_law_1345 ?_
        refine lv_topi (fun v_579 ev_579 => ?_)
        have ev_579 : v_579 = xs 1 := ev_579
        subst ev_579
        refine lv_aload_n hx hb dL_law_1346 rfl (lv_at hl 3 rfl) ?_
        refine lv_iload_n hx hb dL_law_1347 rfl (lv_at hl 0 rfl) ?_
        refine lv_iconst (v := 2) hx hb dL_law_1348 (by decide) ?_
        refine lv_iadd hx hb dL_law_1349 ?_
        refine lv_topi (fun y_580 ey_580 => ?_)
        obtain rfl : y_580 = 2 := ey_580.trans (by decide)
        refine va_sld hx hb hX hbl hbA G.2.2.2.1 (vp_in_nI (n := 2) (by decide) (by decide)) dL_law_1350 ?_
        refine lv_topi (fun v_581 ev_581 => ?_)
        have ev_581 : v_581 = xs 2 := ev_581
        subst ev_581
        refine lv_aload_n hx hb dL_law_1351 rfl (lv_at hl 3 rfl) ?_
        refine lv_iload_n hx hb dL_law_1352 rfl (lv_at hl 0 rfl) ?_
        refine lv_iconst (v := 3) hx hb dL_law_1353 (by decide) ?_
        refine lv_iadd hx hb dL_law_1354 ?_
        refine lv_topi (fun y_582 ey_582 => ?_)
        obtain rfl : y_582 = 3 := ey_582.trans (by decide)
        refine va_sld hx hb hX hbl hbA G.2.2.2.1 (vp_in_nI (n := 3) (by decide) (by decide)) dL_law_1355 ?_
        refine lv_topi (fun v_583 ev_583 => ?_)
        have ev_583 : v_583 = xs 3 := ev_583
        subst ev_583
        refine lv_if_eq (tgt := 1363) hx hb dL_law_1356 (by decide) (fun c_584 => ?_) (fun c_584 => ?_)
        · have c_584n : (xs 3).toInt = (0 : Int) := (fa_eq _ _).mp c_584
          refine lv_iconst (v := 0) hx hb dL_law_1363 (by decide) ?_
          refine lv_aload_n hx hb dL_law_1364 rfl (lv_at hl 3 rfl) ?_
          refine lv_iload_n hx hb dL_law_1365 rfl (lv_at hl 0 rfl) ?_
          refine lv_iconst (v := 4) hx hb dL_law_1366 (by decide) ?_
          refine lv_iadd hx hb dL_law_1367 ?_
          refine lv_topi (fun y_585 ey_585 => ?_)
          obtain rfl : y_585 = 4 := ey_585.trans (by decide)
          refine va_sld hx hb hX hbl hbA G.2.2.2.1 (vp_in_nI (n := 4) (by decide) (by decide)) dL_law_1368 ?_
          refine lv_topi (fun v_586 ev_586 => ?_)
          have ev_586 : v_586 = xs 4 := ev_586
          subst ev_586
          refine lv_if_eq (tgt := 1376) hx hb dL_law_1369 (by decide) (fun c_587 => ?_) (fun c_587 => ?_)
          · have c_587n : (xs 4).toInt = (0 : Int) := (fa_eq _ _).mp c_587
            refine lv_iconst (v := 0) hx hb dL_law_1376 (by decide) ?_
            refine z_Vi (bc := [[(q_1, .inr (10, [.ref t0_2, .ref ia_3, .ref im_4, .ref rd_5, .ref po_6, .ref co_7, .ref tr_8, .ref wa_9, .ref wb_10, .ref fi_11, .ref cd_12]))], [(t0_2, .inr (8, [.ref a1p_13, .int 0, .int 0, .int (-1), .ref a2p_14, .ref a3p_15, .ref a4p_16, .ref a5p_17]))], [(a2p_14, .inl (T.2 0, 3, .inl (fun _ => 0)))]]) (br := [[(a1p_13, .inl (T.2 1, 600, .inl f1p_18))], [(a3p_15, .inl (T.2 3, 2, .inr (.inr (.inr (.inr f3p_19)))))], [(a4p_16, .inl (T.2 4, 2, .inr (.inr (.inr (.inr f4p_20)))))], [(a5p_17, .inl (T.2 5, 2, .inr (.inr (.inr (.inr f5p_21)))))], w1p_28, w2p_29, w3p_30, w4p_31, w5p_32, w6p_33, [(ia_3, .inl (T.2 6, 3, .inr (.inr (.inr (.inr fq_34)))))], u0_38, u1_39, u2_40, [(im_4, .inl (T.2 2, 3, .inl (fun _ => 0)))], v_41, z1_42, z2_43, z3_44, w1_45, w2_46, w3_47, [(cd_12, .inl (T.2 0, 1000, .inl (fun _ => 0)))], [(q_74, .inr (11, [.ref r_all_75, .ref r_has_76, .int 0, .int 0, .int 0, .int 0, .int 0, .int 0, .int 0, .int 0, .ref r_read_77, .int 0, .int 0, .int 0, .ref r_posts_78, .ref r_shut_79, .ref r_here_80, .int 0, .int 0, .int 0, .int 0, .ref r_was_81, .ref r_came_82, .ref r_seenAt_83, .ref r_rowWorth_84, .ref r_farBy_85, .ref r_used_86, .int 0, .int 0, .int 0, .int 0, .int 0, .int 0, .int 0, .int 0, .int 0, .int 0, .int 0, .int 0, .ref r_fitPost_87, .ref r_fitEnd_88, .ref r_keptPosts_89, .int 0]))], [(r_all_75, .inl (T.2 0, 3952, .inl (upd (fun _ => 0) 6 (-1))))], [(r_has_76, .inl (T.2 2, 3, .inl (fun _ => 0)))], [(r_read_77, .inl (T.2 0, 121, .inl (fun _ => 0)))], [(r_posts_78, .inl (T.2 0, 7, .inl (fun _ => 0)))], [(r_shut_79, .inl (T.2 0, 7, .inl (fun _ => 0)))], [(r_here_80, .inl (T.2 0, 7, .inl (fun _ => 0)))], [(r_was_81, .inl (T.2 0, 7, .inl (fun _ => 0)))], [(r_came_82, .inl (T.2 0, 7, .inl (fun _ => 0)))], [(r_seenAt_83, .inl (T.2 0, 16384, .inl (fun _ => 0)))], [(r_rowWorth_84, .inl (T.2 0, 512, .inl (fun _ => 0)))], [(r_farBy_85, .inl (T.2 0, 49, .inl (fun _ => 0)))], [(r_used_86, .inl (T.2 0, 7, .inl (fun _ => 0)))], [(r_fitPost_87, .inl (T.2 0, 28, .inl (fun _ => 0)))], [(r_fitEnd_88, .inl (T.2 0, 49, .inl (fun _ => 0)))], [(r_keptPosts_89, .inl (T.2 0, 7, .inl (fun _ => 0)))]]) (As := [.int (xs 1), .int (xs 2), .int 0, .int 0]) (rest := []) C G (c_x_longest l T q_1 t0_2 ia_3 im_4 rd_5 po_6 co_7 tr_8 wa_9 wb_10 fi_11 cd_12 a1p_13 a2p_14 a3p_15 a4p_16 a5p_17 (xs 1) (xs 2) 0 0) (kV_RL_124 C.2.2.2.2 (Nat.le_of_ble_eq_true rfl) (Nat.le_of_ble_eq_true rfl)) [0, 1, 3] [2, 4, 5, 6, 7, 8, 9, 10, 11, 12, 13, 14, 15, 16, 17, 18, 19, 20, 21, 22, 23, 24, 25, 26, 27, 28, 29, 30, 31, 32, 33, 34, 35, 36, 37, 38, 39, 40, 41] rfl rfl (ci := 10) (qc := (RX11, TX11, 11)) rfl rfl (List.mem_flatten.mpr ⟨_, List.mem_of_getElem? (i := 0) rfl, List.mem_cons_self⟩) rfl rfl hl.1 dL_law_1377 (Nat.le_of_ble_eq_true rfl) (Nat.le_of_ble_eq_true rfl) (fun r_589 b1 H locs hw G => ?_)
            obtain ⟨rfl, h_588⟩ := hw
            have G : zS T A s.heap s [[(a1p_13, .inl (T.2 1, 600, .inl f1p_18))], [(a3p_15, .inl (T.2 3, 2, .inr (.inr (.inr (.inr f3p_19)))))], [(a4p_16, .inl (T.2 4, 2, .inr (.inr (.inr (.inr f4p_20)))))], [(a5p_17, .inl (T.2 5, 2, .inr (.inr (.inr (.inr f5p_21)))))], w1p_28, w2p_29, w3p_30, w4p_31, w5p_32, w6p_33, [(ia_3, .inl (T.2 6, 3, .inr (.inr (.inr (.inr fq_34)))))], u0_38, u1_39, u2_40, [(im_4, .inl (T.2 2, 3, .inl (fun _ => 0)))], v_41, z1_42, z2_43, z3_44, w1_45, w2_46, w3_47, [(cd_12, .inl (T.2 0, 1000, .inl (fun _ => 0)))], [(q_74, .inr (11, [.ref r_all_75, .ref r_has_76, .int 0, .int 0, .int 0, .int 0, .int 0, .int 0, .int 0, .int 0, .ref r_read_77, .int 0, .int 0, .int 0, .ref r_posts_78, .ref r_shut_79, .ref r_here_80, .int 0, .int 0, .int 0, .int 0, .ref r_was_81, .ref r_came_82, .ref r_seenAt_83, .ref r_rowWorth_84, .ref r_farBy_85, .ref r_used_86, .int 0, .int 0, .int 0, .int 0, .int 0, .int 0, .int 0, .int 0, .int 0, .int 0, .int 0, .int 0, .ref r_fitPost_87, .ref r_fitEnd_88, .ref r_keptPosts_89, .int 0]))], [(r_all_75, .inl (T.2 0, 3952, .inl (upd (fun _ => 0) 6 (-1))))], [(r_has_76, .inl (T.2 2, 3, .inl (fun _ => 0)))], [(r_read_77, .inl (T.2 0, 121, .inl (fun _ => 0)))], [(r_posts_78, .inl (T.2 0, 7, .inl (fun _ => 0)))], [(r_shut_79, .inl (T.2 0, 7, .inl (fun _ => 0)))], [(r_here_80, .inl (T.2 0, 7, .inl (fun _ => 0)))], [(r_was_81, .inl (T.2 0, 7, .inl (fun _ => 0)))], [(r_came_82, .inl (T.2 0, 7, .inl (fun _ => 0)))], [(r_seenAt_83, .inl (T.2 0, 16384, .inl (fun _ => 0)))], [(r_rowWorth_84, .inl (T.2 0, 512, .inl (fun _ => 0)))], [(r_farBy_85, .inl (T.2 0, 49, .inl (fun _ => 0)))], [(r_used_86, .inl (T.2 0, 7, .inl (fun _ => 0)))], [(r_fitPost_87, .inl (T.2 0, 28, .inl (fun _ => 0)))], [(r_fitEnd_88, .inl (T.2 0, 49, .inl (fun _ => 0)))], [(r_keptPosts_89, .inl (T.2 0, 7, .inl (fun _ => 0)))]] _ _ := G
            subst h_588
            refine lv_aload_n hx hb dL_law_1380 rfl (lv_at hl 1 rfl) ?_
            refine lv_aload_n hx hb dL_law_1381 rfl (lv_at hl 3 rfl) ?_
            refine lv_iload_n hx hb dL_law_1382 rfl (lv_at hl 0 rfl) ?_
            refine lv_iconst (v := 1) hx hb dL_law_1383 (by decide) ?_
            refine lv_iadd hx hb dL_law_1384 ?_
            refine lv_topi (fun y_590 ey_590 => ?_)
            obtain rfl : y_590 = 1 := ey_590.trans (by decide)
            refine va_sld hx hb hX hbl hbA G.2.2.2.1 (vp_in_nI (n := 1) (by decide) (by decide)) dL_law_1385 ?_
            refine lv_topi (fun v_591 ev_591 => ?_)
            have ev_591 : v_591 = xs 1 := ev_591
            subst ev_591
            refine lv_aload_n hx hb dL_law_1386 rfl (lv_at hl 3 rfl) ?_
            refine lv_iload_n hx hb dL_law_1387 rfl (lv_at hl 0 rfl) ?_
            refine lv_iconst (v := 2) hx hb dL_law_1388 (by decide) ?_
            refine lv_iadd hx hb dL_law_1389 ?_
            refine lv_topi (fun y_592 ey_592 => ?_)
            obtain rfl : y_592 = 2 := ey_592.trans (by decide)
            refine va_sld hx hb hX hbl hbA G.2.2.2.1 (vp_in_nI (n := 2) (by decide) (by decide)) dL_law_1390 ?_
            refine lv_topi (fun v_593 ev_593 => ?_)
            have ev_593 : v_593 = xs 2 := ev_593
            subst ev_593
            refine lv_aload_n hx hb dL_law_1391 rfl (lv_at hl 3 rfl) ?_
            refine lv_iload_n hx hb dL_law_1392 rfl (lv_at hl 0 rfl) ?_
            refine lv_iconst (v := 3) hx hb dL_law_1393 (by decide) ?_
            refine lv_iadd hx hb dL_law_1394 ?_
            refine lv_topi (fun y_594 ey_594 => ?_)
            obtain rfl : y_594 = 3 := ey_594.trans (by decide)
            refine va_sld hx hb hX hbl hbA G.2.2.2.1 (vp_in_nI (n := 3) (by decide) (by decide)) dL_law_1395 ?_
            refine lv_topi (fun v_595 ev_595 => ?_)
            have ev_595 : v_595 = xs 3 := ev_595
            subst ev_595
            refine lv_if_eq (tgt := 1403) hx hb dL_law_1396 (by decide) (fun _ => ?_) (fun q => absurd c_584 q)
            refine lv_iconst (v := 0) hx hb dL_law_1403 (by decide) ?_
            refine lv_aload_n hx hb dL_law_1404 rfl (lv_at hl 3 rfl) ?_
            refine lv_iload_n hx hb dL_law_1405 rfl (lv_at hl 0 rfl) ?_
            refine lv_iconst (v := 4) hx hb dL_law_1406 (by decide) ?_
            refine lv_iadd hx hb dL_law_1407 ?_
            refine lv_topi (fun y_596 ey_596 => ?_)
            obtain rfl : y_596 = 4 := ey_596.trans (by decide)
            refine va_sld hx hb hX hbl hbA G.2.2.2.1 (vp_in_nI (n := 4) (by decide) (by decide)) dL_law_1408 ?_
            refine lv_topi (fun v_597 ev_597 => ?_)
            have ev_597 : v_597 = xs 4 := ev_597
            subst ev_597
            refine lv_if_eq (tgt := 1416) hx hb dL_law_1409 (by decide) (fun _ => ?_) (fun q => absurd c_587 q)
            refine lv_iconst (v := 0) hx hb dL_law_1416 (by decide) ?_
            refine z_Vi (bc := [[(q_74, .inr (11, [.ref r_all_75, .ref r_has_76, .int 0, .int 0, .int 0, .int 0, .int 0, .int 0, .int 0, .int 0, .ref r_read_77, .int 0, .int 0, .int 0, .ref r_posts_78, .ref r_shut_79, .ref r_here_80, .int 0, .int 0, .int 0, .int 0, .ref r_was_81, .ref r_came_82, .ref r_seenAt_83, .ref r_rowWorth_84, .ref r_farBy_85, .ref r_used_86, .int 0, .int 0, .int 0, .int 0, .int 0, .int 0, .int 0, .int 0, .int 0, .int 0, .int 0, .int 0, .ref r_fitPost_87, .ref r_fitEnd_88, .ref r_keptPosts_89, .int 0]))], [(r_all_75, .inl (T.2 0, 3952, .inl (upd (fun _ => 0) 6 (-1))))]]) (br := [[(a1p_13, .inl (T.2 1, 600, .inl f1p_18))], [(a3p_15, .inl (T.2 3, 2, .inr (.inr (.inr (.inr f3p_19)))))], [(a4p_16, .inl (T.2 4, 2, .inr (.inr (.inr (.inr f4p_20)))))], [(a5p_17, .inl (T.2 5, 2, .inr (.inr (.inr (.inr f5p_21)))))], w1p_28, w2p_29, w3p_30, w4p_31, w5p_32, w6p_33, [(ia_3, .inl (T.2 6, 3, .inr (.inr (.inr (.inr fq_34)))))], u0_38, u1_39, u2_40, [(im_4, .inl (T.2 2, 3, .inl (fun _ => 0)))], v_41, z1_42, z2_43, z3_44, w1_45, w2_46, w3_47, [(cd_12, .inl (T.2 0, 1000, .inl (fun _ => 0)))], [(r_has_76, .inl (T.2 2, 3, .inl (fun _ => 0)))], [(r_read_77, .inl (T.2 0, 121, .inl (fun _ => 0)))], [(r_posts_78, .inl (T.2 0, 7, .inl (fun _ => 0)))], [(r_shut_79, .inl (T.2 0, 7, .inl (fun _ => 0)))], [(r_here_80, .inl (T.2 0, 7, .inl (fun _ => 0)))], [(r_was_81, .inl (T.2 0, 7, .inl (fun _ => 0)))], [(r_came_82, .inl (T.2 0, 7, .inl (fun _ => 0)))], [(r_seenAt_83, .inl (T.2 0, 16384, .inl (fun _ => 0)))], [(r_rowWorth_84, .inl (T.2 0, 512, .inl (fun _ => 0)))], [(r_farBy_85, .inl (T.2 0, 49, .inl (fun _ => 0)))], [(r_used_86, .inl (T.2 0, 7, .inl (fun _ => 0)))], [(r_fitPost_87, .inl (T.2 0, 28, .inl (fun _ => 0)))], [(r_fitEnd_88, .inl (T.2 0, 49, .inl (fun _ => 0)))], [(r_keptPosts_89, .inl (T.2 0, 7, .inl (fun _ => 0)))]]) (As := [.int (xs 1), .int (xs 2), .int 0, .int 0]) (rest := [.int (-1)]) C G (c_m_longest l T q_74 r_all_75 r_has_76 r_read_77 r_posts_78 r_shut_79 r_here_80 r_was_81 r_came_82 r_seenAt_83 r_rowWorth_84 r_farBy_85 r_used_86 r_fitPost_87 r_fitEnd_88 r_keptPosts_89 (xs 1) (xs 2) 0 0) (kV_RL_128 C.2.2.2.2 (Nat.le_of_ble_eq_true rfl) (Nat.le_of_ble_eq_true rfl)) [23, 24] [0, 1, 2, 3, 4, 5, 6, 7, 8, 9, 10, 11, 12, 13, 14, 15, 16, 17, 18, 19, 20, 21, 22, 25, 26, 27, 28, 29, 30, 31, 32, 33, 34, 35, 36, 37, 38] rfl rfl (ci := 11) (qc := (RX12, TX12, 43)) rfl rfl (List.mem_flatten.mpr ⟨_, List.mem_of_getElem? (i := 0) rfl, List.mem_cons_self⟩) rfl rfl hl.1 dL_law_1417 (Nat.le_of_ble_eq_true rfl) (Nat.le_of_ble_eq_true rfl) (fun r_599 b1 H locs hw G => ?_)
            obtain ⟨rfl, h_598⟩ := hw
            have G : zS T A s.heap s [[(a1p_13, .inl (T.2 1, 600, .inl f1p_18))], [(a3p_15, .inl (T.2 3, 2, .inr (.inr (.inr (.inr f3p_19)))))], [(a4p_16, .inl (T.2 4, 2, .inr (.inr (.inr (.inr f4p_20)))))], [(a5p_17, .inl (T.2 5, 2, .inr (.inr (.inr (.inr f5p_21)))))], w1p_28, w2p_29, w3p_30, w4p_31, w5p_32, w6p_33, [(ia_3, .inl (T.2 6, 3, .inr (.inr (.inr (.inr fq_34)))))], u0_38, u1_39, u2_40, [(im_4, .inl (T.2 2, 3, .inl (fun _ => 0)))], v_41, z1_42, z2_43, z3_44, w1_45, w2_46, w3_47, [(cd_12, .inl (T.2 0, 1000, .inl (fun _ => 0)))], [(r_has_76, .inl (T.2 2, 3, .inl (fun _ => 0)))], [(r_read_77, .inl (T.2 0, 121, .inl (fun _ => 0)))], [(r_posts_78, .inl (T.2 0, 7, .inl (fun _ => 0)))], [(r_shut_79, .inl (T.2 0, 7, .inl (fun _ => 0)))], [(r_here_80, .inl (T.2 0, 7, .inl (fun _ => 0)))], [(r_was_81, .inl (T.2 0, 7, .inl (fun _ => 0)))], [(r_came_82, .inl (T.2 0, 7, .inl (fun _ => 0)))], [(r_seenAt_83, .inl (T.2 0, 16384, .inl (fun _ => 0)))], [(r_rowWorth_84, .inl (T.2 0, 512, .inl (fun _ => 0)))], [(r_farBy_85, .inl (T.2 0, 49, .inl (fun _ => 0)))], [(r_used_86, .inl (T.2 0, 7, .inl (fun _ => 0)))], [(r_fitPost_87, .inl (T.2 0, 28, .inl (fun _ => 0)))], [(r_fitEnd_88, .inl (T.2 0, 49, .inl (fun _ => 0)))], [(r_keptPosts_89, .inl (T.2 0, 7, .inl (fun _ => 0)))]] _ _ := G
            subst h_598
            refine lv_icmp_eq (tgt := 1767) hx hb dL_law_1420 (by decide) (fun _ => ?_) (fun q => absurd (by decide) q)
            refine lv_iinc (v := 6) (lv' := [(3, .int 6), (2, .ref q_74), (1, .ref q_1), (0, .ref b)]) hx hb dL_law_1767 hl (k := 0) rfl (by decide) (by decide) rfl (fun ls hl => ?_)
            refine lv_goto (tgt := 18) hx hb dL_law_1770 (by decide) ?_
            refine lv_iload_n hx hb dL_law_18 rfl (lv_at hl 0 rfl) ?_
            refine lv_aload_n hx hb dL_law_19 rfl (lv_at hl 3 rfl) ?_
            refine va_slen hx hb hX hbl hbA G.2.2.2.1 dL_law_20 ?_
            refine lv_bipush (v := 6) hx hb dL_law_21 (by decide) ?_
            refine lv_isub hx hb dL_law_23 ?_
            refine lv_topi (fun y_600 ey_600 => ?_)
            obtain rfl : y_600 = 0 := ey_600.trans (by decide)
            refine lv_icmp_gt (tgt := 1773) hx hb dL_law_24 (by decide) (fun _ => ?_) (fun q => absurd (by decide) q)
            refine lv_iconst (v := 1) hx hb dL_law_1773 (by decide) ?_
            refine va_forget (fun q hq => by have h9 := G.2.2.2.1.2.2 q hq; rw [hAe] at h9; exact h9) ?_
            refine W.widen (k := 600000) (n := 7302250) (Nat.le_of_ble_eq_true rfl) (Nat.le_of_ble_eq_true rfl) ?_
            exact lw_ret hx hb hr hlocks dL_law_1774
          · have c_587n : ¬ (xs 4).toInt = (0 : Int) := fun q => c_587 ((fa_eq _ _).mpr q)
            refine lv_iconst (v := 1) hx hb dL_law_1372 (by decide) ?_
            refine lv_goto (tgt := 1377) hx hb dL_law_1373 (by decide) ?_
            refine z_Vi (bc := [[(q_1, .inr (10, [.ref t0_2, .ref ia_3, .ref im_4, .ref rd_5, .ref po_6, .ref co_7, .ref tr_8, .ref wa_9, .ref wb_10, .ref fi_11, .ref cd_12]))], [(t0_2, .inr (8, [.ref a1p_13, .int 0, .int 0, .int (-1), .ref a2p_14, .ref a3p_15, .ref a4p_16, .ref a5p_17]))], [(a2p_14, .inl (T.2 0, 3, .inl (fun _ => 0)))]]) (br := [[(a1p_13, .inl (T.2 1, 600, .inl f1p_18))], [(a3p_15, .inl (T.2 3, 2, .inr (.inr (.inr (.inr f3p_19)))))], [(a4p_16, .inl (T.2 4, 2, .inr (.inr (.inr (.inr f4p_20)))))], [(a5p_17, .inl (T.2 5, 2, .inr (.inr (.inr (.inr f5p_21)))))], w1p_28, w2p_29, w3p_30, w4p_31, w5p_32, w6p_33, [(ia_3, .inl (T.2 6, 3, .inr (.inr (.inr (.inr fq_34)))))], u0_38, u1_39, u2_40, [(im_4, .inl (T.2 2, 3, .inl (fun _ => 0)))], v_41, z1_42, z2_43, z3_44, w1_45, w2_46, w3_47, [(cd_12, .inl (T.2 0, 1000, .inl (fun _ => 0)))], [(q_74, .inr (11, [.ref r_all_75, .ref r_has_76, .int 0, .int 0, .int 0, .int 0, .int 0, .int 0, .int 0, .int 0, .ref r_read_77, .int 0, .int 0, .int 0, .ref r_posts_78, .ref r_shut_79, .ref r_here_80, .int 0, .int 0, .int 0, .int 0, .ref r_was_81, .ref r_came_82, .ref r_seenAt_83, .ref r_rowWorth_84, .ref r_farBy_85, .ref r_used_86, .int 0, .int 0, .int 0, .int 0, .int 0, .int 0, .int 0, .int 0, .int 0, .int 0, .int 0, .int 0, .ref r_fitPost_87, .ref r_fitEnd_88, .ref r_keptPosts_89, .int 0]))], [(r_all_75, .inl (T.2 0, 3952, .inl (upd (fun _ => 0) 6 (-1))))], [(r_has_76, .inl (T.2 2, 3, .inl (fun _ => 0)))], [(r_read_77, .inl (T.2 0, 121, .inl (fun _ => 0)))], [(r_posts_78, .inl (T.2 0, 7, .inl (fun _ => 0)))], [(r_shut_79, .inl (T.2 0, 7, .inl (fun _ => 0)))], [(r_here_80, .inl (T.2 0, 7, .inl (fun _ => 0)))], [(r_was_81, .inl (T.2 0, 7, .inl (fun _ => 0)))], [(r_came_82, .inl (T.2 0, 7, .inl (fun _ => 0)))], [(r_seenAt_83, .inl (T.2 0, 16384, .inl (fun _ => 0)))], [(r_rowWorth_84, .inl (T.2 0, 512, .inl (fun _ => 0)))], [(r_farBy_85, .inl (T.2 0, 49, .inl (fun _ => 0)))], [(r_used_86, .inl (T.2 0, 7, .inl (fun _ => 0)))], [(r_fitPost_87, .inl (T.2 0, 28, .inl (fun _ => 0)))], [(r_fitEnd_88, .inl (T.2 0, 49, .inl (fun _ => 0)))], [(r_keptPosts_89, .inl (T.2 0, 7, .inl (fun _ => 0)))]]) (As := [.int (xs 1), .int (xs 2), .int 0, .int 1]) (rest := []) C G (c_x_longest l T q_1 t0_2 ia_3 im_4 rd_5 po_6 co_7 tr_8 wa_9 wb_10 fi_11 cd_12 a1p_13 a2p_14 a3p_15 a4p_16 a5p_17 (xs 1) (xs 2) 0 1) (kV_RL_124 C.2.2.2.2 (Nat.le_of_ble_eq_true rfl) (Nat.le_of_ble_eq_true rfl)) [0, 1, 3] [2, 4, 5, 6, 7, 8, 9, 10, 11, 12, 13, 14, 15, 16, 17, 18, 19, 20, 21, 22, 23, 24, 25, 26, 27, 28, 29, 30, 31, 32, 33, 34, 35, 36, 37, 38, 39, 40, 41] rfl rfl (ci := 10) (qc := (RX11, TX11, 11)) rfl rfl (List.mem_flatten.mpr ⟨_, List.mem_of_getElem? (i := 0) rfl, List.mem_cons_self⟩) rfl rfl hl.1 dL_law_1377 (Nat.le_of_ble_eq_true rfl) (Nat.le_of_ble_eq_true rfl) (fun r_602 b1 H locs hw G => ?_)
            obtain ⟨rfl, h_601⟩ := hw
            have G : zS T A s.heap s [[(a1p_13, .inl (T.2 1, 600, .inl f1p_18))], [(a3p_15, .inl (T.2 3, 2, .inr (.inr (.inr (.inr f3p_19)))))], [(a4p_16, .inl (T.2 4, 2, .inr (.inr (.inr (.inr f4p_20)))))], [(a5p_17, .inl (T.2 5, 2, .inr (.inr (.inr (.inr f5p_21)))))], w1p_28, w2p_29, w3p_30, w4p_31, w5p_32, w6p_33, [(ia_3, .inl (T.2 6, 3, .inr (.inr (.inr (.inr fq_34)))))], u0_38, u1_39, u2_40, [(im_4, .inl (T.2 2, 3, .inl (fun _ => 0)))], v_41, z1_42, z2_43, z3_44, w1_45, w2_46, w3_47, [(cd_12, .inl (T.2 0, 1000, .inl (fun _ => 0)))], [(q_74, .inr (11, [.ref r_all_75, .ref r_has_76, .int 0, .int 0, .int 0, .int 0, .int 0, .int 0, .int 0, .int 0, .ref r_read_77, .int 0, .int 0, .int 0, .ref r_posts_78, .ref r_shut_79, .ref r_here_80, .int 0, .int 0, .int 0, .int 0, .ref r_was_81, .ref r_came_82, .ref r_seenAt_83, .ref r_rowWorth_84, .ref r_farBy_85, .ref r_used_86, .int 0, .int 0, .int 0, .int 0, .int 0, .int 0, .int 0, .int 0, .int 0, .int 0, .int 0, .int 0, .ref r_fitPost_87, .ref r_fitEnd_88, .ref r_keptPosts_89, .int 0]))], [(r_all_75, .inl (T.2 0, 3952, .inl (upd (fun _ => 0) 6 (-1))))], [(r_has_76, .inl (T.2 2, 3, .inl (fun _ => 0)))], [(r_read_77, .inl (T.2 0, 121, .inl (fun _ => 0)))], [(r_posts_78, .inl (T.2 0, 7, .inl (fun _ => 0)))], [(r_shut_79, .inl (T.2 0, 7, .inl (fun _ => 0)))], [(r_here_80, .inl (T.2 0, 7, .inl (fun _ => 0)))], [(r_was_81, .inl (T.2 0, 7, .inl (fun _ => 0)))], [(r_came_82, .inl (T.2 0, 7, .inl (fun _ => 0)))], [(r_seenAt_83, .inl (T.2 0, 16384, .inl (fun _ => 0)))], [(r_rowWorth_84, .inl (T.2 0, 512, .inl (fun _ => 0)))], [(r_farBy_85, .inl (T.2 0, 49, .inl (fun _ => 0)))], [(r_used_86, .inl (T.2 0, 7, .inl (fun _ => 0)))], [(r_fitPost_87, .inl (T.2 0, 28, .inl (fun _ => 0)))], [(r_fitEnd_88, .inl (T.2 0, 49, .inl (fun _ => 0)))], [(r_keptPosts_89, .inl (T.2 0, 7, .inl (fun _ => 0)))]] _ _ := G
            subst h_601
            refine lv_aload_n hx hb dL_law_1380 rfl (lv_at hl 1 rfl) ?_
            refine lv_aload_n hx hb dL_law_1381 rfl (lv_at hl 3 rfl) ?_
            refine lv_iload_n hx hb dL_law_1382 rfl (lv_at hl 0 rfl) ?_
            refine lv_iconst (v := 1) hx hb dL_law_1383 (by decide) ?_
            refine lv_iadd hx hb dL_law_1384 ?_
            refine lv_topi (fun y_603 ey_603 => ?_)
            obtain rfl : y_603 = 1 := ey_603.trans (by decide)
            refine va_sld hx hb hX hbl hbA G.2.2.2.1 (vp_in_nI (n := 1) (by decide) (by decide)) dL_law_1385 ?_
            refine lv_topi (fun v_604 ev_604 => ?_)
            have ev_604 : v_604 = xs 1 := ev_604
            subst ev_604
            refine lv_aload_n hx hb dL_law_1386 rfl (lv_at hl 3 rfl) ?_
            refine lv_iload_n hx hb dL_law_1387 rfl (lv_at hl 0 rfl) ?_
            refine lv_iconst (v := 2) hx hb dL_law_1388 (by decide) ?_
            refine lv_iadd hx hb dL_law_1389 ?_
            refine lv_topi (fun y_605 ey_605 => ?_)
            obtain rfl : y_605 = 2 := ey_605.trans (by decide)
            refine va_sld hx hb hX hbl hbA G.2.2.2.1 (vp_in_nI (n := 2) (by decide) (by decide)) dL_law_1390 ?_
            refine lv_topi (fun v_606 ev_606 => ?_)
            have ev_606 : v_606 = xs 2 := ev_606
            subst ev_606
            refine lv_aload_n hx hb dL_law_1391 rfl (lv_at hl 3 rfl) ?_
            refine lv_iload_n hx hb dL_law_1392 rfl (lv_at hl 0 rfl) ?_
            refine lv_iconst (v := 3) hx hb dL_law_1393 (by decide) ?_
            refine lv_iadd hx hb dL_law_1394 ?_
            refine lv_topi (fun y_607 ey_607 => ?_)
            obtain rfl : y_607 = 3 := ey_607.trans (by decide)
            refine va_sld hx hb hX hbl hbA G.2.2.2.1 (vp_in_nI (n := 3) (by decide) (by decide)) dL_law_1395 ?_
            refine lv_topi (fun v_608 ev_608 => ?_)
            have ev_608 : v_608 = xs 3 := ev_608
            subst ev_608
            refine lv_if_eq (tgt := 1403) hx hb dL_law_1396 (by decide) (fun _ => ?_) (fun q => absurd c_584 q)
            refine lv_iconst (v := 0) hx hb dL_law_1403 (by decide) ?_
            refine lv_aload_n hx hb dL_law_1404 rfl (lv_at hl 3 rfl) ?_
            refine lv_iload_n hx hb dL_law_1405 rfl (lv_at hl 0 rfl) ?_
            refine lv_iconst (v := 4) hx hb dL_law_1406 (by decide) ?_
            refine lv_iadd hx hb dL_law_1407 ?_
            refine lv_topi (fun y_609 ey_609 => ?_)
            obtain rfl : y_609 = 4 := ey_609.trans (by decide)
            refine va_sld hx hb hX hbl hbA G.2.2.2.1 (vp_in_nI (n := 4) (by decide) (by decide)) dL_law_1408 ?_
            refine lv_topi (fun v_610 ev_610 => ?_)
            have ev_610 : v_610 = xs 4 := ev_610
            subst ev_610
            refine lv_if_eq (tgt := 1416) hx hb dL_law_1409 (by decide) (fun q => absurd q c_587) (fun _ => ?_)
            refine lv_iconst (v := 1) hx hb dL_law_1412 (by decide) ?_
            refine lv_goto (tgt := 1417) hx hb dL_law_1413 (by decide) ?_
            refine z_Vi (bc := [[(q_74, .inr (11, [.ref r_all_75, .ref r_has_76, .int 0, .int 0, .int 0, .int 0, .int 0, .int 0, .int 0, .int 0, .ref r_read_77, .int 0, .int 0, .int 0, .ref r_posts_78, .ref r_shut_79, .ref r_here_80, .int 0, .int 0, .int 0, .int 0, .ref r_was_81, .ref r_came_82, .ref r_seenAt_83, .ref r_rowWorth_84, .ref r_farBy_85, .ref r_used_86, .int 0, .int 0, .int 0, .int 0, .int 0, .int 0, .int 0, .int 0, .int 0, .int 0, .int 0, .int 0, .ref r_fitPost_87, .ref r_fitEnd_88, .ref r_keptPosts_89, .int 0]))], [(r_all_75, .inl (T.2 0, 3952, .inl (upd (fun _ => 0) 6 (-1))))]]) (br := [[(a1p_13, .inl (T.2 1, 600, .inl f1p_18))], [(a3p_15, .inl (T.2 3, 2, .inr (.inr (.inr (.inr f3p_19)))))], [(a4p_16, .inl (T.2 4, 2, .inr (.inr (.inr (.inr f4p_20)))))], [(a5p_17, .inl (T.2 5, 2, .inr (.inr (.inr (.inr f5p_21)))))], w1p_28, w2p_29, w3p_30, w4p_31, w5p_32, w6p_33, [(ia_3, .inl (T.2 6, 3, .inr (.inr (.inr (.inr fq_34)))))], u0_38, u1_39, u2_40, [(im_4, .inl (T.2 2, 3, .inl (fun _ => 0)))], v_41, z1_42, z2_43, z3_44, w1_45, w2_46, w3_47, [(cd_12, .inl (T.2 0, 1000, .inl (fun _ => 0)))], [(r_has_76, .inl (T.2 2, 3, .inl (fun _ => 0)))], [(r_read_77, .inl (T.2 0, 121, .inl (fun _ => 0)))], [(r_posts_78, .inl (T.2 0, 7, .inl (fun _ => 0)))], [(r_shut_79, .inl (T.2 0, 7, .inl (fun _ => 0)))], [(r_here_80, .inl (T.2 0, 7, .inl (fun _ => 0)))], [(r_was_81, .inl (T.2 0, 7, .inl (fun _ => 0)))], [(r_came_82, .inl (T.2 0, 7, .inl (fun _ => 0)))], [(r_seenAt_83, .inl (T.2 0, 16384, .inl (fun _ => 0)))], [(r_rowWorth_84, .inl (T.2 0, 512, .inl (fun _ => 0)))], [(r_farBy_85, .inl (T.2 0, 49, .inl (fun _ => 0)))], [(r_used_86, .inl (T.2 0, 7, .inl (fun _ => 0)))], [(r_fitPost_87, .inl (T.2 0, 28, .inl (fun _ => 0)))], [(r_fitEnd_88, .inl (T.2 0, 49, .inl (fun _ => 0)))], [(r_keptPosts_89, .inl (T.2 0, 7, .inl (fun _ => 0)))]]) (As := [.int (xs 1), .int (xs 2), .int 0, .int 1]) (rest := [.int (-1)]) C G (c_m_longest l T q_74 r_all_75 r_has_76 r_read_77 r_posts_78 r_shut_79 r_here_80 r_was_81 r_came_82 r_seenAt_83 r_rowWorth_84 r_farBy_85 r_used_86 r_fitPost_87 r_fitEnd_88 r_keptPosts_89 (xs 1) (xs 2) 0 1) (kV_RL_128 C.2.2.2.2 (Nat.le_of_ble_eq_true rfl) (Nat.le_of_ble_eq_true rfl)) [23, 24] [0, 1, 2, 3, 4, 5, 6, 7, 8, 9, 10, 11, 12, 13, 14, 15, 16, 17, 18, 19, 20, 21, 22, 25, 26, 27, 28, 29, 30, 31, 32, 33, 34, 35, 36, 37, 38] rfl rfl (ci := 11) (qc := (RX12, TX12, 43)) rfl rfl (List.mem_flatten.mpr ⟨_, List.mem_of_getElem? (i := 0) rfl, List.mem_cons_self⟩) rfl rfl hl.1 dL_law_1417 (Nat.le_of_ble_eq_true rfl) (Nat.le_of_ble_eq_true rfl) (fun r_612 b1 H locs hw G => ?_)
            obtain ⟨rfl, h_611⟩ := hw
            have G : zS T A s.heap s [[(a1p_13, .inl (T.2 1, 600, .inl f1p_18))], [(a3p_15, .inl (T.2 3, 2, .inr (.inr (.inr (.inr f3p_19)))))], [(a4p_16, .inl (T.2 4, 2, .inr (.inr (.inr (.inr f4p_20)))))], [(a5p_17, .inl (T.2 5, 2, .inr (.inr (.inr (.inr f5p_21)))))], w1p_28, w2p_29, w3p_30, w4p_31, w5p_32, w6p_33, [(ia_3, .inl (T.2 6, 3, .inr (.inr (.inr (.inr fq_34)))))], u0_38, u1_39, u2_40, [(im_4, .inl (T.2 2, 3, .inl (fun _ => 0)))], v_41, z1_42, z2_43, z3_44, w1_45, w2_46, w3_47, [(cd_12, .inl (T.2 0, 1000, .inl (fun _ => 0)))], [(r_has_76, .inl (T.2 2, 3, .inl (fun _ => 0)))], [(r_read_77, .inl (T.2 0, 121, .inl (fun _ => 0)))], [(r_posts_78, .inl (T.2 0, 7, .inl (fun _ => 0)))], [(r_shut_79, .inl (T.2 0, 7, .inl (fun _ => 0)))], [(r_here_80, .inl (T.2 0, 7, .inl (fun _ => 0)))], [(r_was_81, .inl (T.2 0, 7, .inl (fun _ => 0)))], [(r_came_82, .inl (T.2 0, 7, .inl (fun _ => 0)))], [(r_seenAt_83, .inl (T.2 0, 16384, .inl (fun _ => 0)))], [(r_rowWorth_84, .inl (T.2 0, 512, .inl (fun _ => 0)))], [(r_farBy_85, .inl (T.2 0, 49, .inl (fun _ => 0)))], [(r_used_86, .inl (T.2 0, 7, .inl (fun _ => 0)))], [(r_fitPost_87, .inl (T.2 0, 28, .inl (fun _ => 0)))], [(r_fitEnd_88, .inl (T.2 0, 49, .inl (fun _ => 0)))], [(r_keptPosts_89, .inl (T.2 0, 7, .inl (fun _ => 0)))]] _ _ := G
            subst h_611
            refine lv_icmp_eq (tgt := 1767) hx hb dL_law_1420 (by decide) (fun _ => ?_) (fun q => absurd (by decide) q)
            refine lv_iinc (v := 6) (lv' := [(3, .int 6), (2, .ref q_74), (1, .ref q_1), (0, .ref b)]) hx hb dL_law_1767 hl (k := 0) rfl (by decide) (by decide) rfl (fun ls hl => ?_)
            refine lv_goto (tgt := 18) hx hb dL_law_1770 (by decide) ?_
            refine lv_iload_n hx hb dL_law_18 rfl (lv_at hl 0 rfl) ?_
            refine lv_aload_n hx hb dL_law_19 rfl (lv_at hl 3 rfl) ?_
            refine va_slen hx hb hX hbl hbA G.2.2.2.1 dL_law_20 ?_
            refine lv_bipush (v := 6) hx hb dL_law_21 (by decide) ?_
            refine lv_isub hx hb dL_law_23 ?_
            refine lv_topi (fun y_613 ey_613 => ?_)
            obtain rfl : y_613 = 0 := ey_613.trans (by decide)
            refine lv_icmp_gt (tgt := 1773) hx hb dL_law_24 (by decide) (fun _ => ?_) (fun q => absurd (by decide) q)
            refine lv_iconst (v := 1) hx hb dL_law_1773 (by decide) ?_
            refine va_forget (fun q hq => by have h9 := G.2.2.2.1.2.2 q hq; rw [hAe] at h9; exact h9) ?_
            refine W.widen (k := 600000) (n := 7302250) (Nat.le_of_ble_eq_true rfl) (Nat.le_of_ble_eq_true rfl) ?_
            exact lw_ret hx hb hr hlocks dL_law_1774
        · have c_584n : ¬ (xs 3).toInt = (0 : Int) := fun q => c_584 ((fa_eq _ _).mpr q)
          refine lv_iconst (v := 1) hx hb dL_law_1359 (by decide) ?_
          refine lv_goto (tgt := 1364) hx hb dL_law_1360 (by decide) ?_
          refine lv_aload_n hx hb dL_law_1364 rfl (lv_at hl 3 rfl) ?_
          refine lv_iload_n hx hb dL_law_1365 rfl (lv_at hl 0 rfl) ?_
          refine lv_iconst (v := 4) hx hb dL_law_1366 (by decide) ?_
          refine lv_iadd hx hb dL_law_1367 ?_
          refine lv_topi (fun y_614 ey_614 => ?_)
          obtain rfl : y_614 = 4 := ey_614.trans (by decide)
          refine va_sld hx hb hX hbl hbA G.2.2.2.1 (vp_in_nI (n := 4) (by decide) (by decide)) dL_law_1368 ?_
          refine lv_topi (fun v_615 ev_615 => ?_)
          have ev_615 : v_615 = xs 4 := ev_615
          subst ev_615
          refine lv_if_eq (tgt := 1376) hx hb dL_law_1369 (by decide) (fun c_616 => ?_) (fun c_616 => ?_)
          · have c_616n : (xs 4).toInt = (0 : Int) := (fa_eq _ _).mp c_616
            refine lv_iconst (v := 0) hx hb dL_law_1376 (by decide) ?_
            refine z_Vi (bc := [[(q_1, .inr (10, [.ref t0_2, .ref ia_3, .ref im_4, .ref rd_5, .ref po_6, .ref co_7, .ref tr_8, .ref wa_9, .ref wb_10, .ref fi_11, .ref cd_12]))], [(t0_2, .inr (8, [.ref a1p_13, .int 0, .int 0, .int (-1), .ref a2p_14, .ref a3p_15, .ref a4p_16, .ref a5p_17]))], [(a2p_14, .inl (T.2 0, 3, .inl (fun _ => 0)))]]) (br := [[(a1p_13, .inl (T.2 1, 600, .inl f1p_18))], [(a3p_15, .inl (T.2 3, 2, .inr (.inr (.inr (.inr f3p_19)))))], [(a4p_16, .inl (T.2 4, 2, .inr (.inr (.inr (.inr f4p_20)))))], [(a5p_17, .inl (T.2 5, 2, .inr (.inr (.inr (.inr f5p_21)))))], w1p_28, w2p_29, w3p_30, w4p_31, w5p_32, w6p_33, [(ia_3, .inl (T.2 6, 3, .inr (.inr (.inr (.inr fq_34)))))], u0_38, u1_39, u2_40, [(im_4, .inl (T.2 2, 3, .inl (fun _ => 0)))], v_41, z1_42, z2_43, z3_44, w1_45, w2_46, w3_47, [(cd_12, .inl (T.2 0, 1000, .inl (fun _ => 0)))], [(q_74, .inr (11, [.ref r_all_75, .ref r_has_76, .int 0, .int 0, .int 0, .int 0, .int 0, .int 0, .int 0, .int 0, .ref r_read_77, .int 0, .int 0, .int 0, .ref r_posts_78, .ref r_shut_79, .ref r_here_80, .int 0, .int 0, .int 0, .int 0, .ref r_was_81, .ref r_came_82, .ref r_seenAt_83, .ref r_rowWorth_84, .ref r_farBy_85, .ref r_used_86, .int 0, .int 0, .int 0, .int 0, .int 0, .int 0, .int 0, .int 0, .int 0, .int 0, .int 0, .int 0, .ref r_fitPost_87, .ref r_fitEnd_88, .ref r_keptPosts_89, .int 0]))], [(r_all_75, .inl (T.2 0, 3952, .inl (upd (fun _ => 0) 6 (-1))))], [(r_has_76, .inl (T.2 2, 3, .inl (fun _ => 0)))], [(r_read_77, .inl (T.2 0, 121, .inl (fun _ => 0)))], [(r_posts_78, .inl (T.2 0, 7, .inl (fun _ => 0)))], [(r_shut_79, .inl (T.2 0, 7, .inl (fun _ => 0)))], [(r_here_80, .inl (T.2 0, 7, .inl (fun _ => 0)))], [(r_was_81, .inl (T.2 0, 7, .inl (fun _ => 0)))], [(r_came_82, .inl (T.2 0, 7, .inl (fun _ => 0)))], [(r_seenAt_83, .inl (T.2 0, 16384, .inl (fun _ => 0)))], [(r_rowWorth_84, .inl (T.2 0, 512, .inl (fun _ => 0)))], [(r_farBy_85, .inl (T.2 0, 49, .inl (fun _ => 0)))], [(r_used_86, .inl (T.2 0, 7, .inl (fun _ => 0)))], [(r_fitPost_87, .inl (T.2 0, 28, .inl (fun _ => 0)))], [(r_fitEnd_88, .inl (T.2 0, 49, .inl (fun _ => 0)))], [(r_keptPosts_89, .inl (T.2 0, 7, .inl (fun _ => 0)))]]) (As := [.int (xs 1), .int (xs 2), .int 1, .int 0]) (rest := []) C G (c_x_longest l T q_1 t0_2 ia_3 im_4 rd_5 po_6 co_7 tr_8 wa_9 wb_10 fi_11 cd_12 a1p_13 a2p_14 a3p_15 a4p_16 a5p_17 (xs 1) (xs 2) 1 0) (kV_RL_124 C.2.2.2.2 (Nat.le_of_ble_eq_true rfl) (Nat.le_of_ble_eq_true rfl)) [0, 1, 3] [2, 4, 5, 6, 7, 8, 9, 10, 11, 12, 13, 14, 15, 16, 17, 18, 19, 20, 21, 22, 23, 24, 25, 26, 27, 28, 29, 30, 31, 32, 33, 34, 35, 36, 37, 38, 39, 40, 41] rfl rfl (ci := 10) (qc := (RX11, TX11, 11)) rfl rfl (List.mem_flatten.mpr ⟨_, List.mem_of_getElem? (i := 0) rfl, List.mem_cons_self⟩) rfl rfl hl.1 dL_law_1377 (Nat.le_of_ble_eq_true rfl) (Nat.le_of_ble_eq_true rfl) (fun r_618 b1 H locs hw G => ?_)
            obtain ⟨rfl, h_617⟩ := hw
            have G : zS T A s.heap s [[(a1p_13, .inl (T.2 1, 600, .inl f1p_18))], [(a3p_15, .inl (T.2 3, 2, .inr (.inr (.inr (.inr f3p_19)))))], [(a4p_16, .inl (T.2 4, 2, .inr (.inr (.inr (.inr f4p_20)))))], [(a5p_17, .inl (T.2 5, 2, .inr (.inr (.inr (.inr f5p_21)))))], w1p_28, w2p_29, w3p_30, w4p_31, w5p_32, w6p_33, [(ia_3, .inl (T.2 6, 3, .inr (.inr (.inr (.inr fq_34)))))], u0_38, u1_39, u2_40, [(im_4, .inl (T.2 2, 3, .inl (fun _ => 0)))], v_41, z1_42, z2_43, z3_44, w1_45, w2_46, w3_47, [(cd_12, .inl (T.2 0, 1000, .inl (fun _ => 0)))], [(q_74, .inr (11, [.ref r_all_75, .ref r_has_76, .int 0, .int 0, .int 0, .int 0, .int 0, .int 0, .int 0, .int 0, .ref r_read_77, .int 0, .int 0, .int 0, .ref r_posts_78, .ref r_shut_79, .ref r_here_80, .int 0, .int 0, .int 0, .int 0, .ref r_was_81, .ref r_came_82, .ref r_seenAt_83, .ref r_rowWorth_84, .ref r_farBy_85, .ref r_used_86, .int 0, .int 0, .int 0, .int 0, .int 0, .int 0, .int 0, .int 0, .int 0, .int 0, .int 0, .int 0, .ref r_fitPost_87, .ref r_fitEnd_88, .ref r_keptPosts_89, .int 0]))], [(r_all_75, .inl (T.2 0, 3952, .inl (upd (fun _ => 0) 6 (-1))))], [(r_has_76, .inl (T.2 2, 3, .inl (fun _ => 0)))], [(r_read_77, .inl (T.2 0, 121, .inl (fun _ => 0)))], [(r_posts_78, .inl (T.2 0, 7, .inl (fun _ => 0)))], [(r_shut_79, .inl (T.2 0, 7, .inl (fun _ => 0)))], [(r_here_80, .inl (T.2 0, 7, .inl (fun _ => 0)))], [(r_was_81, .inl (T.2 0, 7, .inl (fun _ => 0)))], [(r_came_82, .inl (T.2 0, 7, .inl (fun _ => 0)))], [(r_seenAt_83, .inl (T.2 0, 16384, .inl (fun _ => 0)))], [(r_rowWorth_84, .inl (T.2 0, 512, .inl (fun _ => 0)))], [(r_farBy_85, .inl (T.2 0, 49, .inl (fun _ => 0)))], [(r_used_86, .inl (T.2 0, 7, .inl (fun _ => 0)))], [(r_fitPost_87, .inl (T.2 0, 28, .inl (fun _ => 0)))], [(r_fitEnd_88, .inl (T.2 0, 49, .inl (fun _ => 0)))], [(r_keptPosts_89, .inl (T.2 0, 7, .inl (fun _ => 0)))]] _ _ := G
            subst h_617
            refine lv_aload_n hx hb dL_law_1380 rfl (lv_at hl 1 rfl) ?_
            refine lv_aload_n hx hb dL_law_1381 rfl (lv_at hl 3 rfl) ?_
            refine lv_iload_n hx hb dL_law_1382 rfl (lv_at hl 0 rfl) ?_
            refine lv_iconst (v := 1) hx hb dL_law_1383 (by decide) ?_
            refine lv_iadd hx hb dL_law_1384 ?_
            refine lv_topi (fun y_619 ey_619 => ?_)
            obtain rfl : y_619 = 1 := ey_619.trans (by decide)
            refine va_sld hx hb hX hbl hbA G.2.2.2.1 (vp_in_nI (n := 1) (by decide) (by decide)) dL_law_1385 ?_
            refine lv_topi (fun v_620 ev_620 => ?_)
            have ev_620 : v_620 = xs 1 := ev_620
            subst ev_620
            refine lv_aload_n hx hb dL_law_1386 rfl (lv_at hl 3 rfl) ?_
            refine lv_iload_n hx hb dL_law_1387 rfl (lv_at hl 0 rfl) ?_
            refine lv_iconst (v := 2) hx hb dL_law_1388 (by decide) ?_
            refine lv_iadd hx hb dL_law_1389 ?_
            refine lv_topi (fun y_621 ey_621 => ?_)
            obtain rfl : y_621 = 2 := ey_621.trans (by decide)
            refine va_sld hx hb hX hbl hbA G.2.2.2.1 (vp_in_nI (n := 2) (by decide) (by decide)) dL_law_1390 ?_
            refine lv_topi (fun v_622 ev_622 => ?_)
            have ev_622 : v_622 = xs 2 := ev_622
            subst ev_622
            refine lv_aload_n hx hb dL_law_1391 rfl (lv_at hl 3 rfl) ?_
            refine lv_iload_n hx hb dL_law_1392 rfl (lv_at hl 0 rfl) ?_
            refine lv_iconst (v := 3) hx hb dL_law_1393 (by decide) ?_
            refine lv_iadd hx hb dL_law_1394 ?_
            refine lv_topi (fun y_623 ey_623 => ?_)
            obtain rfl : y_623 = 3 := ey_623.trans (by decide)
            refine va_sld hx hb hX hbl hbA G.2.2.2.1 (vp_in_nI (n := 3) (by decide) (by decide)) dL_law_1395 ?_
            refine lv_topi (fun v_624 ev_624 => ?_)
            have ev_624 : v_624 = xs 3 := ev_624
            subst ev_624
            refine lv_if_eq (tgt := 1403) hx hb dL_law_1396 (by decide) (fun q => absurd q c_584) (fun _ => ?_)
            refine lv_iconst (v := 1) hx hb dL_law_1399 (by decide) ?_
            refine lv_goto (tgt := 1404) hx hb dL_law_1400 (by decide) ?_
            refine lv_aload_n hx hb dL_law_1404 rfl (lv_at hl 3 rfl) ?_
            refine lv_iload_n hx hb dL_law_1405 rfl (lv_at hl 0 rfl) ?_
            refine lv_iconst (v := 4) hx hb dL_law_1406 (by decide) ?_
            refine lv_iadd hx hb dL_law_1407 ?_
            refine lv_topi (fun y_625 ey_625 => ?_)
            obtain rfl : y_625 = 4 := ey_625.trans (by decide)
            refine va_sld hx hb hX hbl hbA G.2.2.2.1 (vp_in_nI (n := 4) (by decide) (by decide)) dL_law_1408 ?_
            refine lv_topi (fun v_626 ev_626 => ?_)
            have ev_626 : v_626 = xs 4 := ev_626
            subst ev_626
            refine lv_if_eq (tgt := 1416) hx hb dL_law_1409 (by decide) (fun _ => ?_) (fun q => absurd c_616 q)
            refine lv_iconst (v := 0) hx hb dL_law_1416 (by decide) ?_
            refine z_Vi (bc := [[(q_74, .inr (11, [.ref r_all_75, .ref r_has_76, .int 0, .int 0, .int 0, .int 0, .int 0, .int 0, .int 0, .int 0, .ref r_read_77, .int 0, .int 0, .int 0, .ref r_posts_78, .ref r_shut_79, .ref r_here_80, .int 0, .int 0, .int 0, .int 0, .ref r_was_81, .ref r_came_82, .ref r_seenAt_83, .ref r_rowWorth_84, .ref r_farBy_85, .ref r_used_86, .int 0, .int 0, .int 0, .int 0, .int 0, .int 0, .int 0, .int 0, .int 0, .int 0, .int 0, .int 0, .ref r_fitPost_87, .ref r_fitEnd_88, .ref r_keptPosts_89, .int 0]))], [(r_all_75, .inl (T.2 0, 3952, .inl (upd (fun _ => 0) 6 (-1))))]]) (br := [[(a1p_13, .inl (T.2 1, 600, .inl f1p_18))], [(a3p_15, .inl (T.2 3, 2, .inr (.inr (.inr (.inr f3p_19)))))], [(a4p_16, .inl (T.2 4, 2, .inr (.inr (.inr (.inr f4p_20)))))], [(a5p_17, .inl (T.2 5, 2, .inr (.inr (.inr (.inr f5p_21)))))], w1p_28, w2p_29, w3p_30, w4p_31, w5p_32, w6p_33, [(ia_3, .inl (T.2 6, 3, .inr (.inr (.inr (.inr fq_34)))))], u0_38, u1_39, u2_40, [(im_4, .inl (T.2 2, 3, .inl (fun _ => 0)))], v_41, z1_42, z2_43, z3_44, w1_45, w2_46, w3_47, [(cd_12, .inl (T.2 0, 1000, .inl (fun _ => 0)))], [(r_has_76, .inl (T.2 2, 3, .inl (fun _ => 0)))], [(r_read_77, .inl (T.2 0, 121, .inl (fun _ => 0)))], [(r_posts_78, .inl (T.2 0, 7, .inl (fun _ => 0)))], [(r_shut_79, .inl (T.2 0, 7, .inl (fun _ => 0)))], [(r_here_80, .inl (T.2 0, 7, .inl (fun _ => 0)))], [(r_was_81, .inl (T.2 0, 7, .inl (fun _ => 0)))], [(r_came_82, .inl (T.2 0, 7, .inl (fun _ => 0)))], [(r_seenAt_83, .inl (T.2 0, 16384, .inl (fun _ => 0)))], [(r_rowWorth_84, .inl (T.2 0, 512, .inl (fun _ => 0)))], [(r_farBy_85, .inl (T.2 0, 49, .inl (fun _ => 0)))], [(r_used_86, .inl (T.2 0, 7, .inl (fun _ => 0)))], [(r_fitPost_87, .inl (T.2 0, 28, .inl (fun _ => 0)))], [(r_fitEnd_88, .inl (T.2 0, 49, .inl (fun _ => 0)))], [(r_keptPosts_89, .inl (T.2 0, 7, .inl (fun _ => 0)))]]) (As := [.int (xs 1), .int (xs 2), .int 1, .int 0]) (rest := [.int (-1)]) C G (c_m_longest l T q_74 r_all_75 r_has_76 r_read_77 r_posts_78 r_shut_79 r_here_80 r_was_81 r_came_82 r_seenAt_83 r_rowWorth_84 r_farBy_85 r_used_86 r_fitPost_87 r_fitEnd_88 r_keptPosts_89 (xs 1) (xs 2) 1 0) (kV_RL_128 C.2.2.2.2 (Nat.le_of_ble_eq_true rfl) (Nat.le_of_ble_eq_true rfl)) [23, 24] [0, 1, 2, 3, 4, 5, 6, 7, 8, 9, 10, 11, 12, 13, 14, 15, 16, 17, 18, 19, 20, 21, 22, 25, 26, 27, 28, 29, 30, 31, 32, 33, 34, 35, 36, 37, 38] rfl rfl (ci := 11) (qc := (RX12, TX12, 43)) rfl rfl (List.mem_flatten.mpr ⟨_, List.mem_of_getElem? (i := 0) rfl, List.mem_cons_self⟩) rfl rfl hl.1 dL_law_1417 (Nat.le_of_ble_eq_true rfl) (Nat.le_of_ble_eq_true rfl) (fun r_628 b1 H locs hw G => ?_)
            obtain ⟨rfl, h_627⟩ := hw
            have G : zS T A s.heap s [[(a1p_13, .inl (T.2 1, 600, .inl f1p_18))], [(a3p_15, .inl (T.2 3, 2, .inr (.inr (.inr (.inr f3p_19)))))], [(a4p_16, .inl (T.2 4, 2, .inr (.inr (.inr (.inr f4p_20)))))], [(a5p_17, .inl (T.2 5, 2, .inr (.inr (.inr (.inr f5p_21)))))], w1p_28, w2p_29, w3p_30, w4p_31, w5p_32, w6p_33, [(ia_3, .inl (T.2 6, 3, .inr (.inr (.inr (.inr fq_34)))))], u0_38, u1_39, u2_40, [(im_4, .inl (T.2 2, 3, .inl (fun _ => 0)))], v_41, z1_42, z2_43, z3_44, w1_45, w2_46, w3_47, [(cd_12, .inl (T.2 0, 1000, .inl (fun _ => 0)))], [(r_has_76, .inl (T.2 2, 3, .inl (fun _ => 0)))], [(r_read_77, .inl (T.2 0, 121, .inl (fun _ => 0)))], [(r_posts_78, .inl (T.2 0, 7, .inl (fun _ => 0)))], [(r_shut_79, .inl (T.2 0, 7, .inl (fun _ => 0)))], [(r_here_80, .inl (T.2 0, 7, .inl (fun _ => 0)))], [(r_was_81, .inl (T.2 0, 7, .inl (fun _ => 0)))], [(r_came_82, .inl (T.2 0, 7, .inl (fun _ => 0)))], [(r_seenAt_83, .inl (T.2 0, 16384, .inl (fun _ => 0)))], [(r_rowWorth_84, .inl (T.2 0, 512, .inl (fun _ => 0)))], [(r_farBy_85, .inl (T.2 0, 49, .inl (fun _ => 0)))], [(r_used_86, .inl (T.2 0, 7, .inl (fun _ => 0)))], [(r_fitPost_87, .inl (T.2 0, 28, .inl (fun _ => 0)))], [(r_fitEnd_88, .inl (T.2 0, 49, .inl (fun _ => 0)))], [(r_keptPosts_89, .inl (T.2 0, 7, .inl (fun _ => 0)))]] _ _ := G
            subst h_627
            refine lv_icmp_eq (tgt := 1767) hx hb dL_law_1420 (by decide) (fun _ => ?_) (fun q => absurd (by decide) q)
            refine lv_iinc (v := 6) (lv' := [(3, .int 6), (2, .ref q_74), (1, .ref q_1), (0, .ref b)]) hx hb dL_law_1767 hl (k := 0) rfl (by decide) (by decide) rfl (fun ls hl => ?_)
            refine lv_goto (tgt := 18) hx hb dL_law_1770 (by decide) ?_
            refine lv_iload_n hx hb dL_law_18 rfl (lv_at hl 0 rfl) ?_
            refine lv_aload_n hx hb dL_law_19 rfl (lv_at hl 3 rfl) ?_
            refine va_slen hx hb hX hbl hbA G.2.2.2.1 dL_law_20 ?_
            refine lv_bipush (v := 6) hx hb dL_law_21 (by decide) ?_
            refine lv_isub hx hb dL_law_23 ?_
            refine lv_topi (fun y_629 ey_629 => ?_)
            obtain rfl : y_629 = 0 := ey_629.trans (by decide)
            refine lv_icmp_gt (tgt := 1773) hx hb dL_law_24 (by decide) (fun _ => ?_) (fun q => absurd (by decide) q)
            refine lv_iconst (v := 1) hx hb dL_law_1773 (by decide) ?_
            refine va_forget (fun q hq => by have h9 := G.2.2.2.1.2.2 q hq; rw [hAe] at h9; exact h9) ?_
            refine W.widen (k := 600000) (n := 7302250) (Nat.le_of_ble_eq_true rfl) (Nat.le_of_ble_eq_true rfl) ?_
            exact lw_ret hx hb hr hlocks dL_law_1774
          · have c_616n : ¬ (xs 4).toInt = (0 : Int) := fun q => c_616 ((fa_eq _ _).mpr q)
            refine lv_iconst (v := 1) hx hb dL_law_1372 (by decide) ?_
            refine lv_goto (tgt := 1377) hx hb dL_law_1373 (by decide) ?_
            refine z_Vi (bc := [[(q_1, .inr (10, [.ref t0_2, .ref ia_3, .ref im_4, .ref rd_5, .ref po_6, .ref co_7, .ref tr_8, .ref wa_9, .ref wb_10, .ref fi_11, .ref cd_12]))], [(t0_2, .inr (8, [.ref a1p_13, .int 0, .int 0, .int (-1), .ref a2p_14, .ref a3p_15, .ref a4p_16, .ref a5p_17]))], [(a2p_14, .inl (T.2 0, 3, .inl (fun _ => 0)))]]) (br := [[(a1p_13, .inl (T.2 1, 600, .inl f1p_18))], [(a3p_15, .inl (T.2 3, 2, .inr (.inr (.inr (.inr f3p_19)))))], [(a4p_16, .inl (T.2 4, 2, .inr (.inr (.inr (.inr f4p_20)))))], [(a5p_17, .inl (T.2 5, 2, .inr (.inr (.inr (.inr f5p_21)))))], w1p_28, w2p_29, w3p_30, w4p_31, w5p_32, w6p_33, [(ia_3, .inl (T.2 6, 3, .inr (.inr (.inr (.inr fq_34)))))], u0_38, u1_39, u2_40, [(im_4, .inl (T.2 2, 3, .inl (fun _ => 0)))], v_41, z1_42, z2_43, z3_44, w1_45, w2_46, w3_47, [(cd_12, .inl (T.2 0, 1000, .inl (fun _ => 0)))], [(q_74, .inr (11, [.ref r_all_75, .ref r_has_76, .int 0, .int 0, .int 0, .int 0, .int 0, .int 0, .int 0, .int 0, .ref r_read_77, .int 0, .int 0, .int 0, .ref r_posts_78, .ref r_shut_79, .ref r_here_80, .int 0, .int 0, .int 0, .int 0, .ref r_was_81, .ref r_came_82, .ref r_seenAt_83, .ref r_rowWorth_84, .ref r_farBy_85, .ref r_used_86, .int 0, .int 0, .int 0, .int 0, .int 0, .int 0, .int 0, .int 0, .int 0, .int 0, .int 0, .int 0, .ref r_fitPost_87, .ref r_fitEnd_88, .ref r_keptPosts_89, .int 0]))], [(r_all_75, .inl (T.2 0, 3952, .inl (upd (fun _ => 0) 6 (-1))))], [(r_has_76, .inl (T.2 2, 3, .inl (fun _ => 0)))], [(r_read_77, .inl (T.2 0, 121, .inl (fun _ => 0)))], [(r_posts_78, .inl (T.2 0, 7, .inl (fun _ => 0)))], [(r_shut_79, .inl (T.2 0, 7, .inl (fun _ => 0)))], [(r_here_80, .inl (T.2 0, 7, .inl (fun _ => 0)))], [(r_was_81, .inl (T.2 0, 7, .inl (fun _ => 0)))], [(r_came_82, .inl (T.2 0, 7, .inl (fun _ => 0)))], [(r_seenAt_83, .inl (T.2 0, 16384, .inl (fun _ => 0)))], [(r_rowWorth_84, .inl (T.2 0, 512, .inl (fun _ => 0)))], [(r_farBy_85, .inl (T.2 0, 49, .inl (fun _ => 0)))], [(r_used_86, .inl (T.2 0, 7, .inl (fun _ => 0)))], [(r_fitPost_87, .inl (T.2 0, 28, .inl (fun _ => 0)))], [(r_fitEnd_88, .inl (T.2 0, 49, .inl (fun _ => 0)))], [(r_keptPosts_89, .inl (T.2 0, 7, .inl (fun _ => 0)))]]) (As := [.int (xs 1), .int (xs 2), .int 1, .int 1]) (rest := []) C G (c_x_longest l T q_1 t0_2 ia_3 im_4 rd_5 po_6 co_7 tr_8 wa_9 wb_10 fi_11 cd_12 a1p_13 a2p_14 a3p_15 a4p_16 a5p_17 (xs 1) (xs 2) 1 1) (kV_RL_124 C.2.2.2.2 (Nat.le_of_ble_eq_true rfl) (Nat.le_of_ble_eq_true rfl)) [0, 1, 3] [2, 4, 5, 6, 7, 8, 9, 10, 11, 12, 13, 14, 15, 16, 17, 18, 19, 20, 21, 22, 23, 24, 25, 26, 27, 28, 29, 30, 31, 32, 33, 34, 35, 36, 37, 38, 39, 40, 41] rfl rfl (ci := 10) (qc := (RX11, TX11, 11)) rfl rfl (List.mem_flatten.mpr ⟨_, List.mem_of_getElem? (i := 0) rfl, List.mem_cons_self⟩) rfl rfl hl.1 dL_law_1377 (Nat.le_of_ble_eq_true rfl) (Nat.le_of_ble_eq_true rfl) (fun r_631 b1 H locs hw G => ?_)
            obtain ⟨rfl, h_630⟩ := hw
            have G : zS T A s.heap s [[(a1p_13, .inl (T.2 1, 600, .inl f1p_18))], [(a3p_15, .inl (T.2 3, 2, .inr (.inr (.inr (.inr f3p_19)))))], [(a4p_16, .inl (T.2 4, 2, .inr (.inr (.inr (.inr f4p_20)))))], [(a5p_17, .inl (T.2 5, 2, .inr (.inr (.inr (.inr f5p_21)))))], w1p_28, w2p_29, w3p_30, w4p_31, w5p_32, w6p_33, [(ia_3, .inl (T.2 6, 3, .inr (.inr (.inr (.inr fq_34)))))], u0_38, u1_39, u2_40, [(im_4, .inl (T.2 2, 3, .inl (fun _ => 0)))], v_41, z1_42, z2_43, z3_44, w1_45, w2_46, w3_47, [(cd_12, .inl (T.2 0, 1000, .inl (fun _ => 0)))], [(q_74, .inr (11, [.ref r_all_75, .ref r_has_76, .int 0, .int 0, .int 0, .int 0, .int 0, .int 0, .int 0, .int 0, .ref r_read_77, .int 0, .int 0, .int 0, .ref r_posts_78, .ref r_shut_79, .ref r_here_80, .int 0, .int 0, .int 0, .int 0, .ref r_was_81, .ref r_came_82, .ref r_seenAt_83, .ref r_rowWorth_84, .ref r_farBy_85, .ref r_used_86, .int 0, .int 0, .int 0, .int 0, .int 0, .int 0, .int 0, .int 0, .int 0, .int 0, .int 0, .int 0, .ref r_fitPost_87, .ref r_fitEnd_88, .ref r_keptPosts_89, .int 0]))], [(r_all_75, .inl (T.2 0, 3952, .inl (upd (fun _ => 0) 6 (-1))))], [(r_has_76, .inl (T.2 2, 3, .inl (fun _ => 0)))], [(r_read_77, .inl (T.2 0, 121, .inl (fun _ => 0)))], [(r_posts_78, .inl (T.2 0, 7, .inl (fun _ => 0)))], [(r_shut_79, .inl (T.2 0, 7, .inl (fun _ => 0)))], [(r_here_80, .inl (T.2 0, 7, .inl (fun _ => 0)))], [(r_was_81, .inl (T.2 0, 7, .inl (fun _ => 0)))], [(r_came_82, .inl (T.2 0, 7, .inl (fun _ => 0)))], [(r_seenAt_83, .inl (T.2 0, 16384, .inl (fun _ => 0)))], [(r_rowWorth_84, .inl (T.2 0, 512, .inl (fun _ => 0)))], [(r_farBy_85, .inl (T.2 0, 49, .inl (fun _ => 0)))], [(r_used_86, .inl (T.2 0, 7, .inl (fun _ => 0)))], [(r_fitPost_87, .inl (T.2 0, 28, .inl (fun _ => 0)))], [(r_fitEnd_88, .inl (T.2 0, 49, .inl (fun _ => 0)))], [(r_keptPosts_89, .inl (T.2 0, 7, .inl (fun _ => 0)))]] _ _ := G
            subst h_630
            refine lv_aload_n hx hb dL_law_1380 rfl (lv_at hl 1 rfl) ?_
            refine lv_aload_n hx hb dL_law_1381 rfl (lv_at hl 3 rfl) ?_
            refine lv_iload_n hx hb dL_law_1382 rfl (lv_at hl 0 rfl) ?_
            refine lv_iconst (v := 1) hx hb dL_law_1383 (by decide) ?_
            refine lv_iadd hx hb dL_law_1384 ?_
            refine lv_topi (fun y_632 ey_632 => ?_)
            obtain rfl : y_632 = 1 := ey_632.trans (by decide)
            refine va_sld hx hb hX hbl hbA G.2.2.2.1 (vp_in_nI (n := 1) (by decide) (by decide)) dL_law_1385 ?_
            refine lv_topi (fun v_633 ev_633 => ?_)
            have ev_633 : v_633 = xs 1 := ev_633
            subst ev_633
            refine lv_aload_n hx hb dL_law_1386 rfl (lv_at hl 3 rfl) ?_
            refine lv_iload_n hx hb dL_law_1387 rfl (lv_at hl 0 rfl) ?_
            refine lv_iconst (v := 2) hx hb dL_law_1388 (by decide) ?_
            refine lv_iadd hx hb dL_law_1389 ?_
            refine lv_topi (fun y_634 ey_634 => ?_)
            obtain rfl : y_634 = 2 := ey_634.trans (by decide)
            refine va_sld hx hb hX hbl hbA G.2.2.2.1 (vp_in_nI (n := 2) (by decide) (by decide)) dL_law_1390 ?_
            refine lv_topi (fun v_635 ev_635 => ?_)
            have ev_635 : v_635 = xs 2 := ev_635
            subst ev_635
            refine lv_aload_n hx hb dL_law_1391 rfl (lv_at hl 3 rfl) ?_
            refine lv_iload_n hx hb dL_law_1392 rfl (lv_at hl 0 rfl) ?_
            refine lv_iconst (v := 3) hx hb dL_law_1393 (by decide) ?_
            refine lv_iadd hx hb dL_law_1394 ?_
            refine lv_topi (fun y_636 ey_636 => ?_)
            obtain rfl : y_636 = 3 := ey_636.trans (by decide)
            refine va_sld hx hb hX hbl hbA G.2.2.2.1 (vp_in_nI (n := 3) (by decide) (by decide)) dL_law_1395 ?_
            refine lv_topi (fun v_637 ev_637 => ?_)
            have ev_637 : v_637 = xs 3 := ev_637
            subst ev_637
            refine lv_if_eq (tgt := 1403) hx hb dL_law_1396 (by decide) (fun q => absurd q c_584) (fun _ => ?_)
            refine lv_iconst (v := 1) hx hb dL_law_1399 (by decide) ?_
            refine lv_goto (tgt := 1404) hx hb dL_law_1400 (by decide) ?_
            refine lv_aload_n hx hb dL_law_1404 rfl (lv_at hl 3 rfl) ?_
            refine lv_iload_n hx hb dL_law_1405 rfl (lv_at hl 0 rfl) ?_
            refine lv_iconst (v := 4) hx hb dL_law_1406 (by decide) ?_
            refine lv_iadd hx hb dL_law_1407 ?_
            refine lv_topi (fun y_638 ey_638 => ?_)
            obtain rfl : y_638 = 4 := ey_638.trans (by decide)
            refine va_sld hx hb hX hbl hbA G.2.2.2.1 (vp_in_nI (n := 4) (by decide) (by decide)) dL_law_1408 ?_
            refine lv_topi (fun v_639 ev_639 => ?_)
            have ev_639 : v_639 = xs 4 := ev_639
            subst ev_639
            refine lv_if_eq (tgt := 1416) hx hb dL_law_1409 (by decide) (fun q => absurd q c_616) (fun _ => ?_)
            refine lv_iconst (v := 1) hx hb dL_law_1412 (by decide) ?_
            refine lv_goto (tgt := 1417) hx hb dL_law_1413 (by decide) ?_
            refine z_Vi (bc := [[(q_74, .inr (11, [.ref r_all_75, .ref r_has_76, .int 0, .int 0, .int 0, .int 0, .int 0, .int 0, .int 0, .int 0, .ref r_read_77, .int 0, .int 0, .int 0, .ref r_posts_78, .ref r_shut_79, .ref r_here_80, .int 0, .int 0, .int 0, .int 0, .ref r_was_81, .ref r_came_82, .ref r_seenAt_83, .ref r_rowWorth_84, .ref r_farBy_85, .ref r_used_86, .int 0, .int 0, .int 0, .int 0, .int 0, .int 0, .int 0, .int 0, .int 0, .int 0, .int 0, .int 0, .ref r_fitPost_87, .ref r_fitEnd_88, .ref r_keptPosts_89, .int 0]))], [(r_all_75, .inl (T.2 0, 3952, .inl (upd (fun _ => 0) 6 (-1))))]]) (br := [[(a1p_13, .inl (T.2 1, 600, .inl f1p_18))], [(a3p_15, .inl (T.2 3, 2, .inr (.inr (.inr (.inr f3p_19)))))], [(a4p_16, .inl (T.2 4, 2, .inr (.inr (.inr (.inr f4p_20)))))], [(a5p_17, .inl (T.2 5, 2, .inr (.inr (.inr (.inr f5p_21)))))], w1p_28, w2p_29, w3p_30, w4p_31, w5p_32, w6p_33, [(ia_3, .inl (T.2 6, 3, .inr (.inr (.inr (.inr fq_34)))))], u0_38, u1_39, u2_40, [(im_4, .inl (T.2 2, 3, .inl (fun _ => 0)))], v_41, z1_42, z2_43, z3_44, w1_45, w2_46, w3_47, [(cd_12, .inl (T.2 0, 1000, .inl (fun _ => 0)))], [(r_has_76, .inl (T.2 2, 3, .inl (fun _ => 0)))], [(r_read_77, .inl (T.2 0, 121, .inl (fun _ => 0)))], [(r_posts_78, .inl (T.2 0, 7, .inl (fun _ => 0)))], [(r_shut_79, .inl (T.2 0, 7, .inl (fun _ => 0)))], [(r_here_80, .inl (T.2 0, 7, .inl (fun _ => 0)))], [(r_was_81, .inl (T.2 0, 7, .inl (fun _ => 0)))], [(r_came_82, .inl (T.2 0, 7, .inl (fun _ => 0)))], [(r_seenAt_83, .inl (T.2 0, 16384, .inl (fun _ => 0)))], [(r_rowWorth_84, .inl (T.2 0, 512, .inl (fun _ => 0)))], [(r_farBy_85, .inl (T.2 0, 49, .inl (fun _ => 0)))], [(r_used_86, .inl (T.2 0, 7, .inl (fun _ => 0)))], [(r_fitPost_87, .inl (T.2 0, 28, .inl (fun _ => 0)))], [(r_fitEnd_88, .inl (T.2 0, 49, .inl (fun _ => 0)))], [(r_keptPosts_89, .inl (T.2 0, 7, .inl (fun _ => 0)))]]) (As := [.int (xs 1), .int (xs 2), .int 1, .int 1]) (rest := [.int (-1)]) C G (c_m_longest l T q_74 r_all_75 r_has_76 r_read_77 r_posts_78 r_shut_79 r_here_80 r_was_81 r_came_82 r_seenAt_83 r_rowWorth_84 r_farBy_85 r_used_86 r_fitPost_87 r_fitEnd_88 r_keptPosts_89 (xs 1) (xs 2) 1 1) (kV_RL_128 C.2.2.2.2 (Nat.le_of_ble_eq_true rfl) (Nat.le_of_ble_eq_true rfl)) [23, 24] [0, 1, 2, 3, 4, 5, 6, 7, 8, 9, 10, 11, 12, 13, 14, 15, 16, 17, 18, 19, 20, 21, 22, 25, 26, 27, 28, 29, 30, 31, 32, 33, 34, 35, 36, 37, 38] rfl rfl (ci := 11) (qc := (RX12, TX12, 43)) rfl rfl (List.mem_flatten.mpr ⟨_, List.mem_of_getElem? (i := 0) rfl, List.mem_cons_self⟩) rfl rfl hl.1 dL_law_1417 (Nat.le_of_ble_eq_true rfl) (Nat.le_of_ble_eq_true rfl) (fun r_641 b1 H locs hw G => ?_)
            obtain ⟨rfl, h_640⟩ := hw
            have G : zS T A s.heap s [[(a1p_13, .inl (T.2 1, 600, .inl f1p_18))], [(a3p_15, .inl (T.2 3, 2, .inr (.inr (.inr (.inr f3p_19)))))], [(a4p_16, .inl (T.2 4, 2, .inr (.inr (.inr (.inr f4p_20)))))], [(a5p_17, .inl (T.2 5, 2, .inr (.inr (.inr (.inr f5p_21)))))], w1p_28, w2p_29, w3p_30, w4p_31, w5p_32, w6p_33, [(ia_3, .inl (T.2 6, 3, .inr (.inr (.inr (.inr fq_34)))))], u0_38, u1_39, u2_40, [(im_4, .inl (T.2 2, 3, .inl (fun _ => 0)))], v_41, z1_42, z2_43, z3_44, w1_45, w2_46, w3_47, [(cd_12, .inl (T.2 0, 1000, .inl (fun _ => 0)))], [(r_has_76, .inl (T.2 2, 3, .inl (fun _ => 0)))], [(r_read_77, .inl (T.2 0, 121, .inl (fun _ => 0)))], [(r_posts_78, .inl (T.2 0, 7, .inl (fun _ => 0)))], [(r_shut_79, .inl (T.2 0, 7, .inl (fun _ => 0)))], [(r_here_80, .inl (T.2 0, 7, .inl (fun _ => 0)))], [(r_was_81, .inl (T.2 0, 7, .inl (fun _ => 0)))], [(r_came_82, .inl (T.2 0, 7, .inl (fun _ => 0)))], [(r_seenAt_83, .inl (T.2 0, 16384, .inl (fun _ => 0)))], [(r_rowWorth_84, .inl (T.2 0, 512, .inl (fun _ => 0)))], [(r_farBy_85, .inl (T.2 0, 49, .inl (fun _ => 0)))], [(r_used_86, .inl (T.2 0, 7, .inl (fun _ => 0)))], [(r_fitPost_87, .inl (T.2 0, 28, .inl (fun _ => 0)))], [(r_fitEnd_88, .inl (T.2 0, 49, .inl (fun _ => 0)))], [(r_keptPosts_89, .inl (T.2 0, 7, .inl (fun _ => 0)))]] _ _ := G
            subst h_640
            refine lv_icmp_eq (tgt := 1767) hx hb dL_law_1420 (by decide) (fun _ => ?_) (fun q => absurd (by decide) q)
            refine lv_iinc (v := 6) (lv' := [(3, .int 6), (2, .ref q_74), (1, .ref q_1), (0, .ref b)]) hx hb dL_law_1767 hl (k := 0) rfl (by decide) (by decide) rfl (fun ls hl => ?_)
            refine lv_goto (tgt := 18) hx hb dL_law_1770 (by decide) ?_
            refine lv_iload_n hx hb dL_law_18 rfl (lv_at hl 0 rfl) ?_
            refine lv_aload_n hx hb dL_law_19 rfl (lv_at hl 3 rfl) ?_
            refine va_slen hx hb hX hbl hbA G.2.2.2.1 dL_law_20 ?_
            refine lv_bipush (v := 6) hx hb dL_law_21 (by decide) ?_
            refine lv_isub hx hb dL_law_23 ?_
            refine lv_topi (fun y_642 ey_642 => ?_)
            obtain rfl : y_642 = 0 := ey_642.trans (by decide)
            refine lv_icmp_gt (tgt := 1773) hx hb dL_law_24 (by decide) (fun _ => ?_) (fun q => absurd (by decide) q)
            refine lv_iconst (v := 1) hx hb dL_law_1773 (by decide) ?_
            refine va_forget (fun q hq => by have h9 := G.2.2.2.1.2.2 q hq; rw [hAe] at h9; exact h9) ?_
            refine W.widen (k := 600000) (n := 7302250) (Nat.le_of_ble_eq_true rfl) (Nat.le_of_ble_eq_true rfl) ?_
            exact lw_ret hx hb hr hlocks dL_law_1774
      · refine lv_tableIn (tgt := 1425) hx hb dL_law_33 (by omega) (by omega) (by rw [c_94]; rfl) (by decide) ?_
        refine lv_aload_n hx hb dL_law_1425 rfl (lv_at hl 2 rfl) ?_
        refine lv_aload_n hx hb dL_law_1426 rfl (lv_at hl 3 rfl) ?_
        refine lv_iload_n hx hb dL_law_1427 rfl (lv_at hl 0 rfl) ?_
        refine lv_iconst (v := 1) hx hb dL_law_1428 (by decide) ?_
        refine lv_iadd hx hb dL_law_1429 ?_
        refine lv_topi (fun y_643 ey_643 => ?_)
        obtain rfl : y_643 = 1 := ey_643.trans (by decide)
        refine va_sld hx hb hX hbl hbA G.2.2.2.1 (vp_in_nI (n := 1) (by decide) (by decide)) dL_law_1430 ?_
        refine lv_topi (fun v_644 ev_644 => ?_)
        have ev_644 : v_644 = xs 1 := ev_644
        subst ev_644
        refine lv_aload_n hx hb dL_law_1431 rfl (lv_at hl 3 rfl) ?_
        refine lv_iload_n hx hb dL_law_1432 rfl (lv_at hl 0 rfl) ?_
        refine lv_iconst (v := 2) hx hb dL_law_1433 (by decide) ?_
        refine lv_iadd hx hb dL_law_1434 ?_
        refine lv_topi (fun y_645 ey_645 => ?_)
        obtain rfl : y_645 = 2 := ey_645.trans (by decide)
        refine va_sld hx hb hX hbl hbA G.2.2.2.1 (vp_in_nI (n := 2) (by decide) (by decide)) dL_law_1435 ?_
        refine lv_topi (fun v_646 ev_646 => ?_)
        have ev_646 : v_646 = xs 2 := ev_646
        subst ev_646
        refine z_Vi (bc := [[(q_1, .inr (10, [.ref t0_2, .ref ia_3, .ref im_4, .ref rd_5, .ref po_6, .ref co_7, .ref tr_8, .ref wa_9, .ref wb_10, .ref fi_11, .ref cd_12]))], [(t0_2, .inr (8, [.ref a1p_13, .int 0, .int 0, .int (-1), .ref a2p_14, .ref a3p_15, .ref a4p_16, .ref a5p_17]))], [(a2p_14, .inl (T.2 0, 3, .inl (fun _ => 0)))]]) (br := [[(a1p_13, .inl (T.2 1, 600, .inl f1p_18))], [(a3p_15, .inl (T.2 3, 2, .inr (.inr (.inr (.inr f3p_19)))))], [(a4p_16, .inl (T.2 4, 2, .inr (.inr (.inr (.inr f4p_20)))))], [(a5p_17, .inl (T.2 5, 2, .inr (.inr (.inr (.inr f5p_21)))))], w1p_28, w2p_29, w3p_30, w4p_31, w5p_32, w6p_33, [(ia_3, .inl (T.2 6, 3, .inr (.inr (.inr (.inr fq_34)))))], u0_38, u1_39, u2_40, [(im_4, .inl (T.2 2, 3, .inl (fun _ => 0)))], v_41, z1_42, z2_43, z3_44, w1_45, w2_46, w3_47, [(cd_12, .inl (T.2 0, 1000, .inl (fun _ => 0)))], [(q_74, .inr (11, [.ref r_all_75, .ref r_has_76, .int 0, .int 0, .int 0, .int 0, .int 0, .int 0, .int 0, .int 0, .ref r_read_77, .int 0, .int 0, .int 0, .ref r_posts_78, .ref r_shut_79, .ref r_here_80, .int 0, .int 0, .int 0, .int 0, .ref r_was_81, .ref r_came_82, .ref r_seenAt_83, .ref r_rowWorth_84, .ref r_farBy_85, .ref r_used_86, .int 0, .int 0, .int 0, .int 0, .int 0, .int 0, .int 0, .int 0, .int 0, .int 0, .int 0, .int 0, .ref r_fitPost_87, .ref r_fitEnd_88, .ref r_keptPosts_89, .int 0]))], [(r_all_75, .inl (T.2 0, 3952, .inl (upd (fun _ => 0) 6 (-1))))], [(r_has_76, .inl (T.2 2, 3, .inl (fun _ => 0)))], [(r_read_77, .inl (T.2 0, 121, .inl (fun _ => 0)))], [(r_posts_78, .inl (T.2 0, 7, .inl (fun _ => 0)))], [(r_shut_79, .inl (T.2 0, 7, .inl (fun _ => 0)))], [(r_here_80, .inl (T.2 0, 7, .inl (fun _ => 0)))], [(r_was_81, .inl (T.2 0, 7, .inl (fun _ => 0)))], [(r_came_82, .inl (T.2 0, 7, .inl (fun _ => 0)))], [(r_seenAt_83, .inl (T.2 0, 16384, .inl (fun _ => 0)))], [(r_rowWorth_84, .inl (T.2 0, 512, .inl (fun _ => 0)))], [(r_farBy_85, .inl (T.2 0, 49, .inl (fun _ => 0)))], [(r_used_86, .inl (T.2 0, 7, .inl (fun _ => 0)))], [(r_fitPost_87, .inl (T.2 0, 28, .inl (fun _ => 0)))], [(r_fitEnd_88, .inl (T.2 0, 49, .inl (fun _ => 0)))], [(r_keptPosts_89, .inl (T.2 0, 7, .inl (fun _ => 0)))]]) (As := [.int (xs 1), .int (xs 2)]) (rest := []) C G (c_x_back l T q_1 t0_2 ia_3 im_4 rd_5 po_6 co_7 tr_8 wa_9 wb_10 fi_11 cd_12 a1p_13 a2p_14 a3p_15 a4p_16 a5p_17 (xs 1) (xs 2)) (kV_RL_129 C.2.2.2.2 (Nat.le_of_ble_eq_true rfl) (Nat.le_of_ble_eq_true rfl)) [0, 1, 3] [2, 4, 5, 6, 7, 8, 9, 10, 11, 12, 13, 14, 15, 16, 17, 18, 19, 20, 21, 22, 23, 24, 25, 26, 27, 28, 29, 30, 31, 32, 33, 34, 35, 36, 37, 38, 39, 40, 41] rfl rfl (ci := 10) (qc := (RX11, TX11, 11)) rfl rfl (List.mem_flatten.mpr ⟨_, List.mem_of_getElem? (i := 0) rfl, List.mem_cons_self⟩) rfl rfl hl.1 dL_law_1436 (Nat.le_of_ble_eq_true rfl) (Nat.le_of_ble_eq_true rfl) (fun r_648 b1 H locs hw G => ?_)
        obtain ⟨rfl, h_647⟩ := hw
        have G : zS T A s.heap s [[(a1p_13, .inl (T.2 1, 600, .inl f1p_18))], [(a3p_15, .inl (T.2 3, 2, .inr (.inr (.inr (.inr f3p_19)))))], [(a4p_16, .inl (T.2 4, 2, .inr (.inr (.inr (.inr f4p_20)))))], [(a5p_17, .inl (T.2 5, 2, .inr (.inr (.inr (.inr f5p_21)))))], w1p_28, w2p_29, w3p_30, w4p_31, w5p_32, w6p_33, [(ia_3, .inl (T.2 6, 3, .inr (.inr (.inr (.inr fq_34)))))], u0_38, u1_39, u2_40, [(im_4, .inl (T.2 2, 3, .inl (fun _ => 0)))], v_41, z1_42, z2_43, z3_44, w1_45, w2_46, w3_47, [(cd_12, .inl (T.2 0, 1000, .inl (fun _ => 0)))], [(q_74, .inr (11, [.ref r_all_75, .ref r_has_76, .int 0, .int 0, .int 0, .int 0, .int 0, .int 0, .int 0, .int 0, .ref r_read_77, .int 0, .int 0, .int 0, .ref r_posts_78, .ref r_shut_79, .ref r_here_80, .int 0, .int 0, .int 0, .int 0, .ref r_was_81, .ref r_came_82, .ref r_seenAt_83, .ref r_rowWorth_84, .ref r_farBy_85, .ref r_used_86, .int 0, .int 0, .int 0, .int 0, .int 0, .int 0, .int 0, .int 0, .int 0, .int 0, .int 0, .int 0, .ref r_fitPost_87, .ref r_fitEnd_88, .ref r_keptPosts_89, .int 0]))], [(r_all_75, .inl (T.2 0, 3952, .inl (upd (fun _ => 0) 6 (-1))))], [(r_has_76, .inl (T.2 2, 3, .inl (fun _ => 0)))], [(r_read_77, .inl (T.2 0, 121, .inl (fun _ => 0)))], [(r_posts_78, .inl (T.2 0, 7, .inl (fun _ => 0)))], [(r_shut_79, .inl (T.2 0, 7, .inl (fun _ => 0)))], [(r_here_80, .inl (T.2 0, 7, .inl (fun _ => 0)))], [(r_was_81, .inl (T.2 0, 7, .inl (fun _ => 0)))], [(r_came_82, .inl (T.2 0, 7, .inl (fun _ => 0)))], [(r_seenAt_83, .inl (T.2 0, 16384, .inl (fun _ => 0)))], [(r_rowWorth_84, .inl (T.2 0, 512, .inl (fun _ => 0)))], [(r_farBy_85, .inl (T.2 0, 49, .inl (fun _ => 0)))], [(r_used_86, .inl (T.2 0, 7, .inl (fun _ => 0)))], [(r_fitPost_87, .inl (T.2 0, 28, .inl (fun _ => 0)))], [(r_fitEnd_88, .inl (T.2 0, 49, .inl (fun _ => 0)))], [(r_keptPosts_89, .inl (T.2 0, 7, .inl (fun _ => 0)))]] _ _ := G
        subst h_647
        refine lv_aload_n hx hb dL_law_1439 rfl (lv_at hl 1 rfl) ?_
        refine lv_aload_n hx hb dL_law_1440 rfl (lv_at hl 3 rfl) ?_
        refine lv_iload_n hx hb dL_law_1441 rfl (lv_at hl 0 rfl) ?_
        refine lv_iconst (v := 1) hx hb dL_law_1442 (by decide) ?_
        refine lv_iadd hx hb dL_law_1443 ?_
        refine lv_topi (fun y_649 ey_649 => ?_)
        obtain rfl : y_649 = 1 := ey_649.trans (by decide)
        refine va_sld hx hb hX hbl hbA G.2.2.2.1 (vp_in_nI (n := 1) (by decide) (by decide)) dL_law_1444 ?_
        refine lv_topi (fun v_650 ev_650 => ?_)
        have ev_650 : v_650 = xs 1 := ev_650
        subst ev_650
        refine lv_aload_n hx hb dL_law_1445 rfl (lv_at hl 3 rfl) ?_
        refine lv_iload_n hx hb dL_law_1446 rfl (lv_at hl 0 rfl) ?_
        refine lv_iconst (v := 2) hx hb dL_law_1447 (by decide) ?_
        refine lv_iadd hx hb dL_law_1448 ?_
        refine lv_topi (fun y_651 ey_651 => ?_)
        obtain rfl : y_651 = 2 := ey_651.trans (by decide)
        refine va_sld hx hb hX hbl hbA G.2.2.2.1 (vp_in_nI (n := 2) (by decide) (by decide)) dL_law_1449 ?_
        refine lv_topi (fun v_652 ev_652 => ?_)
        have ev_652 : v_652 = xs 2 := ev_652
        subst ev_652
        refine z_Vi (bc := [[(q_74, .inr (11, [.ref r_all_75, .ref r_has_76, .int 0, .int 0, .int 0, .int 0, .int 0, .int 0, .int 0, .int 0, .ref r_read_77, .int 0, .int 0, .int 0, .ref r_posts_78, .ref r_shut_79, .ref r_here_80, .int 0, .int 0, .int 0, .int 0, .ref r_was_81, .ref r_came_82, .ref r_seenAt_83, .ref r_rowWorth_84, .ref r_farBy_85, .ref r_used_86, .int 0, .int 0, .int 0, .int 0, .int 0, .int 0, .int 0, .int 0, .int 0, .int 0, .int 0, .int 0, .ref r_fitPost_87, .ref r_fitEnd_88, .ref r_keptPosts_89, .int 0]))], [(r_all_75, .inl (T.2 0, 3952, .inl (upd (fun _ => 0) 6 (-1))))]]) (br := [[(a1p_13, .inl (T.2 1, 600, .inl f1p_18))], [(a3p_15, .inl (T.2 3, 2, .inr (.inr (.inr (.inr f3p_19)))))], [(a4p_16, .inl (T.2 4, 2, .inr (.inr (.inr (.inr f4p_20)))))], [(a5p_17, .inl (T.2 5, 2, .inr (.inr (.inr (.inr f5p_21)))))], w1p_28, w2p_29, w3p_30, w4p_31, w5p_32, w6p_33, [(ia_3, .inl (T.2 6, 3, .inr (.inr (.inr (.inr fq_34)))))], u0_38, u1_39, u2_40, [(im_4, .inl (T.2 2, 3, .inl (fun _ => 0)))], v_41, z1_42, z2_43, z3_44, w1_45, w2_46, w3_47, [(cd_12, .inl (T.2 0, 1000, .inl (fun _ => 0)))], [(r_has_76, .inl (T.2 2, 3, .inl (fun _ => 0)))], [(r_read_77, .inl (T.2 0, 121, .inl (fun _ => 0)))], [(r_posts_78, .inl (T.2 0, 7, .inl (fun _ => 0)))], [(r_shut_79, .inl (T.2 0, 7, .inl (fun _ => 0)))], [(r_here_80, .inl (T.2 0, 7, .inl (fun _ => 0)))], [(r_was_81, .inl (T.2 0, 7, .inl (fun _ => 0)))], [(r_came_82, .inl (T.2 0, 7, .inl (fun _ => 0)))], [(r_seenAt_83, .inl (T.2 0, 16384, .inl (fun _ => 0)))], [(r_rowWorth_84, .inl (T.2 0, 512, .inl (fun _ => 0)))], [(r_farBy_85, .inl (T.2 0, 49, .inl (fun _ => 0)))], [(r_used_86, .inl (T.2 0, 7, .inl (fun _ => 0)))], [(r_fitPost_87, .inl (T.2 0, 28, .inl (fun _ => 0)))], [(r_fitEnd_88, .inl (T.2 0, 49, .inl (fun _ => 0)))], [(r_keptPosts_89, .inl (T.2 0, 7, .inl (fun _ => 0)))]]) (As := [.int (xs 1), .int (xs 2)]) (rest := [.int (-1)]) C G (c_m_back l T q_74 r_all_75 r_has_76 r_read_77 r_posts_78 r_shut_79 r_here_80 r_was_81 r_came_82 r_seenAt_83 r_rowWorth_84 r_farBy_85 r_used_86 r_fitPost_87 r_fitEnd_88 r_keptPosts_89 (xs 1) (xs 2)) (kV_RL_132 C.2.2.2.2 (Nat.le_of_ble_eq_true rfl) (Nat.le_of_ble_eq_true rfl)) [23, 24] [0, 1, 2, 3, 4, 5, 6, 7, 8, 9, 10, 11, 12, 13, 14, 15, 16, 17, 18, 19, 20, 21, 22, 25, 26, 27, 28, 29, 30, 31, 32, 33, 34, 35, 36, 37, 38] rfl rfl (ci := 11) (qc := (RX12, TX12, 43)) rfl rfl (List.mem_flatten.mpr ⟨_, List.mem_of_getElem? (i := 0) rfl, List.mem_cons_self⟩) rfl rfl hl.1 dL_law_1450 (Nat.le_of_ble_eq_true rfl) (Nat.le_of_ble_eq_true rfl) (fun r_654 b1 H locs hw G => ?_)
        obtain ⟨rfl, h_653⟩ := hw
        have G : zS T A s.heap s [[(a1p_13, .inl (T.2 1, 600, .inl f1p_18))], [(a3p_15, .inl (T.2 3, 2, .inr (.inr (.inr (.inr f3p_19)))))], [(a4p_16, .inl (T.2 4, 2, .inr (.inr (.inr (.inr f4p_20)))))], [(a5p_17, .inl (T.2 5, 2, .inr (.inr (.inr (.inr f5p_21)))))], w1p_28, w2p_29, w3p_30, w4p_31, w5p_32, w6p_33, [(ia_3, .inl (T.2 6, 3, .inr (.inr (.inr (.inr fq_34)))))], u0_38, u1_39, u2_40, [(im_4, .inl (T.2 2, 3, .inl (fun _ => 0)))], v_41, z1_42, z2_43, z3_44, w1_45, w2_46, w3_47, [(cd_12, .inl (T.2 0, 1000, .inl (fun _ => 0)))], [(r_has_76, .inl (T.2 2, 3, .inl (fun _ => 0)))], [(r_read_77, .inl (T.2 0, 121, .inl (fun _ => 0)))], [(r_posts_78, .inl (T.2 0, 7, .inl (fun _ => 0)))], [(r_shut_79, .inl (T.2 0, 7, .inl (fun _ => 0)))], [(r_here_80, .inl (T.2 0, 7, .inl (fun _ => 0)))], [(r_was_81, .inl (T.2 0, 7, .inl (fun _ => 0)))], [(r_came_82, .inl (T.2 0, 7, .inl (fun _ => 0)))], [(r_seenAt_83, .inl (T.2 0, 16384, .inl (fun _ => 0)))], [(r_rowWorth_84, .inl (T.2 0, 512, .inl (fun _ => 0)))], [(r_farBy_85, .inl (T.2 0, 49, .inl (fun _ => 0)))], [(r_used_86, .inl (T.2 0, 7, .inl (fun _ => 0)))], [(r_fitPost_87, .inl (T.2 0, 28, .inl (fun _ => 0)))], [(r_fitEnd_88, .inl (T.2 0, 49, .inl (fun _ => 0)))], [(r_keptPosts_89, .inl (T.2 0, 7, .inl (fun _ => 0)))]] _ _ := G
        subst h_653
        refine lv_icmp_eq (tgt := 1767) hx hb dL_law_1453 (by decide) (fun _ => ?_) (fun q => absurd (by decide) q)
        refine lv_iinc (v := 6) (lv' := [(3, .int 6), (2, .ref q_74), (1, .ref q_1), (0, .ref b)]) hx hb dL_law_1767 hl (k := 0) rfl (by decide) (by decide) rfl (fun ls hl => ?_)
        refine lv_goto (tgt := 18) hx hb dL_law_1770 (by decide) ?_
        refine lv_iload_n hx hb dL_law_18 rfl (lv_at hl 0 rfl) ?_
        refine lv_aload_n hx hb dL_law_19 rfl (lv_at hl 3 rfl) ?_
        refine va_slen hx hb hX hbl hbA G.2.2.2.1 dL_law_20 ?_
        refine lv_bipush (v := 6) hx hb dL_law_21 (by decide) ?_
        refine lv_isub hx hb dL_law_23 ?_
        refine lv_topi (fun y_655 ey_655 => ?_)
        obtain rfl : y_655 = 0 := ey_655.trans (by decide)
        refine lv_icmp_gt (tgt := 1773) hx hb dL_law_24 (by decide) (fun _ => ?_) (fun q => absurd (by decide) q)
        refine lv_iconst (v := 1) hx hb dL_law_1773 (by decide) ?_
        refine va_forget (fun q hq => by have h9 := G.2.2.2.1.2.2 q hq; rw [hAe] at h9; exact h9) ?_
        refine W.widen (k := 600000) (n := 7302250) (Nat.le_of_ble_eq_true rfl) (Nat.le_of_ble_eq_true rfl) ?_
        exact lw_ret hx hb hr hlocks dL_law_1774
      · refine lv_tableIn (tgt := 1458) hx hb dL_law_33 (by omega) (by omega) (by rw [c_94]; rfl) (by decide) ?_
        refine lv_aload_n hx hb dL_law_1458 rfl (lv_at hl 2 rfl) ?_
        refine lv_aload_n hx hb dL_law_1459 rfl (lv_at hl 3 rfl) ?_
        refine lv_iload_n hx hb dL_law_1460 rfl (lv_at hl 0 rfl) ?_
        refine lv_iconst (v := 1) hx hb dL_law_1461 (by decide) ?_
        refine lv_iadd hx hb dL_law_1462 ?_
        refine lv_topi (fun y_656 ey_656 => ?_)
        obtain rfl : y_656 = 1 := ey_656.trans (by decide)
        refine va_sld hx hb hX hbl hbA G.2.2.2.1 (vp_in_nI (n := 1) (by decide) (by decide)) dL_law_1463 ?_
        refine lv_topi (fun v_657 ev_657 => ?_)
        have ev_657 : v_657 = xs 1 := ev_657
        subst ev_657
        refine lv_aload_n hx hb dL_law_1464 rfl (lv_at hl 3 rfl) ?_
        refine lv_iload_n hx hb dL_law_1465 rfl (lv_at hl 0 rfl) ?_
        refine lv_iconst (v := 2) hx hb dL_law_1466 (by decide) ?_
        refine lv_iadd hx hb dL_law_1467 ?_
        refine lv_topi (fun y_658 ey_658 => ?_)
        obtain rfl : y_658 = 2 := ey_658.trans (by decide)
        refine va_sld hx hb hX hbl hbA G.2.2.2.1 (vp_in_nI (n := 2) (by decide) (by decide)) dL_law_1468 ?_
        refine lv_topi (fun v_659 ev_659 => ?_)
        have ev_659 : v_659 = xs 2 := ev_659
        subst ev_659
        refine lv_aload_n hx hb dL_law_1469 rfl (lv_at hl 3 rfl) ?_
        refine lv_iload_n hx hb dL_law_1470 rfl (lv_at hl 0 rfl) ?_
        refine lv_iconst (v := 3) hx hb dL_law_1471 (by decide) ?_
        refine lv_iadd hx hb dL_law_1472 ?_
        refine lv_topi (fun y_660 ey_660 => ?_)
        obtain rfl : y_660 = 3 := ey_660.trans (by decide)
        refine va_sld hx hb hX hbl hbA G.2.2.2.1 (vp_in_nI (n := 3) (by decide) (by decide)) dL_law_1473 ?_
        refine lv_topi (fun v_661 ev_661 => ?_)
        have ev_661 : v_661 = xs 3 := ev_661
        subst ev_661
        refine lv_if_eq (tgt := 1481) hx hb dL_law_1474 (by decide) (fun c_662 => ?_) (fun c_662 => ?_)
        · have c_662n : (xs 3).toInt = (0 : Int) := (fa_eq _ _).mp c_662
          refine lv_iconst (v := 0) hx hb dL_law_1481 (by decide) ?_
          refine z_Vi (bc := [[(q_1, .inr (10, [.ref t0_2, .ref ia_3, .ref im_4, .ref rd_5, .ref po_6, .ref co_7, .ref tr_8, .ref wa_9, .ref wb_10, .ref fi_11, .ref cd_12]))], [(t0_2, .inr (8, [.ref a1p_13, .int 0, .int 0, .int (-1), .ref a2p_14, .ref a3p_15, .ref a4p_16, .ref a5p_17]))], [(a2p_14, .inl (T.2 0, 3, .inl (fun _ => 0)))]]) (br := [[(a1p_13, .inl (T.2 1, 600, .inl f1p_18))], [(a3p_15, .inl (T.2 3, 2, .inr (.inr (.inr (.inr f3p_19)))))], [(a4p_16, .inl (T.2 4, 2, .inr (.inr (.inr (.inr f4p_20)))))], [(a5p_17, .inl (T.2 5, 2, .inr (.inr (.inr (.inr f5p_21)))))], w1p_28, w2p_29, w3p_30, w4p_31, w5p_32, w6p_33, [(ia_3, .inl (T.2 6, 3, .inr (.inr (.inr (.inr fq_34)))))], u0_38, u1_39, u2_40, [(im_4, .inl (T.2 2, 3, .inl (fun _ => 0)))], v_41, z1_42, z2_43, z3_44, w1_45, w2_46, w3_47, [(cd_12, .inl (T.2 0, 1000, .inl (fun _ => 0)))], [(q_74, .inr (11, [.ref r_all_75, .ref r_has_76, .int 0, .int 0, .int 0, .int 0, .int 0, .int 0, .int 0, .int 0, .ref r_read_77, .int 0, .int 0, .int 0, .ref r_posts_78, .ref r_shut_79, .ref r_here_80, .int 0, .int 0, .int 0, .int 0, .ref r_was_81, .ref r_came_82, .ref r_seenAt_83, .ref r_rowWorth_84, .ref r_farBy_85, .ref r_used_86, .int 0, .int 0, .int 0, .int 0, .int 0, .int 0, .int 0, .int 0, .int 0, .int 0, .int 0, .int 0, .ref r_fitPost_87, .ref r_fitEnd_88, .ref r_keptPosts_89, .int 0]))], [(r_all_75, .inl (T.2 0, 3952, .inl (upd (fun _ => 0) 6 (-1))))], [(r_has_76, .inl (T.2 2, 3, .inl (fun _ => 0)))], [(r_read_77, .inl (T.2 0, 121, .inl (fun _ => 0)))], [(r_posts_78, .inl (T.2 0, 7, .inl (fun _ => 0)))], [(r_shut_79, .inl (T.2 0, 7, .inl (fun _ => 0)))], [(r_here_80, .inl (T.2 0, 7, .inl (fun _ => 0)))], [(r_was_81, .inl (T.2 0, 7, .inl (fun _ => 0)))], [(r_came_82, .inl (T.2 0, 7, .inl (fun _ => 0)))], [(r_seenAt_83, .inl (T.2 0, 16384, .inl (fun _ => 0)))], [(r_rowWorth_84, .inl (T.2 0, 512, .inl (fun _ => 0)))], [(r_farBy_85, .inl (T.2 0, 49, .inl (fun _ => 0)))], [(r_used_86, .inl (T.2 0, 7, .inl (fun _ => 0)))], [(r_fitPost_87, .inl (T.2 0, 28, .inl (fun _ => 0)))], [(r_fitEnd_88, .inl (T.2 0, 49, .inl (fun _ => 0)))], [(r_keptPosts_89, .inl (T.2 0, 7, .inl (fun _ => 0)))]]) (As := [.int (xs 1), .int (xs 2), .int 0]) (rest := []) C G (c_x_keys l T q_1 t0_2 ia_3 im_4 rd_5 po_6 co_7 tr_8 wa_9 wb_10 fi_11 cd_12 a1p_13 a2p_14 a3p_15 a4p_16 a5p_17 (xs 1) (xs 2) 0) (kV_RL_133 C.2.2.2.2 (Nat.le_of_ble_eq_true rfl) (Nat.le_of_ble_eq_true rfl)) [0, 1, 3] [2, 4, 5, 6, 7, 8, 9, 10, 11, 12, 13, 14, 15, 16, 17, 18, 19, 20, 21, 22, 23, 24, 25, 26, 27, 28, 29, 30, 31, 32, 33, 34, 35, 36, 37, 38, 39, 40, 41] rfl rfl (ci := 10) (qc := (RX11, TX11, 11)) rfl rfl (List.mem_flatten.mpr ⟨_, List.mem_of_getElem? (i := 0) rfl, List.mem_cons_self⟩) rfl rfl hl.1 dL_law_1482 (Nat.le_of_ble_eq_true rfl) (Nat.le_of_ble_eq_true rfl) (fun r_664 b1 H locs hw G => ?_)
          obtain ⟨rfl, h_663⟩ := hw
          have G : zS T A s.heap s [[(a1p_13, .inl (T.2 1, 600, .inl f1p_18))], [(a3p_15, .inl (T.2 3, 2, .inr (.inr (.inr (.inr f3p_19)))))], [(a4p_16, .inl (T.2 4, 2, .inr (.inr (.inr (.inr f4p_20)))))], [(a5p_17, .inl (T.2 5, 2, .inr (.inr (.inr (.inr f5p_21)))))], w1p_28, w2p_29, w3p_30, w4p_31, w5p_32, w6p_33, [(ia_3, .inl (T.2 6, 3, .inr (.inr (.inr (.inr fq_34)))))], u0_38, u1_39, u2_40, [(im_4, .inl (T.2 2, 3, .inl (fun _ => 0)))], v_41, z1_42, z2_43, z3_44, w1_45, w2_46, w3_47, [(cd_12, .inl (T.2 0, 1000, .inl (fun _ => 0)))], [(q_74, .inr (11, [.ref r_all_75, .ref r_has_76, .int 0, .int 0, .int 0, .int 0, .int 0, .int 0, .int 0, .int 0, .ref r_read_77, .int 0, .int 0, .int 0, .ref r_posts_78, .ref r_shut_79, .ref r_here_80, .int 0, .int 0, .int 0, .int 0, .ref r_was_81, .ref r_came_82, .ref r_seenAt_83, .ref r_rowWorth_84, .ref r_farBy_85, .ref r_used_86, .int 0, .int 0, .int 0, .int 0, .int 0, .int 0, .int 0, .int 0, .int 0, .int 0, .int 0, .int 0, .ref r_fitPost_87, .ref r_fitEnd_88, .ref r_keptPosts_89, .int 0]))], [(r_all_75, .inl (T.2 0, 3952, .inl (upd (fun _ => 0) 6 (-1))))], [(r_has_76, .inl (T.2 2, 3, .inl (fun _ => 0)))], [(r_read_77, .inl (T.2 0, 121, .inl (fun _ => 0)))], [(r_posts_78, .inl (T.2 0, 7, .inl (fun _ => 0)))], [(r_shut_79, .inl (T.2 0, 7, .inl (fun _ => 0)))], [(r_here_80, .inl (T.2 0, 7, .inl (fun _ => 0)))], [(r_was_81, .inl (T.2 0, 7, .inl (fun _ => 0)))], [(r_came_82, .inl (T.2 0, 7, .inl (fun _ => 0)))], [(r_seenAt_83, .inl (T.2 0, 16384, .inl (fun _ => 0)))], [(r_rowWorth_84, .inl (T.2 0, 512, .inl (fun _ => 0)))], [(r_farBy_85, .inl (T.2 0, 49, .inl (fun _ => 0)))], [(r_used_86, .inl (T.2 0, 7, .inl (fun _ => 0)))], [(r_fitPost_87, .inl (T.2 0, 28, .inl (fun _ => 0)))], [(r_fitEnd_88, .inl (T.2 0, 49, .inl (fun _ => 0)))], [(r_keptPosts_89, .inl (T.2 0, 7, .inl (fun _ => 0)))]] _ _ := G
          subst h_663
          refine lv_aload_n hx hb dL_law_1485 rfl (lv_at hl 1 rfl) ?_
          refine lv_aload_n hx hb dL_law_1486 rfl (lv_at hl 3 rfl) ?_
          refine lv_iload_n hx hb dL_law_1487 rfl (lv_at hl 0 rfl) ?_
          refine lv_iconst (v := 1) hx hb dL_law_1488 (by decide) ?_
          refine lv_iadd hx hb dL_law_1489 ?_
          refine lv_topi (fun y_665 ey_665 => ?_)
          obtain rfl : y_665 = 1 := ey_665.trans (by decide)
          refine va_sld hx hb hX hbl hbA G.2.2.2.1 (vp_in_nI (n := 1) (by decide) (by decide)) dL_law_1490 ?_
          refine lv_topi (fun v_666 ev_666 => ?_)
          have ev_666 : v_666 = xs 1 := ev_666
          subst ev_666
          refine lv_aload_n hx hb dL_law_1491 rfl (lv_at hl 3 rfl) ?_
          refine lv_iload_n hx hb dL_law_1492 rfl (lv_at hl 0 rfl) ?_
          refine lv_iconst (v := 2) hx hb dL_law_1493 (by decide) ?_
          refine lv_iadd hx hb dL_law_1494 ?_
          refine lv_topi (fun y_667 ey_667 => ?_)
          obtain rfl : y_667 = 2 := ey_667.trans (by decide)
          refine va_sld hx hb hX hbl hbA G.2.2.2.1 (vp_in_nI (n := 2) (by decide) (by decide)) dL_law_1495 ?_
          refine lv_topi (fun v_668 ev_668 => ?_)
          have ev_668 : v_668 = xs 2 := ev_668
          subst ev_668
          refine lv_aload_n hx hb dL_law_1496 rfl (lv_at hl 3 rfl) ?_
          refine lv_iload_n hx hb dL_law_1497 rfl (lv_at hl 0 rfl) ?_
          refine lv_iconst (v := 3) hx hb dL_law_1498 (by decide) ?_
          refine lv_iadd hx hb dL_law_1499 ?_
          refine lv_topi (fun y_669 ey_669 => ?_)
          obtain rfl : y_669 = 3 := ey_669.trans (by decide)
          refine va_sld hx hb hX hbl hbA G.2.2.2.1 (vp_in_nI (n := 3) (by decide) (by decide)) dL_law_1500 ?_
          refine lv_topi (fun v_670 ev_670 => ?_)
          have ev_670 : v_670 = xs 3 := ev_670
          subst ev_670
          refine lv_if_eq (tgt := 1508) hx hb dL_law_1501 (by decide) (fun _ => ?_) (fun q => absurd c_662 q)
          refine lv_iconst (v := 0) hx hb dL_law_1508 (by decide) ?_
          refine z_Vi (bc := [[(q_74, .inr (11, [.ref r_all_75, .ref r_has_76, .int 0, .int 0, .int 0, .int 0, .int 0, .int 0, .int 0, .int 0, .ref r_read_77, .int 0, .int 0, .int 0, .ref r_posts_78, .ref r_shut_79, .ref r_here_80, .int 0, .int 0, .int 0, .int 0, .ref r_was_81, .ref r_came_82, .ref r_seenAt_83, .ref r_rowWorth_84, .ref r_farBy_85, .ref r_used_86, .int 0, .int 0, .int 0, .int 0, .int 0, .int 0, .int 0, .int 0, .int 0, .int 0, .int 0, .int 0, .ref r_fitPost_87, .ref r_fitEnd_88, .ref r_keptPosts_89, .int 0]))], [(r_all_75, .inl (T.2 0, 3952, .inl (upd (fun _ => 0) 6 (-1))))]]) (br := [[(a1p_13, .inl (T.2 1, 600, .inl f1p_18))], [(a3p_15, .inl (T.2 3, 2, .inr (.inr (.inr (.inr f3p_19)))))], [(a4p_16, .inl (T.2 4, 2, .inr (.inr (.inr (.inr f4p_20)))))], [(a5p_17, .inl (T.2 5, 2, .inr (.inr (.inr (.inr f5p_21)))))], w1p_28, w2p_29, w3p_30, w4p_31, w5p_32, w6p_33, [(ia_3, .inl (T.2 6, 3, .inr (.inr (.inr (.inr fq_34)))))], u0_38, u1_39, u2_40, [(im_4, .inl (T.2 2, 3, .inl (fun _ => 0)))], v_41, z1_42, z2_43, z3_44, w1_45, w2_46, w3_47, [(cd_12, .inl (T.2 0, 1000, .inl (fun _ => 0)))], [(r_has_76, .inl (T.2 2, 3, .inl (fun _ => 0)))], [(r_read_77, .inl (T.2 0, 121, .inl (fun _ => 0)))], [(r_posts_78, .inl (T.2 0, 7, .inl (fun _ => 0)))], [(r_shut_79, .inl (T.2 0, 7, .inl (fun _ => 0)))], [(r_here_80, .inl (T.2 0, 7, .inl (fun _ => 0)))], [(r_was_81, .inl (T.2 0, 7, .inl (fun _ => 0)))], [(r_came_82, .inl (T.2 0, 7, .inl (fun _ => 0)))], [(r_seenAt_83, .inl (T.2 0, 16384, .inl (fun _ => 0)))], [(r_rowWorth_84, .inl (T.2 0, 512, .inl (fun _ => 0)))], [(r_farBy_85, .inl (T.2 0, 49, .inl (fun _ => 0)))], [(r_used_86, .inl (T.2 0, 7, .inl (fun _ => 0)))], [(r_fitPost_87, .inl (T.2 0, 28, .inl (fun _ => 0)))], [(r_fitEnd_88, .inl (T.2 0, 49, .inl (fun _ => 0)))], [(r_keptPosts_89, .inl (T.2 0, 7, .inl (fun _ => 0)))]]) (As := [.int (xs 1), .int (xs 2), .int 0]) (rest := [.int (-2)]) C G (c_m_keys l T q_74 r_all_75 r_has_76 r_read_77 r_posts_78 r_shut_79 r_here_80 r_was_81 r_came_82 r_seenAt_83 r_rowWorth_84 r_farBy_85 r_used_86 r_fitPost_87 r_fitEnd_88 r_keptPosts_89 (xs 1) (xs 2) 0) (kV_RL_136 C.2.2.2.2 (Nat.le_of_ble_eq_true rfl) (Nat.le_of_ble_eq_true rfl)) [23, 24] [0, 1, 2, 3, 4, 5, 6, 7, 8, 9, 10, 11, 12, 13, 14, 15, 16, 17, 18, 19, 20, 21, 22, 25, 26, 27, 28, 29, 30, 31, 32, 33, 34, 35, 36, 37, 38] rfl rfl (ci := 11) (qc := (RX12, TX12, 43)) rfl rfl (List.mem_flatten.mpr ⟨_, List.mem_of_getElem? (i := 0) rfl, List.mem_cons_self⟩) rfl rfl hl.1 dL_law_1509 (Nat.le_of_ble_eq_true rfl) (Nat.le_of_ble_eq_true rfl) (fun r_672 b1 H locs hw G => ?_)
          obtain ⟨rfl, h_671⟩ := hw
          have G : zS T A s.heap s [[(a1p_13, .inl (T.2 1, 600, .inl f1p_18))], [(a3p_15, .inl (T.2 3, 2, .inr (.inr (.inr (.inr f3p_19)))))], [(a4p_16, .inl (T.2 4, 2, .inr (.inr (.inr (.inr f4p_20)))))], [(a5p_17, .inl (T.2 5, 2, .inr (.inr (.inr (.inr f5p_21)))))], w1p_28, w2p_29, w3p_30, w4p_31, w5p_32, w6p_33, [(ia_3, .inl (T.2 6, 3, .inr (.inr (.inr (.inr fq_34)))))], u0_38, u1_39, u2_40, [(im_4, .inl (T.2 2, 3, .inl (fun _ => 0)))], v_41, z1_42, z2_43, z3_44, w1_45, w2_46, w3_47, [(cd_12, .inl (T.2 0, 1000, .inl (fun _ => 0)))], [(r_has_76, .inl (T.2 2, 3, .inl (fun _ => 0)))], [(r_read_77, .inl (T.2 0, 121, .inl (fun _ => 0)))], [(r_posts_78, .inl (T.2 0, 7, .inl (fun _ => 0)))], [(r_shut_79, .inl (T.2 0, 7, .inl (fun _ => 0)))], [(r_here_80, .inl (T.2 0, 7, .inl (fun _ => 0)))], [(r_was_81, .inl (T.2 0, 7, .inl (fun _ => 0)))], [(r_came_82, .inl (T.2 0, 7, .inl (fun _ => 0)))], [(r_seenAt_83, .inl (T.2 0, 16384, .inl (fun _ => 0)))], [(r_rowWorth_84, .inl (T.2 0, 512, .inl (fun _ => 0)))], [(r_farBy_85, .inl (T.2 0, 49, .inl (fun _ => 0)))], [(r_used_86, .inl (T.2 0, 7, .inl (fun _ => 0)))], [(r_fitPost_87, .inl (T.2 0, 28, .inl (fun _ => 0)))], [(r_fitEnd_88, .inl (T.2 0, 49, .inl (fun _ => 0)))], [(r_keptPosts_89, .inl (T.2 0, 7, .inl (fun _ => 0)))]] _ _ := G
          subst h_671
          refine lv_icmp_eq (tgt := 1767) hx hb dL_law_1512 (by decide) (fun _ => ?_) (fun q => absurd (by decide) q)
          refine lv_iinc (v := 6) (lv' := [(3, .int 6), (2, .ref q_74), (1, .ref q_1), (0, .ref b)]) hx hb dL_law_1767 hl (k := 0) rfl (by decide) (by decide) rfl (fun ls hl => ?_)
          refine lv_goto (tgt := 18) hx hb dL_law_1770 (by decide) ?_
          refine lv_iload_n hx hb dL_law_18 rfl (lv_at hl 0 rfl) ?_
          refine lv_aload_n hx hb dL_law_19 rfl (lv_at hl 3 rfl) ?_
          refine va_slen hx hb hX hbl hbA G.2.2.2.1 dL_law_20 ?_
          refine lv_bipush (v := 6) hx hb dL_law_21 (by decide) ?_
          refine lv_isub hx hb dL_law_23 ?_
          refine lv_topi (fun y_673 ey_673 => ?_)
          obtain rfl : y_673 = 0 := ey_673.trans (by decide)
          refine lv_icmp_gt (tgt := 1773) hx hb dL_law_24 (by decide) (fun _ => ?_) (fun q => absurd (by decide) q)
          refine lv_iconst (v := 1) hx hb dL_law_1773 (by decide) ?_
          refine va_forget (fun q hq => by have h9 := G.2.2.2.1.2.2 q hq; rw [hAe] at h9; exact h9) ?_
          refine W.widen (k := 600000) (n := 7302250) (Nat.le_of_ble_eq_true rfl) (Nat.le_of_ble_eq_true rfl) ?_
          exact lw_ret hx hb hr hlocks dL_law_1774
        · have c_662n : ¬ (xs 3).toInt = (0 : Int) := fun q => c_662 ((fa_eq _ _).mpr q)
          refine lv_iconst (v := 1) hx hb dL_law_1477 (by decide) ?_
          refine lv_goto (tgt := 1482) hx hb dL_law_1478 (by decide) ?_
          refine z_Vi (bc := [[(q_1, .inr (10, [.ref t0_2, .ref ia_3, .ref im_4, .ref rd_5, .ref po_6, .ref co_7, .ref tr_8, .ref wa_9, .ref wb_10, .ref fi_11, .ref cd_12]))], [(t0_2, .inr (8, [.ref a1p_13, .int 0, .int 0, .int (-1), .ref a2p_14, .ref a3p_15, .ref a4p_16, .ref a5p_17]))], [(a2p_14, .inl (T.2 0, 3, .inl (fun _ => 0)))]]) (br := [[(a1p_13, .inl (T.2 1, 600, .inl f1p_18))], [(a3p_15, .inl (T.2 3, 2, .inr (.inr (.inr (.inr f3p_19)))))], [(a4p_16, .inl (T.2 4, 2, .inr (.inr (.inr (.inr f4p_20)))))], [(a5p_17, .inl (T.2 5, 2, .inr (.inr (.inr (.inr f5p_21)))))], w1p_28, w2p_29, w3p_30, w4p_31, w5p_32, w6p_33, [(ia_3, .inl (T.2 6, 3, .inr (.inr (.inr (.inr fq_34)))))], u0_38, u1_39, u2_40, [(im_4, .inl (T.2 2, 3, .inl (fun _ => 0)))], v_41, z1_42, z2_43, z3_44, w1_45, w2_46, w3_47, [(cd_12, .inl (T.2 0, 1000, .inl (fun _ => 0)))], [(q_74, .inr (11, [.ref r_all_75, .ref r_has_76, .int 0, .int 0, .int 0, .int 0, .int 0, .int 0, .int 0, .int 0, .ref r_read_77, .int 0, .int 0, .int 0, .ref r_posts_78, .ref r_shut_79, .ref r_here_80, .int 0, .int 0, .int 0, .int 0, .ref r_was_81, .ref r_came_82, .ref r_seenAt_83, .ref r_rowWorth_84, .ref r_farBy_85, .ref r_used_86, .int 0, .int 0, .int 0, .int 0, .int 0, .int 0, .int 0, .int 0, .int 0, .int 0, .int 0, .int 0, .ref r_fitPost_87, .ref r_fitEnd_88, .ref r_keptPosts_89, .int 0]))], [(r_all_75, .inl (T.2 0, 3952, .inl (upd (fun _ => 0) 6 (-1))))], [(r_has_76, .inl (T.2 2, 3, .inl (fun _ => 0)))], [(r_read_77, .inl (T.2 0, 121, .inl (fun _ => 0)))], [(r_posts_78, .inl (T.2 0, 7, .inl (fun _ => 0)))], [(r_shut_79, .inl (T.2 0, 7, .inl (fun _ => 0)))], [(r_here_80, .inl (T.2 0, 7, .inl (fun _ => 0)))], [(r_was_81, .inl (T.2 0, 7, .inl (fun _ => 0)))], [(r_came_82, .inl (T.2 0, 7, .inl (fun _ => 0)))], [(r_seenAt_83, .inl (T.2 0, 16384, .inl (fun _ => 0)))], [(r_rowWorth_84, .inl (T.2 0, 512, .inl (fun _ => 0)))], [(r_farBy_85, .inl (T.2 0, 49, .inl (fun _ => 0)))], [(r_used_86, .inl (T.2 0, 7, .inl (fun _ => 0)))], [(r_fitPost_87, .inl (T.2 0, 28, .inl (fun _ => 0)))], [(r_fitEnd_88, .inl (T.2 0, 49, .inl (fun _ => 0)))], [(r_keptPosts_89, .inl (T.2 0, 7, .inl (fun _ => 0)))]]) (As := [.int (xs 1), .int (xs 2), .int 1]) (rest := []) C G (c_x_keys l T q_1 t0_2 ia_3 im_4 rd_5 po_6 co_7 tr_8 wa_9 wb_10 fi_11 cd_12 a1p_13 a2p_14 a3p_15 a4p_16 a5p_17 (xs 1) (xs 2) 1) (kV_RL_133 C.2.2.2.2 (Nat.le_of_ble_eq_true rfl) (Nat.le_of_ble_eq_true rfl)) [0, 1, 3] [2, 4, 5, 6, 7, 8, 9, 10, 11, 12, 13, 14, 15, 16, 17, 18, 19, 20, 21, 22, 23, 24, 25, 26, 27, 28, 29, 30, 31, 32, 33, 34, 35, 36, 37, 38, 39, 40, 41] rfl rfl (ci := 10) (qc := (RX11, TX11, 11)) rfl rfl (List.mem_flatten.mpr ⟨_, List.mem_of_getElem? (i := 0) rfl, List.mem_cons_self⟩) rfl rfl hl.1 dL_law_1482 (Nat.le_of_ble_eq_true rfl) (Nat.le_of_ble_eq_true rfl) (fun r_675 b1 H locs hw G => ?_)
          obtain ⟨rfl, h_674⟩ := hw
          have G : zS T A s.heap s [[(a1p_13, .inl (T.2 1, 600, .inl f1p_18))], [(a3p_15, .inl (T.2 3, 2, .inr (.inr (.inr (.inr f3p_19)))))], [(a4p_16, .inl (T.2 4, 2, .inr (.inr (.inr (.inr f4p_20)))))], [(a5p_17, .inl (T.2 5, 2, .inr (.inr (.inr (.inr f5p_21)))))], w1p_28, w2p_29, w3p_30, w4p_31, w5p_32, w6p_33, [(ia_3, .inl (T.2 6, 3, .inr (.inr (.inr (.inr fq_34)))))], u0_38, u1_39, u2_40, [(im_4, .inl (T.2 2, 3, .inl (fun _ => 0)))], v_41, z1_42, z2_43, z3_44, w1_45, w2_46, w3_47, [(cd_12, .inl (T.2 0, 1000, .inl (fun _ => 0)))], [(q_74, .inr (11, [.ref r_all_75, .ref r_has_76, .int 0, .int 0, .int 0, .int 0, .int 0, .int 0, .int 0, .int 0, .ref r_read_77, .int 0, .int 0, .int 0, .ref r_posts_78, .ref r_shut_79, .ref r_here_80, .int 0, .int 0, .int 0, .int 0, .ref r_was_81, .ref r_came_82, .ref r_seenAt_83, .ref r_rowWorth_84, .ref r_farBy_85, .ref r_used_86, .int 0, .int 0, .int 0, .int 0, .int 0, .int 0, .int 0, .int 0, .int 0, .int 0, .int 0, .int 0, .ref r_fitPost_87, .ref r_fitEnd_88, .ref r_keptPosts_89, .int 0]))], [(r_all_75, .inl (T.2 0, 3952, .inl (upd (fun _ => 0) 6 (-1))))], [(r_has_76, .inl (T.2 2, 3, .inl (fun _ => 0)))], [(r_read_77, .inl (T.2 0, 121, .inl (fun _ => 0)))], [(r_posts_78, .inl (T.2 0, 7, .inl (fun _ => 0)))], [(r_shut_79, .inl (T.2 0, 7, .inl (fun _ => 0)))], [(r_here_80, .inl (T.2 0, 7, .inl (fun _ => 0)))], [(r_was_81, .inl (T.2 0, 7, .inl (fun _ => 0)))], [(r_came_82, .inl (T.2 0, 7, .inl (fun _ => 0)))], [(r_seenAt_83, .inl (T.2 0, 16384, .inl (fun _ => 0)))], [(r_rowWorth_84, .inl (T.2 0, 512, .inl (fun _ => 0)))], [(r_farBy_85, .inl (T.2 0, 49, .inl (fun _ => 0)))], [(r_used_86, .inl (T.2 0, 7, .inl (fun _ => 0)))], [(r_fitPost_87, .inl (T.2 0, 28, .inl (fun _ => 0)))], [(r_fitEnd_88, .inl (T.2 0, 49, .inl (fun _ => 0)))], [(r_keptPosts_89, .inl (T.2 0, 7, .inl (fun _ => 0)))]] _ _ := G
          subst h_674
          refine lv_aload_n hx hb dL_law_1485 rfl (lv_at hl 1 rfl) ?_
          refine lv_aload_n hx hb dL_law_1486 rfl (lv_at hl 3 rfl) ?_
          refine lv_iload_n hx hb dL_law_1487 rfl (lv_at hl 0 rfl) ?_
          refine lv_iconst (v := 1) hx hb dL_law_1488 (by decide) ?_
          refine lv_iadd hx hb dL_law_1489 ?_
          refine lv_topi (fun y_676 ey_676 => ?_)
          obtain rfl : y_676 = 1 := ey_676.trans (by decide)
          refine va_sld hx hb hX hbl hbA G.2.2.2.1 (vp_in_nI (n := 1) (by decide) (by decide)) dL_law_1490 ?_
          refine lv_topi (fun v_677 ev_677 => ?_)
          have ev_677 : v_677 = xs 1 := ev_677
          subst ev_677
          refine lv_aload_n hx hb dL_law_1491 rfl (lv_at hl 3 rfl) ?_
          refine lv_iload_n hx hb dL_law_1492 rfl (lv_at hl 0 rfl) ?_
          refine lv_iconst (v := 2) hx hb dL_law_1493 (by decide) ?_
          refine lv_iadd hx hb dL_law_1494 ?_
          refine lv_topi (fun y_678 ey_678 => ?_)
          obtain rfl : y_678 = 2 := ey_678.trans (by decide)
          refine va_sld hx hb hX hbl hbA G.2.2.2.1 (vp_in_nI (n := 2) (by decide) (by decide)) dL_law_1495 ?_
          refine lv_topi (fun v_679 ev_679 => ?_)
          have ev_679 : v_679 = xs 2 := ev_679
          subst ev_679
          refine lv_aload_n hx hb dL_law_1496 rfl (lv_at hl 3 rfl) ?_
          refine lv_iload_n hx hb dL_law_1497 rfl (lv_at hl 0 rfl) ?_
          refine lv_iconst (v := 3) hx hb dL_law_1498 (by decide) ?_
          refine lv_iadd hx hb dL_law_1499 ?_
          refine lv_topi (fun y_680 ey_680 => ?_)
          obtain rfl : y_680 = 3 := ey_680.trans (by decide)
          refine va_sld hx hb hX hbl hbA G.2.2.2.1 (vp_in_nI (n := 3) (by decide) (by decide)) dL_law_1500 ?_
          refine lv_topi (fun v_681 ev_681 => ?_)
          have ev_681 : v_681 = xs 3 := ev_681
          subst ev_681
          refine lv_if_eq (tgt := 1508) hx hb dL_law_1501 (by decide) (fun q => absurd q c_662) (fun _ => ?_)
          refine lv_iconst (v := 1) hx hb dL_law_1504 (by decide) ?_
          refine lv_goto (tgt := 1509) hx hb dL_law_1505 (by decide) ?_
          refine z_Vi (bc := [[(q_74, .inr (11, [.ref r_all_75, .ref r_has_76, .int 0, .int 0, .int 0, .int 0, .int 0, .int 0, .int 0, .int 0, .ref r_read_77, .int 0, .int 0, .int 0, .ref r_posts_78, .ref r_shut_79, .ref r_here_80, .int 0, .int 0, .int 0, .int 0, .ref r_was_81, .ref r_came_82, .ref r_seenAt_83, .ref r_rowWorth_84, .ref r_farBy_85, .ref r_used_86, .int 0, .int 0, .int 0, .int 0, .int 0, .int 0, .int 0, .int 0, .int 0, .int 0, .int 0, .int 0, .ref r_fitPost_87, .ref r_fitEnd_88, .ref r_keptPosts_89, .int 0]))], [(r_all_75, .inl (T.2 0, 3952, .inl (upd (fun _ => 0) 6 (-1))))]]) (br := [[(a1p_13, .inl (T.2 1, 600, .inl f1p_18))], [(a3p_15, .inl (T.2 3, 2, .inr (.inr (.inr (.inr f3p_19)))))], [(a4p_16, .inl (T.2 4, 2, .inr (.inr (.inr (.inr f4p_20)))))], [(a5p_17, .inl (T.2 5, 2, .inr (.inr (.inr (.inr f5p_21)))))], w1p_28, w2p_29, w3p_30, w4p_31, w5p_32, w6p_33, [(ia_3, .inl (T.2 6, 3, .inr (.inr (.inr (.inr fq_34)))))], u0_38, u1_39, u2_40, [(im_4, .inl (T.2 2, 3, .inl (fun _ => 0)))], v_41, z1_42, z2_43, z3_44, w1_45, w2_46, w3_47, [(cd_12, .inl (T.2 0, 1000, .inl (fun _ => 0)))], [(r_has_76, .inl (T.2 2, 3, .inl (fun _ => 0)))], [(r_read_77, .inl (T.2 0, 121, .inl (fun _ => 0)))], [(r_posts_78, .inl (T.2 0, 7, .inl (fun _ => 0)))], [(r_shut_79, .inl (T.2 0, 7, .inl (fun _ => 0)))], [(r_here_80, .inl (T.2 0, 7, .inl (fun _ => 0)))], [(r_was_81, .inl (T.2 0, 7, .inl (fun _ => 0)))], [(r_came_82, .inl (T.2 0, 7, .inl (fun _ => 0)))], [(r_seenAt_83, .inl (T.2 0, 16384, .inl (fun _ => 0)))], [(r_rowWorth_84, .inl (T.2 0, 512, .inl (fun _ => 0)))], [(r_farBy_85, .inl (T.2 0, 49, .inl (fun _ => 0)))], [(r_used_86, .inl (T.2 0, 7, .inl (fun _ => 0)))], [(r_fitPost_87, .inl (T.2 0, 28, .inl (fun _ => 0)))], [(r_fitEnd_88, .inl (T.2 0, 49, .inl (fun _ => 0)))], [(r_keptPosts_89, .inl (T.2 0, 7, .inl (fun _ => 0)))]]) (As := [.int (xs 1), .int (xs 2), .int 1]) (rest := [.int (-2)]) C G (c_m_keys l T q_74 r_all_75 r_has_76 r_read_77 r_posts_78 r_shut_79 r_here_80 r_was_81 r_came_82 r_seenAt_83 r_rowWorth_84 r_farBy_85 r_used_86 r_fitPost_87 r_fitEnd_88 r_keptPosts_89 (xs 1) (xs 2) 1) (kV_RL_136 C.2.2.2.2 (Nat.le_of_ble_eq_true rfl) (Nat.le_of_ble_eq_true rfl)) [23, 24] [0, 1, 2, 3, 4, 5, 6, 7, 8, 9, 10, 11, 12, 13, 14, 15, 16, 17, 18, 19, 20, 21, 22, 25, 26, 27, 28, 29, 30, 31, 32, 33, 34, 35, 36, 37, 38] rfl rfl (ci := 11) (qc := (RX12, TX12, 43)) rfl rfl (List.mem_flatten.mpr ⟨_, List.mem_of_getElem? (i := 0) rfl, List.mem_cons_self⟩) rfl rfl hl.1 dL_law_1509 (Nat.le_of_ble_eq_true rfl) (Nat.le_of_ble_eq_true rfl) (fun r_683 b1 H locs hw G => ?_)
          obtain ⟨rfl, h_682⟩ := hw
          have G : zS T A s.heap s [[(a1p_13, .inl (T.2 1, 600, .inl f1p_18))], [(a3p_15, .inl (T.2 3, 2, .inr (.inr (.inr (.inr f3p_19)))))], [(a4p_16, .inl (T.2 4, 2, .inr (.inr (.inr (.inr f4p_20)))))], [(a5p_17, .inl (T.2 5, 2, .inr (.inr (.inr (.inr f5p_21)))))], w1p_28, w2p_29, w3p_30, w4p_31, w5p_32, w6p_33, [(ia_3, .inl (T.2 6, 3, .inr (.inr (.inr (.inr fq_34)))))], u0_38, u1_39, u2_40, [(im_4, .inl (T.2 2, 3, .inl (fun _ => 0)))], v_41, z1_42, z2_43, z3_44, w1_45, w2_46, w3_47, [(cd_12, .inl (T.2 0, 1000, .inl (fun _ => 0)))], [(r_has_76, .inl (T.2 2, 3, .inl (fun _ => 0)))], [(r_read_77, .inl (T.2 0, 121, .inl (fun _ => 0)))], [(r_posts_78, .inl (T.2 0, 7, .inl (fun _ => 0)))], [(r_shut_79, .inl (T.2 0, 7, .inl (fun _ => 0)))], [(r_here_80, .inl (T.2 0, 7, .inl (fun _ => 0)))], [(r_was_81, .inl (T.2 0, 7, .inl (fun _ => 0)))], [(r_came_82, .inl (T.2 0, 7, .inl (fun _ => 0)))], [(r_seenAt_83, .inl (T.2 0, 16384, .inl (fun _ => 0)))], [(r_rowWorth_84, .inl (T.2 0, 512, .inl (fun _ => 0)))], [(r_farBy_85, .inl (T.2 0, 49, .inl (fun _ => 0)))], [(r_used_86, .inl (T.2 0, 7, .inl (fun _ => 0)))], [(r_fitPost_87, .inl (T.2 0, 28, .inl (fun _ => 0)))], [(r_fitEnd_88, .inl (T.2 0, 49, .inl (fun _ => 0)))], [(r_keptPosts_89, .inl (T.2 0, 7, .inl (fun _ => 0)))]] _ _ := G
          subst h_682
          refine lv_icmp_eq (tgt := 1767) hx hb dL_law_1512 (by decide) (fun _ => ?_) (fun q => absurd (by decide) q)
          refine lv_iinc (v := 6) (lv' := [(3, .int 6), (2, .ref q_74), (1, .ref q_1), (0, .ref b)]) hx hb dL_law_1767 hl (k := 0) rfl (by decide) (by decide) rfl (fun ls hl => ?_)
          refine lv_goto (tgt := 18) hx hb dL_law_1770 (by decide) ?_
          refine lv_iload_n hx hb dL_law_18 rfl (lv_at hl 0 rfl) ?_
          refine lv_aload_n hx hb dL_law_19 rfl (lv_at hl 3 rfl) ?_
          refine va_slen hx hb hX hbl hbA G.2.2.2.1 dL_law_20 ?_
          refine lv_bipush (v := 6) hx hb dL_law_21 (by decide) ?_
          refine lv_isub hx hb dL_law_23 ?_
          refine lv_topi (fun y_684 ey_684 => ?_)
          obtain rfl : y_684 = 0 := ey_684.trans (by decide)
          refine lv_icmp_gt (tgt := 1773) hx hb dL_law_24 (by decide) (fun _ => ?_) (fun q => absurd (by decide) q)
          refine lv_iconst (v := 1) hx hb dL_law_1773 (by decide) ?_
          refine va_forget (fun q hq => by have h9 := G.2.2.2.1.2.2 q hq; rw [hAe] at h9; exact h9) ?_
          refine W.widen (k := 600000) (n := 7302250) (Nat.le_of_ble_eq_true rfl) (Nat.le_of_ble_eq_true rfl) ?_
          exact lw_ret hx hb hr hlocks dL_law_1774
      · refine lv_tableIn (tgt := 1517) hx hb dL_law_33 (by omega) (by omega) (by rw [c_94]; rfl) (by decide) ?_
        refine lv_aload_n hx hb dL_law_1517 rfl (lv_at hl 2 rfl) ?_
        refine lv_aload_n hx hb dL_law_1518 rfl (lv_at hl 3 rfl) ?_
        refine lv_iload_n hx hb dL_law_1519 rfl (lv_at hl 0 rfl) ?_
        refine lv_iconst (v := 1) hx hb dL_law_1520 (by decide) ?_
        refine lv_iadd hx hb dL_law_1521 ?_
        refine lv_topi (fun y_685 ey_685 => ?_)
        obtain rfl : y_685 = 1 := ey_685.trans (by decide)
        refine va_sld hx hb hX hbl hbA G.2.2.2.1 (vp_in_nI (n := 1) (by decide) (by decide)) dL_law_1522 ?_
        refine lv_topi (fun v_686 ev_686 => ?_)
        have ev_686 : v_686 = xs 1 := ev_686
        subst ev_686
        refine lv_aload_n hx hb dL_law_1523 rfl (lv_at hl 3 rfl) ?_
        refine lv_iload_n hx hb dL_law_1524 rfl (lv_at hl 0 rfl) ?_
        refine lv_iconst (v := 2) hx hb dL_law_1525 (by decide) ?_
        refine lv_iadd hx hb dL_law_1526 ?_
        refine lv_topi (fun y_687 ey_687 => ?_)
        obtain rfl : y_687 = 2 := ey_687.trans (by decide)
        refine va_sld hx hb hX hbl hbA G.2.2.2.1 (vp_in_nI (n := 2) (by decide) (by decide)) dL_law_1527 ?_
        refine lv_topi (fun v_688 ev_688 => ?_)
        have ev_688 : v_688 = xs 2 := ev_688
        subst ev_688
        refine lv_aload_n hx hb dL_law_1528 rfl (lv_at hl 3 rfl) ?_
        refine lv_iload_n hx hb dL_law_1529 rfl (lv_at hl 0 rfl) ?_
        refine lv_iconst (v := 3) hx hb dL_law_1530 (by decide) ?_
        refine lv_iadd hx hb dL_law_1531 ?_
        refine lv_topi (fun y_689 ey_689 => ?_)
        obtain rfl : y_689 = 3 := ey_689.trans (by decide)
        refine va_sld hx hb hX hbl hbA G.2.2.2.1 (vp_in_nI (n := 3) (by decide) (by decide)) dL_law_1532 ?_
        refine lv_topi (fun v_690 ev_690 => ?_)
        have ev_690 : v_690 = xs 3 := ev_690
        subst ev_690
        refine z_Vi (bc := [[(q_1, .inr (10, [.ref t0_2, .ref ia_3, .ref im_4, .ref rd_5, .ref po_6, .ref co_7, .ref tr_8, .ref wa_9, .ref wb_10, .ref fi_11, .ref cd_12]))], [(t0_2, .inr (8, [.ref a1p_13, .int 0, .int 0, .int (-1), .ref a2p_14, .ref a3p_15, .ref a4p_16, .ref a5p_17]))], [(a2p_14, .inl (T.2 0, 3, .inl (fun _ => 0)))]]) (br := [[(a1p_13, .inl (T.2 1, 600, .inl f1p_18))], [(a3p_15, .inl (T.2 3, 2, .inr (.inr (.inr (.inr f3p_19)))))], [(a4p_16, .inl (T.2 4, 2, .inr (.inr (.inr (.inr f4p_20)))))], [(a5p_17, .inl (T.2 5, 2, .inr (.inr (.inr (.inr f5p_21)))))], w1p_28, w2p_29, w3p_30, w4p_31, w5p_32, w6p_33, [(ia_3, .inl (T.2 6, 3, .inr (.inr (.inr (.inr fq_34)))))], u0_38, u1_39, u2_40, [(im_4, .inl (T.2 2, 3, .inl (fun _ => 0)))], v_41, z1_42, z2_43, z3_44, w1_45, w2_46, w3_47, [(cd_12, .inl (T.2 0, 1000, .inl (fun _ => 0)))], [(q_74, .inr (11, [.ref r_all_75, .ref r_has_76, .int 0, .int 0, .int 0, .int 0, .int 0, .int 0, .int 0, .int 0, .ref r_read_77, .int 0, .int 0, .int 0, .ref r_posts_78, .ref r_shut_79, .ref r_here_80, .int 0, .int 0, .int 0, .int 0, .ref r_was_81, .ref r_came_82, .ref r_seenAt_83, .ref r_rowWorth_84, .ref r_farBy_85, .ref r_used_86, .int 0, .int 0, .int 0, .int 0, .int 0, .int 0, .int 0, .int 0, .int 0, .int 0, .int 0, .int 0, .ref r_fitPost_87, .ref r_fitEnd_88, .ref r_keptPosts_89, .int 0]))], [(r_all_75, .inl (T.2 0, 3952, .inl (upd (fun _ => 0) 6 (-1))))], [(r_has_76, .inl (T.2 2, 3, .inl (fun _ => 0)))], [(r_read_77, .inl (T.2 0, 121, .inl (fun _ => 0)))], [(r_posts_78, .inl (T.2 0, 7, .inl (fun _ => 0)))], [(r_shut_79, .inl (T.2 0, 7, .inl (fun _ => 0)))], [(r_here_80, .inl (T.2 0, 7, .inl (fun _ => 0)))], [(r_was_81, .inl (T.2 0, 7, .inl (fun _ => 0)))], [(r_came_82, .inl (T.2 0, 7, .inl (fun _ => 0)))], [(r_seenAt_83, .inl (T.2 0, 16384, .inl (fun _ => 0)))], [(r_rowWorth_84, .inl (T.2 0, 512, .inl (fun _ => 0)))], [(r_farBy_85, .inl (T.2 0, 49, .inl (fun _ => 0)))], [(r_used_86, .inl (T.2 0, 7, .inl (fun _ => 0)))], [(r_fitPost_87, .inl (T.2 0, 28, .inl (fun _ => 0)))], [(r_fitEnd_88, .inl (T.2 0, 49, .inl (fun _ => 0)))], [(r_keptPosts_89, .inl (T.2 0, 7, .inl (fun _ => 0)))]]) (As := [.int (xs 1), .int (xs 2), .int (xs 3)]) (rest := []) C G (c_x_after l T q_1 t0_2 ia_3 im_4 rd_5 po_6 co_7 tr_8 wa_9 wb_10 fi_11 cd_12 a1p_13 a2p_14 a3p_15 a4p_16 a5p_17 (xs 1) (xs 2) (xs 3)) (kV_RL_137 C.2.2.2.2 (Nat.le_of_ble_eq_true rfl) (Nat.le_of_ble_eq_true rfl)) [0, 1, 3] [2, 4, 5, 6, 7, 8, 9, 10, 11, 12, 13, 14, 15, 16, 17, 18, 19, 20, 21, 22, 23, 24, 25, 26, 27, 28, 29, 30, 31, 32, 33, 34, 35, 36, 37, 38, 39, 40, 41] rfl rfl (ci := 10) (qc := (RX11, TX11, 11)) rfl rfl (List.mem_flatten.mpr ⟨_, List.mem_of_getElem? (i := 0) rfl, List.mem_cons_self⟩) rfl rfl hl.1 dL_law_1533 (Nat.le_of_ble_eq_true rfl) (Nat.le_of_ble_eq_true rfl) (fun r_692 b1 H locs hw G => ?_)
        obtain ⟨rfl, h_691⟩ := hw
        have G : zS T A s.heap s [[(a1p_13, .inl (T.2 1, 600, .inl f1p_18))], [(a3p_15, .inl (T.2 3, 2, .inr (.inr (.inr (.inr f3p_19)))))], [(a4p_16, .inl (T.2 4, 2, .inr (.inr (.inr (.inr f4p_20)))))], [(a5p_17, .inl (T.2 5, 2, .inr (.inr (.inr (.inr f5p_21)))))], w1p_28, w2p_29, w3p_30, w4p_31, w5p_32, w6p_33, [(ia_3, .inl (T.2 6, 3, .inr (.inr (.inr (.inr fq_34)))))], u0_38, u1_39, u2_40, [(im_4, .inl (T.2 2, 3, .inl (fun _ => 0)))], v_41, z1_42, z2_43, z3_44, w1_45, w2_46, w3_47, [(cd_12, .inl (T.2 0, 1000, .inl (fun _ => 0)))], [(q_74, .inr (11, [.ref r_all_75, .ref r_has_76, .int 0, .int 0, .int 0, .int 0, .int 0, .int 0, .int 0, .int 0, .ref r_read_77, .int 0, .int 0, .int 0, .ref r_posts_78, .ref r_shut_79, .ref r_here_80, .int 0, .int 0, .int 0, .int 0, .ref r_was_81, .ref r_came_82, .ref r_seenAt_83, .ref r_rowWorth_84, .ref r_farBy_85, .ref r_used_86, .int 0, .int 0, .int 0, .int 0, .int 0, .int 0, .int 0, .int 0, .int 0, .int 0, .int 0, .int 0, .ref r_fitPost_87, .ref r_fitEnd_88, .ref r_keptPosts_89, .int 0]))], [(r_all_75, .inl (T.2 0, 3952, .inl (upd (fun _ => 0) 6 (-1))))], [(r_has_76, .inl (T.2 2, 3, .inl (fun _ => 0)))], [(r_read_77, .inl (T.2 0, 121, .inl (fun _ => 0)))], [(r_posts_78, .inl (T.2 0, 7, .inl (fun _ => 0)))], [(r_shut_79, .inl (T.2 0, 7, .inl (fun _ => 0)))], [(r_here_80, .inl (T.2 0, 7, .inl (fun _ => 0)))], [(r_was_81, .inl (T.2 0, 7, .inl (fun _ => 0)))], [(r_came_82, .inl (T.2 0, 7, .inl (fun _ => 0)))], [(r_seenAt_83, .inl (T.2 0, 16384, .inl (fun _ => 0)))], [(r_rowWorth_84, .inl (T.2 0, 512, .inl (fun _ => 0)))], [(r_farBy_85, .inl (T.2 0, 49, .inl (fun _ => 0)))], [(r_used_86, .inl (T.2 0, 7, .inl (fun _ => 0)))], [(r_fitPost_87, .inl (T.2 0, 28, .inl (fun _ => 0)))], [(r_fitEnd_88, .inl (T.2 0, 49, .inl (fun _ => 0)))], [(r_keptPosts_89, .inl (T.2 0, 7, .inl (fun _ => 0)))]] _ _ := G
        subst h_691
        refine lv_aload_n hx hb dL_law_1536 rfl (lv_at hl 1 rfl) ?_
        refine lv_aload_n hx hb dL_law_1537 rfl (lv_at hl 3 rfl) ?_
        refine lv_iload_n hx hb dL_law_1538 rfl (lv_at hl 0 rfl) ?_
        refine lv_iconst (v := 1) hx hb dL_law_1539 (by decide) ?_
        refine lv_iadd hx hb dL_law_1540 ?_
        refine lv_topi (fun y_693 ey_693 => ?_)
        obtain rfl : y_693 = 1 := ey_693.trans (by decide)
        refine va_sld hx hb hX hbl hbA G.2.2.2.1 (vp_in_nI (n := 1) (by decide) (by decide)) dL_law_1541 ?_
        refine lv_topi (fun v_694 ev_694 => ?_)
        have ev_694 : v_694 = xs 1 := ev_694
        subst ev_694
        refine lv_aload_n hx hb dL_law_1542 rfl (lv_at hl 3 rfl) ?_
        refine lv_iload_n hx hb dL_law_1543 rfl (lv_at hl 0 rfl) ?_
        refine lv_iconst (v := 2) hx hb dL_law_1544 (by decide) ?_
        refine lv_iadd hx hb dL_law_1545 ?_
        refine lv_topi (fun y_695 ey_695 => ?_)
        obtain rfl : y_695 = 2 := ey_695.trans (by decide)
        refine va_sld hx hb hX hbl hbA G.2.2.2.1 (vp_in_nI (n := 2) (by decide) (by decide)) dL_law_1546 ?_
        refine lv_topi (fun v_696 ev_696 => ?_)
        have ev_696 : v_696 = xs 2 := ev_696
        subst ev_696
        refine lv_aload_n hx hb dL_law_1547 rfl (lv_at hl 3 rfl) ?_
        refine lv_iload_n hx hb dL_law_1548 rfl (lv_at hl 0 rfl) ?_
        refine lv_iconst (v := 3) hx hb dL_law_1549 (by decide) ?_
        refine lv_iadd hx hb dL_law_1550 ?_
        refine lv_topi (fun y_697 ey_697 => ?_)
        obtain rfl : y_697 = 3 := ey_697.trans (by decide)
        refine va_sld hx hb hX hbl hbA G.2.2.2.1 (vp_in_nI (n := 3) (by decide) (by decide)) dL_law_1551 ?_
        refine lv_topi (fun v_698 ev_698 => ?_)
        have ev_698 : v_698 = xs 3 := ev_698
        subst ev_698
        refine z_Vi (bc := [[(q_74, .inr (11, [.ref r_all_75, .ref r_has_76, .int 0, .int 0, .int 0, .int 0, .int 0, .int 0, .int 0, .int 0, .ref r_read_77, .int 0, .int 0, .int 0, .ref r_posts_78, .ref r_shut_79, .ref r_here_80, .int 0, .int 0, .int 0, .int 0, .ref r_was_81, .ref r_came_82, .ref r_seenAt_83, .ref r_rowWorth_84, .ref r_farBy_85, .ref r_used_86, .int 0, .int 0, .int 0, .int 0, .int 0, .int 0, .int 0, .int 0, .int 0, .int 0, .int 0, .int 0, .ref r_fitPost_87, .ref r_fitEnd_88, .ref r_keptPosts_89, .int 0]))], [(r_all_75, .inl (T.2 0, 3952, .inl (upd (fun _ => 0) 6 (-1))))]]) (br := [[(a1p_13, .inl (T.2 1, 600, .inl f1p_18))], [(a3p_15, .inl (T.2 3, 2, .inr (.inr (.inr (.inr f3p_19)))))], [(a4p_16, .inl (T.2 4, 2, .inr (.inr (.inr (.inr f4p_20)))))], [(a5p_17, .inl (T.2 5, 2, .inr (.inr (.inr (.inr f5p_21)))))], w1p_28, w2p_29, w3p_30, w4p_31, w5p_32, w6p_33, [(ia_3, .inl (T.2 6, 3, .inr (.inr (.inr (.inr fq_34)))))], u0_38, u1_39, u2_40, [(im_4, .inl (T.2 2, 3, .inl (fun _ => 0)))], v_41, z1_42, z2_43, z3_44, w1_45, w2_46, w3_47, [(cd_12, .inl (T.2 0, 1000, .inl (fun _ => 0)))], [(r_has_76, .inl (T.2 2, 3, .inl (fun _ => 0)))], [(r_read_77, .inl (T.2 0, 121, .inl (fun _ => 0)))], [(r_posts_78, .inl (T.2 0, 7, .inl (fun _ => 0)))], [(r_shut_79, .inl (T.2 0, 7, .inl (fun _ => 0)))], [(r_here_80, .inl (T.2 0, 7, .inl (fun _ => 0)))], [(r_was_81, .inl (T.2 0, 7, .inl (fun _ => 0)))], [(r_came_82, .inl (T.2 0, 7, .inl (fun _ => 0)))], [(r_seenAt_83, .inl (T.2 0, 16384, .inl (fun _ => 0)))], [(r_rowWorth_84, .inl (T.2 0, 512, .inl (fun _ => 0)))], [(r_farBy_85, .inl (T.2 0, 49, .inl (fun _ => 0)))], [(r_used_86, .inl (T.2 0, 7, .inl (fun _ => 0)))], [(r_fitPost_87, .inl (T.2 0, 28, .inl (fun _ => 0)))], [(r_fitEnd_88, .inl (T.2 0, 49, .inl (fun _ => 0)))], [(r_keptPosts_89, .inl (T.2 0, 7, .inl (fun _ => 0)))]]) (As := [.int (xs 1), .int (xs 2), .int (xs 3)]) (rest := [.int (-2)]) C G (c_m_after l T q_74 r_all_75 r_has_76 r_read_77 r_posts_78 r_shut_79 r_here_80 r_was_81 r_came_82 r_seenAt_83 r_rowWorth_84 r_farBy_85 r_used_86 r_fitPost_87 r_fitEnd_88 r_keptPosts_89 (xs 1) (xs 2) (xs 3)) (kV_RL_140 C.2.2.2.2 (Nat.le_of_ble_eq_true rfl) (Nat.le_of_ble_eq_true rfl)) [23, 24] [0, 1, 2, 3, 4, 5, 6, 7, 8, 9, 10, 11, 12, 13, 14, 15, 16, 17, 18, 19, 20, 21, 22, 25, 26, 27, 28, 29, 30, 31, 32, 33, 34, 35, 36, 37, 38] rfl rfl (ci := 11) (qc := (RX12, TX12, 43)) rfl rfl (List.mem_flatten.mpr ⟨_, List.mem_of_getElem? (i := 0) rfl, List.mem_cons_self⟩) rfl rfl hl.1 dL_law_1552 (Nat.le_of_ble_eq_true rfl) (Nat.le_of_ble_eq_true rfl) (fun r_700 b1 H locs hw G => ?_)
        obtain ⟨rfl, h_699⟩ := hw
        have G : zS T A s.heap s [[(a1p_13, .inl (T.2 1, 600, .inl f1p_18))], [(a3p_15, .inl (T.2 3, 2, .inr (.inr (.inr (.inr f3p_19)))))], [(a4p_16, .inl (T.2 4, 2, .inr (.inr (.inr (.inr f4p_20)))))], [(a5p_17, .inl (T.2 5, 2, .inr (.inr (.inr (.inr f5p_21)))))], w1p_28, w2p_29, w3p_30, w4p_31, w5p_32, w6p_33, [(ia_3, .inl (T.2 6, 3, .inr (.inr (.inr (.inr fq_34)))))], u0_38, u1_39, u2_40, [(im_4, .inl (T.2 2, 3, .inl (fun _ => 0)))], v_41, z1_42, z2_43, z3_44, w1_45, w2_46, w3_47, [(cd_12, .inl (T.2 0, 1000, .inl (fun _ => 0)))], [(r_has_76, .inl (T.2 2, 3, .inl (fun _ => 0)))], [(r_read_77, .inl (T.2 0, 121, .inl (fun _ => 0)))], [(r_posts_78, .inl (T.2 0, 7, .inl (fun _ => 0)))], [(r_shut_79, .inl (T.2 0, 7, .inl (fun _ => 0)))], [(r_here_80, .inl (T.2 0, 7, .inl (fun _ => 0)))], [(r_was_81, .inl (T.2 0, 7, .inl (fun _ => 0)))], [(r_came_82, .inl (T.2 0, 7, .inl (fun _ => 0)))], [(r_seenAt_83, .inl (T.2 0, 16384, .inl (fun _ => 0)))], [(r_rowWorth_84, .inl (T.2 0, 512, .inl (fun _ => 0)))], [(r_farBy_85, .inl (T.2 0, 49, .inl (fun _ => 0)))], [(r_used_86, .inl (T.2 0, 7, .inl (fun _ => 0)))], [(r_fitPost_87, .inl (T.2 0, 28, .inl (fun _ => 0)))], [(r_fitEnd_88, .inl (T.2 0, 49, .inl (fun _ => 0)))], [(r_keptPosts_89, .inl (T.2 0, 7, .inl (fun _ => 0)))]] _ _ := G
        subst h_699
        refine lv_icmp_eq (tgt := 1767) hx hb dL_law_1555 (by decide) (fun _ => ?_) (fun q => absurd (by decide) q)
        refine lv_iinc (v := 6) (lv' := [(3, .int 6), (2, .ref q_74), (1, .ref q_1), (0, .ref b)]) hx hb dL_law_1767 hl (k := 0) rfl (by decide) (by decide) rfl (fun ls hl => ?_)
        refine lv_goto (tgt := 18) hx hb dL_law_1770 (by decide) ?_
        refine lv_iload_n hx hb dL_law_18 rfl (lv_at hl 0 rfl) ?_
        refine lv_aload_n hx hb dL_law_19 rfl (lv_at hl 3 rfl) ?_
        refine va_slen hx hb hX hbl hbA G.2.2.2.1 dL_law_20 ?_
        refine lv_bipush (v := 6) hx hb dL_law_21 (by decide) ?_
        refine lv_isub hx hb dL_law_23 ?_
        refine lv_topi (fun y_701 ey_701 => ?_)
        obtain rfl : y_701 = 0 := ey_701.trans (by decide)
        refine lv_icmp_gt (tgt := 1773) hx hb dL_law_24 (by decide) (fun _ => ?_) (fun q => absurd (by decide) q)
        refine lv_iconst (v := 1) hx hb dL_law_1773 (by decide) ?_
        refine va_forget (fun q hq => by have h9 := G.2.2.2.1.2.2 q hq; rw [hAe] at h9; exact h9) ?_
        refine W.widen (k := 600000) (n := 7302250) (Nat.le_of_ble_eq_true rfl) (Nat.le_of_ble_eq_true rfl) ?_
        exact lw_ret hx hb hr hlocks dL_law_1774
      · refine lv_tableIn (tgt := 1560) hx hb dL_law_33 (by omega) (by omega) (by rw [c_94]; rfl) (by decide) ?_
        refine lv_aload_n hx hb dL_law_1560 rfl (lv_at hl 2 rfl) ?_
        refine lv_aload_n hx hb dL_law_1561 rfl (lv_at hl 3 rfl) ?_
        refine lv_iload_n hx hb dL_law_1562 rfl (lv_at hl 0 rfl) ?_
        refine lv_iconst (v := 1) hx hb dL_law_1563 (by decide) ?_
        refine lv_iadd hx hb dL_law_1564 ?_
        refine lv_topi (fun y_702 ey_702 => ?_)
        obtain rfl : y_702 = 1 := ey_702.trans (by decide)
        refine va_sld hx hb hX hbl hbA G.2.2.2.1 (vp_in_nI (n := 1) (by decide) (by decide)) dL_law_1565 ?_
        refine lv_topi (fun v_703 ev_703 => ?_)
        have ev_703 : v_703 = xs 1 := ev_703
        subst ev_703
        refine lv_aload_n hx hb dL_law_1566 rfl (lv_at hl 3 rfl) ?_
        refine lv_iload_n hx hb dL_law_1567 rfl (lv_at hl 0 rfl) ?_
        refine lv_iconst (v := 2) hx hb dL_law_1568 (by decide) ?_
        refine lv_iadd hx hb dL_law_1569 ?_
        refine lv_topi (fun y_704 ey_704 => ?_)
        obtain rfl : y_704 = 2 := ey_704.trans (by decide)
        refine va_sld hx hb hX hbl hbA G.2.2.2.1 (vp_in_nI (n := 2) (by decide) (by decide)) dL_law_1570 ?_
        refine lv_topi (fun v_705 ev_705 => ?_)
        have ev_705 : v_705 = xs 2 := ev_705
        subst ev_705
        refine lv_aload_n hx hb dL_law_1571 rfl (lv_at hl 3 rfl) ?_
        refine lv_iload_n hx hb dL_law_1572 rfl (lv_at hl 0 rfl) ?_
        refine lv_iconst (v := 3) hx hb dL_law_1573 (by decide) ?_
        refine lv_iadd hx hb dL_law_1574 ?_
        refine lv_topi (fun y_706 ey_706 => ?_)
        obtain rfl : y_706 = 3 := ey_706.trans (by decide)
        refine va_sld hx hb hX hbl hbA G.2.2.2.1 (vp_in_nI (n := 3) (by decide) (by decide)) dL_law_1575 ?_
        refine lv_topi (fun v_707 ev_707 => ?_)
        have ev_707 : v_707 = xs 3 := ev_707
        subst ev_707
        refine lv_aload_n hx hb dL_law_1576 rfl (lv_at hl 3 rfl) ?_
        refine lv_iload_n hx hb dL_law_1577 rfl (lv_at hl 0 rfl) ?_
        refine lv_iconst (v := 4) hx hb dL_law_1578 (by decide) ?_
        refine lv_iadd hx hb dL_law_1579 ?_
        refine lv_topi (fun y_708 ey_708 => ?_)
        obtain rfl : y_708 = 4 := ey_708.trans (by decide)
        refine va_sld hx hb hX hbl hbA G.2.2.2.1 (vp_in_nI (n := 4) (by decide) (by decide)) dL_law_1580 ?_
        refine lv_topi (fun v_709 ev_709 => ?_)
        have ev_709 : v_709 = xs 4 := ev_709
        subst ev_709
        refine lv_aload_n hx hb dL_law_1581 rfl (lv_at hl 3 rfl) ?_
        refine lv_iload_n hx hb dL_law_1582 rfl (lv_at hl 0 rfl) ?_
        refine lv_iconst (v := 5) hx hb dL_law_1583 (by decide) ?_
        refine lv_iadd hx hb dL_law_1584 ?_
        refine lv_topi (fun y_710 ey_710 => ?_)
        obtain rfl : y_710 = 5 := ey_710.trans (by decide)
        refine va_sld hx hb hX hbl hbA G.2.2.2.1 (vp_in_nI (n := 5) (by decide) (by decide)) dL_law_1585 ?_
        refine lv_topi (fun v_711 ev_711 => ?_)
        have ev_711 : v_711 = xs 5 := ev_711
        subst ev_711
        refine lv_if_eq (tgt := 1593) hx hb dL_law_1586 (by decide) (fun c_712 => ?_) (fun c_712 => ?_)
        · have c_712n : (xs 5).toInt = (0 : Int) := (fa_eq _ _).mp c_712
          refine lv_iconst (v := 0) hx hb dL_law_1593 (by decide) ?_
          refine z_Vi (bc := [[(q_1, .inr (10, [.ref t0_2, .ref ia_3, .ref im_4, .ref rd_5, .ref po_6, .ref co_7, .ref tr_8, .ref wa_9, .ref wb_10, .ref fi_11, .ref cd_12]))], [(t0_2, .inr (8, [.ref a1p_13, .int 0, .int 0, .int (-1), .ref a2p_14, .ref a3p_15, .ref a4p_16, .ref a5p_17]))], [(a2p_14, .inl (T.2 0, 3, .inl (fun _ => 0)))]]) (br := [[(a1p_13, .inl (T.2 1, 600, .inl f1p_18))], [(a3p_15, .inl (T.2 3, 2, .inr (.inr (.inr (.inr f3p_19)))))], [(a4p_16, .inl (T.2 4, 2, .inr (.inr (.inr (.inr f4p_20)))))], [(a5p_17, .inl (T.2 5, 2, .inr (.inr (.inr (.inr f5p_21)))))], w1p_28, w2p_29, w3p_30, w4p_31, w5p_32, w6p_33, [(ia_3, .inl (T.2 6, 3, .inr (.inr (.inr (.inr fq_34)))))], u0_38, u1_39, u2_40, [(im_4, .inl (T.2 2, 3, .inl (fun _ => 0)))], v_41, z1_42, z2_43, z3_44, w1_45, w2_46, w3_47, [(cd_12, .inl (T.2 0, 1000, .inl (fun _ => 0)))], [(q_74, .inr (11, [.ref r_all_75, .ref r_has_76, .int 0, .int 0, .int 0, .int 0, .int 0, .int 0, .int 0, .int 0, .ref r_read_77, .int 0, .int 0, .int 0, .ref r_posts_78, .ref r_shut_79, .ref r_here_80, .int 0, .int 0, .int 0, .int 0, .ref r_was_81, .ref r_came_82, .ref r_seenAt_83, .ref r_rowWorth_84, .ref r_farBy_85, .ref r_used_86, .int 0, .int 0, .int 0, .int 0, .int 0, .int 0, .int 0, .int 0, .int 0, .int 0, .int 0, .int 0, .ref r_fitPost_87, .ref r_fitEnd_88, .ref r_keptPosts_89, .int 0]))], [(r_all_75, .inl (T.2 0, 3952, .inl (upd (fun _ => 0) 6 (-1))))], [(r_has_76, .inl (T.2 2, 3, .inl (fun _ => 0)))], [(r_read_77, .inl (T.2 0, 121, .inl (fun _ => 0)))], [(r_posts_78, .inl (T.2 0, 7, .inl (fun _ => 0)))], [(r_shut_79, .inl (T.2 0, 7, .inl (fun _ => 0)))], [(r_here_80, .inl (T.2 0, 7, .inl (fun _ => 0)))], [(r_was_81, .inl (T.2 0, 7, .inl (fun _ => 0)))], [(r_came_82, .inl (T.2 0, 7, .inl (fun _ => 0)))], [(r_seenAt_83, .inl (T.2 0, 16384, .inl (fun _ => 0)))], [(r_rowWorth_84, .inl (T.2 0, 512, .inl (fun _ => 0)))], [(r_farBy_85, .inl (T.2 0, 49, .inl (fun _ => 0)))], [(r_used_86, .inl (T.2 0, 7, .inl (fun _ => 0)))], [(r_fitPost_87, .inl (T.2 0, 28, .inl (fun _ => 0)))], [(r_fitEnd_88, .inl (T.2 0, 49, .inl (fun _ => 0)))], [(r_keptPosts_89, .inl (T.2 0, 7, .inl (fun _ => 0)))]]) (As := [.int (xs 1), .int (xs 2), .int (xs 3), .int (xs 4), .int 0]) (rest := []) C G (c_x_odds l T q_1 t0_2 ia_3 im_4 rd_5 po_6 co_7 tr_8 wa_9 wb_10 fi_11 cd_12 a1p_13 a2p_14 a3p_15 a4p_16 a5p_17 (xs 1) (xs 2) (xs 3) (xs 4) 0) (kV_RL_141 C.2.2.2.2 (Nat.le_of_ble_eq_true rfl) (Nat.le_of_ble_eq_true rfl)) [0, 1, 3] [2, 4, 5, 6, 7, 8, 9, 10, 11, 12, 13, 14, 15, 16, 17, 18, 19, 20, 21, 22, 23, 24, 25, 26, 27, 28, 29, 30, 31, 32, 33, 34, 35, 36, 37, 38, 39, 40, 41] rfl rfl (ci := 10) (qc := (RX11, TX11, 11)) rfl rfl (List.mem_flatten.mpr ⟨_, List.mem_of_getElem? (i := 0) rfl, List.mem_cons_self⟩) rfl rfl hl.1 dL_law_1594 (Nat.le_of_ble_eq_true rfl) (Nat.le_of_ble_eq_true rfl) (fun r_714 b1 H locs hw G => ?_)
          obtain ⟨rfl, h_713⟩ := hw
          have G : zS T A s.heap s [[(a1p_13, .inl (T.2 1, 600, .inl f1p_18))], [(a3p_15, .inl (T.2 3, 2, .inr (.inr (.inr (.inr f3p_19)))))], [(a4p_16, .inl (T.2 4, 2, .inr (.inr (.inr (.inr f4p_20)))))], [(a5p_17, .inl (T.2 5, 2, .inr (.inr (.inr (.inr f5p_21)))))], w1p_28, w2p_29, w3p_30, w4p_31, w5p_32, w6p_33, [(ia_3, .inl (T.2 6, 3, .inr (.inr (.inr (.inr fq_34)))))], u0_38, u1_39, u2_40, [(im_4, .inl (T.2 2, 3, .inl (fun _ => 0)))], v_41, z1_42, z2_43, z3_44, w1_45, w2_46, w3_47, [(cd_12, .inl (T.2 0, 1000, .inl (fun _ => 0)))], [(q_74, .inr (11, [.ref r_all_75, .ref r_has_76, .int 0, .int 0, .int 0, .int 0, .int 0, .int 0, .int 0, .int 0, .ref r_read_77, .int 0, .int 0, .int 0, .ref r_posts_78, .ref r_shut_79, .ref r_here_80, .int 0, .int 0, .int 0, .int 0, .ref r_was_81, .ref r_came_82, .ref r_seenAt_83, .ref r_rowWorth_84, .ref r_farBy_85, .ref r_used_86, .int 0, .int 0, .int 0, .int 0, .int 0, .int 0, .int 0, .int 0, .int 0, .int 0, .int 0, .int 0, .ref r_fitPost_87, .ref r_fitEnd_88, .ref r_keptPosts_89, .int 0]))], [(r_all_75, .inl (T.2 0, 3952, .inl (upd (fun _ => 0) 6 (-1))))], [(r_has_76, .inl (T.2 2, 3, .inl (fun _ => 0)))], [(r_read_77, .inl (T.2 0, 121, .inl (fun _ => 0)))], [(r_posts_78, .inl (T.2 0, 7, .inl (fun _ => 0)))], [(r_shut_79, .inl (T.2 0, 7, .inl (fun _ => 0)))], [(r_here_80, .inl (T.2 0, 7, .inl (fun _ => 0)))], [(r_was_81, .inl (T.2 0, 7, .inl (fun _ => 0)))], [(r_came_82, .inl (T.2 0, 7, .inl (fun _ => 0)))], [(r_seenAt_83, .inl (T.2 0, 16384, .inl (fun _ => 0)))], [(r_rowWorth_84, .inl (T.2 0, 512, .inl (fun _ => 0)))], [(r_farBy_85, .inl (T.2 0, 49, .inl (fun _ => 0)))], [(r_used_86, .inl (T.2 0, 7, .inl (fun _ => 0)))], [(r_fitPost_87, .inl (T.2 0, 28, .inl (fun _ => 0)))], [(r_fitEnd_88, .inl (T.2 0, 49, .inl (fun _ => 0)))], [(r_keptPosts_89, .inl (T.2 0, 7, .inl (fun _ => 0)))]] _ _ := G
          subst h_713
          refine lv_aload_n hx hb dL_law_1597 rfl (lv_at hl 1 rfl) ?_
          refine lv_aload_n hx hb dL_law_1598 rfl (lv_at hl 3 rfl) ?_
          refine lv_iload_n hx hb dL_law_1599 rfl (lv_at hl 0 rfl) ?_
          refine lv_iconst (v := 1) hx hb dL_law_1600 (by decide) ?_
          refine lv_iadd hx hb dL_law_1601 ?_
          refine lv_topi (fun y_715 ey_715 => ?_)
          obtain rfl : y_715 = 1 := ey_715.trans (by decide)
          refine va_sld hx hb hX hbl hbA G.2.2.2.1 (vp_in_nI (n := 1) (by decide) (by decide)) dL_law_1602 ?_
          refine lv_topi (fun v_716 ev_716 => ?_)
          have ev_716 : v_716 = xs 1 := ev_716
          subst ev_716
          refine lv_aload_n hx hb dL_law_1603 rfl (lv_at hl 3 rfl) ?_
          refine lv_iload_n hx hb dL_law_1604 rfl (lv_at hl 0 rfl) ?_
          refine lv_iconst (v := 2) hx hb dL_law_1605 (by decide) ?_
          refine lv_iadd hx hb dL_law_1606 ?_
          refine lv_topi (fun y_717 ey_717 => ?_)
          obtain rfl : y_717 = 2 := ey_717.trans (by decide)
          refine va_sld hx hb hX hbl hbA G.2.2.2.1 (vp_in_nI (n := 2) (by decide) (by decide)) dL_law_1607 ?_
          refine lv_topi (fun v_718 ev_718 => ?_)
          have ev_718 : v_718 = xs 2 := ev_718
          subst ev_718
          refine lv_aload_n hx hb dL_law_1608 rfl (lv_at hl 3 rfl) ?_
          refine lv_iload_n hx hb dL_law_1609 rfl (lv_at hl 0 rfl) ?_
          refine lv_iconst (v := 3) hx hb dL_law_1610 (by decide) ?_
          refine lv_iadd hx hb dL_law_1611 ?_
          refine lv_topi (fun y_719 ey_719 => ?_)
          obtain rfl : y_719 = 3 := ey_719.trans (by decide)
          refine va_sld hx hb hX hbl hbA G.2.2.2.1 (vp_in_nI (n := 3) (by decide) (by decide)) dL_law_1612 ?_
          refine lv_topi (fun v_720 ev_720 => ?_)
          have ev_720 : v_720 = xs 3 := ev_720
          subst ev_720
          refine lv_aload_n hx hb dL_law_1613 rfl (lv_at hl 3 rfl) ?_
          refine lv_iload_n hx hb dL_law_1614 rfl (lv_at hl 0 rfl) ?_
          refine lv_iconst (v := 4) hx hb dL_law_1615 (by decide) ?_
          refine lv_iadd hx hb dL_law_1616 ?_
          refine lv_topi (fun y_721 ey_721 => ?_)
          obtain rfl : y_721 = 4 := ey_721.trans (by decide)
          refine va_sld hx hb hX hbl hbA G.2.2.2.1 (vp_in_nI (n := 4) (by decide) (by decide)) dL_law_1617 ?_
          refine lv_topi (fun v_722 ev_722 => ?_)
          have ev_722 : v_722 = xs 4 := ev_722
          subst ev_722
          refine lv_aload_n hx hb dL_law_1618 rfl (lv_at hl 3 rfl) ?_
          refine lv_iload_n hx hb dL_law_1619 rfl (lv_at hl 0 rfl) ?_
          refine lv_iconst (v := 5) hx hb dL_law_1620 (by decide) ?_
          refine lv_iadd hx hb dL_law_1621 ?_
          refine lv_topi (fun y_723 ey_723 => ?_)
          obtain rfl : y_723 = 5 := ey_723.trans (by decide)
          refine va_sld hx hb hX hbl hbA G.2.2.2.1 (vp_in_nI (n := 5) (by decide) (by decide)) dL_law_1622 ?_
          refine lv_topi (fun v_724 ev_724 => ?_)
          have ev_724 : v_724 = xs 5 := ev_724
          subst ev_724
          refine lv_if_eq (tgt := 1630) hx hb dL_law_1623 (by decide) (fun _ => ?_) (fun q => absurd c_712 q)
          refine lv_iconst (v := 0) hx hb dL_law_1630 (by decide) ?_
          refine z_Vi (bc := [[(q_74, .inr (11, [.ref r_all_75, .ref r_has_76, .int 0, .int 0, .int 0, .int 0, .int 0, .int 0, .int 0, .int 0, .ref r_read_77, .int 0, .int 0, .int 0, .ref r_posts_78, .ref r_shut_79, .ref r_here_80, .int 0, .int 0, .int 0, .int 0, .ref r_was_81, .ref r_came_82, .ref r_seenAt_83, .ref r_rowWorth_84, .ref r_farBy_85, .ref r_used_86, .int 0, .int 0, .int 0, .int 0, .int 0, .int 0, .int 0, .int 0, .int 0, .int 0, .int 0, .int 0, .ref r_fitPost_87, .ref r_fitEnd_88, .ref r_keptPosts_89, .int 0]))], [(r_all_75, .inl (T.2 0, 3952, .inl (upd (fun _ => 0) 6 (-1))))]]) (br := [[(a1p_13, .inl (T.2 1, 600, .inl f1p_18))], [(a3p_15, .inl (T.2 3, 2, .inr (.inr (.inr (.inr f3p_19)))))], [(a4p_16, .inl (T.2 4, 2, .inr (.inr (.inr (.inr f4p_20)))))], [(a5p_17, .inl (T.2 5, 2, .inr (.inr (.inr (.inr f5p_21)))))], w1p_28, w2p_29, w3p_30, w4p_31, w5p_32, w6p_33, [(ia_3, .inl (T.2 6, 3, .inr (.inr (.inr (.inr fq_34)))))], u0_38, u1_39, u2_40, [(im_4, .inl (T.2 2, 3, .inl (fun _ => 0)))], v_41, z1_42, z2_43, z3_44, w1_45, w2_46, w3_47, [(cd_12, .inl (T.2 0, 1000, .inl (fun _ => 0)))], [(r_has_76, .inl (T.2 2, 3, .inl (fun _ => 0)))], [(r_read_77, .inl (T.2 0, 121, .inl (fun _ => 0)))], [(r_posts_78, .inl (T.2 0, 7, .inl (fun _ => 0)))], [(r_shut_79, .inl (T.2 0, 7, .inl (fun _ => 0)))], [(r_here_80, .inl (T.2 0, 7, .inl (fun _ => 0)))], [(r_was_81, .inl (T.2 0, 7, .inl (fun _ => 0)))], [(r_came_82, .inl (T.2 0, 7, .inl (fun _ => 0)))], [(r_seenAt_83, .inl (T.2 0, 16384, .inl (fun _ => 0)))], [(r_rowWorth_84, .inl (T.2 0, 512, .inl (fun _ => 0)))], [(r_farBy_85, .inl (T.2 0, 49, .inl (fun _ => 0)))], [(r_used_86, .inl (T.2 0, 7, .inl (fun _ => 0)))], [(r_fitPost_87, .inl (T.2 0, 28, .inl (fun _ => 0)))], [(r_fitEnd_88, .inl (T.2 0, 49, .inl (fun _ => 0)))], [(r_keptPosts_89, .inl (T.2 0, 7, .inl (fun _ => 0)))]]) (As := [.int (xs 1), .int (xs 2), .int (xs 3), .int (xs 4), .int 0]) (rest := [.int (-1)]) C G (c_m_odds l T q_74 r_all_75 r_has_76 r_read_77 r_posts_78 r_shut_79 r_here_80 r_was_81 r_came_82 r_seenAt_83 r_rowWorth_84 r_farBy_85 r_used_86 r_fitPost_87 r_fitEnd_88 r_keptPosts_89 (xs 1) (xs 2) (xs 3) (xs 4) 0) (kV_RL_145 C.2.2.2.2 (Nat.le_of_ble_eq_true rfl) (Nat.le_of_ble_eq_true rfl)) [23, 24] [0, 1, 2, 3, 4, 5, 6, 7, 8, 9, 10, 11, 12, 13, 14, 15, 16, 17, 18, 19, 20, 21, 22, 25, 26, 27, 28, 29, 30, 31, 32, 33, 34, 35, 36, 37, 38] rfl rfl (ci := 11) (qc := (RX12, TX12, 43)) rfl rfl (List.mem_flatten.mpr ⟨_, List.mem_of_getElem? (i := 0) rfl, List.mem_cons_self⟩) rfl rfl hl.1 dL_law_1631 (Nat.le_of_ble_eq_true rfl) (Nat.le_of_ble_eq_true rfl) (fun r_726 b1 H locs hw G => ?_)
          obtain ⟨rfl, h_725⟩ := hw
          have G : zS T A s.heap s [[(a1p_13, .inl (T.2 1, 600, .inl f1p_18))], [(a3p_15, .inl (T.2 3, 2, .inr (.inr (.inr (.inr f3p_19)))))], [(a4p_16, .inl (T.2 4, 2, .inr (.inr (.inr (.inr f4p_20)))))], [(a5p_17, .inl (T.2 5, 2, .inr (.inr (.inr (.inr f5p_21)))))], w1p_28, w2p_29, w3p_30, w4p_31, w5p_32, w6p_33, [(ia_3, .inl (T.2 6, 3, .inr (.inr (.inr (.inr fq_34)))))], u0_38, u1_39, u2_40, [(im_4, .inl (T.2 2, 3, .inl (fun _ => 0)))], v_41, z1_42, z2_43, z3_44, w1_45, w2_46, w3_47, [(cd_12, .inl (T.2 0, 1000, .inl (fun _ => 0)))], [(r_has_76, .inl (T.2 2, 3, .inl (fun _ => 0)))], [(r_read_77, .inl (T.2 0, 121, .inl (fun _ => 0)))], [(r_posts_78, .inl (T.2 0, 7, .inl (fun _ => 0)))], [(r_shut_79, .inl (T.2 0, 7, .inl (fun _ => 0)))], [(r_here_80, .inl (T.2 0, 7, .inl (fun _ => 0)))], [(r_was_81, .inl (T.2 0, 7, .inl (fun _ => 0)))], [(r_came_82, .inl (T.2 0, 7, .inl (fun _ => 0)))], [(r_seenAt_83, .inl (T.2 0, 16384, .inl (fun _ => 0)))], [(r_rowWorth_84, .inl (T.2 0, 512, .inl (fun _ => 0)))], [(r_farBy_85, .inl (T.2 0, 49, .inl (fun _ => 0)))], [(r_used_86, .inl (T.2 0, 7, .inl (fun _ => 0)))], [(r_fitPost_87, .inl (T.2 0, 28, .inl (fun _ => 0)))], [(r_fitEnd_88, .inl (T.2 0, 49, .inl (fun _ => 0)))], [(r_keptPosts_89, .inl (T.2 0, 7, .inl (fun _ => 0)))]] _ _ := G
          subst h_725
          refine lv_icmp_eq (tgt := 1767) hx hb dL_law_1634 (by decide) (fun _ => ?_) (fun q => absurd (by decide) q)
          refine lv_iinc (v := 6) (lv' := [(3, .int 6), (2, .ref q_74), (1, .ref q_1), (0, .ref b)]) hx hb dL_law_1767 hl (k := 0) rfl (by decide) (by decide) rfl (fun ls hl => ?_)
          refine lv_goto (tgt := 18) hx hb dL_law_1770 (by decide) ?_
          refine lv_iload_n hx hb dL_law_18 rfl (lv_at hl 0 rfl) ?_
          refine lv_aload_n hx hb dL_law_19 rfl (lv_at hl 3 rfl) ?_
          refine va_slen hx hb hX hbl hbA G.2.2.2.1 dL_law_20 ?_
          refine lv_bipush (v := 6) hx hb dL_law_21 (by decide) ?_
          refine lv_isub hx hb dL_law_23 ?_
          refine lv_topi (fun y_727 ey_727 => ?_)
          obtain rfl : y_727 = 0 := ey_727.trans (by decide)
          refine lv_icmp_gt (tgt := 1773) hx hb dL_law_24 (by decide) (fun _ => ?_) (fun q => absurd (by decide) q)
          refine lv_iconst (v := 1) hx hb dL_law_1773 (by decide) ?_
          refine va_forget (fun q hq => by have h9 := G.2.2.2.1.2.2 q hq; rw [hAe] at h9; exact h9) ?_
          refine W.widen (k := 600000) (n := 7302250) (Nat.le_of_ble_eq_true rfl) (Nat.le_of_ble_eq_true rfl) ?_
          exact lw_ret hx hb hr hlocks dL_law_1774
        · have c_712n : ¬ (xs 5).toInt = (0 : Int) := fun q => c_712 ((fa_eq _ _).mpr q)
          refine lv_iconst (v := 1) hx hb dL_law_1589 (by decide) ?_
          refine lv_goto (tgt := 1594) hx hb dL_law_1590 (by decide) ?_
          refine z_Vi (bc := [[(q_1, .inr (10, [.ref t0_2, .ref ia_3, .ref im_4, .ref rd_5, .ref po_6, .ref co_7, .ref tr_8, .ref wa_9, .ref wb_10, .ref fi_11, .ref cd_12]))], [(t0_2, .inr (8, [.ref a1p_13, .int 0, .int 0, .int (-1), .ref a2p_14, .ref a3p_15, .ref a4p_16, .ref a5p_17]))], [(a2p_14, .inl (T.2 0, 3, .inl (fun _ => 0)))]]) (br := [[(a1p_13, .inl (T.2 1, 600, .inl f1p_18))], [(a3p_15, .inl (T.2 3, 2, .inr (.inr (.inr (.inr f3p_19)))))], [(a4p_16, .inl (T.2 4, 2, .inr (.inr (.inr (.inr f4p_20)))))], [(a5p_17, .inl (T.2 5, 2, .inr (.inr (.inr (.inr f5p_21)))))], w1p_28, w2p_29, w3p_30, w4p_31, w5p_32, w6p_33, [(ia_3, .inl (T.2 6, 3, .inr (.inr (.inr (.inr fq_34)))))], u0_38, u1_39, u2_40, [(im_4, .inl (T.2 2, 3, .inl (fun _ => 0)))], v_41, z1_42, z2_43, z3_44, w1_45, w2_46, w3_47, [(cd_12, .inl (T.2 0, 1000, .inl (fun _ => 0)))], [(q_74, .inr (11, [.ref r_all_75, .ref r_has_76, .int 0, .int 0, .int 0, .int 0, .int 0, .int 0, .int 0, .int 0, .ref r_read_77, .int 0, .int 0, .int 0, .ref r_posts_78, .ref r_shut_79, .ref r_here_80, .int 0, .int 0, .int 0, .int 0, .ref r_was_81, .ref r_came_82, .ref r_seenAt_83, .ref r_rowWorth_84, .ref r_farBy_85, .ref r_used_86, .int 0, .int 0, .int 0, .int 0, .int 0, .int 0, .int 0, .int 0, .int 0, .int 0, .int 0, .int 0, .ref r_fitPost_87, .ref r_fitEnd_88, .ref r_keptPosts_89, .int 0]))], [(r_all_75, .inl (T.2 0, 3952, .inl (upd (fun _ => 0) 6 (-1))))], [(r_has_76, .inl (T.2 2, 3, .inl (fun _ => 0)))], [(r_read_77, .inl (T.2 0, 121, .inl (fun _ => 0)))], [(r_posts_78, .inl (T.2 0, 7, .inl (fun _ => 0)))], [(r_shut_79, .inl (T.2 0, 7, .inl (fun _ => 0)))], [(r_here_80, .inl (T.2 0, 7, .inl (fun _ => 0)))], [(r_was_81, .inl (T.2 0, 7, .inl (fun _ => 0)))], [(r_came_82, .inl (T.2 0, 7, .inl (fun _ => 0)))], [(r_seenAt_83, .inl (T.2 0, 16384, .inl (fun _ => 0)))], [(r_rowWorth_84, .inl (T.2 0, 512, .inl (fun _ => 0)))], [(r_farBy_85, .inl (T.2 0, 49, .inl (fun _ => 0)))], [(r_used_86, .inl (T.2 0, 7, .inl (fun _ => 0)))], [(r_fitPost_87, .inl (T.2 0, 28, .inl (fun _ => 0)))], [(r_fitEnd_88, .inl (T.2 0, 49, .inl (fun _ => 0)))], [(r_keptPosts_89, .inl (T.2 0, 7, .inl (fun _ => 0)))]]) (As := [.int (xs 1), .int (xs 2), .int (xs 3), .int (xs 4), .int 1]) (rest := []) C G (c_x_odds l T q_1 t0_2 ia_3 im_4 rd_5 po_6 co_7 tr_8 wa_9 wb_10 fi_11 cd_12 a1p_13 a2p_14 a3p_15 a4p_16 a5p_17 (xs 1) (xs 2) (xs 3) (xs 4) 1) (kV_RL_141 C.2.2.2.2 (Nat.le_of_ble_eq_true rfl) (Nat.le_of_ble_eq_true rfl)) [0, 1, 3] [2, 4, 5, 6, 7, 8, 9, 10, 11, 12, 13, 14, 15, 16, 17, 18, 19, 20, 21, 22, 23, 24, 25, 26, 27, 28, 29, 30, 31, 32, 33, 34, 35, 36, 37, 38, 39, 40, 41] rfl rfl (ci := 10) (qc := (RX11, TX11, 11)) rfl rfl (List.mem_flatten.mpr ⟨_, List.mem_of_getElem? (i := 0) rfl, List.mem_cons_self⟩) rfl rfl hl.1 dL_law_1594 (Nat.le_of_ble_eq_true rfl) (Nat.le_of_ble_eq_true rfl) (fun r_729 b1 H locs hw G => ?_)
          obtain ⟨rfl, h_728⟩ := hw
          have G : zS T A s.heap s [[(a1p_13, .inl (T.2 1, 600, .inl f1p_18))], [(a3p_15, .inl (T.2 3, 2, .inr (.inr (.inr (.inr f3p_19)))))], [(a4p_16, .inl (T.2 4, 2, .inr (.inr (.inr (.inr f4p_20)))))], [(a5p_17, .inl (T.2 5, 2, .inr (.inr (.inr (.inr f5p_21)))))], w1p_28, w2p_29, w3p_30, w4p_31, w5p_32, w6p_33, [(ia_3, .inl (T.2 6, 3, .inr (.inr (.inr (.inr fq_34)))))], u0_38, u1_39, u2_40, [(im_4, .inl (T.2 2, 3, .inl (fun _ => 0)))], v_41, z1_42, z2_43, z3_44, w1_45, w2_46, w3_47, [(cd_12, .inl (T.2 0, 1000, .inl (fun _ => 0)))], [(q_74, .inr (11, [.ref r_all_75, .ref r_has_76, .int 0, .int 0, .int 0, .int 0, .int 0, .int 0, .int 0, .int 0, .ref r_read_77, .int 0, .int 0, .int 0, .ref r_posts_78, .ref r_shut_79, .ref r_here_80, .int 0, .int 0, .int 0, .int 0, .ref r_was_81, .ref r_came_82, .ref r_seenAt_83, .ref r_rowWorth_84, .ref r_farBy_85, .ref r_used_86, .int 0, .int 0, .int 0, .int 0, .int 0, .int 0, .int 0, .int 0, .int 0, .int 0, .int 0, .int 0, .ref r_fitPost_87, .ref r_fitEnd_88, .ref r_keptPosts_89, .int 0]))], [(r_all_75, .inl (T.2 0, 3952, .inl (upd (fun _ => 0) 6 (-1))))], [(r_has_76, .inl (T.2 2, 3, .inl (fun _ => 0)))], [(r_read_77, .inl (T.2 0, 121, .inl (fun _ => 0)))], [(r_posts_78, .inl (T.2 0, 7, .inl (fun _ => 0)))], [(r_shut_79, .inl (T.2 0, 7, .inl (fun _ => 0)))], [(r_here_80, .inl (T.2 0, 7, .inl (fun _ => 0)))], [(r_was_81, .inl (T.2 0, 7, .inl (fun _ => 0)))], [(r_came_82, .inl (T.2 0, 7, .inl (fun _ => 0)))], [(r_seenAt_83, .inl (T.2 0, 16384, .inl (fun _ => 0)))], [(r_rowWorth_84, .inl (T.2 0, 512, .inl (fun _ => 0)))], [(r_farBy_85, .inl (T.2 0, 49, .inl (fun _ => 0)))], [(r_used_86, .inl (T.2 0, 7, .inl (fun _ => 0)))], [(r_fitPost_87, .inl (T.2 0, 28, .inl (fun _ => 0)))], [(r_fitEnd_88, .inl (T.2 0, 49, .inl (fun _ => 0)))], [(r_keptPosts_89, .inl (T.2 0, 7, .inl (fun _ => 0)))]] _ _ := G
          subst h_728
          refine lv_aload_n hx hb dL_law_1597 rfl (lv_at hl 1 rfl) ?_
          refine lv_aload_n hx hb dL_law_1598 rfl (lv_at hl 3 rfl) ?_
          refine lv_iload_n hx hb dL_law_1599 rfl (lv_at hl 0 rfl) ?_
          refine lv_iconst (v := 1) hx hb dL_law_1600 (by decide) ?_
          refine lv_iadd hx hb dL_law_1601 ?_
          refine lv_topi (fun y_730 ey_730 => ?_)
          obtain rfl : y_730 = 1 := ey_730.trans (by decide)
          refine va_sld hx hb hX hbl hbA G.2.2.2.1 (vp_in_nI (n := 1) (by decide) (by decide)) dL_law_1602 ?_
          refine lv_topi (fun v_731 ev_731 => ?_)
          have ev_731 : v_731 = xs 1 := ev_731
          subst ev_731
          refine lv_aload_n hx hb dL_law_1603 rfl (lv_at hl 3 rfl) ?_
          refine lv_iload_n hx hb dL_law_1604 rfl (lv_at hl 0 rfl) ?_
          refine lv_iconst (v := 2) hx hb dL_law_1605 (by decide) ?_
          refine lv_iadd hx hb dL_law_1606 ?_
          refine lv_topi (fun y_732 ey_732 => ?_)
          obtain rfl : y_732 = 2 := ey_732.trans (by decide)
          refine va_sld hx hb hX hbl hbA G.2.2.2.1 (vp_in_nI (n := 2) (by decide) (by decide)) dL_law_1607 ?_
          refine lv_topi (fun v_733 ev_733 => ?_)
          have ev_733 : v_733 = xs 2 := ev_733
          subst ev_733
          refine lv_aload_n hx hb dL_law_1608 rfl (lv_at hl 3 rfl) ?_
          refine lv_iload_n hx hb dL_law_1609 rfl (lv_at hl 0 rfl) ?_
          refine lv_iconst (v := 3) hx hb dL_law_1610 (by decide) ?_
          refine lv_iadd hx hb dL_law_1611 ?_
          refine lv_topi (fun y_734 ey_734 => ?_)
          obtain rfl : y_734 = 3 := ey_734.trans (by decide)
          refine va_sld hx hb hX hbl hbA G.2.2.2.1 (vp_in_nI (n := 3) (by decide) (by decide)) dL_law_1612 ?_
          refine lv_topi (fun v_735 ev_735 => ?_)
          have ev_735 : v_735 = xs 3 := ev_735
          subst ev_735
          refine lv_aload_n hx hb dL_law_1613 rfl (lv_at hl 3 rfl) ?_
          refine lv_iload_n hx hb dL_law_1614 rfl (lv_at hl 0 rfl) ?_
          refine lv_iconst (v := 4) hx hb dL_law_1615 (by decide) ?_
          refine lv_iadd hx hb dL_law_1616 ?_
          refine lv_topi (fun y_736 ey_736 => ?_)
          obtain rfl : y_736 = 4 := ey_736.trans (by decide)
          refine va_sld hx hb hX hbl hbA G.2.2.2.1 (vp_in_nI (n := 4) (by decide) (by decide)) dL_law_1617 ?_
          refine lv_topi (fun v_737 ev_737 => ?_)
          have ev_737 : v_737 = xs 4 := ev_737
          subst ev_737
          refine lv_aload_n hx hb dL_law_1618 rfl (lv_at hl 3 rfl) ?_
          refine lv_iload_n hx hb dL_law_1619 rfl (lv_at hl 0 rfl) ?_
          refine lv_iconst (v := 5) hx hb dL_law_1620 (by decide) ?_
          refine lv_iadd hx hb dL_law_1621 ?_
          refine lv_topi (fun y_738 ey_738 => ?_)
          obtain rfl : y_738 = 5 := ey_738.trans (by decide)
          refine va_sld hx hb hX hbl hbA G.2.2.2.1 (vp_in_nI (n := 5) (by decide) (by decide)) dL_law_1622 ?_
          refine lv_topi (fun v_739 ev_739 => ?_)
          have ev_739 : v_739 = xs 5 := ev_739
          subst ev_739
          refine lv_if_eq (tgt := 1630) hx hb dL_law_1623 (by decide) (fun q => absurd q c_712) (fun _ => ?_)
          refine lv_iconst (v := 1) hx hb dL_law_1626 (by decide) ?_
          refine lv_goto (tgt := 1631) hx hb dL_law_1627 (by decide) ?_
          refine z_Vi (bc := [[(q_74, .inr (11, [.ref r_all_75, .ref r_has_76, .int 0, .int 0, .int 0, .int 0, .int 0, .int 0, .int 0, .int 0, .ref r_read_77, .int 0, .int 0, .int 0, .ref r_posts_78, .ref r_shut_79, .ref r_here_80, .int 0, .int 0, .int 0, .int 0, .ref r_was_81, .ref r_came_82, .ref r_seenAt_83, .ref r_rowWorth_84, .ref r_farBy_85, .ref r_used_86, .int 0, .int 0, .int 0, .int 0, .int 0, .int 0, .int 0, .int 0, .int 0, .int 0, .int 0, .int 0, .ref r_fitPost_87, .ref r_fitEnd_88, .ref r_keptPosts_89, .int 0]))], [(r_all_75, .inl (T.2 0, 3952, .inl (upd (fun _ => 0) 6 (-1))))]]) (br := [[(a1p_13, .inl (T.2 1, 600, .inl f1p_18))], [(a3p_15, .inl (T.2 3, 2, .inr (.inr (.inr (.inr f3p_19)))))], [(a4p_16, .inl (T.2 4, 2, .inr (.inr (.inr (.inr f4p_20)))))], [(a5p_17, .inl (T.2 5, 2, .inr (.inr (.inr (.inr f5p_21)))))], w1p_28, w2p_29, w3p_30, w4p_31, w5p_32, w6p_33, [(ia_3, .inl (T.2 6, 3, .inr (.inr (.inr (.inr fq_34)))))], u0_38, u1_39, u2_40, [(im_4, .inl (T.2 2, 3, .inl (fun _ => 0)))], v_41, z1_42, z2_43, z3_44, w1_45, w2_46, w3_47, [(cd_12, .inl (T.2 0, 1000, .inl (fun _ => 0)))], [(r_has_76, .inl (T.2 2, 3, .inl (fun _ => 0)))], [(r_read_77, .inl (T.2 0, 121, .inl (fun _ => 0)))], [(r_posts_78, .inl (T.2 0, 7, .inl (fun _ => 0)))], [(r_shut_79, .inl (T.2 0, 7, .inl (fun _ => 0)))], [(r_here_80, .inl (T.2 0, 7, .inl (fun _ => 0)))], [(r_was_81, .inl (T.2 0, 7, .inl (fun _ => 0)))], [(r_came_82, .inl (T.2 0, 7, .inl (fun _ => 0)))], [(r_seenAt_83, .inl (T.2 0, 16384, .inl (fun _ => 0)))], [(r_rowWorth_84, .inl (T.2 0, 512, .inl (fun _ => 0)))], [(r_farBy_85, .inl (T.2 0, 49, .inl (fun _ => 0)))], [(r_used_86, .inl (T.2 0, 7, .inl (fun _ => 0)))], [(r_fitPost_87, .inl (T.2 0, 28, .inl (fun _ => 0)))], [(r_fitEnd_88, .inl (T.2 0, 49, .inl (fun _ => 0)))], [(r_keptPosts_89, .inl (T.2 0, 7, .inl (fun _ => 0)))]]) (As := [.int (xs 1), .int (xs 2), .int (xs 3), .int (xs 4), .int 1]) (rest := [.int (-1)]) C G (c_m_odds l T q_74 r_all_75 r_has_76 r_read_77 r_posts_78 r_shut_79 r_here_80 r_was_81 r_came_82 r_seenAt_83 r_rowWorth_84 r_farBy_85 r_used_86 r_fitPost_87 r_fitEnd_88 r_keptPosts_89 (xs 1) (xs 2) (xs 3) (xs 4) 1) (kV_RL_145 C.2.2.2.2 (Nat.le_of_ble_eq_true rfl) (Nat.le_of_ble_eq_true rfl)) [23, 24] [0, 1, 2, 3, 4, 5, 6, 7, 8, 9, 10, 11, 12, 13, 14, 15, 16, 17, 18, 19, 20, 21, 22, 25, 26, 27, 28, 29, 30, 31, 32, 33, 34, 35, 36, 37, 38] rfl rfl (ci := 11) (qc := (RX12, TX12, 43)) rfl rfl (List.mem_flatten.mpr ⟨_, List.mem_of_getElem? (i := 0) rfl, List.mem_cons_self⟩) rfl rfl hl.1 dL_law_1631 (Nat.le_of_ble_eq_true rfl) (Nat.le_of_ble_eq_true rfl) (fun r_741 b1 H locs hw G => ?_)
          obtain ⟨rfl, h_740⟩ := hw
          have G : zS T A s.heap s [[(a1p_13, .inl (T.2 1, 600, .inl f1p_18))], [(a3p_15, .inl (T.2 3, 2, .inr (.inr (.inr (.inr f3p_19)))))], [(a4p_16, .inl (T.2 4, 2, .inr (.inr (.inr (.inr f4p_20)))))], [(a5p_17, .inl (T.2 5, 2, .inr (.inr (.inr (.inr f5p_21)))))], w1p_28, w2p_29, w3p_30, w4p_31, w5p_32, w6p_33, [(ia_3, .inl (T.2 6, 3, .inr (.inr (.inr (.inr fq_34)))))], u0_38, u1_39, u2_40, [(im_4, .inl (T.2 2, 3, .inl (fun _ => 0)))], v_41, z1_42, z2_43, z3_44, w1_45, w2_46, w3_47, [(cd_12, .inl (T.2 0, 1000, .inl (fun _ => 0)))], [(r_has_76, .inl (T.2 2, 3, .inl (fun _ => 0)))], [(r_read_77, .inl (T.2 0, 121, .inl (fun _ => 0)))], [(r_posts_78, .inl (T.2 0, 7, .inl (fun _ => 0)))], [(r_shut_79, .inl (T.2 0, 7, .inl (fun _ => 0)))], [(r_here_80, .inl (T.2 0, 7, .inl (fun _ => 0)))], [(r_was_81, .inl (T.2 0, 7, .inl (fun _ => 0)))], [(r_came_82, .inl (T.2 0, 7, .inl (fun _ => 0)))], [(r_seenAt_83, .inl (T.2 0, 16384, .inl (fun _ => 0)))], [(r_rowWorth_84, .inl (T.2 0, 512, .inl (fun _ => 0)))], [(r_farBy_85, .inl (T.2 0, 49, .inl (fun _ => 0)))], [(r_used_86, .inl (T.2 0, 7, .inl (fun _ => 0)))], [(r_fitPost_87, .inl (T.2 0, 28, .inl (fun _ => 0)))], [(r_fitEnd_88, .inl (T.2 0, 49, .inl (fun _ => 0)))], [(r_keptPosts_89, .inl (T.2 0, 7, .inl (fun _ => 0)))]] _ _ := G
          subst h_740
          refine lv_icmp_eq (tgt := 1767) hx hb dL_law_1634 (by decide) (fun _ => ?_) (fun q => absurd (by decide) q)
          refine lv_iinc (v := 6) (lv' := [(3, .int 6), (2, .ref q_74), (1, .ref q_1), (0, .ref b)]) hx hb dL_law_1767 hl (k := 0) rfl (by decide) (by decide) rfl (fun ls hl => ?_)
          refine lv_goto (tgt := 18) hx hb dL_law_1770 (by decide) ?_
          refine lv_iload_n hx hb dL_law_18 rfl (lv_at hl 0 rfl) ?_
          refine lv_aload_n hx hb dL_law_19 rfl (lv_at hl 3 rfl) ?_
          refine va_slen hx hb hX hbl hbA G.2.2.2.1 dL_law_20 ?_
          refine lv_bipush (v := 6) hx hb dL_law_21 (by decide) ?_
          refine lv_isub hx hb dL_law_23 ?_
          refine lv_topi (fun y_742 ey_742 => ?_)
          obtain rfl : y_742 = 0 := ey_742.trans (by decide)
          refine lv_icmp_gt (tgt := 1773) hx hb dL_law_24 (by decide) (fun _ => ?_) (fun q => absurd (by decide) q)
          refine lv_iconst (v := 1) hx hb dL_law_1773 (by decide) ?_
          refine va_forget (fun q hq => by have h9 := G.2.2.2.1.2.2 q hq; rw [hAe] at h9; exact h9) ?_
          refine W.widen (k := 600000) (n := 7302250) (Nat.le_of_ble_eq_true rfl) (Nat.le_of_ble_eq_true rfl) ?_
          exact lw_ret hx hb hr hlocks dL_law_1774
      · refine lv_tableIn (tgt := 1639) hx hb dL_law_33 (by omega) (by omega) (by rw [c_94]; rfl) (by decide) ?_
        refine lv_aload_n hx hb dL_law_1639 rfl (lv_at hl 2 rfl) ?_
        refine lv_aload_n hx hb dL_law_1640 rfl (lv_at hl 3 rfl) ?_
        refine lv_iload_n hx hb dL_law_1641 rfl (lv_at hl 0 rfl) ?_
        refine lv_iconst (v := 1) hx hb dL_law_1642 (by decide) ?_
        refine lv_iadd hx hb dL_law_1643 ?_
        refine lv_topi (fun y_743 ey_743 => ?_)
        obtain rfl : y_743 = 1 := ey_743.trans (by decide)
        refine va_sld hx hb hX hbl hbA G.2.2.2.1 (vp_in_nI (n := 1) (by decide) (by decide)) dL_law_1644 ?_
        refine lv_topi (fun v_744 ev_744 => ?_)
        have ev_744 : v_744 = xs 1 := ev_744
        subst ev_744
        refine lv_aload_n hx hb dL_law_1645 rfl (lv_at hl 3 rfl) ?_
        refine lv_iload_n hx hb dL_law_1646 rfl (lv_at hl 0 rfl) ?_
        refine lv_iconst (v := 2) hx hb dL_law_1647 (by decide) ?_
        refine lv_iadd hx hb dL_law_1648 ?_
        refine lv_topi (fun y_745 ey_745 => ?_)
        obtain rfl : y_745 = 2 := ey_745.trans (by decide)
        refine va_sld hx hb hX hbl hbA G.2.2.2.1 (vp_in_nI (n := 2) (by decide) (by decide)) dL_law_1649 ?_
        refine lv_topi (fun v_746 ev_746 => ?_)
        have ev_746 : v_746 = xs 2 := ev_746
        subst ev_746
        refine lv_aload_n hx hb dL_law_1650 rfl (lv_at hl 3 rfl) ?_
        refine lv_iload_n hx hb dL_law_1651 rfl (lv_at hl 0 rfl) ?_
        refine lv_iconst (v := 3) hx hb dL_law_1652 (by decide) ?_
        refine lv_iadd hx hb dL_law_1653 ?_
        refine lv_topi (fun y_747 ey_747 => ?_)
        obtain rfl : y_747 = 3 := ey_747.trans (by decide)
        refine va_sld hx hb hX hbl hbA G.2.2.2.1 (vp_in_nI (n := 3) (by decide) (by decide)) dL_law_1654 ?_
        refine lv_topi (fun v_748 ev_748 => ?_)
        have ev_748 : v_748 = xs 3 := ev_748
        subst ev_748
        refine lv_if_eq (tgt := 1662) hx hb dL_law_1655 (by decide) (fun c_749 => ?_) (fun c_749 => ?_)
        · have c_749n : (xs 3).toInt = (0 : Int) := (fa_eq _ _).mp c_749
          refine lv_iconst (v := 0) hx hb dL_law_1662 (by decide) ?_
          refine z_Vi (bc := [[(q_1, .inr (10, [.ref t0_2, .ref ia_3, .ref im_4, .ref rd_5, .ref po_6, .ref co_7, .ref tr_8, .ref wa_9, .ref wb_10, .ref fi_11, .ref cd_12]))], [(t0_2, .inr (8, [.ref a1p_13, .int 0, .int 0, .int (-1), .ref a2p_14, .ref a3p_15, .ref a4p_16, .ref a5p_17]))], [(a2p_14, .inl (T.2 0, 3, .inl (fun _ => 0)))]]) (br := [[(a1p_13, .inl (T.2 1, 600, .inl f1p_18))], [(a3p_15, .inl (T.2 3, 2, .inr (.inr (.inr (.inr f3p_19)))))], [(a4p_16, .inl (T.2 4, 2, .inr (.inr (.inr (.inr f4p_20)))))], [(a5p_17, .inl (T.2 5, 2, .inr (.inr (.inr (.inr f5p_21)))))], w1p_28, w2p_29, w3p_30, w4p_31, w5p_32, w6p_33, [(ia_3, .inl (T.2 6, 3, .inr (.inr (.inr (.inr fq_34)))))], u0_38, u1_39, u2_40, [(im_4, .inl (T.2 2, 3, .inl (fun _ => 0)))], v_41, z1_42, z2_43, z3_44, w1_45, w2_46, w3_47, [(cd_12, .inl (T.2 0, 1000, .inl (fun _ => 0)))], [(q_74, .inr (11, [.ref r_all_75, .ref r_has_76, .int 0, .int 0, .int 0, .int 0, .int 0, .int 0, .int 0, .int 0, .ref r_read_77, .int 0, .int 0, .int 0, .ref r_posts_78, .ref r_shut_79, .ref r_here_80, .int 0, .int 0, .int 0, .int 0, .ref r_was_81, .ref r_came_82, .ref r_seenAt_83, .ref r_rowWorth_84, .ref r_farBy_85, .ref r_used_86, .int 0, .int 0, .int 0, .int 0, .int 0, .int 0, .int 0, .int 0, .int 0, .int 0, .int 0, .int 0, .ref r_fitPost_87, .ref r_fitEnd_88, .ref r_keptPosts_89, .int 0]))], [(r_all_75, .inl (T.2 0, 3952, .inl (upd (fun _ => 0) 6 (-1))))], [(r_has_76, .inl (T.2 2, 3, .inl (fun _ => 0)))], [(r_read_77, .inl (T.2 0, 121, .inl (fun _ => 0)))], [(r_posts_78, .inl (T.2 0, 7, .inl (fun _ => 0)))], [(r_shut_79, .inl (T.2 0, 7, .inl (fun _ => 0)))], [(r_here_80, .inl (T.2 0, 7, .inl (fun _ => 0)))], [(r_was_81, .inl (T.2 0, 7, .inl (fun _ => 0)))], [(r_came_82, .inl (T.2 0, 7, .inl (fun _ => 0)))], [(r_seenAt_83, .inl (T.2 0, 16384, .inl (fun _ => 0)))], [(r_rowWorth_84, .inl (T.2 0, 512, .inl (fun _ => 0)))], [(r_farBy_85, .inl (T.2 0, 49, .inl (fun _ => 0)))], [(r_used_86, .inl (T.2 0, 7, .inl (fun _ => 0)))], [(r_fitPost_87, .inl (T.2 0, 28, .inl (fun _ => 0)))], [(r_fitEnd_88, .inl (T.2 0, 49, .inl (fun _ => 0)))], [(r_keptPosts_89, .inl (T.2 0, 7, .inl (fun _ => 0)))]]) (As := [.int (xs 1), .int (xs 2), .int 0]) (rest := []) C G (c_x_least l T q_1 t0_2 ia_3 im_4 rd_5 po_6 co_7 tr_8 wa_9 wb_10 fi_11 cd_12 a1p_13 a2p_14 a3p_15 a4p_16 a5p_17 (xs 1) (xs 2) 0) (kV_RL_146 C.2.2.2.2 (Nat.le_of_ble_eq_true rfl) (Nat.le_of_ble_eq_true rfl)) [0, 1, 3] [2, 4, 5, 6, 7, 8, 9, 10, 11, 12, 13, 14, 15, 16, 17, 18, 19, 20, 21, 22, 23, 24, 25, 26, 27, 28, 29, 30, 31, 32, 33, 34, 35, 36, 37, 38, 39, 40, 41] rfl rfl (ci := 10) (qc := (RX11, TX11, 11)) rfl rfl (List.mem_flatten.mpr ⟨_, List.mem_of_getElem? (i := 0) rfl, List.mem_cons_self⟩) rfl rfl hl.1 dL_law_1663 (Nat.le_of_ble_eq_true rfl) (Nat.le_of_ble_eq_true rfl) (fun r_751 b1 H locs hw G => ?_)
          obtain ⟨rfl, h_750⟩ := hw
          have G : zS T A s.heap s [[(a1p_13, .inl (T.2 1, 600, .inl f1p_18))], [(a3p_15, .inl (T.2 3, 2, .inr (.inr (.inr (.inr f3p_19)))))], [(a4p_16, .inl (T.2 4, 2, .inr (.inr (.inr (.inr f4p_20)))))], [(a5p_17, .inl (T.2 5, 2, .inr (.inr (.inr (.inr f5p_21)))))], w1p_28, w2p_29, w3p_30, w4p_31, w5p_32, w6p_33, [(ia_3, .inl (T.2 6, 3, .inr (.inr (.inr (.inr fq_34)))))], u0_38, u1_39, u2_40, [(im_4, .inl (T.2 2, 3, .inl (fun _ => 0)))], v_41, z1_42, z2_43, z3_44, w1_45, w2_46, w3_47, [(cd_12, .inl (T.2 0, 1000, .inl (fun _ => 0)))], [(q_74, .inr (11, [.ref r_all_75, .ref r_has_76, .int 0, .int 0, .int 0, .int 0, .int 0, .int 0, .int 0, .int 0, .ref r_read_77, .int 0, .int 0, .int 0, .ref r_posts_78, .ref r_shut_79, .ref r_here_80, .int 0, .int 0, .int 0, .int 0, .ref r_was_81, .ref r_came_82, .ref r_seenAt_83, .ref r_rowWorth_84, .ref r_farBy_85, .ref r_used_86, .int 0, .int 0, .int 0, .int 0, .int 0, .int 0, .int 0, .int 0, .int 0, .int 0, .int 0, .int 0, .ref r_fitPost_87, .ref r_fitEnd_88, .ref r_keptPosts_89, .int 0]))], [(r_all_75, .inl (T.2 0, 3952, .inl (upd (fun _ => 0) 6 (-1))))], [(r_has_76, .inl (T.2 2, 3, .inl (fun _ => 0)))], [(r_read_77, .inl (T.2 0, 121, .inl (fun _ => 0)))], [(r_posts_78, .inl (T.2 0, 7, .inl (fun _ => 0)))], [(r_shut_79, .inl (T.2 0, 7, .inl (fun _ => 0)))], [(r_here_80, .inl (T.2 0, 7, .inl (fun _ => 0)))], [(r_was_81, .inl (T.2 0, 7, .inl (fun _ => 0)))], [(r_came_82, .inl (T.2 0, 7, .inl (fun _ => 0)))], [(r_seenAt_83, .inl (T.2 0, 16384, .inl (fun _ => 0)))], [(r_rowWorth_84, .inl (T.2 0, 512, .inl (fun _ => 0)))], [(r_farBy_85, .inl (T.2 0, 49, .inl (fun _ => 0)))], [(r_used_86, .inl (T.2 0, 7, .inl (fun _ => 0)))], [(r_fitPost_87, .inl (T.2 0, 28, .inl (fun _ => 0)))], [(r_fitEnd_88, .inl (T.2 0, 49, .inl (fun _ => 0)))], [(r_keptPosts_89, .inl (T.2 0, 7, .inl (fun _ => 0)))]] _ _ := G
          subst h_750
          refine lv_aload_n hx hb dL_law_1666 rfl (lv_at hl 1 rfl) ?_
          refine lv_aload_n hx hb dL_law_1667 rfl (lv_at hl 3 rfl) ?_
          refine lv_iload_n hx hb dL_law_1668 rfl (lv_at hl 0 rfl) ?_
          refine lv_iconst (v := 1) hx hb dL_law_1669 (by decide) ?_
          refine lv_iadd hx hb dL_law_1670 ?_
          refine lv_topi (fun y_752 ey_752 => ?_)
          obtain rfl : y_752 = 1 := ey_752.trans (by decide)
          refine va_sld hx hb hX hbl hbA G.2.2.2.1 (vp_in_nI (n := 1) (by decide) (by decide)) dL_law_1671 ?_
          refine lv_topi (fun v_753 ev_753 => ?_)
          have ev_753 : v_753 = xs 1 := ev_753
          subst ev_753
          refine lv_aload_n hx hb dL_law_1672 rfl (lv_at hl 3 rfl) ?_
          refine lv_iload_n hx hb dL_law_1673 rfl (lv_at hl 0 rfl) ?_
          refine lv_iconst (v := 2) hx hb dL_law_1674 (by decide) ?_
          refine lv_iadd hx hb dL_law_1675 ?_
          refine lv_topi (fun y_754 ey_754 => ?_)
          obtain rfl : y_754 = 2 := ey_754.trans (by decide)
          refine va_sld hx hb hX hbl hbA G.2.2.2.1 (vp_in_nI (n := 2) (by decide) (by decide)) dL_law_1676 ?_
          refine lv_topi (fun v_755 ev_755 => ?_)
          have ev_755 : v_755 = xs 2 := ev_755
          subst ev_755
          refine lv_aload_n hx hb dL_law_1677 rfl (lv_at hl 3 rfl) ?_
          refine lv_iload_n hx hb dL_law_1678 rfl (lv_at hl 0 rfl) ?_
          refine lv_iconst (v := 3) hx hb dL_law_1679 (by decide) ?_
          refine lv_iadd hx hb dL_law_1680 ?_
          refine lv_topi (fun y_756 ey_756 => ?_)
          obtain rfl : y_756 = 3 := ey_756.trans (by decide)
          refine va_sld hx hb hX hbl hbA G.2.2.2.1 (vp_in_nI (n := 3) (by decide) (by decide)) dL_law_1681 ?_
          refine lv_topi (fun v_757 ev_757 => ?_)
          have ev_757 : v_757 = xs 3 := ev_757
          subst ev_757
          refine lv_if_eq (tgt := 1689) hx hb dL_law_1682 (by decide) (fun _ => ?_) (fun q => absurd c_749 q)
          refine lv_iconst (v := 0) hx hb dL_law_1689 (by decide) ?_
          refine z_Vi (bc := [[(q_74, .inr (11, [.ref r_all_75, .ref r_has_76, .int 0, .int 0, .int 0, .int 0, .int 0, .int 0, .int 0, .int 0, .ref r_read_77, .int 0, .int 0, .int 0, .ref r_posts_78, .ref r_shut_79, .ref r_here_80, .int 0, .int 0, .int 0, .int 0, .ref r_was_81, .ref r_came_82, .ref r_seenAt_83, .ref r_rowWorth_84, .ref r_farBy_85, .ref r_used_86, .int 0, .int 0, .int 0, .int 0, .int 0, .int 0, .int 0, .int 0, .int 0, .int 0, .int 0, .int 0, .ref r_fitPost_87, .ref r_fitEnd_88, .ref r_keptPosts_89, .int 0]))], [(r_all_75, .inl (T.2 0, 3952, .inl (upd (fun _ => 0) 6 (-1))))]]) (br := [[(a1p_13, .inl (T.2 1, 600, .inl f1p_18))], [(a3p_15, .inl (T.2 3, 2, .inr (.inr (.inr (.inr f3p_19)))))], [(a4p_16, .inl (T.2 4, 2, .inr (.inr (.inr (.inr f4p_20)))))], [(a5p_17, .inl (T.2 5, 2, .inr (.inr (.inr (.inr f5p_21)))))], w1p_28, w2p_29, w3p_30, w4p_31, w5p_32, w6p_33, [(ia_3, .inl (T.2 6, 3, .inr (.inr (.inr (.inr fq_34)))))], u0_38, u1_39, u2_40, [(im_4, .inl (T.2 2, 3, .inl (fun _ => 0)))], v_41, z1_42, z2_43, z3_44, w1_45, w2_46, w3_47, [(cd_12, .inl (T.2 0, 1000, .inl (fun _ => 0)))], [(r_has_76, .inl (T.2 2, 3, .inl (fun _ => 0)))], [(r_read_77, .inl (T.2 0, 121, .inl (fun _ => 0)))], [(r_posts_78, .inl (T.2 0, 7, .inl (fun _ => 0)))], [(r_shut_79, .inl (T.2 0, 7, .inl (fun _ => 0)))], [(r_here_80, .inl (T.2 0, 7, .inl (fun _ => 0)))], [(r_was_81, .inl (T.2 0, 7, .inl (fun _ => 0)))], [(r_came_82, .inl (T.2 0, 7, .inl (fun _ => 0)))], [(r_seenAt_83, .inl (T.2 0, 16384, .inl (fun _ => 0)))], [(r_rowWorth_84, .inl (T.2 0, 512, .inl (fun _ => 0)))], [(r_farBy_85, .inl (T.2 0, 49, .inl (fun _ => 0)))], [(r_used_86, .inl (T.2 0, 7, .inl (fun _ => 0)))], [(r_fitPost_87, .inl (T.2 0, 28, .inl (fun _ => 0)))], [(r_fitEnd_88, .inl (T.2 0, 49, .inl (fun _ => 0)))], [(r_keptPosts_89, .inl (T.2 0, 7, .inl (fun _ => 0)))]]) (As := [.int (xs 1), .int (xs 2), .int 0]) (rest := [.int (-1)]) C G (c_m_least l T q_74 r_all_75 r_has_76 r_read_77 r_posts_78 r_shut_79 r_here_80 r_was_81 r_came_82 r_seenAt_83 r_rowWorth_84 r_farBy_85 r_used_86 r_fitPost_87 r_fitEnd_88 r_keptPosts_89 (xs 1) (xs 2) 0) (kV_RL_149 C.2.2.2.2 (Nat.le_of_ble_eq_true rfl) (Nat.le_of_ble_eq_true rfl)) [23, 24] [0, 1, 2, 3, 4, 5, 6, 7, 8, 9, 10, 11, 12, 13, 14, 15, 16, 17, 18, 19, 20, 21, 22, 25, 26, 27, 28, 29, 30, 31, 32, 33, 34, 35, 36, 37, 38] rfl rfl (ci := 11) (qc := (RX12, TX12, 43)) rfl rfl (List.mem_flatten.mpr ⟨_, List.mem_of_getElem? (i := 0) rfl, List.mem_cons_self⟩) rfl rfl hl.1 dL_law_1690 (Nat.le_of_ble_eq_true rfl) (Nat.le_of_ble_eq_true rfl) (fun r_759 b1 H locs hw G => ?_)
          obtain ⟨rfl, h_758⟩ := hw
          have G : zS T A s.heap s [[(a1p_13, .inl (T.2 1, 600, .inl f1p_18))], [(a3p_15, .inl (T.2 3, 2, .inr (.inr (.inr (.inr f3p_19)))))], [(a4p_16, .inl (T.2 4, 2, .inr (.inr (.inr (.inr f4p_20)))))], [(a5p_17, .inl (T.2 5, 2, .inr (.inr (.inr (.inr f5p_21)))))], w1p_28, w2p_29, w3p_30, w4p_31, w5p_32, w6p_33, [(ia_3, .inl (T.2 6, 3, .inr (.inr (.inr (.inr fq_34)))))], u0_38, u1_39, u2_40, [(im_4, .inl (T.2 2, 3, .inl (fun _ => 0)))], v_41, z1_42, z2_43, z3_44, w1_45, w2_46, w3_47, [(cd_12, .inl (T.2 0, 1000, .inl (fun _ => 0)))], [(r_has_76, .inl (T.2 2, 3, .inl (fun _ => 0)))], [(r_read_77, .inl (T.2 0, 121, .inl (fun _ => 0)))], [(r_posts_78, .inl (T.2 0, 7, .inl (fun _ => 0)))], [(r_shut_79, .inl (T.2 0, 7, .inl (fun _ => 0)))], [(r_here_80, .inl (T.2 0, 7, .inl (fun _ => 0)))], [(r_was_81, .inl (T.2 0, 7, .inl (fun _ => 0)))], [(r_came_82, .inl (T.2 0, 7, .inl (fun _ => 0)))], [(r_seenAt_83, .inl (T.2 0, 16384, .inl (fun _ => 0)))], [(r_rowWorth_84, .inl (T.2 0, 512, .inl (fun _ => 0)))], [(r_farBy_85, .inl (T.2 0, 49, .inl (fun _ => 0)))], [(r_used_86, .inl (T.2 0, 7, .inl (fun _ => 0)))], [(r_fitPost_87, .inl (T.2 0, 28, .inl (fun _ => 0)))], [(r_fitEnd_88, .inl (T.2 0, 49, .inl (fun _ => 0)))], [(r_keptPosts_89, .inl (T.2 0, 7, .inl (fun _ => 0)))]] _ _ := G
          subst h_758
          refine lv_icmp_eq (tgt := 1767) hx hb dL_law_1693 (by decide) (fun _ => ?_) (fun q => absurd (by decide) q)
          refine lv_iinc (v := 6) (lv' := [(3, .int 6), (2, .ref q_74), (1, .ref q_1), (0, .ref b)]) hx hb dL_law_1767 hl (k := 0) rfl (by decide) (by decide) rfl (fun ls hl => ?_)
          refine lv_goto (tgt := 18) hx hb dL_law_1770 (by decide) ?_
          refine lv_iload_n hx hb dL_law_18 rfl (lv_at hl 0 rfl) ?_
          refine lv_aload_n hx hb dL_law_19 rfl (lv_at hl 3 rfl) ?_
          refine va_slen hx hb hX hbl hbA G.2.2.2.1 dL_law_20 ?_
          refine lv_bipush (v := 6) hx hb dL_law_21 (by decide) ?_
          refine lv_isub hx hb dL_law_23 ?_
          refine lv_topi (fun y_760 ey_760 => ?_)
          obtain rfl : y_760 = 0 := ey_760.trans (by decide)
          refine lv_icmp_gt (tgt := 1773) hx hb dL_law_24 (by decide) (fun _ => ?_) (fun q => absurd (by decide) q)
          refine lv_iconst (v := 1) hx hb dL_law_1773 (by decide) ?_
          refine va_forget (fun q hq => by have h9 := G.2.2.2.1.2.2 q hq; rw [hAe] at h9; exact h9) ?_
          refine W.widen (k := 600000) (n := 7302250) (Nat.le_of_ble_eq_true rfl) (Nat.le_of_ble_eq_true rfl) ?_
          exact lw_ret hx hb hr hlocks dL_law_1774
        · have c_749n : ¬ (xs 3).toInt = (0 : Int) := fun q => c_749 ((fa_eq _ _).mpr q)
          refine lv_iconst (v := 1) hx hb dL_law_1658 (by decide) ?_
          refine lv_goto (tgt := 1663) hx hb dL_law_1659 (by decide) ?_
          refine z_Vi (bc := [[(q_1, .inr (10, [.ref t0_2, .ref ia_3, .ref im_4, .ref rd_5, .ref po_6, .ref co_7, .ref tr_8, .ref wa_9, .ref wb_10, .ref fi_11, .ref cd_12]))], [(t0_2, .inr (8, [.ref a1p_13, .int 0, .int 0, .int (-1), .ref a2p_14, .ref a3p_15, .ref a4p_16, .ref a5p_17]))], [(a2p_14, .inl (T.2 0, 3, .inl (fun _ => 0)))]]) (br := [[(a1p_13, .inl (T.2 1, 600, .inl f1p_18))], [(a3p_15, .inl (T.2 3, 2, .inr (.inr (.inr (.inr f3p_19)))))], [(a4p_16, .inl (T.2 4, 2, .inr (.inr (.inr (.inr f4p_20)))))], [(a5p_17, .inl (T.2 5, 2, .inr (.inr (.inr (.inr f5p_21)))))], w1p_28, w2p_29, w3p_30, w4p_31, w5p_32, w6p_33, [(ia_3, .inl (T.2 6, 3, .inr (.inr (.inr (.inr fq_34)))))], u0_38, u1_39, u2_40, [(im_4, .inl (T.2 2, 3, .inl (fun _ => 0)))], v_41, z1_42, z2_43, z3_44, w1_45, w2_46, w3_47, [(cd_12, .inl (T.2 0, 1000, .inl (fun _ => 0)))], [(q_74, .inr (11, [.ref r_all_75, .ref r_has_76, .int 0, .int 0, .int 0, .int 0, .int 0, .int 0, .int 0, .int 0, .ref r_read_77, .int 0, .int 0, .int 0, .ref r_posts_78, .ref r_shut_79, .ref r_here_80, .int 0, .int 0, .int 0, .int 0, .ref r_was_81, .ref r_came_82, .ref r_seenAt_83, .ref r_rowWorth_84, .ref r_farBy_85, .ref r_used_86, .int 0, .int 0, .int 0, .int 0, .int 0, .int 0, .int 0, .int 0, .int 0, .int 0, .int 0, .int 0, .ref r_fitPost_87, .ref r_fitEnd_88, .ref r_keptPosts_89, .int 0]))], [(r_all_75, .inl (T.2 0, 3952, .inl (upd (fun _ => 0) 6 (-1))))], [(r_has_76, .inl (T.2 2, 3, .inl (fun _ => 0)))], [(r_read_77, .inl (T.2 0, 121, .inl (fun _ => 0)))], [(r_posts_78, .inl (T.2 0, 7, .inl (fun _ => 0)))], [(r_shut_79, .inl (T.2 0, 7, .inl (fun _ => 0)))], [(r_here_80, .inl (T.2 0, 7, .inl (fun _ => 0)))], [(r_was_81, .inl (T.2 0, 7, .inl (fun _ => 0)))], [(r_came_82, .inl (T.2 0, 7, .inl (fun _ => 0)))], [(r_seenAt_83, .inl (T.2 0, 16384, .inl (fun _ => 0)))], [(r_rowWorth_84, .inl (T.2 0, 512, .inl (fun _ => 0)))], [(r_farBy_85, .inl (T.2 0, 49, .inl (fun _ => 0)))], [(r_used_86, .inl (T.2 0, 7, .inl (fun _ => 0)))], [(r_fitPost_87, .inl (T.2 0, 28, .inl (fun _ => 0)))], [(r_fitEnd_88, .inl (T.2 0, 49, .inl (fun _ => 0)))], [(r_keptPosts_89, .inl (T.2 0, 7, .inl (fun _ => 0)))]]) (As := [.int (xs 1), .int (xs 2), .int 1]) (rest := []) C G (c_x_least l T q_1 t0_2 ia_3 im_4 rd_5 po_6 co_7 tr_8 wa_9 wb_10 fi_11 cd_12 a1p_13 a2p_14 a3p_15 a4p_16 a5p_17 (xs 1) (xs 2) 1) (kV_RL_146 C.2.2.2.2 (Nat.le_of_ble_eq_true rfl) (Nat.le_of_ble_eq_true rfl)) [0, 1, 3] [2, 4, 5, 6, 7, 8, 9, 10, 11, 12, 13, 14, 15, 16, 17, 18, 19, 20, 21, 22, 23, 24, 25, 26, 27, 28, 29, 30, 31, 32, 33, 34, 35, 36, 37, 38, 39, 40, 41] rfl rfl (ci := 10) (qc := (RX11, TX11, 11)) rfl rfl (List.mem_flatten.mpr ⟨_, List.mem_of_getElem? (i := 0) rfl, List.mem_cons_self⟩) rfl rfl hl.1 dL_law_1663 (Nat.le_of_ble_eq_true rfl) (Nat.le_of_ble_eq_true rfl) (fun r_762 b1 H locs hw G => ?_)
          obtain ⟨rfl, h_761⟩ := hw
          have G : zS T A s.heap s [[(a1p_13, .inl (T.2 1, 600, .inl f1p_18))], [(a3p_15, .inl (T.2 3, 2, .inr (.inr (.inr (.inr f3p_19)))))], [(a4p_16, .inl (T.2 4, 2, .inr (.inr (.inr (.inr f4p_20)))))], [(a5p_17, .inl (T.2 5, 2, .inr (.inr (.inr (.inr f5p_21)))))], w1p_28, w2p_29, w3p_30, w4p_31, w5p_32, w6p_33, [(ia_3, .inl (T.2 6, 3, .inr (.inr (.inr (.inr fq_34)))))], u0_38, u1_39, u2_40, [(im_4, .inl (T.2 2, 3, .inl (fun _ => 0)))], v_41, z1_42, z2_43, z3_44, w1_45, w2_46, w3_47, [(cd_12, .inl (T.2 0, 1000, .inl (fun _ => 0)))], [(q_74, .inr (11, [.ref r_all_75, .ref r_has_76, .int 0, .int 0, .int 0, .int 0, .int 0, .int 0, .int 0, .int 0, .ref r_read_77, .int 0, .int 0, .int 0, .ref r_posts_78, .ref r_shut_79, .ref r_here_80, .int 0, .int 0, .int 0, .int 0, .ref r_was_81, .ref r_came_82, .ref r_seenAt_83, .ref r_rowWorth_84, .ref r_farBy_85, .ref r_used_86, .int 0, .int 0, .int 0, .int 0, .int 0, .int 0, .int 0, .int 0, .int 0, .int 0, .int 0, .int 0, .ref r_fitPost_87, .ref r_fitEnd_88, .ref r_keptPosts_89, .int 0]))], [(r_all_75, .inl (T.2 0, 3952, .inl (upd (fun _ => 0) 6 (-1))))], [(r_has_76, .inl (T.2 2, 3, .inl (fun _ => 0)))], [(r_read_77, .inl (T.2 0, 121, .inl (fun _ => 0)))], [(r_posts_78, .inl (T.2 0, 7, .inl (fun _ => 0)))], [(r_shut_79, .inl (T.2 0, 7, .inl (fun _ => 0)))], [(r_here_80, .inl (T.2 0, 7, .inl (fun _ => 0)))], [(r_was_81, .inl (T.2 0, 7, .inl (fun _ => 0)))], [(r_came_82, .inl (T.2 0, 7, .inl (fun _ => 0)))], [(r_seenAt_83, .inl (T.2 0, 16384, .inl (fun _ => 0)))], [(r_rowWorth_84, .inl (T.2 0, 512, .inl (fun _ => 0)))], [(r_farBy_85, .inl (T.2 0, 49, .inl (fun _ => 0)))], [(r_used_86, .inl (T.2 0, 7, .inl (fun _ => 0)))], [(r_fitPost_87, .inl (T.2 0, 28, .inl (fun _ => 0)))], [(r_fitEnd_88, .inl (T.2 0, 49, .inl (fun _ => 0)))], [(r_keptPosts_89, .inl (T.2 0, 7, .inl (fun _ => 0)))]] _ _ := G
          subst h_761
          refine lv_aload_n hx hb dL_law_1666 rfl (lv_at hl 1 rfl) ?_
          refine lv_aload_n hx hb dL_law_1667 rfl (lv_at hl 3 rfl) ?_
          refine lv_iload_n hx hb dL_law_1668 rfl (lv_at hl 0 rfl) ?_
          refine lv_iconst (v := 1) hx hb dL_law_1669 (by decide) ?_
          refine lv_iadd hx hb dL_law_1670 ?_
          refine lv_topi (fun y_763 ey_763 => ?_)
          obtain rfl : y_763 = 1 := ey_763.trans (by decide)
          refine va_sld hx hb hX hbl hbA G.2.2.2.1 (vp_in_nI (n := 1) (by decide) (by decide)) dL_law_1671 ?_
          refine lv_topi (fun v_764 ev_764 => ?_)
          have ev_764 : v_764 = xs 1 := ev_764
          subst ev_764
          refine lv_aload_n hx hb dL_law_1672 rfl (lv_at hl 3 rfl) ?_
          refine lv_iload_n hx hb dL_law_1673 rfl (lv_at hl 0 rfl) ?_
          refine lv_iconst (v := 2) hx hb dL_law_1674 (by decide) ?_
          refine lv_iadd hx hb dL_law_1675 ?_
          refine lv_topi (fun y_765 ey_765 => ?_)
          obtain rfl : y_765 = 2 := ey_765.trans (by decide)
          refine va_sld hx hb hX hbl hbA G.2.2.2.1 (vp_in_nI (n := 2) (by decide) (by decide)) dL_law_1676 ?_
          refine lv_topi (fun v_766 ev_766 => ?_)
          have ev_766 : v_766 = xs 2 := ev_766
          subst ev_766
          refine lv_aload_n hx hb dL_law_1677 rfl (lv_at hl 3 rfl) ?_
          refine lv_iload_n hx hb dL_law_1678 rfl (lv_at hl 0 rfl) ?_
          refine lv_iconst (v := 3) hx hb dL_law_1679 (by decide) ?_
          refine lv_iadd hx hb dL_law_1680 ?_
          refine lv_topi (fun y_767 ey_767 => ?_)
          obtain rfl : y_767 = 3 := ey_767.trans (by decide)
          refine va_sld hx hb hX hbl hbA G.2.2.2.1 (vp_in_nI (n := 3) (by decide) (by decide)) dL_law_1681 ?_
          refine lv_topi (fun v_768 ev_768 => ?_)
          have ev_768 : v_768 = xs 3 := ev_768
          subst ev_768
          refine lv_if_eq (tgt := 1689) hx hb dL_law_1682 (by decide) (fun q => absurd q c_749) (fun _ => ?_)
          refine lv_iconst (v := 1) hx hb dL_law_1685 (by decide) ?_
          refine lv_goto (tgt := 1690) hx hb dL_law_1686 (by decide) ?_
          refine z_Vi (bc := [[(q_74, .inr (11, [.ref r_all_75, .ref r_has_76, .int 0, .int 0, .int 0, .int 0, .int 0, .int 0, .int 0, .int 0, .ref r_read_77, .int 0, .int 0, .int 0, .ref r_posts_78, .ref r_shut_79, .ref r_here_80, .int 0, .int 0, .int 0, .int 0, .ref r_was_81, .ref r_came_82, .ref r_seenAt_83, .ref r_rowWorth_84, .ref r_farBy_85, .ref r_used_86, .int 0, .int 0, .int 0, .int 0, .int 0, .int 0, .int 0, .int 0, .int 0, .int 0, .int 0, .int 0, .ref r_fitPost_87, .ref r_fitEnd_88, .ref r_keptPosts_89, .int 0]))], [(r_all_75, .inl (T.2 0, 3952, .inl (upd (fun _ => 0) 6 (-1))))]]) (br := [[(a1p_13, .inl (T.2 1, 600, .inl f1p_18))], [(a3p_15, .inl (T.2 3, 2, .inr (.inr (.inr (.inr f3p_19)))))], [(a4p_16, .inl (T.2 4, 2, .inr (.inr (.inr (.inr f4p_20)))))], [(a5p_17, .inl (T.2 5, 2, .inr (.inr (.inr (.inr f5p_21)))))], w1p_28, w2p_29, w3p_30, w4p_31, w5p_32, w6p_33, [(ia_3, .inl (T.2 6, 3, .inr (.inr (.inr (.inr fq_34)))))], u0_38, u1_39, u2_40, [(im_4, .inl (T.2 2, 3, .inl (fun _ => 0)))], v_41, z1_42, z2_43, z3_44, w1_45, w2_46, w3_47, [(cd_12, .inl (T.2 0, 1000, .inl (fun _ => 0)))], [(r_has_76, .inl (T.2 2, 3, .inl (fun _ => 0)))], [(r_read_77, .inl (T.2 0, 121, .inl (fun _ => 0)))], [(r_posts_78, .inl (T.2 0, 7, .inl (fun _ => 0)))], [(r_shut_79, .inl (T.2 0, 7, .inl (fun _ => 0)))], [(r_here_80, .inl (T.2 0, 7, .inl (fun _ => 0)))], [(r_was_81, .inl (T.2 0, 7, .inl (fun _ => 0)))], [(r_came_82, .inl (T.2 0, 7, .inl (fun _ => 0)))], [(r_seenAt_83, .inl (T.2 0, 16384, .inl (fun _ => 0)))], [(r_rowWorth_84, .inl (T.2 0, 512, .inl (fun _ => 0)))], [(r_farBy_85, .inl (T.2 0, 49, .inl (fun _ => 0)))], [(r_used_86, .inl (T.2 0, 7, .inl (fun _ => 0)))], [(r_fitPost_87, .inl (T.2 0, 28, .inl (fun _ => 0)))], [(r_fitEnd_88, .inl (T.2 0, 49, .inl (fun _ => 0)))], [(r_keptPosts_89, .inl (T.2 0, 7, .inl (fun _ => 0)))]]) (As := [.int (xs 1), .int (xs 2), .int 1]) (rest := [.int (-1)]) C G (c_m_least l T q_74 r_all_75 r_has_76 r_read_77 r_posts_78 r_shut_79 r_here_80 r_was_81 r_came_82 r_seenAt_83 r_rowWorth_84 r_farBy_85 r_used_86 r_fitPost_87 r_fitEnd_88 r_keptPosts_89 (xs 1) (xs 2) 1) (kV_RL_149 C.2.2.2.2 (Nat.le_of_ble_eq_true rfl) (Nat.le_of_ble_eq_true rfl)) [23, 24] [0, 1, 2, 3, 4, 5, 6, 7, 8, 9, 10, 11, 12, 13, 14, 15, 16, 17, 18, 19, 20, 21, 22, 25, 26, 27, 28, 29, 30, 31, 32, 33, 34, 35, 36, 37, 38] rfl rfl (ci := 11) (qc := (RX12, TX12, 43)) rfl rfl (List.mem_flatten.mpr ⟨_, List.mem_of_getElem? (i := 0) rfl, List.mem_cons_self⟩) rfl rfl hl.1 dL_law_1690 (Nat.le_of_ble_eq_true rfl) (Nat.le_of_ble_eq_true rfl) (fun r_770 b1 H locs hw G => ?_)
          obtain ⟨rfl, h_769⟩ := hw
          have G : zS T A s.heap s [[(a1p_13, .inl (T.2 1, 600, .inl f1p_18))], [(a3p_15, .inl (T.2 3, 2, .inr (.inr (.inr (.inr f3p_19)))))], [(a4p_16, .inl (T.2 4, 2, .inr (.inr (.inr (.inr f4p_20)))))], [(a5p_17, .inl (T.2 5, 2, .inr (.inr (.inr (.inr f5p_21)))))], w1p_28, w2p_29, w3p_30, w4p_31, w5p_32, w6p_33, [(ia_3, .inl (T.2 6, 3, .inr (.inr (.inr (.inr fq_34)))))], u0_38, u1_39, u2_40, [(im_4, .inl (T.2 2, 3, .inl (fun _ => 0)))], v_41, z1_42, z2_43, z3_44, w1_45, w2_46, w3_47, [(cd_12, .inl (T.2 0, 1000, .inl (fun _ => 0)))], [(r_has_76, .inl (T.2 2, 3, .inl (fun _ => 0)))], [(r_read_77, .inl (T.2 0, 121, .inl (fun _ => 0)))], [(r_posts_78, .inl (T.2 0, 7, .inl (fun _ => 0)))], [(r_shut_79, .inl (T.2 0, 7, .inl (fun _ => 0)))], [(r_here_80, .inl (T.2 0, 7, .inl (fun _ => 0)))], [(r_was_81, .inl (T.2 0, 7, .inl (fun _ => 0)))], [(r_came_82, .inl (T.2 0, 7, .inl (fun _ => 0)))], [(r_seenAt_83, .inl (T.2 0, 16384, .inl (fun _ => 0)))], [(r_rowWorth_84, .inl (T.2 0, 512, .inl (fun _ => 0)))], [(r_farBy_85, .inl (T.2 0, 49, .inl (fun _ => 0)))], [(r_used_86, .inl (T.2 0, 7, .inl (fun _ => 0)))], [(r_fitPost_87, .inl (T.2 0, 28, .inl (fun _ => 0)))], [(r_fitEnd_88, .inl (T.2 0, 49, .inl (fun _ => 0)))], [(r_keptPosts_89, .inl (T.2 0, 7, .inl (fun _ => 0)))]] _ _ := G
          subst h_769
          refine lv_icmp_eq (tgt := 1767) hx hb dL_law_1693 (by decide) (fun _ => ?_) (fun q => absurd (by decide) q)
          refine lv_iinc (v := 6) (lv' := [(3, .int 6), (2, .ref q_74), (1, .ref q_1), (0, .ref b)]) hx hb dL_law_1767 hl (k := 0) rfl (by decide) (by decide) rfl (fun ls hl => ?_)
          refine lv_goto (tgt := 18) hx hb dL_law_1770 (by decide) ?_
          refine lv_iload_n hx hb dL_law_18 rfl (lv_at hl 0 rfl) ?_
          refine lv_aload_n hx hb dL_law_19 rfl (lv_at hl 3 rfl) ?_
          refine va_slen hx hb hX hbl hbA G.2.2.2.1 dL_law_20 ?_
          refine lv_bipush (v := 6) hx hb dL_law_21 (by decide) ?_
          refine lv_isub hx hb dL_law_23 ?_
          refine lv_topi (fun y_771 ey_771 => ?_)
          obtain rfl : y_771 = 0 := ey_771.trans (by decide)
          refine lv_icmp_gt (tgt := 1773) hx hb dL_law_24 (by decide) (fun _ => ?_) (fun q => absurd (by decide) q)
          refine lv_iconst (v := 1) hx hb dL_law_1773 (by decide) ?_
          refine va_forget (fun q hq => by have h9 := G.2.2.2.1.2.2 q hq; rw [hAe] at h9; exact h9) ?_
          refine W.widen (k := 600000) (n := 7302250) (Nat.le_of_ble_eq_true rfl) (Nat.le_of_ble_eq_true rfl) ?_
          exact lw_ret hx hb hr hlocks dL_law_1774
      · refine lv_tableIn (tgt := 1698) hx hb dL_law_33 (by omega) (by omega) (by rw [c_94]; rfl) (by decide) ?_
        refine lv_aload_n hx hb dL_law_1698 rfl (lv_at hl 2 rfl) ?_
        refine lv_aload_n hx hb dL_law_1699 rfl (lv_at hl 3 rfl) ?_
        refine lv_iload_n hx hb dL_law_1700 rfl (lv_at hl 0 rfl) ?_
        refine lv_iconst (v := 1) hx hb dL_law_1701 (by decide) ?_
        refine lv_iadd hx hb dL_law_1702 ?_
        refine lv_topi (fun y_772 ey_772 => ?_)
        obtain rfl : y_772 = 1 := ey_772.trans (by decide)
        refine va_sld hx hb hX hbl hbA G.2.2.2.1 (vp_in_nI (n := 1) (by decide) (by decide)) dL_law_1703 ?_
        refine lv_topi (fun v_773 ev_773 => ?_)
        have ev_773 : v_773 = xs 1 := ev_773
        subst ev_773
        refine z_Vi (bc := [[(q_1, .inr (10, [.ref t0_2, .ref ia_3, .ref im_4, .ref rd_5, .ref po_6, .ref co_7, .ref tr_8, .ref wa_9, .ref wb_10, .ref fi_11, .ref cd_12]))], [(t0_2, .inr (8, [.ref a1p_13, .int 0, .int 0, .int (-1), .ref a2p_14, .ref a3p_15, .ref a4p_16, .ref a5p_17]))], [(a2p_14, .inl (T.2 0, 3, .inl (fun _ => 0)))]]) (br := [[(a1p_13, .inl (T.2 1, 600, .inl f1p_18))], [(a3p_15, .inl (T.2 3, 2, .inr (.inr (.inr (.inr f3p_19)))))], [(a4p_16, .inl (T.2 4, 2, .inr (.inr (.inr (.inr f4p_20)))))], [(a5p_17, .inl (T.2 5, 2, .inr (.inr (.inr (.inr f5p_21)))))], w1p_28, w2p_29, w3p_30, w4p_31, w5p_32, w6p_33, [(ia_3, .inl (T.2 6, 3, .inr (.inr (.inr (.inr fq_34)))))], u0_38, u1_39, u2_40, [(im_4, .inl (T.2 2, 3, .inl (fun _ => 0)))], v_41, z1_42, z2_43, z3_44, w1_45, w2_46, w3_47, [(cd_12, .inl (T.2 0, 1000, .inl (fun _ => 0)))], [(q_74, .inr (11, [.ref r_all_75, .ref r_has_76, .int 0, .int 0, .int 0, .int 0, .int 0, .int 0, .int 0, .int 0, .ref r_read_77, .int 0, .int 0, .int 0, .ref r_posts_78, .ref r_shut_79, .ref r_here_80, .int 0, .int 0, .int 0, .int 0, .ref r_was_81, .ref r_came_82, .ref r_seenAt_83, .ref r_rowWorth_84, .ref r_farBy_85, .ref r_used_86, .int 0, .int 0, .int 0, .int 0, .int 0, .int 0, .int 0, .int 0, .int 0, .int 0, .int 0, .int 0, .ref r_fitPost_87, .ref r_fitEnd_88, .ref r_keptPosts_89, .int 0]))], [(r_all_75, .inl (T.2 0, 3952, .inl (upd (fun _ => 0) 6 (-1))))], [(r_has_76, .inl (T.2 2, 3, .inl (fun _ => 0)))], [(r_read_77, .inl (T.2 0, 121, .inl (fun _ => 0)))], [(r_posts_78, .inl (T.2 0, 7, .inl (fun _ => 0)))], [(r_shut_79, .inl (T.2 0, 7, .inl (fun _ => 0)))], [(r_here_80, .inl (T.2 0, 7, .inl (fun _ => 0)))], [(r_was_81, .inl (T.2 0, 7, .inl (fun _ => 0)))], [(r_came_82, .inl (T.2 0, 7, .inl (fun _ => 0)))], [(r_seenAt_83, .inl (T.2 0, 16384, .inl (fun _ => 0)))], [(r_rowWorth_84, .inl (T.2 0, 512, .inl (fun _ => 0)))], [(r_farBy_85, .inl (T.2 0, 49, .inl (fun _ => 0)))], [(r_used_86, .inl (T.2 0, 7, .inl (fun _ => 0)))], [(r_fitPost_87, .inl (T.2 0, 28, .inl (fun _ => 0)))], [(r_fitEnd_88, .inl (T.2 0, 49, .inl (fun _ => 0)))], [(r_keptPosts_89, .inl (T.2 0, 7, .inl (fun _ => 0)))]]) (As := [.int (xs 1)]) (rest := []) C G (c_x_count l T q_1 t0_2 ia_3 im_4 rd_5 po_6 co_7 tr_8 wa_9 wb_10 fi_11 cd_12 a1p_13 a2p_14 a3p_15 a4p_16 a5p_17 (xs 1)) (kV_RL_150 C.2.2.2.2 (Nat.le_of_ble_eq_true rfl) (Nat.le_of_ble_eq_true rfl)) [0, 1, 3] [2, 4, 5, 6, 7, 8, 9, 10, 11, 12, 13, 14, 15, 16, 17, 18, 19, 20, 21, 22, 23, 24, 25, 26, 27, 28, 29, 30, 31, 32, 33, 34, 35, 36, 37, 38, 39, 40, 41] rfl rfl (ci := 10) (qc := (RX11, TX11, 11)) rfl rfl (List.mem_flatten.mpr ⟨_, List.mem_of_getElem? (i := 0) rfl, List.mem_cons_self⟩) rfl rfl hl.1 dL_law_1704 (Nat.le_of_ble_eq_true rfl) (Nat.le_of_ble_eq_true rfl) (fun r_775 b1 H locs hw G => ?_)
        obtain ⟨rfl, h_774⟩ := hw
        have G : zS T A s.heap s [[(a1p_13, .inl (T.2 1, 600, .inl f1p_18))], [(a3p_15, .inl (T.2 3, 2, .inr (.inr (.inr (.inr f3p_19)))))], [(a4p_16, .inl (T.2 4, 2, .inr (.inr (.inr (.inr f4p_20)))))], [(a5p_17, .inl (T.2 5, 2, .inr (.inr (.inr (.inr f5p_21)))))], w1p_28, w2p_29, w3p_30, w4p_31, w5p_32, w6p_33, [(ia_3, .inl (T.2 6, 3, .inr (.inr (.inr (.inr fq_34)))))], u0_38, u1_39, u2_40, [(im_4, .inl (T.2 2, 3, .inl (fun _ => 0)))], v_41, z1_42, z2_43, z3_44, w1_45, w2_46, w3_47, [(cd_12, .inl (T.2 0, 1000, .inl (fun _ => 0)))], [(q_74, .inr (11, [.ref r_all_75, .ref r_has_76, .int 0, .int 0, .int 0, .int 0, .int 0, .int 0, .int 0, .int 0, .ref r_read_77, .int 0, .int 0, .int 0, .ref r_posts_78, .ref r_shut_79, .ref r_here_80, .int 0, .int 0, .int 0, .int 0, .ref r_was_81, .ref r_came_82, .ref r_seenAt_83, .ref r_rowWorth_84, .ref r_farBy_85, .ref r_used_86, .int 0, .int 0, .int 0, .int 0, .int 0, .int 0, .int 0, .int 0, .int 0, .int 0, .int 0, .int 0, .ref r_fitPost_87, .ref r_fitEnd_88, .ref r_keptPosts_89, .int 0]))], [(r_all_75, .inl (T.2 0, 3952, .inl (upd (fun _ => 0) 6 (-1))))], [(r_has_76, .inl (T.2 2, 3, .inl (fun _ => 0)))], [(r_read_77, .inl (T.2 0, 121, .inl (fun _ => 0)))], [(r_posts_78, .inl (T.2 0, 7, .inl (fun _ => 0)))], [(r_shut_79, .inl (T.2 0, 7, .inl (fun _ => 0)))], [(r_here_80, .inl (T.2 0, 7, .inl (fun _ => 0)))], [(r_was_81, .inl (T.2 0, 7, .inl (fun _ => 0)))], [(r_came_82, .inl (T.2 0, 7, .inl (fun _ => 0)))], [(r_seenAt_83, .inl (T.2 0, 16384, .inl (fun _ => 0)))], [(r_rowWorth_84, .inl (T.2 0, 512, .inl (fun _ => 0)))], [(r_farBy_85, .inl (T.2 0, 49, .inl (fun _ => 0)))], [(r_used_86, .inl (T.2 0, 7, .inl (fun _ => 0)))], [(r_fitPost_87, .inl (T.2 0, 28, .inl (fun _ => 0)))], [(r_fitEnd_88, .inl (T.2 0, 49, .inl (fun _ => 0)))], [(r_keptPosts_89, .inl (T.2 0, 7, .inl (fun _ => 0)))]] _ _ := G
        subst h_774
        refine lv_aload_n hx hb dL_law_1707 rfl (lv_at hl 1 rfl) ?_
        refine lv_aload_n hx hb dL_law_1708 rfl (lv_at hl 3 rfl) ?_
        refine lv_iload_n hx hb dL_law_1709 rfl (lv_at hl 0 rfl) ?_
        refine lv_iconst (v := 1) hx hb dL_law_1710 (by decide) ?_
        refine lv_iadd hx hb dL_law_1711 ?_
        refine lv_topi (fun y_776 ey_776 => ?_)
        obtain rfl : y_776 = 1 := ey_776.trans (by decide)
        refine va_sld hx hb hX hbl hbA G.2.2.2.1 (vp_in_nI (n := 1) (by decide) (by decide)) dL_law_1712 ?_
        refine lv_topi (fun v_777 ev_777 => ?_)
        have ev_777 : v_777 = xs 1 := ev_777
        subst ev_777
        refine z_Vi (bc := [[(q_74, .inr (11, [.ref r_all_75, .ref r_has_76, .int 0, .int 0, .int 0, .int 0, .int 0, .int 0, .int 0, .int 0, .ref r_read_77, .int 0, .int 0, .int 0, .ref r_posts_78, .ref r_shut_79, .ref r_here_80, .int 0, .int 0, .int 0, .int 0, .ref r_was_81, .ref r_came_82, .ref r_seenAt_83, .ref r_rowWorth_84, .ref r_farBy_85, .ref r_used_86, .int 0, .int 0, .int 0, .int 0, .int 0, .int 0, .int 0, .int 0, .int 0, .int 0, .int 0, .int 0, .ref r_fitPost_87, .ref r_fitEnd_88, .ref r_keptPosts_89, .int 0]))], [(r_all_75, .inl (T.2 0, 3952, .inl (upd (fun _ => 0) 6 (-1))))]]) (br := [[(a1p_13, .inl (T.2 1, 600, .inl f1p_18))], [(a3p_15, .inl (T.2 3, 2, .inr (.inr (.inr (.inr f3p_19)))))], [(a4p_16, .inl (T.2 4, 2, .inr (.inr (.inr (.inr f4p_20)))))], [(a5p_17, .inl (T.2 5, 2, .inr (.inr (.inr (.inr f5p_21)))))], w1p_28, w2p_29, w3p_30, w4p_31, w5p_32, w6p_33, [(ia_3, .inl (T.2 6, 3, .inr (.inr (.inr (.inr fq_34)))))], u0_38, u1_39, u2_40, [(im_4, .inl (T.2 2, 3, .inl (fun _ => 0)))], v_41, z1_42, z2_43, z3_44, w1_45, w2_46, w3_47, [(cd_12, .inl (T.2 0, 1000, .inl (fun _ => 0)))], [(r_has_76, .inl (T.2 2, 3, .inl (fun _ => 0)))], [(r_read_77, .inl (T.2 0, 121, .inl (fun _ => 0)))], [(r_posts_78, .inl (T.2 0, 7, .inl (fun _ => 0)))], [(r_shut_79, .inl (T.2 0, 7, .inl (fun _ => 0)))], [(r_here_80, .inl (T.2 0, 7, .inl (fun _ => 0)))], [(r_was_81, .inl (T.2 0, 7, .inl (fun _ => 0)))], [(r_came_82, .inl (T.2 0, 7, .inl (fun _ => 0)))], [(r_seenAt_83, .inl (T.2 0, 16384, .inl (fun _ => 0)))], [(r_rowWorth_84, .inl (T.2 0, 512, .inl (fun _ => 0)))], [(r_farBy_85, .inl (T.2 0, 49, .inl (fun _ => 0)))], [(r_used_86, .inl (T.2 0, 7, .inl (fun _ => 0)))], [(r_fitPost_87, .inl (T.2 0, 28, .inl (fun _ => 0)))], [(r_fitEnd_88, .inl (T.2 0, 49, .inl (fun _ => 0)))], [(r_keptPosts_89, .inl (T.2 0, 7, .inl (fun _ => 0)))]]) (As := [.int (xs 1)]) (rest := [.int (zCount (xs 1))]) C G (c_m_count l T q_74 r_all_75 r_has_76 r_read_77 r_posts_78 r_shut_79 r_here_80 r_was_81 r_came_82 r_seenAt_83 r_rowWorth_84 r_farBy_85 r_used_86 r_fitPost_87 r_fitEnd_88 r_keptPosts_89 (xs 1)) (kV_RL_153 C.2.2.2.2 (Nat.le_of_ble_eq_true rfl) (Nat.le_of_ble_eq_true rfl)) [23, 24] [0, 1, 2, 3, 4, 5, 6, 7, 8, 9, 10, 11, 12, 13, 14, 15, 16, 17, 18, 19, 20, 21, 22, 25, 26, 27, 28, 29, 30, 31, 32, 33, 34, 35, 36, 37, 38] rfl rfl (ci := 11) (qc := (RX12, TX12, 43)) rfl rfl (List.mem_flatten.mpr ⟨_, List.mem_of_getElem? (i := 0) rfl, List.mem_cons_self⟩) rfl rfl hl.1 dL_law_1713 (Nat.le_of_ble_eq_true rfl) (Nat.le_of_ble_eq_true rfl) (fun r_779 b1 H locs hw G => ?_)
        obtain ⟨rfl, h_778⟩ := hw
        have G : zS T A s.heap s [[(a1p_13, .inl (T.2 1, 600, .inl f1p_18))], [(a3p_15, .inl (T.2 3, 2, .inr (.inr (.inr (.inr f3p_19)))))], [(a4p_16, .inl (T.2 4, 2, .inr (.inr (.inr (.inr f4p_20)))))], [(a5p_17, .inl (T.2 5, 2, .inr (.inr (.inr (.inr f5p_21)))))], w1p_28, w2p_29, w3p_30, w4p_31, w5p_32, w6p_33, [(ia_3, .inl (T.2 6, 3, .inr (.inr (.inr (.inr fq_34)))))], u0_38, u1_39, u2_40, [(im_4, .inl (T.2 2, 3, .inl (fun _ => 0)))], v_41, z1_42, z2_43, z3_44, w1_45, w2_46, w3_47, [(cd_12, .inl (T.2 0, 1000, .inl (fun _ => 0)))], [(r_has_76, .inl (T.2 2, 3, .inl (fun _ => 0)))], [(r_read_77, .inl (T.2 0, 121, .inl (fun _ => 0)))], [(r_posts_78, .inl (T.2 0, 7, .inl (fun _ => 0)))], [(r_shut_79, .inl (T.2 0, 7, .inl (fun _ => 0)))], [(r_here_80, .inl (T.2 0, 7, .inl (fun _ => 0)))], [(r_was_81, .inl (T.2 0, 7, .inl (fun _ => 0)))], [(r_came_82, .inl (T.2 0, 7, .inl (fun _ => 0)))], [(r_seenAt_83, .inl (T.2 0, 16384, .inl (fun _ => 0)))], [(r_rowWorth_84, .inl (T.2 0, 512, .inl (fun _ => 0)))], [(r_farBy_85, .inl (T.2 0, 49, .inl (fun _ => 0)))], [(r_used_86, .inl (T.2 0, 7, .inl (fun _ => 0)))], [(r_fitPost_87, .inl (T.2 0, 28, .inl (fun _ => 0)))], [(r_fitEnd_88, .inl (T.2 0, 49, .inl (fun _ => 0)))], [(r_keptPosts_89, .inl (T.2 0, 7, .inl (fun _ => 0)))]] _ _ := G
        subst h_778
        refine lv_icmp_eq (tgt := 1767) hx hb dL_law_1716 (by decide) (fun _ => ?_) (fun q => absurd rfl q)
        refine lv_iinc (v := 6) (lv' := [(3, .int 6), (2, .ref q_74), (1, .ref q_1), (0, .ref b)]) hx hb dL_law_1767 hl (k := 0) rfl (by decide) (by decide) rfl (fun ls hl => ?_)
        refine lv_goto (tgt := 18) hx hb dL_law_1770 (by decide) ?_
        refine lv_iload_n hx hb dL_law_18 rfl (lv_at hl 0 rfl) ?_
        refine lv_aload_n hx hb dL_law_19 rfl (lv_at hl 3 rfl) ?_
        refine va_slen hx hb hX hbl hbA G.2.2.2.1 dL_law_20 ?_
        refine lv_bipush (v := 6) hx hb dL_law_21 (by decide) ?_
        refine lv_isub hx hb dL_law_23 ?_
        refine lv_topi (fun y_780 ey_780 => ?_)
        obtain rfl : y_780 = 0 := ey_780.trans (by decide)
        refine lv_icmp_gt (tgt := 1773) hx hb dL_law_24 (by decide) (fun _ => ?_) (fun q => absurd (by decide) q)
        refine lv_iconst (v := 1) hx hb dL_law_1773 (by decide) ?_
        refine va_forget (fun q hq => by have h9 := G.2.2.2.1.2.2 q hq; rw [hAe] at h9; exact h9) ?_
        refine W.widen (k := 600000) (n := 7302250) (Nat.le_of_ble_eq_true rfl) (Nat.le_of_ble_eq_true rfl) ?_
        exact lw_ret hx hb hr hlocks dL_law_1774
      · refine lv_tableIn (tgt := 1721) hx hb dL_law_33 (by omega) (by omega) (by rw [c_94]; rfl) (by decide) ?_
        refine lv_aload_n hx hb dL_law_1721 rfl (lv_at hl 2 rfl) ?_
        refine lv_aload_n hx hb dL_law_1722 rfl (lv_at hl 3 rfl) ?_
        refine lv_iload_n hx hb dL_law_1723 rfl (lv_at hl 0 rfl) ?_
        refine lv_iconst (v := 1) hx hb dL_law_1724 (by decide) ?_
        refine lv_iadd hx hb dL_law_1725 ?_
        refine lv_topi (fun y_781 ey_781 => ?_)
        obtain rfl : y_781 = 1 := ey_781.trans (by decide)
        refine va_sld hx hb hX hbl hbA G.2.2.2.1 (vp_in_nI (n := 1) (by decide) (by decide)) dL_law_1726 ?_
        refine lv_topi (fun v_782 ev_782 => ?_)
        have ev_782 : v_782 = xs 1 := ev_782
        subst ev_782
        refine z_Vi (bc := [[(q_1, .inr (10, [.ref t0_2, .ref ia_3, .ref im_4, .ref rd_5, .ref po_6, .ref co_7, .ref tr_8, .ref wa_9, .ref wb_10, .ref fi_11, .ref cd_12]))], [(t0_2, .inr (8, [.ref a1p_13, .int 0, .int 0, .int (-1), .ref a2p_14, .ref a3p_15, .ref a4p_16, .ref a5p_17]))], [(a1p_13, .inl (T.2 1, 600, .inl f1p_18))], [(a2p_14, .inl (T.2 0, 3, .inl (fun _ => 0)))], [(a3p_15, .inl (T.2 3, 2, .inr (.inr (.inr (.inr f3p_19)))))], [(a4p_16, .inl (T.2 4, 2, .inr (.inr (.inr (.inr f4p_20)))))], [(a5p_17, .inl (T.2 5, 2, .inr (.inr (.inr (.inr f5p_21)))))], w1p_28, w2p_29, w3p_30, w4p_31, w5p_32, w6p_33, [(ia_3, .inl (T.2 6, 3, .inr (.inr (.inr (.inr fq_34)))))], u0_38, u1_39, u2_40, [(im_4, .inl (T.2 2, 3, .inl (fun _ => 0)))]]) (br := [v_41, z1_42, z2_43, z3_44, w1_45, w2_46, w3_47, [(cd_12, .inl (T.2 0, 1000, .inl (fun _ => 0)))], [(q_74, .inr (11, [.ref r_all_75, .ref r_has_76, .int 0, .int 0, .int 0, .int 0, .int 0, .int 0, .int 0, .int 0, .ref r_read_77, .int 0, .int 0, .int 0, .ref r_posts_78, .ref r_shut_79, .ref r_here_80, .int 0, .int 0, .int 0, .int 0, .ref r_was_81, .ref r_came_82, .ref r_seenAt_83, .ref r_rowWorth_84, .ref r_farBy_85, .ref r_used_86, .int 0, .int 0, .int 0, .int 0, .int 0, .int 0, .int 0, .int 0, .int 0, .int 0, .int 0, .int 0, .ref r_fitPost_87, .ref r_fitEnd_88, .ref r_keptPosts_89, .int 0]))], [(r_all_75, .inl (T.2 0, 3952, .inl (upd (fun _ => 0) 6 (-1))))], [(r_has_76, .inl (T.2 2, 3, .inl (fun _ => 0)))], [(r_read_77, .inl (T.2 0, 121, .inl (fun _ => 0)))], [(r_posts_78, .inl (T.2 0, 7, .inl (fun _ => 0)))], [(r_shut_79, .inl (T.2 0, 7, .inl (fun _ => 0)))], [(r_here_80, .inl (T.2 0, 7, .inl (fun _ => 0)))], [(r_was_81, .inl (T.2 0, 7, .inl (fun _ => 0)))], [(r_came_82, .inl (T.2 0, 7, .inl (fun _ => 0)))], [(r_seenAt_83, .inl (T.2 0, 16384, .inl (fun _ => 0)))], [(r_rowWorth_84, .inl (T.2 0, 512, .inl (fun _ => 0)))], [(r_farBy_85, .inl (T.2 0, 49, .inl (fun _ => 0)))], [(r_used_86, .inl (T.2 0, 7, .inl (fun _ => 0)))], [(r_fitPost_87, .inl (T.2 0, 28, .inl (fun _ => 0)))], [(r_fitEnd_88, .inl (T.2 0, 49, .inl (fun _ => 0)))], [(r_keptPosts_89, .inl (T.2 0, 7, .inl (fun _ => 0)))]]) (As := [.int (xs 1)]) (rest := []) C G (c_x_image l T q_1 t0_2 ia_3 im_4 rd_5 po_6 co_7 tr_8 wa_9 wb_10 fi_11 cd_12 a1p_13 a2p_14 a3p_15 a4p_16 a5p_17 f1p_18 f3p_19 f4p_20 f5p_21 l0p_22 l1p_23 d0p_24 d1p_25 g0p_26 g1p_27 w1p_28 w2p_29 w3p_30 w4p_31 w5p_32 w6p_33 fq_34 i0_35 i1_36 i2_37 u0_38 u1_39 u2_40 (xs 1) h_48 h_49 h_50 h_51 h_52 h_53 h_54 h_55 h_56 h_57 h_58 h_59 h_60 h_61 h_62 h_63 h_64 h_65) (kV_RL_154 C.2.2.2.2 (Nat.le_of_ble_eq_true rfl) (Nat.le_of_ble_eq_true rfl)) [0, 1, 2, 3, 4, 5, 6, 7, 8, 9, 10, 11, 12, 13, 14, 15, 16, 17] [18, 19, 20, 21, 22, 23, 24, 25, 26, 27, 28, 29, 30, 31, 32, 33, 34, 35, 36, 37, 38, 39, 40, 41] rfl rfl (ci := 10) (qc := (RX11, TX11, 11)) rfl rfl (List.mem_flatten.mpr ⟨_, List.mem_of_getElem? (i := 0) rfl, List.mem_cons_self⟩) rfl rfl hl.1 dL_law_1727 (Nat.le_of_ble_eq_true rfl) (Nat.le_of_ble_eq_true rfl) (fun r_784 b1 H locs hw G => ?_)
        obtain ⟨rfl, h_783⟩ := hw
        have G : zS T A s.heap s [v_41, z1_42, z2_43, z3_44, w1_45, w2_46, w3_47, [(cd_12, .inl (T.2 0, 1000, .inl (fun _ => 0)))], [(q_74, .inr (11, [.ref r_all_75, .ref r_has_76, .int 0, .int 0, .int 0, .int 0, .int 0, .int 0, .int 0, .int 0, .ref r_read_77, .int 0, .int 0, .int 0, .ref r_posts_78, .ref r_shut_79, .ref r_here_80, .int 0, .int 0, .int 0, .int 0, .ref r_was_81, .ref r_came_82, .ref r_seenAt_83, .ref r_rowWorth_84, .ref r_farBy_85, .ref r_used_86, .int 0, .int 0, .int 0, .int 0, .int 0, .int 0, .int 0, .int 0, .int 0, .int 0, .int 0, .int 0, .ref r_fitPost_87, .ref r_fitEnd_88, .ref r_keptPosts_89, .int 0]))], [(r_all_75, .inl (T.2 0, 3952, .inl (upd (fun _ => 0) 6 (-1))))], [(r_has_76, .inl (T.2 2, 3, .inl (fun _ => 0)))], [(r_read_77, .inl (T.2 0, 121, .inl (fun _ => 0)))], [(r_posts_78, .inl (T.2 0, 7, .inl (fun _ => 0)))], [(r_shut_79, .inl (T.2 0, 7, .inl (fun _ => 0)))], [(r_here_80, .inl (T.2 0, 7, .inl (fun _ => 0)))], [(r_was_81, .inl (T.2 0, 7, .inl (fun _ => 0)))], [(r_came_82, .inl (T.2 0, 7, .inl (fun _ => 0)))], [(r_seenAt_83, .inl (T.2 0, 16384, .inl (fun _ => 0)))], [(r_rowWorth_84, .inl (T.2 0, 512, .inl (fun _ => 0)))], [(r_farBy_85, .inl (T.2 0, 49, .inl (fun _ => 0)))], [(r_used_86, .inl (T.2 0, 7, .inl (fun _ => 0)))], [(r_fitPost_87, .inl (T.2 0, 28, .inl (fun _ => 0)))], [(r_fitEnd_88, .inl (T.2 0, 49, .inl (fun _ => 0)))], [(r_keptPosts_89, .inl (T.2 0, 7, .inl (fun _ => 0)))]] _ _ := G
        subst h_783
        refine lv_aload_n hx hb dL_law_1730 rfl (lv_at hl 1 rfl) ?_
        refine lv_aload_n hx hb dL_law_1731 rfl (lv_at hl 3 rfl) ?_
        refine lv_iload_n hx hb dL_law_1732 rfl (lv_at hl 0 rfl) ?_
        refine lv_iconst (v := 1) hx hb dL_law_1733 (by decide) ?_
        refine lv_iadd hx hb dL_law_1734 ?_
        refine lv_topi (fun y_785 ey_785 => ?_)
        obtain rfl : y_785 = 1 := ey_785.trans (by decide)
        refine va_sld hx hb hX hbl hbA G.2.2.2.1 (vp_in_nI (n := 1) (by decide) (by decide)) dL_law_1735 ?_
        refine lv_topi (fun v_786 ev_786 => ?_)
        have ev_786 : v_786 = xs 1 := ev_786
        subst ev_786
        refine z_Vi (bc := [[(q_74, .inr (11, [.ref r_all_75, .ref r_has_76, .int 0, .int 0, .int 0, .int 0, .int 0, .int 0, .int 0, .int 0, .ref r_read_77, .int 0, .int 0, .int 0, .ref r_posts_78, .ref r_shut_79, .ref r_here_80, .int 0, .int 0, .int 0, .int 0, .ref r_was_81, .ref r_came_82, .ref r_seenAt_83, .ref r_rowWorth_84, .ref r_farBy_85, .ref r_used_86, .int 0, .int 0, .int 0, .int 0, .int 0, .int 0, .int 0, .int 0, .int 0, .int 0, .int 0, .int 0, .ref r_fitPost_87, .ref r_fitEnd_88, .ref r_keptPosts_89, .int 0]))], [(r_all_75, .inl (T.2 0, 3952, .inl (upd (fun _ => 0) 6 (-1))))], [(r_has_76, .inl (T.2 2, 3, .inl (fun _ => 0)))]]) (br := [v_41, z1_42, z2_43, z3_44, w1_45, w2_46, w3_47, [(cd_12, .inl (T.2 0, 1000, .inl (fun _ => 0)))], [(r_read_77, .inl (T.2 0, 121, .inl (fun _ => 0)))], [(r_posts_78, .inl (T.2 0, 7, .inl (fun _ => 0)))], [(r_shut_79, .inl (T.2 0, 7, .inl (fun _ => 0)))], [(r_here_80, .inl (T.2 0, 7, .inl (fun _ => 0)))], [(r_was_81, .inl (T.2 0, 7, .inl (fun _ => 0)))], [(r_came_82, .inl (T.2 0, 7, .inl (fun _ => 0)))], [(r_seenAt_83, .inl (T.2 0, 16384, .inl (fun _ => 0)))], [(r_rowWorth_84, .inl (T.2 0, 512, .inl (fun _ => 0)))], [(r_farBy_85, .inl (T.2 0, 49, .inl (fun _ => 0)))], [(r_used_86, .inl (T.2 0, 7, .inl (fun _ => 0)))], [(r_fitPost_87, .inl (T.2 0, 28, .inl (fun _ => 0)))], [(r_fitEnd_88, .inl (T.2 0, 49, .inl (fun _ => 0)))], [(r_keptPosts_89, .inl (T.2 0, 7, .inl (fun _ => 0)))]]) (As := [.int (xs 1)]) (rest := [.int (zImage (xs 1))]) C G (c_m_image l T q_74 r_all_75 r_has_76 r_read_77 r_posts_78 r_shut_79 r_here_80 r_was_81 r_came_82 r_seenAt_83 r_rowWorth_84 r_farBy_85 r_used_86 r_fitPost_87 r_fitEnd_88 r_keptPosts_89 (xs 1)) (kV_RL_158 C.2.2.2.2 (Nat.le_of_ble_eq_true rfl) (Nat.le_of_ble_eq_true rfl)) [8, 9, 10] [0, 1, 2, 3, 4, 5, 6, 7, 11, 12, 13, 14, 15, 16, 17, 18, 19, 20, 21, 22, 23] rfl rfl (ci := 11) (qc := (RX12, TX12, 43)) rfl rfl (List.mem_flatten.mpr ⟨_, List.mem_of_getElem? (i := 0) rfl, List.mem_cons_self⟩) rfl rfl hl.1 dL_law_1736 (Nat.le_of_ble_eq_true rfl) (Nat.le_of_ble_eq_true rfl) (fun r_788 b1 H locs hw G => ?_)
        obtain ⟨rfl, h_787⟩ := hw
        have G : zS T A s.heap s [v_41, z1_42, z2_43, z3_44, w1_45, w2_46, w3_47, [(cd_12, .inl (T.2 0, 1000, .inl (fun _ => 0)))], [(r_read_77, .inl (T.2 0, 121, .inl (fun _ => 0)))], [(r_posts_78, .inl (T.2 0, 7, .inl (fun _ => 0)))], [(r_shut_79, .inl (T.2 0, 7, .inl (fun _ => 0)))], [(r_here_80, .inl (T.2 0, 7, .inl (fun _ => 0)))], [(r_was_81, .inl (T.2 0, 7, .inl (fun _ => 0)))], [(r_came_82, .inl (T.2 0, 7, .inl (fun _ => 0)))], [(r_seenAt_83, .inl (T.2 0, 16384, .inl (fun _ => 0)))], [(r_rowWorth_84, .inl (T.2 0, 512, .inl (fun _ => 0)))], [(r_farBy_85, .inl (T.2 0, 49, .inl (fun _ => 0)))], [(r_used_86, .inl (T.2 0, 7, .inl (fun _ => 0)))], [(r_fitPost_87, .inl (T.2 0, 28, .inl (fun _ => 0)))], [(r_fitEnd_88, .inl (T.2 0, 49, .inl (fun _ => 0)))], [(r_keptPosts_89, .inl (T.2 0, 7, .inl (fun _ => 0)))]] _ _ := G
        subst h_787
        refine lv_icmp_eq (tgt := 1767) hx hb dL_law_1739 (by decide) (fun _ => ?_) (fun q => absurd rfl q)
        refine lv_iinc (v := 6) (lv' := [(3, .int 6), (2, .ref q_74), (1, .ref q_1), (0, .ref b)]) hx hb dL_law_1767 hl (k := 0) rfl (by decide) (by decide) rfl (fun ls hl => ?_)
        refine lv_goto (tgt := 18) hx hb dL_law_1770 (by decide) ?_
        refine lv_iload_n hx hb dL_law_18 rfl (lv_at hl 0 rfl) ?_
        refine lv_aload_n hx hb dL_law_19 rfl (lv_at hl 3 rfl) ?_
        refine va_slen hx hb hX hbl hbA G.2.2.2.1 dL_law_20 ?_
        refine lv_bipush (v := 6) hx hb dL_law_21 (by decide) ?_
        refine lv_isub hx hb dL_law_23 ?_
        refine lv_topi (fun y_789 ey_789 => ?_)
        obtain rfl : y_789 = 0 := ey_789.trans (by decide)
        refine lv_icmp_gt (tgt := 1773) hx hb dL_law_24 (by decide) (fun _ => ?_) (fun q => absurd (by decide) q)
        refine lv_iconst (v := 1) hx hb dL_law_1773 (by decide) ?_
        refine va_forget (fun q hq => by have h9 := G.2.2.2.1.2.2 q hq; rw [hAe] at h9; exact h9) ?_
        refine W.widen (k := 600000) (n := 7302250) (Nat.le_of_ble_eq_true rfl) (Nat.le_of_ble_eq_true rfl) ?_
        exact lw_ret hx hb hr hlocks dL_law_1774
      · refine lv_tableIn (tgt := 1744) hx hb dL_law_33 (by omega) (by omega) (by rw [c_94]; rfl) (by decide) ?_
        refine lv_aload_n hx hb dL_law_1744 rfl (lv_at hl 2 rfl) ?_
        refine lv_aload_n hx hb dL_law_1745 rfl (lv_at hl 3 rfl) ?_
        refine lv_iload_n hx hb dL_law_1746 rfl (lv_at hl 0 rfl) ?_
        refine lv_iconst (v := 1) hx hb dL_law_1747 (by decide) ?_
        refine lv_iadd hx hb dL_law_1748 ?_
        refine lv_topi (fun y_790 ey_790 => ?_)
        obtain rfl : y_790 = 1 := ey_790.trans (by decide)
        refine va_sld hx hb hX hbl hbA G.2.2.2.1 (vp_in_nI (n := 1) (by decide) (by decide)) dL_law_1749 ?_
        refine lv_topi (fun v_791 ev_791 => ?_)
        have ev_791 : v_791 = xs 1 := ev_791
        subst ev_791
        refine z_Vi (bc := [[(q_1, .inr (10, [.ref t0_2, .ref ia_3, .ref im_4, .ref rd_5, .ref po_6, .ref co_7, .ref tr_8, .ref wa_9, .ref wb_10, .ref fi_11, .ref cd_12]))], [(im_4, .inl (T.2 2, 3, .inl (fun _ => 0)))]]) (br := [[(t0_2, .inr (8, [.ref a1p_13, .int 0, .int 0, .int (-1), .ref a2p_14, .ref a3p_15, .ref a4p_16, .ref a5p_17]))], [(a1p_13, .inl (T.2 1, 600, .inl f1p_18))], [(a2p_14, .inl (T.2 0, 3, .inl (fun _ => 0)))], [(a3p_15, .inl (T.2 3, 2, .inr (.inr (.inr (.inr f3p_19)))))], [(a4p_16, .inl (T.2 4, 2, .inr (.inr (.inr (.inr f4p_20)))))], [(a5p_17, .inl (T.2 5, 2, .inr (.inr (.inr (.inr f5p_21)))))], w1p_28, w2p_29, w3p_30, w4p_31, w5p_32, w6p_33, [(ia_3, .inl (T.2 6, 3, .inr (.inr (.inr (.inr fq_34)))))], u0_38, u1_39, u2_40, v_41, z1_42, z2_43, z3_44, w1_45, w2_46, w3_47, [(cd_12, .inl (T.2 0, 1000, .inl (fun _ => 0)))], [(q_74, .inr (11, [.ref r_all_75, .ref r_has_76, .int 0, .int 0, .int 0, .int 0, .int 0, .int 0, .int 0, .int 0, .ref r_read_77, .int 0, .int 0, .int 0, .ref r_posts_78, .ref r_shut_79, .ref r_here_80, .int 0, .int 0, .int 0, .int 0, .ref r_was_81, .ref r_came_82, .ref r_seenAt_83, .ref r_rowWorth_84, .ref r_farBy_85, .ref r_used_86, .int 0, .int 0, .int 0, .int 0, .int 0, .int 0, .int 0, .int 0, .int 0, .int 0, .int 0, .int 0, .ref r_fitPost_87, .ref r_fitEnd_88, .ref r_keptPosts_89, .int 0]))], [(r_all_75, .inl (T.2 0, 3952, .inl (upd (fun _ => 0) 6 (-1))))], [(r_has_76, .inl (T.2 2, 3, .inl (fun _ => 0)))], [(r_read_77, .inl (T.2 0, 121, .inl (fun _ => 0)))], [(r_posts_78, .inl (T.2 0, 7, .inl (fun _ => 0)))], [(r_shut_79, .inl (T.2 0, 7, .inl (fun _ => 0)))], [(r_here_80, .inl (T.2 0, 7, .inl (fun _ => 0)))], [(r_was_81, .inl (T.2 0, 7, .inl (fun _ => 0)))], [(r_came_82, .inl (T.2 0, 7, .inl (fun _ => 0)))], [(r_seenAt_83, .inl (T.2 0, 16384, .inl (fun _ => 0)))], [(r_rowWorth_84, .inl (T.2 0, 512, .inl (fun _ => 0)))], [(r_farBy_85, .inl (T.2 0, 49, .inl (fun _ => 0)))], [(r_used_86, .inl (T.2 0, 7, .inl (fun _ => 0)))], [(r_fitPost_87, .inl (T.2 0, 28, .inl (fun _ => 0)))], [(r_fitEnd_88, .inl (T.2 0, 49, .inl (fun _ => 0)))], [(r_keptPosts_89, .inl (T.2 0, 7, .inl (fun _ => 0)))]]) (As := [.int (xs 1)]) (rest := []) C G (c_x_again l T q_1 t0_2 ia_3 im_4 rd_5 po_6 co_7 tr_8 wa_9 wb_10 fi_11 cd_12 (xs 1)) (kV_RL_159 C.2.2.2.2 (Nat.le_of_ble_eq_true rfl) (Nat.le_of_ble_eq_true rfl)) [0, 17] [1, 2, 3, 4, 5, 6, 7, 8, 9, 10, 11, 12, 13, 14, 15, 16, 18, 19, 20, 21, 22, 23, 24, 25, 26, 27, 28, 29, 30, 31, 32, 33, 34, 35, 36, 37, 38, 39, 40, 41] rfl rfl (ci := 10) (qc := (RX11, TX11, 11)) rfl rfl (List.mem_flatten.mpr ⟨_, List.mem_of_getElem? (i := 0) rfl, List.mem_cons_self⟩) rfl rfl hl.1 dL_law_1750 (Nat.le_of_ble_eq_true rfl) (Nat.le_of_ble_eq_true rfl) (fun r_793 b1 H locs hw G => ?_)
        obtain ⟨rfl, h_792⟩ := hw
        have G : zS T A s.heap s [[(t0_2, .inr (8, [.ref a1p_13, .int 0, .int 0, .int (-1), .ref a2p_14, .ref a3p_15, .ref a4p_16, .ref a5p_17]))], [(a1p_13, .inl (T.2 1, 600, .inl f1p_18))], [(a2p_14, .inl (T.2 0, 3, .inl (fun _ => 0)))], [(a3p_15, .inl (T.2 3, 2, .inr (.inr (.inr (.inr f3p_19)))))], [(a4p_16, .inl (T.2 4, 2, .inr (.inr (.inr (.inr f4p_20)))))], [(a5p_17, .inl (T.2 5, 2, .inr (.inr (.inr (.inr f5p_21)))))], w1p_28, w2p_29, w3p_30, w4p_31, w5p_32, w6p_33, [(ia_3, .inl (T.2 6, 3, .inr (.inr (.inr (.inr fq_34)))))], u0_38, u1_39, u2_40, v_41, z1_42, z2_43, z3_44, w1_45, w2_46, w3_47, [(cd_12, .inl (T.2 0, 1000, .inl (fun _ => 0)))], [(q_74, .inr (11, [.ref r_all_75, .ref r_has_76, .int 0, .int 0, .int 0, .int 0, .int 0, .int 0, .int 0, .int 0, .ref r_read_77, .int 0, .int 0, .int 0, .ref r_posts_78, .ref r_shut_79, .ref r_here_80, .int 0, .int 0, .int 0, .int 0, .ref r_was_81, .ref r_came_82, .ref r_seenAt_83, .ref r_rowWorth_84, .ref r_farBy_85, .ref r_used_86, .int 0, .int 0, .int 0, .int 0, .int 0, .int 0, .int 0, .int 0, .int 0, .int 0, .int 0, .int 0, .ref r_fitPost_87, .ref r_fitEnd_88, .ref r_keptPosts_89, .int 0]))], [(r_all_75, .inl (T.2 0, 3952, .inl (upd (fun _ => 0) 6 (-1))))], [(r_has_76, .inl (T.2 2, 3, .inl (fun _ => 0)))], [(r_read_77, .inl (T.2 0, 121, .inl (fun _ => 0)))], [(r_posts_78, .inl (T.2 0, 7, .inl (fun _ => 0)))], [(r_shut_79, .inl (T.2 0, 7, .inl (fun _ => 0)))], [(r_here_80, .inl (T.2 0, 7, .inl (fun _ => 0)))], [(r_was_81, .inl (T.2 0, 7, .inl (fun _ => 0)))], [(r_came_82, .inl (T.2 0, 7, .inl (fun _ => 0)))], [(r_seenAt_83, .inl (T.2 0, 16384, .inl (fun _ => 0)))], [(r_rowWorth_84, .inl (T.2 0, 512, .inl (fun _ => 0)))], [(r_farBy_85, .inl (T.2 0, 49, .inl (fun _ => 0)))], [(r_used_86, .inl (T.2 0, 7, .inl (fun _ => 0)))], [(r_fitPost_87, .inl (T.2 0, 28, .inl (fun _ => 0)))], [(r_fitEnd_88, .inl (T.2 0, 49, .inl (fun _ => 0)))], [(r_keptPosts_89, .inl (T.2 0, 7, .inl (fun _ => 0)))]] _ _ := G
        subst h_792
        refine lv_aload_n hx hb dL_law_1753 rfl (lv_at hl 1 rfl) ?_
        refine lv_aload_n hx hb dL_law_1754 rfl (lv_at hl 3 rfl) ?_
        refine lv_iload_n hx hb dL_law_1755 rfl (lv_at hl 0 rfl) ?_
        refine lv_iconst (v := 1) hx hb dL_law_1756 (by decide) ?_
        refine lv_iadd hx hb dL_law_1757 ?_
        refine lv_topi (fun y_794 ey_794 => ?_)
        obtain rfl : y_794 = 1 := ey_794.trans (by decide)
        refine va_sld hx hb hX hbl hbA G.2.2.2.1 (vp_in_nI (n := 1) (by decide) (by decide)) dL_law_1758 ?_
        refine lv_topi (fun v_795 ev_795 => ?_)
        have ev_795 : v_795 = xs 1 := ev_795
        subst ev_795
        refine z_Vi (bc := [[(q_74, .inr (11, [.ref r_all_75, .ref r_has_76, .int 0, .int 0, .int 0, .int 0, .int 0, .int 0, .int 0, .int 0, .ref r_read_77, .int 0, .int 0, .int 0, .ref r_posts_78, .ref r_shut_79, .ref r_here_80, .int 0, .int 0, .int 0, .int 0, .ref r_was_81, .ref r_came_82, .ref r_seenAt_83, .ref r_rowWorth_84, .ref r_farBy_85, .ref r_used_86, .int 0, .int 0, .int 0, .int 0, .int 0, .int 0, .int 0, .int 0, .int 0, .int 0, .int 0, .int 0, .ref r_fitPost_87, .ref r_fitEnd_88, .ref r_keptPosts_89, .int 0]))], [(r_all_75, .inl (T.2 0, 3952, .inl (upd (fun _ => 0) 6 (-1))))], [(r_has_76, .inl (T.2 2, 3, .inl (fun _ => 0)))]]) (br := [[(t0_2, .inr (8, [.ref a1p_13, .int 0, .int 0, .int (-1), .ref a2p_14, .ref a3p_15, .ref a4p_16, .ref a5p_17]))], [(a1p_13, .inl (T.2 1, 600, .inl f1p_18))], [(a2p_14, .inl (T.2 0, 3, .inl (fun _ => 0)))], [(a3p_15, .inl (T.2 3, 2, .inr (.inr (.inr (.inr f3p_19)))))], [(a4p_16, .inl (T.2 4, 2, .inr (.inr (.inr (.inr f4p_20)))))], [(a5p_17, .inl (T.2 5, 2, .inr (.inr (.inr (.inr f5p_21)))))], w1p_28, w2p_29, w3p_30, w4p_31, w5p_32, w6p_33, [(ia_3, .inl (T.2 6, 3, .inr (.inr (.inr (.inr fq_34)))))], u0_38, u1_39, u2_40, v_41, z1_42, z2_43, z3_44, w1_45, w2_46, w3_47, [(cd_12, .inl (T.2 0, 1000, .inl (fun _ => 0)))], [(r_read_77, .inl (T.2 0, 121, .inl (fun _ => 0)))], [(r_posts_78, .inl (T.2 0, 7, .inl (fun _ => 0)))], [(r_shut_79, .inl (T.2 0, 7, .inl (fun _ => 0)))], [(r_here_80, .inl (T.2 0, 7, .inl (fun _ => 0)))], [(r_was_81, .inl (T.2 0, 7, .inl (fun _ => 0)))], [(r_came_82, .inl (T.2 0, 7, .inl (fun _ => 0)))], [(r_seenAt_83, .inl (T.2 0, 16384, .inl (fun _ => 0)))], [(r_rowWorth_84, .inl (T.2 0, 512, .inl (fun _ => 0)))], [(r_farBy_85, .inl (T.2 0, 49, .inl (fun _ => 0)))], [(r_used_86, .inl (T.2 0, 7, .inl (fun _ => 0)))], [(r_fitPost_87, .inl (T.2 0, 28, .inl (fun _ => 0)))], [(r_fitEnd_88, .inl (T.2 0, 49, .inl (fun _ => 0)))], [(r_keptPosts_89, .inl (T.2 0, 7, .inl (fun _ => 0)))]]) (As := [.int (xs 1)]) (rest := [.int 0]) C G (c_m_again l T q_74 r_all_75 r_has_76 r_read_77 r_posts_78 r_shut_79 r_here_80 r_was_81 r_came_82 r_seenAt_83 r_rowWorth_84 r_farBy_85 r_used_86 r_fitPost_87 r_fitEnd_88 r_keptPosts_89 (xs 1)) (kV_RL_162 C.2.2.2.2 (Nat.le_of_ble_eq_true rfl) (Nat.le_of_ble_eq_true rfl)) [24, 25, 26] [0, 1, 2, 3, 4, 5, 6, 7, 8, 9, 10, 11, 12, 13, 14, 15, 16, 17, 18, 19, 20, 21, 22, 23, 27, 28, 29, 30, 31, 32, 33, 34, 35, 36, 37, 38, 39] rfl rfl (ci := 11) (qc := (RX12, TX12, 43)) rfl rfl (List.mem_flatten.mpr ⟨_, List.mem_of_getElem? (i := 0) rfl, List.mem_cons_self⟩) rfl rfl hl.1 dL_law_1759 (Nat.le_of_ble_eq_true rfl) (Nat.le_of_ble_eq_true rfl) (fun r_797 b1 H locs hw G => ?_)
        obtain ⟨rfl, h_796⟩ := hw
        have G : zS T A s.heap s [[(t0_2, .inr (8, [.ref a1p_13, .int 0, .int 0, .int (-1), .ref a2p_14, .ref a3p_15, .ref a4p_16, .ref a5p_17]))], [(a1p_13, .inl (T.2 1, 600, .inl f1p_18))], [(a2p_14, .inl (T.2 0, 3, .inl (fun _ => 0)))], [(a3p_15, .inl (T.2 3, 2, .inr (.inr (.inr (.inr f3p_19)))))], [(a4p_16, .inl (T.2 4, 2, .inr (.inr (.inr (.inr f4p_20)))))], [(a5p_17, .inl (T.2 5, 2, .inr (.inr (.inr (.inr f5p_21)))))], w1p_28, w2p_29, w3p_30, w4p_31, w5p_32, w6p_33, [(ia_3, .inl (T.2 6, 3, .inr (.inr (.inr (.inr fq_34)))))], u0_38, u1_39, u2_40, v_41, z1_42, z2_43, z3_44, w1_45, w2_46, w3_47, [(cd_12, .inl (T.2 0, 1000, .inl (fun _ => 0)))], [(r_read_77, .inl (T.2 0, 121, .inl (fun _ => 0)))], [(r_posts_78, .inl (T.2 0, 7, .inl (fun _ => 0)))], [(r_shut_79, .inl (T.2 0, 7, .inl (fun _ => 0)))], [(r_here_80, .inl (T.2 0, 7, .inl (fun _ => 0)))], [(r_was_81, .inl (T.2 0, 7, .inl (fun _ => 0)))], [(r_came_82, .inl (T.2 0, 7, .inl (fun _ => 0)))], [(r_seenAt_83, .inl (T.2 0, 16384, .inl (fun _ => 0)))], [(r_rowWorth_84, .inl (T.2 0, 512, .inl (fun _ => 0)))], [(r_farBy_85, .inl (T.2 0, 49, .inl (fun _ => 0)))], [(r_used_86, .inl (T.2 0, 7, .inl (fun _ => 0)))], [(r_fitPost_87, .inl (T.2 0, 28, .inl (fun _ => 0)))], [(r_fitEnd_88, .inl (T.2 0, 49, .inl (fun _ => 0)))], [(r_keptPosts_89, .inl (T.2 0, 7, .inl (fun _ => 0)))]] _ _ := G
        subst h_796
        refine lv_icmp_eq (tgt := 1767) hx hb dL_law_1762 (by decide) (fun _ => ?_) (fun q => absurd (by decide) q)
        refine lv_iinc (v := 6) (lv' := [(3, .int 6), (2, .ref q_74), (1, .ref q_1), (0, .ref b)]) hx hb dL_law_1767 hl (k := 0) rfl (by decide) (by decide) rfl (fun ls hl => ?_)
        refine lv_goto (tgt := 18) hx hb dL_law_1770 (by decide) ?_
        refine lv_iload_n hx hb dL_law_18 rfl (lv_at hl 0 rfl) ?_
        refine lv_aload_n hx hb dL_law_19 rfl (lv_at hl 3 rfl) ?_
        refine va_slen hx hb hX hbl hbA G.2.2.2.1 dL_law_20 ?_
        refine lv_bipush (v := 6) hx hb dL_law_21 (by decide) ?_
        refine lv_isub hx hb dL_law_23 ?_
        refine lv_topi (fun y_798 ey_798 => ?_)
        obtain rfl : y_798 = 0 := ey_798.trans (by decide)
        refine lv_icmp_gt (tgt := 1773) hx hb dL_law_24 (by decide) (fun _ => ?_) (fun q => absurd (by decide) q)
        refine lv_iconst (v := 1) hx hb dL_law_1773 (by decide) ?_
        refine va_forget (fun q hq => by have h9 := G.2.2.2.1.2.2 q hq; rw [hAe] at h9; exact h9) ?_
        refine W.widen (k := 600000) (n := 7302250) (Nat.le_of_ble_eq_true rfl) (Nat.le_of_ble_eq_true rfl) ?_
        exact lw_ret hx hb hr hlocks dL_law_1774

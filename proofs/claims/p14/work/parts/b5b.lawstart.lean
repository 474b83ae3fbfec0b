theorem z_arrP {s : State} {args : Array Value} {ty : FieldType} (hp : ty = .int ∨ ty = .byte ∨ ty = .boolean) (h : (Cond.arrayClass ty).before args s = true) : ∃ cA : ClassId, ArrOfT s cA ty ∧ va_RA s cA ty := by
  obtain ⟨cA, kA, comp, h1, h2, h3⟩ := Cond.arrayClass_spec h
  refine ⟨cA, fun n z => ⟨fun k h9 => (by rcases hp with rfl | rfl | rfl <;> cases h9), kA, h2, comp, h3⟩, ?_⟩
  rcases hp with rfl | rfl | rfl <;> exact h1
theorem z_arrO {s : State} {args : Array Value} {C : String} (h : (Cond.arrayOver (.object C)).before args s = true) : ∃ cA : ClassId, ArrOfT s cA (.object C) ∧ va_RA s cA (.object C) := by
  obtain ⟨comp, c, k, h1, h2, h3, h4, h5⟩ := Cond.arrayOver_spec h
  exact ⟨c, fun n z => ⟨fun k h => (by cases h), k, h3, comp, h4⟩, k, comp, h3, h4, h1, h5⟩
theorem z_nst_in : ∀ q ∈ zNst, Cond.methodLinkNest q.1 q.2.1 q.2.2.1 q.2.2.2 ∈ lw_tbl := by decide +kernel
theorem z_ao_in : ∀ C ∈ zAOs, Cond.arrayOver (.object C) ∈ lw_tbl := by decide +kernel
abbrev zTm (i : Nat) : Term := .string "TurnedPosts$Reader" (zKp.getD i 0)
abbrev zGv : List Cond := flatC (Cond.and given_1 narrow_1)
theorem z_s1 : ∀ i : Nat, i < 12 → Cond.exactly (zTm i) "java/lang/String" ∈ zGv := by decide +kernel
theorem z_s2 : ∀ i : Nat, i < 12 → Cond.eq (.field (zTm i) "java/lang/String" "coder" "B") (.int 0) ∈ zGv := by decide +kernel
theorem z_s3 : ∀ i : Nat, i < 12 → Cond.arrayOf (.field (zTm i) "java/lang/String" "value" "[B") .byte ∈ zGv := by decide +kernel
theorem z_s4 : ∀ i : Nat, i < 12 → Cond.eq (.length (.field (zTm i) "java/lang/String" "value" "[B")) (.int (Int32.ofNat (zLen.getD i 0))) ∈ zGv := by decide +kernel
def zP5 (i : Nat) : Nat := [26, 35, 44, 57, 67, 79, 93, 105, 119, 135, 151, 169].getD i 0
def zP6 (i j : Nat) : Nat := ([[0, 39, 51, 60, 71, 84, 95, 108, 123, 138, 155, 173], [0, 0, 52, 61, 72, 85, 96, 109, 124, 139, 156, 174], [0, 0, 0, 62, 73, 86, 97, 110, 125, 140, 157, 175], [0, 0, 0, 0, 74, 87, 98, 111, 126, 141, 158, 176], [0, 0, 0, 0, 0, 88, 99, 112, 127, 142, 159, 177], [0, 0, 0, 0, 0, 0, 100, 113, 128, 143, 160, 178], [0, 0, 0, 0, 0, 0, 0, 114, 129, 144, 161, 179], [0, 0, 0, 0, 0, 0, 0, 0, 130, 145, 162, 180], [0, 0, 0, 0, 0, 0, 0, 0, 0, 146, 163, 181], [0, 0, 0, 0, 0, 0, 0, 0, 0, 0, 164, 182], [0, 0, 0, 0, 0, 0, 0, 0, 0, 0, 0, 183], [0, 0, 0, 0, 0, 0, 0, 0, 0, 0, 0, 0]].getD i []).getD j 0
theorem z_s5a : ∀ i : Nat, i < 12 → ∀ j : Nat, j < zLen.getD i 0 → zGv[zP5 i + j]? = some (Cond.eq (.elem (.field (zTm i) "java/lang/String" "value" "[B") (.int (Int32.ofNat j))) (.int ((zByt.getD i []).getD j 0))) := by decide +kernel
theorem z_s5 : ∀ i : Nat, i < 12 → ∀ j : Nat, j < zLen.getD i 0 → Cond.eq (.elem (.field (zTm i) "java/lang/String" "value" "[B") (.int (Int32.ofNat j))) (.int ((zByt.getD i []).getD j 0)) ∈ zGv := fun i hi j hj => List.mem_of_getElem? (z_s5a i hi j hj)
theorem z_s6a : ∀ i : Nat, i < 12 → ∀ j : Nat, j < 12 → i < j → zGv[zP6 i j]? = some (Cond.not (Cond.eq (zTm i) (zTm j))) := by decide +kernel
theorem z_s6 : ∀ i : Nat, i < 12 → ∀ j : Nat, j < 12 → i ≠ j → (Cond.not (Cond.eq (zTm i) (zTm j)) ∈ zGv ∨ Cond.not (Cond.eq (zTm j) (zTm i)) ∈ zGv) := fun i hi j hj hne =>
  (Nat.lt_or_gt_of_ne hne).elim (fun h => Or.inl (List.mem_of_getElem? (z_s6a i hi j hj h))) (fun h => Or.inr (List.mem_of_getElem? (z_s6a j hj i hi h)))
theorem z_s7 : ∀ i : Nat, i < 12 → Cond.stringRef "TurnedPosts$Reader" (zKp.getD i 0) (zTx.getD i "") ∈ lw_tbl := by decide +kernel
theorem z_s8 : ∀ j : Nat, j < 10 → Cond.eq (.elem (.static "TurnedPosts" "DRAWN_DEEDS" "[I") (.int (Int32.ofNat j))) (.int (zDD.getD j 0)) ∈ zGv := by decide +kernel
/-- the law's start: the classes' numbers and slots, the rows' classes, the strings, the two statics of the JDK's, the drawn deeds' table -/
theorem z_start {s : State} {args : Array Value} (hts : ∀ w ∈ lw_tbl, w.before args s = true) (hgv : (Cond.and given_1 narrow_1).before args s = true) : ∃ T : zTy, va_K T.1 vwCl (zTys T) s ∧ zX s ∧ zU T (fun q => s.heap.size ≤ q) s s.heap := by
  have hz : ∀ w ∈ zT, w.before args s = true := fun w hw => hts w (List.mem_filter.mp hw).1
  have hg : ∀ w ∈ zGv, w.before args s = true := flat_of_before _ hgv
  have hA : ∀ a : Nat, a < s.heap.size → ¬ (fun q => s.heap.size ≤ q) a := fun a h => Nat.not_le.mpr h
  obtain ⟨adK, adV, hS, hSv⟩ := vk_Sof (args := args) (s := s) (N := 12) (tm := zTm) (len := zLen) (byt := zByt) (by decide) (fun i hi => hg _ (z_s1 i hi)) (fun i hi => hg _ (z_s2 i hi)) (fun i hi => hg _ (z_s3 i hi)) (fun i hi => hg _ (z_s4 i hi)) (fun i hi j hj => hg _ (z_s5 i hi j hj)) (fun i j hi hj hne => (z_s6 i hi j hj hne).imp (hg _) (hg _)) hA
  obtain ⟨dd, hdv, hD⟩ := va_Tof (args := args) (s := s) (tm := .static "TurnedPosts" "DRAWN_DEEDS" "[I") (ty := .int) (N := 10) (f := fun i => .int (zDD.getD i 0)) (by decide) (hg _ (by decide +kernel)) (va_eqt (hg _ (by decide +kernel))) (fun j hj => va_eqt (hg _ (z_s8 j hj))) hA
  have hDz := va_Zof (hts _ (by decide +kernel)) (hts (.initialized "TurnedPosts") (by decide +kernel)) hdv hA
  have hCz : va_Z "java/lang/String" "COMPACT_STRINGS" "Z" (.int 1) (fun q => s.heap.size ≤ q) s s.heap := va_Zof (hts _ (by decide +kernel)) (hts (.initialized "java/lang/String") (by decide +kernel)) (va_eqt (hg _ (by decide +kernel))) hA
  have hPz : va_Zq "jdk/internal/util/Preconditions" "SIOOBE_FORMATTER" "Ljava/util/function/BiFunction;" (fun q => s.heap.size ≤ q) s s.heap := va_Zqof (hts _ (by decide +kernel)) (hts (.initialized "jdk/internal/util/Preconditions") (by decide +kernel)) (hg _ (by decide +kernel)) hA
  obtain ⟨c0, i0, k0⟩ := u_known (C := RX0) (T := TX0) (N := 10) (n := 10) hz clX0.2.1 (hz _ m_in_RX0)
  obtain ⟨c1, i1, k1⟩ := u_known (C := RX1) (T := TX1) (N := 11) (n := 11) hz clX1.2.1 (hz _ m_in_RX1)
  obtain ⟨c2, i2, k2⟩ := u_known (C := RX2) (T := TX2) (N := 4) (n := 4) hz clX2.2.1 (hz _ m_in_RX2)
  obtain ⟨c3, i3, k3⟩ := u_known (C := RX3) (T := TX3) (N := 8) (n := 8) hz clX3.2.1 (hz _ m_in_RX3)
  obtain ⟨c4, i4, k4⟩ := u_known (C := RX4) (T := TX4) (N := 6) (n := 6) hz clX4.2.1 (hz _ m_in_RX4)
  obtain ⟨c5, i5, k5⟩ := u_known (C := RX5) (T := TX5) (N := 3) (n := 3) hz clX5.2.1 (hz _ m_in_RX5)
  obtain ⟨c6, i6, k6⟩ := u_known (C := RX6) (T := TX6) (N := 6) (n := 6) hz clX6.2.1 (hz _ m_in_RX6)
  obtain ⟨c7, i7, k7⟩ := u_known (C := RX7) (T := TX7) (N := 13) (n := 13) hz clX7.2.1 (hz _ m_in_RX7)
  obtain ⟨c8, i8, k8⟩ := u_known (C := RX9) (T := TX9) (N := 8) (n := 8) hz clX9.2.1 (hz _ m_in_RX9)
  obtain ⟨c9, i9, k9⟩ := u_known (C := RX10) (T := TX10) (N := 8) (n := 8) hz clX10.2.1 (hz _ m_in_RX10)
  obtain ⟨c10, i10, k10⟩ := u_known (C := RX11) (T := TX11) (N := 11) (n := 11) hz clX11.2.1 (hz _ m_in_RX11)
  obtain ⟨c11, i11, k11⟩ := u_known (C := RX12) (T := TX12) (N := 43) (n := 43) hz clX12.2.1 (hz _ m_in_RX12)
  obtain ⟨r0, a0⟩ := z_arrP (ty := .int) (by simp) (hz _ m_ar_int)
  obtain ⟨r1, a1⟩ := z_arrP (ty := .byte) (by simp) (hz _ m_ar_byte)
  obtain ⟨r2, a2⟩ := z_arrP (ty := .boolean) (by simp) (hz _ m_ar_boolean)
  obtain ⟨r3, a3⟩ := z_arrO (C := "TurnedPosts$Land") (hts _ (z_ao_in _ (List.mem_of_getElem? (i := 0) rfl)))
  obtain ⟨r4, a4⟩ := z_arrO (C := "TurnedPosts$Day") (hts _ (z_ao_in _ (List.mem_of_getElem? (i := 1) rfl)))
  obtain ⟨r5, a5⟩ := z_arrO (C := "TurnedPosts$Log") (hts _ (z_ao_in _ (List.mem_of_getElem? (i := 2) rfl)))
  obtain ⟨r6, a6⟩ := z_arrO (C := "TurnedPosts$Told") (hts _ (z_ao_in _ (List.mem_of_getElem? (i := 3) rfl)))
  obtain ⟨G9, hG9⟩ : ∃ g : Nat → ClassId, g = fun k => if k < 7 then (match k with | 0 => r0 | 1 => r1 | 2 => r2 | 3 => r3 | 4 => r4 | 5 => r5 | _ => r6) else if k < 200 then adK (k - 100) else if k < 300 then adV (k - 200) else dd := ⟨_, rfl⟩
  have g0 : G9 0 = r0 := by rw [hG9]; rfl
  have g1 : G9 1 = r1 := by rw [hG9]; rfl
  have g2 : G9 2 = r2 := by rw [hG9]; rfl
  have g3 : G9 3 = r3 := by rw [hG9]; rfl
  have g4 : G9 4 = r4 := by rw [hG9]; rfl
  have g5 : G9 5 = r5 := by rw [hG9]; rfl
  have g6 : G9 6 = r6 := by rw [hG9]; rfl
  have g7 : ∀ i, i < 12 → G9 (100 + i) = adK i := fun i hi => by rw [hG9]; show (if 100 + i < 7 then _ else _) = _; rw [if_neg (by omega), if_pos (by omega)]; exact congrArg adK (by omega)
  have g8 : ∀ i, i < 12 → G9 (200 + i) = adV i := fun i hi => by rw [hG9]; show (if 200 + i < 7 then _ else _) = _; rw [if_neg (by omega), if_neg (by omega), if_pos (by omega)]; exact congrArg adV (by omega)
  have g9 : G9 300 = dd := by rw [hG9]; rfl
  refine ⟨((fun k => match k with | 0 => c0 | 1 => c1 | 2 => c2 | 3 => c3 | 4 => c4 | 5 => c5 | 6 => c6 | 7 => c7 | 8 => c8 | 9 => c9 | 10 => c10 | _ => c11, fun k => match k with | 0 => i0 | 1 => i1 | 2 => i2 | 3 => i3 | 4 => i4 | 5 => i5 | 6 => i6 | 7 => i7 | 8 => i8 | 9 => i9 | 10 => i10 | _ => i11), G9), ⟨?_, ?_⟩, ⟨fun q hq => va_Nw.of rfl (hts _ (z_nst_in q hq)), fun C hC => va_AO.of (hts _ (z_ao_in C hC))⟩, ⟨?_, ?_, ?_, hCz, hPz, ?_, va_Nw.of rfl (hts _ (by decide +kernel))⟩⟩
  · intro k q hq
    match k, hq with
    | 0, hq => cases hq; exact k0
    | 1, hq => cases hq; exact k1
    | 2, hq => cases hq; exact k2
    | 3, hq => cases hq; exact k3
    | 4, hq => cases hq; exact k4
    | 5, hq => cases hq; exact k5
    | 6, hq => cases hq; exact k6
    | 7, hq => cases hq; exact k7
    | 8, hq => cases hq; exact k8
    | 9, hq => cases hq; exact k9
    | 10, hq => cases hq; exact k10
    | 11, hq => cases hq; exact k11
    | k + 12, hq => simp [vwCl] at hq
  · intro k q hq
    match k, hq with
    | 0, hq => cases hq; first | exact a0 | (show ArrOfT _ (G9 0) _ ∧ va_RA _ (G9 0) _; rw [g0]; exact a0)
    | 1, hq => cases hq; first | exact a1 | (show ArrOfT _ (G9 1) _ ∧ va_RA _ (G9 1) _; rw [g1]; exact a1)
    | 2, hq => cases hq; first | exact a2 | (show ArrOfT _ (G9 2) _ ∧ va_RA _ (G9 2) _; rw [g2]; exact a2)
    | 3, hq => cases hq; first | exact a3 | (show ArrOfT _ (G9 3) _ ∧ va_RA _ (G9 3) _; rw [g3]; exact a3)
    | 4, hq => cases hq; first | exact a4 | (show ArrOfT _ (G9 4) _ ∧ va_RA _ (G9 4) _; rw [g4]; exact a4)
    | 5, hq => cases hq; first | exact a5 | (show ArrOfT _ (G9 5) _ ∧ va_RA _ (G9 5) _; rw [g5]; exact a5)
    | 6, hq => cases hq; first | exact a6 | (show ArrOfT _ (G9 6) _ ∧ va_RA _ (G9 6) _; rw [g6]; exact a6)
    | k + 7, hq => simp at hq
  · refine ⟨fun i hi => ?_, fun i j hi hj h => ?_⟩
    · have h := hS.1 i hi
      rw [← g7 i hi, ← g8 i hi] at h
      exact h
    · have h : G9 (100 + i) = G9 (100 + j) := h
      rw [g7 i hi, g7 j hj] at h
      exact hS.2 i j hi hj h
  · show va_Z _ _ _ (.ref (G9 300)) _ _ _
    rw [g9]
    exact hDz
  · show va_T .int (G9 300) _ _ _ _ _
    rw [g9]
    exact hD
  · intro i hi
    show vk_R _ _ _ (G9 (100 + i)) _
    rw [g7 i hi]
    exact vk_R.of (hts _ (z_s7 i hi)) (hSv i hi)


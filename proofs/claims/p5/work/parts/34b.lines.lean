theorem z_min600 {n : Int32} (h : 0 ≤ n.toInt) : 0 ≤ (if (600 : Int32) < n then 600 else n).toInt ∧ (if (600 : Int32) < n then 600 else n).toInt ≤ 600 := by
  split
  · exact ⟨by decide, by decide⟩
  · rename_i q
    have q2 : ¬ (600 : Int) < n.toInt := fun z => q ((fa_lt _ _).mpr z)
    exact ⟨h, by omega⟩
set_option maxHeartbeats 4000000 in
set_option maxRecDepth 100000 in
/-- c_readCrossing -/
theorem c_readCrossing (l : Launch) (T : zTy) (rd : Nat) (rl : Nat) (rdd : Nat) (rg : Nat) (tp : Nat) (r0 : Int32) (r1 : Int32) (r2 : Int32) (r3 : Int32) (r4 : Int32) (r5 : Int32) (r6 : Int32) (r7 : Int32) (r8 : Int32) (ft : Nat → Int32) (cr : Int32) (inn : Int32) (k1 : Nat → Int32) (k2 : Nat → Int32) (k3 : Nat → Int32) (k4 : Nat → Int32) (z : va_W) (hR : (0 ≤ r2.toInt ∧ r2.toInt ≤ 600) ∧ (0 ≤ r3.toInt ∧ r3.toInt ≤ r2.toInt) ∧ (0 ≤ r5.toInt ∧ r5.toInt ≤ 600) ∧ 0 ≤ r6.toInt ∧ r6.toInt ≤ 1000) (hz : bLand T rl cr inn k1 k2 k3 k4 z) (hI : zLI cr k1 k3) : zMv l T yX7_readCrossing cX7_readCrossing 6 5 0 0 [.ref rd] [[(rd, .inr (7, [.ref rl, .ref rdd, .ref rg, .int r0, .int r1, .ref tp, .int r2, .int r3, .int r4, .int r5, .int r6, .int r7, .int r8]))], [(tp, .inl (T.2 1, 600, .inl ft))], z] (fun bs => ∃ (u0 : Int32) (u1 : Int32) (u3 : Int32) (u4 : Int32) (u5 : Int32) (u6 : Int32) (u7 : Int32) (u8 : Int32) (z2 : va_W) (c2 : Int32) (j1 : Nat → Int32) (j2 : Nat → Int32), bs = [[(rd, .inr (7, [.ref rl, .ref rdd, .ref rg, .int u0, .int u1, .ref tp, .int r2, .int u3, .int u4, .int u5, .int u6, .int u7, .int u8]))], [(tp, .inl (T.2 1, 600, .inl ft))], z2] ∧ bLand T rl c2 inn j1 j2 k3 k4 z2 ∧ zLI c2 j1 k3 ∧ (0 ≤ r2.toInt ∧ r2.toInt ≤ 600) ∧ (0 ≤ u3.toInt ∧ u3.toInt ≤ r2.toInt) ∧ (0 ≤ u5.toInt ∧ u5.toInt ≤ 600) ∧ 0 ≤ u6.toInt ∧ u6.toInt ≤ 1000) := by
  refine zMv_of (own := RX7) (by decide) rfl (Nat.le_of_ble_eq_true rfl) ?_
  intro p e s m args below meth c A ls C hr hlocks hnm hAe G hl
  have hx := C.1
  have hb := C.2.1
  have hl : lv_has ls 6 [(0, .ref rd)] := hl
  have hcr := hI.1
  refine lv_aload_n hx hb dX7_readCrossing_0 rfl (lv_at hl 0 rfl) ?_
  refine z_get C G clX7 0 rfl 0 (by decide) m_fl_RX7_12 rfl dX7_readCrossing_1 ?_
  obtain ⟨a1_1, a2_2, a3_3, a4_4, rfl⟩ := hz
  have G : zS T A s.heap s [[(rd, .inr (7, [.ref rl, .ref rdd, .ref rg, .int r0, .int r1, .ref tp, .int r2, .int r3, .int r4, .int r5, .int r6, .int r7, .int r8]))], [(tp, .inl (T.2 1, 600, .inl ft))], [(rl, .inr (4, [.int cr, .int inn, .ref a1_1, .ref a2_2, .ref a3_3, .ref a4_4]))], [(a1_1, .inl (T.2 0, 7, .inl k1))], [(a2_2, .inl (T.2 0, 28, .inl k2))], [(a3_3, .inl (T.2 0, 7, .inl k3))], [(a4_4, .inl (T.2 0, 7, .inl k4))]] _ _ := G.re rfl
  refine z_get C G clX4 2 rfl 0 (by decide) m_fl_RX7_87 rfl dX7_readCrossing_4 ?_
  refine lv_istore_n (lv' := [(1, .int cr), (0, .ref rd)]) hx hb dX7_readCrossing_7 rfl hl (by decide) rfl (fun ls hl => ?_)
  refine lv_iload_n hx hb dX7_readCrossing_8 rfl (lv_at hl 0 rfl) ?_
  refine lv_bipush (v := 7) hx hb dX7_readCrossing_9 (by decide) ?_
  refine lv_icmp_lt (tgt := 26) hx hb dX7_readCrossing_11 (by decide) (fun c_5 => ?_) (fun c_5 => ?_)
  · have c_5n : cr.toInt < (7 : Int) := (fa_lt _ _).mp c_5
    refine lv_aload_n hx hb dX7_readCrossing_26 rfl (lv_at hl 1 rfl) ?_
    refine z_get C G clX7 0 rfl 0 (by decide) m_fl_RX7_12 rfl dX7_readCrossing_27 ?_
    refine lv_dup hx hb dX7_readCrossing_30 rfl ?_
    refine z_get C G clX4 2 rfl 0 (by decide) m_fl_RX7_87 rfl dX7_readCrossing_31 ?_
    refine lv_iconst (v := 1) hx hb dX7_readCrossing_34 (by decide) ?_
    refine lv_iadd hx hb dX7_readCrossing_35 ?_
    refine lv_topi (fun y_6 ey_6 => ?_)
    have ey_6i : y_6.toInt = cr.toInt + (1 : Int) := by rw [ey_6]; exact z_iaddI (x := cr) (y := (1 : Int32)) (by show -2147483648 ≤ cr.toInt + (1 : Int); omega) (by show cr.toInt + (1 : Int) < 2147483648; omega)
    refine z_put C G clX4 2 rfl 0 (by decide) m_fl_RX7_87 rfl rfl rfl (Nat.le_of_ble_eq_true rfl) dX7_readCrossing_36 (fun H locs G => ?_)
    have G : zS T A s.heap s [[(rd, .inr (7, [.ref rl, .ref rdd, .ref rg, .int r0, .int r1, .ref tp, .int r2, .int r3, .int r4, .int r5, .int r6, .int r7, .int r8]))], [(tp, .inl (T.2 1, 600, .inl ft))], [(rl, .inr (4, [.int y_6, .int inn, .ref a1_1, .ref a2_2, .ref a3_3, .ref a4_4]))], [(a1_1, .inl (T.2 0, 7, .inl k1))], [(a2_2, .inl (T.2 0, 28, .inl k2))], [(a3_3, .inl (T.2 0, 7, .inl k3))], [(a4_4, .inl (T.2 0, 7, .inl k4))]] _ _ := G
    have hIa : zLI y_6 k1 k3 := zLI_cr hI (by have q := hI.1; omega)
    refine lv_aload_n hx hb dX7_readCrossing_39 rfl (lv_at hl 1 rfl) ?_
    refine z_Vv (bc := [[(rd, .inr (7, [.ref rl, .ref rdd, .ref rg, .int r0, .int r1, .ref tp, .int r2, .int r3, .int r4, .int r5, .int r6, .int r7, .int r8]))], [(tp, .inl (T.2 1, 600, .inl ft))]]) (br := [[(rl, .inr (4, [.int y_6, .int inn, .ref a1_1, .ref a2_2, .ref a3_3, .ref a4_4]))], [(a1_1, .inl (T.2 0, 7, .inl k1))], [(a2_2, .inl (T.2 0, 28, .inl k2))], [(a3_3, .inl (T.2 0, 7, .inl k3))], [(a4_4, .inl (T.2 0, 7, .inl k4))]]) (As := []) (rest := []) C G (c_nextToken l T rd rl rdd rg tp r0 r1 r2 r3 r4 r5 r6 r7 r8 ft (by first | assumption | omega | rfl)) (kV_RX7_71 C.2.2.2.2 (Nat.le_of_ble_eq_true rfl) (Nat.le_of_ble_eq_true rfl)) [0, 1] [2, 3, 4, 5, 6] rfl rfl (ci := 7) (qc := (RX7, TX7, 13)) rfl rfl (List.mem_flatten.mpr ⟨_, List.mem_of_getElem? (i := 0) rfl, List.mem_cons_self⟩) rfl rfl hl.1 dX7_readCrossing_40 (Nat.le_of_ble_eq_true rfl) (Nat.le_of_ble_eq_true rfl) (fun b1 H locs hw G => ?_)
    obtain ⟨u3_7, u4_8, u5_9, u6_10, rfl, h_11, h_12⟩ := hw
    have G : zS T A s.heap s [[(rl, .inr (4, [.int y_6, .int inn, .ref a1_1, .ref a2_2, .ref a3_3, .ref a4_4]))], [(a1_1, .inl (T.2 0, 7, .inl k1))], [(a2_2, .inl (T.2 0, 28, .inl k2))], [(a3_3, .inl (T.2 0, 7, .inl k3))], [(a4_4, .inl (T.2 0, 7, .inl k4))], [(rd, .inr (7, [.ref rl, .ref rdd, .ref rg, .int r0, .int r1, .ref tp, .int r2, .int u3_7, .int u4_8, .int u5_9, .int u6_10, .int r7, .int r8]))], [(tp, .inl (T.2 1, 600, .inl ft))]] _ _ := G
    refine lv_iconst (v := 0) hx hb dX7_readCrossing_43 (by decide) ?_
    refine lv_istore_n (lv' := [(2, .int 0), (1, .int cr), (0, .ref rd)]) hx hb dX7_readCrossing_44 rfl hl (by decide) rfl (fun ls hl => ?_)
    refine lv_iconst (v := 0) hx hb dX7_readCrossing_45 (by decide) ?_
    refine lv_istore_n (lv' := [(3, .int 0), (2, .int 0), (1, .int cr), (0, .ref rd)]) hx hb dX7_readCrossing_46 rfl hl (by decide) rfl (fun ls hl => ?_)
    have hw_14 : bLand T rl y_6 inn k1 k2 k3 k4 [(rl, .inr (4, [.int y_6, .int inn, .ref a1_1, .ref a2_2, .ref a3_3, .ref a4_4])), (a1_1, .inl (T.2 0, 7, .inl k1)), (a2_2, .inl (T.2 0, 28, .inl k2)), (a3_3, .inl (T.2 0, 7, .inl k3)), (a4_4, .inl (T.2 0, 7, .inl k4))] := ⟨a1_1, a2_2, a3_3, a4_4, rfl⟩
    have G : zS T A s.heap s [[(rl, .inr (4, [.int y_6, .int inn, .ref a1_1, .ref a2_2, .ref a3_3, .ref a4_4])), (a1_1, .inl (T.2 0, 7, .inl k1)), (a2_2, .inl (T.2 0, 28, .inl k2)), (a3_3, .inl (T.2 0, 7, .inl k3)), (a4_4, .inl (T.2 0, 7, .inl k4))], [(rd, .inr (7, [.ref rl, .ref rdd, .ref rg, .int r0, .int r1, .ref tp, .int r2, .int u3_7, .int u4_8, .int u5_9, .int u6_10, .int r7, .int r8]))], [(tp, .inl (T.2 1, 600, .inl ft))]] _ _ := G.re rfl
    refine z_loop (T := T) (α := Nat × Int32 × Int32 × Int32 × Int32 × Int32 × Int32 × Int32 × Int32 × Int32 × va_W × (Nat → Int32) × (Nat → Int32)) 47 (fun (j, w_, y0, y1, y3, y4, y5, y6, y7, y8, z3, x1, x2) => [z3, [(rd, .inr (7, [.ref rl, .ref rdd, .ref rg, .int y0, .int y1, .ref tp, .int r2, .int y3, .int y4, .int y5, .int y6, .int y7, .int y8]))], [(tp, .inl (T.2 1, 600, .inl ft))]]) (fun (j, w_, y0, y1, y3, y4, y5, y6, y7, y8, z3, x1, x2) => [(3, .int (nI j)), (2, .int w_), (1, .int cr), (0, .ref rd)]) (fun (j, w_, y0, y1, y3, y4, y5, y6, y7, y8, z3, x1, x2) => bLand T rl y_6 inn x1 x2 k3 k4 z3 ∧ j ≤ 601 ∧ ((0 ≤ r2.toInt ∧ r2.toInt ≤ 600) ∧ (0 ≤ y3.toInt ∧ y3.toInt ≤ r2.toInt) ∧ (0 ≤ y5.toInt ∧ y5.toInt ≤ 600) ∧ 0 ≤ y6.toInt ∧ y6.toInt ≤ 1000) ∧ zLI y_6 x1 k3) (fun (j, w_, y0, y1, y3, y4, y5, y6, y7, y8, z3, x1, x2) => 601 - j) ?_ (0, 0, r0, r1, u3_7, u4_8, u5_9, u6_10, r7, r8, ([(rl, .inr (4, [.int y_6, .int inn, .ref a1_1, .ref a2_2, .ref a3_3, .ref a4_4])), (a1_1, .inl (T.2 0, 7, .inl k1)), (a2_2, .inl (T.2 0, 28, .inl k2)), (a3_3, .inl (T.2 0, 7, .inl k3)), (a4_4, .inl (T.2 0, 7, .inl k4))]), k1, k2) (show bLand T rl y_6 inn k1 k2 k3 k4 ([(rl, .inr (4, [.int y_6, .int inn, .ref a1_1, .ref a2_2, .ref a3_3, .ref a4_4])), (a1_1, .inl (T.2 0, 7, .inl k1)), (a2_2, .inl (T.2 0, 28, .inl k2)), (a3_3, .inl (T.2 0, 7, .inl k3)), (a4_4, .inl (T.2 0, 7, .inl k4))]) ∧ 0 ≤ 601 ∧ ((0 ≤ r2.toInt ∧ r2.toInt ≤ 600) ∧ (0 ≤ u3_7.toInt ∧ u3_7.toInt ≤ r2.toInt) ∧ (0 ≤ u5_9.toInt ∧ u5_9.toInt ≤ 600) ∧ 0 ≤ u6_10.toInt ∧ u6_10.toInt ≤ 1000) ∧ zLI y_6 k1 k3 from ⟨hw_14, by omega, by omega, hIa⟩) G (lv_sub hl [0, 1, 2, 3] rfl)
    rintro ⟨j, w_, y0, y1, y3, y4, y5, y6, y7, y8, z3, x1, x2⟩ ⟨hz3, hj, hQ, hI2⟩ ih_47 H locs ls G hl
    replace hz3 : bLand T rl y_6 inn x1 x2 k3 k4 z3 := hz3
    replace hj : j ≤ 601 := hj
    replace hQ : ((0 ≤ r2.toInt ∧ r2.toInt ≤ 600) ∧ (0 ≤ y3.toInt ∧ y3.toInt ≤ r2.toInt) ∧ (0 ≤ y5.toInt ∧ y5.toInt ≤ 600) ∧ 0 ≤ y6.toInt ∧ y6.toInt ≤ 1000) := hQ
    replace hI2 : zLI y_6 x1 k3 := hI2
    replace G : zS T A s.heap s [z3, [(rd, .inr (7, [.ref rl, .ref rdd, .ref rg, .int y0, .int y1, .ref tp, .int r2, .int y3, .int y4, .int y5, .int y6, .int y7, .int y8]))], [(tp, .inl (T.2 1, 600, .inl ft))]] _ _ := G
    replace hl : lv_has ls 6 [(3, .int (nI j)), (2, .int w_), (1, .int cr), (0, .ref rd)] := hl
    refine lv_iload_n hx hb dX7_readCrossing_47 rfl (lv_at hl 0 rfl) ?_
    refine lv_sipush (v := 600) hx hb dX7_readCrossing_48 (by decide) ?_
    refine lv_icmp_gt (tgt := 113) hx hb dX7_readCrossing_51 (by decide) (fun c_15 => ?_) (fun c_15 => ?_)
    · have c_15n : 600 < j := (nI_ltI (a := 600) (b := j) (by omega) (by omega)).mp c_15
      have G := G.sub (bs' := [[(rd, .inr (7, [.ref rl, .ref rdd, .ref rg, .int y0, .int y1, .ref tp, .int r2, .int y3, .int y4, .int y5, .int y6, .int y7, .int y8]))], [(tp, .inl (T.2 1, 600, .inl ft))], z3]) [1, 2, 0] rfl
      exact z_vret C hr hlocks G (Nat.le_of_ble_eq_true rfl) (Nat.le_of_ble_eq_true rfl) dX7_readCrossing_113 ⟨y0, y1, y3, y4, y5, y6, y7, y8, z3, y_6, x1, x2, rfl, hz3, hI2, (by first | trivial | assumption | omega)⟩
    · have c_15n : ¬ 600 < j := fun q => c_15 ((nI_ltI (a := 600) (b := j) (by omega) (by omega)).mpr q)
      refine lv_aload_n hx hb dX7_readCrossing_54 rfl (lv_at hl 3 rfl) ?_
      refine z_get C G clX7 1 rfl 8 (by decide) m_fl_RX7_74 rfl dX7_readCrossing_55 ?_
      refine lv_iconst (v := 2) hx hb dX7_readCrossing_58 (by decide) ?_
      refine lv_icmp_ne (tgt := 113) hx hb dX7_readCrossing_59 (by decide) (fun c_16 => ?_) (fun c_16 => ?_)
      · have c_16n : ¬ y4.toInt = (2 : Int) := fun q => c_16 ((fa_eq _ _).mpr q)
        have G := G.sub (bs' := [[(rd, .inr (7, [.ref rl, .ref rdd, .ref rg, .int y0, .int y1, .ref tp, .int r2, .int y3, .int y4, .int y5, .int y6, .int y7, .int y8]))], [(tp, .inl (T.2 1, 600, .inl ft))], z3]) [1, 2, 0] rfl
        exact z_vret C hr hlocks G (Nat.le_of_ble_eq_true rfl) (Nat.le_of_ble_eq_true rfl) dX7_readCrossing_113 ⟨y0, y1, y3, y4, y5, y6, y7, y8, z3, y_6, x1, x2, rfl, hz3, hI2, (by first | trivial | assumption | omega)⟩
      · have c_16n : y4.toInt = (2 : Int) := (fa_eq _ _).mp c_16
        refine lv_aload_n hx hb dX7_readCrossing_62 rfl (lv_at hl 3 rfl) ?_
        refine z_get C G clX7 1 rfl 9 (by decide) m_fl_RX7_84 rfl dX7_readCrossing_63 ?_
        refine lv_istore (lv' := [(4, .int y5), (3, .int (nI j)), (2, .int w_), (1, .int cr), (0, .ref rd)]) hx hb dX7_readCrossing_66 hl (by decide) rfl (fun ls hl => ?_)
        refine lv_aload_n hx hb dX7_readCrossing_68 rfl (lv_at hl 4 rfl) ?_
        refine lv_bipush (v := 6) hx hb dX7_readCrossing_69 (by decide) ?_
        refine z_Vi (bc := [[(rd, .inr (7, [.ref rl, .ref rdd, .ref rg, .int y0, .int y1, .ref tp, .int r2, .int y3, .int y4, .int y5, .int y6, .int y7, .int y8]))], [(tp, .inl (T.2 1, 600, .inl ft))]]) (br := [z3]) (As := [.int 6]) (rest := []) C G (c_readNumber l T rd rl rdd rg tp y0 y1 r2 y3 y4 y5 y6 y7 y8 ft 6 hQ) (kV_RX7_120 C.2.2.2.2 (Nat.le_of_ble_eq_true rfl) (Nat.le_of_ble_eq_true rfl)) [1, 2] [0] rfl rfl (ci := 7) (qc := (RX7, TX7, 13)) rfl rfl (List.mem_flatten.mpr ⟨_, List.mem_of_getElem? (i := 0) rfl, List.mem_cons_self⟩) rfl rfl hl.1 dX7_readCrossing_71 (Nat.le_of_ble_eq_true rfl) (Nat.le_of_ble_eq_true rfl) (fun r_26 b1 H locs hw G => ?_)
        obtain ⟨u0_17, u1_18, u3_19, u4_20, u5_21, u6_22, u7_23, rfl, h_24, h_25⟩ := hw
        have G : zS T A s.heap s [z3, [(rd, .inr (7, [.ref rl, .ref rdd, .ref rg, .int u0_17, .int u1_18, .ref tp, .int r2, .int u3_19, .int u4_20, .int u5_21, .int u6_22, .int u7_23, .int y8]))], [(tp, .inl (T.2 1, 600, .inl ft))]] _ _ := G
        refine lv_istore (lv' := [(5, .int r_26), (4, .int y5), (3, .int (nI j)), (2, .int w_), (1, .int cr), (0, .ref rd)]) hx hb dX7_readCrossing_74 hl (by decide) rfl (fun ls hl => ?_)
        refine lv_iload_n hx hb dX7_readCrossing_76 rfl (lv_at hl 3 rfl) ?_
        refine lv_iconst (v := 4) hx hb dX7_readCrossing_77 (by decide) ?_
        refine lv_icmp_lt (tgt := 88) hx hb dX7_readCrossing_78 (by decide) (fun c_27 => ?_) (fun c_27 => ?_)
        · have c_27n : w_.toInt < (4 : Int) := (fa_lt _ _).mp c_27
          refine lv_iinc (v := w_ + 1) (lv' := [(2, .int (w_ + 1)), (5, .int r_26), (4, .int y5), (3, .int (nI j)), (1, .int cr), (0, .ref rd)]) hx hb dX7_readCrossing_88 hl (k := 3) rfl rfl (by decide) rfl (fun ls hl => ?_)
          refine lv_aload_n hx hb dX7_readCrossing_91 rfl (lv_at hl 5 rfl) ?_
          refine z_get C G clX7 1 rfl 0 (by decide) m_fl_RX7_12 rfl dX7_readCrossing_92 ?_
          refine lv_iload_n hx hb dX7_readCrossing_95 rfl (lv_at hl 4 rfl) ?_
          refine lv_iload hx hb dX7_readCrossing_96 (lv_at hl 1 rfl) ?_
          refine z_Vv (bc := [z3]) (br := [[(rd, .inr (7, [.ref rl, .ref rdd, .ref rg, .int u0_17, .int u1_18, .ref tp, .int r2, .int u3_19, .int u4_20, .int u5_21, .int u6_22, .int u7_23, .int y8]))], [(tp, .inl (T.2 1, 600, .inl ft))]]) (As := [.int cr, .int r_26]) (rest := []) C G (c_addRoad l T rl y_6 inn x1 x2 k3 k4 z3 cr r_26 hz3 hI2) (kV_RX7_123 C.2.2.2.2 (Nat.le_of_ble_eq_true rfl) (Nat.le_of_ble_eq_true rfl)) [0] [1, 2] rfl rfl (ci := 4) (qc := (RX4, TX4, 6)) rfl rfl (List.mem_flatten.mpr ⟨_, List.mem_of_getElem? (i := 0) rfl, (bLand_mem hz3).choose_spec⟩) rfl rfl hl.1 dX7_readCrossing_98 (Nat.le_of_ble_eq_true rfl) (Nat.le_of_ble_eq_true rfl) (fun b1 H locs hw G => ?_)
          obtain ⟨w2_28, g1_29, g2_30, rfl, h_31, h_32, h_33⟩ := hw
          have G : zS T A s.heap s [[(rd, .inr (7, [.ref rl, .ref rdd, .ref rg, .int u0_17, .int u1_18, .ref tp, .int r2, .int u3_19, .int u4_20, .int u5_21, .int u6_22, .int u7_23, .int y8]))], [(tp, .inl (T.2 1, 600, .inl ft))], w2_28] _ _ := G
          have hI3 : zLI y_6 g1_29 k3 := by rw [h_32]; exact zLI_add hI2 _
          refine lv_aload_n hx hb dX7_readCrossing_101 rfl (lv_at hl 5 rfl) ?_
          refine lv_iload hx hb dX7_readCrossing_102 (lv_at hl 1 rfl) ?_
          refine z_Vv (bc := [[(rd, .inr (7, [.ref rl, .ref rdd, .ref rg, .int u0_17, .int u1_18, .ref tp, .int r2, .int u3_19, .int u4_20, .int u5_21, .int u6_22, .int u7_23, .int y8]))]]) (br := [[(tp, .inl (T.2 1, 600, .inl ft))], w2_28]) (As := [.int r_26]) (rest := []) C G (c_tellOf l T rd rl rdd rg tp u0_17 u1_18 r2 u3_19 u4_20 u5_21 u6_22 u7_23 y8 r_26) (kV_RX7_126 C.2.2.2.2 (Nat.le_of_ble_eq_true rfl) (Nat.le_of_ble_eq_true rfl)) [0] [1, 2] rfl rfl (ci := 7) (qc := (RX7, TX7, 13)) rfl rfl (List.mem_flatten.mpr ⟨_, List.mem_of_getElem? (i := 0) rfl, List.mem_cons_self⟩) rfl rfl hl.1 dX7_readCrossing_104 (Nat.le_of_ble_eq_true rfl) (Nat.le_of_ble_eq_true rfl) (fun b1 H locs hw G => ?_)
          obtain ⟨u8_35, rfl⟩ := hw
          have G : zS T A s.heap s [[(tp, .inl (T.2 1, 600, .inl ft))], w2_28, [(rd, .inr (7, [.ref rl, .ref rdd, .ref rg, .int u0_17, .int u1_18, .ref tp, .int r2, .int u3_19, .int u4_20, .int u5_21, .int u6_22, .int u7_23, .int u8_35]))]] _ _ := G
          refine lv_iinc (v := nI (j + 1)) (lv' := [(3, .int (nI (j + 1))), (2, .int (w_ + 1)), (5, .int r_26), (4, .int y5), (1, .int cr), (0, .ref rd)]) hx hb dX7_readCrossing_107 hl (k := 3) rfl (z_inc j 1) (by decide) rfl (fun ls hl => ?_)
          refine lv_goto (tgt := 47) hx hb dX7_readCrossing_110 (by decide) ?_
          have G := G.sub (bs' := [w2_28, [(rd, .inr (7, [.ref rl, .ref rdd, .ref rg, .int u0_17, .int u1_18, .ref tp, .int r2, .int u3_19, .int u4_20, .int u5_21, .int u6_22, .int u7_23, .int u8_35]))], [(tp, .inl (T.2 1, 600, .inl ft))]]) [1, 2, 0] rfl
          exact ih_47 ((j + 1), (w_ + 1), u0_17, u1_18, u3_19, u4_20, u5_21, u6_22, u7_23, u8_35, w2_28, g1_29, g2_30) (show bLand T rl y_6 inn g1_29 g2_30 k3 k4 w2_28 ∧ (j + 1) ≤ 601 ∧ ((0 ≤ r2.toInt ∧ r2.toInt ≤ 600) ∧ (0 ≤ u3_19.toInt ∧ u3_19.toInt ≤ r2.toInt) ∧ (0 ≤ u5_21.toInt ∧ u5_21.toInt ≤ 600) ∧ 0 ≤ u6_22.toInt ∧ u6_22.toInt ≤ 1000) ∧ zLI y_6 g1_29 k3 from ⟨h_31, by omega, by omega, hI3⟩) (show 601 - (j + 1) < 601 - j from by omega) _ _ ls G (lv_sub hl [0, 1, 4, 5] rfl)
        · have c_27n : ¬ w_.toInt < (4 : Int) := fun q => c_27 ((fa_lt _ _).mpr q)
          refine lv_aload_n hx hb dX7_readCrossing_81 rfl (lv_at hl 5 rfl) ?_
          refine lv_iconst (v := 3) hx hb dX7_readCrossing_82 (by decide) ?_
          refine lv_iload hx hb dX7_readCrossing_83 (lv_at hl 1 rfl) ?_
          refine z_Vv (bc := [[(rd, .inr (7, [.ref rl, .ref rdd, .ref rg, .int u0_17, .int u1_18, .ref tp, .int r2, .int u3_19, .int u4_20, .int u5_21, .int u6_22, .int u7_23, .int y8]))]]) (br := [z3, [(tp, .inl (T.2 1, 600, .inl ft))]]) (As := [.int 3, .int y5]) (rest := []) C G (c_note l T rd rl rdd rg tp u0_17 u1_18 r2 u3_19 u4_20 u5_21 u6_22 u7_23 y8 3 y5) (kV_RX7_90 C.2.2.2.2 (Nat.le_of_ble_eq_true rfl) (Nat.le_of_ble_eq_true rfl)) [1] [0, 2] rfl rfl (ci := 7) (qc := (RX7, TX7, 13)) rfl rfl (List.mem_flatten.mpr ⟨_, List.mem_of_getElem? (i := 0) rfl, List.mem_cons_self⟩) rfl rfl hl.1 dX7_readCrossing_85 (Nat.le_of_ble_eq_true rfl) (Nat.le_of_ble_eq_true rfl) (fun b1 H locs hw G => ?_)
          obtain ⟨u0_37, u1_38, rfl⟩ := hw
          have G : zS T A s.heap s [z3, [(tp, .inl (T.2 1, 600, .inl ft))], [(rd, .inr (7, [.ref rl, .ref rdd, .ref rg, .int u0_37, .int u1_38, .ref tp, .int r2, .int u3_19, .int u4_20, .int u5_21, .int u6_22, .int u7_23, .int y8]))]] _ _ := G
          refine lv_iinc (v := w_ + 1) (lv' := [(2, .int (w_ + 1)), (5, .int r_26), (4, .int y5), (3, .int (nI j)), (1, .int cr), (0, .ref rd)]) hx hb dX7_readCrossing_88 hl (k := 3) rfl rfl (by decide) rfl (fun ls hl => ?_)
          refine lv_aload_n hx hb dX7_readCrossing_91 rfl (lv_at hl 5 rfl) ?_
          refine z_get C G clX7 2 rfl 0 (by decide) m_fl_RX7_12 rfl dX7_readCrossing_92 ?_
          refine lv_iload_n hx hb dX7_readCrossing_95 rfl (lv_at hl 4 rfl) ?_
          refine lv_iload hx hb dX7_readCrossing_96 (lv_at hl 1 rfl) ?_
          refine z_Vv (bc := [z3]) (br := [[(tp, .inl (T.2 1, 600, .inl ft))], [(rd, .inr (7, [.ref rl, .ref rdd, .ref rg, .int u0_37, .int u1_38, .ref tp, .int r2, .int u3_19, .int u4_20, .int u5_21, .int u6_22, .int u7_23, .int y8]))]]) (As := [.int cr, .int r_26]) (rest := []) C G (c_addRoad l T rl y_6 inn x1 x2 k3 k4 z3 cr r_26 hz3 hI2) (kV_RX7_123 C.2.2.2.2 (Nat.le_of_ble_eq_true rfl) (Nat.le_of_ble_eq_true rfl)) [0] [1, 2] rfl rfl (ci := 4) (qc := (RX4, TX4, 6)) rfl rfl (List.mem_flatten.mpr ⟨_, List.mem_of_getElem? (i := 0) rfl, (bLand_mem hz3).choose_spec⟩) rfl rfl hl.1 dX7_readCrossing_98 (Nat.le_of_ble_eq_true rfl) (Nat.le_of_ble_eq_true rfl) (fun b1 H locs hw G => ?_)
          obtain ⟨w2_40, g1_41, g2_42, rfl, h_43, h_44, h_45⟩ := hw
          have G : zS T A s.heap s [[(tp, .inl (T.2 1, 600, .inl ft))], [(rd, .inr (7, [.ref rl, .ref rdd, .ref rg, .int u0_37, .int u1_38, .ref tp, .int r2, .int u3_19, .int u4_20, .int u5_21, .int u6_22, .int u7_23, .int y8]))], w2_40] _ _ := G
          have hI3 : zLI y_6 g1_41 k3 := by rw [h_44]; exact zLI_add hI2 _
          refine lv_aload_n hx hb dX7_readCrossing_101 rfl (lv_at hl 5 rfl) ?_
          refine lv_iload hx hb dX7_readCrossing_102 (lv_at hl 1 rfl) ?_
          refine z_Vv (bc := [[(rd, .inr (7, [.ref rl, .ref rdd, .ref rg, .int u0_37, .int u1_38, .ref tp, .int r2, .int u3_19, .int u4_20, .int u5_21, .int u6_22, .int u7_23, .int y8]))]]) (br := [[(tp, .inl (T.2 1, 600, .inl ft))], w2_40]) (As := [.int r_26]) (rest := []) C G (c_tellOf l T rd rl rdd rg tp u0_37 u1_38 r2 u3_19 u4_20 u5_21 u6_22 u7_23 y8 r_26) (kV_RX7_126 C.2.2.2.2 (Nat.le_of_ble_eq_true rfl) (Nat.le_of_ble_eq_true rfl)) [1] [0, 2] rfl rfl (ci := 7) (qc := (RX7, TX7, 13)) rfl rfl (List.mem_flatten.mpr ⟨_, List.mem_of_getElem? (i := 0) rfl, List.mem_cons_self⟩) rfl rfl hl.1 dX7_readCrossing_104 (Nat.le_of_ble_eq_true rfl) (Nat.le_of_ble_eq_true rfl) (fun b1 H locs hw G => ?_)
          obtain ⟨u8_47, rfl⟩ := hw
          have G : zS T A s.heap s [[(tp, .inl (T.2 1, 600, .inl ft))], w2_40, [(rd, .inr (7, [.ref rl, .ref rdd, .ref rg, .int u0_37, .int u1_38, .ref tp, .int r2, .int u3_19, .int u4_20, .int u5_21, .int u6_22, .int u7_23, .int u8_47]))]] _ _ := G
          refine lv_iinc (v := nI (j + 1)) (lv' := [(3, .int (nI (j + 1))), (2, .int (w_ + 1)), (5, .int r_26), (4, .int y5), (1, .int cr), (0, .ref rd)]) hx hb dX7_readCrossing_107 hl (k := 3) rfl (z_inc j 1) (by decide) rfl (fun ls hl => ?_)
          refine lv_goto (tgt := 47) hx hb dX7_readCrossing_110 (by decide) ?_
          have G := G.sub (bs' := [w2_40, [(rd, .inr (7, [.ref rl, .ref rdd, .ref rg, .int u0_37, .int u1_38, .ref tp, .int r2, .int u3_19, .int u4_20, .int u5_21, .int u6_22, .int u7_23, .int u8_47]))], [(tp, .inl (T.2 1, 600, .inl ft))]]) [1, 2, 0] rfl
          exact ih_47 ((j + 1), (w_ + 1), u0_37, u1_38, u3_19, u4_20, u5_21, u6_22, u7_23, u8_47, w2_40, g1_41, g2_42) (show bLand T rl y_6 inn g1_41 g2_42 k3 k4 w2_40 ∧ (j + 1) ≤ 601 ∧ ((0 ≤ r2.toInt ∧ r2.toInt ≤ 600) ∧ (0 ≤ u3_19.toInt ∧ u3_19.toInt ≤ r2.toInt) ∧ (0 ≤ u5_21.toInt ∧ u5_21.toInt ≤ 600) ∧ 0 ≤ u6_22.toInt ∧ u6_22.toInt ≤ 1000) ∧ zLI y_6 g1_41 k3 from ⟨h_43, by omega, by omega, hI3⟩) (show 601 - (j + 1) < 601 - j from by omega) _ _ ls G (lv_sub hl [0, 1, 4, 5] rfl)
  · have c_5n : ¬ cr.toInt < (7 : Int) := fun q => c_5 ((fa_lt _ _).mpr q)
    refine lv_aload_n hx hb dX7_readCrossing_14 rfl (lv_at hl 1 rfl) ?_
    refine lv_iconst (v := 3) hx hb dX7_readCrossing_15 (by decide) ?_
    refine lv_aload_n hx hb dX7_readCrossing_16 rfl (lv_at hl 1 rfl) ?_
    refine z_get C G clX7 0 rfl 9 (by decide) m_fl_RX7_84 rfl dX7_readCrossing_17 ?_
    refine z_Vv (bc := [[(rd, .inr (7, [.ref rl, .ref rdd, .ref rg, .int r0, .int r1, .ref tp, .int r2, .int r3, .int r4, .int r5, .int r6, .int r7, .int r8]))]]) (br := [[(tp, .inl (T.2 1, 600, .inl ft))], [(rl, .inr (4, [.int cr, .int inn, .ref a1_1, .ref a2_2, .ref a3_3, .ref a4_4]))], [(a1_1, .inl (T.2 0, 7, .inl k1))], [(a2_2, .inl (T.2 0, 28, .inl k2))], [(a3_3, .inl (T.2 0, 7, .inl k3))], [(a4_4, .inl (T.2 0, 7, .inl k4))]]) (As := [.int 3, .int r5]) (rest := []) C G (c_note l T rd rl rdd rg tp r0 r1 r2 r3 r4 r5 r6 r7 r8 3 r5) (kV_RX7_90 C.2.2.2.2 (Nat.le_of_ble_eq_true rfl) (Nat.le_of_ble_eq_true rfl)) [0] [1, 2, 3, 4, 5, 6] rfl rfl (ci := 7) (qc := (RX7, TX7, 13)) rfl rfl (List.mem_flatten.mpr ⟨_, List.mem_of_getElem? (i := 0) rfl, List.mem_cons_self⟩) rfl rfl hl.1 dX7_readCrossing_20 (Nat.le_of_ble_eq_true rfl) (Nat.le_of_ble_eq_true rfl) (fun b1 H locs hw G => ?_)
    obtain ⟨u0_49, u1_50, rfl⟩ := hw
    have G : zS T A s.heap s [[(tp, .inl (T.2 1, 600, .inl ft))], [(rl, .inr (4, [.int cr, .int inn, .ref a1_1, .ref a2_2, .ref a3_3, .ref a4_4]))], [(a1_1, .inl (T.2 0, 7, .inl k1))], [(a2_2, .inl (T.2 0, 28, .inl k2))], [(a3_3, .inl (T.2 0, 7, .inl k3))], [(a4_4, .inl (T.2 0, 7, .inl k4))], [(rd, .inr (7, [.ref rl, .ref rdd, .ref rg, .int u0_49, .int u1_50, .ref tp, .int r2, .int r3, .int r4, .int r5, .int r6, .int r7, .int r8]))]] _ _ := G
    refine lv_goto (tgt := 39) hx hb dX7_readCrossing_23 (by decide) ?_
    have hIa : zLI cr k1 k3 := zLI_cr hI (by have q := hI.1; omega)
    refine lv_aload_n hx hb dX7_readCrossing_39 rfl (lv_at hl 1 rfl) ?_
    refine z_Vv (bc := [[(rd, .inr (7, [.ref rl, .ref rdd, .ref rg, .int u0_49, .int u1_50, .ref tp, .int r2, .int r3, .int r4, .int r5, .int r6, .int r7, .int r8]))], [(tp, .inl (T.2 1, 600, .inl ft))]]) (br := [[(rl, .inr (4, [.int cr, .int inn, .ref a1_1, .ref a2_2, .ref a3_3, .ref a4_4]))], [(a1_1, .inl (T.2 0, 7, .inl k1))], [(a2_2, .inl (T.2 0, 28, .inl k2))], [(a3_3, .inl (T.2 0, 7, .inl k3))], [(a4_4, .inl (T.2 0, 7, .inl k4))]]) (As := []) (rest := []) C G (c_nextToken l T rd rl rdd rg tp u0_49 u1_50 r2 r3 r4 r5 r6 r7 r8 ft (by first | assumption | omega | rfl)) (kV_RX7_71 C.2.2.2.2 (Nat.le_of_ble_eq_true rfl) (Nat.le_of_ble_eq_true rfl)) [6, 0] [1, 2, 3, 4, 5] rfl rfl (ci := 7) (qc := (RX7, TX7, 13)) rfl rfl (List.mem_flatten.mpr ⟨_, List.mem_of_getElem? (i := 0) rfl, List.mem_cons_self⟩) rfl rfl hl.1 dX7_readCrossing_40 (Nat.le_of_ble_eq_true rfl) (Nat.le_of_ble_eq_true rfl) (fun b1 H locs hw G => ?_)
    obtain ⟨u3_52, u4_53, u5_54, u6_55, rfl, h_56, h_57⟩ := hw
    have G : zS T A s.heap s [[(rl, .inr (4, [.int cr, .int inn, .ref a1_1, .ref a2_2, .ref a3_3, .ref a4_4]))], [(a1_1, .inl (T.2 0, 7, .inl k1))], [(a2_2, .inl (T.2 0, 28, .inl k2))], [(a3_3, .inl (T.2 0, 7, .inl k3))], [(a4_4, .inl (T.2 0, 7, .inl k4))], [(rd, .inr (7, [.ref rl, .ref rdd, .ref rg, .int u0_49, .int u1_50, .ref tp, .int r2, .int u3_52, .int u4_53, .int u5_54, .int u6_55, .int r7, .int r8]))], [(tp, .inl (T.2 1, 600, .inl ft))]] _ _ := G
    refine lv_iconst (v := 0) hx hb dX7_readCrossing_43 (by decide) ?_
    refine lv_istore_n (lv' := [(2, .int 0), (1, .int cr), (0, .ref rd)]) hx hb dX7_readCrossing_44 rfl hl (by decide) rfl (fun ls hl => ?_)
    refine lv_iconst (v := 0) hx hb dX7_readCrossing_45 (by decide) ?_
    refine lv_istore_n (lv' := [(3, .int 0), (2, .int 0), (1, .int cr), (0, .ref rd)]) hx hb dX7_readCrossing_46 rfl hl (by decide) rfl (fun ls hl => ?_)
    have hw_59 : bLand T rl cr inn k1 k2 k3 k4 [(rl, .inr (4, [.int cr, .int inn, .ref a1_1, .ref a2_2, .ref a3_3, .ref a4_4])), (a1_1, .inl (T.2 0, 7, .inl k1)), (a2_2, .inl (T.2 0, 28, .inl k2)), (a3_3, .inl (T.2 0, 7, .inl k3)), (a4_4, .inl (T.2 0, 7, .inl k4))] := ⟨a1_1, a2_2, a3_3, a4_4, rfl⟩
    have G : zS T A s.heap s [[(rl, .inr (4, [.int cr, .int inn, .ref a1_1, .ref a2_2, .ref a3_3, .ref a4_4])), (a1_1, .inl (T.2 0, 7, .inl k1)), (a2_2, .inl (T.2 0, 28, .inl k2)), (a3_3, .inl (T.2 0, 7, .inl k3)), (a4_4, .inl (T.2 0, 7, .inl k4))], [(rd, .inr (7, [.ref rl, .ref rdd, .ref rg, .int u0_49, .int u1_50, .ref tp, .int r2, .int u3_52, .int u4_53, .int u5_54, .int u6_55, .int r7, .int r8]))], [(tp, .inl (T.2 1, 600, .inl ft))]] _ _ := G.re rfl
    refine z_loop (T := T) (α := Nat × Int32 × Int32 × Int32 × Int32 × Int32 × Int32 × Int32 × Int32 × Int32 × va_W × (Nat → Int32) × (Nat → Int32)) 47 (fun (j, w_, y0, y1, y3, y4, y5, y6, y7, y8, z3, x1, x2) => [z3, [(rd, .inr (7, [.ref rl, .ref rdd, .ref rg, .int y0, .int y1, .ref tp, .int r2, .int y3, .int y4, .int y5, .int y6, .int y7, .int y8]))], [(tp, .inl (T.2 1, 600, .inl ft))]]) (fun (j, w_, y0, y1, y3, y4, y5, y6, y7, y8, z3, x1, x2) => [(3, .int (nI j)), (2, .int w_), (1, .int cr), (0, .ref rd)]) (fun (j, w_, y0, y1, y3, y4, y5, y6, y7, y8, z3, x1, x2) => bLand T rl cr inn x1 x2 k3 k4 z3 ∧ j ≤ 601 ∧ ((0 ≤ r2.toInt ∧ r2.toInt ≤ 600) ∧ (0 ≤ y3.toInt ∧ y3.toInt ≤ r2.toInt) ∧ (0 ≤ y5.toInt ∧ y5.toInt ≤ 600) ∧ 0 ≤ y6.toInt ∧ y6.toInt ≤ 1000) ∧ zLI cr x1 k3) (fun (j, w_, y0, y1, y3, y4, y5, y6, y7, y8, z3, x1, x2) => 601 - j) ?_ (0, 0, u0_49, u1_50, u3_52, u4_53, u5_54, u6_55, r7, r8, ([(rl, .inr (4, [.int cr, .int inn, .ref a1_1, .ref a2_2, .ref a3_3, .ref a4_4])), (a1_1, .inl (T.2 0, 7, .inl k1)), (a2_2, .inl (T.2 0, 28, .inl k2)), (a3_3, .inl (T.2 0, 7, .inl k3)), (a4_4, .inl (T.2 0, 7, .inl k4))]), k1, k2) (show bLand T rl cr inn k1 k2 k3 k4 ([(rl, .inr (4, [.int cr, .int inn, .ref a1_1, .ref a2_2, .ref a3_3, .ref a4_4])), (a1_1, .inl (T.2 0, 7, .inl k1)), (a2_2, .inl (T.2 0, 28, .inl k2)), (a3_3, .inl (T.2 0, 7, .inl k3)), (a4_4, .inl (T.2 0, 7, .inl k4))]) ∧ 0 ≤ 601 ∧ ((0 ≤ r2.toInt ∧ r2.toInt ≤ 600) ∧ (0 ≤ u3_52.toInt ∧ u3_52.toInt ≤ r2.toInt) ∧ (0 ≤ u5_54.toInt ∧ u5_54.toInt ≤ 600) ∧ 0 ≤ u6_55.toInt ∧ u6_55.toInt ≤ 1000) ∧ zLI cr k1 k3 from ⟨hw_59, by omega, by omega, hIa⟩) G (lv_sub hl [0, 1, 2, 3] rfl)
    rintro ⟨j, w_, y0, y1, y3, y4, y5, y6, y7, y8, z3, x1, x2⟩ ⟨hz3, hj, hQ, hI2⟩ ih_47 H locs ls G hl
    replace hz3 : bLand T rl cr inn x1 x2 k3 k4 z3 := hz3
    replace hj : j ≤ 601 := hj
    replace hQ : ((0 ≤ r2.toInt ∧ r2.toInt ≤ 600) ∧ (0 ≤ y3.toInt ∧ y3.toInt ≤ r2.toInt) ∧ (0 ≤ y5.toInt ∧ y5.toInt ≤ 600) ∧ 0 ≤ y6.toInt ∧ y6.toInt ≤ 1000) := hQ
    replace hI2 : zLI cr x1 k3 := hI2
    replace G : zS T A s.heap s [z3, [(rd, .inr (7, [.ref rl, .ref rdd, .ref rg, .int y0, .int y1, .ref tp, .int r2, .int y3, .int y4, .int y5, .int y6, .int y7, .int y8]))], [(tp, .inl (T.2 1, 600, .inl ft))]] _ _ := G
    replace hl : lv_has ls 6 [(3, .int (nI j)), (2, .int w_), (1, .int cr), (0, .ref rd)] := hl
    refine lv_iload_n hx hb dX7_readCrossing_47 rfl (lv_at hl 0 rfl) ?_
    refine lv_sipush (v := 600) hx hb dX7_readCrossing_48 (by decide) ?_
    refine lv_icmp_gt (tgt := 113) hx hb dX7_readCrossing_51 (by decide) (fun c_60 => ?_) (fun c_60 => ?_)
    · have c_60n : 600 < j := (nI_ltI (a := 600) (b := j) (by omega) (by omega)).mp c_60
      have G := G.sub (bs' := [[(rd, .inr (7, [.ref rl, .ref rdd, .ref rg, .int y0, .int y1, .ref tp, .int r2, .int y3, .int y4, .int y5, .int y6, .int y7, .int y8]))], [(tp, .inl (T.2 1, 600, .inl ft))], z3]) [1, 2, 0] rfl
      exact z_vret C hr hlocks G (Nat.le_of_ble_eq_true rfl) (Nat.le_of_ble_eq_true rfl) dX7_readCrossing_113 ⟨y0, y1, y3, y4, y5, y6, y7, y8, z3, cr, x1, x2, rfl, hz3, hI2, (by first | trivial | assumption | omega)⟩
    · have c_60n : ¬ 600 < j := fun q => c_60 ((nI_ltI (a := 600) (b := j) (by omega) (by omega)).mpr q)
      refine lv_aload_n hx hb dX7_readCrossing_54 rfl (lv_at hl 3 rfl) ?_
      refine z_get C G clX7 1 rfl 8 (by decide) m_fl_RX7_74 rfl dX7_readCrossing_55 ?_
      refine lv_iconst (v := 2) hx hb dX7_readCrossing_58 (by decide) ?_
      refine lv_icmp_ne (tgt := 113) hx hb dX7_readCrossing_59 (by decide) (fun c_61 => ?_) (fun c_61 => ?_)
      · have c_61n : ¬ y4.toInt = (2 : Int) := fun q => c_61 ((fa_eq _ _).mpr q)
        have G := G.sub (bs' := [[(rd, .inr (7, [.ref rl, .ref rdd, .ref rg, .int y0, .int y1, .ref tp, .int r2, .int y3, .int y4, .int y5, .int y6, .int y7, .int y8]))], [(tp, .inl (T.2 1, 600, .inl ft))], z3]) [1, 2, 0] rfl
        exact z_vret C hr hlocks G (Nat.le_of_ble_eq_true rfl) (Nat.le_of_ble_eq_true rfl) dX7_readCrossing_113 ⟨y0, y1, y3, y4, y5, y6, y7, y8, z3, cr, x1, x2, rfl, hz3, hI2, (by first | trivial | assumption | omega)⟩
      · have c_61n : y4.toInt = (2 : Int) := (fa_eq _ _).mp c_61
        refine lv_aload_n hx hb dX7_readCrossing_62 rfl (lv_at hl 3 rfl) ?_
        refine z_get C G clX7 1 rfl 9 (by decide) m_fl_RX7_84 rfl dX7_readCrossing_63 ?_
        refine lv_istore (lv' := [(4, .int y5), (3, .int (nI j)), (2, .int w_), (1, .int cr), (0, .ref rd)]) hx hb dX7_readCrossing_66 hl (by decide) rfl (fun ls hl => ?_)
        refine lv_aload_n hx hb dX7_readCrossing_68 rfl (lv_at hl 4 rfl) ?_
        refine lv_bipush (v := 6) hx hb dX7_readCrossing_69 (by decide) ?_
        refine z_Vi (bc := [[(rd, .inr (7, [.ref rl, .ref rdd, .ref rg, .int y0, .int y1, .ref tp, .int r2, .int y3, .int y4, .int y5, .int y6, .int y7, .int y8]))], [(tp, .inl (T.2 1, 600, .inl ft))]]) (br := [z3]) (As := [.int 6]) (rest := []) C G (c_readNumber l T rd rl rdd rg tp y0 y1 r2 y3 y4 y5 y6 y7 y8 ft 6 hQ) (kV_RX7_120 C.2.2.2.2 (Nat.le_of_ble_eq_true rfl) (Nat.le_of_ble_eq_true rfl)) [1, 2] [0] rfl rfl (ci := 7) (qc := (RX7, TX7, 13)) rfl rfl (List.mem_flatten.mpr ⟨_, List.mem_of_getElem? (i := 0) rfl, List.mem_cons_self⟩) rfl rfl hl.1 dX7_readCrossing_71 (Nat.le_of_ble_eq_true rfl) (Nat.le_of_ble_eq_true rfl) (fun r_71 b1 H locs hw G => ?_)
        obtain ⟨u0_62, u1_63, u3_64, u4_65, u5_66, u6_67, u7_68, rfl, h_69, h_70⟩ := hw
        have G : zS T A s.heap s [z3, [(rd, .inr (7, [.ref rl, .ref rdd, .ref rg, .int u0_62, .int u1_63, .ref tp, .int r2, .int u3_64, .int u4_65, .int u5_66, .int u6_67, .int u7_68, .int y8]))], [(tp, .inl (T.2 1, 600, .inl ft))]] _ _ := G
        refine lv_istore (lv' := [(5, .int r_71), (4, .int y5), (3, .int (nI j)), (2, .int w_), (1, .int cr), (0, .ref rd)]) hx hb dX7_readCrossing_74 hl (by decide) rfl (fun ls hl => ?_)
        refine lv_iload_n hx hb dX7_readCrossing_76 rfl (lv_at hl 3 rfl) ?_
        refine lv_iconst (v := 4) hx hb dX7_readCrossing_77 (by decide) ?_
        refine lv_icmp_lt (tgt := 88) hx hb dX7_readCrossing_78 (by decide) (fun c_72 => ?_) (fun c_72 => ?_)
        · have c_72n : w_.toInt < (4 : Int) := (fa_lt _ _).mp c_72
          refine lv_iinc (v := w_ + 1) (lv' := [(2, .int (w_ + 1)), (5, .int r_71), (4, .int y5), (3, .int (nI j)), (1, .int cr), (0, .ref rd)]) hx hb dX7_readCrossing_88 hl (k := 3) rfl rfl (by decide) rfl (fun ls hl => ?_)
          refine lv_aload_n hx hb dX7_readCrossing_91 rfl (lv_at hl 5 rfl) ?_
          refine z_get C G clX7 1 rfl 0 (by decide) m_fl_RX7_12 rfl dX7_readCrossing_92 ?_
          refine lv_iload_n hx hb dX7_readCrossing_95 rfl (lv_at hl 4 rfl) ?_
          refine lv_iload hx hb dX7_readCrossing_96 (lv_at hl 1 rfl) ?_
          refine z_Vv (bc := [z3]) (br := [[(rd, .inr (7, [.ref rl, .ref rdd, .ref rg, .int u0_62, .int u1_63, .ref tp, .int r2, .int u3_64, .int u4_65, .int u5_66, .int u6_67, .int u7_68, .int y8]))], [(tp, .inl (T.2 1, 600, .inl ft))]]) (As := [.int cr, .int r_71]) (rest := []) C G (c_addRoad l T rl cr inn x1 x2 k3 k4 z3 cr r_71 hz3 hI2) (kV_RX7_123 C.2.2.2.2 (Nat.le_of_ble_eq_true rfl) (Nat.le_of_ble_eq_true rfl)) [0] [1, 2] rfl rfl (ci := 4) (qc := (RX4, TX4, 6)) rfl rfl (List.mem_flatten.mpr ⟨_, List.mem_of_getElem? (i := 0) rfl, (bLand_mem hz3).choose_spec⟩) rfl rfl hl.1 dX7_readCrossing_98 (Nat.le_of_ble_eq_true rfl) (Nat.le_of_ble_eq_true rfl) (fun b1 H locs hw G => ?_)
          obtain ⟨w2_73, g1_74, g2_75, rfl, h_76, h_77, h_78⟩ := hw
          have G : zS T A s.heap s [[(rd, .inr (7, [.ref rl, .ref rdd, .ref rg, .int u0_62, .int u1_63, .ref tp, .int r2, .int u3_64, .int u4_65, .int u5_66, .int u6_67, .int u7_68, .int y8]))], [(tp, .inl (T.2 1, 600, .inl ft))], w2_73] _ _ := G
          have hI3 : zLI cr g1_74 k3 := by rw [h_77]; exact zLI_add hI2 _
          refine lv_aload_n hx hb dX7_readCrossing_101 rfl (lv_at hl 5 rfl) ?_
          refine lv_iload hx hb dX7_readCrossing_102 (lv_at hl 1 rfl) ?_
          refine z_Vv (bc := [[(rd, .inr (7, [.ref rl, .ref rdd, .ref rg, .int u0_62, .int u1_63, .ref tp, .int r2, .int u3_64, .int u4_65, .int u5_66, .int u6_67, .int u7_68, .int y8]))]]) (br := [[(tp, .inl (T.2 1, 600, .inl ft))], w2_73]) (As := [.int r_71]) (rest := []) C G (c_tellOf l T rd rl rdd rg tp u0_62 u1_63 r2 u3_64 u4_65 u5_66 u6_67 u7_68 y8 r_71) (kV_RX7_126 C.2.2.2.2 (Nat.le_of_ble_eq_true rfl) (Nat.le_of_ble_eq_true rfl)) [0] [1, 2] rfl rfl (ci := 7) (qc := (RX7, TX7, 13)) rfl rfl (List.mem_flatten.mpr ⟨_, List.mem_of_getElem? (i := 0) rfl, List.mem_cons_self⟩) rfl rfl hl.1 dX7_readCrossing_104 (Nat.le_of_ble_eq_true rfl) (Nat.le_of_ble_eq_true rfl) (fun b1 H locs hw G => ?_)
          obtain ⟨u8_80, rfl⟩ := hw
          have G : zS T A s.heap s [[(tp, .inl (T.2 1, 600, .inl ft))], w2_73, [(rd, .inr (7, [.ref rl, .ref rdd, .ref rg, .int u0_62, .int u1_63, .ref tp, .int r2, .int u3_64, .int u4_65, .int u5_66, .int u6_67, .int u7_68, .int u8_80]))]] _ _ := G
          refine lv_iinc (v := nI (j + 1)) (lv' := [(3, .int (nI (j + 1))), (2, .int (w_ + 1)), (5, .int r_71), (4, .int y5), (1, .int cr), (0, .ref rd)]) hx hb dX7_readCrossing_107 hl (k := 3) rfl (z_inc j 1) (by decide) rfl (fun ls hl => ?_)
          refine lv_goto (tgt := 47) hx hb dX7_readCrossing_110 (by decide) ?_
          have G := G.sub (bs' := [w2_73, [(rd, .inr (7, [.ref rl, .ref rdd, .ref rg, .int u0_62, .int u1_63, .ref tp, .int r2, .int u3_64, .int u4_65, .int u5_66, .int u6_67, .int u7_68, .int u8_80]))], [(tp, .inl (T.2 1, 600, .inl ft))]]) [1, 2, 0] rfl
          exact ih_47 ((j + 1), (w_ + 1), u0_62, u1_63, u3_64, u4_65, u5_66, u6_67, u7_68, u8_80, w2_73, g1_74, g2_75) (show bLand T rl cr inn g1_74 g2_75 k3 k4 w2_73 ∧ (j + 1) ≤ 601 ∧ ((0 ≤ r2.toInt ∧ r2.toInt ≤ 600) ∧ (0 ≤ u3_64.toInt ∧ u3_64.toInt ≤ r2.toInt) ∧ (0 ≤ u5_66.toInt ∧ u5_66.toInt ≤ 600) ∧ 0 ≤ u6_67.toInt ∧ u6_67.toInt ≤ 1000) ∧ zLI cr g1_74 k3 from ⟨h_76, by omega, by omega, hI3⟩) (show 601 - (j + 1) < 601 - j from by omega) _ _ ls G (lv_sub hl [0, 1, 4, 5] rfl)
        · have c_72n : ¬ w_.toInt < (4 : Int) := fun q => c_72 ((fa_lt _ _).mpr q)
          refine lv_aload_n hx hb dX7_readCrossing_81 rfl (lv_at hl 5 rfl) ?_
          refine lv_iconst (v := 3) hx hb dX7_readCrossing_82 (by decide) ?_
          refine lv_iload hx hb dX7_readCrossing_83 (lv_at hl 1 rfl) ?_
          refine z_Vv (bc := [[(rd, .inr (7, [.ref rl, .ref rdd, .ref rg, .int u0_62, .int u1_63, .ref tp, .int r2, .int u3_64, .int u4_65, .int u5_66, .int u6_67, .int u7_68, .int y8]))]]) (br := [z3, [(tp, .inl (T.2 1, 600, .inl ft))]]) (As := [.int 3, .int y5]) (rest := []) C G (c_note l T rd rl rdd rg tp u0_62 u1_63 r2 u3_64 u4_65 u5_66 u6_67 u7_68 y8 3 y5) (kV_RX7_90 C.2.2.2.2 (Nat.le_of_ble_eq_true rfl) (Nat.le_of_ble_eq_true rfl)) [1] [0, 2] rfl rfl (ci := 7) (qc := (RX7, TX7, 13)) rfl rfl (List.mem_flatten.mpr ⟨_, List.mem_of_getElem? (i := 0) rfl, List.mem_cons_self⟩) rfl rfl hl.1 dX7_readCrossing_85 (Nat.le_of_ble_eq_true rfl) (Nat.le_of_ble_eq_true rfl) (fun b1 H locs hw G => ?_)
          obtain ⟨u0_82, u1_83, rfl⟩ := hw
          have G : zS T A s.heap s [z3, [(tp, .inl (T.2 1, 600, .inl ft))], [(rd, .inr (7, [.ref rl, .ref rdd, .ref rg, .int u0_82, .int u1_83, .ref tp, .int r2, .int u3_64, .int u4_65, .int u5_66, .int u6_67, .int u7_68, .int y8]))]] _ _ := G
          refine lv_iinc (v := w_ + 1) (lv' := [(2, .int (w_ + 1)), (5, .int r_71), (4, .int y5), (3, .int (nI j)), (1, .int cr), (0, .ref rd)]) hx hb dX7_readCrossing_88 hl (k := 3) rfl rfl (by decide) rfl (fun ls hl => ?_)
          refine lv_aload_n hx hb dX7_readCrossing_91 rfl (lv_at hl 5 rfl) ?_
          refine z_get C G clX7 2 rfl 0 (by decide) m_fl_RX7_12 rfl dX7_readCrossing_92 ?_
          refine lv_iload_n hx hb dX7_readCrossing_95 rfl (lv_at hl 4 rfl) ?_
          refine lv_iload hx hb dX7_readCrossing_96 (lv_at hl 1 rfl) ?_
          refine z_Vv (bc := [z3]) (br := [[(tp, .inl (T.2 1, 600, .inl ft))], [(rd, .inr (7, [.ref rl, .ref rdd, .ref rg, .int u0_82, .int u1_83, .ref tp, .int r2, .int u3_64, .int u4_65, .int u5_66, .int u6_67, .int u7_68, .int y8]))]]) (As := [.int cr, .int r_71]) (rest := []) C G (c_addRoad l T rl cr inn x1 x2 k3 k4 z3 cr r_71 hz3 hI2) (kV_RX7_123 C.2.2.2.2 (Nat.le_of_ble_eq_true rfl) (Nat.le_of_ble_eq_true rfl)) [0] [1, 2] rfl rfl (ci := 4) (qc := (RX4, TX4, 6)) rfl rfl (List.mem_flatten.mpr ⟨_, List.mem_of_getElem? (i := 0) rfl, (bLand_mem hz3).choose_spec⟩) rfl rfl hl.1 dX7_readCrossing_98 (Nat.le_of_ble_eq_true rfl) (Nat.le_of_ble_eq_true rfl) (fun b1 H locs hw G => ?_)
          obtain ⟨w2_85, g1_86, g2_87, rfl, h_88, h_89, h_90⟩ := hw
          have G : zS T A s.heap s [[(tp, .inl (T.2 1, 600, .inl ft))], [(rd, .inr (7, [.ref rl, .ref rdd, .ref rg, .int u0_82, .int u1_83, .ref tp, .int r2, .int u3_64, .int u4_65, .int u5_66, .int u6_67, .int u7_68, .int y8]))], w2_85] _ _ := G
          have hI3 : zLI cr g1_86 k3 := by rw [h_89]; exact zLI_add hI2 _
          refine lv_aload_n hx hb dX7_readCrossing_101 rfl (lv_at hl 5 rfl) ?_
          refine lv_iload hx hb dX7_readCrossing_102 (lv_at hl 1 rfl) ?_
          refine z_Vv (bc := [[(rd, .inr (7, [.ref rl, .ref rdd, .ref rg, .int u0_82, .int u1_83, .ref tp, .int r2, .int u3_64, .int u4_65, .int u5_66, .int u6_67, .int u7_68, .int y8]))]]) (br := [[(tp, .inl (T.2 1, 600, .inl ft))], w2_85]) (As := [.int r_71]) (rest := []) C G (c_tellOf l T rd rl rdd rg tp u0_82 u1_83 r2 u3_64 u4_65 u5_66 u6_67 u7_68 y8 r_71) (kV_RX7_126 C.2.2.2.2 (Nat.le_of_ble_eq_true rfl) (Nat.le_of_ble_eq_true rfl)) [1] [0, 2] rfl rfl (ci := 7) (qc := (RX7, TX7, 13)) rfl rfl (List.mem_flatten.mpr ⟨_, List.mem_of_getElem? (i := 0) rfl, List.mem_cons_self⟩) rfl rfl hl.1 dX7_readCrossing_104 (Nat.le_of_ble_eq_true rfl) (Nat.le_of_ble_eq_true rfl) (fun b1 H locs hw G => ?_)
          obtain ⟨u8_92, rfl⟩ := hw
          have G : zS T A s.heap s [[(tp, .inl (T.2 1, 600, .inl ft))], w2_85, [(rd, .inr (7, [.ref rl, .ref rdd, .ref rg, .int u0_82, .int u1_83, .ref tp, .int r2, .int u3_64, .int u4_65, .int u5_66, .int u6_67, .int u7_68, .int u8_92]))]] _ _ := G
          refine lv_iinc (v := nI (j + 1)) (lv' := [(3, .int (nI (j + 1))), (2, .int (w_ + 1)), (5, .int r_71), (4, .int y5), (1, .int cr), (0, .ref rd)]) hx hb dX7_readCrossing_107 hl (k := 3) rfl (z_inc j 1) (by decide) rfl (fun ls hl => ?_)
          refine lv_goto (tgt := 47) hx hb dX7_readCrossing_110 (by decide) ?_
          have G := G.sub (bs' := [w2_85, [(rd, .inr (7, [.ref rl, .ref rdd, .ref rg, .int u0_82, .int u1_83, .ref tp, .int r2, .int u3_64, .int u4_65, .int u5_66, .int u6_67, .int u7_68, .int u8_92]))], [(tp, .inl (T.2 1, 600, .inl ft))]]) [1, 2, 0] rfl
          exact ih_47 ((j + 1), (w_ + 1), u0_82, u1_83, u3_64, u4_65, u5_66, u6_67, u7_68, u8_92, w2_85, g1_86, g2_87) (show bLand T rl cr inn g1_86 g2_87 k3 k4 w2_85 ∧ (j + 1) ≤ 601 ∧ ((0 ≤ r2.toInt ∧ r2.toInt ≤ 600) ∧ (0 ≤ u3_64.toInt ∧ u3_64.toInt ≤ r2.toInt) ∧ (0 ≤ u5_66.toInt ∧ u5_66.toInt ≤ 600) ∧ 0 ≤ u6_67.toInt ∧ u6_67.toInt ≤ 1000) ∧ zLI cr g1_86 k3 from ⟨h_88, by omega, by omega, hI3⟩) (show 601 - (j + 1) < 601 - j from by omega) _ _ ls G (lv_sub hl [0, 1, 4, 5] rfl)
set_option maxHeartbeats 4000000 in
set_option maxRecDepth 100000 in
/-- c_readOther -/
theorem c_readOther (l : Launch) (T : zTy) (rd : Nat) (rl : Nat) (rdd : Nat) (rg : Nat) (tp : Nat) (r0 : Int32) (r1 : Int32) (r2 : Int32) (r3 : Int32) (r4 : Int32) (r5 : Int32) (r6 : Int32) (r7 : Int32) (r8 : Int32) (ft : Nat → Int32) (cr : Int32) (inn : Int32) (k1 : Nat → Int32) (k2 : Nat → Int32) (k3 : Nat → Int32) (k4 : Nat → Int32) (z : va_W) (x : Int32) (hR : (0 ≤ r2.toInt ∧ r2.toInt ≤ 600) ∧ (0 ≤ r3.toInt ∧ r3.toInt ≤ r2.toInt) ∧ (0 ≤ r5.toInt ∧ r5.toInt ≤ 600) ∧ 0 ≤ r6.toInt ∧ r6.toInt ≤ 1000) (hz : bLand T rl cr inn k1 k2 k3 k4 z) (hI : zLI cr k1 k3) : zMv l T yX7_readOther cX7_readOther 4 5 0 0 [.ref rd, .int x] [[(rd, .inr (7, [.ref rl, .ref rdd, .ref rg, .int r0, .int r1, .ref tp, .int r2, .int r3, .int r4, .int r5, .int r6, .int r7, .int r8]))], [(tp, .inl (T.2 1, 600, .inl ft))], z] (fun bs => ∃ (u0 : Int32) (u1 : Int32) (u3 : Int32) (u4 : Int32) (u5 : Int32) (u6 : Int32) (u7 : Int32) (u8 : Int32) (z2 : va_W) (i2 : Int32) (j3 : Nat → Int32) (j4 : Nat → Int32), bs = [[(rd, .inr (7, [.ref rl, .ref rdd, .ref rg, .int u0, .int u1, .ref tp, .int r2, .int u3, .int u4, .int u5, .int u6, .int u7, .int u8]))], [(tp, .inl (T.2 1, 600, .inl ft))], z2] ∧ bLand T rl cr i2 k1 k2 j3 j4 z2 ∧ zLI cr k1 j3 ∧ (0 ≤ r2.toInt ∧ r2.toInt ≤ 600) ∧ (0 ≤ u3.toInt ∧ u3.toInt ≤ r2.toInt) ∧ (0 ≤ u5.toInt ∧ u5.toInt ≤ 600) ∧ 0 ≤ u6.toInt ∧ u6.toInt ≤ 1000) := by
  refine zMv_of (own := RX7) (by decide) rfl (Nat.le_of_ble_eq_true rfl) ?_
  intro p e s m args below meth c A ls C hr hlocks hnm hAe G hl
  have hx := C.1
  have hb := C.2.1
  have hl : lv_has ls 4 [(0, .ref rd), (1, .int x)] := hl
  refine lv_aload_n hx hb dX7_readOther_0 rfl (lv_at hl 0 rfl) ?_
  refine z_Vv (bc := [[(rd, .inr (7, [.ref rl, .ref rdd, .ref rg, .int r0, .int r1, .ref tp, .int r2, .int r3, .int r4, .int r5, .int r6, .int r7, .int r8]))], [(tp, .inl (T.2 1, 600, .inl ft))]]) (br := [z]) (As := []) (rest := []) C G (c_nextToken l T rd rl rdd rg tp r0 r1 r2 r3 r4 r5 r6 r7 r8 ft (by first | assumption | omega | rfl)) (kV_RX7_71 C.2.2.2.2 (Nat.le_of_ble_eq_true rfl) (Nat.le_of_ble_eq_true rfl)) [0, 1] [2] rfl rfl (ci := 7) (qc := (RX7, TX7, 13)) rfl rfl (List.mem_flatten.mpr ⟨_, List.mem_of_getElem? (i := 0) rfl, List.mem_cons_self⟩) rfl rfl hl.1 dX7_readOther_1 (Nat.le_of_ble_eq_true rfl) (Nat.le_of_ble_eq_true rfl) (fun b1 H locs hw G => ?_)
  obtain ⟨u3_1, u4_2, u5_3, u6_4, rfl, h_5, h_6⟩ := hw
  have G : zS T A s.heap s [z, [(rd, .inr (7, [.ref rl, .ref rdd, .ref rg, .int r0, .int r1, .ref tp, .int r2, .int u3_1, .int u4_2, .int u5_3, .int u6_4, .int r7, .int r8]))], [(tp, .inl (T.2 1, 600, .inl ft))]] _ _ := G
  refine lv_aload_n hx hb dX7_readOther_4 rfl (lv_at hl 0 rfl) ?_
  refine lv_bipush (v := 6) hx hb dX7_readOther_5 (by decide) ?_
  refine z_Vi (bc := [[(rd, .inr (7, [.ref rl, .ref rdd, .ref rg, .int r0, .int r1, .ref tp, .int r2, .int u3_1, .int u4_2, .int u5_3, .int u6_4, .int r7, .int r8]))], [(tp, .inl (T.2 1, 600, .inl ft))]]) (br := [z]) (As := [.int 6]) (rest := []) C G (c_readNumber l T rd rl rdd rg tp r0 r1 r2 u3_1 u4_2 u5_3 u6_4 r7 r8 ft 6 (by omega)) (kV_RX7_120 C.2.2.2.2 (Nat.le_of_ble_eq_true rfl) (Nat.le_of_ble_eq_true rfl)) [1, 2] [0] rfl rfl (ci := 7) (qc := (RX7, TX7, 13)) rfl rfl (List.mem_flatten.mpr ⟨_, List.mem_of_getElem? (i := 0) rfl, List.mem_cons_self⟩) rfl rfl hl.1 dX7_readOther_7 (Nat.le_of_ble_eq_true rfl) (Nat.le_of_ble_eq_true rfl) (fun r_17 b1 H locs hw G => ?_)
  obtain ⟨u0_8, u1_9, u3_10, u4_11, u5_12, u6_13, u7_14, rfl, h_15, h_16⟩ := hw
  have G : zS T A s.heap s [z, [(rd, .inr (7, [.ref rl, .ref rdd, .ref rg, .int u0_8, .int u1_9, .ref tp, .int r2, .int u3_10, .int u4_11, .int u5_12, .int u6_13, .int u7_14, .int r8]))], [(tp, .inl (T.2 1, 600, .inl ft))]] _ _ := G
  refine lv_istore_n (lv' := [(2, .int r_17), (0, .ref rd), (1, .int x)]) hx hb dX7_readOther_10 rfl hl (by decide) rfl (fun ls hl => ?_)
  refine lv_aload_n hx hb dX7_readOther_11 rfl (lv_at hl 1 rfl) ?_
  refine lv_iload_n hx hb dX7_readOther_12 rfl (lv_at hl 0 rfl) ?_
  refine z_Vv (bc := [[(rd, .inr (7, [.ref rl, .ref rdd, .ref rg, .int u0_8, .int u1_9, .ref tp, .int r2, .int u3_10, .int u4_11, .int u5_12, .int u6_13, .int u7_14, .int r8]))]]) (br := [z, [(tp, .inl (T.2 1, 600, .inl ft))]]) (As := [.int r_17]) (rest := []) C G (c_tellOf l T rd rl rdd rg tp u0_8 u1_9 r2 u3_10 u4_11 u5_12 u6_13 u7_14 r8 r_17) (kV_RX7_126 C.2.2.2.2 (Nat.le_of_ble_eq_true rfl) (Nat.le_of_ble_eq_true rfl)) [1] [0, 2] rfl rfl (ci := 7) (qc := (RX7, TX7, 13)) rfl rfl (List.mem_flatten.mpr ⟨_, List.mem_of_getElem? (i := 0) rfl, List.mem_cons_self⟩) rfl rfl hl.1 dX7_readOther_13 (Nat.le_of_ble_eq_true rfl) (Nat.le_of_ble_eq_true rfl) (fun b1 H locs hw G => ?_)
  obtain ⟨u8_18, rfl⟩ := hw
  have G : zS T A s.heap s [z, [(tp, .inl (T.2 1, 600, .inl ft))], [(rd, .inr (7, [.ref rl, .ref rdd, .ref rg, .int u0_8, .int u1_9, .ref tp, .int r2, .int u3_10, .int u4_11, .int u5_12, .int u6_13, .int u7_14, .int u8_18]))]] _ _ := G
  refine lv_iload_n hx hb dX7_readOther_16 rfl (lv_at hl 2 rfl) ?_
  refine lv_iconst (v := 3) hx hb dX7_readOther_17 (by decide) ?_
  refine lv_icmp_ne (tgt := 51) hx hb dX7_readOther_18 (by decide) (fun c_20 => ?_) (fun c_20 => ?_)
  · have c_20n : ¬ x.toInt = (3 : Int) := fun q => c_20 ((fa_eq _ _).mpr q)
    refine lv_aload_n hx hb dX7_readOther_51 rfl (lv_at hl 1 rfl) ?_
    refine lv_iload_n hx hb dX7_readOther_52 rfl (lv_at hl 2 rfl) ?_
    refine lv_iconst (v := 1) hx hb dX7_readOther_53 (by decide) ?_
    refine lv_icmp_ne (tgt := 61) hx hb dX7_readOther_54 (by decide) (fun c_21 => ?_) (fun c_21 => ?_)
    · have c_21n : ¬ x.toInt = (1 : Int) := fun q => c_21 ((fa_eq _ _).mpr q)
      refine lv_bipush (v := 9) hx hb dX7_readOther_61 (by decide) ?_
      refine z_Vi (bc := [[(rd, .inr (7, [.ref rl, .ref rdd, .ref rg, .int u0_8, .int u1_9, .ref tp, .int r2, .int u3_10, .int u4_11, .int u5_12, .int u6_13, .int u7_14, .int u8_18]))], [(tp, .inl (T.2 1, 600, .inl ft))]]) (br := [z]) (As := [.int 9]) (rest := []) C G (c_readNumber l T rd rl rdd rg tp u0_8 u1_9 r2 u3_10 u4_11 u5_12 u6_13 u7_14 u8_18 ft 9 (by omega)) (kV_RX7_120 C.2.2.2.2 (Nat.le_of_ble_eq_true rfl) (Nat.le_of_ble_eq_true rfl)) [2, 1] [0] rfl rfl (ci := 7) (qc := (RX7, TX7, 13)) rfl rfl (List.mem_flatten.mpr ⟨_, List.mem_of_getElem? (i := 0) rfl, List.mem_cons_self⟩) rfl rfl hl.1 dX7_readOther_63 (Nat.le_of_ble_eq_true rfl) (Nat.le_of_ble_eq_true rfl) (fun r_31 b1 H locs hw G => ?_)
      obtain ⟨u0_22, u1_23, u3_24, u4_25, u5_26, u6_27, u7_28, rfl, h_29, h_30⟩ := hw
      have G : zS T A s.heap s [z, [(rd, .inr (7, [.ref rl, .ref rdd, .ref rg, .int u0_22, .int u1_23, .ref tp, .int r2, .int u3_24, .int u4_25, .int u5_26, .int u6_27, .int u7_28, .int u8_18]))], [(tp, .inl (T.2 1, 600, .inl ft))]] _ _ := G
      refine lv_istore_n (lv' := [(3, .int r_31), (2, .int r_17), (0, .ref rd), (1, .int x)]) hx hb dX7_readOther_66 rfl hl (by decide) rfl (fun ls hl => ?_)
      refine lv_iload_n hx hb dX7_readOther_67 rfl (lv_at hl 1 rfl) ?_
      refine lv_if_lt (tgt := 77) hx hb dX7_readOther_68 (by decide) (fun c_32 => ?_) (fun c_32 => ?_)
      · have c_32n : r_17.toInt < (0 : Int) := (fa_lt _ _).mp c_32
        have G := G.sub (bs' := [[(rd, .inr (7, [.ref rl, .ref rdd, .ref rg, .int u0_22, .int u1_23, .ref tp, .int r2, .int u3_24, .int u4_25, .int u5_26, .int u6_27, .int u7_28, .int u8_18]))], [(tp, .inl (T.2 1, 600, .inl ft))], z]) [1, 2, 0] rfl
        exact z_vret C hr hlocks G (Nat.le_of_ble_eq_true rfl) (Nat.le_of_ble_eq_true rfl) dX7_readOther_77 ⟨u0_22, u1_23, u3_24, u4_25, u5_26, u6_27, u7_28, u8_18, z, inn, k3, k4, rfl, hz, hI, (by first | trivial | assumption | omega)⟩
      · have c_32n : ¬ r_17.toInt < (0 : Int) := fun q => c_32 ((fa_lt _ _).mpr q)
        refine lv_iload_n hx hb dX7_readOther_71 rfl (lv_at hl 1 rfl) ?_
        refine lv_bipush (v := 7) hx hb dX7_readOther_72 (by decide) ?_
        refine lv_icmp_lt (tgt := 78) hx hb dX7_readOther_74 (by decide) (fun c_33 => ?_) (fun c_33 => ?_)
        · have c_33n : r_17.toInt < (7 : Int) := (fa_lt _ _).mp c_33
          refine lv_iload_n hx hb dX7_readOther_78 rfl (lv_at hl 3 rfl) ?_
          refine lv_iconst (v := 1) hx hb dX7_readOther_79 (by decide) ?_
          refine lv_icmp_ne (tgt := 96) hx hb dX7_readOther_80 (by decide) (fun _ => ?_) (fun q => absurd q c_21)
          refine lv_aload_n hx hb dX7_readOther_96 rfl (lv_at hl 2 rfl) ?_
          refine z_get C G clX7 1 rfl 0 (by decide) m_fl_RX7_12 rfl dX7_readOther_97 ?_
          obtain ⟨a1_34, a2_35, a3_36, a4_37, rfl⟩ := hz
          have G : zS T A s.heap s [[(rl, .inr (4, [.int cr, .int inn, .ref a1_34, .ref a2_35, .ref a3_36, .ref a4_37]))], [(a1_34, .inl (T.2 0, 7, .inl k1))], [(a2_35, .inl (T.2 0, 28, .inl k2))], [(a3_36, .inl (T.2 0, 7, .inl k3))], [(a4_37, .inl (T.2 0, 7, .inl k4))], [(rd, .inr (7, [.ref rl, .ref rdd, .ref rg, .int u0_22, .int u1_23, .ref tp, .int r2, .int u3_24, .int u4_25, .int u5_26, .int u6_27, .int u7_28, .int u8_18]))], [(tp, .inl (T.2 1, 600, .inl ft))]] _ _ := G.re rfl
          refine z_get C G clX4 0 rfl 5 (by decide) m_fl_RX7_132 rfl dX7_readOther_100 ?_
          refine lv_iload_n hx hb dX7_readOther_103 rfl (lv_at hl 1 rfl) ?_
          refine lv_iload_n hx hb dX7_readOther_104 rfl (lv_at hl 0 rfl) ?_
          refine z_ist C G 4 rfl (vp_in_iff.mpr ⟨by omega, by omega⟩) dX7_readOther_105 (fun H locs G => ?_)
          have G : zS T A s.heap s [[(rl, .inr (4, [.int cr, .int inn, .ref a1_34, .ref a2_35, .ref a3_36, .ref a4_37]))], [(a1_34, .inl (T.2 0, 7, .inl k1))], [(a2_35, .inl (T.2 0, 28, .inl k2))], [(a3_36, .inl (T.2 0, 7, .inl k3))], [(a4_37, .inl (T.2 0, 7, .inl (upd k4 r_17.toNatClampNeg r_31)))], [(rd, .inr (7, [.ref rl, .ref rdd, .ref rg, .int u0_22, .int u1_23, .ref tp, .int r2, .int u3_24, .int u4_25, .int u5_26, .int u6_27, .int u7_28, .int u8_18]))], [(tp, .inl (T.2 1, 600, .inl ft))]] _ _ := G
          have hw_38 : bLand T rl cr inn k1 k2 k3 (upd k4 r_17.toNatClampNeg r_31) [(rl, .inr (4, [.int cr, .int inn, .ref a1_34, .ref a2_35, .ref a3_36, .ref a4_37])), (a1_34, .inl (T.2 0, 7, .inl k1)), (a2_35, .inl (T.2 0, 28, .inl k2)), (a3_36, .inl (T.2 0, 7, .inl k3)), (a4_37, .inl (T.2 0, 7, .inl (upd k4 r_17.toNatClampNeg r_31)))] := ⟨a1_34, a2_35, a3_36, a4_37, rfl⟩
          have G : zS T A s.heap s [[(rl, .inr (4, [.int cr, .int inn, .ref a1_34, .ref a2_35, .ref a3_36, .ref a4_37])), (a1_34, .inl (T.2 0, 7, .inl k1)), (a2_35, .inl (T.2 0, 28, .inl k2)), (a3_36, .inl (T.2 0, 7, .inl k3)), (a4_37, .inl (T.2 0, 7, .inl (upd k4 r_17.toNatClampNeg r_31)))], [(rd, .inr (7, [.ref rl, .ref rdd, .ref rg, .int u0_22, .int u1_23, .ref tp, .int r2, .int u3_24, .int u4_25, .int u5_26, .int u6_27, .int u7_28, .int u8_18]))], [(tp, .inl (T.2 1, 600, .inl ft))]] _ _ := G.re rfl
          have G := G.sub (bs' := [[(rd, .inr (7, [.ref rl, .ref rdd, .ref rg, .int u0_22, .int u1_23, .ref tp, .int r2, .int u3_24, .int u4_25, .int u5_26, .int u6_27, .int u7_28, .int u8_18]))], [(tp, .inl (T.2 1, 600, .inl ft))], [(rl, .inr (4, [.int cr, .int inn, .ref a1_34, .ref a2_35, .ref a3_36, .ref a4_37])), (a1_34, .inl (T.2 0, 7, .inl k1)), (a2_35, .inl (T.2 0, 28, .inl k2)), (a3_36, .inl (T.2 0, 7, .inl k3)), (a4_37, .inl (T.2 0, 7, .inl (upd k4 r_17.toNatClampNeg r_31)))]]) [1, 2, 0] rfl
          exact z_vret C hr hlocks G (Nat.le_of_ble_eq_true rfl) (Nat.le_of_ble_eq_true rfl) dX7_readOther_106 ⟨u0_22, u1_23, u3_24, u4_25, u5_26, u6_27, u7_28, u8_18, ([(rl, .inr (4, [.int cr, .int inn, .ref a1_34, .ref a2_35, .ref a3_36, .ref a4_37])), (a1_34, .inl (T.2 0, 7, .inl k1)), (a2_35, .inl (T.2 0, 28, .inl k2)), (a3_36, .inl (T.2 0, 7, .inl k3)), (a4_37, .inl (T.2 0, 7, .inl (upd k4 r_17.toNatClampNeg r_31)))]), inn, k3, (upd k4 r_17.toNatClampNeg r_31), rfl, hw_38, (by first | exact hI | exact zLI_post hI _ (by omega)), (by first | trivial | assumption | omega)⟩
        · have c_33n : ¬ r_17.toInt < (7 : Int) := fun q => c_33 ((fa_lt _ _).mpr q)
          have G := G.sub (bs' := [[(rd, .inr (7, [.ref rl, .ref rdd, .ref rg, .int u0_22, .int u1_23, .ref tp, .int r2, .int u3_24, .int u4_25, .int u5_26, .int u6_27, .int u7_28, .int u8_18]))], [(tp, .inl (T.2 1, 600, .inl ft))], z]) [1, 2, 0] rfl
          exact z_vret C hr hlocks G (Nat.le_of_ble_eq_true rfl) (Nat.le_of_ble_eq_true rfl) dX7_readOther_77 ⟨u0_22, u1_23, u3_24, u4_25, u5_26, u6_27, u7_28, u8_18, z, inn, k3, k4, rfl, hz, hI, (by first | trivial | assumption | omega)⟩
    · have c_21n : x.toInt = (1 : Int) := (fa_eq _ _).mp c_21
      refine lv_iconst (v := 3) hx hb dX7_readOther_57 (by decide) ?_
      refine lv_goto (tgt := 63) hx hb dX7_readOther_58 (by decide) ?_
      refine z_Vi (bc := [[(rd, .inr (7, [.ref rl, .ref rdd, .ref rg, .int u0_8, .int u1_9, .ref tp, .int r2, .int u3_10, .int u4_11, .int u5_12, .int u6_13, .int u7_14, .int u8_18]))], [(tp, .inl (T.2 1, 600, .inl ft))]]) (br := [z]) (As := [.int 3]) (rest := []) C G (c_readNumber l T rd rl rdd rg tp u0_8 u1_9 r2 u3_10 u4_11 u5_12 u6_13 u7_14 u8_18 ft 3 (by omega)) (kV_RX7_120 C.2.2.2.2 (Nat.le_of_ble_eq_true rfl) (Nat.le_of_ble_eq_true rfl)) [2, 1] [0] rfl rfl (ci := 7) (qc := (RX7, TX7, 13)) rfl rfl (List.mem_flatten.mpr ⟨_, List.mem_of_getElem? (i := 0) rfl, List.mem_cons_self⟩) rfl rfl hl.1 dX7_readOther_63 (Nat.le_of_ble_eq_true rfl) (Nat.le_of_ble_eq_true rfl) (fun r_48 b1 H locs hw G => ?_)
      obtain ⟨u0_39, u1_40, u3_41, u4_42, u5_43, u6_44, u7_45, rfl, h_46, h_47⟩ := hw
      have G : zS T A s.heap s [z, [(rd, .inr (7, [.ref rl, .ref rdd, .ref rg, .int u0_39, .int u1_40, .ref tp, .int r2, .int u3_41, .int u4_42, .int u5_43, .int u6_44, .int u7_45, .int u8_18]))], [(tp, .inl (T.2 1, 600, .inl ft))]] _ _ := G
      refine lv_istore_n (lv' := [(3, .int r_48), (2, .int r_17), (0, .ref rd), (1, .int x)]) hx hb dX7_readOther_66 rfl hl (by decide) rfl (fun ls hl => ?_)
      refine lv_iload_n hx hb dX7_readOther_67 rfl (lv_at hl 1 rfl) ?_
      refine lv_if_lt (tgt := 77) hx hb dX7_readOther_68 (by decide) (fun c_49 => ?_) (fun c_49 => ?_)
      · have c_49n : r_17.toInt < (0 : Int) := (fa_lt _ _).mp c_49
        have G := G.sub (bs' := [[(rd, .inr (7, [.ref rl, .ref rdd, .ref rg, .int u0_39, .int u1_40, .ref tp, .int r2, .int u3_41, .int u4_42, .int u5_43, .int u6_44, .int u7_45, .int u8_18]))], [(tp, .inl (T.2 1, 600, .inl ft))], z]) [1, 2, 0] rfl
        exact z_vret C hr hlocks G (Nat.le_of_ble_eq_true rfl) (Nat.le_of_ble_eq_true rfl) dX7_readOther_77 ⟨u0_39, u1_40, u3_41, u4_42, u5_43, u6_44, u7_45, u8_18, z, inn, k3, k4, rfl, hz, hI, (by first | trivial | assumption | omega)⟩
      · have c_49n : ¬ r_17.toInt < (0 : Int) := fun q => c_49 ((fa_lt _ _).mpr q)
        refine lv_iload_n hx hb dX7_readOther_71 rfl (lv_at hl 1 rfl) ?_
        refine lv_bipush (v := 7) hx hb dX7_readOther_72 (by decide) ?_
        refine lv_icmp_lt (tgt := 78) hx hb dX7_readOther_74 (by decide) (fun c_50 => ?_) (fun c_50 => ?_)
        · have c_50n : r_17.toInt < (7 : Int) := (fa_lt _ _).mp c_50
          refine lv_iload_n hx hb dX7_readOther_78 rfl (lv_at hl 3 rfl) ?_
          refine lv_iconst (v := 1) hx hb dX7_readOther_79 (by decide) ?_
          refine lv_icmp_ne (tgt := 96) hx hb dX7_readOther_80 (by decide) (fun q => absurd c_21 q) (fun _ => ?_)
          refine lv_aload_n hx hb dX7_readOther_83 rfl (lv_at hl 2 rfl) ?_
          refine z_get C G clX7 1 rfl 0 (by decide) m_fl_RX7_12 rfl dX7_readOther_84 ?_
          obtain ⟨a1_51, a2_52, a3_53, a4_54, rfl⟩ := hz
          have G : zS T A s.heap s [[(rl, .inr (4, [.int cr, .int inn, .ref a1_51, .ref a2_52, .ref a3_53, .ref a4_54]))], [(a1_51, .inl (T.2 0, 7, .inl k1))], [(a2_52, .inl (T.2 0, 28, .inl k2))], [(a3_53, .inl (T.2 0, 7, .inl k3))], [(a4_54, .inl (T.2 0, 7, .inl k4))], [(rd, .inr (7, [.ref rl, .ref rdd, .ref rg, .int u0_39, .int u1_40, .ref tp, .int r2, .int u3_41, .int u4_42, .int u5_43, .int u6_44, .int u7_45, .int u8_18]))], [(tp, .inl (T.2 1, 600, .inl ft))]] _ _ := G.re rfl
          refine z_get C G clX4 0 rfl 4 (by decide) m_fl_RX7_94 rfl dX7_readOther_87 ?_
          refine lv_iload_n hx hb dX7_readOther_90 rfl (lv_at hl 1 rfl) ?_
          refine lv_iload_n hx hb dX7_readOther_91 rfl (lv_at hl 0 rfl) ?_
          refine z_ist C G 3 rfl (vp_in_iff.mpr ⟨by omega, by omega⟩) dX7_readOther_92 (fun H locs G => ?_)
          have G : zS T A s.heap s [[(rl, .inr (4, [.int cr, .int inn, .ref a1_51, .ref a2_52, .ref a3_53, .ref a4_54]))], [(a1_51, .inl (T.2 0, 7, .inl k1))], [(a2_52, .inl (T.2 0, 28, .inl k2))], [(a3_53, .inl (T.2 0, 7, .inl (upd k3 r_17.toNatClampNeg r_48)))], [(a4_54, .inl (T.2 0, 7, .inl k4))], [(rd, .inr (7, [.ref rl, .ref rdd, .ref rg, .int u0_39, .int u1_40, .ref tp, .int r2, .int u3_41, .int u4_42, .int u5_43, .int u6_44, .int u7_45, .int u8_18]))], [(tp, .inl (T.2 1, 600, .inl ft))]] _ _ := G
          refine lv_goto (tgt := 106) hx hb dX7_readOther_93 (by decide) ?_
          have hw_55 : bLand T rl cr inn k1 k2 (upd k3 r_17.toNatClampNeg r_48) k4 [(rl, .inr (4, [.int cr, .int inn, .ref a1_51, .ref a2_52, .ref a3_53, .ref a4_54])), (a1_51, .inl (T.2 0, 7, .inl k1)), (a2_52, .inl (T.2 0, 28, .inl k2)), (a3_53, .inl (T.2 0, 7, .inl (upd k3 r_17.toNatClampNeg r_48))), (a4_54, .inl (T.2 0, 7, .inl k4))] := ⟨a1_51, a2_52, a3_53, a4_54, rfl⟩
          have G : zS T A s.heap s [[(rl, .inr (4, [.int cr, .int inn, .ref a1_51, .ref a2_52, .ref a3_53, .ref a4_54])), (a1_51, .inl (T.2 0, 7, .inl k1)), (a2_52, .inl (T.2 0, 28, .inl k2)), (a3_53, .inl (T.2 0, 7, .inl (upd k3 r_17.toNatClampNeg r_48))), (a4_54, .inl (T.2 0, 7, .inl k4))], [(rd, .inr (7, [.ref rl, .ref rdd, .ref rg, .int u0_39, .int u1_40, .ref tp, .int r2, .int u3_41, .int u4_42, .int u5_43, .int u6_44, .int u7_45, .int u8_18]))], [(tp, .inl (T.2 1, 600, .inl ft))]] _ _ := G.re rfl
          have G := G.sub (bs' := [[(rd, .inr (7, [.ref rl, .ref rdd, .ref rg, .int u0_39, .int u1_40, .ref tp, .int r2, .int u3_41, .int u4_42, .int u5_43, .int u6_44, .int u7_45, .int u8_18]))], [(tp, .inl (T.2 1, 600, .inl ft))], [(rl, .inr (4, [.int cr, .int inn, .ref a1_51, .ref a2_52, .ref a3_53, .ref a4_54])), (a1_51, .inl (T.2 0, 7, .inl k1)), (a2_52, .inl (T.2 0, 28, .inl k2)), (a3_53, .inl (T.2 0, 7, .inl (upd k3 r_17.toNatClampNeg r_48))), (a4_54, .inl (T.2 0, 7, .inl k4))]]) [1, 2, 0] rfl
          exact z_vret C hr hlocks G (Nat.le_of_ble_eq_true rfl) (Nat.le_of_ble_eq_true rfl) dX7_readOther_106 ⟨u0_39, u1_40, u3_41, u4_42, u5_43, u6_44, u7_45, u8_18, ([(rl, .inr (4, [.int cr, .int inn, .ref a1_51, .ref a2_52, .ref a3_53, .ref a4_54])), (a1_51, .inl (T.2 0, 7, .inl k1)), (a2_52, .inl (T.2 0, 28, .inl k2)), (a3_53, .inl (T.2 0, 7, .inl (upd k3 r_17.toNatClampNeg r_48))), (a4_54, .inl (T.2 0, 7, .inl k4))]), inn, (upd k3 r_17.toNatClampNeg r_48), k4, rfl, hw_55, (by first | exact hI | exact zLI_post hI _ (by omega)), (by first | trivial | assumption | omega)⟩
        · have c_50n : ¬ r_17.toInt < (7 : Int) := fun q => c_50 ((fa_lt _ _).mpr q)
          have G := G.sub (bs' := [[(rd, .inr (7, [.ref rl, .ref rdd, .ref rg, .int u0_39, .int u1_40, .ref tp, .int r2, .int u3_41, .int u4_42, .int u5_43, .int u6_44, .int u7_45, .int u8_18]))], [(tp, .inl (T.2 1, 600, .inl ft))], z]) [1, 2, 0] rfl
          exact z_vret C hr hlocks G (Nat.le_of_ble_eq_true rfl) (Nat.le_of_ble_eq_true rfl) dX7_readOther_77 ⟨u0_39, u1_40, u3_41, u4_42, u5_43, u6_44, u7_45, u8_18, z, inn, k3, k4, rfl, hz, hI, (by first | trivial | assumption | omega)⟩
  · have c_20n : x.toInt = (3 : Int) := (fa_eq _ _).mp c_20
    refine lv_aload_n hx hb dX7_readOther_21 rfl (lv_at hl 1 rfl) ?_
    refine z_get C G clX7 2 rfl 0 (by decide) m_fl_RX7_12 rfl dX7_readOther_22 ?_
    refine lv_dup hx hb dX7_readOther_25 rfl ?_
    obtain ⟨a1_56, a2_57, a3_58, a4_59, rfl⟩ := hz
    have G : zS T A s.heap s [[(rl, .inr (4, [.int cr, .int inn, .ref a1_56, .ref a2_57, .ref a3_58, .ref a4_59]))], [(a1_56, .inl (T.2 0, 7, .inl k1))], [(a2_57, .inl (T.2 0, 28, .inl k2))], [(a3_58, .inl (T.2 0, 7, .inl k3))], [(a4_59, .inl (T.2 0, 7, .inl k4))], [(tp, .inl (T.2 1, 600, .inl ft))], [(rd, .inr (7, [.ref rl, .ref rdd, .ref rg, .int u0_8, .int u1_9, .ref tp, .int r2, .int u3_10, .int u4_11, .int u5_12, .int u6_13, .int u7_14, .int u8_18]))]] _ _ := G.re rfl
    refine z_get C G clX4 0 rfl 1 (by decide) m_fl_RX7_129 rfl dX7_readOther_26 ?_
    refine lv_iload_n hx hb dX7_readOther_29 rfl (lv_at hl 0 rfl) ?_
    refine lv_if_lt (tgt := 45) hx hb dX7_readOther_30 (by decide) (fun c_60 => ?_) (fun c_60 => ?_)
    · have c_60n : r_17.toInt < (0 : Int) := (fa_lt _ _).mp c_60
      refine lv_iconst (v := 0) hx hb dX7_readOther_45 (by decide) ?_
      refine lv_ior hx hb dX7_readOther_46 ?_
      refine z_put C G clX4 0 rfl 1 (by decide) m_fl_RX7_129 rfl rfl rfl (Nat.le_of_ble_eq_true rfl) dX7_readOther_47 (fun H locs G => ?_)
      have G : zS T A s.heap s [[(rl, .inr (4, [.int cr, .int (inn ||| 0), .ref a1_56, .ref a2_57, .ref a3_58, .ref a4_59]))], [(a1_56, .inl (T.2 0, 7, .inl k1))], [(a2_57, .inl (T.2 0, 28, .inl k2))], [(a3_58, .inl (T.2 0, 7, .inl k3))], [(a4_59, .inl (T.2 0, 7, .inl k4))], [(tp, .inl (T.2 1, 600, .inl ft))], [(rd, .inr (7, [.ref rl, .ref rdd, .ref rg, .int u0_8, .int u1_9, .ref tp, .int r2, .int u3_10, .int u4_11, .int u5_12, .int u6_13, .int u7_14, .int u8_18]))]] _ _ := G
      have hw_61 : bLand T rl cr (inn ||| 0) k1 k2 k3 k4 [(rl, .inr (4, [.int cr, .int (inn ||| 0), .ref a1_56, .ref a2_57, .ref a3_58, .ref a4_59])), (a1_56, .inl (T.2 0, 7, .inl k1)), (a2_57, .inl (T.2 0, 28, .inl k2)), (a3_58, .inl (T.2 0, 7, .inl k3)), (a4_59, .inl (T.2 0, 7, .inl k4))] := ⟨a1_56, a2_57, a3_58, a4_59, rfl⟩
      have G : zS T A s.heap s [[(rl, .inr (4, [.int cr, .int (inn ||| 0), .ref a1_56, .ref a2_57, .ref a3_58, .ref a4_59])), (a1_56, .inl (T.2 0, 7, .inl k1)), (a2_57, .inl (T.2 0, 28, .inl k2)), (a3_58, .inl (T.2 0, 7, .inl k3)), (a4_59, .inl (T.2 0, 7, .inl k4))], [(tp, .inl (T.2 1, 600, .inl ft))], [(rd, .inr (7, [.ref rl, .ref rdd, .ref rg, .int u0_8, .int u1_9, .ref tp, .int r2, .int u3_10, .int u4_11, .int u5_12, .int u6_13, .int u7_14, .int u8_18]))]] _ _ := G.re rfl
      have G := G.sub (bs' := [[(rd, .inr (7, [.ref rl, .ref rdd, .ref rg, .int u0_8, .int u1_9, .ref tp, .int r2, .int u3_10, .int u4_11, .int u5_12, .int u6_13, .int u7_14, .int u8_18]))], [(tp, .inl (T.2 1, 600, .inl ft))], [(rl, .inr (4, [.int cr, .int (inn ||| 0), .ref a1_56, .ref a2_57, .ref a3_58, .ref a4_59])), (a1_56, .inl (T.2 0, 7, .inl k1)), (a2_57, .inl (T.2 0, 28, .inl k2)), (a3_58, .inl (T.2 0, 7, .inl k3)), (a4_59, .inl (T.2 0, 7, .inl k4))]]) [2, 1, 0] rfl
      exact z_vret C hr hlocks G (Nat.le_of_ble_eq_true rfl) (Nat.le_of_ble_eq_true rfl) dX7_readOther_50 ⟨u0_8, u1_9, u3_10, u4_11, u5_12, u6_13, u7_14, u8_18, ([(rl, .inr (4, [.int cr, .int (inn ||| 0), .ref a1_56, .ref a2_57, .ref a3_58, .ref a4_59])), (a1_56, .inl (T.2 0, 7, .inl k1)), (a2_57, .inl (T.2 0, 28, .inl k2)), (a3_58, .inl (T.2 0, 7, .inl k3)), (a4_59, .inl (T.2 0, 7, .inl k4))]), (inn ||| 0), k3, k4, rfl, hw_61, hI, (by first | trivial | assumption | omega)⟩
    · have c_60n : ¬ r_17.toInt < (0 : Int) := fun q => c_60 ((fa_lt _ _).mpr q)
      refine lv_iload_n hx hb dX7_readOther_33 rfl (lv_at hl 0 rfl) ?_
      refine lv_bipush (v := 7) hx hb dX7_readOther_34 (by decide) ?_
      refine lv_icmp_ge (tgt := 45) hx hb dX7_readOther_36 (by decide) (fun c_62 => ?_) (fun c_62 => ?_)
      · have c_62n : (7 : Int) ≤ r_17.toInt := (fa_le _ _).mp c_62
        refine lv_iconst (v := 0) hx hb dX7_readOther_45 (by decide) ?_
        refine lv_ior hx hb dX7_readOther_46 ?_
        refine z_put C G clX4 0 rfl 1 (by decide) m_fl_RX7_129 rfl rfl rfl (Nat.le_of_ble_eq_true rfl) dX7_readOther_47 (fun H locs G => ?_)
        have G : zS T A s.heap s [[(rl, .inr (4, [.int cr, .int (inn ||| 0), .ref a1_56, .ref a2_57, .ref a3_58, .ref a4_59]))], [(a1_56, .inl (T.2 0, 7, .inl k1))], [(a2_57, .inl (T.2 0, 28, .inl k2))], [(a3_58, .inl (T.2 0, 7, .inl k3))], [(a4_59, .inl (T.2 0, 7, .inl k4))], [(tp, .inl (T.2 1, 600, .inl ft))], [(rd, .inr (7, [.ref rl, .ref rdd, .ref rg, .int u0_8, .int u1_9, .ref tp, .int r2, .int u3_10, .int u4_11, .int u5_12, .int u6_13, .int u7_14, .int u8_18]))]] _ _ := G
        have hw_63 : bLand T rl cr (inn ||| 0) k1 k2 k3 k4 [(rl, .inr (4, [.int cr, .int (inn ||| 0), .ref a1_56, .ref a2_57, .ref a3_58, .ref a4_59])), (a1_56, .inl (T.2 0, 7, .inl k1)), (a2_57, .inl (T.2 0, 28, .inl k2)), (a3_58, .inl (T.2 0, 7, .inl k3)), (a4_59, .inl (T.2 0, 7, .inl k4))] := ⟨a1_56, a2_57, a3_58, a4_59, rfl⟩
        have G : zS T A s.heap s [[(rl, .inr (4, [.int cr, .int (inn ||| 0), .ref a1_56, .ref a2_57, .ref a3_58, .ref a4_59])), (a1_56, .inl (T.2 0, 7, .inl k1)), (a2_57, .inl (T.2 0, 28, .inl k2)), (a3_58, .inl (T.2 0, 7, .inl k3)), (a4_59, .inl (T.2 0, 7, .inl k4))], [(tp, .inl (T.2 1, 600, .inl ft))], [(rd, .inr (7, [.ref rl, .ref rdd, .ref rg, .int u0_8, .int u1_9, .ref tp, .int r2, .int u3_10, .int u4_11, .int u5_12, .int u6_13, .int u7_14, .int u8_18]))]] _ _ := G.re rfl
        have G := G.sub (bs' := [[(rd, .inr (7, [.ref rl, .ref rdd, .ref rg, .int u0_8, .int u1_9, .ref tp, .int r2, .int u3_10, .int u4_11, .int u5_12, .int u6_13, .int u7_14, .int u8_18]))], [(tp, .inl (T.2 1, 600, .inl ft))], [(rl, .inr (4, [.int cr, .int (inn ||| 0), .ref a1_56, .ref a2_57, .ref a3_58, .ref a4_59])), (a1_56, .inl (T.2 0, 7, .inl k1)), (a2_57, .inl (T.2 0, 28, .inl k2)), (a3_58, .inl (T.2 0, 7, .inl k3)), (a4_59, .inl (T.2 0, 7, .inl k4))]]) [2, 1, 0] rfl
        exact z_vret C hr hlocks G (Nat.le_of_ble_eq_true rfl) (Nat.le_of_ble_eq_true rfl) dX7_readOther_50 ⟨u0_8, u1_9, u3_10, u4_11, u5_12, u6_13, u7_14, u8_18, ([(rl, .inr (4, [.int cr, .int (inn ||| 0), .ref a1_56, .ref a2_57, .ref a3_58, .ref a4_59])), (a1_56, .inl (T.2 0, 7, .inl k1)), (a2_57, .inl (T.2 0, 28, .inl k2)), (a3_58, .inl (T.2 0, 7, .inl k3)), (a4_59, .inl (T.2 0, 7, .inl k4))]), (inn ||| 0), k3, k4, rfl, hw_63, hI, (by first | trivial | assumption | omega)⟩
      · have c_62n : ¬ (7 : Int) ≤ r_17.toInt := fun q => c_62 ((fa_le _ _).mpr q)
        refine lv_iconst (v := 1) hx hb dX7_readOther_39 (by decide) ?_
        refine lv_iload_n hx hb dX7_readOther_40 rfl (lv_at hl 0 rfl) ?_
        refine lv_ishl hx hb dX7_readOther_41 ?_
        refine lv_goto (tgt := 46) hx hb dX7_readOther_42 (by decide) ?_
        refine lv_ior hx hb dX7_readOther_46 ?_
        refine z_put C G clX4 0 rfl 1 (by decide) m_fl_RX7_129 rfl rfl rfl (Nat.le_of_ble_eq_true rfl) dX7_readOther_47 (fun H locs G => ?_)
        have G : zS T A s.heap s [[(rl, .inr (4, [.int cr, .int (inn ||| (1 <<< (r_17 &&& 31))), .ref a1_56, .ref a2_57, .ref a3_58, .ref a4_59]))], [(a1_56, .inl (T.2 0, 7, .inl k1))], [(a2_57, .inl (T.2 0, 28, .inl k2))], [(a3_58, .inl (T.2 0, 7, .inl k3))], [(a4_59, .inl (T.2 0, 7, .inl k4))], [(tp, .inl (T.2 1, 600, .inl ft))], [(rd, .inr (7, [.ref rl, .ref rdd, .ref rg, .int u0_8, .int u1_9, .ref tp, .int r2, .int u3_10, .int u4_11, .int u5_12, .int u6_13, .int u7_14, .int u8_18]))]] _ _ := G
        have hw_64 : bLand T rl cr (inn ||| (1 <<< (r_17 &&& 31))) k1 k2 k3 k4 [(rl, .inr (4, [.int cr, .int (inn ||| (1 <<< (r_17 &&& 31))), .ref a1_56, .ref a2_57, .ref a3_58, .ref a4_59])), (a1_56, .inl (T.2 0, 7, .inl k1)), (a2_57, .inl (T.2 0, 28, .inl k2)), (a3_58, .inl (T.2 0, 7, .inl k3)), (a4_59, .inl (T.2 0, 7, .inl k4))] := ⟨a1_56, a2_57, a3_58, a4_59, rfl⟩
        have G : zS T A s.heap s [[(rl, .inr (4, [.int cr, .int (inn ||| (1 <<< (r_17 &&& 31))), .ref a1_56, .ref a2_57, .ref a3_58, .ref a4_59])), (a1_56, .inl (T.2 0, 7, .inl k1)), (a2_57, .inl (T.2 0, 28, .inl k2)), (a3_58, .inl (T.2 0, 7, .inl k3)), (a4_59, .inl (T.2 0, 7, .inl k4))], [(tp, .inl (T.2 1, 600, .inl ft))], [(rd, .inr (7, [.ref rl, .ref rdd, .ref rg, .int u0_8, .int u1_9, .ref tp, .int r2, .int u3_10, .int u4_11, .int u5_12, .int u6_13, .int u7_14, .int u8_18]))]] _ _ := G.re rfl
        have G := G.sub (bs' := [[(rd, .inr (7, [.ref rl, .ref rdd, .ref rg, .int u0_8, .int u1_9, .ref tp, .int r2, .int u3_10, .int u4_11, .int u5_12, .int u6_13, .int u7_14, .int u8_18]))], [(tp, .inl (T.2 1, 600, .inl ft))], [(rl, .inr (4, [.int cr, .int (inn ||| (1 <<< (r_17 &&& 31))), .ref a1_56, .ref a2_57, .ref a3_58, .ref a4_59])), (a1_56, .inl (T.2 0, 7, .inl k1)), (a2_57, .inl (T.2 0, 28, .inl k2)), (a3_58, .inl (T.2 0, 7, .inl k3)), (a4_59, .inl (T.2 0, 7, .inl k4))]]) [2, 1, 0] rfl
        exact z_vret C hr hlocks G (Nat.le_of_ble_eq_true rfl) (Nat.le_of_ble_eq_true rfl) dX7_readOther_50 ⟨u0_8, u1_9, u3_10, u4_11, u5_12, u6_13, u7_14, u8_18, ([(rl, .inr (4, [.int cr, .int (inn ||| (1 <<< (r_17 &&& 31))), .ref a1_56, .ref a2_57, .ref a3_58, .ref a4_59])), (a1_56, .inl (T.2 0, 7, .inl k1)), (a2_57, .inl (T.2 0, 28, .inl k2)), (a3_58, .inl (T.2 0, 7, .inl k3)), (a4_59, .inl (T.2 0, 7, .inl k4))]), (inn ||| (1 <<< (r_17 &&& 31))), k3, k4, rfl, hw_64, hI, (by first | trivial | assumption | omega)⟩
set_option maxHeartbeats 4000000 in
set_option maxRecDepth 100000 in
/-- c_readDeed -/
theorem c_readDeed (l : Launch) (T : zTy) (rd : Nat) (rl : Nat) (rdd : Nat) (rg : Nat) (tp : Nat) (r0 : Int32) (r1 : Int32) (r2 : Int32) (r3 : Int32) (r4 : Int32) (r5 : Int32) (r6 : Int32) (r7 : Int32) (r8 : Int32) (ft : Nat → Int32) (dd : Int32) (d1 : Nat → Int32) (d2 : Nat → Int32) (d3 : Nat → Int32) (wd : va_W) (x : Int32) (hR : (0 ≤ r2.toInt ∧ r2.toInt ≤ 600) ∧ (0 ≤ r3.toInt ∧ r3.toInt ≤ r2.toInt) ∧ (0 ≤ r5.toInt ∧ r5.toInt ≤ 600) ∧ 0 ≤ r6.toInt ∧ r6.toInt ≤ 1000) (hd : bDay T rdd dd d1 d2 d3 wd) : zMv l T yX7_readDeed cX7_readDeed 4 5 0 0 [.ref rd, .int x] [[(rd, .inr (7, [.ref rl, .ref rdd, .ref rg, .int r0, .int r1, .ref tp, .int r2, .int r3, .int r4, .int r5, .int r6, .int r7, .int r8]))], [(tp, .inl (T.2 1, 600, .inl ft))], wd] (fun bs => ∃ (u0 : Int32) (u1 : Int32) (u3 : Int32) (u4 : Int32) (u5 : Int32) (u6 : Int32) (u7 : Int32) (wd2 : va_W) (dd2 : Int32) (b1 : Nat → Int32) (b2 : Nat → Int32) (b3 : Nat → Int32), bs = [[(rd, .inr (7, [.ref rl, .ref rdd, .ref rg, .int u0, .int u1, .ref tp, .int r2, .int u3, .int u4, .int u5, .int u6, .int u7, .int r8]))], [(tp, .inl (T.2 1, 600, .inl ft))], wd2] ∧ bDay T rdd dd2 b1 b2 b3 wd2 ∧ (0 ≤ r2.toInt ∧ r2.toInt ≤ 600) ∧ (0 ≤ u3.toInt ∧ u3.toInt ≤ r2.toInt) ∧ (0 ≤ u5.toInt ∧ u5.toInt ≤ 600) ∧ 0 ≤ u6.toInt ∧ u6.toInt ≤ 1000) := by
  refine zMv_of (own := RX7) (by decide) rfl (Nat.le_of_ble_eq_true rfl) ?_
  intro p e s m args below meth c A ls C hr hlocks hnm hAe G hl
  have hx := C.1
  have hb := C.2.1
  have hl : lv_has ls 4 [(0, .ref rd), (1, .int x)] := hl
  refine lv_aload_n hx hb dX7_readDeed_0 rfl (lv_at hl 0 rfl) ?_
  refine z_get C G clX7 0 rfl 1 (by decide) m_fl_RX7_21 rfl dX7_readDeed_1 ?_
  obtain ⟨a1_1, a2_2, a3_3, rfl⟩ := hd
  have G : zS T A s.heap s [[(rd, .inr (7, [.ref rl, .ref rdd, .ref rg, .int r0, .int r1, .ref tp, .int r2, .int r3, .int r4, .int r5, .int r6, .int r7, .int r8]))], [(tp, .inl (T.2 1, 600, .inl ft))], [(rdd, .inr (2, [.int dd, .ref a1_1, .ref a2_2, .ref a3_3]))], [(a1_1, .inl (T.2 0, 40, .inl d1))], [(a2_2, .inl (T.2 0, 40, .inl d2))], [(a3_3, .inl (T.2 0, 40, .inl d3))]] _ _ := G.re rfl
  refine z_get C G clX2 2 rfl 0 (by decide) m_fl_RX7_65 rfl dX7_readDeed_4 ?_
  refine lv_bipush (v := 40) hx hb dX7_readDeed_7 (by decide) ?_
  refine lv_icmp_lt (tgt := 21) hx hb dX7_readDeed_9 (by decide) (fun c_4 => ?_) (fun c_4 => ?_)
  · have c_4n : dd.toInt < (40 : Int) := (fa_lt _ _).mp c_4
    refine lv_aload_n hx hb dX7_readDeed_21 rfl (lv_at hl 0 rfl) ?_
    refine z_Vv (bc := [[(rd, .inr (7, [.ref rl, .ref rdd, .ref rg, .int r0, .int r1, .ref tp, .int r2, .int r3, .int r4, .int r5, .int r6, .int r7, .int r8]))], [(tp, .inl (T.2 1, 600, .inl ft))]]) (br := [[(rdd, .inr (2, [.int dd, .ref a1_1, .ref a2_2, .ref a3_3]))], [(a1_1, .inl (T.2 0, 40, .inl d1))], [(a2_2, .inl (T.2 0, 40, .inl d2))], [(a3_3, .inl (T.2 0, 40, .inl d3))]]) (As := []) (rest := []) C G (c_nextToken l T rd rl rdd rg tp r0 r1 r2 r3 r4 r5 r6 r7 r8 ft (by first | assumption | omega | rfl)) (kV_RX7_71 C.2.2.2.2 (Nat.le_of_ble_eq_true rfl) (Nat.le_of_ble_eq_true rfl)) [0, 1] [2, 3, 4, 5] rfl rfl (ci := 7) (qc := (RX7, TX7, 13)) rfl rfl (List.mem_flatten.mpr ⟨_, List.mem_of_getElem? (i := 0) rfl, List.mem_cons_self⟩) rfl rfl hl.1 dX7_readDeed_22 (Nat.le_of_ble_eq_true rfl) (Nat.le_of_ble_eq_true rfl) (fun b1 H locs hw G => ?_)
    obtain ⟨u3_5, u4_6, u5_7, u6_8, rfl, h_9, h_10⟩ := hw
    have G : zS T A s.heap s [[(rdd, .inr (2, [.int dd, .ref a1_1, .ref a2_2, .ref a3_3]))], [(a1_1, .inl (T.2 0, 40, .inl d1))], [(a2_2, .inl (T.2 0, 40, .inl d2))], [(a3_3, .inl (T.2 0, 40, .inl d3))], [(rd, .inr (7, [.ref rl, .ref rdd, .ref rg, .int r0, .int r1, .ref tp, .int r2, .int u3_5, .int u4_6, .int u5_7, .int u6_8, .int r7, .int r8]))], [(tp, .inl (T.2 1, 600, .inl ft))]] _ _ := G
    refine lv_aload_n hx hb dX7_readDeed_25 rfl (lv_at hl 0 rfl) ?_
    refine lv_bipush (v := 6) hx hb dX7_readDeed_26 (by decide) ?_
    refine z_Vi (bc := [[(rd, .inr (7, [.ref rl, .ref rdd, .ref rg, .int r0, .int r1, .ref tp, .int r2, .int u3_5, .int u4_6, .int u5_7, .int u6_8, .int r7, .int r8]))], [(tp, .inl (T.2 1, 600, .inl ft))]]) (br := [[(rdd, .inr (2, [.int dd, .ref a1_1, .ref a2_2, .ref a3_3]))], [(a1_1, .inl (T.2 0, 40, .inl d1))], [(a2_2, .inl (T.2 0, 40, .inl d2))], [(a3_3, .inl (T.2 0, 40, .inl d3))]]) (As := [.int 6]) (rest := []) C G (c_readNumber l T rd rl rdd rg tp r0 r1 r2 u3_5 u4_6 u5_7 u6_8 r7 r8 ft 6 (by omega)) (kV_RX7_120 C.2.2.2.2 (Nat.le_of_ble_eq_true rfl) (Nat.le_of_ble_eq_true rfl)) [4, 5] [0, 1, 2, 3] rfl rfl (ci := 7) (qc := (RX7, TX7, 13)) rfl rfl (List.mem_flatten.mpr ⟨_, List.mem_of_getElem? (i := 0) rfl, List.mem_cons_self⟩) rfl rfl hl.1 dX7_readDeed_28 (Nat.le_of_ble_eq_true rfl) (Nat.le_of_ble_eq_true rfl) (fun r_21 b1 H locs hw G => ?_)
    obtain ⟨u0_12, u1_13, u3_14, u4_15, u5_16, u6_17, u7_18, rfl, h_19, h_20⟩ := hw
    have G : zS T A s.heap s [[(rdd, .inr (2, [.int dd, .ref a1_1, .ref a2_2, .ref a3_3]))], [(a1_1, .inl (T.2 0, 40, .inl d1))], [(a2_2, .inl (T.2 0, 40, .inl d2))], [(a3_3, .inl (T.2 0, 40, .inl d3))], [(rd, .inr (7, [.ref rl, .ref rdd, .ref rg, .int u0_12, .int u1_13, .ref tp, .int r2, .int u3_14, .int u4_15, .int u5_16, .int u6_17, .int u7_18, .int r8]))], [(tp, .inl (T.2 1, 600, .inl ft))]] _ _ := G
    refine lv_istore_n (lv' := [(2, .int r_21), (0, .ref rd), (1, .int x)]) hx hb dX7_readDeed_31 rfl hl (by decide) rfl (fun ls hl => ?_)
    refine lv_iload_n hx hb dX7_readDeed_32 rfl (lv_at hl 2 rfl) ?_
    refine lv_iconst (v := 4) hx hb dX7_readDeed_33 (by decide) ?_
    refine lv_icmp_eq (tgt := 42) hx hb dX7_readDeed_34 (by decide) (fun c_22 => ?_) (fun c_22 => ?_)
    · have c_22n : x.toInt = (4 : Int) := (fa_eq _ _).mp c_22
      refine lv_aload_n hx hb dX7_readDeed_42 rfl (lv_at hl 1 rfl) ?_
      refine lv_iconst (v := 3) hx hb dX7_readDeed_43 (by decide) ?_
      refine z_Vi (bc := [[(rd, .inr (7, [.ref rl, .ref rdd, .ref rg, .int u0_12, .int u1_13, .ref tp, .int r2, .int u3_14, .int u4_15, .int u5_16, .int u6_17, .int u7_18, .int r8]))], [(tp, .inl (T.2 1, 600, .inl ft))]]) (br := [[(rdd, .inr (2, [.int dd, .ref a1_1, .ref a2_2, .ref a3_3]))], [(a1_1, .inl (T.2 0, 40, .inl d1))], [(a2_2, .inl (T.2 0, 40, .inl d2))], [(a3_3, .inl (T.2 0, 40, .inl d3))]]) (As := [.int 3]) (rest := []) C G (c_readNumber l T rd rl rdd rg tp u0_12 u1_13 r2 u3_14 u4_15 u5_16 u6_17 u7_18 r8 ft 3 (by omega)) (kV_RX7_120 C.2.2.2.2 (Nat.le_of_ble_eq_true rfl) (Nat.le_of_ble_eq_true rfl)) [4, 5] [0, 1, 2, 3] rfl rfl (ci := 7) (qc := (RX7, TX7, 13)) rfl rfl (List.mem_flatten.mpr ⟨_, List.mem_of_getElem? (i := 0) rfl, List.mem_cons_self⟩) rfl rfl hl.1 dX7_readDeed_44 (Nat.le_of_ble_eq_true rfl) (Nat.le_of_ble_eq_true rfl) (fun r_32 b1 H locs hw G => ?_)
      obtain ⟨u0_23, u1_24, u3_25, u4_26, u5_27, u6_28, u7_29, rfl, h_30, h_31⟩ := hw
      have G : zS T A s.heap s [[(rdd, .inr (2, [.int dd, .ref a1_1, .ref a2_2, .ref a3_3]))], [(a1_1, .inl (T.2 0, 40, .inl d1))], [(a2_2, .inl (T.2 0, 40, .inl d2))], [(a3_3, .inl (T.2 0, 40, .inl d3))], [(rd, .inr (7, [.ref rl, .ref rdd, .ref rg, .int u0_23, .int u1_24, .ref tp, .int r2, .int u3_25, .int u4_26, .int u5_27, .int u6_28, .int u7_29, .int r8]))], [(tp, .inl (T.2 1, 600, .inl ft))]] _ _ := G
      refine lv_goto (tgt := 51) hx hb dX7_readDeed_47 (by decide) ?_
      refine lv_istore_n (lv' := [(3, .int r_32), (2, .int r_21), (0, .ref rd), (1, .int x)]) hx hb dX7_readDeed_51 rfl hl (by decide) rfl (fun ls hl => ?_)
      refine lv_aload_n hx hb dX7_readDeed_52 rfl (lv_at hl 2 rfl) ?_
      refine z_get C G clX7 4 rfl 1 (by decide) m_fl_RX7_21 rfl dX7_readDeed_53 ?_
      refine lv_iload_n hx hb dX7_readDeed_56 rfl (lv_at hl 3 rfl) ?_
      refine lv_iload_n hx hb dX7_readDeed_57 rfl (lv_at hl 1 rfl) ?_
      refine lv_iload_n hx hb dX7_readDeed_58 rfl (lv_at hl 0 rfl) ?_
      have hw_33 : bDay T rdd dd d1 d2 d3 [(rdd, .inr (2, [.int dd, .ref a1_1, .ref a2_2, .ref a3_3])), (a1_1, .inl (T.2 0, 40, .inl d1)), (a2_2, .inl (T.2 0, 40, .inl d2)), (a3_3, .inl (T.2 0, 40, .inl d3))] := ⟨a1_1, a2_2, a3_3, rfl⟩
      have G : zS T A s.heap s [[(rdd, .inr (2, [.int dd, .ref a1_1, .ref a2_2, .ref a3_3])), (a1_1, .inl (T.2 0, 40, .inl d1)), (a2_2, .inl (T.2 0, 40, .inl d2)), (a3_3, .inl (T.2 0, 40, .inl d3))], [(rd, .inr (7, [.ref rl, .ref rdd, .ref rg, .int u0_23, .int u1_24, .ref tp, .int r2, .int u3_25, .int u4_26, .int u5_27, .int u6_28, .int u7_29, .int r8]))], [(tp, .inl (T.2 1, 600, .inl ft))]] _ _ := G.re rfl
      refine z_Vv (bc := [[(rdd, .inr (2, [.int dd, .ref a1_1, .ref a2_2, .ref a3_3])), (a1_1, .inl (T.2 0, 40, .inl d1)), (a2_2, .inl (T.2 0, 40, .inl d2)), (a3_3, .inl (T.2 0, 40, .inl d3))]]) (br := [[(rd, .inr (7, [.ref rl, .ref rdd, .ref rg, .int u0_23, .int u1_24, .ref tp, .int r2, .int u3_25, .int u4_26, .int u5_27, .int u6_28, .int u7_29, .int r8]))], [(tp, .inl (T.2 1, 600, .inl ft))]]) (As := [.int x, .int r_21, .int r_32]) (rest := []) C G (c_Day_add l T rdd dd d1 d2 d3 ([(rdd, .inr (2, [.int dd, .ref a1_1, .ref a2_2, .ref a3_3])), (a1_1, .inl (T.2 0, 40, .inl d1)), (a2_2, .inl (T.2 0, 40, .inl d2)), (a3_3, .inl (T.2 0, 40, .inl d3))]) x r_21 r_32 hw_33) (kV_RX7_135 C.2.2.2.2 (Nat.le_of_ble_eq_true rfl) (Nat.le_of_ble_eq_true rfl)) [0] [1, 2] rfl rfl (ci := 2) (qc := (RX2, TX2, 4)) rfl rfl (List.mem_flatten.mpr ⟨_, List.mem_of_getElem? (i := 0) rfl, (bDay_mem hw_33).choose_spec⟩) rfl rfl hl.1 dX7_readDeed_59 (Nat.le_of_ble_eq_true rfl) (Nat.le_of_ble_eq_true rfl) (fun b1 H locs hw G => ?_)
      obtain ⟨w2_34, u_35, g1_36, g2_37, g3_38, rfl, h_39, h_40, h_41, h_42, h_43⟩ := hw
      have G : zS T A s.heap s [[(rd, .inr (7, [.ref rl, .ref rdd, .ref rg, .int u0_23, .int u1_24, .ref tp, .int r2, .int u3_25, .int u4_26, .int u5_27, .int u6_28, .int u7_29, .int r8]))], [(tp, .inl (T.2 1, 600, .inl ft))], w2_34] _ _ := G
      exact z_vret C hr hlocks G (Nat.le_of_ble_eq_true rfl) (Nat.le_of_ble_eq_true rfl) dX7_readDeed_62 ⟨u0_23, u1_24, u3_25, u4_26, u5_27, u6_28, u7_29, w2_34, u_35, g1_36, g2_37, g3_38, rfl, h_39, (by first | trivial | assumption | omega)⟩
    · have c_22n : ¬ x.toInt = (4 : Int) := fun q => c_22 ((fa_eq _ _).mpr q)
      refine lv_iload_n hx hb dX7_readDeed_37 rfl (lv_at hl 2 rfl) ?_
      refine lv_iconst (v := 5) hx hb dX7_readDeed_38 (by decide) ?_
      refine lv_icmp_ne (tgt := 50) hx hb dX7_readDeed_39 (by decide) (fun c_45 => ?_) (fun c_45 => ?_)
      · have c_45n : ¬ x.toInt = (5 : Int) := fun q => c_45 ((fa_eq _ _).mpr q)
        refine lv_iconst (v := (-1)) hx hb dX7_readDeed_50 (by decide) ?_
        refine lv_istore_n (lv' := [(3, .int (-1)), (2, .int r_21), (0, .ref rd), (1, .int x)]) hx hb dX7_readDeed_51 rfl hl (by decide) rfl (fun ls hl => ?_)
        refine lv_aload_n hx hb dX7_readDeed_52 rfl (lv_at hl 2 rfl) ?_
        refine z_get C G clX7 4 rfl 1 (by decide) m_fl_RX7_21 rfl dX7_readDeed_53 ?_
        refine lv_iload_n hx hb dX7_readDeed_56 rfl (lv_at hl 3 rfl) ?_
        refine lv_iload_n hx hb dX7_readDeed_57 rfl (lv_at hl 1 rfl) ?_
        refine lv_iload_n hx hb dX7_readDeed_58 rfl (lv_at hl 0 rfl) ?_
        have hw_46 : bDay T rdd dd d1 d2 d3 [(rdd, .inr (2, [.int dd, .ref a1_1, .ref a2_2, .ref a3_3])), (a1_1, .inl (T.2 0, 40, .inl d1)), (a2_2, .inl (T.2 0, 40, .inl d2)), (a3_3, .inl (T.2 0, 40, .inl d3))] := ⟨a1_1, a2_2, a3_3, rfl⟩
        have G : zS T A s.heap s [[(rdd, .inr (2, [.int dd, .ref a1_1, .ref a2_2, .ref a3_3])), (a1_1, .inl (T.2 0, 40, .inl d1)), (a2_2, .inl (T.2 0, 40, .inl d2)), (a3_3, .inl (T.2 0, 40, .inl d3))], [(rd, .inr (7, [.ref rl, .ref rdd, .ref rg, .int u0_12, .int u1_13, .ref tp, .int r2, .int u3_14, .int u4_15, .int u5_16, .int u6_17, .int u7_18, .int r8]))], [(tp, .inl (T.2 1, 600, .inl ft))]] _ _ := G.re rfl
        refine z_Vv (bc := [[(rdd, .inr (2, [.int dd, .ref a1_1, .ref a2_2, .ref a3_3])), (a1_1, .inl (T.2 0, 40, .inl d1)), (a2_2, .inl (T.2 0, 40, .inl d2)), (a3_3, .inl (T.2 0, 40, .inl d3))]]) (br := [[(rd, .inr (7, [.ref rl, .ref rdd, .ref rg, .int u0_12, .int u1_13, .ref tp, .int r2, .int u3_14, .int u4_15, .int u5_16, .int u6_17, .int u7_18, .int r8]))], [(tp, .inl (T.2 1, 600, .inl ft))]]) (As := [.int x, .int r_21, .int (-1)]) (rest := []) C G (c_Day_add l T rdd dd d1 d2 d3 ([(rdd, .inr (2, [.int dd, .ref a1_1, .ref a2_2, .ref a3_3])), (a1_1, .inl (T.2 0, 40, .inl d1)), (a2_2, .inl (T.2 0, 40, .inl d2)), (a3_3, .inl (T.2 0, 40, .inl d3))]) x r_21 (-1) hw_46) (kV_RX7_135 C.2.2.2.2 (Nat.le_of_ble_eq_true rfl) (Nat.le_of_ble_eq_true rfl)) [0] [1, 2] rfl rfl (ci := 2) (qc := (RX2, TX2, 4)) rfl rfl (List.mem_flatten.mpr ⟨_, List.mem_of_getElem? (i := 0) rfl, (bDay_mem hw_46).choose_spec⟩) rfl rfl hl.1 dX7_readDeed_59 (Nat.le_of_ble_eq_true rfl) (Nat.le_of_ble_eq_true rfl) (fun b1 H locs hw G => ?_)
        obtain ⟨w2_47, u_48, g1_49, g2_50, g3_51, rfl, h_52, h_53, h_54, h_55, h_56⟩ := hw
        have G : zS T A s.heap s [[(rd, .inr (7, [.ref rl, .ref rdd, .ref rg, .int u0_12, .int u1_13, .ref tp, .int r2, .int u3_14, .int u4_15, .int u5_16, .int u6_17, .int u7_18, .int r8]))], [(tp, .inl (T.2 1, 600, .inl ft))], w2_47] _ _ := G
        exact z_vret C hr hlocks G (Nat.le_of_ble_eq_true rfl) (Nat.le_of_ble_eq_true rfl) dX7_readDeed_62 ⟨u0_12, u1_13, u3_14, u4_15, u5_16, u6_17, u7_18, w2_47, u_48, g1_49, g2_50, g3_51, rfl, h_52, (by first | trivial | assumption | omega)⟩
      · have c_45n : x.toInt = (5 : Int) := (fa_eq _ _).mp c_45
        refine lv_aload_n hx hb dX7_readDeed_42 rfl (lv_at hl 1 rfl) ?_
        refine lv_iconst (v := 3) hx hb dX7_readDeed_43 (by decide) ?_
        refine z_Vi (bc := [[(rd, .inr (7, [.ref rl, .ref rdd, .ref rg, .int u0_12, .int u1_13, .ref tp, .int r2, .int u3_14, .int u4_15, .int u5_16, .int u6_17, .int u7_18, .int r8]))], [(tp, .inl (T.2 1, 600, .inl ft))]]) (br := [[(rdd, .inr (2, [.int dd, .ref a1_1, .ref a2_2, .ref a3_3]))], [(a1_1, .inl (T.2 0, 40, .inl d1))], [(a2_2, .inl (T.2 0, 40, .inl d2))], [(a3_3, .inl (T.2 0, 40, .inl d3))]]) (As := [.int 3]) (rest := []) C G (c_readNumber l T rd rl rdd rg tp u0_12 u1_13 r2 u3_14 u4_15 u5_16 u6_17 u7_18 r8 ft 3 (by omega)) (kV_RX7_120 C.2.2.2.2 (Nat.le_of_ble_eq_true rfl) (Nat.le_of_ble_eq_true rfl)) [4, 5] [0, 1, 2, 3] rfl rfl (ci := 7) (qc := (RX7, TX7, 13)) rfl rfl (List.mem_flatten.mpr ⟨_, List.mem_of_getElem? (i := 0) rfl, List.mem_cons_self⟩) rfl rfl hl.1 dX7_readDeed_44 (Nat.le_of_ble_eq_true rfl) (Nat.le_of_ble_eq_true rfl) (fun r_67 b1 H locs hw G => ?_)
        obtain ⟨u0_58, u1_59, u3_60, u4_61, u5_62, u6_63, u7_64, rfl, h_65, h_66⟩ := hw
        have G : zS T A s.heap s [[(rdd, .inr (2, [.int dd, .ref a1_1, .ref a2_2, .ref a3_3]))], [(a1_1, .inl (T.2 0, 40, .inl d1))], [(a2_2, .inl (T.2 0, 40, .inl d2))], [(a3_3, .inl (T.2 0, 40, .inl d3))], [(rd, .inr (7, [.ref rl, .ref rdd, .ref rg, .int u0_58, .int u1_59, .ref tp, .int r2, .int u3_60, .int u4_61, .int u5_62, .int u6_63, .int u7_64, .int r8]))], [(tp, .inl (T.2 1, 600, .inl ft))]] _ _ := G
        refine lv_goto (tgt := 51) hx hb dX7_readDeed_47 (by decide) ?_
        refine lv_istore_n (lv' := [(3, .int r_67), (2, .int r_21), (0, .ref rd), (1, .int x)]) hx hb dX7_readDeed_51 rfl hl (by decide) rfl (fun ls hl => ?_)
        refine lv_aload_n hx hb dX7_readDeed_52 rfl (lv_at hl 2 rfl) ?_
        refine z_get C G clX7 4 rfl 1 (by decide) m_fl_RX7_21 rfl dX7_readDeed_53 ?_
        refine lv_iload_n hx hb dX7_readDeed_56 rfl (lv_at hl 3 rfl) ?_
        refine lv_iload_n hx hb dX7_readDeed_57 rfl (lv_at hl 1 rfl) ?_
        refine lv_iload_n hx hb dX7_readDeed_58 rfl (lv_at hl 0 rfl) ?_
        have hw_68 : bDay T rdd dd d1 d2 d3 [(rdd, .inr (2, [.int dd, .ref a1_1, .ref a2_2, .ref a3_3])), (a1_1, .inl (T.2 0, 40, .inl d1)), (a2_2, .inl (T.2 0, 40, .inl d2)), (a3_3, .inl (T.2 0, 40, .inl d3))] := ⟨a1_1, a2_2, a3_3, rfl⟩
        have G : zS T A s.heap s [[(rdd, .inr (2, [.int dd, .ref a1_1, .ref a2_2, .ref a3_3])), (a1_1, .inl (T.2 0, 40, .inl d1)), (a2_2, .inl (T.2 0, 40, .inl d2)), (a3_3, .inl (T.2 0, 40, .inl d3))], [(rd, .inr (7, [.ref rl, .ref rdd, .ref rg, .int u0_58, .int u1_59, .ref tp, .int r2, .int u3_60, .int u4_61, .int u5_62, .int u6_63, .int u7_64, .int r8]))], [(tp, .inl (T.2 1, 600, .inl ft))]] _ _ := G.re rfl
        refine z_Vv (bc := [[(rdd, .inr (2, [.int dd, .ref a1_1, .ref a2_2, .ref a3_3])), (a1_1, .inl (T.2 0, 40, .inl d1)), (a2_2, .inl (T.2 0, 40, .inl d2)), (a3_3, .inl (T.2 0, 40, .inl d3))]]) (br := [[(rd, .inr (7, [.ref rl, .ref rdd, .ref rg, .int u0_58, .int u1_59, .ref tp, .int r2, .int u3_60, .int u4_61, .int u5_62, .int u6_63, .int u7_64, .int r8]))], [(tp, .inl (T.2 1, 600, .inl ft))]]) (As := [.int x, .int r_21, .int r_67]) (rest := []) C G (c_Day_add l T rdd dd d1 d2 d3 ([(rdd, .inr (2, [.int dd, .ref a1_1, .ref a2_2, .ref a3_3])), (a1_1, .inl (T.2 0, 40, .inl d1)), (a2_2, .inl (T.2 0, 40, .inl d2)), (a3_3, .inl (T.2 0, 40, .inl d3))]) x r_21 r_67 hw_68) (kV_RX7_135 C.2.2.2.2 (Nat.le_of_ble_eq_true rfl) (Nat.le_of_ble_eq_true rfl)) [0] [1, 2] rfl rfl (ci := 2) (qc := (RX2, TX2, 4)) rfl rfl (List.mem_flatten.mpr ⟨_, List.mem_of_getElem? (i := 0) rfl, (bDay_mem hw_68).choose_spec⟩) rfl rfl hl.1 dX7_readDeed_59 (Nat.le_of_ble_eq_true rfl) (Nat.le_of_ble_eq_true rfl) (fun b1 H locs hw G => ?_)
        obtain ⟨w2_69, u_70, g1_71, g2_72, g3_73, rfl, h_74, h_75, h_76, h_77, h_78⟩ := hw
        have G : zS T A s.heap s [[(rd, .inr (7, [.ref rl, .ref rdd, .ref rg, .int u0_58, .int u1_59, .ref tp, .int r2, .int u3_60, .int u4_61, .int u5_62, .int u6_63, .int u7_64, .int r8]))], [(tp, .inl (T.2 1, 600, .inl ft))], w2_69] _ _ := G
        exact z_vret C hr hlocks G (Nat.le_of_ble_eq_true rfl) (Nat.le_of_ble_eq_true rfl) dX7_readDeed_62 ⟨u0_58, u1_59, u3_60, u4_61, u5_62, u6_63, u7_64, w2_69, u_70, g1_71, g2_72, g3_73, rfl, h_74, (by first | trivial | assumption | omega)⟩
  · have c_4n : ¬ dd.toInt < (40 : Int) := fun q => c_4 ((fa_lt _ _).mpr q)
    refine lv_aload_n hx hb dX7_readDeed_12 rfl (lv_at hl 0 rfl) ?_
    refine lv_iconst (v := 3) hx hb dX7_readDeed_13 (by decide) ?_
    refine lv_aload_n hx hb dX7_readDeed_14 rfl (lv_at hl 0 rfl) ?_
    refine z_get C G clX7 0 rfl 9 (by decide) m_fl_RX7_84 rfl dX7_readDeed_15 ?_
    refine z_Vv (bc := [[(rd, .inr (7, [.ref rl, .ref rdd, .ref rg, .int r0, .int r1, .ref tp, .int r2, .int r3, .int r4, .int r5, .int r6, .int r7, .int r8]))]]) (br := [[(tp, .inl (T.2 1, 600, .inl ft))], [(rdd, .inr (2, [.int dd, .ref a1_1, .ref a2_2, .ref a3_3]))], [(a1_1, .inl (T.2 0, 40, .inl d1))], [(a2_2, .inl (T.2 0, 40, .inl d2))], [(a3_3, .inl (T.2 0, 40, .inl d3))]]) (As := [.int 3, .int r5]) (rest := []) C G (c_note l T rd rl rdd rg tp r0 r1 r2 r3 r4 r5 r6 r7 r8 3 r5) (kV_RX7_90 C.2.2.2.2 (Nat.le_of_ble_eq_true rfl) (Nat.le_of_ble_eq_true rfl)) [0] [1, 2, 3, 4, 5] rfl rfl (ci := 7) (qc := (RX7, TX7, 13)) rfl rfl (List.mem_flatten.mpr ⟨_, List.mem_of_getElem? (i := 0) rfl, List.mem_cons_self⟩) rfl rfl hl.1 dX7_readDeed_18 (Nat.le_of_ble_eq_true rfl) (Nat.le_of_ble_eq_true rfl) (fun b1 H locs hw G => ?_)
    obtain ⟨u0_80, u1_81, rfl⟩ := hw
    have G : zS T A s.heap s [[(tp, .inl (T.2 1, 600, .inl ft))], [(rdd, .inr (2, [.int dd, .ref a1_1, .ref a2_2, .ref a3_3]))], [(a1_1, .inl (T.2 0, 40, .inl d1))], [(a2_2, .inl (T.2 0, 40, .inl d2))], [(a3_3, .inl (T.2 0, 40, .inl d3))], [(rd, .inr (7, [.ref rl, .ref rdd, .ref rg, .int u0_80, .int u1_81, .ref tp, .int r2, .int r3, .int r4, .int r5, .int r6, .int r7, .int r8]))]] _ _ := G
    refine lv_aload_n hx hb dX7_readDeed_21 rfl (lv_at hl 0 rfl) ?_
    refine z_Vv (bc := [[(rd, .inr (7, [.ref rl, .ref rdd, .ref rg, .int u0_80, .int u1_81, .ref tp, .int r2, .int r3, .int r4, .int r5, .int r6, .int r7, .int r8]))], [(tp, .inl (T.2 1, 600, .inl ft))]]) (br := [[(rdd, .inr (2, [.int dd, .ref a1_1, .ref a2_2, .ref a3_3]))], [(a1_1, .inl (T.2 0, 40, .inl d1))], [(a2_2, .inl (T.2 0, 40, .inl d2))], [(a3_3, .inl (T.2 0, 40, .inl d3))]]) (As := []) (rest := []) C G (c_nextToken l T rd rl rdd rg tp u0_80 u1_81 r2 r3 r4 r5 r6 r7 r8 ft (by first | assumption | omega | rfl)) (kV_RX7_71 C.2.2.2.2 (Nat.le_of_ble_eq_true rfl) (Nat.le_of_ble_eq_true rfl)) [5, 0] [1, 2, 3, 4] rfl rfl (ci := 7) (qc := (RX7, TX7, 13)) rfl rfl (List.mem_flatten.mpr ⟨_, List.mem_of_getElem? (i := 0) rfl, List.mem_cons_self⟩) rfl rfl hl.1 dX7_readDeed_22 (Nat.le_of_ble_eq_true rfl) (Nat.le_of_ble_eq_true rfl) (fun b1 H locs hw G => ?_)
    obtain ⟨u3_83, u4_84, u5_85, u6_86, rfl, h_87, h_88⟩ := hw
    have G : zS T A s.heap s [[(rdd, .inr (2, [.int dd, .ref a1_1, .ref a2_2, .ref a3_3]))], [(a1_1, .inl (T.2 0, 40, .inl d1))], [(a2_2, .inl (T.2 0, 40, .inl d2))], [(a3_3, .inl (T.2 0, 40, .inl d3))], [(rd, .inr (7, [.ref rl, .ref rdd, .ref rg, .int u0_80, .int u1_81, .ref tp, .int r2, .int u3_83, .int u4_84, .int u5_85, .int u6_86, .int r7, .int r8]))], [(tp, .inl (T.2 1, 600, .inl ft))]] _ _ := G
    refine lv_aload_n hx hb dX7_readDeed_25 rfl (lv_at hl 0 rfl) ?_
    refine lv_bipush (v := 6) hx hb dX7_readDeed_26 (by decide) ?_
    refine z_Vi (bc := [[(rd, .inr (7, [.ref rl, .ref rdd, .ref rg, .int u0_80, .int u1_81, .ref tp, .int r2, .int u3_83, .int u4_84, .int u5_85, .int u6_86, .int r7, .int r8]))], [(tp, .inl (T.2 1, 600, .inl ft))]]) (br := [[(rdd, .inr (2, [.int dd, .ref a1_1, .ref a2_2, .ref a3_3]))], [(a1_1, .inl (T.2 0, 40, .inl d1))], [(a2_2, .inl (T.2 0, 40, .inl d2))], [(a3_3, .inl (T.2 0, 40, .inl d3))]]) (As := [.int 6]) (rest := []) C G (c_readNumber l T rd rl rdd rg tp u0_80 u1_81 r2 u3_83 u4_84 u5_85 u6_86 r7 r8 ft 6 (by omega)) (kV_RX7_120 C.2.2.2.2 (Nat.le_of_ble_eq_true rfl) (Nat.le_of_ble_eq_true rfl)) [4, 5] [0, 1, 2, 3] rfl rfl (ci := 7) (qc := (RX7, TX7, 13)) rfl rfl (List.mem_flatten.mpr ⟨_, List.mem_of_getElem? (i := 0) rfl, List.mem_cons_self⟩) rfl rfl hl.1 dX7_readDeed_28 (Nat.le_of_ble_eq_true rfl) (Nat.le_of_ble_eq_true rfl) (fun r_99 b1 H locs hw G => ?_)
    obtain ⟨u0_90, u1_91, u3_92, u4_93, u5_94, u6_95, u7_96, rfl, h_97, h_98⟩ := hw
    have G : zS T A s.heap s [[(rdd, .inr (2, [.int dd, .ref a1_1, .ref a2_2, .ref a3_3]))], [(a1_1, .inl (T.2 0, 40, .inl d1))], [(a2_2, .inl (T.2 0, 40, .inl d2))], [(a3_3, .inl (T.2 0, 40, .inl d3))], [(rd, .inr (7, [.ref rl, .ref rdd, .ref rg, .int u0_90, .int u1_91, .ref tp, .int r2, .int u3_92, .int u4_93, .int u5_94, .int u6_95, .int u7_96, .int r8]))], [(tp, .inl (T.2 1, 600, .inl ft))]] _ _ := G
    refine lv_istore_n (lv' := [(2, .int r_99), (0, .ref rd), (1, .int x)]) hx hb dX7_readDeed_31 rfl hl (by decide) rfl (fun ls hl => ?_)
    refine lv_iload_n hx hb dX7_readDeed_32 rfl (lv_at hl 2 rfl) ?_
    refine lv_iconst (v := 4) hx hb dX7_readDeed_33 (by decide) ?_
    refine lv_icmp_eq (tgt := 42) hx hb dX7_readDeed_34 (by decide) (fun c_100 => ?_) (fun c_100 => ?_)
    · have c_100n : x.toInt = (4 : Int) := (fa_eq _ _).mp c_100
      refine lv_aload_n hx hb dX7_readDeed_42 rfl (lv_at hl 1 rfl) ?_
      refine lv_iconst (v := 3) hx hb dX7_readDeed_43 (by decide) ?_
      refine z_Vi (bc := [[(rd, .inr (7, [.ref rl, .ref rdd, .ref rg, .int u0_90, .int u1_91, .ref tp, .int r2, .int u3_92, .int u4_93, .int u5_94, .int u6_95, .int u7_96, .int r8]))], [(tp, .inl (T.2 1, 600, .inl ft))]]) (br := [[(rdd, .inr (2, [.int dd, .ref a1_1, .ref a2_2, .ref a3_3]))], [(a1_1, .inl (T.2 0, 40, .inl d1))], [(a2_2, .inl (T.2 0, 40, .inl d2))], [(a3_3, .inl (T.2 0, 40, .inl d3))]]) (As := [.int 3]) (rest := []) C G (c_readNumber l T rd rl rdd rg tp u0_90 u1_91 r2 u3_92 u4_93 u5_94 u6_95 u7_96 r8 ft 3 (by omega)) (kV_RX7_120 C.2.2.2.2 (Nat.le_of_ble_eq_true rfl) (Nat.le_of_ble_eq_true rfl)) [4, 5] [0, 1, 2, 3] rfl rfl (ci := 7) (qc := (RX7, TX7, 13)) rfl rfl (List.mem_flatten.mpr ⟨_, List.mem_of_getElem? (i := 0) rfl, List.mem_cons_self⟩) rfl rfl hl.1 dX7_readDeed_44 (Nat.le_of_ble_eq_true rfl) (Nat.le_of_ble_eq_true rfl) (fun r_110 b1 H locs hw G => ?_)
      obtain ⟨u0_101, u1_102, u3_103, u4_104, u5_105, u6_106, u7_107, rfl, h_108, h_109⟩ := hw
      have G : zS T A s.heap s [[(rdd, .inr (2, [.int dd, .ref a1_1, .ref a2_2, .ref a3_3]))], [(a1_1, .inl (T.2 0, 40, .inl d1))], [(a2_2, .inl (T.2 0, 40, .inl d2))], [(a3_3, .inl (T.2 0, 40, .inl d3))], [(rd, .inr (7, [.ref rl, .ref rdd, .ref rg, .int u0_101, .int u1_102, .ref tp, .int r2, .int u3_103, .int u4_104, .int u5_105, .int u6_106, .int u7_107, .int r8]))], [(tp, .inl (T.2 1, 600, .inl ft))]] _ _ := G
      refine lv_goto (tgt := 51) hx hb dX7_readDeed_47 (by decide) ?_
      refine lv_istore_n (lv' := [(3, .int r_110), (2, .int r_99), (0, .ref rd), (1, .int x)]) hx hb dX7_readDeed_51 rfl hl (by decide) rfl (fun ls hl => ?_)
      refine lv_aload_n hx hb dX7_readDeed_52 rfl (lv_at hl 2 rfl) ?_
      refine z_get C G clX7 4 rfl 1 (by decide) m_fl_RX7_21 rfl dX7_readDeed_53 ?_
      refine lv_iload_n hx hb dX7_readDeed_56 rfl (lv_at hl 3 rfl) ?_
      refine lv_iload_n hx hb dX7_readDeed_57 rfl (lv_at hl 1 rfl) ?_
      refine lv_iload_n hx hb dX7_readDeed_58 rfl (lv_at hl 0 rfl) ?_
      have hw_111 : bDay T rdd dd d1 d2 d3 [(rdd, .inr (2, [.int dd, .ref a1_1, .ref a2_2, .ref a3_3])), (a1_1, .inl (T.2 0, 40, .inl d1)), (a2_2, .inl (T.2 0, 40, .inl d2)), (a3_3, .inl (T.2 0, 40, .inl d3))] := ⟨a1_1, a2_2, a3_3, rfl⟩
      have G : zS T A s.heap s [[(rdd, .inr (2, [.int dd, .ref a1_1, .ref a2_2, .ref a3_3])), (a1_1, .inl (T.2 0, 40, .inl d1)), (a2_2, .inl (T.2 0, 40, .inl d2)), (a3_3, .inl (T.2 0, 40, .inl d3))], [(rd, .inr (7, [.ref rl, .ref rdd, .ref rg, .int u0_101, .int u1_102, .ref tp, .int r2, .int u3_103, .int u4_104, .int u5_105, .int u6_106, .int u7_107, .int r8]))], [(tp, .inl (T.2 1, 600, .inl ft))]] _ _ := G.re rfl
      refine z_Vv (bc := [[(rdd, .inr (2, [.int dd, .ref a1_1, .ref a2_2, .ref a3_3])), (a1_1, .inl (T.2 0, 40, .inl d1)), (a2_2, .inl (T.2 0, 40, .inl d2)), (a3_3, .inl (T.2 0, 40, .inl d3))]]) (br := [[(rd, .inr (7, [.ref rl, .ref rdd, .ref rg, .int u0_101, .int u1_102, .ref tp, .int r2, .int u3_103, .int u4_104, .int u5_105, .int u6_106, .int u7_107, .int r8]))], [(tp, .inl (T.2 1, 600, .inl ft))]]) (As := [.int x, .int r_99, .int r_110]) (rest := []) C G (c_Day_add l T rdd dd d1 d2 d3 ([(rdd, .inr (2, [.int dd, .ref a1_1, .ref a2_2, .ref a3_3])), (a1_1, .inl (T.2 0, 40, .inl d1)), (a2_2, .inl (T.2 0, 40, .inl d2)), (a3_3, .inl (T.2 0, 40, .inl d3))]) x r_99 r_110 hw_111) (kV_RX7_135 C.2.2.2.2 (Nat.le_of_ble_eq_true rfl) (Nat.le_of_ble_eq_true rfl)) [0] [1, 2] rfl rfl (ci := 2) (qc := (RX2, TX2, 4)) rfl rfl (List.mem_flatten.mpr ⟨_, List.mem_of_getElem? (i := 0) rfl, (bDay_mem hw_111).choose_spec⟩) rfl rfl hl.1 dX7_readDeed_59 (Nat.le_of_ble_eq_true rfl) (Nat.le_of_ble_eq_true rfl) (fun b1 H locs hw G => ?_)
      obtain ⟨w2_112, u_113, g1_114, g2_115, g3_116, rfl, h_117, h_118, h_119, h_120, h_121⟩ := hw
      have G : zS T A s.heap s [[(rd, .inr (7, [.ref rl, .ref rdd, .ref rg, .int u0_101, .int u1_102, .ref tp, .int r2, .int u3_103, .int u4_104, .int u5_105, .int u6_106, .int u7_107, .int r8]))], [(tp, .inl (T.2 1, 600, .inl ft))], w2_112] _ _ := G
      exact z_vret C hr hlocks G (Nat.le_of_ble_eq_true rfl) (Nat.le_of_ble_eq_true rfl) dX7_readDeed_62 ⟨u0_101, u1_102, u3_103, u4_104, u5_105, u6_106, u7_107, w2_112, u_113, g1_114, g2_115, g3_116, rfl, h_117, (by first | trivial | assumption | omega)⟩
    · have c_100n : ¬ x.toInt = (4 : Int) := fun q => c_100 ((fa_eq _ _).mpr q)
      refine lv_iload_n hx hb dX7_readDeed_37 rfl (lv_at hl 2 rfl) ?_
      refine lv_iconst (v := 5) hx hb dX7_readDeed_38 (by decide) ?_
      refine lv_icmp_ne (tgt := 50) hx hb dX7_readDeed_39 (by decide) (fun c_123 => ?_) (fun c_123 => ?_)
      · have c_123n : ¬ x.toInt = (5 : Int) := fun q => c_123 ((fa_eq _ _).mpr q)
        refine lv_iconst (v := (-1)) hx hb dX7_readDeed_50 (by decide) ?_
        refine lv_istore_n (lv' := [(3, .int (-1)), (2, .int r_99), (0, .ref rd), (1, .int x)]) hx hb dX7_readDeed_51 rfl hl (by decide) rfl (fun ls hl => ?_)
        refine lv_aload_n hx hb dX7_readDeed_52 rfl (lv_at hl 2 rfl) ?_
        refine z_get C G clX7 4 rfl 1 (by decide) m_fl_RX7_21 rfl dX7_readDeed_53 ?_
        refine lv_iload_n hx hb dX7_readDeed_56 rfl (lv_at hl 3 rfl) ?_
        refine lv_iload_n hx hb dX7_readDeed_57 rfl (lv_at hl 1 rfl) ?_
        refine lv_iload_n hx hb dX7_readDeed_58 rfl (lv_at hl 0 rfl) ?_
        have hw_124 : bDay T rdd dd d1 d2 d3 [(rdd, .inr (2, [.int dd, .ref a1_1, .ref a2_2, .ref a3_3])), (a1_1, .inl (T.2 0, 40, .inl d1)), (a2_2, .inl (T.2 0, 40, .inl d2)), (a3_3, .inl (T.2 0, 40, .inl d3))] := ⟨a1_1, a2_2, a3_3, rfl⟩
        have G : zS T A s.heap s [[(rdd, .inr (2, [.int dd, .ref a1_1, .ref a2_2, .ref a3_3])), (a1_1, .inl (T.2 0, 40, .inl d1)), (a2_2, .inl (T.2 0, 40, .inl d2)), (a3_3, .inl (T.2 0, 40, .inl d3))], [(rd, .inr (7, [.ref rl, .ref rdd, .ref rg, .int u0_90, .int u1_91, .ref tp, .int r2, .int u3_92, .int u4_93, .int u5_94, .int u6_95, .int u7_96, .int r8]))], [(tp, .inl (T.2 1, 600, .inl ft))]] _ _ := G.re rfl
        refine z_Vv (bc := [[(rdd, .inr (2, [.int dd, .ref a1_1, .ref a2_2, .ref a3_3])), (a1_1, .inl (T.2 0, 40, .inl d1)), (a2_2, .inl (T.2 0, 40, .inl d2)), (a3_3, .inl (T.2 0, 40, .inl d3))]]) (br := [[(rd, .inr (7, [.ref rl, .ref rdd, .ref rg, .int u0_90, .int u1_91, .ref tp, .int r2, .int u3_92, .int u4_93, .int u5_94, .int u6_95, .int u7_96, .int r8]))], [(tp, .inl (T.2 1, 600, .inl ft))]]) (As := [.int x, .int r_99, .int (-1)]) (rest := []) C G (c_Day_add l T rdd dd d1 d2 d3 ([(rdd, .inr (2, [.int dd, .ref a1_1, .ref a2_2, .ref a3_3])), (a1_1, .inl (T.2 0, 40, .inl d1)), (a2_2, .inl (T.2 0, 40, .inl d2)), (a3_3, .inl (T.2 0, 40, .inl d3))]) x r_99 (-1) hw_124) (kV_RX7_135 C.2.2.2.2 (Nat.le_of_ble_eq_true rfl) (Nat.le_of_ble_eq_true rfl)) [0] [1, 2] rfl rfl (ci := 2) (qc := (RX2, TX2, 4)) rfl rfl (List.mem_flatten.mpr ⟨_, List.mem_of_getElem? (i := 0) rfl, (bDay_mem hw_124).choose_spec⟩) rfl rfl hl.1 dX7_readDeed_59 (Nat.le_of_ble_eq_true rfl) (Nat.le_of_ble_eq_true rfl) (fun b1 H locs hw G => ?_)
        obtain ⟨w2_125, u_126, g1_127, g2_128, g3_129, rfl, h_130, h_131, h_132, h_133, h_134⟩ := hw
        have G : zS T A s.heap s [[(rd, .inr (7, [.ref rl, .ref rdd, .ref rg, .int u0_90, .int u1_91, .ref tp, .int r2, .int u3_92, .int u4_93, .int u5_94, .int u6_95, .int u7_96, .int r8]))], [(tp, .inl (T.2 1, 600, .inl ft))], w2_125] _ _ := G
        exact z_vret C hr hlocks G (Nat.le_of_ble_eq_true rfl) (Nat.le_of_ble_eq_true rfl) dX7_readDeed_62 ⟨u0_90, u1_91, u3_92, u4_93, u5_94, u6_95, u7_96, w2_125, u_126, g1_127, g2_128, g3_129, rfl, h_130, (by first | trivial | assumption | omega)⟩
      · have c_123n : x.toInt = (5 : Int) := (fa_eq _ _).mp c_123
        refine lv_aload_n hx hb dX7_readDeed_42 rfl (lv_at hl 1 rfl) ?_
        refine lv_iconst (v := 3) hx hb dX7_readDeed_43 (by decide) ?_
        refine z_Vi (bc := [[(rd, .inr (7, [.ref rl, .ref rdd, .ref rg, .int u0_90, .int u1_91, .ref tp, .int r2, .int u3_92, .int u4_93, .int u5_94, .int u6_95, .int u7_96, .int r8]))], [(tp, .inl (T.2 1, 600, .inl ft))]]) (br := [[(rdd, .inr (2, [.int dd, .ref a1_1, .ref a2_2, .ref a3_3]))], [(a1_1, .inl (T.2 0, 40, .inl d1))], [(a2_2, .inl (T.2 0, 40, .inl d2))], [(a3_3, .inl (T.2 0, 40, .inl d3))]]) (As := [.int 3]) (rest := []) C G (c_readNumber l T rd rl rdd rg tp u0_90 u1_91 r2 u3_92 u4_93 u5_94 u6_95 u7_96 r8 ft 3 (by omega)) (kV_RX7_120 C.2.2.2.2 (Nat.le_of_ble_eq_true rfl) (Nat.le_of_ble_eq_true rfl)) [4, 5] [0, 1, 2, 3] rfl rfl (ci := 7) (qc := (RX7, TX7, 13)) rfl rfl (List.mem_flatten.mpr ⟨_, List.mem_of_getElem? (i := 0) rfl, List.mem_cons_self⟩) rfl rfl hl.1 dX7_readDeed_44 (Nat.le_of_ble_eq_true rfl) (Nat.le_of_ble_eq_true rfl) (fun r_145 b1 H locs hw G => ?_)
        obtain ⟨u0_136, u1_137, u3_138, u4_139, u5_140, u6_141, u7_142, rfl, h_143, h_144⟩ := hw
        have G : zS T A s.heap s [[(rdd, .inr (2, [.int dd, .ref a1_1, .ref a2_2, .ref a3_3]))], [(a1_1, .inl (T.2 0, 40, .inl d1))], [(a2_2, .inl (T.2 0, 40, .inl d2))], [(a3_3, .inl (T.2 0, 40, .inl d3))], [(rd, .inr (7, [.ref rl, .ref rdd, .ref rg, .int u0_136, .int u1_137, .ref tp, .int r2, .int u3_138, .int u4_139, .int u5_140, .int u6_141, .int u7_142, .int r8]))], [(tp, .inl (T.2 1, 600, .inl ft))]] _ _ := G
        refine lv_goto (tgt := 51) hx hb dX7_readDeed_47 (by decide) ?_
        refine lv_istore_n (lv' := [(3, .int r_145), (2, .int r_99), (0, .ref rd), (1, .int x)]) hx hb dX7_readDeed_51 rfl hl (by decide) rfl (fun ls hl => ?_)
        refine lv_aload_n hx hb dX7_readDeed_52 rfl (lv_at hl 2 rfl) ?_
        refine z_get C G clX7 4 rfl 1 (by decide) m_fl_RX7_21 rfl dX7_readDeed_53 ?_
        refine lv_iload_n hx hb dX7_readDeed_56 rfl (lv_at hl 3 rfl) ?_
        refine lv_iload_n hx hb dX7_readDeed_57 rfl (lv_at hl 1 rfl) ?_
        refine lv_iload_n hx hb dX7_readDeed_58 rfl (lv_at hl 0 rfl) ?_
        have hw_146 : bDay T rdd dd d1 d2 d3 [(rdd, .inr (2, [.int dd, .ref a1_1, .ref a2_2, .ref a3_3])), (a1_1, .inl (T.2 0, 40, .inl d1)), (a2_2, .inl (T.2 0, 40, .inl d2)), (a3_3, .inl (T.2 0, 40, .inl d3))] := ⟨a1_1, a2_2, a3_3, rfl⟩
        have G : zS T A s.heap s [[(rdd, .inr (2, [.int dd, .ref a1_1, .ref a2_2, .ref a3_3])), (a1_1, .inl (T.2 0, 40, .inl d1)), (a2_2, .inl (T.2 0, 40, .inl d2)), (a3_3, .inl (T.2 0, 40, .inl d3))], [(rd, .inr (7, [.ref rl, .ref rdd, .ref rg, .int u0_136, .int u1_137, .ref tp, .int r2, .int u3_138, .int u4_139, .int u5_140, .int u6_141, .int u7_142, .int r8]))], [(tp, .inl (T.2 1, 600, .inl ft))]] _ _ := G.re rfl
        refine z_Vv (bc := [[(rdd, .inr (2, [.int dd, .ref a1_1, .ref a2_2, .ref a3_3])), (a1_1, .inl (T.2 0, 40, .inl d1)), (a2_2, .inl (T.2 0, 40, .inl d2)), (a3_3, .inl (T.2 0, 40, .inl d3))]]) (br := [[(rd, .inr (7, [.ref rl, .ref rdd, .ref rg, .int u0_136, .int u1_137, .ref tp, .int r2, .int u3_138, .int u4_139, .int u5_140, .int u6_141, .int u7_142, .int r8]))], [(tp, .inl (T.2 1, 600, .inl ft))]]) (As := [.int x, .int r_99, .int r_145]) (rest := []) C G (c_Day_add l T rdd dd d1 d2 d3 ([(rdd, .inr (2, [.int dd, .ref a1_1, .ref a2_2, .ref a3_3])), (a1_1, .inl (T.2 0, 40, .inl d1)), (a2_2, .inl (T.2 0, 40, .inl d2)), (a3_3, .inl (T.2 0, 40, .inl d3))]) x r_99 r_145 hw_146) (kV_RX7_135 C.2.2.2.2 (Nat.le_of_ble_eq_true rfl) (Nat.le_of_ble_eq_true rfl)) [0] [1, 2] rfl rfl (ci := 2) (qc := (RX2, TX2, 4)) rfl rfl (List.mem_flatten.mpr ⟨_, List.mem_of_getElem? (i := 0) rfl, (bDay_mem hw_146).choose_spec⟩) rfl rfl hl.1 dX7_readDeed_59 (Nat.le_of_ble_eq_true rfl) (Nat.le_of_ble_eq_true rfl) (fun b1 H locs hw G => ?_)
        obtain ⟨w2_147, u_148, g1_149, g2_150, g3_151, rfl, h_152, h_153, h_154, h_155, h_156⟩ := hw
        have G : zS T A s.heap s [[(rd, .inr (7, [.ref rl, .ref rdd, .ref rg, .int u0_136, .int u1_137, .ref tp, .int r2, .int u3_138, .int u4_139, .int u5_140, .int u6_141, .int u7_142, .int r8]))], [(tp, .inl (T.2 1, 600, .inl ft))], w2_147] _ _ := G
        exact z_vret C hr hlocks G (Nat.le_of_ble_eq_true rfl) (Nat.le_of_ble_eq_true rfl) dX7_readDeed_62 ⟨u0_136, u1_137, u3_138, u4_139, u5_140, u6_141, u7_142, w2_147, u_148, g1_149, g2_150, g3_151, rfl, h_152, (by first | trivial | assumption | omega)⟩
set_option maxHeartbeats 4000000 in
set_option maxRecDepth 100000 in
/-- c_readFact -/
theorem c_readFact (l : Launch) (T : zTy) (rd : Nat) (rl : Nat) (rdd : Nat) (rg : Nat) (tp : Nat) (r0 : Int32) (r1 : Int32) (r2 : Int32) (r3 : Int32) (r4 : Int32) (r5 : Int32) (r6 : Int32) (r7 : Int32) (r8 : Int32) (ft : Nat → Int32) (gg : Int32) (e1 : Nat → Int32) (e2 : Nat → Int32) (wg : va_W) (x : Int32) (hR : (0 ≤ r2.toInt ∧ r2.toInt ≤ 600) ∧ (0 ≤ r3.toInt ∧ r3.toInt ≤ r2.toInt) ∧ (0 ≤ r5.toInt ∧ r5.toInt ≤ 600) ∧ 0 ≤ r6.toInt ∧ r6.toInt ≤ 1000) (hg : bLog T rg gg e1 e2 wg) : zMv l T yX7_readFact cX7_readFact 4 5 0 0 [.ref rd, .int x] [[(rd, .inr (7, [.ref rl, .ref rdd, .ref rg, .int r0, .int r1, .ref tp, .int r2, .int r3, .int r4, .int r5, .int r6, .int r7, .int r8]))], [(tp, .inl (T.2 1, 600, .inl ft))], wg] (fun bs => ∃ (u0 : Int32) (u1 : Int32) (u3 : Int32) (u4 : Int32) (u5 : Int32) (u6 : Int32) (u7 : Int32) (wg2 : va_W) (gg2 : Int32) (b1 : Nat → Int32) (b2 : Nat → Int32), bs = [[(rd, .inr (7, [.ref rl, .ref rdd, .ref rg, .int u0, .int u1, .ref tp, .int r2, .int u3, .int u4, .int u5, .int u6, .int u7, .int r8]))], [(tp, .inl (T.2 1, 600, .inl ft))], wg2] ∧ bLog T rg gg2 b1 b2 wg2 ∧ (0 ≤ r2.toInt ∧ r2.toInt ≤ 600) ∧ (0 ≤ u3.toInt ∧ u3.toInt ≤ r2.toInt) ∧ (0 ≤ u5.toInt ∧ u5.toInt ≤ 600) ∧ 0 ≤ u6.toInt ∧ u6.toInt ≤ 1000) := by
  refine zMv_of (own := RX7) (by decide) rfl (Nat.le_of_ble_eq_true rfl) ?_
  intro p e s m args below meth c A ls C hr hlocks hnm hAe G hl
  have hx := C.1
  have hb := C.2.1
  have hl : lv_has ls 4 [(0, .ref rd), (1, .int x)] := hl
  refine lv_aload_n hx hb dX7_readFact_0 rfl (lv_at hl 0 rfl) ?_
  refine z_get C G clX7 0 rfl 2 (by decide) m_fl_RX7_28 rfl dX7_readFact_1 ?_
  obtain ⟨a1_1, a2_2, rfl⟩ := hg
  have G : zS T A s.heap s [[(rd, .inr (7, [.ref rl, .ref rdd, .ref rg, .int r0, .int r1, .ref tp, .int r2, .int r3, .int r4, .int r5, .int r6, .int r7, .int r8]))], [(tp, .inl (T.2 1, 600, .inl ft))], [(rg, .inr (5, [.int gg, .ref a1_1, .ref a2_2]))], [(a1_1, .inl (T.2 0, 8, .inl e1))], [(a2_2, .inl (T.2 0, 8, .inl e2))]] _ _ := G.re rfl
  refine z_get C G clX5 2 rfl 0 (by decide) m_fl_RX7_68 rfl dX7_readFact_4 ?_
  refine lv_bipush (v := 8) hx hb dX7_readFact_7 (by decide) ?_
  refine lv_icmp_lt (tgt := 21) hx hb dX7_readFact_9 (by decide) (fun c_3 => ?_) (fun c_3 => ?_)
  · have c_3n : gg.toInt < (8 : Int) := (fa_lt _ _).mp c_3
    refine lv_aload_n hx hb dX7_readFact_21 rfl (lv_at hl 0 rfl) ?_
    refine z_Vv (bc := [[(rd, .inr (7, [.ref rl, .ref rdd, .ref rg, .int r0, .int r1, .ref tp, .int r2, .int r3, .int r4, .int r5, .int r6, .int r7, .int r8]))], [(tp, .inl (T.2 1, 600, .inl ft))]]) (br := [[(rg, .inr (5, [.int gg, .ref a1_1, .ref a2_2]))], [(a1_1, .inl (T.2 0, 8, .inl e1))], [(a2_2, .inl (T.2 0, 8, .inl e2))]]) (As := []) (rest := []) C G (c_nextToken l T rd rl rdd rg tp r0 r1 r2 r3 r4 r5 r6 r7 r8 ft (by first | assumption | omega | rfl)) (kV_RX7_71 C.2.2.2.2 (Nat.le_of_ble_eq_true rfl) (Nat.le_of_ble_eq_true rfl)) [0, 1] [2, 3, 4] rfl rfl (ci := 7) (qc := (RX7, TX7, 13)) rfl rfl (List.mem_flatten.mpr ⟨_, List.mem_of_getElem? (i := 0) rfl, List.mem_cons_self⟩) rfl rfl hl.1 dX7_readFact_22 (Nat.le_of_ble_eq_true rfl) (Nat.le_of_ble_eq_true rfl) (fun b1 H locs hw G => ?_)
    obtain ⟨u3_4, u4_5, u5_6, u6_7, rfl, h_8, h_9⟩ := hw
    have G : zS T A s.heap s [[(rg, .inr (5, [.int gg, .ref a1_1, .ref a2_2]))], [(a1_1, .inl (T.2 0, 8, .inl e1))], [(a2_2, .inl (T.2 0, 8, .inl e2))], [(rd, .inr (7, [.ref rl, .ref rdd, .ref rg, .int r0, .int r1, .ref tp, .int r2, .int u3_4, .int u4_5, .int u5_6, .int u6_7, .int r7, .int r8]))], [(tp, .inl (T.2 1, 600, .inl ft))]] _ _ := G
    refine lv_aload_n hx hb dX7_readFact_25 rfl (lv_at hl 0 rfl) ?_
    refine lv_bipush (v := 6) hx hb dX7_readFact_26 (by decide) ?_
    refine z_Vi (bc := [[(rd, .inr (7, [.ref rl, .ref rdd, .ref rg, .int r0, .int r1, .ref tp, .int r2, .int u3_4, .int u4_5, .int u5_6, .int u6_7, .int r7, .int r8]))], [(tp, .inl (T.2 1, 600, .inl ft))]]) (br := [[(rg, .inr (5, [.int gg, .ref a1_1, .ref a2_2]))], [(a1_1, .inl (T.2 0, 8, .inl e1))], [(a2_2, .inl (T.2 0, 8, .inl e2))]]) (As := [.int 6]) (rest := []) C G (c_readNumber l T rd rl rdd rg tp r0 r1 r2 u3_4 u4_5 u5_6 u6_7 r7 r8 ft 6 (by omega)) (kV_RX7_120 C.2.2.2.2 (Nat.le_of_ble_eq_true rfl) (Nat.le_of_ble_eq_true rfl)) [3, 4] [0, 1, 2] rfl rfl (ci := 7) (qc := (RX7, TX7, 13)) rfl rfl (List.mem_flatten.mpr ⟨_, List.mem_of_getElem? (i := 0) rfl, List.mem_cons_self⟩) rfl rfl hl.1 dX7_readFact_28 (Nat.le_of_ble_eq_true rfl) (Nat.le_of_ble_eq_true rfl) (fun r_20 b1 H locs hw G => ?_)
    obtain ⟨u0_11, u1_12, u3_13, u4_14, u5_15, u6_16, u7_17, rfl, h_18, h_19⟩ := hw
    have G : zS T A s.heap s [[(rg, .inr (5, [.int gg, .ref a1_1, .ref a2_2]))], [(a1_1, .inl (T.2 0, 8, .inl e1))], [(a2_2, .inl (T.2 0, 8, .inl e2))], [(rd, .inr (7, [.ref rl, .ref rdd, .ref rg, .int u0_11, .int u1_12, .ref tp, .int r2, .int u3_13, .int u4_14, .int u5_15, .int u6_16, .int u7_17, .int r8]))], [(tp, .inl (T.2 1, 600, .inl ft))]] _ _ := G
    refine lv_istore_n (lv' := [(2, .int r_20), (0, .ref rd), (1, .int x)]) hx hb dX7_readFact_31 rfl hl (by decide) rfl (fun ls hl => ?_)
    refine lv_iload_n hx hb dX7_readFact_32 rfl (lv_at hl 2 rfl) ?_
    refine lv_if_ne (tgt := 45) hx hb dX7_readFact_33 (by decide) (fun c_21 => ?_) (fun c_21 => ?_)
    · have c_21n : ¬ x.toInt = (0 : Int) := fun q => c_21 ((fa_eq _ _).mpr q)
      refine lv_iconst (v := (-1)) hx hb dX7_readFact_45 (by decide) ?_
      refine lv_istore_n (lv' := [(3, .int (-1)), (2, .int r_20), (0, .ref rd), (1, .int x)]) hx hb dX7_readFact_46 rfl hl (by decide) rfl (fun ls hl => ?_)
      refine lv_aload_n hx hb dX7_readFact_47 rfl (lv_at hl 2 rfl) ?_
      refine z_get C G clX7 3 rfl 2 (by decide) m_fl_RX7_28 rfl dX7_readFact_48 ?_
      refine lv_iload_n hx hb dX7_readFact_51 rfl (lv_at hl 1 rfl) ?_
      refine lv_iload_n hx hb dX7_readFact_52 rfl (lv_at hl 0 rfl) ?_
      have hw_22 : bLog T rg gg e1 e2 [(rg, .inr (5, [.int gg, .ref a1_1, .ref a2_2])), (a1_1, .inl (T.2 0, 8, .inl e1)), (a2_2, .inl (T.2 0, 8, .inl e2))] := ⟨a1_1, a2_2, rfl⟩
      have G : zS T A s.heap s [[(rg, .inr (5, [.int gg, .ref a1_1, .ref a2_2])), (a1_1, .inl (T.2 0, 8, .inl e1)), (a2_2, .inl (T.2 0, 8, .inl e2))], [(rd, .inr (7, [.ref rl, .ref rdd, .ref rg, .int u0_11, .int u1_12, .ref tp, .int r2, .int u3_13, .int u4_14, .int u5_15, .int u6_16, .int u7_17, .int r8]))], [(tp, .inl (T.2 1, 600, .inl ft))]] _ _ := G.re rfl
      refine z_Vv (bc := [[(rg, .inr (5, [.int gg, .ref a1_1, .ref a2_2])), (a1_1, .inl (T.2 0, 8, .inl e1)), (a2_2, .inl (T.2 0, 8, .inl e2))]]) (br := [[(rd, .inr (7, [.ref rl, .ref rdd, .ref rg, .int u0_11, .int u1_12, .ref tp, .int r2, .int u3_13, .int u4_14, .int u5_15, .int u6_16, .int u7_17, .int r8]))], [(tp, .inl (T.2 1, 600, .inl ft))]]) (As := [.int r_20, .int (-1)]) (rest := []) C G (c_Log_add l T rg gg e1 e2 ([(rg, .inr (5, [.int gg, .ref a1_1, .ref a2_2])), (a1_1, .inl (T.2 0, 8, .inl e1)), (a2_2, .inl (T.2 0, 8, .inl e2))]) r_20 (-1) hw_22) (kV_RX7_139 C.2.2.2.2 (Nat.le_of_ble_eq_true rfl) (Nat.le_of_ble_eq_true rfl)) [0] [1, 2] rfl rfl (ci := 5) (qc := (RX5, TX5, 3)) rfl rfl (List.mem_flatten.mpr ⟨_, List.mem_of_getElem? (i := 0) rfl, (bLog_mem hw_22).choose_spec⟩) rfl rfl hl.1 dX7_readFact_53 (Nat.le_of_ble_eq_true rfl) (Nat.le_of_ble_eq_true rfl) (fun b1 H locs hw G => ?_)
      obtain ⟨w2_23, u_24, g1_25, g2_26, rfl, h_27, h_28, h_29, h_30⟩ := hw
      have G : zS T A s.heap s [[(rd, .inr (7, [.ref rl, .ref rdd, .ref rg, .int u0_11, .int u1_12, .ref tp, .int r2, .int u3_13, .int u4_14, .int u5_15, .int u6_16, .int u7_17, .int r8]))], [(tp, .inl (T.2 1, 600, .inl ft))], w2_23] _ _ := G
      exact z_vret C hr hlocks G (Nat.le_of_ble_eq_true rfl) (Nat.le_of_ble_eq_true rfl) dX7_readFact_56 ⟨u0_11, u1_12, u3_13, u4_14, u5_15, u6_16, u7_17, w2_23, u_24, g1_25, g2_26, rfl, h_27, (by first | trivial | assumption | omega)⟩
    · have c_21n : x.toInt = (0 : Int) := (fa_eq _ _).mp c_21
      refine lv_aload_n hx hb dX7_readFact_36 rfl (lv_at hl 1 rfl) ?_
      refine lv_bipush (v := 6) hx hb dX7_readFact_37 (by decide) ?_
      refine z_Vi (bc := [[(rd, .inr (7, [.ref rl, .ref rdd, .ref rg, .int u0_11, .int u1_12, .ref tp, .int r2, .int u3_13, .int u4_14, .int u5_15, .int u6_16, .int u7_17, .int r8]))], [(tp, .inl (T.2 1, 600, .inl ft))]]) (br := [[(rg, .inr (5, [.int gg, .ref a1_1, .ref a2_2]))], [(a1_1, .inl (T.2 0, 8, .inl e1))], [(a2_2, .inl (T.2 0, 8, .inl e2))]]) (As := [.int 6]) (rest := []) C G (c_readNumber l T rd rl rdd rg tp u0_11 u1_12 r2 u3_13 u4_14 u5_15 u6_16 u7_17 r8 ft 6 (by omega)) (kV_RX7_120 C.2.2.2.2 (Nat.le_of_ble_eq_true rfl) (Nat.le_of_ble_eq_true rfl)) [3, 4] [0, 1, 2] rfl rfl (ci := 7) (qc := (RX7, TX7, 13)) rfl rfl (List.mem_flatten.mpr ⟨_, List.mem_of_getElem? (i := 0) rfl, List.mem_cons_self⟩) rfl rfl hl.1 dX7_readFact_39 (Nat.le_of_ble_eq_true rfl) (Nat.le_of_ble_eq_true rfl) (fun r_41 b1 H locs hw G => ?_)
      obtain ⟨u0_32, u1_33, u3_34, u4_35, u5_36, u6_37, u7_38, rfl, h_39, h_40⟩ := hw
      have G : zS T A s.heap s [[(rg, .inr (5, [.int gg, .ref a1_1, .ref a2_2]))], [(a1_1, .inl (T.2 0, 8, .inl e1))], [(a2_2, .inl (T.2 0, 8, .inl e2))], [(rd, .inr (7, [.ref rl, .ref rdd, .ref rg, .int u0_32, .int u1_33, .ref tp, .int r2, .int u3_34, .int u4_35, .int u5_36, .int u6_37, .int u7_38, .int r8]))], [(tp, .inl (T.2 1, 600, .inl ft))]] _ _ := G
      refine lv_goto (tgt := 46) hx hb dX7_readFact_42 (by decide) ?_
      refine lv_istore_n (lv' := [(3, .int r_41), (2, .int r_20), (0, .ref rd), (1, .int x)]) hx hb dX7_readFact_46 rfl hl (by decide) rfl (fun ls hl => ?_)
      refine lv_aload_n hx hb dX7_readFact_47 rfl (lv_at hl 2 rfl) ?_
      refine z_get C G clX7 3 rfl 2 (by decide) m_fl_RX7_28 rfl dX7_readFact_48 ?_
      refine lv_iload_n hx hb dX7_readFact_51 rfl (lv_at hl 1 rfl) ?_
      refine lv_iload_n hx hb dX7_readFact_52 rfl (lv_at hl 0 rfl) ?_
      have hw_42 : bLog T rg gg e1 e2 [(rg, .inr (5, [.int gg, .ref a1_1, .ref a2_2])), (a1_1, .inl (T.2 0, 8, .inl e1)), (a2_2, .inl (T.2 0, 8, .inl e2))] := ⟨a1_1, a2_2, rfl⟩
      have G : zS T A s.heap s [[(rg, .inr (5, [.int gg, .ref a1_1, .ref a2_2])), (a1_1, .inl (T.2 0, 8, .inl e1)), (a2_2, .inl (T.2 0, 8, .inl e2))], [(rd, .inr (7, [.ref rl, .ref rdd, .ref rg, .int u0_32, .int u1_33, .ref tp, .int r2, .int u3_34, .int u4_35, .int u5_36, .int u6_37, .int u7_38, .int r8]))], [(tp, .inl (T.2 1, 600, .inl ft))]] _ _ := G.re rfl
      refine z_Vv (bc := [[(rg, .inr (5, [.int gg, .ref a1_1, .ref a2_2])), (a1_1, .inl (T.2 0, 8, .inl e1)), (a2_2, .inl (T.2 0, 8, .inl e2))]]) (br := [[(rd, .inr (7, [.ref rl, .ref rdd, .ref rg, .int u0_32, .int u1_33, .ref tp, .int r2, .int u3_34, .int u4_35, .int u5_36, .int u6_37, .int u7_38, .int r8]))], [(tp, .inl (T.2 1, 600, .inl ft))]]) (As := [.int r_20, .int r_41]) (rest := []) C G (c_Log_add l T rg gg e1 e2 ([(rg, .inr (5, [.int gg, .ref a1_1, .ref a2_2])), (a1_1, .inl (T.2 0, 8, .inl e1)), (a2_2, .inl (T.2 0, 8, .inl e2))]) r_20 r_41 hw_42) (kV_RX7_139 C.2.2.2.2 (Nat.le_of_ble_eq_true rfl) (Nat.le_of_ble_eq_true rfl)) [0] [1, 2] rfl rfl (ci := 5) (qc := (RX5, TX5, 3)) rfl rfl (List.mem_flatten.mpr ⟨_, List.mem_of_getElem? (i := 0) rfl, (bLog_mem hw_42).choose_spec⟩) rfl rfl hl.1 dX7_readFact_53 (Nat.le_of_ble_eq_true rfl) (Nat.le_of_ble_eq_true rfl) (fun b1 H locs hw G => ?_)
      obtain ⟨w2_43, u_44, g1_45, g2_46, rfl, h_47, h_48, h_49, h_50⟩ := hw
      have G : zS T A s.heap s [[(rd, .inr (7, [.ref rl, .ref rdd, .ref rg, .int u0_32, .int u1_33, .ref tp, .int r2, .int u3_34, .int u4_35, .int u5_36, .int u6_37, .int u7_38, .int r8]))], [(tp, .inl (T.2 1, 600, .inl ft))], w2_43] _ _ := G
      exact z_vret C hr hlocks G (Nat.le_of_ble_eq_true rfl) (Nat.le_of_ble_eq_true rfl) dX7_readFact_56 ⟨u0_32, u1_33, u3_34, u4_35, u5_36, u6_37, u7_38, w2_43, u_44, g1_45, g2_46, rfl, h_47, (by first | trivial | assumption | omega)⟩
  · have c_3n : ¬ gg.toInt < (8 : Int) := fun q => c_3 ((fa_lt _ _).mpr q)
    refine lv_aload_n hx hb dX7_readFact_12 rfl (lv_at hl 0 rfl) ?_
    refine lv_iconst (v := 3) hx hb dX7_readFact_13 (by decide) ?_
    refine lv_aload_n hx hb dX7_readFact_14 rfl (lv_at hl 0 rfl) ?_
    refine z_get C G clX7 0 rfl 9 (by decide) m_fl_RX7_84 rfl dX7_readFact_15 ?_
    refine z_Vv (bc := [[(rd, .inr (7, [.ref rl, .ref rdd, .ref rg, .int r0, .int r1, .ref tp, .int r2, .int r3, .int r4, .int r5, .int r6, .int r7, .int r8]))]]) (br := [[(tp, .inl (T.2 1, 600, .inl ft))], [(rg, .inr (5, [.int gg, .ref a1_1, .ref a2_2]))], [(a1_1, .inl (T.2 0, 8, .inl e1))], [(a2_2, .inl (T.2 0, 8, .inl e2))]]) (As := [.int 3, .int r5]) (rest := []) C G (c_note l T rd rl rdd rg tp r0 r1 r2 r3 r4 r5 r6 r7 r8 3 r5) (kV_RX7_90 C.2.2.2.2 (Nat.le_of_ble_eq_true rfl) (Nat.le_of_ble_eq_true rfl)) [0] [1, 2, 3, 4] rfl rfl (ci := 7) (qc := (RX7, TX7, 13)) rfl rfl (List.mem_flatten.mpr ⟨_, List.mem_of_getElem? (i := 0) rfl, List.mem_cons_self⟩) rfl rfl hl.1 dX7_readFact_18 (Nat.le_of_ble_eq_true rfl) (Nat.le_of_ble_eq_true rfl) (fun b1 H locs hw G => ?_)
    obtain ⟨u0_52, u1_53, rfl⟩ := hw
    have G : zS T A s.heap s [[(tp, .inl (T.2 1, 600, .inl ft))], [(rg, .inr (5, [.int gg, .ref a1_1, .ref a2_2]))], [(a1_1, .inl (T.2 0, 8, .inl e1))], [(a2_2, .inl (T.2 0, 8, .inl e2))], [(rd, .inr (7, [.ref rl, .ref rdd, .ref rg, .int u0_52, .int u1_53, .ref tp, .int r2, .int r3, .int r4, .int r5, .int r6, .int r7, .int r8]))]] _ _ := G
    refine lv_aload_n hx hb dX7_readFact_21 rfl (lv_at hl 0 rfl) ?_
    refine z_Vv (bc := [[(rd, .inr (7, [.ref rl, .ref rdd, .ref rg, .int u0_52, .int u1_53, .ref tp, .int r2, .int r3, .int r4, .int r5, .int r6, .int r7, .int r8]))], [(tp, .inl (T.2 1, 600, .inl ft))]]) (br := [[(rg, .inr (5, [.int gg, .ref a1_1, .ref a2_2]))], [(a1_1, .inl (T.2 0, 8, .inl e1))], [(a2_2, .inl (T.2 0, 8, .inl e2))]]) (As := []) (rest := []) C G (c_nextToken l T rd rl rdd rg tp u0_52 u1_53 r2 r3 r4 r5 r6 r7 r8 ft (by first | assumption | omega | rfl)) (kV_RX7_71 C.2.2.2.2 (Nat.le_of_ble_eq_true rfl) (Nat.le_of_ble_eq_true rfl)) [4, 0] [1, 2, 3] rfl rfl (ci := 7) (qc := (RX7, TX7, 13)) rfl rfl (List.mem_flatten.mpr ⟨_, List.mem_of_getElem? (i := 0) rfl, List.mem_cons_self⟩) rfl rfl hl.1 dX7_readFact_22 (Nat.le_of_ble_eq_true rfl) (Nat.le_of_ble_eq_true rfl) (fun b1 H locs hw G => ?_)
    obtain ⟨u3_55, u4_56, u5_57, u6_58, rfl, h_59, h_60⟩ := hw
    have G : zS T A s.heap s [[(rg, .inr (5, [.int gg, .ref a1_1, .ref a2_2]))], [(a1_1, .inl (T.2 0, 8, .inl e1))], [(a2_2, .inl (T.2 0, 8, .inl e2))], [(rd, .inr (7, [.ref rl, .ref rdd, .ref rg, .int u0_52, .int u1_53, .ref tp, .int r2, .int u3_55, .int u4_56, .int u5_57, .int u6_58, .int r7, .int r8]))], [(tp, .inl (T.2 1, 600, .inl ft))]] _ _ := G
    refine lv_aload_n hx hb dX7_readFact_25 rfl (lv_at hl 0 rfl) ?_
    refine lv_bipush (v := 6) hx hb dX7_readFact_26 (by decide) ?_
    refine z_Vi (bc := [[(rd, .inr (7, [.ref rl, .ref rdd, .ref rg, .int u0_52, .int u1_53, .ref tp, .int r2, .int u3_55, .int u4_56, .int u5_57, .int u6_58, .int r7, .int r8]))], [(tp, .inl (T.2 1, 600, .inl ft))]]) (br := [[(rg, .inr (5, [.int gg, .ref a1_1, .ref a2_2]))], [(a1_1, .inl (T.2 0, 8, .inl e1))], [(a2_2, .inl (T.2 0, 8, .inl e2))]]) (As := [.int 6]) (rest := []) C G (c_readNumber l T rd rl rdd rg tp u0_52 u1_53 r2 u3_55 u4_56 u5_57 u6_58 r7 r8 ft 6 (by omega)) (kV_RX7_120 C.2.2.2.2 (Nat.le_of_ble_eq_true rfl) (Nat.le_of_ble_eq_true rfl)) [3, 4] [0, 1, 2] rfl rfl (ci := 7) (qc := (RX7, TX7, 13)) rfl rfl (List.mem_flatten.mpr ⟨_, List.mem_of_getElem? (i := 0) rfl, List.mem_cons_self⟩) rfl rfl hl.1 dX7_readFact_28 (Nat.le_of_ble_eq_true rfl) (Nat.le_of_ble_eq_true rfl) (fun r_71 b1 H locs hw G => ?_)
    obtain ⟨u0_62, u1_63, u3_64, u4_65, u5_66, u6_67, u7_68, rfl, h_69, h_70⟩ := hw
    have G : zS T A s.heap s [[(rg, .inr (5, [.int gg, .ref a1_1, .ref a2_2]))], [(a1_1, .inl (T.2 0, 8, .inl e1))], [(a2_2, .inl (T.2 0, 8, .inl e2))], [(rd, .inr (7, [.ref rl, .ref rdd, .ref rg, .int u0_62, .int u1_63, .ref tp, .int r2, .int u3_64, .int u4_65, .int u5_66, .int u6_67, .int u7_68, .int r8]))], [(tp, .inl (T.2 1, 600, .inl ft))]] _ _ := G
    refine lv_istore_n (lv' := [(2, .int r_71), (0, .ref rd), (1, .int x)]) hx hb dX7_readFact_31 rfl hl (by decide) rfl (fun ls hl => ?_)
    refine lv_iload_n hx hb dX7_readFact_32 rfl (lv_at hl 2 rfl) ?_
    refine lv_if_ne (tgt := 45) hx hb dX7_readFact_33 (by decide) (fun c_72 => ?_) (fun c_72 => ?_)
    · have c_72n : ¬ x.toInt = (0 : Int) := fun q => c_72 ((fa_eq _ _).mpr q)
      refine lv_iconst (v := (-1)) hx hb dX7_readFact_45 (by decide) ?_
      refine lv_istore_n (lv' := [(3, .int (-1)), (2, .int r_71), (0, .ref rd), (1, .int x)]) hx hb dX7_readFact_46 rfl hl (by decide) rfl (fun ls hl => ?_)
      refine lv_aload_n hx hb dX7_readFact_47 rfl (lv_at hl 2 rfl) ?_
      refine z_get C G clX7 3 rfl 2 (by decide) m_fl_RX7_28 rfl dX7_readFact_48 ?_
      refine lv_iload_n hx hb dX7_readFact_51 rfl (lv_at hl 1 rfl) ?_
      refine lv_iload_n hx hb dX7_readFact_52 rfl (lv_at hl 0 rfl) ?_
      have hw_73 : bLog T rg gg e1 e2 [(rg, .inr (5, [.int gg, .ref a1_1, .ref a2_2])), (a1_1, .inl (T.2 0, 8, .inl e1)), (a2_2, .inl (T.2 0, 8, .inl e2))] := ⟨a1_1, a2_2, rfl⟩
      have G : zS T A s.heap s [[(rg, .inr (5, [.int gg, .ref a1_1, .ref a2_2])), (a1_1, .inl (T.2 0, 8, .inl e1)), (a2_2, .inl (T.2 0, 8, .inl e2))], [(rd, .inr (7, [.ref rl, .ref rdd, .ref rg, .int u0_62, .int u1_63, .ref tp, .int r2, .int u3_64, .int u4_65, .int u5_66, .int u6_67, .int u7_68, .int r8]))], [(tp, .inl (T.2 1, 600, .inl ft))]] _ _ := G.re rfl
      refine z_Vv (bc := [[(rg, .inr (5, [.int gg, .ref a1_1, .ref a2_2])), (a1_1, .inl (T.2 0, 8, .inl e1)), (a2_2, .inl (T.2 0, 8, .inl e2))]]) (br := [[(rd, .inr (7, [.ref rl, .ref rdd, .ref rg, .int u0_62, .int u1_63, .ref tp, .int r2, .int u3_64, .int u4_65, .int u5_66, .int u6_67, .int u7_68, .int r8]))], [(tp, .inl (T.2 1, 600, .inl ft))]]) (As := [.int r_71, .int (-1)]) (rest := []) C G (c_Log_add l T rg gg e1 e2 ([(rg, .inr (5, [.int gg, .ref a1_1, .ref a2_2])), (a1_1, .inl (T.2 0, 8, .inl e1)), (a2_2, .inl (T.2 0, 8, .inl e2))]) r_71 (-1) hw_73) (kV_RX7_139 C.2.2.2.2 (Nat.le_of_ble_eq_true rfl) (Nat.le_of_ble_eq_true rfl)) [0] [1, 2] rfl rfl (ci := 5) (qc := (RX5, TX5, 3)) rfl rfl (List.mem_flatten.mpr ⟨_, List.mem_of_getElem? (i := 0) rfl, (bLog_mem hw_73).choose_spec⟩) rfl rfl hl.1 dX7_readFact_53 (Nat.le_of_ble_eq_true rfl) (Nat.le_of_ble_eq_true rfl) (fun b1 H locs hw G => ?_)
      obtain ⟨w2_74, u_75, g1_76, g2_77, rfl, h_78, h_79, h_80, h_81⟩ := hw
      have G : zS T A s.heap s [[(rd, .inr (7, [.ref rl, .ref rdd, .ref rg, .int u0_62, .int u1_63, .ref tp, .int r2, .int u3_64, .int u4_65, .int u5_66, .int u6_67, .int u7_68, .int r8]))], [(tp, .inl (T.2 1, 600, .inl ft))], w2_74] _ _ := G
      exact z_vret C hr hlocks G (Nat.le_of_ble_eq_true rfl) (Nat.le_of_ble_eq_true rfl) dX7_readFact_56 ⟨u0_62, u1_63, u3_64, u4_65, u5_66, u6_67, u7_68, w2_74, u_75, g1_76, g2_77, rfl, h_78, (by first | trivial | assumption | omega)⟩
    · have c_72n : x.toInt = (0 : Int) := (fa_eq _ _).mp c_72
      refine lv_aload_n hx hb dX7_readFact_36 rfl (lv_at hl 1 rfl) ?_
      refine lv_bipush (v := 6) hx hb dX7_readFact_37 (by decide) ?_
      refine z_Vi (bc := [[(rd, .inr (7, [.ref rl, .ref rdd, .ref rg, .int u0_62, .int u1_63, .ref tp, .int r2, .int u3_64, .int u4_65, .int u5_66, .int u6_67, .int u7_68, .int r8]))], [(tp, .inl (T.2 1, 600, .inl ft))]]) (br := [[(rg, .inr (5, [.int gg, .ref a1_1, .ref a2_2]))], [(a1_1, .inl (T.2 0, 8, .inl e1))], [(a2_2, .inl (T.2 0, 8, .inl e2))]]) (As := [.int 6]) (rest := []) C G (c_readNumber l T rd rl rdd rg tp u0_62 u1_63 r2 u3_64 u4_65 u5_66 u6_67 u7_68 r8 ft 6 (by omega)) (kV_RX7_120 C.2.2.2.2 (Nat.le_of_ble_eq_true rfl) (Nat.le_of_ble_eq_true rfl)) [3, 4] [0, 1, 2] rfl rfl (ci := 7) (qc := (RX7, TX7, 13)) rfl rfl (List.mem_flatten.mpr ⟨_, List.mem_of_getElem? (i := 0) rfl, List.mem_cons_self⟩) rfl rfl hl.1 dX7_readFact_39 (Nat.le_of_ble_eq_true rfl) (Nat.le_of_ble_eq_true rfl) (fun r_92 b1 H locs hw G => ?_)
      obtain ⟨u0_83, u1_84, u3_85, u4_86, u5_87, u6_88, u7_89, rfl, h_90, h_91⟩ := hw
      have G : zS T A s.heap s [[(rg, .inr (5, [.int gg, .ref a1_1, .ref a2_2]))], [(a1_1, .inl (T.2 0, 8, .inl e1))], [(a2_2, .inl (T.2 0, 8, .inl e2))], [(rd, .inr (7, [.ref rl, .ref rdd, .ref rg, .int u0_83, .int u1_84, .ref tp, .int r2, .int u3_85, .int u4_86, .int u5_87, .int u6_88, .int u7_89, .int r8]))], [(tp, .inl (T.2 1, 600, .inl ft))]] _ _ := G
      refine lv_goto (tgt := 46) hx hb dX7_readFact_42 (by decide) ?_
      refine lv_istore_n (lv' := [(3, .int r_92), (2, .int r_71), (0, .ref rd), (1, .int x)]) hx hb dX7_readFact_46 rfl hl (by decide) rfl (fun ls hl => ?_)
      refine lv_aload_n hx hb dX7_readFact_47 rfl (lv_at hl 2 rfl) ?_
      refine z_get C G clX7 3 rfl 2 (by decide) m_fl_RX7_28 rfl dX7_readFact_48 ?_
      refine lv_iload_n hx hb dX7_readFact_51 rfl (lv_at hl 1 rfl) ?_
      refine lv_iload_n hx hb dX7_readFact_52 rfl (lv_at hl 0 rfl) ?_
      have hw_93 : bLog T rg gg e1 e2 [(rg, .inr (5, [.int gg, .ref a1_1, .ref a2_2])), (a1_1, .inl (T.2 0, 8, .inl e1)), (a2_2, .inl (T.2 0, 8, .inl e2))] := ⟨a1_1, a2_2, rfl⟩
      have G : zS T A s.heap s [[(rg, .inr (5, [.int gg, .ref a1_1, .ref a2_2])), (a1_1, .inl (T.2 0, 8, .inl e1)), (a2_2, .inl (T.2 0, 8, .inl e2))], [(rd, .inr (7, [.ref rl, .ref rdd, .ref rg, .int u0_83, .int u1_84, .ref tp, .int r2, .int u3_85, .int u4_86, .int u5_87, .int u6_88, .int u7_89, .int r8]))], [(tp, .inl (T.2 1, 600, .inl ft))]] _ _ := G.re rfl
      refine z_Vv (bc := [[(rg, .inr (5, [.int gg, .ref a1_1, .ref a2_2])), (a1_1, .inl (T.2 0, 8, .inl e1)), (a2_2, .inl (T.2 0, 8, .inl e2))]]) (br := [[(rd, .inr (7, [.ref rl, .ref rdd, .ref rg, .int u0_83, .int u1_84, .ref tp, .int r2, .int u3_85, .int u4_86, .int u5_87, .int u6_88, .int u7_89, .int r8]))], [(tp, .inl (T.2 1, 600, .inl ft))]]) (As := [.int r_71, .int r_92]) (rest := []) C G (c_Log_add l T rg gg e1 e2 ([(rg, .inr (5, [.int gg, .ref a1_1, .ref a2_2])), (a1_1, .inl (T.2 0, 8, .inl e1)), (a2_2, .inl (T.2 0, 8, .inl e2))]) r_71 r_92 hw_93) (kV_RX7_139 C.2.2.2.2 (Nat.le_of_ble_eq_true rfl) (Nat.le_of_ble_eq_true rfl)) [0] [1, 2] rfl rfl (ci := 5) (qc := (RX5, TX5, 3)) rfl rfl (List.mem_flatten.mpr ⟨_, List.mem_of_getElem? (i := 0) rfl, (bLog_mem hw_93).choose_spec⟩) rfl rfl hl.1 dX7_readFact_53 (Nat.le_of_ble_eq_true rfl) (Nat.le_of_ble_eq_true rfl) (fun b1 H locs hw G => ?_)
      obtain ⟨w2_94, u_95, g1_96, g2_97, rfl, h_98, h_99, h_100, h_101⟩ := hw
      have G : zS T A s.heap s [[(rd, .inr (7, [.ref rl, .ref rdd, .ref rg, .int u0_83, .int u1_84, .ref tp, .int r2, .int u3_85, .int u4_86, .int u5_87, .int u6_88, .int u7_89, .int r8]))], [(tp, .inl (T.2 1, 600, .inl ft))], w2_94] _ _ := G
      exact z_vret C hr hlocks G (Nat.le_of_ble_eq_true rfl) (Nat.le_of_ble_eq_true rfl) dX7_readFact_56 ⟨u0_83, u1_84, u3_85, u4_86, u5_87, u6_88, u7_89, w2_94, u_95, g1_96, g2_97, rfl, h_98, (by first | trivial | assumption | omega)⟩
set_option maxHeartbeats 4000000 in
set_option maxRecDepth 100000 in
/-- c_readLine -/
theorem c_readLine (l : Launch) (T : zTy) (rd : Nat) (rl : Nat) (rdd : Nat) (rg : Nat) (tp : Nat) (r0 : Int32) (r1 : Int32) (r2 : Int32) (r3 : Int32) (r4 : Int32) (r5 : Int32) (r6 : Int32) (r7 : Int32) (r8 : Int32) (ft : Nat → Int32) (cr : Int32) (inn : Int32) (k1 : Nat → Int32) (k2 : Nat → Int32) (k3 : Nat → Int32) (k4 : Nat → Int32) (z : va_W) (dd : Int32) (d1 : Nat → Int32) (d2 : Nat → Int32) (d3 : Nat → Int32) (wd : va_W) (gg : Int32) (e1 : Nat → Int32) (e2 : Nat → Int32) (wg : va_W) (x : Int32) (hR : (0 ≤ r2.toInt ∧ r2.toInt ≤ 600) ∧ (0 ≤ r3.toInt ∧ r3.toInt ≤ r2.toInt) ∧ (0 ≤ r5.toInt ∧ r5.toInt ≤ 600) ∧ 0 ≤ r6.toInt ∧ r6.toInt ≤ 1000) (hz : bLand T rl cr inn k1 k2 k3 k4 z) (hI : zLI cr k1 k3) (hd : bDay T rdd dd d1 d2 d3 wd) (hg : bLog T rg gg e1 e2 wg) : zMv l T yX7_readLine cX7_readLine 3 7 0 0 [.ref rd, .int x] [[(rd, .inr (7, [.ref rl, .ref rdd, .ref rg, .int r0, .int r1, .ref tp, .int r2, .int r3, .int r4, .int r5, .int r6, .int r7, .int r8]))], [(tp, .inl (T.2 1, 600, .inl ft))], z, wd, wg] (fun bs => ∃ (u0 : Int32) (u1 : Int32) (u3 : Int32) (u4 : Int32) (u5 : Int32) (u6 : Int32) (u7 : Int32) (u8 : Int32) (z2 : va_W) (c2 : Int32) (i2 : Int32) (j1 : Nat → Int32) (j2 : Nat → Int32) (j3 : Nat → Int32) (j4 : Nat → Int32) (wd2 : va_W) (dd2 : Int32) (b1 : Nat → Int32) (b2 : Nat → Int32) (b3 : Nat → Int32) (wg2 : va_W) (gg2 : Int32) (b4 : Nat → Int32) (b5 : Nat → Int32), bs = [[(rd, .inr (7, [.ref rl, .ref rdd, .ref rg, .int u0, .int u1, .ref tp, .int r2, .int u3, .int u4, .int u5, .int u6, .int u7, .int u8]))], [(tp, .inl (T.2 1, 600, .inl ft))], z2, wd2, wg2] ∧ bLand T rl c2 i2 j1 j2 j3 j4 z2 ∧ zLI c2 j1 j3 ∧ bDay T rdd dd2 b1 b2 b3 wd2 ∧ bLog T rg gg2 b4 b5 wg2 ∧ (0 ≤ r2.toInt ∧ r2.toInt ≤ 600) ∧ (0 ≤ u3.toInt ∧ u3.toInt ≤ r2.toInt) ∧ (0 ≤ u5.toInt ∧ u5.toInt ≤ 600) ∧ 0 ≤ u6.toInt ∧ u6.toInt ≤ 1000) := by
  refine zMv_of (own := RX7) (by decide) rfl (Nat.le_of_ble_eq_true rfl) ?_
  intro p e s m args below meth c A ls C hr hlocks hnm hAe G hl
  have hx := C.1
  have hb := C.2.1
  have hl : lv_has ls 3 [(0, .ref rd), (1, .int x)] := hl
  refine lv_aload_n hx hb dX7_readLine_0 rfl (lv_at hl 0 rfl) ?_
  refine z_get C G clX7 0 rfl 8 (by decide) m_fl_RX7_74 rfl dX7_readLine_1 ?_
  refine lv_iconst (v := 1) hx hb dX7_readLine_4 (by decide) ?_
  refine lv_icmp_ne (tgt := 16) hx hb dX7_readLine_5 (by decide) (fun c_1 => ?_) (fun c_1 => ?_)
  · have c_1n : ¬ r4.toInt = (1 : Int) := fun q => c_1 ((fa_eq _ _).mpr q)
    refine lv_iconst (v := (-1)) hx hb dX7_readLine_16 (by decide) ?_
    refine lv_istore_n (lv' := [(2, .int (-1)), (0, .ref rd), (1, .int x)]) hx hb dX7_readLine_17 rfl hl (by decide) rfl (fun ls hl => ?_)
    refine lv_iload_n hx hb dX7_readLine_18 rfl (lv_at hl 0 rfl) ?_
    refine lv_iconst (v := (-1)) hx hb dX7_readLine_19 (by decide) ?_
    refine lv_icmp_ne (tgt := 28) hx hb dX7_readLine_20 (by decide) (fun q => absurd (by decide) q) (fun _ => ?_)
    refine lv_aload_n hx hb dX7_readLine_23 rfl (lv_at hl 1 rfl) ?_
    refine z_Vv (bc := [[(rd, .inr (7, [.ref rl, .ref rdd, .ref rg, .int r0, .int r1, .ref tp, .int r2, .int r3, .int r4, .int r5, .int r6, .int r7, .int r8]))]]) (br := [[(tp, .inl (T.2 1, 600, .inl ft))], z, wd, wg]) (As := []) (rest := []) C G (c_breakHere l T rd rl rdd rg tp r0 r1 r2 r3 r4 r5 r6 r7 r8) (kV_RX7_105 C.2.2.2.2 (Nat.le_of_ble_eq_true rfl) (Nat.le_of_ble_eq_true rfl)) [0] [1, 2, 3, 4] rfl rfl (ci := 7) (qc := (RX7, TX7, 13)) rfl rfl (List.mem_flatten.mpr ⟨_, List.mem_of_getElem? (i := 0) rfl, List.mem_cons_self⟩) rfl rfl hl.1 dX7_readLine_24 (Nat.le_of_ble_eq_true rfl) (Nat.le_of_ble_eq_true rfl) (fun b1 H locs hw G => ?_)
    obtain ⟨u0_2, u1_3, u7_4, rfl⟩ := hw
    have G : zS T A s.heap s [[(tp, .inl (T.2 1, 600, .inl ft))], z, wd, wg, [(rd, .inr (7, [.ref rl, .ref rdd, .ref rg, .int u0_2, .int u1_3, .ref tp, .int r2, .int r3, .int r4, .int r5, .int r6, .int u7_4, .int r8]))]] _ _ := G
    have G := G.sub (bs' := [[(rd, .inr (7, [.ref rl, .ref rdd, .ref rg, .int u0_2, .int u1_3, .ref tp, .int r2, .int r3, .int r4, .int r5, .int r6, .int u7_4, .int r8]))], [(tp, .inl (T.2 1, 600, .inl ft))], z, wd, wg]) [4, 0, 1, 2, 3] rfl
    exact z_vret C hr hlocks G (Nat.le_of_ble_eq_true rfl) (Nat.le_of_ble_eq_true rfl) dX7_readLine_27 ⟨u0_2, u1_3, r3, r4, r5, r6, u7_4, r8, z, cr, inn, k1, k2, k3, k4, wd, dd, d1, d2, d3, wg, gg, e1, e2, rfl, hz, (by first | exact hI | assumption), hd, hg, (by first | trivial | assumption | omega)⟩
  · have c_1n : r4.toInt = (1 : Int) := (fa_eq _ _).mp c_1
    refine lv_aload_n hx hb dX7_readLine_8 rfl (lv_at hl 0 rfl) ?_
    refine lv_iload_n hx hb dX7_readLine_9 rfl (lv_at hl 1 rfl) ?_
    refine z_Vi (bc := [[(rd, .inr (7, [.ref rl, .ref rdd, .ref rg, .int r0, .int r1, .ref tp, .int r2, .int r3, .int r4, .int r5, .int r6, .int r7, .int r8]))], [(tp, .inl (T.2 1, 600, .inl ft))]]) (br := [z, wd, wg]) (As := [.int x]) (rest := []) C G (c_wordOf l T rd rl rdd rg tp r0 r1 r2 r3 r4 r5 r6 r7 r8 ft x (by omega)) (kV_RX7_101 C.2.2.2.2 (Nat.le_of_ble_eq_true rfl) (Nat.le_of_ble_eq_true rfl)) [0, 1] [2, 3, 4] rfl rfl (ci := 7) (qc := (RX7, TX7, 13)) rfl rfl (List.mem_flatten.mpr ⟨_, List.mem_of_getElem? (i := 0) rfl, List.mem_cons_self⟩) rfl rfl hl.1 dX7_readLine_10 (Nat.le_of_ble_eq_true rfl) (Nat.le_of_ble_eq_true rfl) (fun r_7 b1 H locs hw G => ?_)
    obtain ⟨rfl, h_6⟩ := hw
    have G : zS T A s.heap s [z, wd, wg, [(rd, .inr (7, [.ref rl, .ref rdd, .ref rg, .int r0, .int r1, .ref tp, .int r2, .int r3, .int r4, .int r5, .int r6, .int r7, .int r8]))], [(tp, .inl (T.2 1, 600, .inl ft))]] _ _ := G
    refine lv_goto (tgt := 17) hx hb dX7_readLine_13 (by decide) ?_
    refine lv_istore_n (lv' := [(2, .int r_7), (0, .ref rd), (1, .int x)]) hx hb dX7_readLine_17 rfl hl (by decide) rfl (fun ls hl => ?_)
    refine lv_iload_n hx hb dX7_readLine_18 rfl (lv_at hl 0 rfl) ?_
    refine lv_iconst (v := (-1)) hx hb dX7_readLine_19 (by decide) ?_
    refine lv_icmp_ne (tgt := 28) hx hb dX7_readLine_20 (by decide) (fun c_8 => ?_) (fun c_8 => ?_)
    · have c_8n : ¬ r_7.toInt = (-1 : Int) := fun q => c_8 ((fa_eq _ _).mpr q)
      refine lv_iload_n hx hb dX7_readLine_28 rfl (lv_at hl 2 rfl) ?_
      refine lv_iconst (v := 1) hx hb dX7_readLine_29 (by decide) ?_
      refine lv_icmp_ne (tgt := 41) hx hb dX7_readLine_30 (by decide) (fun c_9 => ?_) (fun c_9 => ?_)
      · have c_9n : ¬ x.toInt = (1 : Int) := fun q => c_9 ((fa_eq _ _).mpr q)
        refine lv_iload_n hx hb dX7_readLine_41 rfl (lv_at hl 2 rfl) ?_
        refine lv_iconst (v := 2) hx hb dX7_readLine_42 (by decide) ?_
        refine lv_icmp_ne (tgt := 54) hx hb dX7_readLine_43 (by decide) (fun c_10 => ?_) (fun c_10 => ?_)
        · have c_10n : ¬ x.toInt = (2 : Int) := fun q => c_10 ((fa_eq _ _).mpr q)
          refine lv_iload_n hx hb dX7_readLine_54 rfl (lv_at hl 0 rfl) ?_
          refine lv_if_ne (tgt := 65) hx hb dX7_readLine_55 (by decide) (fun c_11 => ?_) (fun c_11 => ?_)
          · have c_11n : ¬ r_7.toInt = (0 : Int) := fun q => c_11 ((fa_eq _ _).mpr q)
            refine lv_aload_n hx hb dX7_readLine_65 rfl (lv_at hl 1 rfl) ?_
            refine lv_iload_n hx hb dX7_readLine_66 rfl (lv_at hl 0 rfl) ?_
            refine z_Vv (bc := [[(rd, .inr (7, [.ref rl, .ref rdd, .ref rg, .int r0, .int r1, .ref tp, .int r2, .int r3, .int r4, .int r5, .int r6, .int r7, .int r8]))], [(tp, .inl (T.2 1, 600, .inl ft))], z]) (br := [wd, wg]) (As := [.int r_7]) (rest := []) C G (c_readOther l T rd rl rdd rg tp r0 r1 r2 r3 r4 r5 r6 r7 r8 ft cr inn k1 k2 k3 k4 z r_7 (by omega) hz hI) (kV_RX7_117 C.2.2.2.2 (Nat.le_of_ble_eq_true rfl) (Nat.le_of_ble_eq_true rfl)) [3, 4, 0] [1, 2] rfl rfl (ci := 7) (qc := (RX7, TX7, 13)) rfl rfl (List.mem_flatten.mpr ⟨_, List.mem_of_getElem? (i := 0) rfl, List.mem_cons_self⟩) rfl rfl hl.1 dX7_readLine_67 (Nat.le_of_ble_eq_true rfl) (Nat.le_of_ble_eq_true rfl) (fun b1 H locs hw G => ?_)
            obtain ⟨u0_12, u1_13, u3_14, u4_15, u5_16, u6_17, u7_18, u8_19, z2_20, i2_21, j3_22, j4_23, rfl, h_24, h_25, h_26⟩ := hw
            have G : zS T A s.heap s [wd, wg, [(rd, .inr (7, [.ref rl, .ref rdd, .ref rg, .int u0_12, .int u1_13, .ref tp, .int r2, .int u3_14, .int u4_15, .int u5_16, .int u6_17, .int u7_18, .int u8_19]))], [(tp, .inl (T.2 1, 600, .inl ft))], z2_20] _ _ := G
            refine lv_aload_n hx hb dX7_readLine_70 rfl (lv_at hl 1 rfl) ?_
            refine z_get C G clX7 2 rfl 8 (by decide) m_fl_RX7_74 rfl dX7_readLine_71 ?_
            refine lv_iconst (v := 3) hx hb dX7_readLine_74 (by decide) ?_
            refine lv_icmp_ne (tgt := 85) hx hb dX7_readLine_75 (by decide) (fun c_28 => ?_) (fun c_28 => ?_)
            · have c_28n : ¬ u4_15.toInt = (3 : Int) := fun q => c_28 ((fa_eq _ _).mpr q)
              refine lv_aload_n hx hb dX7_readLine_85 rfl (lv_at hl 1 rfl) ?_
              refine z_Vv (bc := [[(rd, .inr (7, [.ref rl, .ref rdd, .ref rg, .int u0_12, .int u1_13, .ref tp, .int r2, .int u3_14, .int u4_15, .int u5_16, .int u6_17, .int u7_18, .int u8_19]))]]) (br := [wd, wg, [(tp, .inl (T.2 1, 600, .inl ft))], z2_20]) (As := []) (rest := []) C G (c_breakHere l T rd rl rdd rg tp u0_12 u1_13 r2 u3_14 u4_15 u5_16 u6_17 u7_18 u8_19) (kV_RX7_105 C.2.2.2.2 (Nat.le_of_ble_eq_true rfl) (Nat.le_of_ble_eq_true rfl)) [2] [0, 1, 3, 4] rfl rfl (ci := 7) (qc := (RX7, TX7, 13)) rfl rfl (List.mem_flatten.mpr ⟨_, List.mem_of_getElem? (i := 0) rfl, List.mem_cons_self⟩) rfl rfl hl.1 dX7_readLine_86 (Nat.le_of_ble_eq_true rfl) (Nat.le_of_ble_eq_true rfl) (fun b1 H locs hw G => ?_)
              obtain ⟨u0_29, u1_30, u7_31, rfl⟩ := hw
              have G : zS T A s.heap s [wd, wg, [(tp, .inl (T.2 1, 600, .inl ft))], z2_20, [(rd, .inr (7, [.ref rl, .ref rdd, .ref rg, .int u0_29, .int u1_30, .ref tp, .int r2, .int u3_14, .int u4_15, .int u5_16, .int u6_17, .int u7_31, .int u8_19]))]] _ _ := G
              have G := G.sub (bs' := [[(rd, .inr (7, [.ref rl, .ref rdd, .ref rg, .int u0_29, .int u1_30, .ref tp, .int r2, .int u3_14, .int u4_15, .int u5_16, .int u6_17, .int u7_31, .int u8_19]))], [(tp, .inl (T.2 1, 600, .inl ft))], z2_20, wd, wg]) [4, 2, 3, 0, 1] rfl
              exact z_vret C hr hlocks G (Nat.le_of_ble_eq_true rfl) (Nat.le_of_ble_eq_true rfl) dX7_readLine_89 ⟨u0_29, u1_30, u3_14, u4_15, u5_16, u6_17, u7_31, u8_19, z2_20, cr, i2_21, k1, k2, j3_22, j4_23, wd, dd, d1, d2, d3, wg, gg, e1, e2, rfl, h_24, (by first | exact hI | assumption), hd, hg, (by first | trivial | assumption | omega)⟩
            · have c_28n : u4_15.toInt = (3 : Int) := (fa_eq _ _).mp c_28
              refine lv_aload_n hx hb dX7_readLine_78 rfl (lv_at hl 1 rfl) ?_
              refine z_Vv (bc := [[(rd, .inr (7, [.ref rl, .ref rdd, .ref rg, .int u0_12, .int u1_13, .ref tp, .int r2, .int u3_14, .int u4_15, .int u5_16, .int u6_17, .int u7_18, .int u8_19]))], [(tp, .inl (T.2 1, 600, .inl ft))]]) (br := [wd, wg, z2_20]) (As := []) (rest := []) C G (c_nextToken l T rd rl rdd rg tp u0_12 u1_13 r2 u3_14 u4_15 u5_16 u6_17 u7_18 u8_19 ft (by omega)) (kV_RX7_71 C.2.2.2.2 (Nat.le_of_ble_eq_true rfl) (Nat.le_of_ble_eq_true rfl)) [2, 3] [0, 1, 4] rfl rfl (ci := 7) (qc := (RX7, TX7, 13)) rfl rfl (List.mem_flatten.mpr ⟨_, List.mem_of_getElem? (i := 0) rfl, List.mem_cons_self⟩) rfl rfl hl.1 dX7_readLine_79 (Nat.le_of_ble_eq_true rfl) (Nat.le_of_ble_eq_true rfl) (fun b1 H locs hw G => ?_)
              obtain ⟨u3_33, u4_34, u5_35, u6_36, rfl, h_37, h_38⟩ := hw
              have G : zS T A s.heap s [wd, wg, z2_20, [(rd, .inr (7, [.ref rl, .ref rdd, .ref rg, .int u0_12, .int u1_13, .ref tp, .int r2, .int u3_33, .int u4_34, .int u5_35, .int u6_36, .int u7_18, .int u8_19]))], [(tp, .inl (T.2 1, 600, .inl ft))]] _ _ := G
              refine lv_goto (tgt := 89) hx hb dX7_readLine_82 (by decide) ?_
              have G := G.sub (bs' := [[(rd, .inr (7, [.ref rl, .ref rdd, .ref rg, .int u0_12, .int u1_13, .ref tp, .int r2, .int u3_33, .int u4_34, .int u5_35, .int u6_36, .int u7_18, .int u8_19]))], [(tp, .inl (T.2 1, 600, .inl ft))], z2_20, wd, wg]) [3, 4, 2, 0, 1] rfl
              exact z_vret C hr hlocks G (Nat.le_of_ble_eq_true rfl) (Nat.le_of_ble_eq_true rfl) dX7_readLine_89 ⟨u0_12, u1_13, u3_33, u4_34, u5_35, u6_36, u7_18, u8_19, z2_20, cr, i2_21, k1, k2, j3_22, j4_23, wd, dd, d1, d2, d3, wg, gg, e1, e2, rfl, h_24, (by first | exact hI | assumption), hd, hg, (by first | trivial | assumption | omega)⟩
          · have c_11n : r_7.toInt = (0 : Int) := (fa_eq _ _).mp c_11
            refine lv_aload_n hx hb dX7_readLine_58 rfl (lv_at hl 1 rfl) ?_
            refine z_Vv (bc := [[(rd, .inr (7, [.ref rl, .ref rdd, .ref rg, .int r0, .int r1, .ref tp, .int r2, .int r3, .int r4, .int r5, .int r6, .int r7, .int r8]))], [(tp, .inl (T.2 1, 600, .inl ft))], z]) (br := [wd, wg]) (As := []) (rest := []) C G (c_readCrossing l T rd rl rdd rg tp r0 r1 r2 r3 r4 r5 r6 r7 r8 ft cr inn k1 k2 k3 k4 z (by omega) hz hI) (kV_RX7_114 C.2.2.2.2 (Nat.le_of_ble_eq_true rfl) (Nat.le_of_ble_eq_true rfl)) [3, 4, 0] [1, 2] rfl rfl (ci := 7) (qc := (RX7, TX7, 13)) rfl rfl (List.mem_flatten.mpr ⟨_, List.mem_of_getElem? (i := 0) rfl, List.mem_cons_self⟩) rfl rfl hl.1 dX7_readLine_59 (Nat.le_of_ble_eq_true rfl) (Nat.le_of_ble_eq_true rfl) (fun b1 H locs hw G => ?_)
            obtain ⟨u0_40, u1_41, u3_42, u4_43, u5_44, u6_45, u7_46, u8_47, z2_48, c2_49, j1_50, j2_51, rfl, h_52, h_53, h_54⟩ := hw
            have G : zS T A s.heap s [wd, wg, [(rd, .inr (7, [.ref rl, .ref rdd, .ref rg, .int u0_40, .int u1_41, .ref tp, .int r2, .int u3_42, .int u4_43, .int u5_44, .int u6_45, .int u7_46, .int u8_47]))], [(tp, .inl (T.2 1, 600, .inl ft))], z2_48] _ _ := G
            refine lv_goto (tgt := 70) hx hb dX7_readLine_62 (by decide) ?_
            refine lv_aload_n hx hb dX7_readLine_70 rfl (lv_at hl 1 rfl) ?_
            refine z_get C G clX7 2 rfl 8 (by decide) m_fl_RX7_74 rfl dX7_readLine_71 ?_
            refine lv_iconst (v := 3) hx hb dX7_readLine_74 (by decide) ?_
            refine lv_icmp_ne (tgt := 85) hx hb dX7_readLine_75 (by decide) (fun c_56 => ?_) (fun c_56 => ?_)
            · have c_56n : ¬ u4_43.toInt = (3 : Int) := fun q => c_56 ((fa_eq _ _).mpr q)
              refine lv_aload_n hx hb dX7_readLine_85 rfl (lv_at hl 1 rfl) ?_
              refine z_Vv (bc := [[(rd, .inr (7, [.ref rl, .ref rdd, .ref rg, .int u0_40, .int u1_41, .ref tp, .int r2, .int u3_42, .int u4_43, .int u5_44, .int u6_45, .int u7_46, .int u8_47]))]]) (br := [wd, wg, [(tp, .inl (T.2 1, 600, .inl ft))], z2_48]) (As := []) (rest := []) C G (c_breakHere l T rd rl rdd rg tp u0_40 u1_41 r2 u3_42 u4_43 u5_44 u6_45 u7_46 u8_47) (kV_RX7_105 C.2.2.2.2 (Nat.le_of_ble_eq_true rfl) (Nat.le_of_ble_eq_true rfl)) [2] [0, 1, 3, 4] rfl rfl (ci := 7) (qc := (RX7, TX7, 13)) rfl rfl (List.mem_flatten.mpr ⟨_, List.mem_of_getElem? (i := 0) rfl, List.mem_cons_self⟩) rfl rfl hl.1 dX7_readLine_86 (Nat.le_of_ble_eq_true rfl) (Nat.le_of_ble_eq_true rfl) (fun b1 H locs hw G => ?_)
              obtain ⟨u0_57, u1_58, u7_59, rfl⟩ := hw
              have G : zS T A s.heap s [wd, wg, [(tp, .inl (T.2 1, 600, .inl ft))], z2_48, [(rd, .inr (7, [.ref rl, .ref rdd, .ref rg, .int u0_57, .int u1_58, .ref tp, .int r2, .int u3_42, .int u4_43, .int u5_44, .int u6_45, .int u7_59, .int u8_47]))]] _ _ := G
              have G := G.sub (bs' := [[(rd, .inr (7, [.ref rl, .ref rdd, .ref rg, .int u0_57, .int u1_58, .ref tp, .int r2, .int u3_42, .int u4_43, .int u5_44, .int u6_45, .int u7_59, .int u8_47]))], [(tp, .inl (T.2 1, 600, .inl ft))], z2_48, wd, wg]) [4, 2, 3, 0, 1] rfl
              exact z_vret C hr hlocks G (Nat.le_of_ble_eq_true rfl) (Nat.le_of_ble_eq_true rfl) dX7_readLine_89 ⟨u0_57, u1_58, u3_42, u4_43, u5_44, u6_45, u7_59, u8_47, z2_48, c2_49, inn, j1_50, j2_51, k3, k4, wd, dd, d1, d2, d3, wg, gg, e1, e2, rfl, h_52, (by first | exact hI | assumption), hd, hg, (by first | trivial | assumption | omega)⟩
            · have c_56n : u4_43.toInt = (3 : Int) := (fa_eq _ _).mp c_56
              refine lv_aload_n hx hb dX7_readLine_78 rfl (lv_at hl 1 rfl) ?_
              refine z_Vv (bc := [[(rd, .inr (7, [.ref rl, .ref rdd, .ref rg, .int u0_40, .int u1_41, .ref tp, .int r2, .int u3_42, .int u4_43, .int u5_44, .int u6_45, .int u7_46, .int u8_47]))], [(tp, .inl (T.2 1, 600, .inl ft))]]) (br := [wd, wg, z2_48]) (As := []) (rest := []) C G (c_nextToken l T rd rl rdd rg tp u0_40 u1_41 r2 u3_42 u4_43 u5_44 u6_45 u7_46 u8_47 ft (by omega)) (kV_RX7_71 C.2.2.2.2 (Nat.le_of_ble_eq_true rfl) (Nat.le_of_ble_eq_true rfl)) [2, 3] [0, 1, 4] rfl rfl (ci := 7) (qc := (RX7, TX7, 13)) rfl rfl (List.mem_flatten.mpr ⟨_, List.mem_of_getElem? (i := 0) rfl, List.mem_cons_self⟩) rfl rfl hl.1 dX7_readLine_79 (Nat.le_of_ble_eq_true rfl) (Nat.le_of_ble_eq_true rfl) (fun b1 H locs hw G => ?_)
              obtain ⟨u3_61, u4_62, u5_63, u6_64, rfl, h_65, h_66⟩ := hw
              have G : zS T A s.heap s [wd, wg, z2_48, [(rd, .inr (7, [.ref rl, .ref rdd, .ref rg, .int u0_40, .int u1_41, .ref tp, .int r2, .int u3_61, .int u4_62, .int u5_63, .int u6_64, .int u7_46, .int u8_47]))], [(tp, .inl (T.2 1, 600, .inl ft))]] _ _ := G
              refine lv_goto (tgt := 89) hx hb dX7_readLine_82 (by decide) ?_
              have G := G.sub (bs' := [[(rd, .inr (7, [.ref rl, .ref rdd, .ref rg, .int u0_40, .int u1_41, .ref tp, .int r2, .int u3_61, .int u4_62, .int u5_63, .int u6_64, .int u7_46, .int u8_47]))], [(tp, .inl (T.2 1, 600, .inl ft))], z2_48, wd, wg]) [3, 4, 2, 0, 1] rfl
              exact z_vret C hr hlocks G (Nat.le_of_ble_eq_true rfl) (Nat.le_of_ble_eq_true rfl) dX7_readLine_89 ⟨u0_40, u1_41, u3_61, u4_62, u5_63, u6_64, u7_46, u8_47, z2_48, c2_49, inn, j1_50, j2_51, k3, k4, wd, dd, d1, d2, d3, wg, gg, e1, e2, rfl, h_52, (by first | exact hI | assumption), hd, hg, (by first | trivial | assumption | omega)⟩
        · have c_10n : x.toInt = (2 : Int) := (fa_eq _ _).mp c_10
          refine lv_aload_n hx hb dX7_readLine_46 rfl (lv_at hl 1 rfl) ?_
          refine lv_iload_n hx hb dX7_readLine_47 rfl (lv_at hl 0 rfl) ?_
          refine z_Vv (bc := [[(rd, .inr (7, [.ref rl, .ref rdd, .ref rg, .int r0, .int r1, .ref tp, .int r2, .int r3, .int r4, .int r5, .int r6, .int r7, .int r8]))], [(tp, .inl (T.2 1, 600, .inl ft))], wg]) (br := [z, wd]) (As := [.int r_7]) (rest := []) C G (c_readFact l T rd rl rdd rg tp r0 r1 r2 r3 r4 r5 r6 r7 r8 ft gg e1 e2 wg r_7 (by omega) hg) (kV_RX7_111 C.2.2.2.2 (Nat.le_of_ble_eq_true rfl) (Nat.le_of_ble_eq_true rfl)) [3, 4, 2] [0, 1] rfl rfl (ci := 7) (qc := (RX7, TX7, 13)) rfl rfl (List.mem_flatten.mpr ⟨_, List.mem_of_getElem? (i := 0) rfl, List.mem_cons_self⟩) rfl rfl hl.1 dX7_readLine_48 (Nat.le_of_ble_eq_true rfl) (Nat.le_of_ble_eq_true rfl) (fun b1 H locs hw G => ?_)
          obtain ⟨u0_68, u1_69, u3_70, u4_71, u5_72, u6_73, u7_74, wg2_75, gg2_76, b1_77, b2_78, rfl, h_79, h_80⟩ := hw
          have G : zS T A s.heap s [z, wd, [(rd, .inr (7, [.ref rl, .ref rdd, .ref rg, .int u0_68, .int u1_69, .ref tp, .int r2, .int u3_70, .int u4_71, .int u5_72, .int u6_73, .int u7_74, .int r8]))], [(tp, .inl (T.2 1, 600, .inl ft))], wg2_75] _ _ := G
          refine lv_goto (tgt := 70) hx hb dX7_readLine_51 (by decide) ?_
          refine lv_aload_n hx hb dX7_readLine_70 rfl (lv_at hl 1 rfl) ?_
          refine z_get C G clX7 2 rfl 8 (by decide) m_fl_RX7_74 rfl dX7_readLine_71 ?_
          refine lv_iconst (v := 3) hx hb dX7_readLine_74 (by decide) ?_
          refine lv_icmp_ne (tgt := 85) hx hb dX7_readLine_75 (by decide) (fun c_82 => ?_) (fun c_82 => ?_)
          · have c_82n : ¬ u4_71.toInt = (3 : Int) := fun q => c_82 ((fa_eq _ _).mpr q)
            refine lv_aload_n hx hb dX7_readLine_85 rfl (lv_at hl 1 rfl) ?_
            refine z_Vv (bc := [[(rd, .inr (7, [.ref rl, .ref rdd, .ref rg, .int u0_68, .int u1_69, .ref tp, .int r2, .int u3_70, .int u4_71, .int u5_72, .int u6_73, .int u7_74, .int r8]))]]) (br := [z, wd, [(tp, .inl (T.2 1, 600, .inl ft))], wg2_75]) (As := []) (rest := []) C G (c_breakHere l T rd rl rdd rg tp u0_68 u1_69 r2 u3_70 u4_71 u5_72 u6_73 u7_74 r8) (kV_RX7_105 C.2.2.2.2 (Nat.le_of_ble_eq_true rfl) (Nat.le_of_ble_eq_true rfl)) [2] [0, 1, 3, 4] rfl rfl (ci := 7) (qc := (RX7, TX7, 13)) rfl rfl (List.mem_flatten.mpr ⟨_, List.mem_of_getElem? (i := 0) rfl, List.mem_cons_self⟩) rfl rfl hl.1 dX7_readLine_86 (Nat.le_of_ble_eq_true rfl) (Nat.le_of_ble_eq_true rfl) (fun b1 H locs hw G => ?_)
            obtain ⟨u0_83, u1_84, u7_85, rfl⟩ := hw
            have G : zS T A s.heap s [z, wd, [(tp, .inl (T.2 1, 600, .inl ft))], wg2_75, [(rd, .inr (7, [.ref rl, .ref rdd, .ref rg, .int u0_83, .int u1_84, .ref tp, .int r2, .int u3_70, .int u4_71, .int u5_72, .int u6_73, .int u7_85, .int r8]))]] _ _ := G
            have G := G.sub (bs' := [[(rd, .inr (7, [.ref rl, .ref rdd, .ref rg, .int u0_83, .int u1_84, .ref tp, .int r2, .int u3_70, .int u4_71, .int u5_72, .int u6_73, .int u7_85, .int r8]))], [(tp, .inl (T.2 1, 600, .inl ft))], z, wd, wg2_75]) [4, 2, 0, 1, 3] rfl
            exact z_vret C hr hlocks G (Nat.le_of_ble_eq_true rfl) (Nat.le_of_ble_eq_true rfl) dX7_readLine_89 ⟨u0_83, u1_84, u3_70, u4_71, u5_72, u6_73, u7_85, r8, z, cr, inn, k1, k2, k3, k4, wd, dd, d1, d2, d3, wg2_75, gg2_76, b1_77, b2_78, rfl, hz, (by first | exact hI | assumption), hd, h_79, (by first | trivial | assumption | omega)⟩
          · have c_82n : u4_71.toInt = (3 : Int) := (fa_eq _ _).mp c_82
            refine lv_aload_n hx hb dX7_readLine_78 rfl (lv_at hl 1 rfl) ?_
            refine z_Vv (bc := [[(rd, .inr (7, [.ref rl, .ref rdd, .ref rg, .int u0_68, .int u1_69, .ref tp, .int r2, .int u3_70, .int u4_71, .int u5_72, .int u6_73, .int u7_74, .int r8]))], [(tp, .inl (T.2 1, 600, .inl ft))]]) (br := [z, wd, wg2_75]) (As := []) (rest := []) C G (c_nextToken l T rd rl rdd rg tp u0_68 u1_69 r2 u3_70 u4_71 u5_72 u6_73 u7_74 r8 ft (by omega)) (kV_RX7_71 C.2.2.2.2 (Nat.le_of_ble_eq_true rfl) (Nat.le_of_ble_eq_true rfl)) [2, 3] [0, 1, 4] rfl rfl (ci := 7) (qc := (RX7, TX7, 13)) rfl rfl (List.mem_flatten.mpr ⟨_, List.mem_of_getElem? (i := 0) rfl, List.mem_cons_self⟩) rfl rfl hl.1 dX7_readLine_79 (Nat.le_of_ble_eq_true rfl) (Nat.le_of_ble_eq_true rfl) (fun b1 H locs hw G => ?_)
            obtain ⟨u3_87, u4_88, u5_89, u6_90, rfl, h_91, h_92⟩ := hw
            have G : zS T A s.heap s [z, wd, wg2_75, [(rd, .inr (7, [.ref rl, .ref rdd, .ref rg, .int u0_68, .int u1_69, .ref tp, .int r2, .int u3_87, .int u4_88, .int u5_89, .int u6_90, .int u7_74, .int r8]))], [(tp, .inl (T.2 1, 600, .inl ft))]] _ _ := G
            refine lv_goto (tgt := 89) hx hb dX7_readLine_82 (by decide) ?_
            have G := G.sub (bs' := [[(rd, .inr (7, [.ref rl, .ref rdd, .ref rg, .int u0_68, .int u1_69, .ref tp, .int r2, .int u3_87, .int u4_88, .int u5_89, .int u6_90, .int u7_74, .int r8]))], [(tp, .inl (T.2 1, 600, .inl ft))], z, wd, wg2_75]) [3, 4, 0, 1, 2] rfl
            exact z_vret C hr hlocks G (Nat.le_of_ble_eq_true rfl) (Nat.le_of_ble_eq_true rfl) dX7_readLine_89 ⟨u0_68, u1_69, u3_87, u4_88, u5_89, u6_90, u7_74, r8, z, cr, inn, k1, k2, k3, k4, wd, dd, d1, d2, d3, wg2_75, gg2_76, b1_77, b2_78, rfl, hz, (by first | exact hI | assumption), hd, h_79, (by first | trivial | assumption | omega)⟩
      · have c_9n : x.toInt = (1 : Int) := (fa_eq _ _).mp c_9
        refine lv_aload_n hx hb dX7_readLine_33 rfl (lv_at hl 1 rfl) ?_
        refine lv_iload_n hx hb dX7_readLine_34 rfl (lv_at hl 0 rfl) ?_
        refine z_Vv (bc := [[(rd, .inr (7, [.ref rl, .ref rdd, .ref rg, .int r0, .int r1, .ref tp, .int r2, .int r3, .int r4, .int r5, .int r6, .int r7, .int r8]))], [(tp, .inl (T.2 1, 600, .inl ft))], wd]) (br := [z, wg]) (As := [.int r_7]) (rest := []) C G (c_readDeed l T rd rl rdd rg tp r0 r1 r2 r3 r4 r5 r6 r7 r8 ft dd d1 d2 d3 wd r_7 (by omega) hd) (kV_RX7_108 C.2.2.2.2 (Nat.le_of_ble_eq_true rfl) (Nat.le_of_ble_eq_true rfl)) [3, 4, 1] [0, 2] rfl rfl (ci := 7) (qc := (RX7, TX7, 13)) rfl rfl (List.mem_flatten.mpr ⟨_, List.mem_of_getElem? (i := 0) rfl, List.mem_cons_self⟩) rfl rfl hl.1 dX7_readLine_35 (Nat.le_of_ble_eq_true rfl) (Nat.le_of_ble_eq_true rfl) (fun b1 H locs hw G => ?_)
        obtain ⟨u0_94, u1_95, u3_96, u4_97, u5_98, u6_99, u7_100, wd2_101, dd2_102, b1_103, b2_104, b3_105, rfl, h_106, h_107⟩ := hw
        have G : zS T A s.heap s [z, wg, [(rd, .inr (7, [.ref rl, .ref rdd, .ref rg, .int u0_94, .int u1_95, .ref tp, .int r2, .int u3_96, .int u4_97, .int u5_98, .int u6_99, .int u7_100, .int r8]))], [(tp, .inl (T.2 1, 600, .inl ft))], wd2_101] _ _ := G
        refine lv_goto (tgt := 70) hx hb dX7_readLine_38 (by decide) ?_
        refine lv_aload_n hx hb dX7_readLine_70 rfl (lv_at hl 1 rfl) ?_
        refine z_get C G clX7 2 rfl 8 (by decide) m_fl_RX7_74 rfl dX7_readLine_71 ?_
        refine lv_iconst (v := 3) hx hb dX7_readLine_74 (by decide) ?_
        refine lv_icmp_ne (tgt := 85) hx hb dX7_readLine_75 (by decide) (fun c_109 => ?_) (fun c_109 => ?_)
        · have c_109n : ¬ u4_97.toInt = (3 : Int) := fun q => c_109 ((fa_eq _ _).mpr q)
          refine lv_aload_n hx hb dX7_readLine_85 rfl (lv_at hl 1 rfl) ?_
          refine z_Vv (bc := [[(rd, .inr (7, [.ref rl, .ref rdd, .ref rg, .int u0_94, .int u1_95, .ref tp, .int r2, .int u3_96, .int u4_97, .int u5_98, .int u6_99, .int u7_100, .int r8]))]]) (br := [z, wg, [(tp, .inl (T.2 1, 600, .inl ft))], wd2_101]) (As := []) (rest := []) C G (c_breakHere l T rd rl rdd rg tp u0_94 u1_95 r2 u3_96 u4_97 u5_98 u6_99 u7_100 r8) (kV_RX7_105 C.2.2.2.2 (Nat.le_of_ble_eq_true rfl) (Nat.le_of_ble_eq_true rfl)) [2] [0, 1, 3, 4] rfl rfl (ci := 7) (qc := (RX7, TX7, 13)) rfl rfl (List.mem_flatten.mpr ⟨_, List.mem_of_getElem? (i := 0) rfl, List.mem_cons_self⟩) rfl rfl hl.1 dX7_readLine_86 (Nat.le_of_ble_eq_true rfl) (Nat.le_of_ble_eq_true rfl) (fun b1 H locs hw G => ?_)
          obtain ⟨u0_110, u1_111, u7_112, rfl⟩ := hw
          have G : zS T A s.heap s [z, wg, [(tp, .inl (T.2 1, 600, .inl ft))], wd2_101, [(rd, .inr (7, [.ref rl, .ref rdd, .ref rg, .int u0_110, .int u1_111, .ref tp, .int r2, .int u3_96, .int u4_97, .int u5_98, .int u6_99, .int u7_112, .int r8]))]] _ _ := G
          have G := G.sub (bs' := [[(rd, .inr (7, [.ref rl, .ref rdd, .ref rg, .int u0_110, .int u1_111, .ref tp, .int r2, .int u3_96, .int u4_97, .int u5_98, .int u6_99, .int u7_112, .int r8]))], [(tp, .inl (T.2 1, 600, .inl ft))], z, wd2_101, wg]) [4, 2, 0, 3, 1] rfl
          exact z_vret C hr hlocks G (Nat.le_of_ble_eq_true rfl) (Nat.le_of_ble_eq_true rfl) dX7_readLine_89 ⟨u0_110, u1_111, u3_96, u4_97, u5_98, u6_99, u7_112, r8, z, cr, inn, k1, k2, k3, k4, wd2_101, dd2_102, b1_103, b2_104, b3_105, wg, gg, e1, e2, rfl, hz, (by first | exact hI | assumption), h_106, hg, (by first | trivial | assumption | omega)⟩
        · have c_109n : u4_97.toInt = (3 : Int) := (fa_eq _ _).mp c_109
          refine lv_aload_n hx hb dX7_readLine_78 rfl (lv_at hl 1 rfl) ?_
          refine z_Vv (bc := [[(rd, .inr (7, [.ref rl, .ref rdd, .ref rg, .int u0_94, .int u1_95, .ref tp, .int r2, .int u3_96, .int u4_97, .int u5_98, .int u6_99, .int u7_100, .int r8]))], [(tp, .inl (T.2 1, 600, .inl ft))]]) (br := [z, wg, wd2_101]) (As := []) (rest := []) C G (c_nextToken l T rd rl rdd rg tp u0_94 u1_95 r2 u3_96 u4_97 u5_98 u6_99 u7_100 r8 ft (by omega)) (kV_RX7_71 C.2.2.2.2 (Nat.le_of_ble_eq_true rfl) (Nat.le_of_ble_eq_true rfl)) [2, 3] [0, 1, 4] rfl rfl (ci := 7) (qc := (RX7, TX7, 13)) rfl rfl (List.mem_flatten.mpr ⟨_, List.mem_of_getElem? (i := 0) rfl, List.mem_cons_self⟩) rfl rfl hl.1 dX7_readLine_79 (Nat.le_of_ble_eq_true rfl) (Nat.le_of_ble_eq_true rfl) (fun b1 H locs hw G => ?_)
          obtain ⟨u3_114, u4_115, u5_116, u6_117, rfl, h_118, h_119⟩ := hw
          have G : zS T A s.heap s [z, wg, wd2_101, [(rd, .inr (7, [.ref rl, .ref rdd, .ref rg, .int u0_94, .int u1_95, .ref tp, .int r2, .int u3_114, .int u4_115, .int u5_116, .int u6_117, .int u7_100, .int r8]))], [(tp, .inl (T.2 1, 600, .inl ft))]] _ _ := G
          refine lv_goto (tgt := 89) hx hb dX7_readLine_82 (by decide) ?_
          have G := G.sub (bs' := [[(rd, .inr (7, [.ref rl, .ref rdd, .ref rg, .int u0_94, .int u1_95, .ref tp, .int r2, .int u3_114, .int u4_115, .int u5_116, .int u6_117, .int u7_100, .int r8]))], [(tp, .inl (T.2 1, 600, .inl ft))], z, wd2_101, wg]) [3, 4, 0, 2, 1] rfl
          exact z_vret C hr hlocks G (Nat.le_of_ble_eq_true rfl) (Nat.le_of_ble_eq_true rfl) dX7_readLine_89 ⟨u0_94, u1_95, u3_114, u4_115, u5_116, u6_117, u7_100, r8, z, cr, inn, k1, k2, k3, k4, wd2_101, dd2_102, b1_103, b2_104, b3_105, wg, gg, e1, e2, rfl, hz, (by first | exact hI | assumption), h_106, hg, (by first | trivial | assumption | omega)⟩
    · have c_8n : r_7.toInt = (-1 : Int) := (fa_eq _ _).mp c_8
      refine lv_aload_n hx hb dX7_readLine_23 rfl (lv_at hl 1 rfl) ?_
      refine z_Vv (bc := [[(rd, .inr (7, [.ref rl, .ref rdd, .ref rg, .int r0, .int r1, .ref tp, .int r2, .int r3, .int r4, .int r5, .int r6, .int r7, .int r8]))]]) (br := [z, wd, wg, [(tp, .inl (T.2 1, 600, .inl ft))]]) (As := []) (rest := []) C G (c_breakHere l T rd rl rdd rg tp r0 r1 r2 r3 r4 r5 r6 r7 r8) (kV_RX7_105 C.2.2.2.2 (Nat.le_of_ble_eq_true rfl) (Nat.le_of_ble_eq_true rfl)) [3] [0, 1, 2, 4] rfl rfl (ci := 7) (qc := (RX7, TX7, 13)) rfl rfl (List.mem_flatten.mpr ⟨_, List.mem_of_getElem? (i := 0) rfl, List.mem_cons_self⟩) rfl rfl hl.1 dX7_readLine_24 (Nat.le_of_ble_eq_true rfl) (Nat.le_of_ble_eq_true rfl) (fun b1 H locs hw G => ?_)
      obtain ⟨u0_121, u1_122, u7_123, rfl⟩ := hw
      have G : zS T A s.heap s [z, wd, wg, [(tp, .inl (T.2 1, 600, .inl ft))], [(rd, .inr (7, [.ref rl, .ref rdd, .ref rg, .int u0_121, .int u1_122, .ref tp, .int r2, .int r3, .int r4, .int r5, .int r6, .int u7_123, .int r8]))]] _ _ := G
      have G := G.sub (bs' := [[(rd, .inr (7, [.ref rl, .ref rdd, .ref rg, .int u0_121, .int u1_122, .ref tp, .int r2, .int r3, .int r4, .int r5, .int r6, .int u7_123, .int r8]))], [(tp, .inl (T.2 1, 600, .inl ft))], z, wd, wg]) [4, 3, 0, 1, 2] rfl
      exact z_vret C hr hlocks G (Nat.le_of_ble_eq_true rfl) (Nat.le_of_ble_eq_true rfl) dX7_readLine_27 ⟨u0_121, u1_122, r3, r4, r5, r6, u7_123, r8, z, cr, inn, k1, k2, k3, k4, wd, dd, d1, d2, d3, wg, gg, e1, e2, rfl, hz, (by first | exact hI | assumption), hd, hg, (by first | trivial | assumption | omega)⟩
set_option maxHeartbeats 4000000 in
set_option maxRecDepth 100000 in
/-- c_lookAtWhole -/
theorem c_lookAtWhole (l : Launch) (T : zTy) (rd : Nat) (rl : Nat) (rdd : Nat) (rg : Nat) (tp : Nat) (r0 : Int32) (r1 : Int32) (r2 : Int32) (r3 : Int32) (r4 : Int32) (r5 : Int32) (r6 : Int32) (r7 : Int32) (r8 : Int32) (cr : Int32) (inn : Int32) (k1 : Nat → Int32) (k2 : Nat → Int32) (k3 : Nat → Int32) (k4 : Nat → Int32) (z : va_W) (hz : bLand T rl cr inn k1 k2 k3 k4 z) (hI : zLI cr k1 k3) : zMv l T yX7_lookAtWhole cX7_lookAtWhole 2 2 0 0 [.ref rd] [[(rd, .inr (7, [.ref rl, .ref rdd, .ref rg, .int r0, .int r1, .ref tp, .int r2, .int r3, .int r4, .int r5, .int r6, .int r7, .int r8]))], z] (fun bs => ∃ (u0 : Int32) (u1 : Int32), bs = [[(rd, .inr (7, [.ref rl, .ref rdd, .ref rg, .int u0, .int u1, .ref tp, .int r2, .int r3, .int r4, .int r5, .int r6, .int r7, .int r8]))], z]) := by
  refine zMv_of (own := RX7) (by decide) rfl (Nat.le_of_ble_eq_true rfl) ?_
  intro p e s m args below meth c A ls C hr hlocks hnm hAe G hl
  have hx := C.1
  have hb := C.2.1
  have hl : lv_has ls 2 [(0, .ref rd)] := hl
  refine lv_aload_n hx hb dX7_lookAtWhole_0 rfl (lv_at hl 0 rfl) ?_
  refine z_get C G clX7 0 rfl 12 (by decide) m_fl_RX7_59 rfl dX7_lookAtWhole_1 ?_
  refine lv_aload_n hx hb dX7_lookAtWhole_4 rfl (lv_at hl 0 rfl) ?_
  refine z_get C G clX7 0 rfl 0 (by decide) m_fl_RX7_12 rfl dX7_lookAtWhole_5 ?_
  obtain ⟨a1_1, a2_2, a3_3, a4_4, rfl⟩ := hz
  have G : zS T A s.heap s [[(rd, .inr (7, [.ref rl, .ref rdd, .ref rg, .int r0, .int r1, .ref tp, .int r2, .int r3, .int r4, .int r5, .int r6, .int r7, .int r8]))], [(rl, .inr (4, [.int cr, .int inn, .ref a1_1, .ref a2_2, .ref a3_3, .ref a4_4]))], [(a1_1, .inl (T.2 0, 7, .inl k1))], [(a2_2, .inl (T.2 0, 28, .inl k2))], [(a3_3, .inl (T.2 0, 7, .inl k3))], [(a4_4, .inl (T.2 0, 7, .inl k4))]] _ _ := G.re rfl
  refine z_get C G clX4 1 rfl 0 (by decide) m_fl_RX7_87 rfl dX7_lookAtWhole_8 ?_
  refine lv_ishr hx hb dX7_lookAtWhole_11 ?_
  refine lv_if_eq (tgt := 24) hx hb dX7_lookAtWhole_12 (by decide) (fun c_5 => ?_) (fun c_5 => ?_)
  · have c_5n : (r8 >>> (cr &&& 31)).toInt = (0 : Int) := (fa_eq _ _).mp c_5
    refine lv_iconst (v := 0) hx hb dX7_lookAtWhole_24 (by decide) ?_
    refine lv_istore_n (lv' := [(1, .int 0), (0, .ref rd)]) hx hb dX7_lookAtWhole_25 rfl hl (by decide) rfl (fun ls hl => ?_)
    have hw_6 : bLand T rl cr inn k1 k2 k3 k4 [(rl, .inr (4, [.int cr, .int inn, .ref a1_1, .ref a2_2, .ref a3_3, .ref a4_4])), (a1_1, .inl (T.2 0, 7, .inl k1)), (a2_2, .inl (T.2 0, 28, .inl k2)), (a3_3, .inl (T.2 0, 7, .inl k3)), (a4_4, .inl (T.2 0, 7, .inl k4))] := ⟨a1_1, a2_2, a3_3, a4_4, rfl⟩
    have G : zS T A s.heap s [[(rd, .inr (7, [.ref rl, .ref rdd, .ref rg, .int r0, .int r1, .ref tp, .int r2, .int r3, .int r4, .int r5, .int r6, .int r7, .int r8]))], [(rl, .inr (4, [.int cr, .int inn, .ref a1_1, .ref a2_2, .ref a3_3, .ref a4_4])), (a1_1, .inl (T.2 0, 7, .inl k1)), (a2_2, .inl (T.2 0, 28, .inl k2)), (a3_3, .inl (T.2 0, 7, .inl k3)), (a4_4, .inl (T.2 0, 7, .inl k4))]] _ _ := G.re rfl
    refine z_loop (T := T) (α := Nat × Int32 × Int32) 26 (fun (i, y0, y1) => [[(rd, .inr (7, [.ref rl, .ref rdd, .ref rg, .int y0, .int y1, .ref tp, .int r2, .int r3, .int r4, .int r5, .int r6, .int r7, .int r8]))], [(rl, .inr (4, [.int cr, .int inn, .ref a1_1, .ref a2_2, .ref a3_3, .ref a4_4])), (a1_1, .inl (T.2 0, 7, .inl k1)), (a2_2, .inl (T.2 0, 28, .inl k2)), (a3_3, .inl (T.2 0, 7, .inl k3)), (a4_4, .inl (T.2 0, 7, .inl k4))]]) (fun (i, y0, y1) => [(1, .int (nI i)), (0, .ref rd)]) (fun (i, y0, y1) => i ≤ 7) (fun (i, y0, y1) => 7 - i) ?_ (0, r0, r1) (show 0 ≤ 7 from by omega) G (lv_sub hl [0, 1] rfl)
    rintro ⟨i, y0, y1⟩ hi ih_26 H locs ls G hl
    replace hi : i ≤ 7 := hi
    replace G : zS T A s.heap s [[(rd, .inr (7, [.ref rl, .ref rdd, .ref rg, .int y0, .int y1, .ref tp, .int r2, .int r3, .int r4, .int r5, .int r6, .int r7, .int r8]))], [(rl, .inr (4, [.int cr, .int inn, .ref a1_1, .ref a2_2, .ref a3_3, .ref a4_4])), (a1_1, .inl (T.2 0, 7, .inl k1)), (a2_2, .inl (T.2 0, 28, .inl k2)), (a3_3, .inl (T.2 0, 7, .inl k3)), (a4_4, .inl (T.2 0, 7, .inl k4))]] _ _ := G
    replace hl : lv_has ls 2 [(1, .int (nI i)), (0, .ref rd)] := hl
    refine lv_iload_n hx hb dX7_lookAtWhole_26 rfl (lv_at hl 0 rfl) ?_
    refine lv_bipush (v := 7) hx hb dX7_lookAtWhole_27 (by decide) ?_
    refine lv_icmp_ge (tgt := 80) hx hb dX7_lookAtWhole_29 (by decide) (fun c_7 => ?_) (fun c_7 => ?_)
    · have c_7n : 7 ≤ i := (nI_leI (a := 7) (b := i) (by omega) (by omega)).mp c_7
      exact z_vret C hr hlocks G (Nat.le_of_ble_eq_true rfl) (Nat.le_of_ble_eq_true rfl) dX7_lookAtWhole_80 ⟨y0, y1, rfl⟩
    · have c_7n : ¬ 7 ≤ i := fun q => c_7 ((nI_leI (a := 7) (b := i) (by omega) (by omega)).mpr q)
      refine lv_aload_n hx hb dX7_lookAtWhole_32 rfl (lv_at hl 1 rfl) ?_
      refine z_get C G clX7 0 rfl 0 (by decide) m_fl_RX7_12 rfl dX7_lookAtWhole_33 ?_
      have G : zS T A s.heap s [[(rd, .inr (7, [.ref rl, .ref rdd, .ref rg, .int y0, .int y1, .ref tp, .int r2, .int r3, .int r4, .int r5, .int r6, .int r7, .int r8]))], [(rl, .inr (4, [.int cr, .int inn, .ref a1_1, .ref a2_2, .ref a3_3, .ref a4_4]))], [(a1_1, .inl (T.2 0, 7, .inl k1))], [(a2_2, .inl (T.2 0, 28, .inl k2))], [(a3_3, .inl (T.2 0, 7, .inl k3))], [(a4_4, .inl (T.2 0, 7, .inl k4))]] _ _ := G.re rfl
      refine z_get C G clX4 1 rfl 4 (by decide) m_fl_RX7_94 rfl dX7_lookAtWhole_36 ?_
      refine lv_iload_n hx hb dX7_lookAtWhole_39 rfl (lv_at hl 0 rfl) ?_
      refine z_ild C G 4 rfl (vp_in_nI (by omega) (by omega)) dX7_lookAtWhole_40 ?_
      refine lv_topi (fun v_8 ev_8 => ?_)
      rw [nI_clamp (by omega)] at ev_8
      subst ev_8
      refine lv_if_eq (tgt := 74) hx hb dX7_lookAtWhole_41 (by decide) (fun c_9 => ?_) (fun c_9 => ?_)
      · have c_9n : (k3 i).toInt = (0 : Int) := (fa_eq _ _).mp c_9
        refine lv_iinc (v := nI (i + 1)) (lv' := [(1, .int (nI (i + 1))), (0, .ref rd)]) hx hb dX7_lookAtWhole_74 hl (k := 0) rfl (z_inc i 1) (by decide) rfl (fun ls hl => ?_)
        refine lv_goto (tgt := 26) hx hb dX7_lookAtWhole_77 (by decide) ?_
        have hw_10 : bLand T rl cr inn k1 k2 k3 k4 [(rl, .inr (4, [.int cr, .int inn, .ref a1_1, .ref a2_2, .ref a3_3, .ref a4_4])), (a1_1, .inl (T.2 0, 7, .inl k1)), (a2_2, .inl (T.2 0, 28, .inl k2)), (a3_3, .inl (T.2 0, 7, .inl k3)), (a4_4, .inl (T.2 0, 7, .inl k4))] := ⟨a1_1, a2_2, a3_3, a4_4, rfl⟩
        have G : zS T A s.heap s [[(rd, .inr (7, [.ref rl, .ref rdd, .ref rg, .int y0, .int y1, .ref tp, .int r2, .int r3, .int r4, .int r5, .int r6, .int r7, .int r8]))], [(rl, .inr (4, [.int cr, .int inn, .ref a1_1, .ref a2_2, .ref a3_3, .ref a4_4])), (a1_1, .inl (T.2 0, 7, .inl k1)), (a2_2, .inl (T.2 0, 28, .inl k2)), (a3_3, .inl (T.2 0, 7, .inl k3)), (a4_4, .inl (T.2 0, 7, .inl k4))]] _ _ := G.re rfl
        exact ih_26 ((i + 1), y0, y1) (show (i + 1) ≤ 7 from by omega) (show 7 - (i + 1) < 7 - i from by omega) _ _ ls G (lv_sub hl [0, 1] rfl)
      · have c_9n : ¬ (k3 i).toInt = (0 : Int) := fun q => c_9 ((fa_eq _ _).mpr q)
        refine lv_aload_n hx hb dX7_lookAtWhole_44 rfl (lv_at hl 1 rfl) ?_
        refine z_get C G clX7 0 rfl 0 (by decide) m_fl_RX7_12 rfl dX7_lookAtWhole_45 ?_
        refine z_get C G clX4 1 rfl 4 (by decide) m_fl_RX7_94 rfl dX7_lookAtWhole_48 ?_
        refine lv_iload_n hx hb dX7_lookAtWhole_51 rfl (lv_at hl 0 rfl) ?_
        refine z_ild C G 4 rfl (vp_in_nI (by omega) (by omega)) dX7_lookAtWhole_52 ?_
        refine lv_topi (fun v_11 ev_11 => ?_)
        rw [nI_clamp (by omega)] at ev_11
        subst ev_11
        refine lv_aload_n hx hb dX7_lookAtWhole_53 rfl (lv_at hl 1 rfl) ?_
        refine z_get C G clX7 0 rfl 0 (by decide) m_fl_RX7_12 rfl dX7_lookAtWhole_54 ?_
        refine z_get C G clX4 1 rfl 2 (by decide) m_fl_RX7_98 rfl dX7_lookAtWhole_57 ?_
        refine lv_iload_n hx hb dX7_lookAtWhole_60 rfl (lv_at hl 0 rfl) ?_
        refine z_ild C G 2 rfl (vp_in_nI (by omega) (by omega)) dX7_lookAtWhole_61 ?_
        refine lv_topi (fun v_12 ev_12 => ?_)
        rw [nI_clamp (by omega)] at ev_12
        subst ev_12
        refine lv_icmp_lt (tgt := 74) hx hb dX7_lookAtWhole_62 (by decide) (fun c_13 => ?_) (fun c_13 => ?_)
        · have c_13n : (k3 i).toInt < (k1 i).toInt := (fa_lt _ _).mp c_13
          refine lv_iinc (v := nI (i + 1)) (lv' := [(1, .int (nI (i + 1))), (0, .ref rd)]) hx hb dX7_lookAtWhole_74 hl (k := 0) rfl (z_inc i 1) (by decide) rfl (fun ls hl => ?_)
          refine lv_goto (tgt := 26) hx hb dX7_lookAtWhole_77 (by decide) ?_
          have hw_14 : bLand T rl cr inn k1 k2 k3 k4 [(rl, .inr (4, [.int cr, .int inn, .ref a1_1, .ref a2_2, .ref a3_3, .ref a4_4])), (a1_1, .inl (T.2 0, 7, .inl k1)), (a2_2, .inl (T.2 0, 28, .inl k2)), (a3_3, .inl (T.2 0, 7, .inl k3)), (a4_4, .inl (T.2 0, 7, .inl k4))] := ⟨a1_1, a2_2, a3_3, a4_4, rfl⟩
          have G : zS T A s.heap s [[(rd, .inr (7, [.ref rl, .ref rdd, .ref rg, .int y0, .int y1, .ref tp, .int r2, .int r3, .int r4, .int r5, .int r6, .int r7, .int r8]))], [(rl, .inr (4, [.int cr, .int inn, .ref a1_1, .ref a2_2, .ref a3_3, .ref a4_4])), (a1_1, .inl (T.2 0, 7, .inl k1)), (a2_2, .inl (T.2 0, 28, .inl k2)), (a3_3, .inl (T.2 0, 7, .inl k3)), (a4_4, .inl (T.2 0, 7, .inl k4))]] _ _ := G.re rfl
          exact ih_26 ((i + 1), y0, y1) (show (i + 1) ≤ 7 from by omega) (show 7 - (i + 1) < 7 - i from by omega) _ _ ls G (lv_sub hl [0, 1] rfl)
        · have c_13n : ¬ (k3 i).toInt < (k1 i).toInt := fun q => c_13 ((fa_lt _ _).mpr q)
          refine lv_aload_n hx hb dX7_lookAtWhole_65 rfl (lv_at hl 1 rfl) ?_
          refine lv_iconst (v := 5) hx hb dX7_lookAtWhole_66 (by decide) ?_
          refine lv_aload_n hx hb dX7_lookAtWhole_67 rfl (lv_at hl 1 rfl) ?_
          refine z_get C G clX7 0 rfl 6 (by decide) m_fl_RX7_42 rfl dX7_lookAtWhole_68 ?_
          refine z_Vv (bc := [[(rd, .inr (7, [.ref rl, .ref rdd, .ref rg, .int y0, .int y1, .ref tp, .int r2, .int r3, .int r4, .int r5, .int r6, .int r7, .int r8]))]]) (br := [[(rl, .inr (4, [.int cr, .int inn, .ref a1_1, .ref a2_2, .ref a3_3, .ref a4_4]))], [(a1_1, .inl (T.2 0, 7, .inl k1))], [(a2_2, .inl (T.2 0, 28, .inl k2))], [(a3_3, .inl (T.2 0, 7, .inl k3))], [(a4_4, .inl (T.2 0, 7, .inl k4))]]) (As := [.int 5, .int r2]) (rest := []) C G (c_note l T rd rl rdd rg tp y0 y1 r2 r3 r4 r5 r6 r7 r8 5 r2) (kV_RX7_90 C.2.2.2.2 (Nat.le_of_ble_eq_true rfl) (Nat.le_of_ble_eq_true rfl)) [0] [1, 2, 3, 4, 5] rfl rfl (ci := 7) (qc := (RX7, TX7, 13)) rfl rfl (List.mem_flatten.mpr ⟨_, List.mem_of_getElem? (i := 0) rfl, List.mem_cons_self⟩) rfl rfl hl.1 dX7_lookAtWhole_71 (Nat.le_of_ble_eq_true rfl) (Nat.le_of_ble_eq_true rfl) (fun b1 H locs hw G => ?_)
          obtain ⟨u0_15, u1_16, rfl⟩ := hw
          have G : zS T A s.heap s [[(rl, .inr (4, [.int cr, .int inn, .ref a1_1, .ref a2_2, .ref a3_3, .ref a4_4]))], [(a1_1, .inl (T.2 0, 7, .inl k1))], [(a2_2, .inl (T.2 0, 28, .inl k2))], [(a3_3, .inl (T.2 0, 7, .inl k3))], [(a4_4, .inl (T.2 0, 7, .inl k4))], [(rd, .inr (7, [.ref rl, .ref rdd, .ref rg, .int u0_15, .int u1_16, .ref tp, .int r2, .int r3, .int r4, .int r5, .int r6, .int r7, .int r8]))]] _ _ := G
          refine lv_iinc (v := nI (i + 1)) (lv' := [(1, .int (nI (i + 1))), (0, .ref rd)]) hx hb dX7_lookAtWhole_74 hl (k := 0) rfl (z_inc i 1) (by decide) rfl (fun ls hl => ?_)
          refine lv_goto (tgt := 26) hx hb dX7_lookAtWhole_77 (by decide) ?_
          have hw_18 : bLand T rl cr inn k1 k2 k3 k4 [(rl, .inr (4, [.int cr, .int inn, .ref a1_1, .ref a2_2, .ref a3_3, .ref a4_4])), (a1_1, .inl (T.2 0, 7, .inl k1)), (a2_2, .inl (T.2 0, 28, .inl k2)), (a3_3, .inl (T.2 0, 7, .inl k3)), (a4_4, .inl (T.2 0, 7, .inl k4))] := ⟨a1_1, a2_2, a3_3, a4_4, rfl⟩
          have G : zS T A s.heap s [[(rl, .inr (4, [.int cr, .int inn, .ref a1_1, .ref a2_2, .ref a3_3, .ref a4_4])), (a1_1, .inl (T.2 0, 7, .inl k1)), (a2_2, .inl (T.2 0, 28, .inl k2)), (a3_3, .inl (T.2 0, 7, .inl k3)), (a4_4, .inl (T.2 0, 7, .inl k4))], [(rd, .inr (7, [.ref rl, .ref rdd, .ref rg, .int u0_15, .int u1_16, .ref tp, .int r2, .int r3, .int r4, .int r5, .int r6, .int r7, .int r8]))]] _ _ := G.re rfl
          have G := G.sub (bs' := [[(rd, .inr (7, [.ref rl, .ref rdd, .ref rg, .int u0_15, .int u1_16, .ref tp, .int r2, .int r3, .int r4, .int r5, .int r6, .int r7, .int r8]))], [(rl, .inr (4, [.int cr, .int inn, .ref a1_1, .ref a2_2, .ref a3_3, .ref a4_4])), (a1_1, .inl (T.2 0, 7, .inl k1)), (a2_2, .inl (T.2 0, 28, .inl k2)), (a3_3, .inl (T.2 0, 7, .inl k3)), (a4_4, .inl (T.2 0, 7, .inl k4))]]) [1, 0] rfl
          exact ih_26 ((i + 1), u0_15, u1_16) (show (i + 1) ≤ 7 from by omega) (show 7 - (i + 1) < 7 - i from by omega) _ _ ls G (lv_sub hl [0, 1] rfl)
  · have c_5n : ¬ (r8 >>> (cr &&& 31)).toInt = (0 : Int) := fun q => c_5 ((fa_eq _ _).mpr q)
    refine lv_aload_n hx hb dX7_lookAtWhole_15 rfl (lv_at hl 0 rfl) ?_
    refine lv_iconst (v := 4) hx hb dX7_lookAtWhole_16 (by decide) ?_
    refine lv_aload_n hx hb dX7_lookAtWhole_17 rfl (lv_at hl 0 rfl) ?_
    refine z_get C G clX7 0 rfl 6 (by decide) m_fl_RX7_42 rfl dX7_lookAtWhole_18 ?_
    refine z_Vv (bc := [[(rd, .inr (7, [.ref rl, .ref rdd, .ref rg, .int r0, .int r1, .ref tp, .int r2, .int r3, .int r4, .int r5, .int r6, .int r7, .int r8]))]]) (br := [[(rl, .inr (4, [.int cr, .int inn, .ref a1_1, .ref a2_2, .ref a3_3, .ref a4_4]))], [(a1_1, .inl (T.2 0, 7, .inl k1))], [(a2_2, .inl (T.2 0, 28, .inl k2))], [(a3_3, .inl (T.2 0, 7, .inl k3))], [(a4_4, .inl (T.2 0, 7, .inl k4))]]) (As := [.int 4, .int r2]) (rest := []) C G (c_note l T rd rl rdd rg tp r0 r1 r2 r3 r4 r5 r6 r7 r8 4 r2) (kV_RX7_90 C.2.2.2.2 (Nat.le_of_ble_eq_true rfl) (Nat.le_of_ble_eq_true rfl)) [0] [1, 2, 3, 4, 5] rfl rfl (ci := 7) (qc := (RX7, TX7, 13)) rfl rfl (List.mem_flatten.mpr ⟨_, List.mem_of_getElem? (i := 0) rfl, List.mem_cons_self⟩) rfl rfl hl.1 dX7_lookAtWhole_21 (Nat.le_of_ble_eq_true rfl) (Nat.le_of_ble_eq_true rfl) (fun b1 H locs hw G => ?_)
    obtain ⟨u0_19, u1_20, rfl⟩ := hw
    have G : zS T A s.heap s [[(rl, .inr (4, [.int cr, .int inn, .ref a1_1, .ref a2_2, .ref a3_3, .ref a4_4]))], [(a1_1, .inl (T.2 0, 7, .inl k1))], [(a2_2, .inl (T.2 0, 28, .inl k2))], [(a3_3, .inl (T.2 0, 7, .inl k3))], [(a4_4, .inl (T.2 0, 7, .inl k4))], [(rd, .inr (7, [.ref rl, .ref rdd, .ref rg, .int u0_19, .int u1_20, .ref tp, .int r2, .int r3, .int r4, .int r5, .int r6, .int r7, .int r8]))]] _ _ := G
    refine lv_iconst (v := 0) hx hb dX7_lookAtWhole_24 (by decide) ?_
    refine lv_istore_n (lv' := [(1, .int 0), (0, .ref rd)]) hx hb dX7_lookAtWhole_25 rfl hl (by decide) rfl (fun ls hl => ?_)
    have hw_22 : bLand T rl cr inn k1 k2 k3 k4 [(rl, .inr (4, [.int cr, .int inn, .ref a1_1, .ref a2_2, .ref a3_3, .ref a4_4])), (a1_1, .inl (T.2 0, 7, .inl k1)), (a2_2, .inl (T.2 0, 28, .inl k2)), (a3_3, .inl (T.2 0, 7, .inl k3)), (a4_4, .inl (T.2 0, 7, .inl k4))] := ⟨a1_1, a2_2, a3_3, a4_4, rfl⟩
    have G : zS T A s.heap s [[(rl, .inr (4, [.int cr, .int inn, .ref a1_1, .ref a2_2, .ref a3_3, .ref a4_4])), (a1_1, .inl (T.2 0, 7, .inl k1)), (a2_2, .inl (T.2 0, 28, .inl k2)), (a3_3, .inl (T.2 0, 7, .inl k3)), (a4_4, .inl (T.2 0, 7, .inl k4))], [(rd, .inr (7, [.ref rl, .ref rdd, .ref rg, .int u0_19, .int u1_20, .ref tp, .int r2, .int r3, .int r4, .int r5, .int r6, .int r7, .int r8]))]] _ _ := G.re rfl
    refine z_loop (T := T) (α := Nat × Int32 × Int32) 26 (fun (i, y0, y1) => [[(rl, .inr (4, [.int cr, .int inn, .ref a1_1, .ref a2_2, .ref a3_3, .ref a4_4])), (a1_1, .inl (T.2 0, 7, .inl k1)), (a2_2, .inl (T.2 0, 28, .inl k2)), (a3_3, .inl (T.2 0, 7, .inl k3)), (a4_4, .inl (T.2 0, 7, .inl k4))], [(rd, .inr (7, [.ref rl, .ref rdd, .ref rg, .int y0, .int y1, .ref tp, .int r2, .int r3, .int r4, .int r5, .int r6, .int r7, .int r8]))]]) (fun (i, y0, y1) => [(1, .int (nI i)), (0, .ref rd)]) (fun (i, y0, y1) => i ≤ 7) (fun (i, y0, y1) => 7 - i) ?_ (0, u0_19, u1_20) (show 0 ≤ 7 from by omega) G (lv_sub hl [0, 1] rfl)
    rintro ⟨i, y0, y1⟩ hi ih_26 H locs ls G hl
    replace hi : i ≤ 7 := hi
    replace G : zS T A s.heap s [[(rl, .inr (4, [.int cr, .int inn, .ref a1_1, .ref a2_2, .ref a3_3, .ref a4_4])), (a1_1, .inl (T.2 0, 7, .inl k1)), (a2_2, .inl (T.2 0, 28, .inl k2)), (a3_3, .inl (T.2 0, 7, .inl k3)), (a4_4, .inl (T.2 0, 7, .inl k4))], [(rd, .inr (7, [.ref rl, .ref rdd, .ref rg, .int y0, .int y1, .ref tp, .int r2, .int r3, .int r4, .int r5, .int r6, .int r7, .int r8]))]] _ _ := G
    replace hl : lv_has ls 2 [(1, .int (nI i)), (0, .ref rd)] := hl
    refine lv_iload_n hx hb dX7_lookAtWhole_26 rfl (lv_at hl 0 rfl) ?_
    refine lv_bipush (v := 7) hx hb dX7_lookAtWhole_27 (by decide) ?_
    refine lv_icmp_ge (tgt := 80) hx hb dX7_lookAtWhole_29 (by decide) (fun c_23 => ?_) (fun c_23 => ?_)
    · have c_23n : 7 ≤ i := (nI_leI (a := 7) (b := i) (by omega) (by omega)).mp c_23
      have G := G.sub (bs' := [[(rd, .inr (7, [.ref rl, .ref rdd, .ref rg, .int y0, .int y1, .ref tp, .int r2, .int r3, .int r4, .int r5, .int r6, .int r7, .int r8]))], [(rl, .inr (4, [.int cr, .int inn, .ref a1_1, .ref a2_2, .ref a3_3, .ref a4_4])), (a1_1, .inl (T.2 0, 7, .inl k1)), (a2_2, .inl (T.2 0, 28, .inl k2)), (a3_3, .inl (T.2 0, 7, .inl k3)), (a4_4, .inl (T.2 0, 7, .inl k4))]]) [1, 0] rfl
      exact z_vret C hr hlocks G (Nat.le_of_ble_eq_true rfl) (Nat.le_of_ble_eq_true rfl) dX7_lookAtWhole_80 ⟨y0, y1, rfl⟩
    · have c_23n : ¬ 7 ≤ i := fun q => c_23 ((nI_leI (a := 7) (b := i) (by omega) (by omega)).mpr q)
      refine lv_aload_n hx hb dX7_lookAtWhole_32 rfl (lv_at hl 1 rfl) ?_
      refine z_get C G clX7 1 rfl 0 (by decide) m_fl_RX7_12 rfl dX7_lookAtWhole_33 ?_
      have G : zS T A s.heap s [[(rl, .inr (4, [.int cr, .int inn, .ref a1_1, .ref a2_2, .ref a3_3, .ref a4_4]))], [(a1_1, .inl (T.2 0, 7, .inl k1))], [(a2_2, .inl (T.2 0, 28, .inl k2))], [(a3_3, .inl (T.2 0, 7, .inl k3))], [(a4_4, .inl (T.2 0, 7, .inl k4))], [(rd, .inr (7, [.ref rl, .ref rdd, .ref rg, .int y0, .int y1, .ref tp, .int r2, .int r3, .int r4, .int r5, .int r6, .int r7, .int r8]))]] _ _ := G.re rfl
      refine z_get C G clX4 0 rfl 4 (by decide) m_fl_RX7_94 rfl dX7_lookAtWhole_36 ?_
      refine lv_iload_n hx hb dX7_lookAtWhole_39 rfl (lv_at hl 0 rfl) ?_
      refine z_ild C G 3 rfl (vp_in_nI (by omega) (by omega)) dX7_lookAtWhole_40 ?_
      refine lv_topi (fun v_24 ev_24 => ?_)
      rw [nI_clamp (by omega)] at ev_24
      subst ev_24
      refine lv_if_eq (tgt := 74) hx hb dX7_lookAtWhole_41 (by decide) (fun c_25 => ?_) (fun c_25 => ?_)
      · have c_25n : (k3 i).toInt = (0 : Int) := (fa_eq _ _).mp c_25
        refine lv_iinc (v := nI (i + 1)) (lv' := [(1, .int (nI (i + 1))), (0, .ref rd)]) hx hb dX7_lookAtWhole_74 hl (k := 0) rfl (z_inc i 1) (by decide) rfl (fun ls hl => ?_)
        refine lv_goto (tgt := 26) hx hb dX7_lookAtWhole_77 (by decide) ?_
        have hw_26 : bLand T rl cr inn k1 k2 k3 k4 [(rl, .inr (4, [.int cr, .int inn, .ref a1_1, .ref a2_2, .ref a3_3, .ref a4_4])), (a1_1, .inl (T.2 0, 7, .inl k1)), (a2_2, .inl (T.2 0, 28, .inl k2)), (a3_3, .inl (T.2 0, 7, .inl k3)), (a4_4, .inl (T.2 0, 7, .inl k4))] := ⟨a1_1, a2_2, a3_3, a4_4, rfl⟩
        have G : zS T A s.heap s [[(rl, .inr (4, [.int cr, .int inn, .ref a1_1, .ref a2_2, .ref a3_3, .ref a4_4])), (a1_1, .inl (T.2 0, 7, .inl k1)), (a2_2, .inl (T.2 0, 28, .inl k2)), (a3_3, .inl (T.2 0, 7, .inl k3)), (a4_4, .inl (T.2 0, 7, .inl k4))], [(rd, .inr (7, [.ref rl, .ref rdd, .ref rg, .int y0, .int y1, .ref tp, .int r2, .int r3, .int r4, .int r5, .int r6, .int r7, .int r8]))]] _ _ := G.re rfl
        exact ih_26 ((i + 1), y0, y1) (show (i + 1) ≤ 7 from by omega) (show 7 - (i + 1) < 7 - i from by omega) _ _ ls G (lv_sub hl [0, 1] rfl)
      · have c_25n : ¬ (k3 i).toInt = (0 : Int) := fun q => c_25 ((fa_eq _ _).mpr q)
        refine lv_aload_n hx hb dX7_lookAtWhole_44 rfl (lv_at hl 1 rfl) ?_
        refine z_get C G clX7 5 rfl 0 (by decide) m_fl_RX7_12 rfl dX7_lookAtWhole_45 ?_
        refine z_get C G clX4 0 rfl 4 (by decide) m_fl_RX7_94 rfl dX7_lookAtWhole_48 ?_
        refine lv_iload_n hx hb dX7_lookAtWhole_51 rfl (lv_at hl 0 rfl) ?_
        refine z_ild C G 3 rfl (vp_in_nI (by omega) (by omega)) dX7_lookAtWhole_52 ?_
        refine lv_topi (fun v_27 ev_27 => ?_)
        rw [nI_clamp (by omega)] at ev_27
        subst ev_27
        refine lv_aload_n hx hb dX7_lookAtWhole_53 rfl (lv_at hl 1 rfl) ?_
        refine z_get C G clX7 5 rfl 0 (by decide) m_fl_RX7_12 rfl dX7_lookAtWhole_54 ?_
        refine z_get C G clX4 0 rfl 2 (by decide) m_fl_RX7_98 rfl dX7_lookAtWhole_57 ?_
        refine lv_iload_n hx hb dX7_lookAtWhole_60 rfl (lv_at hl 0 rfl) ?_
        refine z_ild C G 1 rfl (vp_in_nI (by omega) (by omega)) dX7_lookAtWhole_61 ?_
        refine lv_topi (fun v_28 ev_28 => ?_)
        rw [nI_clamp (by omega)] at ev_28
        subst ev_28
        refine lv_icmp_lt (tgt := 74) hx hb dX7_lookAtWhole_62 (by decide) (fun c_29 => ?_) (fun c_29 => ?_)
        · have c_29n : (k3 i).toInt < (k1 i).toInt := (fa_lt _ _).mp c_29
          refine lv_iinc (v := nI (i + 1)) (lv' := [(1, .int (nI (i + 1))), (0, .ref rd)]) hx hb dX7_lookAtWhole_74 hl (k := 0) rfl (z_inc i 1) (by decide) rfl (fun ls hl => ?_)
          refine lv_goto (tgt := 26) hx hb dX7_lookAtWhole_77 (by decide) ?_
          have hw_30 : bLand T rl cr inn k1 k2 k3 k4 [(rl, .inr (4, [.int cr, .int inn, .ref a1_1, .ref a2_2, .ref a3_3, .ref a4_4])), (a1_1, .inl (T.2 0, 7, .inl k1)), (a2_2, .inl (T.2 0, 28, .inl k2)), (a3_3, .inl (T.2 0, 7, .inl k3)), (a4_4, .inl (T.2 0, 7, .inl k4))] := ⟨a1_1, a2_2, a3_3, a4_4, rfl⟩
          have G : zS T A s.heap s [[(rl, .inr (4, [.int cr, .int inn, .ref a1_1, .ref a2_2, .ref a3_3, .ref a4_4])), (a1_1, .inl (T.2 0, 7, .inl k1)), (a2_2, .inl (T.2 0, 28, .inl k2)), (a3_3, .inl (T.2 0, 7, .inl k3)), (a4_4, .inl (T.2 0, 7, .inl k4))], [(rd, .inr (7, [.ref rl, .ref rdd, .ref rg, .int y0, .int y1, .ref tp, .int r2, .int r3, .int r4, .int r5, .int r6, .int r7, .int r8]))]] _ _ := G.re rfl
          exact ih_26 ((i + 1), y0, y1) (show (i + 1) ≤ 7 from by omega) (show 7 - (i + 1) < 7 - i from by omega) _ _ ls G (lv_sub hl [0, 1] rfl)
        · have c_29n : ¬ (k3 i).toInt < (k1 i).toInt := fun q => c_29 ((fa_lt _ _).mpr q)
          refine lv_aload_n hx hb dX7_lookAtWhole_65 rfl (lv_at hl 1 rfl) ?_
          refine lv_iconst (v := 5) hx hb dX7_lookAtWhole_66 (by decide) ?_
          refine lv_aload_n hx hb dX7_lookAtWhole_67 rfl (lv_at hl 1 rfl) ?_
          refine z_get C G clX7 5 rfl 6 (by decide) m_fl_RX7_42 rfl dX7_lookAtWhole_68 ?_
          refine z_Vv (bc := [[(rd, .inr (7, [.ref rl, .ref rdd, .ref rg, .int y0, .int y1, .ref tp, .int r2, .int r3, .int r4, .int r5, .int r6, .int r7, .int r8]))]]) (br := [[(rl, .inr (4, [.int cr, .int inn, .ref a1_1, .ref a2_2, .ref a3_3, .ref a4_4]))], [(a1_1, .inl (T.2 0, 7, .inl k1))], [(a2_2, .inl (T.2 0, 28, .inl k2))], [(a3_3, .inl (T.2 0, 7, .inl k3))], [(a4_4, .inl (T.2 0, 7, .inl k4))]]) (As := [.int 5, .int r2]) (rest := []) C G (c_note l T rd rl rdd rg tp y0 y1 r2 r3 r4 r5 r6 r7 r8 5 r2) (kV_RX7_90 C.2.2.2.2 (Nat.le_of_ble_eq_true rfl) (Nat.le_of_ble_eq_true rfl)) [5] [0, 1, 2, 3, 4] rfl rfl (ci := 7) (qc := (RX7, TX7, 13)) rfl rfl (List.mem_flatten.mpr ⟨_, List.mem_of_getElem? (i := 0) rfl, List.mem_cons_self⟩) rfl rfl hl.1 dX7_lookAtWhole_71 (Nat.le_of_ble_eq_true rfl) (Nat.le_of_ble_eq_true rfl) (fun b1 H locs hw G => ?_)
          obtain ⟨u0_31, u1_32, rfl⟩ := hw
          have G : zS T A s.heap s [[(rl, .inr (4, [.int cr, .int inn, .ref a1_1, .ref a2_2, .ref a3_3, .ref a4_4]))], [(a1_1, .inl (T.2 0, 7, .inl k1))], [(a2_2, .inl (T.2 0, 28, .inl k2))], [(a3_3, .inl (T.2 0, 7, .inl k3))], [(a4_4, .inl (T.2 0, 7, .inl k4))], [(rd, .inr (7, [.ref rl, .ref rdd, .ref rg, .int u0_31, .int u1_32, .ref tp, .int r2, .int r3, .int r4, .int r5, .int r6, .int r7, .int r8]))]] _ _ := G
          refine lv_iinc (v := nI (i + 1)) (lv' := [(1, .int (nI (i + 1))), (0, .ref rd)]) hx hb dX7_lookAtWhole_74 hl (k := 0) rfl (z_inc i 1) (by decide) rfl (fun ls hl => ?_)
          refine lv_goto (tgt := 26) hx hb dX7_lookAtWhole_77 (by decide) ?_
          have hw_34 : bLand T rl cr inn k1 k2 k3 k4 [(rl, .inr (4, [.int cr, .int inn, .ref a1_1, .ref a2_2, .ref a3_3, .ref a4_4])), (a1_1, .inl (T.2 0, 7, .inl k1)), (a2_2, .inl (T.2 0, 28, .inl k2)), (a3_3, .inl (T.2 0, 7, .inl k3)), (a4_4, .inl (T.2 0, 7, .inl k4))] := ⟨a1_1, a2_2, a3_3, a4_4, rfl⟩
          have G : zS T A s.heap s [[(rl, .inr (4, [.int cr, .int inn, .ref a1_1, .ref a2_2, .ref a3_3, .ref a4_4])), (a1_1, .inl (T.2 0, 7, .inl k1)), (a2_2, .inl (T.2 0, 28, .inl k2)), (a3_3, .inl (T.2 0, 7, .inl k3)), (a4_4, .inl (T.2 0, 7, .inl k4))], [(rd, .inr (7, [.ref rl, .ref rdd, .ref rg, .int u0_31, .int u1_32, .ref tp, .int r2, .int r3, .int r4, .int r5, .int r6, .int r7, .int r8]))]] _ _ := G.re rfl
          exact ih_26 ((i + 1), u0_31, u1_32) (show (i + 1) ≤ 7 from by omega) (show 7 - (i + 1) < 7 - i from by omega) _ _ ls G (lv_sub hl [0, 1] rfl)
set_option maxHeartbeats 4000000 in
set_option maxRecDepth 100000 in
/-- read -/
theorem c_read (l : Launch) (T : zTy) (rd : Nat) (rl : Nat) (rdd : Nat) (rg : Nat) (tp : Nat) (r0 : Int32) (r1 : Int32) (r2 : Int32) (r3 : Int32) (r4 : Int32) (r5 : Int32) (r6 : Int32) (r7 : Int32) (r8 : Int32) (tq : Nat) (ft : Nat → Int32) (cr : Int32) (inn : Int32) (k1 : Nat → Int32) (k2 : Nat → Int32) (k3 : Nat → Int32) (k4 : Nat → Int32) (z : va_W) (dd : Int32) (d1 : Nat → Int32) (d2 : Nat → Int32) (d3 : Nat → Int32) (wd : va_W) (gg : Int32) (e1 : Nat → Int32) (e2 : Nat → Int32) (wg : va_W) (n : Int32) (x : Int32) (hz : bLand T rl cr inn k1 k2 k3 k4 z) (hd : bDay T rdd dd d1 d2 d3 wd) (hg : bLog T rg gg e1 e2 wg) (hn0 : 0 ≤ n.toInt) (h56 : (0 ≤ r5.toInt ∧ r5.toInt ≤ 600) ∧ 0 ≤ r6.toInt ∧ r6.toInt ≤ 1000) : zMv l T yX7_read cX7_read 5 8 0 0 [.ref rd, .ref tp, .int n, .int x] [[(rd, .inr (7, [.ref rl, .ref rdd, .ref rg, .int r0, .int r1, .ref tq, .int r2, .int r3, .int r4, .int r5, .int r6, .int r7, .int r8]))], [(tp, .inl (T.2 1, 600, .inl ft))], z, wd, wg] (fun bs => ∃ (u2 : Int32) (u0 : Int32) (u1 : Int32) (u3 : Int32) (u4 : Int32) (u5 : Int32) (u6 : Int32) (u7 : Int32) (u8 : Int32) (z2 : va_W) (c2 : Int32) (i2 : Int32) (j1 : Nat → Int32) (j2 : Nat → Int32) (j3 : Nat → Int32) (j4 : Nat → Int32) (wd2 : va_W) (dd2 : Int32) (b1 : Nat → Int32) (b2 : Nat → Int32) (b3 : Nat → Int32) (wg2 : va_W) (gg2 : Int32) (b4 : Nat → Int32) (b5 : Nat → Int32), bs = [[(rd, .inr (7, [.ref rl, .ref rdd, .ref rg, .int u0, .int u1, .ref tp, .int u2, .int u3, .int u4, .int u5, .int u6, .int u7, .int u8]))], [(tp, .inl (T.2 1, 600, .inl ft))], z2, wd2, wg2] ∧ bLand T rl c2 i2 j1 j2 j3 j4 z2 ∧ zLI c2 j1 j3 ∧ bDay T rdd dd2 b1 b2 b3 wd2 ∧ bLog T rg gg2 b4 b5 wg2 ∧ (0 ≤ u2.toInt ∧ u2.toInt ≤ 600) ∧ (0 ≤ u3.toInt ∧ u3.toInt ≤ u2.toInt) ∧ (0 ≤ u5.toInt ∧ u5.toInt ≤ 600) ∧ 0 ≤ u6.toInt ∧ u6.toInt ≤ 1000) := by
  refine zMv_of (own := RX7) (by decide) rfl (Nat.le_of_ble_eq_true rfl) ?_
  intro p e s m args below meth c A ls C hr hlocks hnm hAe G hl
  have hx := C.1
  have hb := C.2.1
  have hl : lv_has ls 5 [(0, .ref rd), (1, .ref tp), (2, .int n), (3, .int x)] := hl
  refine lv_aload_n hx hb dX7_read_0 rfl (lv_at hl 0 rfl) ?_
  refine lv_aload_n hx hb dX7_read_1 rfl (lv_at hl 1 rfl) ?_
  refine z_put C G clX7 0 rfl 5 (by decide) m_fl_RX7_32 rfl rfl rfl (Nat.le_of_ble_eq_true rfl) dX7_read_2 (fun H locs G => ?_)
  have G : zS T A s.heap s [[(rd, .inr (7, [.ref rl, .ref rdd, .ref rg, .int r0, .int r1, .ref tp, .int r2, .int r3, .int r4, .int r5, .int r6, .int r7, .int r8]))], [(tp, .inl (T.2 1, 600, .inl ft))], z, wd, wg] _ _ := G
  refine lv_aload_n hx hb dX7_read_5 rfl (lv_at hl 0 rfl) ?_
  refine lv_iload_n hx hb dX7_read_6 rfl (lv_at hl 2 rfl) ?_
  refine lv_aload_n hx hb dX7_read_7 rfl (lv_at hl 1 rfl) ?_
  refine z_alen C G 1 1 rfl (v := 600) rfl rfl dX7_read_8 ?_
  refine va_mmin hx hb (C.2.2.1.trans hl.1.symm) C.2.2.2.1 (C.2.2.2.2 _ m_ml_RX7_36) (C.2.2.2.2 _ m_st_math_min) (C.2.2.2.2 _ m_ii_math) (C.2.2.2.2 _ m_co_math_min) (Nat.le_of_ble_eq_true rfl) (Nat.le_of_ble_eq_true rfl) (Nat.le_of_ble_eq_true rfl) (Nat.le_of_ble_eq_true rfl) dX7_read_9 ?_
  refine lv_topi (fun v_1 ev_1 => ?_)
  have hlen : 0 ≤ v_1.toInt ∧ v_1.toInt ≤ 600 := by rw [ev_1]; exact z_min600 hn0
  refine z_put C G clX7 0 rfl 6 (by decide) m_fl_RX7_42 rfl rfl rfl (Nat.le_of_ble_eq_true rfl) dX7_read_12 (fun H locs G => ?_)
  have G : zS T A s.heap s [[(rd, .inr (7, [.ref rl, .ref rdd, .ref rg, .int r0, .int r1, .ref tp, .int v_1, .int r3, .int r4, .int r5, .int r6, .int r7, .int r8]))], [(tp, .inl (T.2 1, 600, .inl ft))], z, wd, wg] _ _ := G
  refine lv_aload_n hx hb dX7_read_15 rfl (lv_at hl 0 rfl) ?_
  refine lv_iconst (v := 0) hx hb dX7_read_16 (by decide) ?_
  refine z_put C G clX7 0 rfl 7 (by decide) m_fl_RX7_46 rfl rfl rfl (Nat.le_of_ble_eq_true rfl) dX7_read_17 (fun H locs G => ?_)
  have G : zS T A s.heap s [[(rd, .inr (7, [.ref rl, .ref rdd, .ref rg, .int r0, .int r1, .ref tp, .int v_1, .int 0, .int r4, .int r5, .int r6, .int r7, .int r8]))], [(tp, .inl (T.2 1, 600, .inl ft))], z, wd, wg] _ _ := G
  refine lv_aload_n hx hb dX7_read_20 rfl (lv_at hl 0 rfl) ?_
  refine lv_iconst (v := 0) hx hb dX7_read_21 (by decide) ?_
  refine z_put C G clX7 0 rfl 3 (by decide) m_fl_RX7_49 rfl rfl rfl (Nat.le_of_ble_eq_true rfl) dX7_read_22 (fun H locs G => ?_)
  have G : zS T A s.heap s [[(rd, .inr (7, [.ref rl, .ref rdd, .ref rg, .int 0, .int r1, .ref tp, .int v_1, .int 0, .int r4, .int r5, .int r6, .int r7, .int r8]))], [(tp, .inl (T.2 1, 600, .inl ft))], z, wd, wg] _ _ := G
  refine lv_aload_n hx hb dX7_read_25 rfl (lv_at hl 0 rfl) ?_
  refine lv_iconst (v := (-1)) hx hb dX7_read_26 (by decide) ?_
  refine z_put C G clX7 0 rfl 4 (by decide) m_fl_RX7_52 rfl rfl rfl (Nat.le_of_ble_eq_true rfl) dX7_read_27 (fun H locs G => ?_)
  have G : zS T A s.heap s [[(rd, .inr (7, [.ref rl, .ref rdd, .ref rg, .int 0, .int (-1), .ref tp, .int v_1, .int 0, .int r4, .int r5, .int r6, .int r7, .int r8]))], [(tp, .inl (T.2 1, 600, .inl ft))], z, wd, wg] _ _ := G
  refine lv_aload_n hx hb dX7_read_30 rfl (lv_at hl 0 rfl) ?_
  refine lv_iconst (v := 0) hx hb dX7_read_31 (by decide) ?_
  refine z_put C G clX7 0 rfl 11 (by decide) m_fl_RX7_55 rfl rfl rfl (Nat.le_of_ble_eq_true rfl) dX7_read_32 (fun H locs G => ?_)
  have G : zS T A s.heap s [[(rd, .inr (7, [.ref rl, .ref rdd, .ref rg, .int 0, .int (-1), .ref tp, .int v_1, .int 0, .int r4, .int r5, .int r6, .int 0, .int r8]))], [(tp, .inl (T.2 1, 600, .inl ft))], z, wd, wg] _ _ := G
  refine lv_aload_n hx hb dX7_read_35 rfl (lv_at hl 0 rfl) ?_
  refine lv_iconst (v := 0) hx hb dX7_read_36 (by decide) ?_
  refine z_put C G clX7 0 rfl 12 (by decide) m_fl_RX7_59 rfl rfl rfl (Nat.le_of_ble_eq_true rfl) dX7_read_37 (fun H locs G => ?_)
  have G : zS T A s.heap s [[(rd, .inr (7, [.ref rl, .ref rdd, .ref rg, .int 0, .int (-1), .ref tp, .int v_1, .int 0, .int r4, .int r5, .int r6, .int 0, .int 0]))], [(tp, .inl (T.2 1, 600, .inl ft))], z, wd, wg] _ _ := G
  refine lv_aload_n hx hb dX7_read_40 rfl (lv_at hl 0 rfl) ?_
  refine z_get C G clX7 0 rfl 0 (by decide) m_fl_RX7_12 rfl dX7_read_41 ?_
  refine z_Vv (bc := [z]) (br := [[(rd, .inr (7, [.ref rl, .ref rdd, .ref rg, .int 0, .int (-1), .ref tp, .int v_1, .int 0, .int r4, .int r5, .int r6, .int 0, .int 0]))], [(tp, .inl (T.2 1, 600, .inl ft))], wd, wg]) (As := []) (rest := []) C G (c_Land_clear l T rl cr inn k1 k2 k3 k4 z hz) (kV_RX7_62 C.2.2.2.2 (Nat.le_of_ble_eq_true rfl) (Nat.le_of_ble_eq_true rfl)) [2] [0, 1, 3, 4] rfl rfl (ci := 4) (qc := (RX4, TX4, 6)) rfl rfl (List.mem_flatten.mpr ⟨_, List.mem_of_getElem? (i := 0) rfl, (bLand_mem hz).choose_spec⟩) rfl rfl hl.1 dX7_read_44 (Nat.le_of_ble_eq_true rfl) (Nat.le_of_ble_eq_true rfl) (fun b1 H locs hw G => ?_)
  obtain ⟨w2_2, g1_3, g3_4, g4_5, rfl, h_6, h_7, h_8, h_9⟩ := hw
  have G : zS T A s.heap s [[(rd, .inr (7, [.ref rl, .ref rdd, .ref rg, .int 0, .int (-1), .ref tp, .int v_1, .int 0, .int r4, .int r5, .int r6, .int 0, .int 0]))], [(tp, .inl (T.2 1, 600, .inl ft))], wd, wg, w2_2] _ _ := G
  have hI : zLI 0 g1_3 g3_4 := zLI_zero h_7 h_8
  refine lv_aload_n hx hb dX7_read_47 rfl (lv_at hl 0 rfl) ?_
  refine z_get C G clX7 0 rfl 1 (by decide) m_fl_RX7_21 rfl dX7_read_48 ?_
  refine lv_iconst (v := 0) hx hb dX7_read_51 (by decide) ?_
  obtain ⟨a1_11, a2_12, a3_13, rfl⟩ := hd
  have G : zS T A s.heap s [[(rd, .inr (7, [.ref rl, .ref rdd, .ref rg, .int 0, .int (-1), .ref tp, .int v_1, .int 0, .int r4, .int r5, .int r6, .int 0, .int 0]))], [(tp, .inl (T.2 1, 600, .inl ft))], [(rdd, .inr (2, [.int dd, .ref a1_11, .ref a2_12, .ref a3_13]))], [(a1_11, .inl (T.2 0, 40, .inl d1))], [(a2_12, .inl (T.2 0, 40, .inl d2))], [(a3_13, .inl (T.2 0, 40, .inl d3))], wg, w2_2] _ _ := G.re rfl
  refine z_put C G clX2 2 rfl 0 (by decide) m_fl_RX7_65 rfl rfl rfl (Nat.le_of_ble_eq_true rfl) dX7_read_52 (fun H locs G => ?_)
  have G : zS T A s.heap s [[(rd, .inr (7, [.ref rl, .ref rdd, .ref rg, .int 0, .int (-1), .ref tp, .int v_1, .int 0, .int r4, .int r5, .int r6, .int 0, .int 0]))], [(tp, .inl (T.2 1, 600, .inl ft))], [(rdd, .inr (2, [.int 0, .ref a1_11, .ref a2_12, .ref a3_13]))], [(a1_11, .inl (T.2 0, 40, .inl d1))], [(a2_12, .inl (T.2 0, 40, .inl d2))], [(a3_13, .inl (T.2 0, 40, .inl d3))], wg, w2_2] _ _ := G
  refine lv_aload_n hx hb dX7_read_55 rfl (lv_at hl 0 rfl) ?_
  refine z_get C G clX7 0 rfl 2 (by decide) m_fl_RX7_28 rfl dX7_read_56 ?_
  refine lv_iconst (v := 0) hx hb dX7_read_59 (by decide) ?_
  obtain ⟨a1_14, a2_15, rfl⟩ := hg
  have G : zS T A s.heap s [[(rd, .inr (7, [.ref rl, .ref rdd, .ref rg, .int 0, .int (-1), .ref tp, .int v_1, .int 0, .int r4, .int r5, .int r6, .int 0, .int 0]))], [(tp, .inl (T.2 1, 600, .inl ft))], [(rdd, .inr (2, [.int 0, .ref a1_11, .ref a2_12, .ref a3_13]))], [(a1_11, .inl (T.2 0, 40, .inl d1))], [(a2_12, .inl (T.2 0, 40, .inl d2))], [(a3_13, .inl (T.2 0, 40, .inl d3))], [(rg, .inr (5, [.int gg, .ref a1_14, .ref a2_15]))], [(a1_14, .inl (T.2 0, 8, .inl e1))], [(a2_15, .inl (T.2 0, 8, .inl e2))], w2_2] _ _ := G.re rfl
  refine z_put C G clX5 6 rfl 0 (by decide) m_fl_RX7_68 rfl rfl rfl (Nat.le_of_ble_eq_true rfl) dX7_read_60 (fun H locs G => ?_)
  have G : zS T A s.heap s [[(rd, .inr (7, [.ref rl, .ref rdd, .ref rg, .int 0, .int (-1), .ref tp, .int v_1, .int 0, .int r4, .int r5, .int r6, .int 0, .int 0]))], [(tp, .inl (T.2 1, 600, .inl ft))], [(rdd, .inr (2, [.int 0, .ref a1_11, .ref a2_12, .ref a3_13]))], [(a1_11, .inl (T.2 0, 40, .inl d1))], [(a2_12, .inl (T.2 0, 40, .inl d2))], [(a3_13, .inl (T.2 0, 40, .inl d3))], [(rg, .inr (5, [.int 0, .ref a1_14, .ref a2_15]))], [(a1_14, .inl (T.2 0, 8, .inl e1))], [(a2_15, .inl (T.2 0, 8, .inl e2))], w2_2] _ _ := G
  refine lv_aload_n hx hb dX7_read_63 rfl (lv_at hl 0 rfl) ?_
  refine z_Vv (bc := [[(rd, .inr (7, [.ref rl, .ref rdd, .ref rg, .int 0, .int (-1), .ref tp, .int v_1, .int 0, .int r4, .int r5, .int r6, .int 0, .int 0]))], [(tp, .inl (T.2 1, 600, .inl ft))]]) (br := [[(rdd, .inr (2, [.int 0, .ref a1_11, .ref a2_12, .ref a3_13]))], [(a1_11, .inl (T.2 0, 40, .inl d1))], [(a2_12, .inl (T.2 0, 40, .inl d2))], [(a3_13, .inl (T.2 0, 40, .inl d3))], [(rg, .inr (5, [.int 0, .ref a1_14, .ref a2_15]))], [(a1_14, .inl (T.2 0, 8, .inl e1))], [(a2_15, .inl (T.2 0, 8, .inl e2))], w2_2]) (As := []) (rest := []) C G (c_nextToken l T rd rl rdd rg tp 0 (-1) v_1 0 r4 r5 r6 0 0 ft (by first | exact ⟨hlen, ⟨by decide, hlen.1⟩, h56⟩ | (refine ⟨hlen, ⟨by decide, ?_⟩, h56⟩; exact hlen.1))) (kV_RX7_71 C.2.2.2.2 (Nat.le_of_ble_eq_true rfl) (Nat.le_of_ble_eq_true rfl)) [0, 1] [2, 3, 4, 5, 6, 7, 8, 9] rfl rfl (ci := 7) (qc := (RX7, TX7, 13)) rfl rfl (List.mem_flatten.mpr ⟨_, List.mem_of_getElem? (i := 0) rfl, List.mem_cons_self⟩) rfl rfl hl.1 dX7_read_64 (Nat.le_of_ble_eq_true rfl) (Nat.le_of_ble_eq_true rfl) (fun b1 H locs hw G => ?_)
  obtain ⟨u3_16, u4_17, u5_18, u6_19, rfl, h_20, h_21⟩ := hw
  have G : zS T A s.heap s [[(rdd, .inr (2, [.int 0, .ref a1_11, .ref a2_12, .ref a3_13]))], [(a1_11, .inl (T.2 0, 40, .inl d1))], [(a2_12, .inl (T.2 0, 40, .inl d2))], [(a3_13, .inl (T.2 0, 40, .inl d3))], [(rg, .inr (5, [.int 0, .ref a1_14, .ref a2_15]))], [(a1_14, .inl (T.2 0, 8, .inl e1))], [(a2_15, .inl (T.2 0, 8, .inl e2))], w2_2, [(rd, .inr (7, [.ref rl, .ref rdd, .ref rg, .int 0, .int (-1), .ref tp, .int v_1, .int u3_16, .int u4_17, .int u5_18, .int u6_19, .int 0, .int 0]))], [(tp, .inl (T.2 1, 600, .inl ft))]] _ _ := G
  refine lv_iconst (v := 0) hx hb dX7_read_67 (by decide) ?_
  refine lv_istore (lv' := [(4, .int 0), (0, .ref rd), (1, .ref tp), (2, .int n), (3, .int x)]) hx hb dX7_read_68 hl (by decide) rfl (fun ls hl => ?_)
  have hw_23 : bDay T rdd 0 d1 d2 d3 [(rdd, .inr (2, [.int 0, .ref a1_11, .ref a2_12, .ref a3_13])), (a1_11, .inl (T.2 0, 40, .inl d1)), (a2_12, .inl (T.2 0, 40, .inl d2)), (a3_13, .inl (T.2 0, 40, .inl d3))] := ⟨a1_11, a2_12, a3_13, rfl⟩
  have G : zS T A s.heap s [[(rdd, .inr (2, [.int 0, .ref a1_11, .ref a2_12, .ref a3_13])), (a1_11, .inl (T.2 0, 40, .inl d1)), (a2_12, .inl (T.2 0, 40, .inl d2)), (a3_13, .inl (T.2 0, 40, .inl d3))], [(rg, .inr (5, [.int 0, .ref a1_14, .ref a2_15]))], [(a1_14, .inl (T.2 0, 8, .inl e1))], [(a2_15, .inl (T.2 0, 8, .inl e2))], w2_2, [(rd, .inr (7, [.ref rl, .ref rdd, .ref rg, .int 0, .int (-1), .ref tp, .int v_1, .int u3_16, .int u4_17, .int u5_18, .int u6_19, .int 0, .int 0]))], [(tp, .inl (T.2 1, 600, .inl ft))]] _ _ := G.re rfl
  have hw_24 : bLog T rg 0 e1 e2 [(rg, .inr (5, [.int 0, .ref a1_14, .ref a2_15])), (a1_14, .inl (T.2 0, 8, .inl e1)), (a2_15, .inl (T.2 0, 8, .inl e2))] := ⟨a1_14, a2_15, rfl⟩
  have G : zS T A s.heap s [[(rdd, .inr (2, [.int 0, .ref a1_11, .ref a2_12, .ref a3_13])), (a1_11, .inl (T.2 0, 40, .inl d1)), (a2_12, .inl (T.2 0, 40, .inl d2)), (a3_13, .inl (T.2 0, 40, .inl d3))], [(rg, .inr (5, [.int 0, .ref a1_14, .ref a2_15])), (a1_14, .inl (T.2 0, 8, .inl e1)), (a2_15, .inl (T.2 0, 8, .inl e2))], w2_2, [(rd, .inr (7, [.ref rl, .ref rdd, .ref rg, .int 0, .int (-1), .ref tp, .int v_1, .int u3_16, .int u4_17, .int u5_18, .int u6_19, .int 0, .int 0]))], [(tp, .inl (T.2 1, 600, .inl ft))]] _ _ := G.re rfl
  refine z_loop (T := T) (α := Nat × Int32 × Int32 × Int32 × Int32 × Int32 × Int32 × Int32 × Int32 × va_W × Int32 × Int32 × (Nat → Int32) × (Nat → Int32) × (Nat → Int32) × (Nat → Int32) × va_W × Int32 × (Nat → Int32) × (Nat → Int32) × (Nat → Int32) × va_W × Int32 × (Nat → Int32) × (Nat → Int32)) 70 (fun (j, y0, y1, y3, y4, y5, y6, y7, y8, z3, cc_, ci_, x1, x2, x3, x4, wd3, dd3, v1, v2, v3, wg3, gg3, v4, v5) => [wd3, wg3, z3, [(rd, .inr (7, [.ref rl, .ref rdd, .ref rg, .int y0, .int y1, .ref tp, .int v_1, .int y3, .int y4, .int y5, .int y6, .int y7, .int y8]))], [(tp, .inl (T.2 1, 600, .inl ft))]]) (fun (j, y0, y1, y3, y4, y5, y6, y7, y8, z3, cc_, ci_, x1, x2, x3, x4, wd3, dd3, v1, v2, v3, wg3, gg3, v4, v5) => [(4, .int (nI j)), (0, .ref rd), (3, .int x)]) (fun (j, y0, y1, y3, y4, y5, y6, y7, y8, z3, cc_, ci_, x1, x2, x3, x4, wd3, dd3, v1, v2, v3, wg3, gg3, v4, v5) => bDay T rdd dd3 v1 v2 v3 wd3 ∧ bLog T rg gg3 v4 v5 wg3 ∧ bLand T rl cc_ ci_ x1 x2 x3 x4 z3 ∧ j ≤ 601 ∧ ((0 ≤ v_1.toInt ∧ v_1.toInt ≤ 600) ∧ (0 ≤ y3.toInt ∧ y3.toInt ≤ v_1.toInt) ∧ (0 ≤ y5.toInt ∧ y5.toInt ≤ 600) ∧ 0 ≤ y6.toInt ∧ y6.toInt ≤ 1000) ∧ zLI cc_ x1 x3) (fun (j, y0, y1, y3, y4, y5, y6, y7, y8, z3, cc_, ci_, x1, x2, x3, x4, wd3, dd3, v1, v2, v3, wg3, gg3, v4, v5) => 601 - j) ?_ (0, 0, (-1), u3_16, u4_17, u5_18, u6_19, 0, 0, w2_2, 0, 0, g1_3, k2, g3_4, g4_5, ([(rdd, .inr (2, [.int 0, .ref a1_11, .ref a2_12, .ref a3_13])), (a1_11, .inl (T.2 0, 40, .inl d1)), (a2_12, .inl (T.2 0, 40, .inl d2)), (a3_13, .inl (T.2 0, 40, .inl d3))]), 0, d1, d2, d3, ([(rg, .inr (5, [.int 0, .ref a1_14, .ref a2_15])), (a1_14, .inl (T.2 0, 8, .inl e1)), (a2_15, .inl (T.2 0, 8, .inl e2))]), 0, e1, e2) (show bDay T rdd 0 d1 d2 d3 ([(rdd, .inr (2, [.int 0, .ref a1_11, .ref a2_12, .ref a3_13])), (a1_11, .inl (T.2 0, 40, .inl d1)), (a2_12, .inl (T.2 0, 40, .inl d2)), (a3_13, .inl (T.2 0, 40, .inl d3))]) ∧ bLog T rg 0 e1 e2 ([(rg, .inr (5, [.int 0, .ref a1_14, .ref a2_15])), (a1_14, .inl (T.2 0, 8, .inl e1)), (a2_15, .inl (T.2 0, 8, .inl e2))]) ∧ bLand T rl 0 0 g1_3 k2 g3_4 g4_5 w2_2 ∧ 0 ≤ 601 ∧ ((0 ≤ v_1.toInt ∧ v_1.toInt ≤ 600) ∧ (0 ≤ u3_16.toInt ∧ u3_16.toInt ≤ v_1.toInt) ∧ (0 ≤ u5_18.toInt ∧ u5_18.toInt ≤ 600) ∧ 0 ≤ u6_19.toInt ∧ u6_19.toInt ≤ 1000) ∧ zLI 0 g1_3 g3_4 from ⟨hw_23, hw_24, h_6, by omega, by omega, hI⟩) G (lv_sub hl [0, 1, 4] rfl)
  rintro ⟨j, y0, y1, y3, y4, y5, y6, y7, y8, z3, cc_, ci_, x1, x2, x3, x4, wd3, dd3, v1, v2, v3, wg3, gg3, v4, v5⟩ ⟨hd3, hg3, hz3, hj, hQ, hI2⟩ ih_70 H locs ls G hl
  replace hd3 : bDay T rdd dd3 v1 v2 v3 wd3 := hd3
  replace hg3 : bLog T rg gg3 v4 v5 wg3 := hg3
  replace hz3 : bLand T rl cc_ ci_ x1 x2 x3 x4 z3 := hz3
  replace hj : j ≤ 601 := hj
  replace hQ : ((0 ≤ v_1.toInt ∧ v_1.toInt ≤ 600) ∧ (0 ≤ y3.toInt ∧ y3.toInt ≤ v_1.toInt) ∧ (0 ≤ y5.toInt ∧ y5.toInt ≤ 600) ∧ 0 ≤ y6.toInt ∧ y6.toInt ≤ 1000) := hQ
  replace hI2 : zLI cc_ x1 x3 := hI2
  replace G : zS T A s.heap s [wd3, wg3, z3, [(rd, .inr (7, [.ref rl, .ref rdd, .ref rg, .int y0, .int y1, .ref tp, .int v_1, .int y3, .int y4, .int y5, .int y6, .int y7, .int y8]))], [(tp, .inl (T.2 1, 600, .inl ft))]] _ _ := G
  replace hl : lv_has ls 5 [(4, .int (nI j)), (0, .ref rd), (3, .int x)] := hl
  refine lv_iload hx hb dX7_read_70 (lv_at hl 0 rfl) ?_
  refine lv_sipush (v := 600) hx hb dX7_read_72 (by decide) ?_
  refine lv_icmp_gt (tgt := 103) hx hb dX7_read_75 (by decide) (fun c_25 => ?_) (fun c_25 => ?_)
  · have c_25n : 600 < j := (nI_ltI (a := 600) (b := j) (by omega) (by omega)).mp c_25
    refine lv_iload_n hx hb dX7_read_103 rfl (lv_at hl 2 rfl) ?_
    refine lv_if_ne (tgt := 111) hx hb dX7_read_104 (by decide) (fun c_26 => ?_) (fun c_26 => ?_)
    · have c_26n : ¬ x.toInt = (0 : Int) := fun q => c_26 ((fa_eq _ _).mpr q)
      have G := G.sub (bs' := [[(rd, .inr (7, [.ref rl, .ref rdd, .ref rg, .int y0, .int y1, .ref tp, .int v_1, .int y3, .int y4, .int y5, .int y6, .int y7, .int y8]))], [(tp, .inl (T.2 1, 600, .inl ft))], z3, wd3, wg3]) [3, 4, 2, 0, 1] rfl
      exact z_vret C hr hlocks G (Nat.le_of_ble_eq_true rfl) (Nat.le_of_ble_eq_true rfl) dX7_read_111 ⟨v_1, y0, y1, y3, y4, y5, y6, y7, y8, z3, cc_, ci_, x1, x2, x3, x4, wd3, dd3, v1, v2, v3, wg3, gg3, v4, v5, rfl, hz3, hI2, hd3, hg3, (by first | trivial | assumption | omega)⟩
    · have c_26n : x.toInt = (0 : Int) := (fa_eq _ _).mp c_26
      refine lv_aload_n hx hb dX7_read_107 rfl (lv_at hl 1 rfl) ?_
      refine z_Vv (bc := [[(rd, .inr (7, [.ref rl, .ref rdd, .ref rg, .int y0, .int y1, .ref tp, .int v_1, .int y3, .int y4, .int y5, .int y6, .int y7, .int y8]))], z3]) (br := [wd3, wg3, [(tp, .inl (T.2 1, 600, .inl ft))]]) (As := []) (rest := []) C G (c_lookAtWhole l T rd rl rdd rg tp y0 y1 v_1 y3 y4 y5 y6 y7 y8 cc_ ci_ x1 x2 x3 x4 z3 hz3 hI2) (kV_RX7_81 C.2.2.2.2 (Nat.le_of_ble_eq_true rfl) (Nat.le_of_ble_eq_true rfl)) [3, 2] [0, 1, 4] rfl rfl (ci := 7) (qc := (RX7, TX7, 13)) rfl rfl (List.mem_flatten.mpr ⟨_, List.mem_of_getElem? (i := 0) rfl, List.mem_cons_self⟩) rfl rfl hl.1 dX7_read_108 (Nat.le_of_ble_eq_true rfl) (Nat.le_of_ble_eq_true rfl) (fun b1 H locs hw G => ?_)
      obtain ⟨u0_27, u1_28, rfl⟩ := hw
      have G : zS T A s.heap s [wd3, wg3, [(tp, .inl (T.2 1, 600, .inl ft))], [(rd, .inr (7, [.ref rl, .ref rdd, .ref rg, .int u0_27, .int u1_28, .ref tp, .int v_1, .int y3, .int y4, .int y5, .int y6, .int y7, .int y8]))], z3] _ _ := G
      have G := G.sub (bs' := [[(rd, .inr (7, [.ref rl, .ref rdd, .ref rg, .int u0_27, .int u1_28, .ref tp, .int v_1, .int y3, .int y4, .int y5, .int y6, .int y7, .int y8]))], [(tp, .inl (T.2 1, 600, .inl ft))], z3, wd3, wg3]) [3, 2, 4, 0, 1] rfl
      exact z_vret C hr hlocks G (Nat.le_of_ble_eq_true rfl) (Nat.le_of_ble_eq_true rfl) dX7_read_111 ⟨v_1, u0_27, u1_28, y3, y4, y5, y6, y7, y8, z3, cc_, ci_, x1, x2, x3, x4, wd3, dd3, v1, v2, v3, wg3, gg3, v4, v5, rfl, hz3, hI2, hd3, hg3, (by first | trivial | assumption | omega)⟩
  · have c_25n : ¬ 600 < j := fun q => c_25 ((nI_ltI (a := 600) (b := j) (by omega) (by omega)).mpr q)
    refine lv_aload_n hx hb dX7_read_78 rfl (lv_at hl 1 rfl) ?_
    refine z_get C G clX7 3 rfl 11 (by decide) m_fl_RX7_55 rfl dX7_read_79 ?_
    refine lv_if_ne (tgt := 103) hx hb dX7_read_82 (by decide) (fun c_30 => ?_) (fun c_30 => ?_)
    · have c_30n : ¬ y7.toInt = (0 : Int) := fun q => c_30 ((fa_eq _ _).mpr q)
      refine lv_iload_n hx hb dX7_read_103 rfl (lv_at hl 2 rfl) ?_
      refine lv_if_ne (tgt := 111) hx hb dX7_read_104 (by decide) (fun c_31 => ?_) (fun c_31 => ?_)
      · have c_31n : ¬ x.toInt = (0 : Int) := fun q => c_31 ((fa_eq _ _).mpr q)
        have G := G.sub (bs' := [[(rd, .inr (7, [.ref rl, .ref rdd, .ref rg, .int y0, .int y1, .ref tp, .int v_1, .int y3, .int y4, .int y5, .int y6, .int y7, .int y8]))], [(tp, .inl (T.2 1, 600, .inl ft))], z3, wd3, wg3]) [3, 4, 2, 0, 1] rfl
        exact z_vret C hr hlocks G (Nat.le_of_ble_eq_true rfl) (Nat.le_of_ble_eq_true rfl) dX7_read_111 ⟨v_1, y0, y1, y3, y4, y5, y6, y7, y8, z3, cc_, ci_, x1, x2, x3, x4, wd3, dd3, v1, v2, v3, wg3, gg3, v4, v5, rfl, hz3, hI2, hd3, hg3, (by first | trivial | assumption | omega)⟩
      · have c_31n : x.toInt = (0 : Int) := (fa_eq _ _).mp c_31
        refine lv_aload_n hx hb dX7_read_107 rfl (lv_at hl 1 rfl) ?_
        refine z_Vv (bc := [[(rd, .inr (7, [.ref rl, .ref rdd, .ref rg, .int y0, .int y1, .ref tp, .int v_1, .int y3, .int y4, .int y5, .int y6, .int y7, .int y8]))], z3]) (br := [wd3, wg3, [(tp, .inl (T.2 1, 600, .inl ft))]]) (As := []) (rest := []) C G (c_lookAtWhole l T rd rl rdd rg tp y0 y1 v_1 y3 y4 y5 y6 y7 y8 cc_ ci_ x1 x2 x3 x4 z3 hz3 hI2) (kV_RX7_81 C.2.2.2.2 (Nat.le_of_ble_eq_true rfl) (Nat.le_of_ble_eq_true rfl)) [3, 2] [0, 1, 4] rfl rfl (ci := 7) (qc := (RX7, TX7, 13)) rfl rfl (List.mem_flatten.mpr ⟨_, List.mem_of_getElem? (i := 0) rfl, List.mem_cons_self⟩) rfl rfl hl.1 dX7_read_108 (Nat.le_of_ble_eq_true rfl) (Nat.le_of_ble_eq_true rfl) (fun b1 H locs hw G => ?_)
        obtain ⟨u0_32, u1_33, rfl⟩ := hw
        have G : zS T A s.heap s [wd3, wg3, [(tp, .inl (T.2 1, 600, .inl ft))], [(rd, .inr (7, [.ref rl, .ref rdd, .ref rg, .int u0_32, .int u1_33, .ref tp, .int v_1, .int y3, .int y4, .int y5, .int y6, .int y7, .int y8]))], z3] _ _ := G
        have G := G.sub (bs' := [[(rd, .inr (7, [.ref rl, .ref rdd, .ref rg, .int u0_32, .int u1_33, .ref tp, .int v_1, .int y3, .int y4, .int y5, .int y6, .int y7, .int y8]))], [(tp, .inl (T.2 1, 600, .inl ft))], z3, wd3, wg3]) [3, 2, 4, 0, 1] rfl
        exact z_vret C hr hlocks G (Nat.le_of_ble_eq_true rfl) (Nat.le_of_ble_eq_true rfl) dX7_read_111 ⟨v_1, u0_32, u1_33, y3, y4, y5, y6, y7, y8, z3, cc_, ci_, x1, x2, x3, x4, wd3, dd3, v1, v2, v3, wg3, gg3, v4, v5, rfl, hz3, hI2, hd3, hg3, (by first | trivial | assumption | omega)⟩
    · have c_30n : y7.toInt = (0 : Int) := (fa_eq _ _).mp c_30
      refine lv_aload_n hx hb dX7_read_85 rfl (lv_at hl 1 rfl) ?_
      refine z_get C G clX7 3 rfl 8 (by decide) m_fl_RX7_74 rfl dX7_read_86 ?_
      refine lv_if_eq (tgt := 103) hx hb dX7_read_89 (by decide) (fun c_35 => ?_) (fun c_35 => ?_)
      · have c_35n : y4.toInt = (0 : Int) := (fa_eq _ _).mp c_35
        refine lv_iload_n hx hb dX7_read_103 rfl (lv_at hl 2 rfl) ?_
        refine lv_if_ne (tgt := 111) hx hb dX7_read_104 (by decide) (fun c_36 => ?_) (fun c_36 => ?_)
        · have c_36n : ¬ x.toInt = (0 : Int) := fun q => c_36 ((fa_eq _ _).mpr q)
          have G := G.sub (bs' := [[(rd, .inr (7, [.ref rl, .ref rdd, .ref rg, .int y0, .int y1, .ref tp, .int v_1, .int y3, .int y4, .int y5, .int y6, .int y7, .int y8]))], [(tp, .inl (T.2 1, 600, .inl ft))], z3, wd3, wg3]) [3, 4, 2, 0, 1] rfl
          exact z_vret C hr hlocks G (Nat.le_of_ble_eq_true rfl) (Nat.le_of_ble_eq_true rfl) dX7_read_111 ⟨v_1, y0, y1, y3, y4, y5, y6, y7, y8, z3, cc_, ci_, x1, x2, x3, x4, wd3, dd3, v1, v2, v3, wg3, gg3, v4, v5, rfl, hz3, hI2, hd3, hg3, (by first | trivial | assumption | omega)⟩
        · have c_36n : x.toInt = (0 : Int) := (fa_eq _ _).mp c_36
          refine lv_aload_n hx hb dX7_read_107 rfl (lv_at hl 1 rfl) ?_
          refine z_Vv (bc := [[(rd, .inr (7, [.ref rl, .ref rdd, .ref rg, .int y0, .int y1, .ref tp, .int v_1, .int y3, .int y4, .int y5, .int y6, .int y7, .int y8]))], z3]) (br := [wd3, wg3, [(tp, .inl (T.2 1, 600, .inl ft))]]) (As := []) (rest := []) C G (c_lookAtWhole l T rd rl rdd rg tp y0 y1 v_1 y3 y4 y5 y6 y7 y8 cc_ ci_ x1 x2 x3 x4 z3 hz3 hI2) (kV_RX7_81 C.2.2.2.2 (Nat.le_of_ble_eq_true rfl) (Nat.le_of_ble_eq_true rfl)) [3, 2] [0, 1, 4] rfl rfl (ci := 7) (qc := (RX7, TX7, 13)) rfl rfl (List.mem_flatten.mpr ⟨_, List.mem_of_getElem? (i := 0) rfl, List.mem_cons_self⟩) rfl rfl hl.1 dX7_read_108 (Nat.le_of_ble_eq_true rfl) (Nat.le_of_ble_eq_true rfl) (fun b1 H locs hw G => ?_)
          obtain ⟨u0_37, u1_38, rfl⟩ := hw
          have G : zS T A s.heap s [wd3, wg3, [(tp, .inl (T.2 1, 600, .inl ft))], [(rd, .inr (7, [.ref rl, .ref rdd, .ref rg, .int u0_37, .int u1_38, .ref tp, .int v_1, .int y3, .int y4, .int y5, .int y6, .int y7, .int y8]))], z3] _ _ := G
          have G := G.sub (bs' := [[(rd, .inr (7, [.ref rl, .ref rdd, .ref rg, .int u0_37, .int u1_38, .ref tp, .int v_1, .int y3, .int y4, .int y5, .int y6, .int y7, .int y8]))], [(tp, .inl (T.2 1, 600, .inl ft))], z3, wd3, wg3]) [3, 2, 4, 0, 1] rfl
          exact z_vret C hr hlocks G (Nat.le_of_ble_eq_true rfl) (Nat.le_of_ble_eq_true rfl) dX7_read_111 ⟨v_1, u0_37, u1_38, y3, y4, y5, y6, y7, y8, z3, cc_, ci_, x1, x2, x3, x4, wd3, dd3, v1, v2, v3, wg3, gg3, v4, v5, rfl, hz3, hI2, hd3, hg3, (by first | trivial | assumption | omega)⟩
      · have c_35n : ¬ y4.toInt = (0 : Int) := fun q => c_35 ((fa_eq _ _).mpr q)
        refine lv_aload_n hx hb dX7_read_92 rfl (lv_at hl 1 rfl) ?_
        refine lv_iload_n hx hb dX7_read_93 rfl (lv_at hl 2 rfl) ?_
        refine z_Vv (bc := [[(rd, .inr (7, [.ref rl, .ref rdd, .ref rg, .int y0, .int y1, .ref tp, .int v_1, .int y3, .int y4, .int y5, .int y6, .int y7, .int y8]))], [(tp, .inl (T.2 1, 600, .inl ft))], z3, wd3, wg3]) (br := []) (As := [.int x]) (rest := []) C G (c_readLine l T rd rl rdd rg tp y0 y1 v_1 y3 y4 y5 y6 y7 y8 ft cc_ ci_ x1 x2 x3 x4 z3 dd3 v1 v2 v3 wd3 gg3 v4 v5 wg3 x hQ hz3 hI2 hd3 hg3) (kV_RX7_77 C.2.2.2.2 (Nat.le_of_ble_eq_true rfl) (Nat.le_of_ble_eq_true rfl)) [3, 4, 2, 0, 1] [] rfl rfl (ci := 7) (qc := (RX7, TX7, 13)) rfl rfl (List.mem_flatten.mpr ⟨_, List.mem_of_getElem? (i := 0) rfl, List.mem_cons_self⟩) rfl rfl hl.1 dX7_read_94 (Nat.le_of_ble_eq_true rfl) (Nat.le_of_ble_eq_true rfl) (fun b1 H locs hw G => ?_)
        obtain ⟨u0_40, u1_41, u3_42, u4_43, u5_44, u6_45, u7_46, u8_47, z2_48, c2_49, i2_50, j1_51, j2_52, j3_53, j4_54, wd2_55, dd2_56, b1_57, b2_58, b3_59, wg2_60, gg2_61, b4_62, b5_63, rfl, h_64, h_65, h_66, h_67, h_68⟩ := hw
        have G : zS T A s.heap s [[(rd, .inr (7, [.ref rl, .ref rdd, .ref rg, .int u0_40, .int u1_41, .ref tp, .int v_1, .int u3_42, .int u4_43, .int u5_44, .int u6_45, .int u7_46, .int u8_47]))], [(tp, .inl (T.2 1, 600, .inl ft))], z2_48, wd2_55, wg2_60] _ _ := G
        have hI3 : zLI c2_49 j1_51 j3_53 := h_65
        refine lv_iinc (v := nI (j + 1)) (lv' := [(4, .int (nI (j + 1))), (0, .ref rd), (3, .int x)]) hx hb dX7_read_97 hl (k := 0) rfl (z_inc j 1) (by decide) rfl (fun ls hl => ?_)
        refine lv_goto (tgt := 70) hx hb dX7_read_100 (by decide) ?_
        have G := G.sub (bs' := [wd2_55, wg2_60, z2_48, [(rd, .inr (7, [.ref rl, .ref rdd, .ref rg, .int u0_40, .int u1_41, .ref tp, .int v_1, .int u3_42, .int u4_43, .int u5_44, .int u6_45, .int u7_46, .int u8_47]))], [(tp, .inl (T.2 1, 600, .inl ft))]]) [3, 4, 2, 0, 1] rfl
        exact ih_70 ((j + 1), u0_40, u1_41, u3_42, u4_43, u5_44, u6_45, u7_46, u8_47, z2_48, c2_49, i2_50, j1_51, j2_52, j3_53, j4_54, wd2_55, dd2_56, b1_57, b2_58, b3_59, wg2_60, gg2_61, b4_62, b5_63) (show bDay T rdd dd2_56 b1_57 b2_58 b3_59 wd2_55 ∧ bLog T rg gg2_61 b4_62 b5_63 wg2_60 ∧ bLand T rl c2_49 i2_50 j1_51 j2_52 j3_53 j4_54 z2_48 ∧ (j + 1) ≤ 601 ∧ ((0 ≤ v_1.toInt ∧ v_1.toInt ≤ 600) ∧ (0 ≤ u3_42.toInt ∧ u3_42.toInt ≤ v_1.toInt) ∧ (0 ≤ u5_44.toInt ∧ u5_44.toInt ≤ 600) ∧ 0 ≤ u6_45.toInt ∧ u6_45.toInt ≤ 1000) ∧ zLI c2_49 j1_51 j3_53 from ⟨h_66, h_67, h_64, by omega, by omega, hI3⟩) (show 601 - (j + 1) < 601 - j from by omega) _ _ ls G (lv_sub hl [0, 1, 2] rfl)

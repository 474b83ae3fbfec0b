theorem pk_vb2 {x : Int32} (h : x.toInt8.toInt32 = x) : vp_nar .byte x = x := (vp_nar_byte x).trans h
set_option maxHeartbeats 4000000 in
set_option maxRecDepth 100000 in
/-- takeAll -/
theorem c_f_Told_takeAll (l : Launch) (T : zTy) (t : Nat) (l0 : Nat) (l1 : Nat) (d0 : Nat) (d1 : Nat) (g0 : Nat) (g1 : Nat) (ln : Int32) (fl : Int32) (pl : Int32) (ft : Nat → Int32) (fk : Nat → Int32) (wt : va_W) (cr0_ : Int32) (inn0_ : Int32) (k10_ : Nat → Int32) (k20_ : Nat → Int32) (k30_ : Nat → Int32) (k40_ : Nat → Int32) (z0_ : va_W) (cr1_ : Int32) (inn1_ : Int32) (k11_ : Nat → Int32) (k21_ : Nat → Int32) (k31_ : Nat → Int32) (k41_ : Nat → Int32) (z1_ : va_W) (dd0_ : Int32) (p10_ : Nat → Int32) (p20_ : Nat → Int32) (p30_ : Nat → Int32) (wd0_ : va_W) (dd1_ : Int32) (p11_ : Nat → Int32) (p21_ : Nat → Int32) (p31_ : Nat → Int32) (wd1_ : va_W) (gg0_ : Int32) (q10_ : Nat → Int32) (q20_ : Nat → Int32) (wg0_ : va_W) (gg1_ : Int32) (q11_ : Nat → Int32) (q21_ : Nat → Int32) (wg1_ : va_W) (o : Nat) (l0o : Nat) (l1o : Nat) (d0o : Nat) (d1o : Nat) (g0o : Nat) (g1o : Nat) (lno : Int32) (flo : Int32) (plo : Int32) (fto : Nat → Int32) (fko : Nat → Int32) (wto : va_W) (cr0_o : Int32) (inn0_o : Int32) (k10_o : Nat → Int32) (k20_o : Nat → Int32) (k30_o : Nat → Int32) (k40_o : Nat → Int32) (z0_o : va_W) (cr1_o : Int32) (inn1_o : Int32) (k11_o : Nat → Int32) (k21_o : Nat → Int32) (k31_o : Nat → Int32) (k41_o : Nat → Int32) (z1_o : va_W) (dd0_o : Int32) (p10_o : Nat → Int32) (p20_o : Nat → Int32) (p30_o : Nat → Int32) (wd0_o : va_W) (dd1_o : Int32) (p11_o : Nat → Int32) (p21_o : Nat → Int32) (p31_o : Nat → Int32) (wd1_o : va_W) (gg0_o : Int32) (q10_o : Nat → Int32) (q20_o : Nat → Int32) (wg0_o : va_W) (gg1_o : Int32) (q11_o : Nat → Int32) (q21_o : Nat → Int32) (wg1_o : va_W) (Gr : Nat → Int32) (ht : bTold T t l0 l1 d0 d1 g0 g1 ln fl pl ft fk wt) (hK : zKT fk) (hz0_ : bLand T l0 cr0_ inn0_ k10_ k20_ k30_ k40_ z0_) (hI0_ : zLI cr0_ k10_ k30_) (hz1_ : bLand T l1 cr1_ inn1_ k11_ k21_ k31_ k41_ z1_) (hI1_ : zLI cr1_ k11_ k31_) (hd0_ : bDay T d0 dd0_ p10_ p20_ p30_ wd0_) (hd1_ : bDay T d1 dd1_ p11_ p21_ p31_ wd1_) (hg0_ : bLog T g0 gg0_ q10_ q20_ wg0_) (hg1_ : bLog T g1 gg1_ q11_ q21_ wg1_) (hto : bTold T o l0o l1o d0o d1o g0o g1o lno flo plo fto fko wto) (hKo : zKT fko) (hz0_o : bLand T l0o cr0_o inn0_o k10_o k20_o k30_o k40_o z0_o) (hI0_o : zLI cr0_o k10_o k30_o) (hz1_o : bLand T l1o cr1_o inn1_o k11_o k21_o k31_o k41_o z1_o) (hI1_o : zLI cr1_o k11_o k31_o) (hd0_o : bDay T d0o dd0_o p10_o p20_o p30_o wd0_o) (hd1_o : bDay T d1o dd1_o p11_o p21_o p31_o wd1_o) (hg0_o : bLog T g0o gg0_o q10_o q20_o wg0_o) (hg1_o : bLog T g1o gg1_o q11_o q21_o wg1_o) (hTo : zTR lno flo plo fto fko cr0_o inn0_o k10_o k20_o k30_o k40_o cr1_o inn1_o k11_o k21_o k31_o k41_o dd0_o p10_o p20_o p30_o dd1_o p11_o p21_o p31_o gg0_o q10_o q20_o gg1_o q11_o q21_o Gr) : zMv l T yX9_takeAll cX9_takeAll 3 2 0 0 [.ref t, .ref o] [wt, z0_, z1_, wd0_, wd1_, wg0_, wg1_, wto, z0_o, z1_o, wd0_o, wd1_o, wg0_o, wg1_o] (fun bs => ∃ (wt2 : va_W) (g9 : Nat → Int32) (fk2 : Nat → Int32) (w2_0 : va_W) (s0_0 : Nat → Int32) (s0_1 : Nat → Int32) (s0_2 : Nat → Int32) (s0_3 : Nat → Int32) (w2_1 : va_W) (s1_0 : Nat → Int32) (s1_1 : Nat → Int32) (s1_2 : Nat → Int32) (s1_3 : Nat → Int32) (w2_2 : va_W) (s2_0 : Nat → Int32) (s2_1 : Nat → Int32) (s2_2 : Nat → Int32) (w2_3 : va_W) (s3_0 : Nat → Int32) (s3_1 : Nat → Int32) (s3_2 : Nat → Int32) (w2_4 : va_W) (s4_0 : Nat → Int32) (s4_1 : Nat → Int32) (w2_5 : va_W) (s5_0 : Nat → Int32) (s5_1 : Nat → Int32), bs = [wt2, w2_0, w2_1, w2_2, w2_3, w2_4, w2_5, wto, z0_o, z1_o, wd0_o, wd1_o, wg0_o, wg1_o] ∧ bTold T t l0 l1 d0 d1 g0 g1 lno flo plo g9 fk2 wt2 ∧ zKT fk2 ∧ bLand T l0 cr0_o inn0_o s0_0 s0_1 s0_2 s0_3 w2_0 ∧ bLand T l1 cr1_o inn1_o s1_0 s1_1 s1_2 s1_3 w2_1 ∧ bDay T d0 dd0_o s2_0 s2_1 s2_2 w2_2 ∧ bDay T d1 dd1_o s3_0 s3_1 s3_2 w2_3 ∧ bLog T g0 gg0_o s4_0 s4_1 w2_4 ∧ bLog T g1 gg1_o s5_0 s5_1 w2_5 ∧ zLI cr0_o s0_0 s0_2 ∧ zLI cr1_o s1_0 s1_2 ∧ zTR lno flo plo g9 fk2 cr0_o inn0_o s0_0 s0_1 s0_2 s0_3 cr1_o inn1_o s1_0 s1_1 s1_2 s1_3 dd0_o s2_0 s2_1 s2_2 dd1_o s3_0 s3_1 s3_2 gg0_o s4_0 s4_1 gg1_o s5_0 s5_1 Gr) := by
  refine zMv_of (own := RX9) (by decide) rfl (Nat.le_of_ble_eq_true rfl) ?_
  intro p e s m args below meth c A ls C hr hlocks hnm hAe G hl
  refine zHide (fun Q9 hQ9 => ?_)
  have hx := C.1
  have hb := C.2.1
  have hl : lv_has ls 3 [(0, .ref t), (1, .ref o)] := hl
  refine lv_iconst (v := 0) hx hb dX9_takeAll_0 (by decide) ?_
  refine lv_istore_n (lv' := [(2, .int 0), (0, .ref t), (1, .ref o)]) hx hb dX9_takeAll_1 rfl hl (by decide) (zLvf_h rfl) (fun ls hl => ?_)
  refine zEx8 ht ?_
  intro a1_1 a2_2 a3_3 a4_4 a5_5 q1_6 q2_7 q3_8
  refine zCu7 ?_
  intro hbs9 h_9 h_10 h_11 h_12 h_13 h_14
  clear ht
  subst hbs9
  have G : zS T A s.heap s [[zO8 t a1_1 ln fl pl a2_2 a3_3 a4_4 a5_5], [zAr T 1 a1_1 600 ft], [zAr T 0 a2_2 3 fk], [zArq T 3 a3_3 2 q1_6], [zArq T 4 a4_4 2 q2_7], [zArq T 5 a5_5 2 q3_8], z0_, z1_, wd0_, wd1_, wg0_, wg1_, wto, z0_o, z1_o, wd0_o, wd1_o, wg0_o, wg1_o] _ _ := G.re rfl
  refine zEx8 hto ?_
  intro a1_15 a2_16 a3_17 a4_18 a5_19 q1_20 q2_21 q3_22
  refine zCu7 ?_
  intro hbs9 h_23 h_24 h_25 h_26 h_27 h_28
  clear hto
  subst hbs9
  have G : zS T A s.heap s [[zO8 t a1_1 ln fl pl a2_2 a3_3 a4_4 a5_5], [zAr T 1 a1_1 600 ft], [zAr T 0 a2_2 3 fk], [zArq T 3 a3_3 2 q1_6], [zArq T 4 a4_4 2 q2_7], [zArq T 5 a5_5 2 q3_8], z0_, z1_, wd0_, wd1_, wg0_, wg1_, [zO8 o a1_15 lno flo plo a2_16 a3_17 a4_18 a5_19], [zAr T 1 a1_15 600 fto], [zAr T 0 a2_16 3 fko], [zArq T 3 a3_17 2 q1_20], [zArq T 4 a4_18 2 q2_21], [zArq T 5 a5_19 2 q3_22], z0_o, z1_o, wd0_o, wd1_o, wg0_o, wg1_o] _ _ := G.re rfl
  have hw_29 : bTold T t l0 l1 d0 d1 g0 g1 ln fl pl ft fk [zO8 t a1_1 ln fl pl a2_2 a3_3 a4_4 a5_5, zAr T 1 a1_1 600 ft, zAr T 0 a2_2 3 fk, zArq T 3 a3_3 2 q1_6, zArq T 4 a4_4 2 q2_7, zArq T 5 a5_5 2 q3_8] := ⟨a1_1, a2_2, a3_3, a4_4, a5_5, q1_6, q2_7, q3_8, rfl, h_9, h_10, h_11, h_12, h_13, h_14⟩
  have G : zS T A s.heap s [[zO8 t a1_1 ln fl pl a2_2 a3_3 a4_4 a5_5, zAr T 1 a1_1 600 ft, zAr T 0 a2_2 3 fk, zArq T 3 a3_3 2 q1_6, zArq T 4 a4_4 2 q2_7, zArq T 5 a5_5 2 q3_8], z0_, z1_, wd0_, wd1_, wg0_, wg1_, [zO8 o a1_15 lno flo plo a2_16 a3_17 a4_18 a5_19], [zAr T 1 a1_15 600 fto], [zAr T 0 a2_16 3 fko], [zArq T 3 a3_17 2 q1_20], [zArq T 4 a4_18 2 q2_21], [zArq T 5 a5_19 2 q3_22], z0_o, z1_o, wd0_o, wd1_o, wg0_o, wg1_o] _ _ := G.re rfl
  have hw_30 : bTold T o l0o l1o d0o d1o g0o g1o lno flo plo fto fko [zO8 o a1_15 lno flo plo a2_16 a3_17 a4_18 a5_19, zAr T 1 a1_15 600 fto, zAr T 0 a2_16 3 fko, zArq T 3 a3_17 2 q1_20, zArq T 4 a4_18 2 q2_21, zArq T 5 a5_19 2 q3_22] := ⟨a1_15, a2_16, a3_17, a4_18, a5_19, q1_20, q2_21, q3_22, rfl, h_23, h_24, h_25, h_26, h_27, h_28⟩
  have G : zS T A s.heap s [[zO8 t a1_1 ln fl pl a2_2 a3_3 a4_4 a5_5, zAr T 1 a1_1 600 ft, zAr T 0 a2_2 3 fk, zArq T 3 a3_3 2 q1_6, zArq T 4 a4_4 2 q2_7, zArq T 5 a5_5 2 q3_8], z0_, z1_, wd0_, wd1_, wg0_, wg1_, [zO8 o a1_15 lno flo plo a2_16 a3_17 a4_18 a5_19, zAr T 1 a1_15 600 fto, zAr T 0 a2_16 3 fko, zArq T 3 a3_17 2 q1_20, zArq T 4 a4_18 2 q2_21, zArq T 5 a5_19 2 q3_22], z0_o, z1_o, wd0_o, wd1_o, wg0_o, wg1_o] _ _ := G.re rfl
  refine z_lp3 (T := T) 2 (fun (i : Nat) (wt9 : va_W) (x9 : Nat → Int32) => [wt9, z0_, z1_, wd0_, wd1_, wg0_, wg1_, [zO8 o a1_15 lno flo plo a2_16 a3_17 a4_18 a5_19, zAr T 1 a1_15 600 fto, zAr T 0 a2_16 3 fko, zArq T 3 a3_17 2 q1_20, zArq T 4 a4_18 2 q2_21, zArq T 5 a5_19 2 q3_22], z0_o, z1_o, wd0_o, wd1_o, wg0_o, wg1_o]) (fun (i : Nat) (wt9 : va_W) (x9 : Nat → Int32) => [(2, .int (nI i)), (0, .ref t), (1, .ref o)]) (fun (i : Nat) (wt9 : va_W) (x9 : Nat → Int32) => bTold T t l0 l1 d0 d1 g0 g1 ln fl pl x9 fk wt9 ∧ i ≤ 600 ∧ (∀ j, j < i → x9 j = fto j)) (fun (i : Nat) (wt9 : va_W) (x9 : Nat → Int32) => 600 - i) ?_ 0 ([zO8 t a1_1 ln fl pl a2_2 a3_3 a4_4 a5_5, zAr T 1 a1_1 600 ft, zAr T 0 a2_2 3 fk, zArq T 3 a3_3 2 q1_6, zArq T 4 a4_4 2 q2_7, zArq T 5 a5_5 2 q3_8]) ft (show bTold T t l0 l1 d0 d1 g0 g1 ln fl pl ft fk ([zO8 t a1_1 ln fl pl a2_2 a3_3 a4_4 a5_5, zAr T 1 a1_1 600 ft, zAr T 0 a2_2 3 fk, zArq T 3 a3_3 2 q1_6, zArq T 4 a4_4 2 q2_7, zArq T 5 a5_5 2 q3_8]) ∧ 0 ≤ 600 ∧ (∀ j, j < 0 → ft j = fto j) from ⟨hw_29, by omega, (fun j hj => absurd hj (Nat.not_lt_zero _))⟩) G (lv_sub hl [0, 1, 2] rfl)
  intro i wt9 x9 hI9 ih_2 H locs ls G hl
  replace hI9 : bTold T t l0 l1 d0 d1 g0 g1 ln fl pl x9 fk wt9 ∧ i ≤ 600 ∧ (∀ j, j < i → x9 j = fto j) := hI9
  refine zAn3 hI9 ?_
  intro ht9 hi hx9
  clear hI9
  replace G : zS T A s.heap s [wt9, z0_, z1_, wd0_, wd1_, wg0_, wg1_, [zO8 o a1_15 lno flo plo a2_16 a3_17 a4_18 a5_19, zAr T 1 a1_15 600 fto, zAr T 0 a2_16 3 fko, zArq T 3 a3_17 2 q1_20, zArq T 4 a4_18 2 q2_21, zArq T 5 a5_19 2 q3_22], z0_o, z1_o, wd0_o, wd1_o, wg0_o, wg1_o] _ _ := G
  replace hl : lv_has ls 3 [(2, .int (nI i)), (0, .ref t), (1, .ref o)] := hl
  refine lv_iload_n hx hb dX9_takeAll_2 rfl (lv_at hl 0 rfl) ?_
  refine lv_sipush (v := 600) hx hb dX9_takeAll_3 (by decide) ?_
  refine lv_icmp_ge (tgt := 27) hx hb dX9_takeAll_6 (by decide) (fun c_31 => ?_) (fun c_31 => ?_)
  · have c_31n : 600 ≤ i := (nI_leI (a := 600) (b := i) (by omega) (by omega)).mp c_31
    refine lv_aload_n hx hb dX9_takeAll_27 rfl (lv_at hl 1 rfl) ?_
    refine lv_aload_n hx hb dX9_takeAll_28 rfl (lv_at hl 2 rfl) ?_
    have G : zS T A s.heap s [wt9, z0_, z1_, wd0_, wd1_, wg0_, wg1_, [zO8 o a1_15 lno flo plo a2_16 a3_17 a4_18 a5_19], [zAr T 1 a1_15 600 fto], [zAr T 0 a2_16 3 fko], [zArq T 3 a3_17 2 q1_20], [zArq T 4 a4_18 2 q2_21], [zArq T 5 a5_19 2 q3_22], z0_o, z1_o, wd0_o, wd1_o, wg0_o, wg1_o] _ _ := G.re rfl
    refine z_get C G clX9 7 rfl 1 (by decide) m_fl_RX9_44 rfl dX9_takeAll_29 ?_
    refine zEx8 ht9 ?_
    intro a1_32 a2_33 a3_34 a4_35 a5_36 q1_37 q2_38 q3_39
    refine zCu7 ?_
    intro hbs9 h_40 h_41 h_42 h_43 h_44 h_45
    clear ht9
    subst hbs9
    have G : zS T A s.heap s [[zO8 t a1_32 ln fl pl a2_33 a3_34 a4_35 a5_36], [zAr T 1 a1_32 600 x9], [zAr T 0 a2_33 3 fk], [zArq T 3 a3_34 2 q1_37], [zArq T 4 a4_35 2 q2_38], [zArq T 5 a5_36 2 q3_39], z0_, z1_, wd0_, wd1_, wg0_, wg1_, [zO8 o a1_15 lno flo plo a2_16 a3_17 a4_18 a5_19], [zAr T 1 a1_15 600 fto], [zAr T 0 a2_16 3 fko], [zArq T 3 a3_17 2 q1_20], [zArq T 4 a4_18 2 q2_21], [zArq T 5 a5_19 2 q3_22], z0_o, z1_o, wd0_o, wd1_o, wg0_o, wg1_o] _ _ := G.re rfl
    refine z_put C G clX9 0 rfl 1 (by decide) m_fl_RX9_44 rfl rfl rfl (Nat.le_of_ble_eq_true rfl) dX9_takeAll_32 (fun H locs G => ?_)
    have G : zS T A s.heap s [[zO8 t a1_32 lno fl pl a2_33 a3_34 a4_35 a5_36], [zAr T 1 a1_32 600 x9], [zAr T 0 a2_33 3 fk], [zArq T 3 a3_34 2 q1_37], [zArq T 4 a4_35 2 q2_38], [zArq T 5 a5_36 2 q3_39], z0_, z1_, wd0_, wd1_, wg0_, wg1_, [zO8 o a1_15 lno flo plo a2_16 a3_17 a4_18 a5_19], [zAr T 1 a1_15 600 fto], [zAr T 0 a2_16 3 fko], [zArq T 3 a3_17 2 q1_20], [zArq T 4 a4_18 2 q2_21], [zArq T 5 a5_19 2 q3_22], z0_o, z1_o, wd0_o, wd1_o, wg0_o, wg1_o] _ _ := G
    refine lv_aload_n hx hb dX9_takeAll_35 rfl (lv_at hl 1 rfl) ?_
    refine lv_aload_n hx hb dX9_takeAll_36 rfl (lv_at hl 2 rfl) ?_
    refine z_get C G clX9 12 rfl 2 (by decide) m_fl_RX9_77 rfl dX9_takeAll_37 ?_
    refine z_put C G clX9 0 rfl 2 (by decide) m_fl_RX9_77 rfl rfl rfl (Nat.le_of_ble_eq_true rfl) dX9_takeAll_40 (fun H locs G => ?_)
    have G : zS T A s.heap s [[zO8 t a1_32 lno flo pl a2_33 a3_34 a4_35 a5_36], [zAr T 1 a1_32 600 x9], [zAr T 0 a2_33 3 fk], [zArq T 3 a3_34 2 q1_37], [zArq T 4 a4_35 2 q2_38], [zArq T 5 a5_36 2 q3_39], z0_, z1_, wd0_, wd1_, wg0_, wg1_, [zO8 o a1_15 lno flo plo a2_16 a3_17 a4_18 a5_19], [zAr T 1 a1_15 600 fto], [zAr T 0 a2_16 3 fko], [zArq T 3 a3_17 2 q1_20], [zArq T 4 a4_18 2 q2_21], [zArq T 5 a5_19 2 q3_22], z0_o, z1_o, wd0_o, wd1_o, wg0_o, wg1_o] _ _ := G
    refine lv_aload_n hx hb dX9_takeAll_43 rfl (lv_at hl 1 rfl) ?_
    refine lv_aload_n hx hb dX9_takeAll_44 rfl (lv_at hl 2 rfl) ?_
    refine z_get C G clX9 12 rfl 3 (by decide) m_fl_RX9_15 rfl dX9_takeAll_45 ?_
    refine z_put C G clX9 0 rfl 3 (by decide) m_fl_RX9_15 rfl rfl rfl (Nat.le_of_ble_eq_true rfl) dX9_takeAll_48 (fun H locs G => ?_)
    have G : zS T A s.heap s [[zO8 t a1_32 lno flo plo a2_33 a3_34 a4_35 a5_36], [zAr T 1 a1_32 600 x9], [zAr T 0 a2_33 3 fk], [zArq T 3 a3_34 2 q1_37], [zArq T 4 a4_35 2 q2_38], [zArq T 5 a5_36 2 q3_39], z0_, z1_, wd0_, wd1_, wg0_, wg1_, [zO8 o a1_15 lno flo plo a2_16 a3_17 a4_18 a5_19], [zAr T 1 a1_15 600 fto], [zAr T 0 a2_16 3 fko], [zArq T 3 a3_17 2 q1_20], [zArq T 4 a4_18 2 q2_21], [zArq T 5 a5_19 2 q3_22], z0_o, z1_o, wd0_o, wd1_o, wg0_o, wg1_o] _ _ := G
    refine lv_iconst (v := 0) hx hb dX9_takeAll_51 (by decide) ?_
    refine lv_istore_n (lv' := [(2, .int 0), (0, .ref t), (1, .ref o)]) hx hb dX9_takeAll_52 rfl hl (by decide) (zLvf_h rfl) (fun ls hl => ?_)
    refine lv_iload_n hx hb dX9_takeAll_53 rfl (lv_at hl 0 rfl) ?_
    refine lv_iconst (v := 2) hx hb dX9_takeAll_54 (by decide) ?_
    refine lv_icmp_gt (tgt := 76) hx hb dX9_takeAll_55 (by decide) (fun q => absurd q (by decide)) (fun _ => ?_)
    refine lv_aload_n hx hb dX9_takeAll_58 rfl (lv_at hl 1 rfl) ?_
    refine z_get C G clX9 0 rfl 4 (by decide) m_fl_RX9_19 rfl dX9_takeAll_59 ?_
    refine lv_iload_n hx hb dX9_takeAll_62 rfl (lv_at hl 0 rfl) ?_
    refine lv_aload_n hx hb dX9_takeAll_63 rfl (lv_at hl 2 rfl) ?_
    refine z_get C G clX9 12 rfl 4 (by decide) m_fl_RX9_19 rfl dX9_takeAll_64 ?_
    refine lv_iload_n hx hb dX9_takeAll_67 rfl (lv_at hl 0 rfl) ?_
    refine z_ild C G 14 rfl (vp_in_nI (n := 0) (by decide) (by decide)) dX9_takeAll_68 ?_
    refine lv_topi (fun v_46 ev_46 => ?_)
    rw [show ((0 : Int32).toNatClampNeg) = 0 from rfl] at ev_46
    subst ev_46
    refine z_ist C G 2 rfl (vp_in_nI (n := 0) (by decide) (by decide)) dX9_takeAll_69 (fun H locs G => ?_)
    have G : zS T A s.heap s [[zO8 t a1_32 lno flo plo a2_33 a3_34 a4_35 a5_36], [zAr T 1 a1_32 600 x9], [zAr T 0 a2_33 3 (upd fk 0 (fko 0))], [zArq T 3 a3_34 2 q1_37], [zArq T 4 a4_35 2 q2_38], [zArq T 5 a5_36 2 q3_39], z0_, z1_, wd0_, wd1_, wg0_, wg1_, [zO8 o a1_15 lno flo plo a2_16 a3_17 a4_18 a5_19], [zAr T 1 a1_15 600 fto], [zAr T 0 a2_16 3 fko], [zArq T 3 a3_17 2 q1_20], [zArq T 4 a4_18 2 q2_21], [zArq T 5 a5_19 2 q3_22], z0_o, z1_o, wd0_o, wd1_o, wg0_o, wg1_o] _ _ := G
    refine lv_iinc (v := 1) (lv' := [(2, .int 1), (0, .ref t), (1, .ref o)]) hx hb dX9_takeAll_70 hl (k := 0) rfl (by decide) (by decide) (zLvf_h rfl) (fun ls hl => ?_)
    refine lv_goto (tgt := 53) hx hb dX9_takeAll_73 (by decide) ?_
    refine lv_iload_n hx hb dX9_takeAll_53 rfl (lv_at hl 0 rfl) ?_
    refine lv_iconst (v := 2) hx hb dX9_takeAll_54 (by decide) ?_
    refine lv_icmp_gt (tgt := 76) hx hb dX9_takeAll_55 (by decide) (fun q => absurd q (by decide)) (fun _ => ?_)
    refine lv_aload_n hx hb dX9_takeAll_58 rfl (lv_at hl 1 rfl) ?_
    refine z_get C G clX9 0 rfl 4 (by decide) m_fl_RX9_19 rfl dX9_takeAll_59 ?_
    refine lv_iload_n hx hb dX9_takeAll_62 rfl (lv_at hl 0 rfl) ?_
    refine lv_aload_n hx hb dX9_takeAll_63 rfl (lv_at hl 2 rfl) ?_
    refine z_get C G clX9 12 rfl 4 (by decide) m_fl_RX9_19 rfl dX9_takeAll_64 ?_
    refine lv_iload_n hx hb dX9_takeAll_67 rfl (lv_at hl 0 rfl) ?_
    refine z_ild C G 14 rfl (vp_in_nI (n := 1) (by decide) (by decide)) dX9_takeAll_68 ?_
    refine lv_topi (fun v_47 ev_47 => ?_)
    rw [show ((1 : Int32).toNatClampNeg) = 1 from rfl] at ev_47
    subst ev_47
    refine z_ist C G 2 rfl (vp_in_nI (n := 1) (by decide) (by decide)) dX9_takeAll_69 (fun H locs G => ?_)
    have G : zS T A s.heap s [[zO8 t a1_32 lno flo plo a2_33 a3_34 a4_35 a5_36], [zAr T 1 a1_32 600 x9], [zAr T 0 a2_33 3 (upd (upd fk 0 (fko 0)) 1 (fko 1))], [zArq T 3 a3_34 2 q1_37], [zArq T 4 a4_35 2 q2_38], [zArq T 5 a5_36 2 q3_39], z0_, z1_, wd0_, wd1_, wg0_, wg1_, [zO8 o a1_15 lno flo plo a2_16 a3_17 a4_18 a5_19], [zAr T 1 a1_15 600 fto], [zAr T 0 a2_16 3 fko], [zArq T 3 a3_17 2 q1_20], [zArq T 4 a4_18 2 q2_21], [zArq T 5 a5_19 2 q3_22], z0_o, z1_o, wd0_o, wd1_o, wg0_o, wg1_o] _ _ := G
    refine lv_iinc (v := 2) (lv' := [(2, .int 2), (0, .ref t), (1, .ref o)]) hx hb dX9_takeAll_70 hl (k := 0) rfl (by decide) (by decide) (zLvf_h rfl) (fun ls hl => ?_)
    refine lv_goto (tgt := 53) hx hb dX9_takeAll_73 (by decide) ?_
    refine lv_iload_n hx hb dX9_takeAll_53 rfl (lv_at hl 0 rfl) ?_
    refine lv_iconst (v := 2) hx hb dX9_takeAll_54 (by decide) ?_
    refine lv_icmp_gt (tgt := 76) hx hb dX9_takeAll_55 (by decide) (fun q => absurd q (by decide)) (fun _ => ?_)
    refine lv_aload_n hx hb dX9_takeAll_58 rfl (lv_at hl 1 rfl) ?_
    refine z_get C G clX9 0 rfl 4 (by decide) m_fl_RX9_19 rfl dX9_takeAll_59 ?_
    refine lv_iload_n hx hb dX9_takeAll_62 rfl (lv_at hl 0 rfl) ?_
    refine lv_aload_n hx hb dX9_takeAll_63 rfl (lv_at hl 2 rfl) ?_
    refine z_get C G clX9 12 rfl 4 (by decide) m_fl_RX9_19 rfl dX9_takeAll_64 ?_
    refine lv_iload_n hx hb dX9_takeAll_67 rfl (lv_at hl 0 rfl) ?_
    refine z_ild C G 14 rfl (vp_in_nI (n := 2) (by decide) (by decide)) dX9_takeAll_68 ?_
    refine lv_topi (fun v_48 ev_48 => ?_)
    rw [show ((2 : Int32).toNatClampNeg) = 2 from rfl] at ev_48
    subst ev_48
    refine z_ist C G 2 rfl (vp_in_nI (n := 2) (by decide) (by decide)) dX9_takeAll_69 (fun H locs G => ?_)
    have G : zS T A s.heap s [[zO8 t a1_32 lno flo plo a2_33 a3_34 a4_35 a5_36], [zAr T 1 a1_32 600 x9], [zAr T 0 a2_33 3 (upd (upd (upd fk 0 (fko 0)) 1 (fko 1)) 2 (fko 2))], [zArq T 3 a3_34 2 q1_37], [zArq T 4 a4_35 2 q2_38], [zArq T 5 a5_36 2 q3_39], z0_, z1_, wd0_, wd1_, wg0_, wg1_, [zO8 o a1_15 lno flo plo a2_16 a3_17 a4_18 a5_19], [zAr T 1 a1_15 600 fto], [zAr T 0 a2_16 3 fko], [zArq T 3 a3_17 2 q1_20], [zArq T 4 a4_18 2 q2_21], [zArq T 5 a5_19 2 q3_22], z0_o, z1_o, wd0_o, wd1_o, wg0_o, wg1_o] _ _ := G
    refine lv_iinc (v := 3) (lv' := [(2, .int 3), (0, .ref t), (1, .ref o)]) hx hb dX9_takeAll_70 hl (k := 0) rfl (by decide) (by decide) (zLvf_h rfl) (fun ls hl => ?_)
    refine lv_goto (tgt := 53) hx hb dX9_takeAll_73 (by decide) ?_
    refine lv_iload_n hx hb dX9_takeAll_53 rfl (lv_at hl 0 rfl) ?_
    refine lv_iconst (v := 2) hx hb dX9_takeAll_54 (by decide) ?_
    refine lv_icmp_gt (tgt := 76) hx hb dX9_takeAll_55 (by decide) (fun _ => ?_) (fun q => absurd (by decide) q)
    refine lv_iconst (v := 0) hx hb dX9_takeAll_76 (by decide) ?_
    refine lv_istore_n (lv' := [(2, .int 0), (0, .ref t), (1, .ref o)]) hx hb dX9_takeAll_77 rfl hl (by decide) (zLvf_h rfl) (fun ls hl => ?_)
    refine lv_iload_n hx hb dX9_takeAll_78 rfl (lv_at hl 0 rfl) ?_
    refine lv_iconst (v := 2) hx hb dX9_takeAll_79 (by decide) ?_
    refine lv_icmp_ge (tgt := 134) hx hb dX9_takeAll_80 (by decide) (fun q => absurd q (by decide)) (fun _ => ?_)
    refine lv_aload_n hx hb dX9_takeAll_83 rfl (lv_at hl 1 rfl) ?_
    refine z_get C G clX9 0 rfl 5 (by decide) m_fl_RX9_26 rfl dX9_takeAll_84 ?_
    refine lv_iload_n hx hb dX9_takeAll_87 rfl (lv_at hl 0 rfl) ?_
    refine z_ald C G 3 3 rfl rfl (vp_in_nI (n := 0) (by decide) (by decide)) dX9_takeAll_88 ?_
    rw [show q1_37 ((0 : Int32).toNatClampNeg) = some l0 from h_40]
    refine lv_aload_n hx hb dX9_takeAll_89 rfl (lv_at hl 2 rfl) ?_
    refine z_get C G clX9 12 rfl 5 (by decide) m_fl_RX9_26 rfl dX9_takeAll_90 ?_
    refine lv_iload_n hx hb dX9_takeAll_93 rfl (lv_at hl 0 rfl) ?_
    refine z_ald C G 15 3 rfl rfl (vp_in_nI (n := 0) (by decide) (by decide)) dX9_takeAll_94 ?_
    rw [show q1_20 ((0 : Int32).toNatClampNeg) = some l0o from h_23]
    refine z_Vv (bc := [z0_, z0_o]) (br := [[zO8 t a1_32 lno flo plo a2_33 a3_34 a4_35 a5_36], [zAr T 1 a1_32 600 x9], [zAr T 0 a2_33 3 (upd (upd (upd fk 0 (fko 0)) 1 (fko 1)) 2 (fko 2))], [zArq T 3 a3_34 2 q1_37], [zArq T 4 a4_35 2 q2_38], [zArq T 5 a5_36 2 q3_39], z1_, wd0_, wd1_, wg0_, wg1_, [zO8 o a1_15 lno flo plo a2_16 a3_17 a4_18 a5_19], [zAr T 1 a1_15 600 fto], [zAr T 0 a2_16 3 fko], [zArq T 3 a3_17 2 q1_20], [zArq T 4 a4_18 2 q2_21], [zArq T 5 a5_19 2 q3_22], z1_o, wd0_o, wd1_o, wg0_o, wg1_o]) (As := [.ref l0o]) (rest := []) C G (c_Land_takeAll l T l0 l0o cr0_ inn0_ k10_ k20_ k30_ k40_ cr0_o inn0_o k10_o k20_o k30_o k40_o z0_ z0_o hz0_ hz0_o) (kV_RX9_53 C.2.2.2.2 (Nat.le_of_ble_eq_true rfl) (Nat.le_of_ble_eq_true rfl)) [6, 18] [6, 11] rfl rfl (ci := 4) (qc := (RX4, TX4, 6)) rfl rfl (List.mem_flatten.mpr ⟨_, List.mem_of_getElem? (i := 0) rfl, (bLand_mem hz0_).choose_spec⟩) rfl rfl hl.1 dX9_takeAll_95 (Nat.le_of_ble_eq_true rfl) (Nat.le_of_ble_eq_true rfl) (fun b1 H locs hw G => ?_)
    refine zEx5 hw ?_
    intro w2_49 g1_50 g2_51 g3_52 g4_53
    refine zCu6 ?_
    intro hbs9 h_54 h_55 h_56 h_57 h_58
    clear hw
    subst hbs9
    have G : zS T A s.heap s [[zO8 t a1_32 lno flo plo a2_33 a3_34 a4_35 a5_36], [zAr T 1 a1_32 600 x9], [zAr T 0 a2_33 3 (upd (upd (upd fk 0 (fko 0)) 1 (fko 1)) 2 (fko 2))], [zArq T 3 a3_34 2 q1_37], [zArq T 4 a4_35 2 q2_38], [zArq T 5 a5_36 2 q3_39], z1_, wd0_, wd1_, wg0_, wg1_, [zO8 o a1_15 lno flo plo a2_16 a3_17 a4_18 a5_19], [zAr T 1 a1_15 600 fto], [zAr T 0 a2_16 3 fko], [zArq T 3 a3_17 2 q1_20], [zArq T 4 a4_18 2 q2_21], [zArq T 5 a5_19 2 q3_22], z1_o, wd0_o, wd1_o, wg0_o, wg1_o, w2_49, z0_o] _ _ := G
    refine lv_aload_n hx hb dX9_takeAll_98 rfl (lv_at hl 1 rfl) ?_
    refine z_get C G clX9 0 rfl 6 (by decide) m_fl_RX9_33 rfl dX9_takeAll_99 ?_
    refine lv_iload_n hx hb dX9_takeAll_102 rfl (lv_at hl 0 rfl) ?_
    refine z_ald C G 4 4 rfl rfl (vp_in_nI (n := 0) (by decide) (by decide)) dX9_takeAll_103 ?_
    rw [show q2_38 ((0 : Int32).toNatClampNeg) = some d0 from h_42]
    refine lv_aload_n hx hb dX9_takeAll_104 rfl (lv_at hl 2 rfl) ?_
    refine z_get C G clX9 11 rfl 6 (by decide) m_fl_RX9_33 rfl dX9_takeAll_105 ?_
    refine lv_iload_n hx hb dX9_takeAll_108 rfl (lv_at hl 0 rfl) ?_
    refine z_ald C G 15 4 rfl rfl (vp_in_nI (n := 0) (by decide) (by decide)) dX9_takeAll_109 ?_
    rw [show q2_21 ((0 : Int32).toNatClampNeg) = some d0o from h_25]
    refine z_Vv (bc := [wd0_, wd0_o]) (br := [[zO8 t a1_32 lno flo plo a2_33 a3_34 a4_35 a5_36], [zAr T 1 a1_32 600 x9], [zAr T 0 a2_33 3 (upd (upd (upd fk 0 (fko 0)) 1 (fko 1)) 2 (fko 2))], [zArq T 3 a3_34 2 q1_37], [zArq T 4 a4_35 2 q2_38], [zArq T 5 a5_36 2 q3_39], z1_, wd1_, wg0_, wg1_, [zO8 o a1_15 lno flo plo a2_16 a3_17 a4_18 a5_19], [zAr T 1 a1_15 600 fto], [zAr T 0 a2_16 3 fko], [zArq T 3 a3_17 2 q1_20], [zArq T 4 a4_18 2 q2_21], [zArq T 5 a5_19 2 q3_22], z1_o, wd1_o, wg0_o, wg1_o, w2_49, z0_o]) (As := [.ref d0o]) (rest := []) C G (c_Day_takeAll l T d0 d0o dd0_ p10_ p20_ p30_ dd0_o p10_o p20_o p30_o wd0_ wd0_o hd0_ hd0_o) (kV_RX9_61 C.2.2.2.2 (Nat.le_of_ble_eq_true rfl) (Nat.le_of_ble_eq_true rfl)) [7, 18] [7, 10] rfl rfl (ci := 2) (qc := (RX2, TX2, 4)) rfl rfl (List.mem_flatten.mpr ⟨_, List.mem_of_getElem? (i := 0) rfl, (bDay_mem hd0_).choose_spec⟩) rfl rfl hl.1 dX9_takeAll_110 (Nat.le_of_ble_eq_true rfl) (Nat.le_of_ble_eq_true rfl) (fun b1 H locs hw G => ?_)
    refine zEx4 hw ?_
    intro w2_60 g1_61 g2_62 g3_63
    refine zCu5 ?_
    intro hbs9 h_64 h_65 h_66 h_67
    clear hw
    subst hbs9
    have G : zS T A s.heap s [[zO8 t a1_32 lno flo plo a2_33 a3_34 a4_35 a5_36], [zAr T 1 a1_32 600 x9], [zAr T 0 a2_33 3 (upd (upd (upd fk 0 (fko 0)) 1 (fko 1)) 2 (fko 2))], [zArq T 3 a3_34 2 q1_37], [zArq T 4 a4_35 2 q2_38], [zArq T 5 a5_36 2 q3_39], z1_, wd1_, wg0_, wg1_, [zO8 o a1_15 lno flo plo a2_16 a3_17 a4_18 a5_19], [zAr T 1 a1_15 600 fto], [zAr T 0 a2_16 3 fko], [zArq T 3 a3_17 2 q1_20], [zArq T 4 a4_18 2 q2_21], [zArq T 5 a5_19 2 q3_22], z1_o, wd1_o, wg0_o, wg1_o, w2_49, z0_o, w2_60, wd0_o] _ _ := G
    refine lv_aload_n hx hb dX9_takeAll_113 rfl (lv_at hl 1 rfl) ?_
    refine z_get C G clX9 0 rfl 7 (by decide) m_fl_RX9_40 rfl dX9_takeAll_114 ?_
    refine lv_iload_n hx hb dX9_takeAll_117 rfl (lv_at hl 0 rfl) ?_
    refine z_ald C G 5 5 rfl rfl (vp_in_nI (n := 0) (by decide) (by decide)) dX9_takeAll_118 ?_
    rw [show q3_39 ((0 : Int32).toNatClampNeg) = some g0 from h_44]
    refine lv_aload_n hx hb dX9_takeAll_119 rfl (lv_at hl 2 rfl) ?_
    refine z_get C G clX9 10 rfl 7 (by decide) m_fl_RX9_40 rfl dX9_takeAll_120 ?_
    refine lv_iload_n hx hb dX9_takeAll_123 rfl (lv_at hl 0 rfl) ?_
    refine z_ald C G 15 5 rfl rfl (vp_in_nI (n := 0) (by decide) (by decide)) dX9_takeAll_124 ?_
    rw [show q3_22 ((0 : Int32).toNatClampNeg) = some g0o from h_27]
    refine z_Vv (bc := [wg0_, wg0_o]) (br := [[zO8 t a1_32 lno flo plo a2_33 a3_34 a4_35 a5_36], [zAr T 1 a1_32 600 x9], [zAr T 0 a2_33 3 (upd (upd (upd fk 0 (fko 0)) 1 (fko 1)) 2 (fko 2))], [zArq T 3 a3_34 2 q1_37], [zArq T 4 a4_35 2 q2_38], [zArq T 5 a5_36 2 q3_39], z1_, wd1_, wg1_, [zO8 o a1_15 lno flo plo a2_16 a3_17 a4_18 a5_19], [zAr T 1 a1_15 600 fto], [zAr T 0 a2_16 3 fko], [zArq T 3 a3_17 2 q1_20], [zArq T 4 a4_18 2 q2_21], [zArq T 5 a5_19 2 q3_22], z1_o, wd1_o, wg1_o, w2_49, z0_o, w2_60, wd0_o]) (As := [.ref g0o]) (rest := []) C G (c_Log_takeAll l T g0 g0o gg0_ q10_ q20_ gg0_o q10_o q20_o wg0_ wg0_o hg0_ hg0_o) (kV_RX9_68 C.2.2.2.2 (Nat.le_of_ble_eq_true rfl) (Nat.le_of_ble_eq_true rfl)) [8, 18] [8, 9] rfl rfl (ci := 5) (qc := (RX5, TX5, 3)) rfl rfl (List.mem_flatten.mpr ⟨_, List.mem_of_getElem? (i := 0) rfl, (bLog_mem hg0_).choose_spec⟩) rfl rfl hl.1 dX9_takeAll_125 (Nat.le_of_ble_eq_true rfl) (Nat.le_of_ble_eq_true rfl) (fun b1 H locs hw G => ?_)
    refine zEx3 hw ?_
    intro w2_69 g1_70 g2_71
    refine zCu4 ?_
    intro hbs9 h_72 h_73 h_74
    clear hw
    subst hbs9
    have G : zS T A s.heap s [[zO8 t a1_32 lno flo plo a2_33 a3_34 a4_35 a5_36], [zAr T 1 a1_32 600 x9], [zAr T 0 a2_33 3 (upd (upd (upd fk 0 (fko 0)) 1 (fko 1)) 2 (fko 2))], [zArq T 3 a3_34 2 q1_37], [zArq T 4 a4_35 2 q2_38], [zArq T 5 a5_36 2 q3_39], z1_, wd1_, wg1_, [zO8 o a1_15 lno flo plo a2_16 a3_17 a4_18 a5_19], [zAr T 1 a1_15 600 fto], [zAr T 0 a2_16 3 fko], [zArq T 3 a3_17 2 q1_20], [zArq T 4 a4_18 2 q2_21], [zArq T 5 a5_19 2 q3_22], z1_o, wd1_o, wg1_o, w2_49, z0_o, w2_60, wd0_o, w2_69, wg0_o] _ _ := G
    refine lv_iinc (v := 1) (lv' := [(2, .int 1), (0, .ref t), (1, .ref o)]) hx hb dX9_takeAll_128 hl (k := 0) rfl (by decide) (by decide) (zLvf_h rfl) (fun ls hl => ?_)
    refine lv_goto (tgt := 78) hx hb dX9_takeAll_131 (by decide) ?_
    refine lv_iload_n hx hb dX9_takeAll_78 rfl (lv_at hl 0 rfl) ?_
    refine lv_iconst (v := 2) hx hb dX9_takeAll_79 (by decide) ?_
    refine lv_icmp_ge (tgt := 134) hx hb dX9_takeAll_80 (by decide) (fun q => absurd q (by decide)) (fun _ => ?_)
    refine lv_aload_n hx hb dX9_takeAll_83 rfl (lv_at hl 1 rfl) ?_
    refine z_get C G clX9 0 rfl 5 (by decide) m_fl_RX9_26 rfl dX9_takeAll_84 ?_
    refine lv_iload_n hx hb dX9_takeAll_87 rfl (lv_at hl 0 rfl) ?_
    refine z_ald C G 3 3 rfl rfl (vp_in_nI (n := 1) (by decide) (by decide)) dX9_takeAll_88 ?_
    rw [show q1_37 ((1 : Int32).toNatClampNeg) = some l1 from h_41]
    refine lv_aload_n hx hb dX9_takeAll_89 rfl (lv_at hl 2 rfl) ?_
    refine z_get C G clX9 9 rfl 5 (by decide) m_fl_RX9_26 rfl dX9_takeAll_90 ?_
    refine lv_iload_n hx hb dX9_takeAll_93 rfl (lv_at hl 0 rfl) ?_
    refine z_ald C G 12 3 rfl rfl (vp_in_nI (n := 1) (by decide) (by decide)) dX9_takeAll_94 ?_
    rw [show q1_20 ((1 : Int32).toNatClampNeg) = some l1o from h_24]
    refine z_Vv (bc := [z1_, z1_o]) (br := [[zO8 t a1_32 lno flo plo a2_33 a3_34 a4_35 a5_36], [zAr T 1 a1_32 600 x9], [zAr T 0 a2_33 3 (upd (upd (upd fk 0 (fko 0)) 1 (fko 1)) 2 (fko 2))], [zArq T 3 a3_34 2 q1_37], [zArq T 4 a4_35 2 q2_38], [zArq T 5 a5_36 2 q3_39], wd1_, wg1_, [zO8 o a1_15 lno flo plo a2_16 a3_17 a4_18 a5_19], [zAr T 1 a1_15 600 fto], [zAr T 0 a2_16 3 fko], [zArq T 3 a3_17 2 q1_20], [zArq T 4 a4_18 2 q2_21], [zArq T 5 a5_19 2 q3_22], wd1_o, wg1_o, w2_49, z0_o, w2_60, wd0_o, w2_69, wg0_o]) (As := [.ref l1o]) (rest := []) C G (c_Land_takeAll l T l1 l1o cr1_ inn1_ k11_ k21_ k31_ k41_ cr1_o inn1_o k11_o k21_o k31_o k41_o z1_ z1_o hz1_ hz1_o) (kV_RX9_53 C.2.2.2.2 (Nat.le_of_ble_eq_true rfl) (Nat.le_of_ble_eq_true rfl)) [6, 15] [6, 8] rfl rfl (ci := 4) (qc := (RX4, TX4, 6)) rfl rfl (List.mem_flatten.mpr ⟨_, List.mem_of_getElem? (i := 0) rfl, (bLand_mem hz1_).choose_spec⟩) rfl rfl hl.1 dX9_takeAll_95 (Nat.le_of_ble_eq_true rfl) (Nat.le_of_ble_eq_true rfl) (fun b1 H locs hw G => ?_)
    refine zEx5 hw ?_
    intro w2_76 g1_77 g2_78 g3_79 g4_80
    refine zCu6 ?_
    intro hbs9 h_81 h_82 h_83 h_84 h_85
    clear hw
    subst hbs9
    have G : zS T A s.heap s [[zO8 t a1_32 lno flo plo a2_33 a3_34 a4_35 a5_36], [zAr T 1 a1_32 600 x9], [zAr T 0 a2_33 3 (upd (upd (upd fk 0 (fko 0)) 1 (fko 1)) 2 (fko 2))], [zArq T 3 a3_34 2 q1_37], [zArq T 4 a4_35 2 q2_38], [zArq T 5 a5_36 2 q3_39], wd1_, wg1_, [zO8 o a1_15 lno flo plo a2_16 a3_17 a4_18 a5_19], [zAr T 1 a1_15 600 fto], [zAr T 0 a2_16 3 fko], [zArq T 3 a3_17 2 q1_20], [zArq T 4 a4_18 2 q2_21], [zArq T 5 a5_19 2 q3_22], wd1_o, wg1_o, w2_49, z0_o, w2_60, wd0_o, w2_69, wg0_o, w2_76, z1_o] _ _ := G
    refine lv_aload_n hx hb dX9_takeAll_98 rfl (lv_at hl 1 rfl) ?_
    refine z_get C G clX9 0 rfl 6 (by decide) m_fl_RX9_33 rfl dX9_takeAll_99 ?_
    refine lv_iload_n hx hb dX9_takeAll_102 rfl (lv_at hl 0 rfl) ?_
    refine z_ald C G 4 4 rfl rfl (vp_in_nI (n := 1) (by decide) (by decide)) dX9_takeAll_103 ?_
    rw [show q2_38 ((1 : Int32).toNatClampNeg) = some d1 from h_43]
    refine lv_aload_n hx hb dX9_takeAll_104 rfl (lv_at hl 2 rfl) ?_
    refine z_get C G clX9 8 rfl 6 (by decide) m_fl_RX9_33 rfl dX9_takeAll_105 ?_
    refine lv_iload_n hx hb dX9_takeAll_108 rfl (lv_at hl 0 rfl) ?_
    refine z_ald C G 12 4 rfl rfl (vp_in_nI (n := 1) (by decide) (by decide)) dX9_takeAll_109 ?_
    rw [show q2_21 ((1 : Int32).toNatClampNeg) = some d1o from h_26]
    refine z_Vv (bc := [wd1_, wd1_o]) (br := [[zO8 t a1_32 lno flo plo a2_33 a3_34 a4_35 a5_36], [zAr T 1 a1_32 600 x9], [zAr T 0 a2_33 3 (upd (upd (upd fk 0 (fko 0)) 1 (fko 1)) 2 (fko 2))], [zArq T 3 a3_34 2 q1_37], [zArq T 4 a4_35 2 q2_38], [zArq T 5 a5_36 2 q3_39], wg1_, [zO8 o a1_15 lno flo plo a2_16 a3_17 a4_18 a5_19], [zAr T 1 a1_15 600 fto], [zAr T 0 a2_16 3 fko], [zArq T 3 a3_17 2 q1_20], [zArq T 4 a4_18 2 q2_21], [zArq T 5 a5_19 2 q3_22], wg1_o, w2_49, z0_o, w2_60, wd0_o, w2_69, wg0_o, w2_76, z1_o]) (As := [.ref d1o]) (rest := []) C G (c_Day_takeAll l T d1 d1o dd1_ p11_ p21_ p31_ dd1_o p11_o p21_o p31_o wd1_ wd1_o hd1_ hd1_o) (kV_RX9_61 C.2.2.2.2 (Nat.le_of_ble_eq_true rfl) (Nat.le_of_ble_eq_true rfl)) [6, 14] [6, 7] rfl rfl (ci := 2) (qc := (RX2, TX2, 4)) rfl rfl (List.mem_flatten.mpr ⟨_, List.mem_of_getElem? (i := 0) rfl, (bDay_mem hd1_).choose_spec⟩) rfl rfl hl.1 dX9_takeAll_110 (Nat.le_of_ble_eq_true rfl) (Nat.le_of_ble_eq_true rfl) (fun b1 H locs hw G => ?_)
    refine zEx4 hw ?_
    intro w2_87 g1_88 g2_89 g3_90
    refine zCu5 ?_
    intro hbs9 h_91 h_92 h_93 h_94
    clear hw
    subst hbs9
    have G : zS T A s.heap s [[zO8 t a1_32 lno flo plo a2_33 a3_34 a4_35 a5_36], [zAr T 1 a1_32 600 x9], [zAr T 0 a2_33 3 (upd (upd (upd fk 0 (fko 0)) 1 (fko 1)) 2 (fko 2))], [zArq T 3 a3_34 2 q1_37], [zArq T 4 a4_35 2 q2_38], [zArq T 5 a5_36 2 q3_39], wg1_, [zO8 o a1_15 lno flo plo a2_16 a3_17 a4_18 a5_19], [zAr T 1 a1_15 600 fto], [zAr T 0 a2_16 3 fko], [zArq T 3 a3_17 2 q1_20], [zArq T 4 a4_18 2 q2_21], [zArq T 5 a5_19 2 q3_22], wg1_o, w2_49, z0_o, w2_60, wd0_o, w2_69, wg0_o, w2_76, z1_o, w2_87, wd1_o] _ _ := G
    refine lv_aload_n hx hb dX9_takeAll_113 rfl (lv_at hl 1 rfl) ?_
    refine z_get C G clX9 0 rfl 7 (by decide) m_fl_RX9_40 rfl dX9_takeAll_114 ?_
    refine lv_iload_n hx hb dX9_takeAll_117 rfl (lv_at hl 0 rfl) ?_
    refine z_ald C G 5 5 rfl rfl (vp_in_nI (n := 1) (by decide) (by decide)) dX9_takeAll_118 ?_
    rw [show q3_39 ((1 : Int32).toNatClampNeg) = some g1 from h_45]
    refine lv_aload_n hx hb dX9_takeAll_119 rfl (lv_at hl 2 rfl) ?_
    refine z_get C G clX9 7 rfl 7 (by decide) m_fl_RX9_40 rfl dX9_takeAll_120 ?_
    refine lv_iload_n hx hb dX9_takeAll_123 rfl (lv_at hl 0 rfl) ?_
    refine z_ald C G 12 5 rfl rfl (vp_in_nI (n := 1) (by decide) (by decide)) dX9_takeAll_124 ?_
    rw [show q3_22 ((1 : Int32).toNatClampNeg) = some g1o from h_28]
    refine z_Vv (bc := [wg1_, wg1_o]) (br := [[zO8 t a1_32 lno flo plo a2_33 a3_34 a4_35 a5_36], [zAr T 1 a1_32 600 x9], [zAr T 0 a2_33 3 (upd (upd (upd fk 0 (fko 0)) 1 (fko 1)) 2 (fko 2))], [zArq T 3 a3_34 2 q1_37], [zArq T 4 a4_35 2 q2_38], [zArq T 5 a5_36 2 q3_39], [zO8 o a1_15 lno flo plo a2_16 a3_17 a4_18 a5_19], [zAr T 1 a1_15 600 fto], [zAr T 0 a2_16 3 fko], [zArq T 3 a3_17 2 q1_20], [zArq T 4 a4_18 2 q2_21], [zArq T 5 a5_19 2 q3_22], w2_49, z0_o, w2_60, wd0_o, w2_69, wg0_o, w2_76, z1_o, w2_87, wd1_o]) (As := [.ref g1o]) (rest := []) C G (c_Log_takeAll l T g1 g1o gg1_ q11_ q21_ gg1_o q11_o q21_o wg1_ wg1_o hg1_ hg1_o) (kV_RX9_68 C.2.2.2.2 (Nat.le_of_ble_eq_true rfl) (Nat.le_of_ble_eq_true rfl)) [6, 13] [6, 6] rfl rfl (ci := 5) (qc := (RX5, TX5, 3)) rfl rfl (List.mem_flatten.mpr ⟨_, List.mem_of_getElem? (i := 0) rfl, (bLog_mem hg1_).choose_spec⟩) rfl rfl hl.1 dX9_takeAll_125 (Nat.le_of_ble_eq_true rfl) (Nat.le_of_ble_eq_true rfl) (fun b1 H locs hw G => ?_)
    refine zEx3 hw ?_
    intro w2_96 g1_97 g2_98
    refine zCu4 ?_
    intro hbs9 h_99 h_100 h_101
    clear hw
    subst hbs9
    have G : zS T A s.heap s [[zO8 t a1_32 lno flo plo a2_33 a3_34 a4_35 a5_36], [zAr T 1 a1_32 600 x9], [zAr T 0 a2_33 3 (upd (upd (upd fk 0 (fko 0)) 1 (fko 1)) 2 (fko 2))], [zArq T 3 a3_34 2 q1_37], [zArq T 4 a4_35 2 q2_38], [zArq T 5 a5_36 2 q3_39], [zO8 o a1_15 lno flo plo a2_16 a3_17 a4_18 a5_19], [zAr T 1 a1_15 600 fto], [zAr T 0 a2_16 3 fko], [zArq T 3 a3_17 2 q1_20], [zArq T 4 a4_18 2 q2_21], [zArq T 5 a5_19 2 q3_22], w2_49, z0_o, w2_60, wd0_o, w2_69, wg0_o, w2_76, z1_o, w2_87, wd1_o, w2_96, wg1_o] _ _ := G
    refine lv_iinc (v := 2) (lv' := [(2, .int 2), (0, .ref t), (1, .ref o)]) hx hb dX9_takeAll_128 hl (k := 0) rfl (by decide) (by decide) (zLvf_h rfl) (fun ls hl => ?_)
    refine lv_goto (tgt := 78) hx hb dX9_takeAll_131 (by decide) ?_
    refine lv_iload_n hx hb dX9_takeAll_78 rfl (lv_at hl 0 rfl) ?_
    refine lv_iconst (v := 2) hx hb dX9_takeAll_79 (by decide) ?_
    refine lv_icmp_ge (tgt := 134) hx hb dX9_takeAll_80 (by decide) (fun _ => ?_) (fun q => absurd (by decide) q)
    have hw_103 : bTold T t l0 l1 d0 d1 g0 g1 lno flo plo x9 (upd (upd (upd fk 0 (fko 0)) 1 (fko 1)) 2 (fko 2)) [zO8 t a1_32 lno flo plo a2_33 a3_34 a4_35 a5_36, zAr T 1 a1_32 600 x9, zAr T 0 a2_33 3 (upd (upd (upd fk 0 (fko 0)) 1 (fko 1)) 2 (fko 2)), zArq T 3 a3_34 2 q1_37, zArq T 4 a4_35 2 q2_38, zArq T 5 a5_36 2 q3_39] := ⟨a1_32, a2_33, a3_34, a4_35, a5_36, q1_37, q2_38, q3_39, rfl, h_40, h_41, h_42, h_43, h_44, h_45⟩
    have G : zS T A s.heap s [[zO8 t a1_32 lno flo plo a2_33 a3_34 a4_35 a5_36, zAr T 1 a1_32 600 x9, zAr T 0 a2_33 3 (upd (upd (upd fk 0 (fko 0)) 1 (fko 1)) 2 (fko 2)), zArq T 3 a3_34 2 q1_37, zArq T 4 a4_35 2 q2_38, zArq T 5 a5_36 2 q3_39], [zO8 o a1_15 lno flo plo a2_16 a3_17 a4_18 a5_19], [zAr T 1 a1_15 600 fto], [zAr T 0 a2_16 3 fko], [zArq T 3 a3_17 2 q1_20], [zArq T 4 a4_18 2 q2_21], [zArq T 5 a5_19 2 q3_22], w2_49, z0_o, w2_60, wd0_o, w2_69, wg0_o, w2_76, z1_o, w2_87, wd1_o, w2_96, wg1_o] _ _ := G.re rfl
    have hw_104 : bTold T o l0o l1o d0o d1o g0o g1o lno flo plo fto fko [zO8 o a1_15 lno flo plo a2_16 a3_17 a4_18 a5_19, zAr T 1 a1_15 600 fto, zAr T 0 a2_16 3 fko, zArq T 3 a3_17 2 q1_20, zArq T 4 a4_18 2 q2_21, zArq T 5 a5_19 2 q3_22] := ⟨a1_15, a2_16, a3_17, a4_18, a5_19, q1_20, q2_21, q3_22, rfl, h_23, h_24, h_25, h_26, h_27, h_28⟩
    have G : zS T A s.heap s [[zO8 t a1_32 lno flo plo a2_33 a3_34 a4_35 a5_36, zAr T 1 a1_32 600 x9, zAr T 0 a2_33 3 (upd (upd (upd fk 0 (fko 0)) 1 (fko 1)) 2 (fko 2)), zArq T 3 a3_34 2 q1_37, zArq T 4 a4_35 2 q2_38, zArq T 5 a5_36 2 q3_39], [zO8 o a1_15 lno flo plo a2_16 a3_17 a4_18 a5_19, zAr T 1 a1_15 600 fto, zAr T 0 a2_16 3 fko, zArq T 3 a3_17 2 q1_20, zArq T 4 a4_18 2 q2_21, zArq T 5 a5_19 2 q3_22], w2_49, z0_o, w2_60, wd0_o, w2_69, wg0_o, w2_76, z1_o, w2_87, wd1_o, w2_96, wg1_o] _ _ := G.re rfl
    have G := G.sub (bs' := [[zO8 t a1_32 lno flo plo a2_33 a3_34 a4_35 a5_36, zAr T 1 a1_32 600 x9, zAr T 0 a2_33 3 (upd (upd (upd fk 0 (fko 0)) 1 (fko 1)) 2 (fko 2)), zArq T 3 a3_34 2 q1_37, zArq T 4 a4_35 2 q2_38, zArq T 5 a5_36 2 q3_39], w2_49, w2_76, w2_60, w2_87, w2_69, w2_96, [zO8 o a1_15 lno flo plo a2_16 a3_17 a4_18 a5_19, zAr T 1 a1_15 600 fto, zAr T 0 a2_16 3 fko, zArq T 3 a3_17 2 q1_20, zArq T 4 a4_18 2 q2_21, zArq T 5 a5_19 2 q3_22], z0_o, z1_o, wd0_o, wd1_o, wg0_o, wg1_o]) [0, 2, 8, 4, 10, 6, 12, 1, 3, 9, 5, 11, 7, 13] rfl
    exact z_back hQ9 (z_vret C hr hlocks G (Nat.le_of_ble_eq_true rfl) (Nat.le_of_ble_eq_true rfl) dX9_takeAll_134 ⟨([zO8 t a1_32 lno flo plo a2_33 a3_34 a4_35 a5_36, zAr T 1 a1_32 600 x9, zAr T 0 a2_33 3 (upd (upd (upd fk 0 (fko 0)) 1 (fko 1)) 2 (fko 2)), zArq T 3 a3_34 2 q1_37, zArq T 4 a4_35 2 q2_38, zArq T 5 a5_36 2 q3_39]), x9, (upd (upd (upd fk 0 (fko 0)) 1 (fko 1)) 2 (fko 2)), w2_49, g1_50, g2_51, g3_52, g4_53, w2_76, g1_77, g2_78, g3_79, g4_80, w2_60, g1_61, g2_62, g3_63, w2_87, g1_88, g2_89, g3_90, w2_69, g1_70, g2_71, w2_96, g1_97, g2_98, rfl, hw_103, (zKT_upd (zKT_upd (zKT_upd hK 0 (hKo 0 (by decide))) 1 (hKo 1 (by decide))) 2 (hKo 2 (by decide))), h_54, h_81, h_64, h_91, h_72, h_99, (zLI_eq hI0_o h_55 h_57), (zLI_eq hI1_o h_82 h_84), (hTo.elim fun zz zr => zr.elim fun z1 zr => zr.elim fun z2 zr => zr.elim fun z3 zr => zr.elim fun z4 zr => zr.elim fun z5 z6 => zz.elim fun a1 ar => ar.elim fun a2 ar => ar.elim fun a3 ar => ar.elim fun a4 a5 => ⟨⟨a1, a2, a3, (fun j hj => (show _ = fko j by rcases (show j = 0 ∨ j = 1 ∨ j = 2 by omega) with q | q | q <;> subst q <;> rfl).trans (a4 j hj)), (fun j hj => by rw [hx9 j (by omega)]; exact a5 j hj)⟩, zLnd_eq z1 (fun j hj => (hI0_o.2.1 j hj).2) h_55 h_56 h_57 h_58, zLnd_eq z2 (fun j hj => (hI1_o.2.1 j hj).2) h_82 h_83 h_84 h_85, zDyd_eq z3 h_65 h_66 h_67, zDyd_eq z4 h_92 h_93 h_94, zLgd_eq z5 h_73 h_74, zLgd_eq z6 h_100 h_101⟩)⟩)
  · have c_31n : ¬ 600 ≤ i := fun q => c_31 ((nI_leI (a := 600) (b := i) (by omega) (by omega)).mpr q)
    refine lv_aload_n hx hb dX9_takeAll_9 rfl (lv_at hl 1 rfl) ?_
    refine zEx8 ht9 ?_
    intro a1_105 a2_106 a3_107 a4_108 a5_109 q1_110 q2_111 q3_112
    refine zCu7 ?_
    intro hbs9 h_113 h_114 h_115 h_116 h_117 h_118
    clear ht9
    subst hbs9
    have G : zS T A s.heap s [[zO8 t a1_105 ln fl pl a2_106 a3_107 a4_108 a5_109], [zAr T 1 a1_105 600 x9], [zAr T 0 a2_106 3 fk], [zArq T 3 a3_107 2 q1_110], [zArq T 4 a4_108 2 q2_111], [zArq T 5 a5_109 2 q3_112], z0_, z1_, wd0_, wd1_, wg0_, wg1_, [zO8 o a1_15 lno flo plo a2_16 a3_17 a4_18 a5_19, zAr T 1 a1_15 600 fto, zAr T 0 a2_16 3 fko, zArq T 3 a3_17 2 q1_20, zArq T 4 a4_18 2 q2_21, zArq T 5 a5_19 2 q3_22], z0_o, z1_o, wd0_o, wd1_o, wg0_o, wg1_o] _ _ := G.re rfl
    refine z_get C G clX9 0 rfl 0 (by decide) m_fl_RX9_9 rfl dX9_takeAll_10 ?_
    refine lv_iload_n hx hb dX9_takeAll_13 rfl (lv_at hl 0 rfl) ?_
    refine lv_aload_n hx hb dX9_takeAll_14 rfl (lv_at hl 2 rfl) ?_
    have G : zS T A s.heap s [[zO8 t a1_105 ln fl pl a2_106 a3_107 a4_108 a5_109], [zAr T 1 a1_105 600 x9], [zAr T 0 a2_106 3 fk], [zArq T 3 a3_107 2 q1_110], [zArq T 4 a4_108 2 q2_111], [zArq T 5 a5_109 2 q3_112], z0_, z1_, wd0_, wd1_, wg0_, wg1_, [zO8 o a1_15 lno flo plo a2_16 a3_17 a4_18 a5_19], [zAr T 1 a1_15 600 fto], [zAr T 0 a2_16 3 fko], [zArq T 3 a3_17 2 q1_20], [zArq T 4 a4_18 2 q2_21], [zArq T 5 a5_19 2 q3_22], z0_o, z1_o, wd0_o, wd1_o, wg0_o, wg1_o] _ _ := G.re rfl
    refine z_get C G clX9 12 rfl 0 (by decide) m_fl_RX9_9 rfl dX9_takeAll_15 ?_
    refine lv_iload_n hx hb dX9_takeAll_18 rfl (lv_at hl 0 rfl) ?_
    refine z_bld C G 13 rfl (vp_in_nI (by omega) (by decide)) dX9_takeAll_19 ?_
    refine lv_topi (fun v_119 ev_119 => ?_)
    rw [nI_clamp (by omega)] at ev_119
    subst ev_119
    refine z_bst C G 1 rfl (vp_in_nI (by omega) (by decide)) dX9_takeAll_20 (fun H locs G => ?_)
    rw [nI_clamp (by omega)] at G
    have G : zS T A s.heap s [[zO8 t a1_105 ln fl pl a2_106 a3_107 a4_108 a5_109], [zAr T 1 a1_105 600 (upd x9 i (vp_nar .byte (fto i)))], [zAr T 0 a2_106 3 fk], [zArq T 3 a3_107 2 q1_110], [zArq T 4 a4_108 2 q2_111], [zArq T 5 a5_109 2 q3_112], z0_, z1_, wd0_, wd1_, wg0_, wg1_, [zO8 o a1_15 lno flo plo a2_16 a3_17 a4_18 a5_19], [zAr T 1 a1_15 600 fto], [zAr T 0 a2_16 3 fko], [zArq T 3 a3_17 2 q1_20], [zArq T 4 a4_18 2 q2_21], [zArq T 5 a5_19 2 q3_22], z0_o, z1_o, wd0_o, wd1_o, wg0_o, wg1_o] _ _ := G
    refine lv_iinc (v := nI (i + 1)) (lv' := [(2, .int (nI (i + 1))), (0, .ref t), (1, .ref o)]) hx hb dX9_takeAll_21 hl (k := 0) rfl (z_inc i 1) (by decide) (zLvf_h rfl) (fun ls hl => ?_)
    refine lv_goto (tgt := 2) hx hb dX9_takeAll_24 (by decide) ?_
    have hw_120 : bTold T t l0 l1 d0 d1 g0 g1 ln fl pl (upd x9 i (vp_nar .byte (fto i))) fk [zO8 t a1_105 ln fl pl a2_106 a3_107 a4_108 a5_109, zAr T 1 a1_105 600 (upd x9 i (vp_nar .byte (fto i))), zAr T 0 a2_106 3 fk, zArq T 3 a3_107 2 q1_110, zArq T 4 a4_108 2 q2_111, zArq T 5 a5_109 2 q3_112] := ⟨a1_105, a2_106, a3_107, a4_108, a5_109, q1_110, q2_111, q3_112, rfl, h_113, h_114, h_115, h_116, h_117, h_118⟩
    have G : zS T A s.heap s [[zO8 t a1_105 ln fl pl a2_106 a3_107 a4_108 a5_109, zAr T 1 a1_105 600 (upd x9 i (vp_nar .byte (fto i))), zAr T 0 a2_106 3 fk, zArq T 3 a3_107 2 q1_110, zArq T 4 a4_108 2 q2_111, zArq T 5 a5_109 2 q3_112], z0_, z1_, wd0_, wd1_, wg0_, wg1_, [zO8 o a1_15 lno flo plo a2_16 a3_17 a4_18 a5_19], [zAr T 1 a1_15 600 fto], [zAr T 0 a2_16 3 fko], [zArq T 3 a3_17 2 q1_20], [zArq T 4 a4_18 2 q2_21], [zArq T 5 a5_19 2 q3_22], z0_o, z1_o, wd0_o, wd1_o, wg0_o, wg1_o] _ _ := G.re rfl
    have hw_121 : bTold T o l0o l1o d0o d1o g0o g1o lno flo plo fto fko [zO8 o a1_15 lno flo plo a2_16 a3_17 a4_18 a5_19, zAr T 1 a1_15 600 fto, zAr T 0 a2_16 3 fko, zArq T 3 a3_17 2 q1_20, zArq T 4 a4_18 2 q2_21, zArq T 5 a5_19 2 q3_22] := ⟨a1_15, a2_16, a3_17, a4_18, a5_19, q1_20, q2_21, q3_22, rfl, h_23, h_24, h_25, h_26, h_27, h_28⟩
    have G : zS T A s.heap s [[zO8 t a1_105 ln fl pl a2_106 a3_107 a4_108 a5_109, zAr T 1 a1_105 600 (upd x9 i (vp_nar .byte (fto i))), zAr T 0 a2_106 3 fk, zArq T 3 a3_107 2 q1_110, zArq T 4 a4_108 2 q2_111, zArq T 5 a5_109 2 q3_112], z0_, z1_, wd0_, wd1_, wg0_, wg1_, [zO8 o a1_15 lno flo plo a2_16 a3_17 a4_18 a5_19, zAr T 1 a1_15 600 fto, zAr T 0 a2_16 3 fko, zArq T 3 a3_17 2 q1_20, zArq T 4 a4_18 2 q2_21, zArq T 5 a5_19 2 q3_22], z0_o, z1_o, wd0_o, wd1_o, wg0_o, wg1_o] _ _ := G.re rfl
    exact ih_2 (i + 1) ([zO8 t a1_105 ln fl pl a2_106 a3_107 a4_108 a5_109, zAr T 1 a1_105 600 (upd x9 i (vp_nar .byte (fto i))), zAr T 0 a2_106 3 fk, zArq T 3 a3_107 2 q1_110, zArq T 4 a4_108 2 q2_111, zArq T 5 a5_109 2 q3_112]) (upd x9 i (vp_nar .byte (fto i))) (show bTold T t l0 l1 d0 d1 g0 g1 ln fl pl (upd x9 i (vp_nar .byte (fto i))) fk ([zO8 t a1_105 ln fl pl a2_106 a3_107 a4_108 a5_109, zAr T 1 a1_105 600 (upd x9 i (vp_nar .byte (fto i))), zAr T 0 a2_106 3 fk, zArq T 3 a3_107 2 q1_110, zArq T 4 a4_108 2 q2_111, zArq T 5 a5_109 2 q3_112]) ∧ (i + 1) ≤ 600 ∧ (∀ j, j < (i + 1) → (upd x9 i (vp_nar .byte (fto i))) j = fto j) from ⟨hw_120, by omega, z_updE hx9 (pk_vb2 (hTo.1.2.2.2.2 i (by omega)).2)⟩) (show 600 - (i + 1) < 600 - i from by omega) _ _ ls G (lv_sub hl [0, 1, 2] rfl)
set_option maxHeartbeats 4000000 in
set_option maxRecDepth 100000 in
/-- c_f_imageN -/
theorem c_f_imageN (l : Launch) (T : zTy) (xo : Nat) (t : Nat) (im : Nat) (mk : Nat) (rd : Nat) (po : Nat) (co : Nat) (tr : Nat) (wa : Nat) (wb_ : Nat) (fi : Nat) (cd : Nat) (k_ : Int32) (hk : k_.toInt < 0 ∨ 3 ≤ k_.toInt) : zMi l T yX11_image cX11_image 2 (some .boolean) 3 0 0 [.ref xo, .int k_] [[zO10 xo t im mk rd po co tr wa wb_ fi cd]] (fun (r : Int32) bs => bs = [[zO10 xo t im mk rd po co tr wa wb_ fi cd]] ∧ r = 0) := by
  refine zMi_of (own := RX11) (by decide) rfl (Nat.le_of_ble_eq_true rfl) ?_
  intro p e s m args below meth c A ls C hr hlocks hnm hAe G hl
  refine zHide (fun Q9 hQ9 => ?_)
  have hx := C.1
  have hb := C.2.1
  have hl : lv_has ls 2 [(0, .ref xo), (1, .int k_)] := hl
  refine lv_iload_n hx hb dX11_image_0 rfl (lv_at hl 1 rfl) ?_
  refine lv_if_lt (tgt := 9) hx hb dX11_image_1 (by decide) (fun c_1 => ?_) (fun c_1 => ?_)
  · have c_1n : k_.toInt < (0 : Int) := (fa_lt _ _).mp c_1
    refine lv_iconst (v := 0) hx hb dX11_image_9 (by decide) ?_
    exact z_back hQ9 (z_zret C hr hlocks G (Nat.le_of_ble_eq_true rfl) (Nat.le_of_ble_eq_true rfl) dX11_image_10 rfl ⟨rfl, rfl⟩)
  · have c_1n : ¬ k_.toInt < (0 : Int) := fun q => c_1 ((fa_lt _ _).mpr q)
    refine lv_iload_n hx hb dX11_image_4 rfl (lv_at hl 1 rfl) ?_
    refine lv_iconst (v := 3) hx hb dX11_image_5 (by decide) ?_
    refine lv_icmp_lt (tgt := 11) hx hb dX11_image_6 (by decide) (fun c_2 => ?_) (fun c_2 => ?_)
    · have c_2n : k_.toInt < (3 : Int) := (fa_lt _ _).mp c_2
      exact absurd (show (0 : Int) = 1 by omega) (by decide)
    · have c_2n : ¬ k_.toInt < (3 : Int) := fun q => c_2 ((fa_lt _ _).mpr q)
      refine lv_iconst (v := 0) hx hb dX11_image_9 (by decide) ?_
      exact z_back hQ9 (z_zret C hr hlocks G (Nat.le_of_ble_eq_true rfl) (Nat.le_of_ble_eq_true rfl) dX11_image_10 rfl ⟨rfl, rfl⟩)
set_option maxHeartbeats 4000000 in
set_option maxRecDepth 100000 in
/-- c_f_againN -/
theorem c_f_againN (l : Launch) (T : zTy) (xo : Nat) (t : Nat) (im : Nat) (mk : Nat) (rd : Nat) (po : Nat) (co : Nat) (tr : Nat) (wa : Nat) (wb_ : Nat) (fi : Nat) (cd : Nat) (k_ : Int32) (hk : k_.toInt < 0 ∨ 3 ≤ k_.toInt) : zMi l T yX11_again cX11_again 2 (some .boolean) 3 0 0 [.ref xo, .int k_] [[zO10 xo t im mk rd po co tr wa wb_ fi cd]] (fun (r : Int32) bs => bs = [[zO10 xo t im mk rd po co tr wa wb_ fi cd]] ∧ r = 0) := by
  refine zMi_of (own := RX11) (by decide) rfl (Nat.le_of_ble_eq_true rfl) ?_
  intro p e s m args below meth c A ls C hr hlocks hnm hAe G hl
  refine zHide (fun Q9 hQ9 => ?_)
  have hx := C.1
  have hb := C.2.1
  have hl : lv_has ls 2 [(0, .ref xo), (1, .int k_)] := hl
  refine lv_iload_n hx hb dX11_again_0 rfl (lv_at hl 1 rfl) ?_
  refine lv_if_lt (tgt := 18) hx hb dX11_again_1 (by decide) (fun c_1 => ?_) (fun c_1 => ?_)
  · have c_1n : k_.toInt < (0 : Int) := (fa_lt _ _).mp c_1
    refine lv_iconst (v := 0) hx hb dX11_again_18 (by decide) ?_
    exact z_back hQ9 (z_zret C hr hlocks G (Nat.le_of_ble_eq_true rfl) (Nat.le_of_ble_eq_true rfl) dX11_again_19 rfl ⟨rfl, rfl⟩)
  · have c_1n : ¬ k_.toInt < (0 : Int) := fun q => c_1 ((fa_lt _ _).mpr q)
    refine lv_iload_n hx hb dX11_again_4 rfl (lv_at hl 1 rfl) ?_
    refine lv_iconst (v := 3) hx hb dX11_again_5 (by decide) ?_
    refine lv_icmp_ge (tgt := 18) hx hb dX11_again_6 (by decide) (fun c_2 => ?_) (fun c_2 => ?_)
    · have c_2n : (3 : Int) ≤ k_.toInt := (fa_le _ _).mp c_2
      refine lv_iconst (v := 0) hx hb dX11_again_18 (by decide) ?_
      exact z_back hQ9 (z_zret C hr hlocks G (Nat.le_of_ble_eq_true rfl) (Nat.le_of_ble_eq_true rfl) dX11_again_19 rfl ⟨rfl, rfl⟩)
    · have c_2n : ¬ (3 : Int) ≤ k_.toInt := fun q => c_2 ((fa_le _ _).mpr q)
      exact absurd (show (0 : Int) = 1 by omega) (by decide)
set_option maxHeartbeats 4000000 in
set_option maxRecDepth 100000 in
/-- c_f_image0 -/
theorem c_f_image0 (l : Launch) (T : zTy) (xo : Nat) (t : Nat) (im : Nat) (mk : Nat) (rd : Nat) (po : Nat) (co : Nat) (tr : Nat) (wa : Nat) (wb_ : Nat) (fi : Nat) (cd : Nat) (l0 : Nat) (l1 : Nat) (d0 : Nat) (d1 : Nat) (g0 : Nat) (g1 : Nat) (ln : Int32) (fl : Int32) (pl : Int32) (ft : Nat → Int32) (fk : Nat → Int32) (wt : va_W) (cr0_ : Int32) (inn0_ : Int32) (k10_ : Nat → Int32) (k20_ : Nat → Int32) (k30_ : Nat → Int32) (k40_ : Nat → Int32) (z0_ : va_W) (cr1_ : Int32) (inn1_ : Int32) (k11_ : Nat → Int32) (k21_ : Nat → Int32) (k31_ : Nat → Int32) (k41_ : Nat → Int32) (z1_ : va_W) (dd0_ : Int32) (p10_ : Nat → Int32) (p20_ : Nat → Int32) (p30_ : Nat → Int32) (wd0_ : va_W) (dd1_ : Int32) (p11_ : Nat → Int32) (p21_ : Nat → Int32) (p31_ : Nat → Int32) (wd1_ : va_W) (gg0_ : Int32) (q10_ : Nat → Int32) (q20_ : Nat → Int32) (wg0_ : va_W) (gg1_ : Int32) (q11_ : Nat → Int32) (q21_ : Nat → Int32) (wg1_ : va_W) (m0 : Nat) (l0a : Nat) (l1a : Nat) (d0a : Nat) (d1a : Nat) (g0a : Nat) (g1a : Nat) (lna : Int32) (fla : Int32) (pla : Int32) (fta : Nat → Int32) (fka : Nat → Int32) (wta : va_W) (cr0_a : Int32) (inn0_a : Int32) (k10_a : Nat → Int32) (k20_a : Nat → Int32) (k30_a : Nat → Int32) (k40_a : Nat → Int32) (z0_a : va_W) (cr1_a : Int32) (inn1_a : Int32) (k11_a : Nat → Int32) (k21_a : Nat → Int32) (k31_a : Nat → Int32) (k41_a : Nat → Int32) (z1_a : va_W) (dd0_a : Int32) (p10_a : Nat → Int32) (p20_a : Nat → Int32) (p30_a : Nat → Int32) (wd0_a : va_W) (dd1_a : Int32) (p11_a : Nat → Int32) (p21_a : Nat → Int32) (p31_a : Nat → Int32) (wd1_a : va_W) (gg0_a : Int32) (q10_a : Nat → Int32) (q20_a : Nat → Int32) (wg0_a : va_W) (gg1_a : Int32) (q11_a : Nat → Int32) (q21_a : Nat → Int32) (wg1_a : va_W) (m1 : Nat) (m2 : Nat) (qi : Nat → Option Nat) (fmk : Nat → Int32) (Gr : Nat → Int32) (ht : bTold T t l0 l1 d0 d1 g0 g1 ln fl pl ft fk wt) (hK : zKT fk) (hz0_ : bLand T l0 cr0_ inn0_ k10_ k20_ k30_ k40_ z0_) (hI0_ : zLI cr0_ k10_ k30_) (hz1_ : bLand T l1 cr1_ inn1_ k11_ k21_ k31_ k41_ z1_) (hI1_ : zLI cr1_ k11_ k31_) (hd0_ : bDay T d0 dd0_ p10_ p20_ p30_ wd0_) (hd1_ : bDay T d1 dd1_ p11_ p21_ p31_ wd1_) (hg0_ : bLog T g0 gg0_ q10_ q20_ wg0_) (hg1_ : bLog T g1 gg1_ q11_ q21_ wg1_) (hta : bTold T m0 l0a l1a d0a d1a g0a g1a lna fla pla fta fka wta) (hKa : zKT fka) (hz0_a : bLand T l0a cr0_a inn0_a k10_a k20_a k30_a k40_a z0_a) (hI0_a : zLI cr0_a k10_a k30_a) (hz1_a : bLand T l1a cr1_a inn1_a k11_a k21_a k31_a k41_a z1_a) (hI1_a : zLI cr1_a k11_a k31_a) (hd0_a : bDay T d0a dd0_a p10_a p20_a p30_a wd0_a) (hd1_a : bDay T d1a dd1_a p11_a p21_a p31_a wd1_a) (hg0_a : bLog T g0a gg0_a q10_a q20_a wg0_a) (hg1_a : bLog T g1a gg1_a q11_a q21_a wg1_a) (hm0 : qi 0 = some m0) (hm1 : qi 1 = some m1) (hm2 : qi 2 = some m2) (hT : zTR ln fl pl ft fk cr0_ inn0_ k10_ k20_ k30_ k40_ cr1_ inn1_ k11_ k21_ k31_ k41_ dd0_ p10_ p20_ p30_ dd1_ p11_ p21_ p31_ gg0_ q10_ q20_ gg1_ q11_ q21_ Gr) : zMi l T yX11_image cX11_image 2 (some .boolean) 3 0 0 [.ref xo, .int 0] [[zO10 xo t im mk rd po co tr wa wb_ fi cd], wt, z0_, z1_, wd0_, wd1_, wg0_, wg1_, wta, z0_a, z1_a, wd0_a, wd1_a, wg0_a, wg1_a, [zArq T 6 im 3 qi], [zAr T 2 mk 3 fmk]] (fun (r : Int32) bs => ∃ (lna_2 : Int32) (fla_2 : Int32) (pla_2 : Int32) (fta_2 : Nat → Int32) (fka_2 : Nat → Int32) (wta_2 : va_W) (cr0_a_2 : Int32) (inn0_a_2 : Int32) (k10_a_2 : Nat → Int32) (k20_a_2 : Nat → Int32) (k30_a_2 : Nat → Int32) (k40_a_2 : Nat → Int32) (z0_a_2 : va_W) (cr1_a_2 : Int32) (inn1_a_2 : Int32) (k11_a_2 : Nat → Int32) (k21_a_2 : Nat → Int32) (k31_a_2 : Nat → Int32) (k41_a_2 : Nat → Int32) (z1_a_2 : va_W) (dd0_a_2 : Int32) (p10_a_2 : Nat → Int32) (p20_a_2 : Nat → Int32) (p30_a_2 : Nat → Int32) (wd0_a_2 : va_W) (dd1_a_2 : Int32) (p11_a_2 : Nat → Int32) (p21_a_2 : Nat → Int32) (p31_a_2 : Nat → Int32) (wd1_a_2 : va_W) (gg0_a_2 : Int32) (q10_a_2 : Nat → Int32) (q20_a_2 : Nat → Int32) (wg0_a_2 : va_W) (gg1_a_2 : Int32) (q11_a_2 : Nat → Int32) (q21_a_2 : Nat → Int32) (wg1_a_2 : va_W) (fmk_2 : Nat → Int32), bs = [[zO10 xo t im mk rd po co tr wa wb_ fi cd], wt, z0_, z1_, wd0_, wd1_, wg0_, wg1_, wta_2, z0_a_2, z1_a_2, wd0_a_2, wd1_a_2, wg0_a_2, wg1_a_2, [zArq T 6 im 3 qi], [zAr T 2 mk 3 fmk_2]] ∧ bTold T m0 l0a l1a d0a d1a g0a g1a lna_2 fla_2 pla_2 fta_2 fka_2 wta_2 ∧ zKT fka_2 ∧ bLand T l0a cr0_a_2 inn0_a_2 k10_a_2 k20_a_2 k30_a_2 k40_a_2 z0_a_2 ∧ zLI cr0_a_2 k10_a_2 k30_a_2 ∧ bLand T l1a cr1_a_2 inn1_a_2 k11_a_2 k21_a_2 k31_a_2 k41_a_2 z1_a_2 ∧ zLI cr1_a_2 k11_a_2 k31_a_2 ∧ bDay T d0a dd0_a_2 p10_a_2 p20_a_2 p30_a_2 wd0_a_2 ∧ bDay T d1a dd1_a_2 p11_a_2 p21_a_2 p31_a_2 wd1_a_2 ∧ bLog T g0a gg0_a_2 q10_a_2 q20_a_2 wg0_a_2 ∧ bLog T g1a gg1_a_2 q11_a_2 q21_a_2 wg1_a_2 ∧ r = 1 ∧ fmk_2 = upd fmk 0 1 ∧ zTR lna_2 fla_2 pla_2 fta_2 fka_2 cr0_a_2 inn0_a_2 k10_a_2 k20_a_2 k30_a_2 k40_a_2 cr1_a_2 inn1_a_2 k11_a_2 k21_a_2 k31_a_2 k41_a_2 dd0_a_2 p10_a_2 p20_a_2 p30_a_2 dd1_a_2 p11_a_2 p21_a_2 p31_a_2 gg0_a_2 q10_a_2 q20_a_2 gg1_a_2 q11_a_2 q21_a_2 Gr) := by
  refine zMi_of (own := RX11) (by decide) rfl (Nat.le_of_ble_eq_true rfl) ?_
  intro p e s m args below meth c A ls C hr hlocks hnm hAe G hl
  refine zHide (fun Q9 hQ9 => ?_)
  have hx := C.1
  have hb := C.2.1
  have hl : lv_has ls 2 [(0, .ref xo), (1, .int 0)] := hl
  refine lv_iload_n hx hb dX11_image_0 rfl (lv_at hl 1 rfl) ?_
  refine lv_if_lt (tgt := 9) hx hb dX11_image_1 (by decide) (fun q => absurd q (by decide)) (fun _ => ?_)
  refine lv_iload_n hx hb dX11_image_4 rfl (lv_at hl 1 rfl) ?_
  refine lv_iconst (v := 3) hx hb dX11_image_5 (by decide) ?_
  refine lv_icmp_lt (tgt := 11) hx hb dX11_image_6 (by decide) (fun _ => ?_) (fun q => absurd (by decide) q)
  refine lv_aload_n hx hb dX11_image_11 rfl (lv_at hl 0 rfl) ?_
  refine z_get C G clX11 0 rfl 1 (by decide) m_fl_RX11_16 rfl dX11_image_12 ?_
  refine lv_iload_n hx hb dX11_image_15 rfl (lv_at hl 1 rfl) ?_
  refine z_ald C G 15 6 rfl rfl (vp_in_nI (n := 0) (by decide) (by decide)) dX11_image_16 ?_
  rw [show qi ((0 : Int32).toNatClampNeg) = some m0 from hm0]
  refine lv_aload_n hx hb dX11_image_17 rfl (lv_at hl 0 rfl) ?_
  refine z_get C G clX11 0 rfl 0 (by decide) m_fl_RX11_10 rfl dX11_image_18 ?_
  refine z_Vv (bc := [wta, z0_a, z1_a, wd0_a, wd1_a, wg0_a, wg1_a, wt, z0_, z1_, wd0_, wd1_, wg0_, wg1_]) (br := [[zO10 xo t im mk rd po co tr wa wb_ fi cd], [zArq T 6 im 3 qi], [zAr T 2 mk 3 fmk]]) (As := [.ref t]) (rest := []) C G (c_f_Told_takeAll l T m0 l0a l1a d0a d1a g0a g1a lna fla pla fta fka wta cr0_a inn0_a k10_a k20_a k30_a k40_a z0_a cr1_a inn1_a k11_a k21_a k31_a k41_a z1_a dd0_a p10_a p20_a p30_a wd0_a dd1_a p11_a p21_a p31_a wd1_a gg0_a q10_a q20_a wg0_a gg1_a q11_a q21_a wg1_a t l0 l1 d0 d1 g0 g1 ln fl pl ft fk wt cr0_ inn0_ k10_ k20_ k30_ k40_ z0_ cr1_ inn1_ k11_ k21_ k31_ k41_ z1_ dd0_ p10_ p20_ p30_ wd0_ dd1_ p11_ p21_ p31_ wd1_ gg0_ q10_ q20_ wg0_ gg1_ q11_ q21_ wg1_ Gr hta (by first | with_reducible assumption | with_reducible rfl | omega | assumption | rfl) hz0_a (by first | with_reducible assumption | with_reducible rfl | omega | assumption | rfl) hz1_a (by first | with_reducible assumption | with_reducible rfl | omega | assumption | rfl) hd0_a hd1_a hg0_a hg1_a ht (by first | with_reducible assumption | with_reducible rfl | omega | assumption | rfl) hz0_ (by first | with_reducible assumption | with_reducible rfl | omega | assumption | rfl) hz1_ (by first | with_reducible assumption | with_reducible rfl | omega | assumption | rfl) hd0_ hd1_ hg0_ hg1_ hT) (kV_RX11_117 C.2.2.2.2 (Nat.le_of_ble_eq_true rfl) (Nat.le_of_ble_eq_true rfl)) [8, 9, 10, 11, 12, 13, 14, 1, 2, 3, 4, 5, 6, 7] [1, 0, 0, 0, 0, 0, 0, 0, 0, 0, 0, 0, 0, 0] rfl rfl (ci := 8) (qc := (RX9, TX9, 8)) rfl rfl (List.mem_flatten.mpr ⟨_, List.mem_of_getElem? (i := 0) rfl, (bTold_mem hta).choose_spec⟩) rfl rfl hl.1 dX11_image_21 (Nat.le_of_ble_eq_true rfl) (Nat.le_of_ble_eq_true rfl) (fun b1 H locs hw G => ?_)
  refine zEx27 hw ?_
  intro wt2_1 g9_2 fk2_3 w2_4 s0_5 s0_6 s0_7 s0_8 w2_9 s1_10 s1_11 s1_12 s1_13 w2_14 s2_15 s2_16 s2_17 w2_18 s3_19 s3_20 s3_21 w2_22 s4_23 s4_24 w2_25 s5_26 s5_27
  refine zCu12 ?_
  intro hbs9 h_28 h_29 h_30 h_31 h_32 h_33 h_34 h_35 h_36 h_37 h_38
  clear hw
  subst hbs9
  have G : zS T A s.heap s [[zO10 xo t im mk rd po co tr wa wb_ fi cd], [zArq T 6 im 3 qi], [zAr T 2 mk 3 fmk], wt2_1, w2_4, w2_9, w2_14, w2_18, w2_22, w2_25, wt, z0_, z1_, wd0_, wd1_, wg0_, wg1_] _ _ := G
  refine lv_aload_n hx hb dX11_image_24 rfl (lv_at hl 0 rfl) ?_
  refine z_get C G clX11 0 rfl 2 (by decide) m_fl_RX11_20 rfl dX11_image_25 ?_
  refine lv_iload_n hx hb dX11_image_28 rfl (lv_at hl 1 rfl) ?_
  refine lv_iconst (v := 1) hx hb dX11_image_29 (by decide) ?_
  refine z_zst C G 2 rfl (vp_in_nI (n := 0) (by decide) (by decide)) dX11_image_30 (fun H locs G => ?_)
  have G : zS T A s.heap s [[zO10 xo t im mk rd po co tr wa wb_ fi cd], [zArq T 6 im 3 qi], [zAr T 2 mk 3 (upd fmk 0 (vp_nar .boolean 1))], wt2_1, w2_4, w2_9, w2_14, w2_18, w2_22, w2_25, wt, z0_, z1_, wd0_, wd1_, wg0_, wg1_] _ _ := G
  refine lv_iconst (v := 1) hx hb dX11_image_31 (by decide) ?_
  have G := G.sub (bs' := [[zO10 xo t im mk rd po co tr wa wb_ fi cd], wt, z0_, z1_, wd0_, wd1_, wg0_, wg1_, wt2_1, w2_4, w2_9, w2_14, w2_18, w2_22, w2_25, [zArq T 6 im 3 qi], [zAr T 2 mk 3 (upd fmk 0 (vp_nar .boolean 1))]]) [0, 10, 11, 12, 13, 14, 15, 16, 3, 4, 5, 6, 7, 8, 9, 1, 2] rfl
  exact z_back hQ9 (z_zret C hr hlocks G (Nat.le_of_ble_eq_true rfl) (Nat.le_of_ble_eq_true rfl) dX11_image_32 rfl ⟨ln, fl, pl, g9_2, fk2_3, wt2_1, cr0_, inn0_, s0_5, s0_6, s0_7, s0_8, w2_4, cr1_, inn1_, s1_10, s1_11, s1_12, s1_13, w2_9, dd0_, s2_15, s2_16, s2_17, w2_14, dd1_, s3_19, s3_20, s3_21, w2_18, gg0_, s4_23, s4_24, w2_22, gg1_, s5_26, s5_27, w2_25, (upd fmk 0 (vp_nar .boolean 1)), rfl, h_28, (by first | with_reducible assumption | omega | trivial | assumption), h_30, (by first | with_reducible assumption | omega | trivial | assumption), h_31, (by first | with_reducible assumption | omega | trivial | assumption), h_32, h_33, h_34, h_35, rfl, rfl, h_38⟩)
set_option maxHeartbeats 4000000 in
set_option maxRecDepth 100000 in
/-- c_f_image1 -/
theorem c_f_image1 (l : Launch) (T : zTy) (xo : Nat) (t : Nat) (im : Nat) (mk : Nat) (rd : Nat) (po : Nat) (co : Nat) (tr : Nat) (wa : Nat) (wb_ : Nat) (fi : Nat) (cd : Nat) (l0 : Nat) (l1 : Nat) (d0 : Nat) (d1 : Nat) (g0 : Nat) (g1 : Nat) (ln : Int32) (fl : Int32) (pl : Int32) (ft : Nat → Int32) (fk : Nat → Int32) (wt : va_W) (cr0_ : Int32) (inn0_ : Int32) (k10_ : Nat → Int32) (k20_ : Nat → Int32) (k30_ : Nat → Int32) (k40_ : Nat → Int32) (z0_ : va_W) (cr1_ : Int32) (inn1_ : Int32) (k11_ : Nat → Int32) (k21_ : Nat → Int32) (k31_ : Nat → Int32) (k41_ : Nat → Int32) (z1_ : va_W) (dd0_ : Int32) (p10_ : Nat → Int32) (p20_ : Nat → Int32) (p30_ : Nat → Int32) (wd0_ : va_W) (dd1_ : Int32) (p11_ : Nat → Int32) (p21_ : Nat → Int32) (p31_ : Nat → Int32) (wd1_ : va_W) (gg0_ : Int32) (q10_ : Nat → Int32) (q20_ : Nat → Int32) (wg0_ : va_W) (gg1_ : Int32) (q11_ : Nat → Int32) (q21_ : Nat → Int32) (wg1_ : va_W) (m0 : Nat) (m1 : Nat) (l0b : Nat) (l1b : Nat) (d0b : Nat) (d1b : Nat) (g0b : Nat) (g1b : Nat) (lnb : Int32) (flb : Int32) (plb : Int32) (ftb : Nat → Int32) (fkb : Nat → Int32) (wtb : va_W) (cr0_b : Int32) (inn0_b : Int32) (k10_b : Nat → Int32) (k20_b : Nat → Int32) (k30_b : Nat → Int32) (k40_b : Nat → Int32) (z0_b : va_W) (cr1_b : Int32) (inn1_b : Int32) (k11_b : Nat → Int32) (k21_b : Nat → Int32) (k31_b : Nat → Int32) (k41_b : Nat → Int32) (z1_b : va_W) (dd0_b : Int32) (p10_b : Nat → Int32) (p20_b : Nat → Int32) (p30_b : Nat → Int32) (wd0_b : va_W) (dd1_b : Int32) (p11_b : Nat → Int32) (p21_b : Nat → Int32) (p31_b : Nat → Int32) (wd1_b : va_W) (gg0_b : Int32) (q10_b : Nat → Int32) (q20_b : Nat → Int32) (wg0_b : va_W) (gg1_b : Int32) (q11_b : Nat → Int32) (q21_b : Nat → Int32) (wg1_b : va_W) (m2 : Nat) (qi : Nat → Option Nat) (fmk : Nat → Int32) (Gr : Nat → Int32) (ht : bTold T t l0 l1 d0 d1 g0 g1 ln fl pl ft fk wt) (hK : zKT fk) (hz0_ : bLand T l0 cr0_ inn0_ k10_ k20_ k30_ k40_ z0_) (hI0_ : zLI cr0_ k10_ k30_) (hz1_ : bLand T l1 cr1_ inn1_ k11_ k21_ k31_ k41_ z1_) (hI1_ : zLI cr1_ k11_ k31_) (hd0_ : bDay T d0 dd0_ p10_ p20_ p30_ wd0_) (hd1_ : bDay T d1 dd1_ p11_ p21_ p31_ wd1_) (hg0_ : bLog T g0 gg0_ q10_ q20_ wg0_) (hg1_ : bLog T g1 gg1_ q11_ q21_ wg1_) (htb : bTold T m1 l0b l1b d0b d1b g0b g1b lnb flb plb ftb fkb wtb) (hKb : zKT fkb) (hz0_b : bLand T l0b cr0_b inn0_b k10_b k20_b k30_b k40_b z0_b) (hI0_b : zLI cr0_b k10_b k30_b) (hz1_b : bLand T l1b cr1_b inn1_b k11_b k21_b k31_b k41_b z1_b) (hI1_b : zLI cr1_b k11_b k31_b) (hd0_b : bDay T d0b dd0_b p10_b p20_b p30_b wd0_b) (hd1_b : bDay T d1b dd1_b p11_b p21_b p31_b wd1_b) (hg0_b : bLog T g0b gg0_b q10_b q20_b wg0_b) (hg1_b : bLog T g1b gg1_b q11_b q21_b wg1_b) (hm0 : qi 0 = some m0) (hm1 : qi 1 = some m1) (hm2 : qi 2 = some m2) (hT : zTR ln fl pl ft fk cr0_ inn0_ k10_ k20_ k30_ k40_ cr1_ inn1_ k11_ k21_ k31_ k41_ dd0_ p10_ p20_ p30_ dd1_ p11_ p21_ p31_ gg0_ q10_ q20_ gg1_ q11_ q21_ Gr) : zMi l T yX11_image cX11_image 2 (some .boolean) 3 0 0 [.ref xo, .int 1] [[zO10 xo t im mk rd po co tr wa wb_ fi cd], wt, z0_, z1_, wd0_, wd1_, wg0_, wg1_, wtb, z0_b, z1_b, wd0_b, wd1_b, wg0_b, wg1_b, [zArq T 6 im 3 qi], [zAr T 2 mk 3 fmk]] (fun (r : Int32) bs => ∃ (lnb_2 : Int32) (flb_2 : Int32) (plb_2 : Int32) (ftb_2 : Nat → Int32) (fkb_2 : Nat → Int32) (wtb_2 : va_W) (cr0_b_2 : Int32) (inn0_b_2 : Int32) (k10_b_2 : Nat → Int32) (k20_b_2 : Nat → Int32) (k30_b_2 : Nat → Int32) (k40_b_2 : Nat → Int32) (z0_b_2 : va_W) (cr1_b_2 : Int32) (inn1_b_2 : Int32) (k11_b_2 : Nat → Int32) (k21_b_2 : Nat → Int32) (k31_b_2 : Nat → Int32) (k41_b_2 : Nat → Int32) (z1_b_2 : va_W) (dd0_b_2 : Int32) (p10_b_2 : Nat → Int32) (p20_b_2 : Nat → Int32) (p30_b_2 : Nat → Int32) (wd0_b_2 : va_W) (dd1_b_2 : Int32) (p11_b_2 : Nat → Int32) (p21_b_2 : Nat → Int32) (p31_b_2 : Nat → Int32) (wd1_b_2 : va_W) (gg0_b_2 : Int32) (q10_b_2 : Nat → Int32) (q20_b_2 : Nat → Int32) (wg0_b_2 : va_W) (gg1_b_2 : Int32) (q11_b_2 : Nat → Int32) (q21_b_2 : Nat → Int32) (wg1_b_2 : va_W) (fmk_2 : Nat → Int32), bs = [[zO10 xo t im mk rd po co tr wa wb_ fi cd], wt, z0_, z1_, wd0_, wd1_, wg0_, wg1_, wtb_2, z0_b_2, z1_b_2, wd0_b_2, wd1_b_2, wg0_b_2, wg1_b_2, [zArq T 6 im 3 qi], [zAr T 2 mk 3 fmk_2]] ∧ bTold T m1 l0b l1b d0b d1b g0b g1b lnb_2 flb_2 plb_2 ftb_2 fkb_2 wtb_2 ∧ zKT fkb_2 ∧ bLand T l0b cr0_b_2 inn0_b_2 k10_b_2 k20_b_2 k30_b_2 k40_b_2 z0_b_2 ∧ zLI cr0_b_2 k10_b_2 k30_b_2 ∧ bLand T l1b cr1_b_2 inn1_b_2 k11_b_2 k21_b_2 k31_b_2 k41_b_2 z1_b_2 ∧ zLI cr1_b_2 k11_b_2 k31_b_2 ∧ bDay T d0b dd0_b_2 p10_b_2 p20_b_2 p30_b_2 wd0_b_2 ∧ bDay T d1b dd1_b_2 p11_b_2 p21_b_2 p31_b_2 wd1_b_2 ∧ bLog T g0b gg0_b_2 q10_b_2 q20_b_2 wg0_b_2 ∧ bLog T g1b gg1_b_2 q11_b_2 q21_b_2 wg1_b_2 ∧ r = 1 ∧ fmk_2 = upd fmk 1 1 ∧ zTR lnb_2 flb_2 plb_2 ftb_2 fkb_2 cr0_b_2 inn0_b_2 k10_b_2 k20_b_2 k30_b_2 k40_b_2 cr1_b_2 inn1_b_2 k11_b_2 k21_b_2 k31_b_2 k41_b_2 dd0_b_2 p10_b_2 p20_b_2 p30_b_2 dd1_b_2 p11_b_2 p21_b_2 p31_b_2 gg0_b_2 q10_b_2 q20_b_2 gg1_b_2 q11_b_2 q21_b_2 Gr) := by
  refine zMi_of (own := RX11) (by decide) rfl (Nat.le_of_ble_eq_true rfl) ?_
  intro p e s m args below meth c A ls C hr hlocks hnm hAe G hl
  refine zHide (fun Q9 hQ9 => ?_)
  have hx := C.1
  have hb := C.2.1
  have hl : lv_has ls 2 [(0, .ref xo), (1, .int 1)] := hl
  refine lv_iload_n hx hb dX11_image_0 rfl (lv_at hl 1 rfl) ?_
  refine lv_if_lt (tgt := 9) hx hb dX11_image_1 (by decide) (fun q => absurd q (by decide)) (fun _ => ?_)
  refine lv_iload_n hx hb dX11_image_4 rfl (lv_at hl 1 rfl) ?_
  refine lv_iconst (v := 3) hx hb dX11_image_5 (by decide) ?_
  refine lv_icmp_lt (tgt := 11) hx hb dX11_image_6 (by decide) (fun _ => ?_) (fun q => absurd (by decide) q)
  refine lv_aload_n hx hb dX11_image_11 rfl (lv_at hl 0 rfl) ?_
  refine z_get C G clX11 0 rfl 1 (by decide) m_fl_RX11_16 rfl dX11_image_12 ?_
  refine lv_iload_n hx hb dX11_image_15 rfl (lv_at hl 1 rfl) ?_
  refine z_ald C G 15 6 rfl rfl (vp_in_nI (n := 1) (by decide) (by decide)) dX11_image_16 ?_
  rw [show qi ((1 : Int32).toNatClampNeg) = some m1 from hm1]
  refine lv_aload_n hx hb dX11_image_17 rfl (lv_at hl 0 rfl) ?_
  refine z_get C G clX11 0 rfl 0 (by decide) m_fl_RX11_10 rfl dX11_image_18 ?_
  refine z_Vv (bc := [wtb, z0_b, z1_b, wd0_b, wd1_b, wg0_b, wg1_b, wt, z0_, z1_, wd0_, wd1_, wg0_, wg1_]) (br := [[zO10 xo t im mk rd po co tr wa wb_ fi cd], [zArq T 6 im 3 qi], [zAr T 2 mk 3 fmk]]) (As := [.ref t]) (rest := []) C G (c_f_Told_takeAll l T m1 l0b l1b d0b d1b g0b g1b lnb flb plb ftb fkb wtb cr0_b inn0_b k10_b k20_b k30_b k40_b z0_b cr1_b inn1_b k11_b k21_b k31_b k41_b z1_b dd0_b p10_b p20_b p30_b wd0_b dd1_b p11_b p21_b p31_b wd1_b gg0_b q10_b q20_b wg0_b gg1_b q11_b q21_b wg1_b t l0 l1 d0 d1 g0 g1 ln fl pl ft fk wt cr0_ inn0_ k10_ k20_ k30_ k40_ z0_ cr1_ inn1_ k11_ k21_ k31_ k41_ z1_ dd0_ p10_ p20_ p30_ wd0_ dd1_ p11_ p21_ p31_ wd1_ gg0_ q10_ q20_ wg0_ gg1_ q11_ q21_ wg1_ Gr htb (by first | with_reducible assumption | with_reducible rfl | omega | assumption | rfl) hz0_b (by first | with_reducible assumption | with_reducible rfl | omega | assumption | rfl) hz1_b (by first | with_reducible assumption | with_reducible rfl | omega | assumption | rfl) hd0_b hd1_b hg0_b hg1_b ht (by first | with_reducible assumption | with_reducible rfl | omega | assumption | rfl) hz0_ (by first | with_reducible assumption | with_reducible rfl | omega | assumption | rfl) hz1_ (by first | with_reducible assumption | with_reducible rfl | omega | assumption | rfl) hd0_ hd1_ hg0_ hg1_ hT) (kV_RX11_117 C.2.2.2.2 (Nat.le_of_ble_eq_true rfl) (Nat.le_of_ble_eq_true rfl)) [8, 9, 10, 11, 12, 13, 14, 1, 2, 3, 4, 5, 6, 7] [1, 0, 0, 0, 0, 0, 0, 0, 0, 0, 0, 0, 0, 0] rfl rfl (ci := 8) (qc := (RX9, TX9, 8)) rfl rfl (List.mem_flatten.mpr ⟨_, List.mem_of_getElem? (i := 0) rfl, (bTold_mem htb).choose_spec⟩) rfl rfl hl.1 dX11_image_21 (Nat.le_of_ble_eq_true rfl) (Nat.le_of_ble_eq_true rfl) (fun b1 H locs hw G => ?_)
  refine zEx27 hw ?_
  intro wt2_1 g9_2 fk2_3 w2_4 s0_5 s0_6 s0_7 s0_8 w2_9 s1_10 s1_11 s1_12 s1_13 w2_14 s2_15 s2_16 s2_17 w2_18 s3_19 s3_20 s3_21 w2_22 s4_23 s4_24 w2_25 s5_26 s5_27
  refine zCu12 ?_
  intro hbs9 h_28 h_29 h_30 h_31 h_32 h_33 h_34 h_35 h_36 h_37 h_38
  clear hw
  subst hbs9
  have G : zS T A s.heap s [[zO10 xo t im mk rd po co tr wa wb_ fi cd], [zArq T 6 im 3 qi], [zAr T 2 mk 3 fmk], wt2_1, w2_4, w2_9, w2_14, w2_18, w2_22, w2_25, wt, z0_, z1_, wd0_, wd1_, wg0_, wg1_] _ _ := G
  refine lv_aload_n hx hb dX11_image_24 rfl (lv_at hl 0 rfl) ?_
  refine z_get C G clX11 0 rfl 2 (by decide) m_fl_RX11_20 rfl dX11_image_25 ?_
  refine lv_iload_n hx hb dX11_image_28 rfl (lv_at hl 1 rfl) ?_
  refine lv_iconst (v := 1) hx hb dX11_image_29 (by decide) ?_
  refine z_zst C G 2 rfl (vp_in_nI (n := 1) (by decide) (by decide)) dX11_image_30 (fun H locs G => ?_)
  have G : zS T A s.heap s [[zO10 xo t im mk rd po co tr wa wb_ fi cd], [zArq T 6 im 3 qi], [zAr T 2 mk 3 (upd fmk 1 (vp_nar .boolean 1))], wt2_1, w2_4, w2_9, w2_14, w2_18, w2_22, w2_25, wt, z0_, z1_, wd0_, wd1_, wg0_, wg1_] _ _ := G
  refine lv_iconst (v := 1) hx hb dX11_image_31 (by decide) ?_
  have G := G.sub (bs' := [[zO10 xo t im mk rd po co tr wa wb_ fi cd], wt, z0_, z1_, wd0_, wd1_, wg0_, wg1_, wt2_1, w2_4, w2_9, w2_14, w2_18, w2_22, w2_25, [zArq T 6 im 3 qi], [zAr T 2 mk 3 (upd fmk 1 (vp_nar .boolean 1))]]) [0, 10, 11, 12, 13, 14, 15, 16, 3, 4, 5, 6, 7, 8, 9, 1, 2] rfl
  exact z_back hQ9 (z_zret C hr hlocks G (Nat.le_of_ble_eq_true rfl) (Nat.le_of_ble_eq_true rfl) dX11_image_32 rfl ⟨ln, fl, pl, g9_2, fk2_3, wt2_1, cr0_, inn0_, s0_5, s0_6, s0_7, s0_8, w2_4, cr1_, inn1_, s1_10, s1_11, s1_12, s1_13, w2_9, dd0_, s2_15, s2_16, s2_17, w2_14, dd1_, s3_19, s3_20, s3_21, w2_18, gg0_, s4_23, s4_24, w2_22, gg1_, s5_26, s5_27, w2_25, (upd fmk 1 (vp_nar .boolean 1)), rfl, h_28, (by first | with_reducible assumption | omega | trivial | assumption), h_30, (by first | with_reducible assumption | omega | trivial | assumption), h_31, (by first | with_reducible assumption | omega | trivial | assumption), h_32, h_33, h_34, h_35, rfl, rfl, h_38⟩)
set_option maxHeartbeats 4000000 in
set_option maxRecDepth 100000 in
/-- c_f_image2 -/
theorem c_f_image2 (l : Launch) (T : zTy) (xo : Nat) (t : Nat) (im : Nat) (mk : Nat) (rd : Nat) (po : Nat) (co : Nat) (tr : Nat) (wa : Nat) (wb_ : Nat) (fi : Nat) (cd : Nat) (l0 : Nat) (l1 : Nat) (d0 : Nat) (d1 : Nat) (g0 : Nat) (g1 : Nat) (ln : Int32) (fl : Int32) (pl : Int32) (ft : Nat → Int32) (fk : Nat → Int32) (wt : va_W) (cr0_ : Int32) (inn0_ : Int32) (k10_ : Nat → Int32) (k20_ : Nat → Int32) (k30_ : Nat → Int32) (k40_ : Nat → Int32) (z0_ : va_W) (cr1_ : Int32) (inn1_ : Int32) (k11_ : Nat → Int32) (k21_ : Nat → Int32) (k31_ : Nat → Int32) (k41_ : Nat → Int32) (z1_ : va_W) (dd0_ : Int32) (p10_ : Nat → Int32) (p20_ : Nat → Int32) (p30_ : Nat → Int32) (wd0_ : va_W) (dd1_ : Int32) (p11_ : Nat → Int32) (p21_ : Nat → Int32) (p31_ : Nat → Int32) (wd1_ : va_W) (gg0_ : Int32) (q10_ : Nat → Int32) (q20_ : Nat → Int32) (wg0_ : va_W) (gg1_ : Int32) (q11_ : Nat → Int32) (q21_ : Nat → Int32) (wg1_ : va_W) (m0 : Nat) (m1 : Nat) (m2 : Nat) (l0c : Nat) (l1c : Nat) (d0c : Nat) (d1c : Nat) (g0c : Nat) (g1c : Nat) (lnc : Int32) (flc : Int32) (plc : Int32) (ftc : Nat → Int32) (fkc : Nat → Int32) (wtc : va_W) (cr0_c : Int32) (inn0_c : Int32) (k10_c : Nat → Int32) (k20_c : Nat → Int32) (k30_c : Nat → Int32) (k40_c : Nat → Int32) (z0_c : va_W) (cr1_c : Int32) (inn1_c : Int32) (k11_c : Nat → Int32) (k21_c : Nat → Int32) (k31_c : Nat → Int32) (k41_c : Nat → Int32) (z1_c : va_W) (dd0_c : Int32) (p10_c : Nat → Int32) (p20_c : Nat → Int32) (p30_c : Nat → Int32) (wd0_c : va_W) (dd1_c : Int32) (p11_c : Nat → Int32) (p21_c : Nat → Int32) (p31_c : Nat → Int32) (wd1_c : va_W) (gg0_c : Int32) (q10_c : Nat → Int32) (q20_c : Nat → Int32) (wg0_c : va_W) (gg1_c : Int32) (q11_c : Nat → Int32) (q21_c : Nat → Int32) (wg1_c : va_W) (qi : Nat → Option Nat) (fmk : Nat → Int32) (Gr : Nat → Int32) (ht : bTold T t l0 l1 d0 d1 g0 g1 ln fl pl ft fk wt) (hK : zKT fk) (hz0_ : bLand T l0 cr0_ inn0_ k10_ k20_ k30_ k40_ z0_) (hI0_ : zLI cr0_ k10_ k30_) (hz1_ : bLand T l1 cr1_ inn1_ k11_ k21_ k31_ k41_ z1_) (hI1_ : zLI cr1_ k11_ k31_) (hd0_ : bDay T d0 dd0_ p10_ p20_ p30_ wd0_) (hd1_ : bDay T d1 dd1_ p11_ p21_ p31_ wd1_) (hg0_ : bLog T g0 gg0_ q10_ q20_ wg0_) (hg1_ : bLog T g1 gg1_ q11_ q21_ wg1_) (htc : bTold T m2 l0c l1c d0c d1c g0c g1c lnc flc plc ftc fkc wtc) (hKc : zKT fkc) (hz0_c : bLand T l0c cr0_c inn0_c k10_c k20_c k30_c k40_c z0_c) (hI0_c : zLI cr0_c k10_c k30_c) (hz1_c : bLand T l1c cr1_c inn1_c k11_c k21_c k31_c k41_c z1_c) (hI1_c : zLI cr1_c k11_c k31_c) (hd0_c : bDay T d0c dd0_c p10_c p20_c p30_c wd0_c) (hd1_c : bDay T d1c dd1_c p11_c p21_c p31_c wd1_c) (hg0_c : bLog T g0c gg0_c q10_c q20_c wg0_c) (hg1_c : bLog T g1c gg1_c q11_c q21_c wg1_c) (hm0 : qi 0 = some m0) (hm1 : qi 1 = some m1) (hm2 : qi 2 = some m2) (hT : zTR ln fl pl ft fk cr0_ inn0_ k10_ k20_ k30_ k40_ cr1_ inn1_ k11_ k21_ k31_ k41_ dd0_ p10_ p20_ p30_ dd1_ p11_ p21_ p31_ gg0_ q10_ q20_ gg1_ q11_ q21_ Gr) : zMi l T yX11_image cX11_image 2 (some .boolean) 3 0 0 [.ref xo, .int 2] [[zO10 xo t im mk rd po co tr wa wb_ fi cd], wt, z0_, z1_, wd0_, wd1_, wg0_, wg1_, wtc, z0_c, z1_c, wd0_c, wd1_c, wg0_c, wg1_c, [zArq T 6 im 3 qi], [zAr T 2 mk 3 fmk]] (fun (r : Int32) bs => ∃ (lnc_2 : Int32) (flc_2 : Int32) (plc_2 : Int32) (ftc_2 : Nat → Int32) (fkc_2 : Nat → Int32) (wtc_2 : va_W) (cr0_c_2 : Int32) (inn0_c_2 : Int32) (k10_c_2 : Nat → Int32) (k20_c_2 : Nat → Int32) (k30_c_2 : Nat → Int32) (k40_c_2 : Nat → Int32) (z0_c_2 : va_W) (cr1_c_2 : Int32) (inn1_c_2 : Int32) (k11_c_2 : Nat → Int32) (k21_c_2 : Nat → Int32) (k31_c_2 : Nat → Int32) (k41_c_2 : Nat → Int32) (z1_c_2 : va_W) (dd0_c_2 : Int32) (p10_c_2 : Nat → Int32) (p20_c_2 : Nat → Int32) (p30_c_2 : Nat → Int32) (wd0_c_2 : va_W) (dd1_c_2 : Int32) (p11_c_2 : Nat → Int32) (p21_c_2 : Nat → Int32) (p31_c_2 : Nat → Int32) (wd1_c_2 : va_W) (gg0_c_2 : Int32) (q10_c_2 : Nat → Int32) (q20_c_2 : Nat → Int32) (wg0_c_2 : va_W) (gg1_c_2 : Int32) (q11_c_2 : Nat → Int32) (q21_c_2 : Nat → Int32) (wg1_c_2 : va_W) (fmk_2 : Nat → Int32), bs = [[zO10 xo t im mk rd po co tr wa wb_ fi cd], wt, z0_, z1_, wd0_, wd1_, wg0_, wg1_, wtc_2, z0_c_2, z1_c_2, wd0_c_2, wd1_c_2, wg0_c_2, wg1_c_2, [zArq T 6 im 3 qi], [zAr T 2 mk 3 fmk_2]] ∧ bTold T m2 l0c l1c d0c d1c g0c g1c lnc_2 flc_2 plc_2 ftc_2 fkc_2 wtc_2 ∧ zKT fkc_2 ∧ bLand T l0c cr0_c_2 inn0_c_2 k10_c_2 k20_c_2 k30_c_2 k40_c_2 z0_c_2 ∧ zLI cr0_c_2 k10_c_2 k30_c_2 ∧ bLand T l1c cr1_c_2 inn1_c_2 k11_c_2 k21_c_2 k31_c_2 k41_c_2 z1_c_2 ∧ zLI cr1_c_2 k11_c_2 k31_c_2 ∧ bDay T d0c dd0_c_2 p10_c_2 p20_c_2 p30_c_2 wd0_c_2 ∧ bDay T d1c dd1_c_2 p11_c_2 p21_c_2 p31_c_2 wd1_c_2 ∧ bLog T g0c gg0_c_2 q10_c_2 q20_c_2 wg0_c_2 ∧ bLog T g1c gg1_c_2 q11_c_2 q21_c_2 wg1_c_2 ∧ r = 1 ∧ fmk_2 = upd fmk 2 1 ∧ zTR lnc_2 flc_2 plc_2 ftc_2 fkc_2 cr0_c_2 inn0_c_2 k10_c_2 k20_c_2 k30_c_2 k40_c_2 cr1_c_2 inn1_c_2 k11_c_2 k21_c_2 k31_c_2 k41_c_2 dd0_c_2 p10_c_2 p20_c_2 p30_c_2 dd1_c_2 p11_c_2 p21_c_2 p31_c_2 gg0_c_2 q10_c_2 q20_c_2 gg1_c_2 q11_c_2 q21_c_2 Gr) := by
  refine zMi_of (own := RX11) (by decide) rfl (Nat.le_of_ble_eq_true rfl) ?_
  intro p e s m args below meth c A ls C hr hlocks hnm hAe G hl
  refine zHide (fun Q9 hQ9 => ?_)
  have hx := C.1
  have hb := C.2.1
  have hl : lv_has ls 2 [(0, .ref xo), (1, .int 2)] := hl
  refine lv_iload_n hx hb dX11_image_0 rfl (lv_at hl 1 rfl) ?_
  refine lv_if_lt (tgt := 9) hx hb dX11_image_1 (by decide) (fun q => absurd q (by decide)) (fun _ => ?_)
  refine lv_iload_n hx hb dX11_image_4 rfl (lv_at hl 1 rfl) ?_
  refine lv_iconst (v := 3) hx hb dX11_image_5 (by decide) ?_
  refine lv_icmp_lt (tgt := 11) hx hb dX11_image_6 (by decide) (fun _ => ?_) (fun q => absurd (by decide) q)
  refine lv_aload_n hx hb dX11_image_11 rfl (lv_at hl 0 rfl) ?_
  refine z_get C G clX11 0 rfl 1 (by decide) m_fl_RX11_16 rfl dX11_image_12 ?_
  refine lv_iload_n hx hb dX11_image_15 rfl (lv_at hl 1 rfl) ?_
  refine z_ald C G 15 6 rfl rfl (vp_in_nI (n := 2) (by decide) (by decide)) dX11_image_16 ?_
  rw [show qi ((2 : Int32).toNatClampNeg) = some m2 from hm2]
  refine lv_aload_n hx hb dX11_image_17 rfl (lv_at hl 0 rfl) ?_
  refine z_get C G clX11 0 rfl 0 (by decide) m_fl_RX11_10 rfl dX11_image_18 ?_
  refine z_Vv (bc := [wtc, z0_c, z1_c, wd0_c, wd1_c, wg0_c, wg1_c, wt, z0_, z1_, wd0_, wd1_, wg0_, wg1_]) (br := [[zO10 xo t im mk rd po co tr wa wb_ fi cd], [zArq T 6 im 3 qi], [zAr T 2 mk 3 fmk]]) (As := [.ref t]) (rest := []) C G (c_f_Told_takeAll l T m2 l0c l1c d0c d1c g0c g1c lnc flc plc ftc fkc wtc cr0_c inn0_c k10_c k20_c k30_c k40_c z0_c cr1_c inn1_c k11_c k21_c k31_c k41_c z1_c dd0_c p10_c p20_c p30_c wd0_c dd1_c p11_c p21_c p31_c wd1_c gg0_c q10_c q20_c wg0_c gg1_c q11_c q21_c wg1_c t l0 l1 d0 d1 g0 g1 ln fl pl ft fk wt cr0_ inn0_ k10_ k20_ k30_ k40_ z0_ cr1_ inn1_ k11_ k21_ k31_ k41_ z1_ dd0_ p10_ p20_ p30_ wd0_ dd1_ p11_ p21_ p31_ wd1_ gg0_ q10_ q20_ wg0_ gg1_ q11_ q21_ wg1_ Gr htc (by first | with_reducible assumption | with_reducible rfl | omega | assumption | rfl) hz0_c (by first | with_reducible assumption | with_reducible rfl | omega | assumption | rfl) hz1_c (by first | with_reducible assumption | with_reducible rfl | omega | assumption | rfl) hd0_c hd1_c hg0_c hg1_c ht (by first | with_reducible assumption | with_reducible rfl | omega | assumption | rfl) hz0_ (by first | with_reducible assumption | with_reducible rfl | omega | assumption | rfl) hz1_ (by first | with_reducible assumption | with_reducible rfl | omega | assumption | rfl) hd0_ hd1_ hg0_ hg1_ hT) (kV_RX11_117 C.2.2.2.2 (Nat.le_of_ble_eq_true rfl) (Nat.le_of_ble_eq_true rfl)) [8, 9, 10, 11, 12, 13, 14, 1, 2, 3, 4, 5, 6, 7] [1, 0, 0, 0, 0, 0, 0, 0, 0, 0, 0, 0, 0, 0] rfl rfl (ci := 8) (qc := (RX9, TX9, 8)) rfl rfl (List.mem_flatten.mpr ⟨_, List.mem_of_getElem? (i := 0) rfl, (bTold_mem htc).choose_spec⟩) rfl rfl hl.1 dX11_image_21 (Nat.le_of_ble_eq_true rfl) (Nat.le_of_ble_eq_true rfl) (fun b1 H locs hw G => ?_)
  refine zEx27 hw ?_
  intro wt2_1 g9_2 fk2_3 w2_4 s0_5 s0_6 s0_7 s0_8 w2_9 s1_10 s1_11 s1_12 s1_13 w2_14 s2_15 s2_16 s2_17 w2_18 s3_19 s3_20 s3_21 w2_22 s4_23 s4_24 w2_25 s5_26 s5_27
  refine zCu12 ?_
  intro hbs9 h_28 h_29 h_30 h_31 h_32 h_33 h_34 h_35 h_36 h_37 h_38
  clear hw
  subst hbs9
  have G : zS T A s.heap s [[zO10 xo t im mk rd po co tr wa wb_ fi cd], [zArq T 6 im 3 qi], [zAr T 2 mk 3 fmk], wt2_1, w2_4, w2_9, w2_14, w2_18, w2_22, w2_25, wt, z0_, z1_, wd0_, wd1_, wg0_, wg1_] _ _ := G
  refine lv_aload_n hx hb dX11_image_24 rfl (lv_at hl 0 rfl) ?_
  refine z_get C G clX11 0 rfl 2 (by decide) m_fl_RX11_20 rfl dX11_image_25 ?_
  refine lv_iload_n hx hb dX11_image_28 rfl (lv_at hl 1 rfl) ?_
  refine lv_iconst (v := 1) hx hb dX11_image_29 (by decide) ?_
  refine z_zst C G 2 rfl (vp_in_nI (n := 2) (by decide) (by decide)) dX11_image_30 (fun H locs G => ?_)
  have G : zS T A s.heap s [[zO10 xo t im mk rd po co tr wa wb_ fi cd], [zArq T 6 im 3 qi], [zAr T 2 mk 3 (upd fmk 2 (vp_nar .boolean 1))], wt2_1, w2_4, w2_9, w2_14, w2_18, w2_22, w2_25, wt, z0_, z1_, wd0_, wd1_, wg0_, wg1_] _ _ := G
  refine lv_iconst (v := 1) hx hb dX11_image_31 (by decide) ?_
  have G := G.sub (bs' := [[zO10 xo t im mk rd po co tr wa wb_ fi cd], wt, z0_, z1_, wd0_, wd1_, wg0_, wg1_, wt2_1, w2_4, w2_9, w2_14, w2_18, w2_22, w2_25, [zArq T 6 im 3 qi], [zAr T 2 mk 3 (upd fmk 2 (vp_nar .boolean 1))]]) [0, 10, 11, 12, 13, 14, 15, 16, 3, 4, 5, 6, 7, 8, 9, 1, 2] rfl
  exact z_back hQ9 (z_zret C hr hlocks G (Nat.le_of_ble_eq_true rfl) (Nat.le_of_ble_eq_true rfl) dX11_image_32 rfl ⟨ln, fl, pl, g9_2, fk2_3, wt2_1, cr0_, inn0_, s0_5, s0_6, s0_7, s0_8, w2_4, cr1_, inn1_, s1_10, s1_11, s1_12, s1_13, w2_9, dd0_, s2_15, s2_16, s2_17, w2_14, dd1_, s3_19, s3_20, s3_21, w2_18, gg0_, s4_23, s4_24, w2_22, gg1_, s5_26, s5_27, w2_25, (upd fmk 2 (vp_nar .boolean 1)), rfl, h_28, (by first | with_reducible assumption | omega | trivial | assumption), h_30, (by first | with_reducible assumption | omega | trivial | assumption), h_31, (by first | with_reducible assumption | omega | trivial | assumption), h_32, h_33, h_34, h_35, rfl, rfl, h_38⟩)
set_option maxHeartbeats 4000000 in
set_option maxRecDepth 100000 in
/-- c_f_again0 -/
theorem c_f_again0 (l : Launch) (T : zTy) (xo : Nat) (t : Nat) (im : Nat) (mk : Nat) (rd : Nat) (po : Nat) (co : Nat) (tr : Nat) (wa : Nat) (wb_ : Nat) (fi : Nat) (cd : Nat) (l0 : Nat) (l1 : Nat) (d0 : Nat) (d1 : Nat) (g0 : Nat) (g1 : Nat) (ln : Int32) (fl : Int32) (pl : Int32) (ft : Nat → Int32) (fk : Nat → Int32) (wt : va_W) (cr0_ : Int32) (inn0_ : Int32) (k10_ : Nat → Int32) (k20_ : Nat → Int32) (k30_ : Nat → Int32) (k40_ : Nat → Int32) (z0_ : va_W) (cr1_ : Int32) (inn1_ : Int32) (k11_ : Nat → Int32) (k21_ : Nat → Int32) (k31_ : Nat → Int32) (k41_ : Nat → Int32) (z1_ : va_W) (dd0_ : Int32) (p10_ : Nat → Int32) (p20_ : Nat → Int32) (p30_ : Nat → Int32) (wd0_ : va_W) (dd1_ : Int32) (p11_ : Nat → Int32) (p21_ : Nat → Int32) (p31_ : Nat → Int32) (wd1_ : va_W) (gg0_ : Int32) (q10_ : Nat → Int32) (q20_ : Nat → Int32) (wg0_ : va_W) (gg1_ : Int32) (q11_ : Nat → Int32) (q21_ : Nat → Int32) (wg1_ : va_W) (m0 : Nat) (l0a : Nat) (l1a : Nat) (d0a : Nat) (d1a : Nat) (g0a : Nat) (g1a : Nat) (lna : Int32) (fla : Int32) (pla : Int32) (fta : Nat → Int32) (fka : Nat → Int32) (wta : va_W) (cr0_a : Int32) (inn0_a : Int32) (k10_a : Nat → Int32) (k20_a : Nat → Int32) (k30_a : Nat → Int32) (k40_a : Nat → Int32) (z0_a : va_W) (cr1_a : Int32) (inn1_a : Int32) (k11_a : Nat → Int32) (k21_a : Nat → Int32) (k31_a : Nat → Int32) (k41_a : Nat → Int32) (z1_a : va_W) (dd0_a : Int32) (p10_a : Nat → Int32) (p20_a : Nat → Int32) (p30_a : Nat → Int32) (wd0_a : va_W) (dd1_a : Int32) (p11_a : Nat → Int32) (p21_a : Nat → Int32) (p31_a : Nat → Int32) (wd1_a : va_W) (gg0_a : Int32) (q10_a : Nat → Int32) (q20_a : Nat → Int32) (wg0_a : va_W) (gg1_a : Int32) (q11_a : Nat → Int32) (q21_a : Nat → Int32) (wg1_a : va_W) (m1 : Nat) (m2 : Nat) (qi : Nat → Option Nat) (fmk : Nat → Int32) (laA : Nat) (mdA : Int32) (wyA : Int32) (pc_A : Int32) (f1A : Nat → Int32) (f2A : Nat → Int32) (f3A : Nat → Int32) (f4A : Nat → Int32) (f5A : Nat → Int32) (f6A : Nat → Int32) (n4A : Nat) (wwA : va_W) (laB : Nat) (mdB : Int32) (wyB : Int32) (pc_B : Int32) (f1B : Nat → Int32) (f2B : Nat → Int32) (f3B : Nat → Int32) (f4B : Nat → Int32) (f5B : Nat → Int32) (f6B : Nat → Int32) (n4B : Nat) (wwB : va_W) (e0f : Int32) (e1f : Int32) (e2f : Int32) (e3f : Int32) (e4f : Int32) (e5f : Int32) (r1f : Nat → Int32) (m1f : Nat) (r2f : Nat → Int32) (wff : va_W) (Gr : Nat → Int32) (Gw : Nat → Int32) (ht : bTold T t l0 l1 d0 d1 g0 g1 ln fl pl ft fk wt) (hK : zKT fk) (hz0_ : bLand T l0 cr0_ inn0_ k10_ k20_ k30_ k40_ z0_) (hI0_ : zLI cr0_ k10_ k30_) (hz1_ : bLand T l1 cr1_ inn1_ k11_ k21_ k31_ k41_ z1_) (hI1_ : zLI cr1_ k11_ k31_) (hd0_ : bDay T d0 dd0_ p10_ p20_ p30_ wd0_) (hd1_ : bDay T d1 dd1_ p11_ p21_ p31_ wd1_) (hg0_ : bLog T g0 gg0_ q10_ q20_ wg0_) (hg1_ : bLog T g1 gg1_ q11_ q21_ wg1_) (hta : bTold T m0 l0a l1a d0a d1a g0a g1a lna fla pla fta fka wta) (hKa : zKT fka) (hz0_a : bLand T l0a cr0_a inn0_a k10_a k20_a k30_a k40_a z0_a) (hI0_a : zLI cr0_a k10_a k30_a) (hz1_a : bLand T l1a cr1_a inn1_a k11_a k21_a k31_a k41_a z1_a) (hI1_a : zLI cr1_a k11_a k31_a) (hd0_a : bDay T d0a dd0_a p10_a p20_a p30_a wd0_a) (hd1_a : bDay T d1a dd1_a p11_a p21_a p31_a wd1_a) (hg0_a : bLog T g0a gg0_a q10_a q20_a wg0_a) (hg1_a : bLog T g1a gg1_a q11_a q21_a wg1_a) (hm0 : qi 0 = some m0) (hm1 : qi 1 = some m1) (hm2 : qi 2 = some m2) (hwwA : bWays T wa laA mdA wyA pc_A f1A f2A f3A f4A f5A f6A n4A wwA) (hwwB : bWays T wb_ laB mdB wyB pc_B f1B f2B f3B f4B f5B f6B n4B wwB) (hwff : bFit T fi e0f e1f e2f e3f e4f e5f r1f m1f r2f wff) (hT : zTR ln fl pl ft fk cr0_ inn0_ k10_ k20_ k30_ k40_ cr1_ inn1_ k11_ k21_ k31_ k41_ dd0_ p10_ p20_ p30_ dd1_ p11_ p21_ p31_ gg0_ q10_ q20_ gg1_ q11_ q21_ Gr) (hTw : (¬ fmk 0 = 0 → zTR lna fla pla fta fka cr0_a inn0_a k10_a k20_a k30_a k40_a cr1_a inn1_a k11_a k21_a k31_a k41_a dd0_a p10_a p20_a p30_a dd1_a p11_a p21_a p31_a gg0_a q10_a q20_a gg1_a q11_a q21_a Gw)) : zMi l T yX11_again cX11_again 2 (some .boolean) 3 0 0 [.ref xo, .int 0] [[zO10 xo t im mk rd po co tr wa wb_ fi cd], wt, z0_, z1_, wd0_, wd1_, wg0_, wg1_, wta, z0_a, z1_a, wd0_a, wd1_a, wg0_a, wg1_a, [zArq T 6 im 3 qi], [zAr T 2 mk 3 fmk], wwA, wwB, wff] (fun (r : Int32) bs => ∃ (ln_2 : Int32) (fl_2 : Int32) (pl_2 : Int32) (ft_2 : Nat → Int32) (fk_2 : Nat → Int32) (wt_2 : va_W) (cr0__2 : Int32) (inn0__2 : Int32) (k10__2 : Nat → Int32) (k20__2 : Nat → Int32) (k30__2 : Nat → Int32) (k40__2 : Nat → Int32) (z0__2 : va_W) (cr1__2 : Int32) (inn1__2 : Int32) (k11__2 : Nat → Int32) (k21__2 : Nat → Int32) (k31__2 : Nat → Int32) (k41__2 : Nat → Int32) (z1__2 : va_W) (dd0__2 : Int32) (p10__2 : Nat → Int32) (p20__2 : Nat → Int32) (p30__2 : Nat → Int32) (wd0__2 : va_W) (dd1__2 : Int32) (p11__2 : Nat → Int32) (p21__2 : Nat → Int32) (p31__2 : Nat → Int32) (wd1__2 : va_W) (gg0__2 : Int32) (q10__2 : Nat → Int32) (q20__2 : Nat → Int32) (wg0__2 : va_W) (gg1__2 : Int32) (q11__2 : Nat → Int32) (q21__2 : Nat → Int32) (wg1__2 : va_W) (wwA_2 : va_W) (wwB_2 : va_W) (wff_2 : va_W) (mdA_2 : Int32) (mdB_2 : Int32) (e0f_2 : Int32), bs = [[zO10 xo t im mk rd po co tr wa wb_ fi cd], wt_2, z0__2, z1__2, wd0__2, wd1__2, wg0__2, wg1__2, wta, z0_a, z1_a, wd0_a, wd1_a, wg0_a, wg1_a, [zArq T 6 im 3 qi], [zAr T 2 mk 3 fmk], wwA_2, wwB_2, wff_2] ∧ bTold T t l0 l1 d0 d1 g0 g1 ln_2 fl_2 pl_2 ft_2 fk_2 wt_2 ∧ zKT fk_2 ∧ bLand T l0 cr0__2 inn0__2 k10__2 k20__2 k30__2 k40__2 z0__2 ∧ zLI cr0__2 k10__2 k30__2 ∧ bLand T l1 cr1__2 inn1__2 k11__2 k21__2 k31__2 k41__2 z1__2 ∧ zLI cr1__2 k11__2 k31__2 ∧ bDay T d0 dd0__2 p10__2 p20__2 p30__2 wd0__2 ∧ bDay T d1 dd1__2 p11__2 p21__2 p31__2 wd1__2 ∧ bLog T g0 gg0__2 q10__2 q20__2 wg0__2 ∧ bLog T g1 gg1__2 q11__2 q21__2 wg1__2 ∧ bWays T wa laA mdA_2 wyA pc_A f1A f2A f3A f4A f5A f6A n4A wwA_2 ∧ bWays T wb_ laB mdB_2 wyB pc_B f1B f2B f3B f4B f5B f6B n4B wwB_2 ∧ bFit T fi e0f_2 e1f e2f e3f e4f e5f r1f m1f r2f wff_2 ∧ (mdA_2 = 0 ∧ mdB_2 = 0 ∧ e0f_2 = 0 ∨ mdA_2 = mdA ∧ mdB_2 = mdB ∧ e0f_2 = 0 ∨ mdA_2 = mdA ∧ mdB_2 = mdB ∧ e0f_2 = e0f) ∧ (fmk 0 = 0 ∧ r = 0 ∧ zTR ln_2 fl_2 pl_2 ft_2 fk_2 cr0__2 inn0__2 k10__2 k20__2 k30__2 k40__2 cr1__2 inn1__2 k11__2 k21__2 k31__2 k41__2 dd0__2 p10__2 p20__2 p30__2 dd1__2 p11__2 p21__2 p31__2 gg0__2 q10__2 q20__2 gg1__2 q11__2 q21__2 Gr ∨ ¬ fmk 0 = 0 ∧ r = 1 ∧ zTR ln_2 fl_2 pl_2 ft_2 fk_2 cr0__2 inn0__2 k10__2 k20__2 k30__2 k40__2 cr1__2 inn1__2 k11__2 k21__2 k31__2 k41__2 dd0__2 p10__2 p20__2 p30__2 dd1__2 p11__2 p21__2 p31__2 gg0__2 q10__2 q20__2 gg1__2 q11__2 q21__2 Gw)) := by
  refine zMi_of (own := RX11) (by decide) rfl (Nat.le_of_ble_eq_true rfl) ?_
  intro p e s m args below meth c A ls C hr hlocks hnm hAe G hl
  refine zHide (fun Q9 hQ9 => ?_)
  have hx := C.1
  have hb := C.2.1
  replace hTw : zHd ((¬ fmk 0 = 0 → zTR lna fla pla fta fka cr0_a inn0_a k10_a k20_a k30_a k40_a cr1_a inn1_a k11_a k21_a k31_a k41_a dd0_a p10_a p20_a p30_a dd1_a p11_a p21_a p31_a gg0_a q10_a q20_a gg1_a q11_a q21_a Gw)) := hTw
  have hl : lv_has ls 2 [(0, .ref xo), (1, .int 0)] := hl
  refine lv_iload_n hx hb dX11_again_0 rfl (lv_at hl 1 rfl) ?_
  refine lv_if_lt (tgt := 18) hx hb dX11_again_1 (by decide) (fun q => absurd q (by decide)) (fun _ => ?_)
  refine lv_iload_n hx hb dX11_again_4 rfl (lv_at hl 1 rfl) ?_
  refine lv_iconst (v := 3) hx hb dX11_again_5 (by decide) ?_
  refine lv_icmp_ge (tgt := 18) hx hb dX11_again_6 (by decide) (fun q => absurd q (by decide)) (fun _ => ?_)
  refine lv_aload_n hx hb dX11_again_9 rfl (lv_at hl 0 rfl) ?_
  refine z_get C G clX11 0 rfl 2 (by decide) m_fl_RX11_20 rfl dX11_again_10 ?_
  refine lv_iload_n hx hb dX11_again_13 rfl (lv_at hl 1 rfl) ?_
  refine z_zld C G 16 rfl (vp_in_nI (n := 0) (by decide) (by decide)) dX11_again_14 ?_
  refine lv_topi (fun v_1 ev_1 => ?_)
  rw [show ((0 : Int32).toNatClampNeg) = 0 from rfl] at ev_1
  subst ev_1
  refine lv_if_ne (tgt := 20) hx hb dX11_again_15 (by decide) (fun c_2 => ?_) (fun c_2 => ?_)
  · have c_2n : ¬ (fmk 0).toInt = (0 : Int) := fun q => c_2 ((fa_eq _ _).mpr q)
    refine lv_aload_n hx hb dX11_again_20 rfl (lv_at hl 0 rfl) ?_
    refine z_get C G clX11 0 rfl 0 (by decide) m_fl_RX11_10 rfl dX11_again_21 ?_
    refine lv_aload_n hx hb dX11_again_24 rfl (lv_at hl 0 rfl) ?_
    refine z_get C G clX11 0 rfl 1 (by decide) m_fl_RX11_16 rfl dX11_again_25 ?_
    refine lv_iload_n hx hb dX11_again_28 rfl (lv_at hl 1 rfl) ?_
    refine z_ald C G 15 6 rfl rfl (vp_in_nI (n := 0) (by decide) (by decide)) dX11_again_29 ?_
    rw [show qi ((0 : Int32).toNatClampNeg) = some m0 from hm0]
    refine z_Vv (bc := [wt, z0_, z1_, wd0_, wd1_, wg0_, wg1_, wta, z0_a, z1_a, wd0_a, wd1_a, wg0_a, wg1_a]) (br := [[zO10 xo t im mk rd po co tr wa wb_ fi cd], [zArq T 6 im 3 qi], [zAr T 2 mk 3 fmk], wwA, wwB, wff]) (As := [.ref m0]) (rest := []) C G (c_f_Told_takeAll l T t l0 l1 d0 d1 g0 g1 ln fl pl ft fk wt cr0_ inn0_ k10_ k20_ k30_ k40_ z0_ cr1_ inn1_ k11_ k21_ k31_ k41_ z1_ dd0_ p10_ p20_ p30_ wd0_ dd1_ p11_ p21_ p31_ wd1_ gg0_ q10_ q20_ wg0_ gg1_ q11_ q21_ wg1_ m0 l0a l1a d0a d1a g0a g1a lna fla pla fta fka wta cr0_a inn0_a k10_a k20_a k30_a k40_a z0_a cr1_a inn1_a k11_a k21_a k31_a k41_a z1_a dd0_a p10_a p20_a p30_a wd0_a dd1_a p11_a p21_a p31_a wd1_a gg0_a q10_a q20_a wg0_a gg1_a q11_a q21_a wg1_a Gw ht (by first | with_reducible assumption | with_reducible rfl | omega | assumption | rfl) hz0_ (by first | with_reducible assumption | with_reducible rfl | omega | assumption | rfl) hz1_ (by first | with_reducible assumption | with_reducible rfl | omega | assumption | rfl) hd0_ hd1_ hg0_ hg1_ hta (by first | with_reducible assumption | with_reducible rfl | omega | assumption | rfl) hz0_a (by first | with_reducible assumption | with_reducible rfl | omega | assumption | rfl) hz1_a (by first | with_reducible assumption | with_reducible rfl | omega | assumption | rfl) hd0_a hd1_a hg0_a hg1_a (hTw (by assumption))) (kV_RX11_117 C.2.2.2.2 (Nat.le_of_ble_eq_true rfl) (Nat.le_of_ble_eq_true rfl)) [1, 2, 3, 4, 5, 6, 7, 8, 9, 10, 11, 12, 13, 14] [1, 0, 0, 0, 0, 0, 0, 0, 0, 0, 0, 0, 0, 0] rfl rfl (ci := 8) (qc := (RX9, TX9, 8)) rfl rfl (List.mem_flatten.mpr ⟨_, List.mem_of_getElem? (i := 0) rfl, (bTold_mem ht).choose_spec⟩) rfl rfl hl.1 dX11_again_30 (Nat.le_of_ble_eq_true rfl) (Nat.le_of_ble_eq_true rfl) (fun b1 H locs hw G => ?_)
    refine zEx27 hw ?_
    intro wt2_3 g9_4 fk2_5 w2_6 s0_7 s0_8 s0_9 s0_10 w2_11 s1_12 s1_13 s1_14 s1_15 w2_16 s2_17 s2_18 s2_19 w2_20 s3_21 s3_22 s3_23 w2_24 s4_25 s4_26 w2_27 s5_28 s5_29
    refine zCu12 ?_
    intro hbs9 h_30 h_31 h_32 h_33 h_34 h_35 h_36 h_37 h_38 h_39 h_40
    clear hw
    subst hbs9
    have G : zS T A s.heap s [[zO10 xo t im mk rd po co tr wa wb_ fi cd], [zArq T 6 im 3 qi], [zAr T 2 mk 3 fmk], wwA, wwB, wff, wt2_3, w2_6, w2_11, w2_16, w2_20, w2_24, w2_27, wta, z0_a, z1_a, wd0_a, wd1_a, wg0_a, wg1_a] _ _ := G
    refine lv_aload_n hx hb dX11_again_33 rfl (lv_at hl 0 rfl) ?_
    refine lv_iconst (v := 1) hx hb dX11_again_34 (by decide) ?_
    refine z_Vv (bc := [[zO10 xo t im mk rd po co tr wa wb_ fi cd], wwA, wwB, wff]) (br := [[zArq T 6 im 3 qi], [zAr T 2 mk 3 fmk], wt2_3, w2_6, w2_11, w2_16, w2_20, w2_24, w2_27, wta, z0_a, z1_a, wd0_a, wd1_a, wg0_a, wg1_a]) (As := [.int 1]) (rest := []) C G (c_forget1 l T xo t im mk rd po co tr wa wb_ fi cd laA mdA wyA pc_A f1A f2A f3A f4A f5A f6A n4A wwA laB mdB wyB pc_B f1B f2B f3B f4B f5B f6B n4B wwB e0f e1f e2f e3f e4f e5f r1f m1f r2f wff hwwA hwwB hwff) (kV_RX11_105 C.2.2.2.2 (Nat.le_of_ble_eq_true rfl) (Nat.le_of_ble_eq_true rfl)) [0, 3, 4, 5] [0, 2, 0, 0] rfl rfl (ci := 10) (qc := (RX11, TX11, 11)) rfl rfl (List.mem_flatten.mpr ⟨_, List.mem_of_getElem? (i := 0) rfl, List.mem_cons_self⟩) rfl rfl hl.1 dX11_again_35 (Nat.le_of_ble_eq_true rfl) (Nat.le_of_ble_eq_true rfl) (fun b1 H locs hw G => ?_)
    refine zEx3 hw ?_
    intro wwA_42 wwB_43 wff_44
    refine zCu4 ?_
    intro hbs9 h_45 h_46 h_47
    clear hw
    subst hbs9
    have G : zS T A s.heap s [[zArq T 6 im 3 qi], [zAr T 2 mk 3 fmk], wt2_3, w2_6, w2_11, w2_16, w2_20, w2_24, w2_27, wta, z0_a, z1_a, wd0_a, wd1_a, wg0_a, wg1_a, [zO10 xo t im mk rd po co tr wa wb_ fi cd], wwA_42, wwB_43, wff_44] _ _ := G
    refine lv_iconst (v := 1) hx hb dX11_again_38 (by decide) ?_
    have G := G.sub (bs' := [[zO10 xo t im mk rd po co tr wa wb_ fi cd], wt2_3, w2_6, w2_11, w2_16, w2_20, w2_24, w2_27, wta, z0_a, z1_a, wd0_a, wd1_a, wg0_a, wg1_a, [zArq T 6 im 3 qi], [zAr T 2 mk 3 fmk], wwA_42, wwB_43, wff_44]) [16, 2, 3, 4, 5, 6, 7, 8, 9, 10, 11, 12, 13, 14, 15, 0, 1, 17, 18, 19] rfl
    exact z_back hQ9 (z_zret C hr hlocks G (Nat.le_of_ble_eq_true rfl) (Nat.le_of_ble_eq_true rfl) dX11_again_39 rfl ⟨lna, fla, pla, g9_4, fk2_5, wt2_3, cr0_a, inn0_a, s0_7, s0_8, s0_9, s0_10, w2_6, cr1_a, inn1_a, s1_12, s1_13, s1_14, s1_15, w2_11, dd0_a, s2_17, s2_18, s2_19, w2_16, dd1_a, s3_21, s3_22, s3_23, w2_20, gg0_a, s4_25, s4_26, w2_24, gg1_a, s5_28, s5_29, w2_27, wwA_42, wwB_43, wff_44, 0, 0, 0, rfl, h_30, (by first | with_reducible assumption | omega | trivial | assumption), h_32, (by first | with_reducible assumption | omega | trivial | assumption), h_33, (by first | with_reducible assumption | omega | trivial | assumption), h_34, h_35, h_36, h_37, h_45, h_46, h_47, (by first | exact Or.inl ⟨rfl, rfl, rfl⟩ | exact Or.inr (Or.inl ⟨rfl, rfl, rfl⟩) | exact Or.inr (Or.inr ⟨rfl, rfl, rfl⟩)), (Or.inr ⟨by assumption, rfl, h_40⟩)⟩)
  · have c_2n : (fmk 0).toInt = (0 : Int) := (fa_eq _ _).mp c_2
    refine lv_iconst (v := 0) hx hb dX11_again_18 (by decide) ?_
    exact z_back hQ9 (z_zret C hr hlocks G (Nat.le_of_ble_eq_true rfl) (Nat.le_of_ble_eq_true rfl) dX11_again_19 rfl ⟨ln, fl, pl, ft, fk, wt, cr0_, inn0_, k10_, k20_, k30_, k40_, z0_, cr1_, inn1_, k11_, k21_, k31_, k41_, z1_, dd0_, p10_, p20_, p30_, wd0_, dd1_, p11_, p21_, p31_, wd1_, gg0_, q10_, q20_, wg0_, gg1_, q11_, q21_, wg1_, wwA, wwB, wff, mdA, mdB, e0f, rfl, ht, (by first | with_reducible assumption | omega | trivial | assumption), hz0_, (by first | with_reducible assumption | omega | trivial | assumption), hz1_, (by first | with_reducible assumption | omega | trivial | assumption), hd0_, hd1_, hg0_, hg1_, hwwA, hwwB, hwff, (by first | exact Or.inl ⟨rfl, rfl, rfl⟩ | exact Or.inr (Or.inl ⟨rfl, rfl, rfl⟩) | exact Or.inr (Or.inr ⟨rfl, rfl, rfl⟩)), (Or.inl ⟨by assumption, rfl, hT⟩)⟩)
set_option maxHeartbeats 4000000 in
set_option maxRecDepth 100000 in
/-- c_f_again1 -/
theorem c_f_again1 (l : Launch) (T : zTy) (xo : Nat) (t : Nat) (im : Nat) (mk : Nat) (rd : Nat) (po : Nat) (co : Nat) (tr : Nat) (wa : Nat) (wb_ : Nat) (fi : Nat) (cd : Nat) (l0 : Nat) (l1 : Nat) (d0 : Nat) (d1 : Nat) (g0 : Nat) (g1 : Nat) (ln : Int32) (fl : Int32) (pl : Int32) (ft : Nat → Int32) (fk : Nat → Int32) (wt : va_W) (cr0_ : Int32) (inn0_ : Int32) (k10_ : Nat → Int32) (k20_ : Nat → Int32) (k30_ : Nat → Int32) (k40_ : Nat → Int32) (z0_ : va_W) (cr1_ : Int32) (inn1_ : Int32) (k11_ : Nat → Int32) (k21_ : Nat → Int32) (k31_ : Nat → Int32) (k41_ : Nat → Int32) (z1_ : va_W) (dd0_ : Int32) (p10_ : Nat → Int32) (p20_ : Nat → Int32) (p30_ : Nat → Int32) (wd0_ : va_W) (dd1_ : Int32) (p11_ : Nat → Int32) (p21_ : Nat → Int32) (p31_ : Nat → Int32) (wd1_ : va_W) (gg0_ : Int32) (q10_ : Nat → Int32) (q20_ : Nat → Int32) (wg0_ : va_W) (gg1_ : Int32) (q11_ : Nat → Int32) (q21_ : Nat → Int32) (wg1_ : va_W) (m0 : Nat) (m1 : Nat) (l0b : Nat) (l1b : Nat) (d0b : Nat) (d1b : Nat) (g0b : Nat) (g1b : Nat) (lnb : Int32) (flb : Int32) (plb : Int32) (ftb : Nat → Int32) (fkb : Nat → Int32) (wtb : va_W) (cr0_b : Int32) (inn0_b : Int32) (k10_b : Nat → Int32) (k20_b : Nat → Int32) (k30_b : Nat → Int32) (k40_b : Nat → Int32) (z0_b : va_W) (cr1_b : Int32) (inn1_b : Int32) (k11_b : Nat → Int32) (k21_b : Nat → Int32) (k31_b : Nat → Int32) (k41_b : Nat → Int32) (z1_b : va_W) (dd0_b : Int32) (p10_b : Nat → Int32) (p20_b : Nat → Int32) (p30_b : Nat → Int32) (wd0_b : va_W) (dd1_b : Int32) (p11_b : Nat → Int32) (p21_b : Nat → Int32) (p31_b : Nat → Int32) (wd1_b : va_W) (gg0_b : Int32) (q10_b : Nat → Int32) (q20_b : Nat → Int32) (wg0_b : va_W) (gg1_b : Int32) (q11_b : Nat → Int32) (q21_b : Nat → Int32) (wg1_b : va_W) (m2 : Nat) (qi : Nat → Option Nat) (fmk : Nat → Int32) (laA : Nat) (mdA : Int32) (wyA : Int32) (pc_A : Int32) (f1A : Nat → Int32) (f2A : Nat → Int32) (f3A : Nat → Int32) (f4A : Nat → Int32) (f5A : Nat → Int32) (f6A : Nat → Int32) (n4A : Nat) (wwA : va_W) (laB : Nat) (mdB : Int32) (wyB : Int32) (pc_B : Int32) (f1B : Nat → Int32) (f2B : Nat → Int32) (f3B : Nat → Int32) (f4B : Nat → Int32) (f5B : Nat → Int32) (f6B : Nat → Int32) (n4B : Nat) (wwB : va_W) (e0f : Int32) (e1f : Int32) (e2f : Int32) (e3f : Int32) (e4f : Int32) (e5f : Int32) (r1f : Nat → Int32) (m1f : Nat) (r2f : Nat → Int32) (wff : va_W) (Gr : Nat → Int32) (Gw : Nat → Int32) (ht : bTold T t l0 l1 d0 d1 g0 g1 ln fl pl ft fk wt) (hK : zKT fk) (hz0_ : bLand T l0 cr0_ inn0_ k10_ k20_ k30_ k40_ z0_) (hI0_ : zLI cr0_ k10_ k30_) (hz1_ : bLand T l1 cr1_ inn1_ k11_ k21_ k31_ k41_ z1_) (hI1_ : zLI cr1_ k11_ k31_) (hd0_ : bDay T d0 dd0_ p10_ p20_ p30_ wd0_) (hd1_ : bDay T d1 dd1_ p11_ p21_ p31_ wd1_) (hg0_ : bLog T g0 gg0_ q10_ q20_ wg0_) (hg1_ : bLog T g1 gg1_ q11_ q21_ wg1_) (htb : bTold T m1 l0b l1b d0b d1b g0b g1b lnb flb plb ftb fkb wtb) (hKb : zKT fkb) (hz0_b : bLand T l0b cr0_b inn0_b k10_b k20_b k30_b k40_b z0_b) (hI0_b : zLI cr0_b k10_b k30_b) (hz1_b : bLand T l1b cr1_b inn1_b k11_b k21_b k31_b k41_b z1_b) (hI1_b : zLI cr1_b k11_b k31_b) (hd0_b : bDay T d0b dd0_b p10_b p20_b p30_b wd0_b) (hd1_b : bDay T d1b dd1_b p11_b p21_b p31_b wd1_b) (hg0_b : bLog T g0b gg0_b q10_b q20_b wg0_b) (hg1_b : bLog T g1b gg1_b q11_b q21_b wg1_b) (hm0 : qi 0 = some m0) (hm1 : qi 1 = some m1) (hm2 : qi 2 = some m2) (hwwA : bWays T wa laA mdA wyA pc_A f1A f2A f3A f4A f5A f6A n4A wwA) (hwwB : bWays T wb_ laB mdB wyB pc_B f1B f2B f3B f4B f5B f6B n4B wwB) (hwff : bFit T fi e0f e1f e2f e3f e4f e5f r1f m1f r2f wff) (hT : zTR ln fl pl ft fk cr0_ inn0_ k10_ k20_ k30_ k40_ cr1_ inn1_ k11_ k21_ k31_ k41_ dd0_ p10_ p20_ p30_ dd1_ p11_ p21_ p31_ gg0_ q10_ q20_ gg1_ q11_ q21_ Gr) (hTw : (¬ fmk 1 = 0 → zTR lnb flb plb ftb fkb cr0_b inn0_b k10_b k20_b k30_b k40_b cr1_b inn1_b k11_b k21_b k31_b k41_b dd0_b p10_b p20_b p30_b dd1_b p11_b p21_b p31_b gg0_b q10_b q20_b gg1_b q11_b q21_b Gw)) : zMi l T yX11_again cX11_again 2 (some .boolean) 3 0 0 [.ref xo, .int 1] [[zO10 xo t im mk rd po co tr wa wb_ fi cd], wt, z0_, z1_, wd0_, wd1_, wg0_, wg1_, wtb, z0_b, z1_b, wd0_b, wd1_b, wg0_b, wg1_b, [zArq T 6 im 3 qi], [zAr T 2 mk 3 fmk], wwA, wwB, wff] (fun (r : Int32) bs => ∃ (ln_2 : Int32) (fl_2 : Int32) (pl_2 : Int32) (ft_2 : Nat → Int32) (fk_2 : Nat → Int32) (wt_2 : va_W) (cr0__2 : Int32) (inn0__2 : Int32) (k10__2 : Nat → Int32) (k20__2 : Nat → Int32) (k30__2 : Nat → Int32) (k40__2 : Nat → Int32) (z0__2 : va_W) (cr1__2 : Int32) (inn1__2 : Int32) (k11__2 : Nat → Int32) (k21__2 : Nat → Int32) (k31__2 : Nat → Int32) (k41__2 : Nat → Int32) (z1__2 : va_W) (dd0__2 : Int32) (p10__2 : Nat → Int32) (p20__2 : Nat → Int32) (p30__2 : Nat → Int32) (wd0__2 : va_W) (dd1__2 : Int32) (p11__2 : Nat → Int32) (p21__2 : Nat → Int32) (p31__2 : Nat → Int32) (wd1__2 : va_W) (gg0__2 : Int32) (q10__2 : Nat → Int32) (q20__2 : Nat → Int32) (wg0__2 : va_W) (gg1__2 : Int32) (q11__2 : Nat → Int32) (q21__2 : Nat → Int32) (wg1__2 : va_W) (wwA_2 : va_W) (wwB_2 : va_W) (wff_2 : va_W) (mdA_2 : Int32) (mdB_2 : Int32) (e0f_2 : Int32), bs = [[zO10 xo t im mk rd po co tr wa wb_ fi cd], wt_2, z0__2, z1__2, wd0__2, wd1__2, wg0__2, wg1__2, wtb, z0_b, z1_b, wd0_b, wd1_b, wg0_b, wg1_b, [zArq T 6 im 3 qi], [zAr T 2 mk 3 fmk], wwA_2, wwB_2, wff_2] ∧ bTold T t l0 l1 d0 d1 g0 g1 ln_2 fl_2 pl_2 ft_2 fk_2 wt_2 ∧ zKT fk_2 ∧ bLand T l0 cr0__2 inn0__2 k10__2 k20__2 k30__2 k40__2 z0__2 ∧ zLI cr0__2 k10__2 k30__2 ∧ bLand T l1 cr1__2 inn1__2 k11__2 k21__2 k31__2 k41__2 z1__2 ∧ zLI cr1__2 k11__2 k31__2 ∧ bDay T d0 dd0__2 p10__2 p20__2 p30__2 wd0__2 ∧ bDay T d1 dd1__2 p11__2 p21__2 p31__2 wd1__2 ∧ bLog T g0 gg0__2 q10__2 q20__2 wg0__2 ∧ bLog T g1 gg1__2 q11__2 q21__2 wg1__2 ∧ bWays T wa laA mdA_2 wyA pc_A f1A f2A f3A f4A f5A f6A n4A wwA_2 ∧ bWays T wb_ laB mdB_2 wyB pc_B f1B f2B f3B f4B f5B f6B n4B wwB_2 ∧ bFit T fi e0f_2 e1f e2f e3f e4f e5f r1f m1f r2f wff_2 ∧ (mdA_2 = 0 ∧ mdB_2 = 0 ∧ e0f_2 = 0 ∨ mdA_2 = mdA ∧ mdB_2 = mdB ∧ e0f_2 = 0 ∨ mdA_2 = mdA ∧ mdB_2 = mdB ∧ e0f_2 = e0f) ∧ (fmk 1 = 0 ∧ r = 0 ∧ zTR ln_2 fl_2 pl_2 ft_2 fk_2 cr0__2 inn0__2 k10__2 k20__2 k30__2 k40__2 cr1__2 inn1__2 k11__2 k21__2 k31__2 k41__2 dd0__2 p10__2 p20__2 p30__2 dd1__2 p11__2 p21__2 p31__2 gg0__2 q10__2 q20__2 gg1__2 q11__2 q21__2 Gr ∨ ¬ fmk 1 = 0 ∧ r = 1 ∧ zTR ln_2 fl_2 pl_2 ft_2 fk_2 cr0__2 inn0__2 k10__2 k20__2 k30__2 k40__2 cr1__2 inn1__2 k11__2 k21__2 k31__2 k41__2 dd0__2 p10__2 p20__2 p30__2 dd1__2 p11__2 p21__2 p31__2 gg0__2 q10__2 q20__2 gg1__2 q11__2 q21__2 Gw)) := by
  refine zMi_of (own := RX11) (by decide) rfl (Nat.le_of_ble_eq_true rfl) ?_
  intro p e s m args below meth c A ls C hr hlocks hnm hAe G hl
  refine zHide (fun Q9 hQ9 => ?_)
  have hx := C.1
  have hb := C.2.1
  replace hTw : zHd ((¬ fmk 1 = 0 → zTR lnb flb plb ftb fkb cr0_b inn0_b k10_b k20_b k30_b k40_b cr1_b inn1_b k11_b k21_b k31_b k41_b dd0_b p10_b p20_b p30_b dd1_b p11_b p21_b p31_b gg0_b q10_b q20_b gg1_b q11_b q21_b Gw)) := hTw
  have hl : lv_has ls 2 [(0, .ref xo), (1, .int 1)] := hl
  refine lv_iload_n hx hb dX11_again_0 rfl (lv_at hl 1 rfl) ?_
  refine lv_if_lt (tgt := 18) hx hb dX11_again_1 (by decide) (fun q => absurd q (by decide)) (fun _ => ?_)
  refine lv_iload_n hx hb dX11_again_4 rfl (lv_at hl 1 rfl) ?_
  refine lv_iconst (v := 3) hx hb dX11_again_5 (by decide) ?_
  refine lv_icmp_ge (tgt := 18) hx hb dX11_again_6 (by decide) (fun q => absurd q (by decide)) (fun _ => ?_)
  refine lv_aload_n hx hb dX11_again_9 rfl (lv_at hl 0 rfl) ?_
  refine z_get C G clX11 0 rfl 2 (by decide) m_fl_RX11_20 rfl dX11_again_10 ?_
  refine lv_iload_n hx hb dX11_again_13 rfl (lv_at hl 1 rfl) ?_
  refine z_zld C G 16 rfl (vp_in_nI (n := 1) (by decide) (by decide)) dX11_again_14 ?_
  refine lv_topi (fun v_1 ev_1 => ?_)
  rw [show ((1 : Int32).toNatClampNeg) = 1 from rfl] at ev_1
  subst ev_1
  refine lv_if_ne (tgt := 20) hx hb dX11_again_15 (by decide) (fun c_2 => ?_) (fun c_2 => ?_)
  · have c_2n : ¬ (fmk 1).toInt = (0 : Int) := fun q => c_2 ((fa_eq _ _).mpr q)
    refine lv_aload_n hx hb dX11_again_20 rfl (lv_at hl 0 rfl) ?_
    refine z_get C G clX11 0 rfl 0 (by decide) m_fl_RX11_10 rfl dX11_again_21 ?_
    refine lv_aload_n hx hb dX11_again_24 rfl (lv_at hl 0 rfl) ?_
    refine z_get C G clX11 0 rfl 1 (by decide) m_fl_RX11_16 rfl dX11_again_25 ?_
    refine lv_iload_n hx hb dX11_again_28 rfl (lv_at hl 1 rfl) ?_
    refine z_ald C G 15 6 rfl rfl (vp_in_nI (n := 1) (by decide) (by decide)) dX11_again_29 ?_
    rw [show qi ((1 : Int32).toNatClampNeg) = some m1 from hm1]
    refine z_Vv (bc := [wt, z0_, z1_, wd0_, wd1_, wg0_, wg1_, wtb, z0_b, z1_b, wd0_b, wd1_b, wg0_b, wg1_b]) (br := [[zO10 xo t im mk rd po co tr wa wb_ fi cd], [zArq T 6 im 3 qi], [zAr T 2 mk 3 fmk], wwA, wwB, wff]) (As := [.ref m1]) (rest := []) C G (c_f_Told_takeAll l T t l0 l1 d0 d1 g0 g1 ln fl pl ft fk wt cr0_ inn0_ k10_ k20_ k30_ k40_ z0_ cr1_ inn1_ k11_ k21_ k31_ k41_ z1_ dd0_ p10_ p20_ p30_ wd0_ dd1_ p11_ p21_ p31_ wd1_ gg0_ q10_ q20_ wg0_ gg1_ q11_ q21_ wg1_ m1 l0b l1b d0b d1b g0b g1b lnb flb plb ftb fkb wtb cr0_b inn0_b k10_b k20_b k30_b k40_b z0_b cr1_b inn1_b k11_b k21_b k31_b k41_b z1_b dd0_b p10_b p20_b p30_b wd0_b dd1_b p11_b p21_b p31_b wd1_b gg0_b q10_b q20_b wg0_b gg1_b q11_b q21_b wg1_b Gw ht (by first | with_reducible assumption | with_reducible rfl | omega | assumption | rfl) hz0_ (by first | with_reducible assumption | with_reducible rfl | omega | assumption | rfl) hz1_ (by first | with_reducible assumption | with_reducible rfl | omega | assumption | rfl) hd0_ hd1_ hg0_ hg1_ htb (by first | with_reducible assumption | with_reducible rfl | omega | assumption | rfl) hz0_b (by first | with_reducible assumption | with_reducible rfl | omega | assumption | rfl) hz1_b (by first | with_reducible assumption | with_reducible rfl | omega | assumption | rfl) hd0_b hd1_b hg0_b hg1_b (hTw (by assumption))) (kV_RX11_117 C.2.2.2.2 (Nat.le_of_ble_eq_true rfl) (Nat.le_of_ble_eq_true rfl)) [1, 2, 3, 4, 5, 6, 7, 8, 9, 10, 11, 12, 13, 14] [1, 0, 0, 0, 0, 0, 0, 0, 0, 0, 0, 0, 0, 0] rfl rfl (ci := 8) (qc := (RX9, TX9, 8)) rfl rfl (List.mem_flatten.mpr ⟨_, List.mem_of_getElem? (i := 0) rfl, (bTold_mem ht).choose_spec⟩) rfl rfl hl.1 dX11_again_30 (Nat.le_of_ble_eq_true rfl) (Nat.le_of_ble_eq_true rfl) (fun b1 H locs hw G => ?_)
    refine zEx27 hw ?_
    intro wt2_3 g9_4 fk2_5 w2_6 s0_7 s0_8 s0_9 s0_10 w2_11 s1_12 s1_13 s1_14 s1_15 w2_16 s2_17 s2_18 s2_19 w2_20 s3_21 s3_22 s3_23 w2_24 s4_25 s4_26 w2_27 s5_28 s5_29
    refine zCu12 ?_
    intro hbs9 h_30 h_31 h_32 h_33 h_34 h_35 h_36 h_37 h_38 h_39 h_40
    clear hw
    subst hbs9
    have G : zS T A s.heap s [[zO10 xo t im mk rd po co tr wa wb_ fi cd], [zArq T 6 im 3 qi], [zAr T 2 mk 3 fmk], wwA, wwB, wff, wt2_3, w2_6, w2_11, w2_16, w2_20, w2_24, w2_27, wtb, z0_b, z1_b, wd0_b, wd1_b, wg0_b, wg1_b] _ _ := G
    refine lv_aload_n hx hb dX11_again_33 rfl (lv_at hl 0 rfl) ?_
    refine lv_iconst (v := 1) hx hb dX11_again_34 (by decide) ?_
    refine z_Vv (bc := [[zO10 xo t im mk rd po co tr wa wb_ fi cd], wwA, wwB, wff]) (br := [[zArq T 6 im 3 qi], [zAr T 2 mk 3 fmk], wt2_3, w2_6, w2_11, w2_16, w2_20, w2_24, w2_27, wtb, z0_b, z1_b, wd0_b, wd1_b, wg0_b, wg1_b]) (As := [.int 1]) (rest := []) C G (c_forget1 l T xo t im mk rd po co tr wa wb_ fi cd laA mdA wyA pc_A f1A f2A f3A f4A f5A f6A n4A wwA laB mdB wyB pc_B f1B f2B f3B f4B f5B f6B n4B wwB e0f e1f e2f e3f e4f e5f r1f m1f r2f wff hwwA hwwB hwff) (kV_RX11_105 C.2.2.2.2 (Nat.le_of_ble_eq_true rfl) (Nat.le_of_ble_eq_true rfl)) [0, 3, 4, 5] [0, 2, 0, 0] rfl rfl (ci := 10) (qc := (RX11, TX11, 11)) rfl rfl (List.mem_flatten.mpr ⟨_, List.mem_of_getElem? (i := 0) rfl, List.mem_cons_self⟩) rfl rfl hl.1 dX11_again_35 (Nat.le_of_ble_eq_true rfl) (Nat.le_of_ble_eq_true rfl) (fun b1 H locs hw G => ?_)
    refine zEx3 hw ?_
    intro wwA_42 wwB_43 wff_44
    refine zCu4 ?_
    intro hbs9 h_45 h_46 h_47
    clear hw
    subst hbs9
    have G : zS T A s.heap s [[zArq T 6 im 3 qi], [zAr T 2 mk 3 fmk], wt2_3, w2_6, w2_11, w2_16, w2_20, w2_24, w2_27, wtb, z0_b, z1_b, wd0_b, wd1_b, wg0_b, wg1_b, [zO10 xo t im mk rd po co tr wa wb_ fi cd], wwA_42, wwB_43, wff_44] _ _ := G
    refine lv_iconst (v := 1) hx hb dX11_again_38 (by decide) ?_
    have G := G.sub (bs' := [[zO10 xo t im mk rd po co tr wa wb_ fi cd], wt2_3, w2_6, w2_11, w2_16, w2_20, w2_24, w2_27, wtb, z0_b, z1_b, wd0_b, wd1_b, wg0_b, wg1_b, [zArq T 6 im 3 qi], [zAr T 2 mk 3 fmk], wwA_42, wwB_43, wff_44]) [16, 2, 3, 4, 5, 6, 7, 8, 9, 10, 11, 12, 13, 14, 15, 0, 1, 17, 18, 19] rfl
    exact z_back hQ9 (z_zret C hr hlocks G (Nat.le_of_ble_eq_true rfl) (Nat.le_of_ble_eq_true rfl) dX11_again_39 rfl ⟨lnb, flb, plb, g9_4, fk2_5, wt2_3, cr0_b, inn0_b, s0_7, s0_8, s0_9, s0_10, w2_6, cr1_b, inn1_b, s1_12, s1_13, s1_14, s1_15, w2_11, dd0_b, s2_17, s2_18, s2_19, w2_16, dd1_b, s3_21, s3_22, s3_23, w2_20, gg0_b, s4_25, s4_26, w2_24, gg1_b, s5_28, s5_29, w2_27, wwA_42, wwB_43, wff_44, 0, 0, 0, rfl, h_30, (by first | with_reducible assumption | omega | trivial | assumption), h_32, (by first | with_reducible assumption | omega | trivial | assumption), h_33, (by first | with_reducible assumption | omega | trivial | assumption), h_34, h_35, h_36, h_37, h_45, h_46, h_47, (by first | exact Or.inl ⟨rfl, rfl, rfl⟩ | exact Or.inr (Or.inl ⟨rfl, rfl, rfl⟩) | exact Or.inr (Or.inr ⟨rfl, rfl, rfl⟩)), (Or.inr ⟨by assumption, rfl, h_40⟩)⟩)
  · have c_2n : (fmk 1).toInt = (0 : Int) := (fa_eq _ _).mp c_2
    refine lv_iconst (v := 0) hx hb dX11_again_18 (by decide) ?_
    exact z_back hQ9 (z_zret C hr hlocks G (Nat.le_of_ble_eq_true rfl) (Nat.le_of_ble_eq_true rfl) dX11_again_19 rfl ⟨ln, fl, pl, ft, fk, wt, cr0_, inn0_, k10_, k20_, k30_, k40_, z0_, cr1_, inn1_, k11_, k21_, k31_, k41_, z1_, dd0_, p10_, p20_, p30_, wd0_, dd1_, p11_, p21_, p31_, wd1_, gg0_, q10_, q20_, wg0_, gg1_, q11_, q21_, wg1_, wwA, wwB, wff, mdA, mdB, e0f, rfl, ht, (by first | with_reducible assumption | omega | trivial | assumption), hz0_, (by first | with_reducible assumption | omega | trivial | assumption), hz1_, (by first | with_reducible assumption | omega | trivial | assumption), hd0_, hd1_, hg0_, hg1_, hwwA, hwwB, hwff, (by first | exact Or.inl ⟨rfl, rfl, rfl⟩ | exact Or.inr (Or.inl ⟨rfl, rfl, rfl⟩) | exact Or.inr (Or.inr ⟨rfl, rfl, rfl⟩)), (Or.inl ⟨by assumption, rfl, hT⟩)⟩)
set_option maxHeartbeats 4000000 in
set_option maxRecDepth 100000 in
/-- c_f_again2 -/
theorem c_f_again2 (l : Launch) (T : zTy) (xo : Nat) (t : Nat) (im : Nat) (mk : Nat) (rd : Nat) (po : Nat) (co : Nat) (tr : Nat) (wa : Nat) (wb_ : Nat) (fi : Nat) (cd : Nat) (l0 : Nat) (l1 : Nat) (d0 : Nat) (d1 : Nat) (g0 : Nat) (g1 : Nat) (ln : Int32) (fl : Int32) (pl : Int32) (ft : Nat → Int32) (fk : Nat → Int32) (wt : va_W) (cr0_ : Int32) (inn0_ : Int32) (k10_ : Nat → Int32) (k20_ : Nat → Int32) (k30_ : Nat → Int32) (k40_ : Nat → Int32) (z0_ : va_W) (cr1_ : Int32) (inn1_ : Int32) (k11_ : Nat → Int32) (k21_ : Nat → Int32) (k31_ : Nat → Int32) (k41_ : Nat → Int32) (z1_ : va_W) (dd0_ : Int32) (p10_ : Nat → Int32) (p20_ : Nat → Int32) (p30_ : Nat → Int32) (wd0_ : va_W) (dd1_ : Int32) (p11_ : Nat → Int32) (p21_ : Nat → Int32) (p31_ : Nat → Int32) (wd1_ : va_W) (gg0_ : Int32) (q10_ : Nat → Int32) (q20_ : Nat → Int32) (wg0_ : va_W) (gg1_ : Int32) (q11_ : Nat → Int32) (q21_ : Nat → Int32) (wg1_ : va_W) (m0 : Nat) (m1 : Nat) (m2 : Nat) (l0c : Nat) (l1c : Nat) (d0c : Nat) (d1c : Nat) (g0c : Nat) (g1c : Nat) (lnc : Int32) (flc : Int32) (plc : Int32) (ftc : Nat → Int32) (fkc : Nat → Int32) (wtc : va_W) (cr0_c : Int32) (inn0_c : Int32) (k10_c : Nat → Int32) (k20_c : Nat → Int32) (k30_c : Nat → Int32) (k40_c : Nat → Int32) (z0_c : va_W) (cr1_c : Int32) (inn1_c : Int32) (k11_c : Nat → Int32) (k21_c : Nat → Int32) (k31_c : Nat → Int32) (k41_c : Nat → Int32) (z1_c : va_W) (dd0_c : Int32) (p10_c : Nat → Int32) (p20_c : Nat → Int32) (p30_c : Nat → Int32) (wd0_c : va_W) (dd1_c : Int32) (p11_c : Nat → Int32) (p21_c : Nat → Int32) (p31_c : Nat → Int32) (wd1_c : va_W) (gg0_c : Int32) (q10_c : Nat → Int32) (q20_c : Nat → Int32) (wg0_c : va_W) (gg1_c : Int32) (q11_c : Nat → Int32) (q21_c : Nat → Int32) (wg1_c : va_W) (qi : Nat → Option Nat) (fmk : Nat → Int32) (laA : Nat) (mdA : Int32) (wyA : Int32) (pc_A : Int32) (f1A : Nat → Int32) (f2A : Nat → Int32) (f3A : Nat → Int32) (f4A : Nat → Int32) (f5A : Nat → Int32) (f6A : Nat → Int32) (n4A : Nat) (wwA : va_W) (laB : Nat) (mdB : Int32) (wyB : Int32) (pc_B : Int32) (f1B : Nat → Int32) (f2B : Nat → Int32) (f3B : Nat → Int32) (f4B : Nat → Int32) (f5B : Nat → Int32) (f6B : Nat → Int32) (n4B : Nat) (wwB : va_W) (e0f : Int32) (e1f : Int32) (e2f : Int32) (e3f : Int32) (e4f : Int32) (e5f : Int32) (r1f : Nat → Int32) (m1f : Nat) (r2f : Nat → Int32) (wff : va_W) (Gr : Nat → Int32) (Gw : Nat → Int32) (ht : bTold T t l0 l1 d0 d1 g0 g1 ln fl pl ft fk wt) (hK : zKT fk) (hz0_ : bLand T l0 cr0_ inn0_ k10_ k20_ k30_ k40_ z0_) (hI0_ : zLI cr0_ k10_ k30_) (hz1_ : bLand T l1 cr1_ inn1_ k11_ k21_ k31_ k41_ z1_) (hI1_ : zLI cr1_ k11_ k31_) (hd0_ : bDay T d0 dd0_ p10_ p20_ p30_ wd0_) (hd1_ : bDay T d1 dd1_ p11_ p21_ p31_ wd1_) (hg0_ : bLog T g0 gg0_ q10_ q20_ wg0_) (hg1_ : bLog T g1 gg1_ q11_ q21_ wg1_) (htc : bTold T m2 l0c l1c d0c d1c g0c g1c lnc flc plc ftc fkc wtc) (hKc : zKT fkc) (hz0_c : bLand T l0c cr0_c inn0_c k10_c k20_c k30_c k40_c z0_c) (hI0_c : zLI cr0_c k10_c k30_c) (hz1_c : bLand T l1c cr1_c inn1_c k11_c k21_c k31_c k41_c z1_c) (hI1_c : zLI cr1_c k11_c k31_c) (hd0_c : bDay T d0c dd0_c p10_c p20_c p30_c wd0_c) (hd1_c : bDay T d1c dd1_c p11_c p21_c p31_c wd1_c) (hg0_c : bLog T g0c gg0_c q10_c q20_c wg0_c) (hg1_c : bLog T g1c gg1_c q11_c q21_c wg1_c) (hm0 : qi 0 = some m0) (hm1 : qi 1 = some m1) (hm2 : qi 2 = some m2) (hwwA : bWays T wa laA mdA wyA pc_A f1A f2A f3A f4A f5A f6A n4A wwA) (hwwB : bWays T wb_ laB mdB wyB pc_B f1B f2B f3B f4B f5B f6B n4B wwB) (hwff : bFit T fi e0f e1f e2f e3f e4f e5f r1f m1f r2f wff) (hT : zTR ln fl pl ft fk cr0_ inn0_ k10_ k20_ k30_ k40_ cr1_ inn1_ k11_ k21_ k31_ k41_ dd0_ p10_ p20_ p30_ dd1_ p11_ p21_ p31_ gg0_ q10_ q20_ gg1_ q11_ q21_ Gr) (hTw : (¬ fmk 2 = 0 → zTR lnc flc plc ftc fkc cr0_c inn0_c k10_c k20_c k30_c k40_c cr1_c inn1_c k11_c k21_c k31_c k41_c dd0_c p10_c p20_c p30_c dd1_c p11_c p21_c p31_c gg0_c q10_c q20_c gg1_c q11_c q21_c Gw)) : zMi l T yX11_again cX11_again 2 (some .boolean) 3 0 0 [.ref xo, .int 2] [[zO10 xo t im mk rd po co tr wa wb_ fi cd], wt, z0_, z1_, wd0_, wd1_, wg0_, wg1_, wtc, z0_c, z1_c, wd0_c, wd1_c, wg0_c, wg1_c, [zArq T 6 im 3 qi], [zAr T 2 mk 3 fmk], wwA, wwB, wff] (fun (r : Int32) bs => ∃ (ln_2 : Int32) (fl_2 : Int32) (pl_2 : Int32) (ft_2 : Nat → Int32) (fk_2 : Nat → Int32) (wt_2 : va_W) (cr0__2 : Int32) (inn0__2 : Int32) (k10__2 : Nat → Int32) (k20__2 : Nat → Int32) (k30__2 : Nat → Int32) (k40__2 : Nat → Int32) (z0__2 : va_W) (cr1__2 : Int32) (inn1__2 : Int32) (k11__2 : Nat → Int32) (k21__2 : Nat → Int32) (k31__2 : Nat → Int32) (k41__2 : Nat → Int32) (z1__2 : va_W) (dd0__2 : Int32) (p10__2 : Nat → Int32) (p20__2 : Nat → Int32) (p30__2 : Nat → Int32) (wd0__2 : va_W) (dd1__2 : Int32) (p11__2 : Nat → Int32) (p21__2 : Nat → Int32) (p31__2 : Nat → Int32) (wd1__2 : va_W) (gg0__2 : Int32) (q10__2 : Nat → Int32) (q20__2 : Nat → Int32) (wg0__2 : va_W) (gg1__2 : Int32) (q11__2 : Nat → Int32) (q21__2 : Nat → Int32) (wg1__2 : va_W) (wwA_2 : va_W) (wwB_2 : va_W) (wff_2 : va_W) (mdA_2 : Int32) (mdB_2 : Int32) (e0f_2 : Int32), bs = [[zO10 xo t im mk rd po co tr wa wb_ fi cd], wt_2, z0__2, z1__2, wd0__2, wd1__2, wg0__2, wg1__2, wtc, z0_c, z1_c, wd0_c, wd1_c, wg0_c, wg1_c, [zArq T 6 im 3 qi], [zAr T 2 mk 3 fmk], wwA_2, wwB_2, wff_2] ∧ bTold T t l0 l1 d0 d1 g0 g1 ln_2 fl_2 pl_2 ft_2 fk_2 wt_2 ∧ zKT fk_2 ∧ bLand T l0 cr0__2 inn0__2 k10__2 k20__2 k30__2 k40__2 z0__2 ∧ zLI cr0__2 k10__2 k30__2 ∧ bLand T l1 cr1__2 inn1__2 k11__2 k21__2 k31__2 k41__2 z1__2 ∧ zLI cr1__2 k11__2 k31__2 ∧ bDay T d0 dd0__2 p10__2 p20__2 p30__2 wd0__2 ∧ bDay T d1 dd1__2 p11__2 p21__2 p31__2 wd1__2 ∧ bLog T g0 gg0__2 q10__2 q20__2 wg0__2 ∧ bLog T g1 gg1__2 q11__2 q21__2 wg1__2 ∧ bWays T wa laA mdA_2 wyA pc_A f1A f2A f3A f4A f5A f6A n4A wwA_2 ∧ bWays T wb_ laB mdB_2 wyB pc_B f1B f2B f3B f4B f5B f6B n4B wwB_2 ∧ bFit T fi e0f_2 e1f e2f e3f e4f e5f r1f m1f r2f wff_2 ∧ (mdA_2 = 0 ∧ mdB_2 = 0 ∧ e0f_2 = 0 ∨ mdA_2 = mdA ∧ mdB_2 = mdB ∧ e0f_2 = 0 ∨ mdA_2 = mdA ∧ mdB_2 = mdB ∧ e0f_2 = e0f) ∧ (fmk 2 = 0 ∧ r = 0 ∧ zTR ln_2 fl_2 pl_2 ft_2 fk_2 cr0__2 inn0__2 k10__2 k20__2 k30__2 k40__2 cr1__2 inn1__2 k11__2 k21__2 k31__2 k41__2 dd0__2 p10__2 p20__2 p30__2 dd1__2 p11__2 p21__2 p31__2 gg0__2 q10__2 q20__2 gg1__2 q11__2 q21__2 Gr ∨ ¬ fmk 2 = 0 ∧ r = 1 ∧ zTR ln_2 fl_2 pl_2 ft_2 fk_2 cr0__2 inn0__2 k10__2 k20__2 k30__2 k40__2 cr1__2 inn1__2 k11__2 k21__2 k31__2 k41__2 dd0__2 p10__2 p20__2 p30__2 dd1__2 p11__2 p21__2 p31__2 gg0__2 q10__2 q20__2 gg1__2 q11__2 q21__2 Gw)) := by
  refine zMi_of (own := RX11) (by decide) rfl (Nat.le_of_ble_eq_true rfl) ?_
  intro p e s m args below meth c A ls C hr hlocks hnm hAe G hl
  refine zHide (fun Q9 hQ9 => ?_)
  have hx := C.1
  have hb := C.2.1
  replace hTw : zHd ((¬ fmk 2 = 0 → zTR lnc flc plc ftc fkc cr0_c inn0_c k10_c k20_c k30_c k40_c cr1_c inn1_c k11_c k21_c k31_c k41_c dd0_c p10_c p20_c p30_c dd1_c p11_c p21_c p31_c gg0_c q10_c q20_c gg1_c q11_c q21_c Gw)) := hTw
  have hl : lv_has ls 2 [(0, .ref xo), (1, .int 2)] := hl
  refine lv_iload_n hx hb dX11_again_0 rfl (lv_at hl 1 rfl) ?_
  refine lv_if_lt (tgt := 18) hx hb dX11_again_1 (by decide) (fun q => absurd q (by decide)) (fun _ => ?_)
  refine lv_iload_n hx hb dX11_again_4 rfl (lv_at hl 1 rfl) ?_
  refine lv_iconst (v := 3) hx hb dX11_again_5 (by decide) ?_
  refine lv_icmp_ge (tgt := 18) hx hb dX11_again_6 (by decide) (fun q => absurd q (by decide)) (fun _ => ?_)
  refine lv_aload_n hx hb dX11_again_9 rfl (lv_at hl 0 rfl) ?_
  refine z_get C G clX11 0 rfl 2 (by decide) m_fl_RX11_20 rfl dX11_again_10 ?_
  refine lv_iload_n hx hb dX11_again_13 rfl (lv_at hl 1 rfl) ?_
  refine z_zld C G 16 rfl (vp_in_nI (n := 2) (by decide) (by decide)) dX11_again_14 ?_
  refine lv_topi (fun v_1 ev_1 => ?_)
  rw [show ((2 : Int32).toNatClampNeg) = 2 from rfl] at ev_1
  subst ev_1
  refine lv_if_ne (tgt := 20) hx hb dX11_again_15 (by decide) (fun c_2 => ?_) (fun c_2 => ?_)
  · have c_2n : ¬ (fmk 2).toInt = (0 : Int) := fun q => c_2 ((fa_eq _ _).mpr q)
    refine lv_aload_n hx hb dX11_again_20 rfl (lv_at hl 0 rfl) ?_
    refine z_get C G clX11 0 rfl 0 (by decide) m_fl_RX11_10 rfl dX11_again_21 ?_
    refine lv_aload_n hx hb dX11_again_24 rfl (lv_at hl 0 rfl) ?_
    refine z_get C G clX11 0 rfl 1 (by decide) m_fl_RX11_16 rfl dX11_again_25 ?_
    refine lv_iload_n hx hb dX11_again_28 rfl (lv_at hl 1 rfl) ?_
    refine z_ald C G 15 6 rfl rfl (vp_in_nI (n := 2) (by decide) (by decide)) dX11_again_29 ?_
    rw [show qi ((2 : Int32).toNatClampNeg) = some m2 from hm2]
    refine z_Vv (bc := [wt, z0_, z1_, wd0_, wd1_, wg0_, wg1_, wtc, z0_c, z1_c, wd0_c, wd1_c, wg0_c, wg1_c]) (br := [[zO10 xo t im mk rd po co tr wa wb_ fi cd], [zArq T 6 im 3 qi], [zAr T 2 mk 3 fmk], wwA, wwB, wff]) (As := [.ref m2]) (rest := []) C G (c_f_Told_takeAll l T t l0 l1 d0 d1 g0 g1 ln fl pl ft fk wt cr0_ inn0_ k10_ k20_ k30_ k40_ z0_ cr1_ inn1_ k11_ k21_ k31_ k41_ z1_ dd0_ p10_ p20_ p30_ wd0_ dd1_ p11_ p21_ p31_ wd1_ gg0_ q10_ q20_ wg0_ gg1_ q11_ q21_ wg1_ m2 l0c l1c d0c d1c g0c g1c lnc flc plc ftc fkc wtc cr0_c inn0_c k10_c k20_c k30_c k40_c z0_c cr1_c inn1_c k11_c k21_c k31_c k41_c z1_c dd0_c p10_c p20_c p30_c wd0_c dd1_c p11_c p21_c p31_c wd1_c gg0_c q10_c q20_c wg0_c gg1_c q11_c q21_c wg1_c Gw ht (by first | with_reducible assumption | with_reducible rfl | omega | assumption | rfl) hz0_ (by first | with_reducible assumption | with_reducible rfl | omega | assumption | rfl) hz1_ (by first | with_reducible assumption | with_reducible rfl | omega | assumption | rfl) hd0_ hd1_ hg0_ hg1_ htc (by first | with_reducible assumption | with_reducible rfl | omega | assumption | rfl) hz0_c (by first | with_reducible assumption | with_reducible rfl | omega | assumption | rfl) hz1_c (by first | with_reducible assumption | with_reducible rfl | omega | assumption | rfl) hd0_c hd1_c hg0_c hg1_c (hTw (by assumption))) (kV_RX11_117 C.2.2.2.2 (Nat.le_of_ble_eq_true rfl) (Nat.le_of_ble_eq_true rfl)) [1, 2, 3, 4, 5, 6, 7, 8, 9, 10, 11, 12, 13, 14] [1, 0, 0, 0, 0, 0, 0, 0, 0, 0, 0, 0, 0, 0] rfl rfl (ci := 8) (qc := (RX9, TX9, 8)) rfl rfl (List.mem_flatten.mpr ⟨_, List.mem_of_getElem? (i := 0) rfl, (bTold_mem ht).choose_spec⟩) rfl rfl hl.1 dX11_again_30 (Nat.le_of_ble_eq_true rfl) (Nat.le_of_ble_eq_true rfl) (fun b1 H locs hw G => ?_)
    refine zEx27 hw ?_
    intro wt2_3 g9_4 fk2_5 w2_6 s0_7 s0_8 s0_9 s0_10 w2_11 s1_12 s1_13 s1_14 s1_15 w2_16 s2_17 s2_18 s2_19 w2_20 s3_21 s3_22 s3_23 w2_24 s4_25 s4_26 w2_27 s5_28 s5_29
    refine zCu12 ?_
    intro hbs9 h_30 h_31 h_32 h_33 h_34 h_35 h_36 h_37 h_38 h_39 h_40
    clear hw
    subst hbs9
    have G : zS T A s.heap s [[zO10 xo t im mk rd po co tr wa wb_ fi cd], [zArq T 6 im 3 qi], [zAr T 2 mk 3 fmk], wwA, wwB, wff, wt2_3, w2_6, w2_11, w2_16, w2_20, w2_24, w2_27, wtc, z0_c, z1_c, wd0_c, wd1_c, wg0_c, wg1_c] _ _ := G
    refine lv_aload_n hx hb dX11_again_33 rfl (lv_at hl 0 rfl) ?_
    refine lv_iconst (v := 1) hx hb dX11_again_34 (by decide) ?_
    refine z_Vv (bc := [[zO10 xo t im mk rd po co tr wa wb_ fi cd], wwA, wwB, wff]) (br := [[zArq T 6 im 3 qi], [zAr T 2 mk 3 fmk], wt2_3, w2_6, w2_11, w2_16, w2_20, w2_24, w2_27, wtc, z0_c, z1_c, wd0_c, wd1_c, wg0_c, wg1_c]) (As := [.int 1]) (rest := []) C G (c_forget1 l T xo t im mk rd po co tr wa wb_ fi cd laA mdA wyA pc_A f1A f2A f3A f4A f5A f6A n4A wwA laB mdB wyB pc_B f1B f2B f3B f4B f5B f6B n4B wwB e0f e1f e2f e3f e4f e5f r1f m1f r2f wff hwwA hwwB hwff) (kV_RX11_105 C.2.2.2.2 (Nat.le_of_ble_eq_true rfl) (Nat.le_of_ble_eq_true rfl)) [0, 3, 4, 5] [0, 2, 0, 0] rfl rfl (ci := 10) (qc := (RX11, TX11, 11)) rfl rfl (List.mem_flatten.mpr ⟨_, List.mem_of_getElem? (i := 0) rfl, List.mem_cons_self⟩) rfl rfl hl.1 dX11_again_35 (Nat.le_of_ble_eq_true rfl) (Nat.le_of_ble_eq_true rfl) (fun b1 H locs hw G => ?_)
    refine zEx3 hw ?_
    intro wwA_42 wwB_43 wff_44
    refine zCu4 ?_
    intro hbs9 h_45 h_46 h_47
    clear hw
    subst hbs9
    have G : zS T A s.heap s [[zArq T 6 im 3 qi], [zAr T 2 mk 3 fmk], wt2_3, w2_6, w2_11, w2_16, w2_20, w2_24, w2_27, wtc, z0_c, z1_c, wd0_c, wd1_c, wg0_c, wg1_c, [zO10 xo t im mk rd po co tr wa wb_ fi cd], wwA_42, wwB_43, wff_44] _ _ := G
    refine lv_iconst (v := 1) hx hb dX11_again_38 (by decide) ?_
    have G := G.sub (bs' := [[zO10 xo t im mk rd po co tr wa wb_ fi cd], wt2_3, w2_6, w2_11, w2_16, w2_20, w2_24, w2_27, wtc, z0_c, z1_c, wd0_c, wd1_c, wg0_c, wg1_c, [zArq T 6 im 3 qi], [zAr T 2 mk 3 fmk], wwA_42, wwB_43, wff_44]) [16, 2, 3, 4, 5, 6, 7, 8, 9, 10, 11, 12, 13, 14, 15, 0, 1, 17, 18, 19] rfl
    exact z_back hQ9 (z_zret C hr hlocks G (Nat.le_of_ble_eq_true rfl) (Nat.le_of_ble_eq_true rfl) dX11_again_39 rfl ⟨lnc, flc, plc, g9_4, fk2_5, wt2_3, cr0_c, inn0_c, s0_7, s0_8, s0_9, s0_10, w2_6, cr1_c, inn1_c, s1_12, s1_13, s1_14, s1_15, w2_11, dd0_c, s2_17, s2_18, s2_19, w2_16, dd1_c, s3_21, s3_22, s3_23, w2_20, gg0_c, s4_25, s4_26, w2_24, gg1_c, s5_28, s5_29, w2_27, wwA_42, wwB_43, wff_44, 0, 0, 0, rfl, h_30, (by first | with_reducible assumption | omega | trivial | assumption), h_32, (by first | with_reducible assumption | omega | trivial | assumption), h_33, (by first | with_reducible assumption | omega | trivial | assumption), h_34, h_35, h_36, h_37, h_45, h_46, h_47, (by first | exact Or.inl ⟨rfl, rfl, rfl⟩ | exact Or.inr (Or.inl ⟨rfl, rfl, rfl⟩) | exact Or.inr (Or.inr ⟨rfl, rfl, rfl⟩)), (Or.inr ⟨by assumption, rfl, h_40⟩)⟩)
  · have c_2n : (fmk 2).toInt = (0 : Int) := (fa_eq _ _).mp c_2
    refine lv_iconst (v := 0) hx hb dX11_again_18 (by decide) ?_
    exact z_back hQ9 (z_zret C hr hlocks G (Nat.le_of_ble_eq_true rfl) (Nat.le_of_ble_eq_true rfl) dX11_again_19 rfl ⟨ln, fl, pl, ft, fk, wt, cr0_, inn0_, k10_, k20_, k30_, k40_, z0_, cr1_, inn1_, k11_, k21_, k31_, k41_, z1_, dd0_, p10_, p20_, p30_, wd0_, dd1_, p11_, p21_, p31_, wd1_, gg0_, q10_, q20_, wg0_, gg1_, q11_, q21_, wg1_, wwA, wwB, wff, mdA, mdB, e0f, rfl, ht, (by first | with_reducible assumption | omega | trivial | assumption), hz0_, (by first | with_reducible assumption | omega | trivial | assumption), hz1_, (by first | with_reducible assumption | omega | trivial | assumption), hd0_, hd1_, hg0_, hg1_, hwwA, hwwB, hwff, (by first | exact Or.inl ⟨rfl, rfl, rfl⟩ | exact Or.inr (Or.inl ⟨rfl, rfl, rfl⟩) | exact Or.inr (Or.inr ⟨rfl, rfl, rfl⟩)), (Or.inl ⟨by assumption, rfl, hT⟩)⟩)
theorem zB01 (x : Int32) : x &&& 1 = 0 ∨ x &&& 1 = 1 := by
  obtain ⟨j, hj, e⟩ := pk_andE x (m := 1) 1 (by decide)
  rw [e]
  rcases (show j = 0 ∨ j = 1 by omega) with q | q
  · rw [q]; exact Or.inl rfl
  · rw [q]; exact Or.inr rfl
theorem zBit_n {x y : Int32} (h : ¬ zBit x y = 1) : zBit x y = 0 := (zB01 (x >>> (y &&& 31))).resolve_right h
theorem zBit_p {x y : Int32} (h : ¬ zBit x y = 0) : zBit x y = 1 := (zB01 (x >>> (y &&& 31))).resolve_left h
theorem zBit_o {x y : Int32} (h : zBit x y = 1) : ¬ zBit x y = 0 := fun q => absurd (q.symm.trans h) (by decide)
theorem zRm2 {x n : Int32} (h0 : 0 ≤ x.toInt) (h1 : 0 < n.toInt) (h4 : n.toInt ≤ 4) (h2 : x.toInt < 2 * n.toInt) : x.toInt < n.toInt ∧ (x - x / n * n).toInt = x.toInt ∨ n.toInt ≤ x.toInt ∧ (x - x / n * n).toInt = x.toInt - n.toInt := by
  rw [rem_toInt, Int.tmod_eq_emod_of_nonneg h0]
  rcases (show n.toInt = 1 ∨ n.toInt = 2 ∨ n.toInt = 3 ∨ n.toInt = 4 by omega) with q | q | q | q <;> rw [q] <;> omega
def zRo (f : Nat → Int32) (z : Int32) (j : Nat) : Int32 := f (z.toInt.toNat + (2 + j))
def zLo (f : Nat → Int32) (z : Int32) (i : Nat) : Int32 := f (z.toInt.toNat + (23 + i))
def zPo (f : Nat → Int32) (z : Int32) (j : Nat) : Int32 := f (z.toInt.toNat + (9 + j))
/-- ways out: none of an inn -/
def zWo (f : Nat → Int32) (z inns : Int32) (j : Nat) : Int32 := if zBit inns (nI j) = 1 then 0 else zRo f z j
/-- each post points to a road that is there, or to the first one -/
def zMV (R P : Nat → Int32) : Prop := ∀ c, c < 7 → (R c).toInt ≤ 0 ∨ (P c).toInt = 0 ∨ (P c).toInt < (R c).toInt
theorem zMV_upd {R P : Nat → Int32} {k : Nat} {v : Int32} (h : zMV R P) (hv : v.toInt < (R k).toInt) : zMV R (upd P k v) := by
  intro c hc
  unfold upd
  split
  · rename_i e
    rw [e]
    exact Or.inr (Or.inr hv)
  · exact h c hc
theorem zNext_m {R q k : Int32} {p i : Int} (hr : R.toInt ≤ 4) (hp : 0 ≤ p) (hpr : p < R.toInt) (hi : 1 ≤ i ∧ i ≤ R.toInt) (hq : q.toInt = p + i - 1 ∧ q.toInt < R.toInt ∨ q.toInt = p + i - 1 - R.toInt ∧ 0 ≤ q.toInt) (hk : p + i < R.toInt ∧ k.toInt = p + i ∨ R.toInt ≤ p + i ∧ k.toInt = p + i - R.toInt) : zNext R q = k := by
  have e : (q + 1).toInt = q.toInt + 1 := z_iaddI (by show -2147483648 ≤ q.toInt + 1; omega) (by show q.toInt + 1 < 2147483648; omega)
  unfold zNext
  by_cases hc : q + 1 < R
  · rw [if_pos hc]
    have hc2 := (fa_lt _ _).mp hc
    exact Int32.toInt_inj.mp (by omega)
  · rw [if_neg hc]
    have hc2 : ¬ (q + 1).toInt < R.toInt := fun z => hc ((fa_lt _ _).mpr z)
    exact Int32.toInt_inj.mp (by show (0 : Int) = k.toInt; omega)
theorem zTurnR_lt {roads closed : Int32} (h4 : roads.toInt ≤ 4) : ∀ (n : Nat) (r : Int32), (n : Int) ≤ roads.toInt → 0 ≤ r.toInt → r.toInt ≤ 1000 → zTurnR roads closed n r = -1 ∨ 0 ≤ (zTurnR roads closed n r).toInt ∧ (zTurnR roads closed n r).toInt < roads.toInt
  | 0, r, _, _, _ => Or.inl rfl
  | n + 1, r, hn, h1, h2 => by
    have e : (r + 1).toInt = r.toInt + 1 := z_iaddI (by show -2147483648 ≤ r.toInt + 1; omega) (by show r.toInt + 1 < 2147483648; omega)
    have hq : 0 ≤ (zNext roads r).toInt ∧ (zNext roads r).toInt < roads.toInt := by
      unfold zNext
      by_cases hc : r + 1 < roads
      · rw [if_pos hc]
        have hc2 := (fa_lt _ _).mp hc
        omega
      · rw [if_neg hc]
        exact ⟨by decide, by show (0 : Int) < roads.toInt; omega⟩
    rw [zTurnR]
    by_cases hb : zBit closed (zNext roads r) = 0
    · rw [if_pos hb]
      exact Or.inr hq
    · rw [if_neg hb]
      exact zTurnR_lt h4 n _ (by omega) hq.1 (by omega)
theorem zTurn_lt {f1 f2 f3 : Nat → Int32} (hI : zP3 f1 f3) (x : Int32) : zTurn f1 f2 f3 x = -1 ∨ 0 ≤ x.toInt ∧ x.toInt < 7 ∧ 0 ≤ (zTurn f1 f2 f3 x).toInt ∧ (zTurn f1 f2 f3 x).toInt < (f3 x.toNatClampNeg).toInt := by
  unfold zTurn
  split
  · rename_i q
    have e := z_clI q.1
    have h := hI x.toNatClampNeg (by omega)
    have e2 := z_clI h.1.1
    rcases zTurnR_lt (closed := f2 x.toNatClampNeg) h.1.2 (f3 x.toNatClampNeg).toNatClampNeg (f1 x.toNatClampNeg) (by omega) h.2.1 h.2.2 with g | g
    · exact Or.inl g
    · exact Or.inr ⟨q.1, q.2, g.1, g.2⟩
  · exact Or.inl rfl
theorem zTurn_cg {f1 f2 f3 g1 g2 g3 : Nat → Int32} (h1 : ∀ j, j < 7 → f1 j = g1 j) (h2 : ∀ j, j < 7 → f2 j = g2 j) (h3 : ∀ j, j < 7 → f3 j = g3 j) (x : Int32) : zTurn f1 f2 f3 x = zTurn g1 g2 g3 x := by
  unfold zTurn
  by_cases q : 0 ≤ x.toInt ∧ x.toInt < 7
  · have e := z_clI q.1
    rw [if_pos q, if_pos q, h1 _ (by omega), h2 _ (by omega), h3 _ (by omega)]
  · rw [if_neg q, if_neg q]
theorem zPost_cg {f1 f2 f3 g1 g2 g3 : Nat → Int32} (h1 : ∀ j, j < 7 → f1 j = g1 j) (h2 : ∀ j, j < 7 → f2 j = g2 j) (h3 : ∀ j, j < 7 → f3 j = g3 j) (x : Int32) : ∀ j, j < 7 → zPost f1 f2 f3 x j = zPost g1 g2 g3 x j := by
  intro j hj
  unfold zPost
  rw [zTurn_cg h1 h2 h3 x]
  by_cases q : zTurn g1 g2 g3 x = -1
  · rw [if_pos q, if_pos q]
    exact h1 j hj
  · rw [if_neg q, if_neg q]
    unfold upd
    split
    · rfl
    · exact h1 j hj
/-- the roads of two rows lead to the same -/
def zLs (f3 lf lg : Nat → Int32) : Prop := ∀ j r : Nat, j < 7 → r < 4 → (r : Int) < (f3 j).toInt → lf (4 * j + r) = lg (4 * j + r)
theorem zStep_cg {f1 f2 f3 g1 g2 g3 lf lg : Nat → Int32} (hI : zP3 f1 f3) (h1 : ∀ j, j < 7 → f1 j = g1 j) (h2 : ∀ j, j < 7 → f2 j = g2 j) (h3 : ∀ j, j < 7 → f3 j = g3 j) (hl : zLs f3 lf lg) (x : Int32) : zStep f1 f2 f3 lf x = zStep g1 g2 g3 lg x := by
  unfold zStep
  rw [← zTurn_cg h1 h2 h3 x]
  by_cases q : zTurn f1 f2 f3 x = -1
  · rw [if_pos q, if_pos q]
  · rw [if_neg q, if_neg q]
    have g := (zTurn_lt (f2 := f2) hI x).resolve_left q
    have e := z_clI g.1
    have e2 := z_clI g.2.2.1
    have e3 := (hI x.toNatClampNeg (by omega)).1.2
    exact hl _ _ (by omega) (by omega) (by omega)
theorem zRunN_cg {f2 f3 g2 g3 lf lg : Nat → Int32} (h2 : ∀ j, j < 7 → f2 j = g2 j) (h3 : ∀ j, j < 7 → f3 j = g3 j) (hl : zLs f3 lf lg) : ∀ (n : Nat) (f1 g1 : Nat → Int32) (x : Int32) (k : Nat), zP3 f1 f3 → (∀ j, j < 7 → f1 j = g1 j) → (∀ j, j < 7 → (zRunN f2 f3 lf n f1 x k).1 j = (zRunN g2 g3 lg n g1 x k).1 j) ∧ (zRunN f2 f3 lf n f1 x k).2 = (zRunN g2 g3 lg n g1 x k).2
  | 0, f1, g1, x, k, _, h1 => ⟨h1, rfl⟩
  | n + 1, f1, g1, x, k, hI, h1 => by
    have e := zStep_cg hI h1 h2 h3 hl x
    have p := zPost_cg h1 h2 h3 x
    unfold zRunN
    rw [← e]
    by_cases q : zStep f1 f2 f3 lf x = -1
    · rw [if_pos q, if_pos q]
      exact ⟨p, rfl⟩
    · rw [if_neg q, if_neg q]
      exact zRunN_cg h2 h3 hl n _ _ _ _ (zPost_I hI x) p
/-- how often he was at each -/
def zVi (w : Nat → Int32) (t : Int32) : Nat → Int32 := if 0 ≤ t.toInt ∧ t.toInt < 7 then upd w t.toNatClampNeg (w t.toNatClampNeg + 1) else w
def zWasN (f2 f3 lf : Nat → Int32) : Nat → (Nat → Int32) → Int32 → (Nat → Int32) → Nat → Int32
  | 0, _, _, w => w
  | n + 1, f, x, w => if zStep f f2 f3 lf x = -1 then w else zWasN f2 f3 lf n (zPost f f2 f3 x) (zStep f f2 f3 lf x) (zVi w (zStep f f2 f3 lf x))
theorem zTurn_wo {P S f : Nat → Int32} {z n x : Int32} (h : ¬ zBit n x = 1) (h0 : 0 ≤ x.toInt) (h6 : x.toInt ≤ 6) : zTurn P S (zWo f z n) x = zTurn P S (zRo f z) x := by
  have e := z_clI h0
  have e2 : x = nI x.toNatClampNeg := z_nI (by omega) (by omega)
  have e3 : zWo f z n x.toNatClampNeg = zRo f z x.toNatClampNeg := if_neg (by rw [← e2]; exact h)
  unfold zTurn
  rw [e3]
theorem zTurn_inn {P S f : Nat → Int32} {z n x : Int32} (h : zBit n x = 1) (h0 : 0 ≤ x.toInt) (h6 : x.toInt ≤ 6) : zTurn P S (zWo f z n) x = -1 := by
  have e := z_clI h0
  have e2 : x = nI x.toNatClampNeg := z_nI (by omega) (by omega)
  have e3 : zWo f z n x.toNatClampNeg = 0 := if_pos (by rw [← e2]; exact h)
  unfold zTurn
  rw [e3]
  split
  · rfl
  · rfl
theorem zPost_wo {P S f : Nat → Int32} {z n x : Int32} (h : ¬ zBit n x = 1) (h0 : 0 ≤ x.toInt) (h6 : x.toInt ≤ 6) : zPost P S (zWo f z n) x = zPost P S (zRo f z) x := by
  unfold zPost
  rw [zTurn_wo h h0 h6]
set_option maxHeartbeats 4000000 in
set_option maxRecDepth 100000 in
/-- c_fm_turns -/
theorem c_fm_turns (l : Launch) (T : zTy) (mo : Nat) (m_all : Nat) (m_has : Nat) (i_size : Int32) (i_next : Int32) (i_where : Int32) (i_token : Int32) (i_number : Int32) (i_word : Int32) (i_wrong : Int32) (i_farCrossing : Int32) (m_read : Nat) (i_z0 : Int32) (i_crossings : Int32) (i_inns : Int32) (m_posts : Nat) (m_shut : Nat) (m_here : Nat) (i_steps : Int32) (i_done : Int32) (i_at : Int32) (i_gone : Int32) (m_was : Nat) (m_came : Nat) (m_seenAt : Nat) (m_rowWorth : Nat) (m_farBy : Nat) (m_used : Nat) (i_everywhere : Int32) (i_again0 : Int32) (i_d0 : Int32) (i_never : Int32) (i_firstCame : Int32) (i_longRun : Int32) (i_moved : Int32) (i_crowd : Int32) (i_l0 : Int32) (i_fitMany : Int32) (i_fitLeast : Int32) (i_fitMost : Int32) (m_fitPost : Nat) (m_fitEnd : Nat) (m_keptPosts : Nat) (i_x0 : Int32) (f_all : Nat → Int32) (f_posts : Nat → Int32) (f_shut : Nat → Int32) (c_ : Int32) (hL : zML f_all i_z0 i_crossings) (hc0 : 0 ≤ c_.toInt) (hc6 : c_.toInt ≤ 6) (hV : zMV (zRo f_all i_z0) f_posts) (hP : zMP f_posts) : zMi l T yX12_turns cX12_turns 5 (some .boolean) 2 0 0 [.ref mo, .int c_] [[zO11 mo m_all m_has i_size i_next i_where i_token i_number i_word i_wrong i_farCrossing m_read i_z0 i_crossings i_inns m_posts m_shut m_here i_steps i_done i_at i_gone m_was m_came m_seenAt m_rowWorth m_farBy m_used i_everywhere i_again0 i_d0 i_never i_firstCame i_longRun i_moved i_crowd i_l0 i_fitMany i_fitLeast i_fitMost m_fitPost m_fitEnd m_keptPosts i_x0], [zAr T 0 m_all 3952 f_all], [zAr T 0 m_posts 7 f_posts], [zAr T 0 m_shut 7 f_shut]] (fun (r : Int32) bs => ∃ (g_posts : Nat → Int32), bs = [[zO11 mo m_all m_has i_size i_next i_where i_token i_number i_word i_wrong i_farCrossing m_read i_z0 i_crossings i_inns m_posts m_shut m_here i_steps i_done i_at i_gone m_was m_came m_seenAt m_rowWorth m_farBy m_used i_everywhere i_again0 i_d0 i_never i_firstCame i_longRun i_moved i_crowd i_l0 i_fitMany i_fitLeast i_fitMost m_fitPost m_fitEnd m_keptPosts i_x0], [zAr T 0 m_all 3952 f_all], [zAr T 0 m_posts 7 g_posts], [zAr T 0 m_shut 7 f_shut]] ∧ zMP g_posts ∧ zMV (zRo f_all i_z0) g_posts ∧ g_posts = zPost f_posts f_shut (zRo f_all i_z0) c_ ∧ ((r = 1 ∧ ¬ zTurn f_posts f_shut (zRo f_all i_z0) c_ = -1 ∧ 0 < (zRd f_all i_z0 c_).toInt) ∨ (r = 0 ∧ zTurn f_posts f_shut (zRo f_all i_z0) c_ = -1))) := by
  refine zMi_of (own := RX12) (by decide) rfl (Nat.le_of_ble_eq_true rfl) ?_
  intro p e s m args below meth c A ls C hr hlocks hnm hAe G hl
  refine zHide (fun Q9 hQ9 => ?_)
  have hx := C.1
  have hb := C.2.1
  have hl : lv_has ls 5 [(0, .ref mo), (1, .int c_)] := hl
  have hz := hL.1
  have hcr := hL.cr
  have hcl := z_clI (x := c_) (by omega)
  have hpc := hP c_.toNatClampNeg (by omega)
  refine lv_aload_n hx hb dX12_turns_0 rfl (lv_at hl 0 rfl) ?_
  refine lv_iload_n hx hb dX12_turns_1 rfl (lv_at hl 1 rfl) ?_
  refine z_Vi (bc := [[zO11 mo m_all m_has i_size i_next i_where i_token i_number i_word i_wrong i_farCrossing m_read i_z0 i_crossings i_inns m_posts m_shut m_here i_steps i_done i_at i_gone m_was m_came m_seenAt m_rowWorth m_farBy m_used i_everywhere i_again0 i_d0 i_never i_firstCame i_longRun i_moved i_crowd i_l0 i_fitMany i_fitLeast i_fitMost m_fitPost m_fitEnd m_keptPosts i_x0], [zAr T 0 m_all 3952 f_all]]) (br := [[zAr T 0 m_posts 7 f_posts], [zAr T 0 m_shut 7 f_shut]]) (As := [.int c_]) (rest := []) C G (c_m_roadsOf l T mo m_all m_has i_size i_next i_where i_token i_number i_word i_wrong i_farCrossing m_read i_z0 i_crossings i_inns m_posts m_shut m_here i_steps i_done i_at i_gone m_was m_came m_seenAt m_rowWorth m_farBy m_used i_everywhere i_again0 i_d0 i_never i_firstCame i_longRun i_moved i_crowd i_l0 i_fitMany i_fitLeast i_fitMost m_fitPost m_fitEnd m_keptPosts i_x0 f_all c_ (by first | with_reducible assumption | with_reducible rfl | omega | assumption | rfl) (by first | with_reducible assumption | with_reducible rfl | omega | assumption | rfl) (by first | with_reducible assumption | with_reducible rfl | omega | assumption | rfl)) (kV_RX12_181 C.2.2.2.2 (Nat.le_of_ble_eq_true rfl) (Nat.le_of_ble_eq_true rfl)) [0, 1] [0, 0] rfl rfl (ci := 11) (qc := (RX12, TX12, 43)) rfl rfl (List.mem_flatten.mpr ⟨_, List.mem_of_getElem? (i := 0) rfl, List.mem_cons_self⟩) rfl rfl hl.1 dX12_turns_2 (Nat.le_of_ble_eq_true rfl) (Nat.le_of_ble_eq_true rfl) (fun r_4 b1 H locs hw G => ?_)
  refine zAn4 hw ?_
  intro hbs9 h_1 h_2 h_3
  clear hw
  subst hbs9
  have G : zS T A s.heap s [[zAr T 0 m_posts 7 f_posts], [zAr T 0 m_shut 7 f_shut], [zO11 mo m_all m_has i_size i_next i_where i_token i_number i_word i_wrong i_farCrossing m_read i_z0 i_crossings i_inns m_posts m_shut m_here i_steps i_done i_at i_gone m_was m_came m_seenAt m_rowWorth m_farBy m_used i_everywhere i_again0 i_d0 i_never i_firstCame i_longRun i_moved i_crowd i_l0 i_fitMany i_fitLeast i_fitMost m_fitPost m_fitEnd m_keptPosts i_x0], [zAr T 0 m_all 3952 f_all]] _ _ := G
  subst h_1
  refine lv_istore_n (lv' := [(2, .int (zRd f_all i_z0 c_)), (0, .ref mo), (1, .int c_)]) hx hb dX12_turns_5 rfl hl (by decide) (zLvf_h rfl) (fun ls hl => ?_)
  obtain ⟨n0, hn0⟩ : ∃ n0, n0 = (zRd f_all i_z0 c_).toNatClampNeg := ⟨_, rfl⟩
  have hcn := z_clI (x := zRd f_all i_z0 c_) (by omega)
  have hn4 : (n0 : Int) = (zRd f_all i_z0 c_).toInt := by rw [hn0]; exact hcn
  have hT : zTurn f_posts f_shut (zRo f_all i_z0) c_ = zTurnR (zRd f_all i_z0 c_) (f_shut c_.toNatClampNeg) (n0 + 1 - 1) (f_posts c_.toNatClampNeg) := by unfold zTurn; rw [if_pos ⟨by omega, by omega⟩, hn0]; rfl
  have hVc : (zRd f_all i_z0 c_).toInt ≤ 0 ∨ (f_posts c_.toNatClampNeg).toInt = 0 ∨ (f_posts c_.toNatClampNeg).toInt < (zRd f_all i_z0 c_).toInt := hV c_.toNatClampNeg (by omega)
  refine lv_iconst (v := 1) hx hb dX12_turns_6 (by decide) ?_
  refine lv_istore_n (lv' := [(3, .int 1), (2, .int (zRd f_all i_z0 c_)), (0, .ref mo), (1, .int c_)]) hx hb dX12_turns_7 rfl hl (by decide) (zLvf_h rfl) (fun ls hl => ?_)
  refine z_lp2 (T := T) 8 (fun (i : Nat) (q9 : Int32) => [[zAr T 0 m_posts 7 f_posts], [zAr T 0 m_shut 7 f_shut], [zO11 mo m_all m_has i_size i_next i_where i_token i_number i_word i_wrong i_farCrossing m_read i_z0 i_crossings i_inns m_posts m_shut m_here i_steps i_done i_at i_gone m_was m_came m_seenAt m_rowWorth m_farBy m_used i_everywhere i_again0 i_d0 i_never i_firstCame i_longRun i_moved i_crowd i_l0 i_fitMany i_fitLeast i_fitMost m_fitPost m_fitEnd m_keptPosts i_x0], [zAr T 0 m_all 3952 f_all]]) (fun (i : Nat) (q9 : Int32) => [(3, .int (nI i)), (2, .int (zRd f_all i_z0 c_)), (0, .ref mo), (1, .int c_)]) (fun (i : Nat) (q9 : Int32) => 1 ≤ i ∧ (i : Int) ≤ (zRd f_all i_z0 c_).toInt + 1 ∧ zTurn f_posts f_shut (zRo f_all i_z0) c_ = zTurnR (zRd f_all i_z0 c_) (f_shut c_.toNatClampNeg) (n0 + 1 - i) q9 ∧ ((zRd f_all i_z0 c_).toInt ≤ 0 ∨ q9.toInt = (f_posts c_.toNatClampNeg).toInt + (i : Int) - 1 ∧ q9.toInt < (zRd f_all i_z0 c_).toInt ∨ q9.toInt = (f_posts c_.toNatClampNeg).toInt + (i : Int) - 1 - (zRd f_all i_z0 c_).toInt ∧ 0 ≤ q9.toInt)) (fun (i : Nat) (q9 : Int32) => 6 - i) ?_ 1 (f_posts c_.toNatClampNeg) (show 1 ≤ 1 ∧ (1 : Int) ≤ (zRd f_all i_z0 c_).toInt + 1 ∧ zTurn f_posts f_shut (zRo f_all i_z0) c_ = zTurnR (zRd f_all i_z0 c_) (f_shut c_.toNatClampNeg) (n0 + 1 - 1) (f_posts c_.toNatClampNeg) ∧ ((zRd f_all i_z0 c_).toInt ≤ 0 ∨ (f_posts c_.toNatClampNeg).toInt = (f_posts c_.toNatClampNeg).toInt + (1 : Int) - 1 ∧ (f_posts c_.toNatClampNeg).toInt < (zRd f_all i_z0 c_).toInt ∨ (f_posts c_.toNatClampNeg).toInt = (f_posts c_.toNatClampNeg).toInt + (1 : Int) - 1 - (zRd f_all i_z0 c_).toInt ∧ 0 ≤ (f_posts c_.toNatClampNeg).toInt) from ⟨by omega, by omega, hT, by omega⟩) G (lv_sub hl [0, 1, 2, 3] rfl)
  intro i q9 hI9 ih_8 H locs ls G hl
  replace hI9 : 1 ≤ i ∧ (i : Int) ≤ (zRd f_all i_z0 c_).toInt + 1 ∧ zTurn f_posts f_shut (zRo f_all i_z0) c_ = zTurnR (zRd f_all i_z0 c_) (f_shut c_.toNatClampNeg) (n0 + 1 - i) q9 ∧ ((zRd f_all i_z0 c_).toInt ≤ 0 ∨ q9.toInt = (f_posts c_.toNatClampNeg).toInt + (i : Int) - 1 ∧ q9.toInt < (zRd f_all i_z0 c_).toInt ∨ q9.toInt = (f_posts c_.toNatClampNeg).toInt + (i : Int) - 1 - (zRd f_all i_z0 c_).toInt ∧ 0 ≤ q9.toInt) := hI9
  refine zAn4 hI9 ?_
  intro hi hi5 hq hq3
  clear hI9
  replace G : zS T A s.heap s [[zAr T 0 m_posts 7 f_posts], [zAr T 0 m_shut 7 f_shut], [zO11 mo m_all m_has i_size i_next i_where i_token i_number i_word i_wrong i_farCrossing m_read i_z0 i_crossings i_inns m_posts m_shut m_here i_steps i_done i_at i_gone m_was m_came m_seenAt m_rowWorth m_farBy m_used i_everywhere i_again0 i_d0 i_never i_firstCame i_longRun i_moved i_crowd i_l0 i_fitMany i_fitLeast i_fitMost m_fitPost m_fitEnd m_keptPosts i_x0], [zAr T 0 m_all 3952 f_all]] _ _ := G
  replace hl : lv_has ls 5 [(3, .int (nI i)), (2, .int (zRd f_all i_z0 c_)), (0, .ref mo), (1, .int c_)] := hl
  refine lv_iload_n hx hb dX12_turns_8 rfl (lv_at hl 0 rfl) ?_
  refine lv_iload_n hx hb dX12_turns_9 rfl (lv_at hl 1 rfl) ?_
  refine lv_icmp_gt (tgt := 59) hx hb dX12_turns_10 (by decide) (fun c_5 => ?_) (fun c_5 => ?_)
  · have c_5n : (zRd f_all i_z0 c_).toInt < (i : Int) := by have q := (fa_lt _ _).mp c_5; rw [nI_toInt (n := i) (by omega)] at q; exact q
    have hz : zTurn f_posts f_shut (zRo f_all i_z0) c_ = -1 := by rw [hq, show n0 + 1 - i = 0 by omega]; rfl
    refine lv_iconst (v := 0) hx hb dX12_turns_59 (by decide) ?_
    have G := G.sub (bs' := [[zO11 mo m_all m_has i_size i_next i_where i_token i_number i_word i_wrong i_farCrossing m_read i_z0 i_crossings i_inns m_posts m_shut m_here i_steps i_done i_at i_gone m_was m_came m_seenAt m_rowWorth m_farBy m_used i_everywhere i_again0 i_d0 i_never i_firstCame i_longRun i_moved i_crowd i_l0 i_fitMany i_fitLeast i_fitMost m_fitPost m_fitEnd m_keptPosts i_x0], [zAr T 0 m_all 3952 f_all], [zAr T 0 m_posts 7 f_posts], [zAr T 0 m_shut 7 f_shut]]) [2, 3, 0, 1] rfl
    exact z_back hQ9 (z_zret C hr hlocks G (Nat.le_of_ble_eq_true rfl) (Nat.le_of_ble_eq_true rfl) dX12_turns_60 rfl ⟨f_posts, rfl, (by first | with_reducible assumption | omega | trivial | assumption), (by first | with_reducible assumption | omega | trivial | assumption), (by unfold zPost; rw [if_pos hz]), (Or.inr (⟨rfl, hz⟩))⟩)
  · have c_5n : ¬ (zRd f_all i_z0 c_).toInt < (i : Int) := fun q => c_5 ((fa_lt _ _).mpr (by rw [nI_toInt (n := i) (by omega)]; exact q))
    refine lv_aload_n hx hb dX12_turns_13 rfl (lv_at hl 2 rfl) ?_
    refine z_get C G clX12 2 rfl 14 (by decide) m_fl_RX12_20 rfl dX12_turns_14 ?_
    refine lv_iload_n hx hb dX12_turns_17 rfl (lv_at hl 3 rfl) ?_
    refine z_ild C G 0 rfl (vp_in_iff.mpr ⟨by omega, by omega⟩) dX12_turns_18 ?_
    refine lv_topi (fun v_6 ev_6 => ?_)
    subst ev_6
    refine lv_iload_n hx hb dX12_turns_19 rfl (lv_at hl 0 rfl) ?_
    refine lv_iadd hx hb dX12_turns_20 ?_
    refine lv_topi (fun y_7 ey_7 => ?_)
    have ey_7i : y_7.toInt = (f_posts c_.toNatClampNeg).toInt + (i : Int) := by rw [ey_7]; exact (z_iaddI (x := (f_posts c_.toNatClampNeg)) (y := (nI i)) (by rw [nI_toInt (n := i) (by omega)]; show -2147483648 ≤ (f_posts c_.toNatClampNeg).toInt + (i : Int); omega) (by rw [nI_toInt (n := i) (by omega)]; show (f_posts c_.toNatClampNeg).toInt + (i : Int) < 2147483648; omega)).trans (by rw [nI_toInt (n := i) (by omega)] <;> rfl)
    refine lv_iload_n hx hb dX12_turns_21 rfl (lv_at hl 1 rfl) ?_
    refine lv_irem hx hb dX12_turns_22 (fun q => absurd (congrArg Int32.toInt q) (by show ¬ _ = (0 : Int); omega)) ?_
    refine lv_topi (fun kk_7 ekk_7 => ?_)
    have hrm := zRm2 (x := y_7) (n := zRd f_all i_z0 c_) (by omega) (by omega) (by omega) (by omega)
    rw [← ekk_7] at hrm
    have hnx : zNext (zRd f_all i_z0 c_) q9 = kk_7 := zNext_m (p := (f_posts c_.toNatClampNeg).toInt) (i := (i : Int)) (by omega) (by omega) (by omega) (by omega) (by omega) (by omega)
    refine lv_istore (lv' := [(4, .int kk_7), (3, .int (nI i)), (2, .int (zRd f_all i_z0 c_)), (0, .ref mo), (1, .int c_)]) hx hb dX12_turns_23 hl (by decide) (zLvf_h rfl) (fun ls hl => ?_)
    refine lv_aload_n hx hb dX12_turns_25 rfl (lv_at hl 3 rfl) ?_
    refine z_get C G clX12 2 rfl 15 (by decide) m_fl_RX12_23 rfl dX12_turns_26 ?_
    refine lv_iload_n hx hb dX12_turns_29 rfl (lv_at hl 4 rfl) ?_
    refine z_ild C G 1 rfl (vp_in_iff.mpr ⟨by omega, by omega⟩) dX12_turns_30 ?_
    refine lv_topi (fun v_9 ev_9 => ?_)
    subst ev_9
    refine lv_iload hx hb dX12_turns_31 (lv_at hl 0 rfl) ?_
    refine lv_ishr hx hb dX12_turns_33 ?_
    refine lv_iconst (v := 1) hx hb dX12_turns_34 (by decide) ?_
    refine lv_iand hx hb dX12_turns_35 ?_
    refine lv_iconst (v := 1) hx hb dX12_turns_36 (by decide) ?_
    refine lv_icmp_ne (tgt := 43) hx hb dX12_turns_37 (by decide) (fun c_10 => ?_) (fun c_10 => ?_)
    · have c_10n : ¬ (((f_shut c_.toNatClampNeg) >>> (kk_7 &&& 31)) &&& 1).toInt = (1 : Int) := fun q => c_10 ((fa_eq _ _).mpr q)
      have hz0 : zBit (f_shut c_.toNatClampNeg) kk_7 = 0 := zBit_n (by assumption)
      have hz : zTurn f_posts f_shut (zRo f_all i_z0) c_ = kk_7 := by rw [hq, show n0 + 1 - i = (n0 - i) + 1 by omega, zTurnR, hnx, if_pos hz0]
      have hz1 : ¬ zTurn f_posts f_shut (zRo f_all i_z0) c_ = -1 := by rw [hz]; exact fun q8 => absurd (show kk_7.toInt = -1 from by rw [q8]; rfl) (by omega)
      refine lv_aload_n hx hb dX12_turns_43 rfl (lv_at hl 3 rfl) ?_
      refine z_get C G clX12 2 rfl 14 (by decide) m_fl_RX12_20 rfl dX12_turns_44 ?_
      refine lv_iload_n hx hb dX12_turns_47 rfl (lv_at hl 4 rfl) ?_
      refine lv_iload hx hb dX12_turns_48 (lv_at hl 0 rfl) ?_
      refine z_ist C G 0 rfl (vp_in_iff.mpr ⟨by omega, by omega⟩) dX12_turns_50 (fun H locs G => ?_)
      have G : zS T A s.heap s [[zAr T 0 m_posts 7 (upd f_posts c_.toNatClampNeg kk_7)], [zAr T 0 m_shut 7 f_shut], [zO11 mo m_all m_has i_size i_next i_where i_token i_number i_word i_wrong i_farCrossing m_read i_z0 i_crossings i_inns m_posts m_shut m_here i_steps i_done i_at i_gone m_was m_came m_seenAt m_rowWorth m_farBy m_used i_everywhere i_again0 i_d0 i_never i_firstCame i_longRun i_moved i_crowd i_l0 i_fitMany i_fitLeast i_fitMost m_fitPost m_fitEnd m_keptPosts i_x0], [zAr T 0 m_all 3952 f_all]] _ _ := G
      refine lv_iconst (v := 1) hx hb dX12_turns_51 (by decide) ?_
      have G := G.sub (bs' := [[zO11 mo m_all m_has i_size i_next i_where i_token i_number i_word i_wrong i_farCrossing m_read i_z0 i_crossings i_inns m_posts m_shut m_here i_steps i_done i_at i_gone m_was m_came m_seenAt m_rowWorth m_farBy m_used i_everywhere i_again0 i_d0 i_never i_firstCame i_longRun i_moved i_crowd i_l0 i_fitMany i_fitLeast i_fitMost m_fitPost m_fitEnd m_keptPosts i_x0], [zAr T 0 m_all 3952 f_all], [zAr T 0 m_posts 7 (upd f_posts c_.toNatClampNeg kk_7)], [zAr T 0 m_shut 7 f_shut]]) [2, 3, 0, 1] rfl
      exact z_back hQ9 (z_zret C hr hlocks G (Nat.le_of_ble_eq_true rfl) (Nat.le_of_ble_eq_true rfl) dX12_turns_52 rfl ⟨(upd f_posts c_.toNatClampNeg kk_7), rfl, (zMP_upd hP (by omega)), (zMV_upd hV (show kk_7.toInt < (zRd f_all i_z0 c_).toInt by omega)), (by unfold zPost; rw [if_neg hz1, hz]), (Or.inl (⟨rfl, hz1, (by omega)⟩))⟩)
    · have c_10n : (((f_shut c_.toNatClampNeg) >>> (kk_7 &&& 31)) &&& 1).toInt = (1 : Int) := (fa_eq _ _).mp c_10
      have hz0 : ¬ zBit (f_shut c_.toNatClampNeg) kk_7 = 0 := zBit_o (by assumption)
      have hz : zTurn f_posts f_shut (zRo f_all i_z0) c_ = zTurnR (zRd f_all i_z0 c_) (f_shut c_.toNatClampNeg) (n0 + 1 - (i + 1)) kk_7 := by rw [hq, show n0 + 1 - i = (n0 + 1 - (i + 1)) + 1 by omega, zTurnR, hnx, if_neg hz0]
      refine lv_goto (tgt := 53) hx hb dX12_turns_40 (by decide) ?_
      refine lv_iinc (v := nI (i + 1)) (lv' := [(3, .int (nI (i + 1))), (4, .int kk_7), (2, .int (zRd f_all i_z0 c_)), (0, .ref mo), (1, .int c_)]) hx hb dX12_turns_53 hl (k := 1) rfl (z_inc i 1) (by decide) (zLvf_h rfl) (fun ls hl => ?_)
      refine lv_goto (tgt := 8) hx hb dX12_turns_56 (by decide) ?_
      exact ih_8 (i + 1) kk_7 (show 1 ≤ (i + 1) ∧ ((i + 1) : Int) ≤ (zRd f_all i_z0 c_).toInt + 1 ∧ zTurn f_posts f_shut (zRo f_all i_z0) c_ = zTurnR (zRd f_all i_z0 c_) (f_shut c_.toNatClampNeg) (n0 + 1 - (i + 1)) kk_7 ∧ ((zRd f_all i_z0 c_).toInt ≤ 0 ∨ kk_7.toInt = (f_posts c_.toNatClampNeg).toInt + ((i + 1) : Int) - 1 ∧ kk_7.toInt < (zRd f_all i_z0 c_).toInt ∨ kk_7.toInt = (f_posts c_.toNatClampNeg).toInt + ((i + 1) : Int) - 1 - (zRd f_all i_z0 c_).toInt ∧ 0 ≤ kk_7.toInt) from ⟨by omega, by omega, hz, by omega⟩) (show 6 - (i + 1) < 6 - i from by omega) _ _ ls G (lv_sub hl [0, 2, 3, 4] rfl)
set_option maxHeartbeats 4000000 in
set_option maxRecDepth 100000 in
/-- c_fm_stepsOn -/
theorem c_fm_stepsOn (l : Launch) (T : zTy) (mo : Nat) (m_all : Nat) (m_has : Nat) (i_size : Int32) (i_next : Int32) (i_where : Int32) (i_token : Int32) (i_number : Int32) (i_word : Int32) (i_wrong : Int32) (i_farCrossing : Int32) (m_read : Nat) (i_z0 : Int32) (i_crossings : Int32) (i_inns : Int32) (m_posts : Nat) (m_shut : Nat) (m_here : Nat) (i_steps : Int32) (i_done : Int32) (i_at : Int32) (i_gone : Int32) (m_was : Nat) (m_came : Nat) (m_seenAt : Nat) (m_rowWorth : Nat) (m_farBy : Nat) (m_used : Nat) (i_everywhere : Int32) (i_again0 : Int32) (i_d0 : Int32) (i_never : Int32) (i_firstCame : Int32) (i_longRun : Int32) (i_moved : Int32) (i_crowd : Int32) (i_l0 : Int32) (i_fitMany : Int32) (i_fitLeast : Int32) (i_fitMost : Int32) (m_fitPost : Nat) (m_fitEnd : Nat) (m_keptPosts : Nat) (i_x0 : Int32) (f_all : Nat → Int32) (f_posts : Nat → Int32) (f_shut : Nat → Int32) (f_was : Nat → Int32) (hL : zML f_all i_z0 i_crossings) (ha0 : 0 ≤ i_at.toInt) (ha6 : i_at.toInt ≤ 6) (hg0 : 0 ≤ i_gone.toInt) (hg9 : i_gone.toInt ≤ 100000) (hV : zMV (zRo f_all i_z0) f_posts) (hP : zMP f_posts) : zMi l T yX12_stepsOn cX12_stepsOn 1 (some .boolean) 3 0 0 [.ref mo] [[zO11 mo m_all m_has i_size i_next i_where i_token i_number i_word i_wrong i_farCrossing m_read i_z0 i_crossings i_inns m_posts m_shut m_here i_steps i_done i_at i_gone m_was m_came m_seenAt m_rowWorth m_farBy m_used i_everywhere i_again0 i_d0 i_never i_firstCame i_longRun i_moved i_crowd i_l0 i_fitMany i_fitLeast i_fitMost m_fitPost m_fitEnd m_keptPosts i_x0], [zAr T 0 m_all 3952 f_all], [zAr T 0 m_posts 7 f_posts], [zAr T 0 m_shut 7 f_shut], [zAr T 0 m_was 7 f_was]] (fun (r : Int32) bs => ∃ (j_at : Int32) (j_gone : Int32) (g_posts : Nat → Int32) (g_was : Nat → Int32), bs = [[zO11 mo m_all m_has i_size i_next i_where i_token i_number i_word i_wrong i_farCrossing m_read i_z0 i_crossings i_inns m_posts m_shut m_here i_steps i_done j_at j_gone m_was m_came m_seenAt m_rowWorth m_farBy m_used i_everywhere i_again0 i_d0 i_never i_firstCame i_longRun i_moved i_crowd i_l0 i_fitMany i_fitLeast i_fitMost m_fitPost m_fitEnd m_keptPosts i_x0], [zAr T 0 m_all 3952 f_all], [zAr T 0 m_posts 7 g_posts], [zAr T 0 m_shut 7 f_shut], [zAr T 0 m_was 7 g_was]] ∧ zMP g_posts ∧ 0 ≤ j_at.toInt ∧ j_at.toInt ≤ 6 ∧ zMV (zRo f_all i_z0) g_posts ∧ g_posts = zPost f_posts f_shut (zWo f_all i_z0 i_inns) i_at ∧ ((r = 1 ∧ ¬ zStep f_posts f_shut (zWo f_all i_z0 i_inns) (zLo f_all i_z0) i_at = -1 ∧ j_at = zStep f_posts f_shut (zWo f_all i_z0 i_inns) (zLo f_all i_z0) i_at ∧ j_gone.toInt = i_gone.toInt + 1 ∧ g_was = upd f_was j_at.toNatClampNeg (f_was j_at.toNatClampNeg + 1)) ∨ (r = 0 ∧ zStep f_posts f_shut (zWo f_all i_z0 i_inns) (zLo f_all i_z0) i_at = -1 ∧ j_at = i_at ∧ j_gone = i_gone ∧ g_was = f_was))) := by
  refine zMi_of (own := RX12) (by decide) rfl (Nat.le_of_ble_eq_true rfl) ?_
  intro p e s m args below meth c A ls C hr hlocks hnm hAe G hl
  refine zHide (fun Q9 hQ9 => ?_)
  have hx := C.1
  have hb := C.2.1
  have hl : lv_has ls 1 [(0, .ref mo)] := hl
  have hz := hL.1
  have hcr := hL.cr
  refine lv_aload_n hx hb dX12_stepsOn_0 rfl (lv_at hl 0 rfl) ?_
  refine lv_aload_n hx hb dX12_stepsOn_1 rfl (lv_at hl 0 rfl) ?_
  refine z_get C G clX12 0 rfl 19 (by decide) m_fl_RX12_202 rfl dX12_stepsOn_2 ?_
  refine z_Vi (bc := [[zO11 mo m_all m_has i_size i_next i_where i_token i_number i_word i_wrong i_farCrossing m_read i_z0 i_crossings i_inns m_posts m_shut m_here i_steps i_done i_at i_gone m_was m_came m_seenAt m_rowWorth m_farBy m_used i_everywhere i_again0 i_d0 i_never i_firstCame i_longRun i_moved i_crowd i_l0 i_fitMany i_fitLeast i_fitMost m_fitPost m_fitEnd m_keptPosts i_x0]]) (br := [[zAr T 0 m_all 3952 f_all], [zAr T 0 m_posts 7 f_posts], [zAr T 0 m_shut 7 f_shut], [zAr T 0 m_was 7 f_was]]) (As := [.int i_at]) (rest := []) C G (c_m_isInn l T mo m_all m_has i_size i_next i_where i_token i_number i_word i_wrong i_farCrossing m_read i_z0 i_crossings i_inns m_posts m_shut m_here i_steps i_done i_at i_gone m_was m_came m_seenAt m_rowWorth m_farBy m_used i_everywhere i_again0 i_d0 i_never i_firstCame i_longRun i_moved i_crowd i_l0 i_fitMany i_fitLeast i_fitMost m_fitPost m_fitEnd m_keptPosts i_x0 i_at) (kV_RX12_178 C.2.2.2.2 (Nat.le_of_ble_eq_true rfl) (Nat.le_of_ble_eq_true rfl)) [0] [0] rfl rfl (ci := 11) (qc := (RX12, TX12, 43)) rfl rfl (List.mem_flatten.mpr ⟨_, List.mem_of_getElem? (i := 0) rfl, List.mem_cons_self⟩) rfl rfl hl.1 dX12_stepsOn_5 (Nat.le_of_ble_eq_true rfl) (Nat.le_of_ble_eq_true rfl) (fun r_2 b1 H locs hw G => ?_)
  refine zAn2 hw ?_
  intro hbs9 hc_1
  clear hw
  subst hbs9
  have G : zS T A s.heap s [[zAr T 0 m_all 3952 f_all], [zAr T 0 m_posts 7 f_posts], [zAr T 0 m_shut 7 f_shut], [zAr T 0 m_was 7 f_was], [zO11 mo m_all m_has i_size i_next i_where i_token i_number i_word i_wrong i_farCrossing m_read i_z0 i_crossings i_inns m_posts m_shut m_here i_steps i_done i_at i_gone m_was m_came m_seenAt m_rowWorth m_farBy m_used i_everywhere i_again0 i_d0 i_never i_firstCame i_longRun i_moved i_crowd i_l0 i_fitMany i_fitLeast i_fitMost m_fitPost m_fitEnd m_keptPosts i_x0]] _ _ := G
  rcases hc_1 with ⟨rfl, h_3⟩ | ⟨rfl, h_4⟩
  · have h_3 : zInn i_inns i_at := h_3
    refine lv_if_ne (tgt := 22) hx hb dX12_stepsOn_8 (by decide) (fun _ => ?_) (fun q => absurd q (by decide))
    have hT1 : zTurn f_posts f_shut (zWo f_all i_z0 i_inns) i_at = -1 := zTurn_inn (by assumption) ha0 ha6
    have hp1 : f_posts = zPost f_posts f_shut (zWo f_all i_z0 i_inns) i_at := by unfold zPost; rw [if_pos hT1]
    have hS1 : zStep f_posts f_shut (zWo f_all i_z0 i_inns) (zLo f_all i_z0) i_at = -1 := by unfold zStep; rw [if_pos hT1]
    refine lv_iconst (v := 0) hx hb dX12_stepsOn_22 (by decide) ?_
    have G := G.sub (bs' := [[zO11 mo m_all m_has i_size i_next i_where i_token i_number i_word i_wrong i_farCrossing m_read i_z0 i_crossings i_inns m_posts m_shut m_here i_steps i_done i_at i_gone m_was m_came m_seenAt m_rowWorth m_farBy m_used i_everywhere i_again0 i_d0 i_never i_firstCame i_longRun i_moved i_crowd i_l0 i_fitMany i_fitLeast i_fitMost m_fitPost m_fitEnd m_keptPosts i_x0], [zAr T 0 m_all 3952 f_all], [zAr T 0 m_posts 7 f_posts], [zAr T 0 m_shut 7 f_shut], [zAr T 0 m_was 7 f_was]]) [4, 0, 1, 2, 3] rfl
    exact z_back hQ9 (z_zret C hr hlocks G (Nat.le_of_ble_eq_true rfl) (Nat.le_of_ble_eq_true rfl) dX12_stepsOn_23 rfl ⟨i_at, i_gone, f_posts, f_was, rfl, (by first | with_reducible assumption | omega | trivial | assumption), (by first | with_reducible assumption | omega | trivial | assumption), (by first | with_reducible assumption | omega | trivial | assumption), (by first | with_reducible assumption | omega | trivial | assumption), hp1, (Or.inr (⟨rfl, hS1, rfl, rfl, rfl⟩))⟩)
  · have h_4 : ¬ zInn i_inns i_at := h_4
    refine lv_if_ne (tgt := 22) hx hb dX12_stepsOn_8 (by decide) (fun q => absurd (by decide) q) (fun _ => ?_)
    refine lv_aload_n hx hb dX12_stepsOn_11 rfl (lv_at hl 0 rfl) ?_
    refine lv_aload_n hx hb dX12_stepsOn_12 rfl (lv_at hl 0 rfl) ?_
    refine z_get C G clX12 4 rfl 19 (by decide) m_fl_RX12_202 rfl dX12_stepsOn_13 ?_
    refine z_Vi (bc := [[zO11 mo m_all m_has i_size i_next i_where i_token i_number i_word i_wrong i_farCrossing m_read i_z0 i_crossings i_inns m_posts m_shut m_here i_steps i_done i_at i_gone m_was m_came m_seenAt m_rowWorth m_farBy m_used i_everywhere i_again0 i_d0 i_never i_firstCame i_longRun i_moved i_crowd i_l0 i_fitMany i_fitLeast i_fitMost m_fitPost m_fitEnd m_keptPosts i_x0], [zAr T 0 m_all 3952 f_all], [zAr T 0 m_posts 7 f_posts], [zAr T 0 m_shut 7 f_shut]]) (br := [[zAr T 0 m_was 7 f_was]]) (As := [.int i_at]) (rest := []) C G (c_fm_turns l T mo m_all m_has i_size i_next i_where i_token i_number i_word i_wrong i_farCrossing m_read i_z0 i_crossings i_inns m_posts m_shut m_here i_steps i_done i_at i_gone m_was m_came m_seenAt m_rowWorth m_farBy m_used i_everywhere i_again0 i_d0 i_never i_firstCame i_longRun i_moved i_crowd i_l0 i_fitMany i_fitLeast i_fitMost m_fitPost m_fitEnd m_keptPosts i_x0 f_all f_posts f_shut i_at (by first | with_reducible assumption | with_reducible rfl | omega | assumption | rfl) (by first | with_reducible assumption | with_reducible rfl | omega | assumption | rfl) (by first | with_reducible assumption | with_reducible rfl | omega | assumption | rfl) (by first | with_reducible assumption | with_reducible rfl | omega | assumption | rfl) (by first | with_reducible assumption | with_reducible rfl | omega | assumption | rfl)) (kV_RX12_205 C.2.2.2.2 (Nat.le_of_ble_eq_true rfl) (Nat.le_of_ble_eq_true rfl)) [4, 0, 1, 2] [0, 0, 0, 1] rfl rfl (ci := 11) (qc := (RX12, TX12, 43)) rfl rfl (List.mem_flatten.mpr ⟨_, List.mem_of_getElem? (i := 0) rfl, List.mem_cons_self⟩) rfl rfl hl.1 dX12_stepsOn_16 (Nat.le_of_ble_eq_true rfl) (Nat.le_of_ble_eq_true rfl) (fun r_10 b1 H locs hw G => ?_)
    refine zEx1 hw ?_
    intro g_posts_5
    refine zCu5 ?_
    intro hbs9 h_6 h_7 h_8 hc_9
    clear hw
    subst hbs9
    have G : zS T A s.heap s [[zAr T 0 m_was 7 f_was], [zO11 mo m_all m_has i_size i_next i_where i_token i_number i_word i_wrong i_farCrossing m_read i_z0 i_crossings i_inns m_posts m_shut m_here i_steps i_done i_at i_gone m_was m_came m_seenAt m_rowWorth m_farBy m_used i_everywhere i_again0 i_d0 i_never i_firstCame i_longRun i_moved i_crowd i_l0 i_fitMany i_fitLeast i_fitMost m_fitPost m_fitEnd m_keptPosts i_x0], [zAr T 0 m_all 3952 f_all], [zAr T 0 m_posts 7 g_posts_5], [zAr T 0 m_shut 7 f_shut]] _ _ := G
    rcases hc_9 with ⟨rfl, h_11, h_12⟩ | ⟨rfl, h_13⟩
    · have h_11 : ¬ zTurn f_posts f_shut (zRo f_all i_z0) i_at = -1 := h_11
      have h_12 : 0 < (zRd f_all i_z0 i_at).toInt := h_12
      refine lv_if_ne (tgt := 24) hx hb dX12_stepsOn_19 (by decide) (fun _ => ?_) (fun q => absurd q (by decide))
      have hcl := z_clI (x := i_at) (by omega)
      have hpa : 0 ≤ (g_posts_5 i_at.toNatClampNeg).toInt ∧ (g_posts_5 i_at.toNatClampNeg).toInt ≤ 3 := (show zMP g_posts_5 by assumption) i_at.toNatClampNeg (by omega)
      have hb1 : ¬ zBit i_inns i_at = 1 := by assumption
      have hne : ¬ zTurn f_posts f_shut (zRo f_all i_z0) i_at = -1 := h_11
      have hgp : g_posts_5 i_at.toNatClampNeg = zTurn f_posts f_shut (zRo f_all i_z0) i_at := by rw [h_8]; unfold zPost; rw [if_neg hne]; exact z_eq rfl
      have hST : zStep f_posts f_shut (zWo f_all i_z0 i_inns) (zLo f_all i_z0) i_at = zLe f_all i_z0 i_at (g_posts_5 i_at.toNatClampNeg) := by unfold zStep; rw [zTurn_wo hb1 ha0 ha6, if_neg hne, hgp]; rfl
      refine lv_aload_n hx hb dX12_stepsOn_24 rfl (lv_at hl 0 rfl) ?_
      refine lv_aload_n hx hb dX12_stepsOn_25 rfl (lv_at hl 0 rfl) ?_
      refine lv_aload_n hx hb dX12_stepsOn_26 rfl (lv_at hl 0 rfl) ?_
      refine z_get C G clX12 1 rfl 19 (by decide) m_fl_RX12_202 rfl dX12_stepsOn_27 ?_
      refine lv_aload_n hx hb dX12_stepsOn_30 rfl (lv_at hl 0 rfl) ?_
      refine z_get C G clX12 1 rfl 14 (by decide) m_fl_RX12_20 rfl dX12_stepsOn_31 ?_
      refine lv_aload_n hx hb dX12_stepsOn_34 rfl (lv_at hl 0 rfl) ?_
      refine z_get C G clX12 1 rfl 19 (by decide) m_fl_RX12_202 rfl dX12_stepsOn_35 ?_
      refine z_ild C G 3 rfl (vp_in_iff.mpr ⟨by omega, by omega⟩) dX12_stepsOn_38 ?_
      refine lv_topi (fun v_14 ev_14 => ?_)
      subst ev_14
      refine z_Vi (bc := [[zO11 mo m_all m_has i_size i_next i_where i_token i_number i_word i_wrong i_farCrossing m_read i_z0 i_crossings i_inns m_posts m_shut m_here i_steps i_done i_at i_gone m_was m_came m_seenAt m_rowWorth m_farBy m_used i_everywhere i_again0 i_d0 i_never i_firstCame i_longRun i_moved i_crowd i_l0 i_fitMany i_fitLeast i_fitMost m_fitPost m_fitEnd m_keptPosts i_x0], [zAr T 0 m_all 3952 f_all]]) (br := [[zAr T 0 m_was 7 f_was], [zAr T 0 m_posts 7 g_posts_5], [zAr T 0 m_shut 7 f_shut]]) (As := [.int i_at, .int (g_posts_5 i_at.toNatClampNeg)]) (rest := [.ref mo]) C G (c_m_leadsTo l T mo m_all m_has i_size i_next i_where i_token i_number i_word i_wrong i_farCrossing m_read i_z0 i_crossings i_inns m_posts m_shut m_here i_steps i_done i_at i_gone m_was m_came m_seenAt m_rowWorth m_farBy m_used i_everywhere i_again0 i_d0 i_never i_firstCame i_longRun i_moved i_crowd i_l0 i_fitMany i_fitLeast i_fitMost m_fitPost m_fitEnd m_keptPosts i_x0 f_all i_at (g_posts_5 i_at.toNatClampNeg) (by first | with_reducible assumption | with_reducible rfl | omega | assumption | rfl) (by first | with_reducible assumption | with_reducible rfl | omega | assumption | rfl) (by first | with_reducible assumption | with_reducible rfl | omega | assumption | rfl) (by first | with_reducible assumption | with_reducible rfl | omega | assumption | rfl) (by first | with_reducible assumption | with_reducible rfl | omega | assumption | rfl)) (kV_RX12_190 C.2.2.2.2 (Nat.le_of_ble_eq_true rfl) (Nat.le_of_ble_eq_true rfl)) [1, 2] [1, 0] rfl rfl (ci := 11) (qc := (RX12, TX12, 43)) rfl rfl (List.mem_flatten.mpr ⟨_, List.mem_of_getElem? (i := 0) rfl, List.mem_cons_self⟩) rfl rfl hl.1 dX12_stepsOn_39 (Nat.le_of_ble_eq_true rfl) (Nat.le_of_ble_eq_true rfl) (fun r_18 b1 H locs hw G => ?_)
      refine zAn4 hw ?_
      intro hbs9 h_15 h_16 h_17
      clear hw
      subst hbs9
      have G : zS T A s.heap s [[zAr T 0 m_was 7 f_was], [zAr T 0 m_posts 7 g_posts_5], [zAr T 0 m_shut 7 f_shut], [zO11 mo m_all m_has i_size i_next i_where i_token i_number i_word i_wrong i_farCrossing m_read i_z0 i_crossings i_inns m_posts m_shut m_here i_steps i_done i_at i_gone m_was m_came m_seenAt m_rowWorth m_farBy m_used i_everywhere i_again0 i_d0 i_never i_firstCame i_longRun i_moved i_crowd i_l0 i_fitMany i_fitLeast i_fitMost m_fitPost m_fitEnd m_keptPosts i_x0], [zAr T 0 m_all 3952 f_all]] _ _ := G
      subst h_15
      refine z_put C G clX12 3 rfl 19 (by decide) m_fl_RX12_202 rfl rfl rfl (Nat.le_of_ble_eq_true rfl) dX12_stepsOn_42 (fun H locs G => ?_)
      have G : zS T A s.heap s [[zAr T 0 m_was 7 f_was], [zAr T 0 m_posts 7 g_posts_5], [zAr T 0 m_shut 7 f_shut], [zO11 mo m_all m_has i_size i_next i_where i_token i_number i_word i_wrong i_farCrossing m_read i_z0 i_crossings i_inns m_posts m_shut m_here i_steps i_done (zLe f_all i_z0 i_at (g_posts_5 i_at.toNatClampNeg)) i_gone m_was m_came m_seenAt m_rowWorth m_farBy m_used i_everywhere i_again0 i_d0 i_never i_firstCame i_longRun i_moved i_crowd i_l0 i_fitMany i_fitLeast i_fitMost m_fitPost m_fitEnd m_keptPosts i_x0], [zAr T 0 m_all 3952 f_all]] _ _ := G
      refine lv_aload_n hx hb dX12_stepsOn_45 rfl (lv_at hl 0 rfl) ?_
      refine lv_dup hx hb dX12_stepsOn_46 rfl ?_
      refine z_get C G clX12 3 rfl 20 (by decide) m_fl_RX12_208 rfl dX12_stepsOn_47 ?_
      refine lv_iconst (v := 1) hx hb dX12_stepsOn_50 (by decide) ?_
      refine lv_iadd hx hb dX12_stepsOn_51 ?_
      refine lv_topi (fun y_19 ey_19 => ?_)
      have ey_19i : y_19.toInt = i_gone.toInt + (1 : Int) := by rw [ey_19]; exact z_iaddI (x := i_gone) (y := (1 : Int32)) (by show -2147483648 ≤ i_gone.toInt + (1 : Int); omega) (by show i_gone.toInt + (1 : Int) < 2147483648; omega)
      refine z_put C G clX12 3 rfl 20 (by decide) m_fl_RX12_208 rfl rfl rfl (Nat.le_of_ble_eq_true rfl) dX12_stepsOn_52 (fun H locs G => ?_)
      have G : zS T A s.heap s [[zAr T 0 m_was 7 f_was], [zAr T 0 m_posts 7 g_posts_5], [zAr T 0 m_shut 7 f_shut], [zO11 mo m_all m_has i_size i_next i_where i_token i_number i_word i_wrong i_farCrossing m_read i_z0 i_crossings i_inns m_posts m_shut m_here i_steps i_done (zLe f_all i_z0 i_at (g_posts_5 i_at.toNatClampNeg)) y_19 m_was m_came m_seenAt m_rowWorth m_farBy m_used i_everywhere i_again0 i_d0 i_never i_firstCame i_longRun i_moved i_crowd i_l0 i_fitMany i_fitLeast i_fitMost m_fitPost m_fitEnd m_keptPosts i_x0], [zAr T 0 m_all 3952 f_all]] _ _ := G
      refine lv_aload_n hx hb dX12_stepsOn_55 rfl (lv_at hl 0 rfl) ?_
      refine z_get C G clX12 3 rfl 21 (by decide) m_fl_RX12_29 rfl dX12_stepsOn_56 ?_
      refine lv_aload_n hx hb dX12_stepsOn_59 rfl (lv_at hl 0 rfl) ?_
      refine z_get C G clX12 3 rfl 19 (by decide) m_fl_RX12_202 rfl dX12_stepsOn_60 ?_
      refine lv_dup2_11 hx hb dX12_stepsOn_63 rfl rfl ?_
      refine z_ild C G 0 rfl (vp_in_iff.mpr ⟨by omega, by omega⟩) dX12_stepsOn_64 ?_
      refine lv_topi (fun v_20 ev_20 => ?_)
      subst ev_20
      refine lv_iconst (v := 1) hx hb dX12_stepsOn_65 (by decide) ?_
      refine lv_iadd hx hb dX12_stepsOn_66 ?_
      refine z_ist C G 0 rfl (vp_in_iff.mpr ⟨by omega, by omega⟩) dX12_stepsOn_67 (fun H locs G => ?_)
      have G : zS T A s.heap s [[zAr T 0 m_was 7 (upd f_was (zLe f_all i_z0 i_at (g_posts_5 i_at.toNatClampNeg)).toNatClampNeg ((f_was (zLe f_all i_z0 i_at (g_posts_5 i_at.toNatClampNeg)).toNatClampNeg) + 1))], [zAr T 0 m_posts 7 g_posts_5], [zAr T 0 m_shut 7 f_shut], [zO11 mo m_all m_has i_size i_next i_where i_token i_number i_word i_wrong i_farCrossing m_read i_z0 i_crossings i_inns m_posts m_shut m_here i_steps i_done (zLe f_all i_z0 i_at (g_posts_5 i_at.toNatClampNeg)) y_19 m_was m_came m_seenAt m_rowWorth m_farBy m_used i_everywhere i_again0 i_d0 i_never i_firstCame i_longRun i_moved i_crowd i_l0 i_fitMany i_fitLeast i_fitMost m_fitPost m_fitEnd m_keptPosts i_x0], [zAr T 0 m_all 3952 f_all]] _ _ := G
      refine lv_iconst (v := 1) hx hb dX12_stepsOn_68 (by decide) ?_
      have G := G.sub (bs' := [[zO11 mo m_all m_has i_size i_next i_where i_token i_number i_word i_wrong i_farCrossing m_read i_z0 i_crossings i_inns m_posts m_shut m_here i_steps i_done (zLe f_all i_z0 i_at (g_posts_5 i_at.toNatClampNeg)) y_19 m_was m_came m_seenAt m_rowWorth m_farBy m_used i_everywhere i_again0 i_d0 i_never i_firstCame i_longRun i_moved i_crowd i_l0 i_fitMany i_fitLeast i_fitMost m_fitPost m_fitEnd m_keptPosts i_x0], [zAr T 0 m_all 3952 f_all], [zAr T 0 m_posts 7 g_posts_5], [zAr T 0 m_shut 7 f_shut], [zAr T 0 m_was 7 (upd f_was (zLe f_all i_z0 i_at (g_posts_5 i_at.toNatClampNeg)).toNatClampNeg ((f_was (zLe f_all i_z0 i_at (g_posts_5 i_at.toNatClampNeg)).toNatClampNeg) + 1))]]) [3, 4, 1, 2, 0] rfl
      exact z_back hQ9 (z_zret C hr hlocks G (Nat.le_of_ble_eq_true rfl) (Nat.le_of_ble_eq_true rfl) dX12_stepsOn_69 rfl ⟨(zLe f_all i_z0 i_at (g_posts_5 i_at.toNatClampNeg)), y_19, g_posts_5, (upd f_was (zLe f_all i_z0 i_at (g_posts_5 i_at.toNatClampNeg)).toNatClampNeg ((f_was (zLe f_all i_z0 i_at (g_posts_5 i_at.toNatClampNeg)).toNatClampNeg) + 1)), rfl, (by first | with_reducible assumption | omega | trivial | assumption), (by first | with_reducible assumption | omega | trivial | assumption), (by first | with_reducible assumption | omega | trivial | assumption), (by first | with_reducible assumption | omega | trivial | assumption), (h_8.trans (zPost_wo hb1 ha0 ha6).symm), (Or.inl (⟨rfl, (fun q8 => absurd (show (zLe f_all i_z0 i_at (g_posts_5 i_at.toNatClampNeg)).toInt = -1 from by rw [← hST, q8]; rfl) (by omega)), hST.symm, (by omega), rfl⟩))⟩)
    · have h_13 : zTurn f_posts f_shut (zRo f_all i_z0) i_at = -1 := h_13
      refine lv_if_ne (tgt := 24) hx hb dX12_stepsOn_19 (by decide) (fun q => absurd (by decide) q) (fun _ => ?_)
      have hb1 : ¬ zBit i_inns i_at = 1 := by assumption
      have hT1 : zTurn f_posts f_shut (zWo f_all i_z0 i_inns) i_at = -1 := (zTurn_wo hb1 ha0 ha6).trans h_13
      have hp1 : g_posts_5 = zPost f_posts f_shut (zWo f_all i_z0 i_inns) i_at := h_8.trans (zPost_wo hb1 ha0 ha6).symm
      have hS1 : zStep f_posts f_shut (zWo f_all i_z0 i_inns) (zLo f_all i_z0) i_at = -1 := by unfold zStep; rw [if_pos hT1]
      refine lv_iconst (v := 0) hx hb dX12_stepsOn_22 (by decide) ?_
      have G := G.sub (bs' := [[zO11 mo m_all m_has i_size i_next i_where i_token i_number i_word i_wrong i_farCrossing m_read i_z0 i_crossings i_inns m_posts m_shut m_here i_steps i_done i_at i_gone m_was m_came m_seenAt m_rowWorth m_farBy m_used i_everywhere i_again0 i_d0 i_never i_firstCame i_longRun i_moved i_crowd i_l0 i_fitMany i_fitLeast i_fitMost m_fitPost m_fitEnd m_keptPosts i_x0], [zAr T 0 m_all 3952 f_all], [zAr T 0 m_posts 7 g_posts_5], [zAr T 0 m_shut 7 f_shut], [zAr T 0 m_was 7 f_was]]) [1, 2, 3, 4, 0] rfl
      exact z_back hQ9 (z_zret C hr hlocks G (Nat.le_of_ble_eq_true rfl) (Nat.le_of_ble_eq_true rfl) dX12_stepsOn_23 rfl ⟨i_at, i_gone, g_posts_5, f_was, rfl, (by first | with_reducible assumption | omega | trivial | assumption), (by first | with_reducible assumption | omega | trivial | assumption), (by first | with_reducible assumption | omega | trivial | assumption), (by first | with_reducible assumption | omega | trivial | assumption), hp1, (Or.inr (⟨rfl, hS1, rfl, rfl, rfl⟩))⟩)
def zOne (c : Int32) (j : Nat) : Int32 := if (j : Int) = c.toInt then 1 else 0
set_option maxHeartbeats 4000000 in
set_option maxRecDepth 100000 in
/-- puts -/
theorem c_fm_puts (l : Launch) (T : zTy) (mo : Nat) (m_all : Nat) (m_has : Nat) (i_size : Int32) (i_next : Int32) (i_where : Int32) (i_token : Int32) (i_number : Int32) (i_word : Int32) (i_wrong : Int32) (i_farCrossing : Int32) (m_read : Nat) (i_z0 : Int32) (i_crossings : Int32) (i_inns : Int32) (m_posts : Nat) (m_shut : Nat) (m_here : Nat) (i_steps : Int32) (i_done : Int32) (i_at : Int32) (i_gone : Int32) (m_was : Nat) (m_came : Nat) (m_seenAt : Nat) (m_rowWorth : Nat) (m_farBy : Nat) (m_used : Nat) (i_everywhere : Int32) (i_again0 : Int32) (i_d0 : Int32) (i_never : Int32) (i_firstCame : Int32) (i_longRun : Int32) (i_moved : Int32) (i_crowd : Int32) (i_l0 : Int32) (i_fitMany : Int32) (i_fitLeast : Int32) (i_fitMost : Int32) (m_fitPost : Nat) (m_fitEnd : Nat) (m_keptPosts : Nat) (i_x0 : Int32) (f_was : Nat → Int32) (c_ : Int32) : zMv l T yX12_puts cX12_puts 3 1 0 0 [.ref mo, .int c_] [[zO11 mo m_all m_has i_size i_next i_where i_token i_number i_word i_wrong i_farCrossing m_read i_z0 i_crossings i_inns m_posts m_shut m_here i_steps i_done i_at i_gone m_was m_came m_seenAt m_rowWorth m_farBy m_used i_everywhere i_again0 i_d0 i_never i_firstCame i_longRun i_moved i_crowd i_l0 i_fitMany i_fitLeast i_fitMost m_fitPost m_fitEnd m_keptPosts i_x0], [zAr T 0 m_was 7 f_was]] (fun bs => ∃ (g_was : Nat → Int32), bs = [[zO11 mo m_all m_has i_size i_next i_where i_token i_number i_word i_wrong i_farCrossing m_read i_z0 i_crossings i_inns m_posts m_shut m_here i_steps i_done c_ 0 m_was m_came m_seenAt m_rowWorth m_farBy m_used i_everywhere i_again0 i_d0 i_never i_firstCame i_longRun i_moved i_crowd i_l0 i_fitMany i_fitLeast i_fitMost m_fitPost m_fitEnd m_keptPosts i_x0], [zAr T 0 m_was 7 g_was]] ∧ (∀ j, j < 7 → g_was j = zOne c_ j)) := by
  refine zMv_of (own := RX12) (by decide) rfl (Nat.le_of_ble_eq_true rfl) ?_
  intro p e s m args below meth c A ls C hr hlocks hnm hAe G hl
  refine zHide (fun Q9 hQ9 => ?_)
  have hx := C.1
  have hb := C.2.1
  have hl : lv_has ls 3 [(0, .ref mo), (1, .int c_)] := hl
  refine lv_aload_n hx hb dX12_puts_0 rfl (lv_at hl 0 rfl) ?_
  refine lv_iload_n hx hb dX12_puts_1 rfl (lv_at hl 1 rfl) ?_
  refine z_put C G clX12 0 rfl 19 (by decide) m_fl_RX12_202 rfl rfl rfl (Nat.le_of_ble_eq_true rfl) dX12_puts_2 (fun H locs G => ?_)
  have G : zS T A s.heap s [[zO11 mo m_all m_has i_size i_next i_where i_token i_number i_word i_wrong i_farCrossing m_read i_z0 i_crossings i_inns m_posts m_shut m_here i_steps i_done c_ i_gone m_was m_came m_seenAt m_rowWorth m_farBy m_used i_everywhere i_again0 i_d0 i_never i_firstCame i_longRun i_moved i_crowd i_l0 i_fitMany i_fitLeast i_fitMost m_fitPost m_fitEnd m_keptPosts i_x0], [zAr T 0 m_was 7 f_was]] _ _ := G
  refine lv_aload_n hx hb dX12_puts_5 rfl (lv_at hl 0 rfl) ?_
  refine lv_iconst (v := 0) hx hb dX12_puts_6 (by decide) ?_
  refine z_put C G clX12 0 rfl 20 (by decide) m_fl_RX12_208 rfl rfl rfl (Nat.le_of_ble_eq_true rfl) dX12_puts_7 (fun H locs G => ?_)
  have G : zS T A s.heap s [[zO11 mo m_all m_has i_size i_next i_where i_token i_number i_word i_wrong i_farCrossing m_read i_z0 i_crossings i_inns m_posts m_shut m_here i_steps i_done c_ 0 m_was m_came m_seenAt m_rowWorth m_farBy m_used i_everywhere i_again0 i_d0 i_never i_firstCame i_longRun i_moved i_crowd i_l0 i_fitMany i_fitLeast i_fitMost m_fitPost m_fitEnd m_keptPosts i_x0], [zAr T 0 m_was 7 f_was]] _ _ := G
  refine lv_iconst (v := 0) hx hb dX12_puts_10 (by decide) ?_
  refine lv_istore_n (lv' := [(2, .int 0), (0, .ref mo), (1, .int c_)]) hx hb dX12_puts_11 rfl hl (by decide) (zLvf_h rfl) (fun ls hl => ?_)
  refine z_lp2 (T := T) 12 (fun (i : Nat) (x : Nat → Int32) => [[zO11 mo m_all m_has i_size i_next i_where i_token i_number i_word i_wrong i_farCrossing m_read i_z0 i_crossings i_inns m_posts m_shut m_here i_steps i_done c_ 0 m_was m_came m_seenAt m_rowWorth m_farBy m_used i_everywhere i_again0 i_d0 i_never i_firstCame i_longRun i_moved i_crowd i_l0 i_fitMany i_fitLeast i_fitMost m_fitPost m_fitEnd m_keptPosts i_x0], [zAr T 0 m_was 7 x]]) (fun (i : Nat) (x : Nat → Int32) => [(2, .int (nI i)), (0, .ref mo), (1, .int c_)]) (fun (i : Nat) (x : Nat → Int32) => i ≤ 7 ∧ (∀ j, j < i → x j = zOne c_ j)) (fun (i : Nat) (x : Nat → Int32) => 7 - i) ?_ 0 f_was (show 0 ≤ 7 ∧ (∀ j, j < 0 → f_was j = zOne c_ j) from ⟨by omega, fun j hj => absurd hj (by omega)⟩) G (lv_sub hl [0, 1, 2] rfl)
  intro i x hI9 ih_12 H locs ls G hl
  replace hI9 : i ≤ 7 ∧ (∀ j, j < i → x j = zOne c_ j) := hI9
  refine zAn2 hI9 ?_
  intro hi hW
  clear hI9
  replace G : zS T A s.heap s [[zO11 mo m_all m_has i_size i_next i_where i_token i_number i_word i_wrong i_farCrossing m_read i_z0 i_crossings i_inns m_posts m_shut m_here i_steps i_done c_ 0 m_was m_came m_seenAt m_rowWorth m_farBy m_used i_everywhere i_again0 i_d0 i_never i_firstCame i_longRun i_moved i_crowd i_l0 i_fitMany i_fitLeast i_fitMost m_fitPost m_fitEnd m_keptPosts i_x0], [zAr T 0 m_was 7 x]] _ _ := G
  replace hl : lv_has ls 3 [(2, .int (nI i)), (0, .ref mo), (1, .int c_)] := hl
  refine lv_iload_n hx hb dX12_puts_12 rfl (lv_at hl 0 rfl) ?_
  refine lv_bipush (v := 7) hx hb dX12_puts_13 (by decide) ?_
  refine lv_icmp_ge (tgt := 40) hx hb dX12_puts_15 (by decide) (fun c_1 => ?_) (fun c_1 => ?_)
  · have c_1n : 7 ≤ i := (nI_leI (a := 7) (b := i) (by omega) (by omega)).mp c_1
    exact z_back hQ9 (z_vret C hr hlocks G (Nat.le_of_ble_eq_true rfl) (Nat.le_of_ble_eq_true rfl) dX12_puts_40 ⟨x, rfl, (fun j hj => hW j (by omega))⟩)
  · have c_1n : ¬ 7 ≤ i := fun q => c_1 ((nI_leI (a := 7) (b := i) (by omega) (by omega)).mpr q)
    refine lv_aload_n hx hb dX12_puts_18 rfl (lv_at hl 1 rfl) ?_
    refine z_get C G clX12 0 rfl 21 (by decide) m_fl_RX12_29 rfl dX12_puts_19 ?_
    refine lv_iload_n hx hb dX12_puts_22 rfl (lv_at hl 0 rfl) ?_
    refine lv_iload_n hx hb dX12_puts_23 rfl (lv_at hl 0 rfl) ?_
    refine lv_iload_n hx hb dX12_puts_24 rfl (lv_at hl 2 rfl) ?_
    refine lv_icmp_ne (tgt := 32) hx hb dX12_puts_25 (by decide) (fun c_2 => ?_) (fun c_2 => ?_)
    · have c_2n : ¬ (i : Int) = c_.toInt := fun q => c_2 ((fa_eq _ _).mpr (by rw [nI_toInt (n := i) (by omega)]; exact q))
      refine lv_iconst (v := 0) hx hb dX12_puts_32 (by decide) ?_
      refine z_ist C G 1 rfl (vp_in_nI (by omega) (by decide)) dX12_puts_33 (fun H locs G => ?_)
      rw [nI_clamp (by omega)] at G
      have G : zS T A s.heap s [[zO11 mo m_all m_has i_size i_next i_where i_token i_number i_word i_wrong i_farCrossing m_read i_z0 i_crossings i_inns m_posts m_shut m_here i_steps i_done c_ 0 m_was m_came m_seenAt m_rowWorth m_farBy m_used i_everywhere i_again0 i_d0 i_never i_firstCame i_longRun i_moved i_crowd i_l0 i_fitMany i_fitLeast i_fitMost m_fitPost m_fitEnd m_keptPosts i_x0], [zAr T 0 m_was 7 (upd x i 0)]] _ _ := G
      refine lv_iinc (v := nI (i + 1)) (lv' := [(2, .int (nI (i + 1))), (0, .ref mo), (1, .int c_)]) hx hb dX12_puts_34 hl (k := 0) rfl (z_inc i 1) (by decide) (zLvf_h rfl) (fun ls hl => ?_)
      refine lv_goto (tgt := 12) hx hb dX12_puts_37 (by decide) ?_
      exact ih_12 (i + 1) (upd x i 0) (show (i + 1) ≤ 7 ∧ (∀ j, j < (i + 1) → (upd x i 0) j = zOne c_ j) from ⟨by omega, (z_upS0 (f := zOne c_) hW (show (0 : Int32) = zOne c_ i from (if_neg (by omega)).symm))⟩) (show 7 - (i + 1) < 7 - i from by omega) _ _ ls G (lv_sub hl [0, 1, 2] rfl)
    · have c_2n : (i : Int) = c_.toInt := by have q := (fa_eq _ _).mp c_2; rw [nI_toInt (n := i) (by omega)] at q; exact q
      refine lv_iconst (v := 1) hx hb dX12_puts_28 (by decide) ?_
      refine lv_goto (tgt := 33) hx hb dX12_puts_29 (by decide) ?_
      refine z_ist C G 1 rfl (vp_in_nI (by omega) (by decide)) dX12_puts_33 (fun H locs G => ?_)
      rw [nI_clamp (by omega)] at G
      have G : zS T A s.heap s [[zO11 mo m_all m_has i_size i_next i_where i_token i_number i_word i_wrong i_farCrossing m_read i_z0 i_crossings i_inns m_posts m_shut m_here i_steps i_done c_ 0 m_was m_came m_seenAt m_rowWorth m_farBy m_used i_everywhere i_again0 i_d0 i_never i_firstCame i_longRun i_moved i_crowd i_l0 i_fitMany i_fitLeast i_fitMost m_fitPost m_fitEnd m_keptPosts i_x0], [zAr T 0 m_was 7 (upd x i 1)]] _ _ := G
      refine lv_iinc (v := nI (i + 1)) (lv' := [(2, .int (nI (i + 1))), (0, .ref mo), (1, .int c_)]) hx hb dX12_puts_34 hl (k := 0) rfl (z_inc i 1) (by decide) (zLvf_h rfl) (fun ls hl => ?_)
      refine lv_goto (tgt := 12) hx hb dX12_puts_37 (by decide) ?_
      exact ih_12 (i + 1) (upd x i 1) (show (i + 1) ≤ 7 ∧ (∀ j, j < (i + 1) → (upd x i 1) j = zOne c_ j) from ⟨by omega, (z_upS0 (f := zOne c_) hW (show (1 : Int32) = zOne c_ i from (if_pos (by omega)).symm))⟩) (show 7 - (i + 1) < 7 - i from by omega) _ _ ls G (lv_sub hl [0, 1, 2] rfl)
set_option maxHeartbeats 4000000 in
set_option maxRecDepth 100000 in
/-- c_fm_walks -/
theorem c_fm_walks (l : Launch) (T : zTy) (mo : Nat) (m_all : Nat) (m_has : Nat) (i_size : Int32) (i_next : Int32) (i_where : Int32) (i_token : Int32) (i_number : Int32) (i_word : Int32) (i_wrong : Int32) (i_farCrossing : Int32) (m_read : Nat) (i_z0 : Int32) (i_crossings : Int32) (i_inns : Int32) (m_posts : Nat) (m_shut : Nat) (m_here : Nat) (i_steps : Int32) (i_done : Int32) (i_at : Int32) (i_gone : Int32) (m_was : Nat) (m_came : Nat) (m_seenAt : Nat) (m_rowWorth : Nat) (m_farBy : Nat) (m_used : Nat) (i_everywhere : Int32) (i_again0 : Int32) (i_d0 : Int32) (i_never : Int32) (i_firstCame : Int32) (i_longRun : Int32) (i_moved : Int32) (i_crowd : Int32) (i_l0 : Int32) (i_fitMany : Int32) (i_fitLeast : Int32) (i_fitMost : Int32) (m_fitPost : Nat) (m_fitEnd : Nat) (m_keptPosts : Nat) (i_x0 : Int32) (f_all : Nat → Int32) (f_posts : Nat → Int32) (f_shut : Nat → Int32) (f_was : Nat → Int32) (c_ : Int32) (hL : zML f_all i_z0 i_crossings) (hc0 : 0 ≤ c_.toInt) (hc6 : c_.toInt ≤ 6) (hV : zMV (zRo f_all i_z0) f_posts) (hP : zMP f_posts) : zMi l T yX12_walks cX12_walks 3 (some .boolean) 4 0 0 [.ref mo, .int c_] [[zO11 mo m_all m_has i_size i_next i_where i_token i_number i_word i_wrong i_farCrossing m_read i_z0 i_crossings i_inns m_posts m_shut m_here i_steps i_done i_at i_gone m_was m_came m_seenAt m_rowWorth m_farBy m_used i_everywhere i_again0 i_d0 i_never i_firstCame i_longRun i_moved i_crowd i_l0 i_fitMany i_fitLeast i_fitMost m_fitPost m_fitEnd m_keptPosts i_x0], [zAr T 0 m_all 3952 f_all], [zAr T 0 m_posts 7 f_posts], [zAr T 0 m_shut 7 f_shut], [zAr T 0 m_was 7 f_was]] (fun (r : Int32) bs => ∃ (j_at : Int32) (j_gone : Int32) (g_posts : Nat → Int32) (g_was : Nat → Int32), bs = [[zO11 mo m_all m_has i_size i_next i_where i_token i_number i_word i_wrong i_farCrossing m_read i_z0 i_crossings i_inns m_posts m_shut m_here i_steps i_done j_at j_gone m_was m_came m_seenAt m_rowWorth m_farBy m_used i_everywhere i_again0 i_d0 i_never i_firstCame i_longRun i_moved i_crowd i_l0 i_fitMany i_fitLeast i_fitMost m_fitPost m_fitEnd m_keptPosts i_x0], [zAr T 0 m_all 3952 f_all], [zAr T 0 m_posts 7 g_posts], [zAr T 0 m_shut 7 f_shut], [zAr T 0 m_was 7 g_was]] ∧ zMP g_posts ∧ zMV (zRo f_all i_z0) g_posts ∧ (0 ≤ j_at.toInt ∧ j_at.toInt ≤ 6) ∧ 0 ≤ j_gone.toInt ∧ j_gone.toInt ≤ 499 ∧ (r = 1 ∧ zBit i_inns j_at = 1 ∨ r = 0 ∧ ¬ zBit i_inns j_at = 1) ∧ g_posts = (zRunN f_shut (zWo f_all i_z0 i_inns) (zLo f_all i_z0) 499 f_posts c_ 0).1 ∧ j_at = (zRunN f_shut (zWo f_all i_z0 i_inns) (zLo f_all i_z0) 499 f_posts c_ 0).2.1 ∧ j_gone = nI (zRunN f_shut (zWo f_all i_z0 i_inns) (zLo f_all i_z0) 499 f_posts c_ 0).2.2 ∧ (∃ W0 : Nat → Int32, (∀ j, j < 7 → W0 j = zOne c_ j) ∧ g_was = zWasN f_shut (zWo f_all i_z0 i_inns) (zLo f_all i_z0) 499 f_posts c_ W0)) := by
  refine zMi_of (own := RX12) (by decide) rfl (Nat.le_of_ble_eq_true rfl) ?_
  intro p e s m args below meth c A ls C hr hlocks hnm hAe G hl
  refine zHide (fun Q9 hQ9 => ?_)
  have hx := C.1
  have hb := C.2.1
  have hl : lv_has ls 3 [(0, .ref mo), (1, .int c_)] := hl
  have hz := hL.1
  have hcr := hL.cr
  refine lv_aload_n hx hb dX12_walks_0 rfl (lv_at hl 0 rfl) ?_
  refine lv_iload_n hx hb dX12_walks_1 rfl (lv_at hl 1 rfl) ?_
  refine z_Vv (bc := [[zO11 mo m_all m_has i_size i_next i_where i_token i_number i_word i_wrong i_farCrossing m_read i_z0 i_crossings i_inns m_posts m_shut m_here i_steps i_done i_at i_gone m_was m_came m_seenAt m_rowWorth m_farBy m_used i_everywhere i_again0 i_d0 i_never i_firstCame i_longRun i_moved i_crowd i_l0 i_fitMany i_fitLeast i_fitMost m_fitPost m_fitEnd m_keptPosts i_x0], [zAr T 0 m_was 7 f_was]]) (br := [[zAr T 0 m_all 3952 f_all], [zAr T 0 m_posts 7 f_posts], [zAr T 0 m_shut 7 f_shut]]) (As := [.int c_]) (rest := []) C G (c_fm_puts l T mo m_all m_has i_size i_next i_where i_token i_number i_word i_wrong i_farCrossing m_read i_z0 i_crossings i_inns m_posts m_shut m_here i_steps i_done i_at i_gone m_was m_came m_seenAt m_rowWorth m_farBy m_used i_everywhere i_again0 i_d0 i_never i_firstCame i_longRun i_moved i_crowd i_l0 i_fitMany i_fitLeast i_fitMost m_fitPost m_fitEnd m_keptPosts i_x0 f_was c_) (kV_RX12_211 C.2.2.2.2 (Nat.le_of_ble_eq_true rfl) (Nat.le_of_ble_eq_true rfl)) [0, 4] [0, 3] rfl rfl (ci := 11) (qc := (RX12, TX12, 43)) rfl rfl (List.mem_flatten.mpr ⟨_, List.mem_of_getElem? (i := 0) rfl, List.mem_cons_self⟩) rfl rfl hl.1 dX12_walks_2 (Nat.le_of_ble_eq_true rfl) (Nat.le_of_ble_eq_true rfl) (fun b1 H locs hw G => ?_)
  refine zEx1 hw ?_
  intro g_was_1
  refine zCu2 ?_
  intro hbs9 h_2
  clear hw
  subst hbs9
  have G : zS T A s.heap s [[zAr T 0 m_all 3952 f_all], [zAr T 0 m_posts 7 f_posts], [zAr T 0 m_shut 7 f_shut], [zO11 mo m_all m_has i_size i_next i_where i_token i_number i_word i_wrong i_farCrossing m_read i_z0 i_crossings i_inns m_posts m_shut m_here i_steps i_done c_ 0 m_was m_came m_seenAt m_rowWorth m_farBy m_used i_everywhere i_again0 i_d0 i_never i_firstCame i_longRun i_moved i_crowd i_l0 i_fitMany i_fitLeast i_fitMost m_fitPost m_fitEnd m_keptPosts i_x0], [zAr T 0 m_was 7 g_was_1]] _ _ := G
  refine lv_iconst (v := 1) hx hb dX12_walks_5 (by decide) ?_
  refine lv_istore_n (lv' := [(2, .int 1), (0, .ref mo), (1, .int c_)]) hx hb dX12_walks_6 rfl hl (by decide) (zLvf_h rfl) (fun ls hl => ?_)
  refine z_lp5 (T := T) 7 (fun (x : Int32) (y : Int32) (b : Int32) (xp : Nat → Int32) (xw : Nat → Int32) => [[zAr T 0 m_all 3952 f_all], [zAr T 0 m_posts 7 xp], [zAr T 0 m_shut 7 f_shut], [zO11 mo m_all m_has i_size i_next i_where i_token i_number i_word i_wrong i_farCrossing m_read i_z0 i_crossings i_inns m_posts m_shut m_here i_steps i_done x y m_was m_came m_seenAt m_rowWorth m_farBy m_used i_everywhere i_again0 i_d0 i_never i_firstCame i_longRun i_moved i_crowd i_l0 i_fitMany i_fitLeast i_fitMost m_fitPost m_fitEnd m_keptPosts i_x0], [zAr T 0 m_was 7 xw]]) (fun (x : Int32) (y : Int32) (b : Int32) (xp : Nat → Int32) (xw : Nat → Int32) => [(2, .int b), (0, .ref mo), (1, .int c_)]) (fun (x : Int32) (y : Int32) (b : Int32) (xp : Nat → Int32) (xw : Nat → Int32) => 0 ≤ x.toInt ∧ x.toInt ≤ 6 ∧ 0 ≤ y.toInt ∧ y.toInt ≤ 499 ∧ zMP xp ∧ zMV (zRo f_all i_z0) xp ∧ (0 ≤ b.toInt ∧ b.toInt ≤ 1) ∧ (b.toInt = 1 ∧ zRunN f_shut (zWo f_all i_z0 i_inns) (zLo f_all i_z0) 499 f_posts c_ 0 = zRunN f_shut (zWo f_all i_z0 i_inns) (zLo f_all i_z0) (499 - y.toInt.toNat) xp x y.toInt.toNat ∨ b.toInt = 0 ∧ zRunN f_shut (zWo f_all i_z0 i_inns) (zLo f_all i_z0) 499 f_posts c_ 0 = (xp, x, y.toInt.toNat)) ∧ (b.toInt = 1 ∧ zWasN f_shut (zWo f_all i_z0 i_inns) (zLo f_all i_z0) 499 f_posts c_ g_was_1 = zWasN f_shut (zWo f_all i_z0 i_inns) (zLo f_all i_z0) (499 - y.toInt.toNat) xp x xw ∨ b.toInt = 0 ∧ zWasN f_shut (zWo f_all i_z0 i_inns) (zLo f_all i_z0) 499 f_posts c_ g_was_1 = xw)) (fun (x : Int32) (y : Int32) (b : Int32) (xp : Nat → Int32) (xw : Nat → Int32) => (499 - y.toInt).toNat + b.toInt.toNat) ?_ c_ 0 1 f_posts g_was_1 (show 0 ≤ c_.toInt ∧ c_.toInt ≤ 6 ∧ 0 ≤ (0 : Int32).toInt ∧ (0 : Int32).toInt ≤ 499 ∧ zMP f_posts ∧ zMV (zRo f_all i_z0) f_posts ∧ (0 ≤ (1 : Int32).toInt ∧ (1 : Int32).toInt ≤ 1) ∧ ((1 : Int32).toInt = 1 ∧ zRunN f_shut (zWo f_all i_z0 i_inns) (zLo f_all i_z0) 499 f_posts c_ 0 = zRunN f_shut (zWo f_all i_z0 i_inns) (zLo f_all i_z0) (499 - (0 : Int32).toInt.toNat) f_posts c_ (0 : Int32).toInt.toNat ∨ (1 : Int32).toInt = 0 ∧ zRunN f_shut (zWo f_all i_z0 i_inns) (zLo f_all i_z0) 499 f_posts c_ 0 = (f_posts, c_, (0 : Int32).toInt.toNat)) ∧ ((1 : Int32).toInt = 1 ∧ zWasN f_shut (zWo f_all i_z0 i_inns) (zLo f_all i_z0) 499 f_posts c_ g_was_1 = zWasN f_shut (zWo f_all i_z0 i_inns) (zLo f_all i_z0) (499 - (0 : Int32).toInt.toNat) f_posts c_ g_was_1 ∨ (1 : Int32).toInt = 0 ∧ zWasN f_shut (zWo f_all i_z0 i_inns) (zLo f_all i_z0) 499 f_posts c_ g_was_1 = g_was_1) from ⟨by omega, by omega, by decide, by decide, hP, hV, by decide, (Or.inl ⟨by decide, rfl⟩), (Or.inl ⟨by decide, rfl⟩)⟩) G (lv_sub hl [0, 1, 2] rfl)
  intro x y b xp xw hI9 ih_7 H locs ls G hl
  replace hI9 : 0 ≤ x.toInt ∧ x.toInt ≤ 6 ∧ 0 ≤ y.toInt ∧ y.toInt ≤ 499 ∧ zMP xp ∧ zMV (zRo f_all i_z0) xp ∧ (0 ≤ b.toInt ∧ b.toInt ≤ 1) ∧ (b.toInt = 1 ∧ zRunN f_shut (zWo f_all i_z0 i_inns) (zLo f_all i_z0) 499 f_posts c_ 0 = zRunN f_shut (zWo f_all i_z0 i_inns) (zLo f_all i_z0) (499 - y.toInt.toNat) xp x y.toInt.toNat ∨ b.toInt = 0 ∧ zRunN f_shut (zWo f_all i_z0 i_inns) (zLo f_all i_z0) 499 f_posts c_ 0 = (xp, x, y.toInt.toNat)) ∧ (b.toInt = 1 ∧ zWasN f_shut (zWo f_all i_z0 i_inns) (zLo f_all i_z0) 499 f_posts c_ g_was_1 = zWasN f_shut (zWo f_all i_z0 i_inns) (zLo f_all i_z0) (499 - y.toInt.toNat) xp x xw ∨ b.toInt = 0 ∧ zWasN f_shut (zWo f_all i_z0 i_inns) (zLo f_all i_z0) 499 f_posts c_ g_was_1 = xw) := hI9
  refine zAn9 hI9 ?_
  intro hx0 hx6 hy0 hy9 hQ hVx hb0 hR hW9
  clear hI9
  replace G : zS T A s.heap s [[zAr T 0 m_all 3952 f_all], [zAr T 0 m_posts 7 xp], [zAr T 0 m_shut 7 f_shut], [zO11 mo m_all m_has i_size i_next i_where i_token i_number i_word i_wrong i_farCrossing m_read i_z0 i_crossings i_inns m_posts m_shut m_here i_steps i_done x y m_was m_came m_seenAt m_rowWorth m_farBy m_used i_everywhere i_again0 i_d0 i_never i_firstCame i_longRun i_moved i_crowd i_l0 i_fitMany i_fitLeast i_fitMost m_fitPost m_fitEnd m_keptPosts i_x0], [zAr T 0 m_was 7 xw]] _ _ := G
  replace hl : lv_has ls 3 [(2, .int b), (0, .ref mo), (1, .int c_)] := hl
  refine lv_aload_n hx hb dX12_walks_7 rfl (lv_at hl 1 rfl) ?_
  refine z_get C G clX12 3 rfl 20 (by decide) m_fl_RX12_208 rfl dX12_walks_8 ?_
  refine lv_sipush (v := 499) hx hb dX12_walks_11 (by decide) ?_
  refine lv_icmp_ge (tgt := 29) hx hb dX12_walks_14 (by decide) (fun c_4 => ?_) (fun c_4 => ?_)
  · have c_4n : (499 : Int) ≤ y.toInt := (fa_le _ _).mp c_4
    have hE : zRunN f_shut (zWo f_all i_z0 i_inns) (zLo f_all i_z0) 499 f_posts c_ 0 = (xp, x, y.toInt.toNat) := by rcases hR with ⟨q8, e8⟩ | ⟨q8, e8⟩ <;> first | exact e8 | (exfalso; omega) | (rw [e8, show 499 - y.toInt.toNat = 0 by omega]; rfl)
    have hF : zWasN f_shut (zWo f_all i_z0 i_inns) (zLo f_all i_z0) 499 f_posts c_ g_was_1 = xw := by rcases hW9 with ⟨q8, e8⟩ | ⟨q8, e8⟩ <;> first | exact e8 | (exfalso; omega) | (rw [e8, show 499 - y.toInt.toNat = 0 by omega]; rfl)
    refine lv_aload_n hx hb dX12_walks_29 rfl (lv_at hl 1 rfl) ?_
    refine lv_aload_n hx hb dX12_walks_30 rfl (lv_at hl 1 rfl) ?_
    refine z_get C G clX12 3 rfl 19 (by decide) m_fl_RX12_202 rfl dX12_walks_31 ?_
    refine z_Vi (bc := [[zO11 mo m_all m_has i_size i_next i_where i_token i_number i_word i_wrong i_farCrossing m_read i_z0 i_crossings i_inns m_posts m_shut m_here i_steps i_done x y m_was m_came m_seenAt m_rowWorth m_farBy m_used i_everywhere i_again0 i_d0 i_never i_firstCame i_longRun i_moved i_crowd i_l0 i_fitMany i_fitLeast i_fitMost m_fitPost m_fitEnd m_keptPosts i_x0]]) (br := [[zAr T 0 m_all 3952 f_all], [zAr T 0 m_posts 7 xp], [zAr T 0 m_shut 7 f_shut], [zAr T 0 m_was 7 xw]]) (As := [.int x]) (rest := []) C G (c_m_isInn l T mo m_all m_has i_size i_next i_where i_token i_number i_word i_wrong i_farCrossing m_read i_z0 i_crossings i_inns m_posts m_shut m_here i_steps i_done x y m_was m_came m_seenAt m_rowWorth m_farBy m_used i_everywhere i_again0 i_d0 i_never i_firstCame i_longRun i_moved i_crowd i_l0 i_fitMany i_fitLeast i_fitMost m_fitPost m_fitEnd m_keptPosts i_x0 x) (kV_RX12_178 C.2.2.2.2 (Nat.le_of_ble_eq_true rfl) (Nat.le_of_ble_eq_true rfl)) [3] [3] rfl rfl (ci := 11) (qc := (RX12, TX12, 43)) rfl rfl (List.mem_flatten.mpr ⟨_, List.mem_of_getElem? (i := 0) rfl, List.mem_cons_self⟩) rfl rfl hl.1 dX12_walks_34 (Nat.le_of_ble_eq_true rfl) (Nat.le_of_ble_eq_true rfl) (fun r_6 b1 H locs hw G => ?_)
    refine zAn2 hw ?_
    intro hbs9 hc_5
    clear hw
    subst hbs9
    have G : zS T A s.heap s [[zAr T 0 m_all 3952 f_all], [zAr T 0 m_posts 7 xp], [zAr T 0 m_shut 7 f_shut], [zAr T 0 m_was 7 xw], [zO11 mo m_all m_has i_size i_next i_where i_token i_number i_word i_wrong i_farCrossing m_read i_z0 i_crossings i_inns m_posts m_shut m_here i_steps i_done x y m_was m_came m_seenAt m_rowWorth m_farBy m_used i_everywhere i_again0 i_d0 i_never i_firstCame i_longRun i_moved i_crowd i_l0 i_fitMany i_fitLeast i_fitMost m_fitPost m_fitEnd m_keptPosts i_x0]] _ _ := G
    rcases hc_5 with ⟨rfl, h_7⟩ | ⟨rfl, h_8⟩
    · have h_7 : zInn i_inns x := h_7
      have G := G.sub (bs' := [[zO11 mo m_all m_has i_size i_next i_where i_token i_number i_word i_wrong i_farCrossing m_read i_z0 i_crossings i_inns m_posts m_shut m_here i_steps i_done x y m_was m_came m_seenAt m_rowWorth m_farBy m_used i_everywhere i_again0 i_d0 i_never i_firstCame i_longRun i_moved i_crowd i_l0 i_fitMany i_fitLeast i_fitMost m_fitPost m_fitEnd m_keptPosts i_x0], [zAr T 0 m_all 3952 f_all], [zAr T 0 m_posts 7 xp], [zAr T 0 m_shut 7 f_shut], [zAr T 0 m_was 7 xw]]) [4, 0, 1, 2, 3] rfl
      exact z_back hQ9 (z_zret C hr hlocks G (Nat.le_of_ble_eq_true rfl) (Nat.le_of_ble_eq_true rfl) dX12_walks_37 rfl ⟨x, y, xp, xw, rfl, (by assumption), (by assumption), (by first | with_reducible assumption | omega | trivial | assumption), (by first | with_reducible assumption | omega | trivial | assumption), (by first | with_reducible assumption | omega | trivial | assumption), (Or.inl ⟨rfl, by assumption⟩), (by rw [hE]), (by rw [hE]), (by rw [hE]; exact z_nI (x := y) (m := y.toInt.toNat) (by omega) (by omega)), ⟨g_was_1, h_2, hF.symm⟩⟩)
    · have h_8 : ¬ zInn i_inns x := h_8
      have G := G.sub (bs' := [[zO11 mo m_all m_has i_size i_next i_where i_token i_number i_word i_wrong i_farCrossing m_read i_z0 i_crossings i_inns m_posts m_shut m_here i_steps i_done x y m_was m_came m_seenAt m_rowWorth m_farBy m_used i_everywhere i_again0 i_d0 i_never i_firstCame i_longRun i_moved i_crowd i_l0 i_fitMany i_fitLeast i_fitMost m_fitPost m_fitEnd m_keptPosts i_x0], [zAr T 0 m_all 3952 f_all], [zAr T 0 m_posts 7 xp], [zAr T 0 m_shut 7 f_shut], [zAr T 0 m_was 7 xw]]) [4, 0, 1, 2, 3] rfl
      exact z_back hQ9 (z_zret C hr hlocks G (Nat.le_of_ble_eq_true rfl) (Nat.le_of_ble_eq_true rfl) dX12_walks_37 rfl ⟨x, y, xp, xw, rfl, (by assumption), (by assumption), (by first | with_reducible assumption | omega | trivial | assumption), (by first | with_reducible assumption | omega | trivial | assumption), (by first | with_reducible assumption | omega | trivial | assumption), (Or.inr ⟨rfl, by assumption⟩), (by rw [hE]), (by rw [hE]), (by rw [hE]; exact z_nI (x := y) (m := y.toInt.toNat) (by omega) (by omega)), ⟨g_was_1, h_2, hF.symm⟩⟩)
  · have c_4n : ¬ (499 : Int) ≤ y.toInt := fun q => c_4 ((fa_le _ _).mpr q)
    refine lv_iload_n hx hb dX12_walks_17 rfl (lv_at hl 0 rfl) ?_
    refine lv_if_eq (tgt := 29) hx hb dX12_walks_18 (by decide) (fun c_9 => ?_) (fun c_9 => ?_)
    · have c_9n : b.toInt = (0 : Int) := (fa_eq _ _).mp c_9
      have hE : zRunN f_shut (zWo f_all i_z0 i_inns) (zLo f_all i_z0) 499 f_posts c_ 0 = (xp, x, y.toInt.toNat) := by rcases hR with ⟨q8, e8⟩ | ⟨q8, e8⟩ <;> first | exact e8 | (exfalso; omega) | (rw [e8, show 499 - y.toInt.toNat = 0 by omega]; rfl)
      have hF : zWasN f_shut (zWo f_all i_z0 i_inns) (zLo f_all i_z0) 499 f_posts c_ g_was_1 = xw := by rcases hW9 with ⟨q8, e8⟩ | ⟨q8, e8⟩ <;> first | exact e8 | (exfalso; omega) | (rw [e8, show 499 - y.toInt.toNat = 0 by omega]; rfl)
      refine lv_aload_n hx hb dX12_walks_29 rfl (lv_at hl 1 rfl) ?_
      refine lv_aload_n hx hb dX12_walks_30 rfl (lv_at hl 1 rfl) ?_
      refine z_get C G clX12 3 rfl 19 (by decide) m_fl_RX12_202 rfl dX12_walks_31 ?_
      refine z_Vi (bc := [[zO11 mo m_all m_has i_size i_next i_where i_token i_number i_word i_wrong i_farCrossing m_read i_z0 i_crossings i_inns m_posts m_shut m_here i_steps i_done x y m_was m_came m_seenAt m_rowWorth m_farBy m_used i_everywhere i_again0 i_d0 i_never i_firstCame i_longRun i_moved i_crowd i_l0 i_fitMany i_fitLeast i_fitMost m_fitPost m_fitEnd m_keptPosts i_x0]]) (br := [[zAr T 0 m_all 3952 f_all], [zAr T 0 m_posts 7 xp], [zAr T 0 m_shut 7 f_shut], [zAr T 0 m_was 7 xw]]) (As := [.int x]) (rest := []) C G (c_m_isInn l T mo m_all m_has i_size i_next i_where i_token i_number i_word i_wrong i_farCrossing m_read i_z0 i_crossings i_inns m_posts m_shut m_here i_steps i_done x y m_was m_came m_seenAt m_rowWorth m_farBy m_used i_everywhere i_again0 i_d0 i_never i_firstCame i_longRun i_moved i_crowd i_l0 i_fitMany i_fitLeast i_fitMost m_fitPost m_fitEnd m_keptPosts i_x0 x) (kV_RX12_178 C.2.2.2.2 (Nat.le_of_ble_eq_true rfl) (Nat.le_of_ble_eq_true rfl)) [3] [3] rfl rfl (ci := 11) (qc := (RX12, TX12, 43)) rfl rfl (List.mem_flatten.mpr ⟨_, List.mem_of_getElem? (i := 0) rfl, List.mem_cons_self⟩) rfl rfl hl.1 dX12_walks_34 (Nat.le_of_ble_eq_true rfl) (Nat.le_of_ble_eq_true rfl) (fun r_11 b1 H locs hw G => ?_)
      refine zAn2 hw ?_
      intro hbs9 hc_10
      clear hw
      subst hbs9
      have G : zS T A s.heap s [[zAr T 0 m_all 3952 f_all], [zAr T 0 m_posts 7 xp], [zAr T 0 m_shut 7 f_shut], [zAr T 0 m_was 7 xw], [zO11 mo m_all m_has i_size i_next i_where i_token i_number i_word i_wrong i_farCrossing m_read i_z0 i_crossings i_inns m_posts m_shut m_here i_steps i_done x y m_was m_came m_seenAt m_rowWorth m_farBy m_used i_everywhere i_again0 i_d0 i_never i_firstCame i_longRun i_moved i_crowd i_l0 i_fitMany i_fitLeast i_fitMost m_fitPost m_fitEnd m_keptPosts i_x0]] _ _ := G
      rcases hc_10 with ⟨rfl, h_12⟩ | ⟨rfl, h_13⟩
      · have h_12 : zInn i_inns x := h_12
        have G := G.sub (bs' := [[zO11 mo m_all m_has i_size i_next i_where i_token i_number i_word i_wrong i_farCrossing m_read i_z0 i_crossings i_inns m_posts m_shut m_here i_steps i_done x y m_was m_came m_seenAt m_rowWorth m_farBy m_used i_everywhere i_again0 i_d0 i_never i_firstCame i_longRun i_moved i_crowd i_l0 i_fitMany i_fitLeast i_fitMost m_fitPost m_fitEnd m_keptPosts i_x0], [zAr T 0 m_all 3952 f_all], [zAr T 0 m_posts 7 xp], [zAr T 0 m_shut 7 f_shut], [zAr T 0 m_was 7 xw]]) [4, 0, 1, 2, 3] rfl
        exact z_back hQ9 (z_zret C hr hlocks G (Nat.le_of_ble_eq_true rfl) (Nat.le_of_ble_eq_true rfl) dX12_walks_37 rfl ⟨x, y, xp, xw, rfl, (by assumption), (by assumption), (by first | with_reducible assumption | omega | trivial | assumption), (by first | with_reducible assumption | omega | trivial | assumption), (by first | with_reducible assumption | omega | trivial | assumption), (Or.inl ⟨rfl, by assumption⟩), (by rw [hE]), (by rw [hE]), (by rw [hE]; exact z_nI (x := y) (m := y.toInt.toNat) (by omega) (by omega)), ⟨g_was_1, h_2, hF.symm⟩⟩)
      · have h_13 : ¬ zInn i_inns x := h_13
        have G := G.sub (bs' := [[zO11 mo m_all m_has i_size i_next i_where i_token i_number i_word i_wrong i_farCrossing m_read i_z0 i_crossings i_inns m_posts m_shut m_here i_steps i_done x y m_was m_came m_seenAt m_rowWorth m_farBy m_used i_everywhere i_again0 i_d0 i_never i_firstCame i_longRun i_moved i_crowd i_l0 i_fitMany i_fitLeast i_fitMost m_fitPost m_fitEnd m_keptPosts i_x0], [zAr T 0 m_all 3952 f_all], [zAr T 0 m_posts 7 xp], [zAr T 0 m_shut 7 f_shut], [zAr T 0 m_was 7 xw]]) [4, 0, 1, 2, 3] rfl
        exact z_back hQ9 (z_zret C hr hlocks G (Nat.le_of_ble_eq_true rfl) (Nat.le_of_ble_eq_true rfl) dX12_walks_37 rfl ⟨x, y, xp, xw, rfl, (by assumption), (by assumption), (by first | with_reducible assumption | omega | trivial | assumption), (by first | with_reducible assumption | omega | trivial | assumption), (by first | with_reducible assumption | omega | trivial | assumption), (Or.inr ⟨rfl, by assumption⟩), (by rw [hE]), (by rw [hE]), (by rw [hE]; exact z_nI (x := y) (m := y.toInt.toNat) (by omega) (by omega)), ⟨g_was_1, h_2, hF.symm⟩⟩)
    · have c_9n : ¬ b.toInt = (0 : Int) := fun q => c_9 ((fa_eq _ _).mpr q)
      refine lv_aload_n hx hb dX12_walks_21 rfl (lv_at hl 1 rfl) ?_
      refine z_Vi (bc := [[zO11 mo m_all m_has i_size i_next i_where i_token i_number i_word i_wrong i_farCrossing m_read i_z0 i_crossings i_inns m_posts m_shut m_here i_steps i_done x y m_was m_came m_seenAt m_rowWorth m_farBy m_used i_everywhere i_again0 i_d0 i_never i_firstCame i_longRun i_moved i_crowd i_l0 i_fitMany i_fitLeast i_fitMost m_fitPost m_fitEnd m_keptPosts i_x0], [zAr T 0 m_all 3952 f_all], [zAr T 0 m_posts 7 xp], [zAr T 0 m_shut 7 f_shut], [zAr T 0 m_was 7 xw]]) (br := []) (As := []) (rest := []) C G (c_fm_stepsOn l T mo m_all m_has i_size i_next i_where i_token i_number i_word i_wrong i_farCrossing m_read i_z0 i_crossings i_inns m_posts m_shut m_here i_steps i_done x y m_was m_came m_seenAt m_rowWorth m_farBy m_used i_everywhere i_again0 i_d0 i_never i_firstCame i_longRun i_moved i_crowd i_l0 i_fitMany i_fitLeast i_fitMost m_fitPost m_fitEnd m_keptPosts i_x0 f_all xp f_shut xw (by first | with_reducible assumption | with_reducible rfl | omega | assumption | rfl) (by first | with_reducible assumption | with_reducible rfl | omega | assumption | rfl) (by first | with_reducible assumption | with_reducible rfl | omega | assumption | rfl) (by first | with_reducible assumption | with_reducible rfl | omega | assumption | rfl) (by first | with_reducible assumption | with_reducible rfl | omega | assumption | rfl) (by first | with_reducible assumption | with_reducible rfl | omega | assumption | rfl) (by first | with_reducible assumption | with_reducible rfl | omega | assumption | rfl)) (kV_RX12_214 C.2.2.2.2 (Nat.le_of_ble_eq_true rfl) (Nat.le_of_ble_eq_true rfl)) [3, 0, 1, 2, 4] [0, 0, 0, 0, 0] rfl rfl (ci := 11) (qc := (RX12, TX12, 43)) rfl rfl (List.mem_flatten.mpr ⟨_, List.mem_of_getElem? (i := 0) rfl, List.mem_cons_self⟩) rfl rfl hl.1 dX12_walks_22 (Nat.le_of_ble_eq_true rfl) (Nat.le_of_ble_eq_true rfl) (fun r_24 b1 H locs hw G => ?_)
      refine zEx4 hw ?_
      intro j_at_14 j_gone_15 g_posts_16 g_was_17
      refine zCu7 ?_
      intro hbs9 h_18 h_19 h_20 h_21 h_22 hc_23
      clear hw
      subst hbs9
      have G : zS T A s.heap s [[zO11 mo m_all m_has i_size i_next i_where i_token i_number i_word i_wrong i_farCrossing m_read i_z0 i_crossings i_inns m_posts m_shut m_here i_steps i_done j_at_14 j_gone_15 m_was m_came m_seenAt m_rowWorth m_farBy m_used i_everywhere i_again0 i_d0 i_never i_firstCame i_longRun i_moved i_crowd i_l0 i_fitMany i_fitLeast i_fitMost m_fitPost m_fitEnd m_keptPosts i_x0], [zAr T 0 m_all 3952 f_all], [zAr T 0 m_posts 7 g_posts_16], [zAr T 0 m_shut 7 f_shut], [zAr T 0 m_was 7 g_was_17]] _ _ := G
      rcases hc_23 with ⟨rfl, h_25, h_26, h_27, h_28⟩ | ⟨rfl, h_29, h_30, h_31, h_32⟩
      · have h_25 : ¬ zStep xp f_shut (zWo f_all i_z0 i_inns) (zLo f_all i_z0) x = -1 := h_25
        have h_26 : j_at_14 = zStep xp f_shut (zWo f_all i_z0 i_inns) (zLo f_all i_z0) x := h_26
        have h_27 : j_gone_15.toInt = y.toInt + 1 := h_27
        have h_28 : g_was_17 = upd xw j_at_14.toNatClampNeg (xw j_at_14.toNatClampNeg + 1) := h_28
        refine lv_istore_n (lv' := [(2, .int 1), (0, .ref mo), (1, .int c_)]) hx hb dX12_walks_25 rfl hl (by decide) (zLvf_h rfl) (fun ls hl => ?_)
        refine lv_goto (tgt := 7) hx hb dX12_walks_26 (by decide) ?_
        have G := G.sub (bs' := [[zAr T 0 m_all 3952 f_all], [zAr T 0 m_posts 7 g_posts_16], [zAr T 0 m_shut 7 f_shut], [zO11 mo m_all m_has i_size i_next i_where i_token i_number i_word i_wrong i_farCrossing m_read i_z0 i_crossings i_inns m_posts m_shut m_here i_steps i_done j_at_14 j_gone_15 m_was m_came m_seenAt m_rowWorth m_farBy m_used i_everywhere i_again0 i_d0 i_never i_firstCame i_longRun i_moved i_crowd i_l0 i_fitMany i_fitLeast i_fitMost m_fitPost m_fitEnd m_keptPosts i_x0], [zAr T 0 m_was 7 g_was_17]]) [1, 2, 3, 0, 4] rfl
        exact ih_7 j_at_14 j_gone_15 1 g_posts_16 g_was_17 (show 0 ≤ j_at_14.toInt ∧ j_at_14.toInt ≤ 6 ∧ 0 ≤ j_gone_15.toInt ∧ j_gone_15.toInt ≤ 499 ∧ zMP g_posts_16 ∧ zMV (zRo f_all i_z0) g_posts_16 ∧ (0 ≤ (1 : Int32).toInt ∧ (1 : Int32).toInt ≤ 1) ∧ ((1 : Int32).toInt = 1 ∧ zRunN f_shut (zWo f_all i_z0 i_inns) (zLo f_all i_z0) 499 f_posts c_ 0 = zRunN f_shut (zWo f_all i_z0 i_inns) (zLo f_all i_z0) (499 - j_gone_15.toInt.toNat) g_posts_16 j_at_14 j_gone_15.toInt.toNat ∨ (1 : Int32).toInt = 0 ∧ zRunN f_shut (zWo f_all i_z0 i_inns) (zLo f_all i_z0) 499 f_posts c_ 0 = (g_posts_16, j_at_14, j_gone_15.toInt.toNat)) ∧ ((1 : Int32).toInt = 1 ∧ zWasN f_shut (zWo f_all i_z0 i_inns) (zLo f_all i_z0) 499 f_posts c_ g_was_1 = zWasN f_shut (zWo f_all i_z0 i_inns) (zLo f_all i_z0) (499 - j_gone_15.toInt.toNat) g_posts_16 j_at_14 g_was_17 ∨ (1 : Int32).toInt = 0 ∧ zWasN f_shut (zWo f_all i_z0 i_inns) (zLo f_all i_z0) 499 f_posts c_ g_was_1 = g_was_17) from ⟨by omega, by omega, by omega, by omega, (by assumption), (by assumption), by decide, (Or.inl ⟨by decide, by rcases hR with ⟨q8, e8⟩ | ⟨q8, e8⟩ <;> first | (exfalso; omega) | (rw [e8, show 499 - y.toInt.toNat = (499 - j_gone_15.toInt.toNat) + 1 by omega, zRunN, if_neg h_25, ← h_26, ← h_22, show y.toInt.toNat + 1 = j_gone_15.toInt.toNat by omega])⟩), (Or.inl ⟨by decide, by rcases hW9 with ⟨q8, e8⟩ | ⟨q8, e8⟩ <;> first | (exfalso; omega) | (rw [e8, show 499 - y.toInt.toNat = (499 - j_gone_15.toInt.toNat) + 1 by omega, zWasN, if_neg h_25, ← h_26, ← h_22, show zVi xw j_at_14 = g_was_17 from (if_pos ⟨by omega, by omega⟩).trans h_28.symm])⟩)⟩) (show (499 - j_gone_15.toInt).toNat + (1 : Int32).toInt.toNat < (499 - y.toInt).toNat + b.toInt.toNat from by have e1 : (1 : Int32).toInt = 1 := rfl; have e0 : (0 : Int32).toInt = 0 := rfl; omega) _ _ ls G (lv_sub hl [0, 1, 2] rfl)
      · have h_29 : zStep xp f_shut (zWo f_all i_z0 i_inns) (zLo f_all i_z0) x = -1 := h_29
        have h_30 : j_at_14 = x := h_30
        have h_31 : j_gone_15 = y := h_31
        have h_32 : g_was_17 = xw := h_32
        have hg9 := congrArg Int32.toInt h_31
        refine lv_istore_n (lv' := [(2, .int 0), (0, .ref mo), (1, .int c_)]) hx hb dX12_walks_25 rfl hl (by decide) (zLvf_h rfl) (fun ls hl => ?_)
        refine lv_goto (tgt := 7) hx hb dX12_walks_26 (by decide) ?_
        have G := G.sub (bs' := [[zAr T 0 m_all 3952 f_all], [zAr T 0 m_posts 7 g_posts_16], [zAr T 0 m_shut 7 f_shut], [zO11 mo m_all m_has i_size i_next i_where i_token i_number i_word i_wrong i_farCrossing m_read i_z0 i_crossings i_inns m_posts m_shut m_here i_steps i_done j_at_14 j_gone_15 m_was m_came m_seenAt m_rowWorth m_farBy m_used i_everywhere i_again0 i_d0 i_never i_firstCame i_longRun i_moved i_crowd i_l0 i_fitMany i_fitLeast i_fitMost m_fitPost m_fitEnd m_keptPosts i_x0], [zAr T 0 m_was 7 g_was_17]]) [1, 2, 3, 0, 4] rfl
        exact ih_7 j_at_14 j_gone_15 0 g_posts_16 g_was_17 (show 0 ≤ j_at_14.toInt ∧ j_at_14.toInt ≤ 6 ∧ 0 ≤ j_gone_15.toInt ∧ j_gone_15.toInt ≤ 499 ∧ zMP g_posts_16 ∧ zMV (zRo f_all i_z0) g_posts_16 ∧ (0 ≤ (0 : Int32).toInt ∧ (0 : Int32).toInt ≤ 1) ∧ ((0 : Int32).toInt = 1 ∧ zRunN f_shut (zWo f_all i_z0 i_inns) (zLo f_all i_z0) 499 f_posts c_ 0 = zRunN f_shut (zWo f_all i_z0 i_inns) (zLo f_all i_z0) (499 - j_gone_15.toInt.toNat) g_posts_16 j_at_14 j_gone_15.toInt.toNat ∨ (0 : Int32).toInt = 0 ∧ zRunN f_shut (zWo f_all i_z0 i_inns) (zLo f_all i_z0) 499 f_posts c_ 0 = (g_posts_16, j_at_14, j_gone_15.toInt.toNat)) ∧ ((0 : Int32).toInt = 1 ∧ zWasN f_shut (zWo f_all i_z0 i_inns) (zLo f_all i_z0) 499 f_posts c_ g_was_1 = zWasN f_shut (zWo f_all i_z0 i_inns) (zLo f_all i_z0) (499 - j_gone_15.toInt.toNat) g_posts_16 j_at_14 g_was_17 ∨ (0 : Int32).toInt = 0 ∧ zWasN f_shut (zWo f_all i_z0 i_inns) (zLo f_all i_z0) 499 f_posts c_ g_was_1 = g_was_17) from ⟨by omega, by omega, by omega, by omega, (by assumption), (by assumption), by decide, (Or.inr ⟨by decide, by rcases hR with ⟨q8, e8⟩ | ⟨q8, e8⟩ <;> first | (exfalso; omega) | (rw [e8, show 499 - y.toInt.toNat = (498 - y.toInt.toNat) + 1 by omega, zRunN, if_pos h_29, ← h_22, h_30, h_31])⟩), (Or.inr ⟨by decide, by rcases hW9 with ⟨q8, e8⟩ | ⟨q8, e8⟩ <;> first | (exfalso; omega) | (rw [e8, show 499 - y.toInt.toNat = (498 - y.toInt.toNat) + 1 by omega, zWasN, if_pos h_29, h_32])⟩)⟩) (show (499 - j_gone_15.toInt).toNat + (0 : Int32).toInt.toNat < (499 - y.toInt).toNat + b.toInt.toNat from by have e1 : (1 : Int32).toInt = 1 := rfl; have e0 : (0 : Int32).toInt = 0 := rfl; omega) _ _ ls G (lv_sub hl [0, 1, 2] rfl)
abbrev zS0 : Nat → Int32 := fun _ => 0
def kW (cr inn : Int32) (k1 : Nat → Int32) (j : Nat) : Int32 := zWays cr inn k1 (nI j)
def pW (f : Nat → Int32) (z : Int32) : Nat → Int32 := zWo f z (f (z.toInt.toNat + 1))
theorem zLs_rf {W L : Nat → Int32} : zLs W L L := fun _ _ _ _ _ => rfl
/-- the class's rows of a land walk as the record's -/
theorem zLnd_w {cr inn z : Int32} {k1 k2 k3 k4 f : Nat → Int32} {B : Nat} (h : zLnd cr inn k1 k2 k3 k4 (fun j => f (B + j))) (hF : zLF (fun j => f (B + j))) (hz : z.toInt.toNat = B) : (∀ j, j < 7 → kW cr inn k1 j = pW f z j) ∧ zLs (kW cr inn k1) k2 (zLo f z) ∧ (∀ j, j < 7 → k3 j = zPo f z j) ∧ zP3 k3 (kW cr inn k1) ∧ cr = f z.toInt.toNat ∧ inn = f (z.toInt.toNat + 1) := by
  obtain ⟨ha, hab, hi, hd, hx, hr⟩ := h
  obtain ⟨hf0, hf1, hf2⟩ := hF
  have ha : cr = f B := ha
  have hab : 0 ≤ (f B).toInt ∧ (f B).toInt ≤ 7 := hab
  have hi : inn = f (B + 1) := hi
  have hd : ∀ j : Nat, j < 7 → k1 j = f (B + (2 + j)) ∧ k3 j = f (B + (9 + j)) ∧ k4 j = f (B + (16 + j)) := hd
  have hx : ∀ j : Nat, j < 7 → (f B).toInt ≤ (j : Int) → k1 j = 0 := hx
  have hr : ∀ j r : Nat, j < 7 → r < 4 → (r : Int) < (k1 j).toInt → k2 (4 * j + r) = f (B + (23 + 4 * j + r)) := hr
  have hf1 : ∀ c : Nat, c < 7 → (0 ≤ (f (B + (2 + c))).toInt ∧ (f (B + (2 + c))).toInt ≤ 4) ∧ (0 ≤ (f (B + (9 + c))).toInt ∧ (f (B + (9 + c))).toInt ≤ 3) ∧ 0 ≤ (f (B + (16 + c))).toInt ∧ (f (B + (16 + c))).toInt ≤ 9 := hf1
  have hw : ∀ j : Nat, j < 7 → kW cr inn k1 j = if zBit inn (nI j) = 1 then 0 else k1 j := fun j hj => by
    have t := nI_toInt (n := j) (by omega)
    have t2 := nI_clamp (n := j) (by omega)
    have hcr : cr.toInt = (f B).toInt := by rw [ha]
    unfold kW zWays
    by_cases b : zBit inn (nI j) = 1
    · rw [if_pos b, if_neg (fun q => zBit_o b q.2.2.2)]
    · rw [if_neg b]
      by_cases q : (j : Int) < (f B).toInt
      · rw [if_pos ⟨by omega, by omega, by omega, zBit_n b⟩, t2]
      · rw [if_neg (fun q2 => by omega), hx j hj (by omega)]
  have hp : ∀ j, j < 7 → kW cr inn k1 j = pW f z j := fun j hj => by
    rw [hw j hj]
    unfold pW zWo zRo
    rw [hz, ← hi, (hd j hj).1]
  have hk0 : (0 : Int32).toInt = 0 := rfl
  have hk : ∀ j, j < 7 → 0 ≤ (kW cr inn k1 j).toInt ∧ (kW cr inn k1 j).toInt ≤ (k1 j).toInt ∧ (k1 j).toInt ≤ 4 := fun j hj => by
    have q := (hf1 j hj).1
    rw [hw j hj, (hd j hj).1]
    split
    · rw [hk0]; exact ⟨by omega, q.1, q.2⟩
    · exact ⟨q.1, by omega, q.2⟩
  refine ⟨hp, fun j r hj hr4 hq => ?_, fun j hj => ?_, fun j hj => ⟨⟨(hk j hj).1, by have := hk j hj; omega⟩, ?_⟩, by rw [hz]; exact ha, by rw [hz]; exact hi⟩
  · rw [hr j r hj hr4 (by have := hk j hj; omega)]
    unfold zLo
    rw [hz]
    exact congrArg f (by omega)
  · unfold zPo
    rw [hz]
    exact (hd j hj).2.1
  · rw [(hd j hj).2.1]
    have q := (hf1 j hj).2.1
    exact ⟨q.1, by omega⟩
/-- a land's row as it can be kept: posts point to roads, inns are crossings that are there, roads lead to such -/
def zVR (R : Nat → Int32) : Prop := ∀ c, c < 7 → ((R (9 + c)).toInt = 0 ∨ (R (9 + c)).toInt < (R (2 + c)).toInt) ∧ ((R 0).toInt ≤ (c : Int) → zBit (R 1) (nI c) = 0) ∧ ∀ r : Nat, r < 4 → (r : Int) < (R (2 + c)).toInt → (R (23 + 4 * c + r)).toInt < (R 0).toInt
theorem zVR_cg {R R' : Nat → Int32} (e : ∀ j, j < 51 → R' j = R j) (h : zVR R) : zVR R' := by
  intro c hc
  obtain ⟨a, b, d⟩ := h c hc
  refine ⟨?_, ?_, fun r hr hq => ?_⟩
  · rw [e _ (by omega), e _ (by omega)]; exact a
  · rw [e _ (by omega), e _ (by omega)]; exact b
  · rw [e _ (by omega)] at hq
    rw [e _ (by omega), e _ (by omega)]
    exact d r hr hq
/-- so of each land that is kept, told or in an image -/
def zVA (f : Nat → Int32) : Prop := ∀ i k, i < 4 → k < 2 → zVR (fun j => f (988 * i + (610 + 51 * k + j)))
theorem zVA_0 {f : Nat → Int32} {z : Int32} (h : zVA f) (hz : z.toInt = 610 ∨ z.toInt = 661) : zVR (fun j => f (z.toInt.toNat + j)) := by
  rcases hz with q | q
  · exact zVR_cg (fun j _ => congrArg f (by omega)) (h 0 0 (by decide) (by decide))
  · exact zVR_cg (fun j _ => congrArg f (by omega)) (h 0 1 (by decide) (by decide))
theorem zVA_z {f P : Nat → Int32} {z : Int32} (h : zVA f) (hz : z.toInt = 610 ∨ z.toInt = 661) (hP : ∀ j, j < 7 → P j = zPt f z (nI j)) : zMV (zRo f z) P := by
  intro c hc
  rw [hP c hc]
  have e := nI_toInt (n := c) (by omega)
  have e1 : zPt f z (nI c) = f (z.toInt.toNat + (9 + c)) := congrArg f (by omega)
  rw [e1]
  exact Or.inr (zVA_0 h hz c hc).1
theorem zPt_o {f P : Nat → Int32} {z : Int32} (hP : ∀ j, j < 7 → P j = zPt f z (nI j)) : ∀ j, j < 7 → P j = zPo f z j := fun j hj => (hP j hj).trans (by
  have e := nI_toInt (n := j) (by omega)
  exact congrArg f (by omega))
/-- the reference's rows are a walk's rows -/
theorem zP3_m {f P : Nat → Int32} {z cr n : Int32} (h : zML f z cr) (hP : zMP P) : zP3 P (zWo f z n) := by
  intro j hj
  have e := nI_toInt (n := j) (by omega)
  have r : 0 ≤ (zRo f z j).toInt ∧ (zRo f z j).toInt ≤ 4 := (h.2.2.2.1 j hj).1
  have p := hP j hj
  refine ⟨?_, p.1, by omega⟩
  unfold zWo
  split
  · exact ⟨by decide, by decide⟩
  · exact r
theorem zA_2 {r r' x no : Int32} {fk f : Nat → Int32} {a0 a1 b0 b1 : Int32} (hk : fk 0 = f 0) (hq : (f 0).toInt ≤ 2) (e0 : a0 = b0) (e1 : a1 = b1) (F1 : (x.toInt < 0 ∨ (fk 0).toInt ≤ x.toInt ∨ 2 ≤ x.toInt) ∧ r = no ∨ x.toInt = 0 ∧ 0 < (fk 0).toInt ∧ r = a0 ∨ x.toInt = 1 ∧ 1 < (fk 0).toInt ∧ r = a1) (F2 : (x.toInt < 0 ∨ (f 0).toInt ≤ x.toInt) ∧ r' = no ∨ x.toInt = 0 ∧ 0 < (f 0).toInt ∧ r' = b0 ∨ x.toInt = 1 ∧ 1 < (f 0).toInt ∧ r' = b1) : r = r' := by
  rw [hk] at F1
  rcases F1 with ⟨a, b⟩ | ⟨a, b, c⟩ | ⟨a, b, c⟩ <;> rcases F2 with ⟨d, e⟩ | ⟨d, e, g⟩ | ⟨d, e, g⟩ <;> first | (exfalso; omega) | (rw [b, e]; done) | (rw [c, g, e0]; done) | (rw [c, g, e1]; done)
def pBk (a : pS) : Prop := ¬ a.2.1.toInt = 0 → ¬ a.2.2.1.toInt = 0
section PBK
variable {k : pT} {a : pS}
theorem pBk_ends (h : pBk a) : pBk (pEnds k a) := by
  unfold pEnds
  split
  · exact fun _ => by show ¬ (1 : Int32).toInt = 0; decide
  · exact h
theorem pBk_also {kd w : Int32} (h : pBk a) : pBk (pAlso kd w a) := by
  unfold pAlso
  split
  · exact h
  · rename_i q
    exact fun q2 => absurd (Or.inl q2) q
theorem pBk_num {lo hi : Int32} (h : pBk a) : pBk (pNum k lo hi a).2 := by
  unfold pNum
  split
  · exact pBk_ends h
  · split
    · exact h
    · exact pBk_also (kd := 2) (w := nI (pWh k a.1)) h
theorem pBk_word {lo hi : Nat} (h : pBk a) : pBk (pWord k lo hi a).2 := by
  unfold pWord
  split
  · exact pBk_ends h
  · exact h
theorem pBk_endL (h : pBk a) : pBk (pEndL k a) := by
  unfold pEndL
  split
  · exact h
  · exact pBk_ends h
theorem pBk_cr (h : pBk a) : pBk (pCr k a).2 := pBk_num (k := k) (lo := 0) (hi := 6) h
theorem pBk_roads : ∀ (i m : Nat) (a : pS) (f : Nat → Int32), pBk a → pBk (pRoads k i m a f).2.1
  | 0, m, a, f, h => h
  | i + 1, m, a, f, h => by
    unfold pRoads
    split
    · refine pBk_roads i _ _ _ (pBk_cr ?_)
      split
      · exact pBk_also h
      · exact h
    · exact h
theorem pBk_db {m : Int} {w : Int32} {f : Nat → Int32} (h : pBk a) : pBk (pDB m w f a) := by
  unfold pDB
  split
  · exact pBk_also h
  · exact h
theorem pBk_other {d : Nat} {w : Int32} {f : Nat → Int32} (h : pBk a) : pBk (pOther k d w a f).1 := by
  unfold pOther
  split
  · exact h
  · split
    · exact pBk_roads 601 0 _ _ (pBk_db h)
    · split
      · exact pBk_cr h
      · exact pBk_num (pBk_cr h)
theorem pBk_land {f : Nat → Int32} (h : pBk a) : pBk (pLand k a f).1 := pBk_endL (pBk_other (pBk_word h))
theorem pBk_lines : ∀ (i : Nat) (a : pS) (f : Nat → Int32), pBk a → pBk (pLines k 0 i a f).1
  | 0, a, f, h => h
  | i + 1, a, f, h => by
    unfold pLines
    split
    · refine pBk_lines i _ _ ?_
      rw [show pLine k 0 a f = pLand k a f from if_pos rfl]
      exact pBk_land h
    · exact h
end PBK
/-- inns told: of crossings that were told -/
def zIq (inn fa : Int32) : Prop := ∃ t : Nat, t < 128 ∧ inn = nI t ∧ (-1 ≤ fa.toInt ∧ fa.toInt ≤ 6) ∧ ∀ d : Nat, d ≤ 7 → fa.toInt < (d : Int) → t / 2 ^ d = 0
theorem zIq_m {inn fa fb : Int32} (h : zIq inn fa) (h1 : fa.toInt ≤ fb.toInt) (h2 : fb.toInt ≤ 6) : zIq inn fb := by
  obtain ⟨t, ht, e, hf, hd⟩ := h
  exact ⟨t, ht, e, ⟨by omega, h2⟩, fun d hd8 hq => hd d hd8 (by omega)⟩
theorem zIq_t {inn fa c : Int32} (h : zIq inn fa) (hc : 0 ≤ c.toInt ∧ c.toInt ≤ 6) : zIq (inn ||| ((1 : Int32) <<< (c &&& 31))) (if fa.toInt < c.toInt then c else fa) := by
  obtain ⟨t, ht, rfl, hf, hd⟩ := h
  have ec : c = nI c.toInt.toNat := z_nI (by omega) (by omega)
  have k1 := zTof_k1 t ht c.toInt.toNat (by omega)
  rw [← ec] at k1
  refine ⟨t ||| 2 ^ c.toInt.toNat, k1.2, k1.1, ?_, fun d hd8 hq => (zTof_k2 t ht c.toInt.toNat (by omega) d (by omega)).mpr ?_⟩
  · split <;> omega
  · split at hq
    · exact ⟨hd d hd8 (by omega), by omega⟩
    · exact ⟨hd d hd8 hq, by omega⟩
theorem zIq_b : ∀ t, t < 128 → ∀ j, j < 7 → t / 2 ^ j = 0 → zBit (nI t) (nI j) = 0 := by decide +kernel
theorem zIq_0 : zIq 0 (-1) := ⟨0, by decide, rfl, by decide, fun d _ _ => Nat.zero_div _⟩
/-- roads told lead to crossings that were told -/
def zJq (f : Nat → Int32) (fa : Int32) : Prop := ∀ c r : Nat, c < 7 → r < 4 → (r : Int) < (f (2 + c)).toInt → (f (23 + 4 * c + r)).toInt ≤ fa.toInt
theorem zJq_m {f : Nat → Int32} {fa fb : Int32} (h : zJq f fa) (q : fa.toInt ≤ fb.toInt) : zJq f fb := fun c r hc hr hq => Int.le_trans (h c r hc hr hq) q
theorem zJq_l {f : Nat → Int32} {fa fb v : Int32} {k : Nat} (h : zJq f fa) (q : fa.toInt ≤ fb.toInt) (hv : v.toInt ≤ fb.toInt) (hk : 23 ≤ k) : zJq (upd f k v) fb := by
  intro c r hc hr hq
  rw [z_ne (by omega)] at hq
  by_cases e : 23 + 4 * c + r = k
  · rw [z_eq e]; exact hv
  · rw [z_ne e]; exact Int.le_trans (h c r hc hr hq) q
theorem zJq_o {f : Nat → Int32} {fa v : Int32} {k : Nat} (h : zJq f fa) (hk : k < 23) (hk2 : ¬ (2 ≤ k ∧ k < 9)) : zJq (upd f k v) fa := by
  intro c r hc hr hq
  rw [z_ne (by omega)] at hq
  rw [z_ne (by omega)]
  exact h c r hc hr hq
section PFA
variable {k : pT} {a : pS}
theorem pEnds_a : (pEnds k a).2.2.2.2 = a.2.2.2.2 := by
  unfold pEnds
  split <;> rfl
theorem pAlso_a {kd w : Int32} : (pAlso kd w a).2.2.2.2 = a.2.2.2.2 := by
  unfold pAlso
  split <;> rfl
theorem pNum_a {lo hi : Int32} : (pNum k lo hi a).2.2.2.2.2 = a.2.2.2.2 := by
  unfold pNum
  split
  · exact pEnds_a
  · split
    · rfl
    · exact pAlso_a
theorem pWord_a {lo hi : Nat} : (pWord k lo hi a).2.2.2.2.2 = a.2.2.2.2 := by
  unfold pWord
  split
  · exact pEnds_a
  · rfl
theorem pEndL_aa : (pEndL k a).2.2.2.2 = a.2.2.2.2 := by
  unfold pEndL
  split
  · rfl
  · exact pEnds_a
theorem pNum_b : 0 ≤ (pNum k 0 6 a).1.toInt ∧ (pNum k 0 6 a).1.toInt ≤ 6 := by
  unfold pNum
  split
  · exact ⟨by show (0 : Int) ≤ (0 : Int32).toInt; decide, by show (0 : Int32).toInt ≤ 6; decide⟩
  · split
    · rename_i q
      exact q
    · exact ⟨by show (0 : Int) ≤ (0 : Int32).toInt; decide, by show (0 : Int32).toInt ≤ 6; decide⟩
theorem pCr_a : (pCr k a).2.2.2.2.2 = if a.2.2.2.2.toInt < (pNum k 0 6 a).1.toInt then (pNum k 0 6 a).1 else a.2.2.2.2 := by
  have e : (pCr k a).2.2.2.2.2 = if (pNum k 0 6 a).2.2.2.2.2.toInt < (pNum k 0 6 a).1.toInt then (pNum k 0 6 a).1 else (pNum k 0 6 a).2.2.2.2.2 := rfl
  rw [e, pNum_a]
theorem zIq_cr {inn : Int32} (h : zIq inn a.2.2.2.2) : zIq inn (pCr k a).2.2.2.2.2 := by
  have b := pNum_b (k := k) (a := a)
  have hf : -1 ≤ a.2.2.2.2.toInt ∧ a.2.2.2.2.toInt ≤ 6 := by
    obtain ⟨t, -, -, hf, -⟩ := h
    exact hf
  rw [pCr_a]
  refine zIq_m h ?_ ?_
  · split <;> omega
  · split <;> omega
theorem pCr_m : a.2.2.2.2.toInt ≤ (pCr k a).2.2.2.2.2.toInt ∧ (pCr k a).1.toInt ≤ (pCr k a).2.2.2.2.2.toInt := by
  rw [pCr_a]
  show a.2.2.2.2.toInt ≤ (if a.2.2.2.2.toInt < (pNum k 0 6 a).1.toInt then (pNum k 0 6 a).1 else a.2.2.2.2).toInt ∧ (pNum k 0 6 a).1.toInt ≤ (if a.2.2.2.2.toInt < (pNum k 0 6 a).1.toInt then (pNum k 0 6 a).1 else a.2.2.2.2).toInt
  split <;> omega
/-- the roads of a crossing, while they are told -/
def zJm (f : Nat → Int32) (fa : Int32) (m : Nat) : Prop := zJq f fa ∧ ∀ r : Nat, r < m → r < 4 → (f 0).toInt < 7 → (f (23 + 4 * (f 0).toInt.toNat + r)).toInt ≤ fa.toInt
theorem zIq_roads {inn cr : Int32} : ∀ (i m : Nat) (a : pS) (f : Nat → Int32), m ≤ 4 → f 1 = inn → f 0 = cr → zIq inn a.2.2.2.2 → zJm f a.2.2.2.2 m → ((pRoads k i m a f).2.2 1 = inn ∧ (pRoads k i m a f).2.2 0 = cr ∧ (pRoads k i m a f).1 ≤ 4) ∧ zIq inn (pRoads k i m a f).2.1.2.2.2.2 ∧ zJm (pRoads k i m a f).2.2 (pRoads k i m a f).2.1.2.2.2.2 (pRoads k i m a f).1
  | 0, m, a, f, hm, e, e0, h, hJ => ⟨⟨e, e0, hm⟩, h, hJ⟩
  | i + 1, m, a, f, hm, e, e0, h, hJ => by
    have hx : ∀ b : pS, b.2.2.2.2 = a.2.2.2.2 → zIq inn (pCr k b).2.2.2.2.2 ∧ zJm (if (f 0).toInt < 7 ∧ m < 4 then upd f (23 + 4 * (f 0).toInt.toNat + m) (pCr k b).1 else f) (pCr k b).2.2.2.2.2 (if m < 4 then m + 1 else 4) := by
      intro b hb
      have hm2 := pCr_m (k := k) (a := b)
      rw [hb] at hm2
      refine ⟨zIq_cr (by rw [hb]; exact h), ?_⟩
      by_cases q : (f 0).toInt < 7 ∧ m < 4
      · rw [if_pos q, if_pos q.2]
        refine ⟨zJq_l hJ.1 hm2.1 hm2.2 (by omega), fun r hr hr4 h7 => ?_⟩
        rw [show upd f (23 + 4 * (f 0).toInt.toNat + m) (pCr k b).1 0 = f 0 from z_ne (by omega)]
        by_cases t : r = m
        · rw [z_eq (by omega)]
          exact hm2.2
        · rw [z_ne (by omega)]
          exact Int.le_trans (hJ.2 r (by omega) hr4 q.1) hm2.1
      · rw [if_neg q]
        refine ⟨zJq_m hJ.1 hm2.1, fun r hr hr4 h7 => Int.le_trans (hJ.2 r ?_ hr4 h7) hm2.1⟩
        by_cases t : m < 4
        · exact absurd ⟨h7, t⟩ q
        · omega
    unfold pRoads
    split
    · have hb : (if m = 4 then pAlso 3 (nI (pWh k a.1)) a else a).2.2.2.2 = a.2.2.2.2 := by
        split
        · exact pAlso_a
        · rfl
      have hy := hx _ hb
      refine zIq_roads i _ _ _ (by split <;> omega) ?_ ?_ hy.1 hy.2
      · split
        · rw [z_ne (by omega)]; exact e
        · exact e
      · split
        · rw [z_ne (by omega)]; exact e0
        · exact e0
    · exact ⟨⟨e, e0, hm⟩, h, hJ⟩
/-- what holds of a land's row while it is read -/
def zKv (f : Nat → Int32) (fa : Int32) : Prop := zIq (f 1) fa ∧ zJq f fa ∧ 0 ≤ (f 0).toInt ∧ (f 0).toInt ≤ 7
theorem zKv_other {d : Nat} {w : Int32} {f : Nat → Int32} (h : zKv f a.2.2.2.2) : zKv (pOther k d w a f).2 (pOther k d w a f).1.2.2.2.2 := by
  obtain ⟨hI, hJ, h0⟩ := h
  unfold pOther
  split
  · exact ⟨hI, hJ, h0⟩
  · split
    · have hb : (pDB 7 w f a).2.2.2.2 = a.2.2.2.2 := by
        unfold pDB
        split
        · exact pAlso_a
        · rfl
      obtain ⟨⟨r1, r2, r3⟩, r4, r5, r6⟩ := zIq_roads (k := k) 601 0 (pDB 7 w f a) f (by decide) rfl rfl (by rw [hb]; exact hI) ⟨by rw [hb]; exact hJ, fun r hr _ _ => absurd hr (Nat.not_lt_zero r)⟩
      show zKv (if 7 ≤ (f 0).toInt then (pRoads k 601 0 (pDB 7 w f a) f).2.2 else upd (upd (pRoads k 601 0 (pDB 7 w f a) f).2.2 (2 + ((pRoads k 601 0 (pDB 7 w f a) f).2.2 0).toInt.toNat) (nI (pRoads k 601 0 (pDB 7 w f a) f).1)) 0 ((pRoads k 601 0 (pDB 7 w f a) f).2.2 0 + 1)) (pRoads k 601 0 (pDB 7 w f a) f).2.1.2.2.2.2
      revert r1 r2 r3 r4 r5 r6
      generalize (pRoads k 601 0 (pDB 7 w f a) f).2.2 = g
      generalize (pRoads k 601 0 (pDB 7 w f a) f).2.1.2.2.2.2 = fb
      generalize (pRoads k 601 0 (pDB 7 w f a) f).1 = m
      intro r1 r2 r3 r4 r5 r6
      split
      · exact ⟨by rw [r1]; exact r4, r5, by rw [r2]; exact h0⟩
      · have e1 : (g 0 + 1).toInt = (g 0).toInt + 1 := z_iaddI (by rw [r2]; show -2147483648 ≤ (f 0).toInt + 1; omega) (by rw [r2]; show (f 0).toInt + 1 < 2147483648; omega)
        rw [r2] at e1 ⊢
        refine ⟨?_, zJq_o ?_ (by decide) (by decide), ?_⟩
        · rw [z_ne (by omega), z_ne (by omega), r1]; exact r4
        · intro c r hc hr hq
          by_cases t : c = (f 0).toInt.toNat
          · rw [z_ne (by omega)]
            rw [z_eq (by omega)] at hq
            have em := nI_toInt (n := m) (by omega)
            have x := r6 r (by omega) hr (by rw [r2]; omega)
            rw [r2, ← t] at x
            exact x
          · rw [z_ne (by omega)] at hq
            rw [z_ne (by omega)]
            exact r5 c r hc hr hq
        · rw [z_eq rfl, e1]
          omega
    · split
      · have b := pNum_b (k := k) (a := a)
        have t := zIq_t hI b
        rw [← pCr_a] at t
        have hm2 := pCr_m (k := k) (a := a)
        show zKv (upd f 1 (f 1 ||| ((1 : Int32) <<< ((pCr k a).1 &&& 31)))) (pCr k a).2.2.2.2.2
        exact ⟨by rw [z_eq rfl]; exact t, zJq_o (zJq_m hJ hm2.1) (by decide) (by decide), by rw [z_ne (by decide)]; exact h0⟩
      · have t := zIq_cr (k := k) hI
        have hm2 := pCr_m (k := k) (a := a)
        have b : 0 ≤ (pCr k a).1.toInt ∧ (pCr k a).1.toInt ≤ 6 := pNum_b (k := k) (a := a)
        show zKv (upd f ((if d = 2 then 9 else 16) + (pCr k a).1.toInt.toNat) (pNum k 0 (if d = 2 then 3 else 9) (pCr k a).2).1) (pNum k 0 (if d = 2 then 3 else 9) (pCr k a).2).2.2.2.2.2
        rw [pNum_a]
        have e : (if d = 2 then 9 else 16) = 9 ∨ (if d = 2 then 9 else 16) = 16 := by
          split
          · exact Or.inl rfl
          · exact Or.inr rfl
        exact ⟨by rw [z_ne (by omega)]; exact t, zJq_o (zJq_m hJ hm2.1) (by omega) (by omega), by rw [z_ne (by omega)]; exact h0⟩
theorem zKv_land {f : Nat → Int32} (h : zKv f a.2.2.2.2) : zKv (pLand k a f).2 (pLand k a f).1.2.2.2.2 := by
  show zKv _ (pEndL k _).2.2.2.2
  rw [pEndL_aa]
  exact zKv_other (by rw [pWord_a]; exact h)
theorem zKv_lines : ∀ (i : Nat) (a : pS) (f : Nat → Int32), zKv f a.2.2.2.2 → zKv (pLines k 0 i a f).2 (pLines k 0 i a f).1.2.2.2.2
  | 0, a, f, h => h
  | i + 1, a, f, h => by
    unfold pLines
    split
    · refine zKv_lines i _ _ ?_
      rw [show pLine k 0 a f = pLand k a f from if_pos rfl]
      exact zKv_land h
    · exact h
theorem zKv_0 : zKv (fun _ => 0) (-1) := ⟨zIq_0, fun c r _ _ hq => absurd hq (by show ¬ (r : Int) < (0 : Int32).toInt; have : (0 : Int32).toInt = 0 := rfl; omega), by decide⟩
end PFA
theorem pRead_V {k : pT} {n : Nat} (h : (pRead k n 0).1.2.2.1.toInt = 0) : zVR (pRead k n 0).2 := by
  have hb : pBk (pLines k 0 601 (0, 0, 0, -1, -1) (fun _ => 0)).1 := pBk_lines 601 _ _ (fun q => absurd rfl q)
  have hi : zKv (pLines k 0 601 (0, 0, 0, -1, -1) (fun _ => 0)).2 (pLines k 0 601 (0, 0, 0, -1, -1) (fun _ => 0)).1.2.2.2.2 := zKv_lines 601 _ _ zKv_0
  have h : (pF5 n 0 (pF4 n 0 (pLines k 0 601 (0, 0, 0, -1, -1) (fun _ => 0)).1 (pLines k 0 601 (0, 0, 0, -1, -1) (fun _ => 0)).2) (pLines k 0 601 (0, 0, 0, -1, -1) (fun _ => 0)).2).2.2.1.toInt = 0 := h
  show zVR (pLines k 0 601 (0, 0, 0, -1, -1) (fun _ => 0)).2
  revert hb hi h
  generalize (pLines k 0 601 (0, 0, 0, -1, -1) (fun _ => 0)).1 = a
  generalize (pLines k 0 601 (0, 0, 0, -1, -1) (fun _ => 0)).2 = f
  intro hb hi h
  have hb4 : pBk (pF4 n 0 a f) := by
    unfold pF4
    split
    · exact pBk_also hb
    · exact hb
  have h4 : (pF4 n 0 a f).2.2.1.toInt = 0 ∧ pPosts f = true := by
    revert hb4 h
    generalize pF4 n 0 a f = b
    intro h hb4
    by_cases hq : b.2.2.1.toInt = 0
    · refine ⟨hq, ?_⟩
      by_cases hp : pPosts f = true
      · exact hp
      · exfalso
        unfold pF5 at h
        rw [if_pos ⟨rfl, hq, Bool.eq_false_iff.mpr hp⟩] at h
        unfold pAlso at h
        by_cases hc : b.2.1.toInt = 0
        · rw [if_neg (fun z => z.elim (fun z => z hc) (fun z => z.1 hq))] at h
          exact absurd (show (5 : Int32).toInt = 0 from h) (by decide)
        · exact hb4 hc hq
    · exfalso
      unfold pF5 at h
      rw [if_neg (fun z => hq z.2.1)] at h
      exact hq h
  have h5 := h4.1
  unfold pF4 at h5
  have ha : a.2.2.1.toInt = 0 := by
    by_cases hq : a.2.2.1.toInt = 0
    · exact hq
    · rw [if_neg (fun z => hq z.2.1)] at h5
      exact h5
  have hf : ¬ (f 0).toInt ≤ a.2.2.2.2.toInt := fun q => by
    rw [if_pos ⟨rfl, ha, q⟩] at h5
    unfold pAlso at h5
    by_cases hc2 : a.2.1.toInt = 0
    · rw [if_neg (fun z => z.elim (fun z => z hc2) (fun z => z.1 ha))] at h5
      exact absurd (show (4 : Int32).toInt = 0 from h5) (by decide)
    · exact hb hc2 ha
  obtain ⟨⟨t, ht, e, -, hd⟩, hJ, -⟩ := hi
  intro c hc
  refine ⟨pPosts_t.mp h4.2 c hc, fun hn => ?_, fun r hr hq => ?_⟩
  · rw [e]
    exact zIq_b t ht c hc (hd c (by omega) (by omega))
  · have := hJ c r hc hr hq
    omega
theorem zVA_low {f g : Nat → Int32} (hV : zVA f) (e : ∀ j, 610 ≤ j → g j = f j) : zVA g := fun i q hi hq => zVR_cg (fun j _ => e _ (by omega)) (hV i q hi hq)
theorem zVA_text {k : pT} {n s : Nat} {at_ r : Int32} {f g : Nat → Int32} (hV : zVA f) (hs : s < 3) (F2 : zText (pRead k n s) s at_ f g r) (T2 : ∀ j, 988 ≤ j → g j = f j) : zVA g := by
  have ho : ∀ (a b : Int32) (j : Nat), 7 ≤ j → pHd f a b j = f j := fun a b j hj => by
    unfold pHd
    rw [z_ne (by omega), z_ne (by omega), z_ne (by omega)]
  rcases F2 with ⟨-, -, z⟩ | ⟨-, -, -, z⟩ | ⟨-, y, -, z⟩
  · refine zVA_low hV (fun j hj => ?_)
    by_cases q : j < 988
    · rw [z j q, ho _ _ _ (by omega)]
    · exact T2 j (by omega)
  · refine zVA_low hV (fun j hj => ?_)
    by_cases q : j < 988
    · rw [z j q, ho _ _ _ (by omega)]
    · exact T2 j (by omega)
  · have hc2 : ∀ (G : Nat → Int32) (j : Nat), 7 ≤ j → pCnt s at_ G j = G j := fun G j hj => by
      unfold pCnt
      split
      · exact z_ne (by omega)
      · rfl
    intro i q hi hq
    by_cases e : i = 0
    · by_cases hs0 : s = 0 ∧ (pNr 0 at_ f).toInt.toNat = q
      · obtain ⟨hs0, hn⟩ := hs0
        subst hs0
        refine zVR_cg (fun j hj => ?_) (pRead_V y)
        show g (988 * i + (610 + 51 * q + j)) = (pRead k n 0).2 j
        rw [z _ (by omega), hn]
        unfold pPut
        have hp : pBase 0 q = 610 + 51 * q := rfl
        have hz : pSize 0 = 51 := rfl
        rw [hp, hz, if_pos (by omega)]
        exact congrArg _ (by omega)
      · refine zVR_cg (fun j hj => ?_) (hV i q hi hq)
        show g (988 * i + (610 + 51 * q + j)) = f (988 * i + (610 + 51 * q + j))
        rw [z _ (by omega)]
        have hx : ¬ (pBase s (pNr s at_ f).toInt.toNat ≤ 988 * i + (610 + 51 * q + j) ∧ 988 * i + (610 + 51 * q + j) < pBase s (pNr s at_ f).toInt.toNat + pSize s) := by
          rcases (show s = 0 ∨ s = 1 ∨ s = 2 by omega) with t | t | t
          · subst t
            have hp : pBase 0 (pNr 0 at_ f).toInt.toNat = 610 + 51 * (pNr 0 at_ f).toInt.toNat := rfl
            have hz : pSize 0 = 51 := rfl
            rw [hp, hz]
            have hn : ¬ (pNr 0 at_ f).toInt.toNat = q := fun w => hs0 ⟨rfl, w⟩
            omega
          · subst t
            have hp : pBase 1 (pNr 1 at_ f).toInt.toNat = 712 + 121 * (pNr 1 at_ f).toInt.toNat := rfl
            rw [hp]
            omega
          · subst t
            have hp : pBase 2 (pNr 2 at_ f).toInt.toNat = 954 + 17 * (pNr 2 at_ f).toInt.toNat := rfl
            rw [hp]
            omega
        unfold pPut
        rw [if_neg hx, hc2 _ _ (by omega), ho _ _ _ (by omega)]
    · exact zVR_cg (fun j _ => T2 _ (by omega)) (hV i q hi hq)
theorem zVA_feed {p : Nat} {a b c d e r : Int32} {f g : Nat → Int32} (hV : zVA f) (hp6 : p ≤ 600) (F2 : 580 < p ∧ r = -1 ∧ g = f ∨ p ≤ 580 ∧ r = nI (p + 20) ∧ zFeedR p a b c d e f g) : zVA g := by
  rcases F2 with ⟨-, -, y⟩ | ⟨hp5, -, y⟩
  · rw [y]; exact hV
  · obtain ⟨-, -, z3⟩ := y
    exact zVA_low hV (fun j hj => z3 j (by omega) (by omega))
theorem zVA_end {n r : Int32} {f g : Nat → Int32} (hV : zVA f) (F2 : (n.toInt < 0 ∨ (f 4).toInt < n.toInt) ∧ r.toInt = -1 ∧ g = f ∨ (0 ≤ n.toInt ∧ n.toInt ≤ (f 4).toInt) ∧ g = upd f 4 n ∧ r = n) : zVA g := by
  rcases F2 with ⟨-, -, y⟩ | ⟨-, y, -⟩
  · rw [y]; exact hV
  · rw [y]; exact zVA_low hV (fun j hj => z_ne (by omega))
theorem zVA_hd {f g : Nat → Int32} (hV : zVA f) (hg : g = upd (upd (upd f 4 0) 5 0) 6 (-1)) : zVA g := by
  rw [hg]
  exact zVA_low hV (fun j hj => by rw [z_ne (by omega), z_ne (by omega), z_ne (by omega)])
theorem zVA_img {f g : Nat → Int32} {k : Nat} (hk : k < 3) (hV : zVA f) (c1 : ∀ j, j < 988 → g (988 * (k + 1) + j) = f j) (c2 : ∀ j, (j < 988 * (k + 1) ∨ 988 * (k + 1) + 988 ≤ j) → g j = f j) : zVA g := by
  intro i q hi hq
  by_cases e : i = k + 1
  · subst e
    exact zVR_cg (fun j _ => (c1 _ (by omega)).trans (congrArg f (by omega))) (hV 0 q (by decide) hq)
  · have : i < k + 1 ∨ k + 1 < i := by omega
    exact zVR_cg (fun j _ => c2 _ (by omega)) (hV i q hi hq)
theorem zVA_ag {K : Nat} {x r' : Int32} {fh f g : Nat → Int32} (hV : zVA f) (hx : x.toInt = (K : Int)) (hK : K < 3) (F2 : r' = 0 ∧ (x.toInt < 0 ∨ 3 ≤ x.toInt ∨ fh x.toNatClampNeg = 0) ∧ g = f ∨ r' = 1 ∧ (0 ≤ x.toInt ∧ x.toInt < 3) ∧ ¬ fh x.toNatClampNeg = 0 ∧ (∀ j, j < 988 → g j = f (988 * (x.toNatClampNeg + 1) + j)) ∧ ∀ j, 988 ≤ j → g j = f j) : zVA g := by
  have e : x.toNatClampNeg = K := by have := z_clI (x := x) (by omega); omega
  rw [e] at F2
  rcases F2 with ⟨-, -, z⟩ | ⟨-, -, -, z, z2⟩
  · rw [z]; exact hV
  · intro i q hi hq
    by_cases e : i = 0
    · exact zVR_cg (fun j _ => (z _ (by omega)).trans (congrArg f (by omega))) (hV (K + 1) q (by omega) hq)
    · exact zVR_cg (fun j _ => z2 _ (by omega)) (hV i q hi hq)
theorem zBit_z (y : Int32) : zBit 0 y = 0 := by
  unfold zBit
  rw [Int32.zero_shiftRight]
  rfl
theorem zVR_z {R : Nat → Int32} (h : ∀ j, j < 51 → R j = 0) : zVR R := by
  intro c hc
  rw [h _ (by omega), h _ (by omega), h _ (by omega), h _ (by omega)]
  exact ⟨Or.inl rfl, fun _ => zBit_z _, fun r _ hq => absurd hq (by show ¬ (r : Int) < (0 : Int32).toInt; have : (0 : Int32).toInt = 0 := rfl; omega)⟩
theorem zVA_st : zVA (upd (fun _ => 0) 6 (-1)) := fun i q _ _ => zVR_z (fun j _ => if_neg (by omega))
abbrev zHas (cr x : Int32) : Prop := 0 ≤ x.toInt ∧ x.toInt < cr.toInt ∧ x.toInt < 7
/-- roads lead to crossings that are there -/
def zLq (cr : Int32) (k1 k2 : Nat → Int32) : Prop := ∀ j r : Nat, j < 7 → r < 4 → (r : Int) < (k1 j).toInt → 0 ≤ (k2 (4 * j + r)).toInt ∧ (k2 (4 * j + r)).toInt < cr.toInt
theorem zLq_e {cr inn z : Int32} {k1 k2 k3 k4 f : Nat → Int32} {B : Nat} (h : zLnd cr inn k1 k2 k3 k4 (fun j => f (B + j))) (hF : zLF (fun j => f (B + j))) (hz : z.toInt.toNat = B) (hV : zVR (fun j => f (z.toInt.toNat + j))) : zLq cr k1 k2 := by
  obtain ⟨ha, -, -, hd, -, hr⟩ := h
  rw [hz] at hV
  intro j r hj hr4 hq
  have e := hr j r hj hr4 hq
  have e : k2 (4 * j + r) = f (B + (23 + 4 * j + r)) := e
  have b : 0 ≤ (f (B + (23 + (4 * j + r)))).toInt := (hF.2.2 (4 * j + r) (by omega)).1
  have d : k1 j = f (B + (2 + j)) := (hd j hj).1
  have v : (r : Int) < (f (B + (2 + j))).toInt → (f (B + (23 + 4 * j + r))).toInt < (f (B + 0)).toInt := (hV j hj).2.2 r hr4
  have ha : cr = f (B + 0) := ha
  rw [e, ha]
  rw [show B + (23 + (4 * j + r)) = B + (23 + 4 * j + r) by omega] at b
  exact ⟨b, v (by rw [← d]; exact hq)⟩
theorem zStep_h {cr inn x : Int32} {f1 f2 f3 k1 k2 : Nat → Int32} (hI : zP3 f1 f3) (hW : ∀ j, j < 7 → f3 j = zWays cr inn k1 (nI j)) (hr : ∀ j, j < 7 → (f3 j).toInt ≤ (k1 j).toInt) (hL : zLq cr k1 k2) (h7 : cr.toInt ≤ 7) (h : ¬ zStep f1 f2 f3 k2 x = -1) : zHas cr (zStep f1 f2 f3 k2 x) := by
  unfold zStep at h ⊢
  by_cases t : zTurn f1 f2 f3 x = -1
  · rw [if_pos t] at h
    exact absurd rfl h
  · rw [if_neg t]
    have g := (zTurn_lt (f2 := f2) hI x).resolve_left t
    have e1 := z_clI g.1
    have e2 := z_clI g.2.2.1
    have q := hI x.toNatClampNeg (by omega)
    have q2 := hr x.toNatClampNeg (by omega)
    have y := hL x.toNatClampNeg (zTurn f1 f2 f3 x).toNatClampNeg (by omega) (by omega) (by omega)
    exact ⟨y.1, y.2, by omega⟩
theorem zWays_r {cr inn : Int32} {k1 k3 f3 : Nat → Int32} (hI : zLI cr k1 k3) (hW : ∀ j, j < 7 → f3 j = zWays cr inn k1 (nI j)) : ∀ j, j < 7 → (f3 j).toInt ≤ (k1 j).toInt := by
  intro j hj
  rw [hW j hj]
  have t2 := nI_clamp (n := j) (by omega)
  have b := (hI.2.1 j hj).1
  unfold zWays
  split
  · rw [t2]; exact Int.le_refl _
  · exact b
theorem zRunN_h {cr inn : Int32} {f2 f3 k1 k2 : Nat → Int32} (hW : ∀ j, j < 7 → f3 j = zWays cr inn k1 (nI j)) (hr : ∀ j, j < 7 → (f3 j).toInt ≤ (k1 j).toInt) (hL : zLq cr k1 k2) (h7 : cr.toInt ≤ 7) : ∀ (n : Nat) (f : Nat → Int32) (x : Int32) (k : Nat), zP3 f f3 → zHas cr x → zHas cr (zRunN f2 f3 k2 n f x k).2.1
  | 0, f, x, k, _, h => h
  | n + 1, f, x, k, hI, h => by
    unfold zRunN
    by_cases q : zStep f f2 f3 k2 x = -1
    · rw [if_pos q]; exact h
    · rw [if_neg q]
      exact zRunN_h hW hr hL h7 n _ _ _ (zPost_I hI x) (zStep_h hI hW hr hL h7 q)
theorem zInc1 (i : Nat) : nI i + 1 = nI (i + 1) := z_inc i 1
def zDR (R : Nat → Int32) : Prop := ∀ j : Nat, (j : Int) < (R 0).toInt → (0 ≤ (R (1 + 3 * j)).toInt ∧ (R (1 + 3 * j)).toInt ≤ 5) ∧ (4 ≤ (R (1 + 3 * j)).toInt → 0 ≤ (R (3 + 3 * j)).toInt ∧ (R (3 + 3 * j)).toInt ≤ 3)
theorem zDR_cg {R R' : Nat → Int32} (e : ∀ j, j < 121 → R' j = R j) (h0 : (R 0).toInt ≤ 40) (h : zDR R) : zDR R' := by
  intro j hj
  rw [e 0 (by decide)] at hj
  rw [e _ (by omega), e _ (by omega)]
  exact h j hj
section PZ
variable {k : pT} {a : pS}
theorem pEnds_z (h : pBk a) : ¬ (pEnds k a).2.2.1.toInt = 0 := by
  unfold pEnds
  split
  · show ¬ (1 : Int32).toInt = 0
    decide
  · rename_i q
    exact h q
theorem pAlso_zz {kd w : Int32} (h : pBk a) (hk : ¬ kd.toInt = 0) : ¬ (pAlso kd w a).2.2.1.toInt = 0 := by
  unfold pAlso
  split
  · rename_i q
    intro z
    rcases q with q | q
    · exact h q z
    · exact q.1 z
  · exact hk
theorem pNum_z {lo hi : Int32} (h : pBk a) (q : (pNum k lo hi a).2.2.2.1.toInt = 0) : a.2.2.1.toInt = 0 ∧ lo.toInt ≤ (pNum k lo hi a).1.toInt ∧ (pNum k lo hi a).1.toInt ≤ hi.toInt := by
  unfold pNum at q ⊢
  split at q
  · exact absurd q (pEnds_z h)
  · split at q
    · rename_i c1 c2
      rw [if_neg c1, if_pos c2]
      exact ⟨q, c2.1, c2.2⟩
    · exact absurd q (pAlso_zz (kd := 2) (w := nI (pWh k a.1)) h (by decide))
theorem pWord_z {lo hi : Nat} (h : pBk a) (q : (pWord k lo hi a).2.2.2.1.toInt = 0) : a.2.2.1.toInt = 0 ∧ lo ≤ (pWord k lo hi a).1 ∧ (pWord k lo hi a).1 ≤ hi := by
  unfold pWord at q ⊢
  split at q
  · exact absurd q (pEnds_z h)
  · rename_i c1
    rw [if_neg c1]
    exact ⟨q, by omega⟩
theorem pEndL_z (h : pBk a) (q : (pEndL k a).2.2.1.toInt = 0) : a.2.2.1.toInt = 0 := by
  unfold pEndL at q
  split at q
  · exact q
  · exact absurd q (pEnds_z h)
theorem pDB_z {m : Int} {w : Int32} {f : Nat → Int32} (h : pBk a) (q : (pDB m w f a).2.2.1.toInt = 0) : a.2.2.1.toInt = 0 ∧ (f 0).toInt < m := by
  unfold pDB at q
  split at q
  · exact absurd q (pAlso_zz h (by decide))
  · exact ⟨q, by omega⟩
theorem pBk_dy {d : Nat} (h : pBk a) : pBk (pDY k d a).2 := by
  unfold pDY
  split
  · exact pBk_num h
  · exact h
theorem pBk_day {f : Nat → Int32} (h : pBk a) : pBk (pDay k a f).1 := pBk_endL (pBk_dy (pBk_num (pBk_db (pBk_word h))))
/-- what holds of a day's row while there is no fault -/
def zDJ (a : pS) (f : Nat → Int32) : Prop := a.2.2.1.toInt = 0 → zDR f ∧ 0 ≤ (f 0).toInt ∧ (f 0).toInt ≤ 40
theorem zDJ_day {f : Nat → Int32} (h : pBk a) (hJ : zDJ a f) : zDJ (pDay k a f).1 (pDay k a f).2 := by
  intro q
  have b1 := pBk_word (k := k) (lo := 5) (hi := 10) h
  have b2 := pBk_db (m := 40) (w := nI (pWh k a.1)) (f := f) b1
  have b3 := pBk_num (k := k) (lo := 0) (hi := 6) b2
  have q1 : (pDY k (pWord k 5 10 a).1 (pNum k 0 6 (pDB 40 (nI (pWh k a.1)) f (pWord k 5 10 a).2)).2).2.2.2.1.toInt = 0 := pEndL_z (pBk_dy b3) q
  have q2 : (pNum k 0 6 (pDB 40 (nI (pWh k a.1)) f (pWord k 5 10 a).2)).2.2.2.1.toInt = 0 ∧ (8 < (pWord k 5 10 a).1 → 0 ≤ (pDY k (pWord k 5 10 a).1 (pNum k 0 6 (pDB 40 (nI (pWh k a.1)) f (pWord k 5 10 a).2)).2).1.toInt ∧ (pDY k (pWord k 5 10 a).1 (pNum k 0 6 (pDB 40 (nI (pWh k a.1)) f (pWord k 5 10 a).2)).2).1.toInt ≤ 3) := by
    unfold pDY at q1 ⊢
    by_cases c : 8 < (pWord k 5 10 a).1
    · rw [if_pos c] at q1 ⊢
      have t := pNum_z b3 q1
      exact ⟨t.1, fun _ => ⟨t.2.1, t.2.2⟩⟩
    · rw [if_neg c] at q1
      exact ⟨q1, fun z => absurd z c⟩
  have q3 := pNum_z b2 q2.1
  have q4 := pDB_z b1 q3.1
  have q5 := pWord_z h q4.1
  have hf := hJ q5.1
  have e : (pDay k a f).2 = if (f 0).toInt < 40 then upd (upd (upd (upd f (1 + 3 * (f 0).toInt.toNat) (nI (pWord k 5 10 a).1 - 5)) (2 + 3 * (f 0).toInt.toNat) (pNum k 0 6 (pDB 40 (nI (pWh k a.1)) f (pWord k 5 10 a).2)).1) (3 + 3 * (f 0).toInt.toNat) (pDY k (pWord k 5 10 a).1 (pNum k 0 6 (pDB 40 (nI (pWh k a.1)) f (pWord k 5 10 a).2)).2).1) 0 (f 0 + 1) else f := rfl
  rw [e, if_pos q4.2]
  have e1 : (f 0 + 1).toInt = (f 0).toInt + 1 := (z_iaddI (x := f 0) (y := 1) (by show -2147483648 ≤ (f 0).toInt + 1; omega) (by show (f 0).toInt + 1 < 2147483648; omega))
  have e2 := nI_toInt (n := (pWord k 5 10 a).1) (by omega)
  have e5 : (5 : Int32).toInt = 5 := rfl
  have e3 : (nI (pWord k 5 10 a).1 - 5).toInt = ((pWord k 5 10 a).1 : Int) - 5 := (z_isubI (x := nI (pWord k 5 10 a).1) (y := 5) (by rw [e5, e2]; omega) (by rw [e5, e2]; omega)).trans (by rw [e5, e2])
  refine ⟨fun j hj => ?_, by rw [z_eq rfl, e1]; omega⟩
  rw [z_eq rfl, e1] at hj
  rw [z_ne (show ¬ 1 + 3 * j = 0 by omega), z_ne (show ¬ 1 + 3 * j = 3 + 3 * (f 0).toInt.toNat by omega), z_ne (show ¬ 1 + 3 * j = 2 + 3 * (f 0).toInt.toNat by omega), z_ne (show ¬ 3 + 3 * j = 0 by omega)]
  by_cases t : j = (f 0).toInt.toNat
  · rw [z_eq (show 1 + 3 * j = 1 + 3 * (f 0).toInt.toNat by omega), z_eq (show 3 + 3 * j = 3 + 3 * (f 0).toInt.toNat by omega), e3]
    exact ⟨⟨by omega, by omega⟩, fun z => q2.2 (by omega)⟩
  · rw [z_ne (show ¬ 1 + 3 * j = 1 + 3 * (f 0).toInt.toNat by omega), z_ne (show ¬ 3 + 3 * j = 3 + 3 * (f 0).toInt.toNat by omega), z_ne (show ¬ 3 + 3 * j = 2 + 3 * (f 0).toInt.toNat by omega), z_ne (show ¬ 3 + 3 * j = 1 + 3 * (f 0).toInt.toNat by omega)]
    exact hf.1 j (by omega)
theorem zDJ_lines : ∀ (i : Nat) (a : pS) (f : Nat → Int32), pBk a → zDJ a f → zDJ (pLines k 1 i a f).1 (pLines k 1 i a f).2
  | 0, a, f, _, h => h
  | i + 1, a, f, hb, h => by
    unfold pLines
    split
    · have e : pLine k 1 a f = pDay k a f := by
        unfold pLine
        rw [if_neg (by decide), if_pos rfl]
      refine zDJ_lines i _ _ ?_ ?_
      · rw [e]; exact pBk_day hb
      · rw [e]; exact zDJ_day hb h
    · exact h
end PZ
theorem pRead_D {k : pT} {n : Nat} (h : (pRead k n 1).1.2.2.1.toInt = 0) : zDR (pRead k n 1).2 ∧ (((pRead k n 1).2 0).toInt ≤ 40) := by
  have hJ : zDJ (pLines k 1 601 (0, 0, 0, -1, -1) (fun _ => 0)).1 (pLines k 1 601 (0, 0, 0, -1, -1) (fun _ => 0)).2 := zDJ_lines 601 _ _ (fun q => absurd rfl q) (fun _ => ⟨fun j hj => absurd hj (by show ¬ (j : Int) < (0 : Int32).toInt; have : (0 : Int32).toInt = 0 := rfl; omega), by decide⟩)
  have e4 : ∀ (a : pS) (f : Nat → Int32), pF4 n 1 a f = a := fun a f => by
    unfold pF4
    rw [if_neg (fun z => absurd z.1 (by decide))]
  have e5 : ∀ (a : pS) (f : Nat → Int32), pF5 n 1 a f = a := fun a f => by
    unfold pF5
    rw [if_neg (fun z => absurd z.1 (by decide))]
  have h : (pF5 n 1 (pF4 n 1 (pLines k 1 601 (0, 0, 0, -1, -1) (fun _ => 0)).1 (pLines k 1 601 (0, 0, 0, -1, -1) (fun _ => 0)).2) (pLines k 1 601 (0, 0, 0, -1, -1) (fun _ => 0)).2).2.2.1.toInt = 0 := h
  rw [e4, e5] at h
  exact ⟨(hJ h).1, (hJ h).2.2⟩
/-- so of each day that is kept -/
def zVD (f : Nat → Int32) : Prop := ∀ i k, i < 4 → k < 2 → zDR (fun j => f (988 * i + (712 + 121 * k + j))) ∧ (f (988 * i + (712 + 121 * k))).toInt ≤ 40
theorem zVD_c {f g : Nat → Int32} {a b : Nat} (e : ∀ j, j < 121 → g (b + j) = f (a + j)) (h : zDR (fun j => f (a + j)) ∧ (f a).toInt ≤ 40) : zDR (fun j => g (b + j)) ∧ (g b).toInt ≤ 40 := by
  have e0 := e 0 (by decide)
  refine ⟨zDR_cg (R := fun j => f (a + j)) e h.2 h.1, ?_⟩
  have e0 : g b = f a := e0
  rw [e0]
  exact h.2
theorem zVD_low {f g : Nat → Int32} (hV : zVD f) (e : ∀ j, 610 ≤ j → g j = f j) : zVD g := fun i q hi hq => by
  have h := hV i q hi hq
  have a : ∀ (G : Nat → Int32), (zDR (fun j => G (988 * i + (712 + 121 * q + j))) ∧ (G (988 * i + (712 + 121 * q))).toInt ≤ 40) = (zDR (fun j => G (988 * i + (712 + 121 * q) + j)) ∧ (G (988 * i + (712 + 121 * q))).toInt ≤ 40) := fun G => by
    rw [show (fun j => G (988 * i + (712 + 121 * q + j))) = (fun j => G (988 * i + (712 + 121 * q) + j)) from funext fun j => congrArg G (by omega)]
  rw [a] at h ⊢
  exact zVD_c (fun j _ => e _ (by omega)) h
theorem zVD_a {f : Nat → Int32} (b q : Nat) : (zDR (fun j => f (b + (712 + 121 * q + j))) ∧ (f (b + (712 + 121 * q))).toInt ≤ 40) = (zDR (fun j => f (b + (712 + 121 * q) + j)) ∧ (f (b + (712 + 121 * q))).toInt ≤ 40) := by
  rw [show (fun j => f (b + (712 + 121 * q + j))) = (fun j => f (b + (712 + 121 * q) + j)) from funext fun j => congrArg f (by omega)]
theorem zVD_to {f g : Nat → Int32} {a b q : Nat} (e : ∀ j, j < 121 → g (b + (712 + 121 * q) + j) = f (a + (712 + 121 * q) + j)) (h : zDR (fun j => f (a + (712 + 121 * q + j))) ∧ (f (a + (712 + 121 * q))).toInt ≤ 40) : zDR (fun j => g (b + (712 + 121 * q + j))) ∧ (g (b + (712 + 121 * q))).toInt ≤ 40 := by
  rw [zVD_a] at h ⊢
  exact zVD_c e h
theorem pNr_lt {s : Nat} {at_ : Int32} {f : Nat → Int32} (h : pOkAt s at_ f) (h2 : (f s).toInt ≤ 2) : (pNr s at_ f).toInt.toNat < 2 := by
  unfold pOkAt at h
  unfold pNr
  by_cases q : at_.toInt = -1
  · rw [if_pos q] at h ⊢
    omega
  · rw [if_neg q] at h ⊢
    omega
theorem zVD_text {k : pT} {n s : Nat} {at_ r : Int32} {f g : Nat → Int32} (hV : zVD f) (hs : s < 3) (h2 : ∀ q, q < 3 → (f q).toInt ≤ 2) (F2 : zText (pRead k n s) s at_ f g r) (T2 : ∀ j, 988 ≤ j → g j = f j) : zVD g := by
  have ho : ∀ (a b : Int32) (j : Nat), 7 ≤ j → pHd f a b j = f j := fun a b j hj => by
    unfold pHd
    rw [z_ne (by omega), z_ne (by omega), z_ne (by omega)]
  rcases F2 with ⟨-, -, z⟩ | ⟨-, -, -, z⟩ | ⟨w, y, -, z⟩
  · refine zVD_low hV (fun j hj => ?_)
    by_cases q : j < 988
    · rw [z j q, ho _ _ _ (by omega)]
    · exact T2 j (by omega)
  · refine zVD_low hV (fun j hj => ?_)
    by_cases q : j < 988
    · rw [z j q, ho _ _ _ (by omega)]
    · exact T2 j (by omega)
  · have hc2 : ∀ (G : Nat → Int32) (j : Nat), 7 ≤ j → pCnt s at_ G j = G j := fun G j hj => by
      unfold pCnt
      split
      · exact z_ne (by omega)
      · rfl
    intro i q hi hq
    by_cases e : i = 0
    · by_cases hs0 : s = 1 ∧ (pNr 1 at_ f).toInt.toNat = q
      · obtain ⟨hs0, hn⟩ := hs0
        subst hs0
        have t := pRead_D y
        have hg : ∀ j, j < 121 → g (988 * i + (712 + 121 * q) + j) = (pRead k n 1).2 j := fun j hj => by
          rw [z _ (by omega), hn]
          unfold pPut
          have hp : pBase 1 q = 712 + 121 * q := rfl
          have hz : pSize 1 = 121 := rfl
          rw [hp, hz, if_pos (by omega)]
          exact congrArg _ (by omega)
        rw [zVD_a]
        refine ⟨zDR_cg hg t.2 t.1, ?_⟩
        have h0 : g (988 * i + (712 + 121 * q)) = (pRead k n 1).2 0 := hg 0 (by decide)
        rw [h0]
        exact t.2
      · refine zVD_to (fun j hj => ?_) (hV i q hi hq)
        rw [z _ (by omega)]
        have hx : ¬ (pBase s (pNr s at_ f).toInt.toNat ≤ 988 * i + (712 + 121 * q) + j ∧ 988 * i + (712 + 121 * q) + j < pBase s (pNr s at_ f).toInt.toNat + pSize s) := by
          rcases (show s = 0 ∨ s = 1 ∨ s = 2 by omega) with t | t | t
          · subst t
            have hp : pBase 0 (pNr 0 at_ f).toInt.toNat = 610 + 51 * (pNr 0 at_ f).toInt.toNat := rfl
            have hz : pSize 0 = 51 := rfl
            have hb := pNr_lt w (h2 0 (by decide))
            rw [hp, hz]
            omega
          · subst t
            have hp : pBase 1 (pNr 1 at_ f).toInt.toNat = 712 + 121 * (pNr 1 at_ f).toInt.toNat := rfl
            have hz : pSize 1 = 121 := rfl
            rw [hp, hz]
            have hn : ¬ (pNr 1 at_ f).toInt.toNat = q := fun w => hs0 ⟨rfl, w⟩
            omega
          · subst t
            have hp : pBase 2 (pNr 2 at_ f).toInt.toNat = 954 + 17 * (pNr 2 at_ f).toInt.toNat := rfl
            rw [hp]
            omega
        unfold pPut
        rw [if_neg hx, hc2 _ _ (by omega), ho _ _ _ (by omega)]
    · exact zVD_to (fun j _ => T2 _ (by omega)) (hV i q hi hq)
theorem zVD_feed {p : Nat} {a b c d e r : Int32} {f g : Nat → Int32} (hV : zVD f) (hp6 : p ≤ 600) (F2 : 580 < p ∧ r = -1 ∧ g = f ∨ p ≤ 580 ∧ r = nI (p + 20) ∧ zFeedR p a b c d e f g) : zVD g := by
  rcases F2 with ⟨-, -, y⟩ | ⟨hp5, -, y⟩
  · rw [y]; exact hV
  · obtain ⟨-, -, z3⟩ := y
    exact zVD_low hV (fun j hj => z3 j (by omega) (by omega))
theorem zVD_end {n r : Int32} {f g : Nat → Int32} (hV : zVD f) (F2 : (n.toInt < 0 ∨ (f 4).toInt < n.toInt) ∧ r.toInt = -1 ∧ g = f ∨ (0 ≤ n.toInt ∧ n.toInt ≤ (f 4).toInt) ∧ g = upd f 4 n ∧ r = n) : zVD g := by
  rcases F2 with ⟨-, -, y⟩ | ⟨-, y, -⟩
  · rw [y]; exact hV
  · rw [y]; exact zVD_low hV (fun j hj => z_ne (by omega))
theorem zVD_hd {f g : Nat → Int32} (hV : zVD f) (hg : g = upd (upd (upd f 4 0) 5 0) 6 (-1)) : zVD g := by
  rw [hg]
  exact zVD_low hV (fun j hj => by rw [z_ne (by omega), z_ne (by omega), z_ne (by omega)])
theorem zVD_img {f g : Nat → Int32} {k : Nat} (hk : k < 3) (hV : zVD f) (c1 : ∀ j, j < 988 → g (988 * (k + 1) + j) = f j) (c2 : ∀ j, (j < 988 * (k + 1) ∨ 988 * (k + 1) + 988 ≤ j) → g j = f j) : zVD g := by
  intro i q hi hq
  by_cases e : i = k + 1
  · subst e
    refine zVD_to (a := 988 * 0) (fun j hj => ?_) (hV 0 q (by decide) hq)
    rw [show 988 * (k + 1) + (712 + 121 * q) + j = 988 * (k + 1) + (712 + 121 * q + j) by omega, c1 _ (by omega)]
    exact congrArg f (by omega)
  · have : i < k + 1 ∨ k + 1 < i := by omega
    exact zVD_to (fun j _ => c2 _ (by omega)) (hV i q hi hq)
theorem zVD_ag {K : Nat} {x r' : Int32} {fh f g : Nat → Int32} (hV : zVD f) (hx : x.toInt = (K : Int)) (hK : K < 3) (F2 : r' = 0 ∧ (x.toInt < 0 ∨ 3 ≤ x.toInt ∨ fh x.toNatClampNeg = 0) ∧ g = f ∨ r' = 1 ∧ (0 ≤ x.toInt ∧ x.toInt < 3) ∧ ¬ fh x.toNatClampNeg = 0 ∧ (∀ j, j < 988 → g j = f (988 * (x.toNatClampNeg + 1) + j)) ∧ ∀ j, 988 ≤ j → g j = f j) : zVD g := by
  have e : x.toNatClampNeg = K := by have := z_clI (x := x) (by omega); omega
  rw [e] at F2
  rcases F2 with ⟨-, -, z⟩ | ⟨-, -, -, z, z2⟩
  · rw [z]; exact hV
  · intro i q hi hq
    by_cases e : i = 0
    · refine zVD_to (a := 988 * (K + 1)) (fun j hj => ?_) (hV (K + 1) q (by omega) hq)
      rw [z _ (by omega)]
      exact congrArg f (by omega)
    · exact zVD_to (fun j _ => z2 _ (by omega)) (hV i q hi hq)
theorem zVD_st : zVD (upd (fun _ => 0) 6 (-1)) := fun i q _ _ => by
  have o : ∀ j, ¬ j = 6 → upd (fun _ => (0 : Int32)) 6 (-1) j = 0 := fun j h => if_neg h
  have z0 : (0 : Int32).toInt = 0 := rfl
  refine ⟨fun j hj => ?_, by rw [o _ (by omega), z0]; decide⟩
  have hj : (j : Int) < (upd (fun _ => (0 : Int32)) 6 (-1) (988 * i + (712 + 121 * q + 0))).toInt := hj
  rw [o _ (by omega), z0] at hj
  omega
/-- where one comes when a road is shut -/
def zKeyAt (S W L P : Nat → Int32) (x : Int32) : Int32 := (zRunN S W L 499 P x 0).2.1
def kSh (c r : Int32) : Nat → Int32 := upd (fun _ => 0) c.toNatClampNeg (1 <<< (r &&& 31))
/-- is a road a key: told at 4 c + r -/
def zKb (inn : Int32) (V W L P : Nat → Int32) (x : Int32) (t : Nat) : Bool := decide (((t % 4 : Nat) : Int) < (V (t / 4)).toInt) && decide (¬ zBit inn (zKeyAt (kSh (nI (t / 4)) (nI (t % 4))) W L P x) = 1)
def zCn (a : Nat → Bool) : Nat → Nat
  | 0 => 0
  | n + 1 => if a n = true then zCn a n + 1 else zCn a n
def zFi (a : Nat → Bool) : Nat → Int32
  | 0 => -1
  | n + 1 => if zFi a n = -1 then (if a n = true then nI (10 * (n / 4) + n % 4) else -1) else zFi a n
theorem zCn_le {a : Nat → Bool} : ∀ n, zCn a n ≤ n
  | 0 => Nat.le_refl _
  | n + 1 => by
    have := zCn_le (a := a) n
    show (if a n = true then zCn a n + 1 else zCn a n) ≤ n + 1
    split <;> omega
theorem zCn_skip {a : Nat → Bool} {m : Nat} : ∀ n, m ≤ n → (∀ t, m ≤ t → t < n → a t = false) → zCn a n = zCn a m ∧ zFi a n = zFi a m
  | 0, h, _ => by rw [show m = 0 by omega]; exact ⟨rfl, rfl⟩
  | n + 1, h, hf => by
    by_cases q : m = n + 1
    · rw [q]; exact ⟨rfl, rfl⟩
    · have := zCn_skip (a := a) (m := m) n (by omega) (fun t h1 h2 => hf t h1 (by omega))
      have e := hf n (by omega) (by omega)
      refine ⟨?_, ?_⟩
      · show (if a n = true then zCn a n + 1 else zCn a n) = _
        rw [if_neg (by rw [e]; decide)]
        exact this.1
      · show (if zFi a n = -1 then (if a n = true then nI (10 * (n / 4) + n % 4) else -1) else zFi a n) = _
        rw [if_neg (show ¬ a n = true by rw [e]; decide)]
        split
        · rename_i u
          rw [← this.2, u]
        · exact this.2
theorem zFi_cg {a b : Nat → Bool} : ∀ n, (∀ t, t < n → a t = b t) → zCn a n = zCn b n ∧ zFi a n = zFi b n
  | 0, _ => ⟨rfl, rfl⟩
  | n + 1, h => by
    have t := zFi_cg n (fun t ht => h t (by omega))
    refine ⟨?_, ?_⟩
    · show (if a n = true then zCn a n + 1 else zCn a n) = (if b n = true then zCn b n + 1 else zCn b n)
      rw [h n (by omega), t.1]
    · show (if zFi a n = -1 then (if a n = true then nI (10 * (n / 4) + n % 4) else -1) else zFi a n) = (if zFi b n = -1 then (if b n = true then nI (10 * (n / 4) + n % 4) else -1) else zFi b n)
      rw [h n (by omega), t.2]
theorem zKb_t {inn x : Int32} {V W L P : Nat → Int32} {c r : Nat} (hr : r < 4) (h : (r : Int) < (V c).toInt) (q : ¬ zBit inn (zKeyAt (kSh (nI c) (nI r)) W L P x) = 1) : zKb inn V W L P x (4 * c + r) = true := by
  unfold zKb
  rw [show (4 * c + r) / 4 = c by omega, show (4 * c + r) % 4 = r by omega, decide_eq_true h, decide_eq_true q]
  rfl
theorem zKb_f {inn x : Int32} {V W L P : Nat → Int32} {c r : Nat} (hr : r < 4) (q : zBit inn (zKeyAt (kSh (nI c) (nI r)) W L P x) = 1) : zKb inn V W L P x (4 * c + r) = false := by
  unfold zKb
  have e : decide (¬ zBit inn (zKeyAt (kSh (nI c) (nI r)) W L P x) = 1) = false := decide_eq_false (fun z => z q)
  rw [show (4 * c + r) / 4 = c by omega, show (4 * c + r) % 4 = r by omega, e, Bool.and_false]
theorem zKb_n {inn x : Int32} {V W L P : Nat → Int32} {c r : Nat} (hr : r < 4) (q : ¬ (r : Int) < (V c).toInt) : zKb inn V W L P x (4 * c + r) = false := by
  unfold zKb
  rw [show (4 * c + r) / 4 = c by omega, show (4 * c + r) % 4 = r by omega, decide_eq_false q, Bool.false_and]
theorem zKb_cg {inn x : Int32} {V V' W W' L L' P P' : Nat → Int32} (hv : ∀ j, j < 7 → V j = V' j) (h3 : ∀ j, j < 7 → W j = W' j) (hl : zLs W L L') (hI : zP3 P W) (h1 : ∀ j, j < 7 → P j = P' j) : ∀ t, t < 28 → zKb inn V W L P x t = zKb inn V' W' L' P' x t := by
  intro t ht
  have e := (zRunN_cg (f2 := kSh (nI (t / 4)) (nI (t % 4))) (g2 := kSh (nI (t / 4)) (nI (t % 4))) (fun _ _ => rfl) h3 hl 499 P P' x 0 hI h1).2
  have e1 : zKeyAt (kSh (nI (t / 4)) (nI (t % 4))) W L P x = zKeyAt (kSh (nI (t / 4)) (nI (t % 4))) W' L' P' x := congrArg (fun q => q.1) e
  unfold zKb
  rw [e1, hv _ (by omega)]
def kKeys (cr inn : Int32) (k1 k2 k3 : Nat → Int32) (a w : Int32) : Int32 := if (0 ≤ a.toInt ∧ a.toInt < cr.toInt) ∧ zBit inn (zKeyAt zS0 (kW cr inn k1) k2 k3 a) = 1 then (if w.toInt = 0 then nI (zCn (zKb inn (kW cr inn k1) (kW cr inn k1) k2 k3 a) 28) else zFi (zKb inn (kW cr inn k1) (kW cr inn k1) k2 k3 a) 28) else -2
def pWc (f : Nat → Int32) (z : Int32) (j : Nat) : Int32 := if (j : Int) < (f z.toInt.toNat).toInt then pW f z j else 0
def pKeys (f : Nat → Int32) (z a w : Int32) : Int32 := if (0 ≤ a.toInt ∧ a.toInt < (f z.toInt.toNat).toInt) ∧ zBit (f (z.toInt.toNat + 1)) (zKeyAt zS0 (pW f z) (zLo f z) (zPo f z) a) = 1 then (if w.toInt = 0 then nI (zCn (zKb (f (z.toInt.toNat + 1)) (pWc f z) (pW f z) (zLo f z) (zPo f z) a) 28) else zFi (zKb (f (z.toInt.toNat + 1)) (pWc f z) (pW f z) (zLo f z) (zPo f z) a) 28) else -2
theorem kKeys_e {cr inn z a w : Int32} {k1 k2 k3 k4 f : Nat → Int32} {B : Nat} (h : zLnd cr inn k1 k2 k3 k4 (fun j => f (B + j))) (hF : zLF (fun j => f (B + j))) (hz : z.toInt.toNat = B) : kKeys cr inn k1 k2 k3 a w = pKeys f z a w := by
  obtain ⟨a1, a2, a3, a4, a5, a6⟩ := zLnd_w h hF hz
  have e := (zRunN_cg (f2 := zS0) (g2 := zS0) (fun _ _ => rfl) a1 a2 499 k3 (zPo f z) a 0 a4 a3).2
  have e1 : zKeyAt zS0 (kW cr inn k1) k2 k3 a = zKeyAt zS0 (pW f z) (zLo f z) (zPo f z) a := congrArg (fun q => q.1) e
  have hv : ∀ j, j < 7 → kW cr inn k1 j = pWc f z j := fun j hj => by
    unfold pWc
    rw [← a5]
    by_cases q : (j : Int) < cr.toInt
    · rw [if_pos q]; exact a1 j hj
    · rw [if_neg q]
      have e := nI_toInt (n := j) (by omega)
      unfold kW zWays
      rw [if_neg (fun q2 => by omega)]
  have t := zFi_cg 28 (zKb_cg (inn := inn) (x := a) hv a1 a2 a4 a3)
  unfold kKeys pKeys
  rw [← a5, ← a6, e1, t.1, t.2]
theorem zSh_k {cr c r : Int32} {k1 f2 : Nat → Int32} (hz : ∀ j, j < 7 → f2 j = 0) (h : 0 ≤ c.toInt ∧ c.toInt < cr.toInt ∧ c.toInt < 7 ∧ 0 ≤ r.toInt ∧ r.toInt < (k1 c.toNatClampNeg).toInt ∧ r.toInt < 4) : ∀ j, j < 7 → zShut cr k1 f2 c r j = kSh c r j := by
  have e := z_clI h.1
  intro j hj
  unfold zShut kSh
  rw [if_pos h, hz c.toNatClampNeg (by omega), Int32.zero_or]
  by_cases q : j = c.toNatClampNeg
  · rw [z_eq q, z_eq q]
  · rw [z_ne q, z_ne q]; exact hz j hj
set_option maxHeartbeats 4000000 in
set_option maxRecDepth 100000 in
/-- isKey -/
theorem c_f_isKey (l : Launch) (T : zTy) (xo : Nat) (t : Nat) (im : Nat) (mk : Nat) (rd : Nat) (po : Nat) (co : Nat) (tr : Nat) (wa : Nat) (wb_ : Nat) (fi : Nat) (cd : Nat) (lp : Nat) (f1 : Nat → Int32) (f2 : Nat → Int32) (f3 : Nat → Int32) (st : Int32) (wh : Int32) (wp : va_W) (o : Nat) (cr : Int32) (inn : Int32) (k1 : Nat → Int32) (k2 : Nat → Int32) (k3 : Nat → Int32) (k4 : Nat → Int32) (z : va_W) (x : Int32) (y : Int32) (q : Int32) (hp : bPosts T po lp f1 f2 f3 st wh wp) (hz : bLand T o cr inn k1 k2 k3 k4 z) (hI : zLI cr k1 k3) (hLq : zLq cr k1 k2) (hxx : zHas cr x) (hyy : 0 ≤ y.toInt ∧ y.toInt < cr.toInt ∧ y.toInt < 7 ∧ 0 ≤ q.toInt ∧ q.toInt < (k1 y.toNatClampNeg).toInt ∧ q.toInt < 4) : zMi l T yX11_isKey cX11_isKey 5 (some .boolean) 4 0 0 [.ref xo, .ref o, .int x, .int y, .int q] [[zO10 xo t im mk rd po co tr wa wb_ fi cd], wp, z] (fun (r : Int32) bs => ∃ (f1_2 : Nat → Int32) (f2_2 : Nat → Int32) (f3_2 : Nat → Int32) (st_2 : Int32) (wh_2 : Int32) (wp_2 : va_W), bs = [[zO10 xo t im mk rd po co tr wa wb_ fi cd], wp_2, z] ∧ bPosts T po o f1_2 f2_2 f3_2 st_2 wh_2 wp_2 ∧ (r = 1 ∧ ¬ zBit inn (zKeyAt (kSh y q) (kW cr inn k1) k2 k3 x) = 1 ∨ r = 0 ∧ zBit inn (zKeyAt (kSh y q) (kW cr inn k1) k2 k3 x) = 1)) := by
  refine zMi_of (own := RX11) (by decide) rfl (Nat.le_of_ble_eq_true rfl) ?_
  intro p e s m args below meth c A ls C hr hlocks hnm hAe G hl
  refine zHide (fun Q9 hQ9 => ?_)
  have hx := C.1
  have hb := C.2.1
  have hl : lv_has ls 5 [(0, .ref xo), (1, .ref o), (2, .int x), (3, .int y), (4, .int q)] := hl
  refine lv_aload_n hx hb dX11_isKey_0 rfl (lv_at hl 0 rfl) ?_
  refine z_get C G clX11 0 rfl 4 (by decide) m_fl_RX11_34 rfl dX11_isKey_1 ?_
  refine lv_aload_n hx hb dX11_isKey_4 rfl (lv_at hl 1 rfl) ?_
  refine z_Vv (bc := [wp, z]) (br := [[zO10 xo t im mk rd po co tr wa wb_ fi cd]]) (As := [.ref o]) (rest := []) C G (c_Posts_begin l T po lp f1 f2 f3 st wh wp o cr inn k1 k2 k3 k4 z hp hz) (kV_RX11_205 C.2.2.2.2 (Nat.le_of_ble_eq_true rfl) (Nat.le_of_ble_eq_true rfl)) [1, 2] [1, 0] rfl rfl (ci := 6) (qc := (RX6, TX6, 6)) rfl rfl (List.mem_flatten.mpr ⟨_, List.mem_of_getElem? (i := 0) rfl, (bPosts_mem hp).choose_spec⟩) rfl rfl hl.1 dX11_isKey_5 (Nat.le_of_ble_eq_true rfl) (Nat.le_of_ble_eq_true rfl) (fun b1 H locs hw G => ?_)
  refine zEx4 hw ?_
  intro w2_1 g1_2 g2_3 g3_4
  refine zCu5 ?_
  intro hbs9 h_5 h_6 h_7 h_8
  clear hw
  subst hbs9
  have G : zS T A s.heap s [[zO10 xo t im mk rd po co tr wa wb_ fi cd], w2_1, z] _ _ := G
  have hQ : zP3 g1_2 g3_4 := z_P3 hI h_6 h_8
  have hW : ∀ j, j < 7 → g3_4 j = zWays cr inn k1 (nI j) := h_8
  have hWr := zWays_r hI hW
  have h7 := hI.1.2
  refine lv_aload_n hx hb dX11_isKey_8 rfl (lv_at hl 0 rfl) ?_
  refine z_get C G clX11 0 rfl 4 (by decide) m_fl_RX11_34 rfl dX11_isKey_9 ?_
  refine lv_iload_n hx hb dX11_isKey_12 rfl (lv_at hl 3 rfl) ?_
  refine lv_iload hx hb dX11_isKey_13 (lv_at hl 4 rfl) ?_
  refine z_Vv (bc := [w2_1, z]) (br := [[zO10 xo t im mk rd po co tr wa wb_ fi cd]]) (As := [.int y, .int q]) (rest := []) C G (c_shutRoad l T po o g1_2 g2_3 g3_4 0 0 w2_1 cr inn k1 k2 k3 k4 z y q h_5 hz) (kV_RX11_228 C.2.2.2.2 (Nat.le_of_ble_eq_true rfl) (Nat.le_of_ble_eq_true rfl)) [1, 2] [1, 0] rfl rfl (ci := 6) (qc := (RX6, TX6, 6)) rfl rfl (List.mem_flatten.mpr ⟨_, List.mem_of_getElem? (i := 0) rfl, (bPosts_mem h_5).choose_spec⟩) rfl rfl hl.1 dX11_isKey_15 (Nat.le_of_ble_eq_true rfl) (Nat.le_of_ble_eq_true rfl) (fun b1 H locs hw G => ?_)
  refine zEx2 hw ?_
  intro w2_10 g2_11
  refine zCu3 ?_
  intro hbs9 h_12 h_13
  clear hw
  subst hbs9
  have G : zS T A s.heap s [[zO10 xo t im mk rd po co tr wa wb_ fi cd], w2_10, z] _ _ := G
  refine lv_aload_n hx hb dX11_isKey_18 rfl (lv_at hl 0 rfl) ?_
  refine z_get C G clX11 0 rfl 4 (by decide) m_fl_RX11_34 rfl dX11_isKey_19 ?_
  refine lv_iload_n hx hb dX11_isKey_22 rfl (lv_at hl 2 rfl) ?_
  refine z_Vv (bc := [w2_10, z]) (br := [[zO10 xo t im mk rd po co tr wa wb_ fi cd]]) (As := [.int x]) (rest := []) C G (c_Posts_run l T po o g1_2 g2_11 g3_4 0 0 w2_10 cr inn k1 k2 k3 k4 z x h_12 hz hQ) (kV_RX11_208 C.2.2.2.2 (Nat.le_of_ble_eq_true rfl) (Nat.le_of_ble_eq_true rfl)) [1, 2] [1, 0] rfl rfl (ci := 6) (qc := (RX6, TX6, 6)) rfl rfl (List.mem_flatten.mpr ⟨_, List.mem_of_getElem? (i := 0) rfl, (bPosts_mem h_12).choose_spec⟩) rfl rfl hl.1 dX11_isKey_23 (Nat.le_of_ble_eq_true rfl) (Nat.le_of_ble_eq_true rfl) (fun b1 H locs hw G => ?_)
  refine zEx4 hw ?_
  intro w2_15 g1_16 s2_17 x2_18
  refine zCu5 ?_
  intro hbs9 h_19 h_20 h_21 h_22
  clear hw
  subst hbs9
  have G : zS T A s.heap s [[zO10 xo t im mk rd po co tr wa wb_ fi cd], w2_15, z] _ _ := G
  have hQ2 : zP3 g1_16 g3_4 := by rw [h_20]; exact zRunN_I _ _ _ _ hQ
  have hat := zRunN_h (f2 := g2_11) hW hWr hLq h7 499 g1_2 x 0 hQ hxx
  have hke : x2_18 = zKeyAt (kSh y q) (kW cr inn k1) k2 k3 x := by rw [h_22]; exact congrArg (fun q : Int32 × Nat => q.1) (zRunN_cg (g2 := kSh y q) (g3 := kW cr inn k1) (lg := k2) (g1 := k3) (fun j hj => by rw [h_13]; exact zSh_k h_7 hyy j hj) (fun j hj => hW j hj) zLs_rf 499 _ x 0 hQ h_6).2
  rw [← h_22] at hat
  refine lv_aload_n hx hb dX11_isKey_26 rfl (lv_at hl 1 rfl) ?_
  refine lv_aload_n hx hb dX11_isKey_27 rfl (lv_at hl 0 rfl) ?_
  refine z_get C G clX11 0 rfl 4 (by decide) m_fl_RX11_34 rfl dX11_isKey_28 ?_
  refine zEx3 h_19 ?_
  intro a1_24 a2_25 a3_26 hbs9
  clear h_19
  subst hbs9
  have G : zS T A s.heap s [[zO10 xo t im mk rd po co tr wa wb_ fi cd], [zO6 po o a1_24 a2_25 s2_17 x2_18 a3_26], [zAr T 0 a1_24 7 g1_16], [zAr T 0 a2_25 7 g2_11], [zAr T 0 a3_26 7 g3_4], z] _ _ := G.re rfl
  refine z_get C G clX6 1 rfl 4 (by decide) m_fl_RX11_211 rfl dX11_isKey_31 ?_
  refine z_Vi (bc := [z]) (br := [[zO10 xo t im mk rd po co tr wa wb_ fi cd], [zO6 po o a1_24 a2_25 s2_17 x2_18 a3_26], [zAr T 0 a1_24 7 g1_16], [zAr T 0 a2_25 7 g2_11], [zAr T 0 a3_26 7 g3_4]]) (As := [.int x2_18]) (rest := []) C G (c_isInn l T o cr inn k1 k2 k3 k4 z x2_18 hz) (kV_RX11_174 C.2.2.2.2 (Nat.le_of_ble_eq_true rfl) (Nat.le_of_ble_eq_true rfl)) [5] [5] rfl rfl (ci := 4) (qc := (RX4, TX4, 6)) rfl rfl (List.mem_flatten.mpr ⟨_, List.mem_of_getElem? (i := 0) rfl, (bLand_mem hz).choose_spec⟩) rfl rfl hl.1 dX11_isKey_34 (Nat.le_of_ble_eq_true rfl) (Nat.le_of_ble_eq_true rfl) (fun r_28 b1 H locs hw G => ?_)
  refine zAn2 hw ?_
  intro hbs9 hc_27
  clear hw
  subst hbs9
  have G : zS T A s.heap s [[zO10 xo t im mk rd po co tr wa wb_ fi cd], [zO6 po o a1_24 a2_25 s2_17 x2_18 a3_26], [zAr T 0 a1_24 7 g1_16], [zAr T 0 a2_25 7 g2_11], [zAr T 0 a3_26 7 g3_4], z] _ _ := G
  rcases hc_27 with ⟨rfl, h_29, h_30, h_31, h_32⟩ | ⟨rfl, h_33⟩
  · have h_29 : 0 ≤ x2_18.toInt := h_29
    have h_30 : x2_18.toInt < cr.toInt := h_30
    have h_31 : x2_18.toInt < 7 := h_31
    have h_32 : ¬ zBit inn x2_18 = 0 := h_32
    refine lv_if_ne (tgt := 44) hx hb dX11_isKey_37 (by decide) (fun _ => ?_) (fun q => absurd q (by decide))
    refine lv_iconst (v := 0) hx hb dX11_isKey_44 (by decide) ?_
    have hw_34 : bPosts T po o g1_16 g2_11 g3_4 s2_17 x2_18 [zO6 po o a1_24 a2_25 s2_17 x2_18 a3_26, zAr T 0 a1_24 7 g1_16, zAr T 0 a2_25 7 g2_11, zAr T 0 a3_26 7 g3_4] := ⟨a1_24, a2_25, a3_26, rfl⟩
    have G : zS T A s.heap s [[zO10 xo t im mk rd po co tr wa wb_ fi cd], [zO6 po o a1_24 a2_25 s2_17 x2_18 a3_26, zAr T 0 a1_24 7 g1_16, zAr T 0 a2_25 7 g2_11, zAr T 0 a3_26 7 g3_4], z] _ _ := G.re rfl
    exact z_back hQ9 (z_zret C hr hlocks G (Nat.le_of_ble_eq_true rfl) (Nat.le_of_ble_eq_true rfl) dX11_isKey_45 rfl ⟨g1_16, g2_11, g3_4, s2_17, x2_18, ([zO6 po o a1_24 a2_25 s2_17 x2_18 a3_26, zAr T 0 a1_24 7 g1_16, zAr T 0 a2_25 7 g2_11, zAr T 0 a3_26 7 g3_4]), rfl, hw_34, (Or.inr ⟨rfl, by rw [← hke]; exact zBit_p (by assumption)⟩)⟩)
  · have h_33 : (x2_18.toInt < 0 ∨ cr.toInt ≤ x2_18.toInt ∨ 7 ≤ x2_18.toInt ∨ zBit inn x2_18 = 0) := h_33
    have hni := h_33
    refine lv_if_ne (tgt := 44) hx hb dX11_isKey_37 (by decide) (fun q => absurd (by decide) q) (fun _ => ?_)
    refine lv_iconst (v := 1) hx hb dX11_isKey_40 (by decide) ?_
    refine lv_goto (tgt := 45) hx hb dX11_isKey_41 (by decide) ?_
    have hw_35 : bPosts T po o g1_16 g2_11 g3_4 s2_17 x2_18 [zO6 po o a1_24 a2_25 s2_17 x2_18 a3_26, zAr T 0 a1_24 7 g1_16, zAr T 0 a2_25 7 g2_11, zAr T 0 a3_26 7 g3_4] := ⟨a1_24, a2_25, a3_26, rfl⟩
    have G : zS T A s.heap s [[zO10 xo t im mk rd po co tr wa wb_ fi cd], [zO6 po o a1_24 a2_25 s2_17 x2_18 a3_26, zAr T 0 a1_24 7 g1_16, zAr T 0 a2_25 7 g2_11, zAr T 0 a3_26 7 g3_4], z] _ _ := G.re rfl
    exact z_back hQ9 (z_zret C hr hlocks G (Nat.le_of_ble_eq_true rfl) (Nat.le_of_ble_eq_true rfl) dX11_isKey_45 rfl ⟨g1_16, g2_11, g3_4, s2_17, x2_18, ([zO6 po o a1_24 a2_25 s2_17 x2_18 a3_26, zAr T 0 a1_24 7 g1_16, zAr T 0 a2_25 7 g2_11, zAr T 0 a3_26 7 g3_4]), rfl, hw_35, (Or.inl ⟨rfl, by rw [← hke]; exact fun q8 => by rcases hni with e9 | e9 | e9 | e9 <;> first | (exfalso; omega) | exact zBit_o q8 e9⟩)⟩)
theorem zWays_0 {cr inn : Int32} {k1 k3 : Nat → Int32} (hI : zLI cr k1 k3) (x : Int32) : 0 ≤ (zWays cr inn k1 x).toInt := by
  unfold zWays
  split
  · rename_i q
    have e := z_clI q.1
    exact (hI.2.1 _ (by omega)).1
  · decide
theorem zHyy {cr inn : Int32} {k1 : Nat → Int32} {i j : Nat} (hi : i < 7) (hj : (j : Int) < (zWays cr inn k1 (nI i)).toInt) (h4 : j < 4) : 0 ≤ (nI i).toInt ∧ (nI i).toInt < cr.toInt ∧ (nI i).toInt < 7 ∧ 0 ≤ (nI j).toInt ∧ (nI j).toInt < (k1 (nI i).toNatClampNeg).toInt ∧ (nI j).toInt < 4 := by
  have q := zWays_in (cr := cr) (inn := inn) (f1 := k1) (x := nI i) (fun z => by
    rw [z] at hj
    have z0 : (0 : Int32).toInt = 0 := rfl
    omega)
  have e := nI_toInt (n := j) (by omega)
  exact ⟨q.1, q.2.1, q.2.2.1, by omega, by rw [← q.2.2.2.2]; omega, by omega⟩
theorem zKey_y {a : Nat → Bool} {n : Nat} {u v : Int32} (ha : a n = true) (h5 : u = nI (zCn a n)) : u + 1 = nI (zCn a (n + 1)) := by
  rw [h5, zInc1]
  show nI (zCn a n + 1) = nI (if a n = true then zCn a n + 1 else zCn a n)
  rw [if_pos ha]
theorem zKey_n {a : Nat → Bool} {n : Nat} {u v : Int32} (ha : a n = false) (h5 : u = nI (zCn a n)) (h6 : v = zFi a n) : u = nI (zCn a (n + 1)) ∧ v = zFi a (n + 1) := by
  have t := zCn_skip (a := a) (m := n) (n + 1) (by omega) (fun t h1 h2 => by rw [show t = n by omega]; exact ha)
  rw [t.1, t.2]
  exact ⟨h5, h6⟩
theorem zKey_f {a : Nat → Bool} {n : Nat} {v : Int32} (ha : a n = true) (h6 : v = zFi a n) (q : v = -1) : nI (10 * (n / 4) + n % 4) = zFi a (n + 1) := by
  show _ = (if zFi a n = -1 then (if a n = true then nI (10 * (n / 4) + n % 4) else -1) else zFi a n)
  rw [if_pos (h6.symm.trans q), if_pos ha]
theorem zKey_k {a : Nat → Bool} {n : Nat} {v : Int32} (h6 : v = zFi a n) (q : ¬ v = -1) : v = zFi a (n + 1) := by
  show _ = (if zFi a n = -1 then (if a n = true then nI (10 * (n / 4) + n % 4) else -1) else zFi a n)
  rw [if_neg (fun z => q (h6.trans z))]
  exact h6
theorem zKb_o {cr inn x : Int32} {k1 k4 W L P : Nat → Int32} {t : Nat} (hI : zLI cr k1 k4) (h : cr.toInt ≤ ((t / 4 : Nat) : Int)) (ht : t < 28) : zKb inn (kW cr inn k1) W L P x t = false := by
  have e := nI_toInt (n := t / 4) (by omega)
  have z : kW cr inn k1 (t / 4) = 0 := by
    unfold kW zWays
    rw [if_neg (fun q => by omega)]
  unfold zKb
  rw [z, decide_eq_false (by show ¬ ((t % 4 : Nat) : Int) < (0 : Int32).toInt; have : (0 : Int32).toInt = 0 := rfl; omega), Bool.false_and]
set_option maxHeartbeats 4000000 in
set_option maxRecDepth 100000 in
/-- c_f_keys -/
theorem c_f_keys (l : Launch) (T : zTy) (xo : Nat) (t : Nat) (im : Nat) (mk : Nat) (rd : Nat) (po : Nat) (co : Nat) (tr : Nat) (wa : Nat) (wb_ : Nat) (fi : Nat) (cd : Nat) (l0 : Nat) (l1 : Nat) (d0 : Nat) (d1 : Nat) (g0 : Nat) (g1 : Nat) (ln : Int32) (fl : Int32) (pl : Int32) (ft : Nat → Int32) (fk : Nat → Int32) (wt : va_W) (cr0_ : Int32) (inn0_ : Int32) (k10_ : Nat → Int32) (k20_ : Nat → Int32) (k30_ : Nat → Int32) (k40_ : Nat → Int32) (z0_ : va_W) (cr1_ : Int32) (inn1_ : Int32) (k11_ : Nat → Int32) (k21_ : Nat → Int32) (k31_ : Nat → Int32) (k41_ : Nat → Int32) (z1_ : va_W) (lp : Nat) (f1 : Nat → Int32) (f2 : Nat → Int32) (f3 : Nat → Int32) (st : Int32) (wh : Int32) (wp : va_W) (i1 : Int32) (a_ : Int32) (w_ : Int32) (ht : bTold T t l0 l1 d0 d1 g0 g1 ln fl pl ft fk wt) (hK : zKT fk) (hz0_ : bLand T l0 cr0_ inn0_ k10_ k20_ k30_ k40_ z0_) (hI0_ : zLI cr0_ k10_ k30_) (hz1_ : bLand T l1 cr1_ inn1_ k11_ k21_ k31_ k41_ z1_) (hI1_ : zLI cr1_ k11_ k31_) (hp : bPosts T po lp f1 f2 f3 st wh wp) (hLq0 : zLq cr0_ k10_ k20_) (hLq1 : zLq cr1_ k11_ k21_) : zMi l T yX11_keys cX11_keys 9 (some .int) 5 0 0 [.ref xo, .int i1, .int a_, .int w_] [[zO10 xo t im mk rd po co tr wa wb_ fi cd], wt, z0_, z1_, wp] (fun (r : Int32) bs => ∃ (lp_2 : Nat) (f1_2 : Nat → Int32) (f2_2 : Nat → Int32) (f3_2 : Nat → Int32) (st_2 : Int32) (wh_2 : Int32) (wp_2 : va_W), bs = [[zO10 xo t im mk rd po co tr wa wb_ fi cd], wt, z0_, z1_, wp_2] ∧ bPosts T po lp_2 f1_2 f2_2 f3_2 st_2 wh_2 wp_2 ∧ ((i1.toInt < 0 ∨ (fk 0).toInt ≤ i1.toInt ∨ 2 ≤ i1.toInt) ∧ r = -2 ∨ i1.toInt = 0 ∧ 0 < (fk 0).toInt ∧ r = kKeys cr0_ inn0_ k10_ k20_ k30_ a_ w_ ∨ i1.toInt = 1 ∧ 1 < (fk 0).toInt ∧ r = kKeys cr1_ inn1_ k11_ k21_ k31_ a_ w_)) := by
  refine zMi_of (own := RX11) (by decide) rfl (Nat.le_of_ble_eq_true rfl) ?_
  intro p e s m args below meth c A ls C hr hlocks hnm hAe G hl
  refine zHide (fun Q9 hQ9 => ?_)
  have hx := C.1
  have hb := C.2.1
  have hl : lv_has ls 9 [(0, .ref xo), (1, .int i1), (2, .int a_), (3, .int w_)] := hl
  refine lv_aload_n hx hb dX11_keys_0 rfl (lv_at hl 0 rfl) ?_
  refine z_get C G clX11 0 rfl 0 (by decide) m_fl_RX11_10 rfl dX11_keys_1 ?_
  refine lv_iload_n hx hb dX11_keys_4 rfl (lv_at hl 1 rfl) ?_
  refine z_Vq (bc := [wt]) (br := [[zO10 xo t im mk rd po co tr wa wb_ fi cd], z0_, z1_, wp]) (As := [.int i1]) (rest := []) C G (c_landAt l T t l0 l1 d0 d1 g0 g1 ln fl pl ft fk wt i1 ht) (kV_RX11_121 C.2.2.2.2 (Nat.le_of_ble_eq_true rfl) (Nat.le_of_ble_eq_true rfl)) [1] [1] rfl rfl (ci := 8) (qc := (RX9, TX9, 8)) rfl rfl (List.mem_flatten.mpr ⟨_, List.mem_of_getElem? (i := 0) rfl, (bTold_mem ht).choose_spec⟩) rfl rfl hl.1 dX11_keys_5 (Nat.le_of_ble_eq_true rfl) (Nat.le_of_ble_eq_true rfl) (fun r_2 b1 H locs hw G => ?_)
  refine zAn2 hw ?_
  intro hbs9 hc_1
  clear hw
  subst hbs9
  have G : zS T A s.heap s [[zO10 xo t im mk rd po co tr wa wb_ fi cd], z0_, z1_, wp, wt] _ _ := G
  rcases hc_1 with ⟨rfl, h_3⟩ | ⟨rfl, h_4, h_5⟩ | ⟨rfl, h_6, h_7⟩
  · have h_3 : (i1.toInt < 0 ∨ (fk 0).toInt ≤ i1.toInt ∨ 2 ≤ i1.toInt) := h_3
    refine lv_astoreN (lv' := [(4, .null), (0, .ref xo), (1, .int i1), (2, .int a_), (3, .int w_)]) hx hb dX11_keys_8 hl (by decide) (zLvf_h rfl) (fun ls hl => ?_)
    refine lv_aloadN hx hb dX11_keys_10 (lv_at hl 0 rfl) ?_
    refine lv_ifnullN (tgt := 24) hx hb dX11_keys_12 (by decide) ?_
    refine lv_bipush (v := (-2)) hx hb dX11_keys_24 (by decide) ?_
    have G := G.sub (bs' := [[zO10 xo t im mk rd po co tr wa wb_ fi cd], wt, z0_, z1_, wp]) [0, 4, 1, 2, 3] rfl
    exact z_back hQ9 (z_iret C hr hlocks G (Nat.le_of_ble_eq_true rfl) (Nat.le_of_ble_eq_true rfl) dX11_keys_26 ⟨lp, f1, f2, f3, st, wh, wp, rfl, hp, (Or.inl ⟨by assumption, rfl⟩)⟩)
  · have h_4 : i1.toInt = 0 := h_4
    have h_5 : 0 < (fk 0).toInt := h_5
    refine lv_astore (lv' := [(4, .ref l0), (0, .ref xo), (1, .int i1), (2, .int a_), (3, .int w_)]) hx hb dX11_keys_8 hl (by decide) (zLvf_h rfl) (fun ls hl => ?_)
    refine lv_aload hx hb dX11_keys_10 (lv_at hl 0 rfl) ?_
    refine lv_ifnull hx hb dX11_keys_12 ?_
    refine lv_aload hx hb dX11_keys_15 (lv_at hl 0 rfl) ?_
    refine lv_iload_n hx hb dX11_keys_17 rfl (lv_at hl 3 rfl) ?_
    refine z_Vi (bc := [z0_]) (br := [[zO10 xo t im mk rd po co tr wa wb_ fi cd], z1_, wp, wt]) (As := [.int a_]) (rest := []) C G (c_has l T l0 cr0_ inn0_ k10_ k20_ k30_ k40_ z0_ a_ hz0_) (kV_RX11_160 C.2.2.2.2 (Nat.le_of_ble_eq_true rfl) (Nat.le_of_ble_eq_true rfl)) [1] [1] rfl rfl (ci := 4) (qc := (RX4, TX4, 6)) rfl rfl (List.mem_flatten.mpr ⟨_, List.mem_of_getElem? (i := 0) rfl, (bLand_mem hz0_).choose_spec⟩) rfl rfl hl.1 dX11_keys_18 (Nat.le_of_ble_eq_true rfl) (Nat.le_of_ble_eq_true rfl) (fun r_9 b1 H locs hw G => ?_)
    refine zAn2 hw ?_
    intro hbs9 hc_8
    clear hw
    subst hbs9
    have G : zS T A s.heap s [[zO10 xo t im mk rd po co tr wa wb_ fi cd], z1_, wp, wt, z0_] _ _ := G
    rcases hc_8 with ⟨rfl, h_10, h_11, h_12⟩ | ⟨rfl, h_13⟩
    · have h_10 : 0 ≤ a_.toInt := h_10
      have h_11 : a_.toInt < cr0_.toInt := h_11
      have h_12 : a_.toInt < 7 := h_12
      refine lv_if_ne (tgt := 27) hx hb dX11_keys_21 (by decide) (fun _ => ?_) (fun q => absurd q (by decide))
      refine lv_aload_n hx hb dX11_keys_27 rfl (lv_at hl 1 rfl) ?_
      refine z_get C G clX11 0 rfl 4 (by decide) m_fl_RX11_34 rfl dX11_keys_28 ?_
      refine lv_aload hx hb dX11_keys_31 (lv_at hl 0 rfl) ?_
      refine z_Vv (bc := [wp, z0_]) (br := [[zO10 xo t im mk rd po co tr wa wb_ fi cd], z1_, wt]) (As := [.ref l0]) (rest := []) C G (c_Posts_begin l T po lp f1 f2 f3 st wh wp l0 cr0_ inn0_ k10_ k20_ k30_ k40_ z0_ hp hz0_) (kV_RX11_205 C.2.2.2.2 (Nat.le_of_ble_eq_true rfl) (Nat.le_of_ble_eq_true rfl)) [2, 4] [2, 1] rfl rfl (ci := 6) (qc := (RX6, TX6, 6)) rfl rfl (List.mem_flatten.mpr ⟨_, List.mem_of_getElem? (i := 0) rfl, (bPosts_mem hp).choose_spec⟩) rfl rfl hl.1 dX11_keys_33 (Nat.le_of_ble_eq_true rfl) (Nat.le_of_ble_eq_true rfl) (fun b1 H locs hw G => ?_)
      refine zEx4 hw ?_
      intro w2_14 g1_15 g2_16 g3_17
      refine zCu5 ?_
      intro hbs9 h_18 h_19 h_20 h_21
      clear hw
      subst hbs9
      have G : zS T A s.heap s [[zO10 xo t im mk rd po co tr wa wb_ fi cd], z1_, wt, w2_14, z0_] _ _ := G
      have hQ : zP3 g1_15 g3_17 := z_P3 hI0_ h_19 h_21
      refine lv_aload_n hx hb dX11_keys_36 rfl (lv_at hl 1 rfl) ?_
      refine z_get C G clX11 0 rfl 4 (by decide) m_fl_RX11_34 rfl dX11_keys_37 ?_
      refine lv_iload_n hx hb dX11_keys_40 rfl (lv_at hl 3 rfl) ?_
      refine z_Vv (bc := [w2_14, z0_]) (br := [[zO10 xo t im mk rd po co tr wa wb_ fi cd], z1_, wt]) (As := [.int a_]) (rest := []) C G (c_Posts_run l T po l0 g1_15 g2_16 g3_17 0 0 w2_14 cr0_ inn0_ k10_ k20_ k30_ k40_ z0_ a_ h_18 hz0_ (by first | with_reducible assumption | with_reducible rfl | omega | assumption | rfl)) (kV_RX11_208 C.2.2.2.2 (Nat.le_of_ble_eq_true rfl) (Nat.le_of_ble_eq_true rfl)) [3, 4] [3, 0] rfl rfl (ci := 6) (qc := (RX6, TX6, 6)) rfl rfl (List.mem_flatten.mpr ⟨_, List.mem_of_getElem? (i := 0) rfl, (bPosts_mem h_18).choose_spec⟩) rfl rfl hl.1 dX11_keys_41 (Nat.le_of_ble_eq_true rfl) (Nat.le_of_ble_eq_true rfl) (fun b1 H locs hw G => ?_)
      refine zEx4 hw ?_
      intro w2_23 g1_24 s2_25 x2_26
      refine zCu5 ?_
      intro hbs9 h_27 h_28 h_29 h_30
      clear hw
      subst hbs9
      have G : zS T A s.heap s [[zO10 xo t im mk rd po co tr wa wb_ fi cd], z1_, wt, w2_23, z0_] _ _ := G
      have hQ2 : zP3 g1_24 g3_17 := by rw [h_28]; exact zRunN_I _ _ _ _ hQ
      have hW : ∀ j, j < 7 → g3_17 j = zWays cr0_ inn0_ k10_ (nI j) := h_21
      have hat := zRunN_h (f2 := g2_16) hW (zWays_r hI0_ hW) hLq0 hI0_.1.2 499 g1_15 a_ 0 hQ ⟨by omega, by omega, by omega⟩
      have hke : x2_26 = zKeyAt zS0 (kW cr0_ inn0_ k10_) k20_ k30_ a_ := by rw [h_30]; exact congrArg (fun q : Int32 × Nat => q.1) (zRunN_cg (g2 := zS0) (g3 := kW cr0_ inn0_ k10_) (lg := k20_) (g1 := k30_) (fun j hj => h_20 j hj) (fun j hj => hW j hj) zLs_rf 499 _ a_ 0 hQ h_19).2
      rw [← h_30] at hat
      refine lv_aload hx hb dX11_keys_44 (lv_at hl 0 rfl) ?_
      refine lv_aload_n hx hb dX11_keys_46 rfl (lv_at hl 1 rfl) ?_
      refine z_get C G clX11 0 rfl 4 (by decide) m_fl_RX11_34 rfl dX11_keys_47 ?_
      refine zEx3 h_27 ?_
      intro a1_32 a2_33 a3_34 hbs9
      clear h_27
      subst hbs9
      have G : zS T A s.heap s [[zO10 xo t im mk rd po co tr wa wb_ fi cd], z1_, wt, [zO6 po l0 a1_32 a2_33 s2_25 x2_26 a3_34], [zAr T 0 a1_32 7 g1_24], [zAr T 0 a2_33 7 g2_16], [zAr T 0 a3_34 7 g3_17], z0_] _ _ := G.re rfl
      refine z_get C G clX6 3 rfl 4 (by decide) m_fl_RX11_211 rfl dX11_keys_50 ?_
      refine z_Vi (bc := [z0_]) (br := [[zO10 xo t im mk rd po co tr wa wb_ fi cd], z1_, wt, [zO6 po l0 a1_32 a2_33 s2_25 x2_26 a3_34], [zAr T 0 a1_32 7 g1_24], [zAr T 0 a2_33 7 g2_16], [zAr T 0 a3_34 7 g3_17]]) (As := [.int x2_26]) (rest := []) C G (c_isInn l T l0 cr0_ inn0_ k10_ k20_ k30_ k40_ z0_ x2_26 hz0_) (kV_RX11_174 C.2.2.2.2 (Nat.le_of_ble_eq_true rfl) (Nat.le_of_ble_eq_true rfl)) [7] [7] rfl rfl (ci := 4) (qc := (RX4, TX4, 6)) rfl rfl (List.mem_flatten.mpr ⟨_, List.mem_of_getElem? (i := 0) rfl, (bLand_mem hz0_).choose_spec⟩) rfl rfl hl.1 dX11_keys_53 (Nat.le_of_ble_eq_true rfl) (Nat.le_of_ble_eq_true rfl) (fun r_36 b1 H locs hw G => ?_)
      refine zAn2 hw ?_
      intro hbs9 hc_35
      clear hw
      subst hbs9
      have G : zS T A s.heap s [[zO10 xo t im mk rd po co tr wa wb_ fi cd], z1_, wt, [zO6 po l0 a1_32 a2_33 s2_25 x2_26 a3_34], [zAr T 0 a1_32 7 g1_24], [zAr T 0 a2_33 7 g2_16], [zAr T 0 a3_34 7 g3_17], z0_] _ _ := G
      rcases hc_35 with ⟨rfl, h_37, h_38, h_39, h_40⟩ | ⟨rfl, h_41⟩
      · have h_37 : 0 ≤ x2_26.toInt := h_37
        have h_38 : x2_26.toInt < cr0_.toInt := h_38
        have h_39 : x2_26.toInt < 7 := h_39
        have h_40 : ¬ zBit inn0_ x2_26 = 0 := h_40
        have hb1 := zBit_p h_40
        refine lv_if_ne (tgt := 62) hx hb dX11_keys_56 (by decide) (fun _ => ?_) (fun q => absurd q (by decide))
        have hc0 := hI0_.1
        refine lv_iconst (v := 0) hx hb dX11_keys_62 (by decide) ?_
        refine lv_istore (lv' := [(5, .int 0), (4, .ref l0), (0, .ref xo), (1, .int i1), (2, .int a_), (3, .int w_)]) hx hb dX11_keys_63 hl (by decide) (zLvf_h rfl) (fun ls hl => ?_)
        refine lv_iconst (v := (-1)) hx hb dX11_keys_65 (by decide) ?_
        refine lv_istore (lv' := [(6, .int (-1)), (5, .int 0), (4, .ref l0), (0, .ref xo), (1, .int i1), (2, .int a_), (3, .int w_)]) hx hb dX11_keys_66 hl (by decide) (zLvf_h rfl) (fun ls hl => ?_)
        refine lv_iconst (v := 0) hx hb dX11_keys_68 (by decide) ?_
        refine lv_istore (lv' := [(7, .int 0), (6, .int (-1)), (5, .int 0), (4, .ref l0), (0, .ref xo), (1, .int i1), (2, .int a_), (3, .int w_)]) hx hb dX11_keys_69 hl (by decide) (zLvf_h rfl) (fun ls hl => ?_)
        refine zEx4 hz0_ ?_
        intro a1_42 a2_43 a3_44 a4_45 hbs9
        clear hz0_
        subst hbs9
        have G : zS T A s.heap s [[zO10 xo t im mk rd po co tr wa wb_ fi cd], z1_, wt, [zO6 po l0 a1_32 a2_33 s2_25 x2_26 a3_34], [zAr T 0 a1_32 7 g1_24], [zAr T 0 a2_33 7 g2_16], [zAr T 0 a3_34 7 g3_17], [zO4 l0 cr0_ inn0_ a1_42 a2_43 a3_44 a4_45], [zAr T 0 a1_42 7 k10_], [zAr T 0 a2_43 28 k20_], [zAr T 0 a3_44 7 k30_], [zAr T 0 a4_45 7 k40_]] _ _ := G.re rfl
        have hw_46 : bPosts T po l0 g1_24 g2_16 g3_17 s2_25 x2_26 [zO6 po l0 a1_32 a2_33 s2_25 x2_26 a3_34, zAr T 0 a1_32 7 g1_24, zAr T 0 a2_33 7 g2_16, zAr T 0 a3_34 7 g3_17] := ⟨a1_32, a2_33, a3_34, rfl⟩
        have G : zS T A s.heap s [[zO10 xo t im mk rd po co tr wa wb_ fi cd], z1_, wt, [zO6 po l0 a1_32 a2_33 s2_25 x2_26 a3_34, zAr T 0 a1_32 7 g1_24, zAr T 0 a2_33 7 g2_16, zAr T 0 a3_34 7 g3_17], [zO4 l0 cr0_ inn0_ a1_42 a2_43 a3_44 a4_45], [zAr T 0 a1_42 7 k10_], [zAr T 0 a2_43 28 k20_], [zAr T 0 a3_44 7 k30_], [zAr T 0 a4_45 7 k40_]] _ _ := G.re rfl
        have hw_47 : bLand T l0 cr0_ inn0_ k10_ k20_ k30_ k40_ [zO4 l0 cr0_ inn0_ a1_42 a2_43 a3_44 a4_45, zAr T 0 a1_42 7 k10_, zAr T 0 a2_43 28 k20_, zAr T 0 a3_44 7 k30_, zAr T 0 a4_45 7 k40_] := ⟨a1_42, a2_43, a3_44, a4_45, rfl⟩
        have G : zS T A s.heap s [[zO10 xo t im mk rd po co tr wa wb_ fi cd], z1_, wt, [zO6 po l0 a1_32 a2_33 s2_25 x2_26 a3_34, zAr T 0 a1_32 7 g1_24, zAr T 0 a2_33 7 g2_16, zAr T 0 a3_34 7 g3_17], [zO4 l0 cr0_ inn0_ a1_42 a2_43 a3_44 a4_45, zAr T 0 a1_42 7 k10_, zAr T 0 a2_43 28 k20_, zAr T 0 a3_44 7 k30_, zAr T 0 a4_45 7 k40_]] _ _ := G.re rfl
        refine z_lp9 (T := T) 71 (fun (i : Nat) (u5 : Int32) (u6 : Int32) (wp3 : va_W) (x1 : Nat → Int32) (x2 : Nat → Int32) (x3 : Nat → Int32) (sx : Int32) (wx : Int32) => [[zO10 xo t im mk rd po co tr wa wb_ fi cd], z1_, wt, wp3, [zO4 l0 cr0_ inn0_ a1_42 a2_43 a3_44 a4_45, zAr T 0 a1_42 7 k10_, zAr T 0 a2_43 28 k20_, zAr T 0 a3_44 7 k30_, zAr T 0 a4_45 7 k40_]]) (fun (i : Nat) (u5 : Int32) (u6 : Int32) (wp3 : va_W) (x1 : Nat → Int32) (x2 : Nat → Int32) (x3 : Nat → Int32) (sx : Int32) (wx : Int32) => [(7, .int (nI i)), (6, .int u6), (5, .int u5), (4, .ref l0), (0, .ref xo), (1, .int i1), (2, .int a_), (3, .int w_)]) (fun (i : Nat) (u5 : Int32) (u6 : Int32) (wp3 : va_W) (x1 : Nat → Int32) (x2 : Nat → Int32) (x3 : Nat → Int32) (sx : Int32) (wx : Int32) => bPosts T po l0 x1 x2 x3 sx wx wp3 ∧ i ≤ 7 ∧ (i : Int) ≤ cr0_.toInt ∧ u5 = nI (zCn (zKb inn0_ (kW cr0_ inn0_ k10_) (kW cr0_ inn0_ k10_) k20_ k30_ a_) (4 * i)) ∧ u6 = zFi (zKb inn0_ (kW cr0_ inn0_ k10_) (kW cr0_ inn0_ k10_) k20_ k30_ a_) (4 * i)) (fun (i : Nat) (u5 : Int32) (u6 : Int32) (wp3 : va_W) (x1 : Nat → Int32) (x2 : Nat → Int32) (x3 : Nat → Int32) (sx : Int32) (wx : Int32) => 7 - i) ?_ 0 0 (-1) ([zO6 po l0 a1_32 a2_33 s2_25 x2_26 a3_34, zAr T 0 a1_32 7 g1_24, zAr T 0 a2_33 7 g2_16, zAr T 0 a3_34 7 g3_17]) g1_24 g2_16 g3_17 s2_25 x2_26 (show bPosts T po l0 g1_24 g2_16 g3_17 s2_25 x2_26 ([zO6 po l0 a1_32 a2_33 s2_25 x2_26 a3_34, zAr T 0 a1_32 7 g1_24, zAr T 0 a2_33 7 g2_16, zAr T 0 a3_34 7 g3_17]) ∧ 0 ≤ 7 ∧ (0 : Int) ≤ cr0_.toInt ∧ 0 = nI (zCn (zKb inn0_ (kW cr0_ inn0_ k10_) (kW cr0_ inn0_ k10_) k20_ k30_ a_) (4 * 0)) ∧ (-1) = zFi (zKb inn0_ (kW cr0_ inn0_ k10_) (kW cr0_ inn0_ k10_) k20_ k30_ a_) (4 * 0) from ⟨hw_46, by omega, by omega, rfl, rfl⟩) G (lv_sub hl [0, 1, 2, 3, 4, 5, 6, 7] rfl)
        intro i u5 u6 wp3 x1 x2 x3 sx wx hI9 ih_71 H locs ls G hl
        replace hI9 : bPosts T po l0 x1 x2 x3 sx wx wp3 ∧ i ≤ 7 ∧ (i : Int) ≤ cr0_.toInt ∧ u5 = nI (zCn (zKb inn0_ (kW cr0_ inn0_ k10_) (kW cr0_ inn0_ k10_) k20_ k30_ a_) (4 * i)) ∧ u6 = zFi (zKb inn0_ (kW cr0_ inn0_ k10_) (kW cr0_ inn0_ k10_) k20_ k30_ a_) (4 * i) := hI9
        refine zAn5 hI9 ?_
        intro hp3 hi hic h5 h6
        clear hI9
        replace G : zS T A s.heap s [[zO10 xo t im mk rd po co tr wa wb_ fi cd], z1_, wt, wp3, [zO4 l0 cr0_ inn0_ a1_42 a2_43 a3_44 a4_45, zAr T 0 a1_42 7 k10_, zAr T 0 a2_43 28 k20_, zAr T 0 a3_44 7 k30_, zAr T 0 a4_45 7 k40_]] _ _ := G
        replace hl : lv_has ls 9 [(7, .int (nI i)), (6, .int u6), (5, .int u5), (4, .ref l0), (0, .ref xo), (1, .int i1), (2, .int a_), (3, .int w_)] := hl
        refine lv_iload hx hb dX11_keys_71 (lv_at hl 0 rfl) ?_
        refine lv_aload hx hb dX11_keys_73 (lv_at hl 3 rfl) ?_
        have G : zS T A s.heap s [[zO10 xo t im mk rd po co tr wa wb_ fi cd], z1_, wt, wp3, [zO4 l0 cr0_ inn0_ a1_42 a2_43 a3_44 a4_45], [zAr T 0 a1_42 7 k10_], [zAr T 0 a2_43 28 k20_], [zAr T 0 a3_44 7 k30_], [zAr T 0 a4_45 7 k40_]] _ _ := G.re rfl
        refine z_get C G clX4 4 rfl 0 (by decide) m_fl_RX11_218 rfl dX11_keys_75 ?_
        refine lv_icmp_ge (tgt := 146) hx hb dX11_keys_78 (by decide) (fun c_48 => ?_) (fun c_48 => ?_)
        · have c_48n : cr0_.toInt ≤ (i : Int) := by have q := (fa_le _ _).mp c_48; rw [nI_toInt (n := i) (by omega)] at q; exact q
          refine lv_iload_n hx hb dX11_keys_146 rfl (lv_at hl 7 rfl) ?_
          refine lv_if_eq (tgt := 155) hx hb dX11_keys_147 (by decide) (fun c_49 => ?_) (fun c_49 => ?_)
          · have c_49n : w_.toInt = (0 : Int) := (fa_eq _ _).mp c_49
            refine lv_iload hx hb dX11_keys_155 (lv_at hl 2 rfl) ?_
            have hw_50 : bLand T l0 cr0_ inn0_ k10_ k20_ k30_ k40_ [zO4 l0 cr0_ inn0_ a1_42 a2_43 a3_44 a4_45, zAr T 0 a1_42 7 k10_, zAr T 0 a2_43 28 k20_, zAr T 0 a3_44 7 k30_, zAr T 0 a4_45 7 k40_] := ⟨a1_42, a2_43, a3_44, a4_45, rfl⟩
            have G : zS T A s.heap s [[zO10 xo t im mk rd po co tr wa wb_ fi cd], z1_, wt, wp3, [zO4 l0 cr0_ inn0_ a1_42 a2_43 a3_44 a4_45, zAr T 0 a1_42 7 k10_, zAr T 0 a2_43 28 k20_, zAr T 0 a3_44 7 k30_, zAr T 0 a4_45 7 k40_]] _ _ := G.re rfl
            have G := G.sub (bs' := [[zO10 xo t im mk rd po co tr wa wb_ fi cd], wt, [zO4 l0 cr0_ inn0_ a1_42 a2_43 a3_44 a4_45, zAr T 0 a1_42 7 k10_, zAr T 0 a2_43 28 k20_, zAr T 0 a3_44 7 k30_, zAr T 0 a4_45 7 k40_], z1_, wp3]) [0, 2, 4, 1, 3] rfl
            exact z_back hQ9 (z_iret C hr hlocks G (Nat.le_of_ble_eq_true rfl) (Nat.le_of_ble_eq_true rfl) dX11_keys_157 ⟨l0, x1, x2, x3, sx, wx, wp3, rfl, hp3, (Or.inr (Or.inl ⟨by assumption, by assumption, (by unfold kKeys; rw [if_pos ⟨⟨by omega, by omega⟩, by rw [← hke]; exact hb1⟩, if_pos (by omega)]; have hsz := zCn_skip (a := zKb inn0_ (kW cr0_ inn0_ k10_) (kW cr0_ inn0_ k10_) k20_ k30_ a_) (m := 4 * i) 28 (by omega) (fun t h1 h2 => zKb_o hI0_ (by omega) (by omega)); rw [hsz.1]; exact h5)⟩))⟩)
          · have c_49n : ¬ w_.toInt = (0 : Int) := fun q => c_49 ((fa_eq _ _).mpr q)
            refine lv_iload hx hb dX11_keys_150 (lv_at hl 1 rfl) ?_
            refine lv_goto (tgt := 157) hx hb dX11_keys_152 (by decide) ?_
            have hw_51 : bLand T l0 cr0_ inn0_ k10_ k20_ k30_ k40_ [zO4 l0 cr0_ inn0_ a1_42 a2_43 a3_44 a4_45, zAr T 0 a1_42 7 k10_, zAr T 0 a2_43 28 k20_, zAr T 0 a3_44 7 k30_, zAr T 0 a4_45 7 k40_] := ⟨a1_42, a2_43, a3_44, a4_45, rfl⟩
            have G : zS T A s.heap s [[zO10 xo t im mk rd po co tr wa wb_ fi cd], z1_, wt, wp3, [zO4 l0 cr0_ inn0_ a1_42 a2_43 a3_44 a4_45, zAr T 0 a1_42 7 k10_, zAr T 0 a2_43 28 k20_, zAr T 0 a3_44 7 k30_, zAr T 0 a4_45 7 k40_]] _ _ := G.re rfl
            have G := G.sub (bs' := [[zO10 xo t im mk rd po co tr wa wb_ fi cd], wt, [zO4 l0 cr0_ inn0_ a1_42 a2_43 a3_44 a4_45, zAr T 0 a1_42 7 k10_, zAr T 0 a2_43 28 k20_, zAr T 0 a3_44 7 k30_, zAr T 0 a4_45 7 k40_], z1_, wp3]) [0, 2, 4, 1, 3] rfl
            exact z_back hQ9 (z_iret C hr hlocks G (Nat.le_of_ble_eq_true rfl) (Nat.le_of_ble_eq_true rfl) dX11_keys_157 ⟨l0, x1, x2, x3, sx, wx, wp3, rfl, hp3, (Or.inr (Or.inl ⟨by assumption, by assumption, (by unfold kKeys; rw [if_pos ⟨⟨by omega, by omega⟩, by rw [← hke]; exact hb1⟩, if_neg (by omega)]; have hsz := zCn_skip (a := zKb inn0_ (kW cr0_ inn0_ k10_) (kW cr0_ inn0_ k10_) k20_ k30_ a_) (m := 4 * i) 28 (by omega) (fun t h1 h2 => zKb_o hI0_ (by omega) (by omega)); rw [hsz.2]; exact h6)⟩))⟩)
        · have c_48n : ¬ cr0_.toInt ≤ (i : Int) := fun q => c_48 ((fa_le _ _).mpr (by rw [nI_toInt (n := i) (by omega)]; exact q))
          have hwl := zWays_le (inn := inn0_) hI0_ (nI i)
          have hkw : (kW cr0_ inn0_ k10_ i).toInt = (zWays cr0_ inn0_ k10_ (nI i)).toInt := rfl
          have hti := nI_toInt (n := i) (by omega)
          have hwn : 0 ≤ (zWays cr0_ inn0_ k10_ (nI i)).toInt := zWays_0 hI0_ (nI i)
          refine lv_iconst (v := 0) hx hb dX11_keys_81 (by decide) ?_
          refine lv_istore (lv' := [(8, .int 0), (7, .int (nI i)), (6, .int u6), (5, .int u5), (4, .ref l0), (0, .ref xo), (1, .int i1), (2, .int a_), (3, .int w_)]) hx hb dX11_keys_82 hl (by decide) (zLvf_h rfl) (fun ls hl => ?_)
          have hw_52 : bLand T l0 cr0_ inn0_ k10_ k20_ k30_ k40_ [zO4 l0 cr0_ inn0_ a1_42 a2_43 a3_44 a4_45, zAr T 0 a1_42 7 k10_, zAr T 0 a2_43 28 k20_, zAr T 0 a3_44 7 k30_, zAr T 0 a4_45 7 k40_] := ⟨a1_42, a2_43, a3_44, a4_45, rfl⟩
          have G : zS T A s.heap s [[zO10 xo t im mk rd po co tr wa wb_ fi cd], z1_, wt, wp3, [zO4 l0 cr0_ inn0_ a1_42 a2_43 a3_44 a4_45, zAr T 0 a1_42 7 k10_, zAr T 0 a2_43 28 k20_, zAr T 0 a3_44 7 k30_, zAr T 0 a4_45 7 k40_]] _ _ := G.re rfl
          refine z_lp9 (T := T) 84 (fun (j : Nat) (v5 : Int32) (v6 : Int32) (wp4 : va_W) (y1 : Nat → Int32) (y2 : Nat → Int32) (y3 : Nat → Int32) (sy : Int32) (wy : Int32) => [[zO10 xo t im mk rd po co tr wa wb_ fi cd], z1_, wt, wp4, [zO4 l0 cr0_ inn0_ a1_42 a2_43 a3_44 a4_45, zAr T 0 a1_42 7 k10_, zAr T 0 a2_43 28 k20_, zAr T 0 a3_44 7 k30_, zAr T 0 a4_45 7 k40_]]) (fun (j : Nat) (v5 : Int32) (v6 : Int32) (wp4 : va_W) (y1 : Nat → Int32) (y2 : Nat → Int32) (y3 : Nat → Int32) (sy : Int32) (wy : Int32) => [(8, .int (nI j)), (7, .int (nI i)), (6, .int v6), (5, .int v5), (4, .ref l0), (0, .ref xo), (1, .int i1), (2, .int a_), (3, .int w_)]) (fun (j : Nat) (v5 : Int32) (v6 : Int32) (wp4 : va_W) (y1 : Nat → Int32) (y2 : Nat → Int32) (y3 : Nat → Int32) (sy : Int32) (wy : Int32) => bPosts T po l0 y1 y2 y3 sy wy wp4 ∧ j ≤ 4 ∧ ((j : Int) ≤ (kW cr0_ inn0_ k10_ i).toInt) ∧ v5 = nI (zCn (zKb inn0_ (kW cr0_ inn0_ k10_) (kW cr0_ inn0_ k10_) k20_ k30_ a_) (4 * i + j)) ∧ v6 = zFi (zKb inn0_ (kW cr0_ inn0_ k10_) (kW cr0_ inn0_ k10_) k20_ k30_ a_) (4 * i + j)) (fun (j : Nat) (v5 : Int32) (v6 : Int32) (wp4 : va_W) (y1 : Nat → Int32) (y2 : Nat → Int32) (y3 : Nat → Int32) (sy : Int32) (wy : Int32) => 4 - j) ?_ 0 u5 u6 wp3 x1 x2 x3 sx wx (show bPosts T po l0 x1 x2 x3 sx wx wp3 ∧ 0 ≤ 4 ∧ ((0 : Int) ≤ (kW cr0_ inn0_ k10_ i).toInt) ∧ u5 = nI (zCn (zKb inn0_ (kW cr0_ inn0_ k10_) (kW cr0_ inn0_ k10_) k20_ k30_ a_) (4 * i + 0)) ∧ u6 = zFi (zKb inn0_ (kW cr0_ inn0_ k10_) (kW cr0_ inn0_ k10_) k20_ k30_ a_) (4 * i + 0) from ⟨hp3, by omega, (by omega), h5, h6⟩) G (lv_sub hl [0, 1, 2, 3, 4, 5, 6, 7, 8] rfl)
          intro j v5 v6 wp4 y1 y2 y3 sy wy hI9 ih_84 H locs ls G hl
          replace hI9 : bPosts T po l0 y1 y2 y3 sy wy wp4 ∧ j ≤ 4 ∧ ((j : Int) ≤ (kW cr0_ inn0_ k10_ i).toInt) ∧ v5 = nI (zCn (zKb inn0_ (kW cr0_ inn0_ k10_) (kW cr0_ inn0_ k10_) k20_ k30_ a_) (4 * i + j)) ∧ v6 = zFi (zKb inn0_ (kW cr0_ inn0_ k10_) (kW cr0_ inn0_ k10_) k20_ k30_ a_) (4 * i + j) := hI9
          refine zAn5 hI9 ?_
          intro hp4 hj hjw g5 g6
          clear hI9
          replace G : zS T A s.heap s [[zO10 xo t im mk rd po co tr wa wb_ fi cd], z1_, wt, wp4, [zO4 l0 cr0_ inn0_ a1_42 a2_43 a3_44 a4_45, zAr T 0 a1_42 7 k10_, zAr T 0 a2_43 28 k20_, zAr T 0 a3_44 7 k30_, zAr T 0 a4_45 7 k40_]] _ _ := G
          replace hl : lv_has ls 9 [(8, .int (nI j)), (7, .int (nI i)), (6, .int v6), (5, .int v5), (4, .ref l0), (0, .ref xo), (1, .int i1), (2, .int a_), (3, .int w_)] := hl
          refine lv_iload hx hb dX11_keys_84 (lv_at hl 0 rfl) ?_
          refine lv_aload hx hb dX11_keys_86 (lv_at hl 4 rfl) ?_
          refine lv_iload hx hb dX11_keys_88 (lv_at hl 1 rfl) ?_
          refine z_Vi (bc := [[zO4 l0 cr0_ inn0_ a1_42 a2_43 a3_44 a4_45, zAr T 0 a1_42 7 k10_, zAr T 0 a2_43 28 k20_, zAr T 0 a3_44 7 k30_, zAr T 0 a4_45 7 k40_]]) (br := [[zO10 xo t im mk rd po co tr wa wb_ fi cd], z1_, wt, wp4]) (As := [.int (nI i)]) (rest := [.int (nI j)]) C G (c_waysOut l T l0 cr0_ inn0_ k10_ k20_ k30_ k40_ ([zO4 l0 cr0_ inn0_ a1_42 a2_43 a3_44 a4_45, zAr T 0 a1_42 7 k10_, zAr T 0 a2_43 28 k20_, zAr T 0 a3_44 7 k30_, zAr T 0 a4_45 7 k40_]) (nI i) hw_52) (kV_RX11_221 C.2.2.2.2 (Nat.le_of_ble_eq_true rfl) (Nat.le_of_ble_eq_true rfl)) [4] [4] rfl rfl (ci := 4) (qc := (RX4, TX4, 6)) rfl rfl (List.mem_flatten.mpr ⟨_, List.mem_of_getElem? (i := 0) rfl, (bLand_mem hw_52).choose_spec⟩) rfl rfl hl.1 dX11_keys_90 (Nat.le_of_ble_eq_true rfl) (Nat.le_of_ble_eq_true rfl) (fun r_54 b1 H locs hw G => ?_)
          refine zAn2 hw ?_
          intro hbs9 h_53
          clear hw
          subst hbs9
          have G : zS T A s.heap s [[zO10 xo t im mk rd po co tr wa wb_ fi cd], z1_, wt, wp4, [zO4 l0 cr0_ inn0_ a1_42 a2_43 a3_44 a4_45, zAr T 0 a1_42 7 k10_, zAr T 0 a2_43 28 k20_, zAr T 0 a3_44 7 k30_, zAr T 0 a4_45 7 k40_]] _ _ := G
          subst h_53
          refine lv_icmp_ge (tgt := 140) hx hb dX11_keys_93 (by decide) (fun c_55 => ?_) (fun c_55 => ?_)
          · have c_55n : (zWays cr0_ inn0_ k10_ (nI i)).toInt ≤ (j : Int) := by have q := (fa_le _ _).mp c_55; rw [nI_toInt (n := j) (by omega)] at q; exact q
            have hsk := zCn_skip (a := zKb inn0_ (kW cr0_ inn0_ k10_) (kW cr0_ inn0_ k10_) k20_ k30_ a_) (m := 4 * i + j) (4 * (i + 1)) (by omega) (fun t h1 h2 => by
              have q8 := zKb_n (inn := inn0_) (x := a_) (V := kW cr0_ inn0_ k10_) (W := kW cr0_ inn0_ k10_) (L := k20_) (P := k30_) (c := i) (r := t - 4 * i) (by omega) (by omega)
              rw [show 4 * i + (t - 4 * i) = t by omega] at q8
              exact q8)
            refine lv_iinc (v := nI (i + 1)) (lv' := [(7, .int (nI (i + 1))), (8, .int (nI j)), (6, .int v6), (5, .int v5), (4, .ref l0), (0, .ref xo), (1, .int i1), (2, .int a_), (3, .int w_)]) hx hb dX11_keys_140 hl (k := 1) rfl (z_inc i 1) (by decide) (zLvf_h rfl) (fun ls hl => ?_)
            refine lv_goto (tgt := 71) hx hb dX11_keys_143 (by decide) ?_
            exact ih_71 (i + 1) v5 v6 wp4 y1 y2 y3 sy wy (show bPosts T po l0 y1 y2 y3 sy wy wp4 ∧ (i + 1) ≤ 7 ∧ ((i + 1) : Int) ≤ cr0_.toInt ∧ v5 = nI (zCn (zKb inn0_ (kW cr0_ inn0_ k10_) (kW cr0_ inn0_ k10_) k20_ k30_ a_) (4 * (i + 1))) ∧ v6 = zFi (zKb inn0_ (kW cr0_ inn0_ k10_) (kW cr0_ inn0_ k10_) k20_ k30_ a_) (4 * (i + 1)) from ⟨hp4, by omega, by omega, (by rw [g5, hsk.1]), (by rw [g6, hsk.2])⟩) (show 7 - (i + 1) < 7 - i from by omega) _ _ ls G (lv_sub hl [0, 2, 3, 4, 5, 6, 7, 8] rfl)
          · have c_55n : ¬ (zWays cr0_ inn0_ k10_ (nI i)).toInt ≤ (j : Int) := fun q => c_55 ((fa_le _ _).mpr (by rw [nI_toInt (n := j) (by omega)]; exact q))
            refine lv_aload_n hx hb dX11_keys_96 rfl (lv_at hl 5 rfl) ?_
            refine lv_aload hx hb dX11_keys_97 (lv_at hl 4 rfl) ?_
            refine lv_iload_n hx hb dX11_keys_99 rfl (lv_at hl 7 rfl) ?_
            refine lv_iload hx hb dX11_keys_100 (lv_at hl 1 rfl) ?_
            refine lv_iload hx hb dX11_keys_102 (lv_at hl 0 rfl) ?_
            refine z_Vi (bc := [[zO10 xo t im mk rd po co tr wa wb_ fi cd], wp4, [zO4 l0 cr0_ inn0_ a1_42 a2_43 a3_44 a4_45, zAr T 0 a1_42 7 k10_, zAr T 0 a2_43 28 k20_, zAr T 0 a3_44 7 k30_, zAr T 0 a4_45 7 k40_]]) (br := [z1_, wt]) (As := [.ref l0, .int a_, .int (nI i), .int (nI j)]) (rest := []) C G (c_f_isKey l T xo t im mk rd po co tr wa wb_ fi cd l0 y1 y2 y3 sy wy wp4 l0 cr0_ inn0_ k10_ k20_ k30_ k40_ ([zO4 l0 cr0_ inn0_ a1_42 a2_43 a3_44 a4_45, zAr T 0 a1_42 7 k10_, zAr T 0 a2_43 28 k20_, zAr T 0 a3_44 7 k30_, zAr T 0 a4_45 7 k40_]) a_ (nI i) (nI j) hp4 hw_52 hI0_ hLq0 ⟨by omega, by omega, by omega⟩ (zHyy (k1 := k10_) (inn := inn0_) (by omega) (by omega) (by omega))) (kV_RX11_224 C.2.2.2.2 (Nat.le_of_ble_eq_true rfl) (Nat.le_of_ble_eq_true rfl)) [0, 3, 4] [0, 2, 0] rfl rfl (ci := 10) (qc := (RX11, TX11, 11)) rfl rfl (List.mem_flatten.mpr ⟨_, List.mem_of_getElem? (i := 0) rfl, List.mem_cons_self⟩) rfl rfl hl.1 dX11_keys_104 (Nat.le_of_ble_eq_true rfl) (Nat.le_of_ble_eq_true rfl) (fun r_64 b1 H locs hw G => ?_)
            refine zEx6 hw ?_
            intro f1_56 f2_57 f3_58 st_59 wh_60 wp_61
            refine zCu3 ?_
            intro hbs9 h_62 h_63
            clear hw
            subst hbs9
            have G : zS T A s.heap s [z1_, wt, [zO10 xo t im mk rd po co tr wa wb_ fi cd], wp_61, [zO4 l0 cr0_ inn0_ a1_42 a2_43 a3_44 a4_45, zAr T 0 a1_42 7 k10_, zAr T 0 a2_43 28 k20_, zAr T 0 a3_44 7 k30_, zAr T 0 a4_45 7 k40_]] _ _ := G
            replace h_63 : zHd ((r_64 = 1 ∧ ¬ zBit inn0_ (zKeyAt (kSh (nI i) (nI j)) (kW cr0_ inn0_ k10_) k20_ k30_ a_) = 1 ∨ r_64 = 0 ∧ zBit inn0_ (zKeyAt (kSh (nI i) (nI j)) (kW cr0_ inn0_ k10_) k20_ k30_ a_) = 1)) := h_63
            refine lv_if_eq (tgt := 134) hx hb dX11_keys_107 (by decide) (fun c_65 => ?_) (fun c_65 => ?_)
            · have c_65n : r_64.toInt = (0 : Int) := (fa_eq _ _).mp c_65
              have hkn := zKey_n (zKb_f (V := kW cr0_ inn0_ k10_) (by omega) ((h_63).resolve_left (fun q8 => by have e8 : r_64.toInt = 1 := (by rw [q8.1]; rfl); omega)).2) g5 g6
              refine lv_iinc (v := nI (j + 1)) (lv' := [(8, .int (nI (j + 1))), (7, .int (nI i)), (6, .int v6), (5, .int v5), (4, .ref l0), (0, .ref xo), (1, .int i1), (2, .int a_), (3, .int w_)]) hx hb dX11_keys_134 hl (k := 0) rfl (z_inc j 1) (by decide) (zLvf_h rfl) (fun ls hl => ?_)
              refine lv_goto (tgt := 84) hx hb dX11_keys_137 (by decide) ?_
              have G := G.sub (bs' := [[zO10 xo t im mk rd po co tr wa wb_ fi cd], z1_, wt, wp_61, [zO4 l0 cr0_ inn0_ a1_42 a2_43 a3_44 a4_45, zAr T 0 a1_42 7 k10_, zAr T 0 a2_43 28 k20_, zAr T 0 a3_44 7 k30_, zAr T 0 a4_45 7 k40_]]) [2, 0, 1, 3, 4] rfl
              exact ih_84 (j + 1) v5 v6 wp_61 f1_56 f2_57 f3_58 st_59 wh_60 (show bPosts T po l0 f1_56 f2_57 f3_58 st_59 wh_60 wp_61 ∧ (j + 1) ≤ 4 ∧ (((j + 1) : Int) ≤ (kW cr0_ inn0_ k10_ i).toInt) ∧ v5 = nI (zCn (zKb inn0_ (kW cr0_ inn0_ k10_) (kW cr0_ inn0_ k10_) k20_ k30_ a_) (4 * i + (j + 1))) ∧ v6 = zFi (zKb inn0_ (kW cr0_ inn0_ k10_) (kW cr0_ inn0_ k10_) k20_ k30_ a_) (4 * i + (j + 1)) from ⟨h_62, by omega, (by omega), hkn.1, hkn.2⟩) (show 4 - (j + 1) < 4 - j from by omega) _ _ ls G (lv_sub hl [0, 1, 2, 3, 4, 5, 6, 7, 8] rfl)
            · have c_65n : ¬ r_64.toInt = (0 : Int) := fun q => c_65 ((fa_eq _ _).mpr q)
              have hka := zKb_t (V := kW cr0_ inn0_ k10_) (by omega) (by omega) ((h_63).resolve_right (fun q8 => by have e8 : r_64.toInt = 0 := (by rw [q8.1]; rfl); omega)).2
              refine lv_iinc (v := v5 + 1) (lv' := [(5, .int (v5 + 1)), (8, .int (nI j)), (7, .int (nI i)), (6, .int v6), (4, .ref l0), (0, .ref xo), (1, .int i1), (2, .int a_), (3, .int w_)]) hx hb dX11_keys_110 hl (k := 3) rfl rfl (by decide) (zLvf_h rfl) (fun ls hl => ?_)
              refine lv_iload hx hb dX11_keys_113 (lv_at hl 3 rfl) ?_
              refine lv_iconst (v := (-1)) hx hb dX11_keys_115 (by decide) ?_
              refine lv_icmp_ne (tgt := 130) hx hb dX11_keys_116 (by decide) (fun c_66 => ?_) (fun c_66 => ?_)
              · have c_66n : ¬ v6.toInt = (-1 : Int) := fun q => c_66 ((fa_eq _ _).mpr q)
                refine lv_iload hx hb dX11_keys_130 (lv_at hl 3 rfl) ?_
                refine lv_istore (lv' := [(6, .int v6), (5, .int (v5 + 1)), (8, .int (nI j)), (7, .int (nI i)), (4, .ref l0), (0, .ref xo), (1, .int i1), (2, .int a_), (3, .int w_)]) hx hb dX11_keys_132 hl (by decide) (zLvf_h rfl) (fun ls hl => ?_)
                refine lv_iinc (v := nI (j + 1)) (lv' := [(8, .int (nI (j + 1))), (6, .int v6), (5, .int (v5 + 1)), (7, .int (nI i)), (4, .ref l0), (0, .ref xo), (1, .int i1), (2, .int a_), (3, .int w_)]) hx hb dX11_keys_134 hl (k := 2) rfl (z_inc j 1) (by decide) (zLvf_h rfl) (fun ls hl => ?_)
                refine lv_goto (tgt := 84) hx hb dX11_keys_137 (by decide) ?_
                have G := G.sub (bs' := [[zO10 xo t im mk rd po co tr wa wb_ fi cd], z1_, wt, wp_61, [zO4 l0 cr0_ inn0_ a1_42 a2_43 a3_44 a4_45, zAr T 0 a1_42 7 k10_, zAr T 0 a2_43 28 k20_, zAr T 0 a3_44 7 k30_, zAr T 0 a4_45 7 k40_]]) [2, 0, 1, 3, 4] rfl
                exact ih_84 (j + 1) (v5 + 1) v6 wp_61 f1_56 f2_57 f3_58 st_59 wh_60 (show bPosts T po l0 f1_56 f2_57 f3_58 st_59 wh_60 wp_61 ∧ (j + 1) ≤ 4 ∧ (((j + 1) : Int) ≤ (kW cr0_ inn0_ k10_ i).toInt) ∧ (v5 + 1) = nI (zCn (zKb inn0_ (kW cr0_ inn0_ k10_) (kW cr0_ inn0_ k10_) k20_ k30_ a_) (4 * i + (j + 1))) ∧ v6 = zFi (zKb inn0_ (kW cr0_ inn0_ k10_) (kW cr0_ inn0_ k10_) k20_ k30_ a_) (4 * i + (j + 1)) from ⟨h_62, by omega, (by omega), (zKey_y (v := v6) hka g5), (zKey_k g6 (by assumption))⟩) (show 4 - (j + 1) < 4 - j from by omega) _ _ ls G (lv_sub hl [0, 3, 1, 2, 4, 5, 6, 7, 8] rfl)
              · have c_66n : v6.toInt = (-1 : Int) := (fa_eq _ _).mp c_66
                refine lv_bipush (v := 10) hx hb dX11_keys_119 (by decide) ?_
                refine lv_iload hx hb dX11_keys_121 (lv_at hl 2 rfl) ?_
                refine lv_imul hx hb dX11_keys_123 ?_
                refine lv_topi (fun y_67 ey_67 => ?_)
                obtain rfl : y_67 = nI (10 * i) := ey_67.trans (z_imuln 10 i rfl rfl)
                refine lv_iload hx hb dX11_keys_124 (lv_at hl 1 rfl) ?_
                refine lv_iadd hx hb dX11_keys_126 ?_
                refine lv_topi (fun y_68 ey_68 => ?_)
                obtain rfl : y_68 = nI ((10 * i) + j) := ey_68.trans (z_iaddn (10 * i) j rfl rfl)
                refine lv_goto (tgt := 132) hx hb dX11_keys_127 (by decide) ?_
                refine lv_istore (lv' := [(6, .int (nI ((10 * i) + j))), (5, .int (v5 + 1)), (8, .int (nI j)), (7, .int (nI i)), (4, .ref l0), (0, .ref xo), (1, .int i1), (2, .int a_), (3, .int w_)]) hx hb dX11_keys_132 hl (by decide) (zLvf_h rfl) (fun ls hl => ?_)
                refine lv_iinc (v := nI (j + 1)) (lv' := [(8, .int (nI (j + 1))), (6, .int (nI ((10 * i) + j))), (5, .int (v5 + 1)), (7, .int (nI i)), (4, .ref l0), (0, .ref xo), (1, .int i1), (2, .int a_), (3, .int w_)]) hx hb dX11_keys_134 hl (k := 2) rfl (z_inc j 1) (by decide) (zLvf_h rfl) (fun ls hl => ?_)
                refine lv_goto (tgt := 84) hx hb dX11_keys_137 (by decide) ?_
                have G := G.sub (bs' := [[zO10 xo t im mk rd po co tr wa wb_ fi cd], z1_, wt, wp_61, [zO4 l0 cr0_ inn0_ a1_42 a2_43 a3_44 a4_45, zAr T 0 a1_42 7 k10_, zAr T 0 a2_43 28 k20_, zAr T 0 a3_44 7 k30_, zAr T 0 a4_45 7 k40_]]) [2, 0, 1, 3, 4] rfl
                exact ih_84 (j + 1) (v5 + 1) (nI ((10 * i) + j)) wp_61 f1_56 f2_57 f3_58 st_59 wh_60 (show bPosts T po l0 f1_56 f2_57 f3_58 st_59 wh_60 wp_61 ∧ (j + 1) ≤ 4 ∧ (((j + 1) : Int) ≤ (kW cr0_ inn0_ k10_ i).toInt) ∧ (v5 + 1) = nI (zCn (zKb inn0_ (kW cr0_ inn0_ k10_) (kW cr0_ inn0_ k10_) k20_ k30_ a_) (4 * i + (j + 1))) ∧ (nI ((10 * i) + j)) = zFi (zKb inn0_ (kW cr0_ inn0_ k10_) (kW cr0_ inn0_ k10_) k20_ k30_ a_) (4 * i + (j + 1)) from ⟨h_62, by omega, (by omega), (zKey_y (v := v6) hka g5), ((congrArg nI (by omega)).trans (zKey_f (n := 4 * i + j) hka g6 (by assumption)))⟩) (show 4 - (j + 1) < 4 - j from by omega) _ _ ls G (lv_sub hl [0, 3, 1, 2, 4, 5, 6, 7, 8] rfl)
      · have h_41 : (x2_26.toInt < 0 ∨ cr0_.toInt ≤ x2_26.toInt ∨ 7 ≤ x2_26.toInt ∨ zBit inn0_ x2_26 = 0) := h_41
        have hni := h_41
        refine lv_if_ne (tgt := 62) hx hb dX11_keys_56 (by decide) (fun q => absurd (by decide) q) (fun _ => ?_)
        refine lv_bipush (v := (-2)) hx hb dX11_keys_59 (by decide) ?_
        have hw_69 : bPosts T po l0 g1_24 g2_16 g3_17 s2_25 x2_26 [zO6 po l0 a1_32 a2_33 s2_25 x2_26 a3_34, zAr T 0 a1_32 7 g1_24, zAr T 0 a2_33 7 g2_16, zAr T 0 a3_34 7 g3_17] := ⟨a1_32, a2_33, a3_34, rfl⟩
        have G : zS T A s.heap s [[zO10 xo t im mk rd po co tr wa wb_ fi cd], z1_, wt, [zO6 po l0 a1_32 a2_33 s2_25 x2_26 a3_34, zAr T 0 a1_32 7 g1_24, zAr T 0 a2_33 7 g2_16, zAr T 0 a3_34 7 g3_17], z0_] _ _ := G.re rfl
        have G := G.sub (bs' := [[zO10 xo t im mk rd po co tr wa wb_ fi cd], wt, z0_, z1_, [zO6 po l0 a1_32 a2_33 s2_25 x2_26 a3_34, zAr T 0 a1_32 7 g1_24, zAr T 0 a2_33 7 g2_16, zAr T 0 a3_34 7 g3_17]]) [0, 2, 4, 1, 3] rfl
        exact z_back hQ9 (z_iret C hr hlocks G (Nat.le_of_ble_eq_true rfl) (Nat.le_of_ble_eq_true rfl) dX11_keys_61 ⟨l0, g1_24, g2_16, g3_17, s2_25, x2_26, ([zO6 po l0 a1_32 a2_33 s2_25 x2_26 a3_34, zAr T 0 a1_32 7 g1_24, zAr T 0 a2_33 7 g2_16, zAr T 0 a3_34 7 g3_17]), rfl, hw_69, (Or.inr (Or.inl ⟨by assumption, by assumption, (by unfold kKeys; rw [if_neg (fun q8 => by have q7 := q8.2; rw [← hke] at q7; rcases hni with e9 | e9 | e9 | e9 <;> first | omega | exact zBit_o q7 e9)])⟩))⟩)
    · have h_13 : (a_.toInt < 0 ∨ cr0_.toInt ≤ a_.toInt ∨ 7 ≤ a_.toInt) := h_13
      refine lv_if_ne (tgt := 27) hx hb dX11_keys_21 (by decide) (fun q => absurd (by decide) q) (fun _ => ?_)
      refine lv_bipush (v := (-2)) hx hb dX11_keys_24 (by decide) ?_
      have G := G.sub (bs' := [[zO10 xo t im mk rd po co tr wa wb_ fi cd], wt, z0_, z1_, wp]) [0, 3, 4, 1, 2] rfl
      exact z_back hQ9 (z_iret C hr hlocks G (Nat.le_of_ble_eq_true rfl) (Nat.le_of_ble_eq_true rfl) dX11_keys_26 ⟨lp, f1, f2, f3, st, wh, wp, rfl, hp, (Or.inr (Or.inl ⟨by assumption, by assumption, (by have q9 := hI0_.1; unfold kKeys; rw [if_neg (fun q8 => by omega)])⟩))⟩)
  · have h_6 : i1.toInt = 1 := h_6
    have h_7 : 1 < (fk 0).toInt := h_7
    refine lv_astore (lv' := [(4, .ref l1), (0, .ref xo), (1, .int i1), (2, .int a_), (3, .int w_)]) hx hb dX11_keys_8 hl (by decide) (zLvf_h rfl) (fun ls hl => ?_)
    refine lv_aload hx hb dX11_keys_10 (lv_at hl 0 rfl) ?_
    refine lv_ifnull hx hb dX11_keys_12 ?_
    refine lv_aload hx hb dX11_keys_15 (lv_at hl 0 rfl) ?_
    refine lv_iload_n hx hb dX11_keys_17 rfl (lv_at hl 3 rfl) ?_
    refine z_Vi (bc := [z1_]) (br := [[zO10 xo t im mk rd po co tr wa wb_ fi cd], z0_, wp, wt]) (As := [.int a_]) (rest := []) C G (c_has l T l1 cr1_ inn1_ k11_ k21_ k31_ k41_ z1_ a_ hz1_) (kV_RX11_160 C.2.2.2.2 (Nat.le_of_ble_eq_true rfl) (Nat.le_of_ble_eq_true rfl)) [2] [2] rfl rfl (ci := 4) (qc := (RX4, TX4, 6)) rfl rfl (List.mem_flatten.mpr ⟨_, List.mem_of_getElem? (i := 0) rfl, (bLand_mem hz1_).choose_spec⟩) rfl rfl hl.1 dX11_keys_18 (Nat.le_of_ble_eq_true rfl) (Nat.le_of_ble_eq_true rfl) (fun r_71 b1 H locs hw G => ?_)
    refine zAn2 hw ?_
    intro hbs9 hc_70
    clear hw
    subst hbs9
    have G : zS T A s.heap s [[zO10 xo t im mk rd po co tr wa wb_ fi cd], z0_, wp, wt, z1_] _ _ := G
    rcases hc_70 with ⟨rfl, h_72, h_73, h_74⟩ | ⟨rfl, h_75⟩
    · have h_72 : 0 ≤ a_.toInt := h_72
      have h_73 : a_.toInt < cr1_.toInt := h_73
      have h_74 : a_.toInt < 7 := h_74
      refine lv_if_ne (tgt := 27) hx hb dX11_keys_21 (by decide) (fun _ => ?_) (fun q => absurd q (by decide))
      refine lv_aload_n hx hb dX11_keys_27 rfl (lv_at hl 1 rfl) ?_
      refine z_get C G clX11 0 rfl 4 (by decide) m_fl_RX11_34 rfl dX11_keys_28 ?_
      refine lv_aload hx hb dX11_keys_31 (lv_at hl 0 rfl) ?_
      refine z_Vv (bc := [wp, z1_]) (br := [[zO10 xo t im mk rd po co tr wa wb_ fi cd], z0_, wt]) (As := [.ref l1]) (rest := []) C G (c_Posts_begin l T po lp f1 f2 f3 st wh wp l1 cr1_ inn1_ k11_ k21_ k31_ k41_ z1_ hp hz1_) (kV_RX11_205 C.2.2.2.2 (Nat.le_of_ble_eq_true rfl) (Nat.le_of_ble_eq_true rfl)) [2, 4] [2, 1] rfl rfl (ci := 6) (qc := (RX6, TX6, 6)) rfl rfl (List.mem_flatten.mpr ⟨_, List.mem_of_getElem? (i := 0) rfl, (bPosts_mem hp).choose_spec⟩) rfl rfl hl.1 dX11_keys_33 (Nat.le_of_ble_eq_true rfl) (Nat.le_of_ble_eq_true rfl) (fun b1 H locs hw G => ?_)
      refine zEx4 hw ?_
      intro w2_76 g1_77 g2_78 g3_79
      refine zCu5 ?_
      intro hbs9 h_80 h_81 h_82 h_83
      clear hw
      subst hbs9
      have G : zS T A s.heap s [[zO10 xo t im mk rd po co tr wa wb_ fi cd], z0_, wt, w2_76, z1_] _ _ := G
      have hQ : zP3 g1_77 g3_79 := z_P3 hI1_ h_81 h_83
      refine lv_aload_n hx hb dX11_keys_36 rfl (lv_at hl 1 rfl) ?_
      refine z_get C G clX11 0 rfl 4 (by decide) m_fl_RX11_34 rfl dX11_keys_37 ?_
      refine lv_iload_n hx hb dX11_keys_40 rfl (lv_at hl 3 rfl) ?_
      refine z_Vv (bc := [w2_76, z1_]) (br := [[zO10 xo t im mk rd po co tr wa wb_ fi cd], z0_, wt]) (As := [.int a_]) (rest := []) C G (c_Posts_run l T po l1 g1_77 g2_78 g3_79 0 0 w2_76 cr1_ inn1_ k11_ k21_ k31_ k41_ z1_ a_ h_80 hz1_ (by first | with_reducible assumption | with_reducible rfl | omega | assumption | rfl)) (kV_RX11_208 C.2.2.2.2 (Nat.le_of_ble_eq_true rfl) (Nat.le_of_ble_eq_true rfl)) [3, 4] [3, 0] rfl rfl (ci := 6) (qc := (RX6, TX6, 6)) rfl rfl (List.mem_flatten.mpr ⟨_, List.mem_of_getElem? (i := 0) rfl, (bPosts_mem h_80).choose_spec⟩) rfl rfl hl.1 dX11_keys_41 (Nat.le_of_ble_eq_true rfl) (Nat.le_of_ble_eq_true rfl) (fun b1 H locs hw G => ?_)
      refine zEx4 hw ?_
      intro w2_85 g1_86 s2_87 x2_88
      refine zCu5 ?_
      intro hbs9 h_89 h_90 h_91 h_92
      clear hw
      subst hbs9
      have G : zS T A s.heap s [[zO10 xo t im mk rd po co tr wa wb_ fi cd], z0_, wt, w2_85, z1_] _ _ := G
      have hQ2 : zP3 g1_86 g3_79 := by rw [h_90]; exact zRunN_I _ _ _ _ hQ
      have hW : ∀ j, j < 7 → g3_79 j = zWays cr1_ inn1_ k11_ (nI j) := h_83
      have hat := zRunN_h (f2 := g2_78) hW (zWays_r hI1_ hW) hLq1 hI1_.1.2 499 g1_77 a_ 0 hQ ⟨by omega, by omega, by omega⟩
      have hke : x2_88 = zKeyAt zS0 (kW cr1_ inn1_ k11_) k21_ k31_ a_ := by rw [h_92]; exact congrArg (fun q : Int32 × Nat => q.1) (zRunN_cg (g2 := zS0) (g3 := kW cr1_ inn1_ k11_) (lg := k21_) (g1 := k31_) (fun j hj => h_82 j hj) (fun j hj => hW j hj) zLs_rf 499 _ a_ 0 hQ h_81).2
      rw [← h_92] at hat
      refine lv_aload hx hb dX11_keys_44 (lv_at hl 0 rfl) ?_
      refine lv_aload_n hx hb dX11_keys_46 rfl (lv_at hl 1 rfl) ?_
      refine z_get C G clX11 0 rfl 4 (by decide) m_fl_RX11_34 rfl dX11_keys_47 ?_
      refine zEx3 h_89 ?_
      intro a1_94 a2_95 a3_96 hbs9
      clear h_89
      subst hbs9
      have G : zS T A s.heap s [[zO10 xo t im mk rd po co tr wa wb_ fi cd], z0_, wt, [zO6 po l1 a1_94 a2_95 s2_87 x2_88 a3_96], [zAr T 0 a1_94 7 g1_86], [zAr T 0 a2_95 7 g2_78], [zAr T 0 a3_96 7 g3_79], z1_] _ _ := G.re rfl
      refine z_get C G clX6 3 rfl 4 (by decide) m_fl_RX11_211 rfl dX11_keys_50 ?_
      refine z_Vi (bc := [z1_]) (br := [[zO10 xo t im mk rd po co tr wa wb_ fi cd], z0_, wt, [zO6 po l1 a1_94 a2_95 s2_87 x2_88 a3_96], [zAr T 0 a1_94 7 g1_86], [zAr T 0 a2_95 7 g2_78], [zAr T 0 a3_96 7 g3_79]]) (As := [.int x2_88]) (rest := []) C G (c_isInn l T l1 cr1_ inn1_ k11_ k21_ k31_ k41_ z1_ x2_88 hz1_) (kV_RX11_174 C.2.2.2.2 (Nat.le_of_ble_eq_true rfl) (Nat.le_of_ble_eq_true rfl)) [7] [7] rfl rfl (ci := 4) (qc := (RX4, TX4, 6)) rfl rfl (List.mem_flatten.mpr ⟨_, List.mem_of_getElem? (i := 0) rfl, (bLand_mem hz1_).choose_spec⟩) rfl rfl hl.1 dX11_keys_53 (Nat.le_of_ble_eq_true rfl) (Nat.le_of_ble_eq_true rfl) (fun r_98 b1 H locs hw G => ?_)
      refine zAn2 hw ?_
      intro hbs9 hc_97
      clear hw
      subst hbs9
      have G : zS T A s.heap s [[zO10 xo t im mk rd po co tr wa wb_ fi cd], z0_, wt, [zO6 po l1 a1_94 a2_95 s2_87 x2_88 a3_96], [zAr T 0 a1_94 7 g1_86], [zAr T 0 a2_95 7 g2_78], [zAr T 0 a3_96 7 g3_79], z1_] _ _ := G
      rcases hc_97 with ⟨rfl, h_99, h_100, h_101, h_102⟩ | ⟨rfl, h_103⟩
      · have h_99 : 0 ≤ x2_88.toInt := h_99
        have h_100 : x2_88.toInt < cr1_.toInt := h_100
        have h_101 : x2_88.toInt < 7 := h_101
        have h_102 : ¬ zBit inn1_ x2_88 = 0 := h_102
        have hb1 := zBit_p h_102
        refine lv_if_ne (tgt := 62) hx hb dX11_keys_56 (by decide) (fun _ => ?_) (fun q => absurd q (by decide))
        have hc0 := hI1_.1
        refine lv_iconst (v := 0) hx hb dX11_keys_62 (by decide) ?_
        refine lv_istore (lv' := [(5, .int 0), (4, .ref l1), (0, .ref xo), (1, .int i1), (2, .int a_), (3, .int w_)]) hx hb dX11_keys_63 hl (by decide) (zLvf_h rfl) (fun ls hl => ?_)
        refine lv_iconst (v := (-1)) hx hb dX11_keys_65 (by decide) ?_
        refine lv_istore (lv' := [(6, .int (-1)), (5, .int 0), (4, .ref l1), (0, .ref xo), (1, .int i1), (2, .int a_), (3, .int w_)]) hx hb dX11_keys_66 hl (by decide) (zLvf_h rfl) (fun ls hl => ?_)
        refine lv_iconst (v := 0) hx hb dX11_keys_68 (by decide) ?_
        refine lv_istore (lv' := [(7, .int 0), (6, .int (-1)), (5, .int 0), (4, .ref l1), (0, .ref xo), (1, .int i1), (2, .int a_), (3, .int w_)]) hx hb dX11_keys_69 hl (by decide) (zLvf_h rfl) (fun ls hl => ?_)
        refine zEx4 hz1_ ?_
        intro a1_104 a2_105 a3_106 a4_107 hbs9
        clear hz1_
        subst hbs9
        have G : zS T A s.heap s [[zO10 xo t im mk rd po co tr wa wb_ fi cd], z0_, wt, [zO6 po l1 a1_94 a2_95 s2_87 x2_88 a3_96], [zAr T 0 a1_94 7 g1_86], [zAr T 0 a2_95 7 g2_78], [zAr T 0 a3_96 7 g3_79], [zO4 l1 cr1_ inn1_ a1_104 a2_105 a3_106 a4_107], [zAr T 0 a1_104 7 k11_], [zAr T 0 a2_105 28 k21_], [zAr T 0 a3_106 7 k31_], [zAr T 0 a4_107 7 k41_]] _ _ := G.re rfl
        have hw_108 : bPosts T po l1 g1_86 g2_78 g3_79 s2_87 x2_88 [zO6 po l1 a1_94 a2_95 s2_87 x2_88 a3_96, zAr T 0 a1_94 7 g1_86, zAr T 0 a2_95 7 g2_78, zAr T 0 a3_96 7 g3_79] := ⟨a1_94, a2_95, a3_96, rfl⟩
        have G : zS T A s.heap s [[zO10 xo t im mk rd po co tr wa wb_ fi cd], z0_, wt, [zO6 po l1 a1_94 a2_95 s2_87 x2_88 a3_96, zAr T 0 a1_94 7 g1_86, zAr T 0 a2_95 7 g2_78, zAr T 0 a3_96 7 g3_79], [zO4 l1 cr1_ inn1_ a1_104 a2_105 a3_106 a4_107], [zAr T 0 a1_104 7 k11_], [zAr T 0 a2_105 28 k21_], [zAr T 0 a3_106 7 k31_], [zAr T 0 a4_107 7 k41_]] _ _ := G.re rfl
        have hw_109 : bLand T l1 cr1_ inn1_ k11_ k21_ k31_ k41_ [zO4 l1 cr1_ inn1_ a1_104 a2_105 a3_106 a4_107, zAr T 0 a1_104 7 k11_, zAr T 0 a2_105 28 k21_, zAr T 0 a3_106 7 k31_, zAr T 0 a4_107 7 k41_] := ⟨a1_104, a2_105, a3_106, a4_107, rfl⟩
        have G : zS T A s.heap s [[zO10 xo t im mk rd po co tr wa wb_ fi cd], z0_, wt, [zO6 po l1 a1_94 a2_95 s2_87 x2_88 a3_96, zAr T 0 a1_94 7 g1_86, zAr T 0 a2_95 7 g2_78, zAr T 0 a3_96 7 g3_79], [zO4 l1 cr1_ inn1_ a1_104 a2_105 a3_106 a4_107, zAr T 0 a1_104 7 k11_, zAr T 0 a2_105 28 k21_, zAr T 0 a3_106 7 k31_, zAr T 0 a4_107 7 k41_]] _ _ := G.re rfl
        refine z_lp9 (T := T) 71 (fun (i : Nat) (u5 : Int32) (u6 : Int32) (wp3 : va_W) (x1 : Nat → Int32) (x2 : Nat → Int32) (x3 : Nat → Int32) (sx : Int32) (wx : Int32) => [[zO10 xo t im mk rd po co tr wa wb_ fi cd], z0_, wt, wp3, [zO4 l1 cr1_ inn1_ a1_104 a2_105 a3_106 a4_107, zAr T 0 a1_104 7 k11_, zAr T 0 a2_105 28 k21_, zAr T 0 a3_106 7 k31_, zAr T 0 a4_107 7 k41_]]) (fun (i : Nat) (u5 : Int32) (u6 : Int32) (wp3 : va_W) (x1 : Nat → Int32) (x2 : Nat → Int32) (x3 : Nat → Int32) (sx : Int32) (wx : Int32) => [(7, .int (nI i)), (6, .int u6), (5, .int u5), (4, .ref l1), (0, .ref xo), (1, .int i1), (2, .int a_), (3, .int w_)]) (fun (i : Nat) (u5 : Int32) (u6 : Int32) (wp3 : va_W) (x1 : Nat → Int32) (x2 : Nat → Int32) (x3 : Nat → Int32) (sx : Int32) (wx : Int32) => bPosts T po l1 x1 x2 x3 sx wx wp3 ∧ i ≤ 7 ∧ (i : Int) ≤ cr1_.toInt ∧ u5 = nI (zCn (zKb inn1_ (kW cr1_ inn1_ k11_) (kW cr1_ inn1_ k11_) k21_ k31_ a_) (4 * i)) ∧ u6 = zFi (zKb inn1_ (kW cr1_ inn1_ k11_) (kW cr1_ inn1_ k11_) k21_ k31_ a_) (4 * i)) (fun (i : Nat) (u5 : Int32) (u6 : Int32) (wp3 : va_W) (x1 : Nat → Int32) (x2 : Nat → Int32) (x3 : Nat → Int32) (sx : Int32) (wx : Int32) => 7 - i) ?_ 0 0 (-1) ([zO6 po l1 a1_94 a2_95 s2_87 x2_88 a3_96, zAr T 0 a1_94 7 g1_86, zAr T 0 a2_95 7 g2_78, zAr T 0 a3_96 7 g3_79]) g1_86 g2_78 g3_79 s2_87 x2_88 (show bPosts T po l1 g1_86 g2_78 g3_79 s2_87 x2_88 ([zO6 po l1 a1_94 a2_95 s2_87 x2_88 a3_96, zAr T 0 a1_94 7 g1_86, zAr T 0 a2_95 7 g2_78, zAr T 0 a3_96 7 g3_79]) ∧ 0 ≤ 7 ∧ (0 : Int) ≤ cr1_.toInt ∧ 0 = nI (zCn (zKb inn1_ (kW cr1_ inn1_ k11_) (kW cr1_ inn1_ k11_) k21_ k31_ a_) (4 * 0)) ∧ (-1) = zFi (zKb inn1_ (kW cr1_ inn1_ k11_) (kW cr1_ inn1_ k11_) k21_ k31_ a_) (4 * 0) from ⟨hw_108, by omega, by omega, rfl, rfl⟩) G (lv_sub hl [0, 1, 2, 3, 4, 5, 6, 7] rfl)
        intro i u5 u6 wp3 x1 x2 x3 sx wx hI9 ih_71 H locs ls G hl
        replace hI9 : bPosts T po l1 x1 x2 x3 sx wx wp3 ∧ i ≤ 7 ∧ (i : Int) ≤ cr1_.toInt ∧ u5 = nI (zCn (zKb inn1_ (kW cr1_ inn1_ k11_) (kW cr1_ inn1_ k11_) k21_ k31_ a_) (4 * i)) ∧ u6 = zFi (zKb inn1_ (kW cr1_ inn1_ k11_) (kW cr1_ inn1_ k11_) k21_ k31_ a_) (4 * i) := hI9
        refine zAn5 hI9 ?_
        intro hp3 hi hic h5 h6
        clear hI9
        replace G : zS T A s.heap s [[zO10 xo t im mk rd po co tr wa wb_ fi cd], z0_, wt, wp3, [zO4 l1 cr1_ inn1_ a1_104 a2_105 a3_106 a4_107, zAr T 0 a1_104 7 k11_, zAr T 0 a2_105 28 k21_, zAr T 0 a3_106 7 k31_, zAr T 0 a4_107 7 k41_]] _ _ := G
        replace hl : lv_has ls 9 [(7, .int (nI i)), (6, .int u6), (5, .int u5), (4, .ref l1), (0, .ref xo), (1, .int i1), (2, .int a_), (3, .int w_)] := hl
        refine lv_iload hx hb dX11_keys_71 (lv_at hl 0 rfl) ?_
        refine lv_aload hx hb dX11_keys_73 (lv_at hl 3 rfl) ?_
        have G : zS T A s.heap s [[zO10 xo t im mk rd po co tr wa wb_ fi cd], z0_, wt, wp3, [zO4 l1 cr1_ inn1_ a1_104 a2_105 a3_106 a4_107], [zAr T 0 a1_104 7 k11_], [zAr T 0 a2_105 28 k21_], [zAr T 0 a3_106 7 k31_], [zAr T 0 a4_107 7 k41_]] _ _ := G.re rfl
        refine z_get C G clX4 4 rfl 0 (by decide) m_fl_RX11_218 rfl dX11_keys_75 ?_
        refine lv_icmp_ge (tgt := 146) hx hb dX11_keys_78 (by decide) (fun c_110 => ?_) (fun c_110 => ?_)
        · have c_110n : cr1_.toInt ≤ (i : Int) := by have q := (fa_le _ _).mp c_110; rw [nI_toInt (n := i) (by omega)] at q; exact q
          refine lv_iload_n hx hb dX11_keys_146 rfl (lv_at hl 7 rfl) ?_
          refine lv_if_eq (tgt := 155) hx hb dX11_keys_147 (by decide) (fun c_111 => ?_) (fun c_111 => ?_)
          · have c_111n : w_.toInt = (0 : Int) := (fa_eq _ _).mp c_111
            refine lv_iload hx hb dX11_keys_155 (lv_at hl 2 rfl) ?_
            have hw_112 : bLand T l1 cr1_ inn1_ k11_ k21_ k31_ k41_ [zO4 l1 cr1_ inn1_ a1_104 a2_105 a3_106 a4_107, zAr T 0 a1_104 7 k11_, zAr T 0 a2_105 28 k21_, zAr T 0 a3_106 7 k31_, zAr T 0 a4_107 7 k41_] := ⟨a1_104, a2_105, a3_106, a4_107, rfl⟩
            have G : zS T A s.heap s [[zO10 xo t im mk rd po co tr wa wb_ fi cd], z0_, wt, wp3, [zO4 l1 cr1_ inn1_ a1_104 a2_105 a3_106 a4_107, zAr T 0 a1_104 7 k11_, zAr T 0 a2_105 28 k21_, zAr T 0 a3_106 7 k31_, zAr T 0 a4_107 7 k41_]] _ _ := G.re rfl
            have G := G.sub (bs' := [[zO10 xo t im mk rd po co tr wa wb_ fi cd], wt, z0_, [zO4 l1 cr1_ inn1_ a1_104 a2_105 a3_106 a4_107, zAr T 0 a1_104 7 k11_, zAr T 0 a2_105 28 k21_, zAr T 0 a3_106 7 k31_, zAr T 0 a4_107 7 k41_], wp3]) [0, 2, 1, 4, 3] rfl
            exact z_back hQ9 (z_iret C hr hlocks G (Nat.le_of_ble_eq_true rfl) (Nat.le_of_ble_eq_true rfl) dX11_keys_157 ⟨l1, x1, x2, x3, sx, wx, wp3, rfl, hp3, (Or.inr (Or.inr ⟨by assumption, by assumption, (by unfold kKeys; rw [if_pos ⟨⟨by omega, by omega⟩, by rw [← hke]; exact hb1⟩, if_pos (by omega)]; have hsz := zCn_skip (a := zKb inn1_ (kW cr1_ inn1_ k11_) (kW cr1_ inn1_ k11_) k21_ k31_ a_) (m := 4 * i) 28 (by omega) (fun t h1 h2 => zKb_o hI1_ (by omega) (by omega)); rw [hsz.1]; exact h5)⟩))⟩)
          · have c_111n : ¬ w_.toInt = (0 : Int) := fun q => c_111 ((fa_eq _ _).mpr q)
            refine lv_iload hx hb dX11_keys_150 (lv_at hl 1 rfl) ?_
            refine lv_goto (tgt := 157) hx hb dX11_keys_152 (by decide) ?_
            have hw_113 : bLand T l1 cr1_ inn1_ k11_ k21_ k31_ k41_ [zO4 l1 cr1_ inn1_ a1_104 a2_105 a3_106 a4_107, zAr T 0 a1_104 7 k11_, zAr T 0 a2_105 28 k21_, zAr T 0 a3_106 7 k31_, zAr T 0 a4_107 7 k41_] := ⟨a1_104, a2_105, a3_106, a4_107, rfl⟩
            have G : zS T A s.heap s [[zO10 xo t im mk rd po co tr wa wb_ fi cd], z0_, wt, wp3, [zO4 l1 cr1_ inn1_ a1_104 a2_105 a3_106 a4_107, zAr T 0 a1_104 7 k11_, zAr T 0 a2_105 28 k21_, zAr T 0 a3_106 7 k31_, zAr T 0 a4_107 7 k41_]] _ _ := G.re rfl
            have G := G.sub (bs' := [[zO10 xo t im mk rd po co tr wa wb_ fi cd], wt, z0_, [zO4 l1 cr1_ inn1_ a1_104 a2_105 a3_106 a4_107, zAr T 0 a1_104 7 k11_, zAr T 0 a2_105 28 k21_, zAr T 0 a3_106 7 k31_, zAr T 0 a4_107 7 k41_], wp3]) [0, 2, 1, 4, 3] rfl
            exact z_back hQ9 (z_iret C hr hlocks G (Nat.le_of_ble_eq_true rfl) (Nat.le_of_ble_eq_true rfl) dX11_keys_157 ⟨l1, x1, x2, x3, sx, wx, wp3, rfl, hp3, (Or.inr (Or.inr ⟨by assumption, by assumption, (by unfold kKeys; rw [if_pos ⟨⟨by omega, by omega⟩, by rw [← hke]; exact hb1⟩, if_neg (by omega)]; have hsz := zCn_skip (a := zKb inn1_ (kW cr1_ inn1_ k11_) (kW cr1_ inn1_ k11_) k21_ k31_ a_) (m := 4 * i) 28 (by omega) (fun t h1 h2 => zKb_o hI1_ (by omega) (by omega)); rw [hsz.2]; exact h6)⟩))⟩)
        · have c_110n : ¬ cr1_.toInt ≤ (i : Int) := fun q => c_110 ((fa_le _ _).mpr (by rw [nI_toInt (n := i) (by omega)]; exact q))
          have hwl := zWays_le (inn := inn1_) hI1_ (nI i)
          have hkw : (kW cr1_ inn1_ k11_ i).toInt = (zWays cr1_ inn1_ k11_ (nI i)).toInt := rfl
          have hti := nI_toInt (n := i) (by omega)
          have hwn : 0 ≤ (zWays cr1_ inn1_ k11_ (nI i)).toInt := zWays_0 hI1_ (nI i)
          refine lv_iconst (v := 0) hx hb dX11_keys_81 (by decide) ?_
          refine lv_istore (lv' := [(8, .int 0), (7, .int (nI i)), (6, .int u6), (5, .int u5), (4, .ref l1), (0, .ref xo), (1, .int i1), (2, .int a_), (3, .int w_)]) hx hb dX11_keys_82 hl (by decide) (zLvf_h rfl) (fun ls hl => ?_)
          have hw_114 : bLand T l1 cr1_ inn1_ k11_ k21_ k31_ k41_ [zO4 l1 cr1_ inn1_ a1_104 a2_105 a3_106 a4_107, zAr T 0 a1_104 7 k11_, zAr T 0 a2_105 28 k21_, zAr T 0 a3_106 7 k31_, zAr T 0 a4_107 7 k41_] := ⟨a1_104, a2_105, a3_106, a4_107, rfl⟩
          have G : zS T A s.heap s [[zO10 xo t im mk rd po co tr wa wb_ fi cd], z0_, wt, wp3, [zO4 l1 cr1_ inn1_ a1_104 a2_105 a3_106 a4_107, zAr T 0 a1_104 7 k11_, zAr T 0 a2_105 28 k21_, zAr T 0 a3_106 7 k31_, zAr T 0 a4_107 7 k41_]] _ _ := G.re rfl
          refine z_lp9 (T := T) 84 (fun (j : Nat) (v5 : Int32) (v6 : Int32) (wp4 : va_W) (y1 : Nat → Int32) (y2 : Nat → Int32) (y3 : Nat → Int32) (sy : Int32) (wy : Int32) => [[zO10 xo t im mk rd po co tr wa wb_ fi cd], z0_, wt, wp4, [zO4 l1 cr1_ inn1_ a1_104 a2_105 a3_106 a4_107, zAr T 0 a1_104 7 k11_, zAr T 0 a2_105 28 k21_, zAr T 0 a3_106 7 k31_, zAr T 0 a4_107 7 k41_]]) (fun (j : Nat) (v5 : Int32) (v6 : Int32) (wp4 : va_W) (y1 : Nat → Int32) (y2 : Nat → Int32) (y3 : Nat → Int32) (sy : Int32) (wy : Int32) => [(8, .int (nI j)), (7, .int (nI i)), (6, .int v6), (5, .int v5), (4, .ref l1), (0, .ref xo), (1, .int i1), (2, .int a_), (3, .int w_)]) (fun (j : Nat) (v5 : Int32) (v6 : Int32) (wp4 : va_W) (y1 : Nat → Int32) (y2 : Nat → Int32) (y3 : Nat → Int32) (sy : Int32) (wy : Int32) => bPosts T po l1 y1 y2 y3 sy wy wp4 ∧ j ≤ 4 ∧ ((j : Int) ≤ (kW cr1_ inn1_ k11_ i).toInt) ∧ v5 = nI (zCn (zKb inn1_ (kW cr1_ inn1_ k11_) (kW cr1_ inn1_ k11_) k21_ k31_ a_) (4 * i + j)) ∧ v6 = zFi (zKb inn1_ (kW cr1_ inn1_ k11_) (kW cr1_ inn1_ k11_) k21_ k31_ a_) (4 * i + j)) (fun (j : Nat) (v5 : Int32) (v6 : Int32) (wp4 : va_W) (y1 : Nat → Int32) (y2 : Nat → Int32) (y3 : Nat → Int32) (sy : Int32) (wy : Int32) => 4 - j) ?_ 0 u5 u6 wp3 x1 x2 x3 sx wx (show bPosts T po l1 x1 x2 x3 sx wx wp3 ∧ 0 ≤ 4 ∧ ((0 : Int) ≤ (kW cr1_ inn1_ k11_ i).toInt) ∧ u5 = nI (zCn (zKb inn1_ (kW cr1_ inn1_ k11_) (kW cr1_ inn1_ k11_) k21_ k31_ a_) (4 * i + 0)) ∧ u6 = zFi (zKb inn1_ (kW cr1_ inn1_ k11_) (kW cr1_ inn1_ k11_) k21_ k31_ a_) (4 * i + 0) from ⟨hp3, by omega, (by omega), h5, h6⟩) G (lv_sub hl [0, 1, 2, 3, 4, 5, 6, 7, 8] rfl)
          intro j v5 v6 wp4 y1 y2 y3 sy wy hI9 ih_84 H locs ls G hl
          replace hI9 : bPosts T po l1 y1 y2 y3 sy wy wp4 ∧ j ≤ 4 ∧ ((j : Int) ≤ (kW cr1_ inn1_ k11_ i).toInt) ∧ v5 = nI (zCn (zKb inn1_ (kW cr1_ inn1_ k11_) (kW cr1_ inn1_ k11_) k21_ k31_ a_) (4 * i + j)) ∧ v6 = zFi (zKb inn1_ (kW cr1_ inn1_ k11_) (kW cr1_ inn1_ k11_) k21_ k31_ a_) (4 * i + j) := hI9
          refine zAn5 hI9 ?_
          intro hp4 hj hjw g5 g6
          clear hI9
          replace G : zS T A s.heap s [[zO10 xo t im mk rd po co tr wa wb_ fi cd], z0_, wt, wp4, [zO4 l1 cr1_ inn1_ a1_104 a2_105 a3_106 a4_107, zAr T 0 a1_104 7 k11_, zAr T 0 a2_105 28 k21_, zAr T 0 a3_106 7 k31_, zAr T 0 a4_107 7 k41_]] _ _ := G
          replace hl : lv_has ls 9 [(8, .int (nI j)), (7, .int (nI i)), (6, .int v6), (5, .int v5), (4, .ref l1), (0, .ref xo), (1, .int i1), (2, .int a_), (3, .int w_)] := hl
          refine lv_iload hx hb dX11_keys_84 (lv_at hl 0 rfl) ?_
          refine lv_aload hx hb dX11_keys_86 (lv_at hl 4 rfl) ?_
          refine lv_iload hx hb dX11_keys_88 (lv_at hl 1 rfl) ?_
          refine z_Vi (bc := [[zO4 l1 cr1_ inn1_ a1_104 a2_105 a3_106 a4_107, zAr T 0 a1_104 7 k11_, zAr T 0 a2_105 28 k21_, zAr T 0 a3_106 7 k31_, zAr T 0 a4_107 7 k41_]]) (br := [[zO10 xo t im mk rd po co tr wa wb_ fi cd], z0_, wt, wp4]) (As := [.int (nI i)]) (rest := [.int (nI j)]) C G (c_waysOut l T l1 cr1_ inn1_ k11_ k21_ k31_ k41_ ([zO4 l1 cr1_ inn1_ a1_104 a2_105 a3_106 a4_107, zAr T 0 a1_104 7 k11_, zAr T 0 a2_105 28 k21_, zAr T 0 a3_106 7 k31_, zAr T 0 a4_107 7 k41_]) (nI i) hw_114) (kV_RX11_221 C.2.2.2.2 (Nat.le_of_ble_eq_true rfl) (Nat.le_of_ble_eq_true rfl)) [4] [4] rfl rfl (ci := 4) (qc := (RX4, TX4, 6)) rfl rfl (List.mem_flatten.mpr ⟨_, List.mem_of_getElem? (i := 0) rfl, (bLand_mem hw_114).choose_spec⟩) rfl rfl hl.1 dX11_keys_90 (Nat.le_of_ble_eq_true rfl) (Nat.le_of_ble_eq_true rfl) (fun r_116 b1 H locs hw G => ?_)
          refine zAn2 hw ?_
          intro hbs9 h_115
          clear hw
          subst hbs9
          have G : zS T A s.heap s [[zO10 xo t im mk rd po co tr wa wb_ fi cd], z0_, wt, wp4, [zO4 l1 cr1_ inn1_ a1_104 a2_105 a3_106 a4_107, zAr T 0 a1_104 7 k11_, zAr T 0 a2_105 28 k21_, zAr T 0 a3_106 7 k31_, zAr T 0 a4_107 7 k41_]] _ _ := G
          subst h_115
          refine lv_icmp_ge (tgt := 140) hx hb dX11_keys_93 (by decide) (fun c_117 => ?_) (fun c_117 => ?_)
          · have c_117n : (zWays cr1_ inn1_ k11_ (nI i)).toInt ≤ (j : Int) := by have q := (fa_le _ _).mp c_117; rw [nI_toInt (n := j) (by omega)] at q; exact q
            have hsk := zCn_skip (a := zKb inn1_ (kW cr1_ inn1_ k11_) (kW cr1_ inn1_ k11_) k21_ k31_ a_) (m := 4 * i + j) (4 * (i + 1)) (by omega) (fun t h1 h2 => by
              have q8 := zKb_n (inn := inn1_) (x := a_) (V := kW cr1_ inn1_ k11_) (W := kW cr1_ inn1_ k11_) (L := k21_) (P := k31_) (c := i) (r := t - 4 * i) (by omega) (by omega)
              rw [show 4 * i + (t - 4 * i) = t by omega] at q8
              exact q8)
            refine lv_iinc (v := nI (i + 1)) (lv' := [(7, .int (nI (i + 1))), (8, .int (nI j)), (6, .int v6), (5, .int v5), (4, .ref l1), (0, .ref xo), (1, .int i1), (2, .int a_), (3, .int w_)]) hx hb dX11_keys_140 hl (k := 1) rfl (z_inc i 1) (by decide) (zLvf_h rfl) (fun ls hl => ?_)
            refine lv_goto (tgt := 71) hx hb dX11_keys_143 (by decide) ?_
            exact ih_71 (i + 1) v5 v6 wp4 y1 y2 y3 sy wy (show bPosts T po l1 y1 y2 y3 sy wy wp4 ∧ (i + 1) ≤ 7 ∧ ((i + 1) : Int) ≤ cr1_.toInt ∧ v5 = nI (zCn (zKb inn1_ (kW cr1_ inn1_ k11_) (kW cr1_ inn1_ k11_) k21_ k31_ a_) (4 * (i + 1))) ∧ v6 = zFi (zKb inn1_ (kW cr1_ inn1_ k11_) (kW cr1_ inn1_ k11_) k21_ k31_ a_) (4 * (i + 1)) from ⟨hp4, by omega, by omega, (by rw [g5, hsk.1]), (by rw [g6, hsk.2])⟩) (show 7 - (i + 1) < 7 - i from by omega) _ _ ls G (lv_sub hl [0, 2, 3, 4, 5, 6, 7, 8] rfl)
          · have c_117n : ¬ (zWays cr1_ inn1_ k11_ (nI i)).toInt ≤ (j : Int) := fun q => c_117 ((fa_le _ _).mpr (by rw [nI_toInt (n := j) (by omega)]; exact q))
            refine lv_aload_n hx hb dX11_keys_96 rfl (lv_at hl 5 rfl) ?_
            refine lv_aload hx hb dX11_keys_97 (lv_at hl 4 rfl) ?_
            refine lv_iload_n hx hb dX11_keys_99 rfl (lv_at hl 7 rfl) ?_
            refine lv_iload hx hb dX11_keys_100 (lv_at hl 1 rfl) ?_
            refine lv_iload hx hb dX11_keys_102 (lv_at hl 0 rfl) ?_
            refine z_Vi (bc := [[zO10 xo t im mk rd po co tr wa wb_ fi cd], wp4, [zO4 l1 cr1_ inn1_ a1_104 a2_105 a3_106 a4_107, zAr T 0 a1_104 7 k11_, zAr T 0 a2_105 28 k21_, zAr T 0 a3_106 7 k31_, zAr T 0 a4_107 7 k41_]]) (br := [z0_, wt]) (As := [.ref l1, .int a_, .int (nI i), .int (nI j)]) (rest := []) C G (c_f_isKey l T xo t im mk rd po co tr wa wb_ fi cd l1 y1 y2 y3 sy wy wp4 l1 cr1_ inn1_ k11_ k21_ k31_ k41_ ([zO4 l1 cr1_ inn1_ a1_104 a2_105 a3_106 a4_107, zAr T 0 a1_104 7 k11_, zAr T 0 a2_105 28 k21_, zAr T 0 a3_106 7 k31_, zAr T 0 a4_107 7 k41_]) a_ (nI i) (nI j) hp4 hw_114 hI1_ hLq1 ⟨by omega, by omega, by omega⟩ (zHyy (k1 := k11_) (inn := inn1_) (by omega) (by omega) (by omega))) (kV_RX11_224 C.2.2.2.2 (Nat.le_of_ble_eq_true rfl) (Nat.le_of_ble_eq_true rfl)) [0, 3, 4] [0, 2, 0] rfl rfl (ci := 10) (qc := (RX11, TX11, 11)) rfl rfl (List.mem_flatten.mpr ⟨_, List.mem_of_getElem? (i := 0) rfl, List.mem_cons_self⟩) rfl rfl hl.1 dX11_keys_104 (Nat.le_of_ble_eq_true rfl) (Nat.le_of_ble_eq_true rfl) (fun r_126 b1 H locs hw G => ?_)
            refine zEx6 hw ?_
            intro f1_118 f2_119 f3_120 st_121 wh_122 wp_123
            refine zCu3 ?_
            intro hbs9 h_124 h_125
            clear hw
            subst hbs9
            have G : zS T A s.heap s [z0_, wt, [zO10 xo t im mk rd po co tr wa wb_ fi cd], wp_123, [zO4 l1 cr1_ inn1_ a1_104 a2_105 a3_106 a4_107, zAr T 0 a1_104 7 k11_, zAr T 0 a2_105 28 k21_, zAr T 0 a3_106 7 k31_, zAr T 0 a4_107 7 k41_]] _ _ := G
            replace h_125 : zHd ((r_126 = 1 ∧ ¬ zBit inn1_ (zKeyAt (kSh (nI i) (nI j)) (kW cr1_ inn1_ k11_) k21_ k31_ a_) = 1 ∨ r_126 = 0 ∧ zBit inn1_ (zKeyAt (kSh (nI i) (nI j)) (kW cr1_ inn1_ k11_) k21_ k31_ a_) = 1)) := h_125
            refine lv_if_eq (tgt := 134) hx hb dX11_keys_107 (by decide) (fun c_127 => ?_) (fun c_127 => ?_)
            · have c_127n : r_126.toInt = (0 : Int) := (fa_eq _ _).mp c_127
              have hkn := zKey_n (zKb_f (V := kW cr1_ inn1_ k11_) (by omega) ((h_125).resolve_left (fun q8 => by have e8 : r_126.toInt = 1 := (by rw [q8.1]; rfl); omega)).2) g5 g6
              refine lv_iinc (v := nI (j + 1)) (lv' := [(8, .int (nI (j + 1))), (7, .int (nI i)), (6, .int v6), (5, .int v5), (4, .ref l1), (0, .ref xo), (1, .int i1), (2, .int a_), (3, .int w_)]) hx hb dX11_keys_134 hl (k := 0) rfl (z_inc j 1) (by decide) (zLvf_h rfl) (fun ls hl => ?_)
              refine lv_goto (tgt := 84) hx hb dX11_keys_137 (by decide) ?_
              have G := G.sub (bs' := [[zO10 xo t im mk rd po co tr wa wb_ fi cd], z0_, wt, wp_123, [zO4 l1 cr1_ inn1_ a1_104 a2_105 a3_106 a4_107, zAr T 0 a1_104 7 k11_, zAr T 0 a2_105 28 k21_, zAr T 0 a3_106 7 k31_, zAr T 0 a4_107 7 k41_]]) [2, 0, 1, 3, 4] rfl
              exact ih_84 (j + 1) v5 v6 wp_123 f1_118 f2_119 f3_120 st_121 wh_122 (show bPosts T po l1 f1_118 f2_119 f3_120 st_121 wh_122 wp_123 ∧ (j + 1) ≤ 4 ∧ (((j + 1) : Int) ≤ (kW cr1_ inn1_ k11_ i).toInt) ∧ v5 = nI (zCn (zKb inn1_ (kW cr1_ inn1_ k11_) (kW cr1_ inn1_ k11_) k21_ k31_ a_) (4 * i + (j + 1))) ∧ v6 = zFi (zKb inn1_ (kW cr1_ inn1_ k11_) (kW cr1_ inn1_ k11_) k21_ k31_ a_) (4 * i + (j + 1)) from ⟨h_124, by omega, (by omega), hkn.1, hkn.2⟩) (show 4 - (j + 1) < 4 - j from by omega) _ _ ls G (lv_sub hl [0, 1, 2, 3, 4, 5, 6, 7, 8] rfl)
            · have c_127n : ¬ r_126.toInt = (0 : Int) := fun q => c_127 ((fa_eq _ _).mpr q)
              have hka := zKb_t (V := kW cr1_ inn1_ k11_) (by omega) (by omega) ((h_125).resolve_right (fun q8 => by have e8 : r_126.toInt = 0 := (by rw [q8.1]; rfl); omega)).2
              refine lv_iinc (v := v5 + 1) (lv' := [(5, .int (v5 + 1)), (8, .int (nI j)), (7, .int (nI i)), (6, .int v6), (4, .ref l1), (0, .ref xo), (1, .int i1), (2, .int a_), (3, .int w_)]) hx hb dX11_keys_110 hl (k := 3) rfl rfl (by decide) (zLvf_h rfl) (fun ls hl => ?_)
              refine lv_iload hx hb dX11_keys_113 (lv_at hl 3 rfl) ?_
              refine lv_iconst (v := (-1)) hx hb dX11_keys_115 (by decide) ?_
              refine lv_icmp_ne (tgt := 130) hx hb dX11_keys_116 (by decide) (fun c_128 => ?_) (fun c_128 => ?_)
              · have c_128n : ¬ v6.toInt = (-1 : Int) := fun q => c_128 ((fa_eq _ _).mpr q)
                refine lv_iload hx hb dX11_keys_130 (lv_at hl 3 rfl) ?_
                refine lv_istore (lv' := [(6, .int v6), (5, .int (v5 + 1)), (8, .int (nI j)), (7, .int (nI i)), (4, .ref l1), (0, .ref xo), (1, .int i1), (2, .int a_), (3, .int w_)]) hx hb dX11_keys_132 hl (by decide) (zLvf_h rfl) (fun ls hl => ?_)
                refine lv_iinc (v := nI (j + 1)) (lv' := [(8, .int (nI (j + 1))), (6, .int v6), (5, .int (v5 + 1)), (7, .int (nI i)), (4, .ref l1), (0, .ref xo), (1, .int i1), (2, .int a_), (3, .int w_)]) hx hb dX11_keys_134 hl (k := 2) rfl (z_inc j 1) (by decide) (zLvf_h rfl) (fun ls hl => ?_)
                refine lv_goto (tgt := 84) hx hb dX11_keys_137 (by decide) ?_
                have G := G.sub (bs' := [[zO10 xo t im mk rd po co tr wa wb_ fi cd], z0_, wt, wp_123, [zO4 l1 cr1_ inn1_ a1_104 a2_105 a3_106 a4_107, zAr T 0 a1_104 7 k11_, zAr T 0 a2_105 28 k21_, zAr T 0 a3_106 7 k31_, zAr T 0 a4_107 7 k41_]]) [2, 0, 1, 3, 4] rfl
                exact ih_84 (j + 1) (v5 + 1) v6 wp_123 f1_118 f2_119 f3_120 st_121 wh_122 (show bPosts T po l1 f1_118 f2_119 f3_120 st_121 wh_122 wp_123 ∧ (j + 1) ≤ 4 ∧ (((j + 1) : Int) ≤ (kW cr1_ inn1_ k11_ i).toInt) ∧ (v5 + 1) = nI (zCn (zKb inn1_ (kW cr1_ inn1_ k11_) (kW cr1_ inn1_ k11_) k21_ k31_ a_) (4 * i + (j + 1))) ∧ v6 = zFi (zKb inn1_ (kW cr1_ inn1_ k11_) (kW cr1_ inn1_ k11_) k21_ k31_ a_) (4 * i + (j + 1)) from ⟨h_124, by omega, (by omega), (zKey_y (v := v6) hka g5), (zKey_k g6 (by assumption))⟩) (show 4 - (j + 1) < 4 - j from by omega) _ _ ls G (lv_sub hl [0, 3, 1, 2, 4, 5, 6, 7, 8] rfl)
              · have c_128n : v6.toInt = (-1 : Int) := (fa_eq _ _).mp c_128
                refine lv_bipush (v := 10) hx hb dX11_keys_119 (by decide) ?_
                refine lv_iload hx hb dX11_keys_121 (lv_at hl 2 rfl) ?_
                refine lv_imul hx hb dX11_keys_123 ?_
                refine lv_topi (fun y_129 ey_129 => ?_)
                obtain rfl : y_129 = nI (10 * i) := ey_129.trans (z_imuln 10 i rfl rfl)
                refine lv_iload hx hb dX11_keys_124 (lv_at hl 1 rfl) ?_
                refine lv_iadd hx hb dX11_keys_126 ?_
                refine lv_topi (fun y_130 ey_130 => ?_)
                obtain rfl : y_130 = nI ((10 * i) + j) := ey_130.trans (z_iaddn (10 * i) j rfl rfl)
                refine lv_goto (tgt := 132) hx hb dX11_keys_127 (by decide) ?_
                refine lv_istore (lv' := [(6, .int (nI ((10 * i) + j))), (5, .int (v5 + 1)), (8, .int (nI j)), (7, .int (nI i)), (4, .ref l1), (0, .ref xo), (1, .int i1), (2, .int a_), (3, .int w_)]) hx hb dX11_keys_132 hl (by decide) (zLvf_h rfl) (fun ls hl => ?_)
                refine lv_iinc (v := nI (j + 1)) (lv' := [(8, .int (nI (j + 1))), (6, .int (nI ((10 * i) + j))), (5, .int (v5 + 1)), (7, .int (nI i)), (4, .ref l1), (0, .ref xo), (1, .int i1), (2, .int a_), (3, .int w_)]) hx hb dX11_keys_134 hl (k := 2) rfl (z_inc j 1) (by decide) (zLvf_h rfl) (fun ls hl => ?_)
                refine lv_goto (tgt := 84) hx hb dX11_keys_137 (by decide) ?_
                have G := G.sub (bs' := [[zO10 xo t im mk rd po co tr wa wb_ fi cd], z0_, wt, wp_123, [zO4 l1 cr1_ inn1_ a1_104 a2_105 a3_106 a4_107, zAr T 0 a1_104 7 k11_, zAr T 0 a2_105 28 k21_, zAr T 0 a3_106 7 k31_, zAr T 0 a4_107 7 k41_]]) [2, 0, 1, 3, 4] rfl
                exact ih_84 (j + 1) (v5 + 1) (nI ((10 * i) + j)) wp_123 f1_118 f2_119 f3_120 st_121 wh_122 (show bPosts T po l1 f1_118 f2_119 f3_120 st_121 wh_122 wp_123 ∧ (j + 1) ≤ 4 ∧ (((j + 1) : Int) ≤ (kW cr1_ inn1_ k11_ i).toInt) ∧ (v5 + 1) = nI (zCn (zKb inn1_ (kW cr1_ inn1_ k11_) (kW cr1_ inn1_ k11_) k21_ k31_ a_) (4 * i + (j + 1))) ∧ (nI ((10 * i) + j)) = zFi (zKb inn1_ (kW cr1_ inn1_ k11_) (kW cr1_ inn1_ k11_) k21_ k31_ a_) (4 * i + (j + 1)) from ⟨h_124, by omega, (by omega), (zKey_y (v := v6) hka g5), ((congrArg nI (by omega)).trans (zKey_f (n := 4 * i + j) hka g6 (by assumption)))⟩) (show 4 - (j + 1) < 4 - j from by omega) _ _ ls G (lv_sub hl [0, 3, 1, 2, 4, 5, 6, 7, 8] rfl)
      · have h_103 : (x2_88.toInt < 0 ∨ cr1_.toInt ≤ x2_88.toInt ∨ 7 ≤ x2_88.toInt ∨ zBit inn1_ x2_88 = 0) := h_103
        have hni := h_103
        refine lv_if_ne (tgt := 62) hx hb dX11_keys_56 (by decide) (fun q => absurd (by decide) q) (fun _ => ?_)
        refine lv_bipush (v := (-2)) hx hb dX11_keys_59 (by decide) ?_
        have hw_131 : bPosts T po l1 g1_86 g2_78 g3_79 s2_87 x2_88 [zO6 po l1 a1_94 a2_95 s2_87 x2_88 a3_96, zAr T 0 a1_94 7 g1_86, zAr T 0 a2_95 7 g2_78, zAr T 0 a3_96 7 g3_79] := ⟨a1_94, a2_95, a3_96, rfl⟩
        have G : zS T A s.heap s [[zO10 xo t im mk rd po co tr wa wb_ fi cd], z0_, wt, [zO6 po l1 a1_94 a2_95 s2_87 x2_88 a3_96, zAr T 0 a1_94 7 g1_86, zAr T 0 a2_95 7 g2_78, zAr T 0 a3_96 7 g3_79], z1_] _ _ := G.re rfl
        have G := G.sub (bs' := [[zO10 xo t im mk rd po co tr wa wb_ fi cd], wt, z0_, z1_, [zO6 po l1 a1_94 a2_95 s2_87 x2_88 a3_96, zAr T 0 a1_94 7 g1_86, zAr T 0 a2_95 7 g2_78, zAr T 0 a3_96 7 g3_79]]) [0, 2, 1, 4, 3] rfl
        exact z_back hQ9 (z_iret C hr hlocks G (Nat.le_of_ble_eq_true rfl) (Nat.le_of_ble_eq_true rfl) dX11_keys_61 ⟨l1, g1_86, g2_78, g3_79, s2_87, x2_88, ([zO6 po l1 a1_94 a2_95 s2_87 x2_88 a3_96, zAr T 0 a1_94 7 g1_86, zAr T 0 a2_95 7 g2_78, zAr T 0 a3_96 7 g3_79]), rfl, hw_131, (Or.inr (Or.inr ⟨by assumption, by assumption, (by unfold kKeys; rw [if_neg (fun q8 => by have q7 := q8.2; rw [← hke] at q7; rcases hni with e9 | e9 | e9 | e9 <;> first | omega | exact zBit_o q7 e9)])⟩))⟩)
    · have h_75 : (a_.toInt < 0 ∨ cr1_.toInt ≤ a_.toInt ∨ 7 ≤ a_.toInt) := h_75
      refine lv_if_ne (tgt := 27) hx hb dX11_keys_21 (by decide) (fun q => absurd (by decide) q) (fun _ => ?_)
      refine lv_bipush (v := (-2)) hx hb dX11_keys_24 (by decide) ?_
      have G := G.sub (bs' := [[zO10 xo t im mk rd po co tr wa wb_ fi cd], wt, z0_, z1_, wp]) [0, 3, 1, 4, 2] rfl
      exact z_back hQ9 (z_iret C hr hlocks G (Nat.le_of_ble_eq_true rfl) (Nat.le_of_ble_eq_true rfl) dX11_keys_26 ⟨lp, f1, f2, f3, st, wh, wp, rfl, hp, (Or.inr (Or.inr ⟨by assumption, by assumption, (by have q9 := hI1_.1; unfold kKeys; rw [if_neg (fun q8 => by omega)])⟩))⟩)
def zWcr (cr : Int32) (W : Nat → Int32) (j : Nat) : Int32 := if (j : Int) < cr.toInt then W j else 0
theorem zWcr_y {cr : Int32} {W : Nat → Int32} {j : Nat} (h : (j : Int) < cr.toInt) : zWcr cr W j = W j := if_pos h
theorem zWcr_n {cr : Int32} {W : Nat → Int32} {j : Nat} (h : cr.toInt ≤ (j : Int)) : zWcr cr W j = 0 := if_neg (by omega)
/-- keys told from the last road down -/
def zKI (a : Nat → Bool) (n : Nat) (u b : Int32) : Prop := u.toInt + (zCn a n : Int) = (zCn a 28 : Int) ∧ zFi a 28 = (if zFi a n = -1 then b else zFi a n)
theorem zKI_0 {a : Nat → Bool} {n : Nat} (hn : n ≤ 28) (h : ∀ t, n ≤ t → t < 28 → a t = false) : zKI a n 0 (-1) := by
  have t := zCn_skip 28 hn h
  have z0 : (0 : Int32).toInt = 0 := rfl
  refine ⟨by rw [z0, t.1]; omega, ?_⟩
  rw [t.2]
  split
  · rename_i q
    exact q
  · rfl
theorem zKI_s {a : Nat → Bool} {m n : Nat} {u b : Int32} (hm : m ≤ n) (h : ∀ t, m ≤ t → t < n → a t = false) (k : zKI a n u b) : zKI a m u b := by
  have t := zCn_skip n hm h
  unfold zKI at k ⊢
  rw [t.1, t.2] at k
  exact k
theorem zKI_n {a : Nat → Bool} {n : Nat} {u b : Int32} (h : a n = false) (k : zKI a (n + 1) u b) : zKI a n u b := zKI_s (Nat.le_succ n) (fun t h1 h2 => by rw [show t = n by omega]; exact h) k
theorem zKI_y {a : Nat → Bool} {n : Nat} {u b : Int32} (hn : n < 28) (hu : 0 ≤ u.toInt) (h : a n = true) (k : zKI a (n + 1) u b) : zKI a n (u + 1) (nI (10 * (n / 4) + n % 4)) := by
  obtain ⟨k1, k2⟩ := k
  have c1 : zCn a (n + 1) = zCn a n + 1 := if_pos h
  have f1 : zFi a (n + 1) = if zFi a n = -1 then (if a n = true then nI (10 * (n / 4) + n % 4) else -1) else zFi a n := rfl
  rw [if_pos h] at f1
  have l := zCn_le (a := a) 28
  have e1 : (1 : Int32).toInt = 1 := rfl
  have e : (u + 1).toInt = u.toInt + 1 := (z_iaddI (by rw [e1]; omega) (by rw [e1]; omega)).trans (by rw [e1])
  refine ⟨by rw [e]; rw [c1] at k1; omega, ?_⟩
  rw [k2, f1]
  have en := nI_toInt (n := 10 * (n / 4) + n % 4) (by omega)
  have nv : ¬ nI (10 * (n / 4) + n % 4) = -1 := fun q => by
    have q := congrArg Int32.toInt q
    rw [en] at q
    have z1 : (-1 : Int32).toInt = -1 := rfl
    omega
  by_cases q : zFi a n = -1
  · rw [if_pos q, if_neg nv]
  · rw [if_neg q, if_neg q]
theorem zKI_28 {a : Nat → Bool} {n : Nat} {u b : Int32} (k : zKI a n u b) : u.toInt ≤ 28 := by
  have l := zCn_le (a := a) 28
  have e := k.1
  omega
theorem zKI_e {a : Nat → Bool} {u b : Int32} (k : zKI a 0 u b) : u = nI (zCn a 28) ∧ b = zFi a 28 := by
  obtain ⟨k1, k2⟩ := k
  have l := zCn_le (a := a) 28
  have c0 : zCn a 0 = 0 := rfl
  have f0 : zFi a 0 = -1 := rfl
  rw [c0] at k1
  rw [if_pos f0] at k2
  exact ⟨z_nI (by omega) (by omega), k2.symm⟩
theorem zKb_z {inn x : Int32} {V W L P : Nat → Int32} {t : Nat} (h : (V (t / 4)).toInt ≤ ((t % 4 : Nat) : Int)) : zKb inn V W L P x t = false := by
  unfold zKb
  rw [decide_eq_false (by omega), Bool.false_and]
theorem zSh_m {S : Nat → Int32} {c r : Int32} {i k : Nat} (h : ∀ j, j < 7 → S j = 0) (hc : c = nI i) (hr : r = nI k) : ∀ j, j < 7 → upd S c.toNatClampNeg (1 <<< (r &&& 31)) j = kSh (nI i) (nI k) j := by
  intro j hj
  unfold kSh
  rw [hc, hr]
  by_cases q : j = (nI i).toNatClampNeg
  · rw [z_eq q, z_eq q]
  · rw [z_ne q, z_ne q]; exact h j hj
theorem zWo_i {f : Nat → Int32} {z n c : Int32} (h : zBit n c = 1) (h0 : 0 ≤ c.toInt) (h6 : c.toInt ≤ 6) : zWo f z n c.toInt.toNat = 0 := by
  have e : c = nI c.toInt.toNat := z_nI (by omega) (by omega)
  exact if_pos (by rw [← e]; exact h)
theorem zWo_o {f : Nat → Int32} {z n c : Int32} (h : ¬ zBit n c = 1) (h0 : 0 ≤ c.toInt) (h6 : c.toInt ≤ 6) : zWo f z n c.toInt.toNat = zRd f z c := by
  have e : c = nI c.toInt.toNat := z_nI (by omega) (by omega)
  exact if_neg (by rw [← e]; exact h)
set_option maxHeartbeats 4000000 in
set_option maxRecDepth 100000 in
/-- c_fm_roads5 -/
theorem c_fm_roads5 (l : Launch) (T : zTy) (mo : Nat) (m_all : Nat) (m_has : Nat) (i_size : Int32) (i_next : Int32) (i_where : Int32) (i_token : Int32) (i_number : Int32) (i_word : Int32) (i_wrong : Int32) (i_farCrossing : Int32) (m_read : Nat) (i_z0 : Int32) (i_crossings : Int32) (i_inns : Int32) (m_posts : Nat) (m_shut : Nat) (m_here : Nat) (i_steps : Int32) (i_done : Int32) (i_at : Int32) (i_gone : Int32) (m_was : Nat) (m_came : Nat) (m_seenAt : Nat) (m_rowWorth : Nat) (m_farBy : Nat) (m_used : Nat) (i_everywhere : Int32) (i_again0 : Int32) (i_d0 : Int32) (i_never : Int32) (i_firstCame : Int32) (i_longRun : Int32) (i_moved : Int32) (i_crowd : Int32) (i_l0 : Int32) (i_fitMany : Int32) (i_fitLeast : Int32) (i_fitMost : Int32) (m_fitPost : Nat) (m_fitEnd : Nat) (m_keptPosts : Nat) (i_x0 : Int32) (f_all : Nat → Int32) (c_ : Int32) (hL : zML f_all i_z0 i_crossings) (hc0 : 0 ≤ c_.toInt) (hc6 : c_.toInt ≤ 6) : zMi l T yX12_roads5 cX12_roads5 2 (some .int) 2 0 0 [.ref mo, .int c_] [[zO11 mo m_all m_has i_size i_next i_where i_token i_number i_word i_wrong i_farCrossing m_read i_z0 i_crossings i_inns m_posts m_shut m_here i_steps i_done i_at i_gone m_was m_came m_seenAt m_rowWorth m_farBy m_used i_everywhere i_again0 i_d0 i_never i_firstCame i_longRun i_moved i_crowd i_l0 i_fitMany i_fitLeast i_fitMost m_fitPost m_fitEnd m_keptPosts i_x0], [zAr T 0 m_all 3952 f_all]] (fun (r : Int32) bs => bs = [[zO11 mo m_all m_has i_size i_next i_where i_token i_number i_word i_wrong i_farCrossing m_read i_z0 i_crossings i_inns m_posts m_shut m_here i_steps i_done i_at i_gone m_was m_came m_seenAt m_rowWorth m_farBy m_used i_everywhere i_again0 i_d0 i_never i_firstCame i_longRun i_moved i_crowd i_l0 i_fitMany i_fitLeast i_fitMost m_fitPost m_fitEnd m_keptPosts i_x0], [zAr T 0 m_all 3952 f_all]] ∧ 0 ≤ r.toInt ∧ r.toInt ≤ 4 ∧ r = zWo f_all i_z0 i_inns c_.toInt.toNat) := by
  refine zMi_of (own := RX12) (by decide) rfl (Nat.le_of_ble_eq_true rfl) ?_
  intro p e s m args below meth c A ls C hr hlocks hnm hAe G hl
  refine zHide (fun Q9 hQ9 => ?_)
  have hx := C.1
  have hb := C.2.1
  have hl : lv_has ls 2 [(0, .ref mo), (1, .int c_)] := hl
  refine lv_aload_n hx hb dX12_roads5_0 rfl (lv_at hl 0 rfl) ?_
  refine lv_iload_n hx hb dX12_roads5_1 rfl (lv_at hl 1 rfl) ?_
  refine z_Vi (bc := [[zO11 mo m_all m_has i_size i_next i_where i_token i_number i_word i_wrong i_farCrossing m_read i_z0 i_crossings i_inns m_posts m_shut m_here i_steps i_done i_at i_gone m_was m_came m_seenAt m_rowWorth m_farBy m_used i_everywhere i_again0 i_d0 i_never i_firstCame i_longRun i_moved i_crowd i_l0 i_fitMany i_fitLeast i_fitMost m_fitPost m_fitEnd m_keptPosts i_x0]]) (br := [[zAr T 0 m_all 3952 f_all]]) (As := [.int c_]) (rest := []) C G (c_m_isInn l T mo m_all m_has i_size i_next i_where i_token i_number i_word i_wrong i_farCrossing m_read i_z0 i_crossings i_inns m_posts m_shut m_here i_steps i_done i_at i_gone m_was m_came m_seenAt m_rowWorth m_farBy m_used i_everywhere i_again0 i_d0 i_never i_firstCame i_longRun i_moved i_crowd i_l0 i_fitMany i_fitLeast i_fitMost m_fitPost m_fitEnd m_keptPosts i_x0 c_) (kV_RX12_178 C.2.2.2.2 (Nat.le_of_ble_eq_true rfl) (Nat.le_of_ble_eq_true rfl)) [0] [0] rfl rfl (ci := 11) (qc := (RX12, TX12, 43)) rfl rfl (List.mem_flatten.mpr ⟨_, List.mem_of_getElem? (i := 0) rfl, List.mem_cons_self⟩) rfl rfl hl.1 dX12_roads5_2 (Nat.le_of_ble_eq_true rfl) (Nat.le_of_ble_eq_true rfl) (fun r_2 b1 H locs hw G => ?_)
  refine zAn2 hw ?_
  intro hbs9 hc_1
  clear hw
  subst hbs9
  have G : zS T A s.heap s [[zAr T 0 m_all 3952 f_all], [zO11 mo m_all m_has i_size i_next i_where i_token i_number i_word i_wrong i_farCrossing m_read i_z0 i_crossings i_inns m_posts m_shut m_here i_steps i_done i_at i_gone m_was m_came m_seenAt m_rowWorth m_farBy m_used i_everywhere i_again0 i_d0 i_never i_firstCame i_longRun i_moved i_crowd i_l0 i_fitMany i_fitLeast i_fitMost m_fitPost m_fitEnd m_keptPosts i_x0]] _ _ := G
  rcases hc_1 with ⟨rfl, h_3⟩ | ⟨rfl, h_4⟩
  · have h_3 : zInn i_inns c_ := h_3
    refine lv_if_eq (tgt := 12) hx hb dX12_roads5_5 (by decide) (fun q => absurd q (by decide)) (fun _ => ?_)
    refine lv_iconst (v := 0) hx hb dX12_roads5_8 (by decide) ?_
    refine lv_goto (tgt := 17) hx hb dX12_roads5_9 (by decide) ?_
    have G := G.sub (bs' := [[zO11 mo m_all m_has i_size i_next i_where i_token i_number i_word i_wrong i_farCrossing m_read i_z0 i_crossings i_inns m_posts m_shut m_here i_steps i_done i_at i_gone m_was m_came m_seenAt m_rowWorth m_farBy m_used i_everywhere i_again0 i_d0 i_never i_firstCame i_longRun i_moved i_crowd i_l0 i_fitMany i_fitLeast i_fitMost m_fitPost m_fitEnd m_keptPosts i_x0], [zAr T 0 m_all 3952 f_all]]) [1, 0] rfl
    exact z_back hQ9 (z_iret C hr hlocks G (Nat.le_of_ble_eq_true rfl) (Nat.le_of_ble_eq_true rfl) dX12_roads5_17 ⟨rfl, (by decide), (by decide), (zWo_i (by assumption) (by omega) (by omega)).symm⟩)
  · have h_4 : ¬ zInn i_inns c_ := h_4
    refine lv_if_eq (tgt := 12) hx hb dX12_roads5_5 (by decide) (fun _ => ?_) (fun q => absurd (by decide) q)
    refine lv_aload_n hx hb dX12_roads5_12 rfl (lv_at hl 0 rfl) ?_
    refine lv_iload_n hx hb dX12_roads5_13 rfl (lv_at hl 1 rfl) ?_
    refine z_Vi (bc := [[zO11 mo m_all m_has i_size i_next i_where i_token i_number i_word i_wrong i_farCrossing m_read i_z0 i_crossings i_inns m_posts m_shut m_here i_steps i_done i_at i_gone m_was m_came m_seenAt m_rowWorth m_farBy m_used i_everywhere i_again0 i_d0 i_never i_firstCame i_longRun i_moved i_crowd i_l0 i_fitMany i_fitLeast i_fitMost m_fitPost m_fitEnd m_keptPosts i_x0], [zAr T 0 m_all 3952 f_all]]) (br := []) (As := [.int c_]) (rest := []) C G (c_m_roadsOf l T mo m_all m_has i_size i_next i_where i_token i_number i_word i_wrong i_farCrossing m_read i_z0 i_crossings i_inns m_posts m_shut m_here i_steps i_done i_at i_gone m_was m_came m_seenAt m_rowWorth m_farBy m_used i_everywhere i_again0 i_d0 i_never i_firstCame i_longRun i_moved i_crowd i_l0 i_fitMany i_fitLeast i_fitMost m_fitPost m_fitEnd m_keptPosts i_x0 f_all c_ (by first | with_reducible assumption | with_reducible rfl | omega | assumption | rfl) (by first | with_reducible assumption | with_reducible rfl | omega | assumption | rfl) (by first | with_reducible assumption | with_reducible rfl | omega | assumption | rfl)) (kV_RX12_181 C.2.2.2.2 (Nat.le_of_ble_eq_true rfl) (Nat.le_of_ble_eq_true rfl)) [1, 0] [0, 0] rfl rfl (ci := 11) (qc := (RX12, TX12, 43)) rfl rfl (List.mem_flatten.mpr ⟨_, List.mem_of_getElem? (i := 0) rfl, List.mem_cons_self⟩) rfl rfl hl.1 dX12_roads5_14 (Nat.le_of_ble_eq_true rfl) (Nat.le_of_ble_eq_true rfl) (fun r_8 b1 H locs hw G => ?_)
    refine zAn4 hw ?_
    intro hbs9 h_5 h_6 h_7
    clear hw
    subst hbs9
    have G : zS T A s.heap s [[zO11 mo m_all m_has i_size i_next i_where i_token i_number i_word i_wrong i_farCrossing m_read i_z0 i_crossings i_inns m_posts m_shut m_here i_steps i_done i_at i_gone m_was m_came m_seenAt m_rowWorth m_farBy m_used i_everywhere i_again0 i_d0 i_never i_firstCame i_longRun i_moved i_crowd i_l0 i_fitMany i_fitLeast i_fitMost m_fitPost m_fitEnd m_keptPosts i_x0], [zAr T 0 m_all 3952 f_all]] _ _ := G
    subst h_5
    exact z_back hQ9 (z_iret C hr hlocks G (Nat.le_of_ble_eq_true rfl) (Nat.le_of_ble_eq_true rfl) dX12_roads5_17 ⟨rfl, (by first | with_reducible assumption | omega | trivial | assumption), (by first | with_reducible assumption | omega | trivial | assumption), (zWo_o (by assumption) (by omega) (by omega)).symm⟩)
set_option maxHeartbeats 4000000 in
set_option maxRecDepth 100000 in
/-- c_fm_keys -/
theorem c_fm_keys (l : Launch) (T : zTy) (mo : Nat) (m_all : Nat) (m_has : Nat) (i_size : Int32) (i_next : Int32) (i_where : Int32) (i_token : Int32) (i_number : Int32) (i_word : Int32) (i_wrong : Int32) (i_farCrossing : Int32) (m_read : Nat) (i_z0 : Int32) (i_crossings : Int32) (i_inns : Int32) (m_posts : Nat) (m_shut : Nat) (m_here : Nat) (i_steps : Int32) (i_done : Int32) (i_at : Int32) (i_gone : Int32) (m_was : Nat) (m_came : Nat) (m_seenAt : Nat) (m_rowWorth : Nat) (m_farBy : Nat) (m_used : Nat) (i_everywhere : Int32) (i_again0 : Int32) (i_d0 : Int32) (i_never : Int32) (i_firstCame : Int32) (i_longRun : Int32) (i_moved : Int32) (i_crowd : Int32) (i_l0 : Int32) (i_fitMany : Int32) (i_fitLeast : Int32) (i_fitMost : Int32) (m_fitPost : Nat) (m_fitEnd : Nat) (m_keptPosts : Nat) (i_x0 : Int32) (f_all : Nat → Int32) (f_posts : Nat → Int32) (f_shut : Nat → Int32) (f_here : Nat → Int32) (f_was : Nat → Int32) (l_ : Int32) (c_ : Int32) (u_ : Int32) (hB : zBI f_all) (hVA : zVA f_all) : zMi l T yX12_keys cX12_keys 8 (some .int) 5 0 0 [.ref mo, .int l_, .int c_, .int u_] [[zO11 mo m_all m_has i_size i_next i_where i_token i_number i_word i_wrong i_farCrossing m_read i_z0 i_crossings i_inns m_posts m_shut m_here i_steps i_done i_at i_gone m_was m_came m_seenAt m_rowWorth m_farBy m_used i_everywhere i_again0 i_d0 i_never i_firstCame i_longRun i_moved i_crowd i_l0 i_fitMany i_fitLeast i_fitMost m_fitPost m_fitEnd m_keptPosts i_x0], [zAr T 0 m_all 3952 f_all], [zAr T 0 m_posts 7 f_posts], [zAr T 0 m_shut 7 f_shut], [zAr T 0 m_here 7 f_here], [zAr T 0 m_was 7 f_was]] (fun (r : Int32) bs => ∃ (j_z0 : Int32) (j_crossings : Int32) (j_inns : Int32) (j_steps : Int32) (j_done : Int32) (j_at : Int32) (j_gone : Int32) (g_posts : Nat → Int32) (g_shut : Nat → Int32) (g_here : Nat → Int32) (g_was : Nat → Int32), bs = [[zO11 mo m_all m_has i_size i_next i_where i_token i_number i_word i_wrong i_farCrossing m_read j_z0 j_crossings j_inns m_posts m_shut m_here j_steps j_done j_at j_gone m_was m_came m_seenAt m_rowWorth m_farBy m_used i_everywhere i_again0 i_d0 i_never i_firstCame i_longRun i_moved i_crowd i_l0 i_fitMany i_fitLeast i_fitMost m_fitPost m_fitEnd m_keptPosts i_x0], [zAr T 0 m_all 3952 f_all], [zAr T 0 m_posts 7 g_posts], [zAr T 0 m_shut 7 g_shut], [zAr T 0 m_here 7 g_here], [zAr T 0 m_was 7 g_was]] ∧ ((l_.toInt < 0 ∨ (f_all 0).toInt ≤ l_.toInt) ∧ r = -2 ∨ l_.toInt = 0 ∧ 0 < (f_all 0).toInt ∧ r = pKeys f_all 610 c_ u_ ∨ l_.toInt = 1 ∧ 1 < (f_all 0).toInt ∧ r = pKeys f_all 661 c_ u_)) := by
  refine zMi_of (own := RX12) (by decide) rfl (Nat.le_of_ble_eq_true rfl) ?_
  intro p e s m args below meth c A ls C hr hlocks hnm hAe G hl
  refine zHide (fun Q9 hQ9 => ?_)
  have hx := C.1
  have hb := C.2.1
  have hl : lv_has ls 8 [(0, .ref mo), (1, .int l_), (2, .int c_), (3, .int u_)] := hl
  refine lv_aload_n hx hb dX12_keys_0 rfl (lv_at hl 0 rfl) ?_
  refine lv_iload_n hx hb dX12_keys_1 rfl (lv_at hl 1 rfl) ?_
  refine z_Vi (bc := [[zO11 mo m_all m_has i_size i_next i_where i_token i_number i_word i_wrong i_farCrossing m_read i_z0 i_crossings i_inns m_posts m_shut m_here i_steps i_done i_at i_gone m_was m_came m_seenAt m_rowWorth m_farBy m_used i_everywhere i_again0 i_d0 i_never i_firstCame i_longRun i_moved i_crowd i_l0 i_fitMany i_fitLeast i_fitMost m_fitPost m_fitEnd m_keptPosts i_x0], [zAr T 0 m_all 3952 f_all], [zAr T 0 m_posts 7 f_posts], [zAr T 0 m_shut 7 f_shut], [zAr T 0 m_here 7 f_here]]) (br := [[zAr T 0 m_was 7 f_was]]) (As := [.int l_]) (rest := []) C G (c_m_isLand l T mo m_all m_has i_size i_next i_where i_token i_number i_word i_wrong i_farCrossing m_read i_z0 i_crossings i_inns m_posts m_shut m_here i_steps i_done i_at i_gone m_was m_came m_seenAt m_rowWorth m_farBy m_used i_everywhere i_again0 i_d0 i_never i_firstCame i_longRun i_moved i_crowd i_l0 i_fitMany i_fitLeast i_fitMost m_fitPost m_fitEnd m_keptPosts i_x0 f_all f_posts f_shut f_here l_ (by first | with_reducible assumption | with_reducible rfl | omega | assumption | rfl)) (kV_RX12_184 C.2.2.2.2 (Nat.le_of_ble_eq_true rfl) (Nat.le_of_ble_eq_true rfl)) [0, 1, 2, 3, 4] [0, 0, 0, 0, 0] rfl rfl (ci := 11) (qc := (RX12, TX12, 43)) rfl rfl (List.mem_flatten.mpr ⟨_, List.mem_of_getElem? (i := 0) rfl, List.mem_cons_self⟩) rfl rfl hl.1 dX12_keys_2 (Nat.le_of_ble_eq_true rfl) (Nat.le_of_ble_eq_true rfl) (fun r_10 b1 H locs hw G => ?_)
  refine zEx8 hw ?_
  intro j_z0_1 j_crossings_2 j_inns_3 j_steps_4 j_done_5 g_posts_6 g_shut_7 g_here_8
  refine zCu2 ?_
  intro hbs9 hc_9
  clear hw
  subst hbs9
  have G : zS T A s.heap s [[zAr T 0 m_was 7 f_was], [zO11 mo m_all m_has i_size i_next i_where i_token i_number i_word i_wrong i_farCrossing m_read j_z0_1 j_crossings_2 j_inns_3 m_posts m_shut m_here j_steps_4 j_done_5 i_at i_gone m_was m_came m_seenAt m_rowWorth m_farBy m_used i_everywhere i_again0 i_d0 i_never i_firstCame i_longRun i_moved i_crowd i_l0 i_fitMany i_fitLeast i_fitMost m_fitPost m_fitEnd m_keptPosts i_x0], [zAr T 0 m_all 3952 f_all], [zAr T 0 m_posts 7 g_posts_6], [zAr T 0 m_shut 7 g_shut_7], [zAr T 0 m_here 7 g_here_8]] _ _ := G
  rcases hc_9 with ⟨rfl, h_11, h_12, h_13, h_14, h_15, h_16, h_17, h_18, h_19, h_20, h_21, h_22⟩ | ⟨rfl, h_23⟩
  · have h_11 : 0 ≤ l_.toInt := h_11
    have h_12 : l_.toInt ≤ 1 := h_12
    have h_13 : l_.toInt < (f_all 0).toInt := h_13
    have h_14 : j_z0_1.toInt = 610 + 51 * l_.toInt := h_14
    have h_15 : zML f_all j_z0_1 j_crossings_2 := h_15
    have h_16 : zMP g_posts_6 := h_16
    have h_17 : j_inns_3 = f_all (j_z0_1.toInt.toNat + 1) := h_17
    have h_18 : j_steps_4 = 0 := h_18
    have h_19 : j_done_5 = 0 := h_19
    have h_20 : (∀ j, j < 7 → g_posts_6 j = zPt f_all j_z0_1 (nI j)) := h_20
    have h_21 : (∀ j, j < 7 → g_shut_7 j = 0) := h_21
    have h_22 : (∀ j, j < 7 → g_here_8 j = zWk f_all j_z0_1 j) := h_22
    have hLx := h_15
    have hcr := hLx.cr
    have hzx := hLx.1
    have hPx := h_16
    have hVx : zMV (zRo f_all j_z0_1) g_posts_6 := zVA_z hVA hzx h_20
    refine lv_if_eq (tgt := 24) hx hb dX12_keys_5 (by decide) (fun q => absurd q (by decide)) (fun _ => ?_)
    rcases (show l_.toInt = 0 ∨ l_.toInt = 1 from by have hq9 := hB.2.1 0 (by decide); omega) with hkk | hkk
    · obtain rfl : j_z0_1 = 610 := Int32.toInt_inj.mp (by show j_z0_1.toInt = 610; omega)
      have hcx : j_crossings_2.toInt = (f_all 610).toInt := by rw [hLx.2.1]; rfl
      have hQP : zP3 g_posts_6 (zWo f_all 610 j_inns_3) := zP3_m hLx hPx
      refine lv_aload_n hx hb dX12_keys_8 rfl (lv_at hl 0 rfl) ?_
      refine lv_iload_n hx hb dX12_keys_9 rfl (lv_at hl 2 rfl) ?_
      refine z_Vi (bc := [[zO11 mo m_all m_has i_size i_next i_where i_token i_number i_word i_wrong i_farCrossing m_read 610 j_crossings_2 j_inns_3 m_posts m_shut m_here j_steps_4 j_done_5 i_at i_gone m_was m_came m_seenAt m_rowWorth m_farBy m_used i_everywhere i_again0 i_d0 i_never i_firstCame i_longRun i_moved i_crowd i_l0 i_fitMany i_fitLeast i_fitMost m_fitPost m_fitEnd m_keptPosts i_x0]]) (br := [[zAr T 0 m_was 7 f_was], [zAr T 0 m_all 3952 f_all], [zAr T 0 m_posts 7 g_posts_6], [zAr T 0 m_shut 7 g_shut_7], [zAr T 0 m_here 7 g_here_8]]) (As := [.int c_]) (rest := []) C G (c_m_isCrossing l T mo m_all m_has i_size i_next i_where i_token i_number i_word i_wrong i_farCrossing m_read 610 j_crossings_2 j_inns_3 m_posts m_shut m_here j_steps_4 j_done_5 i_at i_gone m_was m_came m_seenAt m_rowWorth m_farBy m_used i_everywhere i_again0 i_d0 i_never i_firstCame i_longRun i_moved i_crowd i_l0 i_fitMany i_fitLeast i_fitMost m_fitPost m_fitEnd m_keptPosts i_x0 c_ (by first | with_reducible assumption | with_reducible rfl | omega | assumption | rfl)) (kV_RX12_187 C.2.2.2.2 (Nat.le_of_ble_eq_true rfl) (Nat.le_of_ble_eq_true rfl)) [1] [1] rfl rfl (ci := 11) (qc := (RX12, TX12, 43)) rfl rfl (List.mem_flatten.mpr ⟨_, List.mem_of_getElem? (i := 0) rfl, List.mem_cons_self⟩) rfl rfl hl.1 dX12_keys_10 (Nat.le_of_ble_eq_true rfl) (Nat.le_of_ble_eq_true rfl) (fun r_25 b1 H locs hw G => ?_)
      refine zAn2 hw ?_
      intro hbs9 hc_24
      clear hw
      subst hbs9
      have G : zS T A s.heap s [[zAr T 0 m_was 7 f_was], [zAr T 0 m_all 3952 f_all], [zAr T 0 m_posts 7 g_posts_6], [zAr T 0 m_shut 7 g_shut_7], [zAr T 0 m_here 7 g_here_8], [zO11 mo m_all m_has i_size i_next i_where i_token i_number i_word i_wrong i_farCrossing m_read 610 j_crossings_2 j_inns_3 m_posts m_shut m_here j_steps_4 j_done_5 i_at i_gone m_was m_came m_seenAt m_rowWorth m_farBy m_used i_everywhere i_again0 i_d0 i_never i_firstCame i_longRun i_moved i_crowd i_l0 i_fitMany i_fitLeast i_fitMost m_fitPost m_fitEnd m_keptPosts i_x0]] _ _ := G
      rcases hc_24 with ⟨rfl, h_26, h_27⟩ | ⟨rfl, h_28⟩
      · have h_26 : 0 ≤ c_.toInt := h_26
        have h_27 : c_.toInt < j_crossings_2.toInt := h_27
        refine lv_if_eq (tgt := 24) hx hb dX12_keys_13 (by decide) (fun q => absurd q (by decide)) (fun _ => ?_)
        refine lv_aload_n hx hb dX12_keys_16 rfl (lv_at hl 0 rfl) ?_
        refine lv_iload_n hx hb dX12_keys_17 rfl (lv_at hl 2 rfl) ?_
        refine z_Vi (bc := [[zO11 mo m_all m_has i_size i_next i_where i_token i_number i_word i_wrong i_farCrossing m_read 610 j_crossings_2 j_inns_3 m_posts m_shut m_here j_steps_4 j_done_5 i_at i_gone m_was m_came m_seenAt m_rowWorth m_farBy m_used i_everywhere i_again0 i_d0 i_never i_firstCame i_longRun i_moved i_crowd i_l0 i_fitMany i_fitLeast i_fitMost m_fitPost m_fitEnd m_keptPosts i_x0], [zAr T 0 m_all 3952 f_all], [zAr T 0 m_posts 7 g_posts_6], [zAr T 0 m_shut 7 g_shut_7], [zAr T 0 m_was 7 f_was]]) (br := [[zAr T 0 m_here 7 g_here_8]]) (As := [.int c_]) (rest := []) C G (c_fm_walks l T mo m_all m_has i_size i_next i_where i_token i_number i_word i_wrong i_farCrossing m_read 610 j_crossings_2 j_inns_3 m_posts m_shut m_here j_steps_4 j_done_5 i_at i_gone m_was m_came m_seenAt m_rowWorth m_farBy m_used i_everywhere i_again0 i_d0 i_never i_firstCame i_longRun i_moved i_crowd i_l0 i_fitMany i_fitLeast i_fitMost m_fitPost m_fitEnd m_keptPosts i_x0 f_all g_posts_6 g_shut_7 f_was c_ (by first | with_reducible assumption | with_reducible rfl | omega | assumption | rfl) (by first | with_reducible assumption | with_reducible rfl | omega | assumption | rfl) (by first | with_reducible assumption | with_reducible rfl | omega | assumption | rfl) (by first | with_reducible assumption | with_reducible rfl | omega | assumption | rfl) (by first | with_reducible assumption | with_reducible rfl | omega | assumption | rfl)) (kV_RX12_217 C.2.2.2.2 (Nat.le_of_ble_eq_true rfl) (Nat.le_of_ble_eq_true rfl)) [5, 1, 2, 3, 0] [0, 0, 0, 0, 1] rfl rfl (ci := 11) (qc := (RX12, TX12, 43)) rfl rfl (List.mem_flatten.mpr ⟨_, List.mem_of_getElem? (i := 0) rfl, List.mem_cons_self⟩) rfl rfl hl.1 dX12_keys_18 (Nat.le_of_ble_eq_true rfl) (Nat.le_of_ble_eq_true rfl) (fun r_43 b1 H locs hw G => ?_)
        refine zEx4 hw ?_
        intro j_at_29 j_gone_30 g_posts_31 g_was_32
        refine zCu11 ?_
        intro hbs9 h_33 h_34 h_35 h_36 h_37 h_38 h_39 h_40 h_41 h_42
        clear hw
        subst hbs9
        have G : zS T A s.heap s [[zAr T 0 m_here 7 g_here_8], [zO11 mo m_all m_has i_size i_next i_where i_token i_number i_word i_wrong i_farCrossing m_read 610 j_crossings_2 j_inns_3 m_posts m_shut m_here j_steps_4 j_done_5 j_at_29 j_gone_30 m_was m_came m_seenAt m_rowWorth m_farBy m_used i_everywhere i_again0 i_d0 i_never i_firstCame i_longRun i_moved i_crowd i_l0 i_fitMany i_fitLeast i_fitMost m_fitPost m_fitEnd m_keptPosts i_x0], [zAr T 0 m_all 3952 f_all], [zAr T 0 m_posts 7 g_posts_31], [zAr T 0 m_shut 7 g_shut_7], [zAr T 0 m_was 7 g_was_32]] _ _ := G
        replace h_38 : zHd ((r_43 = 1 ∧ zBit j_inns_3 j_at_29 = 1 ∨ r_43 = 0 ∧ ¬ zBit j_inns_3 j_at_29 = 1)) := h_38
        have hr1 : r_43.toInt = 1 ∧ zBit j_inns_3 j_at_29 = 1 ∨ r_43.toInt = 0 ∧ ¬ zBit j_inns_3 j_at_29 = 1 := by rcases h_38 with ⟨e9, b9⟩ | ⟨e9, b9⟩ <;> first | exact Or.inl ⟨by rw [e9]; rfl, b9⟩ | exact Or.inr ⟨by rw [e9]; rfl, b9⟩
        have hk0 : j_at_29 = zKeyAt zS0 (zWo f_all 610 j_inns_3) (zLo f_all 610) (zPo f_all 610) c_ := by rw [h_40]; exact congrArg (fun q : Int32 × Nat => q.1) (zRunN_cg h_21 (fun _ _ => rfl) zLs_rf 499 _ _ c_ 0 hQP (zPt_o h_20)).2
        rw [hk0] at hr1
        refine lv_if_ne (tgt := 27) hx hb dX12_keys_21 (by decide) (fun c_44 => ?_) (fun c_44 => ?_)
        · have c_44n : ¬ r_43.toInt = (0 : Int) := fun q => c_44 ((fa_eq _ _).mpr q)
          refine lv_iconst (v := 0) hx hb dX12_keys_27 (by decide) ?_
          refine lv_istore (lv' := [(4, .int 0), (0, .ref mo), (1, .int l_), (2, .int c_), (3, .int u_)]) hx hb dX12_keys_28 hl (by decide) (zLvf_h rfl) (fun ls hl => ?_)
          refine lv_iconst (v := (-1)) hx hb dX12_keys_30 (by decide) ?_
          refine lv_istore (lv' := [(5, .int (-1)), (4, .int 0), (0, .ref mo), (1, .int l_), (2, .int c_), (3, .int u_)]) hx hb dX12_keys_31 hl (by decide) (zLvf_h rfl) (fun ls hl => ?_)
          refine lv_aload_n hx hb dX12_keys_33 rfl (lv_at hl 2 rfl) ?_
          refine z_get C G clX12 1 rfl 12 (by decide) m_fl_RX12_169 rfl dX12_keys_34 ?_
          refine lv_iconst (v := 1) hx hb dX12_keys_37 (by decide) ?_
          refine lv_isub hx hb dX12_keys_38 ?_
          refine lv_topi (fun y_45 ey_45 => ?_)
          have ey_45i : y_45.toInt = j_crossings_2.toInt - (1 : Int) := by rw [ey_45]; exact z_isubI (x := j_crossings_2) (y := (1 : Int32)) (by show -2147483648 ≤ j_crossings_2.toInt - (1 : Int); omega) (by show j_crossings_2.toInt - (1 : Int) < 2147483648; omega)
          refine lv_istore (lv' := [(6, .int y_45), (5, .int (-1)), (4, .int 0), (0, .ref mo), (1, .int l_), (2, .int c_), (3, .int u_)]) hx hb dX12_keys_39 hl (by decide) (zLvf_h rfl) (fun ls hl => ?_)
          refine z_lp11 (T := T) 41 (fun (c9 : Int32) (u : Int32) (b9 : Int32) (xat : Int32) (xgone : Int32) (xsteps : Int32) (xdone : Int32) (xposts : Nat → Int32) (xwas : Nat → Int32) (xshut : Nat → Int32) (xhere : Nat → Int32) => [[zAr T 0 m_here 7 xhere], [zO11 mo m_all m_has i_size i_next i_where i_token i_number i_word i_wrong i_farCrossing m_read 610 j_crossings_2 j_inns_3 m_posts m_shut m_here xsteps xdone xat xgone m_was m_came m_seenAt m_rowWorth m_farBy m_used i_everywhere i_again0 i_d0 i_never i_firstCame i_longRun i_moved i_crowd i_l0 i_fitMany i_fitLeast i_fitMost m_fitPost m_fitEnd m_keptPosts i_x0], [zAr T 0 m_all 3952 f_all], [zAr T 0 m_posts 7 xposts], [zAr T 0 m_shut 7 xshut], [zAr T 0 m_was 7 xwas]]) (fun (c9 : Int32) (u : Int32) (b9 : Int32) (xat : Int32) (xgone : Int32) (xsteps : Int32) (xdone : Int32) (xposts : Nat → Int32) (xwas : Nat → Int32) (xshut : Nat → Int32) (xhere : Nat → Int32) => [(6, .int c9), (5, .int b9), (4, .int u), (0, .ref mo), (1, .int l_), (2, .int c_), (3, .int u_)]) (fun (c9 : Int32) (u : Int32) (b9 : Int32) (xat : Int32) (xgone : Int32) (xsteps : Int32) (xdone : Int32) (xposts : Nat → Int32) (xwas : Nat → Int32) (xshut : Nat → Int32) (xhere : Nat → Int32) => -1 ≤ c9.toInt ∧ c9.toInt < j_crossings_2.toInt ∧ zMP xposts ∧ 0 ≤ u.toInt ∧ zKI (zKb j_inns_3 (zWcr j_crossings_2 (zWo f_all 610 j_inns_3)) (zWo f_all 610 j_inns_3) (zLo f_all 610) (zPo f_all 610) c_) (4 * (c9.toInt + 1).toNat) u b9) (fun (c9 : Int32) (u : Int32) (b9 : Int32) (xat : Int32) (xgone : Int32) (xsteps : Int32) (xdone : Int32) (xposts : Nat → Int32) (xwas : Nat → Int32) (xshut : Nat → Int32) (xhere : Nat → Int32) => (c9.toInt + 1).toNat) ?_ y_45 0 (-1) j_at_29 j_gone_30 j_steps_4 j_done_5 g_posts_31 g_was_32 g_shut_7 g_here_8 (show -1 ≤ y_45.toInt ∧ y_45.toInt < j_crossings_2.toInt ∧ zMP g_posts_31 ∧ 0 ≤ (0 : Int32).toInt ∧ zKI (zKb j_inns_3 (zWcr j_crossings_2 (zWo f_all 610 j_inns_3)) (zWo f_all 610 j_inns_3) (zLo f_all 610) (zPo f_all 610) c_) (4 * (y_45.toInt + 1).toNat) 0 (-1) from ⟨by omega, by omega, (by assumption), (by decide), (zKI_0 (by omega) (fun t h1 h2 => zKb_z (by rw [zWcr_n (by omega)]; have z0 : (0 : Int32).toInt = 0 := rfl; omega)))⟩) G (lv_sub hl [0, 1, 2, 3, 4, 5, 6] rfl)
          intro c9 u b9 xat xgone xsteps xdone xposts xwas xshut xhere hI9 ih_41 H locs ls G hl
          replace hI9 : -1 ≤ c9.toInt ∧ c9.toInt < j_crossings_2.toInt ∧ zMP xposts ∧ 0 ≤ u.toInt ∧ zKI (zKb j_inns_3 (zWcr j_crossings_2 (zWo f_all 610 j_inns_3)) (zWo f_all 610 j_inns_3) (zLo f_all 610) (zPo f_all 610) c_) (4 * (c9.toInt + 1).toNat) u b9 := hI9
          refine zAn5 hI9 ?_
          intro hc1 hc9 hQ hu0 hKI
          clear hI9
          replace G : zS T A s.heap s [[zAr T 0 m_here 7 xhere], [zO11 mo m_all m_has i_size i_next i_where i_token i_number i_word i_wrong i_farCrossing m_read 610 j_crossings_2 j_inns_3 m_posts m_shut m_here xsteps xdone xat xgone m_was m_came m_seenAt m_rowWorth m_farBy m_used i_everywhere i_again0 i_d0 i_never i_firstCame i_longRun i_moved i_crowd i_l0 i_fitMany i_fitLeast i_fitMost m_fitPost m_fitEnd m_keptPosts i_x0], [zAr T 0 m_all 3952 f_all], [zAr T 0 m_posts 7 xposts], [zAr T 0 m_shut 7 xshut], [zAr T 0 m_was 7 xwas]] _ _ := G
          replace hl : lv_has ls 8 [(6, .int c9), (5, .int b9), (4, .int u), (0, .ref mo), (1, .int l_), (2, .int c_), (3, .int u_)] := hl
          refine lv_iload hx hb dX12_keys_41 (lv_at hl 0 rfl) ?_
          refine lv_if_lt (tgt := 112) hx hb dX12_keys_43 (by decide) (fun c_46 => ?_) (fun c_46 => ?_)
          · have c_46n : c9.toInt < (0 : Int) := (fa_lt _ _).mp c_46
            refine lv_iload_n hx hb dX12_keys_112 rfl (lv_at hl 6 rfl) ?_
            refine lv_if_eq (tgt := 121) hx hb dX12_keys_113 (by decide) (fun c_47 => ?_) (fun c_47 => ?_)
            · have c_47n : u_.toInt = (0 : Int) := (fa_eq _ _).mp c_47
              refine lv_iload hx hb dX12_keys_121 (lv_at hl 2 rfl) ?_
              have G := G.sub (bs' := [[zO11 mo m_all m_has i_size i_next i_where i_token i_number i_word i_wrong i_farCrossing m_read 610 j_crossings_2 j_inns_3 m_posts m_shut m_here xsteps xdone xat xgone m_was m_came m_seenAt m_rowWorth m_farBy m_used i_everywhere i_again0 i_d0 i_never i_firstCame i_longRun i_moved i_crowd i_l0 i_fitMany i_fitLeast i_fitMost m_fitPost m_fitEnd m_keptPosts i_x0], [zAr T 0 m_all 3952 f_all], [zAr T 0 m_posts 7 xposts], [zAr T 0 m_shut 7 xshut], [zAr T 0 m_here 7 xhere], [zAr T 0 m_was 7 xwas]]) [1, 2, 3, 4, 0, 5] rfl
              exact z_back hQ9 (z_iret C hr hlocks G (Nat.le_of_ble_eq_true rfl) (Nat.le_of_ble_eq_true rfl) dX12_keys_123 ⟨610, j_crossings_2, j_inns_3, xsteps, xdone, xat, xgone, xposts, xshut, xhere, xwas, rfl, (Or.inr (Or.inl ⟨by assumption, by omega, (by unfold pKeys; rw [show pWc f_all 610 = zWcr j_crossings_2 (pW f_all 610) from (by unfold pWc; rw [hLx.2.1]; rfl), show pW f_all 610 = zWo f_all 610 j_inns_3 from congrArg (zWo f_all 610) h_17.symm, show f_all ((610 : Int32).toInt.toNat + 1) = j_inns_3 from h_17.symm, if_pos ⟨(show 0 ≤ c_.toInt ∧ c_.toInt < (f_all 610).toInt from ⟨by omega, by omega⟩), by rcases hr1 with ⟨e9, b9⟩ | ⟨e9, b9⟩ <;> first | (exfalso; omega) | exact b9⟩, if_pos (by omega)]; exact (zKI_e (by have q8 := hKI; rw [show 4 * (c9.toInt + 1).toNat = 0 by omega] at q8; exact q8)).1)⟩))⟩)
            · have c_47n : ¬ u_.toInt = (0 : Int) := fun q => c_47 ((fa_eq _ _).mpr q)
              refine lv_iload hx hb dX12_keys_116 (lv_at hl 1 rfl) ?_
              refine lv_goto (tgt := 123) hx hb dX12_keys_118 (by decide) ?_
              have G := G.sub (bs' := [[zO11 mo m_all m_has i_size i_next i_where i_token i_number i_word i_wrong i_farCrossing m_read 610 j_crossings_2 j_inns_3 m_posts m_shut m_here xsteps xdone xat xgone m_was m_came m_seenAt m_rowWorth m_farBy m_used i_everywhere i_again0 i_d0 i_never i_firstCame i_longRun i_moved i_crowd i_l0 i_fitMany i_fitLeast i_fitMost m_fitPost m_fitEnd m_keptPosts i_x0], [zAr T 0 m_all 3952 f_all], [zAr T 0 m_posts 7 xposts], [zAr T 0 m_shut 7 xshut], [zAr T 0 m_here 7 xhere], [zAr T 0 m_was 7 xwas]]) [1, 2, 3, 4, 0, 5] rfl
              exact z_back hQ9 (z_iret C hr hlocks G (Nat.le_of_ble_eq_true rfl) (Nat.le_of_ble_eq_true rfl) dX12_keys_123 ⟨610, j_crossings_2, j_inns_3, xsteps, xdone, xat, xgone, xposts, xshut, xhere, xwas, rfl, (Or.inr (Or.inl ⟨by assumption, by omega, (by unfold pKeys; rw [show pWc f_all 610 = zWcr j_crossings_2 (pW f_all 610) from (by unfold pWc; rw [hLx.2.1]; rfl), show pW f_all 610 = zWo f_all 610 j_inns_3 from congrArg (zWo f_all 610) h_17.symm, show f_all ((610 : Int32).toInt.toNat + 1) = j_inns_3 from h_17.symm, if_pos ⟨(show 0 ≤ c_.toInt ∧ c_.toInt < (f_all 610).toInt from ⟨by omega, by omega⟩), by rcases hr1 with ⟨e9, b9⟩ | ⟨e9, b9⟩ <;> first | (exfalso; omega) | exact b9⟩, if_neg (by omega)]; exact (zKI_e (by have q8 := hKI; rw [show 4 * (c9.toInt + 1).toNat = 0 by omega] at q8; exact q8)).2)⟩))⟩)
          · have c_46n : ¬ c9.toInt < (0 : Int) := fun q => c_46 ((fa_lt _ _).mpr q)
            refine lv_aload_n hx hb dX12_keys_46 rfl (lv_at hl 3 rfl) ?_
            refine lv_iload hx hb dX12_keys_47 (lv_at hl 0 rfl) ?_
            refine z_Vi (bc := [[zO11 mo m_all m_has i_size i_next i_where i_token i_number i_word i_wrong i_farCrossing m_read 610 j_crossings_2 j_inns_3 m_posts m_shut m_here xsteps xdone xat xgone m_was m_came m_seenAt m_rowWorth m_farBy m_used i_everywhere i_again0 i_d0 i_never i_firstCame i_longRun i_moved i_crowd i_l0 i_fitMany i_fitLeast i_fitMost m_fitPost m_fitEnd m_keptPosts i_x0], [zAr T 0 m_all 3952 f_all]]) (br := [[zAr T 0 m_here 7 xhere], [zAr T 0 m_posts 7 xposts], [zAr T 0 m_shut 7 xshut], [zAr T 0 m_was 7 xwas]]) (As := [.int c9]) (rest := []) C G (c_fm_roads5 l T mo m_all m_has i_size i_next i_where i_token i_number i_word i_wrong i_farCrossing m_read 610 j_crossings_2 j_inns_3 m_posts m_shut m_here xsteps xdone xat xgone m_was m_came m_seenAt m_rowWorth m_farBy m_used i_everywhere i_again0 i_d0 i_never i_firstCame i_longRun i_moved i_crowd i_l0 i_fitMany i_fitLeast i_fitMost m_fitPost m_fitEnd m_keptPosts i_x0 f_all c9 (by first | with_reducible assumption | with_reducible rfl | omega | assumption | rfl) (by first | with_reducible assumption | with_reducible rfl | omega | assumption | rfl) (by first | with_reducible assumption | with_reducible rfl | omega | assumption | rfl)) (kV_RX12_255 C.2.2.2.2 (Nat.le_of_ble_eq_true rfl) (Nat.le_of_ble_eq_true rfl)) [1, 2] [1, 0] rfl rfl (ci := 11) (qc := (RX12, TX12, 43)) rfl rfl (List.mem_flatten.mpr ⟨_, List.mem_of_getElem? (i := 0) rfl, List.mem_cons_self⟩) rfl rfl hl.1 dX12_keys_49 (Nat.le_of_ble_eq_true rfl) (Nat.le_of_ble_eq_true rfl) (fun r_51 b1 H locs hw G => ?_)
            refine zAn4 hw ?_
            intro hbs9 h_48 h_49 h_50
            clear hw
            subst hbs9
            have G : zS T A s.heap s [[zAr T 0 m_here 7 xhere], [zAr T 0 m_posts 7 xposts], [zAr T 0 m_shut 7 xshut], [zAr T 0 m_was 7 xwas], [zO11 mo m_all m_has i_size i_next i_where i_token i_number i_word i_wrong i_farCrossing m_read 610 j_crossings_2 j_inns_3 m_posts m_shut m_here xsteps xdone xat xgone m_was m_came m_seenAt m_rowWorth m_farBy m_used i_everywhere i_again0 i_d0 i_never i_firstCame i_longRun i_moved i_crowd i_l0 i_fitMany i_fitLeast i_fitMost m_fitPost m_fitEnd m_keptPosts i_x0], [zAr T 0 m_all 3952 f_all]] _ _ := G
            have hwe : r_51 = zWo f_all 610 j_inns_3 c9.toInt.toNat := h_50
            refine lv_iconst (v := 1) hx hb dX12_keys_52 (by decide) ?_
            refine lv_isub hx hb dX12_keys_53 ?_
            refine lv_topi (fun y_52 ey_52 => ?_)
            have ey_52i : y_52.toInt = r_51.toInt - (1 : Int) := by rw [ey_52]; exact z_isubI (x := r_51) (y := (1 : Int32)) (by show -2147483648 ≤ r_51.toInt - (1 : Int); omega) (by show r_51.toInt - (1 : Int) < 2147483648; omega)
            refine lv_istore (lv' := [(7, .int y_52), (6, .int c9), (5, .int b9), (4, .int u), (0, .ref mo), (1, .int l_), (2, .int c_), (3, .int u_)]) hx hb dX12_keys_54 hl (by decide) (zLvf_h rfl) (fun ls hl => ?_)
            refine z_lp11 (T := T) 56 (fun (k9 : Int32) (u2 : Int32) (d9 : Int32) (yat : Int32) (ygone : Int32) (ysteps : Int32) (ydone : Int32) (yposts : Nat → Int32) (ywas : Nat → Int32) (yshut : Nat → Int32) (yhere : Nat → Int32) => [[zAr T 0 m_here 7 yhere], [zAr T 0 m_posts 7 yposts], [zAr T 0 m_shut 7 yshut], [zAr T 0 m_was 7 ywas], [zO11 mo m_all m_has i_size i_next i_where i_token i_number i_word i_wrong i_farCrossing m_read 610 j_crossings_2 j_inns_3 m_posts m_shut m_here ysteps ydone yat ygone m_was m_came m_seenAt m_rowWorth m_farBy m_used i_everywhere i_again0 i_d0 i_never i_firstCame i_longRun i_moved i_crowd i_l0 i_fitMany i_fitLeast i_fitMost m_fitPost m_fitEnd m_keptPosts i_x0], [zAr T 0 m_all 3952 f_all]]) (fun (k9 : Int32) (u2 : Int32) (d9 : Int32) (yat : Int32) (ygone : Int32) (ysteps : Int32) (ydone : Int32) (yposts : Nat → Int32) (ywas : Nat → Int32) (yshut : Nat → Int32) (yhere : Nat → Int32) => [(7, .int k9), (6, .int c9), (5, .int d9), (4, .int u2), (0, .ref mo), (1, .int l_), (2, .int c_), (3, .int u_)]) (fun (k9 : Int32) (u2 : Int32) (d9 : Int32) (yat : Int32) (ygone : Int32) (ysteps : Int32) (ydone : Int32) (yposts : Nat → Int32) (ywas : Nat → Int32) (yshut : Nat → Int32) (yhere : Nat → Int32) => -1 ≤ k9.toInt ∧ k9.toInt < (zWo f_all 610 j_inns_3 c9.toInt.toNat).toInt ∧ zMP yposts ∧ 0 ≤ u2.toInt ∧ zKI (zKb j_inns_3 (zWcr j_crossings_2 (zWo f_all 610 j_inns_3)) (zWo f_all 610 j_inns_3) (zLo f_all 610) (zPo f_all 610) c_) (4 * c9.toInt.toNat + (k9.toInt + 1).toNat) u2 d9) (fun (k9 : Int32) (u2 : Int32) (d9 : Int32) (yat : Int32) (ygone : Int32) (ysteps : Int32) (ydone : Int32) (yposts : Nat → Int32) (ywas : Nat → Int32) (yshut : Nat → Int32) (yhere : Nat → Int32) => (k9.toInt + 1).toNat) ?_ y_52 u b9 xat xgone xsteps xdone xposts xwas xshut xhere (show -1 ≤ y_52.toInt ∧ y_52.toInt < (zWo f_all 610 j_inns_3 c9.toInt.toNat).toInt ∧ zMP xposts ∧ 0 ≤ u.toInt ∧ zKI (zKb j_inns_3 (zWcr j_crossings_2 (zWo f_all 610 j_inns_3)) (zWo f_all 610 j_inns_3) (zLo f_all 610) (zPo f_all 610) c_) (4 * c9.toInt.toNat + (y_52.toInt + 1).toNat) u b9 from ⟨by omega, (by rw [← hwe]; omega), hQ, hu0, (zKI_s (by omega) (fun t h1 h2 => zKb_z (by rw [show t / 4 = c9.toInt.toNat by omega, zWcr_y (by omega), ← hwe]; omega)) hKI)⟩) G (lv_sub hl [0, 1, 2, 3, 4, 5, 6, 7] rfl)
            intro k9 u2 d9 yat ygone ysteps ydone yposts ywas yshut yhere hI9 ih_56 H locs ls G hl
            replace hI9 : -1 ≤ k9.toInt ∧ k9.toInt < (zWo f_all 610 j_inns_3 c9.toInt.toNat).toInt ∧ zMP yposts ∧ 0 ≤ u2.toInt ∧ zKI (zKb j_inns_3 (zWcr j_crossings_2 (zWo f_all 610 j_inns_3)) (zWo f_all 610 j_inns_3) (zLo f_all 610) (zPo f_all 610) c_) (4 * c9.toInt.toNat + (k9.toInt + 1).toNat) u2 d9 := hI9
            refine zAn5 hI9 ?_
            intro hk1 hk9 hQ2 hu2 hKJ
            clear hI9
            replace G : zS T A s.heap s [[zAr T 0 m_here 7 yhere], [zAr T 0 m_posts 7 yposts], [zAr T 0 m_shut 7 yshut], [zAr T 0 m_was 7 ywas], [zO11 mo m_all m_has i_size i_next i_where i_token i_number i_word i_wrong i_farCrossing m_read 610 j_crossings_2 j_inns_3 m_posts m_shut m_here ysteps ydone yat ygone m_was m_came m_seenAt m_rowWorth m_farBy m_used i_everywhere i_again0 i_d0 i_never i_firstCame i_longRun i_moved i_crowd i_l0 i_fitMany i_fitLeast i_fitMost m_fitPost m_fitEnd m_keptPosts i_x0], [zAr T 0 m_all 3952 f_all]] _ _ := G
            replace hl : lv_has ls 8 [(7, .int k9), (6, .int c9), (5, .int d9), (4, .int u2), (0, .ref mo), (1, .int l_), (2, .int c_), (3, .int u_)] := hl
            refine lv_iload hx hb dX12_keys_56 (lv_at hl 0 rfl) ?_
            refine lv_if_lt (tgt := 106) hx hb dX12_keys_58 (by decide) (fun c_53 => ?_) (fun c_53 => ?_)
            · have c_53n : k9.toInt < (0 : Int) := (fa_lt _ _).mp c_53
              obtain ⟨y_54, ey_54⟩ : ∃ q : Int32, q = c9 + (-1) := ⟨_, rfl⟩
              have ey_54i : y_54.toInt = c9.toInt - 1 := by rw [ey_54]; exact z_iaddI (x := c9) (y := (-1)) (by show -2147483648 ≤ c9.toInt + (-1 : Int); omega) (by show c9.toInt + (-1 : Int) < 2147483648; omega)
              refine lv_iinc (v := y_54) (lv' := [(6, .int y_54), (7, .int k9), (5, .int d9), (4, .int u2), (0, .ref mo), (1, .int l_), (2, .int c_), (3, .int u_)]) hx hb dX12_keys_106 hl (k := 1) rfl ey_54.symm (by decide) (zLvf_h rfl) (fun ls hl => ?_)
              refine lv_goto (tgt := 41) hx hb dX12_keys_109 (by decide) ?_
              have G := G.sub (bs' := [[zAr T 0 m_here 7 yhere], [zO11 mo m_all m_has i_size i_next i_where i_token i_number i_word i_wrong i_farCrossing m_read 610 j_crossings_2 j_inns_3 m_posts m_shut m_here ysteps ydone yat ygone m_was m_came m_seenAt m_rowWorth m_farBy m_used i_everywhere i_again0 i_d0 i_never i_firstCame i_longRun i_moved i_crowd i_l0 i_fitMany i_fitLeast i_fitMost m_fitPost m_fitEnd m_keptPosts i_x0], [zAr T 0 m_all 3952 f_all], [zAr T 0 m_posts 7 yposts], [zAr T 0 m_shut 7 yshut], [zAr T 0 m_was 7 ywas]]) [0, 4, 5, 1, 2, 3] rfl
              exact ih_41 y_54 u2 d9 yat ygone ysteps ydone yposts ywas yshut yhere (show -1 ≤ y_54.toInt ∧ y_54.toInt < j_crossings_2.toInt ∧ zMP yposts ∧ 0 ≤ u2.toInt ∧ zKI (zKb j_inns_3 (zWcr j_crossings_2 (zWo f_all 610 j_inns_3)) (zWo f_all 610 j_inns_3) (zLo f_all 610) (zPo f_all 610) c_) (4 * (y_54.toInt + 1).toNat) u2 d9 from ⟨by omega, by omega, hQ2, hu2, (by rw [show 4 * (y_54.toInt + 1).toNat = 4 * c9.toInt.toNat + (k9.toInt + 1).toNat by omega]; exact hKJ)⟩) (show (y_54.toInt + 1).toNat < (c9.toInt + 1).toNat from by omega) _ _ ls G (lv_sub hl [0, 2, 3, 4, 5, 6, 7] rfl)
            · have c_53n : ¬ k9.toInt < (0 : Int) := fun q => c_53 ((fa_lt _ _).mpr q)
              have hkl := Int32.toInt_lt k9
              have hu28 := zKI_28 hKJ
              have hc9e : c9 = nI c9.toInt.toNat := z_nI (by omega) (by omega)
              have hk9e : k9 = nI k9.toInt.toNat := z_nI (by omega) (by omega)
              have hk4 : k9.toInt ≤ 3 := by have q8 := (zP3_m (n := j_inns_3) hLx hPx c9.toInt.toNat (by omega)).1.2; omega
              refine lv_aload_n hx hb dX12_keys_61 rfl (lv_at hl 4 rfl) ?_
              refine z_Vv (bc := [[zO11 mo m_all m_has i_size i_next i_where i_token i_number i_word i_wrong i_farCrossing m_read 610 j_crossings_2 j_inns_3 m_posts m_shut m_here ysteps ydone yat ygone m_was m_came m_seenAt m_rowWorth m_farBy m_used i_everywhere i_again0 i_d0 i_never i_firstCame i_longRun i_moved i_crowd i_l0 i_fitMany i_fitLeast i_fitMost m_fitPost m_fitEnd m_keptPosts i_x0], [zAr T 0 m_all 3952 f_all], [zAr T 0 m_posts 7 yposts], [zAr T 0 m_shut 7 yshut], [zAr T 0 m_here 7 yhere]]) (br := [[zAr T 0 m_was 7 ywas]]) (As := []) (rest := []) C G (c_m_begins l T mo m_all m_has i_size i_next i_where i_token i_number i_word i_wrong i_farCrossing m_read 610 j_crossings_2 j_inns_3 m_posts m_shut m_here ysteps ydone yat ygone m_was m_came m_seenAt m_rowWorth m_farBy m_used i_everywhere i_again0 i_d0 i_never i_firstCame i_longRun i_moved i_crowd i_l0 i_fitMany i_fitLeast i_fitMost m_fitPost m_fitEnd m_keptPosts i_x0 f_all yposts yshut yhere (by first | with_reducible assumption | with_reducible rfl | omega | assumption | rfl)) (kV_RX12_175 C.2.2.2.2 (Nat.le_of_ble_eq_true rfl) (Nat.le_of_ble_eq_true rfl)) [4, 5, 1, 2, 0] [0, 0, 0, 1, 0] rfl rfl (ci := 11) (qc := (RX12, TX12, 43)) rfl rfl (List.mem_flatten.mpr ⟨_, List.mem_of_getElem? (i := 0) rfl, List.mem_cons_self⟩) rfl rfl hl.1 dX12_keys_62 (Nat.le_of_ble_eq_true rfl) (Nat.le_of_ble_eq_true rfl) (fun b1 H locs hw G => ?_)
              refine zEx5 hw ?_
              intro j_steps_55 j_done_56 g_posts_57 g_shut_58 g_here_59
              refine zCu7 ?_
              intro hbs9 h_60 h_61 h_62 h_63 h_64 h_65
              clear hw
              subst hbs9
              have G : zS T A s.heap s [[zAr T 0 m_was 7 ywas], [zO11 mo m_all m_has i_size i_next i_where i_token i_number i_word i_wrong i_farCrossing m_read 610 j_crossings_2 j_inns_3 m_posts m_shut m_here j_steps_55 j_done_56 yat ygone m_was m_came m_seenAt m_rowWorth m_farBy m_used i_everywhere i_again0 i_d0 i_never i_firstCame i_longRun i_moved i_crowd i_l0 i_fitMany i_fitLeast i_fitMost m_fitPost m_fitEnd m_keptPosts i_x0], [zAr T 0 m_all 3952 f_all], [zAr T 0 m_posts 7 g_posts_57], [zAr T 0 m_shut 7 g_shut_58], [zAr T 0 m_here 7 g_here_59]] _ _ := G
              refine lv_aload_n hx hb dX12_keys_65 rfl (lv_at hl 4 rfl) ?_
              refine z_get C G clX12 1 rfl 15 (by decide) m_fl_RX12_23 rfl dX12_keys_66 ?_
              refine lv_iload hx hb dX12_keys_69 (lv_at hl 1 rfl) ?_
              refine lv_iconst (v := 1) hx hb dX12_keys_71 (by decide) ?_
              refine lv_iload hx hb dX12_keys_72 (lv_at hl 0 rfl) ?_
              refine lv_ishl hx hb dX12_keys_74 ?_
              refine z_ist C G 4 rfl (vp_in_iff.mpr ⟨by omega, by omega⟩) dX12_keys_75 (fun H locs G => ?_)
              have G : zS T A s.heap s [[zAr T 0 m_was 7 ywas], [zO11 mo m_all m_has i_size i_next i_where i_token i_number i_word i_wrong i_farCrossing m_read 610 j_crossings_2 j_inns_3 m_posts m_shut m_here j_steps_55 j_done_56 yat ygone m_was m_came m_seenAt m_rowWorth m_farBy m_used i_everywhere i_again0 i_d0 i_never i_firstCame i_longRun i_moved i_crowd i_l0 i_fitMany i_fitLeast i_fitMost m_fitPost m_fitEnd m_keptPosts i_x0], [zAr T 0 m_all 3952 f_all], [zAr T 0 m_posts 7 g_posts_57], [zAr T 0 m_shut 7 (upd g_shut_58 c9.toNatClampNeg (1 <<< (k9 &&& 31)))], [zAr T 0 m_here 7 g_here_59]] _ _ := G
              refine lv_aload_n hx hb dX12_keys_76 rfl (lv_at hl 4 rfl) ?_
              refine lv_iload_n hx hb dX12_keys_77 rfl (lv_at hl 6 rfl) ?_
              refine z_Vi (bc := [[zO11 mo m_all m_has i_size i_next i_where i_token i_number i_word i_wrong i_farCrossing m_read 610 j_crossings_2 j_inns_3 m_posts m_shut m_here j_steps_55 j_done_56 yat ygone m_was m_came m_seenAt m_rowWorth m_farBy m_used i_everywhere i_again0 i_d0 i_never i_firstCame i_longRun i_moved i_crowd i_l0 i_fitMany i_fitLeast i_fitMost m_fitPost m_fitEnd m_keptPosts i_x0], [zAr T 0 m_all 3952 f_all], [zAr T 0 m_posts 7 g_posts_57], [zAr T 0 m_shut 7 (upd g_shut_58 c9.toNatClampNeg (1 <<< (k9 &&& 31)))], [zAr T 0 m_was 7 ywas]]) (br := [[zAr T 0 m_here 7 g_here_59]]) (As := [.int c_]) (rest := []) C G (c_fm_walks l T mo m_all m_has i_size i_next i_where i_token i_number i_word i_wrong i_farCrossing m_read 610 j_crossings_2 j_inns_3 m_posts m_shut m_here j_steps_55 j_done_56 yat ygone m_was m_came m_seenAt m_rowWorth m_farBy m_used i_everywhere i_again0 i_d0 i_never i_firstCame i_longRun i_moved i_crowd i_l0 i_fitMany i_fitLeast i_fitMost m_fitPost m_fitEnd m_keptPosts i_x0 f_all g_posts_57 (upd g_shut_58 c9.toNatClampNeg (1 <<< (k9 &&& 31))) ywas c_ (by first | with_reducible assumption | with_reducible rfl | omega | assumption | rfl) (by first | with_reducible assumption | with_reducible rfl | omega | assumption | rfl) (by first | with_reducible assumption | with_reducible rfl | omega | assumption | rfl) (zVA_z hVA hzx h_62) h_65) (kV_RX12_217 C.2.2.2.2 (Nat.le_of_ble_eq_true rfl) (Nat.le_of_ble_eq_true rfl)) [1, 2, 3, 4, 0] [0, 0, 0, 0, 0] rfl rfl (ci := 11) (qc := (RX12, TX12, 43)) rfl rfl (List.mem_flatten.mpr ⟨_, List.mem_of_getElem? (i := 0) rfl, List.mem_cons_self⟩) rfl rfl hl.1 dX12_keys_78 (Nat.le_of_ble_eq_true rfl) (Nat.le_of_ble_eq_true rfl) (fun r_81 b1 H locs hw G => ?_)
              refine zEx4 hw ?_
              intro j_at_67 j_gone_68 g_posts_69 g_was_70
              refine zCu11 ?_
              intro hbs9 h_71 h_72 h_73 h_74 h_75 h_76 h_77 h_78 h_79 h_80
              clear hw
              subst hbs9
              have G : zS T A s.heap s [[zAr T 0 m_here 7 g_here_59], [zO11 mo m_all m_has i_size i_next i_where i_token i_number i_word i_wrong i_farCrossing m_read 610 j_crossings_2 j_inns_3 m_posts m_shut m_here j_steps_55 j_done_56 j_at_67 j_gone_68 m_was m_came m_seenAt m_rowWorth m_farBy m_used i_everywhere i_again0 i_d0 i_never i_firstCame i_longRun i_moved i_crowd i_l0 i_fitMany i_fitLeast i_fitMost m_fitPost m_fitEnd m_keptPosts i_x0], [zAr T 0 m_all 3952 f_all], [zAr T 0 m_posts 7 g_posts_69], [zAr T 0 m_shut 7 (upd g_shut_58 c9.toNatClampNeg (1 <<< (k9 &&& 31)))], [zAr T 0 m_was 7 g_was_70]] _ _ := G
              replace h_76 : zHd ((r_81 = 1 ∧ zBit j_inns_3 j_at_67 = 1 ∨ r_81 = 0 ∧ ¬ zBit j_inns_3 j_at_67 = 1)) := h_76
              have hke : j_at_67 = zKeyAt (kSh (nI c9.toInt.toNat) (nI k9.toInt.toNat)) (zWo f_all 610 j_inns_3) (zLo f_all 610) (zPo f_all 610) c_ := by rw [h_78]; exact congrArg (fun q : Int32 × Nat => q.1) (zRunN_cg (fun j hj => zSh_m h_63 hc9e hk9e j hj) (fun _ _ => rfl) zLs_rf 499 _ _ c_ 0 (zP3_m hLx h_65) (zPt_o h_62)).2
              refine lv_if_eq (tgt := 87) hx hb dX12_keys_81 (by decide) (fun c_82 => ?_) (fun c_82 => ?_)
              · have c_82n : r_81.toInt = (0 : Int) := (fa_eq _ _).mp c_82
                have hka := zKb_t (V := (zWcr j_crossings_2 (zWo f_all 610 j_inns_3))) (W := zWo f_all 610 j_inns_3) (c := c9.toInt.toNat) (r := k9.toInt.toNat) (by omega) (by rw [zWcr_y (by omega)]; omega) (by rw [← hke]; exact (h_76.resolve_left (fun q8 => by have e8 : r_81.toInt = 1 := (by rw [q8.1]; rfl); omega)).2)
                obtain ⟨y_83, ey_83⟩ : ∃ q : Int32, q = u2 + 1 := ⟨_, rfl⟩
                have ey_83i : y_83.toInt = u2.toInt + 1 := by rw [ey_83]; exact z_iaddI (x := u2) (y := 1) (by show -2147483648 ≤ u2.toInt + (1 : Int); omega) (by show u2.toInt + (1 : Int) < 2147483648; omega)
                refine lv_iinc (v := y_83) (lv' := [(4, .int y_83), (7, .int k9), (6, .int c9), (5, .int d9), (0, .ref mo), (1, .int l_), (2, .int c_), (3, .int u_)]) hx hb dX12_keys_87 hl (k := 3) rfl ey_83.symm (by decide) (zLvf_h rfl) (fun ls hl => ?_)
                refine lv_bipush (v := 10) hx hb dX12_keys_90 (by decide) ?_
                refine lv_iload hx hb dX12_keys_92 (lv_at hl 2 rfl) ?_
                refine lv_imul hx hb dX12_keys_94 ?_
                refine lv_topi (fun y_84 ey_84 => ?_)
                have ey_84i : y_84.toInt = (10 : Int) * c9.toInt := by rw [ey_84]; exact z_imulI (x := (10 : Int32)) (y := c9) (by show -2147483648 ≤ (10 : Int) * c9.toInt; omega) (by show (10 : Int) * c9.toInt < 2147483648; omega)
                refine lv_iload hx hb dX12_keys_95 (lv_at hl 1 rfl) ?_
                refine lv_iadd hx hb dX12_keys_97 ?_
                refine lv_topi (fun y_85 ey_85 => ?_)
                have ey_85i : y_85.toInt = y_84.toInt + k9.toInt := by rw [ey_85]; exact z_iaddI (x := y_84) (y := k9) (by show -2147483648 ≤ y_84.toInt + k9.toInt; omega) (by show y_84.toInt + k9.toInt < 2147483648; omega)
                refine lv_istore (lv' := [(5, .int y_85), (4, .int y_83), (7, .int k9), (6, .int c9), (0, .ref mo), (1, .int l_), (2, .int c_), (3, .int u_)]) hx hb dX12_keys_98 hl (by decide) (zLvf_h rfl) (fun ls hl => ?_)
                obtain ⟨y_86, ey_86⟩ : ∃ q : Int32, q = k9 + (-1) := ⟨_, rfl⟩
                have ey_86i : y_86.toInt = k9.toInt - 1 := by rw [ey_86]; exact z_iaddI (x := k9) (y := (-1)) (by show -2147483648 ≤ k9.toInt + (-1 : Int); omega) (by show k9.toInt + (-1 : Int) < 2147483648; omega)
                refine lv_iinc (v := y_86) (lv' := [(7, .int y_86), (5, .int y_85), (4, .int y_83), (6, .int c9), (0, .ref mo), (1, .int l_), (2, .int c_), (3, .int u_)]) hx hb dX12_keys_100 hl (k := 2) rfl ey_86.symm (by decide) (zLvf_h rfl) (fun ls hl => ?_)
                refine lv_goto (tgt := 56) hx hb dX12_keys_103 (by decide) ?_
                have G := G.sub (bs' := [[zAr T 0 m_here 7 g_here_59], [zAr T 0 m_posts 7 g_posts_69], [zAr T 0 m_shut 7 (upd g_shut_58 c9.toNatClampNeg (1 <<< (k9 &&& 31)))], [zAr T 0 m_was 7 g_was_70], [zO11 mo m_all m_has i_size i_next i_where i_token i_number i_word i_wrong i_farCrossing m_read 610 j_crossings_2 j_inns_3 m_posts m_shut m_here j_steps_55 j_done_56 j_at_67 j_gone_68 m_was m_came m_seenAt m_rowWorth m_farBy m_used i_everywhere i_again0 i_d0 i_never i_firstCame i_longRun i_moved i_crowd i_l0 i_fitMany i_fitLeast i_fitMost m_fitPost m_fitEnd m_keptPosts i_x0], [zAr T 0 m_all 3952 f_all]]) [0, 3, 4, 5, 1, 2] rfl
                exact ih_56 y_86 y_83 y_85 j_at_67 j_gone_68 j_steps_55 j_done_56 g_posts_69 g_was_70 (upd g_shut_58 c9.toNatClampNeg (1 <<< (k9 &&& 31))) g_here_59 (show -1 ≤ y_86.toInt ∧ y_86.toInt < (zWo f_all 610 j_inns_3 c9.toInt.toNat).toInt ∧ zMP g_posts_69 ∧ 0 ≤ y_83.toInt ∧ zKI (zKb j_inns_3 (zWcr j_crossings_2 (zWo f_all 610 j_inns_3)) (zWo f_all 610 j_inns_3) (zLo f_all 610) (zPo f_all 610) c_) (4 * c9.toInt.toNat + (y_86.toInt + 1).toNat) y_83 y_85 from ⟨by omega, (by omega), (by assumption), (by omega), (by rw [show 4 * c9.toInt.toNat + (y_86.toInt + 1).toNat = 4 * c9.toInt.toNat + k9.toInt.toNat by omega]; have q8 := zKI_y (by omega) hu2 hka (by rw [show 4 * c9.toInt.toNat + k9.toInt.toNat + 1 = 4 * c9.toInt.toNat + (k9.toInt + 1).toNat by omega]; exact hKJ); rw [show nI (10 * ((4 * c9.toInt.toNat + k9.toInt.toNat) / 4) + (4 * c9.toInt.toNat + k9.toInt.toNat) % 4) = y_85 from (z_nI (by omega) (by omega)).symm, ← ey_83] at q8; exact q8)⟩) (show (y_86.toInt + 1).toNat < (k9.toInt + 1).toNat from by omega) _ _ ls G (lv_sub hl [0, 3, 1, 2, 4, 5, 6, 7] rfl)
              · have c_82n : ¬ r_81.toInt = (0 : Int) := fun q => c_82 ((fa_eq _ _).mpr q)
                have hka := zKb_f (V := (zWcr j_crossings_2 (zWo f_all 610 j_inns_3))) (W := zWo f_all 610 j_inns_3) (c := c9.toInt.toNat) (r := k9.toInt.toNat) (by omega) (by rw [← hke]; exact (h_76.resolve_right (fun q8 => by have e8 : r_81.toInt = 0 := (by rw [q8.1]; rfl); omega)).2)
                refine lv_goto (tgt := 100) hx hb dX12_keys_84 (by decide) ?_
                obtain ⟨y_87, ey_87⟩ : ∃ q : Int32, q = k9 + (-1) := ⟨_, rfl⟩
                have ey_87i : y_87.toInt = k9.toInt - 1 := by rw [ey_87]; exact z_iaddI (x := k9) (y := (-1)) (by show -2147483648 ≤ k9.toInt + (-1 : Int); omega) (by show k9.toInt + (-1 : Int) < 2147483648; omega)
                refine lv_iinc (v := y_87) (lv' := [(7, .int y_87), (6, .int c9), (5, .int d9), (4, .int u2), (0, .ref mo), (1, .int l_), (2, .int c_), (3, .int u_)]) hx hb dX12_keys_100 hl (k := 0) rfl ey_87.symm (by decide) (zLvf_h rfl) (fun ls hl => ?_)
                refine lv_goto (tgt := 56) hx hb dX12_keys_103 (by decide) ?_
                have G := G.sub (bs' := [[zAr T 0 m_here 7 g_here_59], [zAr T 0 m_posts 7 g_posts_69], [zAr T 0 m_shut 7 (upd g_shut_58 c9.toNatClampNeg (1 <<< (k9 &&& 31)))], [zAr T 0 m_was 7 g_was_70], [zO11 mo m_all m_has i_size i_next i_where i_token i_number i_word i_wrong i_farCrossing m_read 610 j_crossings_2 j_inns_3 m_posts m_shut m_here j_steps_55 j_done_56 j_at_67 j_gone_68 m_was m_came m_seenAt m_rowWorth m_farBy m_used i_everywhere i_again0 i_d0 i_never i_firstCame i_longRun i_moved i_crowd i_l0 i_fitMany i_fitLeast i_fitMost m_fitPost m_fitEnd m_keptPosts i_x0], [zAr T 0 m_all 3952 f_all]]) [0, 3, 4, 5, 1, 2] rfl
                exact ih_56 y_87 u2 d9 j_at_67 j_gone_68 j_steps_55 j_done_56 g_posts_69 g_was_70 (upd g_shut_58 c9.toNatClampNeg (1 <<< (k9 &&& 31))) g_here_59 (show -1 ≤ y_87.toInt ∧ y_87.toInt < (zWo f_all 610 j_inns_3 c9.toInt.toNat).toInt ∧ zMP g_posts_69 ∧ 0 ≤ u2.toInt ∧ zKI (zKb j_inns_3 (zWcr j_crossings_2 (zWo f_all 610 j_inns_3)) (zWo f_all 610 j_inns_3) (zLo f_all 610) (zPo f_all 610) c_) (4 * c9.toInt.toNat + (y_87.toInt + 1).toNat) u2 d9 from ⟨by omega, (by omega), (by assumption), hu2, (by rw [show 4 * c9.toInt.toNat + (y_87.toInt + 1).toNat = 4 * c9.toInt.toNat + k9.toInt.toNat by omega]; exact zKI_n hka (by rw [show 4 * c9.toInt.toNat + k9.toInt.toNat + 1 = 4 * c9.toInt.toNat + (k9.toInt + 1).toNat by omega]; exact hKJ))⟩) (show (y_87.toInt + 1).toNat < (k9.toInt + 1).toNat from by omega) _ _ ls G (lv_sub hl [0, 1, 2, 3, 4, 5, 6, 7] rfl)
        · have c_44n : r_43.toInt = (0 : Int) := (fa_eq _ _).mp c_44
          refine lv_bipush (v := (-2)) hx hb dX12_keys_24 (by decide) ?_
          have G := G.sub (bs' := [[zO11 mo m_all m_has i_size i_next i_where i_token i_number i_word i_wrong i_farCrossing m_read 610 j_crossings_2 j_inns_3 m_posts m_shut m_here j_steps_4 j_done_5 j_at_29 j_gone_30 m_was m_came m_seenAt m_rowWorth m_farBy m_used i_everywhere i_again0 i_d0 i_never i_firstCame i_longRun i_moved i_crowd i_l0 i_fitMany i_fitLeast i_fitMost m_fitPost m_fitEnd m_keptPosts i_x0], [zAr T 0 m_all 3952 f_all], [zAr T 0 m_posts 7 g_posts_31], [zAr T 0 m_shut 7 g_shut_7], [zAr T 0 m_here 7 g_here_8], [zAr T 0 m_was 7 g_was_32]]) [1, 2, 3, 4, 0, 5] rfl
          exact z_back hQ9 (z_iret C hr hlocks G (Nat.le_of_ble_eq_true rfl) (Nat.le_of_ble_eq_true rfl) dX12_keys_26 ⟨610, j_crossings_2, j_inns_3, j_steps_4, j_done_5, j_at_29, j_gone_30, g_posts_31, g_shut_7, g_here_8, g_was_32, rfl, (Or.inr (Or.inl ⟨by assumption, by omega, (by unfold pKeys; rw [show pW f_all 610 = zWo f_all 610 j_inns_3 from congrArg (zWo f_all 610) h_17.symm, show f_all ((610 : Int32).toInt.toNat + 1) = j_inns_3 from h_17.symm, if_neg (fun q8 => by have q7 := q8.1; have q7 : 0 ≤ c_.toInt ∧ c_.toInt < (f_all 610).toInt := q7; have q6 := q8.2; first | omega | (rcases hr1 with ⟨e9, b9⟩ | ⟨e9, b9⟩ <;> first | (exfalso; omega) | exact b9 q6))])⟩))⟩)
      · have h_28 : (c_.toInt < 0 ∨ j_crossings_2.toInt ≤ c_.toInt) := h_28
        refine lv_if_eq (tgt := 24) hx hb dX12_keys_13 (by decide) (fun _ => ?_) (fun q => absurd (by decide) q)
        refine lv_bipush (v := (-2)) hx hb dX12_keys_24 (by decide) ?_
        have G := G.sub (bs' := [[zO11 mo m_all m_has i_size i_next i_where i_token i_number i_word i_wrong i_farCrossing m_read 610 j_crossings_2 j_inns_3 m_posts m_shut m_here j_steps_4 j_done_5 i_at i_gone m_was m_came m_seenAt m_rowWorth m_farBy m_used i_everywhere i_again0 i_d0 i_never i_firstCame i_longRun i_moved i_crowd i_l0 i_fitMany i_fitLeast i_fitMost m_fitPost m_fitEnd m_keptPosts i_x0], [zAr T 0 m_all 3952 f_all], [zAr T 0 m_posts 7 g_posts_6], [zAr T 0 m_shut 7 g_shut_7], [zAr T 0 m_here 7 g_here_8], [zAr T 0 m_was 7 f_was]]) [5, 1, 2, 3, 4, 0] rfl
        exact z_back hQ9 (z_iret C hr hlocks G (Nat.le_of_ble_eq_true rfl) (Nat.le_of_ble_eq_true rfl) dX12_keys_26 ⟨610, j_crossings_2, j_inns_3, j_steps_4, j_done_5, i_at, i_gone, g_posts_6, g_shut_7, g_here_8, f_was, rfl, (Or.inr (Or.inl ⟨by assumption, by omega, (by unfold pKeys; rw [show pW f_all 610 = zWo f_all 610 j_inns_3 from congrArg (zWo f_all 610) h_17.symm, show f_all ((610 : Int32).toInt.toNat + 1) = j_inns_3 from h_17.symm, if_neg (fun q8 => by have q7 := q8.1; have q7 : 0 ≤ c_.toInt ∧ c_.toInt < (f_all 610).toInt := q7; have q6 := q8.2; first | omega | (rcases hr1 with ⟨e9, b9⟩ | ⟨e9, b9⟩ <;> first | (exfalso; omega) | exact b9 q6))])⟩))⟩)
    · obtain rfl : j_z0_1 = 661 := Int32.toInt_inj.mp (by show j_z0_1.toInt = 661; omega)
      have hcx : j_crossings_2.toInt = (f_all 661).toInt := by rw [hLx.2.1]; rfl
      have hQP : zP3 g_posts_6 (zWo f_all 661 j_inns_3) := zP3_m hLx hPx
      refine lv_aload_n hx hb dX12_keys_8 rfl (lv_at hl 0 rfl) ?_
      refine lv_iload_n hx hb dX12_keys_9 rfl (lv_at hl 2 rfl) ?_
      refine z_Vi (bc := [[zO11 mo m_all m_has i_size i_next i_where i_token i_number i_word i_wrong i_farCrossing m_read 661 j_crossings_2 j_inns_3 m_posts m_shut m_here j_steps_4 j_done_5 i_at i_gone m_was m_came m_seenAt m_rowWorth m_farBy m_used i_everywhere i_again0 i_d0 i_never i_firstCame i_longRun i_moved i_crowd i_l0 i_fitMany i_fitLeast i_fitMost m_fitPost m_fitEnd m_keptPosts i_x0]]) (br := [[zAr T 0 m_was 7 f_was], [zAr T 0 m_all 3952 f_all], [zAr T 0 m_posts 7 g_posts_6], [zAr T 0 m_shut 7 g_shut_7], [zAr T 0 m_here 7 g_here_8]]) (As := [.int c_]) (rest := []) C G (c_m_isCrossing l T mo m_all m_has i_size i_next i_where i_token i_number i_word i_wrong i_farCrossing m_read 661 j_crossings_2 j_inns_3 m_posts m_shut m_here j_steps_4 j_done_5 i_at i_gone m_was m_came m_seenAt m_rowWorth m_farBy m_used i_everywhere i_again0 i_d0 i_never i_firstCame i_longRun i_moved i_crowd i_l0 i_fitMany i_fitLeast i_fitMost m_fitPost m_fitEnd m_keptPosts i_x0 c_ (by first | with_reducible assumption | with_reducible rfl | omega | assumption | rfl)) (kV_RX12_187 C.2.2.2.2 (Nat.le_of_ble_eq_true rfl) (Nat.le_of_ble_eq_true rfl)) [1] [1] rfl rfl (ci := 11) (qc := (RX12, TX12, 43)) rfl rfl (List.mem_flatten.mpr ⟨_, List.mem_of_getElem? (i := 0) rfl, List.mem_cons_self⟩) rfl rfl hl.1 dX12_keys_10 (Nat.le_of_ble_eq_true rfl) (Nat.le_of_ble_eq_true rfl) (fun r_89 b1 H locs hw G => ?_)
      refine zAn2 hw ?_
      intro hbs9 hc_88
      clear hw
      subst hbs9
      have G : zS T A s.heap s [[zAr T 0 m_was 7 f_was], [zAr T 0 m_all 3952 f_all], [zAr T 0 m_posts 7 g_posts_6], [zAr T 0 m_shut 7 g_shut_7], [zAr T 0 m_here 7 g_here_8], [zO11 mo m_all m_has i_size i_next i_where i_token i_number i_word i_wrong i_farCrossing m_read 661 j_crossings_2 j_inns_3 m_posts m_shut m_here j_steps_4 j_done_5 i_at i_gone m_was m_came m_seenAt m_rowWorth m_farBy m_used i_everywhere i_again0 i_d0 i_never i_firstCame i_longRun i_moved i_crowd i_l0 i_fitMany i_fitLeast i_fitMost m_fitPost m_fitEnd m_keptPosts i_x0]] _ _ := G
      rcases hc_88 with ⟨rfl, h_90, h_91⟩ | ⟨rfl, h_92⟩
      · have h_90 : 0 ≤ c_.toInt := h_90
        have h_91 : c_.toInt < j_crossings_2.toInt := h_91
        refine lv_if_eq (tgt := 24) hx hb dX12_keys_13 (by decide) (fun q => absurd q (by decide)) (fun _ => ?_)
        refine lv_aload_n hx hb dX12_keys_16 rfl (lv_at hl 0 rfl) ?_
        refine lv_iload_n hx hb dX12_keys_17 rfl (lv_at hl 2 rfl) ?_
        refine z_Vi (bc := [[zO11 mo m_all m_has i_size i_next i_where i_token i_number i_word i_wrong i_farCrossing m_read 661 j_crossings_2 j_inns_3 m_posts m_shut m_here j_steps_4 j_done_5 i_at i_gone m_was m_came m_seenAt m_rowWorth m_farBy m_used i_everywhere i_again0 i_d0 i_never i_firstCame i_longRun i_moved i_crowd i_l0 i_fitMany i_fitLeast i_fitMost m_fitPost m_fitEnd m_keptPosts i_x0], [zAr T 0 m_all 3952 f_all], [zAr T 0 m_posts 7 g_posts_6], [zAr T 0 m_shut 7 g_shut_7], [zAr T 0 m_was 7 f_was]]) (br := [[zAr T 0 m_here 7 g_here_8]]) (As := [.int c_]) (rest := []) C G (c_fm_walks l T mo m_all m_has i_size i_next i_where i_token i_number i_word i_wrong i_farCrossing m_read 661 j_crossings_2 j_inns_3 m_posts m_shut m_here j_steps_4 j_done_5 i_at i_gone m_was m_came m_seenAt m_rowWorth m_farBy m_used i_everywhere i_again0 i_d0 i_never i_firstCame i_longRun i_moved i_crowd i_l0 i_fitMany i_fitLeast i_fitMost m_fitPost m_fitEnd m_keptPosts i_x0 f_all g_posts_6 g_shut_7 f_was c_ (by first | with_reducible assumption | with_reducible rfl | omega | assumption | rfl) (by first | with_reducible assumption | with_reducible rfl | omega | assumption | rfl) (by first | with_reducible assumption | with_reducible rfl | omega | assumption | rfl) (by first | with_reducible assumption | with_reducible rfl | omega | assumption | rfl) (by first | with_reducible assumption | with_reducible rfl | omega | assumption | rfl)) (kV_RX12_217 C.2.2.2.2 (Nat.le_of_ble_eq_true rfl) (Nat.le_of_ble_eq_true rfl)) [5, 1, 2, 3, 0] [0, 0, 0, 0, 1] rfl rfl (ci := 11) (qc := (RX12, TX12, 43)) rfl rfl (List.mem_flatten.mpr ⟨_, List.mem_of_getElem? (i := 0) rfl, List.mem_cons_self⟩) rfl rfl hl.1 dX12_keys_18 (Nat.le_of_ble_eq_true rfl) (Nat.le_of_ble_eq_true rfl) (fun r_107 b1 H locs hw G => ?_)
        refine zEx4 hw ?_
        intro j_at_93 j_gone_94 g_posts_95 g_was_96
        refine zCu11 ?_
        intro hbs9 h_97 h_98 h_99 h_100 h_101 h_102 h_103 h_104 h_105 h_106
        clear hw
        subst hbs9
        have G : zS T A s.heap s [[zAr T 0 m_here 7 g_here_8], [zO11 mo m_all m_has i_size i_next i_where i_token i_number i_word i_wrong i_farCrossing m_read 661 j_crossings_2 j_inns_3 m_posts m_shut m_here j_steps_4 j_done_5 j_at_93 j_gone_94 m_was m_came m_seenAt m_rowWorth m_farBy m_used i_everywhere i_again0 i_d0 i_never i_firstCame i_longRun i_moved i_crowd i_l0 i_fitMany i_fitLeast i_fitMost m_fitPost m_fitEnd m_keptPosts i_x0], [zAr T 0 m_all 3952 f_all], [zAr T 0 m_posts 7 g_posts_95], [zAr T 0 m_shut 7 g_shut_7], [zAr T 0 m_was 7 g_was_96]] _ _ := G
        replace h_102 : zHd ((r_107 = 1 ∧ zBit j_inns_3 j_at_93 = 1 ∨ r_107 = 0 ∧ ¬ zBit j_inns_3 j_at_93 = 1)) := h_102
        have hr1 : r_107.toInt = 1 ∧ zBit j_inns_3 j_at_93 = 1 ∨ r_107.toInt = 0 ∧ ¬ zBit j_inns_3 j_at_93 = 1 := by rcases h_102 with ⟨e9, b9⟩ | ⟨e9, b9⟩ <;> first | exact Or.inl ⟨by rw [e9]; rfl, b9⟩ | exact Or.inr ⟨by rw [e9]; rfl, b9⟩
        have hk0 : j_at_93 = zKeyAt zS0 (zWo f_all 661 j_inns_3) (zLo f_all 661) (zPo f_all 661) c_ := by rw [h_104]; exact congrArg (fun q : Int32 × Nat => q.1) (zRunN_cg h_21 (fun _ _ => rfl) zLs_rf 499 _ _ c_ 0 hQP (zPt_o h_20)).2
        rw [hk0] at hr1
        refine lv_if_ne (tgt := 27) hx hb dX12_keys_21 (by decide) (fun c_108 => ?_) (fun c_108 => ?_)
        · have c_108n : ¬ r_107.toInt = (0 : Int) := fun q => c_108 ((fa_eq _ _).mpr q)
          refine lv_iconst (v := 0) hx hb dX12_keys_27 (by decide) ?_
          refine lv_istore (lv' := [(4, .int 0), (0, .ref mo), (1, .int l_), (2, .int c_), (3, .int u_)]) hx hb dX12_keys_28 hl (by decide) (zLvf_h rfl) (fun ls hl => ?_)
          refine lv_iconst (v := (-1)) hx hb dX12_keys_30 (by decide) ?_
          refine lv_istore (lv' := [(5, .int (-1)), (4, .int 0), (0, .ref mo), (1, .int l_), (2, .int c_), (3, .int u_)]) hx hb dX12_keys_31 hl (by decide) (zLvf_h rfl) (fun ls hl => ?_)
          refine lv_aload_n hx hb dX12_keys_33 rfl (lv_at hl 2 rfl) ?_
          refine z_get C G clX12 1 rfl 12 (by decide) m_fl_RX12_169 rfl dX12_keys_34 ?_
          refine lv_iconst (v := 1) hx hb dX12_keys_37 (by decide) ?_
          refine lv_isub hx hb dX12_keys_38 ?_
          refine lv_topi (fun y_109 ey_109 => ?_)
          have ey_109i : y_109.toInt = j_crossings_2.toInt - (1 : Int) := by rw [ey_109]; exact z_isubI (x := j_crossings_2) (y := (1 : Int32)) (by show -2147483648 ≤ j_crossings_2.toInt - (1 : Int); omega) (by show j_crossings_2.toInt - (1 : Int) < 2147483648; omega)
          refine lv_istore (lv' := [(6, .int y_109), (5, .int (-1)), (4, .int 0), (0, .ref mo), (1, .int l_), (2, .int c_), (3, .int u_)]) hx hb dX12_keys_39 hl (by decide) (zLvf_h rfl) (fun ls hl => ?_)
          refine z_lp11 (T := T) 41 (fun (c9 : Int32) (u : Int32) (b9 : Int32) (xat : Int32) (xgone : Int32) (xsteps : Int32) (xdone : Int32) (xposts : Nat → Int32) (xwas : Nat → Int32) (xshut : Nat → Int32) (xhere : Nat → Int32) => [[zAr T 0 m_here 7 xhere], [zO11 mo m_all m_has i_size i_next i_where i_token i_number i_word i_wrong i_farCrossing m_read 661 j_crossings_2 j_inns_3 m_posts m_shut m_here xsteps xdone xat xgone m_was m_came m_seenAt m_rowWorth m_farBy m_used i_everywhere i_again0 i_d0 i_never i_firstCame i_longRun i_moved i_crowd i_l0 i_fitMany i_fitLeast i_fitMost m_fitPost m_fitEnd m_keptPosts i_x0], [zAr T 0 m_all 3952 f_all], [zAr T 0 m_posts 7 xposts], [zAr T 0 m_shut 7 xshut], [zAr T 0 m_was 7 xwas]]) (fun (c9 : Int32) (u : Int32) (b9 : Int32) (xat : Int32) (xgone : Int32) (xsteps : Int32) (xdone : Int32) (xposts : Nat → Int32) (xwas : Nat → Int32) (xshut : Nat → Int32) (xhere : Nat → Int32) => [(6, .int c9), (5, .int b9), (4, .int u), (0, .ref mo), (1, .int l_), (2, .int c_), (3, .int u_)]) (fun (c9 : Int32) (u : Int32) (b9 : Int32) (xat : Int32) (xgone : Int32) (xsteps : Int32) (xdone : Int32) (xposts : Nat → Int32) (xwas : Nat → Int32) (xshut : Nat → Int32) (xhere : Nat → Int32) => -1 ≤ c9.toInt ∧ c9.toInt < j_crossings_2.toInt ∧ zMP xposts ∧ 0 ≤ u.toInt ∧ zKI (zKb j_inns_3 (zWcr j_crossings_2 (zWo f_all 661 j_inns_3)) (zWo f_all 661 j_inns_3) (zLo f_all 661) (zPo f_all 661) c_) (4 * (c9.toInt + 1).toNat) u b9) (fun (c9 : Int32) (u : Int32) (b9 : Int32) (xat : Int32) (xgone : Int32) (xsteps : Int32) (xdone : Int32) (xposts : Nat → Int32) (xwas : Nat → Int32) (xshut : Nat → Int32) (xhere : Nat → Int32) => (c9.toInt + 1).toNat) ?_ y_109 0 (-1) j_at_93 j_gone_94 j_steps_4 j_done_5 g_posts_95 g_was_96 g_shut_7 g_here_8 (show -1 ≤ y_109.toInt ∧ y_109.toInt < j_crossings_2.toInt ∧ zMP g_posts_95 ∧ 0 ≤ (0 : Int32).toInt ∧ zKI (zKb j_inns_3 (zWcr j_crossings_2 (zWo f_all 661 j_inns_3)) (zWo f_all 661 j_inns_3) (zLo f_all 661) (zPo f_all 661) c_) (4 * (y_109.toInt + 1).toNat) 0 (-1) from ⟨by omega, by omega, (by assumption), (by decide), (zKI_0 (by omega) (fun t h1 h2 => zKb_z (by rw [zWcr_n (by omega)]; have z0 : (0 : Int32).toInt = 0 := rfl; omega)))⟩) G (lv_sub hl [0, 1, 2, 3, 4, 5, 6] rfl)
          intro c9 u b9 xat xgone xsteps xdone xposts xwas xshut xhere hI9 ih_41 H locs ls G hl
          replace hI9 : -1 ≤ c9.toInt ∧ c9.toInt < j_crossings_2.toInt ∧ zMP xposts ∧ 0 ≤ u.toInt ∧ zKI (zKb j_inns_3 (zWcr j_crossings_2 (zWo f_all 661 j_inns_3)) (zWo f_all 661 j_inns_3) (zLo f_all 661) (zPo f_all 661) c_) (4 * (c9.toInt + 1).toNat) u b9 := hI9
          refine zAn5 hI9 ?_
          intro hc1 hc9 hQ hu0 hKI
          clear hI9
          replace G : zS T A s.heap s [[zAr T 0 m_here 7 xhere], [zO11 mo m_all m_has i_size i_next i_where i_token i_number i_word i_wrong i_farCrossing m_read 661 j_crossings_2 j_inns_3 m_posts m_shut m_here xsteps xdone xat xgone m_was m_came m_seenAt m_rowWorth m_farBy m_used i_everywhere i_again0 i_d0 i_never i_firstCame i_longRun i_moved i_crowd i_l0 i_fitMany i_fitLeast i_fitMost m_fitPost m_fitEnd m_keptPosts i_x0], [zAr T 0 m_all 3952 f_all], [zAr T 0 m_posts 7 xposts], [zAr T 0 m_shut 7 xshut], [zAr T 0 m_was 7 xwas]] _ _ := G
          replace hl : lv_has ls 8 [(6, .int c9), (5, .int b9), (4, .int u), (0, .ref mo), (1, .int l_), (2, .int c_), (3, .int u_)] := hl
          refine lv_iload hx hb dX12_keys_41 (lv_at hl 0 rfl) ?_
          refine lv_if_lt (tgt := 112) hx hb dX12_keys_43 (by decide) (fun c_110 => ?_) (fun c_110 => ?_)
          · have c_110n : c9.toInt < (0 : Int) := (fa_lt _ _).mp c_110
            refine lv_iload_n hx hb dX12_keys_112 rfl (lv_at hl 6 rfl) ?_
            refine lv_if_eq (tgt := 121) hx hb dX12_keys_113 (by decide) (fun c_111 => ?_) (fun c_111 => ?_)
            · have c_111n : u_.toInt = (0 : Int) := (fa_eq _ _).mp c_111
              refine lv_iload hx hb dX12_keys_121 (lv_at hl 2 rfl) ?_
              have G := G.sub (bs' := [[zO11 mo m_all m_has i_size i_next i_where i_token i_number i_word i_wrong i_farCrossing m_read 661 j_crossings_2 j_inns_3 m_posts m_shut m_here xsteps xdone xat xgone m_was m_came m_seenAt m_rowWorth m_farBy m_used i_everywhere i_again0 i_d0 i_never i_firstCame i_longRun i_moved i_crowd i_l0 i_fitMany i_fitLeast i_fitMost m_fitPost m_fitEnd m_keptPosts i_x0], [zAr T 0 m_all 3952 f_all], [zAr T 0 m_posts 7 xposts], [zAr T 0 m_shut 7 xshut], [zAr T 0 m_here 7 xhere], [zAr T 0 m_was 7 xwas]]) [1, 2, 3, 4, 0, 5] rfl
              exact z_back hQ9 (z_iret C hr hlocks G (Nat.le_of_ble_eq_true rfl) (Nat.le_of_ble_eq_true rfl) dX12_keys_123 ⟨661, j_crossings_2, j_inns_3, xsteps, xdone, xat, xgone, xposts, xshut, xhere, xwas, rfl, (Or.inr (Or.inr ⟨by assumption, by omega, (by unfold pKeys; rw [show pWc f_all 661 = zWcr j_crossings_2 (pW f_all 661) from (by unfold pWc; rw [hLx.2.1]; rfl), show pW f_all 661 = zWo f_all 661 j_inns_3 from congrArg (zWo f_all 661) h_17.symm, show f_all ((661 : Int32).toInt.toNat + 1) = j_inns_3 from h_17.symm, if_pos ⟨(show 0 ≤ c_.toInt ∧ c_.toInt < (f_all 661).toInt from ⟨by omega, by omega⟩), by rcases hr1 with ⟨e9, b9⟩ | ⟨e9, b9⟩ <;> first | (exfalso; omega) | exact b9⟩, if_pos (by omega)]; exact (zKI_e (by have q8 := hKI; rw [show 4 * (c9.toInt + 1).toNat = 0 by omega] at q8; exact q8)).1)⟩))⟩)
            · have c_111n : ¬ u_.toInt = (0 : Int) := fun q => c_111 ((fa_eq _ _).mpr q)
              refine lv_iload hx hb dX12_keys_116 (lv_at hl 1 rfl) ?_
              refine lv_goto (tgt := 123) hx hb dX12_keys_118 (by decide) ?_
              have G := G.sub (bs' := [[zO11 mo m_all m_has i_size i_next i_where i_token i_number i_word i_wrong i_farCrossing m_read 661 j_crossings_2 j_inns_3 m_posts m_shut m_here xsteps xdone xat xgone m_was m_came m_seenAt m_rowWorth m_farBy m_used i_everywhere i_again0 i_d0 i_never i_firstCame i_longRun i_moved i_crowd i_l0 i_fitMany i_fitLeast i_fitMost m_fitPost m_fitEnd m_keptPosts i_x0], [zAr T 0 m_all 3952 f_all], [zAr T 0 m_posts 7 xposts], [zAr T 0 m_shut 7 xshut], [zAr T 0 m_here 7 xhere], [zAr T 0 m_was 7 xwas]]) [1, 2, 3, 4, 0, 5] rfl
              exact z_back hQ9 (z_iret C hr hlocks G (Nat.le_of_ble_eq_true rfl) (Nat.le_of_ble_eq_true rfl) dX12_keys_123 ⟨661, j_crossings_2, j_inns_3, xsteps, xdone, xat, xgone, xposts, xshut, xhere, xwas, rfl, (Or.inr (Or.inr ⟨by assumption, by omega, (by unfold pKeys; rw [show pWc f_all 661 = zWcr j_crossings_2 (pW f_all 661) from (by unfold pWc; rw [hLx.2.1]; rfl), show pW f_all 661 = zWo f_all 661 j_inns_3 from congrArg (zWo f_all 661) h_17.symm, show f_all ((661 : Int32).toInt.toNat + 1) = j_inns_3 from h_17.symm, if_pos ⟨(show 0 ≤ c_.toInt ∧ c_.toInt < (f_all 661).toInt from ⟨by omega, by omega⟩), by rcases hr1 with ⟨e9, b9⟩ | ⟨e9, b9⟩ <;> first | (exfalso; omega) | exact b9⟩, if_neg (by omega)]; exact (zKI_e (by have q8 := hKI; rw [show 4 * (c9.toInt + 1).toNat = 0 by omega] at q8; exact q8)).2)⟩))⟩)
          · have c_110n : ¬ c9.toInt < (0 : Int) := fun q => c_110 ((fa_lt _ _).mpr q)
            refine lv_aload_n hx hb dX12_keys_46 rfl (lv_at hl 3 rfl) ?_
            refine lv_iload hx hb dX12_keys_47 (lv_at hl 0 rfl) ?_
            refine z_Vi (bc := [[zO11 mo m_all m_has i_size i_next i_where i_token i_number i_word i_wrong i_farCrossing m_read 661 j_crossings_2 j_inns_3 m_posts m_shut m_here xsteps xdone xat xgone m_was m_came m_seenAt m_rowWorth m_farBy m_used i_everywhere i_again0 i_d0 i_never i_firstCame i_longRun i_moved i_crowd i_l0 i_fitMany i_fitLeast i_fitMost m_fitPost m_fitEnd m_keptPosts i_x0], [zAr T 0 m_all 3952 f_all]]) (br := [[zAr T 0 m_here 7 xhere], [zAr T 0 m_posts 7 xposts], [zAr T 0 m_shut 7 xshut], [zAr T 0 m_was 7 xwas]]) (As := [.int c9]) (rest := []) C G (c_fm_roads5 l T mo m_all m_has i_size i_next i_where i_token i_number i_word i_wrong i_farCrossing m_read 661 j_crossings_2 j_inns_3 m_posts m_shut m_here xsteps xdone xat xgone m_was m_came m_seenAt m_rowWorth m_farBy m_used i_everywhere i_again0 i_d0 i_never i_firstCame i_longRun i_moved i_crowd i_l0 i_fitMany i_fitLeast i_fitMost m_fitPost m_fitEnd m_keptPosts i_x0 f_all c9 (by first | with_reducible assumption | with_reducible rfl | omega | assumption | rfl) (by first | with_reducible assumption | with_reducible rfl | omega | assumption | rfl) (by first | with_reducible assumption | with_reducible rfl | omega | assumption | rfl)) (kV_RX12_255 C.2.2.2.2 (Nat.le_of_ble_eq_true rfl) (Nat.le_of_ble_eq_true rfl)) [1, 2] [1, 0] rfl rfl (ci := 11) (qc := (RX12, TX12, 43)) rfl rfl (List.mem_flatten.mpr ⟨_, List.mem_of_getElem? (i := 0) rfl, List.mem_cons_self⟩) rfl rfl hl.1 dX12_keys_49 (Nat.le_of_ble_eq_true rfl) (Nat.le_of_ble_eq_true rfl) (fun r_115 b1 H locs hw G => ?_)
            refine zAn4 hw ?_
            intro hbs9 h_112 h_113 h_114
            clear hw
            subst hbs9
            have G : zS T A s.heap s [[zAr T 0 m_here 7 xhere], [zAr T 0 m_posts 7 xposts], [zAr T 0 m_shut 7 xshut], [zAr T 0 m_was 7 xwas], [zO11 mo m_all m_has i_size i_next i_where i_token i_number i_word i_wrong i_farCrossing m_read 661 j_crossings_2 j_inns_3 m_posts m_shut m_here xsteps xdone xat xgone m_was m_came m_seenAt m_rowWorth m_farBy m_used i_everywhere i_again0 i_d0 i_never i_firstCame i_longRun i_moved i_crowd i_l0 i_fitMany i_fitLeast i_fitMost m_fitPost m_fitEnd m_keptPosts i_x0], [zAr T 0 m_all 3952 f_all]] _ _ := G
            have hwe : r_115 = zWo f_all 661 j_inns_3 c9.toInt.toNat := h_114
            refine lv_iconst (v := 1) hx hb dX12_keys_52 (by decide) ?_
            refine lv_isub hx hb dX12_keys_53 ?_
            refine lv_topi (fun y_116 ey_116 => ?_)
            have ey_116i : y_116.toInt = r_115.toInt - (1 : Int) := by rw [ey_116]; exact z_isubI (x := r_115) (y := (1 : Int32)) (by show -2147483648 ≤ r_115.toInt - (1 : Int); omega) (by show r_115.toInt - (1 : Int) < 2147483648; omega)
            refine lv_istore (lv' := [(7, .int y_116), (6, .int c9), (5, .int b9), (4, .int u), (0, .ref mo), (1, .int l_), (2, .int c_), (3, .int u_)]) hx hb dX12_keys_54 hl (by decide) (zLvf_h rfl) (fun ls hl => ?_)
            refine z_lp11 (T := T) 56 (fun (k9 : Int32) (u2 : Int32) (d9 : Int32) (yat : Int32) (ygone : Int32) (ysteps : Int32) (ydone : Int32) (yposts : Nat → Int32) (ywas : Nat → Int32) (yshut : Nat → Int32) (yhere : Nat → Int32) => [[zAr T 0 m_here 7 yhere], [zAr T 0 m_posts 7 yposts], [zAr T 0 m_shut 7 yshut], [zAr T 0 m_was 7 ywas], [zO11 mo m_all m_has i_size i_next i_where i_token i_number i_word i_wrong i_farCrossing m_read 661 j_crossings_2 j_inns_3 m_posts m_shut m_here ysteps ydone yat ygone m_was m_came m_seenAt m_rowWorth m_farBy m_used i_everywhere i_again0 i_d0 i_never i_firstCame i_longRun i_moved i_crowd i_l0 i_fitMany i_fitLeast i_fitMost m_fitPost m_fitEnd m_keptPosts i_x0], [zAr T 0 m_all 3952 f_all]]) (fun (k9 : Int32) (u2 : Int32) (d9 : Int32) (yat : Int32) (ygone : Int32) (ysteps : Int32) (ydone : Int32) (yposts : Nat → Int32) (ywas : Nat → Int32) (yshut : Nat → Int32) (yhere : Nat → Int32) => [(7, .int k9), (6, .int c9), (5, .int d9), (4, .int u2), (0, .ref mo), (1, .int l_), (2, .int c_), (3, .int u_)]) (fun (k9 : Int32) (u2 : Int32) (d9 : Int32) (yat : Int32) (ygone : Int32) (ysteps : Int32) (ydone : Int32) (yposts : Nat → Int32) (ywas : Nat → Int32) (yshut : Nat → Int32) (yhere : Nat → Int32) => -1 ≤ k9.toInt ∧ k9.toInt < (zWo f_all 661 j_inns_3 c9.toInt.toNat).toInt ∧ zMP yposts ∧ 0 ≤ u2.toInt ∧ zKI (zKb j_inns_3 (zWcr j_crossings_2 (zWo f_all 661 j_inns_3)) (zWo f_all 661 j_inns_3) (zLo f_all 661) (zPo f_all 661) c_) (4 * c9.toInt.toNat + (k9.toInt + 1).toNat) u2 d9) (fun (k9 : Int32) (u2 : Int32) (d9 : Int32) (yat : Int32) (ygone : Int32) (ysteps : Int32) (ydone : Int32) (yposts : Nat → Int32) (ywas : Nat → Int32) (yshut : Nat → Int32) (yhere : Nat → Int32) => (k9.toInt + 1).toNat) ?_ y_116 u b9 xat xgone xsteps xdone xposts xwas xshut xhere (show -1 ≤ y_116.toInt ∧ y_116.toInt < (zWo f_all 661 j_inns_3 c9.toInt.toNat).toInt ∧ zMP xposts ∧ 0 ≤ u.toInt ∧ zKI (zKb j_inns_3 (zWcr j_crossings_2 (zWo f_all 661 j_inns_3)) (zWo f_all 661 j_inns_3) (zLo f_all 661) (zPo f_all 661) c_) (4 * c9.toInt.toNat + (y_116.toInt + 1).toNat) u b9 from ⟨by omega, (by rw [← hwe]; omega), hQ, hu0, (zKI_s (by omega) (fun t h1 h2 => zKb_z (by rw [show t / 4 = c9.toInt.toNat by omega, zWcr_y (by omega), ← hwe]; omega)) hKI)⟩) G (lv_sub hl [0, 1, 2, 3, 4, 5, 6, 7] rfl)
            intro k9 u2 d9 yat ygone ysteps ydone yposts ywas yshut yhere hI9 ih_56 H locs ls G hl
            replace hI9 : -1 ≤ k9.toInt ∧ k9.toInt < (zWo f_all 661 j_inns_3 c9.toInt.toNat).toInt ∧ zMP yposts ∧ 0 ≤ u2.toInt ∧ zKI (zKb j_inns_3 (zWcr j_crossings_2 (zWo f_all 661 j_inns_3)) (zWo f_all 661 j_inns_3) (zLo f_all 661) (zPo f_all 661) c_) (4 * c9.toInt.toNat + (k9.toInt + 1).toNat) u2 d9 := hI9
            refine zAn5 hI9 ?_
            intro hk1 hk9 hQ2 hu2 hKJ
            clear hI9
            replace G : zS T A s.heap s [[zAr T 0 m_here 7 yhere], [zAr T 0 m_posts 7 yposts], [zAr T 0 m_shut 7 yshut], [zAr T 0 m_was 7 ywas], [zO11 mo m_all m_has i_size i_next i_where i_token i_number i_word i_wrong i_farCrossing m_read 661 j_crossings_2 j_inns_3 m_posts m_shut m_here ysteps ydone yat ygone m_was m_came m_seenAt m_rowWorth m_farBy m_used i_everywhere i_again0 i_d0 i_never i_firstCame i_longRun i_moved i_crowd i_l0 i_fitMany i_fitLeast i_fitMost m_fitPost m_fitEnd m_keptPosts i_x0], [zAr T 0 m_all 3952 f_all]] _ _ := G
            replace hl : lv_has ls 8 [(7, .int k9), (6, .int c9), (5, .int d9), (4, .int u2), (0, .ref mo), (1, .int l_), (2, .int c_), (3, .int u_)] := hl
            refine lv_iload hx hb dX12_keys_56 (lv_at hl 0 rfl) ?_
            refine lv_if_lt (tgt := 106) hx hb dX12_keys_58 (by decide) (fun c_117 => ?_) (fun c_117 => ?_)
            · have c_117n : k9.toInt < (0 : Int) := (fa_lt _ _).mp c_117
              obtain ⟨y_118, ey_118⟩ : ∃ q : Int32, q = c9 + (-1) := ⟨_, rfl⟩
              have ey_118i : y_118.toInt = c9.toInt - 1 := by rw [ey_118]; exact z_iaddI (x := c9) (y := (-1)) (by show -2147483648 ≤ c9.toInt + (-1 : Int); omega) (by show c9.toInt + (-1 : Int) < 2147483648; omega)
              refine lv_iinc (v := y_118) (lv' := [(6, .int y_118), (7, .int k9), (5, .int d9), (4, .int u2), (0, .ref mo), (1, .int l_), (2, .int c_), (3, .int u_)]) hx hb dX12_keys_106 hl (k := 1) rfl ey_118.symm (by decide) (zLvf_h rfl) (fun ls hl => ?_)
              refine lv_goto (tgt := 41) hx hb dX12_keys_109 (by decide) ?_
              have G := G.sub (bs' := [[zAr T 0 m_here 7 yhere], [zO11 mo m_all m_has i_size i_next i_where i_token i_number i_word i_wrong i_farCrossing m_read 661 j_crossings_2 j_inns_3 m_posts m_shut m_here ysteps ydone yat ygone m_was m_came m_seenAt m_rowWorth m_farBy m_used i_everywhere i_again0 i_d0 i_never i_firstCame i_longRun i_moved i_crowd i_l0 i_fitMany i_fitLeast i_fitMost m_fitPost m_fitEnd m_keptPosts i_x0], [zAr T 0 m_all 3952 f_all], [zAr T 0 m_posts 7 yposts], [zAr T 0 m_shut 7 yshut], [zAr T 0 m_was 7 ywas]]) [0, 4, 5, 1, 2, 3] rfl
              exact ih_41 y_118 u2 d9 yat ygone ysteps ydone yposts ywas yshut yhere (show -1 ≤ y_118.toInt ∧ y_118.toInt < j_crossings_2.toInt ∧ zMP yposts ∧ 0 ≤ u2.toInt ∧ zKI (zKb j_inns_3 (zWcr j_crossings_2 (zWo f_all 661 j_inns_3)) (zWo f_all 661 j_inns_3) (zLo f_all 661) (zPo f_all 661) c_) (4 * (y_118.toInt + 1).toNat) u2 d9 from ⟨by omega, by omega, hQ2, hu2, (by rw [show 4 * (y_118.toInt + 1).toNat = 4 * c9.toInt.toNat + (k9.toInt + 1).toNat by omega]; exact hKJ)⟩) (show (y_118.toInt + 1).toNat < (c9.toInt + 1).toNat from by omega) _ _ ls G (lv_sub hl [0, 2, 3, 4, 5, 6, 7] rfl)
            · have c_117n : ¬ k9.toInt < (0 : Int) := fun q => c_117 ((fa_lt _ _).mpr q)
              have hkl := Int32.toInt_lt k9
              have hu28 := zKI_28 hKJ
              have hc9e : c9 = nI c9.toInt.toNat := z_nI (by omega) (by omega)
              have hk9e : k9 = nI k9.toInt.toNat := z_nI (by omega) (by omega)
              have hk4 : k9.toInt ≤ 3 := by have q8 := (zP3_m (n := j_inns_3) hLx hPx c9.toInt.toNat (by omega)).1.2; omega
              refine lv_aload_n hx hb dX12_keys_61 rfl (lv_at hl 4 rfl) ?_
              refine z_Vv (bc := [[zO11 mo m_all m_has i_size i_next i_where i_token i_number i_word i_wrong i_farCrossing m_read 661 j_crossings_2 j_inns_3 m_posts m_shut m_here ysteps ydone yat ygone m_was m_came m_seenAt m_rowWorth m_farBy m_used i_everywhere i_again0 i_d0 i_never i_firstCame i_longRun i_moved i_crowd i_l0 i_fitMany i_fitLeast i_fitMost m_fitPost m_fitEnd m_keptPosts i_x0], [zAr T 0 m_all 3952 f_all], [zAr T 0 m_posts 7 yposts], [zAr T 0 m_shut 7 yshut], [zAr T 0 m_here 7 yhere]]) (br := [[zAr T 0 m_was 7 ywas]]) (As := []) (rest := []) C G (c_m_begins l T mo m_all m_has i_size i_next i_where i_token i_number i_word i_wrong i_farCrossing m_read 661 j_crossings_2 j_inns_3 m_posts m_shut m_here ysteps ydone yat ygone m_was m_came m_seenAt m_rowWorth m_farBy m_used i_everywhere i_again0 i_d0 i_never i_firstCame i_longRun i_moved i_crowd i_l0 i_fitMany i_fitLeast i_fitMost m_fitPost m_fitEnd m_keptPosts i_x0 f_all yposts yshut yhere (by first | with_reducible assumption | with_reducible rfl | omega | assumption | rfl)) (kV_RX12_175 C.2.2.2.2 (Nat.le_of_ble_eq_true rfl) (Nat.le_of_ble_eq_true rfl)) [4, 5, 1, 2, 0] [0, 0, 0, 1, 0] rfl rfl (ci := 11) (qc := (RX12, TX12, 43)) rfl rfl (List.mem_flatten.mpr ⟨_, List.mem_of_getElem? (i := 0) rfl, List.mem_cons_self⟩) rfl rfl hl.1 dX12_keys_62 (Nat.le_of_ble_eq_true rfl) (Nat.le_of_ble_eq_true rfl) (fun b1 H locs hw G => ?_)
              refine zEx5 hw ?_
              intro j_steps_119 j_done_120 g_posts_121 g_shut_122 g_here_123
              refine zCu7 ?_
              intro hbs9 h_124 h_125 h_126 h_127 h_128 h_129
              clear hw
              subst hbs9
              have G : zS T A s.heap s [[zAr T 0 m_was 7 ywas], [zO11 mo m_all m_has i_size i_next i_where i_token i_number i_word i_wrong i_farCrossing m_read 661 j_crossings_2 j_inns_3 m_posts m_shut m_here j_steps_119 j_done_120 yat ygone m_was m_came m_seenAt m_rowWorth m_farBy m_used i_everywhere i_again0 i_d0 i_never i_firstCame i_longRun i_moved i_crowd i_l0 i_fitMany i_fitLeast i_fitMost m_fitPost m_fitEnd m_keptPosts i_x0], [zAr T 0 m_all 3952 f_all], [zAr T 0 m_posts 7 g_posts_121], [zAr T 0 m_shut 7 g_shut_122], [zAr T 0 m_here 7 g_here_123]] _ _ := G
              refine lv_aload_n hx hb dX12_keys_65 rfl (lv_at hl 4 rfl) ?_
              refine z_get C G clX12 1 rfl 15 (by decide) m_fl_RX12_23 rfl dX12_keys_66 ?_
              refine lv_iload hx hb dX12_keys_69 (lv_at hl 1 rfl) ?_
              refine lv_iconst (v := 1) hx hb dX12_keys_71 (by decide) ?_
              refine lv_iload hx hb dX12_keys_72 (lv_at hl 0 rfl) ?_
              refine lv_ishl hx hb dX12_keys_74 ?_
              refine z_ist C G 4 rfl (vp_in_iff.mpr ⟨by omega, by omega⟩) dX12_keys_75 (fun H locs G => ?_)
              have G : zS T A s.heap s [[zAr T 0 m_was 7 ywas], [zO11 mo m_all m_has i_size i_next i_where i_token i_number i_word i_wrong i_farCrossing m_read 661 j_crossings_2 j_inns_3 m_posts m_shut m_here j_steps_119 j_done_120 yat ygone m_was m_came m_seenAt m_rowWorth m_farBy m_used i_everywhere i_again0 i_d0 i_never i_firstCame i_longRun i_moved i_crowd i_l0 i_fitMany i_fitLeast i_fitMost m_fitPost m_fitEnd m_keptPosts i_x0], [zAr T 0 m_all 3952 f_all], [zAr T 0 m_posts 7 g_posts_121], [zAr T 0 m_shut 7 (upd g_shut_122 c9.toNatClampNeg (1 <<< (k9 &&& 31)))], [zAr T 0 m_here 7 g_here_123]] _ _ := G
              refine lv_aload_n hx hb dX12_keys_76 rfl (lv_at hl 4 rfl) ?_
              refine lv_iload_n hx hb dX12_keys_77 rfl (lv_at hl 6 rfl) ?_
              refine z_Vi (bc := [[zO11 mo m_all m_has i_size i_next i_where i_token i_number i_word i_wrong i_farCrossing m_read 661 j_crossings_2 j_inns_3 m_posts m_shut m_here j_steps_119 j_done_120 yat ygone m_was m_came m_seenAt m_rowWorth m_farBy m_used i_everywhere i_again0 i_d0 i_never i_firstCame i_longRun i_moved i_crowd i_l0 i_fitMany i_fitLeast i_fitMost m_fitPost m_fitEnd m_keptPosts i_x0], [zAr T 0 m_all 3952 f_all], [zAr T 0 m_posts 7 g_posts_121], [zAr T 0 m_shut 7 (upd g_shut_122 c9.toNatClampNeg (1 <<< (k9 &&& 31)))], [zAr T 0 m_was 7 ywas]]) (br := [[zAr T 0 m_here 7 g_here_123]]) (As := [.int c_]) (rest := []) C G (c_fm_walks l T mo m_all m_has i_size i_next i_where i_token i_number i_word i_wrong i_farCrossing m_read 661 j_crossings_2 j_inns_3 m_posts m_shut m_here j_steps_119 j_done_120 yat ygone m_was m_came m_seenAt m_rowWorth m_farBy m_used i_everywhere i_again0 i_d0 i_never i_firstCame i_longRun i_moved i_crowd i_l0 i_fitMany i_fitLeast i_fitMost m_fitPost m_fitEnd m_keptPosts i_x0 f_all g_posts_121 (upd g_shut_122 c9.toNatClampNeg (1 <<< (k9 &&& 31))) ywas c_ (by first | with_reducible assumption | with_reducible rfl | omega | assumption | rfl) (by first | with_reducible assumption | with_reducible rfl | omega | assumption | rfl) (by first | with_reducible assumption | with_reducible rfl | omega | assumption | rfl) (zVA_z hVA hzx h_126) h_129) (kV_RX12_217 C.2.2.2.2 (Nat.le_of_ble_eq_true rfl) (Nat.le_of_ble_eq_true rfl)) [1, 2, 3, 4, 0] [0, 0, 0, 0, 0] rfl rfl (ci := 11) (qc := (RX12, TX12, 43)) rfl rfl (List.mem_flatten.mpr ⟨_, List.mem_of_getElem? (i := 0) rfl, List.mem_cons_self⟩) rfl rfl hl.1 dX12_keys_78 (Nat.le_of_ble_eq_true rfl) (Nat.le_of_ble_eq_true rfl) (fun r_145 b1 H locs hw G => ?_)
              refine zEx4 hw ?_
              intro j_at_131 j_gone_132 g_posts_133 g_was_134
              refine zCu11 ?_
              intro hbs9 h_135 h_136 h_137 h_138 h_139 h_140 h_141 h_142 h_143 h_144
              clear hw
              subst hbs9
              have G : zS T A s.heap s [[zAr T 0 m_here 7 g_here_123], [zO11 mo m_all m_has i_size i_next i_where i_token i_number i_word i_wrong i_farCrossing m_read 661 j_crossings_2 j_inns_3 m_posts m_shut m_here j_steps_119 j_done_120 j_at_131 j_gone_132 m_was m_came m_seenAt m_rowWorth m_farBy m_used i_everywhere i_again0 i_d0 i_never i_firstCame i_longRun i_moved i_crowd i_l0 i_fitMany i_fitLeast i_fitMost m_fitPost m_fitEnd m_keptPosts i_x0], [zAr T 0 m_all 3952 f_all], [zAr T 0 m_posts 7 g_posts_133], [zAr T 0 m_shut 7 (upd g_shut_122 c9.toNatClampNeg (1 <<< (k9 &&& 31)))], [zAr T 0 m_was 7 g_was_134]] _ _ := G
              replace h_140 : zHd ((r_145 = 1 ∧ zBit j_inns_3 j_at_131 = 1 ∨ r_145 = 0 ∧ ¬ zBit j_inns_3 j_at_131 = 1)) := h_140
              have hke : j_at_131 = zKeyAt (kSh (nI c9.toInt.toNat) (nI k9.toInt.toNat)) (zWo f_all 661 j_inns_3) (zLo f_all 661) (zPo f_all 661) c_ := by rw [h_142]; exact congrArg (fun q : Int32 × Nat => q.1) (zRunN_cg (fun j hj => zSh_m h_127 hc9e hk9e j hj) (fun _ _ => rfl) zLs_rf 499 _ _ c_ 0 (zP3_m hLx h_129) (zPt_o h_126)).2
              refine lv_if_eq (tgt := 87) hx hb dX12_keys_81 (by decide) (fun c_146 => ?_) (fun c_146 => ?_)
              · have c_146n : r_145.toInt = (0 : Int) := (fa_eq _ _).mp c_146
                have hka := zKb_t (V := (zWcr j_crossings_2 (zWo f_all 661 j_inns_3))) (W := zWo f_all 661 j_inns_3) (c := c9.toInt.toNat) (r := k9.toInt.toNat) (by omega) (by rw [zWcr_y (by omega)]; omega) (by rw [← hke]; exact (h_140.resolve_left (fun q8 => by have e8 : r_145.toInt = 1 := (by rw [q8.1]; rfl); omega)).2)
                obtain ⟨y_147, ey_147⟩ : ∃ q : Int32, q = u2 + 1 := ⟨_, rfl⟩
                have ey_147i : y_147.toInt = u2.toInt + 1 := by rw [ey_147]; exact z_iaddI (x := u2) (y := 1) (by show -2147483648 ≤ u2.toInt + (1 : Int); omega) (by show u2.toInt + (1 : Int) < 2147483648; omega)
                refine lv_iinc (v := y_147) (lv' := [(4, .int y_147), (7, .int k9), (6, .int c9), (5, .int d9), (0, .ref mo), (1, .int l_), (2, .int c_), (3, .int u_)]) hx hb dX12_keys_87 hl (k := 3) rfl ey_147.symm (by decide) (zLvf_h rfl) (fun ls hl => ?_)
                refine lv_bipush (v := 10) hx hb dX12_keys_90 (by decide) ?_
                refine lv_iload hx hb dX12_keys_92 (lv_at hl 2 rfl) ?_
                refine lv_imul hx hb dX12_keys_94 ?_
                refine lv_topi (fun y_148 ey_148 => ?_)
                have ey_148i : y_148.toInt = (10 : Int) * c9.toInt := by rw [ey_148]; exact z_imulI (x := (10 : Int32)) (y := c9) (by show -2147483648 ≤ (10 : Int) * c9.toInt; omega) (by show (10 : Int) * c9.toInt < 2147483648; omega)
                refine lv_iload hx hb dX12_keys_95 (lv_at hl 1 rfl) ?_
                refine lv_iadd hx hb dX12_keys_97 ?_
                refine lv_topi (fun y_149 ey_149 => ?_)
                have ey_149i : y_149.toInt = y_148.toInt + k9.toInt := by rw [ey_149]; exact z_iaddI (x := y_148) (y := k9) (by show -2147483648 ≤ y_148.toInt + k9.toInt; omega) (by show y_148.toInt + k9.toInt < 2147483648; omega)
                refine lv_istore (lv' := [(5, .int y_149), (4, .int y_147), (7, .int k9), (6, .int c9), (0, .ref mo), (1, .int l_), (2, .int c_), (3, .int u_)]) hx hb dX12_keys_98 hl (by decide) (zLvf_h rfl) (fun ls hl => ?_)
                obtain ⟨y_150, ey_150⟩ : ∃ q : Int32, q = k9 + (-1) := ⟨_, rfl⟩
                have ey_150i : y_150.toInt = k9.toInt - 1 := by rw [ey_150]; exact z_iaddI (x := k9) (y := (-1)) (by show -2147483648 ≤ k9.toInt + (-1 : Int); omega) (by show k9.toInt + (-1 : Int) < 2147483648; omega)
                refine lv_iinc (v := y_150) (lv' := [(7, .int y_150), (5, .int y_149), (4, .int y_147), (6, .int c9), (0, .ref mo), (1, .int l_), (2, .int c_), (3, .int u_)]) hx hb dX12_keys_100 hl (k := 2) rfl ey_150.symm (by decide) (zLvf_h rfl) (fun ls hl => ?_)
                refine lv_goto (tgt := 56) hx hb dX12_keys_103 (by decide) ?_
                have G := G.sub (bs' := [[zAr T 0 m_here 7 g_here_123], [zAr T 0 m_posts 7 g_posts_133], [zAr T 0 m_shut 7 (upd g_shut_122 c9.toNatClampNeg (1 <<< (k9 &&& 31)))], [zAr T 0 m_was 7 g_was_134], [zO11 mo m_all m_has i_size i_next i_where i_token i_number i_word i_wrong i_farCrossing m_read 661 j_crossings_2 j_inns_3 m_posts m_shut m_here j_steps_119 j_done_120 j_at_131 j_gone_132 m_was m_came m_seenAt m_rowWorth m_farBy m_used i_everywhere i_again0 i_d0 i_never i_firstCame i_longRun i_moved i_crowd i_l0 i_fitMany i_fitLeast i_fitMost m_fitPost m_fitEnd m_keptPosts i_x0], [zAr T 0 m_all 3952 f_all]]) [0, 3, 4, 5, 1, 2] rfl
                exact ih_56 y_150 y_147 y_149 j_at_131 j_gone_132 j_steps_119 j_done_120 g_posts_133 g_was_134 (upd g_shut_122 c9.toNatClampNeg (1 <<< (k9 &&& 31))) g_here_123 (show -1 ≤ y_150.toInt ∧ y_150.toInt < (zWo f_all 661 j_inns_3 c9.toInt.toNat).toInt ∧ zMP g_posts_133 ∧ 0 ≤ y_147.toInt ∧ zKI (zKb j_inns_3 (zWcr j_crossings_2 (zWo f_all 661 j_inns_3)) (zWo f_all 661 j_inns_3) (zLo f_all 661) (zPo f_all 661) c_) (4 * c9.toInt.toNat + (y_150.toInt + 1).toNat) y_147 y_149 from ⟨by omega, (by omega), (by assumption), (by omega), (by rw [show 4 * c9.toInt.toNat + (y_150.toInt + 1).toNat = 4 * c9.toInt.toNat + k9.toInt.toNat by omega]; have q8 := zKI_y (by omega) hu2 hka (by rw [show 4 * c9.toInt.toNat + k9.toInt.toNat + 1 = 4 * c9.toInt.toNat + (k9.toInt + 1).toNat by omega]; exact hKJ); rw [show nI (10 * ((4 * c9.toInt.toNat + k9.toInt.toNat) / 4) + (4 * c9.toInt.toNat + k9.toInt.toNat) % 4) = y_149 from (z_nI (by omega) (by omega)).symm, ← ey_147] at q8; exact q8)⟩) (show (y_150.toInt + 1).toNat < (k9.toInt + 1).toNat from by omega) _ _ ls G (lv_sub hl [0, 3, 1, 2, 4, 5, 6, 7] rfl)
              · have c_146n : ¬ r_145.toInt = (0 : Int) := fun q => c_146 ((fa_eq _ _).mpr q)
                have hka := zKb_f (V := (zWcr j_crossings_2 (zWo f_all 661 j_inns_3))) (W := zWo f_all 661 j_inns_3) (c := c9.toInt.toNat) (r := k9.toInt.toNat) (by omega) (by rw [← hke]; exact (h_140.resolve_right (fun q8 => by have e8 : r_145.toInt = 0 := (by rw [q8.1]; rfl); omega)).2)
                refine lv_goto (tgt := 100) hx hb dX12_keys_84 (by decide) ?_
                obtain ⟨y_151, ey_151⟩ : ∃ q : Int32, q = k9 + (-1) := ⟨_, rfl⟩
                have ey_151i : y_151.toInt = k9.toInt - 1 := by rw [ey_151]; exact z_iaddI (x := k9) (y := (-1)) (by show -2147483648 ≤ k9.toInt + (-1 : Int); omega) (by show k9.toInt + (-1 : Int) < 2147483648; omega)
                refine lv_iinc (v := y_151) (lv' := [(7, .int y_151), (6, .int c9), (5, .int d9), (4, .int u2), (0, .ref mo), (1, .int l_), (2, .int c_), (3, .int u_)]) hx hb dX12_keys_100 hl (k := 0) rfl ey_151.symm (by decide) (zLvf_h rfl) (fun ls hl => ?_)
                refine lv_goto (tgt := 56) hx hb dX12_keys_103 (by decide) ?_
                have G := G.sub (bs' := [[zAr T 0 m_here 7 g_here_123], [zAr T 0 m_posts 7 g_posts_133], [zAr T 0 m_shut 7 (upd g_shut_122 c9.toNatClampNeg (1 <<< (k9 &&& 31)))], [zAr T 0 m_was 7 g_was_134], [zO11 mo m_all m_has i_size i_next i_where i_token i_number i_word i_wrong i_farCrossing m_read 661 j_crossings_2 j_inns_3 m_posts m_shut m_here j_steps_119 j_done_120 j_at_131 j_gone_132 m_was m_came m_seenAt m_rowWorth m_farBy m_used i_everywhere i_again0 i_d0 i_never i_firstCame i_longRun i_moved i_crowd i_l0 i_fitMany i_fitLeast i_fitMost m_fitPost m_fitEnd m_keptPosts i_x0], [zAr T 0 m_all 3952 f_all]]) [0, 3, 4, 5, 1, 2] rfl
                exact ih_56 y_151 u2 d9 j_at_131 j_gone_132 j_steps_119 j_done_120 g_posts_133 g_was_134 (upd g_shut_122 c9.toNatClampNeg (1 <<< (k9 &&& 31))) g_here_123 (show -1 ≤ y_151.toInt ∧ y_151.toInt < (zWo f_all 661 j_inns_3 c9.toInt.toNat).toInt ∧ zMP g_posts_133 ∧ 0 ≤ u2.toInt ∧ zKI (zKb j_inns_3 (zWcr j_crossings_2 (zWo f_all 661 j_inns_3)) (zWo f_all 661 j_inns_3) (zLo f_all 661) (zPo f_all 661) c_) (4 * c9.toInt.toNat + (y_151.toInt + 1).toNat) u2 d9 from ⟨by omega, (by omega), (by assumption), hu2, (by rw [show 4 * c9.toInt.toNat + (y_151.toInt + 1).toNat = 4 * c9.toInt.toNat + k9.toInt.toNat by omega]; exact zKI_n hka (by rw [show 4 * c9.toInt.toNat + k9.toInt.toNat + 1 = 4 * c9.toInt.toNat + (k9.toInt + 1).toNat by omega]; exact hKJ))⟩) (show (y_151.toInt + 1).toNat < (k9.toInt + 1).toNat from by omega) _ _ ls G (lv_sub hl [0, 1, 2, 3, 4, 5, 6, 7] rfl)
        · have c_108n : r_107.toInt = (0 : Int) := (fa_eq _ _).mp c_108
          refine lv_bipush (v := (-2)) hx hb dX12_keys_24 (by decide) ?_
          have G := G.sub (bs' := [[zO11 mo m_all m_has i_size i_next i_where i_token i_number i_word i_wrong i_farCrossing m_read 661 j_crossings_2 j_inns_3 m_posts m_shut m_here j_steps_4 j_done_5 j_at_93 j_gone_94 m_was m_came m_seenAt m_rowWorth m_farBy m_used i_everywhere i_again0 i_d0 i_never i_firstCame i_longRun i_moved i_crowd i_l0 i_fitMany i_fitLeast i_fitMost m_fitPost m_fitEnd m_keptPosts i_x0], [zAr T 0 m_all 3952 f_all], [zAr T 0 m_posts 7 g_posts_95], [zAr T 0 m_shut 7 g_shut_7], [zAr T 0 m_here 7 g_here_8], [zAr T 0 m_was 7 g_was_96]]) [1, 2, 3, 4, 0, 5] rfl
          exact z_back hQ9 (z_iret C hr hlocks G (Nat.le_of_ble_eq_true rfl) (Nat.le_of_ble_eq_true rfl) dX12_keys_26 ⟨661, j_crossings_2, j_inns_3, j_steps_4, j_done_5, j_at_93, j_gone_94, g_posts_95, g_shut_7, g_here_8, g_was_96, rfl, (Or.inr (Or.inr ⟨by assumption, by omega, (by unfold pKeys; rw [show pW f_all 661 = zWo f_all 661 j_inns_3 from congrArg (zWo f_all 661) h_17.symm, show f_all ((661 : Int32).toInt.toNat + 1) = j_inns_3 from h_17.symm, if_neg (fun q8 => by have q7 := q8.1; have q7 : 0 ≤ c_.toInt ∧ c_.toInt < (f_all 661).toInt := q7; have q6 := q8.2; first | omega | (rcases hr1 with ⟨e9, b9⟩ | ⟨e9, b9⟩ <;> first | (exfalso; omega) | exact b9 q6))])⟩))⟩)
      · have h_92 : (c_.toInt < 0 ∨ j_crossings_2.toInt ≤ c_.toInt) := h_92
        refine lv_if_eq (tgt := 24) hx hb dX12_keys_13 (by decide) (fun _ => ?_) (fun q => absurd (by decide) q)
        refine lv_bipush (v := (-2)) hx hb dX12_keys_24 (by decide) ?_
        have G := G.sub (bs' := [[zO11 mo m_all m_has i_size i_next i_where i_token i_number i_word i_wrong i_farCrossing m_read 661 j_crossings_2 j_inns_3 m_posts m_shut m_here j_steps_4 j_done_5 i_at i_gone m_was m_came m_seenAt m_rowWorth m_farBy m_used i_everywhere i_again0 i_d0 i_never i_firstCame i_longRun i_moved i_crowd i_l0 i_fitMany i_fitLeast i_fitMost m_fitPost m_fitEnd m_keptPosts i_x0], [zAr T 0 m_all 3952 f_all], [zAr T 0 m_posts 7 g_posts_6], [zAr T 0 m_shut 7 g_shut_7], [zAr T 0 m_here 7 g_here_8], [zAr T 0 m_was 7 f_was]]) [5, 1, 2, 3, 4, 0] rfl
        exact z_back hQ9 (z_iret C hr hlocks G (Nat.le_of_ble_eq_true rfl) (Nat.le_of_ble_eq_true rfl) dX12_keys_26 ⟨661, j_crossings_2, j_inns_3, j_steps_4, j_done_5, i_at, i_gone, g_posts_6, g_shut_7, g_here_8, f_was, rfl, (Or.inr (Or.inr ⟨by assumption, by omega, (by unfold pKeys; rw [show pW f_all 661 = zWo f_all 661 j_inns_3 from congrArg (zWo f_all 661) h_17.symm, show f_all ((661 : Int32).toInt.toNat + 1) = j_inns_3 from h_17.symm, if_neg (fun q8 => by have q7 := q8.1; have q7 : 0 ≤ c_.toInt ∧ c_.toInt < (f_all 661).toInt := q7; have q6 := q8.2; first | omega | (rcases hr1 with ⟨e9, b9⟩ | ⟨e9, b9⟩ <;> first | (exfalso; omega) | exact b9 q6))])⟩))⟩)
  · have h_23 : (l_.toInt < 0 ∨ (f_all 0).toInt ≤ l_.toInt) := h_23
    refine lv_if_eq (tgt := 24) hx hb dX12_keys_5 (by decide) (fun _ => ?_) (fun q => absurd (by decide) q)
    refine lv_bipush (v := (-2)) hx hb dX12_keys_24 (by decide) ?_
    have G := G.sub (bs' := [[zO11 mo m_all m_has i_size i_next i_where i_token i_number i_word i_wrong i_farCrossing m_read j_z0_1 j_crossings_2 j_inns_3 m_posts m_shut m_here j_steps_4 j_done_5 i_at i_gone m_was m_came m_seenAt m_rowWorth m_farBy m_used i_everywhere i_again0 i_d0 i_never i_firstCame i_longRun i_moved i_crowd i_l0 i_fitMany i_fitLeast i_fitMost m_fitPost m_fitEnd m_keptPosts i_x0], [zAr T 0 m_all 3952 f_all], [zAr T 0 m_posts 7 g_posts_6], [zAr T 0 m_shut 7 g_shut_7], [zAr T 0 m_here 7 g_here_8], [zAr T 0 m_was 7 f_was]]) [1, 2, 3, 4, 5, 0] rfl
    exact z_back hQ9 (z_iret C hr hlocks G (Nat.le_of_ble_eq_true rfl) (Nat.le_of_ble_eq_true rfl) dX12_keys_26 ⟨j_z0_1, j_crossings_2, j_inns_3, j_steps_4, j_done_5, i_at, i_gone, g_posts_6, g_shut_7, g_here_8, f_was, rfl, (Or.inl ⟨by assumption, rfl⟩)⟩)

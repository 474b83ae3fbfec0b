theorem pk_vb2 {x : Int32} (h : x.toInt8.toInt32 = x) : vp_nar .byte x = x := (vp_nar_byte x).trans h
set_option maxHeartbeats 4000000 in
set_option maxRecDepth 100000 in
/-- takeAll -/
theorem c_f_Told_takeAll (l : Launch) (T : zTy) (t : Nat) (l0 : Nat) (l1 : Nat) (d0 : Nat) (d1 : Nat) (g0 : Nat) (g1 : Nat) (ln : Int32) (fl : Int32) (pl : Int32) (ft : Nat → Int32) (fk : Nat → Int32) (wt : va_W) (cr0_ : Int32) (inn0_ : Int32) (k10_ : Nat → Int32) (k20_ : Nat → Int32) (k30_ : Nat → Int32) (k40_ : Nat → Int32) (z0_ : va_W) (cr1_ : Int32) (inn1_ : Int32) (k11_ : Nat → Int32) (k21_ : Nat → Int32) (k31_ : Nat → Int32) (k41_ : Nat → Int32) (z1_ : va_W) (dd0_ : Int32) (p10_ : Nat → Int32) (p20_ : Nat → Int32) (p30_ : Nat → Int32) (wd0_ : va_W) (dd1_ : Int32) (p11_ : Nat → Int32) (p21_ : Nat → Int32) (p31_ : Nat → Int32) (wd1_ : va_W) (gg0_ : Int32) (q10_ : Nat → Int32) (q20_ : Nat → Int32) (wg0_ : va_W) (gg1_ : Int32) (q11_ : Nat → Int32) (q21_ : Nat → Int32) (wg1_ : va_W) (o : Nat) (l0o : Nat) (l1o : Nat) (d0o : Nat) (d1o : Nat) (g0o : Nat) (g1o : Nat) (lno : Int32) (flo : Int32) (plo : Int32) (fto : Nat → Int32) (fko : Nat → Int32) (wto : va_W) (cr0_o : Int32) (inn0_o : Int32) (k10_o : Nat → Int32) (k20_o : Nat → Int32) (k30_o : Nat → Int32) (k40_o : Nat → Int32) (z0_o : va_W) (cr1_o : Int32) (inn1_o : Int32) (k11_o : Nat → Int32) (k21_o : Nat → Int32) (k31_o : Nat → Int32) (k41_o : Nat → Int32) (z1_o : va_W) (dd0_o : Int32) (p10_o : Nat → Int32) (p20_o : Nat → Int32) (p30_o : Nat → Int32) (wd0_o : va_W) (dd1_o : Int32) (p11_o : Nat → Int32) (p21_o : Nat → Int32) (p31_o : Nat → Int32) (wd1_o : va_W) (gg0_o : Int32) (q10_o : Nat → Int32) (q20_o : Nat → Int32) (wg0_o : va_W) (gg1_o : Int32) (q11_o : Nat → Int32) (q21_o : Nat → Int32) (wg1_o : va_W) (Gr : Nat → Int32) (ht : bTold T t l0 l1 d0 d1 g0 g1 ln fl pl ft fk wt) (hK : zKT fk) (hz0_ : bLand T l0 cr0_ inn0_ k10_ k20_ k30_ k40_ z0_) (hI0_ : zLI cr0_ k10_ k30_) (hz1_ : bLand T l1 cr1_ inn1_ k11_ k21_ k31_ k41_ z1_) (hI1_ : zLI cr1_ k11_ k31_) (hd0_ : bDay T d0 dd0_ p10_ p20_ p30_ wd0_) (hd1_ : bDay T d1 dd1_ p11_ p21_ p31_ wd1_) (hg0_ : bLog T g0 gg0_ q10_ q20_ wg0_) (hg1_ : bLog T g1 gg1_ q11_ q21_ wg1_) (hto : bTold T o l0o l1o d0o d1o g0o g1o lno flo plo fto fko wto) (hKo : zKT fko) (hz0_o : bLand T l0o cr0_o inn0_o k10_o k20_o k30_o k40_o z0_o) (hI0_o : zLI cr0_o k10_o k30_o) (hz1_o : bLand T l1o cr1_o inn1_o k11_o k21_o k31_o k41_o z1_o) (hI1_o : zLI cr1_o k11_o k31_o) (hd0_o : bDay T d0o dd0_o p10_o p20_o p30_o wd0_o) (hd1_o : bDay T d1o dd1_o p11_o p21_o p31_o wd1_o) (hg0_o : bLog T g0o gg0_o q10_o q20_o wg0_o) (hg1_o : bLog T g1o gg1_o q11_o q21_o wg1_o) (hTo : zTR lno flo plo fto fko cr0_o inn0_o k10_o k20_o k30_o k40_o cr1_o inn1_o k11_o k21_o k31_o k41_o dd0_o p10_o p20_o p30_o dd1_o p11_o p21_o p31_o gg0_o q10_o q20_o gg1_o q11_o q21_o Gr) : zMv l T yX9_takeAll cX9_takeAll 3 2 0 0 [.ref t, .ref o] [wt, z0_, z1_, wd0_, wd1_, wg0_, wg1_, wto, z0_o, z1_o, wd0_o, wd1_o, wg0_o, wg1_o] (fun bs => ∃ (wt2 : va_W) (g9 : Nat → Int32) (fk2 : Nat → Int32) (w2_0 : va_W) (s0_0 : Nat → Int32) (s0_1 : Nat → Int32) (s0_2 : Nat → Int32) (s0_3 : Nat → Int32) (w2_1 : va_W) (s1_0 : Nat → Int32) (s1_1 : Nat → Int32) (s1_2 : Nat → Int32) (s1_3 : Nat → Int32) (w2_2 : va_W) (s2_0 : Nat → Int32) (s2_1 : Nat → Int32) (s2_2 : Nat → Int32) (w2_3 : va_W) (s3_0 : Nat → Int32) (s3_1 : Nat → Int32) (s3_2 : Nat → Int32) (w2_4 : va_W) (s4_0 : Nat → Int32) (s4_1 : Nat → Int32) (w2_5 : va_W) (s5_0 : Nat → Int32) (s5_1 : Nat → Int32), bs = [wt2, w2_0, w2_1, w2_2, w2_3, w2_4, w2_5, wto, z0_o, z1_o, wd0_o, wd1_o, wg0_o, wg1_o] ∧ bTold T t l0 l1 d0 d1 g0 g1 lno flo plo g9 fk2 wt2 ∧ zKT fk2 ∧ bLand T l0 cr0_o inn0_o s0_0 s0_1 s0_2 s0_3 w2_0 ∧ bLand T l1 cr1_o inn1_o s1_0 s1_1 s1_2 s1_3 w2_1 ∧ bDay T d0 dd0_o s2_0 s2_1 s2_2 w2_2 ∧ bDay T d1 dd1_o s3_0 s3_1 s3_2 w2_3 ∧ bLog T g0 gg0_o s4_0 s4_1 w2_4 ∧ bLog T g1 gg1_o s5_0 s5_1 w2_5 ∧ zLI cr0_o s0_0 s0_2 ∧ zLI cr1_o s1_0 s1_2 ∧ zTR lno flo plo g9 fk2 cr0_o inn0_o s0_0 s0_1 s0_2 s0_3 cr1_o inn1_o s1_0 s1_1 s1_2 s1_3 dd0_o s2_0 s2_1 s2_2 dd1_o s3_0 s3_1 s3_2 gg0_o s4_0 s4_1 gg1_o s5_0 s5_1 Gr) := by
  refine zMv_of (own := RX9) (by decide) rfl (Nat.le_of_ble_eq_true rfl) ?_
  intro p e s m args below meth c A ls C hr hlocks hnm hAe G hl
  refine zHide (fun Qz_ hQz_ => ?_)
  have hx := C.1
  have hb := C.2.1
  have hl : lv_has ls 3 [(0, .ref t), (1, .ref o)] := hl
  refine lv_iconst (v := 0) hx hb dX9_takeAll_0 (by decide) ?_
  refine lv_istore_n (lv' := [(2, .int 0), (0, .ref t), (1, .ref o)]) hx hb dX9_takeAll_1 rfl hl (by decide) (zLvf_h rfl) (fun ls hl => ?_)
  refine zEx8 ht ?_
  intro a1_1 a2_2 a3_3 a4_4 a5_5 q1_6 q2_7 q3_8
  refine zCu7 ?_
  intro hbs9 h_9 h_10 h_11 h_12 h_13 h_14
  clear ht
  subst hbs9
  have G : zS T A s.heap s [[zO8 t a1_1 ln fl pl a2_2 a3_3 a4_4 a5_5], [zAr T 1 a1_1 600 ft], [zAr T 0 a2_2 3 fk], [zArq T 3 a3_3 2 q1_6], [zArq T 4 a4_4 2 q2_7], [zArq T 5 a5_5 2 q3_8], z0_, z1_, wd0_, wd1_, wg0_, wg1_, wto, z0_o, z1_o, wd0_o, wd1_o, wg0_o, wg1_o] _ _ := G.re rfl
  refine zEx8 hto ?_
  intro a1_15 a2_16 a3_17 a4_18 a5_19 q1_20 q2_21 q3_22
  refine zCu7 ?_
  intro hbs9 h_23 h_24 h_25 h_26 h_27 h_28
  clear hto
  subst hbs9
  have G : zS T A s.heap s [[zO8 t a1_1 ln fl pl a2_2 a3_3 a4_4 a5_5], [zAr T 1 a1_1 600 ft], [zAr T 0 a2_2 3 fk], [zArq T 3 a3_3 2 q1_6], [zArq T 4 a4_4 2 q2_7], [zArq T 5 a5_5 2 q3_8], z0_, z1_, wd0_, wd1_, wg0_, wg1_, [zO8 o a1_15 lno flo plo a2_16 a3_17 a4_18 a5_19], [zAr T 1 a1_15 600 fto], [zAr T 0 a2_16 3 fko], [zArq T 3 a3_17 2 q1_20], [zArq T 4 a4_18 2 q2_21], [zArq T 5 a5_19 2 q3_22], z0_o, z1_o, wd0_o, wd1_o, wg0_o, wg1_o] _ _ := G.re rfl
  have hw_29 : bTold T t l0 l1 d0 d1 g0 g1 ln fl pl ft fk [zO8 t a1_1 ln fl pl a2_2 a3_3 a4_4 a5_5, zAr T 1 a1_1 600 ft, zAr T 0 a2_2 3 fk, zArq T 3 a3_3 2 q1_6, zArq T 4 a4_4 2 q2_7, zArq T 5 a5_5 2 q3_8] := ⟨a1_1, a2_2, a3_3, a4_4, a5_5, q1_6, q2_7, q3_8, rfl, h_9, h_10, h_11, h_12, h_13, h_14⟩
  have G : zS T A s.heap s [[zO8 t a1_1 ln fl pl a2_2 a3_3 a4_4 a5_5, zAr T 1 a1_1 600 ft, zAr T 0 a2_2 3 fk, zArq T 3 a3_3 2 q1_6, zArq T 4 a4_4 2 q2_7, zArq T 5 a5_5 2 q3_8], z0_, z1_, wd0_, wd1_, wg0_, wg1_, [zO8 o a1_15 lno flo plo a2_16 a3_17 a4_18 a5_19], [zAr T 1 a1_15 600 fto], [zAr T 0 a2_16 3 fko], [zArq T 3 a3_17 2 q1_20], [zArq T 4 a4_18 2 q2_21], [zArq T 5 a5_19 2 q3_22], z0_o, z1_o, wd0_o, wd1_o, wg0_o, wg1_o] _ _ := G.re rfl
  have hw_30 : bTold T o l0o l1o d0o d1o g0o g1o lno flo plo fto fko [zO8 o a1_15 lno flo plo a2_16 a3_17 a4_18 a5_19, zAr T 1 a1_15 600 fto, zAr T 0 a2_16 3 fko, zArq T 3 a3_17 2 q1_20, zArq T 4 a4_18 2 q2_21, zArq T 5 a5_19 2 q3_22] := ⟨a1_15, a2_16, a3_17, a4_18, a5_19, q1_20, q2_21, q3_22, rfl, h_23, h_24, h_25, h_26, h_27, h_28⟩
  have G : zS T A s.heap s [[zO8 t a1_1 ln fl pl a2_2 a3_3 a4_4 a5_5, zAr T 1 a1_1 600 ft, zAr T 0 a2_2 3 fk, zArq T 3 a3_3 2 q1_6, zArq T 4 a4_4 2 q2_7, zArq T 5 a5_5 2 q3_8], z0_, z1_, wd0_, wd1_, wg0_, wg1_, [zO8 o a1_15 lno flo plo a2_16 a3_17 a4_18 a5_19, zAr T 1 a1_15 600 fto, zAr T 0 a2_16 3 fko, zArq T 3 a3_17 2 q1_20, zArq T 4 a4_18 2 q2_21, zArq T 5 a5_19 2 q3_22], z0_o, z1_o, wd0_o, wd1_o, wg0_o, wg1_o] _ _ := G.re rfl
  refine z_lp3 (T := T) 2 (fun (i : Nat) (wt9 : va_W) (x9 : Nat → Int32) => [wt9, z0_, z1_, wd0_, wd1_, wg0_, wg1_, [zO8 o a1_15 lno flo plo a2_16 a3_17 a4_18 a5_19, zAr T 1 a1_15 600 fto, zAr T 0 a2_16 3 fko, zArq T 3 a3_17 2 q1_20, zArq T 4 a4_18 2 q2_21, zArq T 5 a5_19 2 q3_22], z0_o, z1_o, wd0_o, wd1_o, wg0_o, wg1_o]) (fun (i : Nat) (wt9 : va_W) (x9 : Nat → Int32) => [(2, .int (nI i)), (0, .ref t), (1, .ref o)]) (fun (i : Nat) (wt9 : va_W) (x9 : Nat → Int32) => bTold T t l0 l1 d0 d1 g0 g1 ln fl pl x9 fk wt9 ∧ i ≤ 600 ∧ (∀ j, j < i → x9 j = fto j)) (fun (i : Nat) (wt9 : va_W) (x9 : Nat → Int32) => 600 - i) ?_ 0 ([zO8 t a1_1 ln fl pl a2_2 a3_3 a4_4 a5_5, zAr T 1 a1_1 600 ft, zAr T 0 a2_2 3 fk, zArq T 3 a3_3 2 q1_6, zArq T 4 a4_4 2 q2_7, zArq T 5 a5_5 2 q3_8]) ft (show bTold T t l0 l1 d0 d1 g0 g1 ln fl pl ft fk ([zO8 t a1_1 ln fl pl a2_2 a3_3 a4_4 a5_5, zAr T 1 a1_1 600 ft, zAr T 0 a2_2 3 fk, zArq T 3 a3_3 2 q1_6, zArq T 4 a4_4 2 q2_7, zArq T 5 a5_5 2 q3_8]) ∧ 0 ≤ 600 ∧ (∀ j, j < 0 → ft j = fto j) from ⟨hw_29, by omega, (fun j hj => absurd hj (Nat.not_lt_zero _))⟩) G (lv_sub hl [0, 1, 2] rfl)
  intro i wt9 x9 hI9 ih_2 H locs ls G hl
  replace hI9 : bTold T t l0 l1 d0 d1 g0 g1 ln fl pl x9 fk wt9 ∧ i ≤ 600 ∧ (∀ j, j < i → x9 j = fto j) := hI9
  refine zAn3 hI9 ?_
  intro ht9 hi hx9
  clear hI9
  replace G : zS T A s.heap s [wt9, z0_, z1_, wd0_, wd1_, wg0_, wg1_, [zO8 o a1_15 lno flo plo a2_16 a3_17 a4_18 a5_19, zAr T 1 a1_15 600 fto, zAr T 0 a2_16 3 fko, zArq T 3 a3_17 2 q1_20, zArq T 4 a4_18 2 q2_21, zArq T 5 a5_19 2 q3_22], z0_o, z1_o, wd0_o, wd1_o, wg0_o, wg1_o] _ _ := G
  replace hl : lv_has ls 3 [(2, .int (nI i)), (0, .ref t), (1, .ref o)] := hl
  refine lv_iload_n hx hb dX9_takeAll_2 rfl (lv_at hl 0 rfl) ?_
  refine lv_sipush (v := 600) hx hb dX9_takeAll_3 (by decide) ?_
  refine lv_icmp_ge (tgt := 27) hx hb dX9_takeAll_6 (by decide) (fun c_31 => ?_) (fun c_31 => ?_)
  · have c_31n : 600 ≤ i := (nI_leI (a := 600) (b := i) (by omega) (by omega)).mp c_31
    refine lv_aload_n hx hb dX9_takeAll_27 rfl (lv_at hl 1 rfl) ?_
    refine lv_aload_n hx hb dX9_takeAll_28 rfl (lv_at hl 2 rfl) ?_
    have G : zS T A s.heap s [wt9, z0_, z1_, wd0_, wd1_, wg0_, wg1_, [zO8 o a1_15 lno flo plo a2_16 a3_17 a4_18 a5_19], [zAr T 1 a1_15 600 fto], [zAr T 0 a2_16 3 fko], [zArq T 3 a3_17 2 q1_20], [zArq T 4 a4_18 2 q2_21], [zArq T 5 a5_19 2 q3_22], z0_o, z1_o, wd0_o, wd1_o, wg0_o, wg1_o] _ _ := G.re rfl
    refine z_get C G clX9 7 rfl 1 (by decide) m_fl_RX9_44 rfl dX9_takeAll_29 ?_
    refine zEx8 ht9 ?_
    intro a1_32 a2_33 a3_34 a4_35 a5_36 q1_37 q2_38 q3_39
    refine zCu7 ?_
    intro hbs9 h_40 h_41 h_42 h_43 h_44 h_45
    clear ht9
    subst hbs9
    have G : zS T A s.heap s [[zO8 t a1_32 ln fl pl a2_33 a3_34 a4_35 a5_36], [zAr T 1 a1_32 600 x9], [zAr T 0 a2_33 3 fk], [zArq T 3 a3_34 2 q1_37], [zArq T 4 a4_35 2 q2_38], [zArq T 5 a5_36 2 q3_39], z0_, z1_, wd0_, wd1_, wg0_, wg1_, [zO8 o a1_15 lno flo plo a2_16 a3_17 a4_18 a5_19], [zAr T 1 a1_15 600 fto], [zAr T 0 a2_16 3 fko], [zArq T 3 a3_17 2 q1_20], [zArq T 4 a4_18 2 q2_21], [zArq T 5 a5_19 2 q3_22], z0_o, z1_o, wd0_o, wd1_o, wg0_o, wg1_o] _ _ := G.re rfl
    refine z_put C G clX9 0 rfl 1 (by decide) m_fl_RX9_44 rfl rfl rfl (Nat.le_of_ble_eq_true rfl) dX9_takeAll_32 (fun H locs G => ?_)
    have G : zS T A s.heap s [[zO8 t a1_32 lno fl pl a2_33 a3_34 a4_35 a5_36], [zAr T 1 a1_32 600 x9], [zAr T 0 a2_33 3 fk], [zArq T 3 a3_34 2 q1_37], [zArq T 4 a4_35 2 q2_38], [zArq T 5 a5_36 2 q3_39], z0_, z1_, wd0_, wd1_, wg0_, wg1_, [zO8 o a1_15 lno flo plo a2_16 a3_17 a4_18 a5_19], [zAr T 1 a1_15 600 fto], [zAr T 0 a2_16 3 fko], [zArq T 3 a3_17 2 q1_20], [zArq T 4 a4_18 2 q2_21], [zArq T 5 a5_19 2 q3_22], z0_o, z1_o, wd0_o, wd1_o, wg0_o, wg1_o] _ _ := G
    refine lv_aload_n hx hb dX9_takeAll_35 rfl (lv_at hl 1 rfl) ?_
    refine lv_aload_n hx hb dX9_takeAll_36 rfl (lv_at hl 2 rfl) ?_
    refine z_get C G clX9 12 rfl 2 (by decide) m_fl_RX9_77 rfl dX9_takeAll_37 ?_
    refine z_put C G clX9 0 rfl 2 (by decide) m_fl_RX9_77 rfl rfl rfl (Nat.le_of_ble_eq_true rfl) dX9_takeAll_40 (fun H locs G => ?_)
    have G : zS T A s.heap s [[zO8 t a1_32 lno flo pl a2_33 a3_34 a4_35 a5_36], [zAr T 1 a1_32 600 x9], [zAr T 0 a2_33 3 fk], [zArq T 3 a3_34 2 q1_37], [zArq T 4 a4_35 2 q2_38], [zArq T 5 a5_36 2 q3_39], z0_, z1_, wd0_, wd1_, wg0_, wg1_, [zO8 o a1_15 lno flo plo a2_16 a3_17 a4_18 a5_19], [zAr T 1 a1_15 600 fto], [zAr T 0 a2_16 3 fko], [zArq T 3 a3_17 2 q1_20], [zArq T 4 a4_18 2 q2_21], [zArq T 5 a5_19 2 q3_22], z0_o, z1_o, wd0_o, wd1_o, wg0_o, wg1_o] _ _ := G
    refine lv_aload_n hx hb dX9_takeAll_43 rfl (lv_at hl 1 rfl) ?_
    refine lv_aload_n hx hb dX9_takeAll_44 rfl (lv_at hl 2 rfl) ?_
    refine z_get C G clX9 12 rfl 3 (by decide) m_fl_RX9_15 rfl dX9_takeAll_45 ?_
    refine z_put C G clX9 0 rfl 3 (by decide) m_fl_RX9_15 rfl rfl rfl (Nat.le_of_ble_eq_true rfl) dX9_takeAll_48 (fun H locs G => ?_)
    have G : zS T A s.heap s [[zO8 t a1_32 lno flo plo a2_33 a3_34 a4_35 a5_36], [zAr T 1 a1_32 600 x9], [zAr T 0 a2_33 3 fk], [zArq T 3 a3_34 2 q1_37], [zArq T 4 a4_35 2 q2_38], [zArq T 5 a5_36 2 q3_39], z0_, z1_, wd0_, wd1_, wg0_, wg1_, [zO8 o a1_15 lno flo plo a2_16 a3_17 a4_18 a5_19], [zAr T 1 a1_15 600 fto], [zAr T 0 a2_16 3 fko], [zArq T 3 a3_17 2 q1_20], [zArq T 4 a4_18 2 q2_21], [zArq T 5 a5_19 2 q3_22], z0_o, z1_o, wd0_o, wd1_o, wg0_o, wg1_o] _ _ := G
    refine lv_iconst (v := 0) hx hb dX9_takeAll_51 (by decide) ?_
    refine lv_istore_n (lv' := [(2, .int 0), (0, .ref t), (1, .ref o)]) hx hb dX9_takeAll_52 rfl hl (by decide) (zLvf_h rfl) (fun ls hl => ?_)
    refine lv_iload_n hx hb dX9_takeAll_53 rfl (lv_at hl 0 rfl) ?_
    refine lv_iconst (v := 2) hx hb dX9_takeAll_54 (by decide) ?_
    refine lv_icmp_gt (tgt := 76) hx hb dX9_takeAll_55 (by decide) (fun q => absurd q (by decide)) (fun _ => ?_)
    refine lv_aload_n hx hb dX9_takeAll_58 rfl (lv_at hl 1 rfl) ?_
    refine z_get C G clX9 0 rfl 4 (by decide) m_fl_RX9_19 rfl dX9_takeAll_59 ?_
    refine lv_iload_n hx hb dX9_takeAll_62 rfl (lv_at hl 0 rfl) ?_
    refine lv_aload_n hx hb dX9_takeAll_63 rfl (lv_at hl 2 rfl) ?_
    refine z_get C G clX9 12 rfl 4 (by decide) m_fl_RX9_19 rfl dX9_takeAll_64 ?_
    refine lv_iload_n hx hb dX9_takeAll_67 rfl (lv_at hl 0 rfl) ?_
    refine z_ild C G 14 rfl (vp_in_nI (n := 0) (by decide) (by decide)) dX9_takeAll_68 ?_
    refine lv_topi (fun v_46 ev_46 => ?_)
    rw [show ((0 : Int32).toNatClampNeg) = 0 from rfl] at ev_46
    subst ev_46
    refine z_ist C G 2 rfl (vp_in_nI (n := 0) (by decide) (by decide)) dX9_takeAll_69 (fun H locs G => ?_)
    have G : zS T A s.heap s [[zO8 t a1_32 lno flo plo a2_33 a3_34 a4_35 a5_36], [zAr T 1 a1_32 600 x9], [zAr T 0 a2_33 3 (upd fk 0 (fko 0))], [zArq T 3 a3_34 2 q1_37], [zArq T 4 a4_35 2 q2_38], [zArq T 5 a5_36 2 q3_39], z0_, z1_, wd0_, wd1_, wg0_, wg1_, [zO8 o a1_15 lno flo plo a2_16 a3_17 a4_18 a5_19], [zAr T 1 a1_15 600 fto], [zAr T 0 a2_16 3 fko], [zArq T 3 a3_17 2 q1_20], [zArq T 4 a4_18 2 q2_21], [zArq T 5 a5_19 2 q3_22], z0_o, z1_o, wd0_o, wd1_o, wg0_o, wg1_o] _ _ := G
    refine lv_iinc (v := 1) (lv' := [(2, .int 1), (0, .ref t), (1, .ref o)]) hx hb dX9_takeAll_70 hl (k := 0) rfl (by decide) (by decide) (zLvf_h rfl) (fun ls hl => ?_)
    refine lv_goto (tgt := 53) hx hb dX9_takeAll_73 (by decide) ?_
    refine lv_iload_n hx hb dX9_takeAll_53 rfl (lv_at hl 0 rfl) ?_
    refine lv_iconst (v := 2) hx hb dX9_takeAll_54 (by decide) ?_
    refine lv_icmp_gt (tgt := 76) hx hb dX9_takeAll_55 (by decide) (fun q => absurd q (by decide)) (fun _ => ?_)
    refine lv_aload_n hx hb dX9_takeAll_58 rfl (lv_at hl 1 rfl) ?_
    refine z_get C G clX9 0 rfl 4 (by decide) m_fl_RX9_19 rfl dX9_takeAll_59 ?_
    refine lv_iload_n hx hb dX9_takeAll_62 rfl (lv_at hl 0 rfl) ?_
    refine lv_aload_n hx hb dX9_takeAll_63 rfl (lv_at hl 2 rfl) ?_
    refine z_get C G clX9 12 rfl 4 (by decide) m_fl_RX9_19 rfl dX9_takeAll_64 ?_
    refine lv_iload_n hx hb dX9_takeAll_67 rfl (lv_at hl 0 rfl) ?_
    refine z_ild C G 14 rfl (vp_in_nI (n := 1) (by decide) (by decide)) dX9_takeAll_68 ?_
    refine lv_topi (fun v_47 ev_47 => ?_)
    rw [show ((1 : Int32).toNatClampNeg) = 1 from rfl] at ev_47
    subst ev_47
    refine z_ist C G 2 rfl (vp_in_nI (n := 1) (by decide) (by decide)) dX9_takeAll_69 (fun H locs G => ?_)
    have G : zS T A s.heap s [[zO8 t a1_32 lno flo plo a2_33 a3_34 a4_35 a5_36], [zAr T 1 a1_32 600 x9], [zAr T 0 a2_33 3 (upd (upd fk 0 (fko 0)) 1 (fko 1))], [zArq T 3 a3_34 2 q1_37], [zArq T 4 a4_35 2 q2_38], [zArq T 5 a5_36 2 q3_39], z0_, z1_, wd0_, wd1_, wg0_, wg1_, [zO8 o a1_15 lno flo plo a2_16 a3_17 a4_18 a5_19], [zAr T 1 a1_15 600 fto], [zAr T 0 a2_16 3 fko], [zArq T 3 a3_17 2 q1_20], [zArq T 4 a4_18 2 q2_21], [zArq T 5 a5_19 2 q3_22], z0_o, z1_o, wd0_o, wd1_o, wg0_o, wg1_o] _ _ := G
    refine lv_iinc (v := 2) (lv' := [(2, .int 2), (0, .ref t), (1, .ref o)]) hx hb dX9_takeAll_70 hl (k := 0) rfl (by decide) (by decide) (zLvf_h rfl) (fun ls hl => ?_)
    refine lv_goto (tgt := 53) hx hb dX9_takeAll_73 (by decide) ?_
    refine lv_iload_n hx hb dX9_takeAll_53 rfl (lv_at hl 0 rfl) ?_
    refine lv_iconst (v := 2) hx hb dX9_takeAll_54 (by decide) ?_
    refine lv_icmp_gt (tgt := 76) hx hb dX9_takeAll_55 (by decide) (fun q => absurd q (by decide)) (fun _ => ?_)
    refine lv_aload_n hx hb dX9_takeAll_58 rfl (lv_at hl 1 rfl) ?_
    refine z_get C G clX9 0 rfl 4 (by decide) m_fl_RX9_19 rfl dX9_takeAll_59 ?_
    refine lv_iload_n hx hb dX9_takeAll_62 rfl (lv_at hl 0 rfl) ?_
    refine lv_aload_n hx hb dX9_takeAll_63 rfl (lv_at hl 2 rfl) ?_
    refine z_get C G clX9 12 rfl 4 (by decide) m_fl_RX9_19 rfl dX9_takeAll_64 ?_
    refine lv_iload_n hx hb dX9_takeAll_67 rfl (lv_at hl 0 rfl) ?_
    refine z_ild C G 14 rfl (vp_in_nI (n := 2) (by decide) (by decide)) dX9_takeAll_68 ?_
    refine lv_topi (fun v_48 ev_48 => ?_)
    rw [show ((2 : Int32).toNatClampNeg) = 2 from rfl] at ev_48
    subst ev_48
    refine z_ist C G 2 rfl (vp_in_nI (n := 2) (by decide) (by decide)) dX9_takeAll_69 (fun H locs G => ?_)
    have G : zS T A s.heap s [[zO8 t a1_32 lno flo plo a2_33 a3_34 a4_35 a5_36], [zAr T 1 a1_32 600 x9], [zAr T 0 a2_33 3 (upd (upd (upd fk 0 (fko 0)) 1 (fko 1)) 2 (fko 2))], [zArq T 3 a3_34 2 q1_37], [zArq T 4 a4_35 2 q2_38], [zArq T 5 a5_36 2 q3_39], z0_, z1_, wd0_, wd1_, wg0_, wg1_, [zO8 o a1_15 lno flo plo a2_16 a3_17 a4_18 a5_19], [zAr T 1 a1_15 600 fto], [zAr T 0 a2_16 3 fko], [zArq T 3 a3_17 2 q1_20], [zArq T 4 a4_18 2 q2_21], [zArq T 5 a5_19 2 q3_22], z0_o, z1_o, wd0_o, wd1_o, wg0_o, wg1_o] _ _ := G
    refine lv_iinc (v := 3) (lv' := [(2, .int 3), (0, .ref t), (1, .ref o)]) hx hb dX9_takeAll_70 hl (k := 0) rfl (by decide) (by decide) (zLvf_h rfl) (fun ls hl => ?_)
    refine lv_goto (tgt := 53) hx hb dX9_takeAll_73 (by decide) ?_
    refine lv_iload_n hx hb dX9_takeAll_53 rfl (lv_at hl 0 rfl) ?_
    refine lv_iconst (v := 2) hx hb dX9_takeAll_54 (by decide) ?_
    refine lv_icmp_gt (tgt := 76) hx hb dX9_takeAll_55 (by decide) (fun _ => ?_) (fun q => absurd (by decide) q)
    refine lv_iconst (v := 0) hx hb dX9_takeAll_76 (by decide) ?_
    refine lv_istore_n (lv' := [(2, .int 0), (0, .ref t), (1, .ref o)]) hx hb dX9_takeAll_77 rfl hl (by decide) (zLvf_h rfl) (fun ls hl => ?_)
    refine lv_iload_n hx hb dX9_takeAll_78 rfl (lv_at hl 0 rfl) ?_
    refine lv_iconst (v := 2) hx hb dX9_takeAll_79 (by decide) ?_
    refine lv_icmp_ge (tgt := 134) hx hb dX9_takeAll_80 (by decide) (fun q => absurd q (by decide)) (fun _ => ?_)
    refine lv_aload_n hx hb dX9_takeAll_83 rfl (lv_at hl 1 rfl) ?_
    refine z_get C G clX9 0 rfl 5 (by decide) m_fl_RX9_26 rfl dX9_takeAll_84 ?_
    refine lv_iload_n hx hb dX9_takeAll_87 rfl (lv_at hl 0 rfl) ?_
    refine z_ald C G 3 3 rfl rfl (vp_in_nI (n := 0) (by decide) (by decide)) dX9_takeAll_88 ?_
    rw [show q1_37 ((0 : Int32).toNatClampNeg) = some l0 from h_40]
    refine lv_aload_n hx hb dX9_takeAll_89 rfl (lv_at hl 2 rfl) ?_
    refine z_get C G clX9 12 rfl 5 (by decide) m_fl_RX9_26 rfl dX9_takeAll_90 ?_
    refine lv_iload_n hx hb dX9_takeAll_93 rfl (lv_at hl 0 rfl) ?_
    refine z_ald C G 15 3 rfl rfl (vp_in_nI (n := 0) (by decide) (by decide)) dX9_takeAll_94 ?_
    rw [show q1_20 ((0 : Int32).toNatClampNeg) = some l0o from h_23]
    refine z_Vv (bc := [z0_, z0_o]) (br := [[zO8 t a1_32 lno flo plo a2_33 a3_34 a4_35 a5_36], [zAr T 1 a1_32 600 x9], [zAr T 0 a2_33 3 (upd (upd (upd fk 0 (fko 0)) 1 (fko 1)) 2 (fko 2))], [zArq T 3 a3_34 2 q1_37], [zArq T 4 a4_35 2 q2_38], [zArq T 5 a5_36 2 q3_39], z1_, wd0_, wd1_, wg0_, wg1_, [zO8 o a1_15 lno flo plo a2_16 a3_17 a4_18 a5_19], [zAr T 1 a1_15 600 fto], [zAr T 0 a2_16 3 fko], [zArq T 3 a3_17 2 q1_20], [zArq T 4 a4_18 2 q2_21], [zArq T 5 a5_19 2 q3_22], z1_o, wd0_o, wd1_o, wg0_o, wg1_o]) (As := [.ref l0o]) (rest := []) C G (c_Land_takeAll l T l0 l0o cr0_ inn0_ k10_ k20_ k30_ k40_ cr0_o inn0_o k10_o k20_o k30_o k40_o z0_ z0_o hz0_ hz0_o) (kV_RX9_53 C.2.2.2.2 (Nat.le_of_ble_eq_true rfl) (Nat.le_of_ble_eq_true rfl)) [6, 18] [6, 11] rfl rfl (ci := 4) (qc := (RX4, TX4, 6)) rfl rfl (List.mem_flatten.mpr ⟨_, List.mem_of_getElem? (i := 0) rfl, (bLand_mem hz0_).choose_spec⟩) rfl rfl hl.1 dX9_takeAll_95 (Nat.le_of_ble_eq_true rfl) (Nat.le_of_ble_eq_true rfl) (fun b1 H locs hw G => ?_)
    refine zEx5 hw ?_
    intro w2_49 g1_50 g2_51 g3_52 g4_53
    refine zCu6 ?_
    intro hbs9 h_54 h_55 h_56 h_57 h_58
    clear hw
    subst hbs9
    have G : zS T A s.heap s [[zO8 t a1_32 lno flo plo a2_33 a3_34 a4_35 a5_36], [zAr T 1 a1_32 600 x9], [zAr T 0 a2_33 3 (upd (upd (upd fk 0 (fko 0)) 1 (fko 1)) 2 (fko 2))], [zArq T 3 a3_34 2 q1_37], [zArq T 4 a4_35 2 q2_38], [zArq T 5 a5_36 2 q3_39], z1_, wd0_, wd1_, wg0_, wg1_, [zO8 o a1_15 lno flo plo a2_16 a3_17 a4_18 a5_19], [zAr T 1 a1_15 600 fto], [zAr T 0 a2_16 3 fko], [zArq T 3 a3_17 2 q1_20], [zArq T 4 a4_18 2 q2_21], [zArq T 5 a5_19 2 q3_22], z1_o, wd0_o, wd1_o, wg0_o, wg1_o, w2_49, z0_o] _ _ := G
    refine lv_aload_n hx hb dX9_takeAll_98 rfl (lv_at hl 1 rfl) ?_
    refine z_get C G clX9 0 rfl 6 (by decide) m_fl_RX9_33 rfl dX9_takeAll_99 ?_
    refine lv_iload_n hx hb dX9_takeAll_102 rfl (lv_at hl 0 rfl) ?_
    refine z_ald C G 4 4 rfl rfl (vp_in_nI (n := 0) (by decide) (by decide)) dX9_takeAll_103 ?_
    rw [show q2_38 ((0 : Int32).toNatClampNeg) = some d0 from h_42]
    refine lv_aload_n hx hb dX9_takeAll_104 rfl (lv_at hl 2 rfl) ?_
    refine z_get C G clX9 11 rfl 6 (by decide) m_fl_RX9_33 rfl dX9_takeAll_105 ?_
    refine lv_iload_n hx hb dX9_takeAll_108 rfl (lv_at hl 0 rfl) ?_
    refine z_ald C G 15 4 rfl rfl (vp_in_nI (n := 0) (by decide) (by decide)) dX9_takeAll_109 ?_
    rw [show q2_21 ((0 : Int32).toNatClampNeg) = some d0o from h_25]
    refine z_Vv (bc := [wd0_, wd0_o]) (br := [[zO8 t a1_32 lno flo plo a2_33 a3_34 a4_35 a5_36], [zAr T 1 a1_32 600 x9], [zAr T 0 a2_33 3 (upd (upd (upd fk 0 (fko 0)) 1 (fko 1)) 2 (fko 2))], [zArq T 3 a3_34 2 q1_37], [zArq T 4 a4_35 2 q2_38], [zArq T 5 a5_36 2 q3_39], z1_, wd1_, wg0_, wg1_, [zO8 o a1_15 lno flo plo a2_16 a3_17 a4_18 a5_19], [zAr T 1 a1_15 600 fto], [zAr T 0 a2_16 3 fko], [zArq T 3 a3_17 2 q1_20], [zArq T 4 a4_18 2 q2_21], [zArq T 5 a5_19 2 q3_22], z1_o, wd1_o, wg0_o, wg1_o, w2_49, z0_o]) (As := [.ref d0o]) (rest := []) C G (c_Day_takeAll l T d0 d0o dd0_ p10_ p20_ p30_ dd0_o p10_o p20_o p30_o wd0_ wd0_o hd0_ hd0_o) (kV_RX9_61 C.2.2.2.2 (Nat.le_of_ble_eq_true rfl) (Nat.le_of_ble_eq_true rfl)) [7, 18] [7, 10] rfl rfl (ci := 2) (qc := (RX2, TX2, 4)) rfl rfl (List.mem_flatten.mpr ⟨_, List.mem_of_getElem? (i := 0) rfl, (bDay_mem hd0_).choose_spec⟩) rfl rfl hl.1 dX9_takeAll_110 (Nat.le_of_ble_eq_true rfl) (Nat.le_of_ble_eq_true rfl) (fun b1 H locs hw G => ?_)
    refine zEx4 hw ?_
    intro w2_60 g1_61 g2_62 g3_63
    refine zCu5 ?_
    intro hbs9 h_64 h_65 h_66 h_67
    clear hw
    subst hbs9
    have G : zS T A s.heap s [[zO8 t a1_32 lno flo plo a2_33 a3_34 a4_35 a5_36], [zAr T 1 a1_32 600 x9], [zAr T 0 a2_33 3 (upd (upd (upd fk 0 (fko 0)) 1 (fko 1)) 2 (fko 2))], [zArq T 3 a3_34 2 q1_37], [zArq T 4 a4_35 2 q2_38], [zArq T 5 a5_36 2 q3_39], z1_, wd1_, wg0_, wg1_, [zO8 o a1_15 lno flo plo a2_16 a3_17 a4_18 a5_19], [zAr T 1 a1_15 600 fto], [zAr T 0 a2_16 3 fko], [zArq T 3 a3_17 2 q1_20], [zArq T 4 a4_18 2 q2_21], [zArq T 5 a5_19 2 q3_22], z1_o, wd1_o, wg0_o, wg1_o, w2_49, z0_o, w2_60, wd0_o] _ _ := G
    refine lv_aload_n hx hb dX9_takeAll_113 rfl (lv_at hl 1 rfl) ?_
    refine z_get C G clX9 0 rfl 7 (by decide) m_fl_RX9_40 rfl dX9_takeAll_114 ?_
    refine lv_iload_n hx hb dX9_takeAll_117 rfl (lv_at hl 0 rfl) ?_
    refine z_ald C G 5 5 rfl rfl (vp_in_nI (n := 0) (by decide) (by decide)) dX9_takeAll_118 ?_
    rw [show q3_39 ((0 : Int32).toNatClampNeg) = some g0 from h_44]
    refine lv_aload_n hx hb dX9_takeAll_119 rfl (lv_at hl 2 rfl) ?_
    refine z_get C G clX9 10 rfl 7 (by decide) m_fl_RX9_40 rfl dX9_takeAll_120 ?_
    refine lv_iload_n hx hb dX9_takeAll_123 rfl (lv_at hl 0 rfl) ?_
    refine z_ald C G 15 5 rfl rfl (vp_in_nI (n := 0) (by decide) (by decide)) dX9_takeAll_124 ?_
    rw [show q3_22 ((0 : Int32).toNatClampNeg) = some g0o from h_27]
    refine z_Vv (bc := [wg0_, wg0_o]) (br := [[zO8 t a1_32 lno flo plo a2_33 a3_34 a4_35 a5_36], [zAr T 1 a1_32 600 x9], [zAr T 0 a2_33 3 (upd (upd (upd fk 0 (fko 0)) 1 (fko 1)) 2 (fko 2))], [zArq T 3 a3_34 2 q1_37], [zArq T 4 a4_35 2 q2_38], [zArq T 5 a5_36 2 q3_39], z1_, wd1_, wg1_, [zO8 o a1_15 lno flo plo a2_16 a3_17 a4_18 a5_19], [zAr T 1 a1_15 600 fto], [zAr T 0 a2_16 3 fko], [zArq T 3 a3_17 2 q1_20], [zArq T 4 a4_18 2 q2_21], [zArq T 5 a5_19 2 q3_22], z1_o, wd1_o, wg1_o, w2_49, z0_o, w2_60, wd0_o]) (As := [.ref g0o]) (rest := []) C G (c_Log_takeAll l T g0 g0o gg0_ q10_ q20_ gg0_o q10_o q20_o wg0_ wg0_o hg0_ hg0_o) (kV_RX9_68 C.2.2.2.2 (Nat.le_of_ble_eq_true rfl) (Nat.le_of_ble_eq_true rfl)) [8, 18] [8, 9] rfl rfl (ci := 5) (qc := (RX5, TX5, 3)) rfl rfl (List.mem_flatten.mpr ⟨_, List.mem_of_getElem? (i := 0) rfl, (bLog_mem hg0_).choose_spec⟩) rfl rfl hl.1 dX9_takeAll_125 (Nat.le_of_ble_eq_true rfl) (Nat.le_of_ble_eq_true rfl) (fun b1 H locs hw G => ?_)
    refine zEx3 hw ?_
    intro w2_69 g1_70 g2_71
    refine zCu4 ?_
    intro hbs9 h_72 h_73 h_74
    clear hw
    subst hbs9
    have G : zS T A s.heap s [[zO8 t a1_32 lno flo plo a2_33 a3_34 a4_35 a5_36], [zAr T 1 a1_32 600 x9], [zAr T 0 a2_33 3 (upd (upd (upd fk 0 (fko 0)) 1 (fko 1)) 2 (fko 2))], [zArq T 3 a3_34 2 q1_37], [zArq T 4 a4_35 2 q2_38], [zArq T 5 a5_36 2 q3_39], z1_, wd1_, wg1_, [zO8 o a1_15 lno flo plo a2_16 a3_17 a4_18 a5_19], [zAr T 1 a1_15 600 fto], [zAr T 0 a2_16 3 fko], [zArq T 3 a3_17 2 q1_20], [zArq T 4 a4_18 2 q2_21], [zArq T 5 a5_19 2 q3_22], z1_o, wd1_o, wg1_o, w2_49, z0_o, w2_60, wd0_o, w2_69, wg0_o] _ _ := G
    refine lv_iinc (v := 1) (lv' := [(2, .int 1), (0, .ref t), (1, .ref o)]) hx hb dX9_takeAll_128 hl (k := 0) rfl (by decide) (by decide) (zLvf_h rfl) (fun ls hl => ?_)
    refine lv_goto (tgt := 78) hx hb dX9_takeAll_131 (by decide) ?_
    refine lv_iload_n hx hb dX9_takeAll_78 rfl (lv_at hl 0 rfl) ?_
    refine lv_iconst (v := 2) hx hb dX9_takeAll_79 (by decide) ?_
    refine lv_icmp_ge (tgt := 134) hx hb dX9_takeAll_80 (by decide) (fun q => absurd q (by decide)) (fun _ => ?_)
    refine lv_aload_n hx hb dX9_takeAll_83 rfl (lv_at hl 1 rfl) ?_
    refine z_get C G clX9 0 rfl 5 (by decide) m_fl_RX9_26 rfl dX9_takeAll_84 ?_
    refine lv_iload_n hx hb dX9_takeAll_87 rfl (lv_at hl 0 rfl) ?_
    refine z_ald C G 3 3 rfl rfl (vp_in_nI (n := 1) (by decide) (by decide)) dX9_takeAll_88 ?_
    rw [show q1_37 ((1 : Int32).toNatClampNeg) = some l1 from h_41]
    refine lv_aload_n hx hb dX9_takeAll_89 rfl (lv_at hl 2 rfl) ?_
    refine z_get C G clX9 9 rfl 5 (by decide) m_fl_RX9_26 rfl dX9_takeAll_90 ?_
    refine lv_iload_n hx hb dX9_takeAll_93 rfl (lv_at hl 0 rfl) ?_
    refine z_ald C G 12 3 rfl rfl (vp_in_nI (n := 1) (by decide) (by decide)) dX9_takeAll_94 ?_
    rw [show q1_20 ((1 : Int32).toNatClampNeg) = some l1o from h_24]
    refine z_Vv (bc := [z1_, z1_o]) (br := [[zO8 t a1_32 lno flo plo a2_33 a3_34 a4_35 a5_36], [zAr T 1 a1_32 600 x9], [zAr T 0 a2_33 3 (upd (upd (upd fk 0 (fko 0)) 1 (fko 1)) 2 (fko 2))], [zArq T 3 a3_34 2 q1_37], [zArq T 4 a4_35 2 q2_38], [zArq T 5 a5_36 2 q3_39], wd1_, wg1_, [zO8 o a1_15 lno flo plo a2_16 a3_17 a4_18 a5_19], [zAr T 1 a1_15 600 fto], [zAr T 0 a2_16 3 fko], [zArq T 3 a3_17 2 q1_20], [zArq T 4 a4_18 2 q2_21], [zArq T 5 a5_19 2 q3_22], wd1_o, wg1_o, w2_49, z0_o, w2_60, wd0_o, w2_69, wg0_o]) (As := [.ref l1o]) (rest := []) C G (c_Land_takeAll l T l1 l1o cr1_ inn1_ k11_ k21_ k31_ k41_ cr1_o inn1_o k11_o k21_o k31_o k41_o z1_ z1_o hz1_ hz1_o) (kV_RX9_53 C.2.2.2.2 (Nat.le_of_ble_eq_true rfl) (Nat.le_of_ble_eq_true rfl)) [6, 15] [6, 8] rfl rfl (ci := 4) (qc := (RX4, TX4, 6)) rfl rfl (List.mem_flatten.mpr ⟨_, List.mem_of_getElem? (i := 0) rfl, (bLand_mem hz1_).choose_spec⟩) rfl rfl hl.1 dX9_takeAll_95 (Nat.le_of_ble_eq_true rfl) (Nat.le_of_ble_eq_true rfl) (fun b1 H locs hw G => ?_)
    refine zEx5 hw ?_
    intro w2_76 g1_77 g2_78 g3_79 g4_80
    refine zCu6 ?_
    intro hbs9 h_81 h_82 h_83 h_84 h_85
    clear hw
    subst hbs9
    have G : zS T A s.heap s [[zO8 t a1_32 lno flo plo a2_33 a3_34 a4_35 a5_36], [zAr T 1 a1_32 600 x9], [zAr T 0 a2_33 3 (upd (upd (upd fk 0 (fko 0)) 1 (fko 1)) 2 (fko 2))], [zArq T 3 a3_34 2 q1_37], [zArq T 4 a4_35 2 q2_38], [zArq T 5 a5_36 2 q3_39], wd1_, wg1_, [zO8 o a1_15 lno flo plo a2_16 a3_17 a4_18 a5_19], [zAr T 1 a1_15 600 fto], [zAr T 0 a2_16 3 fko], [zArq T 3 a3_17 2 q1_20], [zArq T 4 a4_18 2 q2_21], [zArq T 5 a5_19 2 q3_22], wd1_o, wg1_o, w2_49, z0_o, w2_60, wd0_o, w2_69, wg0_o, w2_76, z1_o] _ _ := G
    refine lv_aload_n hx hb dX9_takeAll_98 rfl (lv_at hl 1 rfl) ?_
    refine z_get C G clX9 0 rfl 6 (by decide) m_fl_RX9_33 rfl dX9_takeAll_99 ?_
    refine lv_iload_n hx hb dX9_takeAll_102 rfl (lv_at hl 0 rfl) ?_
    refine z_ald C G 4 4 rfl rfl (vp_in_nI (n := 1) (by decide) (by decide)) dX9_takeAll_103 ?_
    rw [show q2_38 ((1 : Int32).toNatClampNeg) = some d1 from h_43]
    refine lv_aload_n hx hb dX9_takeAll_104 rfl (lv_at hl 2 rfl) ?_
    refine z_get C G clX9 8 rfl 6 (by decide) m_fl_RX9_33 rfl dX9_takeAll_105 ?_
    refine lv_iload_n hx hb dX9_takeAll_108 rfl (lv_at hl 0 rfl) ?_
    refine z_ald C G 12 4 rfl rfl (vp_in_nI (n := 1) (by decide) (by decide)) dX9_takeAll_109 ?_
    rw [show q2_21 ((1 : Int32).toNatClampNeg) = some d1o from h_26]
    refine z_Vv (bc := [wd1_, wd1_o]) (br := [[zO8 t a1_32 lno flo plo a2_33 a3_34 a4_35 a5_36], [zAr T 1 a1_32 600 x9], [zAr T 0 a2_33 3 (upd (upd (upd fk 0 (fko 0)) 1 (fko 1)) 2 (fko 2))], [zArq T 3 a3_34 2 q1_37], [zArq T 4 a4_35 2 q2_38], [zArq T 5 a5_36 2 q3_39], wg1_, [zO8 o a1_15 lno flo plo a2_16 a3_17 a4_18 a5_19], [zAr T 1 a1_15 600 fto], [zAr T 0 a2_16 3 fko], [zArq T 3 a3_17 2 q1_20], [zArq T 4 a4_18 2 q2_21], [zArq T 5 a5_19 2 q3_22], wg1_o, w2_49, z0_o, w2_60, wd0_o, w2_69, wg0_o, w2_76, z1_o]) (As := [.ref d1o]) (rest := []) C G (c_Day_takeAll l T d1 d1o dd1_ p11_ p21_ p31_ dd1_o p11_o p21_o p31_o wd1_ wd1_o hd1_ hd1_o) (kV_RX9_61 C.2.2.2.2 (Nat.le_of_ble_eq_true rfl) (Nat.le_of_ble_eq_true rfl)) [6, 14] [6, 7] rfl rfl (ci := 2) (qc := (RX2, TX2, 4)) rfl rfl (List.mem_flatten.mpr ⟨_, List.mem_of_getElem? (i := 0) rfl, (bDay_mem hd1_).choose_spec⟩) rfl rfl hl.1 dX9_takeAll_110 (Nat.le_of_ble_eq_true rfl) (Nat.le_of_ble_eq_true rfl) (fun b1 H locs hw G => ?_)
    refine zEx4 hw ?_
    intro w2_87 g1_88 g2_89 g3_90
    refine zCu5 ?_
    intro hbs9 h_91 h_92 h_93 h_94
    clear hw
    subst hbs9
    have G : zS T A s.heap s [[zO8 t a1_32 lno flo plo a2_33 a3_34 a4_35 a5_36], [zAr T 1 a1_32 600 x9], [zAr T 0 a2_33 3 (upd (upd (upd fk 0 (fko 0)) 1 (fko 1)) 2 (fko 2))], [zArq T 3 a3_34 2 q1_37], [zArq T 4 a4_35 2 q2_38], [zArq T 5 a5_36 2 q3_39], wg1_, [zO8 o a1_15 lno flo plo a2_16 a3_17 a4_18 a5_19], [zAr T 1 a1_15 600 fto], [zAr T 0 a2_16 3 fko], [zArq T 3 a3_17 2 q1_20], [zArq T 4 a4_18 2 q2_21], [zArq T 5 a5_19 2 q3_22], wg1_o, w2_49, z0_o, w2_60, wd0_o, w2_69, wg0_o, w2_76, z1_o, w2_87, wd1_o] _ _ := G
    refine lv_aload_n hx hb dX9_takeAll_113 rfl (lv_at hl 1 rfl) ?_
    refine z_get C G clX9 0 rfl 7 (by decide) m_fl_RX9_40 rfl dX9_takeAll_114 ?_
    refine lv_iload_n hx hb dX9_takeAll_117 rfl (lv_at hl 0 rfl) ?_
    refine z_ald C G 5 5 rfl rfl (vp_in_nI (n := 1) (by decide) (by decide)) dX9_takeAll_118 ?_
    rw [show q3_39 ((1 : Int32).toNatClampNeg) = some g1 from h_45]
    refine lv_aload_n hx hb dX9_takeAll_119 rfl (lv_at hl 2 rfl) ?_
    refine z_get C G clX9 7 rfl 7 (by decide) m_fl_RX9_40 rfl dX9_takeAll_120 ?_
    refine lv_iload_n hx hb dX9_takeAll_123 rfl (lv_at hl 0 rfl) ?_
    refine z_ald C G 12 5 rfl rfl (vp_in_nI (n := 1) (by decide) (by decide)) dX9_takeAll_124 ?_
    rw [show q3_22 ((1 : Int32).toNatClampNeg) = some g1o from h_28]
    refine z_Vv (bc := [wg1_, wg1_o]) (br := [[zO8 t a1_32 lno flo plo a2_33 a3_34 a4_35 a5_36], [zAr T 1 a1_32 600 x9], [zAr T 0 a2_33 3 (upd (upd (upd fk 0 (fko 0)) 1 (fko 1)) 2 (fko 2))], [zArq T 3 a3_34 2 q1_37], [zArq T 4 a4_35 2 q2_38], [zArq T 5 a5_36 2 q3_39], [zO8 o a1_15 lno flo plo a2_16 a3_17 a4_18 a5_19], [zAr T 1 a1_15 600 fto], [zAr T 0 a2_16 3 fko], [zArq T 3 a3_17 2 q1_20], [zArq T 4 a4_18 2 q2_21], [zArq T 5 a5_19 2 q3_22], w2_49, z0_o, w2_60, wd0_o, w2_69, wg0_o, w2_76, z1_o, w2_87, wd1_o]) (As := [.ref g1o]) (rest := []) C G (c_Log_takeAll l T g1 g1o gg1_ q11_ q21_ gg1_o q11_o q21_o wg1_ wg1_o hg1_ hg1_o) (kV_RX9_68 C.2.2.2.2 (Nat.le_of_ble_eq_true rfl) (Nat.le_of_ble_eq_true rfl)) [6, 13] [6, 6] rfl rfl (ci := 5) (qc := (RX5, TX5, 3)) rfl rfl (List.mem_flatten.mpr ⟨_, List.mem_of_getElem? (i := 0) rfl, (bLog_mem hg1_).choose_spec⟩) rfl rfl hl.1 dX9_takeAll_125 (Nat.le_of_ble_eq_true rfl) (Nat.le_of_ble_eq_true rfl) (fun b1 H locs hw G => ?_)
    refine zEx3 hw ?_
    intro w2_96 g1_97 g2_98
    refine zCu4 ?_
    intro hbs9 h_99 h_100 h_101
    clear hw
    subst hbs9
    have G : zS T A s.heap s [[zO8 t a1_32 lno flo plo a2_33 a3_34 a4_35 a5_36], [zAr T 1 a1_32 600 x9], [zAr T 0 a2_33 3 (upd (upd (upd fk 0 (fko 0)) 1 (fko 1)) 2 (fko 2))], [zArq T 3 a3_34 2 q1_37], [zArq T 4 a4_35 2 q2_38], [zArq T 5 a5_36 2 q3_39], [zO8 o a1_15 lno flo plo a2_16 a3_17 a4_18 a5_19], [zAr T 1 a1_15 600 fto], [zAr T 0 a2_16 3 fko], [zArq T 3 a3_17 2 q1_20], [zArq T 4 a4_18 2 q2_21], [zArq T 5 a5_19 2 q3_22], w2_49, z0_o, w2_60, wd0_o, w2_69, wg0_o, w2_76, z1_o, w2_87, wd1_o, w2_96, wg1_o] _ _ := G
    refine lv_iinc (v := 2) (lv' := [(2, .int 2), (0, .ref t), (1, .ref o)]) hx hb dX9_takeAll_128 hl (k := 0) rfl (by decide) (by decide) (zLvf_h rfl) (fun ls hl => ?_)
    refine lv_goto (tgt := 78) hx hb dX9_takeAll_131 (by decide) ?_
    refine lv_iload_n hx hb dX9_takeAll_78 rfl (lv_at hl 0 rfl) ?_
    refine lv_iconst (v := 2) hx hb dX9_takeAll_79 (by decide) ?_
    refine lv_icmp_ge (tgt := 134) hx hb dX9_takeAll_80 (by decide) (fun _ => ?_) (fun q => absurd (by decide) q)
    have hw_103 : bTold T t l0 l1 d0 d1 g0 g1 lno flo plo x9 (upd (upd (upd fk 0 (fko 0)) 1 (fko 1)) 2 (fko 2)) [zO8 t a1_32 lno flo plo a2_33 a3_34 a4_35 a5_36, zAr T 1 a1_32 600 x9, zAr T 0 a2_33 3 (upd (upd (upd fk 0 (fko 0)) 1 (fko 1)) 2 (fko 2)), zArq T 3 a3_34 2 q1_37, zArq T 4 a4_35 2 q2_38, zArq T 5 a5_36 2 q3_39] := ⟨a1_32, a2_33, a3_34, a4_35, a5_36, q1_37, q2_38, q3_39, rfl, h_40, h_41, h_42, h_43, h_44, h_45⟩
    have G : zS T A s.heap s [[zO8 t a1_32 lno flo plo a2_33 a3_34 a4_35 a5_36, zAr T 1 a1_32 600 x9, zAr T 0 a2_33 3 (upd (upd (upd fk 0 (fko 0)) 1 (fko 1)) 2 (fko 2)), zArq T 3 a3_34 2 q1_37, zArq T 4 a4_35 2 q2_38, zArq T 5 a5_36 2 q3_39], [zO8 o a1_15 lno flo plo a2_16 a3_17 a4_18 a5_19], [zAr T 1 a1_15 600 fto], [zAr T 0 a2_16 3 fko], [zArq T 3 a3_17 2 q1_20], [zArq T 4 a4_18 2 q2_21], [zArq T 5 a5_19 2 q3_22], w2_49, z0_o, w2_60, wd0_o, w2_69, wg0_o, w2_76, z1_o, w2_87, wd1_o, w2_96, wg1_o] _ _ := G.re rfl
    have hw_104 : bTold T o l0o l1o d0o d1o g0o g1o lno flo plo fto fko [zO8 o a1_15 lno flo plo a2_16 a3_17 a4_18 a5_19, zAr T 1 a1_15 600 fto, zAr T 0 a2_16 3 fko, zArq T 3 a3_17 2 q1_20, zArq T 4 a4_18 2 q2_21, zArq T 5 a5_19 2 q3_22] := ⟨a1_15, a2_16, a3_17, a4_18, a5_19, q1_20, q2_21, q3_22, rfl, h_23, h_24, h_25, h_26, h_27, h_28⟩
    have G : zS T A s.heap s [[zO8 t a1_32 lno flo plo a2_33 a3_34 a4_35 a5_36, zAr T 1 a1_32 600 x9, zAr T 0 a2_33 3 (upd (upd (upd fk 0 (fko 0)) 1 (fko 1)) 2 (fko 2)), zArq T 3 a3_34 2 q1_37, zArq T 4 a4_35 2 q2_38, zArq T 5 a5_36 2 q3_39], [zO8 o a1_15 lno flo plo a2_16 a3_17 a4_18 a5_19, zAr T 1 a1_15 600 fto, zAr T 0 a2_16 3 fko, zArq T 3 a3_17 2 q1_20, zArq T 4 a4_18 2 q2_21, zArq T 5 a5_19 2 q3_22], w2_49, z0_o, w2_60, wd0_o, w2_69, wg0_o, w2_76, z1_o, w2_87, wd1_o, w2_96, wg1_o] _ _ := G.re rfl
    have G := G.sub (bs' := [[zO8 t a1_32 lno flo plo a2_33 a3_34 a4_35 a5_36, zAr T 1 a1_32 600 x9, zAr T 0 a2_33 3 (upd (upd (upd fk 0 (fko 0)) 1 (fko 1)) 2 (fko 2)), zArq T 3 a3_34 2 q1_37, zArq T 4 a4_35 2 q2_38, zArq T 5 a5_36 2 q3_39], w2_49, w2_76, w2_60, w2_87, w2_69, w2_96, [zO8 o a1_15 lno flo plo a2_16 a3_17 a4_18 a5_19, zAr T 1 a1_15 600 fto, zAr T 0 a2_16 3 fko, zArq T 3 a3_17 2 q1_20, zArq T 4 a4_18 2 q2_21, zArq T 5 a5_19 2 q3_22], z0_o, z1_o, wd0_o, wd1_o, wg0_o, wg1_o]) [0, 2, 8, 4, 10, 6, 12, 1, 3, 9, 5, 11, 7, 13] rfl
    exact z_back hQz_ (z_vret C hr hlocks G (Nat.le_of_ble_eq_true rfl) (Nat.le_of_ble_eq_true rfl) dX9_takeAll_134 ⟨([zO8 t a1_32 lno flo plo a2_33 a3_34 a4_35 a5_36, zAr T 1 a1_32 600 x9, zAr T 0 a2_33 3 (upd (upd (upd fk 0 (fko 0)) 1 (fko 1)) 2 (fko 2)), zArq T 3 a3_34 2 q1_37, zArq T 4 a4_35 2 q2_38, zArq T 5 a5_36 2 q3_39]), x9, (upd (upd (upd fk 0 (fko 0)) 1 (fko 1)) 2 (fko 2)), w2_49, g1_50, g2_51, g3_52, g4_53, w2_76, g1_77, g2_78, g3_79, g4_80, w2_60, g1_61, g2_62, g3_63, w2_87, g1_88, g2_89, g3_90, w2_69, g1_70, g2_71, w2_96, g1_97, g2_98, rfl, hw_103, (zKT_upd (zKT_upd (zKT_upd hK 0 (hKo 0 (by decide))) 1 (hKo 1 (by decide))) 2 (hKo 2 (by decide))), h_54, h_81, h_64, h_91, h_72, h_99, (zLI_eq hI0_o h_55 h_57), (zLI_eq hI1_o h_82 h_84), (hTo.elim fun zz zr => zr.elim fun z1 zr => zr.elim fun z2 zr => zr.elim fun z3 zr => zr.elim fun z4 zr => zr.elim fun z5 z6 => zz.elim fun a1 ar => ar.elim fun a2 ar => ar.elim fun a3 ar => ar.elim fun a4 a5 => ⟨⟨a1, a2, a3, (fun j hj => (show _ = fko j by rcases (show j = 0 ∨ j = 1 ∨ j = 2 by omega) with q | q | q <;> subst q <;> rfl).trans (a4 j hj)), (fun j hj => by rw [hx9 j (by omega)]; exact a5 j hj)⟩, zLnd_eq z1 (fun j hj => (hI0_o.2.1 j hj).2) h_55 h_56 h_57 h_58, zLnd_eq z2 (fun j hj => (hI1_o.2.1 j hj).2) h_82 h_83 h_84 h_85, zDyd_eq z3 h_65 h_66 h_67, zDyd_eq z4 h_92 h_93 h_94, zLgd_eq z5 h_73 h_74, zLgd_eq z6 h_100 h_101⟩)⟩)
  · have c_31n : ¬ 600 ≤ i := fun q => c_31 ((nI_leI (a := 600) (b := i) (by omega) (by omega)).mpr q)
    refine lv_aload_n hx hb dX9_takeAll_9 rfl (lv_at hl 1 rfl) ?_
    refine zEx8 ht9 ?_
    intro a1_105 a2_106 a3_107 a4_108 a5_109 q1_110 q2_111 q3_112
    refine zCu7 ?_
    intro hbs9 h_113 h_114 h_115 h_116 h_117 h_118
    clear ht9
    subst hbs9
    have G : zS T A s.heap s [[zO8 t a1_105 ln fl pl a2_106 a3_107 a4_108 a5_109], [zAr T 1 a1_105 600 x9], [zAr T 0 a2_106 3 fk], [zArq T 3 a3_107 2 q1_110], [zArq T 4 a4_108 2 q2_111], [zArq T 5 a5_109 2 q3_112], z0_, z1_, wd0_, wd1_, wg0_, wg1_, [zO8 o a1_15 lno flo plo a2_16 a3_17 a4_18 a5_19, zAr T 1 a1_15 600 fto, zAr T 0 a2_16 3 fko, zArq T 3 a3_17 2 q1_20, zArq T 4 a4_18 2 q2_21, zArq T 5 a5_19 2 q3_22], z0_o, z1_o, wd0_o, wd1_o, wg0_o, wg1_o] _ _ := G.re rfl
    refine z_get C G clX9 0 rfl 0 (by decide) m_fl_RX9_9 rfl dX9_takeAll_10 ?_
    refine lv_iload_n hx hb dX9_takeAll_13 rfl (lv_at hl 0 rfl) ?_
    refine lv_aload_n hx hb dX9_takeAll_14 rfl (lv_at hl 2 rfl) ?_
    have G : zS T A s.heap s [[zO8 t a1_105 ln fl pl a2_106 a3_107 a4_108 a5_109], [zAr T 1 a1_105 600 x9], [zAr T 0 a2_106 3 fk], [zArq T 3 a3_107 2 q1_110], [zArq T 4 a4_108 2 q2_111], [zArq T 5 a5_109 2 q3_112], z0_, z1_, wd0_, wd1_, wg0_, wg1_, [zO8 o a1_15 lno flo plo a2_16 a3_17 a4_18 a5_19], [zAr T 1 a1_15 600 fto], [zAr T 0 a2_16 3 fko], [zArq T 3 a3_17 2 q1_20], [zArq T 4 a4_18 2 q2_21], [zArq T 5 a5_19 2 q3_22], z0_o, z1_o, wd0_o, wd1_o, wg0_o, wg1_o] _ _ := G.re rfl
    refine z_get C G clX9 12 rfl 0 (by decide) m_fl_RX9_9 rfl dX9_takeAll_15 ?_
    refine lv_iload_n hx hb dX9_takeAll_18 rfl (lv_at hl 0 rfl) ?_
    refine z_bld C G 13 rfl (vp_in_nI (by omega) (by decide)) dX9_takeAll_19 ?_
    refine lv_topi (fun v_119 ev_119 => ?_)
    rw [nI_clamp (by omega)] at ev_119
    subst ev_119
    refine z_bst C G 1 rfl (vp_in_nI (by omega) (by decide)) dX9_takeAll_20 (fun H locs G => ?_)
    rw [nI_clamp (by omega)] at G
    have G : zS T A s.heap s [[zO8 t a1_105 ln fl pl a2_106 a3_107 a4_108 a5_109], [zAr T 1 a1_105 600 (upd x9 i (vp_nar .byte (fto i)))], [zAr T 0 a2_106 3 fk], [zArq T 3 a3_107 2 q1_110], [zArq T 4 a4_108 2 q2_111], [zArq T 5 a5_109 2 q3_112], z0_, z1_, wd0_, wd1_, wg0_, wg1_, [zO8 o a1_15 lno flo plo a2_16 a3_17 a4_18 a5_19], [zAr T 1 a1_15 600 fto], [zAr T 0 a2_16 3 fko], [zArq T 3 a3_17 2 q1_20], [zArq T 4 a4_18 2 q2_21], [zArq T 5 a5_19 2 q3_22], z0_o, z1_o, wd0_o, wd1_o, wg0_o, wg1_o] _ _ := G
    refine lv_iinc (v := nI (i + 1)) (lv' := [(2, .int (nI (i + 1))), (0, .ref t), (1, .ref o)]) hx hb dX9_takeAll_21 hl (k := 0) rfl (z_inc i 1) (by decide) (zLvf_h rfl) (fun ls hl => ?_)
    refine lv_goto (tgt := 2) hx hb dX9_takeAll_24 (by decide) ?_
    have hw_120 : bTold T t l0 l1 d0 d1 g0 g1 ln fl pl (upd x9 i (vp_nar .byte (fto i))) fk [zO8 t a1_105 ln fl pl a2_106 a3_107 a4_108 a5_109, zAr T 1 a1_105 600 (upd x9 i (vp_nar .byte (fto i))), zAr T 0 a2_106 3 fk, zArq T 3 a3_107 2 q1_110, zArq T 4 a4_108 2 q2_111, zArq T 5 a5_109 2 q3_112] := ⟨a1_105, a2_106, a3_107, a4_108, a5_109, q1_110, q2_111, q3_112, rfl, h_113, h_114, h_115, h_116, h_117, h_118⟩
    have G : zS T A s.heap s [[zO8 t a1_105 ln fl pl a2_106 a3_107 a4_108 a5_109, zAr T 1 a1_105 600 (upd x9 i (vp_nar .byte (fto i))), zAr T 0 a2_106 3 fk, zArq T 3 a3_107 2 q1_110, zArq T 4 a4_108 2 q2_111, zArq T 5 a5_109 2 q3_112], z0_, z1_, wd0_, wd1_, wg0_, wg1_, [zO8 o a1_15 lno flo plo a2_16 a3_17 a4_18 a5_19], [zAr T 1 a1_15 600 fto], [zAr T 0 a2_16 3 fko], [zArq T 3 a3_17 2 q1_20], [zArq T 4 a4_18 2 q2_21], [zArq T 5 a5_19 2 q3_22], z0_o, z1_o, wd0_o, wd1_o, wg0_o, wg1_o] _ _ := G.re rfl
    have hw_121 : bTold T o l0o l1o d0o d1o g0o g1o lno flo plo fto fko [zO8 o a1_15 lno flo plo a2_16 a3_17 a4_18 a5_19, zAr T 1 a1_15 600 fto, zAr T 0 a2_16 3 fko, zArq T 3 a3_17 2 q1_20, zArq T 4 a4_18 2 q2_21, zArq T 5 a5_19 2 q3_22] := ⟨a1_15, a2_16, a3_17, a4_18, a5_19, q1_20, q2_21, q3_22, rfl, h_23, h_24, h_25, h_26, h_27, h_28⟩
    have G : zS T A s.heap s [[zO8 t a1_105 ln fl pl a2_106 a3_107 a4_108 a5_109, zAr T 1 a1_105 600 (upd x9 i (vp_nar .byte (fto i))), zAr T 0 a2_106 3 fk, zArq T 3 a3_107 2 q1_110, zArq T 4 a4_108 2 q2_111, zArq T 5 a5_109 2 q3_112], z0_, z1_, wd0_, wd1_, wg0_, wg1_, [zO8 o a1_15 lno flo plo a2_16 a3_17 a4_18 a5_19, zAr T 1 a1_15 600 fto, zAr T 0 a2_16 3 fko, zArq T 3 a3_17 2 q1_20, zArq T 4 a4_18 2 q2_21, zArq T 5 a5_19 2 q3_22], z0_o, z1_o, wd0_o, wd1_o, wg0_o, wg1_o] _ _ := G.re rfl
    exact ih_2 (i + 1) ([zO8 t a1_105 ln fl pl a2_106 a3_107 a4_108 a5_109, zAr T 1 a1_105 600 (upd x9 i (vp_nar .byte (fto i))), zAr T 0 a2_106 3 fk, zArq T 3 a3_107 2 q1_110, zArq T 4 a4_108 2 q2_111, zArq T 5 a5_109 2 q3_112]) (upd x9 i (vp_nar .byte (fto i))) (show bTold T t l0 l1 d0 d1 g0 g1 ln fl pl (upd x9 i (vp_nar .byte (fto i))) fk ([zO8 t a1_105 ln fl pl a2_106 a3_107 a4_108 a5_109, zAr T 1 a1_105 600 (upd x9 i (vp_nar .byte (fto i))), zAr T 0 a2_106 3 fk, zArq T 3 a3_107 2 q1_110, zArq T 4 a4_108 2 q2_111, zArq T 5 a5_109 2 q3_112]) ∧ (i + 1) ≤ 600 ∧ (∀ j, j < (i + 1) → (upd x9 i (vp_nar .byte (fto i))) j = fto j) from ⟨hw_120, by omega, z_updE hx9 (pk_vb2 (hTo.1.2.2.2.2 i (by omega)).2)⟩) (show 600 - (i + 1) < 600 - i from by omega) _ _ ls G (lv_sub hl [0, 1, 2] rfl)
set_option maxHeartbeats 4000000 in
set_option maxRecDepth 100000 in
/-- c_f_imageN -/
theorem c_f_imageN (l : Launch) (T : zTy) (xo : Nat) (t : Nat) (im : Nat) (mk : Nat) (rd : Nat) (po : Nat) (co : Nat) (tr : Nat) (wa : Nat) (wb_ : Nat) (fi : Nat) (cd : Nat) (k_ : Int32) (hk : k_.toInt < 0 ∨ 3 ≤ k_.toInt) : zMi l T yX11_image cX11_image 2 (some .boolean) 3 0 0 [.ref xo, .int k_] [[zO10 xo t im mk rd po co tr wa wb_ fi cd]] (fun (r : Int32) bs => bs = [[zO10 xo t im mk rd po co tr wa wb_ fi cd]] ∧ r = 0) := by
  refine zMi_of (own := RX11) (by decide) rfl (Nat.le_of_ble_eq_true rfl) ?_
  intro p e s m args below meth c A ls C hr hlocks hnm hAe G hl
  refine zHide (fun Qz_ hQz_ => ?_)
  have hx := C.1
  have hb := C.2.1
  have hl : lv_has ls 2 [(0, .ref xo), (1, .int k_)] := hl
  refine lv_iload_n hx hb dX11_image_0 rfl (lv_at hl 1 rfl) ?_
  refine lv_if_lt (tgt := 9) hx hb dX11_image_1 (by decide) (fun c_1 => ?_) (fun c_1 => ?_)
  · have c_1n : k_.toInt < (0 : Int) := (fa_lt _ _).mp c_1
    refine lv_iconst (v := 0) hx hb dX11_image_9 (by decide) ?_
    exact z_back hQz_ (z_zret C hr hlocks G (Nat.le_of_ble_eq_true rfl) (Nat.le_of_ble_eq_true rfl) dX11_image_10 rfl ⟨rfl, rfl⟩)
  · have c_1n : ¬ k_.toInt < (0 : Int) := fun q => c_1 ((fa_lt _ _).mpr q)
    refine lv_iload_n hx hb dX11_image_4 rfl (lv_at hl 1 rfl) ?_
    refine lv_iconst (v := 3) hx hb dX11_image_5 (by decide) ?_
    refine lv_icmp_lt (tgt := 11) hx hb dX11_image_6 (by decide) (fun c_2 => ?_) (fun c_2 => ?_)
    · have c_2n : k_.toInt < (3 : Int) := (fa_lt _ _).mp c_2
      exact absurd (show (0 : Int) = 1 by omega) (by decide)
    · have c_2n : ¬ k_.toInt < (3 : Int) := fun q => c_2 ((fa_lt _ _).mpr q)
      refine lv_iconst (v := 0) hx hb dX11_image_9 (by decide) ?_
      exact z_back hQz_ (z_zret C hr hlocks G (Nat.le_of_ble_eq_true rfl) (Nat.le_of_ble_eq_true rfl) dX11_image_10 rfl ⟨rfl, rfl⟩)
set_option maxHeartbeats 4000000 in
set_option maxRecDepth 100000 in
/-- c_f_againN -/
theorem c_f_againN (l : Launch) (T : zTy) (xo : Nat) (t : Nat) (im : Nat) (mk : Nat) (rd : Nat) (po : Nat) (co : Nat) (tr : Nat) (wa : Nat) (wb_ : Nat) (fi : Nat) (cd : Nat) (k_ : Int32) (hk : k_.toInt < 0 ∨ 3 ≤ k_.toInt) : zMi l T yX11_again cX11_again 2 (some .boolean) 3 0 0 [.ref xo, .int k_] [[zO10 xo t im mk rd po co tr wa wb_ fi cd]] (fun (r : Int32) bs => bs = [[zO10 xo t im mk rd po co tr wa wb_ fi cd]] ∧ r = 0) := by
  refine zMi_of (own := RX11) (by decide) rfl (Nat.le_of_ble_eq_true rfl) ?_
  intro p e s m args below meth c A ls C hr hlocks hnm hAe G hl
  refine zHide (fun Qz_ hQz_ => ?_)
  have hx := C.1
  have hb := C.2.1
  have hl : lv_has ls 2 [(0, .ref xo), (1, .int k_)] := hl
  refine lv_iload_n hx hb dX11_again_0 rfl (lv_at hl 1 rfl) ?_
  refine lv_if_lt (tgt := 18) hx hb dX11_again_1 (by decide) (fun c_1 => ?_) (fun c_1 => ?_)
  · have c_1n : k_.toInt < (0 : Int) := (fa_lt _ _).mp c_1
    refine lv_iconst (v := 0) hx hb dX11_again_18 (by decide) ?_
    exact z_back hQz_ (z_zret C hr hlocks G (Nat.le_of_ble_eq_true rfl) (Nat.le_of_ble_eq_true rfl) dX11_again_19 rfl ⟨rfl, rfl⟩)
  · have c_1n : ¬ k_.toInt < (0 : Int) := fun q => c_1 ((fa_lt _ _).mpr q)
    refine lv_iload_n hx hb dX11_again_4 rfl (lv_at hl 1 rfl) ?_
    refine lv_iconst (v := 3) hx hb dX11_again_5 (by decide) ?_
    refine lv_icmp_ge (tgt := 18) hx hb dX11_again_6 (by decide) (fun c_2 => ?_) (fun c_2 => ?_)
    · have c_2n : (3 : Int) ≤ k_.toInt := (fa_le _ _).mp c_2
      refine lv_iconst (v := 0) hx hb dX11_again_18 (by decide) ?_
      exact z_back hQz_ (z_zret C hr hlocks G (Nat.le_of_ble_eq_true rfl) (Nat.le_of_ble_eq_true rfl) dX11_again_19 rfl ⟨rfl, rfl⟩)
    · have c_2n : ¬ (3 : Int) ≤ k_.toInt := fun q => c_2 ((fa_le _ _).mpr q)
      exact absurd (show (0 : Int) = 1 by omega) (by decide)
set_option maxHeartbeats 4000000 in
set_option maxRecDepth 100000 in
/-- c_f_image0 -/
theorem c_f_image0 (l : Launch) (T : zTy) (xo : Nat) (t : Nat) (im : Nat) (mk : Nat) (rd : Nat) (po : Nat) (co : Nat) (tr : Nat) (wa : Nat) (wb_ : Nat) (fi : Nat) (cd : Nat) (l0 : Nat) (l1 : Nat) (d0 : Nat) (d1 : Nat) (g0 : Nat) (g1 : Nat) (ln : Int32) (fl : Int32) (pl : Int32) (ft : Nat → Int32) (fk : Nat → Int32) (wt : va_W) (cr0_ : Int32) (inn0_ : Int32) (k10_ : Nat → Int32) (k20_ : Nat → Int32) (k30_ : Nat → Int32) (k40_ : Nat → Int32) (z0_ : va_W) (cr1_ : Int32) (inn1_ : Int32) (k11_ : Nat → Int32) (k21_ : Nat → Int32) (k31_ : Nat → Int32) (k41_ : Nat → Int32) (z1_ : va_W) (dd0_ : Int32) (p10_ : Nat → Int32) (p20_ : Nat → Int32) (p30_ : Nat → Int32) (wd0_ : va_W) (dd1_ : Int32) (p11_ : Nat → Int32) (p21_ : Nat → Int32) (p31_ : Nat → Int32) (wd1_ : va_W) (gg0_ : Int32) (q10_ : Nat → Int32) (q20_ : Nat → Int32) (wg0_ : va_W) (gg1_ : Int32) (q11_ : Nat → Int32) (q21_ : Nat → Int32) (wg1_ : va_W) (m0 : Nat) (l0a : Nat) (l1a : Nat) (d0a : Nat) (d1a : Nat) (g0a : Nat) (g1a : Nat) (lna : Int32) (fla : Int32) (pla : Int32) (fta : Nat → Int32) (fka : Nat → Int32) (wta : va_W) (cr0_a : Int32) (inn0_a : Int32) (k10_a : Nat → Int32) (k20_a : Nat → Int32) (k30_a : Nat → Int32) (k40_a : Nat → Int32) (z0_a : va_W) (cr1_a : Int32) (inn1_a : Int32) (k11_a : Nat → Int32) (k21_a : Nat → Int32) (k31_a : Nat → Int32) (k41_a : Nat → Int32) (z1_a : va_W) (dd0_a : Int32) (p10_a : Nat → Int32) (p20_a : Nat → Int32) (p30_a : Nat → Int32) (wd0_a : va_W) (dd1_a : Int32) (p11_a : Nat → Int32) (p21_a : Nat → Int32) (p31_a : Nat → Int32) (wd1_a : va_W) (gg0_a : Int32) (q10_a : Nat → Int32) (q20_a : Nat → Int32) (wg0_a : va_W) (gg1_a : Int32) (q11_a : Nat → Int32) (q21_a : Nat → Int32) (wg1_a : va_W) (m1 : Nat) (m2 : Nat) (qi : Nat → Option Nat) (fmk : Nat → Int32) (Gr : Nat → Int32) (ht : bTold T t l0 l1 d0 d1 g0 g1 ln fl pl ft fk wt) (hK : zKT fk) (hz0_ : bLand T l0 cr0_ inn0_ k10_ k20_ k30_ k40_ z0_) (hI0_ : zLI cr0_ k10_ k30_) (hz1_ : bLand T l1 cr1_ inn1_ k11_ k21_ k31_ k41_ z1_) (hI1_ : zLI cr1_ k11_ k31_) (hd0_ : bDay T d0 dd0_ p10_ p20_ p30_ wd0_) (hd1_ : bDay T d1 dd1_ p11_ p21_ p31_ wd1_) (hg0_ : bLog T g0 gg0_ q10_ q20_ wg0_) (hg1_ : bLog T g1 gg1_ q11_ q21_ wg1_) (hta : bTold T m0 l0a l1a d0a d1a g0a g1a lna fla pla fta fka wta) (hKa : zKT fka) (hz0_a : bLand T l0a cr0_a inn0_a k10_a k20_a k30_a k40_a z0_a) (hI0_a : zLI cr0_a k10_a k30_a) (hz1_a : bLand T l1a cr1_a inn1_a k11_a k21_a k31_a k41_a z1_a) (hI1_a : zLI cr1_a k11_a k31_a) (hd0_a : bDay T d0a dd0_a p10_a p20_a p30_a wd0_a) (hd1_a : bDay T d1a dd1_a p11_a p21_a p31_a wd1_a) (hg0_a : bLog T g0a gg0_a q10_a q20_a wg0_a) (hg1_a : bLog T g1a gg1_a q11_a q21_a wg1_a) (hm0 : qi 0 = some m0) (hm1 : qi 1 = some m1) (hm2 : qi 2 = some m2) (hT : zTR ln fl pl ft fk cr0_ inn0_ k10_ k20_ k30_ k40_ cr1_ inn1_ k11_ k21_ k31_ k41_ dd0_ p10_ p20_ p30_ dd1_ p11_ p21_ p31_ gg0_ q10_ q20_ gg1_ q11_ q21_ Gr) : zMi l T yX11_image cX11_image 2 (some .boolean) 3 0 0 [.ref xo, .int 0] [[zO10 xo t im mk rd po co tr wa wb_ fi cd], wt, z0_, z1_, wd0_, wd1_, wg0_, wg1_, wta, z0_a, z1_a, wd0_a, wd1_a, wg0_a, wg1_a, [zArq T 6 im 3 qi], [zAr T 2 mk 3 fmk]] (fun (r : Int32) bs => ∃ (lna_2 : Int32) (fla_2 : Int32) (pla_2 : Int32) (fta_2 : Nat → Int32) (fka_2 : Nat → Int32) (wta_2 : va_W) (cr0_a_2 : Int32) (inn0_a_2 : Int32) (k10_a_2 : Nat → Int32) (k20_a_2 : Nat → Int32) (k30_a_2 : Nat → Int32) (k40_a_2 : Nat → Int32) (z0_a_2 : va_W) (cr1_a_2 : Int32) (inn1_a_2 : Int32) (k11_a_2 : Nat → Int32) (k21_a_2 : Nat → Int32) (k31_a_2 : Nat → Int32) (k41_a_2 : Nat → Int32) (z1_a_2 : va_W) (dd0_a_2 : Int32) (p10_a_2 : Nat → Int32) (p20_a_2 : Nat → Int32) (p30_a_2 : Nat → Int32) (wd0_a_2 : va_W) (dd1_a_2 : Int32) (p11_a_2 : Nat → Int32) (p21_a_2 : Nat → Int32) (p31_a_2 : Nat → Int32) (wd1_a_2 : va_W) (gg0_a_2 : Int32) (q10_a_2 : Nat → Int32) (q20_a_2 : Nat → Int32) (wg0_a_2 : va_W) (gg1_a_2 : Int32) (q11_a_2 : Nat → Int32) (q21_a_2 : Nat → Int32) (wg1_a_2 : va_W) (fmk_2 : Nat → Int32), bs = [[zO10 xo t im mk rd po co tr wa wb_ fi cd], wt, z0_, z1_, wd0_, wd1_, wg0_, wg1_, wta_2, z0_a_2, z1_a_2, wd0_a_2, wd1_a_2, wg0_a_2, wg1_a_2, [zArq T 6 im 3 qi], [zAr T 2 mk 3 fmk_2]] ∧ bTold T m0 l0a l1a d0a d1a g0a g1a lna_2 fla_2 pla_2 fta_2 fka_2 wta_2 ∧ zKT fka_2 ∧ bLand T l0a cr0_a_2 inn0_a_2 k10_a_2 k20_a_2 k30_a_2 k40_a_2 z0_a_2 ∧ zLI cr0_a_2 k10_a_2 k30_a_2 ∧ bLand T l1a cr1_a_2 inn1_a_2 k11_a_2 k21_a_2 k31_a_2 k41_a_2 z1_a_2 ∧ zLI cr1_a_2 k11_a_2 k31_a_2 ∧ bDay T d0a dd0_a_2 p10_a_2 p20_a_2 p30_a_2 wd0_a_2 ∧ bDay T d1a dd1_a_2 p11_a_2 p21_a_2 p31_a_2 wd1_a_2 ∧ bLog T g0a gg0_a_2 q10_a_2 q20_a_2 wg0_a_2 ∧ bLog T g1a gg1_a_2 q11_a_2 q21_a_2 wg1_a_2 ∧ r = 1 ∧ fmk_2 = upd fmk 0 1 ∧ zTR lna_2 fla_2 pla_2 fta_2 fka_2 cr0_a_2 inn0_a_2 k10_a_2 k20_a_2 k30_a_2 k40_a_2 cr1_a_2 inn1_a_2 k11_a_2 k21_a_2 k31_a_2 k41_a_2 dd0_a_2 p10_a_2 p20_a_2 p30_a_2 dd1_a_2 p11_a_2 p21_a_2 p31_a_2 gg0_a_2 q10_a_2 q20_a_2 gg1_a_2 q11_a_2 q21_a_2 Gr) := by
  refine zMi_of (own := RX11) (by decide) rfl (Nat.le_of_ble_eq_true rfl) ?_
  intro p e s m args below meth c A ls C hr hlocks hnm hAe G hl
  refine zHide (fun Qz_ hQz_ => ?_)
  have hx := C.1
  have hb := C.2.1
  have hl : lv_has ls 2 [(0, .ref xo), (1, .int 0)] := hl
  refine lv_iload_n hx hb dX11_image_0 rfl (lv_at hl 1 rfl) ?_
  refine lv_if_lt (tgt := 9) hx hb dX11_image_1 (by decide) (fun q => absurd q (by decide)) (fun _ => ?_)
  refine lv_iload_n hx hb dX11_image_4 rfl (lv_at hl 1 rfl) ?_
  refine lv_iconst (v := 3) hx hb dX11_image_5 (by decide) ?_
  refine lv_icmp_lt (tgt := 11) hx hb dX11_image_6 (by decide) (fun _ => ?_) (fun q => absurd (by decide) q)
  refine lv_aload_n hx hb dX11_image_11 rfl (lv_at hl 0 rfl) ?_
  refine z_get C G clX11 0 rfl 1 (by decide) m_fl_RX11_16 rfl dX11_image_12 ?_
  refine lv_iload_n hx hb dX11_image_15 rfl (lv_at hl 1 rfl) ?_
  refine z_ald C G 15 6 rfl rfl (vp_in_nI (n := 0) (by decide) (by decide)) dX11_image_16 ?_
  rw [show qi ((0 : Int32).toNatClampNeg) = some m0 from hm0]
  refine lv_aload_n hx hb dX11_image_17 rfl (lv_at hl 0 rfl) ?_
  refine z_get C G clX11 0 rfl 0 (by decide) m_fl_RX11_10 rfl dX11_image_18 ?_
  refine z_Vv (bc := [wta, z0_a, z1_a, wd0_a, wd1_a, wg0_a, wg1_a, wt, z0_, z1_, wd0_, wd1_, wg0_, wg1_]) (br := [[zO10 xo t im mk rd po co tr wa wb_ fi cd], [zArq T 6 im 3 qi], [zAr T 2 mk 3 fmk]]) (As := [.ref t]) (rest := []) C G (c_f_Told_takeAll l T m0 l0a l1a d0a d1a g0a g1a lna fla pla fta fka wta cr0_a inn0_a k10_a k20_a k30_a k40_a z0_a cr1_a inn1_a k11_a k21_a k31_a k41_a z1_a dd0_a p10_a p20_a p30_a wd0_a dd1_a p11_a p21_a p31_a wd1_a gg0_a q10_a q20_a wg0_a gg1_a q11_a q21_a wg1_a t l0 l1 d0 d1 g0 g1 ln fl pl ft fk wt cr0_ inn0_ k10_ k20_ k30_ k40_ z0_ cr1_ inn1_ k11_ k21_ k31_ k41_ z1_ dd0_ p10_ p20_ p30_ wd0_ dd1_ p11_ p21_ p31_ wd1_ gg0_ q10_ q20_ wg0_ gg1_ q11_ q21_ wg1_ Gr hta (by first | with_reducible assumption | with_reducible rfl | omega | assumption | rfl) hz0_a (by first | with_reducible assumption | with_reducible rfl | omega | assumption | rfl) hz1_a (by first | with_reducible assumption | with_reducible rfl | omega | assumption | rfl) hd0_a hd1_a hg0_a hg1_a ht (by first | with_reducible assumption | with_reducible rfl | omega | assumption | rfl) hz0_ (by first | with_reducible assumption | with_reducible rfl | omega | assumption | rfl) hz1_ (by first | with_reducible assumption | with_reducible rfl | omega | assumption | rfl) hd0_ hd1_ hg0_ hg1_ hT) (kV_RX11_117 C.2.2.2.2 (Nat.le_of_ble_eq_true rfl) (Nat.le_of_ble_eq_true rfl)) [8, 9, 10, 11, 12, 13, 14, 1, 2, 3, 4, 5, 6, 7] [1, 0, 0, 0, 0, 0, 0, 0, 0, 0, 0, 0, 0, 0] rfl rfl (ci := 8) (qc := (RX9, TX9, 8)) rfl rfl (List.mem_flatten.mpr ⟨_, List.mem_of_getElem? (i := 0) rfl, (bTold_mem hta).choose_spec⟩) rfl rfl hl.1 dX11_image_21 (Nat.le_of_ble_eq_true rfl) (Nat.le_of_ble_eq_true rfl) (fun b1 H locs hw G => ?_)
  refine zEx27 hw ?_
  intro wt2_1 g9_2 fk2_3 w2_4 s0_5 s0_6 s0_7 s0_8 w2_9 s1_10 s1_11 s1_12 s1_13 w2_14 s2_15 s2_16 s2_17 w2_18 s3_19 s3_20 s3_21 w2_22 s4_23 s4_24 w2_25 s5_26 s5_27
  refine zCu12 ?_
  intro hbs9 h_28 h_29 h_30 h_31 h_32 h_33 h_34 h_35 h_36 h_37 h_38
  clear hw
  subst hbs9
  have G : zS T A s.heap s [[zO10 xo t im mk rd po co tr wa wb_ fi cd], [zArq T 6 im 3 qi], [zAr T 2 mk 3 fmk], wt2_1, w2_4, w2_9, w2_14, w2_18, w2_22, w2_25, wt, z0_, z1_, wd0_, wd1_, wg0_, wg1_] _ _ := G
  refine lv_aload_n hx hb dX11_image_24 rfl (lv_at hl 0 rfl) ?_
  refine z_get C G clX11 0 rfl 2 (by decide) m_fl_RX11_20 rfl dX11_image_25 ?_
  refine lv_iload_n hx hb dX11_image_28 rfl (lv_at hl 1 rfl) ?_
  refine lv_iconst (v := 1) hx hb dX11_image_29 (by decide) ?_
  refine z_zst C G 2 rfl (vp_in_nI (n := 0) (by decide) (by decide)) dX11_image_30 (fun H locs G => ?_)
  have G : zS T A s.heap s [[zO10 xo t im mk rd po co tr wa wb_ fi cd], [zArq T 6 im 3 qi], [zAr T 2 mk 3 (upd fmk 0 (vp_nar .boolean 1))], wt2_1, w2_4, w2_9, w2_14, w2_18, w2_22, w2_25, wt, z0_, z1_, wd0_, wd1_, wg0_, wg1_] _ _ := G
  refine lv_iconst (v := 1) hx hb dX11_image_31 (by decide) ?_
  have G := G.sub (bs' := [[zO10 xo t im mk rd po co tr wa wb_ fi cd], wt, z0_, z1_, wd0_, wd1_, wg0_, wg1_, wt2_1, w2_4, w2_9, w2_14, w2_18, w2_22, w2_25, [zArq T 6 im 3 qi], [zAr T 2 mk 3 (upd fmk 0 (vp_nar .boolean 1))]]) [0, 10, 11, 12, 13, 14, 15, 16, 3, 4, 5, 6, 7, 8, 9, 1, 2] rfl
  exact z_back hQz_ (z_zret C hr hlocks G (Nat.le_of_ble_eq_true rfl) (Nat.le_of_ble_eq_true rfl) dX11_image_32 rfl ⟨ln, fl, pl, g9_2, fk2_3, wt2_1, cr0_, inn0_, s0_5, s0_6, s0_7, s0_8, w2_4, cr1_, inn1_, s1_10, s1_11, s1_12, s1_13, w2_9, dd0_, s2_15, s2_16, s2_17, w2_14, dd1_, s3_19, s3_20, s3_21, w2_18, gg0_, s4_23, s4_24, w2_22, gg1_, s5_26, s5_27, w2_25, (upd fmk 0 (vp_nar .boolean 1)), rfl, h_28, (by first | with_reducible assumption | omega | trivial | assumption), h_30, (by first | with_reducible assumption | omega | trivial | assumption), h_31, (by first | with_reducible assumption | omega | trivial | assumption), h_32, h_33, h_34, h_35, rfl, rfl, h_38⟩)
set_option maxHeartbeats 4000000 in
set_option maxRecDepth 100000 in
/-- c_f_image1 -/
theorem c_f_image1 (l : Launch) (T : zTy) (xo : Nat) (t : Nat) (im : Nat) (mk : Nat) (rd : Nat) (po : Nat) (co : Nat) (tr : Nat) (wa : Nat) (wb_ : Nat) (fi : Nat) (cd : Nat) (l0 : Nat) (l1 : Nat) (d0 : Nat) (d1 : Nat) (g0 : Nat) (g1 : Nat) (ln : Int32) (fl : Int32) (pl : Int32) (ft : Nat → Int32) (fk : Nat → Int32) (wt : va_W) (cr0_ : Int32) (inn0_ : Int32) (k10_ : Nat → Int32) (k20_ : Nat → Int32) (k30_ : Nat → Int32) (k40_ : Nat → Int32) (z0_ : va_W) (cr1_ : Int32) (inn1_ : Int32) (k11_ : Nat → Int32) (k21_ : Nat → Int32) (k31_ : Nat → Int32) (k41_ : Nat → Int32) (z1_ : va_W) (dd0_ : Int32) (p10_ : Nat → Int32) (p20_ : Nat → Int32) (p30_ : Nat → Int32) (wd0_ : va_W) (dd1_ : Int32) (p11_ : Nat → Int32) (p21_ : Nat → Int32) (p31_ : Nat → Int32) (wd1_ : va_W) (gg0_ : Int32) (q10_ : Nat → Int32) (q20_ : Nat → Int32) (wg0_ : va_W) (gg1_ : Int32) (q11_ : Nat → Int32) (q21_ : Nat → Int32) (wg1_ : va_W) (m0 : Nat) (m1 : Nat) (l0b : Nat) (l1b : Nat) (d0b : Nat) (d1b : Nat) (g0b : Nat) (g1b : Nat) (lnb : Int32) (flb : Int32) (plb : Int32) (ftb : Nat → Int32) (fkb : Nat → Int32) (wtb : va_W) (cr0_b : Int32) (inn0_b : Int32) (k10_b : Nat → Int32) (k20_b : Nat → Int32) (k30_b : Nat → Int32) (k40_b : Nat → Int32) (z0_b : va_W) (cr1_b : Int32) (inn1_b : Int32) (k11_b : Nat → Int32) (k21_b : Nat → Int32) (k31_b : Nat → Int32) (k41_b : Nat → Int32) (z1_b : va_W) (dd0_b : Int32) (p10_b : Nat → Int32) (p20_b : Nat → Int32) (p30_b : Nat → Int32) (wd0_b : va_W) (dd1_b : Int32) (p11_b : Nat → Int32) (p21_b : Nat → Int32) (p31_b : Nat → Int32) (wd1_b : va_W) (gg0_b : Int32) (q10_b : Nat → Int32) (q20_b : Nat → Int32) (wg0_b : va_W) (gg1_b : Int32) (q11_b : Nat → Int32) (q21_b : Nat → Int32) (wg1_b : va_W) (m2 : Nat) (qi : Nat → Option Nat) (fmk : Nat → Int32) (Gr : Nat → Int32) (ht : bTold T t l0 l1 d0 d1 g0 g1 ln fl pl ft fk wt) (hK : zKT fk) (hz0_ : bLand T l0 cr0_ inn0_ k10_ k20_ k30_ k40_ z0_) (hI0_ : zLI cr0_ k10_ k30_) (hz1_ : bLand T l1 cr1_ inn1_ k11_ k21_ k31_ k41_ z1_) (hI1_ : zLI cr1_ k11_ k31_) (hd0_ : bDay T d0 dd0_ p10_ p20_ p30_ wd0_) (hd1_ : bDay T d1 dd1_ p11_ p21_ p31_ wd1_) (hg0_ : bLog T g0 gg0_ q10_ q20_ wg0_) (hg1_ : bLog T g1 gg1_ q11_ q21_ wg1_) (htb : bTold T m1 l0b l1b d0b d1b g0b g1b lnb flb plb ftb fkb wtb) (hKb : zKT fkb) (hz0_b : bLand T l0b cr0_b inn0_b k10_b k20_b k30_b k40_b z0_b) (hI0_b : zLI cr0_b k10_b k30_b) (hz1_b : bLand T l1b cr1_b inn1_b k11_b k21_b k31_b k41_b z1_b) (hI1_b : zLI cr1_b k11_b k31_b) (hd0_b : bDay T d0b dd0_b p10_b p20_b p30_b wd0_b) (hd1_b : bDay T d1b dd1_b p11_b p21_b p31_b wd1_b) (hg0_b : bLog T g0b gg0_b q10_b q20_b wg0_b) (hg1_b : bLog T g1b gg1_b q11_b q21_b wg1_b) (hm0 : qi 0 = some m0) (hm1 : qi 1 = some m1) (hm2 : qi 2 = some m2) (hT : zTR ln fl pl ft fk cr0_ inn0_ k10_ k20_ k30_ k40_ cr1_ inn1_ k11_ k21_ k31_ k41_ dd0_ p10_ p20_ p30_ dd1_ p11_ p21_ p31_ gg0_ q10_ q20_ gg1_ q11_ q21_ Gr) : zMi l T yX11_image cX11_image 2 (some .boolean) 3 0 0 [.ref xo, .int 1] [[zO10 xo t im mk rd po co tr wa wb_ fi cd], wt, z0_, z1_, wd0_, wd1_, wg0_, wg1_, wtb, z0_b, z1_b, wd0_b, wd1_b, wg0_b, wg1_b, [zArq T 6 im 3 qi], [zAr T 2 mk 3 fmk]] (fun (r : Int32) bs => ∃ (lnb_2 : Int32) (flb_2 : Int32) (plb_2 : Int32) (ftb_2 : Nat → Int32) (fkb_2 : Nat → Int32) (wtb_2 : va_W) (cr0_b_2 : Int32) (inn0_b_2 : Int32) (k10_b_2 : Nat → Int32) (k20_b_2 : Nat → Int32) (k30_b_2 : Nat → Int32) (k40_b_2 : Nat → Int32) (z0_b_2 : va_W) (cr1_b_2 : Int32) (inn1_b_2 : Int32) (k11_b_2 : Nat → Int32) (k21_b_2 : Nat → Int32) (k31_b_2 : Nat → Int32) (k41_b_2 : Nat → Int32) (z1_b_2 : va_W) (dd0_b_2 : Int32) (p10_b_2 : Nat → Int32) (p20_b_2 : Nat → Int32) (p30_b_2 : Nat → Int32) (wd0_b_2 : va_W) (dd1_b_2 : Int32) (p11_b_2 : Nat → Int32) (p21_b_2 : Nat → Int32) (p31_b_2 : Nat → Int32) (wd1_b_2 : va_W) (gg0_b_2 : Int32) (q10_b_2 : Nat → Int32) (q20_b_2 : Nat → Int32) (wg0_b_2 : va_W) (gg1_b_2 : Int32) (q11_b_2 : Nat → Int32) (q21_b_2 : Nat → Int32) (wg1_b_2 : va_W) (fmk_2 : Nat → Int32), bs = [[zO10 xo t im mk rd po co tr wa wb_ fi cd], wt, z0_, z1_, wd0_, wd1_, wg0_, wg1_, wtb_2, z0_b_2, z1_b_2, wd0_b_2, wd1_b_2, wg0_b_2, wg1_b_2, [zArq T 6 im 3 qi], [zAr T 2 mk 3 fmk_2]] ∧ bTold T m1 l0b l1b d0b d1b g0b g1b lnb_2 flb_2 plb_2 ftb_2 fkb_2 wtb_2 ∧ zKT fkb_2 ∧ bLand T l0b cr0_b_2 inn0_b_2 k10_b_2 k20_b_2 k30_b_2 k40_b_2 z0_b_2 ∧ zLI cr0_b_2 k10_b_2 k30_b_2 ∧ bLand T l1b cr1_b_2 inn1_b_2 k11_b_2 k21_b_2 k31_b_2 k41_b_2 z1_b_2 ∧ zLI cr1_b_2 k11_b_2 k31_b_2 ∧ bDay T d0b dd0_b_2 p10_b_2 p20_b_2 p30_b_2 wd0_b_2 ∧ bDay T d1b dd1_b_2 p11_b_2 p21_b_2 p31_b_2 wd1_b_2 ∧ bLog T g0b gg0_b_2 q10_b_2 q20_b_2 wg0_b_2 ∧ bLog T g1b gg1_b_2 q11_b_2 q21_b_2 wg1_b_2 ∧ r = 1 ∧ fmk_2 = upd fmk 1 1 ∧ zTR lnb_2 flb_2 plb_2 ftb_2 fkb_2 cr0_b_2 inn0_b_2 k10_b_2 k20_b_2 k30_b_2 k40_b_2 cr1_b_2 inn1_b_2 k11_b_2 k21_b_2 k31_b_2 k41_b_2 dd0_b_2 p10_b_2 p20_b_2 p30_b_2 dd1_b_2 p11_b_2 p21_b_2 p31_b_2 gg0_b_2 q10_b_2 q20_b_2 gg1_b_2 q11_b_2 q21_b_2 Gr) := by
  refine zMi_of (own := RX11) (by decide) rfl (Nat.le_of_ble_eq_true rfl) ?_
  intro p e s m args below meth c A ls C hr hlocks hnm hAe G hl
  refine zHide (fun Qz_ hQz_ => ?_)
  have hx := C.1
  have hb := C.2.1
  have hl : lv_has ls 2 [(0, .ref xo), (1, .int 1)] := hl
  refine lv_iload_n hx hb dX11_image_0 rfl (lv_at hl 1 rfl) ?_
  refine lv_if_lt (tgt := 9) hx hb dX11_image_1 (by decide) (fun q => absurd q (by decide)) (fun _ => ?_)
  refine lv_iload_n hx hb dX11_image_4 rfl (lv_at hl 1 rfl) ?_
  refine lv_iconst (v := 3) hx hb dX11_image_5 (by decide) ?_
  refine lv_icmp_lt (tgt := 11) hx hb dX11_image_6 (by decide) (fun _ => ?_) (fun q => absurd (by decide) q)
  refine lv_aload_n hx hb dX11_image_11 rfl (lv_at hl 0 rfl) ?_
  refine z_get C G clX11 0 rfl 1 (by decide) m_fl_RX11_16 rfl dX11_image_12 ?_
  refine lv_iload_n hx hb dX11_image_15 rfl (lv_at hl 1 rfl) ?_
  refine z_ald C G 15 6 rfl rfl (vp_in_nI (n := 1) (by decide) (by decide)) dX11_image_16 ?_
  rw [show qi ((1 : Int32).toNatClampNeg) = some m1 from hm1]
  refine lv_aload_n hx hb dX11_image_17 rfl (lv_at hl 0 rfl) ?_
  refine z_get C G clX11 0 rfl 0 (by decide) m_fl_RX11_10 rfl dX11_image_18 ?_
  refine z_Vv (bc := [wtb, z0_b, z1_b, wd0_b, wd1_b, wg0_b, wg1_b, wt, z0_, z1_, wd0_, wd1_, wg0_, wg1_]) (br := [[zO10 xo t im mk rd po co tr wa wb_ fi cd], [zArq T 6 im 3 qi], [zAr T 2 mk 3 fmk]]) (As := [.ref t]) (rest := []) C G (c_f_Told_takeAll l T m1 l0b l1b d0b d1b g0b g1b lnb flb plb ftb fkb wtb cr0_b inn0_b k10_b k20_b k30_b k40_b z0_b cr1_b inn1_b k11_b k21_b k31_b k41_b z1_b dd0_b p10_b p20_b p30_b wd0_b dd1_b p11_b p21_b p31_b wd1_b gg0_b q10_b q20_b wg0_b gg1_b q11_b q21_b wg1_b t l0 l1 d0 d1 g0 g1 ln fl pl ft fk wt cr0_ inn0_ k10_ k20_ k30_ k40_ z0_ cr1_ inn1_ k11_ k21_ k31_ k41_ z1_ dd0_ p10_ p20_ p30_ wd0_ dd1_ p11_ p21_ p31_ wd1_ gg0_ q10_ q20_ wg0_ gg1_ q11_ q21_ wg1_ Gr htb (by first | with_reducible assumption | with_reducible rfl | omega | assumption | rfl) hz0_b (by first | with_reducible assumption | with_reducible rfl | omega | assumption | rfl) hz1_b (by first | with_reducible assumption | with_reducible rfl | omega | assumption | rfl) hd0_b hd1_b hg0_b hg1_b ht (by first | with_reducible assumption | with_reducible rfl | omega | assumption | rfl) hz0_ (by first | with_reducible assumption | with_reducible rfl | omega | assumption | rfl) hz1_ (by first | with_reducible assumption | with_reducible rfl | omega | assumption | rfl) hd0_ hd1_ hg0_ hg1_ hT) (kV_RX11_117 C.2.2.2.2 (Nat.le_of_ble_eq_true rfl) (Nat.le_of_ble_eq_true rfl)) [8, 9, 10, 11, 12, 13, 14, 1, 2, 3, 4, 5, 6, 7] [1, 0, 0, 0, 0, 0, 0, 0, 0, 0, 0, 0, 0, 0] rfl rfl (ci := 8) (qc := (RX9, TX9, 8)) rfl rfl (List.mem_flatten.mpr ⟨_, List.mem_of_getElem? (i := 0) rfl, (bTold_mem htb).choose_spec⟩) rfl rfl hl.1 dX11_image_21 (Nat.le_of_ble_eq_true rfl) (Nat.le_of_ble_eq_true rfl) (fun b1 H locs hw G => ?_)
  refine zEx27 hw ?_
  intro wt2_1 g9_2 fk2_3 w2_4 s0_5 s0_6 s0_7 s0_8 w2_9 s1_10 s1_11 s1_12 s1_13 w2_14 s2_15 s2_16 s2_17 w2_18 s3_19 s3_20 s3_21 w2_22 s4_23 s4_24 w2_25 s5_26 s5_27
  refine zCu12 ?_
  intro hbs9 h_28 h_29 h_30 h_31 h_32 h_33 h_34 h_35 h_36 h_37 h_38
  clear hw
  subst hbs9
  have G : zS T A s.heap s [[zO10 xo t im mk rd po co tr wa wb_ fi cd], [zArq T 6 im 3 qi], [zAr T 2 mk 3 fmk], wt2_1, w2_4, w2_9, w2_14, w2_18, w2_22, w2_25, wt, z0_, z1_, wd0_, wd1_, wg0_, wg1_] _ _ := G
  refine lv_aload_n hx hb dX11_image_24 rfl (lv_at hl 0 rfl) ?_
  refine z_get C G clX11 0 rfl 2 (by decide) m_fl_RX11_20 rfl dX11_image_25 ?_
  refine lv_iload_n hx hb dX11_image_28 rfl (lv_at hl 1 rfl) ?_
  refine lv_iconst (v := 1) hx hb dX11_image_29 (by decide) ?_
  refine z_zst C G 2 rfl (vp_in_nI (n := 1) (by decide) (by decide)) dX11_image_30 (fun H locs G => ?_)
  have G : zS T A s.heap s [[zO10 xo t im mk rd po co tr wa wb_ fi cd], [zArq T 6 im 3 qi], [zAr T 2 mk 3 (upd fmk 1 (vp_nar .boolean 1))], wt2_1, w2_4, w2_9, w2_14, w2_18, w2_22, w2_25, wt, z0_, z1_, wd0_, wd1_, wg0_, wg1_] _ _ := G
  refine lv_iconst (v := 1) hx hb dX11_image_31 (by decide) ?_
  have G := G.sub (bs' := [[zO10 xo t im mk rd po co tr wa wb_ fi cd], wt, z0_, z1_, wd0_, wd1_, wg0_, wg1_, wt2_1, w2_4, w2_9, w2_14, w2_18, w2_22, w2_25, [zArq T 6 im 3 qi], [zAr T 2 mk 3 (upd fmk 1 (vp_nar .boolean 1))]]) [0, 10, 11, 12, 13, 14, 15, 16, 3, 4, 5, 6, 7, 8, 9, 1, 2] rfl
  exact z_back hQz_ (z_zret C hr hlocks G (Nat.le_of_ble_eq_true rfl) (Nat.le_of_ble_eq_true rfl) dX11_image_32 rfl ⟨ln, fl, pl, g9_2, fk2_3, wt2_1, cr0_, inn0_, s0_5, s0_6, s0_7, s0_8, w2_4, cr1_, inn1_, s1_10, s1_11, s1_12, s1_13, w2_9, dd0_, s2_15, s2_16, s2_17, w2_14, dd1_, s3_19, s3_20, s3_21, w2_18, gg0_, s4_23, s4_24, w2_22, gg1_, s5_26, s5_27, w2_25, (upd fmk 1 (vp_nar .boolean 1)), rfl, h_28, (by first | with_reducible assumption | omega | trivial | assumption), h_30, (by first | with_reducible assumption | omega | trivial | assumption), h_31, (by first | with_reducible assumption | omega | trivial | assumption), h_32, h_33, h_34, h_35, rfl, rfl, h_38⟩)
set_option maxHeartbeats 4000000 in
set_option maxRecDepth 100000 in
/-- c_f_image2 -/
theorem c_f_image2 (l : Launch) (T : zTy) (xo : Nat) (t : Nat) (im : Nat) (mk : Nat) (rd : Nat) (po : Nat) (co : Nat) (tr : Nat) (wa : Nat) (wb_ : Nat) (fi : Nat) (cd : Nat) (l0 : Nat) (l1 : Nat) (d0 : Nat) (d1 : Nat) (g0 : Nat) (g1 : Nat) (ln : Int32) (fl : Int32) (pl : Int32) (ft : Nat → Int32) (fk : Nat → Int32) (wt : va_W) (cr0_ : Int32) (inn0_ : Int32) (k10_ : Nat → Int32) (k20_ : Nat → Int32) (k30_ : Nat → Int32) (k40_ : Nat → Int32) (z0_ : va_W) (cr1_ : Int32) (inn1_ : Int32) (k11_ : Nat → Int32) (k21_ : Nat → Int32) (k31_ : Nat → Int32) (k41_ : Nat → Int32) (z1_ : va_W) (dd0_ : Int32) (p10_ : Nat → Int32) (p20_ : Nat → Int32) (p30_ : Nat → Int32) (wd0_ : va_W) (dd1_ : Int32) (p11_ : Nat → Int32) (p21_ : Nat → Int32) (p31_ : Nat → Int32) (wd1_ : va_W) (gg0_ : Int32) (q10_ : Nat → Int32) (q20_ : Nat → Int32) (wg0_ : va_W) (gg1_ : Int32) (q11_ : Nat → Int32) (q21_ : Nat → Int32) (wg1_ : va_W) (m0 : Nat) (m1 : Nat) (m2 : Nat) (l0c : Nat) (l1c : Nat) (d0c : Nat) (d1c : Nat) (g0c : Nat) (g1c : Nat) (lnc : Int32) (flc : Int32) (plc : Int32) (ftc : Nat → Int32) (fkc : Nat → Int32) (wtc : va_W) (cr0_c : Int32) (inn0_c : Int32) (k10_c : Nat → Int32) (k20_c : Nat → Int32) (k30_c : Nat → Int32) (k40_c : Nat → Int32) (z0_c : va_W) (cr1_c : Int32) (inn1_c : Int32) (k11_c : Nat → Int32) (k21_c : Nat → Int32) (k31_c : Nat → Int32) (k41_c : Nat → Int32) (z1_c : va_W) (dd0_c : Int32) (p10_c : Nat → Int32) (p20_c : Nat → Int32) (p30_c : Nat → Int32) (wd0_c : va_W) (dd1_c : Int32) (p11_c : Nat → Int32) (p21_c : Nat → Int32) (p31_c : Nat → Int32) (wd1_c : va_W) (gg0_c : Int32) (q10_c : Nat → Int32) (q20_c : Nat → Int32) (wg0_c : va_W) (gg1_c : Int32) (q11_c : Nat → Int32) (q21_c : Nat → Int32) (wg1_c : va_W) (qi : Nat → Option Nat) (fmk : Nat → Int32) (Gr : Nat → Int32) (ht : bTold T t l0 l1 d0 d1 g0 g1 ln fl pl ft fk wt) (hK : zKT fk) (hz0_ : bLand T l0 cr0_ inn0_ k10_ k20_ k30_ k40_ z0_) (hI0_ : zLI cr0_ k10_ k30_) (hz1_ : bLand T l1 cr1_ inn1_ k11_ k21_ k31_ k41_ z1_) (hI1_ : zLI cr1_ k11_ k31_) (hd0_ : bDay T d0 dd0_ p10_ p20_ p30_ wd0_) (hd1_ : bDay T d1 dd1_ p11_ p21_ p31_ wd1_) (hg0_ : bLog T g0 gg0_ q10_ q20_ wg0_) (hg1_ : bLog T g1 gg1_ q11_ q21_ wg1_) (htc : bTold T m2 l0c l1c d0c d1c g0c g1c lnc flc plc ftc fkc wtc) (hKc : zKT fkc) (hz0_c : bLand T l0c cr0_c inn0_c k10_c k20_c k30_c k40_c z0_c) (hI0_c : zLI cr0_c k10_c k30_c) (hz1_c : bLand T l1c cr1_c inn1_c k11_c k21_c k31_c k41_c z1_c) (hI1_c : zLI cr1_c k11_c k31_c) (hd0_c : bDay T d0c dd0_c p10_c p20_c p30_c wd0_c) (hd1_c : bDay T d1c dd1_c p11_c p21_c p31_c wd1_c) (hg0_c : bLog T g0c gg0_c q10_c q20_c wg0_c) (hg1_c : bLog T g1c gg1_c q11_c q21_c wg1_c) (hm0 : qi 0 = some m0) (hm1 : qi 1 = some m1) (hm2 : qi 2 = some m2) (hT : zTR ln fl pl ft fk cr0_ inn0_ k10_ k20_ k30_ k40_ cr1_ inn1_ k11_ k21_ k31_ k41_ dd0_ p10_ p20_ p30_ dd1_ p11_ p21_ p31_ gg0_ q10_ q20_ gg1_ q11_ q21_ Gr) : zMi l T yX11_image cX11_image 2 (some .boolean) 3 0 0 [.ref xo, .int 2] [[zO10 xo t im mk rd po co tr wa wb_ fi cd], wt, z0_, z1_, wd0_, wd1_, wg0_, wg1_, wtc, z0_c, z1_c, wd0_c, wd1_c, wg0_c, wg1_c, [zArq T 6 im 3 qi], [zAr T 2 mk 3 fmk]] (fun (r : Int32) bs => ∃ (lnc_2 : Int32) (flc_2 : Int32) (plc_2 : Int32) (ftc_2 : Nat → Int32) (fkc_2 : Nat → Int32) (wtc_2 : va_W) (cr0_c_2 : Int32) (inn0_c_2 : Int32) (k10_c_2 : Nat → Int32) (k20_c_2 : Nat → Int32) (k30_c_2 : Nat → Int32) (k40_c_2 : Nat → Int32) (z0_c_2 : va_W) (cr1_c_2 : Int32) (inn1_c_2 : Int32) (k11_c_2 : Nat → Int32) (k21_c_2 : Nat → Int32) (k31_c_2 : Nat → Int32) (k41_c_2 : Nat → Int32) (z1_c_2 : va_W) (dd0_c_2 : Int32) (p10_c_2 : Nat → Int32) (p20_c_2 : Nat → Int32) (p30_c_2 : Nat → Int32) (wd0_c_2 : va_W) (dd1_c_2 : Int32) (p11_c_2 : Nat → Int32) (p21_c_2 : Nat → Int32) (p31_c_2 : Nat → Int32) (wd1_c_2 : va_W) (gg0_c_2 : Int32) (q10_c_2 : Nat → Int32) (q20_c_2 : Nat → Int32) (wg0_c_2 : va_W) (gg1_c_2 : Int32) (q11_c_2 : Nat → Int32) (q21_c_2 : Nat → Int32) (wg1_c_2 : va_W) (fmk_2 : Nat → Int32), bs = [[zO10 xo t im mk rd po co tr wa wb_ fi cd], wt, z0_, z1_, wd0_, wd1_, wg0_, wg1_, wtc_2, z0_c_2, z1_c_2, wd0_c_2, wd1_c_2, wg0_c_2, wg1_c_2, [zArq T 6 im 3 qi], [zAr T 2 mk 3 fmk_2]] ∧ bTold T m2 l0c l1c d0c d1c g0c g1c lnc_2 flc_2 plc_2 ftc_2 fkc_2 wtc_2 ∧ zKT fkc_2 ∧ bLand T l0c cr0_c_2 inn0_c_2 k10_c_2 k20_c_2 k30_c_2 k40_c_2 z0_c_2 ∧ zLI cr0_c_2 k10_c_2 k30_c_2 ∧ bLand T l1c cr1_c_2 inn1_c_2 k11_c_2 k21_c_2 k31_c_2 k41_c_2 z1_c_2 ∧ zLI cr1_c_2 k11_c_2 k31_c_2 ∧ bDay T d0c dd0_c_2 p10_c_2 p20_c_2 p30_c_2 wd0_c_2 ∧ bDay T d1c dd1_c_2 p11_c_2 p21_c_2 p31_c_2 wd1_c_2 ∧ bLog T g0c gg0_c_2 q10_c_2 q20_c_2 wg0_c_2 ∧ bLog T g1c gg1_c_2 q11_c_2 q21_c_2 wg1_c_2 ∧ r = 1 ∧ fmk_2 = upd fmk 2 1 ∧ zTR lnc_2 flc_2 plc_2 ftc_2 fkc_2 cr0_c_2 inn0_c_2 k10_c_2 k20_c_2 k30_c_2 k40_c_2 cr1_c_2 inn1_c_2 k11_c_2 k21_c_2 k31_c_2 k41_c_2 dd0_c_2 p10_c_2 p20_c_2 p30_c_2 dd1_c_2 p11_c_2 p21_c_2 p31_c_2 gg0_c_2 q10_c_2 q20_c_2 gg1_c_2 q11_c_2 q21_c_2 Gr) := by
  refine zMi_of (own := RX11) (by decide) rfl (Nat.le_of_ble_eq_true rfl) ?_
  intro p e s m args below meth c A ls C hr hlocks hnm hAe G hl
  refine zHide (fun Qz_ hQz_ => ?_)
  have hx := C.1
  have hb := C.2.1
  have hl : lv_has ls 2 [(0, .ref xo), (1, .int 2)] := hl
  refine lv_iload_n hx hb dX11_image_0 rfl (lv_at hl 1 rfl) ?_
  refine lv_if_lt (tgt := 9) hx hb dX11_image_1 (by decide) (fun q => absurd q (by decide)) (fun _ => ?_)
  refine lv_iload_n hx hb dX11_image_4 rfl (lv_at hl 1 rfl) ?_
  refine lv_iconst (v := 3) hx hb dX11_image_5 (by decide) ?_
  refine lv_icmp_lt (tgt := 11) hx hb dX11_image_6 (by decide) (fun _ => ?_) (fun q => absurd (by decide) q)
  refine lv_aload_n hx hb dX11_image_11 rfl (lv_at hl 0 rfl) ?_
  refine z_get C G clX11 0 rfl 1 (by decide) m_fl_RX11_16 rfl dX11_image_12 ?_
  refine lv_iload_n hx hb dX11_image_15 rfl (lv_at hl 1 rfl) ?_
  refine z_ald C G 15 6 rfl rfl (vp_in_nI (n := 2) (by decide) (by decide)) dX11_image_16 ?_
  rw [show qi ((2 : Int32).toNatClampNeg) = some m2 from hm2]
  refine lv_aload_n hx hb dX11_image_17 rfl (lv_at hl 0 rfl) ?_
  refine z_get C G clX11 0 rfl 0 (by decide) m_fl_RX11_10 rfl dX11_image_18 ?_
  refine z_Vv (bc := [wtc, z0_c, z1_c, wd0_c, wd1_c, wg0_c, wg1_c, wt, z0_, z1_, wd0_, wd1_, wg0_, wg1_]) (br := [[zO10 xo t im mk rd po co tr wa wb_ fi cd], [zArq T 6 im 3 qi], [zAr T 2 mk 3 fmk]]) (As := [.ref t]) (rest := []) C G (c_f_Told_takeAll l T m2 l0c l1c d0c d1c g0c g1c lnc flc plc ftc fkc wtc cr0_c inn0_c k10_c k20_c k30_c k40_c z0_c cr1_c inn1_c k11_c k21_c k31_c k41_c z1_c dd0_c p10_c p20_c p30_c wd0_c dd1_c p11_c p21_c p31_c wd1_c gg0_c q10_c q20_c wg0_c gg1_c q11_c q21_c wg1_c t l0 l1 d0 d1 g0 g1 ln fl pl ft fk wt cr0_ inn0_ k10_ k20_ k30_ k40_ z0_ cr1_ inn1_ k11_ k21_ k31_ k41_ z1_ dd0_ p10_ p20_ p30_ wd0_ dd1_ p11_ p21_ p31_ wd1_ gg0_ q10_ q20_ wg0_ gg1_ q11_ q21_ wg1_ Gr htc (by first | with_reducible assumption | with_reducible rfl | omega | assumption | rfl) hz0_c (by first | with_reducible assumption | with_reducible rfl | omega | assumption | rfl) hz1_c (by first | with_reducible assumption | with_reducible rfl | omega | assumption | rfl) hd0_c hd1_c hg0_c hg1_c ht (by first | with_reducible assumption | with_reducible rfl | omega | assumption | rfl) hz0_ (by first | with_reducible assumption | with_reducible rfl | omega | assumption | rfl) hz1_ (by first | with_reducible assumption | with_reducible rfl | omega | assumption | rfl) hd0_ hd1_ hg0_ hg1_ hT) (kV_RX11_117 C.2.2.2.2 (Nat.le_of_ble_eq_true rfl) (Nat.le_of_ble_eq_true rfl)) [8, 9, 10, 11, 12, 13, 14, 1, 2, 3, 4, 5, 6, 7] [1, 0, 0, 0, 0, 0, 0, 0, 0, 0, 0, 0, 0, 0] rfl rfl (ci := 8) (qc := (RX9, TX9, 8)) rfl rfl (List.mem_flatten.mpr ⟨_, List.mem_of_getElem? (i := 0) rfl, (bTold_mem htc).choose_spec⟩) rfl rfl hl.1 dX11_image_21 (Nat.le_of_ble_eq_true rfl) (Nat.le_of_ble_eq_true rfl) (fun b1 H locs hw G => ?_)
  refine zEx27 hw ?_
  intro wt2_1 g9_2 fk2_3 w2_4 s0_5 s0_6 s0_7 s0_8 w2_9 s1_10 s1_11 s1_12 s1_13 w2_14 s2_15 s2_16 s2_17 w2_18 s3_19 s3_20 s3_21 w2_22 s4_23 s4_24 w2_25 s5_26 s5_27
  refine zCu12 ?_
  intro hbs9 h_28 h_29 h_30 h_31 h_32 h_33 h_34 h_35 h_36 h_37 h_38
  clear hw
  subst hbs9
  have G : zS T A s.heap s [[zO10 xo t im mk rd po co tr wa wb_ fi cd], [zArq T 6 im 3 qi], [zAr T 2 mk 3 fmk], wt2_1, w2_4, w2_9, w2_14, w2_18, w2_22, w2_25, wt, z0_, z1_, wd0_, wd1_, wg0_, wg1_] _ _ := G
  refine lv_aload_n hx hb dX11_image_24 rfl (lv_at hl 0 rfl) ?_
  refine z_get C G clX11 0 rfl 2 (by decide) m_fl_RX11_20 rfl dX11_image_25 ?_
  refine lv_iload_n hx hb dX11_image_28 rfl (lv_at hl 1 rfl) ?_
  refine lv_iconst (v := 1) hx hb dX11_image_29 (by decide) ?_
  refine z_zst C G 2 rfl (vp_in_nI (n := 2) (by decide) (by decide)) dX11_image_30 (fun H locs G => ?_)
  have G : zS T A s.heap s [[zO10 xo t im mk rd po co tr wa wb_ fi cd], [zArq T 6 im 3 qi], [zAr T 2 mk 3 (upd fmk 2 (vp_nar .boolean 1))], wt2_1, w2_4, w2_9, w2_14, w2_18, w2_22, w2_25, wt, z0_, z1_, wd0_, wd1_, wg0_, wg1_] _ _ := G
  refine lv_iconst (v := 1) hx hb dX11_image_31 (by decide) ?_
  have G := G.sub (bs' := [[zO10 xo t im mk rd po co tr wa wb_ fi cd], wt, z0_, z1_, wd0_, wd1_, wg0_, wg1_, wt2_1, w2_4, w2_9, w2_14, w2_18, w2_22, w2_25, [zArq T 6 im 3 qi], [zAr T 2 mk 3 (upd fmk 2 (vp_nar .boolean 1))]]) [0, 10, 11, 12, 13, 14, 15, 16, 3, 4, 5, 6, 7, 8, 9, 1, 2] rfl
  exact z_back hQz_ (z_zret C hr hlocks G (Nat.le_of_ble_eq_true rfl) (Nat.le_of_ble_eq_true rfl) dX11_image_32 rfl ⟨ln, fl, pl, g9_2, fk2_3, wt2_1, cr0_, inn0_, s0_5, s0_6, s0_7, s0_8, w2_4, cr1_, inn1_, s1_10, s1_11, s1_12, s1_13, w2_9, dd0_, s2_15, s2_16, s2_17, w2_14, dd1_, s3_19, s3_20, s3_21, w2_18, gg0_, s4_23, s4_24, w2_22, gg1_, s5_26, s5_27, w2_25, (upd fmk 2 (vp_nar .boolean 1)), rfl, h_28, (by first | with_reducible assumption | omega | trivial | assumption), h_30, (by first | with_reducible assumption | omega | trivial | assumption), h_31, (by first | with_reducible assumption | omega | trivial | assumption), h_32, h_33, h_34, h_35, rfl, rfl, h_38⟩)
set_option maxHeartbeats 4000000 in
set_option maxRecDepth 100000 in
/-- c_f_again0 -/
theorem c_f_again0 (l : Launch) (T : zTy) (xo : Nat) (t : Nat) (im : Nat) (mk : Nat) (rd : Nat) (po : Nat) (co : Nat) (tr : Nat) (wa : Nat) (wb_ : Nat) (fi : Nat) (cd : Nat) (l0 : Nat) (l1 : Nat) (d0 : Nat) (d1 : Nat) (g0 : Nat) (g1 : Nat) (ln : Int32) (fl : Int32) (pl : Int32) (ft : Nat → Int32) (fk : Nat → Int32) (wt : va_W) (cr0_ : Int32) (inn0_ : Int32) (k10_ : Nat → Int32) (k20_ : Nat → Int32) (k30_ : Nat → Int32) (k40_ : Nat → Int32) (z0_ : va_W) (cr1_ : Int32) (inn1_ : Int32) (k11_ : Nat → Int32) (k21_ : Nat → Int32) (k31_ : Nat → Int32) (k41_ : Nat → Int32) (z1_ : va_W) (dd0_ : Int32) (p10_ : Nat → Int32) (p20_ : Nat → Int32) (p30_ : Nat → Int32) (wd0_ : va_W) (dd1_ : Int32) (p11_ : Nat → Int32) (p21_ : Nat → Int32) (p31_ : Nat → Int32) (wd1_ : va_W) (gg0_ : Int32) (q10_ : Nat → Int32) (q20_ : Nat → Int32) (wg0_ : va_W) (gg1_ : Int32) (q11_ : Nat → Int32) (q21_ : Nat → Int32) (wg1_ : va_W) (m0 : Nat) (l0a : Nat) (l1a : Nat) (d0a : Nat) (d1a : Nat) (g0a : Nat) (g1a : Nat) (lna : Int32) (fla : Int32) (pla : Int32) (fta : Nat → Int32) (fka : Nat → Int32) (wta : va_W) (cr0_a : Int32) (inn0_a : Int32) (k10_a : Nat → Int32) (k20_a : Nat → Int32) (k30_a : Nat → Int32) (k40_a : Nat → Int32) (z0_a : va_W) (cr1_a : Int32) (inn1_a : Int32) (k11_a : Nat → Int32) (k21_a : Nat → Int32) (k31_a : Nat → Int32) (k41_a : Nat → Int32) (z1_a : va_W) (dd0_a : Int32) (p10_a : Nat → Int32) (p20_a : Nat → Int32) (p30_a : Nat → Int32) (wd0_a : va_W) (dd1_a : Int32) (p11_a : Nat → Int32) (p21_a : Nat → Int32) (p31_a : Nat → Int32) (wd1_a : va_W) (gg0_a : Int32) (q10_a : Nat → Int32) (q20_a : Nat → Int32) (wg0_a : va_W) (gg1_a : Int32) (q11_a : Nat → Int32) (q21_a : Nat → Int32) (wg1_a : va_W) (m1 : Nat) (m2 : Nat) (qi : Nat → Option Nat) (fmk : Nat → Int32) (laA : Nat) (mdA : Int32) (wyA : Int32) (pc_A : Int32) (f1A : Nat → Int32) (f2A : Nat → Int32) (f3A : Nat → Int32) (f4A : Nat → Int32) (f5A : Nat → Int32) (f6A : Nat → Int32) (n4A : Nat) (wwA : va_W) (laB : Nat) (mdB : Int32) (wyB : Int32) (pc_B : Int32) (f1B : Nat → Int32) (f2B : Nat → Int32) (f3B : Nat → Int32) (f4B : Nat → Int32) (f5B : Nat → Int32) (f6B : Nat → Int32) (n4B : Nat) (wwB : va_W) (e0f : Int32) (e1f : Int32) (e2f : Int32) (e3f : Int32) (e4f : Int32) (e5f : Int32) (r1f : Nat → Int32) (m1f : Nat) (r2f : Nat → Int32) (wff : va_W) (Gr : Nat → Int32) (Gw : Nat → Int32) (ht : bTold T t l0 l1 d0 d1 g0 g1 ln fl pl ft fk wt) (hK : zKT fk) (hz0_ : bLand T l0 cr0_ inn0_ k10_ k20_ k30_ k40_ z0_) (hI0_ : zLI cr0_ k10_ k30_) (hz1_ : bLand T l1 cr1_ inn1_ k11_ k21_ k31_ k41_ z1_) (hI1_ : zLI cr1_ k11_ k31_) (hd0_ : bDay T d0 dd0_ p10_ p20_ p30_ wd0_) (hd1_ : bDay T d1 dd1_ p11_ p21_ p31_ wd1_) (hg0_ : bLog T g0 gg0_ q10_ q20_ wg0_) (hg1_ : bLog T g1 gg1_ q11_ q21_ wg1_) (hta : bTold T m0 l0a l1a d0a d1a g0a g1a lna fla pla fta fka wta) (hKa : zKT fka) (hz0_a : bLand T l0a cr0_a inn0_a k10_a k20_a k30_a k40_a z0_a) (hI0_a : zLI cr0_a k10_a k30_a) (hz1_a : bLand T l1a cr1_a inn1_a k11_a k21_a k31_a k41_a z1_a) (hI1_a : zLI cr1_a k11_a k31_a) (hd0_a : bDay T d0a dd0_a p10_a p20_a p30_a wd0_a) (hd1_a : bDay T d1a dd1_a p11_a p21_a p31_a wd1_a) (hg0_a : bLog T g0a gg0_a q10_a q20_a wg0_a) (hg1_a : bLog T g1a gg1_a q11_a q21_a wg1_a) (hm0 : qi 0 = some m0) (hm1 : qi 1 = some m1) (hm2 : qi 2 = some m2) (hwwA : bWays T wa laA mdA wyA pc_A f1A f2A f3A f4A f5A f6A n4A wwA) (hwwB : bWays T wb_ laB mdB wyB pc_B f1B f2B f3B f4B f5B f6B n4B wwB) (hwff : bFit T fi e0f e1f e2f e3f e4f e5f r1f m1f r2f wff) (hT : zTR ln fl pl ft fk cr0_ inn0_ k10_ k20_ k30_ k40_ cr1_ inn1_ k11_ k21_ k31_ k41_ dd0_ p10_ p20_ p30_ dd1_ p11_ p21_ p31_ gg0_ q10_ q20_ gg1_ q11_ q21_ Gr) (hTw : (¬ fmk 0 = 0 → zTR lna fla pla fta fka cr0_a inn0_a k10_a k20_a k30_a k40_a cr1_a inn1_a k11_a k21_a k31_a k41_a dd0_a p10_a p20_a p30_a dd1_a p11_a p21_a p31_a gg0_a q10_a q20_a gg1_a q11_a q21_a Gw)) : zMi l T yX11_again cX11_again 2 (some .boolean) 3 0 0 [.ref xo, .int 0] [[zO10 xo t im mk rd po co tr wa wb_ fi cd], wt, z0_, z1_, wd0_, wd1_, wg0_, wg1_, wta, z0_a, z1_a, wd0_a, wd1_a, wg0_a, wg1_a, [zArq T 6 im 3 qi], [zAr T 2 mk 3 fmk], wwA, wwB, wff] (fun (r : Int32) bs => ∃ (ln_2 : Int32) (fl_2 : Int32) (pl_2 : Int32) (ft_2 : Nat → Int32) (fk_2 : Nat → Int32) (wt_2 : va_W) (cr0__2 : Int32) (inn0__2 : Int32) (k10__2 : Nat → Int32) (k20__2 : Nat → Int32) (k30__2 : Nat → Int32) (k40__2 : Nat → Int32) (z0__2 : va_W) (cr1__2 : Int32) (inn1__2 : Int32) (k11__2 : Nat → Int32) (k21__2 : Nat → Int32) (k31__2 : Nat → Int32) (k41__2 : Nat → Int32) (z1__2 : va_W) (dd0__2 : Int32) (p10__2 : Nat → Int32) (p20__2 : Nat → Int32) (p30__2 : Nat → Int32) (wd0__2 : va_W) (dd1__2 : Int32) (p11__2 : Nat → Int32) (p21__2 : Nat → Int32) (p31__2 : Nat → Int32) (wd1__2 : va_W) (gg0__2 : Int32) (q10__2 : Nat → Int32) (q20__2 : Nat → Int32) (wg0__2 : va_W) (gg1__2 : Int32) (q11__2 : Nat → Int32) (q21__2 : Nat → Int32) (wg1__2 : va_W) (wwA_2 : va_W) (wwB_2 : va_W) (wff_2 : va_W) (mdA_2 : Int32) (mdB_2 : Int32) (e0f_2 : Int32), bs = [[zO10 xo t im mk rd po co tr wa wb_ fi cd], wt_2, z0__2, z1__2, wd0__2, wd1__2, wg0__2, wg1__2, wta, z0_a, z1_a, wd0_a, wd1_a, wg0_a, wg1_a, [zArq T 6 im 3 qi], [zAr T 2 mk 3 fmk], wwA_2, wwB_2, wff_2] ∧ bTold T t l0 l1 d0 d1 g0 g1 ln_2 fl_2 pl_2 ft_2 fk_2 wt_2 ∧ zKT fk_2 ∧ bLand T l0 cr0__2 inn0__2 k10__2 k20__2 k30__2 k40__2 z0__2 ∧ zLI cr0__2 k10__2 k30__2 ∧ bLand T l1 cr1__2 inn1__2 k11__2 k21__2 k31__2 k41__2 z1__2 ∧ zLI cr1__2 k11__2 k31__2 ∧ bDay T d0 dd0__2 p10__2 p20__2 p30__2 wd0__2 ∧ bDay T d1 dd1__2 p11__2 p21__2 p31__2 wd1__2 ∧ bLog T g0 gg0__2 q10__2 q20__2 wg0__2 ∧ bLog T g1 gg1__2 q11__2 q21__2 wg1__2 ∧ bWays T wa laA mdA_2 wyA pc_A f1A f2A f3A f4A f5A f6A n4A wwA_2 ∧ bWays T wb_ laB mdB_2 wyB pc_B f1B f2B f3B f4B f5B f6B n4B wwB_2 ∧ bFit T fi e0f_2 e1f e2f e3f e4f e5f r1f m1f r2f wff_2 ∧ (mdA_2 = 0 ∧ mdB_2 = 0 ∧ e0f_2 = 0 ∨ mdA_2 = mdA ∧ mdB_2 = mdB ∧ e0f_2 = 0 ∨ mdA_2 = mdA ∧ mdB_2 = mdB ∧ e0f_2 = e0f) ∧ (fmk 0 = 0 ∧ r = 0 ∧ zTR ln_2 fl_2 pl_2 ft_2 fk_2 cr0__2 inn0__2 k10__2 k20__2 k30__2 k40__2 cr1__2 inn1__2 k11__2 k21__2 k31__2 k41__2 dd0__2 p10__2 p20__2 p30__2 dd1__2 p11__2 p21__2 p31__2 gg0__2 q10__2 q20__2 gg1__2 q11__2 q21__2 Gr ∨ ¬ fmk 0 = 0 ∧ r = 1 ∧ zTR ln_2 fl_2 pl_2 ft_2 fk_2 cr0__2 inn0__2 k10__2 k20__2 k30__2 k40__2 cr1__2 inn1__2 k11__2 k21__2 k31__2 k41__2 dd0__2 p10__2 p20__2 p30__2 dd1__2 p11__2 p21__2 p31__2 gg0__2 q10__2 q20__2 gg1__2 q11__2 q21__2 Gw) ∧ (fmk 0 = 0 ∨ mdA_2 = 0 ∧ mdB_2 = 0 ∧ e0f_2 = 0)) := by
  refine zMi_of (own := RX11) (by decide) rfl (Nat.le_of_ble_eq_true rfl) ?_
  intro p e s m args below meth c A ls C hr hlocks hnm hAe G hl
  refine zHide (fun Qz_ hQz_ => ?_)
  have hx := C.1
  have hb := C.2.1
  replace hTw : zHd ((¬ fmk 0 = 0 → zTR lna fla pla fta fka cr0_a inn0_a k10_a k20_a k30_a k40_a cr1_a inn1_a k11_a k21_a k31_a k41_a dd0_a p10_a p20_a p30_a dd1_a p11_a p21_a p31_a gg0_a q10_a q20_a gg1_a q11_a q21_a Gw)) := hTw
  have hl : lv_has ls 2 [(0, .ref xo), (1, .int 0)] := hl
  refine lv_iload_n hx hb dX11_again_0 rfl (lv_at hl 1 rfl) ?_
  refine lv_if_lt (tgt := 18) hx hb dX11_again_1 (by decide) (fun q => absurd q (by decide)) (fun _ => ?_)
  refine lv_iload_n hx hb dX11_again_4 rfl (lv_at hl 1 rfl) ?_
  refine lv_iconst (v := 3) hx hb dX11_again_5 (by decide) ?_
  refine lv_icmp_ge (tgt := 18) hx hb dX11_again_6 (by decide) (fun q => absurd q (by decide)) (fun _ => ?_)
  refine lv_aload_n hx hb dX11_again_9 rfl (lv_at hl 0 rfl) ?_
  refine z_get C G clX11 0 rfl 2 (by decide) m_fl_RX11_20 rfl dX11_again_10 ?_
  refine lv_iload_n hx hb dX11_again_13 rfl (lv_at hl 1 rfl) ?_
  refine z_zld C G 16 rfl (vp_in_nI (n := 0) (by decide) (by decide)) dX11_again_14 ?_
  refine lv_topi (fun v_1 ev_1 => ?_)
  rw [show ((0 : Int32).toNatClampNeg) = 0 from rfl] at ev_1
  subst ev_1
  refine lv_if_ne (tgt := 20) hx hb dX11_again_15 (by decide) (fun c_2 => ?_) (fun c_2 => ?_)
  · have c_2n : ¬ (fmk 0).toInt = (0 : Int) := fun q => c_2 ((fa_eq _ _).mpr q)
    refine lv_aload_n hx hb dX11_again_20 rfl (lv_at hl 0 rfl) ?_
    refine z_get C G clX11 0 rfl 0 (by decide) m_fl_RX11_10 rfl dX11_again_21 ?_
    refine lv_aload_n hx hb dX11_again_24 rfl (lv_at hl 0 rfl) ?_
    refine z_get C G clX11 0 rfl 1 (by decide) m_fl_RX11_16 rfl dX11_again_25 ?_
    refine lv_iload_n hx hb dX11_again_28 rfl (lv_at hl 1 rfl) ?_
    refine z_ald C G 15 6 rfl rfl (vp_in_nI (n := 0) (by decide) (by decide)) dX11_again_29 ?_
    rw [show qi ((0 : Int32).toNatClampNeg) = some m0 from hm0]
    refine z_Vv (bc := [wt, z0_, z1_, wd0_, wd1_, wg0_, wg1_, wta, z0_a, z1_a, wd0_a, wd1_a, wg0_a, wg1_a]) (br := [[zO10 xo t im mk rd po co tr wa wb_ fi cd], [zArq T 6 im 3 qi], [zAr T 2 mk 3 fmk], wwA, wwB, wff]) (As := [.ref m0]) (rest := []) C G (c_f_Told_takeAll l T t l0 l1 d0 d1 g0 g1 ln fl pl ft fk wt cr0_ inn0_ k10_ k20_ k30_ k40_ z0_ cr1_ inn1_ k11_ k21_ k31_ k41_ z1_ dd0_ p10_ p20_ p30_ wd0_ dd1_ p11_ p21_ p31_ wd1_ gg0_ q10_ q20_ wg0_ gg1_ q11_ q21_ wg1_ m0 l0a l1a d0a d1a g0a g1a lna fla pla fta fka wta cr0_a inn0_a k10_a k20_a k30_a k40_a z0_a cr1_a inn1_a k11_a k21_a k31_a k41_a z1_a dd0_a p10_a p20_a p30_a wd0_a dd1_a p11_a p21_a p31_a wd1_a gg0_a q10_a q20_a wg0_a gg1_a q11_a q21_a wg1_a Gw ht (by first | with_reducible assumption | with_reducible rfl | omega | assumption | rfl) hz0_ (by first | with_reducible assumption | with_reducible rfl | omega | assumption | rfl) hz1_ (by first | with_reducible assumption | with_reducible rfl | omega | assumption | rfl) hd0_ hd1_ hg0_ hg1_ hta (by first | with_reducible assumption | with_reducible rfl | omega | assumption | rfl) hz0_a (by first | with_reducible assumption | with_reducible rfl | omega | assumption | rfl) hz1_a (by first | with_reducible assumption | with_reducible rfl | omega | assumption | rfl) hd0_a hd1_a hg0_a hg1_a (hTw (by first | with_reducible assumption | assumption))) (kV_RX11_117 C.2.2.2.2 (Nat.le_of_ble_eq_true rfl) (Nat.le_of_ble_eq_true rfl)) [1, 2, 3, 4, 5, 6, 7, 8, 9, 10, 11, 12, 13, 14] [1, 0, 0, 0, 0, 0, 0, 0, 0, 0, 0, 0, 0, 0] rfl rfl (ci := 8) (qc := (RX9, TX9, 8)) rfl rfl (List.mem_flatten.mpr ⟨_, List.mem_of_getElem? (i := 0) rfl, (bTold_mem ht).choose_spec⟩) rfl rfl hl.1 dX11_again_30 (Nat.le_of_ble_eq_true rfl) (Nat.le_of_ble_eq_true rfl) (fun b1 H locs hw G => ?_)
    refine zEx27 hw ?_
    intro wt2_3 g9_4 fk2_5 w2_6 s0_7 s0_8 s0_9 s0_10 w2_11 s1_12 s1_13 s1_14 s1_15 w2_16 s2_17 s2_18 s2_19 w2_20 s3_21 s3_22 s3_23 w2_24 s4_25 s4_26 w2_27 s5_28 s5_29
    refine zCu12 ?_
    intro hbs9 h_30 h_31 h_32 h_33 h_34 h_35 h_36 h_37 h_38 h_39 h_40
    clear hw
    subst hbs9
    have G : zS T A s.heap s [[zO10 xo t im mk rd po co tr wa wb_ fi cd], [zArq T 6 im 3 qi], [zAr T 2 mk 3 fmk], wwA, wwB, wff, wt2_3, w2_6, w2_11, w2_16, w2_20, w2_24, w2_27, wta, z0_a, z1_a, wd0_a, wd1_a, wg0_a, wg1_a] _ _ := G
    refine lv_aload_n hx hb dX11_again_33 rfl (lv_at hl 0 rfl) ?_
    refine lv_iconst (v := 1) hx hb dX11_again_34 (by decide) ?_
    refine z_Vv (bc := [[zO10 xo t im mk rd po co tr wa wb_ fi cd], wwA, wwB, wff]) (br := [[zArq T 6 im 3 qi], [zAr T 2 mk 3 fmk], wt2_3, w2_6, w2_11, w2_16, w2_20, w2_24, w2_27, wta, z0_a, z1_a, wd0_a, wd1_a, wg0_a, wg1_a]) (As := [.int 1]) (rest := []) C G (c_forget1 l T xo t im mk rd po co tr wa wb_ fi cd laA mdA wyA pc_A f1A f2A f3A f4A f5A f6A n4A wwA laB mdB wyB pc_B f1B f2B f3B f4B f5B f6B n4B wwB e0f e1f e2f e3f e4f e5f r1f m1f r2f wff hwwA hwwB hwff) (kV_RX11_105 C.2.2.2.2 (Nat.le_of_ble_eq_true rfl) (Nat.le_of_ble_eq_true rfl)) [0, 3, 4, 5] [0, 2, 0, 0] rfl rfl (ci := 10) (qc := (RX11, TX11, 11)) rfl rfl (List.mem_flatten.mpr ⟨_, List.mem_of_getElem? (i := 0) rfl, List.mem_cons_self⟩) rfl rfl hl.1 dX11_again_35 (Nat.le_of_ble_eq_true rfl) (Nat.le_of_ble_eq_true rfl) (fun b1 H locs hw G => ?_)
    refine zEx3 hw ?_
    intro wwA_42 wwB_43 wff_44
    refine zCu4 ?_
    intro hbs9 h_45 h_46 h_47
    clear hw
    subst hbs9
    have G : zS T A s.heap s [[zArq T 6 im 3 qi], [zAr T 2 mk 3 fmk], wt2_3, w2_6, w2_11, w2_16, w2_20, w2_24, w2_27, wta, z0_a, z1_a, wd0_a, wd1_a, wg0_a, wg1_a, [zO10 xo t im mk rd po co tr wa wb_ fi cd], wwA_42, wwB_43, wff_44] _ _ := G
    refine lv_iconst (v := 1) hx hb dX11_again_38 (by decide) ?_
    have G := G.sub (bs' := [[zO10 xo t im mk rd po co tr wa wb_ fi cd], wt2_3, w2_6, w2_11, w2_16, w2_20, w2_24, w2_27, wta, z0_a, z1_a, wd0_a, wd1_a, wg0_a, wg1_a, [zArq T 6 im 3 qi], [zAr T 2 mk 3 fmk], wwA_42, wwB_43, wff_44]) [16, 2, 3, 4, 5, 6, 7, 8, 9, 10, 11, 12, 13, 14, 15, 0, 1, 17, 18, 19] rfl
    exact z_back hQz_ (z_zret C hr hlocks G (Nat.le_of_ble_eq_true rfl) (Nat.le_of_ble_eq_true rfl) dX11_again_39 rfl ⟨lna, fla, pla, g9_4, fk2_5, wt2_3, cr0_a, inn0_a, s0_7, s0_8, s0_9, s0_10, w2_6, cr1_a, inn1_a, s1_12, s1_13, s1_14, s1_15, w2_11, dd0_a, s2_17, s2_18, s2_19, w2_16, dd1_a, s3_21, s3_22, s3_23, w2_20, gg0_a, s4_25, s4_26, w2_24, gg1_a, s5_28, s5_29, w2_27, wwA_42, wwB_43, wff_44, 0, 0, 0, rfl, h_30, (by first | with_reducible assumption | omega | trivial | assumption), h_32, (by first | with_reducible assumption | omega | trivial | assumption), h_33, (by first | with_reducible assumption | omega | trivial | assumption), h_34, h_35, h_36, h_37, h_45, h_46, h_47, (by first | exact Or.inl ⟨rfl, rfl, rfl⟩ | exact Or.inr (Or.inl ⟨rfl, rfl, rfl⟩) | exact Or.inr (Or.inr ⟨rfl, rfl, rfl⟩)), (Or.inr ⟨by first | with_reducible assumption | assumption, rfl, h_40⟩), (Or.inr ⟨rfl, rfl, rfl⟩)⟩)
  · have c_2n : (fmk 0).toInt = (0 : Int) := (fa_eq _ _).mp c_2
    refine lv_iconst (v := 0) hx hb dX11_again_18 (by decide) ?_
    exact z_back hQz_ (z_zret C hr hlocks G (Nat.le_of_ble_eq_true rfl) (Nat.le_of_ble_eq_true rfl) dX11_again_19 rfl ⟨ln, fl, pl, ft, fk, wt, cr0_, inn0_, k10_, k20_, k30_, k40_, z0_, cr1_, inn1_, k11_, k21_, k31_, k41_, z1_, dd0_, p10_, p20_, p30_, wd0_, dd1_, p11_, p21_, p31_, wd1_, gg0_, q10_, q20_, wg0_, gg1_, q11_, q21_, wg1_, wwA, wwB, wff, mdA, mdB, e0f, rfl, ht, (by first | with_reducible assumption | omega | trivial | assumption), hz0_, (by first | with_reducible assumption | omega | trivial | assumption), hz1_, (by first | with_reducible assumption | omega | trivial | assumption), hd0_, hd1_, hg0_, hg1_, hwwA, hwwB, hwff, (by first | exact Or.inl ⟨rfl, rfl, rfl⟩ | exact Or.inr (Or.inl ⟨rfl, rfl, rfl⟩) | exact Or.inr (Or.inr ⟨rfl, rfl, rfl⟩)), (Or.inl ⟨by first | with_reducible assumption | assumption, rfl, hT⟩), (Or.inl (by first | with_reducible assumption | assumption))⟩)
set_option maxHeartbeats 4000000 in
set_option maxRecDepth 100000 in
/-- c_f_again1 -/
theorem c_f_again1 (l : Launch) (T : zTy) (xo : Nat) (t : Nat) (im : Nat) (mk : Nat) (rd : Nat) (po : Nat) (co : Nat) (tr : Nat) (wa : Nat) (wb_ : Nat) (fi : Nat) (cd : Nat) (l0 : Nat) (l1 : Nat) (d0 : Nat) (d1 : Nat) (g0 : Nat) (g1 : Nat) (ln : Int32) (fl : Int32) (pl : Int32) (ft : Nat → Int32) (fk : Nat → Int32) (wt : va_W) (cr0_ : Int32) (inn0_ : Int32) (k10_ : Nat → Int32) (k20_ : Nat → Int32) (k30_ : Nat → Int32) (k40_ : Nat → Int32) (z0_ : va_W) (cr1_ : Int32) (inn1_ : Int32) (k11_ : Nat → Int32) (k21_ : Nat → Int32) (k31_ : Nat → Int32) (k41_ : Nat → Int32) (z1_ : va_W) (dd0_ : Int32) (p10_ : Nat → Int32) (p20_ : Nat → Int32) (p30_ : Nat → Int32) (wd0_ : va_W) (dd1_ : Int32) (p11_ : Nat → Int32) (p21_ : Nat → Int32) (p31_ : Nat → Int32) (wd1_ : va_W) (gg0_ : Int32) (q10_ : Nat → Int32) (q20_ : Nat → Int32) (wg0_ : va_W) (gg1_ : Int32) (q11_ : Nat → Int32) (q21_ : Nat → Int32) (wg1_ : va_W) (m0 : Nat) (m1 : Nat) (l0b : Nat) (l1b : Nat) (d0b : Nat) (d1b : Nat) (g0b : Nat) (g1b : Nat) (lnb : Int32) (flb : Int32) (plb : Int32) (ftb : Nat → Int32) (fkb : Nat → Int32) (wtb : va_W) (cr0_b : Int32) (inn0_b : Int32) (k10_b : Nat → Int32) (k20_b : Nat → Int32) (k30_b : Nat → Int32) (k40_b : Nat → Int32) (z0_b : va_W) (cr1_b : Int32) (inn1_b : Int32) (k11_b : Nat → Int32) (k21_b : Nat → Int32) (k31_b : Nat → Int32) (k41_b : Nat → Int32) (z1_b : va_W) (dd0_b : Int32) (p10_b : Nat → Int32) (p20_b : Nat → Int32) (p30_b : Nat → Int32) (wd0_b : va_W) (dd1_b : Int32) (p11_b : Nat → Int32) (p21_b : Nat → Int32) (p31_b : Nat → Int32) (wd1_b : va_W) (gg0_b : Int32) (q10_b : Nat → Int32) (q20_b : Nat → Int32) (wg0_b : va_W) (gg1_b : Int32) (q11_b : Nat → Int32) (q21_b : Nat → Int32) (wg1_b : va_W) (m2 : Nat) (qi : Nat → Option Nat) (fmk : Nat → Int32) (laA : Nat) (mdA : Int32) (wyA : Int32) (pc_A : Int32) (f1A : Nat → Int32) (f2A : Nat → Int32) (f3A : Nat → Int32) (f4A : Nat → Int32) (f5A : Nat → Int32) (f6A : Nat → Int32) (n4A : Nat) (wwA : va_W) (laB : Nat) (mdB : Int32) (wyB : Int32) (pc_B : Int32) (f1B : Nat → Int32) (f2B : Nat → Int32) (f3B : Nat → Int32) (f4B : Nat → Int32) (f5B : Nat → Int32) (f6B : Nat → Int32) (n4B : Nat) (wwB : va_W) (e0f : Int32) (e1f : Int32) (e2f : Int32) (e3f : Int32) (e4f : Int32) (e5f : Int32) (r1f : Nat → Int32) (m1f : Nat) (r2f : Nat → Int32) (wff : va_W) (Gr : Nat → Int32) (Gw : Nat → Int32) (ht : bTold T t l0 l1 d0 d1 g0 g1 ln fl pl ft fk wt) (hK : zKT fk) (hz0_ : bLand T l0 cr0_ inn0_ k10_ k20_ k30_ k40_ z0_) (hI0_ : zLI cr0_ k10_ k30_) (hz1_ : bLand T l1 cr1_ inn1_ k11_ k21_ k31_ k41_ z1_) (hI1_ : zLI cr1_ k11_ k31_) (hd0_ : bDay T d0 dd0_ p10_ p20_ p30_ wd0_) (hd1_ : bDay T d1 dd1_ p11_ p21_ p31_ wd1_) (hg0_ : bLog T g0 gg0_ q10_ q20_ wg0_) (hg1_ : bLog T g1 gg1_ q11_ q21_ wg1_) (htb : bTold T m1 l0b l1b d0b d1b g0b g1b lnb flb plb ftb fkb wtb) (hKb : zKT fkb) (hz0_b : bLand T l0b cr0_b inn0_b k10_b k20_b k30_b k40_b z0_b) (hI0_b : zLI cr0_b k10_b k30_b) (hz1_b : bLand T l1b cr1_b inn1_b k11_b k21_b k31_b k41_b z1_b) (hI1_b : zLI cr1_b k11_b k31_b) (hd0_b : bDay T d0b dd0_b p10_b p20_b p30_b wd0_b) (hd1_b : bDay T d1b dd1_b p11_b p21_b p31_b wd1_b) (hg0_b : bLog T g0b gg0_b q10_b q20_b wg0_b) (hg1_b : bLog T g1b gg1_b q11_b q21_b wg1_b) (hm0 : qi 0 = some m0) (hm1 : qi 1 = some m1) (hm2 : qi 2 = some m2) (hwwA : bWays T wa laA mdA wyA pc_A f1A f2A f3A f4A f5A f6A n4A wwA) (hwwB : bWays T wb_ laB mdB wyB pc_B f1B f2B f3B f4B f5B f6B n4B wwB) (hwff : bFit T fi e0f e1f e2f e3f e4f e5f r1f m1f r2f wff) (hT : zTR ln fl pl ft fk cr0_ inn0_ k10_ k20_ k30_ k40_ cr1_ inn1_ k11_ k21_ k31_ k41_ dd0_ p10_ p20_ p30_ dd1_ p11_ p21_ p31_ gg0_ q10_ q20_ gg1_ q11_ q21_ Gr) (hTw : (¬ fmk 1 = 0 → zTR lnb flb plb ftb fkb cr0_b inn0_b k10_b k20_b k30_b k40_b cr1_b inn1_b k11_b k21_b k31_b k41_b dd0_b p10_b p20_b p30_b dd1_b p11_b p21_b p31_b gg0_b q10_b q20_b gg1_b q11_b q21_b Gw)) : zMi l T yX11_again cX11_again 2 (some .boolean) 3 0 0 [.ref xo, .int 1] [[zO10 xo t im mk rd po co tr wa wb_ fi cd], wt, z0_, z1_, wd0_, wd1_, wg0_, wg1_, wtb, z0_b, z1_b, wd0_b, wd1_b, wg0_b, wg1_b, [zArq T 6 im 3 qi], [zAr T 2 mk 3 fmk], wwA, wwB, wff] (fun (r : Int32) bs => ∃ (ln_2 : Int32) (fl_2 : Int32) (pl_2 : Int32) (ft_2 : Nat → Int32) (fk_2 : Nat → Int32) (wt_2 : va_W) (cr0__2 : Int32) (inn0__2 : Int32) (k10__2 : Nat → Int32) (k20__2 : Nat → Int32) (k30__2 : Nat → Int32) (k40__2 : Nat → Int32) (z0__2 : va_W) (cr1__2 : Int32) (inn1__2 : Int32) (k11__2 : Nat → Int32) (k21__2 : Nat → Int32) (k31__2 : Nat → Int32) (k41__2 : Nat → Int32) (z1__2 : va_W) (dd0__2 : Int32) (p10__2 : Nat → Int32) (p20__2 : Nat → Int32) (p30__2 : Nat → Int32) (wd0__2 : va_W) (dd1__2 : Int32) (p11__2 : Nat → Int32) (p21__2 : Nat → Int32) (p31__2 : Nat → Int32) (wd1__2 : va_W) (gg0__2 : Int32) (q10__2 : Nat → Int32) (q20__2 : Nat → Int32) (wg0__2 : va_W) (gg1__2 : Int32) (q11__2 : Nat → Int32) (q21__2 : Nat → Int32) (wg1__2 : va_W) (wwA_2 : va_W) (wwB_2 : va_W) (wff_2 : va_W) (mdA_2 : Int32) (mdB_2 : Int32) (e0f_2 : Int32), bs = [[zO10 xo t im mk rd po co tr wa wb_ fi cd], wt_2, z0__2, z1__2, wd0__2, wd1__2, wg0__2, wg1__2, wtb, z0_b, z1_b, wd0_b, wd1_b, wg0_b, wg1_b, [zArq T 6 im 3 qi], [zAr T 2 mk 3 fmk], wwA_2, wwB_2, wff_2] ∧ bTold T t l0 l1 d0 d1 g0 g1 ln_2 fl_2 pl_2 ft_2 fk_2 wt_2 ∧ zKT fk_2 ∧ bLand T l0 cr0__2 inn0__2 k10__2 k20__2 k30__2 k40__2 z0__2 ∧ zLI cr0__2 k10__2 k30__2 ∧ bLand T l1 cr1__2 inn1__2 k11__2 k21__2 k31__2 k41__2 z1__2 ∧ zLI cr1__2 k11__2 k31__2 ∧ bDay T d0 dd0__2 p10__2 p20__2 p30__2 wd0__2 ∧ bDay T d1 dd1__2 p11__2 p21__2 p31__2 wd1__2 ∧ bLog T g0 gg0__2 q10__2 q20__2 wg0__2 ∧ bLog T g1 gg1__2 q11__2 q21__2 wg1__2 ∧ bWays T wa laA mdA_2 wyA pc_A f1A f2A f3A f4A f5A f6A n4A wwA_2 ∧ bWays T wb_ laB mdB_2 wyB pc_B f1B f2B f3B f4B f5B f6B n4B wwB_2 ∧ bFit T fi e0f_2 e1f e2f e3f e4f e5f r1f m1f r2f wff_2 ∧ (mdA_2 = 0 ∧ mdB_2 = 0 ∧ e0f_2 = 0 ∨ mdA_2 = mdA ∧ mdB_2 = mdB ∧ e0f_2 = 0 ∨ mdA_2 = mdA ∧ mdB_2 = mdB ∧ e0f_2 = e0f) ∧ (fmk 1 = 0 ∧ r = 0 ∧ zTR ln_2 fl_2 pl_2 ft_2 fk_2 cr0__2 inn0__2 k10__2 k20__2 k30__2 k40__2 cr1__2 inn1__2 k11__2 k21__2 k31__2 k41__2 dd0__2 p10__2 p20__2 p30__2 dd1__2 p11__2 p21__2 p31__2 gg0__2 q10__2 q20__2 gg1__2 q11__2 q21__2 Gr ∨ ¬ fmk 1 = 0 ∧ r = 1 ∧ zTR ln_2 fl_2 pl_2 ft_2 fk_2 cr0__2 inn0__2 k10__2 k20__2 k30__2 k40__2 cr1__2 inn1__2 k11__2 k21__2 k31__2 k41__2 dd0__2 p10__2 p20__2 p30__2 dd1__2 p11__2 p21__2 p31__2 gg0__2 q10__2 q20__2 gg1__2 q11__2 q21__2 Gw) ∧ (fmk 1 = 0 ∨ mdA_2 = 0 ∧ mdB_2 = 0 ∧ e0f_2 = 0)) := by
  refine zMi_of (own := RX11) (by decide) rfl (Nat.le_of_ble_eq_true rfl) ?_
  intro p e s m args below meth c A ls C hr hlocks hnm hAe G hl
  refine zHide (fun Qz_ hQz_ => ?_)
  have hx := C.1
  have hb := C.2.1
  replace hTw : zHd ((¬ fmk 1 = 0 → zTR lnb flb plb ftb fkb cr0_b inn0_b k10_b k20_b k30_b k40_b cr1_b inn1_b k11_b k21_b k31_b k41_b dd0_b p10_b p20_b p30_b dd1_b p11_b p21_b p31_b gg0_b q10_b q20_b gg1_b q11_b q21_b Gw)) := hTw
  have hl : lv_has ls 2 [(0, .ref xo), (1, .int 1)] := hl
  refine lv_iload_n hx hb dX11_again_0 rfl (lv_at hl 1 rfl) ?_
  refine lv_if_lt (tgt := 18) hx hb dX11_again_1 (by decide) (fun q => absurd q (by decide)) (fun _ => ?_)
  refine lv_iload_n hx hb dX11_again_4 rfl (lv_at hl 1 rfl) ?_
  refine lv_iconst (v := 3) hx hb dX11_again_5 (by decide) ?_
  refine lv_icmp_ge (tgt := 18) hx hb dX11_again_6 (by decide) (fun q => absurd q (by decide)) (fun _ => ?_)
  refine lv_aload_n hx hb dX11_again_9 rfl (lv_at hl 0 rfl) ?_
  refine z_get C G clX11 0 rfl 2 (by decide) m_fl_RX11_20 rfl dX11_again_10 ?_
  refine lv_iload_n hx hb dX11_again_13 rfl (lv_at hl 1 rfl) ?_
  refine z_zld C G 16 rfl (vp_in_nI (n := 1) (by decide) (by decide)) dX11_again_14 ?_
  refine lv_topi (fun v_1 ev_1 => ?_)
  rw [show ((1 : Int32).toNatClampNeg) = 1 from rfl] at ev_1
  subst ev_1
  refine lv_if_ne (tgt := 20) hx hb dX11_again_15 (by decide) (fun c_2 => ?_) (fun c_2 => ?_)
  · have c_2n : ¬ (fmk 1).toInt = (0 : Int) := fun q => c_2 ((fa_eq _ _).mpr q)
    refine lv_aload_n hx hb dX11_again_20 rfl (lv_at hl 0 rfl) ?_
    refine z_get C G clX11 0 rfl 0 (by decide) m_fl_RX11_10 rfl dX11_again_21 ?_
    refine lv_aload_n hx hb dX11_again_24 rfl (lv_at hl 0 rfl) ?_
    refine z_get C G clX11 0 rfl 1 (by decide) m_fl_RX11_16 rfl dX11_again_25 ?_
    refine lv_iload_n hx hb dX11_again_28 rfl (lv_at hl 1 rfl) ?_
    refine z_ald C G 15 6 rfl rfl (vp_in_nI (n := 1) (by decide) (by decide)) dX11_again_29 ?_
    rw [show qi ((1 : Int32).toNatClampNeg) = some m1 from hm1]
    refine z_Vv (bc := [wt, z0_, z1_, wd0_, wd1_, wg0_, wg1_, wtb, z0_b, z1_b, wd0_b, wd1_b, wg0_b, wg1_b]) (br := [[zO10 xo t im mk rd po co tr wa wb_ fi cd], [zArq T 6 im 3 qi], [zAr T 2 mk 3 fmk], wwA, wwB, wff]) (As := [.ref m1]) (rest := []) C G (c_f_Told_takeAll l T t l0 l1 d0 d1 g0 g1 ln fl pl ft fk wt cr0_ inn0_ k10_ k20_ k30_ k40_ z0_ cr1_ inn1_ k11_ k21_ k31_ k41_ z1_ dd0_ p10_ p20_ p30_ wd0_ dd1_ p11_ p21_ p31_ wd1_ gg0_ q10_ q20_ wg0_ gg1_ q11_ q21_ wg1_ m1 l0b l1b d0b d1b g0b g1b lnb flb plb ftb fkb wtb cr0_b inn0_b k10_b k20_b k30_b k40_b z0_b cr1_b inn1_b k11_b k21_b k31_b k41_b z1_b dd0_b p10_b p20_b p30_b wd0_b dd1_b p11_b p21_b p31_b wd1_b gg0_b q10_b q20_b wg0_b gg1_b q11_b q21_b wg1_b Gw ht (by first | with_reducible assumption | with_reducible rfl | omega | assumption | rfl) hz0_ (by first | with_reducible assumption | with_reducible rfl | omega | assumption | rfl) hz1_ (by first | with_reducible assumption | with_reducible rfl | omega | assumption | rfl) hd0_ hd1_ hg0_ hg1_ htb (by first | with_reducible assumption | with_reducible rfl | omega | assumption | rfl) hz0_b (by first | with_reducible assumption | with_reducible rfl | omega | assumption | rfl) hz1_b (by first | with_reducible assumption | with_reducible rfl | omega | assumption | rfl) hd0_b hd1_b hg0_b hg1_b (hTw (by first | with_reducible assumption | assumption))) (kV_RX11_117 C.2.2.2.2 (Nat.le_of_ble_eq_true rfl) (Nat.le_of_ble_eq_true rfl)) [1, 2, 3, 4, 5, 6, 7, 8, 9, 10, 11, 12, 13, 14] [1, 0, 0, 0, 0, 0, 0, 0, 0, 0, 0, 0, 0, 0] rfl rfl (ci := 8) (qc := (RX9, TX9, 8)) rfl rfl (List.mem_flatten.mpr ⟨_, List.mem_of_getElem? (i := 0) rfl, (bTold_mem ht).choose_spec⟩) rfl rfl hl.1 dX11_again_30 (Nat.le_of_ble_eq_true rfl) (Nat.le_of_ble_eq_true rfl) (fun b1 H locs hw G => ?_)
    refine zEx27 hw ?_
    intro wt2_3 g9_4 fk2_5 w2_6 s0_7 s0_8 s0_9 s0_10 w2_11 s1_12 s1_13 s1_14 s1_15 w2_16 s2_17 s2_18 s2_19 w2_20 s3_21 s3_22 s3_23 w2_24 s4_25 s4_26 w2_27 s5_28 s5_29
    refine zCu12 ?_
    intro hbs9 h_30 h_31 h_32 h_33 h_34 h_35 h_36 h_37 h_38 h_39 h_40
    clear hw
    subst hbs9
    have G : zS T A s.heap s [[zO10 xo t im mk rd po co tr wa wb_ fi cd], [zArq T 6 im 3 qi], [zAr T 2 mk 3 fmk], wwA, wwB, wff, wt2_3, w2_6, w2_11, w2_16, w2_20, w2_24, w2_27, wtb, z0_b, z1_b, wd0_b, wd1_b, wg0_b, wg1_b] _ _ := G
    refine lv_aload_n hx hb dX11_again_33 rfl (lv_at hl 0 rfl) ?_
    refine lv_iconst (v := 1) hx hb dX11_again_34 (by decide) ?_
    refine z_Vv (bc := [[zO10 xo t im mk rd po co tr wa wb_ fi cd], wwA, wwB, wff]) (br := [[zArq T 6 im 3 qi], [zAr T 2 mk 3 fmk], wt2_3, w2_6, w2_11, w2_16, w2_20, w2_24, w2_27, wtb, z0_b, z1_b, wd0_b, wd1_b, wg0_b, wg1_b]) (As := [.int 1]) (rest := []) C G (c_forget1 l T xo t im mk rd po co tr wa wb_ fi cd laA mdA wyA pc_A f1A f2A f3A f4A f5A f6A n4A wwA laB mdB wyB pc_B f1B f2B f3B f4B f5B f6B n4B wwB e0f e1f e2f e3f e4f e5f r1f m1f r2f wff hwwA hwwB hwff) (kV_RX11_105 C.2.2.2.2 (Nat.le_of_ble_eq_true rfl) (Nat.le_of_ble_eq_true rfl)) [0, 3, 4, 5] [0, 2, 0, 0] rfl rfl (ci := 10) (qc := (RX11, TX11, 11)) rfl rfl (List.mem_flatten.mpr ⟨_, List.mem_of_getElem? (i := 0) rfl, List.mem_cons_self⟩) rfl rfl hl.1 dX11_again_35 (Nat.le_of_ble_eq_true rfl) (Nat.le_of_ble_eq_true rfl) (fun b1 H locs hw G => ?_)
    refine zEx3 hw ?_
    intro wwA_42 wwB_43 wff_44
    refine zCu4 ?_
    intro hbs9 h_45 h_46 h_47
    clear hw
    subst hbs9
    have G : zS T A s.heap s [[zArq T 6 im 3 qi], [zAr T 2 mk 3 fmk], wt2_3, w2_6, w2_11, w2_16, w2_20, w2_24, w2_27, wtb, z0_b, z1_b, wd0_b, wd1_b, wg0_b, wg1_b, [zO10 xo t im mk rd po co tr wa wb_ fi cd], wwA_42, wwB_43, wff_44] _ _ := G
    refine lv_iconst (v := 1) hx hb dX11_again_38 (by decide) ?_
    have G := G.sub (bs' := [[zO10 xo t im mk rd po co tr wa wb_ fi cd], wt2_3, w2_6, w2_11, w2_16, w2_20, w2_24, w2_27, wtb, z0_b, z1_b, wd0_b, wd1_b, wg0_b, wg1_b, [zArq T 6 im 3 qi], [zAr T 2 mk 3 fmk], wwA_42, wwB_43, wff_44]) [16, 2, 3, 4, 5, 6, 7, 8, 9, 10, 11, 12, 13, 14, 15, 0, 1, 17, 18, 19] rfl
    exact z_back hQz_ (z_zret C hr hlocks G (Nat.le_of_ble_eq_true rfl) (Nat.le_of_ble_eq_true rfl) dX11_again_39 rfl ⟨lnb, flb, plb, g9_4, fk2_5, wt2_3, cr0_b, inn0_b, s0_7, s0_8, s0_9, s0_10, w2_6, cr1_b, inn1_b, s1_12, s1_13, s1_14, s1_15, w2_11, dd0_b, s2_17, s2_18, s2_19, w2_16, dd1_b, s3_21, s3_22, s3_23, w2_20, gg0_b, s4_25, s4_26, w2_24, gg1_b, s5_28, s5_29, w2_27, wwA_42, wwB_43, wff_44, 0, 0, 0, rfl, h_30, (by first | with_reducible assumption | omega | trivial | assumption), h_32, (by first | with_reducible assumption | omega | trivial | assumption), h_33, (by first | with_reducible assumption | omega | trivial | assumption), h_34, h_35, h_36, h_37, h_45, h_46, h_47, (by first | exact Or.inl ⟨rfl, rfl, rfl⟩ | exact Or.inr (Or.inl ⟨rfl, rfl, rfl⟩) | exact Or.inr (Or.inr ⟨rfl, rfl, rfl⟩)), (Or.inr ⟨by first | with_reducible assumption | assumption, rfl, h_40⟩), (Or.inr ⟨rfl, rfl, rfl⟩)⟩)
  · have c_2n : (fmk 1).toInt = (0 : Int) := (fa_eq _ _).mp c_2
    refine lv_iconst (v := 0) hx hb dX11_again_18 (by decide) ?_
    exact z_back hQz_ (z_zret C hr hlocks G (Nat.le_of_ble_eq_true rfl) (Nat.le_of_ble_eq_true rfl) dX11_again_19 rfl ⟨ln, fl, pl, ft, fk, wt, cr0_, inn0_, k10_, k20_, k30_, k40_, z0_, cr1_, inn1_, k11_, k21_, k31_, k41_, z1_, dd0_, p10_, p20_, p30_, wd0_, dd1_, p11_, p21_, p31_, wd1_, gg0_, q10_, q20_, wg0_, gg1_, q11_, q21_, wg1_, wwA, wwB, wff, mdA, mdB, e0f, rfl, ht, (by first | with_reducible assumption | omega | trivial | assumption), hz0_, (by first | with_reducible assumption | omega | trivial | assumption), hz1_, (by first | with_reducible assumption | omega | trivial | assumption), hd0_, hd1_, hg0_, hg1_, hwwA, hwwB, hwff, (by first | exact Or.inl ⟨rfl, rfl, rfl⟩ | exact Or.inr (Or.inl ⟨rfl, rfl, rfl⟩) | exact Or.inr (Or.inr ⟨rfl, rfl, rfl⟩)), (Or.inl ⟨by first | with_reducible assumption | assumption, rfl, hT⟩), (Or.inl (by first | with_reducible assumption | assumption))⟩)
set_option maxHeartbeats 4000000 in
set_option maxRecDepth 100000 in
/-- c_f_again2 -/
theorem c_f_again2 (l : Launch) (T : zTy) (xo : Nat) (t : Nat) (im : Nat) (mk : Nat) (rd : Nat) (po : Nat) (co : Nat) (tr : Nat) (wa : Nat) (wb_ : Nat) (fi : Nat) (cd : Nat) (l0 : Nat) (l1 : Nat) (d0 : Nat) (d1 : Nat) (g0 : Nat) (g1 : Nat) (ln : Int32) (fl : Int32) (pl : Int32) (ft : Nat → Int32) (fk : Nat → Int32) (wt : va_W) (cr0_ : Int32) (inn0_ : Int32) (k10_ : Nat → Int32) (k20_ : Nat → Int32) (k30_ : Nat → Int32) (k40_ : Nat → Int32) (z0_ : va_W) (cr1_ : Int32) (inn1_ : Int32) (k11_ : Nat → Int32) (k21_ : Nat → Int32) (k31_ : Nat → Int32) (k41_ : Nat → Int32) (z1_ : va_W) (dd0_ : Int32) (p10_ : Nat → Int32) (p20_ : Nat → Int32) (p30_ : Nat → Int32) (wd0_ : va_W) (dd1_ : Int32) (p11_ : Nat → Int32) (p21_ : Nat → Int32) (p31_ : Nat → Int32) (wd1_ : va_W) (gg0_ : Int32) (q10_ : Nat → Int32) (q20_ : Nat → Int32) (wg0_ : va_W) (gg1_ : Int32) (q11_ : Nat → Int32) (q21_ : Nat → Int32) (wg1_ : va_W) (m0 : Nat) (m1 : Nat) (m2 : Nat) (l0c : Nat) (l1c : Nat) (d0c : Nat) (d1c : Nat) (g0c : Nat) (g1c : Nat) (lnc : Int32) (flc : Int32) (plc : Int32) (ftc : Nat → Int32) (fkc : Nat → Int32) (wtc : va_W) (cr0_c : Int32) (inn0_c : Int32) (k10_c : Nat → Int32) (k20_c : Nat → Int32) (k30_c : Nat → Int32) (k40_c : Nat → Int32) (z0_c : va_W) (cr1_c : Int32) (inn1_c : Int32) (k11_c : Nat → Int32) (k21_c : Nat → Int32) (k31_c : Nat → Int32) (k41_c : Nat → Int32) (z1_c : va_W) (dd0_c : Int32) (p10_c : Nat → Int32) (p20_c : Nat → Int32) (p30_c : Nat → Int32) (wd0_c : va_W) (dd1_c : Int32) (p11_c : Nat → Int32) (p21_c : Nat → Int32) (p31_c : Nat → Int32) (wd1_c : va_W) (gg0_c : Int32) (q10_c : Nat → Int32) (q20_c : Nat → Int32) (wg0_c : va_W) (gg1_c : Int32) (q11_c : Nat → Int32) (q21_c : Nat → Int32) (wg1_c : va_W) (qi : Nat → Option Nat) (fmk : Nat → Int32) (laA : Nat) (mdA : Int32) (wyA : Int32) (pc_A : Int32) (f1A : Nat → Int32) (f2A : Nat → Int32) (f3A : Nat → Int32) (f4A : Nat → Int32) (f5A : Nat → Int32) (f6A : Nat → Int32) (n4A : Nat) (wwA : va_W) (laB : Nat) (mdB : Int32) (wyB : Int32) (pc_B : Int32) (f1B : Nat → Int32) (f2B : Nat → Int32) (f3B : Nat → Int32) (f4B : Nat → Int32) (f5B : Nat → Int32) (f6B : Nat → Int32) (n4B : Nat) (wwB : va_W) (e0f : Int32) (e1f : Int32) (e2f : Int32) (e3f : Int32) (e4f : Int32) (e5f : Int32) (r1f : Nat → Int32) (m1f : Nat) (r2f : Nat → Int32) (wff : va_W) (Gr : Nat → Int32) (Gw : Nat → Int32) (ht : bTold T t l0 l1 d0 d1 g0 g1 ln fl pl ft fk wt) (hK : zKT fk) (hz0_ : bLand T l0 cr0_ inn0_ k10_ k20_ k30_ k40_ z0_) (hI0_ : zLI cr0_ k10_ k30_) (hz1_ : bLand T l1 cr1_ inn1_ k11_ k21_ k31_ k41_ z1_) (hI1_ : zLI cr1_ k11_ k31_) (hd0_ : bDay T d0 dd0_ p10_ p20_ p30_ wd0_) (hd1_ : bDay T d1 dd1_ p11_ p21_ p31_ wd1_) (hg0_ : bLog T g0 gg0_ q10_ q20_ wg0_) (hg1_ : bLog T g1 gg1_ q11_ q21_ wg1_) (htc : bTold T m2 l0c l1c d0c d1c g0c g1c lnc flc plc ftc fkc wtc) (hKc : zKT fkc) (hz0_c : bLand T l0c cr0_c inn0_c k10_c k20_c k30_c k40_c z0_c) (hI0_c : zLI cr0_c k10_c k30_c) (hz1_c : bLand T l1c cr1_c inn1_c k11_c k21_c k31_c k41_c z1_c) (hI1_c : zLI cr1_c k11_c k31_c) (hd0_c : bDay T d0c dd0_c p10_c p20_c p30_c wd0_c) (hd1_c : bDay T d1c dd1_c p11_c p21_c p31_c wd1_c) (hg0_c : bLog T g0c gg0_c q10_c q20_c wg0_c) (hg1_c : bLog T g1c gg1_c q11_c q21_c wg1_c) (hm0 : qi 0 = some m0) (hm1 : qi 1 = some m1) (hm2 : qi 2 = some m2) (hwwA : bWays T wa laA mdA wyA pc_A f1A f2A f3A f4A f5A f6A n4A wwA) (hwwB : bWays T wb_ laB mdB wyB pc_B f1B f2B f3B f4B f5B f6B n4B wwB) (hwff : bFit T fi e0f e1f e2f e3f e4f e5f r1f m1f r2f wff) (hT : zTR ln fl pl ft fk cr0_ inn0_ k10_ k20_ k30_ k40_ cr1_ inn1_ k11_ k21_ k31_ k41_ dd0_ p10_ p20_ p30_ dd1_ p11_ p21_ p31_ gg0_ q10_ q20_ gg1_ q11_ q21_ Gr) (hTw : (¬ fmk 2 = 0 → zTR lnc flc plc ftc fkc cr0_c inn0_c k10_c k20_c k30_c k40_c cr1_c inn1_c k11_c k21_c k31_c k41_c dd0_c p10_c p20_c p30_c dd1_c p11_c p21_c p31_c gg0_c q10_c q20_c gg1_c q11_c q21_c Gw)) : zMi l T yX11_again cX11_again 2 (some .boolean) 3 0 0 [.ref xo, .int 2] [[zO10 xo t im mk rd po co tr wa wb_ fi cd], wt, z0_, z1_, wd0_, wd1_, wg0_, wg1_, wtc, z0_c, z1_c, wd0_c, wd1_c, wg0_c, wg1_c, [zArq T 6 im 3 qi], [zAr T 2 mk 3 fmk], wwA, wwB, wff] (fun (r : Int32) bs => ∃ (ln_2 : Int32) (fl_2 : Int32) (pl_2 : Int32) (ft_2 : Nat → Int32) (fk_2 : Nat → Int32) (wt_2 : va_W) (cr0__2 : Int32) (inn0__2 : Int32) (k10__2 : Nat → Int32) (k20__2 : Nat → Int32) (k30__2 : Nat → Int32) (k40__2 : Nat → Int32) (z0__2 : va_W) (cr1__2 : Int32) (inn1__2 : Int32) (k11__2 : Nat → Int32) (k21__2 : Nat → Int32) (k31__2 : Nat → Int32) (k41__2 : Nat → Int32) (z1__2 : va_W) (dd0__2 : Int32) (p10__2 : Nat → Int32) (p20__2 : Nat → Int32) (p30__2 : Nat → Int32) (wd0__2 : va_W) (dd1__2 : Int32) (p11__2 : Nat → Int32) (p21__2 : Nat → Int32) (p31__2 : Nat → Int32) (wd1__2 : va_W) (gg0__2 : Int32) (q10__2 : Nat → Int32) (q20__2 : Nat → Int32) (wg0__2 : va_W) (gg1__2 : Int32) (q11__2 : Nat → Int32) (q21__2 : Nat → Int32) (wg1__2 : va_W) (wwA_2 : va_W) (wwB_2 : va_W) (wff_2 : va_W) (mdA_2 : Int32) (mdB_2 : Int32) (e0f_2 : Int32), bs = [[zO10 xo t im mk rd po co tr wa wb_ fi cd], wt_2, z0__2, z1__2, wd0__2, wd1__2, wg0__2, wg1__2, wtc, z0_c, z1_c, wd0_c, wd1_c, wg0_c, wg1_c, [zArq T 6 im 3 qi], [zAr T 2 mk 3 fmk], wwA_2, wwB_2, wff_2] ∧ bTold T t l0 l1 d0 d1 g0 g1 ln_2 fl_2 pl_2 ft_2 fk_2 wt_2 ∧ zKT fk_2 ∧ bLand T l0 cr0__2 inn0__2 k10__2 k20__2 k30__2 k40__2 z0__2 ∧ zLI cr0__2 k10__2 k30__2 ∧ bLand T l1 cr1__2 inn1__2 k11__2 k21__2 k31__2 k41__2 z1__2 ∧ zLI cr1__2 k11__2 k31__2 ∧ bDay T d0 dd0__2 p10__2 p20__2 p30__2 wd0__2 ∧ bDay T d1 dd1__2 p11__2 p21__2 p31__2 wd1__2 ∧ bLog T g0 gg0__2 q10__2 q20__2 wg0__2 ∧ bLog T g1 gg1__2 q11__2 q21__2 wg1__2 ∧ bWays T wa laA mdA_2 wyA pc_A f1A f2A f3A f4A f5A f6A n4A wwA_2 ∧ bWays T wb_ laB mdB_2 wyB pc_B f1B f2B f3B f4B f5B f6B n4B wwB_2 ∧ bFit T fi e0f_2 e1f e2f e3f e4f e5f r1f m1f r2f wff_2 ∧ (mdA_2 = 0 ∧ mdB_2 = 0 ∧ e0f_2 = 0 ∨ mdA_2 = mdA ∧ mdB_2 = mdB ∧ e0f_2 = 0 ∨ mdA_2 = mdA ∧ mdB_2 = mdB ∧ e0f_2 = e0f) ∧ (fmk 2 = 0 ∧ r = 0 ∧ zTR ln_2 fl_2 pl_2 ft_2 fk_2 cr0__2 inn0__2 k10__2 k20__2 k30__2 k40__2 cr1__2 inn1__2 k11__2 k21__2 k31__2 k41__2 dd0__2 p10__2 p20__2 p30__2 dd1__2 p11__2 p21__2 p31__2 gg0__2 q10__2 q20__2 gg1__2 q11__2 q21__2 Gr ∨ ¬ fmk 2 = 0 ∧ r = 1 ∧ zTR ln_2 fl_2 pl_2 ft_2 fk_2 cr0__2 inn0__2 k10__2 k20__2 k30__2 k40__2 cr1__2 inn1__2 k11__2 k21__2 k31__2 k41__2 dd0__2 p10__2 p20__2 p30__2 dd1__2 p11__2 p21__2 p31__2 gg0__2 q10__2 q20__2 gg1__2 q11__2 q21__2 Gw) ∧ (fmk 2 = 0 ∨ mdA_2 = 0 ∧ mdB_2 = 0 ∧ e0f_2 = 0)) := by
  refine zMi_of (own := RX11) (by decide) rfl (Nat.le_of_ble_eq_true rfl) ?_
  intro p e s m args below meth c A ls C hr hlocks hnm hAe G hl
  refine zHide (fun Qz_ hQz_ => ?_)
  have hx := C.1
  have hb := C.2.1
  replace hTw : zHd ((¬ fmk 2 = 0 → zTR lnc flc plc ftc fkc cr0_c inn0_c k10_c k20_c k30_c k40_c cr1_c inn1_c k11_c k21_c k31_c k41_c dd0_c p10_c p20_c p30_c dd1_c p11_c p21_c p31_c gg0_c q10_c q20_c gg1_c q11_c q21_c Gw)) := hTw
  have hl : lv_has ls 2 [(0, .ref xo), (1, .int 2)] := hl
  refine lv_iload_n hx hb dX11_again_0 rfl (lv_at hl 1 rfl) ?_
  refine lv_if_lt (tgt := 18) hx hb dX11_again_1 (by decide) (fun q => absurd q (by decide)) (fun _ => ?_)
  refine lv_iload_n hx hb dX11_again_4 rfl (lv_at hl 1 rfl) ?_
  refine lv_iconst (v := 3) hx hb dX11_again_5 (by decide) ?_
  refine lv_icmp_ge (tgt := 18) hx hb dX11_again_6 (by decide) (fun q => absurd q (by decide)) (fun _ => ?_)
  refine lv_aload_n hx hb dX11_again_9 rfl (lv_at hl 0 rfl) ?_
  refine z_get C G clX11 0 rfl 2 (by decide) m_fl_RX11_20 rfl dX11_again_10 ?_
  refine lv_iload_n hx hb dX11_again_13 rfl (lv_at hl 1 rfl) ?_
  refine z_zld C G 16 rfl (vp_in_nI (n := 2) (by decide) (by decide)) dX11_again_14 ?_
  refine lv_topi (fun v_1 ev_1 => ?_)
  rw [show ((2 : Int32).toNatClampNeg) = 2 from rfl] at ev_1
  subst ev_1
  refine lv_if_ne (tgt := 20) hx hb dX11_again_15 (by decide) (fun c_2 => ?_) (fun c_2 => ?_)
  · have c_2n : ¬ (fmk 2).toInt = (0 : Int) := fun q => c_2 ((fa_eq _ _).mpr q)
    refine lv_aload_n hx hb dX11_again_20 rfl (lv_at hl 0 rfl) ?_
    refine z_get C G clX11 0 rfl 0 (by decide) m_fl_RX11_10 rfl dX11_again_21 ?_
    refine lv_aload_n hx hb dX11_again_24 rfl (lv_at hl 0 rfl) ?_
    refine z_get C G clX11 0 rfl 1 (by decide) m_fl_RX11_16 rfl dX11_again_25 ?_
    refine lv_iload_n hx hb dX11_again_28 rfl (lv_at hl 1 rfl) ?_
    refine z_ald C G 15 6 rfl rfl (vp_in_nI (n := 2) (by decide) (by decide)) dX11_again_29 ?_
    rw [show qi ((2 : Int32).toNatClampNeg) = some m2 from hm2]
    refine z_Vv (bc := [wt, z0_, z1_, wd0_, wd1_, wg0_, wg1_, wtc, z0_c, z1_c, wd0_c, wd1_c, wg0_c, wg1_c]) (br := [[zO10 xo t im mk rd po co tr wa wb_ fi cd], [zArq T 6 im 3 qi], [zAr T 2 mk 3 fmk], wwA, wwB, wff]) (As := [.ref m2]) (rest := []) C G (c_f_Told_takeAll l T t l0 l1 d0 d1 g0 g1 ln fl pl ft fk wt cr0_ inn0_ k10_ k20_ k30_ k40_ z0_ cr1_ inn1_ k11_ k21_ k31_ k41_ z1_ dd0_ p10_ p20_ p30_ wd0_ dd1_ p11_ p21_ p31_ wd1_ gg0_ q10_ q20_ wg0_ gg1_ q11_ q21_ wg1_ m2 l0c l1c d0c d1c g0c g1c lnc flc plc ftc fkc wtc cr0_c inn0_c k10_c k20_c k30_c k40_c z0_c cr1_c inn1_c k11_c k21_c k31_c k41_c z1_c dd0_c p10_c p20_c p30_c wd0_c dd1_c p11_c p21_c p31_c wd1_c gg0_c q10_c q20_c wg0_c gg1_c q11_c q21_c wg1_c Gw ht (by first | with_reducible assumption | with_reducible rfl | omega | assumption | rfl) hz0_ (by first | with_reducible assumption | with_reducible rfl | omega | assumption | rfl) hz1_ (by first | with_reducible assumption | with_reducible rfl | omega | assumption | rfl) hd0_ hd1_ hg0_ hg1_ htc (by first | with_reducible assumption | with_reducible rfl | omega | assumption | rfl) hz0_c (by first | with_reducible assumption | with_reducible rfl | omega | assumption | rfl) hz1_c (by first | with_reducible assumption | with_reducible rfl | omega | assumption | rfl) hd0_c hd1_c hg0_c hg1_c (hTw (by first | with_reducible assumption | assumption))) (kV_RX11_117 C.2.2.2.2 (Nat.le_of_ble_eq_true rfl) (Nat.le_of_ble_eq_true rfl)) [1, 2, 3, 4, 5, 6, 7, 8, 9, 10, 11, 12, 13, 14] [1, 0, 0, 0, 0, 0, 0, 0, 0, 0, 0, 0, 0, 0] rfl rfl (ci := 8) (qc := (RX9, TX9, 8)) rfl rfl (List.mem_flatten.mpr ⟨_, List.mem_of_getElem? (i := 0) rfl, (bTold_mem ht).choose_spec⟩) rfl rfl hl.1 dX11_again_30 (Nat.le_of_ble_eq_true rfl) (Nat.le_of_ble_eq_true rfl) (fun b1 H locs hw G => ?_)
    refine zEx27 hw ?_
    intro wt2_3 g9_4 fk2_5 w2_6 s0_7 s0_8 s0_9 s0_10 w2_11 s1_12 s1_13 s1_14 s1_15 w2_16 s2_17 s2_18 s2_19 w2_20 s3_21 s3_22 s3_23 w2_24 s4_25 s4_26 w2_27 s5_28 s5_29
    refine zCu12 ?_
    intro hbs9 h_30 h_31 h_32 h_33 h_34 h_35 h_36 h_37 h_38 h_39 h_40
    clear hw
    subst hbs9
    have G : zS T A s.heap s [[zO10 xo t im mk rd po co tr wa wb_ fi cd], [zArq T 6 im 3 qi], [zAr T 2 mk 3 fmk], wwA, wwB, wff, wt2_3, w2_6, w2_11, w2_16, w2_20, w2_24, w2_27, wtc, z0_c, z1_c, wd0_c, wd1_c, wg0_c, wg1_c] _ _ := G
    refine lv_aload_n hx hb dX11_again_33 rfl (lv_at hl 0 rfl) ?_
    refine lv_iconst (v := 1) hx hb dX11_again_34 (by decide) ?_
    refine z_Vv (bc := [[zO10 xo t im mk rd po co tr wa wb_ fi cd], wwA, wwB, wff]) (br := [[zArq T 6 im 3 qi], [zAr T 2 mk 3 fmk], wt2_3, w2_6, w2_11, w2_16, w2_20, w2_24, w2_27, wtc, z0_c, z1_c, wd0_c, wd1_c, wg0_c, wg1_c]) (As := [.int 1]) (rest := []) C G (c_forget1 l T xo t im mk rd po co tr wa wb_ fi cd laA mdA wyA pc_A f1A f2A f3A f4A f5A f6A n4A wwA laB mdB wyB pc_B f1B f2B f3B f4B f5B f6B n4B wwB e0f e1f e2f e3f e4f e5f r1f m1f r2f wff hwwA hwwB hwff) (kV_RX11_105 C.2.2.2.2 (Nat.le_of_ble_eq_true rfl) (Nat.le_of_ble_eq_true rfl)) [0, 3, 4, 5] [0, 2, 0, 0] rfl rfl (ci := 10) (qc := (RX11, TX11, 11)) rfl rfl (List.mem_flatten.mpr ⟨_, List.mem_of_getElem? (i := 0) rfl, List.mem_cons_self⟩) rfl rfl hl.1 dX11_again_35 (Nat.le_of_ble_eq_true rfl) (Nat.le_of_ble_eq_true rfl) (fun b1 H locs hw G => ?_)
    refine zEx3 hw ?_
    intro wwA_42 wwB_43 wff_44
    refine zCu4 ?_
    intro hbs9 h_45 h_46 h_47
    clear hw
    subst hbs9
    have G : zS T A s.heap s [[zArq T 6 im 3 qi], [zAr T 2 mk 3 fmk], wt2_3, w2_6, w2_11, w2_16, w2_20, w2_24, w2_27, wtc, z0_c, z1_c, wd0_c, wd1_c, wg0_c, wg1_c, [zO10 xo t im mk rd po co tr wa wb_ fi cd], wwA_42, wwB_43, wff_44] _ _ := G
    refine lv_iconst (v := 1) hx hb dX11_again_38 (by decide) ?_
    have G := G.sub (bs' := [[zO10 xo t im mk rd po co tr wa wb_ fi cd], wt2_3, w2_6, w2_11, w2_16, w2_20, w2_24, w2_27, wtc, z0_c, z1_c, wd0_c, wd1_c, wg0_c, wg1_c, [zArq T 6 im 3 qi], [zAr T 2 mk 3 fmk], wwA_42, wwB_43, wff_44]) [16, 2, 3, 4, 5, 6, 7, 8, 9, 10, 11, 12, 13, 14, 15, 0, 1, 17, 18, 19] rfl
    exact z_back hQz_ (z_zret C hr hlocks G (Nat.le_of_ble_eq_true rfl) (Nat.le_of_ble_eq_true rfl) dX11_again_39 rfl ⟨lnc, flc, plc, g9_4, fk2_5, wt2_3, cr0_c, inn0_c, s0_7, s0_8, s0_9, s0_10, w2_6, cr1_c, inn1_c, s1_12, s1_13, s1_14, s1_15, w2_11, dd0_c, s2_17, s2_18, s2_19, w2_16, dd1_c, s3_21, s3_22, s3_23, w2_20, gg0_c, s4_25, s4_26, w2_24, gg1_c, s5_28, s5_29, w2_27, wwA_42, wwB_43, wff_44, 0, 0, 0, rfl, h_30, (by first | with_reducible assumption | omega | trivial | assumption), h_32, (by first | with_reducible assumption | omega | trivial | assumption), h_33, (by first | with_reducible assumption | omega | trivial | assumption), h_34, h_35, h_36, h_37, h_45, h_46, h_47, (by first | exact Or.inl ⟨rfl, rfl, rfl⟩ | exact Or.inr (Or.inl ⟨rfl, rfl, rfl⟩) | exact Or.inr (Or.inr ⟨rfl, rfl, rfl⟩)), (Or.inr ⟨by first | with_reducible assumption | assumption, rfl, h_40⟩), (Or.inr ⟨rfl, rfl, rfl⟩)⟩)
  · have c_2n : (fmk 2).toInt = (0 : Int) := (fa_eq _ _).mp c_2
    refine lv_iconst (v := 0) hx hb dX11_again_18 (by decide) ?_
    exact z_back hQz_ (z_zret C hr hlocks G (Nat.le_of_ble_eq_true rfl) (Nat.le_of_ble_eq_true rfl) dX11_again_19 rfl ⟨ln, fl, pl, ft, fk, wt, cr0_, inn0_, k10_, k20_, k30_, k40_, z0_, cr1_, inn1_, k11_, k21_, k31_, k41_, z1_, dd0_, p10_, p20_, p30_, wd0_, dd1_, p11_, p21_, p31_, wd1_, gg0_, q10_, q20_, wg0_, gg1_, q11_, q21_, wg1_, wwA, wwB, wff, mdA, mdB, e0f, rfl, ht, (by first | with_reducible assumption | omega | trivial | assumption), hz0_, (by first | with_reducible assumption | omega | trivial | assumption), hz1_, (by first | with_reducible assumption | omega | trivial | assumption), hd0_, hd1_, hg0_, hg1_, hwwA, hwwB, hwff, (by first | exact Or.inl ⟨rfl, rfl, rfl⟩ | exact Or.inr (Or.inl ⟨rfl, rfl, rfl⟩) | exact Or.inr (Or.inr ⟨rfl, rfl, rfl⟩)), (Or.inl ⟨by first | with_reducible assumption | assumption, rfl, hT⟩), (Or.inl (by first | with_reducible assumption | assumption))⟩)
theorem zB01 (x : Int32) : x &&& 1 = 0 ∨ x &&& 1 = 1 := by
  obtain ⟨j, hj, e⟩ := pk_andE x (m := 1) 1 (by decide)
  rw [e]
  rcases (show j = 0 ∨ j = 1 by omega) with q | q
  · rw [q]; exact Or.inl rfl
  · rw [q]; exact Or.inr rfl
theorem zBit_n {x y : Int32} (h : ¬ zBit x y = 1) : zBit x y = 0 := (zB01 (x >>> (y &&& 31))).resolve_right h
theorem zBit_p {x y : Int32} (h : ¬ zBit x y = 0) : zBit x y = 1 := (zB01 (x >>> (y &&& 31))).resolve_left h
theorem zBit_o {x y : Int32} (h : zBit x y = 1) : ¬ zBit x y = 0 := fun q => absurd (q.symm.trans h) (by decide)
theorem zRm2 {x n : Int32} (h0 : 0 ≤ x.toInt) (h1 : 0 < n.toInt) (h4 : n.toInt ≤ 4) (h2 : x.toInt < 2 * n.toInt) : x.toInt < n.toInt ∧ (x - x / n * n).toInt = x.toInt ∨ n.toInt ≤ x.toInt ∧ (x - x / n * n).toInt = x.toInt - n.toInt := by
  rw [rem_toInt, Int.tmod_eq_emod_of_nonneg h0]
  rcases (show n.toInt = 1 ∨ n.toInt = 2 ∨ n.toInt = 3 ∨ n.toInt = 4 by omega) with q | q | q | q <;> rw [q] <;> omega
def zRo (f : Nat → Int32) (z : Int32) (j : Nat) : Int32 := f (z.toInt.toNat + (2 + j))
def zLo (f : Nat → Int32) (z : Int32) (i : Nat) : Int32 := f (z.toInt.toNat + (23 + i))
def zPo (f : Nat → Int32) (z : Int32) (j : Nat) : Int32 := f (z.toInt.toNat + (9 + j))
/-- ways out: none of an inn -/
def zWo (f : Nat → Int32) (z inns : Int32) (j : Nat) : Int32 := if zBit inns (nI j) = 1 then 0 else zRo f z j
/-- each post points to a road that is there, or to the first one -/
def zMV (R P : Nat → Int32) : Prop := ∀ c, c < 7 → (R c).toInt ≤ 0 ∨ (P c).toInt = 0 ∨ (P c).toInt < (R c).toInt
theorem zMV_upd {R P : Nat → Int32} {k : Nat} {v : Int32} (h : zMV R P) (hv : v.toInt < (R k).toInt) : zMV R (upd P k v) := by
  intro c hc
  unfold upd
  split
  · rename_i e
    rw [e]
    exact Or.inr (Or.inr hv)
  · exact h c hc
theorem zNext_m {R q k : Int32} {p i : Int} (hr : R.toInt ≤ 4) (hp : 0 ≤ p) (hpr : p < R.toInt) (hi : 1 ≤ i ∧ i ≤ R.toInt) (hq : q.toInt = p + i - 1 ∧ q.toInt < R.toInt ∨ q.toInt = p + i - 1 - R.toInt ∧ 0 ≤ q.toInt) (hk : p + i < R.toInt ∧ k.toInt = p + i ∨ R.toInt ≤ p + i ∧ k.toInt = p + i - R.toInt) : zNext R q = k := by
  have e : (q + 1).toInt = q.toInt + 1 := z_iaddI (by show -2147483648 ≤ q.toInt + 1; omega) (by show q.toInt + 1 < 2147483648; omega)
  unfold zNext
  by_cases hc : q + 1 < R
  · rw [if_pos hc]
    have hc2 := (fa_lt _ _).mp hc
    exact Int32.toInt_inj.mp (by omega)
  · rw [if_neg hc]
    have hc2 : ¬ (q + 1).toInt < R.toInt := fun z => hc ((fa_lt _ _).mpr z)
    exact Int32.toInt_inj.mp (by show (0 : Int) = k.toInt; omega)
theorem zTurnR_lt {roads closed : Int32} (h4 : roads.toInt ≤ 4) : ∀ (n : Nat) (r : Int32), (n : Int) ≤ roads.toInt → 0 ≤ r.toInt → r.toInt ≤ 1000 → zTurnR roads closed n r = -1 ∨ 0 ≤ (zTurnR roads closed n r).toInt ∧ (zTurnR roads closed n r).toInt < roads.toInt
  | 0, r, _, _, _ => Or.inl rfl
  | n + 1, r, hn, h1, h2 => by
    have e : (r + 1).toInt = r.toInt + 1 := z_iaddI (by show -2147483648 ≤ r.toInt + 1; omega) (by show r.toInt + 1 < 2147483648; omega)
    have hq : 0 ≤ (zNext roads r).toInt ∧ (zNext roads r).toInt < roads.toInt := by
      unfold zNext
      by_cases hc : r + 1 < roads
      · rw [if_pos hc]
        have hc2 := (fa_lt _ _).mp hc
        omega
      · rw [if_neg hc]
        exact ⟨by decide, by show (0 : Int) < roads.toInt; omega⟩
    rw [zTurnR]
    by_cases hb : zBit closed (zNext roads r) = 0
    · rw [if_pos hb]
      exact Or.inr hq
    · rw [if_neg hb]
      exact zTurnR_lt h4 n _ (by omega) hq.1 (by omega)
theorem zTurn_lt {f1 f2 f3 : Nat → Int32} (hI : zP3 f1 f3) (x : Int32) : zTurn f1 f2 f3 x = -1 ∨ 0 ≤ x.toInt ∧ x.toInt < 7 ∧ 0 ≤ (zTurn f1 f2 f3 x).toInt ∧ (zTurn f1 f2 f3 x).toInt < (f3 x.toNatClampNeg).toInt := by
  unfold zTurn
  split
  · rename_i q
    have e := z_clI q.1
    have h := hI x.toNatClampNeg (by omega)
    have e2 := z_clI h.1.1
    rcases zTurnR_lt (closed := f2 x.toNatClampNeg) h.1.2 (f3 x.toNatClampNeg).toNatClampNeg (f1 x.toNatClampNeg) (by omega) h.2.1 h.2.2 with g | g
    · exact Or.inl g
    · exact Or.inr ⟨q.1, q.2, g.1, g.2⟩
  · exact Or.inl rfl
theorem zTurn_cg {f1 f2 f3 g1 g2 g3 : Nat → Int32} (h1 : ∀ j, j < 7 → f1 j = g1 j) (h2 : ∀ j, j < 7 → f2 j = g2 j) (h3 : ∀ j, j < 7 → f3 j = g3 j) (x : Int32) : zTurn f1 f2 f3 x = zTurn g1 g2 g3 x := by
  unfold zTurn
  by_cases q : 0 ≤ x.toInt ∧ x.toInt < 7
  · have e := z_clI q.1
    rw [if_pos q, if_pos q, h1 _ (by omega), h2 _ (by omega), h3 _ (by omega)]
  · rw [if_neg q, if_neg q]
theorem zPost_cg {f1 f2 f3 g1 g2 g3 : Nat → Int32} (h1 : ∀ j, j < 7 → f1 j = g1 j) (h2 : ∀ j, j < 7 → f2 j = g2 j) (h3 : ∀ j, j < 7 → f3 j = g3 j) (x : Int32) : ∀ j, j < 7 → zPost f1 f2 f3 x j = zPost g1 g2 g3 x j := by
  intro j hj
  unfold zPost
  rw [zTurn_cg h1 h2 h3 x]
  by_cases q : zTurn g1 g2 g3 x = -1
  · rw [if_pos q, if_pos q]
    exact h1 j hj
  · rw [if_neg q, if_neg q]
    unfold upd
    split
    · rfl
    · exact h1 j hj
/-- the roads of two rows lead to the same -/
def zLs (f3 lf lg : Nat → Int32) : Prop := ∀ j r : Nat, j < 7 → r < 4 → (r : Int) < (f3 j).toInt → lf (4 * j + r) = lg (4 * j + r)
theorem zStep_cg {f1 f2 f3 g1 g2 g3 lf lg : Nat → Int32} (hI : zP3 f1 f3) (h1 : ∀ j, j < 7 → f1 j = g1 j) (h2 : ∀ j, j < 7 → f2 j = g2 j) (h3 : ∀ j, j < 7 → f3 j = g3 j) (hl : zLs f3 lf lg) (x : Int32) : zStep f1 f2 f3 lf x = zStep g1 g2 g3 lg x := by
  unfold zStep
  rw [← zTurn_cg h1 h2 h3 x]
  by_cases q : zTurn f1 f2 f3 x = -1
  · rw [if_pos q, if_pos q]
  · rw [if_neg q, if_neg q]
    have g := (zTurn_lt (f2 := f2) hI x).resolve_left q
    have e := z_clI g.1
    have e2 := z_clI g.2.2.1
    have e3 := (hI x.toNatClampNeg (by omega)).1.2
    exact hl _ _ (by omega) (by omega) (by omega)
theorem zRunN_cg {f2 f3 g2 g3 lf lg : Nat → Int32} (h2 : ∀ j, j < 7 → f2 j = g2 j) (h3 : ∀ j, j < 7 → f3 j = g3 j) (hl : zLs f3 lf lg) : ∀ (n : Nat) (f1 g1 : Nat → Int32) (x : Int32) (k : Nat), zP3 f1 f3 → (∀ j, j < 7 → f1 j = g1 j) → (∀ j, j < 7 → (zRunN f2 f3 lf n f1 x k).1 j = (zRunN g2 g3 lg n g1 x k).1 j) ∧ (zRunN f2 f3 lf n f1 x k).2 = (zRunN g2 g3 lg n g1 x k).2
  | 0, f1, g1, x, k, _, h1 => ⟨h1, rfl⟩
  | n + 1, f1, g1, x, k, hI, h1 => by
    have e := zStep_cg hI h1 h2 h3 hl x
    have p := zPost_cg h1 h2 h3 x
    unfold zRunN
    rw [← e]
    by_cases q : zStep f1 f2 f3 lf x = -1
    · rw [if_pos q, if_pos q]
      exact ⟨p, rfl⟩
    · rw [if_neg q, if_neg q]
      exact zRunN_cg h2 h3 hl n _ _ _ _ (zPost_I hI x) p
/-- how often he was at each -/
def zVi (w : Nat → Int32) (t : Int32) : Nat → Int32 := if 0 ≤ t.toInt ∧ t.toInt < 7 then upd w t.toNatClampNeg (w t.toNatClampNeg + 1) else w
def zWasN (f2 f3 lf : Nat → Int32) : Nat → (Nat → Int32) → Int32 → (Nat → Int32) → Nat → Int32
  | 0, _, _, w => w
  | n + 1, f, x, w => if zStep f f2 f3 lf x = -1 then w else zWasN f2 f3 lf n (zPost f f2 f3 x) (zStep f f2 f3 lf x) (zVi w (zStep f f2 f3 lf x))
theorem zTurn_wo {P S f : Nat → Int32} {z n x : Int32} (h : ¬ zBit n x = 1) (h0 : 0 ≤ x.toInt) (h6 : x.toInt ≤ 6) : zTurn P S (zWo f z n) x = zTurn P S (zRo f z) x := by
  have e := z_clI h0
  have e2 : x = nI x.toNatClampNeg := z_nI (by omega) (by omega)
  have e3 : zWo f z n x.toNatClampNeg = zRo f z x.toNatClampNeg := if_neg (by rw [← e2]; exact h)
  unfold zTurn
  rw [e3]
theorem zTurn_inn {P S f : Nat → Int32} {z n x : Int32} (h : zBit n x = 1) (h0 : 0 ≤ x.toInt) (h6 : x.toInt ≤ 6) : zTurn P S (zWo f z n) x = -1 := by
  have e := z_clI h0
  have e2 : x = nI x.toNatClampNeg := z_nI (by omega) (by omega)
  have e3 : zWo f z n x.toNatClampNeg = 0 := if_pos (by rw [← e2]; exact h)
  unfold zTurn
  rw [e3]
  split
  · rfl
  · rfl
theorem zPost_wo {P S f : Nat → Int32} {z n x : Int32} (h : ¬ zBit n x = 1) (h0 : 0 ≤ x.toInt) (h6 : x.toInt ≤ 6) : zPost P S (zWo f z n) x = zPost P S (zRo f z) x := by
  unfold zPost
  rw [zTurn_wo h h0 h6]
set_option maxHeartbeats 4000000 in
set_option maxRecDepth 100000 in
/-- c_fm_turns -/
theorem c_fm_turns (l : Launch) (T : zTy) (mo : Nat) (m_all : Nat) (m_has : Nat) (i_size : Int32) (i_next : Int32) (i_where : Int32) (i_token : Int32) (i_number : Int32) (i_word : Int32) (i_wrong : Int32) (i_farCrossing : Int32) (m_read : Nat) (i_z0 : Int32) (i_crossings : Int32) (i_inns : Int32) (m_posts : Nat) (m_shut : Nat) (m_here : Nat) (i_steps : Int32) (i_done : Int32) (i_at : Int32) (i_gone : Int32) (m_was : Nat) (m_came : Nat) (m_seenAt : Nat) (m_rowWorth : Nat) (m_farBy : Nat) (m_used : Nat) (i_everywhere : Int32) (i_again0 : Int32) (i_d0 : Int32) (i_never : Int32) (i_firstCame : Int32) (i_longRun : Int32) (i_moved : Int32) (i_crowd : Int32) (i_l0 : Int32) (i_fitMany : Int32) (i_fitLeast : Int32) (i_fitMost : Int32) (m_fitPost : Nat) (m_fitEnd : Nat) (m_keptPosts : Nat) (i_x0 : Int32) (f_all : Nat → Int32) (f_posts : Nat → Int32) (f_shut : Nat → Int32) (c_ : Int32) (hL : zML f_all i_z0 i_crossings) (hc0 : 0 ≤ c_.toInt) (hc6 : c_.toInt ≤ 6) (hV : zMV (zRo f_all i_z0) f_posts) (hP : zMP f_posts) : zMi l T yX12_turns cX12_turns 5 (some .boolean) 2 0 0 [.ref mo, .int c_] [[zO11 mo m_all m_has i_size i_next i_where i_token i_number i_word i_wrong i_farCrossing m_read i_z0 i_crossings i_inns m_posts m_shut m_here i_steps i_done i_at i_gone m_was m_came m_seenAt m_rowWorth m_farBy m_used i_everywhere i_again0 i_d0 i_never i_firstCame i_longRun i_moved i_crowd i_l0 i_fitMany i_fitLeast i_fitMost m_fitPost m_fitEnd m_keptPosts i_x0], [zAr T 0 m_all 3952 f_all], [zAr T 0 m_posts 7 f_posts], [zAr T 0 m_shut 7 f_shut]] (fun (r : Int32) bs => ∃ (g_posts : Nat → Int32), bs = [[zO11 mo m_all m_has i_size i_next i_where i_token i_number i_word i_wrong i_farCrossing m_read i_z0 i_crossings i_inns m_posts m_shut m_here i_steps i_done i_at i_gone m_was m_came m_seenAt m_rowWorth m_farBy m_used i_everywhere i_again0 i_d0 i_never i_firstCame i_longRun i_moved i_crowd i_l0 i_fitMany i_fitLeast i_fitMost m_fitPost m_fitEnd m_keptPosts i_x0], [zAr T 0 m_all 3952 f_all], [zAr T 0 m_posts 7 g_posts], [zAr T 0 m_shut 7 f_shut]] ∧ zMP g_posts ∧ zMV (zRo f_all i_z0) g_posts ∧ g_posts = zPost f_posts f_shut (zRo f_all i_z0) c_ ∧ ((r = 1 ∧ ¬ zTurn f_posts f_shut (zRo f_all i_z0) c_ = -1 ∧ 0 < (zRd f_all i_z0 c_).toInt) ∨ (r = 0 ∧ zTurn f_posts f_shut (zRo f_all i_z0) c_ = -1))) := by
  refine zMi_of (own := RX12) (by decide) rfl (Nat.le_of_ble_eq_true rfl) ?_
  intro p e s m args below meth c A ls C hr hlocks hnm hAe G hl
  refine zHide (fun Qz_ hQz_ => ?_)
  have hx := C.1
  have hb := C.2.1
  have hl : lv_has ls 5 [(0, .ref mo), (1, .int c_)] := hl
  have hz := hL.1
  have hcr := hL.cr
  have hcl := z_clI (x := c_) (by omega)
  have hpc := hP c_.toNatClampNeg (by omega)
  refine lv_aload_n hx hb dX12_turns_0 rfl (lv_at hl 0 rfl) ?_
  refine lv_iload_n hx hb dX12_turns_1 rfl (lv_at hl 1 rfl) ?_
  refine z_Vi (bc := [[zO11 mo m_all m_has i_size i_next i_where i_token i_number i_word i_wrong i_farCrossing m_read i_z0 i_crossings i_inns m_posts m_shut m_here i_steps i_done i_at i_gone m_was m_came m_seenAt m_rowWorth m_farBy m_used i_everywhere i_again0 i_d0 i_never i_firstCame i_longRun i_moved i_crowd i_l0 i_fitMany i_fitLeast i_fitMost m_fitPost m_fitEnd m_keptPosts i_x0], [zAr T 0 m_all 3952 f_all]]) (br := [[zAr T 0 m_posts 7 f_posts], [zAr T 0 m_shut 7 f_shut]]) (As := [.int c_]) (rest := []) C G (c_m_roadsOf l T mo m_all m_has i_size i_next i_where i_token i_number i_word i_wrong i_farCrossing m_read i_z0 i_crossings i_inns m_posts m_shut m_here i_steps i_done i_at i_gone m_was m_came m_seenAt m_rowWorth m_farBy m_used i_everywhere i_again0 i_d0 i_never i_firstCame i_longRun i_moved i_crowd i_l0 i_fitMany i_fitLeast i_fitMost m_fitPost m_fitEnd m_keptPosts i_x0 f_all c_ (by first | with_reducible assumption | with_reducible rfl | omega | assumption | rfl) (by first | with_reducible assumption | with_reducible rfl | omega | assumption | rfl) (by first | with_reducible assumption | with_reducible rfl | omega | assumption | rfl)) (kV_RX12_181 C.2.2.2.2 (Nat.le_of_ble_eq_true rfl) (Nat.le_of_ble_eq_true rfl)) [0, 1] [0, 0] rfl rfl (ci := 11) (qc := (RX12, TX12, 43)) rfl rfl (List.mem_flatten.mpr ⟨_, List.mem_of_getElem? (i := 0) rfl, List.mem_cons_self⟩) rfl rfl hl.1 dX12_turns_2 (Nat.le_of_ble_eq_true rfl) (Nat.le_of_ble_eq_true rfl) (fun r_4 b1 H locs hw G => ?_)
  refine zAn4 hw ?_
  intro hbs9 h_1 h_2 h_3
  clear hw
  subst hbs9
  have G : zS T A s.heap s [[zAr T 0 m_posts 7 f_posts], [zAr T 0 m_shut 7 f_shut], [zO11 mo m_all m_has i_size i_next i_where i_token i_number i_word i_wrong i_farCrossing m_read i_z0 i_crossings i_inns m_posts m_shut m_here i_steps i_done i_at i_gone m_was m_came m_seenAt m_rowWorth m_farBy m_used i_everywhere i_again0 i_d0 i_never i_firstCame i_longRun i_moved i_crowd i_l0 i_fitMany i_fitLeast i_fitMost m_fitPost m_fitEnd m_keptPosts i_x0], [zAr T 0 m_all 3952 f_all]] _ _ := G
  subst h_1
  refine lv_istore_n (lv' := [(2, .int (zRd f_all i_z0 c_)), (0, .ref mo), (1, .int c_)]) hx hb dX12_turns_5 rfl hl (by decide) (zLvf_h rfl) (fun ls hl => ?_)
  obtain ⟨n0, hn0⟩ : ∃ n0, n0 = (zRd f_all i_z0 c_).toNatClampNeg := ⟨_, rfl⟩
  have hcn := z_clI (x := zRd f_all i_z0 c_) (by omega)
  have hn4 : (n0 : Int) = (zRd f_all i_z0 c_).toInt := by rw [hn0]; exact hcn
  have hT : zTurn f_posts f_shut (zRo f_all i_z0) c_ = zTurnR (zRd f_all i_z0 c_) (f_shut c_.toNatClampNeg) (n0 + 1 - 1) (f_posts c_.toNatClampNeg) := by unfold zTurn; rw [if_pos ⟨by omega, by omega⟩, hn0]; rfl
  have hVc : (zRd f_all i_z0 c_).toInt ≤ 0 ∨ (f_posts c_.toNatClampNeg).toInt = 0 ∨ (f_posts c_.toNatClampNeg).toInt < (zRd f_all i_z0 c_).toInt := hV c_.toNatClampNeg (by omega)
  refine lv_iconst (v := 1) hx hb dX12_turns_6 (by decide) ?_
  refine lv_istore_n (lv' := [(3, .int 1), (2, .int (zRd f_all i_z0 c_)), (0, .ref mo), (1, .int c_)]) hx hb dX12_turns_7 rfl hl (by decide) (zLvf_h rfl) (fun ls hl => ?_)
  refine z_lp2 (T := T) 8 (fun (i : Nat) (q9 : Int32) => [[zAr T 0 m_posts 7 f_posts], [zAr T 0 m_shut 7 f_shut], [zO11 mo m_all m_has i_size i_next i_where i_token i_number i_word i_wrong i_farCrossing m_read i_z0 i_crossings i_inns m_posts m_shut m_here i_steps i_done i_at i_gone m_was m_came m_seenAt m_rowWorth m_farBy m_used i_everywhere i_again0 i_d0 i_never i_firstCame i_longRun i_moved i_crowd i_l0 i_fitMany i_fitLeast i_fitMost m_fitPost m_fitEnd m_keptPosts i_x0], [zAr T 0 m_all 3952 f_all]]) (fun (i : Nat) (q9 : Int32) => [(3, .int (nI i)), (2, .int (zRd f_all i_z0 c_)), (0, .ref mo), (1, .int c_)]) (fun (i : Nat) (q9 : Int32) => 1 ≤ i ∧ (i : Int) ≤ (zRd f_all i_z0 c_).toInt + 1 ∧ zTurn f_posts f_shut (zRo f_all i_z0) c_ = zTurnR (zRd f_all i_z0 c_) (f_shut c_.toNatClampNeg) (n0 + 1 - i) q9 ∧ ((zRd f_all i_z0 c_).toInt ≤ 0 ∨ q9.toInt = (f_posts c_.toNatClampNeg).toInt + (i : Int) - 1 ∧ q9.toInt < (zRd f_all i_z0 c_).toInt ∨ q9.toInt = (f_posts c_.toNatClampNeg).toInt + (i : Int) - 1 - (zRd f_all i_z0 c_).toInt ∧ 0 ≤ q9.toInt)) (fun (i : Nat) (q9 : Int32) => 6 - i) ?_ 1 (f_posts c_.toNatClampNeg) (show 1 ≤ 1 ∧ (1 : Int) ≤ (zRd f_all i_z0 c_).toInt + 1 ∧ zTurn f_posts f_shut (zRo f_all i_z0) c_ = zTurnR (zRd f_all i_z0 c_) (f_shut c_.toNatClampNeg) (n0 + 1 - 1) (f_posts c_.toNatClampNeg) ∧ ((zRd f_all i_z0 c_).toInt ≤ 0 ∨ (f_posts c_.toNatClampNeg).toInt = (f_posts c_.toNatClampNeg).toInt + (1 : Int) - 1 ∧ (f_posts c_.toNatClampNeg).toInt < (zRd f_all i_z0 c_).toInt ∨ (f_posts c_.toNatClampNeg).toInt = (f_posts c_.toNatClampNeg).toInt + (1 : Int) - 1 - (zRd f_all i_z0 c_).toInt ∧ 0 ≤ (f_posts c_.toNatClampNeg).toInt) from ⟨by omega, by omega, hT, by omega⟩) G (lv_sub hl [0, 1, 2, 3] rfl)
  intro i q9 hI9 ih_8 H locs ls G hl
  replace hI9 : 1 ≤ i ∧ (i : Int) ≤ (zRd f_all i_z0 c_).toInt + 1 ∧ zTurn f_posts f_shut (zRo f_all i_z0) c_ = zTurnR (zRd f_all i_z0 c_) (f_shut c_.toNatClampNeg) (n0 + 1 - i) q9 ∧ ((zRd f_all i_z0 c_).toInt ≤ 0 ∨ q9.toInt = (f_posts c_.toNatClampNeg).toInt + (i : Int) - 1 ∧ q9.toInt < (zRd f_all i_z0 c_).toInt ∨ q9.toInt = (f_posts c_.toNatClampNeg).toInt + (i : Int) - 1 - (zRd f_all i_z0 c_).toInt ∧ 0 ≤ q9.toInt) := hI9
  refine zAn4 hI9 ?_
  intro hi hi5 hq hq3
  clear hI9
  replace G : zS T A s.heap s [[zAr T 0 m_posts 7 f_posts], [zAr T 0 m_shut 7 f_shut], [zO11 mo m_all m_has i_size i_next i_where i_token i_number i_word i_wrong i_farCrossing m_read i_z0 i_crossings i_inns m_posts m_shut m_here i_steps i_done i_at i_gone m_was m_came m_seenAt m_rowWorth m_farBy m_used i_everywhere i_again0 i_d0 i_never i_firstCame i_longRun i_moved i_crowd i_l0 i_fitMany i_fitLeast i_fitMost m_fitPost m_fitEnd m_keptPosts i_x0], [zAr T 0 m_all 3952 f_all]] _ _ := G
  replace hl : lv_has ls 5 [(3, .int (nI i)), (2, .int (zRd f_all i_z0 c_)), (0, .ref mo), (1, .int c_)] := hl
  refine lv_iload_n hx hb dX12_turns_8 rfl (lv_at hl 0 rfl) ?_
  refine lv_iload_n hx hb dX12_turns_9 rfl (lv_at hl 1 rfl) ?_
  refine lv_icmp_gt (tgt := 59) hx hb dX12_turns_10 (by decide) (fun c_5 => ?_) (fun c_5 => ?_)
  · have c_5n : (zRd f_all i_z0 c_).toInt < (i : Int) := by have q := (fa_lt _ _).mp c_5; rw [nI_toInt (n := i) (by omega)] at q; exact q
    have hz : zTurn f_posts f_shut (zRo f_all i_z0) c_ = -1 := by rw [hq, show n0 + 1 - i = 0 by omega]; rfl
    refine lv_iconst (v := 0) hx hb dX12_turns_59 (by decide) ?_
    have G := G.sub (bs' := [[zO11 mo m_all m_has i_size i_next i_where i_token i_number i_word i_wrong i_farCrossing m_read i_z0 i_crossings i_inns m_posts m_shut m_here i_steps i_done i_at i_gone m_was m_came m_seenAt m_rowWorth m_farBy m_used i_everywhere i_again0 i_d0 i_never i_firstCame i_longRun i_moved i_crowd i_l0 i_fitMany i_fitLeast i_fitMost m_fitPost m_fitEnd m_keptPosts i_x0], [zAr T 0 m_all 3952 f_all], [zAr T 0 m_posts 7 f_posts], [zAr T 0 m_shut 7 f_shut]]) [2, 3, 0, 1] rfl
    exact z_back hQz_ (z_zret C hr hlocks G (Nat.le_of_ble_eq_true rfl) (Nat.le_of_ble_eq_true rfl) dX12_turns_60 rfl ⟨f_posts, rfl, (by first | with_reducible assumption | omega | trivial | assumption), (by first | with_reducible assumption | omega | trivial | assumption), (by unfold zPost; rw [if_pos hz]), (Or.inr (⟨rfl, hz⟩))⟩)
  · have c_5n : ¬ (zRd f_all i_z0 c_).toInt < (i : Int) := fun q => c_5 ((fa_lt _ _).mpr (by rw [nI_toInt (n := i) (by omega)]; exact q))
    refine lv_aload_n hx hb dX12_turns_13 rfl (lv_at hl 2 rfl) ?_
    refine z_get C G clX12 2 rfl 14 (by decide) m_fl_RX12_20 rfl dX12_turns_14 ?_
    refine lv_iload_n hx hb dX12_turns_17 rfl (lv_at hl 3 rfl) ?_
    refine z_ild C G 0 rfl (vp_in_iff.mpr ⟨by omega, by omega⟩) dX12_turns_18 ?_
    refine lv_topi (fun v_6 ev_6 => ?_)
    subst ev_6
    refine lv_iload_n hx hb dX12_turns_19 rfl (lv_at hl 0 rfl) ?_
    refine lv_iadd hx hb dX12_turns_20 ?_
    refine lv_topi (fun y_7 ey_7 => ?_)
    have ey_7i : y_7.toInt = (f_posts c_.toNatClampNeg).toInt + (i : Int) := by rw [ey_7]; exact (z_iaddI (x := (f_posts c_.toNatClampNeg)) (y := (nI i)) (by rw [nI_toInt (n := i) (by omega)]; show -2147483648 ≤ (f_posts c_.toNatClampNeg).toInt + (i : Int); omega) (by rw [nI_toInt (n := i) (by omega)]; show (f_posts c_.toNatClampNeg).toInt + (i : Int) < 2147483648; omega)).trans (by rw [nI_toInt (n := i) (by omega)] <;> rfl)
    refine lv_iload_n hx hb dX12_turns_21 rfl (lv_at hl 1 rfl) ?_
    refine lv_irem hx hb dX12_turns_22 (fun q => absurd (congrArg Int32.toInt q) (by show ¬ _ = (0 : Int); omega)) ?_
    refine lv_topi (fun kk_7 ekk_7 => ?_)
    have hrm := zRm2 (x := y_7) (n := zRd f_all i_z0 c_) (by omega) (by omega) (by omega) (by omega)
    rw [← ekk_7] at hrm
    have hnx : zNext (zRd f_all i_z0 c_) q9 = kk_7 := zNext_m (p := (f_posts c_.toNatClampNeg).toInt) (i := (i : Int)) (by omega) (by omega) (by omega) (by omega) (by omega) (by omega)
    refine lv_istore (lv' := [(4, .int kk_7), (3, .int (nI i)), (2, .int (zRd f_all i_z0 c_)), (0, .ref mo), (1, .int c_)]) hx hb dX12_turns_23 hl (by decide) (zLvf_h rfl) (fun ls hl => ?_)
    refine lv_aload_n hx hb dX12_turns_25 rfl (lv_at hl 3 rfl) ?_
    refine z_get C G clX12 2 rfl 15 (by decide) m_fl_RX12_23 rfl dX12_turns_26 ?_
    refine lv_iload_n hx hb dX12_turns_29 rfl (lv_at hl 4 rfl) ?_
    refine z_ild C G 1 rfl (vp_in_iff.mpr ⟨by omega, by omega⟩) dX12_turns_30 ?_
    refine lv_topi (fun v_9 ev_9 => ?_)
    subst ev_9
    refine lv_iload hx hb dX12_turns_31 (lv_at hl 0 rfl) ?_
    refine lv_ishr hx hb dX12_turns_33 ?_
    refine lv_iconst (v := 1) hx hb dX12_turns_34 (by decide) ?_
    refine lv_iand hx hb dX12_turns_35 ?_
    refine lv_iconst (v := 1) hx hb dX12_turns_36 (by decide) ?_
    refine lv_icmp_ne (tgt := 43) hx hb dX12_turns_37 (by decide) (fun c_10 => ?_) (fun c_10 => ?_)
    · have c_10n : ¬ (((f_shut c_.toNatClampNeg) >>> (kk_7 &&& 31)) &&& 1).toInt = (1 : Int) := fun q => c_10 ((fa_eq _ _).mpr q)
      have hz0 : zBit (f_shut c_.toNatClampNeg) kk_7 = 0 := zBit_n (by first | with_reducible assumption | assumption)
      have hz : zTurn f_posts f_shut (zRo f_all i_z0) c_ = kk_7 := by rw [hq, show n0 + 1 - i = (n0 - i) + 1 by omega, zTurnR, hnx, if_pos hz0]
      have hz1 : ¬ zTurn f_posts f_shut (zRo f_all i_z0) c_ = -1 := by rw [hz]; exact fun q8 => absurd (show kk_7.toInt = -1 from by rw [q8]; rfl) (by omega)
      refine lv_aload_n hx hb dX12_turns_43 rfl (lv_at hl 3 rfl) ?_
      refine z_get C G clX12 2 rfl 14 (by decide) m_fl_RX12_20 rfl dX12_turns_44 ?_
      refine lv_iload_n hx hb dX12_turns_47 rfl (lv_at hl 4 rfl) ?_
      refine lv_iload hx hb dX12_turns_48 (lv_at hl 0 rfl) ?_
      refine z_ist C G 0 rfl (vp_in_iff.mpr ⟨by omega, by omega⟩) dX12_turns_50 (fun H locs G => ?_)
      have G : zS T A s.heap s [[zAr T 0 m_posts 7 (upd f_posts c_.toNatClampNeg kk_7)], [zAr T 0 m_shut 7 f_shut], [zO11 mo m_all m_has i_size i_next i_where i_token i_number i_word i_wrong i_farCrossing m_read i_z0 i_crossings i_inns m_posts m_shut m_here i_steps i_done i_at i_gone m_was m_came m_seenAt m_rowWorth m_farBy m_used i_everywhere i_again0 i_d0 i_never i_firstCame i_longRun i_moved i_crowd i_l0 i_fitMany i_fitLeast i_fitMost m_fitPost m_fitEnd m_keptPosts i_x0], [zAr T 0 m_all 3952 f_all]] _ _ := G
      refine lv_iconst (v := 1) hx hb dX12_turns_51 (by decide) ?_
      have G := G.sub (bs' := [[zO11 mo m_all m_has i_size i_next i_where i_token i_number i_word i_wrong i_farCrossing m_read i_z0 i_crossings i_inns m_posts m_shut m_here i_steps i_done i_at i_gone m_was m_came m_seenAt m_rowWorth m_farBy m_used i_everywhere i_again0 i_d0 i_never i_firstCame i_longRun i_moved i_crowd i_l0 i_fitMany i_fitLeast i_fitMost m_fitPost m_fitEnd m_keptPosts i_x0], [zAr T 0 m_all 3952 f_all], [zAr T 0 m_posts 7 (upd f_posts c_.toNatClampNeg kk_7)], [zAr T 0 m_shut 7 f_shut]]) [2, 3, 0, 1] rfl
      exact z_back hQz_ (z_zret C hr hlocks G (Nat.le_of_ble_eq_true rfl) (Nat.le_of_ble_eq_true rfl) dX12_turns_52 rfl ⟨(upd f_posts c_.toNatClampNeg kk_7), rfl, (zMP_upd hP (by omega)), (zMV_upd hV (show kk_7.toInt < (zRd f_all i_z0 c_).toInt by omega)), (by unfold zPost; rw [if_neg hz1, hz]), (Or.inl (⟨rfl, hz1, (by omega)⟩))⟩)
    · have c_10n : (((f_shut c_.toNatClampNeg) >>> (kk_7 &&& 31)) &&& 1).toInt = (1 : Int) := (fa_eq _ _).mp c_10
      have hz0 : ¬ zBit (f_shut c_.toNatClampNeg) kk_7 = 0 := zBit_o (by first | with_reducible assumption | assumption)
      have hz : zTurn f_posts f_shut (zRo f_all i_z0) c_ = zTurnR (zRd f_all i_z0 c_) (f_shut c_.toNatClampNeg) (n0 + 1 - (i + 1)) kk_7 := by rw [hq, show n0 + 1 - i = (n0 + 1 - (i + 1)) + 1 by omega, zTurnR, hnx, if_neg hz0]
      refine lv_goto (tgt := 53) hx hb dX12_turns_40 (by decide) ?_
      refine lv_iinc (v := nI (i + 1)) (lv' := [(3, .int (nI (i + 1))), (4, .int kk_7), (2, .int (zRd f_all i_z0 c_)), (0, .ref mo), (1, .int c_)]) hx hb dX12_turns_53 hl (k := 1) rfl (z_inc i 1) (by decide) (zLvf_h rfl) (fun ls hl => ?_)
      refine lv_goto (tgt := 8) hx hb dX12_turns_56 (by decide) ?_
      exact ih_8 (i + 1) kk_7 (show 1 ≤ (i + 1) ∧ ((i + 1) : Int) ≤ (zRd f_all i_z0 c_).toInt + 1 ∧ zTurn f_posts f_shut (zRo f_all i_z0) c_ = zTurnR (zRd f_all i_z0 c_) (f_shut c_.toNatClampNeg) (n0 + 1 - (i + 1)) kk_7 ∧ ((zRd f_all i_z0 c_).toInt ≤ 0 ∨ kk_7.toInt = (f_posts c_.toNatClampNeg).toInt + ((i + 1) : Int) - 1 ∧ kk_7.toInt < (zRd f_all i_z0 c_).toInt ∨ kk_7.toInt = (f_posts c_.toNatClampNeg).toInt + ((i + 1) : Int) - 1 - (zRd f_all i_z0 c_).toInt ∧ 0 ≤ kk_7.toInt) from ⟨by omega, by omega, hz, by omega⟩) (show 6 - (i + 1) < 6 - i from by omega) _ _ ls G (lv_sub hl [0, 2, 3, 4] rfl)
set_option maxHeartbeats 4000000 in
set_option maxRecDepth 100000 in
/-- c_fm_stepsOn -/
theorem c_fm_stepsOn (l : Launch) (T : zTy) (mo : Nat) (m_all : Nat) (m_has : Nat) (i_size : Int32) (i_next : Int32) (i_where : Int32) (i_token : Int32) (i_number : Int32) (i_word : Int32) (i_wrong : Int32) (i_farCrossing : Int32) (m_read : Nat) (i_z0 : Int32) (i_crossings : Int32) (i_inns : Int32) (m_posts : Nat) (m_shut : Nat) (m_here : Nat) (i_steps : Int32) (i_done : Int32) (i_at : Int32) (i_gone : Int32) (m_was : Nat) (m_came : Nat) (m_seenAt : Nat) (m_rowWorth : Nat) (m_farBy : Nat) (m_used : Nat) (i_everywhere : Int32) (i_again0 : Int32) (i_d0 : Int32) (i_never : Int32) (i_firstCame : Int32) (i_longRun : Int32) (i_moved : Int32) (i_crowd : Int32) (i_l0 : Int32) (i_fitMany : Int32) (i_fitLeast : Int32) (i_fitMost : Int32) (m_fitPost : Nat) (m_fitEnd : Nat) (m_keptPosts : Nat) (i_x0 : Int32) (f_all : Nat → Int32) (f_posts : Nat → Int32) (f_shut : Nat → Int32) (f_was : Nat → Int32) (hL : zML f_all i_z0 i_crossings) (ha0 : 0 ≤ i_at.toInt) (ha6 : i_at.toInt ≤ 6) (hg0 : 0 ≤ i_gone.toInt) (hg9 : i_gone.toInt ≤ 100000) (hV : zMV (zRo f_all i_z0) f_posts) (hP : zMP f_posts) : zMi l T yX12_stepsOn cX12_stepsOn 1 (some .boolean) 3 0 0 [.ref mo] [[zO11 mo m_all m_has i_size i_next i_where i_token i_number i_word i_wrong i_farCrossing m_read i_z0 i_crossings i_inns m_posts m_shut m_here i_steps i_done i_at i_gone m_was m_came m_seenAt m_rowWorth m_farBy m_used i_everywhere i_again0 i_d0 i_never i_firstCame i_longRun i_moved i_crowd i_l0 i_fitMany i_fitLeast i_fitMost m_fitPost m_fitEnd m_keptPosts i_x0], [zAr T 0 m_all 3952 f_all], [zAr T 0 m_posts 7 f_posts], [zAr T 0 m_shut 7 f_shut], [zAr T 0 m_was 7 f_was]] (fun (r : Int32) bs => ∃ (j_at : Int32) (j_gone : Int32) (g_posts : Nat → Int32) (g_was : Nat → Int32), bs = [[zO11 mo m_all m_has i_size i_next i_where i_token i_number i_word i_wrong i_farCrossing m_read i_z0 i_crossings i_inns m_posts m_shut m_here i_steps i_done j_at j_gone m_was m_came m_seenAt m_rowWorth m_farBy m_used i_everywhere i_again0 i_d0 i_never i_firstCame i_longRun i_moved i_crowd i_l0 i_fitMany i_fitLeast i_fitMost m_fitPost m_fitEnd m_keptPosts i_x0], [zAr T 0 m_all 3952 f_all], [zAr T 0 m_posts 7 g_posts], [zAr T 0 m_shut 7 f_shut], [zAr T 0 m_was 7 g_was]] ∧ zMP g_posts ∧ 0 ≤ j_at.toInt ∧ j_at.toInt ≤ 6 ∧ zMV (zRo f_all i_z0) g_posts ∧ g_posts = zPost f_posts f_shut (zWo f_all i_z0 i_inns) i_at ∧ ((r = 1 ∧ ¬ zStep f_posts f_shut (zWo f_all i_z0 i_inns) (zLo f_all i_z0) i_at = -1 ∧ j_at = zStep f_posts f_shut (zWo f_all i_z0 i_inns) (zLo f_all i_z0) i_at ∧ j_gone.toInt = i_gone.toInt + 1 ∧ g_was = upd f_was j_at.toNatClampNeg (f_was j_at.toNatClampNeg + 1)) ∨ (r = 0 ∧ zStep f_posts f_shut (zWo f_all i_z0 i_inns) (zLo f_all i_z0) i_at = -1 ∧ j_at = i_at ∧ j_gone = i_gone ∧ g_was = f_was))) := by
  refine zMi_of (own := RX12) (by decide) rfl (Nat.le_of_ble_eq_true rfl) ?_
  intro p e s m args below meth c A ls C hr hlocks hnm hAe G hl
  refine zHide (fun Qz_ hQz_ => ?_)
  have hx := C.1
  have hb := C.2.1
  have hl : lv_has ls 1 [(0, .ref mo)] := hl
  have hz := hL.1
  have hcr := hL.cr
  refine lv_aload_n hx hb dX12_stepsOn_0 rfl (lv_at hl 0 rfl) ?_
  refine lv_aload_n hx hb dX12_stepsOn_1 rfl (lv_at hl 0 rfl) ?_
  refine z_get C G clX12 0 rfl 19 (by decide) m_fl_RX12_202 rfl dX12_stepsOn_2 ?_
  refine z_Vi (bc := [[zO11 mo m_all m_has i_size i_next i_where i_token i_number i_word i_wrong i_farCrossing m_read i_z0 i_crossings i_inns m_posts m_shut m_here i_steps i_done i_at i_gone m_was m_came m_seenAt m_rowWorth m_farBy m_used i_everywhere i_again0 i_d0 i_never i_firstCame i_longRun i_moved i_crowd i_l0 i_fitMany i_fitLeast i_fitMost m_fitPost m_fitEnd m_keptPosts i_x0]]) (br := [[zAr T 0 m_all 3952 f_all], [zAr T 0 m_posts 7 f_posts], [zAr T 0 m_shut 7 f_shut], [zAr T 0 m_was 7 f_was]]) (As := [.int i_at]) (rest := []) C G (c_m_isInn l T mo m_all m_has i_size i_next i_where i_token i_number i_word i_wrong i_farCrossing m_read i_z0 i_crossings i_inns m_posts m_shut m_here i_steps i_done i_at i_gone m_was m_came m_seenAt m_rowWorth m_farBy m_used i_everywhere i_again0 i_d0 i_never i_firstCame i_longRun i_moved i_crowd i_l0 i_fitMany i_fitLeast i_fitMost m_fitPost m_fitEnd m_keptPosts i_x0 i_at) (kV_RX12_178 C.2.2.2.2 (Nat.le_of_ble_eq_true rfl) (Nat.le_of_ble_eq_true rfl)) [0] [0] rfl rfl (ci := 11) (qc := (RX12, TX12, 43)) rfl rfl (List.mem_flatten.mpr ⟨_, List.mem_of_getElem? (i := 0) rfl, List.mem_cons_self⟩) rfl rfl hl.1 dX12_stepsOn_5 (Nat.le_of_ble_eq_true rfl) (Nat.le_of_ble_eq_true rfl) (fun r_2 b1 H locs hw G => ?_)
  refine zAn2 hw ?_
  intro hbs9 hc_1
  clear hw
  subst hbs9
  have G : zS T A s.heap s [[zAr T 0 m_all 3952 f_all], [zAr T 0 m_posts 7 f_posts], [zAr T 0 m_shut 7 f_shut], [zAr T 0 m_was 7 f_was], [zO11 mo m_all m_has i_size i_next i_where i_token i_number i_word i_wrong i_farCrossing m_read i_z0 i_crossings i_inns m_posts m_shut m_here i_steps i_done i_at i_gone m_was m_came m_seenAt m_rowWorth m_farBy m_used i_everywhere i_again0 i_d0 i_never i_firstCame i_longRun i_moved i_crowd i_l0 i_fitMany i_fitLeast i_fitMost m_fitPost m_fitEnd m_keptPosts i_x0]] _ _ := G
  rcases hc_1 with ⟨rfl, h_3⟩ | ⟨rfl, h_4⟩
  · have h_3 : zInn i_inns i_at := h_3
    refine lv_if_ne (tgt := 22) hx hb dX12_stepsOn_8 (by decide) (fun _ => ?_) (fun q => absurd q (by decide))
    have hT1 : zTurn f_posts f_shut (zWo f_all i_z0 i_inns) i_at = -1 := zTurn_inn (by first | with_reducible assumption | assumption) ha0 ha6
    have hp1 : f_posts = zPost f_posts f_shut (zWo f_all i_z0 i_inns) i_at := by unfold zPost; rw [if_pos hT1]
    have hS1 : zStep f_posts f_shut (zWo f_all i_z0 i_inns) (zLo f_all i_z0) i_at = -1 := by unfold zStep; rw [if_pos hT1]
    refine lv_iconst (v := 0) hx hb dX12_stepsOn_22 (by decide) ?_
    have G := G.sub (bs' := [[zO11 mo m_all m_has i_size i_next i_where i_token i_number i_word i_wrong i_farCrossing m_read i_z0 i_crossings i_inns m_posts m_shut m_here i_steps i_done i_at i_gone m_was m_came m_seenAt m_rowWorth m_farBy m_used i_everywhere i_again0 i_d0 i_never i_firstCame i_longRun i_moved i_crowd i_l0 i_fitMany i_fitLeast i_fitMost m_fitPost m_fitEnd m_keptPosts i_x0], [zAr T 0 m_all 3952 f_all], [zAr T 0 m_posts 7 f_posts], [zAr T 0 m_shut 7 f_shut], [zAr T 0 m_was 7 f_was]]) [4, 0, 1, 2, 3] rfl
    exact z_back hQz_ (z_zret C hr hlocks G (Nat.le_of_ble_eq_true rfl) (Nat.le_of_ble_eq_true rfl) dX12_stepsOn_23 rfl ⟨i_at, i_gone, f_posts, f_was, rfl, (by first | with_reducible assumption | omega | trivial | assumption), (by first | with_reducible assumption | omega | trivial | assumption), (by first | with_reducible assumption | omega | trivial | assumption), (by first | with_reducible assumption | omega | trivial | assumption), hp1, (Or.inr (⟨rfl, hS1, rfl, rfl, rfl⟩))⟩)
  · have h_4 : ¬ zInn i_inns i_at := h_4
    refine lv_if_ne (tgt := 22) hx hb dX12_stepsOn_8 (by decide) (fun q => absurd (by decide) q) (fun _ => ?_)
    refine lv_aload_n hx hb dX12_stepsOn_11 rfl (lv_at hl 0 rfl) ?_
    refine lv_aload_n hx hb dX12_stepsOn_12 rfl (lv_at hl 0 rfl) ?_
    refine z_get C G clX12 4 rfl 19 (by decide) m_fl_RX12_202 rfl dX12_stepsOn_13 ?_
    refine z_Vi (bc := [[zO11 mo m_all m_has i_size i_next i_where i_token i_number i_word i_wrong i_farCrossing m_read i_z0 i_crossings i_inns m_posts m_shut m_here i_steps i_done i_at i_gone m_was m_came m_seenAt m_rowWorth m_farBy m_used i_everywhere i_again0 i_d0 i_never i_firstCame i_longRun i_moved i_crowd i_l0 i_fitMany i_fitLeast i_fitMost m_fitPost m_fitEnd m_keptPosts i_x0], [zAr T 0 m_all 3952 f_all], [zAr T 0 m_posts 7 f_posts], [zAr T 0 m_shut 7 f_shut]]) (br := [[zAr T 0 m_was 7 f_was]]) (As := [.int i_at]) (rest := []) C G (c_fm_turns l T mo m_all m_has i_size i_next i_where i_token i_number i_word i_wrong i_farCrossing m_read i_z0 i_crossings i_inns m_posts m_shut m_here i_steps i_done i_at i_gone m_was m_came m_seenAt m_rowWorth m_farBy m_used i_everywhere i_again0 i_d0 i_never i_firstCame i_longRun i_moved i_crowd i_l0 i_fitMany i_fitLeast i_fitMost m_fitPost m_fitEnd m_keptPosts i_x0 f_all f_posts f_shut i_at (by first | with_reducible assumption | with_reducible rfl | omega | assumption | rfl) (by first | with_reducible assumption | with_reducible rfl | omega | assumption | rfl) (by first | with_reducible assumption | with_reducible rfl | omega | assumption | rfl) (by first | with_reducible assumption | with_reducible rfl | omega | assumption | rfl) (by first | with_reducible assumption | with_reducible rfl | omega | assumption | rfl)) (kV_RX12_205 C.2.2.2.2 (Nat.le_of_ble_eq_true rfl) (Nat.le_of_ble_eq_true rfl)) [4, 0, 1, 2] [0, 0, 0, 1] rfl rfl (ci := 11) (qc := (RX12, TX12, 43)) rfl rfl (List.mem_flatten.mpr ⟨_, List.mem_of_getElem? (i := 0) rfl, List.mem_cons_self⟩) rfl rfl hl.1 dX12_stepsOn_16 (Nat.le_of_ble_eq_true rfl) (Nat.le_of_ble_eq_true rfl) (fun r_10 b1 H locs hw G => ?_)
    refine zEx1 hw ?_
    intro g_posts_5
    refine zCu5 ?_
    intro hbs9 h_6 h_7 h_8 hc_9
    clear hw
    subst hbs9
    have G : zS T A s.heap s [[zAr T 0 m_was 7 f_was], [zO11 mo m_all m_has i_size i_next i_where i_token i_number i_word i_wrong i_farCrossing m_read i_z0 i_crossings i_inns m_posts m_shut m_here i_steps i_done i_at i_gone m_was m_came m_seenAt m_rowWorth m_farBy m_used i_everywhere i_again0 i_d0 i_never i_firstCame i_longRun i_moved i_crowd i_l0 i_fitMany i_fitLeast i_fitMost m_fitPost m_fitEnd m_keptPosts i_x0], [zAr T 0 m_all 3952 f_all], [zAr T 0 m_posts 7 g_posts_5], [zAr T 0 m_shut 7 f_shut]] _ _ := G
    rcases hc_9 with ⟨rfl, h_11, h_12⟩ | ⟨rfl, h_13⟩
    · have h_11 : ¬ zTurn f_posts f_shut (zRo f_all i_z0) i_at = -1 := h_11
      have h_12 : 0 < (zRd f_all i_z0 i_at).toInt := h_12
      refine lv_if_ne (tgt := 24) hx hb dX12_stepsOn_19 (by decide) (fun _ => ?_) (fun q => absurd q (by decide))
      have hcl := z_clI (x := i_at) (by omega)
      have hpa : 0 ≤ (g_posts_5 i_at.toNatClampNeg).toInt ∧ (g_posts_5 i_at.toNatClampNeg).toInt ≤ 3 := (show zMP g_posts_5 by first | with_reducible assumption | assumption) i_at.toNatClampNeg (by omega)
      have hb1 : ¬ zBit i_inns i_at = 1 := by first | with_reducible assumption | assumption
      have hne : ¬ zTurn f_posts f_shut (zRo f_all i_z0) i_at = -1 := h_11
      have hgp : g_posts_5 i_at.toNatClampNeg = zTurn f_posts f_shut (zRo f_all i_z0) i_at := by rw [h_8]; unfold zPost; rw [if_neg hne]; exact z_eq rfl
      have hST : zStep f_posts f_shut (zWo f_all i_z0 i_inns) (zLo f_all i_z0) i_at = zLe f_all i_z0 i_at (g_posts_5 i_at.toNatClampNeg) := by unfold zStep; rw [zTurn_wo hb1 ha0 ha6, if_neg hne, hgp]; rfl
      refine lv_aload_n hx hb dX12_stepsOn_24 rfl (lv_at hl 0 rfl) ?_
      refine lv_aload_n hx hb dX12_stepsOn_25 rfl (lv_at hl 0 rfl) ?_
      refine lv_aload_n hx hb dX12_stepsOn_26 rfl (lv_at hl 0 rfl) ?_
      refine z_get C G clX12 1 rfl 19 (by decide) m_fl_RX12_202 rfl dX12_stepsOn_27 ?_
      refine lv_aload_n hx hb dX12_stepsOn_30 rfl (lv_at hl 0 rfl) ?_
      refine z_get C G clX12 1 rfl 14 (by decide) m_fl_RX12_20 rfl dX12_stepsOn_31 ?_
      refine lv_aload_n hx hb dX12_stepsOn_34 rfl (lv_at hl 0 rfl) ?_
      refine z_get C G clX12 1 rfl 19 (by decide) m_fl_RX12_202 rfl dX12_stepsOn_35 ?_
      refine z_ild C G 3 rfl (vp_in_iff.mpr ⟨by omega, by omega⟩) dX12_stepsOn_38 ?_
      refine lv_topi (fun v_14 ev_14 => ?_)
      subst ev_14
      refine z_Vi (bc := [[zO11 mo m_all m_has i_size i_next i_where i_token i_number i_word i_wrong i_farCrossing m_read i_z0 i_crossings i_inns m_posts m_shut m_here i_steps i_done i_at i_gone m_was m_came m_seenAt m_rowWorth m_farBy m_used i_everywhere i_again0 i_d0 i_never i_firstCame i_longRun i_moved i_crowd i_l0 i_fitMany i_fitLeast i_fitMost m_fitPost m_fitEnd m_keptPosts i_x0], [zAr T 0 m_all 3952 f_all]]) (br := [[zAr T 0 m_was 7 f_was], [zAr T 0 m_posts 7 g_posts_5], [zAr T 0 m_shut 7 f_shut]]) (As := [.int i_at, .int (g_posts_5 i_at.toNatClampNeg)]) (rest := [.ref mo]) C G (c_m_leadsTo l T mo m_all m_has i_size i_next i_where i_token i_number i_word i_wrong i_farCrossing m_read i_z0 i_crossings i_inns m_posts m_shut m_here i_steps i_done i_at i_gone m_was m_came m_seenAt m_rowWorth m_farBy m_used i_everywhere i_again0 i_d0 i_never i_firstCame i_longRun i_moved i_crowd i_l0 i_fitMany i_fitLeast i_fitMost m_fitPost m_fitEnd m_keptPosts i_x0 f_all i_at (g_posts_5 i_at.toNatClampNeg) (by first | with_reducible assumption | with_reducible rfl | omega | assumption | rfl) (by first | with_reducible assumption | with_reducible rfl | omega | assumption | rfl) (by first | with_reducible assumption | with_reducible rfl | omega | assumption | rfl) (by first | with_reducible assumption | with_reducible rfl | omega | assumption | rfl) (by first | with_reducible assumption | with_reducible rfl | omega | assumption | rfl)) (kV_RX12_190 C.2.2.2.2 (Nat.le_of_ble_eq_true rfl) (Nat.le_of_ble_eq_true rfl)) [1, 2] [1, 0] rfl rfl (ci := 11) (qc := (RX12, TX12, 43)) rfl rfl (List.mem_flatten.mpr ⟨_, List.mem_of_getElem? (i := 0) rfl, List.mem_cons_self⟩) rfl rfl hl.1 dX12_stepsOn_39 (Nat.le_of_ble_eq_true rfl) (Nat.le_of_ble_eq_true rfl) (fun r_18 b1 H locs hw G => ?_)
      refine zAn4 hw ?_
      intro hbs9 h_15 h_16 h_17
      clear hw
      subst hbs9
      have G : zS T A s.heap s [[zAr T 0 m_was 7 f_was], [zAr T 0 m_posts 7 g_posts_5], [zAr T 0 m_shut 7 f_shut], [zO11 mo m_all m_has i_size i_next i_where i_token i_number i_word i_wrong i_farCrossing m_read i_z0 i_crossings i_inns m_posts m_shut m_here i_steps i_done i_at i_gone m_was m_came m_seenAt m_rowWorth m_farBy m_used i_everywhere i_again0 i_d0 i_never i_firstCame i_longRun i_moved i_crowd i_l0 i_fitMany i_fitLeast i_fitMost m_fitPost m_fitEnd m_keptPosts i_x0], [zAr T 0 m_all 3952 f_all]] _ _ := G
      subst h_15
      refine z_put C G clX12 3 rfl 19 (by decide) m_fl_RX12_202 rfl rfl rfl (Nat.le_of_ble_eq_true rfl) dX12_stepsOn_42 (fun H locs G => ?_)
      have G : zS T A s.heap s [[zAr T 0 m_was 7 f_was], [zAr T 0 m_posts 7 g_posts_5], [zAr T 0 m_shut 7 f_shut], [zO11 mo m_all m_has i_size i_next i_where i_token i_number i_word i_wrong i_farCrossing m_read i_z0 i_crossings i_inns m_posts m_shut m_here i_steps i_done (zLe f_all i_z0 i_at (g_posts_5 i_at.toNatClampNeg)) i_gone m_was m_came m_seenAt m_rowWorth m_farBy m_used i_everywhere i_again0 i_d0 i_never i_firstCame i_longRun i_moved i_crowd i_l0 i_fitMany i_fitLeast i_fitMost m_fitPost m_fitEnd m_keptPosts i_x0], [zAr T 0 m_all 3952 f_all]] _ _ := G
      refine lv_aload_n hx hb dX12_stepsOn_45 rfl (lv_at hl 0 rfl) ?_
      refine lv_dup hx hb dX12_stepsOn_46 rfl ?_
      refine z_get C G clX12 3 rfl 20 (by decide) m_fl_RX12_208 rfl dX12_stepsOn_47 ?_
      refine lv_iconst (v := 1) hx hb dX12_stepsOn_50 (by decide) ?_
      refine lv_iadd hx hb dX12_stepsOn_51 ?_
      refine lv_topi (fun y_19 ey_19 => ?_)
      have ey_19i : y_19.toInt = i_gone.toInt + (1 : Int) := by rw [ey_19]; exact z_iaddI (x := i_gone) (y := (1 : Int32)) (by show -2147483648 ≤ i_gone.toInt + (1 : Int); omega) (by show i_gone.toInt + (1 : Int) < 2147483648; omega)
      refine z_put C G clX12 3 rfl 20 (by decide) m_fl_RX12_208 rfl rfl rfl (Nat.le_of_ble_eq_true rfl) dX12_stepsOn_52 (fun H locs G => ?_)
      have G : zS T A s.heap s [[zAr T 0 m_was 7 f_was], [zAr T 0 m_posts 7 g_posts_5], [zAr T 0 m_shut 7 f_shut], [zO11 mo m_all m_has i_size i_next i_where i_token i_number i_word i_wrong i_farCrossing m_read i_z0 i_crossings i_inns m_posts m_shut m_here i_steps i_done (zLe f_all i_z0 i_at (g_posts_5 i_at.toNatClampNeg)) y_19 m_was m_came m_seenAt m_rowWorth m_farBy m_used i_everywhere i_again0 i_d0 i_never i_firstCame i_longRun i_moved i_crowd i_l0 i_fitMany i_fitLeast i_fitMost m_fitPost m_fitEnd m_keptPosts i_x0], [zAr T 0 m_all 3952 f_all]] _ _ := G
      refine lv_aload_n hx hb dX12_stepsOn_55 rfl (lv_at hl 0 rfl) ?_
      refine z_get C G clX12 3 rfl 21 (by decide) m_fl_RX12_29 rfl dX12_stepsOn_56 ?_
      refine lv_aload_n hx hb dX12_stepsOn_59 rfl (lv_at hl 0 rfl) ?_
      refine z_get C G clX12 3 rfl 19 (by decide) m_fl_RX12_202 rfl dX12_stepsOn_60 ?_
      refine lv_dup2_11 hx hb dX12_stepsOn_63 rfl rfl ?_
      refine z_ild C G 0 rfl (vp_in_iff.mpr ⟨by omega, by omega⟩) dX12_stepsOn_64 ?_
      refine lv_topi (fun v_20 ev_20 => ?_)
      subst ev_20
      refine lv_iconst (v := 1) hx hb dX12_stepsOn_65 (by decide) ?_
      refine lv_iadd hx hb dX12_stepsOn_66 ?_
      refine z_ist C G 0 rfl (vp_in_iff.mpr ⟨by omega, by omega⟩) dX12_stepsOn_67 (fun H locs G => ?_)
      have G : zS T A s.heap s [[zAr T 0 m_was 7 (upd f_was (zLe f_all i_z0 i_at (g_posts_5 i_at.toNatClampNeg)).toNatClampNeg ((f_was (zLe f_all i_z0 i_at (g_posts_5 i_at.toNatClampNeg)).toNatClampNeg) + 1))], [zAr T 0 m_posts 7 g_posts_5], [zAr T 0 m_shut 7 f_shut], [zO11 mo m_all m_has i_size i_next i_where i_token i_number i_word i_wrong i_farCrossing m_read i_z0 i_crossings i_inns m_posts m_shut m_here i_steps i_done (zLe f_all i_z0 i_at (g_posts_5 i_at.toNatClampNeg)) y_19 m_was m_came m_seenAt m_rowWorth m_farBy m_used i_everywhere i_again0 i_d0 i_never i_firstCame i_longRun i_moved i_crowd i_l0 i_fitMany i_fitLeast i_fitMost m_fitPost m_fitEnd m_keptPosts i_x0], [zAr T 0 m_all 3952 f_all]] _ _ := G
      refine lv_iconst (v := 1) hx hb dX12_stepsOn_68 (by decide) ?_
      have G := G.sub (bs' := [[zO11 mo m_all m_has i_size i_next i_where i_token i_number i_word i_wrong i_farCrossing m_read i_z0 i_crossings i_inns m_posts m_shut m_here i_steps i_done (zLe f_all i_z0 i_at (g_posts_5 i_at.toNatClampNeg)) y_19 m_was m_came m_seenAt m_rowWorth m_farBy m_used i_everywhere i_again0 i_d0 i_never i_firstCame i_longRun i_moved i_crowd i_l0 i_fitMany i_fitLeast i_fitMost m_fitPost m_fitEnd m_keptPosts i_x0], [zAr T 0 m_all 3952 f_all], [zAr T 0 m_posts 7 g_posts_5], [zAr T 0 m_shut 7 f_shut], [zAr T 0 m_was 7 (upd f_was (zLe f_all i_z0 i_at (g_posts_5 i_at.toNatClampNeg)).toNatClampNeg ((f_was (zLe f_all i_z0 i_at (g_posts_5 i_at.toNatClampNeg)).toNatClampNeg) + 1))]]) [3, 4, 1, 2, 0] rfl
      exact z_back hQz_ (z_zret C hr hlocks G (Nat.le_of_ble_eq_true rfl) (Nat.le_of_ble_eq_true rfl) dX12_stepsOn_69 rfl ⟨(zLe f_all i_z0 i_at (g_posts_5 i_at.toNatClampNeg)), y_19, g_posts_5, (upd f_was (zLe f_all i_z0 i_at (g_posts_5 i_at.toNatClampNeg)).toNatClampNeg ((f_was (zLe f_all i_z0 i_at (g_posts_5 i_at.toNatClampNeg)).toNatClampNeg) + 1)), rfl, (by first | with_reducible assumption | omega | trivial | assumption), (by first | with_reducible assumption | omega | trivial | assumption), (by first | with_reducible assumption | omega | trivial | assumption), (by first | with_reducible assumption | omega | trivial | assumption), (h_8.trans (zPost_wo hb1 ha0 ha6).symm), (Or.inl (⟨rfl, (fun q8 => absurd (show (zLe f_all i_z0 i_at (g_posts_5 i_at.toNatClampNeg)).toInt = -1 from by rw [← hST, q8]; rfl) (by omega)), hST.symm, (by omega), rfl⟩))⟩)
    · have h_13 : zTurn f_posts f_shut (zRo f_all i_z0) i_at = -1 := h_13
      refine lv_if_ne (tgt := 24) hx hb dX12_stepsOn_19 (by decide) (fun q => absurd (by decide) q) (fun _ => ?_)
      have hb1 : ¬ zBit i_inns i_at = 1 := by first | with_reducible assumption | assumption
      have hT1 : zTurn f_posts f_shut (zWo f_all i_z0 i_inns) i_at = -1 := (zTurn_wo hb1 ha0 ha6).trans h_13
      have hp1 : g_posts_5 = zPost f_posts f_shut (zWo f_all i_z0 i_inns) i_at := h_8.trans (zPost_wo hb1 ha0 ha6).symm
      have hS1 : zStep f_posts f_shut (zWo f_all i_z0 i_inns) (zLo f_all i_z0) i_at = -1 := by unfold zStep; rw [if_pos hT1]
      refine lv_iconst (v := 0) hx hb dX12_stepsOn_22 (by decide) ?_
      have G := G.sub (bs' := [[zO11 mo m_all m_has i_size i_next i_where i_token i_number i_word i_wrong i_farCrossing m_read i_z0 i_crossings i_inns m_posts m_shut m_here i_steps i_done i_at i_gone m_was m_came m_seenAt m_rowWorth m_farBy m_used i_everywhere i_again0 i_d0 i_never i_firstCame i_longRun i_moved i_crowd i_l0 i_fitMany i_fitLeast i_fitMost m_fitPost m_fitEnd m_keptPosts i_x0], [zAr T 0 m_all 3952 f_all], [zAr T 0 m_posts 7 g_posts_5], [zAr T 0 m_shut 7 f_shut], [zAr T 0 m_was 7 f_was]]) [1, 2, 3, 4, 0] rfl
      exact z_back hQz_ (z_zret C hr hlocks G (Nat.le_of_ble_eq_true rfl) (Nat.le_of_ble_eq_true rfl) dX12_stepsOn_23 rfl ⟨i_at, i_gone, g_posts_5, f_was, rfl, (by first | with_reducible assumption | omega | trivial | assumption), (by first | with_reducible assumption | omega | trivial | assumption), (by first | with_reducible assumption | omega | trivial | assumption), (by first | with_reducible assumption | omega | trivial | assumption), hp1, (Or.inr (⟨rfl, hS1, rfl, rfl, rfl⟩))⟩)
def zOne (c : Int32) (j : Nat) : Int32 := if (j : Int) = c.toInt then 1 else 0
set_option maxHeartbeats 4000000 in
set_option maxRecDepth 100000 in
/-- puts -/
theorem c_fm_puts (l : Launch) (T : zTy) (mo : Nat) (m_all : Nat) (m_has : Nat) (i_size : Int32) (i_next : Int32) (i_where : Int32) (i_token : Int32) (i_number : Int32) (i_word : Int32) (i_wrong : Int32) (i_farCrossing : Int32) (m_read : Nat) (i_z0 : Int32) (i_crossings : Int32) (i_inns : Int32) (m_posts : Nat) (m_shut : Nat) (m_here : Nat) (i_steps : Int32) (i_done : Int32) (i_at : Int32) (i_gone : Int32) (m_was : Nat) (m_came : Nat) (m_seenAt : Nat) (m_rowWorth : Nat) (m_farBy : Nat) (m_used : Nat) (i_everywhere : Int32) (i_again0 : Int32) (i_d0 : Int32) (i_never : Int32) (i_firstCame : Int32) (i_longRun : Int32) (i_moved : Int32) (i_crowd : Int32) (i_l0 : Int32) (i_fitMany : Int32) (i_fitLeast : Int32) (i_fitMost : Int32) (m_fitPost : Nat) (m_fitEnd : Nat) (m_keptPosts : Nat) (i_x0 : Int32) (f_was : Nat → Int32) (c_ : Int32) : zMv l T yX12_puts cX12_puts 3 1 0 0 [.ref mo, .int c_] [[zO11 mo m_all m_has i_size i_next i_where i_token i_number i_word i_wrong i_farCrossing m_read i_z0 i_crossings i_inns m_posts m_shut m_here i_steps i_done i_at i_gone m_was m_came m_seenAt m_rowWorth m_farBy m_used i_everywhere i_again0 i_d0 i_never i_firstCame i_longRun i_moved i_crowd i_l0 i_fitMany i_fitLeast i_fitMost m_fitPost m_fitEnd m_keptPosts i_x0], [zAr T 0 m_was 7 f_was]] (fun bs => ∃ (g_was : Nat → Int32), bs = [[zO11 mo m_all m_has i_size i_next i_where i_token i_number i_word i_wrong i_farCrossing m_read i_z0 i_crossings i_inns m_posts m_shut m_here i_steps i_done c_ 0 m_was m_came m_seenAt m_rowWorth m_farBy m_used i_everywhere i_again0 i_d0 i_never i_firstCame i_longRun i_moved i_crowd i_l0 i_fitMany i_fitLeast i_fitMost m_fitPost m_fitEnd m_keptPosts i_x0], [zAr T 0 m_was 7 g_was]] ∧ (∀ j, j < 7 → g_was j = zOne c_ j)) := by
  refine zMv_of (own := RX12) (by decide) rfl (Nat.le_of_ble_eq_true rfl) ?_
  intro p e s m args below meth c A ls C hr hlocks hnm hAe G hl
  refine zHide (fun Qz_ hQz_ => ?_)
  have hx := C.1
  have hb := C.2.1
  have hl : lv_has ls 3 [(0, .ref mo), (1, .int c_)] := hl
  refine lv_aload_n hx hb dX12_puts_0 rfl (lv_at hl 0 rfl) ?_
  refine lv_iload_n hx hb dX12_puts_1 rfl (lv_at hl 1 rfl) ?_
  refine z_put C G clX12 0 rfl 19 (by decide) m_fl_RX12_202 rfl rfl rfl (Nat.le_of_ble_eq_true rfl) dX12_puts_2 (fun H locs G => ?_)
  have G : zS T A s.heap s [[zO11 mo m_all m_has i_size i_next i_where i_token i_number i_word i_wrong i_farCrossing m_read i_z0 i_crossings i_inns m_posts m_shut m_here i_steps i_done c_ i_gone m_was m_came m_seenAt m_rowWorth m_farBy m_used i_everywhere i_again0 i_d0 i_never i_firstCame i_longRun i_moved i_crowd i_l0 i_fitMany i_fitLeast i_fitMost m_fitPost m_fitEnd m_keptPosts i_x0], [zAr T 0 m_was 7 f_was]] _ _ := G
  refine lv_aload_n hx hb dX12_puts_5 rfl (lv_at hl 0 rfl) ?_
  refine lv_iconst (v := 0) hx hb dX12_puts_6 (by decide) ?_
  refine z_put C G clX12 0 rfl 20 (by decide) m_fl_RX12_208 rfl rfl rfl (Nat.le_of_ble_eq_true rfl) dX12_puts_7 (fun H locs G => ?_)
  have G : zS T A s.heap s [[zO11 mo m_all m_has i_size i_next i_where i_token i_number i_word i_wrong i_farCrossing m_read i_z0 i_crossings i_inns m_posts m_shut m_here i_steps i_done c_ 0 m_was m_came m_seenAt m_rowWorth m_farBy m_used i_everywhere i_again0 i_d0 i_never i_firstCame i_longRun i_moved i_crowd i_l0 i_fitMany i_fitLeast i_fitMost m_fitPost m_fitEnd m_keptPosts i_x0], [zAr T 0 m_was 7 f_was]] _ _ := G
  refine lv_iconst (v := 0) hx hb dX12_puts_10 (by decide) ?_
  refine lv_istore_n (lv' := [(2, .int 0), (0, .ref mo), (1, .int c_)]) hx hb dX12_puts_11 rfl hl (by decide) (zLvf_h rfl) (fun ls hl => ?_)
  refine z_lp2 (T := T) 12 (fun (i : Nat) (x : Nat → Int32) => [[zO11 mo m_all m_has i_size i_next i_where i_token i_number i_word i_wrong i_farCrossing m_read i_z0 i_crossings i_inns m_posts m_shut m_here i_steps i_done c_ 0 m_was m_came m_seenAt m_rowWorth m_farBy m_used i_everywhere i_again0 i_d0 i_never i_firstCame i_longRun i_moved i_crowd i_l0 i_fitMany i_fitLeast i_fitMost m_fitPost m_fitEnd m_keptPosts i_x0], [zAr T 0 m_was 7 x]]) (fun (i : Nat) (x : Nat → Int32) => [(2, .int (nI i)), (0, .ref mo), (1, .int c_)]) (fun (i : Nat) (x : Nat → Int32) => i ≤ 7 ∧ (∀ j, j < i → x j = zOne c_ j)) (fun (i : Nat) (x : Nat → Int32) => 7 - i) ?_ 0 f_was (show 0 ≤ 7 ∧ (∀ j, j < 0 → f_was j = zOne c_ j) from ⟨by omega, fun j hj => absurd hj (by omega)⟩) G (lv_sub hl [0, 1, 2] rfl)
  intro i x hI9 ih_12 H locs ls G hl
  replace hI9 : i ≤ 7 ∧ (∀ j, j < i → x j = zOne c_ j) := hI9
  refine zAn2 hI9 ?_
  intro hi hW
  clear hI9
  replace G : zS T A s.heap s [[zO11 mo m_all m_has i_size i_next i_where i_token i_number i_word i_wrong i_farCrossing m_read i_z0 i_crossings i_inns m_posts m_shut m_here i_steps i_done c_ 0 m_was m_came m_seenAt m_rowWorth m_farBy m_used i_everywhere i_again0 i_d0 i_never i_firstCame i_longRun i_moved i_crowd i_l0 i_fitMany i_fitLeast i_fitMost m_fitPost m_fitEnd m_keptPosts i_x0], [zAr T 0 m_was 7 x]] _ _ := G
  replace hl : lv_has ls 3 [(2, .int (nI i)), (0, .ref mo), (1, .int c_)] := hl
  refine lv_iload_n hx hb dX12_puts_12 rfl (lv_at hl 0 rfl) ?_
  refine lv_bipush (v := 7) hx hb dX12_puts_13 (by decide) ?_
  refine lv_icmp_ge (tgt := 40) hx hb dX12_puts_15 (by decide) (fun c_1 => ?_) (fun c_1 => ?_)
  · have c_1n : 7 ≤ i := (nI_leI (a := 7) (b := i) (by omega) (by omega)).mp c_1
    exact z_back hQz_ (z_vret C hr hlocks G (Nat.le_of_ble_eq_true rfl) (Nat.le_of_ble_eq_true rfl) dX12_puts_40 ⟨x, rfl, (fun j hj => hW j (by omega))⟩)
  · have c_1n : ¬ 7 ≤ i := fun q => c_1 ((nI_leI (a := 7) (b := i) (by omega) (by omega)).mpr q)
    refine lv_aload_n hx hb dX12_puts_18 rfl (lv_at hl 1 rfl) ?_
    refine z_get C G clX12 0 rfl 21 (by decide) m_fl_RX12_29 rfl dX12_puts_19 ?_
    refine lv_iload_n hx hb dX12_puts_22 rfl (lv_at hl 0 rfl) ?_
    refine lv_iload_n hx hb dX12_puts_23 rfl (lv_at hl 0 rfl) ?_
    refine lv_iload_n hx hb dX12_puts_24 rfl (lv_at hl 2 rfl) ?_
    refine lv_icmp_ne (tgt := 32) hx hb dX12_puts_25 (by decide) (fun c_2 => ?_) (fun c_2 => ?_)
    · have c_2n : ¬ (i : Int) = c_.toInt := fun q => c_2 ((fa_eq _ _).mpr (by rw [nI_toInt (n := i) (by omega)]; exact q))
      refine lv_iconst (v := 0) hx hb dX12_puts_32 (by decide) ?_
      refine z_ist C G 1 rfl (vp_in_nI (by omega) (by decide)) dX12_puts_33 (fun H locs G => ?_)
      rw [nI_clamp (by omega)] at G
      have G : zS T A s.heap s [[zO11 mo m_all m_has i_size i_next i_where i_token i_number i_word i_wrong i_farCrossing m_read i_z0 i_crossings i_inns m_posts m_shut m_here i_steps i_done c_ 0 m_was m_came m_seenAt m_rowWorth m_farBy m_used i_everywhere i_again0 i_d0 i_never i_firstCame i_longRun i_moved i_crowd i_l0 i_fitMany i_fitLeast i_fitMost m_fitPost m_fitEnd m_keptPosts i_x0], [zAr T 0 m_was 7 (upd x i 0)]] _ _ := G
      refine lv_iinc (v := nI (i + 1)) (lv' := [(2, .int (nI (i + 1))), (0, .ref mo), (1, .int c_)]) hx hb dX12_puts_34 hl (k := 0) rfl (z_inc i 1) (by decide) (zLvf_h rfl) (fun ls hl => ?_)
      refine lv_goto (tgt := 12) hx hb dX12_puts_37 (by decide) ?_
      exact ih_12 (i + 1) (upd x i 0) (show (i + 1) ≤ 7 ∧ (∀ j, j < (i + 1) → (upd x i 0) j = zOne c_ j) from ⟨by omega, (z_upS0 (f := zOne c_) hW (show (0 : Int32) = zOne c_ i from (if_neg (by omega)).symm))⟩) (show 7 - (i + 1) < 7 - i from by omega) _ _ ls G (lv_sub hl [0, 1, 2] rfl)
    · have c_2n : (i : Int) = c_.toInt := by have q := (fa_eq _ _).mp c_2; rw [nI_toInt (n := i) (by omega)] at q; exact q
      refine lv_iconst (v := 1) hx hb dX12_puts_28 (by decide) ?_
      refine lv_goto (tgt := 33) hx hb dX12_puts_29 (by decide) ?_
      refine z_ist C G 1 rfl (vp_in_nI (by omega) (by decide)) dX12_puts_33 (fun H locs G => ?_)
      rw [nI_clamp (by omega)] at G
      have G : zS T A s.heap s [[zO11 mo m_all m_has i_size i_next i_where i_token i_number i_word i_wrong i_farCrossing m_read i_z0 i_crossings i_inns m_posts m_shut m_here i_steps i_done c_ 0 m_was m_came m_seenAt m_rowWorth m_farBy m_used i_everywhere i_again0 i_d0 i_never i_firstCame i_longRun i_moved i_crowd i_l0 i_fitMany i_fitLeast i_fitMost m_fitPost m_fitEnd m_keptPosts i_x0], [zAr T 0 m_was 7 (upd x i 1)]] _ _ := G
      refine lv_iinc (v := nI (i + 1)) (lv' := [(2, .int (nI (i + 1))), (0, .ref mo), (1, .int c_)]) hx hb dX12_puts_34 hl (k := 0) rfl (z_inc i 1) (by decide) (zLvf_h rfl) (fun ls hl => ?_)
      refine lv_goto (tgt := 12) hx hb dX12_puts_37 (by decide) ?_
      exact ih_12 (i + 1) (upd x i 1) (show (i + 1) ≤ 7 ∧ (∀ j, j < (i + 1) → (upd x i 1) j = zOne c_ j) from ⟨by omega, (z_upS0 (f := zOne c_) hW (show (1 : Int32) = zOne c_ i from (if_pos (by omega)).symm))⟩) (show 7 - (i + 1) < 7 - i from by omega) _ _ ls G (lv_sub hl [0, 1, 2] rfl)
set_option maxHeartbeats 4000000 in
set_option maxRecDepth 100000 in
/-- c_fm_walks -/
theorem c_fm_walks (l : Launch) (T : zTy) (mo : Nat) (m_all : Nat) (m_has : Nat) (i_size : Int32) (i_next : Int32) (i_where : Int32) (i_token : Int32) (i_number : Int32) (i_word : Int32) (i_wrong : Int32) (i_farCrossing : Int32) (m_read : Nat) (i_z0 : Int32) (i_crossings : Int32) (i_inns : Int32) (m_posts : Nat) (m_shut : Nat) (m_here : Nat) (i_steps : Int32) (i_done : Int32) (i_at : Int32) (i_gone : Int32) (m_was : Nat) (m_came : Nat) (m_seenAt : Nat) (m_rowWorth : Nat) (m_farBy : Nat) (m_used : Nat) (i_everywhere : Int32) (i_again0 : Int32) (i_d0 : Int32) (i_never : Int32) (i_firstCame : Int32) (i_longRun : Int32) (i_moved : Int32) (i_crowd : Int32) (i_l0 : Int32) (i_fitMany : Int32) (i_fitLeast : Int32) (i_fitMost : Int32) (m_fitPost : Nat) (m_fitEnd : Nat) (m_keptPosts : Nat) (i_x0 : Int32) (f_all : Nat → Int32) (f_posts : Nat → Int32) (f_shut : Nat → Int32) (f_was : Nat → Int32) (c_ : Int32) (hL : zML f_all i_z0 i_crossings) (hc0 : 0 ≤ c_.toInt) (hc6 : c_.toInt ≤ 6) (hV : zMV (zRo f_all i_z0) f_posts) (hP : zMP f_posts) : zMi l T yX12_walks cX12_walks 3 (some .boolean) 4 0 0 [.ref mo, .int c_] [[zO11 mo m_all m_has i_size i_next i_where i_token i_number i_word i_wrong i_farCrossing m_read i_z0 i_crossings i_inns m_posts m_shut m_here i_steps i_done i_at i_gone m_was m_came m_seenAt m_rowWorth m_farBy m_used i_everywhere i_again0 i_d0 i_never i_firstCame i_longRun i_moved i_crowd i_l0 i_fitMany i_fitLeast i_fitMost m_fitPost m_fitEnd m_keptPosts i_x0], [zAr T 0 m_all 3952 f_all], [zAr T 0 m_posts 7 f_posts], [zAr T 0 m_shut 7 f_shut], [zAr T 0 m_was 7 f_was]] (fun (r : Int32) bs => ∃ (j_at : Int32) (j_gone : Int32) (g_posts : Nat → Int32) (g_was : Nat → Int32), bs = [[zO11 mo m_all m_has i_size i_next i_where i_token i_number i_word i_wrong i_farCrossing m_read i_z0 i_crossings i_inns m_posts m_shut m_here i_steps i_done j_at j_gone m_was m_came m_seenAt m_rowWorth m_farBy m_used i_everywhere i_again0 i_d0 i_never i_firstCame i_longRun i_moved i_crowd i_l0 i_fitMany i_fitLeast i_fitMost m_fitPost m_fitEnd m_keptPosts i_x0], [zAr T 0 m_all 3952 f_all], [zAr T 0 m_posts 7 g_posts], [zAr T 0 m_shut 7 f_shut], [zAr T 0 m_was 7 g_was]] ∧ zMP g_posts ∧ zMV (zRo f_all i_z0) g_posts ∧ (0 ≤ j_at.toInt ∧ j_at.toInt ≤ 6) ∧ 0 ≤ j_gone.toInt ∧ j_gone.toInt ≤ 499 ∧ (r = 1 ∧ zBit i_inns j_at = 1 ∨ r = 0 ∧ ¬ zBit i_inns j_at = 1) ∧ g_posts = (zRunN f_shut (zWo f_all i_z0 i_inns) (zLo f_all i_z0) 499 f_posts c_ 0).1 ∧ j_at = (zRunN f_shut (zWo f_all i_z0 i_inns) (zLo f_all i_z0) 499 f_posts c_ 0).2.1 ∧ j_gone = nI (zRunN f_shut (zWo f_all i_z0 i_inns) (zLo f_all i_z0) 499 f_posts c_ 0).2.2 ∧ (∃ W0 : Nat → Int32, (∀ j, j < 7 → W0 j = zOne c_ j) ∧ g_was = zWasN f_shut (zWo f_all i_z0 i_inns) (zLo f_all i_z0) 499 f_posts c_ W0)) := by
  refine zMi_of (own := RX12) (by decide) rfl (Nat.le_of_ble_eq_true rfl) ?_
  intro p e s m args below meth c A ls C hr hlocks hnm hAe G hl
  refine zHide (fun Qz_ hQz_ => ?_)
  have hx := C.1
  have hb := C.2.1
  have hl : lv_has ls 3 [(0, .ref mo), (1, .int c_)] := hl
  have hz := hL.1
  have hcr := hL.cr
  refine lv_aload_n hx hb dX12_walks_0 rfl (lv_at hl 0 rfl) ?_
  refine lv_iload_n hx hb dX12_walks_1 rfl (lv_at hl 1 rfl) ?_
  refine z_Vv (bc := [[zO11 mo m_all m_has i_size i_next i_where i_token i_number i_word i_wrong i_farCrossing m_read i_z0 i_crossings i_inns m_posts m_shut m_here i_steps i_done i_at i_gone m_was m_came m_seenAt m_rowWorth m_farBy m_used i_everywhere i_again0 i_d0 i_never i_firstCame i_longRun i_moved i_crowd i_l0 i_fitMany i_fitLeast i_fitMost m_fitPost m_fitEnd m_keptPosts i_x0], [zAr T 0 m_was 7 f_was]]) (br := [[zAr T 0 m_all 3952 f_all], [zAr T 0 m_posts 7 f_posts], [zAr T 0 m_shut 7 f_shut]]) (As := [.int c_]) (rest := []) C G (c_fm_puts l T mo m_all m_has i_size i_next i_where i_token i_number i_word i_wrong i_farCrossing m_read i_z0 i_crossings i_inns m_posts m_shut m_here i_steps i_done i_at i_gone m_was m_came m_seenAt m_rowWorth m_farBy m_used i_everywhere i_again0 i_d0 i_never i_firstCame i_longRun i_moved i_crowd i_l0 i_fitMany i_fitLeast i_fitMost m_fitPost m_fitEnd m_keptPosts i_x0 f_was c_) (kV_RX12_211 C.2.2.2.2 (Nat.le_of_ble_eq_true rfl) (Nat.le_of_ble_eq_true rfl)) [0, 4] [0, 3] rfl rfl (ci := 11) (qc := (RX12, TX12, 43)) rfl rfl (List.mem_flatten.mpr ⟨_, List.mem_of_getElem? (i := 0) rfl, List.mem_cons_self⟩) rfl rfl hl.1 dX12_walks_2 (Nat.le_of_ble_eq_true rfl) (Nat.le_of_ble_eq_true rfl) (fun b1 H locs hw G => ?_)
  refine zEx1 hw ?_
  intro g_was_1
  refine zCu2 ?_
  intro hbs9 h_2
  clear hw
  subst hbs9
  have G : zS T A s.heap s [[zAr T 0 m_all 3952 f_all], [zAr T 0 m_posts 7 f_posts], [zAr T 0 m_shut 7 f_shut], [zO11 mo m_all m_has i_size i_next i_where i_token i_number i_word i_wrong i_farCrossing m_read i_z0 i_crossings i_inns m_posts m_shut m_here i_steps i_done c_ 0 m_was m_came m_seenAt m_rowWorth m_farBy m_used i_everywhere i_again0 i_d0 i_never i_firstCame i_longRun i_moved i_crowd i_l0 i_fitMany i_fitLeast i_fitMost m_fitPost m_fitEnd m_keptPosts i_x0], [zAr T 0 m_was 7 g_was_1]] _ _ := G
  refine lv_iconst (v := 1) hx hb dX12_walks_5 (by decide) ?_
  refine lv_istore_n (lv' := [(2, .int 1), (0, .ref mo), (1, .int c_)]) hx hb dX12_walks_6 rfl hl (by decide) (zLvf_h rfl) (fun ls hl => ?_)
  refine z_lp5 (T := T) 7 (fun (x : Int32) (y : Int32) (b : Int32) (xp : Nat → Int32) (xw : Nat → Int32) => [[zAr T 0 m_all 3952 f_all], [zAr T 0 m_posts 7 xp], [zAr T 0 m_shut 7 f_shut], [zO11 mo m_all m_has i_size i_next i_where i_token i_number i_word i_wrong i_farCrossing m_read i_z0 i_crossings i_inns m_posts m_shut m_here i_steps i_done x y m_was m_came m_seenAt m_rowWorth m_farBy m_used i_everywhere i_again0 i_d0 i_never i_firstCame i_longRun i_moved i_crowd i_l0 i_fitMany i_fitLeast i_fitMost m_fitPost m_fitEnd m_keptPosts i_x0], [zAr T 0 m_was 7 xw]]) (fun (x : Int32) (y : Int32) (b : Int32) (xp : Nat → Int32) (xw : Nat → Int32) => [(2, .int b), (0, .ref mo), (1, .int c_)]) (fun (x : Int32) (y : Int32) (b : Int32) (xp : Nat → Int32) (xw : Nat → Int32) => 0 ≤ x.toInt ∧ x.toInt ≤ 6 ∧ 0 ≤ y.toInt ∧ y.toInt ≤ 499 ∧ zMP xp ∧ zMV (zRo f_all i_z0) xp ∧ (0 ≤ b.toInt ∧ b.toInt ≤ 1) ∧ (b.toInt = 1 ∧ zRunN f_shut (zWo f_all i_z0 i_inns) (zLo f_all i_z0) 499 f_posts c_ 0 = zRunN f_shut (zWo f_all i_z0 i_inns) (zLo f_all i_z0) (499 - y.toInt.toNat) xp x y.toInt.toNat ∨ b.toInt = 0 ∧ zRunN f_shut (zWo f_all i_z0 i_inns) (zLo f_all i_z0) 499 f_posts c_ 0 = (xp, x, y.toInt.toNat)) ∧ (b.toInt = 1 ∧ zWasN f_shut (zWo f_all i_z0 i_inns) (zLo f_all i_z0) 499 f_posts c_ g_was_1 = zWasN f_shut (zWo f_all i_z0 i_inns) (zLo f_all i_z0) (499 - y.toInt.toNat) xp x xw ∨ b.toInt = 0 ∧ zWasN f_shut (zWo f_all i_z0 i_inns) (zLo f_all i_z0) 499 f_posts c_ g_was_1 = xw)) (fun (x : Int32) (y : Int32) (b : Int32) (xp : Nat → Int32) (xw : Nat → Int32) => (499 - y.toInt).toNat + b.toInt.toNat) ?_ c_ 0 1 f_posts g_was_1 (show 0 ≤ c_.toInt ∧ c_.toInt ≤ 6 ∧ 0 ≤ (0 : Int32).toInt ∧ (0 : Int32).toInt ≤ 499 ∧ zMP f_posts ∧ zMV (zRo f_all i_z0) f_posts ∧ (0 ≤ (1 : Int32).toInt ∧ (1 : Int32).toInt ≤ 1) ∧ ((1 : Int32).toInt = 1 ∧ zRunN f_shut (zWo f_all i_z0 i_inns) (zLo f_all i_z0) 499 f_posts c_ 0 = zRunN f_shut (zWo f_all i_z0 i_inns) (zLo f_all i_z0) (499 - (0 : Int32).toInt.toNat) f_posts c_ (0 : Int32).toInt.toNat ∨ (1 : Int32).toInt = 0 ∧ zRunN f_shut (zWo f_all i_z0 i_inns) (zLo f_all i_z0) 499 f_posts c_ 0 = (f_posts, c_, (0 : Int32).toInt.toNat)) ∧ ((1 : Int32).toInt = 1 ∧ zWasN f_shut (zWo f_all i_z0 i_inns) (zLo f_all i_z0) 499 f_posts c_ g_was_1 = zWasN f_shut (zWo f_all i_z0 i_inns) (zLo f_all i_z0) (499 - (0 : Int32).toInt.toNat) f_posts c_ g_was_1 ∨ (1 : Int32).toInt = 0 ∧ zWasN f_shut (zWo f_all i_z0 i_inns) (zLo f_all i_z0) 499 f_posts c_ g_was_1 = g_was_1) from ⟨by omega, by omega, by decide, by decide, hP, hV, by decide, (Or.inl ⟨by decide, rfl⟩), (Or.inl ⟨by decide, rfl⟩)⟩) G (lv_sub hl [0, 1, 2] rfl)
  intro x y b xp xw hI9 ih_7 H locs ls G hl
  replace hI9 : 0 ≤ x.toInt ∧ x.toInt ≤ 6 ∧ 0 ≤ y.toInt ∧ y.toInt ≤ 499 ∧ zMP xp ∧ zMV (zRo f_all i_z0) xp ∧ (0 ≤ b.toInt ∧ b.toInt ≤ 1) ∧ (b.toInt = 1 ∧ zRunN f_shut (zWo f_all i_z0 i_inns) (zLo f_all i_z0) 499 f_posts c_ 0 = zRunN f_shut (zWo f_all i_z0 i_inns) (zLo f_all i_z0) (499 - y.toInt.toNat) xp x y.toInt.toNat ∨ b.toInt = 0 ∧ zRunN f_shut (zWo f_all i_z0 i_inns) (zLo f_all i_z0) 499 f_posts c_ 0 = (xp, x, y.toInt.toNat)) ∧ (b.toInt = 1 ∧ zWasN f_shut (zWo f_all i_z0 i_inns) (zLo f_all i_z0) 499 f_posts c_ g_was_1 = zWasN f_shut (zWo f_all i_z0 i_inns) (zLo f_all i_z0) (499 - y.toInt.toNat) xp x xw ∨ b.toInt = 0 ∧ zWasN f_shut (zWo f_all i_z0 i_inns) (zLo f_all i_z0) 499 f_posts c_ g_was_1 = xw) := hI9
  refine zAn9 hI9 ?_
  intro hx0 hx6 hy0 hy9 hQ hVx hb0 hR hW9
  clear hI9
  replace G : zS T A s.heap s [[zAr T 0 m_all 3952 f_all], [zAr T 0 m_posts 7 xp], [zAr T 0 m_shut 7 f_shut], [zO11 mo m_all m_has i_size i_next i_where i_token i_number i_word i_wrong i_farCrossing m_read i_z0 i_crossings i_inns m_posts m_shut m_here i_steps i_done x y m_was m_came m_seenAt m_rowWorth m_farBy m_used i_everywhere i_again0 i_d0 i_never i_firstCame i_longRun i_moved i_crowd i_l0 i_fitMany i_fitLeast i_fitMost m_fitPost m_fitEnd m_keptPosts i_x0], [zAr T 0 m_was 7 xw]] _ _ := G
  replace hl : lv_has ls 3 [(2, .int b), (0, .ref mo), (1, .int c_)] := hl
  refine lv_aload_n hx hb dX12_walks_7 rfl (lv_at hl 1 rfl) ?_
  refine z_get C G clX12 3 rfl 20 (by decide) m_fl_RX12_208 rfl dX12_walks_8 ?_
  refine lv_sipush (v := 499) hx hb dX12_walks_11 (by decide) ?_
  refine lv_icmp_ge (tgt := 29) hx hb dX12_walks_14 (by decide) (fun c_4 => ?_) (fun c_4 => ?_)
  · have c_4n : (499 : Int) ≤ y.toInt := (fa_le _ _).mp c_4
    have hE : zRunN f_shut (zWo f_all i_z0 i_inns) (zLo f_all i_z0) 499 f_posts c_ 0 = (xp, x, y.toInt.toNat) := by rcases hR with ⟨q8, e8⟩ | ⟨q8, e8⟩ <;> first | exact e8 | (exfalso; omega) | (rw [e8, show 499 - y.toInt.toNat = 0 by omega]; rfl)
    have hF : zWasN f_shut (zWo f_all i_z0 i_inns) (zLo f_all i_z0) 499 f_posts c_ g_was_1 = xw := by rcases hW9 with ⟨q8, e8⟩ | ⟨q8, e8⟩ <;> first | exact e8 | (exfalso; omega) | (rw [e8, show 499 - y.toInt.toNat = 0 by omega]; rfl)
    refine lv_aload_n hx hb dX12_walks_29 rfl (lv_at hl 1 rfl) ?_
    refine lv_aload_n hx hb dX12_walks_30 rfl (lv_at hl 1 rfl) ?_
    refine z_get C G clX12 3 rfl 19 (by decide) m_fl_RX12_202 rfl dX12_walks_31 ?_
    refine z_Vi (bc := [[zO11 mo m_all m_has i_size i_next i_where i_token i_number i_word i_wrong i_farCrossing m_read i_z0 i_crossings i_inns m_posts m_shut m_here i_steps i_done x y m_was m_came m_seenAt m_rowWorth m_farBy m_used i_everywhere i_again0 i_d0 i_never i_firstCame i_longRun i_moved i_crowd i_l0 i_fitMany i_fitLeast i_fitMost m_fitPost m_fitEnd m_keptPosts i_x0]]) (br := [[zAr T 0 m_all 3952 f_all], [zAr T 0 m_posts 7 xp], [zAr T 0 m_shut 7 f_shut], [zAr T 0 m_was 7 xw]]) (As := [.int x]) (rest := []) C G (c_m_isInn l T mo m_all m_has i_size i_next i_where i_token i_number i_word i_wrong i_farCrossing m_read i_z0 i_crossings i_inns m_posts m_shut m_here i_steps i_done x y m_was m_came m_seenAt m_rowWorth m_farBy m_used i_everywhere i_again0 i_d0 i_never i_firstCame i_longRun i_moved i_crowd i_l0 i_fitMany i_fitLeast i_fitMost m_fitPost m_fitEnd m_keptPosts i_x0 x) (kV_RX12_178 C.2.2.2.2 (Nat.le_of_ble_eq_true rfl) (Nat.le_of_ble_eq_true rfl)) [3] [3] rfl rfl (ci := 11) (qc := (RX12, TX12, 43)) rfl rfl (List.mem_flatten.mpr ⟨_, List.mem_of_getElem? (i := 0) rfl, List.mem_cons_self⟩) rfl rfl hl.1 dX12_walks_34 (Nat.le_of_ble_eq_true rfl) (Nat.le_of_ble_eq_true rfl) (fun r_6 b1 H locs hw G => ?_)
    refine zAn2 hw ?_
    intro hbs9 hc_5
    clear hw
    subst hbs9
    have G : zS T A s.heap s [[zAr T 0 m_all 3952 f_all], [zAr T 0 m_posts 7 xp], [zAr T 0 m_shut 7 f_shut], [zAr T 0 m_was 7 xw], [zO11 mo m_all m_has i_size i_next i_where i_token i_number i_word i_wrong i_farCrossing m_read i_z0 i_crossings i_inns m_posts m_shut m_here i_steps i_done x y m_was m_came m_seenAt m_rowWorth m_farBy m_used i_everywhere i_again0 i_d0 i_never i_firstCame i_longRun i_moved i_crowd i_l0 i_fitMany i_fitLeast i_fitMost m_fitPost m_fitEnd m_keptPosts i_x0]] _ _ := G
    rcases hc_5 with ⟨rfl, h_7⟩ | ⟨rfl, h_8⟩
    · have h_7 : zInn i_inns x := h_7
      have G := G.sub (bs' := [[zO11 mo m_all m_has i_size i_next i_where i_token i_number i_word i_wrong i_farCrossing m_read i_z0 i_crossings i_inns m_posts m_shut m_here i_steps i_done x y m_was m_came m_seenAt m_rowWorth m_farBy m_used i_everywhere i_again0 i_d0 i_never i_firstCame i_longRun i_moved i_crowd i_l0 i_fitMany i_fitLeast i_fitMost m_fitPost m_fitEnd m_keptPosts i_x0], [zAr T 0 m_all 3952 f_all], [zAr T 0 m_posts 7 xp], [zAr T 0 m_shut 7 f_shut], [zAr T 0 m_was 7 xw]]) [4, 0, 1, 2, 3] rfl
      exact z_back hQz_ (z_zret C hr hlocks G (Nat.le_of_ble_eq_true rfl) (Nat.le_of_ble_eq_true rfl) dX12_walks_37 rfl ⟨x, y, xp, xw, rfl, (by first | with_reducible assumption | assumption), (by first | with_reducible assumption | assumption), (by first | with_reducible assumption | omega | trivial | assumption), (by first | with_reducible assumption | omega | trivial | assumption), (by first | with_reducible assumption | omega | trivial | assumption), (Or.inl ⟨rfl, by first | with_reducible assumption | assumption⟩), (by rw [hE]), (by rw [hE]), (by rw [hE]; exact z_nI (x := y) (m := y.toInt.toNat) (by omega) (by omega)), ⟨g_was_1, h_2, hF.symm⟩⟩)
    · have h_8 : ¬ zInn i_inns x := h_8
      have G := G.sub (bs' := [[zO11 mo m_all m_has i_size i_next i_where i_token i_number i_word i_wrong i_farCrossing m_read i_z0 i_crossings i_inns m_posts m_shut m_here i_steps i_done x y m_was m_came m_seenAt m_rowWorth m_farBy m_used i_everywhere i_again0 i_d0 i_never i_firstCame i_longRun i_moved i_crowd i_l0 i_fitMany i_fitLeast i_fitMost m_fitPost m_fitEnd m_keptPosts i_x0], [zAr T 0 m_all 3952 f_all], [zAr T 0 m_posts 7 xp], [zAr T 0 m_shut 7 f_shut], [zAr T 0 m_was 7 xw]]) [4, 0, 1, 2, 3] rfl
      exact z_back hQz_ (z_zret C hr hlocks G (Nat.le_of_ble_eq_true rfl) (Nat.le_of_ble_eq_true rfl) dX12_walks_37 rfl ⟨x, y, xp, xw, rfl, (by first | with_reducible assumption | assumption), (by first | with_reducible assumption | assumption), (by first | with_reducible assumption | omega | trivial | assumption), (by first | with_reducible assumption | omega | trivial | assumption), (by first | with_reducible assumption | omega | trivial | assumption), (Or.inr ⟨rfl, by first | with_reducible assumption | assumption⟩), (by rw [hE]), (by rw [hE]), (by rw [hE]; exact z_nI (x := y) (m := y.toInt.toNat) (by omega) (by omega)), ⟨g_was_1, h_2, hF.symm⟩⟩)
  · have c_4n : ¬ (499 : Int) ≤ y.toInt := fun q => c_4 ((fa_le _ _).mpr q)
    refine lv_iload_n hx hb dX12_walks_17 rfl (lv_at hl 0 rfl) ?_
    refine lv_if_eq (tgt := 29) hx hb dX12_walks_18 (by decide) (fun c_9 => ?_) (fun c_9 => ?_)
    · have c_9n : b.toInt = (0 : Int) := (fa_eq _ _).mp c_9
      have hE : zRunN f_shut (zWo f_all i_z0 i_inns) (zLo f_all i_z0) 499 f_posts c_ 0 = (xp, x, y.toInt.toNat) := by rcases hR with ⟨q8, e8⟩ | ⟨q8, e8⟩ <;> first | exact e8 | (exfalso; omega) | (rw [e8, show 499 - y.toInt.toNat = 0 by omega]; rfl)
      have hF : zWasN f_shut (zWo f_all i_z0 i_inns) (zLo f_all i_z0) 499 f_posts c_ g_was_1 = xw := by rcases hW9 with ⟨q8, e8⟩ | ⟨q8, e8⟩ <;> first | exact e8 | (exfalso; omega) | (rw [e8, show 499 - y.toInt.toNat = 0 by omega]; rfl)
      refine lv_aload_n hx hb dX12_walks_29 rfl (lv_at hl 1 rfl) ?_
      refine lv_aload_n hx hb dX12_walks_30 rfl (lv_at hl 1 rfl) ?_
      refine z_get C G clX12 3 rfl 19 (by decide) m_fl_RX12_202 rfl dX12_walks_31 ?_
      refine z_Vi (bc := [[zO11 mo m_all m_has i_size i_next i_where i_token i_number i_word i_wrong i_farCrossing m_read i_z0 i_crossings i_inns m_posts m_shut m_here i_steps i_done x y m_was m_came m_seenAt m_rowWorth m_farBy m_used i_everywhere i_again0 i_d0 i_never i_firstCame i_longRun i_moved i_crowd i_l0 i_fitMany i_fitLeast i_fitMost m_fitPost m_fitEnd m_keptPosts i_x0]]) (br := [[zAr T 0 m_all 3952 f_all], [zAr T 0 m_posts 7 xp], [zAr T 0 m_shut 7 f_shut], [zAr T 0 m_was 7 xw]]) (As := [.int x]) (rest := []) C G (c_m_isInn l T mo m_all m_has i_size i_next i_where i_token i_number i_word i_wrong i_farCrossing m_read i_z0 i_crossings i_inns m_posts m_shut m_here i_steps i_done x y m_was m_came m_seenAt m_rowWorth m_farBy m_used i_everywhere i_again0 i_d0 i_never i_firstCame i_longRun i_moved i_crowd i_l0 i_fitMany i_fitLeast i_fitMost m_fitPost m_fitEnd m_keptPosts i_x0 x) (kV_RX12_178 C.2.2.2.2 (Nat.le_of_ble_eq_true rfl) (Nat.le_of_ble_eq_true rfl)) [3] [3] rfl rfl (ci := 11) (qc := (RX12, TX12, 43)) rfl rfl (List.mem_flatten.mpr ⟨_, List.mem_of_getElem? (i := 0) rfl, List.mem_cons_self⟩) rfl rfl hl.1 dX12_walks_34 (Nat.le_of_ble_eq_true rfl) (Nat.le_of_ble_eq_true rfl) (fun r_11 b1 H locs hw G => ?_)
      refine zAn2 hw ?_
      intro hbs9 hc_10
      clear hw
      subst hbs9
      have G : zS T A s.heap s [[zAr T 0 m_all 3952 f_all], [zAr T 0 m_posts 7 xp], [zAr T 0 m_shut 7 f_shut], [zAr T 0 m_was 7 xw], [zO11 mo m_all m_has i_size i_next i_where i_token i_number i_word i_wrong i_farCrossing m_read i_z0 i_crossings i_inns m_posts m_shut m_here i_steps i_done x y m_was m_came m_seenAt m_rowWorth m_farBy m_used i_everywhere i_again0 i_d0 i_never i_firstCame i_longRun i_moved i_crowd i_l0 i_fitMany i_fitLeast i_fitMost m_fitPost m_fitEnd m_keptPosts i_x0]] _ _ := G
      rcases hc_10 with ⟨rfl, h_12⟩ | ⟨rfl, h_13⟩
      · have h_12 : zInn i_inns x := h_12
        have G := G.sub (bs' := [[zO11 mo m_all m_has i_size i_next i_where i_token i_number i_word i_wrong i_farCrossing m_read i_z0 i_crossings i_inns m_posts m_shut m_here i_steps i_done x y m_was m_came m_seenAt m_rowWorth m_farBy m_used i_everywhere i_again0 i_d0 i_never i_firstCame i_longRun i_moved i_crowd i_l0 i_fitMany i_fitLeast i_fitMost m_fitPost m_fitEnd m_keptPosts i_x0], [zAr T 0 m_all 3952 f_all], [zAr T 0 m_posts 7 xp], [zAr T 0 m_shut 7 f_shut], [zAr T 0 m_was 7 xw]]) [4, 0, 1, 2, 3] rfl
        exact z_back hQz_ (z_zret C hr hlocks G (Nat.le_of_ble_eq_true rfl) (Nat.le_of_ble_eq_true rfl) dX12_walks_37 rfl ⟨x, y, xp, xw, rfl, (by first | with_reducible assumption | assumption), (by first | with_reducible assumption | assumption), (by first | with_reducible assumption | omega | trivial | assumption), (by first | with_reducible assumption | omega | trivial | assumption), (by first | with_reducible assumption | omega | trivial | assumption), (Or.inl ⟨rfl, by first | with_reducible assumption | assumption⟩), (by rw [hE]), (by rw [hE]), (by rw [hE]; exact z_nI (x := y) (m := y.toInt.toNat) (by omega) (by omega)), ⟨g_was_1, h_2, hF.symm⟩⟩)
      · have h_13 : ¬ zInn i_inns x := h_13
        have G := G.sub (bs' := [[zO11 mo m_all m_has i_size i_next i_where i_token i_number i_word i_wrong i_farCrossing m_read i_z0 i_crossings i_inns m_posts m_shut m_here i_steps i_done x y m_was m_came m_seenAt m_rowWorth m_farBy m_used i_everywhere i_again0 i_d0 i_never i_firstCame i_longRun i_moved i_crowd i_l0 i_fitMany i_fitLeast i_fitMost m_fitPost m_fitEnd m_keptPosts i_x0], [zAr T 0 m_all 3952 f_all], [zAr T 0 m_posts 7 xp], [zAr T 0 m_shut 7 f_shut], [zAr T 0 m_was 7 xw]]) [4, 0, 1, 2, 3] rfl
        exact z_back hQz_ (z_zret C hr hlocks G (Nat.le_of_ble_eq_true rfl) (Nat.le_of_ble_eq_true rfl) dX12_walks_37 rfl ⟨x, y, xp, xw, rfl, (by first | with_reducible assumption | assumption), (by first | with_reducible assumption | assumption), (by first | with_reducible assumption | omega | trivial | assumption), (by first | with_reducible assumption | omega | trivial | assumption), (by first | with_reducible assumption | omega | trivial | assumption), (Or.inr ⟨rfl, by first | with_reducible assumption | assumption⟩), (by rw [hE]), (by rw [hE]), (by rw [hE]; exact z_nI (x := y) (m := y.toInt.toNat) (by omega) (by omega)), ⟨g_was_1, h_2, hF.symm⟩⟩)
    · have c_9n : ¬ b.toInt = (0 : Int) := fun q => c_9 ((fa_eq _ _).mpr q)
      refine lv_aload_n hx hb dX12_walks_21 rfl (lv_at hl 1 rfl) ?_
      refine z_Vi (bc := [[zO11 mo m_all m_has i_size i_next i_where i_token i_number i_word i_wrong i_farCrossing m_read i_z0 i_crossings i_inns m_posts m_shut m_here i_steps i_done x y m_was m_came m_seenAt m_rowWorth m_farBy m_used i_everywhere i_again0 i_d0 i_never i_firstCame i_longRun i_moved i_crowd i_l0 i_fitMany i_fitLeast i_fitMost m_fitPost m_fitEnd m_keptPosts i_x0], [zAr T 0 m_all 3952 f_all], [zAr T 0 m_posts 7 xp], [zAr T 0 m_shut 7 f_shut], [zAr T 0 m_was 7 xw]]) (br := []) (As := []) (rest := []) C G (c_fm_stepsOn l T mo m_all m_has i_size i_next i_where i_token i_number i_word i_wrong i_farCrossing m_read i_z0 i_crossings i_inns m_posts m_shut m_here i_steps i_done x y m_was m_came m_seenAt m_rowWorth m_farBy m_used i_everywhere i_again0 i_d0 i_never i_firstCame i_longRun i_moved i_crowd i_l0 i_fitMany i_fitLeast i_fitMost m_fitPost m_fitEnd m_keptPosts i_x0 f_all xp f_shut xw (by first | with_reducible assumption | with_reducible rfl | omega | assumption | rfl) (by first | with_reducible assumption | with_reducible rfl | omega | assumption | rfl) (by first | with_reducible assumption | with_reducible rfl | omega | assumption | rfl) (by first | with_reducible assumption | with_reducible rfl | omega | assumption | rfl) (by first | with_reducible assumption | with_reducible rfl | omega | assumption | rfl) (by first | with_reducible assumption | with_reducible rfl | omega | assumption | rfl) (by first | with_reducible assumption | with_reducible rfl | omega | assumption | rfl)) (kV_RX12_214 C.2.2.2.2 (Nat.le_of_ble_eq_true rfl) (Nat.le_of_ble_eq_true rfl)) [3, 0, 1, 2, 4] [0, 0, 0, 0, 0] rfl rfl (ci := 11) (qc := (RX12, TX12, 43)) rfl rfl (List.mem_flatten.mpr ⟨_, List.mem_of_getElem? (i := 0) rfl, List.mem_cons_self⟩) rfl rfl hl.1 dX12_walks_22 (Nat.le_of_ble_eq_true rfl) (Nat.le_of_ble_eq_true rfl) (fun r_24 b1 H locs hw G => ?_)
      refine zEx4 hw ?_
      intro j_at_14 j_gone_15 g_posts_16 g_was_17
      refine zCu7 ?_
      intro hbs9 h_18 h_19 h_20 h_21 h_22 hc_23
      clear hw
      subst hbs9
      have G : zS T A s.heap s [[zO11 mo m_all m_has i_size i_next i_where i_token i_number i_word i_wrong i_farCrossing m_read i_z0 i_crossings i_inns m_posts m_shut m_here i_steps i_done j_at_14 j_gone_15 m_was m_came m_seenAt m_rowWorth m_farBy m_used i_everywhere i_again0 i_d0 i_never i_firstCame i_longRun i_moved i_crowd i_l0 i_fitMany i_fitLeast i_fitMost m_fitPost m_fitEnd m_keptPosts i_x0], [zAr T 0 m_all 3952 f_all], [zAr T 0 m_posts 7 g_posts_16], [zAr T 0 m_shut 7 f_shut], [zAr T 0 m_was 7 g_was_17]] _ _ := G
      rcases hc_23 with ⟨rfl, h_25, h_26, h_27, h_28⟩ | ⟨rfl, h_29, h_30, h_31, h_32⟩
      · have h_25 : ¬ zStep xp f_shut (zWo f_all i_z0 i_inns) (zLo f_all i_z0) x = -1 := h_25
        have h_26 : j_at_14 = zStep xp f_shut (zWo f_all i_z0 i_inns) (zLo f_all i_z0) x := h_26
        have h_27 : j_gone_15.toInt = y.toInt + 1 := h_27
        have h_28 : g_was_17 = upd xw j_at_14.toNatClampNeg (xw j_at_14.toNatClampNeg + 1) := h_28
        refine lv_istore_n (lv' := [(2, .int 1), (0, .ref mo), (1, .int c_)]) hx hb dX12_walks_25 rfl hl (by decide) (zLvf_h rfl) (fun ls hl => ?_)
        refine lv_goto (tgt := 7) hx hb dX12_walks_26 (by decide) ?_
        have G := G.sub (bs' := [[zAr T 0 m_all 3952 f_all], [zAr T 0 m_posts 7 g_posts_16], [zAr T 0 m_shut 7 f_shut], [zO11 mo m_all m_has i_size i_next i_where i_token i_number i_word i_wrong i_farCrossing m_read i_z0 i_crossings i_inns m_posts m_shut m_here i_steps i_done j_at_14 j_gone_15 m_was m_came m_seenAt m_rowWorth m_farBy m_used i_everywhere i_again0 i_d0 i_never i_firstCame i_longRun i_moved i_crowd i_l0 i_fitMany i_fitLeast i_fitMost m_fitPost m_fitEnd m_keptPosts i_x0], [zAr T 0 m_was 7 g_was_17]]) [1, 2, 3, 0, 4] rfl
        exact ih_7 j_at_14 j_gone_15 1 g_posts_16 g_was_17 (show 0 ≤ j_at_14.toInt ∧ j_at_14.toInt ≤ 6 ∧ 0 ≤ j_gone_15.toInt ∧ j_gone_15.toInt ≤ 499 ∧ zMP g_posts_16 ∧ zMV (zRo f_all i_z0) g_posts_16 ∧ (0 ≤ (1 : Int32).toInt ∧ (1 : Int32).toInt ≤ 1) ∧ ((1 : Int32).toInt = 1 ∧ zRunN f_shut (zWo f_all i_z0 i_inns) (zLo f_all i_z0) 499 f_posts c_ 0 = zRunN f_shut (zWo f_all i_z0 i_inns) (zLo f_all i_z0) (499 - j_gone_15.toInt.toNat) g_posts_16 j_at_14 j_gone_15.toInt.toNat ∨ (1 : Int32).toInt = 0 ∧ zRunN f_shut (zWo f_all i_z0 i_inns) (zLo f_all i_z0) 499 f_posts c_ 0 = (g_posts_16, j_at_14, j_gone_15.toInt.toNat)) ∧ ((1 : Int32).toInt = 1 ∧ zWasN f_shut (zWo f_all i_z0 i_inns) (zLo f_all i_z0) 499 f_posts c_ g_was_1 = zWasN f_shut (zWo f_all i_z0 i_inns) (zLo f_all i_z0) (499 - j_gone_15.toInt.toNat) g_posts_16 j_at_14 g_was_17 ∨ (1 : Int32).toInt = 0 ∧ zWasN f_shut (zWo f_all i_z0 i_inns) (zLo f_all i_z0) 499 f_posts c_ g_was_1 = g_was_17) from ⟨by omega, by omega, by omega, by omega, (by first | with_reducible assumption | assumption), (by first | with_reducible assumption | assumption), by decide, (Or.inl ⟨by decide, by rcases hR with ⟨q8, e8⟩ | ⟨q8, e8⟩ <;> first | (exfalso; omega) | (rw [e8, show 499 - y.toInt.toNat = (499 - j_gone_15.toInt.toNat) + 1 by omega, zRunN, if_neg h_25, ← h_26, ← h_22, show y.toInt.toNat + 1 = j_gone_15.toInt.toNat by omega])⟩), (Or.inl ⟨by decide, by rcases hW9 with ⟨q8, e8⟩ | ⟨q8, e8⟩ <;> first | (exfalso; omega) | (rw [e8, show 499 - y.toInt.toNat = (499 - j_gone_15.toInt.toNat) + 1 by omega, zWasN, if_neg h_25, ← h_26, ← h_22, show zVi xw j_at_14 = g_was_17 from (if_pos ⟨by omega, by omega⟩).trans h_28.symm])⟩)⟩) (show (499 - j_gone_15.toInt).toNat + (1 : Int32).toInt.toNat < (499 - y.toInt).toNat + b.toInt.toNat from by have e1 : (1 : Int32).toInt = 1 := rfl; have e0 : (0 : Int32).toInt = 0 := rfl; omega) _ _ ls G (lv_sub hl [0, 1, 2] rfl)
      · have h_29 : zStep xp f_shut (zWo f_all i_z0 i_inns) (zLo f_all i_z0) x = -1 := h_29
        have h_30 : j_at_14 = x := h_30
        have h_31 : j_gone_15 = y := h_31
        have h_32 : g_was_17 = xw := h_32
        have hg9 := congrArg Int32.toInt h_31
        refine lv_istore_n (lv' := [(2, .int 0), (0, .ref mo), (1, .int c_)]) hx hb dX12_walks_25 rfl hl (by decide) (zLvf_h rfl) (fun ls hl => ?_)
        refine lv_goto (tgt := 7) hx hb dX12_walks_26 (by decide) ?_
        have G := G.sub (bs' := [[zAr T 0 m_all 3952 f_all], [zAr T 0 m_posts 7 g_posts_16], [zAr T 0 m_shut 7 f_shut], [zO11 mo m_all m_has i_size i_next i_where i_token i_number i_word i_wrong i_farCrossing m_read i_z0 i_crossings i_inns m_posts m_shut m_here i_steps i_done j_at_14 j_gone_15 m_was m_came m_seenAt m_rowWorth m_farBy m_used i_everywhere i_again0 i_d0 i_never i_firstCame i_longRun i_moved i_crowd i_l0 i_fitMany i_fitLeast i_fitMost m_fitPost m_fitEnd m_keptPosts i_x0], [zAr T 0 m_was 7 g_was_17]]) [1, 2, 3, 0, 4] rfl
        exact ih_7 j_at_14 j_gone_15 0 g_posts_16 g_was_17 (show 0 ≤ j_at_14.toInt ∧ j_at_14.toInt ≤ 6 ∧ 0 ≤ j_gone_15.toInt ∧ j_gone_15.toInt ≤ 499 ∧ zMP g_posts_16 ∧ zMV (zRo f_all i_z0) g_posts_16 ∧ (0 ≤ (0 : Int32).toInt ∧ (0 : Int32).toInt ≤ 1) ∧ ((0 : Int32).toInt = 1 ∧ zRunN f_shut (zWo f_all i_z0 i_inns) (zLo f_all i_z0) 499 f_posts c_ 0 = zRunN f_shut (zWo f_all i_z0 i_inns) (zLo f_all i_z0) (499 - j_gone_15.toInt.toNat) g_posts_16 j_at_14 j_gone_15.toInt.toNat ∨ (0 : Int32).toInt = 0 ∧ zRunN f_shut (zWo f_all i_z0 i_inns) (zLo f_all i_z0) 499 f_posts c_ 0 = (g_posts_16, j_at_14, j_gone_15.toInt.toNat)) ∧ ((0 : Int32).toInt = 1 ∧ zWasN f_shut (zWo f_all i_z0 i_inns) (zLo f_all i_z0) 499 f_posts c_ g_was_1 = zWasN f_shut (zWo f_all i_z0 i_inns) (zLo f_all i_z0) (499 - j_gone_15.toInt.toNat) g_posts_16 j_at_14 g_was_17 ∨ (0 : Int32).toInt = 0 ∧ zWasN f_shut (zWo f_all i_z0 i_inns) (zLo f_all i_z0) 499 f_posts c_ g_was_1 = g_was_17) from ⟨by omega, by omega, by omega, by omega, (by first | with_reducible assumption | assumption), (by first | with_reducible assumption | assumption), by decide, (Or.inr ⟨by decide, by rcases hR with ⟨q8, e8⟩ | ⟨q8, e8⟩ <;> first | (exfalso; omega) | (rw [e8, show 499 - y.toInt.toNat = (498 - y.toInt.toNat) + 1 by omega, zRunN, if_pos h_29, ← h_22, h_30, h_31])⟩), (Or.inr ⟨by decide, by rcases hW9 with ⟨q8, e8⟩ | ⟨q8, e8⟩ <;> first | (exfalso; omega) | (rw [e8, show 499 - y.toInt.toNat = (498 - y.toInt.toNat) + 1 by omega, zWasN, if_pos h_29, h_32])⟩)⟩) (show (499 - j_gone_15.toInt).toNat + (0 : Int32).toInt.toNat < (499 - y.toInt).toNat + b.toInt.toNat from by have e1 : (1 : Int32).toInt = 1 := rfl; have e0 : (0 : Int32).toInt = 0 := rfl; omega) _ _ ls G (lv_sub hl [0, 1, 2] rfl)
abbrev zS0 : Nat → Int32 := fun _ => 0
def kW (cr inn : Int32) (k1 : Nat → Int32) (j : Nat) : Int32 := zWays cr inn k1 (nI j)
def pW (f : Nat → Int32) (z : Int32) : Nat → Int32 := zWo f z (f (z.toInt.toNat + 1))
theorem zLs_rf {W L : Nat → Int32} : zLs W L L := fun _ _ _ _ _ => rfl
/-- the class's rows of a land walk as the record's -/
theorem zLnd_w {cr inn z : Int32} {k1 k2 k3 k4 f : Nat → Int32} {B : Nat} (h : zLnd cr inn k1 k2 k3 k4 (fun j => f (B + j))) (hF : zLF (fun j => f (B + j))) (hz : z.toInt.toNat = B) : (∀ j, j < 7 → kW cr inn k1 j = pW f z j) ∧ zLs (kW cr inn k1) k2 (zLo f z) ∧ (∀ j, j < 7 → k3 j = zPo f z j) ∧ zP3 k3 (kW cr inn k1) ∧ cr = f z.toInt.toNat ∧ inn = f (z.toInt.toNat + 1) := by
  obtain ⟨ha, hab, hi, hd, hx, hr⟩ := h
  obtain ⟨hf0, hf1, hf2⟩ := hF
  have ha : cr = f B := ha
  have hab : 0 ≤ (f B).toInt ∧ (f B).toInt ≤ 7 := hab
  have hi : inn = f (B + 1) := hi
  have hd : ∀ j : Nat, j < 7 → k1 j = f (B + (2 + j)) ∧ k3 j = f (B + (9 + j)) ∧ k4 j = f (B + (16 + j)) := hd
  have hx : ∀ j : Nat, j < 7 → (f B).toInt ≤ (j : Int) → k1 j = 0 := hx
  have hr : ∀ j r : Nat, j < 7 → r < 4 → (r : Int) < (k1 j).toInt → k2 (4 * j + r) = f (B + (23 + 4 * j + r)) := hr
  have hf1 : ∀ c : Nat, c < 7 → (0 ≤ (f (B + (2 + c))).toInt ∧ (f (B + (2 + c))).toInt ≤ 4) ∧ (0 ≤ (f (B + (9 + c))).toInt ∧ (f (B + (9 + c))).toInt ≤ 3) ∧ 0 ≤ (f (B + (16 + c))).toInt ∧ (f (B + (16 + c))).toInt ≤ 9 := hf1
  have hw : ∀ j : Nat, j < 7 → kW cr inn k1 j = if zBit inn (nI j) = 1 then 0 else k1 j := fun j hj => by
    have t := nI_toInt (n := j) (by omega)
    have t2 := nI_clamp (n := j) (by omega)
    have hcr : cr.toInt = (f B).toInt := by rw [ha]
    unfold kW zWays
    by_cases b : zBit inn (nI j) = 1
    · rw [if_pos b, if_neg (fun q => zBit_o b q.2.2.2)]
    · rw [if_neg b]
      by_cases q : (j : Int) < (f B).toInt
      · rw [if_pos ⟨by omega, by omega, by omega, zBit_n b⟩, t2]
      · rw [if_neg (fun q2 => by omega), hx j hj (by omega)]
  have hp : ∀ j, j < 7 → kW cr inn k1 j = pW f z j := fun j hj => by
    rw [hw j hj]
    unfold pW zWo zRo
    rw [hz, ← hi, (hd j hj).1]
  have hk0 : (0 : Int32).toInt = 0 := rfl
  have hk : ∀ j, j < 7 → 0 ≤ (kW cr inn k1 j).toInt ∧ (kW cr inn k1 j).toInt ≤ (k1 j).toInt ∧ (k1 j).toInt ≤ 4 := fun j hj => by
    have q := (hf1 j hj).1
    rw [hw j hj, (hd j hj).1]
    split
    · rw [hk0]; exact ⟨by omega, q.1, q.2⟩
    · exact ⟨q.1, by omega, q.2⟩
  refine ⟨hp, fun j r hj hr4 hq => ?_, fun j hj => ?_, fun j hj => ⟨⟨(hk j hj).1, by have := hk j hj; omega⟩, ?_⟩, by rw [hz]; exact ha, by rw [hz]; exact hi⟩
  · rw [hr j r hj hr4 (by have := hk j hj; omega)]
    unfold zLo
    rw [hz]
    exact congrArg f (by omega)
  · unfold zPo
    rw [hz]
    exact (hd j hj).2.1
  · rw [(hd j hj).2.1]
    have q := (hf1 j hj).2.1
    exact ⟨q.1, by omega⟩
/-- a land's row as it can be kept: posts point to roads, inns are crossings that are there, roads lead to such -/
def zVR (R : Nat → Int32) : Prop := ∀ c, c < 7 → ((R (9 + c)).toInt = 0 ∨ (R (9 + c)).toInt < (R (2 + c)).toInt) ∧ ((R 0).toInt ≤ (c : Int) → zBit (R 1) (nI c) = 0) ∧ ∀ r : Nat, r < 4 → (r : Int) < (R (2 + c)).toInt → (R (23 + 4 * c + r)).toInt < (R 0).toInt
theorem zVR_cg {R R' : Nat → Int32} (e : ∀ j, j < 51 → R' j = R j) (h : zVR R) : zVR R' := by
  intro c hc
  obtain ⟨a, b, d⟩ := h c hc
  refine ⟨?_, ?_, fun r hr hq => ?_⟩
  · rw [e _ (by omega), e _ (by omega)]; exact a
  · rw [e _ (by omega), e _ (by omega)]; exact b
  · rw [e _ (by omega)] at hq
    rw [e _ (by omega), e _ (by omega)]
    exact d r hr hq
/-- so of each land that is kept, told or in an image -/
def zVA (f : Nat → Int32) : Prop := ∀ i k, i < 4 → k < 2 → zVR (fun j => f (988 * i + (610 + 51 * k + j)))
theorem zVA_0 {f : Nat → Int32} {z : Int32} (h : zVA f) (hz : z.toInt = 610 ∨ z.toInt = 661) : zVR (fun j => f (z.toInt.toNat + j)) := by
  rcases hz with q | q
  · exact zVR_cg (fun j _ => congrArg f (by omega)) (h 0 0 (by decide) (by decide))
  · exact zVR_cg (fun j _ => congrArg f (by omega)) (h 0 1 (by decide) (by decide))
theorem zVA_z {f P : Nat → Int32} {z : Int32} (h : zVA f) (hz : z.toInt = 610 ∨ z.toInt = 661) (hP : ∀ j, j < 7 → P j = zPt f z (nI j)) : zMV (zRo f z) P := by
  intro c hc
  rw [hP c hc]
  have e := nI_toInt (n := c) (by omega)
  have e1 : zPt f z (nI c) = f (z.toInt.toNat + (9 + c)) := congrArg f (by omega)
  rw [e1]
  exact Or.inr (zVA_0 h hz c hc).1
/-- the reference's rows are a walk's rows -/
theorem zP3_m {f P : Nat → Int32} {z cr n : Int32} (h : zML f z cr) (hP : zMP P) : zP3 P (zWo f z n) := by
  intro j hj
  have e := nI_toInt (n := j) (by omega)
  have r : 0 ≤ (zRo f z j).toInt ∧ (zRo f z j).toInt ≤ 4 := (h.2.2.2.1 j hj).1
  have p := hP j hj
  refine ⟨?_, p.1, by omega⟩
  unfold zWo
  split
  · exact ⟨by decide, by decide⟩
  · exact r
theorem zA_2 {r r' x no : Int32} {fk f : Nat → Int32} {a0 a1 b0 b1 : Int32} (hk : fk 0 = f 0) (hq : (f 0).toInt ≤ 2) (e0 : a0 = b0) (e1 : a1 = b1) (F1 : (x.toInt < 0 ∨ (fk 0).toInt ≤ x.toInt ∨ 2 ≤ x.toInt) ∧ r = no ∨ x.toInt = 0 ∧ 0 < (fk 0).toInt ∧ r = a0 ∨ x.toInt = 1 ∧ 1 < (fk 0).toInt ∧ r = a1) (F2 : (x.toInt < 0 ∨ (f 0).toInt ≤ x.toInt) ∧ r' = no ∨ x.toInt = 0 ∧ 0 < (f 0).toInt ∧ r' = b0 ∨ x.toInt = 1 ∧ 1 < (f 0).toInt ∧ r' = b1) : r = r' := by
  rw [hk] at F1
  rcases F1 with ⟨a, b⟩ | ⟨a, b, c⟩ | ⟨a, b, c⟩ <;> rcases F2 with ⟨d, e⟩ | ⟨d, e, g⟩ | ⟨d, e, g⟩ <;> first | (exfalso; omega) | (rw [b, e]; done) | (rw [c, g, e0]; done) | (rw [c, g, e1]; done)
def pBk (a : pS) : Prop := ¬ a.2.1.toInt = 0 → ¬ a.2.2.1.toInt = 0
section PBK
variable {k : pT} {a : pS}
theorem pBk_ends (h : pBk a) : pBk (pEnds k a) := by
  unfold pEnds
  split
  · exact fun _ => by show ¬ (1 : Int32).toInt = 0; decide
  · exact h
theorem pBk_also {kd w : Int32} (h : pBk a) : pBk (pAlso kd w a) := by
  unfold pAlso
  split
  · exact h
  · rename_i q
    exact fun q2 => absurd (Or.inl q2) q
theorem pBk_num {lo hi : Int32} (h : pBk a) : pBk (pNum k lo hi a).2 := by
  unfold pNum
  split
  · exact pBk_ends h
  · split
    · exact h
    · exact pBk_also (kd := 2) (w := nI (pWh k a.1)) h
theorem pBk_word {lo hi : Nat} (h : pBk a) : pBk (pWord k lo hi a).2 := by
  unfold pWord
  split
  · exact pBk_ends h
  · exact h
theorem pBk_endL (h : pBk a) : pBk (pEndL k a) := by
  unfold pEndL
  split
  · exact h
  · exact pBk_ends h
theorem pBk_cr (h : pBk a) : pBk (pCr k a).2 := pBk_num (k := k) (lo := 0) (hi := 6) h
theorem pBk_roads : ∀ (i m : Nat) (a : pS) (f : Nat → Int32), pBk a → pBk (pRoads k i m a f).2.1
  | 0, m, a, f, h => h
  | i + 1, m, a, f, h => by
    unfold pRoads
    split
    · refine pBk_roads i _ _ _ (pBk_cr ?_)
      split
      · exact pBk_also h
      · exact h
    · exact h
theorem pBk_db {m : Int} {w : Int32} {f : Nat → Int32} (h : pBk a) : pBk (pDB m w f a) := by
  unfold pDB
  split
  · exact pBk_also h
  · exact h
theorem pBk_other {d : Nat} {w : Int32} {f : Nat → Int32} (h : pBk a) : pBk (pOther k d w a f).1 := by
  unfold pOther
  split
  · exact h
  · split
    · exact pBk_roads 601 0 _ _ (pBk_db h)
    · split
      · exact pBk_cr h
      · exact pBk_num (pBk_cr h)
theorem pBk_land {f : Nat → Int32} (h : pBk a) : pBk (pLand k a f).1 := pBk_endL (pBk_other (pBk_word h))
theorem pBk_lines : ∀ (i : Nat) (a : pS) (f : Nat → Int32), pBk a → pBk (pLines k 0 i a f).1
  | 0, a, f, h => h
  | i + 1, a, f, h => by
    unfold pLines
    split
    · refine pBk_lines i _ _ ?_
      rw [show pLine k 0 a f = pLand k a f from if_pos rfl]
      exact pBk_land h
    · exact h
end PBK
/-- inns told: of crossings that were told -/
def zIq (inn fa : Int32) : Prop := ∃ t : Nat, t < 128 ∧ inn = nI t ∧ (-1 ≤ fa.toInt ∧ fa.toInt ≤ 6) ∧ ∀ d : Nat, d ≤ 7 → fa.toInt < (d : Int) → t / 2 ^ d = 0
theorem zIq_m {inn fa fb : Int32} (h : zIq inn fa) (h1 : fa.toInt ≤ fb.toInt) (h2 : fb.toInt ≤ 6) : zIq inn fb := by
  obtain ⟨t, ht, e, hf, hd⟩ := h
  exact ⟨t, ht, e, ⟨by omega, h2⟩, fun d hd8 hq => hd d hd8 (by omega)⟩
theorem zIq_t {inn fa c : Int32} (h : zIq inn fa) (hc : 0 ≤ c.toInt ∧ c.toInt ≤ 6) : zIq (inn ||| ((1 : Int32) <<< (c &&& 31))) (if fa.toInt < c.toInt then c else fa) := by
  obtain ⟨t, ht, rfl, hf, hd⟩ := h
  have ec : c = nI c.toInt.toNat := z_nI (by omega) (by omega)
  have k1 := zTof_k1 t ht c.toInt.toNat (by omega)
  rw [← ec] at k1
  refine ⟨t ||| 2 ^ c.toInt.toNat, k1.2, k1.1, ?_, fun d hd8 hq => (zTof_k2 t ht c.toInt.toNat (by omega) d (by omega)).mpr ?_⟩
  · split <;> omega
  · split at hq
    · exact ⟨hd d hd8 (by omega), by omega⟩
    · exact ⟨hd d hd8 hq, by omega⟩
theorem zIq_b : ∀ t, t < 128 → ∀ j, j < 7 → t / 2 ^ j = 0 → zBit (nI t) (nI j) = 0 := by decide +kernel
theorem zIq_0 : zIq 0 (-1) := ⟨0, by decide, rfl, by decide, fun d _ _ => Nat.zero_div _⟩
/-- roads told lead to crossings that were told -/
def zJq (f : Nat → Int32) (fa : Int32) : Prop := ∀ c r : Nat, c < 7 → r < 4 → (r : Int) < (f (2 + c)).toInt → (f (23 + 4 * c + r)).toInt ≤ fa.toInt
theorem zJq_m {f : Nat → Int32} {fa fb : Int32} (h : zJq f fa) (q : fa.toInt ≤ fb.toInt) : zJq f fb := fun c r hc hr hq => Int.le_trans (h c r hc hr hq) q
theorem zJq_l {f : Nat → Int32} {fa fb v : Int32} {k : Nat} (h : zJq f fa) (q : fa.toInt ≤ fb.toInt) (hv : v.toInt ≤ fb.toInt) (hk : 23 ≤ k) : zJq (upd f k v) fb := by
  intro c r hc hr hq
  rw [z_ne (by omega)] at hq
  by_cases e : 23 + 4 * c + r = k
  · rw [z_eq e]; exact hv
  · rw [z_ne e]; exact Int.le_trans (h c r hc hr hq) q
theorem zJq_o {f : Nat → Int32} {fa v : Int32} {k : Nat} (h : zJq f fa) (hk : k < 23) (hk2 : ¬ (2 ≤ k ∧ k < 9)) : zJq (upd f k v) fa := by
  intro c r hc hr hq
  rw [z_ne (by omega)] at hq
  rw [z_ne (by omega)]
  exact h c r hc hr hq
section PFA
variable {k : pT} {a : pS}
theorem pEnds_a : (pEnds k a).2.2.2.2 = a.2.2.2.2 := by
  unfold pEnds
  split <;> rfl
theorem pAlso_a {kd w : Int32} : (pAlso kd w a).2.2.2.2 = a.2.2.2.2 := by
  unfold pAlso
  split <;> rfl
theorem pNum_a {lo hi : Int32} : (pNum k lo hi a).2.2.2.2.2 = a.2.2.2.2 := by
  unfold pNum
  split
  · exact pEnds_a
  · split
    · rfl
    · exact pAlso_a
theorem pWord_a {lo hi : Nat} : (pWord k lo hi a).2.2.2.2.2 = a.2.2.2.2 := by
  unfold pWord
  split
  · exact pEnds_a
  · rfl
theorem pEndL_aa : (pEndL k a).2.2.2.2 = a.2.2.2.2 := by
  unfold pEndL
  split
  · rfl
  · exact pEnds_a
theorem pNum_b : 0 ≤ (pNum k 0 6 a).1.toInt ∧ (pNum k 0 6 a).1.toInt ≤ 6 := by
  unfold pNum
  split
  · exact ⟨by show (0 : Int) ≤ (0 : Int32).toInt; decide, by show (0 : Int32).toInt ≤ 6; decide⟩
  · split
    · rename_i q
      exact q
    · exact ⟨by show (0 : Int) ≤ (0 : Int32).toInt; decide, by show (0 : Int32).toInt ≤ 6; decide⟩
theorem pCr_a : (pCr k a).2.2.2.2.2 = if a.2.2.2.2.toInt < (pNum k 0 6 a).1.toInt then (pNum k 0 6 a).1 else a.2.2.2.2 := by
  have e : (pCr k a).2.2.2.2.2 = if (pNum k 0 6 a).2.2.2.2.2.toInt < (pNum k 0 6 a).1.toInt then (pNum k 0 6 a).1 else (pNum k 0 6 a).2.2.2.2.2 := rfl
  rw [e, pNum_a]
theorem zIq_cr {inn : Int32} (h : zIq inn a.2.2.2.2) : zIq inn (pCr k a).2.2.2.2.2 := by
  have b := pNum_b (k := k) (a := a)
  have hf : -1 ≤ a.2.2.2.2.toInt ∧ a.2.2.2.2.toInt ≤ 6 := by
    obtain ⟨t, -, -, hf, -⟩ := h
    exact hf
  rw [pCr_a]
  refine zIq_m h ?_ ?_
  · split <;> omega
  · split <;> omega
theorem pCr_m : a.2.2.2.2.toInt ≤ (pCr k a).2.2.2.2.2.toInt ∧ (pCr k a).1.toInt ≤ (pCr k a).2.2.2.2.2.toInt := by
  rw [pCr_a]
  show a.2.2.2.2.toInt ≤ (if a.2.2.2.2.toInt < (pNum k 0 6 a).1.toInt then (pNum k 0 6 a).1 else a.2.2.2.2).toInt ∧ (pNum k 0 6 a).1.toInt ≤ (if a.2.2.2.2.toInt < (pNum k 0 6 a).1.toInt then (pNum k 0 6 a).1 else a.2.2.2.2).toInt
  split <;> omega
/-- the roads of a crossing, while they are told -/
def zJm (f : Nat → Int32) (fa : Int32) (m : Nat) : Prop := zJq f fa ∧ ∀ r : Nat, r < m → r < 4 → (f 0).toInt < 7 → (f (23 + 4 * (f 0).toInt.toNat + r)).toInt ≤ fa.toInt
theorem zIq_roads {inn cr : Int32} : ∀ (i m : Nat) (a : pS) (f : Nat → Int32), m ≤ 4 → f 1 = inn → f 0 = cr → zIq inn a.2.2.2.2 → zJm f a.2.2.2.2 m → ((pRoads k i m a f).2.2 1 = inn ∧ (pRoads k i m a f).2.2 0 = cr ∧ (pRoads k i m a f).1 ≤ 4) ∧ zIq inn (pRoads k i m a f).2.1.2.2.2.2 ∧ zJm (pRoads k i m a f).2.2 (pRoads k i m a f).2.1.2.2.2.2 (pRoads k i m a f).1
  | 0, m, a, f, hm, e, e0, h, hJ => ⟨⟨e, e0, hm⟩, h, hJ⟩
  | i + 1, m, a, f, hm, e, e0, h, hJ => by
    have hx : ∀ b : pS, b.2.2.2.2 = a.2.2.2.2 → zIq inn (pCr k b).2.2.2.2.2 ∧ zJm (if (f 0).toInt < 7 ∧ m < 4 then upd f (23 + 4 * (f 0).toInt.toNat + m) (pCr k b).1 else f) (pCr k b).2.2.2.2.2 (if m < 4 then m + 1 else 4) := by
      intro b hb
      have hm2 := pCr_m (k := k) (a := b)
      rw [hb] at hm2
      refine ⟨zIq_cr (by rw [hb]; exact h), ?_⟩
      by_cases q : (f 0).toInt < 7 ∧ m < 4
      · rw [if_pos q, if_pos q.2]
        refine ⟨zJq_l hJ.1 hm2.1 hm2.2 (by omega), fun r hr hr4 h7 => ?_⟩
        rw [show upd f (23 + 4 * (f 0).toInt.toNat + m) (pCr k b).1 0 = f 0 from z_ne (by omega)]
        by_cases t : r = m
        · rw [z_eq (by omega)]
          exact hm2.2
        · rw [z_ne (by omega)]
          exact Int.le_trans (hJ.2 r (by omega) hr4 q.1) hm2.1
      · rw [if_neg q]
        refine ⟨zJq_m hJ.1 hm2.1, fun r hr hr4 h7 => Int.le_trans (hJ.2 r ?_ hr4 h7) hm2.1⟩
        by_cases t : m < 4
        · exact absurd ⟨h7, t⟩ q
        · omega
    unfold pRoads
    split
    · have hb : (if m = 4 then pAlso 3 (nI (pWh k a.1)) a else a).2.2.2.2 = a.2.2.2.2 := by
        split
        · exact pAlso_a
        · rfl
      have hy := hx _ hb
      refine zIq_roads i _ _ _ (by split <;> omega) ?_ ?_ hy.1 hy.2
      · split
        · rw [z_ne (by omega)]; exact e
        · exact e
      · split
        · rw [z_ne (by omega)]; exact e0
        · exact e0
    · exact ⟨⟨e, e0, hm⟩, h, hJ⟩
/-- what holds of a land's row while it is read -/
def zKv (f : Nat → Int32) (fa : Int32) : Prop := zIq (f 1) fa ∧ zJq f fa ∧ 0 ≤ (f 0).toInt ∧ (f 0).toInt ≤ 7
theorem zKv_other {d : Nat} {w : Int32} {f : Nat → Int32} (h : zKv f a.2.2.2.2) : zKv (pOther k d w a f).2 (pOther k d w a f).1.2.2.2.2 := by
  obtain ⟨hI, hJ, h0⟩ := h
  unfold pOther
  split
  · exact ⟨hI, hJ, h0⟩
  · split
    · have hb : (pDB 7 w f a).2.2.2.2 = a.2.2.2.2 := by
        unfold pDB
        split
        · exact pAlso_a
        · rfl
      obtain ⟨⟨r1, r2, r3⟩, r4, r5, r6⟩ := zIq_roads (k := k) 601 0 (pDB 7 w f a) f (by decide) rfl rfl (by rw [hb]; exact hI) ⟨by rw [hb]; exact hJ, fun r hr _ _ => absurd hr (Nat.not_lt_zero r)⟩
      show zKv (if 7 ≤ (f 0).toInt then (pRoads k 601 0 (pDB 7 w f a) f).2.2 else upd (upd (pRoads k 601 0 (pDB 7 w f a) f).2.2 (2 + ((pRoads k 601 0 (pDB 7 w f a) f).2.2 0).toInt.toNat) (nI (pRoads k 601 0 (pDB 7 w f a) f).1)) 0 ((pRoads k 601 0 (pDB 7 w f a) f).2.2 0 + 1)) (pRoads k 601 0 (pDB 7 w f a) f).2.1.2.2.2.2
      revert r1 r2 r3 r4 r5 r6
      generalize (pRoads k 601 0 (pDB 7 w f a) f).2.2 = g
      generalize (pRoads k 601 0 (pDB 7 w f a) f).2.1.2.2.2.2 = fb
      generalize (pRoads k 601 0 (pDB 7 w f a) f).1 = m
      intro r1 r2 r3 r4 r5 r6
      split
      · exact ⟨by rw [r1]; exact r4, r5, by rw [r2]; exact h0⟩
      · have e1 : (g 0 + 1).toInt = (g 0).toInt + 1 := z_iaddI (by rw [r2]; show -2147483648 ≤ (f 0).toInt + 1; omega) (by rw [r2]; show (f 0).toInt + 1 < 2147483648; omega)
        rw [r2] at e1 ⊢
        refine ⟨?_, zJq_o ?_ (by decide) (by decide), ?_⟩
        · rw [z_ne (by omega), z_ne (by omega), r1]; exact r4
        · intro c r hc hr hq
          by_cases t : c = (f 0).toInt.toNat
          · rw [z_ne (by omega)]
            rw [z_eq (by omega)] at hq
            have em := nI_toInt (n := m) (by omega)
            have x := r6 r (by omega) hr (by rw [r2]; omega)
            rw [r2, ← t] at x
            exact x
          · rw [z_ne (by omega)] at hq
            rw [z_ne (by omega)]
            exact r5 c r hc hr hq
        · rw [z_eq rfl, e1]
          omega
    · split
      · have b := pNum_b (k := k) (a := a)
        have t := zIq_t hI b
        rw [← pCr_a] at t
        have hm2 := pCr_m (k := k) (a := a)
        show zKv (upd f 1 (f 1 ||| ((1 : Int32) <<< ((pCr k a).1 &&& 31)))) (pCr k a).2.2.2.2.2
        exact ⟨by rw [z_eq rfl]; exact t, zJq_o (zJq_m hJ hm2.1) (by decide) (by decide), by rw [z_ne (by decide)]; exact h0⟩
      · have t := zIq_cr (k := k) hI
        have hm2 := pCr_m (k := k) (a := a)
        have b : 0 ≤ (pCr k a).1.toInt ∧ (pCr k a).1.toInt ≤ 6 := pNum_b (k := k) (a := a)
        show zKv (upd f ((if d = 2 then 9 else 16) + (pCr k a).1.toInt.toNat) (pNum k 0 (if d = 2 then 3 else 9) (pCr k a).2).1) (pNum k 0 (if d = 2 then 3 else 9) (pCr k a).2).2.2.2.2.2
        rw [pNum_a]
        have e : (if d = 2 then 9 else 16) = 9 ∨ (if d = 2 then 9 else 16) = 16 := by
          split
          · exact Or.inl rfl
          · exact Or.inr rfl
        exact ⟨by rw [z_ne (by omega)]; exact t, zJq_o (zJq_m hJ hm2.1) (by omega) (by omega), by rw [z_ne (by omega)]; exact h0⟩
theorem zKv_land {f : Nat → Int32} (h : zKv f a.2.2.2.2) : zKv (pLand k a f).2 (pLand k a f).1.2.2.2.2 := by
  show zKv _ (pEndL k _).2.2.2.2
  rw [pEndL_aa]
  exact zKv_other (by rw [pWord_a]; exact h)
theorem zKv_lines : ∀ (i : Nat) (a : pS) (f : Nat → Int32), zKv f a.2.2.2.2 → zKv (pLines k 0 i a f).2 (pLines k 0 i a f).1.2.2.2.2
  | 0, a, f, h => h
  | i + 1, a, f, h => by
    unfold pLines
    split
    · refine zKv_lines i _ _ ?_
      rw [show pLine k 0 a f = pLand k a f from if_pos rfl]
      exact zKv_land h
    · exact h
theorem zKv_0 : zKv (fun _ => 0) (-1) := ⟨zIq_0, fun c r _ _ hq => absurd hq (by show ¬ (r : Int) < (0 : Int32).toInt; have : (0 : Int32).toInt = 0 := rfl; omega), by decide⟩
end PFA
theorem pRead_V {k : pT} {n : Nat} (h : (pRead k n 0).1.2.2.1.toInt = 0) : zVR (pRead k n 0).2 := by
  have hb : pBk (pLines k 0 601 (0, 0, 0, -1, -1) (fun _ => 0)).1 := pBk_lines 601 _ _ (fun q => absurd rfl q)
  have hi : zKv (pLines k 0 601 (0, 0, 0, -1, -1) (fun _ => 0)).2 (pLines k 0 601 (0, 0, 0, -1, -1) (fun _ => 0)).1.2.2.2.2 := zKv_lines 601 _ _ zKv_0
  have h : (pF5 n 0 (pF4 n 0 (pLines k 0 601 (0, 0, 0, -1, -1) (fun _ => 0)).1 (pLines k 0 601 (0, 0, 0, -1, -1) (fun _ => 0)).2) (pLines k 0 601 (0, 0, 0, -1, -1) (fun _ => 0)).2).2.2.1.toInt = 0 := h
  show zVR (pLines k 0 601 (0, 0, 0, -1, -1) (fun _ => 0)).2
  revert hb hi h
  generalize (pLines k 0 601 (0, 0, 0, -1, -1) (fun _ => 0)).1 = a
  generalize (pLines k 0 601 (0, 0, 0, -1, -1) (fun _ => 0)).2 = f
  intro hb hi h
  have hb4 : pBk (pF4 n 0 a f) := by
    unfold pF4
    split
    · exact pBk_also hb
    · exact hb
  have h4 : (pF4 n 0 a f).2.2.1.toInt = 0 ∧ pPosts f = true := by
    revert hb4 h
    generalize pF4 n 0 a f = b
    intro h hb4
    by_cases hq : b.2.2.1.toInt = 0
    · refine ⟨hq, ?_⟩
      by_cases hp : pPosts f = true
      · exact hp
      · exfalso
        unfold pF5 at h
        rw [if_pos ⟨rfl, hq, Bool.eq_false_iff.mpr hp⟩] at h
        unfold pAlso at h
        by_cases hc : b.2.1.toInt = 0
        · rw [if_neg (fun z => z.elim (fun z => z hc) (fun z => z.1 hq))] at h
          exact absurd (show (5 : Int32).toInt = 0 from h) (by decide)
        · exact hb4 hc hq
    · exfalso
      unfold pF5 at h
      rw [if_neg (fun z => hq z.2.1)] at h
      exact hq h
  have h5 := h4.1
  unfold pF4 at h5
  have ha : a.2.2.1.toInt = 0 := by
    by_cases hq : a.2.2.1.toInt = 0
    · exact hq
    · rw [if_neg (fun z => hq z.2.1)] at h5
      exact h5
  have hf : ¬ (f 0).toInt ≤ a.2.2.2.2.toInt := fun q => by
    rw [if_pos ⟨rfl, ha, q⟩] at h5
    unfold pAlso at h5
    by_cases hc2 : a.2.1.toInt = 0
    · rw [if_neg (fun z => z.elim (fun z => z hc2) (fun z => z.1 ha))] at h5
      exact absurd (show (4 : Int32).toInt = 0 from h5) (by decide)
    · exact hb hc2 ha
  obtain ⟨⟨t, ht, e, -, hd⟩, hJ, -⟩ := hi
  intro c hc
  refine ⟨pPosts_t.mp h4.2 c hc, fun hn => ?_, fun r hr hq => ?_⟩
  · rw [e]
    exact zIq_b t ht c hc (hd c (by omega) (by omega))
  · have := hJ c r hc hr hq
    omega
theorem zVA_low {f g : Nat → Int32} (hV : zVA f) (e : ∀ j, 610 ≤ j → g j = f j) : zVA g := fun i q hi hq => zVR_cg (fun j _ => e _ (by omega)) (hV i q hi hq)
theorem zVA_text {k : pT} {n s : Nat} {at_ r : Int32} {f g : Nat → Int32} (hV : zVA f) (hs : s < 3) (F2 : zText (pRead k n s) s at_ f g r) (T2 : ∀ j, 988 ≤ j → g j = f j) : zVA g := by
  have ho : ∀ (a b : Int32) (j : Nat), 7 ≤ j → pHd f a b j = f j := fun a b j hj => by
    unfold pHd
    rw [z_ne (by omega), z_ne (by omega), z_ne (by omega)]
  rcases F2 with ⟨-, -, z⟩ | ⟨-, -, -, z⟩ | ⟨-, y, -, z⟩
  · refine zVA_low hV (fun j hj => ?_)
    by_cases q : j < 988
    · rw [z j q, ho _ _ _ (by omega)]
    · exact T2 j (by omega)
  · refine zVA_low hV (fun j hj => ?_)
    by_cases q : j < 988
    · rw [z j q, ho _ _ _ (by omega)]
    · exact T2 j (by omega)
  · have hc2 : ∀ (G : Nat → Int32) (j : Nat), 7 ≤ j → pCnt s at_ G j = G j := fun G j hj => by
      unfold pCnt
      split
      · exact z_ne (by omega)
      · rfl
    intro i q hi hq
    by_cases e : i = 0
    · by_cases hs0 : s = 0 ∧ (pNr 0 at_ f).toInt.toNat = q
      · obtain ⟨hs0, hn⟩ := hs0
        subst hs0
        refine zVR_cg (fun j hj => ?_) (pRead_V y)
        show g (988 * i + (610 + 51 * q + j)) = (pRead k n 0).2 j
        rw [z _ (by omega), hn]
        unfold pPut
        have hp : pBase 0 q = 610 + 51 * q := rfl
        have hz : pSize 0 = 51 := rfl
        rw [hp, hz, if_pos (by omega)]
        exact congrArg _ (by omega)
      · refine zVR_cg (fun j hj => ?_) (hV i q hi hq)
        show g (988 * i + (610 + 51 * q + j)) = f (988 * i + (610 + 51 * q + j))
        rw [z _ (by omega)]
        have hx : ¬ (pBase s (pNr s at_ f).toInt.toNat ≤ 988 * i + (610 + 51 * q + j) ∧ 988 * i + (610 + 51 * q + j) < pBase s (pNr s at_ f).toInt.toNat + pSize s) := by
          rcases (show s = 0 ∨ s = 1 ∨ s = 2 by omega) with t | t | t
          · subst t
            have hp : pBase 0 (pNr 0 at_ f).toInt.toNat = 610 + 51 * (pNr 0 at_ f).toInt.toNat := rfl
            have hz : pSize 0 = 51 := rfl
            rw [hp, hz]
            have hn : ¬ (pNr 0 at_ f).toInt.toNat = q := fun w => hs0 ⟨rfl, w⟩
            omega
          · subst t
            have hp : pBase 1 (pNr 1 at_ f).toInt.toNat = 712 + 121 * (pNr 1 at_ f).toInt.toNat := rfl
            rw [hp]
            omega
          · subst t
            have hp : pBase 2 (pNr 2 at_ f).toInt.toNat = 954 + 17 * (pNr 2 at_ f).toInt.toNat := rfl
            rw [hp]
            omega
        unfold pPut
        rw [if_neg hx, hc2 _ _ (by omega), ho _ _ _ (by omega)]
    · exact zVR_cg (fun j _ => T2 _ (by omega)) (hV i q hi hq)
theorem zVA_feed {p : Nat} {a b c d e r : Int32} {f g : Nat → Int32} (hV : zVA f) (hp6 : p ≤ 600) (F2 : 580 < p ∧ r = -1 ∧ g = f ∨ p ≤ 580 ∧ r = nI (p + 20) ∧ zFeedR p a b c d e f g) : zVA g := by
  rcases F2 with ⟨-, -, y⟩ | ⟨hp5, -, y⟩
  · rw [y]; exact hV
  · obtain ⟨-, -, z3⟩ := y
    exact zVA_low hV (fun j hj => z3 j (by omega) (by omega))
theorem zVA_end {n r : Int32} {f g : Nat → Int32} (hV : zVA f) (F2 : (n.toInt < 0 ∨ (f 4).toInt < n.toInt) ∧ r.toInt = -1 ∧ g = f ∨ (0 ≤ n.toInt ∧ n.toInt ≤ (f 4).toInt) ∧ g = upd f 4 n ∧ r = n) : zVA g := by
  rcases F2 with ⟨-, -, y⟩ | ⟨-, y, -⟩
  · rw [y]; exact hV
  · rw [y]; exact zVA_low hV (fun j hj => z_ne (by omega))
theorem zVA_hd {f g : Nat → Int32} (hV : zVA f) (hg : g = upd (upd (upd f 4 0) 5 0) 6 (-1)) : zVA g := by
  rw [hg]
  exact zVA_low hV (fun j hj => by rw [z_ne (by omega), z_ne (by omega), z_ne (by omega)])
theorem zVA_img {f g : Nat → Int32} {k : Nat} (hk : k < 3) (hV : zVA f) (c1 : ∀ j, j < 988 → g (988 * (k + 1) + j) = f j) (c2 : ∀ j, (j < 988 * (k + 1) ∨ 988 * (k + 1) + 988 ≤ j) → g j = f j) : zVA g := by
  intro i q hi hq
  by_cases e : i = k + 1
  · subst e
    exact zVR_cg (fun j _ => (c1 _ (by omega)).trans (congrArg f (by omega))) (hV 0 q (by decide) hq)
  · have : i < k + 1 ∨ k + 1 < i := by omega
    exact zVR_cg (fun j _ => c2 _ (by omega)) (hV i q hi hq)
theorem zVA_ag {K : Nat} {x r' : Int32} {fh f g : Nat → Int32} (hV : zVA f) (hx : x.toInt = (K : Int)) (hK : K < 3) (F2 : r' = 0 ∧ (x.toInt < 0 ∨ 3 ≤ x.toInt ∨ fh x.toNatClampNeg = 0) ∧ g = f ∨ r' = 1 ∧ (0 ≤ x.toInt ∧ x.toInt < 3) ∧ ¬ fh x.toNatClampNeg = 0 ∧ (∀ j, j < 988 → g j = f (988 * (x.toNatClampNeg + 1) + j)) ∧ ∀ j, 988 ≤ j → g j = f j) : zVA g := by
  have e : x.toNatClampNeg = K := by have := z_clI (x := x) (by omega); omega
  rw [e] at F2
  rcases F2 with ⟨-, -, z⟩ | ⟨-, -, -, z, z2⟩
  · rw [z]; exact hV
  · intro i q hi hq
    by_cases e : i = 0
    · exact zVR_cg (fun j _ => (z _ (by omega)).trans (congrArg f (by omega))) (hV (K + 1) q (by omega) hq)
    · exact zVR_cg (fun j _ => z2 _ (by omega)) (hV i q hi hq)
theorem zBit_z (y : Int32) : zBit 0 y = 0 := by
  unfold zBit
  rw [Int32.zero_shiftRight]
  rfl
theorem zVR_z {R : Nat → Int32} (h : ∀ j, j < 51 → R j = 0) : zVR R := by
  intro c hc
  rw [h _ (by omega), h _ (by omega), h _ (by omega), h _ (by omega)]
  exact ⟨Or.inl rfl, fun _ => zBit_z _, fun r _ hq => absurd hq (by show ¬ (r : Int) < (0 : Int32).toInt; have : (0 : Int32).toInt = 0 := rfl; omega)⟩
theorem zVA_st : zVA (upd (fun _ => 0) 6 (-1)) := fun i q _ _ => zVR_z (fun j _ => if_neg (by omega))
theorem zS10 {w : Int32} : (w - 10).toInt = w.toInt - 10 ∨ (w.toInt < 10 ∧ 2000000000 ≤ (w - 10).toInt) := by
  have e10 : (10 : Int32).toInt = 10 := rfl
  have hl := Int32.le_toInt w
  have hu := Int32.toInt_lt w
  by_cases h : -2147483648 ≤ w.toInt - 10
  · exact Or.inl ((z_isubI (x := w) (y := 10) (by rw [e10]; omega) (by rw [e10]; omega)).trans (by rw [e10]))
  · right
    refine ⟨by omega, ?_⟩
    have t : (w.toInt - 10).bmod (2 ^ 32) = (w.toInt - 10 + 4294967296).bmod (2 ^ 32) := (Int.add_bmod_right (w.toInt - 10) (2 ^ 32)).symm
    rw [Int32.toInt_sub, e10, t, z_bmod (by omega) (by omega)]
    omega
abbrev zHas (cr x : Int32) : Prop := 0 ≤ x.toInt ∧ x.toInt < cr.toInt ∧ x.toInt < 7
/-- roads lead to crossings that are there -/
def zLq (cr : Int32) (k1 k2 : Nat → Int32) : Prop := ∀ j r : Nat, j < 7 → r < 4 → (r : Int) < (k1 j).toInt → 0 ≤ (k2 (4 * j + r)).toInt ∧ (k2 (4 * j + r)).toInt < cr.toInt
theorem zLq_e {cr inn z : Int32} {k1 k2 k3 k4 f : Nat → Int32} {B : Nat} (h : zLnd cr inn k1 k2 k3 k4 (fun j => f (B + j))) (hF : zLF (fun j => f (B + j))) (hz : z.toInt.toNat = B) (hV : zVR (fun j => f (z.toInt.toNat + j))) : zLq cr k1 k2 := by
  obtain ⟨ha, -, -, hd, -, hr⟩ := h
  rw [hz] at hV
  intro j r hj hr4 hq
  have e := hr j r hj hr4 hq
  have e : k2 (4 * j + r) = f (B + (23 + 4 * j + r)) := e
  have b : 0 ≤ (f (B + (23 + (4 * j + r)))).toInt := (hF.2.2 (4 * j + r) (by omega)).1
  have d : k1 j = f (B + (2 + j)) := (hd j hj).1
  have v : (r : Int) < (f (B + (2 + j))).toInt → (f (B + (23 + 4 * j + r))).toInt < (f (B + 0)).toInt := (hV j hj).2.2 r hr4
  have ha : cr = f (B + 0) := ha
  rw [e, ha]
  rw [show B + (23 + (4 * j + r)) = B + (23 + 4 * j + r) by omega] at b
  exact ⟨b, v (by rw [← d]; exact hq)⟩
theorem zInc1 (i : Nat) : nI i + 1 = nI (i + 1) := z_inc i 1
def zDR (R : Nat → Int32) : Prop := ∀ j : Nat, (j : Int) < (R 0).toInt → (0 ≤ (R (1 + 3 * j)).toInt ∧ (R (1 + 3 * j)).toInt ≤ 5) ∧ (4 ≤ (R (1 + 3 * j)).toInt → 0 ≤ (R (3 + 3 * j)).toInt ∧ (R (3 + 3 * j)).toInt ≤ 3)
theorem zDR_cg {R R' : Nat → Int32} (e : ∀ j, j < 121 → R' j = R j) (h0 : (R 0).toInt ≤ 40) (h : zDR R) : zDR R' := by
  intro j hj
  rw [e 0 (by decide)] at hj
  rw [e _ (by omega), e _ (by omega)]
  exact h j hj
section PZ
variable {k : pT} {a : pS}
theorem pEnds_z (h : pBk a) : ¬ (pEnds k a).2.2.1.toInt = 0 := by
  unfold pEnds
  split
  · show ¬ (1 : Int32).toInt = 0
    decide
  · rename_i q
    exact h q
theorem pAlso_zz {kd w : Int32} (h : pBk a) (hk : ¬ kd.toInt = 0) : ¬ (pAlso kd w a).2.2.1.toInt = 0 := by
  unfold pAlso
  split
  · rename_i q
    intro z
    rcases q with q | q
    · exact h q z
    · exact q.1 z
  · exact hk
theorem pNum_z {lo hi : Int32} (h : pBk a) (q : (pNum k lo hi a).2.2.2.1.toInt = 0) : a.2.2.1.toInt = 0 ∧ lo.toInt ≤ (pNum k lo hi a).1.toInt ∧ (pNum k lo hi a).1.toInt ≤ hi.toInt := by
  unfold pNum at q ⊢
  split at q
  · exact absurd q (pEnds_z h)
  · split at q
    · rename_i c1 c2
      rw [if_neg c1, if_pos c2]
      exact ⟨q, c2.1, c2.2⟩
    · exact absurd q (pAlso_zz (kd := 2) (w := nI (pWh k a.1)) h (by decide))
theorem pWord_z {lo hi : Nat} (h : pBk a) (q : (pWord k lo hi a).2.2.2.1.toInt = 0) : a.2.2.1.toInt = 0 ∧ lo ≤ (pWord k lo hi a).1 ∧ (pWord k lo hi a).1 ≤ hi := by
  unfold pWord at q ⊢
  split at q
  · exact absurd q (pEnds_z h)
  · rename_i c1
    rw [if_neg c1]
    exact ⟨q, by omega⟩
theorem pEndL_z (h : pBk a) (q : (pEndL k a).2.2.1.toInt = 0) : a.2.2.1.toInt = 0 := by
  unfold pEndL at q
  split at q
  · exact q
  · exact absurd q (pEnds_z h)
theorem pDB_z {m : Int} {w : Int32} {f : Nat → Int32} (h : pBk a) (q : (pDB m w f a).2.2.1.toInt = 0) : a.2.2.1.toInt = 0 ∧ (f 0).toInt < m := by
  unfold pDB at q
  split at q
  · exact absurd q (pAlso_zz h (by decide))
  · exact ⟨q, by omega⟩
theorem pBk_dy {d : Nat} (h : pBk a) : pBk (pDY k d a).2 := by
  unfold pDY
  split
  · exact pBk_num h
  · exact h
theorem pBk_day {f : Nat → Int32} (h : pBk a) : pBk (pDay k a f).1 := pBk_endL (pBk_dy (pBk_num (pBk_db (pBk_word h))))
/-- what holds of a day's row while there is no fault -/
def zDJ (a : pS) (f : Nat → Int32) : Prop := a.2.2.1.toInt = 0 → zDR f ∧ 0 ≤ (f 0).toInt ∧ (f 0).toInt ≤ 40
theorem zDJ_day {f : Nat → Int32} (h : pBk a) (hJ : zDJ a f) : zDJ (pDay k a f).1 (pDay k a f).2 := by
  intro q
  have b1 := pBk_word (k := k) (lo := 5) (hi := 10) h
  have b2 := pBk_db (m := 40) (w := nI (pWh k a.1)) (f := f) b1
  have b3 := pBk_num (k := k) (lo := 0) (hi := 6) b2
  have q1 : (pDY k (pWord k 5 10 a).1 (pNum k 0 6 (pDB 40 (nI (pWh k a.1)) f (pWord k 5 10 a).2)).2).2.2.2.1.toInt = 0 := pEndL_z (pBk_dy b3) q
  have q2 : (pNum k 0 6 (pDB 40 (nI (pWh k a.1)) f (pWord k 5 10 a).2)).2.2.2.1.toInt = 0 ∧ (8 < (pWord k 5 10 a).1 → 0 ≤ (pDY k (pWord k 5 10 a).1 (pNum k 0 6 (pDB 40 (nI (pWh k a.1)) f (pWord k 5 10 a).2)).2).1.toInt ∧ (pDY k (pWord k 5 10 a).1 (pNum k 0 6 (pDB 40 (nI (pWh k a.1)) f (pWord k 5 10 a).2)).2).1.toInt ≤ 3) := by
    unfold pDY at q1 ⊢
    by_cases c : 8 < (pWord k 5 10 a).1
    · rw [if_pos c] at q1 ⊢
      have t := pNum_z b3 q1
      exact ⟨t.1, fun _ => ⟨t.2.1, t.2.2⟩⟩
    · rw [if_neg c] at q1
      exact ⟨q1, fun z => absurd z c⟩
  have q3 := pNum_z b2 q2.1
  have q4 := pDB_z b1 q3.1
  have q5 := pWord_z h q4.1
  have hf := hJ q5.1
  have e : (pDay k a f).2 = if (f 0).toInt < 40 then upd (upd (upd (upd f (1 + 3 * (f 0).toInt.toNat) (nI (pWord k 5 10 a).1 - 5)) (2 + 3 * (f 0).toInt.toNat) (pNum k 0 6 (pDB 40 (nI (pWh k a.1)) f (pWord k 5 10 a).2)).1) (3 + 3 * (f 0).toInt.toNat) (pDY k (pWord k 5 10 a).1 (pNum k 0 6 (pDB 40 (nI (pWh k a.1)) f (pWord k 5 10 a).2)).2).1) 0 (f 0 + 1) else f := rfl
  rw [e, if_pos q4.2]
  have e1 : (f 0 + 1).toInt = (f 0).toInt + 1 := (z_iaddI (x := f 0) (y := 1) (by show -2147483648 ≤ (f 0).toInt + 1; omega) (by show (f 0).toInt + 1 < 2147483648; omega))
  have e2 := nI_toInt (n := (pWord k 5 10 a).1) (by omega)
  have e5 : (5 : Int32).toInt = 5 := rfl
  have e3 : (nI (pWord k 5 10 a).1 - 5).toInt = ((pWord k 5 10 a).1 : Int) - 5 := (z_isubI (x := nI (pWord k 5 10 a).1) (y := 5) (by rw [e5, e2]; omega) (by rw [e5, e2]; omega)).trans (by rw [e5, e2])
  refine ⟨fun j hj => ?_, by rw [z_eq rfl, e1]; omega⟩
  rw [z_eq rfl, e1] at hj
  rw [z_ne (show ¬ 1 + 3 * j = 0 by omega), z_ne (show ¬ 1 + 3 * j = 3 + 3 * (f 0).toInt.toNat by omega), z_ne (show ¬ 1 + 3 * j = 2 + 3 * (f 0).toInt.toNat by omega), z_ne (show ¬ 3 + 3 * j = 0 by omega)]
  by_cases t : j = (f 0).toInt.toNat
  · rw [z_eq (show 1 + 3 * j = 1 + 3 * (f 0).toInt.toNat by omega), z_eq (show 3 + 3 * j = 3 + 3 * (f 0).toInt.toNat by omega), e3]
    exact ⟨⟨by omega, by omega⟩, fun z => q2.2 (by omega)⟩
  · rw [z_ne (show ¬ 1 + 3 * j = 1 + 3 * (f 0).toInt.toNat by omega), z_ne (show ¬ 3 + 3 * j = 3 + 3 * (f 0).toInt.toNat by omega), z_ne (show ¬ 3 + 3 * j = 2 + 3 * (f 0).toInt.toNat by omega), z_ne (show ¬ 3 + 3 * j = 1 + 3 * (f 0).toInt.toNat by omega)]
    exact hf.1 j (by omega)
theorem zDJ_lines : ∀ (i : Nat) (a : pS) (f : Nat → Int32), pBk a → zDJ a f → zDJ (pLines k 1 i a f).1 (pLines k 1 i a f).2
  | 0, a, f, _, h => h
  | i + 1, a, f, hb, h => by
    unfold pLines
    split
    · have e : pLine k 1 a f = pDay k a f := by
        unfold pLine
        rw [if_neg (by decide), if_pos rfl]
      refine zDJ_lines i _ _ ?_ ?_
      · rw [e]; exact pBk_day hb
      · rw [e]; exact zDJ_day hb h
    · exact h
end PZ
theorem pRead_D {k : pT} {n : Nat} (h : (pRead k n 1).1.2.2.1.toInt = 0) : zDR (pRead k n 1).2 ∧ (((pRead k n 1).2 0).toInt ≤ 40) := by
  have hJ : zDJ (pLines k 1 601 (0, 0, 0, -1, -1) (fun _ => 0)).1 (pLines k 1 601 (0, 0, 0, -1, -1) (fun _ => 0)).2 := zDJ_lines 601 _ _ (fun q => absurd rfl q) (fun _ => ⟨fun j hj => absurd hj (by show ¬ (j : Int) < (0 : Int32).toInt; have : (0 : Int32).toInt = 0 := rfl; omega), by decide⟩)
  have e4 : ∀ (a : pS) (f : Nat → Int32), pF4 n 1 a f = a := fun a f => by
    unfold pF4
    rw [if_neg (fun z => absurd z.1 (by decide))]
  have e5 : ∀ (a : pS) (f : Nat → Int32), pF5 n 1 a f = a := fun a f => by
    unfold pF5
    rw [if_neg (fun z => absurd z.1 (by decide))]
  have h : (pF5 n 1 (pF4 n 1 (pLines k 1 601 (0, 0, 0, -1, -1) (fun _ => 0)).1 (pLines k 1 601 (0, 0, 0, -1, -1) (fun _ => 0)).2) (pLines k 1 601 (0, 0, 0, -1, -1) (fun _ => 0)).2).2.2.1.toInt = 0 := h
  rw [e4, e5] at h
  exact ⟨(hJ h).1, (hJ h).2.2⟩
/-- so of each day that is kept -/
def zVD (f : Nat → Int32) : Prop := ∀ i k, i < 4 → k < 2 → zDR (fun j => f (988 * i + (712 + 121 * k + j))) ∧ (f (988 * i + (712 + 121 * k))).toInt ≤ 40
theorem zVD_c {f g : Nat → Int32} {a b : Nat} (e : ∀ j, j < 121 → g (b + j) = f (a + j)) (h : zDR (fun j => f (a + j)) ∧ (f a).toInt ≤ 40) : zDR (fun j => g (b + j)) ∧ (g b).toInt ≤ 40 := by
  have e0 := e 0 (by decide)
  refine ⟨zDR_cg (R := fun j => f (a + j)) e h.2 h.1, ?_⟩
  have e0 : g b = f a := e0
  rw [e0]
  exact h.2
theorem zVD_low {f g : Nat → Int32} (hV : zVD f) (e : ∀ j, 610 ≤ j → g j = f j) : zVD g := fun i q hi hq => by
  have h := hV i q hi hq
  have a : ∀ (G : Nat → Int32), (zDR (fun j => G (988 * i + (712 + 121 * q + j))) ∧ (G (988 * i + (712 + 121 * q))).toInt ≤ 40) = (zDR (fun j => G (988 * i + (712 + 121 * q) + j)) ∧ (G (988 * i + (712 + 121 * q))).toInt ≤ 40) := fun G => by
    rw [show (fun j => G (988 * i + (712 + 121 * q + j))) = (fun j => G (988 * i + (712 + 121 * q) + j)) from funext fun j => congrArg G (by omega)]
  rw [a] at h ⊢
  exact zVD_c (fun j _ => e _ (by omega)) h
theorem zVD_a {f : Nat → Int32} (b q : Nat) : (zDR (fun j => f (b + (712 + 121 * q + j))) ∧ (f (b + (712 + 121 * q))).toInt ≤ 40) = (zDR (fun j => f (b + (712 + 121 * q) + j)) ∧ (f (b + (712 + 121 * q))).toInt ≤ 40) := by
  rw [show (fun j => f (b + (712 + 121 * q + j))) = (fun j => f (b + (712 + 121 * q) + j)) from funext fun j => congrArg f (by omega)]
theorem zVD_to {f g : Nat → Int32} {a b q : Nat} (e : ∀ j, j < 121 → g (b + (712 + 121 * q) + j) = f (a + (712 + 121 * q) + j)) (h : zDR (fun j => f (a + (712 + 121 * q + j))) ∧ (f (a + (712 + 121 * q))).toInt ≤ 40) : zDR (fun j => g (b + (712 + 121 * q + j))) ∧ (g (b + (712 + 121 * q))).toInt ≤ 40 := by
  rw [zVD_a] at h ⊢
  exact zVD_c e h
theorem pNr_lt {s : Nat} {at_ : Int32} {f : Nat → Int32} (h : pOkAt s at_ f) (h2 : (f s).toInt ≤ 2) : (pNr s at_ f).toInt.toNat < 2 := by
  unfold pOkAt at h
  unfold pNr
  by_cases q : at_.toInt = -1
  · rw [if_pos q] at h ⊢
    omega
  · rw [if_neg q] at h ⊢
    omega
theorem zVD_text {k : pT} {n s : Nat} {at_ r : Int32} {f g : Nat → Int32} (hV : zVD f) (hs : s < 3) (h2 : ∀ q, q < 3 → (f q).toInt ≤ 2) (F2 : zText (pRead k n s) s at_ f g r) (T2 : ∀ j, 988 ≤ j → g j = f j) : zVD g := by
  have ho : ∀ (a b : Int32) (j : Nat), 7 ≤ j → pHd f a b j = f j := fun a b j hj => by
    unfold pHd
    rw [z_ne (by omega), z_ne (by omega), z_ne (by omega)]
  rcases F2 with ⟨-, -, z⟩ | ⟨-, -, -, z⟩ | ⟨w, y, -, z⟩
  · refine zVD_low hV (fun j hj => ?_)
    by_cases q : j < 988
    · rw [z j q, ho _ _ _ (by omega)]
    · exact T2 j (by omega)
  · refine zVD_low hV (fun j hj => ?_)
    by_cases q : j < 988
    · rw [z j q, ho _ _ _ (by omega)]
    · exact T2 j (by omega)
  · have hc2 : ∀ (G : Nat → Int32) (j : Nat), 7 ≤ j → pCnt s at_ G j = G j := fun G j hj => by
      unfold pCnt
      split
      · exact z_ne (by omega)
      · rfl
    intro i q hi hq
    by_cases e : i = 0
    · by_cases hs0 : s = 1 ∧ (pNr 1 at_ f).toInt.toNat = q
      · obtain ⟨hs0, hn⟩ := hs0
        subst hs0
        have t := pRead_D y
        have hg : ∀ j, j < 121 → g (988 * i + (712 + 121 * q) + j) = (pRead k n 1).2 j := fun j hj => by
          rw [z _ (by omega), hn]
          unfold pPut
          have hp : pBase 1 q = 712 + 121 * q := rfl
          have hz : pSize 1 = 121 := rfl
          rw [hp, hz, if_pos (by omega)]
          exact congrArg _ (by omega)
        rw [zVD_a]
        refine ⟨zDR_cg hg t.2 t.1, ?_⟩
        have h0 : g (988 * i + (712 + 121 * q)) = (pRead k n 1).2 0 := hg 0 (by decide)
        rw [h0]
        exact t.2
      · refine zVD_to (fun j hj => ?_) (hV i q hi hq)
        rw [z _ (by omega)]
        have hx : ¬ (pBase s (pNr s at_ f).toInt.toNat ≤ 988 * i + (712 + 121 * q) + j ∧ 988 * i + (712 + 121 * q) + j < pBase s (pNr s at_ f).toInt.toNat + pSize s) := by
          rcases (show s = 0 ∨ s = 1 ∨ s = 2 by omega) with t | t | t
          · subst t
            have hp : pBase 0 (pNr 0 at_ f).toInt.toNat = 610 + 51 * (pNr 0 at_ f).toInt.toNat := rfl
            have hz : pSize 0 = 51 := rfl
            have hb := pNr_lt w (h2 0 (by decide))
            rw [hp, hz]
            omega
          · subst t
            have hp : pBase 1 (pNr 1 at_ f).toInt.toNat = 712 + 121 * (pNr 1 at_ f).toInt.toNat := rfl
            have hz : pSize 1 = 121 := rfl
            rw [hp, hz]
            have hn : ¬ (pNr 1 at_ f).toInt.toNat = q := fun w => hs0 ⟨rfl, w⟩
            omega
          · subst t
            have hp : pBase 2 (pNr 2 at_ f).toInt.toNat = 954 + 17 * (pNr 2 at_ f).toInt.toNat := rfl
            rw [hp]
            omega
        unfold pPut
        rw [if_neg hx, hc2 _ _ (by omega), ho _ _ _ (by omega)]
    · exact zVD_to (fun j _ => T2 _ (by omega)) (hV i q hi hq)
theorem zVD_feed {p : Nat} {a b c d e r : Int32} {f g : Nat → Int32} (hV : zVD f) (hp6 : p ≤ 600) (F2 : 580 < p ∧ r = -1 ∧ g = f ∨ p ≤ 580 ∧ r = nI (p + 20) ∧ zFeedR p a b c d e f g) : zVD g := by
  rcases F2 with ⟨-, -, y⟩ | ⟨hp5, -, y⟩
  · rw [y]; exact hV
  · obtain ⟨-, -, z3⟩ := y
    exact zVD_low hV (fun j hj => z3 j (by omega) (by omega))
theorem zVD_end {n r : Int32} {f g : Nat → Int32} (hV : zVD f) (F2 : (n.toInt < 0 ∨ (f 4).toInt < n.toInt) ∧ r.toInt = -1 ∧ g = f ∨ (0 ≤ n.toInt ∧ n.toInt ≤ (f 4).toInt) ∧ g = upd f 4 n ∧ r = n) : zVD g := by
  rcases F2 with ⟨-, -, y⟩ | ⟨-, y, -⟩
  · rw [y]; exact hV
  · rw [y]; exact zVD_low hV (fun j hj => z_ne (by omega))
theorem zVD_hd {f g : Nat → Int32} (hV : zVD f) (hg : g = upd (upd (upd f 4 0) 5 0) 6 (-1)) : zVD g := by
  rw [hg]
  exact zVD_low hV (fun j hj => by rw [z_ne (by omega), z_ne (by omega), z_ne (by omega)])
theorem zVD_img {f g : Nat → Int32} {k : Nat} (hk : k < 3) (hV : zVD f) (c1 : ∀ j, j < 988 → g (988 * (k + 1) + j) = f j) (c2 : ∀ j, (j < 988 * (k + 1) ∨ 988 * (k + 1) + 988 ≤ j) → g j = f j) : zVD g := by
  intro i q hi hq
  by_cases e : i = k + 1
  · subst e
    refine zVD_to (a := 988 * 0) (fun j hj => ?_) (hV 0 q (by decide) hq)
    rw [show 988 * (k + 1) + (712 + 121 * q) + j = 988 * (k + 1) + (712 + 121 * q + j) by omega, c1 _ (by omega)]
    exact congrArg f (by omega)
  · have : i < k + 1 ∨ k + 1 < i := by omega
    exact zVD_to (fun j _ => c2 _ (by omega)) (hV i q hi hq)
theorem zVD_ag {K : Nat} {x r' : Int32} {fh f g : Nat → Int32} (hV : zVD f) (hx : x.toInt = (K : Int)) (hK : K < 3) (F2 : r' = 0 ∧ (x.toInt < 0 ∨ 3 ≤ x.toInt ∨ fh x.toNatClampNeg = 0) ∧ g = f ∨ r' = 1 ∧ (0 ≤ x.toInt ∧ x.toInt < 3) ∧ ¬ fh x.toNatClampNeg = 0 ∧ (∀ j, j < 988 → g j = f (988 * (x.toNatClampNeg + 1) + j)) ∧ ∀ j, 988 ≤ j → g j = f j) : zVD g := by
  have e : x.toNatClampNeg = K := by have := z_clI (x := x) (by omega); omega
  rw [e] at F2
  rcases F2 with ⟨-, -, z⟩ | ⟨-, -, -, z, z2⟩
  · rw [z]; exact hV
  · intro i q hi hq
    by_cases e : i = 0
    · refine zVD_to (a := 988 * (K + 1)) (fun j hj => ?_) (hV (K + 1) q (by omega) hq)
      rw [z _ (by omega)]
      exact congrArg f (by omega)
    · exact zVD_to (fun j _ => z2 _ (by omega)) (hV i q hi hq)
theorem zVD_st : zVD (upd (fun _ => 0) 6 (-1)) := fun i q _ _ => by
  have o : ∀ j, ¬ j = 6 → upd (fun _ => (0 : Int32)) 6 (-1) j = 0 := fun j h => if_neg h
  have z0 : (0 : Int32).toInt = 0 := rfl
  refine ⟨fun j hj => ?_, by rw [o _ (by omega), z0]; decide⟩
  have hj : (j : Int) < (upd (fun _ => (0 : Int32)) 6 (-1) (988 * i + (712 + 121 * q + 0))).toInt := hj
  rw [o _ (by omega), z0] at hj
  omega
/-- posts at a crossing without ways out stay; all stay in their bounds -/
theorem zPost_z {f1 f2 f3 : Nat → Int32} {x : Int32} {j : Nat} (hI : zP3 f1 f3) (h : f3 j = 0) : zPost f1 f2 f3 x j = f1 j := by
  unfold zPost
  by_cases q : zTurn f1 f2 f3 x = -1
  · rw [if_pos q]
  · rw [if_neg q]
    have g := (zTurn_lt (f2 := f2) hI x).resolve_left q
    refine z_ne (fun e => ?_)
    rw [← e, h] at g
    have z0 : (0 : Int32).toInt = 0 := rfl
    omega
theorem zRunN_z {f2 f3 lf : Nat → Int32} {j : Nat} (h : f3 j = 0) : ∀ (n : Nat) (f : Nat → Int32) (x : Int32) (k : Nat), zP3 f f3 → (zRunN f2 f3 lf n f x k).1 j = f j
  | 0, f, x, k, _ => rfl
  | n + 1, f, x, k, hI => by
    unfold zRunN
    by_cases q : zStep f f2 f3 lf x = -1
    · rw [if_pos q]
      exact zPost_z hI h
    · rw [if_neg q, zRunN_z h n _ _ _ (zPost_I hI x)]
      exact zPost_z hI h
section ZL2
variable {p : Program} {l : Launch} {e : Env} {R : Room} {s : State} {m : MethodId} {args : Array Value} {below : List Frame} {meth : Method} {c : Code} {Q : State → Prop}
variable {nL : Nat} {T : zTy} {A : Nat → Prop} {H0 : Heap}
theorem z_loopR {α : Type} (pc : Nat) (Wd : α → List va_W) (Lv : α → List (Nat × Value)) (Cl Sl : α → Nat) (Inv : α → Prop) (mu : α → Nat)
    (step : ∀ a : α, Inv a → (∀ b : α, Inv b → mu b < mu a → ∀ (H : Heap) (locs : List Loc) (ls : Array Slot), zS T A H0 s (Wd b) H locs → lv_has ls nL (Lv b) → W p l e R s m args below meth c H locs (Cl b) (Sl b) Q (F0 m pc ls [])) → ∀ (H : Heap) (locs : List Loc) (ls : Array Slot), zS T A H0 s (Wd a) H locs → lv_has ls nL (Lv a) → W p l e R s m args below meth c H locs (Cl a) (Sl a) Q (F0 m pc ls []))
    (a : α) (ha : Inv a) {H : Heap} {locs : List Loc} {ls : Array Slot} (G : zS T A H0 s (Wd a) H locs) (hl : lv_has ls nL (Lv a)) : W p l e R s m args below meth c H locs (Cl a) (Sl a) Q (F0 m pc ls []) := by
  have key : ∀ (n : Nat) (a : α), mu a < n → Inv a → ∀ (H : Heap) (locs : List Loc) (ls : Array Slot), zS T A H0 s (Wd a) H locs → lv_has ls nL (Lv a) → W p l e R s m args below meth c H locs (Cl a) (Sl a) Q (F0 m pc ls []) := by
    intro n
    induction n with
    | zero => intro a h; exact absurd h (Nat.not_lt_zero _)
    | succ n ih => intro a h ha; exact step a ha (fun b hb hlt => ih b (by omega) hb)
  exact key (mu a + 1) a (Nat.lt_succ_self _) ha H locs ls G hl
end ZL2
def zAI (f : Nat → Int32) : Prop := ∀ i, i < 4 → zBI (fun j => f (988 * i + j))
abbrev zHs (fm fh : Nat → Int32) : Prop := ∀ k, k < 3 → (fm k = 0 ↔ fh k = 0)
abbrev zIn6 (x : Int32) : Prop := 0 ≤ x.toInt ∧ x.toInt ≤ 600
theorem zBI_cg {f g : Nat → Int32} (e : ∀ j, j < 988 → g j = f j) (h : zBI f) : zBI g :=
  ⟨by rw [e 4 (by decide)]; exact h.1, fun q hq => by rw [e q (by omega)]; exact h.2.1 q hq, fun k hk => zLF_cg (fun j hj => e _ (by omega)) (h.2.2.1 k hk), fun k hk => zCF_cg (e _ (by omega)) (h.2.2.2.1 k hk), fun k hk => zCF_cg (e _ (by omega)) (h.2.2.2.2 k hk)⟩
theorem zAI_0 {f : Nat → Int32} (h : zAI f) : zBI f := zBI_cg (fun j _ => (congrArg f (by omega)).symm) (h 0 (by decide))
theorem zAI_low {f g : Nat → Int32} (h : zAI f) (h0 : zBI g) (ho : ∀ j, 988 ≤ j → g j = f j) : zAI g := by
  intro i hi
  by_cases e : i = 0
  · subst e
    exact zBI_cg (fun j _ => congrArg g (by omega)) h0
  · exact zBI_cg (fun j _ => ho _ (by omega)) (h i hi)
theorem zBI_fd {f g : Nat → Int32} (h : zBI f) (h4 : zIn6 (g 4)) (ho : ∀ j, (j < 10 ∨ 610 ≤ j) → j ≠ 4 → g j = f j) : zBI g :=
  ⟨h4, fun q hq => by rw [ho q (by omega) (by omega)]; exact h.2.1 q hq, fun k hk => zLF_cg (fun j hj => ho _ (by omega) (by omega)) (h.2.2.1 k hk), fun k hk => zCF_cg (ho _ (by omega) (by omega)) (h.2.2.2.1 k hk), fun k hk => zCF_cg (ho _ (by omega) (by omega)) (h.2.2.2.2 k hk)⟩
theorem zHs_upd {fm fh : Nat → Int32} (h : zHs fm fh) (k : Nat) : zHs (upd fm k 1) (upd fh k 1) := by
  intro j hj
  unfold upd
  split
  · exact Iff.rfl
  · exact h j hj
theorem zNA_mono {c : Prop} [Decidable c] {md : Int32} {n : Nat} {cr inn : Int32} {k1 : Nat → Int32} (h : zPw n) : n ≤ zNA c md n (zPl cr inn k1) := by
  unfold zNA zMk zNl
  split
  · split
    · split
      · exact Nat.le_refl _
      · have := zNl_room (pl := zPl cr inn k1) h (zPl_le cr inn k1) (by first | with_reducible assumption | assumption)
        omega
    · exact Nat.le_refl _
  · exact Nat.le_refl _
theorem zFnN_up {wy : Int32} {n : Nat} (hn : n ≤ 16384) (hw : (n : Int) < wy.toInt) : ∀ (f k : Nat), k ≤ 10 → 11 ≤ f + k → n ≤ zFnN wy f (16 * 2 ^ k)
  | 0, k, h, h2 => by omega
  | f + 1, k, h, h2 => by
    rw [zFnN]
    split
    · rename_i q
      have hk : k < 10 := by
        rcases Nat.lt_or_ge k 10 with z | z
        · exact z
        · have e : k = 10 := by omega
          subst e
          exact absurd q.2 (by decide)
      rw [show 2 * (16 * 2 ^ k) = 16 * 2 ^ (k + 1) by rw [Nat.pow_succ]; omega]
      exact zFnN_up hn hw f (k + 1) (by omega) (by omega)
    · rename_i q
      rcases Nat.lt_or_ge 16383 (16 * 2 ^ k) with z | z
      · omega
      · have : ¬ ((16 * 2 ^ k : Nat) : Int) < wy.toInt := fun y => q ⟨y, z⟩
        omega
theorem zNF_mono {c : Prop} [Decidable c] {n : Nat} {wy : Int32} (h : zFw n) : n ≤ zNF c n wy := by
  unfold zNF zFl
  split
  · split
    · exact Nat.le_refl _
    · have e : (16 * 2 ^ 0 : Nat) = 16 := by decide
      have := zFnN_up (wy := wy) (zFw_le h) (by omega) 11 0 (by decide) (by decide)
      rw [e] at this
      exact this
  · exact Nat.le_refl _
theorem zNF_fw {c : Prop} [Decidable c] {n : Nat} {wy : Int32} (h : zFw n) : zFw (zNF c n wy) := by
  unfold zNF
  split
  · exact zFl_pw h
  · exact h
/-! THE LAW'S STEPS, with all that is told kept equal -/
theorem zTR_by {ln : Int32} {fl : Int32} {pl : Int32} {ft : Nat → Int32} {fk : Nat → Int32} {cr_L0 : Int32} {inn_L0 : Int32} {k1_L0 : Nat → Int32} {k2_L0 : Nat → Int32} {k3_L0 : Nat → Int32} {k4_L0 : Nat → Int32} {cr_L1 : Int32} {inn_L1 : Int32} {k1_L1 : Nat → Int32} {k2_L1 : Nat → Int32} {k3_L1 : Nat → Int32} {k4_L1 : Nat → Int32} {dd_D0 : Int32} {p1_D0 : Nat → Int32} {p2_D0 : Nat → Int32} {p3_D0 : Nat → Int32} {dd_D1 : Int32} {p1_D1 : Nat → Int32} {p2_D1 : Nat → Int32} {p3_D1 : Nat → Int32} {gg_G0 : Int32} {q1_G0 : Nat → Int32} {q2_G0 : Nat → Int32} {gg_G1 : Int32} {q1_G1 : Nat → Int32} {q2_G1 : Nat → Int32} {G : Nat → Int32} (h : zTR ln fl pl ft fk cr_L0 inn_L0 k1_L0 k2_L0 k3_L0 k4_L0 cr_L1 inn_L1 k1_L1 k2_L1 k3_L1 k4_L1 dd_D0 p1_D0 p2_D0 p3_D0 dd_D1 p1_D1 p2_D1 p3_D1 gg_G0 q1_G0 q2_G0 gg_G1 q1_G1 q2_G1 G) : ∀ j, j < 600 → 0 ≤ (G (10 + j)).toInt := by
  intro j hj
  rcases (h.1.2.2.2.2 j hj).1 with ⟨e, a⟩ | ⟨-, a⟩
  · rw [e]; exact a
  · omega
theorem zTR_tk {ln : Int32} {fl : Int32} {pl : Int32} {ft : Nat → Int32} {fk : Nat → Int32} {cr_L0 : Int32} {inn_L0 : Int32} {k1_L0 : Nat → Int32} {k2_L0 : Nat → Int32} {k3_L0 : Nat → Int32} {k4_L0 : Nat → Int32} {cr_L1 : Int32} {inn_L1 : Int32} {k1_L1 : Nat → Int32} {k2_L1 : Nat → Int32} {k3_L1 : Nat → Int32} {k4_L1 : Nat → Int32} {dd_D0 : Int32} {p1_D0 : Nat → Int32} {p2_D0 : Nat → Int32} {p3_D0 : Nat → Int32} {dd_D1 : Int32} {p1_D1 : Nat → Int32} {p2_D1 : Nat → Int32} {p3_D1 : Nat → Int32} {gg_G0 : Int32} {q1_G0 : Nat → Int32} {q2_G0 : Nat → Int32} {gg_G1 : Int32} {q1_G1 : Nat → Int32} {q2_G1 : Nat → Int32} {G : Nat → Int32} (h : zTR ln fl pl ft fk cr_L0 inn_L0 k1_L0 k2_L0 k3_L0 k4_L0 cr_L1 inn_L1 k1_L1 k2_L1 k3_L1 k4_L1 dd_D0 p1_D0 p2_D0 p3_D0 dd_D1 p1_D1 p2_D1 p3_D1 gg_G0 q1_G0 q2_G0 gg_G1 q1_G1 q2_G1 G) {n : Nat} (hn : n ≤ 600) : tkT ft n = tkT (fun j => G (10 + j)) n := tkT_cg (fun j hj => (h.1.2.2.2.2 j (by omega)).1)
theorem zAI_at {f : Nat → Int32} (h : zAI f) : zIn6 (f 4) := (zAI_0 h).1
theorem zM_feed {ln : Int32} {fl : Int32} {pl : Int32} {ft : Nat → Int32} {fk : Nat → Int32} {cr_L0 : Int32} {inn_L0 : Int32} {k1_L0 : Nat → Int32} {k2_L0 : Nat → Int32} {k3_L0 : Nat → Int32} {k4_L0 : Nat → Int32} {cr_L1 : Int32} {inn_L1 : Int32} {k1_L1 : Nat → Int32} {k2_L1 : Nat → Int32} {k3_L1 : Nat → Int32} {k4_L1 : Nat → Int32} {dd_D0 : Int32} {p1_D0 : Nat → Int32} {p2_D0 : Nat → Int32} {p3_D0 : Nat → Int32} {dd_D1 : Int32} {p1_D1 : Nat → Int32} {p2_D1 : Nat → Int32} {p3_D1 : Nat → Int32} {gg_G0 : Int32} {q1_G0 : Nat → Int32} {q2_G0 : Nat → Int32} {gg_G1 : Int32} {q1_G1 : Nat → Int32} {q2_G1 : Nat → Int32} {p : Nat} {a b c d e u r r' : Int32} {g g' f : Nat → Int32} (hT : zTR ln fl pl ft fk cr_L0 inn_L0 k1_L0 k2_L0 k3_L0 k4_L0 cr_L1 inn_L1 k1_L1 k2_L1 k3_L1 k4_L1 dd_D0 p1_D0 p2_D0 p3_D0 dd_D1 p1_D1 p2_D1 p3_D1 gg_G0 q1_G0 q2_G0 gg_G1 q1_G1 q2_G1 f) (hA : zAI f) (hp : ln = nI p) (hp6 : p ≤ 600) (F1 : 580 < p ∧ r = -1 ∧ u = nI p ∧ g' = ft ∨ p ≤ 580 ∧ r = nI (p + 20) ∧ u = nI (p + 20) ∧ g' = zFeedC p a b c d e ft) (F2 : 580 < p ∧ r' = -1 ∧ g = f ∨ p ≤ 580 ∧ r' = nI (p + 20) ∧ zFeedR p a b c d e f g) : r = r' ∧ zAI g ∧ zTR u fl pl g' fk cr_L0 inn_L0 k1_L0 k2_L0 k3_L0 k4_L0 cr_L1 inn_L1 k1_L1 k2_L1 k3_L1 k4_L1 dd_D0 p1_D0 p2_D0 p3_D0 dd_D1 p1_D1 p2_D1 p3_D1 gg_G0 q1_G0 q2_G0 gg_G1 q1_G1 q2_G1 g ∧ ∀ j, 988 ≤ j → g j = f j := by
  rcases F1 with ⟨x1, x2, x3, x4⟩ | ⟨x1, x2, x3, x4⟩ <;> rcases F2 with ⟨y1, y2, y3⟩ | ⟨y1, y2, y3⟩
  · subst x4
    subst y3
    exact ⟨x2.trans y2.symm, hA, by rw [x3, ← hp]; exact hT, fun _ _ => rfl⟩
  · omega
  · omega
  · obtain ⟨z1, z2, z3⟩ := y3
    obtain ⟨⟨a1, a2, a3, a4, a5⟩, h1, h2, h3, h4, h5, h6⟩ := hT
    have ho : ∀ j, (j < 10 ∨ 610 ≤ j) → ¬ j = 4 → g j = f j := fun j q1 q2 => z3 j (by omega) q2
    have e4 : (nI (p + 20)).toInt = ((p + 20 : Nat) : Int) := nI_toInt (by omega)
    refine ⟨x2.trans y2.symm, zAI_low hA (zBI_fd (zAI_0 hA) (by rw [z1]; exact ⟨by omega, by omega⟩) ho) (fun j hj => ho j (by omega) (by omega)), ⟨⟨x3.trans z1.symm, a2.trans (ho _ (by omega) (by omega)).symm, a3.trans (ho _ (by omega) (by omega)).symm, fun j hj => (a4 j hj).trans (ho _ (by omega) (by omega)).symm, fun j hj => ?_⟩, zLnd_cg h1 (fun j hj => ho _ (by omega) (by omega)), zLnd_cg h2 (fun j hj => ho _ (by omega) (by omega)), zDyd_cg h3 (fun j hj => ho _ (by omega) (by omega)), zDyd_cg h4 (fun j hj => ho _ (by omega) (by omega)), zLgd_cg h5 (fun j hj => ho _ (by omega) (by omega)), zLgd_cg h6 (fun j hj => ho _ (by omega) (by omega))⟩, fun j hj => ho j (by omega) (by omega)⟩
    rw [x4]
    by_cases q : p ≤ j ∧ j < p + 20
    · have e1 := zFeed_be (p := p) (i := j - p) (a := a) (b := b) (c := c) (d := d) (e := e) (f := ft) (by omega)
      have e2 := z2 (j - p) (by omega)
      rw [show p + (j - p) = j by omega] at e1 e2
      rw [e1, e2]
      exact ⟨zBe_b _, by rw [Int8.toInt8_toInt32]⟩
    · rw [zFeedC_o (by omega), z3 _ (by omega) (by omega)]
      exact a5 j hj
theorem zM_end {ln : Int32} {fl : Int32} {pl : Int32} {ft : Nat → Int32} {fk : Nat → Int32} {cr_L0 : Int32} {inn_L0 : Int32} {k1_L0 : Nat → Int32} {k2_L0 : Nat → Int32} {k3_L0 : Nat → Int32} {k4_L0 : Nat → Int32} {cr_L1 : Int32} {inn_L1 : Int32} {k1_L1 : Nat → Int32} {k2_L1 : Nat → Int32} {k3_L1 : Nat → Int32} {k4_L1 : Nat → Int32} {dd_D0 : Int32} {p1_D0 : Nat → Int32} {p2_D0 : Nat → Int32} {p3_D0 : Nat → Int32} {dd_D1 : Int32} {p1_D1 : Nat → Int32} {p2_D1 : Nat → Int32} {p3_D1 : Nat → Int32} {gg_G0 : Int32} {q1_G0 : Nat → Int32} {q2_G0 : Nat → Int32} {gg_G1 : Int32} {q1_G1 : Nat → Int32} {q2_G1 : Nat → Int32} {u n r r' : Int32} {g f : Nat → Int32} (hT : zTR ln fl pl ft fk cr_L0 inn_L0 k1_L0 k2_L0 k3_L0 k4_L0 cr_L1 inn_L1 k1_L1 k2_L1 k3_L1 k4_L1 dd_D0 p1_D0 p2_D0 p3_D0 dd_D1 p1_D1 p2_D1 p3_D1 gg_G0 q1_G0 q2_G0 gg_G1 q1_G1 q2_G1 f) (hA : zAI f) (F1 : (n.toInt < 0 ∨ ln.toInt < n.toInt) ∧ r.toInt = -1 ∧ u = ln ∨ (0 ≤ n.toInt ∧ n.toInt ≤ ln.toInt) ∧ u = n ∧ r = n) (F2 : (n.toInt < 0 ∨ (f 4).toInt < n.toInt) ∧ r'.toInt = -1 ∧ g = f ∨ (0 ≤ n.toInt ∧ n.toInt ≤ (f 4).toInt) ∧ g = upd f 4 n ∧ r' = n) : r = r' ∧ zAI g ∧ zTR u fl pl ft fk cr_L0 inn_L0 k1_L0 k2_L0 k3_L0 k4_L0 cr_L1 inn_L1 k1_L1 k2_L1 k3_L1 k4_L1 dd_D0 p1_D0 p2_D0 p3_D0 dd_D1 p1_D1 p2_D1 p3_D1 gg_G0 q1_G0 q2_G0 gg_G1 q1_G1 q2_G1 g ∧ ∀ j, 988 ≤ j → g j = f j := by
  have b := zAI_at hA
  have e4 : ln = f 4 := hT.1.1
  have e4i : ln.toInt = (f 4).toInt := by rw [e4]
  rcases F1 with ⟨x1, x2, x3⟩ | ⟨x1, x2, x3⟩ <;> rcases F2 with ⟨y1, y2, y3⟩ | ⟨y1, y2, y3⟩
  · subst y3
    exact ⟨Int32.toInt_inj.mp (by omega), hA, by rw [x3]; exact hT, fun _ _ => rfl⟩
  · omega
  · omega
  · obtain ⟨⟨a1, a2, a3, a4, a5⟩, h1, h2, h3, h4, h5, h6⟩ := hT
    have ho : ∀ j, ¬ j = 4 → g j = f j := fun j q => by rw [y2]; exact z_ne q
    have k4 : g 4 = n := by rw [y2]; exact z_eq rfl
    exact ⟨x3.trans y3.symm, zAI_low hA (zBI_fd (zAI_0 hA) (by rw [k4]; exact ⟨by omega, by omega⟩) (fun j _ q => ho j q)) (fun j hj => ho j (by omega)), ⟨⟨x2.trans k4.symm, a2.trans (ho _ (by omega)).symm, a3.trans (ho _ (by omega)).symm, fun j hj => (a4 j hj).trans (ho _ (by omega)).symm, fun j hj => by rw [ho _ (by omega)]; exact a5 j hj⟩, zLnd_cg h1 (fun j hj => ho _ (by omega)), zLnd_cg h2 (fun j hj => ho _ (by omega)), zDyd_cg h3 (fun j hj => ho _ (by omega)), zDyd_cg h4 (fun j hj => ho _ (by omega)), zLgd_cg h5 (fun j hj => ho _ (by omega)), zLgd_cg h6 (fun j hj => ho _ (by omega))⟩, fun j hj => ho j (by omega)⟩
theorem zText_u {z : pS × (Nat → Int32)} {s : Nat} {at_ r r' : Int32} {f G G' : Nat → Int32} (h : zText z s at_ f G r) (h' : zText z s at_ f G' r') : r = r' ∧ ∀ j, j < 988 → G' j = G j := by
  rcases h with ⟨a1, a2, a3⟩ | ⟨a1, a0, a2, a3⟩ | ⟨a1, a0, a2, a3⟩ <;> rcases h' with ⟨b1, b2, b3⟩ | ⟨b1, b0, b2, b3⟩ | ⟨b1, b0, b2, b3⟩
  · exact ⟨a2.trans b2.symm, fun j hj => (b3 j hj).trans (a3 j hj).symm⟩
  · exact absurd b1 a1
  · exact absurd b1 a1
  · exact absurd a1 b1
  · exact ⟨a2.trans b2.symm, fun j hj => (b3 j hj).trans (a3 j hj).symm⟩
  · exact absurd b0 a0
  · exact absurd a1 b1
  · exact absurd a0 b0
  · exact ⟨a2.trans b2.symm, fun j hj => (b3 j hj).trans (a3 j hj).symm⟩
theorem zM_text {ln : Int32} {fl : Int32} {pl : Int32} {ft : Nat → Int32} {fk : Nat → Int32} {cr_L0 : Int32} {inn_L0 : Int32} {k1_L0 : Nat → Int32} {k2_L0 : Nat → Int32} {k3_L0 : Nat → Int32} {k4_L0 : Nat → Int32} {cr_L1 : Int32} {inn_L1 : Int32} {k1_L1 : Nat → Int32} {k2_L1 : Nat → Int32} {k3_L1 : Nat → Int32} {k4_L1 : Nat → Int32} {dd_D0 : Int32} {p1_D0 : Nat → Int32} {p2_D0 : Nat → Int32} {p3_D0 : Nat → Int32} {dd_D1 : Int32} {p1_D1 : Nat → Int32} {p2_D1 : Nat → Int32} {p3_D1 : Nat → Int32} {gg_G0 : Int32} {q1_G0 : Nat → Int32} {q2_G0 : Nat → Int32} {gg_G1 : Int32} {q1_G1 : Nat → Int32} {q2_G1 : Nat → Int32} {z : pS × (Nat → Int32)} {s : Nat} {at_ r r' : Int32} {g f : Nat → Int32} (hA : zAI f) (F1 : ∃ G2, zText z s at_ f G2 r ∧ zTR ln fl pl ft fk cr_L0 inn_L0 k1_L0 k2_L0 k3_L0 k4_L0 cr_L1 inn_L1 k1_L1 k2_L1 k3_L1 k4_L1 dd_D0 p1_D0 p2_D0 p3_D0 dd_D1 p1_D1 p2_D1 p3_D1 gg_G0 q1_G0 q2_G0 gg_G1 q1_G1 q2_G1 G2) (F2 : zText z s at_ f g r') (T0 : zBI g) (T2 : ∀ j, 988 ≤ j → g j = f j) : r = r' ∧ zAI g ∧ zTR ln fl pl ft fk cr_L0 inn_L0 k1_L0 k2_L0 k3_L0 k4_L0 cr_L1 inn_L1 k1_L1 k2_L1 k3_L1 k4_L1 dd_D0 p1_D0 p2_D0 p3_D0 dd_D1 p1_D1 p2_D1 p3_D1 gg_G0 q1_G0 q2_G0 gg_G1 q1_G1 q2_G1 g ∧ ∀ j, 988 ≤ j → g j = f j := by
  obtain ⟨G2, x1, x2⟩ := F1
  have q := zText_u x1 F2
  exact ⟨q.1, zAI_low hA T0 T2, zTR_cg x2 q.2, T2⟩
theorem zM_textN {ln : Int32} {fl : Int32} {pl : Int32} {ft : Nat → Int32} {fk : Nat → Int32} {cr_L0 : Int32} {inn_L0 : Int32} {k1_L0 : Nat → Int32} {k2_L0 : Nat → Int32} {k3_L0 : Nat → Int32} {k4_L0 : Nat → Int32} {cr_L1 : Int32} {inn_L1 : Int32} {k1_L1 : Nat → Int32} {k2_L1 : Nat → Int32} {k3_L1 : Nat → Int32} {k4_L1 : Nat → Int32} {dd_D0 : Int32} {p1_D0 : Nat → Int32} {p2_D0 : Nat → Int32} {p3_D0 : Nat → Int32} {dd_D1 : Int32} {p1_D1 : Nat → Int32} {p2_D1 : Nat → Int32} {p3_D1 : Nat → Int32} {gg_G0 : Int32} {q1_G0 : Nat → Int32} {q2_G0 : Nat → Int32} {gg_G1 : Int32} {q1_G1 : Nat → Int32} {q2_G1 : Nat → Int32} {g f : Nat → Int32} (hT : zTR ln fl pl ft fk cr_L0 inn_L0 k1_L0 k2_L0 k3_L0 k4_L0 cr_L1 inn_L1 k1_L1 k2_L1 k3_L1 k4_L1 dd_D0 p1_D0 p2_D0 p3_D0 dd_D1 p1_D1 p2_D1 p3_D1 gg_G0 q1_G0 q2_G0 gg_G1 q1_G1 q2_G1 f) (hA : zAI f) (hg : g = upd (upd (upd f 4 0) 5 0) 6 (-1)) : zAI g ∧ zTR 0 0 (-1) ft fk cr_L0 inn_L0 k1_L0 k2_L0 k3_L0 k4_L0 cr_L1 inn_L1 k1_L1 k2_L1 k3_L1 k4_L1 dd_D0 p1_D0 p2_D0 p3_D0 dd_D1 p1_D1 p2_D1 p3_D1 gg_G0 q1_G0 q2_G0 gg_G1 q1_G1 q2_G1 g ∧ ∀ j, 988 ≤ j → g j = f j := by
  have ho : ∀ j, 7 ≤ j → g j = f j := fun j q => by rw [hg, z_ne (by omega), z_ne (by omega), z_ne (by omega)]
  refine ⟨zAI_low hA (zBI_hd (zAI_0 hA) (by rw [hg]; rfl) (fun q hq => ?_) ho) (fun j hj => ho j (by omega)), by rw [hg]; exact zTR_hd hT, fun j hj => ho j (by omega)⟩
  rw [hg, z_ne (by omega), z_ne (by omega), z_ne (by omega)]
  exact (zAI_0 hA).2.1 q hq
theorem zM_keep {ln : Int32} {fl : Int32} {pl : Int32} {ft : Nat → Int32} {fk : Nat → Int32} {cr_L0 : Int32} {inn_L0 : Int32} {k1_L0 : Nat → Int32} {k2_L0 : Nat → Int32} {k3_L0 : Nat → Int32} {k4_L0 : Nat → Int32} {cr_L1 : Int32} {inn_L1 : Int32} {k1_L1 : Nat → Int32} {k2_L1 : Nat → Int32} {k3_L1 : Nat → Int32} {k4_L1 : Nat → Int32} {dd_D0 : Int32} {p1_D0 : Nat → Int32} {p2_D0 : Nat → Int32} {p3_D0 : Nat → Int32} {dd_D1 : Int32} {p1_D1 : Nat → Int32} {p2_D1 : Nat → Int32} {p3_D1 : Nat → Int32} {gg_G0 : Int32} {q1_G0 : Nat → Int32} {q2_G0 : Nat → Int32} {gg_G1 : Int32} {q1_G1 : Nat → Int32} {q2_G1 : Nat → Int32} {c : Prop} {b : Nat} {g f : Nat → Int32} (h : c → zTR ln fl pl ft fk cr_L0 inn_L0 k1_L0 k2_L0 k3_L0 k4_L0 cr_L1 inn_L1 k1_L1 k2_L1 k3_L1 k4_L1 dd_D0 p1_D0 p2_D0 p3_D0 dd_D1 p1_D1 p2_D1 p3_D1 gg_G0 q1_G0 q2_G0 gg_G1 q1_G1 q2_G1 (fun j => f (b + j))) (hb : 988 ≤ b) (T2 : ∀ j, 988 ≤ j → g j = f j) : c → zTR ln fl pl ft fk cr_L0 inn_L0 k1_L0 k2_L0 k3_L0 k4_L0 cr_L1 inn_L1 k1_L1 k2_L1 k3_L1 k4_L1 dd_D0 p1_D0 p2_D0 p3_D0 dd_D1 p1_D1 p2_D1 p3_D1 gg_G0 q1_G0 q2_G0 gg_G1 q1_G1 q2_G1 (fun j => g (b + j)) := fun z => zTR_cg (h z) (fun j _ => T2 _ (by omega))
theorem zAI_img {f g : Nat → Int32} {k : Nat} (hk : k < 3) (hA : zAI f) (c1 : ∀ j, j < 988 → g (988 * (k + 1) + j) = f j) (c2 : ∀ j, (j < 988 * (k + 1) ∨ 988 * (k + 1) + 988 ≤ j) → g j = f j) : zAI g := by
  intro i hi
  by_cases e : i = k + 1
  · subst e
    exact zBI_cg c1 (zAI_0 hA)
  · have : i < k + 1 ∨ k + 1 < i := by omega
    exact zBI_cg (fun j hj => c2 _ (by omega)) (hA i hi)
theorem zM_low {ln : Int32} {fl : Int32} {pl : Int32} {ft : Nat → Int32} {fk : Nat → Int32} {cr_L0 : Int32} {inn_L0 : Int32} {k1_L0 : Nat → Int32} {k2_L0 : Nat → Int32} {k3_L0 : Nat → Int32} {k4_L0 : Nat → Int32} {cr_L1 : Int32} {inn_L1 : Int32} {k1_L1 : Nat → Int32} {k2_L1 : Nat → Int32} {k3_L1 : Nat → Int32} {k4_L1 : Nat → Int32} {dd_D0 : Int32} {p1_D0 : Nat → Int32} {p2_D0 : Nat → Int32} {p3_D0 : Nat → Int32} {dd_D1 : Int32} {p1_D1 : Nat → Int32} {p2_D1 : Nat → Int32} {p3_D1 : Nat → Int32} {gg_G0 : Int32} {q1_G0 : Nat → Int32} {q2_G0 : Nat → Int32} {gg_G1 : Int32} {q1_G1 : Nat → Int32} {q2_G1 : Nat → Int32} {g f : Nat → Int32} (h : zTR ln fl pl ft fk cr_L0 inn_L0 k1_L0 k2_L0 k3_L0 k4_L0 cr_L1 inn_L1 k1_L1 k2_L1 k3_L1 k4_L1 dd_D0 p1_D0 p2_D0 p3_D0 dd_D1 p1_D1 p2_D1 p3_D1 gg_G0 q1_G0 q2_G0 gg_G1 q1_G1 q2_G1 f) (c : ∀ j, j < 988 → g j = f j) : zTR ln fl pl ft fk cr_L0 inn_L0 k1_L0 k2_L0 k3_L0 k4_L0 cr_L1 inn_L1 k1_L1 k2_L1 k3_L1 k4_L1 dd_D0 p1_D0 p2_D0 p3_D0 dd_D1 p1_D1 p2_D1 p3_D1 gg_G0 q1_G0 q2_G0 gg_G1 q1_G1 q2_G1 g := zTR_cg h c
theorem zM_imk {ln : Int32} {fl : Int32} {pl : Int32} {ft : Nat → Int32} {fk : Nat → Int32} {cr_L0 : Int32} {inn_L0 : Int32} {k1_L0 : Nat → Int32} {k2_L0 : Nat → Int32} {k3_L0 : Nat → Int32} {k4_L0 : Nat → Int32} {cr_L1 : Int32} {inn_L1 : Int32} {k1_L1 : Nat → Int32} {k2_L1 : Nat → Int32} {k3_L1 : Nat → Int32} {k4_L1 : Nat → Int32} {dd_D0 : Int32} {p1_D0 : Nat → Int32} {p2_D0 : Nat → Int32} {p3_D0 : Nat → Int32} {dd_D1 : Int32} {p1_D1 : Nat → Int32} {p2_D1 : Nat → Int32} {p3_D1 : Nat → Int32} {gg_G0 : Int32} {q1_G0 : Nat → Int32} {q2_G0 : Nat → Int32} {gg_G1 : Int32} {q1_G1 : Nat → Int32} {q2_G1 : Nat → Int32} {fm f g : Nat → Int32} {k b : Nat} (h : zTR ln fl pl ft fk cr_L0 inn_L0 k1_L0 k2_L0 k3_L0 k4_L0 cr_L1 inn_L1 k1_L1 k2_L1 k3_L1 k4_L1 dd_D0 p1_D0 p2_D0 p3_D0 dd_D1 p1_D1 p2_D1 p3_D1 gg_G0 q1_G0 q2_G0 gg_G1 q1_G1 q2_G1 f) (c1 : ∀ j, j < 988 → g (b + j) = f j) : ¬ upd fm k 1 k = 0 → zTR ln fl pl ft fk cr_L0 inn_L0 k1_L0 k2_L0 k3_L0 k4_L0 cr_L1 inn_L1 k1_L1 k2_L1 k3_L1 k4_L1 dd_D0 p1_D0 p2_D0 p3_D0 dd_D1 p1_D1 p2_D1 p3_D1 gg_G0 q1_G0 q2_G0 gg_G1 q1_G1 q2_G1 (fun j => g (b + j)) := fun _ => zTR_cg h c1
theorem zM_imo {ln : Int32} {fl : Int32} {pl : Int32} {ft : Nat → Int32} {fk : Nat → Int32} {cr_L0 : Int32} {inn_L0 : Int32} {k1_L0 : Nat → Int32} {k2_L0 : Nat → Int32} {k3_L0 : Nat → Int32} {k4_L0 : Nat → Int32} {cr_L1 : Int32} {inn_L1 : Int32} {k1_L1 : Nat → Int32} {k2_L1 : Nat → Int32} {k3_L1 : Nat → Int32} {k4_L1 : Nat → Int32} {dd_D0 : Int32} {p1_D0 : Nat → Int32} {p2_D0 : Nat → Int32} {p3_D0 : Nat → Int32} {dd_D1 : Int32} {p1_D1 : Nat → Int32} {p2_D1 : Nat → Int32} {p3_D1 : Nat → Int32} {gg_G0 : Int32} {q1_G0 : Nat → Int32} {q2_G0 : Nat → Int32} {gg_G1 : Int32} {q1_G1 : Nat → Int32} {q2_G1 : Nat → Int32} {fm f g : Nat → Int32} {i k b : Nat} (hik : ¬ i = k) (h : ¬ fm i = 0 → zTR ln fl pl ft fk cr_L0 inn_L0 k1_L0 k2_L0 k3_L0 k4_L0 cr_L1 inn_L1 k1_L1 k2_L1 k3_L1 k4_L1 dd_D0 p1_D0 p2_D0 p3_D0 dd_D1 p1_D1 p2_D1 p3_D1 gg_G0 q1_G0 q2_G0 gg_G1 q1_G1 q2_G1 (fun j => f (b + j))) (c2 : ∀ j, j < 988 → g (b + j) = f (b + j)) : ¬ upd fm k 1 i = 0 → zTR ln fl pl ft fk cr_L0 inn_L0 k1_L0 k2_L0 k3_L0 k4_L0 cr_L1 inn_L1 k1_L1 k2_L1 k3_L1 k4_L1 dd_D0 p1_D0 p2_D0 p3_D0 dd_D1 p1_D1 p2_D1 p3_D1 gg_G0 q1_G0 q2_G0 gg_G1 q1_G1 q2_G1 (fun j => g (b + j)) := fun z => zTR_cg (h (by rw [z_ne hik] at z; exact z)) c2
theorem zM_again {ln : Int32} {fl : Int32} {pl : Int32} {ft : Nat → Int32} {fk : Nat → Int32} {cr_L0 : Int32} {inn_L0 : Int32} {k1_L0 : Nat → Int32} {k2_L0 : Nat → Int32} {k3_L0 : Nat → Int32} {k4_L0 : Nat → Int32} {cr_L1 : Int32} {inn_L1 : Int32} {k1_L1 : Nat → Int32} {k2_L1 : Nat → Int32} {k3_L1 : Nat → Int32} {k4_L1 : Nat → Int32} {dd_D0 : Int32} {p1_D0 : Nat → Int32} {p2_D0 : Nat → Int32} {p3_D0 : Nat → Int32} {dd_D1 : Int32} {p1_D1 : Nat → Int32} {p2_D1 : Nat → Int32} {p3_D1 : Nat → Int32} {gg_G0 : Int32} {q1_G0 : Nat → Int32} {q2_G0 : Nat → Int32} {gg_G1 : Int32} {q1_G1 : Nat → Int32} {q2_G1 : Nat → Int32} {K b : Nat} {x r r' : Int32} {fm fh f g : Nat → Int32} (hA : zAI f) (hH : fm K = 0 ↔ fh K = 0) (hx : x.toInt = (K : Int)) (hK : K < 3) (hb : b = 988 * (K + 1)) (F1 : fm K = 0 ∧ r = 0 ∧ zTR ln fl pl ft fk cr_L0 inn_L0 k1_L0 k2_L0 k3_L0 k4_L0 cr_L1 inn_L1 k1_L1 k2_L1 k3_L1 k4_L1 dd_D0 p1_D0 p2_D0 p3_D0 dd_D1 p1_D1 p2_D1 p3_D1 gg_G0 q1_G0 q2_G0 gg_G1 q1_G1 q2_G1 f ∨ ¬ fm K = 0 ∧ r = 1 ∧ zTR ln fl pl ft fk cr_L0 inn_L0 k1_L0 k2_L0 k3_L0 k4_L0 cr_L1 inn_L1 k1_L1 k2_L1 k3_L1 k4_L1 dd_D0 p1_D0 p2_D0 p3_D0 dd_D1 p1_D1 p2_D1 p3_D1 gg_G0 q1_G0 q2_G0 gg_G1 q1_G1 q2_G1 (fun j => f (b + j))) (F2 : r' = 0 ∧ (x.toInt < 0 ∨ 3 ≤ x.toInt ∨ fh x.toNatClampNeg = 0) ∧ g = f ∨ r' = 1 ∧ (0 ≤ x.toInt ∧ x.toInt < 3) ∧ ¬ fh x.toNatClampNeg = 0 ∧ (∀ j, j < 988 → g j = f (988 * (x.toNatClampNeg + 1) + j)) ∧ ∀ j, 988 ≤ j → g j = f j) : r = r' ∧ zAI g ∧ zTR ln fl pl ft fk cr_L0 inn_L0 k1_L0 k2_L0 k3_L0 k4_L0 cr_L1 inn_L1 k1_L1 k2_L1 k3_L1 k4_L1 dd_D0 p1_D0 p2_D0 p3_D0 dd_D1 p1_D1 p2_D1 p3_D1 gg_G0 q1_G0 q2_G0 gg_G1 q1_G1 q2_G1 g ∧ ∀ j, 988 ≤ j → g j = f j := by
  subst hb
  have e : x.toNatClampNeg = K := by have := z_clI (x := x) (by omega); omega
  rw [e] at F2
  rcases F1 with ⟨a1, a2, a3⟩ | ⟨a1, a2, a3⟩ <;> rcases F2 with ⟨b1, b2, b3⟩ | ⟨b1, b2, b3, b4, b5⟩
  · exact ⟨a2.trans b1.symm, by rw [b3]; exact hA, by rw [b3]; exact a3, fun j _ => by rw [b3]⟩
  · exact absurd (hH.mp a1) b3
  · rcases b2 with q | q | q
    · omega
    · omega
    · exact absurd (hH.mpr q) a1
  · exact ⟨a2.trans b1.symm, zAI_low hA (zBI_cg b4 (hA (K + 1) (by omega))) b5, zTR_cg a3 b4, b5⟩
theorem zM_imr {K : Nat} {x r' : Int32} {fh gh f g : Nat → Int32} (hx : x.toInt = (K : Int)) (hK : K < 3) (F2 : r' = 0 ∧ (x.toInt < 0 ∨ 3 ≤ x.toInt) ∧ g = f ∧ gh = fh ∨ r' = 1 ∧ (0 ≤ x.toInt ∧ x.toInt < 3) ∧ (∀ j, j < 988 → g (988 * (x.toNatClampNeg + 1) + j) = f j) ∧ (∀ j, (j < 988 * (x.toNatClampNeg + 1) ∨ 988 * (x.toNatClampNeg + 1) + 988 ≤ j) → g j = f j) ∧ gh = upd fh x.toNatClampNeg 1) : r' = 1 ∧ (∀ j, j < 988 → g (988 * (K + 1) + j) = f j) ∧ (∀ j, (j < 988 * (K + 1) ∨ 988 * (K + 1) + 988 ≤ j) → g j = f j) ∧ gh = upd fh K 1 := by
  have e : x.toNatClampNeg = K := by have := z_clI (x := x) (by omega); omega
  rw [e] at F2
  rcases F2 with ⟨a, b, -⟩ | ⟨a, -, b, c, d⟩
  · omega
  · exact ⟨a, b, c, d⟩
theorem zM_imN {x r' : Int32} {fh gh f g : Nat → Int32} (hx : x.toInt < 0 ∨ 2 < x.toInt) (F2 : r' = 0 ∧ (x.toInt < 0 ∨ 3 ≤ x.toInt) ∧ g = f ∧ gh = fh ∨ r' = 1 ∧ (0 ≤ x.toInt ∧ x.toInt < 3) ∧ (∀ j, j < 988 → g (988 * (x.toNatClampNeg + 1) + j) = f j) ∧ (∀ j, (j < 988 * (x.toNatClampNeg + 1) ∨ 988 * (x.toNatClampNeg + 1) + 988 ≤ j) → g j = f j) ∧ gh = upd fh x.toNatClampNeg 1) : (0 : Int32) = r' ∧ g = f ∧ gh = fh := by
  rcases F2 with ⟨a, -, b, c⟩ | ⟨-, b, -⟩
  · exact ⟨a.symm, b, c⟩
  · omega
theorem zM_agN {x r' : Int32} {fh f g : Nat → Int32} (hx : x.toInt < 0 ∨ 2 < x.toInt) (F2 : r' = 0 ∧ (x.toInt < 0 ∨ 3 ≤ x.toInt ∨ fh x.toNatClampNeg = 0) ∧ g = f ∨ r' = 1 ∧ (0 ≤ x.toInt ∧ x.toInt < 3) ∧ ¬ fh x.toNatClampNeg = 0 ∧ (∀ j, j < 988 → g j = f (988 * (x.toNatClampNeg + 1) + j)) ∧ ∀ j, 988 ≤ j → g j = f j) : (0 : Int32) = r' ∧ g = f := by
  rcases F2 with ⟨a, -, b⟩ | ⟨-, b, -⟩
  · exact ⟨a.symm, b⟩
  · omega
set_option maxHeartbeats 4000000 in
set_option maxRecDepth 100000 in
/-- c_f_textN -/
theorem c_f_textN (l : Launch) (T : zTy) (xo : Nat) (t : Nat) (im : Nat) (mk : Nat) (rd : Nat) (po : Nat) (co : Nat) (tr : Nat) (wa : Nat) (wb_ : Nat) (fi : Nat) (cd : Nat) (l0 : Nat) (l1 : Nat) (d0 : Nat) (d1 : Nat) (g0 : Nat) (g1 : Nat) (ln : Int32) (fl : Int32) (pl : Int32) (ft : Nat → Int32) (fk : Nat → Int32) (wt : va_W) (i1 : Int32) (at_ : Int32) (ht : bTold T t l0 l1 d0 d1 g0 g1 ln fl pl ft fk wt) (hK : zKT fk) (hso : i1.toInt < 0 ∨ 2 < i1.toInt) : zMi l T yX11_text cX11_text 5 (some .int) 9 0 0 [.ref xo, .int i1, .int at_] [[zO10 xo t im mk rd po co tr wa wb_ fi cd], wt] (fun (r : Int32) bs => ∃ (wt_2 : va_W), bs = [[zO10 xo t im mk rd po co tr wa wb_ fi cd], wt_2] ∧ bTold T t l0 l1 d0 d1 g0 g1 0 0 (-1) ft fk wt_2 ∧ r = -2) := by
  refine zMi_of (own := RX11) (by decide) rfl (Nat.le_of_ble_eq_true rfl) ?_
  intro p e s m args below meth c A ls C hr hlocks hnm hAe G hl
  refine zHide (fun Qz_ hQz_ => ?_)
  have hx := C.1
  have hb := C.2.1
  have hl : lv_has ls 5 [(0, .ref xo), (1, .int i1), (2, .int at_)] := hl
  refine lv_aload_n hx hb dX11_text_0 rfl (lv_at hl 0 rfl) ?_
  refine z_get C G clX11 0 rfl 0 (by decide) m_fl_RX11_10 rfl dX11_text_1 ?_
  refine lv_iload_n hx hb dX11_text_4 rfl (lv_at hl 1 rfl) ?_
  refine lv_iload_n hx hb dX11_text_5 rfl (lv_at hl 2 rfl) ?_
  refine z_Vi (bc := [wt]) (br := [[zO10 xo t im mk rd po co tr wa wb_ fi cd]]) (As := [.int i1, .int at_]) (rest := []) C G (c_placeFor l T t l0 l1 d0 d1 g0 g1 ln fl pl ft fk wt i1 at_ ht (by first | with_reducible assumption | with_reducible rfl | omega | assumption | rfl)) (kV_RX11_81 C.2.2.2.2 (Nat.le_of_ble_eq_true rfl) (Nat.le_of_ble_eq_true rfl)) [1] [1] rfl rfl (ci := 8) (qc := (RX9, TX9, 8)) rfl rfl (List.mem_flatten.mpr ⟨_, List.mem_of_getElem? (i := 0) rfl, (bTold_mem ht).choose_spec⟩) rfl rfl hl.1 dX11_text_6 (Nat.le_of_ble_eq_true rfl) (Nat.le_of_ble_eq_true rfl) (fun r_2 b1 H locs hw G => ?_)
  refine zAn2 hw ?_
  intro hbs9 h_1
  clear hw
  subst hbs9
  have G : zS T A s.heap s [[zO10 xo t im mk rd po co tr wa wb_ fi cd], wt] _ _ := G
  have hr9 : r_2.toInt = -2 := by have := h_1; omega
  refine lv_istore_n (lv' := [(3, .int r_2), (0, .ref xo), (1, .int i1), (2, .int at_)]) hx hb dX11_text_9 rfl hl (by decide) (zLvf_h rfl) (fun ls hl => ?_)
  refine lv_aload_n hx hb dX11_text_10 rfl (lv_at hl 1 rfl) ?_
  refine z_get C G clX11 0 rfl 0 (by decide) m_fl_RX11_10 rfl dX11_text_11 ?_
  refine zEx8 ht ?_
  intro a1_3 a2_4 a3_5 a4_6 a5_7 q1_8 q2_9 q3_10
  refine zCu7 ?_
  intro hbs9 h_11 h_12 h_13 h_14 h_15 h_16
  clear ht
  subst hbs9
  have G : zS T A s.heap s [[zO10 xo t im mk rd po co tr wa wb_ fi cd], [zO8 t a1_3 ln fl pl a2_4 a3_5 a4_6 a5_7], [zAr T 1 a1_3 600 ft], [zAr T 0 a2_4 3 fk], [zArq T 3 a3_5 2 q1_8], [zArq T 4 a4_6 2 q2_9], [zArq T 5 a5_7 2 q3_10]] _ _ := G.re rfl
  refine z_get C G clX9 1 rfl 1 (by decide) m_fl_RX11_73 rfl dX11_text_14 ?_
  refine lv_istore (lv' := [(4, .int ln), (3, .int r_2), (0, .ref xo), (1, .int i1), (2, .int at_)]) hx hb dX11_text_17 hl (by decide) (zLvf_h rfl) (fun ls hl => ?_)
  refine lv_aload_n hx hb dX11_text_19 rfl (lv_at hl 2 rfl) ?_
  refine z_get C G clX11 0 rfl 0 (by decide) m_fl_RX11_10 rfl dX11_text_20 ?_
  refine lv_iconst (v := 0) hx hb dX11_text_23 (by decide) ?_
  refine z_put C G clX9 1 rfl 1 (by decide) m_fl_RX11_73 rfl rfl rfl (Nat.le_of_ble_eq_true rfl) dX11_text_24 (fun H locs G => ?_)
  have G : zS T A s.heap s [[zO10 xo t im mk rd po co tr wa wb_ fi cd], [zO8 t a1_3 0 fl pl a2_4 a3_5 a4_6 a5_7], [zAr T 1 a1_3 600 ft], [zAr T 0 a2_4 3 fk], [zArq T 3 a3_5 2 q1_8], [zArq T 4 a4_6 2 q2_9], [zArq T 5 a5_7 2 q3_10]] _ _ := G
  refine lv_aload_n hx hb dX11_text_27 rfl (lv_at hl 2 rfl) ?_
  refine z_get C G clX11 0 rfl 0 (by decide) m_fl_RX11_10 rfl dX11_text_28 ?_
  refine lv_iconst (v := 0) hx hb dX11_text_31 (by decide) ?_
  refine z_put C G clX9 1 rfl 2 (by decide) m_fl_RX11_85 rfl rfl rfl (Nat.le_of_ble_eq_true rfl) dX11_text_32 (fun H locs G => ?_)
  have G : zS T A s.heap s [[zO10 xo t im mk rd po co tr wa wb_ fi cd], [zO8 t a1_3 0 0 pl a2_4 a3_5 a4_6 a5_7], [zAr T 1 a1_3 600 ft], [zAr T 0 a2_4 3 fk], [zArq T 3 a3_5 2 q1_8], [zArq T 4 a4_6 2 q2_9], [zArq T 5 a5_7 2 q3_10]] _ _ := G
  refine lv_aload_n hx hb dX11_text_35 rfl (lv_at hl 2 rfl) ?_
  refine z_get C G clX11 0 rfl 0 (by decide) m_fl_RX11_10 rfl dX11_text_36 ?_
  refine lv_iconst (v := (-1)) hx hb dX11_text_39 (by decide) ?_
  refine z_put C G clX9 1 rfl 3 (by decide) m_fl_RX11_88 rfl rfl rfl (Nat.le_of_ble_eq_true rfl) dX11_text_40 (fun H locs G => ?_)
  have G : zS T A s.heap s [[zO10 xo t im mk rd po co tr wa wb_ fi cd], [zO8 t a1_3 0 0 (-1) a2_4 a3_5 a4_6 a5_7], [zAr T 1 a1_3 600 ft], [zAr T 0 a2_4 3 fk], [zArq T 3 a3_5 2 q1_8], [zArq T 4 a4_6 2 q2_9], [zArq T 5 a5_7 2 q3_10]] _ _ := G
  refine lv_iload_n hx hb dX11_text_43 rfl (lv_at hl 1 rfl) ?_
  refine lv_bipush (v := (-2)) hx hb dX11_text_44 (by decide) ?_
  refine lv_icmp_ne (tgt := 52) hx hb dX11_text_46 (by decide) (fun q => absurd ((fa_eq r_2 ((-2) : Int32)).mpr (by show r_2.toInt = (-2 : Int); omega)) q) (fun _ => ?_)
  refine lv_bipush (v := (-2)) hx hb dX11_text_49 (by decide) ?_
  have hw_17 : bTold T t l0 l1 d0 d1 g0 g1 0 0 (-1) ft fk [zO8 t a1_3 0 0 (-1) a2_4 a3_5 a4_6 a5_7, zAr T 1 a1_3 600 ft, zAr T 0 a2_4 3 fk, zArq T 3 a3_5 2 q1_8, zArq T 4 a4_6 2 q2_9, zArq T 5 a5_7 2 q3_10] := ⟨a1_3, a2_4, a3_5, a4_6, a5_7, q1_8, q2_9, q3_10, rfl, h_11, h_12, h_13, h_14, h_15, h_16⟩
  have G : zS T A s.heap s [[zO10 xo t im mk rd po co tr wa wb_ fi cd], [zO8 t a1_3 0 0 (-1) a2_4 a3_5 a4_6 a5_7, zAr T 1 a1_3 600 ft, zAr T 0 a2_4 3 fk, zArq T 3 a3_5 2 q1_8, zArq T 4 a4_6 2 q2_9, zArq T 5 a5_7 2 q3_10]] _ _ := G.re rfl
  exact z_back hQz_ (z_iret C hr hlocks G (Nat.le_of_ble_eq_true rfl) (Nat.le_of_ble_eq_true rfl) dX11_text_51 ⟨([zO8 t a1_3 0 0 (-1) a2_4 a3_5 a4_6 a5_7, zAr T 1 a1_3 600 ft, zAr T 0 a2_4 3 fk, zArq T 3 a3_5 2 q1_8, zArq T 4 a4_6 2 q2_9, zArq T 5 a5_7 2 q3_10]), rfl, hw_17, rfl⟩)
set_option maxHeartbeats 4000000 in
set_option maxRecDepth 100000 in
/-- c_fm_textN -/
theorem c_fm_textN (l : Launch) (T : zTy) (mo : Nat) (m_all : Nat) (m_has : Nat) (i_size : Int32) (i_next : Int32) (i_where : Int32) (i_token : Int32) (i_number : Int32) (i_word : Int32) (i_wrong : Int32) (i_farCrossing : Int32) (m_read : Nat) (i_z0 : Int32) (i_crossings : Int32) (i_inns : Int32) (m_posts : Nat) (m_shut : Nat) (m_here : Nat) (i_steps : Int32) (i_done : Int32) (i_at : Int32) (i_gone : Int32) (m_was : Nat) (m_came : Nat) (m_seenAt : Nat) (m_rowWorth : Nat) (m_farBy : Nat) (m_used : Nat) (i_everywhere : Int32) (i_again0 : Int32) (i_d0 : Int32) (i_never : Int32) (i_firstCame : Int32) (i_longRun : Int32) (i_moved : Int32) (i_crowd : Int32) (i_l0 : Int32) (i_fitMany : Int32) (i_fitLeast : Int32) (i_fitMost : Int32) (m_fitPost : Nat) (m_fitEnd : Nat) (m_keptPosts : Nat) (i_x0 : Int32) (f_all : Nat → Int32) (f_read : Nat → Int32) (so_ : Int32) (at_ : Int32) (hso : so_.toInt < 0 ∨ 2 < so_.toInt) : zMi l T yX12_text cX12_text 5 (some .int) 9 0 0 [.ref mo, .int so_, .int at_] [[zO11 mo m_all m_has i_size i_next i_where i_token i_number i_word i_wrong i_farCrossing m_read i_z0 i_crossings i_inns m_posts m_shut m_here i_steps i_done i_at i_gone m_was m_came m_seenAt m_rowWorth m_farBy m_used i_everywhere i_again0 i_d0 i_never i_firstCame i_longRun i_moved i_crowd i_l0 i_fitMany i_fitLeast i_fitMost m_fitPost m_fitEnd m_keptPosts i_x0], [zAr T 0 m_all 3952 f_all], [zAr T 0 m_read 121 f_read]] (fun (r : Int32) bs => ∃ (j_size : Int32) (g_all : Nat → Int32), bs = [[zO11 mo m_all m_has j_size i_next i_where i_token i_number i_word i_wrong i_farCrossing m_read i_z0 i_crossings i_inns m_posts m_shut m_here i_steps i_done i_at i_gone m_was m_came m_seenAt m_rowWorth m_farBy m_used i_everywhere i_again0 i_d0 i_never i_firstCame i_longRun i_moved i_crowd i_l0 i_fitMany i_fitLeast i_fitMost m_fitPost m_fitEnd m_keptPosts i_x0], [zAr T 0 m_all 3952 g_all], [zAr T 0 m_read 121 f_read]] ∧ r = -2 ∧ g_all = upd (upd (upd f_all 4 0) 5 0) 6 (-1)) := by
  refine zMi_of (own := RX12) (by decide) rfl (Nat.le_of_ble_eq_true rfl) ?_
  intro p e s m args below meth c A ls C hr hlocks hnm hAe G hl
  refine zHide (fun Qz_ hQz_ => ?_)
  have hx := C.1
  have hb := C.2.1
  have hl : lv_has ls 5 [(0, .ref mo), (1, .int so_), (2, .int at_)] := hl
  refine lv_aload_n hx hb dX12_text_0 rfl (lv_at hl 0 rfl) ?_
  refine lv_aload_n hx hb dX12_text_1 rfl (lv_at hl 0 rfl) ?_
  refine z_get C G clX12 0 rfl 0 (by decide) m_fl_RX12_7 rfl dX12_text_2 ?_
  refine lv_iconst (v := 4) hx hb dX12_text_5 (by decide) ?_
  refine z_ild C G 1 rfl (vp_in_nI (n := 4) (by decide) (by decide)) dX12_text_6 ?_
  refine lv_topi (fun v_1 ev_1 => ?_)
  rw [show ((4 : Int32).toNatClampNeg) = 4 from rfl] at ev_1
  subst ev_1
  refine z_put C G clX12 0 rfl 2 (by decide) m_fl_RX12_56 rfl rfl rfl (Nat.le_of_ble_eq_true rfl) dX12_text_7 (fun H locs G => ?_)
  have G : zS T A s.heap s [[zO11 mo m_all m_has (f_all 4) i_next i_where i_token i_number i_word i_wrong i_farCrossing m_read i_z0 i_crossings i_inns m_posts m_shut m_here i_steps i_done i_at i_gone m_was m_came m_seenAt m_rowWorth m_farBy m_used i_everywhere i_again0 i_d0 i_never i_firstCame i_longRun i_moved i_crowd i_l0 i_fitMany i_fitLeast i_fitMost m_fitPost m_fitEnd m_keptPosts i_x0], [zAr T 0 m_all 3952 f_all], [zAr T 0 m_read 121 f_read]] _ _ := G
  refine lv_aload_n hx hb dX12_text_10 rfl (lv_at hl 0 rfl) ?_
  refine z_get C G clX12 0 rfl 0 (by decide) m_fl_RX12_7 rfl dX12_text_11 ?_
  refine lv_iconst (v := 4) hx hb dX12_text_14 (by decide) ?_
  refine lv_iconst (v := 0) hx hb dX12_text_15 (by decide) ?_
  refine z_ist C G 1 rfl (vp_in_nI (n := 4) (by decide) (by decide)) dX12_text_16 (fun H locs G => ?_)
  have G : zS T A s.heap s [[zO11 mo m_all m_has (f_all 4) i_next i_where i_token i_number i_word i_wrong i_farCrossing m_read i_z0 i_crossings i_inns m_posts m_shut m_here i_steps i_done i_at i_gone m_was m_came m_seenAt m_rowWorth m_farBy m_used i_everywhere i_again0 i_d0 i_never i_firstCame i_longRun i_moved i_crowd i_l0 i_fitMany i_fitLeast i_fitMost m_fitPost m_fitEnd m_keptPosts i_x0], [zAr T 0 m_all 3952 (upd f_all 4 0)], [zAr T 0 m_read 121 f_read]] _ _ := G
  refine lv_aload_n hx hb dX12_text_17 rfl (lv_at hl 0 rfl) ?_
  refine z_get C G clX12 0 rfl 0 (by decide) m_fl_RX12_7 rfl dX12_text_18 ?_
  refine lv_iconst (v := 5) hx hb dX12_text_21 (by decide) ?_
  refine lv_iconst (v := 0) hx hb dX12_text_22 (by decide) ?_
  refine z_ist C G 1 rfl (vp_in_nI (n := 5) (by decide) (by decide)) dX12_text_23 (fun H locs G => ?_)
  have G : zS T A s.heap s [[zO11 mo m_all m_has (f_all 4) i_next i_where i_token i_number i_word i_wrong i_farCrossing m_read i_z0 i_crossings i_inns m_posts m_shut m_here i_steps i_done i_at i_gone m_was m_came m_seenAt m_rowWorth m_farBy m_used i_everywhere i_again0 i_d0 i_never i_firstCame i_longRun i_moved i_crowd i_l0 i_fitMany i_fitLeast i_fitMost m_fitPost m_fitEnd m_keptPosts i_x0], [zAr T 0 m_all 3952 (upd (upd f_all 4 0) 5 0)], [zAr T 0 m_read 121 f_read]] _ _ := G
  refine lv_aload_n hx hb dX12_text_24 rfl (lv_at hl 0 rfl) ?_
  refine z_get C G clX12 0 rfl 0 (by decide) m_fl_RX12_7 rfl dX12_text_25 ?_
  refine lv_bipush (v := 6) hx hb dX12_text_28 (by decide) ?_
  refine lv_iconst (v := (-1)) hx hb dX12_text_30 (by decide) ?_
  refine z_ist C G 1 rfl (vp_in_nI (n := 6) (by decide) (by decide)) dX12_text_31 (fun H locs G => ?_)
  have G : zS T A s.heap s [[zO11 mo m_all m_has (f_all 4) i_next i_where i_token i_number i_word i_wrong i_farCrossing m_read i_z0 i_crossings i_inns m_posts m_shut m_here i_steps i_done i_at i_gone m_was m_came m_seenAt m_rowWorth m_farBy m_used i_everywhere i_again0 i_d0 i_never i_firstCame i_longRun i_moved i_crowd i_l0 i_fitMany i_fitLeast i_fitMost m_fitPost m_fitEnd m_keptPosts i_x0], [zAr T 0 m_all 3952 (upd (upd (upd f_all 4 0) 5 0) 6 (-1))], [zAr T 0 m_read 121 f_read]] _ _ := G
  refine lv_iload_n hx hb dX12_text_32 rfl (lv_at hl 1 rfl) ?_
  refine lv_iconst (v := 0) hx hb dX12_text_33 (by decide) ?_
  refine lv_iconst (v := 2) hx hb dX12_text_34 (by decide) ?_
  refine z_Si (bc := []) (br := [[zO11 mo m_all m_has (f_all 4) i_next i_where i_token i_number i_word i_wrong i_farCrossing m_read i_z0 i_crossings i_inns m_posts m_shut m_here i_steps i_done i_at i_gone m_was m_came m_seenAt m_rowWorth m_farBy m_used i_everywhere i_again0 i_d0 i_never i_firstCame i_longRun i_moved i_crowd i_l0 i_fitMany i_fitLeast i_fitMost m_fitPost m_fitEnd m_keptPosts i_x0], [zAr T 0 m_all 3952 (upd (upd (upd f_all 4 0) 5 0) 6 (-1))], [zAr T 0 m_read 121 f_read]]) (As := [.int so_, .int 0, .int 2]) (rest := []) C G (c_m_isIn l T so_ 0 2) (kS_RX12_111 C.2.2.2.2 (Nat.le_of_ble_eq_true rfl) (Nat.le_of_ble_eq_true rfl)) [] [] rfl rfl rfl rfl hl.1 dX12_text_35 (Nat.le_of_ble_eq_true rfl) (Nat.le_of_ble_eq_true rfl) (fun r_3 b1 H locs hw G => ?_)
  refine zAn2 hw ?_
  intro hbs9 hc_2
  clear hw
  subst hbs9
  have G : zS T A s.heap s [[zO11 mo m_all m_has (f_all 4) i_next i_where i_token i_number i_word i_wrong i_farCrossing m_read i_z0 i_crossings i_inns m_posts m_shut m_here i_steps i_done i_at i_gone m_was m_came m_seenAt m_rowWorth m_farBy m_used i_everywhere i_again0 i_d0 i_never i_firstCame i_longRun i_moved i_crowd i_l0 i_fitMany i_fitLeast i_fitMost m_fitPost m_fitEnd m_keptPosts i_x0], [zAr T 0 m_all 3952 (upd (upd (upd f_all 4 0) 5 0) 6 (-1))], [zAr T 0 m_read 121 f_read]] _ _ := G
  rcases hc_2 with ⟨rfl, h_4, h_5⟩ | ⟨rfl, h_6⟩
  · have h_4 : (0 : Int) ≤ so_.toInt := h_4
    have h_5 : so_.toInt ≤ (2 : Int) := h_5
    refine lv_if_eq (tgt := 68) hx hb dX12_text_38 (by decide) (fun q => absurd q (by decide)) (fun _ => ?_)
    exact absurd (show (0 : Int) = 1 by omega) (by decide)
  · have h_6 : (so_.toInt < (0 : Int) ∨ (2 : Int) < so_.toInt) := h_6
    refine lv_if_eq (tgt := 68) hx hb dX12_text_38 (by decide) (fun _ => ?_) (fun q => absurd (by decide) q)
    refine lv_bipush (v := (-2)) hx hb dX12_text_68 (by decide) ?_
    exact z_back hQz_ (z_iret C hr hlocks G (Nat.le_of_ble_eq_true rfl) (Nat.le_of_ble_eq_true rfl) dX12_text_70 ⟨(f_all 4), (upd (upd (upd f_all 4 0) 5 0) 6 (-1)), rfl, rfl, rfl⟩)
/-! WAYS: rows of roads, as numbers -/
def aCh (W : Nat → Int32) (c : Nat) : Nat := if (W c).toInt ≤ 0 then 1 else (W c).toInt.toNat
/-- as many as the last n digits have -/
def aPr (W : Nat → Int32) : Nat → Nat
  | 0 => 1
  | n + 1 => aPr W n * aCh W (6 - n)
def aRd (W : Nat → Int32) (w c : Nat) : Nat := w / aPr W (6 - c) % aCh W c
theorem aCh_p {W : Nat → Int32} {c : Nat} : 1 ≤ aCh W c := by
  unfold aCh
  split <;> omega
theorem aPr_p {W : Nat → Int32} : ∀ n, 1 ≤ aPr W n
  | 0 => Nat.le_refl _
  | n + 1 => Nat.mul_pos (aPr_p n) aCh_p
/-- more digits: a multiple -/
theorem aPr_m {W : Nat → Int32} (m : Nat) : ∀ n, ∃ s, aPr W (m + n) = aPr W m * s
  | 0 => ⟨1, (Nat.mul_one _).symm⟩
  | n + 1 => by
    obtain ⟨s, e⟩ := aPr_m (W := W) m n
    refine ⟨s * aCh W (6 - (m + n)), ?_⟩
    show aPr W (m + n) * aCh W (6 - (m + n)) = aPr W m * (s * aCh W (6 - (m + n)))
    rw [e, Nat.mul_assoc]
theorem aPr_d {W : Nat → Int32} {m n : Nat} (h : m ≤ n) : ∃ s, aPr W n = aPr W m * s := by
  obtain ⟨s, e⟩ := aPr_m (W := W) m (n - m)
  rw [show m + (n - m) = n by omega] at e
  exact ⟨s, e⟩
theorem aPr_s {W : Nat → Int32} {c : Nat} (h : c ≤ 6) : aPr W (6 - c + 1) = aPr W (6 - c) * aCh W c := by
  show aPr W (6 - c) * aCh W (6 - (6 - c)) = aPr W (6 - c) * aCh W c
  rw [show 6 - (6 - c) = c by omega]
theorem aRd_lt {W : Nat → Int32} {w c : Nat} : aRd W w c < aCh W c := Nat.mod_lt _ aCh_p
/-- a number, seen at one of its digits -/
theorem aDc {w p m : Nat} (hp : 1 ≤ p) : w = w / (p * m) * (p * m) + (w / p % m) * p + w % p := by
  have e1 : p * (w / p) + w % p = w := Nat.div_add_mod w p
  have e2 : m * (w / p / m) + w / p % m = w / p := Nat.div_add_mod (w / p) m
  have e3 : w / p / m = w / (p * m) := Nat.div_div_eq_div_mul w p m
  rw [e3] at e2
  have e4 : w / (p * m) * (p * m) + (w / p % m) * p = p * (m * (w / (p * m)) + w / p % m) := by
    rw [Nat.mul_add, Nat.mul_comm (w / (p * m)) (p * m), Nat.mul_assoc p m, Nat.mul_comm (w / p % m) p]
  rw [e4, e2]
  exact e1.symm
/-- another digit there: the same above and below -/
theorem aDq {q d r p m : Nat} (hp : 1 ≤ p) (hd : d < m) (hr : r < p) : (q * (p * m) + d * p + r) / (p * m) = q ∧ (q * (p * m) + d * p + r) / p % m = d ∧ (q * (p * m) + d * p + r) % p = r := by
  have hl : d * p + r < p * m := by
    have : (d + 1) * p ≤ m * p := Nat.mul_le_mul_right p hd
    rw [Nat.add_mul, Nat.one_mul] at this
    rw [Nat.mul_comm p m]
    omega
  have hpm : 0 < p * m := Nat.mul_pos hp (by omega)
  have a1 : (q * (p * m) + d * p + r) / (p * m) = q := by
    rw [Nat.add_assoc, Nat.add_comm, Nat.add_mul_div_right _ _ hpm, Nat.div_eq_of_lt hl, Nat.zero_add]
  have e : q * (p * m) + d * p + r = r + (q * m + d) * p := by
    rw [Nat.add_mul, Nat.mul_assoc q m p, Nat.mul_comm m p]
    omega
  have a2 : (q * (p * m) + d * p + r) / p = q * m + d := by
    rw [e, Nat.add_mul_div_right _ _ hp, Nat.div_eq_of_lt hr, Nat.zero_add]
  refine ⟨a1, ?_, ?_⟩
  · rw [a2, Nat.add_comm, Nat.add_mul_mod_self_right, Nat.mod_eq_of_lt hd]
  · rw [e, Nat.add_mul_mod_self_right, Nat.mod_eq_of_lt hr]
/-- the way when a post has turned -/
def aTn (W : Nat → Int32) (w c : Nat) : Nat := w / aPr W (6 - c + 1) * aPr W (6 - c + 1) + ((aRd W w c + 1) % aCh W c) * aPr W (6 - c) + w % aPr W (6 - c)
theorem aTn_rd {W : Nat → Int32} {w c : Nat} (hc : c ≤ 6) : ∀ j, j ≤ 6 → aRd W (aTn W w c) j = if j = c then (aRd W w c + 1) % aCh W c else aRd W w j := by
  have hp := aPr_p (W := W) (6 - c)
  have hm := aCh_p (W := W) (c := c)
  have D := aDq (q := w / (aPr W (6 - c) * aCh W c)) (d := (aRd W w c + 1) % aCh W c) (r := w % aPr W (6 - c)) hp (Nat.mod_lt _ hm) (Nat.mod_lt _ hp)
  have E := aDc (w := w) (p := aPr W (6 - c)) (m := aCh W c) hp
  have T : aTn W w c = w / (aPr W (6 - c) * aCh W c) * (aPr W (6 - c) * aCh W c) + ((aRd W w c + 1) % aCh W c) * aPr W (6 - c) + w % aPr W (6 - c) := by
    unfold aTn
    rw [aPr_s hc]
  intro j hj
  by_cases e : j = c
  · subst e
    rw [if_pos rfl]
    show aTn W w j / aPr W (6 - j) % aCh W j = _
    rw [T]
    exact D.2.1
  · rw [if_neg e]
    show aTn W w c / aPr W (6 - j) % aCh W j = w / aPr W (6 - j) % aCh W j
    by_cases q : j < c
    · obtain ⟨s, hs⟩ := aPr_d (W := W) (m := 6 - c + 1) (n := 6 - j) (by omega)
      rw [hs, aPr_s hc, ← Nat.div_div_eq_div_mul, ← Nat.div_div_eq_div_mul w, T, D.1]
    · obtain ⟨s, hs⟩ := aPr_d (W := W) (m := 6 - j + 1) (n := 6 - c) (by omega)
      rw [aPr_s hj] at hs
      have key : ∀ v, v / aPr W (6 - j) % aCh W j = v % aPr W (6 - c) / aPr W (6 - j) % aCh W j := fun v => by
        have hv : aPr W (6 - c) * (v / aPr W (6 - c)) + v % aPr W (6 - c) = v := Nat.div_add_mod v _
        have h1 : v = v % aPr W (6 - c) + (aCh W j * (s * (v / aPr W (6 - c)))) * aPr W (6 - j) := by
          rw [hs] at hv ⊢
          rw [Nat.mul_comm (aCh W j * _) (aPr W (6 - j)), ← Nat.mul_assoc (aPr W (6 - j)), ← Nat.mul_assoc (aPr W (6 - j) * aCh W j)]
          omega
        have h2 : v / aPr W (6 - j) = v % aPr W (6 - c) / aPr W (6 - j) + aCh W j * (s * (v / aPr W (6 - c))) := by
          conv => lhs; rw [h1]
          rw [Nat.add_mul_div_right _ _ (aPr_p _)]
        rw [h2, Nat.add_mul_mod_self_left]
      rw [key (aTn W w c), key w, T, D.2.2]
theorem aTn_lt {W : Nat → Int32} {w c : Nat} (hc : c ≤ 6) (hw : w < aPr W 7) : aTn W w c < aPr W 7 := by
  obtain ⟨s, hs⟩ := aPr_d (W := W) (m := 6 - c + 1) (n := 7) (by omega)
  have hq : 0 < aPr W (6 - c + 1) := aPr_p _
  have a : w / aPr W (6 - c + 1) < s := by
    rw [hs] at hw
    exact Nat.div_lt_of_lt_mul hw
  have hp := aPr_p (W := W) (6 - c)
  have hm := aCh_p (W := W) (c := c)
  have d := Nat.mod_lt (aRd W w c + 1) hm
  have r := Nat.mod_lt w hp
  have l : (aRd W w c + 1) % aCh W c * aPr W (6 - c) + w % aPr W (6 - c) < aPr W (6 - c + 1) := by
    rw [aPr_s hc]
    have : ((aRd W w c + 1) % aCh W c + 1) * aPr W (6 - c) ≤ aCh W c * aPr W (6 - c) := Nat.mul_le_mul_right _ d
    rw [Nat.add_mul, Nat.one_mul, Nat.mul_comm (aCh W c)] at this
    omega
  have u : (w / aPr W (6 - c + 1) + 1) * aPr W (6 - c + 1) ≤ s * aPr W (6 - c + 1) := Nat.mul_le_mul_right _ a
  rw [Nat.add_mul, Nat.one_mul, Nat.mul_comm s, ← hs] at u
  unfold aTn
  omega
/-- as many steps as may be, by ways: the way, the crossing, how many steps -/
def aN (W L : Nat → Int32) : Nat → Nat → Nat → Nat → Nat × Nat × Nat
  | 0, w, c, k => (w, c, k)
  | n + 1, w, c, k => if c < 7 ∧ 0 < (W c).toInt then aN W L n (aTn W w c) (L (4 * c + aRd W (aTn W w c) c)).toInt.toNat (k + 1) else (w, c, k)
def aPo (W : Nat → Int32) (w j : Nat) : Int32 := nI (aRd W w j)
theorem aN_k {W L : Nat → Int32} : ∀ (n w c k : Nat), aN W L n w c k = ((aN W L n w c 0).1, (aN W L n w c 0).2.1, (aN W L n w c 0).2.2 + k)
  | 0, w, c, k => by
    show (w, c, k) = (w, c, 0 + k)
    rw [Nat.zero_add]
  | n + 1, w, c, k => by
    unfold aN
    by_cases q : c < 7 ∧ 0 < (W c).toInt
    · rw [if_pos q, if_pos q, aN_k n _ _ (k + 1), aN_k n _ _ (0 + 1)]
      show (_, _, _) = (_, _, _)
      rw [show (aN W L n (aTn W w c) (L (4 * c + aRd W (aTn W w c) c)).toInt.toNat 0).2.2 + (k + 1) = (aN W L n (aTn W w c) (L (4 * c + aRd W (aTn W w c) c)).toInt.toNat 0).2.2 + (0 + 1) + k by omega]
    · rw [if_neg q, if_neg q]
      show (w, c, k) = (w, c, 0 + k)
      rw [Nat.zero_add]
theorem aN_s {W L : Nat → Int32} {c : Nat} (h : ¬ (c < 7 ∧ 0 < (W c).toInt)) : ∀ n w k, aN W L n w c k = (w, c, k)
  | 0, w, k => rfl
  | n + 1, w, k => if_neg h
/-- steps behind steps -/
theorem aN_a {W L : Nat → Int32} : ∀ (m n w c k : Nat), aN W L (m + n) w c k = aN W L n (aN W L m w c k).1 (aN W L m w c k).2.1 (aN W L m w c k).2.2
  | 0, n, w, c, k => by rw [Nat.zero_add]; rfl
  | m + 1, n, w, c, k => by
    rw [show m + 1 + n = (m + n) + 1 by omega]
    by_cases q : c < 7 ∧ 0 < (W c).toInt
    · have e1 : aN W L (m + n + 1) w c k = aN W L (m + n) (aTn W w c) (L (4 * c + aRd W (aTn W w c) c)).toInt.toNat (k + 1) := if_pos q
      have e2 : aN W L (m + 1) w c k = aN W L m (aTn W w c) (L (4 * c + aRd W (aTn W w c) c)).toInt.toNat (k + 1) := if_pos q
      rw [e1, e2]
      exact aN_a m n _ _ _
    · rw [aN_s q, aN_s q]
      show (w, c, k) = aN W L n w c k
      rw [aN_s q]
theorem aN_b {W L : Nat → Int32} (hL : ∀ j r : Nat, j < 7 → r < 4 → (r : Int) < (W j).toInt → 0 ≤ (L (4 * j + r)).toInt ∧ (L (4 * j + r)).toInt ≤ 6) (hW : ∀ j, j < 7 → (W j).toInt ≤ 4) : ∀ (n w c k : Nat), w < aPr W 7 → c ≤ 6 → (aN W L n w c k).1 < aPr W 7 ∧ (aN W L n w c k).2.1 ≤ 6 ∧ (aN W L n w c k).2.2 ≤ n + k
  | 0, w, c, k, hw, hc => ⟨hw, hc, by show k ≤ 0 + k; omega⟩
  | n + 1, w, c, k, hw, hc => by
    unfold aN
    by_cases q : c < 7 ∧ 0 < (W c).toInt
    · rw [if_pos q]
      have lt := aRd_lt (W := W) (w := aTn W w c) (c := c)
      have ch : aCh W c = (W c).toInt.toNat := if_neg (by omega)
      have w4 := hW c q.1
      have b := hL c (aRd W (aTn W w c) c) q.1 (by omega) (by omega)
      have t := aN_b hL hW n (aTn W w c) (L (4 * c + aRd W (aTn W w c) c)).toInt.toNat (k + 1) (aTn_lt hc hw) (by omega)
      exact ⟨t.1, t.2.1, by omega⟩
    · rw [if_neg q]
      exact ⟨hw, hc, by show k ≤ n + 1 + k; omega⟩
/-- a walk, nothing shut, is one of ways -/
theorem aN_run {W L : Nat → Int32} (hL : ∀ j r : Nat, j < 7 → r < 4 → (r : Int) < (W j).toInt → 0 ≤ (L (4 * j + r)).toInt ∧ (L (4 * j + r)).toInt ≤ 6) (hW : ∀ j, j < 7 → 0 ≤ (W j).toInt ∧ (W j).toInt ≤ 4) : ∀ (n w c k : Nat) (P : Nat → Int32), c ≤ 6 → (∀ j, j < 7 → 0 < (W j).toInt → P j = aPo W w j) → (∀ j, j < 7 → 0 < (W j).toInt → (zRunN zS0 W L n P (nI c) k).1 j = aPo W (aN W L n w c k).1 j) ∧ (zRunN zS0 W L n P (nI c) k).2.1 = nI (aN W L n w c k).2.1 ∧ (zRunN zS0 W L n P (nI c) k).2.2 = (aN W L n w c k).2.2
  | 0, w, c, k, P, hc, hP => ⟨hP, rfl, rfl⟩
  | n + 1, w, c, k, P, hc, hP => by
    have ec := nI_toInt (n := c) (by omega)
    have ek := nI_clamp (n := c) (by omega)
    have hT : zTurn P zS0 W (nI c) = zTurnR (W c) 0 (W c).toNatClampNeg (P c) := by
      unfold zTurn
      rw [if_pos ⟨by omega, by omega⟩, ek]
    have w4 := hW c (by omega)
    have ewc := z_clI w4.1
    by_cases q : c < 7 ∧ 0 < (W c).toInt
    · have ch : aCh W c = (W c).toInt.toNat := if_neg (by omega)
      have lt := aRd_lt (W := W) (w := w) (c := c)
      have eP : P c = nI (aRd W w c) := hP c (by omega) q.2
      have ep := nI_toInt (n := aRd W w c) (by omega)
      have tn := aTn_rd (W := W) (w := w) (c := c) hc
      have tc := tn c hc
      rw [if_pos rfl] at tc
      -- the post goes on by one
      have hN : zNext (W c) (P c) = nI (aRd W (aTn W w c) c) := by
        have e1 : (nI (aRd W w c) + 1).toInt = (aRd W w c : Int) + 1 := by
          rw [zInc1, nI_toInt (by omega)]
          omega
        rw [eP, tc]
        unfold zNext
        by_cases v : nI (aRd W w c) + 1 < W c
        · have v2 := (fa_lt _ _).mp v
          rw [if_pos v, zInc1, Nat.mod_eq_of_lt (by omega)]
        · have v2 : ¬ (nI (aRd W w c) + 1).toInt < (W c).toInt := fun z => v ((fa_lt _ _).mpr z)
          rw [if_neg v, show aRd W w c + 1 = aCh W c by omega, Nat.mod_self]
          rfl
      have hT2 : zTurn P zS0 W (nI c) = nI (aRd W (aTn W w c) c) := by
        rw [hT, show (W c).toNatClampNeg = ((W c).toNatClampNeg - 1) + 1 by omega, zTurnR, if_pos (zBit_z _), hN]
      have lt2 := aRd_lt (W := W) (w := aTn W w c) (c := c)
      have er := nI_toInt (n := aRd W (aTn W w c) c) (by omega)
      have er2 := nI_clamp (n := aRd W (aTn W w c) c) (by omega)
      have nn : ¬ zTurn P zS0 W (nI c) = -1 := fun z => by
        rw [hT2] at z
        have z := congrArg Int32.toInt z
        rw [er] at z
        have m1 : (-1 : Int32).toInt = -1 := rfl
        omega
      have b := hL c (aRd W (aTn W w c) c) q.1 (by omega) (by omega)
      have hS : zStep P zS0 W L (nI c) = L (4 * c + aRd W (aTn W w c) c) := by
        unfold zStep
        rw [if_neg nn, hT2, ek, er2]
      have eL : L (4 * c + aRd W (aTn W w c) c) = nI (L (4 * c + aRd W (aTn W w c) c)).toInt.toNat := z_nI (by omega) (by omega)
      have ns : ¬ zStep P zS0 W L (nI c) = -1 := fun z => by
        rw [hS] at z
        rw [z] at b
        exact absurd b.1 (by decide)
      have hP2 : ∀ j, j < 7 → 0 < (W j).toInt → zPost P zS0 W (nI c) j = aPo W (aTn W w c) j := fun j hj hw => by
        unfold zPost
        rw [if_neg nn, ek, hT2]
        unfold aPo
        by_cases v : j = c
        · rw [z_eq v, v]
        · rw [z_ne v, hP j hj hw]
          unfold aPo
          rw [tn j (by omega), if_neg v]
      have e1 : zRunN zS0 W L (n + 1) P (nI c) k = zRunN zS0 W L n (zPost P zS0 W (nI c)) (zStep P zS0 W L (nI c)) (k + 1) := by
        rw [zRunN, if_neg ns]
      have e2 : aN W L (n + 1) w c k = aN W L n (aTn W w c) (L (4 * c + aRd W (aTn W w c) c)).toInt.toNat (k + 1) := if_pos q
      rw [e1, e2, hS, eL]
      have ib := aN_run hL hW n (aTn W w c) (L (4 * c + aRd W (aTn W w c) c)).toInt.toNat (k + 1) _ (by omega) hP2
      rw [← eL] at ib ⊢
      exact ib
    · have z0 : (W c).toInt = 0 := by omega
      have hT2 : zTurn P zS0 W (nI c) = -1 := by
        rw [hT, show (W c).toNatClampNeg = 0 by omega]
        rfl
      have hS : zStep P zS0 W L (nI c) = -1 := by
        unfold zStep
        rw [if_pos hT2]
      have hP2 : zPost P zS0 W (nI c) = P := by
        unfold zPost
        rw [if_pos hT2]
      have e1 : zRunN zS0 W L (n + 1) P (nI c) k = (P, nI c, k) := by
        rw [zRunN, if_pos hS, hP2]
      rw [e1, aN_s q]
      exact ⟨hP, rfl, rfl⟩
/-- what n steps lead to from a place of the table -/
def aT (W L : Nat → Int32) (n i : Nat) : Nat := 8 * (aN W L n (i / 8) (i % 8) 0).1 + (aN W L n (i / 8) (i % 8) 0).2.1 + 131072 * (aN W L n (i / 8) (i % 8) 0).2.2
def aOk (W L : Nat → Int32) : Prop := (∀ j r : Nat, j < 7 → r < 4 → (r : Int) < (W j).toInt → 0 ≤ (L (4 * j + r)).toInt ∧ (L (4 * j + r)).toInt ≤ 6) ∧ (∀ j, j < 7 → 0 ≤ (W j).toInt ∧ (W j).toInt ≤ 4) ∧ aPr W 7 ≤ 16384
theorem aN_b7 {W L : Nat → Int32} (h : aOk W L) {n w c k : Nat} (hw : w < aPr W 7) (hc : c ≤ 7) : (aN W L n w c k).1 < aPr W 7 ∧ (aN W L n w c k).2.1 ≤ 7 ∧ (aN W L n w c k).2.2 ≤ n + k := by
  by_cases q : c ≤ 6
  · have t := aN_b h.1 (fun j hj => (h.2.1 j hj).2) n w c k hw q
    exact ⟨t.1, by omega, t.2.2⟩
  · rw [aN_s (by omega)]
    exact ⟨hw, hc, by show k ≤ n + k; omega⟩
theorem aT_b {W L : Nat → Int32} (h : aOk W L) {n i : Nat} (hi : i < 8 * aPr W 7) : aT W L n i % 131072 = 8 * (aN W L n (i / 8) (i % 8) 0).1 + (aN W L n (i / 8) (i % 8) 0).2.1 ∧ aT W L n i % 131072 < 8 * aPr W 7 ∧ aT W L n i ≤ 131071 + 131072 * n ∧ aT W L n i - aT W L n i % 131072 = 131072 * (aN W L n (i / 8) (i % 8) 0).2.2 ∧ (aN W L n (i / 8) (i % 8) 0).1 < aPr W 7 ∧ (aN W L n (i / 8) (i % 8) 0).2.1 ≤ 7 := by
  have t := aN_b7 h (n := n) (w := i / 8) (c := i % 8) (k := 0) (by omega) (by omega)
  have p := h.2.2
  unfold aT
  omega
/-- twice as many -/
theorem aT_a {W L : Nat → Int32} (h : aOk W L) {m n i : Nat} (hi : i < 8 * aPr W 7) : aT W L (m + n) i = aT W L n (aT W L m i % 131072) + (aT W L m i - aT W L m i % 131072) := by
  obtain ⟨e1, _, _, e4, e5, e6⟩ := aT_b h (n := m) hi
  rw [e4, e1]
  have d1 : (8 * (aN W L m (i / 8) (i % 8) 0).1 + (aN W L m (i / 8) (i % 8) 0).2.1) / 8 = (aN W L m (i / 8) (i % 8) 0).1 ∨ (aN W L m (i / 8) (i % 8) 0).2.1 = 8 := by omega
  have d2 : (8 * (aN W L m (i / 8) (i % 8) 0).1 + (aN W L m (i / 8) (i % 8) 0).2.1) % 8 = (aN W L m (i / 8) (i % 8) 0).2.1 := by omega
  have e := aN_a (W := W) (L := L) m n (i / 8) (i % 8) 0
  rw [aN_k n] at e
  unfold aT
  rw [d1.resolve_right (by omega), d2, e]
  show 8 * (aN W L n _ _ 0).1 + (aN W L n _ _ 0).2.1 + 131072 * ((aN W L n _ _ 0).2.2 + _) = _
  omega
/-- one step: what the table of one step holds -/
theorem aT_1 {W L : Nat → Int32} {i : Nat} : aT W L 1 i = if i % 8 < 7 ∧ 0 < (W (i % 8)).toInt then 8 * aTn W (i / 8) (i % 8) + (L (4 * (i % 8) + aRd W (aTn W (i / 8) (i % 8)) (i % 8))).toInt.toNat + 131072 else i := by
  unfold aT
  by_cases q : i % 8 < 7 ∧ 0 < (W (i % 8)).toInt
  · have e : aN W L 1 (i / 8) (i % 8) 0 = (aTn W (i / 8) (i % 8), (L (4 * (i % 8) + aRd W (aTn W (i / 8) (i % 8)) (i % 8))).toInt.toNat, 0 + 1) := if_pos q
    rw [e, if_pos q]
    rfl
  · rw [aN_s q, if_neg q]
    show 8 * (i / 8) + i % 8 + 131072 * 0 = i
    omega
/-- the land's ways out -/
def aW (cr inn : Int32) (k1 : Nat → Int32) : Nat → Int32 := fun j => zWays cr inn k1 (nI j)
theorem aCh_z {cr inn : Int32} {k1 k3 : Nat → Int32} (hI : zLI cr k1 k3) (c : Nat) : zCh cr inn k1 (nI c) = nI (aCh (aW cr inn k1) c) := by
  have h := zWays_le (inn := inn) hI (nI c)
  unfold zCh aCh aW
  by_cases q : zWays cr inn k1 (nI c) < 1
  · have q2 : (zWays cr inn k1 (nI c)).toInt < 1 := (fa_lt _ _).mp q
    rw [if_pos q, if_pos (by omega)]
    rfl
  · have q2 : ¬ (zWays cr inn k1 (nI c)).toInt < 1 := fun z => q ((fa_lt _ _).mpr z)
    rw [if_neg q, if_neg (by omega)]
    exact z_nI (by omega) (by omega)
theorem aCh_4 {cr inn : Int32} {k1 k3 : Nat → Int32} (hI : zLI cr k1 k3) (c : Nat) : aCh (aW cr inn k1) c ≤ 4 := by
  have h := zWays_le (inn := inn) hI (nI c)
  unfold aCh aW
  split <;> omega
theorem aPr_4 {cr inn : Int32} {k1 k3 : Nat → Int32} (hI : zLI cr k1 k3) : ∀ n, aPr (aW cr inn k1) n ≤ 4 ^ n
  | 0 => Nat.le_refl _
  | n + 1 => by
    rw [Nat.pow_succ]
    exact Nat.mul_le_mul (aPr_4 hI n) (aCh_4 hI _)
theorem aWyN_z {cr inn : Int32} {k1 k3 : Nat → Int32} (hI : zLI cr k1 k3) : ∀ n, n ≤ 7 → zWyN cr inn k1 n = nI (aPr (aW cr inn k1) n) := by
  have st : ∀ n, n ≤ 6 → zWyN cr inn k1 n = nI (aPr (aW cr inn k1) n) → zWyN cr inn k1 n * zCh cr inn k1 (nI (6 - n)) = nI (aPr (aW cr inn k1) (n + 1)) := fun n hn e => by
    rw [e, aCh_z hI, pk_mul]
    rfl
  have e0 : zWyN cr inn k1 0 = nI (aPr (aW cr inn k1) 0) := rfl
  have e1 : zWyN cr inn k1 1 = nI (aPr (aW cr inn k1) 1) := st 0 (by decide) e0
  have e2 : zWyN cr inn k1 2 = nI (aPr (aW cr inn k1) 2) := st 1 (by decide) e1
  have e3 : zWyN cr inn k1 3 = nI (aPr (aW cr inn k1) 3) := st 2 (by decide) e2
  have e4 : zWyN cr inn k1 4 = nI (aPr (aW cr inn k1) 4) := st 3 (by decide) e3
  have e5 : zWyN cr inn k1 5 = nI (aPr (aW cr inn k1) 5) := st 4 (by decide) e4
  have e6 : zWyN cr inn k1 6 = nI (aPr (aW cr inn k1) 6) := st 5 (by decide) e5
  have e7 : zWyN cr inn k1 7 = nI (aPr (aW cr inn k1) 7) := st 6 (by decide) e6
  intro n hn
  rcases (show n = 0 ∨ n = 1 ∨ n = 2 ∨ n = 3 ∨ n = 4 ∨ n = 5 ∨ n = 6 ∨ n = 7 by omega) with q | q | q | q | q | q | q | q <;> rw [q] <;> assumption
theorem aPr_7 {cr inn : Int32} {k1 k3 : Nat → Int32} (hI : zLI cr k1 k3) : aPr (aW cr inn k1) 7 ≤ 16384 := aPr_4 hI 7
theorem zWy_z {cr inn : Int32} {k1 k3 : Nat → Int32} (hI : zLI cr k1 k3) : zWy cr inn k1 = nI (aPr (aW cr inn k1) 7) := aWyN_z hI 7 (by decide)
theorem zPl_z {cr inn : Int32} {k1 k3 : Nat → Int32} (hI : zLI cr k1 k3) : zPl cr inn k1 = nI (8 * aPr (aW cr inn k1) 7) := by
  have h := aPr_7 (inn := inn) hI
  have e : zWy cr inn k1 <<< (3 &&& 31) = nI (8 * aPr (aW cr inn k1) 7) := by
    rw [zWy_z hI, pk_shlN (3 &&& 31) 3 (by decide) (by omega), Nat.mul_comm]
  unfold zPl
  rw [e, if_neg]
  intro z
  have z2 := (fa_lt _ _).mp z
  rw [nI_toInt (by omega)] at z2
  have : (131072 : Int32).toInt = 131072 := rfl
  omega
theorem aPr_le {W : Nat → Int32} {m n : Nat} (h : m ≤ n) : aPr W m ≤ aPr W n := by
  obtain ⟨s, e⟩ := aPr_d (W := W) h
  have p := aPr_p (W := W) n
  have s1 : 1 ≤ s := by
    rcases Nat.eq_zero_or_pos s with q | q
    · rw [q, Nat.mul_zero] at e
      omega
    · exact q
  rw [e]
  exact Nat.le_mul_of_pos_right _ s1
/-- what choices and weights hold -/
def aF (cr inn : Int32) (k1 f1 f2 : Nat → Int32) : Prop := (∀ c, c < 7 → f1 c = zCh cr inn k1 (nI c)) ∧ ∀ c, c < 7 → f2 c = zWyN cr inn k1 (6 - c)
theorem zRoad_z {cr inn : Int32} {k1 k3 f1 f2 : Nat → Int32} (hI : zLI cr k1 k3) (hF : aF cr inn k1 f1 f2) {w c : Nat} (hw : w < 2147483648) (hc : c < 7) : zRoad f1 f2 (nI w) (nI c) = nI (aRd (aW cr inn k1) w c) := by
  have ec := nI_toInt (n := c) (by omega)
  have ek : (nI c).toNatClampNeg = c := pk_cl c
  have e1 : f1 c = nI (aCh (aW cr inn k1) c) := (hF.1 c hc).trans (aCh_z hI c)
  have e2 : f2 c = nI (aPr (aW cr inn k1) (6 - c)) := (hF.2 c hc).trans (aWyN_z hI _ (by omega))
  have p1 := aCh_p (W := aW cr inn k1) (c := c)
  have p2 := aPr_p (W := aW cr inn k1) (6 - c)
  have p3 := aCh_4 (inn := inn) hI c
  have p4 := aPr_le (W := aW cr inn k1) (m := 6 - c) (n := 7) (by omega)
  have p5 := aPr_7 (inn := inn) hI
  have q1 := nI_toInt (n := aCh (aW cr inn k1) c) (by omega)
  have q2 := nI_toInt (n := aPr (aW cr inn k1) (6 - c)) (by omega)
  have d := Nat.div_le_self w (aPr (aW cr inn k1) (6 - c))
  unfold zRoad
  rw [ek, e1, e2, if_neg (by omega), pk_div hw (by omega) (by omega), pk_rem (by omega) (by omega) (by omega)]
  rfl
/-- the way when a post turns, as it is reckoned -/
theorem aTn_z {W : Nat → Int32} {w c : Nat} (hc : c ≤ 6) : (aRd W w c + 1 < aCh W c → aTn W w c = w + aPr W (6 - c)) ∧ (¬ aRd W w c + 1 < aCh W c → w = aTn W w c + (aCh W c - 1) * aPr W (6 - c)) := by
  have hp := aPr_p (W := W) (6 - c)
  have hm := aCh_p (W := W) (c := c)
  have lt := aRd_lt (W := W) (w := w) (c := c)
  have E := aDc (w := w) (p := aPr W (6 - c)) (m := aCh W c) hp
  have T : aTn W w c = w / (aPr W (6 - c) * aCh W c) * (aPr W (6 - c) * aCh W c) + ((aRd W w c + 1) % aCh W c) * aPr W (6 - c) + w % aPr W (6 - c) := by
    unfold aTn
    rw [aPr_s hc]
  have R : w / aPr W (6 - c) % aCh W c = aRd W w c := rfl
  rw [R] at E
  constructor
  · intro q
    rw [Nat.mod_eq_of_lt q, Nat.add_mul, Nat.one_mul] at T
    omega
  · intro q
    have e : aRd W w c = aCh W c - 1 := by omega
    rw [show aRd W w c + 1 = aCh W c by omega, Nat.mod_self, Nat.zero_mul] at T
    rw [e] at E
    omega

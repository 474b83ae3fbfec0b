theorem pk_vb2 {x : Int32} (h : x.toInt8.toInt32 = x) : vp_nar .byte x = x := (vp_nar_byte x).trans h
set_option maxHeartbeats 4000000 in
set_option maxRecDepth 100000 in
/-- takeAll -/
theorem c_f_Told_takeAll (l : Launch) (T : zTy) (t : Nat) (l0 : Nat) (l1 : Nat) (d0 : Nat) (d1 : Nat) (g0 : Nat) (g1 : Nat) (ln : Int32) (fl : Int32) (pl : Int32) (ft : Nat → Int32) (fk : Nat → Int32) (wt : va_W) (cr0_ : Int32) (inn0_ : Int32) (k10_ : Nat → Int32) (k20_ : Nat → Int32) (k30_ : Nat → Int32) (k40_ : Nat → Int32) (z0_ : va_W) (cr1_ : Int32) (inn1_ : Int32) (k11_ : Nat → Int32) (k21_ : Nat → Int32) (k31_ : Nat → Int32) (k41_ : Nat → Int32) (z1_ : va_W) (dd0_ : Int32) (p10_ : Nat → Int32) (p20_ : Nat → Int32) (p30_ : Nat → Int32) (wd0_ : va_W) (dd1_ : Int32) (p11_ : Nat → Int32) (p21_ : Nat → Int32) (p31_ : Nat → Int32) (wd1_ : va_W) (gg0_ : Int32) (q10_ : Nat → Int32) (q20_ : Nat → Int32) (wg0_ : va_W) (gg1_ : Int32) (q11_ : Nat → Int32) (q21_ : Nat → Int32) (wg1_ : va_W) (o : Nat) (l0o : Nat) (l1o : Nat) (d0o : Nat) (d1o : Nat) (g0o : Nat) (g1o : Nat) (lno : Int32) (flo : Int32) (plo : Int32) (fto : Nat → Int32) (fko : Nat → Int32) (wto : va_W) (cr0_o : Int32) (inn0_o : Int32) (k10_o : Nat → Int32) (k20_o : Nat → Int32) (k30_o : Nat → Int32) (k40_o : Nat → Int32) (z0_o : va_W) (cr1_o : Int32) (inn1_o : Int32) (k11_o : Nat → Int32) (k21_o : Nat → Int32) (k31_o : Nat → Int32) (k41_o : Nat → Int32) (z1_o : va_W) (dd0_o : Int32) (p10_o : Nat → Int32) (p20_o : Nat → Int32) (p30_o : Nat → Int32) (wd0_o : va_W) (dd1_o : Int32) (p11_o : Nat → Int32) (p21_o : Nat → Int32) (p31_o : Nat → Int32) (wd1_o : va_W) (gg0_o : Int32) (q10_o : Nat → Int32) (q20_o : Nat → Int32) (wg0_o : va_W) (gg1_o : Int32) (q11_o : Nat → Int32) (q21_o : Nat → Int32) (wg1_o : va_W) (Gr : Nat → Int32) (ht : bTold T t l0 l1 d0 d1 g0 g1 ln fl pl ft fk wt) (hK : zKT fk) (hz0_ : bLand T l0 cr0_ inn0_ k10_ k20_ k30_ k40_ z0_) (hI0_ : zLI cr0_ k10_ k30_) (hz1_ : bLand T l1 cr1_ inn1_ k11_ k21_ k31_ k41_ z1_) (hI1_ : zLI cr1_ k11_ k31_) (hd0_ : bDay T d0 dd0_ p10_ p20_ p30_ wd0_) (hd1_ : bDay T d1 dd1_ p11_ p21_ p31_ wd1_) (hg0_ : bLog T g0 gg0_ q10_ q20_ wg0_) (hg1_ : bLog T g1 gg1_ q11_ q21_ wg1_) (hto : bTold T o l0o l1o d0o d1o g0o g1o lno flo plo fto fko wto) (hKo : zKT fko) (hz0_o : bLand T l0o cr0_o inn0_o k10_o k20_o k30_o k40_o z0_o) (hI0_o : zLI cr0_o k10_o k30_o) (hz1_o : bLand T l1o cr1_o inn1_o k11_o k21_o k31_o k41_o z1_o) (hI1_o : zLI cr1_o k11_o k31_o) (hd0_o : bDay T d0o dd0_o p10_o p20_o p30_o wd0_o) (hd1_o : bDay T d1o dd1_o p11_o p21_o p31_o wd1_o) (hg0_o : bLog T g0o gg0_o q10_o q20_o wg0_o) (hg1_o : bLog T g1o gg1_o q11_o q21_o wg1_o) (hTo : zTR lno flo plo fto fko cr0_o inn0_o k10_o k20_o k30_o k40_o cr1_o inn1_o k11_o k21_o k31_o k41_o dd0_o p10_o p20_o p30_o dd1_o p11_o p21_o p31_o gg0_o q10_o q20_o gg1_o q11_o q21_o Gr) : zMv l T yX9_takeAll cX9_takeAll 3 2 0 0 [.ref t, .ref o] [wt, z0_, z1_, wd0_, wd1_, wg0_, wg1_, wto, z0_o, z1_o, wd0_o, wd1_o, wg0_o, wg1_o] (fun bs => ∃ (wt2 : va_W) (g9 : Nat → Int32) (fk2 : Nat → Int32) (w2_0 : va_W) (s0_0 : Nat → Int32) (s0_1 : Nat → Int32) (s0_2 : Nat → Int32) (s0_3 : Nat → Int32) (w2_1 : va_W) (s1_0 : Nat → Int32) (s1_1 : Nat → Int32) (s1_2 : Nat → Int32) (s1_3 : Nat → Int32) (w2_2 : va_W) (s2_0 : Nat → Int32) (s2_1 : Nat → Int32) (s2_2 : Nat → Int32) (w2_3 : va_W) (s3_0 : Nat → Int32) (s3_1 : Nat → Int32) (s3_2 : Nat → Int32) (w2_4 : va_W) (s4_0 : Nat → Int32) (s4_1 : Nat → Int32) (w2_5 : va_W) (s5_0 : Nat → Int32) (s5_1 : Nat → Int32), bs = [wt2, w2_0, w2_1, w2_2, w2_3, w2_4, w2_5, wto, z0_o, z1_o, wd0_o, wd1_o, wg0_o, wg1_o] ∧ bTold T t l0 l1 d0 d1 g0 g1 lno flo plo g9 fk2 wt2 ∧ zKT fk2 ∧ bLand T l0 cr0_o inn0_o s0_0 s0_1 s0_2 s0_3 w2_0 ∧ bLand T l1 cr1_o inn1_o s1_0 s1_1 s1_2 s1_3 w2_1 ∧ bDay T d0 dd0_o s2_0 s2_1 s2_2 w2_2 ∧ bDay T d1 dd1_o s3_0 s3_1 s3_2 w2_3 ∧ bLog T g0 gg0_o s4_0 s4_1 w2_4 ∧ bLog T g1 gg1_o s5_0 s5_1 w2_5 ∧ zLI cr0_o s0_0 s0_2 ∧ zLI cr1_o s1_0 s1_2 ∧ zTR lno flo plo g9 fk2 cr0_o inn0_o s0_0 s0_1 s0_2 s0_3 cr1_o inn1_o s1_0 s1_1 s1_2 s1_3 dd0_o s2_0 s2_1 s2_2 dd1_o s3_0 s3_1 s3_2 gg0_o s4_0 s4_1 gg1_o s5_0 s5_1 Gr) := by
  refine zMv_of (own := RX9) (by decide) rfl (Nat.le_of_ble_eq_true rfl) ?_
  intro p e s m args below meth c A ls C hr hlocks hnm hAe G hl
  refine zHide (fun Qz_ hQz_ => ?_)
  have hx := C.1
  have hb := C.2.1
  have hl : lv_has ls 3 [(0, .ref t), (1, .ref o)] := hl
  refine lv_iconst (v := 0) hx hb dX9_takeAll_0 (by decide) ?_
  refine lv_istore_n (lv' := [(2, .int 0), (0, .ref t), (1, .ref o)]) hx hb dX9_takeAll_1 rfl hl (by decide) (zLvf_h rfl) (fun ls hl => ?_)
  refine zEx8 ht ?_
  intro a1_1 a2_2 a3_3 a4_4 a5_5 q1_6 q2_7 q3_8
  refine zCu7 ?_
  intro hbs9 h_9 h_10 h_11 h_12 h_13 h_14
  clear ht
  subst hbs9
  have G : zS T A s.heap s [[zO8 t a1_1 ln fl pl a2_2 a3_3 a4_4 a5_5], [zAr T 1 a1_1 600 ft], [zAr T 0 a2_2 3 fk], [zArq T 3 a3_3 2 q1_6], [zArq T 4 a4_4 2 q2_7], [zArq T 5 a5_5 2 q3_8], z0_, z1_, wd0_, wd1_, wg0_, wg1_, wto, z0_o, z1_o, wd0_o, wd1_o, wg0_o, wg1_o] _ _ := G.re rfl
  refine zEx8 hto ?_
  intro a1_15 a2_16 a3_17 a4_18 a5_19 q1_20 q2_21 q3_22
  refine zCu7 ?_
  intro hbs9 h_23 h_24 h_25 h_26 h_27 h_28
  clear hto
  subst hbs9
  have G : zS T A s.heap s [[zO8 t a1_1 ln fl pl a2_2 a3_3 a4_4 a5_5], [zAr T 1 a1_1 600 ft], [zAr T 0 a2_2 3 fk], [zArq T 3 a3_3 2 q1_6], [zArq T 4 a4_4 2 q2_7], [zArq T 5 a5_5 2 q3_8], z0_, z1_, wd0_, wd1_, wg0_, wg1_, [zO8 o a1_15 lno flo plo a2_16 a3_17 a4_18 a5_19], [zAr T 1 a1_15 600 fto], [zAr T 0 a2_16 3 fko], [zArq T 3 a3_17 2 q1_20], [zArq T 4 a4_18 2 q2_21], [zArq T 5 a5_19 2 q3_22], z0_o, z1_o, wd0_o, wd1_o, wg0_o, wg1_o] _ _ := G.re rfl
  have hw_29 : bTold T t l0 l1 d0 d1 g0 g1 ln fl pl ft fk [zO8 t a1_1 ln fl pl a2_2 a3_3 a4_4 a5_5, zAr T 1 a1_1 600 ft, zAr T 0 a2_2 3 fk, zArq T 3 a3_3 2 q1_6, zArq T 4 a4_4 2 q2_7, zArq T 5 a5_5 2 q3_8] := ⟨a1_1, a2_2, a3_3, a4_4, a5_5, q1_6, q2_7, q3_8, rfl, h_9, h_10, h_11, h_12, h_13, h_14⟩
  have G : zS T A s.heap s [[zO8 t a1_1 ln fl pl a2_2 a3_3 a4_4 a5_5, zAr T 1 a1_1 600 ft, zAr T 0 a2_2 3 fk, zArq T 3 a3_3 2 q1_6, zArq T 4 a4_4 2 q2_7, zArq T 5 a5_5 2 q3_8], z0_, z1_, wd0_, wd1_, wg0_, wg1_, [zO8 o a1_15 lno flo plo a2_16 a3_17 a4_18 a5_19], [zAr T 1 a1_15 600 fto], [zAr T 0 a2_16 3 fko], [zArq T 3 a3_17 2 q1_20], [zArq T 4 a4_18 2 q2_21], [zArq T 5 a5_19 2 q3_22], z0_o, z1_o, wd0_o, wd1_o, wg0_o, wg1_o] _ _ := G.re rfl
  have hw_30 : bTold T o l0o l1o d0o d1o g0o g1o lno flo plo fto fko [zO8 o a1_15 lno flo plo a2_16 a3_17 a4_18 a5_19, zAr T 1 a1_15 600 fto, zAr T 0 a2_16 3 fko, zArq T 3 a3_17 2 q1_20, zArq T 4 a4_18 2 q2_21, zArq T 5 a5_19 2 q3_22] := ⟨a1_15, a2_16, a3_17, a4_18, a5_19, q1_20, q2_21, q3_22, rfl, h_23, h_24, h_25, h_26, h_27, h_28⟩
  have G : zS T A s.heap s [[zO8 t a1_1 ln fl pl a2_2 a3_3 a4_4 a5_5, zAr T 1 a1_1 600 ft, zAr T 0 a2_2 3 fk, zArq T 3 a3_3 2 q1_6, zArq T 4 a4_4 2 q2_7, zArq T 5 a5_5 2 q3_8], z0_, z1_, wd0_, wd1_, wg0_, wg1_, [zO8 o a1_15 lno flo plo a2_16 a3_17 a4_18 a5_19, zAr T 1 a1_15 600 fto, zAr T 0 a2_16 3 fko, zArq T 3 a3_17 2 q1_20, zArq T 4 a4_18 2 q2_21, zArq T 5 a5_19 2 q3_22], z0_o, z1_o, wd0_o, wd1_o, wg0_o, wg1_o] _ _ := G.re rfl
  refine z_lp3 (T := T) 2 (fun (i : Nat) (wt9 : va_W) (x9 : Nat → Int32) => [wt9, z0_, z1_, wd0_, wd1_, wg0_, wg1_, [zO8 o a1_15 lno flo plo a2_16 a3_17 a4_18 a5_19, zAr T 1 a1_15 600 fto, zAr T 0 a2_16 3 fko, zArq T 3 a3_17 2 q1_20, zArq T 4 a4_18 2 q2_21, zArq T 5 a5_19 2 q3_22], z0_o, z1_o, wd0_o, wd1_o, wg0_o, wg1_o]) (fun (i : Nat) (wt9 : va_W) (x9 : Nat → Int32) => [(2, .int (nI i)), (0, .ref t), (1, .ref o)]) (fun (i : Nat) (wt9 : va_W) (x9 : Nat → Int32) => bTold T t l0 l1 d0 d1 g0 g1 ln fl pl x9 fk wt9 ∧ i ≤ 600 ∧ (∀ j, j < i → x9 j = fto j)) (fun (i : Nat) (wt9 : va_W) (x9 : Nat → Int32) => 600 - i) ?_ 0 ([zO8 t a1_1 ln fl pl a2_2 a3_3 a4_4 a5_5, zAr T 1 a1_1 600 ft, zAr T 0 a2_2 3 fk, zArq T 3 a3_3 2 q1_6, zArq T 4 a4_4 2 q2_7, zArq T 5 a5_5 2 q3_8]) ft (show bTold T t l0 l1 d0 d1 g0 g1 ln fl pl ft fk ([zO8 t a1_1 ln fl pl a2_2 a3_3 a4_4 a5_5, zAr T 1 a1_1 600 ft, zAr T 0 a2_2 3 fk, zArq T 3 a3_3 2 q1_6, zArq T 4 a4_4 2 q2_7, zArq T 5 a5_5 2 q3_8]) ∧ 0 ≤ 600 ∧ (∀ j, j < 0 → ft j = fto j) from ⟨hw_29, by omega, (fun j hj => absurd hj (Nat.not_lt_zero _))⟩) G (lv_sub hl [0, 1, 2] rfl)
  intro i wt9 x9 hI9 ih_2 H locs ls G hl
  replace hI9 : bTold T t l0 l1 d0 d1 g0 g1 ln fl pl x9 fk wt9 ∧ i ≤ 600 ∧ (∀ j, j < i → x9 j = fto j) := hI9
  refine zAn3 hI9 ?_
  intro ht9 hi hx9
  clear hI9
  replace G : zS T A s.heap s [wt9, z0_, z1_, wd0_, wd1_, wg0_, wg1_, [zO8 o a1_15 lno flo plo a2_16 a3_17 a4_18 a5_19, zAr T 1 a1_15 600 fto, zAr T 0 a2_16 3 fko, zArq T 3 a3_17 2 q1_20, zArq T 4 a4_18 2 q2_21, zArq T 5 a5_19 2 q3_22], z0_o, z1_o, wd0_o, wd1_o, wg0_o, wg1_o] _ _ := G
  replace hl : lv_has ls 3 [(2, .int (nI i)), (0, .ref t), (1, .ref o)] := hl
  refine lv_iload_n hx hb dX9_takeAll_2 rfl (lv_at hl 0 rfl) ?_
  refine lv_sipush (v := 600) hx hb dX9_takeAll_3 (by decide) ?_
  refine lv_icmp_ge (tgt := 27) hx hb dX9_takeAll_6 (by decide) (fun c_31 => ?_) (fun c_31 => ?_)
  · have c_31n : 600 ≤ i := (nI_leI (a := 600) (b := i) (by omega) (by omega)).mp c_31
    refine lv_aload_n hx hb dX9_takeAll_27 rfl (lv_at hl 1 rfl) ?_
    refine lv_aload_n hx hb dX9_takeAll_28 rfl (lv_at hl 2 rfl) ?_
    have G : zS T A s.heap s [wt9, z0_, z1_, wd0_, wd1_, wg0_, wg1_, [zO8 o a1_15 lno flo plo a2_16 a3_17 a4_18 a5_19], [zAr T 1 a1_15 600 fto], [zAr T 0 a2_16 3 fko], [zArq T 3 a3_17 2 q1_20], [zArq T 4 a4_18 2 q2_21], [zArq T 5 a5_19 2 q3_22], z0_o, z1_o, wd0_o, wd1_o, wg0_o, wg1_o] _ _ := G.re rfl
    refine z_get C G clX9 7 rfl 1 (by decide) m_fl_RX9_44 rfl dX9_takeAll_29 ?_
    refine zEx8 ht9 ?_
    intro a1_32 a2_33 a3_34 a4_35 a5_36 q1_37 q2_38 q3_39
    refine zCu7 ?_
    intro hbs9 h_40 h_41 h_42 h_43 h_44 h_45
    clear ht9
    subst hbs9
    have G : zS T A s.heap s [[zO8 t a1_32 ln fl pl a2_33 a3_34 a4_35 a5_36], [zAr T 1 a1_32 600 x9], [zAr T 0 a2_33 3 fk], [zArq T 3 a3_34 2 q1_37], [zArq T 4 a4_35 2 q2_38], [zArq T 5 a5_36 2 q3_39], z0_, z1_, wd0_, wd1_, wg0_, wg1_, [zO8 o a1_15 lno flo plo a2_16 a3_17 a4_18 a5_19], [zAr T 1 a1_15 600 fto], [zAr T 0 a2_16 3 fko], [zArq T 3 a3_17 2 q1_20], [zArq T 4 a4_18 2 q2_21], [zArq T 5 a5_19 2 q3_22], z0_o, z1_o, wd0_o, wd1_o, wg0_o, wg1_o] _ _ := G.re rfl
    refine z_put C G clX9 0 rfl 1 (by decide) m_fl_RX9_44 rfl rfl rfl (Nat.le_of_ble_eq_true rfl) dX9_takeAll_32 (fun H locs G => ?_)
    have G : zS T A s.heap s [[zO8 t a1_32 lno fl pl a2_33 a3_34 a4_35 a5_36], [zAr T 1 a1_32 600 x9], [zAr T 0 a2_33 3 fk], [zArq T 3 a3_34 2 q1_37], [zArq T 4 a4_35 2 q2_38], [zArq T 5 a5_36 2 q3_39], z0_, z1_, wd0_, wd1_, wg0_, wg1_, [zO8 o a1_15 lno flo plo a2_16 a3_17 a4_18 a5_19], [zAr T 1 a1_15 600 fto], [zAr T 0 a2_16 3 fko], [zArq T 3 a3_17 2 q1_20], [zArq T 4 a4_18 2 q2_21], [zArq T 5 a5_19 2 q3_22], z0_o, z1_o, wd0_o, wd1_o, wg0_o, wg1_o] _ _ := G
    refine lv_aload_n hx hb dX9_takeAll_35 rfl (lv_at hl 1 rfl) ?_
    refine lv_aload_n hx hb dX9_takeAll_36 rfl (lv_at hl 2 rfl) ?_
    refine z_get C G clX9 12 rfl 2 (by decide) m_fl_RX9_77 rfl dX9_takeAll_37 ?_
    refine z_put C G clX9 0 rfl 2 (by decide) m_fl_RX9_77 rfl rfl rfl (Nat.le_of_ble_eq_true rfl) dX9_takeAll_40 (fun H locs G => ?_)
    have G : zS T A s.heap s [[zO8 t a1_32 lno flo pl a2_33 a3_34 a4_35 a5_36], [zAr T 1 a1_32 600 x9], [zAr T 0 a2_33 3 fk], [zArq T 3 a3_34 2 q1_37], [zArq T 4 a4_35 2 q2_38], [zArq T 5 a5_36 2 q3_39], z0_, z1_, wd0_, wd1_, wg0_, wg1_, [zO8 o a1_15 lno flo plo a2_16 a3_17 a4_18 a5_19], [zAr T 1 a1_15 600 fto], [zAr T 0 a2_16 3 fko], [zArq T 3 a3_17 2 q1_20], [zArq T 4 a4_18 2 q2_21], [zArq T 5 a5_19 2 q3_22], z0_o, z1_o, wd0_o, wd1_o, wg0_o, wg1_o] _ _ := G
    refine lv_aload_n hx hb dX9_takeAll_43 rfl (lv_at hl 1 rfl) ?_
    refine lv_aload_n hx hb dX9_takeAll_44 rfl (lv_at hl 2 rfl) ?_
    refine z_get C G clX9 12 rfl 3 (by decide) m_fl_RX9_15 rfl dX9_takeAll_45 ?_
    refine z_put C G clX9 0 rfl 3 (by decide) m_fl_RX9_15 rfl rfl rfl (Nat.le_of_ble_eq_true rfl) dX9_takeAll_48 (fun H locs G => ?_)
    have G : zS T A s.heap s [[zO8 t a1_32 lno flo plo a2_33 a3_34 a4_35 a5_36], [zAr T 1 a1_32 600 x9], [zAr T 0 a2_33 3 fk], [zArq T 3 a3_34 2 q1_37], [zArq T 4 a4_35 2 q2_38], [zArq T 5 a5_36 2 q3_39], z0_, z1_, wd0_, wd1_, wg0_, wg1_, [zO8 o a1_15 lno flo plo a2_16 a3_17 a4_18 a5_19], [zAr T 1 a1_15 600 fto], [zAr T 0 a2_16 3 fko], [zArq T 3 a3_17 2 q1_20], [zArq T 4 a4_18 2 q2_21], [zArq T 5 a5_19 2 q3_22], z0_o, z1_o, wd0_o, wd1_o, wg0_o, wg1_o] _ _ := G
    refine lv_iconst (v := 0) hx hb dX9_takeAll_51 (by decide) ?_
    refine lv_istore_n (lv' := [(2, .int 0), (0, .ref t), (1, .ref o)]) hx hb dX9_takeAll_52 rfl hl (by decide) (zLvf_h rfl) (fun ls hl => ?_)
    refine lv_iload_n hx hb dX9_takeAll_53 rfl (lv_at hl 0 rfl) ?_
    refine lv_iconst (v := 2) hx hb dX9_takeAll_54 (by decide) ?_
    refine lv_icmp_gt (tgt := 76) hx hb dX9_takeAll_55 (by decide) (fun q => absurd q (by decide)) (fun _ => ?_)
    refine lv_aload_n hx hb dX9_takeAll_58 rfl (lv_at hl 1 rfl) ?_
    refine z_get C G clX9 0 rfl 4 (by decide) m_fl_RX9_19 rfl dX9_takeAll_59 ?_
    refine lv_iload_n hx hb dX9_takeAll_62 rfl (lv_at hl 0 rfl) ?_
    refine lv_aload_n hx hb dX9_takeAll_63 rfl (lv_at hl 2 rfl) ?_
    refine z_get C G clX9 12 rfl 4 (by decide) m_fl_RX9_19 rfl dX9_takeAll_64 ?_
    refine lv_iload_n hx hb dX9_takeAll_67 rfl (lv_at hl 0 rfl) ?_
    refine z_ild C G 14 rfl (vp_in_nI (n := 0) (by decide) (by decide)) dX9_takeAll_68 ?_
    refine lv_topi (fun v_46 ev_46 => ?_)
    rw [show ((0 : Int32).toNatClampNeg) = 0 from rfl] at ev_46
    subst ev_46
    refine z_ist C G 2 rfl (vp_in_nI (n := 0) (by decide) (by decide)) dX9_takeAll_69 (fun H locs G => ?_)
    have G : zS T A s.heap s [[zO8 t a1_32 lno flo plo a2_33 a3_34 a4_35 a5_36], [zAr T 1 a1_32 600 x9], [zAr T 0 a2_33 3 (upd fk 0 (fko 0))], [zArq T 3 a3_34 2 q1_37], [zArq T 4 a4_35 2 q2_38], [zArq T 5 a5_36 2 q3_39], z0_, z1_, wd0_, wd1_, wg0_, wg1_, [zO8 o a1_15 lno flo plo a2_16 a3_17 a4_18 a5_19], [zAr T 1 a1_15 600 fto], [zAr T 0 a2_16 3 fko], [zArq T 3 a3_17 2 q1_20], [zArq T 4 a4_18 2 q2_21], [zArq T 5 a5_19 2 q3_22], z0_o, z1_o, wd0_o, wd1_o, wg0_o, wg1_o] _ _ := G
    refine lv_iinc (v := 1) (lv' := [(2, .int 1), (0, .ref t), (1, .ref o)]) hx hb dX9_takeAll_70 hl (k := 0) rfl (by decide) (by decide) (zLvf_h rfl) (fun ls hl => ?_)
    refine lv_goto (tgt := 53) hx hb dX9_takeAll_73 (by decide) ?_
    refine lv_iload_n hx hb dX9_takeAll_53 rfl (lv_at hl 0 rfl) ?_
    refine lv_iconst (v := 2) hx hb dX9_takeAll_54 (by decide) ?_
    refine lv_icmp_gt (tgt := 76) hx hb dX9_takeAll_55 (by decide) (fun q => absurd q (by decide)) (fun _ => ?_)
    refine lv_aload_n hx hb dX9_takeAll_58 rfl (lv_at hl 1 rfl) ?_
    refine z_get C G clX9 0 rfl 4 (by decide) m_fl_RX9_19 rfl dX9_takeAll_59 ?_
    refine lv_iload_n hx hb dX9_takeAll_62 rfl (lv_at hl 0 rfl) ?_
    refine lv_aload_n hx hb dX9_takeAll_63 rfl (lv_at hl 2 rfl) ?_
    refine z_get C G clX9 12 rfl 4 (by decide) m_fl_RX9_19 rfl dX9_takeAll_64 ?_
    refine lv_iload_n hx hb dX9_takeAll_67 rfl (lv_at hl 0 rfl) ?_
    refine z_ild C G 14 rfl (vp_in_nI (n := 1) (by decide) (by decide)) dX9_takeAll_68 ?_
    refine lv_topi (fun v_47 ev_47 => ?_)
    rw [show ((1 : Int32).toNatClampNeg) = 1 from rfl] at ev_47
    subst ev_47
    refine z_ist C G 2 rfl (vp_in_nI (n := 1) (by decide) (by decide)) dX9_takeAll_69 (fun H locs G => ?_)
    have G : zS T A s.heap s [[zO8 t a1_32 lno flo plo a2_33 a3_34 a4_35 a5_36], [zAr T 1 a1_32 600 x9], [zAr T 0 a2_33 3 (upd (upd fk 0 (fko 0)) 1 (fko 1))], [zArq T 3 a3_34 2 q1_37], [zArq T 4 a4_35 2 q2_38], [zArq T 5 a5_36 2 q3_39], z0_, z1_, wd0_, wd1_, wg0_, wg1_, [zO8 o a1_15 lno flo plo a2_16 a3_17 a4_18 a5_19], [zAr T 1 a1_15 600 fto], [zAr T 0 a2_16 3 fko], [zArq T 3 a3_17 2 q1_20], [zArq T 4 a4_18 2 q2_21], [zArq T 5 a5_19 2 q3_22], z0_o, z1_o, wd0_o, wd1_o, wg0_o, wg1_o] _ _ := G
    refine lv_iinc (v := 2) (lv' := [(2, .int 2), (0, .ref t), (1, .ref o)]) hx hb dX9_takeAll_70 hl (k := 0) rfl (by decide) (by decide) (zLvf_h rfl) (fun ls hl => ?_)
    refine lv_goto (tgt := 53) hx hb dX9_takeAll_73 (by decide) ?_
    refine lv_iload_n hx hb dX9_takeAll_53 rfl (lv_at hl 0 rfl) ?_
    refine lv_iconst (v := 2) hx hb dX9_takeAll_54 (by decide) ?_
    refine lv_icmp_gt (tgt := 76) hx hb dX9_takeAll_55 (by decide) (fun q => absurd q (by decide)) (fun _ => ?_)
    refine lv_aload_n hx hb dX9_takeAll_58 rfl (lv_at hl 1 rfl) ?_
    refine z_get C G clX9 0 rfl 4 (by decide) m_fl_RX9_19 rfl dX9_takeAll_59 ?_
    refine lv_iload_n hx hb dX9_takeAll_62 rfl (lv_at hl 0 rfl) ?_
    refine lv_aload_n hx hb dX9_takeAll_63 rfl (lv_at hl 2 rfl) ?_
    refine z_get C G clX9 12 rfl 4 (by decide) m_fl_RX9_19 rfl dX9_takeAll_64 ?_
    refine lv_iload_n hx hb dX9_takeAll_67 rfl (lv_at hl 0 rfl) ?_
    refine z_ild C G 14 rfl (vp_in_nI (n := 2) (by decide) (by decide)) dX9_takeAll_68 ?_
    refine lv_topi (fun v_48 ev_48 => ?_)
    rw [show ((2 : Int32).toNatClampNeg) = 2 from rfl] at ev_48
    subst ev_48
    refine z_ist C G 2 rfl (vp_in_nI (n := 2) (by decide) (by decide)) dX9_takeAll_69 (fun H locs G => ?_)
    have G : zS T A s.heap s [[zO8 t a1_32 lno flo plo a2_33 a3_34 a4_35 a5_36], [zAr T 1 a1_32 600 x9], [zAr T 0 a2_33 3 (upd (upd (upd fk 0 (fko 0)) 1 (fko 1)) 2 (fko 2))], [zArq T 3 a3_34 2 q1_37], [zArq T 4 a4_35 2 q2_38], [zArq T 5 a5_36 2 q3_39], z0_, z1_, wd0_, wd1_, wg0_, wg1_, [zO8 o a1_15 lno flo plo a2_16 a3_17 a4_18 a5_19], [zAr T 1 a1_15 600 fto], [zAr T 0 a2_16 3 fko], [zArq T 3 a3_17 2 q1_20], [zArq T 4 a4_18 2 q2_21], [zArq T 5 a5_19 2 q3_22], z0_o, z1_o, wd0_o, wd1_o, wg0_o, wg1_o] _ _ := G
    refine lv_iinc (v := 3) (lv' := [(2, .int 3), (0, .ref t), (1, .ref o)]) hx hb dX9_takeAll_70 hl (k := 0) rfl (by decide) (by decide) (zLvf_h rfl) (fun ls hl => ?_)
    refine lv_goto (tgt := 53) hx hb dX9_takeAll_73 (by decide) ?_
    refine lv_iload_n hx hb dX9_takeAll_53 rfl (lv_at hl 0 rfl) ?_
    refine lv_iconst (v := 2) hx hb dX9_takeAll_54 (by decide) ?_
    refine lv_icmp_gt (tgt := 76) hx hb dX9_takeAll_55 (by decide) (fun _ => ?_) (fun q => absurd (by decide) q)
    refine lv_iconst (v := 0) hx hb dX9_takeAll_76 (by decide) ?_
    refine lv_istore_n (lv' := [(2, .int 0), (0, .ref t), (1, .ref o)]) hx hb dX9_takeAll_77 rfl hl (by decide) (zLvf_h rfl) (fun ls hl => ?_)
    refine lv_iload_n hx hb dX9_takeAll_78 rfl (lv_at hl 0 rfl) ?_
    refine lv_iconst (v := 2) hx hb dX9_takeAll_79 (by decide) ?_
    refine lv_icmp_ge (tgt := 134) hx hb dX9_takeAll_80 (by decide) (fun q => absurd q (by decide)) (fun _ => ?_)
    refine lv_aload_n hx hb dX9_takeAll_83 rfl (lv_at hl 1 rfl) ?_
    refine z_get C G clX9 0 rfl 5 (by decide) m_fl_RX9_26 rfl dX9_takeAll_84 ?_
    refine lv_iload_n hx hb dX9_takeAll_87 rfl (lv_at hl 0 rfl) ?_
    refine z_ald C G 3 3 rfl rfl (vp_in_nI (n := 0) (by decide) (by decide)) dX9_takeAll_88 ?_
    rw [show q1_37 ((0 : Int32).toNatClampNeg) = some l0 from h_40]
    refine lv_aload_n hx hb dX9_takeAll_89 rfl (lv_at hl 2 rfl) ?_
    refine z_get C G clX9 12 rfl 5 (by decide) m_fl_RX9_26 rfl dX9_takeAll_90 ?_
    refine lv_iload_n hx hb dX9_takeAll_93 rfl (lv_at hl 0 rfl) ?_
    refine z_ald C G 15 3 rfl rfl (vp_in_nI (n := 0) (by decide) (by decide)) dX9_takeAll_94 ?_
    rw [show q1_20 ((0 : Int32).toNatClampNeg) = some l0o from h_23]
    refine z_Vv (bc := [z0_, z0_o]) (br := [[zO8 t a1_32 lno flo plo a2_33 a3_34 a4_35 a5_36], [zAr T 1 a1_32 600 x9], [zAr T 0 a2_33 3 (upd (upd (upd fk 0 (fko 0)) 1 (fko 1)) 2 (fko 2))], [zArq T 3 a3_34 2 q1_37], [zArq T 4 a4_35 2 q2_38], [zArq T 5 a5_36 2 q3_39], z1_, wd0_, wd1_, wg0_, wg1_, [zO8 o a1_15 lno flo plo a2_16 a3_17 a4_18 a5_19], [zAr T 1 a1_15 600 fto], [zAr T 0 a2_16 3 fko], [zArq T 3 a3_17 2 q1_20], [zArq T 4 a4_18 2 q2_21], [zArq T 5 a5_19 2 q3_22], z1_o, wd0_o, wd1_o, wg0_o, wg1_o]) (As := [.ref l0o]) (rest := []) C G (c_Land_takeAll l T l0 l0o cr0_ inn0_ k10_ k20_ k30_ k40_ cr0_o inn0_o k10_o k20_o k30_o k40_o z0_ z0_o hz0_ hz0_o) (kV_RX9_53 C.2.2.2.2 (Nat.le_of_ble_eq_true rfl) (Nat.le_of_ble_eq_true rfl)) [6, 18] [6, 11] rfl rfl (ci := 4) (qc := (RX4, TX4, 6)) rfl rfl (List.mem_flatten.mpr ⟨_, List.mem_of_getElem? (i := 0) rfl, (bLand_mem hz0_).choose_spec⟩) rfl rfl hl.1 dX9_takeAll_95 (Nat.le_of_ble_eq_true rfl) (Nat.le_of_ble_eq_true rfl) (fun b1 H locs hw G => ?_)
    refine zEx5 hw ?_
    intro w2_49 g1_50 g2_51 g3_52 g4_53
    refine zCu6 ?_
    intro hbs9 h_54 h_55 h_56 h_57 h_58
    clear hw
    subst hbs9
    have G : zS T A s.heap s [[zO8 t a1_32 lno flo plo a2_33 a3_34 a4_35 a5_36], [zAr T 1 a1_32 600 x9], [zAr T 0 a2_33 3 (upd (upd (upd fk 0 (fko 0)) 1 (fko 1)) 2 (fko 2))], [zArq T 3 a3_34 2 q1_37], [zArq T 4 a4_35 2 q2_38], [zArq T 5 a5_36 2 q3_39], z1_, wd0_, wd1_, wg0_, wg1_, [zO8 o a1_15 lno flo plo a2_16 a3_17 a4_18 a5_19], [zAr T 1 a1_15 600 fto], [zAr T 0 a2_16 3 fko], [zArq T 3 a3_17 2 q1_20], [zArq T 4 a4_18 2 q2_21], [zArq T 5 a5_19 2 q3_22], z1_o, wd0_o, wd1_o, wg0_o, wg1_o, w2_49, z0_o] _ _ := G
    refine lv_aload_n hx hb dX9_takeAll_98 rfl (lv_at hl 1 rfl) ?_
    refine z_get C G clX9 0 rfl 6 (by decide) m_fl_RX9_33 rfl dX9_takeAll_99 ?_
    refine lv_iload_n hx hb dX9_takeAll_102 rfl (lv_at hl 0 rfl) ?_
    refine z_ald C G 4 4 rfl rfl (vp_in_nI (n := 0) (by decide) (by decide)) dX9_takeAll_103 ?_
    rw [show q2_38 ((0 : Int32).toNatClampNeg) = some d0 from h_42]
    refine lv_aload_n hx hb dX9_takeAll_104 rfl (lv_at hl 2 rfl) ?_
    refine z_get C G clX9 11 rfl 6 (by decide) m_fl_RX9_33 rfl dX9_takeAll_105 ?_
    refine lv_iload_n hx hb dX9_takeAll_108 rfl (lv_at hl 0 rfl) ?_
    refine z_ald C G 15 4 rfl rfl (vp_in_nI (n := 0) (by decide) (by decide)) dX9_takeAll_109 ?_
    rw [show q2_21 ((0 : Int32).toNatClampNeg) = some d0o from h_25]
    refine z_Vv (bc := [wd0_, wd0_o]) (br := [[zO8 t a1_32 lno flo plo a2_33 a3_34 a4_35 a5_36], [zAr T 1 a1_32 600 x9], [zAr T 0 a2_33 3 (upd (upd (upd fk 0 (fko 0)) 1 (fko 1)) 2 (fko 2))], [zArq T 3 a3_34 2 q1_37], [zArq T 4 a4_35 2 q2_38], [zArq T 5 a5_36 2 q3_39], z1_, wd1_, wg0_, wg1_, [zO8 o a1_15 lno flo plo a2_16 a3_17 a4_18 a5_19], [zAr T 1 a1_15 600 fto], [zAr T 0 a2_16 3 fko], [zArq T 3 a3_17 2 q1_20], [zArq T 4 a4_18 2 q2_21], [zArq T 5 a5_19 2 q3_22], z1_o, wd1_o, wg0_o, wg1_o, w2_49, z0_o]) (As := [.ref d0o]) (rest := []) C G (c_Day_takeAll l T d0 d0o dd0_ p10_ p20_ p30_ dd0_o p10_o p20_o p30_o wd0_ wd0_o hd0_ hd0_o) (kV_RX9_61 C.2.2.2.2 (Nat.le_of_ble_eq_true rfl) (Nat.le_of_ble_eq_true rfl)) [7, 18] [7, 10] rfl rfl (ci := 2) (qc := (RX2, TX2, 4)) rfl rfl (List.mem_flatten.mpr ⟨_, List.mem_of_getElem? (i := 0) rfl, (bDay_mem hd0_).choose_spec⟩) rfl rfl hl.1 dX9_takeAll_110 (Nat.le_of_ble_eq_true rfl) (Nat.le_of_ble_eq_true rfl) (fun b1 H locs hw G => ?_)
    refine zEx4 hw ?_
    intro w2_60 g1_61 g2_62 g3_63
    refine zCu5 ?_
    intro hbs9 h_64 h_65 h_66 h_67
    clear hw
    subst hbs9
    have G : zS T A s.heap s [[zO8 t a1_32 lno flo plo a2_33 a3_34 a4_35 a5_36], [zAr T 1 a1_32 600 x9], [zAr T 0 a2_33 3 (upd (upd (upd fk 0 (fko 0)) 1 (fko 1)) 2 (fko 2))], [zArq T 3 a3_34 2 q1_37], [zArq T 4 a4_35 2 q2_38], [zArq T 5 a5_36 2 q3_39], z1_, wd1_, wg0_, wg1_, [zO8 o a1_15 lno flo plo a2_16 a3_17 a4_18 a5_19], [zAr T 1 a1_15 600 fto], [zAr T 0 a2_16 3 fko], [zArq T 3 a3_17 2 q1_20], [zArq T 4 a4_18 2 q2_21], [zArq T 5 a5_19 2 q3_22], z1_o, wd1_o, wg0_o, wg1_o, w2_49, z0_o, w2_60, wd0_o] _ _ := G
    refine lv_aload_n hx hb dX9_takeAll_113 rfl (lv_at hl 1 rfl) ?_
    refine z_get C G clX9 0 rfl 7 (by decide) m_fl_RX9_40 rfl dX9_takeAll_114 ?_
    refine lv_iload_n hx hb dX9_takeAll_117 rfl (lv_at hl 0 rfl) ?_
    refine z_ald C G 5 5 rfl rfl (vp_in_nI (n := 0) (by decide) (by decide)) dX9_takeAll_118 ?_
    rw [show q3_39 ((0 : Int32).toNatClampNeg) = some g0 from h_44]
    refine lv_aload_n hx hb dX9_takeAll_119 rfl (lv_at hl 2 rfl) ?_
    refine z_get C G clX9 10 rfl 7 (by decide) m_fl_RX9_40 rfl dX9_takeAll_120 ?_
    refine lv_iload_n hx hb dX9_takeAll_123 rfl (lv_at hl 0 rfl) ?_
    refine z_ald C G 15 5 rfl rfl (vp_in_nI (n := 0) (by decide) (by decide)) dX9_takeAll_124 ?_
    rw [show q3_22 ((0 : Int32).toNatClampNeg) = some g0o from h_27]
    refine z_Vv (bc := [wg0_, wg0_o]) (br := [[zO8 t a1_32 lno flo plo a2_33 a3_34 a4_35 a5_36], [zAr T 1 a1_32 600 x9], [zAr T 0 a2_33 3 (upd (upd (upd fk 0 (fko 0)) 1 (fko 1)) 2 (fko 2))], [zArq T 3 a3_34 2 q1_37], [zArq T 4 a4_35 2 q2_38], [zArq T 5 a5_36 2 q3_39], z1_, wd1_, wg1_, [zO8 o a1_15 lno flo plo a2_16 a3_17 a4_18 a5_19], [zAr T 1 a1_15 600 fto], [zAr T 0 a2_16 3 fko], [zArq T 3 a3_17 2 q1_20], [zArq T 4 a4_18 2 q2_21], [zArq T 5 a5_19 2 q3_22], z1_o, wd1_o, wg1_o, w2_49, z0_o, w2_60, wd0_o]) (As := [.ref g0o]) (rest := []) C G (c_Log_takeAll l T g0 g0o gg0_ q10_ q20_ gg0_o q10_o q20_o wg0_ wg0_o hg0_ hg0_o) (kV_RX9_68 C.2.2.2.2 (Nat.le_of_ble_eq_true rfl) (Nat.le_of_ble_eq_true rfl)) [8, 18] [8, 9] rfl rfl (ci := 5) (qc := (RX5, TX5, 3)) rfl rfl (List.mem_flatten.mpr ⟨_, List.mem_of_getElem? (i := 0) rfl, (bLog_mem hg0_).choose_spec⟩) rfl rfl hl.1 dX9_takeAll_125 (Nat.le_of_ble_eq_true rfl) (Nat.le_of_ble_eq_true rfl) (fun b1 H locs hw G => ?_)
    refine zEx3 hw ?_
    intro w2_69 g1_70 g2_71
    refine zCu4 ?_
    intro hbs9 h_72 h_73 h_74
    clear hw
    subst hbs9
    have G : zS T A s.heap s [[zO8 t a1_32 lno flo plo a2_33 a3_34 a4_35 a5_36], [zAr T 1 a1_32 600 x9], [zAr T 0 a2_33 3 (upd (upd (upd fk 0 (fko 0)) 1 (fko 1)) 2 (fko 2))], [zArq T 3 a3_34 2 q1_37], [zArq T 4 a4_35 2 q2_38], [zArq T 5 a5_36 2 q3_39], z1_, wd1_, wg1_, [zO8 o a1_15 lno flo plo a2_16 a3_17 a4_18 a5_19], [zAr T 1 a1_15 600 fto], [zAr T 0 a2_16 3 fko], [zArq T 3 a3_17 2 q1_20], [zArq T 4 a4_18 2 q2_21], [zArq T 5 a5_19 2 q3_22], z1_o, wd1_o, wg1_o, w2_49, z0_o, w2_60, wd0_o, w2_69, wg0_o] _ _ := G
    refine lv_iinc (v := 1) (lv' := [(2, .int 1), (0, .ref t), (1, .ref o)]) hx hb dX9_takeAll_128 hl (k := 0) rfl (by decide) (by decide) (zLvf_h rfl) (fun ls hl => ?_)
    refine lv_goto (tgt := 78) hx hb dX9_takeAll_131 (by decide) ?_
    refine lv_iload_n hx hb dX9_takeAll_78 rfl (lv_at hl 0 rfl) ?_
    refine lv_iconst (v := 2) hx hb dX9_takeAll_79 (by decide) ?_
    refine lv_icmp_ge (tgt := 134) hx hb dX9_takeAll_80 (by decide) (fun q => absurd q (by decide)) (fun _ => ?_)
    refine lv_aload_n hx hb dX9_takeAll_83 rfl (lv_at hl 1 rfl) ?_
    refine z_get C G clX9 0 rfl 5 (by decide) m_fl_RX9_26 rfl dX9_takeAll_84 ?_
    refine lv_iload_n hx hb dX9_takeAll_87 rfl (lv_at hl 0 rfl) ?_
    refine z_ald C G 3 3 rfl rfl (vp_in_nI (n := 1) (by decide) (by decide)) dX9_takeAll_88 ?_
    rw [show q1_37 ((1 : Int32).toNatClampNeg) = some l1 from h_41]
    refine lv_aload_n hx hb dX9_takeAll_89 rfl (lv_at hl 2 rfl) ?_
    refine z_get C G clX9 9 rfl 5 (by decide) m_fl_RX9_26 rfl dX9_takeAll_90 ?_
    refine lv_iload_n hx hb dX9_takeAll_93 rfl (lv_at hl 0 rfl) ?_
    refine z_ald C G 12 3 rfl rfl (vp_in_nI (n := 1) (by decide) (by decide)) dX9_takeAll_94 ?_
    rw [show q1_20 ((1 : Int32).toNatClampNeg) = some l1o from h_24]
    refine z_Vv (bc := [z1_, z1_o]) (br := [[zO8 t a1_32 lno flo plo a2_33 a3_34 a4_35 a5_36], [zAr T 1 a1_32 600 x9], [zAr T 0 a2_33 3 (upd (upd (upd fk 0 (fko 0)) 1 (fko 1)) 2 (fko 2))], [zArq T 3 a3_34 2 q1_37], [zArq T 4 a4_35 2 q2_38], [zArq T 5 a5_36 2 q3_39], wd1_, wg1_, [zO8 o a1_15 lno flo plo a2_16 a3_17 a4_18 a5_19], [zAr T 1 a1_15 600 fto], [zAr T 0 a2_16 3 fko], [zArq T 3 a3_17 2 q1_20], [zArq T 4 a4_18 2 q2_21], [zArq T 5 a5_19 2 q3_22], wd1_o, wg1_o, w2_49, z0_o, w2_60, wd0_o, w2_69, wg0_o]) (As := [.ref l1o]) (rest := []) C G (c_Land_takeAll l T l1 l1o cr1_ inn1_ k11_ k21_ k31_ k41_ cr1_o inn1_o k11_o k21_o k31_o k41_o z1_ z1_o hz1_ hz1_o) (kV_RX9_53 C.2.2.2.2 (Nat.le_of_ble_eq_true rfl) (Nat.le_of_ble_eq_true rfl)) [6, 15] [6, 8] rfl rfl (ci := 4) (qc := (RX4, TX4, 6)) rfl rfl (List.mem_flatten.mpr ⟨_, List.mem_of_getElem? (i := 0) rfl, (bLand_mem hz1_).choose_spec⟩) rfl rfl hl.1 dX9_takeAll_95 (Nat.le_of_ble_eq_true rfl) (Nat.le_of_ble_eq_true rfl) (fun b1 H locs hw G => ?_)
    refine zEx5 hw ?_
    intro w2_76 g1_77 g2_78 g3_79 g4_80
    refine zCu6 ?_
    intro hbs9 h_81 h_82 h_83 h_84 h_85
    clear hw
    subst hbs9
    have G : zS T A s.heap s [[zO8 t a1_32 lno flo plo a2_33 a3_34 a4_35 a5_36], [zAr T 1 a1_32 600 x9], [zAr T 0 a2_33 3 (upd (upd (upd fk 0 (fko 0)) 1 (fko 1)) 2 (fko 2))], [zArq T 3 a3_34 2 q1_37], [zArq T 4 a4_35 2 q2_38], [zArq T 5 a5_36 2 q3_39], wd1_, wg1_, [zO8 o a1_15 lno flo plo a2_16 a3_17 a4_18 a5_19], [zAr T 1 a1_15 600 fto], [zAr T 0 a2_16 3 fko], [zArq T 3 a3_17 2 q1_20], [zArq T 4 a4_18 2 q2_21], [zArq T 5 a5_19 2 q3_22], wd1_o, wg1_o, w2_49, z0_o, w2_60, wd0_o, w2_69, wg0_o, w2_76, z1_o] _ _ := G
    refine lv_aload_n hx hb dX9_takeAll_98 rfl (lv_at hl 1 rfl) ?_
    refine z_get C G clX9 0 rfl 6 (by decide) m_fl_RX9_33 rfl dX9_takeAll_99 ?_
    refine lv_iload_n hx hb dX9_takeAll_102 rfl (lv_at hl 0 rfl) ?_
    refine z_ald C G 4 4 rfl rfl (vp_in_nI (n := 1) (by decide) (by decide)) dX9_takeAll_103 ?_
    rw [show q2_38 ((1 : Int32).toNatClampNeg) = some d1 from h_43]
    refine lv_aload_n hx hb dX9_takeAll_104 rfl (lv_at hl 2 rfl) ?_
    refine z_get C G clX9 8 rfl 6 (by decide) m_fl_RX9_33 rfl dX9_takeAll_105 ?_
    refine lv_iload_n hx hb dX9_takeAll_108 rfl (lv_at hl 0 rfl) ?_
    refine z_ald C G 12 4 rfl rfl (vp_in_nI (n := 1) (by decide) (by decide)) dX9_takeAll_109 ?_
    rw [show q2_21 ((1 : Int32).toNatClampNeg) = some d1o from h_26]
    refine z_Vv (bc := [wd1_, wd1_o]) (br := [[zO8 t a1_32 lno flo plo a2_33 a3_34 a4_35 a5_36], [zAr T 1 a1_32 600 x9], [zAr T 0 a2_33 3 (upd (upd (upd fk 0 (fko 0)) 1 (fko 1)) 2 (fko 2))], [zArq T 3 a3_34 2 q1_37], [zArq T 4 a4_35 2 q2_38], [zArq T 5 a5_36 2 q3_39], wg1_, [zO8 o a1_15 lno flo plo a2_16 a3_17 a4_18 a5_19], [zAr T 1 a1_15 600 fto], [zAr T 0 a2_16 3 fko], [zArq T 3 a3_17 2 q1_20], [zArq T 4 a4_18 2 q2_21], [zArq T 5 a5_19 2 q3_22], wg1_o, w2_49, z0_o, w2_60, wd0_o, w2_69, wg0_o, w2_76, z1_o]) (As := [.ref d1o]) (rest := []) C G (c_Day_takeAll l T d1 d1o dd1_ p11_ p21_ p31_ dd1_o p11_o p21_o p31_o wd1_ wd1_o hd1_ hd1_o) (kV_RX9_61 C.2.2.2.2 (Nat.le_of_ble_eq_true rfl) (Nat.le_of_ble_eq_true rfl)) [6, 14] [6, 7] rfl rfl (ci := 2) (qc := (RX2, TX2, 4)) rfl rfl (List.mem_flatten.mpr ⟨_, List.mem_of_getElem? (i := 0) rfl, (bDay_mem hd1_).choose_spec⟩) rfl rfl hl.1 dX9_takeAll_110 (Nat.le_of_ble_eq_true rfl) (Nat.le_of_ble_eq_true rfl) (fun b1 H locs hw G => ?_)
    refine zEx4 hw ?_
    intro w2_87 g1_88 g2_89 g3_90
    refine zCu5 ?_
    intro hbs9 h_91 h_92 h_93 h_94
    clear hw
    subst hbs9
    have G : zS T A s.heap s [[zO8 t a1_32 lno flo plo a2_33 a3_34 a4_35 a5_36], [zAr T 1 a1_32 600 x9], [zAr T 0 a2_33 3 (upd (upd (upd fk 0 (fko 0)) 1 (fko 1)) 2 (fko 2))], [zArq T 3 a3_34 2 q1_37], [zArq T 4 a4_35 2 q2_38], [zArq T 5 a5_36 2 q3_39], wg1_, [zO8 o a1_15 lno flo plo a2_16 a3_17 a4_18 a5_19], [zAr T 1 a1_15 600 fto], [zAr T 0 a2_16 3 fko], [zArq T 3 a3_17 2 q1_20], [zArq T 4 a4_18 2 q2_21], [zArq T 5 a5_19 2 q3_22], wg1_o, w2_49, z0_o, w2_60, wd0_o, w2_69, wg0_o, w2_76, z1_o, w2_87, wd1_o] _ _ := G
    refine lv_aload_n hx hb dX9_takeAll_113 rfl (lv_at hl 1 rfl) ?_
    refine z_get C G clX9 0 rfl 7 (by decide) m_fl_RX9_40 rfl dX9_takeAll_114 ?_
    refine lv_iload_n hx hb dX9_takeAll_117 rfl (lv_at hl 0 rfl) ?_
    refine z_ald C G 5 5 rfl rfl (vp_in_nI (n := 1) (by decide) (by decide)) dX9_takeAll_118 ?_
    rw [show q3_39 ((1 : Int32).toNatClampNeg) = some g1 from h_45]
    refine lv_aload_n hx hb dX9_takeAll_119 rfl (lv_at hl 2 rfl) ?_
    refine z_get C G clX9 7 rfl 7 (by decide) m_fl_RX9_40 rfl dX9_takeAll_120 ?_
    refine lv_iload_n hx hb dX9_takeAll_123 rfl (lv_at hl 0 rfl) ?_
    refine z_ald C G 12 5 rfl rfl (vp_in_nI (n := 1) (by decide) (by decide)) dX9_takeAll_124 ?_
    rw [show q3_22 ((1 : Int32).toNatClampNeg) = some g1o from h_28]
    refine z_Vv (bc := [wg1_, wg1_o]) (br := [[zO8 t a1_32 lno flo plo a2_33 a3_34 a4_35 a5_36], [zAr T 1 a1_32 600 x9], [zAr T 0 a2_33 3 (upd (upd (upd fk 0 (fko 0)) 1 (fko 1)) 2 (fko 2))], [zArq T 3 a3_34 2 q1_37], [zArq T 4 a4_35 2 q2_38], [zArq T 5 a5_36 2 q3_39], [zO8 o a1_15 lno flo plo a2_16 a3_17 a4_18 a5_19], [zAr T 1 a1_15 600 fto], [zAr T 0 a2_16 3 fko], [zArq T 3 a3_17 2 q1_20], [zArq T 4 a4_18 2 q2_21], [zArq T 5 a5_19 2 q3_22], w2_49, z0_o, w2_60, wd0_o, w2_69, wg0_o, w2_76, z1_o, w2_87, wd1_o]) (As := [.ref g1o]) (rest := []) C G (c_Log_takeAll l T g1 g1o gg1_ q11_ q21_ gg1_o q11_o q21_o wg1_ wg1_o hg1_ hg1_o) (kV_RX9_68 C.2.2.2.2 (Nat.le_of_ble_eq_true rfl) (Nat.le_of_ble_eq_true rfl)) [6, 13] [6, 6] rfl rfl (ci := 5) (qc := (RX5, TX5, 3)) rfl rfl (List.mem_flatten.mpr ⟨_, List.mem_of_getElem? (i := 0) rfl, (bLog_mem hg1_).choose_spec⟩) rfl rfl hl.1 dX9_takeAll_125 (Nat.le_of_ble_eq_true rfl) (Nat.le_of_ble_eq_true rfl) (fun b1 H locs hw G => ?_)
    refine zEx3 hw ?_
    intro w2_96 g1_97 g2_98
    refine zCu4 ?_
    intro hbs9 h_99 h_100 h_101
    clear hw
    subst hbs9
    have G : zS T A s.heap s [[zO8 t a1_32 lno flo plo a2_33 a3_34 a4_35 a5_36], [zAr T 1 a1_32 600 x9], [zAr T 0 a2_33 3 (upd (upd (upd fk 0 (fko 0)) 1 (fko 1)) 2 (fko 2))], [zArq T 3 a3_34 2 q1_37], [zArq T 4 a4_35 2 q2_38], [zArq T 5 a5_36 2 q3_39], [zO8 o a1_15 lno flo plo a2_16 a3_17 a4_18 a5_19], [zAr T 1 a1_15 600 fto], [zAr T 0 a2_16 3 fko], [zArq T 3 a3_17 2 q1_20], [zArq T 4 a4_18 2 q2_21], [zArq T 5 a5_19 2 q3_22], w2_49, z0_o, w2_60, wd0_o, w2_69, wg0_o, w2_76, z1_o, w2_87, wd1_o, w2_96, wg1_o] _ _ := G
    refine lv_iinc (v := 2) (lv' := [(2, .int 2), (0, .ref t), (1, .ref o)]) hx hb dX9_takeAll_128 hl (k := 0) rfl (by decide) (by decide) (zLvf_h rfl) (fun ls hl => ?_)
    refine lv_goto (tgt := 78) hx hb dX9_takeAll_131 (by decide) ?_
    refine lv_iload_n hx hb dX9_takeAll_78 rfl (lv_at hl 0 rfl) ?_
    refine lv_iconst (v := 2) hx hb dX9_takeAll_79 (by decide) ?_
    refine lv_icmp_ge (tgt := 134) hx hb dX9_takeAll_80 (by decide) (fun _ => ?_) (fun q => absurd (by decide) q)
    have hw_103 : bTold T t l0 l1 d0 d1 g0 g1 lno flo plo x9 (upd (upd (upd fk 0 (fko 0)) 1 (fko 1)) 2 (fko 2)) [zO8 t a1_32 lno flo plo a2_33 a3_34 a4_35 a5_36, zAr T 1 a1_32 600 x9, zAr T 0 a2_33 3 (upd (upd (upd fk 0 (fko 0)) 1 (fko 1)) 2 (fko 2)), zArq T 3 a3_34 2 q1_37, zArq T 4 a4_35 2 q2_38, zArq T 5 a5_36 2 q3_39] := ⟨a1_32, a2_33, a3_34, a4_35, a5_36, q1_37, q2_38, q3_39, rfl, h_40, h_41, h_42, h_43, h_44, h_45⟩
    have G : zS T A s.heap s [[zO8 t a1_32 lno flo plo a2_33 a3_34 a4_35 a5_36, zAr T 1 a1_32 600 x9, zAr T 0 a2_33 3 (upd (upd (upd fk 0 (fko 0)) 1 (fko 1)) 2 (fko 2)), zArq T 3 a3_34 2 q1_37, zArq T 4 a4_35 2 q2_38, zArq T 5 a5_36 2 q3_39], [zO8 o a1_15 lno flo plo a2_16 a3_17 a4_18 a5_19], [zAr T 1 a1_15 600 fto], [zAr T 0 a2_16 3 fko], [zArq T 3 a3_17 2 q1_20], [zArq T 4 a4_18 2 q2_21], [zArq T 5 a5_19 2 q3_22], w2_49, z0_o, w2_60, wd0_o, w2_69, wg0_o, w2_76, z1_o, w2_87, wd1_o, w2_96, wg1_o] _ _ := G.re rfl
    have hw_104 : bTold T o l0o l1o d0o d1o g0o g1o lno flo plo fto fko [zO8 o a1_15 lno flo plo a2_16 a3_17 a4_18 a5_19, zAr T 1 a1_15 600 fto, zAr T 0 a2_16 3 fko, zArq T 3 a3_17 2 q1_20, zArq T 4 a4_18 2 q2_21, zArq T 5 a5_19 2 q3_22] := ⟨a1_15, a2_16, a3_17, a4_18, a5_19, q1_20, q2_21, q3_22, rfl, h_23, h_24, h_25, h_26, h_27, h_28⟩
    have G : zS T A s.heap s [[zO8 t a1_32 lno flo plo a2_33 a3_34 a4_35 a5_36, zAr T 1 a1_32 600 x9, zAr T 0 a2_33 3 (upd (upd (upd fk 0 (fko 0)) 1 (fko 1)) 2 (fko 2)), zArq T 3 a3_34 2 q1_37, zArq T 4 a4_35 2 q2_38, zArq T 5 a5_36 2 q3_39], [zO8 o a1_15 lno flo plo a2_16 a3_17 a4_18 a5_19, zAr T 1 a1_15 600 fto, zAr T 0 a2_16 3 fko, zArq T 3 a3_17 2 q1_20, zArq T 4 a4_18 2 q2_21, zArq T 5 a5_19 2 q3_22], w2_49, z0_o, w2_60, wd0_o, w2_69, wg0_o, w2_76, z1_o, w2_87, wd1_o, w2_96, wg1_o] _ _ := G.re rfl
    have G := G.sub (bs' := [[zO8 t a1_32 lno flo plo a2_33 a3_34 a4_35 a5_36, zAr T 1 a1_32 600 x9, zAr T 0 a2_33 3 (upd (upd (upd fk 0 (fko 0)) 1 (fko 1)) 2 (fko 2)), zArq T 3 a3_34 2 q1_37, zArq T 4 a4_35 2 q2_38, zArq T 5 a5_36 2 q3_39], w2_49, w2_76, w2_60, w2_87, w2_69, w2_96, [zO8 o a1_15 lno flo plo a2_16 a3_17 a4_18 a5_19, zAr T 1 a1_15 600 fto, zAr T 0 a2_16 3 fko, zArq T 3 a3_17 2 q1_20, zArq T 4 a4_18 2 q2_21, zArq T 5 a5_19 2 q3_22], z0_o, z1_o, wd0_o, wd1_o, wg0_o, wg1_o]) [0, 2, 8, 4, 10, 6, 12, 1, 3, 9, 5, 11, 7, 13] rfl
    exact z_back hQz_ (z_vret C hr hlocks G (Nat.le_of_ble_eq_true rfl) (Nat.le_of_ble_eq_true rfl) dX9_takeAll_134 ⟨([zO8 t a1_32 lno flo plo a2_33 a3_34 a4_35 a5_36, zAr T 1 a1_32 600 x9, zAr T 0 a2_33 3 (upd (upd (upd fk 0 (fko 0)) 1 (fko 1)) 2 (fko 2)), zArq T 3 a3_34 2 q1_37, zArq T 4 a4_35 2 q2_38, zArq T 5 a5_36 2 q3_39]), x9, (upd (upd (upd fk 0 (fko 0)) 1 (fko 1)) 2 (fko 2)), w2_49, g1_50, g2_51, g3_52, g4_53, w2_76, g1_77, g2_78, g3_79, g4_80, w2_60, g1_61, g2_62, g3_63, w2_87, g1_88, g2_89, g3_90, w2_69, g1_70, g2_71, w2_96, g1_97, g2_98, rfl, hw_103, (zKT_upd (zKT_upd (zKT_upd hK 0 (hKo 0 (by decide))) 1 (hKo 1 (by decide))) 2 (hKo 2 (by decide))), h_54, h_81, h_64, h_91, h_72, h_99, (zLI_eq hI0_o h_55 h_57), (zLI_eq hI1_o h_82 h_84), (hTo.elim fun zz zr => zr.elim fun z1 zr => zr.elim fun z2 zr => zr.elim fun z3 zr => zr.elim fun z4 zr => zr.elim fun z5 z6 => zz.elim fun a1 ar => ar.elim fun a2 ar => ar.elim fun a3 ar => ar.elim fun a4 a5 => ⟨⟨a1, a2, a3, (fun j hj => (show _ = fko j by rcases (show j = 0 ∨ j = 1 ∨ j = 2 by omega) with q | q | q <;> subst q <;> rfl).trans (a4 j hj)), (fun j hj => by rw [hx9 j (by omega)]; exact a5 j hj)⟩, zLnd_eq z1 (fun j hj => (hI0_o.2.1 j hj).2) h_55 h_56 h_57 h_58, zLnd_eq z2 (fun j hj => (hI1_o.2.1 j hj).2) h_82 h_83 h_84 h_85, zDyd_eq z3 h_65 h_66 h_67, zDyd_eq z4 h_92 h_93 h_94, zLgd_eq z5 h_73 h_74, zLgd_eq z6 h_100 h_101⟩)⟩)
  · have c_31n : ¬ 600 ≤ i := fun q => c_31 ((nI_leI (a := 600) (b := i) (by omega) (by omega)).mpr q)
    refine lv_aload_n hx hb dX9_takeAll_9 rfl (lv_at hl 1 rfl) ?_
    refine zEx8 ht9 ?_
    intro a1_105 a2_106 a3_107 a4_108 a5_109 q1_110 q2_111 q3_112
    refine zCu7 ?_
    intro hbs9 h_113 h_114 h_115 h_116 h_117 h_118
    clear ht9
    subst hbs9
    have G : zS T A s.heap s [[zO8 t a1_105 ln fl pl a2_106 a3_107 a4_108 a5_109], [zAr T 1 a1_105 600 x9], [zAr T 0 a2_106 3 fk], [zArq T 3 a3_107 2 q1_110], [zArq T 4 a4_108 2 q2_111], [zArq T 5 a5_109 2 q3_112], z0_, z1_, wd0_, wd1_, wg0_, wg1_, [zO8 o a1_15 lno flo plo a2_16 a3_17 a4_18 a5_19, zAr T 1 a1_15 600 fto, zAr T 0 a2_16 3 fko, zArq T 3 a3_17 2 q1_20, zArq T 4 a4_18 2 q2_21, zArq T 5 a5_19 2 q3_22], z0_o, z1_o, wd0_o, wd1_o, wg0_o, wg1_o] _ _ := G.re rfl
    refine z_get C G clX9 0 rfl 0 (by decide) m_fl_RX9_9 rfl dX9_takeAll_10 ?_
    refine lv_iload_n hx hb dX9_takeAll_13 rfl (lv_at hl 0 rfl) ?_
    refine lv_aload_n hx hb dX9_takeAll_14 rfl (lv_at hl 2 rfl) ?_
    have G : zS T A s.heap s [[zO8 t a1_105 ln fl pl a2_106 a3_107 a4_108 a5_109], [zAr T 1 a1_105 600 x9], [zAr T 0 a2_106 3 fk], [zArq T 3 a3_107 2 q1_110], [zArq T 4 a4_108 2 q2_111], [zArq T 5 a5_109 2 q3_112], z0_, z1_, wd0_, wd1_, wg0_, wg1_, [zO8 o a1_15 lno flo plo a2_16 a3_17 a4_18 a5_19], [zAr T 1 a1_15 600 fto], [zAr T 0 a2_16 3 fko], [zArq T 3 a3_17 2 q1_20], [zArq T 4 a4_18 2 q2_21], [zArq T 5 a5_19 2 q3_22], z0_o, z1_o, wd0_o, wd1_o, wg0_o, wg1_o] _ _ := G.re rfl
    refine z_get C G clX9 12 rfl 0 (by decide) m_fl_RX9_9 rfl dX9_takeAll_15 ?_
    refine lv_iload_n hx hb dX9_takeAll_18 rfl (lv_at hl 0 rfl) ?_
    refine z_bld C G 13 rfl (vp_in_nI (by omega) (by decide)) dX9_takeAll_19 ?_
    refine lv_topi (fun v_119 ev_119 => ?_)
    rw [nI_clamp (by omega)] at ev_119
    subst ev_119
    refine z_bst C G 1 rfl (vp_in_nI (by omega) (by decide)) dX9_takeAll_20 (fun H locs G => ?_)
    rw [nI_clamp (by omega)] at G
    have G : zS T A s.heap s [[zO8 t a1_105 ln fl pl a2_106 a3_107 a4_108 a5_109], [zAr T 1 a1_105 600 (upd x9 i (vp_nar .byte (fto i)))], [zAr T 0 a2_106 3 fk], [zArq T 3 a3_107 2 q1_110], [zArq T 4 a4_108 2 q2_111], [zArq T 5 a5_109 2 q3_112], z0_, z1_, wd0_, wd1_, wg0_, wg1_, [zO8 o a1_15 lno flo plo a2_16 a3_17 a4_18 a5_19], [zAr T 1 a1_15 600 fto], [zAr T 0 a2_16 3 fko], [zArq T 3 a3_17 2 q1_20], [zArq T 4 a4_18 2 q2_21], [zArq T 5 a5_19 2 q3_22], z0_o, z1_o, wd0_o, wd1_o, wg0_o, wg1_o] _ _ := G
    refine lv_iinc (v := nI (i + 1)) (lv' := [(2, .int (nI (i + 1))), (0, .ref t), (1, .ref o)]) hx hb dX9_takeAll_21 hl (k := 0) rfl (z_inc i 1) (by decide) (zLvf_h rfl) (fun ls hl => ?_)
    refine lv_goto (tgt := 2) hx hb dX9_takeAll_24 (by decide) ?_
    have hw_120 : bTold T t l0 l1 d0 d1 g0 g1 ln fl pl (upd x9 i (vp_nar .byte (fto i))) fk [zO8 t a1_105 ln fl pl a2_106 a3_107 a4_108 a5_109, zAr T 1 a1_105 600 (upd x9 i (vp_nar .byte (fto i))), zAr T 0 a2_106 3 fk, zArq T 3 a3_107 2 q1_110, zArq T 4 a4_108 2 q2_111, zArq T 5 a5_109 2 q3_112] := ⟨a1_105, a2_106, a3_107, a4_108, a5_109, q1_110, q2_111, q3_112, rfl, h_113, h_114, h_115, h_116, h_117, h_118⟩
    have G : zS T A s.heap s [[zO8 t a1_105 ln fl pl a2_106 a3_107 a4_108 a5_109, zAr T 1 a1_105 600 (upd x9 i (vp_nar .byte (fto i))), zAr T 0 a2_106 3 fk, zArq T 3 a3_107 2 q1_110, zArq T 4 a4_108 2 q2_111, zArq T 5 a5_109 2 q3_112], z0_, z1_, wd0_, wd1_, wg0_, wg1_, [zO8 o a1_15 lno flo plo a2_16 a3_17 a4_18 a5_19], [zAr T 1 a1_15 600 fto], [zAr T 0 a2_16 3 fko], [zArq T 3 a3_17 2 q1_20], [zArq T 4 a4_18 2 q2_21], [zArq T 5 a5_19 2 q3_22], z0_o, z1_o, wd0_o, wd1_o, wg0_o, wg1_o] _ _ := G.re rfl
    have hw_121 : bTold T o l0o l1o d0o d1o g0o g1o lno flo plo fto fko [zO8 o a1_15 lno flo plo a2_16 a3_17 a4_18 a5_19, zAr T 1 a1_15 600 fto, zAr T 0 a2_16 3 fko, zArq T 3 a3_17 2 q1_20, zArq T 4 a4_18 2 q2_21, zArq T 5 a5_19 2 q3_22] := ⟨a1_15, a2_16, a3_17, a4_18, a5_19, q1_20, q2_21, q3_22, rfl, h_23, h_24, h_25, h_26, h_27, h_28⟩
    have G : zS T A s.heap s [[zO8 t a1_105 ln fl pl a2_106 a3_107 a4_108 a5_109, zAr T 1 a1_105 600 (upd x9 i (vp_nar .byte (fto i))), zAr T 0 a2_106 3 fk, zArq T 3 a3_107 2 q1_110, zArq T 4 a4_108 2 q2_111, zArq T 5 a5_109 2 q3_112], z0_, z1_, wd0_, wd1_, wg0_, wg1_, [zO8 o a1_15 lno flo plo a2_16 a3_17 a4_18 a5_19, zAr T 1 a1_15 600 fto, zAr T 0 a2_16 3 fko, zArq T 3 a3_17 2 q1_20, zArq T 4 a4_18 2 q2_21, zArq T 5 a5_19 2 q3_22], z0_o, z1_o, wd0_o, wd1_o, wg0_o, wg1_o] _ _ := G.re rfl
    exact ih_2 (i + 1) ([zO8 t a1_105 ln fl pl a2_106 a3_107 a4_108 a5_109, zAr T 1 a1_105 600 (upd x9 i (vp_nar .byte (fto i))), zAr T 0 a2_106 3 fk, zArq T 3 a3_107 2 q1_110, zArq T 4 a4_108 2 q2_111, zArq T 5 a5_109 2 q3_112]) (upd x9 i (vp_nar .byte (fto i))) (show bTold T t l0 l1 d0 d1 g0 g1 ln fl pl (upd x9 i (vp_nar .byte (fto i))) fk ([zO8 t a1_105 ln fl pl a2_106 a3_107 a4_108 a5_109, zAr T 1 a1_105 600 (upd x9 i (vp_nar .byte (fto i))), zAr T 0 a2_106 3 fk, zArq T 3 a3_107 2 q1_110, zArq T 4 a4_108 2 q2_111, zArq T 5 a5_109 2 q3_112]) ∧ (i + 1) ≤ 600 ∧ (∀ j, j < (i + 1) → (upd x9 i (vp_nar .byte (fto i))) j = fto j) from ⟨hw_120, by omega, z_updE hx9 (pk_vb2 (hTo.1.2.2.2.2 i (by omega)).2)⟩) (show 600 - (i + 1) < 600 - i from by omega) _ _ ls G (lv_sub hl [0, 1, 2] rfl)
set_option maxHeartbeats 4000000 in
set_option maxRecDepth 100000 in
/-- c_f_imageN -/
theorem c_f_imageN (l : Launch) (T : zTy) (xo : Nat) (t : Nat) (im : Nat) (mk : Nat) (rd : Nat) (po : Nat) (co : Nat) (tr : Nat) (wa : Nat) (wb_ : Nat) (fi : Nat) (cd : Nat) (k_ : Int32) (hk : k_.toInt < 0 ∨ 3 ≤ k_.toInt) : zMi l T yX11_image cX11_image 2 (some .boolean) 3 0 0 [.ref xo, .int k_] [[zO10 xo t im mk rd po co tr wa wb_ fi cd]] (fun (r : Int32) bs => bs = [[zO10 xo t im mk rd po co tr wa wb_ fi cd]] ∧ r = 0) := by
  refine zMi_of (own := RX11) (by decide) rfl (Nat.le_of_ble_eq_true rfl) ?_
  intro p e s m args below meth c A ls C hr hlocks hnm hAe G hl
  refine zHide (fun Qz_ hQz_ => ?_)
  have hx := C.1
  have hb := C.2.1
  have hl : lv_has ls 2 [(0, .ref xo), (1, .int k_)] := hl
  refine lv_iload_n hx hb dX11_image_0 rfl (lv_at hl 1 rfl) ?_
  refine lv_if_lt (tgt := 9) hx hb dX11_image_1 (by decide) (fun c_1 => ?_) (fun c_1 => ?_)
  · have c_1n : k_.toInt < (0 : Int) := (fa_lt _ _).mp c_1
    refine lv_iconst (v := 0) hx hb dX11_image_9 (by decide) ?_
    exact z_back hQz_ (z_zret C hr hlocks G (Nat.le_of_ble_eq_true rfl) (Nat.le_of_ble_eq_true rfl) dX11_image_10 rfl ⟨rfl, rfl⟩)
  · have c_1n : ¬ k_.toInt < (0 : Int) := fun q => c_1 ((fa_lt _ _).mpr q)
    refine lv_iload_n hx hb dX11_image_4 rfl (lv_at hl 1 rfl) ?_
    refine lv_iconst (v := 3) hx hb dX11_image_5 (by decide) ?_
    refine lv_icmp_lt (tgt := 11) hx hb dX11_image_6 (by decide) (fun c_2 => ?_) (fun c_2 => ?_)
    · have c_2n : k_.toInt < (3 : Int) := (fa_lt _ _).mp c_2
      exact absurd (show (0 : Int) = 1 by omega) (by decide)
    · have c_2n : ¬ k_.toInt < (3 : Int) := fun q => c_2 ((fa_lt _ _).mpr q)
      refine lv_iconst (v := 0) hx hb dX11_image_9 (by decide) ?_
      exact z_back hQz_ (z_zret C hr hlocks G (Nat.le_of_ble_eq_true rfl) (Nat.le_of_ble_eq_true rfl) dX11_image_10 rfl ⟨rfl, rfl⟩)
set_option maxHeartbeats 4000000 in
set_option maxRecDepth 100000 in
/-- c_f_againN -/
theorem c_f_againN (l : Launch) (T : zTy) (xo : Nat) (t : Nat) (im : Nat) (mk : Nat) (rd : Nat) (po : Nat) (co : Nat) (tr : Nat) (wa : Nat) (wb_ : Nat) (fi : Nat) (cd : Nat) (k_ : Int32) (hk : k_.toInt < 0 ∨ 3 ≤ k_.toInt) : zMi l T yX11_again cX11_again 2 (some .boolean) 3 0 0 [.ref xo, .int k_] [[zO10 xo t im mk rd po co tr wa wb_ fi cd]] (fun (r : Int32) bs => bs = [[zO10 xo t im mk rd po co tr wa wb_ fi cd]] ∧ r = 0) := by
  refine zMi_of (own := RX11) (by decide) rfl (Nat.le_of_ble_eq_true rfl) ?_
  intro p e s m args below meth c A ls C hr hlocks hnm hAe G hl
  refine zHide (fun Qz_ hQz_ => ?_)
  have hx := C.1
  have hb := C.2.1
  have hl : lv_has ls 2 [(0, .ref xo), (1, .int k_)] := hl
  refine lv_iload_n hx hb dX11_again_0 rfl (lv_at hl 1 rfl) ?_
  refine lv_if_lt (tgt := 18) hx hb dX11_again_1 (by decide) (fun c_1 => ?_) (fun c_1 => ?_)
  · have c_1n : k_.toInt < (0 : Int) := (fa_lt _ _).mp c_1
    refine lv_iconst (v := 0) hx hb dX11_again_18 (by decide) ?_
    exact z_back hQz_ (z_zret C hr hlocks G (Nat.le_of_ble_eq_true rfl) (Nat.le_of_ble_eq_true rfl) dX11_again_19 rfl ⟨rfl, rfl⟩)
  · have c_1n : ¬ k_.toInt < (0 : Int) := fun q => c_1 ((fa_lt _ _).mpr q)
    refine lv_iload_n hx hb dX11_again_4 rfl (lv_at hl 1 rfl) ?_
    refine lv_iconst (v := 3) hx hb dX11_again_5 (by decide) ?_
    refine lv_icmp_ge (tgt := 18) hx hb dX11_again_6 (by decide) (fun c_2 => ?_) (fun c_2 => ?_)
    · have c_2n : (3 : Int) ≤ k_.toInt := (fa_le _ _).mp c_2
      refine lv_iconst (v := 0) hx hb dX11_again_18 (by decide) ?_
      exact z_back hQz_ (z_zret C hr hlocks G (Nat.le_of_ble_eq_true rfl) (Nat.le_of_ble_eq_true rfl) dX11_again_19 rfl ⟨rfl, rfl⟩)
    · have c_2n : ¬ (3 : Int) ≤ k_.toInt := fun q => c_2 ((fa_le _ _).mpr q)
      exact absurd (show (0 : Int) = 1 by omega) (by decide)
set_option maxHeartbeats 4000000 in
set_option maxRecDepth 100000 in
/-- c_f_image0 -/
theorem c_f_image0 (l : Launch) (T : zTy) (xo : Nat) (t : Nat) (im : Nat) (mk : Nat) (rd : Nat) (po : Nat) (co : Nat) (tr : Nat) (wa : Nat) (wb_ : Nat) (fi : Nat) (cd : Nat) (l0 : Nat) (l1 : Nat) (d0 : Nat) (d1 : Nat) (g0 : Nat) (g1 : Nat) (ln : Int32) (fl : Int32) (pl : Int32) (ft : Nat → Int32) (fk : Nat → Int32) (wt : va_W) (cr0_ : Int32) (inn0_ : Int32) (k10_ : Nat → Int32) (k20_ : Nat → Int32) (k30_ : Nat → Int32) (k40_ : Nat → Int32) (z0_ : va_W) (cr1_ : Int32) (inn1_ : Int32) (k11_ : Nat → Int32) (k21_ : Nat → Int32) (k31_ : Nat → Int32) (k41_ : Nat → Int32) (z1_ : va_W) (dd0_ : Int32) (p10_ : Nat → Int32) (p20_ : Nat → Int32) (p30_ : Nat → Int32) (wd0_ : va_W) (dd1_ : Int32) (p11_ : Nat → Int32) (p21_ : Nat → Int32) (p31_ : Nat → Int32) (wd1_ : va_W) (gg0_ : Int32) (q10_ : Nat → Int32) (q20_ : Nat → Int32) (wg0_ : va_W) (gg1_ : Int32) (q11_ : Nat → Int32) (q21_ : Nat → Int32) (wg1_ : va_W) (m0 : Nat) (l0a : Nat) (l1a : Nat) (d0a : Nat) (d1a : Nat) (g0a : Nat) (g1a : Nat) (lna : Int32) (fla : Int32) (pla : Int32) (fta : Nat → Int32) (fka : Nat → Int32) (wta : va_W) (cr0_a : Int32) (inn0_a : Int32) (k10_a : Nat → Int32) (k20_a : Nat → Int32) (k30_a : Nat → Int32) (k40_a : Nat → Int32) (z0_a : va_W) (cr1_a : Int32) (inn1_a : Int32) (k11_a : Nat → Int32) (k21_a : Nat → Int32) (k31_a : Nat → Int32) (k41_a : Nat → Int32) (z1_a : va_W) (dd0_a : Int32) (p10_a : Nat → Int32) (p20_a : Nat → Int32) (p30_a : Nat → Int32) (wd0_a : va_W) (dd1_a : Int32) (p11_a : Nat → Int32) (p21_a : Nat → Int32) (p31_a : Nat → Int32) (wd1_a : va_W) (gg0_a : Int32) (q10_a : Nat → Int32) (q20_a : Nat → Int32) (wg0_a : va_W) (gg1_a : Int32) (q11_a : Nat → Int32) (q21_a : Nat → Int32) (wg1_a : va_W) (m1 : Nat) (m2 : Nat) (qi : Nat → Option Nat) (fmk : Nat → Int32) (Gr : Nat → Int32) (ht : bTold T t l0 l1 d0 d1 g0 g1 ln fl pl ft fk wt) (hK : zKT fk) (hz0_ : bLand T l0 cr0_ inn0_ k10_ k20_ k30_ k40_ z0_) (hI0_ : zLI cr0_ k10_ k30_) (hz1_ : bLand T l1 cr1_ inn1_ k11_ k21_ k31_ k41_ z1_) (hI1_ : zLI cr1_ k11_ k31_) (hd0_ : bDay T d0 dd0_ p10_ p20_ p30_ wd0_) (hd1_ : bDay T d1 dd1_ p11_ p21_ p31_ wd1_) (hg0_ : bLog T g0 gg0_ q10_ q20_ wg0_) (hg1_ : bLog T g1 gg1_ q11_ q21_ wg1_) (hta : bTold T m0 l0a l1a d0a d1a g0a g1a lna fla pla fta fka wta) (hKa : zKT fka) (hz0_a : bLand T l0a cr0_a inn0_a k10_a k20_a k30_a k40_a z0_a) (hI0_a : zLI cr0_a k10_a k30_a) (hz1_a : bLand T l1a cr1_a inn1_a k11_a k21_a k31_a k41_a z1_a) (hI1_a : zLI cr1_a k11_a k31_a) (hd0_a : bDay T d0a dd0_a p10_a p20_a p30_a wd0_a) (hd1_a : bDay T d1a dd1_a p11_a p21_a p31_a wd1_a) (hg0_a : bLog T g0a gg0_a q10_a q20_a wg0_a) (hg1_a : bLog T g1a gg1_a q11_a q21_a wg1_a) (hm0 : qi 0 = some m0) (hm1 : qi 1 = some m1) (hm2 : qi 2 = some m2) (hT : zTR ln fl pl ft fk cr0_ inn0_ k10_ k20_ k30_ k40_ cr1_ inn1_ k11_ k21_ k31_ k41_ dd0_ p10_ p20_ p30_ dd1_ p11_ p21_ p31_ gg0_ q10_ q20_ gg1_ q11_ q21_ Gr) : zMi l T yX11_image cX11_image 2 (some .boolean) 3 0 0 [.ref xo, .int 0] [[zO10 xo t im mk rd po co tr wa wb_ fi cd], wt, z0_, z1_, wd0_, wd1_, wg0_, wg1_, wta, z0_a, z1_a, wd0_a, wd1_a, wg0_a, wg1_a, [zArq T 6 im 3 qi], [zAr T 2 mk 3 fmk]] (fun (r : Int32) bs => ∃ (lna_2 : Int32) (fla_2 : Int32) (pla_2 : Int32) (fta_2 : Nat → Int32) (fka_2 : Nat → Int32) (wta_2 : va_W) (cr0_a_2 : Int32) (inn0_a_2 : Int32) (k10_a_2 : Nat → Int32) (k20_a_2 : Nat → Int32) (k30_a_2 : Nat → Int32) (k40_a_2 : Nat → Int32) (z0_a_2 : va_W) (cr1_a_2 : Int32) (inn1_a_2 : Int32) (k11_a_2 : Nat → Int32) (k21_a_2 : Nat → Int32) (k31_a_2 : Nat → Int32) (k41_a_2 : Nat → Int32) (z1_a_2 : va_W) (dd0_a_2 : Int32) (p10_a_2 : Nat → Int32) (p20_a_2 : Nat → Int32) (p30_a_2 : Nat → Int32) (wd0_a_2 : va_W) (dd1_a_2 : Int32) (p11_a_2 : Nat → Int32) (p21_a_2 : Nat → Int32) (p31_a_2 : Nat → Int32) (wd1_a_2 : va_W) (gg0_a_2 : Int32) (q10_a_2 : Nat → Int32) (q20_a_2 : Nat → Int32) (wg0_a_2 : va_W) (gg1_a_2 : Int32) (q11_a_2 : Nat → Int32) (q21_a_2 : Nat → Int32) (wg1_a_2 : va_W) (fmk_2 : Nat → Int32), bs = [[zO10 xo t im mk rd po co tr wa wb_ fi cd], wt, z0_, z1_, wd0_, wd1_, wg0_, wg1_, wta_2, z0_a_2, z1_a_2, wd0_a_2, wd1_a_2, wg0_a_2, wg1_a_2, [zArq T 6 im 3 qi], [zAr T 2 mk 3 fmk_2]] ∧ bTold T m0 l0a l1a d0a d1a g0a g1a lna_2 fla_2 pla_2 fta_2 fka_2 wta_2 ∧ zKT fka_2 ∧ bLand T l0a cr0_a_2 inn0_a_2 k10_a_2 k20_a_2 k30_a_2 k40_a_2 z0_a_2 ∧ zLI cr0_a_2 k10_a_2 k30_a_2 ∧ bLand T l1a cr1_a_2 inn1_a_2 k11_a_2 k21_a_2 k31_a_2 k41_a_2 z1_a_2 ∧ zLI cr1_a_2 k11_a_2 k31_a_2 ∧ bDay T d0a dd0_a_2 p10_a_2 p20_a_2 p30_a_2 wd0_a_2 ∧ bDay T d1a dd1_a_2 p11_a_2 p21_a_2 p31_a_2 wd1_a_2 ∧ bLog T g0a gg0_a_2 q10_a_2 q20_a_2 wg0_a_2 ∧ bLog T g1a gg1_a_2 q11_a_2 q21_a_2 wg1_a_2 ∧ r = 1 ∧ fmk_2 = upd fmk 0 1 ∧ zTR lna_2 fla_2 pla_2 fta_2 fka_2 cr0_a_2 inn0_a_2 k10_a_2 k20_a_2 k30_a_2 k40_a_2 cr1_a_2 inn1_a_2 k11_a_2 k21_a_2 k31_a_2 k41_a_2 dd0_a_2 p10_a_2 p20_a_2 p30_a_2 dd1_a_2 p11_a_2 p21_a_2 p31_a_2 gg0_a_2 q10_a_2 q20_a_2 gg1_a_2 q11_a_2 q21_a_2 Gr) := by
  refine zMi_of (own := RX11) (by decide) rfl (Nat.le_of_ble_eq_true rfl) ?_
  intro p e s m args below meth c A ls C hr hlocks hnm hAe G hl
  refine zHide (fun Qz_ hQz_ => ?_)
  have hx := C.1
  have hb := C.2.1
  have hl : lv_has ls 2 [(0, .ref xo), (1, .int 0)] := hl
  refine lv_iload_n hx hb dX11_image_0 rfl (lv_at hl 1 rfl) ?_
  refine lv_if_lt (tgt := 9) hx hb dX11_image_1 (by decide) (fun q => absurd q (by decide)) (fun _ => ?_)
  refine lv_iload_n hx hb dX11_image_4 rfl (lv_at hl 1 rfl) ?_
  refine lv_iconst (v := 3) hx hb dX11_image_5 (by decide) ?_
  refine lv_icmp_lt (tgt := 11) hx hb dX11_image_6 (by decide) (fun _ => ?_) (fun q => absurd (by decide) q)
  refine lv_aload_n hx hb dX11_image_11 rfl (lv_at hl 0 rfl) ?_
  refine z_get C G clX11 0 rfl 1 (by decide) m_fl_RX11_16 rfl dX11_image_12 ?_
  refine lv_iload_n hx hb dX11_image_15 rfl (lv_at hl 1 rfl) ?_
  refine z_ald C G 15 6 rfl rfl (vp_in_nI (n := 0) (by decide) (by decide)) dX11_image_16 ?_
  rw [show qi ((0 : Int32).toNatClampNeg) = some m0 from hm0]
  refine lv_aload_n hx hb dX11_image_17 rfl (lv_at hl 0 rfl) ?_
  refine z_get C G clX11 0 rfl 0 (by decide) m_fl_RX11_10 rfl dX11_image_18 ?_
  refine z_Vv (bc := [wta, z0_a, z1_a, wd0_a, wd1_a, wg0_a, wg1_a, wt, z0_, z1_, wd0_, wd1_, wg0_, wg1_]) (br := [[zO10 xo t im mk rd po co tr wa wb_ fi cd], [zArq T 6 im 3 qi], [zAr T 2 mk 3 fmk]]) (As := [.ref t]) (rest := []) C G (c_f_Told_takeAll l T m0 l0a l1a d0a d1a g0a g1a lna fla pla fta fka wta cr0_a inn0_a k10_a k20_a k30_a k40_a z0_a cr1_a inn1_a k11_a k21_a k31_a k41_a z1_a dd0_a p10_a p20_a p30_a wd0_a dd1_a p11_a p21_a p31_a wd1_a gg0_a q10_a q20_a wg0_a gg1_a q11_a q21_a wg1_a t l0 l1 d0 d1 g0 g1 ln fl pl ft fk wt cr0_ inn0_ k10_ k20_ k30_ k40_ z0_ cr1_ inn1_ k11_ k21_ k31_ k41_ z1_ dd0_ p10_ p20_ p30_ wd0_ dd1_ p11_ p21_ p31_ wd1_ gg0_ q10_ q20_ wg0_ gg1_ q11_ q21_ wg1_ Gr hta (by first | with_reducible assumption | with_reducible rfl | omega | assumption | rfl) hz0_a (by first | with_reducible assumption | with_reducible rfl | omega | assumption | rfl) hz1_a (by first | with_reducible assumption | with_reducible rfl | omega | assumption | rfl) hd0_a hd1_a hg0_a hg1_a ht (by first | with_reducible assumption | with_reducible rfl | omega | assumption | rfl) hz0_ (by first | with_reducible assumption | with_reducible rfl | omega | assumption | rfl) hz1_ (by first | with_reducible assumption | with_reducible rfl | omega | assumption | rfl) hd0_ hd1_ hg0_ hg1_ hT) (kV_RX11_117 C.2.2.2.2 (Nat.le_of_ble_eq_true rfl) (Nat.le_of_ble_eq_true rfl)) [8, 9, 10, 11, 12, 13, 14, 1, 2, 3, 4, 5, 6, 7] [1, 0, 0, 0, 0, 0, 0, 0, 0, 0, 0, 0, 0, 0] rfl rfl (ci := 8) (qc := (RX9, TX9, 8)) rfl rfl (List.mem_flatten.mpr ⟨_, List.mem_of_getElem? (i := 0) rfl, (bTold_mem hta).choose_spec⟩) rfl rfl hl.1 dX11_image_21 (Nat.le_of_ble_eq_true rfl) (Nat.le_of_ble_eq_true rfl) (fun b1 H locs hw G => ?_)
  refine zEx27 hw ?_
  intro wt2_1 g9_2 fk2_3 w2_4 s0_5 s0_6 s0_7 s0_8 w2_9 s1_10 s1_11 s1_12 s1_13 w2_14 s2_15 s2_16 s2_17 w2_18 s3_19 s3_20 s3_21 w2_22 s4_23 s4_24 w2_25 s5_26 s5_27
  refine zCu12 ?_
  intro hbs9 h_28 h_29 h_30 h_31 h_32 h_33 h_34 h_35 h_36 h_37 h_38
  clear hw
  subst hbs9
  have G : zS T A s.heap s [[zO10 xo t im mk rd po co tr wa wb_ fi cd], [zArq T 6 im 3 qi], [zAr T 2 mk 3 fmk], wt2_1, w2_4, w2_9, w2_14, w2_18, w2_22, w2_25, wt, z0_, z1_, wd0_, wd1_, wg0_, wg1_] _ _ := G
  refine lv_aload_n hx hb dX11_image_24 rfl (lv_at hl 0 rfl) ?_
  refine z_get C G clX11 0 rfl 2 (by decide) m_fl_RX11_20 rfl dX11_image_25 ?_
  refine lv_iload_n hx hb dX11_image_28 rfl (lv_at hl 1 rfl) ?_
  refine lv_iconst (v := 1) hx hb dX11_image_29 (by decide) ?_
  refine z_zst C G 2 rfl (vp_in_nI (n := 0) (by decide) (by decide)) dX11_image_30 (fun H locs G => ?_)
  have G : zS T A s.heap s [[zO10 xo t im mk rd po co tr wa wb_ fi cd], [zArq T 6 im 3 qi], [zAr T 2 mk 3 (upd fmk 0 (vp_nar .boolean 1))], wt2_1, w2_4, w2_9, w2_14, w2_18, w2_22, w2_25, wt, z0_, z1_, wd0_, wd1_, wg0_, wg1_] _ _ := G
  refine lv_iconst (v := 1) hx hb dX11_image_31 (by decide) ?_
  have G := G.sub (bs' := [[zO10 xo t im mk rd po co tr wa wb_ fi cd], wt, z0_, z1_, wd0_, wd1_, wg0_, wg1_, wt2_1, w2_4, w2_9, w2_14, w2_18, w2_22, w2_25, [zArq T 6 im 3 qi], [zAr T 2 mk 3 (upd fmk 0 (vp_nar .boolean 1))]]) [0, 10, 11, 12, 13, 14, 15, 16, 3, 4, 5, 6, 7, 8, 9, 1, 2] rfl
  exact z_back hQz_ (z_zret C hr hlocks G (Nat.le_of_ble_eq_true rfl) (Nat.le_of_ble_eq_true rfl) dX11_image_32 rfl ⟨ln, fl, pl, g9_2, fk2_3, wt2_1, cr0_, inn0_, s0_5, s0_6, s0_7, s0_8, w2_4, cr1_, inn1_, s1_10, s1_11, s1_12, s1_13, w2_9, dd0_, s2_15, s2_16, s2_17, w2_14, dd1_, s3_19, s3_20, s3_21, w2_18, gg0_, s4_23, s4_24, w2_22, gg1_, s5_26, s5_27, w2_25, (upd fmk 0 (vp_nar .boolean 1)), rfl, h_28, (by first | with_reducible assumption | omega | trivial | assumption), h_30, (by first | with_reducible assumption | omega | trivial | assumption), h_31, (by first | with_reducible assumption | omega | trivial | assumption), h_32, h_33, h_34, h_35, rfl, rfl, h_38⟩)
set_option maxHeartbeats 4000000 in
set_option maxRecDepth 100000 in
/-- c_f_image1 -/
theorem c_f_image1 (l : Launch) (T : zTy) (xo : Nat) (t : Nat) (im : Nat) (mk : Nat) (rd : Nat) (po : Nat) (co : Nat) (tr : Nat) (wa : Nat) (wb_ : Nat) (fi : Nat) (cd : Nat) (l0 : Nat) (l1 : Nat) (d0 : Nat) (d1 : Nat) (g0 : Nat) (g1 : Nat) (ln : Int32) (fl : Int32) (pl : Int32) (ft : Nat → Int32) (fk : Nat → Int32) (wt : va_W) (cr0_ : Int32) (inn0_ : Int32) (k10_ : Nat → Int32) (k20_ : Nat → Int32) (k30_ : Nat → Int32) (k40_ : Nat → Int32) (z0_ : va_W) (cr1_ : Int32) (inn1_ : Int32) (k11_ : Nat → Int32) (k21_ : Nat → Int32) (k31_ : Nat → Int32) (k41_ : Nat → Int32) (z1_ : va_W) (dd0_ : Int32) (p10_ : Nat → Int32) (p20_ : Nat → Int32) (p30_ : Nat → Int32) (wd0_ : va_W) (dd1_ : Int32) (p11_ : Nat → Int32) (p21_ : Nat → Int32) (p31_ : Nat → Int32) (wd1_ : va_W) (gg0_ : Int32) (q10_ : Nat → Int32) (q20_ : Nat → Int32) (wg0_ : va_W) (gg1_ : Int32) (q11_ : Nat → Int32) (q21_ : Nat → Int32) (wg1_ : va_W) (m0 : Nat) (m1 : Nat) (l0b : Nat) (l1b : Nat) (d0b : Nat) (d1b : Nat) (g0b : Nat) (g1b : Nat) (lnb : Int32) (flb : Int32) (plb : Int32) (ftb : Nat → Int32) (fkb : Nat → Int32) (wtb : va_W) (cr0_b : Int32) (inn0_b : Int32) (k10_b : Nat → Int32) (k20_b : Nat → Int32) (k30_b : Nat → Int32) (k40_b : Nat → Int32) (z0_b : va_W) (cr1_b : Int32) (inn1_b : Int32) (k11_b : Nat → Int32) (k21_b : Nat → Int32) (k31_b : Nat → Int32) (k41_b : Nat → Int32) (z1_b : va_W) (dd0_b : Int32) (p10_b : Nat → Int32) (p20_b : Nat → Int32) (p30_b : Nat → Int32) (wd0_b : va_W) (dd1_b : Int32) (p11_b : Nat → Int32) (p21_b : Nat → Int32) (p31_b : Nat → Int32) (wd1_b : va_W) (gg0_b : Int32) (q10_b : Nat → Int32) (q20_b : Nat → Int32) (wg0_b : va_W) (gg1_b : Int32) (q11_b : Nat → Int32) (q21_b : Nat → Int32) (wg1_b : va_W) (m2 : Nat) (qi : Nat → Option Nat) (fmk : Nat → Int32) (Gr : Nat → Int32) (ht : bTold T t l0 l1 d0 d1 g0 g1 ln fl pl ft fk wt) (hK : zKT fk) (hz0_ : bLand T l0 cr0_ inn0_ k10_ k20_ k30_ k40_ z0_) (hI0_ : zLI cr0_ k10_ k30_) (hz1_ : bLand T l1 cr1_ inn1_ k11_ k21_ k31_ k41_ z1_) (hI1_ : zLI cr1_ k11_ k31_) (hd0_ : bDay T d0 dd0_ p10_ p20_ p30_ wd0_) (hd1_ : bDay T d1 dd1_ p11_ p21_ p31_ wd1_) (hg0_ : bLog T g0 gg0_ q10_ q20_ wg0_) (hg1_ : bLog T g1 gg1_ q11_ q21_ wg1_) (htb : bTold T m1 l0b l1b d0b d1b g0b g1b lnb flb plb ftb fkb wtb) (hKb : zKT fkb) (hz0_b : bLand T l0b cr0_b inn0_b k10_b k20_b k30_b k40_b z0_b) (hI0_b : zLI cr0_b k10_b k30_b) (hz1_b : bLand T l1b cr1_b inn1_b k11_b k21_b k31_b k41_b z1_b) (hI1_b : zLI cr1_b k11_b k31_b) (hd0_b : bDay T d0b dd0_b p10_b p20_b p30_b wd0_b) (hd1_b : bDay T d1b dd1_b p11_b p21_b p31_b wd1_b) (hg0_b : bLog T g0b gg0_b q10_b q20_b wg0_b) (hg1_b : bLog T g1b gg1_b q11_b q21_b wg1_b) (hm0 : qi 0 = some m0) (hm1 : qi 1 = some m1) (hm2 : qi 2 = some m2) (hT : zTR ln fl pl ft fk cr0_ inn0_ k10_ k20_ k30_ k40_ cr1_ inn1_ k11_ k21_ k31_ k41_ dd0_ p10_ p20_ p30_ dd1_ p11_ p21_ p31_ gg0_ q10_ q20_ gg1_ q11_ q21_ Gr) : zMi l T yX11_image cX11_image 2 (some .boolean) 3 0 0 [.ref xo, .int 1] [[zO10 xo t im mk rd po co tr wa wb_ fi cd], wt, z0_, z1_, wd0_, wd1_, wg0_, wg1_, wtb, z0_b, z1_b, wd0_b, wd1_b, wg0_b, wg1_b, [zArq T 6 im 3 qi], [zAr T 2 mk 3 fmk]] (fun (r : Int32) bs => ∃ (lnb_2 : Int32) (flb_2 : Int32) (plb_2 : Int32) (ftb_2 : Nat → Int32) (fkb_2 : Nat → Int32) (wtb_2 : va_W) (cr0_b_2 : Int32) (inn0_b_2 : Int32) (k10_b_2 : Nat → Int32) (k20_b_2 : Nat → Int32) (k30_b_2 : Nat → Int32) (k40_b_2 : Nat → Int32) (z0_b_2 : va_W) (cr1_b_2 : Int32) (inn1_b_2 : Int32) (k11_b_2 : Nat → Int32) (k21_b_2 : Nat → Int32) (k31_b_2 : Nat → Int32) (k41_b_2 : Nat → Int32) (z1_b_2 : va_W) (dd0_b_2 : Int32) (p10_b_2 : Nat → Int32) (p20_b_2 : Nat → Int32) (p30_b_2 : Nat → Int32) (wd0_b_2 : va_W) (dd1_b_2 : Int32) (p11_b_2 : Nat → Int32) (p21_b_2 : Nat → Int32) (p31_b_2 : Nat → Int32) (wd1_b_2 : va_W) (gg0_b_2 : Int32) (q10_b_2 : Nat → Int32) (q20_b_2 : Nat → Int32) (wg0_b_2 : va_W) (gg1_b_2 : Int32) (q11_b_2 : Nat → Int32) (q21_b_2 : Nat → Int32) (wg1_b_2 : va_W) (fmk_2 : Nat → Int32), bs = [[zO10 xo t im mk rd po co tr wa wb_ fi cd], wt, z0_, z1_, wd0_, wd1_, wg0_, wg1_, wtb_2, z0_b_2, z1_b_2, wd0_b_2, wd1_b_2, wg0_b_2, wg1_b_2, [zArq T 6 im 3 qi], [zAr T 2 mk 3 fmk_2]] ∧ bTold T m1 l0b l1b d0b d1b g0b g1b lnb_2 flb_2 plb_2 ftb_2 fkb_2 wtb_2 ∧ zKT fkb_2 ∧ bLand T l0b cr0_b_2 inn0_b_2 k10_b_2 k20_b_2 k30_b_2 k40_b_2 z0_b_2 ∧ zLI cr0_b_2 k10_b_2 k30_b_2 ∧ bLand T l1b cr1_b_2 inn1_b_2 k11_b_2 k21_b_2 k31_b_2 k41_b_2 z1_b_2 ∧ zLI cr1_b_2 k11_b_2 k31_b_2 ∧ bDay T d0b dd0_b_2 p10_b_2 p20_b_2 p30_b_2 wd0_b_2 ∧ bDay T d1b dd1_b_2 p11_b_2 p21_b_2 p31_b_2 wd1_b_2 ∧ bLog T g0b gg0_b_2 q10_b_2 q20_b_2 wg0_b_2 ∧ bLog T g1b gg1_b_2 q11_b_2 q21_b_2 wg1_b_2 ∧ r = 1 ∧ fmk_2 = upd fmk 1 1 ∧ zTR lnb_2 flb_2 plb_2 ftb_2 fkb_2 cr0_b_2 inn0_b_2 k10_b_2 k20_b_2 k30_b_2 k40_b_2 cr1_b_2 inn1_b_2 k11_b_2 k21_b_2 k31_b_2 k41_b_2 dd0_b_2 p10_b_2 p20_b_2 p30_b_2 dd1_b_2 p11_b_2 p21_b_2 p31_b_2 gg0_b_2 q10_b_2 q20_b_2 gg1_b_2 q11_b_2 q21_b_2 Gr) := by
  refine zMi_of (own := RX11) (by decide) rfl (Nat.le_of_ble_eq_true rfl) ?_
  intro p e s m args below meth c A ls C hr hlocks hnm hAe G hl
  refine zHide (fun Qz_ hQz_ => ?_)
  have hx := C.1
  have hb := C.2.1
  have hl : lv_has ls 2 [(0, .ref xo), (1, .int 1)] := hl
  refine lv_iload_n hx hb dX11_image_0 rfl (lv_at hl 1 rfl) ?_
  refine lv_if_lt (tgt := 9) hx hb dX11_image_1 (by decide) (fun q => absurd q (by decide)) (fun _ => ?_)
  refine lv_iload_n hx hb dX11_image_4 rfl (lv_at hl 1 rfl) ?_
  refine lv_iconst (v := 3) hx hb dX11_image_5 (by decide) ?_
  refine lv_icmp_lt (tgt := 11) hx hb dX11_image_6 (by decide) (fun _ => ?_) (fun q => absurd (by decide) q)
  refine lv_aload_n hx hb dX11_image_11 rfl (lv_at hl 0 rfl) ?_
  refine z_get C G clX11 0 rfl 1 (by decide) m_fl_RX11_16 rfl dX11_image_12 ?_
  refine lv_iload_n hx hb dX11_image_15 rfl (lv_at hl 1 rfl) ?_
  refine z_ald C G 15 6 rfl rfl (vp_in_nI (n := 1) (by decide) (by decide)) dX11_image_16 ?_
  rw [show qi ((1 : Int32).toNatClampNeg) = some m1 from hm1]
  refine lv_aload_n hx hb dX11_image_17 rfl (lv_at hl 0 rfl) ?_
  refine z_get C G clX11 0 rfl 0 (by decide) m_fl_RX11_10 rfl dX11_image_18 ?_
  refine z_Vv (bc := [wtb, z0_b, z1_b, wd0_b, wd1_b, wg0_b, wg1_b, wt, z0_, z1_, wd0_, wd1_, wg0_, wg1_]) (br := [[zO10 xo t im mk rd po co tr wa wb_ fi cd], [zArq T 6 im 3 qi], [zAr T 2 mk 3 fmk]]) (As := [.ref t]) (rest := []) C G (c_f_Told_takeAll l T m1 l0b l1b d0b d1b g0b g1b lnb flb plb ftb fkb wtb cr0_b inn0_b k10_b k20_b k30_b k40_b z0_b cr1_b inn1_b k11_b k21_b k31_b k41_b z1_b dd0_b p10_b p20_b p30_b wd0_b dd1_b p11_b p21_b p31_b wd1_b gg0_b q10_b q20_b wg0_b gg1_b q11_b q21_b wg1_b t l0 l1 d0 d1 g0 g1 ln fl pl ft fk wt cr0_ inn0_ k10_ k20_ k30_ k40_ z0_ cr1_ inn1_ k11_ k21_ k31_ k41_ z1_ dd0_ p10_ p20_ p30_ wd0_ dd1_ p11_ p21_ p31_ wd1_ gg0_ q10_ q20_ wg0_ gg1_ q11_ q21_ wg1_ Gr htb (by first | with_reducible assumption | with_reducible rfl | omega | assumption | rfl) hz0_b (by first | with_reducible assumption | with_reducible rfl | omega | assumption | rfl) hz1_b (by first | with_reducible assumption | with_reducible rfl | omega | assumption | rfl) hd0_b hd1_b hg0_b hg1_b ht (by first | with_reducible assumption | with_reducible rfl | omega | assumption | rfl) hz0_ (by first | with_reducible assumption | with_reducible rfl | omega | assumption | rfl) hz1_ (by first | with_reducible assumption | with_reducible rfl | omega | assumption | rfl) hd0_ hd1_ hg0_ hg1_ hT) (kV_RX11_117 C.2.2.2.2 (Nat.le_of_ble_eq_true rfl) (Nat.le_of_ble_eq_true rfl)) [8, 9, 10, 11, 12, 13, 14, 1, 2, 3, 4, 5, 6, 7] [1, 0, 0, 0, 0, 0, 0, 0, 0, 0, 0, 0, 0, 0] rfl rfl (ci := 8) (qc := (RX9, TX9, 8)) rfl rfl (List.mem_flatten.mpr ⟨_, List.mem_of_getElem? (i := 0) rfl, (bTold_mem htb).choose_spec⟩) rfl rfl hl.1 dX11_image_21 (Nat.le_of_ble_eq_true rfl) (Nat.le_of_ble_eq_true rfl) (fun b1 H locs hw G => ?_)
  refine zEx27 hw ?_
  intro wt2_1 g9_2 fk2_3 w2_4 s0_5 s0_6 s0_7 s0_8 w2_9 s1_10 s1_11 s1_12 s1_13 w2_14 s2_15 s2_16 s2_17 w2_18 s3_19 s3_20 s3_21 w2_22 s4_23 s4_24 w2_25 s5_26 s5_27
  refine zCu12 ?_
  intro hbs9 h_28 h_29 h_30 h_31 h_32 h_33 h_34 h_35 h_36 h_37 h_38
  clear hw
  subst hbs9
  have G : zS T A s.heap s [[zO10 xo t im mk rd po co tr wa wb_ fi cd], [zArq T 6 im 3 qi], [zAr T 2 mk 3 fmk], wt2_1, w2_4, w2_9, w2_14, w2_18, w2_22, w2_25, wt, z0_, z1_, wd0_, wd1_, wg0_, wg1_] _ _ := G
  refine lv_aload_n hx hb dX11_image_24 rfl (lv_at hl 0 rfl) ?_
  refine z_get C G clX11 0 rfl 2 (by decide) m_fl_RX11_20 rfl dX11_image_25 ?_
  refine lv_iload_n hx hb dX11_image_28 rfl (lv_at hl 1 rfl) ?_
  refine lv_iconst (v := 1) hx hb dX11_image_29 (by decide) ?_
  refine z_zst C G 2 rfl (vp_in_nI (n := 1) (by decide) (by decide)) dX11_image_30 (fun H locs G => ?_)
  have G : zS T A s.heap s [[zO10 xo t im mk rd po co tr wa wb_ fi cd], [zArq T 6 im 3 qi], [zAr T 2 mk 3 (upd fmk 1 (vp_nar .boolean 1))], wt2_1, w2_4, w2_9, w2_14, w2_18, w2_22, w2_25, wt, z0_, z1_, wd0_, wd1_, wg0_, wg1_] _ _ := G
  refine lv_iconst (v := 1) hx hb dX11_image_31 (by decide) ?_
  have G := G.sub (bs' := [[zO10 xo t im mk rd po co tr wa wb_ fi cd], wt, z0_, z1_, wd0_, wd1_, wg0_, wg1_, wt2_1, w2_4, w2_9, w2_14, w2_18, w2_22, w2_25, [zArq T 6 im 3 qi], [zAr T 2 mk 3 (upd fmk 1 (vp_nar .boolean 1))]]) [0, 10, 11, 12, 13, 14, 15, 16, 3, 4, 5, 6, 7, 8, 9, 1, 2] rfl
  exact z_back hQz_ (z_zret C hr hlocks G (Nat.le_of_ble_eq_true rfl) (Nat.le_of_ble_eq_true rfl) dX11_image_32 rfl ⟨ln, fl, pl, g9_2, fk2_3, wt2_1, cr0_, inn0_, s0_5, s0_6, s0_7, s0_8, w2_4, cr1_, inn1_, s1_10, s1_11, s1_12, s1_13, w2_9, dd0_, s2_15, s2_16, s2_17, w2_14, dd1_, s3_19, s3_20, s3_21, w2_18, gg0_, s4_23, s4_24, w2_22, gg1_, s5_26, s5_27, w2_25, (upd fmk 1 (vp_nar .boolean 1)), rfl, h_28, (by first | with_reducible assumption | omega | trivial | assumption), h_30, (by first | with_reducible assumption | omega | trivial | assumption), h_31, (by first | with_reducible assumption | omega | trivial | assumption), h_32, h_33, h_34, h_35, rfl, rfl, h_38⟩)
set_option maxHeartbeats 4000000 in
set_option maxRecDepth 100000 in
/-- c_f_image2 -/
theorem c_f_image2 (l : Launch) (T : zTy) (xo : Nat) (t : Nat) (im : Nat) (mk : Nat) (rd : Nat) (po : Nat) (co : Nat) (tr : Nat) (wa : Nat) (wb_ : Nat) (fi : Nat) (cd : Nat) (l0 : Nat) (l1 : Nat) (d0 : Nat) (d1 : Nat) (g0 : Nat) (g1 : Nat) (ln : Int32) (fl : Int32) (pl : Int32) (ft : Nat → Int32) (fk : Nat → Int32) (wt : va_W) (cr0_ : Int32) (inn0_ : Int32) (k10_ : Nat → Int32) (k20_ : Nat → Int32) (k30_ : Nat → Int32) (k40_ : Nat → Int32) (z0_ : va_W) (cr1_ : Int32) (inn1_ : Int32) (k11_ : Nat → Int32) (k21_ : Nat → Int32) (k31_ : Nat → Int32) (k41_ : Nat → Int32) (z1_ : va_W) (dd0_ : Int32) (p10_ : Nat → Int32) (p20_ : Nat → Int32) (p30_ : Nat → Int32) (wd0_ : va_W) (dd1_ : Int32) (p11_ : Nat → Int32) (p21_ : Nat → Int32) (p31_ : Nat → Int32) (wd1_ : va_W) (gg0_ : Int32) (q10_ : Nat → Int32) (q20_ : Nat → Int32) (wg0_ : va_W) (gg1_ : Int32) (q11_ : Nat → Int32) (q21_ : Nat → Int32) (wg1_ : va_W) (m0 : Nat) (m1 : Nat) (m2 : Nat) (l0c : Nat) (l1c : Nat) (d0c : Nat) (d1c : Nat) (g0c : Nat) (g1c : Nat) (lnc : Int32) (flc : Int32) (plc : Int32) (ftc : Nat → Int32) (fkc : Nat → Int32) (wtc : va_W) (cr0_c : Int32) (inn0_c : Int32) (k10_c : Nat → Int32) (k20_c : Nat → Int32) (k30_c : Nat → Int32) (k40_c : Nat → Int32) (z0_c : va_W) (cr1_c : Int32) (inn1_c : Int32) (k11_c : Nat → Int32) (k21_c : Nat → Int32) (k31_c : Nat → Int32) (k41_c : Nat → Int32) (z1_c : va_W) (dd0_c : Int32) (p10_c : Nat → Int32) (p20_c : Nat → Int32) (p30_c : Nat → Int32) (wd0_c : va_W) (dd1_c : Int32) (p11_c : Nat → Int32) (p21_c : Nat → Int32) (p31_c : Nat → Int32) (wd1_c : va_W) (gg0_c : Int32) (q10_c : Nat → Int32) (q20_c : Nat → Int32) (wg0_c : va_W) (gg1_c : Int32) (q11_c : Nat → Int32) (q21_c : Nat → Int32) (wg1_c : va_W) (qi : Nat → Option Nat) (fmk : Nat → Int32) (Gr : Nat → Int32) (ht : bTold T t l0 l1 d0 d1 g0 g1 ln fl pl ft fk wt) (hK : zKT fk) (hz0_ : bLand T l0 cr0_ inn0_ k10_ k20_ k30_ k40_ z0_) (hI0_ : zLI cr0_ k10_ k30_) (hz1_ : bLand T l1 cr1_ inn1_ k11_ k21_ k31_ k41_ z1_) (hI1_ : zLI cr1_ k11_ k31_) (hd0_ : bDay T d0 dd0_ p10_ p20_ p30_ wd0_) (hd1_ : bDay T d1 dd1_ p11_ p21_ p31_ wd1_) (hg0_ : bLog T g0 gg0_ q10_ q20_ wg0_) (hg1_ : bLog T g1 gg1_ q11_ q21_ wg1_) (htc : bTold T m2 l0c l1c d0c d1c g0c g1c lnc flc plc ftc fkc wtc) (hKc : zKT fkc) (hz0_c : bLand T l0c cr0_c inn0_c k10_c k20_c k30_c k40_c z0_c) (hI0_c : zLI cr0_c k10_c k30_c) (hz1_c : bLand T l1c cr1_c inn1_c k11_c k21_c k31_c k41_c z1_c) (hI1_c : zLI cr1_c k11_c k31_c) (hd0_c : bDay T d0c dd0_c p10_c p20_c p30_c wd0_c) (hd1_c : bDay T d1c dd1_c p11_c p21_c p31_c wd1_c) (hg0_c : bLog T g0c gg0_c q10_c q20_c wg0_c) (hg1_c : bLog T g1c gg1_c q11_c q21_c wg1_c) (hm0 : qi 0 = some m0) (hm1 : qi 1 = some m1) (hm2 : qi 2 = some m2) (hT : zTR ln fl pl ft fk cr0_ inn0_ k10_ k20_ k30_ k40_ cr1_ inn1_ k11_ k21_ k31_ k41_ dd0_ p10_ p20_ p30_ dd1_ p11_ p21_ p31_ gg0_ q10_ q20_ gg1_ q11_ q21_ Gr) : zMi l T yX11_image cX11_image 2 (some .boolean) 3 0 0 [.ref xo, .int 2] [[zO10 xo t im mk rd po co tr wa wb_ fi cd], wt, z0_, z1_, wd0_, wd1_, wg0_, wg1_, wtc, z0_c, z1_c, wd0_c, wd1_c, wg0_c, wg1_c, [zArq T 6 im 3 qi], [zAr T 2 mk 3 fmk]] (fun (r : Int32) bs => ∃ (lnc_2 : Int32) (flc_2 : Int32) (plc_2 : Int32) (ftc_2 : Nat → Int32) (fkc_2 : Nat → Int32) (wtc_2 : va_W) (cr0_c_2 : Int32) (inn0_c_2 : Int32) (k10_c_2 : Nat → Int32) (k20_c_2 : Nat → Int32) (k30_c_2 : Nat → Int32) (k40_c_2 : Nat → Int32) (z0_c_2 : va_W) (cr1_c_2 : Int32) (inn1_c_2 : Int32) (k11_c_2 : Nat → Int32) (k21_c_2 : Nat → Int32) (k31_c_2 : Nat → Int32) (k41_c_2 : Nat → Int32) (z1_c_2 : va_W) (dd0_c_2 : Int32) (p10_c_2 : Nat → Int32) (p20_c_2 : Nat → Int32) (p30_c_2 : Nat → Int32) (wd0_c_2 : va_W) (dd1_c_2 : Int32) (p11_c_2 : Nat → Int32) (p21_c_2 : Nat → Int32) (p31_c_2 : Nat → Int32) (wd1_c_2 : va_W) (gg0_c_2 : Int32) (q10_c_2 : Nat → Int32) (q20_c_2 : Nat → Int32) (wg0_c_2 : va_W) (gg1_c_2 : Int32) (q11_c_2 : Nat → Int32) (q21_c_2 : Nat → Int32) (wg1_c_2 : va_W) (fmk_2 : Nat → Int32), bs = [[zO10 xo t im mk rd po co tr wa wb_ fi cd], wt, z0_, z1_, wd0_, wd1_, wg0_, wg1_, wtc_2, z0_c_2, z1_c_2, wd0_c_2, wd1_c_2, wg0_c_2, wg1_c_2, [zArq T 6 im 3 qi], [zAr T 2 mk 3 fmk_2]] ∧ bTold T m2 l0c l1c d0c d1c g0c g1c lnc_2 flc_2 plc_2 ftc_2 fkc_2 wtc_2 ∧ zKT fkc_2 ∧ bLand T l0c cr0_c_2 inn0_c_2 k10_c_2 k20_c_2 k30_c_2 k40_c_2 z0_c_2 ∧ zLI cr0_c_2 k10_c_2 k30_c_2 ∧ bLand T l1c cr1_c_2 inn1_c_2 k11_c_2 k21_c_2 k31_c_2 k41_c_2 z1_c_2 ∧ zLI cr1_c_2 k11_c_2 k31_c_2 ∧ bDay T d0c dd0_c_2 p10_c_2 p20_c_2 p30_c_2 wd0_c_2 ∧ bDay T d1c dd1_c_2 p11_c_2 p21_c_2 p31_c_2 wd1_c_2 ∧ bLog T g0c gg0_c_2 q10_c_2 q20_c_2 wg0_c_2 ∧ bLog T g1c gg1_c_2 q11_c_2 q21_c_2 wg1_c_2 ∧ r = 1 ∧ fmk_2 = upd fmk 2 1 ∧ zTR lnc_2 flc_2 plc_2 ftc_2 fkc_2 cr0_c_2 inn0_c_2 k10_c_2 k20_c_2 k30_c_2 k40_c_2 cr1_c_2 inn1_c_2 k11_c_2 k21_c_2 k31_c_2 k41_c_2 dd0_c_2 p10_c_2 p20_c_2 p30_c_2 dd1_c_2 p11_c_2 p21_c_2 p31_c_2 gg0_c_2 q10_c_2 q20_c_2 gg1_c_2 q11_c_2 q21_c_2 Gr) := by
  refine zMi_of (own := RX11) (by decide) rfl (Nat.le_of_ble_eq_true rfl) ?_
  intro p e s m args below meth c A ls C hr hlocks hnm hAe G hl
  refine zHide (fun Qz_ hQz_ => ?_)
  have hx := C.1
  have hb := C.2.1
  have hl : lv_has ls 2 [(0, .ref xo), (1, .int 2)] := hl
  refine lv_iload_n hx hb dX11_image_0 rfl (lv_at hl 1 rfl) ?_
  refine lv_if_lt (tgt := 9) hx hb dX11_image_1 (by decide) (fun q => absurd q (by decide)) (fun _ => ?_)
  refine lv_iload_n hx hb dX11_image_4 rfl (lv_at hl 1 rfl) ?_
  refine lv_iconst (v := 3) hx hb dX11_image_5 (by decide) ?_
  refine lv_icmp_lt (tgt := 11) hx hb dX11_image_6 (by decide) (fun _ => ?_) (fun q => absurd (by decide) q)
  refine lv_aload_n hx hb dX11_image_11 rfl (lv_at hl 0 rfl) ?_
  refine z_get C G clX11 0 rfl 1 (by decide) m_fl_RX11_16 rfl dX11_image_12 ?_
  refine lv_iload_n hx hb dX11_image_15 rfl (lv_at hl 1 rfl) ?_
  refine z_ald C G 15 6 rfl rfl (vp_in_nI (n := 2) (by decide) (by decide)) dX11_image_16 ?_
  rw [show qi ((2 : Int32).toNatClampNeg) = some m2 from hm2]
  refine lv_aload_n hx hb dX11_image_17 rfl (lv_at hl 0 rfl) ?_
  refine z_get C G clX11 0 rfl 0 (by decide) m_fl_RX11_10 rfl dX11_image_18 ?_
  refine z_Vv (bc := [wtc, z0_c, z1_c, wd0_c, wd1_c, wg0_c, wg1_c, wt, z0_, z1_, wd0_, wd1_, wg0_, wg1_]) (br := [[zO10 xo t im mk rd po co tr wa wb_ fi cd], [zArq T 6 im 3 qi], [zAr T 2 mk 3 fmk]]) (As := [.ref t]) (rest := []) C G (c_f_Told_takeAll l T m2 l0c l1c d0c d1c g0c g1c lnc flc plc ftc fkc wtc cr0_c inn0_c k10_c k20_c k30_c k40_c z0_c cr1_c inn1_c k11_c k21_c k31_c k41_c z1_c dd0_c p10_c p20_c p30_c wd0_c dd1_c p11_c p21_c p31_c wd1_c gg0_c q10_c q20_c wg0_c gg1_c q11_c q21_c wg1_c t l0 l1 d0 d1 g0 g1 ln fl pl ft fk wt cr0_ inn0_ k10_ k20_ k30_ k40_ z0_ cr1_ inn1_ k11_ k21_ k31_ k41_ z1_ dd0_ p10_ p20_ p30_ wd0_ dd1_ p11_ p21_ p31_ wd1_ gg0_ q10_ q20_ wg0_ gg1_ q11_ q21_ wg1_ Gr htc (by first | with_reducible assumption | with_reducible rfl | omega | assumption | rfl) hz0_c (by first | with_reducible assumption | with_reducible rfl | omega | assumption | rfl) hz1_c (by first | with_reducible assumption | with_reducible rfl | omega | assumption | rfl) hd0_c hd1_c hg0_c hg1_c ht (by first | with_reducible assumption | with_reducible rfl | omega | assumption | rfl) hz0_ (by first | with_reducible assumption | with_reducible rfl | omega | assumption | rfl) hz1_ (by first | with_reducible assumption | with_reducible rfl | omega | assumption | rfl) hd0_ hd1_ hg0_ hg1_ hT) (kV_RX11_117 C.2.2.2.2 (Nat.le_of_ble_eq_true rfl) (Nat.le_of_ble_eq_true rfl)) [8, 9, 10, 11, 12, 13, 14, 1, 2, 3, 4, 5, 6, 7] [1, 0, 0, 0, 0, 0, 0, 0, 0, 0, 0, 0, 0, 0] rfl rfl (ci := 8) (qc := (RX9, TX9, 8)) rfl rfl (List.mem_flatten.mpr ⟨_, List.mem_of_getElem? (i := 0) rfl, (bTold_mem htc).choose_spec⟩) rfl rfl hl.1 dX11_image_21 (Nat.le_of_ble_eq_true rfl) (Nat.le_of_ble_eq_true rfl) (fun b1 H locs hw G => ?_)
  refine zEx27 hw ?_
  intro wt2_1 g9_2 fk2_3 w2_4 s0_5 s0_6 s0_7 s0_8 w2_9 s1_10 s1_11 s1_12 s1_13 w2_14 s2_15 s2_16 s2_17 w2_18 s3_19 s3_20 s3_21 w2_22 s4_23 s4_24 w2_25 s5_26 s5_27
  refine zCu12 ?_
  intro hbs9 h_28 h_29 h_30 h_31 h_32 h_33 h_34 h_35 h_36 h_37 h_38
  clear hw
  subst hbs9
  have G : zS T A s.heap s [[zO10 xo t im mk rd po co tr wa wb_ fi cd], [zArq T 6 im 3 qi], [zAr T 2 mk 3 fmk], wt2_1, w2_4, w2_9, w2_14, w2_18, w2_22, w2_25, wt, z0_, z1_, wd0_, wd1_, wg0_, wg1_] _ _ := G
  refine lv_aload_n hx hb dX11_image_24 rfl (lv_at hl 0 rfl) ?_
  refine z_get C G clX11 0 rfl 2 (by decide) m_fl_RX11_20 rfl dX11_image_25 ?_
  refine lv_iload_n hx hb dX11_image_28 rfl (lv_at hl 1 rfl) ?_
  refine lv_iconst (v := 1) hx hb dX11_image_29 (by decide) ?_
  refine z_zst C G 2 rfl (vp_in_nI (n := 2) (by decide) (by decide)) dX11_image_30 (fun H locs G => ?_)
  have G : zS T A s.heap s [[zO10 xo t im mk rd po co tr wa wb_ fi cd], [zArq T 6 im 3 qi], [zAr T 2 mk 3 (upd fmk 2 (vp_nar .boolean 1))], wt2_1, w2_4, w2_9, w2_14, w2_18, w2_22, w2_25, wt, z0_, z1_, wd0_, wd1_, wg0_, wg1_] _ _ := G
  refine lv_iconst (v := 1) hx hb dX11_image_31 (by decide) ?_
  have G := G.sub (bs' := [[zO10 xo t im mk rd po co tr wa wb_ fi cd], wt, z0_, z1_, wd0_, wd1_, wg0_, wg1_, wt2_1, w2_4, w2_9, w2_14, w2_18, w2_22, w2_25, [zArq T 6 im 3 qi], [zAr T 2 mk 3 (upd fmk 2 (vp_nar .boolean 1))]]) [0, 10, 11, 12, 13, 14, 15, 16, 3, 4, 5, 6, 7, 8, 9, 1, 2] rfl
  exact z_back hQz_ (z_zret C hr hlocks G (Nat.le_of_ble_eq_true rfl) (Nat.le_of_ble_eq_true rfl) dX11_image_32 rfl ⟨ln, fl, pl, g9_2, fk2_3, wt2_1, cr0_, inn0_, s0_5, s0_6, s0_7, s0_8, w2_4, cr1_, inn1_, s1_10, s1_11, s1_12, s1_13, w2_9, dd0_, s2_15, s2_16, s2_17, w2_14, dd1_, s3_19, s3_20, s3_21, w2_18, gg0_, s4_23, s4_24, w2_22, gg1_, s5_26, s5_27, w2_25, (upd fmk 2 (vp_nar .boolean 1)), rfl, h_28, (by first | with_reducible assumption | omega | trivial | assumption), h_30, (by first | with_reducible assumption | omega | trivial | assumption), h_31, (by first | with_reducible assumption | omega | trivial | assumption), h_32, h_33, h_34, h_35, rfl, rfl, h_38⟩)
set_option maxHeartbeats 4000000 in
set_option maxRecDepth 100000 in
/-- c_f_again0 -/
theorem c_f_again0 (l : Launch) (T : zTy) (xo : Nat) (t : Nat) (im : Nat) (mk : Nat) (rd : Nat) (po : Nat) (co : Nat) (tr : Nat) (wa : Nat) (wb_ : Nat) (fi : Nat) (cd : Nat) (l0 : Nat) (l1 : Nat) (d0 : Nat) (d1 : Nat) (g0 : Nat) (g1 : Nat) (ln : Int32) (fl : Int32) (pl : Int32) (ft : Nat → Int32) (fk : Nat → Int32) (wt : va_W) (cr0_ : Int32) (inn0_ : Int32) (k10_ : Nat → Int32) (k20_ : Nat → Int32) (k30_ : Nat → Int32) (k40_ : Nat → Int32) (z0_ : va_W) (cr1_ : Int32) (inn1_ : Int32) (k11_ : Nat → Int32) (k21_ : Nat → Int32) (k31_ : Nat → Int32) (k41_ : Nat → Int32) (z1_ : va_W) (dd0_ : Int32) (p10_ : Nat → Int32) (p20_ : Nat → Int32) (p30_ : Nat → Int32) (wd0_ : va_W) (dd1_ : Int32) (p11_ : Nat → Int32) (p21_ : Nat → Int32) (p31_ : Nat → Int32) (wd1_ : va_W) (gg0_ : Int32) (q10_ : Nat → Int32) (q20_ : Nat → Int32) (wg0_ : va_W) (gg1_ : Int32) (q11_ : Nat → Int32) (q21_ : Nat → Int32) (wg1_ : va_W) (m0 : Nat) (l0a : Nat) (l1a : Nat) (d0a : Nat) (d1a : Nat) (g0a : Nat) (g1a : Nat) (lna : Int32) (fla : Int32) (pla : Int32) (fta : Nat → Int32) (fka : Nat → Int32) (wta : va_W) (cr0_a : Int32) (inn0_a : Int32) (k10_a : Nat → Int32) (k20_a : Nat → Int32) (k30_a : Nat → Int32) (k40_a : Nat → Int32) (z0_a : va_W) (cr1_a : Int32) (inn1_a : Int32) (k11_a : Nat → Int32) (k21_a : Nat → Int32) (k31_a : Nat → Int32) (k41_a : Nat → Int32) (z1_a : va_W) (dd0_a : Int32) (p10_a : Nat → Int32) (p20_a : Nat → Int32) (p30_a : Nat → Int32) (wd0_a : va_W) (dd1_a : Int32) (p11_a : Nat → Int32) (p21_a : Nat → Int32) (p31_a : Nat → Int32) (wd1_a : va_W) (gg0_a : Int32) (q10_a : Nat → Int32) (q20_a : Nat → Int32) (wg0_a : va_W) (gg1_a : Int32) (q11_a : Nat → Int32) (q21_a : Nat → Int32) (wg1_a : va_W) (m1 : Nat) (m2 : Nat) (qi : Nat → Option Nat) (fmk : Nat → Int32) (laA : Nat) (mdA : Int32) (wyA : Int32) (pc_A : Int32) (f1A : Nat → Int32) (f2A : Nat → Int32) (f3A : Nat → Int32) (f4A : Nat → Int32) (f5A : Nat → Int32) (f6A : Nat → Int32) (n4A : Nat) (wwA : va_W) (laB : Nat) (mdB : Int32) (wyB : Int32) (pc_B : Int32) (f1B : Nat → Int32) (f2B : Nat → Int32) (f3B : Nat → Int32) (f4B : Nat → Int32) (f5B : Nat → Int32) (f6B : Nat → Int32) (n4B : Nat) (wwB : va_W) (e0f : Int32) (e1f : Int32) (e2f : Int32) (e3f : Int32) (e4f : Int32) (e5f : Int32) (r1f : Nat → Int32) (m1f : Nat) (r2f : Nat → Int32) (wff : va_W) (Gr : Nat → Int32) (Gw : Nat → Int32) (ht : bTold T t l0 l1 d0 d1 g0 g1 ln fl pl ft fk wt) (hK : zKT fk) (hz0_ : bLand T l0 cr0_ inn0_ k10_ k20_ k30_ k40_ z0_) (hI0_ : zLI cr0_ k10_ k30_) (hz1_ : bLand T l1 cr1_ inn1_ k11_ k21_ k31_ k41_ z1_) (hI1_ : zLI cr1_ k11_ k31_) (hd0_ : bDay T d0 dd0_ p10_ p20_ p30_ wd0_) (hd1_ : bDay T d1 dd1_ p11_ p21_ p31_ wd1_) (hg0_ : bLog T g0 gg0_ q10_ q20_ wg0_) (hg1_ : bLog T g1 gg1_ q11_ q21_ wg1_) (hta : bTold T m0 l0a l1a d0a d1a g0a g1a lna fla pla fta fka wta) (hKa : zKT fka) (hz0_a : bLand T l0a cr0_a inn0_a k10_a k20_a k30_a k40_a z0_a) (hI0_a : zLI cr0_a k10_a k30_a) (hz1_a : bLand T l1a cr1_a inn1_a k11_a k21_a k31_a k41_a z1_a) (hI1_a : zLI cr1_a k11_a k31_a) (hd0_a : bDay T d0a dd0_a p10_a p20_a p30_a wd0_a) (hd1_a : bDay T d1a dd1_a p11_a p21_a p31_a wd1_a) (hg0_a : bLog T g0a gg0_a q10_a q20_a wg0_a) (hg1_a : bLog T g1a gg1_a q11_a q21_a wg1_a) (hm0 : qi 0 = some m0) (hm1 : qi 1 = some m1) (hm2 : qi 2 = some m2) (hwwA : bWays T wa laA mdA wyA pc_A f1A f2A f3A f4A f5A f6A n4A wwA) (hwwB : bWays T wb_ laB mdB wyB pc_B f1B f2B f3B f4B f5B f6B n4B wwB) (hwff : bFit T fi e0f e1f e2f e3f e4f e5f r1f m1f r2f wff) (hT : zTR ln fl pl ft fk cr0_ inn0_ k10_ k20_ k30_ k40_ cr1_ inn1_ k11_ k21_ k31_ k41_ dd0_ p10_ p20_ p30_ dd1_ p11_ p21_ p31_ gg0_ q10_ q20_ gg1_ q11_ q21_ Gr) (hTw : (¬ fmk 0 = 0 → zTR lna fla pla fta fka cr0_a inn0_a k10_a k20_a k30_a k40_a cr1_a inn1_a k11_a k21_a k31_a k41_a dd0_a p10_a p20_a p30_a dd1_a p11_a p21_a p31_a gg0_a q10_a q20_a gg1_a q11_a q21_a Gw)) : zMi l T yX11_again cX11_again 2 (some .boolean) 3 0 0 [.ref xo, .int 0] [[zO10 xo t im mk rd po co tr wa wb_ fi cd], wt, z0_, z1_, wd0_, wd1_, wg0_, wg1_, wta, z0_a, z1_a, wd0_a, wd1_a, wg0_a, wg1_a, [zArq T 6 im 3 qi], [zAr T 2 mk 3 fmk], wwA, wwB, wff] (fun (r : Int32) bs => ∃ (ln_2 : Int32) (fl_2 : Int32) (pl_2 : Int32) (ft_2 : Nat → Int32) (fk_2 : Nat → Int32) (wt_2 : va_W) (cr0__2 : Int32) (inn0__2 : Int32) (k10__2 : Nat → Int32) (k20__2 : Nat → Int32) (k30__2 : Nat → Int32) (k40__2 : Nat → Int32) (z0__2 : va_W) (cr1__2 : Int32) (inn1__2 : Int32) (k11__2 : Nat → Int32) (k21__2 : Nat → Int32) (k31__2 : Nat → Int32) (k41__2 : Nat → Int32) (z1__2 : va_W) (dd0__2 : Int32) (p10__2 : Nat → Int32) (p20__2 : Nat → Int32) (p30__2 : Nat → Int32) (wd0__2 : va_W) (dd1__2 : Int32) (p11__2 : Nat → Int32) (p21__2 : Nat → Int32) (p31__2 : Nat → Int32) (wd1__2 : va_W) (gg0__2 : Int32) (q10__2 : Nat → Int32) (q20__2 : Nat → Int32) (wg0__2 : va_W) (gg1__2 : Int32) (q11__2 : Nat → Int32) (q21__2 : Nat → Int32) (wg1__2 : va_W) (wwA_2 : va_W) (wwB_2 : va_W) (wff_2 : va_W) (mdA_2 : Int32) (mdB_2 : Int32) (e0f_2 : Int32), bs = [[zO10 xo t im mk rd po co tr wa wb_ fi cd], wt_2, z0__2, z1__2, wd0__2, wd1__2, wg0__2, wg1__2, wta, z0_a, z1_a, wd0_a, wd1_a, wg0_a, wg1_a, [zArq T 6 im 3 qi], [zAr T 2 mk 3 fmk], wwA_2, wwB_2, wff_2] ∧ bTold T t l0 l1 d0 d1 g0 g1 ln_2 fl_2 pl_2 ft_2 fk_2 wt_2 ∧ zKT fk_2 ∧ bLand T l0 cr0__2 inn0__2 k10__2 k20__2 k30__2 k40__2 z0__2 ∧ zLI cr0__2 k10__2 k30__2 ∧ bLand T l1 cr1__2 inn1__2 k11__2 k21__2 k31__2 k41__2 z1__2 ∧ zLI cr1__2 k11__2 k31__2 ∧ bDay T d0 dd0__2 p10__2 p20__2 p30__2 wd0__2 ∧ bDay T d1 dd1__2 p11__2 p21__2 p31__2 wd1__2 ∧ bLog T g0 gg0__2 q10__2 q20__2 wg0__2 ∧ bLog T g1 gg1__2 q11__2 q21__2 wg1__2 ∧ bWays T wa laA mdA_2 wyA pc_A f1A f2A f3A f4A f5A f6A n4A wwA_2 ∧ bWays T wb_ laB mdB_2 wyB pc_B f1B f2B f3B f4B f5B f6B n4B wwB_2 ∧ bFit T fi e0f_2 e1f e2f e3f e4f e5f r1f m1f r2f wff_2 ∧ (mdA_2 = 0 ∧ mdB_2 = 0 ∧ e0f_2 = 0 ∨ mdA_2 = mdA ∧ mdB_2 = mdB ∧ e0f_2 = 0 ∨ mdA_2 = mdA ∧ mdB_2 = mdB ∧ e0f_2 = e0f) ∧ (fmk 0 = 0 ∧ r = 0 ∧ zTR ln_2 fl_2 pl_2 ft_2 fk_2 cr0__2 inn0__2 k10__2 k20__2 k30__2 k40__2 cr1__2 inn1__2 k11__2 k21__2 k31__2 k41__2 dd0__2 p10__2 p20__2 p30__2 dd1__2 p11__2 p21__2 p31__2 gg0__2 q10__2 q20__2 gg1__2 q11__2 q21__2 Gr ∨ ¬ fmk 0 = 0 ∧ r = 1 ∧ zTR ln_2 fl_2 pl_2 ft_2 fk_2 cr0__2 inn0__2 k10__2 k20__2 k30__2 k40__2 cr1__2 inn1__2 k11__2 k21__2 k31__2 k41__2 dd0__2 p10__2 p20__2 p30__2 dd1__2 p11__2 p21__2 p31__2 gg0__2 q10__2 q20__2 gg1__2 q11__2 q21__2 Gw) ∧ (fmk 0 = 0 ∨ mdA_2 = 0 ∧ mdB_2 = 0 ∧ e0f_2 = 0)) := by
  refine zMi_of (own := RX11) (by decide) rfl (Nat.le_of_ble_eq_true rfl) ?_
  intro p e s m args below meth c A ls C hr hlocks hnm hAe G hl
  refine zHide (fun Qz_ hQz_ => ?_)
  have hx := C.1
  have hb := C.2.1
  replace hTw : zHd ((¬ fmk 0 = 0 → zTR lna fla pla fta fka cr0_a inn0_a k10_a k20_a k30_a k40_a cr1_a inn1_a k11_a k21_a k31_a k41_a dd0_a p10_a p20_a p30_a dd1_a p11_a p21_a p31_a gg0_a q10_a q20_a gg1_a q11_a q21_a Gw)) := hTw
  have hl : lv_has ls 2 [(0, .ref xo), (1, .int 0)] := hl
  refine lv_iload_n hx hb dX11_again_0 rfl (lv_at hl 1 rfl) ?_
  refine lv_if_lt (tgt := 18) hx hb dX11_again_1 (by decide) (fun q => absurd q (by decide)) (fun _ => ?_)
  refine lv_iload_n hx hb dX11_again_4 rfl (lv_at hl 1 rfl) ?_
  refine lv_iconst (v := 3) hx hb dX11_again_5 (by decide) ?_
  refine lv_icmp_ge (tgt := 18) hx hb dX11_again_6 (by decide) (fun q => absurd q (by decide)) (fun _ => ?_)
  refine lv_aload_n hx hb dX11_again_9 rfl (lv_at hl 0 rfl) ?_
  refine z_get C G clX11 0 rfl 2 (by decide) m_fl_RX11_20 rfl dX11_again_10 ?_
  refine lv_iload_n hx hb dX11_again_13 rfl (lv_at hl 1 rfl) ?_
  refine z_zld C G 16 rfl (vp_in_nI (n := 0) (by decide) (by decide)) dX11_again_14 ?_
  refine lv_topi (fun v_1 ev_1 => ?_)
  rw [show ((0 : Int32).toNatClampNeg) = 0 from rfl] at ev_1
  subst ev_1
  refine lv_if_ne (tgt := 20) hx hb dX11_again_15 (by decide) (fun c_2 => ?_) (fun c_2 => ?_)
  · have c_2n : ¬ (fmk 0).toInt = (0 : Int) := fun q => c_2 ((fa_eq _ _).mpr q)
    refine lv_aload_n hx hb dX11_again_20 rfl (lv_at hl 0 rfl) ?_
    refine z_get C G clX11 0 rfl 0 (by decide) m_fl_RX11_10 rfl dX11_again_21 ?_
    refine lv_aload_n hx hb dX11_again_24 rfl (lv_at hl 0 rfl) ?_
    refine z_get C G clX11 0 rfl 1 (by decide) m_fl_RX11_16 rfl dX11_again_25 ?_
    refine lv_iload_n hx hb dX11_again_28 rfl (lv_at hl 1 rfl) ?_
    refine z_ald C G 15 6 rfl rfl (vp_in_nI (n := 0) (by decide) (by decide)) dX11_again_29 ?_
    rw [show qi ((0 : Int32).toNatClampNeg) = some m0 from hm0]
    refine z_Vv (bc := [wt, z0_, z1_, wd0_, wd1_, wg0_, wg1_, wta, z0_a, z1_a, wd0_a, wd1_a, wg0_a, wg1_a]) (br := [[zO10 xo t im mk rd po co tr wa wb_ fi cd], [zArq T 6 im 3 qi], [zAr T 2 mk 3 fmk], wwA, wwB, wff]) (As := [.ref m0]) (rest := []) C G (c_f_Told_takeAll l T t l0 l1 d0 d1 g0 g1 ln fl pl ft fk wt cr0_ inn0_ k10_ k20_ k30_ k40_ z0_ cr1_ inn1_ k11_ k21_ k31_ k41_ z1_ dd0_ p10_ p20_ p30_ wd0_ dd1_ p11_ p21_ p31_ wd1_ gg0_ q10_ q20_ wg0_ gg1_ q11_ q21_ wg1_ m0 l0a l1a d0a d1a g0a g1a lna fla pla fta fka wta cr0_a inn0_a k10_a k20_a k30_a k40_a z0_a cr1_a inn1_a k11_a k21_a k31_a k41_a z1_a dd0_a p10_a p20_a p30_a wd0_a dd1_a p11_a p21_a p31_a wd1_a gg0_a q10_a q20_a wg0_a gg1_a q11_a q21_a wg1_a Gw ht (by first | with_reducible assumption | with_reducible rfl | omega | assumption | rfl) hz0_ (by first | with_reducible assumption | with_reducible rfl | omega | assumption | rfl) hz1_ (by first | with_reducible assumption | with_reducible rfl | omega | assumption | rfl) hd0_ hd1_ hg0_ hg1_ hta (by first | with_reducible assumption | with_reducible rfl | omega | assumption | rfl) hz0_a (by first | with_reducible assumption | with_reducible rfl | omega | assumption | rfl) hz1_a (by first | with_reducible assumption | with_reducible rfl | omega | assumption | rfl) hd0_a hd1_a hg0_a hg1_a (hTw (by first | with_reducible assumption | assumption))) (kV_RX11_117 C.2.2.2.2 (Nat.le_of_ble_eq_true rfl) (Nat.le_of_ble_eq_true rfl)) [1, 2, 3, 4, 5, 6, 7, 8, 9, 10, 11, 12, 13, 14] [1, 0, 0, 0, 0, 0, 0, 0, 0, 0, 0, 0, 0, 0] rfl rfl (ci := 8) (qc := (RX9, TX9, 8)) rfl rfl (List.mem_flatten.mpr ⟨_, List.mem_of_getElem? (i := 0) rfl, (bTold_mem ht).choose_spec⟩) rfl rfl hl.1 dX11_again_30 (Nat.le_of_ble_eq_true rfl) (Nat.le_of_ble_eq_true rfl) (fun b1 H locs hw G => ?_)
    refine zEx27 hw ?_
    intro wt2_3 g9_4 fk2_5 w2_6 s0_7 s0_8 s0_9 s0_10 w2_11 s1_12 s1_13 s1_14 s1_15 w2_16 s2_17 s2_18 s2_19 w2_20 s3_21 s3_22 s3_23 w2_24 s4_25 s4_26 w2_27 s5_28 s5_29
    refine zCu12 ?_
    intro hbs9 h_30 h_31 h_32 h_33 h_34 h_35 h_36 h_37 h_38 h_39 h_40
    clear hw
    subst hbs9
    have G : zS T A s.heap s [[zO10 xo t im mk rd po co tr wa wb_ fi cd], [zArq T 6 im 3 qi], [zAr T 2 mk 3 fmk], wwA, wwB, wff, wt2_3, w2_6, w2_11, w2_16, w2_20, w2_24, w2_27, wta, z0_a, z1_a, wd0_a, wd1_a, wg0_a, wg1_a] _ _ := G
    refine lv_aload_n hx hb dX11_again_33 rfl (lv_at hl 0 rfl) ?_
    refine lv_iconst (v := 1) hx hb dX11_again_34 (by decide) ?_
    refine z_Vv (bc := [[zO10 xo t im mk rd po co tr wa wb_ fi cd], wwA, wwB, wff]) (br := [[zArq T 6 im 3 qi], [zAr T 2 mk 3 fmk], wt2_3, w2_6, w2_11, w2_16, w2_20, w2_24, w2_27, wta, z0_a, z1_a, wd0_a, wd1_a, wg0_a, wg1_a]) (As := [.int 1]) (rest := []) C G (c_forget1 l T xo t im mk rd po co tr wa wb_ fi cd laA mdA wyA pc_A f1A f2A f3A f4A f5A f6A n4A wwA laB mdB wyB pc_B f1B f2B f3B f4B f5B f6B n4B wwB e0f e1f e2f e3f e4f e5f r1f m1f r2f wff hwwA hwwB hwff) (kV_RX11_105 C.2.2.2.2 (Nat.le_of_ble_eq_true rfl) (Nat.le_of_ble_eq_true rfl)) [0, 3, 4, 5] [0, 2, 0, 0] rfl rfl (ci := 10) (qc := (RX11, TX11, 11)) rfl rfl (List.mem_flatten.mpr ⟨_, List.mem_of_getElem? (i := 0) rfl, List.mem_cons_self⟩) rfl rfl hl.1 dX11_again_35 (Nat.le_of_ble_eq_true rfl) (Nat.le_of_ble_eq_true rfl) (fun b1 H locs hw G => ?_)
    refine zEx3 hw ?_
    intro wwA_42 wwB_43 wff_44
    refine zCu4 ?_
    intro hbs9 h_45 h_46 h_47
    clear hw
    subst hbs9
    have G : zS T A s.heap s [[zArq T 6 im 3 qi], [zAr T 2 mk 3 fmk], wt2_3, w2_6, w2_11, w2_16, w2_20, w2_24, w2_27, wta, z0_a, z1_a, wd0_a, wd1_a, wg0_a, wg1_a, [zO10 xo t im mk rd po co tr wa wb_ fi cd], wwA_42, wwB_43, wff_44] _ _ := G
    refine lv_iconst (v := 1) hx hb dX11_again_38 (by decide) ?_
    have G := G.sub (bs' := [[zO10 xo t im mk rd po co tr wa wb_ fi cd], wt2_3, w2_6, w2_11, w2_16, w2_20, w2_24, w2_27, wta, z0_a, z1_a, wd0_a, wd1_a, wg0_a, wg1_a, [zArq T 6 im 3 qi], [zAr T 2 mk 3 fmk], wwA_42, wwB_43, wff_44]) [16, 2, 3, 4, 5, 6, 7, 8, 9, 10, 11, 12, 13, 14, 15, 0, 1, 17, 18, 19] rfl
    exact z_back hQz_ (z_zret C hr hlocks G (Nat.le_of_ble_eq_true rfl) (Nat.le_of_ble_eq_true rfl) dX11_again_39 rfl ⟨lna, fla, pla, g9_4, fk2_5, wt2_3, cr0_a, inn0_a, s0_7, s0_8, s0_9, s0_10, w2_6, cr1_a, inn1_a, s1_12, s1_13, s1_14, s1_15, w2_11, dd0_a, s2_17, s2_18, s2_19, w2_16, dd1_a, s3_21, s3_22, s3_23, w2_20, gg0_a, s4_25, s4_26, w2_24, gg1_a, s5_28, s5_29, w2_27, wwA_42, wwB_43, wff_44, 0, 0, 0, rfl, h_30, (by first | with_reducible assumption | omega | trivial | assumption), h_32, (by first | with_reducible assumption | omega | trivial | assumption), h_33, (by first | with_reducible assumption | omega | trivial | assumption), h_34, h_35, h_36, h_37, h_45, h_46, h_47, (by first | exact Or.inl ⟨rfl, rfl, rfl⟩ | exact Or.inr (Or.inl ⟨rfl, rfl, rfl⟩) | exact Or.inr (Or.inr ⟨rfl, rfl, rfl⟩)), (Or.inr ⟨by first | with_reducible assumption | assumption, rfl, h_40⟩), (Or.inr ⟨rfl, rfl, rfl⟩)⟩)
  · have c_2n : (fmk 0).toInt = (0 : Int) := (fa_eq _ _).mp c_2
    refine lv_iconst (v := 0) hx hb dX11_again_18 (by decide) ?_
    exact z_back hQz_ (z_zret C hr hlocks G (Nat.le_of_ble_eq_true rfl) (Nat.le_of_ble_eq_true rfl) dX11_again_19 rfl ⟨ln, fl, pl, ft, fk, wt, cr0_, inn0_, k10_, k20_, k30_, k40_, z0_, cr1_, inn1_, k11_, k21_, k31_, k41_, z1_, dd0_, p10_, p20_, p30_, wd0_, dd1_, p11_, p21_, p31_, wd1_, gg0_, q10_, q20_, wg0_, gg1_, q11_, q21_, wg1_, wwA, wwB, wff, mdA, mdB, e0f, rfl, ht, (by first | with_reducible assumption | omega | trivial | assumption), hz0_, (by first | with_reducible assumption | omega | trivial | assumption), hz1_, (by first | with_reducible assumption | omega | trivial | assumption), hd0_, hd1_, hg0_, hg1_, hwwA, hwwB, hwff, (by first | exact Or.inl ⟨rfl, rfl, rfl⟩ | exact Or.inr (Or.inl ⟨rfl, rfl, rfl⟩) | exact Or.inr (Or.inr ⟨rfl, rfl, rfl⟩)), (Or.inl ⟨by first | with_reducible assumption | assumption, rfl, hT⟩), (Or.inl (by first | with_reducible assumption | assumption))⟩)
set_option maxHeartbeats 4000000 in
set_option maxRecDepth 100000 in
/-- c_f_again1 -/
theorem c_f_again1 (l : Launch) (T : zTy) (xo : Nat) (t : Nat) (im : Nat) (mk : Nat) (rd : Nat) (po : Nat) (co : Nat) (tr : Nat) (wa : Nat) (wb_ : Nat) (fi : Nat) (cd : Nat) (l0 : Nat) (l1 : Nat) (d0 : Nat) (d1 : Nat) (g0 : Nat) (g1 : Nat) (ln : Int32) (fl : Int32) (pl : Int32) (ft : Nat → Int32) (fk : Nat → Int32) (wt : va_W) (cr0_ : Int32) (inn0_ : Int32) (k10_ : Nat → Int32) (k20_ : Nat → Int32) (k30_ : Nat → Int32) (k40_ : Nat → Int32) (z0_ : va_W) (cr1_ : Int32) (inn1_ : Int32) (k11_ : Nat → Int32) (k21_ : Nat → Int32) (k31_ : Nat → Int32) (k41_ : Nat → Int32) (z1_ : va_W) (dd0_ : Int32) (p10_ : Nat → Int32) (p20_ : Nat → Int32) (p30_ : Nat → Int32) (wd0_ : va_W) (dd1_ : Int32) (p11_ : Nat → Int32) (p21_ : Nat → Int32) (p31_ : Nat → Int32) (wd1_ : va_W) (gg0_ : Int32) (q10_ : Nat → Int32) (q20_ : Nat → Int32) (wg0_ : va_W) (gg1_ : Int32) (q11_ : Nat → Int32) (q21_ : Nat → Int32) (wg1_ : va_W) (m0 : Nat) (m1 : Nat) (l0b : Nat) (l1b : Nat) (d0b : Nat) (d1b : Nat) (g0b : Nat) (g1b : Nat) (lnb : Int32) (flb : Int32) (plb : Int32) (ftb : Nat → Int32) (fkb : Nat → Int32) (wtb : va_W) (cr0_b : Int32) (inn0_b : Int32) (k10_b : Nat → Int32) (k20_b : Nat → Int32) (k30_b : Nat → Int32) (k40_b : Nat → Int32) (z0_b : va_W) (cr1_b : Int32) (inn1_b : Int32) (k11_b : Nat → Int32) (k21_b : Nat → Int32) (k31_b : Nat → Int32) (k41_b : Nat → Int32) (z1_b : va_W) (dd0_b : Int32) (p10_b : Nat → Int32) (p20_b : Nat → Int32) (p30_b : Nat → Int32) (wd0_b : va_W) (dd1_b : Int32) (p11_b : Nat → Int32) (p21_b : Nat → Int32) (p31_b : Nat → Int32) (wd1_b : va_W) (gg0_b : Int32) (q10_b : Nat → Int32) (q20_b : Nat → Int32) (wg0_b : va_W) (gg1_b : Int32) (q11_b : Nat → Int32) (q21_b : Nat → Int32) (wg1_b : va_W) (m2 : Nat) (qi : Nat → Option Nat) (fmk : Nat → Int32) (laA : Nat) (mdA : Int32) (wyA : Int32) (pc_A : Int32) (f1A : Nat → Int32) (f2A : Nat → Int32) (f3A : Nat → Int32) (f4A : Nat → Int32) (f5A : Nat → Int32) (f6A : Nat → Int32) (n4A : Nat) (wwA : va_W) (laB : Nat) (mdB : Int32) (wyB : Int32) (pc_B : Int32) (f1B : Nat → Int32) (f2B : Nat → Int32) (f3B : Nat → Int32) (f4B : Nat → Int32) (f5B : Nat → Int32) (f6B : Nat → Int32) (n4B : Nat) (wwB : va_W) (e0f : Int32) (e1f : Int32) (e2f : Int32) (e3f : Int32) (e4f : Int32) (e5f : Int32) (r1f : Nat → Int32) (m1f : Nat) (r2f : Nat → Int32) (wff : va_W) (Gr : Nat → Int32) (Gw : Nat → Int32) (ht : bTold T t l0 l1 d0 d1 g0 g1 ln fl pl ft fk wt) (hK : zKT fk) (hz0_ : bLand T l0 cr0_ inn0_ k10_ k20_ k30_ k40_ z0_) (hI0_ : zLI cr0_ k10_ k30_) (hz1_ : bLand T l1 cr1_ inn1_ k11_ k21_ k31_ k41_ z1_) (hI1_ : zLI cr1_ k11_ k31_) (hd0_ : bDay T d0 dd0_ p10_ p20_ p30_ wd0_) (hd1_ : bDay T d1 dd1_ p11_ p21_ p31_ wd1_) (hg0_ : bLog T g0 gg0_ q10_ q20_ wg0_) (hg1_ : bLog T g1 gg1_ q11_ q21_ wg1_) (htb : bTold T m1 l0b l1b d0b d1b g0b g1b lnb flb plb ftb fkb wtb) (hKb : zKT fkb) (hz0_b : bLand T l0b cr0_b inn0_b k10_b k20_b k30_b k40_b z0_b) (hI0_b : zLI cr0_b k10_b k30_b) (hz1_b : bLand T l1b cr1_b inn1_b k11_b k21_b k31_b k41_b z1_b) (hI1_b : zLI cr1_b k11_b k31_b) (hd0_b : bDay T d0b dd0_b p10_b p20_b p30_b wd0_b) (hd1_b : bDay T d1b dd1_b p11_b p21_b p31_b wd1_b) (hg0_b : bLog T g0b gg0_b q10_b q20_b wg0_b) (hg1_b : bLog T g1b gg1_b q11_b q21_b wg1_b) (hm0 : qi 0 = some m0) (hm1 : qi 1 = some m1) (hm2 : qi 2 = some m2) (hwwA : bWays T wa laA mdA wyA pc_A f1A f2A f3A f4A f5A f6A n4A wwA) (hwwB : bWays T wb_ laB mdB wyB pc_B f1B f2B f3B f4B f5B f6B n4B wwB) (hwff : bFit T fi e0f e1f e2f e3f e4f e5f r1f m1f r2f wff) (hT : zTR ln fl pl ft fk cr0_ inn0_ k10_ k20_ k30_ k40_ cr1_ inn1_ k11_ k21_ k31_ k41_ dd0_ p10_ p20_ p30_ dd1_ p11_ p21_ p31_ gg0_ q10_ q20_ gg1_ q11_ q21_ Gr) (hTw : (¬ fmk 1 = 0 → zTR lnb flb plb ftb fkb cr0_b inn0_b k10_b k20_b k30_b k40_b cr1_b inn1_b k11_b k21_b k31_b k41_b dd0_b p10_b p20_b p30_b dd1_b p11_b p21_b p31_b gg0_b q10_b q20_b gg1_b q11_b q21_b Gw)) : zMi l T yX11_again cX11_again 2 (some .boolean) 3 0 0 [.ref xo, .int 1] [[zO10 xo t im mk rd po co tr wa wb_ fi cd], wt, z0_, z1_, wd0_, wd1_, wg0_, wg1_, wtb, z0_b, z1_b, wd0_b, wd1_b, wg0_b, wg1_b, [zArq T 6 im 3 qi], [zAr T 2 mk 3 fmk], wwA, wwB, wff] (fun (r : Int32) bs => ∃ (ln_2 : Int32) (fl_2 : Int32) (pl_2 : Int32) (ft_2 : Nat → Int32) (fk_2 : Nat → Int32) (wt_2 : va_W) (cr0__2 : Int32) (inn0__2 : Int32) (k10__2 : Nat → Int32) (k20__2 : Nat → Int32) (k30__2 : Nat → Int32) (k40__2 : Nat → Int32) (z0__2 : va_W) (cr1__2 : Int32) (inn1__2 : Int32) (k11__2 : Nat → Int32) (k21__2 : Nat → Int32) (k31__2 : Nat → Int32) (k41__2 : Nat → Int32) (z1__2 : va_W) (dd0__2 : Int32) (p10__2 : Nat → Int32) (p20__2 : Nat → Int32) (p30__2 : Nat → Int32) (wd0__2 : va_W) (dd1__2 : Int32) (p11__2 : Nat → Int32) (p21__2 : Nat → Int32) (p31__2 : Nat → Int32) (wd1__2 : va_W) (gg0__2 : Int32) (q10__2 : Nat → Int32) (q20__2 : Nat → Int32) (wg0__2 : va_W) (gg1__2 : Int32) (q11__2 : Nat → Int32) (q21__2 : Nat → Int32) (wg1__2 : va_W) (wwA_2 : va_W) (wwB_2 : va_W) (wff_2 : va_W) (mdA_2 : Int32) (mdB_2 : Int32) (e0f_2 : Int32), bs = [[zO10 xo t im mk rd po co tr wa wb_ fi cd], wt_2, z0__2, z1__2, wd0__2, wd1__2, wg0__2, wg1__2, wtb, z0_b, z1_b, wd0_b, wd1_b, wg0_b, wg1_b, [zArq T 6 im 3 qi], [zAr T 2 mk 3 fmk], wwA_2, wwB_2, wff_2] ∧ bTold T t l0 l1 d0 d1 g0 g1 ln_2 fl_2 pl_2 ft_2 fk_2 wt_2 ∧ zKT fk_2 ∧ bLand T l0 cr0__2 inn0__2 k10__2 k20__2 k30__2 k40__2 z0__2 ∧ zLI cr0__2 k10__2 k30__2 ∧ bLand T l1 cr1__2 inn1__2 k11__2 k21__2 k31__2 k41__2 z1__2 ∧ zLI cr1__2 k11__2 k31__2 ∧ bDay T d0 dd0__2 p10__2 p20__2 p30__2 wd0__2 ∧ bDay T d1 dd1__2 p11__2 p21__2 p31__2 wd1__2 ∧ bLog T g0 gg0__2 q10__2 q20__2 wg0__2 ∧ bLog T g1 gg1__2 q11__2 q21__2 wg1__2 ∧ bWays T wa laA mdA_2 wyA pc_A f1A f2A f3A f4A f5A f6A n4A wwA_2 ∧ bWays T wb_ laB mdB_2 wyB pc_B f1B f2B f3B f4B f5B f6B n4B wwB_2 ∧ bFit T fi e0f_2 e1f e2f e3f e4f e5f r1f m1f r2f wff_2 ∧ (mdA_2 = 0 ∧ mdB_2 = 0 ∧ e0f_2 = 0 ∨ mdA_2 = mdA ∧ mdB_2 = mdB ∧ e0f_2 = 0 ∨ mdA_2 = mdA ∧ mdB_2 = mdB ∧ e0f_2 = e0f) ∧ (fmk 1 = 0 ∧ r = 0 ∧ zTR ln_2 fl_2 pl_2 ft_2 fk_2 cr0__2 inn0__2 k10__2 k20__2 k30__2 k40__2 cr1__2 inn1__2 k11__2 k21__2 k31__2 k41__2 dd0__2 p10__2 p20__2 p30__2 dd1__2 p11__2 p21__2 p31__2 gg0__2 q10__2 q20__2 gg1__2 q11__2 q21__2 Gr ∨ ¬ fmk 1 = 0 ∧ r = 1 ∧ zTR ln_2 fl_2 pl_2 ft_2 fk_2 cr0__2 inn0__2 k10__2 k20__2 k30__2 k40__2 cr1__2 inn1__2 k11__2 k21__2 k31__2 k41__2 dd0__2 p10__2 p20__2 p30__2 dd1__2 p11__2 p21__2 p31__2 gg0__2 q10__2 q20__2 gg1__2 q11__2 q21__2 Gw) ∧ (fmk 1 = 0 ∨ mdA_2 = 0 ∧ mdB_2 = 0 ∧ e0f_2 = 0)) := by
  refine zMi_of (own := RX11) (by decide) rfl (Nat.le_of_ble_eq_true rfl) ?_
  intro p e s m args below meth c A ls C hr hlocks hnm hAe G hl
  refine zHide (fun Qz_ hQz_ => ?_)
  have hx := C.1
  have hb := C.2.1
  replace hTw : zHd ((¬ fmk 1 = 0 → zTR lnb flb plb ftb fkb cr0_b inn0_b k10_b k20_b k30_b k40_b cr1_b inn1_b k11_b k21_b k31_b k41_b dd0_b p10_b p20_b p30_b dd1_b p11_b p21_b p31_b gg0_b q10_b q20_b gg1_b q11_b q21_b Gw)) := hTw
  have hl : lv_has ls 2 [(0, .ref xo), (1, .int 1)] := hl
  refine lv_iload_n hx hb dX11_again_0 rfl (lv_at hl 1 rfl) ?_
  refine lv_if_lt (tgt := 18) hx hb dX11_again_1 (by decide) (fun q => absurd q (by decide)) (fun _ => ?_)
  refine lv_iload_n hx hb dX11_again_4 rfl (lv_at hl 1 rfl) ?_
  refine lv_iconst (v := 3) hx hb dX11_again_5 (by decide) ?_
  refine lv_icmp_ge (tgt := 18) hx hb dX11_again_6 (by decide) (fun q => absurd q (by decide)) (fun _ => ?_)
  refine lv_aload_n hx hb dX11_again_9 rfl (lv_at hl 0 rfl) ?_
  refine z_get C G clX11 0 rfl 2 (by decide) m_fl_RX11_20 rfl dX11_again_10 ?_
  refine lv_iload_n hx hb dX11_again_13 rfl (lv_at hl 1 rfl) ?_
  refine z_zld C G 16 rfl (vp_in_nI (n := 1) (by decide) (by decide)) dX11_again_14 ?_
  refine lv_topi (fun v_1 ev_1 => ?_)
  rw [show ((1 : Int32).toNatClampNeg) = 1 from rfl] at ev_1
  subst ev_1
  refine lv_if_ne (tgt := 20) hx hb dX11_again_15 (by decide) (fun c_2 => ?_) (fun c_2 => ?_)
  · have c_2n : ¬ (fmk 1).toInt = (0 : Int) := fun q => c_2 ((fa_eq _ _).mpr q)
    refine lv_aload_n hx hb dX11_again_20 rfl (lv_at hl 0 rfl) ?_
    refine z_get C G clX11 0 rfl 0 (by decide) m_fl_RX11_10 rfl dX11_again_21 ?_
    refine lv_aload_n hx hb dX11_again_24 rfl (lv_at hl 0 rfl) ?_
    refine z_get C G clX11 0 rfl 1 (by decide) m_fl_RX11_16 rfl dX11_again_25 ?_
    refine lv_iload_n hx hb dX11_again_28 rfl (lv_at hl 1 rfl) ?_
    refine z_ald C G 15 6 rfl rfl (vp_in_nI (n := 1) (by decide) (by decide)) dX11_again_29 ?_
    rw [show qi ((1 : Int32).toNatClampNeg) = some m1 from hm1]
    refine z_Vv (bc := [wt, z0_, z1_, wd0_, wd1_, wg0_, wg1_, wtb, z0_b, z1_b, wd0_b, wd1_b, wg0_b, wg1_b]) (br := [[zO10 xo t im mk rd po co tr wa wb_ fi cd], [zArq T 6 im 3 qi], [zAr T 2 mk 3 fmk], wwA, wwB, wff]) (As := [.ref m1]) (rest := []) C G (c_f_Told_takeAll l T t l0 l1 d0 d1 g0 g1 ln fl pl ft fk wt cr0_ inn0_ k10_ k20_ k30_ k40_ z0_ cr1_ inn1_ k11_ k21_ k31_ k41_ z1_ dd0_ p10_ p20_ p30_ wd0_ dd1_ p11_ p21_ p31_ wd1_ gg0_ q10_ q20_ wg0_ gg1_ q11_ q21_ wg1_ m1 l0b l1b d0b d1b g0b g1b lnb flb plb ftb fkb wtb cr0_b inn0_b k10_b k20_b k30_b k40_b z0_b cr1_b inn1_b k11_b k21_b k31_b k41_b z1_b dd0_b p10_b p20_b p30_b wd0_b dd1_b p11_b p21_b p31_b wd1_b gg0_b q10_b q20_b wg0_b gg1_b q11_b q21_b wg1_b Gw ht (by first | with_reducible assumption | with_reducible rfl | omega | assumption | rfl) hz0_ (by first | with_reducible assumption | with_reducible rfl | omega | assumption | rfl) hz1_ (by first | with_reducible assumption | with_reducible rfl | omega | assumption | rfl) hd0_ hd1_ hg0_ hg1_ htb (by first | with_reducible assumption | with_reducible rfl | omega | assumption | rfl) hz0_b (by first | with_reducible assumption | with_reducible rfl | omega | assumption | rfl) hz1_b (by first | with_reducible assumption | with_reducible rfl | omega | assumption | rfl) hd0_b hd1_b hg0_b hg1_b (hTw (by first | with_reducible assumption | assumption))) (kV_RX11_117 C.2.2.2.2 (Nat.le_of_ble_eq_true rfl) (Nat.le_of_ble_eq_true rfl)) [1, 2, 3, 4, 5, 6, 7, 8, 9, 10, 11, 12, 13, 14] [1, 0, 0, 0, 0, 0, 0, 0, 0, 0, 0, 0, 0, 0] rfl rfl (ci := 8) (qc := (RX9, TX9, 8)) rfl rfl (List.mem_flatten.mpr ⟨_, List.mem_of_getElem? (i := 0) rfl, (bTold_mem ht).choose_spec⟩) rfl rfl hl.1 dX11_again_30 (Nat.le_of_ble_eq_true rfl) (Nat.le_of_ble_eq_true rfl) (fun b1 H locs hw G => ?_)
    refine zEx27 hw ?_
    intro wt2_3 g9_4 fk2_5 w2_6 s0_7 s0_8 s0_9 s0_10 w2_11 s1_12 s1_13 s1_14 s1_15 w2_16 s2_17 s2_18 s2_19 w2_20 s3_21 s3_22 s3_23 w2_24 s4_25 s4_26 w2_27 s5_28 s5_29
    refine zCu12 ?_
    intro hbs9 h_30 h_31 h_32 h_33 h_34 h_35 h_36 h_37 h_38 h_39 h_40
    clear hw
    subst hbs9
    have G : zS T A s.heap s [[zO10 xo t im mk rd po co tr wa wb_ fi cd], [zArq T 6 im 3 qi], [zAr T 2 mk 3 fmk], wwA, wwB, wff, wt2_3, w2_6, w2_11, w2_16, w2_20, w2_24, w2_27, wtb, z0_b, z1_b, wd0_b, wd1_b, wg0_b, wg1_b] _ _ := G
    refine lv_aload_n hx hb dX11_again_33 rfl (lv_at hl 0 rfl) ?_
    refine lv_iconst (v := 1) hx hb dX11_again_34 (by decide) ?_
    refine z_Vv (bc := [[zO10 xo t im mk rd po co tr wa wb_ fi cd], wwA, wwB, wff]) (br := [[zArq T 6 im 3 qi], [zAr T 2 mk 3 fmk], wt2_3, w2_6, w2_11, w2_16, w2_20, w2_24, w2_27, wtb, z0_b, z1_b, wd0_b, wd1_b, wg0_b, wg1_b]) (As := [.int 1]) (rest := []) C G (c_forget1 l T xo t im mk rd po co tr wa wb_ fi cd laA mdA wyA pc_A f1A f2A f3A f4A f5A f6A n4A wwA laB mdB wyB pc_B f1B f2B f3B f4B f5B f6B n4B wwB e0f e1f e2f e3f e4f e5f r1f m1f r2f wff hwwA hwwB hwff) (kV_RX11_105 C.2.2.2.2 (Nat.le_of_ble_eq_true rfl) (Nat.le_of_ble_eq_true rfl)) [0, 3, 4, 5] [0, 2, 0, 0] rfl rfl (ci := 10) (qc := (RX11, TX11, 11)) rfl rfl (List.mem_flatten.mpr ⟨_, List.mem_of_getElem? (i := 0) rfl, List.mem_cons_self⟩) rfl rfl hl.1 dX11_again_35 (Nat.le_of_ble_eq_true rfl) (Nat.le_of_ble_eq_true rfl) (fun b1 H locs hw G => ?_)
    refine zEx3 hw ?_
    intro wwA_42 wwB_43 wff_44
    refine zCu4 ?_
    intro hbs9 h_45 h_46 h_47
    clear hw
    subst hbs9
    have G : zS T A s.heap s [[zArq T 6 im 3 qi], [zAr T 2 mk 3 fmk], wt2_3, w2_6, w2_11, w2_16, w2_20, w2_24, w2_27, wtb, z0_b, z1_b, wd0_b, wd1_b, wg0_b, wg1_b, [zO10 xo t im mk rd po co tr wa wb_ fi cd], wwA_42, wwB_43, wff_44] _ _ := G
    refine lv_iconst (v := 1) hx hb dX11_again_38 (by decide) ?_
    have G := G.sub (bs' := [[zO10 xo t im mk rd po co tr wa wb_ fi cd], wt2_3, w2_6, w2_11, w2_16, w2_20, w2_24, w2_27, wtb, z0_b, z1_b, wd0_b, wd1_b, wg0_b, wg1_b, [zArq T 6 im 3 qi], [zAr T 2 mk 3 fmk], wwA_42, wwB_43, wff_44]) [16, 2, 3, 4, 5, 6, 7, 8, 9, 10, 11, 12, 13, 14, 15, 0, 1, 17, 18, 19] rfl
    exact z_back hQz_ (z_zret C hr hlocks G (Nat.le_of_ble_eq_true rfl) (Nat.le_of_ble_eq_true rfl) dX11_again_39 rfl ⟨lnb, flb, plb, g9_4, fk2_5, wt2_3, cr0_b, inn0_b, s0_7, s0_8, s0_9, s0_10, w2_6, cr1_b, inn1_b, s1_12, s1_13, s1_14, s1_15, w2_11, dd0_b, s2_17, s2_18, s2_19, w2_16, dd1_b, s3_21, s3_22, s3_23, w2_20, gg0_b, s4_25, s4_26, w2_24, gg1_b, s5_28, s5_29, w2_27, wwA_42, wwB_43, wff_44, 0, 0, 0, rfl, h_30, (by first | with_reducible assumption | omega | trivial | assumption), h_32, (by first | with_reducible assumption | omega | trivial | assumption), h_33, (by first | with_reducible assumption | omega | trivial | assumption), h_34, h_35, h_36, h_37, h_45, h_46, h_47, (by first | exact Or.inl ⟨rfl, rfl, rfl⟩ | exact Or.inr (Or.inl ⟨rfl, rfl, rfl⟩) | exact Or.inr (Or.inr ⟨rfl, rfl, rfl⟩)), (Or.inr ⟨by first | with_reducible assumption | assumption, rfl, h_40⟩), (Or.inr ⟨rfl, rfl, rfl⟩)⟩)
  · have c_2n : (fmk 1).toInt = (0 : Int) := (fa_eq _ _).mp c_2
    refine lv_iconst (v := 0) hx hb dX11_again_18 (by decide) ?_
    exact z_back hQz_ (z_zret C hr hlocks G (Nat.le_of_ble_eq_true rfl) (Nat.le_of_ble_eq_true rfl) dX11_again_19 rfl ⟨ln, fl, pl, ft, fk, wt, cr0_, inn0_, k10_, k20_, k30_, k40_, z0_, cr1_, inn1_, k11_, k21_, k31_, k41_, z1_, dd0_, p10_, p20_, p30_, wd0_, dd1_, p11_, p21_, p31_, wd1_, gg0_, q10_, q20_, wg0_, gg1_, q11_, q21_, wg1_, wwA, wwB, wff, mdA, mdB, e0f, rfl, ht, (by first | with_reducible assumption | omega | trivial | assumption), hz0_, (by first | with_reducible assumption | omega | trivial | assumption), hz1_, (by first | with_reducible assumption | omega | trivial | assumption), hd0_, hd1_, hg0_, hg1_, hwwA, hwwB, hwff, (by first | exact Or.inl ⟨rfl, rfl, rfl⟩ | exact Or.inr (Or.inl ⟨rfl, rfl, rfl⟩) | exact Or.inr (Or.inr ⟨rfl, rfl, rfl⟩)), (Or.inl ⟨by first | with_reducible assumption | assumption, rfl, hT⟩), (Or.inl (by first | with_reducible assumption | assumption))⟩)
set_option maxHeartbeats 4000000 in
set_option maxRecDepth 100000 in
/-- c_f_again2 -/
theorem c_f_again2 (l : Launch) (T : zTy) (xo : Nat) (t : Nat) (im : Nat) (mk : Nat) (rd : Nat) (po : Nat) (co : Nat) (tr : Nat) (wa : Nat) (wb_ : Nat) (fi : Nat) (cd : Nat) (l0 : Nat) (l1 : Nat) (d0 : Nat) (d1 : Nat) (g0 : Nat) (g1 : Nat) (ln : Int32) (fl : Int32) (pl : Int32) (ft : Nat → Int32) (fk : Nat → Int32) (wt : va_W) (cr0_ : Int32) (inn0_ : Int32) (k10_ : Nat → Int32) (k20_ : Nat → Int32) (k30_ : Nat → Int32) (k40_ : Nat → Int32) (z0_ : va_W) (cr1_ : Int32) (inn1_ : Int32) (k11_ : Nat → Int32) (k21_ : Nat → Int32) (k31_ : Nat → Int32) (k41_ : Nat → Int32) (z1_ : va_W) (dd0_ : Int32) (p10_ : Nat → Int32) (p20_ : Nat → Int32) (p30_ : Nat → Int32) (wd0_ : va_W) (dd1_ : Int32) (p11_ : Nat → Int32) (p21_ : Nat → Int32) (p31_ : Nat → Int32) (wd1_ : va_W) (gg0_ : Int32) (q10_ : Nat → Int32) (q20_ : Nat → Int32) (wg0_ : va_W) (gg1_ : Int32) (q11_ : Nat → Int32) (q21_ : Nat → Int32) (wg1_ : va_W) (m0 : Nat) (m1 : Nat) (m2 : Nat) (l0c : Nat) (l1c : Nat) (d0c : Nat) (d1c : Nat) (g0c : Nat) (g1c : Nat) (lnc : Int32) (flc : Int32) (plc : Int32) (ftc : Nat → Int32) (fkc : Nat → Int32) (wtc : va_W) (cr0_c : Int32) (inn0_c : Int32) (k10_c : Nat → Int32) (k20_c : Nat → Int32) (k30_c : Nat → Int32) (k40_c : Nat → Int32) (z0_c : va_W) (cr1_c : Int32) (inn1_c : Int32) (k11_c : Nat → Int32) (k21_c : Nat → Int32) (k31_c : Nat → Int32) (k41_c : Nat → Int32) (z1_c : va_W) (dd0_c : Int32) (p10_c : Nat → Int32) (p20_c : Nat → Int32) (p30_c : Nat → Int32) (wd0_c : va_W) (dd1_c : Int32) (p11_c : Nat → Int32) (p21_c : Nat → Int32) (p31_c : Nat → Int32) (wd1_c : va_W) (gg0_c : Int32) (q10_c : Nat → Int32) (q20_c : Nat → Int32) (wg0_c : va_W) (gg1_c : Int32) (q11_c : Nat → Int32) (q21_c : Nat → Int32) (wg1_c : va_W) (qi : Nat → Option Nat) (fmk : Nat → Int32) (laA : Nat) (mdA : Int32) (wyA : Int32) (pc_A : Int32) (f1A : Nat → Int32) (f2A : Nat → Int32) (f3A : Nat → Int32) (f4A : Nat → Int32) (f5A : Nat → Int32) (f6A : Nat → Int32) (n4A : Nat) (wwA : va_W) (laB : Nat) (mdB : Int32) (wyB : Int32) (pc_B : Int32) (f1B : Nat → Int32) (f2B : Nat → Int32) (f3B : Nat → Int32) (f4B : Nat → Int32) (f5B : Nat → Int32) (f6B : Nat → Int32) (n4B : Nat) (wwB : va_W) (e0f : Int32) (e1f : Int32) (e2f : Int32) (e3f : Int32) (e4f : Int32) (e5f : Int32) (r1f : Nat → Int32) (m1f : Nat) (r2f : Nat → Int32) (wff : va_W) (Gr : Nat → Int32) (Gw : Nat → Int32) (ht : bTold T t l0 l1 d0 d1 g0 g1 ln fl pl ft fk wt) (hK : zKT fk) (hz0_ : bLand T l0 cr0_ inn0_ k10_ k20_ k30_ k40_ z0_) (hI0_ : zLI cr0_ k10_ k30_) (hz1_ : bLand T l1 cr1_ inn1_ k11_ k21_ k31_ k41_ z1_) (hI1_ : zLI cr1_ k11_ k31_) (hd0_ : bDay T d0 dd0_ p10_ p20_ p30_ wd0_) (hd1_ : bDay T d1 dd1_ p11_ p21_ p31_ wd1_) (hg0_ : bLog T g0 gg0_ q10_ q20_ wg0_) (hg1_ : bLog T g1 gg1_ q11_ q21_ wg1_) (htc : bTold T m2 l0c l1c d0c d1c g0c g1c lnc flc plc ftc fkc wtc) (hKc : zKT fkc) (hz0_c : bLand T l0c cr0_c inn0_c k10_c k20_c k30_c k40_c z0_c) (hI0_c : zLI cr0_c k10_c k30_c) (hz1_c : bLand T l1c cr1_c inn1_c k11_c k21_c k31_c k41_c z1_c) (hI1_c : zLI cr1_c k11_c k31_c) (hd0_c : bDay T d0c dd0_c p10_c p20_c p30_c wd0_c) (hd1_c : bDay T d1c dd1_c p11_c p21_c p31_c wd1_c) (hg0_c : bLog T g0c gg0_c q10_c q20_c wg0_c) (hg1_c : bLog T g1c gg1_c q11_c q21_c wg1_c) (hm0 : qi 0 = some m0) (hm1 : qi 1 = some m1) (hm2 : qi 2 = some m2) (hwwA : bWays T wa laA mdA wyA pc_A f1A f2A f3A f4A f5A f6A n4A wwA) (hwwB : bWays T wb_ laB mdB wyB pc_B f1B f2B f3B f4B f5B f6B n4B wwB) (hwff : bFit T fi e0f e1f e2f e3f e4f e5f r1f m1f r2f wff) (hT : zTR ln fl pl ft fk cr0_ inn0_ k10_ k20_ k30_ k40_ cr1_ inn1_ k11_ k21_ k31_ k41_ dd0_ p10_ p20_ p30_ dd1_ p11_ p21_ p31_ gg0_ q10_ q20_ gg1_ q11_ q21_ Gr) (hTw : (¬ fmk 2 = 0 → zTR lnc flc plc ftc fkc cr0_c inn0_c k10_c k20_c k30_c k40_c cr1_c inn1_c k11_c k21_c k31_c k41_c dd0_c p10_c p20_c p30_c dd1_c p11_c p21_c p31_c gg0_c q10_c q20_c gg1_c q11_c q21_c Gw)) : zMi l T yX11_again cX11_again 2 (some .boolean) 3 0 0 [.ref xo, .int 2] [[zO10 xo t im mk rd po co tr wa wb_ fi cd], wt, z0_, z1_, wd0_, wd1_, wg0_, wg1_, wtc, z0_c, z1_c, wd0_c, wd1_c, wg0_c, wg1_c, [zArq T 6 im 3 qi], [zAr T 2 mk 3 fmk], wwA, wwB, wff] (fun (r : Int32) bs => ∃ (ln_2 : Int32) (fl_2 : Int32) (pl_2 : Int32) (ft_2 : Nat → Int32) (fk_2 : Nat → Int32) (wt_2 : va_W) (cr0__2 : Int32) (inn0__2 : Int32) (k10__2 : Nat → Int32) (k20__2 : Nat → Int32) (k30__2 : Nat → Int32) (k40__2 : Nat → Int32) (z0__2 : va_W) (cr1__2 : Int32) (inn1__2 : Int32) (k11__2 : Nat → Int32) (k21__2 : Nat → Int32) (k31__2 : Nat → Int32) (k41__2 : Nat → Int32) (z1__2 : va_W) (dd0__2 : Int32) (p10__2 : Nat → Int32) (p20__2 : Nat → Int32) (p30__2 : Nat → Int32) (wd0__2 : va_W) (dd1__2 : Int32) (p11__2 : Nat → Int32) (p21__2 : Nat → Int32) (p31__2 : Nat → Int32) (wd1__2 : va_W) (gg0__2 : Int32) (q10__2 : Nat → Int32) (q20__2 : Nat → Int32) (wg0__2 : va_W) (gg1__2 : Int32) (q11__2 : Nat → Int32) (q21__2 : Nat → Int32) (wg1__2 : va_W) (wwA_2 : va_W) (wwB_2 : va_W) (wff_2 : va_W) (mdA_2 : Int32) (mdB_2 : Int32) (e0f_2 : Int32), bs = [[zO10 xo t im mk rd po co tr wa wb_ fi cd], wt_2, z0__2, z1__2, wd0__2, wd1__2, wg0__2, wg1__2, wtc, z0_c, z1_c, wd0_c, wd1_c, wg0_c, wg1_c, [zArq T 6 im 3 qi], [zAr T 2 mk 3 fmk], wwA_2, wwB_2, wff_2] ∧ bTold T t l0 l1 d0 d1 g0 g1 ln_2 fl_2 pl_2 ft_2 fk_2 wt_2 ∧ zKT fk_2 ∧ bLand T l0 cr0__2 inn0__2 k10__2 k20__2 k30__2 k40__2 z0__2 ∧ zLI cr0__2 k10__2 k30__2 ∧ bLand T l1 cr1__2 inn1__2 k11__2 k21__2 k31__2 k41__2 z1__2 ∧ zLI cr1__2 k11__2 k31__2 ∧ bDay T d0 dd0__2 p10__2 p20__2 p30__2 wd0__2 ∧ bDay T d1 dd1__2 p11__2 p21__2 p31__2 wd1__2 ∧ bLog T g0 gg0__2 q10__2 q20__2 wg0__2 ∧ bLog T g1 gg1__2 q11__2 q21__2 wg1__2 ∧ bWays T wa laA mdA_2 wyA pc_A f1A f2A f3A f4A f5A f6A n4A wwA_2 ∧ bWays T wb_ laB mdB_2 wyB pc_B f1B f2B f3B f4B f5B f6B n4B wwB_2 ∧ bFit T fi e0f_2 e1f e2f e3f e4f e5f r1f m1f r2f wff_2 ∧ (mdA_2 = 0 ∧ mdB_2 = 0 ∧ e0f_2 = 0 ∨ mdA_2 = mdA ∧ mdB_2 = mdB ∧ e0f_2 = 0 ∨ mdA_2 = mdA ∧ mdB_2 = mdB ∧ e0f_2 = e0f) ∧ (fmk 2 = 0 ∧ r = 0 ∧ zTR ln_2 fl_2 pl_2 ft_2 fk_2 cr0__2 inn0__2 k10__2 k20__2 k30__2 k40__2 cr1__2 inn1__2 k11__2 k21__2 k31__2 k41__2 dd0__2 p10__2 p20__2 p30__2 dd1__2 p11__2 p21__2 p31__2 gg0__2 q10__2 q20__2 gg1__2 q11__2 q21__2 Gr ∨ ¬ fmk 2 = 0 ∧ r = 1 ∧ zTR ln_2 fl_2 pl_2 ft_2 fk_2 cr0__2 inn0__2 k10__2 k20__2 k30__2 k40__2 cr1__2 inn1__2 k11__2 k21__2 k31__2 k41__2 dd0__2 p10__2 p20__2 p30__2 dd1__2 p11__2 p21__2 p31__2 gg0__2 q10__2 q20__2 gg1__2 q11__2 q21__2 Gw) ∧ (fmk 2 = 0 ∨ mdA_2 = 0 ∧ mdB_2 = 0 ∧ e0f_2 = 0)) := by
  refine zMi_of (own := RX11) (by decide) rfl (Nat.le_of_ble_eq_true rfl) ?_
  intro p e s m args below meth c A ls C hr hlocks hnm hAe G hl
  refine zHide (fun Qz_ hQz_ => ?_)
  have hx := C.1
  have hb := C.2.1
  replace hTw : zHd ((¬ fmk 2 = 0 → zTR lnc flc plc ftc fkc cr0_c inn0_c k10_c k20_c k30_c k40_c cr1_c inn1_c k11_c k21_c k31_c k41_c dd0_c p10_c p20_c p30_c dd1_c p11_c p21_c p31_c gg0_c q10_c q20_c gg1_c q11_c q21_c Gw)) := hTw
  have hl : lv_has ls 2 [(0, .ref xo), (1, .int 2)] := hl
  refine lv_iload_n hx hb dX11_again_0 rfl (lv_at hl 1 rfl) ?_
  refine lv_if_lt (tgt := 18) hx hb dX11_again_1 (by decide) (fun q => absurd q (by decide)) (fun _ => ?_)
  refine lv_iload_n hx hb dX11_again_4 rfl (lv_at hl 1 rfl) ?_
  refine lv_iconst (v := 3) hx hb dX11_again_5 (by decide) ?_
  refine lv_icmp_ge (tgt := 18) hx hb dX11_again_6 (by decide) (fun q => absurd q (by decide)) (fun _ => ?_)
  refine lv_aload_n hx hb dX11_again_9 rfl (lv_at hl 0 rfl) ?_
  refine z_get C G clX11 0 rfl 2 (by decide) m_fl_RX11_20 rfl dX11_again_10 ?_
  refine lv_iload_n hx hb dX11_again_13 rfl (lv_at hl 1 rfl) ?_
  refine z_zld C G 16 rfl (vp_in_nI (n := 2) (by decide) (by decide)) dX11_again_14 ?_
  refine lv_topi (fun v_1 ev_1 => ?_)
  rw [show ((2 : Int32).toNatClampNeg) = 2 from rfl] at ev_1
  subst ev_1
  refine lv_if_ne (tgt := 20) hx hb dX11_again_15 (by decide) (fun c_2 => ?_) (fun c_2 => ?_)
  · have c_2n : ¬ (fmk 2).toInt = (0 : Int) := fun q => c_2 ((fa_eq _ _).mpr q)
    refine lv_aload_n hx hb dX11_again_20 rfl (lv_at hl 0 rfl) ?_
    refine z_get C G clX11 0 rfl 0 (by decide) m_fl_RX11_10 rfl dX11_again_21 ?_
    refine lv_aload_n hx hb dX11_again_24 rfl (lv_at hl 0 rfl) ?_
    refine z_get C G clX11 0 rfl 1 (by decide) m_fl_RX11_16 rfl dX11_again_25 ?_
    refine lv_iload_n hx hb dX11_again_28 rfl (lv_at hl 1 rfl) ?_
    refine z_ald C G 15 6 rfl rfl (vp_in_nI (n := 2) (by decide) (by decide)) dX11_again_29 ?_
    rw [show qi ((2 : Int32).toNatClampNeg) = some m2 from hm2]
    refine z_Vv (bc := [wt, z0_, z1_, wd0_, wd1_, wg0_, wg1_, wtc, z0_c, z1_c, wd0_c, wd1_c, wg0_c, wg1_c]) (br := [[zO10 xo t im mk rd po co tr wa wb_ fi cd], [zArq T 6 im 3 qi], [zAr T 2 mk 3 fmk], wwA, wwB, wff]) (As := [.ref m2]) (rest := []) C G (c_f_Told_takeAll l T t l0 l1 d0 d1 g0 g1 ln fl pl ft fk wt cr0_ inn0_ k10_ k20_ k30_ k40_ z0_ cr1_ inn1_ k11_ k21_ k31_ k41_ z1_ dd0_ p10_ p20_ p30_ wd0_ dd1_ p11_ p21_ p31_ wd1_ gg0_ q10_ q20_ wg0_ gg1_ q11_ q21_ wg1_ m2 l0c l1c d0c d1c g0c g1c lnc flc plc ftc fkc wtc cr0_c inn0_c k10_c k20_c k30_c k40_c z0_c cr1_c inn1_c k11_c k21_c k31_c k41_c z1_c dd0_c p10_c p20_c p30_c wd0_c dd1_c p11_c p21_c p31_c wd1_c gg0_c q10_c q20_c wg0_c gg1_c q11_c q21_c wg1_c Gw ht (by first | with_reducible assumption | with_reducible rfl | omega | assumption | rfl) hz0_ (by first | with_reducible assumption | with_reducible rfl | omega | assumption | rfl) hz1_ (by first | with_reducible assumption | with_reducible rfl | omega | assumption | rfl) hd0_ hd1_ hg0_ hg1_ htc (by first | with_reducible assumption | with_reducible rfl | omega | assumption | rfl) hz0_c (by first | with_reducible assumption | with_reducible rfl | omega | assumption | rfl) hz1_c (by first | with_reducible assumption | with_reducible rfl | omega | assumption | rfl) hd0_c hd1_c hg0_c hg1_c (hTw (by first | with_reducible assumption | assumption))) (kV_RX11_117 C.2.2.2.2 (Nat.le_of_ble_eq_true rfl) (Nat.le_of_ble_eq_true rfl)) [1, 2, 3, 4, 5, 6, 7, 8, 9, 10, 11, 12, 13, 14] [1, 0, 0, 0, 0, 0, 0, 0, 0, 0, 0, 0, 0, 0] rfl rfl (ci := 8) (qc := (RX9, TX9, 8)) rfl rfl (List.mem_flatten.mpr ⟨_, List.mem_of_getElem? (i := 0) rfl, (bTold_mem ht).choose_spec⟩) rfl rfl hl.1 dX11_again_30 (Nat.le_of_ble_eq_true rfl) (Nat.le_of_ble_eq_true rfl) (fun b1 H locs hw G => ?_)
    refine zEx27 hw ?_
    intro wt2_3 g9_4 fk2_5 w2_6 s0_7 s0_8 s0_9 s0_10 w2_11 s1_12 s1_13 s1_14 s1_15 w2_16 s2_17 s2_18 s2_19 w2_20 s3_21 s3_22 s3_23 w2_24 s4_25 s4_26 w2_27 s5_28 s5_29
    refine zCu12 ?_
    intro hbs9 h_30 h_31 h_32 h_33 h_34 h_35 h_36 h_37 h_38 h_39 h_40
    clear hw
    subst hbs9
    have G : zS T A s.heap s [[zO10 xo t im mk rd po co tr wa wb_ fi cd], [zArq T 6 im 3 qi], [zAr T 2 mk 3 fmk], wwA, wwB, wff, wt2_3, w2_6, w2_11, w2_16, w2_20, w2_24, w2_27, wtc, z0_c, z1_c, wd0_c, wd1_c, wg0_c, wg1_c] _ _ := G
    refine lv_aload_n hx hb dX11_again_33 rfl (lv_at hl 0 rfl) ?_
    refine lv_iconst (v := 1) hx hb dX11_again_34 (by decide) ?_
    refine z_Vv (bc := [[zO10 xo t im mk rd po co tr wa wb_ fi cd], wwA, wwB, wff]) (br := [[zArq T 6 im 3 qi], [zAr T 2 mk 3 fmk], wt2_3, w2_6, w2_11, w2_16, w2_20, w2_24, w2_27, wtc, z0_c, z1_c, wd0_c, wd1_c, wg0_c, wg1_c]) (As := [.int 1]) (rest := []) C G (c_forget1 l T xo t im mk rd po co tr wa wb_ fi cd laA mdA wyA pc_A f1A f2A f3A f4A f5A f6A n4A wwA laB mdB wyB pc_B f1B f2B f3B f4B f5B f6B n4B wwB e0f e1f e2f e3f e4f e5f r1f m1f r2f wff hwwA hwwB hwff) (kV_RX11_105 C.2.2.2.2 (Nat.le_of_ble_eq_true rfl) (Nat.le_of_ble_eq_true rfl)) [0, 3, 4, 5] [0, 2, 0, 0] rfl rfl (ci := 10) (qc := (RX11, TX11, 11)) rfl rfl (List.mem_flatten.mpr ⟨_, List.mem_of_getElem? (i := 0) rfl, List.mem_cons_self⟩) rfl rfl hl.1 dX11_again_35 (Nat.le_of_ble_eq_true rfl) (Nat.le_of_ble_eq_true rfl) (fun b1 H locs hw G => ?_)
    refine zEx3 hw ?_
    intro wwA_42 wwB_43 wff_44
    refine zCu4 ?_
    intro hbs9 h_45 h_46 h_47
    clear hw
    subst hbs9
    have G : zS T A s.heap s [[zArq T 6 im 3 qi], [zAr T 2 mk 3 fmk], wt2_3, w2_6, w2_11, w2_16, w2_20, w2_24, w2_27, wtc, z0_c, z1_c, wd0_c, wd1_c, wg0_c, wg1_c, [zO10 xo t im mk rd po co tr wa wb_ fi cd], wwA_42, wwB_43, wff_44] _ _ := G
    refine lv_iconst (v := 1) hx hb dX11_again_38 (by decide) ?_
    have G := G.sub (bs' := [[zO10 xo t im mk rd po co tr wa wb_ fi cd], wt2_3, w2_6, w2_11, w2_16, w2_20, w2_24, w2_27, wtc, z0_c, z1_c, wd0_c, wd1_c, wg0_c, wg1_c, [zArq T 6 im 3 qi], [zAr T 2 mk 3 fmk], wwA_42, wwB_43, wff_44]) [16, 2, 3, 4, 5, 6, 7, 8, 9, 10, 11, 12, 13, 14, 15, 0, 1, 17, 18, 19] rfl
    exact z_back hQz_ (z_zret C hr hlocks G (Nat.le_of_ble_eq_true rfl) (Nat.le_of_ble_eq_true rfl) dX11_again_39 rfl ⟨lnc, flc, plc, g9_4, fk2_5, wt2_3, cr0_c, inn0_c, s0_7, s0_8, s0_9, s0_10, w2_6, cr1_c, inn1_c, s1_12, s1_13, s1_14, s1_15, w2_11, dd0_c, s2_17, s2_18, s2_19, w2_16, dd1_c, s3_21, s3_22, s3_23, w2_20, gg0_c, s4_25, s4_26, w2_24, gg1_c, s5_28, s5_29, w2_27, wwA_42, wwB_43, wff_44, 0, 0, 0, rfl, h_30, (by first | with_reducible assumption | omega | trivial | assumption), h_32, (by first | with_reducible assumption | omega | trivial | assumption), h_33, (by first | with_reducible assumption | omega | trivial | assumption), h_34, h_35, h_36, h_37, h_45, h_46, h_47, (by first | exact Or.inl ⟨rfl, rfl, rfl⟩ | exact Or.inr (Or.inl ⟨rfl, rfl, rfl⟩) | exact Or.inr (Or.inr ⟨rfl, rfl, rfl⟩)), (Or.inr ⟨by first | with_reducible assumption | assumption, rfl, h_40⟩), (Or.inr ⟨rfl, rfl, rfl⟩)⟩)
  · have c_2n : (fmk 2).toInt = (0 : Int) := (fa_eq _ _).mp c_2
    refine lv_iconst (v := 0) hx hb dX11_again_18 (by decide) ?_
    exact z_back hQz_ (z_zret C hr hlocks G (Nat.le_of_ble_eq_true rfl) (Nat.le_of_ble_eq_true rfl) dX11_again_19 rfl ⟨ln, fl, pl, ft, fk, wt, cr0_, inn0_, k10_, k20_, k30_, k40_, z0_, cr1_, inn1_, k11_, k21_, k31_, k41_, z1_, dd0_, p10_, p20_, p30_, wd0_, dd1_, p11_, p21_, p31_, wd1_, gg0_, q10_, q20_, wg0_, gg1_, q11_, q21_, wg1_, wwA, wwB, wff, mdA, mdB, e0f, rfl, ht, (by first | with_reducible assumption | omega | trivial | assumption), hz0_, (by first | with_reducible assumption | omega | trivial | assumption), hz1_, (by first | with_reducible assumption | omega | trivial | assumption), hd0_, hd1_, hg0_, hg1_, hwwA, hwwB, hwff, (by first | exact Or.inl ⟨rfl, rfl, rfl⟩ | exact Or.inr (Or.inl ⟨rfl, rfl, rfl⟩) | exact Or.inr (Or.inr ⟨rfl, rfl, rfl⟩)), (Or.inl ⟨by first | with_reducible assumption | assumption, rfl, hT⟩), (Or.inl (by first | with_reducible assumption | assumption))⟩)
theorem zB01 (x : Int32) : x &&& 1 = 0 ∨ x &&& 1 = 1 := by
  obtain ⟨j, hj, e⟩ := pk_andE x (m := 1) 1 (by decide)
  rw [e]
  rcases (show j = 0 ∨ j = 1 by omega) with q | q
  · rw [q]; exact Or.inl rfl
  · rw [q]; exact Or.inr rfl
theorem zBit_n {x y : Int32} (h : ¬ zBit x y = 1) : zBit x y = 0 := (zB01 (x >>> (y &&& 31))).resolve_right h
theorem zBit_p {x y : Int32} (h : ¬ zBit x y = 0) : zBit x y = 1 := (zB01 (x >>> (y &&& 31))).resolve_left h
theorem zBit_o {x y : Int32} (h : zBit x y = 1) : ¬ zBit x y = 0 := fun q => absurd (q.symm.trans h) (by decide)
def zRo (f : Nat → Int32) (z : Int32) (j : Nat) : Int32 := f (z.toInt.toNat + (2 + j))
def zLo (f : Nat → Int32) (z : Int32) (i : Nat) : Int32 := f (z.toInt.toNat + (23 + i))
def zPo (f : Nat → Int32) (z : Int32) (j : Nat) : Int32 := f (z.toInt.toNat + (9 + j))
/-- ways out: none of an inn -/
def zWo (f : Nat → Int32) (z inns : Int32) (j : Nat) : Int32 := if zBit inns (nI j) = 1 then 0 else zRo f z j
/-- each post points to a road that is there, or to the first one -/
def zMV (R P : Nat → Int32) : Prop := ∀ c, c < 7 → (R c).toInt ≤ 0 ∨ (P c).toInt = 0 ∨ (P c).toInt < (R c).toInt
/-- the roads of two rows lead to the same -/
def zLs (f3 lf lg : Nat → Int32) : Prop := ∀ j r : Nat, j < 7 → r < 4 → (r : Int) < (f3 j).toInt → lf (4 * j + r) = lg (4 * j + r)
def kW (cr inn : Int32) (k1 : Nat → Int32) (j : Nat) : Int32 := zWays cr inn k1 (nI j)
def pW (f : Nat → Int32) (z : Int32) : Nat → Int32 := zWo f z (f (z.toInt.toNat + 1))
theorem zLs_rf {W L : Nat → Int32} : zLs W L L := fun _ _ _ _ _ => rfl
/-- the class's rows of a land walk as the record's -/
theorem zLnd_w {cr inn z : Int32} {k1 k2 k3 k4 f : Nat → Int32} {B : Nat} (h : zLnd cr inn k1 k2 k3 k4 (fun j => f (B + j))) (hF : zLF (fun j => f (B + j))) (hz : z.toInt.toNat = B) : (∀ j, j < 7 → kW cr inn k1 j = pW f z j) ∧ zLs (kW cr inn k1) k2 (zLo f z) ∧ (∀ j, j < 7 → k3 j = zPo f z j) ∧ zP3 k3 (kW cr inn k1) ∧ cr = f z.toInt.toNat ∧ inn = f (z.toInt.toNat + 1) := by
  obtain ⟨ha, hab, hi, hd, hx, hr⟩ := h
  obtain ⟨hf0, hf1, hf2⟩ := hF
  have ha : cr = f B := ha
  have hab : 0 ≤ (f B).toInt ∧ (f B).toInt ≤ 7 := hab
  have hi : inn = f (B + 1) := hi
  have hd : ∀ j : Nat, j < 7 → k1 j = f (B + (2 + j)) ∧ k3 j = f (B + (9 + j)) ∧ k4 j = f (B + (16 + j)) := hd
  have hx : ∀ j : Nat, j < 7 → (f B).toInt ≤ (j : Int) → k1 j = 0 := hx
  have hr : ∀ j r : Nat, j < 7 → r < 4 → (r : Int) < (k1 j).toInt → k2 (4 * j + r) = f (B + (23 + 4 * j + r)) := hr
  have hf1 : ∀ c : Nat, c < 7 → (0 ≤ (f (B + (2 + c))).toInt ∧ (f (B + (2 + c))).toInt ≤ 4) ∧ (0 ≤ (f (B + (9 + c))).toInt ∧ (f (B + (9 + c))).toInt ≤ 3) ∧ 0 ≤ (f (B + (16 + c))).toInt ∧ (f (B + (16 + c))).toInt ≤ 9 := hf1
  have hw : ∀ j : Nat, j < 7 → kW cr inn k1 j = if zBit inn (nI j) = 1 then 0 else k1 j := fun j hj => by
    have t := nI_toInt (n := j) (by omega)
    have t2 := nI_clamp (n := j) (by omega)
    have hcr : cr.toInt = (f B).toInt := by rw [ha]
    unfold kW zWays
    by_cases b : zBit inn (nI j) = 1
    · rw [if_pos b, if_neg (fun q => zBit_o b q.2.2.2)]
    · rw [if_neg b]
      by_cases q : (j : Int) < (f B).toInt
      · rw [if_pos ⟨by omega, by omega, by omega, zBit_n b⟩, t2]
      · rw [if_neg (fun q2 => by omega), hx j hj (by omega)]
  have hp : ∀ j, j < 7 → kW cr inn k1 j = pW f z j := fun j hj => by
    rw [hw j hj]
    unfold pW zWo zRo
    rw [hz, ← hi, (hd j hj).1]
  have hk0 : (0 : Int32).toInt = 0 := rfl
  have hk : ∀ j, j < 7 → 0 ≤ (kW cr inn k1 j).toInt ∧ (kW cr inn k1 j).toInt ≤ (k1 j).toInt ∧ (k1 j).toInt ≤ 4 := fun j hj => by
    have q := (hf1 j hj).1
    rw [hw j hj, (hd j hj).1]
    split
    · rw [hk0]; exact ⟨by omega, q.1, q.2⟩
    · exact ⟨q.1, by omega, q.2⟩
  refine ⟨hp, fun j r hj hr4 hq => ?_, fun j hj => ?_, fun j hj => ⟨⟨(hk j hj).1, by have := hk j hj; omega⟩, ?_⟩, by rw [hz]; exact ha, by rw [hz]; exact hi⟩
  · rw [hr j r hj hr4 (by have := hk j hj; omega)]
    unfold zLo
    rw [hz]
    exact congrArg f (by omega)
  · unfold zPo
    rw [hz]
    exact (hd j hj).2.1
  · rw [(hd j hj).2.1]
    have q := (hf1 j hj).2.1
    exact ⟨q.1, by omega⟩
/-- a land's row as it can be kept: posts point to roads, inns are crossings that are there, roads lead to such -/
def zVR (R : Nat → Int32) : Prop := ∀ c, c < 7 → ((R (9 + c)).toInt = 0 ∨ (R (9 + c)).toInt < (R (2 + c)).toInt) ∧ ((R 0).toInt ≤ (c : Int) → zBit (R 1) (nI c) = 0) ∧ ∀ r : Nat, r < 4 → (r : Int) < (R (2 + c)).toInt → (R (23 + 4 * c + r)).toInt < (R 0).toInt
theorem zVR_cg {R R' : Nat → Int32} (e : ∀ j, j < 51 → R' j = R j) (h : zVR R) : zVR R' := by
  intro c hc
  obtain ⟨a, b, d⟩ := h c hc
  refine ⟨?_, ?_, fun r hr hq => ?_⟩
  · rw [e _ (by omega), e _ (by omega)]; exact a
  · rw [e _ (by omega), e _ (by omega)]; exact b
  · rw [e _ (by omega)] at hq
    rw [e _ (by omega), e _ (by omega)]
    exact d r hr hq
/-- so of each land that is kept, told or in an image -/
def zVA (f : Nat → Int32) : Prop := ∀ i k, i < 4 → k < 2 → zVR (fun j => f (988 * i + (610 + 51 * k + j)))
theorem zVA_0 {f : Nat → Int32} {z : Int32} (h : zVA f) (hz : z.toInt = 610 ∨ z.toInt = 661) : zVR (fun j => f (z.toInt.toNat + j)) := by
  rcases hz with q | q
  · exact zVR_cg (fun j _ => congrArg f (by omega)) (h 0 0 (by decide) (by decide))
  · exact zVR_cg (fun j _ => congrArg f (by omega)) (h 0 1 (by decide) (by decide))
theorem zVA_z {f P : Nat → Int32} {z : Int32} (h : zVA f) (hz : z.toInt = 610 ∨ z.toInt = 661) (hP : ∀ j, j < 7 → P j = zPt f z (nI j)) : zMV (zRo f z) P := by
  intro c hc
  rw [hP c hc]
  have e := nI_toInt (n := c) (by omega)
  have e1 : zPt f z (nI c) = f (z.toInt.toNat + (9 + c)) := congrArg f (by omega)
  rw [e1]
  exact Or.inr (zVA_0 h hz c hc).1
theorem zA_2 {r r' x no : Int32} {fk f : Nat → Int32} {a0 a1 b0 b1 : Int32} (hk : fk 0 = f 0) (hq : (f 0).toInt ≤ 2) (e0 : a0 = b0) (e1 : a1 = b1) (F1 : (x.toInt < 0 ∨ (fk 0).toInt ≤ x.toInt ∨ 2 ≤ x.toInt) ∧ r = no ∨ x.toInt = 0 ∧ 0 < (fk 0).toInt ∧ r = a0 ∨ x.toInt = 1 ∧ 1 < (fk 0).toInt ∧ r = a1) (F2 : (x.toInt < 0 ∨ (f 0).toInt ≤ x.toInt) ∧ r' = no ∨ x.toInt = 0 ∧ 0 < (f 0).toInt ∧ r' = b0 ∨ x.toInt = 1 ∧ 1 < (f 0).toInt ∧ r' = b1) : r = r' := by
  rw [hk] at F1
  rcases F1 with ⟨a, b⟩ | ⟨a, b, c⟩ | ⟨a, b, c⟩ <;> rcases F2 with ⟨d, e⟩ | ⟨d, e, g⟩ | ⟨d, e, g⟩ <;> first | (exfalso; omega) | (rw [b, e]; done) | (rw [c, g, e0]; done) | (rw [c, g, e1]; done)
def pBk (a : pS) : Prop := ¬ a.2.1.toInt = 0 → ¬ a.2.2.1.toInt = 0
section PBK
variable {k : pT} {a : pS}
theorem pBk_ends (h : pBk a) : pBk (pEnds k a) := by
  unfold pEnds
  split
  · exact fun _ => by show ¬ (1 : Int32).toInt = 0; decide
  · exact h
theorem pBk_also {kd w : Int32} (h : pBk a) : pBk (pAlso kd w a) := by
  unfold pAlso
  split
  · exact h
  · rename_i q
    exact fun q2 => absurd (Or.inl q2) q
theorem pBk_num {lo hi : Int32} (h : pBk a) : pBk (pNum k lo hi a).2 := by
  unfold pNum
  split
  · exact pBk_ends h
  · split
    · exact h
    · exact pBk_also (kd := 2) (w := nI (pWh k a.1)) h
theorem pBk_word {lo hi : Nat} (h : pBk a) : pBk (pWord k lo hi a).2 := by
  unfold pWord
  split
  · exact pBk_ends h
  · exact h
theorem pBk_endL (h : pBk a) : pBk (pEndL k a) := by
  unfold pEndL
  split
  · exact h
  · exact pBk_ends h
theorem pBk_cr (h : pBk a) : pBk (pCr k a).2 := pBk_num (k := k) (lo := 0) (hi := 6) h
theorem pBk_roads : ∀ (i m : Nat) (a : pS) (f : Nat → Int32), pBk a → pBk (pRoads k i m a f).2.1
  | 0, m, a, f, h => h
  | i + 1, m, a, f, h => by
    unfold pRoads
    split
    · refine pBk_roads i _ _ _ (pBk_cr ?_)
      split
      · exact pBk_also h
      · exact h
    · exact h
theorem pBk_db {m : Int} {w : Int32} {f : Nat → Int32} (h : pBk a) : pBk (pDB m w f a) := by
  unfold pDB
  split
  · exact pBk_also h
  · exact h
theorem pBk_other {d : Nat} {w : Int32} {f : Nat → Int32} (h : pBk a) : pBk (pOther k d w a f).1 := by
  unfold pOther
  split
  · exact h
  · split
    · exact pBk_roads 601 0 _ _ (pBk_db h)
    · split
      · exact pBk_cr h
      · exact pBk_num (pBk_cr h)
theorem pBk_land {f : Nat → Int32} (h : pBk a) : pBk (pLand k a f).1 := pBk_endL (pBk_other (pBk_word h))
theorem pBk_lines : ∀ (i : Nat) (a : pS) (f : Nat → Int32), pBk a → pBk (pLines k 0 i a f).1
  | 0, a, f, h => h
  | i + 1, a, f, h => by
    unfold pLines
    split
    · refine pBk_lines i _ _ ?_
      rw [show pLine k 0 a f = pLand k a f from if_pos rfl]
      exact pBk_land h
    · exact h
end PBK
/-- inns told: of crossings that were told -/
def zIq (inn fa : Int32) : Prop := ∃ t : Nat, t < 128 ∧ inn = nI t ∧ (-1 ≤ fa.toInt ∧ fa.toInt ≤ 6) ∧ ∀ d : Nat, d ≤ 7 → fa.toInt < (d : Int) → t / 2 ^ d = 0
theorem zIq_m {inn fa fb : Int32} (h : zIq inn fa) (h1 : fa.toInt ≤ fb.toInt) (h2 : fb.toInt ≤ 6) : zIq inn fb := by
  obtain ⟨t, ht, e, hf, hd⟩ := h
  exact ⟨t, ht, e, ⟨by omega, h2⟩, fun d hd8 hq => hd d hd8 (by omega)⟩
theorem zIq_t {inn fa c : Int32} (h : zIq inn fa) (hc : 0 ≤ c.toInt ∧ c.toInt ≤ 6) : zIq (inn ||| ((1 : Int32) <<< (c &&& 31))) (if fa.toInt < c.toInt then c else fa) := by
  obtain ⟨t, ht, rfl, hf, hd⟩ := h
  have ec : c = nI c.toInt.toNat := z_nI (by omega) (by omega)
  have k1 := zTof_k1 t ht c.toInt.toNat (by omega)
  rw [← ec] at k1
  refine ⟨t ||| 2 ^ c.toInt.toNat, k1.2, k1.1, ?_, fun d hd8 hq => (zTof_k2 t ht c.toInt.toNat (by omega) d (by omega)).mpr ?_⟩
  · split <;> omega
  · split at hq
    · exact ⟨hd d hd8 (by omega), by omega⟩
    · exact ⟨hd d hd8 hq, by omega⟩
theorem zIq_b : ∀ t, t < 128 → ∀ j, j < 7 → t / 2 ^ j = 0 → zBit (nI t) (nI j) = 0 := by decide +kernel
theorem zIq_0 : zIq 0 (-1) := ⟨0, by decide, rfl, by decide, fun d _ _ => Nat.zero_div _⟩
/-- roads told lead to crossings that were told -/
def zJq (f : Nat → Int32) (fa : Int32) : Prop := ∀ c r : Nat, c < 7 → r < 4 → (r : Int) < (f (2 + c)).toInt → (f (23 + 4 * c + r)).toInt ≤ fa.toInt
theorem zJq_m {f : Nat → Int32} {fa fb : Int32} (h : zJq f fa) (q : fa.toInt ≤ fb.toInt) : zJq f fb := fun c r hc hr hq => Int.le_trans (h c r hc hr hq) q
theorem zJq_l {f : Nat → Int32} {fa fb v : Int32} {k : Nat} (h : zJq f fa) (q : fa.toInt ≤ fb.toInt) (hv : v.toInt ≤ fb.toInt) (hk : 23 ≤ k) : zJq (upd f k v) fb := by
  intro c r hc hr hq
  rw [z_ne (by omega)] at hq
  by_cases e : 23 + 4 * c + r = k
  · rw [z_eq e]; exact hv
  · rw [z_ne e]; exact Int.le_trans (h c r hc hr hq) q
theorem zJq_o {f : Nat → Int32} {fa v : Int32} {k : Nat} (h : zJq f fa) (hk : k < 23) (hk2 : ¬ (2 ≤ k ∧ k < 9)) : zJq (upd f k v) fa := by
  intro c r hc hr hq
  rw [z_ne (by omega)] at hq
  rw [z_ne (by omega)]
  exact h c r hc hr hq
section PFA
variable {k : pT} {a : pS}
theorem pEnds_a : (pEnds k a).2.2.2.2 = a.2.2.2.2 := by
  unfold pEnds
  split <;> rfl
theorem pAlso_a {kd w : Int32} : (pAlso kd w a).2.2.2.2 = a.2.2.2.2 := by
  unfold pAlso
  split <;> rfl
theorem pNum_a {lo hi : Int32} : (pNum k lo hi a).2.2.2.2.2 = a.2.2.2.2 := by
  unfold pNum
  split
  · exact pEnds_a
  · split
    · rfl
    · exact pAlso_a
theorem pWord_a {lo hi : Nat} : (pWord k lo hi a).2.2.2.2.2 = a.2.2.2.2 := by
  unfold pWord
  split
  · exact pEnds_a
  · rfl
theorem pEndL_aa : (pEndL k a).2.2.2.2 = a.2.2.2.2 := by
  unfold pEndL
  split
  · rfl
  · exact pEnds_a
theorem pNum_b : 0 ≤ (pNum k 0 6 a).1.toInt ∧ (pNum k 0 6 a).1.toInt ≤ 6 := by
  unfold pNum
  split
  · exact ⟨by show (0 : Int) ≤ (0 : Int32).toInt; decide, by show (0 : Int32).toInt ≤ 6; decide⟩
  · split
    · rename_i q
      exact q
    · exact ⟨by show (0 : Int) ≤ (0 : Int32).toInt; decide, by show (0 : Int32).toInt ≤ 6; decide⟩
theorem pCr_a : (pCr k a).2.2.2.2.2 = if a.2.2.2.2.toInt < (pNum k 0 6 a).1.toInt then (pNum k 0 6 a).1 else a.2.2.2.2 := by
  have e : (pCr k a).2.2.2.2.2 = if (pNum k 0 6 a).2.2.2.2.2.toInt < (pNum k 0 6 a).1.toInt then (pNum k 0 6 a).1 else (pNum k 0 6 a).2.2.2.2.2 := rfl
  rw [e, pNum_a]
theorem zIq_cr {inn : Int32} (h : zIq inn a.2.2.2.2) : zIq inn (pCr k a).2.2.2.2.2 := by
  have b := pNum_b (k := k) (a := a)
  have hf : -1 ≤ a.2.2.2.2.toInt ∧ a.2.2.2.2.toInt ≤ 6 := by
    obtain ⟨t, -, -, hf, -⟩ := h
    exact hf
  rw [pCr_a]
  refine zIq_m h ?_ ?_
  · split <;> omega
  · split <;> omega
theorem pCr_m : a.2.2.2.2.toInt ≤ (pCr k a).2.2.2.2.2.toInt ∧ (pCr k a).1.toInt ≤ (pCr k a).2.2.2.2.2.toInt := by
  rw [pCr_a]
  show a.2.2.2.2.toInt ≤ (if a.2.2.2.2.toInt < (pNum k 0 6 a).1.toInt then (pNum k 0 6 a).1 else a.2.2.2.2).toInt ∧ (pNum k 0 6 a).1.toInt ≤ (if a.2.2.2.2.toInt < (pNum k 0 6 a).1.toInt then (pNum k 0 6 a).1 else a.2.2.2.2).toInt
  split <;> omega
/-- the roads of a crossing, while they are told -/
def zJm (f : Nat → Int32) (fa : Int32) (m : Nat) : Prop := zJq f fa ∧ ∀ r : Nat, r < m → r < 4 → (f 0).toInt < 7 → (f (23 + 4 * (f 0).toInt.toNat + r)).toInt ≤ fa.toInt
theorem zIq_roads {inn cr : Int32} : ∀ (i m : Nat) (a : pS) (f : Nat → Int32), m ≤ 4 → f 1 = inn → f 0 = cr → zIq inn a.2.2.2.2 → zJm f a.2.2.2.2 m → ((pRoads k i m a f).2.2 1 = inn ∧ (pRoads k i m a f).2.2 0 = cr ∧ (pRoads k i m a f).1 ≤ 4) ∧ zIq inn (pRoads k i m a f).2.1.2.2.2.2 ∧ zJm (pRoads k i m a f).2.2 (pRoads k i m a f).2.1.2.2.2.2 (pRoads k i m a f).1
  | 0, m, a, f, hm, e, e0, h, hJ => ⟨⟨e, e0, hm⟩, h, hJ⟩
  | i + 1, m, a, f, hm, e, e0, h, hJ => by
    have hx : ∀ b : pS, b.2.2.2.2 = a.2.2.2.2 → zIq inn (pCr k b).2.2.2.2.2 ∧ zJm (if (f 0).toInt < 7 ∧ m < 4 then upd f (23 + 4 * (f 0).toInt.toNat + m) (pCr k b).1 else f) (pCr k b).2.2.2.2.2 (if m < 4 then m + 1 else 4) := by
      intro b hb
      have hm2 := pCr_m (k := k) (a := b)
      rw [hb] at hm2
      refine ⟨zIq_cr (by rw [hb]; exact h), ?_⟩
      by_cases q : (f 0).toInt < 7 ∧ m < 4
      · rw [if_pos q, if_pos q.2]
        refine ⟨zJq_l hJ.1 hm2.1 hm2.2 (by omega), fun r hr hr4 h7 => ?_⟩
        rw [show upd f (23 + 4 * (f 0).toInt.toNat + m) (pCr k b).1 0 = f 0 from z_ne (by omega)]
        by_cases t : r = m
        · rw [z_eq (by omega)]
          exact hm2.2
        · rw [z_ne (by omega)]
          exact Int.le_trans (hJ.2 r (by omega) hr4 q.1) hm2.1
      · rw [if_neg q]
        refine ⟨zJq_m hJ.1 hm2.1, fun r hr hr4 h7 => Int.le_trans (hJ.2 r ?_ hr4 h7) hm2.1⟩
        by_cases t : m < 4
        · exact absurd ⟨h7, t⟩ q
        · omega
    unfold pRoads
    split
    · have hb : (if m = 4 then pAlso 3 (nI (pWh k a.1)) a else a).2.2.2.2 = a.2.2.2.2 := by
        split
        · exact pAlso_a
        · rfl
      have hy := hx _ hb
      refine zIq_roads i _ _ _ (by split <;> omega) ?_ ?_ hy.1 hy.2
      · split
        · rw [z_ne (by omega)]; exact e
        · exact e
      · split
        · rw [z_ne (by omega)]; exact e0
        · exact e0
    · exact ⟨⟨e, e0, hm⟩, h, hJ⟩
/-- what holds of a land's row while it is read -/
def zKv (f : Nat → Int32) (fa : Int32) : Prop := zIq (f 1) fa ∧ zJq f fa ∧ 0 ≤ (f 0).toInt ∧ (f 0).toInt ≤ 7
theorem zKv_other {d : Nat} {w : Int32} {f : Nat → Int32} (h : zKv f a.2.2.2.2) : zKv (pOther k d w a f).2 (pOther k d w a f).1.2.2.2.2 := by
  obtain ⟨hI, hJ, h0⟩ := h
  unfold pOther
  split
  · exact ⟨hI, hJ, h0⟩
  · split
    · have hb : (pDB 7 w f a).2.2.2.2 = a.2.2.2.2 := by
        unfold pDB
        split
        · exact pAlso_a
        · rfl
      obtain ⟨⟨r1, r2, r3⟩, r4, r5, r6⟩ := zIq_roads (k := k) 601 0 (pDB 7 w f a) f (by decide) rfl rfl (by rw [hb]; exact hI) ⟨by rw [hb]; exact hJ, fun r hr _ _ => absurd hr (Nat.not_lt_zero r)⟩
      show zKv (if 7 ≤ (f 0).toInt then (pRoads k 601 0 (pDB 7 w f a) f).2.2 else upd (upd (pRoads k 601 0 (pDB 7 w f a) f).2.2 (2 + ((pRoads k 601 0 (pDB 7 w f a) f).2.2 0).toInt.toNat) (nI (pRoads k 601 0 (pDB 7 w f a) f).1)) 0 ((pRoads k 601 0 (pDB 7 w f a) f).2.2 0 + 1)) (pRoads k 601 0 (pDB 7 w f a) f).2.1.2.2.2.2
      revert r1 r2 r3 r4 r5 r6
      generalize (pRoads k 601 0 (pDB 7 w f a) f).2.2 = g
      generalize (pRoads k 601 0 (pDB 7 w f a) f).2.1.2.2.2.2 = fb
      generalize (pRoads k 601 0 (pDB 7 w f a) f).1 = m
      intro r1 r2 r3 r4 r5 r6
      split
      · exact ⟨by rw [r1]; exact r4, r5, by rw [r2]; exact h0⟩
      · have e1 : (g 0 + 1).toInt = (g 0).toInt + 1 := z_iaddI (by rw [r2]; show -2147483648 ≤ (f 0).toInt + 1; omega) (by rw [r2]; show (f 0).toInt + 1 < 2147483648; omega)
        rw [r2] at e1 ⊢
        refine ⟨?_, zJq_o ?_ (by decide) (by decide), ?_⟩
        · rw [z_ne (by omega), z_ne (by omega), r1]; exact r4
        · intro c r hc hr hq
          by_cases t : c = (f 0).toInt.toNat
          · rw [z_ne (by omega)]
            rw [z_eq (by omega)] at hq
            have em := nI_toInt (n := m) (by omega)
            have x := r6 r (by omega) hr (by rw [r2]; omega)
            rw [r2, ← t] at x
            exact x
          · rw [z_ne (by omega)] at hq
            rw [z_ne (by omega)]
            exact r5 c r hc hr hq
        · rw [z_eq rfl, e1]
          omega
    · split
      · have b := pNum_b (k := k) (a := a)
        have t := zIq_t hI b
        rw [← pCr_a] at t
        have hm2 := pCr_m (k := k) (a := a)
        show zKv (upd f 1 (f 1 ||| ((1 : Int32) <<< ((pCr k a).1 &&& 31)))) (pCr k a).2.2.2.2.2
        exact ⟨by rw [z_eq rfl]; exact t, zJq_o (zJq_m hJ hm2.1) (by decide) (by decide), by rw [z_ne (by decide)]; exact h0⟩
      · have t := zIq_cr (k := k) hI
        have hm2 := pCr_m (k := k) (a := a)
        have b : 0 ≤ (pCr k a).1.toInt ∧ (pCr k a).1.toInt ≤ 6 := pNum_b (k := k) (a := a)
        show zKv (upd f ((if d = 2 then 9 else 16) + (pCr k a).1.toInt.toNat) (pNum k 0 (if d = 2 then 3 else 9) (pCr k a).2).1) (pNum k 0 (if d = 2 then 3 else 9) (pCr k a).2).2.2.2.2.2
        rw [pNum_a]
        have e : (if d = 2 then 9 else 16) = 9 ∨ (if d = 2 then 9 else 16) = 16 := by
          split
          · exact Or.inl rfl
          · exact Or.inr rfl
        exact ⟨by rw [z_ne (by omega)]; exact t, zJq_o (zJq_m hJ hm2.1) (by omega) (by omega), by rw [z_ne (by omega)]; exact h0⟩
theorem zKv_land {f : Nat → Int32} (h : zKv f a.2.2.2.2) : zKv (pLand k a f).2 (pLand k a f).1.2.2.2.2 := by
  show zKv _ (pEndL k _).2.2.2.2
  rw [pEndL_aa]
  exact zKv_other (by rw [pWord_a]; exact h)
theorem zKv_lines : ∀ (i : Nat) (a : pS) (f : Nat → Int32), zKv f a.2.2.2.2 → zKv (pLines k 0 i a f).2 (pLines k 0 i a f).1.2.2.2.2
  | 0, a, f, h => h
  | i + 1, a, f, h => by
    unfold pLines
    split
    · refine zKv_lines i _ _ ?_
      rw [show pLine k 0 a f = pLand k a f from if_pos rfl]
      exact zKv_land h
    · exact h
theorem zKv_0 : zKv (fun _ => 0) (-1) := ⟨zIq_0, fun c r _ _ hq => absurd hq (by show ¬ (r : Int) < (0 : Int32).toInt; have : (0 : Int32).toInt = 0 := rfl; omega), by decide⟩
end PFA
theorem pRead_V {k : pT} {n : Nat} (h : (pRead k n 0).1.2.2.1.toInt = 0) : zVR (pRead k n 0).2 := by
  have hb : pBk (pLines k 0 601 (0, 0, 0, -1, -1) (fun _ => 0)).1 := pBk_lines 601 _ _ (fun q => absurd rfl q)
  have hi : zKv (pLines k 0 601 (0, 0, 0, -1, -1) (fun _ => 0)).2 (pLines k 0 601 (0, 0, 0, -1, -1) (fun _ => 0)).1.2.2.2.2 := zKv_lines 601 _ _ zKv_0
  have h : (pF5 n 0 (pF4 n 0 (pLines k 0 601 (0, 0, 0, -1, -1) (fun _ => 0)).1 (pLines k 0 601 (0, 0, 0, -1, -1) (fun _ => 0)).2) (pLines k 0 601 (0, 0, 0, -1, -1) (fun _ => 0)).2).2.2.1.toInt = 0 := h
  show zVR (pLines k 0 601 (0, 0, 0, -1, -1) (fun _ => 0)).2
  revert hb hi h
  generalize (pLines k 0 601 (0, 0, 0, -1, -1) (fun _ => 0)).1 = a
  generalize (pLines k 0 601 (0, 0, 0, -1, -1) (fun _ => 0)).2 = f
  intro hb hi h
  have hb4 : pBk (pF4 n 0 a f) := by
    unfold pF4
    split
    · exact pBk_also hb
    · exact hb
  have h4 : (pF4 n 0 a f).2.2.1.toInt = 0 ∧ pPosts f = true := by
    revert hb4 h
    generalize pF4 n 0 a f = b
    intro h hb4
    by_cases hq : b.2.2.1.toInt = 0
    · refine ⟨hq, ?_⟩
      by_cases hp : pPosts f = true
      · exact hp
      · exfalso
        unfold pF5 at h
        rw [if_pos ⟨rfl, hq, Bool.eq_false_iff.mpr hp⟩] at h
        unfold pAlso at h
        by_cases hc : b.2.1.toInt = 0
        · rw [if_neg (fun z => z.elim (fun z => z hc) (fun z => z.1 hq))] at h
          exact absurd (show (5 : Int32).toInt = 0 from h) (by decide)
        · exact hb4 hc hq
    · exfalso
      unfold pF5 at h
      rw [if_neg (fun z => hq z.2.1)] at h
      exact hq h
  have h5 := h4.1
  unfold pF4 at h5
  have ha : a.2.2.1.toInt = 0 := by
    by_cases hq : a.2.2.1.toInt = 0
    · exact hq
    · rw [if_neg (fun z => hq z.2.1)] at h5
      exact h5
  have hf : ¬ (f 0).toInt ≤ a.2.2.2.2.toInt := fun q => by
    rw [if_pos ⟨rfl, ha, q⟩] at h5
    unfold pAlso at h5
    by_cases hc2 : a.2.1.toInt = 0
    · rw [if_neg (fun z => z.elim (fun z => z hc2) (fun z => z.1 ha))] at h5
      exact absurd (show (4 : Int32).toInt = 0 from h5) (by decide)
    · exact hb hc2 ha
  obtain ⟨⟨t, ht, e, -, hd⟩, hJ, -⟩ := hi
  intro c hc
  refine ⟨pPosts_t.mp h4.2 c hc, fun hn => ?_, fun r hr hq => ?_⟩
  · rw [e]
    exact zIq_b t ht c hc (hd c (by omega) (by omega))
  · have := hJ c r hc hr hq
    omega
theorem zVA_low {f g : Nat → Int32} (hV : zVA f) (e : ∀ j, 610 ≤ j → g j = f j) : zVA g := fun i q hi hq => zVR_cg (fun j _ => e _ (by omega)) (hV i q hi hq)
theorem zVA_text {k : pT} {n s : Nat} {at_ r : Int32} {f g : Nat → Int32} (hV : zVA f) (hs : s < 3) (F2 : zText (pRead k n s) s at_ f g r) (T2 : ∀ j, 988 ≤ j → g j = f j) : zVA g := by
  have ho : ∀ (a b : Int32) (j : Nat), 7 ≤ j → pHd f a b j = f j := fun a b j hj => by
    unfold pHd
    rw [z_ne (by omega), z_ne (by omega), z_ne (by omega)]
  rcases F2 with ⟨-, -, z⟩ | ⟨-, -, -, z⟩ | ⟨-, y, -, z⟩
  · refine zVA_low hV (fun j hj => ?_)
    by_cases q : j < 988
    · rw [z j q, ho _ _ _ (by omega)]
    · exact T2 j (by omega)
  · refine zVA_low hV (fun j hj => ?_)
    by_cases q : j < 988
    · rw [z j q, ho _ _ _ (by omega)]
    · exact T2 j (by omega)
  · have hc2 : ∀ (G : Nat → Int32) (j : Nat), 7 ≤ j → pCnt s at_ G j = G j := fun G j hj => by
      unfold pCnt
      split
      · exact z_ne (by omega)
      · rfl
    intro i q hi hq
    by_cases e : i = 0
    · by_cases hs0 : s = 0 ∧ (pNr 0 at_ f).toInt.toNat = q
      · obtain ⟨hs0, hn⟩ := hs0
        subst hs0
        refine zVR_cg (fun j hj => ?_) (pRead_V y)
        show g (988 * i + (610 + 51 * q + j)) = (pRead k n 0).2 j
        rw [z _ (by omega), hn]
        unfold pPut
        have hp : pBase 0 q = 610 + 51 * q := rfl
        have hz : pSize 0 = 51 := rfl
        rw [hp, hz, if_pos (by omega)]
        exact congrArg _ (by omega)
      · refine zVR_cg (fun j hj => ?_) (hV i q hi hq)
        show g (988 * i + (610 + 51 * q + j)) = f (988 * i + (610 + 51 * q + j))
        rw [z _ (by omega)]
        have hx : ¬ (pBase s (pNr s at_ f).toInt.toNat ≤ 988 * i + (610 + 51 * q + j) ∧ 988 * i + (610 + 51 * q + j) < pBase s (pNr s at_ f).toInt.toNat + pSize s) := by
          rcases (show s = 0 ∨ s = 1 ∨ s = 2 by omega) with t | t | t
          · subst t
            have hp : pBase 0 (pNr 0 at_ f).toInt.toNat = 610 + 51 * (pNr 0 at_ f).toInt.toNat := rfl
            have hz : pSize 0 = 51 := rfl
            rw [hp, hz]
            have hn : ¬ (pNr 0 at_ f).toInt.toNat = q := fun w => hs0 ⟨rfl, w⟩
            omega
          · subst t
            have hp : pBase 1 (pNr 1 at_ f).toInt.toNat = 712 + 121 * (pNr 1 at_ f).toInt.toNat := rfl
            rw [hp]
            omega
          · subst t
            have hp : pBase 2 (pNr 2 at_ f).toInt.toNat = 954 + 17 * (pNr 2 at_ f).toInt.toNat := rfl
            rw [hp]
            omega
        unfold pPut
        rw [if_neg hx, hc2 _ _ (by omega), ho _ _ _ (by omega)]
    · exact zVR_cg (fun j _ => T2 _ (by omega)) (hV i q hi hq)
theorem zVA_feed {p : Nat} {a b c d e r : Int32} {f g : Nat → Int32} (hV : zVA f) (hp6 : p ≤ 600) (F2 : 580 < p ∧ r = -1 ∧ g = f ∨ p ≤ 580 ∧ r = nI (p + 20) ∧ zFeedR p a b c d e f g) : zVA g := by
  rcases F2 with ⟨-, -, y⟩ | ⟨hp5, -, y⟩
  · rw [y]; exact hV
  · obtain ⟨-, -, z3⟩ := y
    exact zVA_low hV (fun j hj => z3 j (by omega) (by omega))
theorem zVA_end {n r : Int32} {f g : Nat → Int32} (hV : zVA f) (F2 : (n.toInt < 0 ∨ (f 4).toInt < n.toInt) ∧ r.toInt = -1 ∧ g = f ∨ (0 ≤ n.toInt ∧ n.toInt ≤ (f 4).toInt) ∧ g = upd f 4 n ∧ r = n) : zVA g := by
  rcases F2 with ⟨-, -, y⟩ | ⟨-, y, -⟩
  · rw [y]; exact hV
  · rw [y]; exact zVA_low hV (fun j hj => z_ne (by omega))
theorem zVA_hd {f g : Nat → Int32} (hV : zVA f) (hg : g = upd (upd (upd f 4 0) 5 0) 6 (-1)) : zVA g := by
  rw [hg]
  exact zVA_low hV (fun j hj => by rw [z_ne (by omega), z_ne (by omega), z_ne (by omega)])
theorem zVA_img {f g : Nat → Int32} {k : Nat} (hk : k < 3) (hV : zVA f) (c1 : ∀ j, j < 988 → g (988 * (k + 1) + j) = f j) (c2 : ∀ j, (j < 988 * (k + 1) ∨ 988 * (k + 1) + 988 ≤ j) → g j = f j) : zVA g := by
  intro i q hi hq
  by_cases e : i = k + 1
  · subst e
    exact zVR_cg (fun j _ => (c1 _ (by omega)).trans (congrArg f (by omega))) (hV 0 q (by decide) hq)
  · have : i < k + 1 ∨ k + 1 < i := by omega
    exact zVR_cg (fun j _ => c2 _ (by omega)) (hV i q hi hq)
theorem zVA_ag {K : Nat} {x r' : Int32} {fh f g : Nat → Int32} (hV : zVA f) (hx : x.toInt = (K : Int)) (hK : K < 3) (F2 : r' = 0 ∧ (x.toInt < 0 ∨ 3 ≤ x.toInt ∨ fh x.toNatClampNeg = 0) ∧ g = f ∨ r' = 1 ∧ (0 ≤ x.toInt ∧ x.toInt < 3) ∧ ¬ fh x.toNatClampNeg = 0 ∧ (∀ j, j < 988 → g j = f (988 * (x.toNatClampNeg + 1) + j)) ∧ ∀ j, 988 ≤ j → g j = f j) : zVA g := by
  have e : x.toNatClampNeg = K := by have := z_clI (x := x) (by omega); omega
  rw [e] at F2
  rcases F2 with ⟨-, -, z⟩ | ⟨-, -, -, z, z2⟩
  · rw [z]; exact hV
  · intro i q hi hq
    by_cases e : i = 0
    · exact zVR_cg (fun j _ => (z _ (by omega)).trans (congrArg f (by omega))) (hV (K + 1) q (by omega) hq)
    · exact zVR_cg (fun j _ => z2 _ (by omega)) (hV i q hi hq)
theorem zBit_z (y : Int32) : zBit 0 y = 0 := by
  unfold zBit
  rw [Int32.zero_shiftRight]
  rfl
theorem zVR_z {R : Nat → Int32} (h : ∀ j, j < 51 → R j = 0) : zVR R := by
  intro c hc
  rw [h _ (by omega), h _ (by omega), h _ (by omega), h _ (by omega)]
  exact ⟨Or.inl rfl, fun _ => zBit_z _, fun r _ hq => absurd hq (by show ¬ (r : Int) < (0 : Int32).toInt; have : (0 : Int32).toInt = 0 := rfl; omega)⟩
theorem zVA_st : zVA (upd (fun _ => 0) 6 (-1)) := fun i q _ _ => zVR_z (fun j _ => if_neg (by omega))
/-- roads lead to crossings that are there -/
def zLq (cr : Int32) (k1 k2 : Nat → Int32) : Prop := ∀ j r : Nat, j < 7 → r < 4 → (r : Int) < (k1 j).toInt → 0 ≤ (k2 (4 * j + r)).toInt ∧ (k2 (4 * j + r)).toInt < cr.toInt
theorem zLq_e {cr inn z : Int32} {k1 k2 k3 k4 f : Nat → Int32} {B : Nat} (h : zLnd cr inn k1 k2 k3 k4 (fun j => f (B + j))) (hF : zLF (fun j => f (B + j))) (hz : z.toInt.toNat = B) (hV : zVR (fun j => f (z.toInt.toNat + j))) : zLq cr k1 k2 := by
  obtain ⟨ha, -, -, hd, -, hr⟩ := h
  rw [hz] at hV
  intro j r hj hr4 hq
  have e := hr j r hj hr4 hq
  have e : k2 (4 * j + r) = f (B + (23 + 4 * j + r)) := e
  have b : 0 ≤ (f (B + (23 + (4 * j + r)))).toInt := (hF.2.2 (4 * j + r) (by omega)).1
  have d : k1 j = f (B + (2 + j)) := (hd j hj).1
  have v : (r : Int) < (f (B + (2 + j))).toInt → (f (B + (23 + 4 * j + r))).toInt < (f (B + 0)).toInt := (hV j hj).2.2 r hr4
  have ha : cr = f (B + 0) := ha
  rw [e, ha]
  rw [show B + (23 + (4 * j + r)) = B + (23 + 4 * j + r) by omega] at b
  exact ⟨b, v (by rw [← d]; exact hq)⟩
theorem zInc1 (i : Nat) : nI i + 1 = nI (i + 1) := z_inc i 1
def zDR (R : Nat → Int32) : Prop := ∀ j : Nat, (j : Int) < (R 0).toInt → (0 ≤ (R (1 + 3 * j)).toInt ∧ (R (1 + 3 * j)).toInt ≤ 5) ∧ (4 ≤ (R (1 + 3 * j)).toInt → 0 ≤ (R (3 + 3 * j)).toInt ∧ (R (3 + 3 * j)).toInt ≤ 3)
theorem zDR_cg {R R' : Nat → Int32} (e : ∀ j, j < 121 → R' j = R j) (h0 : (R 0).toInt ≤ 40) (h : zDR R) : zDR R' := by
  intro j hj
  rw [e 0 (by decide)] at hj
  rw [e _ (by omega), e _ (by omega)]
  exact h j hj
section PZ
variable {k : pT} {a : pS}
theorem pEnds_z (h : pBk a) : ¬ (pEnds k a).2.2.1.toInt = 0 := by
  unfold pEnds
  split
  · show ¬ (1 : Int32).toInt = 0
    decide
  · rename_i q
    exact h q
theorem pAlso_zz {kd w : Int32} (h : pBk a) (hk : ¬ kd.toInt = 0) : ¬ (pAlso kd w a).2.2.1.toInt = 0 := by
  unfold pAlso
  split
  · rename_i q
    intro z
    rcases q with q | q
    · exact h q z
    · exact q.1 z
  · exact hk
theorem pNum_z {lo hi : Int32} (h : pBk a) (q : (pNum k lo hi a).2.2.2.1.toInt = 0) : a.2.2.1.toInt = 0 ∧ lo.toInt ≤ (pNum k lo hi a).1.toInt ∧ (pNum k lo hi a).1.toInt ≤ hi.toInt := by
  unfold pNum at q ⊢
  split at q
  · exact absurd q (pEnds_z h)
  · split at q
    · rename_i c1 c2
      rw [if_neg c1, if_pos c2]
      exact ⟨q, c2.1, c2.2⟩
    · exact absurd q (pAlso_zz (kd := 2) (w := nI (pWh k a.1)) h (by decide))
theorem pWord_z {lo hi : Nat} (h : pBk a) (q : (pWord k lo hi a).2.2.2.1.toInt = 0) : a.2.2.1.toInt = 0 ∧ lo ≤ (pWord k lo hi a).1 ∧ (pWord k lo hi a).1 ≤ hi := by
  unfold pWord at q ⊢
  split at q
  · exact absurd q (pEnds_z h)
  · rename_i c1
    rw [if_neg c1]
    exact ⟨q, by omega⟩
theorem pEndL_z (h : pBk a) (q : (pEndL k a).2.2.1.toInt = 0) : a.2.2.1.toInt = 0 := by
  unfold pEndL at q
  split at q
  · exact q
  · exact absurd q (pEnds_z h)
theorem pDB_z {m : Int} {w : Int32} {f : Nat → Int32} (h : pBk a) (q : (pDB m w f a).2.2.1.toInt = 0) : a.2.2.1.toInt = 0 ∧ (f 0).toInt < m := by
  unfold pDB at q
  split at q
  · exact absurd q (pAlso_zz h (by decide))
  · exact ⟨q, by omega⟩
theorem pBk_dy {d : Nat} (h : pBk a) : pBk (pDY k d a).2 := by
  unfold pDY
  split
  · exact pBk_num h
  · exact h
theorem pBk_day {f : Nat → Int32} (h : pBk a) : pBk (pDay k a f).1 := pBk_endL (pBk_dy (pBk_num (pBk_db (pBk_word h))))
/-- what holds of a day's row while there is no fault -/
def zDJ (a : pS) (f : Nat → Int32) : Prop := a.2.2.1.toInt = 0 → zDR f ∧ 0 ≤ (f 0).toInt ∧ (f 0).toInt ≤ 40
theorem zDJ_day {f : Nat → Int32} (h : pBk a) (hJ : zDJ a f) : zDJ (pDay k a f).1 (pDay k a f).2 := by
  intro q
  have b1 := pBk_word (k := k) (lo := 5) (hi := 10) h
  have b2 := pBk_db (m := 40) (w := nI (pWh k a.1)) (f := f) b1
  have b3 := pBk_num (k := k) (lo := 0) (hi := 6) b2
  have q1 : (pDY k (pWord k 5 10 a).1 (pNum k 0 6 (pDB 40 (nI (pWh k a.1)) f (pWord k 5 10 a).2)).2).2.2.2.1.toInt = 0 := pEndL_z (pBk_dy b3) q
  have q2 : (pNum k 0 6 (pDB 40 (nI (pWh k a.1)) f (pWord k 5 10 a).2)).2.2.2.1.toInt = 0 ∧ (8 < (pWord k 5 10 a).1 → 0 ≤ (pDY k (pWord k 5 10 a).1 (pNum k 0 6 (pDB 40 (nI (pWh k a.1)) f (pWord k 5 10 a).2)).2).1.toInt ∧ (pDY k (pWord k 5 10 a).1 (pNum k 0 6 (pDB 40 (nI (pWh k a.1)) f (pWord k 5 10 a).2)).2).1.toInt ≤ 3) := by
    unfold pDY at q1 ⊢
    by_cases c : 8 < (pWord k 5 10 a).1
    · rw [if_pos c] at q1 ⊢
      have t := pNum_z b3 q1
      exact ⟨t.1, fun _ => ⟨t.2.1, t.2.2⟩⟩
    · rw [if_neg c] at q1
      exact ⟨q1, fun z => absurd z c⟩
  have q3 := pNum_z b2 q2.1
  have q4 := pDB_z b1 q3.1
  have q5 := pWord_z h q4.1
  have hf := hJ q5.1
  have e : (pDay k a f).2 = if (f 0).toInt < 40 then upd (upd (upd (upd f (1 + 3 * (f 0).toInt.toNat) (nI (pWord k 5 10 a).1 - 5)) (2 + 3 * (f 0).toInt.toNat) (pNum k 0 6 (pDB 40 (nI (pWh k a.1)) f (pWord k 5 10 a).2)).1) (3 + 3 * (f 0).toInt.toNat) (pDY k (pWord k 5 10 a).1 (pNum k 0 6 (pDB 40 (nI (pWh k a.1)) f (pWord k 5 10 a).2)).2).1) 0 (f 0 + 1) else f := rfl
  rw [e, if_pos q4.2]
  have e1 : (f 0 + 1).toInt = (f 0).toInt + 1 := (z_iaddI (x := f 0) (y := 1) (by show -2147483648 ≤ (f 0).toInt + 1; omega) (by show (f 0).toInt + 1 < 2147483648; omega))
  have e2 := nI_toInt (n := (pWord k 5 10 a).1) (by omega)
  have e5 : (5 : Int32).toInt = 5 := rfl
  have e3 : (nI (pWord k 5 10 a).1 - 5).toInt = ((pWord k 5 10 a).1 : Int) - 5 := (z_isubI (x := nI (pWord k 5 10 a).1) (y := 5) (by rw [e5, e2]; omega) (by rw [e5, e2]; omega)).trans (by rw [e5, e2])
  refine ⟨fun j hj => ?_, by rw [z_eq rfl, e1]; omega⟩
  rw [z_eq rfl, e1] at hj
  rw [z_ne (show ¬ 1 + 3 * j = 0 by omega), z_ne (show ¬ 1 + 3 * j = 3 + 3 * (f 0).toInt.toNat by omega), z_ne (show ¬ 1 + 3 * j = 2 + 3 * (f 0).toInt.toNat by omega), z_ne (show ¬ 3 + 3 * j = 0 by omega)]
  by_cases t : j = (f 0).toInt.toNat
  · rw [z_eq (show 1 + 3 * j = 1 + 3 * (f 0).toInt.toNat by omega), z_eq (show 3 + 3 * j = 3 + 3 * (f 0).toInt.toNat by omega), e3]
    exact ⟨⟨by omega, by omega⟩, fun z => q2.2 (by omega)⟩
  · rw [z_ne (show ¬ 1 + 3 * j = 1 + 3 * (f 0).toInt.toNat by omega), z_ne (show ¬ 3 + 3 * j = 3 + 3 * (f 0).toInt.toNat by omega), z_ne (show ¬ 3 + 3 * j = 2 + 3 * (f 0).toInt.toNat by omega), z_ne (show ¬ 3 + 3 * j = 1 + 3 * (f 0).toInt.toNat by omega)]
    exact hf.1 j (by omega)
theorem zDJ_lines : ∀ (i : Nat) (a : pS) (f : Nat → Int32), pBk a → zDJ a f → zDJ (pLines k 1 i a f).1 (pLines k 1 i a f).2
  | 0, a, f, _, h => h
  | i + 1, a, f, hb, h => by
    unfold pLines
    split
    · have e : pLine k 1 a f = pDay k a f := by
        unfold pLine
        rw [if_neg (by decide), if_pos rfl]
      refine zDJ_lines i _ _ ?_ ?_
      · rw [e]; exact pBk_day hb
      · rw [e]; exact zDJ_day hb h
    · exact h
end PZ
theorem pRead_D {k : pT} {n : Nat} (h : (pRead k n 1).1.2.2.1.toInt = 0) : zDR (pRead k n 1).2 ∧ (((pRead k n 1).2 0).toInt ≤ 40) := by
  have hJ : zDJ (pLines k 1 601 (0, 0, 0, -1, -1) (fun _ => 0)).1 (pLines k 1 601 (0, 0, 0, -1, -1) (fun _ => 0)).2 := zDJ_lines 601 _ _ (fun q => absurd rfl q) (fun _ => ⟨fun j hj => absurd hj (by show ¬ (j : Int) < (0 : Int32).toInt; have : (0 : Int32).toInt = 0 := rfl; omega), by decide⟩)
  have e4 : ∀ (a : pS) (f : Nat → Int32), pF4 n 1 a f = a := fun a f => by
    unfold pF4
    rw [if_neg (fun z => absurd z.1 (by decide))]
  have e5 : ∀ (a : pS) (f : Nat → Int32), pF5 n 1 a f = a := fun a f => by
    unfold pF5
    rw [if_neg (fun z => absurd z.1 (by decide))]
  have h : (pF5 n 1 (pF4 n 1 (pLines k 1 601 (0, 0, 0, -1, -1) (fun _ => 0)).1 (pLines k 1 601 (0, 0, 0, -1, -1) (fun _ => 0)).2) (pLines k 1 601 (0, 0, 0, -1, -1) (fun _ => 0)).2).2.2.1.toInt = 0 := h
  rw [e4, e5] at h
  exact ⟨(hJ h).1, (hJ h).2.2⟩
/-- so of each day that is kept -/
def zVD (f : Nat → Int32) : Prop := ∀ i k, i < 4 → k < 2 → zDR (fun j => f (988 * i + (712 + 121 * k + j))) ∧ (f (988 * i + (712 + 121 * k))).toInt ≤ 40
theorem zVD_c {f g : Nat → Int32} {a b : Nat} (e : ∀ j, j < 121 → g (b + j) = f (a + j)) (h : zDR (fun j => f (a + j)) ∧ (f a).toInt ≤ 40) : zDR (fun j => g (b + j)) ∧ (g b).toInt ≤ 40 := by
  have e0 := e 0 (by decide)
  refine ⟨zDR_cg (R := fun j => f (a + j)) e h.2 h.1, ?_⟩
  have e0 : g b = f a := e0
  rw [e0]
  exact h.2
theorem zVD_low {f g : Nat → Int32} (hV : zVD f) (e : ∀ j, 610 ≤ j → g j = f j) : zVD g := fun i q hi hq => by
  have h := hV i q hi hq
  have a : ∀ (G : Nat → Int32), (zDR (fun j => G (988 * i + (712 + 121 * q + j))) ∧ (G (988 * i + (712 + 121 * q))).toInt ≤ 40) = (zDR (fun j => G (988 * i + (712 + 121 * q) + j)) ∧ (G (988 * i + (712 + 121 * q))).toInt ≤ 40) := fun G => by
    rw [show (fun j => G (988 * i + (712 + 121 * q + j))) = (fun j => G (988 * i + (712 + 121 * q) + j)) from funext fun j => congrArg G (by omega)]
  rw [a] at h ⊢
  exact zVD_c (fun j _ => e _ (by omega)) h
theorem zVD_a {f : Nat → Int32} (b q : Nat) : (zDR (fun j => f (b + (712 + 121 * q + j))) ∧ (f (b + (712 + 121 * q))).toInt ≤ 40) = (zDR (fun j => f (b + (712 + 121 * q) + j)) ∧ (f (b + (712 + 121 * q))).toInt ≤ 40) := by
  rw [show (fun j => f (b + (712 + 121 * q + j))) = (fun j => f (b + (712 + 121 * q) + j)) from funext fun j => congrArg f (by omega)]
theorem zVD_to {f g : Nat → Int32} {a b q : Nat} (e : ∀ j, j < 121 → g (b + (712 + 121 * q) + j) = f (a + (712 + 121 * q) + j)) (h : zDR (fun j => f (a + (712 + 121 * q + j))) ∧ (f (a + (712 + 121 * q))).toInt ≤ 40) : zDR (fun j => g (b + (712 + 121 * q + j))) ∧ (g (b + (712 + 121 * q))).toInt ≤ 40 := by
  rw [zVD_a] at h ⊢
  exact zVD_c e h
theorem pNr_lt {s : Nat} {at_ : Int32} {f : Nat → Int32} (h : pOkAt s at_ f) (h2 : (f s).toInt ≤ 2) : (pNr s at_ f).toInt.toNat < 2 := by
  unfold pOkAt at h
  unfold pNr
  by_cases q : at_.toInt = -1
  · rw [if_pos q] at h ⊢
    omega
  · rw [if_neg q] at h ⊢
    omega
theorem zVD_text {k : pT} {n s : Nat} {at_ r : Int32} {f g : Nat → Int32} (hV : zVD f) (hs : s < 3) (h2 : ∀ q, q < 3 → (f q).toInt ≤ 2) (F2 : zText (pRead k n s) s at_ f g r) (T2 : ∀ j, 988 ≤ j → g j = f j) : zVD g := by
  have ho : ∀ (a b : Int32) (j : Nat), 7 ≤ j → pHd f a b j = f j := fun a b j hj => by
    unfold pHd
    rw [z_ne (by omega), z_ne (by omega), z_ne (by omega)]
  rcases F2 with ⟨-, -, z⟩ | ⟨-, -, -, z⟩ | ⟨w, y, -, z⟩
  · refine zVD_low hV (fun j hj => ?_)
    by_cases q : j < 988
    · rw [z j q, ho _ _ _ (by omega)]
    · exact T2 j (by omega)
  · refine zVD_low hV (fun j hj => ?_)
    by_cases q : j < 988
    · rw [z j q, ho _ _ _ (by omega)]
    · exact T2 j (by omega)
  · have hc2 : ∀ (G : Nat → Int32) (j : Nat), 7 ≤ j → pCnt s at_ G j = G j := fun G j hj => by
      unfold pCnt
      split
      · exact z_ne (by omega)
      · rfl
    intro i q hi hq
    by_cases e : i = 0
    · by_cases hs0 : s = 1 ∧ (pNr 1 at_ f).toInt.toNat = q
      · obtain ⟨hs0, hn⟩ := hs0
        subst hs0
        have t := pRead_D y
        have hg : ∀ j, j < 121 → g (988 * i + (712 + 121 * q) + j) = (pRead k n 1).2 j := fun j hj => by
          rw [z _ (by omega), hn]
          unfold pPut
          have hp : pBase 1 q = 712 + 121 * q := rfl
          have hz : pSize 1 = 121 := rfl
          rw [hp, hz, if_pos (by omega)]
          exact congrArg _ (by omega)
        rw [zVD_a]
        refine ⟨zDR_cg hg t.2 t.1, ?_⟩
        have h0 : g (988 * i + (712 + 121 * q)) = (pRead k n 1).2 0 := hg 0 (by decide)
        rw [h0]
        exact t.2
      · refine zVD_to (fun j hj => ?_) (hV i q hi hq)
        rw [z _ (by omega)]
        have hx : ¬ (pBase s (pNr s at_ f).toInt.toNat ≤ 988 * i + (712 + 121 * q) + j ∧ 988 * i + (712 + 121 * q) + j < pBase s (pNr s at_ f).toInt.toNat + pSize s) := by
          rcases (show s = 0 ∨ s = 1 ∨ s = 2 by omega) with t | t | t
          · subst t
            have hp : pBase 0 (pNr 0 at_ f).toInt.toNat = 610 + 51 * (pNr 0 at_ f).toInt.toNat := rfl
            have hz : pSize 0 = 51 := rfl
            have hb := pNr_lt w (h2 0 (by decide))
            rw [hp, hz]
            omega
          · subst t
            have hp : pBase 1 (pNr 1 at_ f).toInt.toNat = 712 + 121 * (pNr 1 at_ f).toInt.toNat := rfl
            have hz : pSize 1 = 121 := rfl
            rw [hp, hz]
            have hn : ¬ (pNr 1 at_ f).toInt.toNat = q := fun w => hs0 ⟨rfl, w⟩
            omega
          · subst t
            have hp : pBase 2 (pNr 2 at_ f).toInt.toNat = 954 + 17 * (pNr 2 at_ f).toInt.toNat := rfl
            rw [hp]
            omega
        unfold pPut
        rw [if_neg hx, hc2 _ _ (by omega), ho _ _ _ (by omega)]
    · exact zVD_to (fun j _ => T2 _ (by omega)) (hV i q hi hq)
theorem zVD_feed {p : Nat} {a b c d e r : Int32} {f g : Nat → Int32} (hV : zVD f) (hp6 : p ≤ 600) (F2 : 580 < p ∧ r = -1 ∧ g = f ∨ p ≤ 580 ∧ r = nI (p + 20) ∧ zFeedR p a b c d e f g) : zVD g := by
  rcases F2 with ⟨-, -, y⟩ | ⟨hp5, -, y⟩
  · rw [y]; exact hV
  · obtain ⟨-, -, z3⟩ := y
    exact zVD_low hV (fun j hj => z3 j (by omega) (by omega))
theorem zVD_end {n r : Int32} {f g : Nat → Int32} (hV : zVD f) (F2 : (n.toInt < 0 ∨ (f 4).toInt < n.toInt) ∧ r.toInt = -1 ∧ g = f ∨ (0 ≤ n.toInt ∧ n.toInt ≤ (f 4).toInt) ∧ g = upd f 4 n ∧ r = n) : zVD g := by
  rcases F2 with ⟨-, -, y⟩ | ⟨-, y, -⟩
  · rw [y]; exact hV
  · rw [y]; exact zVD_low hV (fun j hj => z_ne (by omega))
theorem zVD_hd {f g : Nat → Int32} (hV : zVD f) (hg : g = upd (upd (upd f 4 0) 5 0) 6 (-1)) : zVD g := by
  rw [hg]
  exact zVD_low hV (fun j hj => by rw [z_ne (by omega), z_ne (by omega), z_ne (by omega)])
theorem zVD_img {f g : Nat → Int32} {k : Nat} (hk : k < 3) (hV : zVD f) (c1 : ∀ j, j < 988 → g (988 * (k + 1) + j) = f j) (c2 : ∀ j, (j < 988 * (k + 1) ∨ 988 * (k + 1) + 988 ≤ j) → g j = f j) : zVD g := by
  intro i q hi hq
  by_cases e : i = k + 1
  · subst e
    refine zVD_to (a := 988 * 0) (fun j hj => ?_) (hV 0 q (by decide) hq)
    rw [show 988 * (k + 1) + (712 + 121 * q) + j = 988 * (k + 1) + (712 + 121 * q + j) by omega, c1 _ (by omega)]
    exact congrArg f (by omega)
  · have : i < k + 1 ∨ k + 1 < i := by omega
    exact zVD_to (fun j _ => c2 _ (by omega)) (hV i q hi hq)
theorem zVD_ag {K : Nat} {x r' : Int32} {fh f g : Nat → Int32} (hV : zVD f) (hx : x.toInt = (K : Int)) (hK : K < 3) (F2 : r' = 0 ∧ (x.toInt < 0 ∨ 3 ≤ x.toInt ∨ fh x.toNatClampNeg = 0) ∧ g = f ∨ r' = 1 ∧ (0 ≤ x.toInt ∧ x.toInt < 3) ∧ ¬ fh x.toNatClampNeg = 0 ∧ (∀ j, j < 988 → g j = f (988 * (x.toNatClampNeg + 1) + j)) ∧ ∀ j, 988 ≤ j → g j = f j) : zVD g := by
  have e : x.toNatClampNeg = K := by have := z_clI (x := x) (by omega); omega
  rw [e] at F2
  rcases F2 with ⟨-, -, z⟩ | ⟨-, -, -, z, z2⟩
  · rw [z]; exact hV
  · intro i q hi hq
    by_cases e : i = 0
    · refine zVD_to (a := 988 * (K + 1)) (fun j hj => ?_) (hV (K + 1) q (by omega) hq)
      rw [z _ (by omega)]
      exact congrArg f (by omega)
    · exact zVD_to (fun j _ => z2 _ (by omega)) (hV i q hi hq)
theorem zVD_st : zVD (upd (fun _ => 0) 6 (-1)) := fun i q _ _ => by
  have o : ∀ j, ¬ j = 6 → upd (fun _ => (0 : Int32)) 6 (-1) j = 0 := fun j h => if_neg h
  have z0 : (0 : Int32).toInt = 0 := rfl
  refine ⟨fun j hj => ?_, by rw [o _ (by omega), z0]; decide⟩
  have hj : (j : Int) < (upd (fun _ => (0 : Int32)) 6 (-1) (988 * i + (712 + 121 * q + 0))).toInt := hj
  rw [o _ (by omega), z0] at hj
  omega
theorem zWo_i {f : Nat → Int32} {z n c : Int32} (h : zBit n c = 1) (h0 : 0 ≤ c.toInt) (h6 : c.toInt ≤ 6) : zWo f z n c.toInt.toNat = 0 := by
  have e : c = nI c.toInt.toNat := z_nI (by omega) (by omega)
  exact if_pos (by rw [← e]; exact h)
theorem zWo_o {f : Nat → Int32} {z n c : Int32} (h : ¬ zBit n c = 1) (h0 : 0 ≤ c.toInt) (h6 : c.toInt ≤ 6) : zWo f z n c.toInt.toNat = zRd f z c := by
  have e : c = nI c.toInt.toNat := z_nI (by omega) (by omega)
  exact if_neg (by rw [← e]; exact h)
section ZL2
variable {p : Program} {l : Launch} {e : Env} {R : Room} {s : State} {m : MethodId} {args : Array Value} {below : List Frame} {meth : Method} {c : Code} {Q : State → Prop}
variable {nL : Nat} {T : zTy} {A : Nat → Prop} {H0 : Heap}
theorem z_loopR {α : Type} (pc : Nat) (Wd : α → List va_W) (Lv : α → List (Nat × Value)) (Cl Sl : α → Nat) (Inv : α → Prop) (mu : α → Nat)
    (step : ∀ a : α, Inv a → (∀ b : α, Inv b → mu b < mu a → ∀ (H : Heap) (locs : List Loc) (ls : Array Slot), zS T A H0 s (Wd b) H locs → lv_has ls nL (Lv b) → W p l e R s m args below meth c H locs (Cl b) (Sl b) Q (F0 m pc ls [])) → ∀ (H : Heap) (locs : List Loc) (ls : Array Slot), zS T A H0 s (Wd a) H locs → lv_has ls nL (Lv a) → W p l e R s m args below meth c H locs (Cl a) (Sl a) Q (F0 m pc ls []))
    (a : α) (ha : Inv a) {H : Heap} {locs : List Loc} {ls : Array Slot} (G : zS T A H0 s (Wd a) H locs) (hl : lv_has ls nL (Lv a)) : W p l e R s m args below meth c H locs (Cl a) (Sl a) Q (F0 m pc ls []) := by
  have key : ∀ (n : Nat) (a : α), mu a < n → Inv a → ∀ (H : Heap) (locs : List Loc) (ls : Array Slot), zS T A H0 s (Wd a) H locs → lv_has ls nL (Lv a) → W p l e R s m args below meth c H locs (Cl a) (Sl a) Q (F0 m pc ls []) := by
    intro n
    induction n with
    | zero => intro a h; exact absurd h (Nat.not_lt_zero _)
    | succ n ih => intro a h ha; exact step a ha (fun b hb hlt => ih b (by omega) hb)
  exact key (mu a + 1) a (Nat.lt_succ_self _) ha H locs ls G hl
end ZL2
def zAI (f : Nat → Int32) : Prop := ∀ i, i < 4 → zBI (fun j => f (988 * i + j))
abbrev zHs (fm fh : Nat → Int32) : Prop := ∀ k, k < 3 → (fm k = 0 ↔ fh k = 0)
abbrev zIn6 (x : Int32) : Prop := 0 ≤ x.toInt ∧ x.toInt ≤ 600
theorem zBI_cg {f g : Nat → Int32} (e : ∀ j, j < 988 → g j = f j) (h : zBI f) : zBI g :=
  ⟨by rw [e 4 (by decide)]; exact h.1, fun q hq => by rw [e q (by omega)]; exact h.2.1 q hq, fun k hk => zLF_cg (fun j hj => e _ (by omega)) (h.2.2.1 k hk), fun k hk => zCF_cg (e _ (by omega)) (h.2.2.2.1 k hk), fun k hk => zCF_cg (e _ (by omega)) (h.2.2.2.2 k hk)⟩
theorem zAI_0 {f : Nat → Int32} (h : zAI f) : zBI f := zBI_cg (fun j _ => (congrArg f (by omega)).symm) (h 0 (by decide))
theorem zAI_low {f g : Nat → Int32} (h : zAI f) (h0 : zBI g) (ho : ∀ j, 988 ≤ j → g j = f j) : zAI g := by
  intro i hi
  by_cases e : i = 0
  · subst e
    exact zBI_cg (fun j _ => congrArg g (by omega)) h0
  · exact zBI_cg (fun j _ => ho _ (by omega)) (h i hi)
theorem zBI_fd {f g : Nat → Int32} (h : zBI f) (h4 : zIn6 (g 4)) (ho : ∀ j, (j < 10 ∨ 610 ≤ j) → j ≠ 4 → g j = f j) : zBI g :=
  ⟨h4, fun q hq => by rw [ho q (by omega) (by omega)]; exact h.2.1 q hq, fun k hk => zLF_cg (fun j hj => ho _ (by omega) (by omega)) (h.2.2.1 k hk), fun k hk => zCF_cg (ho _ (by omega) (by omega)) (h.2.2.2.1 k hk), fun k hk => zCF_cg (ho _ (by omega) (by omega)) (h.2.2.2.2 k hk)⟩
theorem zHs_upd {fm fh : Nat → Int32} (h : zHs fm fh) (k : Nat) : zHs (upd fm k 1) (upd fh k 1) := by
  intro j hj
  unfold upd
  split
  · exact Iff.rfl
  · exact h j hj
theorem zNA_mono {c : Prop} [Decidable c] {md : Int32} {n : Nat} {cr inn : Int32} {k1 : Nat → Int32} (h : zPw n) : n ≤ zNA c md n (zPl cr inn k1) := by
  unfold zNA zMk zNl
  split
  · split
    · split
      · exact Nat.le_refl _
      · have := zNl_room (pl := zPl cr inn k1) h (zPl_le cr inn k1) (by first | with_reducible assumption | assumption)
        omega
    · exact Nat.le_refl _
  · exact Nat.le_refl _
theorem zFnN_up {wy : Int32} {n : Nat} (hn : n ≤ 16384) (hw : (n : Int) < wy.toInt) : ∀ (f k : Nat), k ≤ 10 → 11 ≤ f + k → n ≤ zFnN wy f (16 * 2 ^ k)
  | 0, k, h, h2 => by omega
  | f + 1, k, h, h2 => by
    rw [zFnN]
    split
    · rename_i q
      have hk : k < 10 := by
        rcases Nat.lt_or_ge k 10 with z | z
        · exact z
        · have e : k = 10 := by omega
          subst e
          exact absurd q.2 (by decide)
      rw [show 2 * (16 * 2 ^ k) = 16 * 2 ^ (k + 1) by rw [Nat.pow_succ]; omega]
      exact zFnN_up hn hw f (k + 1) (by omega) (by omega)
    · rename_i q
      rcases Nat.lt_or_ge 16383 (16 * 2 ^ k) with z | z
      · omega
      · have : ¬ ((16 * 2 ^ k : Nat) : Int) < wy.toInt := fun y => q ⟨y, z⟩
        omega
theorem zNF_mono {c : Prop} [Decidable c] {n : Nat} {wy : Int32} (h : zFw n) : n ≤ zNF c n wy := by
  unfold zNF zFl
  split
  · split
    · exact Nat.le_refl _
    · have e : (16 * 2 ^ 0 : Nat) = 16 := by decide
      have := zFnN_up (wy := wy) (zFw_le h) (by omega) 11 0 (by decide) (by decide)
      rw [e] at this
      exact this
  · exact Nat.le_refl _
theorem zNF_fw {c : Prop} [Decidable c] {n : Nat} {wy : Int32} (h : zFw n) : zFw (zNF c n wy) := by
  unfold zNF
  split
  · exact zFl_pw h
  · exact h
/-! THE LAW'S STEPS, with all that is told kept equal -/
theorem zTR_by {ln : Int32} {fl : Int32} {pl : Int32} {ft : Nat → Int32} {fk : Nat → Int32} {cr_L0 : Int32} {inn_L0 : Int32} {k1_L0 : Nat → Int32} {k2_L0 : Nat → Int32} {k3_L0 : Nat → Int32} {k4_L0 : Nat → Int32} {cr_L1 : Int32} {inn_L1 : Int32} {k1_L1 : Nat → Int32} {k2_L1 : Nat → Int32} {k3_L1 : Nat → Int32} {k4_L1 : Nat → Int32} {dd_D0 : Int32} {p1_D0 : Nat → Int32} {p2_D0 : Nat → Int32} {p3_D0 : Nat → Int32} {dd_D1 : Int32} {p1_D1 : Nat → Int32} {p2_D1 : Nat → Int32} {p3_D1 : Nat → Int32} {gg_G0 : Int32} {q1_G0 : Nat → Int32} {q2_G0 : Nat → Int32} {gg_G1 : Int32} {q1_G1 : Nat → Int32} {q2_G1 : Nat → Int32} {G : Nat → Int32} (h : zTR ln fl pl ft fk cr_L0 inn_L0 k1_L0 k2_L0 k3_L0 k4_L0 cr_L1 inn_L1 k1_L1 k2_L1 k3_L1 k4_L1 dd_D0 p1_D0 p2_D0 p3_D0 dd_D1 p1_D1 p2_D1 p3_D1 gg_G0 q1_G0 q2_G0 gg_G1 q1_G1 q2_G1 G) : ∀ j, j < 600 → 0 ≤ (G (10 + j)).toInt := by
  intro j hj
  rcases (h.1.2.2.2.2 j hj).1 with ⟨e, a⟩ | ⟨-, a⟩
  · rw [e]; exact a
  · omega
theorem zTR_tk {ln : Int32} {fl : Int32} {pl : Int32} {ft : Nat → Int32} {fk : Nat → Int32} {cr_L0 : Int32} {inn_L0 : Int32} {k1_L0 : Nat → Int32} {k2_L0 : Nat → Int32} {k3_L0 : Nat → Int32} {k4_L0 : Nat → Int32} {cr_L1 : Int32} {inn_L1 : Int32} {k1_L1 : Nat → Int32} {k2_L1 : Nat → Int32} {k3_L1 : Nat → Int32} {k4_L1 : Nat → Int32} {dd_D0 : Int32} {p1_D0 : Nat → Int32} {p2_D0 : Nat → Int32} {p3_D0 : Nat → Int32} {dd_D1 : Int32} {p1_D1 : Nat → Int32} {p2_D1 : Nat → Int32} {p3_D1 : Nat → Int32} {gg_G0 : Int32} {q1_G0 : Nat → Int32} {q2_G0 : Nat → Int32} {gg_G1 : Int32} {q1_G1 : Nat → Int32} {q2_G1 : Nat → Int32} {G : Nat → Int32} (h : zTR ln fl pl ft fk cr_L0 inn_L0 k1_L0 k2_L0 k3_L0 k4_L0 cr_L1 inn_L1 k1_L1 k2_L1 k3_L1 k4_L1 dd_D0 p1_D0 p2_D0 p3_D0 dd_D1 p1_D1 p2_D1 p3_D1 gg_G0 q1_G0 q2_G0 gg_G1 q1_G1 q2_G1 G) {n : Nat} (hn : n ≤ 600) : tkT ft n = tkT (fun j => G (10 + j)) n := tkT_cg (fun j hj => (h.1.2.2.2.2 j (by omega)).1)
theorem zAI_at {f : Nat → Int32} (h : zAI f) : zIn6 (f 4) := (zAI_0 h).1
theorem zM_feed {ln : Int32} {fl : Int32} {pl : Int32} {ft : Nat → Int32} {fk : Nat → Int32} {cr_L0 : Int32} {inn_L0 : Int32} {k1_L0 : Nat → Int32} {k2_L0 : Nat → Int32} {k3_L0 : Nat → Int32} {k4_L0 : Nat → Int32} {cr_L1 : Int32} {inn_L1 : Int32} {k1_L1 : Nat → Int32} {k2_L1 : Nat → Int32} {k3_L1 : Nat → Int32} {k4_L1 : Nat → Int32} {dd_D0 : Int32} {p1_D0 : Nat → Int32} {p2_D0 : Nat → Int32} {p3_D0 : Nat → Int32} {dd_D1 : Int32} {p1_D1 : Nat → Int32} {p2_D1 : Nat → Int32} {p3_D1 : Nat → Int32} {gg_G0 : Int32} {q1_G0 : Nat → Int32} {q2_G0 : Nat → Int32} {gg_G1 : Int32} {q1_G1 : Nat → Int32} {q2_G1 : Nat → Int32} {p : Nat} {a b c d e u r r' : Int32} {g g' f : Nat → Int32} (hT : zTR ln fl pl ft fk cr_L0 inn_L0 k1_L0 k2_L0 k3_L0 k4_L0 cr_L1 inn_L1 k1_L1 k2_L1 k3_L1 k4_L1 dd_D0 p1_D0 p2_D0 p3_D0 dd_D1 p1_D1 p2_D1 p3_D1 gg_G0 q1_G0 q2_G0 gg_G1 q1_G1 q2_G1 f) (hA : zAI f) (hp : ln = nI p) (hp6 : p ≤ 600) (F1 : 580 < p ∧ r = -1 ∧ u = nI p ∧ g' = ft ∨ p ≤ 580 ∧ r = nI (p + 20) ∧ u = nI (p + 20) ∧ g' = zFeedC p a b c d e ft) (F2 : 580 < p ∧ r' = -1 ∧ g = f ∨ p ≤ 580 ∧ r' = nI (p + 20) ∧ zFeedR p a b c d e f g) : r = r' ∧ zAI g ∧ zTR u fl pl g' fk cr_L0 inn_L0 k1_L0 k2_L0 k3_L0 k4_L0 cr_L1 inn_L1 k1_L1 k2_L1 k3_L1 k4_L1 dd_D0 p1_D0 p2_D0 p3_D0 dd_D1 p1_D1 p2_D1 p3_D1 gg_G0 q1_G0 q2_G0 gg_G1 q1_G1 q2_G1 g ∧ ∀ j, 988 ≤ j → g j = f j := by
  rcases F1 with ⟨x1, x2, x3, x4⟩ | ⟨x1, x2, x3, x4⟩ <;> rcases F2 with ⟨y1, y2, y3⟩ | ⟨y1, y2, y3⟩
  · subst x4
    subst y3
    exact ⟨x2.trans y2.symm, hA, by rw [x3, ← hp]; exact hT, fun _ _ => rfl⟩
  · omega
  · omega
  · obtain ⟨z1, z2, z3⟩ := y3
    obtain ⟨⟨a1, a2, a3, a4, a5⟩, h1, h2, h3, h4, h5, h6⟩ := hT
    have ho : ∀ j, (j < 10 ∨ 610 ≤ j) → ¬ j = 4 → g j = f j := fun j q1 q2 => z3 j (by omega) q2
    have e4 : (nI (p + 20)).toInt = ((p + 20 : Nat) : Int) := nI_toInt (by omega)
    refine ⟨x2.trans y2.symm, zAI_low hA (zBI_fd (zAI_0 hA) (by rw [z1]; exact ⟨by omega, by omega⟩) ho) (fun j hj => ho j (by omega) (by omega)), ⟨⟨x3.trans z1.symm, a2.trans (ho _ (by omega) (by omega)).symm, a3.trans (ho _ (by omega) (by omega)).symm, fun j hj => (a4 j hj).trans (ho _ (by omega) (by omega)).symm, fun j hj => ?_⟩, zLnd_cg h1 (fun j hj => ho _ (by omega) (by omega)), zLnd_cg h2 (fun j hj => ho _ (by omega) (by omega)), zDyd_cg h3 (fun j hj => ho _ (by omega) (by omega)), zDyd_cg h4 (fun j hj => ho _ (by omega) (by omega)), zLgd_cg h5 (fun j hj => ho _ (by omega) (by omega)), zLgd_cg h6 (fun j hj => ho _ (by omega) (by omega))⟩, fun j hj => ho j (by omega) (by omega)⟩
    rw [x4]
    by_cases q : p ≤ j ∧ j < p + 20
    · have e1 := zFeed_be (p := p) (i := j - p) (a := a) (b := b) (c := c) (d := d) (e := e) (f := ft) (by omega)
      have e2 := z2 (j - p) (by omega)
      rw [show p + (j - p) = j by omega] at e1 e2
      rw [e1, e2]
      exact ⟨zBe_b _, by rw [Int8.toInt8_toInt32]⟩
    · rw [zFeedC_o (by omega), z3 _ (by omega) (by omega)]
      exact a5 j hj
theorem zM_end {ln : Int32} {fl : Int32} {pl : Int32} {ft : Nat → Int32} {fk : Nat → Int32} {cr_L0 : Int32} {inn_L0 : Int32} {k1_L0 : Nat → Int32} {k2_L0 : Nat → Int32} {k3_L0 : Nat → Int32} {k4_L0 : Nat → Int32} {cr_L1 : Int32} {inn_L1 : Int32} {k1_L1 : Nat → Int32} {k2_L1 : Nat → Int32} {k3_L1 : Nat → Int32} {k4_L1 : Nat → Int32} {dd_D0 : Int32} {p1_D0 : Nat → Int32} {p2_D0 : Nat → Int32} {p3_D0 : Nat → Int32} {dd_D1 : Int32} {p1_D1 : Nat → Int32} {p2_D1 : Nat → Int32} {p3_D1 : Nat → Int32} {gg_G0 : Int32} {q1_G0 : Nat → Int32} {q2_G0 : Nat → Int32} {gg_G1 : Int32} {q1_G1 : Nat → Int32} {q2_G1 : Nat → Int32} {u n r r' : Int32} {g f : Nat → Int32} (hT : zTR ln fl pl ft fk cr_L0 inn_L0 k1_L0 k2_L0 k3_L0 k4_L0 cr_L1 inn_L1 k1_L1 k2_L1 k3_L1 k4_L1 dd_D0 p1_D0 p2_D0 p3_D0 dd_D1 p1_D1 p2_D1 p3_D1 gg_G0 q1_G0 q2_G0 gg_G1 q1_G1 q2_G1 f) (hA : zAI f) (F1 : (n.toInt < 0 ∨ ln.toInt < n.toInt) ∧ r.toInt = -1 ∧ u = ln ∨ (0 ≤ n.toInt ∧ n.toInt ≤ ln.toInt) ∧ u = n ∧ r = n) (F2 : (n.toInt < 0 ∨ (f 4).toInt < n.toInt) ∧ r'.toInt = -1 ∧ g = f ∨ (0 ≤ n.toInt ∧ n.toInt ≤ (f 4).toInt) ∧ g = upd f 4 n ∧ r' = n) : r = r' ∧ zAI g ∧ zTR u fl pl ft fk cr_L0 inn_L0 k1_L0 k2_L0 k3_L0 k4_L0 cr_L1 inn_L1 k1_L1 k2_L1 k3_L1 k4_L1 dd_D0 p1_D0 p2_D0 p3_D0 dd_D1 p1_D1 p2_D1 p3_D1 gg_G0 q1_G0 q2_G0 gg_G1 q1_G1 q2_G1 g ∧ ∀ j, 988 ≤ j → g j = f j := by
  have b := zAI_at hA
  have e4 : ln = f 4 := hT.1.1
  have e4i : ln.toInt = (f 4).toInt := by rw [e4]
  rcases F1 with ⟨x1, x2, x3⟩ | ⟨x1, x2, x3⟩ <;> rcases F2 with ⟨y1, y2, y3⟩ | ⟨y1, y2, y3⟩
  · subst y3
    exact ⟨Int32.toInt_inj.mp (by omega), hA, by rw [x3]; exact hT, fun _ _ => rfl⟩
  · omega
  · omega
  · obtain ⟨⟨a1, a2, a3, a4, a5⟩, h1, h2, h3, h4, h5, h6⟩ := hT
    have ho : ∀ j, ¬ j = 4 → g j = f j := fun j q => by rw [y2]; exact z_ne q
    have k4 : g 4 = n := by rw [y2]; exact z_eq rfl
    exact ⟨x3.trans y3.symm, zAI_low hA (zBI_fd (zAI_0 hA) (by rw [k4]; exact ⟨by omega, by omega⟩) (fun j _ q => ho j q)) (fun j hj => ho j (by omega)), ⟨⟨x2.trans k4.symm, a2.trans (ho _ (by omega)).symm, a3.trans (ho _ (by omega)).symm, fun j hj => (a4 j hj).trans (ho _ (by omega)).symm, fun j hj => by rw [ho _ (by omega)]; exact a5 j hj⟩, zLnd_cg h1 (fun j hj => ho _ (by omega)), zLnd_cg h2 (fun j hj => ho _ (by omega)), zDyd_cg h3 (fun j hj => ho _ (by omega)), zDyd_cg h4 (fun j hj => ho _ (by omega)), zLgd_cg h5 (fun j hj => ho _ (by omega)), zLgd_cg h6 (fun j hj => ho _ (by omega))⟩, fun j hj => ho j (by omega)⟩
theorem zText_u {z : pS × (Nat → Int32)} {s : Nat} {at_ r r' : Int32} {f G G' : Nat → Int32} (h : zText z s at_ f G r) (h' : zText z s at_ f G' r') : r = r' ∧ ∀ j, j < 988 → G' j = G j := by
  rcases h with ⟨a1, a2, a3⟩ | ⟨a1, a0, a2, a3⟩ | ⟨a1, a0, a2, a3⟩ <;> rcases h' with ⟨b1, b2, b3⟩ | ⟨b1, b0, b2, b3⟩ | ⟨b1, b0, b2, b3⟩
  · exact ⟨a2.trans b2.symm, fun j hj => (b3 j hj).trans (a3 j hj).symm⟩
  · exact absurd b1 a1
  · exact absurd b1 a1
  · exact absurd a1 b1
  · exact ⟨a2.trans b2.symm, fun j hj => (b3 j hj).trans (a3 j hj).symm⟩
  · exact absurd b0 a0
  · exact absurd a1 b1
  · exact absurd a0 b0
  · exact ⟨a2.trans b2.symm, fun j hj => (b3 j hj).trans (a3 j hj).symm⟩
theorem zM_text {ln : Int32} {fl : Int32} {pl : Int32} {ft : Nat → Int32} {fk : Nat → Int32} {cr_L0 : Int32} {inn_L0 : Int32} {k1_L0 : Nat → Int32} {k2_L0 : Nat → Int32} {k3_L0 : Nat → Int32} {k4_L0 : Nat → Int32} {cr_L1 : Int32} {inn_L1 : Int32} {k1_L1 : Nat → Int32} {k2_L1 : Nat → Int32} {k3_L1 : Nat → Int32} {k4_L1 : Nat → Int32} {dd_D0 : Int32} {p1_D0 : Nat → Int32} {p2_D0 : Nat → Int32} {p3_D0 : Nat → Int32} {dd_D1 : Int32} {p1_D1 : Nat → Int32} {p2_D1 : Nat → Int32} {p3_D1 : Nat → Int32} {gg_G0 : Int32} {q1_G0 : Nat → Int32} {q2_G0 : Nat → Int32} {gg_G1 : Int32} {q1_G1 : Nat → Int32} {q2_G1 : Nat → Int32} {z : pS × (Nat → Int32)} {s : Nat} {at_ r r' : Int32} {g f : Nat → Int32} (hA : zAI f) (F1 : ∃ G2, zText z s at_ f G2 r ∧ zTR ln fl pl ft fk cr_L0 inn_L0 k1_L0 k2_L0 k3_L0 k4_L0 cr_L1 inn_L1 k1_L1 k2_L1 k3_L1 k4_L1 dd_D0 p1_D0 p2_D0 p3_D0 dd_D1 p1_D1 p2_D1 p3_D1 gg_G0 q1_G0 q2_G0 gg_G1 q1_G1 q2_G1 G2) (F2 : zText z s at_ f g r') (T0 : zBI g) (T2 : ∀ j, 988 ≤ j → g j = f j) : r = r' ∧ zAI g ∧ zTR ln fl pl ft fk cr_L0 inn_L0 k1_L0 k2_L0 k3_L0 k4_L0 cr_L1 inn_L1 k1_L1 k2_L1 k3_L1 k4_L1 dd_D0 p1_D0 p2_D0 p3_D0 dd_D1 p1_D1 p2_D1 p3_D1 gg_G0 q1_G0 q2_G0 gg_G1 q1_G1 q2_G1 g ∧ ∀ j, 988 ≤ j → g j = f j := by
  obtain ⟨G2, x1, x2⟩ := F1
  have q := zText_u x1 F2
  exact ⟨q.1, zAI_low hA T0 T2, zTR_cg x2 q.2, T2⟩
theorem zM_textN {ln : Int32} {fl : Int32} {pl : Int32} {ft : Nat → Int32} {fk : Nat → Int32} {cr_L0 : Int32} {inn_L0 : Int32} {k1_L0 : Nat → Int32} {k2_L0 : Nat → Int32} {k3_L0 : Nat → Int32} {k4_L0 : Nat → Int32} {cr_L1 : Int32} {inn_L1 : Int32} {k1_L1 : Nat → Int32} {k2_L1 : Nat → Int32} {k3_L1 : Nat → Int32} {k4_L1 : Nat → Int32} {dd_D0 : Int32} {p1_D0 : Nat → Int32} {p2_D0 : Nat → Int32} {p3_D0 : Nat → Int32} {dd_D1 : Int32} {p1_D1 : Nat → Int32} {p2_D1 : Nat → Int32} {p3_D1 : Nat → Int32} {gg_G0 : Int32} {q1_G0 : Nat → Int32} {q2_G0 : Nat → Int32} {gg_G1 : Int32} {q1_G1 : Nat → Int32} {q2_G1 : Nat → Int32} {g f : Nat → Int32} (hT : zTR ln fl pl ft fk cr_L0 inn_L0 k1_L0 k2_L0 k3_L0 k4_L0 cr_L1 inn_L1 k1_L1 k2_L1 k3_L1 k4_L1 dd_D0 p1_D0 p2_D0 p3_D0 dd_D1 p1_D1 p2_D1 p3_D1 gg_G0 q1_G0 q2_G0 gg_G1 q1_G1 q2_G1 f) (hA : zAI f) (hg : g = upd (upd (upd f 4 0) 5 0) 6 (-1)) : zAI g ∧ zTR 0 0 (-1) ft fk cr_L0 inn_L0 k1_L0 k2_L0 k3_L0 k4_L0 cr_L1 inn_L1 k1_L1 k2_L1 k3_L1 k4_L1 dd_D0 p1_D0 p2_D0 p3_D0 dd_D1 p1_D1 p2_D1 p3_D1 gg_G0 q1_G0 q2_G0 gg_G1 q1_G1 q2_G1 g ∧ ∀ j, 988 ≤ j → g j = f j := by
  have ho : ∀ j, 7 ≤ j → g j = f j := fun j q => by rw [hg, z_ne (by omega), z_ne (by omega), z_ne (by omega)]
  refine ⟨zAI_low hA (zBI_hd (zAI_0 hA) (by rw [hg]; rfl) (fun q hq => ?_) ho) (fun j hj => ho j (by omega)), by rw [hg]; exact zTR_hd hT, fun j hj => ho j (by omega)⟩
  rw [hg, z_ne (by omega), z_ne (by omega), z_ne (by omega)]
  exact (zAI_0 hA).2.1 q hq
theorem zM_keep {ln : Int32} {fl : Int32} {pl : Int32} {ft : Nat → Int32} {fk : Nat → Int32} {cr_L0 : Int32} {inn_L0 : Int32} {k1_L0 : Nat → Int32} {k2_L0 : Nat → Int32} {k3_L0 : Nat → Int32} {k4_L0 : Nat → Int32} {cr_L1 : Int32} {inn_L1 : Int32} {k1_L1 : Nat → Int32} {k2_L1 : Nat → Int32} {k3_L1 : Nat → Int32} {k4_L1 : Nat → Int32} {dd_D0 : Int32} {p1_D0 : Nat → Int32} {p2_D0 : Nat → Int32} {p3_D0 : Nat → Int32} {dd_D1 : Int32} {p1_D1 : Nat → Int32} {p2_D1 : Nat → Int32} {p3_D1 : Nat → Int32} {gg_G0 : Int32} {q1_G0 : Nat → Int32} {q2_G0 : Nat → Int32} {gg_G1 : Int32} {q1_G1 : Nat → Int32} {q2_G1 : Nat → Int32} {c : Prop} {b : Nat} {g f : Nat → Int32} (h : c → zTR ln fl pl ft fk cr_L0 inn_L0 k1_L0 k2_L0 k3_L0 k4_L0 cr_L1 inn_L1 k1_L1 k2_L1 k3_L1 k4_L1 dd_D0 p1_D0 p2_D0 p3_D0 dd_D1 p1_D1 p2_D1 p3_D1 gg_G0 q1_G0 q2_G0 gg_G1 q1_G1 q2_G1 (fun j => f (b + j))) (hb : 988 ≤ b) (T2 : ∀ j, 988 ≤ j → g j = f j) : c → zTR ln fl pl ft fk cr_L0 inn_L0 k1_L0 k2_L0 k3_L0 k4_L0 cr_L1 inn_L1 k1_L1 k2_L1 k3_L1 k4_L1 dd_D0 p1_D0 p2_D0 p3_D0 dd_D1 p1_D1 p2_D1 p3_D1 gg_G0 q1_G0 q2_G0 gg_G1 q1_G1 q2_G1 (fun j => g (b + j)) := fun z => zTR_cg (h z) (fun j _ => T2 _ (by omega))
theorem zAI_img {f g : Nat → Int32} {k : Nat} (hk : k < 3) (hA : zAI f) (c1 : ∀ j, j < 988 → g (988 * (k + 1) + j) = f j) (c2 : ∀ j, (j < 988 * (k + 1) ∨ 988 * (k + 1) + 988 ≤ j) → g j = f j) : zAI g := by
  intro i hi
  by_cases e : i = k + 1
  · subst e
    exact zBI_cg c1 (zAI_0 hA)
  · have : i < k + 1 ∨ k + 1 < i := by omega
    exact zBI_cg (fun j hj => c2 _ (by omega)) (hA i hi)
theorem zM_low {ln : Int32} {fl : Int32} {pl : Int32} {ft : Nat → Int32} {fk : Nat → Int32} {cr_L0 : Int32} {inn_L0 : Int32} {k1_L0 : Nat → Int32} {k2_L0 : Nat → Int32} {k3_L0 : Nat → Int32} {k4_L0 : Nat → Int32} {cr_L1 : Int32} {inn_L1 : Int32} {k1_L1 : Nat → Int32} {k2_L1 : Nat → Int32} {k3_L1 : Nat → Int32} {k4_L1 : Nat → Int32} {dd_D0 : Int32} {p1_D0 : Nat → Int32} {p2_D0 : Nat → Int32} {p3_D0 : Nat → Int32} {dd_D1 : Int32} {p1_D1 : Nat → Int32} {p2_D1 : Nat → Int32} {p3_D1 : Nat → Int32} {gg_G0 : Int32} {q1_G0 : Nat → Int32} {q2_G0 : Nat → Int32} {gg_G1 : Int32} {q1_G1 : Nat → Int32} {q2_G1 : Nat → Int32} {g f : Nat → Int32} (h : zTR ln fl pl ft fk cr_L0 inn_L0 k1_L0 k2_L0 k3_L0 k4_L0 cr_L1 inn_L1 k1_L1 k2_L1 k3_L1 k4_L1 dd_D0 p1_D0 p2_D0 p3_D0 dd_D1 p1_D1 p2_D1 p3_D1 gg_G0 q1_G0 q2_G0 gg_G1 q1_G1 q2_G1 f) (c : ∀ j, j < 988 → g j = f j) : zTR ln fl pl ft fk cr_L0 inn_L0 k1_L0 k2_L0 k3_L0 k4_L0 cr_L1 inn_L1 k1_L1 k2_L1 k3_L1 k4_L1 dd_D0 p1_D0 p2_D0 p3_D0 dd_D1 p1_D1 p2_D1 p3_D1 gg_G0 q1_G0 q2_G0 gg_G1 q1_G1 q2_G1 g := zTR_cg h c
theorem zM_imk {ln : Int32} {fl : Int32} {pl : Int32} {ft : Nat → Int32} {fk : Nat → Int32} {cr_L0 : Int32} {inn_L0 : Int32} {k1_L0 : Nat → Int32} {k2_L0 : Nat → Int32} {k3_L0 : Nat → Int32} {k4_L0 : Nat → Int32} {cr_L1 : Int32} {inn_L1 : Int32} {k1_L1 : Nat → Int32} {k2_L1 : Nat → Int32} {k3_L1 : Nat → Int32} {k4_L1 : Nat → Int32} {dd_D0 : Int32} {p1_D0 : Nat → Int32} {p2_D0 : Nat → Int32} {p3_D0 : Nat → Int32} {dd_D1 : Int32} {p1_D1 : Nat → Int32} {p2_D1 : Nat → Int32} {p3_D1 : Nat → Int32} {gg_G0 : Int32} {q1_G0 : Nat → Int32} {q2_G0 : Nat → Int32} {gg_G1 : Int32} {q1_G1 : Nat → Int32} {q2_G1 : Nat → Int32} {fm f g : Nat → Int32} {k b : Nat} (h : zTR ln fl pl ft fk cr_L0 inn_L0 k1_L0 k2_L0 k3_L0 k4_L0 cr_L1 inn_L1 k1_L1 k2_L1 k3_L1 k4_L1 dd_D0 p1_D0 p2_D0 p3_D0 dd_D1 p1_D1 p2_D1 p3_D1 gg_G0 q1_G0 q2_G0 gg_G1 q1_G1 q2_G1 f) (c1 : ∀ j, j < 988 → g (b + j) = f j) : ¬ upd fm k 1 k = 0 → zTR ln fl pl ft fk cr_L0 inn_L0 k1_L0 k2_L0 k3_L0 k4_L0 cr_L1 inn_L1 k1_L1 k2_L1 k3_L1 k4_L1 dd_D0 p1_D0 p2_D0 p3_D0 dd_D1 p1_D1 p2_D1 p3_D1 gg_G0 q1_G0 q2_G0 gg_G1 q1_G1 q2_G1 (fun j => g (b + j)) := fun _ => zTR_cg h c1
theorem zM_imo {ln : Int32} {fl : Int32} {pl : Int32} {ft : Nat → Int32} {fk : Nat → Int32} {cr_L0 : Int32} {inn_L0 : Int32} {k1_L0 : Nat → Int32} {k2_L0 : Nat → Int32} {k3_L0 : Nat → Int32} {k4_L0 : Nat → Int32} {cr_L1 : Int32} {inn_L1 : Int32} {k1_L1 : Nat → Int32} {k2_L1 : Nat → Int32} {k3_L1 : Nat → Int32} {k4_L1 : Nat → Int32} {dd_D0 : Int32} {p1_D0 : Nat → Int32} {p2_D0 : Nat → Int32} {p3_D0 : Nat → Int32} {dd_D1 : Int32} {p1_D1 : Nat → Int32} {p2_D1 : Nat → Int32} {p3_D1 : Nat → Int32} {gg_G0 : Int32} {q1_G0 : Nat → Int32} {q2_G0 : Nat → Int32} {gg_G1 : Int32} {q1_G1 : Nat → Int32} {q2_G1 : Nat → Int32} {fm f g : Nat → Int32} {i k b : Nat} (hik : ¬ i = k) (h : ¬ fm i = 0 → zTR ln fl pl ft fk cr_L0 inn_L0 k1_L0 k2_L0 k3_L0 k4_L0 cr_L1 inn_L1 k1_L1 k2_L1 k3_L1 k4_L1 dd_D0 p1_D0 p2_D0 p3_D0 dd_D1 p1_D1 p2_D1 p3_D1 gg_G0 q1_G0 q2_G0 gg_G1 q1_G1 q2_G1 (fun j => f (b + j))) (c2 : ∀ j, j < 988 → g (b + j) = f (b + j)) : ¬ upd fm k 1 i = 0 → zTR ln fl pl ft fk cr_L0 inn_L0 k1_L0 k2_L0 k3_L0 k4_L0 cr_L1 inn_L1 k1_L1 k2_L1 k3_L1 k4_L1 dd_D0 p1_D0 p2_D0 p3_D0 dd_D1 p1_D1 p2_D1 p3_D1 gg_G0 q1_G0 q2_G0 gg_G1 q1_G1 q2_G1 (fun j => g (b + j)) := fun z => zTR_cg (h (by rw [z_ne hik] at z; exact z)) c2
theorem zM_again {ln : Int32} {fl : Int32} {pl : Int32} {ft : Nat → Int32} {fk : Nat → Int32} {cr_L0 : Int32} {inn_L0 : Int32} {k1_L0 : Nat → Int32} {k2_L0 : Nat → Int32} {k3_L0 : Nat → Int32} {k4_L0 : Nat → Int32} {cr_L1 : Int32} {inn_L1 : Int32} {k1_L1 : Nat → Int32} {k2_L1 : Nat → Int32} {k3_L1 : Nat → Int32} {k4_L1 : Nat → Int32} {dd_D0 : Int32} {p1_D0 : Nat → Int32} {p2_D0 : Nat → Int32} {p3_D0 : Nat → Int32} {dd_D1 : Int32} {p1_D1 : Nat → Int32} {p2_D1 : Nat → Int32} {p3_D1 : Nat → Int32} {gg_G0 : Int32} {q1_G0 : Nat → Int32} {q2_G0 : Nat → Int32} {gg_G1 : Int32} {q1_G1 : Nat → Int32} {q2_G1 : Nat → Int32} {K b : Nat} {x r r' : Int32} {fm fh f g : Nat → Int32} (hA : zAI f) (hH : fm K = 0 ↔ fh K = 0) (hx : x.toInt = (K : Int)) (hK : K < 3) (hb : b = 988 * (K + 1)) (F1 : fm K = 0 ∧ r = 0 ∧ zTR ln fl pl ft fk cr_L0 inn_L0 k1_L0 k2_L0 k3_L0 k4_L0 cr_L1 inn_L1 k1_L1 k2_L1 k3_L1 k4_L1 dd_D0 p1_D0 p2_D0 p3_D0 dd_D1 p1_D1 p2_D1 p3_D1 gg_G0 q1_G0 q2_G0 gg_G1 q1_G1 q2_G1 f ∨ ¬ fm K = 0 ∧ r = 1 ∧ zTR ln fl pl ft fk cr_L0 inn_L0 k1_L0 k2_L0 k3_L0 k4_L0 cr_L1 inn_L1 k1_L1 k2_L1 k3_L1 k4_L1 dd_D0 p1_D0 p2_D0 p3_D0 dd_D1 p1_D1 p2_D1 p3_D1 gg_G0 q1_G0 q2_G0 gg_G1 q1_G1 q2_G1 (fun j => f (b + j))) (F2 : r' = 0 ∧ (x.toInt < 0 ∨ 3 ≤ x.toInt ∨ fh x.toNatClampNeg = 0) ∧ g = f ∨ r' = 1 ∧ (0 ≤ x.toInt ∧ x.toInt < 3) ∧ ¬ fh x.toNatClampNeg = 0 ∧ (∀ j, j < 988 → g j = f (988 * (x.toNatClampNeg + 1) + j)) ∧ ∀ j, 988 ≤ j → g j = f j) : r = r' ∧ zAI g ∧ zTR ln fl pl ft fk cr_L0 inn_L0 k1_L0 k2_L0 k3_L0 k4_L0 cr_L1 inn_L1 k1_L1 k2_L1 k3_L1 k4_L1 dd_D0 p1_D0 p2_D0 p3_D0 dd_D1 p1_D1 p2_D1 p3_D1 gg_G0 q1_G0 q2_G0 gg_G1 q1_G1 q2_G1 g ∧ ∀ j, 988 ≤ j → g j = f j := by
  subst hb
  have e : x.toNatClampNeg = K := by have := z_clI (x := x) (by omega); omega
  rw [e] at F2
  rcases F1 with ⟨a1, a2, a3⟩ | ⟨a1, a2, a3⟩ <;> rcases F2 with ⟨b1, b2, b3⟩ | ⟨b1, b2, b3, b4, b5⟩
  · exact ⟨a2.trans b1.symm, by rw [b3]; exact hA, by rw [b3]; exact a3, fun j _ => by rw [b3]⟩
  · exact absurd (hH.mp a1) b3
  · rcases b2 with q | q | q
    · omega
    · omega
    · exact absurd (hH.mpr q) a1
  · exact ⟨a2.trans b1.symm, zAI_low hA (zBI_cg b4 (hA (K + 1) (by omega))) b5, zTR_cg a3 b4, b5⟩
theorem zM_imr {K : Nat} {x r' : Int32} {fh gh f g : Nat → Int32} (hx : x.toInt = (K : Int)) (hK : K < 3) (F2 : r' = 0 ∧ (x.toInt < 0 ∨ 3 ≤ x.toInt) ∧ g = f ∧ gh = fh ∨ r' = 1 ∧ (0 ≤ x.toInt ∧ x.toInt < 3) ∧ (∀ j, j < 988 → g (988 * (x.toNatClampNeg + 1) + j) = f j) ∧ (∀ j, (j < 988 * (x.toNatClampNeg + 1) ∨ 988 * (x.toNatClampNeg + 1) + 988 ≤ j) → g j = f j) ∧ gh = upd fh x.toNatClampNeg 1) : r' = 1 ∧ (∀ j, j < 988 → g (988 * (K + 1) + j) = f j) ∧ (∀ j, (j < 988 * (K + 1) ∨ 988 * (K + 1) + 988 ≤ j) → g j = f j) ∧ gh = upd fh K 1 := by
  have e : x.toNatClampNeg = K := by have := z_clI (x := x) (by omega); omega
  rw [e] at F2
  rcases F2 with ⟨a, b, -⟩ | ⟨a, -, b, c, d⟩
  · omega
  · exact ⟨a, b, c, d⟩
theorem zM_imN {x r' : Int32} {fh gh f g : Nat → Int32} (hx : x.toInt < 0 ∨ 2 < x.toInt) (F2 : r' = 0 ∧ (x.toInt < 0 ∨ 3 ≤ x.toInt) ∧ g = f ∧ gh = fh ∨ r' = 1 ∧ (0 ≤ x.toInt ∧ x.toInt < 3) ∧ (∀ j, j < 988 → g (988 * (x.toNatClampNeg + 1) + j) = f j) ∧ (∀ j, (j < 988 * (x.toNatClampNeg + 1) ∨ 988 * (x.toNatClampNeg + 1) + 988 ≤ j) → g j = f j) ∧ gh = upd fh x.toNatClampNeg 1) : (0 : Int32) = r' ∧ g = f ∧ gh = fh := by
  rcases F2 with ⟨a, -, b, c⟩ | ⟨-, b, -⟩
  · exact ⟨a.symm, b, c⟩
  · omega
theorem zM_agN {x r' : Int32} {fh f g : Nat → Int32} (hx : x.toInt < 0 ∨ 2 < x.toInt) (F2 : r' = 0 ∧ (x.toInt < 0 ∨ 3 ≤ x.toInt ∨ fh x.toNatClampNeg = 0) ∧ g = f ∨ r' = 1 ∧ (0 ≤ x.toInt ∧ x.toInt < 3) ∧ ¬ fh x.toNatClampNeg = 0 ∧ (∀ j, j < 988 → g j = f (988 * (x.toNatClampNeg + 1) + j)) ∧ ∀ j, 988 ≤ j → g j = f j) : (0 : Int32) = r' ∧ g = f := by
  rcases F2 with ⟨a, -, b⟩ | ⟨-, b, -⟩
  · exact ⟨a.symm, b⟩
  · omega
set_option maxHeartbeats 4000000 in
set_option maxRecDepth 100000 in
/-- c_f_textN -/
theorem c_f_textN (l : Launch) (T : zTy) (xo : Nat) (t : Nat) (im : Nat) (mk : Nat) (rd : Nat) (po : Nat) (co : Nat) (tr : Nat) (wa : Nat) (wb_ : Nat) (fi : Nat) (cd : Nat) (l0 : Nat) (l1 : Nat) (d0 : Nat) (d1 : Nat) (g0 : Nat) (g1 : Nat) (ln : Int32) (fl : Int32) (pl : Int32) (ft : Nat → Int32) (fk : Nat → Int32) (wt : va_W) (i1 : Int32) (at_ : Int32) (ht : bTold T t l0 l1 d0 d1 g0 g1 ln fl pl ft fk wt) (hK : zKT fk) (hso : i1.toInt < 0 ∨ 2 < i1.toInt) : zMi l T yX11_text cX11_text 5 (some .int) 9 0 0 [.ref xo, .int i1, .int at_] [[zO10 xo t im mk rd po co tr wa wb_ fi cd], wt] (fun (r : Int32) bs => ∃ (wt_2 : va_W), bs = [[zO10 xo t im mk rd po co tr wa wb_ fi cd], wt_2] ∧ bTold T t l0 l1 d0 d1 g0 g1 0 0 (-1) ft fk wt_2 ∧ r = -2) := by
  refine zMi_of (own := RX11) (by decide) rfl (Nat.le_of_ble_eq_true rfl) ?_
  intro p e s m args below meth c A ls C hr hlocks hnm hAe G hl
  refine zHide (fun Qz_ hQz_ => ?_)
  have hx := C.1
  have hb := C.2.1
  have hl : lv_has ls 5 [(0, .ref xo), (1, .int i1), (2, .int at_)] := hl
  refine lv_aload_n hx hb dX11_text_0 rfl (lv_at hl 0 rfl) ?_
  refine z_get C G clX11 0 rfl 0 (by decide) m_fl_RX11_10 rfl dX11_text_1 ?_
  refine lv_iload_n hx hb dX11_text_4 rfl (lv_at hl 1 rfl) ?_
  refine lv_iload_n hx hb dX11_text_5 rfl (lv_at hl 2 rfl) ?_
  refine z_Vi (bc := [wt]) (br := [[zO10 xo t im mk rd po co tr wa wb_ fi cd]]) (As := [.int i1, .int at_]) (rest := []) C G (c_placeFor l T t l0 l1 d0 d1 g0 g1 ln fl pl ft fk wt i1 at_ ht (by first | with_reducible assumption | with_reducible rfl | omega | assumption | rfl)) (kV_RX11_81 C.2.2.2.2 (Nat.le_of_ble_eq_true rfl) (Nat.le_of_ble_eq_true rfl)) [1] [1] rfl rfl (ci := 8) (qc := (RX9, TX9, 8)) rfl rfl (List.mem_flatten.mpr ⟨_, List.mem_of_getElem? (i := 0) rfl, (bTold_mem ht).choose_spec⟩) rfl rfl hl.1 dX11_text_6 (Nat.le_of_ble_eq_true rfl) (Nat.le_of_ble_eq_true rfl) (fun r_2 b1 H locs hw G => ?_)
  refine zAn2 hw ?_
  intro hbs9 h_1
  clear hw
  subst hbs9
  have G : zS T A s.heap s [[zO10 xo t im mk rd po co tr wa wb_ fi cd], wt] _ _ := G
  have hr9 : r_2.toInt = -2 := by have := h_1; omega
  refine lv_istore_n (lv' := [(3, .int r_2), (0, .ref xo), (1, .int i1), (2, .int at_)]) hx hb dX11_text_9 rfl hl (by decide) (zLvf_h rfl) (fun ls hl => ?_)
  refine lv_aload_n hx hb dX11_text_10 rfl (lv_at hl 1 rfl) ?_
  refine z_get C G clX11 0 rfl 0 (by decide) m_fl_RX11_10 rfl dX11_text_11 ?_
  refine zEx8 ht ?_
  intro a1_3 a2_4 a3_5 a4_6 a5_7 q1_8 q2_9 q3_10
  refine zCu7 ?_
  intro hbs9 h_11 h_12 h_13 h_14 h_15 h_16
  clear ht
  subst hbs9
  have G : zS T A s.heap s [[zO10 xo t im mk rd po co tr wa wb_ fi cd], [zO8 t a1_3 ln fl pl a2_4 a3_5 a4_6 a5_7], [zAr T 1 a1_3 600 ft], [zAr T 0 a2_4 3 fk], [zArq T 3 a3_5 2 q1_8], [zArq T 4 a4_6 2 q2_9], [zArq T 5 a5_7 2 q3_10]] _ _ := G.re rfl
  refine z_get C G clX9 1 rfl 1 (by decide) m_fl_RX11_73 rfl dX11_text_14 ?_
  refine lv_istore (lv' := [(4, .int ln), (3, .int r_2), (0, .ref xo), (1, .int i1), (2, .int at_)]) hx hb dX11_text_17 hl (by decide) (zLvf_h rfl) (fun ls hl => ?_)
  refine lv_aload_n hx hb dX11_text_19 rfl (lv_at hl 2 rfl) ?_
  refine z_get C G clX11 0 rfl 0 (by decide) m_fl_RX11_10 rfl dX11_text_20 ?_
  refine lv_iconst (v := 0) hx hb dX11_text_23 (by decide) ?_
  refine z_put C G clX9 1 rfl 1 (by decide) m_fl_RX11_73 rfl rfl rfl (Nat.le_of_ble_eq_true rfl) dX11_text_24 (fun H locs G => ?_)
  have G : zS T A s.heap s [[zO10 xo t im mk rd po co tr wa wb_ fi cd], [zO8 t a1_3 0 fl pl a2_4 a3_5 a4_6 a5_7], [zAr T 1 a1_3 600 ft], [zAr T 0 a2_4 3 fk], [zArq T 3 a3_5 2 q1_8], [zArq T 4 a4_6 2 q2_9], [zArq T 5 a5_7 2 q3_10]] _ _ := G
  refine lv_aload_n hx hb dX11_text_27 rfl (lv_at hl 2 rfl) ?_
  refine z_get C G clX11 0 rfl 0 (by decide) m_fl_RX11_10 rfl dX11_text_28 ?_
  refine lv_iconst (v := 0) hx hb dX11_text_31 (by decide) ?_
  refine z_put C G clX9 1 rfl 2 (by decide) m_fl_RX11_85 rfl rfl rfl (Nat.le_of_ble_eq_true rfl) dX11_text_32 (fun H locs G => ?_)
  have G : zS T A s.heap s [[zO10 xo t im mk rd po co tr wa wb_ fi cd], [zO8 t a1_3 0 0 pl a2_4 a3_5 a4_6 a5_7], [zAr T 1 a1_3 600 ft], [zAr T 0 a2_4 3 fk], [zArq T 3 a3_5 2 q1_8], [zArq T 4 a4_6 2 q2_9], [zArq T 5 a5_7 2 q3_10]] _ _ := G
  refine lv_aload_n hx hb dX11_text_35 rfl (lv_at hl 2 rfl) ?_
  refine z_get C G clX11 0 rfl 0 (by decide) m_fl_RX11_10 rfl dX11_text_36 ?_
  refine lv_iconst (v := (-1)) hx hb dX11_text_39 (by decide) ?_
  refine z_put C G clX9 1 rfl 3 (by decide) m_fl_RX11_88 rfl rfl rfl (Nat.le_of_ble_eq_true rfl) dX11_text_40 (fun H locs G => ?_)
  have G : zS T A s.heap s [[zO10 xo t im mk rd po co tr wa wb_ fi cd], [zO8 t a1_3 0 0 (-1) a2_4 a3_5 a4_6 a5_7], [zAr T 1 a1_3 600 ft], [zAr T 0 a2_4 3 fk], [zArq T 3 a3_5 2 q1_8], [zArq T 4 a4_6 2 q2_9], [zArq T 5 a5_7 2 q3_10]] _ _ := G
  refine lv_iload_n hx hb dX11_text_43 rfl (lv_at hl 1 rfl) ?_
  refine lv_bipush (v := (-2)) hx hb dX11_text_44 (by decide) ?_
  refine lv_icmp_ne (tgt := 52) hx hb dX11_text_46 (by decide) (fun q => absurd ((fa_eq r_2 ((-2) : Int32)).mpr (by show r_2.toInt = (-2 : Int); omega)) q) (fun _ => ?_)
  refine lv_bipush (v := (-2)) hx hb dX11_text_49 (by decide) ?_
  have hw_17 : bTold T t l0 l1 d0 d1 g0 g1 0 0 (-1) ft fk [zO8 t a1_3 0 0 (-1) a2_4 a3_5 a4_6 a5_7, zAr T 1 a1_3 600 ft, zAr T 0 a2_4 3 fk, zArq T 3 a3_5 2 q1_8, zArq T 4 a4_6 2 q2_9, zArq T 5 a5_7 2 q3_10] := ⟨a1_3, a2_4, a3_5, a4_6, a5_7, q1_8, q2_9, q3_10, rfl, h_11, h_12, h_13, h_14, h_15, h_16⟩
  have G : zS T A s.heap s [[zO10 xo t im mk rd po co tr wa wb_ fi cd], [zO8 t a1_3 0 0 (-1) a2_4 a3_5 a4_6 a5_7, zAr T 1 a1_3 600 ft, zAr T 0 a2_4 3 fk, zArq T 3 a3_5 2 q1_8, zArq T 4 a4_6 2 q2_9, zArq T 5 a5_7 2 q3_10]] _ _ := G.re rfl
  exact z_back hQz_ (z_iret C hr hlocks G (Nat.le_of_ble_eq_true rfl) (Nat.le_of_ble_eq_true rfl) dX11_text_51 ⟨([zO8 t a1_3 0 0 (-1) a2_4 a3_5 a4_6 a5_7, zAr T 1 a1_3 600 ft, zAr T 0 a2_4 3 fk, zArq T 3 a3_5 2 q1_8, zArq T 4 a4_6 2 q2_9, zArq T 5 a5_7 2 q3_10]), rfl, hw_17, rfl⟩)
set_option maxHeartbeats 4000000 in
set_option maxRecDepth 100000 in
/-- c_fm_textN -/
theorem c_fm_textN (l : Launch) (T : zTy) (mo : Nat) (m_all : Nat) (m_has : Nat) (i_size : Int32) (i_next : Int32) (i_where : Int32) (i_token : Int32) (i_number : Int32) (i_word : Int32) (i_wrong : Int32) (i_farCrossing : Int32) (m_read : Nat) (i_z0 : Int32) (i_crossings : Int32) (i_inns : Int32) (m_posts : Nat) (m_shut : Nat) (m_here : Nat) (i_steps : Int32) (i_done : Int32) (i_at : Int32) (i_gone : Int32) (m_was : Nat) (m_came : Nat) (m_seenAt : Nat) (m_rowWorth : Nat) (m_farBy : Nat) (m_used : Nat) (i_everywhere : Int32) (i_again0 : Int32) (i_d0 : Int32) (i_never : Int32) (i_firstCame : Int32) (i_longRun : Int32) (i_moved : Int32) (i_crowd : Int32) (i_l0 : Int32) (i_fitMany : Int32) (i_fitLeast : Int32) (i_fitMost : Int32) (m_fitPost : Nat) (m_fitEnd : Nat) (m_keptPosts : Nat) (i_x0 : Int32) (f_all : Nat → Int32) (f_read : Nat → Int32) (so_ : Int32) (at_ : Int32) (hso : so_.toInt < 0 ∨ 2 < so_.toInt) : zMi l T yX12_text cX12_text 5 (some .int) 9 0 0 [.ref mo, .int so_, .int at_] [[zO11 mo m_all m_has i_size i_next i_where i_token i_number i_word i_wrong i_farCrossing m_read i_z0 i_crossings i_inns m_posts m_shut m_here i_steps i_done i_at i_gone m_was m_came m_seenAt m_rowWorth m_farBy m_used i_everywhere i_again0 i_d0 i_never i_firstCame i_longRun i_moved i_crowd i_l0 i_fitMany i_fitLeast i_fitMost m_fitPost m_fitEnd m_keptPosts i_x0], [zAr T 0 m_all 3952 f_all], [zAr T 0 m_read 121 f_read]] (fun (r : Int32) bs => ∃ (j_size : Int32) (g_all : Nat → Int32), bs = [[zO11 mo m_all m_has j_size i_next i_where i_token i_number i_word i_wrong i_farCrossing m_read i_z0 i_crossings i_inns m_posts m_shut m_here i_steps i_done i_at i_gone m_was m_came m_seenAt m_rowWorth m_farBy m_used i_everywhere i_again0 i_d0 i_never i_firstCame i_longRun i_moved i_crowd i_l0 i_fitMany i_fitLeast i_fitMost m_fitPost m_fitEnd m_keptPosts i_x0], [zAr T 0 m_all 3952 g_all], [zAr T 0 m_read 121 f_read]] ∧ r = -2 ∧ g_all = upd (upd (upd f_all 4 0) 5 0) 6 (-1)) := by
  refine zMi_of (own := RX12) (by decide) rfl (Nat.le_of_ble_eq_true rfl) ?_
  intro p e s m args below meth c A ls C hr hlocks hnm hAe G hl
  refine zHide (fun Qz_ hQz_ => ?_)
  have hx := C.1
  have hb := C.2.1
  have hl : lv_has ls 5 [(0, .ref mo), (1, .int so_), (2, .int at_)] := hl
  refine lv_aload_n hx hb dX12_text_0 rfl (lv_at hl 0 rfl) ?_
  refine lv_aload_n hx hb dX12_text_1 rfl (lv_at hl 0 rfl) ?_
  refine z_get C G clX12 0 rfl 0 (by decide) m_fl_RX12_7 rfl dX12_text_2 ?_
  refine lv_iconst (v := 4) hx hb dX12_text_5 (by decide) ?_
  refine z_ild C G 1 rfl (vp_in_nI (n := 4) (by decide) (by decide)) dX12_text_6 ?_
  refine lv_topi (fun v_1 ev_1 => ?_)
  rw [show ((4 : Int32).toNatClampNeg) = 4 from rfl] at ev_1
  subst ev_1
  refine z_put C G clX12 0 rfl 2 (by decide) m_fl_RX12_56 rfl rfl rfl (Nat.le_of_ble_eq_true rfl) dX12_text_7 (fun H locs G => ?_)
  have G : zS T A s.heap s [[zO11 mo m_all m_has (f_all 4) i_next i_where i_token i_number i_word i_wrong i_farCrossing m_read i_z0 i_crossings i_inns m_posts m_shut m_here i_steps i_done i_at i_gone m_was m_came m_seenAt m_rowWorth m_farBy m_used i_everywhere i_again0 i_d0 i_never i_firstCame i_longRun i_moved i_crowd i_l0 i_fitMany i_fitLeast i_fitMost m_fitPost m_fitEnd m_keptPosts i_x0], [zAr T 0 m_all 3952 f_all], [zAr T 0 m_read 121 f_read]] _ _ := G
  refine lv_aload_n hx hb dX12_text_10 rfl (lv_at hl 0 rfl) ?_
  refine z_get C G clX12 0 rfl 0 (by decide) m_fl_RX12_7 rfl dX12_text_11 ?_
  refine lv_iconst (v := 4) hx hb dX12_text_14 (by decide) ?_
  refine lv_iconst (v := 0) hx hb dX12_text_15 (by decide) ?_
  refine z_ist C G 1 rfl (vp_in_nI (n := 4) (by decide) (by decide)) dX12_text_16 (fun H locs G => ?_)
  have G : zS T A s.heap s [[zO11 mo m_all m_has (f_all 4) i_next i_where i_token i_number i_word i_wrong i_farCrossing m_read i_z0 i_crossings i_inns m_posts m_shut m_here i_steps i_done i_at i_gone m_was m_came m_seenAt m_rowWorth m_farBy m_used i_everywhere i_again0 i_d0 i_never i_firstCame i_longRun i_moved i_crowd i_l0 i_fitMany i_fitLeast i_fitMost m_fitPost m_fitEnd m_keptPosts i_x0], [zAr T 0 m_all 3952 (upd f_all 4 0)], [zAr T 0 m_read 121 f_read]] _ _ := G
  refine lv_aload_n hx hb dX12_text_17 rfl (lv_at hl 0 rfl) ?_
  refine z_get C G clX12 0 rfl 0 (by decide) m_fl_RX12_7 rfl dX12_text_18 ?_
  refine lv_iconst (v := 5) hx hb dX12_text_21 (by decide) ?_
  refine lv_iconst (v := 0) hx hb dX12_text_22 (by decide) ?_
  refine z_ist C G 1 rfl (vp_in_nI (n := 5) (by decide) (by decide)) dX12_text_23 (fun H locs G => ?_)
  have G : zS T A s.heap s [[zO11 mo m_all m_has (f_all 4) i_next i_where i_token i_number i_word i_wrong i_farCrossing m_read i_z0 i_crossings i_inns m_posts m_shut m_here i_steps i_done i_at i_gone m_was m_came m_seenAt m_rowWorth m_farBy m_used i_everywhere i_again0 i_d0 i_never i_firstCame i_longRun i_moved i_crowd i_l0 i_fitMany i_fitLeast i_fitMost m_fitPost m_fitEnd m_keptPosts i_x0], [zAr T 0 m_all 3952 (upd (upd f_all 4 0) 5 0)], [zAr T 0 m_read 121 f_read]] _ _ := G
  refine lv_aload_n hx hb dX12_text_24 rfl (lv_at hl 0 rfl) ?_
  refine z_get C G clX12 0 rfl 0 (by decide) m_fl_RX12_7 rfl dX12_text_25 ?_
  refine lv_bipush (v := 6) hx hb dX12_text_28 (by decide) ?_
  refine lv_iconst (v := (-1)) hx hb dX12_text_30 (by decide) ?_
  refine z_ist C G 1 rfl (vp_in_nI (n := 6) (by decide) (by decide)) dX12_text_31 (fun H locs G => ?_)
  have G : zS T A s.heap s [[zO11 mo m_all m_has (f_all 4) i_next i_where i_token i_number i_word i_wrong i_farCrossing m_read i_z0 i_crossings i_inns m_posts m_shut m_here i_steps i_done i_at i_gone m_was m_came m_seenAt m_rowWorth m_farBy m_used i_everywhere i_again0 i_d0 i_never i_firstCame i_longRun i_moved i_crowd i_l0 i_fitMany i_fitLeast i_fitMost m_fitPost m_fitEnd m_keptPosts i_x0], [zAr T 0 m_all 3952 (upd (upd (upd f_all 4 0) 5 0) 6 (-1))], [zAr T 0 m_read 121 f_read]] _ _ := G
  refine lv_iload_n hx hb dX12_text_32 rfl (lv_at hl 1 rfl) ?_
  refine lv_iconst (v := 0) hx hb dX12_text_33 (by decide) ?_
  refine lv_iconst (v := 2) hx hb dX12_text_34 (by decide) ?_
  refine z_Si (bc := []) (br := [[zO11 mo m_all m_has (f_all 4) i_next i_where i_token i_number i_word i_wrong i_farCrossing m_read i_z0 i_crossings i_inns m_posts m_shut m_here i_steps i_done i_at i_gone m_was m_came m_seenAt m_rowWorth m_farBy m_used i_everywhere i_again0 i_d0 i_never i_firstCame i_longRun i_moved i_crowd i_l0 i_fitMany i_fitLeast i_fitMost m_fitPost m_fitEnd m_keptPosts i_x0], [zAr T 0 m_all 3952 (upd (upd (upd f_all 4 0) 5 0) 6 (-1))], [zAr T 0 m_read 121 f_read]]) (As := [.int so_, .int 0, .int 2]) (rest := []) C G (c_m_isIn l T so_ 0 2) (kS_RX12_111 C.2.2.2.2 (Nat.le_of_ble_eq_true rfl) (Nat.le_of_ble_eq_true rfl)) [] [] rfl rfl rfl rfl hl.1 dX12_text_35 (Nat.le_of_ble_eq_true rfl) (Nat.le_of_ble_eq_true rfl) (fun r_3 b1 H locs hw G => ?_)
  refine zAn2 hw ?_
  intro hbs9 hc_2
  clear hw
  subst hbs9
  have G : zS T A s.heap s [[zO11 mo m_all m_has (f_all 4) i_next i_where i_token i_number i_word i_wrong i_farCrossing m_read i_z0 i_crossings i_inns m_posts m_shut m_here i_steps i_done i_at i_gone m_was m_came m_seenAt m_rowWorth m_farBy m_used i_everywhere i_again0 i_d0 i_never i_firstCame i_longRun i_moved i_crowd i_l0 i_fitMany i_fitLeast i_fitMost m_fitPost m_fitEnd m_keptPosts i_x0], [zAr T 0 m_all 3952 (upd (upd (upd f_all 4 0) 5 0) 6 (-1))], [zAr T 0 m_read 121 f_read]] _ _ := G
  rcases hc_2 with ⟨rfl, h_4, h_5⟩ | ⟨rfl, h_6⟩
  · have h_4 : (0 : Int) ≤ so_.toInt := h_4
    have h_5 : so_.toInt ≤ (2 : Int) := h_5
    refine lv_if_eq (tgt := 68) hx hb dX12_text_38 (by decide) (fun q => absurd q (by decide)) (fun _ => ?_)
    exact absurd (show (0 : Int) = 1 by omega) (by decide)
  · have h_6 : (so_.toInt < (0 : Int) ∨ (2 : Int) < so_.toInt) := h_6
    refine lv_if_eq (tgt := 68) hx hb dX12_text_38 (by decide) (fun _ => ?_) (fun q => absurd (by decide) q)
    refine lv_bipush (v := (-2)) hx hb dX12_text_68 (by decide) ?_
    exact z_back hQz_ (z_iret C hr hlocks G (Nat.le_of_ble_eq_true rfl) (Nat.le_of_ble_eq_true rfl) dX12_text_70 ⟨(f_all 4), (upd (upd (upd f_all 4 0) 5 0) 6 (-1)), rfl, rfl, rfl⟩)
/-! WAYS: rows of roads, as numbers -/
def aCh (W : Nat → Int32) (c : Nat) : Nat := if (W c).toInt ≤ 0 then 1 else (W c).toInt.toNat
/-- as many as the last n digits have -/
def aPr (W : Nat → Int32) : Nat → Nat
  | 0 => 1
  | n + 1 => aPr W n * aCh W (6 - n)
def aRd (W : Nat → Int32) (w c : Nat) : Nat := w / aPr W (6 - c) % aCh W c
theorem aCh_p {W : Nat → Int32} {c : Nat} : 1 ≤ aCh W c := by
  unfold aCh
  split <;> omega
theorem aPr_p {W : Nat → Int32} : ∀ n, 1 ≤ aPr W n
  | 0 => Nat.le_refl _
  | n + 1 => Nat.mul_pos (aPr_p n) aCh_p
/-- more digits: a multiple -/
theorem aPr_m {W : Nat → Int32} (m : Nat) : ∀ n, ∃ s, aPr W (m + n) = aPr W m * s
  | 0 => ⟨1, (Nat.mul_one _).symm⟩
  | n + 1 => by
    obtain ⟨s, e⟩ := aPr_m (W := W) m n
    refine ⟨s * aCh W (6 - (m + n)), ?_⟩
    show aPr W (m + n) * aCh W (6 - (m + n)) = aPr W m * (s * aCh W (6 - (m + n)))
    rw [e, Nat.mul_assoc]
theorem aPr_d {W : Nat → Int32} {m n : Nat} (h : m ≤ n) : ∃ s, aPr W n = aPr W m * s := by
  obtain ⟨s, e⟩ := aPr_m (W := W) m (n - m)
  rw [show m + (n - m) = n by omega] at e
  exact ⟨s, e⟩
theorem aPr_s {W : Nat → Int32} {c : Nat} (h : c ≤ 6) : aPr W (6 - c + 1) = aPr W (6 - c) * aCh W c := by
  show aPr W (6 - c) * aCh W (6 - (6 - c)) = aPr W (6 - c) * aCh W c
  rw [show 6 - (6 - c) = c by omega]
theorem aRd_lt {W : Nat → Int32} {w c : Nat} : aRd W w c < aCh W c := Nat.mod_lt _ aCh_p
/-- a number, seen at one of its digits -/
theorem aDc {w p m : Nat} (hp : 1 ≤ p) : w = w / (p * m) * (p * m) + (w / p % m) * p + w % p := by
  have e1 : p * (w / p) + w % p = w := Nat.div_add_mod w p
  have e2 : m * (w / p / m) + w / p % m = w / p := Nat.div_add_mod (w / p) m
  have e3 : w / p / m = w / (p * m) := Nat.div_div_eq_div_mul w p m
  rw [e3] at e2
  have e4 : w / (p * m) * (p * m) + (w / p % m) * p = p * (m * (w / (p * m)) + w / p % m) := by
    rw [Nat.mul_add, Nat.mul_comm (w / (p * m)) (p * m), Nat.mul_assoc p m, Nat.mul_comm (w / p % m) p]
  rw [e4, e2]
  exact e1.symm
/-- the way when a post has turned -/
def aTn (W : Nat → Int32) (w c : Nat) : Nat := w / aPr W (6 - c + 1) * aPr W (6 - c + 1) + ((aRd W w c + 1) % aCh W c) * aPr W (6 - c) + w % aPr W (6 - c)
theorem aTn_lt {W : Nat → Int32} {w c : Nat} (hc : c ≤ 6) (hw : w < aPr W 7) : aTn W w c < aPr W 7 := by
  obtain ⟨s, hs⟩ := aPr_d (W := W) (m := 6 - c + 1) (n := 7) (by omega)
  have hq : 0 < aPr W (6 - c + 1) := aPr_p _
  have a : w / aPr W (6 - c + 1) < s := by
    rw [hs] at hw
    exact Nat.div_lt_of_lt_mul hw
  have hp := aPr_p (W := W) (6 - c)
  have hm := aCh_p (W := W) (c := c)
  have d := Nat.mod_lt (aRd W w c + 1) hm
  have r := Nat.mod_lt w hp
  have l : (aRd W w c + 1) % aCh W c * aPr W (6 - c) + w % aPr W (6 - c) < aPr W (6 - c + 1) := by
    rw [aPr_s hc]
    have : ((aRd W w c + 1) % aCh W c + 1) * aPr W (6 - c) ≤ aCh W c * aPr W (6 - c) := Nat.mul_le_mul_right _ d
    rw [Nat.add_mul, Nat.one_mul, Nat.mul_comm (aCh W c)] at this
    omega
  have u : (w / aPr W (6 - c + 1) + 1) * aPr W (6 - c + 1) ≤ s * aPr W (6 - c + 1) := Nat.mul_le_mul_right _ a
  rw [Nat.add_mul, Nat.one_mul, Nat.mul_comm s, ← hs] at u
  unfold aTn
  omega
/-- as many steps as may be, by ways: the way, the crossing, how many steps -/
def aN (W L : Nat → Int32) : Nat → Nat → Nat → Nat → Nat × Nat × Nat
  | 0, w, c, k => (w, c, k)
  | n + 1, w, c, k => if c < 7 ∧ 0 < (W c).toInt then aN W L n (aTn W w c) (L (4 * c + aRd W (aTn W w c) c)).toInt.toNat (k + 1) else (w, c, k)
def aPo (W : Nat → Int32) (w j : Nat) : Int32 := nI (aRd W w j)
theorem aN_k {W L : Nat → Int32} : ∀ (n w c k : Nat), aN W L n w c k = ((aN W L n w c 0).1, (aN W L n w c 0).2.1, (aN W L n w c 0).2.2 + k)
  | 0, w, c, k => by
    show (w, c, k) = (w, c, 0 + k)
    rw [Nat.zero_add]
  | n + 1, w, c, k => by
    unfold aN
    by_cases q : c < 7 ∧ 0 < (W c).toInt
    · rw [if_pos q, if_pos q, aN_k n _ _ (k + 1), aN_k n _ _ (0 + 1)]
      show (_, _, _) = (_, _, _)
      rw [show (aN W L n (aTn W w c) (L (4 * c + aRd W (aTn W w c) c)).toInt.toNat 0).2.2 + (k + 1) = (aN W L n (aTn W w c) (L (4 * c + aRd W (aTn W w c) c)).toInt.toNat 0).2.2 + (0 + 1) + k by omega]
    · rw [if_neg q, if_neg q]
      show (w, c, k) = (w, c, 0 + k)
      rw [Nat.zero_add]
theorem aN_s {W L : Nat → Int32} {c : Nat} (h : ¬ (c < 7 ∧ 0 < (W c).toInt)) : ∀ n w k, aN W L n w c k = (w, c, k)
  | 0, w, k => rfl
  | n + 1, w, k => if_neg h
/-- steps behind steps -/
theorem aN_a {W L : Nat → Int32} : ∀ (m n w c k : Nat), aN W L (m + n) w c k = aN W L n (aN W L m w c k).1 (aN W L m w c k).2.1 (aN W L m w c k).2.2
  | 0, n, w, c, k => by rw [Nat.zero_add]; rfl
  | m + 1, n, w, c, k => by
    rw [show m + 1 + n = (m + n) + 1 by omega]
    by_cases q : c < 7 ∧ 0 < (W c).toInt
    · have e1 : aN W L (m + n + 1) w c k = aN W L (m + n) (aTn W w c) (L (4 * c + aRd W (aTn W w c) c)).toInt.toNat (k + 1) := if_pos q
      have e2 : aN W L (m + 1) w c k = aN W L m (aTn W w c) (L (4 * c + aRd W (aTn W w c) c)).toInt.toNat (k + 1) := if_pos q
      rw [e1, e2]
      exact aN_a m n _ _ _
    · rw [aN_s q, aN_s q]
      show (w, c, k) = aN W L n w c k
      rw [aN_s q]
theorem aN_b {W L : Nat → Int32} (hL : ∀ j r : Nat, j < 7 → r < 4 → (r : Int) < (W j).toInt → 0 ≤ (L (4 * j + r)).toInt ∧ (L (4 * j + r)).toInt ≤ 6) (hW : ∀ j, j < 7 → (W j).toInt ≤ 4) : ∀ (n w c k : Nat), w < aPr W 7 → c ≤ 6 → (aN W L n w c k).1 < aPr W 7 ∧ (aN W L n w c k).2.1 ≤ 6 ∧ (aN W L n w c k).2.2 ≤ n + k
  | 0, w, c, k, hw, hc => ⟨hw, hc, by show k ≤ 0 + k; omega⟩
  | n + 1, w, c, k, hw, hc => by
    unfold aN
    by_cases q : c < 7 ∧ 0 < (W c).toInt
    · rw [if_pos q]
      have lt := aRd_lt (W := W) (w := aTn W w c) (c := c)
      have ch : aCh W c = (W c).toInt.toNat := if_neg (by omega)
      have w4 := hW c q.1
      have b := hL c (aRd W (aTn W w c) c) q.1 (by omega) (by omega)
      have t := aN_b hL hW n (aTn W w c) (L (4 * c + aRd W (aTn W w c) c)).toInt.toNat (k + 1) (aTn_lt hc hw) (by omega)
      exact ⟨t.1, t.2.1, by omega⟩
    · rw [if_neg q]
      exact ⟨hw, hc, by show k ≤ n + 1 + k; omega⟩
/-- what n steps lead to from a place of the table -/
def aT (W L : Nat → Int32) (n i : Nat) : Nat := 8 * (aN W L n (i / 8) (i % 8) 0).1 + (aN W L n (i / 8) (i % 8) 0).2.1 + 131072 * (aN W L n (i / 8) (i % 8) 0).2.2
def aOk (W L : Nat → Int32) : Prop := (∀ j r : Nat, j < 7 → r < 4 → (r : Int) < (W j).toInt → 0 ≤ (L (4 * j + r)).toInt ∧ (L (4 * j + r)).toInt ≤ 6) ∧ (∀ j, j < 7 → 0 ≤ (W j).toInt ∧ (W j).toInt ≤ 4) ∧ aPr W 7 ≤ 16384
theorem aN_b7 {W L : Nat → Int32} (h : aOk W L) {n w c k : Nat} (hw : w < aPr W 7) (hc : c ≤ 7) : (aN W L n w c k).1 < aPr W 7 ∧ (aN W L n w c k).2.1 ≤ 7 ∧ (aN W L n w c k).2.2 ≤ n + k := by
  by_cases q : c ≤ 6
  · have t := aN_b h.1 (fun j hj => (h.2.1 j hj).2) n w c k hw q
    exact ⟨t.1, by omega, t.2.2⟩
  · rw [aN_s (by omega)]
    exact ⟨hw, hc, by show k ≤ n + k; omega⟩
theorem aT_b {W L : Nat → Int32} (h : aOk W L) {n i : Nat} (hi : i < 8 * aPr W 7) : aT W L n i % 131072 = 8 * (aN W L n (i / 8) (i % 8) 0).1 + (aN W L n (i / 8) (i % 8) 0).2.1 ∧ aT W L n i % 131072 < 8 * aPr W 7 ∧ aT W L n i ≤ 131071 + 131072 * n ∧ aT W L n i - aT W L n i % 131072 = 131072 * (aN W L n (i / 8) (i % 8) 0).2.2 ∧ (aN W L n (i / 8) (i % 8) 0).1 < aPr W 7 ∧ (aN W L n (i / 8) (i % 8) 0).2.1 ≤ 7 := by
  have t := aN_b7 h (n := n) (w := i / 8) (c := i % 8) (k := 0) (by omega) (by omega)
  have p := h.2.2
  unfold aT
  omega
/-- twice as many -/
theorem aT_a {W L : Nat → Int32} (h : aOk W L) {m n i : Nat} (hi : i < 8 * aPr W 7) : aT W L (m + n) i = aT W L n (aT W L m i % 131072) + (aT W L m i - aT W L m i % 131072) := by
  obtain ⟨e1, _, _, e4, e5, e6⟩ := aT_b h (n := m) hi
  rw [e4, e1]
  have d1 : (8 * (aN W L m (i / 8) (i % 8) 0).1 + (aN W L m (i / 8) (i % 8) 0).2.1) / 8 = (aN W L m (i / 8) (i % 8) 0).1 ∨ (aN W L m (i / 8) (i % 8) 0).2.1 = 8 := by omega
  have d2 : (8 * (aN W L m (i / 8) (i % 8) 0).1 + (aN W L m (i / 8) (i % 8) 0).2.1) % 8 = (aN W L m (i / 8) (i % 8) 0).2.1 := by omega
  have e := aN_a (W := W) (L := L) m n (i / 8) (i % 8) 0
  rw [aN_k n] at e
  unfold aT
  rw [d1.resolve_right (by omega), d2, e]
  show 8 * (aN W L n _ _ 0).1 + (aN W L n _ _ 0).2.1 + 131072 * ((aN W L n _ _ 0).2.2 + _) = _
  omega
/-- one step: what the table of one step holds -/
theorem aT_1 {W L : Nat → Int32} {i : Nat} : aT W L 1 i = if i % 8 < 7 ∧ 0 < (W (i % 8)).toInt then 8 * aTn W (i / 8) (i % 8) + (L (4 * (i % 8) + aRd W (aTn W (i / 8) (i % 8)) (i % 8))).toInt.toNat + 131072 else i := by
  unfold aT
  by_cases q : i % 8 < 7 ∧ 0 < (W (i % 8)).toInt
  · have e : aN W L 1 (i / 8) (i % 8) 0 = (aTn W (i / 8) (i % 8), (L (4 * (i % 8) + aRd W (aTn W (i / 8) (i % 8)) (i % 8))).toInt.toNat, 0 + 1) := if_pos q
    rw [e, if_pos q]
    rfl
  · rw [aN_s q, if_neg q]
    show 8 * (i / 8) + i % 8 + 131072 * 0 = i
    omega
/-- the land's ways out -/
def aW (cr inn : Int32) (k1 : Nat → Int32) : Nat → Int32 := fun j => zWays cr inn k1 (nI j)
theorem aCh_z {cr inn : Int32} {k1 k3 : Nat → Int32} (hI : zLI cr k1 k3) (c : Nat) : zCh cr inn k1 (nI c) = nI (aCh (aW cr inn k1) c) := by
  have h := zWays_le (inn := inn) hI (nI c)
  unfold zCh aCh aW
  by_cases q : zWays cr inn k1 (nI c) < 1
  · have q2 : (zWays cr inn k1 (nI c)).toInt < 1 := (fa_lt _ _).mp q
    rw [if_pos q, if_pos (by omega)]
    rfl
  · have q2 : ¬ (zWays cr inn k1 (nI c)).toInt < 1 := fun z => q ((fa_lt _ _).mpr z)
    rw [if_neg q, if_neg (by omega)]
    exact z_nI (by omega) (by omega)
theorem aCh_4 {cr inn : Int32} {k1 k3 : Nat → Int32} (hI : zLI cr k1 k3) (c : Nat) : aCh (aW cr inn k1) c ≤ 4 := by
  have h := zWays_le (inn := inn) hI (nI c)
  unfold aCh aW
  split <;> omega
theorem aPr_4 {cr inn : Int32} {k1 k3 : Nat → Int32} (hI : zLI cr k1 k3) : ∀ n, aPr (aW cr inn k1) n ≤ 4 ^ n
  | 0 => Nat.le_refl _
  | n + 1 => by
    rw [Nat.pow_succ]
    exact Nat.mul_le_mul (aPr_4 hI n) (aCh_4 hI _)
theorem aWyN_z {cr inn : Int32} {k1 k3 : Nat → Int32} (hI : zLI cr k1 k3) : ∀ n, n ≤ 7 → zWyN cr inn k1 n = nI (aPr (aW cr inn k1) n) := by
  have st : ∀ n, n ≤ 6 → zWyN cr inn k1 n = nI (aPr (aW cr inn k1) n) → zWyN cr inn k1 n * zCh cr inn k1 (nI (6 - n)) = nI (aPr (aW cr inn k1) (n + 1)) := fun n hn e => by
    rw [e, aCh_z hI, pk_mul]
    rfl
  have e0 : zWyN cr inn k1 0 = nI (aPr (aW cr inn k1) 0) := rfl
  have e1 : zWyN cr inn k1 1 = nI (aPr (aW cr inn k1) 1) := st 0 (by decide) e0
  have e2 : zWyN cr inn k1 2 = nI (aPr (aW cr inn k1) 2) := st 1 (by decide) e1
  have e3 : zWyN cr inn k1 3 = nI (aPr (aW cr inn k1) 3) := st 2 (by decide) e2
  have e4 : zWyN cr inn k1 4 = nI (aPr (aW cr inn k1) 4) := st 3 (by decide) e3
  have e5 : zWyN cr inn k1 5 = nI (aPr (aW cr inn k1) 5) := st 4 (by decide) e4
  have e6 : zWyN cr inn k1 6 = nI (aPr (aW cr inn k1) 6) := st 5 (by decide) e5
  have e7 : zWyN cr inn k1 7 = nI (aPr (aW cr inn k1) 7) := st 6 (by decide) e6
  intro n hn
  rcases (show n = 0 ∨ n = 1 ∨ n = 2 ∨ n = 3 ∨ n = 4 ∨ n = 5 ∨ n = 6 ∨ n = 7 by omega) with q | q | q | q | q | q | q | q <;> rw [q] <;> assumption
theorem aPr_7 {cr inn : Int32} {k1 k3 : Nat → Int32} (hI : zLI cr k1 k3) : aPr (aW cr inn k1) 7 ≤ 16384 := aPr_4 hI 7
theorem zWy_z {cr inn : Int32} {k1 k3 : Nat → Int32} (hI : zLI cr k1 k3) : zWy cr inn k1 = nI (aPr (aW cr inn k1) 7) := aWyN_z hI 7 (by decide)
theorem zPl_z {cr inn : Int32} {k1 k3 : Nat → Int32} (hI : zLI cr k1 k3) : zPl cr inn k1 = nI (8 * aPr (aW cr inn k1) 7) := by
  have h := aPr_7 (inn := inn) hI
  have e : zWy cr inn k1 <<< (3 &&& 31) = nI (8 * aPr (aW cr inn k1) 7) := by
    rw [zWy_z hI, pk_shlN (3 &&& 31) 3 (by decide) (by omega), Nat.mul_comm]
  unfold zPl
  rw [e, if_neg]
  intro z
  have z2 := (fa_lt _ _).mp z
  rw [nI_toInt (by omega)] at z2
  have : (131072 : Int32).toInt = 131072 := rfl
  omega
theorem aPr_le {W : Nat → Int32} {m n : Nat} (h : m ≤ n) : aPr W m ≤ aPr W n := by
  obtain ⟨s, e⟩ := aPr_d (W := W) h
  have p := aPr_p (W := W) n
  have s1 : 1 ≤ s := by
    rcases Nat.eq_zero_or_pos s with q | q
    · rw [q, Nat.mul_zero] at e
      omega
    · exact q
  rw [e]
  exact Nat.le_mul_of_pos_right _ s1
/-- what choices and weights hold -/
def aF (cr inn : Int32) (k1 f1 f2 : Nat → Int32) : Prop := (∀ c, c < 7 → f1 c = zCh cr inn k1 (nI c)) ∧ ∀ c, c < 7 → f2 c = zWyN cr inn k1 (6 - c)
theorem zRoad_z {cr inn : Int32} {k1 k3 f1 f2 : Nat → Int32} (hI : zLI cr k1 k3) (hF : aF cr inn k1 f1 f2) {w c : Nat} (hw : w < 2147483648) (hc : c < 7) : zRoad f1 f2 (nI w) (nI c) = nI (aRd (aW cr inn k1) w c) := by
  have ec := nI_toInt (n := c) (by omega)
  have ek : (nI c).toNatClampNeg = c := pk_cl c
  have e1 : f1 c = nI (aCh (aW cr inn k1) c) := (hF.1 c hc).trans (aCh_z hI c)
  have e2 : f2 c = nI (aPr (aW cr inn k1) (6 - c)) := (hF.2 c hc).trans (aWyN_z hI _ (by omega))
  have p1 := aCh_p (W := aW cr inn k1) (c := c)
  have p2 := aPr_p (W := aW cr inn k1) (6 - c)
  have p3 := aCh_4 (inn := inn) hI c
  have p4 := aPr_le (W := aW cr inn k1) (m := 6 - c) (n := 7) (by omega)
  have p5 := aPr_7 (inn := inn) hI
  have q1 := nI_toInt (n := aCh (aW cr inn k1) c) (by omega)
  have q2 := nI_toInt (n := aPr (aW cr inn k1) (6 - c)) (by omega)
  have d := Nat.div_le_self w (aPr (aW cr inn k1) (6 - c))
  unfold zRoad
  rw [ek, e1, e2, if_neg (by omega), pk_div hw (by omega) (by omega), pk_rem (by omega) (by omega) (by omega)]
  rfl
/-- the way when a post turns, as it is reckoned -/
theorem aTn_z {W : Nat → Int32} {w c : Nat} (hc : c ≤ 6) : (aRd W w c + 1 < aCh W c → aTn W w c = w + aPr W (6 - c)) ∧ (¬ aRd W w c + 1 < aCh W c → w = aTn W w c + (aCh W c - 1) * aPr W (6 - c)) := by
  have hp := aPr_p (W := W) (6 - c)
  have hm := aCh_p (W := W) (c := c)
  have lt := aRd_lt (W := W) (w := w) (c := c)
  have E := aDc (w := w) (p := aPr W (6 - c)) (m := aCh W c) hp
  have T : aTn W w c = w / (aPr W (6 - c) * aCh W c) * (aPr W (6 - c) * aCh W c) + ((aRd W w c + 1) % aCh W c) * aPr W (6 - c) + w % aPr W (6 - c) := by
    unfold aTn
    rw [aPr_s hc]
  have R : w / aPr W (6 - c) % aCh W c = aRd W w c := rfl
  rw [R] at E
  constructor
  · intro q
    rw [Nat.mod_eq_of_lt q, Nat.add_mul, Nat.one_mul] at T
    omega
  · intro q
    have e : aRd W w c = aCh W c - 1 := by omega
    rw [show aRd W w c + 1 = aCh W c by omega, Nat.mod_self, Nat.zero_mul] at T
    rw [e] at E
    omega
theorem nI_n {n : Nat} (h : n < 2147483648) : (nI n).toInt.toNat = n := by
  rw [nI_toInt h]
  rfl
theorem aSh {i : Nat} (h : i < 2147483648) : nI i >>> (3 &&& 31) = nI (i / 8) := pk_shrN h (3 &&& 31) 3 (by decide)
theorem aAn {i : Nat} (h : i < 2147483648) : nI i &&& 7 = nI (i % 8) := pk_andN (by omega) 3 (by decide)
theorem aAp {i : Nat} (h : i < 2147483648) : nI i &&& 131071 = nI (i % 131072) := pk_andN (by omega) 17 (by decide)
theorem aT_n {cr inn : Int32} {k1 L : Nat → Int32} {i : Nat} (h : zWays cr inn k1 (nI (i % 8)) = 0) : nI i = nI (aT (aW cr inn k1) L 1 i) := by
  rw [aT_1, if_neg]
  intro q
  have q2 : 0 < (zWays cr inn k1 (nI (i % 8))).toInt := q.2
  rw [h] at q2
  exact absurd q2 (by decide)
theorem aT_y {cr inn r : Int32} {k1 k2 k3 f1 f2 : Nat → Int32} {i : Nat} (hI : zLI cr k1 k3) (hF : aF cr inn k1 f1 f2) (hO : aOk (aW cr inn k1) k2) (hi : i < 8 * aPr (aW cr inn k1) 7) (hz : ¬ zWays cr inn k1 (nI (i % 8)) = 0) (hr : r = nI (aTn (aW cr inn k1) (i / 8) (i % 8))) : (r <<< (3 &&& 31)) + zTarget cr k1 k2 (nI (i % 8)) (zRoad f1 f2 r (nI (i % 8))) + 131072 = nI (aT (aW cr inn k1) k2 1 i) := by
  obtain ⟨c0, c1, c2, c3, c4⟩ := zWays_in hz
  have h4 := zWays_le (inn := inn) hI (nI (i % 8))
  have ec := nI_toInt (n := i % 8) (by omega)
  have ek : (nI (i % 8)).toNatClampNeg = i % 8 := pk_cl (i % 8)
  have p := hO.2.2
  have hp : 0 < (aW cr inn k1 (i % 8)).toInt := by
    show 0 < (zWays cr inn k1 (nI (i % 8))).toInt
    have : ¬ (zWays cr inn k1 (nI (i % 8))).toInt = 0 := fun q => hz (Int32.toInt_inj.mp q)
    omega
  have lt := aTn_lt (W := aW cr inn k1) (w := i / 8) (c := i % 8) (by omega) (by omega)
  have rl := aRd_lt (W := aW cr inn k1) (w := aTn (aW cr inn k1) (i / 8) (i % 8)) (c := i % 8)
  have ch : aCh (aW cr inn k1) (i % 8) = (aW cr inn k1 (i % 8)).toInt.toNat := if_neg (by omega)
  have e4 : aW cr inn k1 (i % 8) = k1 (i % 8) := by
    have e : zWays cr inn k1 (nI (i % 8)) = k1 (nI (i % 8)).toNatClampNeg := c4
    rw [ek] at e
    exact e
  have h5 : (aW cr inn k1 (i % 8)).toInt ≤ 4 := h4.2
  have er := nI_toInt (n := aRd (aW cr inn k1) (aTn (aW cr inn k1) (i / 8) (i % 8)) (i % 8)) (by omega)
  have er2 : (nI (aRd (aW cr inn k1) (aTn (aW cr inn k1) (i / 8) (i % 8)) (i % 8))).toNatClampNeg = aRd (aW cr inn k1) (aTn (aW cr inn k1) (i / 8) (i % 8)) (i % 8) := pk_cl _ rfl (by omega)
  have b := hO.1 (i % 8) (aRd (aW cr inn k1) (aTn (aW cr inn k1) (i / 8) (i % 8)) (i % 8)) (by omega) (by omega) (by omega)
  have eL : k2 (4 * (i % 8) + aRd (aW cr inn k1) (aTn (aW cr inn k1) (i / 8) (i % 8)) (i % 8)) = nI (k2 (4 * (i % 8) + aRd (aW cr inn k1) (aTn (aW cr inn k1) (i / 8) (i % 8)) (i % 8))).toInt.toNat := z_nI (by omega) (by omega)
  have eT : zTarget cr k1 k2 (nI (i % 8)) (nI (aRd (aW cr inn k1) (aTn (aW cr inn k1) (i / 8) (i % 8)) (i % 8))) = k2 (4 * (i % 8) + aRd (aW cr inn k1) (aTn (aW cr inn k1) (i / 8) (i % 8)) (i % 8)) := by
    unfold zTarget
    rw [ek, er2, if_pos ⟨c0, c1, c2, by omega, by rw [← e4]; omega, by omega⟩]
  rw [hr, zRoad_z hI hF (by omega) (by omega), eT, eL, pk_shlN (3 &&& 31) 3 (by decide) (by omega), nI_add, show (131072 : Int32) = nI 131072 from rfl, nI_add, aT_1, if_pos ⟨by omega, hp⟩]
  exact congrArg nI (by omega)
theorem zNl_le {n : Nat} {pl : Int32} (hp : pl.toInt ≤ 131072) : pl.toInt ≤ (zNl n pl : Nat) := by
  unfold zNl
  by_cases q : pl.toInt ≤ n
  · rw [if_pos q]
    exact q
  · rw [if_neg q]
    exact zLenN_ge hp 12 0 (by decide) (by decide)
/-- what stands in a table that is made -/
def zTab (cr inn : Int32) (k1 k2 : Nat → Int32) (wy pc : Int32) (f1 f2 f5 : Nat → Int32) (n : Nat) : Prop := wy = zWy cr inn k1 ∧ pc = zPl cr inn k1 ∧ aF cr inn k1 f1 f2 ∧ 8 * aPr (aW cr inn k1) 7 ≤ n ∧ ∀ j, j < 8 * aPr (aW cr inn k1) 7 → f5 j = nI (aT (aW cr inn k1) k2 499 j)
set_option maxHeartbeats 4000000 in
set_option maxRecDepth 100000 in
/-- countWays -/
theorem c_f_countWays (l : Launch) (T : zTy) (h : Nat) (la : Nat) (md : Int32) (wy : Int32) (pc_ : Int32) (f1 : Nat → Int32) (f2 : Nat → Int32) (f3 : Nat → Int32) (f4 : Nat → Int32) (f5 : Nat → Int32) (f6 : Nat → Int32) (n4 : Nat) (ww : va_W) (o : Nat) (cr : Int32) (inn : Int32) (k1 : Nat → Int32) (k2 : Nat → Int32) (k3 : Nat → Int32) (k4 : Nat → Int32) (z : va_W) (hww : bWays T h la md wy pc_ f1 f2 f3 f4 f5 f6 n4 ww) (hz : bLand T o cr inn k1 k2 k3 k4 z) : zMv l T yX0_countWays cX0_countWays 3 2 0 0 [.ref h, .ref o] [ww, z] (fun bs => ∃ (w2 : va_W) (g1 : Nat → Int32) (g2 : Nat → Int32), bs = [w2, z] ∧ bWays T h o md (zWy cr inn k1) (zPl cr inn k1) g1 g2 f3 f4 f5 f6 n4 w2 ∧ aF cr inn k1 g1 g2) := by
  refine zMv_of (own := RX0) (by decide) rfl (Nat.le_of_ble_eq_true rfl) ?_
  intro p e s m args below meth c A ls C hr hlocks hnm hAe G hl
  refine zHide (fun Qz_ hQz_ => ?_)
  have hx := C.1
  have hb := C.2.1
  have hl : lv_has ls 3 [(0, .ref h), (1, .ref o)] := hl
  have hz0 : (1 : Int32) = zWyN cr inn k1 0 := rfl
  refine lv_aload_n hx hb dX0_countWays_0 rfl (lv_at hl 0 rfl) ?_
  refine lv_aload_n hx hb dX0_countWays_1 rfl (lv_at hl 1 rfl) ?_
  refine zEx6 hww ?_
  intro a1_1 a2_2 a3_3 a4_4 a5_5 a6_6 hbs9
  clear hww
  subst hbs9
  have G : zS T A s.heap s [[zO0 h md wy la pc_ a1_1 a2_2 a3_3 a4_4 a5_5 a6_6], [zAr T 0 a1_1 7 f1], [zAr T 0 a2_2 7 f2], [zAr T 0 a3_3 7 f3], [zAr T 0 a4_4 n4 f4], [zAr T 0 a5_5 n4 f5], [zAr T 0 a6_6 n4 f6], z] _ _ := G.re rfl
  refine z_put C G clX0 0 rfl 2 (by decide) m_fl_RX0_14 rfl rfl rfl (Nat.le_of_ble_eq_true rfl) dX0_countWays_2 (fun H locs G => ?_)
  have G : zS T A s.heap s [[zO0 h md wy o pc_ a1_1 a2_2 a3_3 a4_4 a5_5 a6_6], [zAr T 0 a1_1 7 f1], [zAr T 0 a2_2 7 f2], [zAr T 0 a3_3 7 f3], [zAr T 0 a4_4 n4 f4], [zAr T 0 a5_5 n4 f5], [zAr T 0 a6_6 n4 f6], z] _ _ := G
  refine lv_aload_n hx hb dX0_countWays_5 rfl (lv_at hl 0 rfl) ?_
  refine lv_iconst (v := 1) hx hb dX0_countWays_6 (by decide) ?_
  refine z_put C G clX0 0 rfl 1 (by decide) m_fl_RX0_57 rfl rfl rfl (Nat.le_of_ble_eq_true rfl) dX0_countWays_7 (fun H locs G => ?_)
  have G : zS T A s.heap s [[zO0 h md 1 o pc_ a1_1 a2_2 a3_3 a4_4 a5_5 a6_6], [zAr T 0 a1_1 7 f1], [zAr T 0 a2_2 7 f2], [zAr T 0 a3_3 7 f3], [zAr T 0 a4_4 n4 f4], [zAr T 0 a5_5 n4 f5], [zAr T 0 a6_6 n4 f6], z] _ _ := G
  refine lv_bipush (v := 6) hx hb dX0_countWays_10 (by decide) ?_
  refine lv_istore_n (lv' := [(2, .int 6), (0, .ref h), (1, .ref o)]) hx hb dX0_countWays_12 rfl hl (by decide) (zLvf_h rfl) (fun ls hl => ?_)
  refine lv_iload_n hx hb dX0_countWays_13 rfl (lv_at hl 0 rfl) ?_
  refine lv_if_lt (tgt := 63) hx hb dX0_countWays_14 (by decide) (fun q => absurd q (by decide)) (fun _ => ?_)
  refine lv_aload_n hx hb dX0_countWays_17 rfl (lv_at hl 1 rfl) ?_
  refine z_get C G clX0 0 rfl 4 (by decide) m_fl_RX0_18 rfl dX0_countWays_18 ?_
  refine lv_iload_n hx hb dX0_countWays_21 rfl (lv_at hl 0 rfl) ?_
  refine lv_aload_n hx hb dX0_countWays_22 rfl (lv_at hl 2 rfl) ?_
  refine lv_iload_n hx hb dX0_countWays_23 rfl (lv_at hl 0 rfl) ?_
  refine z_Vi (bc := [z]) (br := [[zO0 h md 1 o pc_ a1_1 a2_2 a3_3 a4_4 a5_5 a6_6], [zAr T 0 a1_1 7 f1], [zAr T 0 a2_2 7 f2], [zAr T 0 a3_3 7 f3], [zAr T 0 a4_4 n4 f4], [zAr T 0 a5_5 n4 f5], [zAr T 0 a6_6 n4 f6]]) (As := [.int 6]) (rest := [.int 6, .ref a1_1]) C G (c_waysOut l T o cr inn k1 k2 k3 k4 z 6 hz) (kV_RX0_61 C.2.2.2.2 (Nat.le_of_ble_eq_true rfl) (Nat.le_of_ble_eq_true rfl)) [7] [7] rfl rfl (ci := 4) (qc := (RX4, TX4, 6)) rfl rfl (List.mem_flatten.mpr ⟨_, List.mem_of_getElem? (i := 0) rfl, (bLand_mem hz).choose_spec⟩) rfl rfl hl.1 dX0_countWays_24 (Nat.le_of_ble_eq_true rfl) (Nat.le_of_ble_eq_true rfl) (fun r_8 b1 H locs hw G => ?_)
  refine zAn2 hw ?_
  intro hbs9 h_7
  clear hw
  subst hbs9
  have G : zS T A s.heap s [[zO0 h md 1 o pc_ a1_1 a2_2 a3_3 a4_4 a5_5 a6_6], [zAr T 0 a1_1 7 f1], [zAr T 0 a2_2 7 f2], [zAr T 0 a3_3 7 f3], [zAr T 0 a4_4 n4 f4], [zAr T 0 a5_5 n4 f5], [zAr T 0 a6_6 n4 f6], z] _ _ := G
  subst h_7
  refine lv_iconst (v := 1) hx hb dX0_countWays_27 (by decide) ?_
  refine va_mmax hx hb (C.2.2.1.trans hl.1.symm) C.2.2.2.1 (C.2.2.2.2 _ m_ml_RX0_65) (C.2.2.2.2 _ m_st_math_max) (C.2.2.2.2 _ m_ii_math) (C.2.2.2.2 _ m_co_math_max) (Nat.le_of_ble_eq_true rfl) (Nat.le_of_ble_eq_true rfl) (Nat.le_of_ble_eq_true rfl) (Nat.le_of_ble_eq_true rfl) dX0_countWays_28 ?_
  refine lv_topi (fun v_9 ev_9 => ?_)
  subst ev_9
  refine lv_topi (fun y_10 ey_10 => ?_)
  obtain rfl : y_10 = zCh cr inn k1 6 := ey_10
  refine z_ist C G 1 rfl (vp_in_nI (n := 6) (by decide) (by decide)) dX0_countWays_31 (fun H locs G => ?_)
  have G : zS T A s.heap s [[zO0 h md 1 o pc_ a1_1 a2_2 a3_3 a4_4 a5_5 a6_6], [zAr T 0 a1_1 7 (upd f1 6 (zCh cr inn k1 6))], [zAr T 0 a2_2 7 f2], [zAr T 0 a3_3 7 f3], [zAr T 0 a4_4 n4 f4], [zAr T 0 a5_5 n4 f5], [zAr T 0 a6_6 n4 f6], z] _ _ := G
  refine lv_aload_n hx hb dX0_countWays_32 rfl (lv_at hl 1 rfl) ?_
  refine z_get C G clX0 0 rfl 5 (by decide) m_fl_RX0_22 rfl dX0_countWays_33 ?_
  refine lv_iload_n hx hb dX0_countWays_36 rfl (lv_at hl 0 rfl) ?_
  refine lv_aload_n hx hb dX0_countWays_37 rfl (lv_at hl 1 rfl) ?_
  refine z_get C G clX0 0 rfl 1 (by decide) m_fl_RX0_57 rfl dX0_countWays_38 ?_
  refine z_ist C G 2 rfl (vp_in_nI (n := 6) (by decide) (by decide)) dX0_countWays_41 (fun H locs G => ?_)
  have G : zS T A s.heap s [[zO0 h md 1 o pc_ a1_1 a2_2 a3_3 a4_4 a5_5 a6_6], [zAr T 0 a1_1 7 (upd f1 6 (zCh cr inn k1 6))], [zAr T 0 a2_2 7 (upd f2 6 1)], [zAr T 0 a3_3 7 f3], [zAr T 0 a4_4 n4 f4], [zAr T 0 a5_5 n4 f5], [zAr T 0 a6_6 n4 f6], z] _ _ := G
  refine lv_aload_n hx hb dX0_countWays_42 rfl (lv_at hl 1 rfl) ?_
  refine lv_dup hx hb dX0_countWays_43 rfl ?_
  refine z_get C G clX0 0 rfl 1 (by decide) m_fl_RX0_57 rfl dX0_countWays_44 ?_
  refine lv_aload_n hx hb dX0_countWays_47 rfl (lv_at hl 1 rfl) ?_
  refine z_get C G clX0 0 rfl 4 (by decide) m_fl_RX0_18 rfl dX0_countWays_48 ?_
  refine lv_iload_n hx hb dX0_countWays_51 rfl (lv_at hl 0 rfl) ?_
  refine z_ild C G 1 rfl (vp_in_nI (n := 6) (by decide) (by decide)) dX0_countWays_52 ?_
  refine lv_topi (fun v_11 ev_11 => ?_)
  have ev_11 : v_11 = zCh cr inn k1 6 := ev_11
  subst ev_11
  refine lv_imul hx hb dX0_countWays_53 ?_
  refine lv_topi (fun y_12 ey_12 => ?_)
  obtain rfl : y_12 = zWyN cr inn k1 1 := ey_12
  refine z_put C G clX0 0 rfl 1 (by decide) m_fl_RX0_57 rfl rfl rfl (Nat.le_of_ble_eq_true rfl) dX0_countWays_54 (fun H locs G => ?_)
  have G : zS T A s.heap s [[zO0 h md (zWyN cr inn k1 1) o pc_ a1_1 a2_2 a3_3 a4_4 a5_5 a6_6], [zAr T 0 a1_1 7 (upd f1 6 (zCh cr inn k1 6))], [zAr T 0 a2_2 7 (upd f2 6 1)], [zAr T 0 a3_3 7 f3], [zAr T 0 a4_4 n4 f4], [zAr T 0 a5_5 n4 f5], [zAr T 0 a6_6 n4 f6], z] _ _ := G
  refine lv_iinc (v := 5) (lv' := [(2, .int 5), (0, .ref h), (1, .ref o)]) hx hb dX0_countWays_57 hl (k := 0) rfl (by decide) (by decide) (zLvf_h rfl) (fun ls hl => ?_)
  refine lv_goto (tgt := 13) hx hb dX0_countWays_60 (by decide) ?_
  refine lv_iload_n hx hb dX0_countWays_13 rfl (lv_at hl 0 rfl) ?_
  refine lv_if_lt (tgt := 63) hx hb dX0_countWays_14 (by decide) (fun q => absurd q (by decide)) (fun _ => ?_)
  refine lv_aload_n hx hb dX0_countWays_17 rfl (lv_at hl 1 rfl) ?_
  refine z_get C G clX0 0 rfl 4 (by decide) m_fl_RX0_18 rfl dX0_countWays_18 ?_
  refine lv_iload_n hx hb dX0_countWays_21 rfl (lv_at hl 0 rfl) ?_
  refine lv_aload_n hx hb dX0_countWays_22 rfl (lv_at hl 2 rfl) ?_
  refine lv_iload_n hx hb dX0_countWays_23 rfl (lv_at hl 0 rfl) ?_
  refine z_Vi (bc := [z]) (br := [[zO0 h md (zWyN cr inn k1 1) o pc_ a1_1 a2_2 a3_3 a4_4 a5_5 a6_6], [zAr T 0 a1_1 7 (upd f1 6 (zCh cr inn k1 6))], [zAr T 0 a2_2 7 (upd f2 6 1)], [zAr T 0 a3_3 7 f3], [zAr T 0 a4_4 n4 f4], [zAr T 0 a5_5 n4 f5], [zAr T 0 a6_6 n4 f6]]) (As := [.int 5]) (rest := [.int 5, .ref a1_1]) C G (c_waysOut l T o cr inn k1 k2 k3 k4 z 5 hz) (kV_RX0_61 C.2.2.2.2 (Nat.le_of_ble_eq_true rfl) (Nat.le_of_ble_eq_true rfl)) [7] [7] rfl rfl (ci := 4) (qc := (RX4, TX4, 6)) rfl rfl (List.mem_flatten.mpr ⟨_, List.mem_of_getElem? (i := 0) rfl, (bLand_mem hz).choose_spec⟩) rfl rfl hl.1 dX0_countWays_24 (Nat.le_of_ble_eq_true rfl) (Nat.le_of_ble_eq_true rfl) (fun r_14 b1 H locs hw G => ?_)
  refine zAn2 hw ?_
  intro hbs9 h_13
  clear hw
  subst hbs9
  have G : zS T A s.heap s [[zO0 h md (zWyN cr inn k1 1) o pc_ a1_1 a2_2 a3_3 a4_4 a5_5 a6_6], [zAr T 0 a1_1 7 (upd f1 6 (zCh cr inn k1 6))], [zAr T 0 a2_2 7 (upd f2 6 1)], [zAr T 0 a3_3 7 f3], [zAr T 0 a4_4 n4 f4], [zAr T 0 a5_5 n4 f5], [zAr T 0 a6_6 n4 f6], z] _ _ := G
  subst h_13
  refine lv_iconst (v := 1) hx hb dX0_countWays_27 (by decide) ?_
  refine va_mmax hx hb (C.2.2.1.trans hl.1.symm) C.2.2.2.1 (C.2.2.2.2 _ m_ml_RX0_65) (C.2.2.2.2 _ m_st_math_max) (C.2.2.2.2 _ m_ii_math) (C.2.2.2.2 _ m_co_math_max) (Nat.le_of_ble_eq_true rfl) (Nat.le_of_ble_eq_true rfl) (Nat.le_of_ble_eq_true rfl) (Nat.le_of_ble_eq_true rfl) dX0_countWays_28 ?_
  refine lv_topi (fun v_15 ev_15 => ?_)
  subst ev_15
  refine lv_topi (fun y_16 ey_16 => ?_)
  obtain rfl : y_16 = zCh cr inn k1 5 := ey_16
  refine z_ist C G 1 rfl (vp_in_nI (n := 5) (by decide) (by decide)) dX0_countWays_31 (fun H locs G => ?_)
  have G : zS T A s.heap s [[zO0 h md (zWyN cr inn k1 1) o pc_ a1_1 a2_2 a3_3 a4_4 a5_5 a6_6], [zAr T 0 a1_1 7 (upd (upd f1 6 (zCh cr inn k1 6)) 5 (zCh cr inn k1 5))], [zAr T 0 a2_2 7 (upd f2 6 1)], [zAr T 0 a3_3 7 f3], [zAr T 0 a4_4 n4 f4], [zAr T 0 a5_5 n4 f5], [zAr T 0 a6_6 n4 f6], z] _ _ := G
  refine lv_aload_n hx hb dX0_countWays_32 rfl (lv_at hl 1 rfl) ?_
  refine z_get C G clX0 0 rfl 5 (by decide) m_fl_RX0_22 rfl dX0_countWays_33 ?_
  refine lv_iload_n hx hb dX0_countWays_36 rfl (lv_at hl 0 rfl) ?_
  refine lv_aload_n hx hb dX0_countWays_37 rfl (lv_at hl 1 rfl) ?_
  refine z_get C G clX0 0 rfl 1 (by decide) m_fl_RX0_57 rfl dX0_countWays_38 ?_
  refine z_ist C G 2 rfl (vp_in_nI (n := 5) (by decide) (by decide)) dX0_countWays_41 (fun H locs G => ?_)
  have G : zS T A s.heap s [[zO0 h md (zWyN cr inn k1 1) o pc_ a1_1 a2_2 a3_3 a4_4 a5_5 a6_6], [zAr T 0 a1_1 7 (upd (upd f1 6 (zCh cr inn k1 6)) 5 (zCh cr inn k1 5))], [zAr T 0 a2_2 7 (upd (upd f2 6 1) 5 (zWyN cr inn k1 1))], [zAr T 0 a3_3 7 f3], [zAr T 0 a4_4 n4 f4], [zAr T 0 a5_5 n4 f5], [zAr T 0 a6_6 n4 f6], z] _ _ := G
  refine lv_aload_n hx hb dX0_countWays_42 rfl (lv_at hl 1 rfl) ?_
  refine lv_dup hx hb dX0_countWays_43 rfl ?_
  refine z_get C G clX0 0 rfl 1 (by decide) m_fl_RX0_57 rfl dX0_countWays_44 ?_
  refine lv_aload_n hx hb dX0_countWays_47 rfl (lv_at hl 1 rfl) ?_
  refine z_get C G clX0 0 rfl 4 (by decide) m_fl_RX0_18 rfl dX0_countWays_48 ?_
  refine lv_iload_n hx hb dX0_countWays_51 rfl (lv_at hl 0 rfl) ?_
  refine z_ild C G 1 rfl (vp_in_nI (n := 5) (by decide) (by decide)) dX0_countWays_52 ?_
  refine lv_topi (fun v_17 ev_17 => ?_)
  have ev_17 : v_17 = zCh cr inn k1 5 := ev_17
  subst ev_17
  refine lv_imul hx hb dX0_countWays_53 ?_
  refine lv_topi (fun y_18 ey_18 => ?_)
  obtain rfl : y_18 = zWyN cr inn k1 2 := ey_18
  refine z_put C G clX0 0 rfl 1 (by decide) m_fl_RX0_57 rfl rfl rfl (Nat.le_of_ble_eq_true rfl) dX0_countWays_54 (fun H locs G => ?_)
  have G : zS T A s.heap s [[zO0 h md (zWyN cr inn k1 2) o pc_ a1_1 a2_2 a3_3 a4_4 a5_5 a6_6], [zAr T 0 a1_1 7 (upd (upd f1 6 (zCh cr inn k1 6)) 5 (zCh cr inn k1 5))], [zAr T 0 a2_2 7 (upd (upd f2 6 1) 5 (zWyN cr inn k1 1))], [zAr T 0 a3_3 7 f3], [zAr T 0 a4_4 n4 f4], [zAr T 0 a5_5 n4 f5], [zAr T 0 a6_6 n4 f6], z] _ _ := G
  refine lv_iinc (v := 4) (lv' := [(2, .int 4), (0, .ref h), (1, .ref o)]) hx hb dX0_countWays_57 hl (k := 0) rfl (by decide) (by decide) (zLvf_h rfl) (fun ls hl => ?_)
  refine lv_goto (tgt := 13) hx hb dX0_countWays_60 (by decide) ?_
  refine lv_iload_n hx hb dX0_countWays_13 rfl (lv_at hl 0 rfl) ?_
  refine lv_if_lt (tgt := 63) hx hb dX0_countWays_14 (by decide) (fun q => absurd q (by decide)) (fun _ => ?_)
  refine lv_aload_n hx hb dX0_countWays_17 rfl (lv_at hl 1 rfl) ?_
  refine z_get C G clX0 0 rfl 4 (by decide) m_fl_RX0_18 rfl dX0_countWays_18 ?_
  refine lv_iload_n hx hb dX0_countWays_21 rfl (lv_at hl 0 rfl) ?_
  refine lv_aload_n hx hb dX0_countWays_22 rfl (lv_at hl 2 rfl) ?_
  refine lv_iload_n hx hb dX0_countWays_23 rfl (lv_at hl 0 rfl) ?_
  refine z_Vi (bc := [z]) (br := [[zO0 h md (zWyN cr inn k1 2) o pc_ a1_1 a2_2 a3_3 a4_4 a5_5 a6_6], [zAr T 0 a1_1 7 (upd (upd f1 6 (zCh cr inn k1 6)) 5 (zCh cr inn k1 5))], [zAr T 0 a2_2 7 (upd (upd f2 6 1) 5 (zWyN cr inn k1 1))], [zAr T 0 a3_3 7 f3], [zAr T 0 a4_4 n4 f4], [zAr T 0 a5_5 n4 f5], [zAr T 0 a6_6 n4 f6]]) (As := [.int 4]) (rest := [.int 4, .ref a1_1]) C G (c_waysOut l T o cr inn k1 k2 k3 k4 z 4 hz) (kV_RX0_61 C.2.2.2.2 (Nat.le_of_ble_eq_true rfl) (Nat.le_of_ble_eq_true rfl)) [7] [7] rfl rfl (ci := 4) (qc := (RX4, TX4, 6)) rfl rfl (List.mem_flatten.mpr ⟨_, List.mem_of_getElem? (i := 0) rfl, (bLand_mem hz).choose_spec⟩) rfl rfl hl.1 dX0_countWays_24 (Nat.le_of_ble_eq_true rfl) (Nat.le_of_ble_eq_true rfl) (fun r_20 b1 H locs hw G => ?_)
  refine zAn2 hw ?_
  intro hbs9 h_19
  clear hw
  subst hbs9
  have G : zS T A s.heap s [[zO0 h md (zWyN cr inn k1 2) o pc_ a1_1 a2_2 a3_3 a4_4 a5_5 a6_6], [zAr T 0 a1_1 7 (upd (upd f1 6 (zCh cr inn k1 6)) 5 (zCh cr inn k1 5))], [zAr T 0 a2_2 7 (upd (upd f2 6 1) 5 (zWyN cr inn k1 1))], [zAr T 0 a3_3 7 f3], [zAr T 0 a4_4 n4 f4], [zAr T 0 a5_5 n4 f5], [zAr T 0 a6_6 n4 f6], z] _ _ := G
  subst h_19
  refine lv_iconst (v := 1) hx hb dX0_countWays_27 (by decide) ?_
  refine va_mmax hx hb (C.2.2.1.trans hl.1.symm) C.2.2.2.1 (C.2.2.2.2 _ m_ml_RX0_65) (C.2.2.2.2 _ m_st_math_max) (C.2.2.2.2 _ m_ii_math) (C.2.2.2.2 _ m_co_math_max) (Nat.le_of_ble_eq_true rfl) (Nat.le_of_ble_eq_true rfl) (Nat.le_of_ble_eq_true rfl) (Nat.le_of_ble_eq_true rfl) dX0_countWays_28 ?_
  refine lv_topi (fun v_21 ev_21 => ?_)
  subst ev_21
  refine lv_topi (fun y_22 ey_22 => ?_)
  obtain rfl : y_22 = zCh cr inn k1 4 := ey_22
  refine z_ist C G 1 rfl (vp_in_nI (n := 4) (by decide) (by decide)) dX0_countWays_31 (fun H locs G => ?_)
  have G : zS T A s.heap s [[zO0 h md (zWyN cr inn k1 2) o pc_ a1_1 a2_2 a3_3 a4_4 a5_5 a6_6], [zAr T 0 a1_1 7 (upd (upd (upd f1 6 (zCh cr inn k1 6)) 5 (zCh cr inn k1 5)) 4 (zCh cr inn k1 4))], [zAr T 0 a2_2 7 (upd (upd f2 6 1) 5 (zWyN cr inn k1 1))], [zAr T 0 a3_3 7 f3], [zAr T 0 a4_4 n4 f4], [zAr T 0 a5_5 n4 f5], [zAr T 0 a6_6 n4 f6], z] _ _ := G
  refine lv_aload_n hx hb dX0_countWays_32 rfl (lv_at hl 1 rfl) ?_
  refine z_get C G clX0 0 rfl 5 (by decide) m_fl_RX0_22 rfl dX0_countWays_33 ?_
  refine lv_iload_n hx hb dX0_countWays_36 rfl (lv_at hl 0 rfl) ?_
  refine lv_aload_n hx hb dX0_countWays_37 rfl (lv_at hl 1 rfl) ?_
  refine z_get C G clX0 0 rfl 1 (by decide) m_fl_RX0_57 rfl dX0_countWays_38 ?_
  refine z_ist C G 2 rfl (vp_in_nI (n := 4) (by decide) (by decide)) dX0_countWays_41 (fun H locs G => ?_)
  have G : zS T A s.heap s [[zO0 h md (zWyN cr inn k1 2) o pc_ a1_1 a2_2 a3_3 a4_4 a5_5 a6_6], [zAr T 0 a1_1 7 (upd (upd (upd f1 6 (zCh cr inn k1 6)) 5 (zCh cr inn k1 5)) 4 (zCh cr inn k1 4))], [zAr T 0 a2_2 7 (upd (upd (upd f2 6 1) 5 (zWyN cr inn k1 1)) 4 (zWyN cr inn k1 2))], [zAr T 0 a3_3 7 f3], [zAr T 0 a4_4 n4 f4], [zAr T 0 a5_5 n4 f5], [zAr T 0 a6_6 n4 f6], z] _ _ := G
  refine lv_aload_n hx hb dX0_countWays_42 rfl (lv_at hl 1 rfl) ?_
  refine lv_dup hx hb dX0_countWays_43 rfl ?_
  refine z_get C G clX0 0 rfl 1 (by decide) m_fl_RX0_57 rfl dX0_countWays_44 ?_
  refine lv_aload_n hx hb dX0_countWays_47 rfl (lv_at hl 1 rfl) ?_
  refine z_get C G clX0 0 rfl 4 (by decide) m_fl_RX0_18 rfl dX0_countWays_48 ?_
  refine lv_iload_n hx hb dX0_countWays_51 rfl (lv_at hl 0 rfl) ?_
  refine z_ild C G 1 rfl (vp_in_nI (n := 4) (by decide) (by decide)) dX0_countWays_52 ?_
  refine lv_topi (fun v_23 ev_23 => ?_)
  have ev_23 : v_23 = zCh cr inn k1 4 := ev_23
  subst ev_23
  refine lv_imul hx hb dX0_countWays_53 ?_
  refine lv_topi (fun y_24 ey_24 => ?_)
  obtain rfl : y_24 = zWyN cr inn k1 3 := ey_24
  refine z_put C G clX0 0 rfl 1 (by decide) m_fl_RX0_57 rfl rfl rfl (Nat.le_of_ble_eq_true rfl) dX0_countWays_54 (fun H locs G => ?_)
  have G : zS T A s.heap s [[zO0 h md (zWyN cr inn k1 3) o pc_ a1_1 a2_2 a3_3 a4_4 a5_5 a6_6], [zAr T 0 a1_1 7 (upd (upd (upd f1 6 (zCh cr inn k1 6)) 5 (zCh cr inn k1 5)) 4 (zCh cr inn k1 4))], [zAr T 0 a2_2 7 (upd (upd (upd f2 6 1) 5 (zWyN cr inn k1 1)) 4 (zWyN cr inn k1 2))], [zAr T 0 a3_3 7 f3], [zAr T 0 a4_4 n4 f4], [zAr T 0 a5_5 n4 f5], [zAr T 0 a6_6 n4 f6], z] _ _ := G
  refine lv_iinc (v := 3) (lv' := [(2, .int 3), (0, .ref h), (1, .ref o)]) hx hb dX0_countWays_57 hl (k := 0) rfl (by decide) (by decide) (zLvf_h rfl) (fun ls hl => ?_)
  refine lv_goto (tgt := 13) hx hb dX0_countWays_60 (by decide) ?_
  refine lv_iload_n hx hb dX0_countWays_13 rfl (lv_at hl 0 rfl) ?_
  refine lv_if_lt (tgt := 63) hx hb dX0_countWays_14 (by decide) (fun q => absurd q (by decide)) (fun _ => ?_)
  refine lv_aload_n hx hb dX0_countWays_17 rfl (lv_at hl 1 rfl) ?_
  refine z_get C G clX0 0 rfl 4 (by decide) m_fl_RX0_18 rfl dX0_countWays_18 ?_
  refine lv_iload_n hx hb dX0_countWays_21 rfl (lv_at hl 0 rfl) ?_
  refine lv_aload_n hx hb dX0_countWays_22 rfl (lv_at hl 2 rfl) ?_
  refine lv_iload_n hx hb dX0_countWays_23 rfl (lv_at hl 0 rfl) ?_
  refine z_Vi (bc := [z]) (br := [[zO0 h md (zWyN cr inn k1 3) o pc_ a1_1 a2_2 a3_3 a4_4 a5_5 a6_6], [zAr T 0 a1_1 7 (upd (upd (upd f1 6 (zCh cr inn k1 6)) 5 (zCh cr inn k1 5)) 4 (zCh cr inn k1 4))], [zAr T 0 a2_2 7 (upd (upd (upd f2 6 1) 5 (zWyN cr inn k1 1)) 4 (zWyN cr inn k1 2))], [zAr T 0 a3_3 7 f3], [zAr T 0 a4_4 n4 f4], [zAr T 0 a5_5 n4 f5], [zAr T 0 a6_6 n4 f6]]) (As := [.int 3]) (rest := [.int 3, .ref a1_1]) C G (c_waysOut l T o cr inn k1 k2 k3 k4 z 3 hz) (kV_RX0_61 C.2.2.2.2 (Nat.le_of_ble_eq_true rfl) (Nat.le_of_ble_eq_true rfl)) [7] [7] rfl rfl (ci := 4) (qc := (RX4, TX4, 6)) rfl rfl (List.mem_flatten.mpr ⟨_, List.mem_of_getElem? (i := 0) rfl, (bLand_mem hz).choose_spec⟩) rfl rfl hl.1 dX0_countWays_24 (Nat.le_of_ble_eq_true rfl) (Nat.le_of_ble_eq_true rfl) (fun r_26 b1 H locs hw G => ?_)
  refine zAn2 hw ?_
  intro hbs9 h_25
  clear hw
  subst hbs9
  have G : zS T A s.heap s [[zO0 h md (zWyN cr inn k1 3) o pc_ a1_1 a2_2 a3_3 a4_4 a5_5 a6_6], [zAr T 0 a1_1 7 (upd (upd (upd f1 6 (zCh cr inn k1 6)) 5 (zCh cr inn k1 5)) 4 (zCh cr inn k1 4))], [zAr T 0 a2_2 7 (upd (upd (upd f2 6 1) 5 (zWyN cr inn k1 1)) 4 (zWyN cr inn k1 2))], [zAr T 0 a3_3 7 f3], [zAr T 0 a4_4 n4 f4], [zAr T 0 a5_5 n4 f5], [zAr T 0 a6_6 n4 f6], z] _ _ := G
  subst h_25
  refine lv_iconst (v := 1) hx hb dX0_countWays_27 (by decide) ?_
  refine va_mmax hx hb (C.2.2.1.trans hl.1.symm) C.2.2.2.1 (C.2.2.2.2 _ m_ml_RX0_65) (C.2.2.2.2 _ m_st_math_max) (C.2.2.2.2 _ m_ii_math) (C.2.2.2.2 _ m_co_math_max) (Nat.le_of_ble_eq_true rfl) (Nat.le_of_ble_eq_true rfl) (Nat.le_of_ble_eq_true rfl) (Nat.le_of_ble_eq_true rfl) dX0_countWays_28 ?_
  refine lv_topi (fun v_27 ev_27 => ?_)
  subst ev_27
  refine lv_topi (fun y_28 ey_28 => ?_)
  obtain rfl : y_28 = zCh cr inn k1 3 := ey_28
  refine z_ist C G 1 rfl (vp_in_nI (n := 3) (by decide) (by decide)) dX0_countWays_31 (fun H locs G => ?_)
  have G : zS T A s.heap s [[zO0 h md (zWyN cr inn k1 3) o pc_ a1_1 a2_2 a3_3 a4_4 a5_5 a6_6], [zAr T 0 a1_1 7 (upd (upd (upd (upd f1 6 (zCh cr inn k1 6)) 5 (zCh cr inn k1 5)) 4 (zCh cr inn k1 4)) 3 (zCh cr inn k1 3))], [zAr T 0 a2_2 7 (upd (upd (upd f2 6 1) 5 (zWyN cr inn k1 1)) 4 (zWyN cr inn k1 2))], [zAr T 0 a3_3 7 f3], [zAr T 0 a4_4 n4 f4], [zAr T 0 a5_5 n4 f5], [zAr T 0 a6_6 n4 f6], z] _ _ := G
  refine lv_aload_n hx hb dX0_countWays_32 rfl (lv_at hl 1 rfl) ?_
  refine z_get C G clX0 0 rfl 5 (by decide) m_fl_RX0_22 rfl dX0_countWays_33 ?_
  refine lv_iload_n hx hb dX0_countWays_36 rfl (lv_at hl 0 rfl) ?_
  refine lv_aload_n hx hb dX0_countWays_37 rfl (lv_at hl 1 rfl) ?_
  refine z_get C G clX0 0 rfl 1 (by decide) m_fl_RX0_57 rfl dX0_countWays_38 ?_
  refine z_ist C G 2 rfl (vp_in_nI (n := 3) (by decide) (by decide)) dX0_countWays_41 (fun H locs G => ?_)
  have G : zS T A s.heap s [[zO0 h md (zWyN cr inn k1 3) o pc_ a1_1 a2_2 a3_3 a4_4 a5_5 a6_6], [zAr T 0 a1_1 7 (upd (upd (upd (upd f1 6 (zCh cr inn k1 6)) 5 (zCh cr inn k1 5)) 4 (zCh cr inn k1 4)) 3 (zCh cr inn k1 3))], [zAr T 0 a2_2 7 (upd (upd (upd (upd f2 6 1) 5 (zWyN cr inn k1 1)) 4 (zWyN cr inn k1 2)) 3 (zWyN cr inn k1 3))], [zAr T 0 a3_3 7 f3], [zAr T 0 a4_4 n4 f4], [zAr T 0 a5_5 n4 f5], [zAr T 0 a6_6 n4 f6], z] _ _ := G
  refine lv_aload_n hx hb dX0_countWays_42 rfl (lv_at hl 1 rfl) ?_
  refine lv_dup hx hb dX0_countWays_43 rfl ?_
  refine z_get C G clX0 0 rfl 1 (by decide) m_fl_RX0_57 rfl dX0_countWays_44 ?_
  refine lv_aload_n hx hb dX0_countWays_47 rfl (lv_at hl 1 rfl) ?_
  refine z_get C G clX0 0 rfl 4 (by decide) m_fl_RX0_18 rfl dX0_countWays_48 ?_
  refine lv_iload_n hx hb dX0_countWays_51 rfl (lv_at hl 0 rfl) ?_
  refine z_ild C G 1 rfl (vp_in_nI (n := 3) (by decide) (by decide)) dX0_countWays_52 ?_
  refine lv_topi (fun v_29 ev_29 => ?_)
  have ev_29 : v_29 = zCh cr inn k1 3 := ev_29
  subst ev_29
  refine lv_imul hx hb dX0_countWays_53 ?_
  refine lv_topi (fun y_30 ey_30 => ?_)
  obtain rfl : y_30 = zWyN cr inn k1 4 := ey_30
  refine z_put C G clX0 0 rfl 1 (by decide) m_fl_RX0_57 rfl rfl rfl (Nat.le_of_ble_eq_true rfl) dX0_countWays_54 (fun H locs G => ?_)
  have G : zS T A s.heap s [[zO0 h md (zWyN cr inn k1 4) o pc_ a1_1 a2_2 a3_3 a4_4 a5_5 a6_6], [zAr T 0 a1_1 7 (upd (upd (upd (upd f1 6 (zCh cr inn k1 6)) 5 (zCh cr inn k1 5)) 4 (zCh cr inn k1 4)) 3 (zCh cr inn k1 3))], [zAr T 0 a2_2 7 (upd (upd (upd (upd f2 6 1) 5 (zWyN cr inn k1 1)) 4 (zWyN cr inn k1 2)) 3 (zWyN cr inn k1 3))], [zAr T 0 a3_3 7 f3], [zAr T 0 a4_4 n4 f4], [zAr T 0 a5_5 n4 f5], [zAr T 0 a6_6 n4 f6], z] _ _ := G
  refine lv_iinc (v := 2) (lv' := [(2, .int 2), (0, .ref h), (1, .ref o)]) hx hb dX0_countWays_57 hl (k := 0) rfl (by decide) (by decide) (zLvf_h rfl) (fun ls hl => ?_)
  refine lv_goto (tgt := 13) hx hb dX0_countWays_60 (by decide) ?_
  refine lv_iload_n hx hb dX0_countWays_13 rfl (lv_at hl 0 rfl) ?_
  refine lv_if_lt (tgt := 63) hx hb dX0_countWays_14 (by decide) (fun q => absurd q (by decide)) (fun _ => ?_)
  refine lv_aload_n hx hb dX0_countWays_17 rfl (lv_at hl 1 rfl) ?_
  refine z_get C G clX0 0 rfl 4 (by decide) m_fl_RX0_18 rfl dX0_countWays_18 ?_
  refine lv_iload_n hx hb dX0_countWays_21 rfl (lv_at hl 0 rfl) ?_
  refine lv_aload_n hx hb dX0_countWays_22 rfl (lv_at hl 2 rfl) ?_
  refine lv_iload_n hx hb dX0_countWays_23 rfl (lv_at hl 0 rfl) ?_
  refine z_Vi (bc := [z]) (br := [[zO0 h md (zWyN cr inn k1 4) o pc_ a1_1 a2_2 a3_3 a4_4 a5_5 a6_6], [zAr T 0 a1_1 7 (upd (upd (upd (upd f1 6 (zCh cr inn k1 6)) 5 (zCh cr inn k1 5)) 4 (zCh cr inn k1 4)) 3 (zCh cr inn k1 3))], [zAr T 0 a2_2 7 (upd (upd (upd (upd f2 6 1) 5 (zWyN cr inn k1 1)) 4 (zWyN cr inn k1 2)) 3 (zWyN cr inn k1 3))], [zAr T 0 a3_3 7 f3], [zAr T 0 a4_4 n4 f4], [zAr T 0 a5_5 n4 f5], [zAr T 0 a6_6 n4 f6]]) (As := [.int 2]) (rest := [.int 2, .ref a1_1]) C G (c_waysOut l T o cr inn k1 k2 k3 k4 z 2 hz) (kV_RX0_61 C.2.2.2.2 (Nat.le_of_ble_eq_true rfl) (Nat.le_of_ble_eq_true rfl)) [7] [7] rfl rfl (ci := 4) (qc := (RX4, TX4, 6)) rfl rfl (List.mem_flatten.mpr ⟨_, List.mem_of_getElem? (i := 0) rfl, (bLand_mem hz).choose_spec⟩) rfl rfl hl.1 dX0_countWays_24 (Nat.le_of_ble_eq_true rfl) (Nat.le_of_ble_eq_true rfl) (fun r_32 b1 H locs hw G => ?_)
  refine zAn2 hw ?_
  intro hbs9 h_31
  clear hw
  subst hbs9
  have G : zS T A s.heap s [[zO0 h md (zWyN cr inn k1 4) o pc_ a1_1 a2_2 a3_3 a4_4 a5_5 a6_6], [zAr T 0 a1_1 7 (upd (upd (upd (upd f1 6 (zCh cr inn k1 6)) 5 (zCh cr inn k1 5)) 4 (zCh cr inn k1 4)) 3 (zCh cr inn k1 3))], [zAr T 0 a2_2 7 (upd (upd (upd (upd f2 6 1) 5 (zWyN cr inn k1 1)) 4 (zWyN cr inn k1 2)) 3 (zWyN cr inn k1 3))], [zAr T 0 a3_3 7 f3], [zAr T 0 a4_4 n4 f4], [zAr T 0 a5_5 n4 f5], [zAr T 0 a6_6 n4 f6], z] _ _ := G
  subst h_31
  refine lv_iconst (v := 1) hx hb dX0_countWays_27 (by decide) ?_
  refine va_mmax hx hb (C.2.2.1.trans hl.1.symm) C.2.2.2.1 (C.2.2.2.2 _ m_ml_RX0_65) (C.2.2.2.2 _ m_st_math_max) (C.2.2.2.2 _ m_ii_math) (C.2.2.2.2 _ m_co_math_max) (Nat.le_of_ble_eq_true rfl) (Nat.le_of_ble_eq_true rfl) (Nat.le_of_ble_eq_true rfl) (Nat.le_of_ble_eq_true rfl) dX0_countWays_28 ?_
  refine lv_topi (fun v_33 ev_33 => ?_)
  subst ev_33
  refine lv_topi (fun y_34 ey_34 => ?_)
  obtain rfl : y_34 = zCh cr inn k1 2 := ey_34
  refine z_ist C G 1 rfl (vp_in_nI (n := 2) (by decide) (by decide)) dX0_countWays_31 (fun H locs G => ?_)
  have G : zS T A s.heap s [[zO0 h md (zWyN cr inn k1 4) o pc_ a1_1 a2_2 a3_3 a4_4 a5_5 a6_6], [zAr T 0 a1_1 7 (upd (upd (upd (upd (upd f1 6 (zCh cr inn k1 6)) 5 (zCh cr inn k1 5)) 4 (zCh cr inn k1 4)) 3 (zCh cr inn k1 3)) 2 (zCh cr inn k1 2))], [zAr T 0 a2_2 7 (upd (upd (upd (upd f2 6 1) 5 (zWyN cr inn k1 1)) 4 (zWyN cr inn k1 2)) 3 (zWyN cr inn k1 3))], [zAr T 0 a3_3 7 f3], [zAr T 0 a4_4 n4 f4], [zAr T 0 a5_5 n4 f5], [zAr T 0 a6_6 n4 f6], z] _ _ := G
  refine lv_aload_n hx hb dX0_countWays_32 rfl (lv_at hl 1 rfl) ?_
  refine z_get C G clX0 0 rfl 5 (by decide) m_fl_RX0_22 rfl dX0_countWays_33 ?_
  refine lv_iload_n hx hb dX0_countWays_36 rfl (lv_at hl 0 rfl) ?_
  refine lv_aload_n hx hb dX0_countWays_37 rfl (lv_at hl 1 rfl) ?_
  refine z_get C G clX0 0 rfl 1 (by decide) m_fl_RX0_57 rfl dX0_countWays_38 ?_
  refine z_ist C G 2 rfl (vp_in_nI (n := 2) (by decide) (by decide)) dX0_countWays_41 (fun H locs G => ?_)
  have G : zS T A s.heap s [[zO0 h md (zWyN cr inn k1 4) o pc_ a1_1 a2_2 a3_3 a4_4 a5_5 a6_6], [zAr T 0 a1_1 7 (upd (upd (upd (upd (upd f1 6 (zCh cr inn k1 6)) 5 (zCh cr inn k1 5)) 4 (zCh cr inn k1 4)) 3 (zCh cr inn k1 3)) 2 (zCh cr inn k1 2))], [zAr T 0 a2_2 7 (upd (upd (upd (upd (upd f2 6 1) 5 (zWyN cr inn k1 1)) 4 (zWyN cr inn k1 2)) 3 (zWyN cr inn k1 3)) 2 (zWyN cr inn k1 4))], [zAr T 0 a3_3 7 f3], [zAr T 0 a4_4 n4 f4], [zAr T 0 a5_5 n4 f5], [zAr T 0 a6_6 n4 f6], z] _ _ := G
  refine lv_aload_n hx hb dX0_countWays_42 rfl (lv_at hl 1 rfl) ?_
  refine lv_dup hx hb dX0_countWays_43 rfl ?_
  refine z_get C G clX0 0 rfl 1 (by decide) m_fl_RX0_57 rfl dX0_countWays_44 ?_
  refine lv_aload_n hx hb dX0_countWays_47 rfl (lv_at hl 1 rfl) ?_
  refine z_get C G clX0 0 rfl 4 (by decide) m_fl_RX0_18 rfl dX0_countWays_48 ?_
  refine lv_iload_n hx hb dX0_countWays_51 rfl (lv_at hl 0 rfl) ?_
  refine z_ild C G 1 rfl (vp_in_nI (n := 2) (by decide) (by decide)) dX0_countWays_52 ?_
  refine lv_topi (fun v_35 ev_35 => ?_)
  have ev_35 : v_35 = zCh cr inn k1 2 := ev_35
  subst ev_35
  refine lv_imul hx hb dX0_countWays_53 ?_
  refine lv_topi (fun y_36 ey_36 => ?_)
  obtain rfl : y_36 = zWyN cr inn k1 5 := ey_36
  refine z_put C G clX0 0 rfl 1 (by decide) m_fl_RX0_57 rfl rfl rfl (Nat.le_of_ble_eq_true rfl) dX0_countWays_54 (fun H locs G => ?_)
  have G : zS T A s.heap s [[zO0 h md (zWyN cr inn k1 5) o pc_ a1_1 a2_2 a3_3 a4_4 a5_5 a6_6], [zAr T 0 a1_1 7 (upd (upd (upd (upd (upd f1 6 (zCh cr inn k1 6)) 5 (zCh cr inn k1 5)) 4 (zCh cr inn k1 4)) 3 (zCh cr inn k1 3)) 2 (zCh cr inn k1 2))], [zAr T 0 a2_2 7 (upd (upd (upd (upd (upd f2 6 1) 5 (zWyN cr inn k1 1)) 4 (zWyN cr inn k1 2)) 3 (zWyN cr inn k1 3)) 2 (zWyN cr inn k1 4))], [zAr T 0 a3_3 7 f3], [zAr T 0 a4_4 n4 f4], [zAr T 0 a5_5 n4 f5], [zAr T 0 a6_6 n4 f6], z] _ _ := G
  refine lv_iinc (v := 1) (lv' := [(2, .int 1), (0, .ref h), (1, .ref o)]) hx hb dX0_countWays_57 hl (k := 0) rfl (by decide) (by decide) (zLvf_h rfl) (fun ls hl => ?_)
  refine lv_goto (tgt := 13) hx hb dX0_countWays_60 (by decide) ?_
  refine lv_iload_n hx hb dX0_countWays_13 rfl (lv_at hl 0 rfl) ?_
  refine lv_if_lt (tgt := 63) hx hb dX0_countWays_14 (by decide) (fun q => absurd q (by decide)) (fun _ => ?_)
  refine lv_aload_n hx hb dX0_countWays_17 rfl (lv_at hl 1 rfl) ?_
  refine z_get C G clX0 0 rfl 4 (by decide) m_fl_RX0_18 rfl dX0_countWays_18 ?_
  refine lv_iload_n hx hb dX0_countWays_21 rfl (lv_at hl 0 rfl) ?_
  refine lv_aload_n hx hb dX0_countWays_22 rfl (lv_at hl 2 rfl) ?_
  refine lv_iload_n hx hb dX0_countWays_23 rfl (lv_at hl 0 rfl) ?_
  refine z_Vi (bc := [z]) (br := [[zO0 h md (zWyN cr inn k1 5) o pc_ a1_1 a2_2 a3_3 a4_4 a5_5 a6_6], [zAr T 0 a1_1 7 (upd (upd (upd (upd (upd f1 6 (zCh cr inn k1 6)) 5 (zCh cr inn k1 5)) 4 (zCh cr inn k1 4)) 3 (zCh cr inn k1 3)) 2 (zCh cr inn k1 2))], [zAr T 0 a2_2 7 (upd (upd (upd (upd (upd f2 6 1) 5 (zWyN cr inn k1 1)) 4 (zWyN cr inn k1 2)) 3 (zWyN cr inn k1 3)) 2 (zWyN cr inn k1 4))], [zAr T 0 a3_3 7 f3], [zAr T 0 a4_4 n4 f4], [zAr T 0 a5_5 n4 f5], [zAr T 0 a6_6 n4 f6]]) (As := [.int 1]) (rest := [.int 1, .ref a1_1]) C G (c_waysOut l T o cr inn k1 k2 k3 k4 z 1 hz) (kV_RX0_61 C.2.2.2.2 (Nat.le_of_ble_eq_true rfl) (Nat.le_of_ble_eq_true rfl)) [7] [7] rfl rfl (ci := 4) (qc := (RX4, TX4, 6)) rfl rfl (List.mem_flatten.mpr ⟨_, List.mem_of_getElem? (i := 0) rfl, (bLand_mem hz).choose_spec⟩) rfl rfl hl.1 dX0_countWays_24 (Nat.le_of_ble_eq_true rfl) (Nat.le_of_ble_eq_true rfl) (fun r_38 b1 H locs hw G => ?_)
  refine zAn2 hw ?_
  intro hbs9 h_37
  clear hw
  subst hbs9
  have G : zS T A s.heap s [[zO0 h md (zWyN cr inn k1 5) o pc_ a1_1 a2_2 a3_3 a4_4 a5_5 a6_6], [zAr T 0 a1_1 7 (upd (upd (upd (upd (upd f1 6 (zCh cr inn k1 6)) 5 (zCh cr inn k1 5)) 4 (zCh cr inn k1 4)) 3 (zCh cr inn k1 3)) 2 (zCh cr inn k1 2))], [zAr T 0 a2_2 7 (upd (upd (upd (upd (upd f2 6 1) 5 (zWyN cr inn k1 1)) 4 (zWyN cr inn k1 2)) 3 (zWyN cr inn k1 3)) 2 (zWyN cr inn k1 4))], [zAr T 0 a3_3 7 f3], [zAr T 0 a4_4 n4 f4], [zAr T 0 a5_5 n4 f5], [zAr T 0 a6_6 n4 f6], z] _ _ := G
  subst h_37
  refine lv_iconst (v := 1) hx hb dX0_countWays_27 (by decide) ?_
  refine va_mmax hx hb (C.2.2.1.trans hl.1.symm) C.2.2.2.1 (C.2.2.2.2 _ m_ml_RX0_65) (C.2.2.2.2 _ m_st_math_max) (C.2.2.2.2 _ m_ii_math) (C.2.2.2.2 _ m_co_math_max) (Nat.le_of_ble_eq_true rfl) (Nat.le_of_ble_eq_true rfl) (Nat.le_of_ble_eq_true rfl) (Nat.le_of_ble_eq_true rfl) dX0_countWays_28 ?_
  refine lv_topi (fun v_39 ev_39 => ?_)
  subst ev_39
  refine lv_topi (fun y_40 ey_40 => ?_)
  obtain rfl : y_40 = zCh cr inn k1 1 := ey_40
  refine z_ist C G 1 rfl (vp_in_nI (n := 1) (by decide) (by decide)) dX0_countWays_31 (fun H locs G => ?_)
  have G : zS T A s.heap s [[zO0 h md (zWyN cr inn k1 5) o pc_ a1_1 a2_2 a3_3 a4_4 a5_5 a6_6], [zAr T 0 a1_1 7 (upd (upd (upd (upd (upd (upd f1 6 (zCh cr inn k1 6)) 5 (zCh cr inn k1 5)) 4 (zCh cr inn k1 4)) 3 (zCh cr inn k1 3)) 2 (zCh cr inn k1 2)) 1 (zCh cr inn k1 1))], [zAr T 0 a2_2 7 (upd (upd (upd (upd (upd f2 6 1) 5 (zWyN cr inn k1 1)) 4 (zWyN cr inn k1 2)) 3 (zWyN cr inn k1 3)) 2 (zWyN cr inn k1 4))], [zAr T 0 a3_3 7 f3], [zAr T 0 a4_4 n4 f4], [zAr T 0 a5_5 n4 f5], [zAr T 0 a6_6 n4 f6], z] _ _ := G
  refine lv_aload_n hx hb dX0_countWays_32 rfl (lv_at hl 1 rfl) ?_
  refine z_get C G clX0 0 rfl 5 (by decide) m_fl_RX0_22 rfl dX0_countWays_33 ?_
  refine lv_iload_n hx hb dX0_countWays_36 rfl (lv_at hl 0 rfl) ?_
  refine lv_aload_n hx hb dX0_countWays_37 rfl (lv_at hl 1 rfl) ?_
  refine z_get C G clX0 0 rfl 1 (by decide) m_fl_RX0_57 rfl dX0_countWays_38 ?_
  refine z_ist C G 2 rfl (vp_in_nI (n := 1) (by decide) (by decide)) dX0_countWays_41 (fun H locs G => ?_)
  have G : zS T A s.heap s [[zO0 h md (zWyN cr inn k1 5) o pc_ a1_1 a2_2 a3_3 a4_4 a5_5 a6_6], [zAr T 0 a1_1 7 (upd (upd (upd (upd (upd (upd f1 6 (zCh cr inn k1 6)) 5 (zCh cr inn k1 5)) 4 (zCh cr inn k1 4)) 3 (zCh cr inn k1 3)) 2 (zCh cr inn k1 2)) 1 (zCh cr inn k1 1))], [zAr T 0 a2_2 7 (upd (upd (upd (upd (upd (upd f2 6 1) 5 (zWyN cr inn k1 1)) 4 (zWyN cr inn k1 2)) 3 (zWyN cr inn k1 3)) 2 (zWyN cr inn k1 4)) 1 (zWyN cr inn k1 5))], [zAr T 0 a3_3 7 f3], [zAr T 0 a4_4 n4 f4], [zAr T 0 a5_5 n4 f5], [zAr T 0 a6_6 n4 f6], z] _ _ := G
  refine lv_aload_n hx hb dX0_countWays_42 rfl (lv_at hl 1 rfl) ?_
  refine lv_dup hx hb dX0_countWays_43 rfl ?_
  refine z_get C G clX0 0 rfl 1 (by decide) m_fl_RX0_57 rfl dX0_countWays_44 ?_
  refine lv_aload_n hx hb dX0_countWays_47 rfl (lv_at hl 1 rfl) ?_
  refine z_get C G clX0 0 rfl 4 (by decide) m_fl_RX0_18 rfl dX0_countWays_48 ?_
  refine lv_iload_n hx hb dX0_countWays_51 rfl (lv_at hl 0 rfl) ?_
  refine z_ild C G 1 rfl (vp_in_nI (n := 1) (by decide) (by decide)) dX0_countWays_52 ?_
  refine lv_topi (fun v_41 ev_41 => ?_)
  have ev_41 : v_41 = zCh cr inn k1 1 := ev_41
  subst ev_41
  refine lv_imul hx hb dX0_countWays_53 ?_
  refine lv_topi (fun y_42 ey_42 => ?_)
  obtain rfl : y_42 = zWyN cr inn k1 6 := ey_42
  refine z_put C G clX0 0 rfl 1 (by decide) m_fl_RX0_57 rfl rfl rfl (Nat.le_of_ble_eq_true rfl) dX0_countWays_54 (fun H locs G => ?_)
  have G : zS T A s.heap s [[zO0 h md (zWyN cr inn k1 6) o pc_ a1_1 a2_2 a3_3 a4_4 a5_5 a6_6], [zAr T 0 a1_1 7 (upd (upd (upd (upd (upd (upd f1 6 (zCh cr inn k1 6)) 5 (zCh cr inn k1 5)) 4 (zCh cr inn k1 4)) 3 (zCh cr inn k1 3)) 2 (zCh cr inn k1 2)) 1 (zCh cr inn k1 1))], [zAr T 0 a2_2 7 (upd (upd (upd (upd (upd (upd f2 6 1) 5 (zWyN cr inn k1 1)) 4 (zWyN cr inn k1 2)) 3 (zWyN cr inn k1 3)) 2 (zWyN cr inn k1 4)) 1 (zWyN cr inn k1 5))], [zAr T 0 a3_3 7 f3], [zAr T 0 a4_4 n4 f4], [zAr T 0 a5_5 n4 f5], [zAr T 0 a6_6 n4 f6], z] _ _ := G
  refine lv_iinc (v := 0) (lv' := [(2, .int 0), (0, .ref h), (1, .ref o)]) hx hb dX0_countWays_57 hl (k := 0) rfl (by decide) (by decide) (zLvf_h rfl) (fun ls hl => ?_)
  refine lv_goto (tgt := 13) hx hb dX0_countWays_60 (by decide) ?_
  refine lv_iload_n hx hb dX0_countWays_13 rfl (lv_at hl 0 rfl) ?_
  refine lv_if_lt (tgt := 63) hx hb dX0_countWays_14 (by decide) (fun q => absurd q (by decide)) (fun _ => ?_)
  refine lv_aload_n hx hb dX0_countWays_17 rfl (lv_at hl 1 rfl) ?_
  refine z_get C G clX0 0 rfl 4 (by decide) m_fl_RX0_18 rfl dX0_countWays_18 ?_
  refine lv_iload_n hx hb dX0_countWays_21 rfl (lv_at hl 0 rfl) ?_
  refine lv_aload_n hx hb dX0_countWays_22 rfl (lv_at hl 2 rfl) ?_
  refine lv_iload_n hx hb dX0_countWays_23 rfl (lv_at hl 0 rfl) ?_
  refine z_Vi (bc := [z]) (br := [[zO0 h md (zWyN cr inn k1 6) o pc_ a1_1 a2_2 a3_3 a4_4 a5_5 a6_6], [zAr T 0 a1_1 7 (upd (upd (upd (upd (upd (upd f1 6 (zCh cr inn k1 6)) 5 (zCh cr inn k1 5)) 4 (zCh cr inn k1 4)) 3 (zCh cr inn k1 3)) 2 (zCh cr inn k1 2)) 1 (zCh cr inn k1 1))], [zAr T 0 a2_2 7 (upd (upd (upd (upd (upd (upd f2 6 1) 5 (zWyN cr inn k1 1)) 4 (zWyN cr inn k1 2)) 3 (zWyN cr inn k1 3)) 2 (zWyN cr inn k1 4)) 1 (zWyN cr inn k1 5))], [zAr T 0 a3_3 7 f3], [zAr T 0 a4_4 n4 f4], [zAr T 0 a5_5 n4 f5], [zAr T 0 a6_6 n4 f6]]) (As := [.int 0]) (rest := [.int 0, .ref a1_1]) C G (c_waysOut l T o cr inn k1 k2 k3 k4 z 0 hz) (kV_RX0_61 C.2.2.2.2 (Nat.le_of_ble_eq_true rfl) (Nat.le_of_ble_eq_true rfl)) [7] [7] rfl rfl (ci := 4) (qc := (RX4, TX4, 6)) rfl rfl (List.mem_flatten.mpr ⟨_, List.mem_of_getElem? (i := 0) rfl, (bLand_mem hz).choose_spec⟩) rfl rfl hl.1 dX0_countWays_24 (Nat.le_of_ble_eq_true rfl) (Nat.le_of_ble_eq_true rfl) (fun r_44 b1 H locs hw G => ?_)
  refine zAn2 hw ?_
  intro hbs9 h_43
  clear hw
  subst hbs9
  have G : zS T A s.heap s [[zO0 h md (zWyN cr inn k1 6) o pc_ a1_1 a2_2 a3_3 a4_4 a5_5 a6_6], [zAr T 0 a1_1 7 (upd (upd (upd (upd (upd (upd f1 6 (zCh cr inn k1 6)) 5 (zCh cr inn k1 5)) 4 (zCh cr inn k1 4)) 3 (zCh cr inn k1 3)) 2 (zCh cr inn k1 2)) 1 (zCh cr inn k1 1))], [zAr T 0 a2_2 7 (upd (upd (upd (upd (upd (upd f2 6 1) 5 (zWyN cr inn k1 1)) 4 (zWyN cr inn k1 2)) 3 (zWyN cr inn k1 3)) 2 (zWyN cr inn k1 4)) 1 (zWyN cr inn k1 5))], [zAr T 0 a3_3 7 f3], [zAr T 0 a4_4 n4 f4], [zAr T 0 a5_5 n4 f5], [zAr T 0 a6_6 n4 f6], z] _ _ := G
  subst h_43
  refine lv_iconst (v := 1) hx hb dX0_countWays_27 (by decide) ?_
  refine va_mmax hx hb (C.2.2.1.trans hl.1.symm) C.2.2.2.1 (C.2.2.2.2 _ m_ml_RX0_65) (C.2.2.2.2 _ m_st_math_max) (C.2.2.2.2 _ m_ii_math) (C.2.2.2.2 _ m_co_math_max) (Nat.le_of_ble_eq_true rfl) (Nat.le_of_ble_eq_true rfl) (Nat.le_of_ble_eq_true rfl) (Nat.le_of_ble_eq_true rfl) dX0_countWays_28 ?_
  refine lv_topi (fun v_45 ev_45 => ?_)
  subst ev_45
  refine lv_topi (fun y_46 ey_46 => ?_)
  obtain rfl : y_46 = zCh cr inn k1 0 := ey_46
  refine z_ist C G 1 rfl (vp_in_nI (n := 0) (by decide) (by decide)) dX0_countWays_31 (fun H locs G => ?_)
  have G : zS T A s.heap s [[zO0 h md (zWyN cr inn k1 6) o pc_ a1_1 a2_2 a3_3 a4_4 a5_5 a6_6], [zAr T 0 a1_1 7 (upd (upd (upd (upd (upd (upd (upd f1 6 (zCh cr inn k1 6)) 5 (zCh cr inn k1 5)) 4 (zCh cr inn k1 4)) 3 (zCh cr inn k1 3)) 2 (zCh cr inn k1 2)) 1 (zCh cr inn k1 1)) 0 (zCh cr inn k1 0))], [zAr T 0 a2_2 7 (upd (upd (upd (upd (upd (upd f2 6 1) 5 (zWyN cr inn k1 1)) 4 (zWyN cr inn k1 2)) 3 (zWyN cr inn k1 3)) 2 (zWyN cr inn k1 4)) 1 (zWyN cr inn k1 5))], [zAr T 0 a3_3 7 f3], [zAr T 0 a4_4 n4 f4], [zAr T 0 a5_5 n4 f5], [zAr T 0 a6_6 n4 f6], z] _ _ := G
  refine lv_aload_n hx hb dX0_countWays_32 rfl (lv_at hl 1 rfl) ?_
  refine z_get C G clX0 0 rfl 5 (by decide) m_fl_RX0_22 rfl dX0_countWays_33 ?_
  refine lv_iload_n hx hb dX0_countWays_36 rfl (lv_at hl 0 rfl) ?_
  refine lv_aload_n hx hb dX0_countWays_37 rfl (lv_at hl 1 rfl) ?_
  refine z_get C G clX0 0 rfl 1 (by decide) m_fl_RX0_57 rfl dX0_countWays_38 ?_
  refine z_ist C G 2 rfl (vp_in_nI (n := 0) (by decide) (by decide)) dX0_countWays_41 (fun H locs G => ?_)
  have G : zS T A s.heap s [[zO0 h md (zWyN cr inn k1 6) o pc_ a1_1 a2_2 a3_3 a4_4 a5_5 a6_6], [zAr T 0 a1_1 7 (upd (upd (upd (upd (upd (upd (upd f1 6 (zCh cr inn k1 6)) 5 (zCh cr inn k1 5)) 4 (zCh cr inn k1 4)) 3 (zCh cr inn k1 3)) 2 (zCh cr inn k1 2)) 1 (zCh cr inn k1 1)) 0 (zCh cr inn k1 0))], [zAr T 0 a2_2 7 (upd (upd (upd (upd (upd (upd (upd f2 6 1) 5 (zWyN cr inn k1 1)) 4 (zWyN cr inn k1 2)) 3 (zWyN cr inn k1 3)) 2 (zWyN cr inn k1 4)) 1 (zWyN cr inn k1 5)) 0 (zWyN cr inn k1 6))], [zAr T 0 a3_3 7 f3], [zAr T 0 a4_4 n4 f4], [zAr T 0 a5_5 n4 f5], [zAr T 0 a6_6 n4 f6], z] _ _ := G
  refine lv_aload_n hx hb dX0_countWays_42 rfl (lv_at hl 1 rfl) ?_
  refine lv_dup hx hb dX0_countWays_43 rfl ?_
  refine z_get C G clX0 0 rfl 1 (by decide) m_fl_RX0_57 rfl dX0_countWays_44 ?_
  refine lv_aload_n hx hb dX0_countWays_47 rfl (lv_at hl 1 rfl) ?_
  refine z_get C G clX0 0 rfl 4 (by decide) m_fl_RX0_18 rfl dX0_countWays_48 ?_
  refine lv_iload_n hx hb dX0_countWays_51 rfl (lv_at hl 0 rfl) ?_
  refine z_ild C G 1 rfl (vp_in_nI (n := 0) (by decide) (by decide)) dX0_countWays_52 ?_
  refine lv_topi (fun v_47 ev_47 => ?_)
  have ev_47 : v_47 = zCh cr inn k1 0 := ev_47
  subst ev_47
  refine lv_imul hx hb dX0_countWays_53 ?_
  refine lv_topi (fun y_48 ey_48 => ?_)
  obtain rfl : y_48 = zWyN cr inn k1 7 := ey_48
  refine z_put C G clX0 0 rfl 1 (by decide) m_fl_RX0_57 rfl rfl rfl (Nat.le_of_ble_eq_true rfl) dX0_countWays_54 (fun H locs G => ?_)
  have G : zS T A s.heap s [[zO0 h md (zWyN cr inn k1 7) o pc_ a1_1 a2_2 a3_3 a4_4 a5_5 a6_6], [zAr T 0 a1_1 7 (upd (upd (upd (upd (upd (upd (upd f1 6 (zCh cr inn k1 6)) 5 (zCh cr inn k1 5)) 4 (zCh cr inn k1 4)) 3 (zCh cr inn k1 3)) 2 (zCh cr inn k1 2)) 1 (zCh cr inn k1 1)) 0 (zCh cr inn k1 0))], [zAr T 0 a2_2 7 (upd (upd (upd (upd (upd (upd (upd f2 6 1) 5 (zWyN cr inn k1 1)) 4 (zWyN cr inn k1 2)) 3 (zWyN cr inn k1 3)) 2 (zWyN cr inn k1 4)) 1 (zWyN cr inn k1 5)) 0 (zWyN cr inn k1 6))], [zAr T 0 a3_3 7 f3], [zAr T 0 a4_4 n4 f4], [zAr T 0 a5_5 n4 f5], [zAr T 0 a6_6 n4 f6], z] _ _ := G
  refine lv_iinc (v := (-1)) (lv' := [(2, .int (-1)), (0, .ref h), (1, .ref o)]) hx hb dX0_countWays_57 hl (k := 0) rfl (by decide) (by decide) (zLvf_h rfl) (fun ls hl => ?_)
  refine lv_goto (tgt := 13) hx hb dX0_countWays_60 (by decide) ?_
  refine lv_iload_n hx hb dX0_countWays_13 rfl (lv_at hl 0 rfl) ?_
  refine lv_if_lt (tgt := 63) hx hb dX0_countWays_14 (by decide) (fun _ => ?_) (fun q => absurd (by decide) q)
  refine lv_aload_n hx hb dX0_countWays_63 rfl (lv_at hl 1 rfl) ?_
  refine lv_aload_n hx hb dX0_countWays_64 rfl (lv_at hl 1 rfl) ?_
  refine z_get C G clX0 0 rfl 1 (by decide) m_fl_RX0_57 rfl dX0_countWays_65 ?_
  refine lv_iconst (v := 3) hx hb dX0_countWays_68 (by decide) ?_
  refine lv_ishl hx hb dX0_countWays_69 ?_
  refine lv_ldc (v := 131072) hx hb C.2.2.2.1 (C.2.2.2.2 _ m_ko_RX0_71) dX0_countWays_70 ?_
  refine va_mmin hx hb (C.2.2.1.trans hl.1.symm) C.2.2.2.1 (C.2.2.2.2 _ m_ml_RX0_72) (C.2.2.2.2 _ m_st_math_min) (C.2.2.2.2 _ m_ii_math) (C.2.2.2.2 _ m_co_math_min) (Nat.le_of_ble_eq_true rfl) (Nat.le_of_ble_eq_true rfl) (Nat.le_of_ble_eq_true rfl) (Nat.le_of_ble_eq_true rfl) dX0_countWays_72 ?_
  refine lv_topi (fun v_49 ev_49 => ?_)
  subst ev_49
  refine lv_topi (fun y_50 ey_50 => ?_)
  obtain rfl : y_50 = zPl cr inn k1 := ey_50
  refine z_put C G clX0 0 rfl 3 (by decide) m_fl_RX0_75 rfl rfl rfl (Nat.le_of_ble_eq_true rfl) dX0_countWays_75 (fun H locs G => ?_)
  have G : zS T A s.heap s [[zO0 h md (zWyN cr inn k1 7) o (zPl cr inn k1) a1_1 a2_2 a3_3 a4_4 a5_5 a6_6], [zAr T 0 a1_1 7 (upd (upd (upd (upd (upd (upd (upd f1 6 (zCh cr inn k1 6)) 5 (zCh cr inn k1 5)) 4 (zCh cr inn k1 4)) 3 (zCh cr inn k1 3)) 2 (zCh cr inn k1 2)) 1 (zCh cr inn k1 1)) 0 (zCh cr inn k1 0))], [zAr T 0 a2_2 7 (upd (upd (upd (upd (upd (upd (upd f2 6 1) 5 (zWyN cr inn k1 1)) 4 (zWyN cr inn k1 2)) 3 (zWyN cr inn k1 3)) 2 (zWyN cr inn k1 4)) 1 (zWyN cr inn k1 5)) 0 (zWyN cr inn k1 6))], [zAr T 0 a3_3 7 f3], [zAr T 0 a4_4 n4 f4], [zAr T 0 a5_5 n4 f5], [zAr T 0 a6_6 n4 f6], z] _ _ := G
  have hw_51 : bWays T h o md (zWyN cr inn k1 7) (zPl cr inn k1) (upd (upd (upd (upd (upd (upd (upd f1 6 (zCh cr inn k1 6)) 5 (zCh cr inn k1 5)) 4 (zCh cr inn k1 4)) 3 (zCh cr inn k1 3)) 2 (zCh cr inn k1 2)) 1 (zCh cr inn k1 1)) 0 (zCh cr inn k1 0)) (upd (upd (upd (upd (upd (upd (upd f2 6 1) 5 (zWyN cr inn k1 1)) 4 (zWyN cr inn k1 2)) 3 (zWyN cr inn k1 3)) 2 (zWyN cr inn k1 4)) 1 (zWyN cr inn k1 5)) 0 (zWyN cr inn k1 6)) f3 f4 f5 f6 n4 [zO0 h md (zWyN cr inn k1 7) o (zPl cr inn k1) a1_1 a2_2 a3_3 a4_4 a5_5 a6_6, zAr T 0 a1_1 7 (upd (upd (upd (upd (upd (upd (upd f1 6 (zCh cr inn k1 6)) 5 (zCh cr inn k1 5)) 4 (zCh cr inn k1 4)) 3 (zCh cr inn k1 3)) 2 (zCh cr inn k1 2)) 1 (zCh cr inn k1 1)) 0 (zCh cr inn k1 0)), zAr T 0 a2_2 7 (upd (upd (upd (upd (upd (upd (upd f2 6 1) 5 (zWyN cr inn k1 1)) 4 (zWyN cr inn k1 2)) 3 (zWyN cr inn k1 3)) 2 (zWyN cr inn k1 4)) 1 (zWyN cr inn k1 5)) 0 (zWyN cr inn k1 6)), zAr T 0 a3_3 7 f3, zAr T 0 a4_4 n4 f4, zAr T 0 a5_5 n4 f5, zAr T 0 a6_6 n4 f6] := ⟨a1_1, a2_2, a3_3, a4_4, a5_5, a6_6, rfl⟩
  have G : zS T A s.heap s [[zO0 h md (zWyN cr inn k1 7) o (zPl cr inn k1) a1_1 a2_2 a3_3 a4_4 a5_5 a6_6, zAr T 0 a1_1 7 (upd (upd (upd (upd (upd (upd (upd f1 6 (zCh cr inn k1 6)) 5 (zCh cr inn k1 5)) 4 (zCh cr inn k1 4)) 3 (zCh cr inn k1 3)) 2 (zCh cr inn k1 2)) 1 (zCh cr inn k1 1)) 0 (zCh cr inn k1 0)), zAr T 0 a2_2 7 (upd (upd (upd (upd (upd (upd (upd f2 6 1) 5 (zWyN cr inn k1 1)) 4 (zWyN cr inn k1 2)) 3 (zWyN cr inn k1 3)) 2 (zWyN cr inn k1 4)) 1 (zWyN cr inn k1 5)) 0 (zWyN cr inn k1 6)), zAr T 0 a3_3 7 f3, zAr T 0 a4_4 n4 f4, zAr T 0 a5_5 n4 f5, zAr T 0 a6_6 n4 f6], z] _ _ := G.re rfl
  exact z_back hQz_ (z_vret C hr hlocks G (Nat.le_of_ble_eq_true rfl) (Nat.le_of_ble_eq_true rfl) dX0_countWays_78 ⟨([zO0 h md (zWyN cr inn k1 7) o (zPl cr inn k1) a1_1 a2_2 a3_3 a4_4 a5_5 a6_6, zAr T 0 a1_1 7 (upd (upd (upd (upd (upd (upd (upd f1 6 (zCh cr inn k1 6)) 5 (zCh cr inn k1 5)) 4 (zCh cr inn k1 4)) 3 (zCh cr inn k1 3)) 2 (zCh cr inn k1 2)) 1 (zCh cr inn k1 1)) 0 (zCh cr inn k1 0)), zAr T 0 a2_2 7 (upd (upd (upd (upd (upd (upd (upd f2 6 1) 5 (zWyN cr inn k1 1)) 4 (zWyN cr inn k1 2)) 3 (zWyN cr inn k1 3)) 2 (zWyN cr inn k1 4)) 1 (zWyN cr inn k1 5)) 0 (zWyN cr inn k1 6)), zAr T 0 a3_3 7 f3, zAr T 0 a4_4 n4 f4, zAr T 0 a5_5 n4 f5, zAr T 0 a6_6 n4 f6]), (upd (upd (upd (upd (upd (upd (upd f1 6 (zCh cr inn k1 6)) 5 (zCh cr inn k1 5)) 4 (zCh cr inn k1 4)) 3 (zCh cr inn k1 3)) 2 (zCh cr inn k1 2)) 1 (zCh cr inn k1 1)) 0 (zCh cr inn k1 0)), (upd (upd (upd (upd (upd (upd (upd f2 6 1) 5 (zWyN cr inn k1 1)) 4 (zWyN cr inn k1 2)) 3 (zWyN cr inn k1 3)) 2 (zWyN cr inn k1 4)) 1 (zWyN cr inn k1 5)) 0 (zWyN cr inn k1 6)), rfl, hw_51, (⟨fun c hc => by rcases (show c = 0 ∨ c = 1 ∨ c = 2 ∨ c = 3 ∨ c = 4 ∨ c = 5 ∨ c = 6 by omega) with q | q | q | q | q | q | q <;> rw [q] <;> rfl, fun c hc => by rcases (show c = 0 ∨ c = 1 ∨ c = 2 ∨ c = 3 ∨ c = 4 ∨ c = 5 ∨ c = 6 by omega) with q | q | q | q | q | q | q <;> rw [q] <;> rfl⟩)⟩)
theorem aTn_e {cr inn x y : Int32} {k1 k2 k3 f1 f2 : Nat → Int32} (hI : zLI cr k1 k3) (hF : aF cr inn k1 f1 f2) (hO : aOk (aW cr inn k1) k2) (hx : 0 ≤ x.toInt ∧ x.toInt < (aPr (aW cr inn k1) 7 : Nat)) (hz : ¬ zWays cr inn k1 y = 0) : ((zRoad f1 f2 x y + 1).toInt < (zWays cr inn k1 y).toInt → x + f2 y.toNatClampNeg = nI (aTn (aW cr inn k1) x.toInt.toNat y.toInt.toNat)) ∧ (¬ (zRoad f1 f2 x y + 1).toInt < (zWays cr inn k1 y).toInt → x - (zWays cr inn k1 y - 1) * f2 y.toNatClampNeg = nI (aTn (aW cr inn k1) x.toInt.toNat y.toInt.toNat)) := by
  obtain ⟨c0, c1, c2, c3, c4⟩ := zWays_in hz
  have h4 := zWays_le (inn := inn) hI y
  have p := hO.2.2
  have ex : x = nI x.toInt.toNat := z_nI (by omega) (by omega)
  have ey : y = nI y.toInt.toNat := z_nI (by omega) (by omega)
  have ek : y.toNatClampNeg = y.toInt.toNat := rfl
  have z0 : ¬ (zWays cr inn k1 y).toInt = 0 := fun q => hz (Int32.toInt_inj.mp q)
  have hW : (aW cr inn k1 y.toInt.toNat).toInt = (zWays cr inn k1 y).toInt := by
    show (zWays cr inn k1 (nI y.toInt.toNat)).toInt = _
    rw [← ey]
  have ch : aCh (aW cr inn k1) y.toInt.toNat = (aW cr inn k1 y.toInt.toNat).toInt.toNat := if_neg (by omega)
  have eR : zRoad f1 f2 x y = nI (aRd (aW cr inn k1) x.toInt.toNat y.toInt.toNat) := by
    have e := zRoad_z hI hF (w := x.toInt.toNat) (c := y.toInt.toNat) (by omega) (by omega)
    rw [← ex, ← ey] at e
    exact e
  have rl := aRd_lt (W := aW cr inn k1) (w := x.toInt.toNat) (c := y.toInt.toNat)
  have e1 : (zRoad f1 f2 x y + 1).toInt = (aRd (aW cr inn k1) x.toInt.toNat y.toInt.toNat : Nat) + 1 := by
    rw [eR, zInc1, nI_toInt (by omega)]
    omega
  have e2 : f2 y.toNatClampNeg = nI (aPr (aW cr inn k1) (6 - y.toInt.toNat)) := (hF.2 y.toNatClampNeg (by omega)).trans (aWyN_z hI _ (by omega))
  have T := aTn_z (W := aW cr inn k1) (w := x.toInt.toNat) (c := y.toInt.toNat) (by omega)
  rw [e1, e2]
  constructor
  · intro q
    rw [T.1 (by omega)]
    conv => lhs; rw [ex]
    exact nI_add _ _
  · intro q
    have t := T.2 (by omega)
    have eC : zWays cr inn k1 y - 1 = nI (aCh (aW cr inn k1) y.toInt.toNat - 1) := by
      have a : zWays cr inn k1 y = nI (aCh (aW cr inn k1) y.toInt.toNat) := z_nI (by omega) (by omega)
      rw [a]
      exact pk_sub (b := 1) (by omega)
    rw [eC, pk_mul]
    conv => lhs; rw [ex]
    rw [pk_sub (by omega)]
    exact congrArg nI (by omega)
set_option maxHeartbeats 4000000 in
set_option maxRecDepth 100000 in
/-- c_f_turned -/
theorem c_f_turned (l : Launch) (T : zTy) (h : Nat) (la : Nat) (md : Int32) (wy : Int32) (pc_ : Int32) (f1 : Nat → Int32) (f2 : Nat → Int32) (f3 : Nat → Int32) (f4 : Nat → Int32) (f5 : Nat → Int32) (f6 : Nat → Int32) (n4 : Nat) (ww : va_W) (cr : Int32) (inn : Int32) (k1 : Nat → Int32) (k2 : Nat → Int32) (k3 : Nat → Int32) (k4 : Nat → Int32) (z : va_W) (x : Int32) (y : Int32) (hww : bWays T h la md wy pc_ f1 f2 f3 f4 f5 f6 n4 ww) (hz : bLand T la cr inn k1 k2 k3 k4 z) (hI : zLI cr k1 k3) (hF : aF cr inn k1 f1 f2) (hO : aOk (aW cr inn k1) k2) (hxw : 0 ≤ x.toInt ∧ x.toInt < (aPr (aW cr inn k1) 7 : Nat)) (hyw : 0 ≤ y.toInt ∧ y.toInt ≤ 7) : zMi l T yX0_turned cX0_turned 4 (some .int) 2 0 0 [.ref h, .int x, .int y] [ww, z] (fun (r : Int32) bs => bs = [ww, z] ∧ (zWays cr inn k1 y = 0 ∧ r = -1 ∨ ¬ zWays cr inn k1 y = 0 ∧ r = nI (aTn (aW cr inn k1) x.toInt.toNat y.toInt.toNat))) := by
  refine zMi_of (own := RX0) (by decide) rfl (Nat.le_of_ble_eq_true rfl) ?_
  intro p e s m args below meth c A ls C hr hlocks hnm hAe G hl
  refine zHide (fun Qz_ hQz_ => ?_)
  have hx := C.1
  have hb := C.2.1
  have hl : lv_has ls 4 [(0, .ref h), (1, .int x), (2, .int y)] := hl
  refine lv_aload_n hx hb dX0_turned_0 rfl (lv_at hl 0 rfl) ?_
  refine zEx6 hww ?_
  intro a1_1 a2_2 a3_3 a4_4 a5_5 a6_6 hbs9
  clear hww
  subst hbs9
  have G : zS T A s.heap s [[zO0 h md wy la pc_ a1_1 a2_2 a3_3 a4_4 a5_5 a6_6], [zAr T 0 a1_1 7 f1], [zAr T 0 a2_2 7 f2], [zAr T 0 a3_3 7 f3], [zAr T 0 a4_4 n4 f4], [zAr T 0 a5_5 n4 f5], [zAr T 0 a6_6 n4 f6], z] _ _ := G.re rfl
  refine z_get C G clX0 0 rfl 2 (by decide) m_fl_RX0_14 rfl dX0_turned_1 ?_
  refine lv_iload_n hx hb dX0_turned_4 rfl (lv_at hl 2 rfl) ?_
  refine z_Vi (bc := [z]) (br := [[zO0 h md wy la pc_ a1_1 a2_2 a3_3 a4_4 a5_5 a6_6], [zAr T 0 a1_1 7 f1], [zAr T 0 a2_2 7 f2], [zAr T 0 a3_3 7 f3], [zAr T 0 a4_4 n4 f4], [zAr T 0 a5_5 n4 f5], [zAr T 0 a6_6 n4 f6]]) (As := [.int y]) (rest := []) C G (c_waysOut l T la cr inn k1 k2 k3 k4 z y hz) (kV_RX0_61 C.2.2.2.2 (Nat.le_of_ble_eq_true rfl) (Nat.le_of_ble_eq_true rfl)) [7] [7] rfl rfl (ci := 4) (qc := (RX4, TX4, 6)) rfl rfl (List.mem_flatten.mpr ⟨_, List.mem_of_getElem? (i := 0) rfl, (bLand_mem hz).choose_spec⟩) rfl rfl hl.1 dX0_turned_5 (Nat.le_of_ble_eq_true rfl) (Nat.le_of_ble_eq_true rfl) (fun r_8 b1 H locs hw G => ?_)
  refine zAn2 hw ?_
  intro hbs9 h_7
  clear hw
  subst hbs9
  have G : zS T A s.heap s [[zO0 h md wy la pc_ a1_1 a2_2 a3_3 a4_4 a5_5 a6_6], [zAr T 0 a1_1 7 f1], [zAr T 0 a2_2 7 f2], [zAr T 0 a3_3 7 f3], [zAr T 0 a4_4 n4 f4], [zAr T 0 a5_5 n4 f5], [zAr T 0 a6_6 n4 f6], z] _ _ := G
  subst h_7
  refine lv_istore_n (lv' := [(3, .int (zWays cr inn k1 y)), (0, .ref h), (1, .int x), (2, .int y)]) hx hb dX0_turned_8 rfl hl (by decide) (zLvf_h rfl) (fun ls hl => ?_)
  refine lv_iload_n hx hb dX0_turned_9 rfl (lv_at hl 0 rfl) ?_
  refine lv_if_ne (tgt := 15) hx hb dX0_turned_10 (by decide) (fun c_9 => ?_) (fun c_9 => ?_)
  · have c_9n : ¬ (zWays cr inn k1 y).toInt = (0 : Int) := fun q => c_9 ((fa_eq _ _).mpr q)
    have hwi := zWays_in (cr := cr) (inn := inn) (f1 := k1) (x := y) (by first | with_reducible assumption | assumption)
    refine lv_aload_n hx hb dX0_turned_15 rfl (lv_at hl 1 rfl) ?_
    refine lv_iload_n hx hb dX0_turned_16 rfl (lv_at hl 2 rfl) ?_
    refine lv_iload_n hx hb dX0_turned_17 rfl (lv_at hl 3 rfl) ?_
    have hw_10 : bWays T h la md wy pc_ f1 f2 f3 f4 f5 f6 n4 [zO0 h md wy la pc_ a1_1 a2_2 a3_3 a4_4 a5_5 a6_6, zAr T 0 a1_1 7 f1, zAr T 0 a2_2 7 f2, zAr T 0 a3_3 7 f3, zAr T 0 a4_4 n4 f4, zAr T 0 a5_5 n4 f5, zAr T 0 a6_6 n4 f6] := ⟨a1_1, a2_2, a3_3, a4_4, a5_5, a6_6, rfl⟩
    have G : zS T A s.heap s [[zO0 h md wy la pc_ a1_1 a2_2 a3_3 a4_4 a5_5 a6_6, zAr T 0 a1_1 7 f1, zAr T 0 a2_2 7 f2, zAr T 0 a3_3 7 f3, zAr T 0 a4_4 n4 f4, zAr T 0 a5_5 n4 f5, zAr T 0 a6_6 n4 f6], z] _ _ := G.re rfl
    refine z_Vi (bc := [[zO0 h md wy la pc_ a1_1 a2_2 a3_3 a4_4 a5_5 a6_6, zAr T 0 a1_1 7 f1, zAr T 0 a2_2 7 f2, zAr T 0 a3_3 7 f3, zAr T 0 a4_4 n4 f4, zAr T 0 a5_5 n4 f5, zAr T 0 a6_6 n4 f6]]) (br := [z]) (As := [.int x, .int y]) (rest := []) C G (c_road l T h la md wy pc_ f1 f2 f3 f4 f5 f6 n4 ([zO0 h md wy la pc_ a1_1 a2_2 a3_3 a4_4 a5_5 a6_6, zAr T 0 a1_1 7 f1, zAr T 0 a2_2 7 f2, zAr T 0 a3_3 7 f3, zAr T 0 a4_4 n4 f4, zAr T 0 a5_5 n4 f5, zAr T 0 a6_6 n4 f6]) x y hw_10) (kV_RX0_81 C.2.2.2.2 (Nat.le_of_ble_eq_true rfl) (Nat.le_of_ble_eq_true rfl)) [0] [0] rfl rfl (ci := 0) (qc := (RX0, TX0, 10)) rfl rfl (List.mem_flatten.mpr ⟨_, List.mem_of_getElem? (i := 0) rfl, (bWays_mem hw_10).choose_spec⟩) rfl rfl hl.1 dX0_turned_18 (Nat.le_of_ble_eq_true rfl) (Nat.le_of_ble_eq_true rfl) (fun r_12 b1 H locs hw G => ?_)
    refine zAn2 hw ?_
    intro hbs9 h_11
    clear hw
    subst hbs9
    have G : zS T A s.heap s [z, [zO0 h md wy la pc_ a1_1 a2_2 a3_3 a4_4 a5_5 a6_6, zAr T 0 a1_1 7 f1, zAr T 0 a2_2 7 f2, zAr T 0 a3_3 7 f3, zAr T 0 a4_4 n4 f4, zAr T 0 a5_5 n4 f5, zAr T 0 a6_6 n4 f6]] _ _ := G
    subst h_11
    refine lv_iconst (v := 1) hx hb dX0_turned_21 (by decide) ?_
    refine lv_iadd hx hb dX0_turned_22 ?_
    refine lv_iload_n hx hb dX0_turned_23 rfl (lv_at hl 0 rfl) ?_
    refine lv_icmp_ge (tgt := 38) hx hb dX0_turned_24 (by decide) (fun c_13 => ?_) (fun c_13 => ?_)
    · have c_13n : (zWays cr inn k1 y).toInt ≤ ((zRoad f1 f2 x y) + 1).toInt := (fa_le _ _).mp c_13
      refine lv_iload_n hx hb dX0_turned_38 rfl (lv_at hl 2 rfl) ?_
      refine lv_iload_n hx hb dX0_turned_39 rfl (lv_at hl 0 rfl) ?_
      refine lv_iconst (v := 1) hx hb dX0_turned_40 (by decide) ?_
      refine lv_isub hx hb dX0_turned_41 ?_
      refine lv_aload_n hx hb dX0_turned_42 rfl (lv_at hl 1 rfl) ?_
      have G : zS T A s.heap s [z, [zO0 h md wy la pc_ a1_1 a2_2 a3_3 a4_4 a5_5 a6_6], [zAr T 0 a1_1 7 f1], [zAr T 0 a2_2 7 f2], [zAr T 0 a3_3 7 f3], [zAr T 0 a4_4 n4 f4], [zAr T 0 a5_5 n4 f5], [zAr T 0 a6_6 n4 f6]] _ _ := G.re rfl
      refine z_get C G clX0 1 rfl 5 (by decide) m_fl_RX0_22 rfl dX0_turned_43 ?_
      refine lv_iload_n hx hb dX0_turned_46 rfl (lv_at hl 3 rfl) ?_
      refine z_ild C G 3 rfl (vp_in_iff.mpr ⟨hwi.1, hwi.2.2.1⟩) dX0_turned_47 ?_
      refine lv_topi (fun v_14 ev_14 => ?_)
      subst ev_14
      refine lv_imul hx hb dX0_turned_48 ?_
      refine lv_isub hx hb dX0_turned_49 ?_
      have hw_15 : bWays T h la md wy pc_ f1 f2 f3 f4 f5 f6 n4 [zO0 h md wy la pc_ a1_1 a2_2 a3_3 a4_4 a5_5 a6_6, zAr T 0 a1_1 7 f1, zAr T 0 a2_2 7 f2, zAr T 0 a3_3 7 f3, zAr T 0 a4_4 n4 f4, zAr T 0 a5_5 n4 f5, zAr T 0 a6_6 n4 f6] := ⟨a1_1, a2_2, a3_3, a4_4, a5_5, a6_6, rfl⟩
      have G : zS T A s.heap s [z, [zO0 h md wy la pc_ a1_1 a2_2 a3_3 a4_4 a5_5 a6_6, zAr T 0 a1_1 7 f1, zAr T 0 a2_2 7 f2, zAr T 0 a3_3 7 f3, zAr T 0 a4_4 n4 f4, zAr T 0 a5_5 n4 f5, zAr T 0 a6_6 n4 f6]] _ _ := G.re rfl
      have G := G.sub (bs' := [[zO0 h md wy la pc_ a1_1 a2_2 a3_3 a4_4 a5_5 a6_6, zAr T 0 a1_1 7 f1, zAr T 0 a2_2 7 f2, zAr T 0 a3_3 7 f3, zAr T 0 a4_4 n4 f4, zAr T 0 a5_5 n4 f5, zAr T 0 a6_6 n4 f6], z]) [1, 0] rfl
      exact z_back hQz_ (z_iret C hr hlocks G (Nat.le_of_ble_eq_true rfl) (Nat.le_of_ble_eq_true rfl) dX0_turned_50 ⟨rfl, (Or.inr ⟨by first | with_reducible assumption | assumption, by first | exact (aTn_e hI hF hO hxw (by first | with_reducible assumption | assumption)).1 (by omega) | exact (aTn_e hI hF hO hxw (by first | with_reducible assumption | assumption)).2 (by omega)⟩)⟩)
    · have c_13n : ¬ (zWays cr inn k1 y).toInt ≤ ((zRoad f1 f2 x y) + 1).toInt := fun q => c_13 ((fa_le _ _).mpr q)
      refine lv_iload_n hx hb dX0_turned_27 rfl (lv_at hl 2 rfl) ?_
      refine lv_aload_n hx hb dX0_turned_28 rfl (lv_at hl 1 rfl) ?_
      have G : zS T A s.heap s [z, [zO0 h md wy la pc_ a1_1 a2_2 a3_3 a4_4 a5_5 a6_6], [zAr T 0 a1_1 7 f1], [zAr T 0 a2_2 7 f2], [zAr T 0 a3_3 7 f3], [zAr T 0 a4_4 n4 f4], [zAr T 0 a5_5 n4 f5], [zAr T 0 a6_6 n4 f6]] _ _ := G.re rfl
      refine z_get C G clX0 1 rfl 5 (by decide) m_fl_RX0_22 rfl dX0_turned_29 ?_
      refine lv_iload_n hx hb dX0_turned_32 rfl (lv_at hl 3 rfl) ?_
      refine z_ild C G 3 rfl (vp_in_iff.mpr ⟨hwi.1, hwi.2.2.1⟩) dX0_turned_33 ?_
      refine lv_topi (fun v_16 ev_16 => ?_)
      subst ev_16
      refine lv_iadd hx hb dX0_turned_34 ?_
      refine lv_goto (tgt := 50) hx hb dX0_turned_35 (by decide) ?_
      have hw_17 : bWays T h la md wy pc_ f1 f2 f3 f4 f5 f6 n4 [zO0 h md wy la pc_ a1_1 a2_2 a3_3 a4_4 a5_5 a6_6, zAr T 0 a1_1 7 f1, zAr T 0 a2_2 7 f2, zAr T 0 a3_3 7 f3, zAr T 0 a4_4 n4 f4, zAr T 0 a5_5 n4 f5, zAr T 0 a6_6 n4 f6] := ⟨a1_1, a2_2, a3_3, a4_4, a5_5, a6_6, rfl⟩
      have G : zS T A s.heap s [z, [zO0 h md wy la pc_ a1_1 a2_2 a3_3 a4_4 a5_5 a6_6, zAr T 0 a1_1 7 f1, zAr T 0 a2_2 7 f2, zAr T 0 a3_3 7 f3, zAr T 0 a4_4 n4 f4, zAr T 0 a5_5 n4 f5, zAr T 0 a6_6 n4 f6]] _ _ := G.re rfl
      have G := G.sub (bs' := [[zO0 h md wy la pc_ a1_1 a2_2 a3_3 a4_4 a5_5 a6_6, zAr T 0 a1_1 7 f1, zAr T 0 a2_2 7 f2, zAr T 0 a3_3 7 f3, zAr T 0 a4_4 n4 f4, zAr T 0 a5_5 n4 f5, zAr T 0 a6_6 n4 f6], z]) [1, 0] rfl
      exact z_back hQz_ (z_iret C hr hlocks G (Nat.le_of_ble_eq_true rfl) (Nat.le_of_ble_eq_true rfl) dX0_turned_50 ⟨rfl, (Or.inr ⟨by first | with_reducible assumption | assumption, by first | exact (aTn_e hI hF hO hxw (by first | with_reducible assumption | assumption)).1 (by omega) | exact (aTn_e hI hF hO hxw (by first | with_reducible assumption | assumption)).2 (by omega)⟩)⟩)
  · have c_9n : (zWays cr inn k1 y).toInt = (0 : Int) := (fa_eq _ _).mp c_9
    refine lv_iconst (v := (-1)) hx hb dX0_turned_13 (by decide) ?_
    have hw_18 : bWays T h la md wy pc_ f1 f2 f3 f4 f5 f6 n4 [zO0 h md wy la pc_ a1_1 a2_2 a3_3 a4_4 a5_5 a6_6, zAr T 0 a1_1 7 f1, zAr T 0 a2_2 7 f2, zAr T 0 a3_3 7 f3, zAr T 0 a4_4 n4 f4, zAr T 0 a5_5 n4 f5, zAr T 0 a6_6 n4 f6] := ⟨a1_1, a2_2, a3_3, a4_4, a5_5, a6_6, rfl⟩
    have G : zS T A s.heap s [[zO0 h md wy la pc_ a1_1 a2_2 a3_3 a4_4 a5_5 a6_6, zAr T 0 a1_1 7 f1, zAr T 0 a2_2 7 f2, zAr T 0 a3_3 7 f3, zAr T 0 a4_4 n4 f4, zAr T 0 a5_5 n4 f5, zAr T 0 a6_6 n4 f6], z] _ _ := G.re rfl
    exact z_back hQz_ (z_iret C hr hlocks G (Nat.le_of_ble_eq_true rfl) (Nat.le_of_ble_eq_true rfl) dX0_turned_14 ⟨rfl, (Or.inl ⟨by first | with_reducible assumption | assumption, rfl⟩)⟩)
theorem nIm1 {n : Nat} (h : n < 2147483648) : ¬ nI n = -1 := fun q => by
  have e := congrArg Int32.toInt q
  rw [nI_toInt h] at e
  have : (-1 : Int32).toInt = -1 := rfl
  omega
set_option maxHeartbeats 4000000 in
set_option maxRecDepth 100000 in
/-- stepOnce -/
theorem c_f_stepOnce (l : Launch) (T : zTy) (h : Nat) (la : Nat) (md : Int32) (wy : Int32) (pc_ : Int32) (f1 : Nat → Int32) (f2 : Nat → Int32) (f3 : Nat → Int32) (f4 : Nat → Int32) (f5 : Nat → Int32) (f6 : Nat → Int32) (n4 : Nat) (ww : va_W) (cr : Int32) (inn : Int32) (k1 : Nat → Int32) (k2 : Nat → Int32) (k3 : Nat → Int32) (k4 : Nat → Int32) (z : va_W) (hww : bWays T h la md wy pc_ f1 f2 f3 f4 f5 f6 n4 ww) (hz : bLand T la cr inn k1 k2 k3 k4 z) (hI : zLI cr k1 k3) (hF : aF cr inn k1 f1 f2) (hO : aOk (aW cr inn k1) k2) (hpc : pc_.toInt = ((8 * aPr (aW cr inn k1) 7 : Nat) : Int)) (hpn : 8 * aPr (aW cr inn k1) 7 ≤ n4) (hn : n4 ≤ 131072) : zMv l T yX0_stepOnce cX0_stepOnce 5 4 0 0 [.ref h] [ww, z] (fun bs => ∃ (w2 : va_W) (g4 : Nat → Int32) (g5 : Nat → Int32), bs = [w2, z] ∧ bWays T h la md wy pc_ f1 f2 f3 g4 g5 f6 n4 w2 ∧ (∀ j, j < 8 * aPr (aW cr inn k1) 7 → g4 j = nI (aT (aW cr inn k1) k2 1 j)) ∧ (∀ j, j < 8 * aPr (aW cr inn k1) 7 → g5 j = nI (aT (aW cr inn k1) k2 1 j))) := by
  refine zMv_of (own := RX0) (by decide) rfl (Nat.le_of_ble_eq_true rfl) ?_
  intro p e s m args below meth c A ls C hr hlocks hnm hAe G hl
  refine zHide (fun Qz_ hQz_ => ?_)
  have hx := C.1
  have hb := C.2.1
  have hl : lv_has ls 5 [(0, .ref h)] := hl
  refine lv_iconst (v := 0) hx hb dX0_stepOnce_0 (by decide) ?_
  refine lv_istore_n (lv' := [(1, .int 0), (0, .ref h)]) hx hb dX0_stepOnce_1 rfl hl (by decide) (zLvf_h rfl) (fun ls hl => ?_)
  refine zEx6 hww ?_
  intro a1_1 a2_2 a3_3 a4_4 a5_5 a6_6 hbs9
  clear hww
  subst hbs9
  have G : zS T A s.heap s [[zO0 h md wy la pc_ a1_1 a2_2 a3_3 a4_4 a5_5 a6_6], [zAr T 0 a1_1 7 f1], [zAr T 0 a2_2 7 f2], [zAr T 0 a3_3 7 f3], [zAr T 0 a4_4 n4 f4], [zAr T 0 a5_5 n4 f5], [zAr T 0 a6_6 n4 f6], z] _ _ := G.re rfl
  refine zEx4 hz ?_
  intro a1_7 a2_8 a3_9 a4_10 hbs9
  clear hz
  subst hbs9
  have G : zS T A s.heap s [[zO0 h md wy la pc_ a1_1 a2_2 a3_3 a4_4 a5_5 a6_6], [zAr T 0 a1_1 7 f1], [zAr T 0 a2_2 7 f2], [zAr T 0 a3_3 7 f3], [zAr T 0 a4_4 n4 f4], [zAr T 0 a5_5 n4 f5], [zAr T 0 a6_6 n4 f6], [zO4 la cr inn a1_7 a2_8 a3_9 a4_10], [zAr T 0 a1_7 7 k1], [zAr T 0 a2_8 28 k2], [zAr T 0 a3_9 7 k3], [zAr T 0 a4_10 7 k4]] _ _ := G.re rfl
  have hw_11 : bWays T h la md wy pc_ f1 f2 f3 f4 f5 f6 n4 [zO0 h md wy la pc_ a1_1 a2_2 a3_3 a4_4 a5_5 a6_6, zAr T 0 a1_1 7 f1, zAr T 0 a2_2 7 f2, zAr T 0 a3_3 7 f3, zAr T 0 a4_4 n4 f4, zAr T 0 a5_5 n4 f5, zAr T 0 a6_6 n4 f6] := ⟨a1_1, a2_2, a3_3, a4_4, a5_5, a6_6, rfl⟩
  have G : zS T A s.heap s [[zO0 h md wy la pc_ a1_1 a2_2 a3_3 a4_4 a5_5 a6_6, zAr T 0 a1_1 7 f1, zAr T 0 a2_2 7 f2, zAr T 0 a3_3 7 f3, zAr T 0 a4_4 n4 f4, zAr T 0 a5_5 n4 f5, zAr T 0 a6_6 n4 f6], [zO4 la cr inn a1_7 a2_8 a3_9 a4_10], [zAr T 0 a1_7 7 k1], [zAr T 0 a2_8 28 k2], [zAr T 0 a3_9 7 k3], [zAr T 0 a4_10 7 k4]] _ _ := G.re rfl
  have hw_12 : bLand T la cr inn k1 k2 k3 k4 [zO4 la cr inn a1_7 a2_8 a3_9 a4_10, zAr T 0 a1_7 7 k1, zAr T 0 a2_8 28 k2, zAr T 0 a3_9 7 k3, zAr T 0 a4_10 7 k4] := ⟨a1_7, a2_8, a3_9, a4_10, rfl⟩
  have G : zS T A s.heap s [[zO0 h md wy la pc_ a1_1 a2_2 a3_3 a4_4 a5_5 a6_6, zAr T 0 a1_1 7 f1, zAr T 0 a2_2 7 f2, zAr T 0 a3_3 7 f3, zAr T 0 a4_4 n4 f4, zAr T 0 a5_5 n4 f5, zAr T 0 a6_6 n4 f6], [zO4 la cr inn a1_7 a2_8 a3_9 a4_10, zAr T 0 a1_7 7 k1, zAr T 0 a2_8 28 k2, zAr T 0 a3_9 7 k3, zAr T 0 a4_10 7 k4]] _ _ := G.re rfl
  refine z_lp4 (T := T) 2 (fun (i : Nat) (wt : va_W) (x4 : Nat → Int32) (x5 : Nat → Int32) => [wt, [zO4 la cr inn a1_7 a2_8 a3_9 a4_10, zAr T 0 a1_7 7 k1, zAr T 0 a2_8 28 k2, zAr T 0 a3_9 7 k3, zAr T 0 a4_10 7 k4]]) (fun (i : Nat) (wt : va_W) (x4 : Nat → Int32) (x5 : Nat → Int32) => [(1, .int (nI i)), (0, .ref h)]) (fun (i : Nat) (wt : va_W) (x4 : Nat → Int32) (x5 : Nat → Int32) => bWays T h la md wy pc_ f1 f2 f3 x4 x5 f6 n4 wt ∧ i ≤ pc_.toInt.toNat ∧ (∀ j, j < i → x4 j = nI (aT (aW cr inn k1) k2 1 j)) ∧ (∀ j, j < i → x5 j = nI (aT (aW cr inn k1) k2 1 j))) (fun (i : Nat) (wt : va_W) (x4 : Nat → Int32) (x5 : Nat → Int32) => pc_.toInt.toNat - i) ?_ 0 ([zO0 h md wy la pc_ a1_1 a2_2 a3_3 a4_4 a5_5 a6_6, zAr T 0 a1_1 7 f1, zAr T 0 a2_2 7 f2, zAr T 0 a3_3 7 f3, zAr T 0 a4_4 n4 f4, zAr T 0 a5_5 n4 f5, zAr T 0 a6_6 n4 f6]) f4 f5 (show bWays T h la md wy pc_ f1 f2 f3 f4 f5 f6 n4 ([zO0 h md wy la pc_ a1_1 a2_2 a3_3 a4_4 a5_5 a6_6, zAr T 0 a1_1 7 f1, zAr T 0 a2_2 7 f2, zAr T 0 a3_3 7 f3, zAr T 0 a4_4 n4 f4, zAr T 0 a5_5 n4 f5, zAr T 0 a6_6 n4 f6]) ∧ 0 ≤ pc_.toInt.toNat ∧ (∀ j, j < 0 → f4 j = nI (aT (aW cr inn k1) k2 1 j)) ∧ (∀ j, j < 0 → f5 j = nI (aT (aW cr inn k1) k2 1 j)) from ⟨hw_11, by omega, fun j hj => absurd hj (by omega), fun j hj => absurd hj (by omega)⟩) G (lv_sub hl [0, 1] rfl)
  intro i wt x4 x5 hI9 ih_2 H locs ls G hl
  replace hI9 : bWays T h la md wy pc_ f1 f2 f3 x4 x5 f6 n4 wt ∧ i ≤ pc_.toInt.toNat ∧ (∀ j, j < i → x4 j = nI (aT (aW cr inn k1) k2 1 j)) ∧ (∀ j, j < i → x5 j = nI (aT (aW cr inn k1) k2 1 j)) := hI9
  refine zAn4 hI9 ?_
  intro hwt hi hx4 hx5
  clear hI9
  replace G : zS T A s.heap s [wt, [zO4 la cr inn a1_7 a2_8 a3_9 a4_10, zAr T 0 a1_7 7 k1, zAr T 0 a2_8 28 k2, zAr T 0 a3_9 7 k3, zAr T 0 a4_10 7 k4]] _ _ := G
  replace hl : lv_has ls 5 [(1, .int (nI i)), (0, .ref h)] := hl
  refine lv_iload_n hx hb dX0_stepOnce_2 rfl (lv_at hl 0 rfl) ?_
  refine lv_aload_n hx hb dX0_stepOnce_3 rfl (lv_at hl 1 rfl) ?_
  refine zEx6 hwt ?_
  intro a1_13 a2_14 a3_15 a4_16 a5_17 a6_18 hbs9
  clear hwt
  subst hbs9
  have G : zS T A s.heap s [[zO0 h md wy la pc_ a1_13 a2_14 a3_15 a4_16 a5_17 a6_18], [zAr T 0 a1_13 7 f1], [zAr T 0 a2_14 7 f2], [zAr T 0 a3_15 7 f3], [zAr T 0 a4_16 n4 x4], [zAr T 0 a5_17 n4 x5], [zAr T 0 a6_18 n4 f6], [zO4 la cr inn a1_7 a2_8 a3_9 a4_10, zAr T 0 a1_7 7 k1, zAr T 0 a2_8 28 k2, zAr T 0 a3_9 7 k3, zAr T 0 a4_10 7 k4]] _ _ := G.re rfl
  refine z_get C G clX0 0 rfl 3 (by decide) m_fl_RX0_75 rfl dX0_stepOnce_4 ?_
  refine lv_icmp_ge (tgt := 108) hx hb dX0_stepOnce_7 (by decide) (fun c_19 => ?_) (fun c_19 => ?_)
  · have c_19n : pc_.toInt ≤ (i : Int) := by have q := (fa_le _ _).mp c_19; rw [nI_toInt (n := i) (by omega)] at q; exact q
    have hw_20 : bWays T h la md wy pc_ f1 f2 f3 x4 x5 f6 n4 [zO0 h md wy la pc_ a1_13 a2_14 a3_15 a4_16 a5_17 a6_18, zAr T 0 a1_13 7 f1, zAr T 0 a2_14 7 f2, zAr T 0 a3_15 7 f3, zAr T 0 a4_16 n4 x4, zAr T 0 a5_17 n4 x5, zAr T 0 a6_18 n4 f6] := ⟨a1_13, a2_14, a3_15, a4_16, a5_17, a6_18, rfl⟩
    have G : zS T A s.heap s [[zO0 h md wy la pc_ a1_13 a2_14 a3_15 a4_16 a5_17 a6_18, zAr T 0 a1_13 7 f1, zAr T 0 a2_14 7 f2, zAr T 0 a3_15 7 f3, zAr T 0 a4_16 n4 x4, zAr T 0 a5_17 n4 x5, zAr T 0 a6_18 n4 f6], [zO4 la cr inn a1_7 a2_8 a3_9 a4_10, zAr T 0 a1_7 7 k1, zAr T 0 a2_8 28 k2, zAr T 0 a3_9 7 k3, zAr T 0 a4_10 7 k4]] _ _ := G.re rfl
    exact z_back hQz_ (z_vret C hr hlocks G (Nat.le_of_ble_eq_true rfl) (Nat.le_of_ble_eq_true rfl) dX0_stepOnce_108 ⟨([zO0 h md wy la pc_ a1_13 a2_14 a3_15 a4_16 a5_17 a6_18, zAr T 0 a1_13 7 f1, zAr T 0 a2_14 7 f2, zAr T 0 a3_15 7 f3, zAr T 0 a4_16 n4 x4, zAr T 0 a5_17 n4 x5, zAr T 0 a6_18 n4 f6]), x4, x5, rfl, hw_20, (fun j hj => hx4 j (by omega)), (fun j hj => hx5 j (by omega))⟩)
  · have c_19n : ¬ pc_.toInt ≤ (i : Int) := fun q => c_19 ((fa_le _ _).mpr (by rw [nI_toInt (n := i) (by omega)]; exact q))
    refine lv_iload_n hx hb dX0_stepOnce_10 rfl (lv_at hl 0 rfl) ?_
    refine lv_aload_n hx hb dX0_stepOnce_11 rfl (lv_at hl 1 rfl) ?_
    refine z_get C G clX0 0 rfl 7 (by decide) m_fl_RX0_28 rfl dX0_stepOnce_12 ?_
    refine z_alen C G 4 0 rfl (v := nI n4) rfl rfl dX0_stepOnce_15 ?_
    refine lv_icmp_ge (tgt := 108) hx hb dX0_stepOnce_16 (by decide) (fun c_21 => ?_) (fun c_21 => ?_)
    · have c_21n : n4 ≤ i := (nI_leI (a := n4) (b := i) (by omega) (by omega)).mp c_21
      have hw_22 : bWays T h la md wy pc_ f1 f2 f3 x4 x5 f6 n4 [zO0 h md wy la pc_ a1_13 a2_14 a3_15 a4_16 a5_17 a6_18, zAr T 0 a1_13 7 f1, zAr T 0 a2_14 7 f2, zAr T 0 a3_15 7 f3, zAr T 0 a4_16 n4 x4, zAr T 0 a5_17 n4 x5, zAr T 0 a6_18 n4 f6] := ⟨a1_13, a2_14, a3_15, a4_16, a5_17, a6_18, rfl⟩
      have G : zS T A s.heap s [[zO0 h md wy la pc_ a1_13 a2_14 a3_15 a4_16 a5_17 a6_18, zAr T 0 a1_13 7 f1, zAr T 0 a2_14 7 f2, zAr T 0 a3_15 7 f3, zAr T 0 a4_16 n4 x4, zAr T 0 a5_17 n4 x5, zAr T 0 a6_18 n4 f6], [zO4 la cr inn a1_7 a2_8 a3_9 a4_10, zAr T 0 a1_7 7 k1, zAr T 0 a2_8 28 k2, zAr T 0 a3_9 7 k3, zAr T 0 a4_10 7 k4]] _ _ := G.re rfl
      exact z_back hQz_ (z_vret C hr hlocks G (Nat.le_of_ble_eq_true rfl) (Nat.le_of_ble_eq_true rfl) dX0_stepOnce_108 ⟨([zO0 h md wy la pc_ a1_13 a2_14 a3_15 a4_16 a5_17 a6_18, zAr T 0 a1_13 7 f1, zAr T 0 a2_14 7 f2, zAr T 0 a3_15 7 f3, zAr T 0 a4_16 n4 x4, zAr T 0 a5_17 n4 x5, zAr T 0 a6_18 n4 f6]), x4, x5, rfl, hw_22, (fun j hj => hx4 j (by omega)), (fun j hj => hx5 j (by omega))⟩)
    · have c_21n : ¬ n4 ≤ i := fun q => c_21 ((nI_leI (a := n4) (b := i) (by omega) (by omega)).mpr q)
      refine lv_iload_n hx hb dX0_stepOnce_19 rfl (lv_at hl 0 rfl) ?_
      refine lv_aload_n hx hb dX0_stepOnce_20 rfl (lv_at hl 1 rfl) ?_
      refine z_get C G clX0 0 rfl 8 (by decide) m_fl_RX0_31 rfl dX0_stepOnce_21 ?_
      refine z_alen C G 5 0 rfl (v := nI n4) rfl rfl dX0_stepOnce_24 ?_
      refine lv_icmp_ge (tgt := 108) hx hb dX0_stepOnce_25 (by decide) (fun q => absurd q c_21) (fun _ => ?_)
      have hp9 := hO.2.2
      have hi9 : i < 8 * aPr (aW cr inn k1) 7 := by omega
      refine lv_iload_n hx hb dX0_stepOnce_28 rfl (lv_at hl 0 rfl) ?_
      refine lv_iconst (v := 3) hx hb dX0_stepOnce_29 (by decide) ?_
      refine lv_ishr hx hb dX0_stepOnce_30 ?_
      refine lv_topi (fun y_23 ey_23 => ?_)
      obtain rfl : y_23 = nI (i / 8) := ey_23.trans (aSh (by omega))
      refine lv_istore_n (lv' := [(2, .int (nI (i / 8))), (1, .int (nI i)), (0, .ref h)]) hx hb dX0_stepOnce_31 rfl hl (by decide) (zLvf_h rfl) (fun ls hl => ?_)
      refine lv_iload_n hx hb dX0_stepOnce_32 rfl (lv_at hl 1 rfl) ?_
      refine lv_bipush (v := 7) hx hb dX0_stepOnce_33 (by decide) ?_
      refine lv_iand hx hb dX0_stepOnce_35 ?_
      refine lv_topi (fun y_24 ey_24 => ?_)
      obtain rfl : y_24 = nI (i % 8) := ey_24.trans (aAn (by omega))
      refine lv_istore_n (lv' := [(3, .int (nI (i % 8))), (2, .int (nI (i / 8))), (1, .int (nI i)), (0, .ref h)]) hx hb dX0_stepOnce_36 rfl hl (by decide) (zLvf_h rfl) (fun ls hl => ?_)
      refine lv_aload_n hx hb dX0_stepOnce_37 rfl (lv_at hl 3 rfl) ?_
      refine lv_iload_n hx hb dX0_stepOnce_38 rfl (lv_at hl 1 rfl) ?_
      refine lv_iload_n hx hb dX0_stepOnce_39 rfl (lv_at hl 0 rfl) ?_
      have hw_25 : bWays T h la md wy pc_ f1 f2 f3 x4 x5 f6 n4 [zO0 h md wy la pc_ a1_13 a2_14 a3_15 a4_16 a5_17 a6_18, zAr T 0 a1_13 7 f1, zAr T 0 a2_14 7 f2, zAr T 0 a3_15 7 f3, zAr T 0 a4_16 n4 x4, zAr T 0 a5_17 n4 x5, zAr T 0 a6_18 n4 f6] := ⟨a1_13, a2_14, a3_15, a4_16, a5_17, a6_18, rfl⟩
      have G : zS T A s.heap s [[zO0 h md wy la pc_ a1_13 a2_14 a3_15 a4_16 a5_17 a6_18, zAr T 0 a1_13 7 f1, zAr T 0 a2_14 7 f2, zAr T 0 a3_15 7 f3, zAr T 0 a4_16 n4 x4, zAr T 0 a5_17 n4 x5, zAr T 0 a6_18 n4 f6], [zO4 la cr inn a1_7 a2_8 a3_9 a4_10, zAr T 0 a1_7 7 k1, zAr T 0 a2_8 28 k2, zAr T 0 a3_9 7 k3, zAr T 0 a4_10 7 k4]] _ _ := G.re rfl
      refine z_Vi (bc := [[zO0 h md wy la pc_ a1_13 a2_14 a3_15 a4_16 a5_17 a6_18, zAr T 0 a1_13 7 f1, zAr T 0 a2_14 7 f2, zAr T 0 a3_15 7 f3, zAr T 0 a4_16 n4 x4, zAr T 0 a5_17 n4 x5, zAr T 0 a6_18 n4 f6], [zO4 la cr inn a1_7 a2_8 a3_9 a4_10, zAr T 0 a1_7 7 k1, zAr T 0 a2_8 28 k2, zAr T 0 a3_9 7 k3, zAr T 0 a4_10 7 k4]]) (br := []) (As := [.int (nI (i / 8)), .int (nI (i % 8))]) (rest := []) C G (c_f_turned l T h la md wy pc_ f1 f2 f3 x4 x5 f6 n4 ([zO0 h md wy la pc_ a1_13 a2_14 a3_15 a4_16 a5_17 a6_18, zAr T 0 a1_13 7 f1, zAr T 0 a2_14 7 f2, zAr T 0 a3_15 7 f3, zAr T 0 a4_16 n4 x4, zAr T 0 a5_17 n4 x5, zAr T 0 a6_18 n4 f6]) cr inn k1 k2 k3 k4 ([zO4 la cr inn a1_7 a2_8 a3_9 a4_10, zAr T 0 a1_7 7 k1, zAr T 0 a2_8 28 k2, zAr T 0 a3_9 7 k3, zAr T 0 a4_10 7 k4]) (nI (i / 8)) (nI (i % 8)) hw_25 hw_12 (by first | with_reducible assumption | with_reducible rfl | omega | assumption | rfl) (by first | with_reducible assumption | with_reducible rfl | omega | assumption | rfl) (by first | with_reducible assumption | with_reducible rfl | omega | assumption | rfl) (by rw [nI_toInt (by omega)]; omega) (by rw [nI_toInt (by omega)]; omega)) (kV_RX0_78 C.2.2.2.2 (Nat.le_of_ble_eq_true rfl) (Nat.le_of_ble_eq_true rfl)) [0, 1] [0, 0] rfl rfl (ci := 0) (qc := (RX0, TX0, 10)) rfl rfl (List.mem_flatten.mpr ⟨_, List.mem_of_getElem? (i := 0) rfl, (bWays_mem hw_25).choose_spec⟩) rfl rfl hl.1 dX0_stepOnce_40 (Nat.le_of_ble_eq_true rfl) (Nat.le_of_ble_eq_true rfl) (fun r_27 b1 H locs hw G => ?_)
      refine zAn2 hw ?_
      intro hbs9 h_26
      clear hw
      subst hbs9
      have G : zS T A s.heap s [[zO0 h md wy la pc_ a1_13 a2_14 a3_15 a4_16 a5_17 a6_18, zAr T 0 a1_13 7 f1, zAr T 0 a2_14 7 f2, zAr T 0 a3_15 7 f3, zAr T 0 a4_16 n4 x4, zAr T 0 a5_17 n4 x5, zAr T 0 a6_18 n4 f6], [zO4 la cr inn a1_7 a2_8 a3_9 a4_10, zAr T 0 a1_7 7 k1, zAr T 0 a2_8 28 k2, zAr T 0 a3_9 7 k3, zAr T 0 a4_10 7 k4]] _ _ := G
      have ti9 := nI_n (n := i / 8) (by omega)
      have tj9 := nI_n (n := i % 8) (by omega)
      rw [ti9, tj9] at h_26
      refine lv_istore (lv' := [(4, .int r_27), (3, .int (nI (i % 8))), (2, .int (nI (i / 8))), (1, .int (nI i)), (0, .ref h)]) hx hb dX0_stepOnce_43 hl (by decide) (zLvf_h rfl) (fun ls hl => ?_)
      refine lv_iload hx hb dX0_stepOnce_45 (lv_at hl 0 rfl) ?_
      refine lv_iconst (v := (-1)) hx hb dX0_stepOnce_47 (by decide) ?_
      refine lv_icmp_ne (tgt := 61) hx hb dX0_stepOnce_48 (by decide) (fun c_28 => ?_) (fun c_28 => ?_)
      · have c_28n : ¬ r_27.toInt = (-1 : Int) := fun q => c_28 ((fa_eq _ _).mpr q)
        have hr9 : ¬ zWays cr inn k1 (nI (i % 8)) = 0 ∧ r_27 = nI (aTn (aW cr inn k1) (i / 8) (i % 8)) := h_26.resolve_left (fun q9 => absurd (congrArg Int32.toInt q9.2) (by first | with_reducible assumption | assumption))
        refine lv_aload_n hx hb dX0_stepOnce_61 rfl (lv_at hl 4 rfl) ?_
        have G : zS T A s.heap s [[zO0 h md wy la pc_ a1_13 a2_14 a3_15 a4_16 a5_17 a6_18], [zAr T 0 a1_13 7 f1], [zAr T 0 a2_14 7 f2], [zAr T 0 a3_15 7 f3], [zAr T 0 a4_16 n4 x4], [zAr T 0 a5_17 n4 x5], [zAr T 0 a6_18 n4 f6], [zO4 la cr inn a1_7 a2_8 a3_9 a4_10, zAr T 0 a1_7 7 k1, zAr T 0 a2_8 28 k2, zAr T 0 a3_9 7 k3, zAr T 0 a4_10 7 k4]] _ _ := G.re rfl
        refine z_get C G clX0 0 rfl 7 (by decide) m_fl_RX0_28 rfl dX0_stepOnce_62 ?_
        refine lv_iload_n hx hb dX0_stepOnce_65 rfl (lv_at hl 3 rfl) ?_
        refine lv_iload hx hb dX0_stepOnce_66 (lv_at hl 0 rfl) ?_
        refine lv_aload_n hx hb dX0_stepOnce_68 rfl (lv_at hl 4 rfl) ?_
        refine z_get C G clX0 0 rfl 2 (by decide) m_fl_RX0_14 rfl dX0_stepOnce_69 ?_
        refine lv_iload_n hx hb dX0_stepOnce_72 rfl (lv_at hl 1 rfl) ?_
        refine lv_aload_n hx hb dX0_stepOnce_73 rfl (lv_at hl 4 rfl) ?_
        refine lv_iload hx hb dX0_stepOnce_74 (lv_at hl 0 rfl) ?_
        refine lv_iload_n hx hb dX0_stepOnce_76 rfl (lv_at hl 1 rfl) ?_
        have hw_29 : bWays T h la md wy pc_ f1 f2 f3 x4 x5 f6 n4 [zO0 h md wy la pc_ a1_13 a2_14 a3_15 a4_16 a5_17 a6_18, zAr T 0 a1_13 7 f1, zAr T 0 a2_14 7 f2, zAr T 0 a3_15 7 f3, zAr T 0 a4_16 n4 x4, zAr T 0 a5_17 n4 x5, zAr T 0 a6_18 n4 f6] := ⟨a1_13, a2_14, a3_15, a4_16, a5_17, a6_18, rfl⟩
        have G : zS T A s.heap s [[zO0 h md wy la pc_ a1_13 a2_14 a3_15 a4_16 a5_17 a6_18, zAr T 0 a1_13 7 f1, zAr T 0 a2_14 7 f2, zAr T 0 a3_15 7 f3, zAr T 0 a4_16 n4 x4, zAr T 0 a5_17 n4 x5, zAr T 0 a6_18 n4 f6], [zO4 la cr inn a1_7 a2_8 a3_9 a4_10, zAr T 0 a1_7 7 k1, zAr T 0 a2_8 28 k2, zAr T 0 a3_9 7 k3, zAr T 0 a4_10 7 k4]] _ _ := G.re rfl
        refine z_Vi (bc := [[zO0 h md wy la pc_ a1_13 a2_14 a3_15 a4_16 a5_17 a6_18, zAr T 0 a1_13 7 f1, zAr T 0 a2_14 7 f2, zAr T 0 a3_15 7 f3, zAr T 0 a4_16 n4 x4, zAr T 0 a5_17 n4 x5, zAr T 0 a6_18 n4 f6]]) (br := [[zO4 la cr inn a1_7 a2_8 a3_9 a4_10, zAr T 0 a1_7 7 k1, zAr T 0 a2_8 28 k2, zAr T 0 a3_9 7 k3, zAr T 0 a4_10 7 k4]]) (As := [.int r_27, .int (nI (i % 8))]) (rest := [.int (nI (i % 8)), .ref la, .int r_27, .int (nI i), .ref a4_16]) C G (c_road l T h la md wy pc_ f1 f2 f3 x4 x5 f6 n4 ([zO0 h md wy la pc_ a1_13 a2_14 a3_15 a4_16 a5_17 a6_18, zAr T 0 a1_13 7 f1, zAr T 0 a2_14 7 f2, zAr T 0 a3_15 7 f3, zAr T 0 a4_16 n4 x4, zAr T 0 a5_17 n4 x5, zAr T 0 a6_18 n4 f6]) r_27 (nI (i % 8)) hw_29) (kV_RX0_81 C.2.2.2.2 (Nat.le_of_ble_eq_true rfl) (Nat.le_of_ble_eq_true rfl)) [0] [0] rfl rfl (ci := 0) (qc := (RX0, TX0, 10)) rfl rfl (List.mem_flatten.mpr ⟨_, List.mem_of_getElem? (i := 0) rfl, (bWays_mem hw_29).choose_spec⟩) rfl rfl hl.1 dX0_stepOnce_77 (Nat.le_of_ble_eq_true rfl) (Nat.le_of_ble_eq_true rfl) (fun r_31 b1 H locs hw G => ?_)
        refine zAn2 hw ?_
        intro hbs9 h_30
        clear hw
        subst hbs9
        have G : zS T A s.heap s [[zO4 la cr inn a1_7 a2_8 a3_9 a4_10, zAr T 0 a1_7 7 k1, zAr T 0 a2_8 28 k2, zAr T 0 a3_9 7 k3, zAr T 0 a4_10 7 k4], [zO0 h md wy la pc_ a1_13 a2_14 a3_15 a4_16 a5_17 a6_18, zAr T 0 a1_13 7 f1, zAr T 0 a2_14 7 f2, zAr T 0 a3_15 7 f3, zAr T 0 a4_16 n4 x4, zAr T 0 a5_17 n4 x5, zAr T 0 a6_18 n4 f6]] _ _ := G
        subst h_30
        refine z_Vi (bc := [[zO4 la cr inn a1_7 a2_8 a3_9 a4_10, zAr T 0 a1_7 7 k1, zAr T 0 a2_8 28 k2, zAr T 0 a3_9 7 k3, zAr T 0 a4_10 7 k4]]) (br := [[zO0 h md wy la pc_ a1_13 a2_14 a3_15 a4_16 a5_17 a6_18, zAr T 0 a1_13 7 f1, zAr T 0 a2_14 7 f2, zAr T 0 a3_15 7 f3, zAr T 0 a4_16 n4 x4, zAr T 0 a5_17 n4 x5, zAr T 0 a6_18 n4 f6]]) (As := [.int (nI (i % 8)), .int (zRoad f1 f2 r_27 (nI (i % 8)))]) (rest := [.int r_27, .int (nI i), .ref a4_16]) C G (c_target l T la cr inn k1 k2 k3 k4 ([zO4 la cr inn a1_7 a2_8 a3_9 a4_10, zAr T 0 a1_7 7 k1, zAr T 0 a2_8 28 k2, zAr T 0 a3_9 7 k3, zAr T 0 a4_10 7 k4]) (nI (i % 8)) (zRoad f1 f2 r_27 (nI (i % 8))) hw_12) (kV_RX0_84 C.2.2.2.2 (Nat.le_of_ble_eq_true rfl) (Nat.le_of_ble_eq_true rfl)) [0] [0] rfl rfl (ci := 4) (qc := (RX4, TX4, 6)) rfl rfl (List.mem_flatten.mpr ⟨_, List.mem_of_getElem? (i := 0) rfl, (bLand_mem hw_12).choose_spec⟩) rfl rfl hl.1 dX0_stepOnce_80 (Nat.le_of_ble_eq_true rfl) (Nat.le_of_ble_eq_true rfl) (fun r_33 b1 H locs hw G => ?_)
        refine zAn2 hw ?_
        intro hbs9 h_32
        clear hw
        subst hbs9
        have G : zS T A s.heap s [[zO0 h md wy la pc_ a1_13 a2_14 a3_15 a4_16 a5_17 a6_18, zAr T 0 a1_13 7 f1, zAr T 0 a2_14 7 f2, zAr T 0 a3_15 7 f3, zAr T 0 a4_16 n4 x4, zAr T 0 a5_17 n4 x5, zAr T 0 a6_18 n4 f6], [zO4 la cr inn a1_7 a2_8 a3_9 a4_10, zAr T 0 a1_7 7 k1, zAr T 0 a2_8 28 k2, zAr T 0 a3_9 7 k3, zAr T 0 a4_10 7 k4]] _ _ := G
        subst h_32
        refine z_Si (bc := []) (br := [[zO0 h md wy la pc_ a1_13 a2_14 a3_15 a4_16 a5_17 a6_18, zAr T 0 a1_13 7 f1, zAr T 0 a2_14 7 f2, zAr T 0 a3_15 7 f3, zAr T 0 a4_16 n4 x4, zAr T 0 a5_17 n4 x5, zAr T 0 a6_18 n4 f6], [zO4 la cr inn a1_7 a2_8 a3_9 a4_10, zAr T 0 a1_7 7 k1, zAr T 0 a2_8 28 k2, zAr T 0 a3_9 7 k3, zAr T 0 a4_10 7 k4]]) (As := [.int r_27, .int (zTarget cr k1 k2 (nI (i % 8)) (zRoad f1 f2 r_27 (nI (i % 8))))]) (rest := [.int (nI i), .ref a4_16]) C G (c_place l T r_27 (zTarget cr k1 k2 (nI (i % 8)) (zRoad f1 f2 r_27 (nI (i % 8))))) (kS_RX0_87 C.2.2.2.2 (Nat.le_of_ble_eq_true rfl) (Nat.le_of_ble_eq_true rfl)) [] [] rfl rfl rfl rfl hl.1 dX0_stepOnce_83 (Nat.le_of_ble_eq_true rfl) (Nat.le_of_ble_eq_true rfl) (fun r_35 b1 H locs hw G => ?_)
        refine zAn2 hw ?_
        intro hbs9 h_34
        clear hw
        subst hbs9
        have G : zS T A s.heap s [[zO0 h md wy la pc_ a1_13 a2_14 a3_15 a4_16 a5_17 a6_18, zAr T 0 a1_13 7 f1, zAr T 0 a2_14 7 f2, zAr T 0 a3_15 7 f3, zAr T 0 a4_16 n4 x4, zAr T 0 a5_17 n4 x5, zAr T 0 a6_18 n4 f6], [zO4 la cr inn a1_7 a2_8 a3_9 a4_10, zAr T 0 a1_7 7 k1, zAr T 0 a2_8 28 k2, zAr T 0 a3_9 7 k3, zAr T 0 a4_10 7 k4]] _ _ := G
        subst h_34
        refine lv_ldc (v := 131072) hx hb C.2.2.2.1 (C.2.2.2.2 _ m_ko_RX0_71) dX0_stepOnce_86 ?_
        refine lv_iadd hx hb dX0_stepOnce_88 ?_
        refine lv_topi (fun y_36 ey_36 => ?_)
        obtain rfl : y_36 = nI (aT (aW cr inn k1) k2 1 i) := ey_36.trans (aT_y hI hF hO hi9 hr9.1 hr9.2)
        have G : zS T A s.heap s [[zO0 h md wy la pc_ a1_13 a2_14 a3_15 a4_16 a5_17 a6_18], [zAr T 0 a1_13 7 f1], [zAr T 0 a2_14 7 f2], [zAr T 0 a3_15 7 f3], [zAr T 0 a4_16 n4 x4], [zAr T 0 a5_17 n4 x5], [zAr T 0 a6_18 n4 f6], [zO4 la cr inn a1_7 a2_8 a3_9 a4_10, zAr T 0 a1_7 7 k1, zAr T 0 a2_8 28 k2, zAr T 0 a3_9 7 k3, zAr T 0 a4_10 7 k4]] _ _ := G.re rfl
        refine z_ist C G 4 rfl (vp_in_nI (by omega) (by omega)) dX0_stepOnce_89 (fun H locs G => ?_)
        rw [nI_clamp (by omega)] at G
        have G : zS T A s.heap s [[zO0 h md wy la pc_ a1_13 a2_14 a3_15 a4_16 a5_17 a6_18], [zAr T 0 a1_13 7 f1], [zAr T 0 a2_14 7 f2], [zAr T 0 a3_15 7 f3], [zAr T 0 a4_16 n4 (upd x4 i (nI (aT (aW cr inn k1) k2 1 i)))], [zAr T 0 a5_17 n4 x5], [zAr T 0 a6_18 n4 f6], [zO4 la cr inn a1_7 a2_8 a3_9 a4_10, zAr T 0 a1_7 7 k1, zAr T 0 a2_8 28 k2, zAr T 0 a3_9 7 k3, zAr T 0 a4_10 7 k4]] _ _ := G
        refine lv_aload_n hx hb dX0_stepOnce_90 rfl (lv_at hl 4 rfl) ?_
        refine z_get C G clX0 0 rfl 8 (by decide) m_fl_RX0_31 rfl dX0_stepOnce_91 ?_
        refine lv_iload_n hx hb dX0_stepOnce_94 rfl (lv_at hl 3 rfl) ?_
        refine lv_aload_n hx hb dX0_stepOnce_95 rfl (lv_at hl 4 rfl) ?_
        refine z_get C G clX0 0 rfl 7 (by decide) m_fl_RX0_28 rfl dX0_stepOnce_96 ?_
        refine lv_iload_n hx hb dX0_stepOnce_99 rfl (lv_at hl 3 rfl) ?_
        refine z_ild C G 4 rfl (vp_in_nI (by omega) (by omega)) dX0_stepOnce_100 ?_
        refine lv_topi (fun v_37 ev_37 => ?_)
        rw [nI_clamp (by omega)] at ev_37
        subst ev_37
        refine lv_topi (fun y_38 ey_38 => ?_)
        obtain rfl : y_38 = nI (aT (aW cr inn k1) k2 1 i) := ey_38.trans (pk_us)
        refine z_ist C G 5 rfl (vp_in_nI (by omega) (by omega)) dX0_stepOnce_101 (fun H locs G => ?_)
        rw [nI_clamp (by omega)] at G
        have G : zS T A s.heap s [[zO0 h md wy la pc_ a1_13 a2_14 a3_15 a4_16 a5_17 a6_18], [zAr T 0 a1_13 7 f1], [zAr T 0 a2_14 7 f2], [zAr T 0 a3_15 7 f3], [zAr T 0 a4_16 n4 (upd x4 i (nI (aT (aW cr inn k1) k2 1 i)))], [zAr T 0 a5_17 n4 (upd x5 i (nI (aT (aW cr inn k1) k2 1 i)))], [zAr T 0 a6_18 n4 f6], [zO4 la cr inn a1_7 a2_8 a3_9 a4_10, zAr T 0 a1_7 7 k1, zAr T 0 a2_8 28 k2, zAr T 0 a3_9 7 k3, zAr T 0 a4_10 7 k4]] _ _ := G
        refine lv_iinc (v := nI (i + 1)) (lv' := [(1, .int (nI (i + 1))), (4, .int r_27), (3, .int (nI (i % 8))), (2, .int (nI (i / 8))), (0, .ref h)]) hx hb dX0_stepOnce_102 hl (k := 3) rfl (z_inc i 1) (by decide) (zLvf_h rfl) (fun ls hl => ?_)
        refine lv_goto (tgt := 2) hx hb dX0_stepOnce_105 (by decide) ?_
        have hw_39 : bWays T h la md wy pc_ f1 f2 f3 (upd x4 i (nI (aT (aW cr inn k1) k2 1 i))) (upd x5 i (nI (aT (aW cr inn k1) k2 1 i))) f6 n4 [zO0 h md wy la pc_ a1_13 a2_14 a3_15 a4_16 a5_17 a6_18, zAr T 0 a1_13 7 f1, zAr T 0 a2_14 7 f2, zAr T 0 a3_15 7 f3, zAr T 0 a4_16 n4 (upd x4 i (nI (aT (aW cr inn k1) k2 1 i))), zAr T 0 a5_17 n4 (upd x5 i (nI (aT (aW cr inn k1) k2 1 i))), zAr T 0 a6_18 n4 f6] := ⟨a1_13, a2_14, a3_15, a4_16, a5_17, a6_18, rfl⟩
        have G : zS T A s.heap s [[zO0 h md wy la pc_ a1_13 a2_14 a3_15 a4_16 a5_17 a6_18, zAr T 0 a1_13 7 f1, zAr T 0 a2_14 7 f2, zAr T 0 a3_15 7 f3, zAr T 0 a4_16 n4 (upd x4 i (nI (aT (aW cr inn k1) k2 1 i))), zAr T 0 a5_17 n4 (upd x5 i (nI (aT (aW cr inn k1) k2 1 i))), zAr T 0 a6_18 n4 f6], [zO4 la cr inn a1_7 a2_8 a3_9 a4_10, zAr T 0 a1_7 7 k1, zAr T 0 a2_8 28 k2, zAr T 0 a3_9 7 k3, zAr T 0 a4_10 7 k4]] _ _ := G.re rfl
        exact ih_2 (i + 1) ([zO0 h md wy la pc_ a1_13 a2_14 a3_15 a4_16 a5_17 a6_18, zAr T 0 a1_13 7 f1, zAr T 0 a2_14 7 f2, zAr T 0 a3_15 7 f3, zAr T 0 a4_16 n4 (upd x4 i (nI (aT (aW cr inn k1) k2 1 i))), zAr T 0 a5_17 n4 (upd x5 i (nI (aT (aW cr inn k1) k2 1 i))), zAr T 0 a6_18 n4 f6]) (upd x4 i (nI (aT (aW cr inn k1) k2 1 i))) (upd x5 i (nI (aT (aW cr inn k1) k2 1 i))) (show bWays T h la md wy pc_ f1 f2 f3 (upd x4 i (nI (aT (aW cr inn k1) k2 1 i))) (upd x5 i (nI (aT (aW cr inn k1) k2 1 i))) f6 n4 ([zO0 h md wy la pc_ a1_13 a2_14 a3_15 a4_16 a5_17 a6_18, zAr T 0 a1_13 7 f1, zAr T 0 a2_14 7 f2, zAr T 0 a3_15 7 f3, zAr T 0 a4_16 n4 (upd x4 i (nI (aT (aW cr inn k1) k2 1 i))), zAr T 0 a5_17 n4 (upd x5 i (nI (aT (aW cr inn k1) k2 1 i))), zAr T 0 a6_18 n4 f6]) ∧ (i + 1) ≤ pc_.toInt.toNat ∧ (∀ j, j < (i + 1) → (upd x4 i (nI (aT (aW cr inn k1) k2 1 i))) j = nI (aT (aW cr inn k1) k2 1 j)) ∧ (∀ j, j < (i + 1) → (upd x5 i (nI (aT (aW cr inn k1) k2 1 i))) j = nI (aT (aW cr inn k1) k2 1 j)) from ⟨hw_39, by omega, z_upS0 (f := fun j => nI (aT (aW cr inn k1) k2 1 j)) hx4 rfl, z_upS0 (f := fun j => nI (aT (aW cr inn k1) k2 1 j)) hx5 rfl⟩) (show pc_.toInt.toNat - (i + 1) < pc_.toInt.toNat - i from by omega) _ _ ls G (lv_sub hl [0, 4] rfl)
      · have c_28n : r_27.toInt = (-1 : Int) := (fa_eq _ _).mp c_28
        have hz9 : zWays cr inn k1 (nI (i % 8)) = 0 := by rcases h_26 with q9 | q9 <;> first | exact q9.1 | exact absurd (q9.2.symm.trans (by first | with_reducible assumption | assumption)) (nIm1 (Nat.lt_trans (aTn_lt (by have q7 := zWays_in q9.1; have q6 := nI_toInt (n := i % 8) (by omega); omega) (by omega)) (by omega)))
        refine lv_aload_n hx hb dX0_stepOnce_51 rfl (lv_at hl 4 rfl) ?_
        have G : zS T A s.heap s [[zO0 h md wy la pc_ a1_13 a2_14 a3_15 a4_16 a5_17 a6_18], [zAr T 0 a1_13 7 f1], [zAr T 0 a2_14 7 f2], [zAr T 0 a3_15 7 f3], [zAr T 0 a4_16 n4 x4], [zAr T 0 a5_17 n4 x5], [zAr T 0 a6_18 n4 f6], [zO4 la cr inn a1_7 a2_8 a3_9 a4_10, zAr T 0 a1_7 7 k1, zAr T 0 a2_8 28 k2, zAr T 0 a3_9 7 k3, zAr T 0 a4_10 7 k4]] _ _ := G.re rfl
        refine z_get C G clX0 0 rfl 7 (by decide) m_fl_RX0_28 rfl dX0_stepOnce_52 ?_
        refine lv_iload_n hx hb dX0_stepOnce_55 rfl (lv_at hl 3 rfl) ?_
        refine lv_iload_n hx hb dX0_stepOnce_56 rfl (lv_at hl 3 rfl) ?_
        refine lv_topi (fun y_40 ey_40 => ?_)
        obtain rfl : y_40 = nI (aT (aW cr inn k1) k2 1 i) := ey_40.trans (aT_n hz9)
        refine z_ist C G 4 rfl (vp_in_nI (by omega) (by omega)) dX0_stepOnce_57 (fun H locs G => ?_)
        rw [nI_clamp (by omega)] at G
        have G : zS T A s.heap s [[zO0 h md wy la pc_ a1_13 a2_14 a3_15 a4_16 a5_17 a6_18], [zAr T 0 a1_13 7 f1], [zAr T 0 a2_14 7 f2], [zAr T 0 a3_15 7 f3], [zAr T 0 a4_16 n4 (upd x4 i (nI (aT (aW cr inn k1) k2 1 i)))], [zAr T 0 a5_17 n4 x5], [zAr T 0 a6_18 n4 f6], [zO4 la cr inn a1_7 a2_8 a3_9 a4_10, zAr T 0 a1_7 7 k1, zAr T 0 a2_8 28 k2, zAr T 0 a3_9 7 k3, zAr T 0 a4_10 7 k4]] _ _ := G
        refine lv_goto (tgt := 90) hx hb dX0_stepOnce_58 (by decide) ?_
        refine lv_aload_n hx hb dX0_stepOnce_90 rfl (lv_at hl 4 rfl) ?_
        refine z_get C G clX0 0 rfl 8 (by decide) m_fl_RX0_31 rfl dX0_stepOnce_91 ?_
        refine lv_iload_n hx hb dX0_stepOnce_94 rfl (lv_at hl 3 rfl) ?_
        refine lv_aload_n hx hb dX0_stepOnce_95 rfl (lv_at hl 4 rfl) ?_
        refine z_get C G clX0 0 rfl 7 (by decide) m_fl_RX0_28 rfl dX0_stepOnce_96 ?_
        refine lv_iload_n hx hb dX0_stepOnce_99 rfl (lv_at hl 3 rfl) ?_
        refine z_ild C G 4 rfl (vp_in_nI (by omega) (by omega)) dX0_stepOnce_100 ?_
        refine lv_topi (fun v_41 ev_41 => ?_)
        rw [nI_clamp (by omega)] at ev_41
        subst ev_41
        refine lv_topi (fun y_42 ey_42 => ?_)
        obtain rfl : y_42 = nI (aT (aW cr inn k1) k2 1 i) := ey_42.trans (pk_us)
        refine z_ist C G 5 rfl (vp_in_nI (by omega) (by omega)) dX0_stepOnce_101 (fun H locs G => ?_)
        rw [nI_clamp (by omega)] at G
        have G : zS T A s.heap s [[zO0 h md wy la pc_ a1_13 a2_14 a3_15 a4_16 a5_17 a6_18], [zAr T 0 a1_13 7 f1], [zAr T 0 a2_14 7 f2], [zAr T 0 a3_15 7 f3], [zAr T 0 a4_16 n4 (upd x4 i (nI (aT (aW cr inn k1) k2 1 i)))], [zAr T 0 a5_17 n4 (upd x5 i (nI (aT (aW cr inn k1) k2 1 i)))], [zAr T 0 a6_18 n4 f6], [zO4 la cr inn a1_7 a2_8 a3_9 a4_10, zAr T 0 a1_7 7 k1, zAr T 0 a2_8 28 k2, zAr T 0 a3_9 7 k3, zAr T 0 a4_10 7 k4]] _ _ := G
        refine lv_iinc (v := nI (i + 1)) (lv' := [(1, .int (nI (i + 1))), (4, .int r_27), (3, .int (nI (i % 8))), (2, .int (nI (i / 8))), (0, .ref h)]) hx hb dX0_stepOnce_102 hl (k := 3) rfl (z_inc i 1) (by decide) (zLvf_h rfl) (fun ls hl => ?_)
        refine lv_goto (tgt := 2) hx hb dX0_stepOnce_105 (by decide) ?_
        have hw_43 : bWays T h la md wy pc_ f1 f2 f3 (upd x4 i (nI (aT (aW cr inn k1) k2 1 i))) (upd x5 i (nI (aT (aW cr inn k1) k2 1 i))) f6 n4 [zO0 h md wy la pc_ a1_13 a2_14 a3_15 a4_16 a5_17 a6_18, zAr T 0 a1_13 7 f1, zAr T 0 a2_14 7 f2, zAr T 0 a3_15 7 f3, zAr T 0 a4_16 n4 (upd x4 i (nI (aT (aW cr inn k1) k2 1 i))), zAr T 0 a5_17 n4 (upd x5 i (nI (aT (aW cr inn k1) k2 1 i))), zAr T 0 a6_18 n4 f6] := ⟨a1_13, a2_14, a3_15, a4_16, a5_17, a6_18, rfl⟩
        have G : zS T A s.heap s [[zO0 h md wy la pc_ a1_13 a2_14 a3_15 a4_16 a5_17 a6_18, zAr T 0 a1_13 7 f1, zAr T 0 a2_14 7 f2, zAr T 0 a3_15 7 f3, zAr T 0 a4_16 n4 (upd x4 i (nI (aT (aW cr inn k1) k2 1 i))), zAr T 0 a5_17 n4 (upd x5 i (nI (aT (aW cr inn k1) k2 1 i))), zAr T 0 a6_18 n4 f6], [zO4 la cr inn a1_7 a2_8 a3_9 a4_10, zAr T 0 a1_7 7 k1, zAr T 0 a2_8 28 k2, zAr T 0 a3_9 7 k3, zAr T 0 a4_10 7 k4]] _ _ := G.re rfl
        exact ih_2 (i + 1) ([zO0 h md wy la pc_ a1_13 a2_14 a3_15 a4_16 a5_17 a6_18, zAr T 0 a1_13 7 f1, zAr T 0 a2_14 7 f2, zAr T 0 a3_15 7 f3, zAr T 0 a4_16 n4 (upd x4 i (nI (aT (aW cr inn k1) k2 1 i))), zAr T 0 a5_17 n4 (upd x5 i (nI (aT (aW cr inn k1) k2 1 i))), zAr T 0 a6_18 n4 f6]) (upd x4 i (nI (aT (aW cr inn k1) k2 1 i))) (upd x5 i (nI (aT (aW cr inn k1) k2 1 i))) (show bWays T h la md wy pc_ f1 f2 f3 (upd x4 i (nI (aT (aW cr inn k1) k2 1 i))) (upd x5 i (nI (aT (aW cr inn k1) k2 1 i))) f6 n4 ([zO0 h md wy la pc_ a1_13 a2_14 a3_15 a4_16 a5_17 a6_18, zAr T 0 a1_13 7 f1, zAr T 0 a2_14 7 f2, zAr T 0 a3_15 7 f3, zAr T 0 a4_16 n4 (upd x4 i (nI (aT (aW cr inn k1) k2 1 i))), zAr T 0 a5_17 n4 (upd x5 i (nI (aT (aW cr inn k1) k2 1 i))), zAr T 0 a6_18 n4 f6]) ∧ (i + 1) ≤ pc_.toInt.toNat ∧ (∀ j, j < (i + 1) → (upd x4 i (nI (aT (aW cr inn k1) k2 1 i))) j = nI (aT (aW cr inn k1) k2 1 j)) ∧ (∀ j, j < (i + 1) → (upd x5 i (nI (aT (aW cr inn k1) k2 1 i))) j = nI (aT (aW cr inn k1) k2 1 j)) from ⟨hw_43, by omega, z_upS0 (f := fun j => nI (aT (aW cr inn k1) k2 1 j)) hx4 rfl, z_upS0 (f := fun j => nI (aT (aW cr inn k1) k2 1 j)) hx5 rfl⟩) (show pc_.toInt.toNat - (i + 1) < pc_.toInt.toNat - i from by omega) _ _ ls G (lv_sub hl [0, 4] rfl)
set_option maxHeartbeats 4000000 in
set_option maxRecDepth 100000 in
/-- doubleAll -/
theorem c_f_doubleAll (l : Launch) (T : zTy) (h : Nat) (la : Nat) (md : Int32) (wy : Int32) (pc_ : Int32) (f1 : Nat → Int32) (f2 : Nat → Int32) (f3 : Nat → Int32) (f4 : Nat → Int32) (f5 : Nat → Int32) (f6 : Nat → Int32) (n4 : Nat) (ww : va_W) (W_ : Nat → Int32) (L_ : Nat → Int32) (m_ : Nat) (hww : bWays T h la md wy pc_ f1 f2 f3 f4 f5 f6 n4 ww) (hO : aOk W_ L_) (hpc : pc_.toInt = ((8 * aPr W_ 7 : Nat) : Int)) (hpn : 8 * aPr W_ 7 ≤ n4) (hn : n4 ≤ 131072) (hm : m_ ≤ 499) (hE : (∀ j, j < 8 * aPr W_ 7 → f5 j = nI (aT W_ L_ m_ j))) : zMv l T yX0_doubleAll cX0_doubleAll 6 1 0 0 [.ref h] [ww] (fun bs => ∃ (w2 : va_W) (g5 : Nat → Int32) (g6 : Nat → Int32), bs = [w2] ∧ bWays T h la md wy pc_ f1 f2 f3 f4 g5 g6 n4 w2 ∧ (∀ j, j < 8 * aPr W_ 7 → g5 j = nI (aT W_ L_ (m_ + m_) j))) := by
  refine zMv_of (own := RX0) (by decide) rfl (Nat.le_of_ble_eq_true rfl) ?_
  intro p e s m args below meth c A ls C hr hlocks hnm hAe G hl
  refine zHide (fun Qz_ hQz_ => ?_)
  have hx := C.1
  have hb := C.2.1
  have hl : lv_has ls 6 [(0, .ref h)] := hl
  refine lv_aload_n hx hb dX0_doubleAll_0 rfl (lv_at hl 0 rfl) ?_
  refine zEx6 hww ?_
  intro a1_1 a2_2 a3_3 a4_4 a5_5 a6_6 hbs9
  clear hww
  subst hbs9
  have G : zS T A s.heap s [[zO0 h md wy la pc_ a1_1 a2_2 a3_3 a4_4 a5_5 a6_6], [zAr T 0 a1_1 7 f1], [zAr T 0 a2_2 7 f2], [zAr T 0 a3_3 7 f3], [zAr T 0 a4_4 n4 f4], [zAr T 0 a5_5 n4 f5], [zAr T 0 a6_6 n4 f6]] _ _ := G.re rfl
  refine z_get C G clX0 0 rfl 8 (by decide) m_fl_RX0_31 rfl dX0_doubleAll_1 ?_
  refine lv_astore_n (lv' := [(1, .ref a5_5), (0, .ref h)]) hx hb dX0_doubleAll_4 rfl hl (by decide) (zLvf_h rfl) (fun ls hl => ?_)
  refine lv_aload_n hx hb dX0_doubleAll_5 rfl (lv_at hl 1 rfl) ?_
  refine z_get C G clX0 0 rfl 9 (by decide) m_fl_RX0_34 rfl dX0_doubleAll_6 ?_
  refine lv_astore_n (lv' := [(2, .ref a6_6), (1, .ref a5_5), (0, .ref h)]) hx hb dX0_doubleAll_9 rfl hl (by decide) (zLvf_h rfl) (fun ls hl => ?_)
  refine lv_iconst (v := 0) hx hb dX0_doubleAll_10 (by decide) ?_
  refine lv_istore_n (lv' := [(3, .int 0), (2, .ref a6_6), (1, .ref a5_5), (0, .ref h)]) hx hb dX0_doubleAll_11 rfl hl (by decide) (zLvf_h rfl) (fun ls hl => ?_)
  refine z_lp2 (T := T) 12 (fun (i : Nat) (x6 : Nat → Int32) => [[zO0 h md wy la pc_ a1_1 a2_2 a3_3 a4_4 a5_5 a6_6], [zAr T 0 a1_1 7 f1], [zAr T 0 a2_2 7 f2], [zAr T 0 a3_3 7 f3], [zAr T 0 a4_4 n4 f4], [zAr T 0 a5_5 n4 f5], [zAr T 0 a6_6 n4 x6]]) (fun (i : Nat) (x6 : Nat → Int32) => [(3, .int (nI i)), (2, .ref a6_6), (1, .ref a5_5), (0, .ref h)]) (fun (i : Nat) (x6 : Nat → Int32) => i ≤ pc_.toInt.toNat ∧ (∀ j, j < i → x6 j = nI (aT W_ L_ (m_ + m_) j))) (fun (i : Nat) (x6 : Nat → Int32) => pc_.toInt.toNat - i) ?_ 0 f6 (show 0 ≤ pc_.toInt.toNat ∧ (∀ j, j < 0 → f6 j = nI (aT W_ L_ (m_ + m_) j)) from ⟨by omega, fun j hj => absurd hj (by omega)⟩) G (lv_sub hl [0, 1, 2, 3] rfl)
  intro i x6 hI9 ih_12 H locs ls G hl
  replace hI9 : i ≤ pc_.toInt.toNat ∧ (∀ j, j < i → x6 j = nI (aT W_ L_ (m_ + m_) j)) := hI9
  refine zAn2 hI9 ?_
  intro hi hx6
  clear hI9
  replace G : zS T A s.heap s [[zO0 h md wy la pc_ a1_1 a2_2 a3_3 a4_4 a5_5 a6_6], [zAr T 0 a1_1 7 f1], [zAr T 0 a2_2 7 f2], [zAr T 0 a3_3 7 f3], [zAr T 0 a4_4 n4 f4], [zAr T 0 a5_5 n4 f5], [zAr T 0 a6_6 n4 x6]] _ _ := G
  replace hl : lv_has ls 6 [(3, .int (nI i)), (2, .ref a6_6), (1, .ref a5_5), (0, .ref h)] := hl
  refine lv_iload_n hx hb dX0_doubleAll_12 rfl (lv_at hl 0 rfl) ?_
  refine lv_aload_n hx hb dX0_doubleAll_13 rfl (lv_at hl 3 rfl) ?_
  refine z_get C G clX0 0 rfl 3 (by decide) m_fl_RX0_75 rfl dX0_doubleAll_14 ?_
  refine lv_icmp_ge (tgt := 75) hx hb dX0_doubleAll_17 (by decide) (fun c_7 => ?_) (fun c_7 => ?_)
  · have c_7n : pc_.toInt ≤ (i : Int) := by have q := (fa_le _ _).mp c_7; rw [nI_toInt (n := i) (by omega)] at q; exact q
    refine lv_aload_n hx hb dX0_doubleAll_75 rfl (lv_at hl 3 rfl) ?_
    refine lv_aload_n hx hb dX0_doubleAll_76 rfl (lv_at hl 1 rfl) ?_
    refine z_put C G clX0 0 rfl 8 (by decide) m_fl_RX0_31 rfl rfl rfl (Nat.le_of_ble_eq_true rfl) dX0_doubleAll_77 (fun H locs G => ?_)
    have G : zS T A s.heap s [[zO0 h md wy la pc_ a1_1 a2_2 a3_3 a4_4 a6_6 a6_6], [zAr T 0 a1_1 7 f1], [zAr T 0 a2_2 7 f2], [zAr T 0 a3_3 7 f3], [zAr T 0 a4_4 n4 f4], [zAr T 0 a5_5 n4 f5], [zAr T 0 a6_6 n4 x6]] _ _ := G
    refine lv_aload_n hx hb dX0_doubleAll_80 rfl (lv_at hl 3 rfl) ?_
    refine lv_aload_n hx hb dX0_doubleAll_81 rfl (lv_at hl 2 rfl) ?_
    refine z_put C G clX0 0 rfl 9 (by decide) m_fl_RX0_34 rfl rfl rfl (Nat.le_of_ble_eq_true rfl) dX0_doubleAll_82 (fun H locs G => ?_)
    have G : zS T A s.heap s [[zO0 h md wy la pc_ a1_1 a2_2 a3_3 a4_4 a6_6 a5_5], [zAr T 0 a1_1 7 f1], [zAr T 0 a2_2 7 f2], [zAr T 0 a3_3 7 f3], [zAr T 0 a4_4 n4 f4], [zAr T 0 a5_5 n4 f5], [zAr T 0 a6_6 n4 x6]] _ _ := G
    have G := G.sub (bs' := [[zO0 h md wy la pc_ a1_1 a2_2 a3_3 a4_4 a6_6 a5_5], [zAr T 0 a1_1 7 f1], [zAr T 0 a2_2 7 f2], [zAr T 0 a3_3 7 f3], [zAr T 0 a4_4 n4 f4], [zAr T 0 a6_6 n4 x6], [zAr T 0 a5_5 n4 f5]]) [0, 1, 2, 3, 4, 6, 5] rfl
    have hw_8 : bWays T h la md wy pc_ f1 f2 f3 f4 x6 f5 n4 [zO0 h md wy la pc_ a1_1 a2_2 a3_3 a4_4 a6_6 a5_5, zAr T 0 a1_1 7 f1, zAr T 0 a2_2 7 f2, zAr T 0 a3_3 7 f3, zAr T 0 a4_4 n4 f4, zAr T 0 a6_6 n4 x6, zAr T 0 a5_5 n4 f5] := ⟨a1_1, a2_2, a3_3, a4_4, a6_6, a5_5, rfl⟩
    have G : zS T A s.heap s [[zO0 h md wy la pc_ a1_1 a2_2 a3_3 a4_4 a6_6 a5_5, zAr T 0 a1_1 7 f1, zAr T 0 a2_2 7 f2, zAr T 0 a3_3 7 f3, zAr T 0 a4_4 n4 f4, zAr T 0 a6_6 n4 x6, zAr T 0 a5_5 n4 f5]] _ _ := G.re rfl
    exact z_back hQz_ (z_vret C hr hlocks G (Nat.le_of_ble_eq_true rfl) (Nat.le_of_ble_eq_true rfl) dX0_doubleAll_85 ⟨([zO0 h md wy la pc_ a1_1 a2_2 a3_3 a4_4 a6_6 a5_5, zAr T 0 a1_1 7 f1, zAr T 0 a2_2 7 f2, zAr T 0 a3_3 7 f3, zAr T 0 a4_4 n4 f4, zAr T 0 a6_6 n4 x6, zAr T 0 a5_5 n4 f5]), x6, f5, rfl, hw_8, (fun j hj => hx6 j (by omega))⟩)
  · have c_7n : ¬ pc_.toInt ≤ (i : Int) := fun q => c_7 ((fa_le _ _).mpr (by rw [nI_toInt (n := i) (by omega)]; exact q))
    refine lv_iload_n hx hb dX0_doubleAll_20 rfl (lv_at hl 0 rfl) ?_
    refine lv_aload_n hx hb dX0_doubleAll_21 rfl (lv_at hl 2 rfl) ?_
    refine z_alen C G 5 0 rfl (v := nI n4) rfl rfl dX0_doubleAll_22 ?_
    refine lv_icmp_ge (tgt := 75) hx hb dX0_doubleAll_23 (by decide) (fun c_9 => ?_) (fun c_9 => ?_)
    · have c_9n : n4 ≤ i := (nI_leI (a := n4) (b := i) (by omega) (by omega)).mp c_9
      refine lv_aload_n hx hb dX0_doubleAll_75 rfl (lv_at hl 3 rfl) ?_
      refine lv_aload_n hx hb dX0_doubleAll_76 rfl (lv_at hl 1 rfl) ?_
      refine z_put C G clX0 0 rfl 8 (by decide) m_fl_RX0_31 rfl rfl rfl (Nat.le_of_ble_eq_true rfl) dX0_doubleAll_77 (fun H locs G => ?_)
      have G : zS T A s.heap s [[zO0 h md wy la pc_ a1_1 a2_2 a3_3 a4_4 a6_6 a6_6], [zAr T 0 a1_1 7 f1], [zAr T 0 a2_2 7 f2], [zAr T 0 a3_3 7 f3], [zAr T 0 a4_4 n4 f4], [zAr T 0 a5_5 n4 f5], [zAr T 0 a6_6 n4 x6]] _ _ := G
      refine lv_aload_n hx hb dX0_doubleAll_80 rfl (lv_at hl 3 rfl) ?_
      refine lv_aload_n hx hb dX0_doubleAll_81 rfl (lv_at hl 2 rfl) ?_
      refine z_put C G clX0 0 rfl 9 (by decide) m_fl_RX0_34 rfl rfl rfl (Nat.le_of_ble_eq_true rfl) dX0_doubleAll_82 (fun H locs G => ?_)
      have G : zS T A s.heap s [[zO0 h md wy la pc_ a1_1 a2_2 a3_3 a4_4 a6_6 a5_5], [zAr T 0 a1_1 7 f1], [zAr T 0 a2_2 7 f2], [zAr T 0 a3_3 7 f3], [zAr T 0 a4_4 n4 f4], [zAr T 0 a5_5 n4 f5], [zAr T 0 a6_6 n4 x6]] _ _ := G
      have G := G.sub (bs' := [[zO0 h md wy la pc_ a1_1 a2_2 a3_3 a4_4 a6_6 a5_5], [zAr T 0 a1_1 7 f1], [zAr T 0 a2_2 7 f2], [zAr T 0 a3_3 7 f3], [zAr T 0 a4_4 n4 f4], [zAr T 0 a6_6 n4 x6], [zAr T 0 a5_5 n4 f5]]) [0, 1, 2, 3, 4, 6, 5] rfl
      have hw_10 : bWays T h la md wy pc_ f1 f2 f3 f4 x6 f5 n4 [zO0 h md wy la pc_ a1_1 a2_2 a3_3 a4_4 a6_6 a5_5, zAr T 0 a1_1 7 f1, zAr T 0 a2_2 7 f2, zAr T 0 a3_3 7 f3, zAr T 0 a4_4 n4 f4, zAr T 0 a6_6 n4 x6, zAr T 0 a5_5 n4 f5] := ⟨a1_1, a2_2, a3_3, a4_4, a6_6, a5_5, rfl⟩
      have G : zS T A s.heap s [[zO0 h md wy la pc_ a1_1 a2_2 a3_3 a4_4 a6_6 a5_5, zAr T 0 a1_1 7 f1, zAr T 0 a2_2 7 f2, zAr T 0 a3_3 7 f3, zAr T 0 a4_4 n4 f4, zAr T 0 a6_6 n4 x6, zAr T 0 a5_5 n4 f5]] _ _ := G.re rfl
      exact z_back hQz_ (z_vret C hr hlocks G (Nat.le_of_ble_eq_true rfl) (Nat.le_of_ble_eq_true rfl) dX0_doubleAll_85 ⟨([zO0 h md wy la pc_ a1_1 a2_2 a3_3 a4_4 a6_6 a5_5, zAr T 0 a1_1 7 f1, zAr T 0 a2_2 7 f2, zAr T 0 a3_3 7 f3, zAr T 0 a4_4 n4 f4, zAr T 0 a6_6 n4 x6, zAr T 0 a5_5 n4 f5]), x6, f5, rfl, hw_10, (fun j hj => hx6 j (by omega))⟩)
    · have c_9n : ¬ n4 ≤ i := fun q => c_9 ((nI_leI (a := n4) (b := i) (by omega) (by omega)).mpr q)
      refine lv_iload_n hx hb dX0_doubleAll_26 rfl (lv_at hl 0 rfl) ?_
      refine lv_aload_n hx hb dX0_doubleAll_27 rfl (lv_at hl 1 rfl) ?_
      refine z_alen C G 6 0 rfl (v := nI n4) rfl rfl dX0_doubleAll_28 ?_
      refine lv_icmp_ge (tgt := 75) hx hb dX0_doubleAll_29 (by decide) (fun q => absurd q c_9) (fun _ => ?_)
      refine lv_aload_n hx hb dX0_doubleAll_32 rfl (lv_at hl 2 rfl) ?_
      refine lv_iload_n hx hb dX0_doubleAll_33 rfl (lv_at hl 0 rfl) ?_
      refine z_ild C G 5 rfl (vp_in_nI (by omega) (by omega)) dX0_doubleAll_34 ?_
      refine lv_topi (fun v_11 ev_11 => ?_)
      rw [nI_clamp (by omega)] at ev_11
      subst ev_11
      have hp9 := hO.2.2
      have hi9 : i < 8 * aPr W_ 7 := by omega
      obtain ⟨_, hb1, hb2, _, _, _⟩ := aT_b hO (n := m_) hi9
      refine lv_topi (fun y_12 ey_12 => ?_)
      obtain rfl : y_12 = nI (aT W_ L_ m_ i) := ey_12.trans (hE i hi9)
      refine lv_istore (lv' := [(4, .int (nI (aT W_ L_ m_ i))), (3, .int (nI i)), (2, .ref a6_6), (1, .ref a5_5), (0, .ref h)]) hx hb dX0_doubleAll_35 hl (by decide) (zLvf_h rfl) (fun ls hl => ?_)
      refine lv_iload hx hb dX0_doubleAll_37 (lv_at hl 0 rfl) ?_
      refine lv_ldc (v := 131071) hx hb C.2.2.2.1 (C.2.2.2.2 _ m_ko_RX0_90) dX0_doubleAll_39 ?_
      refine lv_iand hx hb dX0_doubleAll_41 ?_
      refine lv_topi (fun y_13 ey_13 => ?_)
      obtain rfl : y_13 = nI (aT W_ L_ m_ i % 131072) := ey_13.trans (aAp (by omega))
      refine lv_istore (lv' := [(5, .int (nI (aT W_ L_ m_ i % 131072))), (4, .int (nI (aT W_ L_ m_ i))), (3, .int (nI i)), (2, .ref a6_6), (1, .ref a5_5), (0, .ref h)]) hx hb dX0_doubleAll_42 hl (by decide) (zLvf_h rfl) (fun ls hl => ?_)
      refine lv_aload_n hx hb dX0_doubleAll_44 rfl (lv_at hl 3 rfl) ?_
      refine lv_iload_n hx hb dX0_doubleAll_45 rfl (lv_at hl 2 rfl) ?_
      refine lv_iload hx hb dX0_doubleAll_46 (lv_at hl 0 rfl) ?_
      refine lv_aload_n hx hb dX0_doubleAll_48 rfl (lv_at hl 4 rfl) ?_
      refine z_alen C G 5 0 rfl (v := nI n4) rfl rfl dX0_doubleAll_49 ?_
      refine lv_icmp_ge (tgt := 66) hx hb dX0_doubleAll_50 (by decide) (fun c_14 => ?_) (fun c_14 => ?_)
      · have c_14n : n4 ≤ aT W_ L_ m_ i % 131072 := (nI_leI (a := n4) (b := aT W_ L_ m_ i % 131072) (by omega) (by omega)).mp c_14
        exfalso; omega
      · have c_14n : ¬ n4 ≤ aT W_ L_ m_ i % 131072 := fun q => c_14 ((nI_leI (a := n4) (b := aT W_ L_ m_ i % 131072) (by omega) (by omega)).mpr q)
        refine lv_aload_n hx hb dX0_doubleAll_53 rfl (lv_at hl 4 rfl) ?_
        refine lv_iload hx hb dX0_doubleAll_54 (lv_at hl 0 rfl) ?_
        refine z_ild C G 5 rfl (vp_in_nI (by omega) (by omega)) dX0_doubleAll_56 ?_
        refine lv_topi (fun v_15 ev_15 => ?_)
        rw [nI_clamp (by omega)] at ev_15
        subst ev_15
        refine lv_topi (fun y_16 ey_16 => ?_)
        obtain rfl : y_16 = nI (aT W_ L_ m_ (aT W_ L_ m_ i % 131072)) := ey_16.trans (hE _ hb1)
        refine lv_iload hx hb dX0_doubleAll_57 (lv_at hl 1 rfl) ?_
        refine lv_iload hx hb dX0_doubleAll_59 (lv_at hl 0 rfl) ?_
        refine lv_isub hx hb dX0_doubleAll_61 ?_
        refine lv_topi (fun y_17 ey_17 => ?_)
        obtain rfl : y_17 = nI (aT W_ L_ m_ i - (aT W_ L_ m_ i % 131072)) := ey_17.trans (pk_sub (Nat.mod_le _ _))
        refine lv_iadd hx hb dX0_doubleAll_62 ?_
        refine lv_topi (fun y_18 ey_18 => ?_)
        obtain rfl : y_18 = nI ((aT W_ L_ m_ (aT W_ L_ m_ i % 131072)) + (aT W_ L_ m_ i - (aT W_ L_ m_ i % 131072))) := ey_18.trans (z_iaddn (aT W_ L_ m_ (aT W_ L_ m_ i % 131072)) (aT W_ L_ m_ i - (aT W_ L_ m_ i % 131072)) rfl rfl)
        refine lv_goto (tgt := 68) hx hb dX0_doubleAll_63 (by decide) ?_
        refine lv_topi (fun y_19 ey_19 => ?_)
        obtain rfl : y_19 = nI (aT W_ L_ (m_ + m_) i) := ey_19.trans (congrArg nI (aT_a hO hi9).symm)
        refine z_ist C G 6 rfl (vp_in_nI (by omega) (by omega)) dX0_doubleAll_68 (fun H locs G => ?_)
        rw [nI_clamp (by omega)] at G
        have G : zS T A s.heap s [[zO0 h md wy la pc_ a1_1 a2_2 a3_3 a4_4 a5_5 a6_6], [zAr T 0 a1_1 7 f1], [zAr T 0 a2_2 7 f2], [zAr T 0 a3_3 7 f3], [zAr T 0 a4_4 n4 f4], [zAr T 0 a5_5 n4 f5], [zAr T 0 a6_6 n4 (upd x6 i (nI (aT W_ L_ (m_ + m_) i)))]] _ _ := G
        refine lv_iinc (v := nI (i + 1)) (lv' := [(3, .int (nI (i + 1))), (5, .int (nI (aT W_ L_ m_ i % 131072))), (4, .int (nI (aT W_ L_ m_ i))), (2, .ref a6_6), (1, .ref a5_5), (0, .ref h)]) hx hb dX0_doubleAll_69 hl (k := 2) rfl (z_inc i 1) (by decide) (zLvf_h rfl) (fun ls hl => ?_)
        refine lv_goto (tgt := 12) hx hb dX0_doubleAll_72 (by decide) ?_
        exact ih_12 (i + 1) (upd x6 i (nI (aT W_ L_ (m_ + m_) i))) (show (i + 1) ≤ pc_.toInt.toNat ∧ (∀ j, j < (i + 1) → (upd x6 i (nI (aT W_ L_ (m_ + m_) i))) j = nI (aT W_ L_ (m_ + m_) j)) from ⟨by omega, z_upS0 (f := fun j => nI (aT W_ L_ (m_ + m_) j)) hx6 rfl⟩) (show pc_.toInt.toNat - (i + 1) < pc_.toInt.toNat - i from by omega) _ _ ls G (lv_sub hl [0, 3, 4, 5] rfl)
set_option maxHeartbeats 4000000 in
set_option maxRecDepth 100000 in
/-- oneMore -/
theorem c_f_oneMore (l : Launch) (T : zTy) (h : Nat) (la : Nat) (md : Int32) (wy : Int32) (pc_ : Int32) (f1 : Nat → Int32) (f2 : Nat → Int32) (f3 : Nat → Int32) (f4 : Nat → Int32) (f5 : Nat → Int32) (f6 : Nat → Int32) (n4 : Nat) (ww : va_W) (W_ : Nat → Int32) (L_ : Nat → Int32) (m_ : Nat) (hww : bWays T h la md wy pc_ f1 f2 f3 f4 f5 f6 n4 ww) (hO : aOk W_ L_) (hpc : pc_.toInt = ((8 * aPr W_ 7 : Nat) : Int)) (hpn : 8 * aPr W_ 7 ≤ n4) (hn : n4 ≤ 131072) (hm : m_ ≤ 499) (hE : (∀ j, j < 8 * aPr W_ 7 → f5 j = nI (aT W_ L_ m_ j))) (hE1 : (∀ j, j < 8 * aPr W_ 7 → f4 j = nI (aT W_ L_ 1 j))) : zMv l T yX0_oneMore cX0_oneMore 4 1 0 0 [.ref h] [ww] (fun bs => ∃ (w2 : va_W) (g5 : Nat → Int32) (g6 : Nat → Int32), bs = [w2] ∧ bWays T h la md wy pc_ f1 f2 f3 f4 g5 g6 n4 w2 ∧ (∀ j, j < 8 * aPr W_ 7 → g5 j = nI (aT W_ L_ (m_ + 1) j))) := by
  refine zMv_of (own := RX0) (by decide) rfl (Nat.le_of_ble_eq_true rfl) ?_
  intro p e s m args below meth c A ls C hr hlocks hnm hAe G hl
  refine zHide (fun Qz_ hQz_ => ?_)
  have hx := C.1
  have hb := C.2.1
  have hl : lv_has ls 4 [(0, .ref h)] := hl
  refine lv_iconst (v := 0) hx hb dX0_oneMore_0 (by decide) ?_
  refine lv_istore_n (lv' := [(1, .int 0), (0, .ref h)]) hx hb dX0_oneMore_1 rfl hl (by decide) (zLvf_h rfl) (fun ls hl => ?_)
  refine zEx6 hww ?_
  intro a1_1 a2_2 a3_3 a4_4 a5_5 a6_6 hbs9
  clear hww
  subst hbs9
  have G : zS T A s.heap s [[zO0 h md wy la pc_ a1_1 a2_2 a3_3 a4_4 a5_5 a6_6], [zAr T 0 a1_1 7 f1], [zAr T 0 a2_2 7 f2], [zAr T 0 a3_3 7 f3], [zAr T 0 a4_4 n4 f4], [zAr T 0 a5_5 n4 f5], [zAr T 0 a6_6 n4 f6]] _ _ := G.re rfl
  have hw_7 : bWays T h la md wy pc_ f1 f2 f3 f4 f5 f6 n4 [zO0 h md wy la pc_ a1_1 a2_2 a3_3 a4_4 a5_5 a6_6, zAr T 0 a1_1 7 f1, zAr T 0 a2_2 7 f2, zAr T 0 a3_3 7 f3, zAr T 0 a4_4 n4 f4, zAr T 0 a5_5 n4 f5, zAr T 0 a6_6 n4 f6] := ⟨a1_1, a2_2, a3_3, a4_4, a5_5, a6_6, rfl⟩
  have G : zS T A s.heap s [[zO0 h md wy la pc_ a1_1 a2_2 a3_3 a4_4 a5_5 a6_6, zAr T 0 a1_1 7 f1, zAr T 0 a2_2 7 f2, zAr T 0 a3_3 7 f3, zAr T 0 a4_4 n4 f4, zAr T 0 a5_5 n4 f5, zAr T 0 a6_6 n4 f6]] _ _ := G.re rfl
  refine z_lp3 (T := T) 2 (fun (i : Nat) (wt : va_W) (x5 : Nat → Int32) => [wt]) (fun (i : Nat) (wt : va_W) (x5 : Nat → Int32) => [(1, .int (nI i)), (0, .ref h)]) (fun (i : Nat) (wt : va_W) (x5 : Nat → Int32) => bWays T h la md wy pc_ f1 f2 f3 f4 x5 f6 n4 wt ∧ i ≤ pc_.toInt.toNat ∧ (∀ j, j < i → x5 j = nI (aT W_ L_ (m_ + 1) j)) ∧ (∀ j, i ≤ j → j < 8 * aPr W_ 7 → x5 j = nI (aT W_ L_ m_ j))) (fun (i : Nat) (wt : va_W) (x5 : Nat → Int32) => pc_.toInt.toNat - i) ?_ 0 ([zO0 h md wy la pc_ a1_1 a2_2 a3_3 a4_4 a5_5 a6_6, zAr T 0 a1_1 7 f1, zAr T 0 a2_2 7 f2, zAr T 0 a3_3 7 f3, zAr T 0 a4_4 n4 f4, zAr T 0 a5_5 n4 f5, zAr T 0 a6_6 n4 f6]) f5 (show bWays T h la md wy pc_ f1 f2 f3 f4 f5 f6 n4 ([zO0 h md wy la pc_ a1_1 a2_2 a3_3 a4_4 a5_5 a6_6, zAr T 0 a1_1 7 f1, zAr T 0 a2_2 7 f2, zAr T 0 a3_3 7 f3, zAr T 0 a4_4 n4 f4, zAr T 0 a5_5 n4 f5, zAr T 0 a6_6 n4 f6]) ∧ 0 ≤ pc_.toInt.toNat ∧ (∀ j, j < 0 → f5 j = nI (aT W_ L_ (m_ + 1) j)) ∧ (∀ j, 0 ≤ j → j < 8 * aPr W_ 7 → f5 j = nI (aT W_ L_ m_ j)) from ⟨hw_7, by omega, fun j hj => absurd hj (by omega), fun j _ hj => hE j hj⟩) G (lv_sub hl [0, 1] rfl)
  intro i wt x5 hI9 ih_2 H locs ls G hl
  replace hI9 : bWays T h la md wy pc_ f1 f2 f3 f4 x5 f6 n4 wt ∧ i ≤ pc_.toInt.toNat ∧ (∀ j, j < i → x5 j = nI (aT W_ L_ (m_ + 1) j)) ∧ (∀ j, i ≤ j → j < 8 * aPr W_ 7 → x5 j = nI (aT W_ L_ m_ j)) := hI9
  refine zAn4 hI9 ?_
  intro hwt hi hx5 hy5
  clear hI9
  replace G : zS T A s.heap s [wt] _ _ := G
  replace hl : lv_has ls 4 [(1, .int (nI i)), (0, .ref h)] := hl
  refine lv_iload_n hx hb dX0_oneMore_2 rfl (lv_at hl 0 rfl) ?_
  refine lv_aload_n hx hb dX0_oneMore_3 rfl (lv_at hl 1 rfl) ?_
  refine zEx6 hwt ?_
  intro a1_8 a2_9 a3_10 a4_11 a5_12 a6_13 hbs9
  clear hwt
  subst hbs9
  have G : zS T A s.heap s [[zO0 h md wy la pc_ a1_8 a2_9 a3_10 a4_11 a5_12 a6_13], [zAr T 0 a1_8 7 f1], [zAr T 0 a2_9 7 f2], [zAr T 0 a3_10 7 f3], [zAr T 0 a4_11 n4 f4], [zAr T 0 a5_12 n4 x5], [zAr T 0 a6_13 n4 f6]] _ _ := G.re rfl
  refine z_get C G clX0 0 rfl 3 (by decide) m_fl_RX0_75 rfl dX0_oneMore_4 ?_
  refine lv_icmp_ge (tgt := 66) hx hb dX0_oneMore_7 (by decide) (fun c_14 => ?_) (fun c_14 => ?_)
  · have c_14n : pc_.toInt ≤ (i : Int) := by have q := (fa_le _ _).mp c_14; rw [nI_toInt (n := i) (by omega)] at q; exact q
    have hw_15 : bWays T h la md wy pc_ f1 f2 f3 f4 x5 f6 n4 [zO0 h md wy la pc_ a1_8 a2_9 a3_10 a4_11 a5_12 a6_13, zAr T 0 a1_8 7 f1, zAr T 0 a2_9 7 f2, zAr T 0 a3_10 7 f3, zAr T 0 a4_11 n4 f4, zAr T 0 a5_12 n4 x5, zAr T 0 a6_13 n4 f6] := ⟨a1_8, a2_9, a3_10, a4_11, a5_12, a6_13, rfl⟩
    have G : zS T A s.heap s [[zO0 h md wy la pc_ a1_8 a2_9 a3_10 a4_11 a5_12 a6_13, zAr T 0 a1_8 7 f1, zAr T 0 a2_9 7 f2, zAr T 0 a3_10 7 f3, zAr T 0 a4_11 n4 f4, zAr T 0 a5_12 n4 x5, zAr T 0 a6_13 n4 f6]] _ _ := G.re rfl
    exact z_back hQz_ (z_vret C hr hlocks G (Nat.le_of_ble_eq_true rfl) (Nat.le_of_ble_eq_true rfl) dX0_oneMore_66 ⟨([zO0 h md wy la pc_ a1_8 a2_9 a3_10 a4_11 a5_12 a6_13, zAr T 0 a1_8 7 f1, zAr T 0 a2_9 7 f2, zAr T 0 a3_10 7 f3, zAr T 0 a4_11 n4 f4, zAr T 0 a5_12 n4 x5, zAr T 0 a6_13 n4 f6]), x5, f6, rfl, hw_15, (fun j hj => hx5 j (by omega))⟩)
  · have c_14n : ¬ pc_.toInt ≤ (i : Int) := fun q => c_14 ((fa_le _ _).mpr (by rw [nI_toInt (n := i) (by omega)]; exact q))
    refine lv_iload_n hx hb dX0_oneMore_10 rfl (lv_at hl 0 rfl) ?_
    refine lv_aload_n hx hb dX0_oneMore_11 rfl (lv_at hl 1 rfl) ?_
    refine z_get C G clX0 0 rfl 8 (by decide) m_fl_RX0_31 rfl dX0_oneMore_12 ?_
    refine z_alen C G 5 0 rfl (v := nI n4) rfl rfl dX0_oneMore_15 ?_
    refine lv_icmp_ge (tgt := 66) hx hb dX0_oneMore_16 (by decide) (fun c_16 => ?_) (fun c_16 => ?_)
    · have c_16n : n4 ≤ i := (nI_leI (a := n4) (b := i) (by omega) (by omega)).mp c_16
      have hw_17 : bWays T h la md wy pc_ f1 f2 f3 f4 x5 f6 n4 [zO0 h md wy la pc_ a1_8 a2_9 a3_10 a4_11 a5_12 a6_13, zAr T 0 a1_8 7 f1, zAr T 0 a2_9 7 f2, zAr T 0 a3_10 7 f3, zAr T 0 a4_11 n4 f4, zAr T 0 a5_12 n4 x5, zAr T 0 a6_13 n4 f6] := ⟨a1_8, a2_9, a3_10, a4_11, a5_12, a6_13, rfl⟩
      have G : zS T A s.heap s [[zO0 h md wy la pc_ a1_8 a2_9 a3_10 a4_11 a5_12 a6_13, zAr T 0 a1_8 7 f1, zAr T 0 a2_9 7 f2, zAr T 0 a3_10 7 f3, zAr T 0 a4_11 n4 f4, zAr T 0 a5_12 n4 x5, zAr T 0 a6_13 n4 f6]] _ _ := G.re rfl
      exact z_back hQz_ (z_vret C hr hlocks G (Nat.le_of_ble_eq_true rfl) (Nat.le_of_ble_eq_true rfl) dX0_oneMore_66 ⟨([zO0 h md wy la pc_ a1_8 a2_9 a3_10 a4_11 a5_12 a6_13, zAr T 0 a1_8 7 f1, zAr T 0 a2_9 7 f2, zAr T 0 a3_10 7 f3, zAr T 0 a4_11 n4 f4, zAr T 0 a5_12 n4 x5, zAr T 0 a6_13 n4 f6]), x5, f6, rfl, hw_17, (fun j hj => hx5 j (by omega))⟩)
    · have c_16n : ¬ n4 ≤ i := fun q => c_16 ((nI_leI (a := n4) (b := i) (by omega) (by omega)).mpr q)
      refine lv_aload_n hx hb dX0_oneMore_19 rfl (lv_at hl 1 rfl) ?_
      refine z_get C G clX0 0 rfl 8 (by decide) m_fl_RX0_31 rfl dX0_oneMore_20 ?_
      refine lv_iload_n hx hb dX0_oneMore_23 rfl (lv_at hl 0 rfl) ?_
      refine z_ild C G 5 rfl (vp_in_nI (by omega) (by omega)) dX0_oneMore_24 ?_
      refine lv_topi (fun v_18 ev_18 => ?_)
      rw [nI_clamp (by omega)] at ev_18
      subst ev_18
      have hp9 := hO.2.2
      have hi9 : i < 8 * aPr W_ 7 := by omega
      obtain ⟨_, hb1, hb2, _, _, _⟩ := aT_b hO (n := m_) hi9
      refine lv_topi (fun y_19 ey_19 => ?_)
      obtain rfl : y_19 = nI (aT W_ L_ m_ i) := ey_19.trans (hy5 i (Nat.le_refl _) hi9)
      refine lv_istore_n (lv' := [(2, .int (nI (aT W_ L_ m_ i))), (1, .int (nI i)), (0, .ref h)]) hx hb dX0_oneMore_25 rfl hl (by decide) (zLvf_h rfl) (fun ls hl => ?_)
      refine lv_iload_n hx hb dX0_oneMore_26 rfl (lv_at hl 0 rfl) ?_
      refine lv_ldc (v := 131071) hx hb C.2.2.2.1 (C.2.2.2.2 _ m_ko_RX0_90) dX0_oneMore_27 ?_
      refine lv_iand hx hb dX0_oneMore_29 ?_
      refine lv_topi (fun y_20 ey_20 => ?_)
      obtain rfl : y_20 = nI (aT W_ L_ m_ i % 131072) := ey_20.trans (aAp (by omega))
      refine lv_istore_n (lv' := [(3, .int (nI (aT W_ L_ m_ i % 131072))), (2, .int (nI (aT W_ L_ m_ i))), (1, .int (nI i)), (0, .ref h)]) hx hb dX0_oneMore_30 rfl hl (by decide) (zLvf_h rfl) (fun ls hl => ?_)
      refine lv_aload_n hx hb dX0_oneMore_31 rfl (lv_at hl 3 rfl) ?_
      refine z_get C G clX0 0 rfl 8 (by decide) m_fl_RX0_31 rfl dX0_oneMore_32 ?_
      refine lv_iload_n hx hb dX0_oneMore_35 rfl (lv_at hl 2 rfl) ?_
      refine lv_iload_n hx hb dX0_oneMore_36 rfl (lv_at hl 0 rfl) ?_
      refine lv_aload_n hx hb dX0_oneMore_37 rfl (lv_at hl 3 rfl) ?_
      refine z_get C G clX0 0 rfl 7 (by decide) m_fl_RX0_28 rfl dX0_oneMore_38 ?_
      refine z_alen C G 4 0 rfl (v := nI n4) rfl rfl dX0_oneMore_41 ?_
      refine lv_icmp_ge (tgt := 58) hx hb dX0_oneMore_42 (by decide) (fun c_21 => ?_) (fun c_21 => ?_)
      · have c_21n : n4 ≤ aT W_ L_ m_ i % 131072 := (nI_leI (a := n4) (b := aT W_ L_ m_ i % 131072) (by omega) (by omega)).mp c_21
        exfalso; omega
      · have c_21n : ¬ n4 ≤ aT W_ L_ m_ i % 131072 := fun q => c_21 ((nI_leI (a := n4) (b := aT W_ L_ m_ i % 131072) (by omega) (by omega)).mpr q)
        refine lv_aload_n hx hb dX0_oneMore_45 rfl (lv_at hl 3 rfl) ?_
        refine z_get C G clX0 0 rfl 7 (by decide) m_fl_RX0_28 rfl dX0_oneMore_46 ?_
        refine lv_iload_n hx hb dX0_oneMore_49 rfl (lv_at hl 0 rfl) ?_
        refine z_ild C G 4 rfl (vp_in_nI (by omega) (by omega)) dX0_oneMore_50 ?_
        refine lv_topi (fun v_22 ev_22 => ?_)
        rw [nI_clamp (by omega)] at ev_22
        subst ev_22
        refine lv_topi (fun y_23 ey_23 => ?_)
        obtain rfl : y_23 = nI (aT W_ L_ 1 (aT W_ L_ m_ i % 131072)) := ey_23.trans (hE1 _ hb1)
        refine lv_iload_n hx hb dX0_oneMore_51 rfl (lv_at hl 1 rfl) ?_
        refine lv_iload_n hx hb dX0_oneMore_52 rfl (lv_at hl 0 rfl) ?_
        refine lv_isub hx hb dX0_oneMore_53 ?_
        refine lv_topi (fun y_24 ey_24 => ?_)
        obtain rfl : y_24 = nI (aT W_ L_ m_ i - (aT W_ L_ m_ i % 131072)) := ey_24.trans (pk_sub (Nat.mod_le _ _))
        refine lv_iadd hx hb dX0_oneMore_54 ?_
        refine lv_topi (fun y_25 ey_25 => ?_)
        obtain rfl : y_25 = nI ((aT W_ L_ 1 (aT W_ L_ m_ i % 131072)) + (aT W_ L_ m_ i - (aT W_ L_ m_ i % 131072))) := ey_25.trans (z_iaddn (aT W_ L_ 1 (aT W_ L_ m_ i % 131072)) (aT W_ L_ m_ i - (aT W_ L_ m_ i % 131072)) rfl rfl)
        refine lv_goto (tgt := 59) hx hb dX0_oneMore_55 (by decide) ?_
        refine lv_topi (fun y_26 ey_26 => ?_)
        obtain rfl : y_26 = nI (aT W_ L_ (m_ + 1) i) := ey_26.trans (congrArg nI (aT_a hO hi9).symm)
        refine z_ist C G 5 rfl (vp_in_nI (by omega) (by omega)) dX0_oneMore_59 (fun H locs G => ?_)
        rw [nI_clamp (by omega)] at G
        have G : zS T A s.heap s [[zO0 h md wy la pc_ a1_8 a2_9 a3_10 a4_11 a5_12 a6_13], [zAr T 0 a1_8 7 f1], [zAr T 0 a2_9 7 f2], [zAr T 0 a3_10 7 f3], [zAr T 0 a4_11 n4 f4], [zAr T 0 a5_12 n4 (upd x5 i (nI (aT W_ L_ (m_ + 1) i)))], [zAr T 0 a6_13 n4 f6]] _ _ := G
        refine lv_iinc (v := nI (i + 1)) (lv' := [(1, .int (nI (i + 1))), (3, .int (nI (aT W_ L_ m_ i % 131072))), (2, .int (nI (aT W_ L_ m_ i))), (0, .ref h)]) hx hb dX0_oneMore_60 hl (k := 2) rfl (z_inc i 1) (by decide) (zLvf_h rfl) (fun ls hl => ?_)
        refine lv_goto (tgt := 2) hx hb dX0_oneMore_63 (by decide) ?_
        have hw_27 : bWays T h la md wy pc_ f1 f2 f3 f4 (upd x5 i (nI (aT W_ L_ (m_ + 1) i))) f6 n4 [zO0 h md wy la pc_ a1_8 a2_9 a3_10 a4_11 a5_12 a6_13, zAr T 0 a1_8 7 f1, zAr T 0 a2_9 7 f2, zAr T 0 a3_10 7 f3, zAr T 0 a4_11 n4 f4, zAr T 0 a5_12 n4 (upd x5 i (nI (aT W_ L_ (m_ + 1) i))), zAr T 0 a6_13 n4 f6] := ⟨a1_8, a2_9, a3_10, a4_11, a5_12, a6_13, rfl⟩
        have G : zS T A s.heap s [[zO0 h md wy la pc_ a1_8 a2_9 a3_10 a4_11 a5_12 a6_13, zAr T 0 a1_8 7 f1, zAr T 0 a2_9 7 f2, zAr T 0 a3_10 7 f3, zAr T 0 a4_11 n4 f4, zAr T 0 a5_12 n4 (upd x5 i (nI (aT W_ L_ (m_ + 1) i))), zAr T 0 a6_13 n4 f6]] _ _ := G.re rfl
        exact ih_2 (i + 1) ([zO0 h md wy la pc_ a1_8 a2_9 a3_10 a4_11 a5_12 a6_13, zAr T 0 a1_8 7 f1, zAr T 0 a2_9 7 f2, zAr T 0 a3_10 7 f3, zAr T 0 a4_11 n4 f4, zAr T 0 a5_12 n4 (upd x5 i (nI (aT W_ L_ (m_ + 1) i))), zAr T 0 a6_13 n4 f6]) (upd x5 i (nI (aT W_ L_ (m_ + 1) i))) (show bWays T h la md wy pc_ f1 f2 f3 f4 (upd x5 i (nI (aT W_ L_ (m_ + 1) i))) f6 n4 ([zO0 h md wy la pc_ a1_8 a2_9 a3_10 a4_11 a5_12 a6_13, zAr T 0 a1_8 7 f1, zAr T 0 a2_9 7 f2, zAr T 0 a3_10 7 f3, zAr T 0 a4_11 n4 f4, zAr T 0 a5_12 n4 (upd x5 i (nI (aT W_ L_ (m_ + 1) i))), zAr T 0 a6_13 n4 f6]) ∧ (i + 1) ≤ pc_.toInt.toNat ∧ (∀ j, j < (i + 1) → (upd x5 i (nI (aT W_ L_ (m_ + 1) i))) j = nI (aT W_ L_ (m_ + 1) j)) ∧ (∀ j, (i + 1) ≤ j → j < 8 * aPr W_ 7 → (upd x5 i (nI (aT W_ L_ (m_ + 1) i))) j = nI (aT W_ L_ m_ j)) from ⟨hw_27, by omega, z_upS0 (f := fun j => nI (aT W_ L_ (m_ + 1) j)) hx5 rfl, fun j h1 h2 => (z_ne (by omega)).trans (hy5 j (by omega) h2)⟩) (show pc_.toInt.toNat - (i + 1) < pc_.toInt.toNat - i from by omega) _ _ ls G (lv_sub hl [0, 3] rfl)
set_option maxHeartbeats 4000000 in
set_option maxRecDepth 100000 in
/-- make -/
theorem c_f_make (l : Launch) (T : zTy) (h : Nat) (la : Nat) (md : Int32) (wy : Int32) (pc_ : Int32) (f1 : Nat → Int32) (f2 : Nat → Int32) (f3 : Nat → Int32) (f4 : Nat → Int32) (f5 : Nat → Int32) (f6 : Nat → Int32) (n4 : Nat) (ww : va_W) (o : Nat) (cr : Int32) (inn : Int32) (k1 : Nat → Int32) (k2 : Nat → Int32) (k3 : Nat → Int32) (k4 : Nat → Int32) (z : va_W) (hww : bWays T h la md wy pc_ f1 f2 f3 f4 f5 f6 n4 ww) (hz : bLand T o cr inn k1 k2 k3 k4 z) (hI : zLI cr k1 k3) (hO : aOk (aW cr inn k1) k2) (hpw : zPw n4) (hmd : md = 0 ∨ la = o) (hT : md = 0 ∨ zTab cr inn k1 k2 wy pc_ f1 f2 f5 n4) : zMv l T yX0_make cX0_make 3 5 3 (6 * (zMk md n4 (zPl cr inn k1) - n4)) [.ref h, .ref o] [ww, z] (fun bs => ∃ (w2 : va_W) (m2 : Int32) (pc2 : Int32) (g1 : Nat → Int32) (g2 : Nat → Int32) (g4 : Nat → Int32) (g5 : Nat → Int32) (g6 : Nat → Int32), bs = [w2, z] ∧ bWays T h o m2 (zWy cr inn k1) pc2 g1 g2 f3 g4 g5 g6 (zMk md n4 (zPl cr inn k1)) w2 ∧ ¬ m2 = 0 ∧ zTab cr inn k1 k2 (zWy cr inn k1) pc2 g1 g2 g5 (zMk md n4 (zPl cr inn k1))) := by
  refine zMv_of (own := RX0) (by decide) rfl (Nat.le_of_ble_eq_true rfl) ?_
  intro p e s m args below meth c A ls C hr hlocks hnm hAe G hl
  refine zHide (fun Qz_ hQz_ => ?_)
  have hx := C.1
  have hb := C.2.1
  replace hmd : zHd (md = 0 ∨ la = o) := hmd
  replace hT : zHd (md = 0 ∨ zTab cr inn k1 k2 wy pc_ f1 f2 f5 n4) := hT
  have hl : lv_has ls 3 [(0, .ref h), (1, .ref o)] := hl
  refine lv_aload_n hx hb dX0_make_0 rfl (lv_at hl 0 rfl) ?_
  refine zEx6 hww ?_
  intro a1_1 a2_2 a3_3 a4_4 a5_5 a6_6 hbs9
  clear hww
  subst hbs9
  have G : zS T A s.heap s [[zO0 h md wy la pc_ a1_1 a2_2 a3_3 a4_4 a5_5 a6_6], [zAr T 0 a1_1 7 f1], [zAr T 0 a2_2 7 f2], [zAr T 0 a3_3 7 f3], [zAr T 0 a4_4 n4 f4], [zAr T 0 a5_5 n4 f5], [zAr T 0 a6_6 n4 f6], z] _ _ := G.re rfl
  refine z_get C G clX0 0 rfl 0 (by decide) m_fl_RX0_37 rfl dX0_make_1 ?_
  refine lv_if_eq (tgt := 8) hx hb dX0_make_4 (by decide) (fun c_7 => ?_) (fun c_7 => ?_)
  · have c_7n : md.toInt = (0 : Int) := (fa_eq _ _).mp c_7
    have hM : zMk md n4 (zPl cr inn k1) = zNl n4 (zPl cr inn k1) := by unfold zMk; rw [if_pos (by first | with_reducible assumption | assumption)]
    have hpl := zPl_le cr inn k1
    have hpw2 := zNl_pw (pl := zPl cr inn k1) hpw
    have hn2 := zPw_le hpw2
    have hwi := zWy_in (inn := inn) hI
    have hzp : (zPl cr inn k1).toInt = ((8 * aPr (aW cr inn k1) 7 : Nat) : Int) := by have q9 := aPr_7 (inn := inn) hI; rw [zPl_z hI, nI_toInt (by omega)]
    have hzn : 8 * aPr (aW cr inn k1) 7 ≤ zNl n4 (zPl cr inn k1) := by have q9 := zNl_le (n := n4) hpl; omega
    refine lv_aload_n hx hb dX0_make_8 rfl (lv_at hl 0 rfl) ?_
    refine lv_aload_n hx hb dX0_make_9 rfl (lv_at hl 1 rfl) ?_
    have hw_8 : bWays T h la md wy pc_ f1 f2 f3 f4 f5 f6 n4 [zO0 h md wy la pc_ a1_1 a2_2 a3_3 a4_4 a5_5 a6_6, zAr T 0 a1_1 7 f1, zAr T 0 a2_2 7 f2, zAr T 0 a3_3 7 f3, zAr T 0 a4_4 n4 f4, zAr T 0 a5_5 n4 f5, zAr T 0 a6_6 n4 f6] := ⟨a1_1, a2_2, a3_3, a4_4, a5_5, a6_6, rfl⟩
    have G : zS T A s.heap s [[zO0 h md wy la pc_ a1_1 a2_2 a3_3 a4_4 a5_5 a6_6, zAr T 0 a1_1 7 f1, zAr T 0 a2_2 7 f2, zAr T 0 a3_3 7 f3, zAr T 0 a4_4 n4 f4, zAr T 0 a5_5 n4 f5, zAr T 0 a6_6 n4 f6], z] _ _ := G.re rfl
    refine z_Vv (bc := [[zO0 h md wy la pc_ a1_1 a2_2 a3_3 a4_4 a5_5 a6_6, zAr T 0 a1_1 7 f1, zAr T 0 a2_2 7 f2, zAr T 0 a3_3 7 f3, zAr T 0 a4_4 n4 f4, zAr T 0 a5_5 n4 f5, zAr T 0 a6_6 n4 f6], z]) (br := []) (As := [.ref o]) (rest := []) C G (c_f_countWays l T h la md wy pc_ f1 f2 f3 f4 f5 f6 n4 ([zO0 h md wy la pc_ a1_1 a2_2 a3_3 a4_4 a5_5 a6_6, zAr T 0 a1_1 7 f1, zAr T 0 a2_2 7 f2, zAr T 0 a3_3 7 f3, zAr T 0 a4_4 n4 f4, zAr T 0 a5_5 n4 f5, zAr T 0 a6_6 n4 f6]) o cr inn k1 k2 k3 k4 z hw_8 hz) (kV_RX0_41 C.2.2.2.2 (Nat.le_of_ble_eq_true rfl) (Nat.le_of_ble_eq_true rfl)) [0, 1] [0, 0] rfl rfl (ci := 0) (qc := (RX0, TX0, 10)) rfl rfl (List.mem_flatten.mpr ⟨_, List.mem_of_getElem? (i := 0) rfl, (bWays_mem hw_8).choose_spec⟩) rfl rfl hl.1 dX0_make_10 (Nat.le_of_ble_eq_true rfl) (by show _ + 0 ≤ 6 * (zMk md n4 (zPl cr inn k1) - n4); omega) (fun b1 H locs hw G => ?_)
    refine zEx3 hw ?_
    intro w2_9 g1_10 g2_11
    refine zCu3 ?_
    intro hbs9 h_12 h_13
    clear hw
    subst hbs9
    have G : zS T A s.heap s [w2_9, z] _ _ := G
    refine lv_aload_n hx hb dX0_make_13 rfl (lv_at hl 0 rfl) ?_
    refine z_Vv (bc := [w2_9]) (br := [z]) (As := []) (rest := []) C G (c_Ways_grow l T h o md (zWy cr inn k1) (zPl cr inn k1) g1_10 g2_11 f3 f4 f5 f6 n4 w2_9 h_12 (by first | with_reducible assumption | with_reducible rfl | omega | assumption | rfl) (by first | with_reducible assumption | with_reducible rfl | omega | assumption | rfl)) (kV_RX0_45 C.2.2.2.2 (Nat.le_of_ble_eq_true rfl) (Nat.le_of_ble_eq_true rfl)) [0] [0] rfl rfl (ci := 0) (qc := (RX0, TX0, 10)) rfl rfl (List.mem_flatten.mpr ⟨_, List.mem_of_getElem? (i := 0) rfl, (bWays_mem h_12).choose_spec⟩) rfl rfl hl.1 dX0_make_14 (Nat.le_of_ble_eq_true rfl) (by show _ + (6 * (zNl n4 (zPl cr inn k1) - n4)) ≤ 6 * (zMk md n4 (zPl cr inn k1) - n4); omega) (fun b1 H locs hw G => ?_)
    refine zEx4 hw ?_
    intro w2_15 g4_16 g5_17 g6_18
    refine zCu2 ?_
    intro hbs9 h_19
    clear hw
    subst hbs9
    have G : zS T A s.heap s [z, w2_15] _ _ := G
    refine lv_aload_n hx hb dX0_make_17 rfl (lv_at hl 0 rfl) ?_
    refine z_Vv (bc := [w2_15, z]) (br := []) (As := []) (rest := []) C G (c_f_stepOnce l T h o md (zWy cr inn k1) (zPl cr inn k1) g1_10 g2_11 f3 g4_16 g5_17 g6_18 (zNl n4 (zPl cr inn k1)) w2_15 cr inn k1 k2 k3 k4 z h_19 hz (by first | with_reducible assumption | with_reducible rfl | omega | assumption | rfl) h_13 hO hzp hzn hn2) (kV_RX0_48 C.2.2.2.2 (Nat.le_of_ble_eq_true rfl) (Nat.le_of_ble_eq_true rfl)) [1, 0] [0, 0] rfl rfl (ci := 0) (qc := (RX0, TX0, 10)) rfl rfl (List.mem_flatten.mpr ⟨_, List.mem_of_getElem? (i := 0) rfl, (bWays_mem h_19).choose_spec⟩) rfl rfl hl.1 dX0_make_18 (Nat.le_of_ble_eq_true rfl) (by show _ + 0 ≤ 6 * (zMk md n4 (zPl cr inn k1) - n4); omega) (fun b1 H locs hw G => ?_)
    refine zEx3 hw ?_
    intro w2_21 g4_22 g5_23
    refine zCu4 ?_
    intro hbs9 h_24 h_25 h_26
    clear hw
    subst hbs9
    have G : zS T A s.heap s [w2_21, z] _ _ := G
    refine lv_sipush (v := 128) hx hb dX0_make_21 (by decide) ?_
    refine lv_istore_n (lv' := [(2, .int 128), (0, .ref h), (1, .ref o)]) hx hb dX0_make_24 rfl hl (by decide) (zLvf_h rfl) (fun ls hl => ?_)
    refine lv_iload_n hx hb dX0_make_25 rfl (lv_at hl 0 rfl) ?_
    refine lv_if_le (tgt := 52) hx hb dX0_make_26 (by decide) (fun q => absurd q (by decide)) (fun _ => ?_)
    refine lv_aload_n hx hb dX0_make_29 rfl (lv_at hl 1 rfl) ?_
    refine z_Vv (bc := [w2_21]) (br := [z]) (As := []) (rest := []) C G (c_f_doubleAll l T h o md (zWy cr inn k1) (zPl cr inn k1) g1_10 g2_11 f3 g4_22 g5_23 g6_18 (zNl n4 (zPl cr inn k1)) w2_21 (aW cr inn k1) k2 1 h_24 hO hzp hzn hn2 (by decide) h_26) (kV_RX0_51 C.2.2.2.2 (Nat.le_of_ble_eq_true rfl) (Nat.le_of_ble_eq_true rfl)) [0] [0] rfl rfl (ci := 0) (qc := (RX0, TX0, 10)) rfl rfl (List.mem_flatten.mpr ⟨_, List.mem_of_getElem? (i := 0) rfl, (bWays_mem h_24).choose_spec⟩) rfl rfl hl.1 dX0_make_30 (Nat.le_of_ble_eq_true rfl) (by show _ + 0 ≤ 6 * (zMk md n4 (zPl cr inn k1) - n4); omega) (fun b1 H locs hw G => ?_)
    refine zEx3 hw ?_
    intro w2_28 g5_29 g6_30
    refine zCu3 ?_
    intro hbs9 h_31 h_32
    clear hw
    subst hbs9
    have G : zS T A s.heap s [z, w2_28] _ _ := G
    refine lv_sipush (v := 499) hx hb dX0_make_33 (by decide) ?_
    refine lv_iload_n hx hb dX0_make_36 rfl (lv_at hl 0 rfl) ?_
    refine lv_iand hx hb dX0_make_37 ?_
    refine lv_topi (fun y_34 ey_34 => ?_)
    obtain rfl : y_34 = 128 := ey_34.trans (by decide)
    refine lv_if_eq (tgt := 45) hx hb dX0_make_38 (by decide) (fun q => absurd q (by decide)) (fun _ => ?_)
    refine lv_aload_n hx hb dX0_make_41 rfl (lv_at hl 1 rfl) ?_
    refine z_Vv (bc := [w2_28]) (br := [z]) (As := []) (rest := []) C G (c_f_oneMore l T h o md (zWy cr inn k1) (zPl cr inn k1) g1_10 g2_11 f3 g4_22 g5_29 g6_30 (zNl n4 (zPl cr inn k1)) w2_28 (aW cr inn k1) k2 2 h_31 hO hzp hzn hn2 (by decide) h_32 h_25) (kV_RX0_54 C.2.2.2.2 (Nat.le_of_ble_eq_true rfl) (Nat.le_of_ble_eq_true rfl)) [1] [1] rfl rfl (ci := 0) (qc := (RX0, TX0, 10)) rfl rfl (List.mem_flatten.mpr ⟨_, List.mem_of_getElem? (i := 0) rfl, (bWays_mem h_31).choose_spec⟩) rfl rfl hl.1 dX0_make_42 (Nat.le_of_ble_eq_true rfl) (by show _ + 0 ≤ 6 * (zMk md n4 (zPl cr inn k1) - n4); omega) (fun b1 H locs hw G => ?_)
    refine zEx3 hw ?_
    intro w2_35 g5_36 g6_37
    refine zCu3 ?_
    intro hbs9 h_38 h_39
    clear hw
    subst hbs9
    have G : zS T A s.heap s [z, w2_35] _ _ := G
    refine lv_iload_n hx hb dX0_make_45 rfl (lv_at hl 0 rfl) ?_
    refine lv_iconst (v := 1) hx hb dX0_make_46 (by decide) ?_
    refine lv_ishr hx hb dX0_make_47 ?_
    refine lv_topi (fun y_41 ey_41 => ?_)
    obtain rfl : y_41 = 64 := ey_41.trans (by decide)
    refine lv_istore_n (lv' := [(2, .int 64), (0, .ref h), (1, .ref o)]) hx hb dX0_make_48 rfl hl (by decide) (zLvf_h rfl) (fun ls hl => ?_)
    refine lv_goto (tgt := 25) hx hb dX0_make_49 (by decide) ?_
    refine lv_iload_n hx hb dX0_make_25 rfl (lv_at hl 0 rfl) ?_
    refine lv_if_le (tgt := 52) hx hb dX0_make_26 (by decide) (fun q => absurd q (by decide)) (fun _ => ?_)
    refine lv_aload_n hx hb dX0_make_29 rfl (lv_at hl 1 rfl) ?_
    refine z_Vv (bc := [w2_35]) (br := [z]) (As := []) (rest := []) C G (c_f_doubleAll l T h o md (zWy cr inn k1) (zPl cr inn k1) g1_10 g2_11 f3 g4_22 g5_36 g6_37 (zNl n4 (zPl cr inn k1)) w2_35 (aW cr inn k1) k2 3 h_38 hO hzp hzn hn2 (by decide) h_39) (kV_RX0_51 C.2.2.2.2 (Nat.le_of_ble_eq_true rfl) (Nat.le_of_ble_eq_true rfl)) [1] [1] rfl rfl (ci := 0) (qc := (RX0, TX0, 10)) rfl rfl (List.mem_flatten.mpr ⟨_, List.mem_of_getElem? (i := 0) rfl, (bWays_mem h_38).choose_spec⟩) rfl rfl hl.1 dX0_make_30 (Nat.le_of_ble_eq_true rfl) (by show _ + 0 ≤ 6 * (zMk md n4 (zPl cr inn k1) - n4); omega) (fun b1 H locs hw G => ?_)
    refine zEx3 hw ?_
    intro w2_42 g5_43 g6_44
    refine zCu3 ?_
    intro hbs9 h_45 h_46
    clear hw
    subst hbs9
    have G : zS T A s.heap s [z, w2_42] _ _ := G
    refine lv_sipush (v := 499) hx hb dX0_make_33 (by decide) ?_
    refine lv_iload_n hx hb dX0_make_36 rfl (lv_at hl 0 rfl) ?_
    refine lv_iand hx hb dX0_make_37 ?_
    refine lv_topi (fun y_48 ey_48 => ?_)
    obtain rfl : y_48 = 64 := ey_48.trans (by decide)
    refine lv_if_eq (tgt := 45) hx hb dX0_make_38 (by decide) (fun q => absurd q (by decide)) (fun _ => ?_)
    refine lv_aload_n hx hb dX0_make_41 rfl (lv_at hl 1 rfl) ?_
    refine z_Vv (bc := [w2_42]) (br := [z]) (As := []) (rest := []) C G (c_f_oneMore l T h o md (zWy cr inn k1) (zPl cr inn k1) g1_10 g2_11 f3 g4_22 g5_43 g6_44 (zNl n4 (zPl cr inn k1)) w2_42 (aW cr inn k1) k2 6 h_45 hO hzp hzn hn2 (by decide) h_46 h_25) (kV_RX0_54 C.2.2.2.2 (Nat.le_of_ble_eq_true rfl) (Nat.le_of_ble_eq_true rfl)) [1] [1] rfl rfl (ci := 0) (qc := (RX0, TX0, 10)) rfl rfl (List.mem_flatten.mpr ⟨_, List.mem_of_getElem? (i := 0) rfl, (bWays_mem h_45).choose_spec⟩) rfl rfl hl.1 dX0_make_42 (Nat.le_of_ble_eq_true rfl) (by show _ + 0 ≤ 6 * (zMk md n4 (zPl cr inn k1) - n4); omega) (fun b1 H locs hw G => ?_)
    refine zEx3 hw ?_
    intro w2_49 g5_50 g6_51
    refine zCu3 ?_
    intro hbs9 h_52 h_53
    clear hw
    subst hbs9
    have G : zS T A s.heap s [z, w2_49] _ _ := G
    refine lv_iload_n hx hb dX0_make_45 rfl (lv_at hl 0 rfl) ?_
    refine lv_iconst (v := 1) hx hb dX0_make_46 (by decide) ?_
    refine lv_ishr hx hb dX0_make_47 ?_
    refine lv_topi (fun y_55 ey_55 => ?_)
    obtain rfl : y_55 = 32 := ey_55.trans (by decide)
    refine lv_istore_n (lv' := [(2, .int 32), (0, .ref h), (1, .ref o)]) hx hb dX0_make_48 rfl hl (by decide) (zLvf_h rfl) (fun ls hl => ?_)
    refine lv_goto (tgt := 25) hx hb dX0_make_49 (by decide) ?_
    refine lv_iload_n hx hb dX0_make_25 rfl (lv_at hl 0 rfl) ?_
    refine lv_if_le (tgt := 52) hx hb dX0_make_26 (by decide) (fun q => absurd q (by decide)) (fun _ => ?_)
    refine lv_aload_n hx hb dX0_make_29 rfl (lv_at hl 1 rfl) ?_
    refine z_Vv (bc := [w2_49]) (br := [z]) (As := []) (rest := []) C G (c_f_doubleAll l T h o md (zWy cr inn k1) (zPl cr inn k1) g1_10 g2_11 f3 g4_22 g5_50 g6_51 (zNl n4 (zPl cr inn k1)) w2_49 (aW cr inn k1) k2 7 h_52 hO hzp hzn hn2 (by decide) h_53) (kV_RX0_51 C.2.2.2.2 (Nat.le_of_ble_eq_true rfl) (Nat.le_of_ble_eq_true rfl)) [1] [1] rfl rfl (ci := 0) (qc := (RX0, TX0, 10)) rfl rfl (List.mem_flatten.mpr ⟨_, List.mem_of_getElem? (i := 0) rfl, (bWays_mem h_52).choose_spec⟩) rfl rfl hl.1 dX0_make_30 (Nat.le_of_ble_eq_true rfl) (by show _ + 0 ≤ 6 * (zMk md n4 (zPl cr inn k1) - n4); omega) (fun b1 H locs hw G => ?_)
    refine zEx3 hw ?_
    intro w2_56 g5_57 g6_58
    refine zCu3 ?_
    intro hbs9 h_59 h_60
    clear hw
    subst hbs9
    have G : zS T A s.heap s [z, w2_56] _ _ := G
    refine lv_sipush (v := 499) hx hb dX0_make_33 (by decide) ?_
    refine lv_iload_n hx hb dX0_make_36 rfl (lv_at hl 0 rfl) ?_
    refine lv_iand hx hb dX0_make_37 ?_
    refine lv_topi (fun y_62 ey_62 => ?_)
    obtain rfl : y_62 = 32 := ey_62.trans (by decide)
    refine lv_if_eq (tgt := 45) hx hb dX0_make_38 (by decide) (fun q => absurd q (by decide)) (fun _ => ?_)
    refine lv_aload_n hx hb dX0_make_41 rfl (lv_at hl 1 rfl) ?_
    refine z_Vv (bc := [w2_56]) (br := [z]) (As := []) (rest := []) C G (c_f_oneMore l T h o md (zWy cr inn k1) (zPl cr inn k1) g1_10 g2_11 f3 g4_22 g5_57 g6_58 (zNl n4 (zPl cr inn k1)) w2_56 (aW cr inn k1) k2 14 h_59 hO hzp hzn hn2 (by decide) h_60 h_25) (kV_RX0_54 C.2.2.2.2 (Nat.le_of_ble_eq_true rfl) (Nat.le_of_ble_eq_true rfl)) [1] [1] rfl rfl (ci := 0) (qc := (RX0, TX0, 10)) rfl rfl (List.mem_flatten.mpr ⟨_, List.mem_of_getElem? (i := 0) rfl, (bWays_mem h_59).choose_spec⟩) rfl rfl hl.1 dX0_make_42 (Nat.le_of_ble_eq_true rfl) (by show _ + 0 ≤ 6 * (zMk md n4 (zPl cr inn k1) - n4); omega) (fun b1 H locs hw G => ?_)
    refine zEx3 hw ?_
    intro w2_63 g5_64 g6_65
    refine zCu3 ?_
    intro hbs9 h_66 h_67
    clear hw
    subst hbs9
    have G : zS T A s.heap s [z, w2_63] _ _ := G
    refine lv_iload_n hx hb dX0_make_45 rfl (lv_at hl 0 rfl) ?_
    refine lv_iconst (v := 1) hx hb dX0_make_46 (by decide) ?_
    refine lv_ishr hx hb dX0_make_47 ?_
    refine lv_topi (fun y_69 ey_69 => ?_)
    obtain rfl : y_69 = 16 := ey_69.trans (by decide)
    refine lv_istore_n (lv' := [(2, .int 16), (0, .ref h), (1, .ref o)]) hx hb dX0_make_48 rfl hl (by decide) (zLvf_h rfl) (fun ls hl => ?_)
    refine lv_goto (tgt := 25) hx hb dX0_make_49 (by decide) ?_
    refine lv_iload_n hx hb dX0_make_25 rfl (lv_at hl 0 rfl) ?_
    refine lv_if_le (tgt := 52) hx hb dX0_make_26 (by decide) (fun q => absurd q (by decide)) (fun _ => ?_)
    refine lv_aload_n hx hb dX0_make_29 rfl (lv_at hl 1 rfl) ?_
    refine z_Vv (bc := [w2_63]) (br := [z]) (As := []) (rest := []) C G (c_f_doubleAll l T h o md (zWy cr inn k1) (zPl cr inn k1) g1_10 g2_11 f3 g4_22 g5_64 g6_65 (zNl n4 (zPl cr inn k1)) w2_63 (aW cr inn k1) k2 15 h_66 hO hzp hzn hn2 (by decide) h_67) (kV_RX0_51 C.2.2.2.2 (Nat.le_of_ble_eq_true rfl) (Nat.le_of_ble_eq_true rfl)) [1] [1] rfl rfl (ci := 0) (qc := (RX0, TX0, 10)) rfl rfl (List.mem_flatten.mpr ⟨_, List.mem_of_getElem? (i := 0) rfl, (bWays_mem h_66).choose_spec⟩) rfl rfl hl.1 dX0_make_30 (Nat.le_of_ble_eq_true rfl) (by show _ + 0 ≤ 6 * (zMk md n4 (zPl cr inn k1) - n4); omega) (fun b1 H locs hw G => ?_)
    refine zEx3 hw ?_
    intro w2_70 g5_71 g6_72
    refine zCu3 ?_
    intro hbs9 h_73 h_74
    clear hw
    subst hbs9
    have G : zS T A s.heap s [z, w2_70] _ _ := G
    refine lv_sipush (v := 499) hx hb dX0_make_33 (by decide) ?_
    refine lv_iload_n hx hb dX0_make_36 rfl (lv_at hl 0 rfl) ?_
    refine lv_iand hx hb dX0_make_37 ?_
    refine lv_topi (fun y_76 ey_76 => ?_)
    obtain rfl : y_76 = 16 := ey_76.trans (by decide)
    refine lv_if_eq (tgt := 45) hx hb dX0_make_38 (by decide) (fun q => absurd q (by decide)) (fun _ => ?_)
    refine lv_aload_n hx hb dX0_make_41 rfl (lv_at hl 1 rfl) ?_
    refine z_Vv (bc := [w2_70]) (br := [z]) (As := []) (rest := []) C G (c_f_oneMore l T h o md (zWy cr inn k1) (zPl cr inn k1) g1_10 g2_11 f3 g4_22 g5_71 g6_72 (zNl n4 (zPl cr inn k1)) w2_70 (aW cr inn k1) k2 30 h_73 hO hzp hzn hn2 (by decide) h_74 h_25) (kV_RX0_54 C.2.2.2.2 (Nat.le_of_ble_eq_true rfl) (Nat.le_of_ble_eq_true rfl)) [1] [1] rfl rfl (ci := 0) (qc := (RX0, TX0, 10)) rfl rfl (List.mem_flatten.mpr ⟨_, List.mem_of_getElem? (i := 0) rfl, (bWays_mem h_73).choose_spec⟩) rfl rfl hl.1 dX0_make_42 (Nat.le_of_ble_eq_true rfl) (by show _ + 0 ≤ 6 * (zMk md n4 (zPl cr inn k1) - n4); omega) (fun b1 H locs hw G => ?_)
    refine zEx3 hw ?_
    intro w2_77 g5_78 g6_79
    refine zCu3 ?_
    intro hbs9 h_80 h_81
    clear hw
    subst hbs9
    have G : zS T A s.heap s [z, w2_77] _ _ := G
    refine lv_iload_n hx hb dX0_make_45 rfl (lv_at hl 0 rfl) ?_
    refine lv_iconst (v := 1) hx hb dX0_make_46 (by decide) ?_
    refine lv_ishr hx hb dX0_make_47 ?_
    refine lv_topi (fun y_83 ey_83 => ?_)
    obtain rfl : y_83 = 8 := ey_83.trans (by decide)
    refine lv_istore_n (lv' := [(2, .int 8), (0, .ref h), (1, .ref o)]) hx hb dX0_make_48 rfl hl (by decide) (zLvf_h rfl) (fun ls hl => ?_)
    refine lv_goto (tgt := 25) hx hb dX0_make_49 (by decide) ?_
    refine lv_iload_n hx hb dX0_make_25 rfl (lv_at hl 0 rfl) ?_
    refine lv_if_le (tgt := 52) hx hb dX0_make_26 (by decide) (fun q => absurd q (by decide)) (fun _ => ?_)
    refine lv_aload_n hx hb dX0_make_29 rfl (lv_at hl 1 rfl) ?_
    refine z_Vv (bc := [w2_77]) (br := [z]) (As := []) (rest := []) C G (c_f_doubleAll l T h o md (zWy cr inn k1) (zPl cr inn k1) g1_10 g2_11 f3 g4_22 g5_78 g6_79 (zNl n4 (zPl cr inn k1)) w2_77 (aW cr inn k1) k2 31 h_80 hO hzp hzn hn2 (by decide) h_81) (kV_RX0_51 C.2.2.2.2 (Nat.le_of_ble_eq_true rfl) (Nat.le_of_ble_eq_true rfl)) [1] [1] rfl rfl (ci := 0) (qc := (RX0, TX0, 10)) rfl rfl (List.mem_flatten.mpr ⟨_, List.mem_of_getElem? (i := 0) rfl, (bWays_mem h_80).choose_spec⟩) rfl rfl hl.1 dX0_make_30 (Nat.le_of_ble_eq_true rfl) (by show _ + 0 ≤ 6 * (zMk md n4 (zPl cr inn k1) - n4); omega) (fun b1 H locs hw G => ?_)
    refine zEx3 hw ?_
    intro w2_84 g5_85 g6_86
    refine zCu3 ?_
    intro hbs9 h_87 h_88
    clear hw
    subst hbs9
    have G : zS T A s.heap s [z, w2_84] _ _ := G
    refine lv_sipush (v := 499) hx hb dX0_make_33 (by decide) ?_
    refine lv_iload_n hx hb dX0_make_36 rfl (lv_at hl 0 rfl) ?_
    refine lv_iand hx hb dX0_make_37 ?_
    refine lv_topi (fun y_90 ey_90 => ?_)
    obtain rfl : y_90 = 0 := ey_90.trans (by decide)
    refine lv_if_eq (tgt := 45) hx hb dX0_make_38 (by decide) (fun _ => ?_) (fun q => absurd (by decide) q)
    refine lv_iload_n hx hb dX0_make_45 rfl (lv_at hl 0 rfl) ?_
    refine lv_iconst (v := 1) hx hb dX0_make_46 (by decide) ?_
    refine lv_ishr hx hb dX0_make_47 ?_
    refine lv_topi (fun y_91 ey_91 => ?_)
    obtain rfl : y_91 = 4 := ey_91.trans (by decide)
    refine lv_istore_n (lv' := [(2, .int 4), (0, .ref h), (1, .ref o)]) hx hb dX0_make_48 rfl hl (by decide) (zLvf_h rfl) (fun ls hl => ?_)
    refine lv_goto (tgt := 25) hx hb dX0_make_49 (by decide) ?_
    refine lv_iload_n hx hb dX0_make_25 rfl (lv_at hl 0 rfl) ?_
    refine lv_if_le (tgt := 52) hx hb dX0_make_26 (by decide) (fun q => absurd q (by decide)) (fun _ => ?_)
    refine lv_aload_n hx hb dX0_make_29 rfl (lv_at hl 1 rfl) ?_
    refine z_Vv (bc := [w2_84]) (br := [z]) (As := []) (rest := []) C G (c_f_doubleAll l T h o md (zWy cr inn k1) (zPl cr inn k1) g1_10 g2_11 f3 g4_22 g5_85 g6_86 (zNl n4 (zPl cr inn k1)) w2_84 (aW cr inn k1) k2 62 h_87 hO hzp hzn hn2 (by decide) h_88) (kV_RX0_51 C.2.2.2.2 (Nat.le_of_ble_eq_true rfl) (Nat.le_of_ble_eq_true rfl)) [1] [1] rfl rfl (ci := 0) (qc := (RX0, TX0, 10)) rfl rfl (List.mem_flatten.mpr ⟨_, List.mem_of_getElem? (i := 0) rfl, (bWays_mem h_87).choose_spec⟩) rfl rfl hl.1 dX0_make_30 (Nat.le_of_ble_eq_true rfl) (by show _ + 0 ≤ 6 * (zMk md n4 (zPl cr inn k1) - n4); omega) (fun b1 H locs hw G => ?_)
    refine zEx3 hw ?_
    intro w2_92 g5_93 g6_94
    refine zCu3 ?_
    intro hbs9 h_95 h_96
    clear hw
    subst hbs9
    have G : zS T A s.heap s [z, w2_92] _ _ := G
    refine lv_sipush (v := 499) hx hb dX0_make_33 (by decide) ?_
    refine lv_iload_n hx hb dX0_make_36 rfl (lv_at hl 0 rfl) ?_
    refine lv_iand hx hb dX0_make_37 ?_
    refine lv_topi (fun y_98 ey_98 => ?_)
    obtain rfl : y_98 = 0 := ey_98.trans (by decide)
    refine lv_if_eq (tgt := 45) hx hb dX0_make_38 (by decide) (fun _ => ?_) (fun q => absurd (by decide) q)
    refine lv_iload_n hx hb dX0_make_45 rfl (lv_at hl 0 rfl) ?_
    refine lv_iconst (v := 1) hx hb dX0_make_46 (by decide) ?_
    refine lv_ishr hx hb dX0_make_47 ?_
    refine lv_topi (fun y_99 ey_99 => ?_)
    obtain rfl : y_99 = 2 := ey_99.trans (by decide)
    refine lv_istore_n (lv' := [(2, .int 2), (0, .ref h), (1, .ref o)]) hx hb dX0_make_48 rfl hl (by decide) (zLvf_h rfl) (fun ls hl => ?_)
    refine lv_goto (tgt := 25) hx hb dX0_make_49 (by decide) ?_
    refine lv_iload_n hx hb dX0_make_25 rfl (lv_at hl 0 rfl) ?_
    refine lv_if_le (tgt := 52) hx hb dX0_make_26 (by decide) (fun q => absurd q (by decide)) (fun _ => ?_)
    refine lv_aload_n hx hb dX0_make_29 rfl (lv_at hl 1 rfl) ?_
    refine z_Vv (bc := [w2_92]) (br := [z]) (As := []) (rest := []) C G (c_f_doubleAll l T h o md (zWy cr inn k1) (zPl cr inn k1) g1_10 g2_11 f3 g4_22 g5_93 g6_94 (zNl n4 (zPl cr inn k1)) w2_92 (aW cr inn k1) k2 124 h_95 hO hzp hzn hn2 (by decide) h_96) (kV_RX0_51 C.2.2.2.2 (Nat.le_of_ble_eq_true rfl) (Nat.le_of_ble_eq_true rfl)) [1] [1] rfl rfl (ci := 0) (qc := (RX0, TX0, 10)) rfl rfl (List.mem_flatten.mpr ⟨_, List.mem_of_getElem? (i := 0) rfl, (bWays_mem h_95).choose_spec⟩) rfl rfl hl.1 dX0_make_30 (Nat.le_of_ble_eq_true rfl) (by show _ + 0 ≤ 6 * (zMk md n4 (zPl cr inn k1) - n4); omega) (fun b1 H locs hw G => ?_)
    refine zEx3 hw ?_
    intro w2_100 g5_101 g6_102
    refine zCu3 ?_
    intro hbs9 h_103 h_104
    clear hw
    subst hbs9
    have G : zS T A s.heap s [z, w2_100] _ _ := G
    refine lv_sipush (v := 499) hx hb dX0_make_33 (by decide) ?_
    refine lv_iload_n hx hb dX0_make_36 rfl (lv_at hl 0 rfl) ?_
    refine lv_iand hx hb dX0_make_37 ?_
    refine lv_topi (fun y_106 ey_106 => ?_)
    obtain rfl : y_106 = 2 := ey_106.trans (by decide)
    refine lv_if_eq (tgt := 45) hx hb dX0_make_38 (by decide) (fun q => absurd q (by decide)) (fun _ => ?_)
    refine lv_aload_n hx hb dX0_make_41 rfl (lv_at hl 1 rfl) ?_
    refine z_Vv (bc := [w2_100]) (br := [z]) (As := []) (rest := []) C G (c_f_oneMore l T h o md (zWy cr inn k1) (zPl cr inn k1) g1_10 g2_11 f3 g4_22 g5_101 g6_102 (zNl n4 (zPl cr inn k1)) w2_100 (aW cr inn k1) k2 248 h_103 hO hzp hzn hn2 (by decide) h_104 h_25) (kV_RX0_54 C.2.2.2.2 (Nat.le_of_ble_eq_true rfl) (Nat.le_of_ble_eq_true rfl)) [1] [1] rfl rfl (ci := 0) (qc := (RX0, TX0, 10)) rfl rfl (List.mem_flatten.mpr ⟨_, List.mem_of_getElem? (i := 0) rfl, (bWays_mem h_103).choose_spec⟩) rfl rfl hl.1 dX0_make_42 (Nat.le_of_ble_eq_true rfl) (by show _ + 0 ≤ 6 * (zMk md n4 (zPl cr inn k1) - n4); omega) (fun b1 H locs hw G => ?_)
    refine zEx3 hw ?_
    intro w2_107 g5_108 g6_109
    refine zCu3 ?_
    intro hbs9 h_110 h_111
    clear hw
    subst hbs9
    have G : zS T A s.heap s [z, w2_107] _ _ := G
    refine lv_iload_n hx hb dX0_make_45 rfl (lv_at hl 0 rfl) ?_
    refine lv_iconst (v := 1) hx hb dX0_make_46 (by decide) ?_
    refine lv_ishr hx hb dX0_make_47 ?_
    refine lv_topi (fun y_113 ey_113 => ?_)
    obtain rfl : y_113 = 1 := ey_113.trans (by decide)
    refine lv_istore_n (lv' := [(2, .int 1), (0, .ref h), (1, .ref o)]) hx hb dX0_make_48 rfl hl (by decide) (zLvf_h rfl) (fun ls hl => ?_)
    refine lv_goto (tgt := 25) hx hb dX0_make_49 (by decide) ?_
    refine lv_iload_n hx hb dX0_make_25 rfl (lv_at hl 0 rfl) ?_
    refine lv_if_le (tgt := 52) hx hb dX0_make_26 (by decide) (fun q => absurd q (by decide)) (fun _ => ?_)
    refine lv_aload_n hx hb dX0_make_29 rfl (lv_at hl 1 rfl) ?_
    refine z_Vv (bc := [w2_107]) (br := [z]) (As := []) (rest := []) C G (c_f_doubleAll l T h o md (zWy cr inn k1) (zPl cr inn k1) g1_10 g2_11 f3 g4_22 g5_108 g6_109 (zNl n4 (zPl cr inn k1)) w2_107 (aW cr inn k1) k2 249 h_110 hO hzp hzn hn2 (by decide) h_111) (kV_RX0_51 C.2.2.2.2 (Nat.le_of_ble_eq_true rfl) (Nat.le_of_ble_eq_true rfl)) [1] [1] rfl rfl (ci := 0) (qc := (RX0, TX0, 10)) rfl rfl (List.mem_flatten.mpr ⟨_, List.mem_of_getElem? (i := 0) rfl, (bWays_mem h_110).choose_spec⟩) rfl rfl hl.1 dX0_make_30 (Nat.le_of_ble_eq_true rfl) (by show _ + 0 ≤ 6 * (zMk md n4 (zPl cr inn k1) - n4); omega) (fun b1 H locs hw G => ?_)
    refine zEx3 hw ?_
    intro w2_114 g5_115 g6_116
    refine zCu3 ?_
    intro hbs9 h_117 h_118
    clear hw
    subst hbs9
    have G : zS T A s.heap s [z, w2_114] _ _ := G
    refine lv_sipush (v := 499) hx hb dX0_make_33 (by decide) ?_
    refine lv_iload_n hx hb dX0_make_36 rfl (lv_at hl 0 rfl) ?_
    refine lv_iand hx hb dX0_make_37 ?_
    refine lv_topi (fun y_120 ey_120 => ?_)
    obtain rfl : y_120 = 1 := ey_120.trans (by decide)
    refine lv_if_eq (tgt := 45) hx hb dX0_make_38 (by decide) (fun q => absurd q (by decide)) (fun _ => ?_)
    refine lv_aload_n hx hb dX0_make_41 rfl (lv_at hl 1 rfl) ?_
    refine z_Vv (bc := [w2_114]) (br := [z]) (As := []) (rest := []) C G (c_f_oneMore l T h o md (zWy cr inn k1) (zPl cr inn k1) g1_10 g2_11 f3 g4_22 g5_115 g6_116 (zNl n4 (zPl cr inn k1)) w2_114 (aW cr inn k1) k2 498 h_117 hO hzp hzn hn2 (by decide) h_118 h_25) (kV_RX0_54 C.2.2.2.2 (Nat.le_of_ble_eq_true rfl) (Nat.le_of_ble_eq_true rfl)) [1] [1] rfl rfl (ci := 0) (qc := (RX0, TX0, 10)) rfl rfl (List.mem_flatten.mpr ⟨_, List.mem_of_getElem? (i := 0) rfl, (bWays_mem h_117).choose_spec⟩) rfl rfl hl.1 dX0_make_42 (Nat.le_of_ble_eq_true rfl) (by show _ + 0 ≤ 6 * (zMk md n4 (zPl cr inn k1) - n4); omega) (fun b1 H locs hw G => ?_)
    refine zEx3 hw ?_
    intro w2_121 g5_122 g6_123
    refine zCu3 ?_
    intro hbs9 h_124 h_125
    clear hw
    subst hbs9
    have G : zS T A s.heap s [z, w2_121] _ _ := G
    refine lv_iload_n hx hb dX0_make_45 rfl (lv_at hl 0 rfl) ?_
    refine lv_iconst (v := 1) hx hb dX0_make_46 (by decide) ?_
    refine lv_ishr hx hb dX0_make_47 ?_
    refine lv_topi (fun y_127 ey_127 => ?_)
    obtain rfl : y_127 = 0 := ey_127.trans (by decide)
    refine lv_istore_n (lv' := [(2, .int 0), (0, .ref h), (1, .ref o)]) hx hb dX0_make_48 rfl hl (by decide) (zLvf_h rfl) (fun ls hl => ?_)
    refine lv_goto (tgt := 25) hx hb dX0_make_49 (by decide) ?_
    refine lv_iload_n hx hb dX0_make_25 rfl (lv_at hl 0 rfl) ?_
    refine lv_if_le (tgt := 52) hx hb dX0_make_26 (by decide) (fun _ => ?_) (fun q => absurd (by decide) q)
    refine lv_aload_n hx hb dX0_make_52 rfl (lv_at hl 1 rfl) ?_
    refine lv_iconst (v := 1) hx hb dX0_make_53 (by decide) ?_
    refine zEx6 h_124 ?_
    intro a1_128 a2_129 a3_130 a4_131 a5_132 a6_133 hbs9
    clear h_124
    subst hbs9
    have G : zS T A s.heap s [z, [zO0 h md (zWy cr inn k1) o (zPl cr inn k1) a1_128 a2_129 a3_130 a4_131 a5_132 a6_133], [zAr T 0 a1_128 7 g1_10], [zAr T 0 a2_129 7 g2_11], [zAr T 0 a3_130 7 f3], [zAr T 0 a4_131 (zNl n4 (zPl cr inn k1)) g4_22], [zAr T 0 a5_132 (zNl n4 (zPl cr inn k1)) g5_122], [zAr T 0 a6_133 (zNl n4 (zPl cr inn k1)) g6_123]] _ _ := G.re rfl
    refine z_put C G clX0 1 rfl 0 (by decide) m_fl_RX0_37 rfl rfl rfl (Nat.le_of_ble_eq_true rfl) dX0_make_54 (fun H locs G => ?_)
    have G : zS T A s.heap s [z, [zO0 h 1 (zWy cr inn k1) o (zPl cr inn k1) a1_128 a2_129 a3_130 a4_131 a5_132 a6_133], [zAr T 0 a1_128 7 g1_10], [zAr T 0 a2_129 7 g2_11], [zAr T 0 a3_130 7 f3], [zAr T 0 a4_131 (zNl n4 (zPl cr inn k1)) g4_22], [zAr T 0 a5_132 (zNl n4 (zPl cr inn k1)) g5_122], [zAr T 0 a6_133 (zNl n4 (zPl cr inn k1)) g6_123]] _ _ := G
    have hw_134 : bWays T h o 1 (zWy cr inn k1) (zPl cr inn k1) g1_10 g2_11 f3 g4_22 g5_122 g6_123 (zNl n4 (zPl cr inn k1)) [zO0 h 1 (zWy cr inn k1) o (zPl cr inn k1) a1_128 a2_129 a3_130 a4_131 a5_132 a6_133, zAr T 0 a1_128 7 g1_10, zAr T 0 a2_129 7 g2_11, zAr T 0 a3_130 7 f3, zAr T 0 a4_131 (zNl n4 (zPl cr inn k1)) g4_22, zAr T 0 a5_132 (zNl n4 (zPl cr inn k1)) g5_122, zAr T 0 a6_133 (zNl n4 (zPl cr inn k1)) g6_123] := ⟨a1_128, a2_129, a3_130, a4_131, a5_132, a6_133, rfl⟩
    have G : zS T A s.heap s [z, [zO0 h 1 (zWy cr inn k1) o (zPl cr inn k1) a1_128 a2_129 a3_130 a4_131 a5_132 a6_133, zAr T 0 a1_128 7 g1_10, zAr T 0 a2_129 7 g2_11, zAr T 0 a3_130 7 f3, zAr T 0 a4_131 (zNl n4 (zPl cr inn k1)) g4_22, zAr T 0 a5_132 (zNl n4 (zPl cr inn k1)) g5_122, zAr T 0 a6_133 (zNl n4 (zPl cr inn k1)) g6_123]] _ _ := G.re rfl
    have G := G.sub (bs' := [[zO0 h 1 (zWy cr inn k1) o (zPl cr inn k1) a1_128 a2_129 a3_130 a4_131 a5_132 a6_133, zAr T 0 a1_128 7 g1_10, zAr T 0 a2_129 7 g2_11, zAr T 0 a3_130 7 f3, zAr T 0 a4_131 (zNl n4 (zPl cr inn k1)) g4_22, zAr T 0 a5_132 (zNl n4 (zPl cr inn k1)) g5_122, zAr T 0 a6_133 (zNl n4 (zPl cr inn k1)) g6_123], z]) [1, 0] rfl
    exact z_back hQz_ (z_vret C hr hlocks G (Nat.le_of_ble_eq_true rfl) (by omega) dX0_make_57 ⟨([zO0 h 1 (zWy cr inn k1) o (zPl cr inn k1) a1_128 a2_129 a3_130 a4_131 a5_132 a6_133, zAr T 0 a1_128 7 g1_10, zAr T 0 a2_129 7 g2_11, zAr T 0 a3_130 7 f3, zAr T 0 a4_131 (zNl n4 (zPl cr inn k1)) g4_22, zAr T 0 a5_132 (zNl n4 (zPl cr inn k1)) g5_122, zAr T 0 a6_133 (zNl n4 (zPl cr inn k1)) g6_123]), 1, (zPl cr inn k1), g1_10, g2_11, g4_22, g5_122, g6_123, rfl, (hM.symm ▸ hw_134), (by decide), (by rw [hM]; exact ⟨rfl, rfl, h_13, hzn, h_125⟩)⟩)
  · have c_7n : ¬ md.toInt = (0 : Int) := fun q => c_7 ((fa_eq _ _).mpr q)
    obtain rfl : la = o := hmd.resolve_left (by first | with_reducible assumption | assumption)
    have hM : n4 = zMk md n4 (zPl cr inn k1) := by unfold zMk; rw [if_neg (by first | with_reducible assumption | assumption)]
    have hT9 := hT.resolve_left (by first | with_reducible assumption | assumption)
    obtain rfl := hT9.1
    have hw_135 : bWays T h la md (zWy cr inn k1) pc_ f1 f2 f3 f4 f5 f6 n4 [zO0 h md (zWy cr inn k1) la pc_ a1_1 a2_2 a3_3 a4_4 a5_5 a6_6, zAr T 0 a1_1 7 f1, zAr T 0 a2_2 7 f2, zAr T 0 a3_3 7 f3, zAr T 0 a4_4 n4 f4, zAr T 0 a5_5 n4 f5, zAr T 0 a6_6 n4 f6] := ⟨a1_1, a2_2, a3_3, a4_4, a5_5, a6_6, rfl⟩
    have G : zS T A s.heap s [[zO0 h md (zWy cr inn k1) la pc_ a1_1 a2_2 a3_3 a4_4 a5_5 a6_6, zAr T 0 a1_1 7 f1, zAr T 0 a2_2 7 f2, zAr T 0 a3_3 7 f3, zAr T 0 a4_4 n4 f4, zAr T 0 a5_5 n4 f5, zAr T 0 a6_6 n4 f6], z] _ _ := G.re rfl
    exact z_back hQz_ (z_vret C hr hlocks G (Nat.le_of_ble_eq_true rfl) (by omega) dX0_make_7 ⟨([zO0 h md (zWy cr inn k1) la pc_ a1_1 a2_2 a3_3 a4_4 a5_5 a6_6, zAr T 0 a1_1 7 f1, zAr T 0 a2_2 7 f2, zAr T 0 a3_3 7 f3, zAr T 0 a4_4 n4 f4, zAr T 0 a5_5 n4 f5, zAr T 0 a6_6 n4 f6]), md, pc_, f1, f2, f4, f5, f6, rfl, (hM ▸ hw_135), (by first | with_reducible assumption | assumption), (hM ▸ hT9)⟩)
theorem aCh_cg {W V : Nat → Int32} {c : Nat} (h : W c = V c) : aCh W c = aCh V c := by
  unfold aCh
  rw [h]
theorem aPr_cg {W V : Nat → Int32} (h : ∀ j, j < 7 → W j = V j) : ∀ n, aPr W n = aPr V n
  | 0 => rfl
  | n + 1 => by
    show aPr W n * aCh W (6 - n) = aPr V n * aCh V (6 - n)
    rw [aPr_cg h n, aCh_cg (h (6 - n) (by omega))]
theorem aRd_cg {W V : Nat → Int32} (h : ∀ j, j < 7 → W j = V j) {w c : Nat} (hc : c < 7) : aRd W w c = aRd V w c := by
  unfold aRd
  rw [aPr_cg h, aCh_cg (h c hc)]
theorem aTn_cg {W V : Nat → Int32} (h : ∀ j, j < 7 → W j = V j) {w c : Nat} (hc : c < 7) : aTn W w c = aTn V w c := by
  unfold aTn
  rw [aPr_cg h, aPr_cg h, aRd_cg h hc, aCh_cg (h c hc)]
theorem aN_cg {W V L M : Nat → Int32} (h : ∀ j, j < 7 → W j = V j) (hL : zLs W L M) (h4 : ∀ j, j < 7 → (W j).toInt ≤ 4) : ∀ n w c k, aN W L n w c k = aN V M n w c k
  | 0, w, c, k => rfl
  | n + 1, w, c, k => by
    by_cases q : c < 7 ∧ 0 < (W c).toInt
    · have e1 : aN W L (n + 1) w c k = aN W L n (aTn W w c) (L (4 * c + aRd W (aTn W w c) c)).toInt.toNat (k + 1) := if_pos q
      have e2 : aN V M (n + 1) w c k = aN V M n (aTn V w c) (M (4 * c + aRd V (aTn V w c) c)).toInt.toNat (k + 1) := if_pos ⟨q.1, by rw [← h c q.1]; exact q.2⟩
      have rl := aRd_lt (W := W) (w := aTn W w c) (c := c)
      have ch : aCh W c = (W c).toInt.toNat := if_neg (by omega)
      have b4 := h4 c q.1
      rw [e1, e2, ← aTn_cg h q.1, ← aRd_cg h q.1, ← hL c _ q.1 (show aRd W (aTn W w c) c < 4 by omega) (by omega)]
      exact aN_cg h hL h4 n _ _ _
    · rw [aN_s q, aN_s (fun z => q ⟨z.1, by rw [h c z.1]; exact z.2⟩)]
theorem aWo_1 {f : Nat → Int32} {z n c : Int32} (h : ¬ zInn n c) (h1 : 0 < (zRd f z c).toInt) (h0 : 0 ≤ c.toInt) (h6 : c.toInt ≤ 6) : zRd f z c = nI (aCh (zWo f z n) c.toInt.toNat) ∧ 0 < (zWo f z n c.toInt.toNat).toInt := by
  have e2 : nI c.toInt.toNat = c := (z_nI (by omega) (by omega)).symm
  have e : zWo f z n c.toInt.toNat = zRd f z c := if_neg (by rw [e2]; exact h)
  refine ⟨?_, by rw [e]; exact h1⟩
  unfold aCh
  rw [e, if_neg (by omega)]
  exact z_nI (by omega) (by have := Int32.toInt_lt (zRd f z c); omega)
theorem aWo_0 {f : Nat → Int32} {z n c : Int32} (h : zInn n c ∨ (zRd f z c).toInt ≤ 0) (h0 : 0 ≤ c.toInt) (h6 : c.toInt ≤ 6) : (zWo f z n c.toInt.toNat).toInt ≤ 0 ∧ aCh (zWo f z n) c.toInt.toNat = 1 := by
  have e2 : nI c.toInt.toNat = c := (z_nI (by omega) (by omega)).symm
  have q : (zWo f z n c.toInt.toNat).toInt ≤ 0 := by
    unfold zWo
    by_cases g : zBit n (nI c.toInt.toNat) = 1
    · rw [if_pos g]
      decide
    · rw [if_neg g]
      rw [e2] at g
      exact (h.resolve_left g)
  exact ⟨q, if_pos q⟩
theorem aCh_m {f : Nat → Int32} {z cr n : Int32} (h : zML f z cr) {c : Nat} (hc : c < 7) : aCh (zWo f z n) c ≤ 4 := by
  have r : 0 ≤ (zRo f z c).toInt ∧ (zRo f z c).toInt ≤ 4 := (h.2.2.2.1 c hc).1
  unfold aCh zWo
  by_cases g : zBit n (nI c) = 1
  · rw [if_pos g, if_pos (by decide)]
    decide
  · rw [if_neg g]
    split <;> omega
/-- behind the last crossing: no roads -/
def zVZ (f : Nat → Int32) (z : Int32) (cr : Int32) : Prop := ∀ j : Nat, j < 7 → cr.toInt ≤ (j : Int) → (zRo f z j).toInt ≤ 0
theorem zVZ_w {f : Nat → Int32} {z cr n : Int32} (h : zVZ f z cr) {j : Nat} (hj : j < 7) (hc : cr.toInt ≤ (j : Int)) : (zWo f z n j).toInt ≤ 0 := by
  unfold zWo
  split
  · decide
  · exact h j hj hc
def aQr (W : Nat → Int32) : Nat → Nat
  | 0 => 1
  | n + 1 => aQr W n * aCh W n
theorem aQr_e {W : Nat → Int32} : ∀ n, n ≤ 7 → aPr W n * aQr W (7 - n) = aQr W 7
  | 0, _ => Nat.one_mul _
  | n + 1, h => by
    have ih := aQr_e (W := W) n (by omega)
    have e : aQr W (7 - n) = aQr W (6 - n) * aCh W (6 - n) := by
      rw [show 7 - n = (6 - n) + 1 by omega]
      rfl
    rw [e] at ih
    rw [show 7 - (n + 1) = 6 - n by omega]
    show aPr W n * aCh W (6 - n) * aQr W (6 - n) = _
    rw [Nat.mul_assoc, Nat.mul_comm (aCh W (6 - n))]
    exact ih
theorem aQr_7 {W : Nat → Int32} : aPr W 7 = aQr W 7 := by
  have e := aQr_e (W := W) 7 (Nat.le_refl _)
  have e0 : aQr W (7 - 7) = 1 := rfl
  rw [e0, Nat.mul_one] at e
  exact e
theorem aQr_c {W : Nat → Int32} {c : Nat} (h : ∀ j, j < 7 → c ≤ j → aCh W j = 1) : ∀ n, c + n ≤ 7 → aQr W (c + n) = aQr W c
  | 0, _ => rfl
  | n + 1, hn => by
    show aQr W (c + n) * aCh W (c + n) = _
    rw [aQr_c h n (by omega), h (c + n) (by omega) (by omega), Nat.mul_one]
theorem aPr_c {W : Nat → Int32} {c : Nat} (h : ∀ j, j < 7 → c ≤ j → aCh W j = 1) : ∀ n, c + n ≤ 7 → aPr W n = 1
  | 0, _ => rfl
  | n + 1, hn => by
    show aPr W n * aCh W (6 - n) = 1
    rw [aPr_c h n (by omega), h (6 - n) (by omega) (by omega)]
theorem zVZ_c {f : Nat → Int32} {z cr n : Int32} (h : zVZ f z cr) {c : Nat} (hc : cr.toInt = (c : Int)) : ∀ j, j < 7 → c ≤ j → aCh (zWo f z n) j = 1 := fun j hj q => if_pos (zVZ_w h hj (by omega))
/-- the digits set from the last one on -/
def zMVp (R P : Nat → Int32) (c : Int) : Prop := ∀ k : Nat, k < 7 → c < (k : Int) → (R k).toInt ≤ 0 ∨ (P k).toInt = 0 ∨ (P k).toInt < (R k).toInt
theorem zMVp_u {R P : Nat → Int32} {c v : Int32} {d : Int} (h : zMVp R P c.toInt) (h0 : 0 ≤ c.toInt) (hd : d = c.toInt - 1) (hv : v.toInt = 0 ∨ v.toInt < (R c.toInt.toNat).toInt) : zMVp R (upd P c.toNatClampNeg v) d := by
  intro k hk hc
  have e := z_clI h0
  by_cases q : k = c.toNatClampNeg
  · rw [z_eq q, show R k = R c.toInt.toNat from congrArg R q]
    exact Or.inr hv
  · rw [z_ne q]
    exact h k hk (by omega)
def zPwp (W : Nat → Int32) (w : Nat) (P : Nat → Int32) (c cr : Int) : Prop := ∀ k : Nat, k < 7 → c < (k : Int) → (k : Int) < cr → P k = aPo W w k
theorem zPwp_u {W P : Nat → Int32} {w : Nat} {c v : Int32} {d cr : Int} (h : zPwp W w P c.toInt cr) (h0 : 0 ≤ c.toInt) (hd : d = c.toInt - 1) (hv : v = aPo W w c.toInt.toNat) : zPwp W w (upd P c.toNatClampNeg v) d cr := by
  intro k hk hc hr
  have e := z_clI h0
  by_cases q : k = c.toNatClampNeg
  · rw [z_eq q, hv]
    exact congrArg (aPo W w) q.symm
  · rw [z_ne q]
    exact h k hk (by omega) hr
/-- one digit more -/
theorem aSw {W : Nat → Int32} {w : Nat} {c lf rd : Int32} (hw : w < 2147483648) (h0 : 0 ≤ c.toInt) (h6 : c.toInt ≤ 6) (hl : lf = nI (w / aPr W (6 - c.toInt).toNat)) (hr : rd = nI (aCh W c.toInt.toNat)) (h4 : aCh W c.toInt.toNat ≤ 4) : lf - lf / rd * rd = aPo W w c.toInt.toNat ∧ lf / rd = nI (w / aPr W (7 - c.toInt).toNat) := by
  have p1 := aCh_p (W := W) (c := c.toInt.toNat)
  have d := Nat.div_le_self w (aPr W (6 - c.toInt).toNat)
  have e6 : 6 - c.toInt.toNat = (6 - c.toInt).toNat := by omega
  rw [hl, hr, pk_rem (by omega) (by omega) (by omega), pk_div (by omega) (by omega) (by omega)]
  constructor
  · unfold aPo aRd
    rw [e6]
  · rw [Nat.div_div_eq_div_mul, show (7 - c.toInt).toNat = (6 - c.toInt.toNat) + 1 by omega, aPr_s (by omega), e6]
theorem aPo_1 {W : Nat → Int32} {w c : Nat} (h : aCh W c = 1) : (0 : Int32) = aPo W w c := by
  unfold aPo aRd
  rw [h, Nat.mod_one]
  rfl
set_option maxHeartbeats 4000000 in
set_option maxRecDepth 100000 in
/-- c_fm_waysMany -/
theorem c_fm_waysMany (l : Launch) (T : zTy) (mo : Nat) (m_all : Nat) (m_has : Nat) (i_size : Int32) (i_next : Int32) (i_where : Int32) (i_token : Int32) (i_number : Int32) (i_word : Int32) (i_wrong : Int32) (i_farCrossing : Int32) (m_read : Nat) (i_z0 : Int32) (i_crossings : Int32) (i_inns : Int32) (m_posts : Nat) (m_shut : Nat) (m_here : Nat) (i_steps : Int32) (i_done : Int32) (i_at : Int32) (i_gone : Int32) (m_was : Nat) (m_came : Nat) (m_seenAt : Nat) (m_rowWorth : Nat) (m_farBy : Nat) (m_used : Nat) (i_everywhere : Int32) (i_again0 : Int32) (i_d0 : Int32) (i_never : Int32) (i_firstCame : Int32) (i_longRun : Int32) (i_moved : Int32) (i_crowd : Int32) (i_l0 : Int32) (i_fitMany : Int32) (i_fitLeast : Int32) (i_fitMost : Int32) (m_fitPost : Nat) (m_fitEnd : Nat) (m_keptPosts : Nat) (i_x0 : Int32) (f_all : Nat → Int32) (hL : zML f_all i_z0 i_crossings) (hZ : zVZ f_all i_z0 i_crossings) : zMi l T yX12_waysMany cX12_waysMany 3 (some .int) 3 0 0 [.ref mo] [[zO11 mo m_all m_has i_size i_next i_where i_token i_number i_word i_wrong i_farCrossing m_read i_z0 i_crossings i_inns m_posts m_shut m_here i_steps i_done i_at i_gone m_was m_came m_seenAt m_rowWorth m_farBy m_used i_everywhere i_again0 i_d0 i_never i_firstCame i_longRun i_moved i_crowd i_l0 i_fitMany i_fitLeast i_fitMost m_fitPost m_fitEnd m_keptPosts i_x0], [zAr T 0 m_all 3952 f_all]] (fun (r : Int32) bs => bs = [[zO11 mo m_all m_has i_size i_next i_where i_token i_number i_word i_wrong i_farCrossing m_read i_z0 i_crossings i_inns m_posts m_shut m_here i_steps i_done i_at i_gone m_was m_came m_seenAt m_rowWorth m_farBy m_used i_everywhere i_again0 i_d0 i_never i_firstCame i_longRun i_moved i_crowd i_l0 i_fitMany i_fitLeast i_fitMost m_fitPost m_fitEnd m_keptPosts i_x0], [zAr T 0 m_all 3952 f_all]] ∧ 1 ≤ r.toInt ∧ r.toInt ≤ 16384 ∧ r = nI (aPr (zWo f_all i_z0 i_inns) 7)) := by
  refine zMi_of (own := RX12) (by decide) rfl (Nat.le_of_ble_eq_true rfl) ?_
  intro p e s m args below meth c A ls C hr hlocks hnm hAe G hl
  refine zHide (fun Qz_ hQz_ => ?_)
  have hx := C.1
  have hb := C.2.1
  have hl : lv_has ls 3 [(0, .ref mo)] := hl
  have hz := hL.1
  have hcr := hL.cr
  refine lv_iconst (v := 1) hx hb dX12_waysMany_0 (by decide) ?_
  refine lv_istore_n (lv' := [(1, .int 1), (0, .ref mo)]) hx hb dX12_waysMany_1 rfl hl (by decide) (zLvf_h rfl) (fun ls hl => ?_)
  refine lv_iconst (v := 0) hx hb dX12_waysMany_2 (by decide) ?_
  refine lv_istore_n (lv' := [(2, .int 0), (1, .int 1), (0, .ref mo)]) hx hb dX12_waysMany_3 rfl hl (by decide) (zLvf_h rfl) (fun ls hl => ?_)
  refine z_lp2 (T := T) 4 (fun (i : Nat) (v : Int32) => [[zO11 mo m_all m_has i_size i_next i_where i_token i_number i_word i_wrong i_farCrossing m_read i_z0 i_crossings i_inns m_posts m_shut m_here i_steps i_done i_at i_gone m_was m_came m_seenAt m_rowWorth m_farBy m_used i_everywhere i_again0 i_d0 i_never i_firstCame i_longRun i_moved i_crowd i_l0 i_fitMany i_fitLeast i_fitMost m_fitPost m_fitEnd m_keptPosts i_x0], [zAr T 0 m_all 3952 f_all]]) (fun (i : Nat) (v : Int32) => [(2, .int (nI i)), (1, .int v), (0, .ref mo)]) (fun (i : Nat) (v : Int32) => i ≤ 7 ∧ (1 ≤ v.toInt ∧ v.toInt ≤ ((4 ^ i : Nat) : Int)) ∧ (i : Int) ≤ i_crossings.toInt ∧ v = nI (aQr (zWo f_all i_z0 i_inns) i)) (fun (i : Nat) (v : Int32) => 7 - i) ?_ 0 1 (show 0 ≤ 7 ∧ (1 ≤ (1 : Int32).toInt ∧ (1 : Int32).toInt ≤ ((4 ^ 0 : Nat) : Int)) ∧ (0 : Int) ≤ i_crossings.toInt ∧ 1 = nI (aQr (zWo f_all i_z0 i_inns) 0) from ⟨by omega, (by decide), by omega, rfl⟩) G (lv_sub hl [0, 1, 2] rfl)
  intro i v hI9 ih_4 H locs ls G hl
  replace hI9 : i ≤ 7 ∧ (1 ≤ v.toInt ∧ v.toInt ≤ ((4 ^ i : Nat) : Int)) ∧ (i : Int) ≤ i_crossings.toInt ∧ v = nI (aQr (zWo f_all i_z0 i_inns) i) := hI9
  refine zAn4 hI9 ?_
  intro hi hv hic hw
  clear hI9
  replace G : zS T A s.heap s [[zO11 mo m_all m_has i_size i_next i_where i_token i_number i_word i_wrong i_farCrossing m_read i_z0 i_crossings i_inns m_posts m_shut m_here i_steps i_done i_at i_gone m_was m_came m_seenAt m_rowWorth m_farBy m_used i_everywhere i_again0 i_d0 i_never i_firstCame i_longRun i_moved i_crowd i_l0 i_fitMany i_fitLeast i_fitMost m_fitPost m_fitEnd m_keptPosts i_x0], [zAr T 0 m_all 3952 f_all]] _ _ := G
  replace hl : lv_has ls 3 [(2, .int (nI i)), (1, .int v), (0, .ref mo)] := hl
  refine lv_iload_n hx hb dX12_waysMany_4 rfl (lv_at hl 0 rfl) ?_
  refine lv_aload_n hx hb dX12_waysMany_5 rfl (lv_at hl 2 rfl) ?_
  refine z_get C G clX12 0 rfl 12 (by decide) m_fl_RX12_169 rfl dX12_waysMany_6 ?_
  refine lv_icmp_ge (tgt := 38) hx hb dX12_waysMany_9 (by decide) (fun c_1 => ?_) (fun c_1 => ?_)
  · have c_1n : i_crossings.toInt ≤ (i : Int) := by have q := (fa_le _ _).mp c_1; rw [nI_toInt (n := i) (by omega)] at q; exact q
    refine lv_iload_n hx hb dX12_waysMany_38 rfl (lv_at hl 1 rfl) ?_
    exact z_back hQz_ (z_iret C hr hlocks G (Nat.le_of_ble_eq_true rfl) (Nat.le_of_ble_eq_true rfl) dX12_waysMany_39 ⟨rfl, hv.1, (Int.le_trans hv.2 (zP4 (by omega))), (by rw [hw, aQr_7]; exact congrArg nI ((congrArg (aQr (zWo f_all i_z0 i_inns)) (show 7 = i + (7 - i) by omega)).trans (aQr_c (zVZ_c hZ (by omega)) _ (by omega))).symm)⟩)
  · have c_1n : ¬ i_crossings.toInt ≤ (i : Int) := fun q => c_1 ((fa_le _ _).mpr (by rw [nI_toInt (n := i) (by omega)]; exact q))
    refine lv_iload_n hx hb dX12_waysMany_12 rfl (lv_at hl 1 rfl) ?_
    refine lv_aload_n hx hb dX12_waysMany_13 rfl (lv_at hl 2 rfl) ?_
    refine lv_iload_n hx hb dX12_waysMany_14 rfl (lv_at hl 0 rfl) ?_
    have ti_2 : (nI i).toInt = ((i : Nat) : Int) := nI_toInt (by omega)
    refine z_Vi (bc := [[zO11 mo m_all m_has i_size i_next i_where i_token i_number i_word i_wrong i_farCrossing m_read i_z0 i_crossings i_inns m_posts m_shut m_here i_steps i_done i_at i_gone m_was m_came m_seenAt m_rowWorth m_farBy m_used i_everywhere i_again0 i_d0 i_never i_firstCame i_longRun i_moved i_crowd i_l0 i_fitMany i_fitLeast i_fitMost m_fitPost m_fitEnd m_keptPosts i_x0], [zAr T 0 m_all 3952 f_all]]) (br := []) (As := [.int (nI i)]) (rest := [.int v]) C G (c_m_isFree l T mo m_all m_has i_size i_next i_where i_token i_number i_word i_wrong i_farCrossing m_read i_z0 i_crossings i_inns m_posts m_shut m_here i_steps i_done i_at i_gone m_was m_came m_seenAt m_rowWorth m_farBy m_used i_everywhere i_again0 i_d0 i_never i_firstCame i_longRun i_moved i_crowd i_l0 i_fitMany i_fitLeast i_fitMost m_fitPost m_fitEnd m_keptPosts i_x0 f_all (nI i) (by first | with_reducible assumption | with_reducible rfl | omega | assumption | rfl | decide) (by first | with_reducible assumption | with_reducible rfl | omega | assumption | rfl | decide) (by first | with_reducible assumption | with_reducible rfl | omega | assumption | rfl | decide)) (kV_RX12_223 C.2.2.2.2 (Nat.le_of_ble_eq_true rfl) (Nat.le_of_ble_eq_true rfl)) [0, 1] [0, 0] rfl rfl (ci := 11) (qc := (RX12, TX12, 43)) rfl rfl (List.mem_flatten.mpr ⟨_, List.mem_of_getElem? (i := 0) rfl, List.mem_cons_self⟩) rfl rfl hl.1 dX12_waysMany_15 (Nat.le_of_ble_eq_true rfl) (Nat.le_of_ble_eq_true rfl) (fun r_4 b1 H locs hw G => ?_)
    refine zAn2 hw ?_
    intro hbs9 hc_3
    clear hw
    subst hbs9
    have G : zS T A s.heap s [[zO11 mo m_all m_has i_size i_next i_where i_token i_number i_word i_wrong i_farCrossing m_read i_z0 i_crossings i_inns m_posts m_shut m_here i_steps i_done i_at i_gone m_was m_came m_seenAt m_rowWorth m_farBy m_used i_everywhere i_again0 i_d0 i_never i_firstCame i_longRun i_moved i_crowd i_l0 i_fitMany i_fitLeast i_fitMost m_fitPost m_fitEnd m_keptPosts i_x0], [zAr T 0 m_all 3952 f_all]] _ _ := G
    rcases hc_3 with ⟨rfl, h_5, h_6⟩ | ⟨rfl, h_7⟩
    · have h_5 : ¬ zInn i_inns (nI i) := h_5
      have h_6 : 0 < (zRd f_all i_z0 (nI i)).toInt := h_6
      refine lv_if_eq (tgt := 29) hx hb dX12_waysMany_18 (by decide) (fun q => absurd q (by decide)) (fun _ => ?_)
      refine lv_aload_n hx hb dX12_waysMany_21 rfl (lv_at hl 2 rfl) ?_
      refine lv_iload_n hx hb dX12_waysMany_22 rfl (lv_at hl 0 rfl) ?_
      have ti_8 : (nI i).toInt = ((i : Nat) : Int) := nI_toInt (by omega)
      refine z_Vi (bc := [[zO11 mo m_all m_has i_size i_next i_where i_token i_number i_word i_wrong i_farCrossing m_read i_z0 i_crossings i_inns m_posts m_shut m_here i_steps i_done i_at i_gone m_was m_came m_seenAt m_rowWorth m_farBy m_used i_everywhere i_again0 i_d0 i_never i_firstCame i_longRun i_moved i_crowd i_l0 i_fitMany i_fitLeast i_fitMost m_fitPost m_fitEnd m_keptPosts i_x0], [zAr T 0 m_all 3952 f_all]]) (br := []) (As := [.int (nI i)]) (rest := [.int v]) C G (c_m_roadsOf l T mo m_all m_has i_size i_next i_where i_token i_number i_word i_wrong i_farCrossing m_read i_z0 i_crossings i_inns m_posts m_shut m_here i_steps i_done i_at i_gone m_was m_came m_seenAt m_rowWorth m_farBy m_used i_everywhere i_again0 i_d0 i_never i_firstCame i_longRun i_moved i_crowd i_l0 i_fitMany i_fitLeast i_fitMost m_fitPost m_fitEnd m_keptPosts i_x0 f_all (nI i) (by first | with_reducible assumption | with_reducible rfl | omega | assumption | rfl | decide) (by first | with_reducible assumption | with_reducible rfl | omega | assumption | rfl | decide) (by first | with_reducible assumption | with_reducible rfl | omega | assumption | rfl | decide)) (kV_RX12_181 C.2.2.2.2 (Nat.le_of_ble_eq_true rfl) (Nat.le_of_ble_eq_true rfl)) [0, 1] [0, 0] rfl rfl (ci := 11) (qc := (RX12, TX12, 43)) rfl rfl (List.mem_flatten.mpr ⟨_, List.mem_of_getElem? (i := 0) rfl, List.mem_cons_self⟩) rfl rfl hl.1 dX12_waysMany_23 (Nat.le_of_ble_eq_true rfl) (Nat.le_of_ble_eq_true rfl) (fun r_12 b1 H locs hw G => ?_)
      refine zAn4 hw ?_
      intro hbs9 h_9 h_10 h_11
      clear hw
      subst hbs9
      have G : zS T A s.heap s [[zO11 mo m_all m_has i_size i_next i_where i_token i_number i_word i_wrong i_farCrossing m_read i_z0 i_crossings i_inns m_posts m_shut m_here i_steps i_done i_at i_gone m_was m_came m_seenAt m_rowWorth m_farBy m_used i_everywhere i_again0 i_d0 i_never i_firstCame i_longRun i_moved i_crowd i_l0 i_fitMany i_fitLeast i_fitMost m_fitPost m_fitEnd m_keptPosts i_x0], [zAr T 0 m_all 3952 f_all]] _ _ := G
      subst h_9
      refine lv_goto (tgt := 30) hx hb dX12_waysMany_26 (by decide) ?_
      have tn9 := nI_n (n := i) (by omega)
      have ti9 := nI_toInt (n := i) (by omega)
      have ha9 := aWo_1 (f := f_all) (z := i_z0) (n := i_inns) (c := (nI i)) (by first | with_reducible assumption | assumption) (by first | with_reducible assumption | assumption) (by omega) (by omega)
      rw [tn9] at ha9
      have hp9 := aCh_p (W := (zWo f_all i_z0 i_inns)) (c := i)
      have hq9 := aCh_m (n := i_inns) hL (c := i) (by omega)
      have hr9 := nI_toInt (n := aCh (zWo f_all i_z0 i_inns) i) (by omega)
      refine lv_topi (fun y_13 ey_13 => ?_)
      obtain rfl : y_13 = nI (aCh (zWo f_all i_z0 i_inns) i) := ey_13.trans (ha9.1)
      refine lv_imul hx hb dX12_waysMany_30 ?_
      refine lv_istore_n (lv' := [(1, .int (v * (nI (aCh (zWo f_all i_z0 i_inns) i)))), (2, .int (nI i)), (0, .ref mo)]) hx hb dX12_waysMany_31 rfl hl (by decide) (zLvf_h rfl) (fun ls hl => ?_)
      refine lv_iinc (v := nI (i + 1)) (lv' := [(2, .int (nI (i + 1))), (1, .int (v * (nI (aCh (zWo f_all i_z0 i_inns) i)))), (0, .ref mo)]) hx hb dX12_waysMany_32 hl (k := 1) rfl (z_inc i 1) (by decide) (zLvf_h rfl) (fun ls hl => ?_)
      refine lv_goto (tgt := 4) hx hb dX12_waysMany_35 (by decide) ?_
      exact ih_4 (i + 1) (v * (nI (aCh (zWo f_all i_z0 i_inns) i))) (show (i + 1) ≤ 7 ∧ (1 ≤ (v * (nI (aCh (zWo f_all i_z0 i_inns) i))).toInt ∧ (v * (nI (aCh (zWo f_all i_z0 i_inns) i))).toInt ≤ ((4 ^ (i + 1) : Nat) : Int)) ∧ ((i + 1) : Int) ≤ i_crossings.toInt ∧ (v * (nI (aCh (zWo f_all i_z0 i_inns) i))) = nI (aQr (zWo f_all i_z0 i_inns) (i + 1)) from ⟨by omega, (zW4 (r := nI (aCh (zWo f_all i_z0 i_inns) i)) (by omega) hv (by omega) (by omega)), by omega, (by rw [hw]; exact pk_mul _ _)⟩) (show 7 - (i + 1) < 7 - i from by omega) _ _ ls G (lv_sub hl [0, 1, 2] rfl)
    · have h_7 : (zInn i_inns (nI i) ∨ (zRd f_all i_z0 (nI i)).toInt ≤ 0) := h_7
      refine lv_if_eq (tgt := 29) hx hb dX12_waysMany_18 (by decide) (fun _ => ?_) (fun q => absurd (by decide) q)
      refine lv_iconst (v := 1) hx hb dX12_waysMany_29 (by decide) ?_
      have tn9 := nI_n (n := i) (by omega)
      have ti9 := nI_toInt (n := i) (by omega)
      have ha9 := aWo_0 (f := f_all) (z := i_z0) (n := i_inns) (c := (nI i)) (by first | with_reducible assumption | assumption) (by omega) (by omega)
      rw [tn9] at ha9
      have hp9 := aCh_p (W := (zWo f_all i_z0 i_inns)) (c := i)
      have hq9 := aCh_m (n := i_inns) hL (c := i) (by omega)
      have hr9 := nI_toInt (n := aCh (zWo f_all i_z0 i_inns) i) (by omega)
      refine lv_topi (fun y_14 ey_14 => ?_)
      obtain rfl : y_14 = nI (aCh (zWo f_all i_z0 i_inns) i) := ey_14.trans ((congrArg nI ha9.2).symm)
      refine lv_imul hx hb dX12_waysMany_30 ?_
      refine lv_istore_n (lv' := [(1, .int (v * (nI (aCh (zWo f_all i_z0 i_inns) i)))), (2, .int (nI i)), (0, .ref mo)]) hx hb dX12_waysMany_31 rfl hl (by decide) (zLvf_h rfl) (fun ls hl => ?_)
      refine lv_iinc (v := nI (i + 1)) (lv' := [(2, .int (nI (i + 1))), (1, .int (v * (nI (aCh (zWo f_all i_z0 i_inns) i)))), (0, .ref mo)]) hx hb dX12_waysMany_32 hl (k := 1) rfl (z_inc i 1) (by decide) (zLvf_h rfl) (fun ls hl => ?_)
      refine lv_goto (tgt := 4) hx hb dX12_waysMany_35 (by decide) ?_
      exact ih_4 (i + 1) (v * (nI (aCh (zWo f_all i_z0 i_inns) i))) (show (i + 1) ≤ 7 ∧ (1 ≤ (v * (nI (aCh (zWo f_all i_z0 i_inns) i))).toInt ∧ (v * (nI (aCh (zWo f_all i_z0 i_inns) i))).toInt ≤ ((4 ^ (i + 1) : Nat) : Int)) ∧ ((i + 1) : Int) ≤ i_crossings.toInt ∧ (v * (nI (aCh (zWo f_all i_z0 i_inns) i))) = nI (aQr (zWo f_all i_z0 i_inns) (i + 1)) from ⟨by omega, (zW4 (r := nI (aCh (zWo f_all i_z0 i_inns) i)) (by omega) hv (by omega) (by omega)), by omega, (by rw [hw]; exact pk_mul _ _)⟩) (show 7 - (i + 1) < 7 - i from by omega) _ _ ls G (lv_sub hl [0, 1, 2] rfl)
set_option maxHeartbeats 4000000 in
set_option maxRecDepth 100000 in
/-- c_fm_setsWay -/
theorem c_fm_setsWay (l : Launch) (T : zTy) (mo : Nat) (m_all : Nat) (m_has : Nat) (i_size : Int32) (i_next : Int32) (i_where : Int32) (i_token : Int32) (i_number : Int32) (i_word : Int32) (i_wrong : Int32) (i_farCrossing : Int32) (m_read : Nat) (i_z0 : Int32) (i_crossings : Int32) (i_inns : Int32) (m_posts : Nat) (m_shut : Nat) (m_here : Nat) (i_steps : Int32) (i_done : Int32) (i_at : Int32) (i_gone : Int32) (m_was : Nat) (m_came : Nat) (m_seenAt : Nat) (m_rowWorth : Nat) (m_farBy : Nat) (m_used : Nat) (i_everywhere : Int32) (i_again0 : Int32) (i_d0 : Int32) (i_never : Int32) (i_firstCame : Int32) (i_longRun : Int32) (i_moved : Int32) (i_crowd : Int32) (i_l0 : Int32) (i_fitMany : Int32) (i_fitLeast : Int32) (i_fitMost : Int32) (m_fitPost : Nat) (m_fitEnd : Nat) (m_keptPosts : Nat) (i_x0 : Int32) (f_all : Nat → Int32) (f_posts : Nat → Int32) (w_ : Int32) (hL : zML f_all i_z0 i_crossings) (hP : zMP f_posts) (hw0 : 0 ≤ w_.toInt) (hZ : zVZ f_all i_z0 i_crossings) : zMv l T yX12_setsWay cX12_setsWay 4 3 0 0 [.ref mo, .int w_] [[zO11 mo m_all m_has i_size i_next i_where i_token i_number i_word i_wrong i_farCrossing m_read i_z0 i_crossings i_inns m_posts m_shut m_here i_steps i_done i_at i_gone m_was m_came m_seenAt m_rowWorth m_farBy m_used i_everywhere i_again0 i_d0 i_never i_firstCame i_longRun i_moved i_crowd i_l0 i_fitMany i_fitLeast i_fitMost m_fitPost m_fitEnd m_keptPosts i_x0], [zAr T 0 m_all 3952 f_all], [zAr T 0 m_posts 7 f_posts]] (fun bs => ∃ (g_posts : Nat → Int32), bs = [[zO11 mo m_all m_has i_size i_next i_where i_token i_number i_word i_wrong i_farCrossing m_read i_z0 i_crossings i_inns m_posts m_shut m_here i_steps i_done i_at i_gone m_was m_came m_seenAt m_rowWorth m_farBy m_used i_everywhere i_again0 i_d0 i_never i_firstCame i_longRun i_moved i_crowd i_l0 i_fitMany i_fitLeast i_fitMost m_fitPost m_fitEnd m_keptPosts i_x0], [zAr T 0 m_all 3952 f_all], [zAr T 0 m_posts 7 g_posts]] ∧ zMP g_posts ∧ zMV (zRo f_all i_z0) g_posts ∧ (∀ k : Nat, k < 7 → (k : Int) < i_crossings.toInt → g_posts k = aPo (zWo f_all i_z0 i_inns) w_.toInt.toNat k)) := by
  refine zMv_of (own := RX12) (by decide) rfl (Nat.le_of_ble_eq_true rfl) ?_
  intro p e s m args below meth c A ls C hr hlocks hnm hAe G hl
  refine zHide (fun Qz_ hQz_ => ?_)
  have hx := C.1
  have hb := C.2.1
  have hl : lv_has ls 4 [(0, .ref mo), (1, .int w_)] := hl
  have hz := hL.1
  have hcr := hL.cr
  have hwl := Int32.toInt_lt w_
  refine lv_iload_n hx hb dX12_setsWay_0 rfl (lv_at hl 1 rfl) ?_
  refine lv_istore_n (lv' := [(2, .int w_), (0, .ref mo), (1, .int w_)]) hx hb dX12_setsWay_1 rfl hl (by decide) (zLvf_h rfl) (fun ls hl => ?_)
  refine lv_aload_n hx hb dX12_setsWay_2 rfl (lv_at hl 1 rfl) ?_
  refine z_get C G clX12 0 rfl 12 (by decide) m_fl_RX12_169 rfl dX12_setsWay_3 ?_
  refine lv_iconst (v := 1) hx hb dX12_setsWay_6 (by decide) ?_
  refine lv_isub hx hb dX12_setsWay_7 ?_
  refine lv_topi (fun y_1 ey_1 => ?_)
  have ey_1i : y_1.toInt = i_crossings.toInt - (1 : Int) := by rw [ey_1]; exact z_isubI (x := i_crossings) (y := (1 : Int32)) (by show -2147483648 ≤ i_crossings.toInt - (1 : Int); omega) (by show i_crossings.toInt - (1 : Int) < 2147483648; omega)
  refine lv_istore_n (lv' := [(3, .int y_1), (2, .int w_), (0, .ref mo), (1, .int w_)]) hx hb dX12_setsWay_8 rfl hl (by decide) (zLvf_h rfl) (fun ls hl => ?_)
  refine z_lp3 (T := T) 9 (fun (c9 : Int32) (lf : Int32) (xp : Nat → Int32) => [[zO11 mo m_all m_has i_size i_next i_where i_token i_number i_word i_wrong i_farCrossing m_read i_z0 i_crossings i_inns m_posts m_shut m_here i_steps i_done i_at i_gone m_was m_came m_seenAt m_rowWorth m_farBy m_used i_everywhere i_again0 i_d0 i_never i_firstCame i_longRun i_moved i_crowd i_l0 i_fitMany i_fitLeast i_fitMost m_fitPost m_fitEnd m_keptPosts i_x0], [zAr T 0 m_all 3952 f_all], [zAr T 0 m_posts 7 xp]]) (fun (c9 : Int32) (lf : Int32) (xp : Nat → Int32) => [(3, .int c9), (2, .int lf), (0, .ref mo), (1, .int w_)]) (fun (c9 : Int32) (lf : Int32) (xp : Nat → Int32) => -1 ≤ c9.toInt ∧ c9.toInt ≤ 6 ∧ 0 ≤ lf.toInt ∧ zMP xp ∧ c9.toInt < i_crossings.toInt ∧ lf = nI (w_.toInt.toNat / aPr (zWo f_all i_z0 i_inns) (6 - c9.toInt).toNat) ∧ zMVp (zRo f_all i_z0) xp c9.toInt ∧ zPwp (zWo f_all i_z0 i_inns) w_.toInt.toNat xp c9.toInt i_crossings.toInt) (fun (c9 : Int32) (lf : Int32) (xp : Nat → Int32) => (c9.toInt + 1).toNat) ?_ y_1 w_ f_posts (show -1 ≤ y_1.toInt ∧ y_1.toInt ≤ 6 ∧ 0 ≤ w_.toInt ∧ zMP f_posts ∧ y_1.toInt < i_crossings.toInt ∧ w_ = nI (w_.toInt.toNat / aPr (zWo f_all i_z0 i_inns) (6 - y_1.toInt).toNat) ∧ zMVp (zRo f_all i_z0) f_posts y_1.toInt ∧ zPwp (zWo f_all i_z0 i_inns) w_.toInt.toNat f_posts y_1.toInt i_crossings.toInt from ⟨by omega, by omega, by omega, hP, by omega, (by rw [aPr_c (zVZ_c (n := i_inns) hZ (c := i_crossings.toInt.toNat) (by omega)) _ (by omega), Nat.div_one]; exact z_nI (by omega) (by omega)), (fun k hk hq => Or.inl (hZ k hk (by omega))), (fun k hk hq hr => absurd hr (by omega))⟩) G (lv_sub hl [0, 1, 2, 3] rfl)
  intro c9 lf xp hI9 ih_9 H locs ls G hl
  replace hI9 : -1 ≤ c9.toInt ∧ c9.toInt ≤ 6 ∧ 0 ≤ lf.toInt ∧ zMP xp ∧ c9.toInt < i_crossings.toInt ∧ lf = nI (w_.toInt.toNat / aPr (zWo f_all i_z0 i_inns) (6 - c9.toInt).toNat) ∧ zMVp (zRo f_all i_z0) xp c9.toInt ∧ zPwp (zWo f_all i_z0 i_inns) w_.toInt.toNat xp c9.toInt i_crossings.toInt := hI9
  refine zAn8 hI9 ?_
  intro hc1 hc6 hlf hQ hcc hl9 hM9 hd9
  clear hI9
  replace G : zS T A s.heap s [[zO11 mo m_all m_has i_size i_next i_where i_token i_number i_word i_wrong i_farCrossing m_read i_z0 i_crossings i_inns m_posts m_shut m_here i_steps i_done i_at i_gone m_was m_came m_seenAt m_rowWorth m_farBy m_used i_everywhere i_again0 i_d0 i_never i_firstCame i_longRun i_moved i_crowd i_l0 i_fitMany i_fitLeast i_fitMost m_fitPost m_fitEnd m_keptPosts i_x0], [zAr T 0 m_all 3952 f_all], [zAr T 0 m_posts 7 xp]] _ _ := G
  replace hl : lv_has ls 4 [(3, .int c9), (2, .int lf), (0, .ref mo), (1, .int w_)] := hl
  refine lv_iload_n hx hb dX12_setsWay_9 rfl (lv_at hl 0 rfl) ?_
  refine lv_if_lt (tgt := 64) hx hb dX12_setsWay_10 (by decide) (fun c_2 => ?_) (fun c_2 => ?_)
  · have c_2n : c9.toInt < (0 : Int) := (fa_lt _ _).mp c_2
    exact z_back hQz_ (z_vret C hr hlocks G (Nat.le_of_ble_eq_true rfl) (Nat.le_of_ble_eq_true rfl) dX12_setsWay_64 ⟨xp, rfl, hQ, (fun k hk => hM9 k hk (by omega)), (fun k hk hr => hd9 k hk (by omega) hr)⟩)
  · have c_2n : ¬ c9.toInt < (0 : Int) := fun q => c_2 ((fa_lt _ _).mpr q)
    refine lv_aload_n hx hb dX12_setsWay_13 rfl (lv_at hl 2 rfl) ?_
    refine z_get C G clX12 0 rfl 14 (by decide) m_fl_RX12_20 rfl dX12_setsWay_14 ?_
    refine lv_iload_n hx hb dX12_setsWay_17 rfl (lv_at hl 0 rfl) ?_
    refine lv_aload_n hx hb dX12_setsWay_18 rfl (lv_at hl 2 rfl) ?_
    refine lv_iload_n hx hb dX12_setsWay_19 rfl (lv_at hl 0 rfl) ?_
    refine z_Vi (bc := [[zO11 mo m_all m_has i_size i_next i_where i_token i_number i_word i_wrong i_farCrossing m_read i_z0 i_crossings i_inns m_posts m_shut m_here i_steps i_done i_at i_gone m_was m_came m_seenAt m_rowWorth m_farBy m_used i_everywhere i_again0 i_d0 i_never i_firstCame i_longRun i_moved i_crowd i_l0 i_fitMany i_fitLeast i_fitMost m_fitPost m_fitEnd m_keptPosts i_x0], [zAr T 0 m_all 3952 f_all]]) (br := [[zAr T 0 m_posts 7 xp]]) (As := [.int c9]) (rest := [.int c9, .ref m_posts]) C G (c_m_isFree l T mo m_all m_has i_size i_next i_where i_token i_number i_word i_wrong i_farCrossing m_read i_z0 i_crossings i_inns m_posts m_shut m_here i_steps i_done i_at i_gone m_was m_came m_seenAt m_rowWorth m_farBy m_used i_everywhere i_again0 i_d0 i_never i_firstCame i_longRun i_moved i_crowd i_l0 i_fitMany i_fitLeast i_fitMost m_fitPost m_fitEnd m_keptPosts i_x0 f_all c9 (by first | with_reducible assumption | with_reducible rfl | omega | assumption | rfl | decide) (by first | with_reducible assumption | with_reducible rfl | omega | assumption | rfl | decide) (by first | with_reducible assumption | with_reducible rfl | omega | assumption | rfl | decide)) (kV_RX12_223 C.2.2.2.2 (Nat.le_of_ble_eq_true rfl) (Nat.le_of_ble_eq_true rfl)) [0, 1] [0, 0] rfl rfl (ci := 11) (qc := (RX12, TX12, 43)) rfl rfl (List.mem_flatten.mpr ⟨_, List.mem_of_getElem? (i := 0) rfl, List.mem_cons_self⟩) rfl rfl hl.1 dX12_setsWay_20 (Nat.le_of_ble_eq_true rfl) (Nat.le_of_ble_eq_true rfl) (fun r_4 b1 H locs hw G => ?_)
    refine zAn2 hw ?_
    intro hbs9 hc_3
    clear hw
    subst hbs9
    have G : zS T A s.heap s [[zAr T 0 m_posts 7 xp], [zO11 mo m_all m_has i_size i_next i_where i_token i_number i_word i_wrong i_farCrossing m_read i_z0 i_crossings i_inns m_posts m_shut m_here i_steps i_done i_at i_gone m_was m_came m_seenAt m_rowWorth m_farBy m_used i_everywhere i_again0 i_d0 i_never i_firstCame i_longRun i_moved i_crowd i_l0 i_fitMany i_fitLeast i_fitMost m_fitPost m_fitEnd m_keptPosts i_x0], [zAr T 0 m_all 3952 f_all]] _ _ := G
    rcases hc_3 with ⟨rfl, h_5, h_6⟩ | ⟨rfl, h_7⟩
    · have h_5 : ¬ zInn i_inns c9 := h_5
      have h_6 : 0 < (zRd f_all i_z0 c9).toInt := h_6
      refine lv_if_eq (tgt := 36) hx hb dX12_setsWay_23 (by decide) (fun q => absurd q (by decide)) (fun _ => ?_)
      refine lv_iload_n hx hb dX12_setsWay_26 rfl (lv_at hl 1 rfl) ?_
      refine lv_aload_n hx hb dX12_setsWay_27 rfl (lv_at hl 2 rfl) ?_
      refine lv_iload_n hx hb dX12_setsWay_28 rfl (lv_at hl 0 rfl) ?_
      refine z_Vi (bc := [[zO11 mo m_all m_has i_size i_next i_where i_token i_number i_word i_wrong i_farCrossing m_read i_z0 i_crossings i_inns m_posts m_shut m_here i_steps i_done i_at i_gone m_was m_came m_seenAt m_rowWorth m_farBy m_used i_everywhere i_again0 i_d0 i_never i_firstCame i_longRun i_moved i_crowd i_l0 i_fitMany i_fitLeast i_fitMost m_fitPost m_fitEnd m_keptPosts i_x0], [zAr T 0 m_all 3952 f_all]]) (br := [[zAr T 0 m_posts 7 xp]]) (As := [.int c9]) (rest := [.int lf, .int c9, .ref m_posts]) C G (c_m_roadsOf l T mo m_all m_has i_size i_next i_where i_token i_number i_word i_wrong i_farCrossing m_read i_z0 i_crossings i_inns m_posts m_shut m_here i_steps i_done i_at i_gone m_was m_came m_seenAt m_rowWorth m_farBy m_used i_everywhere i_again0 i_d0 i_never i_firstCame i_longRun i_moved i_crowd i_l0 i_fitMany i_fitLeast i_fitMost m_fitPost m_fitEnd m_keptPosts i_x0 f_all c9 (by first | with_reducible assumption | with_reducible rfl | omega | assumption | rfl | decide) (by first | with_reducible assumption | with_reducible rfl | omega | assumption | rfl | decide) (by first | with_reducible assumption | with_reducible rfl | omega | assumption | rfl | decide)) (kV_RX12_181 C.2.2.2.2 (Nat.le_of_ble_eq_true rfl) (Nat.le_of_ble_eq_true rfl)) [1, 2] [1, 0] rfl rfl (ci := 11) (qc := (RX12, TX12, 43)) rfl rfl (List.mem_flatten.mpr ⟨_, List.mem_of_getElem? (i := 0) rfl, List.mem_cons_self⟩) rfl rfl hl.1 dX12_setsWay_29 (Nat.le_of_ble_eq_true rfl) (Nat.le_of_ble_eq_true rfl) (fun r_11 b1 H locs hw G => ?_)
      refine zAn4 hw ?_
      intro hbs9 h_8 h_9 h_10
      clear hw
      subst hbs9
      have G : zS T A s.heap s [[zAr T 0 m_posts 7 xp], [zO11 mo m_all m_has i_size i_next i_where i_token i_number i_word i_wrong i_farCrossing m_read i_z0 i_crossings i_inns m_posts m_shut m_here i_steps i_done i_at i_gone m_was m_came m_seenAt m_rowWorth m_farBy m_used i_everywhere i_again0 i_d0 i_never i_firstCame i_longRun i_moved i_crowd i_l0 i_fitMany i_fitLeast i_fitMost m_fitPost m_fitEnd m_keptPosts i_x0], [zAr T 0 m_all 3952 f_all]] _ _ := G
      subst h_8
      refine lv_irem hx hb dX12_setsWay_32 (fun q => absurd (congrArg Int32.toInt q) (by show ¬ _ = (0 : Int); omega)) ?_
      refine lv_goto (tgt := 37) hx hb dX12_setsWay_33 (by decide) ?_
      have ha9 := aWo_1 (f := f_all) (z := i_z0) (n := i_inns) (c := c9) (by first | with_reducible assumption | assumption) (by first | with_reducible assumption | assumption) (by omega) (by omega)
      have hq9 := aCh_m (n := i_inns) hL (c := c9.toInt.toNat) (by omega)
      have hsw := aSw (W := (zWo f_all i_z0 i_inns)) (by omega) (by omega) (by omega) hl9 ha9.1 hq9
      have hrm := zRem (x := lf) (y := zRd f_all i_z0 c9) (by omega) (by omega)
      refine z_ist C G 0 rfl (vp_in_iff.mpr ⟨by omega, by omega⟩) dX12_setsWay_37 (fun H locs G => ?_)
      have G : zS T A s.heap s [[zAr T 0 m_posts 7 (upd xp c9.toNatClampNeg (lf - lf / (zRd f_all i_z0 c9) * (zRd f_all i_z0 c9)))], [zO11 mo m_all m_has i_size i_next i_where i_token i_number i_word i_wrong i_farCrossing m_read i_z0 i_crossings i_inns m_posts m_shut m_here i_steps i_done i_at i_gone m_was m_came m_seenAt m_rowWorth m_farBy m_used i_everywhere i_again0 i_d0 i_never i_firstCame i_longRun i_moved i_crowd i_l0 i_fitMany i_fitLeast i_fitMost m_fitPost m_fitEnd m_keptPosts i_x0], [zAr T 0 m_all 3952 f_all]] _ _ := G
      refine lv_iload_n hx hb dX12_setsWay_38 rfl (lv_at hl 1 rfl) ?_
      refine lv_aload_n hx hb dX12_setsWay_39 rfl (lv_at hl 2 rfl) ?_
      refine lv_iload_n hx hb dX12_setsWay_40 rfl (lv_at hl 0 rfl) ?_
      refine z_Vi (bc := [[zO11 mo m_all m_has i_size i_next i_where i_token i_number i_word i_wrong i_farCrossing m_read i_z0 i_crossings i_inns m_posts m_shut m_here i_steps i_done i_at i_gone m_was m_came m_seenAt m_rowWorth m_farBy m_used i_everywhere i_again0 i_d0 i_never i_firstCame i_longRun i_moved i_crowd i_l0 i_fitMany i_fitLeast i_fitMost m_fitPost m_fitEnd m_keptPosts i_x0], [zAr T 0 m_all 3952 f_all]]) (br := [[zAr T 0 m_posts 7 (upd xp c9.toNatClampNeg (lf - lf / (zRd f_all i_z0 c9) * (zRd f_all i_z0 c9)))]]) (As := [.int c9]) (rest := [.int lf]) C G (c_m_isFree l T mo m_all m_has i_size i_next i_where i_token i_number i_word i_wrong i_farCrossing m_read i_z0 i_crossings i_inns m_posts m_shut m_here i_steps i_done i_at i_gone m_was m_came m_seenAt m_rowWorth m_farBy m_used i_everywhere i_again0 i_d0 i_never i_firstCame i_longRun i_moved i_crowd i_l0 i_fitMany i_fitLeast i_fitMost m_fitPost m_fitEnd m_keptPosts i_x0 f_all c9 (by first | with_reducible assumption | with_reducible rfl | omega | assumption | rfl | decide) (by first | with_reducible assumption | with_reducible rfl | omega | assumption | rfl | decide) (by first | with_reducible assumption | with_reducible rfl | omega | assumption | rfl | decide)) (kV_RX12_223 C.2.2.2.2 (Nat.le_of_ble_eq_true rfl) (Nat.le_of_ble_eq_true rfl)) [1, 2] [1, 0] rfl rfl (ci := 11) (qc := (RX12, TX12, 43)) rfl rfl (List.mem_flatten.mpr ⟨_, List.mem_of_getElem? (i := 0) rfl, List.mem_cons_self⟩) rfl rfl hl.1 dX12_setsWay_41 (Nat.le_of_ble_eq_true rfl) (Nat.le_of_ble_eq_true rfl) (fun r_13 b1 H locs hw G => ?_)
      refine zAn2 hw ?_
      intro hbs9 hc_12
      clear hw
      subst hbs9
      have G : zS T A s.heap s [[zAr T 0 m_posts 7 (upd xp c9.toNatClampNeg (lf - lf / (zRd f_all i_z0 c9) * (zRd f_all i_z0 c9)))], [zO11 mo m_all m_has i_size i_next i_where i_token i_number i_word i_wrong i_farCrossing m_read i_z0 i_crossings i_inns m_posts m_shut m_here i_steps i_done i_at i_gone m_was m_came m_seenAt m_rowWorth m_farBy m_used i_everywhere i_again0 i_d0 i_never i_firstCame i_longRun i_moved i_crowd i_l0 i_fitMany i_fitLeast i_fitMost m_fitPost m_fitEnd m_keptPosts i_x0], [zAr T 0 m_all 3952 f_all]] _ _ := G
      rcases hc_12 with ⟨rfl, h_14, h_15⟩ | ⟨rfl, h_16⟩
      · have h_14 : ¬ zInn i_inns c9 := h_14
        have h_15 : 0 < (zRd f_all i_z0 c9).toInt := h_15
        refine lv_if_eq (tgt := 55) hx hb dX12_setsWay_44 (by decide) (fun q => absurd q (by decide)) (fun _ => ?_)
        refine lv_aload_n hx hb dX12_setsWay_47 rfl (lv_at hl 2 rfl) ?_
        refine lv_iload_n hx hb dX12_setsWay_48 rfl (lv_at hl 0 rfl) ?_
        refine z_Vi (bc := [[zO11 mo m_all m_has i_size i_next i_where i_token i_number i_word i_wrong i_farCrossing m_read i_z0 i_crossings i_inns m_posts m_shut m_here i_steps i_done i_at i_gone m_was m_came m_seenAt m_rowWorth m_farBy m_used i_everywhere i_again0 i_d0 i_never i_firstCame i_longRun i_moved i_crowd i_l0 i_fitMany i_fitLeast i_fitMost m_fitPost m_fitEnd m_keptPosts i_x0], [zAr T 0 m_all 3952 f_all]]) (br := [[zAr T 0 m_posts 7 (upd xp c9.toNatClampNeg (lf - lf / (zRd f_all i_z0 c9) * (zRd f_all i_z0 c9)))]]) (As := [.int c9]) (rest := [.int lf]) C G (c_m_roadsOf l T mo m_all m_has i_size i_next i_where i_token i_number i_word i_wrong i_farCrossing m_read i_z0 i_crossings i_inns m_posts m_shut m_here i_steps i_done i_at i_gone m_was m_came m_seenAt m_rowWorth m_farBy m_used i_everywhere i_again0 i_d0 i_never i_firstCame i_longRun i_moved i_crowd i_l0 i_fitMany i_fitLeast i_fitMost m_fitPost m_fitEnd m_keptPosts i_x0 f_all c9 (by first | with_reducible assumption | with_reducible rfl | omega | assumption | rfl | decide) (by first | with_reducible assumption | with_reducible rfl | omega | assumption | rfl | decide) (by first | with_reducible assumption | with_reducible rfl | omega | assumption | rfl | decide)) (kV_RX12_181 C.2.2.2.2 (Nat.le_of_ble_eq_true rfl) (Nat.le_of_ble_eq_true rfl)) [1, 2] [1, 0] rfl rfl (ci := 11) (qc := (RX12, TX12, 43)) rfl rfl (List.mem_flatten.mpr ⟨_, List.mem_of_getElem? (i := 0) rfl, List.mem_cons_self⟩) rfl rfl hl.1 dX12_setsWay_49 (Nat.le_of_ble_eq_true rfl) (Nat.le_of_ble_eq_true rfl) (fun r_20 b1 H locs hw G => ?_)
        refine zAn4 hw ?_
        intro hbs9 h_17 h_18 h_19
        clear hw
        subst hbs9
        have G : zS T A s.heap s [[zAr T 0 m_posts 7 (upd xp c9.toNatClampNeg (lf - lf / (zRd f_all i_z0 c9) * (zRd f_all i_z0 c9)))], [zO11 mo m_all m_has i_size i_next i_where i_token i_number i_word i_wrong i_farCrossing m_read i_z0 i_crossings i_inns m_posts m_shut m_here i_steps i_done i_at i_gone m_was m_came m_seenAt m_rowWorth m_farBy m_used i_everywhere i_again0 i_d0 i_never i_firstCame i_longRun i_moved i_crowd i_l0 i_fitMany i_fitLeast i_fitMost m_fitPost m_fitEnd m_keptPosts i_x0], [zAr T 0 m_all 3952 f_all]] _ _ := G
        subst h_17
        refine lv_goto (tgt := 56) hx hb dX12_setsWay_52 (by decide) ?_
        refine lv_idiv hx hb dX12_setsWay_56 (fun q => absurd (congrArg Int32.toInt q) (by show ¬ _ = (0 : Int); omega)) ?_
        have hb9 := aWo_1 (f := f_all) (z := i_z0) (n := i_inns) (c := c9) (by first | with_reducible assumption | assumption) (by first | with_reducible assumption | assumption) (by omega) (by omega)
        have hdv : 0 ≤ (lf / (zRd f_all i_z0 c9)).toInt := zDiv0 (by omega) (by omega)
        have hq8 := aCh_m (n := i_inns) hL (c := c9.toInt.toNat) (by omega)
        refine lv_istore_n (lv' := [(2, .int (lf / (zRd f_all i_z0 c9))), (3, .int c9), (0, .ref mo), (1, .int w_)]) hx hb dX12_setsWay_57 rfl hl (by decide) (zLvf_h rfl) (fun ls hl => ?_)
        obtain ⟨y_21, ey_21⟩ : ∃ q : Int32, q = c9 + (-1) := ⟨_, rfl⟩
        have ey_21i : y_21.toInt = c9.toInt - 1 := by rw [ey_21]; exact z_iaddI (x := c9) (y := (-1)) (by show -2147483648 ≤ c9.toInt + (-1 : Int); omega) (by show c9.toInt + (-1 : Int) < 2147483648; omega)
        refine lv_iinc (v := y_21) (lv' := [(3, .int y_21), (2, .int (lf / (zRd f_all i_z0 c9))), (0, .ref mo), (1, .int w_)]) hx hb dX12_setsWay_58 hl (k := 1) rfl ey_21.symm (by decide) (zLvf_h rfl) (fun ls hl => ?_)
        refine lv_goto (tgt := 9) hx hb dX12_setsWay_61 (by decide) ?_
        have G := G.sub (bs' := [[zO11 mo m_all m_has i_size i_next i_where i_token i_number i_word i_wrong i_farCrossing m_read i_z0 i_crossings i_inns m_posts m_shut m_here i_steps i_done i_at i_gone m_was m_came m_seenAt m_rowWorth m_farBy m_used i_everywhere i_again0 i_d0 i_never i_firstCame i_longRun i_moved i_crowd i_l0 i_fitMany i_fitLeast i_fitMost m_fitPost m_fitEnd m_keptPosts i_x0], [zAr T 0 m_all 3952 f_all], [zAr T 0 m_posts 7 (upd xp c9.toNatClampNeg (lf - lf / (zRd f_all i_z0 c9) * (zRd f_all i_z0 c9)))]]) [1, 2, 0] rfl
        exact ih_9 y_21 (lf / (zRd f_all i_z0 c9)) (upd xp c9.toNatClampNeg (lf - lf / (zRd f_all i_z0 c9) * (zRd f_all i_z0 c9))) (show -1 ≤ y_21.toInt ∧ y_21.toInt ≤ 6 ∧ 0 ≤ (lf / (zRd f_all i_z0 c9)).toInt ∧ zMP (upd xp c9.toNatClampNeg (lf - lf / (zRd f_all i_z0 c9) * (zRd f_all i_z0 c9))) ∧ y_21.toInt < i_crossings.toInt ∧ (lf / (zRd f_all i_z0 c9)) = nI (w_.toInt.toNat / aPr (zWo f_all i_z0 i_inns) (6 - y_21.toInt).toNat) ∧ zMVp (zRo f_all i_z0) (upd xp c9.toNatClampNeg (lf - lf / (zRd f_all i_z0 c9) * (zRd f_all i_z0 c9))) y_21.toInt ∧ zPwp (zWo f_all i_z0 i_inns) w_.toInt.toNat (upd xp c9.toNatClampNeg (lf - lf / (zRd f_all i_z0 c9) * (zRd f_all i_z0 c9))) y_21.toInt i_crossings.toInt from ⟨by omega, by omega, by omega, (zMP_upd hQ (by omega)), by omega, (by rw [show (6 - (y_21).toInt).toNat = (7 - c9.toInt).toNat by omega]; exact (aSw (W := (zWo f_all i_z0 i_inns)) (by omega) (by omega) (by omega) hl9 hb9.1 hq8).2), (zMVp_u hM9 (by omega) (by omega) (Or.inr (show (lf - lf / (zRd f_all i_z0 c9) * (zRd f_all i_z0 c9)).toInt < (zRd f_all i_z0 c9).toInt from by omega))), (zPwp_u hd9 (by omega) (by omega) hsw.1)⟩) (show (y_21.toInt + 1).toNat < (c9.toInt + 1).toNat from by omega) _ _ ls G (lv_sub hl [0, 1, 2, 3] rfl)
      · have h_16 : (zInn i_inns c9 ∨ (zRd f_all i_z0 c9).toInt ≤ 0) := h_16
        refine lv_if_eq (tgt := 55) hx hb dX12_setsWay_44 (by decide) (fun _ => ?_) (fun q => absurd (by decide) q)
        refine lv_iconst (v := 1) hx hb dX12_setsWay_55 (by decide) ?_
        refine lv_idiv hx hb dX12_setsWay_56 (by decide) ?_
        have hb9 := aWo_0 (f := f_all) (z := i_z0) (n := i_inns) (c := c9) (by first | with_reducible assumption | assumption) (by omega) (by omega)
        have hdv : 0 ≤ (lf / 1).toInt := zDiv0 (by omega) (by decide)
        have hq8 := aCh_m (n := i_inns) hL (c := c9.toInt.toNat) (by omega)
        refine lv_istore_n (lv' := [(2, .int (lf / 1)), (3, .int c9), (0, .ref mo), (1, .int w_)]) hx hb dX12_setsWay_57 rfl hl (by decide) (zLvf_h rfl) (fun ls hl => ?_)
        obtain ⟨y_22, ey_22⟩ : ∃ q : Int32, q = c9 + (-1) := ⟨_, rfl⟩
        have ey_22i : y_22.toInt = c9.toInt - 1 := by rw [ey_22]; exact z_iaddI (x := c9) (y := (-1)) (by show -2147483648 ≤ c9.toInt + (-1 : Int); omega) (by show c9.toInt + (-1 : Int) < 2147483648; omega)
        refine lv_iinc (v := y_22) (lv' := [(3, .int y_22), (2, .int (lf / 1)), (0, .ref mo), (1, .int w_)]) hx hb dX12_setsWay_58 hl (k := 1) rfl ey_22.symm (by decide) (zLvf_h rfl) (fun ls hl => ?_)
        refine lv_goto (tgt := 9) hx hb dX12_setsWay_61 (by decide) ?_
        have G := G.sub (bs' := [[zO11 mo m_all m_has i_size i_next i_where i_token i_number i_word i_wrong i_farCrossing m_read i_z0 i_crossings i_inns m_posts m_shut m_here i_steps i_done i_at i_gone m_was m_came m_seenAt m_rowWorth m_farBy m_used i_everywhere i_again0 i_d0 i_never i_firstCame i_longRun i_moved i_crowd i_l0 i_fitMany i_fitLeast i_fitMost m_fitPost m_fitEnd m_keptPosts i_x0], [zAr T 0 m_all 3952 f_all], [zAr T 0 m_posts 7 (upd xp c9.toNatClampNeg (lf - lf / (zRd f_all i_z0 c9) * (zRd f_all i_z0 c9)))]]) [1, 2, 0] rfl
        exact ih_9 y_22 (lf / 1) (upd xp c9.toNatClampNeg (lf - lf / (zRd f_all i_z0 c9) * (zRd f_all i_z0 c9))) (show -1 ≤ y_22.toInt ∧ y_22.toInt ≤ 6 ∧ 0 ≤ (lf / 1).toInt ∧ zMP (upd xp c9.toNatClampNeg (lf - lf / (zRd f_all i_z0 c9) * (zRd f_all i_z0 c9))) ∧ y_22.toInt < i_crossings.toInt ∧ (lf / 1) = nI (w_.toInt.toNat / aPr (zWo f_all i_z0 i_inns) (6 - y_22.toInt).toNat) ∧ zMVp (zRo f_all i_z0) (upd xp c9.toNatClampNeg (lf - lf / (zRd f_all i_z0 c9) * (zRd f_all i_z0 c9))) y_22.toInt ∧ zPwp (zWo f_all i_z0 i_inns) w_.toInt.toNat (upd xp c9.toNatClampNeg (lf - lf / (zRd f_all i_z0 c9) * (zRd f_all i_z0 c9))) y_22.toInt i_crossings.toInt from ⟨by omega, by omega, by omega, (zMP_upd hQ (by omega)), by omega, (by rw [show (6 - (y_22).toInt).toNat = (7 - c9.toInt).toNat by omega]; exact (aSw (W := (zWo f_all i_z0 i_inns)) (by omega) (by omega) (by omega) hl9 (congrArg nI hb9.2).symm hq8).2), (zMVp_u hM9 (by omega) (by omega) (Or.inr (show (lf - lf / (zRd f_all i_z0 c9) * (zRd f_all i_z0 c9)).toInt < (zRd f_all i_z0 c9).toInt from by omega))), (zPwp_u hd9 (by omega) (by omega) hsw.1)⟩) (show (y_22.toInt + 1).toNat < (c9.toInt + 1).toNat from by omega) _ _ ls G (lv_sub hl [0, 1, 2, 3] rfl)
    · have h_7 : (zInn i_inns c9 ∨ (zRd f_all i_z0 c9).toInt ≤ 0) := h_7
      refine lv_if_eq (tgt := 36) hx hb dX12_setsWay_23 (by decide) (fun _ => ?_) (fun q => absurd (by decide) q)
      refine lv_iconst (v := 0) hx hb dX12_setsWay_36 (by decide) ?_
      have ha9 := aWo_0 (f := f_all) (z := i_z0) (n := i_inns) (c := c9) (by first | with_reducible assumption | assumption) (by omega) (by omega)
      have hq9 := aCh_m (n := i_inns) hL (c := c9.toInt.toNat) (by omega)
      refine z_ist C G 0 rfl (vp_in_iff.mpr ⟨by omega, by omega⟩) dX12_setsWay_37 (fun H locs G => ?_)
      have G : zS T A s.heap s [[zAr T 0 m_posts 7 (upd xp c9.toNatClampNeg 0)], [zO11 mo m_all m_has i_size i_next i_where i_token i_number i_word i_wrong i_farCrossing m_read i_z0 i_crossings i_inns m_posts m_shut m_here i_steps i_done i_at i_gone m_was m_came m_seenAt m_rowWorth m_farBy m_used i_everywhere i_again0 i_d0 i_never i_firstCame i_longRun i_moved i_crowd i_l0 i_fitMany i_fitLeast i_fitMost m_fitPost m_fitEnd m_keptPosts i_x0], [zAr T 0 m_all 3952 f_all]] _ _ := G
      refine lv_iload_n hx hb dX12_setsWay_38 rfl (lv_at hl 1 rfl) ?_
      refine lv_aload_n hx hb dX12_setsWay_39 rfl (lv_at hl 2 rfl) ?_
      refine lv_iload_n hx hb dX12_setsWay_40 rfl (lv_at hl 0 rfl) ?_
      refine z_Vi (bc := [[zO11 mo m_all m_has i_size i_next i_where i_token i_number i_word i_wrong i_farCrossing m_read i_z0 i_crossings i_inns m_posts m_shut m_here i_steps i_done i_at i_gone m_was m_came m_seenAt m_rowWorth m_farBy m_used i_everywhere i_again0 i_d0 i_never i_firstCame i_longRun i_moved i_crowd i_l0 i_fitMany i_fitLeast i_fitMost m_fitPost m_fitEnd m_keptPosts i_x0], [zAr T 0 m_all 3952 f_all]]) (br := [[zAr T 0 m_posts 7 (upd xp c9.toNatClampNeg 0)]]) (As := [.int c9]) (rest := [.int lf]) C G (c_m_isFree l T mo m_all m_has i_size i_next i_where i_token i_number i_word i_wrong i_farCrossing m_read i_z0 i_crossings i_inns m_posts m_shut m_here i_steps i_done i_at i_gone m_was m_came m_seenAt m_rowWorth m_farBy m_used i_everywhere i_again0 i_d0 i_never i_firstCame i_longRun i_moved i_crowd i_l0 i_fitMany i_fitLeast i_fitMost m_fitPost m_fitEnd m_keptPosts i_x0 f_all c9 (by first | with_reducible assumption | with_reducible rfl | omega | assumption | rfl | decide) (by first | with_reducible assumption | with_reducible rfl | omega | assumption | rfl | decide) (by first | with_reducible assumption | with_reducible rfl | omega | assumption | rfl | decide)) (kV_RX12_223 C.2.2.2.2 (Nat.le_of_ble_eq_true rfl) (Nat.le_of_ble_eq_true rfl)) [1, 2] [1, 0] rfl rfl (ci := 11) (qc := (RX12, TX12, 43)) rfl rfl (List.mem_flatten.mpr ⟨_, List.mem_of_getElem? (i := 0) rfl, List.mem_cons_self⟩) rfl rfl hl.1 dX12_setsWay_41 (Nat.le_of_ble_eq_true rfl) (Nat.le_of_ble_eq_true rfl) (fun r_24 b1 H locs hw G => ?_)
      refine zAn2 hw ?_
      intro hbs9 hc_23
      clear hw
      subst hbs9
      have G : zS T A s.heap s [[zAr T 0 m_posts 7 (upd xp c9.toNatClampNeg 0)], [zO11 mo m_all m_has i_size i_next i_where i_token i_number i_word i_wrong i_farCrossing m_read i_z0 i_crossings i_inns m_posts m_shut m_here i_steps i_done i_at i_gone m_was m_came m_seenAt m_rowWorth m_farBy m_used i_everywhere i_again0 i_d0 i_never i_firstCame i_longRun i_moved i_crowd i_l0 i_fitMany i_fitLeast i_fitMost m_fitPost m_fitEnd m_keptPosts i_x0], [zAr T 0 m_all 3952 f_all]] _ _ := G
      rcases hc_23 with ⟨rfl, h_25, h_26⟩ | ⟨rfl, h_27⟩
      · have h_25 : ¬ zInn i_inns c9 := h_25
        have h_26 : 0 < (zRd f_all i_z0 c9).toInt := h_26
        refine lv_if_eq (tgt := 55) hx hb dX12_setsWay_44 (by decide) (fun q => absurd q (by decide)) (fun _ => ?_)
        refine lv_aload_n hx hb dX12_setsWay_47 rfl (lv_at hl 2 rfl) ?_
        refine lv_iload_n hx hb dX12_setsWay_48 rfl (lv_at hl 0 rfl) ?_
        refine z_Vi (bc := [[zO11 mo m_all m_has i_size i_next i_where i_token i_number i_word i_wrong i_farCrossing m_read i_z0 i_crossings i_inns m_posts m_shut m_here i_steps i_done i_at i_gone m_was m_came m_seenAt m_rowWorth m_farBy m_used i_everywhere i_again0 i_d0 i_never i_firstCame i_longRun i_moved i_crowd i_l0 i_fitMany i_fitLeast i_fitMost m_fitPost m_fitEnd m_keptPosts i_x0], [zAr T 0 m_all 3952 f_all]]) (br := [[zAr T 0 m_posts 7 (upd xp c9.toNatClampNeg 0)]]) (As := [.int c9]) (rest := [.int lf]) C G (c_m_roadsOf l T mo m_all m_has i_size i_next i_where i_token i_number i_word i_wrong i_farCrossing m_read i_z0 i_crossings i_inns m_posts m_shut m_here i_steps i_done i_at i_gone m_was m_came m_seenAt m_rowWorth m_farBy m_used i_everywhere i_again0 i_d0 i_never i_firstCame i_longRun i_moved i_crowd i_l0 i_fitMany i_fitLeast i_fitMost m_fitPost m_fitEnd m_keptPosts i_x0 f_all c9 (by first | with_reducible assumption | with_reducible rfl | omega | assumption | rfl | decide) (by first | with_reducible assumption | with_reducible rfl | omega | assumption | rfl | decide) (by first | with_reducible assumption | with_reducible rfl | omega | assumption | rfl | decide)) (kV_RX12_181 C.2.2.2.2 (Nat.le_of_ble_eq_true rfl) (Nat.le_of_ble_eq_true rfl)) [1, 2] [1, 0] rfl rfl (ci := 11) (qc := (RX12, TX12, 43)) rfl rfl (List.mem_flatten.mpr ⟨_, List.mem_of_getElem? (i := 0) rfl, List.mem_cons_self⟩) rfl rfl hl.1 dX12_setsWay_49 (Nat.le_of_ble_eq_true rfl) (Nat.le_of_ble_eq_true rfl) (fun r_31 b1 H locs hw G => ?_)
        refine zAn4 hw ?_
        intro hbs9 h_28 h_29 h_30
        clear hw
        subst hbs9
        have G : zS T A s.heap s [[zAr T 0 m_posts 7 (upd xp c9.toNatClampNeg 0)], [zO11 mo m_all m_has i_size i_next i_where i_token i_number i_word i_wrong i_farCrossing m_read i_z0 i_crossings i_inns m_posts m_shut m_here i_steps i_done i_at i_gone m_was m_came m_seenAt m_rowWorth m_farBy m_used i_everywhere i_again0 i_d0 i_never i_firstCame i_longRun i_moved i_crowd i_l0 i_fitMany i_fitLeast i_fitMost m_fitPost m_fitEnd m_keptPosts i_x0], [zAr T 0 m_all 3952 f_all]] _ _ := G
        subst h_28
        refine lv_goto (tgt := 56) hx hb dX12_setsWay_52 (by decide) ?_
        refine lv_idiv hx hb dX12_setsWay_56 (fun q => absurd (congrArg Int32.toInt q) (by show ¬ _ = (0 : Int); omega)) ?_
        have hb9 := aWo_1 (f := f_all) (z := i_z0) (n := i_inns) (c := c9) (by first | with_reducible assumption | assumption) (by first | with_reducible assumption | assumption) (by omega) (by omega)
        have hdv : 0 ≤ (lf / (zRd f_all i_z0 c9)).toInt := zDiv0 (by omega) (by omega)
        have hq8 := aCh_m (n := i_inns) hL (c := c9.toInt.toNat) (by omega)
        refine lv_istore_n (lv' := [(2, .int (lf / (zRd f_all i_z0 c9))), (3, .int c9), (0, .ref mo), (1, .int w_)]) hx hb dX12_setsWay_57 rfl hl (by decide) (zLvf_h rfl) (fun ls hl => ?_)
        obtain ⟨y_32, ey_32⟩ : ∃ q : Int32, q = c9 + (-1) := ⟨_, rfl⟩
        have ey_32i : y_32.toInt = c9.toInt - 1 := by rw [ey_32]; exact z_iaddI (x := c9) (y := (-1)) (by show -2147483648 ≤ c9.toInt + (-1 : Int); omega) (by show c9.toInt + (-1 : Int) < 2147483648; omega)
        refine lv_iinc (v := y_32) (lv' := [(3, .int y_32), (2, .int (lf / (zRd f_all i_z0 c9))), (0, .ref mo), (1, .int w_)]) hx hb dX12_setsWay_58 hl (k := 1) rfl ey_32.symm (by decide) (zLvf_h rfl) (fun ls hl => ?_)
        refine lv_goto (tgt := 9) hx hb dX12_setsWay_61 (by decide) ?_
        have G := G.sub (bs' := [[zO11 mo m_all m_has i_size i_next i_where i_token i_number i_word i_wrong i_farCrossing m_read i_z0 i_crossings i_inns m_posts m_shut m_here i_steps i_done i_at i_gone m_was m_came m_seenAt m_rowWorth m_farBy m_used i_everywhere i_again0 i_d0 i_never i_firstCame i_longRun i_moved i_crowd i_l0 i_fitMany i_fitLeast i_fitMost m_fitPost m_fitEnd m_keptPosts i_x0], [zAr T 0 m_all 3952 f_all], [zAr T 0 m_posts 7 (upd xp c9.toNatClampNeg 0)]]) [1, 2, 0] rfl
        exact ih_9 y_32 (lf / (zRd f_all i_z0 c9)) (upd xp c9.toNatClampNeg 0) (show -1 ≤ y_32.toInt ∧ y_32.toInt ≤ 6 ∧ 0 ≤ (lf / (zRd f_all i_z0 c9)).toInt ∧ zMP (upd xp c9.toNatClampNeg 0) ∧ y_32.toInt < i_crossings.toInt ∧ (lf / (zRd f_all i_z0 c9)) = nI (w_.toInt.toNat / aPr (zWo f_all i_z0 i_inns) (6 - y_32.toInt).toNat) ∧ zMVp (zRo f_all i_z0) (upd xp c9.toNatClampNeg 0) y_32.toInt ∧ zPwp (zWo f_all i_z0 i_inns) w_.toInt.toNat (upd xp c9.toNatClampNeg 0) y_32.toInt i_crossings.toInt from ⟨by omega, by omega, by omega, (zMP_upd hQ (by decide)), by omega, (by rw [show (6 - (y_32).toInt).toNat = (7 - c9.toInt).toNat by omega]; exact (aSw (W := (zWo f_all i_z0 i_inns)) (by omega) (by omega) (by omega) hl9 hb9.1 hq8).2), (zMVp_u hM9 (by omega) (by omega) (Or.inl rfl)), (zPwp_u hd9 (by omega) (by omega) (aPo_1 ha9.2))⟩) (show (y_32.toInt + 1).toNat < (c9.toInt + 1).toNat from by omega) _ _ ls G (lv_sub hl [0, 1, 2, 3] rfl)
      · have h_27 : (zInn i_inns c9 ∨ (zRd f_all i_z0 c9).toInt ≤ 0) := h_27
        refine lv_if_eq (tgt := 55) hx hb dX12_setsWay_44 (by decide) (fun _ => ?_) (fun q => absurd (by decide) q)
        refine lv_iconst (v := 1) hx hb dX12_setsWay_55 (by decide) ?_
        refine lv_idiv hx hb dX12_setsWay_56 (by decide) ?_
        have hb9 := aWo_0 (f := f_all) (z := i_z0) (n := i_inns) (c := c9) (by first | with_reducible assumption | assumption) (by omega) (by omega)
        have hdv : 0 ≤ (lf / 1).toInt := zDiv0 (by omega) (by decide)
        have hq8 := aCh_m (n := i_inns) hL (c := c9.toInt.toNat) (by omega)
        refine lv_istore_n (lv' := [(2, .int (lf / 1)), (3, .int c9), (0, .ref mo), (1, .int w_)]) hx hb dX12_setsWay_57 rfl hl (by decide) (zLvf_h rfl) (fun ls hl => ?_)
        obtain ⟨y_33, ey_33⟩ : ∃ q : Int32, q = c9 + (-1) := ⟨_, rfl⟩
        have ey_33i : y_33.toInt = c9.toInt - 1 := by rw [ey_33]; exact z_iaddI (x := c9) (y := (-1)) (by show -2147483648 ≤ c9.toInt + (-1 : Int); omega) (by show c9.toInt + (-1 : Int) < 2147483648; omega)
        refine lv_iinc (v := y_33) (lv' := [(3, .int y_33), (2, .int (lf / 1)), (0, .ref mo), (1, .int w_)]) hx hb dX12_setsWay_58 hl (k := 1) rfl ey_33.symm (by decide) (zLvf_h rfl) (fun ls hl => ?_)
        refine lv_goto (tgt := 9) hx hb dX12_setsWay_61 (by decide) ?_
        have G := G.sub (bs' := [[zO11 mo m_all m_has i_size i_next i_where i_token i_number i_word i_wrong i_farCrossing m_read i_z0 i_crossings i_inns m_posts m_shut m_here i_steps i_done i_at i_gone m_was m_came m_seenAt m_rowWorth m_farBy m_used i_everywhere i_again0 i_d0 i_never i_firstCame i_longRun i_moved i_crowd i_l0 i_fitMany i_fitLeast i_fitMost m_fitPost m_fitEnd m_keptPosts i_x0], [zAr T 0 m_all 3952 f_all], [zAr T 0 m_posts 7 (upd xp c9.toNatClampNeg 0)]]) [1, 2, 0] rfl
        exact ih_9 y_33 (lf / 1) (upd xp c9.toNatClampNeg 0) (show -1 ≤ y_33.toInt ∧ y_33.toInt ≤ 6 ∧ 0 ≤ (lf / 1).toInt ∧ zMP (upd xp c9.toNatClampNeg 0) ∧ y_33.toInt < i_crossings.toInt ∧ (lf / 1) = nI (w_.toInt.toNat / aPr (zWo f_all i_z0 i_inns) (6 - y_33.toInt).toNat) ∧ zMVp (zRo f_all i_z0) (upd xp c9.toNatClampNeg 0) y_33.toInt ∧ zPwp (zWo f_all i_z0 i_inns) w_.toInt.toNat (upd xp c9.toNatClampNeg 0) y_33.toInt i_crossings.toInt from ⟨by omega, by omega, by omega, (zMP_upd hQ (by decide)), by omega, (by rw [show (6 - (y_33).toInt).toNat = (7 - c9.toInt).toNat by omega]; exact (aSw (W := (zWo f_all i_z0 i_inns)) (by omega) (by omega) (by omega) hl9 (congrArg nI hb9.2).symm hq8).2), (zMVp_u hM9 (by omega) (by omega) (Or.inl rfl)), (zPwp_u hd9 (by omega) (by omega) (aPo_1 ha9.2))⟩) (show (y_33.toInt + 1).toNat < (c9.toInt + 1).toNat from by omega) _ _ ls G (lv_sub hl [0, 1, 2, 3] rfl)
def rCn (p : Nat → Bool) : Nat → Nat
  | 0 => 0
  | n + 1 => rCn p n + if p n = true then 1 else 0
theorem rCn_cg {p q : Nat → Bool} : ∀ n, (∀ w, w < n → p w = q w) → rCn p n = rCn q n
  | 0, _ => rfl
  | n + 1, h => by
    unfold rCn
    rw [rCn_cg n (fun w hw => h w (by omega)), h n (by omega)]
def rAll (p : Nat → Bool) : Nat → Bool
  | 0 => true
  | n + 1 => rAll p n && p n
theorem rAll_y {p : Nat → Bool} : ∀ n, rAll p n = true ↔ ∀ w, w < n → p w = true
  | 0 => ⟨fun _ w h => absurd h (by omega), fun _ => rfl⟩
  | n + 1 => by
    show (rAll p n && p n) = true ↔ _
    rw [Bool.and_eq_true, rAll_y n]
    constructor
    · rintro ⟨a, b⟩ w hw
      by_cases e : w = n
      · rw [e]; exact b
      · exact a w (by omega)
    · intro a
      exact ⟨fun w hw => a w (by omega), a n (by omega)⟩
theorem rAll_cg {p q : Nat → Bool} : ∀ n, (∀ w, w < n → p w = q w) → rAll p n = rAll q n
  | 0, _ => rfl
  | n + 1, h => by
    unfold rAll
    rw [rAll_cg n (fun w hw => h w (by omega)), h n (by omega)]
theorem kaOk {cr inn : Int32} {k1 k2 k3 : Nat → Int32} (hI : zLI cr k1 k3) (hq : zLq cr k1 k2) : aOk (aW cr inn k1) k2 ∧ ∀ j r : Nat, j < 7 → r < 4 → (r : Int) < (aW cr inn k1 j).toInt → 0 ≤ (k2 (4 * j + r)).toInt ∧ (k2 (4 * j + r)).toInt < ((cr.toInt.toNat : Nat) : Int) := by
  have h7 := hI.1
  have z0 : (0 : Int32).toInt = 0 := rfl
  have key : ∀ j r : Nat, j < 7 → r < 4 → (r : Int) < (aW cr inn k1 j).toInt → 0 ≤ (k2 (4 * j + r)).toInt ∧ (k2 (4 * j + r)).toInt < ((cr.toInt.toNat : Nat) : Int) := by
    intro j r hj hr h
    have h : (r : Int) < (zWays cr inn k1 (nI j)).toInt := h
    have n0 : ¬ zWays cr inn k1 (nI j) = 0 := fun q => by rw [q, z0] at h; omega
    obtain ⟨_, _, _, _, c4⟩ := zWays_in n0
    have kc := nI_clamp (n := j) (by omega)
    rw [c4, kc] at h
    have t := hq j r hj hr h
    omega
  exact ⟨⟨fun j r hj hr h => by have q := key j r hj hr h; omega, fun j hj => zWays_le (inn := inn) hI (nI j), aPr_7 hI⟩, key⟩
set_option maxHeartbeats 4000000 in
set_option maxRecDepth 100000 in
/-- c_f_waysInA -/
theorem c_f_waysInA (l : Launch) (T : zTy) (xo : Nat) (t : Nat) (im : Nat) (mk : Nat) (rd : Nat) (po : Nat) (co : Nat) (tr : Nat) (wa : Nat) (wb_ : Nat) (fi : Nat) (cd : Nat) (i1 : Int32) (laA : Nat) (mdA : Int32) (wyA : Int32) (pc_A : Int32) (f1A : Nat → Int32) (f2A : Nat → Int32) (f3A : Nat → Int32) (f4A : Nat → Int32) (f5A : Nat → Int32) (f6A : Nat → Int32) (n4A : Nat) (wwA : va_W) (o : Nat) (cr : Int32) (inn : Int32) (k1 : Nat → Int32) (k2 : Nat → Int32) (k3 : Nat → Int32) (k4 : Nat → Int32) (z : va_W) (hwwA : bWays T wa laA mdA wyA pc_A f1A f2A f3A f4A f5A f6A n4A wwA) (hz : bLand T o cr inn k1 k2 k3 k4 z) (hI : zLI cr k1 k3) (hpw : zPw n4A) (hmd : mdA = 0 ∨ laA = o) (hO : aOk (aW cr inn k1) k2) (hTb : mdA = 0 ∨ zTab cr inn k1 k2 wyA pc_A f1A f2A f5A n4A) (hi1 : i1.toInt = 0) : zMq l T yX11_waysIn cX11_waysIn 4 (some (.object "TurnedPosts$AllWays")) 6 3 (6 * (zMk mdA n4A (zPl cr inn k1) - n4A)) [.ref xo, .int i1, .ref o] [[zO10 xo t im mk rd po co tr wa wb_ fi cd], wwA, z] (fun (r : Option Nat) bs => ∃ (w2 : va_W) (m2 : Int32) (wy2 : Int32) (pc2 : Int32) (g1 : Nat → Int32) (g2 : Nat → Int32) (g4 : Nat → Int32) (g5 : Nat → Int32) (g6 : Nat → Int32), bs = [[zO10 xo t im mk rd po co tr wa wb_ fi cd], w2, z] ∧ r = some wa ∧ bWays T wa o m2 wy2 pc2 g1 g2 f3A g4 g5 g6 (zMk mdA n4A (zPl cr inn k1)) w2 ∧ wy2 = zWy cr inn k1 ∧ ¬ m2 = 0 ∧ zTab cr inn k1 k2 wy2 pc2 g1 g2 g5 (zMk mdA n4A (zPl cr inn k1))) := by
  refine zMq_of (own := RX11) (by decide) rfl (Nat.le_of_ble_eq_true rfl) ?_
  intro p e s m args below meth c A ls C hr hlocks hnm hAe G hl
  refine zHide (fun Qz_ hQz_ => ?_)
  have hx := C.1
  have hb := C.2.1
  replace hmd : zHd (mdA = 0 ∨ laA = o) := hmd
  replace hTb : zHd (mdA = 0 ∨ zTab cr inn k1 k2 wyA pc_A f1A f2A f5A n4A) := hTb
  have hl : lv_has ls 4 [(0, .ref xo), (1, .int i1), (2, .ref o)] := hl
  refine lv_iload_n hx hb dX11_waysIn_0 rfl (lv_at hl 1 rfl) ?_
  refine lv_if_ne (tgt := 11) hx hb dX11_waysIn_1 (by decide) (fun q => absurd ((fa_eq i1 (0 : Int32)).mpr (by show i1.toInt = (0 : Int); omega)) q) (fun _ => ?_)
  refine lv_aload_n hx hb dX11_waysIn_4 rfl (lv_at hl 0 rfl) ?_
  refine z_get C G clX11 0 rfl 7 (by decide) m_fl_RX11_55 rfl dX11_waysIn_5 ?_
  refine lv_goto (tgt := 15) hx hb dX11_waysIn_8 (by decide) ?_
  refine lv_astore_n (lv' := [(3, .ref wa), (0, .ref xo), (1, .int i1), (2, .ref o)]) hx hb dX11_waysIn_15 rfl hl (by decide) (zLvf_h rfl) (fun ls hl => ?_)
  refine lv_aload_n hx hb dX11_waysIn_16 rfl (lv_at hl 0 rfl) ?_
  refine lv_aload_n hx hb dX11_waysIn_17 rfl (lv_at hl 3 rfl) ?_
  refine z_Vv (bc := [wwA, z]) (br := [[zO10 xo t im mk rd po co tr wa wb_ fi cd]]) (As := [.ref o]) (rest := []) C G (c_f_make l T wa laA mdA wyA pc_A f1A f2A f3A f4A f5A f6A n4A wwA o cr inn k1 k2 k3 k4 z hwwA hz (by first | with_reducible assumption | with_reducible rfl | omega | assumption | rfl) hO hpw hmd hTb) (kV_RX11_232 C.2.2.2.2 (Nat.le_of_ble_eq_true rfl) (Nat.le_of_ble_eq_true rfl)) [1, 2] [1, 0] rfl rfl (ci := 0) (qc := (RX0, TX0, 10)) rfl rfl (List.mem_flatten.mpr ⟨_, List.mem_of_getElem? (i := 0) rfl, (bWays_mem hwwA).choose_spec⟩) rfl rfl hl.1 dX11_waysIn_18 (Nat.le_of_ble_eq_true rfl) (by show _ + (6 * (zMk mdA n4A (zPl cr inn k1) - n4A)) ≤ 6 * (zMk mdA n4A (zPl cr inn k1) - n4A); omega) (fun b1 H locs hw G => ?_)
  refine zEx8 hw ?_
  intro w2_1 m2_2 pc2_3 g1_4 g2_5 g4_6 g5_7 g6_8
  refine zCu4 ?_
  intro hbs9 h_9 h_10 h_11
  clear hw
  subst hbs9
  have G : zS T A s.heap s [[zO10 xo t im mk rd po co tr wa wb_ fi cd], w2_1, z] _ _ := G
  refine lv_aload_n hx hb dX11_waysIn_21 rfl (lv_at hl 0 rfl) ?_
  exact z_back hQz_ (z_aret (r := (some wa)) C hr (Or.inl ⟨_, rfl⟩) hlocks G (Nat.le_of_ble_eq_true rfl) (by omega) dX11_waysIn_22 ⟨w2_1, m2_2, (zWy cr inn k1), pc2_3, g1_4, g2_5, g4_6, g5_7, g6_8, rfl, rfl, h_9, rfl, h_10, h_11⟩)
set_option maxHeartbeats 4000000 in
set_option maxRecDepth 100000 in
/-- c_f_waysInB -/
theorem c_f_waysInB (l : Launch) (T : zTy) (xo : Nat) (t : Nat) (im : Nat) (mk : Nat) (rd : Nat) (po : Nat) (co : Nat) (tr : Nat) (wa : Nat) (wb_ : Nat) (fi : Nat) (cd : Nat) (i1 : Int32) (laB : Nat) (mdB : Int32) (wyB : Int32) (pc_B : Int32) (f1B : Nat → Int32) (f2B : Nat → Int32) (f3B : Nat → Int32) (f4B : Nat → Int32) (f5B : Nat → Int32) (f6B : Nat → Int32) (n4B : Nat) (wwB : va_W) (o : Nat) (cr : Int32) (inn : Int32) (k1 : Nat → Int32) (k2 : Nat → Int32) (k3 : Nat → Int32) (k4 : Nat → Int32) (z : va_W) (hwwB : bWays T wb_ laB mdB wyB pc_B f1B f2B f3B f4B f5B f6B n4B wwB) (hz : bLand T o cr inn k1 k2 k3 k4 z) (hI : zLI cr k1 k3) (hpw : zPw n4B) (hmd : mdB = 0 ∨ laB = o) (hO : aOk (aW cr inn k1) k2) (hTb : mdB = 0 ∨ zTab cr inn k1 k2 wyB pc_B f1B f2B f5B n4B) (hi1 : i1.toInt = 1) : zMq l T yX11_waysIn cX11_waysIn 4 (some (.object "TurnedPosts$AllWays")) 6 3 (6 * (zMk mdB n4B (zPl cr inn k1) - n4B)) [.ref xo, .int i1, .ref o] [[zO10 xo t im mk rd po co tr wa wb_ fi cd], wwB, z] (fun (r : Option Nat) bs => ∃ (w2 : va_W) (m2 : Int32) (wy2 : Int32) (pc2 : Int32) (g1 : Nat → Int32) (g2 : Nat → Int32) (g4 : Nat → Int32) (g5 : Nat → Int32) (g6 : Nat → Int32), bs = [[zO10 xo t im mk rd po co tr wa wb_ fi cd], w2, z] ∧ r = some wb_ ∧ bWays T wb_ o m2 wy2 pc2 g1 g2 f3B g4 g5 g6 (zMk mdB n4B (zPl cr inn k1)) w2 ∧ wy2 = zWy cr inn k1 ∧ ¬ m2 = 0 ∧ zTab cr inn k1 k2 wy2 pc2 g1 g2 g5 (zMk mdB n4B (zPl cr inn k1))) := by
  refine zMq_of (own := RX11) (by decide) rfl (Nat.le_of_ble_eq_true rfl) ?_
  intro p e s m args below meth c A ls C hr hlocks hnm hAe G hl
  refine zHide (fun Qz_ hQz_ => ?_)
  have hx := C.1
  have hb := C.2.1
  replace hmd : zHd (mdB = 0 ∨ laB = o) := hmd
  replace hTb : zHd (mdB = 0 ∨ zTab cr inn k1 k2 wyB pc_B f1B f2B f5B n4B) := hTb
  have hl : lv_has ls 4 [(0, .ref xo), (1, .int i1), (2, .ref o)] := hl
  refine lv_iload_n hx hb dX11_waysIn_0 rfl (lv_at hl 1 rfl) ?_
  refine lv_if_ne (tgt := 11) hx hb dX11_waysIn_1 (by decide) (fun _ => ?_) (fun q => absurd q (fun q2 => absurd (show i1.toInt = (0 : Int) from (fa_eq i1 (0 : Int32)).mp q2) (by omega)))
  refine lv_aload_n hx hb dX11_waysIn_11 rfl (lv_at hl 0 rfl) ?_
  refine z_get C G clX11 0 rfl 8 (by decide) m_fl_RX11_59 rfl dX11_waysIn_12 ?_
  refine lv_astore_n (lv' := [(3, .ref wb_), (0, .ref xo), (1, .int i1), (2, .ref o)]) hx hb dX11_waysIn_15 rfl hl (by decide) (zLvf_h rfl) (fun ls hl => ?_)
  refine lv_aload_n hx hb dX11_waysIn_16 rfl (lv_at hl 0 rfl) ?_
  refine lv_aload_n hx hb dX11_waysIn_17 rfl (lv_at hl 3 rfl) ?_
  refine z_Vv (bc := [wwB, z]) (br := [[zO10 xo t im mk rd po co tr wa wb_ fi cd]]) (As := [.ref o]) (rest := []) C G (c_f_make l T wb_ laB mdB wyB pc_B f1B f2B f3B f4B f5B f6B n4B wwB o cr inn k1 k2 k3 k4 z hwwB hz (by first | with_reducible assumption | with_reducible rfl | omega | assumption | rfl) hO hpw hmd hTb) (kV_RX11_232 C.2.2.2.2 (Nat.le_of_ble_eq_true rfl) (Nat.le_of_ble_eq_true rfl)) [1, 2] [1, 0] rfl rfl (ci := 0) (qc := (RX0, TX0, 10)) rfl rfl (List.mem_flatten.mpr ⟨_, List.mem_of_getElem? (i := 0) rfl, (bWays_mem hwwB).choose_spec⟩) rfl rfl hl.1 dX11_waysIn_18 (Nat.le_of_ble_eq_true rfl) (by show _ + (6 * (zMk mdB n4B (zPl cr inn k1) - n4B)) ≤ 6 * (zMk mdB n4B (zPl cr inn k1) - n4B); omega) (fun b1 H locs hw G => ?_)
  refine zEx8 hw ?_
  intro w2_1 m2_2 pc2_3 g1_4 g2_5 g4_6 g5_7 g6_8
  refine zCu4 ?_
  intro hbs9 h_9 h_10 h_11
  clear hw
  subst hbs9
  have G : zS T A s.heap s [[zO10 xo t im mk rd po co tr wa wb_ fi cd], w2_1, z] _ _ := G
  refine lv_aload_n hx hb dX11_waysIn_21 rfl (lv_at hl 0 rfl) ?_
  exact z_back hQz_ (z_aret (r := (some wb_)) C hr (Or.inl ⟨_, rfl⟩) hlocks G (Nat.le_of_ble_eq_true rfl) (by omega) dX11_waysIn_22 ⟨w2_1, m2_2, (zWy cr inn k1), pc2_3, g1_4, g2_5, g4_6, g5_7, g6_8, rfl, rfl, h_9, rfl, h_10, h_11⟩)
theorem rCn_t {p : Nat → Bool} {n : Nat} (h : p n = true) : rCn p (n + 1) = rCn p n + 1 := by
  show rCn p n + (if p n = true then 1 else 0) = _
  rw [if_pos h]
theorem rCn_f {p : Nat → Bool} {n : Nat} (h : ¬ p n = true) : rCn p (n + 1) = rCn p n := by
  show rCn p n + (if p n = true then 1 else 0) = _
  rw [if_neg h, Nat.add_zero]
theorem rAll_s {p : Nat → Bool} {n : Nat} (h : rAll p n = true) (h2 : p n = true) : rAll p (n + 1) = true := by
  show (rAll p n && p n) = true
  rw [h, h2]
  rfl
theorem zVZ_l {cr inn z : Int32} {k1 k2 k3 k4 f : Nat → Int32} {B : Nat} (h : zLnd cr inn k1 k2 k3 k4 (fun j => f (B + j))) (hz : z.toInt.toNat = B) : zVZ f z (f z.toInt.toNat) := by
  obtain ⟨-, -, -, hd, hx, -⟩ := h
  intro j hj hc
  rw [hz] at hc
  have hx : ∀ j : Nat, j < 7 → (f B).toInt ≤ (j : Int) → k1 j = 0 := hx
  have e : k1 j = f (B + (2 + j)) := (hd j hj).1
  have q := hx j hj hc
  unfold zRo
  rw [hz, ← e, q]
  decide
theorem aPr_mx {f : Nat → Int32} {z cr n : Int32} (h : zML f z cr) : aPr (zWo f z n) 7 ≤ 16384 := by
  have k : ∀ m, m ≤ 7 → aPr (zWo f z n) m ≤ 4 ^ m := by
    intro m
    induction m with
    | zero => intro _; exact Nat.le_refl _
    | succ m ih =>
      intro hm
      rw [Nat.pow_succ]
      exact Nat.mul_le_mul (ih (by omega)) (aCh_m (n := n) h (by omega))
  exact k 7 (Nat.le_refl _)

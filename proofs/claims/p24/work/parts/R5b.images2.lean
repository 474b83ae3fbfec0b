theorem pk_vb2 {x : Int32} (h : x.toInt8.toInt32 = x) : vp_nar .byte x = x := (vp_nar_byte x).trans h
set_option maxHeartbeats 4000000 in
set_option maxRecDepth 100000 in
/-- takeAll -/
theorem c_f_Told_takeAll (l : Launch) (T : zTy) (t : Nat) (l0 : Nat) (l1 : Nat) (d0 : Nat) (d1 : Nat) (g0 : Nat) (g1 : Nat) (ln : Int32) (fl : Int32) (pl : Int32) (ft : Nat → Int32) (fk : Nat → Int32) (wt : va_W) (cr0_ : Int32) (inn0_ : Int32) (k10_ : Nat → Int32) (k20_ : Nat → Int32) (k30_ : Nat → Int32) (k40_ : Nat → Int32) (z0_ : va_W) (cr1_ : Int32) (inn1_ : Int32) (k11_ : Nat → Int32) (k21_ : Nat → Int32) (k31_ : Nat → Int32) (k41_ : Nat → Int32) (z1_ : va_W) (dd0_ : Int32) (p10_ : Nat → Int32) (p20_ : Nat → Int32) (p30_ : Nat → Int32) (wd0_ : va_W) (dd1_ : Int32) (p11_ : Nat → Int32) (p21_ : Nat → Int32) (p31_ : Nat → Int32) (wd1_ : va_W) (gg0_ : Int32) (q10_ : Nat → Int32) (q20_ : Nat → Int32) (wg0_ : va_W) (gg1_ : Int32) (q11_ : Nat → Int32) (q21_ : Nat → Int32) (wg1_ : va_W) (o : Nat) (l0o : Nat) (l1o : Nat) (d0o : Nat) (d1o : Nat) (g0o : Nat) (g1o : Nat) (lno : Int32) (flo : Int32) (plo : Int32) (fto : Nat → Int32) (fko : Nat → Int32) (wto : va_W) (cr0_o : Int32) (inn0_o : Int32) (k10_o : Nat → Int32) (k20_o : Nat → Int32) (k30_o : Nat → Int32) (k40_o : Nat → Int32) (z0_o : va_W) (cr1_o : Int32) (inn1_o : Int32) (k11_o : Nat → Int32) (k21_o : Nat → Int32) (k31_o : Nat → Int32) (k41_o : Nat → Int32) (z1_o : va_W) (dd0_o : Int32) (p10_o : Nat → Int32) (p20_o : Nat → Int32) (p30_o : Nat → Int32) (wd0_o : va_W) (dd1_o : Int32) (p11_o : Nat → Int32) (p21_o : Nat → Int32) (p31_o : Nat → Int32) (wd1_o : va_W) (gg0_o : Int32) (q10_o : Nat → Int32) (q20_o : Nat → Int32) (wg0_o : va_W) (gg1_o : Int32) (q11_o : Nat → Int32) (q21_o : Nat → Int32) (wg1_o : va_W) (Gr : Nat → Int32) (ht : bTold T t l0 l1 d0 d1 g0 g1 ln fl pl ft fk wt) (hK : zKT fk) (hz0_ : bLand T l0 cr0_ inn0_ k10_ k20_ k30_ k40_ z0_) (hI0_ : zLI cr0_ k10_ k30_) (hz1_ : bLand T l1 cr1_ inn1_ k11_ k21_ k31_ k41_ z1_) (hI1_ : zLI cr1_ k11_ k31_) (hd0_ : bDay T d0 dd0_ p10_ p20_ p30_ wd0_) (hd1_ : bDay T d1 dd1_ p11_ p21_ p31_ wd1_) (hg0_ : bLog T g0 gg0_ q10_ q20_ wg0_) (hg1_ : bLog T g1 gg1_ q11_ q21_ wg1_) (hto : bTold T o l0o l1o d0o d1o g0o g1o lno flo plo fto fko wto) (hKo : zKT fko) (hz0_o : bLand T l0o cr0_o inn0_o k10_o k20_o k30_o k40_o z0_o) (hI0_o : zLI cr0_o k10_o k30_o) (hz1_o : bLand T l1o cr1_o inn1_o k11_o k21_o k31_o k41_o z1_o) (hI1_o : zLI cr1_o k11_o k31_o) (hd0_o : bDay T d0o dd0_o p10_o p20_o p30_o wd0_o) (hd1_o : bDay T d1o dd1_o p11_o p21_o p31_o wd1_o) (hg0_o : bLog T g0o gg0_o q10_o q20_o wg0_o) (hg1_o : bLog T g1o gg1_o q11_o q21_o wg1_o) (hTo : zTR lno flo plo fto fko cr0_o inn0_o k10_o k20_o k30_o k40_o cr1_o inn1_o k11_o k21_o k31_o k41_o dd0_o p10_o p20_o p30_o dd1_o p11_o p21_o p31_o gg0_o q10_o q20_o gg1_o q11_o q21_o Gr) : zMv l T yX9_takeAll cX9_takeAll 3 2 0 0 [.ref t, .ref o] [wt, z0_, z1_, wd0_, wd1_, wg0_, wg1_, wto, z0_o, z1_o, wd0_o, wd1_o, wg0_o, wg1_o] (fun bs => ∃ (wt2 : va_W) (g9 : Nat → Int32) (fk2 : Nat → Int32) (w2_0 : va_W) (s0_0 : Nat → Int32) (s0_1 : Nat → Int32) (s0_2 : Nat → Int32) (s0_3 : Nat → Int32) (w2_1 : va_W) (s1_0 : Nat → Int32) (s1_1 : Nat → Int32) (s1_2 : Nat → Int32) (s1_3 : Nat → Int32) (w2_2 : va_W) (s2_0 : Nat → Int32) (s2_1 : Nat → Int32) (s2_2 : Nat → Int32) (w2_3 : va_W) (s3_0 : Nat → Int32) (s3_1 : Nat → Int32) (s3_2 : Nat → Int32) (w2_4 : va_W) (s4_0 : Nat → Int32) (s4_1 : Nat → Int32) (w2_5 : va_W) (s5_0 : Nat → Int32) (s5_1 : Nat → Int32), bs = [wt2, w2_0, w2_1, w2_2, w2_3, w2_4, w2_5, wto, z0_o, z1_o, wd0_o, wd1_o, wg0_o, wg1_o] ∧ bTold T t l0 l1 d0 d1 g0 g1 lno flo plo g9 fk2 wt2 ∧ zKT fk2 ∧ bLand T l0 cr0_o inn0_o s0_0 s0_1 s0_2 s0_3 w2_0 ∧ bLand T l1 cr1_o inn1_o s1_0 s1_1 s1_2 s1_3 w2_1 ∧ bDay T d0 dd0_o s2_0 s2_1 s2_2 w2_2 ∧ bDay T d1 dd1_o s3_0 s3_1 s3_2 w2_3 ∧ bLog T g0 gg0_o s4_0 s4_1 w2_4 ∧ bLog T g1 gg1_o s5_0 s5_1 w2_5 ∧ zLI cr0_o s0_0 s0_2 ∧ zLI cr1_o s1_0 s1_2 ∧ zTR lno flo plo g9 fk2 cr0_o inn0_o s0_0 s0_1 s0_2 s0_3 cr1_o inn1_o s1_0 s1_1 s1_2 s1_3 dd0_o s2_0 s2_1 s2_2 dd1_o s3_0 s3_1 s3_2 gg0_o s4_0 s4_1 gg1_o s5_0 s5_1 Gr) := by
  refine zMv_of (own := RX9) (by decide) rfl (Nat.le_of_ble_eq_true rfl) ?_
  intro p e s m args below meth c A ls C hr hlocks hnm hAe G hl
  refine zHide (fun Qz_ hQz_ => ?_)
  have hx := C.1
  have hb := C.2.1
  have hl : lv_has ls 3 [(0, .ref t), (1, .ref o)] := hl
  refine lv_iconst (v := 0) hx hb dX9_takeAll_0 (by decide) ?_
  refine lv_istore_n (lv' := [(2, .int 0), (0, .ref t), (1, .ref o)]) hx hb dX9_takeAll_1 rfl hl (by decide) (zLvf_h rfl) (fun ls hl => ?_)
  refine zEx8 ht ?_
  intro a1_1 a2_2 a3_3 a4_4 a5_5 q1_6 q2_7 q3_8
  refine zCu7 ?_
  intro hbs9 h_9 h_10 h_11 h_12 h_13 h_14
  clear ht
  subst hbs9
  have G : zS T A s.heap s [[zO8 t a1_1 ln fl pl a2_2 a3_3 a4_4 a5_5], [zAr T 1 a1_1 600 ft], [zAr T 0 a2_2 3 fk], [zArq T 3 a3_3 2 q1_6], [zArq T 4 a4_4 2 q2_7], [zArq T 5 a5_5 2 q3_8], z0_, z1_, wd0_, wd1_, wg0_, wg1_, wto, z0_o, z1_o, wd0_o, wd1_o, wg0_o, wg1_o] _ _ := G.re rfl
  refine zEx8 hto ?_
  intro a1_15 a2_16 a3_17 a4_18 a5_19 q1_20 q2_21 q3_22
  refine zCu7 ?_
  intro hbs9 h_23 h_24 h_25 h_26 h_27 h_28
  clear hto
  subst hbs9
  have G : zS T A s.heap s [[zO8 t a1_1 ln fl pl a2_2 a3_3 a4_4 a5_5], [zAr T 1 a1_1 600 ft], [zAr T 0 a2_2 3 fk], [zArq T 3 a3_3 2 q1_6], [zArq T 4 a4_4 2 q2_7], [zArq T 5 a5_5 2 q3_8], z0_, z1_, wd0_, wd1_, wg0_, wg1_, [zO8 o a1_15 lno flo plo a2_16 a3_17 a4_18 a5_19], [zAr T 1 a1_15 600 fto], [zAr T 0 a2_16 3 fko], [zArq T 3 a3_17 2 q1_20], [zArq T 4 a4_18 2 q2_21], [zArq T 5 a5_19 2 q3_22], z0_o, z1_o, wd0_o, wd1_o, wg0_o, wg1_o] _ _ := G.re rfl
  have hw_29 : bTold T t l0 l1 d0 d1 g0 g1 ln fl pl ft fk [zO8 t a1_1 ln fl pl a2_2 a3_3 a4_4 a5_5, zAr T 1 a1_1 600 ft, zAr T 0 a2_2 3 fk, zArq T 3 a3_3 2 q1_6, zArq T 4 a4_4 2 q2_7, zArq T 5 a5_5 2 q3_8] := ⟨a1_1, a2_2, a3_3, a4_4, a5_5, q1_6, q2_7, q3_8, rfl, h_9, h_10, h_11, h_12, h_13, h_14⟩
  have G : zS T A s.heap s [[zO8 t a1_1 ln fl pl a2_2 a3_3 a4_4 a5_5, zAr T 1 a1_1 600 ft, zAr T 0 a2_2 3 fk, zArq T 3 a3_3 2 q1_6, zArq T 4 a4_4 2 q2_7, zArq T 5 a5_5 2 q3_8], z0_, z1_, wd0_, wd1_, wg0_, wg1_, [zO8 o a1_15 lno flo plo a2_16 a3_17 a4_18 a5_19], [zAr T 1 a1_15 600 fto], [zAr T 0 a2_16 3 fko], [zArq T 3 a3_17 2 q1_20], [zArq T 4 a4_18 2 q2_21], [zArq T 5 a5_19 2 q3_22], z0_o, z1_o, wd0_o, wd1_o, wg0_o, wg1_o] _ _ := G.re rfl
  have hw_30 : bTold T o l0o l1o d0o d1o g0o g1o lno flo plo fto fko [zO8 o a1_15 lno flo plo a2_16 a3_17 a4_18 a5_19, zAr T 1 a1_15 600 fto, zAr T 0 a2_16 3 fko, zArq T 3 a3_17 2 q1_20, zArq T 4 a4_18 2 q2_21, zArq T 5 a5_19 2 q3_22] := ⟨a1_15, a2_16, a3_17, a4_18, a5_19, q1_20, q2_21, q3_22, rfl, h_23, h_24, h_25, h_26, h_27, h_28⟩
  have G : zS T A s.heap s [[zO8 t a1_1 ln fl pl a2_2 a3_3 a4_4 a5_5, zAr T 1 a1_1 600 ft, zAr T 0 a2_2 3 fk, zArq T 3 a3_3 2 q1_6, zArq T 4 a4_4 2 q2_7, zArq T 5 a5_5 2 q3_8], z0_, z1_, wd0_, wd1_, wg0_, wg1_, [zO8 o a1_15 lno flo plo a2_16 a3_17 a4_18 a5_19, zAr T 1 a1_15 600 fto, zAr T 0 a2_16 3 fko, zArq T 3 a3_17 2 q1_20, zArq T 4 a4_18 2 q2_21, zArq T 5 a5_19 2 q3_22], z0_o, z1_o, wd0_o, wd1_o, wg0_o, wg1_o] _ _ := G.re rfl
  refine z_lp3 (T := T) 2 (fun (i : Nat) (wt9 : va_W) (x9 : Nat → Int32) => [wt9, z0_, z1_, wd0_, wd1_, wg0_, wg1_, [zO8 o a1_15 lno flo plo a2_16 a3_17 a4_18 a5_19, zAr T 1 a1_15 600 fto, zAr T 0 a2_16 3 fko, zArq T 3 a3_17 2 q1_20, zArq T 4 a4_18 2 q2_21, zArq T 5 a5_19 2 q3_22], z0_o, z1_o, wd0_o, wd1_o, wg0_o, wg1_o]) (fun (i : Nat) (wt9 : va_W) (x9 : Nat → Int32) => [(2, .int (nI i)), (0, .ref t), (1, .ref o)]) (fun (i : Nat) (wt9 : va_W) (x9 : Nat → Int32) => bTold T t l0 l1 d0 d1 g0 g1 ln fl pl x9 fk wt9 ∧ i ≤ 600 ∧ (∀ j, j < i → x9 j = fto j)) (fun (i : Nat) (wt9 : va_W) (x9 : Nat → Int32) => 600 - i) ?_ 0 ([zO8 t a1_1 ln fl pl a2_2 a3_3 a4_4 a5_5, zAr T 1 a1_1 600 ft, zAr T 0 a2_2 3 fk, zArq T 3 a3_3 2 q1_6, zArq T 4 a4_4 2 q2_7, zArq T 5 a5_5 2 q3_8]) ft (show bTold T t l0 l1 d0 d1 g0 g1 ln fl pl ft fk ([zO8 t a1_1 ln fl pl a2_2 a3_3 a4_4 a5_5, zAr T 1 a1_1 600 ft, zAr T 0 a2_2 3 fk, zArq T 3 a3_3 2 q1_6, zArq T 4 a4_4 2 q2_7, zArq T 5 a5_5 2 q3_8]) ∧ 0 ≤ 600 ∧ (∀ j, j < 0 → ft j = fto j) from ⟨hw_29, by omega, (fun j hj => absurd hj (Nat.not_lt_zero _))⟩) G (lv_sub hl [0, 1, 2] rfl)
  intro i wt9 x9 hI9 ih_2 H locs ls G hl
  replace hI9 : bTold T t l0 l1 d0 d1 g0 g1 ln fl pl x9 fk wt9 ∧ i ≤ 600 ∧ (∀ j, j < i → x9 j = fto j) := hI9
  refine zAn3 hI9 ?_
  intro ht9 hi hx9
  clear hI9
  replace G : zS T A s.heap s [wt9, z0_, z1_, wd0_, wd1_, wg0_, wg1_, [zO8 o a1_15 lno flo plo a2_16 a3_17 a4_18 a5_19, zAr T 1 a1_15 600 fto, zAr T 0 a2_16 3 fko, zArq T 3 a3_17 2 q1_20, zArq T 4 a4_18 2 q2_21, zArq T 5 a5_19 2 q3_22], z0_o, z1_o, wd0_o, wd1_o, wg0_o, wg1_o] _ _ := G
  replace hl : lv_has ls 3 [(2, .int (nI i)), (0, .ref t), (1, .ref o)] := hl
  refine lv_iload_n hx hb dX9_takeAll_2 rfl (lv_at hl 0 rfl) ?_
  refine lv_sipush (v := 600) hx hb dX9_takeAll_3 (by decide) ?_
  refine lv_icmp_ge (tgt := 27) hx hb dX9_takeAll_6 (by decide) (fun c_31 => ?_) (fun c_31 => ?_)
  · have c_31n : 600 ≤ i := (nI_leI (a := 600) (b := i) (by omega) (by omega)).mp c_31
    refine lv_aload_n hx hb dX9_takeAll_27 rfl (lv_at hl 1 rfl) ?_
    refine lv_aload_n hx hb dX9_takeAll_28 rfl (lv_at hl 2 rfl) ?_
    have G : zS T A s.heap s [wt9, z0_, z1_, wd0_, wd1_, wg0_, wg1_, [zO8 o a1_15 lno flo plo a2_16 a3_17 a4_18 a5_19], [zAr T 1 a1_15 600 fto], [zAr T 0 a2_16 3 fko], [zArq T 3 a3_17 2 q1_20], [zArq T 4 a4_18 2 q2_21], [zArq T 5 a5_19 2 q3_22], z0_o, z1_o, wd0_o, wd1_o, wg0_o, wg1_o] _ _ := G.re rfl
    refine z_get C G clX9 7 rfl 1 (by decide) m_fl_RX9_44 rfl dX9_takeAll_29 ?_
    refine zEx8 ht9 ?_
    intro a1_32 a2_33 a3_34 a4_35 a5_36 q1_37 q2_38 q3_39
    refine zCu7 ?_
    intro hbs9 h_40 h_41 h_42 h_43 h_44 h_45
    clear ht9
    subst hbs9
    have G : zS T A s.heap s [[zO8 t a1_32 ln fl pl a2_33 a3_34 a4_35 a5_36], [zAr T 1 a1_32 600 x9], [zAr T 0 a2_33 3 fk], [zArq T 3 a3_34 2 q1_37], [zArq T 4 a4_35 2 q2_38], [zArq T 5 a5_36 2 q3_39], z0_, z1_, wd0_, wd1_, wg0_, wg1_, [zO8 o a1_15 lno flo plo a2_16 a3_17 a4_18 a5_19], [zAr T 1 a1_15 600 fto], [zAr T 0 a2_16 3 fko], [zArq T 3 a3_17 2 q1_20], [zArq T 4 a4_18 2 q2_21], [zArq T 5 a5_19 2 q3_22], z0_o, z1_o, wd0_o, wd1_o, wg0_o, wg1_o] _ _ := G.re rfl
    refine z_put C G clX9 0 rfl 1 (by decide) m_fl_RX9_44 rfl rfl rfl (Nat.le_of_ble_eq_true rfl) dX9_takeAll_32 (fun H locs G => ?_)
    have G : zS T A s.heap s [[zO8 t a1_32 lno fl pl a2_33 a3_34 a4_35 a5_36], [zAr T 1 a1_32 600 x9], [zAr T 0 a2_33 3 fk], [zArq T 3 a3_34 2 q1_37], [zArq T 4 a4_35 2 q2_38], [zArq T 5 a5_36 2 q3_39], z0_, z1_, wd0_, wd1_, wg0_, wg1_, [zO8 o a1_15 lno flo plo a2_16 a3_17 a4_18 a5_19], [zAr T 1 a1_15 600 fto], [zAr T 0 a2_16 3 fko], [zArq T 3 a3_17 2 q1_20], [zArq T 4 a4_18 2 q2_21], [zArq T 5 a5_19 2 q3_22], z0_o, z1_o, wd0_o, wd1_o, wg0_o, wg1_o] _ _ := G
    refine lv_aload_n hx hb dX9_takeAll_35 rfl (lv_at hl 1 rfl) ?_
    refine lv_aload_n hx hb dX9_takeAll_36 rfl (lv_at hl 2 rfl) ?_
    refine z_get C G clX9 12 rfl 2 (by decide) m_fl_RX9_77 rfl dX9_takeAll_37 ?_
    refine z_put C G clX9 0 rfl 2 (by decide) m_fl_RX9_77 rfl rfl rfl (Nat.le_of_ble_eq_true rfl) dX9_takeAll_40 (fun H locs G => ?_)
    have G : zS T A s.heap s [[zO8 t a1_32 lno flo pl a2_33 a3_34 a4_35 a5_36], [zAr T 1 a1_32 600 x9], [zAr T 0 a2_33 3 fk], [zArq T 3 a3_34 2 q1_37], [zArq T 4 a4_35 2 q2_38], [zArq T 5 a5_36 2 q3_39], z0_, z1_, wd0_, wd1_, wg0_, wg1_, [zO8 o a1_15 lno flo plo a2_16 a3_17 a4_18 a5_19], [zAr T 1 a1_15 600 fto], [zAr T 0 a2_16 3 fko], [zArq T 3 a3_17 2 q1_20], [zArq T 4 a4_18 2 q2_21], [zArq T 5 a5_19 2 q3_22], z0_o, z1_o, wd0_o, wd1_o, wg0_o, wg1_o] _ _ := G
    refine lv_aload_n hx hb dX9_takeAll_43 rfl (lv_at hl 1 rfl) ?_
    refine lv_aload_n hx hb dX9_takeAll_44 rfl (lv_at hl 2 rfl) ?_
    refine z_get C G clX9 12 rfl 3 (by decide) m_fl_RX9_15 rfl dX9_takeAll_45 ?_
    refine z_put C G clX9 0 rfl 3 (by decide) m_fl_RX9_15 rfl rfl rfl (Nat.le_of_ble_eq_true rfl) dX9_takeAll_48 (fun H locs G => ?_)
    have G : zS T A s.heap s [[zO8 t a1_32 lno flo plo a2_33 a3_34 a4_35 a5_36], [zAr T 1 a1_32 600 x9], [zAr T 0 a2_33 3 fk], [zArq T 3 a3_34 2 q1_37], [zArq T 4 a4_35 2 q2_38], [zArq T 5 a5_36 2 q3_39], z0_, z1_, wd0_, wd1_, wg0_, wg1_, [zO8 o a1_15 lno flo plo a2_16 a3_17 a4_18 a5_19], [zAr T 1 a1_15 600 fto], [zAr T 0 a2_16 3 fko], [zArq T 3 a3_17 2 q1_20], [zArq T 4 a4_18 2 q2_21], [zArq T 5 a5_19 2 q3_22], z0_o, z1_o, wd0_o, wd1_o, wg0_o, wg1_o] _ _ := G
    refine lv_iconst (v := 0) hx hb dX9_takeAll_51 (by decide) ?_
    refine lv_istore_n (lv' := [(2, .int 0), (0, .ref t), (1, .ref o)]) hx hb dX9_takeAll_52 rfl hl (by decide) (zLvf_h rfl) (fun ls hl => ?_)
    refine lv_iload_n hx hb dX9_takeAll_53 rfl (lv_at hl 0 rfl) ?_
    refine lv_iconst (v := 2) hx hb dX9_takeAll_54 (by decide) ?_
    refine lv_icmp_gt (tgt := 76) hx hb dX9_takeAll_55 (by decide) (fun q => absurd q (by decide)) (fun _ => ?_)
    refine lv_aload_n hx hb dX9_takeAll_58 rfl (lv_at hl 1 rfl) ?_
    refine z_get C G clX9 0 rfl 4 (by decide) m_fl_RX9_19 rfl dX9_takeAll_59 ?_
    refine lv_iload_n hx hb dX9_takeAll_62 rfl (lv_at hl 0 rfl) ?_
    refine lv_aload_n hx hb dX9_takeAll_63 rfl (lv_at hl 2 rfl) ?_
    refine z_get C G clX9 12 rfl 4 (by decide) m_fl_RX9_19 rfl dX9_takeAll_64 ?_
    refine lv_iload_n hx hb dX9_takeAll_67 rfl (lv_at hl 0 rfl) ?_
    refine z_ild C G 14 rfl (vp_in_nI (n := 0) (by decide) (by decide)) dX9_takeAll_68 ?_
    refine lv_topi (fun v_46 ev_46 => ?_)
    rw [show ((0 : Int32).toNatClampNeg) = 0 from rfl] at ev_46
    subst ev_46
    refine z_ist C G 2 rfl (vp_in_nI (n := 0) (by decide) (by decide)) dX9_takeAll_69 (fun H locs G => ?_)
    have G : zS T A s.heap s [[zO8 t a1_32 lno flo plo a2_33 a3_34 a4_35 a5_36], [zAr T 1 a1_32 600 x9], [zAr T 0 a2_33 3 (upd fk 0 (fko 0))], [zArq T 3 a3_34 2 q1_37], [zArq T 4 a4_35 2 q2_38], [zArq T 5 a5_36 2 q3_39], z0_, z1_, wd0_, wd1_, wg0_, wg1_, [zO8 o a1_15 lno flo plo a2_16 a3_17 a4_18 a5_19], [zAr T 1 a1_15 600 fto], [zAr T 0 a2_16 3 fko], [zArq T 3 a3_17 2 q1_20], [zArq T 4 a4_18 2 q2_21], [zArq T 5 a5_19 2 q3_22], z0_o, z1_o, wd0_o, wd1_o, wg0_o, wg1_o] _ _ := G
    refine lv_iinc (v := 1) (lv' := [(2, .int 1), (0, .ref t), (1, .ref o)]) hx hb dX9_takeAll_70 hl (k := 0) rfl (by decide) (by decide) (zLvf_h rfl) (fun ls hl => ?_)
    refine lv_goto (tgt := 53) hx hb dX9_takeAll_73 (by decide) ?_
    refine lv_iload_n hx hb dX9_takeAll_53 rfl (lv_at hl 0 rfl) ?_
    refine lv_iconst (v := 2) hx hb dX9_takeAll_54 (by decide) ?_
    refine lv_icmp_gt (tgt := 76) hx hb dX9_takeAll_55 (by decide) (fun q => absurd q (by decide)) (fun _ => ?_)
    refine lv_aload_n hx hb dX9_takeAll_58 rfl (lv_at hl 1 rfl) ?_
    refine z_get C G clX9 0 rfl 4 (by decide) m_fl_RX9_19 rfl dX9_takeAll_59 ?_
    refine lv_iload_n hx hb dX9_takeAll_62 rfl (lv_at hl 0 rfl) ?_
    refine lv_aload_n hx hb dX9_takeAll_63 rfl (lv_at hl 2 rfl) ?_
    refine z_get C G clX9 12 rfl 4 (by decide) m_fl_RX9_19 rfl dX9_takeAll_64 ?_
    refine lv_iload_n hx hb dX9_takeAll_67 rfl (lv_at hl 0 rfl) ?_
    refine z_ild C G 14 rfl (vp_in_nI (n := 1) (by decide) (by decide)) dX9_takeAll_68 ?_
    refine lv_topi (fun v_47 ev_47 => ?_)
    rw [show ((1 : Int32).toNatClampNeg) = 1 from rfl] at ev_47
    subst ev_47
    refine z_ist C G 2 rfl (vp_in_nI (n := 1) (by decide) (by decide)) dX9_takeAll_69 (fun H locs G => ?_)
    have G : zS T A s.heap s [[zO8 t a1_32 lno flo plo a2_33 a3_34 a4_35 a5_36], [zAr T 1 a1_32 600 x9], [zAr T 0 a2_33 3 (upd (upd fk 0 (fko 0)) 1 (fko 1))], [zArq T 3 a3_34 2 q1_37], [zArq T 4 a4_35 2 q2_38], [zArq T 5 a5_36 2 q3_39], z0_, z1_, wd0_, wd1_, wg0_, wg1_, [zO8 o a1_15 lno flo plo a2_16 a3_17 a4_18 a5_19], [zAr T 1 a1_15 600 fto], [zAr T 0 a2_16 3 fko], [zArq T 3 a3_17 2 q1_20], [zArq T 4 a4_18 2 q2_21], [zArq T 5 a5_19 2 q3_22], z0_o, z1_o, wd0_o, wd1_o, wg0_o, wg1_o] _ _ := G
    refine lv_iinc (v := 2) (lv' := [(2, .int 2), (0, .ref t), (1, .ref o)]) hx hb dX9_takeAll_70 hl (k := 0) rfl (by decide) (by decide) (zLvf_h rfl) (fun ls hl => ?_)
    refine lv_goto (tgt := 53) hx hb dX9_takeAll_73 (by decide) ?_
    refine lv_iload_n hx hb dX9_takeAll_53 rfl (lv_at hl 0 rfl) ?_
    refine lv_iconst (v := 2) hx hb dX9_takeAll_54 (by decide) ?_
    refine lv_icmp_gt (tgt := 76) hx hb dX9_takeAll_55 (by decide) (fun q => absurd q (by decide)) (fun _ => ?_)
    refine lv_aload_n hx hb dX9_takeAll_58 rfl (lv_at hl 1 rfl) ?_
    refine z_get C G clX9 0 rfl 4 (by decide) m_fl_RX9_19 rfl dX9_takeAll_59 ?_
    refine lv_iload_n hx hb dX9_takeAll_62 rfl (lv_at hl 0 rfl) ?_
    refine lv_aload_n hx hb dX9_takeAll_63 rfl (lv_at hl 2 rfl) ?_
    refine z_get C G clX9 12 rfl 4 (by decide) m_fl_RX9_19 rfl dX9_takeAll_64 ?_
    refine lv_iload_n hx hb dX9_takeAll_67 rfl (lv_at hl 0 rfl) ?_
    refine z_ild C G 14 rfl (vp_in_nI (n := 2) (by decide) (by decide)) dX9_takeAll_68 ?_
    refine lv_topi (fun v_48 ev_48 => ?_)
    rw [show ((2 : Int32).toNatClampNeg) = 2 from rfl] at ev_48
    subst ev_48
    refine z_ist C G 2 rfl (vp_in_nI (n := 2) (by decide) (by decide)) dX9_takeAll_69 (fun H locs G => ?_)
    have G : zS T A s.heap s [[zO8 t a1_32 lno flo plo a2_33 a3_34 a4_35 a5_36], [zAr T 1 a1_32 600 x9], [zAr T 0 a2_33 3 (upd (upd (upd fk 0 (fko 0)) 1 (fko 1)) 2 (fko 2))], [zArq T 3 a3_34 2 q1_37], [zArq T 4 a4_35 2 q2_38], [zArq T 5 a5_36 2 q3_39], z0_, z1_, wd0_, wd1_, wg0_, wg1_, [zO8 o a1_15 lno flo plo a2_16 a3_17 a4_18 a5_19], [zAr T 1 a1_15 600 fto], [zAr T 0 a2_16 3 fko], [zArq T 3 a3_17 2 q1_20], [zArq T 4 a4_18 2 q2_21], [zArq T 5 a5_19 2 q3_22], z0_o, z1_o, wd0_o, wd1_o, wg0_o, wg1_o] _ _ := G
    refine lv_iinc (v := 3) (lv' := [(2, .int 3), (0, .ref t), (1, .ref o)]) hx hb dX9_takeAll_70 hl (k := 0) rfl (by decide) (by decide) (zLvf_h rfl) (fun ls hl => ?_)
    refine lv_goto (tgt := 53) hx hb dX9_takeAll_73 (by decide) ?_
    refine lv_iload_n hx hb dX9_takeAll_53 rfl (lv_at hl 0 rfl) ?_
    refine lv_iconst (v := 2) hx hb dX9_takeAll_54 (by decide) ?_
    refine lv_icmp_gt (tgt := 76) hx hb dX9_takeAll_55 (by decide) (fun _ => ?_) (fun q => absurd (by decide) q)
    refine lv_iconst (v := 0) hx hb dX9_takeAll_76 (by decide) ?_
    refine lv_istore_n (lv' := [(2, .int 0), (0, .ref t), (1, .ref o)]) hx hb dX9_takeAll_77 rfl hl (by decide) (zLvf_h rfl) (fun ls hl => ?_)
    refine lv_iload_n hx hb dX9_takeAll_78 rfl (lv_at hl 0 rfl) ?_
    refine lv_iconst (v := 2) hx hb dX9_takeAll_79 (by decide) ?_
    refine lv_icmp_ge (tgt := 134) hx hb dX9_takeAll_80 (by decide) (fun q => absurd q (by decide)) (fun _ => ?_)
    refine lv_aload_n hx hb dX9_takeAll_83 rfl (lv_at hl 1 rfl) ?_
    refine z_get C G clX9 0 rfl 5 (by decide) m_fl_RX9_26 rfl dX9_takeAll_84 ?_
    refine lv_iload_n hx hb dX9_takeAll_87 rfl (lv_at hl 0 rfl) ?_
    refine z_ald C G 3 3 rfl rfl (vp_in_nI (n := 0) (by decide) (by decide)) dX9_takeAll_88 ?_
    rw [show q1_37 ((0 : Int32).toNatClampNeg) = some l0 from h_40]
    refine lv_aload_n hx hb dX9_takeAll_89 rfl (lv_at hl 2 rfl) ?_
    refine z_get C G clX9 12 rfl 5 (by decide) m_fl_RX9_26 rfl dX9_takeAll_90 ?_
    refine lv_iload_n hx hb dX9_takeAll_93 rfl (lv_at hl 0 rfl) ?_
    refine z_ald C G 15 3 rfl rfl (vp_in_nI (n := 0) (by decide) (by decide)) dX9_takeAll_94 ?_
    rw [show q1_20 ((0 : Int32).toNatClampNeg) = some l0o from h_23]
    refine z_Vv (bc := [z0_, z0_o]) (br := [[zO8 t a1_32 lno flo plo a2_33 a3_34 a4_35 a5_36], [zAr T 1 a1_32 600 x9], [zAr T 0 a2_33 3 (upd (upd (upd fk 0 (fko 0)) 1 (fko 1)) 2 (fko 2))], [zArq T 3 a3_34 2 q1_37], [zArq T 4 a4_35 2 q2_38], [zArq T 5 a5_36 2 q3_39], z1_, wd0_, wd1_, wg0_, wg1_, [zO8 o a1_15 lno flo plo a2_16 a3_17 a4_18 a5_19], [zAr T 1 a1_15 600 fto], [zAr T 0 a2_16 3 fko], [zArq T 3 a3_17 2 q1_20], [zArq T 4 a4_18 2 q2_21], [zArq T 5 a5_19 2 q3_22], z1_o, wd0_o, wd1_o, wg0_o, wg1_o]) (As := [.ref l0o]) (rest := []) C G (c_Land_takeAll l T l0 l0o cr0_ inn0_ k10_ k20_ k30_ k40_ cr0_o inn0_o k10_o k20_o k30_o k40_o z0_ z0_o hz0_ hz0_o) (kV_RX9_53 C.2.2.2.2 (Nat.le_of_ble_eq_true rfl) (Nat.le_of_ble_eq_true rfl)) [6, 18] [6, 11] rfl rfl (ci := 4) (qc := (RX4, TX4, 6)) rfl rfl (List.mem_flatten.mpr ⟨_, List.mem_of_getElem? (i := 0) rfl, (bLand_mem hz0_).choose_spec⟩) rfl rfl hl.1 dX9_takeAll_95 (Nat.le_of_ble_eq_true rfl) (Nat.le_of_ble_eq_true rfl) (fun b1 H locs hw G => ?_)
    refine zEx5 hw ?_
    intro w2_49 g1_50 g2_51 g3_52 g4_53
    refine zCu6 ?_
    intro hbs9 h_54 h_55 h_56 h_57 h_58
    clear hw
    subst hbs9
    have G : zS T A s.heap s [[zO8 t a1_32 lno flo plo a2_33 a3_34 a4_35 a5_36], [zAr T 1 a1_32 600 x9], [zAr T 0 a2_33 3 (upd (upd (upd fk 0 (fko 0)) 1 (fko 1)) 2 (fko 2))], [zArq T 3 a3_34 2 q1_37], [zArq T 4 a4_35 2 q2_38], [zArq T 5 a5_36 2 q3_39], z1_, wd0_, wd1_, wg0_, wg1_, [zO8 o a1_15 lno flo plo a2_16 a3_17 a4_18 a5_19], [zAr T 1 a1_15 600 fto], [zAr T 0 a2_16 3 fko], [zArq T 3 a3_17 2 q1_20], [zArq T 4 a4_18 2 q2_21], [zArq T 5 a5_19 2 q3_22], z1_o, wd0_o, wd1_o, wg0_o, wg1_o, w2_49, z0_o] _ _ := G
    refine lv_aload_n hx hb dX9_takeAll_98 rfl (lv_at hl 1 rfl) ?_
    refine z_get C G clX9 0 rfl 6 (by decide) m_fl_RX9_33 rfl dX9_takeAll_99 ?_
    refine lv_iload_n hx hb dX9_takeAll_102 rfl (lv_at hl 0 rfl) ?_
    refine z_ald C G 4 4 rfl rfl (vp_in_nI (n := 0) (by decide) (by decide)) dX9_takeAll_103 ?_
    rw [show q2_38 ((0 : Int32).toNatClampNeg) = some d0 from h_42]
    refine lv_aload_n hx hb dX9_takeAll_104 rfl (lv_at hl 2 rfl) ?_
    refine z_get C G clX9 11 rfl 6 (by decide) m_fl_RX9_33 rfl dX9_takeAll_105 ?_
    refine lv_iload_n hx hb dX9_takeAll_108 rfl (lv_at hl 0 rfl) ?_
    refine z_ald C G 15 4 rfl rfl (vp_in_nI (n := 0) (by decide) (by decide)) dX9_takeAll_109 ?_
    rw [show q2_21 ((0 : Int32).toNatClampNeg) = some d0o from h_25]
    refine z_Vv (bc := [wd0_, wd0_o]) (br := [[zO8 t a1_32 lno flo plo a2_33 a3_34 a4_35 a5_36], [zAr T 1 a1_32 600 x9], [zAr T 0 a2_33 3 (upd (upd (upd fk 0 (fko 0)) 1 (fko 1)) 2 (fko 2))], [zArq T 3 a3_34 2 q1_37], [zArq T 4 a4_35 2 q2_38], [zArq T 5 a5_36 2 q3_39], z1_, wd1_, wg0_, wg1_, [zO8 o a1_15 lno flo plo a2_16 a3_17 a4_18 a5_19], [zAr T 1 a1_15 600 fto], [zAr T 0 a2_16 3 fko], [zArq T 3 a3_17 2 q1_20], [zArq T 4 a4_18 2 q2_21], [zArq T 5 a5_19 2 q3_22], z1_o, wd1_o, wg0_o, wg1_o, w2_49, z0_o]) (As := [.ref d0o]) (rest := []) C G (c_Day_takeAll l T d0 d0o dd0_ p10_ p20_ p30_ dd0_o p10_o p20_o p30_o wd0_ wd0_o hd0_ hd0_o) (kV_RX9_61 C.2.2.2.2 (Nat.le_of_ble_eq_true rfl) (Nat.le_of_ble_eq_true rfl)) [7, 18] [7, 10] rfl rfl (ci := 2) (qc := (RX2, TX2, 4)) rfl rfl (List.mem_flatten.mpr ⟨_, List.mem_of_getElem? (i := 0) rfl, (bDay_mem hd0_).choose_spec⟩) rfl rfl hl.1 dX9_takeAll_110 (Nat.le_of_ble_eq_true rfl) (Nat.le_of_ble_eq_true rfl) (fun b1 H locs hw G => ?_)
    refine zEx4 hw ?_
    intro w2_60 g1_61 g2_62 g3_63
    refine zCu5 ?_
    intro hbs9 h_64 h_65 h_66 h_67
    clear hw
    subst hbs9
    have G : zS T A s.heap s [[zO8 t a1_32 lno flo plo a2_33 a3_34 a4_35 a5_36], [zAr T 1 a1_32 600 x9], [zAr T 0 a2_33 3 (upd (upd (upd fk 0 (fko 0)) 1 (fko 1)) 2 (fko 2))], [zArq T 3 a3_34 2 q1_37], [zArq T 4 a4_35 2 q2_38], [zArq T 5 a5_36 2 q3_39], z1_, wd1_, wg0_, wg1_, [zO8 o a1_15 lno flo plo a2_16 a3_17 a4_18 a5_19], [zAr T 1 a1_15 600 fto], [zAr T 0 a2_16 3 fko], [zArq T 3 a3_17 2 q1_20], [zArq T 4 a4_18 2 q2_21], [zArq T 5 a5_19 2 q3_22], z1_o, wd1_o, wg0_o, wg1_o, w2_49, z0_o, w2_60, wd0_o] _ _ := G
    refine lv_aload_n hx hb dX9_takeAll_113 rfl (lv_at hl 1 rfl) ?_
    refine z_get C G clX9 0 rfl 7 (by decide) m_fl_RX9_40 rfl dX9_takeAll_114 ?_
    refine lv_iload_n hx hb dX9_takeAll_117 rfl (lv_at hl 0 rfl) ?_
    refine z_ald C G 5 5 rfl rfl (vp_in_nI (n := 0) (by decide) (by decide)) dX9_takeAll_118 ?_
    rw [show q3_39 ((0 : Int32).toNatClampNeg) = some g0 from h_44]
    refine lv_aload_n hx hb dX9_takeAll_119 rfl (lv_at hl 2 rfl) ?_
    refine z_get C G clX9 10 rfl 7 (by decide) m_fl_RX9_40 rfl dX9_takeAll_120 ?_
    refine lv_iload_n hx hb dX9_takeAll_123 rfl (lv_at hl 0 rfl) ?_
    refine z_ald C G 15 5 rfl rfl (vp_in_nI (n := 0) (by decide) (by decide)) dX9_takeAll_124 ?_
    rw [show q3_22 ((0 : Int32).toNatClampNeg) = some g0o from h_27]
    refine z_Vv (bc := [wg0_, wg0_o]) (br := [[zO8 t a1_32 lno flo plo a2_33 a3_34 a4_35 a5_36], [zAr T 1 a1_32 600 x9], [zAr T 0 a2_33 3 (upd (upd (upd fk 0 (fko 0)) 1 (fko 1)) 2 (fko 2))], [zArq T 3 a3_34 2 q1_37], [zArq T 4 a4_35 2 q2_38], [zArq T 5 a5_36 2 q3_39], z1_, wd1_, wg1_, [zO8 o a1_15 lno flo plo a2_16 a3_17 a4_18 a5_19], [zAr T 1 a1_15 600 fto], [zAr T 0 a2_16 3 fko], [zArq T 3 a3_17 2 q1_20], [zArq T 4 a4_18 2 q2_21], [zArq T 5 a5_19 2 q3_22], z1_o, wd1_o, wg1_o, w2_49, z0_o, w2_60, wd0_o]) (As := [.ref g0o]) (rest := []) C G (c_Log_takeAll l T g0 g0o gg0_ q10_ q20_ gg0_o q10_o q20_o wg0_ wg0_o hg0_ hg0_o) (kV_RX9_68 C.2.2.2.2 (Nat.le_of_ble_eq_true rfl) (Nat.le_of_ble_eq_true rfl)) [8, 18] [8, 9] rfl rfl (ci := 5) (qc := (RX5, TX5, 3)) rfl rfl (List.mem_flatten.mpr ⟨_, List.mem_of_getElem? (i := 0) rfl, (bLog_mem hg0_).choose_spec⟩) rfl rfl hl.1 dX9_takeAll_125 (Nat.le_of_ble_eq_true rfl) (Nat.le_of_ble_eq_true rfl) (fun b1 H locs hw G => ?_)
    refine zEx3 hw ?_
    intro w2_69 g1_70 g2_71
    refine zCu4 ?_
    intro hbs9 h_72 h_73 h_74
    clear hw
    subst hbs9
    have G : zS T A s.heap s [[zO8 t a1_32 lno flo plo a2_33 a3_34 a4_35 a5_36], [zAr T 1 a1_32 600 x9], [zAr T 0 a2_33 3 (upd (upd (upd fk 0 (fko 0)) 1 (fko 1)) 2 (fko 2))], [zArq T 3 a3_34 2 q1_37], [zArq T 4 a4_35 2 q2_38], [zArq T 5 a5_36 2 q3_39], z1_, wd1_, wg1_, [zO8 o a1_15 lno flo plo a2_16 a3_17 a4_18 a5_19], [zAr T 1 a1_15 600 fto], [zAr T 0 a2_16 3 fko], [zArq T 3 a3_17 2 q1_20], [zArq T 4 a4_18 2 q2_21], [zArq T 5 a5_19 2 q3_22], z1_o, wd1_o, wg1_o, w2_49, z0_o, w2_60, wd0_o, w2_69, wg0_o] _ _ := G
    refine lv_iinc (v := 1) (lv' := [(2, .int 1), (0, .ref t), (1, .ref o)]) hx hb dX9_takeAll_128 hl (k := 0) rfl (by decide) (by decide) (zLvf_h rfl) (fun ls hl => ?_)
    refine lv_goto (tgt := 78) hx hb dX9_takeAll_131 (by decide) ?_
    refine lv_iload_n hx hb dX9_takeAll_78 rfl (lv_at hl 0 rfl) ?_
    refine lv_iconst (v := 2) hx hb dX9_takeAll_79 (by decide) ?_
    refine lv_icmp_ge (tgt := 134) hx hb dX9_takeAll_80 (by decide) (fun q => absurd q (by decide)) (fun _ => ?_)
    refine lv_aload_n hx hb dX9_takeAll_83 rfl (lv_at hl 1 rfl) ?_
    refine z_get C G clX9 0 rfl 5 (by decide) m_fl_RX9_26 rfl dX9_takeAll_84 ?_
    refine lv_iload_n hx hb dX9_takeAll_87 rfl (lv_at hl 0 rfl) ?_
    refine z_ald C G 3 3 rfl rfl (vp_in_nI (n := 1) (by decide) (by decide)) dX9_takeAll_88 ?_
    rw [show q1_37 ((1 : Int32).toNatClampNeg) = some l1 from h_41]
    refine lv_aload_n hx hb dX9_takeAll_89 rfl (lv_at hl 2 rfl) ?_
    refine z_get C G clX9 9 rfl 5 (by decide) m_fl_RX9_26 rfl dX9_takeAll_90 ?_
    refine lv_iload_n hx hb dX9_takeAll_93 rfl (lv_at hl 0 rfl) ?_
    refine z_ald C G 12 3 rfl rfl (vp_in_nI (n := 1) (by decide) (by decide)) dX9_takeAll_94 ?_
    rw [show q1_20 ((1 : Int32).toNatClampNeg) = some l1o from h_24]
    refine z_Vv (bc := [z1_, z1_o]) (br := [[zO8 t a1_32 lno flo plo a2_33 a3_34 a4_35 a5_36], [zAr T 1 a1_32 600 x9], [zAr T 0 a2_33 3 (upd (upd (upd fk 0 (fko 0)) 1 (fko 1)) 2 (fko 2))], [zArq T 3 a3_34 2 q1_37], [zArq T 4 a4_35 2 q2_38], [zArq T 5 a5_36 2 q3_39], wd1_, wg1_, [zO8 o a1_15 lno flo plo a2_16 a3_17 a4_18 a5_19], [zAr T 1 a1_15 600 fto], [zAr T 0 a2_16 3 fko], [zArq T 3 a3_17 2 q1_20], [zArq T 4 a4_18 2 q2_21], [zArq T 5 a5_19 2 q3_22], wd1_o, wg1_o, w2_49, z0_o, w2_60, wd0_o, w2_69, wg0_o]) (As := [.ref l1o]) (rest := []) C G (c_Land_takeAll l T l1 l1o cr1_ inn1_ k11_ k21_ k31_ k41_ cr1_o inn1_o k11_o k21_o k31_o k41_o z1_ z1_o hz1_ hz1_o) (kV_RX9_53 C.2.2.2.2 (Nat.le_of_ble_eq_true rfl) (Nat.le_of_ble_eq_true rfl)) [6, 15] [6, 8] rfl rfl (ci := 4) (qc := (RX4, TX4, 6)) rfl rfl (List.mem_flatten.mpr ⟨_, List.mem_of_getElem? (i := 0) rfl, (bLand_mem hz1_).choose_spec⟩) rfl rfl hl.1 dX9_takeAll_95 (Nat.le_of_ble_eq_true rfl) (Nat.le_of_ble_eq_true rfl) (fun b1 H locs hw G => ?_)
    refine zEx5 hw ?_
    intro w2_76 g1_77 g2_78 g3_79 g4_80
    refine zCu6 ?_
    intro hbs9 h_81 h_82 h_83 h_84 h_85
    clear hw
    subst hbs9
    have G : zS T A s.heap s [[zO8 t a1_32 lno flo plo a2_33 a3_34 a4_35 a5_36], [zAr T 1 a1_32 600 x9], [zAr T 0 a2_33 3 (upd (upd (upd fk 0 (fko 0)) 1 (fko 1)) 2 (fko 2))], [zArq T 3 a3_34 2 q1_37], [zArq T 4 a4_35 2 q2_38], [zArq T 5 a5_36 2 q3_39], wd1_, wg1_, [zO8 o a1_15 lno flo plo a2_16 a3_17 a4_18 a5_19], [zAr T 1 a1_15 600 fto], [zAr T 0 a2_16 3 fko], [zArq T 3 a3_17 2 q1_20], [zArq T 4 a4_18 2 q2_21], [zArq T 5 a5_19 2 q3_22], wd1_o, wg1_o, w2_49, z0_o, w2_60, wd0_o, w2_69, wg0_o, w2_76, z1_o] _ _ := G
    refine lv_aload_n hx hb dX9_takeAll_98 rfl (lv_at hl 1 rfl) ?_
    refine z_get C G clX9 0 rfl 6 (by decide) m_fl_RX9_33 rfl dX9_takeAll_99 ?_
    refine lv_iload_n hx hb dX9_takeAll_102 rfl (lv_at hl 0 rfl) ?_
    refine z_ald C G 4 4 rfl rfl (vp_in_nI (n := 1) (by decide) (by decide)) dX9_takeAll_103 ?_
    rw [show q2_38 ((1 : Int32).toNatClampNeg) = some d1 from h_43]
    refine lv_aload_n hx hb dX9_takeAll_104 rfl (lv_at hl 2 rfl) ?_
    refine z_get C G clX9 8 rfl 6 (by decide) m_fl_RX9_33 rfl dX9_takeAll_105 ?_
    refine lv_iload_n hx hb dX9_takeAll_108 rfl (lv_at hl 0 rfl) ?_
    refine z_ald C G 12 4 rfl rfl (vp_in_nI (n := 1) (by decide) (by decide)) dX9_takeAll_109 ?_
    rw [show q2_21 ((1 : Int32).toNatClampNeg) = some d1o from h_26]
    refine z_Vv (bc := [wd1_, wd1_o]) (br := [[zO8 t a1_32 lno flo plo a2_33 a3_34 a4_35 a5_36], [zAr T 1 a1_32 600 x9], [zAr T 0 a2_33 3 (upd (upd (upd fk 0 (fko 0)) 1 (fko 1)) 2 (fko 2))], [zArq T 3 a3_34 2 q1_37], [zArq T 4 a4_35 2 q2_38], [zArq T 5 a5_36 2 q3_39], wg1_, [zO8 o a1_15 lno flo plo a2_16 a3_17 a4_18 a5_19], [zAr T 1 a1_15 600 fto], [zAr T 0 a2_16 3 fko], [zArq T 3 a3_17 2 q1_20], [zArq T 4 a4_18 2 q2_21], [zArq T 5 a5_19 2 q3_22], wg1_o, w2_49, z0_o, w2_60, wd0_o, w2_69, wg0_o, w2_76, z1_o]) (As := [.ref d1o]) (rest := []) C G (c_Day_takeAll l T d1 d1o dd1_ p11_ p21_ p31_ dd1_o p11_o p21_o p31_o wd1_ wd1_o hd1_ hd1_o) (kV_RX9_61 C.2.2.2.2 (Nat.le_of_ble_eq_true rfl) (Nat.le_of_ble_eq_true rfl)) [6, 14] [6, 7] rfl rfl (ci := 2) (qc := (RX2, TX2, 4)) rfl rfl (List.mem_flatten.mpr ⟨_, List.mem_of_getElem? (i := 0) rfl, (bDay_mem hd1_).choose_spec⟩) rfl rfl hl.1 dX9_takeAll_110 (Nat.le_of_ble_eq_true rfl) (Nat.le_of_ble_eq_true rfl) (fun b1 H locs hw G => ?_)
    refine zEx4 hw ?_
    intro w2_87 g1_88 g2_89 g3_90
    refine zCu5 ?_
    intro hbs9 h_91 h_92 h_93 h_94
    clear hw
    subst hbs9
    have G : zS T A s.heap s [[zO8 t a1_32 lno flo plo a2_33 a3_34 a4_35 a5_36], [zAr T 1 a1_32 600 x9], [zAr T 0 a2_33 3 (upd (upd (upd fk 0 (fko 0)) 1 (fko 1)) 2 (fko 2))], [zArq T 3 a3_34 2 q1_37], [zArq T 4 a4_35 2 q2_38], [zArq T 5 a5_36 2 q3_39], wg1_, [zO8 o a1_15 lno flo plo a2_16 a3_17 a4_18 a5_19], [zAr T 1 a1_15 600 fto], [zAr T 0 a2_16 3 fko], [zArq T 3 a3_17 2 q1_20], [zArq T 4 a4_18 2 q2_21], [zArq T 5 a5_19 2 q3_22], wg1_o, w2_49, z0_o, w2_60, wd0_o, w2_69, wg0_o, w2_76, z1_o, w2_87, wd1_o] _ _ := G
    refine lv_aload_n hx hb dX9_takeAll_113 rfl (lv_at hl 1 rfl) ?_
    refine z_get C G clX9 0 rfl 7 (by decide) m_fl_RX9_40 rfl dX9_takeAll_114 ?_
    refine lv_iload_n hx hb dX9_takeAll_117 rfl (lv_at hl 0 rfl) ?_
    refine z_ald C G 5 5 rfl rfl (vp_in_nI (n := 1) (by decide) (by decide)) dX9_takeAll_118 ?_
    rw [show q3_39 ((1 : Int32).toNatClampNeg) = some g1 from h_45]
    refine lv_aload_n hx hb dX9_takeAll_119 rfl (lv_at hl 2 rfl) ?_
    refine z_get C G clX9 7 rfl 7 (by decide) m_fl_RX9_40 rfl dX9_takeAll_120 ?_
    refine lv_iload_n hx hb dX9_takeAll_123 rfl (lv_at hl 0 rfl) ?_
    refine z_ald C G 12 5 rfl rfl (vp_in_nI (n := 1) (by decide) (by decide)) dX9_takeAll_124 ?_
    rw [show q3_22 ((1 : Int32).toNatClampNeg) = some g1o from h_28]
    refine z_Vv (bc := [wg1_, wg1_o]) (br := [[zO8 t a1_32 lno flo plo a2_33 a3_34 a4_35 a5_36], [zAr T 1 a1_32 600 x9], [zAr T 0 a2_33 3 (upd (upd (upd fk 0 (fko 0)) 1 (fko 1)) 2 (fko 2))], [zArq T 3 a3_34 2 q1_37], [zArq T 4 a4_35 2 q2_38], [zArq T 5 a5_36 2 q3_39], [zO8 o a1_15 lno flo plo a2_16 a3_17 a4_18 a5_19], [zAr T 1 a1_15 600 fto], [zAr T 0 a2_16 3 fko], [zArq T 3 a3_17 2 q1_20], [zArq T 4 a4_18 2 q2_21], [zArq T 5 a5_19 2 q3_22], w2_49, z0_o, w2_60, wd0_o, w2_69, wg0_o, w2_76, z1_o, w2_87, wd1_o]) (As := [.ref g1o]) (rest := []) C G (c_Log_takeAll l T g1 g1o gg1_ q11_ q21_ gg1_o q11_o q21_o wg1_ wg1_o hg1_ hg1_o) (kV_RX9_68 C.2.2.2.2 (Nat.le_of_ble_eq_true rfl) (Nat.le_of_ble_eq_true rfl)) [6, 13] [6, 6] rfl rfl (ci := 5) (qc := (RX5, TX5, 3)) rfl rfl (List.mem_flatten.mpr ⟨_, List.mem_of_getElem? (i := 0) rfl, (bLog_mem hg1_).choose_spec⟩) rfl rfl hl.1 dX9_takeAll_125 (Nat.le_of_ble_eq_true rfl) (Nat.le_of_ble_eq_true rfl) (fun b1 H locs hw G => ?_)
    refine zEx3 hw ?_
    intro w2_96 g1_97 g2_98
    refine zCu4 ?_
    intro hbs9 h_99 h_100 h_101
    clear hw
    subst hbs9
    have G : zS T A s.heap s [[zO8 t a1_32 lno flo plo a2_33 a3_34 a4_35 a5_36], [zAr T 1 a1_32 600 x9], [zAr T 0 a2_33 3 (upd (upd (upd fk 0 (fko 0)) 1 (fko 1)) 2 (fko 2))], [zArq T 3 a3_34 2 q1_37], [zArq T 4 a4_35 2 q2_38], [zArq T 5 a5_36 2 q3_39], [zO8 o a1_15 lno flo plo a2_16 a3_17 a4_18 a5_19], [zAr T 1 a1_15 600 fto], [zAr T 0 a2_16 3 fko], [zArq T 3 a3_17 2 q1_20], [zArq T 4 a4_18 2 q2_21], [zArq T 5 a5_19 2 q3_22], w2_49, z0_o, w2_60, wd0_o, w2_69, wg0_o, w2_76, z1_o, w2_87, wd1_o, w2_96, wg1_o] _ _ := G
    refine lv_iinc (v := 2) (lv' := [(2, .int 2), (0, .ref t), (1, .ref o)]) hx hb dX9_takeAll_128 hl (k := 0) rfl (by decide) (by decide) (zLvf_h rfl) (fun ls hl => ?_)
    refine lv_goto (tgt := 78) hx hb dX9_takeAll_131 (by decide) ?_
    refine lv_iload_n hx hb dX9_takeAll_78 rfl (lv_at hl 0 rfl) ?_
    refine lv_iconst (v := 2) hx hb dX9_takeAll_79 (by decide) ?_
    refine lv_icmp_ge (tgt := 134) hx hb dX9_takeAll_80 (by decide) (fun _ => ?_) (fun q => absurd (by decide) q)
    have hw_103 : bTold T t l0 l1 d0 d1 g0 g1 lno flo plo x9 (upd (upd (upd fk 0 (fko 0)) 1 (fko 1)) 2 (fko 2)) [zO8 t a1_32 lno flo plo a2_33 a3_34 a4_35 a5_36, zAr T 1 a1_32 600 x9, zAr T 0 a2_33 3 (upd (upd (upd fk 0 (fko 0)) 1 (fko 1)) 2 (fko 2)), zArq T 3 a3_34 2 q1_37, zArq T 4 a4_35 2 q2_38, zArq T 5 a5_36 2 q3_39] := ⟨a1_32, a2_33, a3_34, a4_35, a5_36, q1_37, q2_38, q3_39, rfl, h_40, h_41, h_42, h_43, h_44, h_45⟩
    have G : zS T A s.heap s [[zO8 t a1_32 lno flo plo a2_33 a3_34 a4_35 a5_36, zAr T 1 a1_32 600 x9, zAr T 0 a2_33 3 (upd (upd (upd fk 0 (fko 0)) 1 (fko 1)) 2 (fko 2)), zArq T 3 a3_34 2 q1_37, zArq T 4 a4_35 2 q2_38, zArq T 5 a5_36 2 q3_39], [zO8 o a1_15 lno flo plo a2_16 a3_17 a4_18 a5_19], [zAr T 1 a1_15 600 fto], [zAr T 0 a2_16 3 fko], [zArq T 3 a3_17 2 q1_20], [zArq T 4 a4_18 2 q2_21], [zArq T 5 a5_19 2 q3_22], w2_49, z0_o, w2_60, wd0_o, w2_69, wg0_o, w2_76, z1_o, w2_87, wd1_o, w2_96, wg1_o] _ _ := G.re rfl
    have hw_104 : bTold T o l0o l1o d0o d1o g0o g1o lno flo plo fto fko [zO8 o a1_15 lno flo plo a2_16 a3_17 a4_18 a5_19, zAr T 1 a1_15 600 fto, zAr T 0 a2_16 3 fko, zArq T 3 a3_17 2 q1_20, zArq T 4 a4_18 2 q2_21, zArq T 5 a5_19 2 q3_22] := ⟨a1_15, a2_16, a3_17, a4_18, a5_19, q1_20, q2_21, q3_22, rfl, h_23, h_24, h_25, h_26, h_27, h_28⟩
    have G : zS T A s.heap s [[zO8 t a1_32 lno flo plo a2_33 a3_34 a4_35 a5_36, zAr T 1 a1_32 600 x9, zAr T 0 a2_33 3 (upd (upd (upd fk 0 (fko 0)) 1 (fko 1)) 2 (fko 2)), zArq T 3 a3_34 2 q1_37, zArq T 4 a4_35 2 q2_38, zArq T 5 a5_36 2 q3_39], [zO8 o a1_15 lno flo plo a2_16 a3_17 a4_18 a5_19, zAr T 1 a1_15 600 fto, zAr T 0 a2_16 3 fko, zArq T 3 a3_17 2 q1_20, zArq T 4 a4_18 2 q2_21, zArq T 5 a5_19 2 q3_22], w2_49, z0_o, w2_60, wd0_o, w2_69, wg0_o, w2_76, z1_o, w2_87, wd1_o, w2_96, wg1_o] _ _ := G.re rfl
    have G := G.sub (bs' := [[zO8 t a1_32 lno flo plo a2_33 a3_34 a4_35 a5_36, zAr T 1 a1_32 600 x9, zAr T 0 a2_33 3 (upd (upd (upd fk 0 (fko 0)) 1 (fko 1)) 2 (fko 2)), zArq T 3 a3_34 2 q1_37, zArq T 4 a4_35 2 q2_38, zArq T 5 a5_36 2 q3_39], w2_49, w2_76, w2_60, w2_87, w2_69, w2_96, [zO8 o a1_15 lno flo plo a2_16 a3_17 a4_18 a5_19, zAr T 1 a1_15 600 fto, zAr T 0 a2_16 3 fko, zArq T 3 a3_17 2 q1_20, zArq T 4 a4_18 2 q2_21, zArq T 5 a5_19 2 q3_22], z0_o, z1_o, wd0_o, wd1_o, wg0_o, wg1_o]) [0, 2, 8, 4, 10, 6, 12, 1, 3, 9, 5, 11, 7, 13] rfl
    exact z_back hQz_ (z_vret C hr hlocks G (Nat.le_of_ble_eq_true rfl) (Nat.le_of_ble_eq_true rfl) dX9_takeAll_134 ⟨([zO8 t a1_32 lno flo plo a2_33 a3_34 a4_35 a5_36, zAr T 1 a1_32 600 x9, zAr T 0 a2_33 3 (upd (upd (upd fk 0 (fko 0)) 1 (fko 1)) 2 (fko 2)), zArq T 3 a3_34 2 q1_37, zArq T 4 a4_35 2 q2_38, zArq T 5 a5_36 2 q3_39]), x9, (upd (upd (upd fk 0 (fko 0)) 1 (fko 1)) 2 (fko 2)), w2_49, g1_50, g2_51, g3_52, g4_53, w2_76, g1_77, g2_78, g3_79, g4_80, w2_60, g1_61, g2_62, g3_63, w2_87, g1_88, g2_89, g3_90, w2_69, g1_70, g2_71, w2_96, g1_97, g2_98, rfl, hw_103, (zKT_upd (zKT_upd (zKT_upd hK 0 (hKo 0 (by decide))) 1 (hKo 1 (by decide))) 2 (hKo 2 (by decide))), h_54, h_81, h_64, h_91, h_72, h_99, (zLI_eq hI0_o h_55 h_57), (zLI_eq hI1_o h_82 h_84), (hTo.elim fun zz zr => zr.elim fun z1 zr => zr.elim fun z2 zr => zr.elim fun z3 zr => zr.elim fun z4 zr => zr.elim fun z5 z6 => zz.elim fun a1 ar => ar.elim fun a2 ar => ar.elim fun a3 ar => ar.elim fun a4 a5 => ⟨⟨a1, a2, a3, (fun j hj => (show _ = fko j by rcases (show j = 0 ∨ j = 1 ∨ j = 2 by omega) with q | q | q <;> subst q <;> rfl).trans (a4 j hj)), (fun j hj => by rw [hx9 j (by omega)]; exact a5 j hj)⟩, zLnd_eq z1 (fun j hj => (hI0_o.2.1 j hj).2) h_55 h_56 h_57 h_58, zLnd_eq z2 (fun j hj => (hI1_o.2.1 j hj).2) h_82 h_83 h_84 h_85, zDyd_eq z3 h_65 h_66 h_67, zDyd_eq z4 h_92 h_93 h_94, zLgd_eq z5 h_73 h_74, zLgd_eq z6 h_100 h_101⟩)⟩)
  · have c_31n : ¬ 600 ≤ i := fun q => c_31 ((nI_leI (a := 600) (b := i) (by omega) (by omega)).mpr q)
    refine lv_aload_n hx hb dX9_takeAll_9 rfl (lv_at hl 1 rfl) ?_
    refine zEx8 ht9 ?_
    intro a1_105 a2_106 a3_107 a4_108 a5_109 q1_110 q2_111 q3_112
    refine zCu7 ?_
    intro hbs9 h_113 h_114 h_115 h_116 h_117 h_118
    clear ht9
    subst hbs9
    have G : zS T A s.heap s [[zO8 t a1_105 ln fl pl a2_106 a3_107 a4_108 a5_109], [zAr T 1 a1_105 600 x9], [zAr T 0 a2_106 3 fk], [zArq T 3 a3_107 2 q1_110], [zArq T 4 a4_108 2 q2_111], [zArq T 5 a5_109 2 q3_112], z0_, z1_, wd0_, wd1_, wg0_, wg1_, [zO8 o a1_15 lno flo plo a2_16 a3_17 a4_18 a5_19, zAr T 1 a1_15 600 fto, zAr T 0 a2_16 3 fko, zArq T 3 a3_17 2 q1_20, zArq T 4 a4_18 2 q2_21, zArq T 5 a5_19 2 q3_22], z0_o, z1_o, wd0_o, wd1_o, wg0_o, wg1_o] _ _ := G.re rfl
    refine z_get C G clX9 0 rfl 0 (by decide) m_fl_RX9_9 rfl dX9_takeAll_10 ?_
    refine lv_iload_n hx hb dX9_takeAll_13 rfl (lv_at hl 0 rfl) ?_
    refine lv_aload_n hx hb dX9_takeAll_14 rfl (lv_at hl 2 rfl) ?_
    have G : zS T A s.heap s [[zO8 t a1_105 ln fl pl a2_106 a3_107 a4_108 a5_109], [zAr T 1 a1_105 600 x9], [zAr T 0 a2_106 3 fk], [zArq T 3 a3_107 2 q1_110], [zArq T 4 a4_108 2 q2_111], [zArq T 5 a5_109 2 q3_112], z0_, z1_, wd0_, wd1_, wg0_, wg1_, [zO8 o a1_15 lno flo plo a2_16 a3_17 a4_18 a5_19], [zAr T 1 a1_15 600 fto], [zAr T 0 a2_16 3 fko], [zArq T 3 a3_17 2 q1_20], [zArq T 4 a4_18 2 q2_21], [zArq T 5 a5_19 2 q3_22], z0_o, z1_o, wd0_o, wd1_o, wg0_o, wg1_o] _ _ := G.re rfl
    refine z_get C G clX9 12 rfl 0 (by decide) m_fl_RX9_9 rfl dX9_takeAll_15 ?_
    refine lv_iload_n hx hb dX9_takeAll_18 rfl (lv_at hl 0 rfl) ?_
    refine z_bld C G 13 rfl (vp_in_nI (by omega) (by decide)) dX9_takeAll_19 ?_
    refine lv_topi (fun v_119 ev_119 => ?_)
    rw [nI_clamp (by omega)] at ev_119
    subst ev_119
    refine z_bst C G 1 rfl (vp_in_nI (by omega) (by decide)) dX9_takeAll_20 (fun H locs G => ?_)
    rw [nI_clamp (by omega)] at G
    have G : zS T A s.heap s [[zO8 t a1_105 ln fl pl a2_106 a3_107 a4_108 a5_109], [zAr T 1 a1_105 600 (upd x9 i (vp_nar .byte (fto i)))], [zAr T 0 a2_106 3 fk], [zArq T 3 a3_107 2 q1_110], [zArq T 4 a4_108 2 q2_111], [zArq T 5 a5_109 2 q3_112], z0_, z1_, wd0_, wd1_, wg0_, wg1_, [zO8 o a1_15 lno flo plo a2_16 a3_17 a4_18 a5_19], [zAr T 1 a1_15 600 fto], [zAr T 0 a2_16 3 fko], [zArq T 3 a3_17 2 q1_20], [zArq T 4 a4_18 2 q2_21], [zArq T 5 a5_19 2 q3_22], z0_o, z1_o, wd0_o, wd1_o, wg0_o, wg1_o] _ _ := G
    refine lv_iinc (v := nI (i + 1)) (lv' := [(2, .int (nI (i + 1))), (0, .ref t), (1, .ref o)]) hx hb dX9_takeAll_21 hl (k := 0) rfl (z_inc i 1) (by decide) (zLvf_h rfl) (fun ls hl => ?_)
    refine lv_goto (tgt := 2) hx hb dX9_takeAll_24 (by decide) ?_
    have hw_120 : bTold T t l0 l1 d0 d1 g0 g1 ln fl pl (upd x9 i (vp_nar .byte (fto i))) fk [zO8 t a1_105 ln fl pl a2_106 a3_107 a4_108 a5_109, zAr T 1 a1_105 600 (upd x9 i (vp_nar .byte (fto i))), zAr T 0 a2_106 3 fk, zArq T 3 a3_107 2 q1_110, zArq T 4 a4_108 2 q2_111, zArq T 5 a5_109 2 q3_112] := ⟨a1_105, a2_106, a3_107, a4_108, a5_109, q1_110, q2_111, q3_112, rfl, h_113, h_114, h_115, h_116, h_117, h_118⟩
    have G : zS T A s.heap s [[zO8 t a1_105 ln fl pl a2_106 a3_107 a4_108 a5_109, zAr T 1 a1_105 600 (upd x9 i (vp_nar .byte (fto i))), zAr T 0 a2_106 3 fk, zArq T 3 a3_107 2 q1_110, zArq T 4 a4_108 2 q2_111, zArq T 5 a5_109 2 q3_112], z0_, z1_, wd0_, wd1_, wg0_, wg1_, [zO8 o a1_15 lno flo plo a2_16 a3_17 a4_18 a5_19], [zAr T 1 a1_15 600 fto], [zAr T 0 a2_16 3 fko], [zArq T 3 a3_17 2 q1_20], [zArq T 4 a4_18 2 q2_21], [zArq T 5 a5_19 2 q3_22], z0_o, z1_o, wd0_o, wd1_o, wg0_o, wg1_o] _ _ := G.re rfl
    have hw_121 : bTold T o l0o l1o d0o d1o g0o g1o lno flo plo fto fko [zO8 o a1_15 lno flo plo a2_16 a3_17 a4_18 a5_19, zAr T 1 a1_15 600 fto, zAr T 0 a2_16 3 fko, zArq T 3 a3_17 2 q1_20, zArq T 4 a4_18 2 q2_21, zArq T 5 a5_19 2 q3_22] := ⟨a1_15, a2_16, a3_17, a4_18, a5_19, q1_20, q2_21, q3_22, rfl, h_23, h_24, h_25, h_26, h_27, h_28⟩
    have G : zS T A s.heap s [[zO8 t a1_105 ln fl pl a2_106 a3_107 a4_108 a5_109, zAr T 1 a1_105 600 (upd x9 i (vp_nar .byte (fto i))), zAr T 0 a2_106 3 fk, zArq T 3 a3_107 2 q1_110, zArq T 4 a4_108 2 q2_111, zArq T 5 a5_109 2 q3_112], z0_, z1_, wd0_, wd1_, wg0_, wg1_, [zO8 o a1_15 lno flo plo a2_16 a3_17 a4_18 a5_19, zAr T 1 a1_15 600 fto, zAr T 0 a2_16 3 fko, zArq T 3 a3_17 2 q1_20, zArq T 4 a4_18 2 q2_21, zArq T 5 a5_19 2 q3_22], z0_o, z1_o, wd0_o, wd1_o, wg0_o, wg1_o] _ _ := G.re rfl
    exact ih_2 (i + 1) ([zO8 t a1_105 ln fl pl a2_106 a3_107 a4_108 a5_109, zAr T 1 a1_105 600 (upd x9 i (vp_nar .byte (fto i))), zAr T 0 a2_106 3 fk, zArq T 3 a3_107 2 q1_110, zArq T 4 a4_108 2 q2_111, zArq T 5 a5_109 2 q3_112]) (upd x9 i (vp_nar .byte (fto i))) (show bTold T t l0 l1 d0 d1 g0 g1 ln fl pl (upd x9 i (vp_nar .byte (fto i))) fk ([zO8 t a1_105 ln fl pl a2_106 a3_107 a4_108 a5_109, zAr T 1 a1_105 600 (upd x9 i (vp_nar .byte (fto i))), zAr T 0 a2_106 3 fk, zArq T 3 a3_107 2 q1_110, zArq T 4 a4_108 2 q2_111, zArq T 5 a5_109 2 q3_112]) ∧ (i + 1) ≤ 600 ∧ (∀ j, j < (i + 1) → (upd x9 i (vp_nar .byte (fto i))) j = fto j) from ⟨hw_120, by omega, z_updE hx9 (pk_vb2 (hTo.1.2.2.2.2 i (by omega)).2)⟩) (show 600 - (i + 1) < 600 - i from by omega) _ _ ls G (lv_sub hl [0, 1, 2] rfl)
set_option maxHeartbeats 4000000 in
set_option maxRecDepth 100000 in
/-- c_f_imageN -/
theorem c_f_imageN (l : Launch) (T : zTy) (xo : Nat) (t : Nat) (im : Nat) (mk : Nat) (rd : Nat) (po : Nat) (co : Nat) (tr : Nat) (wa : Nat) (wb_ : Nat) (fi : Nat) (cd : Nat) (k_ : Int32) (hk : k_.toInt < 0 ∨ 3 ≤ k_.toInt) : zMi l T yX11_image cX11_image 2 (some .boolean) 3 0 0 [.ref xo, .int k_] [[zO10 xo t im mk rd po co tr wa wb_ fi cd]] (fun (r : Int32) bs => bs = [[zO10 xo t im mk rd po co tr wa wb_ fi cd]] ∧ r = 0) := by
  refine zMi_of (own := RX11) (by decide) rfl (Nat.le_of_ble_eq_true rfl) ?_
  intro p e s m args below meth c A ls C hr hlocks hnm hAe G hl
  refine zHide (fun Qz_ hQz_ => ?_)
  have hx := C.1
  have hb := C.2.1
  have hl : lv_has ls 2 [(0, .ref xo), (1, .int k_)] := hl
  refine lv_iload_n hx hb dX11_image_0 rfl (lv_at hl 1 rfl) ?_
  refine lv_if_lt (tgt := 9) hx hb dX11_image_1 (by decide) (fun c_1 => ?_) (fun c_1 => ?_)
  · have c_1n : k_.toInt < (0 : Int) := (fa_lt _ _).mp c_1
    refine lv_iconst (v := 0) hx hb dX11_image_9 (by decide) ?_
    exact z_back hQz_ (z_zret C hr hlocks G (Nat.le_of_ble_eq_true rfl) (Nat.le_of_ble_eq_true rfl) dX11_image_10 rfl ⟨rfl, rfl⟩)
  · have c_1n : ¬ k_.toInt < (0 : Int) := fun q => c_1 ((fa_lt _ _).mpr q)
    refine lv_iload_n hx hb dX11_image_4 rfl (lv_at hl 1 rfl) ?_
    refine lv_iconst (v := 3) hx hb dX11_image_5 (by decide) ?_
    refine lv_icmp_lt (tgt := 11) hx hb dX11_image_6 (by decide) (fun c_2 => ?_) (fun c_2 => ?_)
    · have c_2n : k_.toInt < (3 : Int) := (fa_lt _ _).mp c_2
      exact absurd (show (0 : Int) = 1 by omega) (by decide)
    · have c_2n : ¬ k_.toInt < (3 : Int) := fun q => c_2 ((fa_lt _ _).mpr q)
      refine lv_iconst (v := 0) hx hb dX11_image_9 (by decide) ?_
      exact z_back hQz_ (z_zret C hr hlocks G (Nat.le_of_ble_eq_true rfl) (Nat.le_of_ble_eq_true rfl) dX11_image_10 rfl ⟨rfl, rfl⟩)
set_option maxHeartbeats 4000000 in
set_option maxRecDepth 100000 in
/-- c_f_againN -/
theorem c_f_againN (l : Launch) (T : zTy) (xo : Nat) (t : Nat) (im : Nat) (mk : Nat) (rd : Nat) (po : Nat) (co : Nat) (tr : Nat) (wa : Nat) (wb_ : Nat) (fi : Nat) (cd : Nat) (k_ : Int32) (hk : k_.toInt < 0 ∨ 3 ≤ k_.toInt) : zMi l T yX11_again cX11_again 2 (some .boolean) 3 0 0 [.ref xo, .int k_] [[zO10 xo t im mk rd po co tr wa wb_ fi cd]] (fun (r : Int32) bs => bs = [[zO10 xo t im mk rd po co tr wa wb_ fi cd]] ∧ r = 0) := by
  refine zMi_of (own := RX11) (by decide) rfl (Nat.le_of_ble_eq_true rfl) ?_
  intro p e s m args below meth c A ls C hr hlocks hnm hAe G hl
  refine zHide (fun Qz_ hQz_ => ?_)
  have hx := C.1
  have hb := C.2.1
  have hl : lv_has ls 2 [(0, .ref xo), (1, .int k_)] := hl
  refine lv_iload_n hx hb dX11_again_0 rfl (lv_at hl 1 rfl) ?_
  refine lv_if_lt (tgt := 18) hx hb dX11_again_1 (by decide) (fun c_1 => ?_) (fun c_1 => ?_)
  · have c_1n : k_.toInt < (0 : Int) := (fa_lt _ _).mp c_1
    refine lv_iconst (v := 0) hx hb dX11_again_18 (by decide) ?_
    exact z_back hQz_ (z_zret C hr hlocks G (Nat.le_of_ble_eq_true rfl) (Nat.le_of_ble_eq_true rfl) dX11_again_19 rfl ⟨rfl, rfl⟩)
  · have c_1n : ¬ k_.toInt < (0 : Int) := fun q => c_1 ((fa_lt _ _).mpr q)
    refine lv_iload_n hx hb dX11_again_4 rfl (lv_at hl 1 rfl) ?_
    refine lv_iconst (v := 3) hx hb dX11_again_5 (by decide) ?_
    refine lv_icmp_ge (tgt := 18) hx hb dX11_again_6 (by decide) (fun c_2 => ?_) (fun c_2 => ?_)
    · have c_2n : (3 : Int) ≤ k_.toInt := (fa_le _ _).mp c_2
      refine lv_iconst (v := 0) hx hb dX11_again_18 (by decide) ?_
      exact z_back hQz_ (z_zret C hr hlocks G (Nat.le_of_ble_eq_true rfl) (Nat.le_of_ble_eq_true rfl) dX11_again_19 rfl ⟨rfl, rfl⟩)
    · have c_2n : ¬ (3 : Int) ≤ k_.toInt := fun q => c_2 ((fa_le _ _).mpr q)
      exact absurd (show (0 : Int) = 1 by omega) (by decide)
set_option maxHeartbeats 4000000 in
set_option maxRecDepth 100000 in
/-- c_f_image0 -/
theorem c_f_image0 (l : Launch) (T : zTy) (xo : Nat) (t : Nat) (im : Nat) (mk : Nat) (rd : Nat) (po : Nat) (co : Nat) (tr : Nat) (wa : Nat) (wb_ : Nat) (fi : Nat) (cd : Nat) (l0 : Nat) (l1 : Nat) (d0 : Nat) (d1 : Nat) (g0 : Nat) (g1 : Nat) (ln : Int32) (fl : Int32) (pl : Int32) (ft : Nat → Int32) (fk : Nat → Int32) (wt : va_W) (cr0_ : Int32) (inn0_ : Int32) (k10_ : Nat → Int32) (k20_ : Nat → Int32) (k30_ : Nat → Int32) (k40_ : Nat → Int32) (z0_ : va_W) (cr1_ : Int32) (inn1_ : Int32) (k11_ : Nat → Int32) (k21_ : Nat → Int32) (k31_ : Nat → Int32) (k41_ : Nat → Int32) (z1_ : va_W) (dd0_ : Int32) (p10_ : Nat → Int32) (p20_ : Nat → Int32) (p30_ : Nat → Int32) (wd0_ : va_W) (dd1_ : Int32) (p11_ : Nat → Int32) (p21_ : Nat → Int32) (p31_ : Nat → Int32) (wd1_ : va_W) (gg0_ : Int32) (q10_ : Nat → Int32) (q20_ : Nat → Int32) (wg0_ : va_W) (gg1_ : Int32) (q11_ : Nat → Int32) (q21_ : Nat → Int32) (wg1_ : va_W) (m0 : Nat) (l0a : Nat) (l1a : Nat) (d0a : Nat) (d1a : Nat) (g0a : Nat) (g1a : Nat) (lna : Int32) (fla : Int32) (pla : Int32) (fta : Nat → Int32) (fka : Nat → Int32) (wta : va_W) (cr0_a : Int32) (inn0_a : Int32) (k10_a : Nat → Int32) (k20_a : Nat → Int32) (k30_a : Nat → Int32) (k40_a : Nat → Int32) (z0_a : va_W) (cr1_a : Int32) (inn1_a : Int32) (k11_a : Nat → Int32) (k21_a : Nat → Int32) (k31_a : Nat → Int32) (k41_a : Nat → Int32) (z1_a : va_W) (dd0_a : Int32) (p10_a : Nat → Int32) (p20_a : Nat → Int32) (p30_a : Nat → Int32) (wd0_a : va_W) (dd1_a : Int32) (p11_a : Nat → Int32) (p21_a : Nat → Int32) (p31_a : Nat → Int32) (wd1_a : va_W) (gg0_a : Int32) (q10_a : Nat → Int32) (q20_a : Nat → Int32) (wg0_a : va_W) (gg1_a : Int32) (q11_a : Nat → Int32) (q21_a : Nat → Int32) (wg1_a : va_W) (m1 : Nat) (m2 : Nat) (qi : Nat → Option Nat) (fmk : Nat → Int32) (Gr : Nat → Int32) (ht : bTold T t l0 l1 d0 d1 g0 g1 ln fl pl ft fk wt) (hK : zKT fk) (hz0_ : bLand T l0 cr0_ inn0_ k10_ k20_ k30_ k40_ z0_) (hI0_ : zLI cr0_ k10_ k30_) (hz1_ : bLand T l1 cr1_ inn1_ k11_ k21_ k31_ k41_ z1_) (hI1_ : zLI cr1_ k11_ k31_) (hd0_ : bDay T d0 dd0_ p10_ p20_ p30_ wd0_) (hd1_ : bDay T d1 dd1_ p11_ p21_ p31_ wd1_) (hg0_ : bLog T g0 gg0_ q10_ q20_ wg0_) (hg1_ : bLog T g1 gg1_ q11_ q21_ wg1_) (hta : bTold T m0 l0a l1a d0a d1a g0a g1a lna fla pla fta fka wta) (hKa : zKT fka) (hz0_a : bLand T l0a cr0_a inn0_a k10_a k20_a k30_a k40_a z0_a) (hI0_a : zLI cr0_a k10_a k30_a) (hz1_a : bLand T l1a cr1_a inn1_a k11_a k21_a k31_a k41_a z1_a) (hI1_a : zLI cr1_a k11_a k31_a) (hd0_a : bDay T d0a dd0_a p10_a p20_a p30_a wd0_a) (hd1_a : bDay T d1a dd1_a p11_a p21_a p31_a wd1_a) (hg0_a : bLog T g0a gg0_a q10_a q20_a wg0_a) (hg1_a : bLog T g1a gg1_a q11_a q21_a wg1_a) (hm0 : qi 0 = some m0) (hm1 : qi 1 = some m1) (hm2 : qi 2 = some m2) (hT : zTR ln fl pl ft fk cr0_ inn0_ k10_ k20_ k30_ k40_ cr1_ inn1_ k11_ k21_ k31_ k41_ dd0_ p10_ p20_ p30_ dd1_ p11_ p21_ p31_ gg0_ q10_ q20_ gg1_ q11_ q21_ Gr) : zMi l T yX11_image cX11_image 2 (some .boolean) 3 0 0 [.ref xo, .int 0] [[zO10 xo t im mk rd po co tr wa wb_ fi cd], wt, z0_, z1_, wd0_, wd1_, wg0_, wg1_, wta, z0_a, z1_a, wd0_a, wd1_a, wg0_a, wg1_a, [zArq T 6 im 3 qi], [zAr T 2 mk 3 fmk]] (fun (r : Int32) bs => ∃ (lna_2 : Int32) (fla_2 : Int32) (pla_2 : Int32) (fta_2 : Nat → Int32) (fka_2 : Nat → Int32) (wta_2 : va_W) (cr0_a_2 : Int32) (inn0_a_2 : Int32) (k10_a_2 : Nat → Int32) (k20_a_2 : Nat → Int32) (k30_a_2 : Nat → Int32) (k40_a_2 : Nat → Int32) (z0_a_2 : va_W) (cr1_a_2 : Int32) (inn1_a_2 : Int32) (k11_a_2 : Nat → Int32) (k21_a_2 : Nat → Int32) (k31_a_2 : Nat → Int32) (k41_a_2 : Nat → Int32) (z1_a_2 : va_W) (dd0_a_2 : Int32) (p10_a_2 : Nat → Int32) (p20_a_2 : Nat → Int32) (p30_a_2 : Nat → Int32) (wd0_a_2 : va_W) (dd1_a_2 : Int32) (p11_a_2 : Nat → Int32) (p21_a_2 : Nat → Int32) (p31_a_2 : Nat → Int32) (wd1_a_2 : va_W) (gg0_a_2 : Int32) (q10_a_2 : Nat → Int32) (q20_a_2 : Nat → Int32) (wg0_a_2 : va_W) (gg1_a_2 : Int32) (q11_a_2 : Nat → Int32) (q21_a_2 : Nat → Int32) (wg1_a_2 : va_W) (fmk_2 : Nat → Int32), bs = [[zO10 xo t im mk rd po co tr wa wb_ fi cd], wt, z0_, z1_, wd0_, wd1_, wg0_, wg1_, wta_2, z0_a_2, z1_a_2, wd0_a_2, wd1_a_2, wg0_a_2, wg1_a_2, [zArq T 6 im 3 qi], [zAr T 2 mk 3 fmk_2]] ∧ bTold T m0 l0a l1a d0a d1a g0a g1a lna_2 fla_2 pla_2 fta_2 fka_2 wta_2 ∧ zKT fka_2 ∧ bLand T l0a cr0_a_2 inn0_a_2 k10_a_2 k20_a_2 k30_a_2 k40_a_2 z0_a_2 ∧ zLI cr0_a_2 k10_a_2 k30_a_2 ∧ bLand T l1a cr1_a_2 inn1_a_2 k11_a_2 k21_a_2 k31_a_2 k41_a_2 z1_a_2 ∧ zLI cr1_a_2 k11_a_2 k31_a_2 ∧ bDay T d0a dd0_a_2 p10_a_2 p20_a_2 p30_a_2 wd0_a_2 ∧ bDay T d1a dd1_a_2 p11_a_2 p21_a_2 p31_a_2 wd1_a_2 ∧ bLog T g0a gg0_a_2 q10_a_2 q20_a_2 wg0_a_2 ∧ bLog T g1a gg1_a_2 q11_a_2 q21_a_2 wg1_a_2 ∧ r = 1 ∧ fmk_2 = upd fmk 0 1 ∧ zTR lna_2 fla_2 pla_2 fta_2 fka_2 cr0_a_2 inn0_a_2 k10_a_2 k20_a_2 k30_a_2 k40_a_2 cr1_a_2 inn1_a_2 k11_a_2 k21_a_2 k31_a_2 k41_a_2 dd0_a_2 p10_a_2 p20_a_2 p30_a_2 dd1_a_2 p11_a_2 p21_a_2 p31_a_2 gg0_a_2 q10_a_2 q20_a_2 gg1_a_2 q11_a_2 q21_a_2 Gr) := by
  refine zMi_of (own := RX11) (by decide) rfl (Nat.le_of_ble_eq_true rfl) ?_
  intro p e s m args below meth c A ls C hr hlocks hnm hAe G hl
  refine zHide (fun Qz_ hQz_ => ?_)
  have hx := C.1
  have hb := C.2.1
  have hl : lv_has ls 2 [(0, .ref xo), (1, .int 0)] := hl
  refine lv_iload_n hx hb dX11_image_0 rfl (lv_at hl 1 rfl) ?_
  refine lv_if_lt (tgt := 9) hx hb dX11_image_1 (by decide) (fun q => absurd q (by decide)) (fun _ => ?_)
  refine lv_iload_n hx hb dX11_image_4 rfl (lv_at hl 1 rfl) ?_
  refine lv_iconst (v := 3) hx hb dX11_image_5 (by decide) ?_
  refine lv_icmp_lt (tgt := 11) hx hb dX11_image_6 (by decide) (fun _ => ?_) (fun q => absurd (by decide) q)
  refine lv_aload_n hx hb dX11_image_11 rfl (lv_at hl 0 rfl) ?_
  refine z_get C G clX11 0 rfl 1 (by decide) m_fl_RX11_16 rfl dX11_image_12 ?_
  refine lv_iload_n hx hb dX11_image_15 rfl (lv_at hl 1 rfl) ?_
  refine z_ald C G 15 6 rfl rfl (vp_in_nI (n := 0) (by decide) (by decide)) dX11_image_16 ?_
  rw [show qi ((0 : Int32).toNatClampNeg) = some m0 from hm0]
  refine lv_aload_n hx hb dX11_image_17 rfl (lv_at hl 0 rfl) ?_
  refine z_get C G clX11 0 rfl 0 (by decide) m_fl_RX11_10 rfl dX11_image_18 ?_
  refine z_Vv (bc := [wta, z0_a, z1_a, wd0_a, wd1_a, wg0_a, wg1_a, wt, z0_, z1_, wd0_, wd1_, wg0_, wg1_]) (br := [[zO10 xo t im mk rd po co tr wa wb_ fi cd], [zArq T 6 im 3 qi], [zAr T 2 mk 3 fmk]]) (As := [.ref t]) (rest := []) C G (c_f_Told_takeAll l T m0 l0a l1a d0a d1a g0a g1a lna fla pla fta fka wta cr0_a inn0_a k10_a k20_a k30_a k40_a z0_a cr1_a inn1_a k11_a k21_a k31_a k41_a z1_a dd0_a p10_a p20_a p30_a wd0_a dd1_a p11_a p21_a p31_a wd1_a gg0_a q10_a q20_a wg0_a gg1_a q11_a q21_a wg1_a t l0 l1 d0 d1 g0 g1 ln fl pl ft fk wt cr0_ inn0_ k10_ k20_ k30_ k40_ z0_ cr1_ inn1_ k11_ k21_ k31_ k41_ z1_ dd0_ p10_ p20_ p30_ wd0_ dd1_ p11_ p21_ p31_ wd1_ gg0_ q10_ q20_ wg0_ gg1_ q11_ q21_ wg1_ Gr hta (by first | with_reducible assumption | with_reducible rfl | omega | assumption | rfl) hz0_a (by first | with_reducible assumption | with_reducible rfl | omega | assumption | rfl) hz1_a (by first | with_reducible assumption | with_reducible rfl | omega | assumption | rfl) hd0_a hd1_a hg0_a hg1_a ht (by first | with_reducible assumption | with_reducible rfl | omega | assumption | rfl) hz0_ (by first | with_reducible assumption | with_reducible rfl | omega | assumption | rfl) hz1_ (by first | with_reducible assumption | with_reducible rfl | omega | assumption | rfl) hd0_ hd1_ hg0_ hg1_ hT) (kV_RX11_117 C.2.2.2.2 (Nat.le_of_ble_eq_true rfl) (Nat.le_of_ble_eq_true rfl)) [8, 9, 10, 11, 12, 13, 14, 1, 2, 3, 4, 5, 6, 7] [1, 0, 0, 0, 0, 0, 0, 0, 0, 0, 0, 0, 0, 0] rfl rfl (ci := 8) (qc := (RX9, TX9, 8)) rfl rfl (List.mem_flatten.mpr ⟨_, List.mem_of_getElem? (i := 0) rfl, (bTold_mem hta).choose_spec⟩) rfl rfl hl.1 dX11_image_21 (Nat.le_of_ble_eq_true rfl) (Nat.le_of_ble_eq_true rfl) (fun b1 H locs hw G => ?_)
  refine zEx27 hw ?_
  intro wt2_1 g9_2 fk2_3 w2_4 s0_5 s0_6 s0_7 s0_8 w2_9 s1_10 s1_11 s1_12 s1_13 w2_14 s2_15 s2_16 s2_17 w2_18 s3_19 s3_20 s3_21 w2_22 s4_23 s4_24 w2_25 s5_26 s5_27
  refine zCu12 ?_
  intro hbs9 h_28 h_29 h_30 h_31 h_32 h_33 h_34 h_35 h_36 h_37 h_38
  clear hw
  subst hbs9
  have G : zS T A s.heap s [[zO10 xo t im mk rd po co tr wa wb_ fi cd], [zArq T 6 im 3 qi], [zAr T 2 mk 3 fmk], wt2_1, w2_4, w2_9, w2_14, w2_18, w2_22, w2_25, wt, z0_, z1_, wd0_, wd1_, wg0_, wg1_] _ _ := G
  refine lv_aload_n hx hb dX11_image_24 rfl (lv_at hl 0 rfl) ?_
  refine z_get C G clX11 0 rfl 2 (by decide) m_fl_RX11_20 rfl dX11_image_25 ?_
  refine lv_iload_n hx hb dX11_image_28 rfl (lv_at hl 1 rfl) ?_
  refine lv_iconst (v := 1) hx hb dX11_image_29 (by decide) ?_
  refine z_zst C G 2 rfl (vp_in_nI (n := 0) (by decide) (by decide)) dX11_image_30 (fun H locs G => ?_)
  have G : zS T A s.heap s [[zO10 xo t im mk rd po co tr wa wb_ fi cd], [zArq T 6 im 3 qi], [zAr T 2 mk 3 (upd fmk 0 (vp_nar .boolean 1))], wt2_1, w2_4, w2_9, w2_14, w2_18, w2_22, w2_25, wt, z0_, z1_, wd0_, wd1_, wg0_, wg1_] _ _ := G
  refine lv_iconst (v := 1) hx hb dX11_image_31 (by decide) ?_
  have G := G.sub (bs' := [[zO10 xo t im mk rd po co tr wa wb_ fi cd], wt, z0_, z1_, wd0_, wd1_, wg0_, wg1_, wt2_1, w2_4, w2_9, w2_14, w2_18, w2_22, w2_25, [zArq T 6 im 3 qi], [zAr T 2 mk 3 (upd fmk 0 (vp_nar .boolean 1))]]) [0, 10, 11, 12, 13, 14, 15, 16, 3, 4, 5, 6, 7, 8, 9, 1, 2] rfl
  exact z_back hQz_ (z_zret C hr hlocks G (Nat.le_of_ble_eq_true rfl) (Nat.le_of_ble_eq_true rfl) dX11_image_32 rfl ⟨ln, fl, pl, g9_2, fk2_3, wt2_1, cr0_, inn0_, s0_5, s0_6, s0_7, s0_8, w2_4, cr1_, inn1_, s1_10, s1_11, s1_12, s1_13, w2_9, dd0_, s2_15, s2_16, s2_17, w2_14, dd1_, s3_19, s3_20, s3_21, w2_18, gg0_, s4_23, s4_24, w2_22, gg1_, s5_26, s5_27, w2_25, (upd fmk 0 (vp_nar .boolean 1)), rfl, h_28, (by first | with_reducible assumption | omega | trivial | assumption), h_30, (by first | with_reducible assumption | omega | trivial | assumption), h_31, (by first | with_reducible assumption | omega | trivial | assumption), h_32, h_33, h_34, h_35, rfl, rfl, h_38⟩)
set_option maxHeartbeats 4000000 in
set_option maxRecDepth 100000 in
/-- c_f_image1 -/
theorem c_f_image1 (l : Launch) (T : zTy) (xo : Nat) (t : Nat) (im : Nat) (mk : Nat) (rd : Nat) (po : Nat) (co : Nat) (tr : Nat) (wa : Nat) (wb_ : Nat) (fi : Nat) (cd : Nat) (l0 : Nat) (l1 : Nat) (d0 : Nat) (d1 : Nat) (g0 : Nat) (g1 : Nat) (ln : Int32) (fl : Int32) (pl : Int32) (ft : Nat → Int32) (fk : Nat → Int32) (wt : va_W) (cr0_ : Int32) (inn0_ : Int32) (k10_ : Nat → Int32) (k20_ : Nat → Int32) (k30_ : Nat → Int32) (k40_ : Nat → Int32) (z0_ : va_W) (cr1_ : Int32) (inn1_ : Int32) (k11_ : Nat → Int32) (k21_ : Nat → Int32) (k31_ : Nat → Int32) (k41_ : Nat → Int32) (z1_ : va_W) (dd0_ : Int32) (p10_ : Nat → Int32) (p20_ : Nat → Int32) (p30_ : Nat → Int32) (wd0_ : va_W) (dd1_ : Int32) (p11_ : Nat → Int32) (p21_ : Nat → Int32) (p31_ : Nat → Int32) (wd1_ : va_W) (gg0_ : Int32) (q10_ : Nat → Int32) (q20_ : Nat → Int32) (wg0_ : va_W) (gg1_ : Int32) (q11_ : Nat → Int32) (q21_ : Nat → Int32) (wg1_ : va_W) (m0 : Nat) (m1 : Nat) (l0b : Nat) (l1b : Nat) (d0b : Nat) (d1b : Nat) (g0b : Nat) (g1b : Nat) (lnb : Int32) (flb : Int32) (plb : Int32) (ftb : Nat → Int32) (fkb : Nat → Int32) (wtb : va_W) (cr0_b : Int32) (inn0_b : Int32) (k10_b : Nat → Int32) (k20_b : Nat → Int32) (k30_b : Nat → Int32) (k40_b : Nat → Int32) (z0_b : va_W) (cr1_b : Int32) (inn1_b : Int32) (k11_b : Nat → Int32) (k21_b : Nat → Int32) (k31_b : Nat → Int32) (k41_b : Nat → Int32) (z1_b : va_W) (dd0_b : Int32) (p10_b : Nat → Int32) (p20_b : Nat → Int32) (p30_b : Nat → Int32) (wd0_b : va_W) (dd1_b : Int32) (p11_b : Nat → Int32) (p21_b : Nat → Int32) (p31_b : Nat → Int32) (wd1_b : va_W) (gg0_b : Int32) (q10_b : Nat → Int32) (q20_b : Nat → Int32) (wg0_b : va_W) (gg1_b : Int32) (q11_b : Nat → Int32) (q21_b : Nat → Int32) (wg1_b : va_W) (m2 : Nat) (qi : Nat → Option Nat) (fmk : Nat → Int32) (Gr : Nat → Int32) (ht : bTold T t l0 l1 d0 d1 g0 g1 ln fl pl ft fk wt) (hK : zKT fk) (hz0_ : bLand T l0 cr0_ inn0_ k10_ k20_ k30_ k40_ z0_) (hI0_ : zLI cr0_ k10_ k30_) (hz1_ : bLand T l1 cr1_ inn1_ k11_ k21_ k31_ k41_ z1_) (hI1_ : zLI cr1_ k11_ k31_) (hd0_ : bDay T d0 dd0_ p10_ p20_ p30_ wd0_) (hd1_ : bDay T d1 dd1_ p11_ p21_ p31_ wd1_) (hg0_ : bLog T g0 gg0_ q10_ q20_ wg0_) (hg1_ : bLog T g1 gg1_ q11_ q21_ wg1_) (htb : bTold T m1 l0b l1b d0b d1b g0b g1b lnb flb plb ftb fkb wtb) (hKb : zKT fkb) (hz0_b : bLand T l0b cr0_b inn0_b k10_b k20_b k30_b k40_b z0_b) (hI0_b : zLI cr0_b k10_b k30_b) (hz1_b : bLand T l1b cr1_b inn1_b k11_b k21_b k31_b k41_b z1_b) (hI1_b : zLI cr1_b k11_b k31_b) (hd0_b : bDay T d0b dd0_b p10_b p20_b p30_b wd0_b) (hd1_b : bDay T d1b dd1_b p11_b p21_b p31_b wd1_b) (hg0_b : bLog T g0b gg0_b q10_b q20_b wg0_b) (hg1_b : bLog T g1b gg1_b q11_b q21_b wg1_b) (hm0 : qi 0 = some m0) (hm1 : qi 1 = some m1) (hm2 : qi 2 = some m2) (hT : zTR ln fl pl ft fk cr0_ inn0_ k10_ k20_ k30_ k40_ cr1_ inn1_ k11_ k21_ k31_ k41_ dd0_ p10_ p20_ p30_ dd1_ p11_ p21_ p31_ gg0_ q10_ q20_ gg1_ q11_ q21_ Gr) : zMi l T yX11_image cX11_image 2 (some .boolean) 3 0 0 [.ref xo, .int 1] [[zO10 xo t im mk rd po co tr wa wb_ fi cd], wt, z0_, z1_, wd0_, wd1_, wg0_, wg1_, wtb, z0_b, z1_b, wd0_b, wd1_b, wg0_b, wg1_b, [zArq T 6 im 3 qi], [zAr T 2 mk 3 fmk]] (fun (r : Int32) bs => ∃ (lnb_2 : Int32) (flb_2 : Int32) (plb_2 : Int32) (ftb_2 : Nat → Int32) (fkb_2 : Nat → Int32) (wtb_2 : va_W) (cr0_b_2 : Int32) (inn0_b_2 : Int32) (k10_b_2 : Nat → Int32) (k20_b_2 : Nat → Int32) (k30_b_2 : Nat → Int32) (k40_b_2 : Nat → Int32) (z0_b_2 : va_W) (cr1_b_2 : Int32) (inn1_b_2 : Int32) (k11_b_2 : Nat → Int32) (k21_b_2 : Nat → Int32) (k31_b_2 : Nat → Int32) (k41_b_2 : Nat → Int32) (z1_b_2 : va_W) (dd0_b_2 : Int32) (p10_b_2 : Nat → Int32) (p20_b_2 : Nat → Int32) (p30_b_2 : Nat → Int32) (wd0_b_2 : va_W) (dd1_b_2 : Int32) (p11_b_2 : Nat → Int32) (p21_b_2 : Nat → Int32) (p31_b_2 : Nat → Int32) (wd1_b_2 : va_W) (gg0_b_2 : Int32) (q10_b_2 : Nat → Int32) (q20_b_2 : Nat → Int32) (wg0_b_2 : va_W) (gg1_b_2 : Int32) (q11_b_2 : Nat → Int32) (q21_b_2 : Nat → Int32) (wg1_b_2 : va_W) (fmk_2 : Nat → Int32), bs = [[zO10 xo t im mk rd po co tr wa wb_ fi cd], wt, z0_, z1_, wd0_, wd1_, wg0_, wg1_, wtb_2, z0_b_2, z1_b_2, wd0_b_2, wd1_b_2, wg0_b_2, wg1_b_2, [zArq T 6 im 3 qi], [zAr T 2 mk 3 fmk_2]] ∧ bTold T m1 l0b l1b d0b d1b g0b g1b lnb_2 flb_2 plb_2 ftb_2 fkb_2 wtb_2 ∧ zKT fkb_2 ∧ bLand T l0b cr0_b_2 inn0_b_2 k10_b_2 k20_b_2 k30_b_2 k40_b_2 z0_b_2 ∧ zLI cr0_b_2 k10_b_2 k30_b_2 ∧ bLand T l1b cr1_b_2 inn1_b_2 k11_b_2 k21_b_2 k31_b_2 k41_b_2 z1_b_2 ∧ zLI cr1_b_2 k11_b_2 k31_b_2 ∧ bDay T d0b dd0_b_2 p10_b_2 p20_b_2 p30_b_2 wd0_b_2 ∧ bDay T d1b dd1_b_2 p11_b_2 p21_b_2 p31_b_2 wd1_b_2 ∧ bLog T g0b gg0_b_2 q10_b_2 q20_b_2 wg0_b_2 ∧ bLog T g1b gg1_b_2 q11_b_2 q21_b_2 wg1_b_2 ∧ r = 1 ∧ fmk_2 = upd fmk 1 1 ∧ zTR lnb_2 flb_2 plb_2 ftb_2 fkb_2 cr0_b_2 inn0_b_2 k10_b_2 k20_b_2 k30_b_2 k40_b_2 cr1_b_2 inn1_b_2 k11_b_2 k21_b_2 k31_b_2 k41_b_2 dd0_b_2 p10_b_2 p20_b_2 p30_b_2 dd1_b_2 p11_b_2 p21_b_2 p31_b_2 gg0_b_2 q10_b_2 q20_b_2 gg1_b_2 q11_b_2 q21_b_2 Gr) := by
  refine zMi_of (own := RX11) (by decide) rfl (Nat.le_of_ble_eq_true rfl) ?_
  intro p e s m args below meth c A ls C hr hlocks hnm hAe G hl
  refine zHide (fun Qz_ hQz_ => ?_)
  have hx := C.1
  have hb := C.2.1
  have hl : lv_has ls 2 [(0, .ref xo), (1, .int 1)] := hl
  refine lv_iload_n hx hb dX11_image_0 rfl (lv_at hl 1 rfl) ?_
  refine lv_if_lt (tgt := 9) hx hb dX11_image_1 (by decide) (fun q => absurd q (by decide)) (fun _ => ?_)
  refine lv_iload_n hx hb dX11_image_4 rfl (lv_at hl 1 rfl) ?_
  refine lv_iconst (v := 3) hx hb dX11_image_5 (by decide) ?_
  refine lv_icmp_lt (tgt := 11) hx hb dX11_image_6 (by decide) (fun _ => ?_) (fun q => absurd (by decide) q)
  refine lv_aload_n hx hb dX11_image_11 rfl (lv_at hl 0 rfl) ?_
  refine z_get C G clX11 0 rfl 1 (by decide) m_fl_RX11_16 rfl dX11_image_12 ?_
  refine lv_iload_n hx hb dX11_image_15 rfl (lv_at hl 1 rfl) ?_
  refine z_ald C G 15 6 rfl rfl (vp_in_nI (n := 1) (by decide) (by decide)) dX11_image_16 ?_
  rw [show qi ((1 : Int32).toNatClampNeg) = some m1 from hm1]
  refine lv_aload_n hx hb dX11_image_17 rfl (lv_at hl 0 rfl) ?_
  refine z_get C G clX11 0 rfl 0 (by decide) m_fl_RX11_10 rfl dX11_image_18 ?_
  refine z_Vv (bc := [wtb, z0_b, z1_b, wd0_b, wd1_b, wg0_b, wg1_b, wt, z0_, z1_, wd0_, wd1_, wg0_, wg1_]) (br := [[zO10 xo t im mk rd po co tr wa wb_ fi cd], [zArq T 6 im 3 qi], [zAr T 2 mk 3 fmk]]) (As := [.ref t]) (rest := []) C G (c_f_Told_takeAll l T m1 l0b l1b d0b d1b g0b g1b lnb flb plb ftb fkb wtb cr0_b inn0_b k10_b k20_b k30_b k40_b z0_b cr1_b inn1_b k11_b k21_b k31_b k41_b z1_b dd0_b p10_b p20_b p30_b wd0_b dd1_b p11_b p21_b p31_b wd1_b gg0_b q10_b q20_b wg0_b gg1_b q11_b q21_b wg1_b t l0 l1 d0 d1 g0 g1 ln fl pl ft fk wt cr0_ inn0_ k10_ k20_ k30_ k40_ z0_ cr1_ inn1_ k11_ k21_ k31_ k41_ z1_ dd0_ p10_ p20_ p30_ wd0_ dd1_ p11_ p21_ p31_ wd1_ gg0_ q10_ q20_ wg0_ gg1_ q11_ q21_ wg1_ Gr htb (by first | with_reducible assumption | with_reducible rfl | omega | assumption | rfl) hz0_b (by first | with_reducible assumption | with_reducible rfl | omega | assumption | rfl) hz1_b (by first | with_reducible assumption | with_reducible rfl | omega | assumption | rfl) hd0_b hd1_b hg0_b hg1_b ht (by first | with_reducible assumption | with_reducible rfl | omega | assumption | rfl) hz0_ (by first | with_reducible assumption | with_reducible rfl | omega | assumption | rfl) hz1_ (by first | with_reducible assumption | with_reducible rfl | omega | assumption | rfl) hd0_ hd1_ hg0_ hg1_ hT) (kV_RX11_117 C.2.2.2.2 (Nat.le_of_ble_eq_true rfl) (Nat.le_of_ble_eq_true rfl)) [8, 9, 10, 11, 12, 13, 14, 1, 2, 3, 4, 5, 6, 7] [1, 0, 0, 0, 0, 0, 0, 0, 0, 0, 0, 0, 0, 0] rfl rfl (ci := 8) (qc := (RX9, TX9, 8)) rfl rfl (List.mem_flatten.mpr ⟨_, List.mem_of_getElem? (i := 0) rfl, (bTold_mem htb).choose_spec⟩) rfl rfl hl.1 dX11_image_21 (Nat.le_of_ble_eq_true rfl) (Nat.le_of_ble_eq_true rfl) (fun b1 H locs hw G => ?_)
  refine zEx27 hw ?_
  intro wt2_1 g9_2 fk2_3 w2_4 s0_5 s0_6 s0_7 s0_8 w2_9 s1_10 s1_11 s1_12 s1_13 w2_14 s2_15 s2_16 s2_17 w2_18 s3_19 s3_20 s3_21 w2_22 s4_23 s4_24 w2_25 s5_26 s5_27
  refine zCu12 ?_
  intro hbs9 h_28 h_29 h_30 h_31 h_32 h_33 h_34 h_35 h_36 h_37 h_38
  clear hw
  subst hbs9
  have G : zS T A s.heap s [[zO10 xo t im mk rd po co tr wa wb_ fi cd], [zArq T 6 im 3 qi], [zAr T 2 mk 3 fmk], wt2_1, w2_4, w2_9, w2_14, w2_18, w2_22, w2_25, wt, z0_, z1_, wd0_, wd1_, wg0_, wg1_] _ _ := G
  refine lv_aload_n hx hb dX11_image_24 rfl (lv_at hl 0 rfl) ?_
  refine z_get C G clX11 0 rfl 2 (by decide) m_fl_RX11_20 rfl dX11_image_25 ?_
  refine lv_iload_n hx hb dX11_image_28 rfl (lv_at hl 1 rfl) ?_
  refine lv_iconst (v := 1) hx hb dX11_image_29 (by decide) ?_
  refine z_zst C G 2 rfl (vp_in_nI (n := 1) (by decide) (by decide)) dX11_image_30 (fun H locs G => ?_)
  have G : zS T A s.heap s [[zO10 xo t im mk rd po co tr wa wb_ fi cd], [zArq T 6 im 3 qi], [zAr T 2 mk 3 (upd fmk 1 (vp_nar .boolean 1))], wt2_1, w2_4, w2_9, w2_14, w2_18, w2_22, w2_25, wt, z0_, z1_, wd0_, wd1_, wg0_, wg1_] _ _ := G
  refine lv_iconst (v := 1) hx hb dX11_image_31 (by decide) ?_
  have G := G.sub (bs' := [[zO10 xo t im mk rd po co tr wa wb_ fi cd], wt, z0_, z1_, wd0_, wd1_, wg0_, wg1_, wt2_1, w2_4, w2_9, w2_14, w2_18, w2_22, w2_25, [zArq T 6 im 3 qi], [zAr T 2 mk 3 (upd fmk 1 (vp_nar .boolean 1))]]) [0, 10, 11, 12, 13, 14, 15, 16, 3, 4, 5, 6, 7, 8, 9, 1, 2] rfl
  exact z_back hQz_ (z_zret C hr hlocks G (Nat.le_of_ble_eq_true rfl) (Nat.le_of_ble_eq_true rfl) dX11_image_32 rfl ⟨ln, fl, pl, g9_2, fk2_3, wt2_1, cr0_, inn0_, s0_5, s0_6, s0_7, s0_8, w2_4, cr1_, inn1_, s1_10, s1_11, s1_12, s1_13, w2_9, dd0_, s2_15, s2_16, s2_17, w2_14, dd1_, s3_19, s3_20, s3_21, w2_18, gg0_, s4_23, s4_24, w2_22, gg1_, s5_26, s5_27, w2_25, (upd fmk 1 (vp_nar .boolean 1)), rfl, h_28, (by first | with_reducible assumption | omega | trivial | assumption), h_30, (by first | with_reducible assumption | omega | trivial | assumption), h_31, (by first | with_reducible assumption | omega | trivial | assumption), h_32, h_33, h_34, h_35, rfl, rfl, h_38⟩)
set_option maxHeartbeats 4000000 in
set_option maxRecDepth 100000 in
/-- c_f_image2 -/
theorem c_f_image2 (l : Launch) (T : zTy) (xo : Nat) (t : Nat) (im : Nat) (mk : Nat) (rd : Nat) (po : Nat) (co : Nat) (tr : Nat) (wa : Nat) (wb_ : Nat) (fi : Nat) (cd : Nat) (l0 : Nat) (l1 : Nat) (d0 : Nat) (d1 : Nat) (g0 : Nat) (g1 : Nat) (ln : Int32) (fl : Int32) (pl : Int32) (ft : Nat → Int32) (fk : Nat → Int32) (wt : va_W) (cr0_ : Int32) (inn0_ : Int32) (k10_ : Nat → Int32) (k20_ : Nat → Int32) (k30_ : Nat → Int32) (k40_ : Nat → Int32) (z0_ : va_W) (cr1_ : Int32) (inn1_ : Int32) (k11_ : Nat → Int32) (k21_ : Nat → Int32) (k31_ : Nat → Int32) (k41_ : Nat → Int32) (z1_ : va_W) (dd0_ : Int32) (p10_ : Nat → Int32) (p20_ : Nat → Int32) (p30_ : Nat → Int32) (wd0_ : va_W) (dd1_ : Int32) (p11_ : Nat → Int32) (p21_ : Nat → Int32) (p31_ : Nat → Int32) (wd1_ : va_W) (gg0_ : Int32) (q10_ : Nat → Int32) (q20_ : Nat → Int32) (wg0_ : va_W) (gg1_ : Int32) (q11_ : Nat → Int32) (q21_ : Nat → Int32) (wg1_ : va_W) (m0 : Nat) (m1 : Nat) (m2 : Nat) (l0c : Nat) (l1c : Nat) (d0c : Nat) (d1c : Nat) (g0c : Nat) (g1c : Nat) (lnc : Int32) (flc : Int32) (plc : Int32) (ftc : Nat → Int32) (fkc : Nat → Int32) (wtc : va_W) (cr0_c : Int32) (inn0_c : Int32) (k10_c : Nat → Int32) (k20_c : Nat → Int32) (k30_c : Nat → Int32) (k40_c : Nat → Int32) (z0_c : va_W) (cr1_c : Int32) (inn1_c : Int32) (k11_c : Nat → Int32) (k21_c : Nat → Int32) (k31_c : Nat → Int32) (k41_c : Nat → Int32) (z1_c : va_W) (dd0_c : Int32) (p10_c : Nat → Int32) (p20_c : Nat → Int32) (p30_c : Nat → Int32) (wd0_c : va_W) (dd1_c : Int32) (p11_c : Nat → Int32) (p21_c : Nat → Int32) (p31_c : Nat → Int32) (wd1_c : va_W) (gg0_c : Int32) (q10_c : Nat → Int32) (q20_c : Nat → Int32) (wg0_c : va_W) (gg1_c : Int32) (q11_c : Nat → Int32) (q21_c : Nat → Int32) (wg1_c : va_W) (qi : Nat → Option Nat) (fmk : Nat → Int32) (Gr : Nat → Int32) (ht : bTold T t l0 l1 d0 d1 g0 g1 ln fl pl ft fk wt) (hK : zKT fk) (hz0_ : bLand T l0 cr0_ inn0_ k10_ k20_ k30_ k40_ z0_) (hI0_ : zLI cr0_ k10_ k30_) (hz1_ : bLand T l1 cr1_ inn1_ k11_ k21_ k31_ k41_ z1_) (hI1_ : zLI cr1_ k11_ k31_) (hd0_ : bDay T d0 dd0_ p10_ p20_ p30_ wd0_) (hd1_ : bDay T d1 dd1_ p11_ p21_ p31_ wd1_) (hg0_ : bLog T g0 gg0_ q10_ q20_ wg0_) (hg1_ : bLog T g1 gg1_ q11_ q21_ wg1_) (htc : bTold T m2 l0c l1c d0c d1c g0c g1c lnc flc plc ftc fkc wtc) (hKc : zKT fkc) (hz0_c : bLand T l0c cr0_c inn0_c k10_c k20_c k30_c k40_c z0_c) (hI0_c : zLI cr0_c k10_c k30_c) (hz1_c : bLand T l1c cr1_c inn1_c k11_c k21_c k31_c k41_c z1_c) (hI1_c : zLI cr1_c k11_c k31_c) (hd0_c : bDay T d0c dd0_c p10_c p20_c p30_c wd0_c) (hd1_c : bDay T d1c dd1_c p11_c p21_c p31_c wd1_c) (hg0_c : bLog T g0c gg0_c q10_c q20_c wg0_c) (hg1_c : bLog T g1c gg1_c q11_c q21_c wg1_c) (hm0 : qi 0 = some m0) (hm1 : qi 1 = some m1) (hm2 : qi 2 = some m2) (hT : zTR ln fl pl ft fk cr0_ inn0_ k10_ k20_ k30_ k40_ cr1_ inn1_ k11_ k21_ k31_ k41_ dd0_ p10_ p20_ p30_ dd1_ p11_ p21_ p31_ gg0_ q10_ q20_ gg1_ q11_ q21_ Gr) : zMi l T yX11_image cX11_image 2 (some .boolean) 3 0 0 [.ref xo, .int 2] [[zO10 xo t im mk rd po co tr wa wb_ fi cd], wt, z0_, z1_, wd0_, wd1_, wg0_, wg1_, wtc, z0_c, z1_c, wd0_c, wd1_c, wg0_c, wg1_c, [zArq T 6 im 3 qi], [zAr T 2 mk 3 fmk]] (fun (r : Int32) bs => ∃ (lnc_2 : Int32) (flc_2 : Int32) (plc_2 : Int32) (ftc_2 : Nat → Int32) (fkc_2 : Nat → Int32) (wtc_2 : va_W) (cr0_c_2 : Int32) (inn0_c_2 : Int32) (k10_c_2 : Nat → Int32) (k20_c_2 : Nat → Int32) (k30_c_2 : Nat → Int32) (k40_c_2 : Nat → Int32) (z0_c_2 : va_W) (cr1_c_2 : Int32) (inn1_c_2 : Int32) (k11_c_2 : Nat → Int32) (k21_c_2 : Nat → Int32) (k31_c_2 : Nat → Int32) (k41_c_2 : Nat → Int32) (z1_c_2 : va_W) (dd0_c_2 : Int32) (p10_c_2 : Nat → Int32) (p20_c_2 : Nat → Int32) (p30_c_2 : Nat → Int32) (wd0_c_2 : va_W) (dd1_c_2 : Int32) (p11_c_2 : Nat → Int32) (p21_c_2 : Nat → Int32) (p31_c_2 : Nat → Int32) (wd1_c_2 : va_W) (gg0_c_2 : Int32) (q10_c_2 : Nat → Int32) (q20_c_2 : Nat → Int32) (wg0_c_2 : va_W) (gg1_c_2 : Int32) (q11_c_2 : Nat → Int32) (q21_c_2 : Nat → Int32) (wg1_c_2 : va_W) (fmk_2 : Nat → Int32), bs = [[zO10 xo t im mk rd po co tr wa wb_ fi cd], wt, z0_, z1_, wd0_, wd1_, wg0_, wg1_, wtc_2, z0_c_2, z1_c_2, wd0_c_2, wd1_c_2, wg0_c_2, wg1_c_2, [zArq T 6 im 3 qi], [zAr T 2 mk 3 fmk_2]] ∧ bTold T m2 l0c l1c d0c d1c g0c g1c lnc_2 flc_2 plc_2 ftc_2 fkc_2 wtc_2 ∧ zKT fkc_2 ∧ bLand T l0c cr0_c_2 inn0_c_2 k10_c_2 k20_c_2 k30_c_2 k40_c_2 z0_c_2 ∧ zLI cr0_c_2 k10_c_2 k30_c_2 ∧ bLand T l1c cr1_c_2 inn1_c_2 k11_c_2 k21_c_2 k31_c_2 k41_c_2 z1_c_2 ∧ zLI cr1_c_2 k11_c_2 k31_c_2 ∧ bDay T d0c dd0_c_2 p10_c_2 p20_c_2 p30_c_2 wd0_c_2 ∧ bDay T d1c dd1_c_2 p11_c_2 p21_c_2 p31_c_2 wd1_c_2 ∧ bLog T g0c gg0_c_2 q10_c_2 q20_c_2 wg0_c_2 ∧ bLog T g1c gg1_c_2 q11_c_2 q21_c_2 wg1_c_2 ∧ r = 1 ∧ fmk_2 = upd fmk 2 1 ∧ zTR lnc_2 flc_2 plc_2 ftc_2 fkc_2 cr0_c_2 inn0_c_2 k10_c_2 k20_c_2 k30_c_2 k40_c_2 cr1_c_2 inn1_c_2 k11_c_2 k21_c_2 k31_c_2 k41_c_2 dd0_c_2 p10_c_2 p20_c_2 p30_c_2 dd1_c_2 p11_c_2 p21_c_2 p31_c_2 gg0_c_2 q10_c_2 q20_c_2 gg1_c_2 q11_c_2 q21_c_2 Gr) := by
  refine zMi_of (own := RX11) (by decide) rfl (Nat.le_of_ble_eq_true rfl) ?_
  intro p e s m args below meth c A ls C hr hlocks hnm hAe G hl
  refine zHide (fun Qz_ hQz_ => ?_)
  have hx := C.1
  have hb := C.2.1
  have hl : lv_has ls 2 [(0, .ref xo), (1, .int 2)] := hl
  refine lv_iload_n hx hb dX11_image_0 rfl (lv_at hl 1 rfl) ?_
  refine lv_if_lt (tgt := 9) hx hb dX11_image_1 (by decide) (fun q => absurd q (by decide)) (fun _ => ?_)
  refine lv_iload_n hx hb dX11_image_4 rfl (lv_at hl 1 rfl) ?_
  refine lv_iconst (v := 3) hx hb dX11_image_5 (by decide) ?_
  refine lv_icmp_lt (tgt := 11) hx hb dX11_image_6 (by decide) (fun _ => ?_) (fun q => absurd (by decide) q)
  refine lv_aload_n hx hb dX11_image_11 rfl (lv_at hl 0 rfl) ?_
  refine z_get C G clX11 0 rfl 1 (by decide) m_fl_RX11_16 rfl dX11_image_12 ?_
  refine lv_iload_n hx hb dX11_image_15 rfl (lv_at hl 1 rfl) ?_
  refine z_ald C G 15 6 rfl rfl (vp_in_nI (n := 2) (by decide) (by decide)) dX11_image_16 ?_
  rw [show qi ((2 : Int32).toNatClampNeg) = some m2 from hm2]
  refine lv_aload_n hx hb dX11_image_17 rfl (lv_at hl 0 rfl) ?_
  refine z_get C G clX11 0 rfl 0 (by decide) m_fl_RX11_10 rfl dX11_image_18 ?_
  refine z_Vv (bc := [wtc, z0_c, z1_c, wd0_c, wd1_c, wg0_c, wg1_c, wt, z0_, z1_, wd0_, wd1_, wg0_, wg1_]) (br := [[zO10 xo t im mk rd po co tr wa wb_ fi cd], [zArq T 6 im 3 qi], [zAr T 2 mk 3 fmk]]) (As := [.ref t]) (rest := []) C G (c_f_Told_takeAll l T m2 l0c l1c d0c d1c g0c g1c lnc flc plc ftc fkc wtc cr0_c inn0_c k10_c k20_c k30_c k40_c z0_c cr1_c inn1_c k11_c k21_c k31_c k41_c z1_c dd0_c p10_c p20_c p30_c wd0_c dd1_c p11_c p21_c p31_c wd1_c gg0_c q10_c q20_c wg0_c gg1_c q11_c q21_c wg1_c t l0 l1 d0 d1 g0 g1 ln fl pl ft fk wt cr0_ inn0_ k10_ k20_ k30_ k40_ z0_ cr1_ inn1_ k11_ k21_ k31_ k41_ z1_ dd0_ p10_ p20_ p30_ wd0_ dd1_ p11_ p21_ p31_ wd1_ gg0_ q10_ q20_ wg0_ gg1_ q11_ q21_ wg1_ Gr htc (by first | with_reducible assumption | with_reducible rfl | omega | assumption | rfl) hz0_c (by first | with_reducible assumption | with_reducible rfl | omega | assumption | rfl) hz1_c (by first | with_reducible assumption | with_reducible rfl | omega | assumption | rfl) hd0_c hd1_c hg0_c hg1_c ht (by first | with_reducible assumption | with_reducible rfl | omega | assumption | rfl) hz0_ (by first | with_reducible assumption | with_reducible rfl | omega | assumption | rfl) hz1_ (by first | with_reducible assumption | with_reducible rfl | omega | assumption | rfl) hd0_ hd1_ hg0_ hg1_ hT) (kV_RX11_117 C.2.2.2.2 (Nat.le_of_ble_eq_true rfl) (Nat.le_of_ble_eq_true rfl)) [8, 9, 10, 11, 12, 13, 14, 1, 2, 3, 4, 5, 6, 7] [1, 0, 0, 0, 0, 0, 0, 0, 0, 0, 0, 0, 0, 0] rfl rfl (ci := 8) (qc := (RX9, TX9, 8)) rfl rfl (List.mem_flatten.mpr ⟨_, List.mem_of_getElem? (i := 0) rfl, (bTold_mem htc).choose_spec⟩) rfl rfl hl.1 dX11_image_21 (Nat.le_of_ble_eq_true rfl) (Nat.le_of_ble_eq_true rfl) (fun b1 H locs hw G => ?_)
  refine zEx27 hw ?_
  intro wt2_1 g9_2 fk2_3 w2_4 s0_5 s0_6 s0_7 s0_8 w2_9 s1_10 s1_11 s1_12 s1_13 w2_14 s2_15 s2_16 s2_17 w2_18 s3_19 s3_20 s3_21 w2_22 s4_23 s4_24 w2_25 s5_26 s5_27
  refine zCu12 ?_
  intro hbs9 h_28 h_29 h_30 h_31 h_32 h_33 h_34 h_35 h_36 h_37 h_38
  clear hw
  subst hbs9
  have G : zS T A s.heap s [[zO10 xo t im mk rd po co tr wa wb_ fi cd], [zArq T 6 im 3 qi], [zAr T 2 mk 3 fmk], wt2_1, w2_4, w2_9, w2_14, w2_18, w2_22, w2_25, wt, z0_, z1_, wd0_, wd1_, wg0_, wg1_] _ _ := G
  refine lv_aload_n hx hb dX11_image_24 rfl (lv_at hl 0 rfl) ?_
  refine z_get C G clX11 0 rfl 2 (by decide) m_fl_RX11_20 rfl dX11_image_25 ?_
  refine lv_iload_n hx hb dX11_image_28 rfl (lv_at hl 1 rfl) ?_
  refine lv_iconst (v := 1) hx hb dX11_image_29 (by decide) ?_
  refine z_zst C G 2 rfl (vp_in_nI (n := 2) (by decide) (by decide)) dX11_image_30 (fun H locs G => ?_)
  have G : zS T A s.heap s [[zO10 xo t im mk rd po co tr wa wb_ fi cd], [zArq T 6 im 3 qi], [zAr T 2 mk 3 (upd fmk 2 (vp_nar .boolean 1))], wt2_1, w2_4, w2_9, w2_14, w2_18, w2_22, w2_25, wt, z0_, z1_, wd0_, wd1_, wg0_, wg1_] _ _ := G
  refine lv_iconst (v := 1) hx hb dX11_image_31 (by decide) ?_
  have G := G.sub (bs' := [[zO10 xo t im mk rd po co tr wa wb_ fi cd], wt, z0_, z1_, wd0_, wd1_, wg0_, wg1_, wt2_1, w2_4, w2_9, w2_14, w2_18, w2_22, w2_25, [zArq T 6 im 3 qi], [zAr T 2 mk 3 (upd fmk 2 (vp_nar .boolean 1))]]) [0, 10, 11, 12, 13, 14, 15, 16, 3, 4, 5, 6, 7, 8, 9, 1, 2] rfl
  exact z_back hQz_ (z_zret C hr hlocks G (Nat.le_of_ble_eq_true rfl) (Nat.le_of_ble_eq_true rfl) dX11_image_32 rfl ⟨ln, fl, pl, g9_2, fk2_3, wt2_1, cr0_, inn0_, s0_5, s0_6, s0_7, s0_8, w2_4, cr1_, inn1_, s1_10, s1_11, s1_12, s1_13, w2_9, dd0_, s2_15, s2_16, s2_17, w2_14, dd1_, s3_19, s3_20, s3_21, w2_18, gg0_, s4_23, s4_24, w2_22, gg1_, s5_26, s5_27, w2_25, (upd fmk 2 (vp_nar .boolean 1)), rfl, h_28, (by first | with_reducible assumption | omega | trivial | assumption), h_30, (by first | with_reducible assumption | omega | trivial | assumption), h_31, (by first | with_reducible assumption | omega | trivial | assumption), h_32, h_33, h_34, h_35, rfl, rfl, h_38⟩)
set_option maxHeartbeats 4000000 in
set_option maxRecDepth 100000 in
/-- c_f_again0 -/
theorem c_f_again0 (l : Launch) (T : zTy) (xo : Nat) (t : Nat) (im : Nat) (mk : Nat) (rd : Nat) (po : Nat) (co : Nat) (tr : Nat) (wa : Nat) (wb_ : Nat) (fi : Nat) (cd : Nat) (l0 : Nat) (l1 : Nat) (d0 : Nat) (d1 : Nat) (g0 : Nat) (g1 : Nat) (ln : Int32) (fl : Int32) (pl : Int32) (ft : Nat → Int32) (fk : Nat → Int32) (wt : va_W) (cr0_ : Int32) (inn0_ : Int32) (k10_ : Nat → Int32) (k20_ : Nat → Int32) (k30_ : Nat → Int32) (k40_ : Nat → Int32) (z0_ : va_W) (cr1_ : Int32) (inn1_ : Int32) (k11_ : Nat → Int32) (k21_ : Nat → Int32) (k31_ : Nat → Int32) (k41_ : Nat → Int32) (z1_ : va_W) (dd0_ : Int32) (p10_ : Nat → Int32) (p20_ : Nat → Int32) (p30_ : Nat → Int32) (wd0_ : va_W) (dd1_ : Int32) (p11_ : Nat → Int32) (p21_ : Nat → Int32) (p31_ : Nat → Int32) (wd1_ : va_W) (gg0_ : Int32) (q10_ : Nat → Int32) (q20_ : Nat → Int32) (wg0_ : va_W) (gg1_ : Int32) (q11_ : Nat → Int32) (q21_ : Nat → Int32) (wg1_ : va_W) (m0 : Nat) (l0a : Nat) (l1a : Nat) (d0a : Nat) (d1a : Nat) (g0a : Nat) (g1a : Nat) (lna : Int32) (fla : Int32) (pla : Int32) (fta : Nat → Int32) (fka : Nat → Int32) (wta : va_W) (cr0_a : Int32) (inn0_a : Int32) (k10_a : Nat → Int32) (k20_a : Nat → Int32) (k30_a : Nat → Int32) (k40_a : Nat → Int32) (z0_a : va_W) (cr1_a : Int32) (inn1_a : Int32) (k11_a : Nat → Int32) (k21_a : Nat → Int32) (k31_a : Nat → Int32) (k41_a : Nat → Int32) (z1_a : va_W) (dd0_a : Int32) (p10_a : Nat → Int32) (p20_a : Nat → Int32) (p30_a : Nat → Int32) (wd0_a : va_W) (dd1_a : Int32) (p11_a : Nat → Int32) (p21_a : Nat → Int32) (p31_a : Nat → Int32) (wd1_a : va_W) (gg0_a : Int32) (q10_a : Nat → Int32) (q20_a : Nat → Int32) (wg0_a : va_W) (gg1_a : Int32) (q11_a : Nat → Int32) (q21_a : Nat → Int32) (wg1_a : va_W) (m1 : Nat) (m2 : Nat) (qi : Nat → Option Nat) (fmk : Nat → Int32) (laA : Nat) (mdA : Int32) (wyA : Int32) (pc_A : Int32) (f1A : Nat → Int32) (f2A : Nat → Int32) (f3A : Nat → Int32) (f4A : Nat → Int32) (f5A : Nat → Int32) (f6A : Nat → Int32) (n4A : Nat) (wwA : va_W) (laB : Nat) (mdB : Int32) (wyB : Int32) (pc_B : Int32) (f1B : Nat → Int32) (f2B : Nat → Int32) (f3B : Nat → Int32) (f4B : Nat → Int32) (f5B : Nat → Int32) (f6B : Nat → Int32) (n4B : Nat) (wwB : va_W) (e0f : Int32) (e1f : Int32) (e2f : Int32) (e3f : Int32) (e4f : Int32) (e5f : Int32) (r1f : Nat → Int32) (m1f : Nat) (r2f : Nat → Int32) (wff : va_W) (Gr : Nat → Int32) (Gw : Nat → Int32) (ht : bTold T t l0 l1 d0 d1 g0 g1 ln fl pl ft fk wt) (hK : zKT fk) (hz0_ : bLand T l0 cr0_ inn0_ k10_ k20_ k30_ k40_ z0_) (hI0_ : zLI cr0_ k10_ k30_) (hz1_ : bLand T l1 cr1_ inn1_ k11_ k21_ k31_ k41_ z1_) (hI1_ : zLI cr1_ k11_ k31_) (hd0_ : bDay T d0 dd0_ p10_ p20_ p30_ wd0_) (hd1_ : bDay T d1 dd1_ p11_ p21_ p31_ wd1_) (hg0_ : bLog T g0 gg0_ q10_ q20_ wg0_) (hg1_ : bLog T g1 gg1_ q11_ q21_ wg1_) (hta : bTold T m0 l0a l1a d0a d1a g0a g1a lna fla pla fta fka wta) (hKa : zKT fka) (hz0_a : bLand T l0a cr0_a inn0_a k10_a k20_a k30_a k40_a z0_a) (hI0_a : zLI cr0_a k10_a k30_a) (hz1_a : bLand T l1a cr1_a inn1_a k11_a k21_a k31_a k41_a z1_a) (hI1_a : zLI cr1_a k11_a k31_a) (hd0_a : bDay T d0a dd0_a p10_a p20_a p30_a wd0_a) (hd1_a : bDay T d1a dd1_a p11_a p21_a p31_a wd1_a) (hg0_a : bLog T g0a gg0_a q10_a q20_a wg0_a) (hg1_a : bLog T g1a gg1_a q11_a q21_a wg1_a) (hm0 : qi 0 = some m0) (hm1 : qi 1 = some m1) (hm2 : qi 2 = some m2) (hwwA : bWays T wa laA mdA wyA pc_A f1A f2A f3A f4A f5A f6A n4A wwA) (hwwB : bWays T wb_ laB mdB wyB pc_B f1B f2B f3B f4B f5B f6B n4B wwB) (hwff : bFit T fi e0f e1f e2f e3f e4f e5f r1f m1f r2f wff) (hT : zTR ln fl pl ft fk cr0_ inn0_ k10_ k20_ k30_ k40_ cr1_ inn1_ k11_ k21_ k31_ k41_ dd0_ p10_ p20_ p30_ dd1_ p11_ p21_ p31_ gg0_ q10_ q20_ gg1_ q11_ q21_ Gr) (hTw : (¬ fmk 0 = 0 → zTR lna fla pla fta fka cr0_a inn0_a k10_a k20_a k30_a k40_a cr1_a inn1_a k11_a k21_a k31_a k41_a dd0_a p10_a p20_a p30_a dd1_a p11_a p21_a p31_a gg0_a q10_a q20_a gg1_a q11_a q21_a Gw)) : zMi l T yX11_again cX11_again 2 (some .boolean) 3 0 0 [.ref xo, .int 0] [[zO10 xo t im mk rd po co tr wa wb_ fi cd], wt, z0_, z1_, wd0_, wd1_, wg0_, wg1_, wta, z0_a, z1_a, wd0_a, wd1_a, wg0_a, wg1_a, [zArq T 6 im 3 qi], [zAr T 2 mk 3 fmk], wwA, wwB, wff] (fun (r : Int32) bs => ∃ (ln_2 : Int32) (fl_2 : Int32) (pl_2 : Int32) (ft_2 : Nat → Int32) (fk_2 : Nat → Int32) (wt_2 : va_W) (cr0__2 : Int32) (inn0__2 : Int32) (k10__2 : Nat → Int32) (k20__2 : Nat → Int32) (k30__2 : Nat → Int32) (k40__2 : Nat → Int32) (z0__2 : va_W) (cr1__2 : Int32) (inn1__2 : Int32) (k11__2 : Nat → Int32) (k21__2 : Nat → Int32) (k31__2 : Nat → Int32) (k41__2 : Nat → Int32) (z1__2 : va_W) (dd0__2 : Int32) (p10__2 : Nat → Int32) (p20__2 : Nat → Int32) (p30__2 : Nat → Int32) (wd0__2 : va_W) (dd1__2 : Int32) (p11__2 : Nat → Int32) (p21__2 : Nat → Int32) (p31__2 : Nat → Int32) (wd1__2 : va_W) (gg0__2 : Int32) (q10__2 : Nat → Int32) (q20__2 : Nat → Int32) (wg0__2 : va_W) (gg1__2 : Int32) (q11__2 : Nat → Int32) (q21__2 : Nat → Int32) (wg1__2 : va_W) (wwA_2 : va_W) (wwB_2 : va_W) (wff_2 : va_W) (mdA_2 : Int32) (mdB_2 : Int32) (e0f_2 : Int32), bs = [[zO10 xo t im mk rd po co tr wa wb_ fi cd], wt_2, z0__2, z1__2, wd0__2, wd1__2, wg0__2, wg1__2, wta, z0_a, z1_a, wd0_a, wd1_a, wg0_a, wg1_a, [zArq T 6 im 3 qi], [zAr T 2 mk 3 fmk], wwA_2, wwB_2, wff_2] ∧ bTold T t l0 l1 d0 d1 g0 g1 ln_2 fl_2 pl_2 ft_2 fk_2 wt_2 ∧ zKT fk_2 ∧ bLand T l0 cr0__2 inn0__2 k10__2 k20__2 k30__2 k40__2 z0__2 ∧ zLI cr0__2 k10__2 k30__2 ∧ bLand T l1 cr1__2 inn1__2 k11__2 k21__2 k31__2 k41__2 z1__2 ∧ zLI cr1__2 k11__2 k31__2 ∧ bDay T d0 dd0__2 p10__2 p20__2 p30__2 wd0__2 ∧ bDay T d1 dd1__2 p11__2 p21__2 p31__2 wd1__2 ∧ bLog T g0 gg0__2 q10__2 q20__2 wg0__2 ∧ bLog T g1 gg1__2 q11__2 q21__2 wg1__2 ∧ bWays T wa laA mdA_2 wyA pc_A f1A f2A f3A f4A f5A f6A n4A wwA_2 ∧ bWays T wb_ laB mdB_2 wyB pc_B f1B f2B f3B f4B f5B f6B n4B wwB_2 ∧ bFit T fi e0f_2 e1f e2f e3f e4f e5f r1f m1f r2f wff_2 ∧ (mdA_2 = 0 ∧ mdB_2 = 0 ∧ e0f_2 = 0 ∨ mdA_2 = mdA ∧ mdB_2 = mdB ∧ e0f_2 = 0 ∨ mdA_2 = mdA ∧ mdB_2 = mdB ∧ e0f_2 = e0f) ∧ (fmk 0 = 0 ∧ r = 0 ∧ zTR ln_2 fl_2 pl_2 ft_2 fk_2 cr0__2 inn0__2 k10__2 k20__2 k30__2 k40__2 cr1__2 inn1__2 k11__2 k21__2 k31__2 k41__2 dd0__2 p10__2 p20__2 p30__2 dd1__2 p11__2 p21__2 p31__2 gg0__2 q10__2 q20__2 gg1__2 q11__2 q21__2 Gr ∨ ¬ fmk 0 = 0 ∧ r = 1 ∧ zTR ln_2 fl_2 pl_2 ft_2 fk_2 cr0__2 inn0__2 k10__2 k20__2 k30__2 k40__2 cr1__2 inn1__2 k11__2 k21__2 k31__2 k41__2 dd0__2 p10__2 p20__2 p30__2 dd1__2 p11__2 p21__2 p31__2 gg0__2 q10__2 q20__2 gg1__2 q11__2 q21__2 Gw)) := by
  refine zMi_of (own := RX11) (by decide) rfl (Nat.le_of_ble_eq_true rfl) ?_
  intro p e s m args below meth c A ls C hr hlocks hnm hAe G hl
  refine zHide (fun Qz_ hQz_ => ?_)
  have hx := C.1
  have hb := C.2.1
  replace hTw : zHd ((¬ fmk 0 = 0 → zTR lna fla pla fta fka cr0_a inn0_a k10_a k20_a k30_a k40_a cr1_a inn1_a k11_a k21_a k31_a k41_a dd0_a p10_a p20_a p30_a dd1_a p11_a p21_a p31_a gg0_a q10_a q20_a gg1_a q11_a q21_a Gw)) := hTw
  have hl : lv_has ls 2 [(0, .ref xo), (1, .int 0)] := hl
  refine lv_iload_n hx hb dX11_again_0 rfl (lv_at hl 1 rfl) ?_
  refine lv_if_lt (tgt := 18) hx hb dX11_again_1 (by decide) (fun q => absurd q (by decide)) (fun _ => ?_)
  refine lv_iload_n hx hb dX11_again_4 rfl (lv_at hl 1 rfl) ?_
  refine lv_iconst (v := 3) hx hb dX11_again_5 (by decide) ?_
  refine lv_icmp_ge (tgt := 18) hx hb dX11_again_6 (by decide) (fun q => absurd q (by decide)) (fun _ => ?_)
  refine lv_aload_n hx hb dX11_again_9 rfl (lv_at hl 0 rfl) ?_
  refine z_get C G clX11 0 rfl 2 (by decide) m_fl_RX11_20 rfl dX11_again_10 ?_
  refine lv_iload_n hx hb dX11_again_13 rfl (lv_at hl 1 rfl) ?_
  refine z_zld C G 16 rfl (vp_in_nI (n := 0) (by decide) (by decide)) dX11_again_14 ?_
  refine lv_topi (fun v_1 ev_1 => ?_)
  rw [show ((0 : Int32).toNatClampNeg) = 0 from rfl] at ev_1
  subst ev_1
  refine lv_if_ne (tgt := 20) hx hb dX11_again_15 (by decide) (fun c_2 => ?_) (fun c_2 => ?_)
  · have c_2n : ¬ (fmk 0).toInt = (0 : Int) := fun q => c_2 ((fa_eq _ _).mpr q)
    refine lv_aload_n hx hb dX11_again_20 rfl (lv_at hl 0 rfl) ?_
    refine z_get C G clX11 0 rfl 0 (by decide) m_fl_RX11_10 rfl dX11_again_21 ?_
    refine lv_aload_n hx hb dX11_again_24 rfl (lv_at hl 0 rfl) ?_
    refine z_get C G clX11 0 rfl 1 (by decide) m_fl_RX11_16 rfl dX11_again_25 ?_
    refine lv_iload_n hx hb dX11_again_28 rfl (lv_at hl 1 rfl) ?_
    refine z_ald C G 15 6 rfl rfl (vp_in_nI (n := 0) (by decide) (by decide)) dX11_again_29 ?_
    rw [show qi ((0 : Int32).toNatClampNeg) = some m0 from hm0]
    refine z_Vv (bc := [wt, z0_, z1_, wd0_, wd1_, wg0_, wg1_, wta, z0_a, z1_a, wd0_a, wd1_a, wg0_a, wg1_a]) (br := [[zO10 xo t im mk rd po co tr wa wb_ fi cd], [zArq T 6 im 3 qi], [zAr T 2 mk 3 fmk], wwA, wwB, wff]) (As := [.ref m0]) (rest := []) C G (c_f_Told_takeAll l T t l0 l1 d0 d1 g0 g1 ln fl pl ft fk wt cr0_ inn0_ k10_ k20_ k30_ k40_ z0_ cr1_ inn1_ k11_ k21_ k31_ k41_ z1_ dd0_ p10_ p20_ p30_ wd0_ dd1_ p11_ p21_ p31_ wd1_ gg0_ q10_ q20_ wg0_ gg1_ q11_ q21_ wg1_ m0 l0a l1a d0a d1a g0a g1a lna fla pla fta fka wta cr0_a inn0_a k10_a k20_a k30_a k40_a z0_a cr1_a inn1_a k11_a k21_a k31_a k41_a z1_a dd0_a p10_a p20_a p30_a wd0_a dd1_a p11_a p21_a p31_a wd1_a gg0_a q10_a q20_a wg0_a gg1_a q11_a q21_a wg1_a Gw ht (by first | with_reducible assumption | with_reducible rfl | omega | assumption | rfl) hz0_ (by first | with_reducible assumption | with_reducible rfl | omega | assumption | rfl) hz1_ (by first | with_reducible assumption | with_reducible rfl | omega | assumption | rfl) hd0_ hd1_ hg0_ hg1_ hta (by first | with_reducible assumption | with_reducible rfl | omega | assumption | rfl) hz0_a (by first | with_reducible assumption | with_reducible rfl | omega | assumption | rfl) hz1_a (by first | with_reducible assumption | with_reducible rfl | omega | assumption | rfl) hd0_a hd1_a hg0_a hg1_a (hTw (by first | with_reducible assumption | assumption))) (kV_RX11_117 C.2.2.2.2 (Nat.le_of_ble_eq_true rfl) (Nat.le_of_ble_eq_true rfl)) [1, 2, 3, 4, 5, 6, 7, 8, 9, 10, 11, 12, 13, 14] [1, 0, 0, 0, 0, 0, 0, 0, 0, 0, 0, 0, 0, 0] rfl rfl (ci := 8) (qc := (RX9, TX9, 8)) rfl rfl (List.mem_flatten.mpr ⟨_, List.mem_of_getElem? (i := 0) rfl, (bTold_mem ht).choose_spec⟩) rfl rfl hl.1 dX11_again_30 (Nat.le_of_ble_eq_true rfl) (Nat.le_of_ble_eq_true rfl) (fun b1 H locs hw G => ?_)
    refine zEx27 hw ?_
    intro wt2_3 g9_4 fk2_5 w2_6 s0_7 s0_8 s0_9 s0_10 w2_11 s1_12 s1_13 s1_14 s1_15 w2_16 s2_17 s2_18 s2_19 w2_20 s3_21 s3_22 s3_23 w2_24 s4_25 s4_26 w2_27 s5_28 s5_29
    refine zCu12 ?_
    intro hbs9 h_30 h_31 h_32 h_33 h_34 h_35 h_36 h_37 h_38 h_39 h_40
    clear hw
    subst hbs9
    have G : zS T A s.heap s [[zO10 xo t im mk rd po co tr wa wb_ fi cd], [zArq T 6 im 3 qi], [zAr T 2 mk 3 fmk], wwA, wwB, wff, wt2_3, w2_6, w2_11, w2_16, w2_20, w2_24, w2_27, wta, z0_a, z1_a, wd0_a, wd1_a, wg0_a, wg1_a] _ _ := G
    refine lv_aload_n hx hb dX11_again_33 rfl (lv_at hl 0 rfl) ?_
    refine lv_iconst (v := 1) hx hb dX11_again_34 (by decide) ?_
    refine z_Vv (bc := [[zO10 xo t im mk rd po co tr wa wb_ fi cd], wwA, wwB, wff]) (br := [[zArq T 6 im 3 qi], [zAr T 2 mk 3 fmk], wt2_3, w2_6, w2_11, w2_16, w2_20, w2_24, w2_27, wta, z0_a, z1_a, wd0_a, wd1_a, wg0_a, wg1_a]) (As := [.int 1]) (rest := []) C G (c_forget1 l T xo t im mk rd po co tr wa wb_ fi cd laA mdA wyA pc_A f1A f2A f3A f4A f5A f6A n4A wwA laB mdB wyB pc_B f1B f2B f3B f4B f5B f6B n4B wwB e0f e1f e2f e3f e4f e5f r1f m1f r2f wff hwwA hwwB hwff) (kV_RX11_105 C.2.2.2.2 (Nat.le_of_ble_eq_true rfl) (Nat.le_of_ble_eq_true rfl)) [0, 3, 4, 5] [0, 2, 0, 0] rfl rfl (ci := 10) (qc := (RX11, TX11, 11)) rfl rfl (List.mem_flatten.mpr ⟨_, List.mem_of_getElem? (i := 0) rfl, List.mem_cons_self⟩) rfl rfl hl.1 dX11_again_35 (Nat.le_of_ble_eq_true rfl) (Nat.le_of_ble_eq_true rfl) (fun b1 H locs hw G => ?_)
    refine zEx3 hw ?_
    intro wwA_42 wwB_43 wff_44
    refine zCu4 ?_
    intro hbs9 h_45 h_46 h_47
    clear hw
    subst hbs9
    have G : zS T A s.heap s [[zArq T 6 im 3 qi], [zAr T 2 mk 3 fmk], wt2_3, w2_6, w2_11, w2_16, w2_20, w2_24, w2_27, wta, z0_a, z1_a, wd0_a, wd1_a, wg0_a, wg1_a, [zO10 xo t im mk rd po co tr wa wb_ fi cd], wwA_42, wwB_43, wff_44] _ _ := G
    refine lv_iconst (v := 1) hx hb dX11_again_38 (by decide) ?_
    have G := G.sub (bs' := [[zO10 xo t im mk rd po co tr wa wb_ fi cd], wt2_3, w2_6, w2_11, w2_16, w2_20, w2_24, w2_27, wta, z0_a, z1_a, wd0_a, wd1_a, wg0_a, wg1_a, [zArq T 6 im 3 qi], [zAr T 2 mk 3 fmk], wwA_42, wwB_43, wff_44]) [16, 2, 3, 4, 5, 6, 7, 8, 9, 10, 11, 12, 13, 14, 15, 0, 1, 17, 18, 19] rfl
    exact z_back hQz_ (z_zret C hr hlocks G (Nat.le_of_ble_eq_true rfl) (Nat.le_of_ble_eq_true rfl) dX11_again_39 rfl ⟨lna, fla, pla, g9_4, fk2_5, wt2_3, cr0_a, inn0_a, s0_7, s0_8, s0_9, s0_10, w2_6, cr1_a, inn1_a, s1_12, s1_13, s1_14, s1_15, w2_11, dd0_a, s2_17, s2_18, s2_19, w2_16, dd1_a, s3_21, s3_22, s3_23, w2_20, gg0_a, s4_25, s4_26, w2_24, gg1_a, s5_28, s5_29, w2_27, wwA_42, wwB_43, wff_44, 0, 0, 0, rfl, h_30, (by first | with_reducible assumption | omega | trivial | assumption), h_32, (by first | with_reducible assumption | omega | trivial | assumption), h_33, (by first | with_reducible assumption | omega | trivial | assumption), h_34, h_35, h_36, h_37, h_45, h_46, h_47, (by first | exact Or.inl ⟨rfl, rfl, rfl⟩ | exact Or.inr (Or.inl ⟨rfl, rfl, rfl⟩) | exact Or.inr (Or.inr ⟨rfl, rfl, rfl⟩)), (Or.inr ⟨by first | with_reducible assumption | assumption, rfl, h_40⟩)⟩)
  · have c_2n : (fmk 0).toInt = (0 : Int) := (fa_eq _ _).mp c_2
    refine lv_iconst (v := 0) hx hb dX11_again_18 (by decide) ?_
    exact z_back hQz_ (z_zret C hr hlocks G (Nat.le_of_ble_eq_true rfl) (Nat.le_of_ble_eq_true rfl) dX11_again_19 rfl ⟨ln, fl, pl, ft, fk, wt, cr0_, inn0_, k10_, k20_, k30_, k40_, z0_, cr1_, inn1_, k11_, k21_, k31_, k41_, z1_, dd0_, p10_, p20_, p30_, wd0_, dd1_, p11_, p21_, p31_, wd1_, gg0_, q10_, q20_, wg0_, gg1_, q11_, q21_, wg1_, wwA, wwB, wff, mdA, mdB, e0f, rfl, ht, (by first | with_reducible assumption | omega | trivial | assumption), hz0_, (by first | with_reducible assumption | omega | trivial | assumption), hz1_, (by first | with_reducible assumption | omega | trivial | assumption), hd0_, hd1_, hg0_, hg1_, hwwA, hwwB, hwff, (by first | exact Or.inl ⟨rfl, rfl, rfl⟩ | exact Or.inr (Or.inl ⟨rfl, rfl, rfl⟩) | exact Or.inr (Or.inr ⟨rfl, rfl, rfl⟩)), (Or.inl ⟨by first | with_reducible assumption | assumption, rfl, hT⟩)⟩)
set_option maxHeartbeats 4000000 in
set_option maxRecDepth 100000 in
/-- c_f_again1 -/
theorem c_f_again1 (l : Launch) (T : zTy) (xo : Nat) (t : Nat) (im : Nat) (mk : Nat) (rd : Nat) (po : Nat) (co : Nat) (tr : Nat) (wa : Nat) (wb_ : Nat) (fi : Nat) (cd : Nat) (l0 : Nat) (l1 : Nat) (d0 : Nat) (d1 : Nat) (g0 : Nat) (g1 : Nat) (ln : Int32) (fl : Int32) (pl : Int32) (ft : Nat → Int32) (fk : Nat → Int32) (wt : va_W) (cr0_ : Int32) (inn0_ : Int32) (k10_ : Nat → Int32) (k20_ : Nat → Int32) (k30_ : Nat → Int32) (k40_ : Nat → Int32) (z0_ : va_W) (cr1_ : Int32) (inn1_ : Int32) (k11_ : Nat → Int32) (k21_ : Nat → Int32) (k31_ : Nat → Int32) (k41_ : Nat → Int32) (z1_ : va_W) (dd0_ : Int32) (p10_ : Nat → Int32) (p20_ : Nat → Int32) (p30_ : Nat → Int32) (wd0_ : va_W) (dd1_ : Int32) (p11_ : Nat → Int32) (p21_ : Nat → Int32) (p31_ : Nat → Int32) (wd1_ : va_W) (gg0_ : Int32) (q10_ : Nat → Int32) (q20_ : Nat → Int32) (wg0_ : va_W) (gg1_ : Int32) (q11_ : Nat → Int32) (q21_ : Nat → Int32) (wg1_ : va_W) (m0 : Nat) (m1 : Nat) (l0b : Nat) (l1b : Nat) (d0b : Nat) (d1b : Nat) (g0b : Nat) (g1b : Nat) (lnb : Int32) (flb : Int32) (plb : Int32) (ftb : Nat → Int32) (fkb : Nat → Int32) (wtb : va_W) (cr0_b : Int32) (inn0_b : Int32) (k10_b : Nat → Int32) (k20_b : Nat → Int32) (k30_b : Nat → Int32) (k40_b : Nat → Int32) (z0_b : va_W) (cr1_b : Int32) (inn1_b : Int32) (k11_b : Nat → Int32) (k21_b : Nat → Int32) (k31_b : Nat → Int32) (k41_b : Nat → Int32) (z1_b : va_W) (dd0_b : Int32) (p10_b : Nat → Int32) (p20_b : Nat → Int32) (p30_b : Nat → Int32) (wd0_b : va_W) (dd1_b : Int32) (p11_b : Nat → Int32) (p21_b : Nat → Int32) (p31_b : Nat → Int32) (wd1_b : va_W) (gg0_b : Int32) (q10_b : Nat → Int32) (q20_b : Nat → Int32) (wg0_b : va_W) (gg1_b : Int32) (q11_b : Nat → Int32) (q21_b : Nat → Int32) (wg1_b : va_W) (m2 : Nat) (qi : Nat → Option Nat) (fmk : Nat → Int32) (laA : Nat) (mdA : Int32) (wyA : Int32) (pc_A : Int32) (f1A : Nat → Int32) (f2A : Nat → Int32) (f3A : Nat → Int32) (f4A : Nat → Int32) (f5A : Nat → Int32) (f6A : Nat → Int32) (n4A : Nat) (wwA : va_W) (laB : Nat) (mdB : Int32) (wyB : Int32) (pc_B : Int32) (f1B : Nat → Int32) (f2B : Nat → Int32) (f3B : Nat → Int32) (f4B : Nat → Int32) (f5B : Nat → Int32) (f6B : Nat → Int32) (n4B : Nat) (wwB : va_W) (e0f : Int32) (e1f : Int32) (e2f : Int32) (e3f : Int32) (e4f : Int32) (e5f : Int32) (r1f : Nat → Int32) (m1f : Nat) (r2f : Nat → Int32) (wff : va_W) (Gr : Nat → Int32) (Gw : Nat → Int32) (ht : bTold T t l0 l1 d0 d1 g0 g1 ln fl pl ft fk wt) (hK : zKT fk) (hz0_ : bLand T l0 cr0_ inn0_ k10_ k20_ k30_ k40_ z0_) (hI0_ : zLI cr0_ k10_ k30_) (hz1_ : bLand T l1 cr1_ inn1_ k11_ k21_ k31_ k41_ z1_) (hI1_ : zLI cr1_ k11_ k31_) (hd0_ : bDay T d0 dd0_ p10_ p20_ p30_ wd0_) (hd1_ : bDay T d1 dd1_ p11_ p21_ p31_ wd1_) (hg0_ : bLog T g0 gg0_ q10_ q20_ wg0_) (hg1_ : bLog T g1 gg1_ q11_ q21_ wg1_) (htb : bTold T m1 l0b l1b d0b d1b g0b g1b lnb flb plb ftb fkb wtb) (hKb : zKT fkb) (hz0_b : bLand T l0b cr0_b inn0_b k10_b k20_b k30_b k40_b z0_b) (hI0_b : zLI cr0_b k10_b k30_b) (hz1_b : bLand T l1b cr1_b inn1_b k11_b k21_b k31_b k41_b z1_b) (hI1_b : zLI cr1_b k11_b k31_b) (hd0_b : bDay T d0b dd0_b p10_b p20_b p30_b wd0_b) (hd1_b : bDay T d1b dd1_b p11_b p21_b p31_b wd1_b) (hg0_b : bLog T g0b gg0_b q10_b q20_b wg0_b) (hg1_b : bLog T g1b gg1_b q11_b q21_b wg1_b) (hm0 : qi 0 = some m0) (hm1 : qi 1 = some m1) (hm2 : qi 2 = some m2) (hwwA : bWays T wa laA mdA wyA pc_A f1A f2A f3A f4A f5A f6A n4A wwA) (hwwB : bWays T wb_ laB mdB wyB pc_B f1B f2B f3B f4B f5B f6B n4B wwB) (hwff : bFit T fi e0f e1f e2f e3f e4f e5f r1f m1f r2f wff) (hT : zTR ln fl pl ft fk cr0_ inn0_ k10_ k20_ k30_ k40_ cr1_ inn1_ k11_ k21_ k31_ k41_ dd0_ p10_ p20_ p30_ dd1_ p11_ p21_ p31_ gg0_ q10_ q20_ gg1_ q11_ q21_ Gr) (hTw : (¬ fmk 1 = 0 → zTR lnb flb plb ftb fkb cr0_b inn0_b k10_b k20_b k30_b k40_b cr1_b inn1_b k11_b k21_b k31_b k41_b dd0_b p10_b p20_b p30_b dd1_b p11_b p21_b p31_b gg0_b q10_b q20_b gg1_b q11_b q21_b Gw)) : zMi l T yX11_again cX11_again 2 (some .boolean) 3 0 0 [.ref xo, .int 1] [[zO10 xo t im mk rd po co tr wa wb_ fi cd], wt, z0_, z1_, wd0_, wd1_, wg0_, wg1_, wtb, z0_b, z1_b, wd0_b, wd1_b, wg0_b, wg1_b, [zArq T 6 im 3 qi], [zAr T 2 mk 3 fmk], wwA, wwB, wff] (fun (r : Int32) bs => ∃ (ln_2 : Int32) (fl_2 : Int32) (pl_2 : Int32) (ft_2 : Nat → Int32) (fk_2 : Nat → Int32) (wt_2 : va_W) (cr0__2 : Int32) (inn0__2 : Int32) (k10__2 : Nat → Int32) (k20__2 : Nat → Int32) (k30__2 : Nat → Int32) (k40__2 : Nat → Int32) (z0__2 : va_W) (cr1__2 : Int32) (inn1__2 : Int32) (k11__2 : Nat → Int32) (k21__2 : Nat → Int32) (k31__2 : Nat → Int32) (k41__2 : Nat → Int32) (z1__2 : va_W) (dd0__2 : Int32) (p10__2 : Nat → Int32) (p20__2 : Nat → Int32) (p30__2 : Nat → Int32) (wd0__2 : va_W) (dd1__2 : Int32) (p11__2 : Nat → Int32) (p21__2 : Nat → Int32) (p31__2 : Nat → Int32) (wd1__2 : va_W) (gg0__2 : Int32) (q10__2 : Nat → Int32) (q20__2 : Nat → Int32) (wg0__2 : va_W) (gg1__2 : Int32) (q11__2 : Nat → Int32) (q21__2 : Nat → Int32) (wg1__2 : va_W) (wwA_2 : va_W) (wwB_2 : va_W) (wff_2 : va_W) (mdA_2 : Int32) (mdB_2 : Int32) (e0f_2 : Int32), bs = [[zO10 xo t im mk rd po co tr wa wb_ fi cd], wt_2, z0__2, z1__2, wd0__2, wd1__2, wg0__2, wg1__2, wtb, z0_b, z1_b, wd0_b, wd1_b, wg0_b, wg1_b, [zArq T 6 im 3 qi], [zAr T 2 mk 3 fmk], wwA_2, wwB_2, wff_2] ∧ bTold T t l0 l1 d0 d1 g0 g1 ln_2 fl_2 pl_2 ft_2 fk_2 wt_2 ∧ zKT fk_2 ∧ bLand T l0 cr0__2 inn0__2 k10__2 k20__2 k30__2 k40__2 z0__2 ∧ zLI cr0__2 k10__2 k30__2 ∧ bLand T l1 cr1__2 inn1__2 k11__2 k21__2 k31__2 k41__2 z1__2 ∧ zLI cr1__2 k11__2 k31__2 ∧ bDay T d0 dd0__2 p10__2 p20__2 p30__2 wd0__2 ∧ bDay T d1 dd1__2 p11__2 p21__2 p31__2 wd1__2 ∧ bLog T g0 gg0__2 q10__2 q20__2 wg0__2 ∧ bLog T g1 gg1__2 q11__2 q21__2 wg1__2 ∧ bWays T wa laA mdA_2 wyA pc_A f1A f2A f3A f4A f5A f6A n4A wwA_2 ∧ bWays T wb_ laB mdB_2 wyB pc_B f1B f2B f3B f4B f5B f6B n4B wwB_2 ∧ bFit T fi e0f_2 e1f e2f e3f e4f e5f r1f m1f r2f wff_2 ∧ (mdA_2 = 0 ∧ mdB_2 = 0 ∧ e0f_2 = 0 ∨ mdA_2 = mdA ∧ mdB_2 = mdB ∧ e0f_2 = 0 ∨ mdA_2 = mdA ∧ mdB_2 = mdB ∧ e0f_2 = e0f) ∧ (fmk 1 = 0 ∧ r = 0 ∧ zTR ln_2 fl_2 pl_2 ft_2 fk_2 cr0__2 inn0__2 k10__2 k20__2 k30__2 k40__2 cr1__2 inn1__2 k11__2 k21__2 k31__2 k41__2 dd0__2 p10__2 p20__2 p30__2 dd1__2 p11__2 p21__2 p31__2 gg0__2 q10__2 q20__2 gg1__2 q11__2 q21__2 Gr ∨ ¬ fmk 1 = 0 ∧ r = 1 ∧ zTR ln_2 fl_2 pl_2 ft_2 fk_2 cr0__2 inn0__2 k10__2 k20__2 k30__2 k40__2 cr1__2 inn1__2 k11__2 k21__2 k31__2 k41__2 dd0__2 p10__2 p20__2 p30__2 dd1__2 p11__2 p21__2 p31__2 gg0__2 q10__2 q20__2 gg1__2 q11__2 q21__2 Gw)) := by
  refine zMi_of (own := RX11) (by decide) rfl (Nat.le_of_ble_eq_true rfl) ?_
  intro p e s m args below meth c A ls C hr hlocks hnm hAe G hl
  refine zHide (fun Qz_ hQz_ => ?_)
  have hx := C.1
  have hb := C.2.1
  replace hTw : zHd ((¬ fmk 1 = 0 → zTR lnb flb plb ftb fkb cr0_b inn0_b k10_b k20_b k30_b k40_b cr1_b inn1_b k11_b k21_b k31_b k41_b dd0_b p10_b p20_b p30_b dd1_b p11_b p21_b p31_b gg0_b q10_b q20_b gg1_b q11_b q21_b Gw)) := hTw
  have hl : lv_has ls 2 [(0, .ref xo), (1, .int 1)] := hl
  refine lv_iload_n hx hb dX11_again_0 rfl (lv_at hl 1 rfl) ?_
  refine lv_if_lt (tgt := 18) hx hb dX11_again_1 (by decide) (fun q => absurd q (by decide)) (fun _ => ?_)
  refine lv_iload_n hx hb dX11_again_4 rfl (lv_at hl 1 rfl) ?_
  refine lv_iconst (v := 3) hx hb dX11_again_5 (by decide) ?_
  refine lv_icmp_ge (tgt := 18) hx hb dX11_again_6 (by decide) (fun q => absurd q (by decide)) (fun _ => ?_)
  refine lv_aload_n hx hb dX11_again_9 rfl (lv_at hl 0 rfl) ?_
  refine z_get C G clX11 0 rfl 2 (by decide) m_fl_RX11_20 rfl dX11_again_10 ?_
  refine lv_iload_n hx hb dX11_again_13 rfl (lv_at hl 1 rfl) ?_
  refine z_zld C G 16 rfl (vp_in_nI (n := 1) (by decide) (by decide)) dX11_again_14 ?_
  refine lv_topi (fun v_1 ev_1 => ?_)
  rw [show ((1 : Int32).toNatClampNeg) = 1 from rfl] at ev_1
  subst ev_1
  refine lv_if_ne (tgt := 20) hx hb dX11_again_15 (by decide) (fun c_2 => ?_) (fun c_2 => ?_)
  · have c_2n : ¬ (fmk 1).toInt = (0 : Int) := fun q => c_2 ((fa_eq _ _).mpr q)
    refine lv_aload_n hx hb dX11_again_20 rfl (lv_at hl 0 rfl) ?_
    refine z_get C G clX11 0 rfl 0 (by decide) m_fl_RX11_10 rfl dX11_again_21 ?_
    refine lv_aload_n hx hb dX11_again_24 rfl (lv_at hl 0 rfl) ?_
    refine z_get C G clX11 0 rfl 1 (by decide) m_fl_RX11_16 rfl dX11_again_25 ?_
    refine lv_iload_n hx hb dX11_again_28 rfl (lv_at hl 1 rfl) ?_
    refine z_ald C G 15 6 rfl rfl (vp_in_nI (n := 1) (by decide) (by decide)) dX11_again_29 ?_
    rw [show qi ((1 : Int32).toNatClampNeg) = some m1 from hm1]
    refine z_Vv (bc := [wt, z0_, z1_, wd0_, wd1_, wg0_, wg1_, wtb, z0_b, z1_b, wd0_b, wd1_b, wg0_b, wg1_b]) (br := [[zO10 xo t im mk rd po co tr wa wb_ fi cd], [zArq T 6 im 3 qi], [zAr T 2 mk 3 fmk], wwA, wwB, wff]) (As := [.ref m1]) (rest := []) C G (c_f_Told_takeAll l T t l0 l1 d0 d1 g0 g1 ln fl pl ft fk wt cr0_ inn0_ k10_ k20_ k30_ k40_ z0_ cr1_ inn1_ k11_ k21_ k31_ k41_ z1_ dd0_ p10_ p20_ p30_ wd0_ dd1_ p11_ p21_ p31_ wd1_ gg0_ q10_ q20_ wg0_ gg1_ q11_ q21_ wg1_ m1 l0b l1b d0b d1b g0b g1b lnb flb plb ftb fkb wtb cr0_b inn0_b k10_b k20_b k30_b k40_b z0_b cr1_b inn1_b k11_b k21_b k31_b k41_b z1_b dd0_b p10_b p20_b p30_b wd0_b dd1_b p11_b p21_b p31_b wd1_b gg0_b q10_b q20_b wg0_b gg1_b q11_b q21_b wg1_b Gw ht (by first | with_reducible assumption | with_reducible rfl | omega | assumption | rfl) hz0_ (by first | with_reducible assumption | with_reducible rfl | omega | assumption | rfl) hz1_ (by first | with_reducible assumption | with_reducible rfl | omega | assumption | rfl) hd0_ hd1_ hg0_ hg1_ htb (by first | with_reducible assumption | with_reducible rfl | omega | assumption | rfl) hz0_b (by first | with_reducible assumption | with_reducible rfl | omega | assumption | rfl) hz1_b (by first | with_reducible assumption | with_reducible rfl | omega | assumption | rfl) hd0_b hd1_b hg0_b hg1_b (hTw (by first | with_reducible assumption | assumption))) (kV_RX11_117 C.2.2.2.2 (Nat.le_of_ble_eq_true rfl) (Nat.le_of_ble_eq_true rfl)) [1, 2, 3, 4, 5, 6, 7, 8, 9, 10, 11, 12, 13, 14] [1, 0, 0, 0, 0, 0, 0, 0, 0, 0, 0, 0, 0, 0] rfl rfl (ci := 8) (qc := (RX9, TX9, 8)) rfl rfl (List.mem_flatten.mpr ⟨_, List.mem_of_getElem? (i := 0) rfl, (bTold_mem ht).choose_spec⟩) rfl rfl hl.1 dX11_again_30 (Nat.le_of_ble_eq_true rfl) (Nat.le_of_ble_eq_true rfl) (fun b1 H locs hw G => ?_)
    refine zEx27 hw ?_
    intro wt2_3 g9_4 fk2_5 w2_6 s0_7 s0_8 s0_9 s0_10 w2_11 s1_12 s1_13 s1_14 s1_15 w2_16 s2_17 s2_18 s2_19 w2_20 s3_21 s3_22 s3_23 w2_24 s4_25 s4_26 w2_27 s5_28 s5_29
    refine zCu12 ?_
    intro hbs9 h_30 h_31 h_32 h_33 h_34 h_35 h_36 h_37 h_38 h_39 h_40
    clear hw
    subst hbs9
    have G : zS T A s.heap s [[zO10 xo t im mk rd po co tr wa wb_ fi cd], [zArq T 6 im 3 qi], [zAr T 2 mk 3 fmk], wwA, wwB, wff, wt2_3, w2_6, w2_11, w2_16, w2_20, w2_24, w2_27, wtb, z0_b, z1_b, wd0_b, wd1_b, wg0_b, wg1_b] _ _ := G
    refine lv_aload_n hx hb dX11_again_33 rfl (lv_at hl 0 rfl) ?_
    refine lv_iconst (v := 1) hx hb dX11_again_34 (by decide) ?_
    refine z_Vv (bc := [[zO10 xo t im mk rd po co tr wa wb_ fi cd], wwA, wwB, wff]) (br := [[zArq T 6 im 3 qi], [zAr T 2 mk 3 fmk], wt2_3, w2_6, w2_11, w2_16, w2_20, w2_24, w2_27, wtb, z0_b, z1_b, wd0_b, wd1_b, wg0_b, wg1_b]) (As := [.int 1]) (rest := []) C G (c_forget1 l T xo t im mk rd po co tr wa wb_ fi cd laA mdA wyA pc_A f1A f2A f3A f4A f5A f6A n4A wwA laB mdB wyB pc_B f1B f2B f3B f4B f5B f6B n4B wwB e0f e1f e2f e3f e4f e5f r1f m1f r2f wff hwwA hwwB hwff) (kV_RX11_105 C.2.2.2.2 (Nat.le_of_ble_eq_true rfl) (Nat.le_of_ble_eq_true rfl)) [0, 3, 4, 5] [0, 2, 0, 0] rfl rfl (ci := 10) (qc := (RX11, TX11, 11)) rfl rfl (List.mem_flatten.mpr ⟨_, List.mem_of_getElem? (i := 0) rfl, List.mem_cons_self⟩) rfl rfl hl.1 dX11_again_35 (Nat.le_of_ble_eq_true rfl) (Nat.le_of_ble_eq_true rfl) (fun b1 H locs hw G => ?_)
    refine zEx3 hw ?_
    intro wwA_42 wwB_43 wff_44
    refine zCu4 ?_
    intro hbs9 h_45 h_46 h_47
    clear hw
    subst hbs9
    have G : zS T A s.heap s [[zArq T 6 im 3 qi], [zAr T 2 mk 3 fmk], wt2_3, w2_6, w2_11, w2_16, w2_20, w2_24, w2_27, wtb, z0_b, z1_b, wd0_b, wd1_b, wg0_b, wg1_b, [zO10 xo t im mk rd po co tr wa wb_ fi cd], wwA_42, wwB_43, wff_44] _ _ := G
    refine lv_iconst (v := 1) hx hb dX11_again_38 (by decide) ?_
    have G := G.sub (bs' := [[zO10 xo t im mk rd po co tr wa wb_ fi cd], wt2_3, w2_6, w2_11, w2_16, w2_20, w2_24, w2_27, wtb, z0_b, z1_b, wd0_b, wd1_b, wg0_b, wg1_b, [zArq T 6 im 3 qi], [zAr T 2 mk 3 fmk], wwA_42, wwB_43, wff_44]) [16, 2, 3, 4, 5, 6, 7, 8, 9, 10, 11, 12, 13, 14, 15, 0, 1, 17, 18, 19] rfl
    exact z_back hQz_ (z_zret C hr hlocks G (Nat.le_of_ble_eq_true rfl) (Nat.le_of_ble_eq_true rfl) dX11_again_39 rfl ⟨lnb, flb, plb, g9_4, fk2_5, wt2_3, cr0_b, inn0_b, s0_7, s0_8, s0_9, s0_10, w2_6, cr1_b, inn1_b, s1_12, s1_13, s1_14, s1_15, w2_11, dd0_b, s2_17, s2_18, s2_19, w2_16, dd1_b, s3_21, s3_22, s3_23, w2_20, gg0_b, s4_25, s4_26, w2_24, gg1_b, s5_28, s5_29, w2_27, wwA_42, wwB_43, wff_44, 0, 0, 0, rfl, h_30, (by first | with_reducible assumption | omega | trivial | assumption), h_32, (by first | with_reducible assumption | omega | trivial | assumption), h_33, (by first | with_reducible assumption | omega | trivial | assumption), h_34, h_35, h_36, h_37, h_45, h_46, h_47, (by first | exact Or.inl ⟨rfl, rfl, rfl⟩ | exact Or.inr (Or.inl ⟨rfl, rfl, rfl⟩) | exact Or.inr (Or.inr ⟨rfl, rfl, rfl⟩)), (Or.inr ⟨by first | with_reducible assumption | assumption, rfl, h_40⟩)⟩)
  · have c_2n : (fmk 1).toInt = (0 : Int) := (fa_eq _ _).mp c_2
    refine lv_iconst (v := 0) hx hb dX11_again_18 (by decide) ?_
    exact z_back hQz_ (z_zret C hr hlocks G (Nat.le_of_ble_eq_true rfl) (Nat.le_of_ble_eq_true rfl) dX11_again_19 rfl ⟨ln, fl, pl, ft, fk, wt, cr0_, inn0_, k10_, k20_, k30_, k40_, z0_, cr1_, inn1_, k11_, k21_, k31_, k41_, z1_, dd0_, p10_, p20_, p30_, wd0_, dd1_, p11_, p21_, p31_, wd1_, gg0_, q10_, q20_, wg0_, gg1_, q11_, q21_, wg1_, wwA, wwB, wff, mdA, mdB, e0f, rfl, ht, (by first | with_reducible assumption | omega | trivial | assumption), hz0_, (by first | with_reducible assumption | omega | trivial | assumption), hz1_, (by first | with_reducible assumption | omega | trivial | assumption), hd0_, hd1_, hg0_, hg1_, hwwA, hwwB, hwff, (by first | exact Or.inl ⟨rfl, rfl, rfl⟩ | exact Or.inr (Or.inl ⟨rfl, rfl, rfl⟩) | exact Or.inr (Or.inr ⟨rfl, rfl, rfl⟩)), (Or.inl ⟨by first | with_reducible assumption | assumption, rfl, hT⟩)⟩)
set_option maxHeartbeats 4000000 in
set_option maxRecDepth 100000 in
/-- c_f_again2 -/
theorem c_f_again2 (l : Launch) (T : zTy) (xo : Nat) (t : Nat) (im : Nat) (mk : Nat) (rd : Nat) (po : Nat) (co : Nat) (tr : Nat) (wa : Nat) (wb_ : Nat) (fi : Nat) (cd : Nat) (l0 : Nat) (l1 : Nat) (d0 : Nat) (d1 : Nat) (g0 : Nat) (g1 : Nat) (ln : Int32) (fl : Int32) (pl : Int32) (ft : Nat → Int32) (fk : Nat → Int32) (wt : va_W) (cr0_ : Int32) (inn0_ : Int32) (k10_ : Nat → Int32) (k20_ : Nat → Int32) (k30_ : Nat → Int32) (k40_ : Nat → Int32) (z0_ : va_W) (cr1_ : Int32) (inn1_ : Int32) (k11_ : Nat → Int32) (k21_ : Nat → Int32) (k31_ : Nat → Int32) (k41_ : Nat → Int32) (z1_ : va_W) (dd0_ : Int32) (p10_ : Nat → Int32) (p20_ : Nat → Int32) (p30_ : Nat → Int32) (wd0_ : va_W) (dd1_ : Int32) (p11_ : Nat → Int32) (p21_ : Nat → Int32) (p31_ : Nat → Int32) (wd1_ : va_W) (gg0_ : Int32) (q10_ : Nat → Int32) (q20_ : Nat → Int32) (wg0_ : va_W) (gg1_ : Int32) (q11_ : Nat → Int32) (q21_ : Nat → Int32) (wg1_ : va_W) (m0 : Nat) (m1 : Nat) (m2 : Nat) (l0c : Nat) (l1c : Nat) (d0c : Nat) (d1c : Nat) (g0c : Nat) (g1c : Nat) (lnc : Int32) (flc : Int32) (plc : Int32) (ftc : Nat → Int32) (fkc : Nat → Int32) (wtc : va_W) (cr0_c : Int32) (inn0_c : Int32) (k10_c : Nat → Int32) (k20_c : Nat → Int32) (k30_c : Nat → Int32) (k40_c : Nat → Int32) (z0_c : va_W) (cr1_c : Int32) (inn1_c : Int32) (k11_c : Nat → Int32) (k21_c : Nat → Int32) (k31_c : Nat → Int32) (k41_c : Nat → Int32) (z1_c : va_W) (dd0_c : Int32) (p10_c : Nat → Int32) (p20_c : Nat → Int32) (p30_c : Nat → Int32) (wd0_c : va_W) (dd1_c : Int32) (p11_c : Nat → Int32) (p21_c : Nat → Int32) (p31_c : Nat → Int32) (wd1_c : va_W) (gg0_c : Int32) (q10_c : Nat → Int32) (q20_c : Nat → Int32) (wg0_c : va_W) (gg1_c : Int32) (q11_c : Nat → Int32) (q21_c : Nat → Int32) (wg1_c : va_W) (qi : Nat → Option Nat) (fmk : Nat → Int32) (laA : Nat) (mdA : Int32) (wyA : Int32) (pc_A : Int32) (f1A : Nat → Int32) (f2A : Nat → Int32) (f3A : Nat → Int32) (f4A : Nat → Int32) (f5A : Nat → Int32) (f6A : Nat → Int32) (n4A : Nat) (wwA : va_W) (laB : Nat) (mdB : Int32) (wyB : Int32) (pc_B : Int32) (f1B : Nat → Int32) (f2B : Nat → Int32) (f3B : Nat → Int32) (f4B : Nat → Int32) (f5B : Nat → Int32) (f6B : Nat → Int32) (n4B : Nat) (wwB : va_W) (e0f : Int32) (e1f : Int32) (e2f : Int32) (e3f : Int32) (e4f : Int32) (e5f : Int32) (r1f : Nat → Int32) (m1f : Nat) (r2f : Nat → Int32) (wff : va_W) (Gr : Nat → Int32) (Gw : Nat → Int32) (ht : bTold T t l0 l1 d0 d1 g0 g1 ln fl pl ft fk wt) (hK : zKT fk) (hz0_ : bLand T l0 cr0_ inn0_ k10_ k20_ k30_ k40_ z0_) (hI0_ : zLI cr0_ k10_ k30_) (hz1_ : bLand T l1 cr1_ inn1_ k11_ k21_ k31_ k41_ z1_) (hI1_ : zLI cr1_ k11_ k31_) (hd0_ : bDay T d0 dd0_ p10_ p20_ p30_ wd0_) (hd1_ : bDay T d1 dd1_ p11_ p21_ p31_ wd1_) (hg0_ : bLog T g0 gg0_ q10_ q20_ wg0_) (hg1_ : bLog T g1 gg1_ q11_ q21_ wg1_) (htc : bTold T m2 l0c l1c d0c d1c g0c g1c lnc flc plc ftc fkc wtc) (hKc : zKT fkc) (hz0_c : bLand T l0c cr0_c inn0_c k10_c k20_c k30_c k40_c z0_c) (hI0_c : zLI cr0_c k10_c k30_c) (hz1_c : bLand T l1c cr1_c inn1_c k11_c k21_c k31_c k41_c z1_c) (hI1_c : zLI cr1_c k11_c k31_c) (hd0_c : bDay T d0c dd0_c p10_c p20_c p30_c wd0_c) (hd1_c : bDay T d1c dd1_c p11_c p21_c p31_c wd1_c) (hg0_c : bLog T g0c gg0_c q10_c q20_c wg0_c) (hg1_c : bLog T g1c gg1_c q11_c q21_c wg1_c) (hm0 : qi 0 = some m0) (hm1 : qi 1 = some m1) (hm2 : qi 2 = some m2) (hwwA : bWays T wa laA mdA wyA pc_A f1A f2A f3A f4A f5A f6A n4A wwA) (hwwB : bWays T wb_ laB mdB wyB pc_B f1B f2B f3B f4B f5B f6B n4B wwB) (hwff : bFit T fi e0f e1f e2f e3f e4f e5f r1f m1f r2f wff) (hT : zTR ln fl pl ft fk cr0_ inn0_ k10_ k20_ k30_ k40_ cr1_ inn1_ k11_ k21_ k31_ k41_ dd0_ p10_ p20_ p30_ dd1_ p11_ p21_ p31_ gg0_ q10_ q20_ gg1_ q11_ q21_ Gr) (hTw : (¬ fmk 2 = 0 → zTR lnc flc plc ftc fkc cr0_c inn0_c k10_c k20_c k30_c k40_c cr1_c inn1_c k11_c k21_c k31_c k41_c dd0_c p10_c p20_c p30_c dd1_c p11_c p21_c p31_c gg0_c q10_c q20_c gg1_c q11_c q21_c Gw)) : zMi l T yX11_again cX11_again 2 (some .boolean) 3 0 0 [.ref xo, .int 2] [[zO10 xo t im mk rd po co tr wa wb_ fi cd], wt, z0_, z1_, wd0_, wd1_, wg0_, wg1_, wtc, z0_c, z1_c, wd0_c, wd1_c, wg0_c, wg1_c, [zArq T 6 im 3 qi], [zAr T 2 mk 3 fmk], wwA, wwB, wff] (fun (r : Int32) bs => ∃ (ln_2 : Int32) (fl_2 : Int32) (pl_2 : Int32) (ft_2 : Nat → Int32) (fk_2 : Nat → Int32) (wt_2 : va_W) (cr0__2 : Int32) (inn0__2 : Int32) (k10__2 : Nat → Int32) (k20__2 : Nat → Int32) (k30__2 : Nat → Int32) (k40__2 : Nat → Int32) (z0__2 : va_W) (cr1__2 : Int32) (inn1__2 : Int32) (k11__2 : Nat → Int32) (k21__2 : Nat → Int32) (k31__2 : Nat → Int32) (k41__2 : Nat → Int32) (z1__2 : va_W) (dd0__2 : Int32) (p10__2 : Nat → Int32) (p20__2 : Nat → Int32) (p30__2 : Nat → Int32) (wd0__2 : va_W) (dd1__2 : Int32) (p11__2 : Nat → Int32) (p21__2 : Nat → Int32) (p31__2 : Nat → Int32) (wd1__2 : va_W) (gg0__2 : Int32) (q10__2 : Nat → Int32) (q20__2 : Nat → Int32) (wg0__2 : va_W) (gg1__2 : Int32) (q11__2 : Nat → Int32) (q21__2 : Nat → Int32) (wg1__2 : va_W) (wwA_2 : va_W) (wwB_2 : va_W) (wff_2 : va_W) (mdA_2 : Int32) (mdB_2 : Int32) (e0f_2 : Int32), bs = [[zO10 xo t im mk rd po co tr wa wb_ fi cd], wt_2, z0__2, z1__2, wd0__2, wd1__2, wg0__2, wg1__2, wtc, z0_c, z1_c, wd0_c, wd1_c, wg0_c, wg1_c, [zArq T 6 im 3 qi], [zAr T 2 mk 3 fmk], wwA_2, wwB_2, wff_2] ∧ bTold T t l0 l1 d0 d1 g0 g1 ln_2 fl_2 pl_2 ft_2 fk_2 wt_2 ∧ zKT fk_2 ∧ bLand T l0 cr0__2 inn0__2 k10__2 k20__2 k30__2 k40__2 z0__2 ∧ zLI cr0__2 k10__2 k30__2 ∧ bLand T l1 cr1__2 inn1__2 k11__2 k21__2 k31__2 k41__2 z1__2 ∧ zLI cr1__2 k11__2 k31__2 ∧ bDay T d0 dd0__2 p10__2 p20__2 p30__2 wd0__2 ∧ bDay T d1 dd1__2 p11__2 p21__2 p31__2 wd1__2 ∧ bLog T g0 gg0__2 q10__2 q20__2 wg0__2 ∧ bLog T g1 gg1__2 q11__2 q21__2 wg1__2 ∧ bWays T wa laA mdA_2 wyA pc_A f1A f2A f3A f4A f5A f6A n4A wwA_2 ∧ bWays T wb_ laB mdB_2 wyB pc_B f1B f2B f3B f4B f5B f6B n4B wwB_2 ∧ bFit T fi e0f_2 e1f e2f e3f e4f e5f r1f m1f r2f wff_2 ∧ (mdA_2 = 0 ∧ mdB_2 = 0 ∧ e0f_2 = 0 ∨ mdA_2 = mdA ∧ mdB_2 = mdB ∧ e0f_2 = 0 ∨ mdA_2 = mdA ∧ mdB_2 = mdB ∧ e0f_2 = e0f) ∧ (fmk 2 = 0 ∧ r = 0 ∧ zTR ln_2 fl_2 pl_2 ft_2 fk_2 cr0__2 inn0__2 k10__2 k20__2 k30__2 k40__2 cr1__2 inn1__2 k11__2 k21__2 k31__2 k41__2 dd0__2 p10__2 p20__2 p30__2 dd1__2 p11__2 p21__2 p31__2 gg0__2 q10__2 q20__2 gg1__2 q11__2 q21__2 Gr ∨ ¬ fmk 2 = 0 ∧ r = 1 ∧ zTR ln_2 fl_2 pl_2 ft_2 fk_2 cr0__2 inn0__2 k10__2 k20__2 k30__2 k40__2 cr1__2 inn1__2 k11__2 k21__2 k31__2 k41__2 dd0__2 p10__2 p20__2 p30__2 dd1__2 p11__2 p21__2 p31__2 gg0__2 q10__2 q20__2 gg1__2 q11__2 q21__2 Gw)) := by
  refine zMi_of (own := RX11) (by decide) rfl (Nat.le_of_ble_eq_true rfl) ?_
  intro p e s m args below meth c A ls C hr hlocks hnm hAe G hl
  refine zHide (fun Qz_ hQz_ => ?_)
  have hx := C.1
  have hb := C.2.1
  replace hTw : zHd ((¬ fmk 2 = 0 → zTR lnc flc plc ftc fkc cr0_c inn0_c k10_c k20_c k30_c k40_c cr1_c inn1_c k11_c k21_c k31_c k41_c dd0_c p10_c p20_c p30_c dd1_c p11_c p21_c p31_c gg0_c q10_c q20_c gg1_c q11_c q21_c Gw)) := hTw
  have hl : lv_has ls 2 [(0, .ref xo), (1, .int 2)] := hl
  refine lv_iload_n hx hb dX11_again_0 rfl (lv_at hl 1 rfl) ?_
  refine lv_if_lt (tgt := 18) hx hb dX11_again_1 (by decide) (fun q => absurd q (by decide)) (fun _ => ?_)
  refine lv_iload_n hx hb dX11_again_4 rfl (lv_at hl 1 rfl) ?_
  refine lv_iconst (v := 3) hx hb dX11_again_5 (by decide) ?_
  refine lv_icmp_ge (tgt := 18) hx hb dX11_again_6 (by decide) (fun q => absurd q (by decide)) (fun _ => ?_)
  refine lv_aload_n hx hb dX11_again_9 rfl (lv_at hl 0 rfl) ?_
  refine z_get C G clX11 0 rfl 2 (by decide) m_fl_RX11_20 rfl dX11_again_10 ?_
  refine lv_iload_n hx hb dX11_again_13 rfl (lv_at hl 1 rfl) ?_
  refine z_zld C G 16 rfl (vp_in_nI (n := 2) (by decide) (by decide)) dX11_again_14 ?_
  refine lv_topi (fun v_1 ev_1 => ?_)
  rw [show ((2 : Int32).toNatClampNeg) = 2 from rfl] at ev_1
  subst ev_1
  refine lv_if_ne (tgt := 20) hx hb dX11_again_15 (by decide) (fun c_2 => ?_) (fun c_2 => ?_)
  · have c_2n : ¬ (fmk 2).toInt = (0 : Int) := fun q => c_2 ((fa_eq _ _).mpr q)
    refine lv_aload_n hx hb dX11_again_20 rfl (lv_at hl 0 rfl) ?_
    refine z_get C G clX11 0 rfl 0 (by decide) m_fl_RX11_10 rfl dX11_again_21 ?_
    refine lv_aload_n hx hb dX11_again_24 rfl (lv_at hl 0 rfl) ?_
    refine z_get C G clX11 0 rfl 1 (by decide) m_fl_RX11_16 rfl dX11_again_25 ?_
    refine lv_iload_n hx hb dX11_again_28 rfl (lv_at hl 1 rfl) ?_
    refine z_ald C G 15 6 rfl rfl (vp_in_nI (n := 2) (by decide) (by decide)) dX11_again_29 ?_
    rw [show qi ((2 : Int32).toNatClampNeg) = some m2 from hm2]
    refine z_Vv (bc := [wt, z0_, z1_, wd0_, wd1_, wg0_, wg1_, wtc, z0_c, z1_c, wd0_c, wd1_c, wg0_c, wg1_c]) (br := [[zO10 xo t im mk rd po co tr wa wb_ fi cd], [zArq T 6 im 3 qi], [zAr T 2 mk 3 fmk], wwA, wwB, wff]) (As := [.ref m2]) (rest := []) C G (c_f_Told_takeAll l T t l0 l1 d0 d1 g0 g1 ln fl pl ft fk wt cr0_ inn0_ k10_ k20_ k30_ k40_ z0_ cr1_ inn1_ k11_ k21_ k31_ k41_ z1_ dd0_ p10_ p20_ p30_ wd0_ dd1_ p11_ p21_ p31_ wd1_ gg0_ q10_ q20_ wg0_ gg1_ q11_ q21_ wg1_ m2 l0c l1c d0c d1c g0c g1c lnc flc plc ftc fkc wtc cr0_c inn0_c k10_c k20_c k30_c k40_c z0_c cr1_c inn1_c k11_c k21_c k31_c k41_c z1_c dd0_c p10_c p20_c p30_c wd0_c dd1_c p11_c p21_c p31_c wd1_c gg0_c q10_c q20_c wg0_c gg1_c q11_c q21_c wg1_c Gw ht (by first | with_reducible assumption | with_reducible rfl | omega | assumption | rfl) hz0_ (by first | with_reducible assumption | with_reducible rfl | omega | assumption | rfl) hz1_ (by first | with_reducible assumption | with_reducible rfl | omega | assumption | rfl) hd0_ hd1_ hg0_ hg1_ htc (by first | with_reducible assumption | with_reducible rfl | omega | assumption | rfl) hz0_c (by first | with_reducible assumption | with_reducible rfl | omega | assumption | rfl) hz1_c (by first | with_reducible assumption | with_reducible rfl | omega | assumption | rfl) hd0_c hd1_c hg0_c hg1_c (hTw (by first | with_reducible assumption | assumption))) (kV_RX11_117 C.2.2.2.2 (Nat.le_of_ble_eq_true rfl) (Nat.le_of_ble_eq_true rfl)) [1, 2, 3, 4, 5, 6, 7, 8, 9, 10, 11, 12, 13, 14] [1, 0, 0, 0, 0, 0, 0, 0, 0, 0, 0, 0, 0, 0] rfl rfl (ci := 8) (qc := (RX9, TX9, 8)) rfl rfl (List.mem_flatten.mpr ⟨_, List.mem_of_getElem? (i := 0) rfl, (bTold_mem ht).choose_spec⟩) rfl rfl hl.1 dX11_again_30 (Nat.le_of_ble_eq_true rfl) (Nat.le_of_ble_eq_true rfl) (fun b1 H locs hw G => ?_)
    refine zEx27 hw ?_
    intro wt2_3 g9_4 fk2_5 w2_6 s0_7 s0_8 s0_9 s0_10 w2_11 s1_12 s1_13 s1_14 s1_15 w2_16 s2_17 s2_18 s2_19 w2_20 s3_21 s3_22 s3_23 w2_24 s4_25 s4_26 w2_27 s5_28 s5_29
    refine zCu12 ?_
    intro hbs9 h_30 h_31 h_32 h_33 h_34 h_35 h_36 h_37 h_38 h_39 h_40
    clear hw
    subst hbs9
    have G : zS T A s.heap s [[zO10 xo t im mk rd po co tr wa wb_ fi cd], [zArq T 6 im 3 qi], [zAr T 2 mk 3 fmk], wwA, wwB, wff, wt2_3, w2_6, w2_11, w2_16, w2_20, w2_24, w2_27, wtc, z0_c, z1_c, wd0_c, wd1_c, wg0_c, wg1_c] _ _ := G
    refine lv_aload_n hx hb dX11_again_33 rfl (lv_at hl 0 rfl) ?_
    refine lv_iconst (v := 1) hx hb dX11_again_34 (by decide) ?_
    refine z_Vv (bc := [[zO10 xo t im mk rd po co tr wa wb_ fi cd], wwA, wwB, wff]) (br := [[zArq T 6 im 3 qi], [zAr T 2 mk 3 fmk], wt2_3, w2_6, w2_11, w2_16, w2_20, w2_24, w2_27, wtc, z0_c, z1_c, wd0_c, wd1_c, wg0_c, wg1_c]) (As := [.int 1]) (rest := []) C G (c_forget1 l T xo t im mk rd po co tr wa wb_ fi cd laA mdA wyA pc_A f1A f2A f3A f4A f5A f6A n4A wwA laB mdB wyB pc_B f1B f2B f3B f4B f5B f6B n4B wwB e0f e1f e2f e3f e4f e5f r1f m1f r2f wff hwwA hwwB hwff) (kV_RX11_105 C.2.2.2.2 (Nat.le_of_ble_eq_true rfl) (Nat.le_of_ble_eq_true rfl)) [0, 3, 4, 5] [0, 2, 0, 0] rfl rfl (ci := 10) (qc := (RX11, TX11, 11)) rfl rfl (List.mem_flatten.mpr ⟨_, List.mem_of_getElem? (i := 0) rfl, List.mem_cons_self⟩) rfl rfl hl.1 dX11_again_35 (Nat.le_of_ble_eq_true rfl) (Nat.le_of_ble_eq_true rfl) (fun b1 H locs hw G => ?_)
    refine zEx3 hw ?_
    intro wwA_42 wwB_43 wff_44
    refine zCu4 ?_
    intro hbs9 h_45 h_46 h_47
    clear hw
    subst hbs9
    have G : zS T A s.heap s [[zArq T 6 im 3 qi], [zAr T 2 mk 3 fmk], wt2_3, w2_6, w2_11, w2_16, w2_20, w2_24, w2_27, wtc, z0_c, z1_c, wd0_c, wd1_c, wg0_c, wg1_c, [zO10 xo t im mk rd po co tr wa wb_ fi cd], wwA_42, wwB_43, wff_44] _ _ := G
    refine lv_iconst (v := 1) hx hb dX11_again_38 (by decide) ?_
    have G := G.sub (bs' := [[zO10 xo t im mk rd po co tr wa wb_ fi cd], wt2_3, w2_6, w2_11, w2_16, w2_20, w2_24, w2_27, wtc, z0_c, z1_c, wd0_c, wd1_c, wg0_c, wg1_c, [zArq T 6 im 3 qi], [zAr T 2 mk 3 fmk], wwA_42, wwB_43, wff_44]) [16, 2, 3, 4, 5, 6, 7, 8, 9, 10, 11, 12, 13, 14, 15, 0, 1, 17, 18, 19] rfl
    exact z_back hQz_ (z_zret C hr hlocks G (Nat.le_of_ble_eq_true rfl) (Nat.le_of_ble_eq_true rfl) dX11_again_39 rfl ⟨lnc, flc, plc, g9_4, fk2_5, wt2_3, cr0_c, inn0_c, s0_7, s0_8, s0_9, s0_10, w2_6, cr1_c, inn1_c, s1_12, s1_13, s1_14, s1_15, w2_11, dd0_c, s2_17, s2_18, s2_19, w2_16, dd1_c, s3_21, s3_22, s3_23, w2_20, gg0_c, s4_25, s4_26, w2_24, gg1_c, s5_28, s5_29, w2_27, wwA_42, wwB_43, wff_44, 0, 0, 0, rfl, h_30, (by first | with_reducible assumption | omega | trivial | assumption), h_32, (by first | with_reducible assumption | omega | trivial | assumption), h_33, (by first | with_reducible assumption | omega | trivial | assumption), h_34, h_35, h_36, h_37, h_45, h_46, h_47, (by first | exact Or.inl ⟨rfl, rfl, rfl⟩ | exact Or.inr (Or.inl ⟨rfl, rfl, rfl⟩) | exact Or.inr (Or.inr ⟨rfl, rfl, rfl⟩)), (Or.inr ⟨by first | with_reducible assumption | assumption, rfl, h_40⟩)⟩)
  · have c_2n : (fmk 2).toInt = (0 : Int) := (fa_eq _ _).mp c_2
    refine lv_iconst (v := 0) hx hb dX11_again_18 (by decide) ?_
    exact z_back hQz_ (z_zret C hr hlocks G (Nat.le_of_ble_eq_true rfl) (Nat.le_of_ble_eq_true rfl) dX11_again_19 rfl ⟨ln, fl, pl, ft, fk, wt, cr0_, inn0_, k10_, k20_, k30_, k40_, z0_, cr1_, inn1_, k11_, k21_, k31_, k41_, z1_, dd0_, p10_, p20_, p30_, wd0_, dd1_, p11_, p21_, p31_, wd1_, gg0_, q10_, q20_, wg0_, gg1_, q11_, q21_, wg1_, wwA, wwB, wff, mdA, mdB, e0f, rfl, ht, (by first | with_reducible assumption | omega | trivial | assumption), hz0_, (by first | with_reducible assumption | omega | trivial | assumption), hz1_, (by first | with_reducible assumption | omega | trivial | assumption), hd0_, hd1_, hg0_, hg1_, hwwA, hwwB, hwff, (by first | exact Or.inl ⟨rfl, rfl, rfl⟩ | exact Or.inr (Or.inl ⟨rfl, rfl, rfl⟩) | exact Or.inr (Or.inr ⟨rfl, rfl, rfl⟩)), (Or.inl ⟨by first | with_reducible assumption | assumption, rfl, hT⟩)⟩)
theorem zB01 (x : Int32) : x &&& 1 = 0 ∨ x &&& 1 = 1 := by
  obtain ⟨j, hj, e⟩ := pk_andE x (m := 1) 1 (by decide)
  rw [e]
  rcases (show j = 0 ∨ j = 1 by omega) with q | q
  · rw [q]; exact Or.inl rfl
  · rw [q]; exact Or.inr rfl
theorem zBit_n {x y : Int32} (h : ¬ zBit x y = 1) : zBit x y = 0 := (zB01 (x >>> (y &&& 31))).resolve_right h
theorem zBit_p {x y : Int32} (h : ¬ zBit x y = 0) : zBit x y = 1 := (zB01 (x >>> (y &&& 31))).resolve_left h
theorem zBit_o {x y : Int32} (h : zBit x y = 1) : ¬ zBit x y = 0 := fun q => absurd (q.symm.trans h) (by decide)
def zRo (f : Nat → Int32) (z : Int32) (j : Nat) : Int32 := f (z.toInt.toNat + (2 + j))
def zLo (f : Nat → Int32) (z : Int32) (i : Nat) : Int32 := f (z.toInt.toNat + (23 + i))
def zPo (f : Nat → Int32) (z : Int32) (j : Nat) : Int32 := f (z.toInt.toNat + (9 + j))
/-- ways out: none of an inn -/
def zWo (f : Nat → Int32) (z inns : Int32) (j : Nat) : Int32 := if zBit inns (nI j) = 1 then 0 else zRo f z j
/-- each post points to a road that is there, or to the first one -/
def zMV (R P : Nat → Int32) : Prop := ∀ c, c < 7 → (R c).toInt ≤ 0 ∨ (P c).toInt = 0 ∨ (P c).toInt < (R c).toInt
/-- the roads of two rows lead to the same -/
def zLs (f3 lf lg : Nat → Int32) : Prop := ∀ j r : Nat, j < 7 → r < 4 → (r : Int) < (f3 j).toInt → lf (4 * j + r) = lg (4 * j + r)
def kW (cr inn : Int32) (k1 : Nat → Int32) (j : Nat) : Int32 := zWays cr inn k1 (nI j)
def pW (f : Nat → Int32) (z : Int32) : Nat → Int32 := zWo f z (f (z.toInt.toNat + 1))
/-- the class's rows of a land walk as the record's -/
theorem zLnd_w {cr inn z : Int32} {k1 k2 k3 k4 f : Nat → Int32} {B : Nat} (h : zLnd cr inn k1 k2 k3 k4 (fun j => f (B + j))) (hF : zLF (fun j => f (B + j))) (hz : z.toInt.toNat = B) : (∀ j, j < 7 → kW cr inn k1 j = pW f z j) ∧ zLs (kW cr inn k1) k2 (zLo f z) ∧ (∀ j, j < 7 → k3 j = zPo f z j) ∧ zP3 k3 (kW cr inn k1) ∧ cr = f z.toInt.toNat ∧ inn = f (z.toInt.toNat + 1) := by
  obtain ⟨ha, hab, hi, hd, hx, hr⟩ := h
  obtain ⟨hf0, hf1, hf2⟩ := hF
  have ha : cr = f B := ha
  have hab : 0 ≤ (f B).toInt ∧ (f B).toInt ≤ 7 := hab
  have hi : inn = f (B + 1) := hi
  have hd : ∀ j : Nat, j < 7 → k1 j = f (B + (2 + j)) ∧ k3 j = f (B + (9 + j)) ∧ k4 j = f (B + (16 + j)) := hd
  have hx : ∀ j : Nat, j < 7 → (f B).toInt ≤ (j : Int) → k1 j = 0 := hx
  have hr : ∀ j r : Nat, j < 7 → r < 4 → (r : Int) < (k1 j).toInt → k2 (4 * j + r) = f (B + (23 + 4 * j + r)) := hr
  have hf1 : ∀ c : Nat, c < 7 → (0 ≤ (f (B + (2 + c))).toInt ∧ (f (B + (2 + c))).toInt ≤ 4) ∧ (0 ≤ (f (B + (9 + c))).toInt ∧ (f (B + (9 + c))).toInt ≤ 3) ∧ 0 ≤ (f (B + (16 + c))).toInt ∧ (f (B + (16 + c))).toInt ≤ 9 := hf1
  have hw : ∀ j : Nat, j < 7 → kW cr inn k1 j = if zBit inn (nI j) = 1 then 0 else k1 j := fun j hj => by
    have t := nI_toInt (n := j) (by omega)
    have t2 := nI_clamp (n := j) (by omega)
    have hcr : cr.toInt = (f B).toInt := by rw [ha]
    unfold kW zWays
    by_cases b : zBit inn (nI j) = 1
    · rw [if_pos b, if_neg (fun q => zBit_o b q.2.2.2)]
    · rw [if_neg b]
      by_cases q : (j : Int) < (f B).toInt
      · rw [if_pos ⟨by omega, by omega, by omega, zBit_n b⟩, t2]
      · rw [if_neg (fun q2 => by omega), hx j hj (by omega)]
  have hp : ∀ j, j < 7 → kW cr inn k1 j = pW f z j := fun j hj => by
    rw [hw j hj]
    unfold pW zWo zRo
    rw [hz, ← hi, (hd j hj).1]
  have hk0 : (0 : Int32).toInt = 0 := rfl
  have hk : ∀ j, j < 7 → 0 ≤ (kW cr inn k1 j).toInt ∧ (kW cr inn k1 j).toInt ≤ (k1 j).toInt ∧ (k1 j).toInt ≤ 4 := fun j hj => by
    have q := (hf1 j hj).1
    rw [hw j hj, (hd j hj).1]
    split
    · rw [hk0]; exact ⟨by omega, q.1, q.2⟩
    · exact ⟨q.1, by omega, q.2⟩
  refine ⟨hp, fun j r hj hr4 hq => ?_, fun j hj => ?_, fun j hj => ⟨⟨(hk j hj).1, by have := hk j hj; omega⟩, ?_⟩, by rw [hz]; exact ha, by rw [hz]; exact hi⟩
  · rw [hr j r hj hr4 (by have := hk j hj; omega)]
    unfold zLo
    rw [hz]
    exact congrArg f (by omega)
  · unfold zPo
    rw [hz]
    exact (hd j hj).2.1
  · rw [(hd j hj).2.1]
    have q := (hf1 j hj).2.1
    exact ⟨q.1, by omega⟩
/-- a land's row as it can be kept: posts point to roads, inns are crossings that are there, roads lead to such -/
def zVR (R : Nat → Int32) : Prop := ∀ c, c < 7 → ((R (9 + c)).toInt = 0 ∨ (R (9 + c)).toInt < (R (2 + c)).toInt) ∧ ((R 0).toInt ≤ (c : Int) → zBit (R 1) (nI c) = 0) ∧ ∀ r : Nat, r < 4 → (r : Int) < (R (2 + c)).toInt → (R (23 + 4 * c + r)).toInt < (R 0).toInt
theorem zVR_cg {R R' : Nat → Int32} (e : ∀ j, j < 51 → R' j = R j) (h : zVR R) : zVR R' := by
  intro c hc
  obtain ⟨a, b, d⟩ := h c hc
  refine ⟨?_, ?_, fun r hr hq => ?_⟩
  · rw [e _ (by omega), e _ (by omega)]; exact a
  · rw [e _ (by omega), e _ (by omega)]; exact b
  · rw [e _ (by omega)] at hq
    rw [e _ (by omega), e _ (by omega)]
    exact d r hr hq
/-- so of each land that is kept, told or in an image -/
def zVA (f : Nat → Int32) : Prop := ∀ i k, i < 4 → k < 2 → zVR (fun j => f (988 * i + (610 + 51 * k + j)))
theorem zVA_0 {f : Nat → Int32} {z : Int32} (h : zVA f) (hz : z.toInt = 610 ∨ z.toInt = 661) : zVR (fun j => f (z.toInt.toNat + j)) := by
  rcases hz with q | q
  · exact zVR_cg (fun j _ => congrArg f (by omega)) (h 0 0 (by decide) (by decide))
  · exact zVR_cg (fun j _ => congrArg f (by omega)) (h 0 1 (by decide) (by decide))
theorem zVA_z {f P : Nat → Int32} {z : Int32} (h : zVA f) (hz : z.toInt = 610 ∨ z.toInt = 661) (hP : ∀ j, j < 7 → P j = zPt f z (nI j)) : zMV (zRo f z) P := by
  intro c hc
  rw [hP c hc]
  have e := nI_toInt (n := c) (by omega)
  have e1 : zPt f z (nI c) = f (z.toInt.toNat + (9 + c)) := congrArg f (by omega)
  rw [e1]
  exact Or.inr (zVA_0 h hz c hc).1
/-- the reference's rows are a walk's rows -/
theorem zP3_m {f P : Nat → Int32} {z cr n : Int32} (h : zML f z cr) (hP : zMP P) : zP3 P (zWo f z n) := by
  intro j hj
  have e := nI_toInt (n := j) (by omega)
  have r : 0 ≤ (zRo f z j).toInt ∧ (zRo f z j).toInt ≤ 4 := (h.2.2.2.1 j hj).1
  have p := hP j hj
  refine ⟨?_, p.1, by omega⟩
  unfold zWo
  split
  · exact ⟨by decide, by decide⟩
  · exact r
theorem zA_2 {r r' x no : Int32} {fk f : Nat → Int32} {a0 a1 b0 b1 : Int32} (hk : fk 0 = f 0) (hq : (f 0).toInt ≤ 2) (e0 : a0 = b0) (e1 : a1 = b1) (F1 : (x.toInt < 0 ∨ (fk 0).toInt ≤ x.toInt ∨ 2 ≤ x.toInt) ∧ r = no ∨ x.toInt = 0 ∧ 0 < (fk 0).toInt ∧ r = a0 ∨ x.toInt = 1 ∧ 1 < (fk 0).toInt ∧ r = a1) (F2 : (x.toInt < 0 ∨ (f 0).toInt ≤ x.toInt) ∧ r' = no ∨ x.toInt = 0 ∧ 0 < (f 0).toInt ∧ r' = b0 ∨ x.toInt = 1 ∧ 1 < (f 0).toInt ∧ r' = b1) : r = r' := by
  rw [hk] at F1
  rcases F1 with ⟨a, b⟩ | ⟨a, b, c⟩ | ⟨a, b, c⟩ <;> rcases F2 with ⟨d, e⟩ | ⟨d, e, g⟩ | ⟨d, e, g⟩ <;> first | (exfalso; omega) | (rw [b, e]; done) | (rw [c, g, e0]; done) | (rw [c, g, e1]; done)
def pBk (a : pS) : Prop := ¬ a.2.1.toInt = 0 → ¬ a.2.2.1.toInt = 0
section PBK
variable {k : pT} {a : pS}
theorem pBk_ends (h : pBk a) : pBk (pEnds k a) := by
  unfold pEnds
  split
  · exact fun _ => by show ¬ (1 : Int32).toInt = 0; decide
  · exact h
theorem pBk_also {kd w : Int32} (h : pBk a) : pBk (pAlso kd w a) := by
  unfold pAlso
  split
  · exact h
  · rename_i q
    exact fun q2 => absurd (Or.inl q2) q
theorem pBk_num {lo hi : Int32} (h : pBk a) : pBk (pNum k lo hi a).2 := by
  unfold pNum
  split
  · exact pBk_ends h
  · split
    · exact h
    · exact pBk_also (kd := 2) (w := nI (pWh k a.1)) h
theorem pBk_word {lo hi : Nat} (h : pBk a) : pBk (pWord k lo hi a).2 := by
  unfold pWord
  split
  · exact pBk_ends h
  · exact h
theorem pBk_endL (h : pBk a) : pBk (pEndL k a) := by
  unfold pEndL
  split
  · exact h
  · exact pBk_ends h
theorem pBk_cr (h : pBk a) : pBk (pCr k a).2 := pBk_num (k := k) (lo := 0) (hi := 6) h
theorem pBk_roads : ∀ (i m : Nat) (a : pS) (f : Nat → Int32), pBk a → pBk (pRoads k i m a f).2.1
  | 0, m, a, f, h => h
  | i + 1, m, a, f, h => by
    unfold pRoads
    split
    · refine pBk_roads i _ _ _ (pBk_cr ?_)
      split
      · exact pBk_also h
      · exact h
    · exact h
theorem pBk_db {m : Int} {w : Int32} {f : Nat → Int32} (h : pBk a) : pBk (pDB m w f a) := by
  unfold pDB
  split
  · exact pBk_also h
  · exact h
theorem pBk_other {d : Nat} {w : Int32} {f : Nat → Int32} (h : pBk a) : pBk (pOther k d w a f).1 := by
  unfold pOther
  split
  · exact h
  · split
    · exact pBk_roads 601 0 _ _ (pBk_db h)
    · split
      · exact pBk_cr h
      · exact pBk_num (pBk_cr h)
theorem pBk_land {f : Nat → Int32} (h : pBk a) : pBk (pLand k a f).1 := pBk_endL (pBk_other (pBk_word h))
theorem pBk_lines : ∀ (i : Nat) (a : pS) (f : Nat → Int32), pBk a → pBk (pLines k 0 i a f).1
  | 0, a, f, h => h
  | i + 1, a, f, h => by
    unfold pLines
    split
    · refine pBk_lines i _ _ ?_
      rw [show pLine k 0 a f = pLand k a f from if_pos rfl]
      exact pBk_land h
    · exact h
end PBK
/-- inns told: of crossings that were told -/
def zIq (inn fa : Int32) : Prop := ∃ t : Nat, t < 128 ∧ inn = nI t ∧ (-1 ≤ fa.toInt ∧ fa.toInt ≤ 6) ∧ ∀ d : Nat, d ≤ 7 → fa.toInt < (d : Int) → t / 2 ^ d = 0
theorem zIq_m {inn fa fb : Int32} (h : zIq inn fa) (h1 : fa.toInt ≤ fb.toInt) (h2 : fb.toInt ≤ 6) : zIq inn fb := by
  obtain ⟨t, ht, e, hf, hd⟩ := h
  exact ⟨t, ht, e, ⟨by omega, h2⟩, fun d hd8 hq => hd d hd8 (by omega)⟩
theorem zIq_t {inn fa c : Int32} (h : zIq inn fa) (hc : 0 ≤ c.toInt ∧ c.toInt ≤ 6) : zIq (inn ||| ((1 : Int32) <<< (c &&& 31))) (if fa.toInt < c.toInt then c else fa) := by
  obtain ⟨t, ht, rfl, hf, hd⟩ := h
  have ec : c = nI c.toInt.toNat := z_nI (by omega) (by omega)
  have k1 := zTof_k1 t ht c.toInt.toNat (by omega)
  rw [← ec] at k1
  refine ⟨t ||| 2 ^ c.toInt.toNat, k1.2, k1.1, ?_, fun d hd8 hq => (zTof_k2 t ht c.toInt.toNat (by omega) d (by omega)).mpr ?_⟩
  · split <;> omega
  · split at hq
    · exact ⟨hd d hd8 (by omega), by omega⟩
    · exact ⟨hd d hd8 hq, by omega⟩
theorem zIq_b : ∀ t, t < 128 → ∀ j, j < 7 → t / 2 ^ j = 0 → zBit (nI t) (nI j) = 0 := by decide +kernel
theorem zIq_0 : zIq 0 (-1) := ⟨0, by decide, rfl, by decide, fun d _ _ => Nat.zero_div _⟩
/-- roads told lead to crossings that were told -/
def zJq (f : Nat → Int32) (fa : Int32) : Prop := ∀ c r : Nat, c < 7 → r < 4 → (r : Int) < (f (2 + c)).toInt → (f (23 + 4 * c + r)).toInt ≤ fa.toInt
theorem zJq_m {f : Nat → Int32} {fa fb : Int32} (h : zJq f fa) (q : fa.toInt ≤ fb.toInt) : zJq f fb := fun c r hc hr hq => Int.le_trans (h c r hc hr hq) q
theorem zJq_l {f : Nat → Int32} {fa fb v : Int32} {k : Nat} (h : zJq f fa) (q : fa.toInt ≤ fb.toInt) (hv : v.toInt ≤ fb.toInt) (hk : 23 ≤ k) : zJq (upd f k v) fb := by
  intro c r hc hr hq
  rw [z_ne (by omega)] at hq
  by_cases e : 23 + 4 * c + r = k
  · rw [z_eq e]; exact hv
  · rw [z_ne e]; exact Int.le_trans (h c r hc hr hq) q
theorem zJq_o {f : Nat → Int32} {fa v : Int32} {k : Nat} (h : zJq f fa) (hk : k < 23) (hk2 : ¬ (2 ≤ k ∧ k < 9)) : zJq (upd f k v) fa := by
  intro c r hc hr hq
  rw [z_ne (by omega)] at hq
  rw [z_ne (by omega)]
  exact h c r hc hr hq
section PFA
variable {k : pT} {a : pS}
theorem pEnds_a : (pEnds k a).2.2.2.2 = a.2.2.2.2 := by
  unfold pEnds
  split <;> rfl
theorem pAlso_a {kd w : Int32} : (pAlso kd w a).2.2.2.2 = a.2.2.2.2 := by
  unfold pAlso
  split <;> rfl
theorem pNum_a {lo hi : Int32} : (pNum k lo hi a).2.2.2.2.2 = a.2.2.2.2 := by
  unfold pNum
  split
  · exact pEnds_a
  · split
    · rfl
    · exact pAlso_a
theorem pWord_a {lo hi : Nat} : (pWord k lo hi a).2.2.2.2.2 = a.2.2.2.2 := by
  unfold pWord
  split
  · exact pEnds_a
  · rfl
theorem pEndL_aa : (pEndL k a).2.2.2.2 = a.2.2.2.2 := by
  unfold pEndL
  split
  · rfl
  · exact pEnds_a
theorem pNum_b : 0 ≤ (pNum k 0 6 a).1.toInt ∧ (pNum k 0 6 a).1.toInt ≤ 6 := by
  unfold pNum
  split
  · exact ⟨by show (0 : Int) ≤ (0 : Int32).toInt; decide, by show (0 : Int32).toInt ≤ 6; decide⟩
  · split
    · rename_i q
      exact q
    · exact ⟨by show (0 : Int) ≤ (0 : Int32).toInt; decide, by show (0 : Int32).toInt ≤ 6; decide⟩
theorem pCr_a : (pCr k a).2.2.2.2.2 = if a.2.2.2.2.toInt < (pNum k 0 6 a).1.toInt then (pNum k 0 6 a).1 else a.2.2.2.2 := by
  have e : (pCr k a).2.2.2.2.2 = if (pNum k 0 6 a).2.2.2.2.2.toInt < (pNum k 0 6 a).1.toInt then (pNum k 0 6 a).1 else (pNum k 0 6 a).2.2.2.2.2 := rfl
  rw [e, pNum_a]
theorem zIq_cr {inn : Int32} (h : zIq inn a.2.2.2.2) : zIq inn (pCr k a).2.2.2.2.2 := by
  have b := pNum_b (k := k) (a := a)
  have hf : -1 ≤ a.2.2.2.2.toInt ∧ a.2.2.2.2.toInt ≤ 6 := by
    obtain ⟨t, -, -, hf, -⟩ := h
    exact hf
  rw [pCr_a]
  refine zIq_m h ?_ ?_
  · split <;> omega
  · split <;> omega
theorem pCr_m : a.2.2.2.2.toInt ≤ (pCr k a).2.2.2.2.2.toInt ∧ (pCr k a).1.toInt ≤ (pCr k a).2.2.2.2.2.toInt := by
  rw [pCr_a]
  show a.2.2.2.2.toInt ≤ (if a.2.2.2.2.toInt < (pNum k 0 6 a).1.toInt then (pNum k 0 6 a).1 else a.2.2.2.2).toInt ∧ (pNum k 0 6 a).1.toInt ≤ (if a.2.2.2.2.toInt < (pNum k 0 6 a).1.toInt then (pNum k 0 6 a).1 else a.2.2.2.2).toInt
  split <;> omega
/-- the roads of a crossing, while they are told -/
def zJm (f : Nat → Int32) (fa : Int32) (m : Nat) : Prop := zJq f fa ∧ ∀ r : Nat, r < m → r < 4 → (f 0).toInt < 7 → (f (23 + 4 * (f 0).toInt.toNat + r)).toInt ≤ fa.toInt
theorem zIq_roads {inn cr : Int32} : ∀ (i m : Nat) (a : pS) (f : Nat → Int32), m ≤ 4 → f 1 = inn → f 0 = cr → zIq inn a.2.2.2.2 → zJm f a.2.2.2.2 m → ((pRoads k i m a f).2.2 1 = inn ∧ (pRoads k i m a f).2.2 0 = cr ∧ (pRoads k i m a f).1 ≤ 4) ∧ zIq inn (pRoads k i m a f).2.1.2.2.2.2 ∧ zJm (pRoads k i m a f).2.2 (pRoads k i m a f).2.1.2.2.2.2 (pRoads k i m a f).1
  | 0, m, a, f, hm, e, e0, h, hJ => ⟨⟨e, e0, hm⟩, h, hJ⟩
  | i + 1, m, a, f, hm, e, e0, h, hJ => by
    have hx : ∀ b : pS, b.2.2.2.2 = a.2.2.2.2 → zIq inn (pCr k b).2.2.2.2.2 ∧ zJm (if (f 0).toInt < 7 ∧ m < 4 then upd f (23 + 4 * (f 0).toInt.toNat + m) (pCr k b).1 else f) (pCr k b).2.2.2.2.2 (if m < 4 then m + 1 else 4) := by
      intro b hb
      have hm2 := pCr_m (k := k) (a := b)
      rw [hb] at hm2
      refine ⟨zIq_cr (by rw [hb]; exact h), ?_⟩
      by_cases q : (f 0).toInt < 7 ∧ m < 4
      · rw [if_pos q, if_pos q.2]
        refine ⟨zJq_l hJ.1 hm2.1 hm2.2 (by omega), fun r hr hr4 h7 => ?_⟩
        rw [show upd f (23 + 4 * (f 0).toInt.toNat + m) (pCr k b).1 0 = f 0 from z_ne (by omega)]
        by_cases t : r = m
        · rw [z_eq (by omega)]
          exact hm2.2
        · rw [z_ne (by omega)]
          exact Int.le_trans (hJ.2 r (by omega) hr4 q.1) hm2.1
      · rw [if_neg q]
        refine ⟨zJq_m hJ.1 hm2.1, fun r hr hr4 h7 => Int.le_trans (hJ.2 r ?_ hr4 h7) hm2.1⟩
        by_cases t : m < 4
        · exact absurd ⟨h7, t⟩ q
        · omega
    unfold pRoads
    split
    · have hb : (if m = 4 then pAlso 3 (nI (pWh k a.1)) a else a).2.2.2.2 = a.2.2.2.2 := by
        split
        · exact pAlso_a
        · rfl
      have hy := hx _ hb
      refine zIq_roads i _ _ _ (by split <;> omega) ?_ ?_ hy.1 hy.2
      · split
        · rw [z_ne (by omega)]; exact e
        · exact e
      · split
        · rw [z_ne (by omega)]; exact e0
        · exact e0
    · exact ⟨⟨e, e0, hm⟩, h, hJ⟩
/-- what holds of a land's row while it is read -/
def zKv (f : Nat → Int32) (fa : Int32) : Prop := zIq (f 1) fa ∧ zJq f fa ∧ 0 ≤ (f 0).toInt ∧ (f 0).toInt ≤ 7
theorem zKv_other {d : Nat} {w : Int32} {f : Nat → Int32} (h : zKv f a.2.2.2.2) : zKv (pOther k d w a f).2 (pOther k d w a f).1.2.2.2.2 := by
  obtain ⟨hI, hJ, h0⟩ := h
  unfold pOther
  split
  · exact ⟨hI, hJ, h0⟩
  · split
    · have hb : (pDB 7 w f a).2.2.2.2 = a.2.2.2.2 := by
        unfold pDB
        split
        · exact pAlso_a
        · rfl
      obtain ⟨⟨r1, r2, r3⟩, r4, r5, r6⟩ := zIq_roads (k := k) 601 0 (pDB 7 w f a) f (by decide) rfl rfl (by rw [hb]; exact hI) ⟨by rw [hb]; exact hJ, fun r hr _ _ => absurd hr (Nat.not_lt_zero r)⟩
      show zKv (if 7 ≤ (f 0).toInt then (pRoads k 601 0 (pDB 7 w f a) f).2.2 else upd (upd (pRoads k 601 0 (pDB 7 w f a) f).2.2 (2 + ((pRoads k 601 0 (pDB 7 w f a) f).2.2 0).toInt.toNat) (nI (pRoads k 601 0 (pDB 7 w f a) f).1)) 0 ((pRoads k 601 0 (pDB 7 w f a) f).2.2 0 + 1)) (pRoads k 601 0 (pDB 7 w f a) f).2.1.2.2.2.2
      revert r1 r2 r3 r4 r5 r6
      generalize (pRoads k 601 0 (pDB 7 w f a) f).2.2 = g
      generalize (pRoads k 601 0 (pDB 7 w f a) f).2.1.2.2.2.2 = fb
      generalize (pRoads k 601 0 (pDB 7 w f a) f).1 = m
      intro r1 r2 r3 r4 r5 r6
      split
      · exact ⟨by rw [r1]; exact r4, r5, by rw [r2]; exact h0⟩
      · have e1 : (g 0 + 1).toInt = (g 0).toInt + 1 := z_iaddI (by rw [r2]; show -2147483648 ≤ (f 0).toInt + 1; omega) (by rw [r2]; show (f 0).toInt + 1 < 2147483648; omega)
        rw [r2] at e1 ⊢
        refine ⟨?_, zJq_o ?_ (by decide) (by decide), ?_⟩
        · rw [z_ne (by omega), z_ne (by omega), r1]; exact r4
        · intro c r hc hr hq
          by_cases t : c = (f 0).toInt.toNat
          · rw [z_ne (by omega)]
            rw [z_eq (by omega)] at hq
            have em := nI_toInt (n := m) (by omega)
            have x := r6 r (by omega) hr (by rw [r2]; omega)
            rw [r2, ← t] at x
            exact x
          · rw [z_ne (by omega)] at hq
            rw [z_ne (by omega)]
            exact r5 c r hc hr hq
        · rw [z_eq rfl, e1]
          omega
    · split
      · have b := pNum_b (k := k) (a := a)
        have t := zIq_t hI b
        rw [← pCr_a] at t
        have hm2 := pCr_m (k := k) (a := a)
        show zKv (upd f 1 (f 1 ||| ((1 : Int32) <<< ((pCr k a).1 &&& 31)))) (pCr k a).2.2.2.2.2
        exact ⟨by rw [z_eq rfl]; exact t, zJq_o (zJq_m hJ hm2.1) (by decide) (by decide), by rw [z_ne (by decide)]; exact h0⟩
      · have t := zIq_cr (k := k) hI
        have hm2 := pCr_m (k := k) (a := a)
        have b : 0 ≤ (pCr k a).1.toInt ∧ (pCr k a).1.toInt ≤ 6 := pNum_b (k := k) (a := a)
        show zKv (upd f ((if d = 2 then 9 else 16) + (pCr k a).1.toInt.toNat) (pNum k 0 (if d = 2 then 3 else 9) (pCr k a).2).1) (pNum k 0 (if d = 2 then 3 else 9) (pCr k a).2).2.2.2.2.2
        rw [pNum_a]
        have e : (if d = 2 then 9 else 16) = 9 ∨ (if d = 2 then 9 else 16) = 16 := by
          split
          · exact Or.inl rfl
          · exact Or.inr rfl
        exact ⟨by rw [z_ne (by omega)]; exact t, zJq_o (zJq_m hJ hm2.1) (by omega) (by omega), by rw [z_ne (by omega)]; exact h0⟩
theorem zKv_land {f : Nat → Int32} (h : zKv f a.2.2.2.2) : zKv (pLand k a f).2 (pLand k a f).1.2.2.2.2 := by
  show zKv _ (pEndL k _).2.2.2.2
  rw [pEndL_aa]
  exact zKv_other (by rw [pWord_a]; exact h)
theorem zKv_lines : ∀ (i : Nat) (a : pS) (f : Nat → Int32), zKv f a.2.2.2.2 → zKv (pLines k 0 i a f).2 (pLines k 0 i a f).1.2.2.2.2
  | 0, a, f, h => h
  | i + 1, a, f, h => by
    unfold pLines
    split
    · refine zKv_lines i _ _ ?_
      rw [show pLine k 0 a f = pLand k a f from if_pos rfl]
      exact zKv_land h
    · exact h
theorem zKv_0 : zKv (fun _ => 0) (-1) := ⟨zIq_0, fun c r _ _ hq => absurd hq (by show ¬ (r : Int) < (0 : Int32).toInt; have : (0 : Int32).toInt = 0 := rfl; omega), by decide⟩
end PFA
theorem pRead_V {k : pT} {n : Nat} (h : (pRead k n 0).1.2.2.1.toInt = 0) : zVR (pRead k n 0).2 := by
  have hb : pBk (pLines k 0 601 (0, 0, 0, -1, -1) (fun _ => 0)).1 := pBk_lines 601 _ _ (fun q => absurd rfl q)
  have hi : zKv (pLines k 0 601 (0, 0, 0, -1, -1) (fun _ => 0)).2 (pLines k 0 601 (0, 0, 0, -1, -1) (fun _ => 0)).1.2.2.2.2 := zKv_lines 601 _ _ zKv_0
  have h : (pF5 n 0 (pF4 n 0 (pLines k 0 601 (0, 0, 0, -1, -1) (fun _ => 0)).1 (pLines k 0 601 (0, 0, 0, -1, -1) (fun _ => 0)).2) (pLines k 0 601 (0, 0, 0, -1, -1) (fun _ => 0)).2).2.2.1.toInt = 0 := h
  show zVR (pLines k 0 601 (0, 0, 0, -1, -1) (fun _ => 0)).2
  revert hb hi h
  generalize (pLines k 0 601 (0, 0, 0, -1, -1) (fun _ => 0)).1 = a
  generalize (pLines k 0 601 (0, 0, 0, -1, -1) (fun _ => 0)).2 = f
  intro hb hi h
  have hb4 : pBk (pF4 n 0 a f) := by
    unfold pF4
    split
    · exact pBk_also hb
    · exact hb
  have h4 : (pF4 n 0 a f).2.2.1.toInt = 0 ∧ pPosts f = true := by
    revert hb4 h
    generalize pF4 n 0 a f = b
    intro h hb4
    by_cases hq : b.2.2.1.toInt = 0
    · refine ⟨hq, ?_⟩
      by_cases hp : pPosts f = true
      · exact hp
      · exfalso
        unfold pF5 at h
        rw [if_pos ⟨rfl, hq, Bool.eq_false_iff.mpr hp⟩] at h
        unfold pAlso at h
        by_cases hc : b.2.1.toInt = 0
        · rw [if_neg (fun z => z.elim (fun z => z hc) (fun z => z.1 hq))] at h
          exact absurd (show (5 : Int32).toInt = 0 from h) (by decide)
        · exact hb4 hc hq
    · exfalso
      unfold pF5 at h
      rw [if_neg (fun z => hq z.2.1)] at h
      exact hq h
  have h5 := h4.1
  unfold pF4 at h5
  have ha : a.2.2.1.toInt = 0 := by
    by_cases hq : a.2.2.1.toInt = 0
    · exact hq
    · rw [if_neg (fun z => hq z.2.1)] at h5
      exact h5
  have hf : ¬ (f 0).toInt ≤ a.2.2.2.2.toInt := fun q => by
    rw [if_pos ⟨rfl, ha, q⟩] at h5
    unfold pAlso at h5
    by_cases hc2 : a.2.1.toInt = 0
    · rw [if_neg (fun z => z.elim (fun z => z hc2) (fun z => z.1 ha))] at h5
      exact absurd (show (4 : Int32).toInt = 0 from h5) (by decide)
    · exact hb hc2 ha
  obtain ⟨⟨t, ht, e, -, hd⟩, hJ, -⟩ := hi
  intro c hc
  refine ⟨pPosts_t.mp h4.2 c hc, fun hn => ?_, fun r hr hq => ?_⟩
  · rw [e]
    exact zIq_b t ht c hc (hd c (by omega) (by omega))
  · have := hJ c r hc hr hq
    omega
theorem zVA_low {f g : Nat → Int32} (hV : zVA f) (e : ∀ j, 610 ≤ j → g j = f j) : zVA g := fun i q hi hq => zVR_cg (fun j _ => e _ (by omega)) (hV i q hi hq)
theorem zVA_text {k : pT} {n s : Nat} {at_ r : Int32} {f g : Nat → Int32} (hV : zVA f) (hs : s < 3) (F2 : zText (pRead k n s) s at_ f g r) (T2 : ∀ j, 988 ≤ j → g j = f j) : zVA g := by
  have ho : ∀ (a b : Int32) (j : Nat), 7 ≤ j → pHd f a b j = f j := fun a b j hj => by
    unfold pHd
    rw [z_ne (by omega), z_ne (by omega), z_ne (by omega)]
  rcases F2 with ⟨-, -, z⟩ | ⟨-, -, -, z⟩ | ⟨-, y, -, z⟩
  · refine zVA_low hV (fun j hj => ?_)
    by_cases q : j < 988
    · rw [z j q, ho _ _ _ (by omega)]
    · exact T2 j (by omega)
  · refine zVA_low hV (fun j hj => ?_)
    by_cases q : j < 988
    · rw [z j q, ho _ _ _ (by omega)]
    · exact T2 j (by omega)
  · have hc2 : ∀ (G : Nat → Int32) (j : Nat), 7 ≤ j → pCnt s at_ G j = G j := fun G j hj => by
      unfold pCnt
      split
      · exact z_ne (by omega)
      · rfl
    intro i q hi hq
    by_cases e : i = 0
    · by_cases hs0 : s = 0 ∧ (pNr 0 at_ f).toInt.toNat = q
      · obtain ⟨hs0, hn⟩ := hs0
        subst hs0
        refine zVR_cg (fun j hj => ?_) (pRead_V y)
        show g (988 * i + (610 + 51 * q + j)) = (pRead k n 0).2 j
        rw [z _ (by omega), hn]
        unfold pPut
        have hp : pBase 0 q = 610 + 51 * q := rfl
        have hz : pSize 0 = 51 := rfl
        rw [hp, hz, if_pos (by omega)]
        exact congrArg _ (by omega)
      · refine zVR_cg (fun j hj => ?_) (hV i q hi hq)
        show g (988 * i + (610 + 51 * q + j)) = f (988 * i + (610 + 51 * q + j))
        rw [z _ (by omega)]
        have hx : ¬ (pBase s (pNr s at_ f).toInt.toNat ≤ 988 * i + (610 + 51 * q + j) ∧ 988 * i + (610 + 51 * q + j) < pBase s (pNr s at_ f).toInt.toNat + pSize s) := by
          rcases (show s = 0 ∨ s = 1 ∨ s = 2 by omega) with t | t | t
          · subst t
            have hp : pBase 0 (pNr 0 at_ f).toInt.toNat = 610 + 51 * (pNr 0 at_ f).toInt.toNat := rfl
            have hz : pSize 0 = 51 := rfl
            rw [hp, hz]
            have hn : ¬ (pNr 0 at_ f).toInt.toNat = q := fun w => hs0 ⟨rfl, w⟩
            omega
          · subst t
            have hp : pBase 1 (pNr 1 at_ f).toInt.toNat = 712 + 121 * (pNr 1 at_ f).toInt.toNat := rfl
            rw [hp]
            omega
          · subst t
            have hp : pBase 2 (pNr 2 at_ f).toInt.toNat = 954 + 17 * (pNr 2 at_ f).toInt.toNat := rfl
            rw [hp]
            omega
        unfold pPut
        rw [if_neg hx, hc2 _ _ (by omega), ho _ _ _ (by omega)]
    · exact zVR_cg (fun j _ => T2 _ (by omega)) (hV i q hi hq)
theorem zVA_feed {p : Nat} {a b c d e r : Int32} {f g : Nat → Int32} (hV : zVA f) (hp6 : p ≤ 600) (F2 : 580 < p ∧ r = -1 ∧ g = f ∨ p ≤ 580 ∧ r = nI (p + 20) ∧ zFeedR p a b c d e f g) : zVA g := by
  rcases F2 with ⟨-, -, y⟩ | ⟨hp5, -, y⟩
  · rw [y]; exact hV
  · obtain ⟨-, -, z3⟩ := y
    exact zVA_low hV (fun j hj => z3 j (by omega) (by omega))
theorem zVA_end {n r : Int32} {f g : Nat → Int32} (hV : zVA f) (F2 : (n.toInt < 0 ∨ (f 4).toInt < n.toInt) ∧ r.toInt = -1 ∧ g = f ∨ (0 ≤ n.toInt ∧ n.toInt ≤ (f 4).toInt) ∧ g = upd f 4 n ∧ r = n) : zVA g := by
  rcases F2 with ⟨-, -, y⟩ | ⟨-, y, -⟩
  · rw [y]; exact hV
  · rw [y]; exact zVA_low hV (fun j hj => z_ne (by omega))
theorem zVA_hd {f g : Nat → Int32} (hV : zVA f) (hg : g = upd (upd (upd f 4 0) 5 0) 6 (-1)) : zVA g := by
  rw [hg]
  exact zVA_low hV (fun j hj => by rw [z_ne (by omega), z_ne (by omega), z_ne (by omega)])
theorem zVA_img {f g : Nat → Int32} {k : Nat} (hk : k < 3) (hV : zVA f) (c1 : ∀ j, j < 988 → g (988 * (k + 1) + j) = f j) (c2 : ∀ j, (j < 988 * (k + 1) ∨ 988 * (k + 1) + 988 ≤ j) → g j = f j) : zVA g := by
  intro i q hi hq
  by_cases e : i = k + 1
  · subst e
    exact zVR_cg (fun j _ => (c1 _ (by omega)).trans (congrArg f (by omega))) (hV 0 q (by decide) hq)
  · have : i < k + 1 ∨ k + 1 < i := by omega
    exact zVR_cg (fun j _ => c2 _ (by omega)) (hV i q hi hq)
theorem zVA_ag {K : Nat} {x r' : Int32} {fh f g : Nat → Int32} (hV : zVA f) (hx : x.toInt = (K : Int)) (hK : K < 3) (F2 : r' = 0 ∧ (x.toInt < 0 ∨ 3 ≤ x.toInt ∨ fh x.toNatClampNeg = 0) ∧ g = f ∨ r' = 1 ∧ (0 ≤ x.toInt ∧ x.toInt < 3) ∧ ¬ fh x.toNatClampNeg = 0 ∧ (∀ j, j < 988 → g j = f (988 * (x.toNatClampNeg + 1) + j)) ∧ ∀ j, 988 ≤ j → g j = f j) : zVA g := by
  have e : x.toNatClampNeg = K := by have := z_clI (x := x) (by omega); omega
  rw [e] at F2
  rcases F2 with ⟨-, -, z⟩ | ⟨-, -, -, z, z2⟩
  · rw [z]; exact hV
  · intro i q hi hq
    by_cases e : i = 0
    · exact zVR_cg (fun j _ => (z _ (by omega)).trans (congrArg f (by omega))) (hV (K + 1) q (by omega) hq)
    · exact zVR_cg (fun j _ => z2 _ (by omega)) (hV i q hi hq)
theorem zBit_z (y : Int32) : zBit 0 y = 0 := by
  unfold zBit
  rw [Int32.zero_shiftRight]
  rfl
theorem zVR_z {R : Nat → Int32} (h : ∀ j, j < 51 → R j = 0) : zVR R := by
  intro c hc
  rw [h _ (by omega), h _ (by omega), h _ (by omega), h _ (by omega)]
  exact ⟨Or.inl rfl, fun _ => zBit_z _, fun r _ hq => absurd hq (by show ¬ (r : Int) < (0 : Int32).toInt; have : (0 : Int32).toInt = 0 := rfl; omega)⟩
theorem zVA_st : zVA (upd (fun _ => 0) 6 (-1)) := fun i q _ _ => zVR_z (fun j _ => if_neg (by omega))
abbrev zHas (cr x : Int32) : Prop := 0 ≤ x.toInt ∧ x.toInt < cr.toInt ∧ x.toInt < 7
/-- roads lead to crossings that are there -/
def zLq (cr : Int32) (k1 k2 : Nat → Int32) : Prop := ∀ j r : Nat, j < 7 → r < 4 → (r : Int) < (k1 j).toInt → 0 ≤ (k2 (4 * j + r)).toInt ∧ (k2 (4 * j + r)).toInt < cr.toInt
theorem zLq_e {cr inn z : Int32} {k1 k2 k3 k4 f : Nat → Int32} {B : Nat} (h : zLnd cr inn k1 k2 k3 k4 (fun j => f (B + j))) (hF : zLF (fun j => f (B + j))) (hz : z.toInt.toNat = B) (hV : zVR (fun j => f (z.toInt.toNat + j))) : zLq cr k1 k2 := by
  obtain ⟨ha, -, -, hd, -, hr⟩ := h
  rw [hz] at hV
  intro j r hj hr4 hq
  have e := hr j r hj hr4 hq
  have e : k2 (4 * j + r) = f (B + (23 + 4 * j + r)) := e
  have b : 0 ≤ (f (B + (23 + (4 * j + r)))).toInt := (hF.2.2 (4 * j + r) (by omega)).1
  have d : k1 j = f (B + (2 + j)) := (hd j hj).1
  have v : (r : Int) < (f (B + (2 + j))).toInt → (f (B + (23 + 4 * j + r))).toInt < (f (B + 0)).toInt := (hV j hj).2.2 r hr4
  have ha : cr = f (B + 0) := ha
  rw [e, ha]
  rw [show B + (23 + (4 * j + r)) = B + (23 + 4 * j + r) by omega] at b
  exact ⟨b, v (by rw [← d]; exact hq)⟩
def zDR (R : Nat → Int32) : Prop := ∀ j : Nat, (j : Int) < (R 0).toInt → (0 ≤ (R (1 + 3 * j)).toInt ∧ (R (1 + 3 * j)).toInt ≤ 5) ∧ (4 ≤ (R (1 + 3 * j)).toInt → 0 ≤ (R (3 + 3 * j)).toInt ∧ (R (3 + 3 * j)).toInt ≤ 3)
theorem zDR_cg {R R' : Nat → Int32} (e : ∀ j, j < 121 → R' j = R j) (h0 : (R 0).toInt ≤ 40) (h : zDR R) : zDR R' := by
  intro j hj
  rw [e 0 (by decide)] at hj
  rw [e _ (by omega), e _ (by omega)]
  exact h j hj
section PZ
variable {k : pT} {a : pS}
theorem pEnds_z (h : pBk a) : ¬ (pEnds k a).2.2.1.toInt = 0 := by
  unfold pEnds
  split
  · show ¬ (1 : Int32).toInt = 0
    decide
  · rename_i q
    exact h q
theorem pAlso_zz {kd w : Int32} (h : pBk a) (hk : ¬ kd.toInt = 0) : ¬ (pAlso kd w a).2.2.1.toInt = 0 := by
  unfold pAlso
  split
  · rename_i q
    intro z
    rcases q with q | q
    · exact h q z
    · exact q.1 z
  · exact hk
theorem pNum_z {lo hi : Int32} (h : pBk a) (q : (pNum k lo hi a).2.2.2.1.toInt = 0) : a.2.2.1.toInt = 0 ∧ lo.toInt ≤ (pNum k lo hi a).1.toInt ∧ (pNum k lo hi a).1.toInt ≤ hi.toInt := by
  unfold pNum at q ⊢
  split at q
  · exact absurd q (pEnds_z h)
  · split at q
    · rename_i c1 c2
      rw [if_neg c1, if_pos c2]
      exact ⟨q, c2.1, c2.2⟩
    · exact absurd q (pAlso_zz (kd := 2) (w := nI (pWh k a.1)) h (by decide))
theorem pWord_z {lo hi : Nat} (h : pBk a) (q : (pWord k lo hi a).2.2.2.1.toInt = 0) : a.2.2.1.toInt = 0 ∧ lo ≤ (pWord k lo hi a).1 ∧ (pWord k lo hi a).1 ≤ hi := by
  unfold pWord at q ⊢
  split at q
  · exact absurd q (pEnds_z h)
  · rename_i c1
    rw [if_neg c1]
    exact ⟨q, by omega⟩
theorem pEndL_z (h : pBk a) (q : (pEndL k a).2.2.1.toInt = 0) : a.2.2.1.toInt = 0 := by
  unfold pEndL at q
  split at q
  · exact q
  · exact absurd q (pEnds_z h)
theorem pDB_z {m : Int} {w : Int32} {f : Nat → Int32} (h : pBk a) (q : (pDB m w f a).2.2.1.toInt = 0) : a.2.2.1.toInt = 0 ∧ (f 0).toInt < m := by
  unfold pDB at q
  split at q
  · exact absurd q (pAlso_zz h (by decide))
  · exact ⟨q, by omega⟩
theorem pBk_dy {d : Nat} (h : pBk a) : pBk (pDY k d a).2 := by
  unfold pDY
  split
  · exact pBk_num h
  · exact h
theorem pBk_day {f : Nat → Int32} (h : pBk a) : pBk (pDay k a f).1 := pBk_endL (pBk_dy (pBk_num (pBk_db (pBk_word h))))
/-- what holds of a day's row while there is no fault -/
def zDJ (a : pS) (f : Nat → Int32) : Prop := a.2.2.1.toInt = 0 → zDR f ∧ 0 ≤ (f 0).toInt ∧ (f 0).toInt ≤ 40
theorem zDJ_day {f : Nat → Int32} (h : pBk a) (hJ : zDJ a f) : zDJ (pDay k a f).1 (pDay k a f).2 := by
  intro q
  have b1 := pBk_word (k := k) (lo := 5) (hi := 10) h
  have b2 := pBk_db (m := 40) (w := nI (pWh k a.1)) (f := f) b1
  have b3 := pBk_num (k := k) (lo := 0) (hi := 6) b2
  have q1 : (pDY k (pWord k 5 10 a).1 (pNum k 0 6 (pDB 40 (nI (pWh k a.1)) f (pWord k 5 10 a).2)).2).2.2.2.1.toInt = 0 := pEndL_z (pBk_dy b3) q
  have q2 : (pNum k 0 6 (pDB 40 (nI (pWh k a.1)) f (pWord k 5 10 a).2)).2.2.2.1.toInt = 0 ∧ (8 < (pWord k 5 10 a).1 → 0 ≤ (pDY k (pWord k 5 10 a).1 (pNum k 0 6 (pDB 40 (nI (pWh k a.1)) f (pWord k 5 10 a).2)).2).1.toInt ∧ (pDY k (pWord k 5 10 a).1 (pNum k 0 6 (pDB 40 (nI (pWh k a.1)) f (pWord k 5 10 a).2)).2).1.toInt ≤ 3) := by
    unfold pDY at q1 ⊢
    by_cases c : 8 < (pWord k 5 10 a).1
    · rw [if_pos c] at q1 ⊢
      have t := pNum_z b3 q1
      exact ⟨t.1, fun _ => ⟨t.2.1, t.2.2⟩⟩
    · rw [if_neg c] at q1
      exact ⟨q1, fun z => absurd z c⟩
  have q3 := pNum_z b2 q2.1
  have q4 := pDB_z b1 q3.1
  have q5 := pWord_z h q4.1
  have hf := hJ q5.1
  have e : (pDay k a f).2 = if (f 0).toInt < 40 then upd (upd (upd (upd f (1 + 3 * (f 0).toInt.toNat) (nI (pWord k 5 10 a).1 - 5)) (2 + 3 * (f 0).toInt.toNat) (pNum k 0 6 (pDB 40 (nI (pWh k a.1)) f (pWord k 5 10 a).2)).1) (3 + 3 * (f 0).toInt.toNat) (pDY k (pWord k 5 10 a).1 (pNum k 0 6 (pDB 40 (nI (pWh k a.1)) f (pWord k 5 10 a).2)).2).1) 0 (f 0 + 1) else f := rfl
  rw [e, if_pos q4.2]
  have e1 : (f 0 + 1).toInt = (f 0).toInt + 1 := (z_iaddI (x := f 0) (y := 1) (by show -2147483648 ≤ (f 0).toInt + 1; omega) (by show (f 0).toInt + 1 < 2147483648; omega))
  have e2 := nI_toInt (n := (pWord k 5 10 a).1) (by omega)
  have e5 : (5 : Int32).toInt = 5 := rfl
  have e3 : (nI (pWord k 5 10 a).1 - 5).toInt = ((pWord k 5 10 a).1 : Int) - 5 := (z_isubI (x := nI (pWord k 5 10 a).1) (y := 5) (by rw [e5, e2]; omega) (by rw [e5, e2]; omega)).trans (by rw [e5, e2])
  refine ⟨fun j hj => ?_, by rw [z_eq rfl, e1]; omega⟩
  rw [z_eq rfl, e1] at hj
  rw [z_ne (show ¬ 1 + 3 * j = 0 by omega), z_ne (show ¬ 1 + 3 * j = 3 + 3 * (f 0).toInt.toNat by omega), z_ne (show ¬ 1 + 3 * j = 2 + 3 * (f 0).toInt.toNat by omega), z_ne (show ¬ 3 + 3 * j = 0 by omega)]
  by_cases t : j = (f 0).toInt.toNat
  · rw [z_eq (show 1 + 3 * j = 1 + 3 * (f 0).toInt.toNat by omega), z_eq (show 3 + 3 * j = 3 + 3 * (f 0).toInt.toNat by omega), e3]
    exact ⟨⟨by omega, by omega⟩, fun z => q2.2 (by omega)⟩
  · rw [z_ne (show ¬ 1 + 3 * j = 1 + 3 * (f 0).toInt.toNat by omega), z_ne (show ¬ 3 + 3 * j = 3 + 3 * (f 0).toInt.toNat by omega), z_ne (show ¬ 3 + 3 * j = 2 + 3 * (f 0).toInt.toNat by omega), z_ne (show ¬ 3 + 3 * j = 1 + 3 * (f 0).toInt.toNat by omega)]
    exact hf.1 j (by omega)
theorem zDJ_lines : ∀ (i : Nat) (a : pS) (f : Nat → Int32), pBk a → zDJ a f → zDJ (pLines k 1 i a f).1 (pLines k 1 i a f).2
  | 0, a, f, _, h => h
  | i + 1, a, f, hb, h => by
    unfold pLines
    split
    · have e : pLine k 1 a f = pDay k a f := by
        unfold pLine
        rw [if_neg (by decide), if_pos rfl]
      refine zDJ_lines i _ _ ?_ ?_
      · rw [e]; exact pBk_day hb
      · rw [e]; exact zDJ_day hb h
    · exact h
end PZ
theorem pRead_D {k : pT} {n : Nat} (h : (pRead k n 1).1.2.2.1.toInt = 0) : zDR (pRead k n 1).2 ∧ (((pRead k n 1).2 0).toInt ≤ 40) := by
  have hJ : zDJ (pLines k 1 601 (0, 0, 0, -1, -1) (fun _ => 0)).1 (pLines k 1 601 (0, 0, 0, -1, -1) (fun _ => 0)).2 := zDJ_lines 601 _ _ (fun q => absurd rfl q) (fun _ => ⟨fun j hj => absurd hj (by show ¬ (j : Int) < (0 : Int32).toInt; have : (0 : Int32).toInt = 0 := rfl; omega), by decide⟩)
  have e4 : ∀ (a : pS) (f : Nat → Int32), pF4 n 1 a f = a := fun a f => by
    unfold pF4
    rw [if_neg (fun z => absurd z.1 (by decide))]
  have e5 : ∀ (a : pS) (f : Nat → Int32), pF5 n 1 a f = a := fun a f => by
    unfold pF5
    rw [if_neg (fun z => absurd z.1 (by decide))]
  have h : (pF5 n 1 (pF4 n 1 (pLines k 1 601 (0, 0, 0, -1, -1) (fun _ => 0)).1 (pLines k 1 601 (0, 0, 0, -1, -1) (fun _ => 0)).2) (pLines k 1 601 (0, 0, 0, -1, -1) (fun _ => 0)).2).2.2.1.toInt = 0 := h
  rw [e4, e5] at h
  exact ⟨(hJ h).1, (hJ h).2.2⟩
/-- so of each day that is kept -/
def zVD (f : Nat → Int32) : Prop := ∀ i k, i < 4 → k < 2 → zDR (fun j => f (988 * i + (712 + 121 * k + j))) ∧ (f (988 * i + (712 + 121 * k))).toInt ≤ 40
theorem zVD_c {f g : Nat → Int32} {a b : Nat} (e : ∀ j, j < 121 → g (b + j) = f (a + j)) (h : zDR (fun j => f (a + j)) ∧ (f a).toInt ≤ 40) : zDR (fun j => g (b + j)) ∧ (g b).toInt ≤ 40 := by
  have e0 := e 0 (by decide)
  refine ⟨zDR_cg (R := fun j => f (a + j)) e h.2 h.1, ?_⟩
  have e0 : g b = f a := e0
  rw [e0]
  exact h.2
theorem zVD_low {f g : Nat → Int32} (hV : zVD f) (e : ∀ j, 610 ≤ j → g j = f j) : zVD g := fun i q hi hq => by
  have h := hV i q hi hq
  have a : ∀ (G : Nat → Int32), (zDR (fun j => G (988 * i + (712 + 121 * q + j))) ∧ (G (988 * i + (712 + 121 * q))).toInt ≤ 40) = (zDR (fun j => G (988 * i + (712 + 121 * q) + j)) ∧ (G (988 * i + (712 + 121 * q))).toInt ≤ 40) := fun G => by
    rw [show (fun j => G (988 * i + (712 + 121 * q + j))) = (fun j => G (988 * i + (712 + 121 * q) + j)) from funext fun j => congrArg G (by omega)]
  rw [a] at h ⊢
  exact zVD_c (fun j _ => e _ (by omega)) h
theorem zVD_a {f : Nat → Int32} (b q : Nat) : (zDR (fun j => f (b + (712 + 121 * q + j))) ∧ (f (b + (712 + 121 * q))).toInt ≤ 40) = (zDR (fun j => f (b + (712 + 121 * q) + j)) ∧ (f (b + (712 + 121 * q))).toInt ≤ 40) := by
  rw [show (fun j => f (b + (712 + 121 * q + j))) = (fun j => f (b + (712 + 121 * q) + j)) from funext fun j => congrArg f (by omega)]
theorem zVD_to {f g : Nat → Int32} {a b q : Nat} (e : ∀ j, j < 121 → g (b + (712 + 121 * q) + j) = f (a + (712 + 121 * q) + j)) (h : zDR (fun j => f (a + (712 + 121 * q + j))) ∧ (f (a + (712 + 121 * q))).toInt ≤ 40) : zDR (fun j => g (b + (712 + 121 * q + j))) ∧ (g (b + (712 + 121 * q))).toInt ≤ 40 := by
  rw [zVD_a] at h ⊢
  exact zVD_c e h
theorem pNr_lt {s : Nat} {at_ : Int32} {f : Nat → Int32} (h : pOkAt s at_ f) (h2 : (f s).toInt ≤ 2) : (pNr s at_ f).toInt.toNat < 2 := by
  unfold pOkAt at h
  unfold pNr
  by_cases q : at_.toInt = -1
  · rw [if_pos q] at h ⊢
    omega
  · rw [if_neg q] at h ⊢
    omega
theorem zVD_text {k : pT} {n s : Nat} {at_ r : Int32} {f g : Nat → Int32} (hV : zVD f) (hs : s < 3) (h2 : ∀ q, q < 3 → (f q).toInt ≤ 2) (F2 : zText (pRead k n s) s at_ f g r) (T2 : ∀ j, 988 ≤ j → g j = f j) : zVD g := by
  have ho : ∀ (a b : Int32) (j : Nat), 7 ≤ j → pHd f a b j = f j := fun a b j hj => by
    unfold pHd
    rw [z_ne (by omega), z_ne (by omega), z_ne (by omega)]
  rcases F2 with ⟨-, -, z⟩ | ⟨-, -, -, z⟩ | ⟨w, y, -, z⟩
  · refine zVD_low hV (fun j hj => ?_)
    by_cases q : j < 988
    · rw [z j q, ho _ _ _ (by omega)]
    · exact T2 j (by omega)
  · refine zVD_low hV (fun j hj => ?_)
    by_cases q : j < 988
    · rw [z j q, ho _ _ _ (by omega)]
    · exact T2 j (by omega)
  · have hc2 : ∀ (G : Nat → Int32) (j : Nat), 7 ≤ j → pCnt s at_ G j = G j := fun G j hj => by
      unfold pCnt
      split
      · exact z_ne (by omega)
      · rfl
    intro i q hi hq
    by_cases e : i = 0
    · by_cases hs0 : s = 1 ∧ (pNr 1 at_ f).toInt.toNat = q
      · obtain ⟨hs0, hn⟩ := hs0
        subst hs0
        have t := pRead_D y
        have hg : ∀ j, j < 121 → g (988 * i + (712 + 121 * q) + j) = (pRead k n 1).2 j := fun j hj => by
          rw [z _ (by omega), hn]
          unfold pPut
          have hp : pBase 1 q = 712 + 121 * q := rfl
          have hz : pSize 1 = 121 := rfl
          rw [hp, hz, if_pos (by omega)]
          exact congrArg _ (by omega)
        rw [zVD_a]
        refine ⟨zDR_cg hg t.2 t.1, ?_⟩
        have h0 : g (988 * i + (712 + 121 * q)) = (pRead k n 1).2 0 := hg 0 (by decide)
        rw [h0]
        exact t.2
      · refine zVD_to (fun j hj => ?_) (hV i q hi hq)
        rw [z _ (by omega)]
        have hx : ¬ (pBase s (pNr s at_ f).toInt.toNat ≤ 988 * i + (712 + 121 * q) + j ∧ 988 * i + (712 + 121 * q) + j < pBase s (pNr s at_ f).toInt.toNat + pSize s) := by
          rcases (show s = 0 ∨ s = 1 ∨ s = 2 by omega) with t | t | t
          · subst t
            have hp : pBase 0 (pNr 0 at_ f).toInt.toNat = 610 + 51 * (pNr 0 at_ f).toInt.toNat := rfl
            have hz : pSize 0 = 51 := rfl
            have hb := pNr_lt w (h2 0 (by decide))
            rw [hp, hz]
            omega
          · subst t
            have hp : pBase 1 (pNr 1 at_ f).toInt.toNat = 712 + 121 * (pNr 1 at_ f).toInt.toNat := rfl
            have hz : pSize 1 = 121 := rfl
            rw [hp, hz]
            have hn : ¬ (pNr 1 at_ f).toInt.toNat = q := fun w => hs0 ⟨rfl, w⟩
            omega
          · subst t
            have hp : pBase 2 (pNr 2 at_ f).toInt.toNat = 954 + 17 * (pNr 2 at_ f).toInt.toNat := rfl
            rw [hp]
            omega
        unfold pPut
        rw [if_neg hx, hc2 _ _ (by omega), ho _ _ _ (by omega)]
    · exact zVD_to (fun j _ => T2 _ (by omega)) (hV i q hi hq)
theorem zVD_feed {p : Nat} {a b c d e r : Int32} {f g : Nat → Int32} (hV : zVD f) (hp6 : p ≤ 600) (F2 : 580 < p ∧ r = -1 ∧ g = f ∨ p ≤ 580 ∧ r = nI (p + 20) ∧ zFeedR p a b c d e f g) : zVD g := by
  rcases F2 with ⟨-, -, y⟩ | ⟨hp5, -, y⟩
  · rw [y]; exact hV
  · obtain ⟨-, -, z3⟩ := y
    exact zVD_low hV (fun j hj => z3 j (by omega) (by omega))
theorem zVD_end {n r : Int32} {f g : Nat → Int32} (hV : zVD f) (F2 : (n.toInt < 0 ∨ (f 4).toInt < n.toInt) ∧ r.toInt = -1 ∧ g = f ∨ (0 ≤ n.toInt ∧ n.toInt ≤ (f 4).toInt) ∧ g = upd f 4 n ∧ r = n) : zVD g := by
  rcases F2 with ⟨-, -, y⟩ | ⟨-, y, -⟩
  · rw [y]; exact hV
  · rw [y]; exact zVD_low hV (fun j hj => z_ne (by omega))
theorem zVD_hd {f g : Nat → Int32} (hV : zVD f) (hg : g = upd (upd (upd f 4 0) 5 0) 6 (-1)) : zVD g := by
  rw [hg]
  exact zVD_low hV (fun j hj => by rw [z_ne (by omega), z_ne (by omega), z_ne (by omega)])
theorem zVD_img {f g : Nat → Int32} {k : Nat} (hk : k < 3) (hV : zVD f) (c1 : ∀ j, j < 988 → g (988 * (k + 1) + j) = f j) (c2 : ∀ j, (j < 988 * (k + 1) ∨ 988 * (k + 1) + 988 ≤ j) → g j = f j) : zVD g := by
  intro i q hi hq
  by_cases e : i = k + 1
  · subst e
    refine zVD_to (a := 988 * 0) (fun j hj => ?_) (hV 0 q (by decide) hq)
    rw [show 988 * (k + 1) + (712 + 121 * q) + j = 988 * (k + 1) + (712 + 121 * q + j) by omega, c1 _ (by omega)]
    exact congrArg f (by omega)
  · have : i < k + 1 ∨ k + 1 < i := by omega
    exact zVD_to (fun j _ => c2 _ (by omega)) (hV i q hi hq)
theorem zVD_ag {K : Nat} {x r' : Int32} {fh f g : Nat → Int32} (hV : zVD f) (hx : x.toInt = (K : Int)) (hK : K < 3) (F2 : r' = 0 ∧ (x.toInt < 0 ∨ 3 ≤ x.toInt ∨ fh x.toNatClampNeg = 0) ∧ g = f ∨ r' = 1 ∧ (0 ≤ x.toInt ∧ x.toInt < 3) ∧ ¬ fh x.toNatClampNeg = 0 ∧ (∀ j, j < 988 → g j = f (988 * (x.toNatClampNeg + 1) + j)) ∧ ∀ j, 988 ≤ j → g j = f j) : zVD g := by
  have e : x.toNatClampNeg = K := by have := z_clI (x := x) (by omega); omega
  rw [e] at F2
  rcases F2 with ⟨-, -, z⟩ | ⟨-, -, -, z, z2⟩
  · rw [z]; exact hV
  · intro i q hi hq
    by_cases e : i = 0
    · refine zVD_to (a := 988 * (K + 1)) (fun j hj => ?_) (hV (K + 1) q (by omega) hq)
      rw [z _ (by omega)]
      exact congrArg f (by omega)
    · exact zVD_to (fun j _ => z2 _ (by omega)) (hV i q hi hq)
theorem zVD_st : zVD (upd (fun _ => 0) 6 (-1)) := fun i q _ _ => by
  have o : ∀ j, ¬ j = 6 → upd (fun _ => (0 : Int32)) 6 (-1) j = 0 := fun j h => if_neg h
  have z0 : (0 : Int32).toInt = 0 := rfl
  refine ⟨fun j hj => ?_, by rw [o _ (by omega), z0]; decide⟩
  have hj : (j : Int) < (upd (fun _ => (0 : Int32)) 6 (-1) (988 * i + (712 + 121 * q + 0))).toInt := hj
  rw [o _ (by omega), z0] at hj
  omega
theorem zWo_i {f : Nat → Int32} {z n c : Int32} (h : zBit n c = 1) (h0 : 0 ≤ c.toInt) (h6 : c.toInt ≤ 6) : zWo f z n c.toInt.toNat = 0 := by
  have e : c = nI c.toInt.toNat := z_nI (by omega) (by omega)
  exact if_pos (by rw [← e]; exact h)
theorem zWo_o {f : Nat → Int32} {z n c : Int32} (h : ¬ zBit n c = 1) (h0 : 0 ≤ c.toInt) (h6 : c.toInt ≤ 6) : zWo f z n c.toInt.toNat = zRd f z c := by
  have e : c = nI c.toInt.toNat := z_nI (by omega) (by omega)
  exact if_neg (by rw [← e]; exact h)
set_option maxHeartbeats 4000000 in
set_option maxRecDepth 100000 in
/-- c_fm_roads5 -/
theorem c_fm_roads5 (l : Launch) (T : zTy) (mo : Nat) (m_all : Nat) (m_has : Nat) (i_size : Int32) (i_next : Int32) (i_where : Int32) (i_token : Int32) (i_number : Int32) (i_word : Int32) (i_wrong : Int32) (i_farCrossing : Int32) (m_read : Nat) (i_z0 : Int32) (i_crossings : Int32) (i_inns : Int32) (m_posts : Nat) (m_shut : Nat) (m_here : Nat) (i_steps : Int32) (i_done : Int32) (i_at : Int32) (i_gone : Int32) (m_was : Nat) (m_came : Nat) (m_seenAt : Nat) (m_rowWorth : Nat) (m_farBy : Nat) (m_used : Nat) (i_everywhere : Int32) (i_again0 : Int32) (i_d0 : Int32) (i_never : Int32) (i_firstCame : Int32) (i_longRun : Int32) (i_moved : Int32) (i_crowd : Int32) (i_l0 : Int32) (i_fitMany : Int32) (i_fitLeast : Int32) (i_fitMost : Int32) (m_fitPost : Nat) (m_fitEnd : Nat) (m_keptPosts : Nat) (i_x0 : Int32) (f_all : Nat → Int32) (c_ : Int32) (hL : zML f_all i_z0 i_crossings) (hc0 : 0 ≤ c_.toInt) (hc6 : c_.toInt ≤ 6) : zMi l T yX12_roads5 cX12_roads5 2 (some .int) 2 0 0 [.ref mo, .int c_] [[zO11 mo m_all m_has i_size i_next i_where i_token i_number i_word i_wrong i_farCrossing m_read i_z0 i_crossings i_inns m_posts m_shut m_here i_steps i_done i_at i_gone m_was m_came m_seenAt m_rowWorth m_farBy m_used i_everywhere i_again0 i_d0 i_never i_firstCame i_longRun i_moved i_crowd i_l0 i_fitMany i_fitLeast i_fitMost m_fitPost m_fitEnd m_keptPosts i_x0], [zAr T 0 m_all 3952 f_all]] (fun (r : Int32) bs => bs = [[zO11 mo m_all m_has i_size i_next i_where i_token i_number i_word i_wrong i_farCrossing m_read i_z0 i_crossings i_inns m_posts m_shut m_here i_steps i_done i_at i_gone m_was m_came m_seenAt m_rowWorth m_farBy m_used i_everywhere i_again0 i_d0 i_never i_firstCame i_longRun i_moved i_crowd i_l0 i_fitMany i_fitLeast i_fitMost m_fitPost m_fitEnd m_keptPosts i_x0], [zAr T 0 m_all 3952 f_all]] ∧ 0 ≤ r.toInt ∧ r.toInt ≤ 4 ∧ r = zWo f_all i_z0 i_inns c_.toInt.toNat) := by
  refine zMi_of (own := RX12) (by decide) rfl (Nat.le_of_ble_eq_true rfl) ?_
  intro p e s m args below meth c A ls C hr hlocks hnm hAe G hl
  refine zHide (fun Qz_ hQz_ => ?_)
  have hx := C.1
  have hb := C.2.1
  have hl : lv_has ls 2 [(0, .ref mo), (1, .int c_)] := hl
  refine lv_aload_n hx hb dX12_roads5_0 rfl (lv_at hl 0 rfl) ?_
  refine lv_iload_n hx hb dX12_roads5_1 rfl (lv_at hl 1 rfl) ?_
  refine z_Vi (bc := [[zO11 mo m_all m_has i_size i_next i_where i_token i_number i_word i_wrong i_farCrossing m_read i_z0 i_crossings i_inns m_posts m_shut m_here i_steps i_done i_at i_gone m_was m_came m_seenAt m_rowWorth m_farBy m_used i_everywhere i_again0 i_d0 i_never i_firstCame i_longRun i_moved i_crowd i_l0 i_fitMany i_fitLeast i_fitMost m_fitPost m_fitEnd m_keptPosts i_x0]]) (br := [[zAr T 0 m_all 3952 f_all]]) (As := [.int c_]) (rest := []) C G (c_m_isInn l T mo m_all m_has i_size i_next i_where i_token i_number i_word i_wrong i_farCrossing m_read i_z0 i_crossings i_inns m_posts m_shut m_here i_steps i_done i_at i_gone m_was m_came m_seenAt m_rowWorth m_farBy m_used i_everywhere i_again0 i_d0 i_never i_firstCame i_longRun i_moved i_crowd i_l0 i_fitMany i_fitLeast i_fitMost m_fitPost m_fitEnd m_keptPosts i_x0 c_) (kV_RX12_178 C.2.2.2.2 (Nat.le_of_ble_eq_true rfl) (Nat.le_of_ble_eq_true rfl)) [0] [0] rfl rfl (ci := 11) (qc := (RX12, TX12, 43)) rfl rfl (List.mem_flatten.mpr ⟨_, List.mem_of_getElem? (i := 0) rfl, List.mem_cons_self⟩) rfl rfl hl.1 dX12_roads5_2 (Nat.le_of_ble_eq_true rfl) (Nat.le_of_ble_eq_true rfl) (fun r_2 b1 H locs hw G => ?_)
  refine zAn2 hw ?_
  intro hbs9 hc_1
  clear hw
  subst hbs9
  have G : zS T A s.heap s [[zAr T 0 m_all 3952 f_all], [zO11 mo m_all m_has i_size i_next i_where i_token i_number i_word i_wrong i_farCrossing m_read i_z0 i_crossings i_inns m_posts m_shut m_here i_steps i_done i_at i_gone m_was m_came m_seenAt m_rowWorth m_farBy m_used i_everywhere i_again0 i_d0 i_never i_firstCame i_longRun i_moved i_crowd i_l0 i_fitMany i_fitLeast i_fitMost m_fitPost m_fitEnd m_keptPosts i_x0]] _ _ := G
  rcases hc_1 with ⟨rfl, h_3⟩ | ⟨rfl, h_4⟩
  · have h_3 : zInn i_inns c_ := h_3
    refine lv_if_eq (tgt := 12) hx hb dX12_roads5_5 (by decide) (fun q => absurd q (by decide)) (fun _ => ?_)
    refine lv_iconst (v := 0) hx hb dX12_roads5_8 (by decide) ?_
    refine lv_goto (tgt := 17) hx hb dX12_roads5_9 (by decide) ?_
    have G := G.sub (bs' := [[zO11 mo m_all m_has i_size i_next i_where i_token i_number i_word i_wrong i_farCrossing m_read i_z0 i_crossings i_inns m_posts m_shut m_here i_steps i_done i_at i_gone m_was m_came m_seenAt m_rowWorth m_farBy m_used i_everywhere i_again0 i_d0 i_never i_firstCame i_longRun i_moved i_crowd i_l0 i_fitMany i_fitLeast i_fitMost m_fitPost m_fitEnd m_keptPosts i_x0], [zAr T 0 m_all 3952 f_all]]) [1, 0] rfl
    exact z_back hQz_ (z_iret C hr hlocks G (Nat.le_of_ble_eq_true rfl) (Nat.le_of_ble_eq_true rfl) dX12_roads5_17 ⟨rfl, (by decide), (by decide), (zWo_i (by first | with_reducible assumption | assumption) (by omega) (by omega)).symm⟩)
  · have h_4 : ¬ zInn i_inns c_ := h_4
    refine lv_if_eq (tgt := 12) hx hb dX12_roads5_5 (by decide) (fun _ => ?_) (fun q => absurd (by decide) q)
    refine lv_aload_n hx hb dX12_roads5_12 rfl (lv_at hl 0 rfl) ?_
    refine lv_iload_n hx hb dX12_roads5_13 rfl (lv_at hl 1 rfl) ?_
    refine z_Vi (bc := [[zO11 mo m_all m_has i_size i_next i_where i_token i_number i_word i_wrong i_farCrossing m_read i_z0 i_crossings i_inns m_posts m_shut m_here i_steps i_done i_at i_gone m_was m_came m_seenAt m_rowWorth m_farBy m_used i_everywhere i_again0 i_d0 i_never i_firstCame i_longRun i_moved i_crowd i_l0 i_fitMany i_fitLeast i_fitMost m_fitPost m_fitEnd m_keptPosts i_x0], [zAr T 0 m_all 3952 f_all]]) (br := []) (As := [.int c_]) (rest := []) C G (c_m_roadsOf l T mo m_all m_has i_size i_next i_where i_token i_number i_word i_wrong i_farCrossing m_read i_z0 i_crossings i_inns m_posts m_shut m_here i_steps i_done i_at i_gone m_was m_came m_seenAt m_rowWorth m_farBy m_used i_everywhere i_again0 i_d0 i_never i_firstCame i_longRun i_moved i_crowd i_l0 i_fitMany i_fitLeast i_fitMost m_fitPost m_fitEnd m_keptPosts i_x0 f_all c_ (by first | with_reducible assumption | with_reducible rfl | omega | assumption | rfl) (by first | with_reducible assumption | with_reducible rfl | omega | assumption | rfl) (by first | with_reducible assumption | with_reducible rfl | omega | assumption | rfl)) (kV_RX12_181 C.2.2.2.2 (Nat.le_of_ble_eq_true rfl) (Nat.le_of_ble_eq_true rfl)) [1, 0] [0, 0] rfl rfl (ci := 11) (qc := (RX12, TX12, 43)) rfl rfl (List.mem_flatten.mpr ⟨_, List.mem_of_getElem? (i := 0) rfl, List.mem_cons_self⟩) rfl rfl hl.1 dX12_roads5_14 (Nat.le_of_ble_eq_true rfl) (Nat.le_of_ble_eq_true rfl) (fun r_8 b1 H locs hw G => ?_)
    refine zAn4 hw ?_
    intro hbs9 h_5 h_6 h_7
    clear hw
    subst hbs9
    have G : zS T A s.heap s [[zO11 mo m_all m_has i_size i_next i_where i_token i_number i_word i_wrong i_farCrossing m_read i_z0 i_crossings i_inns m_posts m_shut m_here i_steps i_done i_at i_gone m_was m_came m_seenAt m_rowWorth m_farBy m_used i_everywhere i_again0 i_d0 i_never i_firstCame i_longRun i_moved i_crowd i_l0 i_fitMany i_fitLeast i_fitMost m_fitPost m_fitEnd m_keptPosts i_x0], [zAr T 0 m_all 3952 f_all]] _ _ := G
    subst h_5
    exact z_back hQz_ (z_iret C hr hlocks G (Nat.le_of_ble_eq_true rfl) (Nat.le_of_ble_eq_true rfl) dX12_roads5_17 ⟨rfl, (by first | with_reducible assumption | omega | trivial | assumption), (by first | with_reducible assumption | omega | trivial | assumption), (zWo_o (by first | with_reducible assumption | assumption) (by omega) (by omega)).symm⟩)
section ZL2
variable {p : Program} {l : Launch} {e : Env} {R : Room} {s : State} {m : MethodId} {args : Array Value} {below : List Frame} {meth : Method} {c : Code} {Q : State → Prop}
variable {nL : Nat} {T : zTy} {A : Nat → Prop} {H0 : Heap}
theorem z_loopR {α : Type} (pc : Nat) (Wd : α → List va_W) (Lv : α → List (Nat × Value)) (Cl Sl : α → Nat) (Inv : α → Prop) (mu : α → Nat)
    (step : ∀ a : α, Inv a → (∀ b : α, Inv b → mu b < mu a → ∀ (H : Heap) (locs : List Loc) (ls : Array Slot), zS T A H0 s (Wd b) H locs → lv_has ls nL (Lv b) → W p l e R s m args below meth c H locs (Cl b) (Sl b) Q (F0 m pc ls [])) → ∀ (H : Heap) (locs : List Loc) (ls : Array Slot), zS T A H0 s (Wd a) H locs → lv_has ls nL (Lv a) → W p l e R s m args below meth c H locs (Cl a) (Sl a) Q (F0 m pc ls []))
    (a : α) (ha : Inv a) {H : Heap} {locs : List Loc} {ls : Array Slot} (G : zS T A H0 s (Wd a) H locs) (hl : lv_has ls nL (Lv a)) : W p l e R s m args below meth c H locs (Cl a) (Sl a) Q (F0 m pc ls []) := by
  have key : ∀ (n : Nat) (a : α), mu a < n → Inv a → ∀ (H : Heap) (locs : List Loc) (ls : Array Slot), zS T A H0 s (Wd a) H locs → lv_has ls nL (Lv a) → W p l e R s m args below meth c H locs (Cl a) (Sl a) Q (F0 m pc ls []) := by
    intro n
    induction n with
    | zero => intro a h; exact absurd h (Nat.not_lt_zero _)
    | succ n ih => intro a h ha; exact step a ha (fun b hb hlt => ih b (by omega) hb)
  exact key (mu a + 1) a (Nat.lt_succ_self _) ha H locs ls G hl
end ZL2
def zAI (f : Nat → Int32) : Prop := ∀ i, i < 4 → zBI (fun j => f (988 * i + j))
abbrev zHs (fm fh : Nat → Int32) : Prop := ∀ k, k < 3 → (fm k = 0 ↔ fh k = 0)
abbrev zIn6 (x : Int32) : Prop := 0 ≤ x.toInt ∧ x.toInt ≤ 600
theorem zBI_cg {f g : Nat → Int32} (e : ∀ j, j < 988 → g j = f j) (h : zBI f) : zBI g :=
  ⟨by rw [e 4 (by decide)]; exact h.1, fun q hq => by rw [e q (by omega)]; exact h.2.1 q hq, fun k hk => zLF_cg (fun j hj => e _ (by omega)) (h.2.2.1 k hk), fun k hk => zCF_cg (e _ (by omega)) (h.2.2.2.1 k hk), fun k hk => zCF_cg (e _ (by omega)) (h.2.2.2.2 k hk)⟩
theorem zAI_0 {f : Nat → Int32} (h : zAI f) : zBI f := zBI_cg (fun j _ => (congrArg f (by omega)).symm) (h 0 (by decide))
theorem zAI_low {f g : Nat → Int32} (h : zAI f) (h0 : zBI g) (ho : ∀ j, 988 ≤ j → g j = f j) : zAI g := by
  intro i hi
  by_cases e : i = 0
  · subst e
    exact zBI_cg (fun j _ => congrArg g (by omega)) h0
  · exact zBI_cg (fun j _ => ho _ (by omega)) (h i hi)
theorem zBI_fd {f g : Nat → Int32} (h : zBI f) (h4 : zIn6 (g 4)) (ho : ∀ j, (j < 10 ∨ 610 ≤ j) → j ≠ 4 → g j = f j) : zBI g :=
  ⟨h4, fun q hq => by rw [ho q (by omega) (by omega)]; exact h.2.1 q hq, fun k hk => zLF_cg (fun j hj => ho _ (by omega) (by omega)) (h.2.2.1 k hk), fun k hk => zCF_cg (ho _ (by omega) (by omega)) (h.2.2.2.1 k hk), fun k hk => zCF_cg (ho _ (by omega) (by omega)) (h.2.2.2.2 k hk)⟩
theorem zHs_upd {fm fh : Nat → Int32} (h : zHs fm fh) (k : Nat) : zHs (upd fm k 1) (upd fh k 1) := by
  intro j hj
  unfold upd
  split
  · exact Iff.rfl
  · exact h j hj
theorem zNA_mono {c : Prop} [Decidable c] {md : Int32} {n : Nat} {cr inn : Int32} {k1 : Nat → Int32} (h : zPw n) : n ≤ zNA c md n (zPl cr inn k1) := by
  unfold zNA zMk zNl
  split
  · split
    · split
      · exact Nat.le_refl _
      · have := zNl_room (pl := zPl cr inn k1) h (zPl_le cr inn k1) (by first | with_reducible assumption | assumption)
        omega
    · exact Nat.le_refl _
  · exact Nat.le_refl _
theorem zFnN_up {wy : Int32} {n : Nat} (hn : n ≤ 16384) (hw : (n : Int) < wy.toInt) : ∀ (f k : Nat), k ≤ 10 → 11 ≤ f + k → n ≤ zFnN wy f (16 * 2 ^ k)
  | 0, k, h, h2 => by omega
  | f + 1, k, h, h2 => by
    rw [zFnN]
    split
    · rename_i q
      have hk : k < 10 := by
        rcases Nat.lt_or_ge k 10 with z | z
        · exact z
        · have e : k = 10 := by omega
          subst e
          exact absurd q.2 (by decide)
      rw [show 2 * (16 * 2 ^ k) = 16 * 2 ^ (k + 1) by rw [Nat.pow_succ]; omega]
      exact zFnN_up hn hw f (k + 1) (by omega) (by omega)
    · rename_i q
      rcases Nat.lt_or_ge 16383 (16 * 2 ^ k) with z | z
      · omega
      · have : ¬ ((16 * 2 ^ k : Nat) : Int) < wy.toInt := fun y => q ⟨y, z⟩
        omega
theorem zNF_mono {c : Prop} [Decidable c] {n : Nat} {wy : Int32} (h : zFw n) : n ≤ zNF c n wy := by
  unfold zNF zFl
  split
  · split
    · exact Nat.le_refl _
    · have e : (16 * 2 ^ 0 : Nat) = 16 := by decide
      have := zFnN_up (wy := wy) (zFw_le h) (by omega) 11 0 (by decide) (by decide)
      rw [e] at this
      exact this
  · exact Nat.le_refl _
theorem zNF_fw {c : Prop} [Decidable c] {n : Nat} {wy : Int32} (h : zFw n) : zFw (zNF c n wy) := by
  unfold zNF
  split
  · exact zFl_pw h
  · exact h
/-! THE LAW'S STEPS, with all that is told kept equal -/
theorem zTR_by {ln : Int32} {fl : Int32} {pl : Int32} {ft : Nat → Int32} {fk : Nat → Int32} {cr_L0 : Int32} {inn_L0 : Int32} {k1_L0 : Nat → Int32} {k2_L0 : Nat → Int32} {k3_L0 : Nat → Int32} {k4_L0 : Nat → Int32} {cr_L1 : Int32} {inn_L1 : Int32} {k1_L1 : Nat → Int32} {k2_L1 : Nat → Int32} {k3_L1 : Nat → Int32} {k4_L1 : Nat → Int32} {dd_D0 : Int32} {p1_D0 : Nat → Int32} {p2_D0 : Nat → Int32} {p3_D0 : Nat → Int32} {dd_D1 : Int32} {p1_D1 : Nat → Int32} {p2_D1 : Nat → Int32} {p3_D1 : Nat → Int32} {gg_G0 : Int32} {q1_G0 : Nat → Int32} {q2_G0 : Nat → Int32} {gg_G1 : Int32} {q1_G1 : Nat → Int32} {q2_G1 : Nat → Int32} {G : Nat → Int32} (h : zTR ln fl pl ft fk cr_L0 inn_L0 k1_L0 k2_L0 k3_L0 k4_L0 cr_L1 inn_L1 k1_L1 k2_L1 k3_L1 k4_L1 dd_D0 p1_D0 p2_D0 p3_D0 dd_D1 p1_D1 p2_D1 p3_D1 gg_G0 q1_G0 q2_G0 gg_G1 q1_G1 q2_G1 G) : ∀ j, j < 600 → 0 ≤ (G (10 + j)).toInt := by
  intro j hj
  rcases (h.1.2.2.2.2 j hj).1 with ⟨e, a⟩ | ⟨-, a⟩
  · rw [e]; exact a
  · omega
theorem zTR_tk {ln : Int32} {fl : Int32} {pl : Int32} {ft : Nat → Int32} {fk : Nat → Int32} {cr_L0 : Int32} {inn_L0 : Int32} {k1_L0 : Nat → Int32} {k2_L0 : Nat → Int32} {k3_L0 : Nat → Int32} {k4_L0 : Nat → Int32} {cr_L1 : Int32} {inn_L1 : Int32} {k1_L1 : Nat → Int32} {k2_L1 : Nat → Int32} {k3_L1 : Nat → Int32} {k4_L1 : Nat → Int32} {dd_D0 : Int32} {p1_D0 : Nat → Int32} {p2_D0 : Nat → Int32} {p3_D0 : Nat → Int32} {dd_D1 : Int32} {p1_D1 : Nat → Int32} {p2_D1 : Nat → Int32} {p3_D1 : Nat → Int32} {gg_G0 : Int32} {q1_G0 : Nat → Int32} {q2_G0 : Nat → Int32} {gg_G1 : Int32} {q1_G1 : Nat → Int32} {q2_G1 : Nat → Int32} {G : Nat → Int32} (h : zTR ln fl pl ft fk cr_L0 inn_L0 k1_L0 k2_L0 k3_L0 k4_L0 cr_L1 inn_L1 k1_L1 k2_L1 k3_L1 k4_L1 dd_D0 p1_D0 p2_D0 p3_D0 dd_D1 p1_D1 p2_D1 p3_D1 gg_G0 q1_G0 q2_G0 gg_G1 q1_G1 q2_G1 G) {n : Nat} (hn : n ≤ 600) : tkT ft n = tkT (fun j => G (10 + j)) n := tkT_cg (fun j hj => (h.1.2.2.2.2 j (by omega)).1)
theorem zAI_at {f : Nat → Int32} (h : zAI f) : zIn6 (f 4) := (zAI_0 h).1
theorem zM_feed {ln : Int32} {fl : Int32} {pl : Int32} {ft : Nat → Int32} {fk : Nat → Int32} {cr_L0 : Int32} {inn_L0 : Int32} {k1_L0 : Nat → Int32} {k2_L0 : Nat → Int32} {k3_L0 : Nat → Int32} {k4_L0 : Nat → Int32} {cr_L1 : Int32} {inn_L1 : Int32} {k1_L1 : Nat → Int32} {k2_L1 : Nat → Int32} {k3_L1 : Nat → Int32} {k4_L1 : Nat → Int32} {dd_D0 : Int32} {p1_D0 : Nat → Int32} {p2_D0 : Nat → Int32} {p3_D0 : Nat → Int32} {dd_D1 : Int32} {p1_D1 : Nat → Int32} {p2_D1 : Nat → Int32} {p3_D1 : Nat → Int32} {gg_G0 : Int32} {q1_G0 : Nat → Int32} {q2_G0 : Nat → Int32} {gg_G1 : Int32} {q1_G1 : Nat → Int32} {q2_G1 : Nat → Int32} {p : Nat} {a b c d e u r r' : Int32} {g g' f : Nat → Int32} (hT : zTR ln fl pl ft fk cr_L0 inn_L0 k1_L0 k2_L0 k3_L0 k4_L0 cr_L1 inn_L1 k1_L1 k2_L1 k3_L1 k4_L1 dd_D0 p1_D0 p2_D0 p3_D0 dd_D1 p1_D1 p2_D1 p3_D1 gg_G0 q1_G0 q2_G0 gg_G1 q1_G1 q2_G1 f) (hA : zAI f) (hp : ln = nI p) (hp6 : p ≤ 600) (F1 : 580 < p ∧ r = -1 ∧ u = nI p ∧ g' = ft ∨ p ≤ 580 ∧ r = nI (p + 20) ∧ u = nI (p + 20) ∧ g' = zFeedC p a b c d e ft) (F2 : 580 < p ∧ r' = -1 ∧ g = f ∨ p ≤ 580 ∧ r' = nI (p + 20) ∧ zFeedR p a b c d e f g) : r = r' ∧ zAI g ∧ zTR u fl pl g' fk cr_L0 inn_L0 k1_L0 k2_L0 k3_L0 k4_L0 cr_L1 inn_L1 k1_L1 k2_L1 k3_L1 k4_L1 dd_D0 p1_D0 p2_D0 p3_D0 dd_D1 p1_D1 p2_D1 p3_D1 gg_G0 q1_G0 q2_G0 gg_G1 q1_G1 q2_G1 g ∧ ∀ j, 988 ≤ j → g j = f j := by
  rcases F1 with ⟨x1, x2, x3, x4⟩ | ⟨x1, x2, x3, x4⟩ <;> rcases F2 with ⟨y1, y2, y3⟩ | ⟨y1, y2, y3⟩
  · subst x4
    subst y3
    exact ⟨x2.trans y2.symm, hA, by rw [x3, ← hp]; exact hT, fun _ _ => rfl⟩
  · omega
  · omega
  · obtain ⟨z1, z2, z3⟩ := y3
    obtain ⟨⟨a1, a2, a3, a4, a5⟩, h1, h2, h3, h4, h5, h6⟩ := hT
    have ho : ∀ j, (j < 10 ∨ 610 ≤ j) → ¬ j = 4 → g j = f j := fun j q1 q2 => z3 j (by omega) q2
    have e4 : (nI (p + 20)).toInt = ((p + 20 : Nat) : Int) := nI_toInt (by omega)
    refine ⟨x2.trans y2.symm, zAI_low hA (zBI_fd (zAI_0 hA) (by rw [z1]; exact ⟨by omega, by omega⟩) ho) (fun j hj => ho j (by omega) (by omega)), ⟨⟨x3.trans z1.symm, a2.trans (ho _ (by omega) (by omega)).symm, a3.trans (ho _ (by omega) (by omega)).symm, fun j hj => (a4 j hj).trans (ho _ (by omega) (by omega)).symm, fun j hj => ?_⟩, zLnd_cg h1 (fun j hj => ho _ (by omega) (by omega)), zLnd_cg h2 (fun j hj => ho _ (by omega) (by omega)), zDyd_cg h3 (fun j hj => ho _ (by omega) (by omega)), zDyd_cg h4 (fun j hj => ho _ (by omega) (by omega)), zLgd_cg h5 (fun j hj => ho _ (by omega) (by omega)), zLgd_cg h6 (fun j hj => ho _ (by omega) (by omega))⟩, fun j hj => ho j (by omega) (by omega)⟩
    rw [x4]
    by_cases q : p ≤ j ∧ j < p + 20
    · have e1 := zFeed_be (p := p) (i := j - p) (a := a) (b := b) (c := c) (d := d) (e := e) (f := ft) (by omega)
      have e2 := z2 (j - p) (by omega)
      rw [show p + (j - p) = j by omega] at e1 e2
      rw [e1, e2]
      exact ⟨zBe_b _, by rw [Int8.toInt8_toInt32]⟩
    · rw [zFeedC_o (by omega), z3 _ (by omega) (by omega)]
      exact a5 j hj
theorem zM_end {ln : Int32} {fl : Int32} {pl : Int32} {ft : Nat → Int32} {fk : Nat → Int32} {cr_L0 : Int32} {inn_L0 : Int32} {k1_L0 : Nat → Int32} {k2_L0 : Nat → Int32} {k3_L0 : Nat → Int32} {k4_L0 : Nat → Int32} {cr_L1 : Int32} {inn_L1 : Int32} {k1_L1 : Nat → Int32} {k2_L1 : Nat → Int32} {k3_L1 : Nat → Int32} {k4_L1 : Nat → Int32} {dd_D0 : Int32} {p1_D0 : Nat → Int32} {p2_D0 : Nat → Int32} {p3_D0 : Nat → Int32} {dd_D1 : Int32} {p1_D1 : Nat → Int32} {p2_D1 : Nat → Int32} {p3_D1 : Nat → Int32} {gg_G0 : Int32} {q1_G0 : Nat → Int32} {q2_G0 : Nat → Int32} {gg_G1 : Int32} {q1_G1 : Nat → Int32} {q2_G1 : Nat → Int32} {u n r r' : Int32} {g f : Nat → Int32} (hT : zTR ln fl pl ft fk cr_L0 inn_L0 k1_L0 k2_L0 k3_L0 k4_L0 cr_L1 inn_L1 k1_L1 k2_L1 k3_L1 k4_L1 dd_D0 p1_D0 p2_D0 p3_D0 dd_D1 p1_D1 p2_D1 p3_D1 gg_G0 q1_G0 q2_G0 gg_G1 q1_G1 q2_G1 f) (hA : zAI f) (F1 : (n.toInt < 0 ∨ ln.toInt < n.toInt) ∧ r.toInt = -1 ∧ u = ln ∨ (0 ≤ n.toInt ∧ n.toInt ≤ ln.toInt) ∧ u = n ∧ r = n) (F2 : (n.toInt < 0 ∨ (f 4).toInt < n.toInt) ∧ r'.toInt = -1 ∧ g = f ∨ (0 ≤ n.toInt ∧ n.toInt ≤ (f 4).toInt) ∧ g = upd f 4 n ∧ r' = n) : r = r' ∧ zAI g ∧ zTR u fl pl ft fk cr_L0 inn_L0 k1_L0 k2_L0 k3_L0 k4_L0 cr_L1 inn_L1 k1_L1 k2_L1 k3_L1 k4_L1 dd_D0 p1_D0 p2_D0 p3_D0 dd_D1 p1_D1 p2_D1 p3_D1 gg_G0 q1_G0 q2_G0 gg_G1 q1_G1 q2_G1 g ∧ ∀ j, 988 ≤ j → g j = f j := by
  have b := zAI_at hA
  have e4 : ln = f 4 := hT.1.1
  have e4i : ln.toInt = (f 4).toInt := by rw [e4]
  rcases F1 with ⟨x1, x2, x3⟩ | ⟨x1, x2, x3⟩ <;> rcases F2 with ⟨y1, y2, y3⟩ | ⟨y1, y2, y3⟩
  · subst y3
    exact ⟨Int32.toInt_inj.mp (by omega), hA, by rw [x3]; exact hT, fun _ _ => rfl⟩
  · omega
  · omega
  · obtain ⟨⟨a1, a2, a3, a4, a5⟩, h1, h2, h3, h4, h5, h6⟩ := hT
    have ho : ∀ j, ¬ j = 4 → g j = f j := fun j q => by rw [y2]; exact z_ne q
    have k4 : g 4 = n := by rw [y2]; exact z_eq rfl
    exact ⟨x3.trans y3.symm, zAI_low hA (zBI_fd (zAI_0 hA) (by rw [k4]; exact ⟨by omega, by omega⟩) (fun j _ q => ho j q)) (fun j hj => ho j (by omega)), ⟨⟨x2.trans k4.symm, a2.trans (ho _ (by omega)).symm, a3.trans (ho _ (by omega)).symm, fun j hj => (a4 j hj).trans (ho _ (by omega)).symm, fun j hj => by rw [ho _ (by omega)]; exact a5 j hj⟩, zLnd_cg h1 (fun j hj => ho _ (by omega)), zLnd_cg h2 (fun j hj => ho _ (by omega)), zDyd_cg h3 (fun j hj => ho _ (by omega)), zDyd_cg h4 (fun j hj => ho _ (by omega)), zLgd_cg h5 (fun j hj => ho _ (by omega)), zLgd_cg h6 (fun j hj => ho _ (by omega))⟩, fun j hj => ho j (by omega)⟩
theorem zText_u {z : pS × (Nat → Int32)} {s : Nat} {at_ r r' : Int32} {f G G' : Nat → Int32} (h : zText z s at_ f G r) (h' : zText z s at_ f G' r') : r = r' ∧ ∀ j, j < 988 → G' j = G j := by
  rcases h with ⟨a1, a2, a3⟩ | ⟨a1, a0, a2, a3⟩ | ⟨a1, a0, a2, a3⟩ <;> rcases h' with ⟨b1, b2, b3⟩ | ⟨b1, b0, b2, b3⟩ | ⟨b1, b0, b2, b3⟩
  · exact ⟨a2.trans b2.symm, fun j hj => (b3 j hj).trans (a3 j hj).symm⟩
  · exact absurd b1 a1
  · exact absurd b1 a1
  · exact absurd a1 b1
  · exact ⟨a2.trans b2.symm, fun j hj => (b3 j hj).trans (a3 j hj).symm⟩
  · exact absurd b0 a0
  · exact absurd a1 b1
  · exact absurd a0 b0
  · exact ⟨a2.trans b2.symm, fun j hj => (b3 j hj).trans (a3 j hj).symm⟩
theorem zM_text {ln : Int32} {fl : Int32} {pl : Int32} {ft : Nat → Int32} {fk : Nat → Int32} {cr_L0 : Int32} {inn_L0 : Int32} {k1_L0 : Nat → Int32} {k2_L0 : Nat → Int32} {k3_L0 : Nat → Int32} {k4_L0 : Nat → Int32} {cr_L1 : Int32} {inn_L1 : Int32} {k1_L1 : Nat → Int32} {k2_L1 : Nat → Int32} {k3_L1 : Nat → Int32} {k4_L1 : Nat → Int32} {dd_D0 : Int32} {p1_D0 : Nat → Int32} {p2_D0 : Nat → Int32} {p3_D0 : Nat → Int32} {dd_D1 : Int32} {p1_D1 : Nat → Int32} {p2_D1 : Nat → Int32} {p3_D1 : Nat → Int32} {gg_G0 : Int32} {q1_G0 : Nat → Int32} {q2_G0 : Nat → Int32} {gg_G1 : Int32} {q1_G1 : Nat → Int32} {q2_G1 : Nat → Int32} {z : pS × (Nat → Int32)} {s : Nat} {at_ r r' : Int32} {g f : Nat → Int32} (hA : zAI f) (F1 : ∃ G2, zText z s at_ f G2 r ∧ zTR ln fl pl ft fk cr_L0 inn_L0 k1_L0 k2_L0 k3_L0 k4_L0 cr_L1 inn_L1 k1_L1 k2_L1 k3_L1 k4_L1 dd_D0 p1_D0 p2_D0 p3_D0 dd_D1 p1_D1 p2_D1 p3_D1 gg_G0 q1_G0 q2_G0 gg_G1 q1_G1 q2_G1 G2) (F2 : zText z s at_ f g r') (T0 : zBI g) (T2 : ∀ j, 988 ≤ j → g j = f j) : r = r' ∧ zAI g ∧ zTR ln fl pl ft fk cr_L0 inn_L0 k1_L0 k2_L0 k3_L0 k4_L0 cr_L1 inn_L1 k1_L1 k2_L1 k3_L1 k4_L1 dd_D0 p1_D0 p2_D0 p3_D0 dd_D1 p1_D1 p2_D1 p3_D1 gg_G0 q1_G0 q2_G0 gg_G1 q1_G1 q2_G1 g ∧ ∀ j, 988 ≤ j → g j = f j := by
  obtain ⟨G2, x1, x2⟩ := F1
  have q := zText_u x1 F2
  exact ⟨q.1, zAI_low hA T0 T2, zTR_cg x2 q.2, T2⟩
theorem zM_textN {ln : Int32} {fl : Int32} {pl : Int32} {ft : Nat → Int32} {fk : Nat → Int32} {cr_L0 : Int32} {inn_L0 : Int32} {k1_L0 : Nat → Int32} {k2_L0 : Nat → Int32} {k3_L0 : Nat → Int32} {k4_L0 : Nat → Int32} {cr_L1 : Int32} {inn_L1 : Int32} {k1_L1 : Nat → Int32} {k2_L1 : Nat → Int32} {k3_L1 : Nat → Int32} {k4_L1 : Nat → Int32} {dd_D0 : Int32} {p1_D0 : Nat → Int32} {p2_D0 : Nat → Int32} {p3_D0 : Nat → Int32} {dd_D1 : Int32} {p1_D1 : Nat → Int32} {p2_D1 : Nat → Int32} {p3_D1 : Nat → Int32} {gg_G0 : Int32} {q1_G0 : Nat → Int32} {q2_G0 : Nat → Int32} {gg_G1 : Int32} {q1_G1 : Nat → Int32} {q2_G1 : Nat → Int32} {g f : Nat → Int32} (hT : zTR ln fl pl ft fk cr_L0 inn_L0 k1_L0 k2_L0 k3_L0 k4_L0 cr_L1 inn_L1 k1_L1 k2_L1 k3_L1 k4_L1 dd_D0 p1_D0 p2_D0 p3_D0 dd_D1 p1_D1 p2_D1 p3_D1 gg_G0 q1_G0 q2_G0 gg_G1 q1_G1 q2_G1 f) (hA : zAI f) (hg : g = upd (upd (upd f 4 0) 5 0) 6 (-1)) : zAI g ∧ zTR 0 0 (-1) ft fk cr_L0 inn_L0 k1_L0 k2_L0 k3_L0 k4_L0 cr_L1 inn_L1 k1_L1 k2_L1 k3_L1 k4_L1 dd_D0 p1_D0 p2_D0 p3_D0 dd_D1 p1_D1 p2_D1 p3_D1 gg_G0 q1_G0 q2_G0 gg_G1 q1_G1 q2_G1 g ∧ ∀ j, 988 ≤ j → g j = f j := by
  have ho : ∀ j, 7 ≤ j → g j = f j := fun j q => by rw [hg, z_ne (by omega), z_ne (by omega), z_ne (by omega)]
  refine ⟨zAI_low hA (zBI_hd (zAI_0 hA) (by rw [hg]; rfl) (fun q hq => ?_) ho) (fun j hj => ho j (by omega)), by rw [hg]; exact zTR_hd hT, fun j hj => ho j (by omega)⟩
  rw [hg, z_ne (by omega), z_ne (by omega), z_ne (by omega)]
  exact (zAI_0 hA).2.1 q hq
theorem zM_keep {ln : Int32} {fl : Int32} {pl : Int32} {ft : Nat → Int32} {fk : Nat → Int32} {cr_L0 : Int32} {inn_L0 : Int32} {k1_L0 : Nat → Int32} {k2_L0 : Nat → Int32} {k3_L0 : Nat → Int32} {k4_L0 : Nat → Int32} {cr_L1 : Int32} {inn_L1 : Int32} {k1_L1 : Nat → Int32} {k2_L1 : Nat → Int32} {k3_L1 : Nat → Int32} {k4_L1 : Nat → Int32} {dd_D0 : Int32} {p1_D0 : Nat → Int32} {p2_D0 : Nat → Int32} {p3_D0 : Nat → Int32} {dd_D1 : Int32} {p1_D1 : Nat → Int32} {p2_D1 : Nat → Int32} {p3_D1 : Nat → Int32} {gg_G0 : Int32} {q1_G0 : Nat → Int32} {q2_G0 : Nat → Int32} {gg_G1 : Int32} {q1_G1 : Nat → Int32} {q2_G1 : Nat → Int32} {c : Prop} {b : Nat} {g f : Nat → Int32} (h : c → zTR ln fl pl ft fk cr_L0 inn_L0 k1_L0 k2_L0 k3_L0 k4_L0 cr_L1 inn_L1 k1_L1 k2_L1 k3_L1 k4_L1 dd_D0 p1_D0 p2_D0 p3_D0 dd_D1 p1_D1 p2_D1 p3_D1 gg_G0 q1_G0 q2_G0 gg_G1 q1_G1 q2_G1 (fun j => f (b + j))) (hb : 988 ≤ b) (T2 : ∀ j, 988 ≤ j → g j = f j) : c → zTR ln fl pl ft fk cr_L0 inn_L0 k1_L0 k2_L0 k3_L0 k4_L0 cr_L1 inn_L1 k1_L1 k2_L1 k3_L1 k4_L1 dd_D0 p1_D0 p2_D0 p3_D0 dd_D1 p1_D1 p2_D1 p3_D1 gg_G0 q1_G0 q2_G0 gg_G1 q1_G1 q2_G1 (fun j => g (b + j)) := fun z => zTR_cg (h z) (fun j _ => T2 _ (by omega))
theorem zAI_img {f g : Nat → Int32} {k : Nat} (hk : k < 3) (hA : zAI f) (c1 : ∀ j, j < 988 → g (988 * (k + 1) + j) = f j) (c2 : ∀ j, (j < 988 * (k + 1) ∨ 988 * (k + 1) + 988 ≤ j) → g j = f j) : zAI g := by
  intro i hi
  by_cases e : i = k + 1
  · subst e
    exact zBI_cg c1 (zAI_0 hA)
  · have : i < k + 1 ∨ k + 1 < i := by omega
    exact zBI_cg (fun j hj => c2 _ (by omega)) (hA i hi)
theorem zM_low {ln : Int32} {fl : Int32} {pl : Int32} {ft : Nat → Int32} {fk : Nat → Int32} {cr_L0 : Int32} {inn_L0 : Int32} {k1_L0 : Nat → Int32} {k2_L0 : Nat → Int32} {k3_L0 : Nat → Int32} {k4_L0 : Nat → Int32} {cr_L1 : Int32} {inn_L1 : Int32} {k1_L1 : Nat → Int32} {k2_L1 : Nat → Int32} {k3_L1 : Nat → Int32} {k4_L1 : Nat → Int32} {dd_D0 : Int32} {p1_D0 : Nat → Int32} {p2_D0 : Nat → Int32} {p3_D0 : Nat → Int32} {dd_D1 : Int32} {p1_D1 : Nat → Int32} {p2_D1 : Nat → Int32} {p3_D1 : Nat → Int32} {gg_G0 : Int32} {q1_G0 : Nat → Int32} {q2_G0 : Nat → Int32} {gg_G1 : Int32} {q1_G1 : Nat → Int32} {q2_G1 : Nat → Int32} {g f : Nat → Int32} (h : zTR ln fl pl ft fk cr_L0 inn_L0 k1_L0 k2_L0 k3_L0 k4_L0 cr_L1 inn_L1 k1_L1 k2_L1 k3_L1 k4_L1 dd_D0 p1_D0 p2_D0 p3_D0 dd_D1 p1_D1 p2_D1 p3_D1 gg_G0 q1_G0 q2_G0 gg_G1 q1_G1 q2_G1 f) (c : ∀ j, j < 988 → g j = f j) : zTR ln fl pl ft fk cr_L0 inn_L0 k1_L0 k2_L0 k3_L0 k4_L0 cr_L1 inn_L1 k1_L1 k2_L1 k3_L1 k4_L1 dd_D0 p1_D0 p2_D0 p3_D0 dd_D1 p1_D1 p2_D1 p3_D1 gg_G0 q1_G0 q2_G0 gg_G1 q1_G1 q2_G1 g := zTR_cg h c
theorem zM_imk {ln : Int32} {fl : Int32} {pl : Int32} {ft : Nat → Int32} {fk : Nat → Int32} {cr_L0 : Int32} {inn_L0 : Int32} {k1_L0 : Nat → Int32} {k2_L0 : Nat → Int32} {k3_L0 : Nat → Int32} {k4_L0 : Nat → Int32} {cr_L1 : Int32} {inn_L1 : Int32} {k1_L1 : Nat → Int32} {k2_L1 : Nat → Int32} {k3_L1 : Nat → Int32} {k4_L1 : Nat → Int32} {dd_D0 : Int32} {p1_D0 : Nat → Int32} {p2_D0 : Nat → Int32} {p3_D0 : Nat → Int32} {dd_D1 : Int32} {p1_D1 : Nat → Int32} {p2_D1 : Nat → Int32} {p3_D1 : Nat → Int32} {gg_G0 : Int32} {q1_G0 : Nat → Int32} {q2_G0 : Nat → Int32} {gg_G1 : Int32} {q1_G1 : Nat → Int32} {q2_G1 : Nat → Int32} {fm f g : Nat → Int32} {k b : Nat} (h : zTR ln fl pl ft fk cr_L0 inn_L0 k1_L0 k2_L0 k3_L0 k4_L0 cr_L1 inn_L1 k1_L1 k2_L1 k3_L1 k4_L1 dd_D0 p1_D0 p2_D0 p3_D0 dd_D1 p1_D1 p2_D1 p3_D1 gg_G0 q1_G0 q2_G0 gg_G1 q1_G1 q2_G1 f) (c1 : ∀ j, j < 988 → g (b + j) = f j) : ¬ upd fm k 1 k = 0 → zTR ln fl pl ft fk cr_L0 inn_L0 k1_L0 k2_L0 k3_L0 k4_L0 cr_L1 inn_L1 k1_L1 k2_L1 k3_L1 k4_L1 dd_D0 p1_D0 p2_D0 p3_D0 dd_D1 p1_D1 p2_D1 p3_D1 gg_G0 q1_G0 q2_G0 gg_G1 q1_G1 q2_G1 (fun j => g (b + j)) := fun _ => zTR_cg h c1
theorem zM_imo {ln : Int32} {fl : Int32} {pl : Int32} {ft : Nat → Int32} {fk : Nat → Int32} {cr_L0 : Int32} {inn_L0 : Int32} {k1_L0 : Nat → Int32} {k2_L0 : Nat → Int32} {k3_L0 : Nat → Int32} {k4_L0 : Nat → Int32} {cr_L1 : Int32} {inn_L1 : Int32} {k1_L1 : Nat → Int32} {k2_L1 : Nat → Int32} {k3_L1 : Nat → Int32} {k4_L1 : Nat → Int32} {dd_D0 : Int32} {p1_D0 : Nat → Int32} {p2_D0 : Nat → Int32} {p3_D0 : Nat → Int32} {dd_D1 : Int32} {p1_D1 : Nat → Int32} {p2_D1 : Nat → Int32} {p3_D1 : Nat → Int32} {gg_G0 : Int32} {q1_G0 : Nat → Int32} {q2_G0 : Nat → Int32} {gg_G1 : Int32} {q1_G1 : Nat → Int32} {q2_G1 : Nat → Int32} {fm f g : Nat → Int32} {i k b : Nat} (hik : ¬ i = k) (h : ¬ fm i = 0 → zTR ln fl pl ft fk cr_L0 inn_L0 k1_L0 k2_L0 k3_L0 k4_L0 cr_L1 inn_L1 k1_L1 k2_L1 k3_L1 k4_L1 dd_D0 p1_D0 p2_D0 p3_D0 dd_D1 p1_D1 p2_D1 p3_D1 gg_G0 q1_G0 q2_G0 gg_G1 q1_G1 q2_G1 (fun j => f (b + j))) (c2 : ∀ j, j < 988 → g (b + j) = f (b + j)) : ¬ upd fm k 1 i = 0 → zTR ln fl pl ft fk cr_L0 inn_L0 k1_L0 k2_L0 k3_L0 k4_L0 cr_L1 inn_L1 k1_L1 k2_L1 k3_L1 k4_L1 dd_D0 p1_D0 p2_D0 p3_D0 dd_D1 p1_D1 p2_D1 p3_D1 gg_G0 q1_G0 q2_G0 gg_G1 q1_G1 q2_G1 (fun j => g (b + j)) := fun z => zTR_cg (h (by rw [z_ne hik] at z; exact z)) c2
theorem zM_again {ln : Int32} {fl : Int32} {pl : Int32} {ft : Nat → Int32} {fk : Nat → Int32} {cr_L0 : Int32} {inn_L0 : Int32} {k1_L0 : Nat → Int32} {k2_L0 : Nat → Int32} {k3_L0 : Nat → Int32} {k4_L0 : Nat → Int32} {cr_L1 : Int32} {inn_L1 : Int32} {k1_L1 : Nat → Int32} {k2_L1 : Nat → Int32} {k3_L1 : Nat → Int32} {k4_L1 : Nat → Int32} {dd_D0 : Int32} {p1_D0 : Nat → Int32} {p2_D0 : Nat → Int32} {p3_D0 : Nat → Int32} {dd_D1 : Int32} {p1_D1 : Nat → Int32} {p2_D1 : Nat → Int32} {p3_D1 : Nat → Int32} {gg_G0 : Int32} {q1_G0 : Nat → Int32} {q2_G0 : Nat → Int32} {gg_G1 : Int32} {q1_G1 : Nat → Int32} {q2_G1 : Nat → Int32} {K b : Nat} {x r r' : Int32} {fm fh f g : Nat → Int32} (hA : zAI f) (hH : fm K = 0 ↔ fh K = 0) (hx : x.toInt = (K : Int)) (hK : K < 3) (hb : b = 988 * (K + 1)) (F1 : fm K = 0 ∧ r = 0 ∧ zTR ln fl pl ft fk cr_L0 inn_L0 k1_L0 k2_L0 k3_L0 k4_L0 cr_L1 inn_L1 k1_L1 k2_L1 k3_L1 k4_L1 dd_D0 p1_D0 p2_D0 p3_D0 dd_D1 p1_D1 p2_D1 p3_D1 gg_G0 q1_G0 q2_G0 gg_G1 q1_G1 q2_G1 f ∨ ¬ fm K = 0 ∧ r = 1 ∧ zTR ln fl pl ft fk cr_L0 inn_L0 k1_L0 k2_L0 k3_L0 k4_L0 cr_L1 inn_L1 k1_L1 k2_L1 k3_L1 k4_L1 dd_D0 p1_D0 p2_D0 p3_D0 dd_D1 p1_D1 p2_D1 p3_D1 gg_G0 q1_G0 q2_G0 gg_G1 q1_G1 q2_G1 (fun j => f (b + j))) (F2 : r' = 0 ∧ (x.toInt < 0 ∨ 3 ≤ x.toInt ∨ fh x.toNatClampNeg = 0) ∧ g = f ∨ r' = 1 ∧ (0 ≤ x.toInt ∧ x.toInt < 3) ∧ ¬ fh x.toNatClampNeg = 0 ∧ (∀ j, j < 988 → g j = f (988 * (x.toNatClampNeg + 1) + j)) ∧ ∀ j, 988 ≤ j → g j = f j) : r = r' ∧ zAI g ∧ zTR ln fl pl ft fk cr_L0 inn_L0 k1_L0 k2_L0 k3_L0 k4_L0 cr_L1 inn_L1 k1_L1 k2_L1 k3_L1 k4_L1 dd_D0 p1_D0 p2_D0 p3_D0 dd_D1 p1_D1 p2_D1 p3_D1 gg_G0 q1_G0 q2_G0 gg_G1 q1_G1 q2_G1 g ∧ ∀ j, 988 ≤ j → g j = f j := by
  subst hb
  have e : x.toNatClampNeg = K := by have := z_clI (x := x) (by omega); omega
  rw [e] at F2
  rcases F1 with ⟨a1, a2, a3⟩ | ⟨a1, a2, a3⟩ <;> rcases F2 with ⟨b1, b2, b3⟩ | ⟨b1, b2, b3, b4, b5⟩
  · exact ⟨a2.trans b1.symm, by rw [b3]; exact hA, by rw [b3]; exact a3, fun j _ => by rw [b3]⟩
  · exact absurd (hH.mp a1) b3
  · rcases b2 with q | q | q
    · omega
    · omega
    · exact absurd (hH.mpr q) a1
  · exact ⟨a2.trans b1.symm, zAI_low hA (zBI_cg b4 (hA (K + 1) (by omega))) b5, zTR_cg a3 b4, b5⟩
theorem zM_imr {K : Nat} {x r' : Int32} {fh gh f g : Nat → Int32} (hx : x.toInt = (K : Int)) (hK : K < 3) (F2 : r' = 0 ∧ (x.toInt < 0 ∨ 3 ≤ x.toInt) ∧ g = f ∧ gh = fh ∨ r' = 1 ∧ (0 ≤ x.toInt ∧ x.toInt < 3) ∧ (∀ j, j < 988 → g (988 * (x.toNatClampNeg + 1) + j) = f j) ∧ (∀ j, (j < 988 * (x.toNatClampNeg + 1) ∨ 988 * (x.toNatClampNeg + 1) + 988 ≤ j) → g j = f j) ∧ gh = upd fh x.toNatClampNeg 1) : r' = 1 ∧ (∀ j, j < 988 → g (988 * (K + 1) + j) = f j) ∧ (∀ j, (j < 988 * (K + 1) ∨ 988 * (K + 1) + 988 ≤ j) → g j = f j) ∧ gh = upd fh K 1 := by
  have e : x.toNatClampNeg = K := by have := z_clI (x := x) (by omega); omega
  rw [e] at F2
  rcases F2 with ⟨a, b, -⟩ | ⟨a, -, b, c, d⟩
  · omega
  · exact ⟨a, b, c, d⟩
theorem zM_imN {x r' : Int32} {fh gh f g : Nat → Int32} (hx : x.toInt < 0 ∨ 2 < x.toInt) (F2 : r' = 0 ∧ (x.toInt < 0 ∨ 3 ≤ x.toInt) ∧ g = f ∧ gh = fh ∨ r' = 1 ∧ (0 ≤ x.toInt ∧ x.toInt < 3) ∧ (∀ j, j < 988 → g (988 * (x.toNatClampNeg + 1) + j) = f j) ∧ (∀ j, (j < 988 * (x.toNatClampNeg + 1) ∨ 988 * (x.toNatClampNeg + 1) + 988 ≤ j) → g j = f j) ∧ gh = upd fh x.toNatClampNeg 1) : (0 : Int32) = r' ∧ g = f ∧ gh = fh := by
  rcases F2 with ⟨a, -, b, c⟩ | ⟨-, b, -⟩
  · exact ⟨a.symm, b, c⟩
  · omega
theorem zM_agN {x r' : Int32} {fh f g : Nat → Int32} (hx : x.toInt < 0 ∨ 2 < x.toInt) (F2 : r' = 0 ∧ (x.toInt < 0 ∨ 3 ≤ x.toInt ∨ fh x.toNatClampNeg = 0) ∧ g = f ∨ r' = 1 ∧ (0 ≤ x.toInt ∧ x.toInt < 3) ∧ ¬ fh x.toNatClampNeg = 0 ∧ (∀ j, j < 988 → g j = f (988 * (x.toNatClampNeg + 1) + j)) ∧ ∀ j, 988 ≤ j → g j = f j) : (0 : Int32) = r' ∧ g = f := by
  rcases F2 with ⟨a, -, b⟩ | ⟨-, b, -⟩
  · exact ⟨a.symm, b⟩
  · omega
set_option maxHeartbeats 4000000 in
set_option maxRecDepth 100000 in
/-- c_f_textN -/
theorem c_f_textN (l : Launch) (T : zTy) (xo : Nat) (t : Nat) (im : Nat) (mk : Nat) (rd : Nat) (po : Nat) (co : Nat) (tr : Nat) (wa : Nat) (wb_ : Nat) (fi : Nat) (cd : Nat) (l0 : Nat) (l1 : Nat) (d0 : Nat) (d1 : Nat) (g0 : Nat) (g1 : Nat) (ln : Int32) (fl : Int32) (pl : Int32) (ft : Nat → Int32) (fk : Nat → Int32) (wt : va_W) (i1 : Int32) (at_ : Int32) (ht : bTold T t l0 l1 d0 d1 g0 g1 ln fl pl ft fk wt) (hK : zKT fk) (hso : i1.toInt < 0 ∨ 2 < i1.toInt) : zMi l T yX11_text cX11_text 5 (some .int) 9 0 0 [.ref xo, .int i1, .int at_] [[zO10 xo t im mk rd po co tr wa wb_ fi cd], wt] (fun (r : Int32) bs => ∃ (wt_2 : va_W), bs = [[zO10 xo t im mk rd po co tr wa wb_ fi cd], wt_2] ∧ bTold T t l0 l1 d0 d1 g0 g1 0 0 (-1) ft fk wt_2 ∧ r = -2) := by
  refine zMi_of (own := RX11) (by decide) rfl (Nat.le_of_ble_eq_true rfl) ?_
  intro p e s m args below meth c A ls C hr hlocks hnm hAe G hl
  refine zHide (fun Qz_ hQz_ => ?_)
  have hx := C.1
  have hb := C.2.1
  have hl : lv_has ls 5 [(0, .ref xo), (1, .int i1), (2, .int at_)] := hl
  refine lv_aload_n hx hb dX11_text_0 rfl (lv_at hl 0 rfl) ?_
  refine z_get C G clX11 0 rfl 0 (by decide) m_fl_RX11_10 rfl dX11_text_1 ?_
  refine lv_iload_n hx hb dX11_text_4 rfl (lv_at hl 1 rfl) ?_
  refine lv_iload_n hx hb dX11_text_5 rfl (lv_at hl 2 rfl) ?_
  refine z_Vi (bc := [wt]) (br := [[zO10 xo t im mk rd po co tr wa wb_ fi cd]]) (As := [.int i1, .int at_]) (rest := []) C G (c_placeFor l T t l0 l1 d0 d1 g0 g1 ln fl pl ft fk wt i1 at_ ht (by first | with_reducible assumption | with_reducible rfl | omega | assumption | rfl)) (kV_RX11_81 C.2.2.2.2 (Nat.le_of_ble_eq_true rfl) (Nat.le_of_ble_eq_true rfl)) [1] [1] rfl rfl (ci := 8) (qc := (RX9, TX9, 8)) rfl rfl (List.mem_flatten.mpr ⟨_, List.mem_of_getElem? (i := 0) rfl, (bTold_mem ht).choose_spec⟩) rfl rfl hl.1 dX11_text_6 (Nat.le_of_ble_eq_true rfl) (Nat.le_of_ble_eq_true rfl) (fun r_2 b1 H locs hw G => ?_)
  refine zAn2 hw ?_
  intro hbs9 h_1
  clear hw
  subst hbs9
  have G : zS T A s.heap s [[zO10 xo t im mk rd po co tr wa wb_ fi cd], wt] _ _ := G
  have hr9 : r_2.toInt = -2 := by have := h_1; omega
  refine lv_istore_n (lv' := [(3, .int r_2), (0, .ref xo), (1, .int i1), (2, .int at_)]) hx hb dX11_text_9 rfl hl (by decide) (zLvf_h rfl) (fun ls hl => ?_)
  refine lv_aload_n hx hb dX11_text_10 rfl (lv_at hl 1 rfl) ?_
  refine z_get C G clX11 0 rfl 0 (by decide) m_fl_RX11_10 rfl dX11_text_11 ?_
  refine zEx8 ht ?_
  intro a1_3 a2_4 a3_5 a4_6 a5_7 q1_8 q2_9 q3_10
  refine zCu7 ?_
  intro hbs9 h_11 h_12 h_13 h_14 h_15 h_16
  clear ht
  subst hbs9
  have G : zS T A s.heap s [[zO10 xo t im mk rd po co tr wa wb_ fi cd], [zO8 t a1_3 ln fl pl a2_4 a3_5 a4_6 a5_7], [zAr T 1 a1_3 600 ft], [zAr T 0 a2_4 3 fk], [zArq T 3 a3_5 2 q1_8], [zArq T 4 a4_6 2 q2_9], [zArq T 5 a5_7 2 q3_10]] _ _ := G.re rfl
  refine z_get C G clX9 1 rfl 1 (by decide) m_fl_RX11_73 rfl dX11_text_14 ?_
  refine lv_istore (lv' := [(4, .int ln), (3, .int r_2), (0, .ref xo), (1, .int i1), (2, .int at_)]) hx hb dX11_text_17 hl (by decide) (zLvf_h rfl) (fun ls hl => ?_)
  refine lv_aload_n hx hb dX11_text_19 rfl (lv_at hl 2 rfl) ?_
  refine z_get C G clX11 0 rfl 0 (by decide) m_fl_RX11_10 rfl dX11_text_20 ?_
  refine lv_iconst (v := 0) hx hb dX11_text_23 (by decide) ?_
  refine z_put C G clX9 1 rfl 1 (by decide) m_fl_RX11_73 rfl rfl rfl (Nat.le_of_ble_eq_true rfl) dX11_text_24 (fun H locs G => ?_)
  have G : zS T A s.heap s [[zO10 xo t im mk rd po co tr wa wb_ fi cd], [zO8 t a1_3 0 fl pl a2_4 a3_5 a4_6 a5_7], [zAr T 1 a1_3 600 ft], [zAr T 0 a2_4 3 fk], [zArq T 3 a3_5 2 q1_8], [zArq T 4 a4_6 2 q2_9], [zArq T 5 a5_7 2 q3_10]] _ _ := G
  refine lv_aload_n hx hb dX11_text_27 rfl (lv_at hl 2 rfl) ?_
  refine z_get C G clX11 0 rfl 0 (by decide) m_fl_RX11_10 rfl dX11_text_28 ?_
  refine lv_iconst (v := 0) hx hb dX11_text_31 (by decide) ?_
  refine z_put C G clX9 1 rfl 2 (by decide) m_fl_RX11_85 rfl rfl rfl (Nat.le_of_ble_eq_true rfl) dX11_text_32 (fun H locs G => ?_)
  have G : zS T A s.heap s [[zO10 xo t im mk rd po co tr wa wb_ fi cd], [zO8 t a1_3 0 0 pl a2_4 a3_5 a4_6 a5_7], [zAr T 1 a1_3 600 ft], [zAr T 0 a2_4 3 fk], [zArq T 3 a3_5 2 q1_8], [zArq T 4 a4_6 2 q2_9], [zArq T 5 a5_7 2 q3_10]] _ _ := G
  refine lv_aload_n hx hb dX11_text_35 rfl (lv_at hl 2 rfl) ?_
  refine z_get C G clX11 0 rfl 0 (by decide) m_fl_RX11_10 rfl dX11_text_36 ?_
  refine lv_iconst (v := (-1)) hx hb dX11_text_39 (by decide) ?_
  refine z_put C G clX9 1 rfl 3 (by decide) m_fl_RX11_88 rfl rfl rfl (Nat.le_of_ble_eq_true rfl) dX11_text_40 (fun H locs G => ?_)
  have G : zS T A s.heap s [[zO10 xo t im mk rd po co tr wa wb_ fi cd], [zO8 t a1_3 0 0 (-1) a2_4 a3_5 a4_6 a5_7], [zAr T 1 a1_3 600 ft], [zAr T 0 a2_4 3 fk], [zArq T 3 a3_5 2 q1_8], [zArq T 4 a4_6 2 q2_9], [zArq T 5 a5_7 2 q3_10]] _ _ := G
  refine lv_iload_n hx hb dX11_text_43 rfl (lv_at hl 1 rfl) ?_
  refine lv_bipush (v := (-2)) hx hb dX11_text_44 (by decide) ?_
  refine lv_icmp_ne (tgt := 52) hx hb dX11_text_46 (by decide) (fun q => absurd ((fa_eq r_2 ((-2) : Int32)).mpr (by show r_2.toInt = (-2 : Int); omega)) q) (fun _ => ?_)
  refine lv_bipush (v := (-2)) hx hb dX11_text_49 (by decide) ?_
  have hw_17 : bTold T t l0 l1 d0 d1 g0 g1 0 0 (-1) ft fk [zO8 t a1_3 0 0 (-1) a2_4 a3_5 a4_6 a5_7, zAr T 1 a1_3 600 ft, zAr T 0 a2_4 3 fk, zArq T 3 a3_5 2 q1_8, zArq T 4 a4_6 2 q2_9, zArq T 5 a5_7 2 q3_10] := ⟨a1_3, a2_4, a3_5, a4_6, a5_7, q1_8, q2_9, q3_10, rfl, h_11, h_12, h_13, h_14, h_15, h_16⟩
  have G : zS T A s.heap s [[zO10 xo t im mk rd po co tr wa wb_ fi cd], [zO8 t a1_3 0 0 (-1) a2_4 a3_5 a4_6 a5_7, zAr T 1 a1_3 600 ft, zAr T 0 a2_4 3 fk, zArq T 3 a3_5 2 q1_8, zArq T 4 a4_6 2 q2_9, zArq T 5 a5_7 2 q3_10]] _ _ := G.re rfl
  exact z_back hQz_ (z_iret C hr hlocks G (Nat.le_of_ble_eq_true rfl) (Nat.le_of_ble_eq_true rfl) dX11_text_51 ⟨([zO8 t a1_3 0 0 (-1) a2_4 a3_5 a4_6 a5_7, zAr T 1 a1_3 600 ft, zAr T 0 a2_4 3 fk, zArq T 3 a3_5 2 q1_8, zArq T 4 a4_6 2 q2_9, zArq T 5 a5_7 2 q3_10]), rfl, hw_17, rfl⟩)
set_option maxHeartbeats 4000000 in
set_option maxRecDepth 100000 in
/-- c_fm_textN -/
theorem c_fm_textN (l : Launch) (T : zTy) (mo : Nat) (m_all : Nat) (m_has : Nat) (i_size : Int32) (i_next : Int32) (i_where : Int32) (i_token : Int32) (i_number : Int32) (i_word : Int32) (i_wrong : Int32) (i_farCrossing : Int32) (m_read : Nat) (i_z0 : Int32) (i_crossings : Int32) (i_inns : Int32) (m_posts : Nat) (m_shut : Nat) (m_here : Nat) (i_steps : Int32) (i_done : Int32) (i_at : Int32) (i_gone : Int32) (m_was : Nat) (m_came : Nat) (m_seenAt : Nat) (m_rowWorth : Nat) (m_farBy : Nat) (m_used : Nat) (i_everywhere : Int32) (i_again0 : Int32) (i_d0 : Int32) (i_never : Int32) (i_firstCame : Int32) (i_longRun : Int32) (i_moved : Int32) (i_crowd : Int32) (i_l0 : Int32) (i_fitMany : Int32) (i_fitLeast : Int32) (i_fitMost : Int32) (m_fitPost : Nat) (m_fitEnd : Nat) (m_keptPosts : Nat) (i_x0 : Int32) (f_all : Nat → Int32) (f_read : Nat → Int32) (so_ : Int32) (at_ : Int32) (hso : so_.toInt < 0 ∨ 2 < so_.toInt) : zMi l T yX12_text cX12_text 5 (some .int) 9 0 0 [.ref mo, .int so_, .int at_] [[zO11 mo m_all m_has i_size i_next i_where i_token i_number i_word i_wrong i_farCrossing m_read i_z0 i_crossings i_inns m_posts m_shut m_here i_steps i_done i_at i_gone m_was m_came m_seenAt m_rowWorth m_farBy m_used i_everywhere i_again0 i_d0 i_never i_firstCame i_longRun i_moved i_crowd i_l0 i_fitMany i_fitLeast i_fitMost m_fitPost m_fitEnd m_keptPosts i_x0], [zAr T 0 m_all 3952 f_all], [zAr T 0 m_read 121 f_read]] (fun (r : Int32) bs => ∃ (j_size : Int32) (g_all : Nat → Int32), bs = [[zO11 mo m_all m_has j_size i_next i_where i_token i_number i_word i_wrong i_farCrossing m_read i_z0 i_crossings i_inns m_posts m_shut m_here i_steps i_done i_at i_gone m_was m_came m_seenAt m_rowWorth m_farBy m_used i_everywhere i_again0 i_d0 i_never i_firstCame i_longRun i_moved i_crowd i_l0 i_fitMany i_fitLeast i_fitMost m_fitPost m_fitEnd m_keptPosts i_x0], [zAr T 0 m_all 3952 g_all], [zAr T 0 m_read 121 f_read]] ∧ r = -2 ∧ g_all = upd (upd (upd f_all 4 0) 5 0) 6 (-1)) := by
  refine zMi_of (own := RX12) (by decide) rfl (Nat.le_of_ble_eq_true rfl) ?_
  intro p e s m args below meth c A ls C hr hlocks hnm hAe G hl
  refine zHide (fun Qz_ hQz_ => ?_)
  have hx := C.1
  have hb := C.2.1
  have hl : lv_has ls 5 [(0, .ref mo), (1, .int so_), (2, .int at_)] := hl
  refine lv_aload_n hx hb dX12_text_0 rfl (lv_at hl 0 rfl) ?_
  refine lv_aload_n hx hb dX12_text_1 rfl (lv_at hl 0 rfl) ?_
  refine z_get C G clX12 0 rfl 0 (by decide) m_fl_RX12_7 rfl dX12_text_2 ?_
  refine lv_iconst (v := 4) hx hb dX12_text_5 (by decide) ?_
  refine z_ild C G 1 rfl (vp_in_nI (n := 4) (by decide) (by decide)) dX12_text_6 ?_
  refine lv_topi (fun v_1 ev_1 => ?_)
  rw [show ((4 : Int32).toNatClampNeg) = 4 from rfl] at ev_1
  subst ev_1
  refine z_put C G clX12 0 rfl 2 (by decide) m_fl_RX12_56 rfl rfl rfl (Nat.le_of_ble_eq_true rfl) dX12_text_7 (fun H locs G => ?_)
  have G : zS T A s.heap s [[zO11 mo m_all m_has (f_all 4) i_next i_where i_token i_number i_word i_wrong i_farCrossing m_read i_z0 i_crossings i_inns m_posts m_shut m_here i_steps i_done i_at i_gone m_was m_came m_seenAt m_rowWorth m_farBy m_used i_everywhere i_again0 i_d0 i_never i_firstCame i_longRun i_moved i_crowd i_l0 i_fitMany i_fitLeast i_fitMost m_fitPost m_fitEnd m_keptPosts i_x0], [zAr T 0 m_all 3952 f_all], [zAr T 0 m_read 121 f_read]] _ _ := G
  refine lv_aload_n hx hb dX12_text_10 rfl (lv_at hl 0 rfl) ?_
  refine z_get C G clX12 0 rfl 0 (by decide) m_fl_RX12_7 rfl dX12_text_11 ?_
  refine lv_iconst (v := 4) hx hb dX12_text_14 (by decide) ?_
  refine lv_iconst (v := 0) hx hb dX12_text_15 (by decide) ?_
  refine z_ist C G 1 rfl (vp_in_nI (n := 4) (by decide) (by decide)) dX12_text_16 (fun H locs G => ?_)
  have G : zS T A s.heap s [[zO11 mo m_all m_has (f_all 4) i_next i_where i_token i_number i_word i_wrong i_farCrossing m_read i_z0 i_crossings i_inns m_posts m_shut m_here i_steps i_done i_at i_gone m_was m_came m_seenAt m_rowWorth m_farBy m_used i_everywhere i_again0 i_d0 i_never i_firstCame i_longRun i_moved i_crowd i_l0 i_fitMany i_fitLeast i_fitMost m_fitPost m_fitEnd m_keptPosts i_x0], [zAr T 0 m_all 3952 (upd f_all 4 0)], [zAr T 0 m_read 121 f_read]] _ _ := G
  refine lv_aload_n hx hb dX12_text_17 rfl (lv_at hl 0 rfl) ?_
  refine z_get C G clX12 0 rfl 0 (by decide) m_fl_RX12_7 rfl dX12_text_18 ?_
  refine lv_iconst (v := 5) hx hb dX12_text_21 (by decide) ?_
  refine lv_iconst (v := 0) hx hb dX12_text_22 (by decide) ?_
  refine z_ist C G 1 rfl (vp_in_nI (n := 5) (by decide) (by decide)) dX12_text_23 (fun H locs G => ?_)
  have G : zS T A s.heap s [[zO11 mo m_all m_has (f_all 4) i_next i_where i_token i_number i_word i_wrong i_farCrossing m_read i_z0 i_crossings i_inns m_posts m_shut m_here i_steps i_done i_at i_gone m_was m_came m_seenAt m_rowWorth m_farBy m_used i_everywhere i_again0 i_d0 i_never i_firstCame i_longRun i_moved i_crowd i_l0 i_fitMany i_fitLeast i_fitMost m_fitPost m_fitEnd m_keptPosts i_x0], [zAr T 0 m_all 3952 (upd (upd f_all 4 0) 5 0)], [zAr T 0 m_read 121 f_read]] _ _ := G
  refine lv_aload_n hx hb dX12_text_24 rfl (lv_at hl 0 rfl) ?_
  refine z_get C G clX12 0 rfl 0 (by decide) m_fl_RX12_7 rfl dX12_text_25 ?_
  refine lv_bipush (v := 6) hx hb dX12_text_28 (by decide) ?_
  refine lv_iconst (v := (-1)) hx hb dX12_text_30 (by decide) ?_
  refine z_ist C G 1 rfl (vp_in_nI (n := 6) (by decide) (by decide)) dX12_text_31 (fun H locs G => ?_)
  have G : zS T A s.heap s [[zO11 mo m_all m_has (f_all 4) i_next i_where i_token i_number i_word i_wrong i_farCrossing m_read i_z0 i_crossings i_inns m_posts m_shut m_here i_steps i_done i_at i_gone m_was m_came m_seenAt m_rowWorth m_farBy m_used i_everywhere i_again0 i_d0 i_never i_firstCame i_longRun i_moved i_crowd i_l0 i_fitMany i_fitLeast i_fitMost m_fitPost m_fitEnd m_keptPosts i_x0], [zAr T 0 m_all 3952 (upd (upd (upd f_all 4 0) 5 0) 6 (-1))], [zAr T 0 m_read 121 f_read]] _ _ := G
  refine lv_iload_n hx hb dX12_text_32 rfl (lv_at hl 1 rfl) ?_
  refine lv_iconst (v := 0) hx hb dX12_text_33 (by decide) ?_
  refine lv_iconst (v := 2) hx hb dX12_text_34 (by decide) ?_
  refine z_Si (bc := []) (br := [[zO11 mo m_all m_has (f_all 4) i_next i_where i_token i_number i_word i_wrong i_farCrossing m_read i_z0 i_crossings i_inns m_posts m_shut m_here i_steps i_done i_at i_gone m_was m_came m_seenAt m_rowWorth m_farBy m_used i_everywhere i_again0 i_d0 i_never i_firstCame i_longRun i_moved i_crowd i_l0 i_fitMany i_fitLeast i_fitMost m_fitPost m_fitEnd m_keptPosts i_x0], [zAr T 0 m_all 3952 (upd (upd (upd f_all 4 0) 5 0) 6 (-1))], [zAr T 0 m_read 121 f_read]]) (As := [.int so_, .int 0, .int 2]) (rest := []) C G (c_m_isIn l T so_ 0 2) (kS_RX12_111 C.2.2.2.2 (Nat.le_of_ble_eq_true rfl) (Nat.le_of_ble_eq_true rfl)) [] [] rfl rfl rfl rfl hl.1 dX12_text_35 (Nat.le_of_ble_eq_true rfl) (Nat.le_of_ble_eq_true rfl) (fun r_3 b1 H locs hw G => ?_)
  refine zAn2 hw ?_
  intro hbs9 hc_2
  clear hw
  subst hbs9
  have G : zS T A s.heap s [[zO11 mo m_all m_has (f_all 4) i_next i_where i_token i_number i_word i_wrong i_farCrossing m_read i_z0 i_crossings i_inns m_posts m_shut m_here i_steps i_done i_at i_gone m_was m_came m_seenAt m_rowWorth m_farBy m_used i_everywhere i_again0 i_d0 i_never i_firstCame i_longRun i_moved i_crowd i_l0 i_fitMany i_fitLeast i_fitMost m_fitPost m_fitEnd m_keptPosts i_x0], [zAr T 0 m_all 3952 (upd (upd (upd f_all 4 0) 5 0) 6 (-1))], [zAr T 0 m_read 121 f_read]] _ _ := G
  rcases hc_2 with ⟨rfl, h_4, h_5⟩ | ⟨rfl, h_6⟩
  · have h_4 : (0 : Int) ≤ so_.toInt := h_4
    have h_5 : so_.toInt ≤ (2 : Int) := h_5
    refine lv_if_eq (tgt := 68) hx hb dX12_text_38 (by decide) (fun q => absurd q (by decide)) (fun _ => ?_)
    exact absurd (show (0 : Int) = 1 by omega) (by decide)
  · have h_6 : (so_.toInt < (0 : Int) ∨ (2 : Int) < so_.toInt) := h_6
    refine lv_if_eq (tgt := 68) hx hb dX12_text_38 (by decide) (fun _ => ?_) (fun q => absurd (by decide) q)
    refine lv_bipush (v := (-2)) hx hb dX12_text_68 (by decide) ?_
    exact z_back hQz_ (z_iret C hr hlocks G (Nat.le_of_ble_eq_true rfl) (Nat.le_of_ble_eq_true rfl) dX12_text_70 ⟨(f_all 4), (upd (upd (upd f_all 4 0) 5 0) 6 (-1)), rfl, rfl, rfl⟩)
/-! bits of a number -/
def bT (x : Int32) (b : Nat) : Bool := x.toBitVec.getLsbD b
theorem bT_sm : ∀ b, b < 32 → ((nI b &&& 31).toBitVec.smod 32).toNat = b := by decide +kernel
theorem bT_and (x y : Int32) (b : Nat) : bT (x &&& y) b = (bT x b && bT y b) := by
  unfold bT
  rw [Int32.toBitVec_and, BitVec.getLsbD_and]
theorem bT_or (x y : Int32) (b : Nat) : bT (x ||| y) b = (bT x b || bT y b) := by
  unfold bT
  rw [Int32.toBitVec_or, BitVec.getLsbD_or]
theorem bT_m1 : ∀ b, b < 32 → bT (-1) b = true := by decide +kernel
theorem bT_0 : ∀ b, b < 32 → bT 0 b = false := by decide +kernel
theorem bT_not (x : Int32) {b : Nat} (hb : b < 32) : bT (x ^^^ (-1)) b = !bT x b := by
  have e : bT (x ^^^ (-1)) b = (bT x b ^^ bT (-1) b) := by
    unfold bT
    rw [Int32.toBitVec_xor, BitVec.getLsbD_xor]
  rw [e, bT_m1 b hb, Bool.xor_true]
theorem bT_l (y : Int32) : (y &&& 1 = 1 ∧ bT y 0 = true) ∨ (y &&& 1 = 0 ∧ bT y 0 = false) := by
  have b1 : bT 1 0 = true := by decide +kernel
  have b0 : bT 0 0 = false := by decide +kernel
  have a := bT_and y 1 0
  rw [b1, Bool.and_true] at a
  rcases zB01 y with q | q
  · rw [q, b0] at a
    exact Or.inr ⟨q, a.symm⟩
  · rw [q, b1] at a
    exact Or.inl ⟨q, a.symm⟩
theorem bT_z {x : Int32} {b : Nat} (hb : b < 32) : (zBit x (nI b) = 1 ∧ bT x b = true) ∨ (zBit x (nI b) = 0 ∧ bT x b = false) := by
  have s : bT (x >>> (nI b &&& 31)) 0 = bT x b := by
    unfold bT
    rw [Int32.toBitVec_shiftRight, BitVec.getLsbD_sshiftRight', bT_sm b hb]
    simp [hb]
  rw [← s]
  exact bT_l _
theorem bT_y {x : Int32} {b : Nat} (hb : b < 32) (h : ¬ zBit x (nI b) = 0) : bT x b = true := ((bT_z (x := x) hb).resolve_right (fun q => h q.1)).2
theorem bT_n {x : Int32} {b : Nat} (hb : b < 32) (h : zBit x (nI b) = 0) : bT x b = false := ((bT_z (x := x) hb).resolve_left (fun q => absurd (h.symm.trans q.1) (by decide))).2
theorem bT_1 {x : Int32} {b : Nat} (hb : b < 32) (h : zBit x (nI b) = 1) : bT x b = true := bT_y hb (fun q => absurd (h.symm.trans q) (by decide))
theorem bT_n1 {x : Int32} {b : Nat} (hb : b < 32) (h : ¬ zBit x (nI b) = 1) : bT x b = false := ((bT_z (x := x) hb).resolve_left (fun q => h q.1)).2
theorem bT_s0 : ∀ t, t < 7 → ∀ b, b < 32 → bT (1 <<< (nI t &&& 31)) b = decide (b = t) := by decide +kernel
theorem bT_s {x : Int32} {b : Nat} (h : 0 ≤ x.toInt ∧ x.toInt ≤ 6) (hb : b < 32) : bT (1 <<< (x &&& 31)) b = true ↔ x = nI b := by
  have e : x = nI x.toInt.toNat := z_nI (by omega) (by omega)
  have s := bT_s0 x.toInt.toNat (by omega) b hb
  rw [← e] at s
  rw [s, decide_eq_true_eq]
  constructor
  · intro q
    rw [q]
    exact e
  · intro q
    rw [q, nI_toInt (by omega)]
    rfl
theorem bT_x {x y : Int32} (h : ∀ b, b < 32 → bT x b = bT y b) : x = y := Int32.toBitVec_inj.mp (BitVec.eq_of_getLsbD_eq h)
theorem nI_i {a b : Nat} (ha : a < 1000) (hb : b < 1000) : nI a = nI b ↔ a = b := by
  constructor
  · intro q
    have q := congrArg Int32.toInt q
    rw [nI_toInt (by omega), nI_toInt (by omega)] at q
    omega
  · intro q
    rw [q]
/-! roads -/
def rR (L : Nat → Int32) (c : Nat) : Nat → Int32 → Int32
  | 0, v => v
  | n + 1, v => rR L c n v ||| (1 <<< (L (4 * c + n) &&& 31))
def rC (W L : Nat → Int32) (b : Int32) : Nat → Int32
  | 0 => b
  | n + 1 => if zBit b (nI n) = 0 then rC W L b n else rR L n (W n).toInt.toNat (rC W L b n)
/-- what is come to behind so many roads at most -/
def rSn (W L : Nat → Int32) (m : Nat) (v : Int32) : Nat → Int32
  | 0 => v
  | n + 1 => rC W L (rSn W L m v n) m
/-- roads lead to crossings that are there -/
def rOk (W L : Nat → Int32) (m : Nat) : Prop := m ≤ 7 ∧ (∀ c, c < 7 → 0 ≤ (W c).toInt ∧ (W c).toInt ≤ 4) ∧ ∀ c r : Nat, c < 7 → (r : Int) < (W c).toInt → 0 ≤ (L (4 * c + r)).toInt ∧ (L (4 * c + r)).toInt < m
def rE (W L : Nat → Int32) (c b : Nat) : Prop := ∃ r : Nat, (r : Int) < (W c).toInt ∧ L (4 * c + r) = nI b
theorem rR_b {L : Nat → Int32} {c b : Nat} (hb : b < 32) : ∀ n v, (∀ r, r < n → 0 ≤ (L (4 * c + r)).toInt ∧ (L (4 * c + r)).toInt ≤ 6) → (bT (rR L c n v) b = true ↔ bT v b = true ∨ ∃ r, r < n ∧ L (4 * c + r) = nI b)
  | 0, v, _ => ⟨Or.inl, fun q => q.elim id (fun ⟨r, a, _⟩ => absurd a (by omega))⟩
  | n + 1, v, h => by
    have ih := rR_b hb n v (fun r hr => h r (by omega))
    have s := bT_s (h n (by omega)) hb
    show bT (rR L c n v ||| (1 <<< (L (4 * c + n) &&& 31))) b = true ↔ _
    rw [bT_or, Bool.or_eq_true, ih, s]
    constructor
    · rintro ((q | ⟨r, a, e⟩) | q)
      · exact Or.inl q
      · exact Or.inr ⟨r, by omega, e⟩
      · exact Or.inr ⟨n, by omega, q⟩
    · rintro (q | ⟨r, a, e⟩)
      · exact Or.inl (Or.inl q)
      · by_cases z : r = n
        · rw [z] at e
          exact Or.inr e
        · exact Or.inl (Or.inr ⟨r, by omega, e⟩)
theorem rC_b {W L : Nat → Int32} {m : Nat} (hO : rOk W L m) {v : Int32} {b : Nat} (hb : b < 32) : ∀ n, n ≤ 7 → (bT (rC W L v n) b = true ↔ bT v b = true ∨ ∃ c, c < n ∧ bT v c = true ∧ rE W L c b)
  | 0, _ => ⟨Or.inl, fun q => q.elim id (fun ⟨c, a, _⟩ => absurd a (by omega))⟩
  | n + 1, hn => by
    have ih := rC_b hO (v := v) hb n (by omega)
    have w := (hO.2.1 n (by omega))
    have l := hO.2.2 n
    have m7 := hO.1
    rcases bT_z (x := v) (b := n) (by omega) with ⟨q1, q2⟩ | ⟨q1, q2⟩
    · have e : rC W L v (n + 1) = rR L n (W n).toInt.toNat (rC W L v n) := if_neg (fun z => absurd (z.symm.trans q1) (by decide))
      rw [e, rR_b hb _ _ (fun r hr => by have := l r (by omega) (by omega); omega), ih]
      constructor
      · rintro ((q | ⟨c, a, d⟩) | ⟨r, a, d⟩)
        · exact Or.inl q
        · exact Or.inr ⟨c, by omega, d⟩
        · exact Or.inr ⟨n, by omega, q2, r, by omega, d⟩
      · rintro (q | ⟨c, a, d, r, d2, d3⟩)
        · exact Or.inl (Or.inl q)
        · by_cases z : c = n
          · rw [z] at d2 d3
            exact Or.inr ⟨r, by omega, d3⟩
          · exact Or.inl (Or.inr ⟨c, by omega, d, r, d2, d3⟩)
    · have e : rC W L v (n + 1) = rC W L v n := if_pos q1
      rw [e, ih]
      constructor
      · rintro (q | ⟨c, a, d⟩)
        · exact Or.inl q
        · exact Or.inr ⟨c, by omega, d⟩
      · rintro (q | ⟨c, a, d, d2⟩)
        · exact Or.inl q
        · by_cases z : c = n
          · rw [z, q2] at d
            exact absurd d (by decide)
          · exact Or.inr ⟨c, by omega, d, d2⟩
theorem rSn_m {W L : Nat → Int32} {m : Nat} (hO : rOk W L m) {v : Int32} {b : Nat} (hb : b < 32) (n : Nat) (h : bT (rSn W L m v n) b = true) : bT (rSn W L m v (n + 1)) b = true := (rC_b hO hb m hO.1).mpr (Or.inl h)
theorem rSn_mm {W L : Nat → Int32} {m : Nat} (hO : rOk W L m) {v : Int32} {b : Nat} (hb : b < 32) {n : Nat} (h : bT (rSn W L m v n) b = true) : ∀ k, n ≤ k → bT (rSn W L m v k) b = true := by
  intro k
  induction k with
  | zero => intro q; rw [show n = 0 by omega] at h; exact h
  | succ k ih =>
    intro q
    by_cases e : n = k + 1
    · rw [← e]; exact h
    · exact rSn_m hO hb k (ih (by omega))
theorem rE_lt {W L : Nat → Int32} {m c b : Nat} (hO : rOk W L m) (hc : c < 7) (hb : b < 32) (h : rE W L c b) : b < m := by
  obtain ⟨r, a, e⟩ := h
  have l := hO.2.2 c r hc a
  rw [e, nI_toInt (by omega)] at l
  omega
/-- bits of crossings that are there alone -/
theorem rSn_hi {W L : Nat → Int32} {m : Nat} (hO : rOk W L m) {v : Int32} (hv : ∀ b, b < 32 → bT v b = true → b < m) : ∀ n b, b < 32 → bT (rSn W L m v n) b = true → b < m
  | 0, b, hb, h => hv b hb h
  | n + 1, b, hb, h => by
    rcases (rC_b hO hb m hO.1).mp h with q | ⟨c, a, _, d⟩
    · exact rSn_hi hO hv n b hb q
    · exact rE_lt hO (by have := hO.1; omega) hb d
def rCt (x : Int32) : Nat := (bT x 0).toNat + (bT x 1).toNat + (bT x 2).toNat + (bT x 3).toNat + (bT x 4).toNat + (bT x 5).toNat + (bT x 6).toNat
theorem bN_le {a b : Bool} (h : a = true → b = true) : a.toNat ≤ b.toNat := by
  cases a
  · exact Nat.zero_le _
  · rw [h rfl]
    exact Nat.le_refl _
theorem bN_e {a b : Bool} (h : a.toNat = b.toNat) : a = b := by
  cases a <;> cases b <;> first | rfl | exact absurd h (by decide)
theorem bN_1 (a : Bool) : a.toNat ≤ 1 := by cases a <;> decide
theorem rCt_lt {x y : Int32} (h : ∀ b, b < 32 → bT x b = true → bT y b = true) (hy : ∀ b, b < 32 → bT y b = true → b < 7) (hn : ¬ x = y) : rCt x + 1 ≤ rCt y := by
  have l : ∀ b, b < 32 → (bT x b).toNat ≤ (bT y b).toNat := fun b hb => bN_le (h b hb)
  have l0 := l 0 (by decide)
  have l1 := l 1 (by decide)
  have l2 := l 2 (by decide)
  have l3 := l 3 (by decide)
  have l4 := l 4 (by decide)
  have l5 := l 5 (by decide)
  have l6 := l 6 (by decide)
  by_cases q : rCt x + 1 ≤ rCt y
  · exact q
  · exfalso
    unfold rCt at q
    refine hn (bT_x (fun b hb => ?_))
    by_cases z : b < 7
    · rcases (show b = 0 ∨ b = 1 ∨ b = 2 ∨ b = 3 ∨ b = 4 ∨ b = 5 ∨ b = 6 by omega) with e | e | e | e | e | e | e <;> rw [e] <;> exact bN_e (by omega)
    · have a : bT y b = false := by
        cases e : bT y b with
        | false => rfl
        | true => exact absurd (hy b hb e) z
      have d : bT x b = false := by
        cases e : bT x b with
        | false => rfl
        | true => exact absurd ((h b hb e).symm.trans a) (by decide)
      rw [a, d]
theorem rCt_7 (x : Int32) : rCt x ≤ 7 := by
  have := bN_1 (bT x 0)
  have := bN_1 (bT x 1)
  have := bN_1 (bT x 2)
  have := bN_1 (bT x 3)
  have := bN_1 (bT x 4)
  have := bN_1 (bT x 5)
  have := bN_1 (bT x 6)
  unfold rCt
  omega
/-- nothing more is come to behind six roads -/
theorem rSn_67 {W L : Nat → Int32} {m : Nat} (hO : rOk W L m) {v : Int32} (hv : ∀ b, b < 32 → bT v b = true → b < m) (h1 : 1 ≤ rCt v) : rSn W L m v 7 = rSn W L m v 6 := by
  have h7 := hO.1
  have fix : ∀ k, rSn W L m v (k + 1) = rSn W L m v k → ∀ n, rSn W L m v (k + n) = rSn W L m v k := by
    intro k e n
    induction n with
    | zero => rfl
    | succ n ih =>
      show rC W L (rSn W L m v (k + n)) m = _
      rw [ih]
      exact e
  by_cases q : ∃ k, k ≤ 6 ∧ rSn W L m v (k + 1) = rSn W L m v k
  · obtain ⟨k, a, e⟩ := q
    have e6 := fix k e (6 - k)
    have e7 := fix k e (7 - k)
    rw [show k + (6 - k) = 6 by omega] at e6
    rw [show k + (7 - k) = 7 by omega] at e7
    rw [e6, e7]
  · exfalso
    have g : ∀ n, n ≤ 7 → n + 1 ≤ rCt (rSn W L m v n) := by
      intro n
      induction n with
      | zero => intro _; exact h1
      | succ n ih =>
        intro hn
        have a := ih (by omega)
        have b := rCt_lt (x := rSn W L m v n) (y := rSn W L m v (n + 1)) (fun b hb h => rSn_m hO hb n h) (fun b hb h => by have := rSn_hi hO hv (n + 1) b hb h; omega) (fun e => q ⟨n, by omega, e.symm⟩)
        omega
    have a := g 7 (by decide)
    have b := rCt_7 (rSn W L m v 7)
    omega
theorem rS0 {a : Nat} (ha : a < 7) {m : Nat} (hm : a < m) : (∀ b, b < 32 → bT (1 <<< (nI a &&& 31)) b = true → b < m) ∧ 1 ≤ rCt (1 <<< (nI a &&& 31)) := by
  constructor
  · intro b hb h
    rw [bT_s0 a ha b hb, decide_eq_true_eq] at h
    omega
  · have t : bT (1 <<< (nI a &&& 31)) a = true := by
      rw [bT_s0 a ha a (by omega), decide_eq_true_eq]
    have t2 : (bT (1 <<< (nI a &&& 31)) a).toNat = 1 := by
      rw [t]
      rfl
    unfold rCt
    rcases (show a = 0 ∨ a = 1 ∨ a = 2 ∨ a = 3 ∨ a = 4 ∨ a = 5 ∨ a = 6 by omega) with e | e | e | e | e | e | e <;> rw [e] at t2 ⊢ <;> omega
/-! the first one -/
def rFs (p : Nat → Bool) : Nat → Nat → Int32
  | _, 0 => -1
  | i, k + 1 => if p i = true then nI i else rFs p (i + 1) k
theorem rFs_y {p : Nat → Bool} : ∀ (k i j : Nat), i ≤ j → j < i + k → (∀ t, i ≤ t → t < j → p t = false) → p j = true → rFs p i k = nI j
  | 0, i, j, a, b, _, _ => absurd b (by omega)
  | k + 1, i, j, a, b, h, hj => by
    by_cases e : i = j
    · rw [e]
      exact if_pos hj
    · have q : rFs p i (k + 1) = rFs p (i + 1) k := if_neg (by rw [h i (Nat.le_refl _) (by omega)]; decide)
      rw [q]
      exact rFs_y k (i + 1) j (by omega) (by omega) (fun t a b => h t (by omega) b) hj
theorem rFs_n {p : Nat → Bool} : ∀ (k i : Nat), (∀ t, i ≤ t → t < i + k → p t = false) → rFs p i k = -1
  | 0, i, _ => rfl
  | k + 1, i, h => by
    have q : rFs p i (k + 1) = rFs p (i + 1) k := if_neg (by rw [h i (Nat.le_refl _) (by omega)]; decide)
    rw [q]
    exact rFs_n k (i + 1) (fun t a b => h t (by omega) (by omega))
theorem rFs_c {p : Nat → Bool} (k : Nat) : (rFs p 0 k = -1 ∧ ∀ t, t < k → p t = false) ∨ ∃ j, j < k ∧ p j = true ∧ (∀ t, t < j → p t = false) ∧ rFs p 0 k = nI j := by
  by_cases q : ∃ j, j < k ∧ p j = true
  · obtain ⟨j, ⟨a, b⟩, l⟩ := pk_least (fun j => j < k ∧ p j = true) q
    have f : ∀ t, t < j → p t = false := fun t ht => by
      cases e : p t with
      | false => rfl
      | true => exact absurd ⟨by omega, e⟩ (l t ht)
    exact Or.inr ⟨j, a, b, f, rFs_y k 0 j (Nat.zero_le _) (by omega) (fun t _ ht => f t ht) b⟩
  · have f : ∀ t, t < k → p t = false := fun t ht => by
      cases e : p t with
      | false => rfl
      | true => exact absurd ⟨t, ht, e⟩ q
    exact Or.inl ⟨rFs_n k 0 (fun t _ ht => f t (by omega)), f⟩
/-- one more is looked at, where what holds goes on holding -/
theorem rFs_s {p : Nat → Bool} {n : Nat} (hp : ∀ t, t < n → p t = true → p (t + 1) = true) : (p n = false → rFs p 0 (n + 1) = rFs p 0 n) ∧ (∀ k, n = k + 1 → p k = true → rFs p 0 (n + 1) = rFs p 0 n) ∧ (∀ k, n = k + 1 → p k = false → p n = true → rFs p 0 (n + 1) = nI n) := by
  have up : ∀ j t, j ≤ t → t ≤ n → p j = true → p t = true := by
    intro j t
    induction t with
    | zero => intro a _ h; rw [show j = 0 by omega] at h; exact h
    | succ t ih =>
      intro a b h
      by_cases e : j = t + 1
      · rw [← e]; exact h
      · exact hp t (by omega) (ih (by omega) (by omega) h)
  refine ⟨fun h => ?_, fun k e h => ?_, fun k e h h2 => ?_⟩
  · rcases rFs_c (p := p) n with ⟨a, b⟩ | ⟨j, a, b, c, d⟩
    · rw [a]
      exact rFs_n _ _ (fun t _ ht => by
        by_cases z : t = n
        · rw [z]; exact h
        · exact b t (by omega))
    · rw [d]
      exact rFs_y _ _ _ (Nat.zero_le _) (by omega) (fun t _ ht => c t ht) b
  · rcases rFs_c (p := p) n with ⟨a, b⟩ | ⟨j, a, b, c, d⟩
    · exact absurd ((b k (by omega)).symm.trans h) (by decide)
    · rw [d]
      exact rFs_y _ _ _ (Nat.zero_le _) (by omega) (fun t _ ht => c t ht) b
  · refine rFs_y _ _ _ (Nat.zero_le _) (by omega) (fun t _ ht => ?_) h2
    cases z : p t with
    | false => rfl
    | true => exact absurd ((up t k (by omega) (by omega) z).symm.trans h) (by decide)
/-- how far it is -/
def rFar (W L : Nat → Int32) (m a b : Nat) : Int32 := rFs (fun n => bT (rSn W L m (1 <<< (nI a &&& 31)) n) b) 0 7
theorem nIm1' {n : Nat} (h : n < 2147483648) : ¬ nI n = -1 := fun q => by
  have e := congrArg Int32.toInt q
  rw [nI_toInt h] at e
  have : (-1 : Int32).toInt = -1 := rfl
  omega
/-- far from nowhere: not come to -/
theorem rFar_n {W L : Nat → Int32} {m a b : Nat} (hO : rOk W L m) (ha : a < m) (hb : b < 32) : rFar W L m a b = -1 ↔ bT (rSn W L m (1 <<< (nI a &&& 31)) 7) b = false := by
  have h7 := hO.1
  have z := rS0 (a := a) (by omega) ha
  have e := rSn_67 hO z.1 z.2
  unfold rFar
  rcases rFs_c (p := fun n => bT (rSn W L m (1 <<< (nI a &&& 31)) n) b) 7 with ⟨u, v⟩ | ⟨j, u, v, w, x⟩
  · rw [u, e]
    exact ⟨fun _ => v 6 (by decide), fun _ => rfl⟩
  · rw [x]
    have t := rSn_mm hO hb (n := j) v 7 (by omega)
    rw [t]
    exact ⟨fun q => absurd q (nIm1' (by omega)), fun q => absurd q (by decide)⟩
/-! two tellings of the same roads -/
theorem rR_cg {L L' : Nat → Int32} {c : Nat} : ∀ n v, (∀ r, r < n → L (4 * c + r) = L' (4 * c + r)) → rR L c n v = rR L' c n v
  | 0, _, _ => rfl
  | n + 1, v, h => by
    show rR L c n v ||| _ = rR L' c n v ||| _
    rw [rR_cg n v (fun r hr => h r (by omega)), h n (by omega)]
theorem rC_cg {W V L L' : Nat → Int32} (hW : ∀ j, j < 7 → W j = V j) (hL : zLs W L L') (h4 : ∀ j, j < 7 → (W j).toInt ≤ 4) {v : Int32} : ∀ n, n ≤ 7 → rC W L v n = rC V L' v n
  | 0, _ => rfl
  | n + 1, hn => by
    have ih := rC_cg hW hL h4 (v := v) n (by omega)
    have w4 := h4 n (by omega)
    unfold rC
    rw [ih, hW n (by omega), rR_cg (L := L) (L' := L') (c := n) _ _ (fun r hr => hL n r (by omega) (by rw [← hW n (by omega)] at hr; omega) (by rw [← hW n (by omega)] at hr; omega))]
theorem rSn_cg {W V L L' : Nat → Int32} (hW : ∀ j, j < 7 → W j = V j) (hL : zLs W L L') (h4 : ∀ j, j < 7 → (W j).toInt ≤ 4) {m : Nat} (hm : m ≤ 7) {v : Int32} : ∀ n, rSn W L m v n = rSn V L' m v n
  | 0 => rfl
  | n + 1 => by
    show rC W L (rSn W L m v n) m = rC V L' (rSn V L' m v n) m
    rw [rSn_cg hW hL h4 hm n, rC_cg hW hL h4 m hm]
theorem nI_n9 {n : Nat} (h : n < 2147483648) : (nI n).toInt.toNat = n := by
  rw [nI_toInt h]
  rfl
/-! the class's roads are such -/
theorem zTarget_e {cr inn : Int32} {k1 k2 k3 : Nat → Int32} (hI : zLI cr k1 k3) {c r : Nat} (hc : c < 7) (h : (r : Int) < (zWays cr inn k1 (nI c)).toInt) : zTarget cr k1 k2 (nI c) (nI r) = k2 (4 * c + r) := by
  have z0 : (0 : Int32).toInt = 0 := rfl
  have z : ¬ zWays cr inn k1 (nI c) = 0 := fun q => by rw [q, z0] at h; omega
  obtain ⟨c0, c1, c2, c3, c4⟩ := zWays_in z
  have w4 := zWays_le (inn := inn) hI (nI c)
  have tc := nI_toInt (n := c) (by omega)
  have tr := nI_toInt (n := r) (by omega)
  have kc := nI_clamp (n := c) (by omega)
  have kr := nI_clamp (n := r) (by omega)
  have h2 : (r : Int) < (k1 c).toInt := by
    rw [c4, kc] at h
    exact h
  unfold zTarget
  rw [if_pos ⟨c0, c1, c2, by omega, by rw [kc, tr]; exact h2, by omega⟩, kc, kr]
theorem rk_R {cr inn : Int32} {k1 k2 k3 : Nat → Int32} (hI : zLI cr k1 k3) {c : Nat} (hc : c < 7) {v : Int32} : ∀ n : Nat, (n : Int) ≤ (zWays cr inn k1 (nI c)).toInt → zSprR cr k1 k2 (nI c) n v = rR k2 c n v
  | 0, _ => rfl
  | n + 1, h => by
    show zSprR cr k1 k2 (nI c) n v ||| (1 <<< (zTarget cr k1 k2 (nI c) (nI n) &&& 31)) = rR k2 c n v ||| (1 <<< (k2 (4 * c + n) &&& 31))
    rw [rk_R (inn := inn) hI hc n (by omega), zTarget_e (inn := inn) hI hc (by omega)]
theorem rk_C {cr inn : Int32} {k1 k2 k3 : Nat → Int32} (hI : zLI cr k1 k3) {b : Int32} : ∀ n, n ≤ 7 → zSprC cr inn k1 k2 b n = rC (kW cr inn k1) k2 b n
  | 0, _ => rfl
  | n + 1, hn => by
    have w := zWays_le (inn := inn) hI (nI n)
    show (if zBit b (nI n) = 0 then zSprC cr inn k1 k2 b n else zSprR cr k1 k2 (nI n) (zWays cr inn k1 (nI n)).toInt.toNat (zSprC cr inn k1 k2 b n)) = (if zBit b (nI n) = 0 then rC (kW cr inn k1) k2 b n else rR k2 n (zWays cr inn k1 (nI n)).toInt.toNat (rC (kW cr inn k1) k2 b n))
    rw [rk_C hI n (by omega), rk_R (inn := inn) hI (by omega) _ (by omega)]
theorem zSpread_e {cr inn : Int32} {k1 k2 k3 : Nat → Int32} (hI : zLI cr k1 k3) {v : Int32} : zSpread cr inn k1 k2 v = rC (kW cr inn k1) k2 v cr.toInt.toNat := rk_C hI _ (by have := hI.1; omega)
theorem zSeen_e {cr inn : Int32} {k1 k2 k3 : Nat → Int32} (hI : zLI cr k1 k3) {v : Int32} : ∀ n, zSeen cr inn k1 k2 v n = rSn (kW cr inn k1) k2 cr.toInt.toNat v n
  | 0 => rfl
  | n + 1 => by
    show zSpread cr inn k1 k2 (zSeen cr inn k1 k2 v n) = rC (kW cr inn k1) k2 (rSn (kW cr inn k1) k2 cr.toInt.toNat v n) cr.toInt.toNat
    rw [zSeen_e hI n, zSpread_e hI]
theorem kOk {cr inn : Int32} {k1 k2 k3 : Nat → Int32} (hI : zLI cr k1 k3) (hq : zLq cr k1 k2) : rOk (kW cr inn k1) k2 cr.toInt.toNat := by
  have h7 := hI.1
  have z0 : (0 : Int32).toInt = 0 := rfl
  refine ⟨by omega, fun c hc => zWays_le (inn := inn) hI (nI c), fun c r hc hr => ?_⟩
  have hr : (r : Int) < (zWays cr inn k1 (nI c)).toInt := hr
  have w := zWays_le (inn := inn) hI (nI c)
  have z : ¬ zWays cr inn k1 (nI c) = 0 := fun q => by rw [q, z0] at hr; omega
  obtain ⟨_, _, _, _, c4⟩ := zWays_in z
  have kc := nI_clamp (n := c) (by omega)
  rw [c4, kc] at hr w
  have t := hq c r hc (by omega) hr
  omega
theorem qOk {f : Nat → Int32} {z cr n : Int32} (hL : zML f z cr) (hV : zVR (fun j => f (z.toInt.toNat + j))) : rOk (zWo f z n) (zLo f z) cr.toInt.toNat := by
  have hcr := hL.cr
  have z0 : (0 : Int32).toInt = 0 := rfl
  refine ⟨by omega, fun c hc => ?_, fun c r hc hr => ?_⟩
  · have q : 0 ≤ (zRo f z c).toInt ∧ (zRo f z c).toInt ≤ 4 := (hL.2.2.2.1 c hc).1
    unfold zWo
    split
    · exact ⟨by decide, by decide⟩
    · exact q
  · have q : 0 ≤ (zRo f z c).toInt ∧ (zRo f z c).toInt ≤ 4 := (hL.2.2.2.1 c hc).1
    have e : zWo f z n c = zRo f z c := by
      unfold zWo
      by_cases g : zBit n (nI c) = 1
      · have e0 : zWo f z n c = 0 := if_pos g
        rw [e0, z0] at hr
        omega
      · exact if_neg g
    rw [e] at hr
    have b : 0 ≤ (f (z.toInt.toNat + (23 + (4 * c + r)))).toInt := (hL.2.2.2.2 (4 * c + r) (by omega)).1
    have v : (f (z.toInt.toNat + (23 + 4 * c + r))).toInt < (f (z.toInt.toNat + 0)).toInt := (hV c hc).2.2 r (by omega) hr
    rw [show 23 + 4 * c + r = 23 + (4 * c + r) by omega] at v
    have e2 : cr.toInt = (f (z.toInt.toNat + 0)).toInt := congrArg Int32.toInt hL.2.1
    show 0 ≤ (f (z.toInt.toNat + (23 + (4 * c + r)))).toInt ∧ (f (z.toInt.toNat + (23 + (4 * c + r)))).toInt < ((cr.toInt.toNat : Nat) : Int)
    omega
/-! bits set one by one -/
def rOb (P : Nat → Prop) (i : Nat) (u : Int32) : Prop := ∀ b, b < 32 → (bT u b = true ↔ b < i ∧ P b)
theorem rOb_0 {P : Nat → Prop} : rOb P 0 0 := fun b hb => by
  rw [bT_0 b hb]
  exact ⟨fun q => absurd q (by decide), fun q => absurd q.1 (by omega)⟩
theorem rOb_y {P : Nat → Prop} {i : Nat} {u : Int32} (hi : i < 7) (h : rOb P i u) (hP : P i) : rOb P (i + 1) (u ||| (1 <<< (nI i &&& 31))) := fun b hb => by
  rw [bT_or, Bool.or_eq_true, h b hb, bT_s0 i hi b hb, decide_eq_true_eq]
  constructor
  · rintro (⟨q, q2⟩ | q)
    · exact ⟨by omega, q2⟩
    · rw [q]; exact ⟨by omega, hP⟩
  · rintro ⟨q, q2⟩
    by_cases z : b = i
    · exact Or.inr z
    · exact Or.inl ⟨by omega, q2⟩
theorem rOb_k {P : Nat → Prop} {i : Nat} {u : Int32} (h : rOb P i u) (hP : ¬ P i) : rOb P (i + 1) u := fun b hb => by
  rw [h b hb]
  constructor
  · rintro ⟨q, q2⟩
    exact ⟨by omega, q2⟩
  · rintro ⟨q, q2⟩
    by_cases z : b = i
    · rw [z] at q2; exact absurd q2 hP
    · exact ⟨by omega, q2⟩
theorem rOb_n {P : Nat → Prop} {i : Nat} {u : Int32} (h : rOb P i u) (hP : ¬ P i) : rOb P (i + 1) (u ||| 0) := by
  rw [Int32.or_zero]
  exact rOb_k h hP
theorem rOb_u {P Q : Nat → Prop} {i : Nat} {u v : Int32} (h : rOb P i u) (g : rOb Q i v) (e : ∀ b, b < i → (P b ↔ Q b)) : u = v := bT_x (fun b hb => Bool.eq_iff_iff.mpr ((h b hb).trans ⟨fun q => (g b hb).mpr ⟨q.1, (e b q.1).mp q.2⟩, fun q => ⟨((g b hb).mp q).1, (e b ((g b hb).mp q).1).mpr ((g b hb).mp q).2⟩⟩))
theorem zLnd_7 {cr inn z : Int32} {k1 k2 k3 k4 f : Nat → Int32} {B : Nat} (h : zLnd cr inn k1 k2 k3 k4 (fun j => f (B + j))) : 0 ≤ cr.toInt ∧ cr.toInt ≤ 7 := by
  obtain ⟨ha, hab, -⟩ := h
  have ha : cr = f (B + 0) := ha
  have hab : 0 ≤ (f (B + 0)).toInt ∧ (f (B + 0)).toInt ≤ 7 := hab
  rw [ha]
  exact hab
theorem zLe_o {f : Nat → Int32} {z : Int32} {c k : Nat} (hc : c < 7) (hk : k < 1000) : zLe f z (nI c) (nI k) = zLo f z (4 * c + k) := by
  unfold zLe zLo
  rw [nI_n9 (by omega), nI_n9 (by omega)]
theorem rM_y {W L : Nat → Int32} {met mo lead : Int32} {kc kk : Nat} (h : zBit met (nI kc) = 1) (hm : mo = if zBit met (nI kc) = 0 then rC W L met kc else rR L kc kk (rC W L met kc)) (hl : lead = L (4 * kc + kk)) : mo ||| (1 <<< (lead &&& 31)) = if zBit met (nI kc) = 0 then rC W L met kc else rR L kc (kk + 1) (rC W L met kc) := by
  have n0 := zBit_o h
  rw [if_neg n0] at hm ⊢
  rw [hm, hl]
  rfl
theorem rM_n {W L : Nat → Int32} {met mo : Int32} {kc kk : Nat} (h : ¬ zBit met (nI kc) = 1) (hm : mo = if zBit met (nI kc) = 0 then rC W L met kc else rR L kc kk (rC W L met kc)) : mo ||| 0 = if zBit met (nI kc) = 0 then rC W L met kc else rR L kc (kk + 1) (rC W L met kc) := by
  have n0 := zBit_n h
  rw [if_pos n0] at hm ⊢
  rw [hm, Int32.or_zero]
theorem rM_e {W L : Nat → Int32} {met mo : Int32} {kc kk : Nat} (hm : mo = if zBit met (nI kc) = 0 then rC W L met kc else rR L kc kk (rC W L met kc)) (hk : kk = (W kc).toInt.toNat) : mo = rC W L met (kc + 1) := by
  rw [hm, hk]
  rfl
theorem rF_i {y : Nat → Int32} {a kb : Nat} {v : Int32} (h : ∀ b, b < kb → y (7 * a + b) = if a = b then 0 else -1) (hv : v = if a = kb then 0 else -1) : ∀ b, b < kb + 1 → upd y (7 * a + kb) v (7 * a + b) = if a = b then 0 else -1 := by
  intro b hb
  by_cases q : b = kb
  · rw [q, z_eq rfl]
    exact hv
  · rw [z_ne (by omega)]
    exact h b (by omega)
theorem rF_0 {W L y : Nat → Int32} {m a : Nat} (ha : a < 7) (h : ∀ b, b < 7 → y (7 * a + b) = if a = b then 0 else -1) : ∀ b, b < 7 → y (7 * a + b) = rFs (fun n => bT (rSn W L m (1 <<< (nI a &&& 31)) n) b) 0 1 := by
  intro b hb
  have e : bT (1 <<< (nI a &&& 31)) b = decide (b = a) := bT_s0 a ha b (by omega)
  have q : rFs (fun n => bT (rSn W L m (1 <<< (nI a &&& 31)) n) b) 0 1 = if bT (1 <<< (nI a &&& 31)) b = true then nI 0 else -1 := rfl
  rw [h b hb, q, e]
  by_cases z : a = b
  · rw [if_pos z, if_pos (by rw [z]; exact decide_eq_true rfl)]
    rfl
  · rw [if_neg z, if_neg (by rw [decide_eq_true_eq]; omega)]
theorem rSn_p {W L : Nat → Int32} {m kn : Nat} {v : Int32} (h : 1 ≤ kn) : rC W L (rSn W L m v (kn - 1)) m = rSn W L m v kn := by
  obtain ⟨k, rfl⟩ : ∃ k, kn = k + 1 := ⟨kn - 1, by omega⟩
  rfl
theorem rB_b {mo met : Int32} {b : Nat} (hb : b < 32) : bT (mo &&& (met ^^^ (-1))) b = (bT mo b && !bT met b) := by
  rw [bT_and, bT_not _ hb]
theorem rB_y {W L : Nat → Int32} {m kn kd : Nat} {v mo met : Int32} (hO : rOk W L m) (hkn : 1 ≤ kn) (hmo : mo = rSn W L m v kn) (hme : met = rSn W L m v (kn - 1)) (hb : kd < 32) (h : zBit (mo &&& (met ^^^ (-1))) (nI kd) = 1) : rFs (fun n => bT (rSn W L m v n) kd) 0 (kn + 1) = nI kn := by
  have q := bT_1 hb h
  rw [rB_b hb, Bool.and_eq_true, Bool.not_eq_true', hmo, hme] at q
  exact (rFs_s (p := fun n => bT (rSn W L m v n) kd) (fun t _ ht => rSn_m hO hb t ht)).2.2 (kn - 1) (by omega) q.2 q.1
theorem rB_n {W L : Nat → Int32} {m kn kd : Nat} {v mo met : Int32} (hO : rOk W L m) (hkn : 1 ≤ kn) (hmo : mo = rSn W L m v kn) (hme : met = rSn W L m v (kn - 1)) (hb : kd < 32) (h : ¬ zBit (mo &&& (met ^^^ (-1))) (nI kd) = 1) : rFs (fun n => bT (rSn W L m v n) kd) 0 (kn + 1) = rFs (fun n => bT (rSn W L m v n) kd) 0 kn := by
  have q := bT_n1 hb h
  have s := rFs_s (p := fun n => bT (rSn W L m v n) kd) (n := kn) (fun t _ ht => rSn_m hO hb t ht)
  rw [rB_b hb, hmo, hme] at q
  cases e : bT (rSn W L m v kn) kd with
  | false => exact s.1 e
  | true =>
    rw [e, Bool.true_and] at q
    refine s.2.1 (kn - 1) (by omega) ?_
    show bT (rSn W L m v (kn - 1)) kd = true
    cases e2 : bT (rSn W L m v (kn - 1)) kd with
    | true => rfl
    | false => rw [e2] at q; exact absurd q (by decide)
theorem rB_h {W L : Nat → Int32} {m a kn b : Nat} (hO : rOk W L m) (ha : a < m) (hb : m ≤ b) (hb2 : b < 32) : rFs (fun n => bT (rSn W L m (1 <<< (nI a &&& 31)) n) b) 0 (kn + 1) = rFs (fun n => bT (rSn W L m (1 <<< (nI a &&& 31)) n) b) 0 kn := by
  have m7 := hO.1
  refine (rFs_s (p := fun n => bT (rSn W L m (1 <<< (nI a &&& 31)) n) b) (n := kn) (fun t _ ht => rSn_m hO hb2 t ht)).1 ?_
  show bT (rSn W L m (1 <<< (nI a &&& 31)) kn) b = false
  cases e : bT (rSn W L m (1 <<< (nI a &&& 31)) kn) b with
  | false => rfl
  | true => exact absurd (rSn_hi hO (rS0 (by omega) ha).1 kn b hb2 e) (by omega)
set_option maxHeartbeats 4000000 in
set_option maxRecDepth 100000 in
/-- c_fm_laysFar -/
theorem c_fm_laysFar (l : Launch) (T : zTy) (mo : Nat) (m_all : Nat) (m_has : Nat) (i_size : Int32) (i_next : Int32) (i_where : Int32) (i_token : Int32) (i_number : Int32) (i_word : Int32) (i_wrong : Int32) (i_farCrossing : Int32) (m_read : Nat) (i_z0 : Int32) (i_crossings : Int32) (i_inns : Int32) (m_posts : Nat) (m_shut : Nat) (m_here : Nat) (i_steps : Int32) (i_done : Int32) (i_at : Int32) (i_gone : Int32) (m_was : Nat) (m_came : Nat) (m_seenAt : Nat) (m_rowWorth : Nat) (m_farBy : Nat) (m_used : Nat) (i_everywhere : Int32) (i_again0 : Int32) (i_d0 : Int32) (i_never : Int32) (i_firstCame : Int32) (i_longRun : Int32) (i_moved : Int32) (i_crowd : Int32) (i_l0 : Int32) (i_fitMany : Int32) (i_fitLeast : Int32) (i_fitMost : Int32) (m_fitPost : Nat) (m_fitEnd : Nat) (m_keptPosts : Nat) (i_x0 : Int32) (f_all : Nat → Int32) (f_farBy : Nat → Int32) (hL : zML f_all i_z0 i_crossings) (hVR : zVR (fun j => f_all (i_z0.toInt.toNat + j))) : zMv l T yX12_laysFar cX12_laysFar 7 4 0 0 [.ref mo] [[zO11 mo m_all m_has i_size i_next i_where i_token i_number i_word i_wrong i_farCrossing m_read i_z0 i_crossings i_inns m_posts m_shut m_here i_steps i_done i_at i_gone m_was m_came m_seenAt m_rowWorth m_farBy m_used i_everywhere i_again0 i_d0 i_never i_firstCame i_longRun i_moved i_crowd i_l0 i_fitMany i_fitLeast i_fitMost m_fitPost m_fitEnd m_keptPosts i_x0], [zAr T 0 m_all 3952 f_all], [zAr T 0 m_farBy 49 f_farBy]] (fun bs => ∃ (g_farBy : Nat → Int32), bs = [[zO11 mo m_all m_has i_size i_next i_where i_token i_number i_word i_wrong i_farCrossing m_read i_z0 i_crossings i_inns m_posts m_shut m_here i_steps i_done i_at i_gone m_was m_came m_seenAt m_rowWorth m_farBy m_used i_everywhere i_again0 i_d0 i_never i_firstCame i_longRun i_moved i_crowd i_l0 i_fitMany i_fitLeast i_fitMost m_fitPost m_fitEnd m_keptPosts i_x0], [zAr T 0 m_all 3952 f_all], [zAr T 0 m_farBy 49 g_farBy]] ∧ (∀ a b : Nat, (a : Int) < i_crossings.toInt → b < 7 → g_farBy (7 * a + b) = rFar (zWo f_all i_z0 i_inns) (zLo f_all i_z0) i_crossings.toInt.toNat a b)) := by
  refine zMv_of (own := RX12) (by decide) rfl (Nat.le_of_ble_eq_true rfl) ?_
  intro p e s m args below meth c A ls C hr hlocks hnm hAe G hl
  refine zHide (fun Qz_ hQz_ => ?_)
  have hx := C.1
  have hb := C.2.1
  have hl : lv_has ls 7 [(0, .ref mo)] := hl
  have hz := hL.1
  have hcr := hL.cr
  have hO9 := qOk (n := i_inns) hL hVR
  refine lv_iconst (v := 0) hx hb dX12_laysFar_0 (by decide) ?_
  refine lv_istore_n (lv' := [(1, .int 0), (0, .ref mo)]) hx hb dX12_laysFar_1 rfl hl (by decide) (zLvf_h rfl) (fun ls hl => ?_)
  refine z_lp2 (T := T) 2 (fun (ka : Nat) (xf : Nat → Int32) => [[zO11 mo m_all m_has i_size i_next i_where i_token i_number i_word i_wrong i_farCrossing m_read i_z0 i_crossings i_inns m_posts m_shut m_here i_steps i_done i_at i_gone m_was m_came m_seenAt m_rowWorth m_farBy m_used i_everywhere i_again0 i_d0 i_never i_firstCame i_longRun i_moved i_crowd i_l0 i_fitMany i_fitLeast i_fitMost m_fitPost m_fitEnd m_keptPosts i_x0], [zAr T 0 m_all 3952 f_all], [zAr T 0 m_farBy 49 xf]]) (fun (ka : Nat) (xf : Nat → Int32) => [(1, .int (nI ka)), (0, .ref mo)]) (fun (ka : Nat) (xf : Nat → Int32) => ka ≤ 7 ∧ (∀ a b : Nat, a < ka → (a : Int) < i_crossings.toInt → b < 7 → xf (7 * a + b) = rFar (zWo f_all i_z0 i_inns) (zLo f_all i_z0) i_crossings.toInt.toNat a b)) (fun (ka : Nat) (xf : Nat → Int32) => 7 - ka) ?_ 0 f_farBy (show 0 ≤ 7 ∧ (∀ a b : Nat, a < 0 → (a : Int) < i_crossings.toInt → b < 7 → f_farBy (7 * a + b) = rFar (zWo f_all i_z0 i_inns) (zLo f_all i_z0) i_crossings.toInt.toNat a b) from ⟨by omega, (fun a b h9 _ _ => absurd h9 (by omega))⟩) G (lv_sub hl [0, 1] rfl)
  intro ka xf hI9 ih_2 H locs ls G hl
  replace hI9 : ka ≤ 7 ∧ (∀ a b : Nat, a < ka → (a : Int) < i_crossings.toInt → b < 7 → xf (7 * a + b) = rFar (zWo f_all i_z0 i_inns) (zLo f_all i_z0) i_crossings.toInt.toNat a b) := hI9
  refine zAn2 hI9 ?_
  intro hka9 hF
  clear hI9
  replace G : zS T A s.heap s [[zO11 mo m_all m_has i_size i_next i_where i_token i_number i_word i_wrong i_farCrossing m_read i_z0 i_crossings i_inns m_posts m_shut m_here i_steps i_done i_at i_gone m_was m_came m_seenAt m_rowWorth m_farBy m_used i_everywhere i_again0 i_d0 i_never i_firstCame i_longRun i_moved i_crowd i_l0 i_fitMany i_fitLeast i_fitMost m_fitPost m_fitEnd m_keptPosts i_x0], [zAr T 0 m_all 3952 f_all], [zAr T 0 m_farBy 49 xf]] _ _ := G
  replace hl : lv_has ls 7 [(1, .int (nI ka)), (0, .ref mo)] := hl
  refine lv_iload_n hx hb dX12_laysFar_2 rfl (lv_at hl 0 rfl) ?_
  refine lv_bipush (v := 7) hx hb dX12_laysFar_3 (by decide) ?_
  refine lv_icmp_ge (tgt := 194) hx hb dX12_laysFar_5 (by decide) (fun c_1 => ?_) (fun c_1 => ?_)
  · have c_1n : 7 ≤ ka := (nI_leI (a := 7) (b := ka) (by omega) (by omega)).mp c_1
    exact z_back hQz_ (z_vret C hr hlocks G (Nat.le_of_ble_eq_true rfl) (Nat.le_of_ble_eq_true rfl) dX12_laysFar_194 ⟨xf, rfl, (fun a b h2 h3 => hF a b (by omega) h2 h3)⟩)
  · have c_1n : ¬ 7 ≤ ka := fun q => c_1 ((nI_leI (a := 7) (b := ka) (by omega) (by omega)).mpr q)
    refine lv_iconst (v := 0) hx hb dX12_laysFar_8 (by decide) ?_
    refine lv_istore_n (lv' := [(2, .int 0), (1, .int (nI ka)), (0, .ref mo)]) hx hb dX12_laysFar_9 rfl hl (by decide) (zLvf_h rfl) (fun ls hl => ?_)
    refine z_lp2 (T := T) 10 (fun (kb : Nat) (yf : Nat → Int32) => [[zO11 mo m_all m_has i_size i_next i_where i_token i_number i_word i_wrong i_farCrossing m_read i_z0 i_crossings i_inns m_posts m_shut m_here i_steps i_done i_at i_gone m_was m_came m_seenAt m_rowWorth m_farBy m_used i_everywhere i_again0 i_d0 i_never i_firstCame i_longRun i_moved i_crowd i_l0 i_fitMany i_fitLeast i_fitMost m_fitPost m_fitEnd m_keptPosts i_x0], [zAr T 0 m_all 3952 f_all], [zAr T 0 m_farBy 49 yf]]) (fun (kb : Nat) (yf : Nat → Int32) => [(2, .int (nI kb)), (1, .int (nI ka)), (0, .ref mo)]) (fun (kb : Nat) (yf : Nat → Int32) => kb ≤ 7 ∧ (∀ a b : Nat, a < ka → (a : Int) < i_crossings.toInt → b < 7 → yf (7 * a + b) = rFar (zWo f_all i_z0 i_inns) (zLo f_all i_z0) i_crossings.toInt.toNat a b) ∧ (∀ b, b < kb → yf (7 * ka + b) = if ka = b then 0 else -1)) (fun (kb : Nat) (yf : Nat → Int32) => 7 - kb) ?_ 0 xf (show 0 ≤ 7 ∧ (∀ a b : Nat, a < ka → (a : Int) < i_crossings.toInt → b < 7 → xf (7 * a + b) = rFar (zWo f_all i_z0 i_inns) (zLo f_all i_z0) i_crossings.toInt.toNat a b) ∧ (∀ b, b < 0 → xf (7 * ka + b) = if ka = b then 0 else -1) from ⟨by omega, hF, (fun b h9 => absurd h9 (by omega))⟩) G (lv_sub hl [0, 1, 2] rfl)
    intro kb yf hI9 ih_10 H locs ls G hl
    replace hI9 : kb ≤ 7 ∧ (∀ a b : Nat, a < ka → (a : Int) < i_crossings.toInt → b < 7 → yf (7 * a + b) = rFar (zWo f_all i_z0 i_inns) (zLo f_all i_z0) i_crossings.toInt.toNat a b) ∧ (∀ b, b < kb → yf (7 * ka + b) = if ka = b then 0 else -1) := hI9
    refine zAn3 hI9 ?_
    intro hkb9 hG hk
    clear hI9
    replace G : zS T A s.heap s [[zO11 mo m_all m_has i_size i_next i_where i_token i_number i_word i_wrong i_farCrossing m_read i_z0 i_crossings i_inns m_posts m_shut m_here i_steps i_done i_at i_gone m_was m_came m_seenAt m_rowWorth m_farBy m_used i_everywhere i_again0 i_d0 i_never i_firstCame i_longRun i_moved i_crowd i_l0 i_fitMany i_fitLeast i_fitMost m_fitPost m_fitEnd m_keptPosts i_x0], [zAr T 0 m_all 3952 f_all], [zAr T 0 m_farBy 49 yf]] _ _ := G
    replace hl : lv_has ls 7 [(2, .int (nI kb)), (1, .int (nI ka)), (0, .ref mo)] := hl
    refine lv_iload_n hx hb dX12_laysFar_10 rfl (lv_at hl 0 rfl) ?_
    refine lv_bipush (v := 7) hx hb dX12_laysFar_11 (by decide) ?_
    refine lv_icmp_ge (tgt := 43) hx hb dX12_laysFar_13 (by decide) (fun c_2 => ?_) (fun c_2 => ?_)
    · have c_2n : 7 ≤ kb := (nI_leI (a := 7) (b := kb) (by omega) (by omega)).mp c_2
      refine lv_iconst (v := 1) hx hb dX12_laysFar_43 (by decide) ?_
      refine lv_iload_n hx hb dX12_laysFar_44 rfl (lv_at hl 1 rfl) ?_
      refine lv_ishl hx hb dX12_laysFar_45 ?_
      refine lv_istore_n (lv' := [(2, .int (1 <<< ((nI ka) &&& 31))), (1, .int (nI ka)), (0, .ref mo)]) hx hb dX12_laysFar_46 rfl hl (by decide) (zLvf_h rfl) (fun ls hl => ?_)
      refine lv_iconst (v := 1) hx hb dX12_laysFar_47 (by decide) ?_
      refine lv_istore_n (lv' := [(3, .int 1), (2, .int (1 <<< ((nI ka) &&& 31))), (1, .int (nI ka)), (0, .ref mo)]) hx hb dX12_laysFar_48 rfl hl (by decide) (zLvf_h rfl) (fun ls hl => ?_)
      refine z_lp3 (T := T) 49 (fun (kn : Nat) (met : Int32) (zf : Nat → Int32) => [[zO11 mo m_all m_has i_size i_next i_where i_token i_number i_word i_wrong i_farCrossing m_read i_z0 i_crossings i_inns m_posts m_shut m_here i_steps i_done i_at i_gone m_was m_came m_seenAt m_rowWorth m_farBy m_used i_everywhere i_again0 i_d0 i_never i_firstCame i_longRun i_moved i_crowd i_l0 i_fitMany i_fitLeast i_fitMost m_fitPost m_fitEnd m_keptPosts i_x0], [zAr T 0 m_all 3952 f_all], [zAr T 0 m_farBy 49 zf]]) (fun (kn : Nat) (met : Int32) (zf : Nat → Int32) => [(3, .int (nI kn)), (2, .int met), (1, .int (nI ka)), (0, .ref mo)]) (fun (kn : Nat) (met : Int32) (zf : Nat → Int32) => kn ≤ 7 ∧ 1 ≤ kn ∧ (∀ a b : Nat, a < ka → (a : Int) < i_crossings.toInt → b < 7 → zf (7 * a + b) = rFar (zWo f_all i_z0 i_inns) (zLo f_all i_z0) i_crossings.toInt.toNat a b) ∧ (∀ b, b < 7 → zf (7 * ka + b) = rFs (fun n => bT (rSn (zWo f_all i_z0 i_inns) (zLo f_all i_z0) i_crossings.toInt.toNat (1 <<< (nI ka &&& 31)) n) b) 0 kn) ∧ met = rSn (zWo f_all i_z0 i_inns) (zLo f_all i_z0) i_crossings.toInt.toNat (1 <<< (nI ka &&& 31)) (kn - 1)) (fun (kn : Nat) (met : Int32) (zf : Nat → Int32) => 7 - kn) ?_ 1 (1 <<< ((nI ka) &&& 31)) yf (show 1 ≤ 7 ∧ 1 ≤ 1 ∧ (∀ a b : Nat, a < ka → (a : Int) < i_crossings.toInt → b < 7 → yf (7 * a + b) = rFar (zWo f_all i_z0 i_inns) (zLo f_all i_z0) i_crossings.toInt.toNat a b) ∧ (∀ b, b < 7 → yf (7 * ka + b) = rFs (fun n => bT (rSn (zWo f_all i_z0 i_inns) (zLo f_all i_z0) i_crossings.toInt.toNat (1 <<< (nI ka &&& 31)) n) b) 0 1) ∧ (1 <<< ((nI ka) &&& 31)) = rSn (zWo f_all i_z0 i_inns) (zLo f_all i_z0) i_crossings.toInt.toNat (1 <<< (nI ka &&& 31)) (1 - 1) from ⟨by omega, by omega, hG, (rF_0 (by omega) (fun b h9 => hk b (by omega))), rfl⟩) G (lv_sub hl [0, 1, 2, 3] rfl)
      intro kn met zf hI9 ih_49 H locs ls G hl
      replace hI9 : kn ≤ 7 ∧ 1 ≤ kn ∧ (∀ a b : Nat, a < ka → (a : Int) < i_crossings.toInt → b < 7 → zf (7 * a + b) = rFar (zWo f_all i_z0 i_inns) (zLo f_all i_z0) i_crossings.toInt.toNat a b) ∧ (∀ b, b < 7 → zf (7 * ka + b) = rFs (fun n => bT (rSn (zWo f_all i_z0 i_inns) (zLo f_all i_z0) i_crossings.toInt.toNat (1 <<< (nI ka &&& 31)) n) b) 0 kn) ∧ met = rSn (zWo f_all i_z0 i_inns) (zLo f_all i_z0) i_crossings.toInt.toNat (1 <<< (nI ka &&& 31)) (kn - 1) := hI9
      refine zAn5 hI9 ?_
      intro hkn9 hkn1 hG2 hR hmet
      clear hI9
      replace G : zS T A s.heap s [[zO11 mo m_all m_has i_size i_next i_where i_token i_number i_word i_wrong i_farCrossing m_read i_z0 i_crossings i_inns m_posts m_shut m_here i_steps i_done i_at i_gone m_was m_came m_seenAt m_rowWorth m_farBy m_used i_everywhere i_again0 i_d0 i_never i_firstCame i_longRun i_moved i_crowd i_l0 i_fitMany i_fitLeast i_fitMost m_fitPost m_fitEnd m_keptPosts i_x0], [zAr T 0 m_all 3952 f_all], [zAr T 0 m_farBy 49 zf]] _ _ := G
      replace hl : lv_has ls 7 [(3, .int (nI kn)), (2, .int met), (1, .int (nI ka)), (0, .ref mo)] := hl
      refine lv_iload_n hx hb dX12_laysFar_49 rfl (lv_at hl 0 rfl) ?_
      refine lv_bipush (v := 7) hx hb dX12_laysFar_50 (by decide) ?_
      refine lv_icmp_ge (tgt := 188) hx hb dX12_laysFar_52 (by decide) (fun c_3 => ?_) (fun c_3 => ?_)
      · have c_3n : 7 ≤ kn := (nI_leI (a := 7) (b := kn) (by omega) (by omega)).mp c_3
        refine lv_iinc (v := nI (ka + 1)) (lv' := [(1, .int (nI (ka + 1))), (3, .int (nI kn)), (2, .int met), (0, .ref mo)]) hx hb dX12_laysFar_188 hl (k := 2) rfl (z_inc ka 1) (by decide) (zLvf_h rfl) (fun ls hl => ?_)
        refine lv_goto (tgt := 2) hx hb dX12_laysFar_191 (by decide) ?_
        exact ih_2 (ka + 1) zf (show (ka + 1) ≤ 7 ∧ (∀ a b : Nat, a < (ka + 1) → (a : Int) < i_crossings.toInt → b < 7 → zf (7 * a + b) = rFar (zWo f_all i_z0 i_inns) (zLo f_all i_z0) i_crossings.toInt.toNat a b) from ⟨by omega, (fun a b h1 h2 h3 => by by_cases q9 : a = ka <;> first | exact hG2 a b (by omega) h2 h3 | (exfalso; omega) | (rw [q9, hR b h3, show kn = 7 by omega]; rfl))⟩) (show 7 - (ka + 1) < 7 - ka from by omega) _ _ ls G (lv_sub hl [0, 3] rfl)
      · have c_3n : ¬ 7 ≤ kn := fun q => c_3 ((nI_leI (a := 7) (b := kn) (by omega) (by omega)).mpr q)
        refine lv_iload_n hx hb dX12_laysFar_55 rfl (lv_at hl 2 rfl) ?_
        refine lv_aload_n hx hb dX12_laysFar_56 rfl (lv_at hl 3 rfl) ?_
        refine z_get C G clX12 0 rfl 12 (by decide) m_fl_RX12_169 rfl dX12_laysFar_57 ?_
        refine lv_icmp_ge (tgt := 188) hx hb dX12_laysFar_60 (by decide) (fun c_4 => ?_) (fun c_4 => ?_)
        · have c_4n : i_crossings.toInt ≤ (ka : Int) := by have q := (fa_le _ _).mp c_4; rw [nI_toInt (n := ka) (by omega)] at q; exact q
          refine lv_iinc (v := nI (ka + 1)) (lv' := [(1, .int (nI (ka + 1))), (3, .int (nI kn)), (2, .int met), (0, .ref mo)]) hx hb dX12_laysFar_188 hl (k := 2) rfl (z_inc ka 1) (by decide) (zLvf_h rfl) (fun ls hl => ?_)
          refine lv_goto (tgt := 2) hx hb dX12_laysFar_191 (by decide) ?_
          exact ih_2 (ka + 1) zf (show (ka + 1) ≤ 7 ∧ (∀ a b : Nat, a < (ka + 1) → (a : Int) < i_crossings.toInt → b < 7 → zf (7 * a + b) = rFar (zWo f_all i_z0 i_inns) (zLo f_all i_z0) i_crossings.toInt.toNat a b) from ⟨by omega, (fun a b h1 h2 h3 => by by_cases q9 : a = ka <;> first | exact hG2 a b (by omega) h2 h3 | (exfalso; omega) | (rw [q9, hR b h3, show kn = 7 by omega]; rfl))⟩) (show 7 - (ka + 1) < 7 - ka from by omega) _ _ ls G (lv_sub hl [0, 3] rfl)
        · have c_4n : ¬ i_crossings.toInt ≤ (ka : Int) := fun q => c_4 ((fa_le _ _).mpr (by rw [nI_toInt (n := ka) (by omega)]; exact q))
          refine lv_iload_n hx hb dX12_laysFar_63 rfl (lv_at hl 1 rfl) ?_
          refine lv_istore (lv' := [(4, .int met), (3, .int (nI kn)), (2, .int met), (1, .int (nI ka)), (0, .ref mo)]) hx hb dX12_laysFar_64 hl (by decide) (zLvf_h rfl) (fun ls hl => ?_)
          refine lv_iconst (v := 0) hx hb dX12_laysFar_66 (by decide) ?_
          refine lv_istore (lv' := [(5, .int 0), (4, .int met), (3, .int (nI kn)), (2, .int met), (1, .int (nI ka)), (0, .ref mo)]) hx hb dX12_laysFar_67 hl (by decide) (zLvf_h rfl) (fun ls hl => ?_)
          refine z_lp2 (T := T) 69 (fun (kc : Nat) (mo1 : Int32) => [[zO11 mo m_all m_has i_size i_next i_where i_token i_number i_word i_wrong i_farCrossing m_read i_z0 i_crossings i_inns m_posts m_shut m_here i_steps i_done i_at i_gone m_was m_came m_seenAt m_rowWorth m_farBy m_used i_everywhere i_again0 i_d0 i_never i_firstCame i_longRun i_moved i_crowd i_l0 i_fitMany i_fitLeast i_fitMost m_fitPost m_fitEnd m_keptPosts i_x0], [zAr T 0 m_all 3952 f_all], [zAr T 0 m_farBy 49 zf]]) (fun (kc : Nat) (mo1 : Int32) => [(5, .int (nI kc)), (4, .int mo1), (3, .int (nI kn)), (2, .int met), (1, .int (nI ka)), (0, .ref mo)]) (fun (kc : Nat) (mo1 : Int32) => kc ≤ 7 ∧ (kc : Int) ≤ i_crossings.toInt ∧ mo1 = rC (zWo f_all i_z0 i_inns) (zLo f_all i_z0) met kc) (fun (kc : Nat) (mo1 : Int32) => 7 - kc) ?_ 0 met (show 0 ≤ 7 ∧ (0 : Int) ≤ i_crossings.toInt ∧ met = rC (zWo f_all i_z0 i_inns) (zLo f_all i_z0) met 0 from ⟨by omega, by omega, rfl⟩) G (lv_sub hl [0, 1, 2, 3, 4, 5] rfl)
          intro kc mo1 hI9 ih_69 H locs ls G hl
          replace hI9 : kc ≤ 7 ∧ (kc : Int) ≤ i_crossings.toInt ∧ mo1 = rC (zWo f_all i_z0 i_inns) (zLo f_all i_z0) met kc := hI9
          refine zAn3 hI9 ?_
          intro hkc9 hkcc hmo
          clear hI9
          replace G : zS T A s.heap s [[zO11 mo m_all m_has i_size i_next i_where i_token i_number i_word i_wrong i_farCrossing m_read i_z0 i_crossings i_inns m_posts m_shut m_here i_steps i_done i_at i_gone m_was m_came m_seenAt m_rowWorth m_farBy m_used i_everywhere i_again0 i_d0 i_never i_firstCame i_longRun i_moved i_crowd i_l0 i_fitMany i_fitLeast i_fitMost m_fitPost m_fitEnd m_keptPosts i_x0], [zAr T 0 m_all 3952 f_all], [zAr T 0 m_farBy 49 zf]] _ _ := G
          replace hl : lv_has ls 7 [(5, .int (nI kc)), (4, .int mo1), (3, .int (nI kn)), (2, .int met), (1, .int (nI ka)), (0, .ref mo)] := hl
          refine lv_iload hx hb dX12_laysFar_69 (lv_at hl 0 rfl) ?_
          refine lv_aload_n hx hb dX12_laysFar_71 rfl (lv_at hl 5 rfl) ?_
          refine z_get C G clX12 0 rfl 12 (by decide) m_fl_RX12_169 rfl dX12_laysFar_72 ?_
          refine lv_icmp_ge (tgt := 133) hx hb dX12_laysFar_75 (by decide) (fun c_5 => ?_) (fun c_5 => ?_)
          · have c_5n : i_crossings.toInt ≤ (kc : Int) := by have q := (fa_le _ _).mp c_5; rw [nI_toInt (n := kc) (by omega)] at q; exact q
            have hmo9 : mo1 = rSn (zWo f_all i_z0 i_inns) (zLo f_all i_z0) i_crossings.toInt.toNat (1 <<< (nI ka &&& 31)) kn := by rw [hmo, hmet, show kc = i_crossings.toInt.toNat by omega]; exact rSn_p hkn1
            refine lv_iconst (v := 0) hx hb dX12_laysFar_133 (by decide) ?_
            refine lv_istore (lv' := [(5, .int 0), (4, .int mo1), (3, .int (nI kn)), (2, .int met), (1, .int (nI ka)), (0, .ref mo)]) hx hb dX12_laysFar_134 hl (by decide) (zLvf_h rfl) (fun ls hl => ?_)
            refine z_lp2 (T := T) 136 (fun (kd : Nat) (wf : Nat → Int32) => [[zO11 mo m_all m_has i_size i_next i_where i_token i_number i_word i_wrong i_farCrossing m_read i_z0 i_crossings i_inns m_posts m_shut m_here i_steps i_done i_at i_gone m_was m_came m_seenAt m_rowWorth m_farBy m_used i_everywhere i_again0 i_d0 i_never i_firstCame i_longRun i_moved i_crowd i_l0 i_fitMany i_fitLeast i_fitMost m_fitPost m_fitEnd m_keptPosts i_x0], [zAr T 0 m_all 3952 f_all], [zAr T 0 m_farBy 49 wf]]) (fun (kd : Nat) (wf : Nat → Int32) => [(5, .int (nI kd)), (4, .int mo1), (3, .int (nI kn)), (2, .int met), (1, .int (nI ka)), (0, .ref mo)]) (fun (kd : Nat) (wf : Nat → Int32) => kd ≤ 7 ∧ (kd : Int) ≤ i_crossings.toInt ∧ (∀ a b : Nat, a < ka → (a : Int) < i_crossings.toInt → b < 7 → wf (7 * a + b) = rFar (zWo f_all i_z0 i_inns) (zLo f_all i_z0) i_crossings.toInt.toNat a b) ∧ (∀ b, b < kd → wf (7 * ka + b) = rFs (fun n => bT (rSn (zWo f_all i_z0 i_inns) (zLo f_all i_z0) i_crossings.toInt.toNat (1 <<< (nI ka &&& 31)) n) b) 0 (kn + 1)) ∧ (∀ b, kd ≤ b → b < 7 → wf (7 * ka + b) = rFs (fun n => bT (rSn (zWo f_all i_z0 i_inns) (zLo f_all i_z0) i_crossings.toInt.toNat (1 <<< (nI ka &&& 31)) n) b) 0 kn)) (fun (kd : Nat) (wf : Nat → Int32) => 7 - kd) ?_ 0 zf (show 0 ≤ 7 ∧ (0 : Int) ≤ i_crossings.toInt ∧ (∀ a b : Nat, a < ka → (a : Int) < i_crossings.toInt → b < 7 → zf (7 * a + b) = rFar (zWo f_all i_z0 i_inns) (zLo f_all i_z0) i_crossings.toInt.toNat a b) ∧ (∀ b, b < 0 → zf (7 * ka + b) = rFs (fun n => bT (rSn (zWo f_all i_z0 i_inns) (zLo f_all i_z0) i_crossings.toInt.toNat (1 <<< (nI ka &&& 31)) n) b) 0 (kn + 1)) ∧ (∀ b, 0 ≤ b → b < 7 → zf (7 * ka + b) = rFs (fun n => bT (rSn (zWo f_all i_z0 i_inns) (zLo f_all i_z0) i_crossings.toInt.toNat (1 <<< (nI ka &&& 31)) n) b) 0 kn) from ⟨by omega, by omega, hG2, (fun b h9 => absurd h9 (by omega)), (fun b _ h9 => hR b h9)⟩) G (lv_sub hl [0, 1, 2, 3, 4, 5] rfl)
            intro kd wf hI9 ih_136 H locs ls G hl
            replace hI9 : kd ≤ 7 ∧ (kd : Int) ≤ i_crossings.toInt ∧ (∀ a b : Nat, a < ka → (a : Int) < i_crossings.toInt → b < 7 → wf (7 * a + b) = rFar (zWo f_all i_z0 i_inns) (zLo f_all i_z0) i_crossings.toInt.toNat a b) ∧ (∀ b, b < kd → wf (7 * ka + b) = rFs (fun n => bT (rSn (zWo f_all i_z0 i_inns) (zLo f_all i_z0) i_crossings.toInt.toNat (1 <<< (nI ka &&& 31)) n) b) 0 (kn + 1)) ∧ (∀ b, kd ≤ b → b < 7 → wf (7 * ka + b) = rFs (fun n => bT (rSn (zWo f_all i_z0 i_inns) (zLo f_all i_z0) i_crossings.toInt.toNat (1 <<< (nI ka &&& 31)) n) b) 0 kn) := hI9
            refine zAn5 hI9 ?_
            intro hkd9 hkdc hG3 hWa hWb
            clear hI9
            replace G : zS T A s.heap s [[zO11 mo m_all m_has i_size i_next i_where i_token i_number i_word i_wrong i_farCrossing m_read i_z0 i_crossings i_inns m_posts m_shut m_here i_steps i_done i_at i_gone m_was m_came m_seenAt m_rowWorth m_farBy m_used i_everywhere i_again0 i_d0 i_never i_firstCame i_longRun i_moved i_crowd i_l0 i_fitMany i_fitLeast i_fitMost m_fitPost m_fitEnd m_keptPosts i_x0], [zAr T 0 m_all 3952 f_all], [zAr T 0 m_farBy 49 wf]] _ _ := G
            replace hl : lv_has ls 7 [(5, .int (nI kd)), (4, .int mo1), (3, .int (nI kn)), (2, .int met), (1, .int (nI ka)), (0, .ref mo)] := hl
            refine lv_iload hx hb dX12_laysFar_136 (lv_at hl 0 rfl) ?_
            refine lv_aload_n hx hb dX12_laysFar_138 rfl (lv_at hl 5 rfl) ?_
            refine z_get C G clX12 0 rfl 12 (by decide) m_fl_RX12_169 rfl dX12_laysFar_139 ?_
            refine lv_icmp_ge (tgt := 179) hx hb dX12_laysFar_142 (by decide) (fun c_6 => ?_) (fun c_6 => ?_)
            · have c_6n : i_crossings.toInt ≤ (kd : Int) := by have q := (fa_le _ _).mp c_6; rw [nI_toInt (n := kd) (by omega)] at q; exact q
              refine lv_iload hx hb dX12_laysFar_179 (lv_at hl 1 rfl) ?_
              refine lv_istore_n (lv' := [(2, .int mo1), (5, .int (nI kd)), (4, .int mo1), (3, .int (nI kn)), (1, .int (nI ka)), (0, .ref mo)]) hx hb dX12_laysFar_181 rfl hl (by decide) (zLvf_h rfl) (fun ls hl => ?_)
              refine lv_iinc (v := nI (kn + 1)) (lv' := [(3, .int (nI (kn + 1))), (2, .int mo1), (5, .int (nI kd)), (4, .int mo1), (1, .int (nI ka)), (0, .ref mo)]) hx hb dX12_laysFar_182 hl (k := 3) rfl (z_inc kn 1) (by decide) (zLvf_h rfl) (fun ls hl => ?_)
              refine lv_goto (tgt := 49) hx hb dX12_laysFar_185 (by decide) ?_
              exact ih_49 (kn + 1) mo1 wf (show (kn + 1) ≤ 7 ∧ 1 ≤ (kn + 1) ∧ (∀ a b : Nat, a < ka → (a : Int) < i_crossings.toInt → b < 7 → wf (7 * a + b) = rFar (zWo f_all i_z0 i_inns) (zLo f_all i_z0) i_crossings.toInt.toNat a b) ∧ (∀ b, b < 7 → wf (7 * ka + b) = rFs (fun n => bT (rSn (zWo f_all i_z0 i_inns) (zLo f_all i_z0) i_crossings.toInt.toNat (1 <<< (nI ka &&& 31)) n) b) 0 (kn + 1)) ∧ mo1 = rSn (zWo f_all i_z0 i_inns) (zLo f_all i_z0) i_crossings.toInt.toNat (1 <<< (nI ka &&& 31)) ((kn + 1) - 1) from ⟨by omega, by omega, hG3, (fun b h9 => by by_cases q9 : b < kd <;> first | exact hWa b q9 | exact (hWb b (by omega) h9).trans (rB_h hO9 (by omega) (by omega) (by omega)).symm), (hmo9.trans (congrArg (rSn (zWo f_all i_z0 i_inns) (zLo f_all i_z0) i_crossings.toInt.toNat (1 <<< (nI ka &&& 31))) (by omega)))⟩) (show 7 - (kn + 1) < 7 - kn from by omega) _ _ ls G (lv_sub hl [0, 1, 4, 5] rfl)
            · have c_6n : ¬ i_crossings.toInt ≤ (kd : Int) := fun q => c_6 ((fa_le _ _).mpr (by rw [nI_toInt (n := kd) (by omega)]; exact q))
              refine lv_iload hx hb dX12_laysFar_145 (lv_at hl 1 rfl) ?_
              refine lv_iload_n hx hb dX12_laysFar_147 rfl (lv_at hl 3 rfl) ?_
              refine lv_iconst (v := (-1)) hx hb dX12_laysFar_148 (by decide) ?_
              refine lv_ixor hx hb dX12_laysFar_149 ?_
              refine lv_iand hx hb dX12_laysFar_150 ?_
              refine lv_iload hx hb dX12_laysFar_151 (lv_at hl 0 rfl) ?_
              refine lv_ishr hx hb dX12_laysFar_153 ?_
              refine lv_iconst (v := 1) hx hb dX12_laysFar_154 (by decide) ?_
              refine lv_iand hx hb dX12_laysFar_155 ?_
              refine lv_iconst (v := 1) hx hb dX12_laysFar_156 (by decide) ?_
              refine lv_icmp_ne (tgt := 173) hx hb dX12_laysFar_157 (by decide) (fun c_7 => ?_) (fun c_7 => ?_)
              · have c_7n : ¬ (((mo1 &&& (met ^^^ (-1))) >>> ((nI kd) &&& 31)) &&& 1).toInt = (1 : Int) := fun q => c_7 ((fa_eq _ _).mpr q)
                refine lv_iinc (v := nI (kd + 1)) (lv' := [(5, .int (nI (kd + 1))), (4, .int mo1), (3, .int (nI kn)), (2, .int met), (1, .int (nI ka)), (0, .ref mo)]) hx hb dX12_laysFar_173 hl (k := 0) rfl (z_inc kd 1) (by decide) (zLvf_h rfl) (fun ls hl => ?_)
                refine lv_goto (tgt := 136) hx hb dX12_laysFar_176 (by decide) ?_
                exact ih_136 (kd + 1) wf (show (kd + 1) ≤ 7 ∧ ((kd + 1) : Int) ≤ i_crossings.toInt ∧ (∀ a b : Nat, a < ka → (a : Int) < i_crossings.toInt → b < 7 → wf (7 * a + b) = rFar (zWo f_all i_z0 i_inns) (zLo f_all i_z0) i_crossings.toInt.toNat a b) ∧ (∀ b, b < (kd + 1) → wf (7 * ka + b) = rFs (fun n => bT (rSn (zWo f_all i_z0 i_inns) (zLo f_all i_z0) i_crossings.toInt.toNat (1 <<< (nI ka &&& 31)) n) b) 0 (kn + 1)) ∧ (∀ b, (kd + 1) ≤ b → b < 7 → wf (7 * ka + b) = rFs (fun n => bT (rSn (zWo f_all i_z0 i_inns) (zLo f_all i_z0) i_crossings.toInt.toNat (1 <<< (nI ka &&& 31)) n) b) 0 kn) from ⟨by omega, by omega, hG3, (fun b h9 => by by_cases q9 : b = kd <;> first | (rw [q9]; exact (hWb kd (Nat.le_refl _) (by omega)).trans (rB_n hO9 hkn1 hmo9 hmet (by omega) (by first | with_reducible assumption | assumption)).symm) | exact hWa b (by omega)), (fun b h1 h2 => hWb b (by omega) h2)⟩) (show 7 - (kd + 1) < 7 - kd from by omega) _ _ ls G (lv_sub hl [0, 1, 2, 3, 4, 5] rfl)
              · have c_7n : (((mo1 &&& (met ^^^ (-1))) >>> ((nI kd) &&& 31)) &&& 1).toInt = (1 : Int) := (fa_eq _ _).mp c_7
                refine lv_aload_n hx hb dX12_laysFar_160 rfl (lv_at hl 5 rfl) ?_
                refine z_get C G clX12 0 rfl 25 (by decide) m_fl_RX12_41 rfl dX12_laysFar_161 ?_
                refine lv_bipush (v := 7) hx hb dX12_laysFar_164 (by decide) ?_
                refine lv_iload_n hx hb dX12_laysFar_166 rfl (lv_at hl 4 rfl) ?_
                refine lv_imul hx hb dX12_laysFar_167 ?_
                refine lv_topi (fun y_8 ey_8 => ?_)
                obtain rfl : y_8 = nI (7 * ka) := ey_8.trans (z_imuln 7 ka rfl rfl)
                refine lv_iload hx hb dX12_laysFar_168 (lv_at hl 0 rfl) ?_
                refine lv_iadd hx hb dX12_laysFar_170 ?_
                refine lv_topi (fun y_9 ey_9 => ?_)
                obtain rfl : y_9 = nI ((7 * ka) + kd) := ey_9.trans (z_iaddn (7 * ka) kd rfl rfl)
                refine lv_iload_n hx hb dX12_laysFar_171 rfl (lv_at hl 2 rfl) ?_
                refine z_ist C G 2 rfl (vp_in_nI (by omega) (by decide)) dX12_laysFar_172 (fun H locs G => ?_)
                rw [nI_clamp (by omega)] at G
                have G : zS T A s.heap s [[zO11 mo m_all m_has i_size i_next i_where i_token i_number i_word i_wrong i_farCrossing m_read i_z0 i_crossings i_inns m_posts m_shut m_here i_steps i_done i_at i_gone m_was m_came m_seenAt m_rowWorth m_farBy m_used i_everywhere i_again0 i_d0 i_never i_firstCame i_longRun i_moved i_crowd i_l0 i_fitMany i_fitLeast i_fitMost m_fitPost m_fitEnd m_keptPosts i_x0], [zAr T 0 m_all 3952 f_all], [zAr T 0 m_farBy 49 (upd wf ((7 * ka) + kd) (nI kn))]] _ _ := G
                refine lv_iinc (v := nI (kd + 1)) (lv' := [(5, .int (nI (kd + 1))), (4, .int mo1), (3, .int (nI kn)), (2, .int met), (1, .int (nI ka)), (0, .ref mo)]) hx hb dX12_laysFar_173 hl (k := 0) rfl (z_inc kd 1) (by decide) (zLvf_h rfl) (fun ls hl => ?_)
                refine lv_goto (tgt := 136) hx hb dX12_laysFar_176 (by decide) ?_
                exact ih_136 (kd + 1) (upd wf ((7 * ka) + kd) (nI kn)) (show (kd + 1) ≤ 7 ∧ ((kd + 1) : Int) ≤ i_crossings.toInt ∧ (∀ a b : Nat, a < ka → (a : Int) < i_crossings.toInt → b < 7 → (upd wf ((7 * ka) + kd) (nI kn)) (7 * a + b) = rFar (zWo f_all i_z0 i_inns) (zLo f_all i_z0) i_crossings.toInt.toNat a b) ∧ (∀ b, b < (kd + 1) → (upd wf ((7 * ka) + kd) (nI kn)) (7 * ka + b) = rFs (fun n => bT (rSn (zWo f_all i_z0 i_inns) (zLo f_all i_z0) i_crossings.toInt.toNat (1 <<< (nI ka &&& 31)) n) b) 0 (kn + 1)) ∧ (∀ b, (kd + 1) ≤ b → b < 7 → (upd wf ((7 * ka) + kd) (nI kn)) (7 * ka + b) = rFs (fun n => bT (rSn (zWo f_all i_z0 i_inns) (zLo f_all i_z0) i_crossings.toInt.toNat (1 <<< (nI ka &&& 31)) n) b) 0 kn) from ⟨by omega, by omega, (fun a b h1 h2 h3 => (z_ne (by omega)).trans (hG3 a b h1 h2 h3)), (fun b h9 => by by_cases q9 : b = kd <;> first | (rw [q9]; exact (z_eq rfl).trans (rB_y hO9 hkn1 hmo9 hmet (by omega) (by first | with_reducible assumption | assumption)).symm) | exact (z_ne (by omega)).trans (hWa b (by omega))), (fun b h1 h2 => (z_ne (by omega)).trans (hWb b (by omega) h2))⟩) (show 7 - (kd + 1) < 7 - kd from by omega) _ _ ls G (lv_sub hl [0, 1, 2, 3, 4, 5] rfl)
          · have c_5n : ¬ i_crossings.toInt ≤ (kc : Int) := fun q => c_5 ((fa_le _ _).mpr (by rw [nI_toInt (n := kc) (by omega)]; exact q))
            have hw9 := hO9.2.1 kc (by omega)
            refine lv_iconst (v := 0) hx hb dX12_laysFar_78 (by decide) ?_
            refine lv_istore (lv' := [(6, .int 0), (5, .int (nI kc)), (4, .int mo1), (3, .int (nI kn)), (2, .int met), (1, .int (nI ka)), (0, .ref mo)]) hx hb dX12_laysFar_79 hl (by decide) (zLvf_h rfl) (fun ls hl => ?_)
            refine z_lp2 (T := T) 81 (fun (kk : Nat) (mo2 : Int32) => [[zO11 mo m_all m_has i_size i_next i_where i_token i_number i_word i_wrong i_farCrossing m_read i_z0 i_crossings i_inns m_posts m_shut m_here i_steps i_done i_at i_gone m_was m_came m_seenAt m_rowWorth m_farBy m_used i_everywhere i_again0 i_d0 i_never i_firstCame i_longRun i_moved i_crowd i_l0 i_fitMany i_fitLeast i_fitMost m_fitPost m_fitEnd m_keptPosts i_x0], [zAr T 0 m_all 3952 f_all], [zAr T 0 m_farBy 49 zf]]) (fun (kk : Nat) (mo2 : Int32) => [(6, .int (nI kk)), (5, .int (nI kc)), (4, .int mo2), (3, .int (nI kn)), (2, .int met), (1, .int (nI ka)), (0, .ref mo)]) (fun (kk : Nat) (mo2 : Int32) => kk ≤ 4 ∧ (kk : Int) ≤ ((zWo f_all i_z0 i_inns) kc).toInt ∧ mo2 = (if zBit met (nI kc) = 0 then rC (zWo f_all i_z0 i_inns) (zLo f_all i_z0) met kc else rR (zLo f_all i_z0) kc kk (rC (zWo f_all i_z0 i_inns) (zLo f_all i_z0) met kc))) (fun (kk : Nat) (mo2 : Int32) => 4 - kk) ?_ 0 mo1 (show 0 ≤ 4 ∧ (0 : Int) ≤ ((zWo f_all i_z0 i_inns) kc).toInt ∧ mo1 = (if zBit met (nI kc) = 0 then rC (zWo f_all i_z0 i_inns) (zLo f_all i_z0) met kc else rR (zLo f_all i_z0) kc 0 (rC (zWo f_all i_z0 i_inns) (zLo f_all i_z0) met kc)) from ⟨by omega, by omega, (by rw [hmo]; exact (ite_self _).symm)⟩) G (lv_sub hl [0, 1, 2, 3, 4, 5, 6] rfl)
            intro kk mo2 hI9 ih_81 H locs ls G hl
            replace hI9 : kk ≤ 4 ∧ (kk : Int) ≤ ((zWo f_all i_z0 i_inns) kc).toInt ∧ mo2 = (if zBit met (nI kc) = 0 then rC (zWo f_all i_z0 i_inns) (zLo f_all i_z0) met kc else rR (zLo f_all i_z0) kc kk (rC (zWo f_all i_z0 i_inns) (zLo f_all i_z0) met kc)) := hI9
            refine zAn3 hI9 ?_
            intro hkk9 hkw hmo2
            clear hI9
            replace G : zS T A s.heap s [[zO11 mo m_all m_has i_size i_next i_where i_token i_number i_word i_wrong i_farCrossing m_read i_z0 i_crossings i_inns m_posts m_shut m_here i_steps i_done i_at i_gone m_was m_came m_seenAt m_rowWorth m_farBy m_used i_everywhere i_again0 i_d0 i_never i_firstCame i_longRun i_moved i_crowd i_l0 i_fitMany i_fitLeast i_fitMost m_fitPost m_fitEnd m_keptPosts i_x0], [zAr T 0 m_all 3952 f_all], [zAr T 0 m_farBy 49 zf]] _ _ := G
            replace hl : lv_has ls 7 [(6, .int (nI kk)), (5, .int (nI kc)), (4, .int mo2), (3, .int (nI kn)), (2, .int met), (1, .int (nI ka)), (0, .ref mo)] := hl
            refine lv_iload hx hb dX12_laysFar_81 (lv_at hl 0 rfl) ?_
            refine lv_aload_n hx hb dX12_laysFar_83 rfl (lv_at hl 6 rfl) ?_
            refine lv_iload hx hb dX12_laysFar_84 (lv_at hl 1 rfl) ?_
            have ti_10 : (nI kc).toInt = ((kc : Nat) : Int) := nI_toInt (by omega)
            refine z_Vi (bc := [[zO11 mo m_all m_has i_size i_next i_where i_token i_number i_word i_wrong i_farCrossing m_read i_z0 i_crossings i_inns m_posts m_shut m_here i_steps i_done i_at i_gone m_was m_came m_seenAt m_rowWorth m_farBy m_used i_everywhere i_again0 i_d0 i_never i_firstCame i_longRun i_moved i_crowd i_l0 i_fitMany i_fitLeast i_fitMost m_fitPost m_fitEnd m_keptPosts i_x0], [zAr T 0 m_all 3952 f_all]]) (br := [[zAr T 0 m_farBy 49 zf]]) (As := [.int (nI kc)]) (rest := [.int (nI kk)]) C G (c_fm_roads5 l T mo m_all m_has i_size i_next i_where i_token i_number i_word i_wrong i_farCrossing m_read i_z0 i_crossings i_inns m_posts m_shut m_here i_steps i_done i_at i_gone m_was m_came m_seenAt m_rowWorth m_farBy m_used i_everywhere i_again0 i_d0 i_never i_firstCame i_longRun i_moved i_crowd i_l0 i_fitMany i_fitLeast i_fitMost m_fitPost m_fitEnd m_keptPosts i_x0 f_all (nI kc) (by first | with_reducible assumption | with_reducible rfl | omega | assumption | rfl | decide) (by first | with_reducible assumption | with_reducible rfl | omega | assumption | rfl | decide) (by first | with_reducible assumption | with_reducible rfl | omega | assumption | rfl | decide)) (kV_RX12_255 C.2.2.2.2 (Nat.le_of_ble_eq_true rfl) (Nat.le_of_ble_eq_true rfl)) [0, 1] [0, 0] rfl rfl (ci := 11) (qc := (RX12, TX12, 43)) rfl rfl (List.mem_flatten.mpr ⟨_, List.mem_of_getElem? (i := 0) rfl, List.mem_cons_self⟩) rfl rfl hl.1 dX12_laysFar_86 (Nat.le_of_ble_eq_true rfl) (Nat.le_of_ble_eq_true rfl) (fun r_14 b1 H locs hw G => ?_)
            refine zAn4 hw ?_
            intro hbs9 h_11 h_12 h_13
            clear hw
            subst hbs9
            have G : zS T A s.heap s [[zAr T 0 m_farBy 49 zf], [zO11 mo m_all m_has i_size i_next i_where i_token i_number i_word i_wrong i_farCrossing m_read i_z0 i_crossings i_inns m_posts m_shut m_here i_steps i_done i_at i_gone m_was m_came m_seenAt m_rowWorth m_farBy m_used i_everywhere i_again0 i_d0 i_never i_firstCame i_longRun i_moved i_crowd i_l0 i_fitMany i_fitLeast i_fitMost m_fitPost m_fitEnd m_keptPosts i_x0], [zAr T 0 m_all 3952 f_all]] _ _ := G
            rw [nI_n9 (by omega)] at h_13
            have hr86 : r_14.toInt = ((zWo f_all i_z0 i_inns) kc).toInt := congrArg Int32.toInt h_13
            refine lv_icmp_ge (tgt := 127) hx hb dX12_laysFar_89 (by decide) (fun c_15 => ?_) (fun c_15 => ?_)
            · have c_15n : r_14.toInt ≤ (kk : Int) := by have q := (fa_le _ _).mp c_15; rw [nI_toInt (n := kk) (by omega)] at q; exact q
              refine lv_iinc (v := nI (kc + 1)) (lv' := [(5, .int (nI (kc + 1))), (6, .int (nI kk)), (4, .int mo2), (3, .int (nI kn)), (2, .int met), (1, .int (nI ka)), (0, .ref mo)]) hx hb dX12_laysFar_127 hl (k := 1) rfl (z_inc kc 1) (by decide) (zLvf_h rfl) (fun ls hl => ?_)
              refine lv_goto (tgt := 69) hx hb dX12_laysFar_130 (by decide) ?_
              have G := G.sub (bs' := [[zO11 mo m_all m_has i_size i_next i_where i_token i_number i_word i_wrong i_farCrossing m_read i_z0 i_crossings i_inns m_posts m_shut m_here i_steps i_done i_at i_gone m_was m_came m_seenAt m_rowWorth m_farBy m_used i_everywhere i_again0 i_d0 i_never i_firstCame i_longRun i_moved i_crowd i_l0 i_fitMany i_fitLeast i_fitMost m_fitPost m_fitEnd m_keptPosts i_x0], [zAr T 0 m_all 3952 f_all], [zAr T 0 m_farBy 49 zf]]) [1, 2, 0] rfl
              exact ih_69 (kc + 1) mo2 (show (kc + 1) ≤ 7 ∧ ((kc + 1) : Int) ≤ i_crossings.toInt ∧ mo2 = rC (zWo f_all i_z0 i_inns) (zLo f_all i_z0) met (kc + 1) from ⟨by omega, by omega, (rM_e hmo2 (by omega))⟩) (show 7 - (kc + 1) < 7 - kc from by omega) _ _ ls G (lv_sub hl [0, 2, 3, 4, 5, 6] rfl)
            · have c_15n : ¬ r_14.toInt ≤ (kk : Int) := fun q => c_15 ((fa_le _ _).mpr (by rw [nI_toInt (n := kk) (by omega)]; exact q))
              refine lv_iload hx hb dX12_laysFar_92 (lv_at hl 2 rfl) ?_
              refine lv_iload_n hx hb dX12_laysFar_94 rfl (lv_at hl 4 rfl) ?_
              refine lv_iload hx hb dX12_laysFar_95 (lv_at hl 1 rfl) ?_
              refine lv_ishr hx hb dX12_laysFar_97 ?_
              refine lv_iconst (v := 1) hx hb dX12_laysFar_98 (by decide) ?_
              refine lv_iand hx hb dX12_laysFar_99 ?_
              refine lv_iconst (v := 1) hx hb dX12_laysFar_100 (by decide) ?_
              refine lv_icmp_ne (tgt := 117) hx hb dX12_laysFar_101 (by decide) (fun c_16 => ?_) (fun c_16 => ?_)
              · have c_16n : ¬ ((met >>> ((nI kc) &&& 31)) &&& 1).toInt = (1 : Int) := fun q => c_16 ((fa_eq _ _).mpr q)
                refine lv_iconst (v := 0) hx hb dX12_laysFar_117 (by decide) ?_
                refine lv_ior hx hb dX12_laysFar_118 ?_
                refine lv_istore (lv' := [(4, .int (mo2 ||| 0)), (6, .int (nI kk)), (5, .int (nI kc)), (3, .int (nI kn)), (2, .int met), (1, .int (nI ka)), (0, .ref mo)]) hx hb dX12_laysFar_119 hl (by decide) (zLvf_h rfl) (fun ls hl => ?_)
                refine lv_iinc (v := nI (kk + 1)) (lv' := [(6, .int (nI (kk + 1))), (4, .int (mo2 ||| 0)), (5, .int (nI kc)), (3, .int (nI kn)), (2, .int met), (1, .int (nI ka)), (0, .ref mo)]) hx hb dX12_laysFar_121 hl (k := 1) rfl (z_inc kk 1) (by decide) (zLvf_h rfl) (fun ls hl => ?_)
                refine lv_goto (tgt := 81) hx hb dX12_laysFar_124 (by decide) ?_
                have G := G.sub (bs' := [[zO11 mo m_all m_has i_size i_next i_where i_token i_number i_word i_wrong i_farCrossing m_read i_z0 i_crossings i_inns m_posts m_shut m_here i_steps i_done i_at i_gone m_was m_came m_seenAt m_rowWorth m_farBy m_used i_everywhere i_again0 i_d0 i_never i_firstCame i_longRun i_moved i_crowd i_l0 i_fitMany i_fitLeast i_fitMost m_fitPost m_fitEnd m_keptPosts i_x0], [zAr T 0 m_all 3952 f_all], [zAr T 0 m_farBy 49 zf]]) [1, 2, 0] rfl
                exact ih_81 (kk + 1) (mo2 ||| 0) (show (kk + 1) ≤ 4 ∧ ((kk + 1) : Int) ≤ ((zWo f_all i_z0 i_inns) kc).toInt ∧ (mo2 ||| 0) = (if zBit met (nI kc) = 0 then rC (zWo f_all i_z0 i_inns) (zLo f_all i_z0) met kc else rR (zLo f_all i_z0) kc (kk + 1) (rC (zWo f_all i_z0 i_inns) (zLo f_all i_z0) met kc)) from ⟨by omega, by omega, (rM_n (by first | with_reducible assumption | assumption) hmo2)⟩) (show 4 - (kk + 1) < 4 - kk from by omega) _ _ ls G (lv_sub hl [0, 2, 1, 3, 4, 5, 6] rfl)
              · have c_16n : ((met >>> ((nI kc) &&& 31)) &&& 1).toInt = (1 : Int) := (fa_eq _ _).mp c_16
                refine lv_iconst (v := 1) hx hb dX12_laysFar_104 (by decide) ?_
                refine lv_aload_n hx hb dX12_laysFar_105 rfl (lv_at hl 6 rfl) ?_
                refine lv_iload hx hb dX12_laysFar_106 (lv_at hl 1 rfl) ?_
                refine lv_iload hx hb dX12_laysFar_108 (lv_at hl 0 rfl) ?_
                have ti_17 : (nI kc).toInt = ((kc : Nat) : Int) := nI_toInt (by omega)
                have ti_18 : (nI kk).toInt = ((kk : Nat) : Int) := nI_toInt (by omega)
                refine z_Vi (bc := [[zO11 mo m_all m_has i_size i_next i_where i_token i_number i_word i_wrong i_farCrossing m_read i_z0 i_crossings i_inns m_posts m_shut m_here i_steps i_done i_at i_gone m_was m_came m_seenAt m_rowWorth m_farBy m_used i_everywhere i_again0 i_d0 i_never i_firstCame i_longRun i_moved i_crowd i_l0 i_fitMany i_fitLeast i_fitMost m_fitPost m_fitEnd m_keptPosts i_x0], [zAr T 0 m_all 3952 f_all]]) (br := [[zAr T 0 m_farBy 49 zf]]) (As := [.int (nI kc), .int (nI kk)]) (rest := [.int 1, .int mo2]) C G (c_m_leadsTo l T mo m_all m_has i_size i_next i_where i_token i_number i_word i_wrong i_farCrossing m_read i_z0 i_crossings i_inns m_posts m_shut m_here i_steps i_done i_at i_gone m_was m_came m_seenAt m_rowWorth m_farBy m_used i_everywhere i_again0 i_d0 i_never i_firstCame i_longRun i_moved i_crowd i_l0 i_fitMany i_fitLeast i_fitMost m_fitPost m_fitEnd m_keptPosts i_x0 f_all (nI kc) (nI kk) (by first | with_reducible assumption | with_reducible rfl | omega | assumption | rfl | decide) (by first | with_reducible assumption | with_reducible rfl | omega | assumption | rfl | decide) (by first | with_reducible assumption | with_reducible rfl | omega | assumption | rfl | decide) (by first | with_reducible assumption | with_reducible rfl | omega | assumption | rfl | decide) (by first | with_reducible assumption | with_reducible rfl | omega | assumption | rfl | decide)) (kV_RX12_190 C.2.2.2.2 (Nat.le_of_ble_eq_true rfl) (Nat.le_of_ble_eq_true rfl)) [1, 2] [1, 0] rfl rfl (ci := 11) (qc := (RX12, TX12, 43)) rfl rfl (List.mem_flatten.mpr ⟨_, List.mem_of_getElem? (i := 0) rfl, List.mem_cons_self⟩) rfl rfl hl.1 dX12_laysFar_110 (Nat.le_of_ble_eq_true rfl) (Nat.le_of_ble_eq_true rfl) (fun r_22 b1 H locs hw G => ?_)
                refine zAn4 hw ?_
                intro hbs9 h_19 h_20 h_21
                clear hw
                subst hbs9
                have G : zS T A s.heap s [[zAr T 0 m_farBy 49 zf], [zO11 mo m_all m_has i_size i_next i_where i_token i_number i_word i_wrong i_farCrossing m_read i_z0 i_crossings i_inns m_posts m_shut m_here i_steps i_done i_at i_gone m_was m_came m_seenAt m_rowWorth m_farBy m_used i_everywhere i_again0 i_d0 i_never i_firstCame i_longRun i_moved i_crowd i_l0 i_fitMany i_fitLeast i_fitMost m_fitPost m_fitEnd m_keptPosts i_x0], [zAr T 0 m_all 3952 f_all]] _ _ := G
                subst h_19
                refine lv_ishl hx hb dX12_laysFar_113 ?_
                refine lv_goto (tgt := 118) hx hb dX12_laysFar_114 (by decide) ?_
                refine lv_ior hx hb dX12_laysFar_118 ?_
                refine lv_istore (lv' := [(4, .int (mo2 ||| (1 <<< ((zLe f_all i_z0 (nI kc) (nI kk)) &&& 31)))), (6, .int (nI kk)), (5, .int (nI kc)), (3, .int (nI kn)), (2, .int met), (1, .int (nI ka)), (0, .ref mo)]) hx hb dX12_laysFar_119 hl (by decide) (zLvf_h rfl) (fun ls hl => ?_)
                refine lv_iinc (v := nI (kk + 1)) (lv' := [(6, .int (nI (kk + 1))), (4, .int (mo2 ||| (1 <<< ((zLe f_all i_z0 (nI kc) (nI kk)) &&& 31)))), (5, .int (nI kc)), (3, .int (nI kn)), (2, .int met), (1, .int (nI ka)), (0, .ref mo)]) hx hb dX12_laysFar_121 hl (k := 1) rfl (z_inc kk 1) (by decide) (zLvf_h rfl) (fun ls hl => ?_)
                refine lv_goto (tgt := 81) hx hb dX12_laysFar_124 (by decide) ?_
                have G := G.sub (bs' := [[zO11 mo m_all m_has i_size i_next i_where i_token i_number i_word i_wrong i_farCrossing m_read i_z0 i_crossings i_inns m_posts m_shut m_here i_steps i_done i_at i_gone m_was m_came m_seenAt m_rowWorth m_farBy m_used i_everywhere i_again0 i_d0 i_never i_firstCame i_longRun i_moved i_crowd i_l0 i_fitMany i_fitLeast i_fitMost m_fitPost m_fitEnd m_keptPosts i_x0], [zAr T 0 m_all 3952 f_all], [zAr T 0 m_farBy 49 zf]]) [1, 2, 0] rfl
                exact ih_81 (kk + 1) (mo2 ||| (1 <<< ((zLe f_all i_z0 (nI kc) (nI kk)) &&& 31))) (show (kk + 1) ≤ 4 ∧ ((kk + 1) : Int) ≤ ((zWo f_all i_z0 i_inns) kc).toInt ∧ (mo2 ||| (1 <<< ((zLe f_all i_z0 (nI kc) (nI kk)) &&& 31))) = (if zBit met (nI kc) = 0 then rC (zWo f_all i_z0 i_inns) (zLo f_all i_z0) met kc else rR (zLo f_all i_z0) kc (kk + 1) (rC (zWo f_all i_z0 i_inns) (zLo f_all i_z0) met kc)) from ⟨by omega, by omega, (rM_y (by first | with_reducible assumption | assumption) hmo2 (zLe_o (by omega) (by omega)))⟩) (show 4 - (kk + 1) < 4 - kk from by omega) _ _ ls G (lv_sub hl [0, 2, 1, 3, 4, 5, 6] rfl)
    · have c_2n : ¬ 7 ≤ kb := fun q => c_2 ((nI_leI (a := 7) (b := kb) (by omega) (by omega)).mpr q)
      refine lv_aload_n hx hb dX12_laysFar_16 rfl (lv_at hl 2 rfl) ?_
      refine z_get C G clX12 0 rfl 25 (by decide) m_fl_RX12_41 rfl dX12_laysFar_17 ?_
      refine lv_bipush (v := 7) hx hb dX12_laysFar_20 (by decide) ?_
      refine lv_iload_n hx hb dX12_laysFar_22 rfl (lv_at hl 1 rfl) ?_
      refine lv_imul hx hb dX12_laysFar_23 ?_
      refine lv_topi (fun y_23 ey_23 => ?_)
      obtain rfl : y_23 = nI (7 * ka) := ey_23.trans (z_imuln 7 ka rfl rfl)
      refine lv_iload_n hx hb dX12_laysFar_24 rfl (lv_at hl 0 rfl) ?_
      refine lv_iadd hx hb dX12_laysFar_25 ?_
      refine lv_topi (fun y_24 ey_24 => ?_)
      obtain rfl : y_24 = nI ((7 * ka) + kb) := ey_24.trans (z_iaddn (7 * ka) kb rfl rfl)
      refine lv_iload_n hx hb dX12_laysFar_26 rfl (lv_at hl 1 rfl) ?_
      refine lv_iload_n hx hb dX12_laysFar_27 rfl (lv_at hl 0 rfl) ?_
      refine lv_icmp_ne (tgt := 35) hx hb dX12_laysFar_28 (by decide) (fun c_25 => ?_) (fun c_25 => ?_)
      · have c_25n : ¬ ka = kb := fun q => c_25 ((nI_eq (a := ka) (b := kb) (by omega) (by omega)).mpr q)
        refine lv_iconst (v := (-1)) hx hb dX12_laysFar_35 (by decide) ?_
        refine z_ist C G 2 rfl (vp_in_nI (by omega) (by decide)) dX12_laysFar_36 (fun H locs G => ?_)
        rw [nI_clamp (by omega)] at G
        have G : zS T A s.heap s [[zO11 mo m_all m_has i_size i_next i_where i_token i_number i_word i_wrong i_farCrossing m_read i_z0 i_crossings i_inns m_posts m_shut m_here i_steps i_done i_at i_gone m_was m_came m_seenAt m_rowWorth m_farBy m_used i_everywhere i_again0 i_d0 i_never i_firstCame i_longRun i_moved i_crowd i_l0 i_fitMany i_fitLeast i_fitMost m_fitPost m_fitEnd m_keptPosts i_x0], [zAr T 0 m_all 3952 f_all], [zAr T 0 m_farBy 49 (upd yf ((7 * ka) + kb) (-1))]] _ _ := G
        refine lv_iinc (v := nI (kb + 1)) (lv' := [(2, .int (nI (kb + 1))), (1, .int (nI ka)), (0, .ref mo)]) hx hb dX12_laysFar_37 hl (k := 0) rfl (z_inc kb 1) (by decide) (zLvf_h rfl) (fun ls hl => ?_)
        refine lv_goto (tgt := 10) hx hb dX12_laysFar_40 (by decide) ?_
        exact ih_10 (kb + 1) (upd yf ((7 * ka) + kb) (-1)) (show (kb + 1) ≤ 7 ∧ (∀ a b : Nat, a < ka → (a : Int) < i_crossings.toInt → b < 7 → (upd yf ((7 * ka) + kb) (-1)) (7 * a + b) = rFar (zWo f_all i_z0 i_inns) (zLo f_all i_z0) i_crossings.toInt.toNat a b) ∧ (∀ b, b < (kb + 1) → (upd yf ((7 * ka) + kb) (-1)) (7 * ka + b) = if ka = b then 0 else -1) from ⟨by omega, (fun a b h1 h2 h3 => (z_ne (by omega)).trans (hG a b h1 h2 h3)), (rF_i hk (if_neg (by omega)).symm)⟩) (show 7 - (kb + 1) < 7 - kb from by omega) _ _ ls G (lv_sub hl [0, 1, 2] rfl)
      · have c_25n : ka = kb := (nI_eq (a := ka) (b := kb) (by omega) (by omega)).mp c_25
        refine lv_iconst (v := 0) hx hb dX12_laysFar_31 (by decide) ?_
        refine lv_goto (tgt := 36) hx hb dX12_laysFar_32 (by decide) ?_
        refine z_ist C G 2 rfl (vp_in_nI (by omega) (by decide)) dX12_laysFar_36 (fun H locs G => ?_)
        rw [nI_clamp (by omega)] at G
        have G : zS T A s.heap s [[zO11 mo m_all m_has i_size i_next i_where i_token i_number i_word i_wrong i_farCrossing m_read i_z0 i_crossings i_inns m_posts m_shut m_here i_steps i_done i_at i_gone m_was m_came m_seenAt m_rowWorth m_farBy m_used i_everywhere i_again0 i_d0 i_never i_firstCame i_longRun i_moved i_crowd i_l0 i_fitMany i_fitLeast i_fitMost m_fitPost m_fitEnd m_keptPosts i_x0], [zAr T 0 m_all 3952 f_all], [zAr T 0 m_farBy 49 (upd yf ((7 * ka) + kb) 0)]] _ _ := G
        refine lv_iinc (v := nI (kb + 1)) (lv' := [(2, .int (nI (kb + 1))), (1, .int (nI ka)), (0, .ref mo)]) hx hb dX12_laysFar_37 hl (k := 0) rfl (z_inc kb 1) (by decide) (zLvf_h rfl) (fun ls hl => ?_)
        refine lv_goto (tgt := 10) hx hb dX12_laysFar_40 (by decide) ?_
        exact ih_10 (kb + 1) (upd yf ((7 * ka) + kb) 0) (show (kb + 1) ≤ 7 ∧ (∀ a b : Nat, a < ka → (a : Int) < i_crossings.toInt → b < 7 → (upd yf ((7 * ka) + kb) 0) (7 * a + b) = rFar (zWo f_all i_z0 i_inns) (zLo f_all i_z0) i_crossings.toInt.toNat a b) ∧ (∀ b, b < (kb + 1) → (upd yf ((7 * ka) + kb) 0) (7 * ka + b) = if ka = b then 0 else -1) from ⟨by omega, (fun a b h1 h2 h3 => (z_ne (by omega)).trans (hG a b h1 h2 h3)), (rF_i hk (if_pos (by omega)).symm)⟩) (show 7 - (kb + 1) < 7 - kb from by omega) _ _ ls G (lv_sub hl [0, 1, 2] rfl)
/-! sets as masks, counted -/
def rCk (P : Nat → Bool) : Nat → Int32
  | 0 => 0
  | n + 1 => if P n = true then rCk P n ||| (1 <<< (nI n &&& 31)) else rCk P n
theorem rCk_o {P : Nat → Bool} : ∀ n, n ≤ 7 → rOb (fun b => P b = true) n (rCk P n)
  | 0, _ => rOb_0
  | n + 1, hn => by
    have ih := rCk_o (P := P) n (by omega)
    unfold rCk
    by_cases q : P n = true
    · rw [if_pos q]
      exact rOb_y (by omega) ih q
    · rw [if_neg q]
      exact rOb_k ih q
theorem rCk_u {P : Nat → Bool} {Q : Nat → Prop} {m : Nat} {u : Int32} (hm : m ≤ 7) (h : rOb Q m u) (e : ∀ b, b < m → (Q b ↔ P b = true)) : u = rCk P m := rOb_u h (rCk_o m hm) e
theorem rCk_cg {P Q : Nat → Bool} : ∀ n, (∀ b, b < n → P b = Q b) → rCk P n = rCk Q n
  | 0, _ => rfl
  | n + 1, h => by
    unfold rCk
    rw [rCk_cg n (fun b hb => h b (by omega)), h n (by omega)]
def zBs (s : Int32) : Nat → Int32
  | 0 => 0
  | n + 1 => zBs s n + ((s >>> (nI n &&& 31)) &&& 1)
theorem rMk {u : Int32} (h : ∀ b, b < 32 → bT u b = true → b < 7) : ∃ t, t < 128 ∧ u = nI t := by
  have l : u.toBitVec.toNat < 2 ^ 7 := Nat.lt_pow_two_of_testBit _ (fun i hi => by
    by_cases q : i < 32
    · cases e : u.toBitVec.toNat.testBit i with
      | false => rfl
      | true => exact absurd (h i q e) (by omega)
    · exact BitVec.getLsbD_of_ge u.toBitVec i (by omega))
  refine ⟨u.toBitVec.toNat, by omega, Int32.toBitVec_inj.mp (BitVec.eq_of_toNat_eq ?_)⟩
  rw [pk_tn (by omega)]
/-- those of one class with it -/
def rCl (W L : Nat → Int32) (m c : Nat) : Int32 := rCk (fun b => bT (rSn W L m (1 <<< (nI c &&& 31)) 7) b && bT (rSn W L m (1 <<< (nI b &&& 31)) 7) c) m
theorem rCl_h {W L : Nat → Int32} {m c : Nat} (hm : m ≤ 7) : ∀ b, b < 32 → bT (rCl W L m c) b = true → b < 7 := fun b hb h => by
  have q := (rCk_o (P := fun b => bT (rSn W L m (1 <<< (nI c &&& 31)) 7) b && bT (rSn W L m (1 <<< (nI b &&& 31)) 7) c) m hm b hb).mp h
  omega
def rPa (W L : Nat → Int32) (m : Nat) : Nat → Int32
  | 0 => 0
  | n + 1 => if rCl W L m n &&& ((1 <<< (nI n &&& 31)) - 1) = 0 then rPa W L m n + 1 else rPa W L m n
def rMo (W L : Nat → Int32) (m : Nat) : Nat → Int32
  | 0 => 0
  | n + 1 => if rMo W L m n < zBs (rCl W L m n) 12 then zBs (rCl W L m n) 12 else rMo W L m n
theorem rPa_y {W L : Nat → Int32} {m n : Nat} {u : Int32} (hu : u = rCl W L m n) (h : u &&& ((1 <<< (nI n &&& 31)) - 1) = 0) : rPa W L m (n + 1) = rPa W L m n + 1 := by
  rw [hu] at h
  exact if_pos h
theorem rPa_n {W L : Nat → Int32} {m n : Nat} {u : Int32} (hu : u = rCl W L m n) (h : ¬ u &&& ((1 <<< (nI n &&& 31)) - 1) = 0) : rPa W L m (n + 1) = rPa W L m n := by
  rw [hu] at h
  exact if_neg h
/-! how many roads lead there -/
def rHr (L : Nat → Int32) (a : Nat) (y : Int32) : Nat → Nat
  | 0 => 0
  | n + 1 => rHr L a y n + if L (4 * a + n) = y then 1 else 0
theorem rHr_le {L : Nat → Int32} {a : Nat} {y : Int32} : ∀ n, rHr L a y n ≤ n
  | 0 => Nat.le_refl _
  | n + 1 => by
    have ih := rHr_le (L := L) (a := a) (y := y) n
    unfold rHr
    split <;> omega
def rHt (W L : Nat → Int32) (y : Int32) (own : Bool) : Nat → Nat
  | 0 => 0
  | a + 1 => rHt W L y own a + if own = true ∨ ¬ nI a = y then rHr L a y (W a).toInt.toNat else 0
theorem rHt_le {W L : Nat → Int32} {y : Int32} {own : Bool} (h4 : ∀ j, j < 7 → (W j).toInt ≤ 4) : ∀ n, n ≤ 7 → rHt W L y own n ≤ 4 * n
  | 0, _ => Nat.le_refl _
  | n + 1, hn => by
    have ih := rHt_le (L := L) (y := y) (own := own) h4 n (by omega)
    have l := rHr_le (L := L) (a := n) (y := y) (W n).toInt.toNat
    have w := h4 n (by omega)
    unfold rHt
    split <;> omega
theorem rHr_s {L : Nat → Int32} {a n : Nat} {u y x : Int32} (hu : u = nI (rHr L a y n)) (hx : x = L (4 * a + n)) : (x = y → u + 1 = nI (rHr L a y (n + 1))) ∧ (¬ x = y → u + 0 = nI (rHr L a y (n + 1))) := by
  constructor
  · intro q
    have e : rHr L a y (n + 1) = rHr L a y n + 1 := by
      show rHr L a y n + (if L (4 * a + n) = y then 1 else 0) = _
      rw [if_pos (by rw [← hx]; exact q)]
    rw [e, hu]
    exact nI_add _ 1
  · intro q
    have e : rHr L a y (n + 1) = rHr L a y n := by
      show rHr L a y n + (if L (4 * a + n) = y then 1 else 0) = _
      rw [if_neg (by rw [← hx]; exact q), Nat.add_zero]
    rw [e, hu]
    exact nI_add _ 0
def rLo (W L : Nat → Int32) : Nat → Int32
  | 0 => 0
  | n + 1 => rLo W L n + nI (rHr L n (nI n) (W n).toInt.toNat)
/-- couples of roads, the one of which leads where the other one does -/
def rPr (L : Nat → Int32) (c k : Nat) : Nat → Nat
  | 0 => 0
  | i + 1 => rPr L c k i + if L (4 * c + k) = L (4 * c + i) then 1 else 0
def rDr (L : Nat → Int32) (c : Nat) : Nat → Nat
  | 0 => 0
  | k + 1 => rDr L c k + rPr L c k k
def rDc (L : Nat → Int32) (c n : Nat) : Nat → Nat
  | 0 => 0
  | t + 1 => rDc L c n t + rHr L c (nI t) n * (rHr L c (nI t) n - 1) / 2
theorem rPr_e {L : Nat → Int32} {c k : Nat} : ∀ i, rPr L c k i = rHr L c (L (4 * c + k)) i
  | 0 => rfl
  | i + 1 => by
    unfold rPr rHr
    rw [rPr_e i]
    by_cases q : L (4 * c + k) = L (4 * c + i)
    · rw [if_pos q, if_pos q.symm]
    · rw [if_neg q, if_neg (fun z => q z.symm)]
theorem rTri : ∀ x, x < 5 → (x + 1) * (x + 1 - 1) / 2 = x * (x - 1) / 2 + x := by decide
theorem rDc_s {L : Nat → Int32} {c n t : Nat} (hn : n < 5) (ht : t < 1000) (e : L (4 * c + n) = nI t) : ∀ M, M ≤ 1000 → rDc L c (n + 1) M = rDc L c n M + if t < M then rHr L c (nI t) n else 0
  | 0, _ => rfl
  | M + 1, hM => by
    have ih := rDc_s (L := L) (c := c) hn ht e M (by omega)
    have l := rHr_le (L := L) (a := c) (y := nI M) n
    have st : rHr L c (nI M) (n + 1) = rHr L c (nI M) n + if t = M then 1 else 0 := by
      show rHr L c (nI M) n + (if L (4 * c + n) = nI M then 1 else 0) = _
      rw [e]
      by_cases q : t = M
      · rw [if_pos q, if_pos (by rw [q])]
      · rw [if_neg q, if_neg (fun z => q ((nI_i (by omega) (by omega)).mp z))]
    show rDc L c (n + 1) M + rHr L c (nI M) (n + 1) * (rHr L c (nI M) (n + 1) - 1) / 2 = rDc L c n M + rHr L c (nI M) n * (rHr L c (nI M) n - 1) / 2 + _
    rw [ih, st]
    by_cases q : t = M
    · have tr := rTri (rHr L c (nI M) n) (by omega)
      rw [if_pos q, if_neg (by omega), if_pos (by omega), tr, q]
      omega
    · rw [if_neg q, Nat.add_zero]
      by_cases z : t < M
      · rw [if_pos z, if_pos (by omega)]
        omega
      · rw [if_neg z, if_neg (by omega)]
        omega
theorem rDc_e {W L : Nat → Int32} {m c : Nat} (hO : rOk W L m) (hc : c < 7) : ∀ n : Nat, (n : Int) ≤ (W c).toInt → rDc L c n m = rDr L c n
  | 0, _ => by
    have z : ∀ M, rDc L c 0 M = 0 := fun M => by
      induction M with
      | zero => rfl
      | succ M ih =>
        show rDc L c 0 M + 0 * (0 - 1) / 2 = 0
        rw [ih]
    exact z m
  | n + 1, hn => by
    have w := (hO.2.1 c hc).2
    have l := hO.2.2 c n hc (by omega)
    have m7 := hO.1
    have e : L (4 * c + n) = nI (L (4 * c + n)).toInt.toNat := z_nI (by omega) (by omega)
    rw [rDc_s (t := (L (4 * c + n)).toInt.toNat) (by omega) (by omega) e m (by omega), if_pos (by omega), rDc_e hO hc n (by omega), ← e]
    show _ = rDr L c n + rPr L c n n
    rw [rPr_e]
theorem rTriI : ∀ x, x < 5 → nI x * (nI x - 1) / 2 = nI (x * (x - 1) / 2) := by decide +kernel
def rDo (W L : Nat → Int32) : Nat → Int32
  | 0 => 0
  | n + 1 => rDo W L n + nI (rDr L n (W n).toInt.toNat)
/-- the first one of which it is most -/
def rBu (g : Nat → Nat) : Nat → Nat
  | 0 => 0
  | n + 1 => if n = 0 then 0 else if g (rBu g n) < g n then n else rBu g n
def rBz (g : Nat → Nat) (m : Nat) : Int32 := if m = 0 then -1 else nI (rBu g m)
def rBi (g : Nat → Nat) (i : Nat) (u v : Int32) : Prop := (i = 0 ∧ u = -1 ∧ v = -1) ∨ (1 ≤ i ∧ u = nI (rBu g i) ∧ v = nI (g (rBu g i)))
theorem rBi_s {g : Nat → Nat} {i : Nat} {u v x : Int32} (hg : ∀ c, g c < 1000) (h : rBi g i u v) (hx : x = nI (g i)) : (v < x → rBi g (i + 1) (nI i) x) ∧ (¬ v < x → rBi g (i + 1) u v) := by
  have t := nI_toInt (n := g i) (by have := hg i; omega)
  rcases h with ⟨a, b, c⟩ | ⟨a, b, c⟩
  · have e : rBu g (i + 1) = 0 := if_pos a
    refine ⟨fun _ => Or.inr ⟨by omega, by rw [e, a], by rw [e, hx, a]⟩, fun q => ?_⟩
    exfalso
    refine q ((fa_lt _ _).mpr ?_)
    rw [hx, t, c]
    have : (-1 : Int32).toInt = -1 := rfl
    omega
  · have t2 := nI_toInt (n := g (rBu g i)) (by have := hg (rBu g i); omega)
    have e : rBu g (i + 1) = if g (rBu g i) < g i then i else rBu g i := if_neg (by omega)
    constructor
    · intro q
      have q := (fa_lt _ _).mp q
      rw [hx, t, c, t2] at q
      rw [if_pos (by omega)] at e
      exact Or.inr ⟨by omega, by rw [e], by rw [e, hx]⟩
    · intro q
      have q : ¬ v.toInt < x.toInt := fun z => q ((fa_lt _ _).mpr z)
      rw [hx, t, c, t2] at q
      rw [if_neg (by omega)] at e
      exact Or.inr ⟨by omega, by rw [e]; exact b, by rw [e]; exact c⟩
theorem rBi_e {g : Nat → Nat} {m : Nat} {u v : Int32} (h : rBi g m u v) : u = rBz g m := by
  unfold rBz
  rcases h with ⟨a, b, c⟩ | ⟨a, b, c⟩
  · rw [if_pos a]; exact b
  · rw [if_neg (by omega)]; exact b
/-! heads -/
theorem rHr_0 {L : Nat → Int32} {a : Nat} {y : Int32} : ∀ n, rHr L a y n = 0 ↔ ¬ ∃ r, r < n ∧ L (4 * a + r) = y
  | 0 => ⟨fun _ => fun ⟨r, h, _⟩ => absurd h (by omega), fun _ => rfl⟩
  | n + 1 => by
    have ih := rHr_0 (L := L) (a := a) (y := y) n
    show rHr L a y n + (if L (4 * a + n) = y then 1 else 0) = 0 ↔ _
    by_cases q : L (4 * a + n) = y
    · rw [if_pos q]
      exact ⟨fun z => absurd z (by omega), fun z => absurd ⟨n, by omega, q⟩ z⟩
    · rw [if_neg q, Nat.add_zero, ih]
      constructor
      · rintro z ⟨r, h, e⟩
        by_cases w : r = n
        · rw [w] at e; exact q e
        · exact z ⟨r, by omega, e⟩
      · rintro z ⟨r, h, e⟩
        exact z ⟨r, by omega, e⟩
theorem rE_r {W L : Nat → Int32} {a b : Nat} : rE W L a b ↔ ∃ r, r < (W a).toInt.toNat ∧ L (4 * a + r) = nI b := by
  constructor
  · rintro ⟨r, h, e⟩
    exact ⟨r, by omega, e⟩
  · rintro ⟨r, h, e⟩
    exact ⟨r, by omega, e⟩
theorem rHt_0 {W L : Nat → Int32} {b : Nat} (hb : b < 1000) : ∀ n, n < 1000 → (rHt W L (nI b) false n = 0 ↔ ¬ ∃ c, c < n ∧ ¬ c = b ∧ rE W L c b)
  | 0, _ => ⟨fun _ => fun ⟨c, h, _⟩ => absurd h (by omega), fun _ => rfl⟩
  | n + 1, hn => by
    have ih := rHt_0 (W := W) (L := L) hb n (by omega)
    have z := rHr_0 (L := L) (a := n) (y := nI b) (W n).toInt.toNat
    rw [← rE_r] at z
    show rHt W L (nI b) false n + (if false = true ∨ ¬ nI n = nI b then rHr L n (nI b) (W n).toInt.toNat else 0) = 0 ↔ _
    by_cases q : n = b
    · rw [if_neg (fun w => w.elim (fun w => absurd w (by decide)) (fun w => w (by rw [q]))), Nat.add_zero, ih]
      constructor
      · rintro u ⟨c, h, e, f⟩
        exact u ⟨c, by omega, e, f⟩
      · rintro u ⟨c, h, e, f⟩
        exact u ⟨c, by omega, e, f⟩
    · rw [if_pos (Or.inr (fun w => q ((nI_i (by omega) hb).mp w)))]
      constructor
      · intro u
        have u1 := ih.mp (by omega)
        have u2 := z.mp (by omega)
        rintro ⟨c, h, e, f⟩
        by_cases w : c = n
        · rw [w] at f; exact u2 f
        · exact u1 ⟨c, by omega, e, f⟩
      · intro u
        have u1 := ih.mpr (fun ⟨c, h, e, f⟩ => u ⟨c, by omega, e, f⟩)
        have u2 := z.mpr (fun f => u ⟨n, by omega, q, f⟩)
        omega
theorem rMm : ∀ m, m < 8 → ∀ b, b < 32 → bT ((1 <<< (nI m &&& 31)) - 1) b = decide (b < m) := by decide +kernel
def rHd (W L : Nat → Int32) (m : Nat) : Int32 := rCk (fun b => decide (rHt W L (nI b) false m = 0)) m
def rEn (W : Nat → Int32) (inn : Int32) (m : Nat) : Int32 := rCk (fun c => decide (W c = 0 ∧ ¬ zBit inn (nI c) = 1)) m
def rEv (W L : Nat → Int32) (m : Nat) : Int32 := rCk (fun c => decide (nI (rHt W L (nI c) true m) = W c)) m
def rCs (W L : Nat → Int32) (m : Nat) (inn w : Int32) : Int32 := if w.toInt = 0 then rPa W L m m else if w.toInt = 1 then rMo W L m m else if w.toInt = 2 then rHd W L m else if w.toInt = 3 then rEn W inn m else if w.toInt = 4 then rLo W L m else if w.toInt = 5 then rDo W L m else if w.toInt = 6 then rEv W L m else if w.toInt = 7 then rBz (fun c => rHt W L (nI c) true m) m else -2
theorem kHd_s {cr inn u : Int32} {k1 k2 k3 : Nat → Int32} {i : Nat} (hI : zLI cr k1 k3) (hq : zLq cr k1 k2) (hi : (i : Int) < cr.toInt) (h : ∀ b, b < 32 → (bT u b = true ↔ ∃ c, c < i ∧ ¬ c = b ∧ rE (kW cr inn k1) k2 c b)) : ∀ b, b < 32 → (bT (u ||| (zSpread cr inn k1 k2 (1 <<< (nI i &&& 31)) &&& ((1 <<< (nI i &&& 31)) ^^^ (-1)))) b = true ↔ ∃ c, c < i + 1 ∧ ¬ c = b ∧ rE (kW cr inn k1) k2 c b) := by
  intro b hb
  have hO := kOk (inn := inn) hI hq
  have m7 := hO.1
  rw [bT_or, Bool.or_eq_true, h b hb, bT_and, Bool.and_eq_true, bT_not _ hb, zSpread_e hI, rC_b hO hb _ m7, bT_s0 i (by omega) b hb, Bool.not_eq_true', decide_eq_false_iff_not, decide_eq_true_eq]
  constructor
  · rintro (⟨c, a, d, e⟩ | ⟨d | ⟨c, a, d, e⟩, f⟩)
    · exact ⟨c, by omega, d, e⟩
    · exact absurd d f
    · rw [bT_s0 i (by omega) c (by omega), decide_eq_true_eq] at d
      rw [d] at e
      exact ⟨i, by omega, fun z => f z.symm, e⟩
  · rintro ⟨c, a, d, e⟩
    by_cases z : c = i
    · rw [z] at d e
      exact Or.inr ⟨Or.inr ⟨i, by omega, by rw [bT_s0 i (by omega) i (by omega), decide_eq_true_eq], e⟩, fun w => d w.symm⟩
    · exact Or.inl ⟨c, by omega, d, e⟩
theorem kHd_e {W L : Nat → Int32} {m : Nat} {cr u : Int32} (hm : m ≤ 7) (hc : cr = nI m) (h : ∀ b, b < 32 → (bT u b = true ↔ ∃ c, c < m ∧ ¬ c = b ∧ rE W L c b)) : (u ^^^ (-1 : Int32)) &&& (((1 : Int32) <<< (cr &&& 31)) - 1) = rHd W L m := by
  refine rCk_u (Q := fun b => ¬ ∃ c, c < m ∧ ¬ c = b ∧ rE W L c b) hm (fun b hb => ?_) (fun b hb => ?_)
  · rw [bT_and, Bool.and_eq_true, bT_not _ hb, hc, rMm m (by omega) b hb, decide_eq_true_eq, Bool.not_eq_true']
    constructor
    · rintro ⟨p, q⟩
      exact ⟨q, fun z => absurd ((h b hb).mpr z) (by rw [p]; decide)⟩
    · rintro ⟨p, q⟩
      refine ⟨?_, p⟩
      cases e : bT u b with
      | false => rfl
      | true => exact absurd ((h b hb).mp e) q
  · rw [decide_eq_true_eq]
    exact (rHt_0 (by omega) m (by omega)).symm
/-! two tellings of the same roads -/
section RCG
variable {W V L L' : Nat → Int32} {m : Nat}
theorem rHr_cg {a : Nat} {y : Int32} : ∀ n, (∀ r, r < n → L (4 * a + r) = L' (4 * a + r)) → rHr L a y n = rHr L' a y n
  | 0, _ => rfl
  | n + 1, h => by
    unfold rHr
    rw [rHr_cg n (fun r hr => h r (by omega)), h n (by omega)]
theorem rLs {n : Nat} (hL : zLs W L L') (h4 : ∀ j, j < 7 → (W j).toInt ≤ 4) (hn : n < 7) : ∀ r, r < (W n).toInt.toNat → L (4 * n + r) = L' (4 * n + r) := fun r hr => hL n r hn (by have := h4 n hn; omega) (by omega)
theorem rHt_cg {y : Int32} {own : Bool} (hW : ∀ j, j < 7 → W j = V j) (hL : zLs W L L') (h4 : ∀ j, j < 7 → (W j).toInt ≤ 4) : ∀ n, n ≤ 7 → rHt W L y own n = rHt V L' y own n
  | 0, _ => rfl
  | n + 1, hn => by
    unfold rHt
    rw [rHt_cg hW hL h4 n (by omega), rHr_cg _ (rLs hL h4 (by omega)), hW n (by omega)]
theorem rCl_cg (hW : ∀ j, j < 7 → W j = V j) (hL : zLs W L L') (h4 : ∀ j, j < 7 → (W j).toInt ≤ 4) (hm : m ≤ 7) (c : Nat) : rCl W L m c = rCl V L' m c := rCk_cg m (fun b _ => by rw [rSn_cg hW hL h4 hm 7, rSn_cg hW hL h4 hm 7])
theorem rPa_cg (hW : ∀ j, j < 7 → W j = V j) (hL : zLs W L L') (h4 : ∀ j, j < 7 → (W j).toInt ≤ 4) (hm : m ≤ 7) : ∀ n, rPa W L m n = rPa V L' m n
  | 0 => rfl
  | n + 1 => by
    unfold rPa
    rw [rPa_cg hW hL h4 hm n, rCl_cg hW hL h4 hm n]
theorem rMo_cg (hW : ∀ j, j < 7 → W j = V j) (hL : zLs W L L') (h4 : ∀ j, j < 7 → (W j).toInt ≤ 4) (hm : m ≤ 7) : ∀ n, rMo W L m n = rMo V L' m n
  | 0 => rfl
  | n + 1 => by
    unfold rMo
    rw [rMo_cg hW hL h4 hm n, rCl_cg hW hL h4 hm n]
theorem rLo_cg (hW : ∀ j, j < 7 → W j = V j) (hL : zLs W L L') (h4 : ∀ j, j < 7 → (W j).toInt ≤ 4) : ∀ n, n ≤ 7 → rLo W L n = rLo V L' n
  | 0, _ => rfl
  | n + 1, hn => by
    unfold rLo
    rw [rLo_cg hW hL h4 n (by omega), rHr_cg _ (rLs hL h4 (by omega)), hW n (by omega)]
theorem rPr_cg {c k : Nat} (h : L (4 * c + k) = L' (4 * c + k)) : ∀ i, (∀ r, r < i → L (4 * c + r) = L' (4 * c + r)) → rPr L c k i = rPr L' c k i
  | 0, _ => rfl
  | i + 1, h2 => by
    unfold rPr
    rw [rPr_cg h i (fun r hr => h2 r (by omega)), h2 i (by omega), h]
theorem rDr_cg {c : Nat} : ∀ n, (∀ r, r < n → L (4 * c + r) = L' (4 * c + r)) → rDr L c n = rDr L' c n
  | 0, _ => rfl
  | n + 1, h => by
    unfold rDr
    rw [rDr_cg n (fun r hr => h r (by omega)), rPr_cg (h n (by omega)) n (fun r hr => h r (by omega))]
theorem rDo_cg (hW : ∀ j, j < 7 → W j = V j) (hL : zLs W L L') (h4 : ∀ j, j < 7 → (W j).toInt ≤ 4) : ∀ n, n ≤ 7 → rDo W L n = rDo V L' n
  | 0, _ => rfl
  | n + 1, hn => by
    unfold rDo
    rw [rDo_cg hW hL h4 n (by omega), rDr_cg _ (rLs hL h4 (by omega)), hW n (by omega)]
theorem rCs_cg {inn w : Int32} (hW : ∀ j, j < 7 → W j = V j) (hL : zLs W L L') (h4 : ∀ j, j < 7 → (W j).toInt ≤ 4) (hm : m ≤ 7) : rCs W L m inn w = rCs V L' m inn w := by
  have e1 := rPa_cg hW hL h4 hm m
  have e2 := rMo_cg hW hL h4 hm m
  have e3 : rHd W L m = rHd V L' m := rCk_cg m (fun b _ => by rw [rHt_cg hW hL h4 m hm])
  have e4 : rEn W inn m = rEn V inn m := rCk_cg m (fun b hb => by rw [hW b (by omega)])
  have e5 := rLo_cg hW hL h4 m hm
  have e6 := rDo_cg hW hL h4 m hm
  have e7 : rEv W L m = rEv V L' m := rCk_cg m (fun b hb => by rw [rHt_cg hW hL h4 m hm, hW b (by omega)])
  have e8 : rBz (fun c => rHt W L (nI c) true m) m = rBz (fun c => rHt V L' (nI c) true m) m := congrArg (fun g => rBz g m) (funext (fun c => rHt_cg hW hL h4 m hm))
  unfold rCs
  rw [e1, e2, e3, e4, e5, e6, e7, e8]
end RCG
def kClasses (cr inn : Int32) (k1 k2 k3 : Nat → Int32) (w : Int32) : Int32 := rCs (kW cr inn k1) k2 cr.toInt.toNat inn w
def pClasses (f : Nat → Int32) (z w : Int32) : Int32 := rCs (pW f z) (zLo f z) (f z.toInt.toNat).toInt.toNat (f (z.toInt.toNat + 1)) w
theorem kClasses_e {cr inn z w : Int32} {k1 k2 k3 k4 f : Nat → Int32} {B : Nat} (h : zLnd cr inn k1 k2 k3 k4 (fun j => f (B + j))) (hF : zLF (fun j => f (B + j))) (hz : z.toInt.toNat = B) : kClasses cr inn k1 k2 k3 w = pClasses f z w := by
  obtain ⟨a1, a2, a3, a4, a5, a6⟩ := zLnd_w h hF hz
  have c7 := zLnd_7 (z := z) h
  unfold kClasses pClasses
  rw [← a5, ← a6]
  exact rCs_cg a1 a2 (fun j hj => (a4 j hj).1.2) (by omega)
theorem bx_n {u x : Int32} (h0 : 0 ≤ x.toInt) (h6 : x.toInt ≤ 6) (h : zBit u x = 0) : bT u x.toInt.toNat = false := bT_n (by omega) (by rw [← (z_nI (x := x) (m := x.toInt.toNat) (by omega) (by omega))]; exact h)
theorem bx_y {u x : Int32} (h0 : 0 ≤ x.toInt) (h6 : x.toInt ≤ 6) (h : ¬ zBit u x = 0) : bT u x.toInt.toNat = true := bT_y (by omega) (by rw [← (z_nI (x := x) (m := x.toInt.toNat) (by omega) (by omega))]; exact h)
theorem rCl_u {W L : Nat → Int32} {m : Nat} {u x : Int32} (hm : m ≤ 7) (h0 : 0 ≤ x.toInt) (h6 : x.toInt ≤ 6) (h : rOb (fun b => bT (rSn W L m (1 <<< (x &&& 31)) 7) b = true ∧ bT (rSn W L m (1 <<< (nI b &&& 31)) 7) x.toInt.toNat = true) m u) : u = rCl W L m x.toInt.toNat := by
  refine rCk_u hm h (fun b hb => ?_)
  rw [Bool.and_eq_true, ← (z_nI (x := x) (m := x.toInt.toNat) (by omega) (by omega))]
theorem kTg {cr inn x : Int32} {k1 k2 k3 : Nat → Int32} (hI : zLI cr k1 k3) (h0 : 0 ≤ x.toInt) (h6 : x.toInt ≤ 6) {r : Nat} (h : (r : Int) < (zWays cr inn k1 x).toInt) : zTarget cr k1 k2 x (nI r) = k2 (4 * x.toInt.toNat + r) := by
  have e : x = nI x.toInt.toNat := z_nI (by omega) (by omega)
  have t := zTarget_e (k2 := k2) (inn := inn) hI (c := x.toInt.toNat) (r := r) (by omega) (by rw [← e]; exact h)
  rw [← e] at t
  exact t
def zJb (x : Int32) : Int32 := (((((((x - (((x.toUInt32 >>> ((1 : Int32).toUInt32 &&& Int32.toUInt32 31)).toInt32) &&& 1431655765)) &&& 858993459) + ((((x - (((x.toUInt32 >>> ((1 : Int32).toUInt32 &&& Int32.toUInt32 31)).toInt32) &&& 1431655765)).toUInt32 >>> ((2 : Int32).toUInt32 &&& Int32.toUInt32 31)).toInt32) &&& 858993459)) + (((((x - (((x.toUInt32 >>> ((1 : Int32).toUInt32 &&& Int32.toUInt32 31)).toInt32) &&& 1431655765)) &&& 858993459) + ((((x - (((x.toUInt32 >>> ((1 : Int32).toUInt32 &&& Int32.toUInt32 31)).toInt32) &&& 1431655765)).toUInt32 >>> ((2 : Int32).toUInt32 &&& Int32.toUInt32 31)).toInt32) &&& 858993459)).toUInt32 >>> ((4 : Int32).toUInt32 &&& Int32.toUInt32 31)).toInt32)) &&& 252645135) + (((((((x - (((x.toUInt32 >>> ((1 : Int32).toUInt32 &&& Int32.toUInt32 31)).toInt32) &&& 1431655765)) &&& 858993459) + ((((x - (((x.toUInt32 >>> ((1 : Int32).toUInt32 &&& Int32.toUInt32 31)).toInt32) &&& 1431655765)).toUInt32 >>> ((2 : Int32).toUInt32 &&& Int32.toUInt32 31)).toInt32) &&& 858993459)) + (((((x - (((x.toUInt32 >>> ((1 : Int32).toUInt32 &&& Int32.toUInt32 31)).toInt32) &&& 1431655765)) &&& 858993459) + ((((x - (((x.toUInt32 >>> ((1 : Int32).toUInt32 &&& Int32.toUInt32 31)).toInt32) &&& 1431655765)).toUInt32 >>> ((2 : Int32).toUInt32 &&& Int32.toUInt32 31)).toInt32) &&& 858993459)).toUInt32 >>> ((4 : Int32).toUInt32 &&& Int32.toUInt32 31)).toInt32)) &&& 252645135).toUInt32 >>> ((8 : Int32).toUInt32 &&& Int32.toUInt32 31)).toInt32)) + ((((((((x - (((x.toUInt32 >>> ((1 : Int32).toUInt32 &&& Int32.toUInt32 31)).toInt32) &&& 1431655765)) &&& 858993459) + ((((x - (((x.toUInt32 >>> ((1 : Int32).toUInt32 &&& Int32.toUInt32 31)).toInt32) &&& 1431655765)).toUInt32 >>> ((2 : Int32).toUInt32 &&& Int32.toUInt32 31)).toInt32) &&& 858993459)) + (((((x - (((x.toUInt32 >>> ((1 : Int32).toUInt32 &&& Int32.toUInt32 31)).toInt32) &&& 1431655765)) &&& 858993459) + ((((x - (((x.toUInt32 >>> ((1 : Int32).toUInt32 &&& Int32.toUInt32 31)).toInt32) &&& 1431655765)).toUInt32 >>> ((2 : Int32).toUInt32 &&& Int32.toUInt32 31)).toInt32) &&& 858993459)).toUInt32 >>> ((4 : Int32).toUInt32 &&& Int32.toUInt32 31)).toInt32)) &&& 252645135) + (((((((x - (((x.toUInt32 >>> ((1 : Int32).toUInt32 &&& Int32.toUInt32 31)).toInt32) &&& 1431655765)) &&& 858993459) + ((((x - (((x.toUInt32 >>> ((1 : Int32).toUInt32 &&& Int32.toUInt32 31)).toInt32) &&& 1431655765)).toUInt32 >>> ((2 : Int32).toUInt32 &&& Int32.toUInt32 31)).toInt32) &&& 858993459)) + (((((x - (((x.toUInt32 >>> ((1 : Int32).toUInt32 &&& Int32.toUInt32 31)).toInt32) &&& 1431655765)) &&& 858993459) + ((((x - (((x.toUInt32 >>> ((1 : Int32).toUInt32 &&& Int32.toUInt32 31)).toInt32) &&& 1431655765)).toUInt32 >>> ((2 : Int32).toUInt32 &&& Int32.toUInt32 31)).toInt32) &&& 858993459)).toUInt32 >>> ((4 : Int32).toUInt32 &&& Int32.toUInt32 31)).toInt32)) &&& 252645135).toUInt32 >>> ((8 : Int32).toUInt32 &&& Int32.toUInt32 31)).toInt32)).toUInt32 >>> ((16 : Int32).toUInt32 &&& Int32.toUInt32 31)).toInt32)) &&& 63
set_option maxHeartbeats 4000000 in
set_option maxRecDepth 100000 in
/-- bitCount -/
theorem c_f_bitCount (l : Launch) (T : zTy) (x : Int32) : zMi l T yJ6_bitCount_0f7a4 cJ6_bitCount_0f7a4 1 (some .int) 1 0 0 [.int x] [] (fun (r : Int32) bs => bs = [] ∧ r = zJb x) := by
  refine zMi_of (own := RJ6) (by decide) rfl (Nat.le_of_ble_eq_true rfl) ?_
  intro p e s m args below meth c A ls C hr hlocks hnm hAe G hl
  refine zHide (fun Qz_ hQz_ => ?_)
  have hx := C.1
  have hb := C.2.1
  have hl : lv_has ls 1 [(0, .int x)] := hl
  refine lv_iload_n hx hb dJ6_bitCount_0f7a4_0 rfl (lv_at hl 0 rfl) ?_
  refine lv_iload_n hx hb dJ6_bitCount_0f7a4_1 rfl (lv_at hl 0 rfl) ?_
  refine lv_iconst (v := 1) hx hb dJ6_bitCount_0f7a4_2 (by decide) ?_
  refine lv_iushr hx hb dJ6_bitCount_0f7a4_3 rfl ?_
  refine lv_ldcw (v := 1431655765) hx hb C.2.2.2.1 (C.2.2.2.2 _ m_ko_RJ6_265) dJ6_bitCount_0f7a4_4 ?_
  refine lv_iand hx hb dJ6_bitCount_0f7a4_7 ?_
  refine lv_isub hx hb dJ6_bitCount_0f7a4_8 ?_
  refine lv_istore_n (lv' := [(0, .int (x - (((x.toUInt32 >>> ((1 : Int32).toUInt32 &&& Int32.toUInt32 31)).toInt32) &&& 1431655765)))]) hx hb dJ6_bitCount_0f7a4_9 rfl hl (by decide) (zLvf_h rfl) (fun ls hl => ?_)
  refine lv_iload_n hx hb dJ6_bitCount_0f7a4_10 rfl (lv_at hl 0 rfl) ?_
  refine lv_ldcw (v := 858993459) hx hb C.2.2.2.1 (C.2.2.2.2 _ m_ko_RJ6_266) dJ6_bitCount_0f7a4_11 ?_
  refine lv_iand hx hb dJ6_bitCount_0f7a4_14 ?_
  refine lv_iload_n hx hb dJ6_bitCount_0f7a4_15 rfl (lv_at hl 0 rfl) ?_
  refine lv_iconst (v := 2) hx hb dJ6_bitCount_0f7a4_16 (by decide) ?_
  refine lv_iushr hx hb dJ6_bitCount_0f7a4_17 rfl ?_
  refine lv_ldcw (v := 858993459) hx hb C.2.2.2.1 (C.2.2.2.2 _ m_ko_RJ6_266) dJ6_bitCount_0f7a4_18 ?_
  refine lv_iand hx hb dJ6_bitCount_0f7a4_21 ?_
  refine lv_iadd hx hb dJ6_bitCount_0f7a4_22 ?_
  refine lv_istore_n (lv' := [(0, .int (((x - (((x.toUInt32 >>> ((1 : Int32).toUInt32 &&& Int32.toUInt32 31)).toInt32) &&& 1431655765)) &&& 858993459) + ((((x - (((x.toUInt32 >>> ((1 : Int32).toUInt32 &&& Int32.toUInt32 31)).toInt32) &&& 1431655765)).toUInt32 >>> ((2 : Int32).toUInt32 &&& Int32.toUInt32 31)).toInt32) &&& 858993459)))]) hx hb dJ6_bitCount_0f7a4_23 rfl hl (by decide) (zLvf_h rfl) (fun ls hl => ?_)
  refine lv_iload_n hx hb dJ6_bitCount_0f7a4_24 rfl (lv_at hl 0 rfl) ?_
  refine lv_iload_n hx hb dJ6_bitCount_0f7a4_25 rfl (lv_at hl 0 rfl) ?_
  refine lv_iconst (v := 4) hx hb dJ6_bitCount_0f7a4_26 (by decide) ?_
  refine lv_iushr hx hb dJ6_bitCount_0f7a4_27 rfl ?_
  refine lv_iadd hx hb dJ6_bitCount_0f7a4_28 ?_
  refine lv_ldcw (v := 252645135) hx hb C.2.2.2.1 (C.2.2.2.2 _ m_ko_RJ6_267) dJ6_bitCount_0f7a4_29 ?_
  refine lv_iand hx hb dJ6_bitCount_0f7a4_32 ?_
  refine lv_istore_n (lv' := [(0, .int (((((x - (((x.toUInt32 >>> ((1 : Int32).toUInt32 &&& Int32.toUInt32 31)).toInt32) &&& 1431655765)) &&& 858993459) + ((((x - (((x.toUInt32 >>> ((1 : Int32).toUInt32 &&& Int32.toUInt32 31)).toInt32) &&& 1431655765)).toUInt32 >>> ((2 : Int32).toUInt32 &&& Int32.toUInt32 31)).toInt32) &&& 858993459)) + (((((x - (((x.toUInt32 >>> ((1 : Int32).toUInt32 &&& Int32.toUInt32 31)).toInt32) &&& 1431655765)) &&& 858993459) + ((((x - (((x.toUInt32 >>> ((1 : Int32).toUInt32 &&& Int32.toUInt32 31)).toInt32) &&& 1431655765)).toUInt32 >>> ((2 : Int32).toUInt32 &&& Int32.toUInt32 31)).toInt32) &&& 858993459)).toUInt32 >>> ((4 : Int32).toUInt32 &&& Int32.toUInt32 31)).toInt32)) &&& 252645135))]) hx hb dJ6_bitCount_0f7a4_33 rfl hl (by decide) (zLvf_h rfl) (fun ls hl => ?_)
  refine lv_iload_n hx hb dJ6_bitCount_0f7a4_34 rfl (lv_at hl 0 rfl) ?_
  refine lv_iload_n hx hb dJ6_bitCount_0f7a4_35 rfl (lv_at hl 0 rfl) ?_
  refine lv_bipush (v := 8) hx hb dJ6_bitCount_0f7a4_36 (by decide) ?_
  refine lv_iushr hx hb dJ6_bitCount_0f7a4_38 rfl ?_
  refine lv_iadd hx hb dJ6_bitCount_0f7a4_39 ?_
  refine lv_istore_n (lv' := [(0, .int ((((((x - (((x.toUInt32 >>> ((1 : Int32).toUInt32 &&& Int32.toUInt32 31)).toInt32) &&& 1431655765)) &&& 858993459) + ((((x - (((x.toUInt32 >>> ((1 : Int32).toUInt32 &&& Int32.toUInt32 31)).toInt32) &&& 1431655765)).toUInt32 >>> ((2 : Int32).toUInt32 &&& Int32.toUInt32 31)).toInt32) &&& 858993459)) + (((((x - (((x.toUInt32 >>> ((1 : Int32).toUInt32 &&& Int32.toUInt32 31)).toInt32) &&& 1431655765)) &&& 858993459) + ((((x - (((x.toUInt32 >>> ((1 : Int32).toUInt32 &&& Int32.toUInt32 31)).toInt32) &&& 1431655765)).toUInt32 >>> ((2 : Int32).toUInt32 &&& Int32.toUInt32 31)).toInt32) &&& 858993459)).toUInt32 >>> ((4 : Int32).toUInt32 &&& Int32.toUInt32 31)).toInt32)) &&& 252645135) + (((((((x - (((x.toUInt32 >>> ((1 : Int32).toUInt32 &&& Int32.toUInt32 31)).toInt32) &&& 1431655765)) &&& 858993459) + ((((x - (((x.toUInt32 >>> ((1 : Int32).toUInt32 &&& Int32.toUInt32 31)).toInt32) &&& 1431655765)).toUInt32 >>> ((2 : Int32).toUInt32 &&& Int32.toUInt32 31)).toInt32) &&& 858993459)) + (((((x - (((x.toUInt32 >>> ((1 : Int32).toUInt32 &&& Int32.toUInt32 31)).toInt32) &&& 1431655765)) &&& 858993459) + ((((x - (((x.toUInt32 >>> ((1 : Int32).toUInt32 &&& Int32.toUInt32 31)).toInt32) &&& 1431655765)).toUInt32 >>> ((2 : Int32).toUInt32 &&& Int32.toUInt32 31)).toInt32) &&& 858993459)).toUInt32 >>> ((4 : Int32).toUInt32 &&& Int32.toUInt32 31)).toInt32)) &&& 252645135).toUInt32 >>> ((8 : Int32).toUInt32 &&& Int32.toUInt32 31)).toInt32)))]) hx hb dJ6_bitCount_0f7a4_40 rfl hl (by decide) (zLvf_h rfl) (fun ls hl => ?_)
  refine lv_iload_n hx hb dJ6_bitCount_0f7a4_41 rfl (lv_at hl 0 rfl) ?_
  refine lv_iload_n hx hb dJ6_bitCount_0f7a4_42 rfl (lv_at hl 0 rfl) ?_
  refine lv_bipush (v := 16) hx hb dJ6_bitCount_0f7a4_43 (by decide) ?_
  refine lv_iushr hx hb dJ6_bitCount_0f7a4_45 rfl ?_
  refine lv_iadd hx hb dJ6_bitCount_0f7a4_46 ?_
  refine lv_istore_n (lv' := [(0, .int (((((((x - (((x.toUInt32 >>> ((1 : Int32).toUInt32 &&& Int32.toUInt32 31)).toInt32) &&& 1431655765)) &&& 858993459) + ((((x - (((x.toUInt32 >>> ((1 : Int32).toUInt32 &&& Int32.toUInt32 31)).toInt32) &&& 1431655765)).toUInt32 >>> ((2 : Int32).toUInt32 &&& Int32.toUInt32 31)).toInt32) &&& 858993459)) + (((((x - (((x.toUInt32 >>> ((1 : Int32).toUInt32 &&& Int32.toUInt32 31)).toInt32) &&& 1431655765)) &&& 858993459) + ((((x - (((x.toUInt32 >>> ((1 : Int32).toUInt32 &&& Int32.toUInt32 31)).toInt32) &&& 1431655765)).toUInt32 >>> ((2 : Int32).toUInt32 &&& Int32.toUInt32 31)).toInt32) &&& 858993459)).toUInt32 >>> ((4 : Int32).toUInt32 &&& Int32.toUInt32 31)).toInt32)) &&& 252645135) + (((((((x - (((x.toUInt32 >>> ((1 : Int32).toUInt32 &&& Int32.toUInt32 31)).toInt32) &&& 1431655765)) &&& 858993459) + ((((x - (((x.toUInt32 >>> ((1 : Int32).toUInt32 &&& Int32.toUInt32 31)).toInt32) &&& 1431655765)).toUInt32 >>> ((2 : Int32).toUInt32 &&& Int32.toUInt32 31)).toInt32) &&& 858993459)) + (((((x - (((x.toUInt32 >>> ((1 : Int32).toUInt32 &&& Int32.toUInt32 31)).toInt32) &&& 1431655765)) &&& 858993459) + ((((x - (((x.toUInt32 >>> ((1 : Int32).toUInt32 &&& Int32.toUInt32 31)).toInt32) &&& 1431655765)).toUInt32 >>> ((2 : Int32).toUInt32 &&& Int32.toUInt32 31)).toInt32) &&& 858993459)).toUInt32 >>> ((4 : Int32).toUInt32 &&& Int32.toUInt32 31)).toInt32)) &&& 252645135).toUInt32 >>> ((8 : Int32).toUInt32 &&& Int32.toUInt32 31)).toInt32)) + ((((((((x - (((x.toUInt32 >>> ((1 : Int32).toUInt32 &&& Int32.toUInt32 31)).toInt32) &&& 1431655765)) &&& 858993459) + ((((x - (((x.toUInt32 >>> ((1 : Int32).toUInt32 &&& Int32.toUInt32 31)).toInt32) &&& 1431655765)).toUInt32 >>> ((2 : Int32).toUInt32 &&& Int32.toUInt32 31)).toInt32) &&& 858993459)) + (((((x - (((x.toUInt32 >>> ((1 : Int32).toUInt32 &&& Int32.toUInt32 31)).toInt32) &&& 1431655765)) &&& 858993459) + ((((x - (((x.toUInt32 >>> ((1 : Int32).toUInt32 &&& Int32.toUInt32 31)).toInt32) &&& 1431655765)).toUInt32 >>> ((2 : Int32).toUInt32 &&& Int32.toUInt32 31)).toInt32) &&& 858993459)).toUInt32 >>> ((4 : Int32).toUInt32 &&& Int32.toUInt32 31)).toInt32)) &&& 252645135) + (((((((x - (((x.toUInt32 >>> ((1 : Int32).toUInt32 &&& Int32.toUInt32 31)).toInt32) &&& 1431655765)) &&& 858993459) + ((((x - (((x.toUInt32 >>> ((1 : Int32).toUInt32 &&& Int32.toUInt32 31)).toInt32) &&& 1431655765)).toUInt32 >>> ((2 : Int32).toUInt32 &&& Int32.toUInt32 31)).toInt32) &&& 858993459)) + (((((x - (((x.toUInt32 >>> ((1 : Int32).toUInt32 &&& Int32.toUInt32 31)).toInt32) &&& 1431655765)) &&& 858993459) + ((((x - (((x.toUInt32 >>> ((1 : Int32).toUInt32 &&& Int32.toUInt32 31)).toInt32) &&& 1431655765)).toUInt32 >>> ((2 : Int32).toUInt32 &&& Int32.toUInt32 31)).toInt32) &&& 858993459)).toUInt32 >>> ((4 : Int32).toUInt32 &&& Int32.toUInt32 31)).toInt32)) &&& 252645135).toUInt32 >>> ((8 : Int32).toUInt32 &&& Int32.toUInt32 31)).toInt32)).toUInt32 >>> ((16 : Int32).toUInt32 &&& Int32.toUInt32 31)).toInt32)))]) hx hb dJ6_bitCount_0f7a4_47 rfl hl (by decide) (zLvf_h rfl) (fun ls hl => ?_)
  refine lv_iload_n hx hb dJ6_bitCount_0f7a4_48 rfl (lv_at hl 0 rfl) ?_
  refine lv_bipush (v := 63) hx hb dJ6_bitCount_0f7a4_49 (by decide) ?_
  refine lv_iand hx hb dJ6_bitCount_0f7a4_51 ?_
  exact z_back hQz_ (z_iret C hr hlocks G (Nat.le_of_ble_eq_true rfl) (Nat.le_of_ble_eq_true rfl) dJ6_bitCount_0f7a4_52 ⟨rfl, rfl⟩)
theorem zJb_0 : ∀ t, t < 128 → zJb (nI t) = zBs (nI t) 12 := by decide +kernel
theorem zJb_e {u : Int32} (h : ∀ b, b < 32 → bT u b = true → b < 7) : zJb u = zBs u 12 := by
  obtain ⟨t, a, e⟩ := rMk h
  rw [e]
  exact zJb_0 t a
set_option maxHeartbeats 4000000 in
set_option maxRecDepth 100000 in
/-- c_f_inOneClass -/
theorem c_f_inOneClass (l : Launch) (T : zTy) (h : Nat) (cr : Int32) (inn : Int32) (f1 : Nat → Int32) (f2 : Nat → Int32) (f3 : Nat → Int32) (f4 : Nat → Int32) (w : va_W) (x : Int32) (hw : bLand T h cr inn f1 f2 f3 f4 w) (hI : zLI cr f1 f3) (hLq : zLq cr f1 f2) (hxz : zHas cr x) : zMi l T yX8_inOneClass cX8_inOneClass 5 (some .int) 5 0 0 [.ref h, .int x] [w] (fun (r : Int32) bs => bs = [w] ∧ r = rCl (kW cr inn f1) f2 cr.toInt.toNat x.toInt.toNat) := by
  refine zMi_of (own := RX8) (by decide) rfl (Nat.le_of_ble_eq_true rfl) ?_
  intro p e s m args below meth c A ls C hr hlocks hnm hAe G hl
  refine zHide (fun Qz_ hQz_ => ?_)
  have hx := C.1
  have hb := C.2.1
  have hl : lv_has ls 5 [(0, .ref h), (1, .int x)] := hl
  have hcr := hI.1
  refine lv_aload_n hx hb dX8_inOneClass_0 rfl (lv_at hl 0 rfl) ?_
  refine lv_iload_n hx hb dX8_inOneClass_1 rfl (lv_at hl 1 rfl) ?_
  refine z_Si (bc := [w]) (br := []) (As := [.ref h, .int x]) (rest := []) C G (c_reached l T h cr inn f1 f2 f3 f4 w x hw (by first | with_reducible assumption | with_reducible rfl | omega | assumption | rfl)) (kS_RX8_45 C.2.2.2.2 (Nat.le_of_ble_eq_true rfl) (Nat.le_of_ble_eq_true rfl)) [0] [0] rfl rfl rfl rfl hl.1 dX8_inOneClass_2 (Nat.le_of_ble_eq_true rfl) (Nat.le_of_ble_eq_true rfl) (fun r_2 b1 H locs hw G => ?_)
  refine zAn2 hw ?_
  intro hbs9 h_1
  clear hw
  subst hbs9
  have G : zS T A s.heap s [w] _ _ := G
  subst h_1
  refine lv_istore_n (lv' := [(2, .int (zSeen cr inn f1 f2 (1 <<< (x &&& 31)) 7)), (0, .ref h), (1, .int x)]) hx hb dX8_inOneClass_5 rfl hl (by decide) (zLvf_h rfl) (fun ls hl => ?_)
  refine lv_iconst (v := 0) hx hb dX8_inOneClass_6 (by decide) ?_
  refine lv_istore_n (lv' := [(3, .int 0), (2, .int (zSeen cr inn f1 f2 (1 <<< (x &&& 31)) 7)), (0, .ref h), (1, .int x)]) hx hb dX8_inOneClass_7 rfl hl (by decide) (zLvf_h rfl) (fun ls hl => ?_)
  refine lv_iconst (v := 0) hx hb dX8_inOneClass_8 (by decide) ?_
  refine lv_istore (lv' := [(4, .int 0), (3, .int 0), (2, .int (zSeen cr inn f1 f2 (1 <<< (x &&& 31)) 7)), (0, .ref h), (1, .int x)]) hx hb dX8_inOneClass_9 hl (by decide) (zLvf_h rfl) (fun ls hl => ?_)
  refine zEx4 hw ?_
  intro a1_3 a2_4 a3_5 a4_6 hbs9
  clear hw
  subst hbs9
  have G : zS T A s.heap s [[zO4 h cr inn a1_3 a2_4 a3_5 a4_6], [zAr T 0 a1_3 7 f1], [zAr T 0 a2_4 28 f2], [zAr T 0 a3_5 7 f3], [zAr T 0 a4_6 7 f4]] _ _ := G.re rfl
  have hw_7 : bLand T h cr inn f1 f2 f3 f4 [zO4 h cr inn a1_3 a2_4 a3_5 a4_6, zAr T 0 a1_3 7 f1, zAr T 0 a2_4 28 f2, zAr T 0 a3_5 7 f3, zAr T 0 a4_6 7 f4] := ⟨a1_3, a2_4, a3_5, a4_6, rfl⟩
  have G : zS T A s.heap s [[zO4 h cr inn a1_3 a2_4 a3_5 a4_6, zAr T 0 a1_3 7 f1, zAr T 0 a2_4 28 f2, zAr T 0 a3_5 7 f3, zAr T 0 a4_6 7 f4]] _ _ := G.re rfl
  refine z_lp2 (T := T) 11 (fun (i : Nat) (ui3 : Int32) => [[zO4 h cr inn a1_3 a2_4 a3_5 a4_6, zAr T 0 a1_3 7 f1, zAr T 0 a2_4 28 f2, zAr T 0 a3_5 7 f3, zAr T 0 a4_6 7 f4]]) (fun (i : Nat) (ui3 : Int32) => [(4, .int (nI i)), (3, .int ui3), (2, .int (zSeen cr inn f1 f2 (1 <<< (x &&& 31)) 7)), (0, .ref h), (1, .int x)]) (fun (i : Nat) (ui3 : Int32) => i ≤ cr.toInt.toNat ∧ rOb (fun b => bT (rSn (kW cr inn f1) f2 cr.toInt.toNat (1 <<< (x &&& 31)) 7) b = true ∧ bT (rSn (kW cr inn f1) f2 cr.toInt.toNat (1 <<< (nI b &&& 31)) 7) x.toInt.toNat = true) i ui3) (fun (i : Nat) (ui3 : Int32) => cr.toInt.toNat - i) ?_ 0 0 (show 0 ≤ cr.toInt.toNat ∧ rOb (fun b => bT (rSn (kW cr inn f1) f2 cr.toInt.toNat (1 <<< (x &&& 31)) 7) b = true ∧ bT (rSn (kW cr inn f1) f2 cr.toInt.toNat (1 <<< (nI b &&& 31)) 7) x.toInt.toNat = true) 0 0 from ⟨by omega, rOb_0⟩) G (lv_sub hl [0, 1, 2, 3, 4] rfl)
  intro i ui3 hI9 ih_11 H locs ls G hl
  replace hI9 : i ≤ cr.toInt.toNat ∧ rOb (fun b => bT (rSn (kW cr inn f1) f2 cr.toInt.toNat (1 <<< (x &&& 31)) 7) b = true ∧ bT (rSn (kW cr inn f1) f2 cr.toInt.toNat (1 <<< (nI b &&& 31)) 7) x.toInt.toNat = true) i ui3 := hI9
  refine zAn2 hI9 ?_
  intro hi hu
  clear hI9
  replace G : zS T A s.heap s [[zO4 h cr inn a1_3 a2_4 a3_5 a4_6, zAr T 0 a1_3 7 f1, zAr T 0 a2_4 28 f2, zAr T 0 a3_5 7 f3, zAr T 0 a4_6 7 f4]] _ _ := G
  replace hl : lv_has ls 5 [(4, .int (nI i)), (3, .int ui3), (2, .int (zSeen cr inn f1 f2 (1 <<< (x &&& 31)) 7)), (0, .ref h), (1, .int x)] := hl
  refine lv_iload hx hb dX8_inOneClass_11 (lv_at hl 0 rfl) ?_
  refine lv_aload_n hx hb dX8_inOneClass_13 rfl (lv_at hl 3 rfl) ?_
  have G : zS T A s.heap s [[zO4 h cr inn a1_3 a2_4 a3_5 a4_6], [zAr T 0 a1_3 7 f1], [zAr T 0 a2_4 28 f2], [zAr T 0 a3_5 7 f3], [zAr T 0 a4_6 7 f4]] _ _ := G.re rfl
  refine z_get C G clX4 0 rfl 0 (by decide) m_fl_RX8_9 rfl dX8_inOneClass_14 ?_
  refine lv_icmp_ge (tgt := 55) hx hb dX8_inOneClass_17 (by decide) (fun c_8 => ?_) (fun c_8 => ?_)
  · have c_8n : cr.toInt ≤ (i : Int) := by have q := (fa_le _ _).mp c_8; rw [nI_toInt (n := i) (by omega)] at q; exact q
    refine lv_iload_n hx hb dX8_inOneClass_55 rfl (lv_at hl 1 rfl) ?_
    have hw_9 : bLand T h cr inn f1 f2 f3 f4 [zO4 h cr inn a1_3 a2_4 a3_5 a4_6, zAr T 0 a1_3 7 f1, zAr T 0 a2_4 28 f2, zAr T 0 a3_5 7 f3, zAr T 0 a4_6 7 f4] := ⟨a1_3, a2_4, a3_5, a4_6, rfl⟩
    have G : zS T A s.heap s [[zO4 h cr inn a1_3 a2_4 a3_5 a4_6, zAr T 0 a1_3 7 f1, zAr T 0 a2_4 28 f2, zAr T 0 a3_5 7 f3, zAr T 0 a4_6 7 f4]] _ _ := G.re rfl
    exact z_back hQz_ (z_iret C hr hlocks G (Nat.le_of_ble_eq_true rfl) (Nat.le_of_ble_eq_true rfl) dX8_inOneClass_56 ⟨rfl, (rCl_u (by omega) (by omega) (by omega) (by rw [show i = cr.toInt.toNat by omega] at hu; exact hu))⟩)
  · have c_8n : ¬ cr.toInt ≤ (i : Int) := fun q => c_8 ((fa_le _ _).mpr (by rw [nI_toInt (n := i) (by omega)]; exact q))
    refine lv_iload_n hx hb dX8_inOneClass_20 rfl (lv_at hl 2 rfl) ?_
    refine lv_iload hx hb dX8_inOneClass_21 (lv_at hl 0 rfl) ?_
    refine lv_ishr hx hb dX8_inOneClass_23 ?_
    refine lv_iconst (v := 1) hx hb dX8_inOneClass_24 (by decide) ?_
    refine lv_iand hx hb dX8_inOneClass_25 ?_
    refine lv_if_eq (tgt := 49) hx hb dX8_inOneClass_26 (by decide) (fun c_10 => ?_) (fun c_10 => ?_)
    · have c_10n : (((zSeen cr inn f1 f2 (1 <<< (x &&& 31)) 7) >>> ((nI i) &&& 31)) &&& 1).toInt = (0 : Int) := (fa_eq _ _).mp c_10
      refine lv_iinc (v := nI (i + 1)) (lv' := [(4, .int (nI (i + 1))), (3, .int ui3), (2, .int (zSeen cr inn f1 f2 (1 <<< (x &&& 31)) 7)), (0, .ref h), (1, .int x)]) hx hb dX8_inOneClass_49 hl (k := 0) rfl (z_inc i 1) (by decide) (zLvf_h rfl) (fun ls hl => ?_)
      refine lv_goto (tgt := 11) hx hb dX8_inOneClass_52 (by decide) ?_
      have hw_11 : bLand T h cr inn f1 f2 f3 f4 [zO4 h cr inn a1_3 a2_4 a3_5 a4_6, zAr T 0 a1_3 7 f1, zAr T 0 a2_4 28 f2, zAr T 0 a3_5 7 f3, zAr T 0 a4_6 7 f4] := ⟨a1_3, a2_4, a3_5, a4_6, rfl⟩
      have G : zS T A s.heap s [[zO4 h cr inn a1_3 a2_4 a3_5 a4_6, zAr T 0 a1_3 7 f1, zAr T 0 a2_4 28 f2, zAr T 0 a3_5 7 f3, zAr T 0 a4_6 7 f4]] _ _ := G.re rfl
      exact ih_11 (i + 1) ui3 (show (i + 1) ≤ cr.toInt.toNat ∧ rOb (fun b => bT (rSn (kW cr inn f1) f2 cr.toInt.toNat (1 <<< (x &&& 31)) 7) b = true ∧ bT (rSn (kW cr inn f1) f2 cr.toInt.toNat (1 <<< (nI b &&& 31)) 7) x.toInt.toNat = true) (i + 1) ui3 from ⟨by omega, (rOb_k hu (fun q8 => by first | exact absurd (by rw [← zSeen_e hI]; exact bT_n (by omega) (by first | with_reducible assumption | assumption)) (show ¬ bT (rSn (kW cr inn f1) f2 cr.toInt.toNat (1 <<< (x &&& 31)) 7) i = false from by rw [q8.1]; decide) | exact absurd (by rw [← zSeen_e hI]; exact bx_n (by omega) (by omega) (by first | with_reducible assumption | assumption)) (show ¬ bT (rSn (kW cr inn f1) f2 cr.toInt.toNat (1 <<< (nI i &&& 31)) 7) x.toInt.toNat = false from by rw [q8.2]; decide)))⟩) (show cr.toInt.toNat - (i + 1) < cr.toInt.toNat - i from by omega) _ _ ls G (lv_sub hl [0, 1, 2, 3, 4] rfl)
    · have c_10n : ¬ (((zSeen cr inn f1 f2 (1 <<< (x &&& 31)) 7) >>> ((nI i) &&& 31)) &&& 1).toInt = (0 : Int) := fun q => c_10 ((fa_eq _ _).mpr q)
      refine lv_aload_n hx hb dX8_inOneClass_29 rfl (lv_at hl 3 rfl) ?_
      refine lv_iload hx hb dX8_inOneClass_30 (lv_at hl 0 rfl) ?_
      have hw_12 : bLand T h cr inn f1 f2 f3 f4 [zO4 h cr inn a1_3 a2_4 a3_5 a4_6, zAr T 0 a1_3 7 f1, zAr T 0 a2_4 28 f2, zAr T 0 a3_5 7 f3, zAr T 0 a4_6 7 f4] := ⟨a1_3, a2_4, a3_5, a4_6, rfl⟩
      have G : zS T A s.heap s [[zO4 h cr inn a1_3 a2_4 a3_5 a4_6, zAr T 0 a1_3 7 f1, zAr T 0 a2_4 28 f2, zAr T 0 a3_5 7 f3, zAr T 0 a4_6 7 f4]] _ _ := G.re rfl
      refine z_Si (bc := [[zO4 h cr inn a1_3 a2_4 a3_5 a4_6, zAr T 0 a1_3 7 f1, zAr T 0 a2_4 28 f2, zAr T 0 a3_5 7 f3, zAr T 0 a4_6 7 f4]]) (br := []) (As := [.ref h, .int (nI i)]) (rest := []) C G (c_reached l T h cr inn f1 f2 f3 f4 ([zO4 h cr inn a1_3 a2_4 a3_5 a4_6, zAr T 0 a1_3 7 f1, zAr T 0 a2_4 28 f2, zAr T 0 a3_5 7 f3, zAr T 0 a4_6 7 f4]) (nI i) hw_12 (by first | with_reducible assumption | with_reducible rfl | omega | assumption | rfl)) (kS_RX8_45 C.2.2.2.2 (Nat.le_of_ble_eq_true rfl) (Nat.le_of_ble_eq_true rfl)) [0] [0] rfl rfl rfl rfl hl.1 dX8_inOneClass_32 (Nat.le_of_ble_eq_true rfl) (Nat.le_of_ble_eq_true rfl) (fun r_14 b1 H locs hw G => ?_)
      refine zAn2 hw ?_
      intro hbs9 h_13
      clear hw
      subst hbs9
      have G : zS T A s.heap s [[zO4 h cr inn a1_3 a2_4 a3_5 a4_6, zAr T 0 a1_3 7 f1, zAr T 0 a2_4 28 f2, zAr T 0 a3_5 7 f3, zAr T 0 a4_6 7 f4]] _ _ := G
      subst h_13
      refine lv_iload_n hx hb dX8_inOneClass_35 rfl (lv_at hl 4 rfl) ?_
      refine lv_ishr hx hb dX8_inOneClass_36 ?_
      refine lv_iconst (v := 1) hx hb dX8_inOneClass_37 (by decide) ?_
      refine lv_iand hx hb dX8_inOneClass_38 ?_
      refine lv_if_eq (tgt := 49) hx hb dX8_inOneClass_39 (by decide) (fun c_15 => ?_) (fun c_15 => ?_)
      · have c_15n : (((zSeen cr inn f1 f2 (1 <<< ((nI i) &&& 31)) 7) >>> (x &&& 31)) &&& 1).toInt = (0 : Int) := (fa_eq _ _).mp c_15
        refine lv_iinc (v := nI (i + 1)) (lv' := [(4, .int (nI (i + 1))), (3, .int ui3), (2, .int (zSeen cr inn f1 f2 (1 <<< (x &&& 31)) 7)), (0, .ref h), (1, .int x)]) hx hb dX8_inOneClass_49 hl (k := 0) rfl (z_inc i 1) (by decide) (zLvf_h rfl) (fun ls hl => ?_)
        refine lv_goto (tgt := 11) hx hb dX8_inOneClass_52 (by decide) ?_
        exact ih_11 (i + 1) ui3 (show (i + 1) ≤ cr.toInt.toNat ∧ rOb (fun b => bT (rSn (kW cr inn f1) f2 cr.toInt.toNat (1 <<< (x &&& 31)) 7) b = true ∧ bT (rSn (kW cr inn f1) f2 cr.toInt.toNat (1 <<< (nI b &&& 31)) 7) x.toInt.toNat = true) (i + 1) ui3 from ⟨by omega, (rOb_k hu (fun q8 => by first | exact absurd (by rw [← zSeen_e hI]; exact bT_n (by omega) (by first | with_reducible assumption | assumption)) (show ¬ bT (rSn (kW cr inn f1) f2 cr.toInt.toNat (1 <<< (x &&& 31)) 7) i = false from by rw [q8.1]; decide) | exact absurd (by rw [← zSeen_e hI]; exact bx_n (by omega) (by omega) (by first | with_reducible assumption | assumption)) (show ¬ bT (rSn (kW cr inn f1) f2 cr.toInt.toNat (1 <<< (nI i &&& 31)) 7) x.toInt.toNat = false from by rw [q8.2]; decide)))⟩) (show cr.toInt.toNat - (i + 1) < cr.toInt.toNat - i from by omega) _ _ ls G (lv_sub hl [0, 1, 2, 3, 4] rfl)
      · have c_15n : ¬ (((zSeen cr inn f1 f2 (1 <<< ((nI i) &&& 31)) 7) >>> (x &&& 31)) &&& 1).toInt = (0 : Int) := fun q => c_15 ((fa_eq _ _).mpr q)
        refine lv_iload_n hx hb dX8_inOneClass_42 rfl (lv_at hl 1 rfl) ?_
        refine lv_iconst (v := 1) hx hb dX8_inOneClass_43 (by decide) ?_
        refine lv_iload hx hb dX8_inOneClass_44 (lv_at hl 0 rfl) ?_
        refine lv_ishl hx hb dX8_inOneClass_46 ?_
        refine lv_ior hx hb dX8_inOneClass_47 ?_
        refine lv_istore_n (lv' := [(3, .int (ui3 ||| (1 <<< ((nI i) &&& 31)))), (4, .int (nI i)), (2, .int (zSeen cr inn f1 f2 (1 <<< (x &&& 31)) 7)), (0, .ref h), (1, .int x)]) hx hb dX8_inOneClass_48 rfl hl (by decide) (zLvf_h rfl) (fun ls hl => ?_)
        refine lv_iinc (v := nI (i + 1)) (lv' := [(4, .int (nI (i + 1))), (3, .int (ui3 ||| (1 <<< ((nI i) &&& 31)))), (2, .int (zSeen cr inn f1 f2 (1 <<< (x &&& 31)) 7)), (0, .ref h), (1, .int x)]) hx hb dX8_inOneClass_49 hl (k := 1) rfl (z_inc i 1) (by decide) (zLvf_h rfl) (fun ls hl => ?_)
        refine lv_goto (tgt := 11) hx hb dX8_inOneClass_52 (by decide) ?_
        exact ih_11 (i + 1) (ui3 ||| (1 <<< ((nI i) &&& 31))) (show (i + 1) ≤ cr.toInt.toNat ∧ rOb (fun b => bT (rSn (kW cr inn f1) f2 cr.toInt.toNat (1 <<< (x &&& 31)) 7) b = true ∧ bT (rSn (kW cr inn f1) f2 cr.toInt.toNat (1 <<< (nI b &&& 31)) 7) x.toInt.toNat = true) (i + 1) (ui3 ||| (1 <<< ((nI i) &&& 31))) from ⟨by omega, (rOb_y (by omega) hu ⟨by rw [← zSeen_e hI]; exact bT_y (by omega) (by first | with_reducible assumption | assumption), by rw [← zSeen_e hI]; exact bx_y (by omega) (by omega) (by first | with_reducible assumption | assumption)⟩)⟩) (show cr.toInt.toNat - (i + 1) < cr.toInt.toNat - i from by omega) _ _ ls G (lv_sub hl [0, 1, 2, 3, 4] rfl)
set_option maxHeartbeats 4000000 in
set_option maxRecDepth 100000 in
/-- c_f_parts -/
theorem c_f_parts (l : Launch) (T : zTy) (h : Nat) (cr : Int32) (inn : Int32) (f1 : Nat → Int32) (f2 : Nat → Int32) (f3 : Nat → Int32) (f4 : Nat → Int32) (w : va_W) (x : Int32) (hw : bLand T h cr inn f1 f2 f3 f4 w) (hI : zLI cr f1 f3) (hLq : zLq cr f1 f2) : zMi l T yX8_parts cX8_parts 6 (some .int) 6 0 0 [.ref h, .int x] [w] (fun (r : Int32) bs => bs = [w] ∧ r = (if x = 0 then rPa (kW cr inn f1) f2 cr.toInt.toNat cr.toInt.toNat else rMo (kW cr inn f1) f2 cr.toInt.toNat cr.toInt.toNat)) := by
  refine zMi_of (own := RX8) (by decide) rfl (Nat.le_of_ble_eq_true rfl) ?_
  intro p e s m args below meth c A ls C hr hlocks hnm hAe G hl
  refine zHide (fun Qz_ hQz_ => ?_)
  have hx := C.1
  have hb := C.2.1
  have hl : lv_has ls 6 [(0, .ref h), (1, .int x)] := hl
  have hcr := hI.1
  refine lv_iconst (v := 0) hx hb dX8_parts_0 (by decide) ?_
  refine lv_istore_n (lv' := [(2, .int 0), (0, .ref h), (1, .int x)]) hx hb dX8_parts_1 rfl hl (by decide) (zLvf_h rfl) (fun ls hl => ?_)
  refine lv_iconst (v := 0) hx hb dX8_parts_2 (by decide) ?_
  refine lv_istore_n (lv' := [(3, .int 0), (2, .int 0), (0, .ref h), (1, .int x)]) hx hb dX8_parts_3 rfl hl (by decide) (zLvf_h rfl) (fun ls hl => ?_)
  refine lv_iconst (v := 0) hx hb dX8_parts_4 (by decide) ?_
  refine lv_istore (lv' := [(4, .int 0), (3, .int 0), (2, .int 0), (0, .ref h), (1, .int x)]) hx hb dX8_parts_5 hl (by decide) (zLvf_h rfl) (fun ls hl => ?_)
  refine zEx4 hw ?_
  intro a1_1 a2_2 a3_3 a4_4 hbs9
  clear hw
  subst hbs9
  have G : zS T A s.heap s [[zO4 h cr inn a1_1 a2_2 a3_3 a4_4], [zAr T 0 a1_1 7 f1], [zAr T 0 a2_2 28 f2], [zAr T 0 a3_3 7 f3], [zAr T 0 a4_4 7 f4]] _ _ := G.re rfl
  have hw_5 : bLand T h cr inn f1 f2 f3 f4 [zO4 h cr inn a1_1 a2_2 a3_3 a4_4, zAr T 0 a1_1 7 f1, zAr T 0 a2_2 28 f2, zAr T 0 a3_3 7 f3, zAr T 0 a4_4 7 f4] := ⟨a1_1, a2_2, a3_3, a4_4, rfl⟩
  have G : zS T A s.heap s [[zO4 h cr inn a1_1 a2_2 a3_3 a4_4, zAr T 0 a1_1 7 f1, zAr T 0 a2_2 28 f2, zAr T 0 a3_3 7 f3, zAr T 0 a4_4 7 f4]] _ _ := G.re rfl
  refine z_lp3 (T := T) 7 (fun (i : Nat) (ui2 : Int32) (ui3 : Int32) => [[zO4 h cr inn a1_1 a2_2 a3_3 a4_4, zAr T 0 a1_1 7 f1, zAr T 0 a2_2 28 f2, zAr T 0 a3_3 7 f3, zAr T 0 a4_4 7 f4]]) (fun (i : Nat) (ui2 : Int32) (ui3 : Int32) => [(4, .int (nI i)), (3, .int ui3), (2, .int ui2), (0, .ref h), (1, .int x)]) (fun (i : Nat) (ui2 : Int32) (ui3 : Int32) => i ≤ cr.toInt.toNat ∧ ui2 = rPa (kW cr inn f1) f2 cr.toInt.toNat i ∧ ui3 = rMo (kW cr inn f1) f2 cr.toInt.toNat i) (fun (i : Nat) (ui2 : Int32) (ui3 : Int32) => cr.toInt.toNat - i) ?_ 0 0 0 (show 0 ≤ cr.toInt.toNat ∧ 0 = rPa (kW cr inn f1) f2 cr.toInt.toNat 0 ∧ 0 = rMo (kW cr inn f1) f2 cr.toInt.toNat 0 from ⟨by omega, rfl, rfl⟩) G (lv_sub hl [0, 1, 2, 3, 4] rfl)
  intro i ui2 ui3 hI9 ih_7 H locs ls G hl
  replace hI9 : i ≤ cr.toInt.toNat ∧ ui2 = rPa (kW cr inn f1) f2 cr.toInt.toNat i ∧ ui3 = rMo (kW cr inn f1) f2 cr.toInt.toNat i := hI9
  refine zAn3 hI9 ?_
  intro hi hp ho
  clear hI9
  replace G : zS T A s.heap s [[zO4 h cr inn a1_1 a2_2 a3_3 a4_4, zAr T 0 a1_1 7 f1, zAr T 0 a2_2 28 f2, zAr T 0 a3_3 7 f3, zAr T 0 a4_4 7 f4]] _ _ := G
  replace hl : lv_has ls 6 [(4, .int (nI i)), (3, .int ui3), (2, .int ui2), (0, .ref h), (1, .int x)] := hl
  refine lv_iload hx hb dX8_parts_7 (lv_at hl 0 rfl) ?_
  refine lv_aload_n hx hb dX8_parts_9 rfl (lv_at hl 3 rfl) ?_
  have G : zS T A s.heap s [[zO4 h cr inn a1_1 a2_2 a3_3 a4_4], [zAr T 0 a1_1 7 f1], [zAr T 0 a2_2 28 f2], [zAr T 0 a3_3 7 f3], [zAr T 0 a4_4 7 f4]] _ _ := G.re rfl
  refine z_get C G clX4 0 rfl 0 (by decide) m_fl_RX8_9 rfl dX8_parts_10 ?_
  refine lv_icmp_ge (tgt := 55) hx hb dX8_parts_13 (by decide) (fun c_6 => ?_) (fun c_6 => ?_)
  · have c_6n : cr.toInt ≤ (i : Int) := by have q := (fa_le _ _).mp c_6; rw [nI_toInt (n := i) (by omega)] at q; exact q
    refine lv_iload_n hx hb dX8_parts_55 rfl (lv_at hl 4 rfl) ?_
    refine lv_if_eq (tgt := 63) hx hb dX8_parts_56 (by decide) (fun c_7 => ?_) (fun c_7 => ?_)
    · have c_7n : x.toInt = (0 : Int) := (fa_eq _ _).mp c_7
      refine lv_iload_n hx hb dX8_parts_63 rfl (lv_at hl 2 rfl) ?_
      have hw_8 : bLand T h cr inn f1 f2 f3 f4 [zO4 h cr inn a1_1 a2_2 a3_3 a4_4, zAr T 0 a1_1 7 f1, zAr T 0 a2_2 28 f2, zAr T 0 a3_3 7 f3, zAr T 0 a4_4 7 f4] := ⟨a1_1, a2_2, a3_3, a4_4, rfl⟩
      have G : zS T A s.heap s [[zO4 h cr inn a1_1 a2_2 a3_3 a4_4, zAr T 0 a1_1 7 f1, zAr T 0 a2_2 28 f2, zAr T 0 a3_3 7 f3, zAr T 0 a4_4 7 f4]] _ _ := G.re rfl
      exact z_back hQz_ (z_iret C hr hlocks G (Nat.le_of_ble_eq_true rfl) (Nat.le_of_ble_eq_true rfl) dX8_parts_64 ⟨rfl, (by rw [if_pos (by first | with_reducible assumption | assumption)]; rw [show i = cr.toInt.toNat by omega] at hp; exact hp)⟩)
    · have c_7n : ¬ x.toInt = (0 : Int) := fun q => c_7 ((fa_eq _ _).mpr q)
      refine lv_iload_n hx hb dX8_parts_59 rfl (lv_at hl 1 rfl) ?_
      refine lv_goto (tgt := 64) hx hb dX8_parts_60 (by decide) ?_
      have hw_9 : bLand T h cr inn f1 f2 f3 f4 [zO4 h cr inn a1_1 a2_2 a3_3 a4_4, zAr T 0 a1_1 7 f1, zAr T 0 a2_2 28 f2, zAr T 0 a3_3 7 f3, zAr T 0 a4_4 7 f4] := ⟨a1_1, a2_2, a3_3, a4_4, rfl⟩
      have G : zS T A s.heap s [[zO4 h cr inn a1_1 a2_2 a3_3 a4_4, zAr T 0 a1_1 7 f1, zAr T 0 a2_2 28 f2, zAr T 0 a3_3 7 f3, zAr T 0 a4_4 7 f4]] _ _ := G.re rfl
      exact z_back hQz_ (z_iret C hr hlocks G (Nat.le_of_ble_eq_true rfl) (Nat.le_of_ble_eq_true rfl) dX8_parts_64 ⟨rfl, (by rw [if_neg (by first | with_reducible assumption | assumption)]; rw [show i = cr.toInt.toNat by omega] at ho; exact ho)⟩)
  · have c_6n : ¬ cr.toInt ≤ (i : Int) := fun q => c_6 ((fa_le _ _).mpr (by rw [nI_toInt (n := i) (by omega)]; exact q))
    refine lv_aload_n hx hb dX8_parts_16 rfl (lv_at hl 3 rfl) ?_
    refine lv_iload hx hb dX8_parts_17 (lv_at hl 0 rfl) ?_
    have hw_10 : bLand T h cr inn f1 f2 f3 f4 [zO4 h cr inn a1_1 a2_2 a3_3 a4_4, zAr T 0 a1_1 7 f1, zAr T 0 a2_2 28 f2, zAr T 0 a3_3 7 f3, zAr T 0 a4_4 7 f4] := ⟨a1_1, a2_2, a3_3, a4_4, rfl⟩
    have G : zS T A s.heap s [[zO4 h cr inn a1_1 a2_2 a3_3 a4_4, zAr T 0 a1_1 7 f1, zAr T 0 a2_2 28 f2, zAr T 0 a3_3 7 f3, zAr T 0 a4_4 7 f4]] _ _ := G.re rfl
    refine z_Si (bc := [[zO4 h cr inn a1_1 a2_2 a3_3 a4_4, zAr T 0 a1_1 7 f1, zAr T 0 a2_2 28 f2, zAr T 0 a3_3 7 f3, zAr T 0 a4_4 7 f4]]) (br := []) (As := [.ref h, .int (nI i)]) (rest := []) C G (c_f_inOneClass l T h cr inn f1 f2 f3 f4 ([zO4 h cr inn a1_1 a2_2 a3_3 a4_4, zAr T 0 a1_1 7 f1, zAr T 0 a2_2 28 f2, zAr T 0 a3_3 7 f3, zAr T 0 a4_4 7 f4]) (nI i) hw_10 (by first | with_reducible assumption | with_reducible rfl | omega | assumption | rfl) (by first | with_reducible assumption | with_reducible rfl | omega | assumption | rfl) (by unfold zHas; rw [nI_toInt (by omega)]; exact ⟨by omega, by omega, by omega⟩)) (kS_RX8_32 C.2.2.2.2 (Nat.le_of_ble_eq_true rfl) (Nat.le_of_ble_eq_true rfl)) [0] [0] rfl rfl rfl rfl hl.1 dX8_parts_19 (Nat.le_of_ble_eq_true rfl) (Nat.le_of_ble_eq_true rfl) (fun r_12 b1 H locs hw G => ?_)
    refine zAn2 hw ?_
    intro hbs9 h_11
    clear hw
    subst hbs9
    have G : zS T A s.heap s [[zO4 h cr inn a1_1 a2_2 a3_3 a4_4, zAr T 0 a1_1 7 f1, zAr T 0 a2_2 28 f2, zAr T 0 a3_3 7 f3, zAr T 0 a4_4 7 f4]] _ _ := G
    rw [nI_n9 (by omega)] at h_11
    refine lv_istore (lv' := [(5, .int r_12), (4, .int (nI i)), (3, .int ui3), (2, .int ui2), (0, .ref h), (1, .int x)]) hx hb dX8_parts_22 hl (by decide) (zLvf_h rfl) (fun ls hl => ?_)
    refine lv_iload hx hb dX8_parts_24 (lv_at hl 0 rfl) ?_
    refine lv_iconst (v := 1) hx hb dX8_parts_26 (by decide) ?_
    refine lv_iload hx hb dX8_parts_27 (lv_at hl 1 rfl) ?_
    refine lv_ishl hx hb dX8_parts_29 ?_
    refine lv_iconst (v := 1) hx hb dX8_parts_30 (by decide) ?_
    refine lv_isub hx hb dX8_parts_31 ?_
    refine lv_iand hx hb dX8_parts_32 ?_
    refine lv_if_ne (tgt := 39) hx hb dX8_parts_33 (by decide) (fun c_13 => ?_) (fun c_13 => ?_)
    · have c_13n : ¬ (r_12 &&& ((1 <<< ((nI i) &&& 31)) - 1)).toInt = (0 : Int) := fun q => c_13 ((fa_eq _ _).mpr q)
      refine lv_iload_n hx hb dX8_parts_39 rfl (lv_at hl 2 rfl) ?_
      refine lv_iload hx hb dX8_parts_40 (lv_at hl 0 rfl) ?_
      refine z_Si (bc := []) (br := [[zO4 h cr inn a1_1 a2_2 a3_3 a4_4, zAr T 0 a1_1 7 f1, zAr T 0 a2_2 28 f2, zAr T 0 a3_3 7 f3, zAr T 0 a4_4 7 f4]]) (As := [.int r_12]) (rest := [.int ui3]) C G (c_f_bitCount l T r_12) (kS_RX8_35 C.2.2.2.2 (Nat.le_of_ble_eq_true rfl) (Nat.le_of_ble_eq_true rfl)) [] [] rfl rfl rfl rfl hl.1 dX8_parts_42 (Nat.le_of_ble_eq_true rfl) (Nat.le_of_ble_eq_true rfl) (fun r_15 b1 H locs hw G => ?_)
      refine zAn2 hw ?_
      intro hbs9 h_14
      clear hw
      subst hbs9
      have G : zS T A s.heap s [[zO4 h cr inn a1_1 a2_2 a3_3 a4_4, zAr T 0 a1_1 7 f1, zAr T 0 a2_2 28 f2, zAr T 0 a3_3 7 f3, zAr T 0 a4_4 7 f4]] _ _ := G
      subst h_14
      refine va_mmax hx hb (C.2.2.1.trans hl.1.symm) C.2.2.2.1 (C.2.2.2.2 _ m_ml_RX8_40) (C.2.2.2.2 _ m_st_math_max) (C.2.2.2.2 _ m_ii_math) (C.2.2.2.2 _ m_co_math_max) (Nat.le_of_ble_eq_true rfl) (Nat.le_of_ble_eq_true rfl) (Nat.le_of_ble_eq_true rfl) (Nat.le_of_ble_eq_true rfl) dX8_parts_45 ?_
      refine lv_topi (fun v_16 ev_16 => ?_)
      subst ev_16
      refine lv_istore_n (lv' := [(3, .int (if ui3 < (zJb r_12) then (zJb r_12) else ui3)), (5, .int r_12), (4, .int (nI i)), (2, .int ui2), (0, .ref h), (1, .int x)]) hx hb dX8_parts_48 rfl hl (by decide) (zLvf_h rfl) (fun ls hl => ?_)
      refine lv_iinc (v := nI (i + 1)) (lv' := [(4, .int (nI (i + 1))), (3, .int (if ui3 < (zJb r_12) then (zJb r_12) else ui3)), (5, .int r_12), (2, .int ui2), (0, .ref h), (1, .int x)]) hx hb dX8_parts_49 hl (k := 2) rfl (z_inc i 1) (by decide) (zLvf_h rfl) (fun ls hl => ?_)
      refine lv_goto (tgt := 7) hx hb dX8_parts_52 (by decide) ?_
      exact ih_7 (i + 1) ui2 (if ui3 < (zJb r_12) then (zJb r_12) else ui3) (show (i + 1) ≤ cr.toInt.toNat ∧ ui2 = rPa (kW cr inn f1) f2 cr.toInt.toNat (i + 1) ∧ (if ui3 < (zJb r_12) then (zJb r_12) else ui3) = rMo (kW cr inn f1) f2 cr.toInt.toNat (i + 1) from ⟨by omega, (by rw [hp]; exact (rPa_n h_11 (by first | with_reducible assumption | assumption)).symm), (by rw [ho, h_11, zJb_e (rCl_h (by omega))]; rfl)⟩) (show cr.toInt.toNat - (i + 1) < cr.toInt.toNat - i from by omega) _ _ ls G (lv_sub hl [0, 1, 3, 4, 5] rfl)
    · have c_13n : (r_12 &&& ((1 <<< ((nI i) &&& 31)) - 1)).toInt = (0 : Int) := (fa_eq _ _).mp c_13
      refine lv_iinc (v := ui2 + 1) (lv' := [(2, .int (ui2 + 1)), (5, .int r_12), (4, .int (nI i)), (3, .int ui3), (0, .ref h), (1, .int x)]) hx hb dX8_parts_36 hl (k := 3) rfl rfl (by decide) (zLvf_h rfl) (fun ls hl => ?_)
      refine lv_iload_n hx hb dX8_parts_39 rfl (lv_at hl 3 rfl) ?_
      refine lv_iload hx hb dX8_parts_40 (lv_at hl 1 rfl) ?_
      refine z_Si (bc := []) (br := [[zO4 h cr inn a1_1 a2_2 a3_3 a4_4, zAr T 0 a1_1 7 f1, zAr T 0 a2_2 28 f2, zAr T 0 a3_3 7 f3, zAr T 0 a4_4 7 f4]]) (As := [.int r_12]) (rest := [.int ui3]) C G (c_f_bitCount l T r_12) (kS_RX8_35 C.2.2.2.2 (Nat.le_of_ble_eq_true rfl) (Nat.le_of_ble_eq_true rfl)) [] [] rfl rfl rfl rfl hl.1 dX8_parts_42 (Nat.le_of_ble_eq_true rfl) (Nat.le_of_ble_eq_true rfl) (fun r_18 b1 H locs hw G => ?_)
      refine zAn2 hw ?_
      intro hbs9 h_17
      clear hw
      subst hbs9
      have G : zS T A s.heap s [[zO4 h cr inn a1_1 a2_2 a3_3 a4_4, zAr T 0 a1_1 7 f1, zAr T 0 a2_2 28 f2, zAr T 0 a3_3 7 f3, zAr T 0 a4_4 7 f4]] _ _ := G
      subst h_17
      refine va_mmax hx hb (C.2.2.1.trans hl.1.symm) C.2.2.2.1 (C.2.2.2.2 _ m_ml_RX8_40) (C.2.2.2.2 _ m_st_math_max) (C.2.2.2.2 _ m_ii_math) (C.2.2.2.2 _ m_co_math_max) (Nat.le_of_ble_eq_true rfl) (Nat.le_of_ble_eq_true rfl) (Nat.le_of_ble_eq_true rfl) (Nat.le_of_ble_eq_true rfl) dX8_parts_45 ?_
      refine lv_topi (fun v_19 ev_19 => ?_)
      subst ev_19
      refine lv_istore_n (lv' := [(3, .int (if ui3 < (zJb r_12) then (zJb r_12) else ui3)), (2, .int (ui2 + 1)), (5, .int r_12), (4, .int (nI i)), (0, .ref h), (1, .int x)]) hx hb dX8_parts_48 rfl hl (by decide) (zLvf_h rfl) (fun ls hl => ?_)
      refine lv_iinc (v := nI (i + 1)) (lv' := [(4, .int (nI (i + 1))), (3, .int (if ui3 < (zJb r_12) then (zJb r_12) else ui3)), (2, .int (ui2 + 1)), (5, .int r_12), (0, .ref h), (1, .int x)]) hx hb dX8_parts_49 hl (k := 3) rfl (z_inc i 1) (by decide) (zLvf_h rfl) (fun ls hl => ?_)
      refine lv_goto (tgt := 7) hx hb dX8_parts_52 (by decide) ?_
      exact ih_7 (i + 1) (ui2 + 1) (if ui3 < (zJb r_12) then (zJb r_12) else ui3) (show (i + 1) ≤ cr.toInt.toNat ∧ (ui2 + 1) = rPa (kW cr inn f1) f2 cr.toInt.toNat (i + 1) ∧ (if ui3 < (zJb r_12) then (zJb r_12) else ui3) = rMo (kW cr inn f1) f2 cr.toInt.toNat (i + 1) from ⟨by omega, (by rw [hp]; exact (rPa_y h_11 (by first | with_reducible assumption | assumption)).symm), (by rw [ho, h_11, zJb_e (rCl_h (by omega))]; rfl)⟩) (show cr.toInt.toNat - (i + 1) < cr.toInt.toNat - i from by omega) _ _ ls G (lv_sub hl [0, 1, 2, 4, 5] rfl)
set_option maxHeartbeats 4000000 in
set_option maxRecDepth 100000 in
/-- c_f_heads -/
theorem c_f_heads (l : Launch) (T : zTy) (h : Nat) (cr : Int32) (inn : Int32) (f1 : Nat → Int32) (f2 : Nat → Int32) (f3 : Nat → Int32) (f4 : Nat → Int32) (w : va_W) (hw : bLand T h cr inn f1 f2 f3 f4 w) (hI : zLI cr f1 f3) (hLq : zLq cr f1 f2) : zMi l T yX8_heads cX8_heads 3 (some .int) 4 0 0 [.ref h] [w] (fun (r : Int32) bs => bs = [w] ∧ r = rHd (kW cr inn f1) f2 cr.toInt.toNat) := by
  refine zMi_of (own := RX8) (by decide) rfl (Nat.le_of_ble_eq_true rfl) ?_
  intro p e s m args below meth c A ls C hr hlocks hnm hAe G hl
  refine zHide (fun Qz_ hQz_ => ?_)
  have hx := C.1
  have hb := C.2.1
  have hl : lv_has ls 3 [(0, .ref h)] := hl
  have hcr := hI.1
  refine lv_iconst (v := 0) hx hb dX8_heads_0 (by decide) ?_
  refine lv_istore_n (lv' := [(1, .int 0), (0, .ref h)]) hx hb dX8_heads_1 rfl hl (by decide) (zLvf_h rfl) (fun ls hl => ?_)
  refine lv_iconst (v := 0) hx hb dX8_heads_2 (by decide) ?_
  refine lv_istore_n (lv' := [(2, .int 0), (1, .int 0), (0, .ref h)]) hx hb dX8_heads_3 rfl hl (by decide) (zLvf_h rfl) (fun ls hl => ?_)
  refine zEx4 hw ?_
  intro a1_1 a2_2 a3_3 a4_4 hbs9
  clear hw
  subst hbs9
  have G : zS T A s.heap s [[zO4 h cr inn a1_1 a2_2 a3_3 a4_4], [zAr T 0 a1_1 7 f1], [zAr T 0 a2_2 28 f2], [zAr T 0 a3_3 7 f3], [zAr T 0 a4_4 7 f4]] _ _ := G.re rfl
  have hw_5 : bLand T h cr inn f1 f2 f3 f4 [zO4 h cr inn a1_1 a2_2 a3_3 a4_4, zAr T 0 a1_1 7 f1, zAr T 0 a2_2 28 f2, zAr T 0 a3_3 7 f3, zAr T 0 a4_4 7 f4] := ⟨a1_1, a2_2, a3_3, a4_4, rfl⟩
  have G : zS T A s.heap s [[zO4 h cr inn a1_1 a2_2 a3_3 a4_4, zAr T 0 a1_1 7 f1, zAr T 0 a2_2 28 f2, zAr T 0 a3_3 7 f3, zAr T 0 a4_4 7 f4]] _ _ := G.re rfl
  refine z_lp2 (T := T) 4 (fun (i : Nat) (ui1 : Int32) => [[zO4 h cr inn a1_1 a2_2 a3_3 a4_4, zAr T 0 a1_1 7 f1, zAr T 0 a2_2 28 f2, zAr T 0 a3_3 7 f3, zAr T 0 a4_4 7 f4]]) (fun (i : Nat) (ui1 : Int32) => [(2, .int (nI i)), (1, .int ui1), (0, .ref h)]) (fun (i : Nat) (ui1 : Int32) => i ≤ cr.toInt.toNat ∧ (∀ b, b < 32 → (bT ui1 b = true ↔ ∃ c, c < i ∧ ¬ c = b ∧ rE (kW cr inn f1) f2 c b))) (fun (i : Nat) (ui1 : Int32) => cr.toInt.toNat - i) ?_ 0 0 (show 0 ≤ cr.toInt.toNat ∧ (∀ b, b < 32 → (bT 0 b = true ↔ ∃ c, c < 0 ∧ ¬ c = b ∧ rE (kW cr inn f1) f2 c b)) from ⟨by omega, (fun b hb => by rw [bT_0 b hb]; exact ⟨fun q => absurd q (by decide), fun ⟨c, h, _⟩ => absurd h (by omega)⟩)⟩) G (lv_sub hl [0, 1, 2] rfl)
  intro i ui1 hI9 ih_4 H locs ls G hl
  replace hI9 : i ≤ cr.toInt.toNat ∧ (∀ b, b < 32 → (bT ui1 b = true ↔ ∃ c, c < i ∧ ¬ c = b ∧ rE (kW cr inn f1) f2 c b)) := hI9
  refine zAn2 hI9 ?_
  intro hi hu
  clear hI9
  replace G : zS T A s.heap s [[zO4 h cr inn a1_1 a2_2 a3_3 a4_4, zAr T 0 a1_1 7 f1, zAr T 0 a2_2 28 f2, zAr T 0 a3_3 7 f3, zAr T 0 a4_4 7 f4]] _ _ := G
  replace hl : lv_has ls 3 [(2, .int (nI i)), (1, .int ui1), (0, .ref h)] := hl
  refine lv_iload_n hx hb dX8_heads_4 rfl (lv_at hl 0 rfl) ?_
  refine lv_aload_n hx hb dX8_heads_5 rfl (lv_at hl 2 rfl) ?_
  have G : zS T A s.heap s [[zO4 h cr inn a1_1 a2_2 a3_3 a4_4], [zAr T 0 a1_1 7 f1], [zAr T 0 a2_2 28 f2], [zAr T 0 a3_3 7 f3], [zAr T 0 a4_4 7 f4]] _ _ := G.re rfl
  refine z_get C G clX4 0 rfl 0 (by decide) m_fl_RX8_9 rfl dX8_heads_6 ?_
  refine lv_icmp_ge (tgt := 34) hx hb dX8_heads_9 (by decide) (fun c_6 => ?_) (fun c_6 => ?_)
  · have c_6n : cr.toInt ≤ (i : Int) := by have q := (fa_le _ _).mp c_6; rw [nI_toInt (n := i) (by omega)] at q; exact q
    refine lv_iload_n hx hb dX8_heads_34 rfl (lv_at hl 1 rfl) ?_
    refine lv_iconst (v := (-1)) hx hb dX8_heads_35 (by decide) ?_
    refine lv_ixor hx hb dX8_heads_36 ?_
    refine lv_iconst (v := 1) hx hb dX8_heads_37 (by decide) ?_
    refine lv_aload_n hx hb dX8_heads_38 rfl (lv_at hl 2 rfl) ?_
    refine z_get C G clX4 0 rfl 0 (by decide) m_fl_RX8_9 rfl dX8_heads_39 ?_
    refine lv_ishl hx hb dX8_heads_42 ?_
    refine lv_iconst (v := 1) hx hb dX8_heads_43 (by decide) ?_
    refine lv_isub hx hb dX8_heads_44 ?_
    refine lv_iand hx hb dX8_heads_45 ?_
    have hw_7 : bLand T h cr inn f1 f2 f3 f4 [zO4 h cr inn a1_1 a2_2 a3_3 a4_4, zAr T 0 a1_1 7 f1, zAr T 0 a2_2 28 f2, zAr T 0 a3_3 7 f3, zAr T 0 a4_4 7 f4] := ⟨a1_1, a2_2, a3_3, a4_4, rfl⟩
    have G : zS T A s.heap s [[zO4 h cr inn a1_1 a2_2 a3_3 a4_4, zAr T 0 a1_1 7 f1, zAr T 0 a2_2 28 f2, zAr T 0 a3_3 7 f3, zAr T 0 a4_4 7 f4]] _ _ := G.re rfl
    exact z_back hQz_ (z_iret C hr hlocks G (Nat.le_of_ble_eq_true rfl) (Nat.le_of_ble_eq_true rfl) dX8_heads_46 ⟨rfl, (kHd_e (by omega) (z_nI (by omega) (by omega)) (by rw [show i = cr.toInt.toNat by omega] at hu; exact hu))⟩)
  · have c_6n : ¬ cr.toInt ≤ (i : Int) := fun q => c_6 ((fa_le _ _).mpr (by rw [nI_toInt (n := i) (by omega)]; exact q))
    refine lv_iload_n hx hb dX8_heads_12 rfl (lv_at hl 1 rfl) ?_
    refine lv_aload_n hx hb dX8_heads_13 rfl (lv_at hl 2 rfl) ?_
    refine lv_iconst (v := 1) hx hb dX8_heads_14 (by decide) ?_
    refine lv_iload_n hx hb dX8_heads_15 rfl (lv_at hl 0 rfl) ?_
    refine lv_ishl hx hb dX8_heads_16 ?_
    have hw_8 : bLand T h cr inn f1 f2 f3 f4 [zO4 h cr inn a1_1 a2_2 a3_3 a4_4, zAr T 0 a1_1 7 f1, zAr T 0 a2_2 28 f2, zAr T 0 a3_3 7 f3, zAr T 0 a4_4 7 f4] := ⟨a1_1, a2_2, a3_3, a4_4, rfl⟩
    have G : zS T A s.heap s [[zO4 h cr inn a1_1 a2_2 a3_3 a4_4, zAr T 0 a1_1 7 f1, zAr T 0 a2_2 28 f2, zAr T 0 a3_3 7 f3, zAr T 0 a4_4 7 f4]] _ _ := G.re rfl
    refine z_Si (bc := [[zO4 h cr inn a1_1 a2_2 a3_3 a4_4, zAr T 0 a1_1 7 f1, zAr T 0 a2_2 28 f2, zAr T 0 a3_3 7 f3, zAr T 0 a4_4 7 f4]]) (br := []) (As := [.ref h, .int (1 <<< ((nI i) &&& 31))]) (rest := [.int ui1]) C G (c_spread l T h cr inn f1 f2 f3 f4 ([zO4 h cr inn a1_1 a2_2 a3_3 a4_4, zAr T 0 a1_1 7 f1, zAr T 0 a2_2 28 f2, zAr T 0 a3_3 7 f3, zAr T 0 a4_4 7 f4]) (1 <<< ((nI i) &&& 31)) hw_8 (by first | with_reducible assumption | with_reducible rfl | omega | assumption | rfl)) (kS_RX8_23 C.2.2.2.2 (Nat.le_of_ble_eq_true rfl) (Nat.le_of_ble_eq_true rfl)) [0] [0] rfl rfl rfl rfl hl.1 dX8_heads_17 (Nat.le_of_ble_eq_true rfl) (Nat.le_of_ble_eq_true rfl) (fun r_10 b1 H locs hw G => ?_)
    refine zAn2 hw ?_
    intro hbs9 h_9
    clear hw
    subst hbs9
    have G : zS T A s.heap s [[zO4 h cr inn a1_1 a2_2 a3_3 a4_4, zAr T 0 a1_1 7 f1, zAr T 0 a2_2 28 f2, zAr T 0 a3_3 7 f3, zAr T 0 a4_4 7 f4]] _ _ := G
    subst h_9
    refine lv_iconst (v := 1) hx hb dX8_heads_20 (by decide) ?_
    refine lv_iload_n hx hb dX8_heads_21 rfl (lv_at hl 0 rfl) ?_
    refine lv_ishl hx hb dX8_heads_22 ?_
    refine lv_iconst (v := (-1)) hx hb dX8_heads_23 (by decide) ?_
    refine lv_ixor hx hb dX8_heads_24 ?_
    refine lv_iand hx hb dX8_heads_25 ?_
    refine lv_ior hx hb dX8_heads_26 ?_
    refine lv_istore_n (lv' := [(1, .int (ui1 ||| ((zSpread cr inn f1 f2 (1 <<< ((nI i) &&& 31))) &&& ((1 <<< ((nI i) &&& 31)) ^^^ (-1))))), (2, .int (nI i)), (0, .ref h)]) hx hb dX8_heads_27 rfl hl (by decide) (zLvf_h rfl) (fun ls hl => ?_)
    refine lv_iinc (v := nI (i + 1)) (lv' := [(2, .int (nI (i + 1))), (1, .int (ui1 ||| ((zSpread cr inn f1 f2 (1 <<< ((nI i) &&& 31))) &&& ((1 <<< ((nI i) &&& 31)) ^^^ (-1))))), (0, .ref h)]) hx hb dX8_heads_28 hl (k := 1) rfl (z_inc i 1) (by decide) (zLvf_h rfl) (fun ls hl => ?_)
    refine lv_goto (tgt := 4) hx hb dX8_heads_31 (by decide) ?_
    exact ih_4 (i + 1) (ui1 ||| ((zSpread cr inn f1 f2 (1 <<< ((nI i) &&& 31))) &&& ((1 <<< ((nI i) &&& 31)) ^^^ (-1)))) (show (i + 1) ≤ cr.toInt.toNat ∧ (∀ b, b < 32 → (bT (ui1 ||| ((zSpread cr inn f1 f2 (1 <<< ((nI i) &&& 31))) &&& ((1 <<< ((nI i) &&& 31)) ^^^ (-1)))) b = true ↔ ∃ c, c < (i + 1) ∧ ¬ c = b ∧ rE (kW cr inn f1) f2 c b)) from ⟨by omega, (kHd_s hI hLq (by omega) hu)⟩) (show cr.toInt.toNat - (i + 1) < cr.toInt.toNat - i from by omega) _ _ ls G (lv_sub hl [0, 1, 2] rfl)
set_option maxHeartbeats 4000000 in
set_option maxRecDepth 100000 in
/-- c_f_ends -/
theorem c_f_ends (l : Launch) (T : zTy) (h : Nat) (cr : Int32) (inn : Int32) (f1 : Nat → Int32) (f2 : Nat → Int32) (f3 : Nat → Int32) (f4 : Nat → Int32) (w : va_W) (hw : bLand T h cr inn f1 f2 f3 f4 w) (hI : zLI cr f1 f3) (hLq : zLq cr f1 f2) : zMi l T yX8_ends cX8_ends 3 (some .int) 3 0 0 [.ref h] [w] (fun (r : Int32) bs => bs = [w] ∧ r = rEn (kW cr inn f1) inn cr.toInt.toNat) := by
  refine zMi_of (own := RX8) (by decide) rfl (Nat.le_of_ble_eq_true rfl) ?_
  intro p e s m args below meth c A ls C hr hlocks hnm hAe G hl
  refine zHide (fun Qz_ hQz_ => ?_)
  have hx := C.1
  have hb := C.2.1
  have hl : lv_has ls 3 [(0, .ref h)] := hl
  have hcr := hI.1
  refine lv_iconst (v := 0) hx hb dX8_ends_0 (by decide) ?_
  refine lv_istore_n (lv' := [(1, .int 0), (0, .ref h)]) hx hb dX8_ends_1 rfl hl (by decide) (zLvf_h rfl) (fun ls hl => ?_)
  refine lv_iconst (v := 0) hx hb dX8_ends_2 (by decide) ?_
  refine lv_istore_n (lv' := [(2, .int 0), (1, .int 0), (0, .ref h)]) hx hb dX8_ends_3 rfl hl (by decide) (zLvf_h rfl) (fun ls hl => ?_)
  refine zEx4 hw ?_
  intro a1_1 a2_2 a3_3 a4_4 hbs9
  clear hw
  subst hbs9
  have G : zS T A s.heap s [[zO4 h cr inn a1_1 a2_2 a3_3 a4_4], [zAr T 0 a1_1 7 f1], [zAr T 0 a2_2 28 f2], [zAr T 0 a3_3 7 f3], [zAr T 0 a4_4 7 f4]] _ _ := G.re rfl
  have hw_5 : bLand T h cr inn f1 f2 f3 f4 [zO4 h cr inn a1_1 a2_2 a3_3 a4_4, zAr T 0 a1_1 7 f1, zAr T 0 a2_2 28 f2, zAr T 0 a3_3 7 f3, zAr T 0 a4_4 7 f4] := ⟨a1_1, a2_2, a3_3, a4_4, rfl⟩
  have G : zS T A s.heap s [[zO4 h cr inn a1_1 a2_2 a3_3 a4_4, zAr T 0 a1_1 7 f1, zAr T 0 a2_2 28 f2, zAr T 0 a3_3 7 f3, zAr T 0 a4_4 7 f4]] _ _ := G.re rfl
  refine z_lp2 (T := T) 4 (fun (i : Nat) (ui1 : Int32) => [[zO4 h cr inn a1_1 a2_2 a3_3 a4_4, zAr T 0 a1_1 7 f1, zAr T 0 a2_2 28 f2, zAr T 0 a3_3 7 f3, zAr T 0 a4_4 7 f4]]) (fun (i : Nat) (ui1 : Int32) => [(2, .int (nI i)), (1, .int ui1), (0, .ref h)]) (fun (i : Nat) (ui1 : Int32) => i ≤ cr.toInt.toNat ∧ rOb (fun c => (kW cr inn f1) c = 0 ∧ ¬ zBit inn (nI c) = 1) i ui1) (fun (i : Nat) (ui1 : Int32) => cr.toInt.toNat - i) ?_ 0 0 (show 0 ≤ cr.toInt.toNat ∧ rOb (fun c => (kW cr inn f1) c = 0 ∧ ¬ zBit inn (nI c) = 1) 0 0 from ⟨by omega, rOb_0⟩) G (lv_sub hl [0, 1, 2] rfl)
  intro i ui1 hI9 ih_4 H locs ls G hl
  replace hI9 : i ≤ cr.toInt.toNat ∧ rOb (fun c => (kW cr inn f1) c = 0 ∧ ¬ zBit inn (nI c) = 1) i ui1 := hI9
  refine zAn2 hI9 ?_
  intro hi hu
  clear hI9
  replace G : zS T A s.heap s [[zO4 h cr inn a1_1 a2_2 a3_3 a4_4, zAr T 0 a1_1 7 f1, zAr T 0 a2_2 28 f2, zAr T 0 a3_3 7 f3, zAr T 0 a4_4 7 f4]] _ _ := G
  replace hl : lv_has ls 3 [(2, .int (nI i)), (1, .int ui1), (0, .ref h)] := hl
  refine lv_iload_n hx hb dX8_ends_4 rfl (lv_at hl 0 rfl) ?_
  refine lv_aload_n hx hb dX8_ends_5 rfl (lv_at hl 2 rfl) ?_
  have G : zS T A s.heap s [[zO4 h cr inn a1_1 a2_2 a3_3 a4_4], [zAr T 0 a1_1 7 f1], [zAr T 0 a2_2 28 f2], [zAr T 0 a3_3 7 f3], [zAr T 0 a4_4 7 f4]] _ _ := G.re rfl
  refine z_get C G clX4 0 rfl 0 (by decide) m_fl_RX8_9 rfl dX8_ends_6 ?_
  refine lv_icmp_ge (tgt := 44) hx hb dX8_ends_9 (by decide) (fun c_6 => ?_) (fun c_6 => ?_)
  · have c_6n : cr.toInt ≤ (i : Int) := by have q := (fa_le _ _).mp c_6; rw [nI_toInt (n := i) (by omega)] at q; exact q
    refine lv_iload_n hx hb dX8_ends_44 rfl (lv_at hl 1 rfl) ?_
    have hw_7 : bLand T h cr inn f1 f2 f3 f4 [zO4 h cr inn a1_1 a2_2 a3_3 a4_4, zAr T 0 a1_1 7 f1, zAr T 0 a2_2 28 f2, zAr T 0 a3_3 7 f3, zAr T 0 a4_4 7 f4] := ⟨a1_1, a2_2, a3_3, a4_4, rfl⟩
    have G : zS T A s.heap s [[zO4 h cr inn a1_1 a2_2 a3_3 a4_4, zAr T 0 a1_1 7 f1, zAr T 0 a2_2 28 f2, zAr T 0 a3_3 7 f3, zAr T 0 a4_4 7 f4]] _ _ := G.re rfl
    exact z_back hQz_ (z_iret C hr hlocks G (Nat.le_of_ble_eq_true rfl) (Nat.le_of_ble_eq_true rfl) dX8_ends_45 ⟨rfl, (rCk_u (by omega) (by rw [show i = cr.toInt.toNat by omega] at hu; exact hu) (fun b hb => by rw [decide_eq_true_eq]))⟩)
  · have c_6n : ¬ cr.toInt ≤ (i : Int) := fun q => c_6 ((fa_le _ _).mpr (by rw [nI_toInt (n := i) (by omega)]; exact q))
    refine lv_iload_n hx hb dX8_ends_12 rfl (lv_at hl 1 rfl) ?_
    refine lv_aload_n hx hb dX8_ends_13 rfl (lv_at hl 2 rfl) ?_
    refine lv_iload_n hx hb dX8_ends_14 rfl (lv_at hl 0 rfl) ?_
    have hw_8 : bLand T h cr inn f1 f2 f3 f4 [zO4 h cr inn a1_1 a2_2 a3_3 a4_4, zAr T 0 a1_1 7 f1, zAr T 0 a2_2 28 f2, zAr T 0 a3_3 7 f3, zAr T 0 a4_4 7 f4] := ⟨a1_1, a2_2, a3_3, a4_4, rfl⟩
    have G : zS T A s.heap s [[zO4 h cr inn a1_1 a2_2 a3_3 a4_4, zAr T 0 a1_1 7 f1, zAr T 0 a2_2 28 f2, zAr T 0 a3_3 7 f3, zAr T 0 a4_4 7 f4]] _ _ := G.re rfl
    refine z_Vi (bc := [[zO4 h cr inn a1_1 a2_2 a3_3 a4_4, zAr T 0 a1_1 7 f1, zAr T 0 a2_2 28 f2, zAr T 0 a3_3 7 f3, zAr T 0 a4_4 7 f4]]) (br := []) (As := [.int (nI i)]) (rest := [.int ui1]) C G (c_waysOut l T h cr inn f1 f2 f3 f4 ([zO4 h cr inn a1_1 a2_2 a3_3 a4_4, zAr T 0 a1_1 7 f1, zAr T 0 a2_2 28 f2, zAr T 0 a3_3 7 f3, zAr T 0 a4_4 7 f4]) (nI i) hw_8) (kV_RX8_15 C.2.2.2.2 (Nat.le_of_ble_eq_true rfl) (Nat.le_of_ble_eq_true rfl)) [0] [0] rfl rfl (ci := 4) (qc := (RX4, TX4, 6)) rfl rfl (List.mem_flatten.mpr ⟨_, List.mem_of_getElem? (i := 0) rfl, (bLand_mem hw_8).choose_spec⟩) rfl rfl hl.1 dX8_ends_15 (Nat.le_of_ble_eq_true rfl) (Nat.le_of_ble_eq_true rfl) (fun r_10 b1 H locs hw G => ?_)
    refine zAn2 hw ?_
    intro hbs9 h_9
    clear hw
    subst hbs9
    have G : zS T A s.heap s [[zO4 h cr inn a1_1 a2_2 a3_3 a4_4, zAr T 0 a1_1 7 f1, zAr T 0 a2_2 28 f2, zAr T 0 a3_3 7 f3, zAr T 0 a4_4 7 f4]] _ _ := G
    subst h_9
    refine lv_if_ne (tgt := 35) hx hb dX8_ends_18 (by decide) (fun c_11 => ?_) (fun c_11 => ?_)
    · have c_11n : ¬ (zWays cr inn f1 (nI i)).toInt = (0 : Int) := fun q => c_11 ((fa_eq _ _).mpr q)
      refine lv_iconst (v := 0) hx hb dX8_ends_35 (by decide) ?_
      refine lv_ior hx hb dX8_ends_36 ?_
      refine lv_istore_n (lv' := [(1, .int (ui1 ||| 0)), (2, .int (nI i)), (0, .ref h)]) hx hb dX8_ends_37 rfl hl (by decide) (zLvf_h rfl) (fun ls hl => ?_)
      refine lv_iinc (v := nI (i + 1)) (lv' := [(2, .int (nI (i + 1))), (1, .int (ui1 ||| 0)), (0, .ref h)]) hx hb dX8_ends_38 hl (k := 1) rfl (z_inc i 1) (by decide) (zLvf_h rfl) (fun ls hl => ?_)
      refine lv_goto (tgt := 4) hx hb dX8_ends_41 (by decide) ?_
      exact ih_4 (i + 1) (ui1 ||| 0) (show (i + 1) ≤ cr.toInt.toNat ∧ rOb (fun c => (kW cr inn f1) c = 0 ∧ ¬ zBit inn (nI c) = 1) (i + 1) (ui1 ||| 0) from ⟨by omega, (rOb_n hu (fun q8 => by first | exact absurd q8.1 (by first | with_reducible assumption | assumption) | exact absurd (zBit_p (by first | with_reducible assumption | assumption)) q8.2))⟩) (show cr.toInt.toNat - (i + 1) < cr.toInt.toNat - i from by omega) _ _ ls G (lv_sub hl [0, 1, 2] rfl)
    · have c_11n : (zWays cr inn f1 (nI i)).toInt = (0 : Int) := (fa_eq _ _).mp c_11
      refine lv_aload_n hx hb dX8_ends_21 rfl (lv_at hl 2 rfl) ?_
      refine lv_iload_n hx hb dX8_ends_22 rfl (lv_at hl 0 rfl) ?_
      refine z_Vi (bc := [[zO4 h cr inn a1_1 a2_2 a3_3 a4_4, zAr T 0 a1_1 7 f1, zAr T 0 a2_2 28 f2, zAr T 0 a3_3 7 f3, zAr T 0 a4_4 7 f4]]) (br := []) (As := [.int (nI i)]) (rest := [.int ui1]) C G (c_isInn l T h cr inn f1 f2 f3 f4 ([zO4 h cr inn a1_1 a2_2 a3_3 a4_4, zAr T 0 a1_1 7 f1, zAr T 0 a2_2 28 f2, zAr T 0 a3_3 7 f3, zAr T 0 a4_4 7 f4]) (nI i) hw_8) (kV_RX8_48 C.2.2.2.2 (Nat.le_of_ble_eq_true rfl) (Nat.le_of_ble_eq_true rfl)) [0] [0] rfl rfl (ci := 4) (qc := (RX4, TX4, 6)) rfl rfl (List.mem_flatten.mpr ⟨_, List.mem_of_getElem? (i := 0) rfl, (bLand_mem hw_8).choose_spec⟩) rfl rfl hl.1 dX8_ends_23 (Nat.le_of_ble_eq_true rfl) (Nat.le_of_ble_eq_true rfl) (fun r_13 b1 H locs hw G => ?_)
      refine zAn2 hw ?_
      intro hbs9 hc_12
      clear hw
      subst hbs9
      have G : zS T A s.heap s [[zO4 h cr inn a1_1 a2_2 a3_3 a4_4, zAr T 0 a1_1 7 f1, zAr T 0 a2_2 28 f2, zAr T 0 a3_3 7 f3, zAr T 0 a4_4 7 f4]] _ _ := G
      rcases hc_12 with ⟨rfl, h_14, h_15, h_16, h_17⟩ | ⟨rfl, h_18⟩
      · have h_14 : 0 ≤ (nI i).toInt := h_14
        have h_15 : (nI i).toInt < cr.toInt := h_15
        have h_16 : (nI i).toInt < 7 := h_16
        have h_17 : ¬ zBit inn (nI i) = 0 := h_17
        refine lv_if_ne (tgt := 35) hx hb dX8_ends_26 (by decide) (fun _ => ?_) (fun q => absurd q (by decide))
        refine lv_iconst (v := 0) hx hb dX8_ends_35 (by decide) ?_
        refine lv_ior hx hb dX8_ends_36 ?_
        refine lv_istore_n (lv' := [(1, .int (ui1 ||| 0)), (2, .int (nI i)), (0, .ref h)]) hx hb dX8_ends_37 rfl hl (by decide) (zLvf_h rfl) (fun ls hl => ?_)
        refine lv_iinc (v := nI (i + 1)) (lv' := [(2, .int (nI (i + 1))), (1, .int (ui1 ||| 0)), (0, .ref h)]) hx hb dX8_ends_38 hl (k := 1) rfl (z_inc i 1) (by decide) (zLvf_h rfl) (fun ls hl => ?_)
        refine lv_goto (tgt := 4) hx hb dX8_ends_41 (by decide) ?_
        exact ih_4 (i + 1) (ui1 ||| 0) (show (i + 1) ≤ cr.toInt.toNat ∧ rOb (fun c => (kW cr inn f1) c = 0 ∧ ¬ zBit inn (nI c) = 1) (i + 1) (ui1 ||| 0) from ⟨by omega, (rOb_n hu (fun q8 => by first | exact absurd q8.1 (by first | with_reducible assumption | assumption) | exact absurd (zBit_p (by first | with_reducible assumption | assumption)) q8.2))⟩) (show cr.toInt.toNat - (i + 1) < cr.toInt.toNat - i from by omega) _ _ ls G (lv_sub hl [0, 1, 2] rfl)
      · have h_18 : ((nI i).toInt < 0 ∨ cr.toInt ≤ (nI i).toInt ∨ 7 ≤ (nI i).toInt ∨ zBit inn (nI i) = 0) := h_18
        have hz9 : zBit inn (nI i) = 0 := by have t9 := nI_toInt (n := i) (by omega); rcases h_18 with q9 | q9 | q9 | q9 <;> first | exact q9 | omega
        refine lv_if_ne (tgt := 35) hx hb dX8_ends_26 (by decide) (fun q => absurd (by decide) q) (fun _ => ?_)
        refine lv_iconst (v := 1) hx hb dX8_ends_29 (by decide) ?_
        refine lv_iload_n hx hb dX8_ends_30 rfl (lv_at hl 0 rfl) ?_
        refine lv_ishl hx hb dX8_ends_31 ?_
        refine lv_goto (tgt := 36) hx hb dX8_ends_32 (by decide) ?_
        refine lv_ior hx hb dX8_ends_36 ?_
        refine lv_istore_n (lv' := [(1, .int (ui1 ||| (1 <<< ((nI i) &&& 31)))), (2, .int (nI i)), (0, .ref h)]) hx hb dX8_ends_37 rfl hl (by decide) (zLvf_h rfl) (fun ls hl => ?_)
        refine lv_iinc (v := nI (i + 1)) (lv' := [(2, .int (nI (i + 1))), (1, .int (ui1 ||| (1 <<< ((nI i) &&& 31)))), (0, .ref h)]) hx hb dX8_ends_38 hl (k := 1) rfl (z_inc i 1) (by decide) (zLvf_h rfl) (fun ls hl => ?_)
        refine lv_goto (tgt := 4) hx hb dX8_ends_41 (by decide) ?_
        exact ih_4 (i + 1) (ui1 ||| (1 <<< ((nI i) &&& 31))) (show (i + 1) ≤ cr.toInt.toNat ∧ rOb (fun c => (kW cr inn f1) c = 0 ∧ ¬ zBit inn (nI c) = 1) (i + 1) (ui1 ||| (1 <<< ((nI i) &&& 31))) from ⟨by omega, (rOb_y (by omega) hu ⟨by first | with_reducible assumption | assumption, fun q8 => zBit_o q8 hz9⟩)⟩) (show cr.toInt.toNat - (i + 1) < cr.toInt.toNat - i from by omega) _ _ ls G (lv_sub hl [0, 1, 2] rfl)
set_option maxHeartbeats 4000000 in
set_option maxRecDepth 100000 in
/-- c_f_howManyLead -/
theorem c_f_howManyLead (l : Launch) (T : zTy) (h : Nat) (cr : Int32) (inn : Int32) (f1 : Nat → Int32) (f2 : Nat → Int32) (f3 : Nat → Int32) (f4 : Nat → Int32) (w : va_W) (x : Int32) (y : Int32) (hw : bLand T h cr inn f1 f2 f3 f4 w) (hI : zLI cr f1 f3) (hLq : zLq cr f1 f2) (hxz : zHas cr x) : zMi l T yX8_howManyLead cX8_howManyLead 5 (some .int) 3 0 0 [.ref h, .int x, .int y] [w] (fun (r : Int32) bs => bs = [w] ∧ r = nI (rHr f2 x.toInt.toNat y (zWays cr inn f1 x).toInt.toNat)) := by
  refine zMi_of (own := RX8) (by decide) rfl (Nat.le_of_ble_eq_true rfl) ?_
  intro p e s m args below meth c A ls C hr hlocks hnm hAe G hl
  refine zHide (fun Qz_ hQz_ => ?_)
  have hx := C.1
  have hb := C.2.1
  have hl : lv_has ls 5 [(0, .ref h), (1, .int x), (2, .int y)] := hl
  have hcr := hI.1
  refine lv_iconst (v := 0) hx hb dX8_howManyLead_0 (by decide) ?_
  refine lv_istore_n (lv' := [(3, .int 0), (0, .ref h), (1, .int x), (2, .int y)]) hx hb dX8_howManyLead_1 rfl hl (by decide) (zLvf_h rfl) (fun ls hl => ?_)
  have hwl := zWays_le (inn := inn) hI x
  refine lv_iconst (v := 0) hx hb dX8_howManyLead_2 (by decide) ?_
  refine lv_istore (lv' := [(4, .int 0), (3, .int 0), (0, .ref h), (1, .int x), (2, .int y)]) hx hb dX8_howManyLead_3 hl (by decide) (zLvf_h rfl) (fun ls hl => ?_)
  refine zEx4 hw ?_
  intro a1_1 a2_2 a3_3 a4_4 hbs9
  clear hw
  subst hbs9
  have G : zS T A s.heap s [[zO4 h cr inn a1_1 a2_2 a3_3 a4_4], [zAr T 0 a1_1 7 f1], [zAr T 0 a2_2 28 f2], [zAr T 0 a3_3 7 f3], [zAr T 0 a4_4 7 f4]] _ _ := G.re rfl
  have hw_5 : bLand T h cr inn f1 f2 f3 f4 [zO4 h cr inn a1_1 a2_2 a3_3 a4_4, zAr T 0 a1_1 7 f1, zAr T 0 a2_2 28 f2, zAr T 0 a3_3 7 f3, zAr T 0 a4_4 7 f4] := ⟨a1_1, a2_2, a3_3, a4_4, rfl⟩
  have G : zS T A s.heap s [[zO4 h cr inn a1_1 a2_2 a3_3 a4_4, zAr T 0 a1_1 7 f1, zAr T 0 a2_2 28 f2, zAr T 0 a3_3 7 f3, zAr T 0 a4_4 7 f4]] _ _ := G.re rfl
  refine z_lp2 (T := T) 5 (fun (i : Nat) (u : Int32) => [[zO4 h cr inn a1_1 a2_2 a3_3 a4_4, zAr T 0 a1_1 7 f1, zAr T 0 a2_2 28 f2, zAr T 0 a3_3 7 f3, zAr T 0 a4_4 7 f4]]) (fun (i : Nat) (u : Int32) => [(4, .int (nI i)), (3, .int u), (0, .ref h), (1, .int x), (2, .int y)]) (fun (i : Nat) (u : Int32) => i ≤ (zWays cr inn f1 x).toInt.toNat ∧ u = nI (rHr f2 x.toInt.toNat y i)) (fun (i : Nat) (u : Int32) => (zWays cr inn f1 x).toInt.toNat - i) ?_ 0 0 (show 0 ≤ (zWays cr inn f1 x).toInt.toNat ∧ 0 = nI (rHr f2 x.toInt.toNat y 0) from ⟨by omega, rfl⟩) G (lv_sub hl [0, 1, 2, 3, 4] rfl)
  intro i u hI9 ih_5 H locs ls G hl
  replace hI9 : i ≤ (zWays cr inn f1 x).toInt.toNat ∧ u = nI (rHr f2 x.toInt.toNat y i) := hI9
  refine zAn2 hI9 ?_
  intro hi hu
  clear hI9
  replace G : zS T A s.heap s [[zO4 h cr inn a1_1 a2_2 a3_3 a4_4, zAr T 0 a1_1 7 f1, zAr T 0 a2_2 28 f2, zAr T 0 a3_3 7 f3, zAr T 0 a4_4 7 f4]] _ _ := G
  replace hl : lv_has ls 5 [(4, .int (nI i)), (3, .int u), (0, .ref h), (1, .int x), (2, .int y)] := hl
  refine lv_iload hx hb dX8_howManyLead_5 (lv_at hl 0 rfl) ?_
  refine lv_aload_n hx hb dX8_howManyLead_7 rfl (lv_at hl 2 rfl) ?_
  refine lv_iload_n hx hb dX8_howManyLead_8 rfl (lv_at hl 3 rfl) ?_
  refine z_Vi (bc := [[zO4 h cr inn a1_1 a2_2 a3_3 a4_4, zAr T 0 a1_1 7 f1, zAr T 0 a2_2 28 f2, zAr T 0 a3_3 7 f3, zAr T 0 a4_4 7 f4]]) (br := []) (As := [.int x]) (rest := [.int (nI i)]) C G (c_waysOut l T h cr inn f1 f2 f3 f4 ([zO4 h cr inn a1_1 a2_2 a3_3 a4_4, zAr T 0 a1_1 7 f1, zAr T 0 a2_2 28 f2, zAr T 0 a3_3 7 f3, zAr T 0 a4_4 7 f4]) x hw_5) (kV_RX8_15 C.2.2.2.2 (Nat.le_of_ble_eq_true rfl) (Nat.le_of_ble_eq_true rfl)) [0] [0] rfl rfl (ci := 4) (qc := (RX4, TX4, 6)) rfl rfl (List.mem_flatten.mpr ⟨_, List.mem_of_getElem? (i := 0) rfl, (bLand_mem hw_5).choose_spec⟩) rfl rfl hl.1 dX8_howManyLead_9 (Nat.le_of_ble_eq_true rfl) (Nat.le_of_ble_eq_true rfl) (fun r_7 b1 H locs hw G => ?_)
  refine zAn2 hw ?_
  intro hbs9 h_6
  clear hw
  subst hbs9
  have G : zS T A s.heap s [[zO4 h cr inn a1_1 a2_2 a3_3 a4_4, zAr T 0 a1_1 7 f1, zAr T 0 a2_2 28 f2, zAr T 0 a3_3 7 f3, zAr T 0 a4_4 7 f4]] _ _ := G
  subst h_6
  refine lv_icmp_ge (tgt := 40) hx hb dX8_howManyLead_12 (by decide) (fun c_8 => ?_) (fun c_8 => ?_)
  · have c_8n : (zWays cr inn f1 x).toInt ≤ (i : Int) := by have q := (fa_le _ _).mp c_8; rw [nI_toInt (n := i) (by omega)] at q; exact q
    refine lv_iload_n hx hb dX8_howManyLead_40 rfl (lv_at hl 1 rfl) ?_
    exact z_back hQz_ (z_iret C hr hlocks G (Nat.le_of_ble_eq_true rfl) (Nat.le_of_ble_eq_true rfl) dX8_howManyLead_41 ⟨rfl, (by rw [hu]; exact congrArg (fun q => nI (rHr f2 x.toInt.toNat y q)) (by omega))⟩)
  · have c_8n : ¬ (zWays cr inn f1 x).toInt ≤ (i : Int) := fun q => c_8 ((fa_le _ _).mpr (by rw [nI_toInt (n := i) (by omega)]; exact q))
    refine lv_iload_n hx hb dX8_howManyLead_15 rfl (lv_at hl 1 rfl) ?_
    refine lv_aload_n hx hb dX8_howManyLead_16 rfl (lv_at hl 2 rfl) ?_
    refine lv_iload_n hx hb dX8_howManyLead_17 rfl (lv_at hl 3 rfl) ?_
    refine lv_iload hx hb dX8_howManyLead_18 (lv_at hl 0 rfl) ?_
    refine z_Vi (bc := [[zO4 h cr inn a1_1 a2_2 a3_3 a4_4, zAr T 0 a1_1 7 f1, zAr T 0 a2_2 28 f2, zAr T 0 a3_3 7 f3, zAr T 0 a4_4 7 f4]]) (br := []) (As := [.int x, .int (nI i)]) (rest := [.int u]) C G (c_target l T h cr inn f1 f2 f3 f4 ([zO4 h cr inn a1_1 a2_2 a3_3 a4_4, zAr T 0 a1_1 7 f1, zAr T 0 a2_2 28 f2, zAr T 0 a3_3 7 f3, zAr T 0 a4_4 7 f4]) x (nI i) hw_5) (kV_RX8_19 C.2.2.2.2 (Nat.le_of_ble_eq_true rfl) (Nat.le_of_ble_eq_true rfl)) [0] [0] rfl rfl (ci := 4) (qc := (RX4, TX4, 6)) rfl rfl (List.mem_flatten.mpr ⟨_, List.mem_of_getElem? (i := 0) rfl, (bLand_mem hw_5).choose_spec⟩) rfl rfl hl.1 dX8_howManyLead_20 (Nat.le_of_ble_eq_true rfl) (Nat.le_of_ble_eq_true rfl) (fun r_10 b1 H locs hw G => ?_)
    refine zAn2 hw ?_
    intro hbs9 h_9
    clear hw
    subst hbs9
    have G : zS T A s.heap s [[zO4 h cr inn a1_1 a2_2 a3_3 a4_4, zAr T 0 a1_1 7 f1, zAr T 0 a2_2 28 f2, zAr T 0 a3_3 7 f3, zAr T 0 a4_4 7 f4]] _ _ := G
    subst h_9
    refine lv_iload_n hx hb dX8_howManyLead_23 rfl (lv_at hl 4 rfl) ?_
    refine lv_icmp_ne (tgt := 31) hx hb dX8_howManyLead_24 (by decide) (fun c_11 => ?_) (fun c_11 => ?_)
    · have c_11n : ¬ (zTarget cr f1 f2 x (nI i)).toInt = y.toInt := fun q => c_11 ((fa_eq _ _).mpr q)
      refine lv_iconst (v := 0) hx hb dX8_howManyLead_31 (by decide) ?_
      refine lv_iadd hx hb dX8_howManyLead_32 ?_
      refine lv_istore_n (lv' := [(3, .int (u + 0)), (4, .int (nI i)), (0, .ref h), (1, .int x), (2, .int y)]) hx hb dX8_howManyLead_33 rfl hl (by decide) (zLvf_h rfl) (fun ls hl => ?_)
      refine lv_iinc (v := nI (i + 1)) (lv' := [(4, .int (nI (i + 1))), (3, .int (u + 0)), (0, .ref h), (1, .int x), (2, .int y)]) hx hb dX8_howManyLead_34 hl (k := 1) rfl (z_inc i 1) (by decide) (zLvf_h rfl) (fun ls hl => ?_)
      refine lv_goto (tgt := 5) hx hb dX8_howManyLead_37 (by decide) ?_
      exact ih_5 (i + 1) (u + 0) (show (i + 1) ≤ (zWays cr inn f1 x).toInt.toNat ∧ (u + 0) = nI (rHr f2 x.toInt.toNat y (i + 1)) from ⟨by omega, ((rHr_s hu (kTg (inn := inn) hI hxz.1 (by omega) (by omega))).2 (by first | with_reducible assumption | assumption))⟩) (show (zWays cr inn f1 x).toInt.toNat - (i + 1) < (zWays cr inn f1 x).toInt.toNat - i from by omega) _ _ ls G (lv_sub hl [0, 1, 2, 3, 4] rfl)
    · have c_11n : (zTarget cr f1 f2 x (nI i)).toInt = y.toInt := (fa_eq _ _).mp c_11
      refine lv_iconst (v := 1) hx hb dX8_howManyLead_27 (by decide) ?_
      refine lv_goto (tgt := 32) hx hb dX8_howManyLead_28 (by decide) ?_
      refine lv_iadd hx hb dX8_howManyLead_32 ?_
      refine lv_istore_n (lv' := [(3, .int (u + 1)), (4, .int (nI i)), (0, .ref h), (1, .int x), (2, .int y)]) hx hb dX8_howManyLead_33 rfl hl (by decide) (zLvf_h rfl) (fun ls hl => ?_)
      refine lv_iinc (v := nI (i + 1)) (lv' := [(4, .int (nI (i + 1))), (3, .int (u + 1)), (0, .ref h), (1, .int x), (2, .int y)]) hx hb dX8_howManyLead_34 hl (k := 1) rfl (z_inc i 1) (by decide) (zLvf_h rfl) (fun ls hl => ?_)
      refine lv_goto (tgt := 5) hx hb dX8_howManyLead_37 (by decide) ?_
      exact ih_5 (i + 1) (u + 1) (show (i + 1) ≤ (zWays cr inn f1 x).toInt.toNat ∧ (u + 1) = nI (rHr f2 x.toInt.toNat y (i + 1)) from ⟨by omega, ((rHr_s hu (kTg (inn := inn) hI hxz.1 (by omega) (by omega))).1 (by first | with_reducible assumption | assumption))⟩) (show (zWays cr inn f1 x).toInt.toNat - (i + 1) < (zWays cr inn f1 x).toInt.toNat - i from by omega) _ _ ls G (lv_sub hl [0, 1, 2, 3, 4] rfl)
set_option maxHeartbeats 4000000 in
set_option maxRecDepth 100000 in
/-- c_f_howManyLeadTo -/
theorem c_f_howManyLeadTo (l : Launch) (T : zTy) (h : Nat) (cr : Int32) (inn : Int32) (f1 : Nat → Int32) (f2 : Nat → Int32) (f3 : Nat → Int32) (f4 : Nat → Int32) (w : va_W) (x : Int32) (hw : bLand T h cr inn f1 f2 f3 f4 w) (hI : zLI cr f1 f3) (hLq : zLq cr f1 f2) : zMi l T yX8_howManyLeadTo cX8_howManyLeadTo 4 (some .int) 4 0 0 [.ref h, .int x] [w] (fun (r : Int32) bs => bs = [w] ∧ r = nI (rHt (kW cr inn f1) f2 x true cr.toInt.toNat)) := by
  refine zMi_of (own := RX8) (by decide) rfl (Nat.le_of_ble_eq_true rfl) ?_
  intro p e s m args below meth c A ls C hr hlocks hnm hAe G hl
  refine zHide (fun Qz_ hQz_ => ?_)
  have hx := C.1
  have hb := C.2.1
  have hl : lv_has ls 4 [(0, .ref h), (1, .int x)] := hl
  have hcr := hI.1
  refine lv_iconst (v := 0) hx hb dX8_howManyLeadTo_0 (by decide) ?_
  refine lv_istore_n (lv' := [(2, .int 0), (0, .ref h), (1, .int x)]) hx hb dX8_howManyLeadTo_1 rfl hl (by decide) (zLvf_h rfl) (fun ls hl => ?_)
  refine lv_iconst (v := 0) hx hb dX8_howManyLeadTo_2 (by decide) ?_
  refine lv_istore_n (lv' := [(3, .int 0), (2, .int 0), (0, .ref h), (1, .int x)]) hx hb dX8_howManyLeadTo_3 rfl hl (by decide) (zLvf_h rfl) (fun ls hl => ?_)
  refine zEx4 hw ?_
  intro a1_1 a2_2 a3_3 a4_4 hbs9
  clear hw
  subst hbs9
  have G : zS T A s.heap s [[zO4 h cr inn a1_1 a2_2 a3_3 a4_4], [zAr T 0 a1_1 7 f1], [zAr T 0 a2_2 28 f2], [zAr T 0 a3_3 7 f3], [zAr T 0 a4_4 7 f4]] _ _ := G.re rfl
  have hw_5 : bLand T h cr inn f1 f2 f3 f4 [zO4 h cr inn a1_1 a2_2 a3_3 a4_4, zAr T 0 a1_1 7 f1, zAr T 0 a2_2 28 f2, zAr T 0 a3_3 7 f3, zAr T 0 a4_4 7 f4] := ⟨a1_1, a2_2, a3_3, a4_4, rfl⟩
  have G : zS T A s.heap s [[zO4 h cr inn a1_1 a2_2 a3_3 a4_4, zAr T 0 a1_1 7 f1, zAr T 0 a2_2 28 f2, zAr T 0 a3_3 7 f3, zAr T 0 a4_4 7 f4]] _ _ := G.re rfl
  refine z_lp2 (T := T) 4 (fun (i : Nat) (ui2 : Int32) => [[zO4 h cr inn a1_1 a2_2 a3_3 a4_4, zAr T 0 a1_1 7 f1, zAr T 0 a2_2 28 f2, zAr T 0 a3_3 7 f3, zAr T 0 a4_4 7 f4]]) (fun (i : Nat) (ui2 : Int32) => [(3, .int (nI i)), (2, .int ui2), (0, .ref h), (1, .int x)]) (fun (i : Nat) (ui2 : Int32) => i ≤ cr.toInt.toNat ∧ ui2 = nI (rHt (kW cr inn f1) f2 x true i)) (fun (i : Nat) (ui2 : Int32) => cr.toInt.toNat - i) ?_ 0 0 (show 0 ≤ cr.toInt.toNat ∧ 0 = nI (rHt (kW cr inn f1) f2 x true 0) from ⟨by omega, rfl⟩) G (lv_sub hl [0, 1, 2, 3] rfl)
  intro i ui2 hI9 ih_4 H locs ls G hl
  replace hI9 : i ≤ cr.toInt.toNat ∧ ui2 = nI (rHt (kW cr inn f1) f2 x true i) := hI9
  refine zAn2 hI9 ?_
  intro hi hu
  clear hI9
  replace G : zS T A s.heap s [[zO4 h cr inn a1_1 a2_2 a3_3 a4_4, zAr T 0 a1_1 7 f1, zAr T 0 a2_2 28 f2, zAr T 0 a3_3 7 f3, zAr T 0 a4_4 7 f4]] _ _ := G
  replace hl : lv_has ls 4 [(3, .int (nI i)), (2, .int ui2), (0, .ref h), (1, .int x)] := hl
  refine lv_iload_n hx hb dX8_howManyLeadTo_4 rfl (lv_at hl 0 rfl) ?_
  refine lv_aload_n hx hb dX8_howManyLeadTo_5 rfl (lv_at hl 2 rfl) ?_
  have G : zS T A s.heap s [[zO4 h cr inn a1_1 a2_2 a3_3 a4_4], [zAr T 0 a1_1 7 f1], [zAr T 0 a2_2 28 f2], [zAr T 0 a3_3 7 f3], [zAr T 0 a4_4 7 f4]] _ _ := G.re rfl
  refine z_get C G clX4 0 rfl 0 (by decide) m_fl_RX8_9 rfl dX8_howManyLeadTo_6 ?_
  refine lv_icmp_ge (tgt := 27) hx hb dX8_howManyLeadTo_9 (by decide) (fun c_6 => ?_) (fun c_6 => ?_)
  · have c_6n : cr.toInt ≤ (i : Int) := by have q := (fa_le _ _).mp c_6; rw [nI_toInt (n := i) (by omega)] at q; exact q
    refine lv_iload_n hx hb dX8_howManyLeadTo_27 rfl (lv_at hl 1 rfl) ?_
    have hw_7 : bLand T h cr inn f1 f2 f3 f4 [zO4 h cr inn a1_1 a2_2 a3_3 a4_4, zAr T 0 a1_1 7 f1, zAr T 0 a2_2 28 f2, zAr T 0 a3_3 7 f3, zAr T 0 a4_4 7 f4] := ⟨a1_1, a2_2, a3_3, a4_4, rfl⟩
    have G : zS T A s.heap s [[zO4 h cr inn a1_1 a2_2 a3_3 a4_4, zAr T 0 a1_1 7 f1, zAr T 0 a2_2 28 f2, zAr T 0 a3_3 7 f3, zAr T 0 a4_4 7 f4]] _ _ := G.re rfl
    exact z_back hQz_ (z_iret C hr hlocks G (Nat.le_of_ble_eq_true rfl) (Nat.le_of_ble_eq_true rfl) dX8_howManyLeadTo_28 ⟨rfl, (by rw [hu]; exact congrArg (fun q => nI (rHt (kW cr inn f1) f2 x true q)) (by omega))⟩)
  · have c_6n : ¬ cr.toInt ≤ (i : Int) := fun q => c_6 ((fa_le _ _).mpr (by rw [nI_toInt (n := i) (by omega)]; exact q))
    refine lv_iload_n hx hb dX8_howManyLeadTo_12 rfl (lv_at hl 1 rfl) ?_
    refine lv_aload_n hx hb dX8_howManyLeadTo_13 rfl (lv_at hl 2 rfl) ?_
    refine lv_iload_n hx hb dX8_howManyLeadTo_14 rfl (lv_at hl 0 rfl) ?_
    refine lv_iload_n hx hb dX8_howManyLeadTo_15 rfl (lv_at hl 3 rfl) ?_
    have hw_8 : bLand T h cr inn f1 f2 f3 f4 [zO4 h cr inn a1_1 a2_2 a3_3 a4_4, zAr T 0 a1_1 7 f1, zAr T 0 a2_2 28 f2, zAr T 0 a3_3 7 f3, zAr T 0 a4_4 7 f4] := ⟨a1_1, a2_2, a3_3, a4_4, rfl⟩
    have G : zS T A s.heap s [[zO4 h cr inn a1_1 a2_2 a3_3 a4_4, zAr T 0 a1_1 7 f1, zAr T 0 a2_2 28 f2, zAr T 0 a3_3 7 f3, zAr T 0 a4_4 7 f4]] _ _ := G.re rfl
    refine z_Si (bc := [[zO4 h cr inn a1_1 a2_2 a3_3 a4_4, zAr T 0 a1_1 7 f1, zAr T 0 a2_2 28 f2, zAr T 0 a3_3 7 f3, zAr T 0 a4_4 7 f4]]) (br := []) (As := [.ref h, .int (nI i), .int x]) (rest := [.int ui2]) C G (c_f_howManyLead l T h cr inn f1 f2 f3 f4 ([zO4 h cr inn a1_1 a2_2 a3_3 a4_4, zAr T 0 a1_1 7 f1, zAr T 0 a2_2 28 f2, zAr T 0 a3_3 7 f3, zAr T 0 a4_4 7 f4]) (nI i) x hw_8 (by first | with_reducible assumption | with_reducible rfl | omega | assumption | rfl) (by first | with_reducible assumption | with_reducible rfl | omega | assumption | rfl) (by unfold zHas; rw [nI_toInt (by omega)]; exact ⟨by omega, by omega, by omega⟩)) (kS_RX8_52 C.2.2.2.2 (Nat.le_of_ble_eq_true rfl) (Nat.le_of_ble_eq_true rfl)) [0] [0] rfl rfl rfl rfl hl.1 dX8_howManyLeadTo_16 (Nat.le_of_ble_eq_true rfl) (Nat.le_of_ble_eq_true rfl) (fun r_10 b1 H locs hw G => ?_)
    refine zAn2 hw ?_
    intro hbs9 h_9
    clear hw
    subst hbs9
    have G : zS T A s.heap s [[zO4 h cr inn a1_1 a2_2 a3_3 a4_4, zAr T 0 a1_1 7 f1, zAr T 0 a2_2 28 f2, zAr T 0 a3_3 7 f3, zAr T 0 a4_4 7 f4]] _ _ := G
    rw [nI_n9 (by omega)] at h_9
    refine lv_iadd hx hb dX8_howManyLeadTo_19 ?_
    refine lv_istore_n (lv' := [(2, .int (ui2 + r_10)), (3, .int (nI i)), (0, .ref h), (1, .int x)]) hx hb dX8_howManyLeadTo_20 rfl hl (by decide) (zLvf_h rfl) (fun ls hl => ?_)
    refine lv_iinc (v := nI (i + 1)) (lv' := [(3, .int (nI (i + 1))), (2, .int (ui2 + r_10)), (0, .ref h), (1, .int x)]) hx hb dX8_howManyLeadTo_21 hl (k := 1) rfl (z_inc i 1) (by decide) (zLvf_h rfl) (fun ls hl => ?_)
    refine lv_goto (tgt := 4) hx hb dX8_howManyLeadTo_24 (by decide) ?_
    exact ih_4 (i + 1) (ui2 + r_10) (show (i + 1) ≤ cr.toInt.toNat ∧ (ui2 + r_10) = nI (rHt (kW cr inn f1) f2 x true (i + 1)) from ⟨by omega, (by rw [hu, h_9, nI_add]; exact congrArg nI (congrArg (fun q => rHt (kW cr inn f1) f2 x true i + q) (if_pos (Or.inl rfl)).symm))⟩) (show cr.toInt.toNat - (i + 1) < cr.toInt.toNat - i from by omega) _ _ ls G (lv_sub hl [0, 1, 2, 3] rfl)
set_option maxHeartbeats 4000000 in
set_option maxRecDepth 100000 in
/-- c_f_loops -/
theorem c_f_loops (l : Launch) (T : zTy) (h : Nat) (cr : Int32) (inn : Int32) (f1 : Nat → Int32) (f2 : Nat → Int32) (f3 : Nat → Int32) (f4 : Nat → Int32) (w : va_W) (hw : bLand T h cr inn f1 f2 f3 f4 w) (hI : zLI cr f1 f3) (hLq : zLq cr f1 f2) : zMi l T yX8_loops cX8_loops 3 (some .int) 4 0 0 [.ref h] [w] (fun (r : Int32) bs => bs = [w] ∧ r = rLo (kW cr inn f1) f2 cr.toInt.toNat) := by
  refine zMi_of (own := RX8) (by decide) rfl (Nat.le_of_ble_eq_true rfl) ?_
  intro p e s m args below meth c A ls C hr hlocks hnm hAe G hl
  refine zHide (fun Qz_ hQz_ => ?_)
  have hx := C.1
  have hb := C.2.1
  have hl : lv_has ls 3 [(0, .ref h)] := hl
  have hcr := hI.1
  refine lv_iconst (v := 0) hx hb dX8_loops_0 (by decide) ?_
  refine lv_istore_n (lv' := [(1, .int 0), (0, .ref h)]) hx hb dX8_loops_1 rfl hl (by decide) (zLvf_h rfl) (fun ls hl => ?_)
  refine lv_iconst (v := 0) hx hb dX8_loops_2 (by decide) ?_
  refine lv_istore_n (lv' := [(2, .int 0), (1, .int 0), (0, .ref h)]) hx hb dX8_loops_3 rfl hl (by decide) (zLvf_h rfl) (fun ls hl => ?_)
  refine zEx4 hw ?_
  intro a1_1 a2_2 a3_3 a4_4 hbs9
  clear hw
  subst hbs9
  have G : zS T A s.heap s [[zO4 h cr inn a1_1 a2_2 a3_3 a4_4], [zAr T 0 a1_1 7 f1], [zAr T 0 a2_2 28 f2], [zAr T 0 a3_3 7 f3], [zAr T 0 a4_4 7 f4]] _ _ := G.re rfl
  have hw_5 : bLand T h cr inn f1 f2 f3 f4 [zO4 h cr inn a1_1 a2_2 a3_3 a4_4, zAr T 0 a1_1 7 f1, zAr T 0 a2_2 28 f2, zAr T 0 a3_3 7 f3, zAr T 0 a4_4 7 f4] := ⟨a1_1, a2_2, a3_3, a4_4, rfl⟩
  have G : zS T A s.heap s [[zO4 h cr inn a1_1 a2_2 a3_3 a4_4, zAr T 0 a1_1 7 f1, zAr T 0 a2_2 28 f2, zAr T 0 a3_3 7 f3, zAr T 0 a4_4 7 f4]] _ _ := G.re rfl
  refine z_lp2 (T := T) 4 (fun (i : Nat) (ui1 : Int32) => [[zO4 h cr inn a1_1 a2_2 a3_3 a4_4, zAr T 0 a1_1 7 f1, zAr T 0 a2_2 28 f2, zAr T 0 a3_3 7 f3, zAr T 0 a4_4 7 f4]]) (fun (i : Nat) (ui1 : Int32) => [(2, .int (nI i)), (1, .int ui1), (0, .ref h)]) (fun (i : Nat) (ui1 : Int32) => i ≤ cr.toInt.toNat ∧ ui1 = rLo (kW cr inn f1) f2 i) (fun (i : Nat) (ui1 : Int32) => cr.toInt.toNat - i) ?_ 0 0 (show 0 ≤ cr.toInt.toNat ∧ 0 = rLo (kW cr inn f1) f2 0 from ⟨by omega, rfl⟩) G (lv_sub hl [0, 1, 2] rfl)
  intro i ui1 hI9 ih_4 H locs ls G hl
  replace hI9 : i ≤ cr.toInt.toNat ∧ ui1 = rLo (kW cr inn f1) f2 i := hI9
  refine zAn2 hI9 ?_
  intro hi hu
  clear hI9
  replace G : zS T A s.heap s [[zO4 h cr inn a1_1 a2_2 a3_3 a4_4, zAr T 0 a1_1 7 f1, zAr T 0 a2_2 28 f2, zAr T 0 a3_3 7 f3, zAr T 0 a4_4 7 f4]] _ _ := G
  replace hl : lv_has ls 3 [(2, .int (nI i)), (1, .int ui1), (0, .ref h)] := hl
  refine lv_iload_n hx hb dX8_loops_4 rfl (lv_at hl 0 rfl) ?_
  refine lv_aload_n hx hb dX8_loops_5 rfl (lv_at hl 2 rfl) ?_
  have G : zS T A s.heap s [[zO4 h cr inn a1_1 a2_2 a3_3 a4_4], [zAr T 0 a1_1 7 f1], [zAr T 0 a2_2 28 f2], [zAr T 0 a3_3 7 f3], [zAr T 0 a4_4 7 f4]] _ _ := G.re rfl
  refine z_get C G clX4 0 rfl 0 (by decide) m_fl_RX8_9 rfl dX8_loops_6 ?_
  refine lv_icmp_ge (tgt := 27) hx hb dX8_loops_9 (by decide) (fun c_6 => ?_) (fun c_6 => ?_)
  · have c_6n : cr.toInt ≤ (i : Int) := by have q := (fa_le _ _).mp c_6; rw [nI_toInt (n := i) (by omega)] at q; exact q
    refine lv_iload_n hx hb dX8_loops_27 rfl (lv_at hl 1 rfl) ?_
    have hw_7 : bLand T h cr inn f1 f2 f3 f4 [zO4 h cr inn a1_1 a2_2 a3_3 a4_4, zAr T 0 a1_1 7 f1, zAr T 0 a2_2 28 f2, zAr T 0 a3_3 7 f3, zAr T 0 a4_4 7 f4] := ⟨a1_1, a2_2, a3_3, a4_4, rfl⟩
    have G : zS T A s.heap s [[zO4 h cr inn a1_1 a2_2 a3_3 a4_4, zAr T 0 a1_1 7 f1, zAr T 0 a2_2 28 f2, zAr T 0 a3_3 7 f3, zAr T 0 a4_4 7 f4]] _ _ := G.re rfl
    exact z_back hQz_ (z_iret C hr hlocks G (Nat.le_of_ble_eq_true rfl) (Nat.le_of_ble_eq_true rfl) dX8_loops_28 ⟨rfl, (by rw [hu]; exact congrArg (rLo (kW cr inn f1) f2) (by omega))⟩)
  · have c_6n : ¬ cr.toInt ≤ (i : Int) := fun q => c_6 ((fa_le _ _).mpr (by rw [nI_toInt (n := i) (by omega)]; exact q))
    refine lv_iload_n hx hb dX8_loops_12 rfl (lv_at hl 1 rfl) ?_
    refine lv_aload_n hx hb dX8_loops_13 rfl (lv_at hl 2 rfl) ?_
    refine lv_iload_n hx hb dX8_loops_14 rfl (lv_at hl 0 rfl) ?_
    refine lv_iload_n hx hb dX8_loops_15 rfl (lv_at hl 0 rfl) ?_
    have hw_8 : bLand T h cr inn f1 f2 f3 f4 [zO4 h cr inn a1_1 a2_2 a3_3 a4_4, zAr T 0 a1_1 7 f1, zAr T 0 a2_2 28 f2, zAr T 0 a3_3 7 f3, zAr T 0 a4_4 7 f4] := ⟨a1_1, a2_2, a3_3, a4_4, rfl⟩
    have G : zS T A s.heap s [[zO4 h cr inn a1_1 a2_2 a3_3 a4_4, zAr T 0 a1_1 7 f1, zAr T 0 a2_2 28 f2, zAr T 0 a3_3 7 f3, zAr T 0 a4_4 7 f4]] _ _ := G.re rfl
    refine z_Si (bc := [[zO4 h cr inn a1_1 a2_2 a3_3 a4_4, zAr T 0 a1_1 7 f1, zAr T 0 a2_2 28 f2, zAr T 0 a3_3 7 f3, zAr T 0 a4_4 7 f4]]) (br := []) (As := [.ref h, .int (nI i), .int (nI i)]) (rest := [.int ui1]) C G (c_f_howManyLead l T h cr inn f1 f2 f3 f4 ([zO4 h cr inn a1_1 a2_2 a3_3 a4_4, zAr T 0 a1_1 7 f1, zAr T 0 a2_2 28 f2, zAr T 0 a3_3 7 f3, zAr T 0 a4_4 7 f4]) (nI i) (nI i) hw_8 (by first | with_reducible assumption | with_reducible rfl | omega | assumption | rfl) (by first | with_reducible assumption | with_reducible rfl | omega | assumption | rfl) (by unfold zHas; rw [nI_toInt (by omega)]; exact ⟨by omega, by omega, by omega⟩)) (kS_RX8_52 C.2.2.2.2 (Nat.le_of_ble_eq_true rfl) (Nat.le_of_ble_eq_true rfl)) [0] [0] rfl rfl rfl rfl hl.1 dX8_loops_16 (Nat.le_of_ble_eq_true rfl) (Nat.le_of_ble_eq_true rfl) (fun r_10 b1 H locs hw G => ?_)
    refine zAn2 hw ?_
    intro hbs9 h_9
    clear hw
    subst hbs9
    have G : zS T A s.heap s [[zO4 h cr inn a1_1 a2_2 a3_3 a4_4, zAr T 0 a1_1 7 f1, zAr T 0 a2_2 28 f2, zAr T 0 a3_3 7 f3, zAr T 0 a4_4 7 f4]] _ _ := G
    rw [nI_n9 (by omega)] at h_9
    refine lv_iadd hx hb dX8_loops_19 ?_
    refine lv_istore_n (lv' := [(1, .int (ui1 + r_10)), (2, .int (nI i)), (0, .ref h)]) hx hb dX8_loops_20 rfl hl (by decide) (zLvf_h rfl) (fun ls hl => ?_)
    refine lv_iinc (v := nI (i + 1)) (lv' := [(2, .int (nI (i + 1))), (1, .int (ui1 + r_10)), (0, .ref h)]) hx hb dX8_loops_21 hl (k := 1) rfl (z_inc i 1) (by decide) (zLvf_h rfl) (fun ls hl => ?_)
    refine lv_goto (tgt := 4) hx hb dX8_loops_24 (by decide) ?_
    exact ih_4 (i + 1) (ui1 + r_10) (show (i + 1) ≤ cr.toInt.toNat ∧ (ui1 + r_10) = rLo (kW cr inn f1) f2 (i + 1) from ⟨by omega, (by rw [hu, h_9]; rfl)⟩) (show cr.toInt.toNat - (i + 1) < cr.toInt.toNat - i from by omega) _ _ ls G (lv_sub hl [0, 1, 2] rfl)
set_option maxHeartbeats 4000000 in
set_option maxRecDepth 100000 in
/-- c_f_doubles -/
theorem c_f_doubles (l : Launch) (T : zTy) (h : Nat) (cr : Int32) (inn : Int32) (f1 : Nat → Int32) (f2 : Nat → Int32) (f3 : Nat → Int32) (f4 : Nat → Int32) (w : va_W) (hw : bLand T h cr inn f1 f2 f3 f4 w) (hI : zLI cr f1 f3) (hLq : zLq cr f1 f2) : zMi l T yX8_doubles cX8_doubles 5 (some .int) 4 0 0 [.ref h] [w] (fun (r : Int32) bs => bs = [w] ∧ r = rDo (kW cr inn f1) f2 cr.toInt.toNat) := by
  refine zMi_of (own := RX8) (by decide) rfl (Nat.le_of_ble_eq_true rfl) ?_
  intro p e s m args below meth c A ls C hr hlocks hnm hAe G hl
  refine zHide (fun Qz_ hQz_ => ?_)
  have hx := C.1
  have hb := C.2.1
  have hl : lv_has ls 5 [(0, .ref h)] := hl
  have hcr := hI.1
  refine lv_iconst (v := 0) hx hb dX8_doubles_0 (by decide) ?_
  refine lv_istore_n (lv' := [(1, .int 0), (0, .ref h)]) hx hb dX8_doubles_1 rfl hl (by decide) (zLvf_h rfl) (fun ls hl => ?_)
  refine lv_iconst (v := 0) hx hb dX8_doubles_2 (by decide) ?_
  refine lv_istore_n (lv' := [(2, .int 0), (1, .int 0), (0, .ref h)]) hx hb dX8_doubles_3 rfl hl (by decide) (zLvf_h rfl) (fun ls hl => ?_)
  refine zEx4 hw ?_
  intro a1_1 a2_2 a3_3 a4_4 hbs9
  clear hw
  subst hbs9
  have G : zS T A s.heap s [[zO4 h cr inn a1_1 a2_2 a3_3 a4_4], [zAr T 0 a1_1 7 f1], [zAr T 0 a2_2 28 f2], [zAr T 0 a3_3 7 f3], [zAr T 0 a4_4 7 f4]] _ _ := G.re rfl
  have hw_5 : bLand T h cr inn f1 f2 f3 f4 [zO4 h cr inn a1_1 a2_2 a3_3 a4_4, zAr T 0 a1_1 7 f1, zAr T 0 a2_2 28 f2, zAr T 0 a3_3 7 f3, zAr T 0 a4_4 7 f4] := ⟨a1_1, a2_2, a3_3, a4_4, rfl⟩
  have G : zS T A s.heap s [[zO4 h cr inn a1_1 a2_2 a3_3 a4_4, zAr T 0 a1_1 7 f1, zAr T 0 a2_2 28 f2, zAr T 0 a3_3 7 f3, zAr T 0 a4_4 7 f4]] _ _ := G.re rfl
  refine z_lp2 (T := T) 4 (fun (i : Nat) (ui1 : Int32) => [[zO4 h cr inn a1_1 a2_2 a3_3 a4_4, zAr T 0 a1_1 7 f1, zAr T 0 a2_2 28 f2, zAr T 0 a3_3 7 f3, zAr T 0 a4_4 7 f4]]) (fun (i : Nat) (ui1 : Int32) => [(2, .int (nI i)), (1, .int ui1), (0, .ref h)]) (fun (i : Nat) (ui1 : Int32) => i ≤ cr.toInt.toNat ∧ ui1 = rDo (kW cr inn f1) f2 i) (fun (i : Nat) (ui1 : Int32) => cr.toInt.toNat - i) ?_ 0 0 (show 0 ≤ cr.toInt.toNat ∧ 0 = rDo (kW cr inn f1) f2 0 from ⟨by omega, rfl⟩) G (lv_sub hl [0, 1, 2] rfl)
  intro i ui1 hI9 ih_4 H locs ls G hl
  replace hI9 : i ≤ cr.toInt.toNat ∧ ui1 = rDo (kW cr inn f1) f2 i := hI9
  refine zAn2 hI9 ?_
  intro hi hu
  clear hI9
  replace G : zS T A s.heap s [[zO4 h cr inn a1_1 a2_2 a3_3 a4_4, zAr T 0 a1_1 7 f1, zAr T 0 a2_2 28 f2, zAr T 0 a3_3 7 f3, zAr T 0 a4_4 7 f4]] _ _ := G
  replace hl : lv_has ls 5 [(2, .int (nI i)), (1, .int ui1), (0, .ref h)] := hl
  refine lv_iload_n hx hb dX8_doubles_4 rfl (lv_at hl 0 rfl) ?_
  refine lv_aload_n hx hb dX8_doubles_5 rfl (lv_at hl 2 rfl) ?_
  have G : zS T A s.heap s [[zO4 h cr inn a1_1 a2_2 a3_3 a4_4], [zAr T 0 a1_1 7 f1], [zAr T 0 a2_2 28 f2], [zAr T 0 a3_3 7 f3], [zAr T 0 a4_4 7 f4]] _ _ := G.re rfl
  refine z_get C G clX4 0 rfl 0 (by decide) m_fl_RX8_9 rfl dX8_doubles_6 ?_
  refine lv_icmp_ge (tgt := 54) hx hb dX8_doubles_9 (by decide) (fun c_6 => ?_) (fun c_6 => ?_)
  · have c_6n : cr.toInt ≤ (i : Int) := by have q := (fa_le _ _).mp c_6; rw [nI_toInt (n := i) (by omega)] at q; exact q
    refine lv_iload_n hx hb dX8_doubles_54 rfl (lv_at hl 1 rfl) ?_
    have hw_7 : bLand T h cr inn f1 f2 f3 f4 [zO4 h cr inn a1_1 a2_2 a3_3 a4_4, zAr T 0 a1_1 7 f1, zAr T 0 a2_2 28 f2, zAr T 0 a3_3 7 f3, zAr T 0 a4_4 7 f4] := ⟨a1_1, a2_2, a3_3, a4_4, rfl⟩
    have G : zS T A s.heap s [[zO4 h cr inn a1_1 a2_2 a3_3 a4_4, zAr T 0 a1_1 7 f1, zAr T 0 a2_2 28 f2, zAr T 0 a3_3 7 f3, zAr T 0 a4_4 7 f4]] _ _ := G.re rfl
    exact z_back hQz_ (z_iret C hr hlocks G (Nat.le_of_ble_eq_true rfl) (Nat.le_of_ble_eq_true rfl) dX8_doubles_55 ⟨rfl, (by rw [hu]; exact congrArg (rDo (kW cr inn f1) f2) (by omega))⟩)
  · have c_6n : ¬ cr.toInt ≤ (i : Int) := fun q => c_6 ((fa_le _ _).mpr (by rw [nI_toInt (n := i) (by omega)]; exact q))
    refine lv_iconst (v := 0) hx hb dX8_doubles_12 (by decide) ?_
    refine lv_istore_n (lv' := [(3, .int 0), (2, .int (nI i)), (1, .int ui1), (0, .ref h)]) hx hb dX8_doubles_13 rfl hl (by decide) (zLvf_h rfl) (fun ls hl => ?_)
    have hw_8 : bLand T h cr inn f1 f2 f3 f4 [zO4 h cr inn a1_1 a2_2 a3_3 a4_4, zAr T 0 a1_1 7 f1, zAr T 0 a2_2 28 f2, zAr T 0 a3_3 7 f3, zAr T 0 a4_4 7 f4] := ⟨a1_1, a2_2, a3_3, a4_4, rfl⟩
    have G : zS T A s.heap s [[zO4 h cr inn a1_1 a2_2 a3_3 a4_4, zAr T 0 a1_1 7 f1, zAr T 0 a2_2 28 f2, zAr T 0 a3_3 7 f3, zAr T 0 a4_4 7 f4]] _ _ := G.re rfl
    refine z_lp2 (T := T) 14 (fun (j : Nat) (uj1 : Int32) => [[zO4 h cr inn a1_1 a2_2 a3_3 a4_4, zAr T 0 a1_1 7 f1, zAr T 0 a2_2 28 f2, zAr T 0 a3_3 7 f3, zAr T 0 a4_4 7 f4]]) (fun (j : Nat) (uj1 : Int32) => [(3, .int (nI j)), (2, .int (nI i)), (1, .int uj1), (0, .ref h)]) (fun (j : Nat) (uj1 : Int32) => j ≤ cr.toInt.toNat ∧ uj1 = ui1 + nI (rDc f2 i (zWays cr inn f1 (nI i)).toInt.toNat j)) (fun (j : Nat) (uj1 : Int32) => cr.toInt.toNat - j) ?_ 0 ui1 (show 0 ≤ cr.toInt.toNat ∧ ui1 = ui1 + nI (rDc f2 i (zWays cr inn f1 (nI i)).toInt.toNat 0) from ⟨by omega, (Int32.add_zero _).symm⟩) G (lv_sub hl [0, 1, 2, 3] rfl)
    intro j uj1 hI9 ih_14 H locs ls G hl
    replace hI9 : j ≤ cr.toInt.toNat ∧ uj1 = ui1 + nI (rDc f2 i (zWays cr inn f1 (nI i)).toInt.toNat j) := hI9
    refine zAn2 hI9 ?_
    intro hj hv
    clear hI9
    replace G : zS T A s.heap s [[zO4 h cr inn a1_1 a2_2 a3_3 a4_4, zAr T 0 a1_1 7 f1, zAr T 0 a2_2 28 f2, zAr T 0 a3_3 7 f3, zAr T 0 a4_4 7 f4]] _ _ := G
    replace hl : lv_has ls 5 [(3, .int (nI j)), (2, .int (nI i)), (1, .int uj1), (0, .ref h)] := hl
    refine lv_iload_n hx hb dX8_doubles_14 rfl (lv_at hl 0 rfl) ?_
    refine lv_aload_n hx hb dX8_doubles_15 rfl (lv_at hl 3 rfl) ?_
    have G : zS T A s.heap s [[zO4 h cr inn a1_1 a2_2 a3_3 a4_4], [zAr T 0 a1_1 7 f1], [zAr T 0 a2_2 28 f2], [zAr T 0 a3_3 7 f3], [zAr T 0 a4_4 7 f4]] _ _ := G.re rfl
    refine z_get C G clX4 0 rfl 0 (by decide) m_fl_RX8_9 rfl dX8_doubles_16 ?_
    refine lv_icmp_ge (tgt := 48) hx hb dX8_doubles_19 (by decide) (fun c_9 => ?_) (fun c_9 => ?_)
    · have c_9n : cr.toInt ≤ (j : Int) := by have q := (fa_le _ _).mp c_9; rw [nI_toInt (n := j) (by omega)] at q; exact q
      refine lv_iinc (v := nI (i + 1)) (lv' := [(2, .int (nI (i + 1))), (3, .int (nI j)), (1, .int uj1), (0, .ref h)]) hx hb dX8_doubles_48 hl (k := 1) rfl (z_inc i 1) (by decide) (zLvf_h rfl) (fun ls hl => ?_)
      refine lv_goto (tgt := 4) hx hb dX8_doubles_51 (by decide) ?_
      have hw_10 : bLand T h cr inn f1 f2 f3 f4 [zO4 h cr inn a1_1 a2_2 a3_3 a4_4, zAr T 0 a1_1 7 f1, zAr T 0 a2_2 28 f2, zAr T 0 a3_3 7 f3, zAr T 0 a4_4 7 f4] := ⟨a1_1, a2_2, a3_3, a4_4, rfl⟩
      have G : zS T A s.heap s [[zO4 h cr inn a1_1 a2_2 a3_3 a4_4, zAr T 0 a1_1 7 f1, zAr T 0 a2_2 28 f2, zAr T 0 a3_3 7 f3, zAr T 0 a4_4 7 f4]] _ _ := G.re rfl
      exact ih_4 (i + 1) uj1 (show (i + 1) ≤ cr.toInt.toNat ∧ uj1 = rDo (kW cr inn f1) f2 (i + 1) from ⟨by omega, (by have hw9 := zWays_le (inn := inn) hI (nI i); rw [hv, hu, show j = cr.toInt.toNat by omega, rDc_e (kOk (inn := inn) hI hLq) (by omega) (zWays cr inn f1 (nI i)).toInt.toNat (by show _ ≤ (zWays cr inn f1 (nI i)).toInt; omega)]; rfl)⟩) (show cr.toInt.toNat - (i + 1) < cr.toInt.toNat - i from by omega) _ _ ls G (lv_sub hl [0, 2, 3] rfl)
    · have c_9n : ¬ cr.toInt ≤ (j : Int) := fun q => c_9 ((fa_le _ _).mpr (by rw [nI_toInt (n := j) (by omega)]; exact q))
      refine lv_aload_n hx hb dX8_doubles_22 rfl (lv_at hl 3 rfl) ?_
      refine lv_iload_n hx hb dX8_doubles_23 rfl (lv_at hl 1 rfl) ?_
      refine lv_iload_n hx hb dX8_doubles_24 rfl (lv_at hl 0 rfl) ?_
      have hw_11 : bLand T h cr inn f1 f2 f3 f4 [zO4 h cr inn a1_1 a2_2 a3_3 a4_4, zAr T 0 a1_1 7 f1, zAr T 0 a2_2 28 f2, zAr T 0 a3_3 7 f3, zAr T 0 a4_4 7 f4] := ⟨a1_1, a2_2, a3_3, a4_4, rfl⟩
      have G : zS T A s.heap s [[zO4 h cr inn a1_1 a2_2 a3_3 a4_4, zAr T 0 a1_1 7 f1, zAr T 0 a2_2 28 f2, zAr T 0 a3_3 7 f3, zAr T 0 a4_4 7 f4]] _ _ := G.re rfl
      refine z_Si (bc := [[zO4 h cr inn a1_1 a2_2 a3_3 a4_4, zAr T 0 a1_1 7 f1, zAr T 0 a2_2 28 f2, zAr T 0 a3_3 7 f3, zAr T 0 a4_4 7 f4]]) (br := []) (As := [.ref h, .int (nI i), .int (nI j)]) (rest := []) C G (c_f_howManyLead l T h cr inn f1 f2 f3 f4 ([zO4 h cr inn a1_1 a2_2 a3_3 a4_4, zAr T 0 a1_1 7 f1, zAr T 0 a2_2 28 f2, zAr T 0 a3_3 7 f3, zAr T 0 a4_4 7 f4]) (nI i) (nI j) hw_11 (by first | with_reducible assumption | with_reducible rfl | omega | assumption | rfl) (by first | with_reducible assumption | with_reducible rfl | omega | assumption | rfl) (by unfold zHas; rw [nI_toInt (by omega)]; exact ⟨by omega, by omega, by omega⟩)) (kS_RX8_52 C.2.2.2.2 (Nat.le_of_ble_eq_true rfl) (Nat.le_of_ble_eq_true rfl)) [0] [0] rfl rfl rfl rfl hl.1 dX8_doubles_25 (Nat.le_of_ble_eq_true rfl) (Nat.le_of_ble_eq_true rfl) (fun r_13 b1 H locs hw G => ?_)
      refine zAn2 hw ?_
      intro hbs9 h_12
      clear hw
      subst hbs9
      have G : zS T A s.heap s [[zO4 h cr inn a1_1 a2_2 a3_3 a4_4, zAr T 0 a1_1 7 f1, zAr T 0 a2_2 28 f2, zAr T 0 a3_3 7 f3, zAr T 0 a4_4 7 f4]] _ _ := G
      rw [nI_n9 (by omega)] at h_12
      have hl9 := rHr_le (L := f2) (a := i) (y := nI j) (zWays cr inn f1 (nI i)).toInt.toNat
      have hw9 := zWays_le (inn := inn) hI (nI i)
      refine lv_istore (lv' := [(4, .int r_13), (3, .int (nI j)), (2, .int (nI i)), (1, .int uj1), (0, .ref h)]) hx hb dX8_doubles_28 hl (by decide) (zLvf_h rfl) (fun ls hl => ?_)
      refine lv_iload_n hx hb dX8_doubles_30 rfl (lv_at hl 3 rfl) ?_
      refine lv_iload hx hb dX8_doubles_31 (lv_at hl 0 rfl) ?_
      refine lv_iload hx hb dX8_doubles_33 (lv_at hl 0 rfl) ?_
      refine lv_iconst (v := 1) hx hb dX8_doubles_35 (by decide) ?_
      refine lv_isub hx hb dX8_doubles_36 ?_
      refine lv_imul hx hb dX8_doubles_37 ?_
      refine lv_iconst (v := 2) hx hb dX8_doubles_38 (by decide) ?_
      refine lv_idiv hx hb dX8_doubles_39 (by decide) ?_
      refine lv_iadd hx hb dX8_doubles_40 ?_
      refine lv_istore_n (lv' := [(1, .int (uj1 + ((r_13 * (r_13 - 1)) / 2))), (4, .int r_13), (3, .int (nI j)), (2, .int (nI i)), (0, .ref h)]) hx hb dX8_doubles_41 rfl hl (by decide) (zLvf_h rfl) (fun ls hl => ?_)
      refine lv_iinc (v := nI (j + 1)) (lv' := [(3, .int (nI (j + 1))), (1, .int (uj1 + ((r_13 * (r_13 - 1)) / 2))), (4, .int r_13), (2, .int (nI i)), (0, .ref h)]) hx hb dX8_doubles_42 hl (k := 2) rfl (z_inc j 1) (by decide) (zLvf_h rfl) (fun ls hl => ?_)
      refine lv_goto (tgt := 14) hx hb dX8_doubles_45 (by decide) ?_
      exact ih_14 (j + 1) (uj1 + ((r_13 * (r_13 - 1)) / 2)) (show (j + 1) ≤ cr.toInt.toNat ∧ (uj1 + ((r_13 * (r_13 - 1)) / 2)) = ui1 + nI (rDc f2 i (zWays cr inn f1 (nI i)).toInt.toNat (j + 1)) from ⟨by omega, (by rw [h_12, rTriI _ (by omega), hv, Int32.add_assoc, nI_add]; rfl)⟩) (show cr.toInt.toNat - (j + 1) < cr.toInt.toNat - j from by omega) _ _ ls G (lv_sub hl [0, 3, 1, 4] rfl)
set_option maxHeartbeats 4000000 in
set_option maxRecDepth 100000 in
/-- c_f_even -/
theorem c_f_even (l : Launch) (T : zTy) (h : Nat) (cr : Int32) (inn : Int32) (f1 : Nat → Int32) (f2 : Nat → Int32) (f3 : Nat → Int32) (f4 : Nat → Int32) (w : va_W) (hw : bLand T h cr inn f1 f2 f3 f4 w) (hI : zLI cr f1 f3) (hLq : zLq cr f1 f2) : zMi l T yX8_even cX8_even 3 (some .int) 5 0 0 [.ref h] [w] (fun (r : Int32) bs => bs = [w] ∧ r = rEv (kW cr inn f1) f2 cr.toInt.toNat) := by
  refine zMi_of (own := RX8) (by decide) rfl (Nat.le_of_ble_eq_true rfl) ?_
  intro p e s m args below meth c A ls C hr hlocks hnm hAe G hl
  refine zHide (fun Qz_ hQz_ => ?_)
  have hx := C.1
  have hb := C.2.1
  have hl : lv_has ls 3 [(0, .ref h)] := hl
  have hcr := hI.1
  refine lv_iconst (v := 0) hx hb dX8_even_0 (by decide) ?_
  refine lv_istore_n (lv' := [(1, .int 0), (0, .ref h)]) hx hb dX8_even_1 rfl hl (by decide) (zLvf_h rfl) (fun ls hl => ?_)
  refine lv_iconst (v := 0) hx hb dX8_even_2 (by decide) ?_
  refine lv_istore_n (lv' := [(2, .int 0), (1, .int 0), (0, .ref h)]) hx hb dX8_even_3 rfl hl (by decide) (zLvf_h rfl) (fun ls hl => ?_)
  refine zEx4 hw ?_
  intro a1_1 a2_2 a3_3 a4_4 hbs9
  clear hw
  subst hbs9
  have G : zS T A s.heap s [[zO4 h cr inn a1_1 a2_2 a3_3 a4_4], [zAr T 0 a1_1 7 f1], [zAr T 0 a2_2 28 f2], [zAr T 0 a3_3 7 f3], [zAr T 0 a4_4 7 f4]] _ _ := G.re rfl
  have hw_5 : bLand T h cr inn f1 f2 f3 f4 [zO4 h cr inn a1_1 a2_2 a3_3 a4_4, zAr T 0 a1_1 7 f1, zAr T 0 a2_2 28 f2, zAr T 0 a3_3 7 f3, zAr T 0 a4_4 7 f4] := ⟨a1_1, a2_2, a3_3, a4_4, rfl⟩
  have G : zS T A s.heap s [[zO4 h cr inn a1_1 a2_2 a3_3 a4_4, zAr T 0 a1_1 7 f1, zAr T 0 a2_2 28 f2, zAr T 0 a3_3 7 f3, zAr T 0 a4_4 7 f4]] _ _ := G.re rfl
  refine z_lp2 (T := T) 4 (fun (i : Nat) (ui1 : Int32) => [[zO4 h cr inn a1_1 a2_2 a3_3 a4_4, zAr T 0 a1_1 7 f1, zAr T 0 a2_2 28 f2, zAr T 0 a3_3 7 f3, zAr T 0 a4_4 7 f4]]) (fun (i : Nat) (ui1 : Int32) => [(2, .int (nI i)), (1, .int ui1), (0, .ref h)]) (fun (i : Nat) (ui1 : Int32) => i ≤ cr.toInt.toNat ∧ rOb (fun c => nI (rHt (kW cr inn f1) f2 (nI c) true cr.toInt.toNat) = (kW cr inn f1) c) i ui1) (fun (i : Nat) (ui1 : Int32) => cr.toInt.toNat - i) ?_ 0 0 (show 0 ≤ cr.toInt.toNat ∧ rOb (fun c => nI (rHt (kW cr inn f1) f2 (nI c) true cr.toInt.toNat) = (kW cr inn f1) c) 0 0 from ⟨by omega, rOb_0⟩) G (lv_sub hl [0, 1, 2] rfl)
  intro i ui1 hI9 ih_4 H locs ls G hl
  replace hI9 : i ≤ cr.toInt.toNat ∧ rOb (fun c => nI (rHt (kW cr inn f1) f2 (nI c) true cr.toInt.toNat) = (kW cr inn f1) c) i ui1 := hI9
  refine zAn2 hI9 ?_
  intro hi hu
  clear hI9
  replace G : zS T A s.heap s [[zO4 h cr inn a1_1 a2_2 a3_3 a4_4, zAr T 0 a1_1 7 f1, zAr T 0 a2_2 28 f2, zAr T 0 a3_3 7 f3, zAr T 0 a4_4 7 f4]] _ _ := G
  replace hl : lv_has ls 3 [(2, .int (nI i)), (1, .int ui1), (0, .ref h)] := hl
  refine lv_iload_n hx hb dX8_even_4 rfl (lv_at hl 0 rfl) ?_
  refine lv_aload_n hx hb dX8_even_5 rfl (lv_at hl 2 rfl) ?_
  have G : zS T A s.heap s [[zO4 h cr inn a1_1 a2_2 a3_3 a4_4], [zAr T 0 a1_1 7 f1], [zAr T 0 a2_2 28 f2], [zAr T 0 a3_3 7 f3], [zAr T 0 a4_4 7 f4]] _ _ := G.re rfl
  refine z_get C G clX4 0 rfl 0 (by decide) m_fl_RX8_9 rfl dX8_even_6 ?_
  refine lv_icmp_ge (tgt := 41) hx hb dX8_even_9 (by decide) (fun c_6 => ?_) (fun c_6 => ?_)
  · have c_6n : cr.toInt ≤ (i : Int) := by have q := (fa_le _ _).mp c_6; rw [nI_toInt (n := i) (by omega)] at q; exact q
    refine lv_iload_n hx hb dX8_even_41 rfl (lv_at hl 1 rfl) ?_
    have hw_7 : bLand T h cr inn f1 f2 f3 f4 [zO4 h cr inn a1_1 a2_2 a3_3 a4_4, zAr T 0 a1_1 7 f1, zAr T 0 a2_2 28 f2, zAr T 0 a3_3 7 f3, zAr T 0 a4_4 7 f4] := ⟨a1_1, a2_2, a3_3, a4_4, rfl⟩
    have G : zS T A s.heap s [[zO4 h cr inn a1_1 a2_2 a3_3 a4_4, zAr T 0 a1_1 7 f1, zAr T 0 a2_2 28 f2, zAr T 0 a3_3 7 f3, zAr T 0 a4_4 7 f4]] _ _ := G.re rfl
    exact z_back hQz_ (z_iret C hr hlocks G (Nat.le_of_ble_eq_true rfl) (Nat.le_of_ble_eq_true rfl) dX8_even_42 ⟨rfl, (rCk_u (by omega) (by rw [show i = cr.toInt.toNat by omega] at hu; exact hu) (fun b hb => by rw [decide_eq_true_eq]))⟩)
  · have c_6n : ¬ cr.toInt ≤ (i : Int) := fun q => c_6 ((fa_le _ _).mpr (by rw [nI_toInt (n := i) (by omega)]; exact q))
    refine lv_iload_n hx hb dX8_even_12 rfl (lv_at hl 1 rfl) ?_
    refine lv_aload_n hx hb dX8_even_13 rfl (lv_at hl 2 rfl) ?_
    refine lv_iload_n hx hb dX8_even_14 rfl (lv_at hl 0 rfl) ?_
    have hw_8 : bLand T h cr inn f1 f2 f3 f4 [zO4 h cr inn a1_1 a2_2 a3_3 a4_4, zAr T 0 a1_1 7 f1, zAr T 0 a2_2 28 f2, zAr T 0 a3_3 7 f3, zAr T 0 a4_4 7 f4] := ⟨a1_1, a2_2, a3_3, a4_4, rfl⟩
    have G : zS T A s.heap s [[zO4 h cr inn a1_1 a2_2 a3_3 a4_4, zAr T 0 a1_1 7 f1, zAr T 0 a2_2 28 f2, zAr T 0 a3_3 7 f3, zAr T 0 a4_4 7 f4]] _ _ := G.re rfl
    refine z_Si (bc := [[zO4 h cr inn a1_1 a2_2 a3_3 a4_4, zAr T 0 a1_1 7 f1, zAr T 0 a2_2 28 f2, zAr T 0 a3_3 7 f3, zAr T 0 a4_4 7 f4]]) (br := []) (As := [.ref h, .int (nI i)]) (rest := [.int ui1]) C G (c_f_howManyLeadTo l T h cr inn f1 f2 f3 f4 ([zO4 h cr inn a1_1 a2_2 a3_3 a4_4, zAr T 0 a1_1 7 f1, zAr T 0 a2_2 28 f2, zAr T 0 a3_3 7 f3, zAr T 0 a4_4 7 f4]) (nI i) hw_8 (by first | with_reducible assumption | with_reducible rfl | omega | assumption | rfl) (by first | with_reducible assumption | with_reducible rfl | omega | assumption | rfl)) (kS_RX8_56 C.2.2.2.2 (Nat.le_of_ble_eq_true rfl) (Nat.le_of_ble_eq_true rfl)) [0] [0] rfl rfl rfl rfl hl.1 dX8_even_15 (Nat.le_of_ble_eq_true rfl) (Nat.le_of_ble_eq_true rfl) (fun r_10 b1 H locs hw G => ?_)
    refine zAn2 hw ?_
    intro hbs9 h_9
    clear hw
    subst hbs9
    have G : zS T A s.heap s [[zO4 h cr inn a1_1 a2_2 a3_3 a4_4, zAr T 0 a1_1 7 f1, zAr T 0 a2_2 28 f2, zAr T 0 a3_3 7 f3, zAr T 0 a4_4 7 f4]] _ _ := G
    refine lv_aload_n hx hb dX8_even_18 rfl (lv_at hl 2 rfl) ?_
    refine lv_iload_n hx hb dX8_even_19 rfl (lv_at hl 0 rfl) ?_
    refine z_Vi (bc := [[zO4 h cr inn a1_1 a2_2 a3_3 a4_4, zAr T 0 a1_1 7 f1, zAr T 0 a2_2 28 f2, zAr T 0 a3_3 7 f3, zAr T 0 a4_4 7 f4]]) (br := []) (As := [.int (nI i)]) (rest := [.int r_10, .int ui1]) C G (c_waysOut l T h cr inn f1 f2 f3 f4 ([zO4 h cr inn a1_1 a2_2 a3_3 a4_4, zAr T 0 a1_1 7 f1, zAr T 0 a2_2 28 f2, zAr T 0 a3_3 7 f3, zAr T 0 a4_4 7 f4]) (nI i) hw_8) (kV_RX8_15 C.2.2.2.2 (Nat.le_of_ble_eq_true rfl) (Nat.le_of_ble_eq_true rfl)) [0] [0] rfl rfl (ci := 4) (qc := (RX4, TX4, 6)) rfl rfl (List.mem_flatten.mpr ⟨_, List.mem_of_getElem? (i := 0) rfl, (bLand_mem hw_8).choose_spec⟩) rfl rfl hl.1 dX8_even_20 (Nat.le_of_ble_eq_true rfl) (Nat.le_of_ble_eq_true rfl) (fun r_12 b1 H locs hw G => ?_)
    refine zAn2 hw ?_
    intro hbs9 h_11
    clear hw
    subst hbs9
    have G : zS T A s.heap s [[zO4 h cr inn a1_1 a2_2 a3_3 a4_4, zAr T 0 a1_1 7 f1, zAr T 0 a2_2 28 f2, zAr T 0 a3_3 7 f3, zAr T 0 a4_4 7 f4]] _ _ := G
    subst h_11
    refine lv_icmp_ne (tgt := 32) hx hb dX8_even_23 (by decide) (fun c_13 => ?_) (fun c_13 => ?_)
    · have c_13n : ¬ r_10.toInt = (zWays cr inn f1 (nI i)).toInt := fun q => c_13 ((fa_eq _ _).mpr q)
      refine lv_iconst (v := 0) hx hb dX8_even_32 (by decide) ?_
      refine lv_ior hx hb dX8_even_33 ?_
      refine lv_istore_n (lv' := [(1, .int (ui1 ||| 0)), (2, .int (nI i)), (0, .ref h)]) hx hb dX8_even_34 rfl hl (by decide) (zLvf_h rfl) (fun ls hl => ?_)
      refine lv_iinc (v := nI (i + 1)) (lv' := [(2, .int (nI (i + 1))), (1, .int (ui1 ||| 0)), (0, .ref h)]) hx hb dX8_even_35 hl (k := 1) rfl (z_inc i 1) (by decide) (zLvf_h rfl) (fun ls hl => ?_)
      refine lv_goto (tgt := 4) hx hb dX8_even_38 (by decide) ?_
      exact ih_4 (i + 1) (ui1 ||| 0) (show (i + 1) ≤ cr.toInt.toNat ∧ rOb (fun c => nI (rHt (kW cr inn f1) f2 (nI c) true cr.toInt.toNat) = (kW cr inn f1) c) (i + 1) (ui1 ||| 0) from ⟨by omega, (rOb_n hu (fun q8 => absurd (h_9.trans q8) (by first | with_reducible assumption | assumption)))⟩) (show cr.toInt.toNat - (i + 1) < cr.toInt.toNat - i from by omega) _ _ ls G (lv_sub hl [0, 1, 2] rfl)
    · have c_13n : r_10.toInt = (zWays cr inn f1 (nI i)).toInt := (fa_eq _ _).mp c_13
      refine lv_iconst (v := 1) hx hb dX8_even_26 (by decide) ?_
      refine lv_iload_n hx hb dX8_even_27 rfl (lv_at hl 0 rfl) ?_
      refine lv_ishl hx hb dX8_even_28 ?_
      refine lv_goto (tgt := 33) hx hb dX8_even_29 (by decide) ?_
      refine lv_ior hx hb dX8_even_33 ?_
      refine lv_istore_n (lv' := [(1, .int (ui1 ||| (1 <<< ((nI i) &&& 31)))), (2, .int (nI i)), (0, .ref h)]) hx hb dX8_even_34 rfl hl (by decide) (zLvf_h rfl) (fun ls hl => ?_)
      refine lv_iinc (v := nI (i + 1)) (lv' := [(2, .int (nI (i + 1))), (1, .int (ui1 ||| (1 <<< ((nI i) &&& 31)))), (0, .ref h)]) hx hb dX8_even_35 hl (k := 1) rfl (z_inc i 1) (by decide) (zLvf_h rfl) (fun ls hl => ?_)
      refine lv_goto (tgt := 4) hx hb dX8_even_38 (by decide) ?_
      exact ih_4 (i + 1) (ui1 ||| (1 <<< ((nI i) &&& 31))) (show (i + 1) ≤ cr.toInt.toNat ∧ rOb (fun c => nI (rHt (kW cr inn f1) f2 (nI c) true cr.toInt.toNat) = (kW cr inn f1) c) (i + 1) (ui1 ||| (1 <<< ((nI i) &&& 31))) from ⟨by omega, (rOb_y (by omega) hu (h_9.symm.trans (by first | with_reducible assumption | assumption)))⟩) (show cr.toInt.toNat - (i + 1) < cr.toInt.toNat - i from by omega) _ _ ls G (lv_sub hl [0, 1, 2] rfl)
set_option maxHeartbeats 4000000 in
set_option maxRecDepth 100000 in
/-- c_f_busy -/
theorem c_f_busy (l : Launch) (T : zTy) (h : Nat) (cr : Int32) (inn : Int32) (f1 : Nat → Int32) (f2 : Nat → Int32) (f3 : Nat → Int32) (f4 : Nat → Int32) (w : va_W) (hw : bLand T h cr inn f1 f2 f3 f4 w) (hI : zLI cr f1 f3) (hLq : zLq cr f1 f2) : zMi l T yX8_busy cX8_busy 5 (some .int) 5 0 0 [.ref h] [w] (fun (r : Int32) bs => bs = [w] ∧ r = rBz (fun c => rHt (kW cr inn f1) f2 (nI c) true cr.toInt.toNat) cr.toInt.toNat) := by
  refine zMi_of (own := RX8) (by decide) rfl (Nat.le_of_ble_eq_true rfl) ?_
  intro p e s m args below meth c A ls C hr hlocks hnm hAe G hl
  refine zHide (fun Qz_ hQz_ => ?_)
  have hx := C.1
  have hb := C.2.1
  have hl : lv_has ls 5 [(0, .ref h)] := hl
  have hcr := hI.1
  have hg9 : ∀ c, (fun c => rHt (kW cr inn f1) f2 (nI c) true cr.toInt.toNat) c < 1000 := fun c => by have q9 := rHt_le (W := (kW cr inn f1)) (L := f2) (y := nI c) (own := true) (fun j _ => (zWays_le (inn := inn) hI (nI j)).2) cr.toInt.toNat (by omega); show rHt (kW cr inn f1) f2 (nI c) true cr.toInt.toNat < 1000; omega
  refine lv_iconst (v := (-1)) hx hb dX8_busy_0 (by decide) ?_
  refine lv_istore_n (lv' := [(1, .int (-1)), (0, .ref h)]) hx hb dX8_busy_1 rfl hl (by decide) (zLvf_h rfl) (fun ls hl => ?_)
  refine lv_iconst (v := (-1)) hx hb dX8_busy_2 (by decide) ?_
  refine lv_istore_n (lv' := [(2, .int (-1)), (1, .int (-1)), (0, .ref h)]) hx hb dX8_busy_3 rfl hl (by decide) (zLvf_h rfl) (fun ls hl => ?_)
  refine lv_iconst (v := 0) hx hb dX8_busy_4 (by decide) ?_
  refine lv_istore_n (lv' := [(3, .int 0), (2, .int (-1)), (1, .int (-1)), (0, .ref h)]) hx hb dX8_busy_5 rfl hl (by decide) (zLvf_h rfl) (fun ls hl => ?_)
  refine zEx4 hw ?_
  intro a1_1 a2_2 a3_3 a4_4 hbs9
  clear hw
  subst hbs9
  have G : zS T A s.heap s [[zO4 h cr inn a1_1 a2_2 a3_3 a4_4], [zAr T 0 a1_1 7 f1], [zAr T 0 a2_2 28 f2], [zAr T 0 a3_3 7 f3], [zAr T 0 a4_4 7 f4]] _ _ := G.re rfl
  have hw_5 : bLand T h cr inn f1 f2 f3 f4 [zO4 h cr inn a1_1 a2_2 a3_3 a4_4, zAr T 0 a1_1 7 f1, zAr T 0 a2_2 28 f2, zAr T 0 a3_3 7 f3, zAr T 0 a4_4 7 f4] := ⟨a1_1, a2_2, a3_3, a4_4, rfl⟩
  have G : zS T A s.heap s [[zO4 h cr inn a1_1 a2_2 a3_3 a4_4, zAr T 0 a1_1 7 f1, zAr T 0 a2_2 28 f2, zAr T 0 a3_3 7 f3, zAr T 0 a4_4 7 f4]] _ _ := G.re rfl
  refine z_lp3 (T := T) 6 (fun (i : Nat) (ui1 : Int32) (ui2 : Int32) => [[zO4 h cr inn a1_1 a2_2 a3_3 a4_4, zAr T 0 a1_1 7 f1, zAr T 0 a2_2 28 f2, zAr T 0 a3_3 7 f3, zAr T 0 a4_4 7 f4]]) (fun (i : Nat) (ui1 : Int32) (ui2 : Int32) => [(3, .int (nI i)), (2, .int ui2), (1, .int ui1), (0, .ref h)]) (fun (i : Nat) (ui1 : Int32) (ui2 : Int32) => i ≤ cr.toInt.toNat ∧ rBi (fun c => rHt (kW cr inn f1) f2 (nI c) true cr.toInt.toNat) i ui1 ui2) (fun (i : Nat) (ui1 : Int32) (ui2 : Int32) => cr.toInt.toNat - i) ?_ 0 (-1) (-1) (show 0 ≤ cr.toInt.toNat ∧ rBi (fun c => rHt (kW cr inn f1) f2 (nI c) true cr.toInt.toNat) 0 (-1) (-1) from ⟨by omega, (Or.inl ⟨rfl, rfl, rfl⟩)⟩) G (lv_sub hl [0, 1, 2, 3] rfl)
  intro i ui1 ui2 hI9 ih_6 H locs ls G hl
  replace hI9 : i ≤ cr.toInt.toNat ∧ rBi (fun c => rHt (kW cr inn f1) f2 (nI c) true cr.toInt.toNat) i ui1 ui2 := hI9
  refine zAn2 hI9 ?_
  intro hi hB
  clear hI9
  replace G : zS T A s.heap s [[zO4 h cr inn a1_1 a2_2 a3_3 a4_4, zAr T 0 a1_1 7 f1, zAr T 0 a2_2 28 f2, zAr T 0 a3_3 7 f3, zAr T 0 a4_4 7 f4]] _ _ := G
  replace hl : lv_has ls 5 [(3, .int (nI i)), (2, .int ui2), (1, .int ui1), (0, .ref h)] := hl
  refine lv_iload_n hx hb dX8_busy_6 rfl (lv_at hl 0 rfl) ?_
  refine lv_aload_n hx hb dX8_busy_7 rfl (lv_at hl 3 rfl) ?_
  have G : zS T A s.heap s [[zO4 h cr inn a1_1 a2_2 a3_3 a4_4], [zAr T 0 a1_1 7 f1], [zAr T 0 a2_2 28 f2], [zAr T 0 a3_3 7 f3], [zAr T 0 a4_4 7 f4]] _ _ := G.re rfl
  refine z_get C G clX4 0 rfl 0 (by decide) m_fl_RX8_9 rfl dX8_busy_8 ?_
  refine lv_icmp_ge (tgt := 38) hx hb dX8_busy_11 (by decide) (fun c_6 => ?_) (fun c_6 => ?_)
  · have c_6n : cr.toInt ≤ (i : Int) := by have q := (fa_le _ _).mp c_6; rw [nI_toInt (n := i) (by omega)] at q; exact q
    refine lv_iload_n hx hb dX8_busy_38 rfl (lv_at hl 2 rfl) ?_
    have hw_7 : bLand T h cr inn f1 f2 f3 f4 [zO4 h cr inn a1_1 a2_2 a3_3 a4_4, zAr T 0 a1_1 7 f1, zAr T 0 a2_2 28 f2, zAr T 0 a3_3 7 f3, zAr T 0 a4_4 7 f4] := ⟨a1_1, a2_2, a3_3, a4_4, rfl⟩
    have G : zS T A s.heap s [[zO4 h cr inn a1_1 a2_2 a3_3 a4_4, zAr T 0 a1_1 7 f1, zAr T 0 a2_2 28 f2, zAr T 0 a3_3 7 f3, zAr T 0 a4_4 7 f4]] _ _ := G.re rfl
    exact z_back hQz_ (z_iret C hr hlocks G (Nat.le_of_ble_eq_true rfl) (Nat.le_of_ble_eq_true rfl) dX8_busy_39 ⟨rfl, (rBi_e (v := ui2) (by rw [show i = cr.toInt.toNat by omega] at hB; exact hB))⟩)
  · have c_6n : ¬ cr.toInt ≤ (i : Int) := fun q => c_6 ((fa_le _ _).mpr (by rw [nI_toInt (n := i) (by omega)]; exact q))
    refine lv_aload_n hx hb dX8_busy_14 rfl (lv_at hl 3 rfl) ?_
    refine lv_iload_n hx hb dX8_busy_15 rfl (lv_at hl 0 rfl) ?_
    have hw_8 : bLand T h cr inn f1 f2 f3 f4 [zO4 h cr inn a1_1 a2_2 a3_3 a4_4, zAr T 0 a1_1 7 f1, zAr T 0 a2_2 28 f2, zAr T 0 a3_3 7 f3, zAr T 0 a4_4 7 f4] := ⟨a1_1, a2_2, a3_3, a4_4, rfl⟩
    have G : zS T A s.heap s [[zO4 h cr inn a1_1 a2_2 a3_3 a4_4, zAr T 0 a1_1 7 f1, zAr T 0 a2_2 28 f2, zAr T 0 a3_3 7 f3, zAr T 0 a4_4 7 f4]] _ _ := G.re rfl
    refine z_Si (bc := [[zO4 h cr inn a1_1 a2_2 a3_3 a4_4, zAr T 0 a1_1 7 f1, zAr T 0 a2_2 28 f2, zAr T 0 a3_3 7 f3, zAr T 0 a4_4 7 f4]]) (br := []) (As := [.ref h, .int (nI i)]) (rest := []) C G (c_f_howManyLeadTo l T h cr inn f1 f2 f3 f4 ([zO4 h cr inn a1_1 a2_2 a3_3 a4_4, zAr T 0 a1_1 7 f1, zAr T 0 a2_2 28 f2, zAr T 0 a3_3 7 f3, zAr T 0 a4_4 7 f4]) (nI i) hw_8 (by first | with_reducible assumption | with_reducible rfl | omega | assumption | rfl) (by first | with_reducible assumption | with_reducible rfl | omega | assumption | rfl)) (kS_RX8_56 C.2.2.2.2 (Nat.le_of_ble_eq_true rfl) (Nat.le_of_ble_eq_true rfl)) [0] [0] rfl rfl rfl rfl hl.1 dX8_busy_16 (Nat.le_of_ble_eq_true rfl) (Nat.le_of_ble_eq_true rfl) (fun r_10 b1 H locs hw G => ?_)
    refine zAn2 hw ?_
    intro hbs9 h_9
    clear hw
    subst hbs9
    have G : zS T A s.heap s [[zO4 h cr inn a1_1 a2_2 a3_3 a4_4, zAr T 0 a1_1 7 f1, zAr T 0 a2_2 28 f2, zAr T 0 a3_3 7 f3, zAr T 0 a4_4 7 f4]] _ _ := G
    refine lv_istore (lv' := [(4, .int r_10), (3, .int (nI i)), (2, .int ui2), (1, .int ui1), (0, .ref h)]) hx hb dX8_busy_19 hl (by decide) (zLvf_h rfl) (fun ls hl => ?_)
    refine lv_iload hx hb dX8_busy_21 (lv_at hl 0 rfl) ?_
    refine lv_iload_n hx hb dX8_busy_23 rfl (lv_at hl 2 rfl) ?_
    refine lv_icmp_le (tgt := 32) hx hb dX8_busy_24 (by decide) (fun c_11 => ?_) (fun c_11 => ?_)
    · have c_11n : r_10.toInt ≤ ui2.toInt := (fa_le _ _).mp c_11
      refine lv_iinc (v := nI (i + 1)) (lv' := [(3, .int (nI (i + 1))), (4, .int r_10), (2, .int ui2), (1, .int ui1), (0, .ref h)]) hx hb dX8_busy_32 hl (k := 1) rfl (z_inc i 1) (by decide) (zLvf_h rfl) (fun ls hl => ?_)
      refine lv_goto (tgt := 6) hx hb dX8_busy_35 (by decide) ?_
      exact ih_6 (i + 1) ui1 ui2 (show (i + 1) ≤ cr.toInt.toNat ∧ rBi (fun c => rHt (kW cr inn f1) f2 (nI c) true cr.toInt.toNat) (i + 1) ui1 ui2 from ⟨by omega, ((rBi_s hg9 hB h_9).2 (fun q9 => by have q8 := (fa_lt _ _).mp q9; omega))⟩) (show cr.toInt.toNat - (i + 1) < cr.toInt.toNat - i from by omega) _ _ ls G (lv_sub hl [0, 2, 3, 4] rfl)
    · have c_11n : ¬ r_10.toInt ≤ ui2.toInt := fun q => c_11 ((fa_le _ _).mpr q)
      refine lv_iload hx hb dX8_busy_27 (lv_at hl 0 rfl) ?_
      refine lv_istore_n (lv' := [(2, .int r_10), (4, .int r_10), (3, .int (nI i)), (1, .int ui1), (0, .ref h)]) hx hb dX8_busy_29 rfl hl (by decide) (zLvf_h rfl) (fun ls hl => ?_)
      refine lv_iload_n hx hb dX8_busy_30 rfl (lv_at hl 2 rfl) ?_
      refine lv_istore_n (lv' := [(1, .int (nI i)), (2, .int r_10), (4, .int r_10), (3, .int (nI i)), (0, .ref h)]) hx hb dX8_busy_31 rfl hl (by decide) (zLvf_h rfl) (fun ls hl => ?_)
      refine lv_iinc (v := nI (i + 1)) (lv' := [(3, .int (nI (i + 1))), (1, .int (nI i)), (2, .int r_10), (4, .int r_10), (0, .ref h)]) hx hb dX8_busy_32 hl (k := 3) rfl (z_inc i 1) (by decide) (zLvf_h rfl) (fun ls hl => ?_)
      refine lv_goto (tgt := 6) hx hb dX8_busy_35 (by decide) ?_
      exact ih_6 (i + 1) (nI i) r_10 (show (i + 1) ≤ cr.toInt.toNat ∧ rBi (fun c => rHt (kW cr inn f1) f2 (nI c) true cr.toInt.toNat) (i + 1) (nI i) r_10 from ⟨by omega, ((rBi_s hg9 hB h_9).1 ((fa_lt _ _).mpr (by omega)))⟩) (show cr.toInt.toNat - (i + 1) < cr.toInt.toNat - i from by omega) _ _ ls G (lv_sub hl [0, 2, 1, 4] rfl)
set_option maxHeartbeats 4000000 in
set_option maxRecDepth 100000 in
/-- c_f_classes -/
theorem c_f_classes (l : Launch) (T : zTy) (xo : Nat) (t : Nat) (im : Nat) (mk : Nat) (rd : Nat) (po : Nat) (co : Nat) (tr : Nat) (wa : Nat) (wb_ : Nat) (fi : Nat) (cd : Nat) (l0 : Nat) (l1 : Nat) (d0 : Nat) (d1 : Nat) (g0 : Nat) (g1 : Nat) (ln : Int32) (fl : Int32) (pl : Int32) (ft : Nat → Int32) (fk : Nat → Int32) (wt : va_W) (cr0_ : Int32) (inn0_ : Int32) (k10_ : Nat → Int32) (k20_ : Nat → Int32) (k30_ : Nat → Int32) (k40_ : Nat → Int32) (z0_ : va_W) (cr1_ : Int32) (inn1_ : Int32) (k11_ : Nat → Int32) (k21_ : Nat → Int32) (k31_ : Nat → Int32) (k41_ : Nat → Int32) (z1_ : va_W) (i1 : Int32) (w_ : Int32) (ht : bTold T t l0 l1 d0 d1 g0 g1 ln fl pl ft fk wt) (hK : zKT fk) (hz0_ : bLand T l0 cr0_ inn0_ k10_ k20_ k30_ k40_ z0_) (hI0_ : zLI cr0_ k10_ k30_) (hz1_ : bLand T l1 cr1_ inn1_ k11_ k21_ k31_ k41_ z1_) (hI1_ : zLI cr1_ k11_ k31_) (hLq0 : zLq cr0_ k10_ k20_) (hLq1 : zLq cr1_ k11_ k21_) : zMi l T yX11_classes cX11_classes 4 (some .int) 7 0 0 [.ref xo, .int i1, .int w_] [[zO10 xo t im mk rd po co tr wa wb_ fi cd], wt, z0_, z1_] (fun (r : Int32) bs => bs = [[zO10 xo t im mk rd po co tr wa wb_ fi cd], wt, z0_, z1_] ∧ ((i1.toInt < 0 ∨ (fk 0).toInt ≤ i1.toInt ∨ 2 ≤ i1.toInt) ∧ r = -2 ∨ i1.toInt = 0 ∧ 0 < (fk 0).toInt ∧ r = kClasses cr0_ inn0_ k10_ k20_ k30_ w_ ∨ i1.toInt = 1 ∧ 1 < (fk 0).toInt ∧ r = kClasses cr1_ inn1_ k11_ k21_ k31_ w_)) := by
  refine zMi_of (own := RX11) (by decide) rfl (Nat.le_of_ble_eq_true rfl) ?_
  intro p e s m args below meth c A ls C hr hlocks hnm hAe G hl
  refine zHide (fun Qz_ hQz_ => ?_)
  have hx := C.1
  have hb := C.2.1
  have hl : lv_has ls 4 [(0, .ref xo), (1, .int i1), (2, .int w_)] := hl
  refine lv_aload_n hx hb dX11_classes_0 rfl (lv_at hl 0 rfl) ?_
  refine z_get C G clX11 0 rfl 0 (by decide) m_fl_RX11_10 rfl dX11_classes_1 ?_
  refine lv_iload_n hx hb dX11_classes_4 rfl (lv_at hl 1 rfl) ?_
  refine z_Vq (bc := [wt]) (br := [[zO10 xo t im mk rd po co tr wa wb_ fi cd], z0_, z1_]) (As := [.int i1]) (rest := []) C G (c_landAt l T t l0 l1 d0 d1 g0 g1 ln fl pl ft fk wt i1 ht) (kV_RX11_121 C.2.2.2.2 (Nat.le_of_ble_eq_true rfl) (Nat.le_of_ble_eq_true rfl)) [1] [1] rfl rfl (ci := 8) (qc := (RX9, TX9, 8)) rfl rfl (List.mem_flatten.mpr ⟨_, List.mem_of_getElem? (i := 0) rfl, (bTold_mem ht).choose_spec⟩) rfl rfl hl.1 dX11_classes_5 (Nat.le_of_ble_eq_true rfl) (Nat.le_of_ble_eq_true rfl) (fun r_2 b1 H locs hw G => ?_)
  refine zAn2 hw ?_
  intro hbs9 hc_1
  clear hw
  subst hbs9
  have G : zS T A s.heap s [[zO10 xo t im mk rd po co tr wa wb_ fi cd], z0_, z1_, wt] _ _ := G
  rcases hc_1 with ⟨rfl, h_3⟩ | ⟨rfl, h_4, h_5⟩ | ⟨rfl, h_6, h_7⟩
  · have h_3 : (i1.toInt < 0 ∨ (fk 0).toInt ≤ i1.toInt ∨ 2 ≤ i1.toInt) := h_3
    refine lv_astore_nN (lv' := [(3, .null), (0, .ref xo), (1, .int i1), (2, .int w_)]) hx hb dX11_classes_8 rfl hl (by decide) (zLvf_h rfl) (fun ls hl => ?_)
    refine lv_aload_nN hx hb dX11_classes_9 rfl (lv_at hl 0 rfl) ?_
    refine lv_ifnonnullN hx hb dX11_classes_10 ?_
    refine lv_bipush (v := (-2)) hx hb dX11_classes_13 (by decide) ?_
    have G := G.sub (bs' := [[zO10 xo t im mk rd po co tr wa wb_ fi cd], wt, z0_, z1_]) [0, 3, 1, 2] rfl
    exact z_back hQz_ (z_iret C hr hlocks G (Nat.le_of_ble_eq_true rfl) (Nat.le_of_ble_eq_true rfl) dX11_classes_15 ⟨rfl, (Or.inl ⟨by first | with_reducible assumption | assumption, rfl⟩)⟩)
  · have h_4 : i1.toInt = 0 := h_4
    have h_5 : 0 < (fk 0).toInt := h_5
    refine lv_astore_n (lv' := [(3, .ref l0), (0, .ref xo), (1, .int i1), (2, .int w_)]) hx hb dX11_classes_8 rfl hl (by decide) (zLvf_h rfl) (fun ls hl => ?_)
    refine lv_aload_n hx hb dX11_classes_9 rfl (lv_at hl 0 rfl) ?_
    refine lv_ifnonnull (tgt := 16) hx hb dX11_classes_10 (by decide) ?_
    refine lv_iload_n hx hb dX11_classes_16 rfl (lv_at hl 3 rfl) ?_
    by_cases c_8o : w_.toInt < 0 ∨ 7 < w_.toInt
    · refine lv_tableOut (tgt := 106) hx hb dX11_classes_17 c_8o (by decide) ?_
      refine lv_bipush (v := (-2)) hx hb dX11_classes_106 (by decide) ?_
      have G := G.sub (bs' := [[zO10 xo t im mk rd po co tr wa wb_ fi cd], wt, z0_, z1_]) [0, 3, 1, 2] rfl
      exact z_back hQz_ (z_iret C hr hlocks G (Nat.le_of_ble_eq_true rfl) (Nat.le_of_ble_eq_true rfl) dX11_classes_108 ⟨rfl, (Or.inr (Or.inl ⟨by first | with_reducible assumption | assumption, by first | with_reducible assumption | assumption, (by unfold kClasses rCs; rw [if_neg (by omega), if_neg (by omega), if_neg (by omega), if_neg (by omega), if_neg (by omega), if_neg (by omega), if_neg (by omega), if_neg (by omega)])⟩))⟩)
    · have c_8r : w_.toInt = 0 ∨ w_.toInt = 1 ∨ w_.toInt = 2 ∨ w_.toInt = 3 ∨ w_.toInt = 4 ∨ w_.toInt = 5 ∨ w_.toInt = 6 ∨ w_.toInt = 7 := by omega
      rcases c_8r with c_8 | c_8 | c_8 | c_8 | c_8 | c_8 | c_8 | c_8
      · refine lv_tableIn (tgt := 64) hx hb dX11_classes_17 (by first | (rw [c_8]; decide) | omega) (by first | (rw [c_8]; decide) | omega) (by rw [c_8]; rfl) (by decide) ?_
        refine lv_aload_n hx hb dX11_classes_64 rfl (lv_at hl 0 rfl) ?_
        refine lv_iconst (v := 0) hx hb dX11_classes_65 (by decide) ?_
        refine z_Si (bc := [z0_]) (br := [[zO10 xo t im mk rd po co tr wa wb_ fi cd], z1_, wt]) (As := [.ref l0, .int 0]) (rest := []) C G (c_f_parts l T l0 cr0_ inn0_ k10_ k20_ k30_ k40_ z0_ 0 hz0_ (by first | with_reducible assumption | with_reducible rfl | omega | assumption | rfl) (by first | with_reducible assumption | with_reducible rfl | omega | assumption | rfl)) (kS_RX11_343 C.2.2.2.2 (Nat.le_of_ble_eq_true rfl) (Nat.le_of_ble_eq_true rfl)) [1] [1] rfl rfl rfl rfl hl.1 dX11_classes_66 (Nat.le_of_ble_eq_true rfl) (Nat.le_of_ble_eq_true rfl) (fun r_10 b1 H locs hw G => ?_)
        refine zAn2 hw ?_
        intro hbs9 h_9
        clear hw
        subst hbs9
        have G : zS T A s.heap s [[zO10 xo t im mk rd po co tr wa wb_ fi cd], z1_, wt, z0_] _ _ := G
        have G := G.sub (bs' := [[zO10 xo t im mk rd po co tr wa wb_ fi cd], wt, z0_, z1_]) [0, 2, 3, 1] rfl
        exact z_back hQz_ (z_iret C hr hlocks G (Nat.le_of_ble_eq_true rfl) (Nat.le_of_ble_eq_true rfl) dX11_classes_69 ⟨rfl, (Or.inr (Or.inl ⟨by first | with_reducible assumption | assumption, by first | with_reducible assumption | assumption, (by unfold kClasses rCs; rw [if_pos (by omega)]; exact h_9.trans (if_pos rfl))⟩))⟩)
      · refine lv_tableIn (tgt := 70) hx hb dX11_classes_17 (by first | (rw [c_8]; decide) | omega) (by first | (rw [c_8]; decide) | omega) (by rw [c_8]; rfl) (by decide) ?_
        refine lv_aload_n hx hb dX11_classes_70 rfl (lv_at hl 0 rfl) ?_
        refine lv_iconst (v := 1) hx hb dX11_classes_71 (by decide) ?_
        refine z_Si (bc := [z0_]) (br := [[zO10 xo t im mk rd po co tr wa wb_ fi cd], z1_, wt]) (As := [.ref l0, .int 1]) (rest := []) C G (c_f_parts l T l0 cr0_ inn0_ k10_ k20_ k30_ k40_ z0_ 1 hz0_ (by first | with_reducible assumption | with_reducible rfl | omega | assumption | rfl) (by first | with_reducible assumption | with_reducible rfl | omega | assumption | rfl)) (kS_RX11_343 C.2.2.2.2 (Nat.le_of_ble_eq_true rfl) (Nat.le_of_ble_eq_true rfl)) [1] [1] rfl rfl rfl rfl hl.1 dX11_classes_72 (Nat.le_of_ble_eq_true rfl) (Nat.le_of_ble_eq_true rfl) (fun r_12 b1 H locs hw G => ?_)
        refine zAn2 hw ?_
        intro hbs9 h_11
        clear hw
        subst hbs9
        have G : zS T A s.heap s [[zO10 xo t im mk rd po co tr wa wb_ fi cd], z1_, wt, z0_] _ _ := G
        have G := G.sub (bs' := [[zO10 xo t im mk rd po co tr wa wb_ fi cd], wt, z0_, z1_]) [0, 2, 3, 1] rfl
        exact z_back hQz_ (z_iret C hr hlocks G (Nat.le_of_ble_eq_true rfl) (Nat.le_of_ble_eq_true rfl) dX11_classes_75 ⟨rfl, (Or.inr (Or.inl ⟨by first | with_reducible assumption | assumption, by first | with_reducible assumption | assumption, (by unfold kClasses rCs; rw [if_neg (by omega), if_pos (by omega)]; exact h_11.trans (if_neg (by decide)))⟩))⟩)
      · refine lv_tableIn (tgt := 76) hx hb dX11_classes_17 (by first | (rw [c_8]; decide) | omega) (by first | (rw [c_8]; decide) | omega) (by rw [c_8]; rfl) (by decide) ?_
        refine lv_aload_n hx hb dX11_classes_76 rfl (lv_at hl 0 rfl) ?_
        refine z_Si (bc := [z0_]) (br := [[zO10 xo t im mk rd po co tr wa wb_ fi cd], z1_, wt]) (As := [.ref l0]) (rest := []) C G (c_f_heads l T l0 cr0_ inn0_ k10_ k20_ k30_ k40_ z0_ hz0_ (by first | with_reducible assumption | with_reducible rfl | omega | assumption | rfl) (by first | with_reducible assumption | with_reducible rfl | omega | assumption | rfl)) (kS_RX11_347 C.2.2.2.2 (Nat.le_of_ble_eq_true rfl) (Nat.le_of_ble_eq_true rfl)) [1] [1] rfl rfl rfl rfl hl.1 dX11_classes_77 (Nat.le_of_ble_eq_true rfl) (Nat.le_of_ble_eq_true rfl) (fun r_14 b1 H locs hw G => ?_)
        refine zAn2 hw ?_
        intro hbs9 h_13
        clear hw
        subst hbs9
        have G : zS T A s.heap s [[zO10 xo t im mk rd po co tr wa wb_ fi cd], z1_, wt, z0_] _ _ := G
        have G := G.sub (bs' := [[zO10 xo t im mk rd po co tr wa wb_ fi cd], wt, z0_, z1_]) [0, 2, 3, 1] rfl
        exact z_back hQz_ (z_iret C hr hlocks G (Nat.le_of_ble_eq_true rfl) (Nat.le_of_ble_eq_true rfl) dX11_classes_80 ⟨rfl, (Or.inr (Or.inl ⟨by first | with_reducible assumption | assumption, by first | with_reducible assumption | assumption, (by unfold kClasses rCs; rw [if_neg (by omega), if_neg (by omega), if_pos (by omega)]; exact h_13)⟩))⟩)
      · refine lv_tableIn (tgt := 81) hx hb dX11_classes_17 (by first | (rw [c_8]; decide) | omega) (by first | (rw [c_8]; decide) | omega) (by rw [c_8]; rfl) (by decide) ?_
        refine lv_aload_n hx hb dX11_classes_81 rfl (lv_at hl 0 rfl) ?_
        refine z_Si (bc := [z0_]) (br := [[zO10 xo t im mk rd po co tr wa wb_ fi cd], z1_, wt]) (As := [.ref l0]) (rest := []) C G (c_f_ends l T l0 cr0_ inn0_ k10_ k20_ k30_ k40_ z0_ hz0_ (by first | with_reducible assumption | with_reducible rfl | omega | assumption | rfl) (by first | with_reducible assumption | with_reducible rfl | omega | assumption | rfl)) (kS_RX11_350 C.2.2.2.2 (Nat.le_of_ble_eq_true rfl) (Nat.le_of_ble_eq_true rfl)) [1] [1] rfl rfl rfl rfl hl.1 dX11_classes_82 (Nat.le_of_ble_eq_true rfl) (Nat.le_of_ble_eq_true rfl) (fun r_16 b1 H locs hw G => ?_)
        refine zAn2 hw ?_
        intro hbs9 h_15
        clear hw
        subst hbs9
        have G : zS T A s.heap s [[zO10 xo t im mk rd po co tr wa wb_ fi cd], z1_, wt, z0_] _ _ := G
        have G := G.sub (bs' := [[zO10 xo t im mk rd po co tr wa wb_ fi cd], wt, z0_, z1_]) [0, 2, 3, 1] rfl
        exact z_back hQz_ (z_iret C hr hlocks G (Nat.le_of_ble_eq_true rfl) (Nat.le_of_ble_eq_true rfl) dX11_classes_85 ⟨rfl, (Or.inr (Or.inl ⟨by first | with_reducible assumption | assumption, by first | with_reducible assumption | assumption, (by unfold kClasses rCs; rw [if_neg (by omega), if_neg (by omega), if_neg (by omega), if_pos (by omega)]; exact h_15)⟩))⟩)
      · refine lv_tableIn (tgt := 86) hx hb dX11_classes_17 (by first | (rw [c_8]; decide) | omega) (by first | (rw [c_8]; decide) | omega) (by rw [c_8]; rfl) (by decide) ?_
        refine lv_aload_n hx hb dX11_classes_86 rfl (lv_at hl 0 rfl) ?_
        refine z_Si (bc := [z0_]) (br := [[zO10 xo t im mk rd po co tr wa wb_ fi cd], z1_, wt]) (As := [.ref l0]) (rest := []) C G (c_f_loops l T l0 cr0_ inn0_ k10_ k20_ k30_ k40_ z0_ hz0_ (by first | with_reducible assumption | with_reducible rfl | omega | assumption | rfl) (by first | with_reducible assumption | with_reducible rfl | omega | assumption | rfl)) (kS_RX11_353 C.2.2.2.2 (Nat.le_of_ble_eq_true rfl) (Nat.le_of_ble_eq_true rfl)) [1] [1] rfl rfl rfl rfl hl.1 dX11_classes_87 (Nat.le_of_ble_eq_true rfl) (Nat.le_of_ble_eq_true rfl) (fun r_18 b1 H locs hw G => ?_)
        refine zAn2 hw ?_
        intro hbs9 h_17
        clear hw
        subst hbs9
        have G : zS T A s.heap s [[zO10 xo t im mk rd po co tr wa wb_ fi cd], z1_, wt, z0_] _ _ := G
        have G := G.sub (bs' := [[zO10 xo t im mk rd po co tr wa wb_ fi cd], wt, z0_, z1_]) [0, 2, 3, 1] rfl
        exact z_back hQz_ (z_iret C hr hlocks G (Nat.le_of_ble_eq_true rfl) (Nat.le_of_ble_eq_true rfl) dX11_classes_90 ⟨rfl, (Or.inr (Or.inl ⟨by first | with_reducible assumption | assumption, by first | with_reducible assumption | assumption, (by unfold kClasses rCs; rw [if_neg (by omega), if_neg (by omega), if_neg (by omega), if_neg (by omega), if_pos (by omega)]; exact h_17)⟩))⟩)
      · refine lv_tableIn (tgt := 91) hx hb dX11_classes_17 (by first | (rw [c_8]; decide) | omega) (by first | (rw [c_8]; decide) | omega) (by rw [c_8]; rfl) (by decide) ?_
        refine lv_aload_n hx hb dX11_classes_91 rfl (lv_at hl 0 rfl) ?_
        refine z_Si (bc := [z0_]) (br := [[zO10 xo t im mk rd po co tr wa wb_ fi cd], z1_, wt]) (As := [.ref l0]) (rest := []) C G (c_f_doubles l T l0 cr0_ inn0_ k10_ k20_ k30_ k40_ z0_ hz0_ (by first | with_reducible assumption | with_reducible rfl | omega | assumption | rfl) (by first | with_reducible assumption | with_reducible rfl | omega | assumption | rfl)) (kS_RX11_356 C.2.2.2.2 (Nat.le_of_ble_eq_true rfl) (Nat.le_of_ble_eq_true rfl)) [1] [1] rfl rfl rfl rfl hl.1 dX11_classes_92 (Nat.le_of_ble_eq_true rfl) (Nat.le_of_ble_eq_true rfl) (fun r_20 b1 H locs hw G => ?_)
        refine zAn2 hw ?_
        intro hbs9 h_19
        clear hw
        subst hbs9
        have G : zS T A s.heap s [[zO10 xo t im mk rd po co tr wa wb_ fi cd], z1_, wt, z0_] _ _ := G
        have G := G.sub (bs' := [[zO10 xo t im mk rd po co tr wa wb_ fi cd], wt, z0_, z1_]) [0, 2, 3, 1] rfl
        exact z_back hQz_ (z_iret C hr hlocks G (Nat.le_of_ble_eq_true rfl) (Nat.le_of_ble_eq_true rfl) dX11_classes_95 ⟨rfl, (Or.inr (Or.inl ⟨by first | with_reducible assumption | assumption, by first | with_reducible assumption | assumption, (by unfold kClasses rCs; rw [if_neg (by omega), if_neg (by omega), if_neg (by omega), if_neg (by omega), if_neg (by omega), if_pos (by omega)]; exact h_19)⟩))⟩)
      · refine lv_tableIn (tgt := 96) hx hb dX11_classes_17 (by first | (rw [c_8]; decide) | omega) (by first | (rw [c_8]; decide) | omega) (by rw [c_8]; rfl) (by decide) ?_
        refine lv_aload_n hx hb dX11_classes_96 rfl (lv_at hl 0 rfl) ?_
        refine z_Si (bc := [z0_]) (br := [[zO10 xo t im mk rd po co tr wa wb_ fi cd], z1_, wt]) (As := [.ref l0]) (rest := []) C G (c_f_even l T l0 cr0_ inn0_ k10_ k20_ k30_ k40_ z0_ hz0_ (by first | with_reducible assumption | with_reducible rfl | omega | assumption | rfl) (by first | with_reducible assumption | with_reducible rfl | omega | assumption | rfl)) (kS_RX11_359 C.2.2.2.2 (Nat.le_of_ble_eq_true rfl) (Nat.le_of_ble_eq_true rfl)) [1] [1] rfl rfl rfl rfl hl.1 dX11_classes_97 (Nat.le_of_ble_eq_true rfl) (Nat.le_of_ble_eq_true rfl) (fun r_22 b1 H locs hw G => ?_)
        refine zAn2 hw ?_
        intro hbs9 h_21
        clear hw
        subst hbs9
        have G : zS T A s.heap s [[zO10 xo t im mk rd po co tr wa wb_ fi cd], z1_, wt, z0_] _ _ := G
        have G := G.sub (bs' := [[zO10 xo t im mk rd po co tr wa wb_ fi cd], wt, z0_, z1_]) [0, 2, 3, 1] rfl
        exact z_back hQz_ (z_iret C hr hlocks G (Nat.le_of_ble_eq_true rfl) (Nat.le_of_ble_eq_true rfl) dX11_classes_100 ⟨rfl, (Or.inr (Or.inl ⟨by first | with_reducible assumption | assumption, by first | with_reducible assumption | assumption, (by unfold kClasses rCs; rw [if_neg (by omega), if_neg (by omega), if_neg (by omega), if_neg (by omega), if_neg (by omega), if_neg (by omega), if_pos (by omega)]; exact h_21)⟩))⟩)
      · refine lv_tableIn (tgt := 101) hx hb dX11_classes_17 (by first | (rw [c_8]; decide) | omega) (by first | (rw [c_8]; decide) | omega) (by rw [c_8]; rfl) (by decide) ?_
        refine lv_aload_n hx hb dX11_classes_101 rfl (lv_at hl 0 rfl) ?_
        refine z_Si (bc := [z0_]) (br := [[zO10 xo t im mk rd po co tr wa wb_ fi cd], z1_, wt]) (As := [.ref l0]) (rest := []) C G (c_f_busy l T l0 cr0_ inn0_ k10_ k20_ k30_ k40_ z0_ hz0_ (by first | with_reducible assumption | with_reducible rfl | omega | assumption | rfl) (by first | with_reducible assumption | with_reducible rfl | omega | assumption | rfl)) (kS_RX11_362 C.2.2.2.2 (Nat.le_of_ble_eq_true rfl) (Nat.le_of_ble_eq_true rfl)) [1] [1] rfl rfl rfl rfl hl.1 dX11_classes_102 (Nat.le_of_ble_eq_true rfl) (Nat.le_of_ble_eq_true rfl) (fun r_24 b1 H locs hw G => ?_)
        refine zAn2 hw ?_
        intro hbs9 h_23
        clear hw
        subst hbs9
        have G : zS T A s.heap s [[zO10 xo t im mk rd po co tr wa wb_ fi cd], z1_, wt, z0_] _ _ := G
        have G := G.sub (bs' := [[zO10 xo t im mk rd po co tr wa wb_ fi cd], wt, z0_, z1_]) [0, 2, 3, 1] rfl
        exact z_back hQz_ (z_iret C hr hlocks G (Nat.le_of_ble_eq_true rfl) (Nat.le_of_ble_eq_true rfl) dX11_classes_105 ⟨rfl, (Or.inr (Or.inl ⟨by first | with_reducible assumption | assumption, by first | with_reducible assumption | assumption, (by unfold kClasses rCs; rw [if_neg (by omega), if_neg (by omega), if_neg (by omega), if_neg (by omega), if_neg (by omega), if_neg (by omega), if_neg (by omega), if_pos (by omega)]; exact h_23)⟩))⟩)
  · have h_6 : i1.toInt = 1 := h_6
    have h_7 : 1 < (fk 0).toInt := h_7
    refine lv_astore_n (lv' := [(3, .ref l1), (0, .ref xo), (1, .int i1), (2, .int w_)]) hx hb dX11_classes_8 rfl hl (by decide) (zLvf_h rfl) (fun ls hl => ?_)
    refine lv_aload_n hx hb dX11_classes_9 rfl (lv_at hl 0 rfl) ?_
    refine lv_ifnonnull (tgt := 16) hx hb dX11_classes_10 (by decide) ?_
    refine lv_iload_n hx hb dX11_classes_16 rfl (lv_at hl 3 rfl) ?_
    by_cases c_25o : w_.toInt < 0 ∨ 7 < w_.toInt
    · refine lv_tableOut (tgt := 106) hx hb dX11_classes_17 c_25o (by decide) ?_
      refine lv_bipush (v := (-2)) hx hb dX11_classes_106 (by decide) ?_
      have G := G.sub (bs' := [[zO10 xo t im mk rd po co tr wa wb_ fi cd], wt, z0_, z1_]) [0, 3, 1, 2] rfl
      exact z_back hQz_ (z_iret C hr hlocks G (Nat.le_of_ble_eq_true rfl) (Nat.le_of_ble_eq_true rfl) dX11_classes_108 ⟨rfl, (Or.inr (Or.inr ⟨by first | with_reducible assumption | assumption, by first | with_reducible assumption | assumption, (by unfold kClasses rCs; rw [if_neg (by omega), if_neg (by omega), if_neg (by omega), if_neg (by omega), if_neg (by omega), if_neg (by omega), if_neg (by omega), if_neg (by omega)])⟩))⟩)
    · have c_25r : w_.toInt = 0 ∨ w_.toInt = 1 ∨ w_.toInt = 2 ∨ w_.toInt = 3 ∨ w_.toInt = 4 ∨ w_.toInt = 5 ∨ w_.toInt = 6 ∨ w_.toInt = 7 := by omega
      rcases c_25r with c_25 | c_25 | c_25 | c_25 | c_25 | c_25 | c_25 | c_25
      · refine lv_tableIn (tgt := 64) hx hb dX11_classes_17 (by first | (rw [c_25]; decide) | omega) (by first | (rw [c_25]; decide) | omega) (by rw [c_25]; rfl) (by decide) ?_
        refine lv_aload_n hx hb dX11_classes_64 rfl (lv_at hl 0 rfl) ?_
        refine lv_iconst (v := 0) hx hb dX11_classes_65 (by decide) ?_
        refine z_Si (bc := [z1_]) (br := [[zO10 xo t im mk rd po co tr wa wb_ fi cd], z0_, wt]) (As := [.ref l1, .int 0]) (rest := []) C G (c_f_parts l T l1 cr1_ inn1_ k11_ k21_ k31_ k41_ z1_ 0 hz1_ (by first | with_reducible assumption | with_reducible rfl | omega | assumption | rfl) (by first | with_reducible assumption | with_reducible rfl | omega | assumption | rfl)) (kS_RX11_343 C.2.2.2.2 (Nat.le_of_ble_eq_true rfl) (Nat.le_of_ble_eq_true rfl)) [2] [2] rfl rfl rfl rfl hl.1 dX11_classes_66 (Nat.le_of_ble_eq_true rfl) (Nat.le_of_ble_eq_true rfl) (fun r_27 b1 H locs hw G => ?_)
        refine zAn2 hw ?_
        intro hbs9 h_26
        clear hw
        subst hbs9
        have G : zS T A s.heap s [[zO10 xo t im mk rd po co tr wa wb_ fi cd], z0_, wt, z1_] _ _ := G
        have G := G.sub (bs' := [[zO10 xo t im mk rd po co tr wa wb_ fi cd], wt, z0_, z1_]) [0, 2, 1, 3] rfl
        exact z_back hQz_ (z_iret C hr hlocks G (Nat.le_of_ble_eq_true rfl) (Nat.le_of_ble_eq_true rfl) dX11_classes_69 ⟨rfl, (Or.inr (Or.inr ⟨by first | with_reducible assumption | assumption, by first | with_reducible assumption | assumption, (by unfold kClasses rCs; rw [if_pos (by omega)]; exact h_26.trans (if_pos rfl))⟩))⟩)
      · refine lv_tableIn (tgt := 70) hx hb dX11_classes_17 (by first | (rw [c_25]; decide) | omega) (by first | (rw [c_25]; decide) | omega) (by rw [c_25]; rfl) (by decide) ?_
        refine lv_aload_n hx hb dX11_classes_70 rfl (lv_at hl 0 rfl) ?_
        refine lv_iconst (v := 1) hx hb dX11_classes_71 (by decide) ?_
        refine z_Si (bc := [z1_]) (br := [[zO10 xo t im mk rd po co tr wa wb_ fi cd], z0_, wt]) (As := [.ref l1, .int 1]) (rest := []) C G (c_f_parts l T l1 cr1_ inn1_ k11_ k21_ k31_ k41_ z1_ 1 hz1_ (by first | with_reducible assumption | with_reducible rfl | omega | assumption | rfl) (by first | with_reducible assumption | with_reducible rfl | omega | assumption | rfl)) (kS_RX11_343 C.2.2.2.2 (Nat.le_of_ble_eq_true rfl) (Nat.le_of_ble_eq_true rfl)) [2] [2] rfl rfl rfl rfl hl.1 dX11_classes_72 (Nat.le_of_ble_eq_true rfl) (Nat.le_of_ble_eq_true rfl) (fun r_29 b1 H locs hw G => ?_)
        refine zAn2 hw ?_
        intro hbs9 h_28
        clear hw
        subst hbs9
        have G : zS T A s.heap s [[zO10 xo t im mk rd po co tr wa wb_ fi cd], z0_, wt, z1_] _ _ := G
        have G := G.sub (bs' := [[zO10 xo t im mk rd po co tr wa wb_ fi cd], wt, z0_, z1_]) [0, 2, 1, 3] rfl
        exact z_back hQz_ (z_iret C hr hlocks G (Nat.le_of_ble_eq_true rfl) (Nat.le_of_ble_eq_true rfl) dX11_classes_75 ⟨rfl, (Or.inr (Or.inr ⟨by first | with_reducible assumption | assumption, by first | with_reducible assumption | assumption, (by unfold kClasses rCs; rw [if_neg (by omega), if_pos (by omega)]; exact h_28.trans (if_neg (by decide)))⟩))⟩)
      · refine lv_tableIn (tgt := 76) hx hb dX11_classes_17 (by first | (rw [c_25]; decide) | omega) (by first | (rw [c_25]; decide) | omega) (by rw [c_25]; rfl) (by decide) ?_
        refine lv_aload_n hx hb dX11_classes_76 rfl (lv_at hl 0 rfl) ?_
        refine z_Si (bc := [z1_]) (br := [[zO10 xo t im mk rd po co tr wa wb_ fi cd], z0_, wt]) (As := [.ref l1]) (rest := []) C G (c_f_heads l T l1 cr1_ inn1_ k11_ k21_ k31_ k41_ z1_ hz1_ (by first | with_reducible assumption | with_reducible rfl | omega | assumption | rfl) (by first | with_reducible assumption | with_reducible rfl | omega | assumption | rfl)) (kS_RX11_347 C.2.2.2.2 (Nat.le_of_ble_eq_true rfl) (Nat.le_of_ble_eq_true rfl)) [2] [2] rfl rfl rfl rfl hl.1 dX11_classes_77 (Nat.le_of_ble_eq_true rfl) (Nat.le_of_ble_eq_true rfl) (fun r_31 b1 H locs hw G => ?_)
        refine zAn2 hw ?_
        intro hbs9 h_30
        clear hw
        subst hbs9
        have G : zS T A s.heap s [[zO10 xo t im mk rd po co tr wa wb_ fi cd], z0_, wt, z1_] _ _ := G
        have G := G.sub (bs' := [[zO10 xo t im mk rd po co tr wa wb_ fi cd], wt, z0_, z1_]) [0, 2, 1, 3] rfl
        exact z_back hQz_ (z_iret C hr hlocks G (Nat.le_of_ble_eq_true rfl) (Nat.le_of_ble_eq_true rfl) dX11_classes_80 ⟨rfl, (Or.inr (Or.inr ⟨by first | with_reducible assumption | assumption, by first | with_reducible assumption | assumption, (by unfold kClasses rCs; rw [if_neg (by omega), if_neg (by omega), if_pos (by omega)]; exact h_30)⟩))⟩)
      · refine lv_tableIn (tgt := 81) hx hb dX11_classes_17 (by first | (rw [c_25]; decide) | omega) (by first | (rw [c_25]; decide) | omega) (by rw [c_25]; rfl) (by decide) ?_
        refine lv_aload_n hx hb dX11_classes_81 rfl (lv_at hl 0 rfl) ?_
        refine z_Si (bc := [z1_]) (br := [[zO10 xo t im mk rd po co tr wa wb_ fi cd], z0_, wt]) (As := [.ref l1]) (rest := []) C G (c_f_ends l T l1 cr1_ inn1_ k11_ k21_ k31_ k41_ z1_ hz1_ (by first | with_reducible assumption | with_reducible rfl | omega | assumption | rfl) (by first | with_reducible assumption | with_reducible rfl | omega | assumption | rfl)) (kS_RX11_350 C.2.2.2.2 (Nat.le_of_ble_eq_true rfl) (Nat.le_of_ble_eq_true rfl)) [2] [2] rfl rfl rfl rfl hl.1 dX11_classes_82 (Nat.le_of_ble_eq_true rfl) (Nat.le_of_ble_eq_true rfl) (fun r_33 b1 H locs hw G => ?_)
        refine zAn2 hw ?_
        intro hbs9 h_32
        clear hw
        subst hbs9
        have G : zS T A s.heap s [[zO10 xo t im mk rd po co tr wa wb_ fi cd], z0_, wt, z1_] _ _ := G
        have G := G.sub (bs' := [[zO10 xo t im mk rd po co tr wa wb_ fi cd], wt, z0_, z1_]) [0, 2, 1, 3] rfl
        exact z_back hQz_ (z_iret C hr hlocks G (Nat.le_of_ble_eq_true rfl) (Nat.le_of_ble_eq_true rfl) dX11_classes_85 ⟨rfl, (Or.inr (Or.inr ⟨by first | with_reducible assumption | assumption, by first | with_reducible assumption | assumption, (by unfold kClasses rCs; rw [if_neg (by omega), if_neg (by omega), if_neg (by omega), if_pos (by omega)]; exact h_32)⟩))⟩)
      · refine lv_tableIn (tgt := 86) hx hb dX11_classes_17 (by first | (rw [c_25]; decide) | omega) (by first | (rw [c_25]; decide) | omega) (by rw [c_25]; rfl) (by decide) ?_
        refine lv_aload_n hx hb dX11_classes_86 rfl (lv_at hl 0 rfl) ?_
        refine z_Si (bc := [z1_]) (br := [[zO10 xo t im mk rd po co tr wa wb_ fi cd], z0_, wt]) (As := [.ref l1]) (rest := []) C G (c_f_loops l T l1 cr1_ inn1_ k11_ k21_ k31_ k41_ z1_ hz1_ (by first | with_reducible assumption | with_reducible rfl | omega | assumption | rfl) (by first | with_reducible assumption | with_reducible rfl | omega | assumption | rfl)) (kS_RX11_353 C.2.2.2.2 (Nat.le_of_ble_eq_true rfl) (Nat.le_of_ble_eq_true rfl)) [2] [2] rfl rfl rfl rfl hl.1 dX11_classes_87 (Nat.le_of_ble_eq_true rfl) (Nat.le_of_ble_eq_true rfl) (fun r_35 b1 H locs hw G => ?_)
        refine zAn2 hw ?_
        intro hbs9 h_34
        clear hw
        subst hbs9
        have G : zS T A s.heap s [[zO10 xo t im mk rd po co tr wa wb_ fi cd], z0_, wt, z1_] _ _ := G
        have G := G.sub (bs' := [[zO10 xo t im mk rd po co tr wa wb_ fi cd], wt, z0_, z1_]) [0, 2, 1, 3] rfl
        exact z_back hQz_ (z_iret C hr hlocks G (Nat.le_of_ble_eq_true rfl) (Nat.le_of_ble_eq_true rfl) dX11_classes_90 ⟨rfl, (Or.inr (Or.inr ⟨by first | with_reducible assumption | assumption, by first | with_reducible assumption | assumption, (by unfold kClasses rCs; rw [if_neg (by omega), if_neg (by omega), if_neg (by omega), if_neg (by omega), if_pos (by omega)]; exact h_34)⟩))⟩)
      · refine lv_tableIn (tgt := 91) hx hb dX11_classes_17 (by first | (rw [c_25]; decide) | omega) (by first | (rw [c_25]; decide) | omega) (by rw [c_25]; rfl) (by decide) ?_
        refine lv_aload_n hx hb dX11_classes_91 rfl (lv_at hl 0 rfl) ?_
        refine z_Si (bc := [z1_]) (br := [[zO10 xo t im mk rd po co tr wa wb_ fi cd], z0_, wt]) (As := [.ref l1]) (rest := []) C G (c_f_doubles l T l1 cr1_ inn1_ k11_ k21_ k31_ k41_ z1_ hz1_ (by first | with_reducible assumption | with_reducible rfl | omega | assumption | rfl) (by first | with_reducible assumption | with_reducible rfl | omega | assumption | rfl)) (kS_RX11_356 C.2.2.2.2 (Nat.le_of_ble_eq_true rfl) (Nat.le_of_ble_eq_true rfl)) [2] [2] rfl rfl rfl rfl hl.1 dX11_classes_92 (Nat.le_of_ble_eq_true rfl) (Nat.le_of_ble_eq_true rfl) (fun r_37 b1 H locs hw G => ?_)
        refine zAn2 hw ?_
        intro hbs9 h_36
        clear hw
        subst hbs9
        have G : zS T A s.heap s [[zO10 xo t im mk rd po co tr wa wb_ fi cd], z0_, wt, z1_] _ _ := G
        have G := G.sub (bs' := [[zO10 xo t im mk rd po co tr wa wb_ fi cd], wt, z0_, z1_]) [0, 2, 1, 3] rfl
        exact z_back hQz_ (z_iret C hr hlocks G (Nat.le_of_ble_eq_true rfl) (Nat.le_of_ble_eq_true rfl) dX11_classes_95 ⟨rfl, (Or.inr (Or.inr ⟨by first | with_reducible assumption | assumption, by first | with_reducible assumption | assumption, (by unfold kClasses rCs; rw [if_neg (by omega), if_neg (by omega), if_neg (by omega), if_neg (by omega), if_neg (by omega), if_pos (by omega)]; exact h_36)⟩))⟩)
      · refine lv_tableIn (tgt := 96) hx hb dX11_classes_17 (by first | (rw [c_25]; decide) | omega) (by first | (rw [c_25]; decide) | omega) (by rw [c_25]; rfl) (by decide) ?_
        refine lv_aload_n hx hb dX11_classes_96 rfl (lv_at hl 0 rfl) ?_
        refine z_Si (bc := [z1_]) (br := [[zO10 xo t im mk rd po co tr wa wb_ fi cd], z0_, wt]) (As := [.ref l1]) (rest := []) C G (c_f_even l T l1 cr1_ inn1_ k11_ k21_ k31_ k41_ z1_ hz1_ (by first | with_reducible assumption | with_reducible rfl | omega | assumption | rfl) (by first | with_reducible assumption | with_reducible rfl | omega | assumption | rfl)) (kS_RX11_359 C.2.2.2.2 (Nat.le_of_ble_eq_true rfl) (Nat.le_of_ble_eq_true rfl)) [2] [2] rfl rfl rfl rfl hl.1 dX11_classes_97 (Nat.le_of_ble_eq_true rfl) (Nat.le_of_ble_eq_true rfl) (fun r_39 b1 H locs hw G => ?_)
        refine zAn2 hw ?_
        intro hbs9 h_38
        clear hw
        subst hbs9
        have G : zS T A s.heap s [[zO10 xo t im mk rd po co tr wa wb_ fi cd], z0_, wt, z1_] _ _ := G
        have G := G.sub (bs' := [[zO10 xo t im mk rd po co tr wa wb_ fi cd], wt, z0_, z1_]) [0, 2, 1, 3] rfl
        exact z_back hQz_ (z_iret C hr hlocks G (Nat.le_of_ble_eq_true rfl) (Nat.le_of_ble_eq_true rfl) dX11_classes_100 ⟨rfl, (Or.inr (Or.inr ⟨by first | with_reducible assumption | assumption, by first | with_reducible assumption | assumption, (by unfold kClasses rCs; rw [if_neg (by omega), if_neg (by omega), if_neg (by omega), if_neg (by omega), if_neg (by omega), if_neg (by omega), if_pos (by omega)]; exact h_38)⟩))⟩)
      · refine lv_tableIn (tgt := 101) hx hb dX11_classes_17 (by first | (rw [c_25]; decide) | omega) (by first | (rw [c_25]; decide) | omega) (by rw [c_25]; rfl) (by decide) ?_
        refine lv_aload_n hx hb dX11_classes_101 rfl (lv_at hl 0 rfl) ?_
        refine z_Si (bc := [z1_]) (br := [[zO10 xo t im mk rd po co tr wa wb_ fi cd], z0_, wt]) (As := [.ref l1]) (rest := []) C G (c_f_busy l T l1 cr1_ inn1_ k11_ k21_ k31_ k41_ z1_ hz1_ (by first | with_reducible assumption | with_reducible rfl | omega | assumption | rfl) (by first | with_reducible assumption | with_reducible rfl | omega | assumption | rfl)) (kS_RX11_362 C.2.2.2.2 (Nat.le_of_ble_eq_true rfl) (Nat.le_of_ble_eq_true rfl)) [2] [2] rfl rfl rfl rfl hl.1 dX11_classes_102 (Nat.le_of_ble_eq_true rfl) (Nat.le_of_ble_eq_true rfl) (fun r_41 b1 H locs hw G => ?_)
        refine zAn2 hw ?_
        intro hbs9 h_40
        clear hw
        subst hbs9
        have G : zS T A s.heap s [[zO10 xo t im mk rd po co tr wa wb_ fi cd], z0_, wt, z1_] _ _ := G
        have G := G.sub (bs' := [[zO10 xo t im mk rd po co tr wa wb_ fi cd], wt, z0_, z1_]) [0, 2, 1, 3] rfl
        exact z_back hQz_ (z_iret C hr hlocks G (Nat.le_of_ble_eq_true rfl) (Nat.le_of_ble_eq_true rfl) dX11_classes_105 ⟨rfl, (Or.inr (Or.inr ⟨by first | with_reducible assumption | assumption, by first | with_reducible assumption | assumption, (by unfold kClasses rCs; rw [if_neg (by omega), if_neg (by omega), if_neg (by omega), if_neg (by omega), if_neg (by omega), if_neg (by omega), if_neg (by omega), if_pos (by omega)]; exact h_40)⟩))⟩)

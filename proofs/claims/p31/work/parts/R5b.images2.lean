theorem pk_vb2 {x : Int32} (h : x.toInt8.toInt32 = x) : vp_nar .byte x = x := (vp_nar_byte x).trans h
set_option maxHeartbeats 4000000 in
set_option maxRecDepth 100000 in
/-- takeAll -/
theorem c_f_Told_takeAll (l : Launch) (T : zTy) (t : Nat) (l0 : Nat) (l1 : Nat) (d0 : Nat) (d1 : Nat) (g0 : Nat) (g1 : Nat) (ln : Int32) (fl : Int32) (pl : Int32) (ft : Nat → Int32) (fk : Nat → Int32) (wt : va_W) (cr0_ : Int32) (inn0_ : Int32) (k10_ : Nat → Int32) (k20_ : Nat → Int32) (k30_ : Nat → Int32) (k40_ : Nat → Int32) (z0_ : va_W) (cr1_ : Int32) (inn1_ : Int32) (k11_ : Nat → Int32) (k21_ : Nat → Int32) (k31_ : Nat → Int32) (k41_ : Nat → Int32) (z1_ : va_W) (dd0_ : Int32) (p10_ : Nat → Int32) (p20_ : Nat → Int32) (p30_ : Nat → Int32) (wd0_ : va_W) (dd1_ : Int32) (p11_ : Nat → Int32) (p21_ : Nat → Int32) (p31_ : Nat → Int32) (wd1_ : va_W) (gg0_ : Int32) (q10_ : Nat → Int32) (q20_ : Nat → Int32) (wg0_ : va_W) (gg1_ : Int32) (q11_ : Nat → Int32) (q21_ : Nat → Int32) (wg1_ : va_W) (o : Nat) (l0o : Nat) (l1o : Nat) (d0o : Nat) (d1o : Nat) (g0o : Nat) (g1o : Nat) (lno : Int32) (flo : Int32) (plo : Int32) (fto : Nat → Int32) (fko : Nat → Int32) (wto : va_W) (cr0_o : Int32) (inn0_o : Int32) (k10_o : Nat → Int32) (k20_o : Nat → Int32) (k30_o : Nat → Int32) (k40_o : Nat → Int32) (z0_o : va_W) (cr1_o : Int32) (inn1_o : Int32) (k11_o : Nat → Int32) (k21_o : Nat → Int32) (k31_o : Nat → Int32) (k41_o : Nat → Int32) (z1_o : va_W) (dd0_o : Int32) (p10_o : Nat → Int32) (p20_o : Nat → Int32) (p30_o : Nat → Int32) (wd0_o : va_W) (dd1_o : Int32) (p11_o : Nat → Int32) (p21_o : Nat → Int32) (p31_o : Nat → Int32) (wd1_o : va_W) (gg0_o : Int32) (q10_o : Nat → Int32) (q20_o : Nat → Int32) (wg0_o : va_W) (gg1_o : Int32) (q11_o : Nat → Int32) (q21_o : Nat → Int32) (wg1_o : va_W) (Gr : Nat → Int32) (ht : bTold T t l0 l1 d0 d1 g0 g1 ln fl pl ft fk wt) (hK : zKT fk) (hz0_ : bLand T l0 cr0_ inn0_ k10_ k20_ k30_ k40_ z0_) (hI0_ : zLI cr0_ k10_ k30_) (hz1_ : bLand T l1 cr1_ inn1_ k11_ k21_ k31_ k41_ z1_) (hI1_ : zLI cr1_ k11_ k31_) (hd0_ : bDay T d0 dd0_ p10_ p20_ p30_ wd0_) (hd1_ : bDay T d1 dd1_ p11_ p21_ p31_ wd1_) (hg0_ : bLog T g0 gg0_ q10_ q20_ wg0_) (hg1_ : bLog T g1 gg1_ q11_ q21_ wg1_) (hto : bTold T o l0o l1o d0o d1o g0o g1o lno flo plo fto fko wto) (hKo : zKT fko) (hz0_o : bLand T l0o cr0_o inn0_o k10_o k20_o k30_o k40_o z0_o) (hI0_o : zLI cr0_o k10_o k30_o) (hz1_o : bLand T l1o cr1_o inn1_o k11_o k21_o k31_o k41_o z1_o) (hI1_o : zLI cr1_o k11_o k31_o) (hd0_o : bDay T d0o dd0_o p10_o p20_o p30_o wd0_o) (hd1_o : bDay T d1o dd1_o p11_o p21_o p31_o wd1_o) (hg0_o : bLog T g0o gg0_o q10_o q20_o wg0_o) (hg1_o : bLog T g1o gg1_o q11_o q21_o wg1_o) (hTo : zTR lno flo plo fto fko cr0_o inn0_o k10_o k20_o k30_o k40_o cr1_o inn1_o k11_o k21_o k31_o k41_o dd0_o p10_o p20_o p30_o dd1_o p11_o p21_o p31_o gg0_o q10_o q20_o gg1_o q11_o q21_o Gr) : zMv l T yX9_takeAll cX9_takeAll 3 2 0 0 [.ref t, .ref o] [wt, z0_, z1_, wd0_, wd1_, wg0_, wg1_, wto, z0_o, z1_o, wd0_o, wd1_o, wg0_o, wg1_o] (fun bs => ∃ (wt2 : va_W) (g9 : Nat → Int32) (fk2 : Nat → Int32) (w2_0 : va_W) (s0_0 : Nat → Int32) (s0_1 : Nat → Int32) (s0_2 : Nat → Int32) (s0_3 : Nat → Int32) (w2_1 : va_W) (s1_0 : Nat → Int32) (s1_1 : Nat → Int32) (s1_2 : Nat → Int32) (s1_3 : Nat → Int32) (w2_2 : va_W) (s2_0 : Nat → Int32) (s2_1 : Nat → Int32) (s2_2 : Nat → Int32) (w2_3 : va_W) (s3_0 : Nat → Int32) (s3_1 : Nat → Int32) (s3_2 : Nat → Int32) (w2_4 : va_W) (s4_0 : Nat → Int32) (s4_1 : Nat → Int32) (w2_5 : va_W) (s5_0 : Nat → Int32) (s5_1 : Nat → Int32), bs = [wt2, w2_0, w2_1, w2_2, w2_3, w2_4, w2_5, wto, z0_o, z1_o, wd0_o, wd1_o, wg0_o, wg1_o] ∧ bTold T t l0 l1 d0 d1 g0 g1 lno flo plo g9 fk2 wt2 ∧ zKT fk2 ∧ bLand T l0 cr0_o inn0_o s0_0 s0_1 s0_2 s0_3 w2_0 ∧ bLand T l1 cr1_o inn1_o s1_0 s1_1 s1_2 s1_3 w2_1 ∧ bDay T d0 dd0_o s2_0 s2_1 s2_2 w2_2 ∧ bDay T d1 dd1_o s3_0 s3_1 s3_2 w2_3 ∧ bLog T g0 gg0_o s4_0 s4_1 w2_4 ∧ bLog T g1 gg1_o s5_0 s5_1 w2_5 ∧ zLI cr0_o s0_0 s0_2 ∧ zLI cr1_o s1_0 s1_2 ∧ zTR lno flo plo g9 fk2 cr0_o inn0_o s0_0 s0_1 s0_2 s0_3 cr1_o inn1_o s1_0 s1_1 s1_2 s1_3 dd0_o s2_0 s2_1 s2_2 dd1_o s3_0 s3_1 s3_2 gg0_o s4_0 s4_1 gg1_o s5_0 s5_1 Gr) := by
  refine zMv_of (own := RX9) (by decide) rfl (Nat.le_of_ble_eq_true rfl) ?_
  intro p e s m args below meth c A ls C hr hlocks hnm hAe G hl
  refine zHide (fun Qz_ hQz_ => ?_)
  have hx := C.1
  have hb := C.2.1
  have hl : lv_has ls 3 [(0, .ref t), (1, .ref o)] := hl
  refine lv_iconst (v := 0) hx hb dX9_takeAll_0 (by decide) ?_
  refine lv_istore_n (lv' := [(2, .int 0), (0, .ref t), (1, .ref o)]) hx hb dX9_takeAll_1 rfl hl (by decide) (zLvf_h rfl) (fun ls hl => ?_)
  refine zEx8 ht ?_
  intro a1_1 a2_2 a3_3 a4_4 a5_5 q1_6 q2_7 q3_8
  refine zCu7 ?_
  intro hbs9 h_9 h_10 h_11 h_12 h_13 h_14
  clear ht
  subst hbs9
  have G : zS T A s.heap s [[zO8 t a1_1 ln fl pl a2_2 a3_3 a4_4 a5_5], [zAr T 1 a1_1 600 ft], [zAr T 0 a2_2 3 fk], [zArq T 3 a3_3 2 q1_6], [zArq T 4 a4_4 2 q2_7], [zArq T 5 a5_5 2 q3_8], z0_, z1_, wd0_, wd1_, wg0_, wg1_, wto, z0_o, z1_o, wd0_o, wd1_o, wg0_o, wg1_o] _ _ := G.re rfl
  refine zEx8 hto ?_
  intro a1_15 a2_16 a3_17 a4_18 a5_19 q1_20 q2_21 q3_22
  refine zCu7 ?_
  intro hbs9 h_23 h_24 h_25 h_26 h_27 h_28
  clear hto
  subst hbs9
  have G : zS T A s.heap s [[zO8 t a1_1 ln fl pl a2_2 a3_3 a4_4 a5_5], [zAr T 1 a1_1 600 ft], [zAr T 0 a2_2 3 fk], [zArq T 3 a3_3 2 q1_6], [zArq T 4 a4_4 2 q2_7], [zArq T 5 a5_5 2 q3_8], z0_, z1_, wd0_, wd1_, wg0_, wg1_, [zO8 o a1_15 lno flo plo a2_16 a3_17 a4_18 a5_19], [zAr T 1 a1_15 600 fto], [zAr T 0 a2_16 3 fko], [zArq T 3 a3_17 2 q1_20], [zArq T 4 a4_18 2 q2_21], [zArq T 5 a5_19 2 q3_22], z0_o, z1_o, wd0_o, wd1_o, wg0_o, wg1_o] _ _ := G.re rfl
  have hw_29 : bTold T t l0 l1 d0 d1 g0 g1 ln fl pl ft fk [zO8 t a1_1 ln fl pl a2_2 a3_3 a4_4 a5_5, zAr T 1 a1_1 600 ft, zAr T 0 a2_2 3 fk, zArq T 3 a3_3 2 q1_6, zArq T 4 a4_4 2 q2_7, zArq T 5 a5_5 2 q3_8] := ⟨a1_1, a2_2, a3_3, a4_4, a5_5, q1_6, q2_7, q3_8, rfl, h_9, h_10, h_11, h_12, h_13, h_14⟩
  have G : zS T A s.heap s [[zO8 t a1_1 ln fl pl a2_2 a3_3 a4_4 a5_5, zAr T 1 a1_1 600 ft, zAr T 0 a2_2 3 fk, zArq T 3 a3_3 2 q1_6, zArq T 4 a4_4 2 q2_7, zArq T 5 a5_5 2 q3_8], z0_, z1_, wd0_, wd1_, wg0_, wg1_, [zO8 o a1_15 lno flo plo a2_16 a3_17 a4_18 a5_19], [zAr T 1 a1_15 600 fto], [zAr T 0 a2_16 3 fko], [zArq T 3 a3_17 2 q1_20], [zArq T 4 a4_18 2 q2_21], [zArq T 5 a5_19 2 q3_22], z0_o, z1_o, wd0_o, wd1_o, wg0_o, wg1_o] _ _ := G.re rfl
  have hw_30 : bTold T o l0o l1o d0o d1o g0o g1o lno flo plo fto fko [zO8 o a1_15 lno flo plo a2_16 a3_17 a4_18 a5_19, zAr T 1 a1_15 600 fto, zAr T 0 a2_16 3 fko, zArq T 3 a3_17 2 q1_20, zArq T 4 a4_18 2 q2_21, zArq T 5 a5_19 2 q3_22] := ⟨a1_15, a2_16, a3_17, a4_18, a5_19, q1_20, q2_21, q3_22, rfl, h_23, h_24, h_25, h_26, h_27, h_28⟩
  have G : zS T A s.heap s [[zO8 t a1_1 ln fl pl a2_2 a3_3 a4_4 a5_5, zAr T 1 a1_1 600 ft, zAr T 0 a2_2 3 fk, zArq T 3 a3_3 2 q1_6, zArq T 4 a4_4 2 q2_7, zArq T 5 a5_5 2 q3_8], z0_, z1_, wd0_, wd1_, wg0_, wg1_, [zO8 o a1_15 lno flo plo a2_16 a3_17 a4_18 a5_19, zAr T 1 a1_15 600 fto, zAr T 0 a2_16 3 fko, zArq T 3 a3_17 2 q1_20, zArq T 4 a4_18 2 q2_21, zArq T 5 a5_19 2 q3_22], z0_o, z1_o, wd0_o, wd1_o, wg0_o, wg1_o] _ _ := G.re rfl
  refine z_lp3 (T := T) 2 (fun (i : Nat) (wt9 : va_W) (x9 : Nat → Int32) => [wt9, z0_, z1_, wd0_, wd1_, wg0_, wg1_, [zO8 o a1_15 lno flo plo a2_16 a3_17 a4_18 a5_19, zAr T 1 a1_15 600 fto, zAr T 0 a2_16 3 fko, zArq T 3 a3_17 2 q1_20, zArq T 4 a4_18 2 q2_21, zArq T 5 a5_19 2 q3_22], z0_o, z1_o, wd0_o, wd1_o, wg0_o, wg1_o]) (fun (i : Nat) (wt9 : va_W) (x9 : Nat → Int32) => [(2, .int (nI i)), (0, .ref t), (1, .ref o)]) (fun (i : Nat) (wt9 : va_W) (x9 : Nat → Int32) => bTold T t l0 l1 d0 d1 g0 g1 ln fl pl x9 fk wt9 ∧ i ≤ 600 ∧ (∀ j, j < i → x9 j = fto j)) (fun (i : Nat) (wt9 : va_W) (x9 : Nat → Int32) => 600 - i) ?_ 0 ([zO8 t a1_1 ln fl pl a2_2 a3_3 a4_4 a5_5, zAr T 1 a1_1 600 ft, zAr T 0 a2_2 3 fk, zArq T 3 a3_3 2 q1_6, zArq T 4 a4_4 2 q2_7, zArq T 5 a5_5 2 q3_8]) ft (show bTold T t l0 l1 d0 d1 g0 g1 ln fl pl ft fk ([zO8 t a1_1 ln fl pl a2_2 a3_3 a4_4 a5_5, zAr T 1 a1_1 600 ft, zAr T 0 a2_2 3 fk, zArq T 3 a3_3 2 q1_6, zArq T 4 a4_4 2 q2_7, zArq T 5 a5_5 2 q3_8]) ∧ 0 ≤ 600 ∧ (∀ j, j < 0 → ft j = fto j) from ⟨hw_29, by omega, (fun j hj => absurd hj (Nat.not_lt_zero _))⟩) G (lv_sub hl [0, 1, 2] rfl)
  intro i wt9 x9 hI9 ih_2 H locs ls G hl
  replace hI9 : bTold T t l0 l1 d0 d1 g0 g1 ln fl pl x9 fk wt9 ∧ i ≤ 600 ∧ (∀ j, j < i → x9 j = fto j) := hI9
  refine zAn3 hI9 ?_
  intro ht9 hi hx9
  clear hI9
  replace G : zS T A s.heap s [wt9, z0_, z1_, wd0_, wd1_, wg0_, wg1_, [zO8 o a1_15 lno flo plo a2_16 a3_17 a4_18 a5_19, zAr T 1 a1_15 600 fto, zAr T 0 a2_16 3 fko, zArq T 3 a3_17 2 q1_20, zArq T 4 a4_18 2 q2_21, zArq T 5 a5_19 2 q3_22], z0_o, z1_o, wd0_o, wd1_o, wg0_o, wg1_o] _ _ := G
  replace hl : lv_has ls 3 [(2, .int (nI i)), (0, .ref t), (1, .ref o)] := hl
  refine lv_iload_n hx hb dX9_takeAll_2 rfl (lv_at hl 0 rfl) ?_
  refine lv_sipush (v := 600) hx hb dX9_takeAll_3 (by decide) ?_
  refine lv_icmp_ge (tgt := 27) hx hb dX9_takeAll_6 (by decide) (fun c_31 => ?_) (fun c_31 => ?_)
  · have c_31n : 600 ≤ i := (nI_leI (a := 600) (b := i) (by omega) (by omega)).mp c_31
    refine lv_aload_n hx hb dX9_takeAll_27 rfl (lv_at hl 1 rfl) ?_
    refine lv_aload_n hx hb dX9_takeAll_28 rfl (lv_at hl 2 rfl) ?_
    have G : zS T A s.heap s [wt9, z0_, z1_, wd0_, wd1_, wg0_, wg1_, [zO8 o a1_15 lno flo plo a2_16 a3_17 a4_18 a5_19], [zAr T 1 a1_15 600 fto], [zAr T 0 a2_16 3 fko], [zArq T 3 a3_17 2 q1_20], [zArq T 4 a4_18 2 q2_21], [zArq T 5 a5_19 2 q3_22], z0_o, z1_o, wd0_o, wd1_o, wg0_o, wg1_o] _ _ := G.re rfl
    refine z_get C G clX9 7 rfl 1 (by decide) m_fl_RX9_44 rfl dX9_takeAll_29 ?_
    refine zEx8 ht9 ?_
    intro a1_32 a2_33 a3_34 a4_35 a5_36 q1_37 q2_38 q3_39
    refine zCu7 ?_
    intro hbs9 h_40 h_41 h_42 h_43 h_44 h_45
    clear ht9
    subst hbs9
    have G : zS T A s.heap s [[zO8 t a1_32 ln fl pl a2_33 a3_34 a4_35 a5_36], [zAr T 1 a1_32 600 x9], [zAr T 0 a2_33 3 fk], [zArq T 3 a3_34 2 q1_37], [zArq T 4 a4_35 2 q2_38], [zArq T 5 a5_36 2 q3_39], z0_, z1_, wd0_, wd1_, wg0_, wg1_, [zO8 o a1_15 lno flo plo a2_16 a3_17 a4_18 a5_19], [zAr T 1 a1_15 600 fto], [zAr T 0 a2_16 3 fko], [zArq T 3 a3_17 2 q1_20], [zArq T 4 a4_18 2 q2_21], [zArq T 5 a5_19 2 q3_22], z0_o, z1_o, wd0_o, wd1_o, wg0_o, wg1_o] _ _ := G.re rfl
    refine z_put C G clX9 0 rfl 1 (by decide) m_fl_RX9_44 rfl rfl rfl (Nat.le_of_ble_eq_true rfl) dX9_takeAll_32 (fun H locs G => ?_)
    have G : zS T A s.heap s [[zO8 t a1_32 lno fl pl a2_33 a3_34 a4_35 a5_36], [zAr T 1 a1_32 600 x9], [zAr T 0 a2_33 3 fk], [zArq T 3 a3_34 2 q1_37], [zArq T 4 a4_35 2 q2_38], [zArq T 5 a5_36 2 q3_39], z0_, z1_, wd0_, wd1_, wg0_, wg1_, [zO8 o a1_15 lno flo plo a2_16 a3_17 a4_18 a5_19], [zAr T 1 a1_15 600 fto], [zAr T 0 a2_16 3 fko], [zArq T 3 a3_17 2 q1_20], [zArq T 4 a4_18 2 q2_21], [zArq T 5 a5_19 2 q3_22], z0_o, z1_o, wd0_o, wd1_o, wg0_o, wg1_o] _ _ := G
    refine lv_aload_n hx hb dX9_takeAll_35 rfl (lv_at hl 1 rfl) ?_
    refine lv_aload_n hx hb dX9_takeAll_36 rfl (lv_at hl 2 rfl) ?_
    refine z_get C G clX9 12 rfl 2 (by decide) m_fl_RX9_77 rfl dX9_takeAll_37 ?_
    refine z_put C G clX9 0 rfl 2 (by decide) m_fl_RX9_77 rfl rfl rfl (Nat.le_of_ble_eq_true rfl) dX9_takeAll_40 (fun H locs G => ?_)
    have G : zS T A s.heap s [[zO8 t a1_32 lno flo pl a2_33 a3_34 a4_35 a5_36], [zAr T 1 a1_32 600 x9], [zAr T 0 a2_33 3 fk], [zArq T 3 a3_34 2 q1_37], [zArq T 4 a4_35 2 q2_38], [zArq T 5 a5_36 2 q3_39], z0_, z1_, wd0_, wd1_, wg0_, wg1_, [zO8 o a1_15 lno flo plo a2_16 a3_17 a4_18 a5_19], [zAr T 1 a1_15 600 fto], [zAr T 0 a2_16 3 fko], [zArq T 3 a3_17 2 q1_20], [zArq T 4 a4_18 2 q2_21], [zArq T 5 a5_19 2 q3_22], z0_o, z1_o, wd0_o, wd1_o, wg0_o, wg1_o] _ _ := G
    refine lv_aload_n hx hb dX9_takeAll_43 rfl (lv_at hl 1 rfl) ?_
    refine lv_aload_n hx hb dX9_takeAll_44 rfl (lv_at hl 2 rfl) ?_
    refine z_get C G clX9 12 rfl 3 (by decide) m_fl_RX9_15 rfl dX9_takeAll_45 ?_
    refine z_put C G clX9 0 rfl 3 (by decide) m_fl_RX9_15 rfl rfl rfl (Nat.le_of_ble_eq_true rfl) dX9_takeAll_48 (fun H locs G => ?_)
    have G : zS T A s.heap s [[zO8 t a1_32 lno flo plo a2_33 a3_34 a4_35 a5_36], [zAr T 1 a1_32 600 x9], [zAr T 0 a2_33 3 fk], [zArq T 3 a3_34 2 q1_37], [zArq T 4 a4_35 2 q2_38], [zArq T 5 a5_36 2 q3_39], z0_, z1_, wd0_, wd1_, wg0_, wg1_, [zO8 o a1_15 lno flo plo a2_16 a3_17 a4_18 a5_19], [zAr T 1 a1_15 600 fto], [zAr T 0 a2_16 3 fko], [zArq T 3 a3_17 2 q1_20], [zArq T 4 a4_18 2 q2_21], [zArq T 5 a5_19 2 q3_22], z0_o, z1_o, wd0_o, wd1_o, wg0_o, wg1_o] _ _ := G
    refine lv_iconst (v := 0) hx hb dX9_takeAll_51 (by decide) ?_
    refine lv_istore_n (lv' := [(2, .int 0), (0, .ref t), (1, .ref o)]) hx hb dX9_takeAll_52 rfl hl (by decide) (zLvf_h rfl) (fun ls hl => ?_)
    refine lv_iload_n hx hb dX9_takeAll_53 rfl (lv_at hl 0 rfl) ?_
    refine lv_iconst (v := 2) hx hb dX9_takeAll_54 (by decide) ?_
    refine lv_icmp_gt (tgt := 76) hx hb dX9_takeAll_55 (by decide) (fun q => absurd q (by decide)) (fun _ => ?_)
    refine lv_aload_n hx hb dX9_takeAll_58 rfl (lv_at hl 1 rfl) ?_
    refine z_get C G clX9 0 rfl 4 (by decide) m_fl_RX9_19 rfl dX9_takeAll_59 ?_
    refine lv_iload_n hx hb dX9_takeAll_62 rfl (lv_at hl 0 rfl) ?_
    refine lv_aload_n hx hb dX9_takeAll_63 rfl (lv_at hl 2 rfl) ?_
    refine z_get C G clX9 12 rfl 4 (by decide) m_fl_RX9_19 rfl dX9_takeAll_64 ?_
    refine lv_iload_n hx hb dX9_takeAll_67 rfl (lv_at hl 0 rfl) ?_
    refine z_ild C G 14 rfl (vp_in_nI (n := 0) (by decide) (by decide)) dX9_takeAll_68 ?_
    refine lv_topi (fun v_46 ev_46 => ?_)
    rw [show ((0 : Int32).toNatClampNeg) = 0 from rfl] at ev_46
    subst ev_46
    refine z_ist C G 2 rfl (vp_in_nI (n := 0) (by decide) (by decide)) dX9_takeAll_69 (fun H locs G => ?_)
    have G : zS T A s.heap s [[zO8 t a1_32 lno flo plo a2_33 a3_34 a4_35 a5_36], [zAr T 1 a1_32 600 x9], [zAr T 0 a2_33 3 (upd fk 0 (fko 0))], [zArq T 3 a3_34 2 q1_37], [zArq T 4 a4_35 2 q2_38], [zArq T 5 a5_36 2 q3_39], z0_, z1_, wd0_, wd1_, wg0_, wg1_, [zO8 o a1_15 lno flo plo a2_16 a3_17 a4_18 a5_19], [zAr T 1 a1_15 600 fto], [zAr T 0 a2_16 3 fko], [zArq T 3 a3_17 2 q1_20], [zArq T 4 a4_18 2 q2_21], [zArq T 5 a5_19 2 q3_22], z0_o, z1_o, wd0_o, wd1_o, wg0_o, wg1_o] _ _ := G
    refine lv_iinc (v := 1) (lv' := [(2, .int 1), (0, .ref t), (1, .ref o)]) hx hb dX9_takeAll_70 hl (k := 0) rfl (by decide) (by decide) (zLvf_h rfl) (fun ls hl => ?_)
    refine lv_goto (tgt := 53) hx hb dX9_takeAll_73 (by decide) ?_
    refine lv_iload_n hx hb dX9_takeAll_53 rfl (lv_at hl 0 rfl) ?_
    refine lv_iconst (v := 2) hx hb dX9_takeAll_54 (by decide) ?_
    refine lv_icmp_gt (tgt := 76) hx hb dX9_takeAll_55 (by decide) (fun q => absurd q (by decide)) (fun _ => ?_)
    refine lv_aload_n hx hb dX9_takeAll_58 rfl (lv_at hl 1 rfl) ?_
    refine z_get C G clX9 0 rfl 4 (by decide) m_fl_RX9_19 rfl dX9_takeAll_59 ?_
    refine lv_iload_n hx hb dX9_takeAll_62 rfl (lv_at hl 0 rfl) ?_
    refine lv_aload_n hx hb dX9_takeAll_63 rfl (lv_at hl 2 rfl) ?_
    refine z_get C G clX9 12 rfl 4 (by decide) m_fl_RX9_19 rfl dX9_takeAll_64 ?_
    refine lv_iload_n hx hb dX9_takeAll_67 rfl (lv_at hl 0 rfl) ?_
    refine z_ild C G 14 rfl (vp_in_nI (n := 1) (by decide) (by decide)) dX9_takeAll_68 ?_
    refine lv_topi (fun v_47 ev_47 => ?_)
    rw [show ((1 : Int32).toNatClampNeg) = 1 from rfl] at ev_47
    subst ev_47
    refine z_ist C G 2 rfl (vp_in_nI (n := 1) (by decide) (by decide)) dX9_takeAll_69 (fun H locs G => ?_)
    have G : zS T A s.heap s [[zO8 t a1_32 lno flo plo a2_33 a3_34 a4_35 a5_36], [zAr T 1 a1_32 600 x9], [zAr T 0 a2_33 3 (upd (upd fk 0 (fko 0)) 1 (fko 1))], [zArq T 3 a3_34 2 q1_37], [zArq T 4 a4_35 2 q2_38], [zArq T 5 a5_36 2 q3_39], z0_, z1_, wd0_, wd1_, wg0_, wg1_, [zO8 o a1_15 lno flo plo a2_16 a3_17 a4_18 a5_19], [zAr T 1 a1_15 600 fto], [zAr T 0 a2_16 3 fko], [zArq T 3 a3_17 2 q1_20], [zArq T 4 a4_18 2 q2_21], [zArq T 5 a5_19 2 q3_22], z0_o, z1_o, wd0_o, wd1_o, wg0_o, wg1_o] _ _ := G
    refine lv_iinc (v := 2) (lv' := [(2, .int 2), (0, .ref t), (1, .ref o)]) hx hb dX9_takeAll_70 hl (k := 0) rfl (by decide) (by decide) (zLvf_h rfl) (fun ls hl => ?_)
    refine lv_goto (tgt := 53) hx hb dX9_takeAll_73 (by decide) ?_
    refine lv_iload_n hx hb dX9_takeAll_53 rfl (lv_at hl 0 rfl) ?_
    refine lv_iconst (v := 2) hx hb dX9_takeAll_54 (by decide) ?_
    refine lv_icmp_gt (tgt := 76) hx hb dX9_takeAll_55 (by decide) (fun q => absurd q (by decide)) (fun _ => ?_)
    refine lv_aload_n hx hb dX9_takeAll_58 rfl (lv_at hl 1 rfl) ?_
    refine z_get C G clX9 0 rfl 4 (by decide) m_fl_RX9_19 rfl dX9_takeAll_59 ?_
    refine lv_iload_n hx hb dX9_takeAll_62 rfl (lv_at hl 0 rfl) ?_
    refine lv_aload_n hx hb dX9_takeAll_63 rfl (lv_at hl 2 rfl) ?_
    refine z_get C G clX9 12 rfl 4 (by decide) m_fl_RX9_19 rfl dX9_takeAll_64 ?_
    refine lv_iload_n hx hb dX9_takeAll_67 rfl (lv_at hl 0 rfl) ?_
    refine z_ild C G 14 rfl (vp_in_nI (n := 2) (by decide) (by decide)) dX9_takeAll_68 ?_
    refine lv_topi (fun v_48 ev_48 => ?_)
    rw [show ((2 : Int32).toNatClampNeg) = 2 from rfl] at ev_48
    subst ev_48
    refine z_ist C G 2 rfl (vp_in_nI (n := 2) (by decide) (by decide)) dX9_takeAll_69 (fun H locs G => ?_)
    have G : zS T A s.heap s [[zO8 t a1_32 lno flo plo a2_33 a3_34 a4_35 a5_36], [zAr T 1 a1_32 600 x9], [zAr T 0 a2_33 3 (upd (upd (upd fk 0 (fko 0)) 1 (fko 1)) 2 (fko 2))], [zArq T 3 a3_34 2 q1_37], [zArq T 4 a4_35 2 q2_38], [zArq T 5 a5_36 2 q3_39], z0_, z1_, wd0_, wd1_, wg0_, wg1_, [zO8 o a1_15 lno flo plo a2_16 a3_17 a4_18 a5_19], [zAr T 1 a1_15 600 fto], [zAr T 0 a2_16 3 fko], [zArq T 3 a3_17 2 q1_20], [zArq T 4 a4_18 2 q2_21], [zArq T 5 a5_19 2 q3_22], z0_o, z1_o, wd0_o, wd1_o, wg0_o, wg1_o] _ _ := G
    refine lv_iinc (v := 3) (lv' := [(2, .int 3), (0, .ref t), (1, .ref o)]) hx hb dX9_takeAll_70 hl (k := 0) rfl (by decide) (by decide) (zLvf_h rfl) (fun ls hl => ?_)
    refine lv_goto (tgt := 53) hx hb dX9_takeAll_73 (by decide) ?_
    refine lv_iload_n hx hb dX9_takeAll_53 rfl (lv_at hl 0 rfl) ?_
    refine lv_iconst (v := 2) hx hb dX9_takeAll_54 (by decide) ?_
    refine lv_icmp_gt (tgt := 76) hx hb dX9_takeAll_55 (by decide) (fun _ => ?_) (fun q => absurd (by decide) q)
    refine lv_iconst (v := 0) hx hb dX9_takeAll_76 (by decide) ?_
    refine lv_istore_n (lv' := [(2, .int 0), (0, .ref t), (1, .ref o)]) hx hb dX9_takeAll_77 rfl hl (by decide) (zLvf_h rfl) (fun ls hl => ?_)
    refine lv_iload_n hx hb dX9_takeAll_78 rfl (lv_at hl 0 rfl) ?_
    refine lv_iconst (v := 2) hx hb dX9_takeAll_79 (by decide) ?_
    refine lv_icmp_ge (tgt := 134) hx hb dX9_takeAll_80 (by decide) (fun q => absurd q (by decide)) (fun _ => ?_)
    refine lv_aload_n hx hb dX9_takeAll_83 rfl (lv_at hl 1 rfl) ?_
    refine z_get C G clX9 0 rfl 5 (by decide) m_fl_RX9_26 rfl dX9_takeAll_84 ?_
    refine lv_iload_n hx hb dX9_takeAll_87 rfl (lv_at hl 0 rfl) ?_
    refine z_ald C G 3 3 rfl rfl (vp_in_nI (n := 0) (by decide) (by decide)) dX9_takeAll_88 ?_
    rw [show q1_37 ((0 : Int32).toNatClampNeg) = some l0 from h_40]
    refine lv_aload_n hx hb dX9_takeAll_89 rfl (lv_at hl 2 rfl) ?_
    refine z_get C G clX9 12 rfl 5 (by decide) m_fl_RX9_26 rfl dX9_takeAll_90 ?_
    refine lv_iload_n hx hb dX9_takeAll_93 rfl (lv_at hl 0 rfl) ?_
    refine z_ald C G 15 3 rfl rfl (vp_in_nI (n := 0) (by decide) (by decide)) dX9_takeAll_94 ?_
    rw [show q1_20 ((0 : Int32).toNatClampNeg) = some l0o from h_23]
    refine z_Vv (bc := [z0_, z0_o]) (br := [[zO8 t a1_32 lno flo plo a2_33 a3_34 a4_35 a5_36], [zAr T 1 a1_32 600 x9], [zAr T 0 a2_33 3 (upd (upd (upd fk 0 (fko 0)) 1 (fko 1)) 2 (fko 2))], [zArq T 3 a3_34 2 q1_37], [zArq T 4 a4_35 2 q2_38], [zArq T 5 a5_36 2 q3_39], z1_, wd0_, wd1_, wg0_, wg1_, [zO8 o a1_15 lno flo plo a2_16 a3_17 a4_18 a5_19], [zAr T 1 a1_15 600 fto], [zAr T 0 a2_16 3 fko], [zArq T 3 a3_17 2 q1_20], [zArq T 4 a4_18 2 q2_21], [zArq T 5 a5_19 2 q3_22], z1_o, wd0_o, wd1_o, wg0_o, wg1_o]) (As := [.ref l0o]) (rest := []) C G (c_Land_takeAll l T l0 l0o cr0_ inn0_ k10_ k20_ k30_ k40_ cr0_o inn0_o k10_o k20_o k30_o k40_o z0_ z0_o hz0_ hz0_o) (kV_RX9_53 C.2.2.2.2 (Nat.le_of_ble_eq_true rfl) (Nat.le_of_ble_eq_true rfl)) [6, 18] [6, 11] rfl rfl (ci := 4) (qc := (RX4, TX4, 6)) rfl rfl (List.mem_flatten.mpr ⟨_, List.mem_of_getElem? (i := 0) rfl, (bLand_mem hz0_).choose_spec⟩) rfl rfl hl.1 dX9_takeAll_95 (Nat.le_of_ble_eq_true rfl) (Nat.le_of_ble_eq_true rfl) (fun b1 H locs hw G => ?_)
    refine zEx5 hw ?_
    intro w2_49 g1_50 g2_51 g3_52 g4_53
    refine zCu6 ?_
    intro hbs9 h_54 h_55 h_56 h_57 h_58
    clear hw
    subst hbs9
    have G : zS T A s.heap s [[zO8 t a1_32 lno flo plo a2_33 a3_34 a4_35 a5_36], [zAr T 1 a1_32 600 x9], [zAr T 0 a2_33 3 (upd (upd (upd fk 0 (fko 0)) 1 (fko 1)) 2 (fko 2))], [zArq T 3 a3_34 2 q1_37], [zArq T 4 a4_35 2 q2_38], [zArq T 5 a5_36 2 q3_39], z1_, wd0_, wd1_, wg0_, wg1_, [zO8 o a1_15 lno flo plo a2_16 a3_17 a4_18 a5_19], [zAr T 1 a1_15 600 fto], [zAr T 0 a2_16 3 fko], [zArq T 3 a3_17 2 q1_20], [zArq T 4 a4_18 2 q2_21], [zArq T 5 a5_19 2 q3_22], z1_o, wd0_o, wd1_o, wg0_o, wg1_o, w2_49, z0_o] _ _ := G
    refine lv_aload_n hx hb dX9_takeAll_98 rfl (lv_at hl 1 rfl) ?_
    refine z_get C G clX9 0 rfl 6 (by decide) m_fl_RX9_33 rfl dX9_takeAll_99 ?_
    refine lv_iload_n hx hb dX9_takeAll_102 rfl (lv_at hl 0 rfl) ?_
    refine z_ald C G 4 4 rfl rfl (vp_in_nI (n := 0) (by decide) (by decide)) dX9_takeAll_103 ?_
    rw [show q2_38 ((0 : Int32).toNatClampNeg) = some d0 from h_42]
    refine lv_aload_n hx hb dX9_takeAll_104 rfl (lv_at hl 2 rfl) ?_
    refine z_get C G clX9 11 rfl 6 (by decide) m_fl_RX9_33 rfl dX9_takeAll_105 ?_
    refine lv_iload_n hx hb dX9_takeAll_108 rfl (lv_at hl 0 rfl) ?_
    refine z_ald C G 15 4 rfl rfl (vp_in_nI (n := 0) (by decide) (by decide)) dX9_takeAll_109 ?_
    rw [show q2_21 ((0 : Int32).toNatClampNeg) = some d0o from h_25]
    refine z_Vv (bc := [wd0_, wd0_o]) (br := [[zO8 t a1_32 lno flo plo a2_33 a3_34 a4_35 a5_36], [zAr T 1 a1_32 600 x9], [zAr T 0 a2_33 3 (upd (upd (upd fk 0 (fko 0)) 1 (fko 1)) 2 (fko 2))], [zArq T 3 a3_34 2 q1_37], [zArq T 4 a4_35 2 q2_38], [zArq T 5 a5_36 2 q3_39], z1_, wd1_, wg0_, wg1_, [zO8 o a1_15 lno flo plo a2_16 a3_17 a4_18 a5_19], [zAr T 1 a1_15 600 fto], [zAr T 0 a2_16 3 fko], [zArq T 3 a3_17 2 q1_20], [zArq T 4 a4_18 2 q2_21], [zArq T 5 a5_19 2 q3_22], z1_o, wd1_o, wg0_o, wg1_o, w2_49, z0_o]) (As := [.ref d0o]) (rest := []) C G (c_Day_takeAll l T d0 d0o dd0_ p10_ p20_ p30_ dd0_o p10_o p20_o p30_o wd0_ wd0_o hd0_ hd0_o) (kV_RX9_61 C.2.2.2.2 (Nat.le_of_ble_eq_true rfl) (Nat.le_of_ble_eq_true rfl)) [7, 18] [7, 10] rfl rfl (ci := 2) (qc := (RX2, TX2, 4)) rfl rfl (List.mem_flatten.mpr ⟨_, List.mem_of_getElem? (i := 0) rfl, (bDay_mem hd0_).choose_spec⟩) rfl rfl hl.1 dX9_takeAll_110 (Nat.le_of_ble_eq_true rfl) (Nat.le_of_ble_eq_true rfl) (fun b1 H locs hw G => ?_)
    refine zEx4 hw ?_
    intro w2_60 g1_61 g2_62 g3_63
    refine zCu5 ?_
    intro hbs9 h_64 h_65 h_66 h_67
    clear hw
    subst hbs9
    have G : zS T A s.heap s [[zO8 t a1_32 lno flo plo a2_33 a3_34 a4_35 a5_36], [zAr T 1 a1_32 600 x9], [zAr T 0 a2_33 3 (upd (upd (upd fk 0 (fko 0)) 1 (fko 1)) 2 (fko 2))], [zArq T 3 a3_34 2 q1_37], [zArq T 4 a4_35 2 q2_38], [zArq T 5 a5_36 2 q3_39], z1_, wd1_, wg0_, wg1_, [zO8 o a1_15 lno flo plo a2_16 a3_17 a4_18 a5_19], [zAr T 1 a1_15 600 fto], [zAr T 0 a2_16 3 fko], [zArq T 3 a3_17 2 q1_20], [zArq T 4 a4_18 2 q2_21], [zArq T 5 a5_19 2 q3_22], z1_o, wd1_o, wg0_o, wg1_o, w2_49, z0_o, w2_60, wd0_o] _ _ := G
    refine lv_aload_n hx hb dX9_takeAll_113 rfl (lv_at hl 1 rfl) ?_
    refine z_get C G clX9 0 rfl 7 (by decide) m_fl_RX9_40 rfl dX9_takeAll_114 ?_
    refine lv_iload_n hx hb dX9_takeAll_117 rfl (lv_at hl 0 rfl) ?_
    refine z_ald C G 5 5 rfl rfl (vp_in_nI (n := 0) (by decide) (by decide)) dX9_takeAll_118 ?_
    rw [show q3_39 ((0 : Int32).toNatClampNeg) = some g0 from h_44]
    refine lv_aload_n hx hb dX9_takeAll_119 rfl (lv_at hl 2 rfl) ?_
    refine z_get C G clX9 10 rfl 7 (by decide) m_fl_RX9_40 rfl dX9_takeAll_120 ?_
    refine lv_iload_n hx hb dX9_takeAll_123 rfl (lv_at hl 0 rfl) ?_
    refine z_ald C G 15 5 rfl rfl (vp_in_nI (n := 0) (by decide) (by decide)) dX9_takeAll_124 ?_
    rw [show q3_22 ((0 : Int32).toNatClampNeg) = some g0o from h_27]
    refine z_Vv (bc := [wg0_, wg0_o]) (br := [[zO8 t a1_32 lno flo plo a2_33 a3_34 a4_35 a5_36], [zAr T 1 a1_32 600 x9], [zAr T 0 a2_33 3 (upd (upd (upd fk 0 (fko 0)) 1 (fko 1)) 2 (fko 2))], [zArq T 3 a3_34 2 q1_37], [zArq T 4 a4_35 2 q2_38], [zArq T 5 a5_36 2 q3_39], z1_, wd1_, wg1_, [zO8 o a1_15 lno flo plo a2_16 a3_17 a4_18 a5_19], [zAr T 1 a1_15 600 fto], [zAr T 0 a2_16 3 fko], [zArq T 3 a3_17 2 q1_20], [zArq T 4 a4_18 2 q2_21], [zArq T 5 a5_19 2 q3_22], z1_o, wd1_o, wg1_o, w2_49, z0_o, w2_60, wd0_o]) (As := [.ref g0o]) (rest := []) C G (c_Log_takeAll l T g0 g0o gg0_ q10_ q20_ gg0_o q10_o q20_o wg0_ wg0_o hg0_ hg0_o) (kV_RX9_68 C.2.2.2.2 (Nat.le_of_ble_eq_true rfl) (Nat.le_of_ble_eq_true rfl)) [8, 18] [8, 9] rfl rfl (ci := 5) (qc := (RX5, TX5, 3)) rfl rfl (List.mem_flatten.mpr ⟨_, List.mem_of_getElem? (i := 0) rfl, (bLog_mem hg0_).choose_spec⟩) rfl rfl hl.1 dX9_takeAll_125 (Nat.le_of_ble_eq_true rfl) (Nat.le_of_ble_eq_true rfl) (fun b1 H locs hw G => ?_)
    refine zEx3 hw ?_
    intro w2_69 g1_70 g2_71
    refine zCu4 ?_
    intro hbs9 h_72 h_73 h_74
    clear hw
    subst hbs9
    have G : zS T A s.heap s [[zO8 t a1_32 lno flo plo a2_33 a3_34 a4_35 a5_36], [zAr T 1 a1_32 600 x9], [zAr T 0 a2_33 3 (upd (upd (upd fk 0 (fko 0)) 1 (fko 1)) 2 (fko 2))], [zArq T 3 a3_34 2 q1_37], [zArq T 4 a4_35 2 q2_38], [zArq T 5 a5_36 2 q3_39], z1_, wd1_, wg1_, [zO8 o a1_15 lno flo plo a2_16 a3_17 a4_18 a5_19], [zAr T 1 a1_15 600 fto], [zAr T 0 a2_16 3 fko], [zArq T 3 a3_17 2 q1_20], [zArq T 4 a4_18 2 q2_21], [zArq T 5 a5_19 2 q3_22], z1_o, wd1_o, wg1_o, w2_49, z0_o, w2_60, wd0_o, w2_69, wg0_o] _ _ := G
    refine lv_iinc (v := 1) (lv' := [(2, .int 1), (0, .ref t), (1, .ref o)]) hx hb dX9_takeAll_128 hl (k := 0) rfl (by decide) (by decide) (zLvf_h rfl) (fun ls hl => ?_)
    refine lv_goto (tgt := 78) hx hb dX9_takeAll_131 (by decide) ?_
    refine lv_iload_n hx hb dX9_takeAll_78 rfl (lv_at hl 0 rfl) ?_
    refine lv_iconst (v := 2) hx hb dX9_takeAll_79 (by decide) ?_
    refine lv_icmp_ge (tgt := 134) hx hb dX9_takeAll_80 (by decide) (fun q => absurd q (by decide)) (fun _ => ?_)
    refine lv_aload_n hx hb dX9_takeAll_83 rfl (lv_at hl 1 rfl) ?_
    refine z_get C G clX9 0 rfl 5 (by decide) m_fl_RX9_26 rfl dX9_takeAll_84 ?_
    refine lv_iload_n hx hb dX9_takeAll_87 rfl (lv_at hl 0 rfl) ?_
    refine z_ald C G 3 3 rfl rfl (vp_in_nI (n := 1) (by decide) (by decide)) dX9_takeAll_88 ?_
    rw [show q1_37 ((1 : Int32).toNatClampNeg) = some l1 from h_41]
    refine lv_aload_n hx hb dX9_takeAll_89 rfl (lv_at hl 2 rfl) ?_
    refine z_get C G clX9 9 rfl 5 (by decide) m_fl_RX9_26 rfl dX9_takeAll_90 ?_
    refine lv_iload_n hx hb dX9_takeAll_93 rfl (lv_at hl 0 rfl) ?_
    refine z_ald C G 12 3 rfl rfl (vp_in_nI (n := 1) (by decide) (by decide)) dX9_takeAll_94 ?_
    rw [show q1_20 ((1 : Int32).toNatClampNeg) = some l1o from h_24]
    refine z_Vv (bc := [z1_, z1_o]) (br := [[zO8 t a1_32 lno flo plo a2_33 a3_34 a4_35 a5_36], [zAr T 1 a1_32 600 x9], [zAr T 0 a2_33 3 (upd (upd (upd fk 0 (fko 0)) 1 (fko 1)) 2 (fko 2))], [zArq T 3 a3_34 2 q1_37], [zArq T 4 a4_35 2 q2_38], [zArq T 5 a5_36 2 q3_39], wd1_, wg1_, [zO8 o a1_15 lno flo plo a2_16 a3_17 a4_18 a5_19], [zAr T 1 a1_15 600 fto], [zAr T 0 a2_16 3 fko], [zArq T 3 a3_17 2 q1_20], [zArq T 4 a4_18 2 q2_21], [zArq T 5 a5_19 2 q3_22], wd1_o, wg1_o, w2_49, z0_o, w2_60, wd0_o, w2_69, wg0_o]) (As := [.ref l1o]) (rest := []) C G (c_Land_takeAll l T l1 l1o cr1_ inn1_ k11_ k21_ k31_ k41_ cr1_o inn1_o k11_o k21_o k31_o k41_o z1_ z1_o hz1_ hz1_o) (kV_RX9_53 C.2.2.2.2 (Nat.le_of_ble_eq_true rfl) (Nat.le_of_ble_eq_true rfl)) [6, 15] [6, 8] rfl rfl (ci := 4) (qc := (RX4, TX4, 6)) rfl rfl (List.mem_flatten.mpr ⟨_, List.mem_of_getElem? (i := 0) rfl, (bLand_mem hz1_).choose_spec⟩) rfl rfl hl.1 dX9_takeAll_95 (Nat.le_of_ble_eq_true rfl) (Nat.le_of_ble_eq_true rfl) (fun b1 H locs hw G => ?_)
    refine zEx5 hw ?_
    intro w2_76 g1_77 g2_78 g3_79 g4_80
    refine zCu6 ?_
    intro hbs9 h_81 h_82 h_83 h_84 h_85
    clear hw
    subst hbs9
    have G : zS T A s.heap s [[zO8 t a1_32 lno flo plo a2_33 a3_34 a4_35 a5_36], [zAr T 1 a1_32 600 x9], [zAr T 0 a2_33 3 (upd (upd (upd fk 0 (fko 0)) 1 (fko 1)) 2 (fko 2))], [zArq T 3 a3_34 2 q1_37], [zArq T 4 a4_35 2 q2_38], [zArq T 5 a5_36 2 q3_39], wd1_, wg1_, [zO8 o a1_15 lno flo plo a2_16 a3_17 a4_18 a5_19], [zAr T 1 a1_15 600 fto], [zAr T 0 a2_16 3 fko], [zArq T 3 a3_17 2 q1_20], [zArq T 4 a4_18 2 q2_21], [zArq T 5 a5_19 2 q3_22], wd1_o, wg1_o, w2_49, z0_o, w2_60, wd0_o, w2_69, wg0_o, w2_76, z1_o] _ _ := G
    refine lv_aload_n hx hb dX9_takeAll_98 rfl (lv_at hl 1 rfl) ?_
    refine z_get C G clX9 0 rfl 6 (by decide) m_fl_RX9_33 rfl dX9_takeAll_99 ?_
    refine lv_iload_n hx hb dX9_takeAll_102 rfl (lv_at hl 0 rfl) ?_
    refine z_ald C G 4 4 rfl rfl (vp_in_nI (n := 1) (by decide) (by decide)) dX9_takeAll_103 ?_
    rw [show q2_38 ((1 : Int32).toNatClampNeg) = some d1 from h_43]
    refine lv_aload_n hx hb dX9_takeAll_104 rfl (lv_at hl 2 rfl) ?_
    refine z_get C G clX9 8 rfl 6 (by decide) m_fl_RX9_33 rfl dX9_takeAll_105 ?_
    refine lv_iload_n hx hb dX9_takeAll_108 rfl (lv_at hl 0 rfl) ?_
    refine z_ald C G 12 4 rfl rfl (vp_in_nI (n := 1) (by decide) (by decide)) dX9_takeAll_109 ?_
    rw [show q2_21 ((1 : Int32).toNatClampNeg) = some d1o from h_26]
    refine z_Vv (bc := [wd1_, wd1_o]) (br := [[zO8 t a1_32 lno flo plo a2_33 a3_34 a4_35 a5_36], [zAr T 1 a1_32 600 x9], [zAr T 0 a2_33 3 (upd (upd (upd fk 0 (fko 0)) 1 (fko 1)) 2 (fko 2))], [zArq T 3 a3_34 2 q1_37], [zArq T 4 a4_35 2 q2_38], [zArq T 5 a5_36 2 q3_39], wg1_, [zO8 o a1_15 lno flo plo a2_16 a3_17 a4_18 a5_19], [zAr T 1 a1_15 600 fto], [zAr T 0 a2_16 3 fko], [zArq T 3 a3_17 2 q1_20], [zArq T 4 a4_18 2 q2_21], [zArq T 5 a5_19 2 q3_22], wg1_o, w2_49, z0_o, w2_60, wd0_o, w2_69, wg0_o, w2_76, z1_o]) (As := [.ref d1o]) (rest := []) C G (c_Day_takeAll l T d1 d1o dd1_ p11_ p21_ p31_ dd1_o p11_o p21_o p31_o wd1_ wd1_o hd1_ hd1_o) (kV_RX9_61 C.2.2.2.2 (Nat.le_of_ble_eq_true rfl) (Nat.le_of_ble_eq_true rfl)) [6, 14] [6, 7] rfl rfl (ci := 2) (qc := (RX2, TX2, 4)) rfl rfl (List.mem_flatten.mpr ⟨_, List.mem_of_getElem? (i := 0) rfl, (bDay_mem hd1_).choose_spec⟩) rfl rfl hl.1 dX9_takeAll_110 (Nat.le_of_ble_eq_true rfl) (Nat.le_of_ble_eq_true rfl) (fun b1 H locs hw G => ?_)
    refine zEx4 hw ?_
    intro w2_87 g1_88 g2_89 g3_90
    refine zCu5 ?_
    intro hbs9 h_91 h_92 h_93 h_94
    clear hw
    subst hbs9
    have G : zS T A s.heap s [[zO8 t a1_32 lno flo plo a2_33 a3_34 a4_35 a5_36], [zAr T 1 a1_32 600 x9], [zAr T 0 a2_33 3 (upd (upd (upd fk 0 (fko 0)) 1 (fko 1)) 2 (fko 2))], [zArq T 3 a3_34 2 q1_37], [zArq T 4 a4_35 2 q2_38], [zArq T 5 a5_36 2 q3_39], wg1_, [zO8 o a1_15 lno flo plo a2_16 a3_17 a4_18 a5_19], [zAr T 1 a1_15 600 fto], [zAr T 0 a2_16 3 fko], [zArq T 3 a3_17 2 q1_20], [zArq T 4 a4_18 2 q2_21], [zArq T 5 a5_19 2 q3_22], wg1_o, w2_49, z0_o, w2_60, wd0_o, w2_69, wg0_o, w2_76, z1_o, w2_87, wd1_o] _ _ := G
    refine lv_aload_n hx hb dX9_takeAll_113 rfl (lv_at hl 1 rfl) ?_
    refine z_get C G clX9 0 rfl 7 (by decide) m_fl_RX9_40 rfl dX9_takeAll_114 ?_
    refine lv_iload_n hx hb dX9_takeAll_117 rfl (lv_at hl 0 rfl) ?_
    refine z_ald C G 5 5 rfl rfl (vp_in_nI (n := 1) (by decide) (by decide)) dX9_takeAll_118 ?_
    rw [show q3_39 ((1 : Int32).toNatClampNeg) = some g1 from h_45]
    refine lv_aload_n hx hb dX9_takeAll_119 rfl (lv_at hl 2 rfl) ?_
    refine z_get C G clX9 7 rfl 7 (by decide) m_fl_RX9_40 rfl dX9_takeAll_120 ?_
    refine lv_iload_n hx hb dX9_takeAll_123 rfl (lv_at hl 0 rfl) ?_
    refine z_ald C G 12 5 rfl rfl (vp_in_nI (n := 1) (by decide) (by decide)) dX9_takeAll_124 ?_
    rw [show q3_22 ((1 : Int32).toNatClampNeg) = some g1o from h_28]
    refine z_Vv (bc := [wg1_, wg1_o]) (br := [[zO8 t a1_32 lno flo plo a2_33 a3_34 a4_35 a5_36], [zAr T 1 a1_32 600 x9], [zAr T 0 a2_33 3 (upd (upd (upd fk 0 (fko 0)) 1 (fko 1)) 2 (fko 2))], [zArq T 3 a3_34 2 q1_37], [zArq T 4 a4_35 2 q2_38], [zArq T 5 a5_36 2 q3_39], [zO8 o a1_15 lno flo plo a2_16 a3_17 a4_18 a5_19], [zAr T 1 a1_15 600 fto], [zAr T 0 a2_16 3 fko], [zArq T 3 a3_17 2 q1_20], [zArq T 4 a4_18 2 q2_21], [zArq T 5 a5_19 2 q3_22], w2_49, z0_o, w2_60, wd0_o, w2_69, wg0_o, w2_76, z1_o, w2_87, wd1_o]) (As := [.ref g1o]) (rest := []) C G (c_Log_takeAll l T g1 g1o gg1_ q11_ q21_ gg1_o q11_o q21_o wg1_ wg1_o hg1_ hg1_o) (kV_RX9_68 C.2.2.2.2 (Nat.le_of_ble_eq_true rfl) (Nat.le_of_ble_eq_true rfl)) [6, 13] [6, 6] rfl rfl (ci := 5) (qc := (RX5, TX5, 3)) rfl rfl (List.mem_flatten.mpr ⟨_, List.mem_of_getElem? (i := 0) rfl, (bLog_mem hg1_).choose_spec⟩) rfl rfl hl.1 dX9_takeAll_125 (Nat.le_of_ble_eq_true rfl) (Nat.le_of_ble_eq_true rfl) (fun b1 H locs hw G => ?_)
    refine zEx3 hw ?_
    intro w2_96 g1_97 g2_98
    refine zCu4 ?_
    intro hbs9 h_99 h_100 h_101
    clear hw
    subst hbs9
    have G : zS T A s.heap s [[zO8 t a1_32 lno flo plo a2_33 a3_34 a4_35 a5_36], [zAr T 1 a1_32 600 x9], [zAr T 0 a2_33 3 (upd (upd (upd fk 0 (fko 0)) 1 (fko 1)) 2 (fko 2))], [zArq T 3 a3_34 2 q1_37], [zArq T 4 a4_35 2 q2_38], [zArq T 5 a5_36 2 q3_39], [zO8 o a1_15 lno flo plo a2_16 a3_17 a4_18 a5_19], [zAr T 1 a1_15 600 fto], [zAr T 0 a2_16 3 fko], [zArq T 3 a3_17 2 q1_20], [zArq T 4 a4_18 2 q2_21], [zArq T 5 a5_19 2 q3_22], w2_49, z0_o, w2_60, wd0_o, w2_69, wg0_o, w2_76, z1_o, w2_87, wd1_o, w2_96, wg1_o] _ _ := G
    refine lv_iinc (v := 2) (lv' := [(2, .int 2), (0, .ref t), (1, .ref o)]) hx hb dX9_takeAll_128 hl (k := 0) rfl (by decide) (by decide) (zLvf_h rfl) (fun ls hl => ?_)
    refine lv_goto (tgt := 78) hx hb dX9_takeAll_131 (by decide) ?_
    refine lv_iload_n hx hb dX9_takeAll_78 rfl (lv_at hl 0 rfl) ?_
    refine lv_iconst (v := 2) hx hb dX9_takeAll_79 (by decide) ?_
    refine lv_icmp_ge (tgt := 134) hx hb dX9_takeAll_80 (by decide) (fun _ => ?_) (fun q => absurd (by decide) q)
    have hw_103 : bTold T t l0 l1 d0 d1 g0 g1 lno flo plo x9 (upd (upd (upd fk 0 (fko 0)) 1 (fko 1)) 2 (fko 2)) [zO8 t a1_32 lno flo plo a2_33 a3_34 a4_35 a5_36, zAr T 1 a1_32 600 x9, zAr T 0 a2_33 3 (upd (upd (upd fk 0 (fko 0)) 1 (fko 1)) 2 (fko 2)), zArq T 3 a3_34 2 q1_37, zArq T 4 a4_35 2 q2_38, zArq T 5 a5_36 2 q3_39] := ⟨a1_32, a2_33, a3_34, a4_35, a5_36, q1_37, q2_38, q3_39, rfl, h_40, h_41, h_42, h_43, h_44, h_45⟩
    have G : zS T A s.heap s [[zO8 t a1_32 lno flo plo a2_33 a3_34 a4_35 a5_36, zAr T 1 a1_32 600 x9, zAr T 0 a2_33 3 (upd (upd (upd fk 0 (fko 0)) 1 (fko 1)) 2 (fko 2)), zArq T 3 a3_34 2 q1_37, zArq T 4 a4_35 2 q2_38, zArq T 5 a5_36 2 q3_39], [zO8 o a1_15 lno flo plo a2_16 a3_17 a4_18 a5_19], [zAr T 1 a1_15 600 fto], [zAr T 0 a2_16 3 fko], [zArq T 3 a3_17 2 q1_20], [zArq T 4 a4_18 2 q2_21], [zArq T 5 a5_19 2 q3_22], w2_49, z0_o, w2_60, wd0_o, w2_69, wg0_o, w2_76, z1_o, w2_87, wd1_o, w2_96, wg1_o] _ _ := G.re rfl
    have hw_104 : bTold T o l0o l1o d0o d1o g0o g1o lno flo plo fto fko [zO8 o a1_15 lno flo plo a2_16 a3_17 a4_18 a5_19, zAr T 1 a1_15 600 fto, zAr T 0 a2_16 3 fko, zArq T 3 a3_17 2 q1_20, zArq T 4 a4_18 2 q2_21, zArq T 5 a5_19 2 q3_22] := ⟨a1_15, a2_16, a3_17, a4_18, a5_19, q1_20, q2_21, q3_22, rfl, h_23, h_24, h_25, h_26, h_27, h_28⟩
    have G : zS T A s.heap s [[zO8 t a1_32 lno flo plo a2_33 a3_34 a4_35 a5_36, zAr T 1 a1_32 600 x9, zAr T 0 a2_33 3 (upd (upd (upd fk 0 (fko 0)) 1 (fko 1)) 2 (fko 2)), zArq T 3 a3_34 2 q1_37, zArq T 4 a4_35 2 q2_38, zArq T 5 a5_36 2 q3_39], [zO8 o a1_15 lno flo plo a2_16 a3_17 a4_18 a5_19, zAr T 1 a1_15 600 fto, zAr T 0 a2_16 3 fko, zArq T 3 a3_17 2 q1_20, zArq T 4 a4_18 2 q2_21, zArq T 5 a5_19 2 q3_22], w2_49, z0_o, w2_60, wd0_o, w2_69, wg0_o, w2_76, z1_o, w2_87, wd1_o, w2_96, wg1_o] _ _ := G.re rfl
    have G := G.sub (bs' := [[zO8 t a1_32 lno flo plo a2_33 a3_34 a4_35 a5_36, zAr T 1 a1_32 600 x9, zAr T 0 a2_33 3 (upd (upd (upd fk 0 (fko 0)) 1 (fko 1)) 2 (fko 2)), zArq T 3 a3_34 2 q1_37, zArq T 4 a4_35 2 q2_38, zArq T 5 a5_36 2 q3_39], w2_49, w2_76, w2_60, w2_87, w2_69, w2_96, [zO8 o a1_15 lno flo plo a2_16 a3_17 a4_18 a5_19, zAr T 1 a1_15 600 fto, zAr T 0 a2_16 3 fko, zArq T 3 a3_17 2 q1_20, zArq T 4 a4_18 2 q2_21, zArq T 5 a5_19 2 q3_22], z0_o, z1_o, wd0_o, wd1_o, wg0_o, wg1_o]) [0, 2, 8, 4, 10, 6, 12, 1, 3, 9, 5, 11, 7, 13] rfl
    exact z_back hQz_ (z_vret C hr hlocks G (Nat.le_of_ble_eq_true rfl) (Nat.le_of_ble_eq_true rfl) dX9_takeAll_134 ⟨([zO8 t a1_32 lno flo plo a2_33 a3_34 a4_35 a5_36, zAr T 1 a1_32 600 x9, zAr T 0 a2_33 3 (upd (upd (upd fk 0 (fko 0)) 1 (fko 1)) 2 (fko 2)), zArq T 3 a3_34 2 q1_37, zArq T 4 a4_35 2 q2_38, zArq T 5 a5_36 2 q3_39]), x9, (upd (upd (upd fk 0 (fko 0)) 1 (fko 1)) 2 (fko 2)), w2_49, g1_50, g2_51, g3_52, g4_53, w2_76, g1_77, g2_78, g3_79, g4_80, w2_60, g1_61, g2_62, g3_63, w2_87, g1_88, g2_89, g3_90, w2_69, g1_70, g2_71, w2_96, g1_97, g2_98, rfl, hw_103, (zKT_upd (zKT_upd (zKT_upd hK 0 (hKo 0 (by decide))) 1 (hKo 1 (by decide))) 2 (hKo 2 (by decide))), h_54, h_81, h_64, h_91, h_72, h_99, (zLI_eq hI0_o h_55 h_57), (zLI_eq hI1_o h_82 h_84), (hTo.elim fun zz zr => zr.elim fun z1 zr => zr.elim fun z2 zr => zr.elim fun z3 zr => zr.elim fun z4 zr => zr.elim fun z5 z6 => zz.elim fun a1 ar => ar.elim fun a2 ar => ar.elim fun a3 ar => ar.elim fun a4 a5 => ⟨⟨a1, a2, a3, (fun j hj => (show _ = fko j by rcases (show j = 0 ∨ j = 1 ∨ j = 2 by omega) with q | q | q <;> subst q <;> rfl).trans (a4 j hj)), (fun j hj => by rw [hx9 j (by omega)]; exact a5 j hj)⟩, zLnd_eq z1 (fun j hj => (hI0_o.2.1 j hj).2) h_55 h_56 h_57 h_58, zLnd_eq z2 (fun j hj => (hI1_o.2.1 j hj).2) h_82 h_83 h_84 h_85, zDyd_eq z3 h_65 h_66 h_67, zDyd_eq z4 h_92 h_93 h_94, zLgd_eq z5 h_73 h_74, zLgd_eq z6 h_100 h_101⟩)⟩)
  · have c_31n : ¬ 600 ≤ i := fun q => c_31 ((nI_leI (a := 600) (b := i) (by omega) (by omega)).mpr q)
    refine lv_aload_n hx hb dX9_takeAll_9 rfl (lv_at hl 1 rfl) ?_
    refine zEx8 ht9 ?_
    intro a1_105 a2_106 a3_107 a4_108 a5_109 q1_110 q2_111 q3_112
    refine zCu7 ?_
    intro hbs9 h_113 h_114 h_115 h_116 h_117 h_118
    clear ht9
    subst hbs9
    have G : zS T A s.heap s [[zO8 t a1_105 ln fl pl a2_106 a3_107 a4_108 a5_109], [zAr T 1 a1_105 600 x9], [zAr T 0 a2_106 3 fk], [zArq T 3 a3_107 2 q1_110], [zArq T 4 a4_108 2 q2_111], [zArq T 5 a5_109 2 q3_112], z0_, z1_, wd0_, wd1_, wg0_, wg1_, [zO8 o a1_15 lno flo plo a2_16 a3_17 a4_18 a5_19, zAr T 1 a1_15 600 fto, zAr T 0 a2_16 3 fko, zArq T 3 a3_17 2 q1_20, zArq T 4 a4_18 2 q2_21, zArq T 5 a5_19 2 q3_22], z0_o, z1_o, wd0_o, wd1_o, wg0_o, wg1_o] _ _ := G.re rfl
    refine z_get C G clX9 0 rfl 0 (by decide) m_fl_RX9_9 rfl dX9_takeAll_10 ?_
    refine lv_iload_n hx hb dX9_takeAll_13 rfl (lv_at hl 0 rfl) ?_
    refine lv_aload_n hx hb dX9_takeAll_14 rfl (lv_at hl 2 rfl) ?_
    have G : zS T A s.heap s [[zO8 t a1_105 ln fl pl a2_106 a3_107 a4_108 a5_109], [zAr T 1 a1_105 600 x9], [zAr T 0 a2_106 3 fk], [zArq T 3 a3_107 2 q1_110], [zArq T 4 a4_108 2 q2_111], [zArq T 5 a5_109 2 q3_112], z0_, z1_, wd0_, wd1_, wg0_, wg1_, [zO8 o a1_15 lno flo plo a2_16 a3_17 a4_18 a5_19], [zAr T 1 a1_15 600 fto], [zAr T 0 a2_16 3 fko], [zArq T 3 a3_17 2 q1_20], [zArq T 4 a4_18 2 q2_21], [zArq T 5 a5_19 2 q3_22], z0_o, z1_o, wd0_o, wd1_o, wg0_o, wg1_o] _ _ := G.re rfl
    refine z_get C G clX9 12 rfl 0 (by decide) m_fl_RX9_9 rfl dX9_takeAll_15 ?_
    refine lv_iload_n hx hb dX9_takeAll_18 rfl (lv_at hl 0 rfl) ?_
    refine z_bld C G 13 rfl (vp_in_nI (by omega) (by decide)) dX9_takeAll_19 ?_
    refine lv_topi (fun v_119 ev_119 => ?_)
    rw [nI_clamp (by omega)] at ev_119
    subst ev_119
    refine z_bst C G 1 rfl (vp_in_nI (by omega) (by decide)) dX9_takeAll_20 (fun H locs G => ?_)
    rw [nI_clamp (by omega)] at G
    have G : zS T A s.heap s [[zO8 t a1_105 ln fl pl a2_106 a3_107 a4_108 a5_109], [zAr T 1 a1_105 600 (upd x9 i (vp_nar .byte (fto i)))], [zAr T 0 a2_106 3 fk], [zArq T 3 a3_107 2 q1_110], [zArq T 4 a4_108 2 q2_111], [zArq T 5 a5_109 2 q3_112], z0_, z1_, wd0_, wd1_, wg0_, wg1_, [zO8 o a1_15 lno flo plo a2_16 a3_17 a4_18 a5_19], [zAr T 1 a1_15 600 fto], [zAr T 0 a2_16 3 fko], [zArq T 3 a3_17 2 q1_20], [zArq T 4 a4_18 2 q2_21], [zArq T 5 a5_19 2 q3_22], z0_o, z1_o, wd0_o, wd1_o, wg0_o, wg1_o] _ _ := G
    refine lv_iinc (v := nI (i + 1)) (lv' := [(2, .int (nI (i + 1))), (0, .ref t), (1, .ref o)]) hx hb dX9_takeAll_21 hl (k := 0) rfl (z_inc i 1) (by decide) (zLvf_h rfl) (fun ls hl => ?_)
    refine lv_goto (tgt := 2) hx hb dX9_takeAll_24 (by decide) ?_
    have hw_120 : bTold T t l0 l1 d0 d1 g0 g1 ln fl pl (upd x9 i (vp_nar .byte (fto i))) fk [zO8 t a1_105 ln fl pl a2_106 a3_107 a4_108 a5_109, zAr T 1 a1_105 600 (upd x9 i (vp_nar .byte (fto i))), zAr T 0 a2_106 3 fk, zArq T 3 a3_107 2 q1_110, zArq T 4 a4_108 2 q2_111, zArq T 5 a5_109 2 q3_112] := ⟨a1_105, a2_106, a3_107, a4_108, a5_109, q1_110, q2_111, q3_112, rfl, h_113, h_114, h_115, h_116, h_117, h_118⟩
    have G : zS T A s.heap s [[zO8 t a1_105 ln fl pl a2_106 a3_107 a4_108 a5_109, zAr T 1 a1_105 600 (upd x9 i (vp_nar .byte (fto i))), zAr T 0 a2_106 3 fk, zArq T 3 a3_107 2 q1_110, zArq T 4 a4_108 2 q2_111, zArq T 5 a5_109 2 q3_112], z0_, z1_, wd0_, wd1_, wg0_, wg1_, [zO8 o a1_15 lno flo plo a2_16 a3_17 a4_18 a5_19], [zAr T 1 a1_15 600 fto], [zAr T 0 a2_16 3 fko], [zArq T 3 a3_17 2 q1_20], [zArq T 4 a4_18 2 q2_21], [zArq T 5 a5_19 2 q3_22], z0_o, z1_o, wd0_o, wd1_o, wg0_o, wg1_o] _ _ := G.re rfl
    have hw_121 : bTold T o l0o l1o d0o d1o g0o g1o lno flo plo fto fko [zO8 o a1_15 lno flo plo a2_16 a3_17 a4_18 a5_19, zAr T 1 a1_15 600 fto, zAr T 0 a2_16 3 fko, zArq T 3 a3_17 2 q1_20, zArq T 4 a4_18 2 q2_21, zArq T 5 a5_19 2 q3_22] := ⟨a1_15, a2_16, a3_17, a4_18, a5_19, q1_20, q2_21, q3_22, rfl, h_23, h_24, h_25, h_26, h_27, h_28⟩
    have G : zS T A s.heap s [[zO8 t a1_105 ln fl pl a2_106 a3_107 a4_108 a5_109, zAr T 1 a1_105 600 (upd x9 i (vp_nar .byte (fto i))), zAr T 0 a2_106 3 fk, zArq T 3 a3_107 2 q1_110, zArq T 4 a4_108 2 q2_111, zArq T 5 a5_109 2 q3_112], z0_, z1_, wd0_, wd1_, wg0_, wg1_, [zO8 o a1_15 lno flo plo a2_16 a3_17 a4_18 a5_19, zAr T 1 a1_15 600 fto, zAr T 0 a2_16 3 fko, zArq T 3 a3_17 2 q1_20, zArq T 4 a4_18 2 q2_21, zArq T 5 a5_19 2 q3_22], z0_o, z1_o, wd0_o, wd1_o, wg0_o, wg1_o] _ _ := G.re rfl
    exact ih_2 (i + 1) ([zO8 t a1_105 ln fl pl a2_106 a3_107 a4_108 a5_109, zAr T 1 a1_105 600 (upd x9 i (vp_nar .byte (fto i))), zAr T 0 a2_106 3 fk, zArq T 3 a3_107 2 q1_110, zArq T 4 a4_108 2 q2_111, zArq T 5 a5_109 2 q3_112]) (upd x9 i (vp_nar .byte (fto i))) (show bTold T t l0 l1 d0 d1 g0 g1 ln fl pl (upd x9 i (vp_nar .byte (fto i))) fk ([zO8 t a1_105 ln fl pl a2_106 a3_107 a4_108 a5_109, zAr T 1 a1_105 600 (upd x9 i (vp_nar .byte (fto i))), zAr T 0 a2_106 3 fk, zArq T 3 a3_107 2 q1_110, zArq T 4 a4_108 2 q2_111, zArq T 5 a5_109 2 q3_112]) ∧ (i + 1) ≤ 600 ∧ (∀ j, j < (i + 1) → (upd x9 i (vp_nar .byte (fto i))) j = fto j) from ⟨hw_120, by omega, z_updE hx9 (pk_vb2 (hTo.1.2.2.2.2 i (by omega)).2)⟩) (show 600 - (i + 1) < 600 - i from by omega) _ _ ls G (lv_sub hl [0, 1, 2] rfl)
set_option maxHeartbeats 4000000 in
set_option maxRecDepth 100000 in
/-- c_f_imageN -/
theorem c_f_imageN (l : Launch) (T : zTy) (xo : Nat) (t : Nat) (im : Nat) (mk : Nat) (rd : Nat) (po : Nat) (co : Nat) (tr : Nat) (wa : Nat) (wb_ : Nat) (fi : Nat) (cd : Nat) (k_ : Int32) (hk : k_.toInt < 0 ∨ 3 ≤ k_.toInt) : zMi l T yX11_image cX11_image 2 (some .boolean) 3 0 0 [.ref xo, .int k_] [[zO10 xo t im mk rd po co tr wa wb_ fi cd]] (fun (r : Int32) bs => bs = [[zO10 xo t im mk rd po co tr wa wb_ fi cd]] ∧ r = 0) := by
  refine zMi_of (own := RX11) (by decide) rfl (Nat.le_of_ble_eq_true rfl) ?_
  intro p e s m args below meth c A ls C hr hlocks hnm hAe G hl
  refine zHide (fun Qz_ hQz_ => ?_)
  have hx := C.1
  have hb := C.2.1
  have hl : lv_has ls 2 [(0, .ref xo), (1, .int k_)] := hl
  refine lv_iload_n hx hb dX11_image_0 rfl (lv_at hl 1 rfl) ?_
  refine lv_if_lt (tgt := 9) hx hb dX11_image_1 (by decide) (fun c_1 => ?_) (fun c_1 => ?_)
  · have c_1n : k_.toInt < (0 : Int) := (fa_lt _ _).mp c_1
    refine lv_iconst (v := 0) hx hb dX11_image_9 (by decide) ?_
    exact z_back hQz_ (z_zret C hr hlocks G (Nat.le_of_ble_eq_true rfl) (Nat.le_of_ble_eq_true rfl) dX11_image_10 rfl ⟨rfl, rfl⟩)
  · have c_1n : ¬ k_.toInt < (0 : Int) := fun q => c_1 ((fa_lt _ _).mpr q)
    refine lv_iload_n hx hb dX11_image_4 rfl (lv_at hl 1 rfl) ?_
    refine lv_iconst (v := 3) hx hb dX11_image_5 (by decide) ?_
    refine lv_icmp_lt (tgt := 11) hx hb dX11_image_6 (by decide) (fun c_2 => ?_) (fun c_2 => ?_)
    · have c_2n : k_.toInt < (3 : Int) := (fa_lt _ _).mp c_2
      exact absurd (show (0 : Int) = 1 by omega) (by decide)
    · have c_2n : ¬ k_.toInt < (3 : Int) := fun q => c_2 ((fa_lt _ _).mpr q)
      refine lv_iconst (v := 0) hx hb dX11_image_9 (by decide) ?_
      exact z_back hQz_ (z_zret C hr hlocks G (Nat.le_of_ble_eq_true rfl) (Nat.le_of_ble_eq_true rfl) dX11_image_10 rfl ⟨rfl, rfl⟩)
set_option maxHeartbeats 4000000 in
set_option maxRecDepth 100000 in
/-- c_f_againN -/
theorem c_f_againN (l : Launch) (T : zTy) (xo : Nat) (t : Nat) (im : Nat) (mk : Nat) (rd : Nat) (po : Nat) (co : Nat) (tr : Nat) (wa : Nat) (wb_ : Nat) (fi : Nat) (cd : Nat) (k_ : Int32) (hk : k_.toInt < 0 ∨ 3 ≤ k_.toInt) : zMi l T yX11_again cX11_again 2 (some .boolean) 3 0 0 [.ref xo, .int k_] [[zO10 xo t im mk rd po co tr wa wb_ fi cd]] (fun (r : Int32) bs => bs = [[zO10 xo t im mk rd po co tr wa wb_ fi cd]] ∧ r = 0) := by
  refine zMi_of (own := RX11) (by decide) rfl (Nat.le_of_ble_eq_true rfl) ?_
  intro p e s m args below meth c A ls C hr hlocks hnm hAe G hl
  refine zHide (fun Qz_ hQz_ => ?_)
  have hx := C.1
  have hb := C.2.1
  have hl : lv_has ls 2 [(0, .ref xo), (1, .int k_)] := hl
  refine lv_iload_n hx hb dX11_again_0 rfl (lv_at hl 1 rfl) ?_
  refine lv_if_lt (tgt := 18) hx hb dX11_again_1 (by decide) (fun c_1 => ?_) (fun c_1 => ?_)
  · have c_1n : k_.toInt < (0 : Int) := (fa_lt _ _).mp c_1
    refine lv_iconst (v := 0) hx hb dX11_again_18 (by decide) ?_
    exact z_back hQz_ (z_zret C hr hlocks G (Nat.le_of_ble_eq_true rfl) (Nat.le_of_ble_eq_true rfl) dX11_again_19 rfl ⟨rfl, rfl⟩)
  · have c_1n : ¬ k_.toInt < (0 : Int) := fun q => c_1 ((fa_lt _ _).mpr q)
    refine lv_iload_n hx hb dX11_again_4 rfl (lv_at hl 1 rfl) ?_
    refine lv_iconst (v := 3) hx hb dX11_again_5 (by decide) ?_
    refine lv_icmp_ge (tgt := 18) hx hb dX11_again_6 (by decide) (fun c_2 => ?_) (fun c_2 => ?_)
    · have c_2n : (3 : Int) ≤ k_.toInt := (fa_le _ _).mp c_2
      refine lv_iconst (v := 0) hx hb dX11_again_18 (by decide) ?_
      exact z_back hQz_ (z_zret C hr hlocks G (Nat.le_of_ble_eq_true rfl) (Nat.le_of_ble_eq_true rfl) dX11_again_19 rfl ⟨rfl, rfl⟩)
    · have c_2n : ¬ (3 : Int) ≤ k_.toInt := fun q => c_2 ((fa_le _ _).mpr q)
      exact absurd (show (0 : Int) = 1 by omega) (by decide)
set_option maxHeartbeats 4000000 in
set_option maxRecDepth 100000 in
/-- c_f_image0 -/
theorem c_f_image0 (l : Launch) (T : zTy) (xo : Nat) (t : Nat) (im : Nat) (mk : Nat) (rd : Nat) (po : Nat) (co : Nat) (tr : Nat) (wa : Nat) (wb_ : Nat) (fi : Nat) (cd : Nat) (l0 : Nat) (l1 : Nat) (d0 : Nat) (d1 : Nat) (g0 : Nat) (g1 : Nat) (ln : Int32) (fl : Int32) (pl : Int32) (ft : Nat → Int32) (fk : Nat → Int32) (wt : va_W) (cr0_ : Int32) (inn0_ : Int32) (k10_ : Nat → Int32) (k20_ : Nat → Int32) (k30_ : Nat → Int32) (k40_ : Nat → Int32) (z0_ : va_W) (cr1_ : Int32) (inn1_ : Int32) (k11_ : Nat → Int32) (k21_ : Nat → Int32) (k31_ : Nat → Int32) (k41_ : Nat → Int32) (z1_ : va_W) (dd0_ : Int32) (p10_ : Nat → Int32) (p20_ : Nat → Int32) (p30_ : Nat → Int32) (wd0_ : va_W) (dd1_ : Int32) (p11_ : Nat → Int32) (p21_ : Nat → Int32) (p31_ : Nat → Int32) (wd1_ : va_W) (gg0_ : Int32) (q10_ : Nat → Int32) (q20_ : Nat → Int32) (wg0_ : va_W) (gg1_ : Int32) (q11_ : Nat → Int32) (q21_ : Nat → Int32) (wg1_ : va_W) (m0 : Nat) (l0a : Nat) (l1a : Nat) (d0a : Nat) (d1a : Nat) (g0a : Nat) (g1a : Nat) (lna : Int32) (fla : Int32) (pla : Int32) (fta : Nat → Int32) (fka : Nat → Int32) (wta : va_W) (cr0_a : Int32) (inn0_a : Int32) (k10_a : Nat → Int32) (k20_a : Nat → Int32) (k30_a : Nat → Int32) (k40_a : Nat → Int32) (z0_a : va_W) (cr1_a : Int32) (inn1_a : Int32) (k11_a : Nat → Int32) (k21_a : Nat → Int32) (k31_a : Nat → Int32) (k41_a : Nat → Int32) (z1_a : va_W) (dd0_a : Int32) (p10_a : Nat → Int32) (p20_a : Nat → Int32) (p30_a : Nat → Int32) (wd0_a : va_W) (dd1_a : Int32) (p11_a : Nat → Int32) (p21_a : Nat → Int32) (p31_a : Nat → Int32) (wd1_a : va_W) (gg0_a : Int32) (q10_a : Nat → Int32) (q20_a : Nat → Int32) (wg0_a : va_W) (gg1_a : Int32) (q11_a : Nat → Int32) (q21_a : Nat → Int32) (wg1_a : va_W) (m1 : Nat) (m2 : Nat) (qi : Nat → Option Nat) (fmk : Nat → Int32) (Gr : Nat → Int32) (ht : bTold T t l0 l1 d0 d1 g0 g1 ln fl pl ft fk wt) (hK : zKT fk) (hz0_ : bLand T l0 cr0_ inn0_ k10_ k20_ k30_ k40_ z0_) (hI0_ : zLI cr0_ k10_ k30_) (hz1_ : bLand T l1 cr1_ inn1_ k11_ k21_ k31_ k41_ z1_) (hI1_ : zLI cr1_ k11_ k31_) (hd0_ : bDay T d0 dd0_ p10_ p20_ p30_ wd0_) (hd1_ : bDay T d1 dd1_ p11_ p21_ p31_ wd1_) (hg0_ : bLog T g0 gg0_ q10_ q20_ wg0_) (hg1_ : bLog T g1 gg1_ q11_ q21_ wg1_) (hta : bTold T m0 l0a l1a d0a d1a g0a g1a lna fla pla fta fka wta) (hKa : zKT fka) (hz0_a : bLand T l0a cr0_a inn0_a k10_a k20_a k30_a k40_a z0_a) (hI0_a : zLI cr0_a k10_a k30_a) (hz1_a : bLand T l1a cr1_a inn1_a k11_a k21_a k31_a k41_a z1_a) (hI1_a : zLI cr1_a k11_a k31_a) (hd0_a : bDay T d0a dd0_a p10_a p20_a p30_a wd0_a) (hd1_a : bDay T d1a dd1_a p11_a p21_a p31_a wd1_a) (hg0_a : bLog T g0a gg0_a q10_a q20_a wg0_a) (hg1_a : bLog T g1a gg1_a q11_a q21_a wg1_a) (hm0 : qi 0 = some m0) (hm1 : qi 1 = some m1) (hm2 : qi 2 = some m2) (hT : zTR ln fl pl ft fk cr0_ inn0_ k10_ k20_ k30_ k40_ cr1_ inn1_ k11_ k21_ k31_ k41_ dd0_ p10_ p20_ p30_ dd1_ p11_ p21_ p31_ gg0_ q10_ q20_ gg1_ q11_ q21_ Gr) : zMi l T yX11_image cX11_image 2 (some .boolean) 3 0 0 [.ref xo, .int 0] [[zO10 xo t im mk rd po co tr wa wb_ fi cd], wt, z0_, z1_, wd0_, wd1_, wg0_, wg1_, wta, z0_a, z1_a, wd0_a, wd1_a, wg0_a, wg1_a, [zArq T 6 im 3 qi], [zAr T 2 mk 3 fmk]] (fun (r : Int32) bs => ∃ (lna_2 : Int32) (fla_2 : Int32) (pla_2 : Int32) (fta_2 : Nat → Int32) (fka_2 : Nat → Int32) (wta_2 : va_W) (cr0_a_2 : Int32) (inn0_a_2 : Int32) (k10_a_2 : Nat → Int32) (k20_a_2 : Nat → Int32) (k30_a_2 : Nat → Int32) (k40_a_2 : Nat → Int32) (z0_a_2 : va_W) (cr1_a_2 : Int32) (inn1_a_2 : Int32) (k11_a_2 : Nat → Int32) (k21_a_2 : Nat → Int32) (k31_a_2 : Nat → Int32) (k41_a_2 : Nat → Int32) (z1_a_2 : va_W) (dd0_a_2 : Int32) (p10_a_2 : Nat → Int32) (p20_a_2 : Nat → Int32) (p30_a_2 : Nat → Int32) (wd0_a_2 : va_W) (dd1_a_2 : Int32) (p11_a_2 : Nat → Int32) (p21_a_2 : Nat → Int32) (p31_a_2 : Nat → Int32) (wd1_a_2 : va_W) (gg0_a_2 : Int32) (q10_a_2 : Nat → Int32) (q20_a_2 : Nat → Int32) (wg0_a_2 : va_W) (gg1_a_2 : Int32) (q11_a_2 : Nat → Int32) (q21_a_2 : Nat → Int32) (wg1_a_2 : va_W) (fmk_2 : Nat → Int32), bs = [[zO10 xo t im mk rd po co tr wa wb_ fi cd], wt, z0_, z1_, wd0_, wd1_, wg0_, wg1_, wta_2, z0_a_2, z1_a_2, wd0_a_2, wd1_a_2, wg0_a_2, wg1_a_2, [zArq T 6 im 3 qi], [zAr T 2 mk 3 fmk_2]] ∧ bTold T m0 l0a l1a d0a d1a g0a g1a lna_2 fla_2 pla_2 fta_2 fka_2 wta_2 ∧ zKT fka_2 ∧ bLand T l0a cr0_a_2 inn0_a_2 k10_a_2 k20_a_2 k30_a_2 k40_a_2 z0_a_2 ∧ zLI cr0_a_2 k10_a_2 k30_a_2 ∧ bLand T l1a cr1_a_2 inn1_a_2 k11_a_2 k21_a_2 k31_a_2 k41_a_2 z1_a_2 ∧ zLI cr1_a_2 k11_a_2 k31_a_2 ∧ bDay T d0a dd0_a_2 p10_a_2 p20_a_2 p30_a_2 wd0_a_2 ∧ bDay T d1a dd1_a_2 p11_a_2 p21_a_2 p31_a_2 wd1_a_2 ∧ bLog T g0a gg0_a_2 q10_a_2 q20_a_2 wg0_a_2 ∧ bLog T g1a gg1_a_2 q11_a_2 q21_a_2 wg1_a_2 ∧ r = 1 ∧ fmk_2 = upd fmk 0 1 ∧ zTR lna_2 fla_2 pla_2 fta_2 fka_2 cr0_a_2 inn0_a_2 k10_a_2 k20_a_2 k30_a_2 k40_a_2 cr1_a_2 inn1_a_2 k11_a_2 k21_a_2 k31_a_2 k41_a_2 dd0_a_2 p10_a_2 p20_a_2 p30_a_2 dd1_a_2 p11_a_2 p21_a_2 p31_a_2 gg0_a_2 q10_a_2 q20_a_2 gg1_a_2 q11_a_2 q21_a_2 Gr) := by
  refine zMi_of (own := RX11) (by decide) rfl (Nat.le_of_ble_eq_true rfl) ?_
  intro p e s m args below meth c A ls C hr hlocks hnm hAe G hl
  refine zHide (fun Qz_ hQz_ => ?_)
  have hx := C.1
  have hb := C.2.1
  have hl : lv_has ls 2 [(0, .ref xo), (1, .int 0)] := hl
  refine lv_iload_n hx hb dX11_image_0 rfl (lv_at hl 1 rfl) ?_
  refine lv_if_lt (tgt := 9) hx hb dX11_image_1 (by decide) (fun q => absurd q (by decide)) (fun _ => ?_)
  refine lv_iload_n hx hb dX11_image_4 rfl (lv_at hl 1 rfl) ?_
  refine lv_iconst (v := 3) hx hb dX11_image_5 (by decide) ?_
  refine lv_icmp_lt (tgt := 11) hx hb dX11_image_6 (by decide) (fun _ => ?_) (fun q => absurd (by decide) q)
  refine lv_aload_n hx hb dX11_image_11 rfl (lv_at hl 0 rfl) ?_
  refine z_get C G clX11 0 rfl 1 (by decide) m_fl_RX11_16 rfl dX11_image_12 ?_
  refine lv_iload_n hx hb dX11_image_15 rfl (lv_at hl 1 rfl) ?_
  refine z_ald C G 15 6 rfl rfl (vp_in_nI (n := 0) (by decide) (by decide)) dX11_image_16 ?_
  rw [show qi ((0 : Int32).toNatClampNeg) = some m0 from hm0]
  refine lv_aload_n hx hb dX11_image_17 rfl (lv_at hl 0 rfl) ?_
  refine z_get C G clX11 0 rfl 0 (by decide) m_fl_RX11_10 rfl dX11_image_18 ?_
  refine z_Vv (bc := [wta, z0_a, z1_a, wd0_a, wd1_a, wg0_a, wg1_a, wt, z0_, z1_, wd0_, wd1_, wg0_, wg1_]) (br := [[zO10 xo t im mk rd po co tr wa wb_ fi cd], [zArq T 6 im 3 qi], [zAr T 2 mk 3 fmk]]) (As := [.ref t]) (rest := []) C G (c_f_Told_takeAll l T m0 l0a l1a d0a d1a g0a g1a lna fla pla fta fka wta cr0_a inn0_a k10_a k20_a k30_a k40_a z0_a cr1_a inn1_a k11_a k21_a k31_a k41_a z1_a dd0_a p10_a p20_a p30_a wd0_a dd1_a p11_a p21_a p31_a wd1_a gg0_a q10_a q20_a wg0_a gg1_a q11_a q21_a wg1_a t l0 l1 d0 d1 g0 g1 ln fl pl ft fk wt cr0_ inn0_ k10_ k20_ k30_ k40_ z0_ cr1_ inn1_ k11_ k21_ k31_ k41_ z1_ dd0_ p10_ p20_ p30_ wd0_ dd1_ p11_ p21_ p31_ wd1_ gg0_ q10_ q20_ wg0_ gg1_ q11_ q21_ wg1_ Gr hta (by first | with_reducible assumption | with_reducible rfl | omega | assumption | rfl) hz0_a (by first | with_reducible assumption | with_reducible rfl | omega | assumption | rfl) hz1_a (by first | with_reducible assumption | with_reducible rfl | omega | assumption | rfl) hd0_a hd1_a hg0_a hg1_a ht (by first | with_reducible assumption | with_reducible rfl | omega | assumption | rfl) hz0_ (by first | with_reducible assumption | with_reducible rfl | omega | assumption | rfl) hz1_ (by first | with_reducible assumption | with_reducible rfl | omega | assumption | rfl) hd0_ hd1_ hg0_ hg1_ hT) (kV_RX11_117 C.2.2.2.2 (Nat.le_of_ble_eq_true rfl) (Nat.le_of_ble_eq_true rfl)) [8, 9, 10, 11, 12, 13, 14, 1, 2, 3, 4, 5, 6, 7] [1, 0, 0, 0, 0, 0, 0, 0, 0, 0, 0, 0, 0, 0] rfl rfl (ci := 8) (qc := (RX9, TX9, 8)) rfl rfl (List.mem_flatten.mpr ⟨_, List.mem_of_getElem? (i := 0) rfl, (bTold_mem hta).choose_spec⟩) rfl rfl hl.1 dX11_image_21 (Nat.le_of_ble_eq_true rfl) (Nat.le_of_ble_eq_true rfl) (fun b1 H locs hw G => ?_)
  refine zEx27 hw ?_
  intro wt2_1 g9_2 fk2_3 w2_4 s0_5 s0_6 s0_7 s0_8 w2_9 s1_10 s1_11 s1_12 s1_13 w2_14 s2_15 s2_16 s2_17 w2_18 s3_19 s3_20 s3_21 w2_22 s4_23 s4_24 w2_25 s5_26 s5_27
  refine zCu12 ?_
  intro hbs9 h_28 h_29 h_30 h_31 h_32 h_33 h_34 h_35 h_36 h_37 h_38
  clear hw
  subst hbs9
  have G : zS T A s.heap s [[zO10 xo t im mk rd po co tr wa wb_ fi cd], [zArq T 6 im 3 qi], [zAr T 2 mk 3 fmk], wt2_1, w2_4, w2_9, w2_14, w2_18, w2_22, w2_25, wt, z0_, z1_, wd0_, wd1_, wg0_, wg1_] _ _ := G
  refine lv_aload_n hx hb dX11_image_24 rfl (lv_at hl 0 rfl) ?_
  refine z_get C G clX11 0 rfl 2 (by decide) m_fl_RX11_20 rfl dX11_image_25 ?_
  refine lv_iload_n hx hb dX11_image_28 rfl (lv_at hl 1 rfl) ?_
  refine lv_iconst (v := 1) hx hb dX11_image_29 (by decide) ?_
  refine z_zst C G 2 rfl (vp_in_nI (n := 0) (by decide) (by decide)) dX11_image_30 (fun H locs G => ?_)
  have G : zS T A s.heap s [[zO10 xo t im mk rd po co tr wa wb_ fi cd], [zArq T 6 im 3 qi], [zAr T 2 mk 3 (upd fmk 0 (vp_nar .boolean 1))], wt2_1, w2_4, w2_9, w2_14, w2_18, w2_22, w2_25, wt, z0_, z1_, wd0_, wd1_, wg0_, wg1_] _ _ := G
  refine lv_iconst (v := 1) hx hb dX11_image_31 (by decide) ?_
  have G := G.sub (bs' := [[zO10 xo t im mk rd po co tr wa wb_ fi cd], wt, z0_, z1_, wd0_, wd1_, wg0_, wg1_, wt2_1, w2_4, w2_9, w2_14, w2_18, w2_22, w2_25, [zArq T 6 im 3 qi], [zAr T 2 mk 3 (upd fmk 0 (vp_nar .boolean 1))]]) [0, 10, 11, 12, 13, 14, 15, 16, 3, 4, 5, 6, 7, 8, 9, 1, 2] rfl
  exact z_back hQz_ (z_zret C hr hlocks G (Nat.le_of_ble_eq_true rfl) (Nat.le_of_ble_eq_true rfl) dX11_image_32 rfl ⟨ln, fl, pl, g9_2, fk2_3, wt2_1, cr0_, inn0_, s0_5, s0_6, s0_7, s0_8, w2_4, cr1_, inn1_, s1_10, s1_11, s1_12, s1_13, w2_9, dd0_, s2_15, s2_16, s2_17, w2_14, dd1_, s3_19, s3_20, s3_21, w2_18, gg0_, s4_23, s4_24, w2_22, gg1_, s5_26, s5_27, w2_25, (upd fmk 0 (vp_nar .boolean 1)), rfl, h_28, (by first | with_reducible assumption | omega | trivial | assumption), h_30, (by first | with_reducible assumption | omega | trivial | assumption), h_31, (by first | with_reducible assumption | omega | trivial | assumption), h_32, h_33, h_34, h_35, rfl, rfl, h_38⟩)
set_option maxHeartbeats 4000000 in
set_option maxRecDepth 100000 in
/-- c_f_image1 -/
theorem c_f_image1 (l : Launch) (T : zTy) (xo : Nat) (t : Nat) (im : Nat) (mk : Nat) (rd : Nat) (po : Nat) (co : Nat) (tr : Nat) (wa : Nat) (wb_ : Nat) (fi : Nat) (cd : Nat) (l0 : Nat) (l1 : Nat) (d0 : Nat) (d1 : Nat) (g0 : Nat) (g1 : Nat) (ln : Int32) (fl : Int32) (pl : Int32) (ft : Nat → Int32) (fk : Nat → Int32) (wt : va_W) (cr0_ : Int32) (inn0_ : Int32) (k10_ : Nat → Int32) (k20_ : Nat → Int32) (k30_ : Nat → Int32) (k40_ : Nat → Int32) (z0_ : va_W) (cr1_ : Int32) (inn1_ : Int32) (k11_ : Nat → Int32) (k21_ : Nat → Int32) (k31_ : Nat → Int32) (k41_ : Nat → Int32) (z1_ : va_W) (dd0_ : Int32) (p10_ : Nat → Int32) (p20_ : Nat → Int32) (p30_ : Nat → Int32) (wd0_ : va_W) (dd1_ : Int32) (p11_ : Nat → Int32) (p21_ : Nat → Int32) (p31_ : Nat → Int32) (wd1_ : va_W) (gg0_ : Int32) (q10_ : Nat → Int32) (q20_ : Nat → Int32) (wg0_ : va_W) (gg1_ : Int32) (q11_ : Nat → Int32) (q21_ : Nat → Int32) (wg1_ : va_W) (m0 : Nat) (m1 : Nat) (l0b : Nat) (l1b : Nat) (d0b : Nat) (d1b : Nat) (g0b : Nat) (g1b : Nat) (lnb : Int32) (flb : Int32) (plb : Int32) (ftb : Nat → Int32) (fkb : Nat → Int32) (wtb : va_W) (cr0_b : Int32) (inn0_b : Int32) (k10_b : Nat → Int32) (k20_b : Nat → Int32) (k30_b : Nat → Int32) (k40_b : Nat → Int32) (z0_b : va_W) (cr1_b : Int32) (inn1_b : Int32) (k11_b : Nat → Int32) (k21_b : Nat → Int32) (k31_b : Nat → Int32) (k41_b : Nat → Int32) (z1_b : va_W) (dd0_b : Int32) (p10_b : Nat → Int32) (p20_b : Nat → Int32) (p30_b : Nat → Int32) (wd0_b : va_W) (dd1_b : Int32) (p11_b : Nat → Int32) (p21_b : Nat → Int32) (p31_b : Nat → Int32) (wd1_b : va_W) (gg0_b : Int32) (q10_b : Nat → Int32) (q20_b : Nat → Int32) (wg0_b : va_W) (gg1_b : Int32) (q11_b : Nat → Int32) (q21_b : Nat → Int32) (wg1_b : va_W) (m2 : Nat) (qi : Nat → Option Nat) (fmk : Nat → Int32) (Gr : Nat → Int32) (ht : bTold T t l0 l1 d0 d1 g0 g1 ln fl pl ft fk wt) (hK : zKT fk) (hz0_ : bLand T l0 cr0_ inn0_ k10_ k20_ k30_ k40_ z0_) (hI0_ : zLI cr0_ k10_ k30_) (hz1_ : bLand T l1 cr1_ inn1_ k11_ k21_ k31_ k41_ z1_) (hI1_ : zLI cr1_ k11_ k31_) (hd0_ : bDay T d0 dd0_ p10_ p20_ p30_ wd0_) (hd1_ : bDay T d1 dd1_ p11_ p21_ p31_ wd1_) (hg0_ : bLog T g0 gg0_ q10_ q20_ wg0_) (hg1_ : bLog T g1 gg1_ q11_ q21_ wg1_) (htb : bTold T m1 l0b l1b d0b d1b g0b g1b lnb flb plb ftb fkb wtb) (hKb : zKT fkb) (hz0_b : bLand T l0b cr0_b inn0_b k10_b k20_b k30_b k40_b z0_b) (hI0_b : zLI cr0_b k10_b k30_b) (hz1_b : bLand T l1b cr1_b inn1_b k11_b k21_b k31_b k41_b z1_b) (hI1_b : zLI cr1_b k11_b k31_b) (hd0_b : bDay T d0b dd0_b p10_b p20_b p30_b wd0_b) (hd1_b : bDay T d1b dd1_b p11_b p21_b p31_b wd1_b) (hg0_b : bLog T g0b gg0_b q10_b q20_b wg0_b) (hg1_b : bLog T g1b gg1_b q11_b q21_b wg1_b) (hm0 : qi 0 = some m0) (hm1 : qi 1 = some m1) (hm2 : qi 2 = some m2) (hT : zTR ln fl pl ft fk cr0_ inn0_ k10_ k20_ k30_ k40_ cr1_ inn1_ k11_ k21_ k31_ k41_ dd0_ p10_ p20_ p30_ dd1_ p11_ p21_ p31_ gg0_ q10_ q20_ gg1_ q11_ q21_ Gr) : zMi l T yX11_image cX11_image 2 (some .boolean) 3 0 0 [.ref xo, .int 1] [[zO10 xo t im mk rd po co tr wa wb_ fi cd], wt, z0_, z1_, wd0_, wd1_, wg0_, wg1_, wtb, z0_b, z1_b, wd0_b, wd1_b, wg0_b, wg1_b, [zArq T 6 im 3 qi], [zAr T 2 mk 3 fmk]] (fun (r : Int32) bs => ∃ (lnb_2 : Int32) (flb_2 : Int32) (plb_2 : Int32) (ftb_2 : Nat → Int32) (fkb_2 : Nat → Int32) (wtb_2 : va_W) (cr0_b_2 : Int32) (inn0_b_2 : Int32) (k10_b_2 : Nat → Int32) (k20_b_2 : Nat → Int32) (k30_b_2 : Nat → Int32) (k40_b_2 : Nat → Int32) (z0_b_2 : va_W) (cr1_b_2 : Int32) (inn1_b_2 : Int32) (k11_b_2 : Nat → Int32) (k21_b_2 : Nat → Int32) (k31_b_2 : Nat → Int32) (k41_b_2 : Nat → Int32) (z1_b_2 : va_W) (dd0_b_2 : Int32) (p10_b_2 : Nat → Int32) (p20_b_2 : Nat → Int32) (p30_b_2 : Nat → Int32) (wd0_b_2 : va_W) (dd1_b_2 : Int32) (p11_b_2 : Nat → Int32) (p21_b_2 : Nat → Int32) (p31_b_2 : Nat → Int32) (wd1_b_2 : va_W) (gg0_b_2 : Int32) (q10_b_2 : Nat → Int32) (q20_b_2 : Nat → Int32) (wg0_b_2 : va_W) (gg1_b_2 : Int32) (q11_b_2 : Nat → Int32) (q21_b_2 : Nat → Int32) (wg1_b_2 : va_W) (fmk_2 : Nat → Int32), bs = [[zO10 xo t im mk rd po co tr wa wb_ fi cd], wt, z0_, z1_, wd0_, wd1_, wg0_, wg1_, wtb_2, z0_b_2, z1_b_2, wd0_b_2, wd1_b_2, wg0_b_2, wg1_b_2, [zArq T 6 im 3 qi], [zAr T 2 mk 3 fmk_2]] ∧ bTold T m1 l0b l1b d0b d1b g0b g1b lnb_2 flb_2 plb_2 ftb_2 fkb_2 wtb_2 ∧ zKT fkb_2 ∧ bLand T l0b cr0_b_2 inn0_b_2 k10_b_2 k20_b_2 k30_b_2 k40_b_2 z0_b_2 ∧ zLI cr0_b_2 k10_b_2 k30_b_2 ∧ bLand T l1b cr1_b_2 inn1_b_2 k11_b_2 k21_b_2 k31_b_2 k41_b_2 z1_b_2 ∧ zLI cr1_b_2 k11_b_2 k31_b_2 ∧ bDay T d0b dd0_b_2 p10_b_2 p20_b_2 p30_b_2 wd0_b_2 ∧ bDay T d1b dd1_b_2 p11_b_2 p21_b_2 p31_b_2 wd1_b_2 ∧ bLog T g0b gg0_b_2 q10_b_2 q20_b_2 wg0_b_2 ∧ bLog T g1b gg1_b_2 q11_b_2 q21_b_2 wg1_b_2 ∧ r = 1 ∧ fmk_2 = upd fmk 1 1 ∧ zTR lnb_2 flb_2 plb_2 ftb_2 fkb_2 cr0_b_2 inn0_b_2 k10_b_2 k20_b_2 k30_b_2 k40_b_2 cr1_b_2 inn1_b_2 k11_b_2 k21_b_2 k31_b_2 k41_b_2 dd0_b_2 p10_b_2 p20_b_2 p30_b_2 dd1_b_2 p11_b_2 p21_b_2 p31_b_2 gg0_b_2 q10_b_2 q20_b_2 gg1_b_2 q11_b_2 q21_b_2 Gr) := by
  refine zMi_of (own := RX11) (by decide) rfl (Nat.le_of_ble_eq_true rfl) ?_
  intro p e s m args below meth c A ls C hr hlocks hnm hAe G hl
  refine zHide (fun Qz_ hQz_ => ?_)
  have hx := C.1
  have hb := C.2.1
  have hl : lv_has ls 2 [(0, .ref xo), (1, .int 1)] := hl
  refine lv_iload_n hx hb dX11_image_0 rfl (lv_at hl 1 rfl) ?_
  refine lv_if_lt (tgt := 9) hx hb dX11_image_1 (by decide) (fun q => absurd q (by decide)) (fun _ => ?_)
  refine lv_iload_n hx hb dX11_image_4 rfl (lv_at hl 1 rfl) ?_
  refine lv_iconst (v := 3) hx hb dX11_image_5 (by decide) ?_
  refine lv_icmp_lt (tgt := 11) hx hb dX11_image_6 (by decide) (fun _ => ?_) (fun q => absurd (by decide) q)
  refine lv_aload_n hx hb dX11_image_11 rfl (lv_at hl 0 rfl) ?_
  refine z_get C G clX11 0 rfl 1 (by decide) m_fl_RX11_16 rfl dX11_image_12 ?_
  refine lv_iload_n hx hb dX11_image_15 rfl (lv_at hl 1 rfl) ?_
  refine z_ald C G 15 6 rfl rfl (vp_in_nI (n := 1) (by decide) (by decide)) dX11_image_16 ?_
  rw [show qi ((1 : Int32).toNatClampNeg) = some m1 from hm1]
  refine lv_aload_n hx hb dX11_image_17 rfl (lv_at hl 0 rfl) ?_
  refine z_get C G clX11 0 rfl 0 (by decide) m_fl_RX11_10 rfl dX11_image_18 ?_
  refine z_Vv (bc := [wtb, z0_b, z1_b, wd0_b, wd1_b, wg0_b, wg1_b, wt, z0_, z1_, wd0_, wd1_, wg0_, wg1_]) (br := [[zO10 xo t im mk rd po co tr wa wb_ fi cd], [zArq T 6 im 3 qi], [zAr T 2 mk 3 fmk]]) (As := [.ref t]) (rest := []) C G (c_f_Told_takeAll l T m1 l0b l1b d0b d1b g0b g1b lnb flb plb ftb fkb wtb cr0_b inn0_b k10_b k20_b k30_b k40_b z0_b cr1_b inn1_b k11_b k21_b k31_b k41_b z1_b dd0_b p10_b p20_b p30_b wd0_b dd1_b p11_b p21_b p31_b wd1_b gg0_b q10_b q20_b wg0_b gg1_b q11_b q21_b wg1_b t l0 l1 d0 d1 g0 g1 ln fl pl ft fk wt cr0_ inn0_ k10_ k20_ k30_ k40_ z0_ cr1_ inn1_ k11_ k21_ k31_ k41_ z1_ dd0_ p10_ p20_ p30_ wd0_ dd1_ p11_ p21_ p31_ wd1_ gg0_ q10_ q20_ wg0_ gg1_ q11_ q21_ wg1_ Gr htb (by first | with_reducible assumption | with_reducible rfl | omega | assumption | rfl) hz0_b (by first | with_reducible assumption | with_reducible rfl | omega | assumption | rfl) hz1_b (by first | with_reducible assumption | with_reducible rfl | omega | assumption | rfl) hd0_b hd1_b hg0_b hg1_b ht (by first | with_reducible assumption | with_reducible rfl | omega | assumption | rfl) hz0_ (by first | with_reducible assumption | with_reducible rfl | omega | assumption | rfl) hz1_ (by first | with_reducible assumption | with_reducible rfl | omega | assumption | rfl) hd0_ hd1_ hg0_ hg1_ hT) (kV_RX11_117 C.2.2.2.2 (Nat.le_of_ble_eq_true rfl) (Nat.le_of_ble_eq_true rfl)) [8, 9, 10, 11, 12, 13, 14, 1, 2, 3, 4, 5, 6, 7] [1, 0, 0, 0, 0, 0, 0, 0, 0, 0, 0, 0, 0, 0] rfl rfl (ci := 8) (qc := (RX9, TX9, 8)) rfl rfl (List.mem_flatten.mpr ⟨_, List.mem_of_getElem? (i := 0) rfl, (bTold_mem htb).choose_spec⟩) rfl rfl hl.1 dX11_image_21 (Nat.le_of_ble_eq_true rfl) (Nat.le_of_ble_eq_true rfl) (fun b1 H locs hw G => ?_)
  refine zEx27 hw ?_
  intro wt2_1 g9_2 fk2_3 w2_4 s0_5 s0_6 s0_7 s0_8 w2_9 s1_10 s1_11 s1_12 s1_13 w2_14 s2_15 s2_16 s2_17 w2_18 s3_19 s3_20 s3_21 w2_22 s4_23 s4_24 w2_25 s5_26 s5_27
  refine zCu12 ?_
  intro hbs9 h_28 h_29 h_30 h_31 h_32 h_33 h_34 h_35 h_36 h_37 h_38
  clear hw
  subst hbs9
  have G : zS T A s.heap s [[zO10 xo t im mk rd po co tr wa wb_ fi cd], [zArq T 6 im 3 qi], [zAr T 2 mk 3 fmk], wt2_1, w2_4, w2_9, w2_14, w2_18, w2_22, w2_25, wt, z0_, z1_, wd0_, wd1_, wg0_, wg1_] _ _ := G
  refine lv_aload_n hx hb dX11_image_24 rfl (lv_at hl 0 rfl) ?_
  refine z_get C G clX11 0 rfl 2 (by decide) m_fl_RX11_20 rfl dX11_image_25 ?_
  refine lv_iload_n hx hb dX11_image_28 rfl (lv_at hl 1 rfl) ?_
  refine lv_iconst (v := 1) hx hb dX11_image_29 (by decide) ?_
  refine z_zst C G 2 rfl (vp_in_nI (n := 1) (by decide) (by decide)) dX11_image_30 (fun H locs G => ?_)
  have G : zS T A s.heap s [[zO10 xo t im mk rd po co tr wa wb_ fi cd], [zArq T 6 im 3 qi], [zAr T 2 mk 3 (upd fmk 1 (vp_nar .boolean 1))], wt2_1, w2_4, w2_9, w2_14, w2_18, w2_22, w2_25, wt, z0_, z1_, wd0_, wd1_, wg0_, wg1_] _ _ := G
  refine lv_iconst (v := 1) hx hb dX11_image_31 (by decide) ?_
  have G := G.sub (bs' := [[zO10 xo t im mk rd po co tr wa wb_ fi cd], wt, z0_, z1_, wd0_, wd1_, wg0_, wg1_, wt2_1, w2_4, w2_9, w2_14, w2_18, w2_22, w2_25, [zArq T 6 im 3 qi], [zAr T 2 mk 3 (upd fmk 1 (vp_nar .boolean 1))]]) [0, 10, 11, 12, 13, 14, 15, 16, 3, 4, 5, 6, 7, 8, 9, 1, 2] rfl
  exact z_back hQz_ (z_zret C hr hlocks G (Nat.le_of_ble_eq_true rfl) (Nat.le_of_ble_eq_true rfl) dX11_image_32 rfl ⟨ln, fl, pl, g9_2, fk2_3, wt2_1, cr0_, inn0_, s0_5, s0_6, s0_7, s0_8, w2_4, cr1_, inn1_, s1_10, s1_11, s1_12, s1_13, w2_9, dd0_, s2_15, s2_16, s2_17, w2_14, dd1_, s3_19, s3_20, s3_21, w2_18, gg0_, s4_23, s4_24, w2_22, gg1_, s5_26, s5_27, w2_25, (upd fmk 1 (vp_nar .boolean 1)), rfl, h_28, (by first | with_reducible assumption | omega | trivial | assumption), h_30, (by first | with_reducible assumption | omega | trivial | assumption), h_31, (by first | with_reducible assumption | omega | trivial | assumption), h_32, h_33, h_34, h_35, rfl, rfl, h_38⟩)
set_option maxHeartbeats 4000000 in
set_option maxRecDepth 100000 in
/-- c_f_image2 -/
theorem c_f_image2 (l : Launch) (T : zTy) (xo : Nat) (t : Nat) (im : Nat) (mk : Nat) (rd : Nat) (po : Nat) (co : Nat) (tr : Nat) (wa : Nat) (wb_ : Nat) (fi : Nat) (cd : Nat) (l0 : Nat) (l1 : Nat) (d0 : Nat) (d1 : Nat) (g0 : Nat) (g1 : Nat) (ln : Int32) (fl : Int32) (pl : Int32) (ft : Nat → Int32) (fk : Nat → Int32) (wt : va_W) (cr0_ : Int32) (inn0_ : Int32) (k10_ : Nat → Int32) (k20_ : Nat → Int32) (k30_ : Nat → Int32) (k40_ : Nat → Int32) (z0_ : va_W) (cr1_ : Int32) (inn1_ : Int32) (k11_ : Nat → Int32) (k21_ : Nat → Int32) (k31_ : Nat → Int32) (k41_ : Nat → Int32) (z1_ : va_W) (dd0_ : Int32) (p10_ : Nat → Int32) (p20_ : Nat → Int32) (p30_ : Nat → Int32) (wd0_ : va_W) (dd1_ : Int32) (p11_ : Nat → Int32) (p21_ : Nat → Int32) (p31_ : Nat → Int32) (wd1_ : va_W) (gg0_ : Int32) (q10_ : Nat → Int32) (q20_ : Nat → Int32) (wg0_ : va_W) (gg1_ : Int32) (q11_ : Nat → Int32) (q21_ : Nat → Int32) (wg1_ : va_W) (m0 : Nat) (m1 : Nat) (m2 : Nat) (l0c : Nat) (l1c : Nat) (d0c : Nat) (d1c : Nat) (g0c : Nat) (g1c : Nat) (lnc : Int32) (flc : Int32) (plc : Int32) (ftc : Nat → Int32) (fkc : Nat → Int32) (wtc : va_W) (cr0_c : Int32) (inn0_c : Int32) (k10_c : Nat → Int32) (k20_c : Nat → Int32) (k30_c : Nat → Int32) (k40_c : Nat → Int32) (z0_c : va_W) (cr1_c : Int32) (inn1_c : Int32) (k11_c : Nat → Int32) (k21_c : Nat → Int32) (k31_c : Nat → Int32) (k41_c : Nat → Int32) (z1_c : va_W) (dd0_c : Int32) (p10_c : Nat → Int32) (p20_c : Nat → Int32) (p30_c : Nat → Int32) (wd0_c : va_W) (dd1_c : Int32) (p11_c : Nat → Int32) (p21_c : Nat → Int32) (p31_c : Nat → Int32) (wd1_c : va_W) (gg0_c : Int32) (q10_c : Nat → Int32) (q20_c : Nat → Int32) (wg0_c : va_W) (gg1_c : Int32) (q11_c : Nat → Int32) (q21_c : Nat → Int32) (wg1_c : va_W) (qi : Nat → Option Nat) (fmk : Nat → Int32) (Gr : Nat → Int32) (ht : bTold T t l0 l1 d0 d1 g0 g1 ln fl pl ft fk wt) (hK : zKT fk) (hz0_ : bLand T l0 cr0_ inn0_ k10_ k20_ k30_ k40_ z0_) (hI0_ : zLI cr0_ k10_ k30_) (hz1_ : bLand T l1 cr1_ inn1_ k11_ k21_ k31_ k41_ z1_) (hI1_ : zLI cr1_ k11_ k31_) (hd0_ : bDay T d0 dd0_ p10_ p20_ p30_ wd0_) (hd1_ : bDay T d1 dd1_ p11_ p21_ p31_ wd1_) (hg0_ : bLog T g0 gg0_ q10_ q20_ wg0_) (hg1_ : bLog T g1 gg1_ q11_ q21_ wg1_) (htc : bTold T m2 l0c l1c d0c d1c g0c g1c lnc flc plc ftc fkc wtc) (hKc : zKT fkc) (hz0_c : bLand T l0c cr0_c inn0_c k10_c k20_c k30_c k40_c z0_c) (hI0_c : zLI cr0_c k10_c k30_c) (hz1_c : bLand T l1c cr1_c inn1_c k11_c k21_c k31_c k41_c z1_c) (hI1_c : zLI cr1_c k11_c k31_c) (hd0_c : bDay T d0c dd0_c p10_c p20_c p30_c wd0_c) (hd1_c : bDay T d1c dd1_c p11_c p21_c p31_c wd1_c) (hg0_c : bLog T g0c gg0_c q10_c q20_c wg0_c) (hg1_c : bLog T g1c gg1_c q11_c q21_c wg1_c) (hm0 : qi 0 = some m0) (hm1 : qi 1 = some m1) (hm2 : qi 2 = some m2) (hT : zTR ln fl pl ft fk cr0_ inn0_ k10_ k20_ k30_ k40_ cr1_ inn1_ k11_ k21_ k31_ k41_ dd0_ p10_ p20_ p30_ dd1_ p11_ p21_ p31_ gg0_ q10_ q20_ gg1_ q11_ q21_ Gr) : zMi l T yX11_image cX11_image 2 (some .boolean) 3 0 0 [.ref xo, .int 2] [[zO10 xo t im mk rd po co tr wa wb_ fi cd], wt, z0_, z1_, wd0_, wd1_, wg0_, wg1_, wtc, z0_c, z1_c, wd0_c, wd1_c, wg0_c, wg1_c, [zArq T 6 im 3 qi], [zAr T 2 mk 3 fmk]] (fun (r : Int32) bs => ∃ (lnc_2 : Int32) (flc_2 : Int32) (plc_2 : Int32) (ftc_2 : Nat → Int32) (fkc_2 : Nat → Int32) (wtc_2 : va_W) (cr0_c_2 : Int32) (inn0_c_2 : Int32) (k10_c_2 : Nat → Int32) (k20_c_2 : Nat → Int32) (k30_c_2 : Nat → Int32) (k40_c_2 : Nat → Int32) (z0_c_2 : va_W) (cr1_c_2 : Int32) (inn1_c_2 : Int32) (k11_c_2 : Nat → Int32) (k21_c_2 : Nat → Int32) (k31_c_2 : Nat → Int32) (k41_c_2 : Nat → Int32) (z1_c_2 : va_W) (dd0_c_2 : Int32) (p10_c_2 : Nat → Int32) (p20_c_2 : Nat → Int32) (p30_c_2 : Nat → Int32) (wd0_c_2 : va_W) (dd1_c_2 : Int32) (p11_c_2 : Nat → Int32) (p21_c_2 : Nat → Int32) (p31_c_2 : Nat → Int32) (wd1_c_2 : va_W) (gg0_c_2 : Int32) (q10_c_2 : Nat → Int32) (q20_c_2 : Nat → Int32) (wg0_c_2 : va_W) (gg1_c_2 : Int32) (q11_c_2 : Nat → Int32) (q21_c_2 : Nat → Int32) (wg1_c_2 : va_W) (fmk_2 : Nat → Int32), bs = [[zO10 xo t im mk rd po co tr wa wb_ fi cd], wt, z0_, z1_, wd0_, wd1_, wg0_, wg1_, wtc_2, z0_c_2, z1_c_2, wd0_c_2, wd1_c_2, wg0_c_2, wg1_c_2, [zArq T 6 im 3 qi], [zAr T 2 mk 3 fmk_2]] ∧ bTold T m2 l0c l1c d0c d1c g0c g1c lnc_2 flc_2 plc_2 ftc_2 fkc_2 wtc_2 ∧ zKT fkc_2 ∧ bLand T l0c cr0_c_2 inn0_c_2 k10_c_2 k20_c_2 k30_c_2 k40_c_2 z0_c_2 ∧ zLI cr0_c_2 k10_c_2 k30_c_2 ∧ bLand T l1c cr1_c_2 inn1_c_2 k11_c_2 k21_c_2 k31_c_2 k41_c_2 z1_c_2 ∧ zLI cr1_c_2 k11_c_2 k31_c_2 ∧ bDay T d0c dd0_c_2 p10_c_2 p20_c_2 p30_c_2 wd0_c_2 ∧ bDay T d1c dd1_c_2 p11_c_2 p21_c_2 p31_c_2 wd1_c_2 ∧ bLog T g0c gg0_c_2 q10_c_2 q20_c_2 wg0_c_2 ∧ bLog T g1c gg1_c_2 q11_c_2 q21_c_2 wg1_c_2 ∧ r = 1 ∧ fmk_2 = upd fmk 2 1 ∧ zTR lnc_2 flc_2 plc_2 ftc_2 fkc_2 cr0_c_2 inn0_c_2 k10_c_2 k20_c_2 k30_c_2 k40_c_2 cr1_c_2 inn1_c_2 k11_c_2 k21_c_2 k31_c_2 k41_c_2 dd0_c_2 p10_c_2 p20_c_2 p30_c_2 dd1_c_2 p11_c_2 p21_c_2 p31_c_2 gg0_c_2 q10_c_2 q20_c_2 gg1_c_2 q11_c_2 q21_c_2 Gr) := by
  refine zMi_of (own := RX11) (by decide) rfl (Nat.le_of_ble_eq_true rfl) ?_
  intro p e s m args below meth c A ls C hr hlocks hnm hAe G hl
  refine zHide (fun Qz_ hQz_ => ?_)
  have hx := C.1
  have hb := C.2.1
  have hl : lv_has ls 2 [(0, .ref xo), (1, .int 2)] := hl
  refine lv_iload_n hx hb dX11_image_0 rfl (lv_at hl 1 rfl) ?_
  refine lv_if_lt (tgt := 9) hx hb dX11_image_1 (by decide) (fun q => absurd q (by decide)) (fun _ => ?_)
  refine lv_iload_n hx hb dX11_image_4 rfl (lv_at hl 1 rfl) ?_
  refine lv_iconst (v := 3) hx hb dX11_image_5 (by decide) ?_
  refine lv_icmp_lt (tgt := 11) hx hb dX11_image_6 (by decide) (fun _ => ?_) (fun q => absurd (by decide) q)
  refine lv_aload_n hx hb dX11_image_11 rfl (lv_at hl 0 rfl) ?_
  refine z_get C G clX11 0 rfl 1 (by decide) m_fl_RX11_16 rfl dX11_image_12 ?_
  refine lv_iload_n hx hb dX11_image_15 rfl (lv_at hl 1 rfl) ?_
  refine z_ald C G 15 6 rfl rfl (vp_in_nI (n := 2) (by decide) (by decide)) dX11_image_16 ?_
  rw [show qi ((2 : Int32).toNatClampNeg) = some m2 from hm2]
  refine lv_aload_n hx hb dX11_image_17 rfl (lv_at hl 0 rfl) ?_
  refine z_get C G clX11 0 rfl 0 (by decide) m_fl_RX11_10 rfl dX11_image_18 ?_
  refine z_Vv (bc := [wtc, z0_c, z1_c, wd0_c, wd1_c, wg0_c, wg1_c, wt, z0_, z1_, wd0_, wd1_, wg0_, wg1_]) (br := [[zO10 xo t im mk rd po co tr wa wb_ fi cd], [zArq T 6 im 3 qi], [zAr T 2 mk 3 fmk]]) (As := [.ref t]) (rest := []) C G (c_f_Told_takeAll l T m2 l0c l1c d0c d1c g0c g1c lnc flc plc ftc fkc wtc cr0_c inn0_c k10_c k20_c k30_c k40_c z0_c cr1_c inn1_c k11_c k21_c k31_c k41_c z1_c dd0_c p10_c p20_c p30_c wd0_c dd1_c p11_c p21_c p31_c wd1_c gg0_c q10_c q20_c wg0_c gg1_c q11_c q21_c wg1_c t l0 l1 d0 d1 g0 g1 ln fl pl ft fk wt cr0_ inn0_ k10_ k20_ k30_ k40_ z0_ cr1_ inn1_ k11_ k21_ k31_ k41_ z1_ dd0_ p10_ p20_ p30_ wd0_ dd1_ p11_ p21_ p31_ wd1_ gg0_ q10_ q20_ wg0_ gg1_ q11_ q21_ wg1_ Gr htc (by first | with_reducible assumption | with_reducible rfl | omega | assumption | rfl) hz0_c (by first | with_reducible assumption | with_reducible rfl | omega | assumption | rfl) hz1_c (by first | with_reducible assumption | with_reducible rfl | omega | assumption | rfl) hd0_c hd1_c hg0_c hg1_c ht (by first | with_reducible assumption | with_reducible rfl | omega | assumption | rfl) hz0_ (by first | with_reducible assumption | with_reducible rfl | omega | assumption | rfl) hz1_ (by first | with_reducible assumption | with_reducible rfl | omega | assumption | rfl) hd0_ hd1_ hg0_ hg1_ hT) (kV_RX11_117 C.2.2.2.2 (Nat.le_of_ble_eq_true rfl) (Nat.le_of_ble_eq_true rfl)) [8, 9, 10, 11, 12, 13, 14, 1, 2, 3, 4, 5, 6, 7] [1, 0, 0, 0, 0, 0, 0, 0, 0, 0, 0, 0, 0, 0] rfl rfl (ci := 8) (qc := (RX9, TX9, 8)) rfl rfl (List.mem_flatten.mpr ⟨_, List.mem_of_getElem? (i := 0) rfl, (bTold_mem htc).choose_spec⟩) rfl rfl hl.1 dX11_image_21 (Nat.le_of_ble_eq_true rfl) (Nat.le_of_ble_eq_true rfl) (fun b1 H locs hw G => ?_)
  refine zEx27 hw ?_
  intro wt2_1 g9_2 fk2_3 w2_4 s0_5 s0_6 s0_7 s0_8 w2_9 s1_10 s1_11 s1_12 s1_13 w2_14 s2_15 s2_16 s2_17 w2_18 s3_19 s3_20 s3_21 w2_22 s4_23 s4_24 w2_25 s5_26 s5_27
  refine zCu12 ?_
  intro hbs9 h_28 h_29 h_30 h_31 h_32 h_33 h_34 h_35 h_36 h_37 h_38
  clear hw
  subst hbs9
  have G : zS T A s.heap s [[zO10 xo t im mk rd po co tr wa wb_ fi cd], [zArq T 6 im 3 qi], [zAr T 2 mk 3 fmk], wt2_1, w2_4, w2_9, w2_14, w2_18, w2_22, w2_25, wt, z0_, z1_, wd0_, wd1_, wg0_, wg1_] _ _ := G
  refine lv_aload_n hx hb dX11_image_24 rfl (lv_at hl 0 rfl) ?_
  refine z_get C G clX11 0 rfl 2 (by decide) m_fl_RX11_20 rfl dX11_image_25 ?_
  refine lv_iload_n hx hb dX11_image_28 rfl (lv_at hl 1 rfl) ?_
  refine lv_iconst (v := 1) hx hb dX11_image_29 (by decide) ?_
  refine z_zst C G 2 rfl (vp_in_nI (n := 2) (by decide) (by decide)) dX11_image_30 (fun H locs G => ?_)
  have G : zS T A s.heap s [[zO10 xo t im mk rd po co tr wa wb_ fi cd], [zArq T 6 im 3 qi], [zAr T 2 mk 3 (upd fmk 2 (vp_nar .boolean 1))], wt2_1, w2_4, w2_9, w2_14, w2_18, w2_22, w2_25, wt, z0_, z1_, wd0_, wd1_, wg0_, wg1_] _ _ := G
  refine lv_iconst (v := 1) hx hb dX11_image_31 (by decide) ?_
  have G := G.sub (bs' := [[zO10 xo t im mk rd po co tr wa wb_ fi cd], wt, z0_, z1_, wd0_, wd1_, wg0_, wg1_, wt2_1, w2_4, w2_9, w2_14, w2_18, w2_22, w2_25, [zArq T 6 im 3 qi], [zAr T 2 mk 3 (upd fmk 2 (vp_nar .boolean 1))]]) [0, 10, 11, 12, 13, 14, 15, 16, 3, 4, 5, 6, 7, 8, 9, 1, 2] rfl
  exact z_back hQz_ (z_zret C hr hlocks G (Nat.le_of_ble_eq_true rfl) (Nat.le_of_ble_eq_true rfl) dX11_image_32 rfl ⟨ln, fl, pl, g9_2, fk2_3, wt2_1, cr0_, inn0_, s0_5, s0_6, s0_7, s0_8, w2_4, cr1_, inn1_, s1_10, s1_11, s1_12, s1_13, w2_9, dd0_, s2_15, s2_16, s2_17, w2_14, dd1_, s3_19, s3_20, s3_21, w2_18, gg0_, s4_23, s4_24, w2_22, gg1_, s5_26, s5_27, w2_25, (upd fmk 2 (vp_nar .boolean 1)), rfl, h_28, (by first | with_reducible assumption | omega | trivial | assumption), h_30, (by first | with_reducible assumption | omega | trivial | assumption), h_31, (by first | with_reducible assumption | omega | trivial | assumption), h_32, h_33, h_34, h_35, rfl, rfl, h_38⟩)
set_option maxHeartbeats 4000000 in
set_option maxRecDepth 100000 in
/-- c_f_again0 -/
theorem c_f_again0 (l : Launch) (T : zTy) (xo : Nat) (t : Nat) (im : Nat) (mk : Nat) (rd : Nat) (po : Nat) (co : Nat) (tr : Nat) (wa : Nat) (wb_ : Nat) (fi : Nat) (cd : Nat) (l0 : Nat) (l1 : Nat) (d0 : Nat) (d1 : Nat) (g0 : Nat) (g1 : Nat) (ln : Int32) (fl : Int32) (pl : Int32) (ft : Nat → Int32) (fk : Nat → Int32) (wt : va_W) (cr0_ : Int32) (inn0_ : Int32) (k10_ : Nat → Int32) (k20_ : Nat → Int32) (k30_ : Nat → Int32) (k40_ : Nat → Int32) (z0_ : va_W) (cr1_ : Int32) (inn1_ : Int32) (k11_ : Nat → Int32) (k21_ : Nat → Int32) (k31_ : Nat → Int32) (k41_ : Nat → Int32) (z1_ : va_W) (dd0_ : Int32) (p10_ : Nat → Int32) (p20_ : Nat → Int32) (p30_ : Nat → Int32) (wd0_ : va_W) (dd1_ : Int32) (p11_ : Nat → Int32) (p21_ : Nat → Int32) (p31_ : Nat → Int32) (wd1_ : va_W) (gg0_ : Int32) (q10_ : Nat → Int32) (q20_ : Nat → Int32) (wg0_ : va_W) (gg1_ : Int32) (q11_ : Nat → Int32) (q21_ : Nat → Int32) (wg1_ : va_W) (m0 : Nat) (l0a : Nat) (l1a : Nat) (d0a : Nat) (d1a : Nat) (g0a : Nat) (g1a : Nat) (lna : Int32) (fla : Int32) (pla : Int32) (fta : Nat → Int32) (fka : Nat → Int32) (wta : va_W) (cr0_a : Int32) (inn0_a : Int32) (k10_a : Nat → Int32) (k20_a : Nat → Int32) (k30_a : Nat → Int32) (k40_a : Nat → Int32) (z0_a : va_W) (cr1_a : Int32) (inn1_a : Int32) (k11_a : Nat → Int32) (k21_a : Nat → Int32) (k31_a : Nat → Int32) (k41_a : Nat → Int32) (z1_a : va_W) (dd0_a : Int32) (p10_a : Nat → Int32) (p20_a : Nat → Int32) (p30_a : Nat → Int32) (wd0_a : va_W) (dd1_a : Int32) (p11_a : Nat → Int32) (p21_a : Nat → Int32) (p31_a : Nat → Int32) (wd1_a : va_W) (gg0_a : Int32) (q10_a : Nat → Int32) (q20_a : Nat → Int32) (wg0_a : va_W) (gg1_a : Int32) (q11_a : Nat → Int32) (q21_a : Nat → Int32) (wg1_a : va_W) (m1 : Nat) (m2 : Nat) (qi : Nat → Option Nat) (fmk : Nat → Int32) (laA : Nat) (mdA : Int32) (wyA : Int32) (pc_A : Int32) (f1A : Nat → Int32) (f2A : Nat → Int32) (f3A : Nat → Int32) (f4A : Nat → Int32) (f5A : Nat → Int32) (f6A : Nat → Int32) (n4A : Nat) (wwA : va_W) (laB : Nat) (mdB : Int32) (wyB : Int32) (pc_B : Int32) (f1B : Nat → Int32) (f2B : Nat → Int32) (f3B : Nat → Int32) (f4B : Nat → Int32) (f5B : Nat → Int32) (f6B : Nat → Int32) (n4B : Nat) (wwB : va_W) (e0f : Int32) (e1f : Int32) (e2f : Int32) (e3f : Int32) (e4f : Int32) (e5f : Int32) (r1f : Nat → Int32) (m1f : Nat) (r2f : Nat → Int32) (wff : va_W) (Gr : Nat → Int32) (Gw : Nat → Int32) (ht : bTold T t l0 l1 d0 d1 g0 g1 ln fl pl ft fk wt) (hK : zKT fk) (hz0_ : bLand T l0 cr0_ inn0_ k10_ k20_ k30_ k40_ z0_) (hI0_ : zLI cr0_ k10_ k30_) (hz1_ : bLand T l1 cr1_ inn1_ k11_ k21_ k31_ k41_ z1_) (hI1_ : zLI cr1_ k11_ k31_) (hd0_ : bDay T d0 dd0_ p10_ p20_ p30_ wd0_) (hd1_ : bDay T d1 dd1_ p11_ p21_ p31_ wd1_) (hg0_ : bLog T g0 gg0_ q10_ q20_ wg0_) (hg1_ : bLog T g1 gg1_ q11_ q21_ wg1_) (hta : bTold T m0 l0a l1a d0a d1a g0a g1a lna fla pla fta fka wta) (hKa : zKT fka) (hz0_a : bLand T l0a cr0_a inn0_a k10_a k20_a k30_a k40_a z0_a) (hI0_a : zLI cr0_a k10_a k30_a) (hz1_a : bLand T l1a cr1_a inn1_a k11_a k21_a k31_a k41_a z1_a) (hI1_a : zLI cr1_a k11_a k31_a) (hd0_a : bDay T d0a dd0_a p10_a p20_a p30_a wd0_a) (hd1_a : bDay T d1a dd1_a p11_a p21_a p31_a wd1_a) (hg0_a : bLog T g0a gg0_a q10_a q20_a wg0_a) (hg1_a : bLog T g1a gg1_a q11_a q21_a wg1_a) (hm0 : qi 0 = some m0) (hm1 : qi 1 = some m1) (hm2 : qi 2 = some m2) (hwwA : bWays T wa laA mdA wyA pc_A f1A f2A f3A f4A f5A f6A n4A wwA) (hwwB : bWays T wb_ laB mdB wyB pc_B f1B f2B f3B f4B f5B f6B n4B wwB) (hwff : bFit T fi e0f e1f e2f e3f e4f e5f r1f m1f r2f wff) (hT : zTR ln fl pl ft fk cr0_ inn0_ k10_ k20_ k30_ k40_ cr1_ inn1_ k11_ k21_ k31_ k41_ dd0_ p10_ p20_ p30_ dd1_ p11_ p21_ p31_ gg0_ q10_ q20_ gg1_ q11_ q21_ Gr) (hTw : (¬ fmk 0 = 0 → zTR lna fla pla fta fka cr0_a inn0_a k10_a k20_a k30_a k40_a cr1_a inn1_a k11_a k21_a k31_a k41_a dd0_a p10_a p20_a p30_a dd1_a p11_a p21_a p31_a gg0_a q10_a q20_a gg1_a q11_a q21_a Gw)) : zMi l T yX11_again cX11_again 2 (some .boolean) 3 0 0 [.ref xo, .int 0] [[zO10 xo t im mk rd po co tr wa wb_ fi cd], wt, z0_, z1_, wd0_, wd1_, wg0_, wg1_, wta, z0_a, z1_a, wd0_a, wd1_a, wg0_a, wg1_a, [zArq T 6 im 3 qi], [zAr T 2 mk 3 fmk], wwA, wwB, wff] (fun (r : Int32) bs => ∃ (ln_2 : Int32) (fl_2 : Int32) (pl_2 : Int32) (ft_2 : Nat → Int32) (fk_2 : Nat → Int32) (wt_2 : va_W) (cr0__2 : Int32) (inn0__2 : Int32) (k10__2 : Nat → Int32) (k20__2 : Nat → Int32) (k30__2 : Nat → Int32) (k40__2 : Nat → Int32) (z0__2 : va_W) (cr1__2 : Int32) (inn1__2 : Int32) (k11__2 : Nat → Int32) (k21__2 : Nat → Int32) (k31__2 : Nat → Int32) (k41__2 : Nat → Int32) (z1__2 : va_W) (dd0__2 : Int32) (p10__2 : Nat → Int32) (p20__2 : Nat → Int32) (p30__2 : Nat → Int32) (wd0__2 : va_W) (dd1__2 : Int32) (p11__2 : Nat → Int32) (p21__2 : Nat → Int32) (p31__2 : Nat → Int32) (wd1__2 : va_W) (gg0__2 : Int32) (q10__2 : Nat → Int32) (q20__2 : Nat → Int32) (wg0__2 : va_W) (gg1__2 : Int32) (q11__2 : Nat → Int32) (q21__2 : Nat → Int32) (wg1__2 : va_W) (wwA_2 : va_W) (wwB_2 : va_W) (wff_2 : va_W) (mdA_2 : Int32) (mdB_2 : Int32) (e0f_2 : Int32), bs = [[zO10 xo t im mk rd po co tr wa wb_ fi cd], wt_2, z0__2, z1__2, wd0__2, wd1__2, wg0__2, wg1__2, wta, z0_a, z1_a, wd0_a, wd1_a, wg0_a, wg1_a, [zArq T 6 im 3 qi], [zAr T 2 mk 3 fmk], wwA_2, wwB_2, wff_2] ∧ bTold T t l0 l1 d0 d1 g0 g1 ln_2 fl_2 pl_2 ft_2 fk_2 wt_2 ∧ zKT fk_2 ∧ bLand T l0 cr0__2 inn0__2 k10__2 k20__2 k30__2 k40__2 z0__2 ∧ zLI cr0__2 k10__2 k30__2 ∧ bLand T l1 cr1__2 inn1__2 k11__2 k21__2 k31__2 k41__2 z1__2 ∧ zLI cr1__2 k11__2 k31__2 ∧ bDay T d0 dd0__2 p10__2 p20__2 p30__2 wd0__2 ∧ bDay T d1 dd1__2 p11__2 p21__2 p31__2 wd1__2 ∧ bLog T g0 gg0__2 q10__2 q20__2 wg0__2 ∧ bLog T g1 gg1__2 q11__2 q21__2 wg1__2 ∧ bWays T wa laA mdA_2 wyA pc_A f1A f2A f3A f4A f5A f6A n4A wwA_2 ∧ bWays T wb_ laB mdB_2 wyB pc_B f1B f2B f3B f4B f5B f6B n4B wwB_2 ∧ bFit T fi e0f_2 e1f e2f e3f e4f e5f r1f m1f r2f wff_2 ∧ (mdA_2 = 0 ∧ mdB_2 = 0 ∧ e0f_2 = 0 ∨ mdA_2 = mdA ∧ mdB_2 = mdB ∧ e0f_2 = 0 ∨ mdA_2 = mdA ∧ mdB_2 = mdB ∧ e0f_2 = e0f) ∧ (fmk 0 = 0 ∧ r = 0 ∧ zTR ln_2 fl_2 pl_2 ft_2 fk_2 cr0__2 inn0__2 k10__2 k20__2 k30__2 k40__2 cr1__2 inn1__2 k11__2 k21__2 k31__2 k41__2 dd0__2 p10__2 p20__2 p30__2 dd1__2 p11__2 p21__2 p31__2 gg0__2 q10__2 q20__2 gg1__2 q11__2 q21__2 Gr ∨ ¬ fmk 0 = 0 ∧ r = 1 ∧ zTR ln_2 fl_2 pl_2 ft_2 fk_2 cr0__2 inn0__2 k10__2 k20__2 k30__2 k40__2 cr1__2 inn1__2 k11__2 k21__2 k31__2 k41__2 dd0__2 p10__2 p20__2 p30__2 dd1__2 p11__2 p21__2 p31__2 gg0__2 q10__2 q20__2 gg1__2 q11__2 q21__2 Gw)) := by
  refine zMi_of (own := RX11) (by decide) rfl (Nat.le_of_ble_eq_true rfl) ?_
  intro p e s m args below meth c A ls C hr hlocks hnm hAe G hl
  refine zHide (fun Qz_ hQz_ => ?_)
  have hx := C.1
  have hb := C.2.1
  replace hTw : zHd ((¬ fmk 0 = 0 → zTR lna fla pla fta fka cr0_a inn0_a k10_a k20_a k30_a k40_a cr1_a inn1_a k11_a k21_a k31_a k41_a dd0_a p10_a p20_a p30_a dd1_a p11_a p21_a p31_a gg0_a q10_a q20_a gg1_a q11_a q21_a Gw)) := hTw
  have hl : lv_has ls 2 [(0, .ref xo), (1, .int 0)] := hl
  refine lv_iload_n hx hb dX11_again_0 rfl (lv_at hl 1 rfl) ?_
  refine lv_if_lt (tgt := 18) hx hb dX11_again_1 (by decide) (fun q => absurd q (by decide)) (fun _ => ?_)
  refine lv_iload_n hx hb dX11_again_4 rfl (lv_at hl 1 rfl) ?_
  refine lv_iconst (v := 3) hx hb dX11_again_5 (by decide) ?_
  refine lv_icmp_ge (tgt := 18) hx hb dX11_again_6 (by decide) (fun q => absurd q (by decide)) (fun _ => ?_)
  refine lv_aload_n hx hb dX11_again_9 rfl (lv_at hl 0 rfl) ?_
  refine z_get C G clX11 0 rfl 2 (by decide) m_fl_RX11_20 rfl dX11_again_10 ?_
  refine lv_iload_n hx hb dX11_again_13 rfl (lv_at hl 1 rfl) ?_
  refine z_zld C G 16 rfl (vp_in_nI (n := 0) (by decide) (by decide)) dX11_again_14 ?_
  refine lv_topi (fun v_1 ev_1 => ?_)
  rw [show ((0 : Int32).toNatClampNeg) = 0 from rfl] at ev_1
  subst ev_1
  refine lv_if_ne (tgt := 20) hx hb dX11_again_15 (by decide) (fun c_2 => ?_) (fun c_2 => ?_)
  · have c_2n : ¬ (fmk 0).toInt = (0 : Int) := fun q => c_2 ((fa_eq _ _).mpr q)
    refine lv_aload_n hx hb dX11_again_20 rfl (lv_at hl 0 rfl) ?_
    refine z_get C G clX11 0 rfl 0 (by decide) m_fl_RX11_10 rfl dX11_again_21 ?_
    refine lv_aload_n hx hb dX11_again_24 rfl (lv_at hl 0 rfl) ?_
    refine z_get C G clX11 0 rfl 1 (by decide) m_fl_RX11_16 rfl dX11_again_25 ?_
    refine lv_iload_n hx hb dX11_again_28 rfl (lv_at hl 1 rfl) ?_
    refine z_ald C G 15 6 rfl rfl (vp_in_nI (n := 0) (by decide) (by decide)) dX11_again_29 ?_
    rw [show qi ((0 : Int32).toNatClampNeg) = some m0 from hm0]
    refine z_Vv (bc := [wt, z0_, z1_, wd0_, wd1_, wg0_, wg1_, wta, z0_a, z1_a, wd0_a, wd1_a, wg0_a, wg1_a]) (br := [[zO10 xo t im mk rd po co tr wa wb_ fi cd], [zArq T 6 im 3 qi], [zAr T 2 mk 3 fmk], wwA, wwB, wff]) (As := [.ref m0]) (rest := []) C G (c_f_Told_takeAll l T t l0 l1 d0 d1 g0 g1 ln fl pl ft fk wt cr0_ inn0_ k10_ k20_ k30_ k40_ z0_ cr1_ inn1_ k11_ k21_ k31_ k41_ z1_ dd0_ p10_ p20_ p30_ wd0_ dd1_ p11_ p21_ p31_ wd1_ gg0_ q10_ q20_ wg0_ gg1_ q11_ q21_ wg1_ m0 l0a l1a d0a d1a g0a g1a lna fla pla fta fka wta cr0_a inn0_a k10_a k20_a k30_a k40_a z0_a cr1_a inn1_a k11_a k21_a k31_a k41_a z1_a dd0_a p10_a p20_a p30_a wd0_a dd1_a p11_a p21_a p31_a wd1_a gg0_a q10_a q20_a wg0_a gg1_a q11_a q21_a wg1_a Gw ht (by first | with_reducible assumption | with_reducible rfl | omega | assumption | rfl) hz0_ (by first | with_reducible assumption | with_reducible rfl | omega | assumption | rfl) hz1_ (by first | with_reducible assumption | with_reducible rfl | omega | assumption | rfl) hd0_ hd1_ hg0_ hg1_ hta (by first | with_reducible assumption | with_reducible rfl | omega | assumption | rfl) hz0_a (by first | with_reducible assumption | with_reducible rfl | omega | assumption | rfl) hz1_a (by first | with_reducible assumption | with_reducible rfl | omega | assumption | rfl) hd0_a hd1_a hg0_a hg1_a (hTw (by first | with_reducible assumption | assumption))) (kV_RX11_117 C.2.2.2.2 (Nat.le_of_ble_eq_true rfl) (Nat.le_of_ble_eq_true rfl)) [1, 2, 3, 4, 5, 6, 7, 8, 9, 10, 11, 12, 13, 14] [1, 0, 0, 0, 0, 0, 0, 0, 0, 0, 0, 0, 0, 0] rfl rfl (ci := 8) (qc := (RX9, TX9, 8)) rfl rfl (List.mem_flatten.mpr ⟨_, List.mem_of_getElem? (i := 0) rfl, (bTold_mem ht).choose_spec⟩) rfl rfl hl.1 dX11_again_30 (Nat.le_of_ble_eq_true rfl) (Nat.le_of_ble_eq_true rfl) (fun b1 H locs hw G => ?_)
    refine zEx27 hw ?_
    intro wt2_3 g9_4 fk2_5 w2_6 s0_7 s0_8 s0_9 s0_10 w2_11 s1_12 s1_13 s1_14 s1_15 w2_16 s2_17 s2_18 s2_19 w2_20 s3_21 s3_22 s3_23 w2_24 s4_25 s4_26 w2_27 s5_28 s5_29
    refine zCu12 ?_
    intro hbs9 h_30 h_31 h_32 h_33 h_34 h_35 h_36 h_37 h_38 h_39 h_40
    clear hw
    subst hbs9
    have G : zS T A s.heap s [[zO10 xo t im mk rd po co tr wa wb_ fi cd], [zArq T 6 im 3 qi], [zAr T 2 mk 3 fmk], wwA, wwB, wff, wt2_3, w2_6, w2_11, w2_16, w2_20, w2_24, w2_27, wta, z0_a, z1_a, wd0_a, wd1_a, wg0_a, wg1_a] _ _ := G
    refine lv_aload_n hx hb dX11_again_33 rfl (lv_at hl 0 rfl) ?_
    refine lv_iconst (v := 1) hx hb dX11_again_34 (by decide) ?_
    refine z_Vv (bc := [[zO10 xo t im mk rd po co tr wa wb_ fi cd], wwA, wwB, wff]) (br := [[zArq T 6 im 3 qi], [zAr T 2 mk 3 fmk], wt2_3, w2_6, w2_11, w2_16, w2_20, w2_24, w2_27, wta, z0_a, z1_a, wd0_a, wd1_a, wg0_a, wg1_a]) (As := [.int 1]) (rest := []) C G (c_forget1 l T xo t im mk rd po co tr wa wb_ fi cd laA mdA wyA pc_A f1A f2A f3A f4A f5A f6A n4A wwA laB mdB wyB pc_B f1B f2B f3B f4B f5B f6B n4B wwB e0f e1f e2f e3f e4f e5f r1f m1f r2f wff hwwA hwwB hwff) (kV_RX11_105 C.2.2.2.2 (Nat.le_of_ble_eq_true rfl) (Nat.le_of_ble_eq_true rfl)) [0, 3, 4, 5] [0, 2, 0, 0] rfl rfl (ci := 10) (qc := (RX11, TX11, 11)) rfl rfl (List.mem_flatten.mpr ⟨_, List.mem_of_getElem? (i := 0) rfl, List.mem_cons_self⟩) rfl rfl hl.1 dX11_again_35 (Nat.le_of_ble_eq_true rfl) (Nat.le_of_ble_eq_true rfl) (fun b1 H locs hw G => ?_)
    refine zEx3 hw ?_
    intro wwA_42 wwB_43 wff_44
    refine zCu4 ?_
    intro hbs9 h_45 h_46 h_47
    clear hw
    subst hbs9
    have G : zS T A s.heap s [[zArq T 6 im 3 qi], [zAr T 2 mk 3 fmk], wt2_3, w2_6, w2_11, w2_16, w2_20, w2_24, w2_27, wta, z0_a, z1_a, wd0_a, wd1_a, wg0_a, wg1_a, [zO10 xo t im mk rd po co tr wa wb_ fi cd], wwA_42, wwB_43, wff_44] _ _ := G
    refine lv_iconst (v := 1) hx hb dX11_again_38 (by decide) ?_
    have G := G.sub (bs' := [[zO10 xo t im mk rd po co tr wa wb_ fi cd], wt2_3, w2_6, w2_11, w2_16, w2_20, w2_24, w2_27, wta, z0_a, z1_a, wd0_a, wd1_a, wg0_a, wg1_a, [zArq T 6 im 3 qi], [zAr T 2 mk 3 fmk], wwA_42, wwB_43, wff_44]) [16, 2, 3, 4, 5, 6, 7, 8, 9, 10, 11, 12, 13, 14, 15, 0, 1, 17, 18, 19] rfl
    exact z_back hQz_ (z_zret C hr hlocks G (Nat.le_of_ble_eq_true rfl) (Nat.le_of_ble_eq_true rfl) dX11_again_39 rfl ⟨lna, fla, pla, g9_4, fk2_5, wt2_3, cr0_a, inn0_a, s0_7, s0_8, s0_9, s0_10, w2_6, cr1_a, inn1_a, s1_12, s1_13, s1_14, s1_15, w2_11, dd0_a, s2_17, s2_18, s2_19, w2_16, dd1_a, s3_21, s3_22, s3_23, w2_20, gg0_a, s4_25, s4_26, w2_24, gg1_a, s5_28, s5_29, w2_27, wwA_42, wwB_43, wff_44, 0, 0, 0, rfl, h_30, (by first | with_reducible assumption | omega | trivial | assumption), h_32, (by first | with_reducible assumption | omega | trivial | assumption), h_33, (by first | with_reducible assumption | omega | trivial | assumption), h_34, h_35, h_36, h_37, h_45, h_46, h_47, (by first | exact Or.inl ⟨rfl, rfl, rfl⟩ | exact Or.inr (Or.inl ⟨rfl, rfl, rfl⟩) | exact Or.inr (Or.inr ⟨rfl, rfl, rfl⟩)), (Or.inr ⟨by first | with_reducible assumption | assumption, rfl, h_40⟩)⟩)
  · have c_2n : (fmk 0).toInt = (0 : Int) := (fa_eq _ _).mp c_2
    refine lv_iconst (v := 0) hx hb dX11_again_18 (by decide) ?_
    exact z_back hQz_ (z_zret C hr hlocks G (Nat.le_of_ble_eq_true rfl) (Nat.le_of_ble_eq_true rfl) dX11_again_19 rfl ⟨ln, fl, pl, ft, fk, wt, cr0_, inn0_, k10_, k20_, k30_, k40_, z0_, cr1_, inn1_, k11_, k21_, k31_, k41_, z1_, dd0_, p10_, p20_, p30_, wd0_, dd1_, p11_, p21_, p31_, wd1_, gg0_, q10_, q20_, wg0_, gg1_, q11_, q21_, wg1_, wwA, wwB, wff, mdA, mdB, e0f, rfl, ht, (by first | with_reducible assumption | omega | trivial | assumption), hz0_, (by first | with_reducible assumption | omega | trivial | assumption), hz1_, (by first | with_reducible assumption | omega | trivial | assumption), hd0_, hd1_, hg0_, hg1_, hwwA, hwwB, hwff, (by first | exact Or.inl ⟨rfl, rfl, rfl⟩ | exact Or.inr (Or.inl ⟨rfl, rfl, rfl⟩) | exact Or.inr (Or.inr ⟨rfl, rfl, rfl⟩)), (Or.inl ⟨by first | with_reducible assumption | assumption, rfl, hT⟩)⟩)
set_option maxHeartbeats 4000000 in
set_option maxRecDepth 100000 in
/-- c_f_again1 -/
theorem c_f_again1 (l : Launch) (T : zTy) (xo : Nat) (t : Nat) (im : Nat) (mk : Nat) (rd : Nat) (po : Nat) (co : Nat) (tr : Nat) (wa : Nat) (wb_ : Nat) (fi : Nat) (cd : Nat) (l0 : Nat) (l1 : Nat) (d0 : Nat) (d1 : Nat) (g0 : Nat) (g1 : Nat) (ln : Int32) (fl : Int32) (pl : Int32) (ft : Nat → Int32) (fk : Nat → Int32) (wt : va_W) (cr0_ : Int32) (inn0_ : Int32) (k10_ : Nat → Int32) (k20_ : Nat → Int32) (k30_ : Nat → Int32) (k40_ : Nat → Int32) (z0_ : va_W) (cr1_ : Int32) (inn1_ : Int32) (k11_ : Nat → Int32) (k21_ : Nat → Int32) (k31_ : Nat → Int32) (k41_ : Nat → Int32) (z1_ : va_W) (dd0_ : Int32) (p10_ : Nat → Int32) (p20_ : Nat → Int32) (p30_ : Nat → Int32) (wd0_ : va_W) (dd1_ : Int32) (p11_ : Nat → Int32) (p21_ : Nat → Int32) (p31_ : Nat → Int32) (wd1_ : va_W) (gg0_ : Int32) (q10_ : Nat → Int32) (q20_ : Nat → Int32) (wg0_ : va_W) (gg1_ : Int32) (q11_ : Nat → Int32) (q21_ : Nat → Int32) (wg1_ : va_W) (m0 : Nat) (m1 : Nat) (l0b : Nat) (l1b : Nat) (d0b : Nat) (d1b : Nat) (g0b : Nat) (g1b : Nat) (lnb : Int32) (flb : Int32) (plb : Int32) (ftb : Nat → Int32) (fkb : Nat → Int32) (wtb : va_W) (cr0_b : Int32) (inn0_b : Int32) (k10_b : Nat → Int32) (k20_b : Nat → Int32) (k30_b : Nat → Int32) (k40_b : Nat → Int32) (z0_b : va_W) (cr1_b : Int32) (inn1_b : Int32) (k11_b : Nat → Int32) (k21_b : Nat → Int32) (k31_b : Nat → Int32) (k41_b : Nat → Int32) (z1_b : va_W) (dd0_b : Int32) (p10_b : Nat → Int32) (p20_b : Nat → Int32) (p30_b : Nat → Int32) (wd0_b : va_W) (dd1_b : Int32) (p11_b : Nat → Int32) (p21_b : Nat → Int32) (p31_b : Nat → Int32) (wd1_b : va_W) (gg0_b : Int32) (q10_b : Nat → Int32) (q20_b : Nat → Int32) (wg0_b : va_W) (gg1_b : Int32) (q11_b : Nat → Int32) (q21_b : Nat → Int32) (wg1_b : va_W) (m2 : Nat) (qi : Nat → Option Nat) (fmk : Nat → Int32) (laA : Nat) (mdA : Int32) (wyA : Int32) (pc_A : Int32) (f1A : Nat → Int32) (f2A : Nat → Int32) (f3A : Nat → Int32) (f4A : Nat → Int32) (f5A : Nat → Int32) (f6A : Nat → Int32) (n4A : Nat) (wwA : va_W) (laB : Nat) (mdB : Int32) (wyB : Int32) (pc_B : Int32) (f1B : Nat → Int32) (f2B : Nat → Int32) (f3B : Nat → Int32) (f4B : Nat → Int32) (f5B : Nat → Int32) (f6B : Nat → Int32) (n4B : Nat) (wwB : va_W) (e0f : Int32) (e1f : Int32) (e2f : Int32) (e3f : Int32) (e4f : Int32) (e5f : Int32) (r1f : Nat → Int32) (m1f : Nat) (r2f : Nat → Int32) (wff : va_W) (Gr : Nat → Int32) (Gw : Nat → Int32) (ht : bTold T t l0 l1 d0 d1 g0 g1 ln fl pl ft fk wt) (hK : zKT fk) (hz0_ : bLand T l0 cr0_ inn0_ k10_ k20_ k30_ k40_ z0_) (hI0_ : zLI cr0_ k10_ k30_) (hz1_ : bLand T l1 cr1_ inn1_ k11_ k21_ k31_ k41_ z1_) (hI1_ : zLI cr1_ k11_ k31_) (hd0_ : bDay T d0 dd0_ p10_ p20_ p30_ wd0_) (hd1_ : bDay T d1 dd1_ p11_ p21_ p31_ wd1_) (hg0_ : bLog T g0 gg0_ q10_ q20_ wg0_) (hg1_ : bLog T g1 gg1_ q11_ q21_ wg1_) (htb : bTold T m1 l0b l1b d0b d1b g0b g1b lnb flb plb ftb fkb wtb) (hKb : zKT fkb) (hz0_b : bLand T l0b cr0_b inn0_b k10_b k20_b k30_b k40_b z0_b) (hI0_b : zLI cr0_b k10_b k30_b) (hz1_b : bLand T l1b cr1_b inn1_b k11_b k21_b k31_b k41_b z1_b) (hI1_b : zLI cr1_b k11_b k31_b) (hd0_b : bDay T d0b dd0_b p10_b p20_b p30_b wd0_b) (hd1_b : bDay T d1b dd1_b p11_b p21_b p31_b wd1_b) (hg0_b : bLog T g0b gg0_b q10_b q20_b wg0_b) (hg1_b : bLog T g1b gg1_b q11_b q21_b wg1_b) (hm0 : qi 0 = some m0) (hm1 : qi 1 = some m1) (hm2 : qi 2 = some m2) (hwwA : bWays T wa laA mdA wyA pc_A f1A f2A f3A f4A f5A f6A n4A wwA) (hwwB : bWays T wb_ laB mdB wyB pc_B f1B f2B f3B f4B f5B f6B n4B wwB) (hwff : bFit T fi e0f e1f e2f e3f e4f e5f r1f m1f r2f wff) (hT : zTR ln fl pl ft fk cr0_ inn0_ k10_ k20_ k30_ k40_ cr1_ inn1_ k11_ k21_ k31_ k41_ dd0_ p10_ p20_ p30_ dd1_ p11_ p21_ p31_ gg0_ q10_ q20_ gg1_ q11_ q21_ Gr) (hTw : (¬ fmk 1 = 0 → zTR lnb flb plb ftb fkb cr0_b inn0_b k10_b k20_b k30_b k40_b cr1_b inn1_b k11_b k21_b k31_b k41_b dd0_b p10_b p20_b p30_b dd1_b p11_b p21_b p31_b gg0_b q10_b q20_b gg1_b q11_b q21_b Gw)) : zMi l T yX11_again cX11_again 2 (some .boolean) 3 0 0 [.ref xo, .int 1] [[zO10 xo t im mk rd po co tr wa wb_ fi cd], wt, z0_, z1_, wd0_, wd1_, wg0_, wg1_, wtb, z0_b, z1_b, wd0_b, wd1_b, wg0_b, wg1_b, [zArq T 6 im 3 qi], [zAr T 2 mk 3 fmk], wwA, wwB, wff] (fun (r : Int32) bs => ∃ (ln_2 : Int32) (fl_2 : Int32) (pl_2 : Int32) (ft_2 : Nat → Int32) (fk_2 : Nat → Int32) (wt_2 : va_W) (cr0__2 : Int32) (inn0__2 : Int32) (k10__2 : Nat → Int32) (k20__2 : Nat → Int32) (k30__2 : Nat → Int32) (k40__2 : Nat → Int32) (z0__2 : va_W) (cr1__2 : Int32) (inn1__2 : Int32) (k11__2 : Nat → Int32) (k21__2 : Nat → Int32) (k31__2 : Nat → Int32) (k41__2 : Nat → Int32) (z1__2 : va_W) (dd0__2 : Int32) (p10__2 : Nat → Int32) (p20__2 : Nat → Int32) (p30__2 : Nat → Int32) (wd0__2 : va_W) (dd1__2 : Int32) (p11__2 : Nat → Int32) (p21__2 : Nat → Int32) (p31__2 : Nat → Int32) (wd1__2 : va_W) (gg0__2 : Int32) (q10__2 : Nat → Int32) (q20__2 : Nat → Int32) (wg0__2 : va_W) (gg1__2 : Int32) (q11__2 : Nat → Int32) (q21__2 : Nat → Int32) (wg1__2 : va_W) (wwA_2 : va_W) (wwB_2 : va_W) (wff_2 : va_W) (mdA_2 : Int32) (mdB_2 : Int32) (e0f_2 : Int32), bs = [[zO10 xo t im mk rd po co tr wa wb_ fi cd], wt_2, z0__2, z1__2, wd0__2, wd1__2, wg0__2, wg1__2, wtb, z0_b, z1_b, wd0_b, wd1_b, wg0_b, wg1_b, [zArq T 6 im 3 qi], [zAr T 2 mk 3 fmk], wwA_2, wwB_2, wff_2] ∧ bTold T t l0 l1 d0 d1 g0 g1 ln_2 fl_2 pl_2 ft_2 fk_2 wt_2 ∧ zKT fk_2 ∧ bLand T l0 cr0__2 inn0__2 k10__2 k20__2 k30__2 k40__2 z0__2 ∧ zLI cr0__2 k10__2 k30__2 ∧ bLand T l1 cr1__2 inn1__2 k11__2 k21__2 k31__2 k41__2 z1__2 ∧ zLI cr1__2 k11__2 k31__2 ∧ bDay T d0 dd0__2 p10__2 p20__2 p30__2 wd0__2 ∧ bDay T d1 dd1__2 p11__2 p21__2 p31__2 wd1__2 ∧ bLog T g0 gg0__2 q10__2 q20__2 wg0__2 ∧ bLog T g1 gg1__2 q11__2 q21__2 wg1__2 ∧ bWays T wa laA mdA_2 wyA pc_A f1A f2A f3A f4A f5A f6A n4A wwA_2 ∧ bWays T wb_ laB mdB_2 wyB pc_B f1B f2B f3B f4B f5B f6B n4B wwB_2 ∧ bFit T fi e0f_2 e1f e2f e3f e4f e5f r1f m1f r2f wff_2 ∧ (mdA_2 = 0 ∧ mdB_2 = 0 ∧ e0f_2 = 0 ∨ mdA_2 = mdA ∧ mdB_2 = mdB ∧ e0f_2 = 0 ∨ mdA_2 = mdA ∧ mdB_2 = mdB ∧ e0f_2 = e0f) ∧ (fmk 1 = 0 ∧ r = 0 ∧ zTR ln_2 fl_2 pl_2 ft_2 fk_2 cr0__2 inn0__2 k10__2 k20__2 k30__2 k40__2 cr1__2 inn1__2 k11__2 k21__2 k31__2 k41__2 dd0__2 p10__2 p20__2 p30__2 dd1__2 p11__2 p21__2 p31__2 gg0__2 q10__2 q20__2 gg1__2 q11__2 q21__2 Gr ∨ ¬ fmk 1 = 0 ∧ r = 1 ∧ zTR ln_2 fl_2 pl_2 ft_2 fk_2 cr0__2 inn0__2 k10__2 k20__2 k30__2 k40__2 cr1__2 inn1__2 k11__2 k21__2 k31__2 k41__2 dd0__2 p10__2 p20__2 p30__2 dd1__2 p11__2 p21__2 p31__2 gg0__2 q10__2 q20__2 gg1__2 q11__2 q21__2 Gw)) := by
  refine zMi_of (own := RX11) (by decide) rfl (Nat.le_of_ble_eq_true rfl) ?_
  intro p e s m args below meth c A ls C hr hlocks hnm hAe G hl
  refine zHide (fun Qz_ hQz_ => ?_)
  have hx := C.1
  have hb := C.2.1
  replace hTw : zHd ((¬ fmk 1 = 0 → zTR lnb flb plb ftb fkb cr0_b inn0_b k10_b k20_b k30_b k40_b cr1_b inn1_b k11_b k21_b k31_b k41_b dd0_b p10_b p20_b p30_b dd1_b p11_b p21_b p31_b gg0_b q10_b q20_b gg1_b q11_b q21_b Gw)) := hTw
  have hl : lv_has ls 2 [(0, .ref xo), (1, .int 1)] := hl
  refine lv_iload_n hx hb dX11_again_0 rfl (lv_at hl 1 rfl) ?_
  refine lv_if_lt (tgt := 18) hx hb dX11_again_1 (by decide) (fun q => absurd q (by decide)) (fun _ => ?_)
  refine lv_iload_n hx hb dX11_again_4 rfl (lv_at hl 1 rfl) ?_
  refine lv_iconst (v := 3) hx hb dX11_again_5 (by decide) ?_
  refine lv_icmp_ge (tgt := 18) hx hb dX11_again_6 (by decide) (fun q => absurd q (by decide)) (fun _ => ?_)
  refine lv_aload_n hx hb dX11_again_9 rfl (lv_at hl 0 rfl) ?_
  refine z_get C G clX11 0 rfl 2 (by decide) m_fl_RX11_20 rfl dX11_again_10 ?_
  refine lv_iload_n hx hb dX11_again_13 rfl (lv_at hl 1 rfl) ?_
  refine z_zld C G 16 rfl (vp_in_nI (n := 1) (by decide) (by decide)) dX11_again_14 ?_
  refine lv_topi (fun v_1 ev_1 => ?_)
  rw [show ((1 : Int32).toNatClampNeg) = 1 from rfl] at ev_1
  subst ev_1
  refine lv_if_ne (tgt := 20) hx hb dX11_again_15 (by decide) (fun c_2 => ?_) (fun c_2 => ?_)
  · have c_2n : ¬ (fmk 1).toInt = (0 : Int) := fun q => c_2 ((fa_eq _ _).mpr q)
    refine lv_aload_n hx hb dX11_again_20 rfl (lv_at hl 0 rfl) ?_
    refine z_get C G clX11 0 rfl 0 (by decide) m_fl_RX11_10 rfl dX11_again_21 ?_
    refine lv_aload_n hx hb dX11_again_24 rfl (lv_at hl 0 rfl) ?_
    refine z_get C G clX11 0 rfl 1 (by decide) m_fl_RX11_16 rfl dX11_again_25 ?_
    refine lv_iload_n hx hb dX11_again_28 rfl (lv_at hl 1 rfl) ?_
    refine z_ald C G 15 6 rfl rfl (vp_in_nI (n := 1) (by decide) (by decide)) dX11_again_29 ?_
    rw [show qi ((1 : Int32).toNatClampNeg) = some m1 from hm1]
    refine z_Vv (bc := [wt, z0_, z1_, wd0_, wd1_, wg0_, wg1_, wtb, z0_b, z1_b, wd0_b, wd1_b, wg0_b, wg1_b]) (br := [[zO10 xo t im mk rd po co tr wa wb_ fi cd], [zArq T 6 im 3 qi], [zAr T 2 mk 3 fmk], wwA, wwB, wff]) (As := [.ref m1]) (rest := []) C G (c_f_Told_takeAll l T t l0 l1 d0 d1 g0 g1 ln fl pl ft fk wt cr0_ inn0_ k10_ k20_ k30_ k40_ z0_ cr1_ inn1_ k11_ k21_ k31_ k41_ z1_ dd0_ p10_ p20_ p30_ wd0_ dd1_ p11_ p21_ p31_ wd1_ gg0_ q10_ q20_ wg0_ gg1_ q11_ q21_ wg1_ m1 l0b l1b d0b d1b g0b g1b lnb flb plb ftb fkb wtb cr0_b inn0_b k10_b k20_b k30_b k40_b z0_b cr1_b inn1_b k11_b k21_b k31_b k41_b z1_b dd0_b p10_b p20_b p30_b wd0_b dd1_b p11_b p21_b p31_b wd1_b gg0_b q10_b q20_b wg0_b gg1_b q11_b q21_b wg1_b Gw ht (by first | with_reducible assumption | with_reducible rfl | omega | assumption | rfl) hz0_ (by first | with_reducible assumption | with_reducible rfl | omega | assumption | rfl) hz1_ (by first | with_reducible assumption | with_reducible rfl | omega | assumption | rfl) hd0_ hd1_ hg0_ hg1_ htb (by first | with_reducible assumption | with_reducible rfl | omega | assumption | rfl) hz0_b (by first | with_reducible assumption | with_reducible rfl | omega | assumption | rfl) hz1_b (by first | with_reducible assumption | with_reducible rfl | omega | assumption | rfl) hd0_b hd1_b hg0_b hg1_b (hTw (by first | with_reducible assumption | assumption))) (kV_RX11_117 C.2.2.2.2 (Nat.le_of_ble_eq_true rfl) (Nat.le_of_ble_eq_true rfl)) [1, 2, 3, 4, 5, 6, 7, 8, 9, 10, 11, 12, 13, 14] [1, 0, 0, 0, 0, 0, 0, 0, 0, 0, 0, 0, 0, 0] rfl rfl (ci := 8) (qc := (RX9, TX9, 8)) rfl rfl (List.mem_flatten.mpr ⟨_, List.mem_of_getElem? (i := 0) rfl, (bTold_mem ht).choose_spec⟩) rfl rfl hl.1 dX11_again_30 (Nat.le_of_ble_eq_true rfl) (Nat.le_of_ble_eq_true rfl) (fun b1 H locs hw G => ?_)
    refine zEx27 hw ?_
    intro wt2_3 g9_4 fk2_5 w2_6 s0_7 s0_8 s0_9 s0_10 w2_11 s1_12 s1_13 s1_14 s1_15 w2_16 s2_17 s2_18 s2_19 w2_20 s3_21 s3_22 s3_23 w2_24 s4_25 s4_26 w2_27 s5_28 s5_29
    refine zCu12 ?_
    intro hbs9 h_30 h_31 h_32 h_33 h_34 h_35 h_36 h_37 h_38 h_39 h_40
    clear hw
    subst hbs9
    have G : zS T A s.heap s [[zO10 xo t im mk rd po co tr wa wb_ fi cd], [zArq T 6 im 3 qi], [zAr T 2 mk 3 fmk], wwA, wwB, wff, wt2_3, w2_6, w2_11, w2_16, w2_20, w2_24, w2_27, wtb, z0_b, z1_b, wd0_b, wd1_b, wg0_b, wg1_b] _ _ := G
    refine lv_aload_n hx hb dX11_again_33 rfl (lv_at hl 0 rfl) ?_
    refine lv_iconst (v := 1) hx hb dX11_again_34 (by decide) ?_
    refine z_Vv (bc := [[zO10 xo t im mk rd po co tr wa wb_ fi cd], wwA, wwB, wff]) (br := [[zArq T 6 im 3 qi], [zAr T 2 mk 3 fmk], wt2_3, w2_6, w2_11, w2_16, w2_20, w2_24, w2_27, wtb, z0_b, z1_b, wd0_b, wd1_b, wg0_b, wg1_b]) (As := [.int 1]) (rest := []) C G (c_forget1 l T xo t im mk rd po co tr wa wb_ fi cd laA mdA wyA pc_A f1A f2A f3A f4A f5A f6A n4A wwA laB mdB wyB pc_B f1B f2B f3B f4B f5B f6B n4B wwB e0f e1f e2f e3f e4f e5f r1f m1f r2f wff hwwA hwwB hwff) (kV_RX11_105 C.2.2.2.2 (Nat.le_of_ble_eq_true rfl) (Nat.le_of_ble_eq_true rfl)) [0, 3, 4, 5] [0, 2, 0, 0] rfl rfl (ci := 10) (qc := (RX11, TX11, 11)) rfl rfl (List.mem_flatten.mpr ⟨_, List.mem_of_getElem? (i := 0) rfl, List.mem_cons_self⟩) rfl rfl hl.1 dX11_again_35 (Nat.le_of_ble_eq_true rfl) (Nat.le_of_ble_eq_true rfl) (fun b1 H locs hw G => ?_)
    refine zEx3 hw ?_
    intro wwA_42 wwB_43 wff_44
    refine zCu4 ?_
    intro hbs9 h_45 h_46 h_47
    clear hw
    subst hbs9
    have G : zS T A s.heap s [[zArq T 6 im 3 qi], [zAr T 2 mk 3 fmk], wt2_3, w2_6, w2_11, w2_16, w2_20, w2_24, w2_27, wtb, z0_b, z1_b, wd0_b, wd1_b, wg0_b, wg1_b, [zO10 xo t im mk rd po co tr wa wb_ fi cd], wwA_42, wwB_43, wff_44] _ _ := G
    refine lv_iconst (v := 1) hx hb dX11_again_38 (by decide) ?_
    have G := G.sub (bs' := [[zO10 xo t im mk rd po co tr wa wb_ fi cd], wt2_3, w2_6, w2_11, w2_16, w2_20, w2_24, w2_27, wtb, z0_b, z1_b, wd0_b, wd1_b, wg0_b, wg1_b, [zArq T 6 im 3 qi], [zAr T 2 mk 3 fmk], wwA_42, wwB_43, wff_44]) [16, 2, 3, 4, 5, 6, 7, 8, 9, 10, 11, 12, 13, 14, 15, 0, 1, 17, 18, 19] rfl
    exact z_back hQz_ (z_zret C hr hlocks G (Nat.le_of_ble_eq_true rfl) (Nat.le_of_ble_eq_true rfl) dX11_again_39 rfl ⟨lnb, flb, plb, g9_4, fk2_5, wt2_3, cr0_b, inn0_b, s0_7, s0_8, s0_9, s0_10, w2_6, cr1_b, inn1_b, s1_12, s1_13, s1_14, s1_15, w2_11, dd0_b, s2_17, s2_18, s2_19, w2_16, dd1_b, s3_21, s3_22, s3_23, w2_20, gg0_b, s4_25, s4_26, w2_24, gg1_b, s5_28, s5_29, w2_27, wwA_42, wwB_43, wff_44, 0, 0, 0, rfl, h_30, (by first | with_reducible assumption | omega | trivial | assumption), h_32, (by first | with_reducible assumption | omega | trivial | assumption), h_33, (by first | with_reducible assumption | omega | trivial | assumption), h_34, h_35, h_36, h_37, h_45, h_46, h_47, (by first | exact Or.inl ⟨rfl, rfl, rfl⟩ | exact Or.inr (Or.inl ⟨rfl, rfl, rfl⟩) | exact Or.inr (Or.inr ⟨rfl, rfl, rfl⟩)), (Or.inr ⟨by first | with_reducible assumption | assumption, rfl, h_40⟩)⟩)
  · have c_2n : (fmk 1).toInt = (0 : Int) := (fa_eq _ _).mp c_2
    refine lv_iconst (v := 0) hx hb dX11_again_18 (by decide) ?_
    exact z_back hQz_ (z_zret C hr hlocks G (Nat.le_of_ble_eq_true rfl) (Nat.le_of_ble_eq_true rfl) dX11_again_19 rfl ⟨ln, fl, pl, ft, fk, wt, cr0_, inn0_, k10_, k20_, k30_, k40_, z0_, cr1_, inn1_, k11_, k21_, k31_, k41_, z1_, dd0_, p10_, p20_, p30_, wd0_, dd1_, p11_, p21_, p31_, wd1_, gg0_, q10_, q20_, wg0_, gg1_, q11_, q21_, wg1_, wwA, wwB, wff, mdA, mdB, e0f, rfl, ht, (by first | with_reducible assumption | omega | trivial | assumption), hz0_, (by first | with_reducible assumption | omega | trivial | assumption), hz1_, (by first | with_reducible assumption | omega | trivial | assumption), hd0_, hd1_, hg0_, hg1_, hwwA, hwwB, hwff, (by first | exact Or.inl ⟨rfl, rfl, rfl⟩ | exact Or.inr (Or.inl ⟨rfl, rfl, rfl⟩) | exact Or.inr (Or.inr ⟨rfl, rfl, rfl⟩)), (Or.inl ⟨by first | with_reducible assumption | assumption, rfl, hT⟩)⟩)
set_option maxHeartbeats 4000000 in
set_option maxRecDepth 100000 in
/-- c_f_again2 -/
theorem c_f_again2 (l : Launch) (T : zTy) (xo : Nat) (t : Nat) (im : Nat) (mk : Nat) (rd : Nat) (po : Nat) (co : Nat) (tr : Nat) (wa : Nat) (wb_ : Nat) (fi : Nat) (cd : Nat) (l0 : Nat) (l1 : Nat) (d0 : Nat) (d1 : Nat) (g0 : Nat) (g1 : Nat) (ln : Int32) (fl : Int32) (pl : Int32) (ft : Nat → Int32) (fk : Nat → Int32) (wt : va_W) (cr0_ : Int32) (inn0_ : Int32) (k10_ : Nat → Int32) (k20_ : Nat → Int32) (k30_ : Nat → Int32) (k40_ : Nat → Int32) (z0_ : va_W) (cr1_ : Int32) (inn1_ : Int32) (k11_ : Nat → Int32) (k21_ : Nat → Int32) (k31_ : Nat → Int32) (k41_ : Nat → Int32) (z1_ : va_W) (dd0_ : Int32) (p10_ : Nat → Int32) (p20_ : Nat → Int32) (p30_ : Nat → Int32) (wd0_ : va_W) (dd1_ : Int32) (p11_ : Nat → Int32) (p21_ : Nat → Int32) (p31_ : Nat → Int32) (wd1_ : va_W) (gg0_ : Int32) (q10_ : Nat → Int32) (q20_ : Nat → Int32) (wg0_ : va_W) (gg1_ : Int32) (q11_ : Nat → Int32) (q21_ : Nat → Int32) (wg1_ : va_W) (m0 : Nat) (m1 : Nat) (m2 : Nat) (l0c : Nat) (l1c : Nat) (d0c : Nat) (d1c : Nat) (g0c : Nat) (g1c : Nat) (lnc : Int32) (flc : Int32) (plc : Int32) (ftc : Nat → Int32) (fkc : Nat → Int32) (wtc : va_W) (cr0_c : Int32) (inn0_c : Int32) (k10_c : Nat → Int32) (k20_c : Nat → Int32) (k30_c : Nat → Int32) (k40_c : Nat → Int32) (z0_c : va_W) (cr1_c : Int32) (inn1_c : Int32) (k11_c : Nat → Int32) (k21_c : Nat → Int32) (k31_c : Nat → Int32) (k41_c : Nat → Int32) (z1_c : va_W) (dd0_c : Int32) (p10_c : Nat → Int32) (p20_c : Nat → Int32) (p30_c : Nat → Int32) (wd0_c : va_W) (dd1_c : Int32) (p11_c : Nat → Int32) (p21_c : Nat → Int32) (p31_c : Nat → Int32) (wd1_c : va_W) (gg0_c : Int32) (q10_c : Nat → Int32) (q20_c : Nat → Int32) (wg0_c : va_W) (gg1_c : Int32) (q11_c : Nat → Int32) (q21_c : Nat → Int32) (wg1_c : va_W) (qi : Nat → Option Nat) (fmk : Nat → Int32) (laA : Nat) (mdA : Int32) (wyA : Int32) (pc_A : Int32) (f1A : Nat → Int32) (f2A : Nat → Int32) (f3A : Nat → Int32) (f4A : Nat → Int32) (f5A : Nat → Int32) (f6A : Nat → Int32) (n4A : Nat) (wwA : va_W) (laB : Nat) (mdB : Int32) (wyB : Int32) (pc_B : Int32) (f1B : Nat → Int32) (f2B : Nat → Int32) (f3B : Nat → Int32) (f4B : Nat → Int32) (f5B : Nat → Int32) (f6B : Nat → Int32) (n4B : Nat) (wwB : va_W) (e0f : Int32) (e1f : Int32) (e2f : Int32) (e3f : Int32) (e4f : Int32) (e5f : Int32) (r1f : Nat → Int32) (m1f : Nat) (r2f : Nat → Int32) (wff : va_W) (Gr : Nat → Int32) (Gw : Nat → Int32) (ht : bTold T t l0 l1 d0 d1 g0 g1 ln fl pl ft fk wt) (hK : zKT fk) (hz0_ : bLand T l0 cr0_ inn0_ k10_ k20_ k30_ k40_ z0_) (hI0_ : zLI cr0_ k10_ k30_) (hz1_ : bLand T l1 cr1_ inn1_ k11_ k21_ k31_ k41_ z1_) (hI1_ : zLI cr1_ k11_ k31_) (hd0_ : bDay T d0 dd0_ p10_ p20_ p30_ wd0_) (hd1_ : bDay T d1 dd1_ p11_ p21_ p31_ wd1_) (hg0_ : bLog T g0 gg0_ q10_ q20_ wg0_) (hg1_ : bLog T g1 gg1_ q11_ q21_ wg1_) (htc : bTold T m2 l0c l1c d0c d1c g0c g1c lnc flc plc ftc fkc wtc) (hKc : zKT fkc) (hz0_c : bLand T l0c cr0_c inn0_c k10_c k20_c k30_c k40_c z0_c) (hI0_c : zLI cr0_c k10_c k30_c) (hz1_c : bLand T l1c cr1_c inn1_c k11_c k21_c k31_c k41_c z1_c) (hI1_c : zLI cr1_c k11_c k31_c) (hd0_c : bDay T d0c dd0_c p10_c p20_c p30_c wd0_c) (hd1_c : bDay T d1c dd1_c p11_c p21_c p31_c wd1_c) (hg0_c : bLog T g0c gg0_c q10_c q20_c wg0_c) (hg1_c : bLog T g1c gg1_c q11_c q21_c wg1_c) (hm0 : qi 0 = some m0) (hm1 : qi 1 = some m1) (hm2 : qi 2 = some m2) (hwwA : bWays T wa laA mdA wyA pc_A f1A f2A f3A f4A f5A f6A n4A wwA) (hwwB : bWays T wb_ laB mdB wyB pc_B f1B f2B f3B f4B f5B f6B n4B wwB) (hwff : bFit T fi e0f e1f e2f e3f e4f e5f r1f m1f r2f wff) (hT : zTR ln fl pl ft fk cr0_ inn0_ k10_ k20_ k30_ k40_ cr1_ inn1_ k11_ k21_ k31_ k41_ dd0_ p10_ p20_ p30_ dd1_ p11_ p21_ p31_ gg0_ q10_ q20_ gg1_ q11_ q21_ Gr) (hTw : (¬ fmk 2 = 0 → zTR lnc flc plc ftc fkc cr0_c inn0_c k10_c k20_c k30_c k40_c cr1_c inn1_c k11_c k21_c k31_c k41_c dd0_c p10_c p20_c p30_c dd1_c p11_c p21_c p31_c gg0_c q10_c q20_c gg1_c q11_c q21_c Gw)) : zMi l T yX11_again cX11_again 2 (some .boolean) 3 0 0 [.ref xo, .int 2] [[zO10 xo t im mk rd po co tr wa wb_ fi cd], wt, z0_, z1_, wd0_, wd1_, wg0_, wg1_, wtc, z0_c, z1_c, wd0_c, wd1_c, wg0_c, wg1_c, [zArq T 6 im 3 qi], [zAr T 2 mk 3 fmk], wwA, wwB, wff] (fun (r : Int32) bs => ∃ (ln_2 : Int32) (fl_2 : Int32) (pl_2 : Int32) (ft_2 : Nat → Int32) (fk_2 : Nat → Int32) (wt_2 : va_W) (cr0__2 : Int32) (inn0__2 : Int32) (k10__2 : Nat → Int32) (k20__2 : Nat → Int32) (k30__2 : Nat → Int32) (k40__2 : Nat → Int32) (z0__2 : va_W) (cr1__2 : Int32) (inn1__2 : Int32) (k11__2 : Nat → Int32) (k21__2 : Nat → Int32) (k31__2 : Nat → Int32) (k41__2 : Nat → Int32) (z1__2 : va_W) (dd0__2 : Int32) (p10__2 : Nat → Int32) (p20__2 : Nat → Int32) (p30__2 : Nat → Int32) (wd0__2 : va_W) (dd1__2 : Int32) (p11__2 : Nat → Int32) (p21__2 : Nat → Int32) (p31__2 : Nat → Int32) (wd1__2 : va_W) (gg0__2 : Int32) (q10__2 : Nat → Int32) (q20__2 : Nat → Int32) (wg0__2 : va_W) (gg1__2 : Int32) (q11__2 : Nat → Int32) (q21__2 : Nat → Int32) (wg1__2 : va_W) (wwA_2 : va_W) (wwB_2 : va_W) (wff_2 : va_W) (mdA_2 : Int32) (mdB_2 : Int32) (e0f_2 : Int32), bs = [[zO10 xo t im mk rd po co tr wa wb_ fi cd], wt_2, z0__2, z1__2, wd0__2, wd1__2, wg0__2, wg1__2, wtc, z0_c, z1_c, wd0_c, wd1_c, wg0_c, wg1_c, [zArq T 6 im 3 qi], [zAr T 2 mk 3 fmk], wwA_2, wwB_2, wff_2] ∧ bTold T t l0 l1 d0 d1 g0 g1 ln_2 fl_2 pl_2 ft_2 fk_2 wt_2 ∧ zKT fk_2 ∧ bLand T l0 cr0__2 inn0__2 k10__2 k20__2 k30__2 k40__2 z0__2 ∧ zLI cr0__2 k10__2 k30__2 ∧ bLand T l1 cr1__2 inn1__2 k11__2 k21__2 k31__2 k41__2 z1__2 ∧ zLI cr1__2 k11__2 k31__2 ∧ bDay T d0 dd0__2 p10__2 p20__2 p30__2 wd0__2 ∧ bDay T d1 dd1__2 p11__2 p21__2 p31__2 wd1__2 ∧ bLog T g0 gg0__2 q10__2 q20__2 wg0__2 ∧ bLog T g1 gg1__2 q11__2 q21__2 wg1__2 ∧ bWays T wa laA mdA_2 wyA pc_A f1A f2A f3A f4A f5A f6A n4A wwA_2 ∧ bWays T wb_ laB mdB_2 wyB pc_B f1B f2B f3B f4B f5B f6B n4B wwB_2 ∧ bFit T fi e0f_2 e1f e2f e3f e4f e5f r1f m1f r2f wff_2 ∧ (mdA_2 = 0 ∧ mdB_2 = 0 ∧ e0f_2 = 0 ∨ mdA_2 = mdA ∧ mdB_2 = mdB ∧ e0f_2 = 0 ∨ mdA_2 = mdA ∧ mdB_2 = mdB ∧ e0f_2 = e0f) ∧ (fmk 2 = 0 ∧ r = 0 ∧ zTR ln_2 fl_2 pl_2 ft_2 fk_2 cr0__2 inn0__2 k10__2 k20__2 k30__2 k40__2 cr1__2 inn1__2 k11__2 k21__2 k31__2 k41__2 dd0__2 p10__2 p20__2 p30__2 dd1__2 p11__2 p21__2 p31__2 gg0__2 q10__2 q20__2 gg1__2 q11__2 q21__2 Gr ∨ ¬ fmk 2 = 0 ∧ r = 1 ∧ zTR ln_2 fl_2 pl_2 ft_2 fk_2 cr0__2 inn0__2 k10__2 k20__2 k30__2 k40__2 cr1__2 inn1__2 k11__2 k21__2 k31__2 k41__2 dd0__2 p10__2 p20__2 p30__2 dd1__2 p11__2 p21__2 p31__2 gg0__2 q10__2 q20__2 gg1__2 q11__2 q21__2 Gw)) := by
  refine zMi_of (own := RX11) (by decide) rfl (Nat.le_of_ble_eq_true rfl) ?_
  intro p e s m args below meth c A ls C hr hlocks hnm hAe G hl
  refine zHide (fun Qz_ hQz_ => ?_)
  have hx := C.1
  have hb := C.2.1
  replace hTw : zHd ((¬ fmk 2 = 0 → zTR lnc flc plc ftc fkc cr0_c inn0_c k10_c k20_c k30_c k40_c cr1_c inn1_c k11_c k21_c k31_c k41_c dd0_c p10_c p20_c p30_c dd1_c p11_c p21_c p31_c gg0_c q10_c q20_c gg1_c q11_c q21_c Gw)) := hTw
  have hl : lv_has ls 2 [(0, .ref xo), (1, .int 2)] := hl
  refine lv_iload_n hx hb dX11_again_0 rfl (lv_at hl 1 rfl) ?_
  refine lv_if_lt (tgt := 18) hx hb dX11_again_1 (by decide) (fun q => absurd q (by decide)) (fun _ => ?_)
  refine lv_iload_n hx hb dX11_again_4 rfl (lv_at hl 1 rfl) ?_
  refine lv_iconst (v := 3) hx hb dX11_again_5 (by decide) ?_
  refine lv_icmp_ge (tgt := 18) hx hb dX11_again_6 (by decide) (fun q => absurd q (by decide)) (fun _ => ?_)
  refine lv_aload_n hx hb dX11_again_9 rfl (lv_at hl 0 rfl) ?_
  refine z_get C G clX11 0 rfl 2 (by decide) m_fl_RX11_20 rfl dX11_again_10 ?_
  refine lv_iload_n hx hb dX11_again_13 rfl (lv_at hl 1 rfl) ?_
  refine z_zld C G 16 rfl (vp_in_nI (n := 2) (by decide) (by decide)) dX11_again_14 ?_
  refine lv_topi (fun v_1 ev_1 => ?_)
  rw [show ((2 : Int32).toNatClampNeg) = 2 from rfl] at ev_1
  subst ev_1
  refine lv_if_ne (tgt := 20) hx hb dX11_again_15 (by decide) (fun c_2 => ?_) (fun c_2 => ?_)
  · have c_2n : ¬ (fmk 2).toInt = (0 : Int) := fun q => c_2 ((fa_eq _ _).mpr q)
    refine lv_aload_n hx hb dX11_again_20 rfl (lv_at hl 0 rfl) ?_
    refine z_get C G clX11 0 rfl 0 (by decide) m_fl_RX11_10 rfl dX11_again_21 ?_
    refine lv_aload_n hx hb dX11_again_24 rfl (lv_at hl 0 rfl) ?_
    refine z_get C G clX11 0 rfl 1 (by decide) m_fl_RX11_16 rfl dX11_again_25 ?_
    refine lv_iload_n hx hb dX11_again_28 rfl (lv_at hl 1 rfl) ?_
    refine z_ald C G 15 6 rfl rfl (vp_in_nI (n := 2) (by decide) (by decide)) dX11_again_29 ?_
    rw [show qi ((2 : Int32).toNatClampNeg) = some m2 from hm2]
    refine z_Vv (bc := [wt, z0_, z1_, wd0_, wd1_, wg0_, wg1_, wtc, z0_c, z1_c, wd0_c, wd1_c, wg0_c, wg1_c]) (br := [[zO10 xo t im mk rd po co tr wa wb_ fi cd], [zArq T 6 im 3 qi], [zAr T 2 mk 3 fmk], wwA, wwB, wff]) (As := [.ref m2]) (rest := []) C G (c_f_Told_takeAll l T t l0 l1 d0 d1 g0 g1 ln fl pl ft fk wt cr0_ inn0_ k10_ k20_ k30_ k40_ z0_ cr1_ inn1_ k11_ k21_ k31_ k41_ z1_ dd0_ p10_ p20_ p30_ wd0_ dd1_ p11_ p21_ p31_ wd1_ gg0_ q10_ q20_ wg0_ gg1_ q11_ q21_ wg1_ m2 l0c l1c d0c d1c g0c g1c lnc flc plc ftc fkc wtc cr0_c inn0_c k10_c k20_c k30_c k40_c z0_c cr1_c inn1_c k11_c k21_c k31_c k41_c z1_c dd0_c p10_c p20_c p30_c wd0_c dd1_c p11_c p21_c p31_c wd1_c gg0_c q10_c q20_c wg0_c gg1_c q11_c q21_c wg1_c Gw ht (by first | with_reducible assumption | with_reducible rfl | omega | assumption | rfl) hz0_ (by first | with_reducible assumption | with_reducible rfl | omega | assumption | rfl) hz1_ (by first | with_reducible assumption | with_reducible rfl | omega | assumption | rfl) hd0_ hd1_ hg0_ hg1_ htc (by first | with_reducible assumption | with_reducible rfl | omega | assumption | rfl) hz0_c (by first | with_reducible assumption | with_reducible rfl | omega | assumption | rfl) hz1_c (by first | with_reducible assumption | with_reducible rfl | omega | assumption | rfl) hd0_c hd1_c hg0_c hg1_c (hTw (by first | with_reducible assumption | assumption))) (kV_RX11_117 C.2.2.2.2 (Nat.le_of_ble_eq_true rfl) (Nat.le_of_ble_eq_true rfl)) [1, 2, 3, 4, 5, 6, 7, 8, 9, 10, 11, 12, 13, 14] [1, 0, 0, 0, 0, 0, 0, 0, 0, 0, 0, 0, 0, 0] rfl rfl (ci := 8) (qc := (RX9, TX9, 8)) rfl rfl (List.mem_flatten.mpr ⟨_, List.mem_of_getElem? (i := 0) rfl, (bTold_mem ht).choose_spec⟩) rfl rfl hl.1 dX11_again_30 (Nat.le_of_ble_eq_true rfl) (Nat.le_of_ble_eq_true rfl) (fun b1 H locs hw G => ?_)
    refine zEx27 hw ?_
    intro wt2_3 g9_4 fk2_5 w2_6 s0_7 s0_8 s0_9 s0_10 w2_11 s1_12 s1_13 s1_14 s1_15 w2_16 s2_17 s2_18 s2_19 w2_20 s3_21 s3_22 s3_23 w2_24 s4_25 s4_26 w2_27 s5_28 s5_29
    refine zCu12 ?_
    intro hbs9 h_30 h_31 h_32 h_33 h_34 h_35 h_36 h_37 h_38 h_39 h_40
    clear hw
    subst hbs9
    have G : zS T A s.heap s [[zO10 xo t im mk rd po co tr wa wb_ fi cd], [zArq T 6 im 3 qi], [zAr T 2 mk 3 fmk], wwA, wwB, wff, wt2_3, w2_6, w2_11, w2_16, w2_20, w2_24, w2_27, wtc, z0_c, z1_c, wd0_c, wd1_c, wg0_c, wg1_c] _ _ := G
    refine lv_aload_n hx hb dX11_again_33 rfl (lv_at hl 0 rfl) ?_
    refine lv_iconst (v := 1) hx hb dX11_again_34 (by decide) ?_
    refine z_Vv (bc := [[zO10 xo t im mk rd po co tr wa wb_ fi cd], wwA, wwB, wff]) (br := [[zArq T 6 im 3 qi], [zAr T 2 mk 3 fmk], wt2_3, w2_6, w2_11, w2_16, w2_20, w2_24, w2_27, wtc, z0_c, z1_c, wd0_c, wd1_c, wg0_c, wg1_c]) (As := [.int 1]) (rest := []) C G (c_forget1 l T xo t im mk rd po co tr wa wb_ fi cd laA mdA wyA pc_A f1A f2A f3A f4A f5A f6A n4A wwA laB mdB wyB pc_B f1B f2B f3B f4B f5B f6B n4B wwB e0f e1f e2f e3f e4f e5f r1f m1f r2f wff hwwA hwwB hwff) (kV_RX11_105 C.2.2.2.2 (Nat.le_of_ble_eq_true rfl) (Nat.le_of_ble_eq_true rfl)) [0, 3, 4, 5] [0, 2, 0, 0] rfl rfl (ci := 10) (qc := (RX11, TX11, 11)) rfl rfl (List.mem_flatten.mpr ⟨_, List.mem_of_getElem? (i := 0) rfl, List.mem_cons_self⟩) rfl rfl hl.1 dX11_again_35 (Nat.le_of_ble_eq_true rfl) (Nat.le_of_ble_eq_true rfl) (fun b1 H locs hw G => ?_)
    refine zEx3 hw ?_
    intro wwA_42 wwB_43 wff_44
    refine zCu4 ?_
    intro hbs9 h_45 h_46 h_47
    clear hw
    subst hbs9
    have G : zS T A s.heap s [[zArq T 6 im 3 qi], [zAr T 2 mk 3 fmk], wt2_3, w2_6, w2_11, w2_16, w2_20, w2_24, w2_27, wtc, z0_c, z1_c, wd0_c, wd1_c, wg0_c, wg1_c, [zO10 xo t im mk rd po co tr wa wb_ fi cd], wwA_42, wwB_43, wff_44] _ _ := G
    refine lv_iconst (v := 1) hx hb dX11_again_38 (by decide) ?_
    have G := G.sub (bs' := [[zO10 xo t im mk rd po co tr wa wb_ fi cd], wt2_3, w2_6, w2_11, w2_16, w2_20, w2_24, w2_27, wtc, z0_c, z1_c, wd0_c, wd1_c, wg0_c, wg1_c, [zArq T 6 im 3 qi], [zAr T 2 mk 3 fmk], wwA_42, wwB_43, wff_44]) [16, 2, 3, 4, 5, 6, 7, 8, 9, 10, 11, 12, 13, 14, 15, 0, 1, 17, 18, 19] rfl
    exact z_back hQz_ (z_zret C hr hlocks G (Nat.le_of_ble_eq_true rfl) (Nat.le_of_ble_eq_true rfl) dX11_again_39 rfl ⟨lnc, flc, plc, g9_4, fk2_5, wt2_3, cr0_c, inn0_c, s0_7, s0_8, s0_9, s0_10, w2_6, cr1_c, inn1_c, s1_12, s1_13, s1_14, s1_15, w2_11, dd0_c, s2_17, s2_18, s2_19, w2_16, dd1_c, s3_21, s3_22, s3_23, w2_20, gg0_c, s4_25, s4_26, w2_24, gg1_c, s5_28, s5_29, w2_27, wwA_42, wwB_43, wff_44, 0, 0, 0, rfl, h_30, (by first | with_reducible assumption | omega | trivial | assumption), h_32, (by first | with_reducible assumption | omega | trivial | assumption), h_33, (by first | with_reducible assumption | omega | trivial | assumption), h_34, h_35, h_36, h_37, h_45, h_46, h_47, (by first | exact Or.inl ⟨rfl, rfl, rfl⟩ | exact Or.inr (Or.inl ⟨rfl, rfl, rfl⟩) | exact Or.inr (Or.inr ⟨rfl, rfl, rfl⟩)), (Or.inr ⟨by first | with_reducible assumption | assumption, rfl, h_40⟩)⟩)
  · have c_2n : (fmk 2).toInt = (0 : Int) := (fa_eq _ _).mp c_2
    refine lv_iconst (v := 0) hx hb dX11_again_18 (by decide) ?_
    exact z_back hQz_ (z_zret C hr hlocks G (Nat.le_of_ble_eq_true rfl) (Nat.le_of_ble_eq_true rfl) dX11_again_19 rfl ⟨ln, fl, pl, ft, fk, wt, cr0_, inn0_, k10_, k20_, k30_, k40_, z0_, cr1_, inn1_, k11_, k21_, k31_, k41_, z1_, dd0_, p10_, p20_, p30_, wd0_, dd1_, p11_, p21_, p31_, wd1_, gg0_, q10_, q20_, wg0_, gg1_, q11_, q21_, wg1_, wwA, wwB, wff, mdA, mdB, e0f, rfl, ht, (by first | with_reducible assumption | omega | trivial | assumption), hz0_, (by first | with_reducible assumption | omega | trivial | assumption), hz1_, (by first | with_reducible assumption | omega | trivial | assumption), hd0_, hd1_, hg0_, hg1_, hwwA, hwwB, hwff, (by first | exact Or.inl ⟨rfl, rfl, rfl⟩ | exact Or.inr (Or.inl ⟨rfl, rfl, rfl⟩) | exact Or.inr (Or.inr ⟨rfl, rfl, rfl⟩)), (Or.inl ⟨by first | with_reducible assumption | assumption, rfl, hT⟩)⟩)
theorem zB01 (x : Int32) : x &&& 1 = 0 ∨ x &&& 1 = 1 := by
  obtain ⟨j, hj, e⟩ := pk_andE x (m := 1) 1 (by decide)
  rw [e]
  rcases (show j = 0 ∨ j = 1 by omega) with q | q
  · rw [q]; exact Or.inl rfl
  · rw [q]; exact Or.inr rfl
theorem zBit_n {x y : Int32} (h : ¬ zBit x y = 1) : zBit x y = 0 := (zB01 (x >>> (y &&& 31))).resolve_right h
theorem zBit_p {x y : Int32} (h : ¬ zBit x y = 0) : zBit x y = 1 := (zB01 (x >>> (y &&& 31))).resolve_left h
theorem zBit_o {x y : Int32} (h : zBit x y = 1) : ¬ zBit x y = 0 := fun q => absurd (q.symm.trans h) (by decide)
theorem zRm2 {x n : Int32} (h0 : 0 ≤ x.toInt) (h1 : 0 < n.toInt) (h4 : n.toInt ≤ 4) (h2 : x.toInt < 2 * n.toInt) : x.toInt < n.toInt ∧ (x - x / n * n).toInt = x.toInt ∨ n.toInt ≤ x.toInt ∧ (x - x / n * n).toInt = x.toInt - n.toInt := by
  rw [rem_toInt, Int.tmod_eq_emod_of_nonneg h0]
  rcases (show n.toInt = 1 ∨ n.toInt = 2 ∨ n.toInt = 3 ∨ n.toInt = 4 by omega) with q | q | q | q <;> rw [q] <;> omega
def zRo (f : Nat → Int32) (z : Int32) (j : Nat) : Int32 := f (z.toInt.toNat + (2 + j))
def zLo (f : Nat → Int32) (z : Int32) (i : Nat) : Int32 := f (z.toInt.toNat + (23 + i))
def zPo (f : Nat → Int32) (z : Int32) (j : Nat) : Int32 := f (z.toInt.toNat + (9 + j))
/-- ways out: none of an inn -/
def zWo (f : Nat → Int32) (z inns : Int32) (j : Nat) : Int32 := if zBit inns (nI j) = 1 then 0 else zRo f z j
/-- each post points to a road that is there, or to the first one -/
def zMV (R P : Nat → Int32) : Prop := ∀ c, c < 7 → (R c).toInt ≤ 0 ∨ (P c).toInt = 0 ∨ (P c).toInt < (R c).toInt
theorem zMV_upd {R P : Nat → Int32} {k : Nat} {v : Int32} (h : zMV R P) (hv : v.toInt < (R k).toInt) : zMV R (upd P k v) := by
  intro c hc
  unfold upd
  split
  · rename_i e
    rw [e]
    exact Or.inr (Or.inr hv)
  · exact h c hc
theorem zNext_m {R q k : Int32} {p i : Int} (hr : R.toInt ≤ 4) (hp : 0 ≤ p) (hpr : p < R.toInt) (hi : 1 ≤ i ∧ i ≤ R.toInt) (hq : q.toInt = p + i - 1 ∧ q.toInt < R.toInt ∨ q.toInt = p + i - 1 - R.toInt ∧ 0 ≤ q.toInt) (hk : p + i < R.toInt ∧ k.toInt = p + i ∨ R.toInt ≤ p + i ∧ k.toInt = p + i - R.toInt) : zNext R q = k := by
  have e : (q + 1).toInt = q.toInt + 1 := z_iaddI (by show -2147483648 ≤ q.toInt + 1; omega) (by show q.toInt + 1 < 2147483648; omega)
  unfold zNext
  by_cases hc : q + 1 < R
  · rw [if_pos hc]
    have hc2 := (fa_lt _ _).mp hc
    exact Int32.toInt_inj.mp (by omega)
  · rw [if_neg hc]
    have hc2 : ¬ (q + 1).toInt < R.toInt := fun z => hc ((fa_lt _ _).mpr z)
    exact Int32.toInt_inj.mp (by show (0 : Int) = k.toInt; omega)
theorem zTurnR_lt {roads closed : Int32} (h4 : roads.toInt ≤ 4) : ∀ (n : Nat) (r : Int32), (n : Int) ≤ roads.toInt → 0 ≤ r.toInt → r.toInt ≤ 1000 → zTurnR roads closed n r = -1 ∨ 0 ≤ (zTurnR roads closed n r).toInt ∧ (zTurnR roads closed n r).toInt < roads.toInt
  | 0, r, _, _, _ => Or.inl rfl
  | n + 1, r, hn, h1, h2 => by
    have e : (r + 1).toInt = r.toInt + 1 := z_iaddI (by show -2147483648 ≤ r.toInt + 1; omega) (by show r.toInt + 1 < 2147483648; omega)
    have hq : 0 ≤ (zNext roads r).toInt ∧ (zNext roads r).toInt < roads.toInt := by
      unfold zNext
      by_cases hc : r + 1 < roads
      · rw [if_pos hc]
        have hc2 := (fa_lt _ _).mp hc
        omega
      · rw [if_neg hc]
        exact ⟨by decide, by show (0 : Int) < roads.toInt; omega⟩
    rw [zTurnR]
    by_cases hb : zBit closed (zNext roads r) = 0
    · rw [if_pos hb]
      exact Or.inr hq
    · rw [if_neg hb]
      exact zTurnR_lt h4 n _ (by omega) hq.1 (by omega)
theorem zTurn_lt {f1 f2 f3 : Nat → Int32} (hI : zP3 f1 f3) (x : Int32) : zTurn f1 f2 f3 x = -1 ∨ 0 ≤ x.toInt ∧ x.toInt < 7 ∧ 0 ≤ (zTurn f1 f2 f3 x).toInt ∧ (zTurn f1 f2 f3 x).toInt < (f3 x.toNatClampNeg).toInt := by
  unfold zTurn
  split
  · rename_i q
    have e := z_clI q.1
    have h := hI x.toNatClampNeg (by omega)
    have e2 := z_clI h.1.1
    rcases zTurnR_lt (closed := f2 x.toNatClampNeg) h.1.2 (f3 x.toNatClampNeg).toNatClampNeg (f1 x.toNatClampNeg) (by omega) h.2.1 h.2.2 with g | g
    · exact Or.inl g
    · exact Or.inr ⟨q.1, q.2, g.1, g.2⟩
  · exact Or.inl rfl
theorem zTurn_cg {f1 f2 f3 g1 g2 g3 : Nat → Int32} (h1 : ∀ j, j < 7 → f1 j = g1 j) (h2 : ∀ j, j < 7 → f2 j = g2 j) (h3 : ∀ j, j < 7 → f3 j = g3 j) (x : Int32) : zTurn f1 f2 f3 x = zTurn g1 g2 g3 x := by
  unfold zTurn
  by_cases q : 0 ≤ x.toInt ∧ x.toInt < 7
  · have e := z_clI q.1
    rw [if_pos q, if_pos q, h1 _ (by omega), h2 _ (by omega), h3 _ (by omega)]
  · rw [if_neg q, if_neg q]
theorem zPost_cg {f1 f2 f3 g1 g2 g3 : Nat → Int32} (h1 : ∀ j, j < 7 → f1 j = g1 j) (h2 : ∀ j, j < 7 → f2 j = g2 j) (h3 : ∀ j, j < 7 → f3 j = g3 j) (x : Int32) : ∀ j, j < 7 → zPost f1 f2 f3 x j = zPost g1 g2 g3 x j := by
  intro j hj
  unfold zPost
  rw [zTurn_cg h1 h2 h3 x]
  by_cases q : zTurn g1 g2 g3 x = -1
  · rw [if_pos q, if_pos q]
    exact h1 j hj
  · rw [if_neg q, if_neg q]
    unfold upd
    split
    · rfl
    · exact h1 j hj
/-- the roads of two rows lead to the same -/
def zLs (f3 lf lg : Nat → Int32) : Prop := ∀ j r : Nat, j < 7 → r < 4 → (r : Int) < (f3 j).toInt → lf (4 * j + r) = lg (4 * j + r)
theorem zStep_cg {f1 f2 f3 g1 g2 g3 lf lg : Nat → Int32} (hI : zP3 f1 f3) (h1 : ∀ j, j < 7 → f1 j = g1 j) (h2 : ∀ j, j < 7 → f2 j = g2 j) (h3 : ∀ j, j < 7 → f3 j = g3 j) (hl : zLs f3 lf lg) (x : Int32) : zStep f1 f2 f3 lf x = zStep g1 g2 g3 lg x := by
  unfold zStep
  rw [← zTurn_cg h1 h2 h3 x]
  by_cases q : zTurn f1 f2 f3 x = -1
  · rw [if_pos q, if_pos q]
  · rw [if_neg q, if_neg q]
    have g := (zTurn_lt (f2 := f2) hI x).resolve_left q
    have e := z_clI g.1
    have e2 := z_clI g.2.2.1
    have e3 := (hI x.toNatClampNeg (by omega)).1.2
    exact hl _ _ (by omega) (by omega) (by omega)
theorem zRunN_cg {f2 f3 g2 g3 lf lg : Nat → Int32} (h2 : ∀ j, j < 7 → f2 j = g2 j) (h3 : ∀ j, j < 7 → f3 j = g3 j) (hl : zLs f3 lf lg) : ∀ (n : Nat) (f1 g1 : Nat → Int32) (x : Int32) (k : Nat), zP3 f1 f3 → (∀ j, j < 7 → f1 j = g1 j) → (∀ j, j < 7 → (zRunN f2 f3 lf n f1 x k).1 j = (zRunN g2 g3 lg n g1 x k).1 j) ∧ (zRunN f2 f3 lf n f1 x k).2 = (zRunN g2 g3 lg n g1 x k).2
  | 0, f1, g1, x, k, _, h1 => ⟨h1, rfl⟩
  | n + 1, f1, g1, x, k, hI, h1 => by
    have e := zStep_cg hI h1 h2 h3 hl x
    have p := zPost_cg h1 h2 h3 x
    unfold zRunN
    rw [← e]
    by_cases q : zStep f1 f2 f3 lf x = -1
    · rw [if_pos q, if_pos q]
      exact ⟨p, rfl⟩
    · rw [if_neg q, if_neg q]
      exact zRunN_cg h2 h3 hl n _ _ _ _ (zPost_I hI x) p
/-- how often he was at each -/
def zVi (w : Nat → Int32) (t : Int32) : Nat → Int32 := if 0 ≤ t.toInt ∧ t.toInt < 7 then upd w t.toNatClampNeg (w t.toNatClampNeg + 1) else w
def zWasN (f2 f3 lf : Nat → Int32) : Nat → (Nat → Int32) → Int32 → (Nat → Int32) → Nat → Int32
  | 0, _, _, w => w
  | n + 1, f, x, w => if zStep f f2 f3 lf x = -1 then w else zWasN f2 f3 lf n (zPost f f2 f3 x) (zStep f f2 f3 lf x) (zVi w (zStep f f2 f3 lf x))
theorem zTurn_wo {P S f : Nat → Int32} {z n x : Int32} (h : ¬ zBit n x = 1) (h0 : 0 ≤ x.toInt) (h6 : x.toInt ≤ 6) : zTurn P S (zWo f z n) x = zTurn P S (zRo f z) x := by
  have e := z_clI h0
  have e2 : x = nI x.toNatClampNeg := z_nI (by omega) (by omega)
  have e3 : zWo f z n x.toNatClampNeg = zRo f z x.toNatClampNeg := if_neg (by rw [← e2]; exact h)
  unfold zTurn
  rw [e3]
theorem zTurn_inn {P S f : Nat → Int32} {z n x : Int32} (h : zBit n x = 1) (h0 : 0 ≤ x.toInt) (h6 : x.toInt ≤ 6) : zTurn P S (zWo f z n) x = -1 := by
  have e := z_clI h0
  have e2 : x = nI x.toNatClampNeg := z_nI (by omega) (by omega)
  have e3 : zWo f z n x.toNatClampNeg = 0 := if_pos (by rw [← e2]; exact h)
  unfold zTurn
  rw [e3]
  split
  · rfl
  · rfl
theorem zPost_wo {P S f : Nat → Int32} {z n x : Int32} (h : ¬ zBit n x = 1) (h0 : 0 ≤ x.toInt) (h6 : x.toInt ≤ 6) : zPost P S (zWo f z n) x = zPost P S (zRo f z) x := by
  unfold zPost
  rw [zTurn_wo h h0 h6]
set_option maxHeartbeats 4000000 in
set_option maxRecDepth 100000 in
/-- c_fm_turns -/
theorem c_fm_turns (l : Launch) (T : zTy) (mo : Nat) (m_all : Nat) (m_has : Nat) (i_size : Int32) (i_next : Int32) (i_where : Int32) (i_token : Int32) (i_number : Int32) (i_word : Int32) (i_wrong : Int32) (i_farCrossing : Int32) (m_read : Nat) (i_z0 : Int32) (i_crossings : Int32) (i_inns : Int32) (m_posts : Nat) (m_shut : Nat) (m_here : Nat) (i_steps : Int32) (i_done : Int32) (i_at : Int32) (i_gone : Int32) (m_was : Nat) (m_came : Nat) (m_seenAt : Nat) (m_rowWorth : Nat) (m_farBy : Nat) (m_used : Nat) (i_everywhere : Int32) (i_again0 : Int32) (i_d0 : Int32) (i_never : Int32) (i_firstCame : Int32) (i_longRun : Int32) (i_moved : Int32) (i_crowd : Int32) (i_l0 : Int32) (i_fitMany : Int32) (i_fitLeast : Int32) (i_fitMost : Int32) (m_fitPost : Nat) (m_fitEnd : Nat) (m_keptPosts : Nat) (i_x0 : Int32) (f_all : Nat → Int32) (f_posts : Nat → Int32) (f_shut : Nat → Int32) (c_ : Int32) (hL : zML f_all i_z0 i_crossings) (hc0 : 0 ≤ c_.toInt) (hc6 : c_.toInt ≤ 6) (hV : zMV (zRo f_all i_z0) f_posts) (hP : zMP f_posts) : zMi l T yX12_turns cX12_turns 5 (some .boolean) 2 0 0 [.ref mo, .int c_] [[zO11 mo m_all m_has i_size i_next i_where i_token i_number i_word i_wrong i_farCrossing m_read i_z0 i_crossings i_inns m_posts m_shut m_here i_steps i_done i_at i_gone m_was m_came m_seenAt m_rowWorth m_farBy m_used i_everywhere i_again0 i_d0 i_never i_firstCame i_longRun i_moved i_crowd i_l0 i_fitMany i_fitLeast i_fitMost m_fitPost m_fitEnd m_keptPosts i_x0], [zAr T 0 m_all 3952 f_all], [zAr T 0 m_posts 7 f_posts], [zAr T 0 m_shut 7 f_shut]] (fun (r : Int32) bs => ∃ (g_posts : Nat → Int32), bs = [[zO11 mo m_all m_has i_size i_next i_where i_token i_number i_word i_wrong i_farCrossing m_read i_z0 i_crossings i_inns m_posts m_shut m_here i_steps i_done i_at i_gone m_was m_came m_seenAt m_rowWorth m_farBy m_used i_everywhere i_again0 i_d0 i_never i_firstCame i_longRun i_moved i_crowd i_l0 i_fitMany i_fitLeast i_fitMost m_fitPost m_fitEnd m_keptPosts i_x0], [zAr T 0 m_all 3952 f_all], [zAr T 0 m_posts 7 g_posts], [zAr T 0 m_shut 7 f_shut]] ∧ zMP g_posts ∧ zMV (zRo f_all i_z0) g_posts ∧ g_posts = zPost f_posts f_shut (zRo f_all i_z0) c_ ∧ ((r = 1 ∧ ¬ zTurn f_posts f_shut (zRo f_all i_z0) c_ = -1 ∧ 0 < (zRd f_all i_z0 c_).toInt) ∨ (r = 0 ∧ zTurn f_posts f_shut (zRo f_all i_z0) c_ = -1))) := by
  refine zMi_of (own := RX12) (by decide) rfl (Nat.le_of_ble_eq_true rfl) ?_
  intro p e s m args below meth c A ls C hr hlocks hnm hAe G hl
  refine zHide (fun Qz_ hQz_ => ?_)
  have hx := C.1
  have hb := C.2.1
  have hl : lv_has ls 5 [(0, .ref mo), (1, .int c_)] := hl
  have hz := hL.1
  have hcr := hL.cr
  have hcl := z_clI (x := c_) (by omega)
  have hpc := hP c_.toNatClampNeg (by omega)
  refine lv_aload_n hx hb dX12_turns_0 rfl (lv_at hl 0 rfl) ?_
  refine lv_iload_n hx hb dX12_turns_1 rfl (lv_at hl 1 rfl) ?_
  refine z_Vi (bc := [[zO11 mo m_all m_has i_size i_next i_where i_token i_number i_word i_wrong i_farCrossing m_read i_z0 i_crossings i_inns m_posts m_shut m_here i_steps i_done i_at i_gone m_was m_came m_seenAt m_rowWorth m_farBy m_used i_everywhere i_again0 i_d0 i_never i_firstCame i_longRun i_moved i_crowd i_l0 i_fitMany i_fitLeast i_fitMost m_fitPost m_fitEnd m_keptPosts i_x0], [zAr T 0 m_all 3952 f_all]]) (br := [[zAr T 0 m_posts 7 f_posts], [zAr T 0 m_shut 7 f_shut]]) (As := [.int c_]) (rest := []) C G (c_m_roadsOf l T mo m_all m_has i_size i_next i_where i_token i_number i_word i_wrong i_farCrossing m_read i_z0 i_crossings i_inns m_posts m_shut m_here i_steps i_done i_at i_gone m_was m_came m_seenAt m_rowWorth m_farBy m_used i_everywhere i_again0 i_d0 i_never i_firstCame i_longRun i_moved i_crowd i_l0 i_fitMany i_fitLeast i_fitMost m_fitPost m_fitEnd m_keptPosts i_x0 f_all c_ (by first | with_reducible assumption | with_reducible rfl | omega | assumption | rfl) (by first | with_reducible assumption | with_reducible rfl | omega | assumption | rfl) (by first | with_reducible assumption | with_reducible rfl | omega | assumption | rfl)) (kV_RX12_181 C.2.2.2.2 (Nat.le_of_ble_eq_true rfl) (Nat.le_of_ble_eq_true rfl)) [0, 1] [0, 0] rfl rfl (ci := 11) (qc := (RX12, TX12, 43)) rfl rfl (List.mem_flatten.mpr ⟨_, List.mem_of_getElem? (i := 0) rfl, List.mem_cons_self⟩) rfl rfl hl.1 dX12_turns_2 (Nat.le_of_ble_eq_true rfl) (Nat.le_of_ble_eq_true rfl) (fun r_4 b1 H locs hw G => ?_)
  refine zAn4 hw ?_
  intro hbs9 h_1 h_2 h_3
  clear hw
  subst hbs9
  have G : zS T A s.heap s [[zAr T 0 m_posts 7 f_posts], [zAr T 0 m_shut 7 f_shut], [zO11 mo m_all m_has i_size i_next i_where i_token i_number i_word i_wrong i_farCrossing m_read i_z0 i_crossings i_inns m_posts m_shut m_here i_steps i_done i_at i_gone m_was m_came m_seenAt m_rowWorth m_farBy m_used i_everywhere i_again0 i_d0 i_never i_firstCame i_longRun i_moved i_crowd i_l0 i_fitMany i_fitLeast i_fitMost m_fitPost m_fitEnd m_keptPosts i_x0], [zAr T 0 m_all 3952 f_all]] _ _ := G
  subst h_1
  refine lv_istore_n (lv' := [(2, .int (zRd f_all i_z0 c_)), (0, .ref mo), (1, .int c_)]) hx hb dX12_turns_5 rfl hl (by decide) (zLvf_h rfl) (fun ls hl => ?_)
  obtain ⟨n0, hn0⟩ : ∃ n0, n0 = (zRd f_all i_z0 c_).toNatClampNeg := ⟨_, rfl⟩
  have hcn := z_clI (x := zRd f_all i_z0 c_) (by omega)
  have hn4 : (n0 : Int) = (zRd f_all i_z0 c_).toInt := by rw [hn0]; exact hcn
  have hT : zTurn f_posts f_shut (zRo f_all i_z0) c_ = zTurnR (zRd f_all i_z0 c_) (f_shut c_.toNatClampNeg) (n0 + 1 - 1) (f_posts c_.toNatClampNeg) := by unfold zTurn; rw [if_pos ⟨by omega, by omega⟩, hn0]; rfl
  have hVc : (zRd f_all i_z0 c_).toInt ≤ 0 ∨ (f_posts c_.toNatClampNeg).toInt = 0 ∨ (f_posts c_.toNatClampNeg).toInt < (zRd f_all i_z0 c_).toInt := hV c_.toNatClampNeg (by omega)
  refine lv_iconst (v := 1) hx hb dX12_turns_6 (by decide) ?_
  refine lv_istore_n (lv' := [(3, .int 1), (2, .int (zRd f_all i_z0 c_)), (0, .ref mo), (1, .int c_)]) hx hb dX12_turns_7 rfl hl (by decide) (zLvf_h rfl) (fun ls hl => ?_)
  refine z_lp2 (T := T) 8 (fun (i : Nat) (q9 : Int32) => [[zAr T 0 m_posts 7 f_posts], [zAr T 0 m_shut 7 f_shut], [zO11 mo m_all m_has i_size i_next i_where i_token i_number i_word i_wrong i_farCrossing m_read i_z0 i_crossings i_inns m_posts m_shut m_here i_steps i_done i_at i_gone m_was m_came m_seenAt m_rowWorth m_farBy m_used i_everywhere i_again0 i_d0 i_never i_firstCame i_longRun i_moved i_crowd i_l0 i_fitMany i_fitLeast i_fitMost m_fitPost m_fitEnd m_keptPosts i_x0], [zAr T 0 m_all 3952 f_all]]) (fun (i : Nat) (q9 : Int32) => [(3, .int (nI i)), (2, .int (zRd f_all i_z0 c_)), (0, .ref mo), (1, .int c_)]) (fun (i : Nat) (q9 : Int32) => 1 ≤ i ∧ (i : Int) ≤ (zRd f_all i_z0 c_).toInt + 1 ∧ zTurn f_posts f_shut (zRo f_all i_z0) c_ = zTurnR (zRd f_all i_z0 c_) (f_shut c_.toNatClampNeg) (n0 + 1 - i) q9 ∧ ((zRd f_all i_z0 c_).toInt ≤ 0 ∨ q9.toInt = (f_posts c_.toNatClampNeg).toInt + (i : Int) - 1 ∧ q9.toInt < (zRd f_all i_z0 c_).toInt ∨ q9.toInt = (f_posts c_.toNatClampNeg).toInt + (i : Int) - 1 - (zRd f_all i_z0 c_).toInt ∧ 0 ≤ q9.toInt)) (fun (i : Nat) (q9 : Int32) => 6 - i) ?_ 1 (f_posts c_.toNatClampNeg) (show 1 ≤ 1 ∧ (1 : Int) ≤ (zRd f_all i_z0 c_).toInt + 1 ∧ zTurn f_posts f_shut (zRo f_all i_z0) c_ = zTurnR (zRd f_all i_z0 c_) (f_shut c_.toNatClampNeg) (n0 + 1 - 1) (f_posts c_.toNatClampNeg) ∧ ((zRd f_all i_z0 c_).toInt ≤ 0 ∨ (f_posts c_.toNatClampNeg).toInt = (f_posts c_.toNatClampNeg).toInt + (1 : Int) - 1 ∧ (f_posts c_.toNatClampNeg).toInt < (zRd f_all i_z0 c_).toInt ∨ (f_posts c_.toNatClampNeg).toInt = (f_posts c_.toNatClampNeg).toInt + (1 : Int) - 1 - (zRd f_all i_z0 c_).toInt ∧ 0 ≤ (f_posts c_.toNatClampNeg).toInt) from ⟨by omega, by omega, hT, by omega⟩) G (lv_sub hl [0, 1, 2, 3] rfl)
  intro i q9 hI9 ih_8 H locs ls G hl
  replace hI9 : 1 ≤ i ∧ (i : Int) ≤ (zRd f_all i_z0 c_).toInt + 1 ∧ zTurn f_posts f_shut (zRo f_all i_z0) c_ = zTurnR (zRd f_all i_z0 c_) (f_shut c_.toNatClampNeg) (n0 + 1 - i) q9 ∧ ((zRd f_all i_z0 c_).toInt ≤ 0 ∨ q9.toInt = (f_posts c_.toNatClampNeg).toInt + (i : Int) - 1 ∧ q9.toInt < (zRd f_all i_z0 c_).toInt ∨ q9.toInt = (f_posts c_.toNatClampNeg).toInt + (i : Int) - 1 - (zRd f_all i_z0 c_).toInt ∧ 0 ≤ q9.toInt) := hI9
  refine zAn4 hI9 ?_
  intro hi hi5 hq hq3
  clear hI9
  replace G : zS T A s.heap s [[zAr T 0 m_posts 7 f_posts], [zAr T 0 m_shut 7 f_shut], [zO11 mo m_all m_has i_size i_next i_where i_token i_number i_word i_wrong i_farCrossing m_read i_z0 i_crossings i_inns m_posts m_shut m_here i_steps i_done i_at i_gone m_was m_came m_seenAt m_rowWorth m_farBy m_used i_everywhere i_again0 i_d0 i_never i_firstCame i_longRun i_moved i_crowd i_l0 i_fitMany i_fitLeast i_fitMost m_fitPost m_fitEnd m_keptPosts i_x0], [zAr T 0 m_all 3952 f_all]] _ _ := G
  replace hl : lv_has ls 5 [(3, .int (nI i)), (2, .int (zRd f_all i_z0 c_)), (0, .ref mo), (1, .int c_)] := hl
  refine lv_iload_n hx hb dX12_turns_8 rfl (lv_at hl 0 rfl) ?_
  refine lv_iload_n hx hb dX12_turns_9 rfl (lv_at hl 1 rfl) ?_
  refine lv_icmp_gt (tgt := 59) hx hb dX12_turns_10 (by decide) (fun c_5 => ?_) (fun c_5 => ?_)
  · have c_5n : (zRd f_all i_z0 c_).toInt < (i : Int) := by have q := (fa_lt _ _).mp c_5; rw [nI_toInt (n := i) (by omega)] at q; exact q
    have hz : zTurn f_posts f_shut (zRo f_all i_z0) c_ = -1 := by rw [hq, show n0 + 1 - i = 0 by omega]; rfl
    refine lv_iconst (v := 0) hx hb dX12_turns_59 (by decide) ?_
    have G := G.sub (bs' := [[zO11 mo m_all m_has i_size i_next i_where i_token i_number i_word i_wrong i_farCrossing m_read i_z0 i_crossings i_inns m_posts m_shut m_here i_steps i_done i_at i_gone m_was m_came m_seenAt m_rowWorth m_farBy m_used i_everywhere i_again0 i_d0 i_never i_firstCame i_longRun i_moved i_crowd i_l0 i_fitMany i_fitLeast i_fitMost m_fitPost m_fitEnd m_keptPosts i_x0], [zAr T 0 m_all 3952 f_all], [zAr T 0 m_posts 7 f_posts], [zAr T 0 m_shut 7 f_shut]]) [2, 3, 0, 1] rfl
    exact z_back hQz_ (z_zret C hr hlocks G (Nat.le_of_ble_eq_true rfl) (Nat.le_of_ble_eq_true rfl) dX12_turns_60 rfl ⟨f_posts, rfl, (by first | with_reducible assumption | omega | trivial | assumption), (by first | with_reducible assumption | omega | trivial | assumption), (by unfold zPost; rw [if_pos hz]), (Or.inr (⟨rfl, hz⟩))⟩)
  · have c_5n : ¬ (zRd f_all i_z0 c_).toInt < (i : Int) := fun q => c_5 ((fa_lt _ _).mpr (by rw [nI_toInt (n := i) (by omega)]; exact q))
    refine lv_aload_n hx hb dX12_turns_13 rfl (lv_at hl 2 rfl) ?_
    refine z_get C G clX12 2 rfl 14 (by decide) m_fl_RX12_20 rfl dX12_turns_14 ?_
    refine lv_iload_n hx hb dX12_turns_17 rfl (lv_at hl 3 rfl) ?_
    refine z_ild C G 0 rfl (vp_in_iff.mpr ⟨by omega, by omega⟩) dX12_turns_18 ?_
    refine lv_topi (fun v_6 ev_6 => ?_)
    subst ev_6
    refine lv_iload_n hx hb dX12_turns_19 rfl (lv_at hl 0 rfl) ?_
    refine lv_iadd hx hb dX12_turns_20 ?_
    refine lv_topi (fun y_7 ey_7 => ?_)
    have ey_7i : y_7.toInt = (f_posts c_.toNatClampNeg).toInt + (i : Int) := by rw [ey_7]; exact (z_iaddI (x := (f_posts c_.toNatClampNeg)) (y := (nI i)) (by rw [nI_toInt (n := i) (by omega)]; show -2147483648 ≤ (f_posts c_.toNatClampNeg).toInt + (i : Int); omega) (by rw [nI_toInt (n := i) (by omega)]; show (f_posts c_.toNatClampNeg).toInt + (i : Int) < 2147483648; omega)).trans (by rw [nI_toInt (n := i) (by omega)] <;> rfl)
    refine lv_iload_n hx hb dX12_turns_21 rfl (lv_at hl 1 rfl) ?_
    refine lv_irem hx hb dX12_turns_22 (fun q => absurd (congrArg Int32.toInt q) (by show ¬ _ = (0 : Int); omega)) ?_
    refine lv_topi (fun kk_7 ekk_7 => ?_)
    have hrm := zRm2 (x := y_7) (n := zRd f_all i_z0 c_) (by omega) (by omega) (by omega) (by omega)
    rw [← ekk_7] at hrm
    have hnx : zNext (zRd f_all i_z0 c_) q9 = kk_7 := zNext_m (p := (f_posts c_.toNatClampNeg).toInt) (i := (i : Int)) (by omega) (by omega) (by omega) (by omega) (by omega) (by omega)
    refine lv_istore (lv' := [(4, .int kk_7), (3, .int (nI i)), (2, .int (zRd f_all i_z0 c_)), (0, .ref mo), (1, .int c_)]) hx hb dX12_turns_23 hl (by decide) (zLvf_h rfl) (fun ls hl => ?_)
    refine lv_aload_n hx hb dX12_turns_25 rfl (lv_at hl 3 rfl) ?_
    refine z_get C G clX12 2 rfl 15 (by decide) m_fl_RX12_23 rfl dX12_turns_26 ?_
    refine lv_iload_n hx hb dX12_turns_29 rfl (lv_at hl 4 rfl) ?_
    refine z_ild C G 1 rfl (vp_in_iff.mpr ⟨by omega, by omega⟩) dX12_turns_30 ?_
    refine lv_topi (fun v_9 ev_9 => ?_)
    subst ev_9
    refine lv_iload hx hb dX12_turns_31 (lv_at hl 0 rfl) ?_
    refine lv_ishr hx hb dX12_turns_33 ?_
    refine lv_iconst (v := 1) hx hb dX12_turns_34 (by decide) ?_
    refine lv_iand hx hb dX12_turns_35 ?_
    refine lv_iconst (v := 1) hx hb dX12_turns_36 (by decide) ?_
    refine lv_icmp_ne (tgt := 43) hx hb dX12_turns_37 (by decide) (fun c_10 => ?_) (fun c_10 => ?_)
    · have c_10n : ¬ (((f_shut c_.toNatClampNeg) >>> (kk_7 &&& 31)) &&& 1).toInt = (1 : Int) := fun q => c_10 ((fa_eq _ _).mpr q)
      have hz0 : zBit (f_shut c_.toNatClampNeg) kk_7 = 0 := zBit_n (by first | with_reducible assumption | assumption)
      have hz : zTurn f_posts f_shut (zRo f_all i_z0) c_ = kk_7 := by rw [hq, show n0 + 1 - i = (n0 - i) + 1 by omega, zTurnR, hnx, if_pos hz0]
      have hz1 : ¬ zTurn f_posts f_shut (zRo f_all i_z0) c_ = -1 := by rw [hz]; exact fun q8 => absurd (show kk_7.toInt = -1 from by rw [q8]; rfl) (by omega)
      refine lv_aload_n hx hb dX12_turns_43 rfl (lv_at hl 3 rfl) ?_
      refine z_get C G clX12 2 rfl 14 (by decide) m_fl_RX12_20 rfl dX12_turns_44 ?_
      refine lv_iload_n hx hb dX12_turns_47 rfl (lv_at hl 4 rfl) ?_
      refine lv_iload hx hb dX12_turns_48 (lv_at hl 0 rfl) ?_
      refine z_ist C G 0 rfl (vp_in_iff.mpr ⟨by omega, by omega⟩) dX12_turns_50 (fun H locs G => ?_)
      have G : zS T A s.heap s [[zAr T 0 m_posts 7 (upd f_posts c_.toNatClampNeg kk_7)], [zAr T 0 m_shut 7 f_shut], [zO11 mo m_all m_has i_size i_next i_where i_token i_number i_word i_wrong i_farCrossing m_read i_z0 i_crossings i_inns m_posts m_shut m_here i_steps i_done i_at i_gone m_was m_came m_seenAt m_rowWorth m_farBy m_used i_everywhere i_again0 i_d0 i_never i_firstCame i_longRun i_moved i_crowd i_l0 i_fitMany i_fitLeast i_fitMost m_fitPost m_fitEnd m_keptPosts i_x0], [zAr T 0 m_all 3952 f_all]] _ _ := G
      refine lv_iconst (v := 1) hx hb dX12_turns_51 (by decide) ?_
      have G := G.sub (bs' := [[zO11 mo m_all m_has i_size i_next i_where i_token i_number i_word i_wrong i_farCrossing m_read i_z0 i_crossings i_inns m_posts m_shut m_here i_steps i_done i_at i_gone m_was m_came m_seenAt m_rowWorth m_farBy m_used i_everywhere i_again0 i_d0 i_never i_firstCame i_longRun i_moved i_crowd i_l0 i_fitMany i_fitLeast i_fitMost m_fitPost m_fitEnd m_keptPosts i_x0], [zAr T 0 m_all 3952 f_all], [zAr T 0 m_posts 7 (upd f_posts c_.toNatClampNeg kk_7)], [zAr T 0 m_shut 7 f_shut]]) [2, 3, 0, 1] rfl
      exact z_back hQz_ (z_zret C hr hlocks G (Nat.le_of_ble_eq_true rfl) (Nat.le_of_ble_eq_true rfl) dX12_turns_52 rfl ⟨(upd f_posts c_.toNatClampNeg kk_7), rfl, (zMP_upd hP (by omega)), (zMV_upd hV (show kk_7.toInt < (zRd f_all i_z0 c_).toInt by omega)), (by unfold zPost; rw [if_neg hz1, hz]), (Or.inl (⟨rfl, hz1, (by omega)⟩))⟩)
    · have c_10n : (((f_shut c_.toNatClampNeg) >>> (kk_7 &&& 31)) &&& 1).toInt = (1 : Int) := (fa_eq _ _).mp c_10
      have hz0 : ¬ zBit (f_shut c_.toNatClampNeg) kk_7 = 0 := zBit_o (by first | with_reducible assumption | assumption)
      have hz : zTurn f_posts f_shut (zRo f_all i_z0) c_ = zTurnR (zRd f_all i_z0 c_) (f_shut c_.toNatClampNeg) (n0 + 1 - (i + 1)) kk_7 := by rw [hq, show n0 + 1 - i = (n0 + 1 - (i + 1)) + 1 by omega, zTurnR, hnx, if_neg hz0]
      refine lv_goto (tgt := 53) hx hb dX12_turns_40 (by decide) ?_
      refine lv_iinc (v := nI (i + 1)) (lv' := [(3, .int (nI (i + 1))), (4, .int kk_7), (2, .int (zRd f_all i_z0 c_)), (0, .ref mo), (1, .int c_)]) hx hb dX12_turns_53 hl (k := 1) rfl (z_inc i 1) (by decide) (zLvf_h rfl) (fun ls hl => ?_)
      refine lv_goto (tgt := 8) hx hb dX12_turns_56 (by decide) ?_
      exact ih_8 (i + 1) kk_7 (show 1 ≤ (i + 1) ∧ ((i + 1) : Int) ≤ (zRd f_all i_z0 c_).toInt + 1 ∧ zTurn f_posts f_shut (zRo f_all i_z0) c_ = zTurnR (zRd f_all i_z0 c_) (f_shut c_.toNatClampNeg) (n0 + 1 - (i + 1)) kk_7 ∧ ((zRd f_all i_z0 c_).toInt ≤ 0 ∨ kk_7.toInt = (f_posts c_.toNatClampNeg).toInt + ((i + 1) : Int) - 1 ∧ kk_7.toInt < (zRd f_all i_z0 c_).toInt ∨ kk_7.toInt = (f_posts c_.toNatClampNeg).toInt + ((i + 1) : Int) - 1 - (zRd f_all i_z0 c_).toInt ∧ 0 ≤ kk_7.toInt) from ⟨by omega, by omega, hz, by omega⟩) (show 6 - (i + 1) < 6 - i from by omega) _ _ ls G (lv_sub hl [0, 2, 3, 4] rfl)
set_option maxHeartbeats 4000000 in
set_option maxRecDepth 100000 in
/-- c_fm_stepsOn -/
theorem c_fm_stepsOn (l : Launch) (T : zTy) (mo : Nat) (m_all : Nat) (m_has : Nat) (i_size : Int32) (i_next : Int32) (i_where : Int32) (i_token : Int32) (i_number : Int32) (i_word : Int32) (i_wrong : Int32) (i_farCrossing : Int32) (m_read : Nat) (i_z0 : Int32) (i_crossings : Int32) (i_inns : Int32) (m_posts : Nat) (m_shut : Nat) (m_here : Nat) (i_steps : Int32) (i_done : Int32) (i_at : Int32) (i_gone : Int32) (m_was : Nat) (m_came : Nat) (m_seenAt : Nat) (m_rowWorth : Nat) (m_farBy : Nat) (m_used : Nat) (i_everywhere : Int32) (i_again0 : Int32) (i_d0 : Int32) (i_never : Int32) (i_firstCame : Int32) (i_longRun : Int32) (i_moved : Int32) (i_crowd : Int32) (i_l0 : Int32) (i_fitMany : Int32) (i_fitLeast : Int32) (i_fitMost : Int32) (m_fitPost : Nat) (m_fitEnd : Nat) (m_keptPosts : Nat) (i_x0 : Int32) (f_all : Nat → Int32) (f_posts : Nat → Int32) (f_shut : Nat → Int32) (f_was : Nat → Int32) (hL : zML f_all i_z0 i_crossings) (ha0 : 0 ≤ i_at.toInt) (ha6 : i_at.toInt ≤ 6) (hg0 : 0 ≤ i_gone.toInt) (hg9 : i_gone.toInt ≤ 100000) (hV : zMV (zRo f_all i_z0) f_posts) (hP : zMP f_posts) : zMi l T yX12_stepsOn cX12_stepsOn 1 (some .boolean) 3 0 0 [.ref mo] [[zO11 mo m_all m_has i_size i_next i_where i_token i_number i_word i_wrong i_farCrossing m_read i_z0 i_crossings i_inns m_posts m_shut m_here i_steps i_done i_at i_gone m_was m_came m_seenAt m_rowWorth m_farBy m_used i_everywhere i_again0 i_d0 i_never i_firstCame i_longRun i_moved i_crowd i_l0 i_fitMany i_fitLeast i_fitMost m_fitPost m_fitEnd m_keptPosts i_x0], [zAr T 0 m_all 3952 f_all], [zAr T 0 m_posts 7 f_posts], [zAr T 0 m_shut 7 f_shut], [zAr T 0 m_was 7 f_was]] (fun (r : Int32) bs => ∃ (j_at : Int32) (j_gone : Int32) (g_posts : Nat → Int32) (g_was : Nat → Int32), bs = [[zO11 mo m_all m_has i_size i_next i_where i_token i_number i_word i_wrong i_farCrossing m_read i_z0 i_crossings i_inns m_posts m_shut m_here i_steps i_done j_at j_gone m_was m_came m_seenAt m_rowWorth m_farBy m_used i_everywhere i_again0 i_d0 i_never i_firstCame i_longRun i_moved i_crowd i_l0 i_fitMany i_fitLeast i_fitMost m_fitPost m_fitEnd m_keptPosts i_x0], [zAr T 0 m_all 3952 f_all], [zAr T 0 m_posts 7 g_posts], [zAr T 0 m_shut 7 f_shut], [zAr T 0 m_was 7 g_was]] ∧ zMP g_posts ∧ 0 ≤ j_at.toInt ∧ j_at.toInt ≤ 6 ∧ zMV (zRo f_all i_z0) g_posts ∧ g_posts = zPost f_posts f_shut (zWo f_all i_z0 i_inns) i_at ∧ ((r = 1 ∧ ¬ zStep f_posts f_shut (zWo f_all i_z0 i_inns) (zLo f_all i_z0) i_at = -1 ∧ j_at = zStep f_posts f_shut (zWo f_all i_z0 i_inns) (zLo f_all i_z0) i_at ∧ j_gone.toInt = i_gone.toInt + 1 ∧ g_was = upd f_was j_at.toNatClampNeg (f_was j_at.toNatClampNeg + 1)) ∨ (r = 0 ∧ zStep f_posts f_shut (zWo f_all i_z0 i_inns) (zLo f_all i_z0) i_at = -1 ∧ j_at = i_at ∧ j_gone = i_gone ∧ g_was = f_was))) := by
  refine zMi_of (own := RX12) (by decide) rfl (Nat.le_of_ble_eq_true rfl) ?_
  intro p e s m args below meth c A ls C hr hlocks hnm hAe G hl
  refine zHide (fun Qz_ hQz_ => ?_)
  have hx := C.1
  have hb := C.2.1
  have hl : lv_has ls 1 [(0, .ref mo)] := hl
  have hz := hL.1
  have hcr := hL.cr
  refine lv_aload_n hx hb dX12_stepsOn_0 rfl (lv_at hl 0 rfl) ?_
  refine lv_aload_n hx hb dX12_stepsOn_1 rfl (lv_at hl 0 rfl) ?_
  refine z_get C G clX12 0 rfl 19 (by decide) m_fl_RX12_202 rfl dX12_stepsOn_2 ?_
  refine z_Vi (bc := [[zO11 mo m_all m_has i_size i_next i_where i_token i_number i_word i_wrong i_farCrossing m_read i_z0 i_crossings i_inns m_posts m_shut m_here i_steps i_done i_at i_gone m_was m_came m_seenAt m_rowWorth m_farBy m_used i_everywhere i_again0 i_d0 i_never i_firstCame i_longRun i_moved i_crowd i_l0 i_fitMany i_fitLeast i_fitMost m_fitPost m_fitEnd m_keptPosts i_x0]]) (br := [[zAr T 0 m_all 3952 f_all], [zAr T 0 m_posts 7 f_posts], [zAr T 0 m_shut 7 f_shut], [zAr T 0 m_was 7 f_was]]) (As := [.int i_at]) (rest := []) C G (c_m_isInn l T mo m_all m_has i_size i_next i_where i_token i_number i_word i_wrong i_farCrossing m_read i_z0 i_crossings i_inns m_posts m_shut m_here i_steps i_done i_at i_gone m_was m_came m_seenAt m_rowWorth m_farBy m_used i_everywhere i_again0 i_d0 i_never i_firstCame i_longRun i_moved i_crowd i_l0 i_fitMany i_fitLeast i_fitMost m_fitPost m_fitEnd m_keptPosts i_x0 i_at) (kV_RX12_178 C.2.2.2.2 (Nat.le_of_ble_eq_true rfl) (Nat.le_of_ble_eq_true rfl)) [0] [0] rfl rfl (ci := 11) (qc := (RX12, TX12, 43)) rfl rfl (List.mem_flatten.mpr ⟨_, List.mem_of_getElem? (i := 0) rfl, List.mem_cons_self⟩) rfl rfl hl.1 dX12_stepsOn_5 (Nat.le_of_ble_eq_true rfl) (Nat.le_of_ble_eq_true rfl) (fun r_2 b1 H locs hw G => ?_)
  refine zAn2 hw ?_
  intro hbs9 hc_1
  clear hw
  subst hbs9
  have G : zS T A s.heap s [[zAr T 0 m_all 3952 f_all], [zAr T 0 m_posts 7 f_posts], [zAr T 0 m_shut 7 f_shut], [zAr T 0 m_was 7 f_was], [zO11 mo m_all m_has i_size i_next i_where i_token i_number i_word i_wrong i_farCrossing m_read i_z0 i_crossings i_inns m_posts m_shut m_here i_steps i_done i_at i_gone m_was m_came m_seenAt m_rowWorth m_farBy m_used i_everywhere i_again0 i_d0 i_never i_firstCame i_longRun i_moved i_crowd i_l0 i_fitMany i_fitLeast i_fitMost m_fitPost m_fitEnd m_keptPosts i_x0]] _ _ := G
  rcases hc_1 with ⟨rfl, h_3⟩ | ⟨rfl, h_4⟩
  · have h_3 : zInn i_inns i_at := h_3
    refine lv_if_ne (tgt := 22) hx hb dX12_stepsOn_8 (by decide) (fun _ => ?_) (fun q => absurd q (by decide))
    have hT1 : zTurn f_posts f_shut (zWo f_all i_z0 i_inns) i_at = -1 := zTurn_inn (by first | with_reducible assumption | assumption) ha0 ha6
    have hp1 : f_posts = zPost f_posts f_shut (zWo f_all i_z0 i_inns) i_at := by unfold zPost; rw [if_pos hT1]
    have hS1 : zStep f_posts f_shut (zWo f_all i_z0 i_inns) (zLo f_all i_z0) i_at = -1 := by unfold zStep; rw [if_pos hT1]
    refine lv_iconst (v := 0) hx hb dX12_stepsOn_22 (by decide) ?_
    have G := G.sub (bs' := [[zO11 mo m_all m_has i_size i_next i_where i_token i_number i_word i_wrong i_farCrossing m_read i_z0 i_crossings i_inns m_posts m_shut m_here i_steps i_done i_at i_gone m_was m_came m_seenAt m_rowWorth m_farBy m_used i_everywhere i_again0 i_d0 i_never i_firstCame i_longRun i_moved i_crowd i_l0 i_fitMany i_fitLeast i_fitMost m_fitPost m_fitEnd m_keptPosts i_x0], [zAr T 0 m_all 3952 f_all], [zAr T 0 m_posts 7 f_posts], [zAr T 0 m_shut 7 f_shut], [zAr T 0 m_was 7 f_was]]) [4, 0, 1, 2, 3] rfl
    exact z_back hQz_ (z_zret C hr hlocks G (Nat.le_of_ble_eq_true rfl) (Nat.le_of_ble_eq_true rfl) dX12_stepsOn_23 rfl ⟨i_at, i_gone, f_posts, f_was, rfl, (by first | with_reducible assumption | omega | trivial | assumption), (by first | with_reducible assumption | omega | trivial | assumption), (by first | with_reducible assumption | omega | trivial | assumption), (by first | with_reducible assumption | omega | trivial | assumption), hp1, (Or.inr (⟨rfl, hS1, rfl, rfl, rfl⟩))⟩)
  · have h_4 : ¬ zInn i_inns i_at := h_4
    refine lv_if_ne (tgt := 22) hx hb dX12_stepsOn_8 (by decide) (fun q => absurd (by decide) q) (fun _ => ?_)
    refine lv_aload_n hx hb dX12_stepsOn_11 rfl (lv_at hl 0 rfl) ?_
    refine lv_aload_n hx hb dX12_stepsOn_12 rfl (lv_at hl 0 rfl) ?_
    refine z_get C G clX12 4 rfl 19 (by decide) m_fl_RX12_202 rfl dX12_stepsOn_13 ?_
    refine z_Vi (bc := [[zO11 mo m_all m_has i_size i_next i_where i_token i_number i_word i_wrong i_farCrossing m_read i_z0 i_crossings i_inns m_posts m_shut m_here i_steps i_done i_at i_gone m_was m_came m_seenAt m_rowWorth m_farBy m_used i_everywhere i_again0 i_d0 i_never i_firstCame i_longRun i_moved i_crowd i_l0 i_fitMany i_fitLeast i_fitMost m_fitPost m_fitEnd m_keptPosts i_x0], [zAr T 0 m_all 3952 f_all], [zAr T 0 m_posts 7 f_posts], [zAr T 0 m_shut 7 f_shut]]) (br := [[zAr T 0 m_was 7 f_was]]) (As := [.int i_at]) (rest := []) C G (c_fm_turns l T mo m_all m_has i_size i_next i_where i_token i_number i_word i_wrong i_farCrossing m_read i_z0 i_crossings i_inns m_posts m_shut m_here i_steps i_done i_at i_gone m_was m_came m_seenAt m_rowWorth m_farBy m_used i_everywhere i_again0 i_d0 i_never i_firstCame i_longRun i_moved i_crowd i_l0 i_fitMany i_fitLeast i_fitMost m_fitPost m_fitEnd m_keptPosts i_x0 f_all f_posts f_shut i_at (by first | with_reducible assumption | with_reducible rfl | omega | assumption | rfl) (by first | with_reducible assumption | with_reducible rfl | omega | assumption | rfl) (by first | with_reducible assumption | with_reducible rfl | omega | assumption | rfl) (by first | with_reducible assumption | with_reducible rfl | omega | assumption | rfl) (by first | with_reducible assumption | with_reducible rfl | omega | assumption | rfl)) (kV_RX12_205 C.2.2.2.2 (Nat.le_of_ble_eq_true rfl) (Nat.le_of_ble_eq_true rfl)) [4, 0, 1, 2] [0, 0, 0, 1] rfl rfl (ci := 11) (qc := (RX12, TX12, 43)) rfl rfl (List.mem_flatten.mpr ⟨_, List.mem_of_getElem? (i := 0) rfl, List.mem_cons_self⟩) rfl rfl hl.1 dX12_stepsOn_16 (Nat.le_of_ble_eq_true rfl) (Nat.le_of_ble_eq_true rfl) (fun r_10 b1 H locs hw G => ?_)
    refine zEx1 hw ?_
    intro g_posts_5
    refine zCu5 ?_
    intro hbs9 h_6 h_7 h_8 hc_9
    clear hw
    subst hbs9
    have G : zS T A s.heap s [[zAr T 0 m_was 7 f_was], [zO11 mo m_all m_has i_size i_next i_where i_token i_number i_word i_wrong i_farCrossing m_read i_z0 i_crossings i_inns m_posts m_shut m_here i_steps i_done i_at i_gone m_was m_came m_seenAt m_rowWorth m_farBy m_used i_everywhere i_again0 i_d0 i_never i_firstCame i_longRun i_moved i_crowd i_l0 i_fitMany i_fitLeast i_fitMost m_fitPost m_fitEnd m_keptPosts i_x0], [zAr T 0 m_all 3952 f_all], [zAr T 0 m_posts 7 g_posts_5], [zAr T 0 m_shut 7 f_shut]] _ _ := G
    rcases hc_9 with ⟨rfl, h_11, h_12⟩ | ⟨rfl, h_13⟩
    · have h_11 : ¬ zTurn f_posts f_shut (zRo f_all i_z0) i_at = -1 := h_11
      have h_12 : 0 < (zRd f_all i_z0 i_at).toInt := h_12
      refine lv_if_ne (tgt := 24) hx hb dX12_stepsOn_19 (by decide) (fun _ => ?_) (fun q => absurd q (by decide))
      have hcl := z_clI (x := i_at) (by omega)
      have hpa : 0 ≤ (g_posts_5 i_at.toNatClampNeg).toInt ∧ (g_posts_5 i_at.toNatClampNeg).toInt ≤ 3 := (show zMP g_posts_5 by first | with_reducible assumption | assumption) i_at.toNatClampNeg (by omega)
      have hb1 : ¬ zBit i_inns i_at = 1 := by first | with_reducible assumption | assumption
      have hne : ¬ zTurn f_posts f_shut (zRo f_all i_z0) i_at = -1 := h_11
      have hgp : g_posts_5 i_at.toNatClampNeg = zTurn f_posts f_shut (zRo f_all i_z0) i_at := by rw [h_8]; unfold zPost; rw [if_neg hne]; exact z_eq rfl
      have hST : zStep f_posts f_shut (zWo f_all i_z0 i_inns) (zLo f_all i_z0) i_at = zLe f_all i_z0 i_at (g_posts_5 i_at.toNatClampNeg) := by unfold zStep; rw [zTurn_wo hb1 ha0 ha6, if_neg hne, hgp]; rfl
      refine lv_aload_n hx hb dX12_stepsOn_24 rfl (lv_at hl 0 rfl) ?_
      refine lv_aload_n hx hb dX12_stepsOn_25 rfl (lv_at hl 0 rfl) ?_
      refine lv_aload_n hx hb dX12_stepsOn_26 rfl (lv_at hl 0 rfl) ?_
      refine z_get C G clX12 1 rfl 19 (by decide) m_fl_RX12_202 rfl dX12_stepsOn_27 ?_
      refine lv_aload_n hx hb dX12_stepsOn_30 rfl (lv_at hl 0 rfl) ?_
      refine z_get C G clX12 1 rfl 14 (by decide) m_fl_RX12_20 rfl dX12_stepsOn_31 ?_
      refine lv_aload_n hx hb dX12_stepsOn_34 rfl (lv_at hl 0 rfl) ?_
      refine z_get C G clX12 1 rfl 19 (by decide) m_fl_RX12_202 rfl dX12_stepsOn_35 ?_
      refine z_ild C G 3 rfl (vp_in_iff.mpr ⟨by omega, by omega⟩) dX12_stepsOn_38 ?_
      refine lv_topi (fun v_14 ev_14 => ?_)
      subst ev_14
      refine z_Vi (bc := [[zO11 mo m_all m_has i_size i_next i_where i_token i_number i_word i_wrong i_farCrossing m_read i_z0 i_crossings i_inns m_posts m_shut m_here i_steps i_done i_at i_gone m_was m_came m_seenAt m_rowWorth m_farBy m_used i_everywhere i_again0 i_d0 i_never i_firstCame i_longRun i_moved i_crowd i_l0 i_fitMany i_fitLeast i_fitMost m_fitPost m_fitEnd m_keptPosts i_x0], [zAr T 0 m_all 3952 f_all]]) (br := [[zAr T 0 m_was 7 f_was], [zAr T 0 m_posts 7 g_posts_5], [zAr T 0 m_shut 7 f_shut]]) (As := [.int i_at, .int (g_posts_5 i_at.toNatClampNeg)]) (rest := [.ref mo]) C G (c_m_leadsTo l T mo m_all m_has i_size i_next i_where i_token i_number i_word i_wrong i_farCrossing m_read i_z0 i_crossings i_inns m_posts m_shut m_here i_steps i_done i_at i_gone m_was m_came m_seenAt m_rowWorth m_farBy m_used i_everywhere i_again0 i_d0 i_never i_firstCame i_longRun i_moved i_crowd i_l0 i_fitMany i_fitLeast i_fitMost m_fitPost m_fitEnd m_keptPosts i_x0 f_all i_at (g_posts_5 i_at.toNatClampNeg) (by first | with_reducible assumption | with_reducible rfl | omega | assumption | rfl) (by first | with_reducible assumption | with_reducible rfl | omega | assumption | rfl) (by first | with_reducible assumption | with_reducible rfl | omega | assumption | rfl) (by first | with_reducible assumption | with_reducible rfl | omega | assumption | rfl) (by first | with_reducible assumption | with_reducible rfl | omega | assumption | rfl)) (kV_RX12_190 C.2.2.2.2 (Nat.le_of_ble_eq_true rfl) (Nat.le_of_ble_eq_true rfl)) [1, 2] [1, 0] rfl rfl (ci := 11) (qc := (RX12, TX12, 43)) rfl rfl (List.mem_flatten.mpr ⟨_, List.mem_of_getElem? (i := 0) rfl, List.mem_cons_self⟩) rfl rfl hl.1 dX12_stepsOn_39 (Nat.le_of_ble_eq_true rfl) (Nat.le_of_ble_eq_true rfl) (fun r_18 b1 H locs hw G => ?_)
      refine zAn4 hw ?_
      intro hbs9 h_15 h_16 h_17
      clear hw
      subst hbs9
      have G : zS T A s.heap s [[zAr T 0 m_was 7 f_was], [zAr T 0 m_posts 7 g_posts_5], [zAr T 0 m_shut 7 f_shut], [zO11 mo m_all m_has i_size i_next i_where i_token i_number i_word i_wrong i_farCrossing m_read i_z0 i_crossings i_inns m_posts m_shut m_here i_steps i_done i_at i_gone m_was m_came m_seenAt m_rowWorth m_farBy m_used i_everywhere i_again0 i_d0 i_never i_firstCame i_longRun i_moved i_crowd i_l0 i_fitMany i_fitLeast i_fitMost m_fitPost m_fitEnd m_keptPosts i_x0], [zAr T 0 m_all 3952 f_all]] _ _ := G
      subst h_15
      refine z_put C G clX12 3 rfl 19 (by decide) m_fl_RX12_202 rfl rfl rfl (Nat.le_of_ble_eq_true rfl) dX12_stepsOn_42 (fun H locs G => ?_)
      have G : zS T A s.heap s [[zAr T 0 m_was 7 f_was], [zAr T 0 m_posts 7 g_posts_5], [zAr T 0 m_shut 7 f_shut], [zO11 mo m_all m_has i_size i_next i_where i_token i_number i_word i_wrong i_farCrossing m_read i_z0 i_crossings i_inns m_posts m_shut m_here i_steps i_done (zLe f_all i_z0 i_at (g_posts_5 i_at.toNatClampNeg)) i_gone m_was m_came m_seenAt m_rowWorth m_farBy m_used i_everywhere i_again0 i_d0 i_never i_firstCame i_longRun i_moved i_crowd i_l0 i_fitMany i_fitLeast i_fitMost m_fitPost m_fitEnd m_keptPosts i_x0], [zAr T 0 m_all 3952 f_all]] _ _ := G
      refine lv_aload_n hx hb dX12_stepsOn_45 rfl (lv_at hl 0 rfl) ?_
      refine lv_dup hx hb dX12_stepsOn_46 rfl ?_
      refine z_get C G clX12 3 rfl 20 (by decide) m_fl_RX12_208 rfl dX12_stepsOn_47 ?_
      refine lv_iconst (v := 1) hx hb dX12_stepsOn_50 (by decide) ?_
      refine lv_iadd hx hb dX12_stepsOn_51 ?_
      refine lv_topi (fun y_19 ey_19 => ?_)
      have ey_19i : y_19.toInt = i_gone.toInt + (1 : Int) := by rw [ey_19]; exact z_iaddI (x := i_gone) (y := (1 : Int32)) (by show -2147483648 ≤ i_gone.toInt + (1 : Int); omega) (by show i_gone.toInt + (1 : Int) < 2147483648; omega)
      refine z_put C G clX12 3 rfl 20 (by decide) m_fl_RX12_208 rfl rfl rfl (Nat.le_of_ble_eq_true rfl) dX12_stepsOn_52 (fun H locs G => ?_)
      have G : zS T A s.heap s [[zAr T 0 m_was 7 f_was], [zAr T 0 m_posts 7 g_posts_5], [zAr T 0 m_shut 7 f_shut], [zO11 mo m_all m_has i_size i_next i_where i_token i_number i_word i_wrong i_farCrossing m_read i_z0 i_crossings i_inns m_posts m_shut m_here i_steps i_done (zLe f_all i_z0 i_at (g_posts_5 i_at.toNatClampNeg)) y_19 m_was m_came m_seenAt m_rowWorth m_farBy m_used i_everywhere i_again0 i_d0 i_never i_firstCame i_longRun i_moved i_crowd i_l0 i_fitMany i_fitLeast i_fitMost m_fitPost m_fitEnd m_keptPosts i_x0], [zAr T 0 m_all 3952 f_all]] _ _ := G
      refine lv_aload_n hx hb dX12_stepsOn_55 rfl (lv_at hl 0 rfl) ?_
      refine z_get C G clX12 3 rfl 21 (by decide) m_fl_RX12_29 rfl dX12_stepsOn_56 ?_
      refine lv_aload_n hx hb dX12_stepsOn_59 rfl (lv_at hl 0 rfl) ?_
      refine z_get C G clX12 3 rfl 19 (by decide) m_fl_RX12_202 rfl dX12_stepsOn_60 ?_
      refine lv_dup2_11 hx hb dX12_stepsOn_63 rfl rfl ?_
      refine z_ild C G 0 rfl (vp_in_iff.mpr ⟨by omega, by omega⟩) dX12_stepsOn_64 ?_
      refine lv_topi (fun v_20 ev_20 => ?_)
      subst ev_20
      refine lv_iconst (v := 1) hx hb dX12_stepsOn_65 (by decide) ?_
      refine lv_iadd hx hb dX12_stepsOn_66 ?_
      refine z_ist C G 0 rfl (vp_in_iff.mpr ⟨by omega, by omega⟩) dX12_stepsOn_67 (fun H locs G => ?_)
      have G : zS T A s.heap s [[zAr T 0 m_was 7 (upd f_was (zLe f_all i_z0 i_at (g_posts_5 i_at.toNatClampNeg)).toNatClampNeg ((f_was (zLe f_all i_z0 i_at (g_posts_5 i_at.toNatClampNeg)).toNatClampNeg) + 1))], [zAr T 0 m_posts 7 g_posts_5], [zAr T 0 m_shut 7 f_shut], [zO11 mo m_all m_has i_size i_next i_where i_token i_number i_word i_wrong i_farCrossing m_read i_z0 i_crossings i_inns m_posts m_shut m_here i_steps i_done (zLe f_all i_z0 i_at (g_posts_5 i_at.toNatClampNeg)) y_19 m_was m_came m_seenAt m_rowWorth m_farBy m_used i_everywhere i_again0 i_d0 i_never i_firstCame i_longRun i_moved i_crowd i_l0 i_fitMany i_fitLeast i_fitMost m_fitPost m_fitEnd m_keptPosts i_x0], [zAr T 0 m_all 3952 f_all]] _ _ := G
      refine lv_iconst (v := 1) hx hb dX12_stepsOn_68 (by decide) ?_
      have G := G.sub (bs' := [[zO11 mo m_all m_has i_size i_next i_where i_token i_number i_word i_wrong i_farCrossing m_read i_z0 i_crossings i_inns m_posts m_shut m_here i_steps i_done (zLe f_all i_z0 i_at (g_posts_5 i_at.toNatClampNeg)) y_19 m_was m_came m_seenAt m_rowWorth m_farBy m_used i_everywhere i_again0 i_d0 i_never i_firstCame i_longRun i_moved i_crowd i_l0 i_fitMany i_fitLeast i_fitMost m_fitPost m_fitEnd m_keptPosts i_x0], [zAr T 0 m_all 3952 f_all], [zAr T 0 m_posts 7 g_posts_5], [zAr T 0 m_shut 7 f_shut], [zAr T 0 m_was 7 (upd f_was (zLe f_all i_z0 i_at (g_posts_5 i_at.toNatClampNeg)).toNatClampNeg ((f_was (zLe f_all i_z0 i_at (g_posts_5 i_at.toNatClampNeg)).toNatClampNeg) + 1))]]) [3, 4, 1, 2, 0] rfl
      exact z_back hQz_ (z_zret C hr hlocks G (Nat.le_of_ble_eq_true rfl) (Nat.le_of_ble_eq_true rfl) dX12_stepsOn_69 rfl ⟨(zLe f_all i_z0 i_at (g_posts_5 i_at.toNatClampNeg)), y_19, g_posts_5, (upd f_was (zLe f_all i_z0 i_at (g_posts_5 i_at.toNatClampNeg)).toNatClampNeg ((f_was (zLe f_all i_z0 i_at (g_posts_5 i_at.toNatClampNeg)).toNatClampNeg) + 1)), rfl, (by first | with_reducible assumption | omega | trivial | assumption), (by first | with_reducible assumption | omega | trivial | assumption), (by first | with_reducible assumption | omega | trivial | assumption), (by first | with_reducible assumption | omega | trivial | assumption), (h_8.trans (zPost_wo hb1 ha0 ha6).symm), (Or.inl (⟨rfl, (fun q8 => absurd (show (zLe f_all i_z0 i_at (g_posts_5 i_at.toNatClampNeg)).toInt = -1 from by rw [← hST, q8]; rfl) (by omega)), hST.symm, (by omega), rfl⟩))⟩)
    · have h_13 : zTurn f_posts f_shut (zRo f_all i_z0) i_at = -1 := h_13
      refine lv_if_ne (tgt := 24) hx hb dX12_stepsOn_19 (by decide) (fun q => absurd (by decide) q) (fun _ => ?_)
      have hb1 : ¬ zBit i_inns i_at = 1 := by first | with_reducible assumption | assumption
      have hT1 : zTurn f_posts f_shut (zWo f_all i_z0 i_inns) i_at = -1 := (zTurn_wo hb1 ha0 ha6).trans h_13
      have hp1 : g_posts_5 = zPost f_posts f_shut (zWo f_all i_z0 i_inns) i_at := h_8.trans (zPost_wo hb1 ha0 ha6).symm
      have hS1 : zStep f_posts f_shut (zWo f_all i_z0 i_inns) (zLo f_all i_z0) i_at = -1 := by unfold zStep; rw [if_pos hT1]
      refine lv_iconst (v := 0) hx hb dX12_stepsOn_22 (by decide) ?_
      have G := G.sub (bs' := [[zO11 mo m_all m_has i_size i_next i_where i_token i_number i_word i_wrong i_farCrossing m_read i_z0 i_crossings i_inns m_posts m_shut m_here i_steps i_done i_at i_gone m_was m_came m_seenAt m_rowWorth m_farBy m_used i_everywhere i_again0 i_d0 i_never i_firstCame i_longRun i_moved i_crowd i_l0 i_fitMany i_fitLeast i_fitMost m_fitPost m_fitEnd m_keptPosts i_x0], [zAr T 0 m_all 3952 f_all], [zAr T 0 m_posts 7 g_posts_5], [zAr T 0 m_shut 7 f_shut], [zAr T 0 m_was 7 f_was]]) [1, 2, 3, 4, 0] rfl
      exact z_back hQz_ (z_zret C hr hlocks G (Nat.le_of_ble_eq_true rfl) (Nat.le_of_ble_eq_true rfl) dX12_stepsOn_23 rfl ⟨i_at, i_gone, g_posts_5, f_was, rfl, (by first | with_reducible assumption | omega | trivial | assumption), (by first | with_reducible assumption | omega | trivial | assumption), (by first | with_reducible assumption | omega | trivial | assumption), (by first | with_reducible assumption | omega | trivial | assumption), hp1, (Or.inr (⟨rfl, hS1, rfl, rfl, rfl⟩))⟩)
def zOne (c : Int32) (j : Nat) : Int32 := if (j : Int) = c.toInt then 1 else 0
set_option maxHeartbeats 4000000 in
set_option maxRecDepth 100000 in
/-- puts -/
theorem c_fm_puts (l : Launch) (T : zTy) (mo : Nat) (m_all : Nat) (m_has : Nat) (i_size : Int32) (i_next : Int32) (i_where : Int32) (i_token : Int32) (i_number : Int32) (i_word : Int32) (i_wrong : Int32) (i_farCrossing : Int32) (m_read : Nat) (i_z0 : Int32) (i_crossings : Int32) (i_inns : Int32) (m_posts : Nat) (m_shut : Nat) (m_here : Nat) (i_steps : Int32) (i_done : Int32) (i_at : Int32) (i_gone : Int32) (m_was : Nat) (m_came : Nat) (m_seenAt : Nat) (m_rowWorth : Nat) (m_farBy : Nat) (m_used : Nat) (i_everywhere : Int32) (i_again0 : Int32) (i_d0 : Int32) (i_never : Int32) (i_firstCame : Int32) (i_longRun : Int32) (i_moved : Int32) (i_crowd : Int32) (i_l0 : Int32) (i_fitMany : Int32) (i_fitLeast : Int32) (i_fitMost : Int32) (m_fitPost : Nat) (m_fitEnd : Nat) (m_keptPosts : Nat) (i_x0 : Int32) (f_was : Nat → Int32) (c_ : Int32) : zMv l T yX12_puts cX12_puts 3 1 0 0 [.ref mo, .int c_] [[zO11 mo m_all m_has i_size i_next i_where i_token i_number i_word i_wrong i_farCrossing m_read i_z0 i_crossings i_inns m_posts m_shut m_here i_steps i_done i_at i_gone m_was m_came m_seenAt m_rowWorth m_farBy m_used i_everywhere i_again0 i_d0 i_never i_firstCame i_longRun i_moved i_crowd i_l0 i_fitMany i_fitLeast i_fitMost m_fitPost m_fitEnd m_keptPosts i_x0], [zAr T 0 m_was 7 f_was]] (fun bs => ∃ (g_was : Nat → Int32), bs = [[zO11 mo m_all m_has i_size i_next i_where i_token i_number i_word i_wrong i_farCrossing m_read i_z0 i_crossings i_inns m_posts m_shut m_here i_steps i_done c_ 0 m_was m_came m_seenAt m_rowWorth m_farBy m_used i_everywhere i_again0 i_d0 i_never i_firstCame i_longRun i_moved i_crowd i_l0 i_fitMany i_fitLeast i_fitMost m_fitPost m_fitEnd m_keptPosts i_x0], [zAr T 0 m_was 7 g_was]] ∧ (∀ j, j < 7 → g_was j = zOne c_ j)) := by
  refine zMv_of (own := RX12) (by decide) rfl (Nat.le_of_ble_eq_true rfl) ?_
  intro p e s m args below meth c A ls C hr hlocks hnm hAe G hl
  refine zHide (fun Qz_ hQz_ => ?_)
  have hx := C.1
  have hb := C.2.1
  have hl : lv_has ls 3 [(0, .ref mo), (1, .int c_)] := hl
  refine lv_aload_n hx hb dX12_puts_0 rfl (lv_at hl 0 rfl) ?_
  refine lv_iload_n hx hb dX12_puts_1 rfl (lv_at hl 1 rfl) ?_
  refine z_put C G clX12 0 rfl 19 (by decide) m_fl_RX12_202 rfl rfl rfl (Nat.le_of_ble_eq_true rfl) dX12_puts_2 (fun H locs G => ?_)
  have G : zS T A s.heap s [[zO11 mo m_all m_has i_size i_next i_where i_token i_number i_word i_wrong i_farCrossing m_read i_z0 i_crossings i_inns m_posts m_shut m_here i_steps i_done c_ i_gone m_was m_came m_seenAt m_rowWorth m_farBy m_used i_everywhere i_again0 i_d0 i_never i_firstCame i_longRun i_moved i_crowd i_l0 i_fitMany i_fitLeast i_fitMost m_fitPost m_fitEnd m_keptPosts i_x0], [zAr T 0 m_was 7 f_was]] _ _ := G
  refine lv_aload_n hx hb dX12_puts_5 rfl (lv_at hl 0 rfl) ?_
  refine lv_iconst (v := 0) hx hb dX12_puts_6 (by decide) ?_
  refine z_put C G clX12 0 rfl 20 (by decide) m_fl_RX12_208 rfl rfl rfl (Nat.le_of_ble_eq_true rfl) dX12_puts_7 (fun H locs G => ?_)
  have G : zS T A s.heap s [[zO11 mo m_all m_has i_size i_next i_where i_token i_number i_word i_wrong i_farCrossing m_read i_z0 i_crossings i_inns m_posts m_shut m_here i_steps i_done c_ 0 m_was m_came m_seenAt m_rowWorth m_farBy m_used i_everywhere i_again0 i_d0 i_never i_firstCame i_longRun i_moved i_crowd i_l0 i_fitMany i_fitLeast i_fitMost m_fitPost m_fitEnd m_keptPosts i_x0], [zAr T 0 m_was 7 f_was]] _ _ := G
  refine lv_iconst (v := 0) hx hb dX12_puts_10 (by decide) ?_
  refine lv_istore_n (lv' := [(2, .int 0), (0, .ref mo), (1, .int c_)]) hx hb dX12_puts_11 rfl hl (by decide) (zLvf_h rfl) (fun ls hl => ?_)
  refine z_lp2 (T := T) 12 (fun (i : Nat) (x : Nat → Int32) => [[zO11 mo m_all m_has i_size i_next i_where i_token i_number i_word i_wrong i_farCrossing m_read i_z0 i_crossings i_inns m_posts m_shut m_here i_steps i_done c_ 0 m_was m_came m_seenAt m_rowWorth m_farBy m_used i_everywhere i_again0 i_d0 i_never i_firstCame i_longRun i_moved i_crowd i_l0 i_fitMany i_fitLeast i_fitMost m_fitPost m_fitEnd m_keptPosts i_x0], [zAr T 0 m_was 7 x]]) (fun (i : Nat) (x : Nat → Int32) => [(2, .int (nI i)), (0, .ref mo), (1, .int c_)]) (fun (i : Nat) (x : Nat → Int32) => i ≤ 7 ∧ (∀ j, j < i → x j = zOne c_ j)) (fun (i : Nat) (x : Nat → Int32) => 7 - i) ?_ 0 f_was (show 0 ≤ 7 ∧ (∀ j, j < 0 → f_was j = zOne c_ j) from ⟨by omega, fun j hj => absurd hj (by omega)⟩) G (lv_sub hl [0, 1, 2] rfl)
  intro i x hI9 ih_12 H locs ls G hl
  replace hI9 : i ≤ 7 ∧ (∀ j, j < i → x j = zOne c_ j) := hI9
  refine zAn2 hI9 ?_
  intro hi hW
  clear hI9
  replace G : zS T A s.heap s [[zO11 mo m_all m_has i_size i_next i_where i_token i_number i_word i_wrong i_farCrossing m_read i_z0 i_crossings i_inns m_posts m_shut m_here i_steps i_done c_ 0 m_was m_came m_seenAt m_rowWorth m_farBy m_used i_everywhere i_again0 i_d0 i_never i_firstCame i_longRun i_moved i_crowd i_l0 i_fitMany i_fitLeast i_fitMost m_fitPost m_fitEnd m_keptPosts i_x0], [zAr T 0 m_was 7 x]] _ _ := G
  replace hl : lv_has ls 3 [(2, .int (nI i)), (0, .ref mo), (1, .int c_)] := hl
  refine lv_iload_n hx hb dX12_puts_12 rfl (lv_at hl 0 rfl) ?_
  refine lv_bipush (v := 7) hx hb dX12_puts_13 (by decide) ?_
  refine lv_icmp_ge (tgt := 40) hx hb dX12_puts_15 (by decide) (fun c_1 => ?_) (fun c_1 => ?_)
  · have c_1n : 7 ≤ i := (nI_leI (a := 7) (b := i) (by omega) (by omega)).mp c_1
    exact z_back hQz_ (z_vret C hr hlocks G (Nat.le_of_ble_eq_true rfl) (Nat.le_of_ble_eq_true rfl) dX12_puts_40 ⟨x, rfl, (fun j hj => hW j (by omega))⟩)
  · have c_1n : ¬ 7 ≤ i := fun q => c_1 ((nI_leI (a := 7) (b := i) (by omega) (by omega)).mpr q)
    refine lv_aload_n hx hb dX12_puts_18 rfl (lv_at hl 1 rfl) ?_
    refine z_get C G clX12 0 rfl 21 (by decide) m_fl_RX12_29 rfl dX12_puts_19 ?_
    refine lv_iload_n hx hb dX12_puts_22 rfl (lv_at hl 0 rfl) ?_
    refine lv_iload_n hx hb dX12_puts_23 rfl (lv_at hl 0 rfl) ?_
    refine lv_iload_n hx hb dX12_puts_24 rfl (lv_at hl 2 rfl) ?_
    refine lv_icmp_ne (tgt := 32) hx hb dX12_puts_25 (by decide) (fun c_2 => ?_) (fun c_2 => ?_)
    · have c_2n : ¬ (i : Int) = c_.toInt := fun q => c_2 ((fa_eq _ _).mpr (by rw [nI_toInt (n := i) (by omega)]; exact q))
      refine lv_iconst (v := 0) hx hb dX12_puts_32 (by decide) ?_
      refine z_ist C G 1 rfl (vp_in_nI (by omega) (by decide)) dX12_puts_33 (fun H locs G => ?_)
      rw [nI_clamp (by omega)] at G
      have G : zS T A s.heap s [[zO11 mo m_all m_has i_size i_next i_where i_token i_number i_word i_wrong i_farCrossing m_read i_z0 i_crossings i_inns m_posts m_shut m_here i_steps i_done c_ 0 m_was m_came m_seenAt m_rowWorth m_farBy m_used i_everywhere i_again0 i_d0 i_never i_firstCame i_longRun i_moved i_crowd i_l0 i_fitMany i_fitLeast i_fitMost m_fitPost m_fitEnd m_keptPosts i_x0], [zAr T 0 m_was 7 (upd x i 0)]] _ _ := G
      refine lv_iinc (v := nI (i + 1)) (lv' := [(2, .int (nI (i + 1))), (0, .ref mo), (1, .int c_)]) hx hb dX12_puts_34 hl (k := 0) rfl (z_inc i 1) (by decide) (zLvf_h rfl) (fun ls hl => ?_)
      refine lv_goto (tgt := 12) hx hb dX12_puts_37 (by decide) ?_
      exact ih_12 (i + 1) (upd x i 0) (show (i + 1) ≤ 7 ∧ (∀ j, j < (i + 1) → (upd x i 0) j = zOne c_ j) from ⟨by omega, (z_upS0 (f := zOne c_) hW (show (0 : Int32) = zOne c_ i from (if_neg (by omega)).symm))⟩) (show 7 - (i + 1) < 7 - i from by omega) _ _ ls G (lv_sub hl [0, 1, 2] rfl)
    · have c_2n : (i : Int) = c_.toInt := by have q := (fa_eq _ _).mp c_2; rw [nI_toInt (n := i) (by omega)] at q; exact q
      refine lv_iconst (v := 1) hx hb dX12_puts_28 (by decide) ?_
      refine lv_goto (tgt := 33) hx hb dX12_puts_29 (by decide) ?_
      refine z_ist C G 1 rfl (vp_in_nI (by omega) (by decide)) dX12_puts_33 (fun H locs G => ?_)
      rw [nI_clamp (by omega)] at G
      have G : zS T A s.heap s [[zO11 mo m_all m_has i_size i_next i_where i_token i_number i_word i_wrong i_farCrossing m_read i_z0 i_crossings i_inns m_posts m_shut m_here i_steps i_done c_ 0 m_was m_came m_seenAt m_rowWorth m_farBy m_used i_everywhere i_again0 i_d0 i_never i_firstCame i_longRun i_moved i_crowd i_l0 i_fitMany i_fitLeast i_fitMost m_fitPost m_fitEnd m_keptPosts i_x0], [zAr T 0 m_was 7 (upd x i 1)]] _ _ := G
      refine lv_iinc (v := nI (i + 1)) (lv' := [(2, .int (nI (i + 1))), (0, .ref mo), (1, .int c_)]) hx hb dX12_puts_34 hl (k := 0) rfl (z_inc i 1) (by decide) (zLvf_h rfl) (fun ls hl => ?_)
      refine lv_goto (tgt := 12) hx hb dX12_puts_37 (by decide) ?_
      exact ih_12 (i + 1) (upd x i 1) (show (i + 1) ≤ 7 ∧ (∀ j, j < (i + 1) → (upd x i 1) j = zOne c_ j) from ⟨by omega, (z_upS0 (f := zOne c_) hW (show (1 : Int32) = zOne c_ i from (if_pos (by omega)).symm))⟩) (show 7 - (i + 1) < 7 - i from by omega) _ _ ls G (lv_sub hl [0, 1, 2] rfl)
set_option maxHeartbeats 4000000 in
set_option maxRecDepth 100000 in
/-- c_fm_walks -/
theorem c_fm_walks (l : Launch) (T : zTy) (mo : Nat) (m_all : Nat) (m_has : Nat) (i_size : Int32) (i_next : Int32) (i_where : Int32) (i_token : Int32) (i_number : Int32) (i_word : Int32) (i_wrong : Int32) (i_farCrossing : Int32) (m_read : Nat) (i_z0 : Int32) (i_crossings : Int32) (i_inns : Int32) (m_posts : Nat) (m_shut : Nat) (m_here : Nat) (i_steps : Int32) (i_done : Int32) (i_at : Int32) (i_gone : Int32) (m_was : Nat) (m_came : Nat) (m_seenAt : Nat) (m_rowWorth : Nat) (m_farBy : Nat) (m_used : Nat) (i_everywhere : Int32) (i_again0 : Int32) (i_d0 : Int32) (i_never : Int32) (i_firstCame : Int32) (i_longRun : Int32) (i_moved : Int32) (i_crowd : Int32) (i_l0 : Int32) (i_fitMany : Int32) (i_fitLeast : Int32) (i_fitMost : Int32) (m_fitPost : Nat) (m_fitEnd : Nat) (m_keptPosts : Nat) (i_x0 : Int32) (f_all : Nat → Int32) (f_posts : Nat → Int32) (f_shut : Nat → Int32) (f_was : Nat → Int32) (c_ : Int32) (hL : zML f_all i_z0 i_crossings) (hc0 : 0 ≤ c_.toInt) (hc6 : c_.toInt ≤ 6) (hV : zMV (zRo f_all i_z0) f_posts) (hP : zMP f_posts) : zMi l T yX12_walks cX12_walks 3 (some .boolean) 4 0 0 [.ref mo, .int c_] [[zO11 mo m_all m_has i_size i_next i_where i_token i_number i_word i_wrong i_farCrossing m_read i_z0 i_crossings i_inns m_posts m_shut m_here i_steps i_done i_at i_gone m_was m_came m_seenAt m_rowWorth m_farBy m_used i_everywhere i_again0 i_d0 i_never i_firstCame i_longRun i_moved i_crowd i_l0 i_fitMany i_fitLeast i_fitMost m_fitPost m_fitEnd m_keptPosts i_x0], [zAr T 0 m_all 3952 f_all], [zAr T 0 m_posts 7 f_posts], [zAr T 0 m_shut 7 f_shut], [zAr T 0 m_was 7 f_was]] (fun (r : Int32) bs => ∃ (j_at : Int32) (j_gone : Int32) (g_posts : Nat → Int32) (g_was : Nat → Int32), bs = [[zO11 mo m_all m_has i_size i_next i_where i_token i_number i_word i_wrong i_farCrossing m_read i_z0 i_crossings i_inns m_posts m_shut m_here i_steps i_done j_at j_gone m_was m_came m_seenAt m_rowWorth m_farBy m_used i_everywhere i_again0 i_d0 i_never i_firstCame i_longRun i_moved i_crowd i_l0 i_fitMany i_fitLeast i_fitMost m_fitPost m_fitEnd m_keptPosts i_x0], [zAr T 0 m_all 3952 f_all], [zAr T 0 m_posts 7 g_posts], [zAr T 0 m_shut 7 f_shut], [zAr T 0 m_was 7 g_was]] ∧ zMP g_posts ∧ zMV (zRo f_all i_z0) g_posts ∧ (0 ≤ j_at.toInt ∧ j_at.toInt ≤ 6) ∧ 0 ≤ j_gone.toInt ∧ j_gone.toInt ≤ 499 ∧ (r = 1 ∧ zBit i_inns j_at = 1 ∨ r = 0 ∧ ¬ zBit i_inns j_at = 1) ∧ g_posts = (zRunN f_shut (zWo f_all i_z0 i_inns) (zLo f_all i_z0) 499 f_posts c_ 0).1 ∧ j_at = (zRunN f_shut (zWo f_all i_z0 i_inns) (zLo f_all i_z0) 499 f_posts c_ 0).2.1 ∧ j_gone = nI (zRunN f_shut (zWo f_all i_z0 i_inns) (zLo f_all i_z0) 499 f_posts c_ 0).2.2 ∧ (∃ W0 : Nat → Int32, (∀ j, j < 7 → W0 j = zOne c_ j) ∧ g_was = zWasN f_shut (zWo f_all i_z0 i_inns) (zLo f_all i_z0) 499 f_posts c_ W0)) := by
  refine zMi_of (own := RX12) (by decide) rfl (Nat.le_of_ble_eq_true rfl) ?_
  intro p e s m args below meth c A ls C hr hlocks hnm hAe G hl
  refine zHide (fun Qz_ hQz_ => ?_)
  have hx := C.1
  have hb := C.2.1
  have hl : lv_has ls 3 [(0, .ref mo), (1, .int c_)] := hl
  have hz := hL.1
  have hcr := hL.cr
  refine lv_aload_n hx hb dX12_walks_0 rfl (lv_at hl 0 rfl) ?_
  refine lv_iload_n hx hb dX12_walks_1 rfl (lv_at hl 1 rfl) ?_
  refine z_Vv (bc := [[zO11 mo m_all m_has i_size i_next i_where i_token i_number i_word i_wrong i_farCrossing m_read i_z0 i_crossings i_inns m_posts m_shut m_here i_steps i_done i_at i_gone m_was m_came m_seenAt m_rowWorth m_farBy m_used i_everywhere i_again0 i_d0 i_never i_firstCame i_longRun i_moved i_crowd i_l0 i_fitMany i_fitLeast i_fitMost m_fitPost m_fitEnd m_keptPosts i_x0], [zAr T 0 m_was 7 f_was]]) (br := [[zAr T 0 m_all 3952 f_all], [zAr T 0 m_posts 7 f_posts], [zAr T 0 m_shut 7 f_shut]]) (As := [.int c_]) (rest := []) C G (c_fm_puts l T mo m_all m_has i_size i_next i_where i_token i_number i_word i_wrong i_farCrossing m_read i_z0 i_crossings i_inns m_posts m_shut m_here i_steps i_done i_at i_gone m_was m_came m_seenAt m_rowWorth m_farBy m_used i_everywhere i_again0 i_d0 i_never i_firstCame i_longRun i_moved i_crowd i_l0 i_fitMany i_fitLeast i_fitMost m_fitPost m_fitEnd m_keptPosts i_x0 f_was c_) (kV_RX12_211 C.2.2.2.2 (Nat.le_of_ble_eq_true rfl) (Nat.le_of_ble_eq_true rfl)) [0, 4] [0, 3] rfl rfl (ci := 11) (qc := (RX12, TX12, 43)) rfl rfl (List.mem_flatten.mpr ⟨_, List.mem_of_getElem? (i := 0) rfl, List.mem_cons_self⟩) rfl rfl hl.1 dX12_walks_2 (Nat.le_of_ble_eq_true rfl) (Nat.le_of_ble_eq_true rfl) (fun b1 H locs hw G => ?_)
  refine zEx1 hw ?_
  intro g_was_1
  refine zCu2 ?_
  intro hbs9 h_2
  clear hw
  subst hbs9
  have G : zS T A s.heap s [[zAr T 0 m_all 3952 f_all], [zAr T 0 m_posts 7 f_posts], [zAr T 0 m_shut 7 f_shut], [zO11 mo m_all m_has i_size i_next i_where i_token i_number i_word i_wrong i_farCrossing m_read i_z0 i_crossings i_inns m_posts m_shut m_here i_steps i_done c_ 0 m_was m_came m_seenAt m_rowWorth m_farBy m_used i_everywhere i_again0 i_d0 i_never i_firstCame i_longRun i_moved i_crowd i_l0 i_fitMany i_fitLeast i_fitMost m_fitPost m_fitEnd m_keptPosts i_x0], [zAr T 0 m_was 7 g_was_1]] _ _ := G
  refine lv_iconst (v := 1) hx hb dX12_walks_5 (by decide) ?_
  refine lv_istore_n (lv' := [(2, .int 1), (0, .ref mo), (1, .int c_)]) hx hb dX12_walks_6 rfl hl (by decide) (zLvf_h rfl) (fun ls hl => ?_)
  refine z_lp5 (T := T) 7 (fun (x : Int32) (y : Int32) (b : Int32) (xp : Nat → Int32) (xw : Nat → Int32) => [[zAr T 0 m_all 3952 f_all], [zAr T 0 m_posts 7 xp], [zAr T 0 m_shut 7 f_shut], [zO11 mo m_all m_has i_size i_next i_where i_token i_number i_word i_wrong i_farCrossing m_read i_z0 i_crossings i_inns m_posts m_shut m_here i_steps i_done x y m_was m_came m_seenAt m_rowWorth m_farBy m_used i_everywhere i_again0 i_d0 i_never i_firstCame i_longRun i_moved i_crowd i_l0 i_fitMany i_fitLeast i_fitMost m_fitPost m_fitEnd m_keptPosts i_x0], [zAr T 0 m_was 7 xw]]) (fun (x : Int32) (y : Int32) (b : Int32) (xp : Nat → Int32) (xw : Nat → Int32) => [(2, .int b), (0, .ref mo), (1, .int c_)]) (fun (x : Int32) (y : Int32) (b : Int32) (xp : Nat → Int32) (xw : Nat → Int32) => 0 ≤ x.toInt ∧ x.toInt ≤ 6 ∧ 0 ≤ y.toInt ∧ y.toInt ≤ 499 ∧ zMP xp ∧ zMV (zRo f_all i_z0) xp ∧ (0 ≤ b.toInt ∧ b.toInt ≤ 1) ∧ (b.toInt = 1 ∧ zRunN f_shut (zWo f_all i_z0 i_inns) (zLo f_all i_z0) 499 f_posts c_ 0 = zRunN f_shut (zWo f_all i_z0 i_inns) (zLo f_all i_z0) (499 - y.toInt.toNat) xp x y.toInt.toNat ∨ b.toInt = 0 ∧ zRunN f_shut (zWo f_all i_z0 i_inns) (zLo f_all i_z0) 499 f_posts c_ 0 = (xp, x, y.toInt.toNat)) ∧ (b.toInt = 1 ∧ zWasN f_shut (zWo f_all i_z0 i_inns) (zLo f_all i_z0) 499 f_posts c_ g_was_1 = zWasN f_shut (zWo f_all i_z0 i_inns) (zLo f_all i_z0) (499 - y.toInt.toNat) xp x xw ∨ b.toInt = 0 ∧ zWasN f_shut (zWo f_all i_z0 i_inns) (zLo f_all i_z0) 499 f_posts c_ g_was_1 = xw)) (fun (x : Int32) (y : Int32) (b : Int32) (xp : Nat → Int32) (xw : Nat → Int32) => (499 - y.toInt).toNat + b.toInt.toNat) ?_ c_ 0 1 f_posts g_was_1 (show 0 ≤ c_.toInt ∧ c_.toInt ≤ 6 ∧ 0 ≤ (0 : Int32).toInt ∧ (0 : Int32).toInt ≤ 499 ∧ zMP f_posts ∧ zMV (zRo f_all i_z0) f_posts ∧ (0 ≤ (1 : Int32).toInt ∧ (1 : Int32).toInt ≤ 1) ∧ ((1 : Int32).toInt = 1 ∧ zRunN f_shut (zWo f_all i_z0 i_inns) (zLo f_all i_z0) 499 f_posts c_ 0 = zRunN f_shut (zWo f_all i_z0 i_inns) (zLo f_all i_z0) (499 - (0 : Int32).toInt.toNat) f_posts c_ (0 : Int32).toInt.toNat ∨ (1 : Int32).toInt = 0 ∧ zRunN f_shut (zWo f_all i_z0 i_inns) (zLo f_all i_z0) 499 f_posts c_ 0 = (f_posts, c_, (0 : Int32).toInt.toNat)) ∧ ((1 : Int32).toInt = 1 ∧ zWasN f_shut (zWo f_all i_z0 i_inns) (zLo f_all i_z0) 499 f_posts c_ g_was_1 = zWasN f_shut (zWo f_all i_z0 i_inns) (zLo f_all i_z0) (499 - (0 : Int32).toInt.toNat) f_posts c_ g_was_1 ∨ (1 : Int32).toInt = 0 ∧ zWasN f_shut (zWo f_all i_z0 i_inns) (zLo f_all i_z0) 499 f_posts c_ g_was_1 = g_was_1) from ⟨by omega, by omega, by decide, by decide, hP, hV, by decide, (Or.inl ⟨by decide, rfl⟩), (Or.inl ⟨by decide, rfl⟩)⟩) G (lv_sub hl [0, 1, 2] rfl)
  intro x y b xp xw hI9 ih_7 H locs ls G hl
  replace hI9 : 0 ≤ x.toInt ∧ x.toInt ≤ 6 ∧ 0 ≤ y.toInt ∧ y.toInt ≤ 499 ∧ zMP xp ∧ zMV (zRo f_all i_z0) xp ∧ (0 ≤ b.toInt ∧ b.toInt ≤ 1) ∧ (b.toInt = 1 ∧ zRunN f_shut (zWo f_all i_z0 i_inns) (zLo f_all i_z0) 499 f_posts c_ 0 = zRunN f_shut (zWo f_all i_z0 i_inns) (zLo f_all i_z0) (499 - y.toInt.toNat) xp x y.toInt.toNat ∨ b.toInt = 0 ∧ zRunN f_shut (zWo f_all i_z0 i_inns) (zLo f_all i_z0) 499 f_posts c_ 0 = (xp, x, y.toInt.toNat)) ∧ (b.toInt = 1 ∧ zWasN f_shut (zWo f_all i_z0 i_inns) (zLo f_all i_z0) 499 f_posts c_ g_was_1 = zWasN f_shut (zWo f_all i_z0 i_inns) (zLo f_all i_z0) (499 - y.toInt.toNat) xp x xw ∨ b.toInt = 0 ∧ zWasN f_shut (zWo f_all i_z0 i_inns) (zLo f_all i_z0) 499 f_posts c_ g_was_1 = xw) := hI9
  refine zAn9 hI9 ?_
  intro hx0 hx6 hy0 hy9 hQ hVx hb0 hR hW9
  clear hI9
  replace G : zS T A s.heap s [[zAr T 0 m_all 3952 f_all], [zAr T 0 m_posts 7 xp], [zAr T 0 m_shut 7 f_shut], [zO11 mo m_all m_has i_size i_next i_where i_token i_number i_word i_wrong i_farCrossing m_read i_z0 i_crossings i_inns m_posts m_shut m_here i_steps i_done x y m_was m_came m_seenAt m_rowWorth m_farBy m_used i_everywhere i_again0 i_d0 i_never i_firstCame i_longRun i_moved i_crowd i_l0 i_fitMany i_fitLeast i_fitMost m_fitPost m_fitEnd m_keptPosts i_x0], [zAr T 0 m_was 7 xw]] _ _ := G
  replace hl : lv_has ls 3 [(2, .int b), (0, .ref mo), (1, .int c_)] := hl
  refine lv_aload_n hx hb dX12_walks_7 rfl (lv_at hl 1 rfl) ?_
  refine z_get C G clX12 3 rfl 20 (by decide) m_fl_RX12_208 rfl dX12_walks_8 ?_
  refine lv_sipush (v := 499) hx hb dX12_walks_11 (by decide) ?_
  refine lv_icmp_ge (tgt := 29) hx hb dX12_walks_14 (by decide) (fun c_4 => ?_) (fun c_4 => ?_)
  · have c_4n : (499 : Int) ≤ y.toInt := (fa_le _ _).mp c_4
    have hE : zRunN f_shut (zWo f_all i_z0 i_inns) (zLo f_all i_z0) 499 f_posts c_ 0 = (xp, x, y.toInt.toNat) := by rcases hR with ⟨q8, e8⟩ | ⟨q8, e8⟩ <;> first | exact e8 | (exfalso; omega) | (rw [e8, show 499 - y.toInt.toNat = 0 by omega]; rfl)
    have hF : zWasN f_shut (zWo f_all i_z0 i_inns) (zLo f_all i_z0) 499 f_posts c_ g_was_1 = xw := by rcases hW9 with ⟨q8, e8⟩ | ⟨q8, e8⟩ <;> first | exact e8 | (exfalso; omega) | (rw [e8, show 499 - y.toInt.toNat = 0 by omega]; rfl)
    refine lv_aload_n hx hb dX12_walks_29 rfl (lv_at hl 1 rfl) ?_
    refine lv_aload_n hx hb dX12_walks_30 rfl (lv_at hl 1 rfl) ?_
    refine z_get C G clX12 3 rfl 19 (by decide) m_fl_RX12_202 rfl dX12_walks_31 ?_
    refine z_Vi (bc := [[zO11 mo m_all m_has i_size i_next i_where i_token i_number i_word i_wrong i_farCrossing m_read i_z0 i_crossings i_inns m_posts m_shut m_here i_steps i_done x y m_was m_came m_seenAt m_rowWorth m_farBy m_used i_everywhere i_again0 i_d0 i_never i_firstCame i_longRun i_moved i_crowd i_l0 i_fitMany i_fitLeast i_fitMost m_fitPost m_fitEnd m_keptPosts i_x0]]) (br := [[zAr T 0 m_all 3952 f_all], [zAr T 0 m_posts 7 xp], [zAr T 0 m_shut 7 f_shut], [zAr T 0 m_was 7 xw]]) (As := [.int x]) (rest := []) C G (c_m_isInn l T mo m_all m_has i_size i_next i_where i_token i_number i_word i_wrong i_farCrossing m_read i_z0 i_crossings i_inns m_posts m_shut m_here i_steps i_done x y m_was m_came m_seenAt m_rowWorth m_farBy m_used i_everywhere i_again0 i_d0 i_never i_firstCame i_longRun i_moved i_crowd i_l0 i_fitMany i_fitLeast i_fitMost m_fitPost m_fitEnd m_keptPosts i_x0 x) (kV_RX12_178 C.2.2.2.2 (Nat.le_of_ble_eq_true rfl) (Nat.le_of_ble_eq_true rfl)) [3] [3] rfl rfl (ci := 11) (qc := (RX12, TX12, 43)) rfl rfl (List.mem_flatten.mpr ⟨_, List.mem_of_getElem? (i := 0) rfl, List.mem_cons_self⟩) rfl rfl hl.1 dX12_walks_34 (Nat.le_of_ble_eq_true rfl) (Nat.le_of_ble_eq_true rfl) (fun r_6 b1 H locs hw G => ?_)
    refine zAn2 hw ?_
    intro hbs9 hc_5
    clear hw
    subst hbs9
    have G : zS T A s.heap s [[zAr T 0 m_all 3952 f_all], [zAr T 0 m_posts 7 xp], [zAr T 0 m_shut 7 f_shut], [zAr T 0 m_was 7 xw], [zO11 mo m_all m_has i_size i_next i_where i_token i_number i_word i_wrong i_farCrossing m_read i_z0 i_crossings i_inns m_posts m_shut m_here i_steps i_done x y m_was m_came m_seenAt m_rowWorth m_farBy m_used i_everywhere i_again0 i_d0 i_never i_firstCame i_longRun i_moved i_crowd i_l0 i_fitMany i_fitLeast i_fitMost m_fitPost m_fitEnd m_keptPosts i_x0]] _ _ := G
    rcases hc_5 with ⟨rfl, h_7⟩ | ⟨rfl, h_8⟩
    · have h_7 : zInn i_inns x := h_7
      have G := G.sub (bs' := [[zO11 mo m_all m_has i_size i_next i_where i_token i_number i_word i_wrong i_farCrossing m_read i_z0 i_crossings i_inns m_posts m_shut m_here i_steps i_done x y m_was m_came m_seenAt m_rowWorth m_farBy m_used i_everywhere i_again0 i_d0 i_never i_firstCame i_longRun i_moved i_crowd i_l0 i_fitMany i_fitLeast i_fitMost m_fitPost m_fitEnd m_keptPosts i_x0], [zAr T 0 m_all 3952 f_all], [zAr T 0 m_posts 7 xp], [zAr T 0 m_shut 7 f_shut], [zAr T 0 m_was 7 xw]]) [4, 0, 1, 2, 3] rfl
      exact z_back hQz_ (z_zret C hr hlocks G (Nat.le_of_ble_eq_true rfl) (Nat.le_of_ble_eq_true rfl) dX12_walks_37 rfl ⟨x, y, xp, xw, rfl, (by first | with_reducible assumption | assumption), (by first | with_reducible assumption | assumption), (by first | with_reducible assumption | omega | trivial | assumption), (by first | with_reducible assumption | omega | trivial | assumption), (by first | with_reducible assumption | omega | trivial | assumption), (Or.inl ⟨rfl, by first | with_reducible assumption | assumption⟩), (by rw [hE]), (by rw [hE]), (by rw [hE]; exact z_nI (x := y) (m := y.toInt.toNat) (by omega) (by omega)), ⟨g_was_1, h_2, hF.symm⟩⟩)
    · have h_8 : ¬ zInn i_inns x := h_8
      have G := G.sub (bs' := [[zO11 mo m_all m_has i_size i_next i_where i_token i_number i_word i_wrong i_farCrossing m_read i_z0 i_crossings i_inns m_posts m_shut m_here i_steps i_done x y m_was m_came m_seenAt m_rowWorth m_farBy m_used i_everywhere i_again0 i_d0 i_never i_firstCame i_longRun i_moved i_crowd i_l0 i_fitMany i_fitLeast i_fitMost m_fitPost m_fitEnd m_keptPosts i_x0], [zAr T 0 m_all 3952 f_all], [zAr T 0 m_posts 7 xp], [zAr T 0 m_shut 7 f_shut], [zAr T 0 m_was 7 xw]]) [4, 0, 1, 2, 3] rfl
      exact z_back hQz_ (z_zret C hr hlocks G (Nat.le_of_ble_eq_true rfl) (Nat.le_of_ble_eq_true rfl) dX12_walks_37 rfl ⟨x, y, xp, xw, rfl, (by first | with_reducible assumption | assumption), (by first | with_reducible assumption | assumption), (by first | with_reducible assumption | omega | trivial | assumption), (by first | with_reducible assumption | omega | trivial | assumption), (by first | with_reducible assumption | omega | trivial | assumption), (Or.inr ⟨rfl, by first | with_reducible assumption | assumption⟩), (by rw [hE]), (by rw [hE]), (by rw [hE]; exact z_nI (x := y) (m := y.toInt.toNat) (by omega) (by omega)), ⟨g_was_1, h_2, hF.symm⟩⟩)
  · have c_4n : ¬ (499 : Int) ≤ y.toInt := fun q => c_4 ((fa_le _ _).mpr q)
    refine lv_iload_n hx hb dX12_walks_17 rfl (lv_at hl 0 rfl) ?_
    refine lv_if_eq (tgt := 29) hx hb dX12_walks_18 (by decide) (fun c_9 => ?_) (fun c_9 => ?_)
    · have c_9n : b.toInt = (0 : Int) := (fa_eq _ _).mp c_9
      have hE : zRunN f_shut (zWo f_all i_z0 i_inns) (zLo f_all i_z0) 499 f_posts c_ 0 = (xp, x, y.toInt.toNat) := by rcases hR with ⟨q8, e8⟩ | ⟨q8, e8⟩ <;> first | exact e8 | (exfalso; omega) | (rw [e8, show 499 - y.toInt.toNat = 0 by omega]; rfl)
      have hF : zWasN f_shut (zWo f_all i_z0 i_inns) (zLo f_all i_z0) 499 f_posts c_ g_was_1 = xw := by rcases hW9 with ⟨q8, e8⟩ | ⟨q8, e8⟩ <;> first | exact e8 | (exfalso; omega) | (rw [e8, show 499 - y.toInt.toNat = 0 by omega]; rfl)
      refine lv_aload_n hx hb dX12_walks_29 rfl (lv_at hl 1 rfl) ?_
      refine lv_aload_n hx hb dX12_walks_30 rfl (lv_at hl 1 rfl) ?_
      refine z_get C G clX12 3 rfl 19 (by decide) m_fl_RX12_202 rfl dX12_walks_31 ?_
      refine z_Vi (bc := [[zO11 mo m_all m_has i_size i_next i_where i_token i_number i_word i_wrong i_farCrossing m_read i_z0 i_crossings i_inns m_posts m_shut m_here i_steps i_done x y m_was m_came m_seenAt m_rowWorth m_farBy m_used i_everywhere i_again0 i_d0 i_never i_firstCame i_longRun i_moved i_crowd i_l0 i_fitMany i_fitLeast i_fitMost m_fitPost m_fitEnd m_keptPosts i_x0]]) (br := [[zAr T 0 m_all 3952 f_all], [zAr T 0 m_posts 7 xp], [zAr T 0 m_shut 7 f_shut], [zAr T 0 m_was 7 xw]]) (As := [.int x]) (rest := []) C G (c_m_isInn l T mo m_all m_has i_size i_next i_where i_token i_number i_word i_wrong i_farCrossing m_read i_z0 i_crossings i_inns m_posts m_shut m_here i_steps i_done x y m_was m_came m_seenAt m_rowWorth m_farBy m_used i_everywhere i_again0 i_d0 i_never i_firstCame i_longRun i_moved i_crowd i_l0 i_fitMany i_fitLeast i_fitMost m_fitPost m_fitEnd m_keptPosts i_x0 x) (kV_RX12_178 C.2.2.2.2 (Nat.le_of_ble_eq_true rfl) (Nat.le_of_ble_eq_true rfl)) [3] [3] rfl rfl (ci := 11) (qc := (RX12, TX12, 43)) rfl rfl (List.mem_flatten.mpr ⟨_, List.mem_of_getElem? (i := 0) rfl, List.mem_cons_self⟩) rfl rfl hl.1 dX12_walks_34 (Nat.le_of_ble_eq_true rfl) (Nat.le_of_ble_eq_true rfl) (fun r_11 b1 H locs hw G => ?_)
      refine zAn2 hw ?_
      intro hbs9 hc_10
      clear hw
      subst hbs9
      have G : zS T A s.heap s [[zAr T 0 m_all 3952 f_all], [zAr T 0 m_posts 7 xp], [zAr T 0 m_shut 7 f_shut], [zAr T 0 m_was 7 xw], [zO11 mo m_all m_has i_size i_next i_where i_token i_number i_word i_wrong i_farCrossing m_read i_z0 i_crossings i_inns m_posts m_shut m_here i_steps i_done x y m_was m_came m_seenAt m_rowWorth m_farBy m_used i_everywhere i_again0 i_d0 i_never i_firstCame i_longRun i_moved i_crowd i_l0 i_fitMany i_fitLeast i_fitMost m_fitPost m_fitEnd m_keptPosts i_x0]] _ _ := G
      rcases hc_10 with ⟨rfl, h_12⟩ | ⟨rfl, h_13⟩
      · have h_12 : zInn i_inns x := h_12
        have G := G.sub (bs' := [[zO11 mo m_all m_has i_size i_next i_where i_token i_number i_word i_wrong i_farCrossing m_read i_z0 i_crossings i_inns m_posts m_shut m_here i_steps i_done x y m_was m_came m_seenAt m_rowWorth m_farBy m_used i_everywhere i_again0 i_d0 i_never i_firstCame i_longRun i_moved i_crowd i_l0 i_fitMany i_fitLeast i_fitMost m_fitPost m_fitEnd m_keptPosts i_x0], [zAr T 0 m_all 3952 f_all], [zAr T 0 m_posts 7 xp], [zAr T 0 m_shut 7 f_shut], [zAr T 0 m_was 7 xw]]) [4, 0, 1, 2, 3] rfl
        exact z_back hQz_ (z_zret C hr hlocks G (Nat.le_of_ble_eq_true rfl) (Nat.le_of_ble_eq_true rfl) dX12_walks_37 rfl ⟨x, y, xp, xw, rfl, (by first | with_reducible assumption | assumption), (by first | with_reducible assumption | assumption), (by first | with_reducible assumption | omega | trivial | assumption), (by first | with_reducible assumption | omega | trivial | assumption), (by first | with_reducible assumption | omega | trivial | assumption), (Or.inl ⟨rfl, by first | with_reducible assumption | assumption⟩), (by rw [hE]), (by rw [hE]), (by rw [hE]; exact z_nI (x := y) (m := y.toInt.toNat) (by omega) (by omega)), ⟨g_was_1, h_2, hF.symm⟩⟩)
      · have h_13 : ¬ zInn i_inns x := h_13
        have G := G.sub (bs' := [[zO11 mo m_all m_has i_size i_next i_where i_token i_number i_word i_wrong i_farCrossing m_read i_z0 i_crossings i_inns m_posts m_shut m_here i_steps i_done x y m_was m_came m_seenAt m_rowWorth m_farBy m_used i_everywhere i_again0 i_d0 i_never i_firstCame i_longRun i_moved i_crowd i_l0 i_fitMany i_fitLeast i_fitMost m_fitPost m_fitEnd m_keptPosts i_x0], [zAr T 0 m_all 3952 f_all], [zAr T 0 m_posts 7 xp], [zAr T 0 m_shut 7 f_shut], [zAr T 0 m_was 7 xw]]) [4, 0, 1, 2, 3] rfl
        exact z_back hQz_ (z_zret C hr hlocks G (Nat.le_of_ble_eq_true rfl) (Nat.le_of_ble_eq_true rfl) dX12_walks_37 rfl ⟨x, y, xp, xw, rfl, (by first | with_reducible assumption | assumption), (by first | with_reducible assumption | assumption), (by first | with_reducible assumption | omega | trivial | assumption), (by first | with_reducible assumption | omega | trivial | assumption), (by first | with_reducible assumption | omega | trivial | assumption), (Or.inr ⟨rfl, by first | with_reducible assumption | assumption⟩), (by rw [hE]), (by rw [hE]), (by rw [hE]; exact z_nI (x := y) (m := y.toInt.toNat) (by omega) (by omega)), ⟨g_was_1, h_2, hF.symm⟩⟩)
    · have c_9n : ¬ b.toInt = (0 : Int) := fun q => c_9 ((fa_eq _ _).mpr q)
      refine lv_aload_n hx hb dX12_walks_21 rfl (lv_at hl 1 rfl) ?_
      refine z_Vi (bc := [[zO11 mo m_all m_has i_size i_next i_where i_token i_number i_word i_wrong i_farCrossing m_read i_z0 i_crossings i_inns m_posts m_shut m_here i_steps i_done x y m_was m_came m_seenAt m_rowWorth m_farBy m_used i_everywhere i_again0 i_d0 i_never i_firstCame i_longRun i_moved i_crowd i_l0 i_fitMany i_fitLeast i_fitMost m_fitPost m_fitEnd m_keptPosts i_x0], [zAr T 0 m_all 3952 f_all], [zAr T 0 m_posts 7 xp], [zAr T 0 m_shut 7 f_shut], [zAr T 0 m_was 7 xw]]) (br := []) (As := []) (rest := []) C G (c_fm_stepsOn l T mo m_all m_has i_size i_next i_where i_token i_number i_word i_wrong i_farCrossing m_read i_z0 i_crossings i_inns m_posts m_shut m_here i_steps i_done x y m_was m_came m_seenAt m_rowWorth m_farBy m_used i_everywhere i_again0 i_d0 i_never i_firstCame i_longRun i_moved i_crowd i_l0 i_fitMany i_fitLeast i_fitMost m_fitPost m_fitEnd m_keptPosts i_x0 f_all xp f_shut xw (by first | with_reducible assumption | with_reducible rfl | omega | assumption | rfl) (by first | with_reducible assumption | with_reducible rfl | omega | assumption | rfl) (by first | with_reducible assumption | with_reducible rfl | omega | assumption | rfl) (by first | with_reducible assumption | with_reducible rfl | omega | assumption | rfl) (by first | with_reducible assumption | with_reducible rfl | omega | assumption | rfl) (by first | with_reducible assumption | with_reducible rfl | omega | assumption | rfl) (by first | with_reducible assumption | with_reducible rfl | omega | assumption | rfl)) (kV_RX12_214 C.2.2.2.2 (Nat.le_of_ble_eq_true rfl) (Nat.le_of_ble_eq_true rfl)) [3, 0, 1, 2, 4] [0, 0, 0, 0, 0] rfl rfl (ci := 11) (qc := (RX12, TX12, 43)) rfl rfl (List.mem_flatten.mpr ⟨_, List.mem_of_getElem? (i := 0) rfl, List.mem_cons_self⟩) rfl rfl hl.1 dX12_walks_22 (Nat.le_of_ble_eq_true rfl) (Nat.le_of_ble_eq_true rfl) (fun r_24 b1 H locs hw G => ?_)
      refine zEx4 hw ?_
      intro j_at_14 j_gone_15 g_posts_16 g_was_17
      refine zCu7 ?_
      intro hbs9 h_18 h_19 h_20 h_21 h_22 hc_23
      clear hw
      subst hbs9
      have G : zS T A s.heap s [[zO11 mo m_all m_has i_size i_next i_where i_token i_number i_word i_wrong i_farCrossing m_read i_z0 i_crossings i_inns m_posts m_shut m_here i_steps i_done j_at_14 j_gone_15 m_was m_came m_seenAt m_rowWorth m_farBy m_used i_everywhere i_again0 i_d0 i_never i_firstCame i_longRun i_moved i_crowd i_l0 i_fitMany i_fitLeast i_fitMost m_fitPost m_fitEnd m_keptPosts i_x0], [zAr T 0 m_all 3952 f_all], [zAr T 0 m_posts 7 g_posts_16], [zAr T 0 m_shut 7 f_shut], [zAr T 0 m_was 7 g_was_17]] _ _ := G
      rcases hc_23 with ⟨rfl, h_25, h_26, h_27, h_28⟩ | ⟨rfl, h_29, h_30, h_31, h_32⟩
      · have h_25 : ¬ zStep xp f_shut (zWo f_all i_z0 i_inns) (zLo f_all i_z0) x = -1 := h_25
        have h_26 : j_at_14 = zStep xp f_shut (zWo f_all i_z0 i_inns) (zLo f_all i_z0) x := h_26
        have h_27 : j_gone_15.toInt = y.toInt + 1 := h_27
        have h_28 : g_was_17 = upd xw j_at_14.toNatClampNeg (xw j_at_14.toNatClampNeg + 1) := h_28
        refine lv_istore_n (lv' := [(2, .int 1), (0, .ref mo), (1, .int c_)]) hx hb dX12_walks_25 rfl hl (by decide) (zLvf_h rfl) (fun ls hl => ?_)
        refine lv_goto (tgt := 7) hx hb dX12_walks_26 (by decide) ?_
        have G := G.sub (bs' := [[zAr T 0 m_all 3952 f_all], [zAr T 0 m_posts 7 g_posts_16], [zAr T 0 m_shut 7 f_shut], [zO11 mo m_all m_has i_size i_next i_where i_token i_number i_word i_wrong i_farCrossing m_read i_z0 i_crossings i_inns m_posts m_shut m_here i_steps i_done j_at_14 j_gone_15 m_was m_came m_seenAt m_rowWorth m_farBy m_used i_everywhere i_again0 i_d0 i_never i_firstCame i_longRun i_moved i_crowd i_l0 i_fitMany i_fitLeast i_fitMost m_fitPost m_fitEnd m_keptPosts i_x0], [zAr T 0 m_was 7 g_was_17]]) [1, 2, 3, 0, 4] rfl
        exact ih_7 j_at_14 j_gone_15 1 g_posts_16 g_was_17 (show 0 ≤ j_at_14.toInt ∧ j_at_14.toInt ≤ 6 ∧ 0 ≤ j_gone_15.toInt ∧ j_gone_15.toInt ≤ 499 ∧ zMP g_posts_16 ∧ zMV (zRo f_all i_z0) g_posts_16 ∧ (0 ≤ (1 : Int32).toInt ∧ (1 : Int32).toInt ≤ 1) ∧ ((1 : Int32).toInt = 1 ∧ zRunN f_shut (zWo f_all i_z0 i_inns) (zLo f_all i_z0) 499 f_posts c_ 0 = zRunN f_shut (zWo f_all i_z0 i_inns) (zLo f_all i_z0) (499 - j_gone_15.toInt.toNat) g_posts_16 j_at_14 j_gone_15.toInt.toNat ∨ (1 : Int32).toInt = 0 ∧ zRunN f_shut (zWo f_all i_z0 i_inns) (zLo f_all i_z0) 499 f_posts c_ 0 = (g_posts_16, j_at_14, j_gone_15.toInt.toNat)) ∧ ((1 : Int32).toInt = 1 ∧ zWasN f_shut (zWo f_all i_z0 i_inns) (zLo f_all i_z0) 499 f_posts c_ g_was_1 = zWasN f_shut (zWo f_all i_z0 i_inns) (zLo f_all i_z0) (499 - j_gone_15.toInt.toNat) g_posts_16 j_at_14 g_was_17 ∨ (1 : Int32).toInt = 0 ∧ zWasN f_shut (zWo f_all i_z0 i_inns) (zLo f_all i_z0) 499 f_posts c_ g_was_1 = g_was_17) from ⟨by omega, by omega, by omega, by omega, (by first | with_reducible assumption | assumption), (by first | with_reducible assumption | assumption), by decide, (Or.inl ⟨by decide, by rcases hR with ⟨q8, e8⟩ | ⟨q8, e8⟩ <;> first | (exfalso; omega) | (rw [e8, show 499 - y.toInt.toNat = (499 - j_gone_15.toInt.toNat) + 1 by omega, zRunN, if_neg h_25, ← h_26, ← h_22, show y.toInt.toNat + 1 = j_gone_15.toInt.toNat by omega])⟩), (Or.inl ⟨by decide, by rcases hW9 with ⟨q8, e8⟩ | ⟨q8, e8⟩ <;> first | (exfalso; omega) | (rw [e8, show 499 - y.toInt.toNat = (499 - j_gone_15.toInt.toNat) + 1 by omega, zWasN, if_neg h_25, ← h_26, ← h_22, show zVi xw j_at_14 = g_was_17 from (if_pos ⟨by omega, by omega⟩).trans h_28.symm])⟩)⟩) (show (499 - j_gone_15.toInt).toNat + (1 : Int32).toInt.toNat < (499 - y.toInt).toNat + b.toInt.toNat from by have e1 : (1 : Int32).toInt = 1 := rfl; have e0 : (0 : Int32).toInt = 0 := rfl; omega) _ _ ls G (lv_sub hl [0, 1, 2] rfl)
      · have h_29 : zStep xp f_shut (zWo f_all i_z0 i_inns) (zLo f_all i_z0) x = -1 := h_29
        have h_30 : j_at_14 = x := h_30
        have h_31 : j_gone_15 = y := h_31
        have h_32 : g_was_17 = xw := h_32
        have hg9 := congrArg Int32.toInt h_31
        refine lv_istore_n (lv' := [(2, .int 0), (0, .ref mo), (1, .int c_)]) hx hb dX12_walks_25 rfl hl (by decide) (zLvf_h rfl) (fun ls hl => ?_)
        refine lv_goto (tgt := 7) hx hb dX12_walks_26 (by decide) ?_
        have G := G.sub (bs' := [[zAr T 0 m_all 3952 f_all], [zAr T 0 m_posts 7 g_posts_16], [zAr T 0 m_shut 7 f_shut], [zO11 mo m_all m_has i_size i_next i_where i_token i_number i_word i_wrong i_farCrossing m_read i_z0 i_crossings i_inns m_posts m_shut m_here i_steps i_done j_at_14 j_gone_15 m_was m_came m_seenAt m_rowWorth m_farBy m_used i_everywhere i_again0 i_d0 i_never i_firstCame i_longRun i_moved i_crowd i_l0 i_fitMany i_fitLeast i_fitMost m_fitPost m_fitEnd m_keptPosts i_x0], [zAr T 0 m_was 7 g_was_17]]) [1, 2, 3, 0, 4] rfl
        exact ih_7 j_at_14 j_gone_15 0 g_posts_16 g_was_17 (show 0 ≤ j_at_14.toInt ∧ j_at_14.toInt ≤ 6 ∧ 0 ≤ j_gone_15.toInt ∧ j_gone_15.toInt ≤ 499 ∧ zMP g_posts_16 ∧ zMV (zRo f_all i_z0) g_posts_16 ∧ (0 ≤ (0 : Int32).toInt ∧ (0 : Int32).toInt ≤ 1) ∧ ((0 : Int32).toInt = 1 ∧ zRunN f_shut (zWo f_all i_z0 i_inns) (zLo f_all i_z0) 499 f_posts c_ 0 = zRunN f_shut (zWo f_all i_z0 i_inns) (zLo f_all i_z0) (499 - j_gone_15.toInt.toNat) g_posts_16 j_at_14 j_gone_15.toInt.toNat ∨ (0 : Int32).toInt = 0 ∧ zRunN f_shut (zWo f_all i_z0 i_inns) (zLo f_all i_z0) 499 f_posts c_ 0 = (g_posts_16, j_at_14, j_gone_15.toInt.toNat)) ∧ ((0 : Int32).toInt = 1 ∧ zWasN f_shut (zWo f_all i_z0 i_inns) (zLo f_all i_z0) 499 f_posts c_ g_was_1 = zWasN f_shut (zWo f_all i_z0 i_inns) (zLo f_all i_z0) (499 - j_gone_15.toInt.toNat) g_posts_16 j_at_14 g_was_17 ∨ (0 : Int32).toInt = 0 ∧ zWasN f_shut (zWo f_all i_z0 i_inns) (zLo f_all i_z0) 499 f_posts c_ g_was_1 = g_was_17) from ⟨by omega, by omega, by omega, by omega, (by first | with_reducible assumption | assumption), (by first | with_reducible assumption | assumption), by decide, (Or.inr ⟨by decide, by rcases hR with ⟨q8, e8⟩ | ⟨q8, e8⟩ <;> first | (exfalso; omega) | (rw [e8, show 499 - y.toInt.toNat = (498 - y.toInt.toNat) + 1 by omega, zRunN, if_pos h_29, ← h_22, h_30, h_31])⟩), (Or.inr ⟨by decide, by rcases hW9 with ⟨q8, e8⟩ | ⟨q8, e8⟩ <;> first | (exfalso; omega) | (rw [e8, show 499 - y.toInt.toNat = (498 - y.toInt.toNat) + 1 by omega, zWasN, if_pos h_29, h_32])⟩)⟩) (show (499 - j_gone_15.toInt).toNat + (0 : Int32).toInt.toNat < (499 - y.toInt).toNat + b.toInt.toNat from by have e1 : (1 : Int32).toInt = 1 := rfl; have e0 : (0 : Int32).toInt = 0 := rfl; omega) _ _ ls G (lv_sub hl [0, 1, 2] rfl)
def kW (cr inn : Int32) (k1 : Nat → Int32) (j : Nat) : Int32 := zWays cr inn k1 (nI j)
def pW (f : Nat → Int32) (z : Int32) : Nat → Int32 := zWo f z (f (z.toInt.toNat + 1))
/-- the class's rows of a land walk as the record's -/
theorem zLnd_w {cr inn z : Int32} {k1 k2 k3 k4 f : Nat → Int32} {B : Nat} (h : zLnd cr inn k1 k2 k3 k4 (fun j => f (B + j))) (hF : zLF (fun j => f (B + j))) (hz : z.toInt.toNat = B) : (∀ j, j < 7 → kW cr inn k1 j = pW f z j) ∧ zLs (kW cr inn k1) k2 (zLo f z) ∧ (∀ j, j < 7 → k3 j = zPo f z j) ∧ zP3 k3 (kW cr inn k1) ∧ cr = f z.toInt.toNat ∧ inn = f (z.toInt.toNat + 1) := by
  obtain ⟨ha, hab, hi, hd, hx, hr⟩ := h
  obtain ⟨hf0, hf1, hf2⟩ := hF
  have ha : cr = f B := ha
  have hab : 0 ≤ (f B).toInt ∧ (f B).toInt ≤ 7 := hab
  have hi : inn = f (B + 1) := hi
  have hd : ∀ j : Nat, j < 7 → k1 j = f (B + (2 + j)) ∧ k3 j = f (B + (9 + j)) ∧ k4 j = f (B + (16 + j)) := hd
  have hx : ∀ j : Nat, j < 7 → (f B).toInt ≤ (j : Int) → k1 j = 0 := hx
  have hr : ∀ j r : Nat, j < 7 → r < 4 → (r : Int) < (k1 j).toInt → k2 (4 * j + r) = f (B + (23 + 4 * j + r)) := hr
  have hf1 : ∀ c : Nat, c < 7 → (0 ≤ (f (B + (2 + c))).toInt ∧ (f (B + (2 + c))).toInt ≤ 4) ∧ (0 ≤ (f (B + (9 + c))).toInt ∧ (f (B + (9 + c))).toInt ≤ 3) ∧ 0 ≤ (f (B + (16 + c))).toInt ∧ (f (B + (16 + c))).toInt ≤ 9 := hf1
  have hw : ∀ j : Nat, j < 7 → kW cr inn k1 j = if zBit inn (nI j) = 1 then 0 else k1 j := fun j hj => by
    have t := nI_toInt (n := j) (by omega)
    have t2 := nI_clamp (n := j) (by omega)
    have hcr : cr.toInt = (f B).toInt := by rw [ha]
    unfold kW zWays
    by_cases b : zBit inn (nI j) = 1
    · rw [if_pos b, if_neg (fun q => zBit_o b q.2.2.2)]
    · rw [if_neg b]
      by_cases q : (j : Int) < (f B).toInt
      · rw [if_pos ⟨by omega, by omega, by omega, zBit_n b⟩, t2]
      · rw [if_neg (fun q2 => by omega), hx j hj (by omega)]
  have hp : ∀ j, j < 7 → kW cr inn k1 j = pW f z j := fun j hj => by
    rw [hw j hj]
    unfold pW zWo zRo
    rw [hz, ← hi, (hd j hj).1]
  have hk0 : (0 : Int32).toInt = 0 := rfl
  have hk : ∀ j, j < 7 → 0 ≤ (kW cr inn k1 j).toInt ∧ (kW cr inn k1 j).toInt ≤ (k1 j).toInt ∧ (k1 j).toInt ≤ 4 := fun j hj => by
    have q := (hf1 j hj).1
    rw [hw j hj, (hd j hj).1]
    split
    · rw [hk0]; exact ⟨by omega, q.1, q.2⟩
    · exact ⟨q.1, by omega, q.2⟩
  refine ⟨hp, fun j r hj hr4 hq => ?_, fun j hj => ?_, fun j hj => ⟨⟨(hk j hj).1, by have := hk j hj; omega⟩, ?_⟩, by rw [hz]; exact ha, by rw [hz]; exact hi⟩
  · rw [hr j r hj hr4 (by have := hk j hj; omega)]
    unfold zLo
    rw [hz]
    exact congrArg f (by omega)
  · unfold zPo
    rw [hz]
    exact (hd j hj).2.1
  · rw [(hd j hj).2.1]
    have q := (hf1 j hj).2.1
    exact ⟨q.1, by omega⟩
/-- a land's row as it can be kept: posts point to roads, inns are crossings that are there, roads lead to such -/
def zVR (R : Nat → Int32) : Prop := ∀ c, c < 7 → ((R (9 + c)).toInt = 0 ∨ (R (9 + c)).toInt < (R (2 + c)).toInt) ∧ ((R 0).toInt ≤ (c : Int) → zBit (R 1) (nI c) = 0) ∧ ∀ r : Nat, r < 4 → (r : Int) < (R (2 + c)).toInt → (R (23 + 4 * c + r)).toInt < (R 0).toInt
theorem zVR_cg {R R' : Nat → Int32} (e : ∀ j, j < 51 → R' j = R j) (h : zVR R) : zVR R' := by
  intro c hc
  obtain ⟨a, b, d⟩ := h c hc
  refine ⟨?_, ?_, fun r hr hq => ?_⟩
  · rw [e _ (by omega), e _ (by omega)]; exact a
  · rw [e _ (by omega), e _ (by omega)]; exact b
  · rw [e _ (by omega)] at hq
    rw [e _ (by omega), e _ (by omega)]
    exact d r hr hq
/-- so of each land that is kept, told or in an image -/
def zVA (f : Nat → Int32) : Prop := ∀ i k, i < 4 → k < 2 → zVR (fun j => f (988 * i + (610 + 51 * k + j)))
theorem zVA_0 {f : Nat → Int32} {z : Int32} (h : zVA f) (hz : z.toInt = 610 ∨ z.toInt = 661) : zVR (fun j => f (z.toInt.toNat + j)) := by
  rcases hz with q | q
  · exact zVR_cg (fun j _ => congrArg f (by omega)) (h 0 0 (by decide) (by decide))
  · exact zVR_cg (fun j _ => congrArg f (by omega)) (h 0 1 (by decide) (by decide))
theorem zVA_z {f P : Nat → Int32} {z : Int32} (h : zVA f) (hz : z.toInt = 610 ∨ z.toInt = 661) (hP : ∀ j, j < 7 → P j = zPt f z (nI j)) : zMV (zRo f z) P := by
  intro c hc
  rw [hP c hc]
  have e := nI_toInt (n := c) (by omega)
  have e1 : zPt f z (nI c) = f (z.toInt.toNat + (9 + c)) := congrArg f (by omega)
  rw [e1]
  exact Or.inr (zVA_0 h hz c hc).1
theorem zPt_o {f P : Nat → Int32} {z : Int32} (hP : ∀ j, j < 7 → P j = zPt f z (nI j)) : ∀ j, j < 7 → P j = zPo f z j := fun j hj => (hP j hj).trans (by
  have e := nI_toInt (n := j) (by omega)
  exact congrArg f (by omega))
/-- the reference's rows are a walk's rows -/
theorem zP3_m {f P : Nat → Int32} {z cr n : Int32} (h : zML f z cr) (hP : zMP P) : zP3 P (zWo f z n) := by
  intro j hj
  have e := nI_toInt (n := j) (by omega)
  have r : 0 ≤ (zRo f z j).toInt ∧ (zRo f z j).toInt ≤ 4 := (h.2.2.2.1 j hj).1
  have p := hP j hj
  refine ⟨?_, p.1, by omega⟩
  unfold zWo
  split
  · exact ⟨by decide, by decide⟩
  · exact r
def pBk (a : pS) : Prop := ¬ a.2.1.toInt = 0 → ¬ a.2.2.1.toInt = 0
section PBK
variable {k : pT} {a : pS}
theorem pBk_ends (h : pBk a) : pBk (pEnds k a) := by
  unfold pEnds
  split
  · exact fun _ => by show ¬ (1 : Int32).toInt = 0; decide
  · exact h
theorem pBk_also {kd w : Int32} (h : pBk a) : pBk (pAlso kd w a) := by
  unfold pAlso
  split
  · exact h
  · rename_i q
    exact fun q2 => absurd (Or.inl q2) q
theorem pBk_num {lo hi : Int32} (h : pBk a) : pBk (pNum k lo hi a).2 := by
  unfold pNum
  split
  · exact pBk_ends h
  · split
    · exact h
    · exact pBk_also (kd := 2) (w := nI (pWh k a.1)) h
theorem pBk_word {lo hi : Nat} (h : pBk a) : pBk (pWord k lo hi a).2 := by
  unfold pWord
  split
  · exact pBk_ends h
  · exact h
theorem pBk_endL (h : pBk a) : pBk (pEndL k a) := by
  unfold pEndL
  split
  · exact h
  · exact pBk_ends h
theorem pBk_cr (h : pBk a) : pBk (pCr k a).2 := pBk_num (k := k) (lo := 0) (hi := 6) h
theorem pBk_roads : ∀ (i m : Nat) (a : pS) (f : Nat → Int32), pBk a → pBk (pRoads k i m a f).2.1
  | 0, m, a, f, h => h
  | i + 1, m, a, f, h => by
    unfold pRoads
    split
    · refine pBk_roads i _ _ _ (pBk_cr ?_)
      split
      · exact pBk_also h
      · exact h
    · exact h
theorem pBk_db {m : Int} {w : Int32} {f : Nat → Int32} (h : pBk a) : pBk (pDB m w f a) := by
  unfold pDB
  split
  · exact pBk_also h
  · exact h
theorem pBk_other {d : Nat} {w : Int32} {f : Nat → Int32} (h : pBk a) : pBk (pOther k d w a f).1 := by
  unfold pOther
  split
  · exact h
  · split
    · exact pBk_roads 601 0 _ _ (pBk_db h)
    · split
      · exact pBk_cr h
      · exact pBk_num (pBk_cr h)
theorem pBk_land {f : Nat → Int32} (h : pBk a) : pBk (pLand k a f).1 := pBk_endL (pBk_other (pBk_word h))
theorem pBk_lines : ∀ (i : Nat) (a : pS) (f : Nat → Int32), pBk a → pBk (pLines k 0 i a f).1
  | 0, a, f, h => h
  | i + 1, a, f, h => by
    unfold pLines
    split
    · refine pBk_lines i _ _ ?_
      rw [show pLine k 0 a f = pLand k a f from if_pos rfl]
      exact pBk_land h
    · exact h
end PBK
/-- inns told: of crossings that were told -/
def zIq (inn fa : Int32) : Prop := ∃ t : Nat, t < 128 ∧ inn = nI t ∧ (-1 ≤ fa.toInt ∧ fa.toInt ≤ 6) ∧ ∀ d : Nat, d ≤ 7 → fa.toInt < (d : Int) → t / 2 ^ d = 0
theorem zIq_m {inn fa fb : Int32} (h : zIq inn fa) (h1 : fa.toInt ≤ fb.toInt) (h2 : fb.toInt ≤ 6) : zIq inn fb := by
  obtain ⟨t, ht, e, hf, hd⟩ := h
  exact ⟨t, ht, e, ⟨by omega, h2⟩, fun d hd8 hq => hd d hd8 (by omega)⟩
theorem zIq_t {inn fa c : Int32} (h : zIq inn fa) (hc : 0 ≤ c.toInt ∧ c.toInt ≤ 6) : zIq (inn ||| ((1 : Int32) <<< (c &&& 31))) (if fa.toInt < c.toInt then c else fa) := by
  obtain ⟨t, ht, rfl, hf, hd⟩ := h
  have ec : c = nI c.toInt.toNat := z_nI (by omega) (by omega)
  have k1 := zTof_k1 t ht c.toInt.toNat (by omega)
  rw [← ec] at k1
  refine ⟨t ||| 2 ^ c.toInt.toNat, k1.2, k1.1, ?_, fun d hd8 hq => (zTof_k2 t ht c.toInt.toNat (by omega) d (by omega)).mpr ?_⟩
  · split <;> omega
  · split at hq
    · exact ⟨hd d hd8 (by omega), by omega⟩
    · exact ⟨hd d hd8 hq, by omega⟩
theorem zIq_b : ∀ t, t < 128 → ∀ j, j < 7 → t / 2 ^ j = 0 → zBit (nI t) (nI j) = 0 := by decide +kernel
theorem zIq_0 : zIq 0 (-1) := ⟨0, by decide, rfl, by decide, fun d _ _ => Nat.zero_div _⟩
/-- roads told lead to crossings that were told -/
def zJq (f : Nat → Int32) (fa : Int32) : Prop := ∀ c r : Nat, c < 7 → r < 4 → (r : Int) < (f (2 + c)).toInt → (f (23 + 4 * c + r)).toInt ≤ fa.toInt
theorem zJq_m {f : Nat → Int32} {fa fb : Int32} (h : zJq f fa) (q : fa.toInt ≤ fb.toInt) : zJq f fb := fun c r hc hr hq => Int.le_trans (h c r hc hr hq) q
theorem zJq_l {f : Nat → Int32} {fa fb v : Int32} {k : Nat} (h : zJq f fa) (q : fa.toInt ≤ fb.toInt) (hv : v.toInt ≤ fb.toInt) (hk : 23 ≤ k) : zJq (upd f k v) fb := by
  intro c r hc hr hq
  rw [z_ne (by omega)] at hq
  by_cases e : 23 + 4 * c + r = k
  · rw [z_eq e]; exact hv
  · rw [z_ne e]; exact Int.le_trans (h c r hc hr hq) q
theorem zJq_o {f : Nat → Int32} {fa v : Int32} {k : Nat} (h : zJq f fa) (hk : k < 23) (hk2 : ¬ (2 ≤ k ∧ k < 9)) : zJq (upd f k v) fa := by
  intro c r hc hr hq
  rw [z_ne (by omega)] at hq
  rw [z_ne (by omega)]
  exact h c r hc hr hq
section PFA
variable {k : pT} {a : pS}
theorem pEnds_a : (pEnds k a).2.2.2.2 = a.2.2.2.2 := by
  unfold pEnds
  split <;> rfl
theorem pAlso_a {kd w : Int32} : (pAlso kd w a).2.2.2.2 = a.2.2.2.2 := by
  unfold pAlso
  split <;> rfl
theorem pNum_a {lo hi : Int32} : (pNum k lo hi a).2.2.2.2.2 = a.2.2.2.2 := by
  unfold pNum
  split
  · exact pEnds_a
  · split
    · rfl
    · exact pAlso_a
theorem pWord_a {lo hi : Nat} : (pWord k lo hi a).2.2.2.2.2 = a.2.2.2.2 := by
  unfold pWord
  split
  · exact pEnds_a
  · rfl
theorem pEndL_aa : (pEndL k a).2.2.2.2 = a.2.2.2.2 := by
  unfold pEndL
  split
  · rfl
  · exact pEnds_a
theorem pNum_b : 0 ≤ (pNum k 0 6 a).1.toInt ∧ (pNum k 0 6 a).1.toInt ≤ 6 := by
  unfold pNum
  split
  · exact ⟨by show (0 : Int) ≤ (0 : Int32).toInt; decide, by show (0 : Int32).toInt ≤ 6; decide⟩
  · split
    · rename_i q
      exact q
    · exact ⟨by show (0 : Int) ≤ (0 : Int32).toInt; decide, by show (0 : Int32).toInt ≤ 6; decide⟩
theorem pCr_a : (pCr k a).2.2.2.2.2 = if a.2.2.2.2.toInt < (pNum k 0 6 a).1.toInt then (pNum k 0 6 a).1 else a.2.2.2.2 := by
  have e : (pCr k a).2.2.2.2.2 = if (pNum k 0 6 a).2.2.2.2.2.toInt < (pNum k 0 6 a).1.toInt then (pNum k 0 6 a).1 else (pNum k 0 6 a).2.2.2.2.2 := rfl
  rw [e, pNum_a]
theorem zIq_cr {inn : Int32} (h : zIq inn a.2.2.2.2) : zIq inn (pCr k a).2.2.2.2.2 := by
  have b := pNum_b (k := k) (a := a)
  have hf : -1 ≤ a.2.2.2.2.toInt ∧ a.2.2.2.2.toInt ≤ 6 := by
    obtain ⟨t, -, -, hf, -⟩ := h
    exact hf
  rw [pCr_a]
  refine zIq_m h ?_ ?_
  · split <;> omega
  · split <;> omega
theorem pCr_m : a.2.2.2.2.toInt ≤ (pCr k a).2.2.2.2.2.toInt ∧ (pCr k a).1.toInt ≤ (pCr k a).2.2.2.2.2.toInt := by
  rw [pCr_a]
  show a.2.2.2.2.toInt ≤ (if a.2.2.2.2.toInt < (pNum k 0 6 a).1.toInt then (pNum k 0 6 a).1 else a.2.2.2.2).toInt ∧ (pNum k 0 6 a).1.toInt ≤ (if a.2.2.2.2.toInt < (pNum k 0 6 a).1.toInt then (pNum k 0 6 a).1 else a.2.2.2.2).toInt
  split <;> omega
/-- the roads of a crossing, while they are told -/
def zJm (f : Nat → Int32) (fa : Int32) (m : Nat) : Prop := zJq f fa ∧ ∀ r : Nat, r < m → r < 4 → (f 0).toInt < 7 → (f (23 + 4 * (f 0).toInt.toNat + r)).toInt ≤ fa.toInt
theorem zIq_roads {inn cr : Int32} : ∀ (i m : Nat) (a : pS) (f : Nat → Int32), m ≤ 4 → f 1 = inn → f 0 = cr → zIq inn a.2.2.2.2 → zJm f a.2.2.2.2 m → ((pRoads k i m a f).2.2 1 = inn ∧ (pRoads k i m a f).2.2 0 = cr ∧ (pRoads k i m a f).1 ≤ 4) ∧ zIq inn (pRoads k i m a f).2.1.2.2.2.2 ∧ zJm (pRoads k i m a f).2.2 (pRoads k i m a f).2.1.2.2.2.2 (pRoads k i m a f).1
  | 0, m, a, f, hm, e, e0, h, hJ => ⟨⟨e, e0, hm⟩, h, hJ⟩
  | i + 1, m, a, f, hm, e, e0, h, hJ => by
    have hx : ∀ b : pS, b.2.2.2.2 = a.2.2.2.2 → zIq inn (pCr k b).2.2.2.2.2 ∧ zJm (if (f 0).toInt < 7 ∧ m < 4 then upd f (23 + 4 * (f 0).toInt.toNat + m) (pCr k b).1 else f) (pCr k b).2.2.2.2.2 (if m < 4 then m + 1 else 4) := by
      intro b hb
      have hm2 := pCr_m (k := k) (a := b)
      rw [hb] at hm2
      refine ⟨zIq_cr (by rw [hb]; exact h), ?_⟩
      by_cases q : (f 0).toInt < 7 ∧ m < 4
      · rw [if_pos q, if_pos q.2]
        refine ⟨zJq_l hJ.1 hm2.1 hm2.2 (by omega), fun r hr hr4 h7 => ?_⟩
        rw [show upd f (23 + 4 * (f 0).toInt.toNat + m) (pCr k b).1 0 = f 0 from z_ne (by omega)]
        by_cases t : r = m
        · rw [z_eq (by omega)]
          exact hm2.2
        · rw [z_ne (by omega)]
          exact Int.le_trans (hJ.2 r (by omega) hr4 q.1) hm2.1
      · rw [if_neg q]
        refine ⟨zJq_m hJ.1 hm2.1, fun r hr hr4 h7 => Int.le_trans (hJ.2 r ?_ hr4 h7) hm2.1⟩
        by_cases t : m < 4
        · exact absurd ⟨h7, t⟩ q
        · omega
    unfold pRoads
    split
    · have hb : (if m = 4 then pAlso 3 (nI (pWh k a.1)) a else a).2.2.2.2 = a.2.2.2.2 := by
        split
        · exact pAlso_a
        · rfl
      have hy := hx _ hb
      refine zIq_roads i _ _ _ (by split <;> omega) ?_ ?_ hy.1 hy.2
      · split
        · rw [z_ne (by omega)]; exact e
        · exact e
      · split
        · rw [z_ne (by omega)]; exact e0
        · exact e0
    · exact ⟨⟨e, e0, hm⟩, h, hJ⟩
/-- what holds of a land's row while it is read -/
def zKv (f : Nat → Int32) (fa : Int32) : Prop := zIq (f 1) fa ∧ zJq f fa ∧ 0 ≤ (f 0).toInt ∧ (f 0).toInt ≤ 7
theorem zKv_other {d : Nat} {w : Int32} {f : Nat → Int32} (h : zKv f a.2.2.2.2) : zKv (pOther k d w a f).2 (pOther k d w a f).1.2.2.2.2 := by
  obtain ⟨hI, hJ, h0⟩ := h
  unfold pOther
  split
  · exact ⟨hI, hJ, h0⟩
  · split
    · have hb : (pDB 7 w f a).2.2.2.2 = a.2.2.2.2 := by
        unfold pDB
        split
        · exact pAlso_a
        · rfl
      obtain ⟨⟨r1, r2, r3⟩, r4, r5, r6⟩ := zIq_roads (k := k) 601 0 (pDB 7 w f a) f (by decide) rfl rfl (by rw [hb]; exact hI) ⟨by rw [hb]; exact hJ, fun r hr _ _ => absurd hr (Nat.not_lt_zero r)⟩
      show zKv (if 7 ≤ (f 0).toInt then (pRoads k 601 0 (pDB 7 w f a) f).2.2 else upd (upd (pRoads k 601 0 (pDB 7 w f a) f).2.2 (2 + ((pRoads k 601 0 (pDB 7 w f a) f).2.2 0).toInt.toNat) (nI (pRoads k 601 0 (pDB 7 w f a) f).1)) 0 ((pRoads k 601 0 (pDB 7 w f a) f).2.2 0 + 1)) (pRoads k 601 0 (pDB 7 w f a) f).2.1.2.2.2.2
      revert r1 r2 r3 r4 r5 r6
      generalize (pRoads k 601 0 (pDB 7 w f a) f).2.2 = g
      generalize (pRoads k 601 0 (pDB 7 w f a) f).2.1.2.2.2.2 = fb
      generalize (pRoads k 601 0 (pDB 7 w f a) f).1 = m
      intro r1 r2 r3 r4 r5 r6
      split
      · exact ⟨by rw [r1]; exact r4, r5, by rw [r2]; exact h0⟩
      · have e1 : (g 0 + 1).toInt = (g 0).toInt + 1 := z_iaddI (by rw [r2]; show -2147483648 ≤ (f 0).toInt + 1; omega) (by rw [r2]; show (f 0).toInt + 1 < 2147483648; omega)
        rw [r2] at e1 ⊢
        refine ⟨?_, zJq_o ?_ (by decide) (by decide), ?_⟩
        · rw [z_ne (by omega), z_ne (by omega), r1]; exact r4
        · intro c r hc hr hq
          by_cases t : c = (f 0).toInt.toNat
          · rw [z_ne (by omega)]
            rw [z_eq (by omega)] at hq
            have em := nI_toInt (n := m) (by omega)
            have x := r6 r (by omega) hr (by rw [r2]; omega)
            rw [r2, ← t] at x
            exact x
          · rw [z_ne (by omega)] at hq
            rw [z_ne (by omega)]
            exact r5 c r hc hr hq
        · rw [z_eq rfl, e1]
          omega
    · split
      · have b := pNum_b (k := k) (a := a)
        have t := zIq_t hI b
        rw [← pCr_a] at t
        have hm2 := pCr_m (k := k) (a := a)
        show zKv (upd f 1 (f 1 ||| ((1 : Int32) <<< ((pCr k a).1 &&& 31)))) (pCr k a).2.2.2.2.2
        exact ⟨by rw [z_eq rfl]; exact t, zJq_o (zJq_m hJ hm2.1) (by decide) (by decide), by rw [z_ne (by decide)]; exact h0⟩
      · have t := zIq_cr (k := k) hI
        have hm2 := pCr_m (k := k) (a := a)
        have b : 0 ≤ (pCr k a).1.toInt ∧ (pCr k a).1.toInt ≤ 6 := pNum_b (k := k) (a := a)
        show zKv (upd f ((if d = 2 then 9 else 16) + (pCr k a).1.toInt.toNat) (pNum k 0 (if d = 2 then 3 else 9) (pCr k a).2).1) (pNum k 0 (if d = 2 then 3 else 9) (pCr k a).2).2.2.2.2.2
        rw [pNum_a]
        have e : (if d = 2 then 9 else 16) = 9 ∨ (if d = 2 then 9 else 16) = 16 := by
          split
          · exact Or.inl rfl
          · exact Or.inr rfl
        exact ⟨by rw [z_ne (by omega)]; exact t, zJq_o (zJq_m hJ hm2.1) (by omega) (by omega), by rw [z_ne (by omega)]; exact h0⟩
theorem zKv_land {f : Nat → Int32} (h : zKv f a.2.2.2.2) : zKv (pLand k a f).2 (pLand k a f).1.2.2.2.2 := by
  show zKv _ (pEndL k _).2.2.2.2
  rw [pEndL_aa]
  exact zKv_other (by rw [pWord_a]; exact h)
theorem zKv_lines : ∀ (i : Nat) (a : pS) (f : Nat → Int32), zKv f a.2.2.2.2 → zKv (pLines k 0 i a f).2 (pLines k 0 i a f).1.2.2.2.2
  | 0, a, f, h => h
  | i + 1, a, f, h => by
    unfold pLines
    split
    · refine zKv_lines i _ _ ?_
      rw [show pLine k 0 a f = pLand k a f from if_pos rfl]
      exact zKv_land h
    · exact h
theorem zKv_0 : zKv (fun _ => 0) (-1) := ⟨zIq_0, fun c r _ _ hq => absurd hq (by show ¬ (r : Int) < (0 : Int32).toInt; have : (0 : Int32).toInt = 0 := rfl; omega), by decide⟩
end PFA
theorem pRead_V {k : pT} {n : Nat} (h : (pRead k n 0).1.2.2.1.toInt = 0) : zVR (pRead k n 0).2 := by
  have hb : pBk (pLines k 0 601 (0, 0, 0, -1, -1) (fun _ => 0)).1 := pBk_lines 601 _ _ (fun q => absurd rfl q)
  have hi : zKv (pLines k 0 601 (0, 0, 0, -1, -1) (fun _ => 0)).2 (pLines k 0 601 (0, 0, 0, -1, -1) (fun _ => 0)).1.2.2.2.2 := zKv_lines 601 _ _ zKv_0
  have h : (pF5 n 0 (pF4 n 0 (pLines k 0 601 (0, 0, 0, -1, -1) (fun _ => 0)).1 (pLines k 0 601 (0, 0, 0, -1, -1) (fun _ => 0)).2) (pLines k 0 601 (0, 0, 0, -1, -1) (fun _ => 0)).2).2.2.1.toInt = 0 := h
  show zVR (pLines k 0 601 (0, 0, 0, -1, -1) (fun _ => 0)).2
  revert hb hi h
  generalize (pLines k 0 601 (0, 0, 0, -1, -1) (fun _ => 0)).1 = a
  generalize (pLines k 0 601 (0, 0, 0, -1, -1) (fun _ => 0)).2 = f
  intro hb hi h
  have hb4 : pBk (pF4 n 0 a f) := by
    unfold pF4
    split
    · exact pBk_also hb
    · exact hb
  have h4 : (pF4 n 0 a f).2.2.1.toInt = 0 ∧ pPosts f = true := by
    revert hb4 h
    generalize pF4 n 0 a f = b
    intro h hb4
    by_cases hq : b.2.2.1.toInt = 0
    · refine ⟨hq, ?_⟩
      by_cases hp : pPosts f = true
      · exact hp
      · exfalso
        unfold pF5 at h
        rw [if_pos ⟨rfl, hq, Bool.eq_false_iff.mpr hp⟩] at h
        unfold pAlso at h
        by_cases hc : b.2.1.toInt = 0
        · rw [if_neg (fun z => z.elim (fun z => z hc) (fun z => z.1 hq))] at h
          exact absurd (show (5 : Int32).toInt = 0 from h) (by decide)
        · exact hb4 hc hq
    · exfalso
      unfold pF5 at h
      rw [if_neg (fun z => hq z.2.1)] at h
      exact hq h
  have h5 := h4.1
  unfold pF4 at h5
  have ha : a.2.2.1.toInt = 0 := by
    by_cases hq : a.2.2.1.toInt = 0
    · exact hq
    · rw [if_neg (fun z => hq z.2.1)] at h5
      exact h5
  have hf : ¬ (f 0).toInt ≤ a.2.2.2.2.toInt := fun q => by
    rw [if_pos ⟨rfl, ha, q⟩] at h5
    unfold pAlso at h5
    by_cases hc2 : a.2.1.toInt = 0
    · rw [if_neg (fun z => z.elim (fun z => z hc2) (fun z => z.1 ha))] at h5
      exact absurd (show (4 : Int32).toInt = 0 from h5) (by decide)
    · exact hb hc2 ha
  obtain ⟨⟨t, ht, e, -, hd⟩, hJ, -⟩ := hi
  intro c hc
  refine ⟨pPosts_t.mp h4.2 c hc, fun hn => ?_, fun r hr hq => ?_⟩
  · rw [e]
    exact zIq_b t ht c hc (hd c (by omega) (by omega))
  · have := hJ c r hc hr hq
    omega
theorem zVA_low {f g : Nat → Int32} (hV : zVA f) (e : ∀ j, 610 ≤ j → g j = f j) : zVA g := fun i q hi hq => zVR_cg (fun j _ => e _ (by omega)) (hV i q hi hq)
theorem zVA_text {k : pT} {n s : Nat} {at_ r : Int32} {f g : Nat → Int32} (hV : zVA f) (hs : s < 3) (F2 : zText (pRead k n s) s at_ f g r) (T2 : ∀ j, 988 ≤ j → g j = f j) : zVA g := by
  have ho : ∀ (a b : Int32) (j : Nat), 7 ≤ j → pHd f a b j = f j := fun a b j hj => by
    unfold pHd
    rw [z_ne (by omega), z_ne (by omega), z_ne (by omega)]
  rcases F2 with ⟨-, -, z⟩ | ⟨-, -, -, z⟩ | ⟨-, y, -, z⟩
  · refine zVA_low hV (fun j hj => ?_)
    by_cases q : j < 988
    · rw [z j q, ho _ _ _ (by omega)]
    · exact T2 j (by omega)
  · refine zVA_low hV (fun j hj => ?_)
    by_cases q : j < 988
    · rw [z j q, ho _ _ _ (by omega)]
    · exact T2 j (by omega)
  · have hc2 : ∀ (G : Nat → Int32) (j : Nat), 7 ≤ j → pCnt s at_ G j = G j := fun G j hj => by
      unfold pCnt
      split
      · exact z_ne (by omega)
      · rfl
    intro i q hi hq
    by_cases e : i = 0
    · by_cases hs0 : s = 0 ∧ (pNr 0 at_ f).toInt.toNat = q
      · obtain ⟨hs0, hn⟩ := hs0
        subst hs0
        refine zVR_cg (fun j hj => ?_) (pRead_V y)
        show g (988 * i + (610 + 51 * q + j)) = (pRead k n 0).2 j
        rw [z _ (by omega), hn]
        unfold pPut
        have hp : pBase 0 q = 610 + 51 * q := rfl
        have hz : pSize 0 = 51 := rfl
        rw [hp, hz, if_pos (by omega)]
        exact congrArg _ (by omega)
      · refine zVR_cg (fun j hj => ?_) (hV i q hi hq)
        show g (988 * i + (610 + 51 * q + j)) = f (988 * i + (610 + 51 * q + j))
        rw [z _ (by omega)]
        have hx : ¬ (pBase s (pNr s at_ f).toInt.toNat ≤ 988 * i + (610 + 51 * q + j) ∧ 988 * i + (610 + 51 * q + j) < pBase s (pNr s at_ f).toInt.toNat + pSize s) := by
          rcases (show s = 0 ∨ s = 1 ∨ s = 2 by omega) with t | t | t
          · subst t
            have hp : pBase 0 (pNr 0 at_ f).toInt.toNat = 610 + 51 * (pNr 0 at_ f).toInt.toNat := rfl
            have hz : pSize 0 = 51 := rfl
            rw [hp, hz]
            have hn : ¬ (pNr 0 at_ f).toInt.toNat = q := fun w => hs0 ⟨rfl, w⟩
            omega
          · subst t
            have hp : pBase 1 (pNr 1 at_ f).toInt.toNat = 712 + 121 * (pNr 1 at_ f).toInt.toNat := rfl
            rw [hp]
            omega
          · subst t
            have hp : pBase 2 (pNr 2 at_ f).toInt.toNat = 954 + 17 * (pNr 2 at_ f).toInt.toNat := rfl
            rw [hp]
            omega
        unfold pPut
        rw [if_neg hx, hc2 _ _ (by omega), ho _ _ _ (by omega)]
    · exact zVR_cg (fun j _ => T2 _ (by omega)) (hV i q hi hq)
theorem zVA_feed {p : Nat} {a b c d e r : Int32} {f g : Nat → Int32} (hV : zVA f) (hp6 : p ≤ 600) (F2 : 580 < p ∧ r = -1 ∧ g = f ∨ p ≤ 580 ∧ r = nI (p + 20) ∧ zFeedR p a b c d e f g) : zVA g := by
  rcases F2 with ⟨-, -, y⟩ | ⟨hp5, -, y⟩
  · rw [y]; exact hV
  · obtain ⟨-, -, z3⟩ := y
    exact zVA_low hV (fun j hj => z3 j (by omega) (by omega))
theorem zVA_end {n r : Int32} {f g : Nat → Int32} (hV : zVA f) (F2 : (n.toInt < 0 ∨ (f 4).toInt < n.toInt) ∧ r.toInt = -1 ∧ g = f ∨ (0 ≤ n.toInt ∧ n.toInt ≤ (f 4).toInt) ∧ g = upd f 4 n ∧ r = n) : zVA g := by
  rcases F2 with ⟨-, -, y⟩ | ⟨-, y, -⟩
  · rw [y]; exact hV
  · rw [y]; exact zVA_low hV (fun j hj => z_ne (by omega))
theorem zVA_hd {f g : Nat → Int32} (hV : zVA f) (hg : g = upd (upd (upd f 4 0) 5 0) 6 (-1)) : zVA g := by
  rw [hg]
  exact zVA_low hV (fun j hj => by rw [z_ne (by omega), z_ne (by omega), z_ne (by omega)])
theorem zVA_img {f g : Nat → Int32} {k : Nat} (hk : k < 3) (hV : zVA f) (c1 : ∀ j, j < 988 → g (988 * (k + 1) + j) = f j) (c2 : ∀ j, (j < 988 * (k + 1) ∨ 988 * (k + 1) + 988 ≤ j) → g j = f j) : zVA g := by
  intro i q hi hq
  by_cases e : i = k + 1
  · subst e
    exact zVR_cg (fun j _ => (c1 _ (by omega)).trans (congrArg f (by omega))) (hV 0 q (by decide) hq)
  · have : i < k + 1 ∨ k + 1 < i := by omega
    exact zVR_cg (fun j _ => c2 _ (by omega)) (hV i q hi hq)
theorem zVA_ag {K : Nat} {x r' : Int32} {fh f g : Nat → Int32} (hV : zVA f) (hx : x.toInt = (K : Int)) (hK : K < 3) (F2 : r' = 0 ∧ (x.toInt < 0 ∨ 3 ≤ x.toInt ∨ fh x.toNatClampNeg = 0) ∧ g = f ∨ r' = 1 ∧ (0 ≤ x.toInt ∧ x.toInt < 3) ∧ ¬ fh x.toNatClampNeg = 0 ∧ (∀ j, j < 988 → g j = f (988 * (x.toNatClampNeg + 1) + j)) ∧ ∀ j, 988 ≤ j → g j = f j) : zVA g := by
  have e : x.toNatClampNeg = K := by have := z_clI (x := x) (by omega); omega
  rw [e] at F2
  rcases F2 with ⟨-, -, z⟩ | ⟨-, -, -, z, z2⟩
  · rw [z]; exact hV
  · intro i q hi hq
    by_cases e : i = 0
    · exact zVR_cg (fun j _ => (z _ (by omega)).trans (congrArg f (by omega))) (hV (K + 1) q (by omega) hq)
    · exact zVR_cg (fun j _ => z2 _ (by omega)) (hV i q hi hq)
theorem zBit_z (y : Int32) : zBit 0 y = 0 := by
  unfold zBit
  rw [Int32.zero_shiftRight]
  rfl
theorem zVR_z {R : Nat → Int32} (h : ∀ j, j < 51 → R j = 0) : zVR R := by
  intro c hc
  rw [h _ (by omega), h _ (by omega), h _ (by omega), h _ (by omega)]
  exact ⟨Or.inl rfl, fun _ => zBit_z _, fun r _ hq => absurd hq (by show ¬ (r : Int) < (0 : Int32).toInt; have : (0 : Int32).toInt = 0 := rfl; omega)⟩
theorem zVA_st : zVA (upd (fun _ => 0) 6 (-1)) := fun i q _ _ => zVR_z (fun j _ => if_neg (by omega))
theorem zRunN_n {f2 f3 lf : Nat → Int32} : ∀ (n : Nat) (f : Nat → Int32) (x : Int32) (k : Nat), k ≤ (zRunN f2 f3 lf n f x k).2.2
  | 0, f, x, k => Nat.le_refl _
  | n + 1, f, x, k => by
    unfold zRunN
    split
    · exact Nat.le_refl _
    · exact Nat.le_trans (Nat.le_succ k) (zRunN_n n _ _ _)
theorem zLs_c {W W' L L' : Nat → Int32} (h : zLs W L L') (e : ∀ j, j < 7 → W' j = W j) : zLs W' L L' := fun j r hj hr hq => h j r hj hr (by rw [← e j hj]; exact hq)
abbrev zHas (cr x : Int32) : Prop := 0 ≤ x.toInt ∧ x.toInt < cr.toInt ∧ x.toInt < 7
/-- roads lead to crossings that are there -/
def zLq (cr : Int32) (k1 k2 : Nat → Int32) : Prop := ∀ j r : Nat, j < 7 → r < 4 → (r : Int) < (k1 j).toInt → 0 ≤ (k2 (4 * j + r)).toInt ∧ (k2 (4 * j + r)).toInt < cr.toInt
theorem zLq_e {cr inn z : Int32} {k1 k2 k3 k4 f : Nat → Int32} {B : Nat} (h : zLnd cr inn k1 k2 k3 k4 (fun j => f (B + j))) (hF : zLF (fun j => f (B + j))) (hz : z.toInt.toNat = B) (hV : zVR (fun j => f (z.toInt.toNat + j))) : zLq cr k1 k2 := by
  obtain ⟨ha, -, -, hd, -, hr⟩ := h
  rw [hz] at hV
  intro j r hj hr4 hq
  have e := hr j r hj hr4 hq
  have e : k2 (4 * j + r) = f (B + (23 + 4 * j + r)) := e
  have b : 0 ≤ (f (B + (23 + (4 * j + r)))).toInt := (hF.2.2 (4 * j + r) (by omega)).1
  have d : k1 j = f (B + (2 + j)) := (hd j hj).1
  have v : (r : Int) < (f (B + (2 + j))).toInt → (f (B + (23 + 4 * j + r))).toInt < (f (B + 0)).toInt := (hV j hj).2.2 r hr4
  have ha : cr = f (B + 0) := ha
  rw [e, ha]
  rw [show B + (23 + (4 * j + r)) = B + (23 + 4 * j + r) by omega] at b
  exact ⟨b, v (by rw [← d]; exact hq)⟩
theorem zStep_h {cr inn x : Int32} {f1 f2 f3 k1 k2 : Nat → Int32} (hI : zP3 f1 f3) (hW : ∀ j, j < 7 → f3 j = zWays cr inn k1 (nI j)) (hr : ∀ j, j < 7 → (f3 j).toInt ≤ (k1 j).toInt) (hL : zLq cr k1 k2) (h7 : cr.toInt ≤ 7) (h : ¬ zStep f1 f2 f3 k2 x = -1) : zHas cr (zStep f1 f2 f3 k2 x) := by
  unfold zStep at h ⊢
  by_cases t : zTurn f1 f2 f3 x = -1
  · rw [if_pos t] at h
    exact absurd rfl h
  · rw [if_neg t]
    have g := (zTurn_lt (f2 := f2) hI x).resolve_left t
    have e1 := z_clI g.1
    have e2 := z_clI g.2.2.1
    have q := hI x.toNatClampNeg (by omega)
    have q2 := hr x.toNatClampNeg (by omega)
    have y := hL x.toNatClampNeg (zTurn f1 f2 f3 x).toNatClampNeg (by omega) (by omega) (by omega)
    exact ⟨y.1, y.2, by omega⟩
theorem zWays_r {cr inn : Int32} {k1 k3 f3 : Nat → Int32} (hI : zLI cr k1 k3) (hW : ∀ j, j < 7 → f3 j = zWays cr inn k1 (nI j)) : ∀ j, j < 7 → (f3 j).toInt ≤ (k1 j).toInt := by
  intro j hj
  rw [hW j hj]
  have t2 := nI_clamp (n := j) (by omega)
  have b := (hI.2.1 j hj).1
  unfold zWays
  split
  · rw [t2]; exact Int.le_refl _
  · exact b
theorem zRunN_h {cr inn : Int32} {f2 f3 k1 k2 : Nat → Int32} (hW : ∀ j, j < 7 → f3 j = zWays cr inn k1 (nI j)) (hr : ∀ j, j < 7 → (f3 j).toInt ≤ (k1 j).toInt) (hL : zLq cr k1 k2) (h7 : cr.toInt ≤ 7) : ∀ (n : Nat) (f : Nat → Int32) (x : Int32) (k : Nat), zP3 f f3 → zHas cr x → zHas cr (zRunN f2 f3 k2 n f x k).2.1
  | 0, f, x, k, _, h => h
  | n + 1, f, x, k, hI, h => by
    unfold zRunN
    by_cases q : zStep f f2 f3 k2 x = -1
    · rw [if_pos q]; exact h
    · rw [if_neg q]
      exact zRunN_h hW hr hL h7 n _ _ _ (zPost_I hI x) (zStep_h hI hW hr hL h7 q)
/-- posts, roads shut, walkers; steps; how many came to no inn -/
abbrev zK : Type := (Nat → Int32) × (Nat → Int32) × (Nat → Int32) × Int32 × Int32
def zMvH (H : Nat → Int32) (x y : Int32) : Nat → Int32 := upd (upd H x.toNatClampNeg (H x.toNatClampNeg - 1)) y.toNatClampNeg (upd H x.toNatClampNeg (H x.toNatClampNeg - 1) y.toNatClampNeg + 1)
def zGoF (cr : Int32) (W L : Nat → Int32) (x : Int32) (D : zK) : Option zK := if (zHas cr x ∧ 1 ≤ (D.2.2.1 x.toNatClampNeg).toInt) ∧ ¬ zStep D.1 D.2.1 W L x = -1 then some (zPost D.1 D.2.1 W x, D.2.1, zMvH D.2.2.1 x (zStep D.1 D.2.1 W L x), D.2.2.2.1 + 1, D.2.2.2.2) else none
def zRuF (cr inn : Int32) (W L : Nat → Int32) (x : Int32) (D : zK) : Option zK := if zHas cr x ∧ 1 ≤ (D.2.2.1 x.toNatClampNeg).toInt then some ((zRunN D.2.1 W L 499 D.1 x 0).1, D.2.1, zMvH D.2.2.1 x (zRunN D.2.1 W L 499 D.1 x 0).2.1, D.2.2.2.1 + nI (zRunN D.2.1 W L 499 D.1 x 0).2.2, if zBit inn (zRunN D.2.1 W L 499 D.1 x 0).2.1 = 1 then D.2.2.2.2 else D.2.2.2.2 + 1) else none
def zTuF (cr : Int32) (W : Nat → Int32) (x : Int32) (D : zK) : Option zK := if zHas cr x ∧ ¬ zTurn D.1 D.2.1 W x = -1 then some (zPost D.1 D.2.1 W x, D.2) else none
def zAdF (cr x : Int32) (D : zK) : Option zK := if zHas cr x ∧ (D.2.2.1 x.toNatClampNeg).toInt < 99 then some (D.1, D.2.1, upd D.2.2.1 x.toNatClampNeg (D.2.2.1 x.toNatClampNeg + 1), D.2.2.2) else none
def zShF (cr : Int32) (Ro : Nat → Int32) (x y : Int32) (D : zK) : Option zK := if zHas cr x ∧ (0 ≤ y.toInt ∧ y.toInt < (Ro x.toNatClampNeg).toInt ∧ y.toInt < 4) ∧ zBit (D.2.1 x.toNatClampNeg) y = 0 then some (D.1, upd D.2.1 x.toNatClampNeg (D.2.1 x.toNatClampNeg ||| 1 <<< (y &&& 31)), D.2.2) else none
def zOpF (cr : Int32) (Ro : Nat → Int32) (x y : Int32) (D : zK) : Option zK := if zHas cr x ∧ (0 ≤ y.toInt ∧ y.toInt < (Ro x.toNatClampNeg).toInt ∧ y.toInt < 4) ∧ ¬ zBit (D.2.1 x.toNatClampNeg) y = 0 then some (D.1, upd D.2.1 x.toNatClampNeg (D.2.1 x.toNatClampNeg &&& (1 <<< (y &&& 31) ^^^ (-1))), D.2.2) else none
/-- a deed -/
def zDe (cr inn : Int32) (W Ro L : Nat → Int32) (d x y : Int32) (D : zK) : Option zK := if d.toInt = 0 then zGoF cr W L x D else if d.toInt = 1 then zRuF cr inn W L x D else if d.toInt = 2 then zTuF cr W x D else if d.toInt = 3 then zAdF cr x D else if d.toInt = 4 then zShF cr Ro x y D else if d.toInt = 5 then zOpF cr Ro x y D else none
theorem zStep_t {f1 f2 f3 lf : Nat → Int32} {x : Int32} (h : zStep f1 f2 f3 lf x = -1) (hI : zP3 f1 f3) (hb : ∀ j r : Nat, j < 7 → r < 4 → (r : Int) < (f3 j).toInt → 0 ≤ (lf (4 * j + r)).toInt) : zTurn f1 f2 f3 x = -1 := by
  by_cases t : zTurn f1 f2 f3 x = -1
  · exact t
  · exfalso
    unfold zStep at h
    rw [if_neg t] at h
    have g := (zTurn_lt (f2 := f2) hI x).resolve_left t
    have e1 := z_clI g.1
    have e2 := z_clI g.2.2.1
    have q := (hI x.toNatClampNeg (by omega)).1
    have b := hb x.toNatClampNeg (zTurn f1 f2 f3 x).toNatClampNeg (by omega) (by omega) (by omega)
    rw [h] at b
    exact absurd b (by decide)
theorem zLq_b {cr inn : Int32} {f3 k1 k2 : Nat → Int32} (hr : ∀ j, j < 7 → (f3 j).toInt ≤ (k1 j).toInt) (hL : zLq cr k1 k2) : ∀ j r : Nat, j < 7 → r < 4 → (r : Int) < (f3 j).toInt → 0 ≤ (k2 (4 * j + r)).toInt := fun j r hj hr4 hq => (hL j r hj hr4 (Int.lt_of_lt_of_le hq (hr j hj))).1
theorem zRuF_i {cr inn x w s2 : Int32} {W L P S H g1 gw : Nat → Int32} {st nv n2 : Int32} (h : zHas cr x ∧ 1 ≤ (H x.toNatClampNeg).toInt) (e1 : g1 = (zRunN S W L 499 P x 0).1) (e2 : s2 = nI (zRunN S W L 499 P x 0).2.2) (e3 : w = (zRunN S W L 499 P x 0).2.1) (e4 : gw = zMvH H x w) (e5 : (if zBit inn w = 1 then nv else nv + 1) = n2) : zRuF cr inn W L x (P, S, H, st, nv) = some (g1, S, gw, st + s2, n2) := by
  unfold zRuF
  rw [if_pos h, e1, e4, e2, ← e5, e3]
set_option maxHeartbeats 4000000 in
set_option maxRecDepth 100000 in
/-- c_f_Course_add -/
theorem c_f_Course_add (l : Launch) (T : zTy) (h : Nat) (po : Nat) (la : Nat) (fw : Nat → Int32) (v0 : Int32) (v1 : Int32) (v2 : Int32) (v3 : Int32) (v4 : Int32) (v5 : Int32) (v6 : Int32) (v7 : Int32) (wc : va_W) (cr : Int32) (inn : Int32) (k1 : Nat → Int32) (k2 : Nat → Int32) (k3 : Nat → Int32) (k4 : Nat → Int32) (z : va_W) (x : Int32) (hc : bCourse T h po la fw v0 v1 v2 v3 v4 v5 v6 v7 wc) (hz : bLand T la cr inn k1 k2 k3 k4 z) : zMi l T yX1_add cX1_add 2 (some .boolean) 2 0 0 [.ref h, .int x] [wc, z] (fun (r : Int32) bs => ∃ (wc2 : va_W) (gw : Nat → Int32), bs = [wc2, z] ∧ bCourse T h po la gw v0 v1 v2 v3 v4 v5 v6 v7 wc2 ∧ (∀ f1 f2 : Nat → Int32, r = 1 ∧ zAdF cr x (f1, f2, fw, v0, v1) = some (f1, f2, gw, v0, v1) ∨ r = 0 ∧ zAdF cr x (f1, f2, fw, v0, v1) = none ∧ gw = fw)) := by
  refine zMi_of (own := RX1) (by decide) rfl (Nat.le_of_ble_eq_true rfl) ?_
  intro p e s m args below meth c A ls C hr hlocks hnm hAe G hl
  refine zHide (fun Qz_ hQz_ => ?_)
  have hx := C.1
  have hb := C.2.1
  have hl : lv_has ls 2 [(0, .ref h), (1, .int x)] := hl
  refine lv_aload_n hx hb dX1_add_0 rfl (lv_at hl 0 rfl) ?_
  refine zEx1 hc ?_
  intro a1_1 hbs9
  clear hc
  subst hbs9
  have G : zS T A s.heap s [[zO1 h po a1_1 v0 la v1 v2 v3 v4 v5 v6 v7], [zAr T 0 a1_1 7 fw], z] _ _ := G.re rfl
  refine z_get C G clX1 0 rfl 3 (by decide) m_fl_RX1_25 rfl dX1_add_1 ?_
  refine lv_iload_n hx hb dX1_add_4 rfl (lv_at hl 1 rfl) ?_
  refine z_Vi (bc := [z]) (br := [[zO1 h po a1_1 v0 la v1 v2 v3 v4 v5 v6 v7], [zAr T 0 a1_1 7 fw]]) (As := [.int x]) (rest := []) C G (c_has l T la cr inn k1 k2 k3 k4 z x hz) (kV_RX1_112 C.2.2.2.2 (Nat.le_of_ble_eq_true rfl) (Nat.le_of_ble_eq_true rfl)) [2] [2] rfl rfl (ci := 4) (qc := (RX4, TX4, 6)) rfl rfl (List.mem_flatten.mpr ⟨_, List.mem_of_getElem? (i := 0) rfl, (bLand_mem hz).choose_spec⟩) rfl rfl hl.1 dX1_add_5 (Nat.le_of_ble_eq_true rfl) (Nat.le_of_ble_eq_true rfl) (fun r_3 b1 H locs hw G => ?_)
  refine zAn2 hw ?_
  intro hbs9 hc_2
  clear hw
  subst hbs9
  have G : zS T A s.heap s [[zO1 h po a1_1 v0 la v1 v2 v3 v4 v5 v6 v7], [zAr T 0 a1_1 7 fw], z] _ _ := G
  rcases hc_2 with ⟨rfl, h_4, h_5, h_6⟩ | ⟨rfl, h_7⟩
  · have h_4 : 0 ≤ x.toInt := h_4
    have h_5 : x.toInt < cr.toInt := h_5
    have h_6 : x.toInt < 7 := h_6
    refine lv_if_eq (tgt := 22) hx hb dX1_add_8 (by decide) (fun q => absurd q (by decide)) (fun _ => ?_)
    refine lv_aload_n hx hb dX1_add_11 rfl (lv_at hl 0 rfl) ?_
    refine z_get C G clX1 0 rfl 1 (by decide) m_fl_RX1_18 rfl dX1_add_12 ?_
    refine lv_iload_n hx hb dX1_add_15 rfl (lv_at hl 1 rfl) ?_
    refine z_ild C G 1 rfl (vp_in_iff.mpr ⟨by omega, by omega⟩) dX1_add_16 ?_
    refine lv_topi (fun v_8 ev_8 => ?_)
    subst ev_8
    refine lv_bipush (v := 99) hx hb dX1_add_17 (by decide) ?_
    refine lv_icmp_lt (tgt := 24) hx hb dX1_add_19 (by decide) (fun c_9 => ?_) (fun c_9 => ?_)
    · have c_9n : (fw x.toNatClampNeg).toInt < (99 : Int) := (fa_lt _ _).mp c_9
      refine lv_aload_n hx hb dX1_add_24 rfl (lv_at hl 0 rfl) ?_
      refine z_get C G clX1 0 rfl 1 (by decide) m_fl_RX1_18 rfl dX1_add_25 ?_
      refine lv_iload_n hx hb dX1_add_28 rfl (lv_at hl 1 rfl) ?_
      refine lv_dup2_11 hx hb dX1_add_29 rfl rfl ?_
      refine z_ild C G 1 rfl (vp_in_iff.mpr ⟨by omega, by omega⟩) dX1_add_30 ?_
      refine lv_topi (fun v_10 ev_10 => ?_)
      subst ev_10
      refine lv_iconst (v := 1) hx hb dX1_add_31 (by decide) ?_
      refine lv_iadd hx hb dX1_add_32 ?_
      refine z_ist C G 1 rfl (vp_in_iff.mpr ⟨by omega, by omega⟩) dX1_add_33 (fun H locs G => ?_)
      have G : zS T A s.heap s [[zO1 h po a1_1 v0 la v1 v2 v3 v4 v5 v6 v7], [zAr T 0 a1_1 7 (upd fw x.toNatClampNeg ((fw x.toNatClampNeg) + 1))], z] _ _ := G
      refine lv_iconst (v := 1) hx hb dX1_add_34 (by decide) ?_
      have hw_11 : bCourse T h po la (upd fw x.toNatClampNeg ((fw x.toNatClampNeg) + 1)) v0 v1 v2 v3 v4 v5 v6 v7 [zO1 h po a1_1 v0 la v1 v2 v3 v4 v5 v6 v7, zAr T 0 a1_1 7 (upd fw x.toNatClampNeg ((fw x.toNatClampNeg) + 1))] := ⟨a1_1, rfl⟩
      have G : zS T A s.heap s [[zO1 h po a1_1 v0 la v1 v2 v3 v4 v5 v6 v7, zAr T 0 a1_1 7 (upd fw x.toNatClampNeg ((fw x.toNatClampNeg) + 1))], z] _ _ := G.re rfl
      exact z_back hQz_ (z_zret C hr hlocks G (Nat.le_of_ble_eq_true rfl) (Nat.le_of_ble_eq_true rfl) dX1_add_35 rfl ⟨([zO1 h po a1_1 v0 la v1 v2 v3 v4 v5 v6 v7, zAr T 0 a1_1 7 (upd fw x.toNatClampNeg ((fw x.toNatClampNeg) + 1))]), (upd fw x.toNatClampNeg ((fw x.toNatClampNeg) + 1)), rfl, hw_11, (fun f1 f2 => Or.inl ⟨rfl, by unfold zAdF; rw [if_pos ⟨⟨by omega, by omega, by omega⟩, by first | with_reducible assumption | assumption⟩]⟩)⟩)
    · have c_9n : ¬ (fw x.toNatClampNeg).toInt < (99 : Int) := fun q => c_9 ((fa_lt _ _).mpr q)
      refine lv_iconst (v := 0) hx hb dX1_add_22 (by decide) ?_
      have hw_12 : bCourse T h po la fw v0 v1 v2 v3 v4 v5 v6 v7 [zO1 h po a1_1 v0 la v1 v2 v3 v4 v5 v6 v7, zAr T 0 a1_1 7 fw] := ⟨a1_1, rfl⟩
      have G : zS T A s.heap s [[zO1 h po a1_1 v0 la v1 v2 v3 v4 v5 v6 v7, zAr T 0 a1_1 7 fw], z] _ _ := G.re rfl
      exact z_back hQz_ (z_zret C hr hlocks G (Nat.le_of_ble_eq_true rfl) (Nat.le_of_ble_eq_true rfl) dX1_add_23 rfl ⟨([zO1 h po a1_1 v0 la v1 v2 v3 v4 v5 v6 v7, zAr T 0 a1_1 7 fw]), fw, rfl, hw_12, (fun f1 f2 => Or.inr ⟨rfl, by unfold zAdF; rw [if_neg (fun q8 => by have q7 := q8.2; have q7 : (fw x.toNatClampNeg).toInt < 99 := q7; omega)], rfl⟩)⟩)
  · have h_7 : (x.toInt < 0 ∨ cr.toInt ≤ x.toInt ∨ 7 ≤ x.toInt) := h_7
    refine lv_if_eq (tgt := 22) hx hb dX1_add_8 (by decide) (fun _ => ?_) (fun q => absurd (by decide) q)
    refine lv_iconst (v := 0) hx hb dX1_add_22 (by decide) ?_
    have hw_13 : bCourse T h po la fw v0 v1 v2 v3 v4 v5 v6 v7 [zO1 h po a1_1 v0 la v1 v2 v3 v4 v5 v6 v7, zAr T 0 a1_1 7 fw] := ⟨a1_1, rfl⟩
    have G : zS T A s.heap s [[zO1 h po a1_1 v0 la v1 v2 v3 v4 v5 v6 v7, zAr T 0 a1_1 7 fw], z] _ _ := G.re rfl
    exact z_back hQz_ (z_zret C hr hlocks G (Nat.le_of_ble_eq_true rfl) (Nat.le_of_ble_eq_true rfl) dX1_add_23 rfl ⟨([zO1 h po a1_1 v0 la v1 v2 v3 v4 v5 v6 v7, zAr T 0 a1_1 7 fw]), fw, rfl, hw_13, (fun f1 f2 => Or.inr ⟨rfl, by unfold zAdF; rw [if_neg (fun q8 => by have q7 := q8.2; have q7 : (fw x.toNatClampNeg).toInt < 99 := q7; omega)], rfl⟩)⟩)
set_option maxHeartbeats 4000000 in
set_option maxRecDepth 100000 in
/-- c_f_Course_shut -/
theorem c_f_Course_shut (l : Launch) (T : zTy) (h : Nat) (po : Nat) (la : Nat) (fw : Nat → Int32) (v0 : Int32) (v1 : Int32) (v2 : Int32) (v3 : Int32) (v4 : Int32) (v5 : Int32) (v6 : Int32) (v7 : Int32) (wc : va_W) (f1 : Nat → Int32) (f2 : Nat → Int32) (f3 : Nat → Int32) (st : Int32) (wh : Int32) (wp : va_W) (cr : Int32) (inn : Int32) (k1 : Nat → Int32) (k2 : Nat → Int32) (k3 : Nat → Int32) (k4 : Nat → Int32) (z : va_W) (x : Int32) (y : Int32) (hc : bCourse T h po la fw v0 v1 v2 v3 v4 v5 v6 v7 wc) (hp : bPosts T po la f1 f2 f3 st wh wp) (hz : bLand T la cr inn k1 k2 k3 k4 z) : zMi l T yX1_shut cX1_shut 4 (some .boolean) 3 0 0 [.ref h, .int x, .int y] [wc, wp, z] (fun (r : Int32) bs => ∃ (wp2 : va_W) (g2 : Nat → Int32), bs = [wc, wp2, z] ∧ bPosts T po la f1 g2 f3 st wh wp2 ∧ (∀ (fw : Nat → Int32) (v0 v1 : Int32), r = 1 ∧ zShF cr k1 x y (f1, f2, fw, v0, v1) = some (f1, g2, fw, v0, v1) ∨ r = 0 ∧ zShF cr k1 x y (f1, f2, fw, v0, v1) = none ∧ g2 = f2)) := by
  refine zMi_of (own := RX1) (by decide) rfl (Nat.le_of_ble_eq_true rfl) ?_
  intro p e s m args below meth c A ls C hr hlocks hnm hAe G hl
  refine zHide (fun Qz_ hQz_ => ?_)
  have hx := C.1
  have hb := C.2.1
  have hl : lv_has ls 4 [(0, .ref h), (1, .int x), (2, .int y)] := hl
  refine lv_aload_n hx hb dX1_shut_0 rfl (lv_at hl 0 rfl) ?_
  refine zEx1 hc ?_
  intro a1_1 hbs9
  clear hc
  subst hbs9
  have G : zS T A s.heap s [[zO1 h po a1_1 v0 la v1 v2 v3 v4 v5 v6 v7], [zAr T 0 a1_1 7 fw], wp, z] _ _ := G.re rfl
  refine z_get C G clX1 0 rfl 3 (by decide) m_fl_RX1_25 rfl dX1_shut_1 ?_
  refine lv_iload_n hx hb dX1_shut_4 rfl (lv_at hl 1 rfl) ?_
  refine lv_iload_n hx hb dX1_shut_5 rfl (lv_at hl 2 rfl) ?_
  refine z_Vi (bc := [z]) (br := [[zO1 h po a1_1 v0 la v1 v2 v3 v4 v5 v6 v7], [zAr T 0 a1_1 7 fw], wp]) (As := [.int x, .int y]) (rest := []) C G (c_hasRoad l T la cr inn k1 k2 k3 k4 z x y hz) (kV_RX1_138 C.2.2.2.2 (Nat.le_of_ble_eq_true rfl) (Nat.le_of_ble_eq_true rfl)) [3] [3] rfl rfl (ci := 4) (qc := (RX4, TX4, 6)) rfl rfl (List.mem_flatten.mpr ⟨_, List.mem_of_getElem? (i := 0) rfl, (bLand_mem hz).choose_spec⟩) rfl rfl hl.1 dX1_shut_6 (Nat.le_of_ble_eq_true rfl) (Nat.le_of_ble_eq_true rfl) (fun r_3 b1 H locs hw G => ?_)
  refine zAn2 hw ?_
  intro hbs9 hc_2
  clear hw
  subst hbs9
  have G : zS T A s.heap s [[zO1 h po a1_1 v0 la v1 v2 v3 v4 v5 v6 v7], [zAr T 0 a1_1 7 fw], wp, z] _ _ := G
  rcases hc_2 with ⟨rfl, h_4, h_5, h_6, h_7, h_8, h_9⟩ | ⟨rfl, h_10⟩
  · have h_4 : 0 ≤ x.toInt := h_4
    have h_5 : x.toInt < cr.toInt := h_5
    have h_6 : x.toInt < 7 := h_6
    have h_7 : 0 ≤ y.toInt := h_7
    have h_8 : y.toInt < (k1 x.toNatClampNeg).toInt := h_8
    have h_9 : y.toInt < 4 := h_9
    refine lv_if_eq (tgt := 28) hx hb dX1_shut_9 (by decide) (fun q => absurd q (by decide)) (fun _ => ?_)
    refine lv_aload_n hx hb dX1_shut_12 rfl (lv_at hl 0 rfl) ?_
    refine z_get C G clX1 0 rfl 0 (by decide) m_fl_RX1_12 rfl dX1_shut_13 ?_
    refine lv_iload_n hx hb dX1_shut_16 rfl (lv_at hl 1 rfl) ?_
    refine lv_iload_n hx hb dX1_shut_17 rfl (lv_at hl 2 rfl) ?_
    refine z_Vi (bc := [wp, z]) (br := [[zO1 h po a1_1 v0 la v1 v2 v3 v4 v5 v6 v7], [zAr T 0 a1_1 7 fw]]) (As := [.int x, .int y]) (rest := []) C G (c_isShut l T po la f1 f2 f3 st wh wp cr inn k1 k2 k3 k4 z x y hp hz) (kV_RX1_141 C.2.2.2.2 (Nat.le_of_ble_eq_true rfl) (Nat.le_of_ble_eq_true rfl)) [2, 3] [2, 0] rfl rfl (ci := 6) (qc := (RX6, TX6, 6)) rfl rfl (List.mem_flatten.mpr ⟨_, List.mem_of_getElem? (i := 0) rfl, (bPosts_mem hp).choose_spec⟩) rfl rfl hl.1 dX1_shut_18 (Nat.le_of_ble_eq_true rfl) (Nat.le_of_ble_eq_true rfl) (fun r_12 b1 H locs hw G => ?_)
    refine zAn2 hw ?_
    intro hbs9 hc_11
    clear hw
    subst hbs9
    have G : zS T A s.heap s [[zO1 h po a1_1 v0 la v1 v2 v3 v4 v5 v6 v7], [zAr T 0 a1_1 7 fw], wp, z] _ _ := G
    rcases hc_11 with ⟨rfl, h_13, h_14, h_15, h_16, h_17, h_18, h_19⟩ | ⟨rfl, h_20⟩
    · have h_13 : 0 ≤ x.toInt := h_13
      have h_14 : x.toInt < cr.toInt := h_14
      have h_15 : x.toInt < 7 := h_15
      have h_16 : 0 ≤ y.toInt := h_16
      have h_17 : y.toInt < (k1 x.toNatClampNeg).toInt := h_17
      have h_18 : y.toInt < 4 := h_18
      have h_19 : ¬ zBit (f2 x.toNatClampNeg) y = 0 := h_19
      refine lv_if_ne (tgt := 28) hx hb dX1_shut_21 (by decide) (fun _ => ?_) (fun q => absurd q (by decide))
      refine lv_iconst (v := 0) hx hb dX1_shut_28 (by decide) ?_
      refine lv_istore_n (lv' := [(3, .int 0), (0, .ref h), (1, .int x), (2, .int y)]) hx hb dX1_shut_29 rfl hl (by decide) (zLvf_h rfl) (fun ls hl => ?_)
      refine lv_iload_n hx hb dX1_shut_30 rfl (lv_at hl 0 rfl) ?_
      refine lv_if_eq (tgt := 43) hx hb dX1_shut_31 (by decide) (fun _ => ?_) (fun q => absurd (by decide) q)
      refine lv_iload_n hx hb dX1_shut_43 rfl (lv_at hl 0 rfl) ?_
      have hw_21 : bCourse T h po la fw v0 v1 v2 v3 v4 v5 v6 v7 [zO1 h po a1_1 v0 la v1 v2 v3 v4 v5 v6 v7, zAr T 0 a1_1 7 fw] := ⟨a1_1, rfl⟩
      have G : zS T A s.heap s [[zO1 h po a1_1 v0 la v1 v2 v3 v4 v5 v6 v7, zAr T 0 a1_1 7 fw], wp, z] _ _ := G.re rfl
      exact z_back hQz_ (z_zret C hr hlocks G (Nat.le_of_ble_eq_true rfl) (Nat.le_of_ble_eq_true rfl) dX1_shut_44 rfl ⟨wp, f2, rfl, hp, (fun fw v0 v1 => Or.inr ⟨rfl, by unfold zShF; rw [if_neg (fun q8 => by obtain ⟨⟨a1, a2, a3⟩, ⟨b1, b2, b3⟩, b4⟩ := q8; have b4 : zBit (f2 x.toNatClampNeg) y = 0 := b4; first | omega | (rcases hns with e9 | e9 | e9 | e9 | e9 | e9 | e9 <;> first | omega | exact absurd e9 b4 | exact absurd b4 e9) | exact absurd b4 (by first | with_reducible assumption | assumption))], rfl⟩)⟩)
    · have h_20 : (x.toInt < 0 ∨ cr.toInt ≤ x.toInt ∨ 7 ≤ x.toInt ∨ y.toInt < 0 ∨ (k1 x.toNatClampNeg).toInt ≤ y.toInt ∨ 4 ≤ y.toInt ∨ zBit (f2 x.toNatClampNeg) y = 0) := h_20
      have hns := h_20
      refine lv_if_ne (tgt := 28) hx hb dX1_shut_21 (by decide) (fun q => absurd (by decide) q) (fun _ => ?_)
      refine lv_iconst (v := 1) hx hb dX1_shut_24 (by decide) ?_
      refine lv_goto (tgt := 29) hx hb dX1_shut_25 (by decide) ?_
      refine lv_istore_n (lv' := [(3, .int 1), (0, .ref h), (1, .int x), (2, .int y)]) hx hb dX1_shut_29 rfl hl (by decide) (zLvf_h rfl) (fun ls hl => ?_)
      refine lv_iload_n hx hb dX1_shut_30 rfl (lv_at hl 0 rfl) ?_
      refine lv_if_eq (tgt := 43) hx hb dX1_shut_31 (by decide) (fun q => absurd q (by decide)) (fun _ => ?_)
      refine lv_aload_n hx hb dX1_shut_34 rfl (lv_at hl 1 rfl) ?_
      refine z_get C G clX1 0 rfl 0 (by decide) m_fl_RX1_12 rfl dX1_shut_35 ?_
      refine lv_iload_n hx hb dX1_shut_38 rfl (lv_at hl 2 rfl) ?_
      refine lv_iload_n hx hb dX1_shut_39 rfl (lv_at hl 3 rfl) ?_
      refine z_Vv (bc := [wp, z]) (br := [[zO1 h po a1_1 v0 la v1 v2 v3 v4 v5 v6 v7], [zAr T 0 a1_1 7 fw]]) (As := [.int x, .int y]) (rest := []) C G (c_shutRoad l T po la f1 f2 f3 st wh wp cr inn k1 k2 k3 k4 z x y hp hz) (kV_RX1_144 C.2.2.2.2 (Nat.le_of_ble_eq_true rfl) (Nat.le_of_ble_eq_true rfl)) [2, 3] [2, 0] rfl rfl (ci := 6) (qc := (RX6, TX6, 6)) rfl rfl (List.mem_flatten.mpr ⟨_, List.mem_of_getElem? (i := 0) rfl, (bPosts_mem hp).choose_spec⟩) rfl rfl hl.1 dX1_shut_40 (Nat.le_of_ble_eq_true rfl) (Nat.le_of_ble_eq_true rfl) (fun b1 H locs hw G => ?_)
      refine zEx2 hw ?_
      intro w2_22 g2_23
      refine zCu3 ?_
      intro hbs9 h_24 h_25
      clear hw
      subst hbs9
      have G : zS T A s.heap s [[zO1 h po a1_1 v0 la v1 v2 v3 v4 v5 v6 v7], [zAr T 0 a1_1 7 fw], w2_22, z] _ _ := G
      refine lv_iload_n hx hb dX1_shut_43 rfl (lv_at hl 0 rfl) ?_
      have hw_27 : bCourse T h po la fw v0 v1 v2 v3 v4 v5 v6 v7 [zO1 h po a1_1 v0 la v1 v2 v3 v4 v5 v6 v7, zAr T 0 a1_1 7 fw] := ⟨a1_1, rfl⟩
      have G : zS T A s.heap s [[zO1 h po a1_1 v0 la v1 v2 v3 v4 v5 v6 v7, zAr T 0 a1_1 7 fw], w2_22, z] _ _ := G.re rfl
      exact z_back hQz_ (z_zret C hr hlocks G (Nat.le_of_ble_eq_true rfl) (Nat.le_of_ble_eq_true rfl) dX1_shut_44 rfl ⟨w2_22, g2_23, rfl, h_24, (fun fw v0 v1 => Or.inl ⟨rfl, by unfold zShF; rw [if_pos ⟨⟨by omega, by omega, by omega⟩, ⟨by omega, by omega, by omega⟩, (show zBit (f2 x.toNatClampNeg) y = 0 from by first | with_reducible assumption | assumption | (rcases hns with e9 | e9 | e9 | e9 | e9 | e9 | e9 <;> first | exact e9 | (exfalso; omega)))⟩, h_25]; unfold zShut; rw [if_pos ⟨by omega, by omega, by omega, by omega, by omega, by omega⟩]⟩)⟩)
  · have h_10 : (x.toInt < 0 ∨ cr.toInt ≤ x.toInt ∨ 7 ≤ x.toInt ∨ y.toInt < 0 ∨ (k1 x.toNatClampNeg).toInt ≤ y.toInt ∨ 4 ≤ y.toInt) := h_10
    refine lv_if_eq (tgt := 28) hx hb dX1_shut_9 (by decide) (fun _ => ?_) (fun q => absurd (by decide) q)
    refine lv_iconst (v := 0) hx hb dX1_shut_28 (by decide) ?_
    refine lv_istore_n (lv' := [(3, .int 0), (0, .ref h), (1, .int x), (2, .int y)]) hx hb dX1_shut_29 rfl hl (by decide) (zLvf_h rfl) (fun ls hl => ?_)
    refine lv_iload_n hx hb dX1_shut_30 rfl (lv_at hl 0 rfl) ?_
    refine lv_if_eq (tgt := 43) hx hb dX1_shut_31 (by decide) (fun _ => ?_) (fun q => absurd (by decide) q)
    refine lv_iload_n hx hb dX1_shut_43 rfl (lv_at hl 0 rfl) ?_
    have hw_28 : bCourse T h po la fw v0 v1 v2 v3 v4 v5 v6 v7 [zO1 h po a1_1 v0 la v1 v2 v3 v4 v5 v6 v7, zAr T 0 a1_1 7 fw] := ⟨a1_1, rfl⟩
    have G : zS T A s.heap s [[zO1 h po a1_1 v0 la v1 v2 v3 v4 v5 v6 v7, zAr T 0 a1_1 7 fw], wp, z] _ _ := G.re rfl
    exact z_back hQz_ (z_zret C hr hlocks G (Nat.le_of_ble_eq_true rfl) (Nat.le_of_ble_eq_true rfl) dX1_shut_44 rfl ⟨wp, f2, rfl, hp, (fun fw v0 v1 => Or.inr ⟨rfl, by unfold zShF; rw [if_neg (fun q8 => by obtain ⟨⟨a1, a2, a3⟩, ⟨b1, b2, b3⟩, b4⟩ := q8; have b4 : zBit (f2 x.toNatClampNeg) y = 0 := b4; first | omega | (rcases hns with e9 | e9 | e9 | e9 | e9 | e9 | e9 <;> first | omega | exact absurd e9 b4 | exact absurd b4 e9) | exact absurd b4 (by first | with_reducible assumption | assumption))], rfl⟩)⟩)
set_option maxHeartbeats 4000000 in
set_option maxRecDepth 100000 in
/-- c_f_Course_open -/
theorem c_f_Course_open (l : Launch) (T : zTy) (h : Nat) (po : Nat) (la : Nat) (fw : Nat → Int32) (v0 : Int32) (v1 : Int32) (v2 : Int32) (v3 : Int32) (v4 : Int32) (v5 : Int32) (v6 : Int32) (v7 : Int32) (wc : va_W) (f1 : Nat → Int32) (f2 : Nat → Int32) (f3 : Nat → Int32) (st : Int32) (wh : Int32) (wp : va_W) (cr : Int32) (inn : Int32) (k1 : Nat → Int32) (k2 : Nat → Int32) (k3 : Nat → Int32) (k4 : Nat → Int32) (z : va_W) (x : Int32) (y : Int32) (hc : bCourse T h po la fw v0 v1 v2 v3 v4 v5 v6 v7 wc) (hp : bPosts T po la f1 f2 f3 st wh wp) (hz : bLand T la cr inn k1 k2 k3 k4 z) : zMi l T yX1_open cX1_open 4 (some .boolean) 3 0 0 [.ref h, .int x, .int y] [wc, wp, z] (fun (r : Int32) bs => ∃ (wp2 : va_W) (g2 : Nat → Int32), bs = [wc, wp2, z] ∧ bPosts T po la f1 g2 f3 st wh wp2 ∧ (∀ (fw : Nat → Int32) (v0 v1 : Int32), r = 1 ∧ zOpF cr k1 x y (f1, f2, fw, v0, v1) = some (f1, g2, fw, v0, v1) ∨ r = 0 ∧ zOpF cr k1 x y (f1, f2, fw, v0, v1) = none ∧ g2 = f2)) := by
  refine zMi_of (own := RX1) (by decide) rfl (Nat.le_of_ble_eq_true rfl) ?_
  intro p e s m args below meth c A ls C hr hlocks hnm hAe G hl
  refine zHide (fun Qz_ hQz_ => ?_)
  have hx := C.1
  have hb := C.2.1
  have hl : lv_has ls 4 [(0, .ref h), (1, .int x), (2, .int y)] := hl
  refine lv_aload_n hx hb dX1_open_0 rfl (lv_at hl 0 rfl) ?_
  refine zEx1 hc ?_
  intro a1_1 hbs9
  clear hc
  subst hbs9
  have G : zS T A s.heap s [[zO1 h po a1_1 v0 la v1 v2 v3 v4 v5 v6 v7], [zAr T 0 a1_1 7 fw], wp, z] _ _ := G.re rfl
  refine z_get C G clX1 0 rfl 0 (by decide) m_fl_RX1_12 rfl dX1_open_1 ?_
  refine lv_iload_n hx hb dX1_open_4 rfl (lv_at hl 1 rfl) ?_
  refine lv_iload_n hx hb dX1_open_5 rfl (lv_at hl 2 rfl) ?_
  refine z_Vi (bc := [wp, z]) (br := [[zO1 h po a1_1 v0 la v1 v2 v3 v4 v5 v6 v7], [zAr T 0 a1_1 7 fw]]) (As := [.int x, .int y]) (rest := []) C G (c_isShut l T po la f1 f2 f3 st wh wp cr inn k1 k2 k3 k4 z x y hp hz) (kV_RX1_141 C.2.2.2.2 (Nat.le_of_ble_eq_true rfl) (Nat.le_of_ble_eq_true rfl)) [2, 3] [2, 0] rfl rfl (ci := 6) (qc := (RX6, TX6, 6)) rfl rfl (List.mem_flatten.mpr ⟨_, List.mem_of_getElem? (i := 0) rfl, (bPosts_mem hp).choose_spec⟩) rfl rfl hl.1 dX1_open_6 (Nat.le_of_ble_eq_true rfl) (Nat.le_of_ble_eq_true rfl) (fun r_3 b1 H locs hw G => ?_)
  refine zAn2 hw ?_
  intro hbs9 hc_2
  clear hw
  subst hbs9
  have G : zS T A s.heap s [[zO1 h po a1_1 v0 la v1 v2 v3 v4 v5 v6 v7], [zAr T 0 a1_1 7 fw], wp, z] _ _ := G
  rcases hc_2 with ⟨rfl, h_4, h_5, h_6, h_7, h_8, h_9, h_10⟩ | ⟨rfl, h_11⟩
  · have h_4 : 0 ≤ x.toInt := h_4
    have h_5 : x.toInt < cr.toInt := h_5
    have h_6 : x.toInt < 7 := h_6
    have h_7 : 0 ≤ y.toInt := h_7
    have h_8 : y.toInt < (k1 x.toNatClampNeg).toInt := h_8
    have h_9 : y.toInt < 4 := h_9
    have h_10 : ¬ zBit (f2 x.toNatClampNeg) y = 0 := h_10
    refine lv_istore_n (lv' := [(3, .int 1), (0, .ref h), (1, .int x), (2, .int y)]) hx hb dX1_open_9 rfl hl (by decide) (zLvf_h rfl) (fun ls hl => ?_)
    refine lv_iload_n hx hb dX1_open_10 rfl (lv_at hl 0 rfl) ?_
    refine lv_if_eq (tgt := 23) hx hb dX1_open_11 (by decide) (fun q => absurd q (by decide)) (fun _ => ?_)
    refine lv_aload_n hx hb dX1_open_14 rfl (lv_at hl 1 rfl) ?_
    refine z_get C G clX1 0 rfl 0 (by decide) m_fl_RX1_12 rfl dX1_open_15 ?_
    refine lv_iload_n hx hb dX1_open_18 rfl (lv_at hl 2 rfl) ?_
    refine lv_iload_n hx hb dX1_open_19 rfl (lv_at hl 3 rfl) ?_
    refine z_Vv (bc := [wp, z]) (br := [[zO1 h po a1_1 v0 la v1 v2 v3 v4 v5 v6 v7], [zAr T 0 a1_1 7 fw]]) (As := [.int x, .int y]) (rest := []) C G (c_openRoad l T po la f1 f2 f3 st wh wp cr inn k1 k2 k3 k4 z x y hp hz) (kV_RX1_147 C.2.2.2.2 (Nat.le_of_ble_eq_true rfl) (Nat.le_of_ble_eq_true rfl)) [2, 3] [2, 0] rfl rfl (ci := 6) (qc := (RX6, TX6, 6)) rfl rfl (List.mem_flatten.mpr ⟨_, List.mem_of_getElem? (i := 0) rfl, (bPosts_mem hp).choose_spec⟩) rfl rfl hl.1 dX1_open_20 (Nat.le_of_ble_eq_true rfl) (Nat.le_of_ble_eq_true rfl) (fun b1 H locs hw G => ?_)
    refine zEx2 hw ?_
    intro w2_12 g2_13
    refine zCu3 ?_
    intro hbs9 h_14 h_15
    clear hw
    subst hbs9
    have G : zS T A s.heap s [[zO1 h po a1_1 v0 la v1 v2 v3 v4 v5 v6 v7], [zAr T 0 a1_1 7 fw], w2_12, z] _ _ := G
    refine lv_iload_n hx hb dX1_open_23 rfl (lv_at hl 0 rfl) ?_
    have hw_17 : bCourse T h po la fw v0 v1 v2 v3 v4 v5 v6 v7 [zO1 h po a1_1 v0 la v1 v2 v3 v4 v5 v6 v7, zAr T 0 a1_1 7 fw] := ⟨a1_1, rfl⟩
    have G : zS T A s.heap s [[zO1 h po a1_1 v0 la v1 v2 v3 v4 v5 v6 v7, zAr T 0 a1_1 7 fw], w2_12, z] _ _ := G.re rfl
    exact z_back hQz_ (z_zret C hr hlocks G (Nat.le_of_ble_eq_true rfl) (Nat.le_of_ble_eq_true rfl) dX1_open_24 rfl ⟨w2_12, g2_13, rfl, h_14, (fun fw v0 v1 => Or.inl ⟨rfl, by unfold zOpF; rw [if_pos ⟨⟨by omega, by omega, by omega⟩, ⟨by omega, by omega, by omega⟩, (show ¬ zBit (f2 x.toNatClampNeg) y = 0 from by first | with_reducible assumption | assumption | (rcases hns with e9 | e9 | e9 | e9 | e9 | e9 | e9 <;> first | exact e9 | (exfalso; omega)))⟩, h_15]; unfold zOpen; rw [if_pos ⟨by omega, by omega, by omega, by omega, by omega, by omega⟩]⟩)⟩)
  · have h_11 : (x.toInt < 0 ∨ cr.toInt ≤ x.toInt ∨ 7 ≤ x.toInt ∨ y.toInt < 0 ∨ (k1 x.toNatClampNeg).toInt ≤ y.toInt ∨ 4 ≤ y.toInt ∨ zBit (f2 x.toNatClampNeg) y = 0) := h_11
    have hns := h_11
    refine lv_istore_n (lv' := [(3, .int 0), (0, .ref h), (1, .int x), (2, .int y)]) hx hb dX1_open_9 rfl hl (by decide) (zLvf_h rfl) (fun ls hl => ?_)
    refine lv_iload_n hx hb dX1_open_10 rfl (lv_at hl 0 rfl) ?_
    refine lv_if_eq (tgt := 23) hx hb dX1_open_11 (by decide) (fun _ => ?_) (fun q => absurd (by decide) q)
    refine lv_iload_n hx hb dX1_open_23 rfl (lv_at hl 0 rfl) ?_
    have hw_18 : bCourse T h po la fw v0 v1 v2 v3 v4 v5 v6 v7 [zO1 h po a1_1 v0 la v1 v2 v3 v4 v5 v6 v7, zAr T 0 a1_1 7 fw] := ⟨a1_1, rfl⟩
    have G : zS T A s.heap s [[zO1 h po a1_1 v0 la v1 v2 v3 v4 v5 v6 v7, zAr T 0 a1_1 7 fw], wp, z] _ _ := G.re rfl
    exact z_back hQz_ (z_zret C hr hlocks G (Nat.le_of_ble_eq_true rfl) (Nat.le_of_ble_eq_true rfl) dX1_open_24 rfl ⟨wp, f2, rfl, hp, (fun fw v0 v1 => Or.inr ⟨rfl, by unfold zOpF; rw [if_neg (fun q8 => by obtain ⟨⟨a1, a2, a3⟩, ⟨b1, b2, b3⟩, b4⟩ := q8; have b4 : ¬ zBit (f2 x.toNatClampNeg) y = 0 := b4; first | omega | (rcases hns with e9 | e9 | e9 | e9 | e9 | e9 | e9 <;> first | omega | exact absurd e9 b4 | exact absurd b4 e9) | exact absurd b4 (by first | with_reducible assumption | assumption))], rfl⟩)⟩)
section ZDE
variable {cr inn d x y : Int32} {W Ro L : Nat → Int32} {D : zK}
theorem zDe_k0 (h : d.toInt = 0) : zDe cr inn W Ro L d x y D = zGoF cr W L x D := if_pos h
theorem zDe_k1 (h : d.toInt = 1) : zDe cr inn W Ro L d x y D = zRuF cr inn W L x D := by
  unfold zDe
  rw [if_neg (by omega), if_pos h]
theorem zDe_k2 (h : d.toInt = 2) : zDe cr inn W Ro L d x y D = zTuF cr W x D := by
  unfold zDe
  rw [if_neg (by omega), if_neg (by omega), if_pos h]
theorem zDe_k3 (h : d.toInt = 3) : zDe cr inn W Ro L d x y D = zAdF cr x D := by
  unfold zDe
  rw [if_neg (by omega), if_neg (by omega), if_neg (by omega), if_pos h]
theorem zDe_k4 (h : d.toInt = 4) : zDe cr inn W Ro L d x y D = zShF cr Ro x y D := by
  unfold zDe
  rw [if_neg (by omega), if_neg (by omega), if_neg (by omega), if_neg (by omega), if_pos h]
theorem zDe_k5 (h : d.toInt = 5) : zDe cr inn W Ro L d x y D = zOpF cr Ro x y D := by
  unfold zDe
  rw [if_neg (by omega), if_neg (by omega), if_neg (by omega), if_neg (by omega), if_neg (by omega), if_pos h]
theorem zDe_kn (h : d.toInt < 0 ∨ 5 < d.toInt) : zDe cr inn W Ro L d x y D = none := by
  unfold zDe
  rw [if_neg (by omega), if_neg (by omega), if_neg (by omega), if_neg (by omega), if_neg (by omega), if_neg (by omega)]
end ZDE
theorem zTurn_has {cr inn x : Int32} {f1 f2 f3 k1 : Nat → Int32} (hI : zP3 f1 f3) (hW : ∀ j, j < 7 → f3 j = zWays cr inn k1 (nI j)) (h : ¬ zTurn f1 f2 f3 x = -1) : zHas cr x := by
  have g := (zTurn_lt (f2 := f2) hI x).resolve_left h
  have e := z_clI g.1
  have t := nI_toInt (n := x.toNatClampNeg) (by omega)
  have w := hW x.toNatClampNeg (by omega)
  have q := zWays_in (cr := cr) (inn := inn) (f1 := k1) (x := nI x.toNatClampNeg) (fun q => by
    rw [w, q] at g
    have z0 : (0 : Int32).toInt = 0 := rfl
    omega)
  exact ⟨g.1, by omega, g.2.1⟩
theorem zTuF_i {cr x : Int32} {W P S H g1 : Nat → Int32} {st nv : Int32} (h : zHas cr x ∧ ¬ zTurn P S W x = -1) (e : g1 = zPost P S W x) : zTuF cr W x (P, S, H, st, nv) = some (g1, S, H, st, nv) := by
  unfold zTuF
  rw [if_pos h, e]
theorem zTuF_n {cr x : Int32} {W P S H g1 : Nat → Int32} {st nv : Int32} (h : zTurn P S W x = -1) (e : g1 = zPost P S W x) : zTuF cr W x (P, S, H, st, nv) = none ∧ g1 = P := by
  unfold zTuF
  refine ⟨if_neg (fun q => q.2 h), ?_⟩
  rw [e]
  unfold zPost
  rw [if_pos h]
/-- deeds one behind the other, from the k-th, n of them at most: which can't be done, and what is then -/
def zDayN (F : Nat → zK → Option zK) : Nat → Nat → zK → Nat × zK
  | 0, k, D => (k, D)
  | n + 1, k, D => match F k D with
    | none => (k, D)
    | some E => zDayN F n (k + 1) E
theorem zInc1 (i : Nat) : nI i + 1 = nI (i + 1) := z_inc i 1
theorem zDayN_z {F : Nat → zK → Option zK} {n k : Nat} {D : zK} (h : n = 0) : zDayN F n k D = (k, D) := by
  subst h
  rfl
theorem zDayN_s {F : Nat → zK → Option zK} {n k : Nat} {D E : zK} (h : F k D = some E) : zDayN F (n + 1) k D = zDayN F n (k + 1) E := by
  rw [zDayN, h]
theorem zDayN_n {F : Nat → zK → Option zK} {n k : Nat} {D : zK} (h : F k D = none) : zDayN F n k D = (k, D) := by
  cases n with
  | zero => rfl
  | succ n => rw [zDayN, h]
/-- walkers: none below nothing, never many -/
def zHB (m : Int) (H : Nat → Int32) : Prop := ∀ j, j < 7 → 0 ≤ (H j).toInt ∧ (H j).toInt ≤ m
theorem zMvH_b {m : Int} {H : Nat → Int32} {x y : Int32} (hm : m ≤ 100000) (h : zHB m H) (hx : 0 ≤ x.toInt ∧ x.toInt < 7) (hy : 0 ≤ y.toInt ∧ y.toInt < 7) (h1 : 1 ≤ (H x.toNatClampNeg).toInt) : zHB (m + 1) (zMvH H x y) := by
  have ex := z_clI hx.1
  have ey := z_clI hy.1
  have bx := h x.toNatClampNeg (by omega)
  have e1 : (1 : Int32).toInt = 1 := rfl
  have d : (H x.toNatClampNeg - 1).toInt = (H x.toNatClampNeg).toInt - 1 := (z_isubI (x := H x.toNatClampNeg) (y := 1) (by rw [e1]; omega) (by rw [e1]; omega)).trans (by rw [e1])
  have g : zHB m (upd H x.toNatClampNeg (H x.toNatClampNeg - 1)) := by
    intro j hj
    unfold upd
    split
    · omega
    · exact h j hj
  have by_ := g y.toNatClampNeg (by omega)
  intro j hj
  unfold zMvH
  by_cases q : j = y.toNatClampNeg
  · rw [z_eq q, z_iaddI (by rw [e1]; omega) (by rw [e1]; omega), e1]
    omega
  · rw [z_ne q]
    have := g j hj
    omega
theorem zAdd_b {m : Int} {H : Nat → Int32} {k : Nat} (hm : m ≤ 100000) (h : zHB m H) (hk : k < 7) : zHB (m + 1) (upd H k (H k + 1)) := by
  have e1 : (1 : Int32).toInt = 1 := rfl
  have b := h k hk
  intro j hj
  by_cases q : j = k
  · rw [z_eq q, z_iaddI (by rw [e1]; omega) (by rw [e1]; omega), e1]
    omega
  · rw [z_ne q]
    have := h j hj
    omega
theorem zHB_m {m n : Int} {H : Nat → Int32} (h : zHB m H) (q : m ≤ n) : zHB n H := fun j hj => ⟨(h j hj).1, Int.le_trans (h j hj).2 q⟩
/-- roads shut: of four -/
def zS15 (S : Nat → Int32) : Prop := ∀ j, j < 7 → 0 ≤ (S j).toInt ∧ (S j).toInt ≤ 15
theorem zSx1 : ∀ t, t < 16 → ∀ c, c < 4 → (zBit (nI t) (nI c) = 0 → nI t ^^^ ((1 : Int32) <<< (nI c &&& 31)) = nI t ||| ((1 : Int32) <<< (nI c &&& 31)) ∧ 0 ≤ (nI t ||| ((1 : Int32) <<< (nI c &&& 31))).toInt ∧ (nI t ||| ((1 : Int32) <<< (nI c &&& 31))).toInt ≤ 15) ∧ (¬ zBit (nI t) (nI c) = 0 → nI t ^^^ ((1 : Int32) <<< (nI c &&& 31)) = nI t &&& ((1 : Int32) <<< (nI c &&& 31) ^^^ (-1)) ∧ 0 ≤ (nI t &&& ((1 : Int32) <<< (nI c &&& 31) ^^^ (-1))).toInt ∧ (nI t &&& ((1 : Int32) <<< (nI c &&& 31) ^^^ (-1))).toInt ≤ 15) := by decide +kernel
theorem zSx {s k : Int32} (hs : 0 ≤ s.toInt ∧ s.toInt ≤ 15) (hk : 0 ≤ k.toInt ∧ k.toInt ≤ 3) : (zBit s k = 0 → s ^^^ ((1 : Int32) <<< (k &&& 31)) = s ||| ((1 : Int32) <<< (k &&& 31)) ∧ 0 ≤ (s ||| ((1 : Int32) <<< (k &&& 31))).toInt ∧ (s ||| ((1 : Int32) <<< (k &&& 31))).toInt ≤ 15) ∧ (¬ zBit s k = 0 → s ^^^ ((1 : Int32) <<< (k &&& 31)) = s &&& ((1 : Int32) <<< (k &&& 31) ^^^ (-1)) ∧ 0 ≤ (s &&& ((1 : Int32) <<< (k &&& 31) ^^^ (-1))).toInt ∧ (s &&& ((1 : Int32) <<< (k &&& 31) ^^^ (-1))).toInt ≤ 15) := by
  have e1 : s = nI s.toInt.toNat := z_nI (by omega) (by omega)
  have e2 : k = nI k.toInt.toNat := z_nI (by omega) (by omega)
  rw [e1, e2]
  exact zSx1 _ (by omega) _ (by omega)
theorem zS15_u {S : Nat → Int32} {k : Nat} {v : Int32} (h : zS15 S) (hv : 0 ≤ v.toInt ∧ v.toInt ≤ 15) : zS15 (upd S k v) := by
  intro j hj
  unfold upd
  split
  · exact hv
  · exact h j hj
theorem zGoF_i {cr x t : Int32} {W L P S H g1 gw : Nat → Int32} {st nv s2 : Int32} (h : zHas cr x ∧ 1 ≤ (H x.toNatClampNeg).toInt) (h2 : ¬ zStep P S W L x = -1) (e1 : g1 = zPost P S W x) (e3 : t = zStep P S W L x) (e4 : gw = zMvH H x t) (e5 : s2 = st + 1) : zGoF cr W L x (P, S, H, st, nv) = some (g1, S, gw, s2, nv) := by
  unfold zGoF
  rw [if_pos ⟨h, h2⟩, e1, e4, e5, e3]
theorem zRuF_m {cr inn x w s2 : Int32} {W L P S H g1 gw : Nat → Int32} {st nv n2 s3 : Int32} (h : zHas cr x ∧ 1 ≤ (H x.toNatClampNeg).toInt) (e1 : g1 = (zRunN S W L 499 P x 0).1) (e2 : s2 = nI (zRunN S W L 499 P x 0).2.2) (e3 : w = (zRunN S W L 499 P x 0).2.1) (e4 : gw = zMvH H x w) (e6 : s3 = st + s2) (e5 : (if zBit inn w = 1 then nv else nv + 1) = n2) : zRuF cr inn W L x (P, S, H, st, nv) = some (g1, S, gw, s3, n2) := by
  rw [e6]
  exact zRuF_i h e1 e2 e3 e4 e5
theorem zPost_no {f1 f2 f3 lf : Nat → Int32} {x : Int32} (h : zStep f1 f2 f3 lf x = -1) (hI : zP3 f1 f3) (hb : ∀ j r : Nat, j < 7 → r < 4 → (r : Int) < (f3 j).toInt → 0 ≤ (lf (4 * j + r)).toInt) : zPost f1 f2 f3 x = f1 := by
  unfold zPost
  rw [if_pos (zStep_t h hI hb)]
theorem zLo_m {f : Nat → Int32} {z cr n : Int32} (h : zML f z cr) : ∀ j r : Nat, j < 7 → r < 4 → (r : Int) < (zWo f z n j).toInt → 0 ≤ (zLo f z (4 * j + r)).toInt := fun j r hj hr _ => (h.2.2.2.2 (4 * j + r) (by omega)).1
theorem zStep_inn {P S f L : Nat → Int32} {z n x : Int32} (h : zBit n x = 1) (h0 : 0 ≤ x.toInt) (h6 : x.toInt ≤ 6) : zStep P S (zWo f z n) L x = -1 := by
  unfold zStep
  rw [if_pos (zTurn_inn h h0 h6)]
set_option maxHeartbeats 4000000 in
set_option maxRecDepth 100000 in
/-- c_fm_adds -/
theorem c_fm_adds (l : Launch) (T : zTy) (mo : Nat) (m_all : Nat) (m_has : Nat) (i_size : Int32) (i_next : Int32) (i_where : Int32) (i_token : Int32) (i_number : Int32) (i_word : Int32) (i_wrong : Int32) (i_farCrossing : Int32) (m_read : Nat) (i_z0 : Int32) (i_crossings : Int32) (i_inns : Int32) (m_posts : Nat) (m_shut : Nat) (m_here : Nat) (i_steps : Int32) (i_done : Int32) (i_at : Int32) (i_gone : Int32) (m_was : Nat) (m_came : Nat) (m_seenAt : Nat) (m_rowWorth : Nat) (m_farBy : Nat) (m_used : Nat) (i_everywhere : Int32) (i_again0 : Int32) (i_d0 : Int32) (i_never : Int32) (i_firstCame : Int32) (i_longRun : Int32) (i_moved : Int32) (i_crowd : Int32) (i_l0 : Int32) (i_fitMany : Int32) (i_fitLeast : Int32) (i_fitMost : Int32) (m_fitPost : Nat) (m_fitEnd : Nat) (m_keptPosts : Nat) (i_x0 : Int32) (f_here : Nat → Int32) (c_ : Int32) (hc0 : 0 ≤ c_.toInt) (hc6 : c_.toInt ≤ 6) (hcx : c_.toInt < i_crossings.toInt) (hH : zHB 100000 f_here) : zMi l T yX12_adds cX12_adds 2 (some .boolean) 1 0 0 [.ref mo, .int c_] [[zO11 mo m_all m_has i_size i_next i_where i_token i_number i_word i_wrong i_farCrossing m_read i_z0 i_crossings i_inns m_posts m_shut m_here i_steps i_done i_at i_gone m_was m_came m_seenAt m_rowWorth m_farBy m_used i_everywhere i_again0 i_d0 i_never i_firstCame i_longRun i_moved i_crowd i_l0 i_fitMany i_fitLeast i_fitMost m_fitPost m_fitEnd m_keptPosts i_x0], [zAr T 0 m_here 7 f_here]] (fun (r : Int32) bs => ∃ (g_here : Nat → Int32), bs = [[zO11 mo m_all m_has i_size i_next i_where i_token i_number i_word i_wrong i_farCrossing m_read i_z0 i_crossings i_inns m_posts m_shut m_here i_steps i_done i_at i_gone m_was m_came m_seenAt m_rowWorth m_farBy m_used i_everywhere i_again0 i_d0 i_never i_firstCame i_longRun i_moved i_crowd i_l0 i_fitMany i_fitLeast i_fitMost m_fitPost m_fitEnd m_keptPosts i_x0], [zAr T 0 m_here 7 g_here]] ∧ (∀ (P S : Nat → Int32) (st nv : Int32), r = 1 ∧ zAdF i_crossings c_ (P, S, f_here, st, nv) = some (P, S, g_here, st, nv) ∨ r = 0 ∧ zAdF i_crossings c_ (P, S, f_here, st, nv) = none ∧ g_here = f_here) ∧ (∀ m : Int, m ≤ 100000 → zHB m f_here → zHB (m + 1) g_here)) := by
  refine zMi_of (own := RX12) (by decide) rfl (Nat.le_of_ble_eq_true rfl) ?_
  intro p e s m args below meth c A ls C hr hlocks hnm hAe G hl
  refine zHide (fun Qz_ hQz_ => ?_)
  have hx := C.1
  have hb := C.2.1
  have hl : lv_has ls 2 [(0, .ref mo), (1, .int c_)] := hl
  refine lv_aload_n hx hb dX12_adds_0 rfl (lv_at hl 0 rfl) ?_
  refine z_get C G clX12 0 rfl 16 (by decide) m_fl_RX12_26 rfl dX12_adds_1 ?_
  refine lv_iload_n hx hb dX12_adds_4 rfl (lv_at hl 1 rfl) ?_
  refine z_ild C G 1 rfl (vp_in_iff.mpr ⟨by omega, by omega⟩) dX12_adds_5 ?_
  refine lv_topi (fun v_1 ev_1 => ?_)
  subst ev_1
  refine lv_bipush (v := 99) hx hb dX12_adds_6 (by decide) ?_
  refine lv_icmp_lt (tgt := 13) hx hb dX12_adds_8 (by decide) (fun c_2 => ?_) (fun c_2 => ?_)
  · have c_2n : (f_here c_.toNatClampNeg).toInt < (99 : Int) := (fa_lt _ _).mp c_2
    refine lv_aload_n hx hb dX12_adds_13 rfl (lv_at hl 0 rfl) ?_
    refine z_get C G clX12 0 rfl 16 (by decide) m_fl_RX12_26 rfl dX12_adds_14 ?_
    refine lv_iload_n hx hb dX12_adds_17 rfl (lv_at hl 1 rfl) ?_
    refine lv_dup2_11 hx hb dX12_adds_18 rfl rfl ?_
    refine z_ild C G 1 rfl (vp_in_iff.mpr ⟨by omega, by omega⟩) dX12_adds_19 ?_
    refine lv_topi (fun v_3 ev_3 => ?_)
    subst ev_3
    refine lv_iconst (v := 1) hx hb dX12_adds_20 (by decide) ?_
    refine lv_iadd hx hb dX12_adds_21 ?_
    refine z_ist C G 1 rfl (vp_in_iff.mpr ⟨by omega, by omega⟩) dX12_adds_22 (fun H locs G => ?_)
    have G : zS T A s.heap s [[zO11 mo m_all m_has i_size i_next i_where i_token i_number i_word i_wrong i_farCrossing m_read i_z0 i_crossings i_inns m_posts m_shut m_here i_steps i_done i_at i_gone m_was m_came m_seenAt m_rowWorth m_farBy m_used i_everywhere i_again0 i_d0 i_never i_firstCame i_longRun i_moved i_crowd i_l0 i_fitMany i_fitLeast i_fitMost m_fitPost m_fitEnd m_keptPosts i_x0], [zAr T 0 m_here 7 (upd f_here c_.toNatClampNeg ((f_here c_.toNatClampNeg) + 1))]] _ _ := G
    refine lv_iconst (v := 1) hx hb dX12_adds_23 (by decide) ?_
    exact z_back hQz_ (z_zret C hr hlocks G (Nat.le_of_ble_eq_true rfl) (Nat.le_of_ble_eq_true rfl) dX12_adds_24 rfl ⟨(upd f_here c_.toNatClampNeg ((f_here c_.toNatClampNeg) + 1)), rfl, (fun P S st nv => Or.inl ⟨rfl, by unfold zAdF; rw [if_pos ⟨⟨by omega, by omega, by omega⟩, by first | with_reducible assumption | assumption⟩]⟩), (fun m hm hx => zAdd_b hm hx (by have q9 := z_clI (x := c_) (by omega); omega))⟩)
  · have c_2n : ¬ (f_here c_.toNatClampNeg).toInt < (99 : Int) := fun q => c_2 ((fa_lt _ _).mpr q)
    refine lv_iconst (v := 0) hx hb dX12_adds_11 (by decide) ?_
    exact z_back hQz_ (z_zret C hr hlocks G (Nat.le_of_ble_eq_true rfl) (Nat.le_of_ble_eq_true rfl) dX12_adds_12 rfl ⟨f_here, rfl, (fun P S st nv => Or.inr ⟨rfl, by unfold zAdF; rw [if_neg (fun q8 => by have q7 := q8.2; have q7 : (f_here c_.toNatClampNeg).toInt < 99 := q7; omega)], rfl⟩), (fun m hm hx => zHB_m hx (by omega))⟩)
set_option maxHeartbeats 4000000 in
set_option maxRecDepth 100000 in
/-- c_fm_shuts1 -/
theorem c_fm_shuts1 (l : Launch) (T : zTy) (mo : Nat) (m_all : Nat) (m_has : Nat) (i_size : Int32) (i_next : Int32) (i_where : Int32) (i_token : Int32) (i_number : Int32) (i_word : Int32) (i_wrong : Int32) (i_farCrossing : Int32) (m_read : Nat) (i_z0 : Int32) (i_crossings : Int32) (i_inns : Int32) (m_posts : Nat) (m_shut : Nat) (m_here : Nat) (i_steps : Int32) (i_done : Int32) (i_at : Int32) (i_gone : Int32) (m_was : Nat) (m_came : Nat) (m_seenAt : Nat) (m_rowWorth : Nat) (m_farBy : Nat) (m_used : Nat) (i_everywhere : Int32) (i_again0 : Int32) (i_d0 : Int32) (i_never : Int32) (i_firstCame : Int32) (i_longRun : Int32) (i_moved : Int32) (i_crowd : Int32) (i_l0 : Int32) (i_fitMany : Int32) (i_fitLeast : Int32) (i_fitMost : Int32) (m_fitPost : Nat) (m_fitEnd : Nat) (m_keptPosts : Nat) (i_x0 : Int32) (f_all : Nat → Int32) (f_shut : Nat → Int32) (c_ : Int32) (k_ : Int32) (hL : zML f_all i_z0 i_crossings) (hc0 : 0 ≤ c_.toInt) (hc6 : c_.toInt ≤ 6) (hcx : c_.toInt < i_crossings.toInt) (hk0 : 0 ≤ k_.toInt) (hk3 : k_.toInt ≤ 3) (hS5 : zS15 f_shut) : zMi l T yX12_shuts cX12_shuts 4 (some .boolean) 2 0 0 [.ref mo, .int c_, .int k_, .int 1] [[zO11 mo m_all m_has i_size i_next i_where i_token i_number i_word i_wrong i_farCrossing m_read i_z0 i_crossings i_inns m_posts m_shut m_here i_steps i_done i_at i_gone m_was m_came m_seenAt m_rowWorth m_farBy m_used i_everywhere i_again0 i_d0 i_never i_firstCame i_longRun i_moved i_crowd i_l0 i_fitMany i_fitLeast i_fitMost m_fitPost m_fitEnd m_keptPosts i_x0], [zAr T 0 m_all 3952 f_all], [zAr T 0 m_shut 7 f_shut]] (fun (r : Int32) bs => ∃ (g_shut : Nat → Int32), bs = [[zO11 mo m_all m_has i_size i_next i_where i_token i_number i_word i_wrong i_farCrossing m_read i_z0 i_crossings i_inns m_posts m_shut m_here i_steps i_done i_at i_gone m_was m_came m_seenAt m_rowWorth m_farBy m_used i_everywhere i_again0 i_d0 i_never i_firstCame i_longRun i_moved i_crowd i_l0 i_fitMany i_fitLeast i_fitMost m_fitPost m_fitEnd m_keptPosts i_x0], [zAr T 0 m_all 3952 f_all], [zAr T 0 m_shut 7 g_shut]] ∧ (∀ (P H : Nat → Int32) (st nv : Int32), r = 1 ∧ zShF i_crossings (zRo f_all i_z0) c_ k_ (P, f_shut, H, st, nv) = some (P, g_shut, H, st, nv) ∨ r = 0 ∧ zShF i_crossings (zRo f_all i_z0) c_ k_ (P, f_shut, H, st, nv) = none ∧ g_shut = f_shut) ∧ zS15 g_shut) := by
  refine zMi_of (own := RX12) (by decide) rfl (Nat.le_of_ble_eq_true rfl) ?_
  intro p e s m args below meth c A ls C hr hlocks hnm hAe G hl
  refine zHide (fun Qz_ hQz_ => ?_)
  have hx := C.1
  have hb := C.2.1
  have hl : lv_has ls 4 [(0, .ref mo), (1, .int c_), (2, .int k_), (3, .int 1)] := hl
  have hz := hL.1
  have hcr := hL.cr
  refine lv_iload_n hx hb dX12_shuts_0 rfl (lv_at hl 2 rfl) ?_
  refine lv_aload_n hx hb dX12_shuts_1 rfl (lv_at hl 0 rfl) ?_
  refine lv_iload_n hx hb dX12_shuts_2 rfl (lv_at hl 1 rfl) ?_
  refine z_Vi (bc := [[zO11 mo m_all m_has i_size i_next i_where i_token i_number i_word i_wrong i_farCrossing m_read i_z0 i_crossings i_inns m_posts m_shut m_here i_steps i_done i_at i_gone m_was m_came m_seenAt m_rowWorth m_farBy m_used i_everywhere i_again0 i_d0 i_never i_firstCame i_longRun i_moved i_crowd i_l0 i_fitMany i_fitLeast i_fitMost m_fitPost m_fitEnd m_keptPosts i_x0], [zAr T 0 m_all 3952 f_all]]) (br := [[zAr T 0 m_shut 7 f_shut]]) (As := [.int c_]) (rest := [.int k_]) C G (c_m_roadsOf l T mo m_all m_has i_size i_next i_where i_token i_number i_word i_wrong i_farCrossing m_read i_z0 i_crossings i_inns m_posts m_shut m_here i_steps i_done i_at i_gone m_was m_came m_seenAt m_rowWorth m_farBy m_used i_everywhere i_again0 i_d0 i_never i_firstCame i_longRun i_moved i_crowd i_l0 i_fitMany i_fitLeast i_fitMost m_fitPost m_fitEnd m_keptPosts i_x0 f_all c_ (by first | with_reducible assumption | with_reducible rfl | omega | assumption | rfl) (by first | with_reducible assumption | with_reducible rfl | omega | assumption | rfl) (by first | with_reducible assumption | with_reducible rfl | omega | assumption | rfl)) (kV_RX12_181 C.2.2.2.2 (Nat.le_of_ble_eq_true rfl) (Nat.le_of_ble_eq_true rfl)) [0, 1] [0, 0] rfl rfl (ci := 11) (qc := (RX12, TX12, 43)) rfl rfl (List.mem_flatten.mpr ⟨_, List.mem_of_getElem? (i := 0) rfl, List.mem_cons_self⟩) rfl rfl hl.1 dX12_shuts_3 (Nat.le_of_ble_eq_true rfl) (Nat.le_of_ble_eq_true rfl) (fun r_4 b1 H locs hw G => ?_)
  refine zAn4 hw ?_
  intro hbs9 h_1 h_2 h_3
  clear hw
  subst hbs9
  have G : zS T A s.heap s [[zAr T 0 m_shut 7 f_shut], [zO11 mo m_all m_has i_size i_next i_where i_token i_number i_word i_wrong i_farCrossing m_read i_z0 i_crossings i_inns m_posts m_shut m_here i_steps i_done i_at i_gone m_was m_came m_seenAt m_rowWorth m_farBy m_used i_everywhere i_again0 i_d0 i_never i_firstCame i_longRun i_moved i_crowd i_l0 i_fitMany i_fitLeast i_fitMost m_fitPost m_fitEnd m_keptPosts i_x0], [zAr T 0 m_all 3952 f_all]] _ _ := G
  subst h_1
  refine lv_icmp_ge (tgt := 32) hx hb dX12_shuts_6 (by decide) (fun c_5 => ?_) (fun c_5 => ?_)
  · have c_5n : (zRd f_all i_z0 c_).toInt ≤ k_.toInt := (fa_le _ _).mp c_5
    refine lv_iconst (v := 0) hx hb dX12_shuts_32 (by decide) ?_
    have G := G.sub (bs' := [[zO11 mo m_all m_has i_size i_next i_where i_token i_number i_word i_wrong i_farCrossing m_read i_z0 i_crossings i_inns m_posts m_shut m_here i_steps i_done i_at i_gone m_was m_came m_seenAt m_rowWorth m_farBy m_used i_everywhere i_again0 i_d0 i_never i_firstCame i_longRun i_moved i_crowd i_l0 i_fitMany i_fitLeast i_fitMost m_fitPost m_fitEnd m_keptPosts i_x0], [zAr T 0 m_all 3952 f_all], [zAr T 0 m_shut 7 f_shut]]) [1, 2, 0] rfl
    exact z_back hQz_ (z_zret C hr hlocks G (Nat.le_of_ble_eq_true rfl) (Nat.le_of_ble_eq_true rfl) dX12_shuts_33 rfl ⟨f_shut, rfl, (fun P H st nv => Or.inr ⟨rfl, by unfold zShF; rw [if_neg (fun q8 => by obtain ⟨⟨a1, a2, a3⟩, ⟨b1, b2, b3⟩, b4⟩ := q8; first | (have b2 : k_.toInt < (zRd f_all i_z0 c_).toInt := b2; omega) | exact absurd b4 (zBit_o (by first | with_reducible assumption | assumption)))], rfl⟩), hS5⟩)
  · have c_5n : ¬ (zRd f_all i_z0 c_).toInt ≤ k_.toInt := fun q => c_5 ((fa_le _ _).mpr q)
    refine lv_aload_n hx hb dX12_shuts_9 rfl (lv_at hl 0 rfl) ?_
    refine z_get C G clX12 1 rfl 15 (by decide) m_fl_RX12_23 rfl dX12_shuts_10 ?_
    refine lv_iload_n hx hb dX12_shuts_13 rfl (lv_at hl 1 rfl) ?_
    refine z_ild C G 0 rfl (vp_in_iff.mpr ⟨by omega, by omega⟩) dX12_shuts_14 ?_
    refine lv_topi (fun v_6 ev_6 => ?_)
    subst ev_6
    refine lv_iload_n hx hb dX12_shuts_15 rfl (lv_at hl 2 rfl) ?_
    refine lv_ishr hx hb dX12_shuts_16 ?_
    refine lv_iconst (v := 1) hx hb dX12_shuts_17 (by decide) ?_
    refine lv_iand hx hb dX12_shuts_18 ?_
    refine lv_iconst (v := 1) hx hb dX12_shuts_19 (by decide) ?_
    refine lv_icmp_ne (tgt := 27) hx hb dX12_shuts_20 (by decide) (fun c_7 => ?_) (fun c_7 => ?_)
    · have c_7n : ¬ (((f_shut c_.toNatClampNeg) >>> (k_ &&& 31)) &&& 1).toInt = (1 : Int) := fun q => c_7 ((fa_eq _ _).mpr q)
      refine lv_iconst (v := 0) hx hb dX12_shuts_27 (by decide) ?_
      refine lv_iload_n hx hb dX12_shuts_28 rfl (lv_at hl 3 rfl) ?_
      refine lv_icmp_ne (tgt := 34) hx hb dX12_shuts_29 (by decide) (fun _ => ?_) (fun q => absurd q (by decide))
      refine lv_aload_n hx hb dX12_shuts_34 rfl (lv_at hl 0 rfl) ?_
      refine z_get C G clX12 1 rfl 15 (by decide) m_fl_RX12_23 rfl dX12_shuts_35 ?_
      refine lv_iload_n hx hb dX12_shuts_38 rfl (lv_at hl 1 rfl) ?_
      refine lv_dup2_11 hx hb dX12_shuts_39 rfl rfl ?_
      refine z_ild C G 0 rfl (vp_in_iff.mpr ⟨by omega, by omega⟩) dX12_shuts_40 ?_
      refine lv_topi (fun v_8 ev_8 => ?_)
      subst ev_8
      refine lv_iconst (v := 1) hx hb dX12_shuts_41 (by decide) ?_
      refine lv_iload_n hx hb dX12_shuts_42 rfl (lv_at hl 2 rfl) ?_
      refine lv_ishl hx hb dX12_shuts_43 ?_
      refine lv_ixor hx hb dX12_shuts_44 ?_
      refine z_ist C G 0 rfl (vp_in_iff.mpr ⟨by omega, by omega⟩) dX12_shuts_45 (fun H locs G => ?_)
      have G : zS T A s.heap s [[zAr T 0 m_shut 7 (upd f_shut c_.toNatClampNeg ((f_shut c_.toNatClampNeg) ^^^ (1 <<< (k_ &&& 31))))], [zO11 mo m_all m_has i_size i_next i_where i_token i_number i_word i_wrong i_farCrossing m_read i_z0 i_crossings i_inns m_posts m_shut m_here i_steps i_done i_at i_gone m_was m_came m_seenAt m_rowWorth m_farBy m_used i_everywhere i_again0 i_d0 i_never i_firstCame i_longRun i_moved i_crowd i_l0 i_fitMany i_fitLeast i_fitMost m_fitPost m_fitEnd m_keptPosts i_x0], [zAr T 0 m_all 3952 f_all]] _ _ := G
      refine lv_iconst (v := 1) hx hb dX12_shuts_46 (by decide) ?_
      have G := G.sub (bs' := [[zO11 mo m_all m_has i_size i_next i_where i_token i_number i_word i_wrong i_farCrossing m_read i_z0 i_crossings i_inns m_posts m_shut m_here i_steps i_done i_at i_gone m_was m_came m_seenAt m_rowWorth m_farBy m_used i_everywhere i_again0 i_d0 i_never i_firstCame i_longRun i_moved i_crowd i_l0 i_fitMany i_fitLeast i_fitMost m_fitPost m_fitEnd m_keptPosts i_x0], [zAr T 0 m_all 3952 f_all], [zAr T 0 m_shut 7 (upd f_shut c_.toNatClampNeg ((f_shut c_.toNatClampNeg) ^^^ (1 <<< (k_ &&& 31))))]]) [1, 2, 0] rfl
      exact z_back hQz_ (z_zret C hr hlocks G (Nat.le_of_ble_eq_true rfl) (Nat.le_of_ble_eq_true rfl) dX12_shuts_47 rfl ⟨(upd f_shut c_.toNatClampNeg ((f_shut c_.toNatClampNeg) ^^^ (1 <<< (k_ &&& 31)))), rfl, (fun P H st nv => Or.inl ⟨rfl, by unfold zShF; rw [if_pos ⟨⟨by omega, by omega, by omega⟩, ⟨by omega, by show k_.toInt < (zRd f_all i_z0 c_).toInt; omega, by omega⟩, zBit_n (by first | with_reducible assumption | assumption)⟩, ((zSx (hS5 c_.toNatClampNeg (by have q9 := z_clI (x := c_) (by omega); omega)) ⟨hk0, hk3⟩).1 (zBit_n (by first | with_reducible assumption | assumption))).1]⟩), (zS15_u hS5 (by rw [((zSx (hS5 c_.toNatClampNeg (by have q9 := z_clI (x := c_) (by omega); omega)) ⟨hk0, hk3⟩).1 (zBit_n (by first | with_reducible assumption | assumption))).1]; exact ((zSx (hS5 c_.toNatClampNeg (by have q9 := z_clI (x := c_) (by omega); omega)) ⟨hk0, hk3⟩).1 (zBit_n (by first | with_reducible assumption | assumption))).2))⟩)
    · have c_7n : (((f_shut c_.toNatClampNeg) >>> (k_ &&& 31)) &&& 1).toInt = (1 : Int) := (fa_eq _ _).mp c_7
      refine lv_iconst (v := 1) hx hb dX12_shuts_23 (by decide) ?_
      refine lv_goto (tgt := 28) hx hb dX12_shuts_24 (by decide) ?_
      refine lv_iload_n hx hb dX12_shuts_28 rfl (lv_at hl 3 rfl) ?_
      refine lv_icmp_ne (tgt := 34) hx hb dX12_shuts_29 (by decide) (fun q => absurd (by decide) q) (fun _ => ?_)
      refine lv_iconst (v := 0) hx hb dX12_shuts_32 (by decide) ?_
      have G := G.sub (bs' := [[zO11 mo m_all m_has i_size i_next i_where i_token i_number i_word i_wrong i_farCrossing m_read i_z0 i_crossings i_inns m_posts m_shut m_here i_steps i_done i_at i_gone m_was m_came m_seenAt m_rowWorth m_farBy m_used i_everywhere i_again0 i_d0 i_never i_firstCame i_longRun i_moved i_crowd i_l0 i_fitMany i_fitLeast i_fitMost m_fitPost m_fitEnd m_keptPosts i_x0], [zAr T 0 m_all 3952 f_all], [zAr T 0 m_shut 7 f_shut]]) [1, 2, 0] rfl
      exact z_back hQz_ (z_zret C hr hlocks G (Nat.le_of_ble_eq_true rfl) (Nat.le_of_ble_eq_true rfl) dX12_shuts_33 rfl ⟨f_shut, rfl, (fun P H st nv => Or.inr ⟨rfl, by unfold zShF; rw [if_neg (fun q8 => by obtain ⟨⟨a1, a2, a3⟩, ⟨b1, b2, b3⟩, b4⟩ := q8; first | (have b2 : k_.toInt < (zRd f_all i_z0 c_).toInt := b2; omega) | exact absurd b4 (zBit_o (by first | with_reducible assumption | assumption)))], rfl⟩), hS5⟩)
set_option maxHeartbeats 4000000 in
set_option maxRecDepth 100000 in
/-- c_fm_shuts0 -/
theorem c_fm_shuts0 (l : Launch) (T : zTy) (mo : Nat) (m_all : Nat) (m_has : Nat) (i_size : Int32) (i_next : Int32) (i_where : Int32) (i_token : Int32) (i_number : Int32) (i_word : Int32) (i_wrong : Int32) (i_farCrossing : Int32) (m_read : Nat) (i_z0 : Int32) (i_crossings : Int32) (i_inns : Int32) (m_posts : Nat) (m_shut : Nat) (m_here : Nat) (i_steps : Int32) (i_done : Int32) (i_at : Int32) (i_gone : Int32) (m_was : Nat) (m_came : Nat) (m_seenAt : Nat) (m_rowWorth : Nat) (m_farBy : Nat) (m_used : Nat) (i_everywhere : Int32) (i_again0 : Int32) (i_d0 : Int32) (i_never : Int32) (i_firstCame : Int32) (i_longRun : Int32) (i_moved : Int32) (i_crowd : Int32) (i_l0 : Int32) (i_fitMany : Int32) (i_fitLeast : Int32) (i_fitMost : Int32) (m_fitPost : Nat) (m_fitEnd : Nat) (m_keptPosts : Nat) (i_x0 : Int32) (f_all : Nat → Int32) (f_shut : Nat → Int32) (c_ : Int32) (k_ : Int32) (hL : zML f_all i_z0 i_crossings) (hc0 : 0 ≤ c_.toInt) (hc6 : c_.toInt ≤ 6) (hcx : c_.toInt < i_crossings.toInt) (hk0 : 0 ≤ k_.toInt) (hk3 : k_.toInt ≤ 3) (hS5 : zS15 f_shut) : zMi l T yX12_shuts cX12_shuts 4 (some .boolean) 2 0 0 [.ref mo, .int c_, .int k_, .int 0] [[zO11 mo m_all m_has i_size i_next i_where i_token i_number i_word i_wrong i_farCrossing m_read i_z0 i_crossings i_inns m_posts m_shut m_here i_steps i_done i_at i_gone m_was m_came m_seenAt m_rowWorth m_farBy m_used i_everywhere i_again0 i_d0 i_never i_firstCame i_longRun i_moved i_crowd i_l0 i_fitMany i_fitLeast i_fitMost m_fitPost m_fitEnd m_keptPosts i_x0], [zAr T 0 m_all 3952 f_all], [zAr T 0 m_shut 7 f_shut]] (fun (r : Int32) bs => ∃ (g_shut : Nat → Int32), bs = [[zO11 mo m_all m_has i_size i_next i_where i_token i_number i_word i_wrong i_farCrossing m_read i_z0 i_crossings i_inns m_posts m_shut m_here i_steps i_done i_at i_gone m_was m_came m_seenAt m_rowWorth m_farBy m_used i_everywhere i_again0 i_d0 i_never i_firstCame i_longRun i_moved i_crowd i_l0 i_fitMany i_fitLeast i_fitMost m_fitPost m_fitEnd m_keptPosts i_x0], [zAr T 0 m_all 3952 f_all], [zAr T 0 m_shut 7 g_shut]] ∧ (∀ (P H : Nat → Int32) (st nv : Int32), r = 1 ∧ zOpF i_crossings (zRo f_all i_z0) c_ k_ (P, f_shut, H, st, nv) = some (P, g_shut, H, st, nv) ∨ r = 0 ∧ zOpF i_crossings (zRo f_all i_z0) c_ k_ (P, f_shut, H, st, nv) = none ∧ g_shut = f_shut) ∧ zS15 g_shut) := by
  refine zMi_of (own := RX12) (by decide) rfl (Nat.le_of_ble_eq_true rfl) ?_
  intro p e s m args below meth c A ls C hr hlocks hnm hAe G hl
  refine zHide (fun Qz_ hQz_ => ?_)
  have hx := C.1
  have hb := C.2.1
  have hl : lv_has ls 4 [(0, .ref mo), (1, .int c_), (2, .int k_), (3, .int 0)] := hl
  have hz := hL.1
  have hcr := hL.cr
  refine lv_iload_n hx hb dX12_shuts_0 rfl (lv_at hl 2 rfl) ?_
  refine lv_aload_n hx hb dX12_shuts_1 rfl (lv_at hl 0 rfl) ?_
  refine lv_iload_n hx hb dX12_shuts_2 rfl (lv_at hl 1 rfl) ?_
  refine z_Vi (bc := [[zO11 mo m_all m_has i_size i_next i_where i_token i_number i_word i_wrong i_farCrossing m_read i_z0 i_crossings i_inns m_posts m_shut m_here i_steps i_done i_at i_gone m_was m_came m_seenAt m_rowWorth m_farBy m_used i_everywhere i_again0 i_d0 i_never i_firstCame i_longRun i_moved i_crowd i_l0 i_fitMany i_fitLeast i_fitMost m_fitPost m_fitEnd m_keptPosts i_x0], [zAr T 0 m_all 3952 f_all]]) (br := [[zAr T 0 m_shut 7 f_shut]]) (As := [.int c_]) (rest := [.int k_]) C G (c_m_roadsOf l T mo m_all m_has i_size i_next i_where i_token i_number i_word i_wrong i_farCrossing m_read i_z0 i_crossings i_inns m_posts m_shut m_here i_steps i_done i_at i_gone m_was m_came m_seenAt m_rowWorth m_farBy m_used i_everywhere i_again0 i_d0 i_never i_firstCame i_longRun i_moved i_crowd i_l0 i_fitMany i_fitLeast i_fitMost m_fitPost m_fitEnd m_keptPosts i_x0 f_all c_ (by first | with_reducible assumption | with_reducible rfl | omega | assumption | rfl) (by first | with_reducible assumption | with_reducible rfl | omega | assumption | rfl) (by first | with_reducible assumption | with_reducible rfl | omega | assumption | rfl)) (kV_RX12_181 C.2.2.2.2 (Nat.le_of_ble_eq_true rfl) (Nat.le_of_ble_eq_true rfl)) [0, 1] [0, 0] rfl rfl (ci := 11) (qc := (RX12, TX12, 43)) rfl rfl (List.mem_flatten.mpr ⟨_, List.mem_of_getElem? (i := 0) rfl, List.mem_cons_self⟩) rfl rfl hl.1 dX12_shuts_3 (Nat.le_of_ble_eq_true rfl) (Nat.le_of_ble_eq_true rfl) (fun r_4 b1 H locs hw G => ?_)
  refine zAn4 hw ?_
  intro hbs9 h_1 h_2 h_3
  clear hw
  subst hbs9
  have G : zS T A s.heap s [[zAr T 0 m_shut 7 f_shut], [zO11 mo m_all m_has i_size i_next i_where i_token i_number i_word i_wrong i_farCrossing m_read i_z0 i_crossings i_inns m_posts m_shut m_here i_steps i_done i_at i_gone m_was m_came m_seenAt m_rowWorth m_farBy m_used i_everywhere i_again0 i_d0 i_never i_firstCame i_longRun i_moved i_crowd i_l0 i_fitMany i_fitLeast i_fitMost m_fitPost m_fitEnd m_keptPosts i_x0], [zAr T 0 m_all 3952 f_all]] _ _ := G
  subst h_1
  refine lv_icmp_ge (tgt := 32) hx hb dX12_shuts_6 (by decide) (fun c_5 => ?_) (fun c_5 => ?_)
  · have c_5n : (zRd f_all i_z0 c_).toInt ≤ k_.toInt := (fa_le _ _).mp c_5
    refine lv_iconst (v := 0) hx hb dX12_shuts_32 (by decide) ?_
    have G := G.sub (bs' := [[zO11 mo m_all m_has i_size i_next i_where i_token i_number i_word i_wrong i_farCrossing m_read i_z0 i_crossings i_inns m_posts m_shut m_here i_steps i_done i_at i_gone m_was m_came m_seenAt m_rowWorth m_farBy m_used i_everywhere i_again0 i_d0 i_never i_firstCame i_longRun i_moved i_crowd i_l0 i_fitMany i_fitLeast i_fitMost m_fitPost m_fitEnd m_keptPosts i_x0], [zAr T 0 m_all 3952 f_all], [zAr T 0 m_shut 7 f_shut]]) [1, 2, 0] rfl
    exact z_back hQz_ (z_zret C hr hlocks G (Nat.le_of_ble_eq_true rfl) (Nat.le_of_ble_eq_true rfl) dX12_shuts_33 rfl ⟨f_shut, rfl, (fun P H st nv => Or.inr ⟨rfl, by unfold zOpF; rw [if_neg (fun q8 => by obtain ⟨⟨a1, a2, a3⟩, ⟨b1, b2, b3⟩, b4⟩ := q8; first | (have b2 : k_.toInt < (zRd f_all i_z0 c_).toInt := b2; omega) | exact absurd b4 (fun q7 => q7 (zBit_n (by first | with_reducible assumption | assumption))))], rfl⟩), hS5⟩)
  · have c_5n : ¬ (zRd f_all i_z0 c_).toInt ≤ k_.toInt := fun q => c_5 ((fa_le _ _).mpr q)
    refine lv_aload_n hx hb dX12_shuts_9 rfl (lv_at hl 0 rfl) ?_
    refine z_get C G clX12 1 rfl 15 (by decide) m_fl_RX12_23 rfl dX12_shuts_10 ?_
    refine lv_iload_n hx hb dX12_shuts_13 rfl (lv_at hl 1 rfl) ?_
    refine z_ild C G 0 rfl (vp_in_iff.mpr ⟨by omega, by omega⟩) dX12_shuts_14 ?_
    refine lv_topi (fun v_6 ev_6 => ?_)
    subst ev_6
    refine lv_iload_n hx hb dX12_shuts_15 rfl (lv_at hl 2 rfl) ?_
    refine lv_ishr hx hb dX12_shuts_16 ?_
    refine lv_iconst (v := 1) hx hb dX12_shuts_17 (by decide) ?_
    refine lv_iand hx hb dX12_shuts_18 ?_
    refine lv_iconst (v := 1) hx hb dX12_shuts_19 (by decide) ?_
    refine lv_icmp_ne (tgt := 27) hx hb dX12_shuts_20 (by decide) (fun c_7 => ?_) (fun c_7 => ?_)
    · have c_7n : ¬ (((f_shut c_.toNatClampNeg) >>> (k_ &&& 31)) &&& 1).toInt = (1 : Int) := fun q => c_7 ((fa_eq _ _).mpr q)
      refine lv_iconst (v := 0) hx hb dX12_shuts_27 (by decide) ?_
      refine lv_iload_n hx hb dX12_shuts_28 rfl (lv_at hl 3 rfl) ?_
      refine lv_icmp_ne (tgt := 34) hx hb dX12_shuts_29 (by decide) (fun q => absurd (by decide) q) (fun _ => ?_)
      refine lv_iconst (v := 0) hx hb dX12_shuts_32 (by decide) ?_
      have G := G.sub (bs' := [[zO11 mo m_all m_has i_size i_next i_where i_token i_number i_word i_wrong i_farCrossing m_read i_z0 i_crossings i_inns m_posts m_shut m_here i_steps i_done i_at i_gone m_was m_came m_seenAt m_rowWorth m_farBy m_used i_everywhere i_again0 i_d0 i_never i_firstCame i_longRun i_moved i_crowd i_l0 i_fitMany i_fitLeast i_fitMost m_fitPost m_fitEnd m_keptPosts i_x0], [zAr T 0 m_all 3952 f_all], [zAr T 0 m_shut 7 f_shut]]) [1, 2, 0] rfl
      exact z_back hQz_ (z_zret C hr hlocks G (Nat.le_of_ble_eq_true rfl) (Nat.le_of_ble_eq_true rfl) dX12_shuts_33 rfl ⟨f_shut, rfl, (fun P H st nv => Or.inr ⟨rfl, by unfold zOpF; rw [if_neg (fun q8 => by obtain ⟨⟨a1, a2, a3⟩, ⟨b1, b2, b3⟩, b4⟩ := q8; first | (have b2 : k_.toInt < (zRd f_all i_z0 c_).toInt := b2; omega) | exact absurd b4 (fun q7 => q7 (zBit_n (by first | with_reducible assumption | assumption))))], rfl⟩), hS5⟩)
    · have c_7n : (((f_shut c_.toNatClampNeg) >>> (k_ &&& 31)) &&& 1).toInt = (1 : Int) := (fa_eq _ _).mp c_7
      refine lv_iconst (v := 1) hx hb dX12_shuts_23 (by decide) ?_
      refine lv_goto (tgt := 28) hx hb dX12_shuts_24 (by decide) ?_
      refine lv_iload_n hx hb dX12_shuts_28 rfl (lv_at hl 3 rfl) ?_
      refine lv_icmp_ne (tgt := 34) hx hb dX12_shuts_29 (by decide) (fun _ => ?_) (fun q => absurd q (by decide))
      refine lv_aload_n hx hb dX12_shuts_34 rfl (lv_at hl 0 rfl) ?_
      refine z_get C G clX12 1 rfl 15 (by decide) m_fl_RX12_23 rfl dX12_shuts_35 ?_
      refine lv_iload_n hx hb dX12_shuts_38 rfl (lv_at hl 1 rfl) ?_
      refine lv_dup2_11 hx hb dX12_shuts_39 rfl rfl ?_
      refine z_ild C G 0 rfl (vp_in_iff.mpr ⟨by omega, by omega⟩) dX12_shuts_40 ?_
      refine lv_topi (fun v_8 ev_8 => ?_)
      subst ev_8
      refine lv_iconst (v := 1) hx hb dX12_shuts_41 (by decide) ?_
      refine lv_iload_n hx hb dX12_shuts_42 rfl (lv_at hl 2 rfl) ?_
      refine lv_ishl hx hb dX12_shuts_43 ?_
      refine lv_ixor hx hb dX12_shuts_44 ?_
      refine z_ist C G 0 rfl (vp_in_iff.mpr ⟨by omega, by omega⟩) dX12_shuts_45 (fun H locs G => ?_)
      have G : zS T A s.heap s [[zAr T 0 m_shut 7 (upd f_shut c_.toNatClampNeg ((f_shut c_.toNatClampNeg) ^^^ (1 <<< (k_ &&& 31))))], [zO11 mo m_all m_has i_size i_next i_where i_token i_number i_word i_wrong i_farCrossing m_read i_z0 i_crossings i_inns m_posts m_shut m_here i_steps i_done i_at i_gone m_was m_came m_seenAt m_rowWorth m_farBy m_used i_everywhere i_again0 i_d0 i_never i_firstCame i_longRun i_moved i_crowd i_l0 i_fitMany i_fitLeast i_fitMost m_fitPost m_fitEnd m_keptPosts i_x0], [zAr T 0 m_all 3952 f_all]] _ _ := G
      refine lv_iconst (v := 1) hx hb dX12_shuts_46 (by decide) ?_
      have G := G.sub (bs' := [[zO11 mo m_all m_has i_size i_next i_where i_token i_number i_word i_wrong i_farCrossing m_read i_z0 i_crossings i_inns m_posts m_shut m_here i_steps i_done i_at i_gone m_was m_came m_seenAt m_rowWorth m_farBy m_used i_everywhere i_again0 i_d0 i_never i_firstCame i_longRun i_moved i_crowd i_l0 i_fitMany i_fitLeast i_fitMost m_fitPost m_fitEnd m_keptPosts i_x0], [zAr T 0 m_all 3952 f_all], [zAr T 0 m_shut 7 (upd f_shut c_.toNatClampNeg ((f_shut c_.toNatClampNeg) ^^^ (1 <<< (k_ &&& 31))))]]) [1, 2, 0] rfl
      exact z_back hQz_ (z_zret C hr hlocks G (Nat.le_of_ble_eq_true rfl) (Nat.le_of_ble_eq_true rfl) dX12_shuts_47 rfl ⟨(upd f_shut c_.toNatClampNeg ((f_shut c_.toNatClampNeg) ^^^ (1 <<< (k_ &&& 31)))), rfl, (fun P H st nv => Or.inl ⟨rfl, by unfold zOpF; rw [if_pos ⟨⟨by omega, by omega, by omega⟩, ⟨by omega, by show k_.toInt < (zRd f_all i_z0 c_).toInt; omega, by omega⟩, zBit_o (by first | with_reducible assumption | assumption)⟩, ((zSx (hS5 c_.toNatClampNeg (by have q9 := z_clI (x := c_) (by omega); omega)) ⟨hk0, hk3⟩).2 (zBit_o (by first | with_reducible assumption | assumption))).1]⟩), (zS15_u hS5 (by rw [((zSx (hS5 c_.toNatClampNeg (by have q9 := z_clI (x := c_) (by omega); omega)) ⟨hk0, hk3⟩).2 (zBit_o (by first | with_reducible assumption | assumption))).1]; exact ((zSx (hS5 c_.toNatClampNeg (by have q9 := z_clI (x := c_) (by omega); omega)) ⟨hk0, hk3⟩).2 (zBit_o (by first | with_reducible assumption | assumption))).2))⟩)
theorem zDe_nh {cr inn d x y : Int32} {W Ro L : Nat → Int32} {D : zK} (h : ¬ zHas cr x) : zDe cr inn W Ro L d x y D = none := by
  unfold zDe
  by_cases h0 : d.toInt = 0
  · rw [if_pos h0]
    exact if_neg (fun q => h q.1.1)
  rw [if_neg h0]
  by_cases h1 : d.toInt = 1
  · rw [if_pos h1]
    exact if_neg (fun q => h q.1)
  rw [if_neg h1]
  by_cases h2 : d.toInt = 2
  · rw [if_pos h2]
    exact if_neg (fun q => h q.1)
  rw [if_neg h2]
  by_cases h3 : d.toInt = 3
  · rw [if_pos h3]
    exact if_neg (fun q => h q.1)
  rw [if_neg h3]
  by_cases h4 : d.toInt = 4
  · rw [if_pos h4]
    exact if_neg (fun q => h q.1)
  rw [if_neg h4]
  by_cases h5 : d.toInt = 5
  · rw [if_pos h5]
    exact if_neg (fun q => h q.1)
  rw [if_neg h5]
theorem zPost_inn {P S f : Nat → Int32} {z n x : Int32} (h : zBit n x = 1) (h0 : 0 ≤ x.toInt) (h6 : x.toInt ≤ 6) : P = zPost P S (zWo f z n) x := by
  unfold zPost
  rw [if_pos (zTurn_inn h h0 h6)]
/-- a day's deeds as they can be told -/
def zDyv (f : Nat → Int32) (d : Nat) : Prop := ∀ j : Nat, (j : Int) < (f d).toInt → (0 ≤ (f (d + (1 + 3 * j))).toInt ∧ (f (d + (1 + 3 * j))).toInt ≤ 5) ∧ (4 ≤ (f (d + (1 + 3 * j))).toInt → 0 ≤ (f (d + (3 + 3 * j))).toInt ∧ (f (d + (3 + 3 * j))).toInt ≤ 3)
def zDR (R : Nat → Int32) : Prop := ∀ j : Nat, (j : Int) < (R 0).toInt → (0 ≤ (R (1 + 3 * j)).toInt ∧ (R (1 + 3 * j)).toInt ≤ 5) ∧ (4 ≤ (R (1 + 3 * j)).toInt → 0 ≤ (R (3 + 3 * j)).toInt ∧ (R (3 + 3 * j)).toInt ≤ 3)
theorem zDR_cg {R R' : Nat → Int32} (e : ∀ j, j < 121 → R' j = R j) (h0 : (R 0).toInt ≤ 40) (h : zDR R) : zDR R' := by
  intro j hj
  rw [e 0 (by decide)] at hj
  rw [e _ (by omega), e _ (by omega)]
  exact h j hj
section PZ
variable {k : pT} {a : pS}
theorem pEnds_z (h : pBk a) : ¬ (pEnds k a).2.2.1.toInt = 0 := by
  unfold pEnds
  split
  · show ¬ (1 : Int32).toInt = 0
    decide
  · rename_i q
    exact h q
theorem pAlso_zz {kd w : Int32} (h : pBk a) (hk : ¬ kd.toInt = 0) : ¬ (pAlso kd w a).2.2.1.toInt = 0 := by
  unfold pAlso
  split
  · rename_i q
    intro z
    rcases q with q | q
    · exact h q z
    · exact q.1 z
  · exact hk
theorem pNum_z {lo hi : Int32} (h : pBk a) (q : (pNum k lo hi a).2.2.2.1.toInt = 0) : a.2.2.1.toInt = 0 ∧ lo.toInt ≤ (pNum k lo hi a).1.toInt ∧ (pNum k lo hi a).1.toInt ≤ hi.toInt := by
  unfold pNum at q ⊢
  split at q
  · exact absurd q (pEnds_z h)
  · split at q
    · rename_i c1 c2
      rw [if_neg c1, if_pos c2]
      exact ⟨q, c2.1, c2.2⟩
    · exact absurd q (pAlso_zz (kd := 2) (w := nI (pWh k a.1)) h (by decide))
theorem pWord_z {lo hi : Nat} (h : pBk a) (q : (pWord k lo hi a).2.2.2.1.toInt = 0) : a.2.2.1.toInt = 0 ∧ lo ≤ (pWord k lo hi a).1 ∧ (pWord k lo hi a).1 ≤ hi := by
  unfold pWord at q ⊢
  split at q
  · exact absurd q (pEnds_z h)
  · rename_i c1
    rw [if_neg c1]
    exact ⟨q, by omega⟩
theorem pEndL_z (h : pBk a) (q : (pEndL k a).2.2.1.toInt = 0) : a.2.2.1.toInt = 0 := by
  unfold pEndL at q
  split at q
  · exact q
  · exact absurd q (pEnds_z h)
theorem pDB_z {m : Int} {w : Int32} {f : Nat → Int32} (h : pBk a) (q : (pDB m w f a).2.2.1.toInt = 0) : a.2.2.1.toInt = 0 ∧ (f 0).toInt < m := by
  unfold pDB at q
  split at q
  · exact absurd q (pAlso_zz h (by decide))
  · exact ⟨q, by omega⟩
theorem pBk_dy {d : Nat} (h : pBk a) : pBk (pDY k d a).2 := by
  unfold pDY
  split
  · exact pBk_num h
  · exact h
theorem pBk_day {f : Nat → Int32} (h : pBk a) : pBk (pDay k a f).1 := pBk_endL (pBk_dy (pBk_num (pBk_db (pBk_word h))))
/-- what holds of a day's row while there is no fault -/
def zDJ (a : pS) (f : Nat → Int32) : Prop := a.2.2.1.toInt = 0 → zDR f ∧ 0 ≤ (f 0).toInt ∧ (f 0).toInt ≤ 40
theorem zDJ_day {f : Nat → Int32} (h : pBk a) (hJ : zDJ a f) : zDJ (pDay k a f).1 (pDay k a f).2 := by
  intro q
  have b1 := pBk_word (k := k) (lo := 5) (hi := 10) h
  have b2 := pBk_db (m := 40) (w := nI (pWh k a.1)) (f := f) b1
  have b3 := pBk_num (k := k) (lo := 0) (hi := 6) b2
  have q1 : (pDY k (pWord k 5 10 a).1 (pNum k 0 6 (pDB 40 (nI (pWh k a.1)) f (pWord k 5 10 a).2)).2).2.2.2.1.toInt = 0 := pEndL_z (pBk_dy b3) q
  have q2 : (pNum k 0 6 (pDB 40 (nI (pWh k a.1)) f (pWord k 5 10 a).2)).2.2.2.1.toInt = 0 ∧ (8 < (pWord k 5 10 a).1 → 0 ≤ (pDY k (pWord k 5 10 a).1 (pNum k 0 6 (pDB 40 (nI (pWh k a.1)) f (pWord k 5 10 a).2)).2).1.toInt ∧ (pDY k (pWord k 5 10 a).1 (pNum k 0 6 (pDB 40 (nI (pWh k a.1)) f (pWord k 5 10 a).2)).2).1.toInt ≤ 3) := by
    unfold pDY at q1 ⊢
    by_cases c : 8 < (pWord k 5 10 a).1
    · rw [if_pos c] at q1 ⊢
      have t := pNum_z b3 q1
      exact ⟨t.1, fun _ => ⟨t.2.1, t.2.2⟩⟩
    · rw [if_neg c] at q1
      exact ⟨q1, fun z => absurd z c⟩
  have q3 := pNum_z b2 q2.1
  have q4 := pDB_z b1 q3.1
  have q5 := pWord_z h q4.1
  have hf := hJ q5.1
  have e : (pDay k a f).2 = if (f 0).toInt < 40 then upd (upd (upd (upd f (1 + 3 * (f 0).toInt.toNat) (nI (pWord k 5 10 a).1 - 5)) (2 + 3 * (f 0).toInt.toNat) (pNum k 0 6 (pDB 40 (nI (pWh k a.1)) f (pWord k 5 10 a).2)).1) (3 + 3 * (f 0).toInt.toNat) (pDY k (pWord k 5 10 a).1 (pNum k 0 6 (pDB 40 (nI (pWh k a.1)) f (pWord k 5 10 a).2)).2).1) 0 (f 0 + 1) else f := rfl
  rw [e, if_pos q4.2]
  have e1 : (f 0 + 1).toInt = (f 0).toInt + 1 := (z_iaddI (x := f 0) (y := 1) (by show -2147483648 ≤ (f 0).toInt + 1; omega) (by show (f 0).toInt + 1 < 2147483648; omega))
  have e2 := nI_toInt (n := (pWord k 5 10 a).1) (by omega)
  have e5 : (5 : Int32).toInt = 5 := rfl
  have e3 : (nI (pWord k 5 10 a).1 - 5).toInt = ((pWord k 5 10 a).1 : Int) - 5 := (z_isubI (x := nI (pWord k 5 10 a).1) (y := 5) (by rw [e5, e2]; omega) (by rw [e5, e2]; omega)).trans (by rw [e5, e2])
  refine ⟨fun j hj => ?_, by rw [z_eq rfl, e1]; omega⟩
  rw [z_eq rfl, e1] at hj
  rw [z_ne (show ¬ 1 + 3 * j = 0 by omega), z_ne (show ¬ 1 + 3 * j = 3 + 3 * (f 0).toInt.toNat by omega), z_ne (show ¬ 1 + 3 * j = 2 + 3 * (f 0).toInt.toNat by omega), z_ne (show ¬ 3 + 3 * j = 0 by omega)]
  by_cases t : j = (f 0).toInt.toNat
  · rw [z_eq (show 1 + 3 * j = 1 + 3 * (f 0).toInt.toNat by omega), z_eq (show 3 + 3 * j = 3 + 3 * (f 0).toInt.toNat by omega), e3]
    exact ⟨⟨by omega, by omega⟩, fun z => q2.2 (by omega)⟩
  · rw [z_ne (show ¬ 1 + 3 * j = 1 + 3 * (f 0).toInt.toNat by omega), z_ne (show ¬ 3 + 3 * j = 3 + 3 * (f 0).toInt.toNat by omega), z_ne (show ¬ 3 + 3 * j = 2 + 3 * (f 0).toInt.toNat by omega), z_ne (show ¬ 3 + 3 * j = 1 + 3 * (f 0).toInt.toNat by omega)]
    exact hf.1 j (by omega)
theorem zDJ_lines : ∀ (i : Nat) (a : pS) (f : Nat → Int32), pBk a → zDJ a f → zDJ (pLines k 1 i a f).1 (pLines k 1 i a f).2
  | 0, a, f, _, h => h
  | i + 1, a, f, hb, h => by
    unfold pLines
    split
    · have e : pLine k 1 a f = pDay k a f := by
        unfold pLine
        rw [if_neg (by decide), if_pos rfl]
      refine zDJ_lines i _ _ ?_ ?_
      · rw [e]; exact pBk_day hb
      · rw [e]; exact zDJ_day hb h
    · exact h
end PZ
theorem pRead_D {k : pT} {n : Nat} (h : (pRead k n 1).1.2.2.1.toInt = 0) : zDR (pRead k n 1).2 ∧ (((pRead k n 1).2 0).toInt ≤ 40) := by
  have hJ : zDJ (pLines k 1 601 (0, 0, 0, -1, -1) (fun _ => 0)).1 (pLines k 1 601 (0, 0, 0, -1, -1) (fun _ => 0)).2 := zDJ_lines 601 _ _ (fun q => absurd rfl q) (fun _ => ⟨fun j hj => absurd hj (by show ¬ (j : Int) < (0 : Int32).toInt; have : (0 : Int32).toInt = 0 := rfl; omega), by decide⟩)
  have e4 : ∀ (a : pS) (f : Nat → Int32), pF4 n 1 a f = a := fun a f => by
    unfold pF4
    rw [if_neg (fun z => absurd z.1 (by decide))]
  have e5 : ∀ (a : pS) (f : Nat → Int32), pF5 n 1 a f = a := fun a f => by
    unfold pF5
    rw [if_neg (fun z => absurd z.1 (by decide))]
  have h : (pF5 n 1 (pF4 n 1 (pLines k 1 601 (0, 0, 0, -1, -1) (fun _ => 0)).1 (pLines k 1 601 (0, 0, 0, -1, -1) (fun _ => 0)).2) (pLines k 1 601 (0, 0, 0, -1, -1) (fun _ => 0)).2).2.2.1.toInt = 0 := h
  rw [e4, e5] at h
  exact ⟨(hJ h).1, (hJ h).2.2⟩
/-- so of each day that is kept -/
def zVD (f : Nat → Int32) : Prop := ∀ i k, i < 4 → k < 2 → zDR (fun j => f (988 * i + (712 + 121 * k + j))) ∧ (f (988 * i + (712 + 121 * k))).toInt ≤ 40
theorem zVD_c {f g : Nat → Int32} {a b : Nat} (e : ∀ j, j < 121 → g (b + j) = f (a + j)) (h : zDR (fun j => f (a + j)) ∧ (f a).toInt ≤ 40) : zDR (fun j => g (b + j)) ∧ (g b).toInt ≤ 40 := by
  have e0 := e 0 (by decide)
  refine ⟨zDR_cg (R := fun j => f (a + j)) e h.2 h.1, ?_⟩
  have e0 : g b = f a := e0
  rw [e0]
  exact h.2
theorem zVD_low {f g : Nat → Int32} (hV : zVD f) (e : ∀ j, 610 ≤ j → g j = f j) : zVD g := fun i q hi hq => by
  have h := hV i q hi hq
  have a : ∀ (G : Nat → Int32), (zDR (fun j => G (988 * i + (712 + 121 * q + j))) ∧ (G (988 * i + (712 + 121 * q))).toInt ≤ 40) = (zDR (fun j => G (988 * i + (712 + 121 * q) + j)) ∧ (G (988 * i + (712 + 121 * q))).toInt ≤ 40) := fun G => by
    rw [show (fun j => G (988 * i + (712 + 121 * q + j))) = (fun j => G (988 * i + (712 + 121 * q) + j)) from funext fun j => congrArg G (by omega)]
  rw [a] at h ⊢
  exact zVD_c (fun j _ => e _ (by omega)) h
theorem zVD_a {f : Nat → Int32} (b q : Nat) : (zDR (fun j => f (b + (712 + 121 * q + j))) ∧ (f (b + (712 + 121 * q))).toInt ≤ 40) = (zDR (fun j => f (b + (712 + 121 * q) + j)) ∧ (f (b + (712 + 121 * q))).toInt ≤ 40) := by
  rw [show (fun j => f (b + (712 + 121 * q + j))) = (fun j => f (b + (712 + 121 * q) + j)) from funext fun j => congrArg f (by omega)]
theorem zVD_to {f g : Nat → Int32} {a b q : Nat} (e : ∀ j, j < 121 → g (b + (712 + 121 * q) + j) = f (a + (712 + 121 * q) + j)) (h : zDR (fun j => f (a + (712 + 121 * q + j))) ∧ (f (a + (712 + 121 * q))).toInt ≤ 40) : zDR (fun j => g (b + (712 + 121 * q + j))) ∧ (g (b + (712 + 121 * q))).toInt ≤ 40 := by
  rw [zVD_a] at h ⊢
  exact zVD_c e h
theorem pNr_lt {s : Nat} {at_ : Int32} {f : Nat → Int32} (h : pOkAt s at_ f) (h2 : (f s).toInt ≤ 2) : (pNr s at_ f).toInt.toNat < 2 := by
  unfold pOkAt at h
  unfold pNr
  by_cases q : at_.toInt = -1
  · rw [if_pos q] at h ⊢
    omega
  · rw [if_neg q] at h ⊢
    omega
theorem zVD_text {k : pT} {n s : Nat} {at_ r : Int32} {f g : Nat → Int32} (hV : zVD f) (hs : s < 3) (h2 : ∀ q, q < 3 → (f q).toInt ≤ 2) (F2 : zText (pRead k n s) s at_ f g r) (T2 : ∀ j, 988 ≤ j → g j = f j) : zVD g := by
  have ho : ∀ (a b : Int32) (j : Nat), 7 ≤ j → pHd f a b j = f j := fun a b j hj => by
    unfold pHd
    rw [z_ne (by omega), z_ne (by omega), z_ne (by omega)]
  rcases F2 with ⟨-, -, z⟩ | ⟨-, -, -, z⟩ | ⟨w, y, -, z⟩
  · refine zVD_low hV (fun j hj => ?_)
    by_cases q : j < 988
    · rw [z j q, ho _ _ _ (by omega)]
    · exact T2 j (by omega)
  · refine zVD_low hV (fun j hj => ?_)
    by_cases q : j < 988
    · rw [z j q, ho _ _ _ (by omega)]
    · exact T2 j (by omega)
  · have hc2 : ∀ (G : Nat → Int32) (j : Nat), 7 ≤ j → pCnt s at_ G j = G j := fun G j hj => by
      unfold pCnt
      split
      · exact z_ne (by omega)
      · rfl
    intro i q hi hq
    by_cases e : i = 0
    · by_cases hs0 : s = 1 ∧ (pNr 1 at_ f).toInt.toNat = q
      · obtain ⟨hs0, hn⟩ := hs0
        subst hs0
        have t := pRead_D y
        have hg : ∀ j, j < 121 → g (988 * i + (712 + 121 * q) + j) = (pRead k n 1).2 j := fun j hj => by
          rw [z _ (by omega), hn]
          unfold pPut
          have hp : pBase 1 q = 712 + 121 * q := rfl
          have hz : pSize 1 = 121 := rfl
          rw [hp, hz, if_pos (by omega)]
          exact congrArg _ (by omega)
        rw [zVD_a]
        refine ⟨zDR_cg hg t.2 t.1, ?_⟩
        have h0 : g (988 * i + (712 + 121 * q)) = (pRead k n 1).2 0 := hg 0 (by decide)
        rw [h0]
        exact t.2
      · refine zVD_to (fun j hj => ?_) (hV i q hi hq)
        rw [z _ (by omega)]
        have hx : ¬ (pBase s (pNr s at_ f).toInt.toNat ≤ 988 * i + (712 + 121 * q) + j ∧ 988 * i + (712 + 121 * q) + j < pBase s (pNr s at_ f).toInt.toNat + pSize s) := by
          rcases (show s = 0 ∨ s = 1 ∨ s = 2 by omega) with t | t | t
          · subst t
            have hp : pBase 0 (pNr 0 at_ f).toInt.toNat = 610 + 51 * (pNr 0 at_ f).toInt.toNat := rfl
            have hz : pSize 0 = 51 := rfl
            have hb := pNr_lt w (h2 0 (by decide))
            rw [hp, hz]
            omega
          · subst t
            have hp : pBase 1 (pNr 1 at_ f).toInt.toNat = 712 + 121 * (pNr 1 at_ f).toInt.toNat := rfl
            have hz : pSize 1 = 121 := rfl
            rw [hp, hz]
            have hn : ¬ (pNr 1 at_ f).toInt.toNat = q := fun w => hs0 ⟨rfl, w⟩
            omega
          · subst t
            have hp : pBase 2 (pNr 2 at_ f).toInt.toNat = 954 + 17 * (pNr 2 at_ f).toInt.toNat := rfl
            rw [hp]
            omega
        unfold pPut
        rw [if_neg hx, hc2 _ _ (by omega), ho _ _ _ (by omega)]
    · exact zVD_to (fun j _ => T2 _ (by omega)) (hV i q hi hq)
theorem zVD_feed {p : Nat} {a b c d e r : Int32} {f g : Nat → Int32} (hV : zVD f) (hp6 : p ≤ 600) (F2 : 580 < p ∧ r = -1 ∧ g = f ∨ p ≤ 580 ∧ r = nI (p + 20) ∧ zFeedR p a b c d e f g) : zVD g := by
  rcases F2 with ⟨-, -, y⟩ | ⟨hp5, -, y⟩
  · rw [y]; exact hV
  · obtain ⟨-, -, z3⟩ := y
    exact zVD_low hV (fun j hj => z3 j (by omega) (by omega))
theorem zVD_end {n r : Int32} {f g : Nat → Int32} (hV : zVD f) (F2 : (n.toInt < 0 ∨ (f 4).toInt < n.toInt) ∧ r.toInt = -1 ∧ g = f ∨ (0 ≤ n.toInt ∧ n.toInt ≤ (f 4).toInt) ∧ g = upd f 4 n ∧ r = n) : zVD g := by
  rcases F2 with ⟨-, -, y⟩ | ⟨-, y, -⟩
  · rw [y]; exact hV
  · rw [y]; exact zVD_low hV (fun j hj => z_ne (by omega))
theorem zVD_hd {f g : Nat → Int32} (hV : zVD f) (hg : g = upd (upd (upd f 4 0) 5 0) 6 (-1)) : zVD g := by
  rw [hg]
  exact zVD_low hV (fun j hj => by rw [z_ne (by omega), z_ne (by omega), z_ne (by omega)])
theorem zVD_img {f g : Nat → Int32} {k : Nat} (hk : k < 3) (hV : zVD f) (c1 : ∀ j, j < 988 → g (988 * (k + 1) + j) = f j) (c2 : ∀ j, (j < 988 * (k + 1) ∨ 988 * (k + 1) + 988 ≤ j) → g j = f j) : zVD g := by
  intro i q hi hq
  by_cases e : i = k + 1
  · subst e
    refine zVD_to (a := 988 * 0) (fun j hj => ?_) (hV 0 q (by decide) hq)
    rw [show 988 * (k + 1) + (712 + 121 * q) + j = 988 * (k + 1) + (712 + 121 * q + j) by omega, c1 _ (by omega)]
    exact congrArg f (by omega)
  · have : i < k + 1 ∨ k + 1 < i := by omega
    exact zVD_to (fun j _ => c2 _ (by omega)) (hV i q hi hq)
theorem zVD_ag {K : Nat} {x r' : Int32} {fh f g : Nat → Int32} (hV : zVD f) (hx : x.toInt = (K : Int)) (hK : K < 3) (F2 : r' = 0 ∧ (x.toInt < 0 ∨ 3 ≤ x.toInt ∨ fh x.toNatClampNeg = 0) ∧ g = f ∨ r' = 1 ∧ (0 ≤ x.toInt ∧ x.toInt < 3) ∧ ¬ fh x.toNatClampNeg = 0 ∧ (∀ j, j < 988 → g j = f (988 * (x.toNatClampNeg + 1) + j)) ∧ ∀ j, 988 ≤ j → g j = f j) : zVD g := by
  have e : x.toNatClampNeg = K := by have := z_clI (x := x) (by omega); omega
  rw [e] at F2
  rcases F2 with ⟨-, -, z⟩ | ⟨-, -, -, z, z2⟩
  · rw [z]; exact hV
  · intro i q hi hq
    by_cases e : i = 0
    · refine zVD_to (a := 988 * (K + 1)) (fun j hj => ?_) (hV (K + 1) q (by omega) hq)
      rw [z _ (by omega)]
      exact congrArg f (by omega)
    · exact zVD_to (fun j _ => z2 _ (by omega)) (hV i q hi hq)
theorem zVD_st : zVD (upd (fun _ => 0) 6 (-1)) := fun i q _ _ => by
  have o : ∀ j, ¬ j = 6 → upd (fun _ => (0 : Int32)) 6 (-1) j = 0 := fun j h => if_neg h
  have z0 : (0 : Int32).toInt = 0 := rfl
  refine ⟨fun j hj => ?_, by rw [o _ (by omega), z0]; decide⟩
  have hj : (j : Int) < (upd (fun _ => (0 : Int32)) 6 (-1) (988 * i + (712 + 121 * q + 0))).toInt := hj
  rw [o _ (by omega), z0] at hj
  omega
def zKe (D E : zK) : Prop := (∀ j, j < 7 → D.1 j = E.1 j) ∧ (∀ j, j < 7 → D.2.1 j = E.2.1 j) ∧ (∀ j, j < 7 → D.2.2.1 j = E.2.2.1 j) ∧ D.2.2.2 = E.2.2.2
def zOe (W : Nat → Int32) (a b : Option zK) : Prop := (a = none ∧ b = none) ∨ ∃ D E : zK, a = some D ∧ b = some E ∧ zKe D E ∧ zP3 D.1 W
theorem zMvH_cg {H H' : Nat → Int32} (h : ∀ j, j < 7 → H j = H' j) (x y : Int32) : ∀ j, j < 7 → zMvH H x y j = zMvH H' x y j := by
  have g : ∀ j, j < 7 → upd H x.toNatClampNeg (H x.toNatClampNeg - 1) j = upd H' x.toNatClampNeg (H' x.toNatClampNeg - 1) j := by
    intro j hj
    by_cases e : j = x.toNatClampNeg
    · rw [z_eq e, z_eq e, ← e, h j hj]
    · rw [z_ne e, z_ne e, h j hj]
  intro j hj
  unfold zMvH
  by_cases e : j = y.toNatClampNeg
  · rw [z_eq e, z_eq e, ← e, g j hj]
  · rw [z_ne e, z_ne e, g j hj]
theorem zUp_cg {H H' : Nat → Int32} {k : Nat} {v v' : Int32} (h : ∀ j, j < 7 → H j = H' j) (hv : v = v') : ∀ j, j < 7 → upd H k v j = upd H' k v' j := by
  intro j hj
  by_cases e : j = k
  · rw [z_eq e, z_eq e, hv]
  · rw [z_ne e, z_ne e, h j hj]
theorem zKe_i {P P' S S' H H' : Nat → Int32} {a a' b b' : Int32} (p : ∀ j, j < 7 → P j = P' j) (s : ∀ j, j < 7 → S j = S' j) (w : ∀ j, j < 7 → H j = H' j) (e1 : a = a') (e2 : b = b') : zKe (P, S, H, a, b) (P', S', H', a', b') := by
  subst e1
  subst e2
  exact ⟨p, s, w, rfl⟩
theorem zOe_i {W : Nat → Int32} {D E : zK} (h : zKe D E) (h2 : zP3 D.1 W) : zOe W (some D) (some E) := Or.inr ⟨D, E, rfl, rfl, h, h2⟩
section ZCG
variable {cr inn x y : Int32} {W W' L L' Ro Ro' : Nat → Int32} {D E : zK}
theorem zGoF_cg (h3 : ∀ j, j < 7 → W j = W' j) (hl : zLs W L L') (hI : zP3 D.1 W) (h : zKe D E) : zOe W (zGoF cr W L x D) (zGoF cr W' L' x E) := by
  obtain ⟨p, s, w, e⟩ := h
  have eS := zStep_cg hI p s h3 hl x
  unfold zGoF
  by_cases q : (zHas cr x ∧ 1 ≤ (D.2.2.1 x.toNatClampNeg).toInt) ∧ ¬ zStep D.1 D.2.1 W L x = -1
  · have ex := z_clI q.1.1.1
    have eH := w x.toNatClampNeg (by have := q.1.1.2.2; omega)
    rw [if_pos q, if_pos ⟨⟨q.1.1, by rw [← eH]; exact q.1.2⟩, by rw [← eS]; exact q.2⟩]
    exact zOe_i (zKe_i (zPost_cg p s h3 x) s (by rw [← eS]; exact zMvH_cg w x _) (congrArg (fun q => q.1 + 1) e) (congrArg (fun q => q.2) e)) (zPost_I hI x)
  · refine Or.inl ⟨if_neg q, if_neg (fun z => q ?_)⟩
    have ex := z_clI z.1.1.1
    have eH := w x.toNatClampNeg (by have := z.1.1.2.2; omega)
    exact ⟨⟨z.1.1, by rw [eH]; exact z.1.2⟩, by rw [eS]; exact z.2⟩
theorem zRuF_cg (h3 : ∀ j, j < 7 → W j = W' j) (hl : zLs W L L') (hI : zP3 D.1 W) (h : zKe D E) : zOe W (zRuF cr inn W L x D) (zRuF cr inn W' L' x E) := by
  obtain ⟨p, s, w, e⟩ := h
  have eR := zRunN_cg s h3 hl 499 D.1 E.1 x 0 hI p
  by_cases q : zHas cr x ∧ 1 ≤ (D.2.2.1 x.toNatClampNeg).toInt
  · have ex := z_clI q.1.1
    have eH := w x.toNatClampNeg (by have := q.1.2.2; omega)
    have a1 : zRuF cr inn W L x D = some ((zRunN D.2.1 W L 499 D.1 x 0).1, D.2.1, zMvH D.2.2.1 x (zRunN D.2.1 W L 499 D.1 x 0).2.1, D.2.2.2.1 + nI (zRunN D.2.1 W L 499 D.1 x 0).2.2, if zBit inn (zRunN D.2.1 W L 499 D.1 x 0).2.1 = 1 then D.2.2.2.2 else D.2.2.2.2 + 1) := if_pos q
    have a2 : zRuF cr inn W' L' x E = some ((zRunN E.2.1 W' L' 499 E.1 x 0).1, E.2.1, zMvH E.2.2.1 x (zRunN E.2.1 W' L' 499 E.1 x 0).2.1, E.2.2.2.1 + nI (zRunN E.2.1 W' L' 499 E.1 x 0).2.2, if zBit inn (zRunN E.2.1 W' L' 499 E.1 x 0).2.1 = 1 then E.2.2.2.2 else E.2.2.2.2 + 1) := if_pos ⟨q.1, by rw [← eH]; exact q.2⟩
    rw [a1, a2, ← eR.2]
    exact zOe_i (zKe_i eR.1 s (zMvH_cg w x _) (congrArg (fun q => q.1 + nI (zRunN D.2.1 W L 499 D.1 x 0).2.2) e) (congrArg (fun q => if zBit inn (zRunN D.2.1 W L 499 D.1 x 0).2.1 = 1 then q.2 else q.2 + 1) e)) (zRunN_I _ _ _ _ hI)
  · refine Or.inl ⟨if_neg q, if_neg (fun z => q ?_)⟩
    have ex := z_clI z.1.1
    have eH := w x.toNatClampNeg (by have := z.1.2.2; omega)
    exact ⟨z.1, by rw [eH]; exact z.2⟩
theorem zTuF_cg (h3 : ∀ j, j < 7 → W j = W' j) (hI : zP3 D.1 W) (h : zKe D E) : zOe W (zTuF cr W x D) (zTuF cr W' x E) := by
  obtain ⟨p, s, w, e⟩ := h
  have eT := zTurn_cg p s h3 x
  unfold zTuF
  by_cases q : zHas cr x ∧ ¬ zTurn D.1 D.2.1 W x = -1
  · rw [if_pos q, if_pos ⟨q.1, by rw [← eT]; exact q.2⟩]
    exact Or.inr ⟨_, _, rfl, rfl, ⟨zPost_cg p s h3 x, s, w, e⟩, zPost_I hI x⟩
  · refine Or.inl ⟨if_neg q, if_neg (fun z => q ⟨z.1, by rw [eT]; exact z.2⟩)⟩
theorem zAdF_cg (hI : zP3 D.1 W) (h : zKe D E) : zOe W (zAdF cr x D) (zAdF cr x E) := by
  obtain ⟨p, s, w, e⟩ := h
  unfold zAdF
  by_cases q : zHas cr x ∧ (D.2.2.1 x.toNatClampNeg).toInt < 99
  · have ex := z_clI q.1.1
    have eH := w x.toNatClampNeg (by have := q.1.2.2; omega)
    rw [if_pos q, if_pos ⟨q.1, by rw [← eH]; exact q.2⟩]
    exact Or.inr ⟨_, _, rfl, rfl, ⟨p, s, zUp_cg w (by rw [eH]), e⟩, hI⟩
  · refine Or.inl ⟨if_neg q, if_neg (fun z => q ?_)⟩
    have ex := z_clI z.1.1
    have eH := w x.toNatClampNeg (by have := z.1.2.2; omega)
    exact ⟨z.1, by rw [eH]; exact z.2⟩
theorem zShF_cg (hr : ∀ j, j < 7 → Ro j = Ro' j) (hI : zP3 D.1 W) (h : zKe D E) : zOe W (zShF cr Ro x y D) (zShF cr Ro' x y E) := by
  obtain ⟨p, s, w, e⟩ := h
  unfold zShF
  by_cases q : zHas cr x ∧ (0 ≤ y.toInt ∧ y.toInt < (Ro x.toNatClampNeg).toInt ∧ y.toInt < 4) ∧ zBit (D.2.1 x.toNatClampNeg) y = 0
  · have ex := z_clI q.1.1
    have eS := s x.toNatClampNeg (by have := q.1.2.2; omega)
    have eR := hr x.toNatClampNeg (by have := q.1.2.2; omega)
    rw [if_pos q, if_pos ⟨q.1, by rw [← eR]; exact q.2.1, by rw [← eS]; exact q.2.2⟩]
    exact Or.inr ⟨_, _, rfl, rfl, ⟨p, zUp_cg s (by rw [eS]), w, e⟩, hI⟩
  · refine Or.inl ⟨if_neg q, if_neg (fun z => q ?_)⟩
    have ex := z_clI z.1.1
    have eS := s x.toNatClampNeg (by have := z.1.2.2; omega)
    have eR := hr x.toNatClampNeg (by have := z.1.2.2; omega)
    exact ⟨z.1, by rw [eR]; exact z.2.1, by rw [eS]; exact z.2.2⟩
theorem zOpF_cg (hr : ∀ j, j < 7 → Ro j = Ro' j) (hI : zP3 D.1 W) (h : zKe D E) : zOe W (zOpF cr Ro x y D) (zOpF cr Ro' x y E) := by
  obtain ⟨p, s, w, e⟩ := h
  unfold zOpF
  by_cases q : zHas cr x ∧ (0 ≤ y.toInt ∧ y.toInt < (Ro x.toNatClampNeg).toInt ∧ y.toInt < 4) ∧ ¬ zBit (D.2.1 x.toNatClampNeg) y = 0
  · have ex := z_clI q.1.1
    have eS := s x.toNatClampNeg (by have := q.1.2.2; omega)
    have eR := hr x.toNatClampNeg (by have := q.1.2.2; omega)
    rw [if_pos q, if_pos ⟨q.1, by rw [← eR]; exact q.2.1, by rw [← eS]; exact q.2.2⟩]
    exact Or.inr ⟨_, _, rfl, rfl, ⟨p, zUp_cg s (by rw [eS]), w, e⟩, hI⟩
  · refine Or.inl ⟨if_neg q, if_neg (fun z => q ?_)⟩
    have ex := z_clI z.1.1
    have eS := s x.toNatClampNeg (by have := z.1.2.2; omega)
    have eR := hr x.toNatClampNeg (by have := z.1.2.2; omega)
    exact ⟨z.1, by rw [eR]; exact z.2.1, by rw [eS]; exact z.2.2⟩
theorem zDe_cg (h3 : ∀ j, j < 7 → W j = W' j) (hr : ∀ j, j < 7 → Ro j = Ro' j) (hl : zLs W L L') (d : Int32) (hI : zP3 D.1 W) (h : zKe D E) : zOe W (zDe cr inn W Ro L d x y D) (zDe cr inn W' Ro' L' d x y E) := by
  by_cases d0 : d.toInt = 0
  · rw [zDe_k0 d0, zDe_k0 d0]; exact zGoF_cg h3 hl hI h
  by_cases d1 : d.toInt = 1
  · rw [zDe_k1 d1, zDe_k1 d1]; exact zRuF_cg h3 hl hI h
  by_cases d2 : d.toInt = 2
  · rw [zDe_k2 d2, zDe_k2 d2]; exact zTuF_cg h3 hI h
  by_cases d3 : d.toInt = 3
  · rw [zDe_k3 d3, zDe_k3 d3]; exact zAdF_cg hI h
  by_cases d4 : d.toInt = 4
  · rw [zDe_k4 d4, zDe_k4 d4]; exact zShF_cg hr hI h
  by_cases d5 : d.toInt = 5
  · rw [zDe_k5 d5, zDe_k5 d5]; exact zOpF_cg hr hI h
  rw [zDe_kn (by omega), zDe_kn (by omega)]
  exact Or.inl ⟨rfl, rfl⟩
end ZCG
theorem zDayN_cg {W : Nat → Int32} {F F' : Nat → zK → Option zK} : ∀ (n k : Nat) (D E : zK), zP3 D.1 W → zKe D E → (∀ j, k ≤ j → j < k + n → ∀ D E, zP3 D.1 W → zKe D E → zOe W (F j D) (F' j E)) → (zDayN F n k D).1 = (zDayN F' n k E).1 ∧ zKe (zDayN F n k D).2 (zDayN F' n k E).2
  | 0, k, D, E, _, h, _ => ⟨rfl, h⟩
  | n + 1, k, D, E, hI, h, hF => by
    rcases hF k (Nat.le_refl k) (by omega) D E hI h with ⟨a, b⟩ | ⟨D2, E2, a, b, h2, hI2⟩
    · rw [zDayN_n a, zDayN_n b]
      exact ⟨rfl, h⟩
    · rw [zDayN_s a, zDayN_s b]
      exact zDayN_cg n (k + 1) D2 E2 hI2 h2 (fun j h1 h3 => hF j (by omega) (by omega))
theorem zA_4 {r r' x y no : Int32} {fk f : Nat → Int32} {A0 A1 A2 A3 B0 B1 B2 B3 : Int32 → Prop} (hk : fk 0 = f 0) (hk1 : fk 1 = f 1) (hq : (f 0).toInt ≤ 2) (hq1 : (f 1).toInt ≤ 2) (F1 : ((x.toInt < 0 ∨ (fk 0).toInt ≤ x.toInt ∨ 2 ≤ x.toInt) ∨ (y.toInt < 0 ∨ (fk 1).toInt ≤ y.toInt ∨ 2 ≤ y.toInt)) ∧ r = no ∨ (x.toInt = 0 ∧ 0 < (fk 0).toInt) ∧ (y.toInt = 0 ∧ 0 < (fk 1).toInt) ∧ A0 r ∨ (x.toInt = 0 ∧ 0 < (fk 0).toInt) ∧ (y.toInt = 1 ∧ 1 < (fk 1).toInt) ∧ A1 r ∨ (x.toInt = 1 ∧ 1 < (fk 0).toInt) ∧ (y.toInt = 0 ∧ 0 < (fk 1).toInt) ∧ A2 r ∨ (x.toInt = 1 ∧ 1 < (fk 0).toInt) ∧ (y.toInt = 1 ∧ 1 < (fk 1).toInt) ∧ A3 r) (F2 : ((x.toInt < 0 ∨ (f 0).toInt ≤ x.toInt) ∨ (y.toInt < 0 ∨ (f 1).toInt ≤ y.toInt)) ∧ r' = no ∨ (x.toInt = 0 ∧ 0 < (f 0).toInt) ∧ (y.toInt = 0 ∧ 0 < (f 1).toInt) ∧ B0 r' ∨ (x.toInt = 0 ∧ 0 < (f 0).toInt) ∧ (y.toInt = 1 ∧ 1 < (f 1).toInt) ∧ B1 r' ∨ (x.toInt = 1 ∧ 1 < (f 0).toInt) ∧ (y.toInt = 0 ∧ 0 < (f 1).toInt) ∧ B2 r' ∨ (x.toInt = 1 ∧ 1 < (f 0).toInt) ∧ (y.toInt = 1 ∧ 1 < (f 1).toInt) ∧ B3 r') (e0 : A0 r → B0 r' → r = r') (e1 : A1 r → B1 r' → r = r') (e2 : A2 r → B2 r' → r = r') (e3 : A3 r → B3 r' → r = r') : r = r' := by
  rw [hk, hk1] at F1
  rcases F1 with ⟨a, b⟩ | ⟨a, b, c⟩ | ⟨a, b, c⟩ | ⟨a, b, c⟩ | ⟨a, b, c⟩ <;> rcases F2 with ⟨d, e⟩ | ⟨d, e, g⟩ | ⟨d, e, g⟩ | ⟨d, e, g⟩ | ⟨d, e, g⟩ <;> first | (exfalso; omega) | (rw [b, e]; done) | exact e0 c g | exact e1 c g | exact e2 c g | exact e3 c g
theorem zVD_0 {f : Nat → Int32} (h : zVD f) (q : Nat) (hq : q < 2) : zDyv f (712 + 121 * q) := by
  have t := (h 0 q (by decide) hq).1
  intro j hj
  have a := t j
  have e0 : f (988 * 0 + (712 + 121 * q + 0)) = f (712 + 121 * q) := congrArg f (by omega)
  have e1 : f (988 * 0 + (712 + 121 * q + (1 + 3 * j))) = f (712 + 121 * q + (1 + 3 * j)) := congrArg f (by omega)
  have e3 : f (988 * 0 + (712 + 121 * q + (3 + 3 * j))) = f (712 + 121 * q + (3 + 3 * j)) := congrArg f (by omega)
  have a : (j : Int) < (f (988 * 0 + (712 + 121 * q + 0))).toInt → (0 ≤ (f (988 * 0 + (712 + 121 * q + (1 + 3 * j)))).toInt ∧ (f (988 * 0 + (712 + 121 * q + (1 + 3 * j)))).toInt ≤ 5) ∧ (4 ≤ (f (988 * 0 + (712 + 121 * q + (1 + 3 * j)))).toInt → 0 ≤ (f (988 * 0 + (712 + 121 * q + (3 + 3 * j)))).toInt ∧ (f (988 * 0 + (712 + 121 * q + (3 + 3 * j)))).toInt ≤ 3) := a
  rw [e0, e1, e3] at a
  exact a hj
theorem zWk_b {f H : Nat → Int32} {z cr : Int32} (h : zML f z cr) (e : ∀ j, j < 7 → H j = zWk f z j) : zHB 9 H := fun j hj => by
  rw [e j hj]
  exact (h.2.2.2.1 j hj).2.2
theorem zS0_b {S : Nat → Int32} (e : ∀ j, j < 7 → S j = 0) : zS15 S := fun j hj => by
  rw [e j hj]
  decide
/-- the greatest crowd at a crossing that is no inn -/ 
def zCw (inn : Int32) (H : Nat → Int32) (cw : Int32) : Nat → Int32
  | 0 => cw
  | i + 1 => if zBit inn (nI i) = 1 then zCw inn H cw i else (if zCw inn H cw i < H i then H i else zCw inn H cw i)
theorem zCw_cg {inn cw : Int32} {H H' : Nat → Int32} (h : ∀ j, j < 7 → H j = H' j) : ∀ i, i ≤ 7 → zCw inn H cw i = zCw inn H' cw i
  | 0, _ => rfl
  | i + 1, hi => by
    show (if zBit inn (nI i) = 1 then zCw inn H cw i else (if zCw inn H cw i < H i then H i else zCw inn H cw i)) = (if zBit inn (nI i) = 1 then zCw inn H' cw i else (if zCw inn H' cw i < H' i then H' i else zCw inn H' cw i))
    rw [zCw_cg h i (by omega), h i (by omega)]
theorem zCw_i {inn cw u : Int32} {H : Nat → Int32} {i : Nat} (h : u = zCw inn H cw i) (q : zBit inn (nI i) = 1) : u = zCw inn H cw (i + 1) := by
  show u = (if zBit inn (nI i) = 1 then zCw inn H cw i else (if zCw inn H cw i < H i then H i else zCw inn H cw i))
  rw [if_pos q]
  exact h
theorem zCw_n {inn cw u : Int32} {H : Nat → Int32} {i : Nat} (h : u = zCw inn H cw i) (q : ¬ zBit inn (nI i) = 1) : (if u < H i then H i else u) = zCw inn H cw (i + 1) := by
  show _ = (if zBit inn (nI i) = 1 then zCw inn H cw i else (if zCw inn H cw i < H i then H i else zCw inn H cw i))
  rw [if_neg q, h]
/-- who came first, the longest run, how many moved, the crowd -/
abbrev zXs : Type := Int32 × Int32 × Int32 × Int32
def zXt (W L : Nat → Int32) (d x : Int32) (D : zK) : Int32 := if d.toInt = 0 then zStep D.1 D.2.1 W L x else (zRunN D.2.1 W L 499 D.1 x 0).2.1
def zXf (inn fc k x t : Int32) : Int32 := if fc.toInt = -1 ∧ zBit inn t = 1 ∧ ¬ zBit inn x = 1 then k else fc
def zXm (mv x t : Int32) : Int32 := if x = t then mv else mv + 1
def zXl (lr g : Int32) : Int32 := if lr < g then g else lr
def zXe (cr inn : Int32) (W L : Nat → Int32) (d x k : Int32) (D E : zK) (X : zXs) : zXs := (if d.toInt = 0 ∨ d.toInt = 1 then zXf inn X.1 k x (zXt W L d x D) else X.1, if d.toInt = 1 then zXl X.2.1 (nI (zRunN D.2.1 W L 499 D.1 x 0).2.2) else X.2.1, if d.toInt = 0 ∨ d.toInt = 1 then zXm X.2.2.1 x (zXt W L d x D) else X.2.2.1, zCw inn E.2.2.1 X.2.2.2 cr.toInt.toNat)
theorem zXe_0 {cr inn d x k : Int32} {W L : Nat → Int32} {D E : zK} {X : zXs} (h : d.toInt = 0) : zXe cr inn W L d x k D E X = (zXf inn X.1 k x (zStep D.1 D.2.1 W L x), X.2.1, zXm X.2.2.1 x (zStep D.1 D.2.1 W L x), zCw inn E.2.2.1 X.2.2.2 cr.toInt.toNat) := by
  unfold zXe zXt
  rw [if_pos (Or.inl h), if_pos (Or.inl h), if_pos h, if_neg (show ¬ d.toInt = 1 by omega)]
theorem zXe_1 {cr inn d x k : Int32} {W L : Nat → Int32} {D E : zK} {X : zXs} (h : d.toInt = 1) : zXe cr inn W L d x k D E X = (zXf inn X.1 k x (zRunN D.2.1 W L 499 D.1 x 0).2.1, zXl X.2.1 (nI (zRunN D.2.1 W L 499 D.1 x 0).2.2), zXm X.2.2.1 x (zRunN D.2.1 W L 499 D.1 x 0).2.1, zCw inn E.2.2.1 X.2.2.2 cr.toInt.toNat) := by
  unfold zXe zXt
  rw [if_pos (Or.inr h), if_pos (Or.inr h), if_pos h, if_neg (by omega)]
theorem zXe_o {cr inn d x k : Int32} {W L : Nat → Int32} {D E : zK} {X : zXs} (h : ¬ d.toInt = 0 ∧ ¬ d.toInt = 1) : zXe cr inn W L d x k D E X = (X.1, X.2.1, X.2.2.1, zCw inn E.2.2.1 X.2.2.2 cr.toInt.toNat) := by
  unfold zXe
  rw [if_neg (by omega), if_neg h.2, if_neg (by omega)]
def zDayX (F : Nat → zK → Option zK) (G : Nat → zK → zK → zXs → zXs) : Nat → Nat → zK → zXs → zXs
  | 0, _, _, X => X
  | n + 1, k, D, X => match F k D with
    | none => X
    | some E => zDayX F G n (k + 1) E (G k D E X)
theorem zDayX_z {F : Nat → zK → Option zK} {G : Nat → zK → zK → zXs → zXs} {n k : Nat} {D : zK} {X : zXs} (h : n = 0) : zDayX F G n k D X = X := by
  subst h
  rfl
theorem zDayX_s {F : Nat → zK → Option zK} {G : Nat → zK → zK → zXs → zXs} {n k : Nat} {D E : zK} {X : zXs} (h : F k D = some E) : zDayX F G (n + 1) k D X = zDayX F G n (k + 1) E (G k D E X) := by
  rw [zDayX, h]
theorem zDayX_n {F : Nat → zK → Option zK} {G : Nat → zK → zK → zXs → zXs} {n k : Nat} {D : zK} {X : zXs} (h : F k D = none) : zDayX F G n k D X = X := by
  cases n with
  | zero => rfl
  | succ n => rw [zDayX, h]
theorem zDayX_cg {W : Nat → Int32} {F F' : Nat → zK → Option zK} {G G' : Nat → zK → zK → zXs → zXs} : ∀ (n k : Nat) (D E : zK) (X : zXs), zP3 D.1 W → zKe D E → (∀ j, k ≤ j → j < k + n → ∀ D E, zP3 D.1 W → zKe D E → zOe W (F j D) (F' j E)) → (∀ j, k ≤ j → j < k + n → ∀ D E D2 E2 X, zP3 D.1 W → zKe D E → zKe D2 E2 → G j D D2 X = G' j E E2 X) → zDayX F G n k D X = zDayX F' G' n k E X
  | 0, k, D, E, X, _, h, _, _ => rfl
  | n + 1, k, D, E, X, hI, h, hF, hG => by
    rcases hF k (Nat.le_refl k) (by omega) D E hI h with ⟨a, b⟩ | ⟨D2, E2, a, b, h2, hI2⟩
    · rw [zDayX_n a, zDayX_n b]
    · rw [zDayX_s a, zDayX_s b, hG k (Nat.le_refl k) (by omega) D E D2 E2 X hI h h2]
      exact zDayX_cg n (k + 1) D2 E2 _ hI2 h2 (fun j h1 h3 => hF j (by omega) (by omega)) (fun j h1 h3 => hG j (by omega) (by omega))
theorem zXe_cg {cr inn d x k : Int32} {W W' L L' : Nat → Int32} {D E D2 E2 : zK} {X : zXs} (hc : cr.toInt ≤ 7) (h3 : ∀ j, j < 7 → W j = W' j) (hl : zLs W L L') (hI : zP3 D.1 W) (h : zKe D E) (h2 : zKe D2 E2) : zXe cr inn W L d x k D D2 X = zXe cr inn W' L' d x k E E2 X := by
  obtain ⟨p, s, -, -⟩ := h
  have eS := zStep_cg hI p s h3 hl x
  have eR := (zRunN_cg s h3 hl 499 D.1 E.1 x 0 hI p).2
  unfold zXe zXt
  rw [eS, eR, zCw_cg h2.2.2.1 _ (by omega)]
/-- posts that are not as told, as bits -/
def zUn (P T : Nat → Int32) : Nat → Int32
  | 0 => 0
  | i + 1 => zUn P T i ||| (if P i = T i then (0 : Int32) else (1 : Int32) <<< (nI i &&& 31))
theorem zUn_cg {P P' T T' : Nat → Int32} (h : ∀ j, j < 7 → P j = P' j) (g : ∀ j, j < 7 → T j = T' j) : ∀ i, i ≤ 7 → zUn P T i = zUn P' T' i
  | 0, _ => rfl
  | i + 1, hi => by
    show zUn P T i ||| (if P i = T i then (0 : Int32) else (1 : Int32) <<< (nI i &&& 31)) = zUn P' T' i ||| (if P' i = T' i then (0 : Int32) else (1 : Int32) <<< (nI i &&& 31))
    rw [zUn_cg h g i (by omega), h i (by omega), g i (by omega)]
theorem zUn_y {P T : Nat → Int32} {u : Int32} {i : Nat} (h : u = zUn P T i) (q : P i = T i) : u ||| 0 = zUn P T (i + 1) := by
  show _ = zUn P T i ||| (if P i = T i then (0 : Int32) else (1 : Int32) <<< (nI i &&& 31))
  rw [if_pos q, h]
theorem zUn_n {P T : Nat → Int32} {u : Int32} {i : Nat} (h : u = zUn P T i) (q : ¬ P i = T i) : u ||| 1 <<< (nI i &&& 31) = zUn P T (i + 1) := by
  show _ = zUn P T i ||| (if P i = T i then (0 : Int32) else (1 : Int32) <<< (nI i &&& 31))
  rw [if_neg q, h]
def zAft (cr : Int32) (T : Nat → Int32) (w r : Int32) (D : zK) (X : zXs) : Prop := (w.toInt = 0 ∧ r = X.1) ∨ (w.toInt = 1 ∧ r = X.2.1) ∨ (w.toInt = 2 ∧ r = X.2.2.1) ∨ (w.toInt = 3 ∧ r = X.2.2.2) ∨ (w.toInt = 4 ∧ r = zUn D.1 T cr.toInt.toNat) ∨ ((w.toInt < 0 ∨ 4 < w.toInt) ∧ r = -2)
theorem zAft_e {cr w r r' : Int32} {T T' : Nat → Int32} {D D' : zK} {X : zXs} (hc : cr.toInt ≤ 7) (hD : ∀ j, j < 7 → D.1 j = D'.1 j) (hT : ∀ j, j < 7 → T j = T' j) (x : zAft cr T w r D X) (y : zAft cr T' w r' D' X) : r = r' := by
  rcases x with ⟨a, b⟩ | ⟨a, b⟩ | ⟨a, b⟩ | ⟨a, b⟩ | ⟨a, b⟩ | ⟨a, b⟩ <;> rcases y with ⟨c, d⟩ | ⟨c, d⟩ | ⟨c, d⟩ | ⟨c, d⟩ | ⟨c, d⟩ | ⟨c, d⟩ <;> first | (exfalso; omega) | (rw [b, d]; done) | (rw [b, d]; exact zUn_cg hD hT _ (by omega))
def zDayA (F : Nat → zK → Option zK) (cr inn : Int32) (W L d1 d2 : Nat → Int32) (n : Nat) (D : zK) : zXs := zDayX F (fun k D E X => zXe cr inn W L (d1 k) (d2 k) (nI k) D E X) n 0 D (-1, 0, 0, zCw inn D.2.2.1 0 cr.toInt.toNat)
def kAfter (cr inn : Int32) (k1 k2 k3 k4 : Nat → Int32) (dd : Int32) (d1 d2 d3 : Nat → Int32) (w r : Int32) : Prop := ∃ P0 S0 W0 H0 : Nat → Int32, (zP3 P0 W0 ∧ (∀ j, j < 7 → P0 j = k3 j) ∧ (∀ j, j < 7 → S0 j = 0) ∧ (∀ j, j < 7 → W0 j = zWays cr inn k1 (nI j)) ∧ ∀ j, j < 7 → H0 j = k4 j) ∧ zAft cr k3 w r (zDayN (fun k D => zDe cr inn W0 k1 k2 (d1 k) (d2 k) (d3 k) D) (min (min 40 dd.toInt) 40).toNat 0 (P0, S0, H0, 0, 0)).2 (zDayA (fun k D => zDe cr inn W0 k1 k2 (d1 k) (d2 k) (d3 k) D) cr inn W0 k2 d1 d2 (min (min 40 dd.toInt) 40).toNat (P0, S0, H0, 0, 0))
def pAfter (f : Nat → Int32) (z : Int32) (d : Nat) (w r : Int32) : Prop := ∃ P0 S0 H0 : Nat → Int32, ((∀ j, j < 7 → P0 j = zPo f z j) ∧ (∀ j, j < 7 → S0 j = 0) ∧ ∀ j, j < 7 → H0 j = f (z.toInt.toNat + (16 + j))) ∧ zAft (f z.toInt.toNat) (zPo f z) w r (zDayN (fun k D => zDe (f z.toInt.toNat) (f (z.toInt.toNat + 1)) (pW f z) (zRo f z) (zLo f z) (f (d + (1 + 3 * k))) (f (d + (2 + 3 * k))) (f (d + (3 + 3 * k))) D) (min (min 40 (f d).toInt) 40).toNat 0 (P0, S0, H0, 0, 0)).2 (zDayA (fun k D => zDe (f z.toInt.toNat) (f (z.toInt.toNat + 1)) (pW f z) (zRo f z) (zLo f z) (f (d + (1 + 3 * k))) (f (d + (2 + 3 * k))) (f (d + (3 + 3 * k))) D) (f z.toInt.toNat) (f (z.toInt.toNat + 1)) (pW f z) (zLo f z) (fun k => f (d + (1 + 3 * k))) (fun k => f (d + (2 + 3 * k))) (min (min 40 (f d).toInt) 40).toNat (P0, S0, H0, 0, 0))
theorem kAfter_e {cr inn z dd w r r' : Int32} {k1 k2 k3 k4 d1 d2 d3 f : Nat → Int32} {B d : Nat} (h : zLnd cr inn k1 k2 k3 k4 (fun j => f (B + j))) (hF : zLF (fun j => f (B + j))) (hz : z.toInt.toNat = B) (hd : zDyd dd d1 d2 d3 (fun j => f (d + j))) (F1 : kAfter cr inn k1 k2 k3 k4 dd d1 d2 d3 w r) (F2 : pAfter f z d w r') : r = r' := by
  obtain ⟨a1, a2, a3, a4, a5, a6⟩ := zLnd_w h hF hz
  have hc : 0 ≤ (f B).toInt ∧ (f B).toInt ≤ 7 := hF.1
  have hc7 : cr.toInt ≤ 7 := by rw [a5, hz]; exact hc.2
  obtain ⟨-, -, -, hk, -⟩ := h
  obtain ⟨e0, -, e1⟩ := hd
  have e0 : dd = f d := e0
  have e1 : ∀ j : Nat, (j : Int) < (f d).toInt → d1 j = f (d + (1 + 3 * j)) ∧ d2 j = f (d + (2 + 3 * j)) ∧ d3 j = f (d + (3 + 3 * j)) := e1
  obtain ⟨P0, S0, W0, H0, ⟨b0, b1, b2, b3, b4⟩, x⟩ := F1
  obtain ⟨P1, S1, H1, ⟨c1, c2, c4⟩, y⟩ := F2
  rw [← a5, ← a6, ← e0] at y
  have hW : ∀ j, j < 7 → W0 j = pW f z j := fun q hq => (b3 q hq).trans (a1 q hq)
  have hL := zLs_c a2 (fun q hq => b3 q hq) (W' := W0)
  have hK : zKe (P0, S0, H0, 0, 0) (P1, S1, H1, 0, 0) := ⟨fun j hj => (b1 j hj).trans ((a3 j hj).trans (c1 j hj).symm), fun j hj => (b2 j hj).trans (c2 j hj).symm, fun j hj => (b4 j hj).trans ((hk j hj).2.2.trans (by show _ = H1 j; rw [c4 j hj, hz])), rfl⟩
  have hFg : ∀ j, 0 ≤ j → j < 0 + (min (min 40 dd.toInt) 40).toNat → ∀ D E, zP3 D.1 W0 → zKe D E → zOe W0 (zDe cr inn W0 k1 k2 (d1 j) (d2 j) (d3 j) D) (zDe cr inn (pW f z) (zRo f z) (zLo f z) (f (d + (1 + 3 * j))) (f (d + (2 + 3 * j))) (f (d + (3 + 3 * j))) E) := by
    intro j _ hj D E hI hDE
    have t := e1 j (by rw [← e0]; omega)
    rw [t.1, t.2.1, t.2.2]
    refine zDe_cg hW (fun q hq => (hk q hq).1.trans ?_) hL _ hI hDE
    unfold zRo
    rw [hz]
  have g1 := zDayN_cg (W := W0) (F := fun k D => zDe cr inn W0 k1 k2 (d1 k) (d2 k) (d3 k) D) (F' := fun k D => zDe cr inn (pW f z) (zRo f z) (zLo f z) (f (d + (1 + 3 * k))) (f (d + (2 + 3 * k))) (f (d + (3 + 3 * k))) D) _ 0 _ _ b0 hK hFg
  have g2 : zDayA (fun k D => zDe cr inn W0 k1 k2 (d1 k) (d2 k) (d3 k) D) cr inn W0 k2 d1 d2 (min (min 40 dd.toInt) 40).toNat (P0, S0, H0, 0, 0) = zDayA (fun k D => zDe cr inn (pW f z) (zRo f z) (zLo f z) (f (d + (1 + 3 * k))) (f (d + (2 + 3 * k))) (f (d + (3 + 3 * k))) D) cr inn (pW f z) (zLo f z) (fun k => f (d + (1 + 3 * k))) (fun k => f (d + (2 + 3 * k))) (min (min 40 dd.toInt) 40).toNat (P1, S1, H1, 0, 0) := by
    unfold zDayA
    rw [show zCw inn (P0, S0, H0, (0 : Int32), (0 : Int32)).2.2.1 0 cr.toInt.toNat = zCw inn (P1, S1, H1, (0 : Int32), (0 : Int32)).2.2.1 0 cr.toInt.toNat from zCw_cg hK.2.2.1 _ (by omega)]
    refine zDayX_cg (W := W0) _ 0 _ _ _ b0 hK hFg ?_
    intro j _ hj D E D2 E2 X hI hDE h2
    have t := e1 j (by rw [← e0]; omega)
    show zXe cr inn W0 k2 (d1 j) (d2 j) (nI j) D D2 X = zXe cr inn (pW f z) (zLo f z) (f (d + (1 + 3 * j))) (f (d + (2 + 3 * j))) (nI j) E E2 X
    rw [t.1, t.2.1]
    exact zXe_cg hc7 hW hL hI hDE h2
  rw [g2] at x
  exact zAft_e hc7 g1.2.1 a3 x y
set_option maxHeartbeats 4000000 in
set_option maxRecDepth 100000 in
/-- c_x_move -/
theorem c_x_move (l : Launch) (T : zTy) (h : Nat) (po : Nat) (la : Nat) (fw : Nat → Int32) (v0 : Int32) (v1 : Int32) (v2 : Int32) (v3 : Int32) (v4 : Int32) (v5 : Int32) (v6 : Int32) (v7 : Int32) (wc : va_W) (cr : Int32) (inn : Int32) (k1 : Nat → Int32) (k2 : Nat → Int32) (k3 : Nat → Int32) (k4 : Nat → Int32) (z : va_W) (x : Int32) (y : Int32) (hc : bCourse T h po la fw v0 v1 v2 v3 v4 v5 v6 v7 wc) (hz : bLand T la cr inn k1 k2 k3 k4 z) (hhx : zHas cr x) (hhy : zHas cr y) : zMv l T yX1_move cX1_move 3 3 0 0 [.ref h, .int x, .int y] [wc, z] (fun bs => ∃ (wc2 : va_W) (gw : Nat → Int32) (u3 : Int32) (u5 : Int32), bs = [wc2, z] ∧ bCourse T h po la gw v0 v1 v2 u3 v4 u5 v6 v7 wc2 ∧ gw = zMvH fw x y ∧ u3 = zXf inn v3 v2 x y ∧ u5 = zXm v5 x y) := by
  refine zMv_of (own := RX1) (by decide) rfl (Nat.le_of_ble_eq_true rfl) ?_
  intro p e s m args below meth c A ls C hr hlocks hnm hAe G hl
  refine zHide (fun Qz_ hQz_ => ?_)
  have hx := C.1
  have hb := C.2.1
  have hl : lv_has ls 3 [(0, .ref h), (1, .int x), (2, .int y)] := hl
  refine lv_aload_n hx hb dX1_move_0 rfl (lv_at hl 0 rfl) ?_
  refine zEx1 hc ?_
  intro a1_1 hbs9
  clear hc
  subst hbs9
  have G : zS T A s.heap s [[zO1 h po a1_1 v0 la v1 v2 v3 v4 v5 v6 v7], [zAr T 0 a1_1 7 fw], z] _ _ := G.re rfl
  refine z_get C G clX1 0 rfl 3 (by decide) m_fl_RX1_25 rfl dX1_move_1 ?_
  refine lv_iload_n hx hb dX1_move_4 rfl (lv_at hl 1 rfl) ?_
  refine z_Vi (bc := [z]) (br := [[zO1 h po a1_1 v0 la v1 v2 v3 v4 v5 v6 v7], [zAr T 0 a1_1 7 fw]]) (As := [.int x]) (rest := []) C G (c_has l T la cr inn k1 k2 k3 k4 z x hz) (kV_RX1_112 C.2.2.2.2 (Nat.le_of_ble_eq_true rfl) (Nat.le_of_ble_eq_true rfl)) [2] [2] rfl rfl (ci := 4) (qc := (RX4, TX4, 6)) rfl rfl (List.mem_flatten.mpr ⟨_, List.mem_of_getElem? (i := 0) rfl, (bLand_mem hz).choose_spec⟩) rfl rfl hl.1 dX1_move_5 (Nat.le_of_ble_eq_true rfl) (Nat.le_of_ble_eq_true rfl) (fun r_3 b1 H locs hw G => ?_)
  refine zAn2 hw ?_
  intro hbs9 hc_2
  clear hw
  subst hbs9
  have G : zS T A s.heap s [[zO1 h po a1_1 v0 la v1 v2 v3 v4 v5 v6 v7], [zAr T 0 a1_1 7 fw], z] _ _ := G
  rcases hc_2 with ⟨rfl, h_4, h_5, h_6⟩ | ⟨rfl, h_7⟩
  · have h_4 : 0 ≤ x.toInt := h_4
    have h_5 : x.toInt < cr.toInt := h_5
    have h_6 : x.toInt < 7 := h_6
    refine lv_if_eq (tgt := 22) hx hb dX1_move_8 (by decide) (fun q => absurd q (by decide)) (fun _ => ?_)
    refine lv_aload_n hx hb dX1_move_11 rfl (lv_at hl 0 rfl) ?_
    refine z_get C G clX1 0 rfl 3 (by decide) m_fl_RX1_25 rfl dX1_move_12 ?_
    refine lv_iload_n hx hb dX1_move_15 rfl (lv_at hl 2 rfl) ?_
    refine z_Vi (bc := [z]) (br := [[zO1 h po a1_1 v0 la v1 v2 v3 v4 v5 v6 v7], [zAr T 0 a1_1 7 fw]]) (As := [.int y]) (rest := []) C G (c_has l T la cr inn k1 k2 k3 k4 z y hz) (kV_RX1_112 C.2.2.2.2 (Nat.le_of_ble_eq_true rfl) (Nat.le_of_ble_eq_true rfl)) [2] [2] rfl rfl (ci := 4) (qc := (RX4, TX4, 6)) rfl rfl (List.mem_flatten.mpr ⟨_, List.mem_of_getElem? (i := 0) rfl, (bLand_mem hz).choose_spec⟩) rfl rfl hl.1 dX1_move_16 (Nat.le_of_ble_eq_true rfl) (Nat.le_of_ble_eq_true rfl) (fun r_9 b1 H locs hw G => ?_)
    refine zAn2 hw ?_
    intro hbs9 hc_8
    clear hw
    subst hbs9
    have G : zS T A s.heap s [[zO1 h po a1_1 v0 la v1 v2 v3 v4 v5 v6 v7], [zAr T 0 a1_1 7 fw], z] _ _ := G
    rcases hc_8 with ⟨rfl, h_10, h_11, h_12⟩ | ⟨rfl, h_13⟩
    · have h_10 : 0 ≤ y.toInt := h_10
      have h_11 : y.toInt < cr.toInt := h_11
      have h_12 : y.toInt < 7 := h_12
      refine lv_if_ne (tgt := 23) hx hb dX1_move_19 (by decide) (fun _ => ?_) (fun q => absurd q (by decide))
      refine lv_aload_n hx hb dX1_move_23 rfl (lv_at hl 0 rfl) ?_
      refine z_get C G clX1 0 rfl 1 (by decide) m_fl_RX1_18 rfl dX1_move_24 ?_
      refine lv_iload_n hx hb dX1_move_27 rfl (lv_at hl 1 rfl) ?_
      refine lv_dup2_11 hx hb dX1_move_28 rfl rfl ?_
      refine z_ild C G 1 rfl (vp_in_iff.mpr ⟨by omega, by omega⟩) dX1_move_29 ?_
      refine lv_topi (fun v_14 ev_14 => ?_)
      subst ev_14
      refine lv_iconst (v := 1) hx hb dX1_move_30 (by decide) ?_
      refine lv_isub hx hb dX1_move_31 ?_
      refine z_ist C G 1 rfl (vp_in_iff.mpr ⟨by omega, by omega⟩) dX1_move_32 (fun H locs G => ?_)
      have G : zS T A s.heap s [[zO1 h po a1_1 v0 la v1 v2 v3 v4 v5 v6 v7], [zAr T 0 a1_1 7 (upd fw x.toNatClampNeg ((fw x.toNatClampNeg) - 1))], z] _ _ := G
      refine lv_aload_n hx hb dX1_move_33 rfl (lv_at hl 0 rfl) ?_
      refine z_get C G clX1 0 rfl 1 (by decide) m_fl_RX1_18 rfl dX1_move_34 ?_
      refine lv_iload_n hx hb dX1_move_37 rfl (lv_at hl 2 rfl) ?_
      refine lv_dup2_11 hx hb dX1_move_38 rfl rfl ?_
      refine z_ild C G 1 rfl (vp_in_iff.mpr ⟨by omega, by omega⟩) dX1_move_39 ?_
      refine lv_topi (fun v_15 ev_15 => ?_)
      subst ev_15
      refine lv_iconst (v := 1) hx hb dX1_move_40 (by decide) ?_
      refine lv_iadd hx hb dX1_move_41 ?_
      refine z_ist C G 1 rfl (vp_in_iff.mpr ⟨by omega, by omega⟩) dX1_move_42 (fun H locs G => ?_)
      have G : zS T A s.heap s [[zO1 h po a1_1 v0 la v1 v2 v3 v4 v5 v6 v7], [zAr T 0 a1_1 7 (upd (upd fw x.toNatClampNeg ((fw x.toNatClampNeg) - 1)) y.toNatClampNeg (((upd fw x.toNatClampNeg ((fw x.toNatClampNeg) - 1)) y.toNatClampNeg) + 1))], z] _ _ := G
      refine lv_iload_n hx hb dX1_move_43 rfl (lv_at hl 1 rfl) ?_
      refine lv_iload_n hx hb dX1_move_44 rfl (lv_at hl 2 rfl) ?_
      refine lv_icmp_eq (tgt := 58) hx hb dX1_move_45 (by decide) (fun c_16 => ?_) (fun c_16 => ?_)
      · have c_16n : x.toInt = y.toInt := (fa_eq _ _).mp c_16
        refine lv_aload_n hx hb dX1_move_58 rfl (lv_at hl 0 rfl) ?_
        refine z_get C G clX1 0 rfl 6 (by decide) m_fl_RX1_44 rfl dX1_move_59 ?_
        refine lv_iconst (v := (-1)) hx hb dX1_move_62 (by decide) ?_
        refine lv_icmp_ne (tgt := 96) hx hb dX1_move_63 (by decide) (fun c_17 => ?_) (fun c_17 => ?_)
        · have c_17n : ¬ v3.toInt = (-1 : Int) := fun q => c_17 ((fa_eq _ _).mpr q)
          have hw_18 : bCourse T h po la (upd (upd fw x.toNatClampNeg ((fw x.toNatClampNeg) - 1)) y.toNatClampNeg (((upd fw x.toNatClampNeg ((fw x.toNatClampNeg) - 1)) y.toNatClampNeg) + 1)) v0 v1 v2 v3 v4 v5 v6 v7 [zO1 h po a1_1 v0 la v1 v2 v3 v4 v5 v6 v7, zAr T 0 a1_1 7 (upd (upd fw x.toNatClampNeg ((fw x.toNatClampNeg) - 1)) y.toNatClampNeg (((upd fw x.toNatClampNeg ((fw x.toNatClampNeg) - 1)) y.toNatClampNeg) + 1))] := ⟨a1_1, rfl⟩
          have G : zS T A s.heap s [[zO1 h po a1_1 v0 la v1 v2 v3 v4 v5 v6 v7, zAr T 0 a1_1 7 (upd (upd fw x.toNatClampNeg ((fw x.toNatClampNeg) - 1)) y.toNatClampNeg (((upd fw x.toNatClampNeg ((fw x.toNatClampNeg) - 1)) y.toNatClampNeg) + 1))], z] _ _ := G.re rfl
          exact z_back hQz_ (z_vret C hr hlocks G (Nat.le_of_ble_eq_true rfl) (Nat.le_of_ble_eq_true rfl) dX1_move_96 ⟨([zO1 h po a1_1 v0 la v1 v2 v3 v4 v5 v6 v7, zAr T 0 a1_1 7 (upd (upd fw x.toNatClampNeg ((fw x.toNatClampNeg) - 1)) y.toNatClampNeg (((upd fw x.toNatClampNeg ((fw x.toNatClampNeg) - 1)) y.toNatClampNeg) + 1))]), (upd (upd fw x.toNatClampNeg ((fw x.toNatClampNeg) - 1)) y.toNatClampNeg (((upd fw x.toNatClampNeg ((fw x.toNatClampNeg) - 1)) y.toNatClampNeg) + 1)), v3, v5, rfl, hw_18, rfl, (if_neg (fun q8 => absurd q8.1 (by omega))).symm, (if_pos (by first | with_reducible assumption | assumption)).symm⟩)
        · have c_17n : v3.toInt = (-1 : Int) := (fa_eq _ _).mp c_17
          refine lv_aload_n hx hb dX1_move_66 rfl (lv_at hl 0 rfl) ?_
          refine z_get C G clX1 0 rfl 3 (by decide) m_fl_RX1_25 rfl dX1_move_67 ?_
          refine lv_iload_n hx hb dX1_move_70 rfl (lv_at hl 2 rfl) ?_
          refine z_Vi (bc := [z]) (br := [[zO1 h po a1_1 v0 la v1 v2 v3 v4 v5 v6 v7], [zAr T 0 a1_1 7 (upd (upd fw x.toNatClampNeg ((fw x.toNatClampNeg) - 1)) y.toNatClampNeg (((upd fw x.toNatClampNeg ((fw x.toNatClampNeg) - 1)) y.toNatClampNeg) + 1))]]) (As := [.int y]) (rest := []) C G (c_isInn l T la cr inn k1 k2 k3 k4 z y hz) (kV_RX1_135 C.2.2.2.2 (Nat.le_of_ble_eq_true rfl) (Nat.le_of_ble_eq_true rfl)) [2] [2] rfl rfl (ci := 4) (qc := (RX4, TX4, 6)) rfl rfl (List.mem_flatten.mpr ⟨_, List.mem_of_getElem? (i := 0) rfl, (bLand_mem hz).choose_spec⟩) rfl rfl hl.1 dX1_move_71 (Nat.le_of_ble_eq_true rfl) (Nat.le_of_ble_eq_true rfl) (fun r_20 b1 H locs hw G => ?_)
          refine zAn2 hw ?_
          intro hbs9 hc_19
          clear hw
          subst hbs9
          have G : zS T A s.heap s [[zO1 h po a1_1 v0 la v1 v2 v3 v4 v5 v6 v7], [zAr T 0 a1_1 7 (upd (upd fw x.toNatClampNeg ((fw x.toNatClampNeg) - 1)) y.toNatClampNeg (((upd fw x.toNatClampNeg ((fw x.toNatClampNeg) - 1)) y.toNatClampNeg) + 1))], z] _ _ := G
          rcases hc_19 with ⟨rfl, h_21, h_22, h_23, h_24⟩ | ⟨rfl, h_25⟩
          · have h_21 : 0 ≤ y.toInt := h_21
            have h_22 : y.toInt < cr.toInt := h_22
            have h_23 : y.toInt < 7 := h_23
            have h_24 : ¬ zBit inn y = 0 := h_24
            refine lv_if_eq (tgt := 96) hx hb dX1_move_74 (by decide) (fun q => absurd q (by decide)) (fun _ => ?_)
            refine lv_aload_n hx hb dX1_move_77 rfl (lv_at hl 0 rfl) ?_
            refine z_get C G clX1 0 rfl 3 (by decide) m_fl_RX1_25 rfl dX1_move_78 ?_
            refine lv_iload_n hx hb dX1_move_81 rfl (lv_at hl 1 rfl) ?_
            refine z_Vi (bc := [z]) (br := [[zO1 h po a1_1 v0 la v1 v2 v3 v4 v5 v6 v7], [zAr T 0 a1_1 7 (upd (upd fw x.toNatClampNeg ((fw x.toNatClampNeg) - 1)) y.toNatClampNeg (((upd fw x.toNatClampNeg ((fw x.toNatClampNeg) - 1)) y.toNatClampNeg) + 1))]]) (As := [.int x]) (rest := []) C G (c_isInn l T la cr inn k1 k2 k3 k4 z x hz) (kV_RX1_135 C.2.2.2.2 (Nat.le_of_ble_eq_true rfl) (Nat.le_of_ble_eq_true rfl)) [2] [2] rfl rfl (ci := 4) (qc := (RX4, TX4, 6)) rfl rfl (List.mem_flatten.mpr ⟨_, List.mem_of_getElem? (i := 0) rfl, (bLand_mem hz).choose_spec⟩) rfl rfl hl.1 dX1_move_82 (Nat.le_of_ble_eq_true rfl) (Nat.le_of_ble_eq_true rfl) (fun r_27 b1 H locs hw G => ?_)
            refine zAn2 hw ?_
            intro hbs9 hc_26
            clear hw
            subst hbs9
            have G : zS T A s.heap s [[zO1 h po a1_1 v0 la v1 v2 v3 v4 v5 v6 v7], [zAr T 0 a1_1 7 (upd (upd fw x.toNatClampNeg ((fw x.toNatClampNeg) - 1)) y.toNatClampNeg (((upd fw x.toNatClampNeg ((fw x.toNatClampNeg) - 1)) y.toNatClampNeg) + 1))], z] _ _ := G
            rcases hc_26 with ⟨rfl, h_28, h_29, h_30, h_31⟩ | ⟨rfl, h_32⟩
            · have h_28 : 0 ≤ x.toInt := h_28
              have h_29 : x.toInt < cr.toInt := h_29
              have h_30 : x.toInt < 7 := h_30
              have h_31 : ¬ zBit inn x = 0 := h_31
              refine lv_if_ne (tgt := 96) hx hb dX1_move_85 (by decide) (fun _ => ?_) (fun q => absurd q (by decide))
              have hw_33 : bCourse T h po la (upd (upd fw x.toNatClampNeg ((fw x.toNatClampNeg) - 1)) y.toNatClampNeg (((upd fw x.toNatClampNeg ((fw x.toNatClampNeg) - 1)) y.toNatClampNeg) + 1)) v0 v1 v2 v3 v4 v5 v6 v7 [zO1 h po a1_1 v0 la v1 v2 v3 v4 v5 v6 v7, zAr T 0 a1_1 7 (upd (upd fw x.toNatClampNeg ((fw x.toNatClampNeg) - 1)) y.toNatClampNeg (((upd fw x.toNatClampNeg ((fw x.toNatClampNeg) - 1)) y.toNatClampNeg) + 1))] := ⟨a1_1, rfl⟩
              have G : zS T A s.heap s [[zO1 h po a1_1 v0 la v1 v2 v3 v4 v5 v6 v7, zAr T 0 a1_1 7 (upd (upd fw x.toNatClampNeg ((fw x.toNatClampNeg) - 1)) y.toNatClampNeg (((upd fw x.toNatClampNeg ((fw x.toNatClampNeg) - 1)) y.toNatClampNeg) + 1))], z] _ _ := G.re rfl
              exact z_back hQz_ (z_vret C hr hlocks G (Nat.le_of_ble_eq_true rfl) (Nat.le_of_ble_eq_true rfl) dX1_move_96 ⟨([zO1 h po a1_1 v0 la v1 v2 v3 v4 v5 v6 v7, zAr T 0 a1_1 7 (upd (upd fw x.toNatClampNeg ((fw x.toNatClampNeg) - 1)) y.toNatClampNeg (((upd fw x.toNatClampNeg ((fw x.toNatClampNeg) - 1)) y.toNatClampNeg) + 1))]), (upd (upd fw x.toNatClampNeg ((fw x.toNatClampNeg) - 1)) y.toNatClampNeg (((upd fw x.toNatClampNeg ((fw x.toNatClampNeg) - 1)) y.toNatClampNeg) + 1)), v3, v5, rfl, hw_33, rfl, (if_neg (fun q8 => q8.2.2 (zBit_p h_31))).symm, (if_pos (by first | with_reducible assumption | assumption)).symm⟩)
            · have h_32 : (x.toInt < 0 ∨ cr.toInt ≤ x.toInt ∨ 7 ≤ x.toInt ∨ zBit inn x = 0) := h_32
              refine lv_if_ne (tgt := 96) hx hb dX1_move_85 (by decide) (fun q => absurd (by decide) q) (fun _ => ?_)
              refine lv_aload_n hx hb dX1_move_88 rfl (lv_at hl 0 rfl) ?_
              refine lv_aload_n hx hb dX1_move_89 rfl (lv_at hl 0 rfl) ?_
              refine z_get C G clX1 0 rfl 5 (by decide) m_fl_RX1_41 rfl dX1_move_90 ?_
              refine z_put C G clX1 0 rfl 6 (by decide) m_fl_RX1_44 rfl rfl rfl (Nat.le_of_ble_eq_true rfl) dX1_move_93 (fun H locs G => ?_)
              have G : zS T A s.heap s [[zO1 h po a1_1 v0 la v1 v2 v2 v4 v5 v6 v7], [zAr T 0 a1_1 7 (upd (upd fw x.toNatClampNeg ((fw x.toNatClampNeg) - 1)) y.toNatClampNeg (((upd fw x.toNatClampNeg ((fw x.toNatClampNeg) - 1)) y.toNatClampNeg) + 1))], z] _ _ := G
              have hw_34 : bCourse T h po la (upd (upd fw x.toNatClampNeg ((fw x.toNatClampNeg) - 1)) y.toNatClampNeg (((upd fw x.toNatClampNeg ((fw x.toNatClampNeg) - 1)) y.toNatClampNeg) + 1)) v0 v1 v2 v2 v4 v5 v6 v7 [zO1 h po a1_1 v0 la v1 v2 v2 v4 v5 v6 v7, zAr T 0 a1_1 7 (upd (upd fw x.toNatClampNeg ((fw x.toNatClampNeg) - 1)) y.toNatClampNeg (((upd fw x.toNatClampNeg ((fw x.toNatClampNeg) - 1)) y.toNatClampNeg) + 1))] := ⟨a1_1, rfl⟩
              have G : zS T A s.heap s [[zO1 h po a1_1 v0 la v1 v2 v2 v4 v5 v6 v7, zAr T 0 a1_1 7 (upd (upd fw x.toNatClampNeg ((fw x.toNatClampNeg) - 1)) y.toNatClampNeg (((upd fw x.toNatClampNeg ((fw x.toNatClampNeg) - 1)) y.toNatClampNeg) + 1))], z] _ _ := G.re rfl
              exact z_back hQz_ (z_vret C hr hlocks G (Nat.le_of_ble_eq_true rfl) (Nat.le_of_ble_eq_true rfl) dX1_move_96 ⟨([zO1 h po a1_1 v0 la v1 v2 v2 v4 v5 v6 v7, zAr T 0 a1_1 7 (upd (upd fw x.toNatClampNeg ((fw x.toNatClampNeg) - 1)) y.toNatClampNeg (((upd fw x.toNatClampNeg ((fw x.toNatClampNeg) - 1)) y.toNatClampNeg) + 1))]), (upd (upd fw x.toNatClampNeg ((fw x.toNatClampNeg) - 1)) y.toNatClampNeg (((upd fw x.toNatClampNeg ((fw x.toNatClampNeg) - 1)) y.toNatClampNeg) + 1)), v2, v5, rfl, hw_34, rfl, (if_pos ⟨by omega, zBit_p h_24, fun q8 => by rcases h_32 with e9 | e9 | e9 | e9 <;> first | (exfalso; omega) | (exfalso; have ti9 := nI_toInt (n := i) (by omega); omega) | exact zBit_o q8 e9⟩).symm, (if_pos (by first | with_reducible assumption | assumption)).symm⟩)
          · have h_25 : (y.toInt < 0 ∨ cr.toInt ≤ y.toInt ∨ 7 ≤ y.toInt ∨ zBit inn y = 0) := h_25
            refine lv_if_eq (tgt := 96) hx hb dX1_move_74 (by decide) (fun _ => ?_) (fun q => absurd (by decide) q)
            have hw_35 : bCourse T h po la (upd (upd fw x.toNatClampNeg ((fw x.toNatClampNeg) - 1)) y.toNatClampNeg (((upd fw x.toNatClampNeg ((fw x.toNatClampNeg) - 1)) y.toNatClampNeg) + 1)) v0 v1 v2 v3 v4 v5 v6 v7 [zO1 h po a1_1 v0 la v1 v2 v3 v4 v5 v6 v7, zAr T 0 a1_1 7 (upd (upd fw x.toNatClampNeg ((fw x.toNatClampNeg) - 1)) y.toNatClampNeg (((upd fw x.toNatClampNeg ((fw x.toNatClampNeg) - 1)) y.toNatClampNeg) + 1))] := ⟨a1_1, rfl⟩
            have G : zS T A s.heap s [[zO1 h po a1_1 v0 la v1 v2 v3 v4 v5 v6 v7, zAr T 0 a1_1 7 (upd (upd fw x.toNatClampNeg ((fw x.toNatClampNeg) - 1)) y.toNatClampNeg (((upd fw x.toNatClampNeg ((fw x.toNatClampNeg) - 1)) y.toNatClampNeg) + 1))], z] _ _ := G.re rfl
            exact z_back hQz_ (z_vret C hr hlocks G (Nat.le_of_ble_eq_true rfl) (Nat.le_of_ble_eq_true rfl) dX1_move_96 ⟨([zO1 h po a1_1 v0 la v1 v2 v3 v4 v5 v6 v7, zAr T 0 a1_1 7 (upd (upd fw x.toNatClampNeg ((fw x.toNatClampNeg) - 1)) y.toNatClampNeg (((upd fw x.toNatClampNeg ((fw x.toNatClampNeg) - 1)) y.toNatClampNeg) + 1))]), (upd (upd fw x.toNatClampNeg ((fw x.toNatClampNeg) - 1)) y.toNatClampNeg (((upd fw x.toNatClampNeg ((fw x.toNatClampNeg) - 1)) y.toNatClampNeg) + 1)), v3, v5, rfl, hw_35, rfl, (if_neg (fun q8 => by rcases h_25 with e9 | e9 | e9 | e9 <;> first | (exfalso; omega) | (exfalso; have ti9 := nI_toInt (n := i) (by omega); omega) | exact zBit_o q8.2.1 e9)).symm, (if_pos (by first | with_reducible assumption | assumption)).symm⟩)
      · have c_16n : ¬ x.toInt = y.toInt := fun q => c_16 ((fa_eq _ _).mpr q)
        refine lv_aload_n hx hb dX1_move_48 rfl (lv_at hl 0 rfl) ?_
        refine lv_dup hx hb dX1_move_49 rfl ?_
        refine z_get C G clX1 0 rfl 8 (by decide) m_fl_RX1_50 rfl dX1_move_50 ?_
        refine lv_iconst (v := 1) hx hb dX1_move_53 (by decide) ?_
        refine lv_iadd hx hb dX1_move_54 ?_
        refine z_put C G clX1 0 rfl 8 (by decide) m_fl_RX1_50 rfl rfl rfl (Nat.le_of_ble_eq_true rfl) dX1_move_55 (fun H locs G => ?_)
        have G : zS T A s.heap s [[zO1 h po a1_1 v0 la v1 v2 v3 v4 (v5 + 1) v6 v7], [zAr T 0 a1_1 7 (upd (upd fw x.toNatClampNeg ((fw x.toNatClampNeg) - 1)) y.toNatClampNeg (((upd fw x.toNatClampNeg ((fw x.toNatClampNeg) - 1)) y.toNatClampNeg) + 1))], z] _ _ := G
        refine lv_aload_n hx hb dX1_move_58 rfl (lv_at hl 0 rfl) ?_
        refine z_get C G clX1 0 rfl 6 (by decide) m_fl_RX1_44 rfl dX1_move_59 ?_
        refine lv_iconst (v := (-1)) hx hb dX1_move_62 (by decide) ?_
        refine lv_icmp_ne (tgt := 96) hx hb dX1_move_63 (by decide) (fun c_36 => ?_) (fun c_36 => ?_)
        · have c_36n : ¬ v3.toInt = (-1 : Int) := fun q => c_36 ((fa_eq _ _).mpr q)
          have hw_37 : bCourse T h po la (upd (upd fw x.toNatClampNeg ((fw x.toNatClampNeg) - 1)) y.toNatClampNeg (((upd fw x.toNatClampNeg ((fw x.toNatClampNeg) - 1)) y.toNatClampNeg) + 1)) v0 v1 v2 v3 v4 (v5 + 1) v6 v7 [zO1 h po a1_1 v0 la v1 v2 v3 v4 (v5 + 1) v6 v7, zAr T 0 a1_1 7 (upd (upd fw x.toNatClampNeg ((fw x.toNatClampNeg) - 1)) y.toNatClampNeg (((upd fw x.toNatClampNeg ((fw x.toNatClampNeg) - 1)) y.toNatClampNeg) + 1))] := ⟨a1_1, rfl⟩
          have G : zS T A s.heap s [[zO1 h po a1_1 v0 la v1 v2 v3 v4 (v5 + 1) v6 v7, zAr T 0 a1_1 7 (upd (upd fw x.toNatClampNeg ((fw x.toNatClampNeg) - 1)) y.toNatClampNeg (((upd fw x.toNatClampNeg ((fw x.toNatClampNeg) - 1)) y.toNatClampNeg) + 1))], z] _ _ := G.re rfl
          exact z_back hQz_ (z_vret C hr hlocks G (Nat.le_of_ble_eq_true rfl) (Nat.le_of_ble_eq_true rfl) dX1_move_96 ⟨([zO1 h po a1_1 v0 la v1 v2 v3 v4 (v5 + 1) v6 v7, zAr T 0 a1_1 7 (upd (upd fw x.toNatClampNeg ((fw x.toNatClampNeg) - 1)) y.toNatClampNeg (((upd fw x.toNatClampNeg ((fw x.toNatClampNeg) - 1)) y.toNatClampNeg) + 1))]), (upd (upd fw x.toNatClampNeg ((fw x.toNatClampNeg) - 1)) y.toNatClampNeg (((upd fw x.toNatClampNeg ((fw x.toNatClampNeg) - 1)) y.toNatClampNeg) + 1)), v3, (v5 + 1), rfl, hw_37, rfl, (if_neg (fun q8 => absurd q8.1 (by omega))).symm, (if_neg (by first | with_reducible assumption | assumption)).symm⟩)
        · have c_36n : v3.toInt = (-1 : Int) := (fa_eq _ _).mp c_36
          refine lv_aload_n hx hb dX1_move_66 rfl (lv_at hl 0 rfl) ?_
          refine z_get C G clX1 0 rfl 3 (by decide) m_fl_RX1_25 rfl dX1_move_67 ?_
          refine lv_iload_n hx hb dX1_move_70 rfl (lv_at hl 2 rfl) ?_
          refine z_Vi (bc := [z]) (br := [[zO1 h po a1_1 v0 la v1 v2 v3 v4 (v5 + 1) v6 v7], [zAr T 0 a1_1 7 (upd (upd fw x.toNatClampNeg ((fw x.toNatClampNeg) - 1)) y.toNatClampNeg (((upd fw x.toNatClampNeg ((fw x.toNatClampNeg) - 1)) y.toNatClampNeg) + 1))]]) (As := [.int y]) (rest := []) C G (c_isInn l T la cr inn k1 k2 k3 k4 z y hz) (kV_RX1_135 C.2.2.2.2 (Nat.le_of_ble_eq_true rfl) (Nat.le_of_ble_eq_true rfl)) [2] [2] rfl rfl (ci := 4) (qc := (RX4, TX4, 6)) rfl rfl (List.mem_flatten.mpr ⟨_, List.mem_of_getElem? (i := 0) rfl, (bLand_mem hz).choose_spec⟩) rfl rfl hl.1 dX1_move_71 (Nat.le_of_ble_eq_true rfl) (Nat.le_of_ble_eq_true rfl) (fun r_39 b1 H locs hw G => ?_)
          refine zAn2 hw ?_
          intro hbs9 hc_38
          clear hw
          subst hbs9
          have G : zS T A s.heap s [[zO1 h po a1_1 v0 la v1 v2 v3 v4 (v5 + 1) v6 v7], [zAr T 0 a1_1 7 (upd (upd fw x.toNatClampNeg ((fw x.toNatClampNeg) - 1)) y.toNatClampNeg (((upd fw x.toNatClampNeg ((fw x.toNatClampNeg) - 1)) y.toNatClampNeg) + 1))], z] _ _ := G
          rcases hc_38 with ⟨rfl, h_40, h_41, h_42, h_43⟩ | ⟨rfl, h_44⟩
          · have h_40 : 0 ≤ y.toInt := h_40
            have h_41 : y.toInt < cr.toInt := h_41
            have h_42 : y.toInt < 7 := h_42
            have h_43 : ¬ zBit inn y = 0 := h_43
            refine lv_if_eq (tgt := 96) hx hb dX1_move_74 (by decide) (fun q => absurd q (by decide)) (fun _ => ?_)
            refine lv_aload_n hx hb dX1_move_77 rfl (lv_at hl 0 rfl) ?_
            refine z_get C G clX1 0 rfl 3 (by decide) m_fl_RX1_25 rfl dX1_move_78 ?_
            refine lv_iload_n hx hb dX1_move_81 rfl (lv_at hl 1 rfl) ?_
            refine z_Vi (bc := [z]) (br := [[zO1 h po a1_1 v0 la v1 v2 v3 v4 (v5 + 1) v6 v7], [zAr T 0 a1_1 7 (upd (upd fw x.toNatClampNeg ((fw x.toNatClampNeg) - 1)) y.toNatClampNeg (((upd fw x.toNatClampNeg ((fw x.toNatClampNeg) - 1)) y.toNatClampNeg) + 1))]]) (As := [.int x]) (rest := []) C G (c_isInn l T la cr inn k1 k2 k3 k4 z x hz) (kV_RX1_135 C.2.2.2.2 (Nat.le_of_ble_eq_true rfl) (Nat.le_of_ble_eq_true rfl)) [2] [2] rfl rfl (ci := 4) (qc := (RX4, TX4, 6)) rfl rfl (List.mem_flatten.mpr ⟨_, List.mem_of_getElem? (i := 0) rfl, (bLand_mem hz).choose_spec⟩) rfl rfl hl.1 dX1_move_82 (Nat.le_of_ble_eq_true rfl) (Nat.le_of_ble_eq_true rfl) (fun r_46 b1 H locs hw G => ?_)
            refine zAn2 hw ?_
            intro hbs9 hc_45
            clear hw
            subst hbs9
            have G : zS T A s.heap s [[zO1 h po a1_1 v0 la v1 v2 v3 v4 (v5 + 1) v6 v7], [zAr T 0 a1_1 7 (upd (upd fw x.toNatClampNeg ((fw x.toNatClampNeg) - 1)) y.toNatClampNeg (((upd fw x.toNatClampNeg ((fw x.toNatClampNeg) - 1)) y.toNatClampNeg) + 1))], z] _ _ := G
            rcases hc_45 with ⟨rfl, h_47, h_48, h_49, h_50⟩ | ⟨rfl, h_51⟩
            · have h_47 : 0 ≤ x.toInt := h_47
              have h_48 : x.toInt < cr.toInt := h_48
              have h_49 : x.toInt < 7 := h_49
              have h_50 : ¬ zBit inn x = 0 := h_50
              refine lv_if_ne (tgt := 96) hx hb dX1_move_85 (by decide) (fun _ => ?_) (fun q => absurd q (by decide))
              have hw_52 : bCourse T h po la (upd (upd fw x.toNatClampNeg ((fw x.toNatClampNeg) - 1)) y.toNatClampNeg (((upd fw x.toNatClampNeg ((fw x.toNatClampNeg) - 1)) y.toNatClampNeg) + 1)) v0 v1 v2 v3 v4 (v5 + 1) v6 v7 [zO1 h po a1_1 v0 la v1 v2 v3 v4 (v5 + 1) v6 v7, zAr T 0 a1_1 7 (upd (upd fw x.toNatClampNeg ((fw x.toNatClampNeg) - 1)) y.toNatClampNeg (((upd fw x.toNatClampNeg ((fw x.toNatClampNeg) - 1)) y.toNatClampNeg) + 1))] := ⟨a1_1, rfl⟩
              have G : zS T A s.heap s [[zO1 h po a1_1 v0 la v1 v2 v3 v4 (v5 + 1) v6 v7, zAr T 0 a1_1 7 (upd (upd fw x.toNatClampNeg ((fw x.toNatClampNeg) - 1)) y.toNatClampNeg (((upd fw x.toNatClampNeg ((fw x.toNatClampNeg) - 1)) y.toNatClampNeg) + 1))], z] _ _ := G.re rfl
              exact z_back hQz_ (z_vret C hr hlocks G (Nat.le_of_ble_eq_true rfl) (Nat.le_of_ble_eq_true rfl) dX1_move_96 ⟨([zO1 h po a1_1 v0 la v1 v2 v3 v4 (v5 + 1) v6 v7, zAr T 0 a1_1 7 (upd (upd fw x.toNatClampNeg ((fw x.toNatClampNeg) - 1)) y.toNatClampNeg (((upd fw x.toNatClampNeg ((fw x.toNatClampNeg) - 1)) y.toNatClampNeg) + 1))]), (upd (upd fw x.toNatClampNeg ((fw x.toNatClampNeg) - 1)) y.toNatClampNeg (((upd fw x.toNatClampNeg ((fw x.toNatClampNeg) - 1)) y.toNatClampNeg) + 1)), v3, (v5 + 1), rfl, hw_52, rfl, (if_neg (fun q8 => q8.2.2 (zBit_p h_50))).symm, (if_neg (by first | with_reducible assumption | assumption)).symm⟩)
            · have h_51 : (x.toInt < 0 ∨ cr.toInt ≤ x.toInt ∨ 7 ≤ x.toInt ∨ zBit inn x = 0) := h_51
              refine lv_if_ne (tgt := 96) hx hb dX1_move_85 (by decide) (fun q => absurd (by decide) q) (fun _ => ?_)
              refine lv_aload_n hx hb dX1_move_88 rfl (lv_at hl 0 rfl) ?_
              refine lv_aload_n hx hb dX1_move_89 rfl (lv_at hl 0 rfl) ?_
              refine z_get C G clX1 0 rfl 5 (by decide) m_fl_RX1_41 rfl dX1_move_90 ?_
              refine z_put C G clX1 0 rfl 6 (by decide) m_fl_RX1_44 rfl rfl rfl (Nat.le_of_ble_eq_true rfl) dX1_move_93 (fun H locs G => ?_)
              have G : zS T A s.heap s [[zO1 h po a1_1 v0 la v1 v2 v2 v4 (v5 + 1) v6 v7], [zAr T 0 a1_1 7 (upd (upd fw x.toNatClampNeg ((fw x.toNatClampNeg) - 1)) y.toNatClampNeg (((upd fw x.toNatClampNeg ((fw x.toNatClampNeg) - 1)) y.toNatClampNeg) + 1))], z] _ _ := G
              have hw_53 : bCourse T h po la (upd (upd fw x.toNatClampNeg ((fw x.toNatClampNeg) - 1)) y.toNatClampNeg (((upd fw x.toNatClampNeg ((fw x.toNatClampNeg) - 1)) y.toNatClampNeg) + 1)) v0 v1 v2 v2 v4 (v5 + 1) v6 v7 [zO1 h po a1_1 v0 la v1 v2 v2 v4 (v5 + 1) v6 v7, zAr T 0 a1_1 7 (upd (upd fw x.toNatClampNeg ((fw x.toNatClampNeg) - 1)) y.toNatClampNeg (((upd fw x.toNatClampNeg ((fw x.toNatClampNeg) - 1)) y.toNatClampNeg) + 1))] := ⟨a1_1, rfl⟩
              have G : zS T A s.heap s [[zO1 h po a1_1 v0 la v1 v2 v2 v4 (v5 + 1) v6 v7, zAr T 0 a1_1 7 (upd (upd fw x.toNatClampNeg ((fw x.toNatClampNeg) - 1)) y.toNatClampNeg (((upd fw x.toNatClampNeg ((fw x.toNatClampNeg) - 1)) y.toNatClampNeg) + 1))], z] _ _ := G.re rfl
              exact z_back hQz_ (z_vret C hr hlocks G (Nat.le_of_ble_eq_true rfl) (Nat.le_of_ble_eq_true rfl) dX1_move_96 ⟨([zO1 h po a1_1 v0 la v1 v2 v2 v4 (v5 + 1) v6 v7, zAr T 0 a1_1 7 (upd (upd fw x.toNatClampNeg ((fw x.toNatClampNeg) - 1)) y.toNatClampNeg (((upd fw x.toNatClampNeg ((fw x.toNatClampNeg) - 1)) y.toNatClampNeg) + 1))]), (upd (upd fw x.toNatClampNeg ((fw x.toNatClampNeg) - 1)) y.toNatClampNeg (((upd fw x.toNatClampNeg ((fw x.toNatClampNeg) - 1)) y.toNatClampNeg) + 1)), v2, (v5 + 1), rfl, hw_53, rfl, (if_pos ⟨by omega, zBit_p h_43, fun q8 => by rcases h_51 with e9 | e9 | e9 | e9 <;> first | (exfalso; omega) | (exfalso; have ti9 := nI_toInt (n := i) (by omega); omega) | exact zBit_o q8 e9⟩).symm, (if_neg (by first | with_reducible assumption | assumption)).symm⟩)
          · have h_44 : (y.toInt < 0 ∨ cr.toInt ≤ y.toInt ∨ 7 ≤ y.toInt ∨ zBit inn y = 0) := h_44
            refine lv_if_eq (tgt := 96) hx hb dX1_move_74 (by decide) (fun _ => ?_) (fun q => absurd (by decide) q)
            have hw_54 : bCourse T h po la (upd (upd fw x.toNatClampNeg ((fw x.toNatClampNeg) - 1)) y.toNatClampNeg (((upd fw x.toNatClampNeg ((fw x.toNatClampNeg) - 1)) y.toNatClampNeg) + 1)) v0 v1 v2 v3 v4 (v5 + 1) v6 v7 [zO1 h po a1_1 v0 la v1 v2 v3 v4 (v5 + 1) v6 v7, zAr T 0 a1_1 7 (upd (upd fw x.toNatClampNeg ((fw x.toNatClampNeg) - 1)) y.toNatClampNeg (((upd fw x.toNatClampNeg ((fw x.toNatClampNeg) - 1)) y.toNatClampNeg) + 1))] := ⟨a1_1, rfl⟩
            have G : zS T A s.heap s [[zO1 h po a1_1 v0 la v1 v2 v3 v4 (v5 + 1) v6 v7, zAr T 0 a1_1 7 (upd (upd fw x.toNatClampNeg ((fw x.toNatClampNeg) - 1)) y.toNatClampNeg (((upd fw x.toNatClampNeg ((fw x.toNatClampNeg) - 1)) y.toNatClampNeg) + 1))], z] _ _ := G.re rfl
            exact z_back hQz_ (z_vret C hr hlocks G (Nat.le_of_ble_eq_true rfl) (Nat.le_of_ble_eq_true rfl) dX1_move_96 ⟨([zO1 h po a1_1 v0 la v1 v2 v3 v4 (v5 + 1) v6 v7, zAr T 0 a1_1 7 (upd (upd fw x.toNatClampNeg ((fw x.toNatClampNeg) - 1)) y.toNatClampNeg (((upd fw x.toNatClampNeg ((fw x.toNatClampNeg) - 1)) y.toNatClampNeg) + 1))]), (upd (upd fw x.toNatClampNeg ((fw x.toNatClampNeg) - 1)) y.toNatClampNeg (((upd fw x.toNatClampNeg ((fw x.toNatClampNeg) - 1)) y.toNatClampNeg) + 1)), v3, (v5 + 1), rfl, hw_54, rfl, (if_neg (fun q8 => by rcases h_44 with e9 | e9 | e9 | e9 <;> first | (exfalso; omega) | (exfalso; have ti9 := nI_toInt (n := i) (by omega); omega) | exact zBit_o q8.2.1 e9)).symm, (if_neg (by first | with_reducible assumption | assumption)).symm⟩)
    · have h_13 : (y.toInt < 0 ∨ cr.toInt ≤ y.toInt ∨ 7 ≤ y.toInt) := h_13
      refine lv_if_ne (tgt := 23) hx hb dX1_move_19 (by decide) (fun q => absurd (by decide) q) (fun _ => ?_)
      have hw_55 : bCourse T h po la fw v0 v1 v2 v3 v4 v5 v6 v7 [zO1 h po a1_1 v0 la v1 v2 v3 v4 v5 v6 v7, zAr T 0 a1_1 7 fw] := ⟨a1_1, rfl⟩
      have G : zS T A s.heap s [[zO1 h po a1_1 v0 la v1 v2 v3 v4 v5 v6 v7, zAr T 0 a1_1 7 fw], z] _ _ := G.re rfl
      exact z_back hQz_ (z_vret C hr hlocks G (Nat.le_of_ble_eq_true rfl) (Nat.le_of_ble_eq_true rfl) dX1_move_22 ⟨([zO1 h po a1_1 v0 la v1 v2 v3 v4 v5 v6 v7, zAr T 0 a1_1 7 fw]), fw, v3, v5, rfl, hw_55, (by exfalso; omega), (by exfalso; omega), (by exfalso; omega)⟩)
  · have h_7 : (x.toInt < 0 ∨ cr.toInt ≤ x.toInt ∨ 7 ≤ x.toInt) := h_7
    refine lv_if_eq (tgt := 22) hx hb dX1_move_8 (by decide) (fun _ => ?_) (fun q => absurd (by decide) q)
    have hw_56 : bCourse T h po la fw v0 v1 v2 v3 v4 v5 v6 v7 [zO1 h po a1_1 v0 la v1 v2 v3 v4 v5 v6 v7, zAr T 0 a1_1 7 fw] := ⟨a1_1, rfl⟩
    have G : zS T A s.heap s [[zO1 h po a1_1 v0 la v1 v2 v3 v4 v5 v6 v7, zAr T 0 a1_1 7 fw], z] _ _ := G.re rfl
    exact z_back hQz_ (z_vret C hr hlocks G (Nat.le_of_ble_eq_true rfl) (Nat.le_of_ble_eq_true rfl) dX1_move_22 ⟨([zO1 h po a1_1 v0 la v1 v2 v3 v4 v5 v6 v7, zAr T 0 a1_1 7 fw]), fw, v3, v5, rfl, hw_56, (by exfalso; omega), (by exfalso; omega), (by exfalso; omega)⟩)
set_option maxHeartbeats 4000000 in
set_option maxRecDepth 100000 in
/-- c_x_lookAtCrowd -/
theorem c_x_lookAtCrowd (l : Launch) (T : zTy) (h : Nat) (po : Nat) (la : Nat) (fw : Nat → Int32) (v0 : Int32) (v1 : Int32) (v2 : Int32) (v3 : Int32) (v4 : Int32) (v5 : Int32) (v6 : Int32) (v7 : Int32) (wc : va_W) (cr : Int32) (inn : Int32) (k1 : Nat → Int32) (k2 : Nat → Int32) (k3 : Nat → Int32) (k4 : Nat → Int32) (z : va_W) (hc : bCourse T h po la fw v0 v1 v2 v3 v4 v5 v6 v7 wc) (hz : bLand T la cr inn k1 k2 k3 k4 z) (hI : zLI cr k1 k3) : zMv l T yX1_lookAtCrowd cX1_lookAtCrowd 2 3 0 0 [.ref h] [wc, z] (fun bs => ∃ (wc2 : va_W) (u6 : Int32), bs = [wc2, z] ∧ bCourse T h po la fw v0 v1 v2 v3 v4 v5 u6 v7 wc2 ∧ u6 = zCw inn fw v6 cr.toInt.toNat) := by
  refine zMv_of (own := RX1) (by decide) rfl (Nat.le_of_ble_eq_true rfl) ?_
  intro p e s m args below meth c A ls C hr hlocks hnm hAe G hl
  refine zHide (fun Qz_ hQz_ => ?_)
  have hx := C.1
  have hb := C.2.1
  have hl : lv_has ls 2 [(0, .ref h)] := hl
  have hcr := hI.1
  refine lv_iconst (v := 0) hx hb dX1_lookAtCrowd_0 (by decide) ?_
  refine lv_istore_n (lv' := [(1, .int 0), (0, .ref h)]) hx hb dX1_lookAtCrowd_1 rfl hl (by decide) (zLvf_h rfl) (fun ls hl => ?_)
  refine zEx1 hc ?_
  intro a1_1 hbs9
  clear hc
  subst hbs9
  have G : zS T A s.heap s [[zO1 h po a1_1 v0 la v1 v2 v3 v4 v5 v6 v7], [zAr T 0 a1_1 7 fw], z] _ _ := G.re rfl
  refine zEx4 hz ?_
  intro a1_2 a2_3 a3_4 a4_5 hbs9
  clear hz
  subst hbs9
  have G : zS T A s.heap s [[zO1 h po a1_1 v0 la v1 v2 v3 v4 v5 v6 v7], [zAr T 0 a1_1 7 fw], [zO4 la cr inn a1_2 a2_3 a3_4 a4_5], [zAr T 0 a1_2 7 k1], [zAr T 0 a2_3 28 k2], [zAr T 0 a3_4 7 k3], [zAr T 0 a4_5 7 k4]] _ _ := G.re rfl
  have hw_6 : bCourse T h po la fw v0 v1 v2 v3 v4 v5 v6 v7 [zO1 h po a1_1 v0 la v1 v2 v3 v4 v5 v6 v7, zAr T 0 a1_1 7 fw] := ⟨a1_1, rfl⟩
  have G : zS T A s.heap s [[zO1 h po a1_1 v0 la v1 v2 v3 v4 v5 v6 v7, zAr T 0 a1_1 7 fw], [zO4 la cr inn a1_2 a2_3 a3_4 a4_5], [zAr T 0 a1_2 7 k1], [zAr T 0 a2_3 28 k2], [zAr T 0 a3_4 7 k3], [zAr T 0 a4_5 7 k4]] _ _ := G.re rfl
  have hw_7 : bLand T la cr inn k1 k2 k3 k4 [zO4 la cr inn a1_2 a2_3 a3_4 a4_5, zAr T 0 a1_2 7 k1, zAr T 0 a2_3 28 k2, zAr T 0 a3_4 7 k3, zAr T 0 a4_5 7 k4] := ⟨a1_2, a2_3, a3_4, a4_5, rfl⟩
  have G : zS T A s.heap s [[zO1 h po a1_1 v0 la v1 v2 v3 v4 v5 v6 v7, zAr T 0 a1_1 7 fw], [zO4 la cr inn a1_2 a2_3 a3_4 a4_5, zAr T 0 a1_2 7 k1, zAr T 0 a2_3 28 k2, zAr T 0 a3_4 7 k3, zAr T 0 a4_5 7 k4]] _ _ := G.re rfl
  refine z_lp3 (T := T) 2 (fun (i : Nat) (wc3 : va_W) (y6 : Int32) => [wc3, [zO4 la cr inn a1_2 a2_3 a3_4 a4_5, zAr T 0 a1_2 7 k1, zAr T 0 a2_3 28 k2, zAr T 0 a3_4 7 k3, zAr T 0 a4_5 7 k4]]) (fun (i : Nat) (wc3 : va_W) (y6 : Int32) => [(1, .int (nI i)), (0, .ref h)]) (fun (i : Nat) (wc3 : va_W) (y6 : Int32) => bCourse T h po la fw v0 v1 v2 v3 v4 v5 y6 v7 wc3 ∧ i ≤ cr.toInt.toNat ∧ i ≤ 7 ∧ y6 = zCw inn fw v6 i) (fun (i : Nat) (wc3 : va_W) (y6 : Int32) => 7 - i) ?_ 0 ([zO1 h po a1_1 v0 la v1 v2 v3 v4 v5 v6 v7, zAr T 0 a1_1 7 fw]) v6 (show bCourse T h po la fw v0 v1 v2 v3 v4 v5 v6 v7 ([zO1 h po a1_1 v0 la v1 v2 v3 v4 v5 v6 v7, zAr T 0 a1_1 7 fw]) ∧ 0 ≤ cr.toInt.toNat ∧ 0 ≤ 7 ∧ v6 = zCw inn fw v6 0 from ⟨hw_6, by omega, by omega, rfl⟩) G (lv_sub hl [0, 1] rfl)
  intro i wc3 y6 hI9 ih_2 H locs ls G hl
  replace hI9 : bCourse T h po la fw v0 v1 v2 v3 v4 v5 y6 v7 wc3 ∧ i ≤ cr.toInt.toNat ∧ i ≤ 7 ∧ y6 = zCw inn fw v6 i := hI9
  refine zAn4 hI9 ?_
  intro hc3 hi hi7 hU
  clear hI9
  replace G : zS T A s.heap s [wc3, [zO4 la cr inn a1_2 a2_3 a3_4 a4_5, zAr T 0 a1_2 7 k1, zAr T 0 a2_3 28 k2, zAr T 0 a3_4 7 k3, zAr T 0 a4_5 7 k4]] _ _ := G
  replace hl : lv_has ls 2 [(1, .int (nI i)), (0, .ref h)] := hl
  refine lv_iload_n hx hb dX1_lookAtCrowd_2 rfl (lv_at hl 0 rfl) ?_
  refine lv_aload_n hx hb dX1_lookAtCrowd_3 rfl (lv_at hl 1 rfl) ?_
  refine zEx1 hc3 ?_
  intro a1_8 hbs9
  clear hc3
  subst hbs9
  have G : zS T A s.heap s [[zO1 h po a1_8 v0 la v1 v2 v3 v4 v5 y6 v7], [zAr T 0 a1_8 7 fw], [zO4 la cr inn a1_2 a2_3 a3_4 a4_5, zAr T 0 a1_2 7 k1, zAr T 0 a2_3 28 k2, zAr T 0 a3_4 7 k3, zAr T 0 a4_5 7 k4]] _ _ := G.re rfl
  refine z_get C G clX1 0 rfl 3 (by decide) m_fl_RX1_25 rfl dX1_lookAtCrowd_4 ?_
  have G : zS T A s.heap s [[zO1 h po a1_8 v0 la v1 v2 v3 v4 v5 y6 v7], [zAr T 0 a1_8 7 fw], [zO4 la cr inn a1_2 a2_3 a3_4 a4_5], [zAr T 0 a1_2 7 k1], [zAr T 0 a2_3 28 k2], [zAr T 0 a3_4 7 k3], [zAr T 0 a4_5 7 k4]] _ _ := G.re rfl
  refine z_get C G clX4 2 rfl 0 (by decide) m_fl_RX1_88 rfl dX1_lookAtCrowd_7 ?_
  refine lv_icmp_ge (tgt := 53) hx hb dX1_lookAtCrowd_10 (by decide) (fun c_9 => ?_) (fun c_9 => ?_)
  · have c_9n : cr.toInt ≤ (i : Int) := by have q := (fa_le _ _).mp c_9; rw [nI_toInt (n := i) (by omega)] at q; exact q
    have hw_10 : bCourse T h po la fw v0 v1 v2 v3 v4 v5 y6 v7 [zO1 h po a1_8 v0 la v1 v2 v3 v4 v5 y6 v7, zAr T 0 a1_8 7 fw] := ⟨a1_8, rfl⟩
    have G : zS T A s.heap s [[zO1 h po a1_8 v0 la v1 v2 v3 v4 v5 y6 v7, zAr T 0 a1_8 7 fw], [zO4 la cr inn a1_2 a2_3 a3_4 a4_5], [zAr T 0 a1_2 7 k1], [zAr T 0 a2_3 28 k2], [zAr T 0 a3_4 7 k3], [zAr T 0 a4_5 7 k4]] _ _ := G.re rfl
    have hw_11 : bLand T la cr inn k1 k2 k3 k4 [zO4 la cr inn a1_2 a2_3 a3_4 a4_5, zAr T 0 a1_2 7 k1, zAr T 0 a2_3 28 k2, zAr T 0 a3_4 7 k3, zAr T 0 a4_5 7 k4] := ⟨a1_2, a2_3, a3_4, a4_5, rfl⟩
    have G : zS T A s.heap s [[zO1 h po a1_8 v0 la v1 v2 v3 v4 v5 y6 v7, zAr T 0 a1_8 7 fw], [zO4 la cr inn a1_2 a2_3 a3_4 a4_5, zAr T 0 a1_2 7 k1, zAr T 0 a2_3 28 k2, zAr T 0 a3_4 7 k3, zAr T 0 a4_5 7 k4]] _ _ := G.re rfl
    exact z_back hQz_ (z_vret C hr hlocks G (Nat.le_of_ble_eq_true rfl) (Nat.le_of_ble_eq_true rfl) dX1_lookAtCrowd_53 ⟨([zO1 h po a1_8 v0 la v1 v2 v3 v4 v5 y6 v7, zAr T 0 a1_8 7 fw]), y6, rfl, hw_10, (by rw [hU, show i = cr.toInt.toNat by omega])⟩)
  · have c_9n : ¬ cr.toInt ≤ (i : Int) := fun q => c_9 ((fa_le _ _).mpr (by rw [nI_toInt (n := i) (by omega)]; exact q))
    refine lv_iload_n hx hb dX1_lookAtCrowd_13 rfl (lv_at hl 0 rfl) ?_
    refine lv_bipush (v := 7) hx hb dX1_lookAtCrowd_14 (by decide) ?_
    refine lv_icmp_ge (tgt := 53) hx hb dX1_lookAtCrowd_16 (by decide) (fun c_12 => ?_) (fun c_12 => ?_)
    · have c_12n : 7 ≤ i := (nI_leI (a := 7) (b := i) (by omega) (by omega)).mp c_12
      have hw_13 : bCourse T h po la fw v0 v1 v2 v3 v4 v5 y6 v7 [zO1 h po a1_8 v0 la v1 v2 v3 v4 v5 y6 v7, zAr T 0 a1_8 7 fw] := ⟨a1_8, rfl⟩
      have G : zS T A s.heap s [[zO1 h po a1_8 v0 la v1 v2 v3 v4 v5 y6 v7, zAr T 0 a1_8 7 fw], [zO4 la cr inn a1_2 a2_3 a3_4 a4_5], [zAr T 0 a1_2 7 k1], [zAr T 0 a2_3 28 k2], [zAr T 0 a3_4 7 k3], [zAr T 0 a4_5 7 k4]] _ _ := G.re rfl
      have hw_14 : bLand T la cr inn k1 k2 k3 k4 [zO4 la cr inn a1_2 a2_3 a3_4 a4_5, zAr T 0 a1_2 7 k1, zAr T 0 a2_3 28 k2, zAr T 0 a3_4 7 k3, zAr T 0 a4_5 7 k4] := ⟨a1_2, a2_3, a3_4, a4_5, rfl⟩
      have G : zS T A s.heap s [[zO1 h po a1_8 v0 la v1 v2 v3 v4 v5 y6 v7, zAr T 0 a1_8 7 fw], [zO4 la cr inn a1_2 a2_3 a3_4 a4_5, zAr T 0 a1_2 7 k1, zAr T 0 a2_3 28 k2, zAr T 0 a3_4 7 k3, zAr T 0 a4_5 7 k4]] _ _ := G.re rfl
      exact z_back hQz_ (z_vret C hr hlocks G (Nat.le_of_ble_eq_true rfl) (Nat.le_of_ble_eq_true rfl) dX1_lookAtCrowd_53 ⟨([zO1 h po a1_8 v0 la v1 v2 v3 v4 v5 y6 v7, zAr T 0 a1_8 7 fw]), y6, rfl, hw_13, (by rw [hU, show i = cr.toInt.toNat by omega])⟩)
    · have c_12n : ¬ 7 ≤ i := fun q => c_12 ((nI_leI (a := 7) (b := i) (by omega) (by omega)).mpr q)
      refine lv_aload_n hx hb dX1_lookAtCrowd_19 rfl (lv_at hl 1 rfl) ?_
      refine z_get C G clX1 0 rfl 3 (by decide) m_fl_RX1_25 rfl dX1_lookAtCrowd_20 ?_
      refine lv_iload_n hx hb dX1_lookAtCrowd_23 rfl (lv_at hl 0 rfl) ?_
      have hw_15 : bLand T la cr inn k1 k2 k3 k4 [zO4 la cr inn a1_2 a2_3 a3_4 a4_5, zAr T 0 a1_2 7 k1, zAr T 0 a2_3 28 k2, zAr T 0 a3_4 7 k3, zAr T 0 a4_5 7 k4] := ⟨a1_2, a2_3, a3_4, a4_5, rfl⟩
      have G : zS T A s.heap s [[zO1 h po a1_8 v0 la v1 v2 v3 v4 v5 y6 v7], [zAr T 0 a1_8 7 fw], [zO4 la cr inn a1_2 a2_3 a3_4 a4_5, zAr T 0 a1_2 7 k1, zAr T 0 a2_3 28 k2, zAr T 0 a3_4 7 k3, zAr T 0 a4_5 7 k4]] _ _ := G.re rfl
      refine z_Vi (bc := [[zO4 la cr inn a1_2 a2_3 a3_4 a4_5, zAr T 0 a1_2 7 k1, zAr T 0 a2_3 28 k2, zAr T 0 a3_4 7 k3, zAr T 0 a4_5 7 k4]]) (br := [[zO1 h po a1_8 v0 la v1 v2 v3 v4 v5 y6 v7], [zAr T 0 a1_8 7 fw]]) (As := [.int (nI i)]) (rest := []) C G (c_isInn l T la cr inn k1 k2 k3 k4 ([zO4 la cr inn a1_2 a2_3 a3_4 a4_5, zAr T 0 a1_2 7 k1, zAr T 0 a2_3 28 k2, zAr T 0 a3_4 7 k3, zAr T 0 a4_5 7 k4]) (nI i) hw_15) (kV_RX1_135 C.2.2.2.2 (Nat.le_of_ble_eq_true rfl) (Nat.le_of_ble_eq_true rfl)) [2] [2] rfl rfl (ci := 4) (qc := (RX4, TX4, 6)) rfl rfl (List.mem_flatten.mpr ⟨_, List.mem_of_getElem? (i := 0) rfl, (bLand_mem hw_15).choose_spec⟩) rfl rfl hl.1 dX1_lookAtCrowd_24 (Nat.le_of_ble_eq_true rfl) (Nat.le_of_ble_eq_true rfl) (fun r_17 b1 H locs hw G => ?_)
      refine zAn2 hw ?_
      intro hbs9 hc_16
      clear hw
      subst hbs9
      have G : zS T A s.heap s [[zO1 h po a1_8 v0 la v1 v2 v3 v4 v5 y6 v7], [zAr T 0 a1_8 7 fw], [zO4 la cr inn a1_2 a2_3 a3_4 a4_5, zAr T 0 a1_2 7 k1, zAr T 0 a2_3 28 k2, zAr T 0 a3_4 7 k3, zAr T 0 a4_5 7 k4]] _ _ := G
      rcases hc_16 with ⟨rfl, h_18, h_19, h_20, h_21⟩ | ⟨rfl, h_22⟩
      · have h_18 : 0 ≤ (nI i).toInt := h_18
        have h_19 : (nI i).toInt < cr.toInt := h_19
        have h_20 : (nI i).toInt < 7 := h_20
        have h_21 : ¬ zBit inn (nI i) = 0 := h_21
        refine lv_if_ne (tgt := 47) hx hb dX1_lookAtCrowd_27 (by decide) (fun _ => ?_) (fun q => absurd q (by decide))
        refine lv_iinc (v := nI (i + 1)) (lv' := [(1, .int (nI (i + 1))), (0, .ref h)]) hx hb dX1_lookAtCrowd_47 hl (k := 0) rfl (z_inc i 1) (by decide) (zLvf_h rfl) (fun ls hl => ?_)
        refine lv_goto (tgt := 2) hx hb dX1_lookAtCrowd_50 (by decide) ?_
        have hw_23 : bCourse T h po la fw v0 v1 v2 v3 v4 v5 y6 v7 [zO1 h po a1_8 v0 la v1 v2 v3 v4 v5 y6 v7, zAr T 0 a1_8 7 fw] := ⟨a1_8, rfl⟩
        have G : zS T A s.heap s [[zO1 h po a1_8 v0 la v1 v2 v3 v4 v5 y6 v7, zAr T 0 a1_8 7 fw], [zO4 la cr inn a1_2 a2_3 a3_4 a4_5, zAr T 0 a1_2 7 k1, zAr T 0 a2_3 28 k2, zAr T 0 a3_4 7 k3, zAr T 0 a4_5 7 k4]] _ _ := G.re rfl
        exact ih_2 (i + 1) ([zO1 h po a1_8 v0 la v1 v2 v3 v4 v5 y6 v7, zAr T 0 a1_8 7 fw]) y6 (show bCourse T h po la fw v0 v1 v2 v3 v4 v5 y6 v7 ([zO1 h po a1_8 v0 la v1 v2 v3 v4 v5 y6 v7, zAr T 0 a1_8 7 fw]) ∧ (i + 1) ≤ cr.toInt.toNat ∧ (i + 1) ≤ 7 ∧ y6 = zCw inn fw v6 (i + 1) from ⟨hw_23, by omega, by omega, (zCw_i hU (zBit_p h_21))⟩) (show 7 - (i + 1) < 7 - i from by omega) _ _ ls G (lv_sub hl [0, 1] rfl)
      · have h_22 : ((nI i).toInt < 0 ∨ cr.toInt ≤ (nI i).toInt ∨ 7 ≤ (nI i).toInt ∨ zBit inn (nI i) = 0) := h_22
        refine lv_if_ne (tgt := 47) hx hb dX1_lookAtCrowd_27 (by decide) (fun q => absurd (by decide) q) (fun _ => ?_)
        refine lv_aload_n hx hb dX1_lookAtCrowd_30 rfl (lv_at hl 1 rfl) ?_
        refine lv_aload_n hx hb dX1_lookAtCrowd_31 rfl (lv_at hl 1 rfl) ?_
        refine z_get C G clX1 0 rfl 9 (by decide) m_fl_RX1_53 rfl dX1_lookAtCrowd_32 ?_
        refine lv_aload_n hx hb dX1_lookAtCrowd_35 rfl (lv_at hl 1 rfl) ?_
        refine z_get C G clX1 0 rfl 1 (by decide) m_fl_RX1_18 rfl dX1_lookAtCrowd_36 ?_
        refine lv_iload_n hx hb dX1_lookAtCrowd_39 rfl (lv_at hl 0 rfl) ?_
        refine z_ild C G 1 rfl (vp_in_nI (by omega) (by decide)) dX1_lookAtCrowd_40 ?_
        refine lv_topi (fun v_24 ev_24 => ?_)
        rw [nI_clamp (by omega)] at ev_24
        subst ev_24
        refine va_mmax hx hb (C.2.2.1.trans hl.1.symm) C.2.2.2.1 (C.2.2.2.2 _ m_ml_RX1_126) (C.2.2.2.2 _ m_st_math_max) (C.2.2.2.2 _ m_ii_math) (C.2.2.2.2 _ m_co_math_max) (Nat.le_of_ble_eq_true rfl) (Nat.le_of_ble_eq_true rfl) (Nat.le_of_ble_eq_true rfl) (Nat.le_of_ble_eq_true rfl) dX1_lookAtCrowd_41 ?_
        refine lv_topi (fun v_25 ev_25 => ?_)
        subst ev_25
        refine z_put C G clX1 0 rfl 9 (by decide) m_fl_RX1_53 rfl rfl rfl (Nat.le_of_ble_eq_true rfl) dX1_lookAtCrowd_44 (fun H locs G => ?_)
        have G : zS T A s.heap s [[zO1 h po a1_8 v0 la v1 v2 v3 v4 v5 (if y6 < (fw i) then (fw i) else y6) v7], [zAr T 0 a1_8 7 fw], [zO4 la cr inn a1_2 a2_3 a3_4 a4_5, zAr T 0 a1_2 7 k1, zAr T 0 a2_3 28 k2, zAr T 0 a3_4 7 k3, zAr T 0 a4_5 7 k4]] _ _ := G
        refine lv_iinc (v := nI (i + 1)) (lv' := [(1, .int (nI (i + 1))), (0, .ref h)]) hx hb dX1_lookAtCrowd_47 hl (k := 0) rfl (z_inc i 1) (by decide) (zLvf_h rfl) (fun ls hl => ?_)
        refine lv_goto (tgt := 2) hx hb dX1_lookAtCrowd_50 (by decide) ?_
        have hw_26 : bCourse T h po la fw v0 v1 v2 v3 v4 v5 (if y6 < (fw i) then (fw i) else y6) v7 [zO1 h po a1_8 v0 la v1 v2 v3 v4 v5 (if y6 < (fw i) then (fw i) else y6) v7, zAr T 0 a1_8 7 fw] := ⟨a1_8, rfl⟩
        have G : zS T A s.heap s [[zO1 h po a1_8 v0 la v1 v2 v3 v4 v5 (if y6 < (fw i) then (fw i) else y6) v7, zAr T 0 a1_8 7 fw], [zO4 la cr inn a1_2 a2_3 a3_4 a4_5, zAr T 0 a1_2 7 k1, zAr T 0 a2_3 28 k2, zAr T 0 a3_4 7 k3, zAr T 0 a4_5 7 k4]] _ _ := G.re rfl
        exact ih_2 (i + 1) ([zO1 h po a1_8 v0 la v1 v2 v3 v4 v5 (if y6 < (fw i) then (fw i) else y6) v7, zAr T 0 a1_8 7 fw]) (if y6 < (fw i) then (fw i) else y6) (show bCourse T h po la fw v0 v1 v2 v3 v4 v5 (if y6 < (fw i) then (fw i) else y6) v7 ([zO1 h po a1_8 v0 la v1 v2 v3 v4 v5 (if y6 < (fw i) then (fw i) else y6) v7, zAr T 0 a1_8 7 fw]) ∧ (i + 1) ≤ cr.toInt.toNat ∧ (i + 1) ≤ 7 ∧ (if y6 < (fw i) then (fw i) else y6) = zCw inn fw v6 (i + 1) from ⟨hw_26, by omega, by omega, (zCw_n hU (fun q8 => by rcases h_22 with e9 | e9 | e9 | e9 <;> first | (exfalso; omega) | (exfalso; have ti9 := nI_toInt (n := i) (by omega); omega) | exact zBit_o q8 e9))⟩) (show 7 - (i + 1) < 7 - i from by omega) _ _ ls G (lv_sub hl [0, 1] rfl)
set_option maxHeartbeats 4000000 in
set_option maxRecDepth 100000 in
/-- c_x_go -/
theorem c_x_go (l : Launch) (T : zTy) (h : Nat) (po : Nat) (la : Nat) (fw : Nat → Int32) (v0 : Int32) (v1 : Int32) (v2 : Int32) (v3 : Int32) (v4 : Int32) (v5 : Int32) (v6 : Int32) (v7 : Int32) (wc : va_W) (f1 : Nat → Int32) (f2 : Nat → Int32) (f3 : Nat → Int32) (st : Int32) (wh : Int32) (wp : va_W) (cr : Int32) (inn : Int32) (k1 : Nat → Int32) (k2 : Nat → Int32) (k3 : Nat → Int32) (k4 : Nat → Int32) (z : va_W) (x : Int32) (hc : bCourse T h po la fw v0 v1 v2 v3 v4 v5 v6 v7 wc) (hp : bPosts T po la f1 f2 f3 st wh wp) (hz : bLand T la cr inn k1 k2 k3 k4 z) (hP : zP3 f1 f3) (hI : zLI cr k1 k3) (hW : ∀ j, j < 7 → f3 j = zWays cr inn k1 (nI j)) (hLq : zLq cr k1 k2) : zMi l T yX1_go cX1_go 3 (some .boolean) 4 0 0 [.ref h, .int x] [wc, wp, z] (fun (r : Int32) bs => ∃ (wc2 : va_W) (gw : Nat → Int32) (u0 : Int32) (u1 : Int32) (u2 : Int32) (u3 : Int32) (u4 : Int32) (u5 : Int32) (u6 : Int32) (u7 : Int32) (wp2 : va_W) (g1 : Nat → Int32) (g2 : Nat → Int32) (sa : Int32) (wa : Int32), bs = [wc2, wp2, z] ∧ bCourse T h po la gw u0 u1 u2 u3 u4 u5 u6 u7 wc2 ∧ bPosts T po la g1 g2 f3 sa wa wp2 ∧ zP3 g1 f3 ∧ (r = 1 ∧ zGoF cr f3 k2 x (f1, f2, fw, v0, v1) = some (g1, g2, gw, u0, u1) ∨ r = 0 ∧ zGoF cr f3 k2 x (f1, f2, fw, v0, v1) = none ∧ g1 = f1 ∧ g2 = f2 ∧ gw = fw ∧ u0 = v0 ∧ u1 = v1) ∧ (u2 = v2 ∧ u7 = v7) ∧ (r = 1 → u3 = zXf inn v3 v2 x (zStep f1 f2 f3 k2 x) ∧ u4 = v4 ∧ u5 = zXm v5 x (zStep f1 f2 f3 k2 x) ∧ u6 = v6) ∧ (r = 0 → u3 = v3 ∧ u4 = v4 ∧ u5 = v5 ∧ u6 = v6)) := by
  refine zMi_of (own := RX1) (by decide) rfl (Nat.le_of_ble_eq_true rfl) ?_
  intro p e s m args below meth c A ls C hr hlocks hnm hAe G hl
  refine zHide (fun Qz_ hQz_ => ?_)
  have hx := C.1
  have hb := C.2.1
  have hl : lv_has ls 3 [(0, .ref h), (1, .int x)] := hl
  have h7 := hI.1.2
  have hWr := zWays_r hI hW
  have hLb := zLq_b (inn := inn) hWr hLq
  refine lv_aload_n hx hb dX1_go_0 rfl (lv_at hl 0 rfl) ?_
  refine zEx1 hc ?_
  intro a1_1 hbs9
  clear hc
  subst hbs9
  have G : zS T A s.heap s [[zO1 h po a1_1 v0 la v1 v2 v3 v4 v5 v6 v7], [zAr T 0 a1_1 7 fw], wp, z] _ _ := G.re rfl
  refine z_get C G clX1 0 rfl 3 (by decide) m_fl_RX1_25 rfl dX1_go_1 ?_
  refine lv_iload_n hx hb dX1_go_4 rfl (lv_at hl 1 rfl) ?_
  refine z_Vi (bc := [z]) (br := [[zO1 h po a1_1 v0 la v1 v2 v3 v4 v5 v6 v7], [zAr T 0 a1_1 7 fw], wp]) (As := [.int x]) (rest := []) C G (c_has l T la cr inn k1 k2 k3 k4 z x hz) (kV_RX1_112 C.2.2.2.2 (Nat.le_of_ble_eq_true rfl) (Nat.le_of_ble_eq_true rfl)) [3] [3] rfl rfl (ci := 4) (qc := (RX4, TX4, 6)) rfl rfl (List.mem_flatten.mpr ⟨_, List.mem_of_getElem? (i := 0) rfl, (bLand_mem hz).choose_spec⟩) rfl rfl hl.1 dX1_go_5 (Nat.le_of_ble_eq_true rfl) (Nat.le_of_ble_eq_true rfl) (fun r_3 b1 H locs hw G => ?_)
  refine zAn2 hw ?_
  intro hbs9 hc_2
  clear hw
  subst hbs9
  have G : zS T A s.heap s [[zO1 h po a1_1 v0 la v1 v2 v3 v4 v5 v6 v7], [zAr T 0 a1_1 7 fw], wp, z] _ _ := G
  rcases hc_2 with ⟨rfl, h_4, h_5, h_6⟩ | ⟨rfl, h_7⟩
  · have h_4 : 0 ≤ x.toInt := h_4
    have h_5 : x.toInt < cr.toInt := h_5
    have h_6 : x.toInt < 7 := h_6
    refine lv_if_eq (tgt := 21) hx hb dX1_go_8 (by decide) (fun q => absurd q (by decide)) (fun _ => ?_)
    refine lv_aload_n hx hb dX1_go_11 rfl (lv_at hl 0 rfl) ?_
    refine z_get C G clX1 0 rfl 1 (by decide) m_fl_RX1_18 rfl dX1_go_12 ?_
    refine lv_iload_n hx hb dX1_go_15 rfl (lv_at hl 1 rfl) ?_
    refine z_ild C G 1 rfl (vp_in_iff.mpr ⟨by omega, by omega⟩) dX1_go_16 ?_
    refine lv_topi (fun v_8 ev_8 => ?_)
    subst ev_8
    refine lv_iconst (v := 1) hx hb dX1_go_17 (by decide) ?_
    refine lv_icmp_ge (tgt := 23) hx hb dX1_go_18 (by decide) (fun c_9 => ?_) (fun c_9 => ?_)
    · have c_9n : (1 : Int) ≤ (fw x.toNatClampNeg).toInt := (fa_le _ _).mp c_9
      refine lv_aload_n hx hb dX1_go_23 rfl (lv_at hl 0 rfl) ?_
      refine z_get C G clX1 0 rfl 0 (by decide) m_fl_RX1_12 rfl dX1_go_24 ?_
      refine lv_iload_n hx hb dX1_go_27 rfl (lv_at hl 1 rfl) ?_
      refine z_Vi (bc := [wp, z]) (br := [[zO1 h po a1_1 v0 la v1 v2 v3 v4 v5 v6 v7], [zAr T 0 a1_1 7 fw]]) (As := [.int x]) (rest := []) C G (c_step l T po la f1 f2 f3 st wh wp cr inn k1 k2 k3 k4 z x hp hz hP) (kV_RX1_115 C.2.2.2.2 (Nat.le_of_ble_eq_true rfl) (Nat.le_of_ble_eq_true rfl)) [2, 3] [2, 0] rfl rfl (ci := 6) (qc := (RX6, TX6, 6)) rfl rfl (List.mem_flatten.mpr ⟨_, List.mem_of_getElem? (i := 0) rfl, (bPosts_mem hp).choose_spec⟩) rfl rfl hl.1 dX1_go_28 (Nat.le_of_ble_eq_true rfl) (Nat.le_of_ble_eq_true rfl) (fun r_15 b1 H locs hw G => ?_)
      refine zEx2 hw ?_
      intro w2_10 g1_11
      refine zCu4 ?_
      intro hbs9 h_12 h_13 h_14
      clear hw
      subst hbs9
      have G : zS T A s.heap s [[zO1 h po a1_1 v0 la v1 v2 v3 v4 v5 v6 v7], [zAr T 0 a1_1 7 fw], w2_10, z] _ _ := G
      subst h_12
      have hQ2 : zP3 g1_11 f3 := by rw [h_14]; exact zPost_I hP _
      refine lv_istore_n (lv' := [(2, .int (zStep f1 f2 f3 k2 x)), (0, .ref h), (1, .int x)]) hx hb dX1_go_31 rfl hl (by decide) (zLvf_h rfl) (fun ls hl => ?_)
      refine lv_iload_n hx hb dX1_go_32 rfl (lv_at hl 0 rfl) ?_
      refine lv_iconst (v := (-1)) hx hb dX1_go_33 (by decide) ?_
      refine lv_icmp_ne (tgt := 39) hx hb dX1_go_34 (by decide) (fun c_16 => ?_) (fun c_16 => ?_)
      · have c_16n : ¬ (zStep f1 f2 f3 k2 x).toInt = (-1 : Int) := fun q => c_16 ((fa_eq _ _).mpr q)
        have hhs : zHas cr (zStep f1 f2 f3 k2 x) := zStep_h hP hW hWr hLq h7 (by first | with_reducible assumption | assumption)
        refine lv_aload_n hx hb dX1_go_39 rfl (lv_at hl 1 rfl) ?_
        refine lv_dup hx hb dX1_go_40 rfl ?_
        refine z_get C G clX1 0 rfl 2 (by decide) m_fl_RX1_34 rfl dX1_go_41 ?_
        refine lv_iconst (v := 1) hx hb dX1_go_44 (by decide) ?_
        refine lv_iadd hx hb dX1_go_45 ?_
        refine z_put C G clX1 0 rfl 2 (by decide) m_fl_RX1_34 rfl rfl rfl (Nat.le_of_ble_eq_true rfl) dX1_go_46 (fun H locs G => ?_)
        have G : zS T A s.heap s [[zO1 h po a1_1 (v0 + 1) la v1 v2 v3 v4 v5 v6 v7], [zAr T 0 a1_1 7 fw], w2_10, z] _ _ := G
        refine lv_aload_n hx hb dX1_go_49 rfl (lv_at hl 1 rfl) ?_
        refine lv_iload_n hx hb dX1_go_50 rfl (lv_at hl 2 rfl) ?_
        refine lv_iload_n hx hb dX1_go_51 rfl (lv_at hl 0 rfl) ?_
        have hw_17 : bCourse T h po la fw (v0 + 1) v1 v2 v3 v4 v5 v6 v7 [zO1 h po a1_1 (v0 + 1) la v1 v2 v3 v4 v5 v6 v7, zAr T 0 a1_1 7 fw] := ⟨a1_1, rfl⟩
        have G : zS T A s.heap s [[zO1 h po a1_1 (v0 + 1) la v1 v2 v3 v4 v5 v6 v7, zAr T 0 a1_1 7 fw], w2_10, z] _ _ := G.re rfl
        refine z_Vv (bc := [[zO1 h po a1_1 (v0 + 1) la v1 v2 v3 v4 v5 v6 v7, zAr T 0 a1_1 7 fw], z]) (br := [w2_10]) (As := [.int x, .int (zStep f1 f2 f3 k2 x)]) (rest := []) C G (c_x_move l T h po la fw (v0 + 1) v1 v2 v3 v4 v5 v6 v7 ([zO1 h po a1_1 (v0 + 1) la v1 v2 v3 v4 v5 v6 v7, zAr T 0 a1_1 7 fw]) cr inn k1 k2 k3 k4 z x (zStep f1 f2 f3 k2 x) hw_17 hz ⟨by omega, by omega, by omega⟩ hhs) (kV_RX1_118 C.2.2.2.2 (Nat.le_of_ble_eq_true rfl) (Nat.le_of_ble_eq_true rfl)) [0, 2] [0, 1] rfl rfl (ci := 1) (qc := (RX1, TX1, 11)) rfl rfl (List.mem_flatten.mpr ⟨_, List.mem_of_getElem? (i := 0) rfl, (bCourse_mem hw_17).choose_spec⟩) rfl rfl hl.1 dX1_go_52 (Nat.le_of_ble_eq_true rfl) (Nat.le_of_ble_eq_true rfl) (fun b1 H locs hw G => ?_)
        refine zEx4 hw ?_
        intro wc2_18 gw_19 u3_20 u5_21
        refine zCu5 ?_
        intro hbs9 h_22 h_23 h_24 h_25
        clear hw
        subst hbs9
        have G : zS T A s.heap s [w2_10, wc2_18, z] _ _ := G
        refine lv_iconst (v := 1) hx hb dX1_go_55 (by decide) ?_
        have G := G.sub (bs' := [wc2_18, w2_10, z]) [1, 0, 2] rfl
        exact z_back hQz_ (z_zret C hr hlocks G (Nat.le_of_ble_eq_true rfl) (Nat.le_of_ble_eq_true rfl) dX1_go_56 rfl ⟨wc2_18, gw_19, (v0 + 1), v1, v2, u3_20, v4, u5_21, v6, v7, w2_10, g1_11, f2, st, wh, rfl, h_22, h_13, hQ2, (Or.inl ⟨rfl, by unfold zGoF; rw [if_pos ⟨⟨⟨by omega, by omega, by omega⟩, by omega⟩, by first | with_reducible assumption | assumption⟩, h_23, h_14]⟩), ⟨rfl, rfl⟩, (fun _ => ⟨h_24, rfl, h_25, rfl⟩), (fun q8 => absurd q8 (by decide))⟩)
      · have c_16n : (zStep f1 f2 f3 k2 x).toInt = (-1 : Int) := (fa_eq _ _).mp c_16
        refine lv_iconst (v := 0) hx hb dX1_go_37 (by decide) ?_
        have hw_27 : bCourse T h po la fw v0 v1 v2 v3 v4 v5 v6 v7 [zO1 h po a1_1 v0 la v1 v2 v3 v4 v5 v6 v7, zAr T 0 a1_1 7 fw] := ⟨a1_1, rfl⟩
        have G : zS T A s.heap s [[zO1 h po a1_1 v0 la v1 v2 v3 v4 v5 v6 v7, zAr T 0 a1_1 7 fw], w2_10, z] _ _ := G.re rfl
        exact z_back hQz_ (z_zret C hr hlocks G (Nat.le_of_ble_eq_true rfl) (Nat.le_of_ble_eq_true rfl) dX1_go_38 rfl ⟨([zO1 h po a1_1 v0 la v1 v2 v3 v4 v5 v6 v7, zAr T 0 a1_1 7 fw]), fw, v0, v1, v2, v3, v4, v5, v6, v7, w2_10, g1_11, f2, st, wh, rfl, hw_27, h_13, hQ2, (Or.inr ⟨rfl, by unfold zGoF; rw [if_neg (fun q8 => q8.2 (by first | with_reducible assumption | assumption))], by rw [h_14]; unfold zPost; rw [if_pos (zStep_t (by first | with_reducible assumption | assumption) hP hLb)], rfl, rfl, rfl, rfl⟩), ⟨rfl, rfl⟩, (fun q8 => absurd q8 (by decide)), (fun _ => ⟨rfl, rfl, rfl, rfl⟩)⟩)
    · have c_9n : ¬ (1 : Int) ≤ (fw x.toNatClampNeg).toInt := fun q => c_9 ((fa_le _ _).mpr q)
      refine lv_iconst (v := 0) hx hb dX1_go_21 (by decide) ?_
      have hw_28 : bCourse T h po la fw v0 v1 v2 v3 v4 v5 v6 v7 [zO1 h po a1_1 v0 la v1 v2 v3 v4 v5 v6 v7, zAr T 0 a1_1 7 fw] := ⟨a1_1, rfl⟩
      have G : zS T A s.heap s [[zO1 h po a1_1 v0 la v1 v2 v3 v4 v5 v6 v7, zAr T 0 a1_1 7 fw], wp, z] _ _ := G.re rfl
      exact z_back hQz_ (z_zret C hr hlocks G (Nat.le_of_ble_eq_true rfl) (Nat.le_of_ble_eq_true rfl) dX1_go_22 rfl ⟨([zO1 h po a1_1 v0 la v1 v2 v3 v4 v5 v6 v7, zAr T 0 a1_1 7 fw]), fw, v0, v1, v2, v3, v4, v5, v6, v7, wp, f1, f2, st, wh, rfl, hw_28, hp, hP, (Or.inr ⟨rfl, by unfold zGoF; rw [if_neg (fun q8 => by dsimp only at q8; omega)], rfl, rfl, rfl, rfl, rfl⟩), ⟨rfl, rfl⟩, (fun q8 => absurd q8 (by decide)), (fun _ => ⟨rfl, rfl, rfl, rfl⟩)⟩)
  · have h_7 : (x.toInt < 0 ∨ cr.toInt ≤ x.toInt ∨ 7 ≤ x.toInt) := h_7
    refine lv_if_eq (tgt := 21) hx hb dX1_go_8 (by decide) (fun _ => ?_) (fun q => absurd (by decide) q)
    refine lv_iconst (v := 0) hx hb dX1_go_21 (by decide) ?_
    have hw_29 : bCourse T h po la fw v0 v1 v2 v3 v4 v5 v6 v7 [zO1 h po a1_1 v0 la v1 v2 v3 v4 v5 v6 v7, zAr T 0 a1_1 7 fw] := ⟨a1_1, rfl⟩
    have G : zS T A s.heap s [[zO1 h po a1_1 v0 la v1 v2 v3 v4 v5 v6 v7, zAr T 0 a1_1 7 fw], wp, z] _ _ := G.re rfl
    exact z_back hQz_ (z_zret C hr hlocks G (Nat.le_of_ble_eq_true rfl) (Nat.le_of_ble_eq_true rfl) dX1_go_22 rfl ⟨([zO1 h po a1_1 v0 la v1 v2 v3 v4 v5 v6 v7, zAr T 0 a1_1 7 fw]), fw, v0, v1, v2, v3, v4, v5, v6, v7, wp, f1, f2, st, wh, rfl, hw_29, hp, hP, (Or.inr ⟨rfl, by unfold zGoF; rw [if_neg (fun q8 => by dsimp only at q8; omega)], rfl, rfl, rfl, rfl, rfl⟩), ⟨rfl, rfl⟩, (fun q8 => absurd q8 (by decide)), (fun _ => ⟨rfl, rfl, rfl, rfl⟩)⟩)
set_option maxHeartbeats 4000000 in
set_option maxRecDepth 100000 in
/-- c_x_Course_run -/
theorem c_x_Course_run (l : Launch) (T : zTy) (h : Nat) (po : Nat) (la : Nat) (fw : Nat → Int32) (v0 : Int32) (v1 : Int32) (v2 : Int32) (v3 : Int32) (v4 : Int32) (v5 : Int32) (v6 : Int32) (v7 : Int32) (wc : va_W) (f1 : Nat → Int32) (f2 : Nat → Int32) (f3 : Nat → Int32) (st : Int32) (wh : Int32) (wp : va_W) (cr : Int32) (inn : Int32) (k1 : Nat → Int32) (k2 : Nat → Int32) (k3 : Nat → Int32) (k4 : Nat → Int32) (z : va_W) (x : Int32) (hc : bCourse T h po la fw v0 v1 v2 v3 v4 v5 v6 v7 wc) (hp : bPosts T po la f1 f2 f3 st wh wp) (hz : bLand T la cr inn k1 k2 k3 k4 z) (hP : zP3 f1 f3) (hI : zLI cr k1 k3) (hW : ∀ j, j < 7 → f3 j = zWays cr inn k1 (nI j)) (hLq : zLq cr k1 k2) : zMi l T yX1_run cX1_run 2 (some .boolean) 4 0 0 [.ref h, .int x] [wc, wp, z] (fun (r : Int32) bs => ∃ (wc2 : va_W) (gw : Nat → Int32) (u0 : Int32) (u1 : Int32) (u2 : Int32) (u3 : Int32) (u4 : Int32) (u5 : Int32) (u6 : Int32) (u7 : Int32) (wp2 : va_W) (g1 : Nat → Int32) (g2 : Nat → Int32) (sa : Int32) (wa : Int32), bs = [wc2, wp2, z] ∧ bCourse T h po la gw u0 u1 u2 u3 u4 u5 u6 u7 wc2 ∧ bPosts T po la g1 g2 f3 sa wa wp2 ∧ zP3 g1 f3 ∧ (r = 1 ∧ zRuF cr inn f3 k2 x (f1, f2, fw, v0, v1) = some (g1, g2, gw, u0, u1) ∨ r = 0 ∧ zRuF cr inn f3 k2 x (f1, f2, fw, v0, v1) = none ∧ g1 = f1 ∧ g2 = f2 ∧ gw = fw ∧ u0 = v0 ∧ u1 = v1) ∧ (u2 = v2 ∧ u7 = v7) ∧ (r = 1 → u3 = zXf inn v3 v2 x (zRunN f2 f3 k2 499 f1 x 0).2.1 ∧ u4 = zXl v4 (nI (zRunN f2 f3 k2 499 f1 x 0).2.2) ∧ u5 = zXm v5 x (zRunN f2 f3 k2 499 f1 x 0).2.1 ∧ u6 = v6) ∧ (r = 0 → u3 = v3 ∧ u4 = v4 ∧ u5 = v5 ∧ u6 = v6)) := by
  refine zMi_of (own := RX1) (by decide) rfl (Nat.le_of_ble_eq_true rfl) ?_
  intro p e s m args below meth c A ls C hr hlocks hnm hAe G hl
  refine zHide (fun Qz_ hQz_ => ?_)
  have hx := C.1
  have hb := C.2.1
  have hl : lv_has ls 2 [(0, .ref h), (1, .int x)] := hl
  have h7 := hI.1.2
  have hWr := zWays_r hI hW
  have hLb := zLq_b (inn := inn) hWr hLq
  refine lv_aload_n hx hb dX1_run_0 rfl (lv_at hl 0 rfl) ?_
  refine zEx1 hc ?_
  intro a1_1 hbs9
  clear hc
  subst hbs9
  have G : zS T A s.heap s [[zO1 h po a1_1 v0 la v1 v2 v3 v4 v5 v6 v7], [zAr T 0 a1_1 7 fw], wp, z] _ _ := G.re rfl
  refine z_get C G clX1 0 rfl 3 (by decide) m_fl_RX1_25 rfl dX1_run_1 ?_
  refine lv_iload_n hx hb dX1_run_4 rfl (lv_at hl 1 rfl) ?_
  refine z_Vi (bc := [z]) (br := [[zO1 h po a1_1 v0 la v1 v2 v3 v4 v5 v6 v7], [zAr T 0 a1_1 7 fw], wp]) (As := [.int x]) (rest := []) C G (c_has l T la cr inn k1 k2 k3 k4 z x hz) (kV_RX1_112 C.2.2.2.2 (Nat.le_of_ble_eq_true rfl) (Nat.le_of_ble_eq_true rfl)) [3] [3] rfl rfl (ci := 4) (qc := (RX4, TX4, 6)) rfl rfl (List.mem_flatten.mpr ⟨_, List.mem_of_getElem? (i := 0) rfl, (bLand_mem hz).choose_spec⟩) rfl rfl hl.1 dX1_run_5 (Nat.le_of_ble_eq_true rfl) (Nat.le_of_ble_eq_true rfl) (fun r_3 b1 H locs hw G => ?_)
  refine zAn2 hw ?_
  intro hbs9 hc_2
  clear hw
  subst hbs9
  have G : zS T A s.heap s [[zO1 h po a1_1 v0 la v1 v2 v3 v4 v5 v6 v7], [zAr T 0 a1_1 7 fw], wp, z] _ _ := G
  rcases hc_2 with ⟨rfl, h_4, h_5, h_6⟩ | ⟨rfl, h_7⟩
  · have h_4 : 0 ≤ x.toInt := h_4
    have h_5 : x.toInt < cr.toInt := h_5
    have h_6 : x.toInt < 7 := h_6
    refine lv_if_eq (tgt := 21) hx hb dX1_run_8 (by decide) (fun q => absurd q (by decide)) (fun _ => ?_)
    refine lv_aload_n hx hb dX1_run_11 rfl (lv_at hl 0 rfl) ?_
    refine z_get C G clX1 0 rfl 1 (by decide) m_fl_RX1_18 rfl dX1_run_12 ?_
    refine lv_iload_n hx hb dX1_run_15 rfl (lv_at hl 1 rfl) ?_
    refine z_ild C G 1 rfl (vp_in_iff.mpr ⟨by omega, by omega⟩) dX1_run_16 ?_
    refine lv_topi (fun v_8 ev_8 => ?_)
    subst ev_8
    refine lv_iconst (v := 1) hx hb dX1_run_17 (by decide) ?_
    refine lv_icmp_ge (tgt := 23) hx hb dX1_run_18 (by decide) (fun c_9 => ?_) (fun c_9 => ?_)
    · have c_9n : (1 : Int) ≤ (fw x.toNatClampNeg).toInt := (fa_le _ _).mp c_9
      refine lv_aload_n hx hb dX1_run_23 rfl (lv_at hl 0 rfl) ?_
      refine z_get C G clX1 0 rfl 0 (by decide) m_fl_RX1_12 rfl dX1_run_24 ?_
      refine lv_iload_n hx hb dX1_run_27 rfl (lv_at hl 1 rfl) ?_
      refine z_Vv (bc := [wp, z]) (br := [[zO1 h po a1_1 v0 la v1 v2 v3 v4 v5 v6 v7], [zAr T 0 a1_1 7 fw]]) (As := [.int x]) (rest := []) C G (c_Posts_run l T po la f1 f2 f3 st wh wp cr inn k1 k2 k3 k4 z x hp hz hP) (kV_RX1_122 C.2.2.2.2 (Nat.le_of_ble_eq_true rfl) (Nat.le_of_ble_eq_true rfl)) [2, 3] [2, 0] rfl rfl (ci := 6) (qc := (RX6, TX6, 6)) rfl rfl (List.mem_flatten.mpr ⟨_, List.mem_of_getElem? (i := 0) rfl, (bPosts_mem hp).choose_spec⟩) rfl rfl hl.1 dX1_run_28 (Nat.le_of_ble_eq_true rfl) (Nat.le_of_ble_eq_true rfl) (fun b1 H locs hw G => ?_)
      refine zEx4 hw ?_
      intro w2_10 g1_11 s2_12 x2_13
      refine zCu5 ?_
      intro hbs9 h_14 h_15 h_16 h_17
      clear hw
      subst hbs9
      have G : zS T A s.heap s [[zO1 h po a1_1 v0 la v1 v2 v3 v4 v5 v6 v7], [zAr T 0 a1_1 7 fw], w2_10, z] _ _ := G
      have hQ2 : zP3 g1_11 f3 := by rw [h_15]; exact zRunN_I _ _ _ _ hP
      have hhs : zHas cr x2_13 := by rw [h_17]; exact zRunN_h hW hWr hLq h7 499 _ _ _ hP ⟨by omega, by omega, by omega⟩
      refine lv_aload_n hx hb dX1_run_31 rfl (lv_at hl 0 rfl) ?_
      refine lv_dup hx hb dX1_run_32 rfl ?_
      refine z_get C G clX1 0 rfl 2 (by decide) m_fl_RX1_34 rfl dX1_run_33 ?_
      refine lv_aload_n hx hb dX1_run_36 rfl (lv_at hl 0 rfl) ?_
      refine z_get C G clX1 0 rfl 0 (by decide) m_fl_RX1_12 rfl dX1_run_37 ?_
      refine zEx3 h_14 ?_
      intro a1_19 a2_20 a3_21 hbs9
      clear h_14
      subst hbs9
      have G : zS T A s.heap s [[zO1 h po a1_1 v0 la v1 v2 v3 v4 v5 v6 v7], [zAr T 0 a1_1 7 fw], [zO6 po la a1_19 a2_20 s2_12 x2_13 a3_21], [zAr T 0 a1_19 7 g1_11], [zAr T 0 a2_20 7 f2], [zAr T 0 a3_21 7 f3], z] _ _ := G.re rfl
      refine z_get C G clX6 2 rfl 3 (by decide) m_fl_RX1_125 rfl dX1_run_40 ?_
      refine lv_iadd hx hb dX1_run_43 ?_
      refine z_put C G clX1 0 rfl 2 (by decide) m_fl_RX1_34 rfl rfl rfl (Nat.le_of_ble_eq_true rfl) dX1_run_44 (fun H locs G => ?_)
      have G : zS T A s.heap s [[zO1 h po a1_1 (v0 + s2_12) la v1 v2 v3 v4 v5 v6 v7], [zAr T 0 a1_1 7 fw], [zO6 po la a1_19 a2_20 s2_12 x2_13 a3_21], [zAr T 0 a1_19 7 g1_11], [zAr T 0 a2_20 7 f2], [zAr T 0 a3_21 7 f3], z] _ _ := G
      refine lv_aload_n hx hb dX1_run_47 rfl (lv_at hl 0 rfl) ?_
      refine lv_aload_n hx hb dX1_run_48 rfl (lv_at hl 0 rfl) ?_
      refine z_get C G clX1 0 rfl 7 (by decide) m_fl_RX1_47 rfl dX1_run_49 ?_
      refine lv_aload_n hx hb dX1_run_52 rfl (lv_at hl 0 rfl) ?_
      refine z_get C G clX1 0 rfl 0 (by decide) m_fl_RX1_12 rfl dX1_run_53 ?_
      refine z_get C G clX6 2 rfl 3 (by decide) m_fl_RX1_125 rfl dX1_run_56 ?_
      refine va_mmax hx hb (C.2.2.1.trans hl.1.symm) C.2.2.2.1 (C.2.2.2.2 _ m_ml_RX1_126) (C.2.2.2.2 _ m_st_math_max) (C.2.2.2.2 _ m_ii_math) (C.2.2.2.2 _ m_co_math_max) (Nat.le_of_ble_eq_true rfl) (Nat.le_of_ble_eq_true rfl) (Nat.le_of_ble_eq_true rfl) (Nat.le_of_ble_eq_true rfl) dX1_run_59 ?_
      refine lv_topi (fun v_22 ev_22 => ?_)
      subst ev_22
      refine z_put C G clX1 0 rfl 7 (by decide) m_fl_RX1_47 rfl rfl rfl (Nat.le_of_ble_eq_true rfl) dX1_run_62 (fun H locs G => ?_)
      have G : zS T A s.heap s [[zO1 h po a1_1 (v0 + s2_12) la v1 v2 v3 (if v4 < s2_12 then s2_12 else v4) v5 v6 v7], [zAr T 0 a1_1 7 fw], [zO6 po la a1_19 a2_20 s2_12 x2_13 a3_21], [zAr T 0 a1_19 7 g1_11], [zAr T 0 a2_20 7 f2], [zAr T 0 a3_21 7 f3], z] _ _ := G
      refine lv_aload_n hx hb dX1_run_65 rfl (lv_at hl 0 rfl) ?_
      refine z_get C G clX1 0 rfl 3 (by decide) m_fl_RX1_25 rfl dX1_run_66 ?_
      refine lv_aload_n hx hb dX1_run_69 rfl (lv_at hl 0 rfl) ?_
      refine z_get C G clX1 0 rfl 0 (by decide) m_fl_RX1_12 rfl dX1_run_70 ?_
      refine z_get C G clX6 2 rfl 4 (by decide) m_fl_RX1_132 rfl dX1_run_73 ?_
      refine z_Vi (bc := [z]) (br := [[zO1 h po a1_1 (v0 + s2_12) la v1 v2 v3 (if v4 < s2_12 then s2_12 else v4) v5 v6 v7], [zAr T 0 a1_1 7 fw], [zO6 po la a1_19 a2_20 s2_12 x2_13 a3_21], [zAr T 0 a1_19 7 g1_11], [zAr T 0 a2_20 7 f2], [zAr T 0 a3_21 7 f3]]) (As := [.int x2_13]) (rest := []) C G (c_isInn l T la cr inn k1 k2 k3 k4 z x2_13 hz) (kV_RX1_135 C.2.2.2.2 (Nat.le_of_ble_eq_true rfl) (Nat.le_of_ble_eq_true rfl)) [6] [6] rfl rfl (ci := 4) (qc := (RX4, TX4, 6)) rfl rfl (List.mem_flatten.mpr ⟨_, List.mem_of_getElem? (i := 0) rfl, (bLand_mem hz).choose_spec⟩) rfl rfl hl.1 dX1_run_76 (Nat.le_of_ble_eq_true rfl) (Nat.le_of_ble_eq_true rfl) (fun r_24 b1 H locs hw G => ?_)
      refine zAn2 hw ?_
      intro hbs9 hc_23
      clear hw
      subst hbs9
      have G : zS T A s.heap s [[zO1 h po a1_1 (v0 + s2_12) la v1 v2 v3 (if v4 < s2_12 then s2_12 else v4) v5 v6 v7], [zAr T 0 a1_1 7 fw], [zO6 po la a1_19 a2_20 s2_12 x2_13 a3_21], [zAr T 0 a1_19 7 g1_11], [zAr T 0 a2_20 7 f2], [zAr T 0 a3_21 7 f3], z] _ _ := G
      rcases hc_23 with ⟨rfl, h_25, h_26, h_27, h_28⟩ | ⟨rfl, h_29⟩
      · have h_25 : 0 ≤ x2_13.toInt := h_25
        have h_26 : x2_13.toInt < cr.toInt := h_26
        have h_27 : x2_13.toInt < 7 := h_27
        have h_28 : ¬ zBit inn x2_13 = 0 := h_28
        refine lv_if_ne (tgt := 92) hx hb dX1_run_79 (by decide) (fun _ => ?_) (fun q => absurd q (by decide))
        refine lv_aload_n hx hb dX1_run_92 rfl (lv_at hl 0 rfl) ?_
        refine lv_iload_n hx hb dX1_run_93 rfl (lv_at hl 1 rfl) ?_
        refine lv_aload_n hx hb dX1_run_94 rfl (lv_at hl 0 rfl) ?_
        refine z_get C G clX1 0 rfl 0 (by decide) m_fl_RX1_12 rfl dX1_run_95 ?_
        refine z_get C G clX6 2 rfl 4 (by decide) m_fl_RX1_132 rfl dX1_run_98 ?_
        have hw_30 : bCourse T h po la fw (v0 + s2_12) v1 v2 v3 (if v4 < s2_12 then s2_12 else v4) v5 v6 v7 [zO1 h po a1_1 (v0 + s2_12) la v1 v2 v3 (if v4 < s2_12 then s2_12 else v4) v5 v6 v7, zAr T 0 a1_1 7 fw] := ⟨a1_1, rfl⟩
        have G : zS T A s.heap s [[zO1 h po a1_1 (v0 + s2_12) la v1 v2 v3 (if v4 < s2_12 then s2_12 else v4) v5 v6 v7, zAr T 0 a1_1 7 fw], [zO6 po la a1_19 a2_20 s2_12 x2_13 a3_21], [zAr T 0 a1_19 7 g1_11], [zAr T 0 a2_20 7 f2], [zAr T 0 a3_21 7 f3], z] _ _ := G.re rfl
        refine z_Vv (bc := [[zO1 h po a1_1 (v0 + s2_12) la v1 v2 v3 (if v4 < s2_12 then s2_12 else v4) v5 v6 v7, zAr T 0 a1_1 7 fw], z]) (br := [[zO6 po la a1_19 a2_20 s2_12 x2_13 a3_21], [zAr T 0 a1_19 7 g1_11], [zAr T 0 a2_20 7 f2], [zAr T 0 a3_21 7 f3]]) (As := [.int x, .int x2_13]) (rest := []) C G (c_x_move l T h po la fw (v0 + s2_12) v1 v2 v3 (if v4 < s2_12 then s2_12 else v4) v5 v6 v7 ([zO1 h po a1_1 (v0 + s2_12) la v1 v2 v3 (if v4 < s2_12 then s2_12 else v4) v5 v6 v7, zAr T 0 a1_1 7 fw]) cr inn k1 k2 k3 k4 z x x2_13 hw_30 hz ⟨by omega, by omega, by omega⟩ hhs) (kV_RX1_118 C.2.2.2.2 (Nat.le_of_ble_eq_true rfl) (Nat.le_of_ble_eq_true rfl)) [0, 5] [0, 4] rfl rfl (ci := 1) (qc := (RX1, TX1, 11)) rfl rfl (List.mem_flatten.mpr ⟨_, List.mem_of_getElem? (i := 0) rfl, (bCourse_mem hw_30).choose_spec⟩) rfl rfl hl.1 dX1_run_101 (Nat.le_of_ble_eq_true rfl) (Nat.le_of_ble_eq_true rfl) (fun b1 H locs hw G => ?_)
        refine zEx4 hw ?_
        intro wc2_31 gw_32 u3_33 u5_34
        refine zCu5 ?_
        intro hbs9 h_35 h_36 h_37 h_38
        clear hw
        subst hbs9
        have G : zS T A s.heap s [[zO6 po la a1_19 a2_20 s2_12 x2_13 a3_21], [zAr T 0 a1_19 7 g1_11], [zAr T 0 a2_20 7 f2], [zAr T 0 a3_21 7 f3], wc2_31, z] _ _ := G
        refine lv_iconst (v := 1) hx hb dX1_run_104 (by decide) ?_
        have hw_40 : bPosts T po la g1_11 f2 f3 s2_12 x2_13 [zO6 po la a1_19 a2_20 s2_12 x2_13 a3_21, zAr T 0 a1_19 7 g1_11, zAr T 0 a2_20 7 f2, zAr T 0 a3_21 7 f3] := ⟨a1_19, a2_20, a3_21, rfl⟩
        have G : zS T A s.heap s [[zO6 po la a1_19 a2_20 s2_12 x2_13 a3_21, zAr T 0 a1_19 7 g1_11, zAr T 0 a2_20 7 f2, zAr T 0 a3_21 7 f3], wc2_31, z] _ _ := G.re rfl
        have G := G.sub (bs' := [wc2_31, [zO6 po la a1_19 a2_20 s2_12 x2_13 a3_21, zAr T 0 a1_19 7 g1_11, zAr T 0 a2_20 7 f2, zAr T 0 a3_21 7 f3], z]) [1, 0, 2] rfl
        exact z_back hQz_ (z_zret C hr hlocks G (Nat.le_of_ble_eq_true rfl) (Nat.le_of_ble_eq_true rfl) dX1_run_105 rfl ⟨wc2_31, gw_32, (v0 + s2_12), v1, v2, u3_33, (if v4 < s2_12 then s2_12 else v4), u5_34, v6, v7, ([zO6 po la a1_19 a2_20 s2_12 x2_13 a3_21, zAr T 0 a1_19 7 g1_11, zAr T 0 a2_20 7 f2, zAr T 0 a3_21 7 f3]), g1_11, f2, s2_12, x2_13, rfl, h_35, hw_40, hQ2, (Or.inl ⟨rfl, zRuF_i ⟨⟨by omega, by omega, by omega⟩, by omega⟩ h_15 h_16 h_17 h_36 (if_pos (zBit_p h_28))⟩), ⟨rfl, rfl⟩, (fun _ => ⟨by rw [h_37, h_17], by rw [h_16]; rfl, by rw [h_38, h_17], rfl⟩), (fun q8 => absurd q8 (by decide))⟩)
      · have h_29 : (x2_13.toInt < 0 ∨ cr.toInt ≤ x2_13.toInt ∨ 7 ≤ x2_13.toInt ∨ zBit inn x2_13 = 0) := h_29
        refine lv_if_ne (tgt := 92) hx hb dX1_run_79 (by decide) (fun q => absurd (by decide) q) (fun _ => ?_)
        refine lv_aload_n hx hb dX1_run_82 rfl (lv_at hl 0 rfl) ?_
        refine lv_dup hx hb dX1_run_83 rfl ?_
        refine z_get C G clX1 0 rfl 4 (by decide) m_fl_RX1_38 rfl dX1_run_84 ?_
        refine lv_iconst (v := 1) hx hb dX1_run_87 (by decide) ?_
        refine lv_iadd hx hb dX1_run_88 ?_
        refine z_put C G clX1 0 rfl 4 (by decide) m_fl_RX1_38 rfl rfl rfl (Nat.le_of_ble_eq_true rfl) dX1_run_89 (fun H locs G => ?_)
        have G : zS T A s.heap s [[zO1 h po a1_1 (v0 + s2_12) la (v1 + 1) v2 v3 (if v4 < s2_12 then s2_12 else v4) v5 v6 v7], [zAr T 0 a1_1 7 fw], [zO6 po la a1_19 a2_20 s2_12 x2_13 a3_21], [zAr T 0 a1_19 7 g1_11], [zAr T 0 a2_20 7 f2], [zAr T 0 a3_21 7 f3], z] _ _ := G
        refine lv_aload_n hx hb dX1_run_92 rfl (lv_at hl 0 rfl) ?_
        refine lv_iload_n hx hb dX1_run_93 rfl (lv_at hl 1 rfl) ?_
        refine lv_aload_n hx hb dX1_run_94 rfl (lv_at hl 0 rfl) ?_
        refine z_get C G clX1 0 rfl 0 (by decide) m_fl_RX1_12 rfl dX1_run_95 ?_
        refine z_get C G clX6 2 rfl 4 (by decide) m_fl_RX1_132 rfl dX1_run_98 ?_
        have hw_41 : bCourse T h po la fw (v0 + s2_12) (v1 + 1) v2 v3 (if v4 < s2_12 then s2_12 else v4) v5 v6 v7 [zO1 h po a1_1 (v0 + s2_12) la (v1 + 1) v2 v3 (if v4 < s2_12 then s2_12 else v4) v5 v6 v7, zAr T 0 a1_1 7 fw] := ⟨a1_1, rfl⟩
        have G : zS T A s.heap s [[zO1 h po a1_1 (v0 + s2_12) la (v1 + 1) v2 v3 (if v4 < s2_12 then s2_12 else v4) v5 v6 v7, zAr T 0 a1_1 7 fw], [zO6 po la a1_19 a2_20 s2_12 x2_13 a3_21], [zAr T 0 a1_19 7 g1_11], [zAr T 0 a2_20 7 f2], [zAr T 0 a3_21 7 f3], z] _ _ := G.re rfl
        refine z_Vv (bc := [[zO1 h po a1_1 (v0 + s2_12) la (v1 + 1) v2 v3 (if v4 < s2_12 then s2_12 else v4) v5 v6 v7, zAr T 0 a1_1 7 fw], z]) (br := [[zO6 po la a1_19 a2_20 s2_12 x2_13 a3_21], [zAr T 0 a1_19 7 g1_11], [zAr T 0 a2_20 7 f2], [zAr T 0 a3_21 7 f3]]) (As := [.int x, .int x2_13]) (rest := []) C G (c_x_move l T h po la fw (v0 + s2_12) (v1 + 1) v2 v3 (if v4 < s2_12 then s2_12 else v4) v5 v6 v7 ([zO1 h po a1_1 (v0 + s2_12) la (v1 + 1) v2 v3 (if v4 < s2_12 then s2_12 else v4) v5 v6 v7, zAr T 0 a1_1 7 fw]) cr inn k1 k2 k3 k4 z x x2_13 hw_41 hz ⟨by omega, by omega, by omega⟩ hhs) (kV_RX1_118 C.2.2.2.2 (Nat.le_of_ble_eq_true rfl) (Nat.le_of_ble_eq_true rfl)) [0, 5] [0, 4] rfl rfl (ci := 1) (qc := (RX1, TX1, 11)) rfl rfl (List.mem_flatten.mpr ⟨_, List.mem_of_getElem? (i := 0) rfl, (bCourse_mem hw_41).choose_spec⟩) rfl rfl hl.1 dX1_run_101 (Nat.le_of_ble_eq_true rfl) (Nat.le_of_ble_eq_true rfl) (fun b1 H locs hw G => ?_)
        refine zEx4 hw ?_
        intro wc2_42 gw_43 u3_44 u5_45
        refine zCu5 ?_
        intro hbs9 h_46 h_47 h_48 h_49
        clear hw
        subst hbs9
        have G : zS T A s.heap s [[zO6 po la a1_19 a2_20 s2_12 x2_13 a3_21], [zAr T 0 a1_19 7 g1_11], [zAr T 0 a2_20 7 f2], [zAr T 0 a3_21 7 f3], wc2_42, z] _ _ := G
        refine lv_iconst (v := 1) hx hb dX1_run_104 (by decide) ?_
        have hw_51 : bPosts T po la g1_11 f2 f3 s2_12 x2_13 [zO6 po la a1_19 a2_20 s2_12 x2_13 a3_21, zAr T 0 a1_19 7 g1_11, zAr T 0 a2_20 7 f2, zAr T 0 a3_21 7 f3] := ⟨a1_19, a2_20, a3_21, rfl⟩
        have G : zS T A s.heap s [[zO6 po la a1_19 a2_20 s2_12 x2_13 a3_21, zAr T 0 a1_19 7 g1_11, zAr T 0 a2_20 7 f2, zAr T 0 a3_21 7 f3], wc2_42, z] _ _ := G.re rfl
        have G := G.sub (bs' := [wc2_42, [zO6 po la a1_19 a2_20 s2_12 x2_13 a3_21, zAr T 0 a1_19 7 g1_11, zAr T 0 a2_20 7 f2, zAr T 0 a3_21 7 f3], z]) [1, 0, 2] rfl
        exact z_back hQz_ (z_zret C hr hlocks G (Nat.le_of_ble_eq_true rfl) (Nat.le_of_ble_eq_true rfl) dX1_run_105 rfl ⟨wc2_42, gw_43, (v0 + s2_12), (v1 + 1), v2, u3_44, (if v4 < s2_12 then s2_12 else v4), u5_45, v6, v7, ([zO6 po la a1_19 a2_20 s2_12 x2_13 a3_21, zAr T 0 a1_19 7 g1_11, zAr T 0 a2_20 7 f2, zAr T 0 a3_21 7 f3]), g1_11, f2, s2_12, x2_13, rfl, h_46, hw_51, hQ2, (Or.inl ⟨rfl, zRuF_i ⟨⟨by omega, by omega, by omega⟩, by omega⟩ h_15 h_16 h_17 h_47 (if_neg (fun q8 => by rcases h_29 with e9 | e9 | e9 | e9 <;> first | omega | exact zBit_o q8 e9))⟩), ⟨rfl, rfl⟩, (fun _ => ⟨by rw [h_48, h_17], by rw [h_16]; rfl, by rw [h_49, h_17], rfl⟩), (fun q8 => absurd q8 (by decide))⟩)
    · have c_9n : ¬ (1 : Int) ≤ (fw x.toNatClampNeg).toInt := fun q => c_9 ((fa_le _ _).mpr q)
      refine lv_iconst (v := 0) hx hb dX1_run_21 (by decide) ?_
      have hw_52 : bCourse T h po la fw v0 v1 v2 v3 v4 v5 v6 v7 [zO1 h po a1_1 v0 la v1 v2 v3 v4 v5 v6 v7, zAr T 0 a1_1 7 fw] := ⟨a1_1, rfl⟩
      have G : zS T A s.heap s [[zO1 h po a1_1 v0 la v1 v2 v3 v4 v5 v6 v7, zAr T 0 a1_1 7 fw], wp, z] _ _ := G.re rfl
      exact z_back hQz_ (z_zret C hr hlocks G (Nat.le_of_ble_eq_true rfl) (Nat.le_of_ble_eq_true rfl) dX1_run_22 rfl ⟨([zO1 h po a1_1 v0 la v1 v2 v3 v4 v5 v6 v7, zAr T 0 a1_1 7 fw]), fw, v0, v1, v2, v3, v4, v5, v6, v7, wp, f1, f2, st, wh, rfl, hw_52, hp, hP, (Or.inr ⟨rfl, by unfold zRuF; rw [if_neg (fun q8 => by dsimp only at q8; omega)], rfl, rfl, rfl, rfl, rfl⟩), ⟨rfl, rfl⟩, (fun q8 => absurd q8 (by decide)), (fun _ => ⟨rfl, rfl, rfl, rfl⟩)⟩)
  · have h_7 : (x.toInt < 0 ∨ cr.toInt ≤ x.toInt ∨ 7 ≤ x.toInt) := h_7
    refine lv_if_eq (tgt := 21) hx hb dX1_run_8 (by decide) (fun _ => ?_) (fun q => absurd (by decide) q)
    refine lv_iconst (v := 0) hx hb dX1_run_21 (by decide) ?_
    have hw_53 : bCourse T h po la fw v0 v1 v2 v3 v4 v5 v6 v7 [zO1 h po a1_1 v0 la v1 v2 v3 v4 v5 v6 v7, zAr T 0 a1_1 7 fw] := ⟨a1_1, rfl⟩
    have G : zS T A s.heap s [[zO1 h po a1_1 v0 la v1 v2 v3 v4 v5 v6 v7, zAr T 0 a1_1 7 fw], wp, z] _ _ := G.re rfl
    exact z_back hQz_ (z_zret C hr hlocks G (Nat.le_of_ble_eq_true rfl) (Nat.le_of_ble_eq_true rfl) dX1_run_22 rfl ⟨([zO1 h po a1_1 v0 la v1 v2 v3 v4 v5 v6 v7, zAr T 0 a1_1 7 fw]), fw, v0, v1, v2, v3, v4, v5, v6, v7, wp, f1, f2, st, wh, rfl, hw_53, hp, hP, (Or.inr ⟨rfl, by unfold zRuF; rw [if_neg (fun q8 => by dsimp only at q8; omega)], rfl, rfl, rfl, rfl, rfl⟩), ⟨rfl, rfl⟩, (fun q8 => absurd q8 (by decide)), (fun _ => ⟨rfl, rfl, rfl, rfl⟩)⟩)
set_option maxHeartbeats 4000000 in
set_option maxRecDepth 100000 in
/-- c_x_does -/
theorem c_x_does (l : Launch) (T : zTy) (h : Nat) (po : Nat) (la : Nat) (fw : Nat → Int32) (v0 : Int32) (v1 : Int32) (v2 : Int32) (v3 : Int32) (v4 : Int32) (v5 : Int32) (v6 : Int32) (v7 : Int32) (wc : va_W) (f1 : Nat → Int32) (f2 : Nat → Int32) (f3 : Nat → Int32) (st : Int32) (wh : Int32) (wp : va_W) (cr : Int32) (inn : Int32) (k1 : Nat → Int32) (k2 : Nat → Int32) (k3 : Nat → Int32) (k4 : Nat → Int32) (z : va_W) (d : Int32) (x : Int32) (y : Int32) (hc : bCourse T h po la fw v0 v1 v2 v3 v4 v5 v6 v7 wc) (hp : bPosts T po la f1 f2 f3 st wh wp) (hz : bLand T la cr inn k1 k2 k3 k4 z) (hP : zP3 f1 f3) (hI : zLI cr k1 k3) (hW : ∀ j, j < 7 → f3 j = zWays cr inn k1 (nI j)) (hLq : zLq cr k1 k2) : zMi l T yX1_does cX1_does 5 (some .boolean) 6 0 0 [.ref h, .int d, .int x, .int y] [wc, wp, z] (fun (r : Int32) bs => ∃ (wc2 : va_W) (gw : Nat → Int32) (u0 : Int32) (u1 : Int32) (u2 : Int32) (u3 : Int32) (u4 : Int32) (u5 : Int32) (u6 : Int32) (u7 : Int32) (wp2 : va_W) (g1 : Nat → Int32) (g2 : Nat → Int32) (sa : Int32) (wa : Int32), bs = [wc2, wp2, z] ∧ bCourse T h po la gw u0 u1 u2 u3 u4 u5 u6 u7 wc2 ∧ bPosts T po la g1 g2 f3 sa wa wp2 ∧ zP3 g1 f3 ∧ (r = 1 ∧ zDe cr inn f3 k1 k2 d x y (f1, f2, fw, v0, v1) = some (g1, g2, gw, u0, u1) ∧ u2 = v2 + 1 ∨ r = 0 ∧ zDe cr inn f3 k1 k2 d x y (f1, f2, fw, v0, v1) = none ∧ g1 = f1 ∧ g2 = f2 ∧ gw = fw ∧ u0 = v0 ∧ u1 = v1 ∧ u2 = v2) ∧ u7 = v7 ∧ (r = 1 → (u3, u4, u5, u6) = zXe cr inn f3 k2 d x v2 (f1, f2, fw, v0, v1) (g1, g2, gw, u0, u1) (v3, v4, v5, v6)) ∧ (r = 0 → u3 = v3 ∧ u4 = v4 ∧ u5 = v5 ∧ u6 = v6)) := by
  refine zMi_of (own := RX1) (by decide) rfl (Nat.le_of_ble_eq_true rfl) ?_
  intro p e s m args below meth c A ls C hr hlocks hnm hAe G hl
  refine zHide (fun Qz_ hQz_ => ?_)
  have hx := C.1
  have hb := C.2.1
  have hl : lv_has ls 5 [(0, .ref h), (1, .int d), (2, .int x), (3, .int y)] := hl
  refine lv_iload_n hx hb dX1_does_0 rfl (lv_at hl 1 rfl) ?_
  by_cases c_1o : d.toInt < 0 ∨ 5 < d.toInt
  · refine lv_tableOut (tgt := 114) hx hb dX1_does_1 c_1o (by decide) ?_
    refine lv_iconst (v := 0) hx hb dX1_does_114 (by decide) ?_
    refine lv_istore (lv' := [(4, .int 0), (0, .ref h), (1, .int d), (2, .int x), (3, .int y)]) hx hb dX1_does_115 hl (by decide) (zLvf_h rfl) (fun ls hl => ?_)
    refine lv_iload hx hb dX1_does_117 (lv_at hl 0 rfl) ?_
    refine lv_if_eq (tgt := 136) hx hb dX1_does_119 (by decide) (fun _ => ?_) (fun q => absurd (by decide) q)
    refine lv_iload hx hb dX1_does_136 (lv_at hl 0 rfl) ?_
    exact z_back hQz_ (z_zret C hr hlocks G (Nat.le_of_ble_eq_true rfl) (Nat.le_of_ble_eq_true rfl) dX1_does_138 rfl ⟨wc, fw, v0, v1, v2, v3, v4, v5, v6, v7, wp, f1, f2, st, wh, rfl, hc, hp, hP, (Or.inr ⟨rfl, zDe_kn (by omega), rfl, rfl, rfl, rfl, rfl, rfl⟩), rfl, (fun q8 => absurd q8 (by decide)), (fun _ => ⟨rfl, rfl, rfl, rfl⟩)⟩)
  · have c_1r : d.toInt = 0 ∨ d.toInt = 1 ∨ d.toInt = 2 ∨ d.toInt = 3 ∨ d.toInt = 4 ∨ d.toInt = 5 := by omega
    rcases c_1r with c_1 | c_1 | c_1 | c_1 | c_1 | c_1
    · refine lv_tableIn (tgt := 40) hx hb dX1_does_1 (by first | (rw [c_1]; decide) | omega) (by first | (rw [c_1]; decide) | omega) (by rw [c_1]; rfl) (by decide) ?_
      refine lv_aload_n hx hb dX1_does_40 rfl (lv_at hl 0 rfl) ?_
      refine lv_iload_n hx hb dX1_does_41 rfl (lv_at hl 2 rfl) ?_
      refine z_Vi (bc := [wc, wp, z]) (br := []) (As := [.int x]) (rest := []) C G (c_x_go l T h po la fw v0 v1 v2 v3 v4 v5 v6 v7 wc f1 f2 f3 st wh wp cr inn k1 k2 k3 k4 z x hc hp hz hP hI hW hLq) (kV_RX1_96 C.2.2.2.2 (Nat.le_of_ble_eq_true rfl) (Nat.le_of_ble_eq_true rfl)) [0, 1, 2] [0, 0, 0] rfl rfl (ci := 1) (qc := (RX1, TX1, 11)) rfl rfl (List.mem_flatten.mpr ⟨_, List.mem_of_getElem? (i := 0) rfl, (bCourse_mem hc).choose_spec⟩) rfl rfl hl.1 dX1_does_42 (Nat.le_of_ble_eq_true rfl) (Nat.le_of_ble_eq_true rfl) (fun r_24 b1 H locs hw G => ?_)
      refine zEx15 hw ?_
      intro wc2_2 gw_3 u0_4 u1_5 u2_6 u3_7 u4_8 u5_9 u6_10 u7_11 wp2_12 g1_13 g2_14 sa_15 wa_16
      refine zCu8 ?_
      intro hbs9 h_17 h_18 h_19 h_20 h_21 h_22 h_23
      clear hw
      subst hbs9
      have G : zS T A s.heap s [wc2_2, wp2_12, z] _ _ := G
      replace h_20 : zHd ((r_24 = 1 ∧ zGoF cr f3 k2 x (f1, f2, fw, v0, v1) = some (g1_13, g2_14, gw_3, u0_4, u1_5) ∨ r_24 = 0 ∧ zGoF cr f3 k2 x (f1, f2, fw, v0, v1) = none ∧ g1_13 = f1 ∧ g2_14 = f2 ∧ gw_3 = fw ∧ u0_4 = v0 ∧ u1_5 = v1)) := h_20
      replace h_22 : zHd ((r_24 = 1 → u3_7 = zXf inn v3 v2 x (zStep f1 f2 f3 k2 x) ∧ u4_8 = v4 ∧ u5_9 = zXm v5 x (zStep f1 f2 f3 k2 x) ∧ u6_10 = v6)) := h_22
      replace h_23 : zHd ((r_24 = 0 → u3_7 = v3 ∧ u4_8 = v4 ∧ u5_9 = v5 ∧ u6_10 = v6)) := h_23
      refine lv_istore (lv' := [(4, .int r_24), (0, .ref h), (1, .int d), (2, .int x), (3, .int y)]) hx hb dX1_does_45 hl (by decide) (zLvf_h rfl) (fun ls hl => ?_)
      refine lv_goto (tgt := 117) hx hb dX1_does_47 (by decide) ?_
      refine lv_iload hx hb dX1_does_117 (lv_at hl 0 rfl) ?_
      refine lv_if_eq (tgt := 136) hx hb dX1_does_119 (by decide) (fun c_25 => ?_) (fun c_25 => ?_)
      · have c_25n : r_24.toInt = (0 : Int) := (fa_eq _ _).mp c_25
        have hs := (h_20).resolve_left (fun q8 => by have e8 : r_24.toInt = 1 := (by rw [q8.1]; rfl); omega)
        refine lv_iload hx hb dX1_does_136 (lv_at hl 0 rfl) ?_
        exact z_back hQz_ (z_zret C hr hlocks G (Nat.le_of_ble_eq_true rfl) (Nat.le_of_ble_eq_true rfl) dX1_does_138 (by rcases h_20 with q | q <;> rw [q.1] <;> rfl) ⟨wc2_2, gw_3, u0_4, u1_5, u2_6, u3_7, u4_8, u5_9, u6_10, u7_11, wp2_12, g1_13, g2_14, sa_15, wa_16, rfl, h_17, h_18, (show zP3 g1_13 f3 from h_19), (Or.inr ⟨hs.1, (zDe_k0 (by omega)).trans hs.2.1, hs.2.2.1, hs.2.2.2.1, hs.2.2.2.2.1, hs.2.2.2.2.2.1, hs.2.2.2.2.2.2, h_21.1⟩), h_21.2, (fun q8 => absurd (hs.1.symm.trans q8) (by decide)), (fun _ => h_23 hs.1)⟩)
      · have c_25n : ¬ r_24.toInt = (0 : Int) := fun q => c_25 ((fa_eq _ _).mpr q)
        have hs := (h_20).resolve_right (fun q8 => by have e8 : r_24.toInt = 0 := (by rw [q8.1]; rfl); omega)
        refine lv_aload_n hx hb dX1_does_122 rfl (lv_at hl 1 rfl) ?_
        refine lv_dup hx hb dX1_does_123 rfl ?_
        refine zEx1 h_17 ?_
        intro a1_26 hbs9
        clear h_17
        subst hbs9
        have G : zS T A s.heap s [[zO1 h po a1_26 u0_4 la u1_5 u2_6 u3_7 u4_8 u5_9 u6_10 u7_11], [zAr T 0 a1_26 7 gw_3], wp2_12, z] _ _ := G.re rfl
        refine z_get C G clX1 0 rfl 5 (by decide) m_fl_RX1_41 rfl dX1_does_124 ?_
        refine lv_iconst (v := 1) hx hb dX1_does_127 (by decide) ?_
        refine lv_iadd hx hb dX1_does_128 ?_
        refine z_put C G clX1 0 rfl 5 (by decide) m_fl_RX1_41 rfl rfl rfl (Nat.le_of_ble_eq_true rfl) dX1_does_129 (fun H locs G => ?_)
        have G : zS T A s.heap s [[zO1 h po a1_26 u0_4 la u1_5 (u2_6 + 1) u3_7 u4_8 u5_9 u6_10 u7_11], [zAr T 0 a1_26 7 gw_3], wp2_12, z] _ _ := G
        refine lv_aload_n hx hb dX1_does_132 rfl (lv_at hl 1 rfl) ?_
        have hw_27 : bCourse T h po la gw_3 u0_4 u1_5 (u2_6 + 1) u3_7 u4_8 u5_9 u6_10 u7_11 [zO1 h po a1_26 u0_4 la u1_5 (u2_6 + 1) u3_7 u4_8 u5_9 u6_10 u7_11, zAr T 0 a1_26 7 gw_3] := ⟨a1_26, rfl⟩
        have G : zS T A s.heap s [[zO1 h po a1_26 u0_4 la u1_5 (u2_6 + 1) u3_7 u4_8 u5_9 u6_10 u7_11, zAr T 0 a1_26 7 gw_3], wp2_12, z] _ _ := G.re rfl
        refine z_Vv (bc := [[zO1 h po a1_26 u0_4 la u1_5 (u2_6 + 1) u3_7 u4_8 u5_9 u6_10 u7_11, zAr T 0 a1_26 7 gw_3], z]) (br := [wp2_12]) (As := []) (rest := []) C G (c_x_lookAtCrowd l T h po la gw_3 u0_4 u1_5 (u2_6 + 1) u3_7 u4_8 u5_9 u6_10 u7_11 ([zO1 h po a1_26 u0_4 la u1_5 (u2_6 + 1) u3_7 u4_8 u5_9 u6_10 u7_11, zAr T 0 a1_26 7 gw_3]) cr inn k1 k2 k3 k4 z hw_27 hz (by first | with_reducible assumption | with_reducible rfl | omega | assumption | rfl)) (kV_RX1_56 C.2.2.2.2 (Nat.le_of_ble_eq_true rfl) (Nat.le_of_ble_eq_true rfl)) [0, 2] [0, 1] rfl rfl (ci := 1) (qc := (RX1, TX1, 11)) rfl rfl (List.mem_flatten.mpr ⟨_, List.mem_of_getElem? (i := 0) rfl, (bCourse_mem hw_27).choose_spec⟩) rfl rfl hl.1 dX1_does_133 (Nat.le_of_ble_eq_true rfl) (Nat.le_of_ble_eq_true rfl) (fun b1 H locs hw G => ?_)
        refine zEx2 hw ?_
        intro wc2_28 u6_29
        refine zCu3 ?_
        intro hbs9 h_30 h_31
        clear hw
        subst hbs9
        have G : zS T A s.heap s [wp2_12, wc2_28, z] _ _ := G
        refine lv_iload hx hb dX1_does_136 (lv_at hl 0 rfl) ?_
        have G := G.sub (bs' := [wc2_28, wp2_12, z]) [1, 0, 2] rfl
        exact z_back hQz_ (z_zret C hr hlocks G (Nat.le_of_ble_eq_true rfl) (Nat.le_of_ble_eq_true rfl) dX1_does_138 (by rcases h_20 with q | q <;> rw [q.1] <;> rfl) ⟨wc2_28, gw_3, u0_4, u1_5, (u2_6 + 1), u3_7, u4_8, u5_9, u6_29, u7_11, wp2_12, g1_13, g2_14, sa_15, wa_16, rfl, h_30, h_18, (show zP3 g1_13 f3 from h_19), (Or.inl ⟨hs.1, (zDe_k0 (by omega)).trans hs.2, by rw [h_21.1]⟩), h_21.2, (fun _ => by rw [zXe_0 (by omega)]; have q7 := h_22 hs.1; rw [q7.1, q7.2.1, q7.2.2.1, h_31, q7.2.2.2]), (fun q8 => absurd (hs.1.symm.trans q8) (by decide))⟩)
    · refine lv_tableIn (tgt := 50) hx hb dX1_does_1 (by first | (rw [c_1]; decide) | omega) (by first | (rw [c_1]; decide) | omega) (by rw [c_1]; rfl) (by decide) ?_
      refine lv_aload_n hx hb dX1_does_50 rfl (lv_at hl 0 rfl) ?_
      refine lv_iload_n hx hb dX1_does_51 rfl (lv_at hl 2 rfl) ?_
      refine z_Vi (bc := [wc, wp, z]) (br := []) (As := [.int x]) (rest := []) C G (c_x_Course_run l T h po la fw v0 v1 v2 v3 v4 v5 v6 v7 wc f1 f2 f3 st wh wp cr inn k1 k2 k3 k4 z x hc hp hz hP hI hW hLq) (kV_RX1_92 C.2.2.2.2 (Nat.le_of_ble_eq_true rfl) (Nat.le_of_ble_eq_true rfl)) [0, 1, 2] [0, 0, 0] rfl rfl (ci := 1) (qc := (RX1, TX1, 11)) rfl rfl (List.mem_flatten.mpr ⟨_, List.mem_of_getElem? (i := 0) rfl, (bCourse_mem hc).choose_spec⟩) rfl rfl hl.1 dX1_does_52 (Nat.le_of_ble_eq_true rfl) (Nat.le_of_ble_eq_true rfl) (fun r_55 b1 H locs hw G => ?_)
      refine zEx15 hw ?_
      intro wc2_33 gw_34 u0_35 u1_36 u2_37 u3_38 u4_39 u5_40 u6_41 u7_42 wp2_43 g1_44 g2_45 sa_46 wa_47
      refine zCu8 ?_
      intro hbs9 h_48 h_49 h_50 h_51 h_52 h_53 h_54
      clear hw
      subst hbs9
      have G : zS T A s.heap s [wc2_33, wp2_43, z] _ _ := G
      replace h_51 : zHd ((r_55 = 1 ∧ zRuF cr inn f3 k2 x (f1, f2, fw, v0, v1) = some (g1_44, g2_45, gw_34, u0_35, u1_36) ∨ r_55 = 0 ∧ zRuF cr inn f3 k2 x (f1, f2, fw, v0, v1) = none ∧ g1_44 = f1 ∧ g2_45 = f2 ∧ gw_34 = fw ∧ u0_35 = v0 ∧ u1_36 = v1)) := h_51
      replace h_53 : zHd ((r_55 = 1 → u3_38 = zXf inn v3 v2 x (zRunN f2 f3 k2 499 f1 x 0).2.1 ∧ u4_39 = zXl v4 (nI (zRunN f2 f3 k2 499 f1 x 0).2.2) ∧ u5_40 = zXm v5 x (zRunN f2 f3 k2 499 f1 x 0).2.1 ∧ u6_41 = v6)) := h_53
      replace h_54 : zHd ((r_55 = 0 → u3_38 = v3 ∧ u4_39 = v4 ∧ u5_40 = v5 ∧ u6_41 = v6)) := h_54
      refine lv_istore (lv' := [(4, .int r_55), (0, .ref h), (1, .int d), (2, .int x), (3, .int y)]) hx hb dX1_does_55 hl (by decide) (zLvf_h rfl) (fun ls hl => ?_)
      refine lv_goto (tgt := 117) hx hb dX1_does_57 (by decide) ?_
      refine lv_iload hx hb dX1_does_117 (lv_at hl 0 rfl) ?_
      refine lv_if_eq (tgt := 136) hx hb dX1_does_119 (by decide) (fun c_56 => ?_) (fun c_56 => ?_)
      · have c_56n : r_55.toInt = (0 : Int) := (fa_eq _ _).mp c_56
        have hs := (h_51).resolve_left (fun q8 => by have e8 : r_55.toInt = 1 := (by rw [q8.1]; rfl); omega)
        refine lv_iload hx hb dX1_does_136 (lv_at hl 0 rfl) ?_
        exact z_back hQz_ (z_zret C hr hlocks G (Nat.le_of_ble_eq_true rfl) (Nat.le_of_ble_eq_true rfl) dX1_does_138 (by rcases h_51 with q | q <;> rw [q.1] <;> rfl) ⟨wc2_33, gw_34, u0_35, u1_36, u2_37, u3_38, u4_39, u5_40, u6_41, u7_42, wp2_43, g1_44, g2_45, sa_46, wa_47, rfl, h_48, h_49, (show zP3 g1_44 f3 from h_50), (Or.inr ⟨hs.1, (zDe_k1 (by omega)).trans hs.2.1, hs.2.2.1, hs.2.2.2.1, hs.2.2.2.2.1, hs.2.2.2.2.2.1, hs.2.2.2.2.2.2, h_52.1⟩), h_52.2, (fun q8 => absurd (hs.1.symm.trans q8) (by decide)), (fun _ => h_54 hs.1)⟩)
      · have c_56n : ¬ r_55.toInt = (0 : Int) := fun q => c_56 ((fa_eq _ _).mpr q)
        have hs := (h_51).resolve_right (fun q8 => by have e8 : r_55.toInt = 0 := (by rw [q8.1]; rfl); omega)
        refine lv_aload_n hx hb dX1_does_122 rfl (lv_at hl 1 rfl) ?_
        refine lv_dup hx hb dX1_does_123 rfl ?_
        refine zEx1 h_48 ?_
        intro a1_57 hbs9
        clear h_48
        subst hbs9
        have G : zS T A s.heap s [[zO1 h po a1_57 u0_35 la u1_36 u2_37 u3_38 u4_39 u5_40 u6_41 u7_42], [zAr T 0 a1_57 7 gw_34], wp2_43, z] _ _ := G.re rfl
        refine z_get C G clX1 0 rfl 5 (by decide) m_fl_RX1_41 rfl dX1_does_124 ?_
        refine lv_iconst (v := 1) hx hb dX1_does_127 (by decide) ?_
        refine lv_iadd hx hb dX1_does_128 ?_
        refine z_put C G clX1 0 rfl 5 (by decide) m_fl_RX1_41 rfl rfl rfl (Nat.le_of_ble_eq_true rfl) dX1_does_129 (fun H locs G => ?_)
        have G : zS T A s.heap s [[zO1 h po a1_57 u0_35 la u1_36 (u2_37 + 1) u3_38 u4_39 u5_40 u6_41 u7_42], [zAr T 0 a1_57 7 gw_34], wp2_43, z] _ _ := G
        refine lv_aload_n hx hb dX1_does_132 rfl (lv_at hl 1 rfl) ?_
        have hw_58 : bCourse T h po la gw_34 u0_35 u1_36 (u2_37 + 1) u3_38 u4_39 u5_40 u6_41 u7_42 [zO1 h po a1_57 u0_35 la u1_36 (u2_37 + 1) u3_38 u4_39 u5_40 u6_41 u7_42, zAr T 0 a1_57 7 gw_34] := ⟨a1_57, rfl⟩
        have G : zS T A s.heap s [[zO1 h po a1_57 u0_35 la u1_36 (u2_37 + 1) u3_38 u4_39 u5_40 u6_41 u7_42, zAr T 0 a1_57 7 gw_34], wp2_43, z] _ _ := G.re rfl
        refine z_Vv (bc := [[zO1 h po a1_57 u0_35 la u1_36 (u2_37 + 1) u3_38 u4_39 u5_40 u6_41 u7_42, zAr T 0 a1_57 7 gw_34], z]) (br := [wp2_43]) (As := []) (rest := []) C G (c_x_lookAtCrowd l T h po la gw_34 u0_35 u1_36 (u2_37 + 1) u3_38 u4_39 u5_40 u6_41 u7_42 ([zO1 h po a1_57 u0_35 la u1_36 (u2_37 + 1) u3_38 u4_39 u5_40 u6_41 u7_42, zAr T 0 a1_57 7 gw_34]) cr inn k1 k2 k3 k4 z hw_58 hz (by first | with_reducible assumption | with_reducible rfl | omega | assumption | rfl)) (kV_RX1_56 C.2.2.2.2 (Nat.le_of_ble_eq_true rfl) (Nat.le_of_ble_eq_true rfl)) [0, 2] [0, 1] rfl rfl (ci := 1) (qc := (RX1, TX1, 11)) rfl rfl (List.mem_flatten.mpr ⟨_, List.mem_of_getElem? (i := 0) rfl, (bCourse_mem hw_58).choose_spec⟩) rfl rfl hl.1 dX1_does_133 (Nat.le_of_ble_eq_true rfl) (Nat.le_of_ble_eq_true rfl) (fun b1 H locs hw G => ?_)
        refine zEx2 hw ?_
        intro wc2_59 u6_60
        refine zCu3 ?_
        intro hbs9 h_61 h_62
        clear hw
        subst hbs9
        have G : zS T A s.heap s [wp2_43, wc2_59, z] _ _ := G
        refine lv_iload hx hb dX1_does_136 (lv_at hl 0 rfl) ?_
        have G := G.sub (bs' := [wc2_59, wp2_43, z]) [1, 0, 2] rfl
        exact z_back hQz_ (z_zret C hr hlocks G (Nat.le_of_ble_eq_true rfl) (Nat.le_of_ble_eq_true rfl) dX1_does_138 (by rcases h_51 with q | q <;> rw [q.1] <;> rfl) ⟨wc2_59, gw_34, u0_35, u1_36, (u2_37 + 1), u3_38, u4_39, u5_40, u6_60, u7_42, wp2_43, g1_44, g2_45, sa_46, wa_47, rfl, h_61, h_49, (show zP3 g1_44 f3 from h_50), (Or.inl ⟨hs.1, (zDe_k1 (by omega)).trans hs.2, by rw [h_52.1]⟩), h_52.2, (fun _ => by rw [zXe_1 (by omega)]; have q7 := h_53 hs.1; rw [q7.1, q7.2.1, q7.2.2.1, h_62, q7.2.2.2]), (fun q8 => absurd (hs.1.symm.trans q8) (by decide))⟩)
    · refine lv_tableIn (tgt := 60) hx hb dX1_does_1 (by first | (rw [c_1]; decide) | omega) (by first | (rw [c_1]; decide) | omega) (by rw [c_1]; rfl) (by decide) ?_
      refine lv_aload_n hx hb dX1_does_60 rfl (lv_at hl 0 rfl) ?_
      refine zEx1 hc ?_
      intro a1_64 hbs9
      clear hc
      subst hbs9
      have G : zS T A s.heap s [[zO1 h po a1_64 v0 la v1 v2 v3 v4 v5 v6 v7], [zAr T 0 a1_64 7 fw], wp, z] _ _ := G.re rfl
      refine z_get C G clX1 0 rfl 0 (by decide) m_fl_RX1_12 rfl dX1_does_61 ?_
      refine lv_iload_n hx hb dX1_does_64 rfl (lv_at hl 2 rfl) ?_
      refine z_Vi (bc := [wp]) (br := [[zO1 h po a1_64 v0 la v1 v2 v3 v4 v5 v6 v7], [zAr T 0 a1_64 7 fw], z]) (As := [.int x]) (rest := []) C G (c_turn l T po la f1 f2 f3 st wh wp x hp hP) (kV_RX1_99 C.2.2.2.2 (Nat.le_of_ble_eq_true rfl) (Nat.le_of_ble_eq_true rfl)) [2] [2] rfl rfl (ci := 6) (qc := (RX6, TX6, 6)) rfl rfl (List.mem_flatten.mpr ⟨_, List.mem_of_getElem? (i := 0) rfl, (bPosts_mem hp).choose_spec⟩) rfl rfl hl.1 dX1_does_65 (Nat.le_of_ble_eq_true rfl) (Nat.le_of_ble_eq_true rfl) (fun r_70 b1 H locs hw G => ?_)
      refine zEx2 hw ?_
      intro w2_65 g1_66
      refine zCu4 ?_
      intro hbs9 h_67 h_68 h_69
      clear hw
      subst hbs9
      have G : zS T A s.heap s [[zO1 h po a1_64 v0 la v1 v2 v3 v4 v5 v6 v7], [zAr T 0 a1_64 7 fw], z, w2_65] _ _ := G
      subst h_67
      have hQt : zP3 g1_66 f3 := by rw [h_69]; exact zPost_I hP _
      refine lv_iconst (v := (-1)) hx hb dX1_does_68 (by decide) ?_
      refine lv_icmp_eq (tgt := 76) hx hb dX1_does_69 (by decide) (fun c_71 => ?_) (fun c_71 => ?_)
      · have c_71n : (zTurn f1 f2 f3 x).toInt = (-1 : Int) := (fa_eq _ _).mp c_71
        refine lv_iconst (v := 0) hx hb dX1_does_76 (by decide) ?_
        refine lv_istore (lv' := [(4, .int 0), (0, .ref h), (1, .int d), (2, .int x), (3, .int y)]) hx hb dX1_does_77 hl (by decide) (zLvf_h rfl) (fun ls hl => ?_)
        refine lv_goto (tgt := 117) hx hb dX1_does_79 (by decide) ?_
        refine lv_iload hx hb dX1_does_117 (lv_at hl 0 rfl) ?_
        refine lv_if_eq (tgt := 136) hx hb dX1_does_119 (by decide) (fun _ => ?_) (fun q => absurd (by decide) q)
        refine lv_iload hx hb dX1_does_136 (lv_at hl 0 rfl) ?_
        have hw_72 : bCourse T h po la fw v0 v1 v2 v3 v4 v5 v6 v7 [zO1 h po a1_64 v0 la v1 v2 v3 v4 v5 v6 v7, zAr T 0 a1_64 7 fw] := ⟨a1_64, rfl⟩
        have G : zS T A s.heap s [[zO1 h po a1_64 v0 la v1 v2 v3 v4 v5 v6 v7, zAr T 0 a1_64 7 fw], z, w2_65] _ _ := G.re rfl
        have G := G.sub (bs' := [[zO1 h po a1_64 v0 la v1 v2 v3 v4 v5 v6 v7, zAr T 0 a1_64 7 fw], w2_65, z]) [0, 2, 1] rfl
        exact z_back hQz_ (z_zret C hr hlocks G (Nat.le_of_ble_eq_true rfl) (Nat.le_of_ble_eq_true rfl) dX1_does_138 rfl ⟨([zO1 h po a1_64 v0 la v1 v2 v3 v4 v5 v6 v7, zAr T 0 a1_64 7 fw]), fw, v0, v1, v2, v3, v4, v5, v6, v7, w2_65, g1_66, f2, st, wh, rfl, hw_72, h_68, hQt, (Or.inr ⟨rfl, (zDe_k2 (by omega)).trans (zTuF_n (by first | with_reducible assumption | assumption) h_69).1, (zTuF_n (cr := cr) (H := fw) (st := v0) (nv := v1) (by first | with_reducible assumption | assumption) h_69).2, rfl, rfl, rfl, rfl, rfl⟩), rfl, (fun q8 => absurd q8 (by decide)), (fun _ => ⟨rfl, rfl, rfl, rfl⟩)⟩)
      · have c_71n : ¬ (zTurn f1 f2 f3 x).toInt = (-1 : Int) := fun q => c_71 ((fa_eq _ _).mpr q)
        refine lv_iconst (v := 1) hx hb dX1_does_72 (by decide) ?_
        refine lv_goto (tgt := 77) hx hb dX1_does_73 (by decide) ?_
        refine lv_istore (lv' := [(4, .int 1), (0, .ref h), (1, .int d), (2, .int x), (3, .int y)]) hx hb dX1_does_77 hl (by decide) (zLvf_h rfl) (fun ls hl => ?_)
        refine lv_goto (tgt := 117) hx hb dX1_does_79 (by decide) ?_
        refine lv_iload hx hb dX1_does_117 (lv_at hl 0 rfl) ?_
        refine lv_if_eq (tgt := 136) hx hb dX1_does_119 (by decide) (fun q => absurd q (by decide)) (fun _ => ?_)
        refine lv_aload_n hx hb dX1_does_122 rfl (lv_at hl 1 rfl) ?_
        refine lv_dup hx hb dX1_does_123 rfl ?_
        refine z_get C G clX1 0 rfl 5 (by decide) m_fl_RX1_41 rfl dX1_does_124 ?_
        refine lv_iconst (v := 1) hx hb dX1_does_127 (by decide) ?_
        refine lv_iadd hx hb dX1_does_128 ?_
        refine z_put C G clX1 0 rfl 5 (by decide) m_fl_RX1_41 rfl rfl rfl (Nat.le_of_ble_eq_true rfl) dX1_does_129 (fun H locs G => ?_)
        have G : zS T A s.heap s [[zO1 h po a1_64 v0 la v1 (v2 + 1) v3 v4 v5 v6 v7], [zAr T 0 a1_64 7 fw], z, w2_65] _ _ := G
        refine lv_aload_n hx hb dX1_does_132 rfl (lv_at hl 1 rfl) ?_
        have hw_73 : bCourse T h po la fw v0 v1 (v2 + 1) v3 v4 v5 v6 v7 [zO1 h po a1_64 v0 la v1 (v2 + 1) v3 v4 v5 v6 v7, zAr T 0 a1_64 7 fw] := ⟨a1_64, rfl⟩
        have G : zS T A s.heap s [[zO1 h po a1_64 v0 la v1 (v2 + 1) v3 v4 v5 v6 v7, zAr T 0 a1_64 7 fw], z, w2_65] _ _ := G.re rfl
        refine z_Vv (bc := [[zO1 h po a1_64 v0 la v1 (v2 + 1) v3 v4 v5 v6 v7, zAr T 0 a1_64 7 fw], z]) (br := [w2_65]) (As := []) (rest := []) C G (c_x_lookAtCrowd l T h po la fw v0 v1 (v2 + 1) v3 v4 v5 v6 v7 ([zO1 h po a1_64 v0 la v1 (v2 + 1) v3 v4 v5 v6 v7, zAr T 0 a1_64 7 fw]) cr inn k1 k2 k3 k4 z hw_73 hz (by first | with_reducible assumption | with_reducible rfl | omega | assumption | rfl)) (kV_RX1_56 C.2.2.2.2 (Nat.le_of_ble_eq_true rfl) (Nat.le_of_ble_eq_true rfl)) [0, 1] [0, 0] rfl rfl (ci := 1) (qc := (RX1, TX1, 11)) rfl rfl (List.mem_flatten.mpr ⟨_, List.mem_of_getElem? (i := 0) rfl, (bCourse_mem hw_73).choose_spec⟩) rfl rfl hl.1 dX1_does_133 (Nat.le_of_ble_eq_true rfl) (Nat.le_of_ble_eq_true rfl) (fun b1 H locs hw G => ?_)
        refine zEx2 hw ?_
        intro wc2_74 u6_75
        refine zCu3 ?_
        intro hbs9 h_76 h_77
        clear hw
        subst hbs9
        have G : zS T A s.heap s [w2_65, wc2_74, z] _ _ := G
        refine lv_iload hx hb dX1_does_136 (lv_at hl 0 rfl) ?_
        have G := G.sub (bs' := [wc2_74, w2_65, z]) [1, 0, 2] rfl
        exact z_back hQz_ (z_zret C hr hlocks G (Nat.le_of_ble_eq_true rfl) (Nat.le_of_ble_eq_true rfl) dX1_does_138 rfl ⟨wc2_74, fw, v0, v1, (v2 + 1), v3, v4, v5, u6_75, v7, w2_65, g1_66, f2, st, wh, rfl, h_76, h_68, hQt, (Or.inl ⟨rfl, (zDe_k2 (by omega)).trans (zTuF_i ⟨zTurn_has hP hW (by first | with_reducible assumption | assumption), by first | with_reducible assumption | assumption⟩ h_69), rfl⟩), rfl, (fun _ => by rw [zXe_o ⟨by omega, by omega⟩, h_77]), (fun q8 => absurd ((rfl : (1 : Int32) = 1).symm.trans q8) (by decide))⟩)
    · refine lv_tableIn (tgt := 82) hx hb dX1_does_1 (by first | (rw [c_1]; decide) | omega) (by first | (rw [c_1]; decide) | omega) (by rw [c_1]; rfl) (by decide) ?_
      refine lv_aload_n hx hb dX1_does_82 rfl (lv_at hl 0 rfl) ?_
      refine lv_iload_n hx hb dX1_does_83 rfl (lv_at hl 2 rfl) ?_
      refine z_Vi (bc := [wc, z]) (br := [wp]) (As := [.int x]) (rest := []) C G (c_f_Course_add l T h po la fw v0 v1 v2 v3 v4 v5 v6 v7 wc cr inn k1 k2 k3 k4 z x hc hz) (kV_RX1_102 C.2.2.2.2 (Nat.le_of_ble_eq_true rfl) (Nat.le_of_ble_eq_true rfl)) [0, 2] [0, 1] rfl rfl (ci := 1) (qc := (RX1, TX1, 11)) rfl rfl (List.mem_flatten.mpr ⟨_, List.mem_of_getElem? (i := 0) rfl, (bCourse_mem hc).choose_spec⟩) rfl rfl hl.1 dX1_does_84 (Nat.le_of_ble_eq_true rfl) (Nat.le_of_ble_eq_true rfl) (fun r_83 b1 H locs hw G => ?_)
      refine zEx2 hw ?_
      intro wc2_79 gw_80
      refine zCu3 ?_
      intro hbs9 h_81 h_82
      clear hw
      subst hbs9
      have G : zS T A s.heap s [wp, wc2_79, z] _ _ := G
      refine lv_istore (lv' := [(4, .int r_83), (0, .ref h), (1, .int d), (2, .int x), (3, .int y)]) hx hb dX1_does_87 hl (by decide) (zLvf_h rfl) (fun ls hl => ?_)
      refine lv_goto (tgt := 117) hx hb dX1_does_89 (by decide) ?_
      refine lv_iload hx hb dX1_does_117 (lv_at hl 0 rfl) ?_
      refine lv_if_eq (tgt := 136) hx hb dX1_does_119 (by decide) (fun c_84 => ?_) (fun c_84 => ?_)
      · have c_84n : r_83.toInt = (0 : Int) := (fa_eq _ _).mp c_84
        have hs := (h_82 f1 f2).resolve_left (fun q8 => by have e8 : r_83.toInt = 1 := (by rw [q8.1]; rfl); omega)
        refine lv_iload hx hb dX1_does_136 (lv_at hl 0 rfl) ?_
        have G := G.sub (bs' := [wc2_79, wp, z]) [1, 0, 2] rfl
        exact z_back hQz_ (z_zret C hr hlocks G (Nat.le_of_ble_eq_true rfl) (Nat.le_of_ble_eq_true rfl) dX1_does_138 (by rcases h_82 f1 f2 with q | q <;> rw [q.1] <;> rfl) ⟨wc2_79, gw_80, v0, v1, v2, v3, v4, v5, v6, v7, wp, f1, f2, st, wh, rfl, h_81, hp, hP, (Or.inr ⟨hs.1, (zDe_k3 (by omega)).trans hs.2.1, rfl, rfl, hs.2.2, rfl, rfl, rfl⟩), rfl, (fun q8 => absurd (hs.1.symm.trans q8) (by decide)), (fun _ => ⟨rfl, rfl, rfl, rfl⟩)⟩)
      · have c_84n : ¬ r_83.toInt = (0 : Int) := fun q => c_84 ((fa_eq _ _).mpr q)
        have hs := (h_82 f1 f2).resolve_right (fun q8 => by have e8 : r_83.toInt = 0 := (by rw [q8.1]; rfl); omega)
        refine lv_aload_n hx hb dX1_does_122 rfl (lv_at hl 1 rfl) ?_
        refine lv_dup hx hb dX1_does_123 rfl ?_
        refine zEx1 h_81 ?_
        intro a1_85 hbs9
        clear h_81
        subst hbs9
        have G : zS T A s.heap s [wp, [zO1 h po a1_85 v0 la v1 v2 v3 v4 v5 v6 v7], [zAr T 0 a1_85 7 gw_80], z] _ _ := G.re rfl
        refine z_get C G clX1 1 rfl 5 (by decide) m_fl_RX1_41 rfl dX1_does_124 ?_
        refine lv_iconst (v := 1) hx hb dX1_does_127 (by decide) ?_
        refine lv_iadd hx hb dX1_does_128 ?_
        refine z_put C G clX1 1 rfl 5 (by decide) m_fl_RX1_41 rfl rfl rfl (Nat.le_of_ble_eq_true rfl) dX1_does_129 (fun H locs G => ?_)
        have G : zS T A s.heap s [wp, [zO1 h po a1_85 v0 la v1 (v2 + 1) v3 v4 v5 v6 v7], [zAr T 0 a1_85 7 gw_80], z] _ _ := G
        refine lv_aload_n hx hb dX1_does_132 rfl (lv_at hl 1 rfl) ?_
        have hw_86 : bCourse T h po la gw_80 v0 v1 (v2 + 1) v3 v4 v5 v6 v7 [zO1 h po a1_85 v0 la v1 (v2 + 1) v3 v4 v5 v6 v7, zAr T 0 a1_85 7 gw_80] := ⟨a1_85, rfl⟩
        have G : zS T A s.heap s [wp, [zO1 h po a1_85 v0 la v1 (v2 + 1) v3 v4 v5 v6 v7, zAr T 0 a1_85 7 gw_80], z] _ _ := G.re rfl
        refine z_Vv (bc := [[zO1 h po a1_85 v0 la v1 (v2 + 1) v3 v4 v5 v6 v7, zAr T 0 a1_85 7 gw_80], z]) (br := [wp]) (As := []) (rest := []) C G (c_x_lookAtCrowd l T h po la gw_80 v0 v1 (v2 + 1) v3 v4 v5 v6 v7 ([zO1 h po a1_85 v0 la v1 (v2 + 1) v3 v4 v5 v6 v7, zAr T 0 a1_85 7 gw_80]) cr inn k1 k2 k3 k4 z hw_86 hz (by first | with_reducible assumption | with_reducible rfl | omega | assumption | rfl)) (kV_RX1_56 C.2.2.2.2 (Nat.le_of_ble_eq_true rfl) (Nat.le_of_ble_eq_true rfl)) [1, 2] [1, 0] rfl rfl (ci := 1) (qc := (RX1, TX1, 11)) rfl rfl (List.mem_flatten.mpr ⟨_, List.mem_of_getElem? (i := 0) rfl, (bCourse_mem hw_86).choose_spec⟩) rfl rfl hl.1 dX1_does_133 (Nat.le_of_ble_eq_true rfl) (Nat.le_of_ble_eq_true rfl) (fun b1 H locs hw G => ?_)
        refine zEx2 hw ?_
        intro wc2_87 u6_88
        refine zCu3 ?_
        intro hbs9 h_89 h_90
        clear hw
        subst hbs9
        have G : zS T A s.heap s [wp, wc2_87, z] _ _ := G
        refine lv_iload hx hb dX1_does_136 (lv_at hl 0 rfl) ?_
        have G := G.sub (bs' := [wc2_87, wp, z]) [1, 0, 2] rfl
        exact z_back hQz_ (z_zret C hr hlocks G (Nat.le_of_ble_eq_true rfl) (Nat.le_of_ble_eq_true rfl) dX1_does_138 (by rcases h_82 f1 f2 with q | q <;> rw [q.1] <;> rfl) ⟨wc2_87, gw_80, v0, v1, (v2 + 1), v3, v4, v5, u6_88, v7, wp, f1, f2, st, wh, rfl, h_89, hp, hP, (Or.inl ⟨hs.1, (zDe_k3 (by omega)).trans hs.2, rfl⟩), rfl, (fun _ => by rw [zXe_o ⟨by omega, by omega⟩, h_90]), (fun q8 => absurd (hs.1.symm.trans q8) (by decide))⟩)
    · refine lv_tableIn (tgt := 92) hx hb dX1_does_1 (by first | (rw [c_1]; decide) | omega) (by first | (rw [c_1]; decide) | omega) (by rw [c_1]; rfl) (by decide) ?_
      refine lv_aload_n hx hb dX1_does_92 rfl (lv_at hl 0 rfl) ?_
      refine lv_iload_n hx hb dX1_does_93 rfl (lv_at hl 2 rfl) ?_
      refine lv_iload_n hx hb dX1_does_94 rfl (lv_at hl 3 rfl) ?_
      refine z_Vi (bc := [wc, wp, z]) (br := []) (As := [.int x, .int y]) (rest := []) C G (c_f_Course_shut l T h po la fw v0 v1 v2 v3 v4 v5 v6 v7 wc f1 f2 f3 st wh wp cr inn k1 k2 k3 k4 z x y hc hp hz) (kV_RX1_105 C.2.2.2.2 (Nat.le_of_ble_eq_true rfl) (Nat.le_of_ble_eq_true rfl)) [0, 1, 2] [0, 0, 0] rfl rfl (ci := 1) (qc := (RX1, TX1, 11)) rfl rfl (List.mem_flatten.mpr ⟨_, List.mem_of_getElem? (i := 0) rfl, (bCourse_mem hc).choose_spec⟩) rfl rfl hl.1 dX1_does_95 (Nat.le_of_ble_eq_true rfl) (Nat.le_of_ble_eq_true rfl) (fun r_96 b1 H locs hw G => ?_)
      refine zEx2 hw ?_
      intro wp2_92 g2_93
      refine zCu3 ?_
      intro hbs9 h_94 h_95
      clear hw
      subst hbs9
      have G : zS T A s.heap s [wc, wp2_92, z] _ _ := G
      refine lv_istore (lv' := [(4, .int r_96), (0, .ref h), (1, .int d), (2, .int x), (3, .int y)]) hx hb dX1_does_98 hl (by decide) (zLvf_h rfl) (fun ls hl => ?_)
      refine lv_goto (tgt := 117) hx hb dX1_does_100 (by decide) ?_
      refine lv_iload hx hb dX1_does_117 (lv_at hl 0 rfl) ?_
      refine lv_if_eq (tgt := 136) hx hb dX1_does_119 (by decide) (fun c_97 => ?_) (fun c_97 => ?_)
      · have c_97n : r_96.toInt = (0 : Int) := (fa_eq _ _).mp c_97
        have hs := (h_95 fw v0 v1).resolve_left (fun q8 => by have e8 : r_96.toInt = 1 := (by rw [q8.1]; rfl); omega)
        refine lv_iload hx hb dX1_does_136 (lv_at hl 0 rfl) ?_
        exact z_back hQz_ (z_zret C hr hlocks G (Nat.le_of_ble_eq_true rfl) (Nat.le_of_ble_eq_true rfl) dX1_does_138 (by rcases h_95 fw v0 v1 with q | q <;> rw [q.1] <;> rfl) ⟨wc, fw, v0, v1, v2, v3, v4, v5, v6, v7, wp2_92, f1, g2_93, st, wh, rfl, hc, h_94, hP, (Or.inr ⟨hs.1, (zDe_k4 (by omega)).trans hs.2.1, rfl, hs.2.2, rfl, rfl, rfl, rfl⟩), rfl, (fun q8 => absurd (hs.1.symm.trans q8) (by decide)), (fun _ => ⟨rfl, rfl, rfl, rfl⟩)⟩)
      · have c_97n : ¬ r_96.toInt = (0 : Int) := fun q => c_97 ((fa_eq _ _).mpr q)
        have hs := (h_95 fw v0 v1).resolve_right (fun q8 => by have e8 : r_96.toInt = 0 := (by rw [q8.1]; rfl); omega)
        refine lv_aload_n hx hb dX1_does_122 rfl (lv_at hl 1 rfl) ?_
        refine lv_dup hx hb dX1_does_123 rfl ?_
        refine zEx1 hc ?_
        intro a1_98 hbs9
        clear hc
        subst hbs9
        have G : zS T A s.heap s [[zO1 h po a1_98 v0 la v1 v2 v3 v4 v5 v6 v7], [zAr T 0 a1_98 7 fw], wp2_92, z] _ _ := G.re rfl
        refine z_get C G clX1 0 rfl 5 (by decide) m_fl_RX1_41 rfl dX1_does_124 ?_
        refine lv_iconst (v := 1) hx hb dX1_does_127 (by decide) ?_
        refine lv_iadd hx hb dX1_does_128 ?_
        refine z_put C G clX1 0 rfl 5 (by decide) m_fl_RX1_41 rfl rfl rfl (Nat.le_of_ble_eq_true rfl) dX1_does_129 (fun H locs G => ?_)
        have G : zS T A s.heap s [[zO1 h po a1_98 v0 la v1 (v2 + 1) v3 v4 v5 v6 v7], [zAr T 0 a1_98 7 fw], wp2_92, z] _ _ := G
        refine lv_aload_n hx hb dX1_does_132 rfl (lv_at hl 1 rfl) ?_
        have hw_99 : bCourse T h po la fw v0 v1 (v2 + 1) v3 v4 v5 v6 v7 [zO1 h po a1_98 v0 la v1 (v2 + 1) v3 v4 v5 v6 v7, zAr T 0 a1_98 7 fw] := ⟨a1_98, rfl⟩
        have G : zS T A s.heap s [[zO1 h po a1_98 v0 la v1 (v2 + 1) v3 v4 v5 v6 v7, zAr T 0 a1_98 7 fw], wp2_92, z] _ _ := G.re rfl
        refine z_Vv (bc := [[zO1 h po a1_98 v0 la v1 (v2 + 1) v3 v4 v5 v6 v7, zAr T 0 a1_98 7 fw], z]) (br := [wp2_92]) (As := []) (rest := []) C G (c_x_lookAtCrowd l T h po la fw v0 v1 (v2 + 1) v3 v4 v5 v6 v7 ([zO1 h po a1_98 v0 la v1 (v2 + 1) v3 v4 v5 v6 v7, zAr T 0 a1_98 7 fw]) cr inn k1 k2 k3 k4 z hw_99 hz (by first | with_reducible assumption | with_reducible rfl | omega | assumption | rfl)) (kV_RX1_56 C.2.2.2.2 (Nat.le_of_ble_eq_true rfl) (Nat.le_of_ble_eq_true rfl)) [0, 2] [0, 1] rfl rfl (ci := 1) (qc := (RX1, TX1, 11)) rfl rfl (List.mem_flatten.mpr ⟨_, List.mem_of_getElem? (i := 0) rfl, (bCourse_mem hw_99).choose_spec⟩) rfl rfl hl.1 dX1_does_133 (Nat.le_of_ble_eq_true rfl) (Nat.le_of_ble_eq_true rfl) (fun b1 H locs hw G => ?_)
        refine zEx2 hw ?_
        intro wc2_100 u6_101
        refine zCu3 ?_
        intro hbs9 h_102 h_103
        clear hw
        subst hbs9
        have G : zS T A s.heap s [wp2_92, wc2_100, z] _ _ := G
        refine lv_iload hx hb dX1_does_136 (lv_at hl 0 rfl) ?_
        have G := G.sub (bs' := [wc2_100, wp2_92, z]) [1, 0, 2] rfl
        exact z_back hQz_ (z_zret C hr hlocks G (Nat.le_of_ble_eq_true rfl) (Nat.le_of_ble_eq_true rfl) dX1_does_138 (by rcases h_95 fw v0 v1 with q | q <;> rw [q.1] <;> rfl) ⟨wc2_100, fw, v0, v1, (v2 + 1), v3, v4, v5, u6_101, v7, wp2_92, f1, g2_93, st, wh, rfl, h_102, h_94, hP, (Or.inl ⟨hs.1, (zDe_k4 (by omega)).trans hs.2, rfl⟩), rfl, (fun _ => by rw [zXe_o ⟨by omega, by omega⟩, h_103]), (fun q8 => absurd (hs.1.symm.trans q8) (by decide))⟩)
    · refine lv_tableIn (tgt := 103) hx hb dX1_does_1 (by first | (rw [c_1]; decide) | omega) (by first | (rw [c_1]; decide) | omega) (by rw [c_1]; rfl) (by decide) ?_
      refine lv_aload_n hx hb dX1_does_103 rfl (lv_at hl 0 rfl) ?_
      refine lv_iload_n hx hb dX1_does_104 rfl (lv_at hl 2 rfl) ?_
      refine lv_iload_n hx hb dX1_does_105 rfl (lv_at hl 3 rfl) ?_
      refine z_Vi (bc := [wc, wp, z]) (br := []) (As := [.int x, .int y]) (rest := []) C G (c_f_Course_open l T h po la fw v0 v1 v2 v3 v4 v5 v6 v7 wc f1 f2 f3 st wh wp cr inn k1 k2 k3 k4 z x y hc hp hz) (kV_RX1_109 C.2.2.2.2 (Nat.le_of_ble_eq_true rfl) (Nat.le_of_ble_eq_true rfl)) [0, 1, 2] [0, 0, 0] rfl rfl (ci := 1) (qc := (RX1, TX1, 11)) rfl rfl (List.mem_flatten.mpr ⟨_, List.mem_of_getElem? (i := 0) rfl, (bCourse_mem hc).choose_spec⟩) rfl rfl hl.1 dX1_does_106 (Nat.le_of_ble_eq_true rfl) (Nat.le_of_ble_eq_true rfl) (fun r_109 b1 H locs hw G => ?_)
      refine zEx2 hw ?_
      intro wp2_105 g2_106
      refine zCu3 ?_
      intro hbs9 h_107 h_108
      clear hw
      subst hbs9
      have G : zS T A s.heap s [wc, wp2_105, z] _ _ := G
      refine lv_istore (lv' := [(4, .int r_109), (0, .ref h), (1, .int d), (2, .int x), (3, .int y)]) hx hb dX1_does_109 hl (by decide) (zLvf_h rfl) (fun ls hl => ?_)
      refine lv_goto (tgt := 117) hx hb dX1_does_111 (by decide) ?_
      refine lv_iload hx hb dX1_does_117 (lv_at hl 0 rfl) ?_
      refine lv_if_eq (tgt := 136) hx hb dX1_does_119 (by decide) (fun c_110 => ?_) (fun c_110 => ?_)
      · have c_110n : r_109.toInt = (0 : Int) := (fa_eq _ _).mp c_110
        have hs := (h_108 fw v0 v1).resolve_left (fun q8 => by have e8 : r_109.toInt = 1 := (by rw [q8.1]; rfl); omega)
        refine lv_iload hx hb dX1_does_136 (lv_at hl 0 rfl) ?_
        exact z_back hQz_ (z_zret C hr hlocks G (Nat.le_of_ble_eq_true rfl) (Nat.le_of_ble_eq_true rfl) dX1_does_138 (by rcases h_108 fw v0 v1 with q | q <;> rw [q.1] <;> rfl) ⟨wc, fw, v0, v1, v2, v3, v4, v5, v6, v7, wp2_105, f1, g2_106, st, wh, rfl, hc, h_107, hP, (Or.inr ⟨hs.1, (zDe_k5 (by omega)).trans hs.2.1, rfl, hs.2.2, rfl, rfl, rfl, rfl⟩), rfl, (fun q8 => absurd (hs.1.symm.trans q8) (by decide)), (fun _ => ⟨rfl, rfl, rfl, rfl⟩)⟩)
      · have c_110n : ¬ r_109.toInt = (0 : Int) := fun q => c_110 ((fa_eq _ _).mpr q)
        have hs := (h_108 fw v0 v1).resolve_right (fun q8 => by have e8 : r_109.toInt = 0 := (by rw [q8.1]; rfl); omega)
        refine lv_aload_n hx hb dX1_does_122 rfl (lv_at hl 1 rfl) ?_
        refine lv_dup hx hb dX1_does_123 rfl ?_
        refine zEx1 hc ?_
        intro a1_111 hbs9
        clear hc
        subst hbs9
        have G : zS T A s.heap s [[zO1 h po a1_111 v0 la v1 v2 v3 v4 v5 v6 v7], [zAr T 0 a1_111 7 fw], wp2_105, z] _ _ := G.re rfl
        refine z_get C G clX1 0 rfl 5 (by decide) m_fl_RX1_41 rfl dX1_does_124 ?_
        refine lv_iconst (v := 1) hx hb dX1_does_127 (by decide) ?_
        refine lv_iadd hx hb dX1_does_128 ?_
        refine z_put C G clX1 0 rfl 5 (by decide) m_fl_RX1_41 rfl rfl rfl (Nat.le_of_ble_eq_true rfl) dX1_does_129 (fun H locs G => ?_)
        have G : zS T A s.heap s [[zO1 h po a1_111 v0 la v1 (v2 + 1) v3 v4 v5 v6 v7], [zAr T 0 a1_111 7 fw], wp2_105, z] _ _ := G
        refine lv_aload_n hx hb dX1_does_132 rfl (lv_at hl 1 rfl) ?_
        have hw_112 : bCourse T h po la fw v0 v1 (v2 + 1) v3 v4 v5 v6 v7 [zO1 h po a1_111 v0 la v1 (v2 + 1) v3 v4 v5 v6 v7, zAr T 0 a1_111 7 fw] := ⟨a1_111, rfl⟩
        have G : zS T A s.heap s [[zO1 h po a1_111 v0 la v1 (v2 + 1) v3 v4 v5 v6 v7, zAr T 0 a1_111 7 fw], wp2_105, z] _ _ := G.re rfl
        refine z_Vv (bc := [[zO1 h po a1_111 v0 la v1 (v2 + 1) v3 v4 v5 v6 v7, zAr T 0 a1_111 7 fw], z]) (br := [wp2_105]) (As := []) (rest := []) C G (c_x_lookAtCrowd l T h po la fw v0 v1 (v2 + 1) v3 v4 v5 v6 v7 ([zO1 h po a1_111 v0 la v1 (v2 + 1) v3 v4 v5 v6 v7, zAr T 0 a1_111 7 fw]) cr inn k1 k2 k3 k4 z hw_112 hz (by first | with_reducible assumption | with_reducible rfl | omega | assumption | rfl)) (kV_RX1_56 C.2.2.2.2 (Nat.le_of_ble_eq_true rfl) (Nat.le_of_ble_eq_true rfl)) [0, 2] [0, 1] rfl rfl (ci := 1) (qc := (RX1, TX1, 11)) rfl rfl (List.mem_flatten.mpr ⟨_, List.mem_of_getElem? (i := 0) rfl, (bCourse_mem hw_112).choose_spec⟩) rfl rfl hl.1 dX1_does_133 (Nat.le_of_ble_eq_true rfl) (Nat.le_of_ble_eq_true rfl) (fun b1 H locs hw G => ?_)
        refine zEx2 hw ?_
        intro wc2_113 u6_114
        refine zCu3 ?_
        intro hbs9 h_115 h_116
        clear hw
        subst hbs9
        have G : zS T A s.heap s [wp2_105, wc2_113, z] _ _ := G
        refine lv_iload hx hb dX1_does_136 (lv_at hl 0 rfl) ?_
        have G := G.sub (bs' := [wc2_113, wp2_105, z]) [1, 0, 2] rfl
        exact z_back hQz_ (z_zret C hr hlocks G (Nat.le_of_ble_eq_true rfl) (Nat.le_of_ble_eq_true rfl) dX1_does_138 (by rcases h_108 fw v0 v1 with q | q <;> rw [q.1] <;> rfl) ⟨wc2_113, fw, v0, v1, (v2 + 1), v3, v4, v5, u6_114, v7, wp2_105, f1, g2_106, st, wh, rfl, h_115, h_107, hP, (Or.inl ⟨hs.1, (zDe_k5 (by omega)).trans hs.2, rfl⟩), rfl, (fun _ => by rw [zXe_o ⟨by omega, by omega⟩, h_116]), (fun q8 => absurd (hs.1.symm.trans q8) (by decide))⟩)
